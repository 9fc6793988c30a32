set_option maxHeartbeats 40000000 in
set_option maxRecDepth 100000 in
theorem m_X4_near (l : Launch) (dC : Nat → ClassId) (dI : Nat → Nat → Nat) (h0 : Nat) (R : Nat → Nat) (C : Nat → ClassId) (I : Nat → Int32) (F : Nat → Nat → Int32) (ns : Nat) (a1 : Int32) (a2 : Int32) (sz : Nat) (hns : I 2 = nI ns) (hbn : ns ≤ 8) : Met l yX4_near wsX4_near ({ frames := 1, cells := 0, slots := 0, locals := 23 }) (va_Pc [.ref h0, .int a1, .int a2] (pzPre (dC, dI) vwCl (gW h0 R C I F) (gT C) sz)) (va_Qi (fun (r : Int32) (_ : Unit) => (∃ s, s < ns ∧ gBit a1 s) → ∃ q, q < ns ∧ r = nI q) (fun _ _ => True) (va_A [] sz)) 0 0 (va_A [] sz) := by
  refine Met.ofW (cc := cX4_near) (maxL := 5) (ret := (some .int)) (by decide) rfl ?_
  intro p e s m args below meth c s₁ B hml hv
  obtain ⟨rfl, hsz, hP, hK, hD0⟩ := hv
  have hx := B.exec
  have hb := B.bytes
  have hr := B.returns
  have hts := atoms_spec (ws := wsX4_near) B.pre
  have hown : s.vm.findClass RX4 = some m.cls := findClass_of_methodNamed B.named
  have hlocks := B.notSynchronized
  subst hsz
  have hA : ∀ q : Nat, s.heap.size ≤ q → va_A [] s.heap.size q := fun q h => Or.inr h
  have hD := hD0
  generalize va_A [] s.heap.size = A at hA ⊢
  have hS : va_S A s.heap s.heap [] := va_S.rf
  have hP : va_P (dC, dI) vwCl (gW h0 R C I F) s.heap := hP
  have hnsI : (nI ns).toInt = (ns : Int) := nI_toInt (by omega)
  have hl := lv_entry ([.ref h0, .int a1, .int a2]) (n := 5) (Nat.le_of_ble_eq_true rfl)
  rw [lg_entry_eq]
  generalize (lg_sl ([.ref h0, .int a1, .int a2]) ++ List.replicate (5 - (lg_sl ([.ref h0, .int a1, .int a2])).length) Slot.unset).toArray = ls at hl ⊢
  have hl : lv_has ls 5 [(0, .ref h0), (1, .int a1), (2, .int a2)] := hl
  refine lv_iconst (v := 0) hx hb dX4_near_0 (by decide) ?_
  refine lv_istore_n (lv' := [(3, .int 0), (0, .ref h0), (1, .int a1), (2, .int a2)]) hx hb dX4_near_1 rfl hl (by decide) rfl (fun ls hl => ?_)
  refine lv_iconst (v := 0) hx hb dX4_near_2 (by decide) ?_
  refine lv_istore (lv' := [(4, .int 0), (3, .int 0), (0, .ref h0), (1, .int a1), (2, .int a2)]) hx hb dX4_near_3 hl (by decide) rfl (fun ls hl => ?_)
  have loop_L5 : ∀ (k j_L5 : Nat) (b2 : Int32) (H : Heap) (locs : List Loc) (ls : Array Slot), j_L5 + k = ns → gMay b2 j_L5 → va_P (dC, dI) vwCl (gW h0 R C I F) H → va_S A s.heap H locs → lv_has ls 5 [(4, .int (nI j_L5)), (3, .int b2), (0, .ref h0), (1, .int a1), (2, .int a2)] → W p l e (headSpec wsX4_near { frames := 1, cells := 0, slots := 0, locals := 23 }).room s m ([.ref h0, .int a1, .int a2] : List Value).toArray below meth c H locs 0 0 (MQ below (va_Qi (fun (r : Int32) (_ : Unit) => (∃ s, s < ns ∧ gBit a1 s) → ∃ q, q < ns ∧ r = nI q) (fun _ _ => True) A) ([.ref h0, .int a1, .int a2] : List Value).toArray s 0 0 A) (F0 m 5 ls []) := by
    intro k
    induction k with
    | zero =>
      intro j_L5 b2 H locs ls hj_L5 hinv hP hS hl
      refine lv_iload hx hb dX4_near_5 (lv_at hl 0 rfl) ?_
      refine lv_aload_n hx hb dX4_near_7 rfl (lv_at hl 2 rfl) ?_
      refine va_get (D := (dC, dI)) (ci := 5) (v := .int (I 2)) (C := RX4) (T := TX4) (N := 43) hx hb hts (fun _ h => List.mem_cons_of_mem _ (List.mem_append_right _ h)) hown hK hP 0 rfl rfl 2 (by decide) (hts (.fieldLink RX4 114 "FrontDoorModel" "servers" "I") (by decide +kernel)) (fun _ h9 => h9) rfl dX4_near_8 ?_
      refine lv_topi (fun x_1 ex_1 => ?_)
      obtain rfl : x_1 = (nI ns) := ex_1.trans hns
      refine lv_icmp_ge (tgt := 50) hx hb dX4_near_11 (by decide) (fun c_2 => ?_) (fun c_2 => absurd (nI_le (by omega) (by omega)) c_2)
      refine lv_aload_n hx hb dX4_near_50 rfl (lv_at hl 2 rfl) ?_
      refine lv_iload_n hx hb dX4_near_51 rfl (lv_at hl 1 rfl) ?_
      refine lv_if_eq (tgt := 59) hx hb dX4_near_52 (by decide) (fun c_3 => ?_) (fun c_3 => ?_)
      · skip
        have i_3 : b2.toInt = 0 := by have h9 := pz_eq c_3; exact h9
        refine lv_iload_n hx hb dX4_near_59 rfl (lv_at hl 3 rfl) ?_
        have hPc := hP.sub (ws' := (gW h0 R C I F)) [0, 1, 2, 3, 4, 5, 6, 7, 8, 9, 10, 11, 12, 13, 14, 15, 16, 17, 18, 19, 20, 21, 22, 23, 24, 25, 26, 27, 28, 29, 30, 31, 32] rfl
        have hDc := hD.sub (ws' := (gW h0 R C I F)) [0, 1, 2, 3, 4, 5, 6, 7, 8, 9, 10, 11, 12, 13, 14, 15, 16, 17, 18, 19, 20, 21, 22, 23, 24, 25, 26, 27, 28, 29, 30, 31, 32] (by decide) rfl
        have hKc := hK.sub (tys' := (gT C)) [0, 1, 2, 3, 4, 5, 6, 7, 8, 9, 10, 11, 12, 13, 14, 15, 16, 17, 18, 19, 20, 21, 22, 23, 24, 25, 26, 27, 28, 29, 30, 31] rfl
        have hFc := pz_f hA hS
        refine va_calli (va_runV (As := [.int a1]) (rest := []) ⟨hx, hb, hml, hown, hts⟩ (m_X4_fewest l dC dI h0 R C I F ns a1 H.size hns hbn) (cwV 1 hts gX4_near_X4_fewest rfl rfl rfl (by decide +kernel) ⟨Nat.le_of_ble_eq_true rfl, Nat.le_of_ble_eq_true rfl⟩) ⟨pz_blind, va_recv hKc hPc (ci := 5) (q0 := 0) rfl rfl, fun U hU hW => ⟨rfl, pz_at hPc hKc hDc hU hW⟩⟩ rfl rfl hl.1 rfl (lv_room (Nat.le_of_ble_eq_true rfl)) dX4_near_60 ⟨Nat.le_of_ble_eq_true rfl, Nat.le_of_ble_eq_true rfl⟩) hS (fun q _ h => hFc q h) hFc (fun r_4 u t H locs ht hvm hw hB hz1 hk1 hS => ?_)
        have hP := pz_keep hP hk1
        exact W.iret (v := r_4) hx hb hr (fun t ht hW => ⟨⟨r_4, (), rfl, (fun h8 => hw (by first | exact h8 | exact (hinv.resolve_left (by assumption)).elim (fun s7 h7 => ⟨s7, by omega, h7.2⟩))), trivial⟩, hS.F ht⟩) hS.2.2 dX4_near_63
      · skip
        have i_3 : ¬ b2.toInt = 0 := by have h9 := pz_neq c_3; exact h9
        refine lv_iload_n hx hb dX4_near_55 rfl (lv_at hl 1 rfl) ?_
        refine lv_goto (tgt := 60) hx hb dX4_near_56 (by decide) ?_
        have hPc := hP.sub (ws' := (gW h0 R C I F)) [0, 1, 2, 3, 4, 5, 6, 7, 8, 9, 10, 11, 12, 13, 14, 15, 16, 17, 18, 19, 20, 21, 22, 23, 24, 25, 26, 27, 28, 29, 30, 31, 32] rfl
        have hDc := hD.sub (ws' := (gW h0 R C I F)) [0, 1, 2, 3, 4, 5, 6, 7, 8, 9, 10, 11, 12, 13, 14, 15, 16, 17, 18, 19, 20, 21, 22, 23, 24, 25, 26, 27, 28, 29, 30, 31, 32] (by decide) rfl
        have hKc := hK.sub (tys' := (gT C)) [0, 1, 2, 3, 4, 5, 6, 7, 8, 9, 10, 11, 12, 13, 14, 15, 16, 17, 18, 19, 20, 21, 22, 23, 24, 25, 26, 27, 28, 29, 30, 31] rfl
        have hFc := pz_f hA hS
        refine va_calli (va_runV (As := [.int b2]) (rest := []) ⟨hx, hb, hml, hown, hts⟩ (m_X4_fewest l dC dI h0 R C I F ns b2 H.size hns hbn) (cwV 1 hts gX4_near_X4_fewest rfl rfl rfl (by decide +kernel) ⟨Nat.le_of_ble_eq_true rfl, Nat.le_of_ble_eq_true rfl⟩) ⟨pz_blind, va_recv hKc hPc (ci := 5) (q0 := 0) rfl rfl, fun U hU hW => ⟨rfl, pz_at hPc hKc hDc hU hW⟩⟩ rfl rfl hl.1 rfl (lv_room (Nat.le_of_ble_eq_true rfl)) dX4_near_60 ⟨Nat.le_of_ble_eq_true rfl, Nat.le_of_ble_eq_true rfl⟩) hS (fun q _ h => hFc q h) hFc (fun r_5 u t H locs ht hvm hw hB hz1 hk1 hS => ?_)
        have hP := pz_keep hP hk1
        exact W.iret (v := r_5) hx hb hr (fun t ht hW => ⟨⟨r_5, (), rfl, (fun h8 => hw (by first | exact h8 | exact (hinv.resolve_left (by assumption)).elim (fun s7 h7 => ⟨s7, by omega, h7.2⟩))), trivial⟩, hS.F ht⟩) hS.2.2 dX4_near_63
    | succ k ih_L5 =>
      intro j_L5 b2 H locs ls hj_L5 hinv hP hS hl
      refine lv_iload hx hb dX4_near_5 (lv_at hl 0 rfl) ?_
      refine lv_aload_n hx hb dX4_near_7 rfl (lv_at hl 2 rfl) ?_
      refine va_get (D := (dC, dI)) (ci := 5) (v := .int (I 2)) (C := RX4) (T := TX4) (N := 43) hx hb hts (fun _ h => List.mem_cons_of_mem _ (List.mem_append_right _ h)) hown hK hP 0 rfl rfl 2 (by decide) (hts (.fieldLink RX4 114 "FrontDoorModel" "servers" "I") (by decide +kernel)) (fun _ h9 => h9) rfl dX4_near_8 ?_
      refine lv_topi (fun x_6 ex_6 => ?_)
      obtain rfl : x_6 = (nI ns) := ex_6.trans hns
      refine lv_icmp_ge (tgt := 50) hx hb dX4_near_11 (by decide) (fun c_7 => absurd c_7 (nI_ge (by omega) (by omega))) (fun c_7 => ?_)
      refine lv_iload_n hx hb dX4_near_14 rfl (lv_at hl 3 rfl) ?_
      refine lv_iload hx hb dX4_near_15 (lv_at hl 0 rfl) ?_
      refine lv_ishr hx hb dX4_near_17 ?_
      refine lv_topi (fun x_8 ex_8 => ?_)
      refine lv_iconst (v := 1) hx hb dX4_near_18 (by decide) ?_
      refine lv_iand hx hb dX4_near_19 ?_
      refine lv_topi (fun x_9 ex_9 => ?_)
      refine lv_iconst (v := 1) hx hb dX4_near_20 (by decide) ?_
      refine lv_icmp_ne (tgt := 44) hx hb dX4_near_21 (by decide) (fun c_10 => ?_) (fun c_10 => ?_)
      · skip
        have i_10 : ¬ x_9.toInt = 1 := by have h9 := pz_neq c_10; exact h9
        obtain ⟨y_11, ey_11⟩ : ∃ y : Int32, y = (nI j_L5) + 1 := ⟨_, rfl⟩
        refine lv_iinc (v := y_11) (lv' := [(4, .int y_11), (3, .int b2), (0, .ref h0), (1, .int a1), (2, .int a2)]) hx hb dX4_near_44 hl (k := 0) rfl (by rw [ey_11]; rfl) (by decide) rfl (fun ls hl => ?_)
        refine lv_goto (tgt := 5) hx hb dX4_near_47 (by decide) ?_
        have e9 : y_11 = nI (j_L5 + 1) := ey_11.trans (nI_1 j_L5)
        subst e9
        exact ih_L5 (j_L5 + 1) (b2) _ _ ls (by omega) (by first | exact gMay_up hinv | (subst_vars; exact gMay_or (by omega))) hP hS (lv_sub hl [0, 1, 2, 3, 4] rfl)
      · skip
        have i_10 : x_9.toInt = 1 := by have h9 := pz_eq c_10; exact h9
        refine lv_aload_n hx hb dX4_near_24 rfl (lv_at hl 2 rfl) ?_
        refine va_get (D := (dC, dI)) (ci := 5) (v := .ref (R 12)) (C := RX4) (T := TX4) (N := 43) hx hb hts (fun _ h => List.mem_cons_of_mem _ (List.mem_append_right _ h)) hown hK hP 0 rfl rfl 12 (by decide) (hts (.fieldLink RX4 23 "FrontDoorModel" "zone" "[I") (by decide +kernel)) (fun _ h9 => h9) rfl dX4_near_25 ?_
        refine lv_iload hx hb dX4_near_28 (lv_at hl 0 rfl) ?_
        refine va_iald hx hb hK hP 3 2 rfl rfl (vp_in_nI (by omega) (by decide)) dX4_near_30 ?_
        refine lv_topi (fun x_12 ex_12 => ?_)
        replace ex_12 : x_12 = (F 12) (Int32.toNatClampNeg (nI j_L5)) := ex_12
        refine lv_iload_n hx hb dX4_near_31 rfl (lv_at hl 4 rfl) ?_
        refine lv_iconst (v := 4) hx hb dX4_near_32 (by decide) ?_
        refine lv_irem hx hb dX4_near_33 (by decide) ?_
        refine lv_topi (fun x_13 ex_13 => ?_)
        refine lv_icmp_ne (tgt := 44) hx hb dX4_near_34 (by decide) (fun c_14 => ?_) (fun c_14 => ?_)
        · skip
          have i_14 : ¬ x_12.toInt = x_13.toInt := by have h9 := pz_neq c_14; exact h9
          obtain ⟨y_15, ey_15⟩ : ∃ y : Int32, y = (nI j_L5) + 1 := ⟨_, rfl⟩
          refine lv_iinc (v := y_15) (lv' := [(4, .int y_15), (3, .int b2), (0, .ref h0), (1, .int a1), (2, .int a2)]) hx hb dX4_near_44 hl (k := 0) rfl (by rw [ey_15]; rfl) (by decide) rfl (fun ls hl => ?_)
          refine lv_goto (tgt := 5) hx hb dX4_near_47 (by decide) ?_
          have e9 : y_15 = nI (j_L5 + 1) := ey_15.trans (nI_1 j_L5)
          subst e9
          exact ih_L5 (j_L5 + 1) (b2) _ _ ls (by omega) (by first | exact gMay_up hinv | (subst_vars; exact gMay_or (by omega))) hP hS (lv_sub hl [0, 1, 2, 3, 4] rfl)
        · skip
          have i_14 : x_12.toInt = x_13.toInt := by have h9 := pz_eq c_14; exact h9
          refine lv_iload_n hx hb dX4_near_37 rfl (lv_at hl 1 rfl) ?_
          refine lv_iconst (v := 1) hx hb dX4_near_38 (by decide) ?_
          refine lv_iload hx hb dX4_near_39 (lv_at hl 0 rfl) ?_
          refine lv_ishl hx hb dX4_near_41 ?_
          refine lv_topi (fun x_16 ex_16 => ?_)
          refine lv_ior hx hb dX4_near_42 ?_
          refine lv_topi (fun x_17 ex_17 => ?_)
          refine lv_istore_n (lv' := [(3, .int x_17), (4, .int (nI j_L5)), (0, .ref h0), (1, .int a1), (2, .int a2)]) hx hb dX4_near_43 rfl hl (by decide) rfl (fun ls hl => ?_)
          obtain ⟨y_18, ey_18⟩ : ∃ y : Int32, y = (nI j_L5) + 1 := ⟨_, rfl⟩
          refine lv_iinc (v := y_18) (lv' := [(4, .int y_18), (3, .int x_17), (0, .ref h0), (1, .int a1), (2, .int a2)]) hx hb dX4_near_44 hl (k := 1) rfl (by rw [ey_18]; rfl) (by decide) rfl (fun ls hl => ?_)
          refine lv_goto (tgt := 5) hx hb dX4_near_47 (by decide) ?_
          have e9 : y_18 = nI (j_L5 + 1) := ey_18.trans (nI_1 j_L5)
          subst e9
          exact ih_L5 (j_L5 + 1) (x_17) _ _ ls (by omega) (by first | exact gMay_up hinv | (subst_vars; exact gMay_or (by omega))) hP hS (lv_sub hl [0, 1, 2, 3, 4] rfl)
  exact loop_L5 ns 0 (0) _ _ ls (by omega) (gMay_0 0) hP hS hl
