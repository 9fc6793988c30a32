set_option maxHeartbeats 40000000 in
set_option maxRecDepth 100000 in
theorem m_X4_inState (l : Launch) (dC : Nat → ClassId) (dI : Nat → Nat → Nat) (h0 : Nat) (R : Nat → Nat) (C : Nat → ClassId) (I : Nat → Int32) (F : Nat → Nat → Int32) (nc : Nat) (a1 : Int32) (sz : Nat) (hnc : I 3 = nI nc) (hbc : nc ≤ 200) : Met l yX4_inState wsX4_inState ({ frames := 0, cells := 0, slots := 0, locals := 0 }) (va_Pc [.ref h0, .int a1] (pzPre (dC, dI) vwCl (gW h0 R C I F) (gT C) sz)) (va_Qi (fun (r : Int32) (_ : Unit) => True) (fun _ _ => True) (va_A [] sz)) 0 0 (va_A [] sz) := by
  refine Met.ofW (cc := cX4_inState) (maxL := 4) (ret := (some .int)) (by decide) rfl ?_
  intro p e s m args below meth c s₁ B hml hv
  obtain ⟨rfl, hsz, hP, hK, hD0⟩ := hv
  have hx := B.exec
  have hb := B.bytes
  have hr := B.returns
  have hts := atoms_spec (ws := wsX4_inState) B.pre
  have hown : s.vm.findClass RX4 = some m.cls := findClass_of_methodNamed B.named
  have hlocks := B.notSynchronized
  subst hsz
  have hA : ∀ q : Nat, s.heap.size ≤ q → va_A [] s.heap.size q := fun q h => Or.inr h
  have hD := hD0
  generalize va_A [] s.heap.size = A at hA ⊢
  have hS : va_S A s.heap s.heap [] := va_S.rf
  have hP : va_P (dC, dI) vwCl (gW h0 R C I F) s.heap := hP
  have hncI : (nI nc).toInt = (nc : Int) := nI_toInt (by omega)
  have hl := lv_entry ([.ref h0, .int a1]) (n := 4) (Nat.le_of_ble_eq_true rfl)
  rw [lg_entry_eq]
  generalize (lg_sl ([.ref h0, .int a1]) ++ List.replicate (4 - (lg_sl ([.ref h0, .int a1])).length) Slot.unset).toArray = ls at hl ⊢
  have hl : lv_has ls 4 [(0, .ref h0), (1, .int a1)] := hl
  refine lv_iconst (v := 0) hx hb dX4_inState_0 (by decide) ?_
  refine lv_istore_n (lv' := [(2, .int 0), (0, .ref h0), (1, .int a1)]) hx hb dX4_inState_1 rfl hl (by decide) rfl (fun ls hl => ?_)
  refine lv_iconst (v := 0) hx hb dX4_inState_2 (by decide) ?_
  refine lv_istore_n (lv' := [(3, .int 0), (2, .int 0), (0, .ref h0), (1, .int a1)]) hx hb dX4_inState_3 rfl hl (by decide) rfl (fun ls hl => ?_)
  have loop_L4 : ∀ (k j_L4 : Nat) (n2 : Int32) (H : Heap) (locs : List Loc) (ls : Array Slot), j_L4 + k = nc → va_P (dC, dI) vwCl (gW h0 R C I F) H → va_S A s.heap H locs → lv_has ls 4 [(3, .int (nI j_L4)), (2, .int n2), (0, .ref h0), (1, .int a1)] → W p l e (headSpec wsX4_inState { frames := 0, cells := 0, slots := 0, locals := 0 }).room s m ([.ref h0, .int a1] : List Value).toArray below meth c H locs 0 0 (MQ below (va_Qi (fun (r : Int32) (_ : Unit) => True) (fun _ _ => True) A) ([.ref h0, .int a1] : List Value).toArray s 0 0 A) (F0 m 4 ls []) := by
    intro k
    induction k with
    | zero =>
      intro j_L4 n2 H locs ls hj_L4 hP hS hl
      refine lv_iload_n hx hb dX4_inState_4 rfl (lv_at hl 0 rfl) ?_
      refine lv_aload_n hx hb dX4_inState_5 rfl (lv_at hl 2 rfl) ?_
      refine va_get (D := (dC, dI)) (ci := 5) (v := .int (I 3)) (C := RX4) (T := TX4) (N := 43) hx hb hts (fun _ h => List.mem_cons_of_mem _ (List.mem_append_right _ h)) hown hK hP 0 rfl rfl 3 (by decide) (hts (.fieldLink RX4 121 "FrontDoorModel" "calls" "I") (by decide +kernel)) (fun _ h9 => h9) rfl dX4_inState_6 ?_
      refine lv_topi (fun x_1 ex_1 => ?_)
      obtain rfl : x_1 = (nI nc) := ex_1.trans hnc
      refine lv_icmp_ge (tgt := 36) hx hb dX4_inState_9 (by decide) (fun c_2 => ?_) (fun c_2 => absurd (nI_le (by omega) (by omega)) c_2)
      refine lv_iload_n hx hb dX4_inState_36 rfl (lv_at hl 1 rfl) ?_
      exact W.iret (v := n2) hx hb hr (fun t ht hW => ⟨⟨n2, (), rfl, trivial, trivial⟩, hS.F ht⟩) hS.2.2 dX4_inState_37
    | succ k ih_L4 =>
      intro j_L4 n2 H locs ls hj_L4 hP hS hl
      refine lv_iload_n hx hb dX4_inState_4 rfl (lv_at hl 0 rfl) ?_
      refine lv_aload_n hx hb dX4_inState_5 rfl (lv_at hl 2 rfl) ?_
      refine va_get (D := (dC, dI)) (ci := 5) (v := .int (I 3)) (C := RX4) (T := TX4) (N := 43) hx hb hts (fun _ h => List.mem_cons_of_mem _ (List.mem_append_right _ h)) hown hK hP 0 rfl rfl 3 (by decide) (hts (.fieldLink RX4 121 "FrontDoorModel" "calls" "I") (by decide +kernel)) (fun _ h9 => h9) rfl dX4_inState_6 ?_
      refine lv_topi (fun x_3 ex_3 => ?_)
      obtain rfl : x_3 = (nI nc) := ex_3.trans hnc
      refine lv_icmp_ge (tgt := 36) hx hb dX4_inState_9 (by decide) (fun c_4 => absurd c_4 (nI_ge (by omega) (by omega))) (fun c_4 => ?_)
      refine lv_iload_n hx hb dX4_inState_12 rfl (lv_at hl 1 rfl) ?_
      refine lv_aload_n hx hb dX4_inState_13 rfl (lv_at hl 2 rfl) ?_
      refine va_get (D := (dC, dI)) (ci := 5) (v := .ref (R 30)) (C := RX4) (T := TX4) (N := 43) hx hb hts (fun _ h => List.mem_cons_of_mem _ (List.mem_append_right _ h)) hown hK hP 0 rfl rfl 30 (by decide) (hts (.fieldLink RX4 77 "FrontDoorModel" "state" "[I") (by decide +kernel)) (fun _ h9 => h9) rfl dX4_inState_14 ?_
      refine lv_iload_n hx hb dX4_inState_17 rfl (lv_at hl 0 rfl) ?_
      refine va_iald hx hb hK hP 21 20 rfl rfl (vp_in_nI (by omega) (by decide)) dX4_inState_18 ?_
      refine lv_topi (fun x_5 ex_5 => ?_)
      replace ex_5 : x_5 = (F 30) (Int32.toNatClampNeg (nI j_L4)) := ex_5
      refine lv_iload_n hx hb dX4_inState_19 rfl (lv_at hl 3 rfl) ?_
      refine lv_icmp_ne (tgt := 27) hx hb dX4_inState_20 (by decide) (fun c_6 => ?_) (fun c_6 => ?_)
      · skip
        have i_6 : ¬ x_5.toInt = a1.toInt := by have h9 := pz_neq c_6; exact h9
        refine lv_iconst (v := 0) hx hb dX4_inState_27 (by decide) ?_
        refine lv_iadd hx hb dX4_inState_28 ?_
        refine lv_topi (fun x_7 ex_7 => ?_)
        refine lv_istore_n (lv' := [(2, .int x_7), (3, .int (nI j_L4)), (0, .ref h0), (1, .int a1)]) hx hb dX4_inState_29 rfl hl (by decide) rfl (fun ls hl => ?_)
        obtain ⟨y_8, ey_8⟩ : ∃ y : Int32, y = (nI j_L4) + 1 := ⟨_, rfl⟩
        refine lv_iinc (v := y_8) (lv' := [(3, .int y_8), (2, .int x_7), (0, .ref h0), (1, .int a1)]) hx hb dX4_inState_30 hl (k := 1) rfl (by rw [ey_8]; rfl) (by decide) rfl (fun ls hl => ?_)
        refine lv_goto (tgt := 4) hx hb dX4_inState_33 (by decide) ?_
        have e9 : y_8 = nI (j_L4 + 1) := ey_8.trans (nI_1 j_L4)
        subst e9
        exact ih_L4 (j_L4 + 1) (x_7) _ _ ls (by omega) hP hS (lv_sub hl [0, 1, 2, 3] rfl)
      · skip
        have i_6 : x_5.toInt = a1.toInt := by have h9 := pz_eq c_6; exact h9
        refine lv_iconst (v := 1) hx hb dX4_inState_23 (by decide) ?_
        refine lv_goto (tgt := 28) hx hb dX4_inState_24 (by decide) ?_
        refine lv_iadd hx hb dX4_inState_28 ?_
        refine lv_topi (fun x_9 ex_9 => ?_)
        refine lv_istore_n (lv' := [(2, .int x_9), (3, .int (nI j_L4)), (0, .ref h0), (1, .int a1)]) hx hb dX4_inState_29 rfl hl (by decide) rfl (fun ls hl => ?_)
        obtain ⟨y_10, ey_10⟩ : ∃ y : Int32, y = (nI j_L4) + 1 := ⟨_, rfl⟩
        refine lv_iinc (v := y_10) (lv' := [(3, .int y_10), (2, .int x_9), (0, .ref h0), (1, .int a1)]) hx hb dX4_inState_30 hl (k := 1) rfl (by rw [ey_10]; rfl) (by decide) rfl (fun ls hl => ?_)
        refine lv_goto (tgt := 4) hx hb dX4_inState_33 (by decide) ?_
        have e9 : y_10 = nI (j_L4 + 1) := ey_10.trans (nI_1 j_L4)
        subst e9
        exact ih_L4 (j_L4 + 1) (x_9) _ _ ls (by omega) hP hS (lv_sub hl [0, 1, 2, 3] rfl)
  exact loop_L4 nc 0 (0) _ _ ls (by omega) hP hS hl

set_option maxHeartbeats 40000000 in
set_option maxRecDepth 100000 in
theorem m_X4_outsNow (l : Launch) (dC : Nat → ClassId) (dI : Nat → Nat → Nat) (h0 : Nat) (R : Nat → Nat) (C : Nat → ClassId) (I : Nat → Int32) (F : Nat → Nat → Int32) (ns : Nat) (al : Int32) (sz : Nat) (hns : I 2 = nI ns) (hbn : ns ≤ 8) : Met l yX4_outsNow wsX4_outsNow ({ frames := 0, cells := 0, slots := 0, locals := 0 }) (va_Pc [.ref h0, .int al] (pzPre (dC, dI) vwCl (gW h0 R C I F) (gT C) sz)) (va_Qi (fun (r : Int32) (_ : Unit) => True) (fun _ _ => True) (va_A [] sz)) 0 0 (va_A [] sz) := by
  refine Met.ofW (cc := cX4_outsNow) (maxL := 4) (ret := (some .int)) (by decide) rfl ?_
  intro p e s m args below meth c s₁ B hml hv
  obtain ⟨rfl, hsz, hP, hK, hD0⟩ := hv
  have hx := B.exec
  have hb := B.bytes
  have hr := B.returns
  have hts := atoms_spec (ws := wsX4_outsNow) B.pre
  have hown : s.vm.findClass RX4 = some m.cls := findClass_of_methodNamed B.named
  have hlocks := B.notSynchronized
  subst hsz
  have hA : ∀ q : Nat, s.heap.size ≤ q → va_A [] s.heap.size q := fun q h => Or.inr h
  have hD := hD0
  generalize va_A [] s.heap.size = A at hA ⊢
  have hS : va_S A s.heap s.heap [] := va_S.rf
  have hP : va_P (dC, dI) vwCl (gW h0 R C I F) s.heap := hP
  have hnsI : (nI ns).toInt = (ns : Int) := nI_toInt (by omega)
  have hl := lv_entry ([.ref h0, .int al]) (n := 4) (Nat.le_of_ble_eq_true rfl)
  rw [lg_entry_eq]
  generalize (lg_sl ([.ref h0, .int al]) ++ List.replicate (4 - (lg_sl ([.ref h0, .int al])).length) Slot.unset).toArray = ls at hl ⊢
  have hl : lv_has ls 4 [(0, .ref h0), (1, .int al)] := hl
  refine lv_iconst (v := 0) hx hb dX4_outsNow_0 (by decide) ?_
  refine lv_istore_n (lv' := [(2, .int 0), (0, .ref h0), (1, .int al)]) hx hb dX4_outsNow_1 rfl hl (by decide) rfl (fun ls hl => ?_)
  refine lv_iconst (v := 0) hx hb dX4_outsNow_2 (by decide) ?_
  refine lv_istore_n (lv' := [(3, .int 0), (2, .int 0), (0, .ref h0), (1, .int al)]) hx hb dX4_outsNow_3 rfl hl (by decide) rfl (fun ls hl => ?_)
  have loop_L4 : ∀ (k j_L4 : Nat) (n2 : Int32) (H : Heap) (locs : List Loc) (ls : Array Slot), j_L4 + k = ns → va_P (dC, dI) vwCl (gW h0 R C I F) H → va_S A s.heap H locs → lv_has ls 4 [(3, .int (nI j_L4)), (2, .int n2), (0, .ref h0), (1, .int al)] → W p l e (headSpec wsX4_outsNow { frames := 0, cells := 0, slots := 0, locals := 0 }).room s m ([.ref h0, .int al] : List Value).toArray below meth c H locs 0 0 (MQ below (va_Qi (fun (r : Int32) (_ : Unit) => True) (fun _ _ => True) A) ([.ref h0, .int al] : List Value).toArray s 0 0 A) (F0 m 4 ls []) := by
    intro k
    induction k with
    | zero =>
      intro j_L4 n2 H locs ls hj_L4 hP hS hl
      refine lv_iload_n hx hb dX4_outsNow_4 rfl (lv_at hl 0 rfl) ?_
      refine lv_aload_n hx hb dX4_outsNow_5 rfl (lv_at hl 2 rfl) ?_
      refine va_get (D := (dC, dI)) (ci := 5) (v := .int (I 2)) (C := RX4) (T := TX4) (N := 43) hx hb hts (fun _ h => List.mem_cons_of_mem _ (List.mem_append_right _ h)) hown hK hP 0 rfl rfl 2 (by decide) (hts (.fieldLink RX4 114 "FrontDoorModel" "servers" "I") (by decide +kernel)) (fun _ h9 => h9) rfl dX4_outsNow_6 ?_
      refine lv_topi (fun x_1 ex_1 => ?_)
      obtain rfl : x_1 = (nI ns) := ex_1.trans hns
      refine lv_icmp_ge (tgt := 59) hx hb dX4_outsNow_9 (by decide) (fun c_2 => ?_) (fun c_2 => absurd (nI_le (by omega) (by omega)) c_2)
      refine lv_iload_n hx hb dX4_outsNow_59 rfl (lv_at hl 1 rfl) ?_
      exact W.iret (v := n2) hx hb hr (fun t ht hW => ⟨⟨n2, (), rfl, trivial, trivial⟩, hS.F ht⟩) hS.2.2 dX4_outsNow_60
    | succ k ih_L4 =>
      intro j_L4 n2 H locs ls hj_L4 hP hS hl
      refine lv_iload_n hx hb dX4_outsNow_4 rfl (lv_at hl 0 rfl) ?_
      refine lv_aload_n hx hb dX4_outsNow_5 rfl (lv_at hl 2 rfl) ?_
      refine va_get (D := (dC, dI)) (ci := 5) (v := .int (I 2)) (C := RX4) (T := TX4) (N := 43) hx hb hts (fun _ h => List.mem_cons_of_mem _ (List.mem_append_right _ h)) hown hK hP 0 rfl rfl 2 (by decide) (hts (.fieldLink RX4 114 "FrontDoorModel" "servers" "I") (by decide +kernel)) (fun _ h9 => h9) rfl dX4_outsNow_6 ?_
      refine lv_topi (fun x_3 ex_3 => ?_)
      obtain rfl : x_3 = (nI ns) := ex_3.trans hns
      refine lv_icmp_ge (tgt := 59) hx hb dX4_outsNow_9 (by decide) (fun c_4 => absurd c_4 (nI_ge (by omega) (by omega))) (fun c_4 => ?_)
      refine lv_iload_n hx hb dX4_outsNow_12 rfl (lv_at hl 1 rfl) ?_
      refine lv_aload_n hx hb dX4_outsNow_13 rfl (lv_at hl 2 rfl) ?_
      refine va_get (D := (dC, dI)) (ci := 5) (v := .ref (R 17)) (C := RX4) (T := TX4) (N := 43) hx hb hts (fun _ h => List.mem_cons_of_mem _ (List.mem_append_right _ h)) hown hK hP 0 rfl rfl 17 (by decide) (hts (.fieldLink RX4 38 "FrontDoorModel" "health" "[I") (by decide +kernel)) (fun _ h9 => h9) rfl dX4_outsNow_14 ?_
      refine lv_iload_n hx hb dX4_outsNow_17 rfl (lv_at hl 0 rfl) ?_
      refine va_iald hx hb hK hP 8 7 rfl rfl (vp_in_nI (by omega) (by decide)) dX4_outsNow_18 ?_
      refine lv_topi (fun x_5 ex_5 => ?_)
      replace ex_5 : x_5 = (F 17) (Int32.toNatClampNeg (nI j_L4)) := ex_5
      refine lv_iconst (v := 1) hx hb dX4_outsNow_19 (by decide) ?_
      refine lv_icmp_eq (tgt := 46) hx hb dX4_outsNow_20 (by decide) (fun c_6 => ?_) (fun c_6 => ?_)
      · skip
        have i_6 : x_5.toInt = 1 := by have h9 := pz_eq c_6; exact h9
        refine lv_iconst (v := 1) hx hb dX4_outsNow_46 (by decide) ?_
        refine lv_goto (tgt := 51) hx hb dX4_outsNow_47 (by decide) ?_
        refine lv_iadd hx hb dX4_outsNow_51 ?_
        refine lv_topi (fun x_7 ex_7 => ?_)
        refine lv_istore_n (lv' := [(2, .int x_7), (3, .int (nI j_L4)), (0, .ref h0), (1, .int al)]) hx hb dX4_outsNow_52 rfl hl (by decide) rfl (fun ls hl => ?_)
        obtain ⟨y_8, ey_8⟩ : ∃ y : Int32, y = (nI j_L4) + 1 := ⟨_, rfl⟩
        refine lv_iinc (v := y_8) (lv' := [(3, .int y_8), (2, .int x_7), (0, .ref h0), (1, .int al)]) hx hb dX4_outsNow_53 hl (k := 1) rfl (by rw [ey_8]; rfl) (by decide) rfl (fun ls hl => ?_)
        refine lv_goto (tgt := 4) hx hb dX4_outsNow_56 (by decide) ?_
        have e9 : y_8 = nI (j_L4 + 1) := ey_8.trans (nI_1 j_L4)
        subst e9
        exact ih_L4 (j_L4 + 1) (x_7) _ _ ls (by omega) hP hS (lv_sub hl [0, 1, 2, 3] rfl)
      · skip
        have i_6 : ¬ x_5.toInt = 1 := by have h9 := pz_neq c_6; exact h9
        refine lv_iload_n hx hb dX4_outsNow_23 rfl (lv_at hl 3 rfl) ?_
        refine lv_if_eq (tgt := 50) hx hb dX4_outsNow_24 (by decide) (fun c_9 => ?_) (fun c_9 => ?_)
        · skip
          have i_9 : al.toInt = 0 := by have h9 := pz_eq c_9; exact h9
          refine lv_iconst (v := 0) hx hb dX4_outsNow_50 (by decide) ?_
          refine lv_iadd hx hb dX4_outsNow_51 ?_
          refine lv_topi (fun x_10 ex_10 => ?_)
          refine lv_istore_n (lv' := [(2, .int x_10), (3, .int (nI j_L4)), (0, .ref h0), (1, .int al)]) hx hb dX4_outsNow_52 rfl hl (by decide) rfl (fun ls hl => ?_)
          obtain ⟨y_11, ey_11⟩ : ∃ y : Int32, y = (nI j_L4) + 1 := ⟨_, rfl⟩
          refine lv_iinc (v := y_11) (lv' := [(3, .int y_11), (2, .int x_10), (0, .ref h0), (1, .int al)]) hx hb dX4_outsNow_53 hl (k := 1) rfl (by rw [ey_11]; rfl) (by decide) rfl (fun ls hl => ?_)
          refine lv_goto (tgt := 4) hx hb dX4_outsNow_56 (by decide) ?_
          have e9 : y_11 = nI (j_L4 + 1) := ey_11.trans (nI_1 j_L4)
          subst e9
          exact ih_L4 (j_L4 + 1) (x_10) _ _ ls (by omega) hP hS (lv_sub hl [0, 1, 2, 3] rfl)
        · skip
          have i_9 : ¬ al.toInt = 0 := by have h9 := pz_neq c_9; exact h9
          refine lv_aload_n hx hb dX4_outsNow_27 rfl (lv_at hl 2 rfl) ?_
          refine va_get (D := (dC, dI)) (ci := 5) (v := .ref (R 17)) (C := RX4) (T := TX4) (N := 43) hx hb hts (fun _ h => List.mem_cons_of_mem _ (List.mem_append_right _ h)) hown hK hP 0 rfl rfl 17 (by decide) (hts (.fieldLink RX4 38 "FrontDoorModel" "health" "[I") (by decide +kernel)) (fun _ h9 => h9) rfl dX4_outsNow_28 ?_
          refine lv_iload_n hx hb dX4_outsNow_31 rfl (lv_at hl 0 rfl) ?_
          refine va_iald hx hb hK hP 8 7 rfl rfl (vp_in_nI (by omega) (by decide)) dX4_outsNow_32 ?_
          refine lv_topi (fun x_12 ex_12 => ?_)
          replace ex_12 : x_12 = (F 17) (Int32.toNatClampNeg (nI j_L4)) := ex_12
          refine lv_if_eq (tgt := 46) hx hb dX4_outsNow_33 (by decide) (fun c_13 => ?_) (fun c_13 => ?_)
          · skip
            have i_13 : x_12.toInt = 0 := by have h9 := pz_eq c_13; exact h9
            refine lv_iconst (v := 1) hx hb dX4_outsNow_46 (by decide) ?_
            refine lv_goto (tgt := 51) hx hb dX4_outsNow_47 (by decide) ?_
            refine lv_iadd hx hb dX4_outsNow_51 ?_
            refine lv_topi (fun x_14 ex_14 => ?_)
            refine lv_istore_n (lv' := [(2, .int x_14), (3, .int (nI j_L4)), (0, .ref h0), (1, .int al)]) hx hb dX4_outsNow_52 rfl hl (by decide) rfl (fun ls hl => ?_)
            obtain ⟨y_15, ey_15⟩ : ∃ y : Int32, y = (nI j_L4) + 1 := ⟨_, rfl⟩
            refine lv_iinc (v := y_15) (lv' := [(3, .int y_15), (2, .int x_14), (0, .ref h0), (1, .int al)]) hx hb dX4_outsNow_53 hl (k := 1) rfl (by rw [ey_15]; rfl) (by decide) rfl (fun ls hl => ?_)
            refine lv_goto (tgt := 4) hx hb dX4_outsNow_56 (by decide) ?_
            have e9 : y_15 = nI (j_L4 + 1) := ey_15.trans (nI_1 j_L4)
            subst e9
            exact ih_L4 (j_L4 + 1) (x_14) _ _ ls (by omega) hP hS (lv_sub hl [0, 1, 2, 3] rfl)
          · skip
            have i_13 : ¬ x_12.toInt = 0 := by have h9 := pz_neq c_13; exact h9
            refine lv_aload_n hx hb dX4_outsNow_36 rfl (lv_at hl 2 rfl) ?_
            refine va_get (D := (dC, dI)) (ci := 5) (v := .ref (R 17)) (C := RX4) (T := TX4) (N := 43) hx hb hts (fun _ h => List.mem_cons_of_mem _ (List.mem_append_right _ h)) hown hK hP 0 rfl rfl 17 (by decide) (hts (.fieldLink RX4 38 "FrontDoorModel" "health" "[I") (by decide +kernel)) (fun _ h9 => h9) rfl dX4_outsNow_37 ?_
            refine lv_iload_n hx hb dX4_outsNow_40 rfl (lv_at hl 0 rfl) ?_
            refine va_iald hx hb hK hP 8 7 rfl rfl (vp_in_nI (by omega) (by decide)) dX4_outsNow_41 ?_
            refine lv_topi (fun x_16 ex_16 => ?_)
            replace ex_16 : x_16 = (F 17) (Int32.toNatClampNeg (nI j_L4)) := ex_16
            refine lv_iconst (v := 2) hx hb dX4_outsNow_42 (by decide) ?_
            refine lv_icmp_ne (tgt := 50) hx hb dX4_outsNow_43 (by decide) (fun c_17 => ?_) (fun c_17 => ?_)
            · skip
              have i_17 : ¬ x_16.toInt = 2 := by have h9 := pz_neq c_17; exact h9
              refine lv_iconst (v := 0) hx hb dX4_outsNow_50 (by decide) ?_
              refine lv_iadd hx hb dX4_outsNow_51 ?_
              refine lv_topi (fun x_18 ex_18 => ?_)
              refine lv_istore_n (lv' := [(2, .int x_18), (3, .int (nI j_L4)), (0, .ref h0), (1, .int al)]) hx hb dX4_outsNow_52 rfl hl (by decide) rfl (fun ls hl => ?_)
              obtain ⟨y_19, ey_19⟩ : ∃ y : Int32, y = (nI j_L4) + 1 := ⟨_, rfl⟩
              refine lv_iinc (v := y_19) (lv' := [(3, .int y_19), (2, .int x_18), (0, .ref h0), (1, .int al)]) hx hb dX4_outsNow_53 hl (k := 1) rfl (by rw [ey_19]; rfl) (by decide) rfl (fun ls hl => ?_)
              refine lv_goto (tgt := 4) hx hb dX4_outsNow_56 (by decide) ?_
              have e9 : y_19 = nI (j_L4 + 1) := ey_19.trans (nI_1 j_L4)
              subst e9
              exact ih_L4 (j_L4 + 1) (x_18) _ _ ls (by omega) hP hS (lv_sub hl [0, 1, 2, 3] rfl)
            · skip
              have i_17 : x_16.toInt = 2 := by have h9 := pz_eq c_17; exact h9
              refine lv_iconst (v := 1) hx hb dX4_outsNow_46 (by decide) ?_
              refine lv_goto (tgt := 51) hx hb dX4_outsNow_47 (by decide) ?_
              refine lv_iadd hx hb dX4_outsNow_51 ?_
              refine lv_topi (fun x_20 ex_20 => ?_)
              refine lv_istore_n (lv' := [(2, .int x_20), (3, .int (nI j_L4)), (0, .ref h0), (1, .int al)]) hx hb dX4_outsNow_52 rfl hl (by decide) rfl (fun ls hl => ?_)
              obtain ⟨y_21, ey_21⟩ : ∃ y : Int32, y = (nI j_L4) + 1 := ⟨_, rfl⟩
              refine lv_iinc (v := y_21) (lv' := [(3, .int y_21), (2, .int x_20), (0, .ref h0), (1, .int al)]) hx hb dX4_outsNow_53 hl (k := 1) rfl (by rw [ey_21]; rfl) (by decide) rfl (fun ls hl => ?_)
              refine lv_goto (tgt := 4) hx hb dX4_outsNow_56 (by decide) ?_
              have e9 : y_21 = nI (j_L4 + 1) := ey_21.trans (nI_1 j_L4)
              subst e9
              exact ih_L4 (j_L4 + 1) (x_20) _ _ ls (by omega) hP hS (lv_sub hl [0, 1, 2, 3] rfl)
  exact loop_L4 ns 0 (0) _ _ ls (by omega) hP hS hl
