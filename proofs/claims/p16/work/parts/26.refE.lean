set_option maxHeartbeats 40000000 in
set_option maxRecDepth 100000 in
theorem m_X4_mays (l : Launch) (dC : Nat → ClassId) (dI : Nat → Nat → Nat) (h0 : Nat) (R : Nat → Nat) (C : Nat → ClassId) (I : Nat → Int32) (F : Nat → Nat → Int32) (ns : Nat) (a1 : Int32) (sz : Nat) (hns : I 2 = nI ns) (hbn : ns ≤ 8) : Met l yX4_mays wsX4_mays ({ frames := 0, cells := 0, slots := 0, locals := 0 }) (va_Pc [.ref h0, .int a1] (pzPre (dC, dI) vwCl (gW h0 R C I F) (gT C) sz)) (va_Qi (fun (r : Int32) (_ : Unit) => gMay r ns) (fun _ _ => True) (va_A [] sz)) 0 0 (va_A [] sz) := by
  refine Met.ofW (cc := cX4_mays) (maxL := 4) (ret := (some .int)) (by decide) rfl ?_
  intro p e s m args below meth c s₁ B hml hv
  obtain ⟨rfl, hsz, hP, hK, hD0⟩ := hv
  have hx := B.exec
  have hb := B.bytes
  have hr := B.returns
  have hts := atoms_spec (ws := wsX4_mays) B.pre
  have hown : s.vm.findClass RX4 = some m.cls := findClass_of_methodNamed B.named
  have hlocks := B.notSynchronized
  subst hsz
  have hA : ∀ q : Nat, s.heap.size ≤ q → va_A [] s.heap.size q := fun q h => Or.inr h
  have hD := hD0
  generalize va_A [] s.heap.size = A at hA ⊢
  have hS : va_S A s.heap s.heap [] := va_S.rf
  have hP : va_P (dC, dI) vwCl (gW h0 R C I F) s.heap := hP
  have hnsI : (nI ns).toInt = (ns : Int) := nI_toInt (by omega)
  have hl := lv_entry ([.ref h0, .int a1]) (n := 4) (Nat.le_of_ble_eq_true rfl)
  rw [lg_entry_eq]
  generalize (lg_sl ([.ref h0, .int a1]) ++ List.replicate (4 - (lg_sl ([.ref h0, .int a1])).length) Slot.unset).toArray = ls at hl ⊢
  have hl : lv_has ls 4 [(0, .ref h0), (1, .int a1)] := hl
  refine lv_iconst (v := 0) hx hb dX4_mays_0 (by decide) ?_
  refine lv_istore_n (lv' := [(2, .int 0), (0, .ref h0), (1, .int a1)]) hx hb dX4_mays_1 rfl hl (by decide) rfl (fun ls hl => ?_)
  refine lv_iconst (v := 0) hx hb dX4_mays_2 (by decide) ?_
  refine lv_istore_n (lv' := [(3, .int 0), (2, .int 0), (0, .ref h0), (1, .int a1)]) hx hb dX4_mays_3 rfl hl (by decide) rfl (fun ls hl => ?_)
  have loop_L4 : ∀ (k j_L4 : Nat) (b2 : Int32) (H : Heap) (locs : List Loc) (ls : Array Slot), j_L4 + k = ns → gMay b2 j_L4 → va_P (dC, dI) vwCl (gW h0 R C I F) H → va_S A s.heap H locs → lv_has ls 4 [(3, .int (nI j_L4)), (2, .int b2), (0, .ref h0), (1, .int a1)] → W p l e (headSpec wsX4_mays { frames := 0, cells := 0, slots := 0, locals := 0 }).room s m ([.ref h0, .int a1] : List Value).toArray below meth c H locs 0 0 (MQ below (va_Qi (fun (r : Int32) (_ : Unit) => gMay r ns) (fun _ _ => True) A) ([.ref h0, .int a1] : List Value).toArray s 0 0 A) (F0 m 4 ls []) := by
    intro k
    induction k with
    | zero =>
      intro j_L4 b2 H locs ls hj_L4 hinv hP hS hl
      refine lv_iload_n hx hb dX4_mays_4 rfl (lv_at hl 0 rfl) ?_
      refine lv_aload_n hx hb dX4_mays_5 rfl (lv_at hl 2 rfl) ?_
      refine va_get (D := (dC, dI)) (ci := 5) (v := .int (I 2)) (C := RX4) (T := TX4) (N := 43) hx hb hts (fun _ h => List.mem_cons_of_mem _ (List.mem_append_right _ h)) hown hK hP 0 rfl rfl 2 (by decide) (hts (.fieldLink RX4 114 "FrontDoorModel" "servers" "I") (by decide +kernel)) (fun _ h9 => h9) rfl dX4_mays_6 ?_
      refine lv_topi (fun x_1 ex_1 => ?_)
      obtain rfl : x_1 = (nI ns) := ex_1.trans hns
      refine lv_icmp_ge (tgt := 75) hx hb dX4_mays_9 (by decide) (fun c_2 => ?_) (fun c_2 => absurd (nI_le (by omega) (by omega)) c_2)
      refine lv_iload_n hx hb dX4_mays_75 rfl (lv_at hl 1 rfl) ?_
      exact W.iret (v := b2) hx hb hr (fun t ht hW => ⟨⟨b2, (), rfl, (by rw [show ns = j_L4 by omega]; exact hinv), trivial⟩, hS.F ht⟩) hS.2.2 dX4_mays_76
    | succ k ih_L4 =>
      intro j_L4 b2 H locs ls hj_L4 hinv hP hS hl
      refine lv_iload_n hx hb dX4_mays_4 rfl (lv_at hl 0 rfl) ?_
      refine lv_aload_n hx hb dX4_mays_5 rfl (lv_at hl 2 rfl) ?_
      refine va_get (D := (dC, dI)) (ci := 5) (v := .int (I 2)) (C := RX4) (T := TX4) (N := 43) hx hb hts (fun _ h => List.mem_cons_of_mem _ (List.mem_append_right _ h)) hown hK hP 0 rfl rfl 2 (by decide) (hts (.fieldLink RX4 114 "FrontDoorModel" "servers" "I") (by decide +kernel)) (fun _ h9 => h9) rfl dX4_mays_6 ?_
      refine lv_topi (fun x_3 ex_3 => ?_)
      obtain rfl : x_3 = (nI ns) := ex_3.trans hns
      refine lv_icmp_ge (tgt := 75) hx hb dX4_mays_9 (by decide) (fun c_4 => absurd c_4 (nI_ge (by omega) (by omega))) (fun c_4 => ?_)
      refine lv_iload_n hx hb dX4_mays_12 rfl (lv_at hl 3 rfl) ?_
      refine lv_iload_n hx hb dX4_mays_13 rfl (lv_at hl 0 rfl) ?_
      refine lv_ishr hx hb dX4_mays_14 ?_
      refine lv_topi (fun x_5 ex_5 => ?_)
      refine lv_iconst (v := 1) hx hb dX4_mays_15 (by decide) ?_
      refine lv_iand hx hb dX4_mays_16 ?_
      refine lv_topi (fun x_6 ex_6 => ?_)
      refine lv_if_ne (tgt := 69) hx hb dX4_mays_17 (by decide) (fun c_7 => ?_) (fun c_7 => ?_)
      · skip
        have i_7 : ¬ x_6.toInt = 0 := by have h9 := pz_neq c_7; exact h9
        obtain ⟨y_8, ey_8⟩ : ∃ y : Int32, y = (nI j_L4) + 1 := ⟨_, rfl⟩
        refine lv_iinc (v := y_8) (lv' := [(3, .int y_8), (2, .int b2), (0, .ref h0), (1, .int a1)]) hx hb dX4_mays_69 hl (k := 0) rfl (by rw [ey_8]; rfl) (by decide) rfl (fun ls hl => ?_)
        refine lv_goto (tgt := 4) hx hb dX4_mays_72 (by decide) ?_
        have e9 : y_8 = nI (j_L4 + 1) := ey_8.trans (nI_1 j_L4)
        subst e9
        exact ih_L4 (j_L4 + 1) (b2) _ _ ls (by omega) (by first | exact gMay_up hinv | (subst_vars; exact gMay_or (by omega))) hP hS (lv_sub hl [0, 1, 2, 3] rfl)
      · skip
        have i_7 : x_6.toInt = 0 := by have h9 := pz_eq c_7; exact h9
        refine lv_aload_n hx hb dX4_mays_20 rfl (lv_at hl 2 rfl) ?_
        refine va_get (D := (dC, dI)) (ci := 5) (v := .ref (R 18)) (C := RX4) (T := TX4) (N := 43) hx hb hts (fun _ h => List.mem_cons_of_mem _ (List.mem_append_right _ h)) hown hK hP 0 rfl rfl 18 (by decide) (hts (.fieldLink RX4 41 "FrontDoorModel" "open" "[I") (by decide +kernel)) (fun _ h9 => h9) rfl dX4_mays_21 ?_
        refine lv_iload_n hx hb dX4_mays_24 rfl (lv_at hl 0 rfl) ?_
        refine va_iald hx hb hK hP 9 8 rfl rfl (vp_in_nI (by omega) (by decide)) dX4_mays_25 ?_
        refine lv_topi (fun x_9 ex_9 => ?_)
        replace ex_9 : x_9 = (F 18) (Int32.toNatClampNeg (nI j_L4)) := ex_9
        refine lv_aload_n hx hb dX4_mays_26 rfl (lv_at hl 2 rfl) ?_
        refine va_get (D := (dC, dI)) (ci := 5) (v := .ref (R 13)) (C := RX4) (T := TX4) (N := 43) hx hb hts (fun _ h => List.mem_cons_of_mem _ (List.mem_append_right _ h)) hown hK hP 0 rfl rfl 13 (by decide) (hts (.fieldLink RX4 26 "FrontDoorModel" "room" "[I") (by decide +kernel)) (fun _ h9 => h9) rfl dX4_mays_27 ?_
        refine lv_iload_n hx hb dX4_mays_30 rfl (lv_at hl 0 rfl) ?_
        refine va_iald hx hb hK hP 4 3 rfl rfl (vp_in_nI (by omega) (by decide)) dX4_mays_31 ?_
        refine lv_topi (fun x_10 ex_10 => ?_)
        replace ex_10 : x_10 = (F 13) (Int32.toNatClampNeg (nI j_L4)) := ex_10
        refine lv_icmp_ge (tgt := 69) hx hb dX4_mays_32 (by decide) (fun c_11 => ?_) (fun c_11 => ?_)
        · skip
          have i_11 : x_10.toInt ≤ x_9.toInt := by have h9 := pz_ge c_11; exact h9
          obtain ⟨y_12, ey_12⟩ : ∃ y : Int32, y = (nI j_L4) + 1 := ⟨_, rfl⟩
          refine lv_iinc (v := y_12) (lv' := [(3, .int y_12), (2, .int b2), (0, .ref h0), (1, .int a1)]) hx hb dX4_mays_69 hl (k := 0) rfl (by rw [ey_12]; rfl) (by decide) rfl (fun ls hl => ?_)
          refine lv_goto (tgt := 4) hx hb dX4_mays_72 (by decide) ?_
          have e9 : y_12 = nI (j_L4 + 1) := ey_12.trans (nI_1 j_L4)
          subst e9
          exact ih_L4 (j_L4 + 1) (b2) _ _ ls (by omega) (by first | exact gMay_up hinv | (subst_vars; exact gMay_or (by omega))) hP hS (lv_sub hl [0, 1, 2, 3] rfl)
        · skip
          have i_11 : x_9.toInt < x_10.toInt := by have h9 := pz_nge c_11; exact h9
          refine lv_aload_n hx hb dX4_mays_35 rfl (lv_at hl 2 rfl) ?_
          refine va_get (D := (dC, dI)) (ci := 5) (v := .ref (R 17)) (C := RX4) (T := TX4) (N := 43) hx hb hts (fun _ h => List.mem_cons_of_mem _ (List.mem_append_right _ h)) hown hK hP 0 rfl rfl 17 (by decide) (hts (.fieldLink RX4 38 "FrontDoorModel" "health" "[I") (by decide +kernel)) (fun _ h9 => h9) rfl dX4_mays_36 ?_
          refine lv_iload_n hx hb dX4_mays_39 rfl (lv_at hl 0 rfl) ?_
          refine va_iald hx hb hK hP 8 7 rfl rfl (vp_in_nI (by omega) (by decide)) dX4_mays_40 ?_
          refine lv_topi (fun x_13 ex_13 => ?_)
          replace ex_13 : x_13 = (F 17) (Int32.toNatClampNeg (nI j_L4)) := ex_13
          refine lv_if_eq (tgt := 63) hx hb dX4_mays_41 (by decide) (fun c_14 => ?_) (fun c_14 => ?_)
          · skip
            have i_14 : x_13.toInt = 0 := by have h9 := pz_eq c_14; exact h9
            refine lv_iload_n hx hb dX4_mays_63 rfl (lv_at hl 1 rfl) ?_
            refine lv_iconst (v := 1) hx hb dX4_mays_64 (by decide) ?_
            refine lv_iload_n hx hb dX4_mays_65 rfl (lv_at hl 0 rfl) ?_
            refine lv_ishl hx hb dX4_mays_66 ?_
            refine lv_topi (fun x_15 ex_15 => ?_)
            refine lv_ior hx hb dX4_mays_67 ?_
            refine lv_topi (fun x_16 ex_16 => ?_)
            refine lv_istore_n (lv' := [(2, .int x_16), (3, .int (nI j_L4)), (0, .ref h0), (1, .int a1)]) hx hb dX4_mays_68 rfl hl (by decide) rfl (fun ls hl => ?_)
            obtain ⟨y_17, ey_17⟩ : ∃ y : Int32, y = (nI j_L4) + 1 := ⟨_, rfl⟩
            refine lv_iinc (v := y_17) (lv' := [(3, .int y_17), (2, .int x_16), (0, .ref h0), (1, .int a1)]) hx hb dX4_mays_69 hl (k := 1) rfl (by rw [ey_17]; rfl) (by decide) rfl (fun ls hl => ?_)
            refine lv_goto (tgt := 4) hx hb dX4_mays_72 (by decide) ?_
            have e9 : y_17 = nI (j_L4 + 1) := ey_17.trans (nI_1 j_L4)
            subst e9
            exact ih_L4 (j_L4 + 1) (x_16) _ _ ls (by omega) (by first | exact gMay_up hinv | (subst_vars; exact gMay_or (by omega))) hP hS (lv_sub hl [0, 1, 2, 3] rfl)
          · skip
            have i_14 : ¬ x_13.toInt = 0 := by have h9 := pz_neq c_14; exact h9
            refine lv_aload_n hx hb dX4_mays_44 rfl (lv_at hl 2 rfl) ?_
            refine va_get (D := (dC, dI)) (ci := 5) (v := .ref (R 17)) (C := RX4) (T := TX4) (N := 43) hx hb hts (fun _ h => List.mem_cons_of_mem _ (List.mem_append_right _ h)) hown hK hP 0 rfl rfl 17 (by decide) (hts (.fieldLink RX4 38 "FrontDoorModel" "health" "[I") (by decide +kernel)) (fun _ h9 => h9) rfl dX4_mays_45 ?_
            refine lv_iload_n hx hb dX4_mays_48 rfl (lv_at hl 0 rfl) ?_
            refine va_iald hx hb hK hP 8 7 rfl rfl (vp_in_nI (by omega) (by decide)) dX4_mays_49 ?_
            refine lv_topi (fun x_18 ex_18 => ?_)
            replace ex_18 : x_18 = (F 17) (Int32.toNatClampNeg (nI j_L4)) := ex_18
            refine lv_iconst (v := 2) hx hb dX4_mays_50 (by decide) ?_
            refine lv_icmp_ne (tgt := 69) hx hb dX4_mays_51 (by decide) (fun c_19 => ?_) (fun c_19 => ?_)
            · skip
              have i_19 : ¬ x_18.toInt = 2 := by have h9 := pz_neq c_19; exact h9
              obtain ⟨y_20, ey_20⟩ : ∃ y : Int32, y = (nI j_L4) + 1 := ⟨_, rfl⟩
              refine lv_iinc (v := y_20) (lv' := [(3, .int y_20), (2, .int b2), (0, .ref h0), (1, .int a1)]) hx hb dX4_mays_69 hl (k := 0) rfl (by rw [ey_20]; rfl) (by decide) rfl (fun ls hl => ?_)
              refine lv_goto (tgt := 4) hx hb dX4_mays_72 (by decide) ?_
              have e9 : y_20 = nI (j_L4 + 1) := ey_20.trans (nI_1 j_L4)
              subst e9
              exact ih_L4 (j_L4 + 1) (b2) _ _ ls (by omega) (by first | exact gMay_up hinv | (subst_vars; exact gMay_or (by omega))) hP hS (lv_sub hl [0, 1, 2, 3] rfl)
            · skip
              have i_19 : x_18.toInt = 2 := by have h9 := pz_eq c_19; exact h9
              refine lv_aload_n hx hb dX4_mays_54 rfl (lv_at hl 2 rfl) ?_
              refine va_get (D := (dC, dI)) (ci := 5) (v := .ref (R 18)) (C := RX4) (T := TX4) (N := 43) hx hb hts (fun _ h => List.mem_cons_of_mem _ (List.mem_append_right _ h)) hown hK hP 0 rfl rfl 18 (by decide) (hts (.fieldLink RX4 41 "FrontDoorModel" "open" "[I") (by decide +kernel)) (fun _ h9 => h9) rfl dX4_mays_55 ?_
              refine lv_iload_n hx hb dX4_mays_58 rfl (lv_at hl 0 rfl) ?_
              refine va_iald hx hb hK hP 9 8 rfl rfl (vp_in_nI (by omega) (by decide)) dX4_mays_59 ?_
              refine lv_topi (fun x_21 ex_21 => ?_)
              replace ex_21 : x_21 = (F 18) (Int32.toNatClampNeg (nI j_L4)) := ex_21
              refine lv_if_ne (tgt := 69) hx hb dX4_mays_60 (by decide) (fun c_22 => ?_) (fun c_22 => ?_)
              · skip
                have i_22 : ¬ x_21.toInt = 0 := by have h9 := pz_neq c_22; exact h9
                obtain ⟨y_23, ey_23⟩ : ∃ y : Int32, y = (nI j_L4) + 1 := ⟨_, rfl⟩
                refine lv_iinc (v := y_23) (lv' := [(3, .int y_23), (2, .int b2), (0, .ref h0), (1, .int a1)]) hx hb dX4_mays_69 hl (k := 0) rfl (by rw [ey_23]; rfl) (by decide) rfl (fun ls hl => ?_)
                refine lv_goto (tgt := 4) hx hb dX4_mays_72 (by decide) ?_
                have e9 : y_23 = nI (j_L4 + 1) := ey_23.trans (nI_1 j_L4)
                subst e9
                exact ih_L4 (j_L4 + 1) (b2) _ _ ls (by omega) (by first | exact gMay_up hinv | (subst_vars; exact gMay_or (by omega))) hP hS (lv_sub hl [0, 1, 2, 3] rfl)
              · skip
                have i_22 : x_21.toInt = 0 := by have h9 := pz_eq c_22; exact h9
                refine lv_iload_n hx hb dX4_mays_63 rfl (lv_at hl 1 rfl) ?_
                refine lv_iconst (v := 1) hx hb dX4_mays_64 (by decide) ?_
                refine lv_iload_n hx hb dX4_mays_65 rfl (lv_at hl 0 rfl) ?_
                refine lv_ishl hx hb dX4_mays_66 ?_
                refine lv_topi (fun x_24 ex_24 => ?_)
                refine lv_ior hx hb dX4_mays_67 ?_
                refine lv_topi (fun x_25 ex_25 => ?_)
                refine lv_istore_n (lv' := [(2, .int x_25), (3, .int (nI j_L4)), (0, .ref h0), (1, .int a1)]) hx hb dX4_mays_68 rfl hl (by decide) rfl (fun ls hl => ?_)
                obtain ⟨y_26, ey_26⟩ : ∃ y : Int32, y = (nI j_L4) + 1 := ⟨_, rfl⟩
                refine lv_iinc (v := y_26) (lv' := [(3, .int y_26), (2, .int x_25), (0, .ref h0), (1, .int a1)]) hx hb dX4_mays_69 hl (k := 1) rfl (by rw [ey_26]; rfl) (by decide) rfl (fun ls hl => ?_)
                refine lv_goto (tgt := 4) hx hb dX4_mays_72 (by decide) ?_
                have e9 : y_26 = nI (j_L4 + 1) := ey_26.trans (nI_1 j_L4)
                subst e9
                exact ih_L4 (j_L4 + 1) (x_25) _ _ ls (by omega) (by first | exact gMay_up hinv | (subst_vars; exact gMay_or (by omega))) hP hS (lv_sub hl [0, 1, 2, 3] rfl)
  exact loop_L4 ns 0 (0) _ _ ls (by omega) (gMay_0 0) hP hS hl

set_option maxHeartbeats 40000000 in
set_option maxRecDepth 100000 in
theorem m_X4_fewest (l : Launch) (dC : Nat → ClassId) (dI : Nat → Nat → Nat) (h0 : Nat) (R : Nat → Nat) (C : Nat → ClassId) (I : Nat → Int32) (F : Nat → Nat → Int32) (ns : Nat) (a1 : Int32) (sz : Nat) (hns : I 2 = nI ns) (hbn : ns ≤ 8) : Met l yX4_fewest wsX4_fewest ({ frames := 0, cells := 0, slots := 0, locals := 0 }) (va_Pc [.ref h0, .int a1] (pzPre (dC, dI) vwCl (gW h0 R C I F) (gT C) sz)) (va_Qi (fun (r : Int32) (_ : Unit) => (∃ s, s < ns ∧ gBit a1 s) → ∃ q, q < ns ∧ r = nI q) (fun _ _ => True) (va_A [] sz)) 0 0 (va_A [] sz) := by
  refine Met.ofW (cc := cX4_fewest) (maxL := 4) (ret := (some .int)) (by decide) rfl ?_
  intro p e s m args below meth c s₁ B hml hv
  obtain ⟨rfl, hsz, hP, hK, hD0⟩ := hv
  have hx := B.exec
  have hb := B.bytes
  have hr := B.returns
  have hts := atoms_spec (ws := wsX4_fewest) B.pre
  have hown : s.vm.findClass RX4 = some m.cls := findClass_of_methodNamed B.named
  have hlocks := B.notSynchronized
  subst hsz
  have hA : ∀ q : Nat, s.heap.size ≤ q → va_A [] s.heap.size q := fun q h => Or.inr h
  have hD := hD0
  generalize va_A [] s.heap.size = A at hA ⊢
  have hS : va_S A s.heap s.heap [] := va_S.rf
  have hP : va_P (dC, dI) vwCl (gW h0 R C I F) s.heap := hP
  have hnsI : (nI ns).toInt = (ns : Int) := nI_toInt (by omega)
  have hl := lv_entry ([.ref h0, .int a1]) (n := 4) (Nat.le_of_ble_eq_true rfl)
  rw [lg_entry_eq]
  generalize (lg_sl ([.ref h0, .int a1]) ++ List.replicate (4 - (lg_sl ([.ref h0, .int a1])).length) Slot.unset).toArray = ls at hl ⊢
  have hl : lv_has ls 4 [(0, .ref h0), (1, .int a1)] := hl
  refine lv_iconst (v := (-1)) hx hb dX4_fewest_0 (by decide) ?_
  refine lv_istore_n (lv' := [(2, .int (-1)), (0, .ref h0), (1, .int a1)]) hx hb dX4_fewest_1 rfl hl (by decide) rfl (fun ls hl => ?_)
  refine lv_iconst (v := 0) hx hb dX4_fewest_2 (by decide) ?_
  refine lv_istore_n (lv' := [(3, .int 0), (2, .int (-1)), (0, .ref h0), (1, .int a1)]) hx hb dX4_fewest_3 rfl hl (by decide) rfl (fun ls hl => ?_)
  have loop_L4 : ∀ (k j_L4 : Nat) (b2 : Int32) (H : Heap) (locs : List Loc) (ls : Array Slot), j_L4 + k = ns → ((b2 = -1 ∧ ∀ s, s < j_L4 → ¬ gBit a1 s) ∨ ∃ q, q < ns ∧ b2 = nI q) → va_P (dC, dI) vwCl (gW h0 R C I F) H → va_S A s.heap H locs → lv_has ls 4 [(3, .int (nI j_L4)), (2, .int b2), (0, .ref h0), (1, .int a1)] → W p l e (headSpec wsX4_fewest { frames := 0, cells := 0, slots := 0, locals := 0 }).room s m ([.ref h0, .int a1] : List Value).toArray below meth c H locs 0 0 (MQ below (va_Qi (fun (r : Int32) (_ : Unit) => (∃ s, s < ns ∧ gBit a1 s) → ∃ q, q < ns ∧ r = nI q) (fun _ _ => True) A) ([.ref h0, .int a1] : List Value).toArray s 0 0 A) (F0 m 4 ls []) := by
    intro k
    induction k with
    | zero =>
      intro j_L4 b2 H locs ls hj_L4 hinv hP hS hl
      rcases hinv with ⟨rfl, hinv⟩ | ⟨q, hq, rfl⟩
      · skip
        refine lv_iload_n hx hb dX4_fewest_4 rfl (lv_at hl 0 rfl) ?_
        refine lv_aload_n hx hb dX4_fewest_5 rfl (lv_at hl 2 rfl) ?_
        refine va_get (D := (dC, dI)) (ci := 5) (v := .int (I 2)) (C := RX4) (T := TX4) (N := 43) hx hb hts (fun _ h => List.mem_cons_of_mem _ (List.mem_append_right _ h)) hown hK hP 0 rfl rfl 2 (by decide) (hts (.fieldLink RX4 114 "FrontDoorModel" "servers" "I") (by decide +kernel)) (fun _ h9 => h9) rfl dX4_fewest_6 ?_
        refine lv_topi (fun x_1 ex_1 => ?_)
        obtain rfl : x_1 = (nI ns) := ex_1.trans hns
        refine lv_icmp_ge (tgt := 62) hx hb dX4_fewest_9 (by decide) (fun c_2 => ?_) (fun c_2 => absurd (nI_le (by omega) (by omega)) c_2)
        refine lv_iload_n hx hb dX4_fewest_62 rfl (lv_at hl 1 rfl) ?_
        exact W.iret (v := (-1)) hx hb hr (fun t ht hW => ⟨⟨(-1), (), rfl, (by first | exact fun _ => ⟨q, hq, rfl⟩ | exact fun ⟨s, h1, h2⟩ => absurd h2 (hinv s (by omega))), trivial⟩, hS.F ht⟩) hS.2.2 dX4_fewest_63
      · skip
        refine lv_iload_n hx hb dX4_fewest_4 rfl (lv_at hl 0 rfl) ?_
        refine lv_aload_n hx hb dX4_fewest_5 rfl (lv_at hl 2 rfl) ?_
        refine va_get (D := (dC, dI)) (ci := 5) (v := .int (I 2)) (C := RX4) (T := TX4) (N := 43) hx hb hts (fun _ h => List.mem_cons_of_mem _ (List.mem_append_right _ h)) hown hK hP 0 rfl rfl 2 (by decide) (hts (.fieldLink RX4 114 "FrontDoorModel" "servers" "I") (by decide +kernel)) (fun _ h9 => h9) rfl dX4_fewest_6 ?_
        refine lv_topi (fun x_3 ex_3 => ?_)
        obtain rfl : x_3 = (nI ns) := ex_3.trans hns
        refine lv_icmp_ge (tgt := 62) hx hb dX4_fewest_9 (by decide) (fun c_4 => ?_) (fun c_4 => absurd (nI_le (by omega) (by omega)) c_4)
        refine lv_iload_n hx hb dX4_fewest_62 rfl (lv_at hl 1 rfl) ?_
        exact W.iret (v := (nI q)) hx hb hr (fun t ht hW => ⟨⟨(nI q), (), rfl, (by first | exact fun _ => ⟨q, hq, rfl⟩ | exact fun ⟨s, h1, h2⟩ => absurd h2 (hinv s (by omega))), trivial⟩, hS.F ht⟩) hS.2.2 dX4_fewest_63
    | succ k ih_L4 =>
      intro j_L4 b2 H locs ls hj_L4 hinv hP hS hl
      rcases hinv with ⟨rfl, hinv⟩ | ⟨q, hq, rfl⟩
      · skip
        refine lv_iload_n hx hb dX4_fewest_4 rfl (lv_at hl 0 rfl) ?_
        refine lv_aload_n hx hb dX4_fewest_5 rfl (lv_at hl 2 rfl) ?_
        refine va_get (D := (dC, dI)) (ci := 5) (v := .int (I 2)) (C := RX4) (T := TX4) (N := 43) hx hb hts (fun _ h => List.mem_cons_of_mem _ (List.mem_append_right _ h)) hown hK hP 0 rfl rfl 2 (by decide) (hts (.fieldLink RX4 114 "FrontDoorModel" "servers" "I") (by decide +kernel)) (fun _ h9 => h9) rfl dX4_fewest_6 ?_
        refine lv_topi (fun x_5 ex_5 => ?_)
        obtain rfl : x_5 = (nI ns) := ex_5.trans hns
        refine lv_icmp_ge (tgt := 62) hx hb dX4_fewest_9 (by decide) (fun c_6 => absurd c_6 (nI_ge (by omega) (by omega))) (fun c_6 => ?_)
        refine lv_iload_n hx hb dX4_fewest_12 rfl (lv_at hl 3 rfl) ?_
        refine lv_iload_n hx hb dX4_fewest_13 rfl (lv_at hl 0 rfl) ?_
        refine lv_ishr hx hb dX4_fewest_14 ?_
        refine lv_topi (fun x_7 ex_7 => ?_)
        refine lv_iconst (v := 1) hx hb dX4_fewest_15 (by decide) ?_
        refine lv_iand hx hb dX4_fewest_16 ?_
        refine lv_topi (fun x_8 ex_8 => ?_)
        refine lv_iconst (v := 1) hx hb dX4_fewest_17 (by decide) ?_
        refine lv_icmp_ne (tgt := 56) hx hb dX4_fewest_18 (by decide) (fun c_9 => ?_) (fun c_9 => ?_)
        · skip
          have i_9 : ¬ x_8.toInt = 1 := by have h9 := pz_neq c_9; exact h9
          obtain ⟨y_10, ey_10⟩ : ∃ y : Int32, y = (nI j_L4) + 1 := ⟨_, rfl⟩
          refine lv_iinc (v := y_10) (lv' := [(3, .int y_10), (2, .int (-1)), (0, .ref h0), (1, .int a1)]) hx hb dX4_fewest_56 hl (k := 0) rfl (by rw [ey_10]; rfl) (by decide) rfl (fun ls hl => ?_)
          refine lv_goto (tgt := 4) hx hb dX4_fewest_59 (by decide) ?_
          have e9 : y_10 = nI (j_L4 + 1) := ey_10.trans (nI_1 j_L4)
          subst e9
          exact ih_L4 (j_L4 + 1) ((-1)) _ _ ls (by omega) (by subst_vars; first | exact Or.inr ⟨_, by omega, rfl⟩ | exact gF_skip hinv (fun h8 => by unfold gBit at h8; exact absurd h8 (by assumption))) hP hS (lv_sub hl [0, 1, 2, 3] rfl)
        · skip
          have i_9 : x_8.toInt = 1 := by have h9 := pz_eq c_9; exact h9
          refine lv_iload_n hx hb dX4_fewest_21 rfl (lv_at hl 1 rfl) ?_
          refine lv_if_lt (tgt := 54) hx hb dX4_fewest_22 (by decide) (fun c_11 => ?_) (fun c_11 => absurd (by decide) c_11)
          refine lv_iload_n hx hb dX4_fewest_54 rfl (lv_at hl 0 rfl) ?_
          refine lv_istore_n (lv' := [(2, .int (nI j_L4)), (3, .int (nI j_L4)), (0, .ref h0), (1, .int a1)]) hx hb dX4_fewest_55 rfl hl (by decide) rfl (fun ls hl => ?_)
          obtain ⟨y_12, ey_12⟩ : ∃ y : Int32, y = (nI j_L4) + 1 := ⟨_, rfl⟩
          refine lv_iinc (v := y_12) (lv' := [(3, .int y_12), (2, .int (nI j_L4)), (0, .ref h0), (1, .int a1)]) hx hb dX4_fewest_56 hl (k := 1) rfl (by rw [ey_12]; rfl) (by decide) rfl (fun ls hl => ?_)
          refine lv_goto (tgt := 4) hx hb dX4_fewest_59 (by decide) ?_
          have e9 : y_12 = nI (j_L4 + 1) := ey_12.trans (nI_1 j_L4)
          subst e9
          exact ih_L4 (j_L4 + 1) ((nI j_L4)) _ _ ls (by omega) (by subst_vars; first | exact Or.inr ⟨_, by omega, rfl⟩ | exact gF_skip hinv (fun h8 => by unfold gBit at h8; exact absurd h8 (by assumption))) hP hS (lv_sub hl [0, 1, 2, 3] rfl)
      · skip
        refine lv_iload_n hx hb dX4_fewest_4 rfl (lv_at hl 0 rfl) ?_
        refine lv_aload_n hx hb dX4_fewest_5 rfl (lv_at hl 2 rfl) ?_
        refine va_get (D := (dC, dI)) (ci := 5) (v := .int (I 2)) (C := RX4) (T := TX4) (N := 43) hx hb hts (fun _ h => List.mem_cons_of_mem _ (List.mem_append_right _ h)) hown hK hP 0 rfl rfl 2 (by decide) (hts (.fieldLink RX4 114 "FrontDoorModel" "servers" "I") (by decide +kernel)) (fun _ h9 => h9) rfl dX4_fewest_6 ?_
        refine lv_topi (fun x_13 ex_13 => ?_)
        obtain rfl : x_13 = (nI ns) := ex_13.trans hns
        refine lv_icmp_ge (tgt := 62) hx hb dX4_fewest_9 (by decide) (fun c_14 => absurd c_14 (nI_ge (by omega) (by omega))) (fun c_14 => ?_)
        refine lv_iload_n hx hb dX4_fewest_12 rfl (lv_at hl 3 rfl) ?_
        refine lv_iload_n hx hb dX4_fewest_13 rfl (lv_at hl 0 rfl) ?_
        refine lv_ishr hx hb dX4_fewest_14 ?_
        refine lv_topi (fun x_15 ex_15 => ?_)
        refine lv_iconst (v := 1) hx hb dX4_fewest_15 (by decide) ?_
        refine lv_iand hx hb dX4_fewest_16 ?_
        refine lv_topi (fun x_16 ex_16 => ?_)
        refine lv_iconst (v := 1) hx hb dX4_fewest_17 (by decide) ?_
        refine lv_icmp_ne (tgt := 56) hx hb dX4_fewest_18 (by decide) (fun c_17 => ?_) (fun c_17 => ?_)
        · skip
          have i_17 : ¬ x_16.toInt = 1 := by have h9 := pz_neq c_17; exact h9
          obtain ⟨y_18, ey_18⟩ : ∃ y : Int32, y = (nI j_L4) + 1 := ⟨_, rfl⟩
          refine lv_iinc (v := y_18) (lv' := [(3, .int y_18), (2, .int (nI q)), (0, .ref h0), (1, .int a1)]) hx hb dX4_fewest_56 hl (k := 0) rfl (by rw [ey_18]; rfl) (by decide) rfl (fun ls hl => ?_)
          refine lv_goto (tgt := 4) hx hb dX4_fewest_59 (by decide) ?_
          have e9 : y_18 = nI (j_L4 + 1) := ey_18.trans (nI_1 j_L4)
          subst e9
          exact ih_L4 (j_L4 + 1) ((nI q)) _ _ ls (by omega) (by subst_vars; first | exact Or.inr ⟨_, by omega, rfl⟩ | exact gF_skip hinv (fun h8 => by unfold gBit at h8; exact absurd h8 (by assumption))) hP hS (lv_sub hl [0, 1, 2, 3] rfl)
        · skip
          have i_17 : x_16.toInt = 1 := by have h9 := pz_eq c_17; exact h9
          refine lv_iload_n hx hb dX4_fewest_21 rfl (lv_at hl 1 rfl) ?_
          refine lv_if_lt (tgt := 54) hx hb dX4_fewest_22 (by decide) (fun c_19 => ?_) (fun c_19 => ?_)
          · skip
            have i_19 : (nI q).toInt < 0 := by have h9 := pz_lt c_19; exact h9
            refine lv_iload_n hx hb dX4_fewest_54 rfl (lv_at hl 0 rfl) ?_
            refine lv_istore_n (lv' := [(2, .int (nI j_L4)), (3, .int (nI j_L4)), (0, .ref h0), (1, .int a1)]) hx hb dX4_fewest_55 rfl hl (by decide) rfl (fun ls hl => ?_)
            obtain ⟨y_20, ey_20⟩ : ∃ y : Int32, y = (nI j_L4) + 1 := ⟨_, rfl⟩
            refine lv_iinc (v := y_20) (lv' := [(3, .int y_20), (2, .int (nI j_L4)), (0, .ref h0), (1, .int a1)]) hx hb dX4_fewest_56 hl (k := 1) rfl (by rw [ey_20]; rfl) (by decide) rfl (fun ls hl => ?_)
            refine lv_goto (tgt := 4) hx hb dX4_fewest_59 (by decide) ?_
            have e9 : y_20 = nI (j_L4 + 1) := ey_20.trans (nI_1 j_L4)
            subst e9
            exact ih_L4 (j_L4 + 1) ((nI j_L4)) _ _ ls (by omega) (by subst_vars; first | exact Or.inr ⟨_, by omega, rfl⟩ | exact gF_skip hinv (fun h8 => by unfold gBit at h8; exact absurd h8 (by assumption))) hP hS (lv_sub hl [0, 1, 2, 3] rfl)
          · skip
            have i_19 : 0 ≤ (nI q).toInt := by have h9 := pz_nlt c_19; exact h9
            refine lv_aload_n hx hb dX4_fewest_25 rfl (lv_at hl 2 rfl) ?_
            refine va_get (D := (dC, dI)) (ci := 5) (v := .ref (R 18)) (C := RX4) (T := TX4) (N := 43) hx hb hts (fun _ h => List.mem_cons_of_mem _ (List.mem_append_right _ h)) hown hK hP 0 rfl rfl 18 (by decide) (hts (.fieldLink RX4 41 "FrontDoorModel" "open" "[I") (by decide +kernel)) (fun _ h9 => h9) rfl dX4_fewest_26 ?_
            refine lv_iload_n hx hb dX4_fewest_29 rfl (lv_at hl 0 rfl) ?_
            refine va_iald hx hb hK hP 9 8 rfl rfl (vp_in_nI (by omega) (by decide)) dX4_fewest_30 ?_
            refine lv_topi (fun x_21 ex_21 => ?_)
            replace ex_21 : x_21 = (F 18) (Int32.toNatClampNeg (nI j_L4)) := ex_21
            refine lv_aload_n hx hb dX4_fewest_31 rfl (lv_at hl 2 rfl) ?_
            refine va_get (D := (dC, dI)) (ci := 5) (v := .ref (R 11)) (C := RX4) (T := TX4) (N := 43) hx hb hts (fun _ h => List.mem_cons_of_mem _ (List.mem_append_right _ h)) hown hK hP 0 rfl rfl 11 (by decide) (hts (.fieldLink RX4 20 "FrontDoorModel" "weight" "[I") (by decide +kernel)) (fun _ h9 => h9) rfl dX4_fewest_32 ?_
            refine lv_iload_n hx hb dX4_fewest_35 rfl (lv_at hl 1 rfl) ?_
            refine va_iald hx hb hK hP 2 1 rfl rfl (vp_in_nI (by omega) (by decide)) dX4_fewest_36 ?_
            refine lv_topi (fun x_22 ex_22 => ?_)
            replace ex_22 : x_22 = (F 11) (Int32.toNatClampNeg (nI q)) := ex_22
            refine lv_imul hx hb dX4_fewest_37 ?_
            refine lv_topi (fun x_23 ex_23 => ?_)
            refine lv_aload_n hx hb dX4_fewest_38 rfl (lv_at hl 2 rfl) ?_
            refine va_get (D := (dC, dI)) (ci := 5) (v := .ref (R 18)) (C := RX4) (T := TX4) (N := 43) hx hb hts (fun _ h => List.mem_cons_of_mem _ (List.mem_append_right _ h)) hown hK hP 0 rfl rfl 18 (by decide) (hts (.fieldLink RX4 41 "FrontDoorModel" "open" "[I") (by decide +kernel)) (fun _ h9 => h9) rfl dX4_fewest_39 ?_
            refine lv_iload_n hx hb dX4_fewest_42 rfl (lv_at hl 1 rfl) ?_
            refine va_iald hx hb hK hP 9 8 rfl rfl (vp_in_nI (by omega) (by decide)) dX4_fewest_43 ?_
            refine lv_topi (fun x_24 ex_24 => ?_)
            replace ex_24 : x_24 = (F 18) (Int32.toNatClampNeg (nI q)) := ex_24
            refine lv_aload_n hx hb dX4_fewest_44 rfl (lv_at hl 2 rfl) ?_
            refine va_get (D := (dC, dI)) (ci := 5) (v := .ref (R 11)) (C := RX4) (T := TX4) (N := 43) hx hb hts (fun _ h => List.mem_cons_of_mem _ (List.mem_append_right _ h)) hown hK hP 0 rfl rfl 11 (by decide) (hts (.fieldLink RX4 20 "FrontDoorModel" "weight" "[I") (by decide +kernel)) (fun _ h9 => h9) rfl dX4_fewest_45 ?_
            refine lv_iload_n hx hb dX4_fewest_48 rfl (lv_at hl 0 rfl) ?_
            refine va_iald hx hb hK hP 2 1 rfl rfl (vp_in_nI (by omega) (by decide)) dX4_fewest_49 ?_
            refine lv_topi (fun x_25 ex_25 => ?_)
            replace ex_25 : x_25 = (F 11) (Int32.toNatClampNeg (nI j_L4)) := ex_25
            refine lv_imul hx hb dX4_fewest_50 ?_
            refine lv_topi (fun x_26 ex_26 => ?_)
            refine lv_icmp_ge (tgt := 56) hx hb dX4_fewest_51 (by decide) (fun c_27 => ?_) (fun c_27 => ?_)
            · skip
              have i_27 : x_26.toInt ≤ x_23.toInt := by have h9 := pz_ge c_27; exact h9
              obtain ⟨y_28, ey_28⟩ : ∃ y : Int32, y = (nI j_L4) + 1 := ⟨_, rfl⟩
              refine lv_iinc (v := y_28) (lv' := [(3, .int y_28), (2, .int (nI q)), (0, .ref h0), (1, .int a1)]) hx hb dX4_fewest_56 hl (k := 0) rfl (by rw [ey_28]; rfl) (by decide) rfl (fun ls hl => ?_)
              refine lv_goto (tgt := 4) hx hb dX4_fewest_59 (by decide) ?_
              have e9 : y_28 = nI (j_L4 + 1) := ey_28.trans (nI_1 j_L4)
              subst e9
              exact ih_L4 (j_L4 + 1) ((nI q)) _ _ ls (by omega) (by subst_vars; first | exact Or.inr ⟨_, by omega, rfl⟩ | exact gF_skip hinv (fun h8 => by unfold gBit at h8; exact absurd h8 (by assumption))) hP hS (lv_sub hl [0, 1, 2, 3] rfl)
            · skip
              have i_27 : x_23.toInt < x_26.toInt := by have h9 := pz_nge c_27; exact h9
              refine lv_iload_n hx hb dX4_fewest_54 rfl (lv_at hl 0 rfl) ?_
              refine lv_istore_n (lv' := [(2, .int (nI j_L4)), (3, .int (nI j_L4)), (0, .ref h0), (1, .int a1)]) hx hb dX4_fewest_55 rfl hl (by decide) rfl (fun ls hl => ?_)
              obtain ⟨y_29, ey_29⟩ : ∃ y : Int32, y = (nI j_L4) + 1 := ⟨_, rfl⟩
              refine lv_iinc (v := y_29) (lv' := [(3, .int y_29), (2, .int (nI j_L4)), (0, .ref h0), (1, .int a1)]) hx hb dX4_fewest_56 hl (k := 1) rfl (by rw [ey_29]; rfl) (by decide) rfl (fun ls hl => ?_)
              refine lv_goto (tgt := 4) hx hb dX4_fewest_59 (by decide) ?_
              have e9 : y_29 = nI (j_L4 + 1) := ey_29.trans (nI_1 j_L4)
              subst e9
              exact ih_L4 (j_L4 + 1) ((nI j_L4)) _ _ ls (by omega) (by subst_vars; first | exact Or.inr ⟨_, by omega, rfl⟩ | exact gF_skip hinv (fun h8 => by unfold gBit at h8; exact absurd h8 (by assumption))) hP hS (lv_sub hl [0, 1, 2, 3] rfl)
  exact loop_L4 ns 0 ((-1)) _ _ ls (by omega) (Or.inl ⟨rfl, fun s h => absurd h (Nat.not_lt_zero s)⟩) hP hS hl
