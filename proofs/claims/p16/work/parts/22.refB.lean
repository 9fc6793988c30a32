set_option maxHeartbeats 40000000 in
set_option maxRecDepth 100000 in
theorem m_X4_serverOf (l : Launch) (dC : Nat → ClassId) (dI : Nat → Nat → Nat) (h0 : Nat) (R : Nat → Nat) (C : Nat → ClassId) (I : Nat → Int32) (F : Nat → Nat → Int32) (ns : Nat) (a1 : Int32) (a2 : Int32) (sz : Nat) (hns : I 2 = nI ns) (hbn : ns ≤ 8) : Met l yX4_serverOf wsX4_serverOf ({ frames := 2, cells := 0, slots := 0, locals := 42 }) (va_Pc [.ref h0, .int a1, .int a2] (pzPre (dC, dI) vwCl (gW h0 R C I F) (gT C) sz)) (va_Qi (fun (r : Int32) (u : (Nat → Int32) × (Nat → Nat → Int32)) => u.1 = I ∧ ∀ k, k ≠ 0 → u.2 k = F k) (fun (u : (Nat → Int32) × (Nat → Nat → Int32)) (t : State) => va_P (dC, dI) vwCl (gW h0 R C u.1 u.2) t.heap ∧ va_K (dC, dI) vwCl (gT C) t ∧ va_D (va_A (gW h0 R C I F) sz) (gW h0 R C u.1 u.2)) (va_A (gW h0 R C I F) sz)) 0 0 (va_A (gW h0 R C I F) sz) := by
  refine Met.ofW (cc := cX4_serverOf) (maxL := 3) (ret := (some .int)) (by decide) rfl ?_
  intro p e s m args below meth c s₁ B hml hv
  obtain ⟨rfl, hsz, hP, hK, hD0⟩ := hv
  have hx := B.exec
  have hb := B.bytes
  have hr := B.returns
  have hts := atoms_spec (ws := wsX4_serverOf) B.pre
  have hown : s.vm.findClass RX4 = some m.cls := findClass_of_methodNamed B.named
  have hlocks := B.notSynchronized
  subst hsz
  have hD := hD0.self (sz := s.heap.size)
  generalize hAe : va_A (gW h0 R C I F) s.heap.size = A at hD ⊢
  have hA : ∀ q : Nat, s.heap.size ≤ q → A q := fun q h => by rw [← hAe]; exact Or.inr h
  have hS : va_S A s.heap s.heap [] := va_S.rf
  have hP : va_P (dC, dI) vwCl (gW h0 R C I F) s.heap := hP
  have hnsI : (nI ns).toInt = (ns : Int) := nI_toInt (by omega)
  have hl := lv_entry ([.ref h0, .int a1, .int a2]) (n := 3) (Nat.le_of_ble_eq_true rfl)
  rw [lg_entry_eq]
  generalize (lg_sl ([.ref h0, .int a1, .int a2]) ++ List.replicate (3 - (lg_sl ([.ref h0, .int a1, .int a2])).length) Slot.unset).toArray = ls at hl ⊢
  have hl : lv_has ls 3 [(0, .ref h0), (1, .int a1), (2, .int a2)] := hl
  refine lv_aload_n hx hb dX4_serverOf_0 rfl (lv_at hl 0 rfl) ?_
  refine lv_iload_n hx hb dX4_serverOf_1 rfl (lv_at hl 1 rfl) ?_
  have hPc := hP.sub (ws' := (gW h0 R C I F)) [0, 1, 2, 3, 4, 5, 6, 7, 8, 9, 10, 11, 12, 13, 14, 15, 16, 17, 18, 19, 20, 21, 22, 23, 24, 25, 26, 27, 28, 29, 30, 31, 32] rfl
  have hDc := hD.sub (ws' := (gW h0 R C I F)) [0, 1, 2, 3, 4, 5, 6, 7, 8, 9, 10, 11, 12, 13, 14, 15, 16, 17, 18, 19, 20, 21, 22, 23, 24, 25, 26, 27, 28, 29, 30, 31, 32] (by decide) rfl
  have hKc := hK.sub (tys' := (gT C)) [0, 1, 2, 3, 4, 5, 6, 7, 8, 9, 10, 11, 12, 13, 14, 15, 16, 17, 18, 19, 20, 21, 22, 23, 24, 25, 26, 27, 28, 29, 30, 31] rfl
  have hFc := pz_f hA hS
  refine va_calli (va_runV (As := [.int a1]) (rest := []) ⟨hx, hb, hml, hown, hts⟩ (m_X4_isServer l dC dI h0 R C I F ns a1 s.heap.size hns hbn) (cwV 1 hts gX4_serverOf_X4_isServer rfl rfl rfl (by decide +kernel) ⟨Nat.le_of_ble_eq_true rfl, Nat.le_of_ble_eq_true rfl⟩) ⟨pz_blind, va_recv hKc hPc (ci := 5) (q0 := 0) rfl rfl, fun U hU hW => ⟨rfl, pz_at hPc hKc hDc hU hW⟩⟩ rfl rfl hl.1 rfl (lv_room (Nat.le_of_ble_eq_true rfl)) dX4_serverOf_2 ⟨Nat.le_of_ble_eq_true rfl, Nat.le_of_ble_eq_true rfl⟩) hS (fun q _ h => hFc q h) hFc (fun r_1 u t H locs ht hvm hw hB hz1 hk1 hS => ?_)
  have hP := pz_keep hP hk1
  rcases hw with ⟨f_1_0, f_1_1, hr9⟩ | ⟨f_1_0, hr9⟩
  · skip
    have hr9 : r_1 = 1 := hr9
    subst hr9
    have f_1_0 : 0 ≤ a1.toInt := pz_id f_1_0
    have f_1_1 : a1.toInt < (nI ns).toInt := pz_id f_1_1
    obtain ⟨j_1, hj_1, ej_1⟩ : ∃ j : Nat, j < ns ∧ a1 = nI j := pz_ixof f_1_0 f_1_1 (by omega)
    subst ej_1
    refine lv_if_ne (tgt := 14) hx hb dX4_serverOf_5 (by decide) (fun c_2 => ?_) (fun c_2 => absurd c_2 (by decide))
    refine lv_iload_n hx hb dX4_serverOf_14 rfl (lv_at hl 2 rfl) ?_
    by_cases t_3 : a2.toInt < 0 ∨ 15 < a2.toInt
    · skip
      refine lv_tableOut (tgt := 222) hx hb dX4_serverOf_15 t_3 (by decide) ?_
      refine lv_aload_n hx hb dX4_serverOf_222 rfl (lv_at hl 0 rfl) ?_
      refine lv_bipush (v := (-2)) hx hb dX4_serverOf_223 (by decide) ?_
      have hPc := hP.sub (ws' := (gW h0 R C I F)) [0, 1, 2, 3, 4, 5, 6, 7, 8, 9, 10, 11, 12, 13, 14, 15, 16, 17, 18, 19, 20, 21, 22, 23, 24, 25, 26, 27, 28, 29, 30, 31, 32] rfl
      have hDc := hD.sub (ws' := (gW h0 R C I F)) [0, 1, 2, 3, 4, 5, 6, 7, 8, 9, 10, 11, 12, 13, 14, 15, 16, 17, 18, 19, 20, 21, 22, 23, 24, 25, 26, 27, 28, 29, 30, 31, 32] (by decide) rfl
      have hKc := hK.sub (tys' := (gT C)) [0, 1, 2, 3, 4, 5, 6, 7, 8, 9, 10, 11, 12, 13, 14, 15, 16, 17, 18, 19, 20, 21, 22, 23, 24, 25, 26, 27, 28, 29, 30, 31] rfl
      have hFc := va_free (wc := (gW h0 R C I F)) hD hS hA [0, 1, 2, 3, 4, 5, 6, 7, 8, 9, 10, 11, 12, 13, 14, 15, 16, 17, 18, 19, 20, 21, 22, 23, 24, 25, 26, 27, 28, 29, 30, 31, 32] rfl
      refine va_calli (va_runV (As := [.int (-2)]) (rest := []) ⟨hx, hb, hml, hown, hts⟩ (m_X4_refuse2 l dC dI h0 R C I F H.size) (cwV 1 hts gX4_serverOf_X4_refuse rfl rfl rfl (by decide +kernel) ⟨Nat.le_of_ble_eq_true rfl, Nat.le_of_ble_eq_true rfl⟩) ⟨pz_blind, va_recv hKc hPc (ci := 5) (q0 := 0) rfl rfl, fun U hU hW => ⟨rfl, pz_at hPc hKc hDc hU hW⟩⟩ rfl rfl hl.1 rfl (lv_room (Nat.le_of_ble_eq_true rfl)) dX4_serverOf_225 ⟨Nat.le_of_ble_eq_true rfl, Nat.le_of_ble_eq_true rfl⟩) hS (fun q _ h => hFc q h) hFc (fun r_4 u t H locs ht hvm hw hB hz1 hk1 hS => ?_)
      obtain ⟨I_4, F_4⟩ := u
      obtain ⟨hP1, hK1, hD1⟩ := hB
      rw [ht] at hP1
      try dsimp only at hw
      have hP := hP1
      have hD := hD1.weaken (fun _ _ _ h9 => hFc _ h9)
      have hP : va_P (dC, dI) vwCl (gW h0 R C I_4 F_4) H := hP
      have hD : va_D A (gW h0 R C I_4 F_4) := hD
      have hr8 : r_4 = (-2) := hw.1
      subst hr8
      exact W.iret (v := (-2)) hx hb hr (fun t ht hW => ⟨⟨(-2), (I_4, F_4), rfl, (by first | exact ⟨rfl, fun k hk => rfl⟩ | exact ⟨hw.2.1, hw.2.2⟩), by rw [ht]; exact hP, va_K.moved hW.alike hK, hD⟩, hS.F ht⟩) hS.2.2 dX4_serverOf_228
    · skip
      rcases pz_cases16 t_3 with e_3 | e_3 | e_3 | e_3 | e_3 | e_3 | e_3 | e_3 | e_3 | e_3 | e_3 | e_3 | e_3 | e_3 | e_3 | e_3
      · skip
        subst e_3
        refine lv_tableIn (off := 77) (tgt := 92) hx hb dX4_serverOf_15 (by decide) (by decide) (by decide) (by decide) ?_
        refine lv_aload_n hx hb dX4_serverOf_92 rfl (lv_at hl 0 rfl) ?_
        refine va_get (D := (dC, dI)) (ci := 5) (v := .ref (R 17)) (C := RX4) (T := TX4) (N := 43) hx hb hts (fun _ h => List.mem_cons_of_mem _ (List.mem_append_right _ h)) hown hK hP 0 rfl rfl 17 (by decide) (hts (.fieldLink RX4 38 "FrontDoorModel" "health" "[I") (by decide +kernel)) (fun _ h9 => h9) rfl dX4_serverOf_93 ?_
        refine lv_iload_n hx hb dX4_serverOf_96 rfl (lv_at hl 1 rfl) ?_
        refine va_iald hx hb hK hP 8 7 rfl rfl (vp_in_nI (by omega) (by decide)) dX4_serverOf_97 ?_
        refine lv_topi (fun x_5 ex_5 => ?_)
        replace ex_5 : x_5 = (F 17) (Int32.toNatClampNeg (nI j_1)) := ex_5
        exact W.iret (v := x_5) hx hb hr (fun t ht hW => ⟨⟨x_5, (I, F), rfl, (by first | exact ⟨rfl, fun k hk => rfl⟩ | exact ⟨hw.2.1, hw.2.2⟩), by rw [ht]; exact hP, va_K.moved hW.alike hK, hD⟩, hS.F ht⟩) hS.2.2 dX4_serverOf_98
      · skip
        subst e_3
        refine lv_tableIn (off := 84) (tgt := 99) hx hb dX4_serverOf_15 (by decide) (by decide) (by decide) (by decide) ?_
        refine lv_aload_n hx hb dX4_serverOf_99 rfl (lv_at hl 0 rfl) ?_
        refine va_get (D := (dC, dI)) (ci := 5) (v := .ref (R 18)) (C := RX4) (T := TX4) (N := 43) hx hb hts (fun _ h => List.mem_cons_of_mem _ (List.mem_append_right _ h)) hown hK hP 0 rfl rfl 18 (by decide) (hts (.fieldLink RX4 41 "FrontDoorModel" "open" "[I") (by decide +kernel)) (fun _ h9 => h9) rfl dX4_serverOf_100 ?_
        refine lv_iload_n hx hb dX4_serverOf_103 rfl (lv_at hl 1 rfl) ?_
        refine va_iald hx hb hK hP 9 8 rfl rfl (vp_in_nI (by omega) (by decide)) dX4_serverOf_104 ?_
        refine lv_topi (fun x_6 ex_6 => ?_)
        replace ex_6 : x_6 = (F 18) (Int32.toNatClampNeg (nI j_1)) := ex_6
        exact W.iret (v := x_6) hx hb hr (fun t ht hW => ⟨⟨x_6, (I, F), rfl, (by first | exact ⟨rfl, fun k hk => rfl⟩ | exact ⟨hw.2.1, hw.2.2⟩), by rw [ht]; exact hP, va_K.moved hW.alike hK, hD⟩, hS.F ht⟩) hS.2.2 dX4_serverOf_105
      · skip
        subst e_3
        refine lv_tableIn (off := 91) (tgt := 106) hx hb dX4_serverOf_15 (by decide) (by decide) (by decide) (by decide) ?_
        refine lv_aload_n hx hb dX4_serverOf_106 rfl (lv_at hl 0 rfl) ?_
        refine va_get (D := (dC, dI)) (ci := 5) (v := .ref (R 19)) (C := RX4) (T := TX4) (N := 43) hx hb hts (fun _ h => List.mem_cons_of_mem _ (List.mem_append_right _ h)) hown hK hP 0 rfl rfl 19 (by decide) (hts (.fieldLink RX4 44 "FrontDoorModel" "asked" "[I") (by decide +kernel)) (fun _ h9 => h9) rfl dX4_serverOf_107 ?_
        refine lv_iload_n hx hb dX4_serverOf_110 rfl (lv_at hl 1 rfl) ?_
        refine va_iald hx hb hK hP 10 9 rfl rfl (vp_in_nI (by omega) (by decide)) dX4_serverOf_111 ?_
        refine lv_topi (fun x_7 ex_7 => ?_)
        replace ex_7 : x_7 = (F 19) (Int32.toNatClampNeg (nI j_1)) := ex_7
        exact W.iret (v := x_7) hx hb hr (fun t ht hW => ⟨⟨x_7, (I, F), rfl, (by first | exact ⟨rfl, fun k hk => rfl⟩ | exact ⟨hw.2.1, hw.2.2⟩), by rw [ht]; exact hP, va_K.moved hW.alike hK, hD⟩, hS.F ht⟩) hS.2.2 dX4_serverOf_112
      · skip
        subst e_3
        refine lv_tableIn (off := 98) (tgt := 113) hx hb dX4_serverOf_15 (by decide) (by decide) (by decide) (by decide) ?_
        refine lv_aload_n hx hb dX4_serverOf_113 rfl (lv_at hl 0 rfl) ?_
        refine va_get (D := (dC, dI)) (ci := 5) (v := .ref (R 20)) (C := RX4) (T := TX4) (N := 43) hx hb hts (fun _ h => List.mem_cons_of_mem _ (List.mem_append_right _ h)) hown hK hP 0 rfl rfl 20 (by decide) (hts (.fieldLink RX4 47 "FrontDoorModel" "answers" "[I") (by decide +kernel)) (fun _ h9 => h9) rfl dX4_serverOf_114 ?_
        refine lv_iload_n hx hb dX4_serverOf_117 rfl (lv_at hl 1 rfl) ?_
        refine va_iald hx hb hK hP 11 10 rfl rfl (vp_in_nI (by omega) (by decide)) dX4_serverOf_118 ?_
        refine lv_topi (fun x_8 ex_8 => ?_)
        replace ex_8 : x_8 = (F 20) (Int32.toNatClampNeg (nI j_1)) := ex_8
        exact W.iret (v := x_8) hx hb hr (fun t ht hW => ⟨⟨x_8, (I, F), rfl, (by first | exact ⟨rfl, fun k hk => rfl⟩ | exact ⟨hw.2.1, hw.2.2⟩), by rw [ht]; exact hP, va_K.moved hW.alike hK, hD⟩, hS.F ht⟩) hS.2.2 dX4_serverOf_119
      · skip
        subst e_3
        refine lv_tableIn (off := 105) (tgt := 120) hx hb dX4_serverOf_15 (by decide) (by decide) (by decide) (by decide) ?_
        refine lv_aload_n hx hb dX4_serverOf_120 rfl (lv_at hl 0 rfl) ?_
        refine va_get (D := (dC, dI)) (ci := 5) (v := .ref (R 21)) (C := RX4) (T := TX4) (N := 43) hx hb hts (fun _ h => List.mem_cons_of_mem _ (List.mem_append_right _ h)) hown hK hP 0 rfl rfl 21 (by decide) (hts (.fieldLink RX4 50 "FrontDoorModel" "failures" "[I") (by decide +kernel)) (fun _ h9 => h9) rfl dX4_serverOf_121 ?_
        refine lv_iload_n hx hb dX4_serverOf_124 rfl (lv_at hl 1 rfl) ?_
        refine va_iald hx hb hK hP 12 11 rfl rfl (vp_in_nI (by omega) (by decide)) dX4_serverOf_125 ?_
        refine lv_topi (fun x_9 ex_9 => ?_)
        replace ex_9 : x_9 = (F 21) (Int32.toNatClampNeg (nI j_1)) := ex_9
        exact W.iret (v := x_9) hx hb hr (fun t ht hW => ⟨⟨x_9, (I, F), rfl, (by first | exact ⟨rfl, fun k hk => rfl⟩ | exact ⟨hw.2.1, hw.2.2⟩), by rw [ht]; exact hP, va_K.moved hW.alike hK, hD⟩, hS.F ht⟩) hS.2.2 dX4_serverOf_126
      · skip
        subst e_3
        refine lv_tableIn (off := 112) (tgt := 127) hx hb dX4_serverOf_15 (by decide) (by decide) (by decide) (by decide) ?_
        refine lv_aload_n hx hb dX4_serverOf_127 rfl (lv_at hl 0 rfl) ?_
        refine va_get (D := (dC, dI)) (ci := 5) (v := .ref (R 22)) (C := RX4) (T := TX4) (N := 43) hx hb hts (fun _ h => List.mem_cons_of_mem _ (List.mem_append_right _ h)) hown hK hP 0 rfl rfl 22 (by decide) (hts (.fieldLink RX4 53 "FrontDoorModel" "row" "[I") (by decide +kernel)) (fun _ h9 => h9) rfl dX4_serverOf_128 ?_
        refine lv_iload_n hx hb dX4_serverOf_131 rfl (lv_at hl 1 rfl) ?_
        refine va_iald hx hb hK hP 13 12 rfl rfl (vp_in_nI (by omega) (by decide)) dX4_serverOf_132 ?_
        refine lv_topi (fun x_10 ex_10 => ?_)
        replace ex_10 : x_10 = (F 22) (Int32.toNatClampNeg (nI j_1)) := ex_10
        exact W.iret (v := x_10) hx hb hr (fun t ht hW => ⟨⟨x_10, (I, F), rfl, (by first | exact ⟨rfl, fun k hk => rfl⟩ | exact ⟨hw.2.1, hw.2.2⟩), by rw [ht]; exact hP, va_K.moved hW.alike hK, hD⟩, hS.F ht⟩) hS.2.2 dX4_serverOf_133
      · skip
        subst e_3
        refine lv_tableIn (off := 119) (tgt := 134) hx hb dX4_serverOf_15 (by decide) (by decide) (by decide) (by decide) ?_
        refine lv_aload_n hx hb dX4_serverOf_134 rfl (lv_at hl 0 rfl) ?_
        refine va_get (D := (dC, dI)) (ci := 5) (v := .ref (R 17)) (C := RX4) (T := TX4) (N := 43) hx hb hts (fun _ h => List.mem_cons_of_mem _ (List.mem_append_right _ h)) hown hK hP 0 rfl rfl 17 (by decide) (hts (.fieldLink RX4 38 "FrontDoorModel" "health" "[I") (by decide +kernel)) (fun _ h9 => h9) rfl dX4_serverOf_135 ?_
        refine lv_iload_n hx hb dX4_serverOf_138 rfl (lv_at hl 1 rfl) ?_
        refine va_iald hx hb hK hP 8 7 rfl rfl (vp_in_nI (by omega) (by decide)) dX4_serverOf_139 ?_
        refine lv_topi (fun x_11 ex_11 => ?_)
        replace ex_11 : x_11 = (F 17) (Int32.toNatClampNeg (nI j_1)) := ex_11
        refine lv_iconst (v := 1) hx hb dX4_serverOf_140 (by decide) ?_
        refine lv_icmp_ne (tgt := 153) hx hb dX4_serverOf_141 (by decide) (fun c_12 => ?_) (fun c_12 => ?_)
        · skip
          have i_12 : ¬ x_11.toInt = 1 := by have h9 := pz_neq c_12; exact h9
          refine lv_bipush (v := (-9)) hx hb dX4_serverOf_153 (by decide) ?_
          exact W.iret (v := (-9)) hx hb hr (fun t ht hW => ⟨⟨(-9), (I, F), rfl, (by first | exact ⟨rfl, fun k hk => rfl⟩ | exact ⟨hw.2.1, hw.2.2⟩), by rw [ht]; exact hP, va_K.moved hW.alike hK, hD⟩, hS.F ht⟩) hS.2.2 dX4_serverOf_155
        · skip
          have i_12 : x_11.toInt = 1 := by have h9 := pz_eq c_12; exact h9
          refine lv_aload_n hx hb dX4_serverOf_144 rfl (lv_at hl 0 rfl) ?_
          refine va_get (D := (dC, dI)) (ci := 5) (v := .ref (R 23)) (C := RX4) (T := TX4) (N := 43) hx hb hts (fun _ h => List.mem_cons_of_mem _ (List.mem_append_right _ h)) hown hK hP 0 rfl rfl 23 (by decide) (hts (.fieldLink RX4 56 "FrontDoorModel" "until" "[I") (by decide +kernel)) (fun _ h9 => h9) rfl dX4_serverOf_145 ?_
          refine lv_iload_n hx hb dX4_serverOf_148 rfl (lv_at hl 1 rfl) ?_
          refine va_iald hx hb hK hP 14 13 rfl rfl (vp_in_nI (by omega) (by decide)) dX4_serverOf_149 ?_
          refine lv_topi (fun x_13 ex_13 => ?_)
          replace ex_13 : x_13 = (F 23) (Int32.toNatClampNeg (nI j_1)) := ex_13
          refine lv_goto (tgt := 155) hx hb dX4_serverOf_150 (by decide) ?_
          exact W.iret (v := x_13) hx hb hr (fun t ht hW => ⟨⟨x_13, (I, F), rfl, (by first | exact ⟨rfl, fun k hk => rfl⟩ | exact ⟨hw.2.1, hw.2.2⟩), by rw [ht]; exact hP, va_K.moved hW.alike hK, hD⟩, hS.F ht⟩) hS.2.2 dX4_serverOf_155
      · skip
        subst e_3
        refine lv_tableIn (off := 141) (tgt := 156) hx hb dX4_serverOf_15 (by decide) (by decide) (by decide) (by decide) ?_
        refine lv_aload_n hx hb dX4_serverOf_156 rfl (lv_at hl 0 rfl) ?_
        refine va_get (D := (dC, dI)) (ci := 5) (v := .ref (R 24)) (C := RX4) (T := TX4) (N := 43) hx hb hts (fun _ h => List.mem_cons_of_mem _ (List.mem_append_right _ h)) hown hK hP 0 rfl rfl 24 (by decide) (hts (.fieldLink RX4 59 "FrontDoorModel" "penalty" "[I") (by decide +kernel)) (fun _ h9 => h9) rfl dX4_serverOf_157 ?_
        refine lv_iload_n hx hb dX4_serverOf_160 rfl (lv_at hl 1 rfl) ?_
        refine va_iald hx hb hK hP 15 14 rfl rfl (vp_in_nI (by omega) (by decide)) dX4_serverOf_161 ?_
        refine lv_topi (fun x_14 ex_14 => ?_)
        replace ex_14 : x_14 = (F 24) (Int32.toNatClampNeg (nI j_1)) := ex_14
        exact W.iret (v := x_14) hx hb hr (fun t ht hW => ⟨⟨x_14, (I, F), rfl, (by first | exact ⟨rfl, fun k hk => rfl⟩ | exact ⟨hw.2.1, hw.2.2⟩), by rw [ht]; exact hP, va_K.moved hW.alike hK, hD⟩, hS.F ht⟩) hS.2.2 dX4_serverOf_162
      · skip
        subst e_3
        refine lv_tableIn (off := 148) (tgt := 163) hx hb dX4_serverOf_15 (by decide) (by decide) (by decide) (by decide) ?_
        refine lv_aload_n hx hb dX4_serverOf_163 rfl (lv_at hl 0 rfl) ?_
        refine va_get (D := (dC, dI)) (ci := 5) (v := .ref (R 25)) (C := RX4) (T := TX4) (N := 43) hx hb hts (fun _ h => List.mem_cons_of_mem _ (List.mem_append_right _ h)) hown hK hP 0 rfl rfl 25 (by decide) (hts (.fieldLink RX4 62 "FrontDoorModel" "outs" "[I") (by decide +kernel)) (fun _ h9 => h9) rfl dX4_serverOf_164 ?_
        refine lv_iload_n hx hb dX4_serverOf_167 rfl (lv_at hl 1 rfl) ?_
        refine va_iald hx hb hK hP 16 15 rfl rfl (vp_in_nI (by omega) (by decide)) dX4_serverOf_168 ?_
        refine lv_topi (fun x_15 ex_15 => ?_)
        replace ex_15 : x_15 = (F 25) (Int32.toNatClampNeg (nI j_1)) := ex_15
        exact W.iret (v := x_15) hx hb hr (fun t ht hW => ⟨⟨x_15, (I, F), rfl, (by first | exact ⟨rfl, fun k hk => rfl⟩ | exact ⟨hw.2.1, hw.2.2⟩), by rw [ht]; exact hP, va_K.moved hW.alike hK, hD⟩, hS.F ht⟩) hS.2.2 dX4_serverOf_169
      · skip
        subst e_3
        refine lv_tableIn (off := 155) (tgt := 170) hx hb dX4_serverOf_15 (by decide) (by decide) (by decide) (by decide) ?_
        refine lv_aload_n hx hb dX4_serverOf_170 rfl (lv_at hl 0 rfl) ?_
        refine va_get (D := (dC, dI)) (ci := 5) (v := .ref (R 26)) (C := RX4) (T := TX4) (N := 43) hx hb hts (fun _ h => List.mem_cons_of_mem _ (List.mem_append_right _ h)) hown hK hP 0 rfl rfl 26 (by decide) (hts (.fieldLink RX4 65 "FrontDoorModel" "credit" "[I") (by decide +kernel)) (fun _ h9 => h9) rfl dX4_serverOf_171 ?_
        refine lv_iload_n hx hb dX4_serverOf_174 rfl (lv_at hl 1 rfl) ?_
        refine va_iald hx hb hK hP 17 16 rfl rfl (vp_in_nI (by omega) (by decide)) dX4_serverOf_175 ?_
        refine lv_topi (fun x_16 ex_16 => ?_)
        replace ex_16 : x_16 = (F 26) (Int32.toNatClampNeg (nI j_1)) := ex_16
        refine lv_ldc hx hb hown (hts (.constant RX4 234 (1000000000)) (by decide +kernel)) dX4_serverOf_176 ?_
        refine lv_iadd hx hb dX4_serverOf_178 ?_
        refine lv_topi (fun x_17 ex_17 => ?_)
        exact W.iret (v := x_17) hx hb hr (fun t ht hW => ⟨⟨x_17, (I, F), rfl, (by first | exact ⟨rfl, fun k hk => rfl⟩ | exact ⟨hw.2.1, hw.2.2⟩), by rw [ht]; exact hP, va_K.moved hW.alike hK, hD⟩, hS.F ht⟩) hS.2.2 dX4_serverOf_179
      · skip
        subst e_3
        refine lv_tableIn (off := 165) (tgt := 180) hx hb dX4_serverOf_15 (by decide) (by decide) (by decide) (by decide) ?_
        refine lv_aload_n hx hb dX4_serverOf_180 rfl (lv_at hl 0 rfl) ?_
        refine va_get (D := (dC, dI)) (ci := 5) (v := .ref (R 11)) (C := RX4) (T := TX4) (N := 43) hx hb hts (fun _ h => List.mem_cons_of_mem _ (List.mem_append_right _ h)) hown hK hP 0 rfl rfl 11 (by decide) (hts (.fieldLink RX4 20 "FrontDoorModel" "weight" "[I") (by decide +kernel)) (fun _ h9 => h9) rfl dX4_serverOf_181 ?_
        refine lv_iload_n hx hb dX4_serverOf_184 rfl (lv_at hl 1 rfl) ?_
        refine va_iald hx hb hK hP 2 1 rfl rfl (vp_in_nI (by omega) (by decide)) dX4_serverOf_185 ?_
        refine lv_topi (fun x_18 ex_18 => ?_)
        replace ex_18 : x_18 = (F 11) (Int32.toNatClampNeg (nI j_1)) := ex_18
        exact W.iret (v := x_18) hx hb hr (fun t ht hW => ⟨⟨x_18, (I, F), rfl, (by first | exact ⟨rfl, fun k hk => rfl⟩ | exact ⟨hw.2.1, hw.2.2⟩), by rw [ht]; exact hP, va_K.moved hW.alike hK, hD⟩, hS.F ht⟩) hS.2.2 dX4_serverOf_186
      · skip
        subst e_3
        refine lv_tableIn (off := 172) (tgt := 187) hx hb dX4_serverOf_15 (by decide) (by decide) (by decide) (by decide) ?_
        refine lv_aload_n hx hb dX4_serverOf_187 rfl (lv_at hl 0 rfl) ?_
        refine va_get (D := (dC, dI)) (ci := 5) (v := .ref (R 12)) (C := RX4) (T := TX4) (N := 43) hx hb hts (fun _ h => List.mem_cons_of_mem _ (List.mem_append_right _ h)) hown hK hP 0 rfl rfl 12 (by decide) (hts (.fieldLink RX4 23 "FrontDoorModel" "zone" "[I") (by decide +kernel)) (fun _ h9 => h9) rfl dX4_serverOf_188 ?_
        refine lv_iload_n hx hb dX4_serverOf_191 rfl (lv_at hl 1 rfl) ?_
        refine va_iald hx hb hK hP 3 2 rfl rfl (vp_in_nI (by omega) (by decide)) dX4_serverOf_192 ?_
        refine lv_topi (fun x_19 ex_19 => ?_)
        replace ex_19 : x_19 = (F 12) (Int32.toNatClampNeg (nI j_1)) := ex_19
        exact W.iret (v := x_19) hx hb hr (fun t ht hW => ⟨⟨x_19, (I, F), rfl, (by first | exact ⟨rfl, fun k hk => rfl⟩ | exact ⟨hw.2.1, hw.2.2⟩), by rw [ht]; exact hP, va_K.moved hW.alike hK, hD⟩, hS.F ht⟩) hS.2.2 dX4_serverOf_193
      · skip
        subst e_3
        refine lv_tableIn (off := 179) (tgt := 194) hx hb dX4_serverOf_15 (by decide) (by decide) (by decide) (by decide) ?_
        refine lv_aload_n hx hb dX4_serverOf_194 rfl (lv_at hl 0 rfl) ?_
        refine va_get (D := (dC, dI)) (ci := 5) (v := .ref (R 13)) (C := RX4) (T := TX4) (N := 43) hx hb hts (fun _ h => List.mem_cons_of_mem _ (List.mem_append_right _ h)) hown hK hP 0 rfl rfl 13 (by decide) (hts (.fieldLink RX4 26 "FrontDoorModel" "room" "[I") (by decide +kernel)) (fun _ h9 => h9) rfl dX4_serverOf_195 ?_
        refine lv_iload_n hx hb dX4_serverOf_198 rfl (lv_at hl 1 rfl) ?_
        refine va_iald hx hb hK hP 4 3 rfl rfl (vp_in_nI (by omega) (by decide)) dX4_serverOf_199 ?_
        refine lv_topi (fun x_20 ex_20 => ?_)
        replace ex_20 : x_20 = (F 13) (Int32.toNatClampNeg (nI j_1)) := ex_20
        exact W.iret (v := x_20) hx hb hr (fun t ht hW => ⟨⟨x_20, (I, F), rfl, (by first | exact ⟨rfl, fun k hk => rfl⟩ | exact ⟨hw.2.1, hw.2.2⟩), by rw [ht]; exact hP, va_K.moved hW.alike hK, hD⟩, hS.F ht⟩) hS.2.2 dX4_serverOf_200
      · skip
        subst e_3
        refine lv_tableIn (off := 186) (tgt := 201) hx hb dX4_serverOf_15 (by decide) (by decide) (by decide) (by decide) ?_
        refine lv_aload_n hx hb dX4_serverOf_201 rfl (lv_at hl 0 rfl) ?_
        refine va_get (D := (dC, dI)) (ci := 5) (v := .ref (R 14)) (C := RX4) (T := TX4) (N := 43) hx hb hts (fun _ h => List.mem_cons_of_mem _ (List.mem_append_right _ h)) hown hK hP 0 rfl rfl 14 (by decide) (hts (.fieldLink RX4 29 "FrontDoorModel" "pace" "[I") (by decide +kernel)) (fun _ h9 => h9) rfl dX4_serverOf_202 ?_
        refine lv_iload_n hx hb dX4_serverOf_205 rfl (lv_at hl 1 rfl) ?_
        refine va_iald hx hb hK hP 5 4 rfl rfl (vp_in_nI (by omega) (by decide)) dX4_serverOf_206 ?_
        refine lv_topi (fun x_21 ex_21 => ?_)
        replace ex_21 : x_21 = (F 14) (Int32.toNatClampNeg (nI j_1)) := ex_21
        exact W.iret (v := x_21) hx hb hr (fun t ht hW => ⟨⟨x_21, (I, F), rfl, (by first | exact ⟨rfl, fun k hk => rfl⟩ | exact ⟨hw.2.1, hw.2.2⟩), by rw [ht]; exact hP, va_K.moved hW.alike hK, hD⟩, hS.F ht⟩) hS.2.2 dX4_serverOf_207
      · skip
        subst e_3
        refine lv_tableIn (off := 193) (tgt := 208) hx hb dX4_serverOf_15 (by decide) (by decide) (by decide) (by decide) ?_
        refine lv_aload_n hx hb dX4_serverOf_208 rfl (lv_at hl 0 rfl) ?_
        refine va_get (D := (dC, dI)) (ci := 5) (v := .ref (R 15)) (C := RX4) (T := TX4) (N := 43) hx hb hts (fun _ h => List.mem_cons_of_mem _ (List.mem_append_right _ h)) hown hK hP 0 rfl rfl 15 (by decide) (hts (.fieldLink RX4 32 "FrontDoorModel" "breaks" "[I") (by decide +kernel)) (fun _ h9 => h9) rfl dX4_serverOf_209 ?_
        refine lv_iload_n hx hb dX4_serverOf_212 rfl (lv_at hl 1 rfl) ?_
        refine va_iald hx hb hK hP 6 5 rfl rfl (vp_in_nI (by omega) (by decide)) dX4_serverOf_213 ?_
        refine lv_topi (fun x_22 ex_22 => ?_)
        replace ex_22 : x_22 = (F 15) (Int32.toNatClampNeg (nI j_1)) := ex_22
        exact W.iret (v := x_22) hx hb hr (fun t ht hW => ⟨⟨x_22, (I, F), rfl, (by first | exact ⟨rfl, fun k hk => rfl⟩ | exact ⟨hw.2.1, hw.2.2⟩), by rw [ht]; exact hP, va_K.moved hW.alike hK, hD⟩, hS.F ht⟩) hS.2.2 dX4_serverOf_214
      · skip
        subst e_3
        refine lv_tableIn (off := 200) (tgt := 215) hx hb dX4_serverOf_15 (by decide) (by decide) (by decide) (by decide) ?_
        refine lv_aload_n hx hb dX4_serverOf_215 rfl (lv_at hl 0 rfl) ?_
        refine va_get (D := (dC, dI)) (ci := 5) (v := .ref (R 16)) (C := RX4) (T := TX4) (N := 43) hx hb hts (fun _ h => List.mem_cons_of_mem _ (List.mem_append_right _ h)) hown hK hP 0 rfl rfl 16 (by decide) (hts (.fieldLink RX4 35 "FrontDoorModel" "mute" "[I") (by decide +kernel)) (fun _ h9 => h9) rfl dX4_serverOf_216 ?_
        refine lv_iload_n hx hb dX4_serverOf_219 rfl (lv_at hl 1 rfl) ?_
        refine va_iald hx hb hK hP 7 6 rfl rfl (vp_in_nI (by omega) (by decide)) dX4_serverOf_220 ?_
        refine lv_topi (fun x_23 ex_23 => ?_)
        replace ex_23 : x_23 = (F 16) (Int32.toNatClampNeg (nI j_1)) := ex_23
        exact W.iret (v := x_23) hx hb hr (fun t ht hW => ⟨⟨x_23, (I, F), rfl, (by first | exact ⟨rfl, fun k hk => rfl⟩ | exact ⟨hw.2.1, hw.2.2⟩), by rw [ht]; exact hP, va_K.moved hW.alike hK, hD⟩, hS.F ht⟩) hS.2.2 dX4_serverOf_221
  · skip
    have hr9 : r_1 = 0 := hr9
    subst hr9
    have f_1_0 : (a1.toInt < 0 ∨ (nI ns).toInt ≤ a1.toInt) := pz_id f_1_0
    refine lv_if_ne (tgt := 14) hx hb dX4_serverOf_5 (by decide) (fun c_24 => absurd c_24 (by decide)) (fun c_24 => ?_)
    refine lv_aload_n hx hb dX4_serverOf_8 rfl (lv_at hl 0 rfl) ?_
    refine lv_iconst (v := (-1)) hx hb dX4_serverOf_9 (by decide) ?_
    have hPc := hP.sub (ws' := (gW h0 R C I F)) [0, 1, 2, 3, 4, 5, 6, 7, 8, 9, 10, 11, 12, 13, 14, 15, 16, 17, 18, 19, 20, 21, 22, 23, 24, 25, 26, 27, 28, 29, 30, 31, 32] rfl
    have hDc := hD.sub (ws' := (gW h0 R C I F)) [0, 1, 2, 3, 4, 5, 6, 7, 8, 9, 10, 11, 12, 13, 14, 15, 16, 17, 18, 19, 20, 21, 22, 23, 24, 25, 26, 27, 28, 29, 30, 31, 32] (by decide) rfl
    have hKc := hK.sub (tys' := (gT C)) [0, 1, 2, 3, 4, 5, 6, 7, 8, 9, 10, 11, 12, 13, 14, 15, 16, 17, 18, 19, 20, 21, 22, 23, 24, 25, 26, 27, 28, 29, 30, 31] rfl
    have hFc := va_free (wc := (gW h0 R C I F)) hD hS hA [0, 1, 2, 3, 4, 5, 6, 7, 8, 9, 10, 11, 12, 13, 14, 15, 16, 17, 18, 19, 20, 21, 22, 23, 24, 25, 26, 27, 28, 29, 30, 31, 32] rfl
    refine va_calli (va_runV (As := [.int (-1)]) (rest := []) ⟨hx, hb, hml, hown, hts⟩ (m_X4_refuse1 l dC dI h0 R C I F H.size) (cwV 1 hts gX4_serverOf_X4_refuse rfl rfl rfl (by decide +kernel) ⟨Nat.le_of_ble_eq_true rfl, Nat.le_of_ble_eq_true rfl⟩) ⟨pz_blind, va_recv hKc hPc (ci := 5) (q0 := 0) rfl rfl, fun U hU hW => ⟨rfl, pz_at hPc hKc hDc hU hW⟩⟩ rfl rfl hl.1 rfl (lv_room (Nat.le_of_ble_eq_true rfl)) dX4_serverOf_10 ⟨Nat.le_of_ble_eq_true rfl, Nat.le_of_ble_eq_true rfl⟩) hS (fun q _ h => hFc q h) hFc (fun r_25 u t H locs ht hvm hw hB hz1 hk1 hS => ?_)
    obtain ⟨I_25, F_25⟩ := u
    obtain ⟨hP1, hK1, hD1⟩ := hB
    rw [ht] at hP1
    try dsimp only at hw
    have hP := hP1
    have hD := hD1.weaken (fun _ _ _ h9 => hFc _ h9)
    have hP : va_P (dC, dI) vwCl (gW h0 R C I_25 F_25) H := hP
    have hD : va_D A (gW h0 R C I_25 F_25) := hD
    have hr8 : r_25 = (-1) := hw.1
    subst hr8
    exact W.iret (v := (-1)) hx hb hr (fun t ht hW => ⟨⟨(-1), (I_25, F_25), rfl, (by first | exact ⟨rfl, fun k hk => rfl⟩ | exact ⟨hw.2.1, hw.2.2⟩), by rw [ht]; exact hP, va_K.moved hW.alike hK, hD⟩, hS.F ht⟩) hS.2.2 dX4_serverOf_13

set_option maxHeartbeats 40000000 in
set_option maxRecDepth 100000 in
theorem m_X4_callOf (l : Launch) (dC : Nat → ClassId) (dI : Nat → Nat → Nat) (h0 : Nat) (R : Nat → Nat) (C : Nat → ClassId) (I : Nat → Int32) (F : Nat → Nat → Int32) (nc : Nat) (a1 : Int32) (a2 : Int32) (sz : Nat) (hnc : I 3 = nI nc) (hbc : nc ≤ 200) : Met l yX4_callOf wsX4_callOf ({ frames := 2, cells := 0, slots := 0, locals := 42 }) (va_Pc [.ref h0, .int a1, .int a2] (pzPre (dC, dI) vwCl (gW h0 R C I F) (gT C) sz)) (va_Qi (fun (r : Int32) (u : (Nat → Int32) × (Nat → Nat → Int32)) => u.1 = I ∧ ∀ k, k ≠ 0 → u.2 k = F k) (fun (u : (Nat → Int32) × (Nat → Nat → Int32)) (t : State) => va_P (dC, dI) vwCl (gW h0 R C u.1 u.2) t.heap ∧ va_K (dC, dI) vwCl (gT C) t ∧ va_D (va_A (gW h0 R C I F) sz) (gW h0 R C u.1 u.2)) (va_A (gW h0 R C I F) sz)) 0 0 (va_A (gW h0 R C I F) sz) := by
  refine Met.ofW (cc := cX4_callOf) (maxL := 3) (ret := (some .int)) (by decide) rfl ?_
  intro p e s m args below meth c s₁ B hml hv
  obtain ⟨rfl, hsz, hP, hK, hD0⟩ := hv
  have hx := B.exec
  have hb := B.bytes
  have hr := B.returns
  have hts := atoms_spec (ws := wsX4_callOf) B.pre
  have hown : s.vm.findClass RX4 = some m.cls := findClass_of_methodNamed B.named
  have hlocks := B.notSynchronized
  subst hsz
  have hD := hD0.self (sz := s.heap.size)
  generalize hAe : va_A (gW h0 R C I F) s.heap.size = A at hD ⊢
  have hA : ∀ q : Nat, s.heap.size ≤ q → A q := fun q h => by rw [← hAe]; exact Or.inr h
  have hS : va_S A s.heap s.heap [] := va_S.rf
  have hP : va_P (dC, dI) vwCl (gW h0 R C I F) s.heap := hP
  have hncI : (nI nc).toInt = (nc : Int) := nI_toInt (by omega)
  have hl := lv_entry ([.ref h0, .int a1, .int a2]) (n := 3) (Nat.le_of_ble_eq_true rfl)
  rw [lg_entry_eq]
  generalize (lg_sl ([.ref h0, .int a1, .int a2]) ++ List.replicate (3 - (lg_sl ([.ref h0, .int a1, .int a2])).length) Slot.unset).toArray = ls at hl ⊢
  have hl : lv_has ls 3 [(0, .ref h0), (1, .int a1), (2, .int a2)] := hl
  refine lv_aload_n hx hb dX4_callOf_0 rfl (lv_at hl 0 rfl) ?_
  refine lv_iload_n hx hb dX4_callOf_1 rfl (lv_at hl 1 rfl) ?_
  have hPc := hP.sub (ws' := (gW h0 R C I F)) [0, 1, 2, 3, 4, 5, 6, 7, 8, 9, 10, 11, 12, 13, 14, 15, 16, 17, 18, 19, 20, 21, 22, 23, 24, 25, 26, 27, 28, 29, 30, 31, 32] rfl
  have hDc := hD.sub (ws' := (gW h0 R C I F)) [0, 1, 2, 3, 4, 5, 6, 7, 8, 9, 10, 11, 12, 13, 14, 15, 16, 17, 18, 19, 20, 21, 22, 23, 24, 25, 26, 27, 28, 29, 30, 31, 32] (by decide) rfl
  have hKc := hK.sub (tys' := (gT C)) [0, 1, 2, 3, 4, 5, 6, 7, 8, 9, 10, 11, 12, 13, 14, 15, 16, 17, 18, 19, 20, 21, 22, 23, 24, 25, 26, 27, 28, 29, 30, 31] rfl
  have hFc := pz_f hA hS
  refine va_calli (va_runV (As := [.int a1]) (rest := []) ⟨hx, hb, hml, hown, hts⟩ (m_X4_isCall l dC dI h0 R C I F nc a1 s.heap.size hnc hbc) (cwV 1 hts gX4_callOf_X4_isCall rfl rfl rfl (by decide +kernel) ⟨Nat.le_of_ble_eq_true rfl, Nat.le_of_ble_eq_true rfl⟩) ⟨pz_blind, va_recv hKc hPc (ci := 5) (q0 := 0) rfl rfl, fun U hU hW => ⟨rfl, pz_at hPc hKc hDc hU hW⟩⟩ rfl rfl hl.1 rfl (lv_room (Nat.le_of_ble_eq_true rfl)) dX4_callOf_2 ⟨Nat.le_of_ble_eq_true rfl, Nat.le_of_ble_eq_true rfl⟩) hS (fun q _ h => hFc q h) hFc (fun r_1 u t H locs ht hvm hw hB hz1 hk1 hS => ?_)
  have hP := pz_keep hP hk1
  rcases hw with ⟨f_1_0, f_1_1, hr9⟩ | ⟨f_1_0, hr9⟩
  · skip
    have hr9 : r_1 = 1 := hr9
    subst hr9
    have f_1_0 : 0 ≤ a1.toInt := pz_id f_1_0
    have f_1_1 : a1.toInt < (nI nc).toInt := pz_id f_1_1
    obtain ⟨j_1, hj_1, ej_1⟩ : ∃ j : Nat, j < nc ∧ a1 = nI j := pz_ixof f_1_0 f_1_1 (by omega)
    subst ej_1
    refine lv_if_ne (tgt := 14) hx hb dX4_callOf_5 (by decide) (fun c_2 => ?_) (fun c_2 => absurd c_2 (by decide))
    refine lv_iload_n hx hb dX4_callOf_14 rfl (lv_at hl 2 rfl) ?_
    by_cases t_3 : a2.toInt < 0 ∨ 10 < a2.toInt
    · skip
      refine lv_tableOut (tgt := 211) hx hb dX4_callOf_15 t_3 (by decide) ?_
      refine lv_aload_n hx hb dX4_callOf_211 rfl (lv_at hl 0 rfl) ?_
      refine lv_bipush (v := (-2)) hx hb dX4_callOf_212 (by decide) ?_
      have hPc := hP.sub (ws' := (gW h0 R C I F)) [0, 1, 2, 3, 4, 5, 6, 7, 8, 9, 10, 11, 12, 13, 14, 15, 16, 17, 18, 19, 20, 21, 22, 23, 24, 25, 26, 27, 28, 29, 30, 31, 32] rfl
      have hDc := hD.sub (ws' := (gW h0 R C I F)) [0, 1, 2, 3, 4, 5, 6, 7, 8, 9, 10, 11, 12, 13, 14, 15, 16, 17, 18, 19, 20, 21, 22, 23, 24, 25, 26, 27, 28, 29, 30, 31, 32] (by decide) rfl
      have hKc := hK.sub (tys' := (gT C)) [0, 1, 2, 3, 4, 5, 6, 7, 8, 9, 10, 11, 12, 13, 14, 15, 16, 17, 18, 19, 20, 21, 22, 23, 24, 25, 26, 27, 28, 29, 30, 31] rfl
      have hFc := va_free (wc := (gW h0 R C I F)) hD hS hA [0, 1, 2, 3, 4, 5, 6, 7, 8, 9, 10, 11, 12, 13, 14, 15, 16, 17, 18, 19, 20, 21, 22, 23, 24, 25, 26, 27, 28, 29, 30, 31, 32] rfl
      refine va_calli (va_runV (As := [.int (-2)]) (rest := []) ⟨hx, hb, hml, hown, hts⟩ (m_X4_refuse2 l dC dI h0 R C I F H.size) (cwV 1 hts gX4_callOf_X4_refuse rfl rfl rfl (by decide +kernel) ⟨Nat.le_of_ble_eq_true rfl, Nat.le_of_ble_eq_true rfl⟩) ⟨pz_blind, va_recv hKc hPc (ci := 5) (q0 := 0) rfl rfl, fun U hU hW => ⟨rfl, pz_at hPc hKc hDc hU hW⟩⟩ rfl rfl hl.1 rfl (lv_room (Nat.le_of_ble_eq_true rfl)) dX4_callOf_214 ⟨Nat.le_of_ble_eq_true rfl, Nat.le_of_ble_eq_true rfl⟩) hS (fun q _ h => hFc q h) hFc (fun r_4 u t H locs ht hvm hw hB hz1 hk1 hS => ?_)
      obtain ⟨I_4, F_4⟩ := u
      obtain ⟨hP1, hK1, hD1⟩ := hB
      rw [ht] at hP1
      try dsimp only at hw
      have hP := hP1
      have hD := hD1.weaken (fun _ _ _ h9 => hFc _ h9)
      have hP : va_P (dC, dI) vwCl (gW h0 R C I_4 F_4) H := hP
      have hD : va_D A (gW h0 R C I_4 F_4) := hD
      have hr8 : r_4 = (-2) := hw.1
      subst hr8
      exact W.iret (v := (-2)) hx hb hr (fun t ht hW => ⟨⟨(-2), (I_4, F_4), rfl, (by first | exact ⟨rfl, fun k hk => rfl⟩ | exact ⟨hw.2.1, hw.2.2⟩), by rw [ht]; exact hP, va_K.moved hW.alike hK, hD⟩, hS.F ht⟩) hS.2.2 dX4_callOf_217
    · skip
      rcases pz_cases11 t_3 with e_3 | e_3 | e_3 | e_3 | e_3 | e_3 | e_3 | e_3 | e_3 | e_3 | e_3
      · skip
        subst e_3
        refine lv_tableIn (off := 57) (tgt := 72) hx hb dX4_callOf_15 (by decide) (by decide) (by decide) (by decide) ?_
        refine lv_aload_n hx hb dX4_callOf_72 rfl (lv_at hl 0 rfl) ?_
        refine va_get (D := (dC, dI)) (ci := 5) (v := .ref (R 30)) (C := RX4) (T := TX4) (N := 43) hx hb hts (fun _ h => List.mem_cons_of_mem _ (List.mem_append_right _ h)) hown hK hP 0 rfl rfl 30 (by decide) (hts (.fieldLink RX4 77 "FrontDoorModel" "state" "[I") (by decide +kernel)) (fun _ h9 => h9) rfl dX4_callOf_73 ?_
        refine lv_iload_n hx hb dX4_callOf_76 rfl (lv_at hl 1 rfl) ?_
        refine va_iald hx hb hK hP 21 20 rfl rfl (vp_in_nI (by omega) (by decide)) dX4_callOf_77 ?_
        refine lv_topi (fun x_5 ex_5 => ?_)
        replace ex_5 : x_5 = (F 30) (Int32.toNatClampNeg (nI j_1)) := ex_5
        exact W.iret (v := x_5) hx hb hr (fun t ht hW => ⟨⟨x_5, (I, F), rfl, (by first | exact ⟨rfl, fun k hk => rfl⟩ | exact ⟨hw.2.1, hw.2.2⟩), by rw [ht]; exact hP, va_K.moved hW.alike hK, hD⟩, hS.F ht⟩) hS.2.2 dX4_callOf_78
      · skip
        subst e_3
        refine lv_tableIn (off := 64) (tgt := 79) hx hb dX4_callOf_15 (by decide) (by decide) (by decide) (by decide) ?_
        refine lv_aload_n hx hb dX4_callOf_79 rfl (lv_at hl 0 rfl) ?_
        refine va_get (D := (dC, dI)) (ci := 5) (v := .ref (R 27)) (C := RX4) (T := TX4) (N := 43) hx hb hts (fun _ h => List.mem_cons_of_mem _ (List.mem_append_right _ h)) hown hK hP 0 rfl rfl 27 (by decide) (hts (.fieldLink RX4 68 "FrontDoorModel" "key" "[I") (by decide +kernel)) (fun _ h9 => h9) rfl dX4_callOf_80 ?_
        refine lv_iload_n hx hb dX4_callOf_83 rfl (lv_at hl 1 rfl) ?_
        refine va_iald hx hb hK hP 18 17 rfl rfl (vp_in_nI (by omega) (by decide)) dX4_callOf_84 ?_
        refine lv_topi (fun x_6 ex_6 => ?_)
        replace ex_6 : x_6 = (F 27) (Int32.toNatClampNeg (nI j_1)) := ex_6
        exact W.iret (v := x_6) hx hb hr (fun t ht hW => ⟨⟨x_6, (I, F), rfl, (by first | exact ⟨rfl, fun k hk => rfl⟩ | exact ⟨hw.2.1, hw.2.2⟩), by rw [ht]; exact hP, va_K.moved hW.alike hK, hD⟩, hS.F ht⟩) hS.2.2 dX4_callOf_85
      · skip
        subst e_3
        refine lv_tableIn (off := 71) (tgt := 86) hx hb dX4_callOf_15 (by decide) (by decide) (by decide) (by decide) ?_
        refine lv_aload_n hx hb dX4_callOf_86 rfl (lv_at hl 0 rfl) ?_
        refine va_get (D := (dC, dI)) (ci := 5) (v := .ref (R 28)) (C := RX4) (T := TX4) (N := 43) hx hb hts (fun _ h => List.mem_cons_of_mem _ (List.mem_append_right _ h)) hown hK hP 0 rfl rfl 28 (by decide) (hts (.fieldLink RX4 71 "FrontDoorModel" "grade" "[I") (by decide +kernel)) (fun _ h9 => h9) rfl dX4_callOf_87 ?_
        refine lv_iload_n hx hb dX4_callOf_90 rfl (lv_at hl 1 rfl) ?_
        refine va_iald hx hb hK hP 19 18 rfl rfl (vp_in_nI (by omega) (by decide)) dX4_callOf_91 ?_
        refine lv_topi (fun x_7 ex_7 => ?_)
        replace ex_7 : x_7 = (F 28) (Int32.toNatClampNeg (nI j_1)) := ex_7
        exact W.iret (v := x_7) hx hb hr (fun t ht hW => ⟨⟨x_7, (I, F), rfl, (by first | exact ⟨rfl, fun k hk => rfl⟩ | exact ⟨hw.2.1, hw.2.2⟩), by rw [ht]; exact hP, va_K.moved hW.alike hK, hD⟩, hS.F ht⟩) hS.2.2 dX4_callOf_92
      · skip
        subst e_3
        refine lv_tableIn (off := 78) (tgt := 93) hx hb dX4_callOf_15 (by decide) (by decide) (by decide) (by decide) ?_
        refine lv_aload_n hx hb dX4_callOf_93 rfl (lv_at hl 0 rfl) ?_
        refine va_get (D := (dC, dI)) (ci := 5) (v := .ref (R 29)) (C := RX4) (T := TX4) (N := 43) hx hb hts (fun _ h => List.mem_cons_of_mem _ (List.mem_append_right _ h)) hown hK hP 0 rfl rfl 29 (by decide) (hts (.fieldLink RX4 74 "FrontDoorModel" "due" "[I") (by decide +kernel)) (fun _ h9 => h9) rfl dX4_callOf_94 ?_
        refine lv_iload_n hx hb dX4_callOf_97 rfl (lv_at hl 1 rfl) ?_
        refine va_iald hx hb hK hP 20 19 rfl rfl (vp_in_nI (by omega) (by decide)) dX4_callOf_98 ?_
        refine lv_topi (fun x_8 ex_8 => ?_)
        replace ex_8 : x_8 = (F 29) (Int32.toNatClampNeg (nI j_1)) := ex_8
        exact W.iret (v := x_8) hx hb hr (fun t ht hW => ⟨⟨x_8, (I, F), rfl, (by first | exact ⟨rfl, fun k hk => rfl⟩ | exact ⟨hw.2.1, hw.2.2⟩), by rw [ht]; exact hP, va_K.moved hW.alike hK, hD⟩, hS.F ht⟩) hS.2.2 dX4_callOf_99
      · skip
        subst e_3
        refine lv_tableIn (off := 85) (tgt := 100) hx hb dX4_callOf_15 (by decide) (by decide) (by decide) (by decide) ?_
        refine lv_aload_n hx hb dX4_callOf_100 rfl (lv_at hl 0 rfl) ?_
        refine va_get (D := (dC, dI)) (ci := 5) (v := .ref (R 36)) (C := RX4) (T := TX4) (N := 43) hx hb hts (fun _ h => List.mem_cons_of_mem _ (List.mem_append_right _ h)) hown hK hP 0 rfl rfl 36 (by decide) (hts (.fieldLink RX4 95 "FrontDoorModel" "safe" "[Z") (by decide +kernel)) (fun _ h9 => h9) rfl dX4_callOf_101 ?_
        refine lv_iload_n hx hb dX4_callOf_104 rfl (lv_at hl 1 rfl) ?_
        refine va_zald hx hb hK hP 27 26 rfl rfl (vp_in_nI (by omega) (by decide)) dX4_callOf_105 ?_
        refine lv_topi (fun x_9 ex_9 => ?_)
        replace ex_9 : x_9 = (F 36) (Int32.toNatClampNeg (nI j_1)) := ex_9
        refine lv_if_eq (tgt := 113) hx hb dX4_callOf_106 (by decide) (fun c_10 => ?_) (fun c_10 => ?_)
        · skip
          have i_10 : x_9.toInt = 0 := by have h9 := pz_eq c_10; exact h9
          refine lv_iconst (v := 0) hx hb dX4_callOf_113 (by decide) ?_
          exact W.iret (v := 0) hx hb hr (fun t ht hW => ⟨⟨0, (I, F), rfl, (by first | exact ⟨rfl, fun k hk => rfl⟩ | exact ⟨hw.2.1, hw.2.2⟩), by rw [ht]; exact hP, va_K.moved hW.alike hK, hD⟩, hS.F ht⟩) hS.2.2 dX4_callOf_114
        · skip
          have i_10 : ¬ x_9.toInt = 0 := by have h9 := pz_neq c_10; exact h9
          refine lv_iconst (v := 1) hx hb dX4_callOf_109 (by decide) ?_
          refine lv_goto (tgt := 114) hx hb dX4_callOf_110 (by decide) ?_
          exact W.iret (v := 1) hx hb hr (fun t ht hW => ⟨⟨1, (I, F), rfl, (by first | exact ⟨rfl, fun k hk => rfl⟩ | exact ⟨hw.2.1, hw.2.2⟩), by rw [ht]; exact hP, va_K.moved hW.alike hK, hD⟩, hS.F ht⟩) hS.2.2 dX4_callOf_114
      · skip
        subst e_3
        refine lv_tableIn (off := 100) (tgt := 115) hx hb dX4_callOf_15 (by decide) (by decide) (by decide) (by decide) ?_
        refine lv_aload_n hx hb dX4_callOf_115 rfl (lv_at hl 0 rfl) ?_
        refine va_get (D := (dC, dI)) (ci := 5) (v := .ref (R 31)) (C := RX4) (T := TX4) (N := 43) hx hb hts (fun _ h => List.mem_cons_of_mem _ (List.mem_append_right _ h)) hown hK hP 0 rfl rfl 31 (by decide) (hts (.fieldLink RX4 80 "FrontDoorModel" "asks" "[I") (by decide +kernel)) (fun _ h9 => h9) rfl dX4_callOf_116 ?_
        refine lv_iload_n hx hb dX4_callOf_119 rfl (lv_at hl 1 rfl) ?_
        refine va_iald hx hb hK hP 22 21 rfl rfl (vp_in_nI (by omega) (by decide)) dX4_callOf_120 ?_
        refine lv_topi (fun x_11 ex_11 => ?_)
        replace ex_11 : x_11 = (F 31) (Int32.toNatClampNeg (nI j_1)) := ex_11
        exact W.iret (v := x_11) hx hb hr (fun t ht hW => ⟨⟨x_11, (I, F), rfl, (by first | exact ⟨rfl, fun k hk => rfl⟩ | exact ⟨hw.2.1, hw.2.2⟩), by rw [ht]; exact hP, va_K.moved hW.alike hK, hD⟩, hS.F ht⟩) hS.2.2 dX4_callOf_121
      · skip
        subst e_3
        refine lv_tableIn (off := 107) (tgt := 122) hx hb dX4_callOf_15 (by decide) (by decide) (by decide) (by decide) ?_
        refine lv_aload_n hx hb dX4_callOf_122 rfl (lv_at hl 0 rfl) ?_
        refine va_get (D := (dC, dI)) (ci := 5) (v := .ref (R 30)) (C := RX4) (T := TX4) (N := 43) hx hb hts (fun _ h => List.mem_cons_of_mem _ (List.mem_append_right _ h)) hown hK hP 0 rfl rfl 30 (by decide) (hts (.fieldLink RX4 77 "FrontDoorModel" "state" "[I") (by decide +kernel)) (fun _ h9 => h9) rfl dX4_callOf_123 ?_
        refine lv_iload_n hx hb dX4_callOf_126 rfl (lv_at hl 1 rfl) ?_
        refine va_iald hx hb hK hP 21 20 rfl rfl (vp_in_nI (by omega) (by decide)) dX4_callOf_127 ?_
        refine lv_topi (fun x_12 ex_12 => ?_)
        replace ex_12 : x_12 = (F 30) (Int32.toNatClampNeg (nI j_1)) := ex_12
        refine lv_iconst (v := 2) hx hb dX4_callOf_128 (by decide) ?_
        refine lv_icmp_ne (tgt := 141) hx hb dX4_callOf_129 (by decide) (fun c_13 => ?_) (fun c_13 => ?_)
        · skip
          have i_13 : ¬ x_12.toInt = 2 := by have h9 := pz_neq c_13; exact h9
          refine lv_aload_n hx hb dX4_callOf_141 rfl (lv_at hl 0 rfl) ?_
          refine va_get (D := (dC, dI)) (ci := 5) (v := .ref (R 31)) (C := RX4) (T := TX4) (N := 43) hx hb hts (fun _ h => List.mem_cons_of_mem _ (List.mem_append_right _ h)) hown hK hP 0 rfl rfl 31 (by decide) (hts (.fieldLink RX4 80 "FrontDoorModel" "asks" "[I") (by decide +kernel)) (fun _ h9 => h9) rfl dX4_callOf_142 ?_
          refine lv_iload_n hx hb dX4_callOf_145 rfl (lv_at hl 1 rfl) ?_
          refine va_iald hx hb hK hP 22 21 rfl rfl (vp_in_nI (by omega) (by decide)) dX4_callOf_146 ?_
          refine lv_topi (fun x_14 ex_14 => ?_)
          replace ex_14 : x_14 = (F 31) (Int32.toNatClampNeg (nI j_1)) := ex_14
          refine lv_if_le (tgt := 161) hx hb dX4_callOf_147 (by decide) (fun c_15 => ?_) (fun c_15 => ?_)
          · skip
            have i_15 : x_14.toInt ≤ 0 := by have h9 := pz_le c_15; exact h9
            refine lv_bipush (v := (-9)) hx hb dX4_callOf_161 (by decide) ?_
            exact W.iret (v := (-9)) hx hb hr (fun t ht hW => ⟨⟨(-9), (I, F), rfl, (by first | exact ⟨rfl, fun k hk => rfl⟩ | exact ⟨hw.2.1, hw.2.2⟩), by rw [ht]; exact hP, va_K.moved hW.alike hK, hD⟩, hS.F ht⟩) hS.2.2 dX4_callOf_163
          · skip
            have i_15 : 0 < x_14.toInt := by have h9 := pz_nle c_15; exact h9
            refine lv_aload_n hx hb dX4_callOf_150 rfl (lv_at hl 0 rfl) ?_
            refine va_get (D := (dC, dI)) (ci := 5) (v := .ref (R 37)) (C := RX4) (T := TX4) (N := 43) hx hb hts (fun _ h => List.mem_cons_of_mem _ (List.mem_append_right _ h)) hown hK hP 0 rfl rfl 37 (by decide) (hts (.fieldLink RX4 99 "FrontDoorModel" "at" "[I") (by decide +kernel)) (fun _ h9 => h9) rfl dX4_callOf_151 ?_
            refine lv_iconst (v := 2) hx hb dX4_callOf_154 (by decide) ?_
            refine lv_iload_n hx hb dX4_callOf_155 rfl (lv_at hl 1 rfl) ?_
            refine lv_imul hx hb dX4_callOf_156 ?_
            refine lv_topi (fun x_16 ex_16 => ?_)
            obtain rfl : x_16 = (nI (2 * j_1)) := ex_16.trans (pk_mul 2 j_1)
            refine va_iald hx hb hK hP 28 27 rfl rfl (vp_in_nI (by omega) (by decide)) dX4_callOf_157 ?_
            refine lv_topi (fun x_17 ex_17 => ?_)
            replace ex_17 : x_17 = (F 37) (Int32.toNatClampNeg (nI (2 * j_1))) := ex_17
            refine lv_goto (tgt := 163) hx hb dX4_callOf_158 (by decide) ?_
            exact W.iret (v := x_17) hx hb hr (fun t ht hW => ⟨⟨x_17, (I, F), rfl, (by first | exact ⟨rfl, fun k hk => rfl⟩ | exact ⟨hw.2.1, hw.2.2⟩), by rw [ht]; exact hP, va_K.moved hW.alike hK, hD⟩, hS.F ht⟩) hS.2.2 dX4_callOf_163
        · skip
          have i_13 : x_12.toInt = 2 := by have h9 := pz_eq c_13; exact h9
          refine lv_aload_n hx hb dX4_callOf_132 rfl (lv_at hl 0 rfl) ?_
          refine va_get (D := (dC, dI)) (ci := 5) (v := .ref (R 35)) (C := RX4) (T := TX4) (N := 43) hx hb hts (fun _ h => List.mem_cons_of_mem _ (List.mem_append_right _ h)) hown hK hP 0 rfl rfl 35 (by decide) (hts (.fieldLink RX4 92 "FrontDoorModel" "by" "[I") (by decide +kernel)) (fun _ h9 => h9) rfl dX4_callOf_133 ?_
          refine lv_iload_n hx hb dX4_callOf_136 rfl (lv_at hl 1 rfl) ?_
          refine va_iald hx hb hK hP 26 25 rfl rfl (vp_in_nI (by omega) (by decide)) dX4_callOf_137 ?_
          refine lv_topi (fun x_18 ex_18 => ?_)
          replace ex_18 : x_18 = (F 35) (Int32.toNatClampNeg (nI j_1)) := ex_18
          refine lv_goto (tgt := 163) hx hb dX4_callOf_138 (by decide) ?_
          exact W.iret (v := x_18) hx hb hr (fun t ht hW => ⟨⟨x_18, (I, F), rfl, (by first | exact ⟨rfl, fun k hk => rfl⟩ | exact ⟨hw.2.1, hw.2.2⟩), by rw [ht]; exact hP, va_K.moved hW.alike hK, hD⟩, hS.F ht⟩) hS.2.2 dX4_callOf_163
      · skip
        subst e_3
        refine lv_tableIn (off := 149) (tgt := 164) hx hb dX4_callOf_15 (by decide) (by decide) (by decide) (by decide) ?_
        refine lv_aload_n hx hb dX4_callOf_164 rfl (lv_at hl 0 rfl) ?_
        refine va_get (D := (dC, dI)) (ci := 5) (v := .ref (R 31)) (C := RX4) (T := TX4) (N := 43) hx hb hts (fun _ h => List.mem_cons_of_mem _ (List.mem_append_right _ h)) hown hK hP 0 rfl rfl 31 (by decide) (hts (.fieldLink RX4 80 "FrontDoorModel" "asks" "[I") (by decide +kernel)) (fun _ h9 => h9) rfl dX4_callOf_165 ?_
        refine lv_iload_n hx hb dX4_callOf_168 rfl (lv_at hl 1 rfl) ?_
        refine va_iald hx hb hK hP 22 21 rfl rfl (vp_in_nI (by omega) (by decide)) dX4_callOf_169 ?_
        refine lv_topi (fun x_19 ex_19 => ?_)
        replace ex_19 : x_19 = (F 31) (Int32.toNatClampNeg (nI j_1)) := ex_19
        refine lv_iconst (v := 1) hx hb dX4_callOf_170 (by decide) ?_
        refine lv_icmp_le (tgt := 187) hx hb dX4_callOf_171 (by decide) (fun c_20 => ?_) (fun c_20 => ?_)
        · skip
          have i_20 : x_19.toInt ≤ 1 := by have h9 := pz_le c_20; exact h9
          refine lv_bipush (v := (-9)) hx hb dX4_callOf_187 (by decide) ?_
          exact W.iret (v := (-9)) hx hb hr (fun t ht hW => ⟨⟨(-9), (I, F), rfl, (by first | exact ⟨rfl, fun k hk => rfl⟩ | exact ⟨hw.2.1, hw.2.2⟩), by rw [ht]; exact hP, va_K.moved hW.alike hK, hD⟩, hS.F ht⟩) hS.2.2 dX4_callOf_189
        · skip
          have i_20 : 1 < x_19.toInt := by have h9 := pz_nle c_20; exact h9
          refine lv_aload_n hx hb dX4_callOf_174 rfl (lv_at hl 0 rfl) ?_
          refine va_get (D := (dC, dI)) (ci := 5) (v := .ref (R 37)) (C := RX4) (T := TX4) (N := 43) hx hb hts (fun _ h => List.mem_cons_of_mem _ (List.mem_append_right _ h)) hown hK hP 0 rfl rfl 37 (by decide) (hts (.fieldLink RX4 99 "FrontDoorModel" "at" "[I") (by decide +kernel)) (fun _ h9 => h9) rfl dX4_callOf_175 ?_
          refine lv_iconst (v := 2) hx hb dX4_callOf_178 (by decide) ?_
          refine lv_iload_n hx hb dX4_callOf_179 rfl (lv_at hl 1 rfl) ?_
          refine lv_imul hx hb dX4_callOf_180 ?_
          refine lv_topi (fun x_21 ex_21 => ?_)
          obtain rfl : x_21 = (nI (2 * j_1)) := ex_21.trans (pk_mul 2 j_1)
          refine lv_iconst (v := 1) hx hb dX4_callOf_181 (by decide) ?_
          refine lv_iadd hx hb dX4_callOf_182 ?_
          refine lv_topi (fun x_22 ex_22 => ?_)
          obtain rfl : x_22 = (nI ((2 * j_1) + 1)) := ex_22.trans (nI_add (2 * j_1) 1)
          refine va_iald hx hb hK hP 28 27 rfl rfl (vp_in_nI (by omega) (by decide)) dX4_callOf_183 ?_
          refine lv_topi (fun x_23 ex_23 => ?_)
          replace ex_23 : x_23 = (F 37) (Int32.toNatClampNeg (nI ((2 * j_1) + 1))) := ex_23
          refine lv_goto (tgt := 189) hx hb dX4_callOf_184 (by decide) ?_
          exact W.iret (v := x_23) hx hb hr (fun t ht hW => ⟨⟨x_23, (I, F), rfl, (by first | exact ⟨rfl, fun k hk => rfl⟩ | exact ⟨hw.2.1, hw.2.2⟩), by rw [ht]; exact hP, va_K.moved hW.alike hK, hD⟩, hS.F ht⟩) hS.2.2 dX4_callOf_189
      · skip
        subst e_3
        refine lv_tableIn (off := 175) (tgt := 190) hx hb dX4_callOf_15 (by decide) (by decide) (by decide) (by decide) ?_
        refine lv_aload_n hx hb dX4_callOf_190 rfl (lv_at hl 0 rfl) ?_
        refine va_get (D := (dC, dI)) (ci := 5) (v := .ref (R 32)) (C := RX4) (T := TX4) (N := 43) hx hb hts (fun _ h => List.mem_cons_of_mem _ (List.mem_append_right _ h)) hown hK hP 0 rfl rfl 32 (by decide) (hts (.fieldLink RX4 83 "FrontDoorModel" "tried" "[I") (by decide +kernel)) (fun _ h9 => h9) rfl dX4_callOf_191 ?_
        refine lv_iload_n hx hb dX4_callOf_194 rfl (lv_at hl 1 rfl) ?_
        refine va_iald hx hb hK hP 23 22 rfl rfl (vp_in_nI (by omega) (by decide)) dX4_callOf_195 ?_
        refine lv_topi (fun x_24 ex_24 => ?_)
        replace ex_24 : x_24 = (F 32) (Int32.toNatClampNeg (nI j_1)) := ex_24
        exact W.iret (v := x_24) hx hb hr (fun t ht hW => ⟨⟨x_24, (I, F), rfl, (by first | exact ⟨rfl, fun k hk => rfl⟩ | exact ⟨hw.2.1, hw.2.2⟩), by rw [ht]; exact hP, va_K.moved hW.alike hK, hD⟩, hS.F ht⟩) hS.2.2 dX4_callOf_196
      · skip
        subst e_3
        refine lv_tableIn (off := 182) (tgt := 197) hx hb dX4_callOf_15 (by decide) (by decide) (by decide) (by decide) ?_
        refine lv_aload_n hx hb dX4_callOf_197 rfl (lv_at hl 0 rfl) ?_
        refine va_get (D := (dC, dI)) (ci := 5) (v := .ref (R 33)) (C := RX4) (T := TX4) (N := 43) hx hb hts (fun _ h => List.mem_cons_of_mem _ (List.mem_append_right _ h)) hown hK hP 0 rfl rfl 33 (by decide) (hts (.fieldLink RX4 86 "FrontDoorModel" "came" "[I") (by decide +kernel)) (fun _ h9 => h9) rfl dX4_callOf_198 ?_
        refine lv_iload_n hx hb dX4_callOf_201 rfl (lv_at hl 1 rfl) ?_
        refine va_iald hx hb hK hP 24 23 rfl rfl (vp_in_nI (by omega) (by decide)) dX4_callOf_202 ?_
        refine lv_topi (fun x_25 ex_25 => ?_)
        replace ex_25 : x_25 = (F 33) (Int32.toNatClampNeg (nI j_1)) := ex_25
        exact W.iret (v := x_25) hx hb hr (fun t ht hW => ⟨⟨x_25, (I, F), rfl, (by first | exact ⟨rfl, fun k hk => rfl⟩ | exact ⟨hw.2.1, hw.2.2⟩), by rw [ht]; exact hP, va_K.moved hW.alike hK, hD⟩, hS.F ht⟩) hS.2.2 dX4_callOf_203
      · skip
        subst e_3
        refine lv_tableIn (off := 189) (tgt := 204) hx hb dX4_callOf_15 (by decide) (by decide) (by decide) (by decide) ?_
        refine lv_aload_n hx hb dX4_callOf_204 rfl (lv_at hl 0 rfl) ?_
        refine va_get (D := (dC, dI)) (ci := 5) (v := .ref (R 34)) (C := RX4) (T := TX4) (N := 43) hx hb hts (fun _ h => List.mem_cons_of_mem _ (List.mem_append_right _ h)) hown hK hP 0 rfl rfl 34 (by decide) (hts (.fieldLink RX4 89 "FrontDoorModel" "ended" "[I") (by decide +kernel)) (fun _ h9 => h9) rfl dX4_callOf_205 ?_
        refine lv_iload_n hx hb dX4_callOf_208 rfl (lv_at hl 1 rfl) ?_
        refine va_iald hx hb hK hP 25 24 rfl rfl (vp_in_nI (by omega) (by decide)) dX4_callOf_209 ?_
        refine lv_topi (fun x_26 ex_26 => ?_)
        replace ex_26 : x_26 = (F 34) (Int32.toNatClampNeg (nI j_1)) := ex_26
        exact W.iret (v := x_26) hx hb hr (fun t ht hW => ⟨⟨x_26, (I, F), rfl, (by first | exact ⟨rfl, fun k hk => rfl⟩ | exact ⟨hw.2.1, hw.2.2⟩), by rw [ht]; exact hP, va_K.moved hW.alike hK, hD⟩, hS.F ht⟩) hS.2.2 dX4_callOf_210
  · skip
    have hr9 : r_1 = 0 := hr9
    subst hr9
    have f_1_0 : (a1.toInt < 0 ∨ (nI nc).toInt ≤ a1.toInt) := pz_id f_1_0
    refine lv_if_ne (tgt := 14) hx hb dX4_callOf_5 (by decide) (fun c_27 => absurd c_27 (by decide)) (fun c_27 => ?_)
    refine lv_aload_n hx hb dX4_callOf_8 rfl (lv_at hl 0 rfl) ?_
    refine lv_iconst (v := (-1)) hx hb dX4_callOf_9 (by decide) ?_
    have hPc := hP.sub (ws' := (gW h0 R C I F)) [0, 1, 2, 3, 4, 5, 6, 7, 8, 9, 10, 11, 12, 13, 14, 15, 16, 17, 18, 19, 20, 21, 22, 23, 24, 25, 26, 27, 28, 29, 30, 31, 32] rfl
    have hDc := hD.sub (ws' := (gW h0 R C I F)) [0, 1, 2, 3, 4, 5, 6, 7, 8, 9, 10, 11, 12, 13, 14, 15, 16, 17, 18, 19, 20, 21, 22, 23, 24, 25, 26, 27, 28, 29, 30, 31, 32] (by decide) rfl
    have hKc := hK.sub (tys' := (gT C)) [0, 1, 2, 3, 4, 5, 6, 7, 8, 9, 10, 11, 12, 13, 14, 15, 16, 17, 18, 19, 20, 21, 22, 23, 24, 25, 26, 27, 28, 29, 30, 31] rfl
    have hFc := va_free (wc := (gW h0 R C I F)) hD hS hA [0, 1, 2, 3, 4, 5, 6, 7, 8, 9, 10, 11, 12, 13, 14, 15, 16, 17, 18, 19, 20, 21, 22, 23, 24, 25, 26, 27, 28, 29, 30, 31, 32] rfl
    refine va_calli (va_runV (As := [.int (-1)]) (rest := []) ⟨hx, hb, hml, hown, hts⟩ (m_X4_refuse1 l dC dI h0 R C I F H.size) (cwV 1 hts gX4_callOf_X4_refuse rfl rfl rfl (by decide +kernel) ⟨Nat.le_of_ble_eq_true rfl, Nat.le_of_ble_eq_true rfl⟩) ⟨pz_blind, va_recv hKc hPc (ci := 5) (q0 := 0) rfl rfl, fun U hU hW => ⟨rfl, pz_at hPc hKc hDc hU hW⟩⟩ rfl rfl hl.1 rfl (lv_room (Nat.le_of_ble_eq_true rfl)) dX4_callOf_10 ⟨Nat.le_of_ble_eq_true rfl, Nat.le_of_ble_eq_true rfl⟩) hS (fun q _ h => hFc q h) hFc (fun r_28 u t H locs ht hvm hw hB hz1 hk1 hS => ?_)
    obtain ⟨I_28, F_28⟩ := u
    obtain ⟨hP1, hK1, hD1⟩ := hB
    rw [ht] at hP1
    try dsimp only at hw
    have hP := hP1
    have hD := hD1.weaken (fun _ _ _ h9 => hFc _ h9)
    have hP : va_P (dC, dI) vwCl (gW h0 R C I_28 F_28) H := hP
    have hD : va_D A (gW h0 R C I_28 F_28) := hD
    have hr8 : r_28 = (-1) := hw.1
    subst hr8
    exact W.iret (v := (-1)) hx hb hr (fun t ht hW => ⟨⟨(-1), (I_28, F_28), rfl, (by first | exact ⟨rfl, fun k hk => rfl⟩ | exact ⟨hw.2.1, hw.2.2⟩), by rw [ht]; exact hP, va_K.moved hW.alike hK, hD⟩, hS.F ht⟩) hS.2.2 dX4_callOf_13

set_option maxHeartbeats 40000000 in
set_option maxRecDepth 100000 in
theorem m_X4_share (l : Launch) (dC : Nat → ClassId) (dI : Nat → Nat → Nat) (h0 : Nat) (R : Nat → Nat) (C : Nat → ClassId) (I : Nat → Int32) (F : Nat → Nat → Int32) (ns : Nat) (a1 : Int32) (sz : Nat) (hns : I 2 = nI ns) (hbn : ns ≤ 8) : Met l yX4_share wsX4_share ({ frames := 2, cells := 0, slots := 0, locals := 42 }) (va_Pc [.ref h0, .int a1] (pzPre (dC, dI) vwCl (gW h0 R C I F) (gT C) sz)) (va_Qi (fun (r : Int32) (u : (Nat → Int32) × (Nat → Nat → Int32)) => u.1 = I ∧ ∀ k, k ≠ 0 → u.2 k = F k) (fun (u : (Nat → Int32) × (Nat → Nat → Int32)) (t : State) => va_P (dC, dI) vwCl (gW h0 R C u.1 u.2) t.heap ∧ va_K (dC, dI) vwCl (gT C) t ∧ va_D (va_A (gW h0 R C I F) sz) (gW h0 R C u.1 u.2)) (va_A (gW h0 R C I F) sz)) 0 0 (va_A (gW h0 R C I F) sz) := by
  refine Met.ofW (cc := cX4_share) (maxL := 2) (ret := (some .int)) (by decide) rfl ?_
  intro p e s m args below meth c s₁ B hml hv
  obtain ⟨rfl, hsz, hP, hK, hD0⟩ := hv
  have hx := B.exec
  have hb := B.bytes
  have hr := B.returns
  have hts := atoms_spec (ws := wsX4_share) B.pre
  have hown : s.vm.findClass RX4 = some m.cls := findClass_of_methodNamed B.named
  have hlocks := B.notSynchronized
  subst hsz
  have hD := hD0.self (sz := s.heap.size)
  generalize hAe : va_A (gW h0 R C I F) s.heap.size = A at hD ⊢
  have hA : ∀ q : Nat, s.heap.size ≤ q → A q := fun q h => by rw [← hAe]; exact Or.inr h
  have hS : va_S A s.heap s.heap [] := va_S.rf
  have hP : va_P (dC, dI) vwCl (gW h0 R C I F) s.heap := hP
  have hnsI : (nI ns).toInt = (ns : Int) := nI_toInt (by omega)
  have hl := lv_entry ([.ref h0, .int a1]) (n := 2) (Nat.le_of_ble_eq_true rfl)
  rw [lg_entry_eq]
  generalize (lg_sl ([.ref h0, .int a1]) ++ List.replicate (2 - (lg_sl ([.ref h0, .int a1])).length) Slot.unset).toArray = ls at hl ⊢
  have hl : lv_has ls 2 [(0, .ref h0), (1, .int a1)] := hl
  refine lv_aload_n hx hb dX4_share_0 rfl (lv_at hl 0 rfl) ?_
  refine lv_iload_n hx hb dX4_share_1 rfl (lv_at hl 1 rfl) ?_
  have hPc := hP.sub (ws' := (gW h0 R C I F)) [0, 1, 2, 3, 4, 5, 6, 7, 8, 9, 10, 11, 12, 13, 14, 15, 16, 17, 18, 19, 20, 21, 22, 23, 24, 25, 26, 27, 28, 29, 30, 31, 32] rfl
  have hDc := hD.sub (ws' := (gW h0 R C I F)) [0, 1, 2, 3, 4, 5, 6, 7, 8, 9, 10, 11, 12, 13, 14, 15, 16, 17, 18, 19, 20, 21, 22, 23, 24, 25, 26, 27, 28, 29, 30, 31, 32] (by decide) rfl
  have hKc := hK.sub (tys' := (gT C)) [0, 1, 2, 3, 4, 5, 6, 7, 8, 9, 10, 11, 12, 13, 14, 15, 16, 17, 18, 19, 20, 21, 22, 23, 24, 25, 26, 27, 28, 29, 30, 31] rfl
  have hFc := pz_f hA hS
  refine va_calli (va_runV (As := [.int a1]) (rest := []) ⟨hx, hb, hml, hown, hts⟩ (m_X4_isServer l dC dI h0 R C I F ns a1 s.heap.size hns hbn) (cwV 1 hts gX4_share_X4_isServer rfl rfl rfl (by decide +kernel) ⟨Nat.le_of_ble_eq_true rfl, Nat.le_of_ble_eq_true rfl⟩) ⟨pz_blind, va_recv hKc hPc (ci := 5) (q0 := 0) rfl rfl, fun U hU hW => ⟨rfl, pz_at hPc hKc hDc hU hW⟩⟩ rfl rfl hl.1 rfl (lv_room (Nat.le_of_ble_eq_true rfl)) dX4_share_2 ⟨Nat.le_of_ble_eq_true rfl, Nat.le_of_ble_eq_true rfl⟩) hS (fun q _ h => hFc q h) hFc (fun r_1 u t H locs ht hvm hw hB hz1 hk1 hS => ?_)
  have hP := pz_keep hP hk1
  rcases hw with ⟨f_1_0, f_1_1, hr9⟩ | ⟨f_1_0, hr9⟩
  · skip
    have hr9 : r_1 = 1 := hr9
    subst hr9
    have f_1_0 : 0 ≤ a1.toInt := pz_id f_1_0
    have f_1_1 : a1.toInt < (nI ns).toInt := pz_id f_1_1
    obtain ⟨j_1, hj_1, ej_1⟩ : ∃ j : Nat, j < ns ∧ a1 = nI j := pz_ixof f_1_0 f_1_1 (by omega)
    subst ej_1
    refine lv_if_ne (tgt := 14) hx hb dX4_share_5 (by decide) (fun c_2 => ?_) (fun c_2 => absurd c_2 (by decide))
    refine lv_aload_n hx hb dX4_share_14 rfl (lv_at hl 0 rfl) ?_
    refine va_get (D := (dC, dI)) (ci := 5) (v := .int (I 8)) (C := RX4) (T := TX4) (N := 43) hx hb hts (fun _ h => List.mem_cons_of_mem _ (List.mem_append_right _ h)) hown hK hP 0 rfl rfl 8 (by decide) (hts (.fieldLink RX4 160 "FrontDoorModel" "askings" "I") (by decide +kernel)) (fun _ h9 => h9) rfl dX4_share_15 ?_
    refine lv_if_ne (tgt := 25) hx hb dX4_share_18 (by decide) (fun c_3 => ?_) (fun c_3 => ?_)
    · skip
      have i_3 : ¬ (I 8).toInt = 0 := by have h9 := pz_neq c_3; exact h9
      refine lv_sipush (v := 1000) hx hb dX4_share_25 (by decide) ?_
      refine lv_aload_n hx hb dX4_share_28 rfl (lv_at hl 0 rfl) ?_
      refine va_get (D := (dC, dI)) (ci := 5) (v := .ref (R 19)) (C := RX4) (T := TX4) (N := 43) hx hb hts (fun _ h => List.mem_cons_of_mem _ (List.mem_append_right _ h)) hown hK hP 0 rfl rfl 19 (by decide) (hts (.fieldLink RX4 44 "FrontDoorModel" "asked" "[I") (by decide +kernel)) (fun _ h9 => h9) rfl dX4_share_29 ?_
      refine lv_iload_n hx hb dX4_share_32 rfl (lv_at hl 1 rfl) ?_
      refine va_iald hx hb hK hP 10 9 rfl rfl (vp_in_nI (by omega) (by decide)) dX4_share_33 ?_
      refine lv_topi (fun x_4 ex_4 => ?_)
      replace ex_4 : x_4 = (F 19) (Int32.toNatClampNeg (nI j_1)) := ex_4
      refine lv_imul hx hb dX4_share_34 ?_
      refine lv_topi (fun x_5 ex_5 => ?_)
      refine lv_aload_n hx hb dX4_share_35 rfl (lv_at hl 0 rfl) ?_
      refine va_get (D := (dC, dI)) (ci := 5) (v := .int (I 8)) (C := RX4) (T := TX4) (N := 43) hx hb hts (fun _ h => List.mem_cons_of_mem _ (List.mem_append_right _ h)) hown hK hP 0 rfl rfl 8 (by decide) (hts (.fieldLink RX4 160 "FrontDoorModel" "askings" "I") (by decide +kernel)) (fun _ h9 => h9) rfl dX4_share_36 ?_
      refine lv_idiv hx hb dX4_share_39 c_3 ?_
      refine lv_topi (fun x_6 ex_6 => ?_)
      exact W.iret (v := x_6) hx hb hr (fun t ht hW => ⟨⟨x_6, (I, F), rfl, (by first | exact ⟨rfl, fun k hk => rfl⟩ | exact ⟨hw.2.1, hw.2.2⟩), by rw [ht]; exact hP, va_K.moved hW.alike hK, hD⟩, hS.F ht⟩) hS.2.2 dX4_share_40
    · skip
      have i_3 : (I 8).toInt = 0 := by have h9 := pz_eq c_3; exact h9
      refine lv_iconst (v := 0) hx hb dX4_share_21 (by decide) ?_
      refine lv_goto (tgt := 40) hx hb dX4_share_22 (by decide) ?_
      exact W.iret (v := 0) hx hb hr (fun t ht hW => ⟨⟨0, (I, F), rfl, (by first | exact ⟨rfl, fun k hk => rfl⟩ | exact ⟨hw.2.1, hw.2.2⟩), by rw [ht]; exact hP, va_K.moved hW.alike hK, hD⟩, hS.F ht⟩) hS.2.2 dX4_share_40
  · skip
    have hr9 : r_1 = 0 := hr9
    subst hr9
    have f_1_0 : (a1.toInt < 0 ∨ (nI ns).toInt ≤ a1.toInt) := pz_id f_1_0
    refine lv_if_ne (tgt := 14) hx hb dX4_share_5 (by decide) (fun c_7 => absurd c_7 (by decide)) (fun c_7 => ?_)
    refine lv_aload_n hx hb dX4_share_8 rfl (lv_at hl 0 rfl) ?_
    refine lv_iconst (v := (-1)) hx hb dX4_share_9 (by decide) ?_
    have hPc := hP.sub (ws' := (gW h0 R C I F)) [0, 1, 2, 3, 4, 5, 6, 7, 8, 9, 10, 11, 12, 13, 14, 15, 16, 17, 18, 19, 20, 21, 22, 23, 24, 25, 26, 27, 28, 29, 30, 31, 32] rfl
    have hDc := hD.sub (ws' := (gW h0 R C I F)) [0, 1, 2, 3, 4, 5, 6, 7, 8, 9, 10, 11, 12, 13, 14, 15, 16, 17, 18, 19, 20, 21, 22, 23, 24, 25, 26, 27, 28, 29, 30, 31, 32] (by decide) rfl
    have hKc := hK.sub (tys' := (gT C)) [0, 1, 2, 3, 4, 5, 6, 7, 8, 9, 10, 11, 12, 13, 14, 15, 16, 17, 18, 19, 20, 21, 22, 23, 24, 25, 26, 27, 28, 29, 30, 31] rfl
    have hFc := va_free (wc := (gW h0 R C I F)) hD hS hA [0, 1, 2, 3, 4, 5, 6, 7, 8, 9, 10, 11, 12, 13, 14, 15, 16, 17, 18, 19, 20, 21, 22, 23, 24, 25, 26, 27, 28, 29, 30, 31, 32] rfl
    refine va_calli (va_runV (As := [.int (-1)]) (rest := []) ⟨hx, hb, hml, hown, hts⟩ (m_X4_refuse1 l dC dI h0 R C I F H.size) (cwV 1 hts gX4_share_X4_refuse rfl rfl rfl (by decide +kernel) ⟨Nat.le_of_ble_eq_true rfl, Nat.le_of_ble_eq_true rfl⟩) ⟨pz_blind, va_recv hKc hPc (ci := 5) (q0 := 0) rfl rfl, fun U hU hW => ⟨rfl, pz_at hPc hKc hDc hU hW⟩⟩ rfl rfl hl.1 rfl (lv_room (Nat.le_of_ble_eq_true rfl)) dX4_share_10 ⟨Nat.le_of_ble_eq_true rfl, Nat.le_of_ble_eq_true rfl⟩) hS (fun q _ h => hFc q h) hFc (fun r_8 u t H locs ht hvm hw hB hz1 hk1 hS => ?_)
    obtain ⟨I_8, F_8⟩ := u
    obtain ⟨hP1, hK1, hD1⟩ := hB
    rw [ht] at hP1
    try dsimp only at hw
    have hP := hP1
    have hD := hD1.weaken (fun _ _ _ h9 => hFc _ h9)
    have hP : va_P (dC, dI) vwCl (gW h0 R C I_8 F_8) H := hP
    have hD : va_D A (gW h0 R C I_8 F_8) := hD
    have hr8 : r_8 = (-1) := hw.1
    subst hr8
    exact W.iret (v := (-1)) hx hb hr (fun t ht hW => ⟨⟨(-1), (I_8, F_8), rfl, (by first | exact ⟨rfl, fun k hk => rfl⟩ | exact ⟨hw.2.1, hw.2.2⟩), by rw [ht]; exact hP, va_K.moved hW.alike hK, hD⟩, hS.F ht⟩) hS.2.2 dX4_share_13

set_option maxHeartbeats 40000000 in
set_option maxRecDepth 100000 in
theorem m_X4_markOf (l : Launch) (dC : Nat → ClassId) (dI : Nat → Nat → Nat) (s0 : Int32) (m0 : Int32) (sz : Nat) : Met l yX4_markOf wsX4_markOf ({ frames := 0, cells := 0, slots := 0, locals := 0 }) (va_Pc [.int s0, .int m0] (pzPre (dC, dI) vwCl [] [] sz)) (va_Qi (fun (r : Int32) (_ : Unit) => r = gMark s0 m0) (fun _ _ => True) (va_A [] sz)) 0 0 (va_A [] sz) := by
  refine Met.ofW (cc := cX4_markOf) (maxL := 2) (ret := (some .int)) (by decide) rfl ?_
  intro p e s m args below meth c s₁ B hml hv
  obtain ⟨rfl, hsz, hP, hK, hD0⟩ := hv
  have hx := B.exec
  have hb := B.bytes
  have hr := B.returns
  have hts := atoms_spec (ws := wsX4_markOf) B.pre
  have hown : s.vm.findClass RX4 = some m.cls := findClass_of_methodNamed B.named
  have hlocks := B.notSynchronized
  subst hsz
  have hA : ∀ q : Nat, s.heap.size ≤ q → va_A [] s.heap.size q := fun q h => Or.inr h
  have hD := hD0
  generalize va_A [] s.heap.size = A at hA ⊢
  have hS : va_S A s.heap s.heap [] := va_S.rf
  have hP : va_P (dC, dI) vwCl [] s.heap := hP
  have hl := lv_entry ([.int s0, .int m0]) (n := 2) (Nat.le_of_ble_eq_true rfl)
  rw [lg_entry_eq]
  generalize (lg_sl ([.int s0, .int m0]) ++ List.replicate (2 - (lg_sl ([.int s0, .int m0])).length) Slot.unset).toArray = ls at hl ⊢
  have hl : lv_has ls 2 [(0, .int s0), (1, .int m0)] := hl
  refine lv_ldc hx hb hown (hts (.constant RX4 142 (40503)) (by decide +kernel)) dX4_markOf_0 ?_
  refine lv_iconst (v := 4) hx hb dX4_markOf_2 (by decide) ?_
  refine lv_iload_n hx hb dX4_markOf_3 rfl (lv_at hl 0 rfl) ?_
  refine lv_imul hx hb dX4_markOf_4 ?_
  refine lv_topi (fun x_1 ex_1 => ?_)
  subst ex_1
  refine lv_iload_n hx hb dX4_markOf_5 rfl (lv_at hl 1 rfl) ?_
  refine lv_iadd hx hb dX4_markOf_6 ?_
  refine lv_topi (fun x_2 ex_2 => ?_)
  subst ex_2
  refine lv_iconst (v := 1) hx hb dX4_markOf_7 (by decide) ?_
  refine lv_iadd hx hb dX4_markOf_8 ?_
  refine lv_topi (fun x_3 ex_3 => ?_)
  subst ex_3
  refine lv_imul hx hb dX4_markOf_9 ?_
  refine lv_topi (fun x_4 ex_4 => ?_)
  subst ex_4
  refine lv_ldc hx hb hown (hts (.constant RX4 143 (65536)) (by decide +kernel)) dX4_markOf_10 ?_
  refine lv_irem hx hb dX4_markOf_12 (by decide) ?_
  refine lv_topi (fun x_5 ex_5 => ?_)
  subst ex_5
  exact W.iret (v := ((40503 * (((4 * s0) + m0) + 1)) - (40503 * (((4 * s0) + m0) + 1)) / 65536 * 65536)) hx hb hr (fun t ht hW => ⟨⟨((40503 * (((4 * s0) + m0) + 1)) - (40503 * (((4 * s0) + m0) + 1)) / 65536 * 65536), (), rfl, (by first | rfl | simp_all), trivial⟩, hS.F ht⟩) hS.2.2 dX4_markOf_13

set_option maxHeartbeats 40000000 in
set_option maxRecDepth 100000 in
theorem m_X4_mark (l : Launch) (dC : Nat → ClassId) (dI : Nat → Nat → Nat) (h0 : Nat) (R : Nat → Nat) (C : Nat → ClassId) (I : Nat → Int32) (F : Nat → Nat → Int32) (ns : Nat) (a1 : Int32) (a2 : Int32) (sz : Nat) (hns : I 2 = nI ns) (hbn : ns ≤ 8) : Met l yX4_mark wsX4_mark ({ frames := 2, cells := 0, slots := 0, locals := 42 }) (va_Pc [.ref h0, .int a1, .int a2] (pzPre (dC, dI) vwCl (gW h0 R C I F) (gT C) sz)) (va_Qi (fun (r : Int32) (u : (Nat → Int32) × (Nat → Nat → Int32)) => r = exMark ns a1 a2 ∧ u.1 = I ∧ ∀ k, k ≠ 0 → u.2 k = F k) (fun (u : (Nat → Int32) × (Nat → Nat → Int32)) (t : State) => va_P (dC, dI) vwCl (gW h0 R C u.1 u.2) t.heap ∧ va_K (dC, dI) vwCl (gT C) t ∧ va_D (va_A (gW h0 R C I F) sz) (gW h0 R C u.1 u.2)) (va_A (gW h0 R C I F) sz)) 0 0 (va_A (gW h0 R C I F) sz) := by
  refine Met.ofW (cc := cX4_mark) (maxL := 3) (ret := (some .int)) (by decide) rfl ?_
  intro p e s m args below meth c s₁ B hml hv
  obtain ⟨rfl, hsz, hP, hK, hD0⟩ := hv
  have hx := B.exec
  have hb := B.bytes
  have hr := B.returns
  have hts := atoms_spec (ws := wsX4_mark) B.pre
  have hown : s.vm.findClass RX4 = some m.cls := findClass_of_methodNamed B.named
  have hlocks := B.notSynchronized
  subst hsz
  have hD := hD0.self (sz := s.heap.size)
  generalize hAe : va_A (gW h0 R C I F) s.heap.size = A at hD ⊢
  have hA : ∀ q : Nat, s.heap.size ≤ q → A q := fun q h => by rw [← hAe]; exact Or.inr h
  have hS : va_S A s.heap s.heap [] := va_S.rf
  have hP : va_P (dC, dI) vwCl (gW h0 R C I F) s.heap := hP
  have hnsI : (nI ns).toInt = (ns : Int) := nI_toInt (by omega)
  have hl := lv_entry ([.ref h0, .int a1, .int a2]) (n := 3) (Nat.le_of_ble_eq_true rfl)
  rw [lg_entry_eq]
  generalize (lg_sl ([.ref h0, .int a1, .int a2]) ++ List.replicate (3 - (lg_sl ([.ref h0, .int a1, .int a2])).length) Slot.unset).toArray = ls at hl ⊢
  have hl : lv_has ls 3 [(0, .ref h0), (1, .int a1), (2, .int a2)] := hl
  refine lv_aload_n hx hb dX4_mark_0 rfl (lv_at hl 0 rfl) ?_
  refine lv_iload_n hx hb dX4_mark_1 rfl (lv_at hl 1 rfl) ?_
  have hPc := hP.sub (ws' := (gW h0 R C I F)) [0, 1, 2, 3, 4, 5, 6, 7, 8, 9, 10, 11, 12, 13, 14, 15, 16, 17, 18, 19, 20, 21, 22, 23, 24, 25, 26, 27, 28, 29, 30, 31, 32] rfl
  have hDc := hD.sub (ws' := (gW h0 R C I F)) [0, 1, 2, 3, 4, 5, 6, 7, 8, 9, 10, 11, 12, 13, 14, 15, 16, 17, 18, 19, 20, 21, 22, 23, 24, 25, 26, 27, 28, 29, 30, 31, 32] (by decide) rfl
  have hKc := hK.sub (tys' := (gT C)) [0, 1, 2, 3, 4, 5, 6, 7, 8, 9, 10, 11, 12, 13, 14, 15, 16, 17, 18, 19, 20, 21, 22, 23, 24, 25, 26, 27, 28, 29, 30, 31] rfl
  have hFc := pz_f hA hS
  refine va_calli (va_runV (As := [.int a1]) (rest := []) ⟨hx, hb, hml, hown, hts⟩ (m_X4_isServer l dC dI h0 R C I F ns a1 s.heap.size hns hbn) (cwV 1 hts gX4_mark_X4_isServer rfl rfl rfl (by decide +kernel) ⟨Nat.le_of_ble_eq_true rfl, Nat.le_of_ble_eq_true rfl⟩) ⟨pz_blind, va_recv hKc hPc (ci := 5) (q0 := 0) rfl rfl, fun U hU hW => ⟨rfl, pz_at hPc hKc hDc hU hW⟩⟩ rfl rfl hl.1 rfl (lv_room (Nat.le_of_ble_eq_true rfl)) dX4_mark_2 ⟨Nat.le_of_ble_eq_true rfl, Nat.le_of_ble_eq_true rfl⟩) hS (fun q _ h => hFc q h) hFc (fun r_1 u t H locs ht hvm hw hB hz1 hk1 hS => ?_)
  have hP := pz_keep hP hk1
  rcases hw with ⟨f_1_0, f_1_1, hr9⟩ | ⟨f_1_0, hr9⟩
  · skip
    have hr9 : r_1 = 1 := hr9
    subst hr9
    have f_1_0 : 0 ≤ a1.toInt := pz_id f_1_0
    have f_1_1 : a1.toInt < (nI ns).toInt := pz_id f_1_1
    obtain ⟨j_1, hj_1, ej_1⟩ : ∃ j : Nat, j < ns ∧ a1 = nI j := pz_ixof f_1_0 f_1_1 (by omega)
    subst ej_1
    refine lv_if_ne (tgt := 14) hx hb dX4_mark_5 (by decide) (fun c_2 => ?_) (fun c_2 => absurd c_2 (by decide))
    refine lv_iload_n hx hb dX4_mark_14 rfl (lv_at hl 2 rfl) ?_
    refine lv_iconst (v := 4) hx hb dX4_mark_15 (by decide) ?_
    have hPc := hP.sub (ws' := []) [] rfl
    have hDc := hD.sub (ws' := []) [] (by decide) rfl
    have hKc := hK.sub (tys' := []) [] rfl
    have hFc := pz_f hA hS
    refine va_calli (va_runS (As := [.int a2, .int 4]) (rest := []) ⟨hx, hb, hml, hown, hts⟩ (m_X4_isIn l dC dI a2 4 H.size) (va_cwS 2 hts gX4_mark_X4_isIn rfl rfl rfl (by decide +kernel) ⟨Nat.le_of_ble_eq_true rfl, Nat.le_of_ble_eq_true rfl⟩) ⟨pz_blind, fun U hU hW => ⟨rfl, pz_at hPc hKc hDc hU hW⟩⟩ rfl rfl hl.1 rfl (lv_room (Nat.le_of_ble_eq_true rfl)) dX4_mark_16 ⟨Nat.le_of_ble_eq_true rfl, Nat.le_of_ble_eq_true rfl⟩) hS (fun q _ h => hFc q h) hFc (fun r_3 u t H locs ht hvm hw hB hz1 hk1 hS => ?_)
    have hP := pz_keep hP hk1
    rcases hw with ⟨f_3_0, f_3_1, hr9⟩ | ⟨f_3_0, hr9⟩
    · skip
      have hr9 : r_3 = 1 := hr9
      subst hr9
      have f_3_0 : 0 ≤ a2.toInt := pz_id f_3_0
      have f_3_1 : a2.toInt < 4 := f_3_1
      refine lv_if_eq (tgt := 30) hx hb dX4_mark_19 (by decide) (fun c_4 => absurd c_4 (by decide)) (fun c_4 => ?_)
      refine lv_iload_n hx hb dX4_mark_22 rfl (lv_at hl 1 rfl) ?_
      refine lv_iload_n hx hb dX4_mark_23 rfl (lv_at hl 2 rfl) ?_
      have hPc := hP.sub (ws' := []) [] rfl
      have hDc := hD.sub (ws' := []) [] (by decide) rfl
      have hKc := hK.sub (tys' := []) [] rfl
      have hFc := pz_f hA hS
      refine va_calli (va_runS (As := [.int (nI j_1), .int a2]) (rest := []) ⟨hx, hb, hml, hown, hts⟩ (m_X4_markOf l dC dI (nI j_1) a2 H.size) (va_cwS 2 hts gX4_mark_X4_markOf rfl rfl rfl (by decide +kernel) ⟨Nat.le_of_ble_eq_true rfl, Nat.le_of_ble_eq_true rfl⟩) ⟨pz_blind, fun U hU hW => ⟨rfl, pz_at hPc hKc hDc hU hW⟩⟩ rfl rfl hl.1 rfl (lv_room (Nat.le_of_ble_eq_true rfl)) dX4_mark_24 ⟨Nat.le_of_ble_eq_true rfl, Nat.le_of_ble_eq_true rfl⟩) hS (fun q _ h => hFc q h) hFc (fun r_5 u t H locs ht hvm hw hB hz1 hk1 hS => ?_)
      have hP := pz_keep hP hk1
      have hw : r_5 = (gMark (nI j_1) a2) := hw
      subst hw
      refine lv_goto (tgt := 36) hx hb dX4_mark_27 (by decide) ?_
      exact W.iret (v := (gMark (nI j_1) a2)) hx hb hr (fun t ht hW => ⟨⟨(gMark (nI j_1) a2), (I, F), rfl, (by first | (refine ⟨?_, rfl, fun k hk => rfl⟩; unfold exMark; (repeat' split) <;> first | rfl | (exfalso; omega)) | (refine ⟨?_, hw.2.1, hw.2.2⟩; unfold exMark; (repeat' split) <;> first | rfl | (exfalso; omega))), by rw [ht]; exact hP, va_K.moved hW.alike hK, hD⟩, hS.F ht⟩) hS.2.2 dX4_mark_36
    · skip
      have hr9 : r_3 = 0 := hr9
      subst hr9
      have f_3_0 : (a2.toInt < 0 ∨ 4 ≤ a2.toInt) := f_3_0
      refine lv_if_eq (tgt := 30) hx hb dX4_mark_19 (by decide) (fun c_6 => ?_) (fun c_6 => absurd (by decide) c_6)
      refine lv_aload_n hx hb dX4_mark_30 rfl (lv_at hl 0 rfl) ?_
      refine lv_bipush (v := (-2)) hx hb dX4_mark_31 (by decide) ?_
      have hPc := hP.sub (ws' := (gW h0 R C I F)) [0, 1, 2, 3, 4, 5, 6, 7, 8, 9, 10, 11, 12, 13, 14, 15, 16, 17, 18, 19, 20, 21, 22, 23, 24, 25, 26, 27, 28, 29, 30, 31, 32] rfl
      have hDc := hD.sub (ws' := (gW h0 R C I F)) [0, 1, 2, 3, 4, 5, 6, 7, 8, 9, 10, 11, 12, 13, 14, 15, 16, 17, 18, 19, 20, 21, 22, 23, 24, 25, 26, 27, 28, 29, 30, 31, 32] (by decide) rfl
      have hKc := hK.sub (tys' := (gT C)) [0, 1, 2, 3, 4, 5, 6, 7, 8, 9, 10, 11, 12, 13, 14, 15, 16, 17, 18, 19, 20, 21, 22, 23, 24, 25, 26, 27, 28, 29, 30, 31] rfl
      have hFc := va_free (wc := (gW h0 R C I F)) hD hS hA [0, 1, 2, 3, 4, 5, 6, 7, 8, 9, 10, 11, 12, 13, 14, 15, 16, 17, 18, 19, 20, 21, 22, 23, 24, 25, 26, 27, 28, 29, 30, 31, 32] rfl
      refine va_calli (va_runV (As := [.int (-2)]) (rest := []) ⟨hx, hb, hml, hown, hts⟩ (m_X4_refuse2 l dC dI h0 R C I F H.size) (cwV 1 hts gX4_mark_X4_refuse rfl rfl rfl (by decide +kernel) ⟨Nat.le_of_ble_eq_true rfl, Nat.le_of_ble_eq_true rfl⟩) ⟨pz_blind, va_recv hKc hPc (ci := 5) (q0 := 0) rfl rfl, fun U hU hW => ⟨rfl, pz_at hPc hKc hDc hU hW⟩⟩ rfl rfl hl.1 rfl (lv_room (Nat.le_of_ble_eq_true rfl)) dX4_mark_33 ⟨Nat.le_of_ble_eq_true rfl, Nat.le_of_ble_eq_true rfl⟩) hS (fun q _ h => hFc q h) hFc (fun r_7 u t H locs ht hvm hw hB hz1 hk1 hS => ?_)
      obtain ⟨I_7, F_7⟩ := u
      obtain ⟨hP1, hK1, hD1⟩ := hB
      rw [ht] at hP1
      try dsimp only at hw
      have hP := hP1
      have hD := hD1.weaken (fun _ _ _ h9 => hFc _ h9)
      have hP : va_P (dC, dI) vwCl (gW h0 R C I_7 F_7) H := hP
      have hD : va_D A (gW h0 R C I_7 F_7) := hD
      have hr8 : r_7 = (-2) := hw.1
      subst hr8
      exact W.iret (v := (-2)) hx hb hr (fun t ht hW => ⟨⟨(-2), (I_7, F_7), rfl, (by first | (refine ⟨?_, rfl, fun k hk => rfl⟩; unfold exMark; (repeat' split) <;> first | rfl | (exfalso; omega)) | (refine ⟨?_, hw.2.1, hw.2.2⟩; unfold exMark; (repeat' split) <;> first | rfl | (exfalso; omega))), by rw [ht]; exact hP, va_K.moved hW.alike hK, hD⟩, hS.F ht⟩) hS.2.2 dX4_mark_36
  · skip
    have hr9 : r_1 = 0 := hr9
    subst hr9
    have f_1_0 : (a1.toInt < 0 ∨ (nI ns).toInt ≤ a1.toInt) := pz_id f_1_0
    refine lv_if_ne (tgt := 14) hx hb dX4_mark_5 (by decide) (fun c_8 => absurd c_8 (by decide)) (fun c_8 => ?_)
    refine lv_aload_n hx hb dX4_mark_8 rfl (lv_at hl 0 rfl) ?_
    refine lv_iconst (v := (-1)) hx hb dX4_mark_9 (by decide) ?_
    have hPc := hP.sub (ws' := (gW h0 R C I F)) [0, 1, 2, 3, 4, 5, 6, 7, 8, 9, 10, 11, 12, 13, 14, 15, 16, 17, 18, 19, 20, 21, 22, 23, 24, 25, 26, 27, 28, 29, 30, 31, 32] rfl
    have hDc := hD.sub (ws' := (gW h0 R C I F)) [0, 1, 2, 3, 4, 5, 6, 7, 8, 9, 10, 11, 12, 13, 14, 15, 16, 17, 18, 19, 20, 21, 22, 23, 24, 25, 26, 27, 28, 29, 30, 31, 32] (by decide) rfl
    have hKc := hK.sub (tys' := (gT C)) [0, 1, 2, 3, 4, 5, 6, 7, 8, 9, 10, 11, 12, 13, 14, 15, 16, 17, 18, 19, 20, 21, 22, 23, 24, 25, 26, 27, 28, 29, 30, 31] rfl
    have hFc := va_free (wc := (gW h0 R C I F)) hD hS hA [0, 1, 2, 3, 4, 5, 6, 7, 8, 9, 10, 11, 12, 13, 14, 15, 16, 17, 18, 19, 20, 21, 22, 23, 24, 25, 26, 27, 28, 29, 30, 31, 32] rfl
    refine va_calli (va_runV (As := [.int (-1)]) (rest := []) ⟨hx, hb, hml, hown, hts⟩ (m_X4_refuse1 l dC dI h0 R C I F H.size) (cwV 1 hts gX4_mark_X4_refuse rfl rfl rfl (by decide +kernel) ⟨Nat.le_of_ble_eq_true rfl, Nat.le_of_ble_eq_true rfl⟩) ⟨pz_blind, va_recv hKc hPc (ci := 5) (q0 := 0) rfl rfl, fun U hU hW => ⟨rfl, pz_at hPc hKc hDc hU hW⟩⟩ rfl rfl hl.1 rfl (lv_room (Nat.le_of_ble_eq_true rfl)) dX4_mark_10 ⟨Nat.le_of_ble_eq_true rfl, Nat.le_of_ble_eq_true rfl⟩) hS (fun q _ h => hFc q h) hFc (fun r_9 u t H locs ht hvm hw hB hz1 hk1 hS => ?_)
    obtain ⟨I_9, F_9⟩ := u
    obtain ⟨hP1, hK1, hD1⟩ := hB
    rw [ht] at hP1
    try dsimp only at hw
    have hP := hP1
    have hD := hD1.weaken (fun _ _ _ h9 => hFc _ h9)
    have hP : va_P (dC, dI) vwCl (gW h0 R C I_9 F_9) H := hP
    have hD : va_D A (gW h0 R C I_9 F_9) := hD
    have hr8 : r_9 = (-1) := hw.1
    subst hr8
    exact W.iret (v := (-1)) hx hb hr (fun t ht hW => ⟨⟨(-1), (I_9, F_9), rfl, (by first | (refine ⟨?_, rfl, fun k hk => rfl⟩; unfold exMark; (repeat' split) <;> first | rfl | (exfalso; omega)) | (refine ⟨?_, hw.2.1, hw.2.2⟩; unfold exMark; (repeat' split) <;> first | rfl | (exfalso; omega))), by rw [ht]; exact hP, va_K.moved hW.alike hK, hD⟩, hS.F ht⟩) hS.2.2 dX4_mark_13
