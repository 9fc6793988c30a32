set_option maxHeartbeats 40000000 in
set_option maxRecDepth 100000 in
theorem m_X4_server (l : Launch) (dC : Nat → ClassId) (dI : Nat → Nat → Nat) (h0 : Nat) (R : Nat → Nat) (C : Nat → ClassId) (I : Nat → Int32) (F : Nat → Nat → Int32) (ns : Nat) (a1 : Int32) (a2 : Int32) (a3 : Int32) (a4 : Int32) (a5 : Int32) (sz : Nat) (hns : I 2 = nI ns) (hbn : ns ≤ 8) : Met l yX4_server wsX4_server ({ frames := 1, cells := 0, slots := 0, locals := 21 }) (va_Pc [.ref h0, .int a1, .int a2, .int a3, .int a4, .int a5] (pzPre (dC, dI) vwCl (gW h0 R C I F) (gT C) sz)) (va_Qi (fun (r : Int32) (u : (Nat → Int32) × (Nat → Nat → Int32)) => (if a2.toInt < 0 ∨ 4 ≤ a2.toInt then r = -1 ∧ u.1 = I else if a1.toInt < 1 ∨ a3.toInt < 1 ∨ a4.toInt < 1 ∨ a5.toInt < 0 then r = -4 ∧ u.1 = I else if 100 < a1.toInt ∨ 20 < a3.toInt ∨ 200 < a4.toInt ∨ 20 < a5.toInt ∨ ns = 8 then r = -6 ∧ u.1 = I else r = nI ns ∧ u.1 = va_up I 2 (nI (ns + 1))) ∧ ∀ k, k ≠ 0 → k < 11 ∨ 15 < k → k ≠ 24 → u.2 k = F k) (fun (u : (Nat → Int32) × (Nat → Nat → Int32)) (t : State) => va_P (dC, dI) vwCl (gW h0 R C u.1 u.2) t.heap ∧ va_K (dC, dI) vwCl (gT C) t ∧ va_D (va_A (gW h0 R C I F) sz) (gW h0 R C u.1 u.2)) (va_A (gW h0 R C I F) sz)) 0 0 (va_A (gW h0 R C I F) sz) := by
  refine Met.ofW (cc := cX4_server) (maxL := 7) (ret := (some .int)) (by decide) rfl ?_
  intro p e s m args below meth c s₁ B hml hv
  obtain ⟨rfl, hsz, hP, hK, hD0⟩ := hv
  have hx := B.exec
  have hb := B.bytes
  have hr := B.returns
  have hts := atoms_spec (ws := wsX4_server) B.pre
  have hown : s.vm.findClass RX4 = some m.cls := findClass_of_methodNamed B.named
  have hlocks := B.notSynchronized
  subst hsz
  have hD := hD0.self (sz := s.heap.size)
  generalize hAe : va_A (gW h0 R C I F) s.heap.size = A at hD ⊢
  have hA : ∀ q : Nat, s.heap.size ≤ q → A q := fun q h => by rw [← hAe]; exact Or.inr h
  have hS : va_S A s.heap s.heap [] := va_S.rf
  have hP : va_P (dC, dI) vwCl (gW h0 R C I F) s.heap := hP
  have hnsI : (nI ns).toInt = (ns : Int) := nI_toInt (by omega)
  have hl := lv_entry ([.ref h0, .int a1, .int a2, .int a3, .int a4, .int a5]) (n := 7) (Nat.le_of_ble_eq_true rfl)
  rw [lg_entry_eq]
  generalize (lg_sl ([.ref h0, .int a1, .int a2, .int a3, .int a4, .int a5]) ++ List.replicate (7 - (lg_sl ([.ref h0, .int a1, .int a2, .int a3, .int a4, .int a5])).length) Slot.unset).toArray = ls at hl ⊢
  have hl : lv_has ls 7 [(0, .ref h0), (1, .int a1), (2, .int a2), (3, .int a3), (4, .int a4), (5, .int a5)] := hl
  refine lv_iload_n hx hb dX4_server_0 rfl (lv_at hl 2 rfl) ?_
  refine lv_iconst (v := 4) hx hb dX4_server_1 (by decide) ?_
  have hPc := hP.sub (ws' := []) [] rfl
  have hDc := hD.sub (ws' := []) [] (by decide) rfl
  have hKc := hK.sub (tys' := []) [] rfl
  have hFc := pz_f hA hS
  refine va_calli (va_runS (As := [.int a2, .int 4]) (rest := []) ⟨hx, hb, hml, hown, hts⟩ (m_X4_isIn l dC dI a2 4 s.heap.size) (va_cwS 2 hts gX4_server_X4_isIn rfl rfl rfl (by decide +kernel) ⟨Nat.le_of_ble_eq_true rfl, Nat.le_of_ble_eq_true rfl⟩) ⟨pz_blind, fun U hU hW => ⟨rfl, pz_at hPc hKc hDc hU hW⟩⟩ rfl rfl hl.1 rfl (lv_room (Nat.le_of_ble_eq_true rfl)) dX4_server_2 ⟨Nat.le_of_ble_eq_true rfl, Nat.le_of_ble_eq_true rfl⟩) hS (fun q _ h => hFc q h) hFc (fun r_1 u t H locs ht hvm hw hB hz1 hk1 hS => ?_)
  have hP := pz_keep hP hk1
  rcases hw with ⟨f_1_0, f_1_1, hr9⟩ | ⟨f_1_0, hr9⟩
  · skip
    have hr9 : r_1 = 1 := hr9
    subst hr9
    have f_1_0 : 0 ≤ a2.toInt := pz_id f_1_0
    have f_1_1 : a2.toInt < 4 := f_1_1
    refine lv_if_ne (tgt := 14) hx hb dX4_server_5 (by decide) (fun c_2 => ?_) (fun c_2 => absurd c_2 (by decide))
    refine lv_iload_n hx hb dX4_server_14 rfl (lv_at hl 1 rfl) ?_
    refine lv_iconst (v := 1) hx hb dX4_server_15 (by decide) ?_
    refine lv_icmp_lt (tgt := 35) hx hb dX4_server_16 (by decide) (fun c_3 => ?_) (fun c_3 => ?_)
    · skip
      have i_3 : a1.toInt < 1 := by have h9 := pz_lt c_3; exact h9
      refine lv_aload_n hx hb dX4_server_35 rfl (lv_at hl 0 rfl) ?_
      refine lv_bipush (v := (-4)) hx hb dX4_server_36 (by decide) ?_
      have hPc := hP.sub (ws' := (gW h0 R C I F)) [0, 1, 2, 3, 4, 5, 6, 7, 8, 9, 10, 11, 12, 13, 14, 15, 16, 17, 18, 19, 20, 21, 22, 23, 24, 25, 26, 27, 28, 29, 30, 31, 32] rfl
      have hDc := hD.sub (ws' := (gW h0 R C I F)) [0, 1, 2, 3, 4, 5, 6, 7, 8, 9, 10, 11, 12, 13, 14, 15, 16, 17, 18, 19, 20, 21, 22, 23, 24, 25, 26, 27, 28, 29, 30, 31, 32] (by decide) rfl
      have hKc := hK.sub (tys' := (gT C)) [0, 1, 2, 3, 4, 5, 6, 7, 8, 9, 10, 11, 12, 13, 14, 15, 16, 17, 18, 19, 20, 21, 22, 23, 24, 25, 26, 27, 28, 29, 30, 31] rfl
      have hFc := va_free (wc := (gW h0 R C I F)) hD hS hA [0, 1, 2, 3, 4, 5, 6, 7, 8, 9, 10, 11, 12, 13, 14, 15, 16, 17, 18, 19, 20, 21, 22, 23, 24, 25, 26, 27, 28, 29, 30, 31, 32] rfl
      refine va_calli (va_runV (As := [.int (-4)]) (rest := []) ⟨hx, hb, hml, hown, hts⟩ (m_X4_refuse4 l dC dI h0 R C I F H.size) (cwV 1 hts gX4_server_X4_refuse rfl rfl rfl (by decide +kernel) ⟨Nat.le_of_ble_eq_true rfl, Nat.le_of_ble_eq_true rfl⟩) ⟨pz_blind, va_recv hKc hPc (ci := 5) (q0 := 0) rfl rfl, fun U hU hW => ⟨rfl, pz_at hPc hKc hDc hU hW⟩⟩ rfl rfl hl.1 rfl (lv_room (Nat.le_of_ble_eq_true rfl)) dX4_server_38 ⟨Nat.le_of_ble_eq_true rfl, Nat.le_of_ble_eq_true rfl⟩) hS (fun q _ h => hFc q h) hFc (fun r_4 u t H locs ht hvm hw hB hz1 hk1 hS => ?_)
      obtain ⟨I_4, F_4⟩ := u
      obtain ⟨hP1, hK1, hD1⟩ := hB
      rw [ht] at hP1
      try dsimp only at hw
      have hP := hP1
      have hD := hD1.weaken (fun _ _ _ h9 => hFc _ h9)
      have hP : va_P (dC, dI) vwCl (gW h0 R C I_4 F_4) H := hP
      have hD : va_D A (gW h0 R C I_4 F_4) := hD
      have hr8 : r_4 = (-4) := hw.1
      subst hr8
      exact W.iret (v := (-4)) hx hb hr (fun t ht hW => ⟨⟨(-4), (I_4, F_4), rfl, (by first | (refine ⟨?_, fun k h0 h1 h2 => ?_⟩; { (repeat' split) <;> first | exact ⟨rfl, rfl⟩ | (exfalso; omega) }; { simp only [va_up]; (repeat' split) <;> first | rfl | (exfalso; omega) }) | (obtain ⟨-, w1, w2⟩ := hw; subst w1; refine ⟨?_, fun k h0 _ _ => w2 k h0⟩; (repeat' split) <;> first | exact ⟨rfl, rfl⟩ | (exfalso; omega))), by rw [ht]; exact hP, va_K.moved hW.alike hK, hD⟩, hS.F ht⟩) hS.2.2 dX4_server_41
    · skip
      have i_3 : 1 ≤ a1.toInt := by have h9 := pz_nlt c_3; exact h9
      refine lv_iload_n hx hb dX4_server_19 rfl (lv_at hl 3 rfl) ?_
      refine lv_iconst (v := 1) hx hb dX4_server_20 (by decide) ?_
      refine lv_icmp_lt (tgt := 35) hx hb dX4_server_21 (by decide) (fun c_5 => ?_) (fun c_5 => ?_)
      · skip
        have i_5 : a3.toInt < 1 := by have h9 := pz_lt c_5; exact h9
        refine lv_aload_n hx hb dX4_server_35 rfl (lv_at hl 0 rfl) ?_
        refine lv_bipush (v := (-4)) hx hb dX4_server_36 (by decide) ?_
        have hPc := hP.sub (ws' := (gW h0 R C I F)) [0, 1, 2, 3, 4, 5, 6, 7, 8, 9, 10, 11, 12, 13, 14, 15, 16, 17, 18, 19, 20, 21, 22, 23, 24, 25, 26, 27, 28, 29, 30, 31, 32] rfl
        have hDc := hD.sub (ws' := (gW h0 R C I F)) [0, 1, 2, 3, 4, 5, 6, 7, 8, 9, 10, 11, 12, 13, 14, 15, 16, 17, 18, 19, 20, 21, 22, 23, 24, 25, 26, 27, 28, 29, 30, 31, 32] (by decide) rfl
        have hKc := hK.sub (tys' := (gT C)) [0, 1, 2, 3, 4, 5, 6, 7, 8, 9, 10, 11, 12, 13, 14, 15, 16, 17, 18, 19, 20, 21, 22, 23, 24, 25, 26, 27, 28, 29, 30, 31] rfl
        have hFc := va_free (wc := (gW h0 R C I F)) hD hS hA [0, 1, 2, 3, 4, 5, 6, 7, 8, 9, 10, 11, 12, 13, 14, 15, 16, 17, 18, 19, 20, 21, 22, 23, 24, 25, 26, 27, 28, 29, 30, 31, 32] rfl
        refine va_calli (va_runV (As := [.int (-4)]) (rest := []) ⟨hx, hb, hml, hown, hts⟩ (m_X4_refuse4 l dC dI h0 R C I F H.size) (cwV 1 hts gX4_server_X4_refuse rfl rfl rfl (by decide +kernel) ⟨Nat.le_of_ble_eq_true rfl, Nat.le_of_ble_eq_true rfl⟩) ⟨pz_blind, va_recv hKc hPc (ci := 5) (q0 := 0) rfl rfl, fun U hU hW => ⟨rfl, pz_at hPc hKc hDc hU hW⟩⟩ rfl rfl hl.1 rfl (lv_room (Nat.le_of_ble_eq_true rfl)) dX4_server_38 ⟨Nat.le_of_ble_eq_true rfl, Nat.le_of_ble_eq_true rfl⟩) hS (fun q _ h => hFc q h) hFc (fun r_6 u t H locs ht hvm hw hB hz1 hk1 hS => ?_)
        obtain ⟨I_6, F_6⟩ := u
        obtain ⟨hP1, hK1, hD1⟩ := hB
        rw [ht] at hP1
        try dsimp only at hw
        have hP := hP1
        have hD := hD1.weaken (fun _ _ _ h9 => hFc _ h9)
        have hP : va_P (dC, dI) vwCl (gW h0 R C I_6 F_6) H := hP
        have hD : va_D A (gW h0 R C I_6 F_6) := hD
        have hr8 : r_6 = (-4) := hw.1
        subst hr8
        exact W.iret (v := (-4)) hx hb hr (fun t ht hW => ⟨⟨(-4), (I_6, F_6), rfl, (by first | (refine ⟨?_, fun k h0 h1 h2 => ?_⟩; { (repeat' split) <;> first | exact ⟨rfl, rfl⟩ | (exfalso; omega) }; { simp only [va_up]; (repeat' split) <;> first | rfl | (exfalso; omega) }) | (obtain ⟨-, w1, w2⟩ := hw; subst w1; refine ⟨?_, fun k h0 _ _ => w2 k h0⟩; (repeat' split) <;> first | exact ⟨rfl, rfl⟩ | (exfalso; omega))), by rw [ht]; exact hP, va_K.moved hW.alike hK, hD⟩, hS.F ht⟩) hS.2.2 dX4_server_41
      · skip
        have i_5 : 1 ≤ a3.toInt := by have h9 := pz_nlt c_5; exact h9
        refine lv_iload hx hb dX4_server_24 (lv_at hl 4 rfl) ?_
        refine lv_iconst (v := 1) hx hb dX4_server_26 (by decide) ?_
        refine lv_icmp_lt (tgt := 35) hx hb dX4_server_27 (by decide) (fun c_7 => ?_) (fun c_7 => ?_)
        · skip
          have i_7 : a4.toInt < 1 := by have h9 := pz_lt c_7; exact h9
          refine lv_aload_n hx hb dX4_server_35 rfl (lv_at hl 0 rfl) ?_
          refine lv_bipush (v := (-4)) hx hb dX4_server_36 (by decide) ?_
          have hPc := hP.sub (ws' := (gW h0 R C I F)) [0, 1, 2, 3, 4, 5, 6, 7, 8, 9, 10, 11, 12, 13, 14, 15, 16, 17, 18, 19, 20, 21, 22, 23, 24, 25, 26, 27, 28, 29, 30, 31, 32] rfl
          have hDc := hD.sub (ws' := (gW h0 R C I F)) [0, 1, 2, 3, 4, 5, 6, 7, 8, 9, 10, 11, 12, 13, 14, 15, 16, 17, 18, 19, 20, 21, 22, 23, 24, 25, 26, 27, 28, 29, 30, 31, 32] (by decide) rfl
          have hKc := hK.sub (tys' := (gT C)) [0, 1, 2, 3, 4, 5, 6, 7, 8, 9, 10, 11, 12, 13, 14, 15, 16, 17, 18, 19, 20, 21, 22, 23, 24, 25, 26, 27, 28, 29, 30, 31] rfl
          have hFc := va_free (wc := (gW h0 R C I F)) hD hS hA [0, 1, 2, 3, 4, 5, 6, 7, 8, 9, 10, 11, 12, 13, 14, 15, 16, 17, 18, 19, 20, 21, 22, 23, 24, 25, 26, 27, 28, 29, 30, 31, 32] rfl
          refine va_calli (va_runV (As := [.int (-4)]) (rest := []) ⟨hx, hb, hml, hown, hts⟩ (m_X4_refuse4 l dC dI h0 R C I F H.size) (cwV 1 hts gX4_server_X4_refuse rfl rfl rfl (by decide +kernel) ⟨Nat.le_of_ble_eq_true rfl, Nat.le_of_ble_eq_true rfl⟩) ⟨pz_blind, va_recv hKc hPc (ci := 5) (q0 := 0) rfl rfl, fun U hU hW => ⟨rfl, pz_at hPc hKc hDc hU hW⟩⟩ rfl rfl hl.1 rfl (lv_room (Nat.le_of_ble_eq_true rfl)) dX4_server_38 ⟨Nat.le_of_ble_eq_true rfl, Nat.le_of_ble_eq_true rfl⟩) hS (fun q _ h => hFc q h) hFc (fun r_8 u t H locs ht hvm hw hB hz1 hk1 hS => ?_)
          obtain ⟨I_8, F_8⟩ := u
          obtain ⟨hP1, hK1, hD1⟩ := hB
          rw [ht] at hP1
          try dsimp only at hw
          have hP := hP1
          have hD := hD1.weaken (fun _ _ _ h9 => hFc _ h9)
          have hP : va_P (dC, dI) vwCl (gW h0 R C I_8 F_8) H := hP
          have hD : va_D A (gW h0 R C I_8 F_8) := hD
          have hr8 : r_8 = (-4) := hw.1
          subst hr8
          exact W.iret (v := (-4)) hx hb hr (fun t ht hW => ⟨⟨(-4), (I_8, F_8), rfl, (by first | (refine ⟨?_, fun k h0 h1 h2 => ?_⟩; { (repeat' split) <;> first | exact ⟨rfl, rfl⟩ | (exfalso; omega) }; { simp only [va_up]; (repeat' split) <;> first | rfl | (exfalso; omega) }) | (obtain ⟨-, w1, w2⟩ := hw; subst w1; refine ⟨?_, fun k h0 _ _ => w2 k h0⟩; (repeat' split) <;> first | exact ⟨rfl, rfl⟩ | (exfalso; omega))), by rw [ht]; exact hP, va_K.moved hW.alike hK, hD⟩, hS.F ht⟩) hS.2.2 dX4_server_41
        · skip
          have i_7 : 1 ≤ a4.toInt := by have h9 := pz_nlt c_7; exact h9
          refine lv_iload hx hb dX4_server_30 (lv_at hl 5 rfl) ?_
          refine lv_if_ge (tgt := 42) hx hb dX4_server_32 (by decide) (fun c_9 => ?_) (fun c_9 => ?_)
          · skip
            have i_9 : 0 ≤ a5.toInt := by have h9 := pz_ge c_9; exact h9
            refine lv_iload_n hx hb dX4_server_42 rfl (lv_at hl 1 rfl) ?_
            refine lv_bipush (v := 100) hx hb dX4_server_43 (by decide) ?_
            refine lv_icmp_gt (tgt := 78) hx hb dX4_server_45 (by decide) (fun c_10 => ?_) (fun c_10 => ?_)
            · skip
              have i_10 : 100 < a1.toInt := by have h9 := pz_gt c_10; exact h9
              refine lv_aload_n hx hb dX4_server_78 rfl (lv_at hl 0 rfl) ?_
              refine lv_bipush (v := (-6)) hx hb dX4_server_79 (by decide) ?_
              have hPc := hP.sub (ws' := (gW h0 R C I F)) [0, 1, 2, 3, 4, 5, 6, 7, 8, 9, 10, 11, 12, 13, 14, 15, 16, 17, 18, 19, 20, 21, 22, 23, 24, 25, 26, 27, 28, 29, 30, 31, 32] rfl
              have hDc := hD.sub (ws' := (gW h0 R C I F)) [0, 1, 2, 3, 4, 5, 6, 7, 8, 9, 10, 11, 12, 13, 14, 15, 16, 17, 18, 19, 20, 21, 22, 23, 24, 25, 26, 27, 28, 29, 30, 31, 32] (by decide) rfl
              have hKc := hK.sub (tys' := (gT C)) [0, 1, 2, 3, 4, 5, 6, 7, 8, 9, 10, 11, 12, 13, 14, 15, 16, 17, 18, 19, 20, 21, 22, 23, 24, 25, 26, 27, 28, 29, 30, 31] rfl
              have hFc := va_free (wc := (gW h0 R C I F)) hD hS hA [0, 1, 2, 3, 4, 5, 6, 7, 8, 9, 10, 11, 12, 13, 14, 15, 16, 17, 18, 19, 20, 21, 22, 23, 24, 25, 26, 27, 28, 29, 30, 31, 32] rfl
              refine va_calli (va_runV (As := [.int (-6)]) (rest := []) ⟨hx, hb, hml, hown, hts⟩ (m_X4_refuse6 l dC dI h0 R C I F H.size) (cwV 1 hts gX4_server_X4_refuse rfl rfl rfl (by decide +kernel) ⟨Nat.le_of_ble_eq_true rfl, Nat.le_of_ble_eq_true rfl⟩) ⟨pz_blind, va_recv hKc hPc (ci := 5) (q0 := 0) rfl rfl, fun U hU hW => ⟨rfl, pz_at hPc hKc hDc hU hW⟩⟩ rfl rfl hl.1 rfl (lv_room (Nat.le_of_ble_eq_true rfl)) dX4_server_81 ⟨Nat.le_of_ble_eq_true rfl, Nat.le_of_ble_eq_true rfl⟩) hS (fun q _ h => hFc q h) hFc (fun r_11 u t H locs ht hvm hw hB hz1 hk1 hS => ?_)
              obtain ⟨I_11, F_11⟩ := u
              obtain ⟨hP1, hK1, hD1⟩ := hB
              rw [ht] at hP1
              try dsimp only at hw
              have hP := hP1
              have hD := hD1.weaken (fun _ _ _ h9 => hFc _ h9)
              have hP : va_P (dC, dI) vwCl (gW h0 R C I_11 F_11) H := hP
              have hD : va_D A (gW h0 R C I_11 F_11) := hD
              have hr8 : r_11 = (-6) := hw.1
              subst hr8
              exact W.iret (v := (-6)) hx hb hr (fun t ht hW => ⟨⟨(-6), (I_11, F_11), rfl, (by first | (refine ⟨?_, fun k h0 h1 h2 => ?_⟩; { (repeat' split) <;> first | exact ⟨rfl, rfl⟩ | (exfalso; omega) }; { simp only [va_up]; (repeat' split) <;> first | rfl | (exfalso; omega) }) | (obtain ⟨-, w1, w2⟩ := hw; subst w1; refine ⟨?_, fun k h0 _ _ => w2 k h0⟩; (repeat' split) <;> first | exact ⟨rfl, rfl⟩ | (exfalso; omega))), by rw [ht]; exact hP, va_K.moved hW.alike hK, hD⟩, hS.F ht⟩) hS.2.2 dX4_server_84
            · skip
              have i_10 : a1.toInt ≤ 100 := by have h9 := pz_ngt c_10; exact h9
              refine lv_iload_n hx hb dX4_server_48 rfl (lv_at hl 3 rfl) ?_
              refine lv_bipush (v := 20) hx hb dX4_server_49 (by decide) ?_
              refine lv_icmp_gt (tgt := 78) hx hb dX4_server_51 (by decide) (fun c_12 => ?_) (fun c_12 => ?_)
              · skip
                have i_12 : 20 < a3.toInt := by have h9 := pz_gt c_12; exact h9
                refine lv_aload_n hx hb dX4_server_78 rfl (lv_at hl 0 rfl) ?_
                refine lv_bipush (v := (-6)) hx hb dX4_server_79 (by decide) ?_
                have hPc := hP.sub (ws' := (gW h0 R C I F)) [0, 1, 2, 3, 4, 5, 6, 7, 8, 9, 10, 11, 12, 13, 14, 15, 16, 17, 18, 19, 20, 21, 22, 23, 24, 25, 26, 27, 28, 29, 30, 31, 32] rfl
                have hDc := hD.sub (ws' := (gW h0 R C I F)) [0, 1, 2, 3, 4, 5, 6, 7, 8, 9, 10, 11, 12, 13, 14, 15, 16, 17, 18, 19, 20, 21, 22, 23, 24, 25, 26, 27, 28, 29, 30, 31, 32] (by decide) rfl
                have hKc := hK.sub (tys' := (gT C)) [0, 1, 2, 3, 4, 5, 6, 7, 8, 9, 10, 11, 12, 13, 14, 15, 16, 17, 18, 19, 20, 21, 22, 23, 24, 25, 26, 27, 28, 29, 30, 31] rfl
                have hFc := va_free (wc := (gW h0 R C I F)) hD hS hA [0, 1, 2, 3, 4, 5, 6, 7, 8, 9, 10, 11, 12, 13, 14, 15, 16, 17, 18, 19, 20, 21, 22, 23, 24, 25, 26, 27, 28, 29, 30, 31, 32] rfl
                refine va_calli (va_runV (As := [.int (-6)]) (rest := []) ⟨hx, hb, hml, hown, hts⟩ (m_X4_refuse6 l dC dI h0 R C I F H.size) (cwV 1 hts gX4_server_X4_refuse rfl rfl rfl (by decide +kernel) ⟨Nat.le_of_ble_eq_true rfl, Nat.le_of_ble_eq_true rfl⟩) ⟨pz_blind, va_recv hKc hPc (ci := 5) (q0 := 0) rfl rfl, fun U hU hW => ⟨rfl, pz_at hPc hKc hDc hU hW⟩⟩ rfl rfl hl.1 rfl (lv_room (Nat.le_of_ble_eq_true rfl)) dX4_server_81 ⟨Nat.le_of_ble_eq_true rfl, Nat.le_of_ble_eq_true rfl⟩) hS (fun q _ h => hFc q h) hFc (fun r_13 u t H locs ht hvm hw hB hz1 hk1 hS => ?_)
                obtain ⟨I_13, F_13⟩ := u
                obtain ⟨hP1, hK1, hD1⟩ := hB
                rw [ht] at hP1
                try dsimp only at hw
                have hP := hP1
                have hD := hD1.weaken (fun _ _ _ h9 => hFc _ h9)
                have hP : va_P (dC, dI) vwCl (gW h0 R C I_13 F_13) H := hP
                have hD : va_D A (gW h0 R C I_13 F_13) := hD
                have hr8 : r_13 = (-6) := hw.1
                subst hr8
                exact W.iret (v := (-6)) hx hb hr (fun t ht hW => ⟨⟨(-6), (I_13, F_13), rfl, (by first | (refine ⟨?_, fun k h0 h1 h2 => ?_⟩; { (repeat' split) <;> first | exact ⟨rfl, rfl⟩ | (exfalso; omega) }; { simp only [va_up]; (repeat' split) <;> first | rfl | (exfalso; omega) }) | (obtain ⟨-, w1, w2⟩ := hw; subst w1; refine ⟨?_, fun k h0 _ _ => w2 k h0⟩; (repeat' split) <;> first | exact ⟨rfl, rfl⟩ | (exfalso; omega))), by rw [ht]; exact hP, va_K.moved hW.alike hK, hD⟩, hS.F ht⟩) hS.2.2 dX4_server_84
              · skip
                have i_12 : a3.toInt ≤ 20 := by have h9 := pz_ngt c_12; exact h9
                refine lv_iload hx hb dX4_server_54 (lv_at hl 4 rfl) ?_
                refine lv_sipush (v := 200) hx hb dX4_server_56 (by decide) ?_
                refine lv_icmp_gt (tgt := 78) hx hb dX4_server_59 (by decide) (fun c_14 => ?_) (fun c_14 => ?_)
                · skip
                  have i_14 : 200 < a4.toInt := by have h9 := pz_gt c_14; exact h9
                  refine lv_aload_n hx hb dX4_server_78 rfl (lv_at hl 0 rfl) ?_
                  refine lv_bipush (v := (-6)) hx hb dX4_server_79 (by decide) ?_
                  have hPc := hP.sub (ws' := (gW h0 R C I F)) [0, 1, 2, 3, 4, 5, 6, 7, 8, 9, 10, 11, 12, 13, 14, 15, 16, 17, 18, 19, 20, 21, 22, 23, 24, 25, 26, 27, 28, 29, 30, 31, 32] rfl
                  have hDc := hD.sub (ws' := (gW h0 R C I F)) [0, 1, 2, 3, 4, 5, 6, 7, 8, 9, 10, 11, 12, 13, 14, 15, 16, 17, 18, 19, 20, 21, 22, 23, 24, 25, 26, 27, 28, 29, 30, 31, 32] (by decide) rfl
                  have hKc := hK.sub (tys' := (gT C)) [0, 1, 2, 3, 4, 5, 6, 7, 8, 9, 10, 11, 12, 13, 14, 15, 16, 17, 18, 19, 20, 21, 22, 23, 24, 25, 26, 27, 28, 29, 30, 31] rfl
                  have hFc := va_free (wc := (gW h0 R C I F)) hD hS hA [0, 1, 2, 3, 4, 5, 6, 7, 8, 9, 10, 11, 12, 13, 14, 15, 16, 17, 18, 19, 20, 21, 22, 23, 24, 25, 26, 27, 28, 29, 30, 31, 32] rfl
                  refine va_calli (va_runV (As := [.int (-6)]) (rest := []) ⟨hx, hb, hml, hown, hts⟩ (m_X4_refuse6 l dC dI h0 R C I F H.size) (cwV 1 hts gX4_server_X4_refuse rfl rfl rfl (by decide +kernel) ⟨Nat.le_of_ble_eq_true rfl, Nat.le_of_ble_eq_true rfl⟩) ⟨pz_blind, va_recv hKc hPc (ci := 5) (q0 := 0) rfl rfl, fun U hU hW => ⟨rfl, pz_at hPc hKc hDc hU hW⟩⟩ rfl rfl hl.1 rfl (lv_room (Nat.le_of_ble_eq_true rfl)) dX4_server_81 ⟨Nat.le_of_ble_eq_true rfl, Nat.le_of_ble_eq_true rfl⟩) hS (fun q _ h => hFc q h) hFc (fun r_15 u t H locs ht hvm hw hB hz1 hk1 hS => ?_)
                  obtain ⟨I_15, F_15⟩ := u
                  obtain ⟨hP1, hK1, hD1⟩ := hB
                  rw [ht] at hP1
                  try dsimp only at hw
                  have hP := hP1
                  have hD := hD1.weaken (fun _ _ _ h9 => hFc _ h9)
                  have hP : va_P (dC, dI) vwCl (gW h0 R C I_15 F_15) H := hP
                  have hD : va_D A (gW h0 R C I_15 F_15) := hD
                  have hr8 : r_15 = (-6) := hw.1
                  subst hr8
                  exact W.iret (v := (-6)) hx hb hr (fun t ht hW => ⟨⟨(-6), (I_15, F_15), rfl, (by first | (refine ⟨?_, fun k h0 h1 h2 => ?_⟩; { (repeat' split) <;> first | exact ⟨rfl, rfl⟩ | (exfalso; omega) }; { simp only [va_up]; (repeat' split) <;> first | rfl | (exfalso; omega) }) | (obtain ⟨-, w1, w2⟩ := hw; subst w1; refine ⟨?_, fun k h0 _ _ => w2 k h0⟩; (repeat' split) <;> first | exact ⟨rfl, rfl⟩ | (exfalso; omega))), by rw [ht]; exact hP, va_K.moved hW.alike hK, hD⟩, hS.F ht⟩) hS.2.2 dX4_server_84
                · skip
                  have i_14 : a4.toInt ≤ 200 := by have h9 := pz_ngt c_14; exact h9
                  refine lv_iload hx hb dX4_server_62 (lv_at hl 5 rfl) ?_
                  refine lv_bipush (v := 20) hx hb dX4_server_64 (by decide) ?_
                  refine lv_icmp_gt (tgt := 78) hx hb dX4_server_66 (by decide) (fun c_16 => ?_) (fun c_16 => ?_)
                  · skip
                    have i_16 : 20 < a5.toInt := by have h9 := pz_gt c_16; exact h9
                    refine lv_aload_n hx hb dX4_server_78 rfl (lv_at hl 0 rfl) ?_
                    refine lv_bipush (v := (-6)) hx hb dX4_server_79 (by decide) ?_
                    have hPc := hP.sub (ws' := (gW h0 R C I F)) [0, 1, 2, 3, 4, 5, 6, 7, 8, 9, 10, 11, 12, 13, 14, 15, 16, 17, 18, 19, 20, 21, 22, 23, 24, 25, 26, 27, 28, 29, 30, 31, 32] rfl
                    have hDc := hD.sub (ws' := (gW h0 R C I F)) [0, 1, 2, 3, 4, 5, 6, 7, 8, 9, 10, 11, 12, 13, 14, 15, 16, 17, 18, 19, 20, 21, 22, 23, 24, 25, 26, 27, 28, 29, 30, 31, 32] (by decide) rfl
                    have hKc := hK.sub (tys' := (gT C)) [0, 1, 2, 3, 4, 5, 6, 7, 8, 9, 10, 11, 12, 13, 14, 15, 16, 17, 18, 19, 20, 21, 22, 23, 24, 25, 26, 27, 28, 29, 30, 31] rfl
                    have hFc := va_free (wc := (gW h0 R C I F)) hD hS hA [0, 1, 2, 3, 4, 5, 6, 7, 8, 9, 10, 11, 12, 13, 14, 15, 16, 17, 18, 19, 20, 21, 22, 23, 24, 25, 26, 27, 28, 29, 30, 31, 32] rfl
                    refine va_calli (va_runV (As := [.int (-6)]) (rest := []) ⟨hx, hb, hml, hown, hts⟩ (m_X4_refuse6 l dC dI h0 R C I F H.size) (cwV 1 hts gX4_server_X4_refuse rfl rfl rfl (by decide +kernel) ⟨Nat.le_of_ble_eq_true rfl, Nat.le_of_ble_eq_true rfl⟩) ⟨pz_blind, va_recv hKc hPc (ci := 5) (q0 := 0) rfl rfl, fun U hU hW => ⟨rfl, pz_at hPc hKc hDc hU hW⟩⟩ rfl rfl hl.1 rfl (lv_room (Nat.le_of_ble_eq_true rfl)) dX4_server_81 ⟨Nat.le_of_ble_eq_true rfl, Nat.le_of_ble_eq_true rfl⟩) hS (fun q _ h => hFc q h) hFc (fun r_17 u t H locs ht hvm hw hB hz1 hk1 hS => ?_)
                    obtain ⟨I_17, F_17⟩ := u
                    obtain ⟨hP1, hK1, hD1⟩ := hB
                    rw [ht] at hP1
                    try dsimp only at hw
                    have hP := hP1
                    have hD := hD1.weaken (fun _ _ _ h9 => hFc _ h9)
                    have hP : va_P (dC, dI) vwCl (gW h0 R C I_17 F_17) H := hP
                    have hD : va_D A (gW h0 R C I_17 F_17) := hD
                    have hr8 : r_17 = (-6) := hw.1
                    subst hr8
                    exact W.iret (v := (-6)) hx hb hr (fun t ht hW => ⟨⟨(-6), (I_17, F_17), rfl, (by first | (refine ⟨?_, fun k h0 h1 h2 => ?_⟩; { (repeat' split) <;> first | exact ⟨rfl, rfl⟩ | (exfalso; omega) }; { simp only [va_up]; (repeat' split) <;> first | rfl | (exfalso; omega) }) | (obtain ⟨-, w1, w2⟩ := hw; subst w1; refine ⟨?_, fun k h0 _ _ => w2 k h0⟩; (repeat' split) <;> first | exact ⟨rfl, rfl⟩ | (exfalso; omega))), by rw [ht]; exact hP, va_K.moved hW.alike hK, hD⟩, hS.F ht⟩) hS.2.2 dX4_server_84
                  · skip
                    have i_16 : a5.toInt ≤ 20 := by have h9 := pz_ngt c_16; exact h9
                    refine lv_aload_n hx hb dX4_server_69 rfl (lv_at hl 0 rfl) ?_
                    refine va_get (D := (dC, dI)) (ci := 5) (v := .int (I 2)) (C := RX4) (T := TX4) (N := 43) hx hb hts (fun _ h => List.mem_cons_of_mem _ (List.mem_append_right _ h)) hown hK hP 0 rfl rfl 2 (by decide) (hts (.fieldLink RX4 114 "FrontDoorModel" "servers" "I") (by decide +kernel)) (fun _ h9 => h9) rfl dX4_server_70 ?_
                    refine lv_topi (fun x_18 ex_18 => ?_)
                    obtain rfl : x_18 = (nI ns) := ex_18.trans hns
                    refine lv_bipush (v := 8) hx hb dX4_server_73 (by decide) ?_
                    refine lv_icmp_ne (tgt := 85) hx hb dX4_server_75 (by decide) (fun c_19 => ?_) (fun c_19 => ?_)
                    · skip
                      have i_19 : ¬ (nI ns).toInt = 8 := by have h9 := pz_neq c_19; exact h9
                      refine lv_aload_n hx hb dX4_server_85 rfl (lv_at hl 0 rfl) ?_
                      refine va_get (D := (dC, dI)) (ci := 5) (v := .int (I 2)) (C := RX4) (T := TX4) (N := 43) hx hb hts (fun _ h => List.mem_cons_of_mem _ (List.mem_append_right _ h)) hown hK hP 0 rfl rfl 2 (by decide) (hts (.fieldLink RX4 114 "FrontDoorModel" "servers" "I") (by decide +kernel)) (fun _ h9 => h9) rfl dX4_server_86 ?_
                      refine lv_topi (fun x_20 ex_20 => ?_)
                      obtain rfl : x_20 = (nI ns) := ex_20.trans hns
                      refine lv_istore (lv' := [(6, .int (nI ns)), (0, .ref h0), (1, .int a1), (2, .int a2), (3, .int a3), (4, .int a4), (5, .int a5)]) hx hb dX4_server_89 hl (by decide) rfl (fun ls hl => ?_)
                      refine lv_aload_n hx hb dX4_server_91 rfl (lv_at hl 1 rfl) ?_
                      refine lv_dup hx hb dX4_server_92 rfl ?_
                      refine va_get (D := (dC, dI)) (ci := 5) (v := .int (I 2)) (C := RX4) (T := TX4) (N := 43) hx hb hts (fun _ h => List.mem_cons_of_mem _ (List.mem_append_right _ h)) hown hK hP 0 rfl rfl 2 (by decide) (hts (.fieldLink RX4 114 "FrontDoorModel" "servers" "I") (by decide +kernel)) (fun _ h9 => h9) rfl dX4_server_93 ?_
                      refine lv_topi (fun x_21 ex_21 => ?_)
                      obtain rfl : x_21 = (nI ns) := ex_21.trans hns
                      refine lv_iconst (v := 1) hx hb dX4_server_96 (by decide) ?_
                      refine lv_iadd hx hb dX4_server_97 ?_
                      refine lv_topi (fun x_22 ex_22 => ?_)
                      obtain rfl : x_22 = (nI (ns + 1)) := ex_22.trans (nI_add ns 1)
                      refine va_put (D := (dC, dI)) (ci := 5) (v := .int (nI (ns + 1))) (ty := .int) (C := RX4) (T := TX4) (N := 43) hx hb hts (fun _ h => List.mem_cons_of_mem _ (List.mem_append_right _ h)) tyX4 tyX4_ok nmX4 hown hK hP hD hS 0 rfl rfl 2 (by decide) (hts (.fieldLink RX4 114 "FrontDoorModel" "servers" "I") (by decide +kernel)) (fun _ h9 => h9) rfl (by decide +kernel) rfl rfl (Nat.le_of_ble_eq_true rfl) dX4_server_98 (fun H locs hP hD hS => ?_)
                      have hP : va_P (dC, dI) vwCl (gW h0 R C (va_up I 2 (nI (ns + 1))) F) H := hP
                      have hD : va_D A (gW h0 R C (va_up I 2 (nI (ns + 1))) F) := hD
                      refine lv_aload_n hx hb dX4_server_101 rfl (lv_at hl 1 rfl) ?_
                      refine va_get (D := (dC, dI)) (ci := 5) (v := .ref (R 11)) (C := RX4) (T := TX4) (N := 43) hx hb hts (fun _ h => List.mem_cons_of_mem _ (List.mem_append_right _ h)) hown hK hP 0 rfl rfl 11 (by decide) (hts (.fieldLink RX4 20 "FrontDoorModel" "weight" "[I") (by decide +kernel)) (fun _ h9 => h9) rfl dX4_server_102 ?_
                      refine lv_iload hx hb dX4_server_105 (lv_at hl 0 rfl) ?_
                      refine lv_iload_n hx hb dX4_server_107 rfl (lv_at hl 2 rfl) ?_
                      refine va_iast hx hb hK hP hD hS 2 1 rfl rfl (vp_in_nI (by omega) (by decide)) dX4_server_108 (fun H locs hP hD hS => ?_)
                      have hP : va_P (dC, dI) vwCl (gW h0 R C (va_up I 2 (nI (ns + 1))) (va_up F 11 (upd (F 11) (Int32.toNatClampNeg (nI ns)) a1))) H := hP
                      have hD : va_D A (gW h0 R C (va_up I 2 (nI (ns + 1))) (va_up F 11 (upd (F 11) (Int32.toNatClampNeg (nI ns)) a1))) := hD
                      refine lv_aload_n hx hb dX4_server_109 rfl (lv_at hl 1 rfl) ?_
                      refine va_get (D := (dC, dI)) (ci := 5) (v := .ref (R 12)) (C := RX4) (T := TX4) (N := 43) hx hb hts (fun _ h => List.mem_cons_of_mem _ (List.mem_append_right _ h)) hown hK hP 0 rfl rfl 12 (by decide) (hts (.fieldLink RX4 23 "FrontDoorModel" "zone" "[I") (by decide +kernel)) (fun _ h9 => h9) rfl dX4_server_110 ?_
                      refine lv_iload hx hb dX4_server_113 (lv_at hl 0 rfl) ?_
                      refine lv_iload_n hx hb dX4_server_115 rfl (lv_at hl 3 rfl) ?_
                      refine va_iast hx hb hK hP hD hS 3 2 rfl rfl (vp_in_nI (by omega) (by decide)) dX4_server_116 (fun H locs hP hD hS => ?_)
                      have hP : va_P (dC, dI) vwCl (gW h0 R C (va_up I 2 (nI (ns + 1))) (va_up (va_up F 11 (upd (F 11) (Int32.toNatClampNeg (nI ns)) a1)) 12 (upd (F 12) (Int32.toNatClampNeg (nI ns)) a2))) H := hP
                      have hD : va_D A (gW h0 R C (va_up I 2 (nI (ns + 1))) (va_up (va_up F 11 (upd (F 11) (Int32.toNatClampNeg (nI ns)) a1)) 12 (upd (F 12) (Int32.toNatClampNeg (nI ns)) a2))) := hD
                      refine lv_aload_n hx hb dX4_server_117 rfl (lv_at hl 1 rfl) ?_
                      refine va_get (D := (dC, dI)) (ci := 5) (v := .ref (R 13)) (C := RX4) (T := TX4) (N := 43) hx hb hts (fun _ h => List.mem_cons_of_mem _ (List.mem_append_right _ h)) hown hK hP 0 rfl rfl 13 (by decide) (hts (.fieldLink RX4 26 "FrontDoorModel" "room" "[I") (by decide +kernel)) (fun _ h9 => h9) rfl dX4_server_118 ?_
                      refine lv_iload hx hb dX4_server_121 (lv_at hl 0 rfl) ?_
                      refine lv_iload_n hx hb dX4_server_123 rfl (lv_at hl 4 rfl) ?_
                      refine va_iast hx hb hK hP hD hS 4 3 rfl rfl (vp_in_nI (by omega) (by decide)) dX4_server_124 (fun H locs hP hD hS => ?_)
                      have hP : va_P (dC, dI) vwCl (gW h0 R C (va_up I 2 (nI (ns + 1))) (va_up (va_up (va_up F 11 (upd (F 11) (Int32.toNatClampNeg (nI ns)) a1)) 12 (upd (F 12) (Int32.toNatClampNeg (nI ns)) a2)) 13 (upd (F 13) (Int32.toNatClampNeg (nI ns)) a3))) H := hP
                      have hD : va_D A (gW h0 R C (va_up I 2 (nI (ns + 1))) (va_up (va_up (va_up F 11 (upd (F 11) (Int32.toNatClampNeg (nI ns)) a1)) 12 (upd (F 12) (Int32.toNatClampNeg (nI ns)) a2)) 13 (upd (F 13) (Int32.toNatClampNeg (nI ns)) a3))) := hD
                      refine lv_aload_n hx hb dX4_server_125 rfl (lv_at hl 1 rfl) ?_
                      refine va_get (D := (dC, dI)) (ci := 5) (v := .ref (R 14)) (C := RX4) (T := TX4) (N := 43) hx hb hts (fun _ h => List.mem_cons_of_mem _ (List.mem_append_right _ h)) hown hK hP 0 rfl rfl 14 (by decide) (hts (.fieldLink RX4 29 "FrontDoorModel" "pace" "[I") (by decide +kernel)) (fun _ h9 => h9) rfl dX4_server_126 ?_
                      refine lv_iload hx hb dX4_server_129 (lv_at hl 0 rfl) ?_
                      refine lv_iload hx hb dX4_server_131 (lv_at hl 5 rfl) ?_
                      refine va_iast hx hb hK hP hD hS 5 4 rfl rfl (vp_in_nI (by omega) (by decide)) dX4_server_133 (fun H locs hP hD hS => ?_)
                      have hP : va_P (dC, dI) vwCl (gW h0 R C (va_up I 2 (nI (ns + 1))) (va_up (va_up (va_up (va_up F 11 (upd (F 11) (Int32.toNatClampNeg (nI ns)) a1)) 12 (upd (F 12) (Int32.toNatClampNeg (nI ns)) a2)) 13 (upd (F 13) (Int32.toNatClampNeg (nI ns)) a3)) 14 (upd (F 14) (Int32.toNatClampNeg (nI ns)) a4))) H := hP
                      have hD : va_D A (gW h0 R C (va_up I 2 (nI (ns + 1))) (va_up (va_up (va_up (va_up F 11 (upd (F 11) (Int32.toNatClampNeg (nI ns)) a1)) 12 (upd (F 12) (Int32.toNatClampNeg (nI ns)) a2)) 13 (upd (F 13) (Int32.toNatClampNeg (nI ns)) a3)) 14 (upd (F 14) (Int32.toNatClampNeg (nI ns)) a4))) := hD
                      refine lv_aload_n hx hb dX4_server_134 rfl (lv_at hl 1 rfl) ?_
                      refine va_get (D := (dC, dI)) (ci := 5) (v := .ref (R 15)) (C := RX4) (T := TX4) (N := 43) hx hb hts (fun _ h => List.mem_cons_of_mem _ (List.mem_append_right _ h)) hown hK hP 0 rfl rfl 15 (by decide) (hts (.fieldLink RX4 32 "FrontDoorModel" "breaks" "[I") (by decide +kernel)) (fun _ h9 => h9) rfl dX4_server_135 ?_
                      refine lv_iload hx hb dX4_server_138 (lv_at hl 0 rfl) ?_
                      refine lv_iload hx hb dX4_server_140 (lv_at hl 6 rfl) ?_
                      refine va_iast hx hb hK hP hD hS 6 5 rfl rfl (vp_in_nI (by omega) (by decide)) dX4_server_142 (fun H locs hP hD hS => ?_)
                      have hP : va_P (dC, dI) vwCl (gW h0 R C (va_up I 2 (nI (ns + 1))) (va_up (va_up (va_up (va_up (va_up F 11 (upd (F 11) (Int32.toNatClampNeg (nI ns)) a1)) 12 (upd (F 12) (Int32.toNatClampNeg (nI ns)) a2)) 13 (upd (F 13) (Int32.toNatClampNeg (nI ns)) a3)) 14 (upd (F 14) (Int32.toNatClampNeg (nI ns)) a4)) 15 (upd (F 15) (Int32.toNatClampNeg (nI ns)) a5))) H := hP
                      have hD : va_D A (gW h0 R C (va_up I 2 (nI (ns + 1))) (va_up (va_up (va_up (va_up (va_up F 11 (upd (F 11) (Int32.toNatClampNeg (nI ns)) a1)) 12 (upd (F 12) (Int32.toNatClampNeg (nI ns)) a2)) 13 (upd (F 13) (Int32.toNatClampNeg (nI ns)) a3)) 14 (upd (F 14) (Int32.toNatClampNeg (nI ns)) a4)) 15 (upd (F 15) (Int32.toNatClampNeg (nI ns)) a5))) := hD
                      refine lv_aload_n hx hb dX4_server_143 rfl (lv_at hl 1 rfl) ?_
                      refine va_get (D := (dC, dI)) (ci := 5) (v := .ref (R 24)) (C := RX4) (T := TX4) (N := 43) hx hb hts (fun _ h => List.mem_cons_of_mem _ (List.mem_append_right _ h)) hown hK hP 0 rfl rfl 24 (by decide) (hts (.fieldLink RX4 59 "FrontDoorModel" "penalty" "[I") (by decide +kernel)) (fun _ h9 => h9) rfl dX4_server_144 ?_
                      refine lv_iload hx hb dX4_server_147 (lv_at hl 0 rfl) ?_
                      refine lv_bipush (v := 10) hx hb dX4_server_149 (by decide) ?_
                      refine va_iast hx hb hK hP hD hS 15 14 rfl rfl (vp_in_nI (by omega) (by decide)) dX4_server_151 (fun H locs hP hD hS => ?_)
                      have hP : va_P (dC, dI) vwCl (gW h0 R C (va_up I 2 (nI (ns + 1))) (va_up (va_up (va_up (va_up (va_up (va_up F 11 (upd (F 11) (Int32.toNatClampNeg (nI ns)) a1)) 12 (upd (F 12) (Int32.toNatClampNeg (nI ns)) a2)) 13 (upd (F 13) (Int32.toNatClampNeg (nI ns)) a3)) 14 (upd (F 14) (Int32.toNatClampNeg (nI ns)) a4)) 15 (upd (F 15) (Int32.toNatClampNeg (nI ns)) a5)) 24 (upd (F 24) (Int32.toNatClampNeg (nI ns)) 10))) H := hP
                      have hD : va_D A (gW h0 R C (va_up I 2 (nI (ns + 1))) (va_up (va_up (va_up (va_up (va_up (va_up F 11 (upd (F 11) (Int32.toNatClampNeg (nI ns)) a1)) 12 (upd (F 12) (Int32.toNatClampNeg (nI ns)) a2)) 13 (upd (F 13) (Int32.toNatClampNeg (nI ns)) a3)) 14 (upd (F 14) (Int32.toNatClampNeg (nI ns)) a4)) 15 (upd (F 15) (Int32.toNatClampNeg (nI ns)) a5)) 24 (upd (F 24) (Int32.toNatClampNeg (nI ns)) 10))) := hD
                      refine lv_iload hx hb dX4_server_152 (lv_at hl 0 rfl) ?_
                      exact W.iret (v := (nI ns)) hx hb hr (fun t ht hW => ⟨⟨(nI ns), ((va_up I 2 (nI (ns + 1))), (va_up (va_up (va_up (va_up (va_up (va_up F 11 (upd (F 11) (Int32.toNatClampNeg (nI ns)) a1)) 12 (upd (F 12) (Int32.toNatClampNeg (nI ns)) a2)) 13 (upd (F 13) (Int32.toNatClampNeg (nI ns)) a3)) 14 (upd (F 14) (Int32.toNatClampNeg (nI ns)) a4)) 15 (upd (F 15) (Int32.toNatClampNeg (nI ns)) a5)) 24 (upd (F 24) (Int32.toNatClampNeg (nI ns)) 10))), rfl, (by first | (refine ⟨?_, fun k h0 h1 h2 => ?_⟩; { (repeat' split) <;> first | exact ⟨rfl, rfl⟩ | (exfalso; omega) }; { simp only [va_up]; (repeat' split) <;> first | rfl | (exfalso; omega) }) | (obtain ⟨-, w1, w2⟩ := hw; subst w1; refine ⟨?_, fun k h0 _ _ => w2 k h0⟩; (repeat' split) <;> first | exact ⟨rfl, rfl⟩ | (exfalso; omega))), by rw [ht]; exact hP, va_K.moved hW.alike hK, hD⟩, hS.F ht⟩) hS.2.2 dX4_server_154
                    · skip
                      have i_19 : (nI ns).toInt = 8 := by have h9 := pz_eq c_19; exact h9
                      refine lv_aload_n hx hb dX4_server_78 rfl (lv_at hl 0 rfl) ?_
                      refine lv_bipush (v := (-6)) hx hb dX4_server_79 (by decide) ?_
                      have hPc := hP.sub (ws' := (gW h0 R C I F)) [0, 1, 2, 3, 4, 5, 6, 7, 8, 9, 10, 11, 12, 13, 14, 15, 16, 17, 18, 19, 20, 21, 22, 23, 24, 25, 26, 27, 28, 29, 30, 31, 32] rfl
                      have hDc := hD.sub (ws' := (gW h0 R C I F)) [0, 1, 2, 3, 4, 5, 6, 7, 8, 9, 10, 11, 12, 13, 14, 15, 16, 17, 18, 19, 20, 21, 22, 23, 24, 25, 26, 27, 28, 29, 30, 31, 32] (by decide) rfl
                      have hKc := hK.sub (tys' := (gT C)) [0, 1, 2, 3, 4, 5, 6, 7, 8, 9, 10, 11, 12, 13, 14, 15, 16, 17, 18, 19, 20, 21, 22, 23, 24, 25, 26, 27, 28, 29, 30, 31] rfl
                      have hFc := va_free (wc := (gW h0 R C I F)) hD hS hA [0, 1, 2, 3, 4, 5, 6, 7, 8, 9, 10, 11, 12, 13, 14, 15, 16, 17, 18, 19, 20, 21, 22, 23, 24, 25, 26, 27, 28, 29, 30, 31, 32] rfl
                      refine va_calli (va_runV (As := [.int (-6)]) (rest := []) ⟨hx, hb, hml, hown, hts⟩ (m_X4_refuse6 l dC dI h0 R C I F H.size) (cwV 1 hts gX4_server_X4_refuse rfl rfl rfl (by decide +kernel) ⟨Nat.le_of_ble_eq_true rfl, Nat.le_of_ble_eq_true rfl⟩) ⟨pz_blind, va_recv hKc hPc (ci := 5) (q0 := 0) rfl rfl, fun U hU hW => ⟨rfl, pz_at hPc hKc hDc hU hW⟩⟩ rfl rfl hl.1 rfl (lv_room (Nat.le_of_ble_eq_true rfl)) dX4_server_81 ⟨Nat.le_of_ble_eq_true rfl, Nat.le_of_ble_eq_true rfl⟩) hS (fun q _ h => hFc q h) hFc (fun r_23 u t H locs ht hvm hw hB hz1 hk1 hS => ?_)
                      obtain ⟨I_23, F_23⟩ := u
                      obtain ⟨hP1, hK1, hD1⟩ := hB
                      rw [ht] at hP1
                      try dsimp only at hw
                      have hP := hP1
                      have hD := hD1.weaken (fun _ _ _ h9 => hFc _ h9)
                      have hP : va_P (dC, dI) vwCl (gW h0 R C I_23 F_23) H := hP
                      have hD : va_D A (gW h0 R C I_23 F_23) := hD
                      have hr8 : r_23 = (-6) := hw.1
                      subst hr8
                      exact W.iret (v := (-6)) hx hb hr (fun t ht hW => ⟨⟨(-6), (I_23, F_23), rfl, (by first | (refine ⟨?_, fun k h0 h1 h2 => ?_⟩; { (repeat' split) <;> first | exact ⟨rfl, rfl⟩ | (exfalso; omega) }; { simp only [va_up]; (repeat' split) <;> first | rfl | (exfalso; omega) }) | (obtain ⟨-, w1, w2⟩ := hw; subst w1; refine ⟨?_, fun k h0 _ _ => w2 k h0⟩; (repeat' split) <;> first | exact ⟨rfl, rfl⟩ | (exfalso; omega))), by rw [ht]; exact hP, va_K.moved hW.alike hK, hD⟩, hS.F ht⟩) hS.2.2 dX4_server_84
          · skip
            have i_9 : a5.toInt < 0 := by have h9 := pz_nge c_9; exact h9
            refine lv_aload_n hx hb dX4_server_35 rfl (lv_at hl 0 rfl) ?_
            refine lv_bipush (v := (-4)) hx hb dX4_server_36 (by decide) ?_
            have hPc := hP.sub (ws' := (gW h0 R C I F)) [0, 1, 2, 3, 4, 5, 6, 7, 8, 9, 10, 11, 12, 13, 14, 15, 16, 17, 18, 19, 20, 21, 22, 23, 24, 25, 26, 27, 28, 29, 30, 31, 32] rfl
            have hDc := hD.sub (ws' := (gW h0 R C I F)) [0, 1, 2, 3, 4, 5, 6, 7, 8, 9, 10, 11, 12, 13, 14, 15, 16, 17, 18, 19, 20, 21, 22, 23, 24, 25, 26, 27, 28, 29, 30, 31, 32] (by decide) rfl
            have hKc := hK.sub (tys' := (gT C)) [0, 1, 2, 3, 4, 5, 6, 7, 8, 9, 10, 11, 12, 13, 14, 15, 16, 17, 18, 19, 20, 21, 22, 23, 24, 25, 26, 27, 28, 29, 30, 31] rfl
            have hFc := va_free (wc := (gW h0 R C I F)) hD hS hA [0, 1, 2, 3, 4, 5, 6, 7, 8, 9, 10, 11, 12, 13, 14, 15, 16, 17, 18, 19, 20, 21, 22, 23, 24, 25, 26, 27, 28, 29, 30, 31, 32] rfl
            refine va_calli (va_runV (As := [.int (-4)]) (rest := []) ⟨hx, hb, hml, hown, hts⟩ (m_X4_refuse4 l dC dI h0 R C I F H.size) (cwV 1 hts gX4_server_X4_refuse rfl rfl rfl (by decide +kernel) ⟨Nat.le_of_ble_eq_true rfl, Nat.le_of_ble_eq_true rfl⟩) ⟨pz_blind, va_recv hKc hPc (ci := 5) (q0 := 0) rfl rfl, fun U hU hW => ⟨rfl, pz_at hPc hKc hDc hU hW⟩⟩ rfl rfl hl.1 rfl (lv_room (Nat.le_of_ble_eq_true rfl)) dX4_server_38 ⟨Nat.le_of_ble_eq_true rfl, Nat.le_of_ble_eq_true rfl⟩) hS (fun q _ h => hFc q h) hFc (fun r_24 u t H locs ht hvm hw hB hz1 hk1 hS => ?_)
            obtain ⟨I_24, F_24⟩ := u
            obtain ⟨hP1, hK1, hD1⟩ := hB
            rw [ht] at hP1
            try dsimp only at hw
            have hP := hP1
            have hD := hD1.weaken (fun _ _ _ h9 => hFc _ h9)
            have hP : va_P (dC, dI) vwCl (gW h0 R C I_24 F_24) H := hP
            have hD : va_D A (gW h0 R C I_24 F_24) := hD
            have hr8 : r_24 = (-4) := hw.1
            subst hr8
            exact W.iret (v := (-4)) hx hb hr (fun t ht hW => ⟨⟨(-4), (I_24, F_24), rfl, (by first | (refine ⟨?_, fun k h0 h1 h2 => ?_⟩; { (repeat' split) <;> first | exact ⟨rfl, rfl⟩ | (exfalso; omega) }; { simp only [va_up]; (repeat' split) <;> first | rfl | (exfalso; omega) }) | (obtain ⟨-, w1, w2⟩ := hw; subst w1; refine ⟨?_, fun k h0 _ _ => w2 k h0⟩; (repeat' split) <;> first | exact ⟨rfl, rfl⟩ | (exfalso; omega))), by rw [ht]; exact hP, va_K.moved hW.alike hK, hD⟩, hS.F ht⟩) hS.2.2 dX4_server_41
  · skip
    have hr9 : r_1 = 0 := hr9
    subst hr9
    have f_1_0 : (a2.toInt < 0 ∨ 4 ≤ a2.toInt) := f_1_0
    refine lv_if_ne (tgt := 14) hx hb dX4_server_5 (by decide) (fun c_25 => absurd c_25 (by decide)) (fun c_25 => ?_)
    refine lv_aload_n hx hb dX4_server_8 rfl (lv_at hl 0 rfl) ?_
    refine lv_iconst (v := (-1)) hx hb dX4_server_9 (by decide) ?_
    have hPc := hP.sub (ws' := (gW h0 R C I F)) [0, 1, 2, 3, 4, 5, 6, 7, 8, 9, 10, 11, 12, 13, 14, 15, 16, 17, 18, 19, 20, 21, 22, 23, 24, 25, 26, 27, 28, 29, 30, 31, 32] rfl
    have hDc := hD.sub (ws' := (gW h0 R C I F)) [0, 1, 2, 3, 4, 5, 6, 7, 8, 9, 10, 11, 12, 13, 14, 15, 16, 17, 18, 19, 20, 21, 22, 23, 24, 25, 26, 27, 28, 29, 30, 31, 32] (by decide) rfl
    have hKc := hK.sub (tys' := (gT C)) [0, 1, 2, 3, 4, 5, 6, 7, 8, 9, 10, 11, 12, 13, 14, 15, 16, 17, 18, 19, 20, 21, 22, 23, 24, 25, 26, 27, 28, 29, 30, 31] rfl
    have hFc := va_free (wc := (gW h0 R C I F)) hD hS hA [0, 1, 2, 3, 4, 5, 6, 7, 8, 9, 10, 11, 12, 13, 14, 15, 16, 17, 18, 19, 20, 21, 22, 23, 24, 25, 26, 27, 28, 29, 30, 31, 32] rfl
    refine va_calli (va_runV (As := [.int (-1)]) (rest := []) ⟨hx, hb, hml, hown, hts⟩ (m_X4_refuse1 l dC dI h0 R C I F H.size) (cwV 1 hts gX4_server_X4_refuse rfl rfl rfl (by decide +kernel) ⟨Nat.le_of_ble_eq_true rfl, Nat.le_of_ble_eq_true rfl⟩) ⟨pz_blind, va_recv hKc hPc (ci := 5) (q0 := 0) rfl rfl, fun U hU hW => ⟨rfl, pz_at hPc hKc hDc hU hW⟩⟩ rfl rfl hl.1 rfl (lv_room (Nat.le_of_ble_eq_true rfl)) dX4_server_10 ⟨Nat.le_of_ble_eq_true rfl, Nat.le_of_ble_eq_true rfl⟩) hS (fun q _ h => hFc q h) hFc (fun r_26 u t H locs ht hvm hw hB hz1 hk1 hS => ?_)
    obtain ⟨I_26, F_26⟩ := u
    obtain ⟨hP1, hK1, hD1⟩ := hB
    rw [ht] at hP1
    try dsimp only at hw
    have hP := hP1
    have hD := hD1.weaken (fun _ _ _ h9 => hFc _ h9)
    have hP : va_P (dC, dI) vwCl (gW h0 R C I_26 F_26) H := hP
    have hD : va_D A (gW h0 R C I_26 F_26) := hD
    have hr8 : r_26 = (-1) := hw.1
    subst hr8
    exact W.iret (v := (-1)) hx hb hr (fun t ht hW => ⟨⟨(-1), (I_26, F_26), rfl, (by first | (refine ⟨?_, fun k h0 h1 h2 => ?_⟩; { (repeat' split) <;> first | exact ⟨rfl, rfl⟩ | (exfalso; omega) }; { simp only [va_up]; (repeat' split) <;> first | rfl | (exfalso; omega) }) | (obtain ⟨-, w1, w2⟩ := hw; subst w1; refine ⟨?_, fun k h0 _ _ => w2 k h0⟩; (repeat' split) <;> first | exact ⟨rfl, rfl⟩ | (exfalso; omega))), by rw [ht]; exact hP, va_K.moved hW.alike hK, hD⟩, hS.F ht⟩) hS.2.2 dX4_server_13
