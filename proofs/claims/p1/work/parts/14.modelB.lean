set_option maxHeartbeats 40000000 in
set_option maxRecDepth 100000 in
theorem k_X4_count (l : Launch) (dC : Nat → ClassId) (dI : Nat → Nat → Nat) (h0 : Nat) (R : Nat → Nat) (C : Nat → ClassId) (a1 : Int32) (sz : Nat) : Met l yX4_count wsX4_count ({ frames := 1, cells := 0, slots := 0, locals := 23 }) (va_Pc [.ref h0, .int a1] (pzPre (dC, dI) vwCl [(h0, .inr (5, [.ref (R 0), .int 0, .int 0, .int 0, .int 0, .int 3, .int 20, .int 0, .int 0, .int 0, .int 0, .ref (R 11), .ref (R 12), .ref (R 13), .ref (R 14), .ref (R 15), .ref (R 16), .ref (R 17), .ref (R 18), .ref (R 19), .ref (R 20), .ref (R 21), .ref (R 22), .ref (R 23), .ref (R 24), .ref (R 25), .ref (R 26), .ref (R 27), .ref (R 28), .ref (R 29), .ref (R 30), .ref (R 31), .ref (R 32), .ref (R 33), .ref (R 34), .ref (R 35), .ref (R 36), .ref (R 37), .ref (R 38), .ref (R 39), .ref (R 40), .ref (R 41), .int 0])), ((R 0), .inl ((C 0), 7, .inl (fun _ => 0)))] [((C 0), .int)] sz)) (va_Qi (fun (r : Int32) (_ : Unit) => r = ex_count a1) (fun _ _ => True) (va_A [] sz)) 0 0 (va_A [] sz) := by
  refine Met.ofW (cc := cX4_count) (maxL := 4) (ret := (some .int)) (by decide) rfl ?_
  intro p e s m args below meth c s₁ B hml hv
  obtain ⟨rfl, hsz, hP, hK, hD0⟩ := hv
  have hx := B.exec
  have hb := B.bytes
  have hr := B.returns
  have hts := atoms_spec (ws := wsX4_count) B.pre
  have hown : s.vm.findClass RX4 = some m.cls := findClass_of_methodNamed B.named
  have hlocks := B.notSynchronized
  subst hsz
  have hA : ∀ q : Nat, s.heap.size ≤ q → va_A [] s.heap.size q := fun q h => Or.inr h
  have hD := hD0
  generalize va_A [] s.heap.size = A at hA ⊢
  have hS : va_S A s.heap s.heap [] := va_S.rf
  have hP : va_P (dC, dI) vwCl [(h0, .inr (5, [.ref (R 0), .int 0, .int 0, .int 0, .int 0, .int 3, .int 20, .int 0, .int 0, .int 0, .int 0, .ref (R 11), .ref (R 12), .ref (R 13), .ref (R 14), .ref (R 15), .ref (R 16), .ref (R 17), .ref (R 18), .ref (R 19), .ref (R 20), .ref (R 21), .ref (R 22), .ref (R 23), .ref (R 24), .ref (R 25), .ref (R 26), .ref (R 27), .ref (R 28), .ref (R 29), .ref (R 30), .ref (R 31), .ref (R 32), .ref (R 33), .ref (R 34), .ref (R 35), .ref (R 36), .ref (R 37), .ref (R 38), .ref (R 39), .ref (R 40), .ref (R 41), .int 0])), ((R 0), .inl ((C 0), 7, .inl (fun _ => 0)))] s.heap := hP
  have hl := lv_entry ([.ref h0, .int a1]) (n := 4) (Nat.le_of_ble_eq_true rfl)
  rw [lg_entry_eq]
  generalize (lg_sl ([.ref h0, .int a1]) ++ List.replicate (4 - (lg_sl ([.ref h0, .int a1])).length) Slot.unset).toArray = ls at hl ⊢
  have hl : lv_has ls 4 [(0, .ref h0), (1, .int a1)] := hl
  refine lv_iload_n hx hb dX4_count_0 rfl (lv_at hl 1 rfl) ?_
  refine lv_bipush (v := 10) hx hb dX4_count_1 (by decide) ?_
  refine lv_icmp_le (tgt := 22) hx hb dX4_count_3 (by decide) (fun c_1 => ?_) (fun c_1 => ?_)
  · skip
    have i_1 : a1.toInt ≤ 10 := by have h9 := pz_le c_1; exact h9
    refine lv_iconst (v := 0) hx hb dX4_count_22 (by decide) ?_
    refine lv_istore_n (lv' := [(2, .int 0), (0, .ref h0), (1, .int a1)]) hx hb dX4_count_23 rfl hl (by decide) rfl (fun ls hl => ?_)
    refine lv_iload_n hx hb dX4_count_24 rfl (lv_at hl 2 rfl) ?_
    by_cases t_2 : a1.toInt < 0 ∨ 17 < a1.toInt
    · skip
      refine lv_tableOut (tgt := 177) hx hb dX4_count_25 t_2 (by decide) ?_
      refine lv_bipush (v := (-9)) hx hb dX4_count_177 (by decide) ?_
      exact W.iret (v := (-9)) hx hb hr (fun t ht hW => ⟨⟨(-9), (), rfl, (by unfold ex_count; (repeat' split) <;> first | rfl | omega), trivial⟩, hS.F ht⟩) hS.2.2 dX4_count_179
    · skip
      rcases pz_cases18 t_2 with e_2 | e_2 | e_2 | e_2 | e_2 | e_2 | e_2 | e_2 | e_2 | e_2 | e_2 | e_2 | e_2 | e_2 | e_2 | e_2 | e_2 | e_2
      · skip
        subst e_2
        refine lv_tableIn (off := 87) (tgt := 112) hx hb dX4_count_25 (by decide) (by decide) (by decide) (by decide) ?_
        refine lv_aload_n hx hb dX4_count_112 rfl (lv_at hl 1 rfl) ?_
        refine va_get (D := (dC, dI)) (ci := 5) (v := .int 0) (C := RX4) (T := TX4) (N := 43) hx hb hts (fun _ h => List.mem_cons_of_mem _ (List.mem_append_right _ h)) hown hK hP 0 rfl rfl 1 (by decide) (hts (.fieldLink RX4 163 "FrontDoorModel" "tick" "I") (by decide +kernel)) (fun _ h9 => h9) rfl dX4_count_113 ?_
        exact W.iret (v := 0) hx hb hr (fun t ht hW => ⟨⟨0, (), rfl, (by decide), trivial⟩, hS.F ht⟩) hS.2.2 dX4_count_116
      · skip
        subst e_2
        refine lv_tableIn (off := 92) (tgt := 117) hx hb dX4_count_25 (by decide) (by decide) (by decide) (by decide) ?_
        refine lv_aload_n hx hb dX4_count_117 rfl (lv_at hl 1 rfl) ?_
        refine va_get (D := (dC, dI)) (ci := 5) (v := .int 0) (C := RX4) (T := TX4) (N := 43) hx hb hts (fun _ h => List.mem_cons_of_mem _ (List.mem_append_right _ h)) hown hK hP 0 rfl rfl 2 (by decide) (hts (.fieldLink RX4 114 "FrontDoorModel" "servers" "I") (by decide +kernel)) (fun _ h9 => h9) rfl dX4_count_118 ?_
        exact W.iret (v := 0) hx hb hr (fun t ht hW => ⟨⟨0, (), rfl, (by decide), trivial⟩, hS.F ht⟩) hS.2.2 dX4_count_121
      · skip
        subst e_2
        refine lv_tableIn (off := 97) (tgt := 122) hx hb dX4_count_25 (by decide) (by decide) (by decide) (by decide) ?_
        refine lv_aload_n hx hb dX4_count_122 rfl (lv_at hl 1 rfl) ?_
        refine va_get (D := (dC, dI)) (ci := 5) (v := .int 0) (C := RX4) (T := TX4) (N := 43) hx hb hts (fun _ h => List.mem_cons_of_mem _ (List.mem_append_right _ h)) hown hK hP 0 rfl rfl 3 (by decide) (hts (.fieldLink RX4 121 "FrontDoorModel" "calls" "I") (by decide +kernel)) (fun _ h9 => h9) rfl dX4_count_123 ?_
        exact W.iret (v := 0) hx hb hr (fun t ht hW => ⟨⟨0, (), rfl, (by decide), trivial⟩, hS.F ht⟩) hS.2.2 dX4_count_126
      · skip
        subst e_2
        refine lv_tableIn (off := 102) (tgt := 127) hx hb dX4_count_25 (by decide) (by decide) (by decide) (by decide) ?_
        refine lv_aload_n hx hb dX4_count_127 rfl (lv_at hl 1 rfl) ?_
        refine lv_iload_n hx hb dX4_count_128 rfl (lv_at hl 2 rfl) ?_
        refine lv_iconst (v := 3) hx hb dX4_count_129 (by decide) ?_
        refine lv_isub hx hb dX4_count_130 ?_
        refine lv_topi (fun x_3 ex_3 => ?_)
        obtain rfl : x_3 = 0 := ex_3.trans (by decide)
        have hPc := hP.sub (ws' := [(h0, .inr (5, [.ref (R 0), .int 0, .int 0, .int 0, .int 0, .int 3, .int 20, .int 0, .int 0, .int 0, .int 0, .ref (R 11), .ref (R 12), .ref (R 13), .ref (R 14), .ref (R 15), .ref (R 16), .ref (R 17), .ref (R 18), .ref (R 19), .ref (R 20), .ref (R 21), .ref (R 22), .ref (R 23), .ref (R 24), .ref (R 25), .ref (R 26), .ref (R 27), .ref (R 28), .ref (R 29), .ref (R 30), .ref (R 31), .ref (R 32), .ref (R 33), .ref (R 34), .ref (R 35), .ref (R 36), .ref (R 37), .ref (R 38), .ref (R 39), .ref (R 40), .ref (R 41), .int 0]))]) [0] rfl
        have hDc := hD.sub (ws' := [(h0, .inr (5, [.ref (R 0), .int 0, .int 0, .int 0, .int 0, .int 3, .int 20, .int 0, .int 0, .int 0, .int 0, .ref (R 11), .ref (R 12), .ref (R 13), .ref (R 14), .ref (R 15), .ref (R 16), .ref (R 17), .ref (R 18), .ref (R 19), .ref (R 20), .ref (R 21), .ref (R 22), .ref (R 23), .ref (R 24), .ref (R 25), .ref (R 26), .ref (R 27), .ref (R 28), .ref (R 29), .ref (R 30), .ref (R 31), .ref (R 32), .ref (R 33), .ref (R 34), .ref (R 35), .ref (R 36), .ref (R 37), .ref (R 38), .ref (R 39), .ref (R 40), .ref (R 41), .int 0]))]) [0] (by decide) rfl
        have hKc := hK.sub (tys' := []) [] rfl
        have hFc := pz_f hA hS
        refine va_calli (va_runV (As := [.int 0]) (rest := []) ⟨hx, hb, hml, hown, hts⟩ (k_X4_inState l dC dI h0 R 0 s.heap.size) (cwV 1 hts gX4_count_X4_inState rfl rfl rfl (by decide +kernel) ⟨Nat.le_of_ble_eq_true rfl, Nat.le_of_ble_eq_true rfl⟩) ⟨pz_blind, va_recv hKc hPc (ci := 5) (q0 := 0) rfl rfl, fun U hU hW => ⟨rfl, pz_at hPc hKc hDc hU hW⟩⟩ rfl rfl hl.1 rfl (lv_room (Nat.le_of_ble_eq_true rfl)) dX4_count_131 ⟨Nat.le_of_ble_eq_true rfl, Nat.le_of_ble_eq_true rfl⟩) hS (fun q _ h => hFc q h) hFc (fun r_4 u t H locs ht hvm hw hB hz1 hk1 hS => ?_)
        have hP := pz_keep hP hk1
        have hw : r_4 = 0 := hw
        subst hw
        exact W.iret (v := 0) hx hb hr (fun t ht hW => ⟨⟨0, (), rfl, (by decide), trivial⟩, hS.F ht⟩) hS.2.2 dX4_count_134
      · skip
        subst e_2
        refine lv_tableIn (off := 102) (tgt := 127) hx hb dX4_count_25 (by decide) (by decide) (by decide) (by decide) ?_
        refine lv_aload_n hx hb dX4_count_127 rfl (lv_at hl 1 rfl) ?_
        refine lv_iload_n hx hb dX4_count_128 rfl (lv_at hl 2 rfl) ?_
        refine lv_iconst (v := 3) hx hb dX4_count_129 (by decide) ?_
        refine lv_isub hx hb dX4_count_130 ?_
        refine lv_topi (fun x_5 ex_5 => ?_)
        obtain rfl : x_5 = 1 := ex_5.trans (by decide)
        have hPc := hP.sub (ws' := [(h0, .inr (5, [.ref (R 0), .int 0, .int 0, .int 0, .int 0, .int 3, .int 20, .int 0, .int 0, .int 0, .int 0, .ref (R 11), .ref (R 12), .ref (R 13), .ref (R 14), .ref (R 15), .ref (R 16), .ref (R 17), .ref (R 18), .ref (R 19), .ref (R 20), .ref (R 21), .ref (R 22), .ref (R 23), .ref (R 24), .ref (R 25), .ref (R 26), .ref (R 27), .ref (R 28), .ref (R 29), .ref (R 30), .ref (R 31), .ref (R 32), .ref (R 33), .ref (R 34), .ref (R 35), .ref (R 36), .ref (R 37), .ref (R 38), .ref (R 39), .ref (R 40), .ref (R 41), .int 0]))]) [0] rfl
        have hDc := hD.sub (ws' := [(h0, .inr (5, [.ref (R 0), .int 0, .int 0, .int 0, .int 0, .int 3, .int 20, .int 0, .int 0, .int 0, .int 0, .ref (R 11), .ref (R 12), .ref (R 13), .ref (R 14), .ref (R 15), .ref (R 16), .ref (R 17), .ref (R 18), .ref (R 19), .ref (R 20), .ref (R 21), .ref (R 22), .ref (R 23), .ref (R 24), .ref (R 25), .ref (R 26), .ref (R 27), .ref (R 28), .ref (R 29), .ref (R 30), .ref (R 31), .ref (R 32), .ref (R 33), .ref (R 34), .ref (R 35), .ref (R 36), .ref (R 37), .ref (R 38), .ref (R 39), .ref (R 40), .ref (R 41), .int 0]))]) [0] (by decide) rfl
        have hKc := hK.sub (tys' := []) [] rfl
        have hFc := pz_f hA hS
        refine va_calli (va_runV (As := [.int 1]) (rest := []) ⟨hx, hb, hml, hown, hts⟩ (k_X4_inState l dC dI h0 R 1 s.heap.size) (cwV 1 hts gX4_count_X4_inState rfl rfl rfl (by decide +kernel) ⟨Nat.le_of_ble_eq_true rfl, Nat.le_of_ble_eq_true rfl⟩) ⟨pz_blind, va_recv hKc hPc (ci := 5) (q0 := 0) rfl rfl, fun U hU hW => ⟨rfl, pz_at hPc hKc hDc hU hW⟩⟩ rfl rfl hl.1 rfl (lv_room (Nat.le_of_ble_eq_true rfl)) dX4_count_131 ⟨Nat.le_of_ble_eq_true rfl, Nat.le_of_ble_eq_true rfl⟩) hS (fun q _ h => hFc q h) hFc (fun r_6 u t H locs ht hvm hw hB hz1 hk1 hS => ?_)
        have hP := pz_keep hP hk1
        have hw : r_6 = 0 := hw
        subst hw
        exact W.iret (v := 0) hx hb hr (fun t ht hW => ⟨⟨0, (), rfl, (by decide), trivial⟩, hS.F ht⟩) hS.2.2 dX4_count_134
      · skip
        subst e_2
        refine lv_tableIn (off := 102) (tgt := 127) hx hb dX4_count_25 (by decide) (by decide) (by decide) (by decide) ?_
        refine lv_aload_n hx hb dX4_count_127 rfl (lv_at hl 1 rfl) ?_
        refine lv_iload_n hx hb dX4_count_128 rfl (lv_at hl 2 rfl) ?_
        refine lv_iconst (v := 3) hx hb dX4_count_129 (by decide) ?_
        refine lv_isub hx hb dX4_count_130 ?_
        refine lv_topi (fun x_7 ex_7 => ?_)
        obtain rfl : x_7 = 2 := ex_7.trans (by decide)
        have hPc := hP.sub (ws' := [(h0, .inr (5, [.ref (R 0), .int 0, .int 0, .int 0, .int 0, .int 3, .int 20, .int 0, .int 0, .int 0, .int 0, .ref (R 11), .ref (R 12), .ref (R 13), .ref (R 14), .ref (R 15), .ref (R 16), .ref (R 17), .ref (R 18), .ref (R 19), .ref (R 20), .ref (R 21), .ref (R 22), .ref (R 23), .ref (R 24), .ref (R 25), .ref (R 26), .ref (R 27), .ref (R 28), .ref (R 29), .ref (R 30), .ref (R 31), .ref (R 32), .ref (R 33), .ref (R 34), .ref (R 35), .ref (R 36), .ref (R 37), .ref (R 38), .ref (R 39), .ref (R 40), .ref (R 41), .int 0]))]) [0] rfl
        have hDc := hD.sub (ws' := [(h0, .inr (5, [.ref (R 0), .int 0, .int 0, .int 0, .int 0, .int 3, .int 20, .int 0, .int 0, .int 0, .int 0, .ref (R 11), .ref (R 12), .ref (R 13), .ref (R 14), .ref (R 15), .ref (R 16), .ref (R 17), .ref (R 18), .ref (R 19), .ref (R 20), .ref (R 21), .ref (R 22), .ref (R 23), .ref (R 24), .ref (R 25), .ref (R 26), .ref (R 27), .ref (R 28), .ref (R 29), .ref (R 30), .ref (R 31), .ref (R 32), .ref (R 33), .ref (R 34), .ref (R 35), .ref (R 36), .ref (R 37), .ref (R 38), .ref (R 39), .ref (R 40), .ref (R 41), .int 0]))]) [0] (by decide) rfl
        have hKc := hK.sub (tys' := []) [] rfl
        have hFc := pz_f hA hS
        refine va_calli (va_runV (As := [.int 2]) (rest := []) ⟨hx, hb, hml, hown, hts⟩ (k_X4_inState l dC dI h0 R 2 s.heap.size) (cwV 1 hts gX4_count_X4_inState rfl rfl rfl (by decide +kernel) ⟨Nat.le_of_ble_eq_true rfl, Nat.le_of_ble_eq_true rfl⟩) ⟨pz_blind, va_recv hKc hPc (ci := 5) (q0 := 0) rfl rfl, fun U hU hW => ⟨rfl, pz_at hPc hKc hDc hU hW⟩⟩ rfl rfl hl.1 rfl (lv_room (Nat.le_of_ble_eq_true rfl)) dX4_count_131 ⟨Nat.le_of_ble_eq_true rfl, Nat.le_of_ble_eq_true rfl⟩) hS (fun q _ h => hFc q h) hFc (fun r_8 u t H locs ht hvm hw hB hz1 hk1 hS => ?_)
        have hP := pz_keep hP hk1
        have hw : r_8 = 0 := hw
        subst hw
        exact W.iret (v := 0) hx hb hr (fun t ht hW => ⟨⟨0, (), rfl, (by decide), trivial⟩, hS.F ht⟩) hS.2.2 dX4_count_134
      · skip
        subst e_2
        refine lv_tableIn (off := 102) (tgt := 127) hx hb dX4_count_25 (by decide) (by decide) (by decide) (by decide) ?_
        refine lv_aload_n hx hb dX4_count_127 rfl (lv_at hl 1 rfl) ?_
        refine lv_iload_n hx hb dX4_count_128 rfl (lv_at hl 2 rfl) ?_
        refine lv_iconst (v := 3) hx hb dX4_count_129 (by decide) ?_
        refine lv_isub hx hb dX4_count_130 ?_
        refine lv_topi (fun x_9 ex_9 => ?_)
        obtain rfl : x_9 = 3 := ex_9.trans (by decide)
        have hPc := hP.sub (ws' := [(h0, .inr (5, [.ref (R 0), .int 0, .int 0, .int 0, .int 0, .int 3, .int 20, .int 0, .int 0, .int 0, .int 0, .ref (R 11), .ref (R 12), .ref (R 13), .ref (R 14), .ref (R 15), .ref (R 16), .ref (R 17), .ref (R 18), .ref (R 19), .ref (R 20), .ref (R 21), .ref (R 22), .ref (R 23), .ref (R 24), .ref (R 25), .ref (R 26), .ref (R 27), .ref (R 28), .ref (R 29), .ref (R 30), .ref (R 31), .ref (R 32), .ref (R 33), .ref (R 34), .ref (R 35), .ref (R 36), .ref (R 37), .ref (R 38), .ref (R 39), .ref (R 40), .ref (R 41), .int 0]))]) [0] rfl
        have hDc := hD.sub (ws' := [(h0, .inr (5, [.ref (R 0), .int 0, .int 0, .int 0, .int 0, .int 3, .int 20, .int 0, .int 0, .int 0, .int 0, .ref (R 11), .ref (R 12), .ref (R 13), .ref (R 14), .ref (R 15), .ref (R 16), .ref (R 17), .ref (R 18), .ref (R 19), .ref (R 20), .ref (R 21), .ref (R 22), .ref (R 23), .ref (R 24), .ref (R 25), .ref (R 26), .ref (R 27), .ref (R 28), .ref (R 29), .ref (R 30), .ref (R 31), .ref (R 32), .ref (R 33), .ref (R 34), .ref (R 35), .ref (R 36), .ref (R 37), .ref (R 38), .ref (R 39), .ref (R 40), .ref (R 41), .int 0]))]) [0] (by decide) rfl
        have hKc := hK.sub (tys' := []) [] rfl
        have hFc := pz_f hA hS
        refine va_calli (va_runV (As := [.int 3]) (rest := []) ⟨hx, hb, hml, hown, hts⟩ (k_X4_inState l dC dI h0 R 3 s.heap.size) (cwV 1 hts gX4_count_X4_inState rfl rfl rfl (by decide +kernel) ⟨Nat.le_of_ble_eq_true rfl, Nat.le_of_ble_eq_true rfl⟩) ⟨pz_blind, va_recv hKc hPc (ci := 5) (q0 := 0) rfl rfl, fun U hU hW => ⟨rfl, pz_at hPc hKc hDc hU hW⟩⟩ rfl rfl hl.1 rfl (lv_room (Nat.le_of_ble_eq_true rfl)) dX4_count_131 ⟨Nat.le_of_ble_eq_true rfl, Nat.le_of_ble_eq_true rfl⟩) hS (fun q _ h => hFc q h) hFc (fun r_10 u t H locs ht hvm hw hB hz1 hk1 hS => ?_)
        have hP := pz_keep hP hk1
        have hw : r_10 = 0 := hw
        subst hw
        exact W.iret (v := 0) hx hb hr (fun t ht hW => ⟨⟨0, (), rfl, (by decide), trivial⟩, hS.F ht⟩) hS.2.2 dX4_count_134
      · skip
        subst e_2
        refine lv_tableIn (off := 102) (tgt := 127) hx hb dX4_count_25 (by decide) (by decide) (by decide) (by decide) ?_
        refine lv_aload_n hx hb dX4_count_127 rfl (lv_at hl 1 rfl) ?_
        refine lv_iload_n hx hb dX4_count_128 rfl (lv_at hl 2 rfl) ?_
        refine lv_iconst (v := 3) hx hb dX4_count_129 (by decide) ?_
        refine lv_isub hx hb dX4_count_130 ?_
        refine lv_topi (fun x_11 ex_11 => ?_)
        obtain rfl : x_11 = 4 := ex_11.trans (by decide)
        have hPc := hP.sub (ws' := [(h0, .inr (5, [.ref (R 0), .int 0, .int 0, .int 0, .int 0, .int 3, .int 20, .int 0, .int 0, .int 0, .int 0, .ref (R 11), .ref (R 12), .ref (R 13), .ref (R 14), .ref (R 15), .ref (R 16), .ref (R 17), .ref (R 18), .ref (R 19), .ref (R 20), .ref (R 21), .ref (R 22), .ref (R 23), .ref (R 24), .ref (R 25), .ref (R 26), .ref (R 27), .ref (R 28), .ref (R 29), .ref (R 30), .ref (R 31), .ref (R 32), .ref (R 33), .ref (R 34), .ref (R 35), .ref (R 36), .ref (R 37), .ref (R 38), .ref (R 39), .ref (R 40), .ref (R 41), .int 0]))]) [0] rfl
        have hDc := hD.sub (ws' := [(h0, .inr (5, [.ref (R 0), .int 0, .int 0, .int 0, .int 0, .int 3, .int 20, .int 0, .int 0, .int 0, .int 0, .ref (R 11), .ref (R 12), .ref (R 13), .ref (R 14), .ref (R 15), .ref (R 16), .ref (R 17), .ref (R 18), .ref (R 19), .ref (R 20), .ref (R 21), .ref (R 22), .ref (R 23), .ref (R 24), .ref (R 25), .ref (R 26), .ref (R 27), .ref (R 28), .ref (R 29), .ref (R 30), .ref (R 31), .ref (R 32), .ref (R 33), .ref (R 34), .ref (R 35), .ref (R 36), .ref (R 37), .ref (R 38), .ref (R 39), .ref (R 40), .ref (R 41), .int 0]))]) [0] (by decide) rfl
        have hKc := hK.sub (tys' := []) [] rfl
        have hFc := pz_f hA hS
        refine va_calli (va_runV (As := [.int 4]) (rest := []) ⟨hx, hb, hml, hown, hts⟩ (k_X4_inState l dC dI h0 R 4 s.heap.size) (cwV 1 hts gX4_count_X4_inState rfl rfl rfl (by decide +kernel) ⟨Nat.le_of_ble_eq_true rfl, Nat.le_of_ble_eq_true rfl⟩) ⟨pz_blind, va_recv hKc hPc (ci := 5) (q0 := 0) rfl rfl, fun U hU hW => ⟨rfl, pz_at hPc hKc hDc hU hW⟩⟩ rfl rfl hl.1 rfl (lv_room (Nat.le_of_ble_eq_true rfl)) dX4_count_131 ⟨Nat.le_of_ble_eq_true rfl, Nat.le_of_ble_eq_true rfl⟩) hS (fun q _ h => hFc q h) hFc (fun r_12 u t H locs ht hvm hw hB hz1 hk1 hS => ?_)
        have hP := pz_keep hP hk1
        have hw : r_12 = 0 := hw
        subst hw
        exact W.iret (v := 0) hx hb hr (fun t ht hW => ⟨⟨0, (), rfl, (by decide), trivial⟩, hS.F ht⟩) hS.2.2 dX4_count_134
      · skip
        subst e_2
        refine lv_tableIn (off := 110) (tgt := 135) hx hb dX4_count_25 (by decide) (by decide) (by decide) (by decide) ?_
        refine lv_aload_n hx hb dX4_count_135 rfl (lv_at hl 1 rfl) ?_
        refine va_get (D := (dC, dI)) (ci := 5) (v := .int 0) (C := RX4) (T := TX4) (N := 43) hx hb hts (fun _ h => List.mem_cons_of_mem _ (List.mem_append_right _ h)) hown hK hP 0 rfl rfl 8 (by decide) (hts (.fieldLink RX4 160 "FrontDoorModel" "askings" "I") (by decide +kernel)) (fun _ h9 => h9) rfl dX4_count_136 ?_
        exact W.iret (v := 0) hx hb hr (fun t ht hW => ⟨⟨0, (), rfl, (by decide), trivial⟩, hS.F ht⟩) hS.2.2 dX4_count_139
      · skip
        subst e_2
        refine lv_tableIn (off := 115) (tgt := 140) hx hb dX4_count_25 (by decide) (by decide) (by decide) (by decide) ?_
        refine lv_aload_n hx hb dX4_count_140 rfl (lv_at hl 1 rfl) ?_
        refine va_get (D := (dC, dI)) (ci := 5) (v := .int 0) (C := RX4) (T := TX4) (N := 43) hx hb hts (fun _ h => List.mem_cons_of_mem _ (List.mem_append_right _ h)) hown hK hP 0 rfl rfl 9 (by decide) (hts (.fieldLink RX4 206 "FrontDoorModel" "agains" "I") (by decide +kernel)) (fun _ h9 => h9) rfl dX4_count_141 ?_
        exact W.iret (v := 0) hx hb hr (fun t ht hW => ⟨⟨0, (), rfl, (by decide), trivial⟩, hS.F ht⟩) hS.2.2 dX4_count_144
      · skip
        subst e_2
        refine lv_tableIn (off := 120) (tgt := 145) hx hb dX4_count_25 (by decide) (by decide) (by decide) (by decide) ?_
        refine lv_aload_n hx hb dX4_count_145 rfl (lv_at hl 1 rfl) ?_
        refine va_get (D := (dC, dI)) (ci := 5) (v := .int 0) (C := RX4) (T := TX4) (N := 43) hx hb hts (fun _ h => List.mem_cons_of_mem _ (List.mem_append_right _ h)) hown hK hP 0 rfl rfl 10 (by decide) (hts (.fieldLink RX4 209 "FrontDoorModel" "seconds" "I") (by decide +kernel)) (fun _ h9 => h9) rfl dX4_count_146 ?_
        exact W.iret (v := 0) hx hb hr (fun t ht hW => ⟨⟨0, (), rfl, (by decide), trivial⟩, hS.F ht⟩) hS.2.2 dX4_count_149
      · skip
        exfalso
        have h9 : a1.toInt = 11 := by rw [e_2]; decide
        omega
      · skip
        exfalso
        have h9 : a1.toInt = 12 := by rw [e_2]; decide
        omega
      · skip
        exfalso
        have h9 : a1.toInt = 13 := by rw [e_2]; decide
        omega
      · skip
        exfalso
        have h9 : a1.toInt = 14 := by rw [e_2]; decide
        omega
      · skip
        exfalso
        have h9 : a1.toInt = 15 := by rw [e_2]; decide
        omega
      · skip
        exfalso
        have h9 : a1.toInt = 16 := by rw [e_2]; decide
        omega
      · skip
        exfalso
        have h9 : a1.toInt = 17 := by rw [e_2]; decide
        omega
  · skip
    have i_1 : 10 < a1.toInt := by have h9 := pz_nle c_1; exact h9
    refine lv_iload_n hx hb dX4_count_6 rfl (lv_at hl 1 rfl) ?_
    refine lv_bipush (v := 17) hx hb dX4_count_7 (by decide) ?_
    refine lv_icmp_ge (tgt := 22) hx hb dX4_count_9 (by decide) (fun c_13 => ?_) (fun c_13 => ?_)
    · skip
      have i_13 : 17 ≤ a1.toInt := by have h9 := pz_ge c_13; exact h9
      refine lv_iconst (v := 0) hx hb dX4_count_22 (by decide) ?_
      refine lv_istore_n (lv' := [(2, .int 0), (0, .ref h0), (1, .int a1)]) hx hb dX4_count_23 rfl hl (by decide) rfl (fun ls hl => ?_)
      refine lv_iload_n hx hb dX4_count_24 rfl (lv_at hl 2 rfl) ?_
      by_cases t_14 : a1.toInt < 0 ∨ 17 < a1.toInt
      · skip
        refine lv_tableOut (tgt := 177) hx hb dX4_count_25 t_14 (by decide) ?_
        refine lv_bipush (v := (-9)) hx hb dX4_count_177 (by decide) ?_
        exact W.iret (v := (-9)) hx hb hr (fun t ht hW => ⟨⟨(-9), (), rfl, (by unfold ex_count; (repeat' split) <;> first | rfl | omega), trivial⟩, hS.F ht⟩) hS.2.2 dX4_count_179
      · skip
        rcases pz_cases18 t_14 with e_14 | e_14 | e_14 | e_14 | e_14 | e_14 | e_14 | e_14 | e_14 | e_14 | e_14 | e_14 | e_14 | e_14 | e_14 | e_14 | e_14 | e_14
        · skip
          exfalso
          have h9 : a1.toInt = 0 := by rw [e_14]; decide
          omega
        · skip
          exfalso
          have h9 : a1.toInt = 1 := by rw [e_14]; decide
          omega
        · skip
          exfalso
          have h9 : a1.toInt = 2 := by rw [e_14]; decide
          omega
        · skip
          exfalso
          have h9 : a1.toInt = 3 := by rw [e_14]; decide
          omega
        · skip
          exfalso
          have h9 : a1.toInt = 4 := by rw [e_14]; decide
          omega
        · skip
          exfalso
          have h9 : a1.toInt = 5 := by rw [e_14]; decide
          omega
        · skip
          exfalso
          have h9 : a1.toInt = 6 := by rw [e_14]; decide
          omega
        · skip
          exfalso
          have h9 : a1.toInt = 7 := by rw [e_14]; decide
          omega
        · skip
          exfalso
          have h9 : a1.toInt = 8 := by rw [e_14]; decide
          omega
        · skip
          exfalso
          have h9 : a1.toInt = 9 := by rw [e_14]; decide
          omega
        · skip
          exfalso
          have h9 : a1.toInt = 10 := by rw [e_14]; decide
          omega
        · skip
          exfalso
          have h9 : a1.toInt = 11 := by rw [e_14]; decide
          omega
        · skip
          exfalso
          have h9 : a1.toInt = 12 := by rw [e_14]; decide
          omega
        · skip
          exfalso
          have h9 : a1.toInt = 13 := by rw [e_14]; decide
          omega
        · skip
          exfalso
          have h9 : a1.toInt = 14 := by rw [e_14]; decide
          omega
        · skip
          exfalso
          have h9 : a1.toInt = 15 := by rw [e_14]; decide
          omega
        · skip
          exfalso
          have h9 : a1.toInt = 16 := by rw [e_14]; decide
          omega
        · skip
          subst e_14
          refine lv_tableIn (off := 125) (tgt := 150) hx hb dX4_count_25 (by decide) (by decide) (by decide) (by decide) ?_
          refine lv_iconst (v := 0) hx hb dX4_count_150 (by decide) ?_
          refine lv_istore_n (lv' := [(3, .int 0), (2, .int 0), (0, .ref h0), (1, .int 17)]) hx hb dX4_count_151 rfl hl (by decide) rfl (fun ls hl => ?_)
          refine lv_iload_n hx hb dX4_count_152 rfl (lv_at hl 0 rfl) ?_
          refine lv_aload_n hx hb dX4_count_153 rfl (lv_at hl 2 rfl) ?_
          refine va_get (D := (dC, dI)) (ci := 5) (v := .int 0) (C := RX4) (T := TX4) (N := 43) hx hb hts (fun _ h => List.mem_cons_of_mem _ (List.mem_append_right _ h)) hown hK hP 0 rfl rfl 2 (by decide) (hts (.fieldLink RX4 114 "FrontDoorModel" "servers" "I") (by decide +kernel)) (fun _ h9 => h9) rfl dX4_count_154 ?_
          refine lv_icmp_ge (tgt := 175) hx hb dX4_count_157 (by decide) (fun c_15 => ?_) (fun c_15 => absurd (by decide) c_15)
          refine lv_iload_n hx hb dX4_count_175 rfl (lv_at hl 1 rfl) ?_
          exact W.iret (v := 0) hx hb hr (fun t ht hW => ⟨⟨0, (), rfl, (by decide), trivial⟩, hS.F ht⟩) hS.2.2 dX4_count_176
    · skip
      have i_13 : a1.toInt < 17 := by have h9 := pz_nge c_13; exact h9
      refine lv_aload_n hx hb dX4_count_12 rfl (lv_at hl 0 rfl) ?_
      refine va_get (D := (dC, dI)) (ci := 5) (v := .ref (R 0)) (C := RX4) (T := TX4) (N := 43) hx hb hts (fun _ h => List.mem_cons_of_mem _ (List.mem_append_right _ h)) hown hK hP 0 rfl rfl 0 (by decide) (hts (.fieldLink RX4 7 "FrontDoorModel" "refusals" "[I") (by decide +kernel)) (fun _ h9 => h9) rfl dX4_count_13 ?_
      refine lv_iload_n hx hb dX4_count_16 rfl (lv_at hl 1 rfl) ?_
      refine lv_bipush (v := 10) hx hb dX4_count_17 (by decide) ?_
      refine lv_isub hx hb dX4_count_19 ?_
      refine lv_topi (fun x_16 ex_16 => ?_)
      refine va_iald hx hb hK hP 1 0 rfl rfl (pz_in10 ex_16 (by omega) (by omega)) dX4_count_20 ?_
      refine lv_topi (fun x_17 ex_17 => ?_)
      obtain rfl : x_17 = 0 := ex_17.trans (rfl)
      exact W.iret (v := 0) hx hb hr (fun t ht hW => ⟨⟨0, (), rfl, (by unfold ex_count; (repeat' split) <;> first | rfl | omega), trivial⟩, hS.F ht⟩) hS.2.2 dX4_count_21

set_option maxHeartbeats 40000000 in
set_option maxRecDepth 100000 in
theorem k_X4_server (l : Launch) (dC : Nat → ClassId) (dI : Nat → Nat → Nat) (h0 : Nat) (R : Nat → Nat) (C : Nat → ClassId) (a1 : Int32) (a2 : Int32) (a3 : Int32) (a4 : Int32) (a5 : Int32) (sz : Nat) : Met l yX4_server wsX4_server ({ frames := 1, cells := 0, slots := 0, locals := 21 }) (va_Pc [.ref h0, .int a1, .int a2, .int a3, .int a4, .int a5] (pzPre (dC, dI) vwCl [(h0, .inr (5, [.ref (R 0), .int 0, .int 0, .int 0, .int 0, .int 3, .int 20, .int 0, .int 0, .int 0, .int 0, .ref (R 11), .ref (R 12), .ref (R 13), .ref (R 14), .ref (R 15), .ref (R 16), .ref (R 17), .ref (R 18), .ref (R 19), .ref (R 20), .ref (R 21), .ref (R 22), .ref (R 23), .ref (R 24), .ref (R 25), .ref (R 26), .ref (R 27), .ref (R 28), .ref (R 29), .ref (R 30), .ref (R 31), .ref (R 32), .ref (R 33), .ref (R 34), .ref (R 35), .ref (R 36), .ref (R 37), .ref (R 38), .ref (R 39), .ref (R 40), .ref (R 41), .int 0])), ((R 0), .inl ((C 0), 7, .inl (fun _ => 0))), ((R 11), .inl ((C 11), 8, .inl (fun _ => 0))), ((R 12), .inl ((C 12), 8, .inl (fun _ => 0))), ((R 13), .inl ((C 13), 8, .inl (fun _ => 0))), ((R 14), .inl ((C 14), 8, .inl (fun _ => 0))), ((R 15), .inl ((C 15), 8, .inl (fun _ => 0))), ((R 24), .inl ((C 24), 8, .inl (fun _ => 0)))] [((C 0), .int), ((C 11), .int), ((C 12), .int), ((C 13), .int), ((C 14), .int), ((C 15), .int), ((C 24), .int)] sz)) (va_Qi (fun (r : Int32) (_ : Unit) => r = ex_server a1 a2 a3 a4 a5) (fun _ _ => True) (va_A [(h0, .inr (5, [.ref (R 0), .int 0, .int 0, .int 0, .int 0, .int 3, .int 20, .int 0, .int 0, .int 0, .int 0, .ref (R 11), .ref (R 12), .ref (R 13), .ref (R 14), .ref (R 15), .ref (R 16), .ref (R 17), .ref (R 18), .ref (R 19), .ref (R 20), .ref (R 21), .ref (R 22), .ref (R 23), .ref (R 24), .ref (R 25), .ref (R 26), .ref (R 27), .ref (R 28), .ref (R 29), .ref (R 30), .ref (R 31), .ref (R 32), .ref (R 33), .ref (R 34), .ref (R 35), .ref (R 36), .ref (R 37), .ref (R 38), .ref (R 39), .ref (R 40), .ref (R 41), .int 0])), ((R 0), .inl ((C 0), 7, .inl (fun _ => 0))), ((R 11), .inl ((C 11), 8, .inl (fun _ => 0))), ((R 12), .inl ((C 12), 8, .inl (fun _ => 0))), ((R 13), .inl ((C 13), 8, .inl (fun _ => 0))), ((R 14), .inl ((C 14), 8, .inl (fun _ => 0))), ((R 15), .inl ((C 15), 8, .inl (fun _ => 0))), ((R 24), .inl ((C 24), 8, .inl (fun _ => 0)))] sz)) 0 0 (va_A [(h0, .inr (5, [.ref (R 0), .int 0, .int 0, .int 0, .int 0, .int 3, .int 20, .int 0, .int 0, .int 0, .int 0, .ref (R 11), .ref (R 12), .ref (R 13), .ref (R 14), .ref (R 15), .ref (R 16), .ref (R 17), .ref (R 18), .ref (R 19), .ref (R 20), .ref (R 21), .ref (R 22), .ref (R 23), .ref (R 24), .ref (R 25), .ref (R 26), .ref (R 27), .ref (R 28), .ref (R 29), .ref (R 30), .ref (R 31), .ref (R 32), .ref (R 33), .ref (R 34), .ref (R 35), .ref (R 36), .ref (R 37), .ref (R 38), .ref (R 39), .ref (R 40), .ref (R 41), .int 0])), ((R 0), .inl ((C 0), 7, .inl (fun _ => 0))), ((R 11), .inl ((C 11), 8, .inl (fun _ => 0))), ((R 12), .inl ((C 12), 8, .inl (fun _ => 0))), ((R 13), .inl ((C 13), 8, .inl (fun _ => 0))), ((R 14), .inl ((C 14), 8, .inl (fun _ => 0))), ((R 15), .inl ((C 15), 8, .inl (fun _ => 0))), ((R 24), .inl ((C 24), 8, .inl (fun _ => 0)))] sz) := by
  refine Met.ofW (cc := cX4_server) (maxL := 7) (ret := (some .int)) (by decide) rfl ?_
  intro p e s m args below meth c s₁ B hml hv
  obtain ⟨rfl, hsz, hP, hK, hD0⟩ := hv
  have hx := B.exec
  have hb := B.bytes
  have hr := B.returns
  have hts := atoms_spec (ws := wsX4_server) B.pre
  have hown : s.vm.findClass RX4 = some m.cls := findClass_of_methodNamed B.named
  have hlocks := B.notSynchronized
  subst hsz
  have hD := hD0.self (sz := s.heap.size)
  generalize hAe : va_A [(h0, .inr (5, [.ref (R 0), .int 0, .int 0, .int 0, .int 0, .int 3, .int 20, .int 0, .int 0, .int 0, .int 0, .ref (R 11), .ref (R 12), .ref (R 13), .ref (R 14), .ref (R 15), .ref (R 16), .ref (R 17), .ref (R 18), .ref (R 19), .ref (R 20), .ref (R 21), .ref (R 22), .ref (R 23), .ref (R 24), .ref (R 25), .ref (R 26), .ref (R 27), .ref (R 28), .ref (R 29), .ref (R 30), .ref (R 31), .ref (R 32), .ref (R 33), .ref (R 34), .ref (R 35), .ref (R 36), .ref (R 37), .ref (R 38), .ref (R 39), .ref (R 40), .ref (R 41), .int 0])), ((R 0), .inl ((C 0), 7, .inl (fun _ => 0))), ((R 11), .inl ((C 11), 8, .inl (fun _ => 0))), ((R 12), .inl ((C 12), 8, .inl (fun _ => 0))), ((R 13), .inl ((C 13), 8, .inl (fun _ => 0))), ((R 14), .inl ((C 14), 8, .inl (fun _ => 0))), ((R 15), .inl ((C 15), 8, .inl (fun _ => 0))), ((R 24), .inl ((C 24), 8, .inl (fun _ => 0)))] s.heap.size = A at hD ⊢
  have hA : ∀ q : Nat, s.heap.size ≤ q → A q := fun q h => by rw [← hAe]; exact Or.inr h
  have hS : va_S A s.heap s.heap [] := va_S.rf
  have hP : va_P (dC, dI) vwCl [(h0, .inr (5, [.ref (R 0), .int 0, .int 0, .int 0, .int 0, .int 3, .int 20, .int 0, .int 0, .int 0, .int 0, .ref (R 11), .ref (R 12), .ref (R 13), .ref (R 14), .ref (R 15), .ref (R 16), .ref (R 17), .ref (R 18), .ref (R 19), .ref (R 20), .ref (R 21), .ref (R 22), .ref (R 23), .ref (R 24), .ref (R 25), .ref (R 26), .ref (R 27), .ref (R 28), .ref (R 29), .ref (R 30), .ref (R 31), .ref (R 32), .ref (R 33), .ref (R 34), .ref (R 35), .ref (R 36), .ref (R 37), .ref (R 38), .ref (R 39), .ref (R 40), .ref (R 41), .int 0])), ((R 0), .inl ((C 0), 7, .inl (fun _ => 0))), ((R 11), .inl ((C 11), 8, .inl (fun _ => 0))), ((R 12), .inl ((C 12), 8, .inl (fun _ => 0))), ((R 13), .inl ((C 13), 8, .inl (fun _ => 0))), ((R 14), .inl ((C 14), 8, .inl (fun _ => 0))), ((R 15), .inl ((C 15), 8, .inl (fun _ => 0))), ((R 24), .inl ((C 24), 8, .inl (fun _ => 0)))] s.heap := hP
  have hl := lv_entry ([.ref h0, .int a1, .int a2, .int a3, .int a4, .int a5]) (n := 7) (Nat.le_of_ble_eq_true rfl)
  rw [lg_entry_eq]
  generalize (lg_sl ([.ref h0, .int a1, .int a2, .int a3, .int a4, .int a5]) ++ List.replicate (7 - (lg_sl ([.ref h0, .int a1, .int a2, .int a3, .int a4, .int a5])).length) Slot.unset).toArray = ls at hl ⊢
  have hl : lv_has ls 7 [(0, .ref h0), (1, .int a1), (2, .int a2), (3, .int a3), (4, .int a4), (5, .int a5)] := hl
  refine lv_iload_n hx hb dX4_server_0 rfl (lv_at hl 2 rfl) ?_
  refine lv_iconst (v := 4) hx hb dX4_server_1 (by decide) ?_
  have hPc := hP.sub (ws' := []) [] rfl
  have hDc := hD.sub (ws' := []) [] (by decide) rfl
  have hKc := hK.sub (tys' := []) [] rfl
  have hFc := pz_f hA hS
  refine va_calli (va_runS (As := [.int a2, .int 4]) (rest := []) ⟨hx, hb, hml, hown, hts⟩ (k_X4_isIn l dC dI a2 4 s.heap.size) (va_cwS 2 hts gX4_server_X4_isIn rfl rfl rfl (by decide +kernel) ⟨Nat.le_of_ble_eq_true rfl, Nat.le_of_ble_eq_true rfl⟩) ⟨pz_blind, fun U hU hW => ⟨rfl, pz_at hPc hKc hDc hU hW⟩⟩ rfl rfl hl.1 rfl (lv_room (Nat.le_of_ble_eq_true rfl)) dX4_server_2 ⟨Nat.le_of_ble_eq_true rfl, Nat.le_of_ble_eq_true rfl⟩) hS (fun q _ h => hFc q h) hFc (fun r_1 u t H locs ht hvm hw hB hz1 hk1 hS => ?_)
  have hP := pz_keep hP hk1
  rcases hw with ⟨f_1_0, f_1_1, hr9⟩ | ⟨f_1_0, hr9⟩
  · skip
    have hr9 : r_1 = 1 := hr9
    subst hr9
    have f_1_0 : 0 ≤ a2.toInt := pz_id f_1_0
    have f_1_1 : a2.toInt < 4 := f_1_1
    refine lv_if_ne (tgt := 14) hx hb dX4_server_5 (by decide) (fun c_2 => ?_) (fun c_2 => absurd c_2 (by decide))
    refine lv_iload_n hx hb dX4_server_14 rfl (lv_at hl 1 rfl) ?_
    refine lv_iconst (v := 1) hx hb dX4_server_15 (by decide) ?_
    refine lv_icmp_lt (tgt := 35) hx hb dX4_server_16 (by decide) (fun c_3 => ?_) (fun c_3 => ?_)
    · skip
      have i_3 : a1.toInt < 1 := by have h9 := pz_lt c_3; exact h9
      refine lv_aload_n hx hb dX4_server_35 rfl (lv_at hl 0 rfl) ?_
      refine lv_bipush (v := (-4)) hx hb dX4_server_36 (by decide) ?_
      have hPc := hP.sub (ws' := [(h0, .inr (5, [.ref (R 0), .int 0, .int 0, .int 0, .int 0, .int 3, .int 20, .int 0, .int 0, .int 0, .int 0, .ref (R 11), .ref (R 12), .ref (R 13), .ref (R 14), .ref (R 15), .ref (R 16), .ref (R 17), .ref (R 18), .ref (R 19), .ref (R 20), .ref (R 21), .ref (R 22), .ref (R 23), .ref (R 24), .ref (R 25), .ref (R 26), .ref (R 27), .ref (R 28), .ref (R 29), .ref (R 30), .ref (R 31), .ref (R 32), .ref (R 33), .ref (R 34), .ref (R 35), .ref (R 36), .ref (R 37), .ref (R 38), .ref (R 39), .ref (R 40), .ref (R 41), .int 0])), ((R 0), .inl ((C 0), 7, .inl (fun _ => 0)))]) [0, 1] rfl
      have hDc := hD.sub (ws' := [(h0, .inr (5, [.ref (R 0), .int 0, .int 0, .int 0, .int 0, .int 3, .int 20, .int 0, .int 0, .int 0, .int 0, .ref (R 11), .ref (R 12), .ref (R 13), .ref (R 14), .ref (R 15), .ref (R 16), .ref (R 17), .ref (R 18), .ref (R 19), .ref (R 20), .ref (R 21), .ref (R 22), .ref (R 23), .ref (R 24), .ref (R 25), .ref (R 26), .ref (R 27), .ref (R 28), .ref (R 29), .ref (R 30), .ref (R 31), .ref (R 32), .ref (R 33), .ref (R 34), .ref (R 35), .ref (R 36), .ref (R 37), .ref (R 38), .ref (R 39), .ref (R 40), .ref (R 41), .int 0])), ((R 0), .inl ((C 0), 7, .inl (fun _ => 0)))]) [0, 1] (by decide) rfl
      have hKc := hK.sub (tys' := [((C 0), .int)]) [0] rfl
      have hFc := va_free (wc := [(h0, .inr (5, [.ref (R 0), .int 0, .int 0, .int 0, .int 0, .int 3, .int 20, .int 0, .int 0, .int 0, .int 0, .ref (R 11), .ref (R 12), .ref (R 13), .ref (R 14), .ref (R 15), .ref (R 16), .ref (R 17), .ref (R 18), .ref (R 19), .ref (R 20), .ref (R 21), .ref (R 22), .ref (R 23), .ref (R 24), .ref (R 25), .ref (R 26), .ref (R 27), .ref (R 28), .ref (R 29), .ref (R 30), .ref (R 31), .ref (R 32), .ref (R 33), .ref (R 34), .ref (R 35), .ref (R 36), .ref (R 37), .ref (R 38), .ref (R 39), .ref (R 40), .ref (R 41), .int 0])), ((R 0), .inl ((C 0), 7, .inl (fun _ => 0)))]) hD hS hA [0, 1] rfl
      refine va_calli (va_runV (As := [.int (-4)]) (rest := []) ⟨hx, hb, hml, hown, hts⟩ (k_X4_refuse4 l dC dI h0 R C H.size) (cwV 1 hts gX4_server_X4_refuse rfl rfl rfl (by decide +kernel) ⟨Nat.le_of_ble_eq_true rfl, Nat.le_of_ble_eq_true rfl⟩) ⟨pz_blind, va_recv hKc hPc (ci := 5) (q0 := 0) rfl rfl, fun U hU hW => ⟨rfl, pz_at hPc hKc hDc hU hW⟩⟩ rfl rfl hl.1 rfl (lv_room (Nat.le_of_ble_eq_true rfl)) dX4_server_38 ⟨Nat.le_of_ble_eq_true rfl, Nat.le_of_ble_eq_true rfl⟩) hS (fun q _ h => hFc q h) hFc (fun r_4 u t H locs ht hvm hw hB hz1 hk1 hS => ?_)
      obtain ⟨hP, hD⟩ := va_join (wr := [((R 11), .inl ((C 11), 8, .inl (fun _ => 0))), ((R 12), .inl ((C 12), 8, .inl (fun _ => 0))), ((R 13), .inl ((C 13), 8, .inl (fun _ => 0))), ((R 14), .inl ((C 14), 8, .inl (fun _ => 0))), ((R 15), .inl ((C 15), 8, .inl (fun _ => 0))), ((R 24), .inl ((C 24), 8, .inl (fun _ => 0)))]) (w1 := []) hP hD [0, 1] [2, 3, 4, 5, 6, 7] rfl rfl (by decide) (by decide) hk1 hFc pz_nilP pz_nilD
      have hP : va_P (dC, dI) vwCl [((R 11), .inl ((C 11), 8, .inl (fun _ => 0))), ((R 12), .inl ((C 12), 8, .inl (fun _ => 0))), ((R 13), .inl ((C 13), 8, .inl (fun _ => 0))), ((R 14), .inl ((C 14), 8, .inl (fun _ => 0))), ((R 15), .inl ((C 15), 8, .inl (fun _ => 0))), ((R 24), .inl ((C 24), 8, .inl (fun _ => 0)))] H := hP
      have hD : va_D A [((R 11), .inl ((C 11), 8, .inl (fun _ => 0))), ((R 12), .inl ((C 12), 8, .inl (fun _ => 0))), ((R 13), .inl ((C 13), 8, .inl (fun _ => 0))), ((R 14), .inl ((C 14), 8, .inl (fun _ => 0))), ((R 15), .inl ((C 15), 8, .inl (fun _ => 0))), ((R 24), .inl ((C 24), 8, .inl (fun _ => 0)))] := hD
      have hw : r_4 = (-4) := hw
      subst hw
      exact W.iret (v := (-4)) hx hb hr (fun t ht hW => ⟨⟨(-4), (), rfl, (by unfold ex_server; (repeat' split) <;> first | rfl | omega), trivial⟩, hS.F ht⟩) hS.2.2 dX4_server_41
    · skip
      have i_3 : 1 ≤ a1.toInt := by have h9 := pz_nlt c_3; exact h9
      refine lv_iload_n hx hb dX4_server_19 rfl (lv_at hl 3 rfl) ?_
      refine lv_iconst (v := 1) hx hb dX4_server_20 (by decide) ?_
      refine lv_icmp_lt (tgt := 35) hx hb dX4_server_21 (by decide) (fun c_5 => ?_) (fun c_5 => ?_)
      · skip
        have i_5 : a3.toInt < 1 := by have h9 := pz_lt c_5; exact h9
        refine lv_aload_n hx hb dX4_server_35 rfl (lv_at hl 0 rfl) ?_
        refine lv_bipush (v := (-4)) hx hb dX4_server_36 (by decide) ?_
        have hPc := hP.sub (ws' := [(h0, .inr (5, [.ref (R 0), .int 0, .int 0, .int 0, .int 0, .int 3, .int 20, .int 0, .int 0, .int 0, .int 0, .ref (R 11), .ref (R 12), .ref (R 13), .ref (R 14), .ref (R 15), .ref (R 16), .ref (R 17), .ref (R 18), .ref (R 19), .ref (R 20), .ref (R 21), .ref (R 22), .ref (R 23), .ref (R 24), .ref (R 25), .ref (R 26), .ref (R 27), .ref (R 28), .ref (R 29), .ref (R 30), .ref (R 31), .ref (R 32), .ref (R 33), .ref (R 34), .ref (R 35), .ref (R 36), .ref (R 37), .ref (R 38), .ref (R 39), .ref (R 40), .ref (R 41), .int 0])), ((R 0), .inl ((C 0), 7, .inl (fun _ => 0)))]) [0, 1] rfl
        have hDc := hD.sub (ws' := [(h0, .inr (5, [.ref (R 0), .int 0, .int 0, .int 0, .int 0, .int 3, .int 20, .int 0, .int 0, .int 0, .int 0, .ref (R 11), .ref (R 12), .ref (R 13), .ref (R 14), .ref (R 15), .ref (R 16), .ref (R 17), .ref (R 18), .ref (R 19), .ref (R 20), .ref (R 21), .ref (R 22), .ref (R 23), .ref (R 24), .ref (R 25), .ref (R 26), .ref (R 27), .ref (R 28), .ref (R 29), .ref (R 30), .ref (R 31), .ref (R 32), .ref (R 33), .ref (R 34), .ref (R 35), .ref (R 36), .ref (R 37), .ref (R 38), .ref (R 39), .ref (R 40), .ref (R 41), .int 0])), ((R 0), .inl ((C 0), 7, .inl (fun _ => 0)))]) [0, 1] (by decide) rfl
        have hKc := hK.sub (tys' := [((C 0), .int)]) [0] rfl
        have hFc := va_free (wc := [(h0, .inr (5, [.ref (R 0), .int 0, .int 0, .int 0, .int 0, .int 3, .int 20, .int 0, .int 0, .int 0, .int 0, .ref (R 11), .ref (R 12), .ref (R 13), .ref (R 14), .ref (R 15), .ref (R 16), .ref (R 17), .ref (R 18), .ref (R 19), .ref (R 20), .ref (R 21), .ref (R 22), .ref (R 23), .ref (R 24), .ref (R 25), .ref (R 26), .ref (R 27), .ref (R 28), .ref (R 29), .ref (R 30), .ref (R 31), .ref (R 32), .ref (R 33), .ref (R 34), .ref (R 35), .ref (R 36), .ref (R 37), .ref (R 38), .ref (R 39), .ref (R 40), .ref (R 41), .int 0])), ((R 0), .inl ((C 0), 7, .inl (fun _ => 0)))]) hD hS hA [0, 1] rfl
        refine va_calli (va_runV (As := [.int (-4)]) (rest := []) ⟨hx, hb, hml, hown, hts⟩ (k_X4_refuse4 l dC dI h0 R C H.size) (cwV 1 hts gX4_server_X4_refuse rfl rfl rfl (by decide +kernel) ⟨Nat.le_of_ble_eq_true rfl, Nat.le_of_ble_eq_true rfl⟩) ⟨pz_blind, va_recv hKc hPc (ci := 5) (q0 := 0) rfl rfl, fun U hU hW => ⟨rfl, pz_at hPc hKc hDc hU hW⟩⟩ rfl rfl hl.1 rfl (lv_room (Nat.le_of_ble_eq_true rfl)) dX4_server_38 ⟨Nat.le_of_ble_eq_true rfl, Nat.le_of_ble_eq_true rfl⟩) hS (fun q _ h => hFc q h) hFc (fun r_6 u t H locs ht hvm hw hB hz1 hk1 hS => ?_)
        obtain ⟨hP, hD⟩ := va_join (wr := [((R 11), .inl ((C 11), 8, .inl (fun _ => 0))), ((R 12), .inl ((C 12), 8, .inl (fun _ => 0))), ((R 13), .inl ((C 13), 8, .inl (fun _ => 0))), ((R 14), .inl ((C 14), 8, .inl (fun _ => 0))), ((R 15), .inl ((C 15), 8, .inl (fun _ => 0))), ((R 24), .inl ((C 24), 8, .inl (fun _ => 0)))]) (w1 := []) hP hD [0, 1] [2, 3, 4, 5, 6, 7] rfl rfl (by decide) (by decide) hk1 hFc pz_nilP pz_nilD
        have hP : va_P (dC, dI) vwCl [((R 11), .inl ((C 11), 8, .inl (fun _ => 0))), ((R 12), .inl ((C 12), 8, .inl (fun _ => 0))), ((R 13), .inl ((C 13), 8, .inl (fun _ => 0))), ((R 14), .inl ((C 14), 8, .inl (fun _ => 0))), ((R 15), .inl ((C 15), 8, .inl (fun _ => 0))), ((R 24), .inl ((C 24), 8, .inl (fun _ => 0)))] H := hP
        have hD : va_D A [((R 11), .inl ((C 11), 8, .inl (fun _ => 0))), ((R 12), .inl ((C 12), 8, .inl (fun _ => 0))), ((R 13), .inl ((C 13), 8, .inl (fun _ => 0))), ((R 14), .inl ((C 14), 8, .inl (fun _ => 0))), ((R 15), .inl ((C 15), 8, .inl (fun _ => 0))), ((R 24), .inl ((C 24), 8, .inl (fun _ => 0)))] := hD
        have hw : r_6 = (-4) := hw
        subst hw
        exact W.iret (v := (-4)) hx hb hr (fun t ht hW => ⟨⟨(-4), (), rfl, (by unfold ex_server; (repeat' split) <;> first | rfl | omega), trivial⟩, hS.F ht⟩) hS.2.2 dX4_server_41
      · skip
        have i_5 : 1 ≤ a3.toInt := by have h9 := pz_nlt c_5; exact h9
        refine lv_iload hx hb dX4_server_24 (lv_at hl 4 rfl) ?_
        refine lv_iconst (v := 1) hx hb dX4_server_26 (by decide) ?_
        refine lv_icmp_lt (tgt := 35) hx hb dX4_server_27 (by decide) (fun c_7 => ?_) (fun c_7 => ?_)
        · skip
          have i_7 : a4.toInt < 1 := by have h9 := pz_lt c_7; exact h9
          refine lv_aload_n hx hb dX4_server_35 rfl (lv_at hl 0 rfl) ?_
          refine lv_bipush (v := (-4)) hx hb dX4_server_36 (by decide) ?_
          have hPc := hP.sub (ws' := [(h0, .inr (5, [.ref (R 0), .int 0, .int 0, .int 0, .int 0, .int 3, .int 20, .int 0, .int 0, .int 0, .int 0, .ref (R 11), .ref (R 12), .ref (R 13), .ref (R 14), .ref (R 15), .ref (R 16), .ref (R 17), .ref (R 18), .ref (R 19), .ref (R 20), .ref (R 21), .ref (R 22), .ref (R 23), .ref (R 24), .ref (R 25), .ref (R 26), .ref (R 27), .ref (R 28), .ref (R 29), .ref (R 30), .ref (R 31), .ref (R 32), .ref (R 33), .ref (R 34), .ref (R 35), .ref (R 36), .ref (R 37), .ref (R 38), .ref (R 39), .ref (R 40), .ref (R 41), .int 0])), ((R 0), .inl ((C 0), 7, .inl (fun _ => 0)))]) [0, 1] rfl
          have hDc := hD.sub (ws' := [(h0, .inr (5, [.ref (R 0), .int 0, .int 0, .int 0, .int 0, .int 3, .int 20, .int 0, .int 0, .int 0, .int 0, .ref (R 11), .ref (R 12), .ref (R 13), .ref (R 14), .ref (R 15), .ref (R 16), .ref (R 17), .ref (R 18), .ref (R 19), .ref (R 20), .ref (R 21), .ref (R 22), .ref (R 23), .ref (R 24), .ref (R 25), .ref (R 26), .ref (R 27), .ref (R 28), .ref (R 29), .ref (R 30), .ref (R 31), .ref (R 32), .ref (R 33), .ref (R 34), .ref (R 35), .ref (R 36), .ref (R 37), .ref (R 38), .ref (R 39), .ref (R 40), .ref (R 41), .int 0])), ((R 0), .inl ((C 0), 7, .inl (fun _ => 0)))]) [0, 1] (by decide) rfl
          have hKc := hK.sub (tys' := [((C 0), .int)]) [0] rfl
          have hFc := va_free (wc := [(h0, .inr (5, [.ref (R 0), .int 0, .int 0, .int 0, .int 0, .int 3, .int 20, .int 0, .int 0, .int 0, .int 0, .ref (R 11), .ref (R 12), .ref (R 13), .ref (R 14), .ref (R 15), .ref (R 16), .ref (R 17), .ref (R 18), .ref (R 19), .ref (R 20), .ref (R 21), .ref (R 22), .ref (R 23), .ref (R 24), .ref (R 25), .ref (R 26), .ref (R 27), .ref (R 28), .ref (R 29), .ref (R 30), .ref (R 31), .ref (R 32), .ref (R 33), .ref (R 34), .ref (R 35), .ref (R 36), .ref (R 37), .ref (R 38), .ref (R 39), .ref (R 40), .ref (R 41), .int 0])), ((R 0), .inl ((C 0), 7, .inl (fun _ => 0)))]) hD hS hA [0, 1] rfl
          refine va_calli (va_runV (As := [.int (-4)]) (rest := []) ⟨hx, hb, hml, hown, hts⟩ (k_X4_refuse4 l dC dI h0 R C H.size) (cwV 1 hts gX4_server_X4_refuse rfl rfl rfl (by decide +kernel) ⟨Nat.le_of_ble_eq_true rfl, Nat.le_of_ble_eq_true rfl⟩) ⟨pz_blind, va_recv hKc hPc (ci := 5) (q0 := 0) rfl rfl, fun U hU hW => ⟨rfl, pz_at hPc hKc hDc hU hW⟩⟩ rfl rfl hl.1 rfl (lv_room (Nat.le_of_ble_eq_true rfl)) dX4_server_38 ⟨Nat.le_of_ble_eq_true rfl, Nat.le_of_ble_eq_true rfl⟩) hS (fun q _ h => hFc q h) hFc (fun r_8 u t H locs ht hvm hw hB hz1 hk1 hS => ?_)
          obtain ⟨hP, hD⟩ := va_join (wr := [((R 11), .inl ((C 11), 8, .inl (fun _ => 0))), ((R 12), .inl ((C 12), 8, .inl (fun _ => 0))), ((R 13), .inl ((C 13), 8, .inl (fun _ => 0))), ((R 14), .inl ((C 14), 8, .inl (fun _ => 0))), ((R 15), .inl ((C 15), 8, .inl (fun _ => 0))), ((R 24), .inl ((C 24), 8, .inl (fun _ => 0)))]) (w1 := []) hP hD [0, 1] [2, 3, 4, 5, 6, 7] rfl rfl (by decide) (by decide) hk1 hFc pz_nilP pz_nilD
          have hP : va_P (dC, dI) vwCl [((R 11), .inl ((C 11), 8, .inl (fun _ => 0))), ((R 12), .inl ((C 12), 8, .inl (fun _ => 0))), ((R 13), .inl ((C 13), 8, .inl (fun _ => 0))), ((R 14), .inl ((C 14), 8, .inl (fun _ => 0))), ((R 15), .inl ((C 15), 8, .inl (fun _ => 0))), ((R 24), .inl ((C 24), 8, .inl (fun _ => 0)))] H := hP
          have hD : va_D A [((R 11), .inl ((C 11), 8, .inl (fun _ => 0))), ((R 12), .inl ((C 12), 8, .inl (fun _ => 0))), ((R 13), .inl ((C 13), 8, .inl (fun _ => 0))), ((R 14), .inl ((C 14), 8, .inl (fun _ => 0))), ((R 15), .inl ((C 15), 8, .inl (fun _ => 0))), ((R 24), .inl ((C 24), 8, .inl (fun _ => 0)))] := hD
          have hw : r_8 = (-4) := hw
          subst hw
          exact W.iret (v := (-4)) hx hb hr (fun t ht hW => ⟨⟨(-4), (), rfl, (by unfold ex_server; (repeat' split) <;> first | rfl | omega), trivial⟩, hS.F ht⟩) hS.2.2 dX4_server_41
        · skip
          have i_7 : 1 ≤ a4.toInt := by have h9 := pz_nlt c_7; exact h9
          refine lv_iload hx hb dX4_server_30 (lv_at hl 5 rfl) ?_
          refine lv_if_ge (tgt := 42) hx hb dX4_server_32 (by decide) (fun c_9 => ?_) (fun c_9 => ?_)
          · skip
            have i_9 : 0 ≤ a5.toInt := by have h9 := pz_ge c_9; exact h9
            refine lv_iload_n hx hb dX4_server_42 rfl (lv_at hl 1 rfl) ?_
            refine lv_bipush (v := 100) hx hb dX4_server_43 (by decide) ?_
            refine lv_icmp_gt (tgt := 78) hx hb dX4_server_45 (by decide) (fun c_10 => ?_) (fun c_10 => ?_)
            · skip
              have i_10 : 100 < a1.toInt := by have h9 := pz_gt c_10; exact h9
              refine lv_aload_n hx hb dX4_server_78 rfl (lv_at hl 0 rfl) ?_
              refine lv_bipush (v := (-6)) hx hb dX4_server_79 (by decide) ?_
              have hPc := hP.sub (ws' := [(h0, .inr (5, [.ref (R 0), .int 0, .int 0, .int 0, .int 0, .int 3, .int 20, .int 0, .int 0, .int 0, .int 0, .ref (R 11), .ref (R 12), .ref (R 13), .ref (R 14), .ref (R 15), .ref (R 16), .ref (R 17), .ref (R 18), .ref (R 19), .ref (R 20), .ref (R 21), .ref (R 22), .ref (R 23), .ref (R 24), .ref (R 25), .ref (R 26), .ref (R 27), .ref (R 28), .ref (R 29), .ref (R 30), .ref (R 31), .ref (R 32), .ref (R 33), .ref (R 34), .ref (R 35), .ref (R 36), .ref (R 37), .ref (R 38), .ref (R 39), .ref (R 40), .ref (R 41), .int 0])), ((R 0), .inl ((C 0), 7, .inl (fun _ => 0)))]) [0, 1] rfl
              have hDc := hD.sub (ws' := [(h0, .inr (5, [.ref (R 0), .int 0, .int 0, .int 0, .int 0, .int 3, .int 20, .int 0, .int 0, .int 0, .int 0, .ref (R 11), .ref (R 12), .ref (R 13), .ref (R 14), .ref (R 15), .ref (R 16), .ref (R 17), .ref (R 18), .ref (R 19), .ref (R 20), .ref (R 21), .ref (R 22), .ref (R 23), .ref (R 24), .ref (R 25), .ref (R 26), .ref (R 27), .ref (R 28), .ref (R 29), .ref (R 30), .ref (R 31), .ref (R 32), .ref (R 33), .ref (R 34), .ref (R 35), .ref (R 36), .ref (R 37), .ref (R 38), .ref (R 39), .ref (R 40), .ref (R 41), .int 0])), ((R 0), .inl ((C 0), 7, .inl (fun _ => 0)))]) [0, 1] (by decide) rfl
              have hKc := hK.sub (tys' := [((C 0), .int)]) [0] rfl
              have hFc := va_free (wc := [(h0, .inr (5, [.ref (R 0), .int 0, .int 0, .int 0, .int 0, .int 3, .int 20, .int 0, .int 0, .int 0, .int 0, .ref (R 11), .ref (R 12), .ref (R 13), .ref (R 14), .ref (R 15), .ref (R 16), .ref (R 17), .ref (R 18), .ref (R 19), .ref (R 20), .ref (R 21), .ref (R 22), .ref (R 23), .ref (R 24), .ref (R 25), .ref (R 26), .ref (R 27), .ref (R 28), .ref (R 29), .ref (R 30), .ref (R 31), .ref (R 32), .ref (R 33), .ref (R 34), .ref (R 35), .ref (R 36), .ref (R 37), .ref (R 38), .ref (R 39), .ref (R 40), .ref (R 41), .int 0])), ((R 0), .inl ((C 0), 7, .inl (fun _ => 0)))]) hD hS hA [0, 1] rfl
              refine va_calli (va_runV (As := [.int (-6)]) (rest := []) ⟨hx, hb, hml, hown, hts⟩ (k_X4_refuse6 l dC dI h0 R C H.size) (cwV 1 hts gX4_server_X4_refuse rfl rfl rfl (by decide +kernel) ⟨Nat.le_of_ble_eq_true rfl, Nat.le_of_ble_eq_true rfl⟩) ⟨pz_blind, va_recv hKc hPc (ci := 5) (q0 := 0) rfl rfl, fun U hU hW => ⟨rfl, pz_at hPc hKc hDc hU hW⟩⟩ rfl rfl hl.1 rfl (lv_room (Nat.le_of_ble_eq_true rfl)) dX4_server_81 ⟨Nat.le_of_ble_eq_true rfl, Nat.le_of_ble_eq_true rfl⟩) hS (fun q _ h => hFc q h) hFc (fun r_11 u t H locs ht hvm hw hB hz1 hk1 hS => ?_)
              obtain ⟨hP, hD⟩ := va_join (wr := [((R 11), .inl ((C 11), 8, .inl (fun _ => 0))), ((R 12), .inl ((C 12), 8, .inl (fun _ => 0))), ((R 13), .inl ((C 13), 8, .inl (fun _ => 0))), ((R 14), .inl ((C 14), 8, .inl (fun _ => 0))), ((R 15), .inl ((C 15), 8, .inl (fun _ => 0))), ((R 24), .inl ((C 24), 8, .inl (fun _ => 0)))]) (w1 := []) hP hD [0, 1] [2, 3, 4, 5, 6, 7] rfl rfl (by decide) (by decide) hk1 hFc pz_nilP pz_nilD
              have hP : va_P (dC, dI) vwCl [((R 11), .inl ((C 11), 8, .inl (fun _ => 0))), ((R 12), .inl ((C 12), 8, .inl (fun _ => 0))), ((R 13), .inl ((C 13), 8, .inl (fun _ => 0))), ((R 14), .inl ((C 14), 8, .inl (fun _ => 0))), ((R 15), .inl ((C 15), 8, .inl (fun _ => 0))), ((R 24), .inl ((C 24), 8, .inl (fun _ => 0)))] H := hP
              have hD : va_D A [((R 11), .inl ((C 11), 8, .inl (fun _ => 0))), ((R 12), .inl ((C 12), 8, .inl (fun _ => 0))), ((R 13), .inl ((C 13), 8, .inl (fun _ => 0))), ((R 14), .inl ((C 14), 8, .inl (fun _ => 0))), ((R 15), .inl ((C 15), 8, .inl (fun _ => 0))), ((R 24), .inl ((C 24), 8, .inl (fun _ => 0)))] := hD
              have hw : r_11 = (-6) := hw
              subst hw
              exact W.iret (v := (-6)) hx hb hr (fun t ht hW => ⟨⟨(-6), (), rfl, (by unfold ex_server; (repeat' split) <;> first | rfl | omega), trivial⟩, hS.F ht⟩) hS.2.2 dX4_server_84
            · skip
              have i_10 : a1.toInt ≤ 100 := by have h9 := pz_ngt c_10; exact h9
              refine lv_iload_n hx hb dX4_server_48 rfl (lv_at hl 3 rfl) ?_
              refine lv_bipush (v := 20) hx hb dX4_server_49 (by decide) ?_
              refine lv_icmp_gt (tgt := 78) hx hb dX4_server_51 (by decide) (fun c_12 => ?_) (fun c_12 => ?_)
              · skip
                have i_12 : 20 < a3.toInt := by have h9 := pz_gt c_12; exact h9
                refine lv_aload_n hx hb dX4_server_78 rfl (lv_at hl 0 rfl) ?_
                refine lv_bipush (v := (-6)) hx hb dX4_server_79 (by decide) ?_
                have hPc := hP.sub (ws' := [(h0, .inr (5, [.ref (R 0), .int 0, .int 0, .int 0, .int 0, .int 3, .int 20, .int 0, .int 0, .int 0, .int 0, .ref (R 11), .ref (R 12), .ref (R 13), .ref (R 14), .ref (R 15), .ref (R 16), .ref (R 17), .ref (R 18), .ref (R 19), .ref (R 20), .ref (R 21), .ref (R 22), .ref (R 23), .ref (R 24), .ref (R 25), .ref (R 26), .ref (R 27), .ref (R 28), .ref (R 29), .ref (R 30), .ref (R 31), .ref (R 32), .ref (R 33), .ref (R 34), .ref (R 35), .ref (R 36), .ref (R 37), .ref (R 38), .ref (R 39), .ref (R 40), .ref (R 41), .int 0])), ((R 0), .inl ((C 0), 7, .inl (fun _ => 0)))]) [0, 1] rfl
                have hDc := hD.sub (ws' := [(h0, .inr (5, [.ref (R 0), .int 0, .int 0, .int 0, .int 0, .int 3, .int 20, .int 0, .int 0, .int 0, .int 0, .ref (R 11), .ref (R 12), .ref (R 13), .ref (R 14), .ref (R 15), .ref (R 16), .ref (R 17), .ref (R 18), .ref (R 19), .ref (R 20), .ref (R 21), .ref (R 22), .ref (R 23), .ref (R 24), .ref (R 25), .ref (R 26), .ref (R 27), .ref (R 28), .ref (R 29), .ref (R 30), .ref (R 31), .ref (R 32), .ref (R 33), .ref (R 34), .ref (R 35), .ref (R 36), .ref (R 37), .ref (R 38), .ref (R 39), .ref (R 40), .ref (R 41), .int 0])), ((R 0), .inl ((C 0), 7, .inl (fun _ => 0)))]) [0, 1] (by decide) rfl
                have hKc := hK.sub (tys' := [((C 0), .int)]) [0] rfl
                have hFc := va_free (wc := [(h0, .inr (5, [.ref (R 0), .int 0, .int 0, .int 0, .int 0, .int 3, .int 20, .int 0, .int 0, .int 0, .int 0, .ref (R 11), .ref (R 12), .ref (R 13), .ref (R 14), .ref (R 15), .ref (R 16), .ref (R 17), .ref (R 18), .ref (R 19), .ref (R 20), .ref (R 21), .ref (R 22), .ref (R 23), .ref (R 24), .ref (R 25), .ref (R 26), .ref (R 27), .ref (R 28), .ref (R 29), .ref (R 30), .ref (R 31), .ref (R 32), .ref (R 33), .ref (R 34), .ref (R 35), .ref (R 36), .ref (R 37), .ref (R 38), .ref (R 39), .ref (R 40), .ref (R 41), .int 0])), ((R 0), .inl ((C 0), 7, .inl (fun _ => 0)))]) hD hS hA [0, 1] rfl
                refine va_calli (va_runV (As := [.int (-6)]) (rest := []) ⟨hx, hb, hml, hown, hts⟩ (k_X4_refuse6 l dC dI h0 R C H.size) (cwV 1 hts gX4_server_X4_refuse rfl rfl rfl (by decide +kernel) ⟨Nat.le_of_ble_eq_true rfl, Nat.le_of_ble_eq_true rfl⟩) ⟨pz_blind, va_recv hKc hPc (ci := 5) (q0 := 0) rfl rfl, fun U hU hW => ⟨rfl, pz_at hPc hKc hDc hU hW⟩⟩ rfl rfl hl.1 rfl (lv_room (Nat.le_of_ble_eq_true rfl)) dX4_server_81 ⟨Nat.le_of_ble_eq_true rfl, Nat.le_of_ble_eq_true rfl⟩) hS (fun q _ h => hFc q h) hFc (fun r_13 u t H locs ht hvm hw hB hz1 hk1 hS => ?_)
                obtain ⟨hP, hD⟩ := va_join (wr := [((R 11), .inl ((C 11), 8, .inl (fun _ => 0))), ((R 12), .inl ((C 12), 8, .inl (fun _ => 0))), ((R 13), .inl ((C 13), 8, .inl (fun _ => 0))), ((R 14), .inl ((C 14), 8, .inl (fun _ => 0))), ((R 15), .inl ((C 15), 8, .inl (fun _ => 0))), ((R 24), .inl ((C 24), 8, .inl (fun _ => 0)))]) (w1 := []) hP hD [0, 1] [2, 3, 4, 5, 6, 7] rfl rfl (by decide) (by decide) hk1 hFc pz_nilP pz_nilD
                have hP : va_P (dC, dI) vwCl [((R 11), .inl ((C 11), 8, .inl (fun _ => 0))), ((R 12), .inl ((C 12), 8, .inl (fun _ => 0))), ((R 13), .inl ((C 13), 8, .inl (fun _ => 0))), ((R 14), .inl ((C 14), 8, .inl (fun _ => 0))), ((R 15), .inl ((C 15), 8, .inl (fun _ => 0))), ((R 24), .inl ((C 24), 8, .inl (fun _ => 0)))] H := hP
                have hD : va_D A [((R 11), .inl ((C 11), 8, .inl (fun _ => 0))), ((R 12), .inl ((C 12), 8, .inl (fun _ => 0))), ((R 13), .inl ((C 13), 8, .inl (fun _ => 0))), ((R 14), .inl ((C 14), 8, .inl (fun _ => 0))), ((R 15), .inl ((C 15), 8, .inl (fun _ => 0))), ((R 24), .inl ((C 24), 8, .inl (fun _ => 0)))] := hD
                have hw : r_13 = (-6) := hw
                subst hw
                exact W.iret (v := (-6)) hx hb hr (fun t ht hW => ⟨⟨(-6), (), rfl, (by unfold ex_server; (repeat' split) <;> first | rfl | omega), trivial⟩, hS.F ht⟩) hS.2.2 dX4_server_84
              · skip
                have i_12 : a3.toInt ≤ 20 := by have h9 := pz_ngt c_12; exact h9
                refine lv_iload hx hb dX4_server_54 (lv_at hl 4 rfl) ?_
                refine lv_sipush (v := 200) hx hb dX4_server_56 (by decide) ?_
                refine lv_icmp_gt (tgt := 78) hx hb dX4_server_59 (by decide) (fun c_14 => ?_) (fun c_14 => ?_)
                · skip
                  have i_14 : 200 < a4.toInt := by have h9 := pz_gt c_14; exact h9
                  refine lv_aload_n hx hb dX4_server_78 rfl (lv_at hl 0 rfl) ?_
                  refine lv_bipush (v := (-6)) hx hb dX4_server_79 (by decide) ?_
                  have hPc := hP.sub (ws' := [(h0, .inr (5, [.ref (R 0), .int 0, .int 0, .int 0, .int 0, .int 3, .int 20, .int 0, .int 0, .int 0, .int 0, .ref (R 11), .ref (R 12), .ref (R 13), .ref (R 14), .ref (R 15), .ref (R 16), .ref (R 17), .ref (R 18), .ref (R 19), .ref (R 20), .ref (R 21), .ref (R 22), .ref (R 23), .ref (R 24), .ref (R 25), .ref (R 26), .ref (R 27), .ref (R 28), .ref (R 29), .ref (R 30), .ref (R 31), .ref (R 32), .ref (R 33), .ref (R 34), .ref (R 35), .ref (R 36), .ref (R 37), .ref (R 38), .ref (R 39), .ref (R 40), .ref (R 41), .int 0])), ((R 0), .inl ((C 0), 7, .inl (fun _ => 0)))]) [0, 1] rfl
                  have hDc := hD.sub (ws' := [(h0, .inr (5, [.ref (R 0), .int 0, .int 0, .int 0, .int 0, .int 3, .int 20, .int 0, .int 0, .int 0, .int 0, .ref (R 11), .ref (R 12), .ref (R 13), .ref (R 14), .ref (R 15), .ref (R 16), .ref (R 17), .ref (R 18), .ref (R 19), .ref (R 20), .ref (R 21), .ref (R 22), .ref (R 23), .ref (R 24), .ref (R 25), .ref (R 26), .ref (R 27), .ref (R 28), .ref (R 29), .ref (R 30), .ref (R 31), .ref (R 32), .ref (R 33), .ref (R 34), .ref (R 35), .ref (R 36), .ref (R 37), .ref (R 38), .ref (R 39), .ref (R 40), .ref (R 41), .int 0])), ((R 0), .inl ((C 0), 7, .inl (fun _ => 0)))]) [0, 1] (by decide) rfl
                  have hKc := hK.sub (tys' := [((C 0), .int)]) [0] rfl
                  have hFc := va_free (wc := [(h0, .inr (5, [.ref (R 0), .int 0, .int 0, .int 0, .int 0, .int 3, .int 20, .int 0, .int 0, .int 0, .int 0, .ref (R 11), .ref (R 12), .ref (R 13), .ref (R 14), .ref (R 15), .ref (R 16), .ref (R 17), .ref (R 18), .ref (R 19), .ref (R 20), .ref (R 21), .ref (R 22), .ref (R 23), .ref (R 24), .ref (R 25), .ref (R 26), .ref (R 27), .ref (R 28), .ref (R 29), .ref (R 30), .ref (R 31), .ref (R 32), .ref (R 33), .ref (R 34), .ref (R 35), .ref (R 36), .ref (R 37), .ref (R 38), .ref (R 39), .ref (R 40), .ref (R 41), .int 0])), ((R 0), .inl ((C 0), 7, .inl (fun _ => 0)))]) hD hS hA [0, 1] rfl
                  refine va_calli (va_runV (As := [.int (-6)]) (rest := []) ⟨hx, hb, hml, hown, hts⟩ (k_X4_refuse6 l dC dI h0 R C H.size) (cwV 1 hts gX4_server_X4_refuse rfl rfl rfl (by decide +kernel) ⟨Nat.le_of_ble_eq_true rfl, Nat.le_of_ble_eq_true rfl⟩) ⟨pz_blind, va_recv hKc hPc (ci := 5) (q0 := 0) rfl rfl, fun U hU hW => ⟨rfl, pz_at hPc hKc hDc hU hW⟩⟩ rfl rfl hl.1 rfl (lv_room (Nat.le_of_ble_eq_true rfl)) dX4_server_81 ⟨Nat.le_of_ble_eq_true rfl, Nat.le_of_ble_eq_true rfl⟩) hS (fun q _ h => hFc q h) hFc (fun r_15 u t H locs ht hvm hw hB hz1 hk1 hS => ?_)
                  obtain ⟨hP, hD⟩ := va_join (wr := [((R 11), .inl ((C 11), 8, .inl (fun _ => 0))), ((R 12), .inl ((C 12), 8, .inl (fun _ => 0))), ((R 13), .inl ((C 13), 8, .inl (fun _ => 0))), ((R 14), .inl ((C 14), 8, .inl (fun _ => 0))), ((R 15), .inl ((C 15), 8, .inl (fun _ => 0))), ((R 24), .inl ((C 24), 8, .inl (fun _ => 0)))]) (w1 := []) hP hD [0, 1] [2, 3, 4, 5, 6, 7] rfl rfl (by decide) (by decide) hk1 hFc pz_nilP pz_nilD
                  have hP : va_P (dC, dI) vwCl [((R 11), .inl ((C 11), 8, .inl (fun _ => 0))), ((R 12), .inl ((C 12), 8, .inl (fun _ => 0))), ((R 13), .inl ((C 13), 8, .inl (fun _ => 0))), ((R 14), .inl ((C 14), 8, .inl (fun _ => 0))), ((R 15), .inl ((C 15), 8, .inl (fun _ => 0))), ((R 24), .inl ((C 24), 8, .inl (fun _ => 0)))] H := hP
                  have hD : va_D A [((R 11), .inl ((C 11), 8, .inl (fun _ => 0))), ((R 12), .inl ((C 12), 8, .inl (fun _ => 0))), ((R 13), .inl ((C 13), 8, .inl (fun _ => 0))), ((R 14), .inl ((C 14), 8, .inl (fun _ => 0))), ((R 15), .inl ((C 15), 8, .inl (fun _ => 0))), ((R 24), .inl ((C 24), 8, .inl (fun _ => 0)))] := hD
                  have hw : r_15 = (-6) := hw
                  subst hw
                  exact W.iret (v := (-6)) hx hb hr (fun t ht hW => ⟨⟨(-6), (), rfl, (by unfold ex_server; (repeat' split) <;> first | rfl | omega), trivial⟩, hS.F ht⟩) hS.2.2 dX4_server_84
                · skip
                  have i_14 : a4.toInt ≤ 200 := by have h9 := pz_ngt c_14; exact h9
                  refine lv_iload hx hb dX4_server_62 (lv_at hl 5 rfl) ?_
                  refine lv_bipush (v := 20) hx hb dX4_server_64 (by decide) ?_
                  refine lv_icmp_gt (tgt := 78) hx hb dX4_server_66 (by decide) (fun c_16 => ?_) (fun c_16 => ?_)
                  · skip
                    have i_16 : 20 < a5.toInt := by have h9 := pz_gt c_16; exact h9
                    refine lv_aload_n hx hb dX4_server_78 rfl (lv_at hl 0 rfl) ?_
                    refine lv_bipush (v := (-6)) hx hb dX4_server_79 (by decide) ?_
                    have hPc := hP.sub (ws' := [(h0, .inr (5, [.ref (R 0), .int 0, .int 0, .int 0, .int 0, .int 3, .int 20, .int 0, .int 0, .int 0, .int 0, .ref (R 11), .ref (R 12), .ref (R 13), .ref (R 14), .ref (R 15), .ref (R 16), .ref (R 17), .ref (R 18), .ref (R 19), .ref (R 20), .ref (R 21), .ref (R 22), .ref (R 23), .ref (R 24), .ref (R 25), .ref (R 26), .ref (R 27), .ref (R 28), .ref (R 29), .ref (R 30), .ref (R 31), .ref (R 32), .ref (R 33), .ref (R 34), .ref (R 35), .ref (R 36), .ref (R 37), .ref (R 38), .ref (R 39), .ref (R 40), .ref (R 41), .int 0])), ((R 0), .inl ((C 0), 7, .inl (fun _ => 0)))]) [0, 1] rfl
                    have hDc := hD.sub (ws' := [(h0, .inr (5, [.ref (R 0), .int 0, .int 0, .int 0, .int 0, .int 3, .int 20, .int 0, .int 0, .int 0, .int 0, .ref (R 11), .ref (R 12), .ref (R 13), .ref (R 14), .ref (R 15), .ref (R 16), .ref (R 17), .ref (R 18), .ref (R 19), .ref (R 20), .ref (R 21), .ref (R 22), .ref (R 23), .ref (R 24), .ref (R 25), .ref (R 26), .ref (R 27), .ref (R 28), .ref (R 29), .ref (R 30), .ref (R 31), .ref (R 32), .ref (R 33), .ref (R 34), .ref (R 35), .ref (R 36), .ref (R 37), .ref (R 38), .ref (R 39), .ref (R 40), .ref (R 41), .int 0])), ((R 0), .inl ((C 0), 7, .inl (fun _ => 0)))]) [0, 1] (by decide) rfl
                    have hKc := hK.sub (tys' := [((C 0), .int)]) [0] rfl
                    have hFc := va_free (wc := [(h0, .inr (5, [.ref (R 0), .int 0, .int 0, .int 0, .int 0, .int 3, .int 20, .int 0, .int 0, .int 0, .int 0, .ref (R 11), .ref (R 12), .ref (R 13), .ref (R 14), .ref (R 15), .ref (R 16), .ref (R 17), .ref (R 18), .ref (R 19), .ref (R 20), .ref (R 21), .ref (R 22), .ref (R 23), .ref (R 24), .ref (R 25), .ref (R 26), .ref (R 27), .ref (R 28), .ref (R 29), .ref (R 30), .ref (R 31), .ref (R 32), .ref (R 33), .ref (R 34), .ref (R 35), .ref (R 36), .ref (R 37), .ref (R 38), .ref (R 39), .ref (R 40), .ref (R 41), .int 0])), ((R 0), .inl ((C 0), 7, .inl (fun _ => 0)))]) hD hS hA [0, 1] rfl
                    refine va_calli (va_runV (As := [.int (-6)]) (rest := []) ⟨hx, hb, hml, hown, hts⟩ (k_X4_refuse6 l dC dI h0 R C H.size) (cwV 1 hts gX4_server_X4_refuse rfl rfl rfl (by decide +kernel) ⟨Nat.le_of_ble_eq_true rfl, Nat.le_of_ble_eq_true rfl⟩) ⟨pz_blind, va_recv hKc hPc (ci := 5) (q0 := 0) rfl rfl, fun U hU hW => ⟨rfl, pz_at hPc hKc hDc hU hW⟩⟩ rfl rfl hl.1 rfl (lv_room (Nat.le_of_ble_eq_true rfl)) dX4_server_81 ⟨Nat.le_of_ble_eq_true rfl, Nat.le_of_ble_eq_true rfl⟩) hS (fun q _ h => hFc q h) hFc (fun r_17 u t H locs ht hvm hw hB hz1 hk1 hS => ?_)
                    obtain ⟨hP, hD⟩ := va_join (wr := [((R 11), .inl ((C 11), 8, .inl (fun _ => 0))), ((R 12), .inl ((C 12), 8, .inl (fun _ => 0))), ((R 13), .inl ((C 13), 8, .inl (fun _ => 0))), ((R 14), .inl ((C 14), 8, .inl (fun _ => 0))), ((R 15), .inl ((C 15), 8, .inl (fun _ => 0))), ((R 24), .inl ((C 24), 8, .inl (fun _ => 0)))]) (w1 := []) hP hD [0, 1] [2, 3, 4, 5, 6, 7] rfl rfl (by decide) (by decide) hk1 hFc pz_nilP pz_nilD
                    have hP : va_P (dC, dI) vwCl [((R 11), .inl ((C 11), 8, .inl (fun _ => 0))), ((R 12), .inl ((C 12), 8, .inl (fun _ => 0))), ((R 13), .inl ((C 13), 8, .inl (fun _ => 0))), ((R 14), .inl ((C 14), 8, .inl (fun _ => 0))), ((R 15), .inl ((C 15), 8, .inl (fun _ => 0))), ((R 24), .inl ((C 24), 8, .inl (fun _ => 0)))] H := hP
                    have hD : va_D A [((R 11), .inl ((C 11), 8, .inl (fun _ => 0))), ((R 12), .inl ((C 12), 8, .inl (fun _ => 0))), ((R 13), .inl ((C 13), 8, .inl (fun _ => 0))), ((R 14), .inl ((C 14), 8, .inl (fun _ => 0))), ((R 15), .inl ((C 15), 8, .inl (fun _ => 0))), ((R 24), .inl ((C 24), 8, .inl (fun _ => 0)))] := hD
                    have hw : r_17 = (-6) := hw
                    subst hw
                    exact W.iret (v := (-6)) hx hb hr (fun t ht hW => ⟨⟨(-6), (), rfl, (by unfold ex_server; (repeat' split) <;> first | rfl | omega), trivial⟩, hS.F ht⟩) hS.2.2 dX4_server_84
                  · skip
                    have i_16 : a5.toInt ≤ 20 := by have h9 := pz_ngt c_16; exact h9
                    refine lv_aload_n hx hb dX4_server_69 rfl (lv_at hl 0 rfl) ?_
                    refine va_get (D := (dC, dI)) (ci := 5) (v := .int 0) (C := RX4) (T := TX4) (N := 43) hx hb hts (fun _ h => List.mem_cons_of_mem _ (List.mem_append_right _ h)) hown hK hP 0 rfl rfl 2 (by decide) (hts (.fieldLink RX4 114 "FrontDoorModel" "servers" "I") (by decide +kernel)) (fun _ h9 => h9) rfl dX4_server_70 ?_
                    refine lv_bipush (v := 8) hx hb dX4_server_73 (by decide) ?_
                    refine lv_icmp_ne (tgt := 85) hx hb dX4_server_75 (by decide) (fun c_18 => ?_) (fun c_18 => absurd c_18 (by decide))
                    refine lv_aload_n hx hb dX4_server_85 rfl (lv_at hl 0 rfl) ?_
                    refine va_get (D := (dC, dI)) (ci := 5) (v := .int 0) (C := RX4) (T := TX4) (N := 43) hx hb hts (fun _ h => List.mem_cons_of_mem _ (List.mem_append_right _ h)) hown hK hP 0 rfl rfl 2 (by decide) (hts (.fieldLink RX4 114 "FrontDoorModel" "servers" "I") (by decide +kernel)) (fun _ h9 => h9) rfl dX4_server_86 ?_
                    refine lv_istore (lv' := [(6, .int 0), (0, .ref h0), (1, .int a1), (2, .int a2), (3, .int a3), (4, .int a4), (5, .int a5)]) hx hb dX4_server_89 hl (by decide) rfl (fun ls hl => ?_)
                    refine lv_aload_n hx hb dX4_server_91 rfl (lv_at hl 1 rfl) ?_
                    refine lv_dup hx hb dX4_server_92 rfl ?_
                    refine va_get (D := (dC, dI)) (ci := 5) (v := .int 0) (C := RX4) (T := TX4) (N := 43) hx hb hts (fun _ h => List.mem_cons_of_mem _ (List.mem_append_right _ h)) hown hK hP 0 rfl rfl 2 (by decide) (hts (.fieldLink RX4 114 "FrontDoorModel" "servers" "I") (by decide +kernel)) (fun _ h9 => h9) rfl dX4_server_93 ?_
                    refine lv_iconst (v := 1) hx hb dX4_server_96 (by decide) ?_
                    refine lv_iadd hx hb dX4_server_97 ?_
                    refine lv_topi (fun x_19 ex_19 => ?_)
                    obtain rfl : x_19 = 1 := ex_19.trans (by decide)
                    refine va_put (D := (dC, dI)) (ci := 5) (v := .int 1) (ty := .int) (C := RX4) (T := TX4) (N := 43) hx hb hts (fun _ h => List.mem_cons_of_mem _ (List.mem_append_right _ h)) tyX4 tyX4_ok nmX4 hown hK hP hD hS 0 rfl rfl 2 (by decide) (hts (.fieldLink RX4 114 "FrontDoorModel" "servers" "I") (by decide +kernel)) (fun _ h9 => h9) rfl (by decide +kernel) rfl rfl (Nat.le_of_ble_eq_true rfl) dX4_server_98 (fun H locs hP hD hS => ?_)
                    have hP : va_P (dC, dI) vwCl [(h0, .inr (5, [.ref (R 0), .int 0, .int 1, .int 0, .int 0, .int 3, .int 20, .int 0, .int 0, .int 0, .int 0, .ref (R 11), .ref (R 12), .ref (R 13), .ref (R 14), .ref (R 15), .ref (R 16), .ref (R 17), .ref (R 18), .ref (R 19), .ref (R 20), .ref (R 21), .ref (R 22), .ref (R 23), .ref (R 24), .ref (R 25), .ref (R 26), .ref (R 27), .ref (R 28), .ref (R 29), .ref (R 30), .ref (R 31), .ref (R 32), .ref (R 33), .ref (R 34), .ref (R 35), .ref (R 36), .ref (R 37), .ref (R 38), .ref (R 39), .ref (R 40), .ref (R 41), .int 0])), ((R 0), .inl ((C 0), 7, .inl (fun _ => 0))), ((R 11), .inl ((C 11), 8, .inl (fun _ => 0))), ((R 12), .inl ((C 12), 8, .inl (fun _ => 0))), ((R 13), .inl ((C 13), 8, .inl (fun _ => 0))), ((R 14), .inl ((C 14), 8, .inl (fun _ => 0))), ((R 15), .inl ((C 15), 8, .inl (fun _ => 0))), ((R 24), .inl ((C 24), 8, .inl (fun _ => 0)))] H := hP
                    have hD : va_D A [(h0, .inr (5, [.ref (R 0), .int 0, .int 1, .int 0, .int 0, .int 3, .int 20, .int 0, .int 0, .int 0, .int 0, .ref (R 11), .ref (R 12), .ref (R 13), .ref (R 14), .ref (R 15), .ref (R 16), .ref (R 17), .ref (R 18), .ref (R 19), .ref (R 20), .ref (R 21), .ref (R 22), .ref (R 23), .ref (R 24), .ref (R 25), .ref (R 26), .ref (R 27), .ref (R 28), .ref (R 29), .ref (R 30), .ref (R 31), .ref (R 32), .ref (R 33), .ref (R 34), .ref (R 35), .ref (R 36), .ref (R 37), .ref (R 38), .ref (R 39), .ref (R 40), .ref (R 41), .int 0])), ((R 0), .inl ((C 0), 7, .inl (fun _ => 0))), ((R 11), .inl ((C 11), 8, .inl (fun _ => 0))), ((R 12), .inl ((C 12), 8, .inl (fun _ => 0))), ((R 13), .inl ((C 13), 8, .inl (fun _ => 0))), ((R 14), .inl ((C 14), 8, .inl (fun _ => 0))), ((R 15), .inl ((C 15), 8, .inl (fun _ => 0))), ((R 24), .inl ((C 24), 8, .inl (fun _ => 0)))] := hD
                    refine lv_aload_n hx hb dX4_server_101 rfl (lv_at hl 1 rfl) ?_
                    refine va_get (D := (dC, dI)) (ci := 5) (v := .ref (R 11)) (C := RX4) (T := TX4) (N := 43) hx hb hts (fun _ h => List.mem_cons_of_mem _ (List.mem_append_right _ h)) hown hK hP 0 rfl rfl 11 (by decide) (hts (.fieldLink RX4 20 "FrontDoorModel" "weight" "[I") (by decide +kernel)) (fun _ h9 => h9) rfl dX4_server_102 ?_
                    refine lv_iload hx hb dX4_server_105 (lv_at hl 0 rfl) ?_
                    refine lv_iload_n hx hb dX4_server_107 rfl (lv_at hl 2 rfl) ?_
                    refine va_iast hx hb hK hP hD hS 2 1 rfl rfl (by unfold vp_in; decide) dX4_server_108 (fun H locs hP hD hS => ?_)
                    have hP : va_P (dC, dI) vwCl [(h0, .inr (5, [.ref (R 0), .int 0, .int 1, .int 0, .int 0, .int 3, .int 20, .int 0, .int 0, .int 0, .int 0, .ref (R 11), .ref (R 12), .ref (R 13), .ref (R 14), .ref (R 15), .ref (R 16), .ref (R 17), .ref (R 18), .ref (R 19), .ref (R 20), .ref (R 21), .ref (R 22), .ref (R 23), .ref (R 24), .ref (R 25), .ref (R 26), .ref (R 27), .ref (R 28), .ref (R 29), .ref (R 30), .ref (R 31), .ref (R 32), .ref (R 33), .ref (R 34), .ref (R 35), .ref (R 36), .ref (R 37), .ref (R 38), .ref (R 39), .ref (R 40), .ref (R 41), .int 0])), ((R 0), .inl ((C 0), 7, .inl (fun _ => 0))), ((R 11), .inl ((C 11), 8, .inl (upd (fun _ => 0) (Int32.toNatClampNeg 0) a1))), ((R 12), .inl ((C 12), 8, .inl (fun _ => 0))), ((R 13), .inl ((C 13), 8, .inl (fun _ => 0))), ((R 14), .inl ((C 14), 8, .inl (fun _ => 0))), ((R 15), .inl ((C 15), 8, .inl (fun _ => 0))), ((R 24), .inl ((C 24), 8, .inl (fun _ => 0)))] H := hP
                    have hD : va_D A [(h0, .inr (5, [.ref (R 0), .int 0, .int 1, .int 0, .int 0, .int 3, .int 20, .int 0, .int 0, .int 0, .int 0, .ref (R 11), .ref (R 12), .ref (R 13), .ref (R 14), .ref (R 15), .ref (R 16), .ref (R 17), .ref (R 18), .ref (R 19), .ref (R 20), .ref (R 21), .ref (R 22), .ref (R 23), .ref (R 24), .ref (R 25), .ref (R 26), .ref (R 27), .ref (R 28), .ref (R 29), .ref (R 30), .ref (R 31), .ref (R 32), .ref (R 33), .ref (R 34), .ref (R 35), .ref (R 36), .ref (R 37), .ref (R 38), .ref (R 39), .ref (R 40), .ref (R 41), .int 0])), ((R 0), .inl ((C 0), 7, .inl (fun _ => 0))), ((R 11), .inl ((C 11), 8, .inl (upd (fun _ => 0) (Int32.toNatClampNeg 0) a1))), ((R 12), .inl ((C 12), 8, .inl (fun _ => 0))), ((R 13), .inl ((C 13), 8, .inl (fun _ => 0))), ((R 14), .inl ((C 14), 8, .inl (fun _ => 0))), ((R 15), .inl ((C 15), 8, .inl (fun _ => 0))), ((R 24), .inl ((C 24), 8, .inl (fun _ => 0)))] := hD
                    refine lv_aload_n hx hb dX4_server_109 rfl (lv_at hl 1 rfl) ?_
                    refine va_get (D := (dC, dI)) (ci := 5) (v := .ref (R 12)) (C := RX4) (T := TX4) (N := 43) hx hb hts (fun _ h => List.mem_cons_of_mem _ (List.mem_append_right _ h)) hown hK hP 0 rfl rfl 12 (by decide) (hts (.fieldLink RX4 23 "FrontDoorModel" "zone" "[I") (by decide +kernel)) (fun _ h9 => h9) rfl dX4_server_110 ?_
                    refine lv_iload hx hb dX4_server_113 (lv_at hl 0 rfl) ?_
                    refine lv_iload_n hx hb dX4_server_115 rfl (lv_at hl 3 rfl) ?_
                    refine va_iast hx hb hK hP hD hS 3 2 rfl rfl (by unfold vp_in; decide) dX4_server_116 (fun H locs hP hD hS => ?_)
                    have hP : va_P (dC, dI) vwCl [(h0, .inr (5, [.ref (R 0), .int 0, .int 1, .int 0, .int 0, .int 3, .int 20, .int 0, .int 0, .int 0, .int 0, .ref (R 11), .ref (R 12), .ref (R 13), .ref (R 14), .ref (R 15), .ref (R 16), .ref (R 17), .ref (R 18), .ref (R 19), .ref (R 20), .ref (R 21), .ref (R 22), .ref (R 23), .ref (R 24), .ref (R 25), .ref (R 26), .ref (R 27), .ref (R 28), .ref (R 29), .ref (R 30), .ref (R 31), .ref (R 32), .ref (R 33), .ref (R 34), .ref (R 35), .ref (R 36), .ref (R 37), .ref (R 38), .ref (R 39), .ref (R 40), .ref (R 41), .int 0])), ((R 0), .inl ((C 0), 7, .inl (fun _ => 0))), ((R 11), .inl ((C 11), 8, .inl (upd (fun _ => 0) (Int32.toNatClampNeg 0) a1))), ((R 12), .inl ((C 12), 8, .inl (upd (fun _ => 0) (Int32.toNatClampNeg 0) a2))), ((R 13), .inl ((C 13), 8, .inl (fun _ => 0))), ((R 14), .inl ((C 14), 8, .inl (fun _ => 0))), ((R 15), .inl ((C 15), 8, .inl (fun _ => 0))), ((R 24), .inl ((C 24), 8, .inl (fun _ => 0)))] H := hP
                    have hD : va_D A [(h0, .inr (5, [.ref (R 0), .int 0, .int 1, .int 0, .int 0, .int 3, .int 20, .int 0, .int 0, .int 0, .int 0, .ref (R 11), .ref (R 12), .ref (R 13), .ref (R 14), .ref (R 15), .ref (R 16), .ref (R 17), .ref (R 18), .ref (R 19), .ref (R 20), .ref (R 21), .ref (R 22), .ref (R 23), .ref (R 24), .ref (R 25), .ref (R 26), .ref (R 27), .ref (R 28), .ref (R 29), .ref (R 30), .ref (R 31), .ref (R 32), .ref (R 33), .ref (R 34), .ref (R 35), .ref (R 36), .ref (R 37), .ref (R 38), .ref (R 39), .ref (R 40), .ref (R 41), .int 0])), ((R 0), .inl ((C 0), 7, .inl (fun _ => 0))), ((R 11), .inl ((C 11), 8, .inl (upd (fun _ => 0) (Int32.toNatClampNeg 0) a1))), ((R 12), .inl ((C 12), 8, .inl (upd (fun _ => 0) (Int32.toNatClampNeg 0) a2))), ((R 13), .inl ((C 13), 8, .inl (fun _ => 0))), ((R 14), .inl ((C 14), 8, .inl (fun _ => 0))), ((R 15), .inl ((C 15), 8, .inl (fun _ => 0))), ((R 24), .inl ((C 24), 8, .inl (fun _ => 0)))] := hD
                    refine lv_aload_n hx hb dX4_server_117 rfl (lv_at hl 1 rfl) ?_
                    refine va_get (D := (dC, dI)) (ci := 5) (v := .ref (R 13)) (C := RX4) (T := TX4) (N := 43) hx hb hts (fun _ h => List.mem_cons_of_mem _ (List.mem_append_right _ h)) hown hK hP 0 rfl rfl 13 (by decide) (hts (.fieldLink RX4 26 "FrontDoorModel" "room" "[I") (by decide +kernel)) (fun _ h9 => h9) rfl dX4_server_118 ?_
                    refine lv_iload hx hb dX4_server_121 (lv_at hl 0 rfl) ?_
                    refine lv_iload_n hx hb dX4_server_123 rfl (lv_at hl 4 rfl) ?_
                    refine va_iast hx hb hK hP hD hS 4 3 rfl rfl (by unfold vp_in; decide) dX4_server_124 (fun H locs hP hD hS => ?_)
                    have hP : va_P (dC, dI) vwCl [(h0, .inr (5, [.ref (R 0), .int 0, .int 1, .int 0, .int 0, .int 3, .int 20, .int 0, .int 0, .int 0, .int 0, .ref (R 11), .ref (R 12), .ref (R 13), .ref (R 14), .ref (R 15), .ref (R 16), .ref (R 17), .ref (R 18), .ref (R 19), .ref (R 20), .ref (R 21), .ref (R 22), .ref (R 23), .ref (R 24), .ref (R 25), .ref (R 26), .ref (R 27), .ref (R 28), .ref (R 29), .ref (R 30), .ref (R 31), .ref (R 32), .ref (R 33), .ref (R 34), .ref (R 35), .ref (R 36), .ref (R 37), .ref (R 38), .ref (R 39), .ref (R 40), .ref (R 41), .int 0])), ((R 0), .inl ((C 0), 7, .inl (fun _ => 0))), ((R 11), .inl ((C 11), 8, .inl (upd (fun _ => 0) (Int32.toNatClampNeg 0) a1))), ((R 12), .inl ((C 12), 8, .inl (upd (fun _ => 0) (Int32.toNatClampNeg 0) a2))), ((R 13), .inl ((C 13), 8, .inl (upd (fun _ => 0) (Int32.toNatClampNeg 0) a3))), ((R 14), .inl ((C 14), 8, .inl (fun _ => 0))), ((R 15), .inl ((C 15), 8, .inl (fun _ => 0))), ((R 24), .inl ((C 24), 8, .inl (fun _ => 0)))] H := hP
                    have hD : va_D A [(h0, .inr (5, [.ref (R 0), .int 0, .int 1, .int 0, .int 0, .int 3, .int 20, .int 0, .int 0, .int 0, .int 0, .ref (R 11), .ref (R 12), .ref (R 13), .ref (R 14), .ref (R 15), .ref (R 16), .ref (R 17), .ref (R 18), .ref (R 19), .ref (R 20), .ref (R 21), .ref (R 22), .ref (R 23), .ref (R 24), .ref (R 25), .ref (R 26), .ref (R 27), .ref (R 28), .ref (R 29), .ref (R 30), .ref (R 31), .ref (R 32), .ref (R 33), .ref (R 34), .ref (R 35), .ref (R 36), .ref (R 37), .ref (R 38), .ref (R 39), .ref (R 40), .ref (R 41), .int 0])), ((R 0), .inl ((C 0), 7, .inl (fun _ => 0))), ((R 11), .inl ((C 11), 8, .inl (upd (fun _ => 0) (Int32.toNatClampNeg 0) a1))), ((R 12), .inl ((C 12), 8, .inl (upd (fun _ => 0) (Int32.toNatClampNeg 0) a2))), ((R 13), .inl ((C 13), 8, .inl (upd (fun _ => 0) (Int32.toNatClampNeg 0) a3))), ((R 14), .inl ((C 14), 8, .inl (fun _ => 0))), ((R 15), .inl ((C 15), 8, .inl (fun _ => 0))), ((R 24), .inl ((C 24), 8, .inl (fun _ => 0)))] := hD
                    refine lv_aload_n hx hb dX4_server_125 rfl (lv_at hl 1 rfl) ?_
                    refine va_get (D := (dC, dI)) (ci := 5) (v := .ref (R 14)) (C := RX4) (T := TX4) (N := 43) hx hb hts (fun _ h => List.mem_cons_of_mem _ (List.mem_append_right _ h)) hown hK hP 0 rfl rfl 14 (by decide) (hts (.fieldLink RX4 29 "FrontDoorModel" "pace" "[I") (by decide +kernel)) (fun _ h9 => h9) rfl dX4_server_126 ?_
                    refine lv_iload hx hb dX4_server_129 (lv_at hl 0 rfl) ?_
                    refine lv_iload hx hb dX4_server_131 (lv_at hl 5 rfl) ?_
                    refine va_iast hx hb hK hP hD hS 5 4 rfl rfl (by unfold vp_in; decide) dX4_server_133 (fun H locs hP hD hS => ?_)
                    have hP : va_P (dC, dI) vwCl [(h0, .inr (5, [.ref (R 0), .int 0, .int 1, .int 0, .int 0, .int 3, .int 20, .int 0, .int 0, .int 0, .int 0, .ref (R 11), .ref (R 12), .ref (R 13), .ref (R 14), .ref (R 15), .ref (R 16), .ref (R 17), .ref (R 18), .ref (R 19), .ref (R 20), .ref (R 21), .ref (R 22), .ref (R 23), .ref (R 24), .ref (R 25), .ref (R 26), .ref (R 27), .ref (R 28), .ref (R 29), .ref (R 30), .ref (R 31), .ref (R 32), .ref (R 33), .ref (R 34), .ref (R 35), .ref (R 36), .ref (R 37), .ref (R 38), .ref (R 39), .ref (R 40), .ref (R 41), .int 0])), ((R 0), .inl ((C 0), 7, .inl (fun _ => 0))), ((R 11), .inl ((C 11), 8, .inl (upd (fun _ => 0) (Int32.toNatClampNeg 0) a1))), ((R 12), .inl ((C 12), 8, .inl (upd (fun _ => 0) (Int32.toNatClampNeg 0) a2))), ((R 13), .inl ((C 13), 8, .inl (upd (fun _ => 0) (Int32.toNatClampNeg 0) a3))), ((R 14), .inl ((C 14), 8, .inl (upd (fun _ => 0) (Int32.toNatClampNeg 0) a4))), ((R 15), .inl ((C 15), 8, .inl (fun _ => 0))), ((R 24), .inl ((C 24), 8, .inl (fun _ => 0)))] H := hP
                    have hD : va_D A [(h0, .inr (5, [.ref (R 0), .int 0, .int 1, .int 0, .int 0, .int 3, .int 20, .int 0, .int 0, .int 0, .int 0, .ref (R 11), .ref (R 12), .ref (R 13), .ref (R 14), .ref (R 15), .ref (R 16), .ref (R 17), .ref (R 18), .ref (R 19), .ref (R 20), .ref (R 21), .ref (R 22), .ref (R 23), .ref (R 24), .ref (R 25), .ref (R 26), .ref (R 27), .ref (R 28), .ref (R 29), .ref (R 30), .ref (R 31), .ref (R 32), .ref (R 33), .ref (R 34), .ref (R 35), .ref (R 36), .ref (R 37), .ref (R 38), .ref (R 39), .ref (R 40), .ref (R 41), .int 0])), ((R 0), .inl ((C 0), 7, .inl (fun _ => 0))), ((R 11), .inl ((C 11), 8, .inl (upd (fun _ => 0) (Int32.toNatClampNeg 0) a1))), ((R 12), .inl ((C 12), 8, .inl (upd (fun _ => 0) (Int32.toNatClampNeg 0) a2))), ((R 13), .inl ((C 13), 8, .inl (upd (fun _ => 0) (Int32.toNatClampNeg 0) a3))), ((R 14), .inl ((C 14), 8, .inl (upd (fun _ => 0) (Int32.toNatClampNeg 0) a4))), ((R 15), .inl ((C 15), 8, .inl (fun _ => 0))), ((R 24), .inl ((C 24), 8, .inl (fun _ => 0)))] := hD
                    refine lv_aload_n hx hb dX4_server_134 rfl (lv_at hl 1 rfl) ?_
                    refine va_get (D := (dC, dI)) (ci := 5) (v := .ref (R 15)) (C := RX4) (T := TX4) (N := 43) hx hb hts (fun _ h => List.mem_cons_of_mem _ (List.mem_append_right _ h)) hown hK hP 0 rfl rfl 15 (by decide) (hts (.fieldLink RX4 32 "FrontDoorModel" "breaks" "[I") (by decide +kernel)) (fun _ h9 => h9) rfl dX4_server_135 ?_
                    refine lv_iload hx hb dX4_server_138 (lv_at hl 0 rfl) ?_
                    refine lv_iload hx hb dX4_server_140 (lv_at hl 6 rfl) ?_
                    refine va_iast hx hb hK hP hD hS 6 5 rfl rfl (by unfold vp_in; decide) dX4_server_142 (fun H locs hP hD hS => ?_)
                    have hP : va_P (dC, dI) vwCl [(h0, .inr (5, [.ref (R 0), .int 0, .int 1, .int 0, .int 0, .int 3, .int 20, .int 0, .int 0, .int 0, .int 0, .ref (R 11), .ref (R 12), .ref (R 13), .ref (R 14), .ref (R 15), .ref (R 16), .ref (R 17), .ref (R 18), .ref (R 19), .ref (R 20), .ref (R 21), .ref (R 22), .ref (R 23), .ref (R 24), .ref (R 25), .ref (R 26), .ref (R 27), .ref (R 28), .ref (R 29), .ref (R 30), .ref (R 31), .ref (R 32), .ref (R 33), .ref (R 34), .ref (R 35), .ref (R 36), .ref (R 37), .ref (R 38), .ref (R 39), .ref (R 40), .ref (R 41), .int 0])), ((R 0), .inl ((C 0), 7, .inl (fun _ => 0))), ((R 11), .inl ((C 11), 8, .inl (upd (fun _ => 0) (Int32.toNatClampNeg 0) a1))), ((R 12), .inl ((C 12), 8, .inl (upd (fun _ => 0) (Int32.toNatClampNeg 0) a2))), ((R 13), .inl ((C 13), 8, .inl (upd (fun _ => 0) (Int32.toNatClampNeg 0) a3))), ((R 14), .inl ((C 14), 8, .inl (upd (fun _ => 0) (Int32.toNatClampNeg 0) a4))), ((R 15), .inl ((C 15), 8, .inl (upd (fun _ => 0) (Int32.toNatClampNeg 0) a5))), ((R 24), .inl ((C 24), 8, .inl (fun _ => 0)))] H := hP
                    have hD : va_D A [(h0, .inr (5, [.ref (R 0), .int 0, .int 1, .int 0, .int 0, .int 3, .int 20, .int 0, .int 0, .int 0, .int 0, .ref (R 11), .ref (R 12), .ref (R 13), .ref (R 14), .ref (R 15), .ref (R 16), .ref (R 17), .ref (R 18), .ref (R 19), .ref (R 20), .ref (R 21), .ref (R 22), .ref (R 23), .ref (R 24), .ref (R 25), .ref (R 26), .ref (R 27), .ref (R 28), .ref (R 29), .ref (R 30), .ref (R 31), .ref (R 32), .ref (R 33), .ref (R 34), .ref (R 35), .ref (R 36), .ref (R 37), .ref (R 38), .ref (R 39), .ref (R 40), .ref (R 41), .int 0])), ((R 0), .inl ((C 0), 7, .inl (fun _ => 0))), ((R 11), .inl ((C 11), 8, .inl (upd (fun _ => 0) (Int32.toNatClampNeg 0) a1))), ((R 12), .inl ((C 12), 8, .inl (upd (fun _ => 0) (Int32.toNatClampNeg 0) a2))), ((R 13), .inl ((C 13), 8, .inl (upd (fun _ => 0) (Int32.toNatClampNeg 0) a3))), ((R 14), .inl ((C 14), 8, .inl (upd (fun _ => 0) (Int32.toNatClampNeg 0) a4))), ((R 15), .inl ((C 15), 8, .inl (upd (fun _ => 0) (Int32.toNatClampNeg 0) a5))), ((R 24), .inl ((C 24), 8, .inl (fun _ => 0)))] := hD
                    refine lv_aload_n hx hb dX4_server_143 rfl (lv_at hl 1 rfl) ?_
                    refine va_get (D := (dC, dI)) (ci := 5) (v := .ref (R 24)) (C := RX4) (T := TX4) (N := 43) hx hb hts (fun _ h => List.mem_cons_of_mem _ (List.mem_append_right _ h)) hown hK hP 0 rfl rfl 24 (by decide) (hts (.fieldLink RX4 59 "FrontDoorModel" "penalty" "[I") (by decide +kernel)) (fun _ h9 => h9) rfl dX4_server_144 ?_
                    refine lv_iload hx hb dX4_server_147 (lv_at hl 0 rfl) ?_
                    refine lv_bipush (v := 10) hx hb dX4_server_149 (by decide) ?_
                    refine va_iast hx hb hK hP hD hS 7 6 rfl rfl (by unfold vp_in; decide) dX4_server_151 (fun H locs hP hD hS => ?_)
                    have hP : va_P (dC, dI) vwCl [(h0, .inr (5, [.ref (R 0), .int 0, .int 1, .int 0, .int 0, .int 3, .int 20, .int 0, .int 0, .int 0, .int 0, .ref (R 11), .ref (R 12), .ref (R 13), .ref (R 14), .ref (R 15), .ref (R 16), .ref (R 17), .ref (R 18), .ref (R 19), .ref (R 20), .ref (R 21), .ref (R 22), .ref (R 23), .ref (R 24), .ref (R 25), .ref (R 26), .ref (R 27), .ref (R 28), .ref (R 29), .ref (R 30), .ref (R 31), .ref (R 32), .ref (R 33), .ref (R 34), .ref (R 35), .ref (R 36), .ref (R 37), .ref (R 38), .ref (R 39), .ref (R 40), .ref (R 41), .int 0])), ((R 0), .inl ((C 0), 7, .inl (fun _ => 0))), ((R 11), .inl ((C 11), 8, .inl (upd (fun _ => 0) (Int32.toNatClampNeg 0) a1))), ((R 12), .inl ((C 12), 8, .inl (upd (fun _ => 0) (Int32.toNatClampNeg 0) a2))), ((R 13), .inl ((C 13), 8, .inl (upd (fun _ => 0) (Int32.toNatClampNeg 0) a3))), ((R 14), .inl ((C 14), 8, .inl (upd (fun _ => 0) (Int32.toNatClampNeg 0) a4))), ((R 15), .inl ((C 15), 8, .inl (upd (fun _ => 0) (Int32.toNatClampNeg 0) a5))), ((R 24), .inl ((C 24), 8, .inl (upd (fun _ => 0) (Int32.toNatClampNeg 0) 10)))] H := hP
                    have hD : va_D A [(h0, .inr (5, [.ref (R 0), .int 0, .int 1, .int 0, .int 0, .int 3, .int 20, .int 0, .int 0, .int 0, .int 0, .ref (R 11), .ref (R 12), .ref (R 13), .ref (R 14), .ref (R 15), .ref (R 16), .ref (R 17), .ref (R 18), .ref (R 19), .ref (R 20), .ref (R 21), .ref (R 22), .ref (R 23), .ref (R 24), .ref (R 25), .ref (R 26), .ref (R 27), .ref (R 28), .ref (R 29), .ref (R 30), .ref (R 31), .ref (R 32), .ref (R 33), .ref (R 34), .ref (R 35), .ref (R 36), .ref (R 37), .ref (R 38), .ref (R 39), .ref (R 40), .ref (R 41), .int 0])), ((R 0), .inl ((C 0), 7, .inl (fun _ => 0))), ((R 11), .inl ((C 11), 8, .inl (upd (fun _ => 0) (Int32.toNatClampNeg 0) a1))), ((R 12), .inl ((C 12), 8, .inl (upd (fun _ => 0) (Int32.toNatClampNeg 0) a2))), ((R 13), .inl ((C 13), 8, .inl (upd (fun _ => 0) (Int32.toNatClampNeg 0) a3))), ((R 14), .inl ((C 14), 8, .inl (upd (fun _ => 0) (Int32.toNatClampNeg 0) a4))), ((R 15), .inl ((C 15), 8, .inl (upd (fun _ => 0) (Int32.toNatClampNeg 0) a5))), ((R 24), .inl ((C 24), 8, .inl (upd (fun _ => 0) (Int32.toNatClampNeg 0) 10)))] := hD
                    refine lv_iload hx hb dX4_server_152 (lv_at hl 0 rfl) ?_
                    exact W.iret (v := 0) hx hb hr (fun t ht hW => ⟨⟨0, (), rfl, (by unfold ex_server; (repeat' split) <;> first | rfl | omega), trivial⟩, hS.F ht⟩) hS.2.2 dX4_server_154
          · skip
            have i_9 : a5.toInt < 0 := by have h9 := pz_nge c_9; exact h9
            refine lv_aload_n hx hb dX4_server_35 rfl (lv_at hl 0 rfl) ?_
            refine lv_bipush (v := (-4)) hx hb dX4_server_36 (by decide) ?_
            have hPc := hP.sub (ws' := [(h0, .inr (5, [.ref (R 0), .int 0, .int 0, .int 0, .int 0, .int 3, .int 20, .int 0, .int 0, .int 0, .int 0, .ref (R 11), .ref (R 12), .ref (R 13), .ref (R 14), .ref (R 15), .ref (R 16), .ref (R 17), .ref (R 18), .ref (R 19), .ref (R 20), .ref (R 21), .ref (R 22), .ref (R 23), .ref (R 24), .ref (R 25), .ref (R 26), .ref (R 27), .ref (R 28), .ref (R 29), .ref (R 30), .ref (R 31), .ref (R 32), .ref (R 33), .ref (R 34), .ref (R 35), .ref (R 36), .ref (R 37), .ref (R 38), .ref (R 39), .ref (R 40), .ref (R 41), .int 0])), ((R 0), .inl ((C 0), 7, .inl (fun _ => 0)))]) [0, 1] rfl
            have hDc := hD.sub (ws' := [(h0, .inr (5, [.ref (R 0), .int 0, .int 0, .int 0, .int 0, .int 3, .int 20, .int 0, .int 0, .int 0, .int 0, .ref (R 11), .ref (R 12), .ref (R 13), .ref (R 14), .ref (R 15), .ref (R 16), .ref (R 17), .ref (R 18), .ref (R 19), .ref (R 20), .ref (R 21), .ref (R 22), .ref (R 23), .ref (R 24), .ref (R 25), .ref (R 26), .ref (R 27), .ref (R 28), .ref (R 29), .ref (R 30), .ref (R 31), .ref (R 32), .ref (R 33), .ref (R 34), .ref (R 35), .ref (R 36), .ref (R 37), .ref (R 38), .ref (R 39), .ref (R 40), .ref (R 41), .int 0])), ((R 0), .inl ((C 0), 7, .inl (fun _ => 0)))]) [0, 1] (by decide) rfl
            have hKc := hK.sub (tys' := [((C 0), .int)]) [0] rfl
            have hFc := va_free (wc := [(h0, .inr (5, [.ref (R 0), .int 0, .int 0, .int 0, .int 0, .int 3, .int 20, .int 0, .int 0, .int 0, .int 0, .ref (R 11), .ref (R 12), .ref (R 13), .ref (R 14), .ref (R 15), .ref (R 16), .ref (R 17), .ref (R 18), .ref (R 19), .ref (R 20), .ref (R 21), .ref (R 22), .ref (R 23), .ref (R 24), .ref (R 25), .ref (R 26), .ref (R 27), .ref (R 28), .ref (R 29), .ref (R 30), .ref (R 31), .ref (R 32), .ref (R 33), .ref (R 34), .ref (R 35), .ref (R 36), .ref (R 37), .ref (R 38), .ref (R 39), .ref (R 40), .ref (R 41), .int 0])), ((R 0), .inl ((C 0), 7, .inl (fun _ => 0)))]) hD hS hA [0, 1] rfl
            refine va_calli (va_runV (As := [.int (-4)]) (rest := []) ⟨hx, hb, hml, hown, hts⟩ (k_X4_refuse4 l dC dI h0 R C H.size) (cwV 1 hts gX4_server_X4_refuse rfl rfl rfl (by decide +kernel) ⟨Nat.le_of_ble_eq_true rfl, Nat.le_of_ble_eq_true rfl⟩) ⟨pz_blind, va_recv hKc hPc (ci := 5) (q0 := 0) rfl rfl, fun U hU hW => ⟨rfl, pz_at hPc hKc hDc hU hW⟩⟩ rfl rfl hl.1 rfl (lv_room (Nat.le_of_ble_eq_true rfl)) dX4_server_38 ⟨Nat.le_of_ble_eq_true rfl, Nat.le_of_ble_eq_true rfl⟩) hS (fun q _ h => hFc q h) hFc (fun r_20 u t H locs ht hvm hw hB hz1 hk1 hS => ?_)
            obtain ⟨hP, hD⟩ := va_join (wr := [((R 11), .inl ((C 11), 8, .inl (fun _ => 0))), ((R 12), .inl ((C 12), 8, .inl (fun _ => 0))), ((R 13), .inl ((C 13), 8, .inl (fun _ => 0))), ((R 14), .inl ((C 14), 8, .inl (fun _ => 0))), ((R 15), .inl ((C 15), 8, .inl (fun _ => 0))), ((R 24), .inl ((C 24), 8, .inl (fun _ => 0)))]) (w1 := []) hP hD [0, 1] [2, 3, 4, 5, 6, 7] rfl rfl (by decide) (by decide) hk1 hFc pz_nilP pz_nilD
            have hP : va_P (dC, dI) vwCl [((R 11), .inl ((C 11), 8, .inl (fun _ => 0))), ((R 12), .inl ((C 12), 8, .inl (fun _ => 0))), ((R 13), .inl ((C 13), 8, .inl (fun _ => 0))), ((R 14), .inl ((C 14), 8, .inl (fun _ => 0))), ((R 15), .inl ((C 15), 8, .inl (fun _ => 0))), ((R 24), .inl ((C 24), 8, .inl (fun _ => 0)))] H := hP
            have hD : va_D A [((R 11), .inl ((C 11), 8, .inl (fun _ => 0))), ((R 12), .inl ((C 12), 8, .inl (fun _ => 0))), ((R 13), .inl ((C 13), 8, .inl (fun _ => 0))), ((R 14), .inl ((C 14), 8, .inl (fun _ => 0))), ((R 15), .inl ((C 15), 8, .inl (fun _ => 0))), ((R 24), .inl ((C 24), 8, .inl (fun _ => 0)))] := hD
            have hw : r_20 = (-4) := hw
            subst hw
            exact W.iret (v := (-4)) hx hb hr (fun t ht hW => ⟨⟨(-4), (), rfl, (by unfold ex_server; (repeat' split) <;> first | rfl | omega), trivial⟩, hS.F ht⟩) hS.2.2 dX4_server_41
  · skip
    have hr9 : r_1 = 0 := hr9
    subst hr9
    have f_1_0 : (a2.toInt < 0 ∨ 4 ≤ a2.toInt) := f_1_0
    refine lv_if_ne (tgt := 14) hx hb dX4_server_5 (by decide) (fun c_21 => absurd c_21 (by decide)) (fun c_21 => ?_)
    refine lv_aload_n hx hb dX4_server_8 rfl (lv_at hl 0 rfl) ?_
    refine lv_iconst (v := (-1)) hx hb dX4_server_9 (by decide) ?_
    have hPc := hP.sub (ws' := [(h0, .inr (5, [.ref (R 0), .int 0, .int 0, .int 0, .int 0, .int 3, .int 20, .int 0, .int 0, .int 0, .int 0, .ref (R 11), .ref (R 12), .ref (R 13), .ref (R 14), .ref (R 15), .ref (R 16), .ref (R 17), .ref (R 18), .ref (R 19), .ref (R 20), .ref (R 21), .ref (R 22), .ref (R 23), .ref (R 24), .ref (R 25), .ref (R 26), .ref (R 27), .ref (R 28), .ref (R 29), .ref (R 30), .ref (R 31), .ref (R 32), .ref (R 33), .ref (R 34), .ref (R 35), .ref (R 36), .ref (R 37), .ref (R 38), .ref (R 39), .ref (R 40), .ref (R 41), .int 0])), ((R 0), .inl ((C 0), 7, .inl (fun _ => 0)))]) [0, 1] rfl
    have hDc := hD.sub (ws' := [(h0, .inr (5, [.ref (R 0), .int 0, .int 0, .int 0, .int 0, .int 3, .int 20, .int 0, .int 0, .int 0, .int 0, .ref (R 11), .ref (R 12), .ref (R 13), .ref (R 14), .ref (R 15), .ref (R 16), .ref (R 17), .ref (R 18), .ref (R 19), .ref (R 20), .ref (R 21), .ref (R 22), .ref (R 23), .ref (R 24), .ref (R 25), .ref (R 26), .ref (R 27), .ref (R 28), .ref (R 29), .ref (R 30), .ref (R 31), .ref (R 32), .ref (R 33), .ref (R 34), .ref (R 35), .ref (R 36), .ref (R 37), .ref (R 38), .ref (R 39), .ref (R 40), .ref (R 41), .int 0])), ((R 0), .inl ((C 0), 7, .inl (fun _ => 0)))]) [0, 1] (by decide) rfl
    have hKc := hK.sub (tys' := [((C 0), .int)]) [0] rfl
    have hFc := va_free (wc := [(h0, .inr (5, [.ref (R 0), .int 0, .int 0, .int 0, .int 0, .int 3, .int 20, .int 0, .int 0, .int 0, .int 0, .ref (R 11), .ref (R 12), .ref (R 13), .ref (R 14), .ref (R 15), .ref (R 16), .ref (R 17), .ref (R 18), .ref (R 19), .ref (R 20), .ref (R 21), .ref (R 22), .ref (R 23), .ref (R 24), .ref (R 25), .ref (R 26), .ref (R 27), .ref (R 28), .ref (R 29), .ref (R 30), .ref (R 31), .ref (R 32), .ref (R 33), .ref (R 34), .ref (R 35), .ref (R 36), .ref (R 37), .ref (R 38), .ref (R 39), .ref (R 40), .ref (R 41), .int 0])), ((R 0), .inl ((C 0), 7, .inl (fun _ => 0)))]) hD hS hA [0, 1] rfl
    refine va_calli (va_runV (As := [.int (-1)]) (rest := []) ⟨hx, hb, hml, hown, hts⟩ (k_X4_refuse1 l dC dI h0 R C H.size) (cwV 1 hts gX4_server_X4_refuse rfl rfl rfl (by decide +kernel) ⟨Nat.le_of_ble_eq_true rfl, Nat.le_of_ble_eq_true rfl⟩) ⟨pz_blind, va_recv hKc hPc (ci := 5) (q0 := 0) rfl rfl, fun U hU hW => ⟨rfl, pz_at hPc hKc hDc hU hW⟩⟩ rfl rfl hl.1 rfl (lv_room (Nat.le_of_ble_eq_true rfl)) dX4_server_10 ⟨Nat.le_of_ble_eq_true rfl, Nat.le_of_ble_eq_true rfl⟩) hS (fun q _ h => hFc q h) hFc (fun r_22 u t H locs ht hvm hw hB hz1 hk1 hS => ?_)
    obtain ⟨hP, hD⟩ := va_join (wr := [((R 11), .inl ((C 11), 8, .inl (fun _ => 0))), ((R 12), .inl ((C 12), 8, .inl (fun _ => 0))), ((R 13), .inl ((C 13), 8, .inl (fun _ => 0))), ((R 14), .inl ((C 14), 8, .inl (fun _ => 0))), ((R 15), .inl ((C 15), 8, .inl (fun _ => 0))), ((R 24), .inl ((C 24), 8, .inl (fun _ => 0)))]) (w1 := []) hP hD [0, 1] [2, 3, 4, 5, 6, 7] rfl rfl (by decide) (by decide) hk1 hFc pz_nilP pz_nilD
    have hP : va_P (dC, dI) vwCl [((R 11), .inl ((C 11), 8, .inl (fun _ => 0))), ((R 12), .inl ((C 12), 8, .inl (fun _ => 0))), ((R 13), .inl ((C 13), 8, .inl (fun _ => 0))), ((R 14), .inl ((C 14), 8, .inl (fun _ => 0))), ((R 15), .inl ((C 15), 8, .inl (fun _ => 0))), ((R 24), .inl ((C 24), 8, .inl (fun _ => 0)))] H := hP
    have hD : va_D A [((R 11), .inl ((C 11), 8, .inl (fun _ => 0))), ((R 12), .inl ((C 12), 8, .inl (fun _ => 0))), ((R 13), .inl ((C 13), 8, .inl (fun _ => 0))), ((R 14), .inl ((C 14), 8, .inl (fun _ => 0))), ((R 15), .inl ((C 15), 8, .inl (fun _ => 0))), ((R 24), .inl ((C 24), 8, .inl (fun _ => 0)))] := hD
    have hw : r_22 = (-1) := hw
    subst hw
    exact W.iret (v := (-1)) hx hb hr (fun t ht hW => ⟨⟨(-1), (), rfl, (by unfold ex_server; (repeat' split) <;> first | rfl | omega), trivial⟩, hS.F ht⟩) hS.2.2 dX4_server_13

set_option maxHeartbeats 40000000 in
set_option maxRecDepth 100000 in
theorem k_X4_call (l : Launch) (dC : Nat → ClassId) (dI : Nat → Nat → Nat) (h0 : Nat) (R : Nat → Nat) (C : Nat → ClassId) (a1 : Int32) (a2 : Int32) (a3 : Int32) (sf : Int32) (sz : Nat) (hsf : sf = 0 ∨ sf = 1) : Met l yX4_call wsX4_call ({ frames := 2, cells := 0, slots := 0, locals := 45 }) (va_Pc [.ref h0, .int a1, .int a2, .int a3, .int sf] (pzPre (dC, dI) vwCl [(h0, .inr (5, [.ref (R 0), .int 0, .int 0, .int 0, .int 0, .int 3, .int 20, .int 0, .int 0, .int 0, .int 0, .ref (R 11), .ref (R 12), .ref (R 13), .ref (R 14), .ref (R 15), .ref (R 16), .ref (R 17), .ref (R 18), .ref (R 19), .ref (R 20), .ref (R 21), .ref (R 22), .ref (R 23), .ref (R 24), .ref (R 25), .ref (R 26), .ref (R 27), .ref (R 28), .ref (R 29), .ref (R 30), .ref (R 31), .ref (R 32), .ref (R 33), .ref (R 34), .ref (R 35), .ref (R 36), .ref (R 37), .ref (R 38), .ref (R 39), .ref (R 40), .ref (R 41), .int 0])), ((R 0), .inl ((C 0), 7, .inl (fun _ => 0))), ((R 27), .inl ((C 27), 200, .inl (fun _ => 0))), ((R 28), .inl ((C 28), 200, .inl (fun _ => 0))), ((R 29), .inl ((C 29), 200, .inl (fun _ => 0))), ((R 36), .inl ((C 36), 200, .inl (fun _ => 0))), ((R 33), .inl ((C 33), 200, .inl (fun _ => 0))), ((R 34), .inl ((C 34), 200, .inl (fun _ => 0))), ((R 35), .inl ((C 35), 200, .inl (fun _ => 0))), ((R 32), .inl ((C 32), 200, .inl (fun _ => 0)))] [((C 0), .int), ((C 27), .int), ((C 28), .int), ((C 29), .int), ((C 36), .boolean), ((C 33), .int), ((C 34), .int), ((C 35), .int), ((C 32), .int)] sz)) (va_Qi (fun (r : Int32) (_ : Unit) => r = ex_call a1 a2 a3) (fun _ _ => True) (va_A [(h0, .inr (5, [.ref (R 0), .int 0, .int 0, .int 0, .int 0, .int 3, .int 20, .int 0, .int 0, .int 0, .int 0, .ref (R 11), .ref (R 12), .ref (R 13), .ref (R 14), .ref (R 15), .ref (R 16), .ref (R 17), .ref (R 18), .ref (R 19), .ref (R 20), .ref (R 21), .ref (R 22), .ref (R 23), .ref (R 24), .ref (R 25), .ref (R 26), .ref (R 27), .ref (R 28), .ref (R 29), .ref (R 30), .ref (R 31), .ref (R 32), .ref (R 33), .ref (R 34), .ref (R 35), .ref (R 36), .ref (R 37), .ref (R 38), .ref (R 39), .ref (R 40), .ref (R 41), .int 0])), ((R 0), .inl ((C 0), 7, .inl (fun _ => 0))), ((R 27), .inl ((C 27), 200, .inl (fun _ => 0))), ((R 28), .inl ((C 28), 200, .inl (fun _ => 0))), ((R 29), .inl ((C 29), 200, .inl (fun _ => 0))), ((R 36), .inl ((C 36), 200, .inl (fun _ => 0))), ((R 33), .inl ((C 33), 200, .inl (fun _ => 0))), ((R 34), .inl ((C 34), 200, .inl (fun _ => 0))), ((R 35), .inl ((C 35), 200, .inl (fun _ => 0))), ((R 32), .inl ((C 32), 200, .inl (fun _ => 0)))] sz)) 0 0 (va_A [(h0, .inr (5, [.ref (R 0), .int 0, .int 0, .int 0, .int 0, .int 3, .int 20, .int 0, .int 0, .int 0, .int 0, .ref (R 11), .ref (R 12), .ref (R 13), .ref (R 14), .ref (R 15), .ref (R 16), .ref (R 17), .ref (R 18), .ref (R 19), .ref (R 20), .ref (R 21), .ref (R 22), .ref (R 23), .ref (R 24), .ref (R 25), .ref (R 26), .ref (R 27), .ref (R 28), .ref (R 29), .ref (R 30), .ref (R 31), .ref (R 32), .ref (R 33), .ref (R 34), .ref (R 35), .ref (R 36), .ref (R 37), .ref (R 38), .ref (R 39), .ref (R 40), .ref (R 41), .int 0])), ((R 0), .inl ((C 0), 7, .inl (fun _ => 0))), ((R 27), .inl ((C 27), 200, .inl (fun _ => 0))), ((R 28), .inl ((C 28), 200, .inl (fun _ => 0))), ((R 29), .inl ((C 29), 200, .inl (fun _ => 0))), ((R 36), .inl ((C 36), 200, .inl (fun _ => 0))), ((R 33), .inl ((C 33), 200, .inl (fun _ => 0))), ((R 34), .inl ((C 34), 200, .inl (fun _ => 0))), ((R 35), .inl ((C 35), 200, .inl (fun _ => 0))), ((R 32), .inl ((C 32), 200, .inl (fun _ => 0)))] sz) := by
  refine Met.ofW (cc := cX4_call) (maxL := 7) (ret := (some .int)) (by decide) rfl ?_
  intro p e s m args below meth c s₁ B hml hv
  obtain ⟨rfl, hsz, hP, hK, hD0⟩ := hv
  have hx := B.exec
  have hb := B.bytes
  have hr := B.returns
  have hts := atoms_spec (ws := wsX4_call) B.pre
  have hown : s.vm.findClass RX4 = some m.cls := findClass_of_methodNamed B.named
  have hlocks := B.notSynchronized
  subst hsz
  have hD := hD0.self (sz := s.heap.size)
  generalize hAe : va_A [(h0, .inr (5, [.ref (R 0), .int 0, .int 0, .int 0, .int 0, .int 3, .int 20, .int 0, .int 0, .int 0, .int 0, .ref (R 11), .ref (R 12), .ref (R 13), .ref (R 14), .ref (R 15), .ref (R 16), .ref (R 17), .ref (R 18), .ref (R 19), .ref (R 20), .ref (R 21), .ref (R 22), .ref (R 23), .ref (R 24), .ref (R 25), .ref (R 26), .ref (R 27), .ref (R 28), .ref (R 29), .ref (R 30), .ref (R 31), .ref (R 32), .ref (R 33), .ref (R 34), .ref (R 35), .ref (R 36), .ref (R 37), .ref (R 38), .ref (R 39), .ref (R 40), .ref (R 41), .int 0])), ((R 0), .inl ((C 0), 7, .inl (fun _ => 0))), ((R 27), .inl ((C 27), 200, .inl (fun _ => 0))), ((R 28), .inl ((C 28), 200, .inl (fun _ => 0))), ((R 29), .inl ((C 29), 200, .inl (fun _ => 0))), ((R 36), .inl ((C 36), 200, .inl (fun _ => 0))), ((R 33), .inl ((C 33), 200, .inl (fun _ => 0))), ((R 34), .inl ((C 34), 200, .inl (fun _ => 0))), ((R 35), .inl ((C 35), 200, .inl (fun _ => 0))), ((R 32), .inl ((C 32), 200, .inl (fun _ => 0)))] s.heap.size = A at hD ⊢
  have hA : ∀ q : Nat, s.heap.size ≤ q → A q := fun q h => by rw [← hAe]; exact Or.inr h
  have hS : va_S A s.heap s.heap [] := va_S.rf
  have hP : va_P (dC, dI) vwCl [(h0, .inr (5, [.ref (R 0), .int 0, .int 0, .int 0, .int 0, .int 3, .int 20, .int 0, .int 0, .int 0, .int 0, .ref (R 11), .ref (R 12), .ref (R 13), .ref (R 14), .ref (R 15), .ref (R 16), .ref (R 17), .ref (R 18), .ref (R 19), .ref (R 20), .ref (R 21), .ref (R 22), .ref (R 23), .ref (R 24), .ref (R 25), .ref (R 26), .ref (R 27), .ref (R 28), .ref (R 29), .ref (R 30), .ref (R 31), .ref (R 32), .ref (R 33), .ref (R 34), .ref (R 35), .ref (R 36), .ref (R 37), .ref (R 38), .ref (R 39), .ref (R 40), .ref (R 41), .int 0])), ((R 0), .inl ((C 0), 7, .inl (fun _ => 0))), ((R 27), .inl ((C 27), 200, .inl (fun _ => 0))), ((R 28), .inl ((C 28), 200, .inl (fun _ => 0))), ((R 29), .inl ((C 29), 200, .inl (fun _ => 0))), ((R 36), .inl ((C 36), 200, .inl (fun _ => 0))), ((R 33), .inl ((C 33), 200, .inl (fun _ => 0))), ((R 34), .inl ((C 34), 200, .inl (fun _ => 0))), ((R 35), .inl ((C 35), 200, .inl (fun _ => 0))), ((R 32), .inl ((C 32), 200, .inl (fun _ => 0)))] s.heap := hP
  have hnar : narrow .boolean (.int sf) = .int sf := by rcases hsf with h | h <;> rw [h] <;> rfl
  have hfit : fits .boolean (.int sf) = true := by rcases hsf with h | h <;> rw [h] <;> rfl
  have hl := lv_entry ([.ref h0, .int a1, .int a2, .int a3, .int sf]) (n := 7) (Nat.le_of_ble_eq_true rfl)
  rw [lg_entry_eq]
  generalize (lg_sl ([.ref h0, .int a1, .int a2, .int a3, .int sf]) ++ List.replicate (7 - (lg_sl ([.ref h0, .int a1, .int a2, .int a3, .int sf])).length) Slot.unset).toArray = ls at hl ⊢
  have hl : lv_has ls 7 [(0, .ref h0), (1, .int a1), (2, .int a2), (3, .int a3), (4, .int sf)] := hl
  refine lv_iload_n hx hb dX4_call_0 rfl (lv_at hl 1 rfl) ?_
  refine lv_if_lt (tgt := 13) hx hb dX4_call_1 (by decide) (fun c_1 => ?_) (fun c_1 => ?_)
  · skip
    have i_1 : a1.toInt < 0 := by have h9 := pz_lt c_1; exact h9
    refine lv_aload_n hx hb dX4_call_13 rfl (lv_at hl 0 rfl) ?_
    refine lv_bipush (v := (-4)) hx hb dX4_call_14 (by decide) ?_
    have hPc := hP.sub (ws' := [(h0, .inr (5, [.ref (R 0), .int 0, .int 0, .int 0, .int 0, .int 3, .int 20, .int 0, .int 0, .int 0, .int 0, .ref (R 11), .ref (R 12), .ref (R 13), .ref (R 14), .ref (R 15), .ref (R 16), .ref (R 17), .ref (R 18), .ref (R 19), .ref (R 20), .ref (R 21), .ref (R 22), .ref (R 23), .ref (R 24), .ref (R 25), .ref (R 26), .ref (R 27), .ref (R 28), .ref (R 29), .ref (R 30), .ref (R 31), .ref (R 32), .ref (R 33), .ref (R 34), .ref (R 35), .ref (R 36), .ref (R 37), .ref (R 38), .ref (R 39), .ref (R 40), .ref (R 41), .int 0])), ((R 0), .inl ((C 0), 7, .inl (fun _ => 0)))]) [0, 1] rfl
    have hDc := hD.sub (ws' := [(h0, .inr (5, [.ref (R 0), .int 0, .int 0, .int 0, .int 0, .int 3, .int 20, .int 0, .int 0, .int 0, .int 0, .ref (R 11), .ref (R 12), .ref (R 13), .ref (R 14), .ref (R 15), .ref (R 16), .ref (R 17), .ref (R 18), .ref (R 19), .ref (R 20), .ref (R 21), .ref (R 22), .ref (R 23), .ref (R 24), .ref (R 25), .ref (R 26), .ref (R 27), .ref (R 28), .ref (R 29), .ref (R 30), .ref (R 31), .ref (R 32), .ref (R 33), .ref (R 34), .ref (R 35), .ref (R 36), .ref (R 37), .ref (R 38), .ref (R 39), .ref (R 40), .ref (R 41), .int 0])), ((R 0), .inl ((C 0), 7, .inl (fun _ => 0)))]) [0, 1] (by decide) rfl
    have hKc := hK.sub (tys' := [((C 0), .int)]) [0] rfl
    have hFc := va_free (wc := [(h0, .inr (5, [.ref (R 0), .int 0, .int 0, .int 0, .int 0, .int 3, .int 20, .int 0, .int 0, .int 0, .int 0, .ref (R 11), .ref (R 12), .ref (R 13), .ref (R 14), .ref (R 15), .ref (R 16), .ref (R 17), .ref (R 18), .ref (R 19), .ref (R 20), .ref (R 21), .ref (R 22), .ref (R 23), .ref (R 24), .ref (R 25), .ref (R 26), .ref (R 27), .ref (R 28), .ref (R 29), .ref (R 30), .ref (R 31), .ref (R 32), .ref (R 33), .ref (R 34), .ref (R 35), .ref (R 36), .ref (R 37), .ref (R 38), .ref (R 39), .ref (R 40), .ref (R 41), .int 0])), ((R 0), .inl ((C 0), 7, .inl (fun _ => 0)))]) hD hS hA [0, 1] rfl
    refine va_calli (va_runV (As := [.int (-4)]) (rest := []) ⟨hx, hb, hml, hown, hts⟩ (k_X4_refuse4 l dC dI h0 R C s.heap.size) (cwV 1 hts gX4_call_X4_refuse rfl rfl rfl (by decide +kernel) ⟨Nat.le_of_ble_eq_true rfl, Nat.le_of_ble_eq_true rfl⟩) ⟨pz_blind, va_recv hKc hPc (ci := 5) (q0 := 0) rfl rfl, fun U hU hW => ⟨rfl, pz_at hPc hKc hDc hU hW⟩⟩ rfl rfl hl.1 rfl (lv_room (Nat.le_of_ble_eq_true rfl)) dX4_call_16 ⟨Nat.le_of_ble_eq_true rfl, Nat.le_of_ble_eq_true rfl⟩) hS (fun q _ h => hFc q h) hFc (fun r_2 u t H locs ht hvm hw hB hz1 hk1 hS => ?_)
    obtain ⟨hP, hD⟩ := va_join (wr := [((R 27), .inl ((C 27), 200, .inl (fun _ => 0))), ((R 28), .inl ((C 28), 200, .inl (fun _ => 0))), ((R 29), .inl ((C 29), 200, .inl (fun _ => 0))), ((R 36), .inl ((C 36), 200, .inl (fun _ => 0))), ((R 33), .inl ((C 33), 200, .inl (fun _ => 0))), ((R 34), .inl ((C 34), 200, .inl (fun _ => 0))), ((R 35), .inl ((C 35), 200, .inl (fun _ => 0))), ((R 32), .inl ((C 32), 200, .inl (fun _ => 0)))]) (w1 := []) hP hD [0, 1] [2, 3, 4, 5, 6, 7, 8, 9] rfl rfl (by decide) (by decide) hk1 hFc pz_nilP pz_nilD
    have hP : va_P (dC, dI) vwCl [((R 27), .inl ((C 27), 200, .inl (fun _ => 0))), ((R 28), .inl ((C 28), 200, .inl (fun _ => 0))), ((R 29), .inl ((C 29), 200, .inl (fun _ => 0))), ((R 36), .inl ((C 36), 200, .inl (fun _ => 0))), ((R 33), .inl ((C 33), 200, .inl (fun _ => 0))), ((R 34), .inl ((C 34), 200, .inl (fun _ => 0))), ((R 35), .inl ((C 35), 200, .inl (fun _ => 0))), ((R 32), .inl ((C 32), 200, .inl (fun _ => 0)))] H := hP
    have hD : va_D A [((R 27), .inl ((C 27), 200, .inl (fun _ => 0))), ((R 28), .inl ((C 28), 200, .inl (fun _ => 0))), ((R 29), .inl ((C 29), 200, .inl (fun _ => 0))), ((R 36), .inl ((C 36), 200, .inl (fun _ => 0))), ((R 33), .inl ((C 33), 200, .inl (fun _ => 0))), ((R 34), .inl ((C 34), 200, .inl (fun _ => 0))), ((R 35), .inl ((C 35), 200, .inl (fun _ => 0))), ((R 32), .inl ((C 32), 200, .inl (fun _ => 0)))] := hD
    have hw : r_2 = (-4) := hw
    subst hw
    exact W.iret (v := (-4)) hx hb hr (fun t ht hW => ⟨⟨(-4), (), rfl, (by unfold ex_call; (repeat' split) <;> first | rfl | omega), trivial⟩, hS.F ht⟩) hS.2.2 dX4_call_19
  · skip
    have i_1 : 0 ≤ a1.toInt := by have h9 := pz_nlt c_1; exact h9
    refine lv_iload_n hx hb dX4_call_4 rfl (lv_at hl 2 rfl) ?_
    refine lv_if_lt (tgt := 13) hx hb dX4_call_5 (by decide) (fun c_3 => ?_) (fun c_3 => ?_)
    · skip
      have i_3 : a2.toInt < 0 := by have h9 := pz_lt c_3; exact h9
      refine lv_aload_n hx hb dX4_call_13 rfl (lv_at hl 0 rfl) ?_
      refine lv_bipush (v := (-4)) hx hb dX4_call_14 (by decide) ?_
      have hPc := hP.sub (ws' := [(h0, .inr (5, [.ref (R 0), .int 0, .int 0, .int 0, .int 0, .int 3, .int 20, .int 0, .int 0, .int 0, .int 0, .ref (R 11), .ref (R 12), .ref (R 13), .ref (R 14), .ref (R 15), .ref (R 16), .ref (R 17), .ref (R 18), .ref (R 19), .ref (R 20), .ref (R 21), .ref (R 22), .ref (R 23), .ref (R 24), .ref (R 25), .ref (R 26), .ref (R 27), .ref (R 28), .ref (R 29), .ref (R 30), .ref (R 31), .ref (R 32), .ref (R 33), .ref (R 34), .ref (R 35), .ref (R 36), .ref (R 37), .ref (R 38), .ref (R 39), .ref (R 40), .ref (R 41), .int 0])), ((R 0), .inl ((C 0), 7, .inl (fun _ => 0)))]) [0, 1] rfl
      have hDc := hD.sub (ws' := [(h0, .inr (5, [.ref (R 0), .int 0, .int 0, .int 0, .int 0, .int 3, .int 20, .int 0, .int 0, .int 0, .int 0, .ref (R 11), .ref (R 12), .ref (R 13), .ref (R 14), .ref (R 15), .ref (R 16), .ref (R 17), .ref (R 18), .ref (R 19), .ref (R 20), .ref (R 21), .ref (R 22), .ref (R 23), .ref (R 24), .ref (R 25), .ref (R 26), .ref (R 27), .ref (R 28), .ref (R 29), .ref (R 30), .ref (R 31), .ref (R 32), .ref (R 33), .ref (R 34), .ref (R 35), .ref (R 36), .ref (R 37), .ref (R 38), .ref (R 39), .ref (R 40), .ref (R 41), .int 0])), ((R 0), .inl ((C 0), 7, .inl (fun _ => 0)))]) [0, 1] (by decide) rfl
      have hKc := hK.sub (tys' := [((C 0), .int)]) [0] rfl
      have hFc := va_free (wc := [(h0, .inr (5, [.ref (R 0), .int 0, .int 0, .int 0, .int 0, .int 3, .int 20, .int 0, .int 0, .int 0, .int 0, .ref (R 11), .ref (R 12), .ref (R 13), .ref (R 14), .ref (R 15), .ref (R 16), .ref (R 17), .ref (R 18), .ref (R 19), .ref (R 20), .ref (R 21), .ref (R 22), .ref (R 23), .ref (R 24), .ref (R 25), .ref (R 26), .ref (R 27), .ref (R 28), .ref (R 29), .ref (R 30), .ref (R 31), .ref (R 32), .ref (R 33), .ref (R 34), .ref (R 35), .ref (R 36), .ref (R 37), .ref (R 38), .ref (R 39), .ref (R 40), .ref (R 41), .int 0])), ((R 0), .inl ((C 0), 7, .inl (fun _ => 0)))]) hD hS hA [0, 1] rfl
      refine va_calli (va_runV (As := [.int (-4)]) (rest := []) ⟨hx, hb, hml, hown, hts⟩ (k_X4_refuse4 l dC dI h0 R C s.heap.size) (cwV 1 hts gX4_call_X4_refuse rfl rfl rfl (by decide +kernel) ⟨Nat.le_of_ble_eq_true rfl, Nat.le_of_ble_eq_true rfl⟩) ⟨pz_blind, va_recv hKc hPc (ci := 5) (q0 := 0) rfl rfl, fun U hU hW => ⟨rfl, pz_at hPc hKc hDc hU hW⟩⟩ rfl rfl hl.1 rfl (lv_room (Nat.le_of_ble_eq_true rfl)) dX4_call_16 ⟨Nat.le_of_ble_eq_true rfl, Nat.le_of_ble_eq_true rfl⟩) hS (fun q _ h => hFc q h) hFc (fun r_4 u t H locs ht hvm hw hB hz1 hk1 hS => ?_)
      obtain ⟨hP, hD⟩ := va_join (wr := [((R 27), .inl ((C 27), 200, .inl (fun _ => 0))), ((R 28), .inl ((C 28), 200, .inl (fun _ => 0))), ((R 29), .inl ((C 29), 200, .inl (fun _ => 0))), ((R 36), .inl ((C 36), 200, .inl (fun _ => 0))), ((R 33), .inl ((C 33), 200, .inl (fun _ => 0))), ((R 34), .inl ((C 34), 200, .inl (fun _ => 0))), ((R 35), .inl ((C 35), 200, .inl (fun _ => 0))), ((R 32), .inl ((C 32), 200, .inl (fun _ => 0)))]) (w1 := []) hP hD [0, 1] [2, 3, 4, 5, 6, 7, 8, 9] rfl rfl (by decide) (by decide) hk1 hFc pz_nilP pz_nilD
      have hP : va_P (dC, dI) vwCl [((R 27), .inl ((C 27), 200, .inl (fun _ => 0))), ((R 28), .inl ((C 28), 200, .inl (fun _ => 0))), ((R 29), .inl ((C 29), 200, .inl (fun _ => 0))), ((R 36), .inl ((C 36), 200, .inl (fun _ => 0))), ((R 33), .inl ((C 33), 200, .inl (fun _ => 0))), ((R 34), .inl ((C 34), 200, .inl (fun _ => 0))), ((R 35), .inl ((C 35), 200, .inl (fun _ => 0))), ((R 32), .inl ((C 32), 200, .inl (fun _ => 0)))] H := hP
      have hD : va_D A [((R 27), .inl ((C 27), 200, .inl (fun _ => 0))), ((R 28), .inl ((C 28), 200, .inl (fun _ => 0))), ((R 29), .inl ((C 29), 200, .inl (fun _ => 0))), ((R 36), .inl ((C 36), 200, .inl (fun _ => 0))), ((R 33), .inl ((C 33), 200, .inl (fun _ => 0))), ((R 34), .inl ((C 34), 200, .inl (fun _ => 0))), ((R 35), .inl ((C 35), 200, .inl (fun _ => 0))), ((R 32), .inl ((C 32), 200, .inl (fun _ => 0)))] := hD
      have hw : r_4 = (-4) := hw
      subst hw
      exact W.iret (v := (-4)) hx hb hr (fun t ht hW => ⟨⟨(-4), (), rfl, (by unfold ex_call; (repeat' split) <;> first | rfl | omega), trivial⟩, hS.F ht⟩) hS.2.2 dX4_call_19
    · skip
      have i_3 : 0 ≤ a2.toInt := by have h9 := pz_nlt c_3; exact h9
      refine lv_iload_n hx hb dX4_call_8 rfl (lv_at hl 3 rfl) ?_
      refine lv_iconst (v := 1) hx hb dX4_call_9 (by decide) ?_
      refine lv_icmp_ge (tgt := 20) hx hb dX4_call_10 (by decide) (fun c_5 => ?_) (fun c_5 => ?_)
      · skip
        have i_5 : 1 ≤ a3.toInt := by have h9 := pz_ge c_5; exact h9
        refine lv_iload_n hx hb dX4_call_20 rfl (lv_at hl 1 rfl) ?_
        refine lv_ldc hx hb hown (hts (.constant RX4 143 (65536)) (by decide +kernel)) dX4_call_21 ?_
        refine lv_icmp_ge (tgt := 48) hx hb dX4_call_23 (by decide) (fun c_6 => ?_) (fun c_6 => ?_)
        · skip
          have i_6 : 65536 ≤ a1.toInt := by have h9 := pz_ge c_6; exact h9
          refine lv_aload_n hx hb dX4_call_48 rfl (lv_at hl 0 rfl) ?_
          refine lv_bipush (v := (-6)) hx hb dX4_call_49 (by decide) ?_
          have hPc := hP.sub (ws' := [(h0, .inr (5, [.ref (R 0), .int 0, .int 0, .int 0, .int 0, .int 3, .int 20, .int 0, .int 0, .int 0, .int 0, .ref (R 11), .ref (R 12), .ref (R 13), .ref (R 14), .ref (R 15), .ref (R 16), .ref (R 17), .ref (R 18), .ref (R 19), .ref (R 20), .ref (R 21), .ref (R 22), .ref (R 23), .ref (R 24), .ref (R 25), .ref (R 26), .ref (R 27), .ref (R 28), .ref (R 29), .ref (R 30), .ref (R 31), .ref (R 32), .ref (R 33), .ref (R 34), .ref (R 35), .ref (R 36), .ref (R 37), .ref (R 38), .ref (R 39), .ref (R 40), .ref (R 41), .int 0])), ((R 0), .inl ((C 0), 7, .inl (fun _ => 0)))]) [0, 1] rfl
          have hDc := hD.sub (ws' := [(h0, .inr (5, [.ref (R 0), .int 0, .int 0, .int 0, .int 0, .int 3, .int 20, .int 0, .int 0, .int 0, .int 0, .ref (R 11), .ref (R 12), .ref (R 13), .ref (R 14), .ref (R 15), .ref (R 16), .ref (R 17), .ref (R 18), .ref (R 19), .ref (R 20), .ref (R 21), .ref (R 22), .ref (R 23), .ref (R 24), .ref (R 25), .ref (R 26), .ref (R 27), .ref (R 28), .ref (R 29), .ref (R 30), .ref (R 31), .ref (R 32), .ref (R 33), .ref (R 34), .ref (R 35), .ref (R 36), .ref (R 37), .ref (R 38), .ref (R 39), .ref (R 40), .ref (R 41), .int 0])), ((R 0), .inl ((C 0), 7, .inl (fun _ => 0)))]) [0, 1] (by decide) rfl
          have hKc := hK.sub (tys' := [((C 0), .int)]) [0] rfl
          have hFc := va_free (wc := [(h0, .inr (5, [.ref (R 0), .int 0, .int 0, .int 0, .int 0, .int 3, .int 20, .int 0, .int 0, .int 0, .int 0, .ref (R 11), .ref (R 12), .ref (R 13), .ref (R 14), .ref (R 15), .ref (R 16), .ref (R 17), .ref (R 18), .ref (R 19), .ref (R 20), .ref (R 21), .ref (R 22), .ref (R 23), .ref (R 24), .ref (R 25), .ref (R 26), .ref (R 27), .ref (R 28), .ref (R 29), .ref (R 30), .ref (R 31), .ref (R 32), .ref (R 33), .ref (R 34), .ref (R 35), .ref (R 36), .ref (R 37), .ref (R 38), .ref (R 39), .ref (R 40), .ref (R 41), .int 0])), ((R 0), .inl ((C 0), 7, .inl (fun _ => 0)))]) hD hS hA [0, 1] rfl
          refine va_calli (va_runV (As := [.int (-6)]) (rest := []) ⟨hx, hb, hml, hown, hts⟩ (k_X4_refuse6 l dC dI h0 R C s.heap.size) (cwV 1 hts gX4_call_X4_refuse rfl rfl rfl (by decide +kernel) ⟨Nat.le_of_ble_eq_true rfl, Nat.le_of_ble_eq_true rfl⟩) ⟨pz_blind, va_recv hKc hPc (ci := 5) (q0 := 0) rfl rfl, fun U hU hW => ⟨rfl, pz_at hPc hKc hDc hU hW⟩⟩ rfl rfl hl.1 rfl (lv_room (Nat.le_of_ble_eq_true rfl)) dX4_call_51 ⟨Nat.le_of_ble_eq_true rfl, Nat.le_of_ble_eq_true rfl⟩) hS (fun q _ h => hFc q h) hFc (fun r_7 u t H locs ht hvm hw hB hz1 hk1 hS => ?_)
          obtain ⟨hP, hD⟩ := va_join (wr := [((R 27), .inl ((C 27), 200, .inl (fun _ => 0))), ((R 28), .inl ((C 28), 200, .inl (fun _ => 0))), ((R 29), .inl ((C 29), 200, .inl (fun _ => 0))), ((R 36), .inl ((C 36), 200, .inl (fun _ => 0))), ((R 33), .inl ((C 33), 200, .inl (fun _ => 0))), ((R 34), .inl ((C 34), 200, .inl (fun _ => 0))), ((R 35), .inl ((C 35), 200, .inl (fun _ => 0))), ((R 32), .inl ((C 32), 200, .inl (fun _ => 0)))]) (w1 := []) hP hD [0, 1] [2, 3, 4, 5, 6, 7, 8, 9] rfl rfl (by decide) (by decide) hk1 hFc pz_nilP pz_nilD
          have hP : va_P (dC, dI) vwCl [((R 27), .inl ((C 27), 200, .inl (fun _ => 0))), ((R 28), .inl ((C 28), 200, .inl (fun _ => 0))), ((R 29), .inl ((C 29), 200, .inl (fun _ => 0))), ((R 36), .inl ((C 36), 200, .inl (fun _ => 0))), ((R 33), .inl ((C 33), 200, .inl (fun _ => 0))), ((R 34), .inl ((C 34), 200, .inl (fun _ => 0))), ((R 35), .inl ((C 35), 200, .inl (fun _ => 0))), ((R 32), .inl ((C 32), 200, .inl (fun _ => 0)))] H := hP
          have hD : va_D A [((R 27), .inl ((C 27), 200, .inl (fun _ => 0))), ((R 28), .inl ((C 28), 200, .inl (fun _ => 0))), ((R 29), .inl ((C 29), 200, .inl (fun _ => 0))), ((R 36), .inl ((C 36), 200, .inl (fun _ => 0))), ((R 33), .inl ((C 33), 200, .inl (fun _ => 0))), ((R 34), .inl ((C 34), 200, .inl (fun _ => 0))), ((R 35), .inl ((C 35), 200, .inl (fun _ => 0))), ((R 32), .inl ((C 32), 200, .inl (fun _ => 0)))] := hD
          have hw : r_7 = (-6) := hw
          subst hw
          exact W.iret (v := (-6)) hx hb hr (fun t ht hW => ⟨⟨(-6), (), rfl, (by unfold ex_call; (repeat' split) <;> first | rfl | omega), trivial⟩, hS.F ht⟩) hS.2.2 dX4_call_54
        · skip
          have i_6 : a1.toInt < 65536 := by have h9 := pz_nge c_6; exact h9
          refine lv_iload_n hx hb dX4_call_26 rfl (lv_at hl 2 rfl) ?_
          refine lv_iconst (v := 3) hx hb dX4_call_27 (by decide) ?_
          refine lv_icmp_gt (tgt := 48) hx hb dX4_call_28 (by decide) (fun c_8 => ?_) (fun c_8 => ?_)
          · skip
            have i_8 : 3 < a2.toInt := by have h9 := pz_gt c_8; exact h9
            refine lv_aload_n hx hb dX4_call_48 rfl (lv_at hl 0 rfl) ?_
            refine lv_bipush (v := (-6)) hx hb dX4_call_49 (by decide) ?_
            have hPc := hP.sub (ws' := [(h0, .inr (5, [.ref (R 0), .int 0, .int 0, .int 0, .int 0, .int 3, .int 20, .int 0, .int 0, .int 0, .int 0, .ref (R 11), .ref (R 12), .ref (R 13), .ref (R 14), .ref (R 15), .ref (R 16), .ref (R 17), .ref (R 18), .ref (R 19), .ref (R 20), .ref (R 21), .ref (R 22), .ref (R 23), .ref (R 24), .ref (R 25), .ref (R 26), .ref (R 27), .ref (R 28), .ref (R 29), .ref (R 30), .ref (R 31), .ref (R 32), .ref (R 33), .ref (R 34), .ref (R 35), .ref (R 36), .ref (R 37), .ref (R 38), .ref (R 39), .ref (R 40), .ref (R 41), .int 0])), ((R 0), .inl ((C 0), 7, .inl (fun _ => 0)))]) [0, 1] rfl
            have hDc := hD.sub (ws' := [(h0, .inr (5, [.ref (R 0), .int 0, .int 0, .int 0, .int 0, .int 3, .int 20, .int 0, .int 0, .int 0, .int 0, .ref (R 11), .ref (R 12), .ref (R 13), .ref (R 14), .ref (R 15), .ref (R 16), .ref (R 17), .ref (R 18), .ref (R 19), .ref (R 20), .ref (R 21), .ref (R 22), .ref (R 23), .ref (R 24), .ref (R 25), .ref (R 26), .ref (R 27), .ref (R 28), .ref (R 29), .ref (R 30), .ref (R 31), .ref (R 32), .ref (R 33), .ref (R 34), .ref (R 35), .ref (R 36), .ref (R 37), .ref (R 38), .ref (R 39), .ref (R 40), .ref (R 41), .int 0])), ((R 0), .inl ((C 0), 7, .inl (fun _ => 0)))]) [0, 1] (by decide) rfl
            have hKc := hK.sub (tys' := [((C 0), .int)]) [0] rfl
            have hFc := va_free (wc := [(h0, .inr (5, [.ref (R 0), .int 0, .int 0, .int 0, .int 0, .int 3, .int 20, .int 0, .int 0, .int 0, .int 0, .ref (R 11), .ref (R 12), .ref (R 13), .ref (R 14), .ref (R 15), .ref (R 16), .ref (R 17), .ref (R 18), .ref (R 19), .ref (R 20), .ref (R 21), .ref (R 22), .ref (R 23), .ref (R 24), .ref (R 25), .ref (R 26), .ref (R 27), .ref (R 28), .ref (R 29), .ref (R 30), .ref (R 31), .ref (R 32), .ref (R 33), .ref (R 34), .ref (R 35), .ref (R 36), .ref (R 37), .ref (R 38), .ref (R 39), .ref (R 40), .ref (R 41), .int 0])), ((R 0), .inl ((C 0), 7, .inl (fun _ => 0)))]) hD hS hA [0, 1] rfl
            refine va_calli (va_runV (As := [.int (-6)]) (rest := []) ⟨hx, hb, hml, hown, hts⟩ (k_X4_refuse6 l dC dI h0 R C s.heap.size) (cwV 1 hts gX4_call_X4_refuse rfl rfl rfl (by decide +kernel) ⟨Nat.le_of_ble_eq_true rfl, Nat.le_of_ble_eq_true rfl⟩) ⟨pz_blind, va_recv hKc hPc (ci := 5) (q0 := 0) rfl rfl, fun U hU hW => ⟨rfl, pz_at hPc hKc hDc hU hW⟩⟩ rfl rfl hl.1 rfl (lv_room (Nat.le_of_ble_eq_true rfl)) dX4_call_51 ⟨Nat.le_of_ble_eq_true rfl, Nat.le_of_ble_eq_true rfl⟩) hS (fun q _ h => hFc q h) hFc (fun r_9 u t H locs ht hvm hw hB hz1 hk1 hS => ?_)
            obtain ⟨hP, hD⟩ := va_join (wr := [((R 27), .inl ((C 27), 200, .inl (fun _ => 0))), ((R 28), .inl ((C 28), 200, .inl (fun _ => 0))), ((R 29), .inl ((C 29), 200, .inl (fun _ => 0))), ((R 36), .inl ((C 36), 200, .inl (fun _ => 0))), ((R 33), .inl ((C 33), 200, .inl (fun _ => 0))), ((R 34), .inl ((C 34), 200, .inl (fun _ => 0))), ((R 35), .inl ((C 35), 200, .inl (fun _ => 0))), ((R 32), .inl ((C 32), 200, .inl (fun _ => 0)))]) (w1 := []) hP hD [0, 1] [2, 3, 4, 5, 6, 7, 8, 9] rfl rfl (by decide) (by decide) hk1 hFc pz_nilP pz_nilD
            have hP : va_P (dC, dI) vwCl [((R 27), .inl ((C 27), 200, .inl (fun _ => 0))), ((R 28), .inl ((C 28), 200, .inl (fun _ => 0))), ((R 29), .inl ((C 29), 200, .inl (fun _ => 0))), ((R 36), .inl ((C 36), 200, .inl (fun _ => 0))), ((R 33), .inl ((C 33), 200, .inl (fun _ => 0))), ((R 34), .inl ((C 34), 200, .inl (fun _ => 0))), ((R 35), .inl ((C 35), 200, .inl (fun _ => 0))), ((R 32), .inl ((C 32), 200, .inl (fun _ => 0)))] H := hP
            have hD : va_D A [((R 27), .inl ((C 27), 200, .inl (fun _ => 0))), ((R 28), .inl ((C 28), 200, .inl (fun _ => 0))), ((R 29), .inl ((C 29), 200, .inl (fun _ => 0))), ((R 36), .inl ((C 36), 200, .inl (fun _ => 0))), ((R 33), .inl ((C 33), 200, .inl (fun _ => 0))), ((R 34), .inl ((C 34), 200, .inl (fun _ => 0))), ((R 35), .inl ((C 35), 200, .inl (fun _ => 0))), ((R 32), .inl ((C 32), 200, .inl (fun _ => 0)))] := hD
            have hw : r_9 = (-6) := hw
            subst hw
            exact W.iret (v := (-6)) hx hb hr (fun t ht hW => ⟨⟨(-6), (), rfl, (by unfold ex_call; (repeat' split) <;> first | rfl | omega), trivial⟩, hS.F ht⟩) hS.2.2 dX4_call_54
          · skip
            have i_8 : a2.toInt ≤ 3 := by have h9 := pz_ngt c_8; exact h9
            refine lv_iload_n hx hb dX4_call_31 rfl (lv_at hl 3 rfl) ?_
            refine lv_sipush (v := 2000) hx hb dX4_call_32 (by decide) ?_
            refine lv_icmp_gt (tgt := 48) hx hb dX4_call_35 (by decide) (fun c_10 => ?_) (fun c_10 => ?_)
            · skip
              have i_10 : 2000 < a3.toInt := by have h9 := pz_gt c_10; exact h9
              refine lv_aload_n hx hb dX4_call_48 rfl (lv_at hl 0 rfl) ?_
              refine lv_bipush (v := (-6)) hx hb dX4_call_49 (by decide) ?_
              have hPc := hP.sub (ws' := [(h0, .inr (5, [.ref (R 0), .int 0, .int 0, .int 0, .int 0, .int 3, .int 20, .int 0, .int 0, .int 0, .int 0, .ref (R 11), .ref (R 12), .ref (R 13), .ref (R 14), .ref (R 15), .ref (R 16), .ref (R 17), .ref (R 18), .ref (R 19), .ref (R 20), .ref (R 21), .ref (R 22), .ref (R 23), .ref (R 24), .ref (R 25), .ref (R 26), .ref (R 27), .ref (R 28), .ref (R 29), .ref (R 30), .ref (R 31), .ref (R 32), .ref (R 33), .ref (R 34), .ref (R 35), .ref (R 36), .ref (R 37), .ref (R 38), .ref (R 39), .ref (R 40), .ref (R 41), .int 0])), ((R 0), .inl ((C 0), 7, .inl (fun _ => 0)))]) [0, 1] rfl
              have hDc := hD.sub (ws' := [(h0, .inr (5, [.ref (R 0), .int 0, .int 0, .int 0, .int 0, .int 3, .int 20, .int 0, .int 0, .int 0, .int 0, .ref (R 11), .ref (R 12), .ref (R 13), .ref (R 14), .ref (R 15), .ref (R 16), .ref (R 17), .ref (R 18), .ref (R 19), .ref (R 20), .ref (R 21), .ref (R 22), .ref (R 23), .ref (R 24), .ref (R 25), .ref (R 26), .ref (R 27), .ref (R 28), .ref (R 29), .ref (R 30), .ref (R 31), .ref (R 32), .ref (R 33), .ref (R 34), .ref (R 35), .ref (R 36), .ref (R 37), .ref (R 38), .ref (R 39), .ref (R 40), .ref (R 41), .int 0])), ((R 0), .inl ((C 0), 7, .inl (fun _ => 0)))]) [0, 1] (by decide) rfl
              have hKc := hK.sub (tys' := [((C 0), .int)]) [0] rfl
              have hFc := va_free (wc := [(h0, .inr (5, [.ref (R 0), .int 0, .int 0, .int 0, .int 0, .int 3, .int 20, .int 0, .int 0, .int 0, .int 0, .ref (R 11), .ref (R 12), .ref (R 13), .ref (R 14), .ref (R 15), .ref (R 16), .ref (R 17), .ref (R 18), .ref (R 19), .ref (R 20), .ref (R 21), .ref (R 22), .ref (R 23), .ref (R 24), .ref (R 25), .ref (R 26), .ref (R 27), .ref (R 28), .ref (R 29), .ref (R 30), .ref (R 31), .ref (R 32), .ref (R 33), .ref (R 34), .ref (R 35), .ref (R 36), .ref (R 37), .ref (R 38), .ref (R 39), .ref (R 40), .ref (R 41), .int 0])), ((R 0), .inl ((C 0), 7, .inl (fun _ => 0)))]) hD hS hA [0, 1] rfl
              refine va_calli (va_runV (As := [.int (-6)]) (rest := []) ⟨hx, hb, hml, hown, hts⟩ (k_X4_refuse6 l dC dI h0 R C s.heap.size) (cwV 1 hts gX4_call_X4_refuse rfl rfl rfl (by decide +kernel) ⟨Nat.le_of_ble_eq_true rfl, Nat.le_of_ble_eq_true rfl⟩) ⟨pz_blind, va_recv hKc hPc (ci := 5) (q0 := 0) rfl rfl, fun U hU hW => ⟨rfl, pz_at hPc hKc hDc hU hW⟩⟩ rfl rfl hl.1 rfl (lv_room (Nat.le_of_ble_eq_true rfl)) dX4_call_51 ⟨Nat.le_of_ble_eq_true rfl, Nat.le_of_ble_eq_true rfl⟩) hS (fun q _ h => hFc q h) hFc (fun r_11 u t H locs ht hvm hw hB hz1 hk1 hS => ?_)
              obtain ⟨hP, hD⟩ := va_join (wr := [((R 27), .inl ((C 27), 200, .inl (fun _ => 0))), ((R 28), .inl ((C 28), 200, .inl (fun _ => 0))), ((R 29), .inl ((C 29), 200, .inl (fun _ => 0))), ((R 36), .inl ((C 36), 200, .inl (fun _ => 0))), ((R 33), .inl ((C 33), 200, .inl (fun _ => 0))), ((R 34), .inl ((C 34), 200, .inl (fun _ => 0))), ((R 35), .inl ((C 35), 200, .inl (fun _ => 0))), ((R 32), .inl ((C 32), 200, .inl (fun _ => 0)))]) (w1 := []) hP hD [0, 1] [2, 3, 4, 5, 6, 7, 8, 9] rfl rfl (by decide) (by decide) hk1 hFc pz_nilP pz_nilD
              have hP : va_P (dC, dI) vwCl [((R 27), .inl ((C 27), 200, .inl (fun _ => 0))), ((R 28), .inl ((C 28), 200, .inl (fun _ => 0))), ((R 29), .inl ((C 29), 200, .inl (fun _ => 0))), ((R 36), .inl ((C 36), 200, .inl (fun _ => 0))), ((R 33), .inl ((C 33), 200, .inl (fun _ => 0))), ((R 34), .inl ((C 34), 200, .inl (fun _ => 0))), ((R 35), .inl ((C 35), 200, .inl (fun _ => 0))), ((R 32), .inl ((C 32), 200, .inl (fun _ => 0)))] H := hP
              have hD : va_D A [((R 27), .inl ((C 27), 200, .inl (fun _ => 0))), ((R 28), .inl ((C 28), 200, .inl (fun _ => 0))), ((R 29), .inl ((C 29), 200, .inl (fun _ => 0))), ((R 36), .inl ((C 36), 200, .inl (fun _ => 0))), ((R 33), .inl ((C 33), 200, .inl (fun _ => 0))), ((R 34), .inl ((C 34), 200, .inl (fun _ => 0))), ((R 35), .inl ((C 35), 200, .inl (fun _ => 0))), ((R 32), .inl ((C 32), 200, .inl (fun _ => 0)))] := hD
              have hw : r_11 = (-6) := hw
              subst hw
              exact W.iret (v := (-6)) hx hb hr (fun t ht hW => ⟨⟨(-6), (), rfl, (by unfold ex_call; (repeat' split) <;> first | rfl | omega), trivial⟩, hS.F ht⟩) hS.2.2 dX4_call_54
            · skip
              have i_10 : a3.toInt ≤ 2000 := by have h9 := pz_ngt c_10; exact h9
              refine lv_aload_n hx hb dX4_call_38 rfl (lv_at hl 0 rfl) ?_
              refine va_get (D := (dC, dI)) (ci := 5) (v := .int 0) (C := RX4) (T := TX4) (N := 43) hx hb hts (fun _ h => List.mem_cons_of_mem _ (List.mem_append_right _ h)) hown hK hP 0 rfl rfl 3 (by decide) (hts (.fieldLink RX4 121 "FrontDoorModel" "calls" "I") (by decide +kernel)) (fun _ h9 => h9) rfl dX4_call_39 ?_
              refine lv_sipush (v := 200) hx hb dX4_call_42 (by decide) ?_
              refine lv_icmp_ne (tgt := 55) hx hb dX4_call_45 (by decide) (fun c_12 => ?_) (fun c_12 => absurd c_12 (by decide))
              refine lv_aload_n hx hb dX4_call_55 rfl (lv_at hl 0 rfl) ?_
              refine va_get (D := (dC, dI)) (ci := 5) (v := .int 0) (C := RX4) (T := TX4) (N := 43) hx hb hts (fun _ h => List.mem_cons_of_mem _ (List.mem_append_right _ h)) hown hK hP 0 rfl rfl 3 (by decide) (hts (.fieldLink RX4 121 "FrontDoorModel" "calls" "I") (by decide +kernel)) (fun _ h9 => h9) rfl dX4_call_56 ?_
              refine lv_istore (lv' := [(5, .int 0), (0, .ref h0), (1, .int a1), (2, .int a2), (3, .int a3), (4, .int sf)]) hx hb dX4_call_59 hl (by decide) rfl (fun ls hl => ?_)
              refine lv_aload_n hx hb dX4_call_61 rfl (lv_at hl 1 rfl) ?_
              refine lv_dup hx hb dX4_call_62 rfl ?_
              refine va_get (D := (dC, dI)) (ci := 5) (v := .int 0) (C := RX4) (T := TX4) (N := 43) hx hb hts (fun _ h => List.mem_cons_of_mem _ (List.mem_append_right _ h)) hown hK hP 0 rfl rfl 3 (by decide) (hts (.fieldLink RX4 121 "FrontDoorModel" "calls" "I") (by decide +kernel)) (fun _ h9 => h9) rfl dX4_call_63 ?_
              refine lv_iconst (v := 1) hx hb dX4_call_66 (by decide) ?_
              refine lv_iadd hx hb dX4_call_67 ?_
              refine lv_topi (fun x_13 ex_13 => ?_)
              obtain rfl : x_13 = 1 := ex_13.trans (by decide)
              refine va_put (D := (dC, dI)) (ci := 5) (v := .int 1) (ty := .int) (C := RX4) (T := TX4) (N := 43) hx hb hts (fun _ h => List.mem_cons_of_mem _ (List.mem_append_right _ h)) tyX4 tyX4_ok nmX4 hown hK hP hD hS 0 rfl rfl 3 (by decide) (hts (.fieldLink RX4 121 "FrontDoorModel" "calls" "I") (by decide +kernel)) (fun _ h9 => h9) rfl (by decide +kernel) rfl rfl (Nat.le_of_ble_eq_true rfl) dX4_call_68 (fun H locs hP hD hS => ?_)
              have hP : va_P (dC, dI) vwCl [(h0, .inr (5, [.ref (R 0), .int 0, .int 0, .int 1, .int 0, .int 3, .int 20, .int 0, .int 0, .int 0, .int 0, .ref (R 11), .ref (R 12), .ref (R 13), .ref (R 14), .ref (R 15), .ref (R 16), .ref (R 17), .ref (R 18), .ref (R 19), .ref (R 20), .ref (R 21), .ref (R 22), .ref (R 23), .ref (R 24), .ref (R 25), .ref (R 26), .ref (R 27), .ref (R 28), .ref (R 29), .ref (R 30), .ref (R 31), .ref (R 32), .ref (R 33), .ref (R 34), .ref (R 35), .ref (R 36), .ref (R 37), .ref (R 38), .ref (R 39), .ref (R 40), .ref (R 41), .int 0])), ((R 0), .inl ((C 0), 7, .inl (fun _ => 0))), ((R 27), .inl ((C 27), 200, .inl (fun _ => 0))), ((R 28), .inl ((C 28), 200, .inl (fun _ => 0))), ((R 29), .inl ((C 29), 200, .inl (fun _ => 0))), ((R 36), .inl ((C 36), 200, .inl (fun _ => 0))), ((R 33), .inl ((C 33), 200, .inl (fun _ => 0))), ((R 34), .inl ((C 34), 200, .inl (fun _ => 0))), ((R 35), .inl ((C 35), 200, .inl (fun _ => 0))), ((R 32), .inl ((C 32), 200, .inl (fun _ => 0)))] H := hP
              have hD : va_D A [(h0, .inr (5, [.ref (R 0), .int 0, .int 0, .int 1, .int 0, .int 3, .int 20, .int 0, .int 0, .int 0, .int 0, .ref (R 11), .ref (R 12), .ref (R 13), .ref (R 14), .ref (R 15), .ref (R 16), .ref (R 17), .ref (R 18), .ref (R 19), .ref (R 20), .ref (R 21), .ref (R 22), .ref (R 23), .ref (R 24), .ref (R 25), .ref (R 26), .ref (R 27), .ref (R 28), .ref (R 29), .ref (R 30), .ref (R 31), .ref (R 32), .ref (R 33), .ref (R 34), .ref (R 35), .ref (R 36), .ref (R 37), .ref (R 38), .ref (R 39), .ref (R 40), .ref (R 41), .int 0])), ((R 0), .inl ((C 0), 7, .inl (fun _ => 0))), ((R 27), .inl ((C 27), 200, .inl (fun _ => 0))), ((R 28), .inl ((C 28), 200, .inl (fun _ => 0))), ((R 29), .inl ((C 29), 200, .inl (fun _ => 0))), ((R 36), .inl ((C 36), 200, .inl (fun _ => 0))), ((R 33), .inl ((C 33), 200, .inl (fun _ => 0))), ((R 34), .inl ((C 34), 200, .inl (fun _ => 0))), ((R 35), .inl ((C 35), 200, .inl (fun _ => 0))), ((R 32), .inl ((C 32), 200, .inl (fun _ => 0)))] := hD
              refine lv_aload_n hx hb dX4_call_71 rfl (lv_at hl 1 rfl) ?_
              refine va_get (D := (dC, dI)) (ci := 5) (v := .ref (R 27)) (C := RX4) (T := TX4) (N := 43) hx hb hts (fun _ h => List.mem_cons_of_mem _ (List.mem_append_right _ h)) hown hK hP 0 rfl rfl 27 (by decide) (hts (.fieldLink RX4 68 "FrontDoorModel" "key" "[I") (by decide +kernel)) (fun _ h9 => h9) rfl dX4_call_72 ?_
              refine lv_iload hx hb dX4_call_75 (lv_at hl 0 rfl) ?_
              refine lv_iload_n hx hb dX4_call_77 rfl (lv_at hl 2 rfl) ?_
              refine va_iast hx hb hK hP hD hS 2 1 rfl rfl (by unfold vp_in; decide) dX4_call_78 (fun H locs hP hD hS => ?_)
              have hP : va_P (dC, dI) vwCl [(h0, .inr (5, [.ref (R 0), .int 0, .int 0, .int 1, .int 0, .int 3, .int 20, .int 0, .int 0, .int 0, .int 0, .ref (R 11), .ref (R 12), .ref (R 13), .ref (R 14), .ref (R 15), .ref (R 16), .ref (R 17), .ref (R 18), .ref (R 19), .ref (R 20), .ref (R 21), .ref (R 22), .ref (R 23), .ref (R 24), .ref (R 25), .ref (R 26), .ref (R 27), .ref (R 28), .ref (R 29), .ref (R 30), .ref (R 31), .ref (R 32), .ref (R 33), .ref (R 34), .ref (R 35), .ref (R 36), .ref (R 37), .ref (R 38), .ref (R 39), .ref (R 40), .ref (R 41), .int 0])), ((R 0), .inl ((C 0), 7, .inl (fun _ => 0))), ((R 27), .inl ((C 27), 200, .inl (upd (fun _ => 0) (Int32.toNatClampNeg 0) a1))), ((R 28), .inl ((C 28), 200, .inl (fun _ => 0))), ((R 29), .inl ((C 29), 200, .inl (fun _ => 0))), ((R 36), .inl ((C 36), 200, .inl (fun _ => 0))), ((R 33), .inl ((C 33), 200, .inl (fun _ => 0))), ((R 34), .inl ((C 34), 200, .inl (fun _ => 0))), ((R 35), .inl ((C 35), 200, .inl (fun _ => 0))), ((R 32), .inl ((C 32), 200, .inl (fun _ => 0)))] H := hP
              have hD : va_D A [(h0, .inr (5, [.ref (R 0), .int 0, .int 0, .int 1, .int 0, .int 3, .int 20, .int 0, .int 0, .int 0, .int 0, .ref (R 11), .ref (R 12), .ref (R 13), .ref (R 14), .ref (R 15), .ref (R 16), .ref (R 17), .ref (R 18), .ref (R 19), .ref (R 20), .ref (R 21), .ref (R 22), .ref (R 23), .ref (R 24), .ref (R 25), .ref (R 26), .ref (R 27), .ref (R 28), .ref (R 29), .ref (R 30), .ref (R 31), .ref (R 32), .ref (R 33), .ref (R 34), .ref (R 35), .ref (R 36), .ref (R 37), .ref (R 38), .ref (R 39), .ref (R 40), .ref (R 41), .int 0])), ((R 0), .inl ((C 0), 7, .inl (fun _ => 0))), ((R 27), .inl ((C 27), 200, .inl (upd (fun _ => 0) (Int32.toNatClampNeg 0) a1))), ((R 28), .inl ((C 28), 200, .inl (fun _ => 0))), ((R 29), .inl ((C 29), 200, .inl (fun _ => 0))), ((R 36), .inl ((C 36), 200, .inl (fun _ => 0))), ((R 33), .inl ((C 33), 200, .inl (fun _ => 0))), ((R 34), .inl ((C 34), 200, .inl (fun _ => 0))), ((R 35), .inl ((C 35), 200, .inl (fun _ => 0))), ((R 32), .inl ((C 32), 200, .inl (fun _ => 0)))] := hD
              refine lv_aload_n hx hb dX4_call_79 rfl (lv_at hl 1 rfl) ?_
              refine va_get (D := (dC, dI)) (ci := 5) (v := .ref (R 28)) (C := RX4) (T := TX4) (N := 43) hx hb hts (fun _ h => List.mem_cons_of_mem _ (List.mem_append_right _ h)) hown hK hP 0 rfl rfl 28 (by decide) (hts (.fieldLink RX4 71 "FrontDoorModel" "grade" "[I") (by decide +kernel)) (fun _ h9 => h9) rfl dX4_call_80 ?_
              refine lv_iload hx hb dX4_call_83 (lv_at hl 0 rfl) ?_
              refine lv_iload_n hx hb dX4_call_85 rfl (lv_at hl 3 rfl) ?_
              refine va_iast hx hb hK hP hD hS 3 2 rfl rfl (by unfold vp_in; decide) dX4_call_86 (fun H locs hP hD hS => ?_)
              have hP : va_P (dC, dI) vwCl [(h0, .inr (5, [.ref (R 0), .int 0, .int 0, .int 1, .int 0, .int 3, .int 20, .int 0, .int 0, .int 0, .int 0, .ref (R 11), .ref (R 12), .ref (R 13), .ref (R 14), .ref (R 15), .ref (R 16), .ref (R 17), .ref (R 18), .ref (R 19), .ref (R 20), .ref (R 21), .ref (R 22), .ref (R 23), .ref (R 24), .ref (R 25), .ref (R 26), .ref (R 27), .ref (R 28), .ref (R 29), .ref (R 30), .ref (R 31), .ref (R 32), .ref (R 33), .ref (R 34), .ref (R 35), .ref (R 36), .ref (R 37), .ref (R 38), .ref (R 39), .ref (R 40), .ref (R 41), .int 0])), ((R 0), .inl ((C 0), 7, .inl (fun _ => 0))), ((R 27), .inl ((C 27), 200, .inl (upd (fun _ => 0) (Int32.toNatClampNeg 0) a1))), ((R 28), .inl ((C 28), 200, .inl (upd (fun _ => 0) (Int32.toNatClampNeg 0) a2))), ((R 29), .inl ((C 29), 200, .inl (fun _ => 0))), ((R 36), .inl ((C 36), 200, .inl (fun _ => 0))), ((R 33), .inl ((C 33), 200, .inl (fun _ => 0))), ((R 34), .inl ((C 34), 200, .inl (fun _ => 0))), ((R 35), .inl ((C 35), 200, .inl (fun _ => 0))), ((R 32), .inl ((C 32), 200, .inl (fun _ => 0)))] H := hP
              have hD : va_D A [(h0, .inr (5, [.ref (R 0), .int 0, .int 0, .int 1, .int 0, .int 3, .int 20, .int 0, .int 0, .int 0, .int 0, .ref (R 11), .ref (R 12), .ref (R 13), .ref (R 14), .ref (R 15), .ref (R 16), .ref (R 17), .ref (R 18), .ref (R 19), .ref (R 20), .ref (R 21), .ref (R 22), .ref (R 23), .ref (R 24), .ref (R 25), .ref (R 26), .ref (R 27), .ref (R 28), .ref (R 29), .ref (R 30), .ref (R 31), .ref (R 32), .ref (R 33), .ref (R 34), .ref (R 35), .ref (R 36), .ref (R 37), .ref (R 38), .ref (R 39), .ref (R 40), .ref (R 41), .int 0])), ((R 0), .inl ((C 0), 7, .inl (fun _ => 0))), ((R 27), .inl ((C 27), 200, .inl (upd (fun _ => 0) (Int32.toNatClampNeg 0) a1))), ((R 28), .inl ((C 28), 200, .inl (upd (fun _ => 0) (Int32.toNatClampNeg 0) a2))), ((R 29), .inl ((C 29), 200, .inl (fun _ => 0))), ((R 36), .inl ((C 36), 200, .inl (fun _ => 0))), ((R 33), .inl ((C 33), 200, .inl (fun _ => 0))), ((R 34), .inl ((C 34), 200, .inl (fun _ => 0))), ((R 35), .inl ((C 35), 200, .inl (fun _ => 0))), ((R 32), .inl ((C 32), 200, .inl (fun _ => 0)))] := hD
              refine lv_aload_n hx hb dX4_call_87 rfl (lv_at hl 1 rfl) ?_
              refine va_get (D := (dC, dI)) (ci := 5) (v := .ref (R 29)) (C := RX4) (T := TX4) (N := 43) hx hb hts (fun _ h => List.mem_cons_of_mem _ (List.mem_append_right _ h)) hown hK hP 0 rfl rfl 29 (by decide) (hts (.fieldLink RX4 74 "FrontDoorModel" "due" "[I") (by decide +kernel)) (fun _ h9 => h9) rfl dX4_call_88 ?_
              refine lv_iload hx hb dX4_call_91 (lv_at hl 0 rfl) ?_
              refine lv_aload_n hx hb dX4_call_93 rfl (lv_at hl 1 rfl) ?_
              refine va_get (D := (dC, dI)) (ci := 5) (v := .int 0) (C := RX4) (T := TX4) (N := 43) hx hb hts (fun _ h => List.mem_cons_of_mem _ (List.mem_append_right _ h)) hown hK hP 0 rfl rfl 1 (by decide) (hts (.fieldLink RX4 163 "FrontDoorModel" "tick" "I") (by decide +kernel)) (fun _ h9 => h9) rfl dX4_call_94 ?_
              refine lv_iload_n hx hb dX4_call_97 rfl (lv_at hl 4 rfl) ?_
              refine lv_iadd hx hb dX4_call_98 ?_
              refine lv_topi (fun x_14 ex_14 => ?_)
              refine va_iast hx hb hK hP hD hS 4 3 rfl rfl (by unfold vp_in; decide) dX4_call_99 (fun H locs hP hD hS => ?_)
              have hP : va_P (dC, dI) vwCl [(h0, .inr (5, [.ref (R 0), .int 0, .int 0, .int 1, .int 0, .int 3, .int 20, .int 0, .int 0, .int 0, .int 0, .ref (R 11), .ref (R 12), .ref (R 13), .ref (R 14), .ref (R 15), .ref (R 16), .ref (R 17), .ref (R 18), .ref (R 19), .ref (R 20), .ref (R 21), .ref (R 22), .ref (R 23), .ref (R 24), .ref (R 25), .ref (R 26), .ref (R 27), .ref (R 28), .ref (R 29), .ref (R 30), .ref (R 31), .ref (R 32), .ref (R 33), .ref (R 34), .ref (R 35), .ref (R 36), .ref (R 37), .ref (R 38), .ref (R 39), .ref (R 40), .ref (R 41), .int 0])), ((R 0), .inl ((C 0), 7, .inl (fun _ => 0))), ((R 27), .inl ((C 27), 200, .inl (upd (fun _ => 0) (Int32.toNatClampNeg 0) a1))), ((R 28), .inl ((C 28), 200, .inl (upd (fun _ => 0) (Int32.toNatClampNeg 0) a2))), ((R 29), .inl ((C 29), 200, .inl (upd (fun _ => 0) (Int32.toNatClampNeg 0) x_14))), ((R 36), .inl ((C 36), 200, .inl (fun _ => 0))), ((R 33), .inl ((C 33), 200, .inl (fun _ => 0))), ((R 34), .inl ((C 34), 200, .inl (fun _ => 0))), ((R 35), .inl ((C 35), 200, .inl (fun _ => 0))), ((R 32), .inl ((C 32), 200, .inl (fun _ => 0)))] H := hP
              have hD : va_D A [(h0, .inr (5, [.ref (R 0), .int 0, .int 0, .int 1, .int 0, .int 3, .int 20, .int 0, .int 0, .int 0, .int 0, .ref (R 11), .ref (R 12), .ref (R 13), .ref (R 14), .ref (R 15), .ref (R 16), .ref (R 17), .ref (R 18), .ref (R 19), .ref (R 20), .ref (R 21), .ref (R 22), .ref (R 23), .ref (R 24), .ref (R 25), .ref (R 26), .ref (R 27), .ref (R 28), .ref (R 29), .ref (R 30), .ref (R 31), .ref (R 32), .ref (R 33), .ref (R 34), .ref (R 35), .ref (R 36), .ref (R 37), .ref (R 38), .ref (R 39), .ref (R 40), .ref (R 41), .int 0])), ((R 0), .inl ((C 0), 7, .inl (fun _ => 0))), ((R 27), .inl ((C 27), 200, .inl (upd (fun _ => 0) (Int32.toNatClampNeg 0) a1))), ((R 28), .inl ((C 28), 200, .inl (upd (fun _ => 0) (Int32.toNatClampNeg 0) a2))), ((R 29), .inl ((C 29), 200, .inl (upd (fun _ => 0) (Int32.toNatClampNeg 0) x_14))), ((R 36), .inl ((C 36), 200, .inl (fun _ => 0))), ((R 33), .inl ((C 33), 200, .inl (fun _ => 0))), ((R 34), .inl ((C 34), 200, .inl (fun _ => 0))), ((R 35), .inl ((C 35), 200, .inl (fun _ => 0))), ((R 32), .inl ((C 32), 200, .inl (fun _ => 0)))] := hD
              refine lv_aload_n hx hb dX4_call_100 rfl (lv_at hl 1 rfl) ?_
              refine va_get (D := (dC, dI)) (ci := 5) (v := .ref (R 36)) (C := RX4) (T := TX4) (N := 43) hx hb hts (fun _ h => List.mem_cons_of_mem _ (List.mem_append_right _ h)) hown hK hP 0 rfl rfl 36 (by decide) (hts (.fieldLink RX4 95 "FrontDoorModel" "safe" "[Z") (by decide +kernel)) (fun _ h9 => h9) rfl dX4_call_101 ?_
              refine lv_iload hx hb dX4_call_104 (lv_at hl 0 rfl) ?_
              refine lv_iload hx hb dX4_call_106 (lv_at hl 5 rfl) ?_
              refine va_zast hx hb hK hP hD hS 5 4 rfl rfl (by unfold vp_in; decide) dX4_call_108 (fun H locs hP hD hS => ?_)
              have hP : va_P (dC, dI) vwCl [(h0, .inr (5, [.ref (R 0), .int 0, .int 0, .int 1, .int 0, .int 3, .int 20, .int 0, .int 0, .int 0, .int 0, .ref (R 11), .ref (R 12), .ref (R 13), .ref (R 14), .ref (R 15), .ref (R 16), .ref (R 17), .ref (R 18), .ref (R 19), .ref (R 20), .ref (R 21), .ref (R 22), .ref (R 23), .ref (R 24), .ref (R 25), .ref (R 26), .ref (R 27), .ref (R 28), .ref (R 29), .ref (R 30), .ref (R 31), .ref (R 32), .ref (R 33), .ref (R 34), .ref (R 35), .ref (R 36), .ref (R 37), .ref (R 38), .ref (R 39), .ref (R 40), .ref (R 41), .int 0])), ((R 0), .inl ((C 0), 7, .inl (fun _ => 0))), ((R 27), .inl ((C 27), 200, .inl (upd (fun _ => 0) (Int32.toNatClampNeg 0) a1))), ((R 28), .inl ((C 28), 200, .inl (upd (fun _ => 0) (Int32.toNatClampNeg 0) a2))), ((R 29), .inl ((C 29), 200, .inl (upd (fun _ => 0) (Int32.toNatClampNeg 0) x_14))), ((R 36), .inl ((C 36), 200, .inl (upd (fun _ => 0) (Int32.toNatClampNeg 0) (vp_nar .boolean sf)))), ((R 33), .inl ((C 33), 200, .inl (fun _ => 0))), ((R 34), .inl ((C 34), 200, .inl (fun _ => 0))), ((R 35), .inl ((C 35), 200, .inl (fun _ => 0))), ((R 32), .inl ((C 32), 200, .inl (fun _ => 0)))] H := hP
              have hD : va_D A [(h0, .inr (5, [.ref (R 0), .int 0, .int 0, .int 1, .int 0, .int 3, .int 20, .int 0, .int 0, .int 0, .int 0, .ref (R 11), .ref (R 12), .ref (R 13), .ref (R 14), .ref (R 15), .ref (R 16), .ref (R 17), .ref (R 18), .ref (R 19), .ref (R 20), .ref (R 21), .ref (R 22), .ref (R 23), .ref (R 24), .ref (R 25), .ref (R 26), .ref (R 27), .ref (R 28), .ref (R 29), .ref (R 30), .ref (R 31), .ref (R 32), .ref (R 33), .ref (R 34), .ref (R 35), .ref (R 36), .ref (R 37), .ref (R 38), .ref (R 39), .ref (R 40), .ref (R 41), .int 0])), ((R 0), .inl ((C 0), 7, .inl (fun _ => 0))), ((R 27), .inl ((C 27), 200, .inl (upd (fun _ => 0) (Int32.toNatClampNeg 0) a1))), ((R 28), .inl ((C 28), 200, .inl (upd (fun _ => 0) (Int32.toNatClampNeg 0) a2))), ((R 29), .inl ((C 29), 200, .inl (upd (fun _ => 0) (Int32.toNatClampNeg 0) x_14))), ((R 36), .inl ((C 36), 200, .inl (upd (fun _ => 0) (Int32.toNatClampNeg 0) (vp_nar .boolean sf)))), ((R 33), .inl ((C 33), 200, .inl (fun _ => 0))), ((R 34), .inl ((C 34), 200, .inl (fun _ => 0))), ((R 35), .inl ((C 35), 200, .inl (fun _ => 0))), ((R 32), .inl ((C 32), 200, .inl (fun _ => 0)))] := hD
              refine lv_aload_n hx hb dX4_call_109 rfl (lv_at hl 1 rfl) ?_
              refine va_get (D := (dC, dI)) (ci := 5) (v := .ref (R 33)) (C := RX4) (T := TX4) (N := 43) hx hb hts (fun _ h => List.mem_cons_of_mem _ (List.mem_append_right _ h)) hown hK hP 0 rfl rfl 33 (by decide) (hts (.fieldLink RX4 86 "FrontDoorModel" "came" "[I") (by decide +kernel)) (fun _ h9 => h9) rfl dX4_call_110 ?_
              refine lv_iload hx hb dX4_call_113 (lv_at hl 0 rfl) ?_
              refine lv_aload_n hx hb dX4_call_115 rfl (lv_at hl 1 rfl) ?_
              refine va_get (D := (dC, dI)) (ci := 5) (v := .int 0) (C := RX4) (T := TX4) (N := 43) hx hb hts (fun _ h => List.mem_cons_of_mem _ (List.mem_append_right _ h)) hown hK hP 0 rfl rfl 1 (by decide) (hts (.fieldLink RX4 163 "FrontDoorModel" "tick" "I") (by decide +kernel)) (fun _ h9 => h9) rfl dX4_call_116 ?_
              refine va_iast hx hb hK hP hD hS 6 5 rfl rfl (by unfold vp_in; decide) dX4_call_119 (fun H locs hP hD hS => ?_)
              have hP : va_P (dC, dI) vwCl [(h0, .inr (5, [.ref (R 0), .int 0, .int 0, .int 1, .int 0, .int 3, .int 20, .int 0, .int 0, .int 0, .int 0, .ref (R 11), .ref (R 12), .ref (R 13), .ref (R 14), .ref (R 15), .ref (R 16), .ref (R 17), .ref (R 18), .ref (R 19), .ref (R 20), .ref (R 21), .ref (R 22), .ref (R 23), .ref (R 24), .ref (R 25), .ref (R 26), .ref (R 27), .ref (R 28), .ref (R 29), .ref (R 30), .ref (R 31), .ref (R 32), .ref (R 33), .ref (R 34), .ref (R 35), .ref (R 36), .ref (R 37), .ref (R 38), .ref (R 39), .ref (R 40), .ref (R 41), .int 0])), ((R 0), .inl ((C 0), 7, .inl (fun _ => 0))), ((R 27), .inl ((C 27), 200, .inl (upd (fun _ => 0) (Int32.toNatClampNeg 0) a1))), ((R 28), .inl ((C 28), 200, .inl (upd (fun _ => 0) (Int32.toNatClampNeg 0) a2))), ((R 29), .inl ((C 29), 200, .inl (upd (fun _ => 0) (Int32.toNatClampNeg 0) x_14))), ((R 36), .inl ((C 36), 200, .inl (upd (fun _ => 0) (Int32.toNatClampNeg 0) (vp_nar .boolean sf)))), ((R 33), .inl ((C 33), 200, .inl (upd (fun _ => 0) (Int32.toNatClampNeg 0) 0))), ((R 34), .inl ((C 34), 200, .inl (fun _ => 0))), ((R 35), .inl ((C 35), 200, .inl (fun _ => 0))), ((R 32), .inl ((C 32), 200, .inl (fun _ => 0)))] H := hP
              have hD : va_D A [(h0, .inr (5, [.ref (R 0), .int 0, .int 0, .int 1, .int 0, .int 3, .int 20, .int 0, .int 0, .int 0, .int 0, .ref (R 11), .ref (R 12), .ref (R 13), .ref (R 14), .ref (R 15), .ref (R 16), .ref (R 17), .ref (R 18), .ref (R 19), .ref (R 20), .ref (R 21), .ref (R 22), .ref (R 23), .ref (R 24), .ref (R 25), .ref (R 26), .ref (R 27), .ref (R 28), .ref (R 29), .ref (R 30), .ref (R 31), .ref (R 32), .ref (R 33), .ref (R 34), .ref (R 35), .ref (R 36), .ref (R 37), .ref (R 38), .ref (R 39), .ref (R 40), .ref (R 41), .int 0])), ((R 0), .inl ((C 0), 7, .inl (fun _ => 0))), ((R 27), .inl ((C 27), 200, .inl (upd (fun _ => 0) (Int32.toNatClampNeg 0) a1))), ((R 28), .inl ((C 28), 200, .inl (upd (fun _ => 0) (Int32.toNatClampNeg 0) a2))), ((R 29), .inl ((C 29), 200, .inl (upd (fun _ => 0) (Int32.toNatClampNeg 0) x_14))), ((R 36), .inl ((C 36), 200, .inl (upd (fun _ => 0) (Int32.toNatClampNeg 0) (vp_nar .boolean sf)))), ((R 33), .inl ((C 33), 200, .inl (upd (fun _ => 0) (Int32.toNatClampNeg 0) 0))), ((R 34), .inl ((C 34), 200, .inl (fun _ => 0))), ((R 35), .inl ((C 35), 200, .inl (fun _ => 0))), ((R 32), .inl ((C 32), 200, .inl (fun _ => 0)))] := hD
              refine lv_aload_n hx hb dX4_call_120 rfl (lv_at hl 1 rfl) ?_
              refine va_get (D := (dC, dI)) (ci := 5) (v := .ref (R 34)) (C := RX4) (T := TX4) (N := 43) hx hb hts (fun _ h => List.mem_cons_of_mem _ (List.mem_append_right _ h)) hown hK hP 0 rfl rfl 34 (by decide) (hts (.fieldLink RX4 89 "FrontDoorModel" "ended" "[I") (by decide +kernel)) (fun _ h9 => h9) rfl dX4_call_121 ?_
              refine lv_iload hx hb dX4_call_124 (lv_at hl 0 rfl) ?_
              refine lv_bipush (v := (-9)) hx hb dX4_call_126 (by decide) ?_
              refine va_iast hx hb hK hP hD hS 7 6 rfl rfl (by unfold vp_in; decide) dX4_call_128 (fun H locs hP hD hS => ?_)
              have hP : va_P (dC, dI) vwCl [(h0, .inr (5, [.ref (R 0), .int 0, .int 0, .int 1, .int 0, .int 3, .int 20, .int 0, .int 0, .int 0, .int 0, .ref (R 11), .ref (R 12), .ref (R 13), .ref (R 14), .ref (R 15), .ref (R 16), .ref (R 17), .ref (R 18), .ref (R 19), .ref (R 20), .ref (R 21), .ref (R 22), .ref (R 23), .ref (R 24), .ref (R 25), .ref (R 26), .ref (R 27), .ref (R 28), .ref (R 29), .ref (R 30), .ref (R 31), .ref (R 32), .ref (R 33), .ref (R 34), .ref (R 35), .ref (R 36), .ref (R 37), .ref (R 38), .ref (R 39), .ref (R 40), .ref (R 41), .int 0])), ((R 0), .inl ((C 0), 7, .inl (fun _ => 0))), ((R 27), .inl ((C 27), 200, .inl (upd (fun _ => 0) (Int32.toNatClampNeg 0) a1))), ((R 28), .inl ((C 28), 200, .inl (upd (fun _ => 0) (Int32.toNatClampNeg 0) a2))), ((R 29), .inl ((C 29), 200, .inl (upd (fun _ => 0) (Int32.toNatClampNeg 0) x_14))), ((R 36), .inl ((C 36), 200, .inl (upd (fun _ => 0) (Int32.toNatClampNeg 0) (vp_nar .boolean sf)))), ((R 33), .inl ((C 33), 200, .inl (upd (fun _ => 0) (Int32.toNatClampNeg 0) 0))), ((R 34), .inl ((C 34), 200, .inl (upd (fun _ => 0) (Int32.toNatClampNeg 0) (-9)))), ((R 35), .inl ((C 35), 200, .inl (fun _ => 0))), ((R 32), .inl ((C 32), 200, .inl (fun _ => 0)))] H := hP
              have hD : va_D A [(h0, .inr (5, [.ref (R 0), .int 0, .int 0, .int 1, .int 0, .int 3, .int 20, .int 0, .int 0, .int 0, .int 0, .ref (R 11), .ref (R 12), .ref (R 13), .ref (R 14), .ref (R 15), .ref (R 16), .ref (R 17), .ref (R 18), .ref (R 19), .ref (R 20), .ref (R 21), .ref (R 22), .ref (R 23), .ref (R 24), .ref (R 25), .ref (R 26), .ref (R 27), .ref (R 28), .ref (R 29), .ref (R 30), .ref (R 31), .ref (R 32), .ref (R 33), .ref (R 34), .ref (R 35), .ref (R 36), .ref (R 37), .ref (R 38), .ref (R 39), .ref (R 40), .ref (R 41), .int 0])), ((R 0), .inl ((C 0), 7, .inl (fun _ => 0))), ((R 27), .inl ((C 27), 200, .inl (upd (fun _ => 0) (Int32.toNatClampNeg 0) a1))), ((R 28), .inl ((C 28), 200, .inl (upd (fun _ => 0) (Int32.toNatClampNeg 0) a2))), ((R 29), .inl ((C 29), 200, .inl (upd (fun _ => 0) (Int32.toNatClampNeg 0) x_14))), ((R 36), .inl ((C 36), 200, .inl (upd (fun _ => 0) (Int32.toNatClampNeg 0) (vp_nar .boolean sf)))), ((R 33), .inl ((C 33), 200, .inl (upd (fun _ => 0) (Int32.toNatClampNeg 0) 0))), ((R 34), .inl ((C 34), 200, .inl (upd (fun _ => 0) (Int32.toNatClampNeg 0) (-9)))), ((R 35), .inl ((C 35), 200, .inl (fun _ => 0))), ((R 32), .inl ((C 32), 200, .inl (fun _ => 0)))] := hD
              refine lv_aload_n hx hb dX4_call_129 rfl (lv_at hl 1 rfl) ?_
              refine va_get (D := (dC, dI)) (ci := 5) (v := .ref (R 35)) (C := RX4) (T := TX4) (N := 43) hx hb hts (fun _ h => List.mem_cons_of_mem _ (List.mem_append_right _ h)) hown hK hP 0 rfl rfl 35 (by decide) (hts (.fieldLink RX4 92 "FrontDoorModel" "by" "[I") (by decide +kernel)) (fun _ h9 => h9) rfl dX4_call_130 ?_
              refine lv_iload hx hb dX4_call_133 (lv_at hl 0 rfl) ?_
              refine lv_bipush (v := (-9)) hx hb dX4_call_135 (by decide) ?_
              refine va_iast hx hb hK hP hD hS 8 7 rfl rfl (by unfold vp_in; decide) dX4_call_137 (fun H locs hP hD hS => ?_)
              have hP : va_P (dC, dI) vwCl [(h0, .inr (5, [.ref (R 0), .int 0, .int 0, .int 1, .int 0, .int 3, .int 20, .int 0, .int 0, .int 0, .int 0, .ref (R 11), .ref (R 12), .ref (R 13), .ref (R 14), .ref (R 15), .ref (R 16), .ref (R 17), .ref (R 18), .ref (R 19), .ref (R 20), .ref (R 21), .ref (R 22), .ref (R 23), .ref (R 24), .ref (R 25), .ref (R 26), .ref (R 27), .ref (R 28), .ref (R 29), .ref (R 30), .ref (R 31), .ref (R 32), .ref (R 33), .ref (R 34), .ref (R 35), .ref (R 36), .ref (R 37), .ref (R 38), .ref (R 39), .ref (R 40), .ref (R 41), .int 0])), ((R 0), .inl ((C 0), 7, .inl (fun _ => 0))), ((R 27), .inl ((C 27), 200, .inl (upd (fun _ => 0) (Int32.toNatClampNeg 0) a1))), ((R 28), .inl ((C 28), 200, .inl (upd (fun _ => 0) (Int32.toNatClampNeg 0) a2))), ((R 29), .inl ((C 29), 200, .inl (upd (fun _ => 0) (Int32.toNatClampNeg 0) x_14))), ((R 36), .inl ((C 36), 200, .inl (upd (fun _ => 0) (Int32.toNatClampNeg 0) (vp_nar .boolean sf)))), ((R 33), .inl ((C 33), 200, .inl (upd (fun _ => 0) (Int32.toNatClampNeg 0) 0))), ((R 34), .inl ((C 34), 200, .inl (upd (fun _ => 0) (Int32.toNatClampNeg 0) (-9)))), ((R 35), .inl ((C 35), 200, .inl (upd (fun _ => 0) (Int32.toNatClampNeg 0) (-9)))), ((R 32), .inl ((C 32), 200, .inl (fun _ => 0)))] H := hP
              have hD : va_D A [(h0, .inr (5, [.ref (R 0), .int 0, .int 0, .int 1, .int 0, .int 3, .int 20, .int 0, .int 0, .int 0, .int 0, .ref (R 11), .ref (R 12), .ref (R 13), .ref (R 14), .ref (R 15), .ref (R 16), .ref (R 17), .ref (R 18), .ref (R 19), .ref (R 20), .ref (R 21), .ref (R 22), .ref (R 23), .ref (R 24), .ref (R 25), .ref (R 26), .ref (R 27), .ref (R 28), .ref (R 29), .ref (R 30), .ref (R 31), .ref (R 32), .ref (R 33), .ref (R 34), .ref (R 35), .ref (R 36), .ref (R 37), .ref (R 38), .ref (R 39), .ref (R 40), .ref (R 41), .int 0])), ((R 0), .inl ((C 0), 7, .inl (fun _ => 0))), ((R 27), .inl ((C 27), 200, .inl (upd (fun _ => 0) (Int32.toNatClampNeg 0) a1))), ((R 28), .inl ((C 28), 200, .inl (upd (fun _ => 0) (Int32.toNatClampNeg 0) a2))), ((R 29), .inl ((C 29), 200, .inl (upd (fun _ => 0) (Int32.toNatClampNeg 0) x_14))), ((R 36), .inl ((C 36), 200, .inl (upd (fun _ => 0) (Int32.toNatClampNeg 0) (vp_nar .boolean sf)))), ((R 33), .inl ((C 33), 200, .inl (upd (fun _ => 0) (Int32.toNatClampNeg 0) 0))), ((R 34), .inl ((C 34), 200, .inl (upd (fun _ => 0) (Int32.toNatClampNeg 0) (-9)))), ((R 35), .inl ((C 35), 200, .inl (upd (fun _ => 0) (Int32.toNatClampNeg 0) (-9)))), ((R 32), .inl ((C 32), 200, .inl (fun _ => 0)))] := hD
              refine lv_aload_n hx hb dX4_call_138 rfl (lv_at hl 1 rfl) ?_
              refine lv_iload hx hb dX4_call_139 (lv_at hl 0 rfl) ?_
              have hPc := hP.sub (ws' := [(h0, .inr (5, [.ref (R 0), .int 0, .int 0, .int 1, .int 0, .int 3, .int 20, .int 0, .int 0, .int 0, .int 0, .ref (R 11), .ref (R 12), .ref (R 13), .ref (R 14), .ref (R 15), .ref (R 16), .ref (R 17), .ref (R 18), .ref (R 19), .ref (R 20), .ref (R 21), .ref (R 22), .ref (R 23), .ref (R 24), .ref (R 25), .ref (R 26), .ref (R 27), .ref (R 28), .ref (R 29), .ref (R 30), .ref (R 31), .ref (R 32), .ref (R 33), .ref (R 34), .ref (R 35), .ref (R 36), .ref (R 37), .ref (R 38), .ref (R 39), .ref (R 40), .ref (R 41), .int 0])), ((R 32), .inl ((C 32), 200, .inl (fun _ => 0)))]) [0, 9] rfl
              have hDc := hD.sub (ws' := [(h0, .inr (5, [.ref (R 0), .int 0, .int 0, .int 1, .int 0, .int 3, .int 20, .int 0, .int 0, .int 0, .int 0, .ref (R 11), .ref (R 12), .ref (R 13), .ref (R 14), .ref (R 15), .ref (R 16), .ref (R 17), .ref (R 18), .ref (R 19), .ref (R 20), .ref (R 21), .ref (R 22), .ref (R 23), .ref (R 24), .ref (R 25), .ref (R 26), .ref (R 27), .ref (R 28), .ref (R 29), .ref (R 30), .ref (R 31), .ref (R 32), .ref (R 33), .ref (R 34), .ref (R 35), .ref (R 36), .ref (R 37), .ref (R 38), .ref (R 39), .ref (R 40), .ref (R 41), .int 0])), ((R 32), .inl ((C 32), 200, .inl (fun _ => 0)))]) [0, 9] (by decide) rfl
              have hKc := hK.sub (tys' := [((C 32), .int)]) [8] rfl
              have hFc := pz_f hA hS
              refine va_calli (va_runV (As := [.int 0]) (rest := []) ⟨hx, hb, hml, hown, hts⟩ (k_X4_asksFor l dC dI h0 R C 0 1 H.size) (cwV 1 hts gX4_call_X4_asksFor rfl rfl rfl (by decide +kernel) ⟨Nat.le_of_ble_eq_true rfl, Nat.le_of_ble_eq_true rfl⟩) ⟨pz_blind, va_recv hKc hPc (ci := 5) (q0 := 0) rfl rfl, fun U hU hW => ⟨rfl, pz_at hPc hKc hDc hU hW⟩⟩ rfl rfl hl.1 rfl (lv_room (Nat.le_of_ble_eq_true rfl)) dX4_call_141 ⟨Nat.le_of_ble_eq_true rfl, Nat.le_of_ble_eq_true rfl⟩) hS (fun q _ h => hFc q h) hFc (fun r_15 u t H locs ht hvm hw hB hz1 hk1 hS => ?_)
              have hP := pz_keep hP hk1
              have hw : r_15 = 0 := hw
              subst hw
              refine lv_istore (lv' := [(6, .int 0), (5, .int 0), (0, .ref h0), (1, .int a1), (2, .int a2), (3, .int a3), (4, .int sf)]) hx hb dX4_call_144 hl (by decide) rfl (fun ls hl => ?_)
              refine lv_iload hx hb dX4_call_146 (lv_at hl 1 rfl) ?_
              exact W.iret (v := 0) hx hb hr (fun t ht hW => ⟨⟨0, (), rfl, (by unfold ex_call; (repeat' split) <;> first | rfl | omega), trivial⟩, hS.F ht⟩) hS.2.2 dX4_call_148
      · skip
        have i_5 : a3.toInt < 1 := by have h9 := pz_nge c_5; exact h9
        refine lv_aload_n hx hb dX4_call_13 rfl (lv_at hl 0 rfl) ?_
        refine lv_bipush (v := (-4)) hx hb dX4_call_14 (by decide) ?_
        have hPc := hP.sub (ws' := [(h0, .inr (5, [.ref (R 0), .int 0, .int 0, .int 0, .int 0, .int 3, .int 20, .int 0, .int 0, .int 0, .int 0, .ref (R 11), .ref (R 12), .ref (R 13), .ref (R 14), .ref (R 15), .ref (R 16), .ref (R 17), .ref (R 18), .ref (R 19), .ref (R 20), .ref (R 21), .ref (R 22), .ref (R 23), .ref (R 24), .ref (R 25), .ref (R 26), .ref (R 27), .ref (R 28), .ref (R 29), .ref (R 30), .ref (R 31), .ref (R 32), .ref (R 33), .ref (R 34), .ref (R 35), .ref (R 36), .ref (R 37), .ref (R 38), .ref (R 39), .ref (R 40), .ref (R 41), .int 0])), ((R 0), .inl ((C 0), 7, .inl (fun _ => 0)))]) [0, 1] rfl
        have hDc := hD.sub (ws' := [(h0, .inr (5, [.ref (R 0), .int 0, .int 0, .int 0, .int 0, .int 3, .int 20, .int 0, .int 0, .int 0, .int 0, .ref (R 11), .ref (R 12), .ref (R 13), .ref (R 14), .ref (R 15), .ref (R 16), .ref (R 17), .ref (R 18), .ref (R 19), .ref (R 20), .ref (R 21), .ref (R 22), .ref (R 23), .ref (R 24), .ref (R 25), .ref (R 26), .ref (R 27), .ref (R 28), .ref (R 29), .ref (R 30), .ref (R 31), .ref (R 32), .ref (R 33), .ref (R 34), .ref (R 35), .ref (R 36), .ref (R 37), .ref (R 38), .ref (R 39), .ref (R 40), .ref (R 41), .int 0])), ((R 0), .inl ((C 0), 7, .inl (fun _ => 0)))]) [0, 1] (by decide) rfl
        have hKc := hK.sub (tys' := [((C 0), .int)]) [0] rfl
        have hFc := va_free (wc := [(h0, .inr (5, [.ref (R 0), .int 0, .int 0, .int 0, .int 0, .int 3, .int 20, .int 0, .int 0, .int 0, .int 0, .ref (R 11), .ref (R 12), .ref (R 13), .ref (R 14), .ref (R 15), .ref (R 16), .ref (R 17), .ref (R 18), .ref (R 19), .ref (R 20), .ref (R 21), .ref (R 22), .ref (R 23), .ref (R 24), .ref (R 25), .ref (R 26), .ref (R 27), .ref (R 28), .ref (R 29), .ref (R 30), .ref (R 31), .ref (R 32), .ref (R 33), .ref (R 34), .ref (R 35), .ref (R 36), .ref (R 37), .ref (R 38), .ref (R 39), .ref (R 40), .ref (R 41), .int 0])), ((R 0), .inl ((C 0), 7, .inl (fun _ => 0)))]) hD hS hA [0, 1] rfl
        refine va_calli (va_runV (As := [.int (-4)]) (rest := []) ⟨hx, hb, hml, hown, hts⟩ (k_X4_refuse4 l dC dI h0 R C s.heap.size) (cwV 1 hts gX4_call_X4_refuse rfl rfl rfl (by decide +kernel) ⟨Nat.le_of_ble_eq_true rfl, Nat.le_of_ble_eq_true rfl⟩) ⟨pz_blind, va_recv hKc hPc (ci := 5) (q0 := 0) rfl rfl, fun U hU hW => ⟨rfl, pz_at hPc hKc hDc hU hW⟩⟩ rfl rfl hl.1 rfl (lv_room (Nat.le_of_ble_eq_true rfl)) dX4_call_16 ⟨Nat.le_of_ble_eq_true rfl, Nat.le_of_ble_eq_true rfl⟩) hS (fun q _ h => hFc q h) hFc (fun r_16 u t H locs ht hvm hw hB hz1 hk1 hS => ?_)
        obtain ⟨hP, hD⟩ := va_join (wr := [((R 27), .inl ((C 27), 200, .inl (fun _ => 0))), ((R 28), .inl ((C 28), 200, .inl (fun _ => 0))), ((R 29), .inl ((C 29), 200, .inl (fun _ => 0))), ((R 36), .inl ((C 36), 200, .inl (fun _ => 0))), ((R 33), .inl ((C 33), 200, .inl (fun _ => 0))), ((R 34), .inl ((C 34), 200, .inl (fun _ => 0))), ((R 35), .inl ((C 35), 200, .inl (fun _ => 0))), ((R 32), .inl ((C 32), 200, .inl (fun _ => 0)))]) (w1 := []) hP hD [0, 1] [2, 3, 4, 5, 6, 7, 8, 9] rfl rfl (by decide) (by decide) hk1 hFc pz_nilP pz_nilD
        have hP : va_P (dC, dI) vwCl [((R 27), .inl ((C 27), 200, .inl (fun _ => 0))), ((R 28), .inl ((C 28), 200, .inl (fun _ => 0))), ((R 29), .inl ((C 29), 200, .inl (fun _ => 0))), ((R 36), .inl ((C 36), 200, .inl (fun _ => 0))), ((R 33), .inl ((C 33), 200, .inl (fun _ => 0))), ((R 34), .inl ((C 34), 200, .inl (fun _ => 0))), ((R 35), .inl ((C 35), 200, .inl (fun _ => 0))), ((R 32), .inl ((C 32), 200, .inl (fun _ => 0)))] H := hP
        have hD : va_D A [((R 27), .inl ((C 27), 200, .inl (fun _ => 0))), ((R 28), .inl ((C 28), 200, .inl (fun _ => 0))), ((R 29), .inl ((C 29), 200, .inl (fun _ => 0))), ((R 36), .inl ((C 36), 200, .inl (fun _ => 0))), ((R 33), .inl ((C 33), 200, .inl (fun _ => 0))), ((R 34), .inl ((C 34), 200, .inl (fun _ => 0))), ((R 35), .inl ((C 35), 200, .inl (fun _ => 0))), ((R 32), .inl ((C 32), 200, .inl (fun _ => 0)))] := hD
        have hw : r_16 = (-4) := hw
        subst hw
        exact W.iret (v := (-4)) hx hb hr (fun t ht hW => ⟨⟨(-4), (), rfl, (by unfold ex_call; (repeat' split) <;> first | rfl | omega), trivial⟩, hS.F ht⟩) hS.2.2 dX4_call_19
