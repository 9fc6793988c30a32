set_option maxHeartbeats 40000000 in
set_option maxRecDepth 100000 in
theorem k_X4_isIn (l : Launch) (dC : Nat → ClassId) (dI : Nat → Nat → Nat) (k0 : Int32) (n0 : Int32) (sz : Nat) : Met l yX4_isIn wsX4_isIn ({ frames := 0, cells := 0, slots := 0, locals := 0 }) (va_Pc [.int k0, .int n0] (pzPre (dC, dI) vwCl [] [] sz)) (va_Qi (fun (r : Int32) (_ : Unit) => (0 ≤ k0.toInt ∧ k0.toInt < n0.toInt ∧ r = 1) ∨ ((k0.toInt < 0 ∨ n0.toInt ≤ k0.toInt) ∧ r = 0)) (fun _ _ => True) (va_A [] sz)) 0 0 (va_A [] sz) := by
  refine Met.ofW (cc := cX4_isIn) (maxL := 2) (ret := (some .boolean)) (by decide) rfl ?_
  intro p e s m args below meth c s₁ B hml hv
  obtain ⟨rfl, hsz, hP, hK, hD0⟩ := hv
  have hx := B.exec
  have hb := B.bytes
  have hr := B.returns
  have hts := atoms_spec (ws := wsX4_isIn) B.pre
  have hown : s.vm.findClass RX4 = some m.cls := findClass_of_methodNamed B.named
  have hlocks := B.notSynchronized
  subst hsz
  have hA : ∀ q : Nat, s.heap.size ≤ q → va_A [] s.heap.size q := fun q h => Or.inr h
  have hD := hD0
  generalize va_A [] s.heap.size = A at hA ⊢
  have hS : va_S A s.heap s.heap [] := va_S.rf
  have hP : va_P (dC, dI) vwCl [] s.heap := hP
  have hl := lv_entry ([.int k0, .int n0]) (n := 2) (Nat.le_of_ble_eq_true rfl)
  rw [lg_entry_eq]
  generalize (lg_sl ([.int k0, .int n0]) ++ List.replicate (2 - (lg_sl ([.int k0, .int n0])).length) Slot.unset).toArray = ls at hl ⊢
  have hl : lv_has ls 2 [(0, .int k0), (1, .int n0)] := hl
  refine lv_iload_n hx hb dX4_isIn_0 rfl (lv_at hl 0 rfl) ?_
  refine lv_if_lt (tgt := 13) hx hb dX4_isIn_1 (by decide) (fun c_1 => ?_) (fun c_1 => ?_)
  · skip
    have i_1 : k0.toInt < 0 := by have h9 := pz_lt c_1; exact h9
    refine lv_iconst (v := 0) hx hb dX4_isIn_13 (by decide) ?_
    exact W.zret (v := 0) hx hb hr rfl (fun t ht hW => ⟨⟨0, (), rfl, (Or.inr (⟨(by omega), rfl⟩)), trivial⟩, hS.F ht⟩) hS.2.2 dX4_isIn_14
  · skip
    have i_1 : 0 ≤ k0.toInt := by have h9 := pz_nlt c_1; exact h9
    refine lv_iload_n hx hb dX4_isIn_4 rfl (lv_at hl 0 rfl) ?_
    refine lv_iload_n hx hb dX4_isIn_5 rfl (lv_at hl 1 rfl) ?_
    refine lv_icmp_ge (tgt := 13) hx hb dX4_isIn_6 (by decide) (fun c_2 => ?_) (fun c_2 => ?_)
    · skip
      have i_2 : n0.toInt ≤ k0.toInt := by have h9 := pz_ge c_2; exact h9
      refine lv_iconst (v := 0) hx hb dX4_isIn_13 (by decide) ?_
      exact W.zret (v := 0) hx hb hr rfl (fun t ht hW => ⟨⟨0, (), rfl, (Or.inr (⟨(by omega), rfl⟩)), trivial⟩, hS.F ht⟩) hS.2.2 dX4_isIn_14
    · skip
      have i_2 : k0.toInt < n0.toInt := by have h9 := pz_nge c_2; exact h9
      refine lv_iconst (v := 1) hx hb dX4_isIn_9 (by decide) ?_
      refine lv_goto (tgt := 14) hx hb dX4_isIn_10 (by decide) ?_
      exact W.zret (v := 1) hx hb hr rfl (fun t ht hW => ⟨⟨1, (), rfl, (Or.inl (⟨(by omega), (by omega), rfl⟩)), trivial⟩, hS.F ht⟩) hS.2.2 dX4_isIn_14

set_option maxHeartbeats 40000000 in
set_option maxRecDepth 100000 in
theorem k_X4_isServer (l : Launch) (dC : Nat → ClassId) (dI : Nat → Nat → Nat) (h0 : Nat) (R : Nat → Nat) (k0 : Int32) (sz : Nat) : Met l yX4_isServer wsX4_isServer ({ frames := 1, cells := 0, slots := 0, locals := 21 }) (va_Pc [.ref h0, .int k0] (pzPre (dC, dI) vwCl [(h0, .inr (5, [.ref (R 0), .int 0, .int 0, .int 0, .int 0, .int 3, .int 20, .int 0, .int 0, .int 0, .int 0, .ref (R 11), .ref (R 12), .ref (R 13), .ref (R 14), .ref (R 15), .ref (R 16), .ref (R 17), .ref (R 18), .ref (R 19), .ref (R 20), .ref (R 21), .ref (R 22), .ref (R 23), .ref (R 24), .ref (R 25), .ref (R 26), .ref (R 27), .ref (R 28), .ref (R 29), .ref (R 30), .ref (R 31), .ref (R 32), .ref (R 33), .ref (R 34), .ref (R 35), .ref (R 36), .ref (R 37), .ref (R 38), .ref (R 39), .ref (R 40), .ref (R 41), .int 0]))] [] sz)) (va_Qi (fun (r : Int32) (_ : Unit) => r = 0) (fun _ _ => True) (va_A [] sz)) 0 0 (va_A [] sz) := by
  refine Met.ofW (cc := cX4_isServer) (maxL := 2) (ret := (some .boolean)) (by decide) rfl ?_
  intro p e s m args below meth c s₁ B hml hv
  obtain ⟨rfl, hsz, hP, hK, hD0⟩ := hv
  have hx := B.exec
  have hb := B.bytes
  have hr := B.returns
  have hts := atoms_spec (ws := wsX4_isServer) B.pre
  have hown : s.vm.findClass RX4 = some m.cls := findClass_of_methodNamed B.named
  have hlocks := B.notSynchronized
  subst hsz
  have hA : ∀ q : Nat, s.heap.size ≤ q → va_A [] s.heap.size q := fun q h => Or.inr h
  have hD := hD0
  generalize va_A [] s.heap.size = A at hA ⊢
  have hS : va_S A s.heap s.heap [] := va_S.rf
  have hP : va_P (dC, dI) vwCl [(h0, .inr (5, [.ref (R 0), .int 0, .int 0, .int 0, .int 0, .int 3, .int 20, .int 0, .int 0, .int 0, .int 0, .ref (R 11), .ref (R 12), .ref (R 13), .ref (R 14), .ref (R 15), .ref (R 16), .ref (R 17), .ref (R 18), .ref (R 19), .ref (R 20), .ref (R 21), .ref (R 22), .ref (R 23), .ref (R 24), .ref (R 25), .ref (R 26), .ref (R 27), .ref (R 28), .ref (R 29), .ref (R 30), .ref (R 31), .ref (R 32), .ref (R 33), .ref (R 34), .ref (R 35), .ref (R 36), .ref (R 37), .ref (R 38), .ref (R 39), .ref (R 40), .ref (R 41), .int 0]))] s.heap := hP
  have hl := lv_entry ([.ref h0, .int k0]) (n := 2) (Nat.le_of_ble_eq_true rfl)
  rw [lg_entry_eq]
  generalize (lg_sl ([.ref h0, .int k0]) ++ List.replicate (2 - (lg_sl ([.ref h0, .int k0])).length) Slot.unset).toArray = ls at hl ⊢
  have hl : lv_has ls 2 [(0, .ref h0), (1, .int k0)] := hl
  refine lv_iload_n hx hb dX4_isServer_0 rfl (lv_at hl 1 rfl) ?_
  refine lv_aload_n hx hb dX4_isServer_1 rfl (lv_at hl 0 rfl) ?_
  refine va_get (D := (dC, dI)) (ci := 5) (v := .int 0) (C := RX4) (T := TX4) (N := 43) hx hb hts (fun _ h => List.mem_cons_of_mem _ (List.mem_append_right _ h)) hown hK hP 0 rfl rfl 2 (by decide) (hts (.fieldLink RX4 114 "FrontDoorModel" "servers" "I") (by decide +kernel)) (fun _ h9 => h9) rfl dX4_isServer_2 ?_
  have hPc := hP.sub (ws' := []) [] rfl
  have hDc := hD.sub (ws' := []) [] (by decide) rfl
  have hKc := hK.sub (tys' := []) [] rfl
  have hFc := pz_f hA hS
  refine va_calli (va_runS (As := [.int k0, .int 0]) (rest := []) ⟨hx, hb, hml, hown, hts⟩ (k_X4_isIn l dC dI k0 0 s.heap.size) (va_cwS 2 hts gX4_isServer_X4_isIn rfl rfl rfl (by decide +kernel) ⟨Nat.le_of_ble_eq_true rfl, Nat.le_of_ble_eq_true rfl⟩) ⟨pz_blind, fun U hU hW => ⟨rfl, pz_at hPc hKc hDc hU hW⟩⟩ rfl rfl hl.1 rfl (lv_room (Nat.le_of_ble_eq_true rfl)) dX4_isServer_5 ⟨Nat.le_of_ble_eq_true rfl, Nat.le_of_ble_eq_true rfl⟩) hS (fun q _ h => hFc q h) hFc (fun r_1 u t H locs ht hvm hw hB hz1 hk1 hS => ?_)
  have hP := pz_keep hP hk1
  rcases hw with ⟨f_1_0, f_1_1, hr9⟩ | ⟨f_1_0, hr9⟩
  · skip
    have hr9 : r_1 = 1 := hr9
    subst hr9
    have f_1_0 : 0 ≤ k0.toInt := pz_id f_1_0
    have f_1_1 : k0.toInt < 0 := f_1_1
    exfalso
    omega
  · skip
    have hr9 : r_1 = 0 := hr9
    subst hr9
    have f_1_0 : (k0.toInt < 0 ∨ 0 ≤ k0.toInt) := f_1_0
    exact W.zret (v := 0) hx hb hr rfl (fun t ht hW => ⟨⟨0, (), rfl, rfl, trivial⟩, hS.F ht⟩) hS.2.2 dX4_isServer_8

set_option maxHeartbeats 40000000 in
set_option maxRecDepth 100000 in
theorem k_X4_isCall (l : Launch) (dC : Nat → ClassId) (dI : Nat → Nat → Nat) (h0 : Nat) (R : Nat → Nat) (k0 : Int32) (sz : Nat) : Met l yX4_isCall wsX4_isCall ({ frames := 1, cells := 0, slots := 0, locals := 21 }) (va_Pc [.ref h0, .int k0] (pzPre (dC, dI) vwCl [(h0, .inr (5, [.ref (R 0), .int 0, .int 0, .int 0, .int 0, .int 3, .int 20, .int 0, .int 0, .int 0, .int 0, .ref (R 11), .ref (R 12), .ref (R 13), .ref (R 14), .ref (R 15), .ref (R 16), .ref (R 17), .ref (R 18), .ref (R 19), .ref (R 20), .ref (R 21), .ref (R 22), .ref (R 23), .ref (R 24), .ref (R 25), .ref (R 26), .ref (R 27), .ref (R 28), .ref (R 29), .ref (R 30), .ref (R 31), .ref (R 32), .ref (R 33), .ref (R 34), .ref (R 35), .ref (R 36), .ref (R 37), .ref (R 38), .ref (R 39), .ref (R 40), .ref (R 41), .int 0]))] [] sz)) (va_Qi (fun (r : Int32) (_ : Unit) => r = 0) (fun _ _ => True) (va_A [] sz)) 0 0 (va_A [] sz) := by
  refine Met.ofW (cc := cX4_isCall) (maxL := 2) (ret := (some .boolean)) (by decide) rfl ?_
  intro p e s m args below meth c s₁ B hml hv
  obtain ⟨rfl, hsz, hP, hK, hD0⟩ := hv
  have hx := B.exec
  have hb := B.bytes
  have hr := B.returns
  have hts := atoms_spec (ws := wsX4_isCall) B.pre
  have hown : s.vm.findClass RX4 = some m.cls := findClass_of_methodNamed B.named
  have hlocks := B.notSynchronized
  subst hsz
  have hA : ∀ q : Nat, s.heap.size ≤ q → va_A [] s.heap.size q := fun q h => Or.inr h
  have hD := hD0
  generalize va_A [] s.heap.size = A at hA ⊢
  have hS : va_S A s.heap s.heap [] := va_S.rf
  have hP : va_P (dC, dI) vwCl [(h0, .inr (5, [.ref (R 0), .int 0, .int 0, .int 0, .int 0, .int 3, .int 20, .int 0, .int 0, .int 0, .int 0, .ref (R 11), .ref (R 12), .ref (R 13), .ref (R 14), .ref (R 15), .ref (R 16), .ref (R 17), .ref (R 18), .ref (R 19), .ref (R 20), .ref (R 21), .ref (R 22), .ref (R 23), .ref (R 24), .ref (R 25), .ref (R 26), .ref (R 27), .ref (R 28), .ref (R 29), .ref (R 30), .ref (R 31), .ref (R 32), .ref (R 33), .ref (R 34), .ref (R 35), .ref (R 36), .ref (R 37), .ref (R 38), .ref (R 39), .ref (R 40), .ref (R 41), .int 0]))] s.heap := hP
  have hl := lv_entry ([.ref h0, .int k0]) (n := 2) (Nat.le_of_ble_eq_true rfl)
  rw [lg_entry_eq]
  generalize (lg_sl ([.ref h0, .int k0]) ++ List.replicate (2 - (lg_sl ([.ref h0, .int k0])).length) Slot.unset).toArray = ls at hl ⊢
  have hl : lv_has ls 2 [(0, .ref h0), (1, .int k0)] := hl
  refine lv_iload_n hx hb dX4_isCall_0 rfl (lv_at hl 1 rfl) ?_
  refine lv_aload_n hx hb dX4_isCall_1 rfl (lv_at hl 0 rfl) ?_
  refine va_get (D := (dC, dI)) (ci := 5) (v := .int 0) (C := RX4) (T := TX4) (N := 43) hx hb hts (fun _ h => List.mem_cons_of_mem _ (List.mem_append_right _ h)) hown hK hP 0 rfl rfl 3 (by decide) (hts (.fieldLink RX4 121 "FrontDoorModel" "calls" "I") (by decide +kernel)) (fun _ h9 => h9) rfl dX4_isCall_2 ?_
  have hPc := hP.sub (ws' := []) [] rfl
  have hDc := hD.sub (ws' := []) [] (by decide) rfl
  have hKc := hK.sub (tys' := []) [] rfl
  have hFc := pz_f hA hS
  refine va_calli (va_runS (As := [.int k0, .int 0]) (rest := []) ⟨hx, hb, hml, hown, hts⟩ (k_X4_isIn l dC dI k0 0 s.heap.size) (va_cwS 2 hts gX4_isCall_X4_isIn rfl rfl rfl (by decide +kernel) ⟨Nat.le_of_ble_eq_true rfl, Nat.le_of_ble_eq_true rfl⟩) ⟨pz_blind, fun U hU hW => ⟨rfl, pz_at hPc hKc hDc hU hW⟩⟩ rfl rfl hl.1 rfl (lv_room (Nat.le_of_ble_eq_true rfl)) dX4_isCall_5 ⟨Nat.le_of_ble_eq_true rfl, Nat.le_of_ble_eq_true rfl⟩) hS (fun q _ h => hFc q h) hFc (fun r_1 u t H locs ht hvm hw hB hz1 hk1 hS => ?_)
  have hP := pz_keep hP hk1
  rcases hw with ⟨f_1_0, f_1_1, hr9⟩ | ⟨f_1_0, hr9⟩
  · skip
    have hr9 : r_1 = 1 := hr9
    subst hr9
    have f_1_0 : 0 ≤ k0.toInt := pz_id f_1_0
    have f_1_1 : k0.toInt < 0 := f_1_1
    exfalso
    omega
  · skip
    have hr9 : r_1 = 0 := hr9
    subst hr9
    have f_1_0 : (k0.toInt < 0 ∨ 0 ≤ k0.toInt) := f_1_0
    exact W.zret (v := 0) hx hb hr rfl (fun t ht hW => ⟨⟨0, (), rfl, rfl, trivial⟩, hS.F ht⟩) hS.2.2 dX4_isCall_8

set_option maxHeartbeats 40000000 in
set_option maxRecDepth 100000 in
theorem k_X4_refuse1 (l : Launch) (dC : Nat → ClassId) (dI : Nat → Nat → Nat) (h0 : Nat) (R : Nat → Nat) (C : Nat → ClassId) (sz : Nat) : Met l yX4_refuse wsX4_refuse ({ frames := 0, cells := 0, slots := 0, locals := 0 }) (va_Pc [.ref h0, .int (-1)] (pzPre (dC, dI) vwCl [(h0, .inr (5, [.ref (R 0), .int 0, .int 0, .int 0, .int 0, .int 3, .int 20, .int 0, .int 0, .int 0, .int 0, .ref (R 11), .ref (R 12), .ref (R 13), .ref (R 14), .ref (R 15), .ref (R 16), .ref (R 17), .ref (R 18), .ref (R 19), .ref (R 20), .ref (R 21), .ref (R 22), .ref (R 23), .ref (R 24), .ref (R 25), .ref (R 26), .ref (R 27), .ref (R 28), .ref (R 29), .ref (R 30), .ref (R 31), .ref (R 32), .ref (R 33), .ref (R 34), .ref (R 35), .ref (R 36), .ref (R 37), .ref (R 38), .ref (R 39), .ref (R 40), .ref (R 41), .int 0])), ((R 0), .inl ((C 0), 7, .inl (fun _ => 0)))] [((C 0), .int)] sz)) (va_Qi (fun (r : Int32) (_ : Unit) => r = (-1)) (fun _ _ => True) (va_A [(h0, .inr (5, [.ref (R 0), .int 0, .int 0, .int 0, .int 0, .int 3, .int 20, .int 0, .int 0, .int 0, .int 0, .ref (R 11), .ref (R 12), .ref (R 13), .ref (R 14), .ref (R 15), .ref (R 16), .ref (R 17), .ref (R 18), .ref (R 19), .ref (R 20), .ref (R 21), .ref (R 22), .ref (R 23), .ref (R 24), .ref (R 25), .ref (R 26), .ref (R 27), .ref (R 28), .ref (R 29), .ref (R 30), .ref (R 31), .ref (R 32), .ref (R 33), .ref (R 34), .ref (R 35), .ref (R 36), .ref (R 37), .ref (R 38), .ref (R 39), .ref (R 40), .ref (R 41), .int 0])), ((R 0), .inl ((C 0), 7, .inl (fun _ => 0)))] sz)) 0 0 (va_A [(h0, .inr (5, [.ref (R 0), .int 0, .int 0, .int 0, .int 0, .int 3, .int 20, .int 0, .int 0, .int 0, .int 0, .ref (R 11), .ref (R 12), .ref (R 13), .ref (R 14), .ref (R 15), .ref (R 16), .ref (R 17), .ref (R 18), .ref (R 19), .ref (R 20), .ref (R 21), .ref (R 22), .ref (R 23), .ref (R 24), .ref (R 25), .ref (R 26), .ref (R 27), .ref (R 28), .ref (R 29), .ref (R 30), .ref (R 31), .ref (R 32), .ref (R 33), .ref (R 34), .ref (R 35), .ref (R 36), .ref (R 37), .ref (R 38), .ref (R 39), .ref (R 40), .ref (R 41), .int 0])), ((R 0), .inl ((C 0), 7, .inl (fun _ => 0)))] sz) := by
  refine Met.ofW (cc := cX4_refuse) (maxL := 2) (ret := (some .int)) (by decide) rfl ?_
  intro p e s m args below meth c s₁ B hml hv
  obtain ⟨rfl, hsz, hP, hK, hD0⟩ := hv
  have hx := B.exec
  have hb := B.bytes
  have hr := B.returns
  have hts := atoms_spec (ws := wsX4_refuse) B.pre
  have hown : s.vm.findClass RX4 = some m.cls := findClass_of_methodNamed B.named
  have hlocks := B.notSynchronized
  subst hsz
  have hD := hD0.self (sz := s.heap.size)
  generalize hAe : va_A [(h0, .inr (5, [.ref (R 0), .int 0, .int 0, .int 0, .int 0, .int 3, .int 20, .int 0, .int 0, .int 0, .int 0, .ref (R 11), .ref (R 12), .ref (R 13), .ref (R 14), .ref (R 15), .ref (R 16), .ref (R 17), .ref (R 18), .ref (R 19), .ref (R 20), .ref (R 21), .ref (R 22), .ref (R 23), .ref (R 24), .ref (R 25), .ref (R 26), .ref (R 27), .ref (R 28), .ref (R 29), .ref (R 30), .ref (R 31), .ref (R 32), .ref (R 33), .ref (R 34), .ref (R 35), .ref (R 36), .ref (R 37), .ref (R 38), .ref (R 39), .ref (R 40), .ref (R 41), .int 0])), ((R 0), .inl ((C 0), 7, .inl (fun _ => 0)))] s.heap.size = A at hD ⊢
  have hA : ∀ q : Nat, s.heap.size ≤ q → A q := fun q h => by rw [← hAe]; exact Or.inr h
  have hS : va_S A s.heap s.heap [] := va_S.rf
  have hP : va_P (dC, dI) vwCl [(h0, .inr (5, [.ref (R 0), .int 0, .int 0, .int 0, .int 0, .int 3, .int 20, .int 0, .int 0, .int 0, .int 0, .ref (R 11), .ref (R 12), .ref (R 13), .ref (R 14), .ref (R 15), .ref (R 16), .ref (R 17), .ref (R 18), .ref (R 19), .ref (R 20), .ref (R 21), .ref (R 22), .ref (R 23), .ref (R 24), .ref (R 25), .ref (R 26), .ref (R 27), .ref (R 28), .ref (R 29), .ref (R 30), .ref (R 31), .ref (R 32), .ref (R 33), .ref (R 34), .ref (R 35), .ref (R 36), .ref (R 37), .ref (R 38), .ref (R 39), .ref (R 40), .ref (R 41), .int 0])), ((R 0), .inl ((C 0), 7, .inl (fun _ => 0)))] s.heap := hP
  have hl := lv_entry ([.ref h0, .int (-1)]) (n := 2) (Nat.le_of_ble_eq_true rfl)
  rw [lg_entry_eq]
  generalize (lg_sl ([.ref h0, .int (-1)]) ++ List.replicate (2 - (lg_sl ([.ref h0, .int (-1)])).length) Slot.unset).toArray = ls at hl ⊢
  have hl : lv_has ls 2 [(0, .ref h0), (1, .int (-1))] := hl
  refine lv_aload_n hx hb dX4_refuse_0 rfl (lv_at hl 0 rfl) ?_
  refine va_get (D := (dC, dI)) (ci := 5) (v := .ref (R 0)) (C := RX4) (T := TX4) (N := 43) hx hb hts (fun _ h => List.mem_cons_of_mem _ (List.mem_append_right _ h)) hown hK hP 0 rfl rfl 0 (by decide) (hts (.fieldLink RX4 7 "FrontDoorModel" "refusals" "[I") (by decide +kernel)) (fun _ h9 => h9) rfl dX4_refuse_1 ?_
  refine lv_iload_n hx hb dX4_refuse_4 rfl (lv_at hl 1 rfl) ?_
  refine lv_ineg hx hb dX4_refuse_5 ?_
  refine lv_topi (fun x_1 ex_1 => ?_)
  obtain rfl : x_1 = 1 := ex_1.trans (by decide)
  refine lv_dup2_11 hx hb dX4_refuse_6 rfl rfl ?_
  refine va_iald hx hb hK hP 1 0 rfl rfl (by unfold vp_in; decide) dX4_refuse_7 ?_
  refine lv_topi (fun x_2 ex_2 => ?_)
  obtain rfl : x_2 = 0 := ex_2.trans (rfl)
  refine lv_iconst (v := 1) hx hb dX4_refuse_8 (by decide) ?_
  refine lv_iadd hx hb dX4_refuse_9 ?_
  refine lv_topi (fun x_3 ex_3 => ?_)
  obtain rfl : x_3 = 1 := ex_3.trans (by decide)
  refine va_iast hx hb hK hP hD hS 1 0 rfl rfl (by unfold vp_in; decide) dX4_refuse_10 (fun H locs hP hD hS => ?_)
  have hP : va_P (dC, dI) vwCl [(h0, .inr (5, [.ref (R 0), .int 0, .int 0, .int 0, .int 0, .int 3, .int 20, .int 0, .int 0, .int 0, .int 0, .ref (R 11), .ref (R 12), .ref (R 13), .ref (R 14), .ref (R 15), .ref (R 16), .ref (R 17), .ref (R 18), .ref (R 19), .ref (R 20), .ref (R 21), .ref (R 22), .ref (R 23), .ref (R 24), .ref (R 25), .ref (R 26), .ref (R 27), .ref (R 28), .ref (R 29), .ref (R 30), .ref (R 31), .ref (R 32), .ref (R 33), .ref (R 34), .ref (R 35), .ref (R 36), .ref (R 37), .ref (R 38), .ref (R 39), .ref (R 40), .ref (R 41), .int 0])), ((R 0), .inl ((C 0), 7, .inl (upd (fun _ => 0) (Int32.toNatClampNeg 1) 1)))] H := hP
  have hD : va_D A [(h0, .inr (5, [.ref (R 0), .int 0, .int 0, .int 0, .int 0, .int 3, .int 20, .int 0, .int 0, .int 0, .int 0, .ref (R 11), .ref (R 12), .ref (R 13), .ref (R 14), .ref (R 15), .ref (R 16), .ref (R 17), .ref (R 18), .ref (R 19), .ref (R 20), .ref (R 21), .ref (R 22), .ref (R 23), .ref (R 24), .ref (R 25), .ref (R 26), .ref (R 27), .ref (R 28), .ref (R 29), .ref (R 30), .ref (R 31), .ref (R 32), .ref (R 33), .ref (R 34), .ref (R 35), .ref (R 36), .ref (R 37), .ref (R 38), .ref (R 39), .ref (R 40), .ref (R 41), .int 0])), ((R 0), .inl ((C 0), 7, .inl (upd (fun _ => 0) (Int32.toNatClampNeg 1) 1)))] := hD
  refine lv_iload_n hx hb dX4_refuse_11 rfl (lv_at hl 1 rfl) ?_
  exact W.iret (v := (-1)) hx hb hr (fun t ht hW => ⟨⟨(-1), (), rfl, rfl, trivial⟩, hS.F ht⟩) hS.2.2 dX4_refuse_12

set_option maxHeartbeats 40000000 in
set_option maxRecDepth 100000 in
theorem k_X4_refuse4 (l : Launch) (dC : Nat → ClassId) (dI : Nat → Nat → Nat) (h0 : Nat) (R : Nat → Nat) (C : Nat → ClassId) (sz : Nat) : Met l yX4_refuse wsX4_refuse ({ frames := 0, cells := 0, slots := 0, locals := 0 }) (va_Pc [.ref h0, .int (-4)] (pzPre (dC, dI) vwCl [(h0, .inr (5, [.ref (R 0), .int 0, .int 0, .int 0, .int 0, .int 3, .int 20, .int 0, .int 0, .int 0, .int 0, .ref (R 11), .ref (R 12), .ref (R 13), .ref (R 14), .ref (R 15), .ref (R 16), .ref (R 17), .ref (R 18), .ref (R 19), .ref (R 20), .ref (R 21), .ref (R 22), .ref (R 23), .ref (R 24), .ref (R 25), .ref (R 26), .ref (R 27), .ref (R 28), .ref (R 29), .ref (R 30), .ref (R 31), .ref (R 32), .ref (R 33), .ref (R 34), .ref (R 35), .ref (R 36), .ref (R 37), .ref (R 38), .ref (R 39), .ref (R 40), .ref (R 41), .int 0])), ((R 0), .inl ((C 0), 7, .inl (fun _ => 0)))] [((C 0), .int)] sz)) (va_Qi (fun (r : Int32) (_ : Unit) => r = (-4)) (fun _ _ => True) (va_A [(h0, .inr (5, [.ref (R 0), .int 0, .int 0, .int 0, .int 0, .int 3, .int 20, .int 0, .int 0, .int 0, .int 0, .ref (R 11), .ref (R 12), .ref (R 13), .ref (R 14), .ref (R 15), .ref (R 16), .ref (R 17), .ref (R 18), .ref (R 19), .ref (R 20), .ref (R 21), .ref (R 22), .ref (R 23), .ref (R 24), .ref (R 25), .ref (R 26), .ref (R 27), .ref (R 28), .ref (R 29), .ref (R 30), .ref (R 31), .ref (R 32), .ref (R 33), .ref (R 34), .ref (R 35), .ref (R 36), .ref (R 37), .ref (R 38), .ref (R 39), .ref (R 40), .ref (R 41), .int 0])), ((R 0), .inl ((C 0), 7, .inl (fun _ => 0)))] sz)) 0 0 (va_A [(h0, .inr (5, [.ref (R 0), .int 0, .int 0, .int 0, .int 0, .int 3, .int 20, .int 0, .int 0, .int 0, .int 0, .ref (R 11), .ref (R 12), .ref (R 13), .ref (R 14), .ref (R 15), .ref (R 16), .ref (R 17), .ref (R 18), .ref (R 19), .ref (R 20), .ref (R 21), .ref (R 22), .ref (R 23), .ref (R 24), .ref (R 25), .ref (R 26), .ref (R 27), .ref (R 28), .ref (R 29), .ref (R 30), .ref (R 31), .ref (R 32), .ref (R 33), .ref (R 34), .ref (R 35), .ref (R 36), .ref (R 37), .ref (R 38), .ref (R 39), .ref (R 40), .ref (R 41), .int 0])), ((R 0), .inl ((C 0), 7, .inl (fun _ => 0)))] sz) := by
  refine Met.ofW (cc := cX4_refuse) (maxL := 2) (ret := (some .int)) (by decide) rfl ?_
  intro p e s m args below meth c s₁ B hml hv
  obtain ⟨rfl, hsz, hP, hK, hD0⟩ := hv
  have hx := B.exec
  have hb := B.bytes
  have hr := B.returns
  have hts := atoms_spec (ws := wsX4_refuse) B.pre
  have hown : s.vm.findClass RX4 = some m.cls := findClass_of_methodNamed B.named
  have hlocks := B.notSynchronized
  subst hsz
  have hD := hD0.self (sz := s.heap.size)
  generalize hAe : va_A [(h0, .inr (5, [.ref (R 0), .int 0, .int 0, .int 0, .int 0, .int 3, .int 20, .int 0, .int 0, .int 0, .int 0, .ref (R 11), .ref (R 12), .ref (R 13), .ref (R 14), .ref (R 15), .ref (R 16), .ref (R 17), .ref (R 18), .ref (R 19), .ref (R 20), .ref (R 21), .ref (R 22), .ref (R 23), .ref (R 24), .ref (R 25), .ref (R 26), .ref (R 27), .ref (R 28), .ref (R 29), .ref (R 30), .ref (R 31), .ref (R 32), .ref (R 33), .ref (R 34), .ref (R 35), .ref (R 36), .ref (R 37), .ref (R 38), .ref (R 39), .ref (R 40), .ref (R 41), .int 0])), ((R 0), .inl ((C 0), 7, .inl (fun _ => 0)))] s.heap.size = A at hD ⊢
  have hA : ∀ q : Nat, s.heap.size ≤ q → A q := fun q h => by rw [← hAe]; exact Or.inr h
  have hS : va_S A s.heap s.heap [] := va_S.rf
  have hP : va_P (dC, dI) vwCl [(h0, .inr (5, [.ref (R 0), .int 0, .int 0, .int 0, .int 0, .int 3, .int 20, .int 0, .int 0, .int 0, .int 0, .ref (R 11), .ref (R 12), .ref (R 13), .ref (R 14), .ref (R 15), .ref (R 16), .ref (R 17), .ref (R 18), .ref (R 19), .ref (R 20), .ref (R 21), .ref (R 22), .ref (R 23), .ref (R 24), .ref (R 25), .ref (R 26), .ref (R 27), .ref (R 28), .ref (R 29), .ref (R 30), .ref (R 31), .ref (R 32), .ref (R 33), .ref (R 34), .ref (R 35), .ref (R 36), .ref (R 37), .ref (R 38), .ref (R 39), .ref (R 40), .ref (R 41), .int 0])), ((R 0), .inl ((C 0), 7, .inl (fun _ => 0)))] s.heap := hP
  have hl := lv_entry ([.ref h0, .int (-4)]) (n := 2) (Nat.le_of_ble_eq_true rfl)
  rw [lg_entry_eq]
  generalize (lg_sl ([.ref h0, .int (-4)]) ++ List.replicate (2 - (lg_sl ([.ref h0, .int (-4)])).length) Slot.unset).toArray = ls at hl ⊢
  have hl : lv_has ls 2 [(0, .ref h0), (1, .int (-4))] := hl
  refine lv_aload_n hx hb dX4_refuse_0 rfl (lv_at hl 0 rfl) ?_
  refine va_get (D := (dC, dI)) (ci := 5) (v := .ref (R 0)) (C := RX4) (T := TX4) (N := 43) hx hb hts (fun _ h => List.mem_cons_of_mem _ (List.mem_append_right _ h)) hown hK hP 0 rfl rfl 0 (by decide) (hts (.fieldLink RX4 7 "FrontDoorModel" "refusals" "[I") (by decide +kernel)) (fun _ h9 => h9) rfl dX4_refuse_1 ?_
  refine lv_iload_n hx hb dX4_refuse_4 rfl (lv_at hl 1 rfl) ?_
  refine lv_ineg hx hb dX4_refuse_5 ?_
  refine lv_topi (fun x_1 ex_1 => ?_)
  obtain rfl : x_1 = 4 := ex_1.trans (by decide)
  refine lv_dup2_11 hx hb dX4_refuse_6 rfl rfl ?_
  refine va_iald hx hb hK hP 1 0 rfl rfl (by unfold vp_in; decide) dX4_refuse_7 ?_
  refine lv_topi (fun x_2 ex_2 => ?_)
  obtain rfl : x_2 = 0 := ex_2.trans (rfl)
  refine lv_iconst (v := 1) hx hb dX4_refuse_8 (by decide) ?_
  refine lv_iadd hx hb dX4_refuse_9 ?_
  refine lv_topi (fun x_3 ex_3 => ?_)
  obtain rfl : x_3 = 1 := ex_3.trans (by decide)
  refine va_iast hx hb hK hP hD hS 1 0 rfl rfl (by unfold vp_in; decide) dX4_refuse_10 (fun H locs hP hD hS => ?_)
  have hP : va_P (dC, dI) vwCl [(h0, .inr (5, [.ref (R 0), .int 0, .int 0, .int 0, .int 0, .int 3, .int 20, .int 0, .int 0, .int 0, .int 0, .ref (R 11), .ref (R 12), .ref (R 13), .ref (R 14), .ref (R 15), .ref (R 16), .ref (R 17), .ref (R 18), .ref (R 19), .ref (R 20), .ref (R 21), .ref (R 22), .ref (R 23), .ref (R 24), .ref (R 25), .ref (R 26), .ref (R 27), .ref (R 28), .ref (R 29), .ref (R 30), .ref (R 31), .ref (R 32), .ref (R 33), .ref (R 34), .ref (R 35), .ref (R 36), .ref (R 37), .ref (R 38), .ref (R 39), .ref (R 40), .ref (R 41), .int 0])), ((R 0), .inl ((C 0), 7, .inl (upd (fun _ => 0) (Int32.toNatClampNeg 4) 1)))] H := hP
  have hD : va_D A [(h0, .inr (5, [.ref (R 0), .int 0, .int 0, .int 0, .int 0, .int 3, .int 20, .int 0, .int 0, .int 0, .int 0, .ref (R 11), .ref (R 12), .ref (R 13), .ref (R 14), .ref (R 15), .ref (R 16), .ref (R 17), .ref (R 18), .ref (R 19), .ref (R 20), .ref (R 21), .ref (R 22), .ref (R 23), .ref (R 24), .ref (R 25), .ref (R 26), .ref (R 27), .ref (R 28), .ref (R 29), .ref (R 30), .ref (R 31), .ref (R 32), .ref (R 33), .ref (R 34), .ref (R 35), .ref (R 36), .ref (R 37), .ref (R 38), .ref (R 39), .ref (R 40), .ref (R 41), .int 0])), ((R 0), .inl ((C 0), 7, .inl (upd (fun _ => 0) (Int32.toNatClampNeg 4) 1)))] := hD
  refine lv_iload_n hx hb dX4_refuse_11 rfl (lv_at hl 1 rfl) ?_
  exact W.iret (v := (-4)) hx hb hr (fun t ht hW => ⟨⟨(-4), (), rfl, rfl, trivial⟩, hS.F ht⟩) hS.2.2 dX4_refuse_12

set_option maxHeartbeats 40000000 in
set_option maxRecDepth 100000 in
theorem k_X4_refuse6 (l : Launch) (dC : Nat → ClassId) (dI : Nat → Nat → Nat) (h0 : Nat) (R : Nat → Nat) (C : Nat → ClassId) (sz : Nat) : Met l yX4_refuse wsX4_refuse ({ frames := 0, cells := 0, slots := 0, locals := 0 }) (va_Pc [.ref h0, .int (-6)] (pzPre (dC, dI) vwCl [(h0, .inr (5, [.ref (R 0), .int 0, .int 0, .int 0, .int 0, .int 3, .int 20, .int 0, .int 0, .int 0, .int 0, .ref (R 11), .ref (R 12), .ref (R 13), .ref (R 14), .ref (R 15), .ref (R 16), .ref (R 17), .ref (R 18), .ref (R 19), .ref (R 20), .ref (R 21), .ref (R 22), .ref (R 23), .ref (R 24), .ref (R 25), .ref (R 26), .ref (R 27), .ref (R 28), .ref (R 29), .ref (R 30), .ref (R 31), .ref (R 32), .ref (R 33), .ref (R 34), .ref (R 35), .ref (R 36), .ref (R 37), .ref (R 38), .ref (R 39), .ref (R 40), .ref (R 41), .int 0])), ((R 0), .inl ((C 0), 7, .inl (fun _ => 0)))] [((C 0), .int)] sz)) (va_Qi (fun (r : Int32) (_ : Unit) => r = (-6)) (fun _ _ => True) (va_A [(h0, .inr (5, [.ref (R 0), .int 0, .int 0, .int 0, .int 0, .int 3, .int 20, .int 0, .int 0, .int 0, .int 0, .ref (R 11), .ref (R 12), .ref (R 13), .ref (R 14), .ref (R 15), .ref (R 16), .ref (R 17), .ref (R 18), .ref (R 19), .ref (R 20), .ref (R 21), .ref (R 22), .ref (R 23), .ref (R 24), .ref (R 25), .ref (R 26), .ref (R 27), .ref (R 28), .ref (R 29), .ref (R 30), .ref (R 31), .ref (R 32), .ref (R 33), .ref (R 34), .ref (R 35), .ref (R 36), .ref (R 37), .ref (R 38), .ref (R 39), .ref (R 40), .ref (R 41), .int 0])), ((R 0), .inl ((C 0), 7, .inl (fun _ => 0)))] sz)) 0 0 (va_A [(h0, .inr (5, [.ref (R 0), .int 0, .int 0, .int 0, .int 0, .int 3, .int 20, .int 0, .int 0, .int 0, .int 0, .ref (R 11), .ref (R 12), .ref (R 13), .ref (R 14), .ref (R 15), .ref (R 16), .ref (R 17), .ref (R 18), .ref (R 19), .ref (R 20), .ref (R 21), .ref (R 22), .ref (R 23), .ref (R 24), .ref (R 25), .ref (R 26), .ref (R 27), .ref (R 28), .ref (R 29), .ref (R 30), .ref (R 31), .ref (R 32), .ref (R 33), .ref (R 34), .ref (R 35), .ref (R 36), .ref (R 37), .ref (R 38), .ref (R 39), .ref (R 40), .ref (R 41), .int 0])), ((R 0), .inl ((C 0), 7, .inl (fun _ => 0)))] sz) := by
  refine Met.ofW (cc := cX4_refuse) (maxL := 2) (ret := (some .int)) (by decide) rfl ?_
  intro p e s m args below meth c s₁ B hml hv
  obtain ⟨rfl, hsz, hP, hK, hD0⟩ := hv
  have hx := B.exec
  have hb := B.bytes
  have hr := B.returns
  have hts := atoms_spec (ws := wsX4_refuse) B.pre
  have hown : s.vm.findClass RX4 = some m.cls := findClass_of_methodNamed B.named
  have hlocks := B.notSynchronized
  subst hsz
  have hD := hD0.self (sz := s.heap.size)
  generalize hAe : va_A [(h0, .inr (5, [.ref (R 0), .int 0, .int 0, .int 0, .int 0, .int 3, .int 20, .int 0, .int 0, .int 0, .int 0, .ref (R 11), .ref (R 12), .ref (R 13), .ref (R 14), .ref (R 15), .ref (R 16), .ref (R 17), .ref (R 18), .ref (R 19), .ref (R 20), .ref (R 21), .ref (R 22), .ref (R 23), .ref (R 24), .ref (R 25), .ref (R 26), .ref (R 27), .ref (R 28), .ref (R 29), .ref (R 30), .ref (R 31), .ref (R 32), .ref (R 33), .ref (R 34), .ref (R 35), .ref (R 36), .ref (R 37), .ref (R 38), .ref (R 39), .ref (R 40), .ref (R 41), .int 0])), ((R 0), .inl ((C 0), 7, .inl (fun _ => 0)))] s.heap.size = A at hD ⊢
  have hA : ∀ q : Nat, s.heap.size ≤ q → A q := fun q h => by rw [← hAe]; exact Or.inr h
  have hS : va_S A s.heap s.heap [] := va_S.rf
  have hP : va_P (dC, dI) vwCl [(h0, .inr (5, [.ref (R 0), .int 0, .int 0, .int 0, .int 0, .int 3, .int 20, .int 0, .int 0, .int 0, .int 0, .ref (R 11), .ref (R 12), .ref (R 13), .ref (R 14), .ref (R 15), .ref (R 16), .ref (R 17), .ref (R 18), .ref (R 19), .ref (R 20), .ref (R 21), .ref (R 22), .ref (R 23), .ref (R 24), .ref (R 25), .ref (R 26), .ref (R 27), .ref (R 28), .ref (R 29), .ref (R 30), .ref (R 31), .ref (R 32), .ref (R 33), .ref (R 34), .ref (R 35), .ref (R 36), .ref (R 37), .ref (R 38), .ref (R 39), .ref (R 40), .ref (R 41), .int 0])), ((R 0), .inl ((C 0), 7, .inl (fun _ => 0)))] s.heap := hP
  have hl := lv_entry ([.ref h0, .int (-6)]) (n := 2) (Nat.le_of_ble_eq_true rfl)
  rw [lg_entry_eq]
  generalize (lg_sl ([.ref h0, .int (-6)]) ++ List.replicate (2 - (lg_sl ([.ref h0, .int (-6)])).length) Slot.unset).toArray = ls at hl ⊢
  have hl : lv_has ls 2 [(0, .ref h0), (1, .int (-6))] := hl
  refine lv_aload_n hx hb dX4_refuse_0 rfl (lv_at hl 0 rfl) ?_
  refine va_get (D := (dC, dI)) (ci := 5) (v := .ref (R 0)) (C := RX4) (T := TX4) (N := 43) hx hb hts (fun _ h => List.mem_cons_of_mem _ (List.mem_append_right _ h)) hown hK hP 0 rfl rfl 0 (by decide) (hts (.fieldLink RX4 7 "FrontDoorModel" "refusals" "[I") (by decide +kernel)) (fun _ h9 => h9) rfl dX4_refuse_1 ?_
  refine lv_iload_n hx hb dX4_refuse_4 rfl (lv_at hl 1 rfl) ?_
  refine lv_ineg hx hb dX4_refuse_5 ?_
  refine lv_topi (fun x_1 ex_1 => ?_)
  obtain rfl : x_1 = 6 := ex_1.trans (by decide)
  refine lv_dup2_11 hx hb dX4_refuse_6 rfl rfl ?_
  refine va_iald hx hb hK hP 1 0 rfl rfl (by unfold vp_in; decide) dX4_refuse_7 ?_
  refine lv_topi (fun x_2 ex_2 => ?_)
  obtain rfl : x_2 = 0 := ex_2.trans (rfl)
  refine lv_iconst (v := 1) hx hb dX4_refuse_8 (by decide) ?_
  refine lv_iadd hx hb dX4_refuse_9 ?_
  refine lv_topi (fun x_3 ex_3 => ?_)
  obtain rfl : x_3 = 1 := ex_3.trans (by decide)
  refine va_iast hx hb hK hP hD hS 1 0 rfl rfl (by unfold vp_in; decide) dX4_refuse_10 (fun H locs hP hD hS => ?_)
  have hP : va_P (dC, dI) vwCl [(h0, .inr (5, [.ref (R 0), .int 0, .int 0, .int 0, .int 0, .int 3, .int 20, .int 0, .int 0, .int 0, .int 0, .ref (R 11), .ref (R 12), .ref (R 13), .ref (R 14), .ref (R 15), .ref (R 16), .ref (R 17), .ref (R 18), .ref (R 19), .ref (R 20), .ref (R 21), .ref (R 22), .ref (R 23), .ref (R 24), .ref (R 25), .ref (R 26), .ref (R 27), .ref (R 28), .ref (R 29), .ref (R 30), .ref (R 31), .ref (R 32), .ref (R 33), .ref (R 34), .ref (R 35), .ref (R 36), .ref (R 37), .ref (R 38), .ref (R 39), .ref (R 40), .ref (R 41), .int 0])), ((R 0), .inl ((C 0), 7, .inl (upd (fun _ => 0) (Int32.toNatClampNeg 6) 1)))] H := hP
  have hD : va_D A [(h0, .inr (5, [.ref (R 0), .int 0, .int 0, .int 0, .int 0, .int 3, .int 20, .int 0, .int 0, .int 0, .int 0, .ref (R 11), .ref (R 12), .ref (R 13), .ref (R 14), .ref (R 15), .ref (R 16), .ref (R 17), .ref (R 18), .ref (R 19), .ref (R 20), .ref (R 21), .ref (R 22), .ref (R 23), .ref (R 24), .ref (R 25), .ref (R 26), .ref (R 27), .ref (R 28), .ref (R 29), .ref (R 30), .ref (R 31), .ref (R 32), .ref (R 33), .ref (R 34), .ref (R 35), .ref (R 36), .ref (R 37), .ref (R 38), .ref (R 39), .ref (R 40), .ref (R 41), .int 0])), ((R 0), .inl ((C 0), 7, .inl (upd (fun _ => 0) (Int32.toNatClampNeg 6) 1)))] := hD
  refine lv_iload_n hx hb dX4_refuse_11 rfl (lv_at hl 1 rfl) ?_
  exact W.iret (v := (-6)) hx hb hr (fun t ht hW => ⟨⟨(-6), (), rfl, rfl, trivial⟩, hS.F ht⟩) hS.2.2 dX4_refuse_12

set_option maxHeartbeats 40000000 in
set_option maxRecDepth 100000 in
theorem k_X4_set (l : Launch) (dC : Nat → ClassId) (dI : Nat → Nat → Nat) (h0 : Nat) (R : Nat → Nat) (C : Nat → ClassId) (a1 : Int32) (a2 : Int32) (a3 : Int32) (sz : Nat) : Met l yX4_set wsX4_set ({ frames := 2, cells := 0, slots := 0, locals := 42 }) (va_Pc [.ref h0, .int a1, .int a2, .int a3] (pzPre (dC, dI) vwCl [(h0, .inr (5, [.ref (R 0), .int 0, .int 0, .int 0, .int 0, .int 3, .int 20, .int 0, .int 0, .int 0, .int 0, .ref (R 11), .ref (R 12), .ref (R 13), .ref (R 14), .ref (R 15), .ref (R 16), .ref (R 17), .ref (R 18), .ref (R 19), .ref (R 20), .ref (R 21), .ref (R 22), .ref (R 23), .ref (R 24), .ref (R 25), .ref (R 26), .ref (R 27), .ref (R 28), .ref (R 29), .ref (R 30), .ref (R 31), .ref (R 32), .ref (R 33), .ref (R 34), .ref (R 35), .ref (R 36), .ref (R 37), .ref (R 38), .ref (R 39), .ref (R 40), .ref (R 41), .int 0])), ((R 0), .inl ((C 0), 7, .inl (fun _ => 0)))] [((C 0), .int)] sz)) (va_Qi (fun (r : Int32) (_ : Unit) => r = (-1)) (fun _ _ => True) (va_A [(h0, .inr (5, [.ref (R 0), .int 0, .int 0, .int 0, .int 0, .int 3, .int 20, .int 0, .int 0, .int 0, .int 0, .ref (R 11), .ref (R 12), .ref (R 13), .ref (R 14), .ref (R 15), .ref (R 16), .ref (R 17), .ref (R 18), .ref (R 19), .ref (R 20), .ref (R 21), .ref (R 22), .ref (R 23), .ref (R 24), .ref (R 25), .ref (R 26), .ref (R 27), .ref (R 28), .ref (R 29), .ref (R 30), .ref (R 31), .ref (R 32), .ref (R 33), .ref (R 34), .ref (R 35), .ref (R 36), .ref (R 37), .ref (R 38), .ref (R 39), .ref (R 40), .ref (R 41), .int 0])), ((R 0), .inl ((C 0), 7, .inl (fun _ => 0)))] sz)) 0 0 (va_A [(h0, .inr (5, [.ref (R 0), .int 0, .int 0, .int 0, .int 0, .int 3, .int 20, .int 0, .int 0, .int 0, .int 0, .ref (R 11), .ref (R 12), .ref (R 13), .ref (R 14), .ref (R 15), .ref (R 16), .ref (R 17), .ref (R 18), .ref (R 19), .ref (R 20), .ref (R 21), .ref (R 22), .ref (R 23), .ref (R 24), .ref (R 25), .ref (R 26), .ref (R 27), .ref (R 28), .ref (R 29), .ref (R 30), .ref (R 31), .ref (R 32), .ref (R 33), .ref (R 34), .ref (R 35), .ref (R 36), .ref (R 37), .ref (R 38), .ref (R 39), .ref (R 40), .ref (R 41), .int 0])), ((R 0), .inl ((C 0), 7, .inl (fun _ => 0)))] sz) := by
  refine Met.ofW (cc := cX4_set) (maxL := 5) (ret := (some .int)) (by decide) rfl ?_
  intro p e s m args below meth c s₁ B hml hv
  obtain ⟨rfl, hsz, hP, hK, hD0⟩ := hv
  have hx := B.exec
  have hb := B.bytes
  have hr := B.returns
  have hts := atoms_spec (ws := wsX4_set) B.pre
  have hown : s.vm.findClass RX4 = some m.cls := findClass_of_methodNamed B.named
  have hlocks := B.notSynchronized
  subst hsz
  have hD := hD0.self (sz := s.heap.size)
  generalize hAe : va_A [(h0, .inr (5, [.ref (R 0), .int 0, .int 0, .int 0, .int 0, .int 3, .int 20, .int 0, .int 0, .int 0, .int 0, .ref (R 11), .ref (R 12), .ref (R 13), .ref (R 14), .ref (R 15), .ref (R 16), .ref (R 17), .ref (R 18), .ref (R 19), .ref (R 20), .ref (R 21), .ref (R 22), .ref (R 23), .ref (R 24), .ref (R 25), .ref (R 26), .ref (R 27), .ref (R 28), .ref (R 29), .ref (R 30), .ref (R 31), .ref (R 32), .ref (R 33), .ref (R 34), .ref (R 35), .ref (R 36), .ref (R 37), .ref (R 38), .ref (R 39), .ref (R 40), .ref (R 41), .int 0])), ((R 0), .inl ((C 0), 7, .inl (fun _ => 0)))] s.heap.size = A at hD ⊢
  have hA : ∀ q : Nat, s.heap.size ≤ q → A q := fun q h => by rw [← hAe]; exact Or.inr h
  have hS : va_S A s.heap s.heap [] := va_S.rf
  have hP : va_P (dC, dI) vwCl [(h0, .inr (5, [.ref (R 0), .int 0, .int 0, .int 0, .int 0, .int 3, .int 20, .int 0, .int 0, .int 0, .int 0, .ref (R 11), .ref (R 12), .ref (R 13), .ref (R 14), .ref (R 15), .ref (R 16), .ref (R 17), .ref (R 18), .ref (R 19), .ref (R 20), .ref (R 21), .ref (R 22), .ref (R 23), .ref (R 24), .ref (R 25), .ref (R 26), .ref (R 27), .ref (R 28), .ref (R 29), .ref (R 30), .ref (R 31), .ref (R 32), .ref (R 33), .ref (R 34), .ref (R 35), .ref (R 36), .ref (R 37), .ref (R 38), .ref (R 39), .ref (R 40), .ref (R 41), .int 0])), ((R 0), .inl ((C 0), 7, .inl (fun _ => 0)))] s.heap := hP
  have hl := lv_entry ([.ref h0, .int a1, .int a2, .int a3]) (n := 5) (Nat.le_of_ble_eq_true rfl)
  rw [lg_entry_eq]
  generalize (lg_sl ([.ref h0, .int a1, .int a2, .int a3]) ++ List.replicate (5 - (lg_sl ([.ref h0, .int a1, .int a2, .int a3])).length) Slot.unset).toArray = ls at hl ⊢
  have hl : lv_has ls 5 [(0, .ref h0), (1, .int a1), (2, .int a2), (3, .int a3)] := hl
  refine lv_aload_n hx hb dX4_set_0 rfl (lv_at hl 0 rfl) ?_
  refine lv_iload_n hx hb dX4_set_1 rfl (lv_at hl 1 rfl) ?_
  have hPc := hP.sub (ws' := [(h0, .inr (5, [.ref (R 0), .int 0, .int 0, .int 0, .int 0, .int 3, .int 20, .int 0, .int 0, .int 0, .int 0, .ref (R 11), .ref (R 12), .ref (R 13), .ref (R 14), .ref (R 15), .ref (R 16), .ref (R 17), .ref (R 18), .ref (R 19), .ref (R 20), .ref (R 21), .ref (R 22), .ref (R 23), .ref (R 24), .ref (R 25), .ref (R 26), .ref (R 27), .ref (R 28), .ref (R 29), .ref (R 30), .ref (R 31), .ref (R 32), .ref (R 33), .ref (R 34), .ref (R 35), .ref (R 36), .ref (R 37), .ref (R 38), .ref (R 39), .ref (R 40), .ref (R 41), .int 0]))]) [0] rfl
  have hDc := hD.sub (ws' := [(h0, .inr (5, [.ref (R 0), .int 0, .int 0, .int 0, .int 0, .int 3, .int 20, .int 0, .int 0, .int 0, .int 0, .ref (R 11), .ref (R 12), .ref (R 13), .ref (R 14), .ref (R 15), .ref (R 16), .ref (R 17), .ref (R 18), .ref (R 19), .ref (R 20), .ref (R 21), .ref (R 22), .ref (R 23), .ref (R 24), .ref (R 25), .ref (R 26), .ref (R 27), .ref (R 28), .ref (R 29), .ref (R 30), .ref (R 31), .ref (R 32), .ref (R 33), .ref (R 34), .ref (R 35), .ref (R 36), .ref (R 37), .ref (R 38), .ref (R 39), .ref (R 40), .ref (R 41), .int 0]))]) [0] (by decide) rfl
  have hKc := hK.sub (tys' := []) [] rfl
  have hFc := pz_f hA hS
  refine va_calli (va_runV (As := [.int a1]) (rest := []) ⟨hx, hb, hml, hown, hts⟩ (k_X4_isServer l dC dI h0 R a1 s.heap.size) (cwV 1 hts gX4_set_X4_isServer rfl rfl rfl (by decide +kernel) ⟨Nat.le_of_ble_eq_true rfl, Nat.le_of_ble_eq_true rfl⟩) ⟨pz_blind, va_recv hKc hPc (ci := 5) (q0 := 0) rfl rfl, fun U hU hW => ⟨rfl, pz_at hPc hKc hDc hU hW⟩⟩ rfl rfl hl.1 rfl (lv_room (Nat.le_of_ble_eq_true rfl)) dX4_set_2 ⟨Nat.le_of_ble_eq_true rfl, Nat.le_of_ble_eq_true rfl⟩) hS (fun q _ h => hFc q h) hFc (fun r_1 u t H locs ht hvm hw hB hz1 hk1 hS => ?_)
  have hP := pz_keep hP hk1
  have hw : r_1 = 0 := hw
  subst hw
  refine lv_if_ne (tgt := 14) hx hb dX4_set_5 (by decide) (fun c_2 => absurd c_2 (by decide)) (fun c_2 => ?_)
  refine lv_aload_n hx hb dX4_set_8 rfl (lv_at hl 0 rfl) ?_
  refine lv_iconst (v := (-1)) hx hb dX4_set_9 (by decide) ?_
  have hPc := hP.sub (ws' := [(h0, .inr (5, [.ref (R 0), .int 0, .int 0, .int 0, .int 0, .int 3, .int 20, .int 0, .int 0, .int 0, .int 0, .ref (R 11), .ref (R 12), .ref (R 13), .ref (R 14), .ref (R 15), .ref (R 16), .ref (R 17), .ref (R 18), .ref (R 19), .ref (R 20), .ref (R 21), .ref (R 22), .ref (R 23), .ref (R 24), .ref (R 25), .ref (R 26), .ref (R 27), .ref (R 28), .ref (R 29), .ref (R 30), .ref (R 31), .ref (R 32), .ref (R 33), .ref (R 34), .ref (R 35), .ref (R 36), .ref (R 37), .ref (R 38), .ref (R 39), .ref (R 40), .ref (R 41), .int 0])), ((R 0), .inl ((C 0), 7, .inl (fun _ => 0)))]) [0, 1] rfl
  have hDc := hD.sub (ws' := [(h0, .inr (5, [.ref (R 0), .int 0, .int 0, .int 0, .int 0, .int 3, .int 20, .int 0, .int 0, .int 0, .int 0, .ref (R 11), .ref (R 12), .ref (R 13), .ref (R 14), .ref (R 15), .ref (R 16), .ref (R 17), .ref (R 18), .ref (R 19), .ref (R 20), .ref (R 21), .ref (R 22), .ref (R 23), .ref (R 24), .ref (R 25), .ref (R 26), .ref (R 27), .ref (R 28), .ref (R 29), .ref (R 30), .ref (R 31), .ref (R 32), .ref (R 33), .ref (R 34), .ref (R 35), .ref (R 36), .ref (R 37), .ref (R 38), .ref (R 39), .ref (R 40), .ref (R 41), .int 0])), ((R 0), .inl ((C 0), 7, .inl (fun _ => 0)))]) [0, 1] (by decide) rfl
  have hKc := hK.sub (tys' := [((C 0), .int)]) [0] rfl
  have hFc := va_free (wc := [(h0, .inr (5, [.ref (R 0), .int 0, .int 0, .int 0, .int 0, .int 3, .int 20, .int 0, .int 0, .int 0, .int 0, .ref (R 11), .ref (R 12), .ref (R 13), .ref (R 14), .ref (R 15), .ref (R 16), .ref (R 17), .ref (R 18), .ref (R 19), .ref (R 20), .ref (R 21), .ref (R 22), .ref (R 23), .ref (R 24), .ref (R 25), .ref (R 26), .ref (R 27), .ref (R 28), .ref (R 29), .ref (R 30), .ref (R 31), .ref (R 32), .ref (R 33), .ref (R 34), .ref (R 35), .ref (R 36), .ref (R 37), .ref (R 38), .ref (R 39), .ref (R 40), .ref (R 41), .int 0])), ((R 0), .inl ((C 0), 7, .inl (fun _ => 0)))]) hD hS hA [0, 1] rfl
  refine va_calli (va_runV (As := [.int (-1)]) (rest := []) ⟨hx, hb, hml, hown, hts⟩ (k_X4_refuse1 l dC dI h0 R C H.size) (cwV 1 hts gX4_set_X4_refuse rfl rfl rfl (by decide +kernel) ⟨Nat.le_of_ble_eq_true rfl, Nat.le_of_ble_eq_true rfl⟩) ⟨pz_blind, va_recv hKc hPc (ci := 5) (q0 := 0) rfl rfl, fun U hU hW => ⟨rfl, pz_at hPc hKc hDc hU hW⟩⟩ rfl rfl hl.1 rfl (lv_room (Nat.le_of_ble_eq_true rfl)) dX4_set_10 ⟨Nat.le_of_ble_eq_true rfl, Nat.le_of_ble_eq_true rfl⟩) hS (fun q _ h => hFc q h) hFc (fun r_3 u t H locs ht hvm hw hB hz1 hk1 hS => ?_)
  obtain ⟨hP, hD⟩ := va_join (wr := []) (w1 := []) hP hD [0, 1] [] rfl rfl (by decide) (by decide) hk1 hFc pz_nilP pz_nilD
  have hP : va_P (dC, dI) vwCl [] H := hP
  have hD : va_D A [] := hD
  have hw : r_3 = (-1) := hw
  subst hw
  exact W.iret (v := (-1)) hx hb hr (fun t ht hW => ⟨⟨(-1), (), rfl, rfl, trivial⟩, hS.F ht⟩) hS.2.2 dX4_set_13

set_option maxHeartbeats 40000000 in
set_option maxRecDepth 100000 in
theorem k_X4_drain (l : Launch) (dC : Nat → ClassId) (dI : Nat → Nat → Nat) (h0 : Nat) (R : Nat → Nat) (C : Nat → ClassId) (a1 : Int32) (sz : Nat) : Met l yX4_drain wsX4_drain ({ frames := 2, cells := 0, slots := 0, locals := 42 }) (va_Pc [.ref h0, .int a1] (pzPre (dC, dI) vwCl [(h0, .inr (5, [.ref (R 0), .int 0, .int 0, .int 0, .int 0, .int 3, .int 20, .int 0, .int 0, .int 0, .int 0, .ref (R 11), .ref (R 12), .ref (R 13), .ref (R 14), .ref (R 15), .ref (R 16), .ref (R 17), .ref (R 18), .ref (R 19), .ref (R 20), .ref (R 21), .ref (R 22), .ref (R 23), .ref (R 24), .ref (R 25), .ref (R 26), .ref (R 27), .ref (R 28), .ref (R 29), .ref (R 30), .ref (R 31), .ref (R 32), .ref (R 33), .ref (R 34), .ref (R 35), .ref (R 36), .ref (R 37), .ref (R 38), .ref (R 39), .ref (R 40), .ref (R 41), .int 0])), ((R 0), .inl ((C 0), 7, .inl (fun _ => 0)))] [((C 0), .int)] sz)) (va_Qi (fun (r : Int32) (_ : Unit) => r = (-1)) (fun _ _ => True) (va_A [(h0, .inr (5, [.ref (R 0), .int 0, .int 0, .int 0, .int 0, .int 3, .int 20, .int 0, .int 0, .int 0, .int 0, .ref (R 11), .ref (R 12), .ref (R 13), .ref (R 14), .ref (R 15), .ref (R 16), .ref (R 17), .ref (R 18), .ref (R 19), .ref (R 20), .ref (R 21), .ref (R 22), .ref (R 23), .ref (R 24), .ref (R 25), .ref (R 26), .ref (R 27), .ref (R 28), .ref (R 29), .ref (R 30), .ref (R 31), .ref (R 32), .ref (R 33), .ref (R 34), .ref (R 35), .ref (R 36), .ref (R 37), .ref (R 38), .ref (R 39), .ref (R 40), .ref (R 41), .int 0])), ((R 0), .inl ((C 0), 7, .inl (fun _ => 0)))] sz)) 0 0 (va_A [(h0, .inr (5, [.ref (R 0), .int 0, .int 0, .int 0, .int 0, .int 3, .int 20, .int 0, .int 0, .int 0, .int 0, .ref (R 11), .ref (R 12), .ref (R 13), .ref (R 14), .ref (R 15), .ref (R 16), .ref (R 17), .ref (R 18), .ref (R 19), .ref (R 20), .ref (R 21), .ref (R 22), .ref (R 23), .ref (R 24), .ref (R 25), .ref (R 26), .ref (R 27), .ref (R 28), .ref (R 29), .ref (R 30), .ref (R 31), .ref (R 32), .ref (R 33), .ref (R 34), .ref (R 35), .ref (R 36), .ref (R 37), .ref (R 38), .ref (R 39), .ref (R 40), .ref (R 41), .int 0])), ((R 0), .inl ((C 0), 7, .inl (fun _ => 0)))] sz) := by
  refine Met.ofW (cc := cX4_drain) (maxL := 2) (ret := (some .int)) (by decide) rfl ?_
  intro p e s m args below meth c s₁ B hml hv
  obtain ⟨rfl, hsz, hP, hK, hD0⟩ := hv
  have hx := B.exec
  have hb := B.bytes
  have hr := B.returns
  have hts := atoms_spec (ws := wsX4_drain) B.pre
  have hown : s.vm.findClass RX4 = some m.cls := findClass_of_methodNamed B.named
  have hlocks := B.notSynchronized
  subst hsz
  have hD := hD0.self (sz := s.heap.size)
  generalize hAe : va_A [(h0, .inr (5, [.ref (R 0), .int 0, .int 0, .int 0, .int 0, .int 3, .int 20, .int 0, .int 0, .int 0, .int 0, .ref (R 11), .ref (R 12), .ref (R 13), .ref (R 14), .ref (R 15), .ref (R 16), .ref (R 17), .ref (R 18), .ref (R 19), .ref (R 20), .ref (R 21), .ref (R 22), .ref (R 23), .ref (R 24), .ref (R 25), .ref (R 26), .ref (R 27), .ref (R 28), .ref (R 29), .ref (R 30), .ref (R 31), .ref (R 32), .ref (R 33), .ref (R 34), .ref (R 35), .ref (R 36), .ref (R 37), .ref (R 38), .ref (R 39), .ref (R 40), .ref (R 41), .int 0])), ((R 0), .inl ((C 0), 7, .inl (fun _ => 0)))] s.heap.size = A at hD ⊢
  have hA : ∀ q : Nat, s.heap.size ≤ q → A q := fun q h => by rw [← hAe]; exact Or.inr h
  have hS : va_S A s.heap s.heap [] := va_S.rf
  have hP : va_P (dC, dI) vwCl [(h0, .inr (5, [.ref (R 0), .int 0, .int 0, .int 0, .int 0, .int 3, .int 20, .int 0, .int 0, .int 0, .int 0, .ref (R 11), .ref (R 12), .ref (R 13), .ref (R 14), .ref (R 15), .ref (R 16), .ref (R 17), .ref (R 18), .ref (R 19), .ref (R 20), .ref (R 21), .ref (R 22), .ref (R 23), .ref (R 24), .ref (R 25), .ref (R 26), .ref (R 27), .ref (R 28), .ref (R 29), .ref (R 30), .ref (R 31), .ref (R 32), .ref (R 33), .ref (R 34), .ref (R 35), .ref (R 36), .ref (R 37), .ref (R 38), .ref (R 39), .ref (R 40), .ref (R 41), .int 0])), ((R 0), .inl ((C 0), 7, .inl (fun _ => 0)))] s.heap := hP
  have hl := lv_entry ([.ref h0, .int a1]) (n := 2) (Nat.le_of_ble_eq_true rfl)
  rw [lg_entry_eq]
  generalize (lg_sl ([.ref h0, .int a1]) ++ List.replicate (2 - (lg_sl ([.ref h0, .int a1])).length) Slot.unset).toArray = ls at hl ⊢
  have hl : lv_has ls 2 [(0, .ref h0), (1, .int a1)] := hl
  refine lv_aload_n hx hb dX4_drain_0 rfl (lv_at hl 0 rfl) ?_
  refine lv_iload_n hx hb dX4_drain_1 rfl (lv_at hl 1 rfl) ?_
  have hPc := hP.sub (ws' := [(h0, .inr (5, [.ref (R 0), .int 0, .int 0, .int 0, .int 0, .int 3, .int 20, .int 0, .int 0, .int 0, .int 0, .ref (R 11), .ref (R 12), .ref (R 13), .ref (R 14), .ref (R 15), .ref (R 16), .ref (R 17), .ref (R 18), .ref (R 19), .ref (R 20), .ref (R 21), .ref (R 22), .ref (R 23), .ref (R 24), .ref (R 25), .ref (R 26), .ref (R 27), .ref (R 28), .ref (R 29), .ref (R 30), .ref (R 31), .ref (R 32), .ref (R 33), .ref (R 34), .ref (R 35), .ref (R 36), .ref (R 37), .ref (R 38), .ref (R 39), .ref (R 40), .ref (R 41), .int 0]))]) [0] rfl
  have hDc := hD.sub (ws' := [(h0, .inr (5, [.ref (R 0), .int 0, .int 0, .int 0, .int 0, .int 3, .int 20, .int 0, .int 0, .int 0, .int 0, .ref (R 11), .ref (R 12), .ref (R 13), .ref (R 14), .ref (R 15), .ref (R 16), .ref (R 17), .ref (R 18), .ref (R 19), .ref (R 20), .ref (R 21), .ref (R 22), .ref (R 23), .ref (R 24), .ref (R 25), .ref (R 26), .ref (R 27), .ref (R 28), .ref (R 29), .ref (R 30), .ref (R 31), .ref (R 32), .ref (R 33), .ref (R 34), .ref (R 35), .ref (R 36), .ref (R 37), .ref (R 38), .ref (R 39), .ref (R 40), .ref (R 41), .int 0]))]) [0] (by decide) rfl
  have hKc := hK.sub (tys' := []) [] rfl
  have hFc := pz_f hA hS
  refine va_calli (va_runV (As := [.int a1]) (rest := []) ⟨hx, hb, hml, hown, hts⟩ (k_X4_isServer l dC dI h0 R a1 s.heap.size) (cwV 1 hts gX4_drain_X4_isServer rfl rfl rfl (by decide +kernel) ⟨Nat.le_of_ble_eq_true rfl, Nat.le_of_ble_eq_true rfl⟩) ⟨pz_blind, va_recv hKc hPc (ci := 5) (q0 := 0) rfl rfl, fun U hU hW => ⟨rfl, pz_at hPc hKc hDc hU hW⟩⟩ rfl rfl hl.1 rfl (lv_room (Nat.le_of_ble_eq_true rfl)) dX4_drain_2 ⟨Nat.le_of_ble_eq_true rfl, Nat.le_of_ble_eq_true rfl⟩) hS (fun q _ h => hFc q h) hFc (fun r_1 u t H locs ht hvm hw hB hz1 hk1 hS => ?_)
  have hP := pz_keep hP hk1
  have hw : r_1 = 0 := hw
  subst hw
  refine lv_if_ne (tgt := 14) hx hb dX4_drain_5 (by decide) (fun c_2 => absurd c_2 (by decide)) (fun c_2 => ?_)
  refine lv_aload_n hx hb dX4_drain_8 rfl (lv_at hl 0 rfl) ?_
  refine lv_iconst (v := (-1)) hx hb dX4_drain_9 (by decide) ?_
  have hPc := hP.sub (ws' := [(h0, .inr (5, [.ref (R 0), .int 0, .int 0, .int 0, .int 0, .int 3, .int 20, .int 0, .int 0, .int 0, .int 0, .ref (R 11), .ref (R 12), .ref (R 13), .ref (R 14), .ref (R 15), .ref (R 16), .ref (R 17), .ref (R 18), .ref (R 19), .ref (R 20), .ref (R 21), .ref (R 22), .ref (R 23), .ref (R 24), .ref (R 25), .ref (R 26), .ref (R 27), .ref (R 28), .ref (R 29), .ref (R 30), .ref (R 31), .ref (R 32), .ref (R 33), .ref (R 34), .ref (R 35), .ref (R 36), .ref (R 37), .ref (R 38), .ref (R 39), .ref (R 40), .ref (R 41), .int 0])), ((R 0), .inl ((C 0), 7, .inl (fun _ => 0)))]) [0, 1] rfl
  have hDc := hD.sub (ws' := [(h0, .inr (5, [.ref (R 0), .int 0, .int 0, .int 0, .int 0, .int 3, .int 20, .int 0, .int 0, .int 0, .int 0, .ref (R 11), .ref (R 12), .ref (R 13), .ref (R 14), .ref (R 15), .ref (R 16), .ref (R 17), .ref (R 18), .ref (R 19), .ref (R 20), .ref (R 21), .ref (R 22), .ref (R 23), .ref (R 24), .ref (R 25), .ref (R 26), .ref (R 27), .ref (R 28), .ref (R 29), .ref (R 30), .ref (R 31), .ref (R 32), .ref (R 33), .ref (R 34), .ref (R 35), .ref (R 36), .ref (R 37), .ref (R 38), .ref (R 39), .ref (R 40), .ref (R 41), .int 0])), ((R 0), .inl ((C 0), 7, .inl (fun _ => 0)))]) [0, 1] (by decide) rfl
  have hKc := hK.sub (tys' := [((C 0), .int)]) [0] rfl
  have hFc := va_free (wc := [(h0, .inr (5, [.ref (R 0), .int 0, .int 0, .int 0, .int 0, .int 3, .int 20, .int 0, .int 0, .int 0, .int 0, .ref (R 11), .ref (R 12), .ref (R 13), .ref (R 14), .ref (R 15), .ref (R 16), .ref (R 17), .ref (R 18), .ref (R 19), .ref (R 20), .ref (R 21), .ref (R 22), .ref (R 23), .ref (R 24), .ref (R 25), .ref (R 26), .ref (R 27), .ref (R 28), .ref (R 29), .ref (R 30), .ref (R 31), .ref (R 32), .ref (R 33), .ref (R 34), .ref (R 35), .ref (R 36), .ref (R 37), .ref (R 38), .ref (R 39), .ref (R 40), .ref (R 41), .int 0])), ((R 0), .inl ((C 0), 7, .inl (fun _ => 0)))]) hD hS hA [0, 1] rfl
  refine va_calli (va_runV (As := [.int (-1)]) (rest := []) ⟨hx, hb, hml, hown, hts⟩ (k_X4_refuse1 l dC dI h0 R C H.size) (cwV 1 hts gX4_drain_X4_refuse rfl rfl rfl (by decide +kernel) ⟨Nat.le_of_ble_eq_true rfl, Nat.le_of_ble_eq_true rfl⟩) ⟨pz_blind, va_recv hKc hPc (ci := 5) (q0 := 0) rfl rfl, fun U hU hW => ⟨rfl, pz_at hPc hKc hDc hU hW⟩⟩ rfl rfl hl.1 rfl (lv_room (Nat.le_of_ble_eq_true rfl)) dX4_drain_10 ⟨Nat.le_of_ble_eq_true rfl, Nat.le_of_ble_eq_true rfl⟩) hS (fun q _ h => hFc q h) hFc (fun r_3 u t H locs ht hvm hw hB hz1 hk1 hS => ?_)
  obtain ⟨hP, hD⟩ := va_join (wr := []) (w1 := []) hP hD [0, 1] [] rfl rfl (by decide) (by decide) hk1 hFc pz_nilP pz_nilD
  have hP : va_P (dC, dI) vwCl [] H := hP
  have hD : va_D A [] := hD
  have hw : r_3 = (-1) := hw
  subst hw
  exact W.iret (v := (-1)) hx hb hr (fun t ht hW => ⟨⟨(-1), (), rfl, rfl, trivial⟩, hS.F ht⟩) hS.2.2 dX4_drain_13

set_option maxHeartbeats 40000000 in
set_option maxRecDepth 100000 in
theorem k_X4_back (l : Launch) (dC : Nat → ClassId) (dI : Nat → Nat → Nat) (h0 : Nat) (R : Nat → Nat) (C : Nat → ClassId) (a1 : Int32) (sz : Nat) : Met l yX4_back wsX4_back ({ frames := 2, cells := 0, slots := 0, locals := 42 }) (va_Pc [.ref h0, .int a1] (pzPre (dC, dI) vwCl [(h0, .inr (5, [.ref (R 0), .int 0, .int 0, .int 0, .int 0, .int 3, .int 20, .int 0, .int 0, .int 0, .int 0, .ref (R 11), .ref (R 12), .ref (R 13), .ref (R 14), .ref (R 15), .ref (R 16), .ref (R 17), .ref (R 18), .ref (R 19), .ref (R 20), .ref (R 21), .ref (R 22), .ref (R 23), .ref (R 24), .ref (R 25), .ref (R 26), .ref (R 27), .ref (R 28), .ref (R 29), .ref (R 30), .ref (R 31), .ref (R 32), .ref (R 33), .ref (R 34), .ref (R 35), .ref (R 36), .ref (R 37), .ref (R 38), .ref (R 39), .ref (R 40), .ref (R 41), .int 0])), ((R 0), .inl ((C 0), 7, .inl (fun _ => 0)))] [((C 0), .int)] sz)) (va_Qi (fun (r : Int32) (_ : Unit) => r = (-1)) (fun _ _ => True) (va_A [(h0, .inr (5, [.ref (R 0), .int 0, .int 0, .int 0, .int 0, .int 3, .int 20, .int 0, .int 0, .int 0, .int 0, .ref (R 11), .ref (R 12), .ref (R 13), .ref (R 14), .ref (R 15), .ref (R 16), .ref (R 17), .ref (R 18), .ref (R 19), .ref (R 20), .ref (R 21), .ref (R 22), .ref (R 23), .ref (R 24), .ref (R 25), .ref (R 26), .ref (R 27), .ref (R 28), .ref (R 29), .ref (R 30), .ref (R 31), .ref (R 32), .ref (R 33), .ref (R 34), .ref (R 35), .ref (R 36), .ref (R 37), .ref (R 38), .ref (R 39), .ref (R 40), .ref (R 41), .int 0])), ((R 0), .inl ((C 0), 7, .inl (fun _ => 0)))] sz)) 0 0 (va_A [(h0, .inr (5, [.ref (R 0), .int 0, .int 0, .int 0, .int 0, .int 3, .int 20, .int 0, .int 0, .int 0, .int 0, .ref (R 11), .ref (R 12), .ref (R 13), .ref (R 14), .ref (R 15), .ref (R 16), .ref (R 17), .ref (R 18), .ref (R 19), .ref (R 20), .ref (R 21), .ref (R 22), .ref (R 23), .ref (R 24), .ref (R 25), .ref (R 26), .ref (R 27), .ref (R 28), .ref (R 29), .ref (R 30), .ref (R 31), .ref (R 32), .ref (R 33), .ref (R 34), .ref (R 35), .ref (R 36), .ref (R 37), .ref (R 38), .ref (R 39), .ref (R 40), .ref (R 41), .int 0])), ((R 0), .inl ((C 0), 7, .inl (fun _ => 0)))] sz) := by
  refine Met.ofW (cc := cX4_back) (maxL := 2) (ret := (some .int)) (by decide) rfl ?_
  intro p e s m args below meth c s₁ B hml hv
  obtain ⟨rfl, hsz, hP, hK, hD0⟩ := hv
  have hx := B.exec
  have hb := B.bytes
  have hr := B.returns
  have hts := atoms_spec (ws := wsX4_back) B.pre
  have hown : s.vm.findClass RX4 = some m.cls := findClass_of_methodNamed B.named
  have hlocks := B.notSynchronized
  subst hsz
  have hD := hD0.self (sz := s.heap.size)
  generalize hAe : va_A [(h0, .inr (5, [.ref (R 0), .int 0, .int 0, .int 0, .int 0, .int 3, .int 20, .int 0, .int 0, .int 0, .int 0, .ref (R 11), .ref (R 12), .ref (R 13), .ref (R 14), .ref (R 15), .ref (R 16), .ref (R 17), .ref (R 18), .ref (R 19), .ref (R 20), .ref (R 21), .ref (R 22), .ref (R 23), .ref (R 24), .ref (R 25), .ref (R 26), .ref (R 27), .ref (R 28), .ref (R 29), .ref (R 30), .ref (R 31), .ref (R 32), .ref (R 33), .ref (R 34), .ref (R 35), .ref (R 36), .ref (R 37), .ref (R 38), .ref (R 39), .ref (R 40), .ref (R 41), .int 0])), ((R 0), .inl ((C 0), 7, .inl (fun _ => 0)))] s.heap.size = A at hD ⊢
  have hA : ∀ q : Nat, s.heap.size ≤ q → A q := fun q h => by rw [← hAe]; exact Or.inr h
  have hS : va_S A s.heap s.heap [] := va_S.rf
  have hP : va_P (dC, dI) vwCl [(h0, .inr (5, [.ref (R 0), .int 0, .int 0, .int 0, .int 0, .int 3, .int 20, .int 0, .int 0, .int 0, .int 0, .ref (R 11), .ref (R 12), .ref (R 13), .ref (R 14), .ref (R 15), .ref (R 16), .ref (R 17), .ref (R 18), .ref (R 19), .ref (R 20), .ref (R 21), .ref (R 22), .ref (R 23), .ref (R 24), .ref (R 25), .ref (R 26), .ref (R 27), .ref (R 28), .ref (R 29), .ref (R 30), .ref (R 31), .ref (R 32), .ref (R 33), .ref (R 34), .ref (R 35), .ref (R 36), .ref (R 37), .ref (R 38), .ref (R 39), .ref (R 40), .ref (R 41), .int 0])), ((R 0), .inl ((C 0), 7, .inl (fun _ => 0)))] s.heap := hP
  have hl := lv_entry ([.ref h0, .int a1]) (n := 2) (Nat.le_of_ble_eq_true rfl)
  rw [lg_entry_eq]
  generalize (lg_sl ([.ref h0, .int a1]) ++ List.replicate (2 - (lg_sl ([.ref h0, .int a1])).length) Slot.unset).toArray = ls at hl ⊢
  have hl : lv_has ls 2 [(0, .ref h0), (1, .int a1)] := hl
  refine lv_aload_n hx hb dX4_back_0 rfl (lv_at hl 0 rfl) ?_
  refine lv_iload_n hx hb dX4_back_1 rfl (lv_at hl 1 rfl) ?_
  have hPc := hP.sub (ws' := [(h0, .inr (5, [.ref (R 0), .int 0, .int 0, .int 0, .int 0, .int 3, .int 20, .int 0, .int 0, .int 0, .int 0, .ref (R 11), .ref (R 12), .ref (R 13), .ref (R 14), .ref (R 15), .ref (R 16), .ref (R 17), .ref (R 18), .ref (R 19), .ref (R 20), .ref (R 21), .ref (R 22), .ref (R 23), .ref (R 24), .ref (R 25), .ref (R 26), .ref (R 27), .ref (R 28), .ref (R 29), .ref (R 30), .ref (R 31), .ref (R 32), .ref (R 33), .ref (R 34), .ref (R 35), .ref (R 36), .ref (R 37), .ref (R 38), .ref (R 39), .ref (R 40), .ref (R 41), .int 0]))]) [0] rfl
  have hDc := hD.sub (ws' := [(h0, .inr (5, [.ref (R 0), .int 0, .int 0, .int 0, .int 0, .int 3, .int 20, .int 0, .int 0, .int 0, .int 0, .ref (R 11), .ref (R 12), .ref (R 13), .ref (R 14), .ref (R 15), .ref (R 16), .ref (R 17), .ref (R 18), .ref (R 19), .ref (R 20), .ref (R 21), .ref (R 22), .ref (R 23), .ref (R 24), .ref (R 25), .ref (R 26), .ref (R 27), .ref (R 28), .ref (R 29), .ref (R 30), .ref (R 31), .ref (R 32), .ref (R 33), .ref (R 34), .ref (R 35), .ref (R 36), .ref (R 37), .ref (R 38), .ref (R 39), .ref (R 40), .ref (R 41), .int 0]))]) [0] (by decide) rfl
  have hKc := hK.sub (tys' := []) [] rfl
  have hFc := pz_f hA hS
  refine va_calli (va_runV (As := [.int a1]) (rest := []) ⟨hx, hb, hml, hown, hts⟩ (k_X4_isServer l dC dI h0 R a1 s.heap.size) (cwV 1 hts gX4_back_X4_isServer rfl rfl rfl (by decide +kernel) ⟨Nat.le_of_ble_eq_true rfl, Nat.le_of_ble_eq_true rfl⟩) ⟨pz_blind, va_recv hKc hPc (ci := 5) (q0 := 0) rfl rfl, fun U hU hW => ⟨rfl, pz_at hPc hKc hDc hU hW⟩⟩ rfl rfl hl.1 rfl (lv_room (Nat.le_of_ble_eq_true rfl)) dX4_back_2 ⟨Nat.le_of_ble_eq_true rfl, Nat.le_of_ble_eq_true rfl⟩) hS (fun q _ h => hFc q h) hFc (fun r_1 u t H locs ht hvm hw hB hz1 hk1 hS => ?_)
  have hP := pz_keep hP hk1
  have hw : r_1 = 0 := hw
  subst hw
  refine lv_if_ne (tgt := 14) hx hb dX4_back_5 (by decide) (fun c_2 => absurd c_2 (by decide)) (fun c_2 => ?_)
  refine lv_aload_n hx hb dX4_back_8 rfl (lv_at hl 0 rfl) ?_
  refine lv_iconst (v := (-1)) hx hb dX4_back_9 (by decide) ?_
  have hPc := hP.sub (ws' := [(h0, .inr (5, [.ref (R 0), .int 0, .int 0, .int 0, .int 0, .int 3, .int 20, .int 0, .int 0, .int 0, .int 0, .ref (R 11), .ref (R 12), .ref (R 13), .ref (R 14), .ref (R 15), .ref (R 16), .ref (R 17), .ref (R 18), .ref (R 19), .ref (R 20), .ref (R 21), .ref (R 22), .ref (R 23), .ref (R 24), .ref (R 25), .ref (R 26), .ref (R 27), .ref (R 28), .ref (R 29), .ref (R 30), .ref (R 31), .ref (R 32), .ref (R 33), .ref (R 34), .ref (R 35), .ref (R 36), .ref (R 37), .ref (R 38), .ref (R 39), .ref (R 40), .ref (R 41), .int 0])), ((R 0), .inl ((C 0), 7, .inl (fun _ => 0)))]) [0, 1] rfl
  have hDc := hD.sub (ws' := [(h0, .inr (5, [.ref (R 0), .int 0, .int 0, .int 0, .int 0, .int 3, .int 20, .int 0, .int 0, .int 0, .int 0, .ref (R 11), .ref (R 12), .ref (R 13), .ref (R 14), .ref (R 15), .ref (R 16), .ref (R 17), .ref (R 18), .ref (R 19), .ref (R 20), .ref (R 21), .ref (R 22), .ref (R 23), .ref (R 24), .ref (R 25), .ref (R 26), .ref (R 27), .ref (R 28), .ref (R 29), .ref (R 30), .ref (R 31), .ref (R 32), .ref (R 33), .ref (R 34), .ref (R 35), .ref (R 36), .ref (R 37), .ref (R 38), .ref (R 39), .ref (R 40), .ref (R 41), .int 0])), ((R 0), .inl ((C 0), 7, .inl (fun _ => 0)))]) [0, 1] (by decide) rfl
  have hKc := hK.sub (tys' := [((C 0), .int)]) [0] rfl
  have hFc := va_free (wc := [(h0, .inr (5, [.ref (R 0), .int 0, .int 0, .int 0, .int 0, .int 3, .int 20, .int 0, .int 0, .int 0, .int 0, .ref (R 11), .ref (R 12), .ref (R 13), .ref (R 14), .ref (R 15), .ref (R 16), .ref (R 17), .ref (R 18), .ref (R 19), .ref (R 20), .ref (R 21), .ref (R 22), .ref (R 23), .ref (R 24), .ref (R 25), .ref (R 26), .ref (R 27), .ref (R 28), .ref (R 29), .ref (R 30), .ref (R 31), .ref (R 32), .ref (R 33), .ref (R 34), .ref (R 35), .ref (R 36), .ref (R 37), .ref (R 38), .ref (R 39), .ref (R 40), .ref (R 41), .int 0])), ((R 0), .inl ((C 0), 7, .inl (fun _ => 0)))]) hD hS hA [0, 1] rfl
  refine va_calli (va_runV (As := [.int (-1)]) (rest := []) ⟨hx, hb, hml, hown, hts⟩ (k_X4_refuse1 l dC dI h0 R C H.size) (cwV 1 hts gX4_back_X4_refuse rfl rfl rfl (by decide +kernel) ⟨Nat.le_of_ble_eq_true rfl, Nat.le_of_ble_eq_true rfl⟩) ⟨pz_blind, va_recv hKc hPc (ci := 5) (q0 := 0) rfl rfl, fun U hU hW => ⟨rfl, pz_at hPc hKc hDc hU hW⟩⟩ rfl rfl hl.1 rfl (lv_room (Nat.le_of_ble_eq_true rfl)) dX4_back_10 ⟨Nat.le_of_ble_eq_true rfl, Nat.le_of_ble_eq_true rfl⟩) hS (fun q _ h => hFc q h) hFc (fun r_3 u t H locs ht hvm hw hB hz1 hk1 hS => ?_)
  obtain ⟨hP, hD⟩ := va_join (wr := []) (w1 := []) hP hD [0, 1] [] rfl rfl (by decide) (by decide) hk1 hFc pz_nilP pz_nilD
  have hP : va_P (dC, dI) vwCl [] H := hP
  have hD : va_D A [] := hD
  have hw : r_3 = (-1) := hw
  subst hw
  exact W.iret (v := (-1)) hx hb hr (fun t ht hW => ⟨⟨(-1), (), rfl, rfl, trivial⟩, hS.F ht⟩) hS.2.2 dX4_back_13

set_option maxHeartbeats 40000000 in
set_option maxRecDepth 100000 in
theorem k_X4_off (l : Launch) (dC : Nat → ClassId) (dI : Nat → Nat → Nat) (h0 : Nat) (R : Nat → Nat) (C : Nat → ClassId) (a1 : Int32) (sz : Nat) : Met l yX4_off wsX4_off ({ frames := 2, cells := 0, slots := 0, locals := 42 }) (va_Pc [.ref h0, .int a1] (pzPre (dC, dI) vwCl [(h0, .inr (5, [.ref (R 0), .int 0, .int 0, .int 0, .int 0, .int 3, .int 20, .int 0, .int 0, .int 0, .int 0, .ref (R 11), .ref (R 12), .ref (R 13), .ref (R 14), .ref (R 15), .ref (R 16), .ref (R 17), .ref (R 18), .ref (R 19), .ref (R 20), .ref (R 21), .ref (R 22), .ref (R 23), .ref (R 24), .ref (R 25), .ref (R 26), .ref (R 27), .ref (R 28), .ref (R 29), .ref (R 30), .ref (R 31), .ref (R 32), .ref (R 33), .ref (R 34), .ref (R 35), .ref (R 36), .ref (R 37), .ref (R 38), .ref (R 39), .ref (R 40), .ref (R 41), .int 0])), ((R 0), .inl ((C 0), 7, .inl (fun _ => 0)))] [((C 0), .int)] sz)) (va_Qi (fun (r : Int32) (_ : Unit) => r = (-1)) (fun _ _ => True) (va_A [(h0, .inr (5, [.ref (R 0), .int 0, .int 0, .int 0, .int 0, .int 3, .int 20, .int 0, .int 0, .int 0, .int 0, .ref (R 11), .ref (R 12), .ref (R 13), .ref (R 14), .ref (R 15), .ref (R 16), .ref (R 17), .ref (R 18), .ref (R 19), .ref (R 20), .ref (R 21), .ref (R 22), .ref (R 23), .ref (R 24), .ref (R 25), .ref (R 26), .ref (R 27), .ref (R 28), .ref (R 29), .ref (R 30), .ref (R 31), .ref (R 32), .ref (R 33), .ref (R 34), .ref (R 35), .ref (R 36), .ref (R 37), .ref (R 38), .ref (R 39), .ref (R 40), .ref (R 41), .int 0])), ((R 0), .inl ((C 0), 7, .inl (fun _ => 0)))] sz)) 0 0 (va_A [(h0, .inr (5, [.ref (R 0), .int 0, .int 0, .int 0, .int 0, .int 3, .int 20, .int 0, .int 0, .int 0, .int 0, .ref (R 11), .ref (R 12), .ref (R 13), .ref (R 14), .ref (R 15), .ref (R 16), .ref (R 17), .ref (R 18), .ref (R 19), .ref (R 20), .ref (R 21), .ref (R 22), .ref (R 23), .ref (R 24), .ref (R 25), .ref (R 26), .ref (R 27), .ref (R 28), .ref (R 29), .ref (R 30), .ref (R 31), .ref (R 32), .ref (R 33), .ref (R 34), .ref (R 35), .ref (R 36), .ref (R 37), .ref (R 38), .ref (R 39), .ref (R 40), .ref (R 41), .int 0])), ((R 0), .inl ((C 0), 7, .inl (fun _ => 0)))] sz) := by
  refine Met.ofW (cc := cX4_off) (maxL := 2) (ret := (some .int)) (by decide) rfl ?_
  intro p e s m args below meth c s₁ B hml hv
  obtain ⟨rfl, hsz, hP, hK, hD0⟩ := hv
  have hx := B.exec
  have hb := B.bytes
  have hr := B.returns
  have hts := atoms_spec (ws := wsX4_off) B.pre
  have hown : s.vm.findClass RX4 = some m.cls := findClass_of_methodNamed B.named
  have hlocks := B.notSynchronized
  subst hsz
  have hD := hD0.self (sz := s.heap.size)
  generalize hAe : va_A [(h0, .inr (5, [.ref (R 0), .int 0, .int 0, .int 0, .int 0, .int 3, .int 20, .int 0, .int 0, .int 0, .int 0, .ref (R 11), .ref (R 12), .ref (R 13), .ref (R 14), .ref (R 15), .ref (R 16), .ref (R 17), .ref (R 18), .ref (R 19), .ref (R 20), .ref (R 21), .ref (R 22), .ref (R 23), .ref (R 24), .ref (R 25), .ref (R 26), .ref (R 27), .ref (R 28), .ref (R 29), .ref (R 30), .ref (R 31), .ref (R 32), .ref (R 33), .ref (R 34), .ref (R 35), .ref (R 36), .ref (R 37), .ref (R 38), .ref (R 39), .ref (R 40), .ref (R 41), .int 0])), ((R 0), .inl ((C 0), 7, .inl (fun _ => 0)))] s.heap.size = A at hD ⊢
  have hA : ∀ q : Nat, s.heap.size ≤ q → A q := fun q h => by rw [← hAe]; exact Or.inr h
  have hS : va_S A s.heap s.heap [] := va_S.rf
  have hP : va_P (dC, dI) vwCl [(h0, .inr (5, [.ref (R 0), .int 0, .int 0, .int 0, .int 0, .int 3, .int 20, .int 0, .int 0, .int 0, .int 0, .ref (R 11), .ref (R 12), .ref (R 13), .ref (R 14), .ref (R 15), .ref (R 16), .ref (R 17), .ref (R 18), .ref (R 19), .ref (R 20), .ref (R 21), .ref (R 22), .ref (R 23), .ref (R 24), .ref (R 25), .ref (R 26), .ref (R 27), .ref (R 28), .ref (R 29), .ref (R 30), .ref (R 31), .ref (R 32), .ref (R 33), .ref (R 34), .ref (R 35), .ref (R 36), .ref (R 37), .ref (R 38), .ref (R 39), .ref (R 40), .ref (R 41), .int 0])), ((R 0), .inl ((C 0), 7, .inl (fun _ => 0)))] s.heap := hP
  have hl := lv_entry ([.ref h0, .int a1]) (n := 2) (Nat.le_of_ble_eq_true rfl)
  rw [lg_entry_eq]
  generalize (lg_sl ([.ref h0, .int a1]) ++ List.replicate (2 - (lg_sl ([.ref h0, .int a1])).length) Slot.unset).toArray = ls at hl ⊢
  have hl : lv_has ls 2 [(0, .ref h0), (1, .int a1)] := hl
  refine lv_aload_n hx hb dX4_off_0 rfl (lv_at hl 0 rfl) ?_
  refine lv_iload_n hx hb dX4_off_1 rfl (lv_at hl 1 rfl) ?_
  have hPc := hP.sub (ws' := [(h0, .inr (5, [.ref (R 0), .int 0, .int 0, .int 0, .int 0, .int 3, .int 20, .int 0, .int 0, .int 0, .int 0, .ref (R 11), .ref (R 12), .ref (R 13), .ref (R 14), .ref (R 15), .ref (R 16), .ref (R 17), .ref (R 18), .ref (R 19), .ref (R 20), .ref (R 21), .ref (R 22), .ref (R 23), .ref (R 24), .ref (R 25), .ref (R 26), .ref (R 27), .ref (R 28), .ref (R 29), .ref (R 30), .ref (R 31), .ref (R 32), .ref (R 33), .ref (R 34), .ref (R 35), .ref (R 36), .ref (R 37), .ref (R 38), .ref (R 39), .ref (R 40), .ref (R 41), .int 0]))]) [0] rfl
  have hDc := hD.sub (ws' := [(h0, .inr (5, [.ref (R 0), .int 0, .int 0, .int 0, .int 0, .int 3, .int 20, .int 0, .int 0, .int 0, .int 0, .ref (R 11), .ref (R 12), .ref (R 13), .ref (R 14), .ref (R 15), .ref (R 16), .ref (R 17), .ref (R 18), .ref (R 19), .ref (R 20), .ref (R 21), .ref (R 22), .ref (R 23), .ref (R 24), .ref (R 25), .ref (R 26), .ref (R 27), .ref (R 28), .ref (R 29), .ref (R 30), .ref (R 31), .ref (R 32), .ref (R 33), .ref (R 34), .ref (R 35), .ref (R 36), .ref (R 37), .ref (R 38), .ref (R 39), .ref (R 40), .ref (R 41), .int 0]))]) [0] (by decide) rfl
  have hKc := hK.sub (tys' := []) [] rfl
  have hFc := pz_f hA hS
  refine va_calli (va_runV (As := [.int a1]) (rest := []) ⟨hx, hb, hml, hown, hts⟩ (k_X4_isCall l dC dI h0 R a1 s.heap.size) (cwV 1 hts gX4_off_X4_isCall rfl rfl rfl (by decide +kernel) ⟨Nat.le_of_ble_eq_true rfl, Nat.le_of_ble_eq_true rfl⟩) ⟨pz_blind, va_recv hKc hPc (ci := 5) (q0 := 0) rfl rfl, fun U hU hW => ⟨rfl, pz_at hPc hKc hDc hU hW⟩⟩ rfl rfl hl.1 rfl (lv_room (Nat.le_of_ble_eq_true rfl)) dX4_off_2 ⟨Nat.le_of_ble_eq_true rfl, Nat.le_of_ble_eq_true rfl⟩) hS (fun q _ h => hFc q h) hFc (fun r_1 u t H locs ht hvm hw hB hz1 hk1 hS => ?_)
  have hP := pz_keep hP hk1
  have hw : r_1 = 0 := hw
  subst hw
  refine lv_if_ne (tgt := 14) hx hb dX4_off_5 (by decide) (fun c_2 => absurd c_2 (by decide)) (fun c_2 => ?_)
  refine lv_aload_n hx hb dX4_off_8 rfl (lv_at hl 0 rfl) ?_
  refine lv_iconst (v := (-1)) hx hb dX4_off_9 (by decide) ?_
  have hPc := hP.sub (ws' := [(h0, .inr (5, [.ref (R 0), .int 0, .int 0, .int 0, .int 0, .int 3, .int 20, .int 0, .int 0, .int 0, .int 0, .ref (R 11), .ref (R 12), .ref (R 13), .ref (R 14), .ref (R 15), .ref (R 16), .ref (R 17), .ref (R 18), .ref (R 19), .ref (R 20), .ref (R 21), .ref (R 22), .ref (R 23), .ref (R 24), .ref (R 25), .ref (R 26), .ref (R 27), .ref (R 28), .ref (R 29), .ref (R 30), .ref (R 31), .ref (R 32), .ref (R 33), .ref (R 34), .ref (R 35), .ref (R 36), .ref (R 37), .ref (R 38), .ref (R 39), .ref (R 40), .ref (R 41), .int 0])), ((R 0), .inl ((C 0), 7, .inl (fun _ => 0)))]) [0, 1] rfl
  have hDc := hD.sub (ws' := [(h0, .inr (5, [.ref (R 0), .int 0, .int 0, .int 0, .int 0, .int 3, .int 20, .int 0, .int 0, .int 0, .int 0, .ref (R 11), .ref (R 12), .ref (R 13), .ref (R 14), .ref (R 15), .ref (R 16), .ref (R 17), .ref (R 18), .ref (R 19), .ref (R 20), .ref (R 21), .ref (R 22), .ref (R 23), .ref (R 24), .ref (R 25), .ref (R 26), .ref (R 27), .ref (R 28), .ref (R 29), .ref (R 30), .ref (R 31), .ref (R 32), .ref (R 33), .ref (R 34), .ref (R 35), .ref (R 36), .ref (R 37), .ref (R 38), .ref (R 39), .ref (R 40), .ref (R 41), .int 0])), ((R 0), .inl ((C 0), 7, .inl (fun _ => 0)))]) [0, 1] (by decide) rfl
  have hKc := hK.sub (tys' := [((C 0), .int)]) [0] rfl
  have hFc := va_free (wc := [(h0, .inr (5, [.ref (R 0), .int 0, .int 0, .int 0, .int 0, .int 3, .int 20, .int 0, .int 0, .int 0, .int 0, .ref (R 11), .ref (R 12), .ref (R 13), .ref (R 14), .ref (R 15), .ref (R 16), .ref (R 17), .ref (R 18), .ref (R 19), .ref (R 20), .ref (R 21), .ref (R 22), .ref (R 23), .ref (R 24), .ref (R 25), .ref (R 26), .ref (R 27), .ref (R 28), .ref (R 29), .ref (R 30), .ref (R 31), .ref (R 32), .ref (R 33), .ref (R 34), .ref (R 35), .ref (R 36), .ref (R 37), .ref (R 38), .ref (R 39), .ref (R 40), .ref (R 41), .int 0])), ((R 0), .inl ((C 0), 7, .inl (fun _ => 0)))]) hD hS hA [0, 1] rfl
  refine va_calli (va_runV (As := [.int (-1)]) (rest := []) ⟨hx, hb, hml, hown, hts⟩ (k_X4_refuse1 l dC dI h0 R C H.size) (cwV 1 hts gX4_off_X4_refuse rfl rfl rfl (by decide +kernel) ⟨Nat.le_of_ble_eq_true rfl, Nat.le_of_ble_eq_true rfl⟩) ⟨pz_blind, va_recv hKc hPc (ci := 5) (q0 := 0) rfl rfl, fun U hU hW => ⟨rfl, pz_at hPc hKc hDc hU hW⟩⟩ rfl rfl hl.1 rfl (lv_room (Nat.le_of_ble_eq_true rfl)) dX4_off_10 ⟨Nat.le_of_ble_eq_true rfl, Nat.le_of_ble_eq_true rfl⟩) hS (fun q _ h => hFc q h) hFc (fun r_3 u t H locs ht hvm hw hB hz1 hk1 hS => ?_)
  obtain ⟨hP, hD⟩ := va_join (wr := []) (w1 := []) hP hD [0, 1] [] rfl rfl (by decide) (by decide) hk1 hFc pz_nilP pz_nilD
  have hP : va_P (dC, dI) vwCl [] H := hP
  have hD : va_D A [] := hD
  have hw : r_3 = (-1) := hw
  subst hw
  exact W.iret (v := (-1)) hx hb hr (fun t ht hW => ⟨⟨(-1), (), rfl, rfl, trivial⟩, hS.F ht⟩) hS.2.2 dX4_off_13

set_option maxHeartbeats 40000000 in
set_option maxRecDepth 100000 in
theorem k_X4_callOf (l : Launch) (dC : Nat → ClassId) (dI : Nat → Nat → Nat) (h0 : Nat) (R : Nat → Nat) (C : Nat → ClassId) (a1 : Int32) (a2 : Int32) (sz : Nat) : Met l yX4_callOf wsX4_callOf ({ frames := 2, cells := 0, slots := 0, locals := 42 }) (va_Pc [.ref h0, .int a1, .int a2] (pzPre (dC, dI) vwCl [(h0, .inr (5, [.ref (R 0), .int 0, .int 0, .int 0, .int 0, .int 3, .int 20, .int 0, .int 0, .int 0, .int 0, .ref (R 11), .ref (R 12), .ref (R 13), .ref (R 14), .ref (R 15), .ref (R 16), .ref (R 17), .ref (R 18), .ref (R 19), .ref (R 20), .ref (R 21), .ref (R 22), .ref (R 23), .ref (R 24), .ref (R 25), .ref (R 26), .ref (R 27), .ref (R 28), .ref (R 29), .ref (R 30), .ref (R 31), .ref (R 32), .ref (R 33), .ref (R 34), .ref (R 35), .ref (R 36), .ref (R 37), .ref (R 38), .ref (R 39), .ref (R 40), .ref (R 41), .int 0])), ((R 0), .inl ((C 0), 7, .inl (fun _ => 0)))] [((C 0), .int)] sz)) (va_Qi (fun (r : Int32) (_ : Unit) => r = (-1)) (fun _ _ => True) (va_A [(h0, .inr (5, [.ref (R 0), .int 0, .int 0, .int 0, .int 0, .int 3, .int 20, .int 0, .int 0, .int 0, .int 0, .ref (R 11), .ref (R 12), .ref (R 13), .ref (R 14), .ref (R 15), .ref (R 16), .ref (R 17), .ref (R 18), .ref (R 19), .ref (R 20), .ref (R 21), .ref (R 22), .ref (R 23), .ref (R 24), .ref (R 25), .ref (R 26), .ref (R 27), .ref (R 28), .ref (R 29), .ref (R 30), .ref (R 31), .ref (R 32), .ref (R 33), .ref (R 34), .ref (R 35), .ref (R 36), .ref (R 37), .ref (R 38), .ref (R 39), .ref (R 40), .ref (R 41), .int 0])), ((R 0), .inl ((C 0), 7, .inl (fun _ => 0)))] sz)) 0 0 (va_A [(h0, .inr (5, [.ref (R 0), .int 0, .int 0, .int 0, .int 0, .int 3, .int 20, .int 0, .int 0, .int 0, .int 0, .ref (R 11), .ref (R 12), .ref (R 13), .ref (R 14), .ref (R 15), .ref (R 16), .ref (R 17), .ref (R 18), .ref (R 19), .ref (R 20), .ref (R 21), .ref (R 22), .ref (R 23), .ref (R 24), .ref (R 25), .ref (R 26), .ref (R 27), .ref (R 28), .ref (R 29), .ref (R 30), .ref (R 31), .ref (R 32), .ref (R 33), .ref (R 34), .ref (R 35), .ref (R 36), .ref (R 37), .ref (R 38), .ref (R 39), .ref (R 40), .ref (R 41), .int 0])), ((R 0), .inl ((C 0), 7, .inl (fun _ => 0)))] sz) := by
  refine Met.ofW (cc := cX4_callOf) (maxL := 3) (ret := (some .int)) (by decide) rfl ?_
  intro p e s m args below meth c s₁ B hml hv
  obtain ⟨rfl, hsz, hP, hK, hD0⟩ := hv
  have hx := B.exec
  have hb := B.bytes
  have hr := B.returns
  have hts := atoms_spec (ws := wsX4_callOf) B.pre
  have hown : s.vm.findClass RX4 = some m.cls := findClass_of_methodNamed B.named
  have hlocks := B.notSynchronized
  subst hsz
  have hD := hD0.self (sz := s.heap.size)
  generalize hAe : va_A [(h0, .inr (5, [.ref (R 0), .int 0, .int 0, .int 0, .int 0, .int 3, .int 20, .int 0, .int 0, .int 0, .int 0, .ref (R 11), .ref (R 12), .ref (R 13), .ref (R 14), .ref (R 15), .ref (R 16), .ref (R 17), .ref (R 18), .ref (R 19), .ref (R 20), .ref (R 21), .ref (R 22), .ref (R 23), .ref (R 24), .ref (R 25), .ref (R 26), .ref (R 27), .ref (R 28), .ref (R 29), .ref (R 30), .ref (R 31), .ref (R 32), .ref (R 33), .ref (R 34), .ref (R 35), .ref (R 36), .ref (R 37), .ref (R 38), .ref (R 39), .ref (R 40), .ref (R 41), .int 0])), ((R 0), .inl ((C 0), 7, .inl (fun _ => 0)))] s.heap.size = A at hD ⊢
  have hA : ∀ q : Nat, s.heap.size ≤ q → A q := fun q h => by rw [← hAe]; exact Or.inr h
  have hS : va_S A s.heap s.heap [] := va_S.rf
  have hP : va_P (dC, dI) vwCl [(h0, .inr (5, [.ref (R 0), .int 0, .int 0, .int 0, .int 0, .int 3, .int 20, .int 0, .int 0, .int 0, .int 0, .ref (R 11), .ref (R 12), .ref (R 13), .ref (R 14), .ref (R 15), .ref (R 16), .ref (R 17), .ref (R 18), .ref (R 19), .ref (R 20), .ref (R 21), .ref (R 22), .ref (R 23), .ref (R 24), .ref (R 25), .ref (R 26), .ref (R 27), .ref (R 28), .ref (R 29), .ref (R 30), .ref (R 31), .ref (R 32), .ref (R 33), .ref (R 34), .ref (R 35), .ref (R 36), .ref (R 37), .ref (R 38), .ref (R 39), .ref (R 40), .ref (R 41), .int 0])), ((R 0), .inl ((C 0), 7, .inl (fun _ => 0)))] s.heap := hP
  have hl := lv_entry ([.ref h0, .int a1, .int a2]) (n := 3) (Nat.le_of_ble_eq_true rfl)
  rw [lg_entry_eq]
  generalize (lg_sl ([.ref h0, .int a1, .int a2]) ++ List.replicate (3 - (lg_sl ([.ref h0, .int a1, .int a2])).length) Slot.unset).toArray = ls at hl ⊢
  have hl : lv_has ls 3 [(0, .ref h0), (1, .int a1), (2, .int a2)] := hl
  refine lv_aload_n hx hb dX4_callOf_0 rfl (lv_at hl 0 rfl) ?_
  refine lv_iload_n hx hb dX4_callOf_1 rfl (lv_at hl 1 rfl) ?_
  have hPc := hP.sub (ws' := [(h0, .inr (5, [.ref (R 0), .int 0, .int 0, .int 0, .int 0, .int 3, .int 20, .int 0, .int 0, .int 0, .int 0, .ref (R 11), .ref (R 12), .ref (R 13), .ref (R 14), .ref (R 15), .ref (R 16), .ref (R 17), .ref (R 18), .ref (R 19), .ref (R 20), .ref (R 21), .ref (R 22), .ref (R 23), .ref (R 24), .ref (R 25), .ref (R 26), .ref (R 27), .ref (R 28), .ref (R 29), .ref (R 30), .ref (R 31), .ref (R 32), .ref (R 33), .ref (R 34), .ref (R 35), .ref (R 36), .ref (R 37), .ref (R 38), .ref (R 39), .ref (R 40), .ref (R 41), .int 0]))]) [0] rfl
  have hDc := hD.sub (ws' := [(h0, .inr (5, [.ref (R 0), .int 0, .int 0, .int 0, .int 0, .int 3, .int 20, .int 0, .int 0, .int 0, .int 0, .ref (R 11), .ref (R 12), .ref (R 13), .ref (R 14), .ref (R 15), .ref (R 16), .ref (R 17), .ref (R 18), .ref (R 19), .ref (R 20), .ref (R 21), .ref (R 22), .ref (R 23), .ref (R 24), .ref (R 25), .ref (R 26), .ref (R 27), .ref (R 28), .ref (R 29), .ref (R 30), .ref (R 31), .ref (R 32), .ref (R 33), .ref (R 34), .ref (R 35), .ref (R 36), .ref (R 37), .ref (R 38), .ref (R 39), .ref (R 40), .ref (R 41), .int 0]))]) [0] (by decide) rfl
  have hKc := hK.sub (tys' := []) [] rfl
  have hFc := pz_f hA hS
  refine va_calli (va_runV (As := [.int a1]) (rest := []) ⟨hx, hb, hml, hown, hts⟩ (k_X4_isCall l dC dI h0 R a1 s.heap.size) (cwV 1 hts gX4_callOf_X4_isCall rfl rfl rfl (by decide +kernel) ⟨Nat.le_of_ble_eq_true rfl, Nat.le_of_ble_eq_true rfl⟩) ⟨pz_blind, va_recv hKc hPc (ci := 5) (q0 := 0) rfl rfl, fun U hU hW => ⟨rfl, pz_at hPc hKc hDc hU hW⟩⟩ rfl rfl hl.1 rfl (lv_room (Nat.le_of_ble_eq_true rfl)) dX4_callOf_2 ⟨Nat.le_of_ble_eq_true rfl, Nat.le_of_ble_eq_true rfl⟩) hS (fun q _ h => hFc q h) hFc (fun r_1 u t H locs ht hvm hw hB hz1 hk1 hS => ?_)
  have hP := pz_keep hP hk1
  have hw : r_1 = 0 := hw
  subst hw
  refine lv_if_ne (tgt := 14) hx hb dX4_callOf_5 (by decide) (fun c_2 => absurd c_2 (by decide)) (fun c_2 => ?_)
  refine lv_aload_n hx hb dX4_callOf_8 rfl (lv_at hl 0 rfl) ?_
  refine lv_iconst (v := (-1)) hx hb dX4_callOf_9 (by decide) ?_
  have hPc := hP.sub (ws' := [(h0, .inr (5, [.ref (R 0), .int 0, .int 0, .int 0, .int 0, .int 3, .int 20, .int 0, .int 0, .int 0, .int 0, .ref (R 11), .ref (R 12), .ref (R 13), .ref (R 14), .ref (R 15), .ref (R 16), .ref (R 17), .ref (R 18), .ref (R 19), .ref (R 20), .ref (R 21), .ref (R 22), .ref (R 23), .ref (R 24), .ref (R 25), .ref (R 26), .ref (R 27), .ref (R 28), .ref (R 29), .ref (R 30), .ref (R 31), .ref (R 32), .ref (R 33), .ref (R 34), .ref (R 35), .ref (R 36), .ref (R 37), .ref (R 38), .ref (R 39), .ref (R 40), .ref (R 41), .int 0])), ((R 0), .inl ((C 0), 7, .inl (fun _ => 0)))]) [0, 1] rfl
  have hDc := hD.sub (ws' := [(h0, .inr (5, [.ref (R 0), .int 0, .int 0, .int 0, .int 0, .int 3, .int 20, .int 0, .int 0, .int 0, .int 0, .ref (R 11), .ref (R 12), .ref (R 13), .ref (R 14), .ref (R 15), .ref (R 16), .ref (R 17), .ref (R 18), .ref (R 19), .ref (R 20), .ref (R 21), .ref (R 22), .ref (R 23), .ref (R 24), .ref (R 25), .ref (R 26), .ref (R 27), .ref (R 28), .ref (R 29), .ref (R 30), .ref (R 31), .ref (R 32), .ref (R 33), .ref (R 34), .ref (R 35), .ref (R 36), .ref (R 37), .ref (R 38), .ref (R 39), .ref (R 40), .ref (R 41), .int 0])), ((R 0), .inl ((C 0), 7, .inl (fun _ => 0)))]) [0, 1] (by decide) rfl
  have hKc := hK.sub (tys' := [((C 0), .int)]) [0] rfl
  have hFc := va_free (wc := [(h0, .inr (5, [.ref (R 0), .int 0, .int 0, .int 0, .int 0, .int 3, .int 20, .int 0, .int 0, .int 0, .int 0, .ref (R 11), .ref (R 12), .ref (R 13), .ref (R 14), .ref (R 15), .ref (R 16), .ref (R 17), .ref (R 18), .ref (R 19), .ref (R 20), .ref (R 21), .ref (R 22), .ref (R 23), .ref (R 24), .ref (R 25), .ref (R 26), .ref (R 27), .ref (R 28), .ref (R 29), .ref (R 30), .ref (R 31), .ref (R 32), .ref (R 33), .ref (R 34), .ref (R 35), .ref (R 36), .ref (R 37), .ref (R 38), .ref (R 39), .ref (R 40), .ref (R 41), .int 0])), ((R 0), .inl ((C 0), 7, .inl (fun _ => 0)))]) hD hS hA [0, 1] rfl
  refine va_calli (va_runV (As := [.int (-1)]) (rest := []) ⟨hx, hb, hml, hown, hts⟩ (k_X4_refuse1 l dC dI h0 R C H.size) (cwV 1 hts gX4_callOf_X4_refuse rfl rfl rfl (by decide +kernel) ⟨Nat.le_of_ble_eq_true rfl, Nat.le_of_ble_eq_true rfl⟩) ⟨pz_blind, va_recv hKc hPc (ci := 5) (q0 := 0) rfl rfl, fun U hU hW => ⟨rfl, pz_at hPc hKc hDc hU hW⟩⟩ rfl rfl hl.1 rfl (lv_room (Nat.le_of_ble_eq_true rfl)) dX4_callOf_10 ⟨Nat.le_of_ble_eq_true rfl, Nat.le_of_ble_eq_true rfl⟩) hS (fun q _ h => hFc q h) hFc (fun r_3 u t H locs ht hvm hw hB hz1 hk1 hS => ?_)
  obtain ⟨hP, hD⟩ := va_join (wr := []) (w1 := []) hP hD [0, 1] [] rfl rfl (by decide) (by decide) hk1 hFc pz_nilP pz_nilD
  have hP : va_P (dC, dI) vwCl [] H := hP
  have hD : va_D A [] := hD
  have hw : r_3 = (-1) := hw
  subst hw
  exact W.iret (v := (-1)) hx hb hr (fun t ht hW => ⟨⟨(-1), (), rfl, rfl, trivial⟩, hS.F ht⟩) hS.2.2 dX4_callOf_13

set_option maxHeartbeats 40000000 in
set_option maxRecDepth 100000 in
theorem k_X4_serverOf (l : Launch) (dC : Nat → ClassId) (dI : Nat → Nat → Nat) (h0 : Nat) (R : Nat → Nat) (C : Nat → ClassId) (a1 : Int32) (a2 : Int32) (sz : Nat) : Met l yX4_serverOf wsX4_serverOf ({ frames := 2, cells := 0, slots := 0, locals := 42 }) (va_Pc [.ref h0, .int a1, .int a2] (pzPre (dC, dI) vwCl [(h0, .inr (5, [.ref (R 0), .int 0, .int 0, .int 0, .int 0, .int 3, .int 20, .int 0, .int 0, .int 0, .int 0, .ref (R 11), .ref (R 12), .ref (R 13), .ref (R 14), .ref (R 15), .ref (R 16), .ref (R 17), .ref (R 18), .ref (R 19), .ref (R 20), .ref (R 21), .ref (R 22), .ref (R 23), .ref (R 24), .ref (R 25), .ref (R 26), .ref (R 27), .ref (R 28), .ref (R 29), .ref (R 30), .ref (R 31), .ref (R 32), .ref (R 33), .ref (R 34), .ref (R 35), .ref (R 36), .ref (R 37), .ref (R 38), .ref (R 39), .ref (R 40), .ref (R 41), .int 0])), ((R 0), .inl ((C 0), 7, .inl (fun _ => 0)))] [((C 0), .int)] sz)) (va_Qi (fun (r : Int32) (_ : Unit) => r = (-1)) (fun _ _ => True) (va_A [(h0, .inr (5, [.ref (R 0), .int 0, .int 0, .int 0, .int 0, .int 3, .int 20, .int 0, .int 0, .int 0, .int 0, .ref (R 11), .ref (R 12), .ref (R 13), .ref (R 14), .ref (R 15), .ref (R 16), .ref (R 17), .ref (R 18), .ref (R 19), .ref (R 20), .ref (R 21), .ref (R 22), .ref (R 23), .ref (R 24), .ref (R 25), .ref (R 26), .ref (R 27), .ref (R 28), .ref (R 29), .ref (R 30), .ref (R 31), .ref (R 32), .ref (R 33), .ref (R 34), .ref (R 35), .ref (R 36), .ref (R 37), .ref (R 38), .ref (R 39), .ref (R 40), .ref (R 41), .int 0])), ((R 0), .inl ((C 0), 7, .inl (fun _ => 0)))] sz)) 0 0 (va_A [(h0, .inr (5, [.ref (R 0), .int 0, .int 0, .int 0, .int 0, .int 3, .int 20, .int 0, .int 0, .int 0, .int 0, .ref (R 11), .ref (R 12), .ref (R 13), .ref (R 14), .ref (R 15), .ref (R 16), .ref (R 17), .ref (R 18), .ref (R 19), .ref (R 20), .ref (R 21), .ref (R 22), .ref (R 23), .ref (R 24), .ref (R 25), .ref (R 26), .ref (R 27), .ref (R 28), .ref (R 29), .ref (R 30), .ref (R 31), .ref (R 32), .ref (R 33), .ref (R 34), .ref (R 35), .ref (R 36), .ref (R 37), .ref (R 38), .ref (R 39), .ref (R 40), .ref (R 41), .int 0])), ((R 0), .inl ((C 0), 7, .inl (fun _ => 0)))] sz) := by
  refine Met.ofW (cc := cX4_serverOf) (maxL := 3) (ret := (some .int)) (by decide) rfl ?_
  intro p e s m args below meth c s₁ B hml hv
  obtain ⟨rfl, hsz, hP, hK, hD0⟩ := hv
  have hx := B.exec
  have hb := B.bytes
  have hr := B.returns
  have hts := atoms_spec (ws := wsX4_serverOf) B.pre
  have hown : s.vm.findClass RX4 = some m.cls := findClass_of_methodNamed B.named
  have hlocks := B.notSynchronized
  subst hsz
  have hD := hD0.self (sz := s.heap.size)
  generalize hAe : va_A [(h0, .inr (5, [.ref (R 0), .int 0, .int 0, .int 0, .int 0, .int 3, .int 20, .int 0, .int 0, .int 0, .int 0, .ref (R 11), .ref (R 12), .ref (R 13), .ref (R 14), .ref (R 15), .ref (R 16), .ref (R 17), .ref (R 18), .ref (R 19), .ref (R 20), .ref (R 21), .ref (R 22), .ref (R 23), .ref (R 24), .ref (R 25), .ref (R 26), .ref (R 27), .ref (R 28), .ref (R 29), .ref (R 30), .ref (R 31), .ref (R 32), .ref (R 33), .ref (R 34), .ref (R 35), .ref (R 36), .ref (R 37), .ref (R 38), .ref (R 39), .ref (R 40), .ref (R 41), .int 0])), ((R 0), .inl ((C 0), 7, .inl (fun _ => 0)))] s.heap.size = A at hD ⊢
  have hA : ∀ q : Nat, s.heap.size ≤ q → A q := fun q h => by rw [← hAe]; exact Or.inr h
  have hS : va_S A s.heap s.heap [] := va_S.rf
  have hP : va_P (dC, dI) vwCl [(h0, .inr (5, [.ref (R 0), .int 0, .int 0, .int 0, .int 0, .int 3, .int 20, .int 0, .int 0, .int 0, .int 0, .ref (R 11), .ref (R 12), .ref (R 13), .ref (R 14), .ref (R 15), .ref (R 16), .ref (R 17), .ref (R 18), .ref (R 19), .ref (R 20), .ref (R 21), .ref (R 22), .ref (R 23), .ref (R 24), .ref (R 25), .ref (R 26), .ref (R 27), .ref (R 28), .ref (R 29), .ref (R 30), .ref (R 31), .ref (R 32), .ref (R 33), .ref (R 34), .ref (R 35), .ref (R 36), .ref (R 37), .ref (R 38), .ref (R 39), .ref (R 40), .ref (R 41), .int 0])), ((R 0), .inl ((C 0), 7, .inl (fun _ => 0)))] s.heap := hP
  have hl := lv_entry ([.ref h0, .int a1, .int a2]) (n := 3) (Nat.le_of_ble_eq_true rfl)
  rw [lg_entry_eq]
  generalize (lg_sl ([.ref h0, .int a1, .int a2]) ++ List.replicate (3 - (lg_sl ([.ref h0, .int a1, .int a2])).length) Slot.unset).toArray = ls at hl ⊢
  have hl : lv_has ls 3 [(0, .ref h0), (1, .int a1), (2, .int a2)] := hl
  refine lv_aload_n hx hb dX4_serverOf_0 rfl (lv_at hl 0 rfl) ?_
  refine lv_iload_n hx hb dX4_serverOf_1 rfl (lv_at hl 1 rfl) ?_
  have hPc := hP.sub (ws' := [(h0, .inr (5, [.ref (R 0), .int 0, .int 0, .int 0, .int 0, .int 3, .int 20, .int 0, .int 0, .int 0, .int 0, .ref (R 11), .ref (R 12), .ref (R 13), .ref (R 14), .ref (R 15), .ref (R 16), .ref (R 17), .ref (R 18), .ref (R 19), .ref (R 20), .ref (R 21), .ref (R 22), .ref (R 23), .ref (R 24), .ref (R 25), .ref (R 26), .ref (R 27), .ref (R 28), .ref (R 29), .ref (R 30), .ref (R 31), .ref (R 32), .ref (R 33), .ref (R 34), .ref (R 35), .ref (R 36), .ref (R 37), .ref (R 38), .ref (R 39), .ref (R 40), .ref (R 41), .int 0]))]) [0] rfl
  have hDc := hD.sub (ws' := [(h0, .inr (5, [.ref (R 0), .int 0, .int 0, .int 0, .int 0, .int 3, .int 20, .int 0, .int 0, .int 0, .int 0, .ref (R 11), .ref (R 12), .ref (R 13), .ref (R 14), .ref (R 15), .ref (R 16), .ref (R 17), .ref (R 18), .ref (R 19), .ref (R 20), .ref (R 21), .ref (R 22), .ref (R 23), .ref (R 24), .ref (R 25), .ref (R 26), .ref (R 27), .ref (R 28), .ref (R 29), .ref (R 30), .ref (R 31), .ref (R 32), .ref (R 33), .ref (R 34), .ref (R 35), .ref (R 36), .ref (R 37), .ref (R 38), .ref (R 39), .ref (R 40), .ref (R 41), .int 0]))]) [0] (by decide) rfl
  have hKc := hK.sub (tys' := []) [] rfl
  have hFc := pz_f hA hS
  refine va_calli (va_runV (As := [.int a1]) (rest := []) ⟨hx, hb, hml, hown, hts⟩ (k_X4_isServer l dC dI h0 R a1 s.heap.size) (cwV 1 hts gX4_serverOf_X4_isServer rfl rfl rfl (by decide +kernel) ⟨Nat.le_of_ble_eq_true rfl, Nat.le_of_ble_eq_true rfl⟩) ⟨pz_blind, va_recv hKc hPc (ci := 5) (q0 := 0) rfl rfl, fun U hU hW => ⟨rfl, pz_at hPc hKc hDc hU hW⟩⟩ rfl rfl hl.1 rfl (lv_room (Nat.le_of_ble_eq_true rfl)) dX4_serverOf_2 ⟨Nat.le_of_ble_eq_true rfl, Nat.le_of_ble_eq_true rfl⟩) hS (fun q _ h => hFc q h) hFc (fun r_1 u t H locs ht hvm hw hB hz1 hk1 hS => ?_)
  have hP := pz_keep hP hk1
  have hw : r_1 = 0 := hw
  subst hw
  refine lv_if_ne (tgt := 14) hx hb dX4_serverOf_5 (by decide) (fun c_2 => absurd c_2 (by decide)) (fun c_2 => ?_)
  refine lv_aload_n hx hb dX4_serverOf_8 rfl (lv_at hl 0 rfl) ?_
  refine lv_iconst (v := (-1)) hx hb dX4_serverOf_9 (by decide) ?_
  have hPc := hP.sub (ws' := [(h0, .inr (5, [.ref (R 0), .int 0, .int 0, .int 0, .int 0, .int 3, .int 20, .int 0, .int 0, .int 0, .int 0, .ref (R 11), .ref (R 12), .ref (R 13), .ref (R 14), .ref (R 15), .ref (R 16), .ref (R 17), .ref (R 18), .ref (R 19), .ref (R 20), .ref (R 21), .ref (R 22), .ref (R 23), .ref (R 24), .ref (R 25), .ref (R 26), .ref (R 27), .ref (R 28), .ref (R 29), .ref (R 30), .ref (R 31), .ref (R 32), .ref (R 33), .ref (R 34), .ref (R 35), .ref (R 36), .ref (R 37), .ref (R 38), .ref (R 39), .ref (R 40), .ref (R 41), .int 0])), ((R 0), .inl ((C 0), 7, .inl (fun _ => 0)))]) [0, 1] rfl
  have hDc := hD.sub (ws' := [(h0, .inr (5, [.ref (R 0), .int 0, .int 0, .int 0, .int 0, .int 3, .int 20, .int 0, .int 0, .int 0, .int 0, .ref (R 11), .ref (R 12), .ref (R 13), .ref (R 14), .ref (R 15), .ref (R 16), .ref (R 17), .ref (R 18), .ref (R 19), .ref (R 20), .ref (R 21), .ref (R 22), .ref (R 23), .ref (R 24), .ref (R 25), .ref (R 26), .ref (R 27), .ref (R 28), .ref (R 29), .ref (R 30), .ref (R 31), .ref (R 32), .ref (R 33), .ref (R 34), .ref (R 35), .ref (R 36), .ref (R 37), .ref (R 38), .ref (R 39), .ref (R 40), .ref (R 41), .int 0])), ((R 0), .inl ((C 0), 7, .inl (fun _ => 0)))]) [0, 1] (by decide) rfl
  have hKc := hK.sub (tys' := [((C 0), .int)]) [0] rfl
  have hFc := va_free (wc := [(h0, .inr (5, [.ref (R 0), .int 0, .int 0, .int 0, .int 0, .int 3, .int 20, .int 0, .int 0, .int 0, .int 0, .ref (R 11), .ref (R 12), .ref (R 13), .ref (R 14), .ref (R 15), .ref (R 16), .ref (R 17), .ref (R 18), .ref (R 19), .ref (R 20), .ref (R 21), .ref (R 22), .ref (R 23), .ref (R 24), .ref (R 25), .ref (R 26), .ref (R 27), .ref (R 28), .ref (R 29), .ref (R 30), .ref (R 31), .ref (R 32), .ref (R 33), .ref (R 34), .ref (R 35), .ref (R 36), .ref (R 37), .ref (R 38), .ref (R 39), .ref (R 40), .ref (R 41), .int 0])), ((R 0), .inl ((C 0), 7, .inl (fun _ => 0)))]) hD hS hA [0, 1] rfl
  refine va_calli (va_runV (As := [.int (-1)]) (rest := []) ⟨hx, hb, hml, hown, hts⟩ (k_X4_refuse1 l dC dI h0 R C H.size) (cwV 1 hts gX4_serverOf_X4_refuse rfl rfl rfl (by decide +kernel) ⟨Nat.le_of_ble_eq_true rfl, Nat.le_of_ble_eq_true rfl⟩) ⟨pz_blind, va_recv hKc hPc (ci := 5) (q0 := 0) rfl rfl, fun U hU hW => ⟨rfl, pz_at hPc hKc hDc hU hW⟩⟩ rfl rfl hl.1 rfl (lv_room (Nat.le_of_ble_eq_true rfl)) dX4_serverOf_10 ⟨Nat.le_of_ble_eq_true rfl, Nat.le_of_ble_eq_true rfl⟩) hS (fun q _ h => hFc q h) hFc (fun r_3 u t H locs ht hvm hw hB hz1 hk1 hS => ?_)
  obtain ⟨hP, hD⟩ := va_join (wr := []) (w1 := []) hP hD [0, 1] [] rfl rfl (by decide) (by decide) hk1 hFc pz_nilP pz_nilD
  have hP : va_P (dC, dI) vwCl [] H := hP
  have hD : va_D A [] := hD
  have hw : r_3 = (-1) := hw
  subst hw
  exact W.iret (v := (-1)) hx hb hr (fun t ht hW => ⟨⟨(-1), (), rfl, rfl, trivial⟩, hS.F ht⟩) hS.2.2 dX4_serverOf_13

set_option maxHeartbeats 40000000 in
set_option maxRecDepth 100000 in
theorem k_X4_mark (l : Launch) (dC : Nat → ClassId) (dI : Nat → Nat → Nat) (h0 : Nat) (R : Nat → Nat) (C : Nat → ClassId) (a1 : Int32) (a2 : Int32) (sz : Nat) : Met l yX4_mark wsX4_mark ({ frames := 2, cells := 0, slots := 0, locals := 42 }) (va_Pc [.ref h0, .int a1, .int a2] (pzPre (dC, dI) vwCl [(h0, .inr (5, [.ref (R 0), .int 0, .int 0, .int 0, .int 0, .int 3, .int 20, .int 0, .int 0, .int 0, .int 0, .ref (R 11), .ref (R 12), .ref (R 13), .ref (R 14), .ref (R 15), .ref (R 16), .ref (R 17), .ref (R 18), .ref (R 19), .ref (R 20), .ref (R 21), .ref (R 22), .ref (R 23), .ref (R 24), .ref (R 25), .ref (R 26), .ref (R 27), .ref (R 28), .ref (R 29), .ref (R 30), .ref (R 31), .ref (R 32), .ref (R 33), .ref (R 34), .ref (R 35), .ref (R 36), .ref (R 37), .ref (R 38), .ref (R 39), .ref (R 40), .ref (R 41), .int 0])), ((R 0), .inl ((C 0), 7, .inl (fun _ => 0)))] [((C 0), .int)] sz)) (va_Qi (fun (r : Int32) (_ : Unit) => r = (-1)) (fun _ _ => True) (va_A [(h0, .inr (5, [.ref (R 0), .int 0, .int 0, .int 0, .int 0, .int 3, .int 20, .int 0, .int 0, .int 0, .int 0, .ref (R 11), .ref (R 12), .ref (R 13), .ref (R 14), .ref (R 15), .ref (R 16), .ref (R 17), .ref (R 18), .ref (R 19), .ref (R 20), .ref (R 21), .ref (R 22), .ref (R 23), .ref (R 24), .ref (R 25), .ref (R 26), .ref (R 27), .ref (R 28), .ref (R 29), .ref (R 30), .ref (R 31), .ref (R 32), .ref (R 33), .ref (R 34), .ref (R 35), .ref (R 36), .ref (R 37), .ref (R 38), .ref (R 39), .ref (R 40), .ref (R 41), .int 0])), ((R 0), .inl ((C 0), 7, .inl (fun _ => 0)))] sz)) 0 0 (va_A [(h0, .inr (5, [.ref (R 0), .int 0, .int 0, .int 0, .int 0, .int 3, .int 20, .int 0, .int 0, .int 0, .int 0, .ref (R 11), .ref (R 12), .ref (R 13), .ref (R 14), .ref (R 15), .ref (R 16), .ref (R 17), .ref (R 18), .ref (R 19), .ref (R 20), .ref (R 21), .ref (R 22), .ref (R 23), .ref (R 24), .ref (R 25), .ref (R 26), .ref (R 27), .ref (R 28), .ref (R 29), .ref (R 30), .ref (R 31), .ref (R 32), .ref (R 33), .ref (R 34), .ref (R 35), .ref (R 36), .ref (R 37), .ref (R 38), .ref (R 39), .ref (R 40), .ref (R 41), .int 0])), ((R 0), .inl ((C 0), 7, .inl (fun _ => 0)))] sz) := by
  refine Met.ofW (cc := cX4_mark) (maxL := 3) (ret := (some .int)) (by decide) rfl ?_
  intro p e s m args below meth c s₁ B hml hv
  obtain ⟨rfl, hsz, hP, hK, hD0⟩ := hv
  have hx := B.exec
  have hb := B.bytes
  have hr := B.returns
  have hts := atoms_spec (ws := wsX4_mark) B.pre
  have hown : s.vm.findClass RX4 = some m.cls := findClass_of_methodNamed B.named
  have hlocks := B.notSynchronized
  subst hsz
  have hD := hD0.self (sz := s.heap.size)
  generalize hAe : va_A [(h0, .inr (5, [.ref (R 0), .int 0, .int 0, .int 0, .int 0, .int 3, .int 20, .int 0, .int 0, .int 0, .int 0, .ref (R 11), .ref (R 12), .ref (R 13), .ref (R 14), .ref (R 15), .ref (R 16), .ref (R 17), .ref (R 18), .ref (R 19), .ref (R 20), .ref (R 21), .ref (R 22), .ref (R 23), .ref (R 24), .ref (R 25), .ref (R 26), .ref (R 27), .ref (R 28), .ref (R 29), .ref (R 30), .ref (R 31), .ref (R 32), .ref (R 33), .ref (R 34), .ref (R 35), .ref (R 36), .ref (R 37), .ref (R 38), .ref (R 39), .ref (R 40), .ref (R 41), .int 0])), ((R 0), .inl ((C 0), 7, .inl (fun _ => 0)))] s.heap.size = A at hD ⊢
  have hA : ∀ q : Nat, s.heap.size ≤ q → A q := fun q h => by rw [← hAe]; exact Or.inr h
  have hS : va_S A s.heap s.heap [] := va_S.rf
  have hP : va_P (dC, dI) vwCl [(h0, .inr (5, [.ref (R 0), .int 0, .int 0, .int 0, .int 0, .int 3, .int 20, .int 0, .int 0, .int 0, .int 0, .ref (R 11), .ref (R 12), .ref (R 13), .ref (R 14), .ref (R 15), .ref (R 16), .ref (R 17), .ref (R 18), .ref (R 19), .ref (R 20), .ref (R 21), .ref (R 22), .ref (R 23), .ref (R 24), .ref (R 25), .ref (R 26), .ref (R 27), .ref (R 28), .ref (R 29), .ref (R 30), .ref (R 31), .ref (R 32), .ref (R 33), .ref (R 34), .ref (R 35), .ref (R 36), .ref (R 37), .ref (R 38), .ref (R 39), .ref (R 40), .ref (R 41), .int 0])), ((R 0), .inl ((C 0), 7, .inl (fun _ => 0)))] s.heap := hP
  have hl := lv_entry ([.ref h0, .int a1, .int a2]) (n := 3) (Nat.le_of_ble_eq_true rfl)
  rw [lg_entry_eq]
  generalize (lg_sl ([.ref h0, .int a1, .int a2]) ++ List.replicate (3 - (lg_sl ([.ref h0, .int a1, .int a2])).length) Slot.unset).toArray = ls at hl ⊢
  have hl : lv_has ls 3 [(0, .ref h0), (1, .int a1), (2, .int a2)] := hl
  refine lv_aload_n hx hb dX4_mark_0 rfl (lv_at hl 0 rfl) ?_
  refine lv_iload_n hx hb dX4_mark_1 rfl (lv_at hl 1 rfl) ?_
  have hPc := hP.sub (ws' := [(h0, .inr (5, [.ref (R 0), .int 0, .int 0, .int 0, .int 0, .int 3, .int 20, .int 0, .int 0, .int 0, .int 0, .ref (R 11), .ref (R 12), .ref (R 13), .ref (R 14), .ref (R 15), .ref (R 16), .ref (R 17), .ref (R 18), .ref (R 19), .ref (R 20), .ref (R 21), .ref (R 22), .ref (R 23), .ref (R 24), .ref (R 25), .ref (R 26), .ref (R 27), .ref (R 28), .ref (R 29), .ref (R 30), .ref (R 31), .ref (R 32), .ref (R 33), .ref (R 34), .ref (R 35), .ref (R 36), .ref (R 37), .ref (R 38), .ref (R 39), .ref (R 40), .ref (R 41), .int 0]))]) [0] rfl
  have hDc := hD.sub (ws' := [(h0, .inr (5, [.ref (R 0), .int 0, .int 0, .int 0, .int 0, .int 3, .int 20, .int 0, .int 0, .int 0, .int 0, .ref (R 11), .ref (R 12), .ref (R 13), .ref (R 14), .ref (R 15), .ref (R 16), .ref (R 17), .ref (R 18), .ref (R 19), .ref (R 20), .ref (R 21), .ref (R 22), .ref (R 23), .ref (R 24), .ref (R 25), .ref (R 26), .ref (R 27), .ref (R 28), .ref (R 29), .ref (R 30), .ref (R 31), .ref (R 32), .ref (R 33), .ref (R 34), .ref (R 35), .ref (R 36), .ref (R 37), .ref (R 38), .ref (R 39), .ref (R 40), .ref (R 41), .int 0]))]) [0] (by decide) rfl
  have hKc := hK.sub (tys' := []) [] rfl
  have hFc := pz_f hA hS
  refine va_calli (va_runV (As := [.int a1]) (rest := []) ⟨hx, hb, hml, hown, hts⟩ (k_X4_isServer l dC dI h0 R a1 s.heap.size) (cwV 1 hts gX4_mark_X4_isServer rfl rfl rfl (by decide +kernel) ⟨Nat.le_of_ble_eq_true rfl, Nat.le_of_ble_eq_true rfl⟩) ⟨pz_blind, va_recv hKc hPc (ci := 5) (q0 := 0) rfl rfl, fun U hU hW => ⟨rfl, pz_at hPc hKc hDc hU hW⟩⟩ rfl rfl hl.1 rfl (lv_room (Nat.le_of_ble_eq_true rfl)) dX4_mark_2 ⟨Nat.le_of_ble_eq_true rfl, Nat.le_of_ble_eq_true rfl⟩) hS (fun q _ h => hFc q h) hFc (fun r_1 u t H locs ht hvm hw hB hz1 hk1 hS => ?_)
  have hP := pz_keep hP hk1
  have hw : r_1 = 0 := hw
  subst hw
  refine lv_if_ne (tgt := 14) hx hb dX4_mark_5 (by decide) (fun c_2 => absurd c_2 (by decide)) (fun c_2 => ?_)
  refine lv_aload_n hx hb dX4_mark_8 rfl (lv_at hl 0 rfl) ?_
  refine lv_iconst (v := (-1)) hx hb dX4_mark_9 (by decide) ?_
  have hPc := hP.sub (ws' := [(h0, .inr (5, [.ref (R 0), .int 0, .int 0, .int 0, .int 0, .int 3, .int 20, .int 0, .int 0, .int 0, .int 0, .ref (R 11), .ref (R 12), .ref (R 13), .ref (R 14), .ref (R 15), .ref (R 16), .ref (R 17), .ref (R 18), .ref (R 19), .ref (R 20), .ref (R 21), .ref (R 22), .ref (R 23), .ref (R 24), .ref (R 25), .ref (R 26), .ref (R 27), .ref (R 28), .ref (R 29), .ref (R 30), .ref (R 31), .ref (R 32), .ref (R 33), .ref (R 34), .ref (R 35), .ref (R 36), .ref (R 37), .ref (R 38), .ref (R 39), .ref (R 40), .ref (R 41), .int 0])), ((R 0), .inl ((C 0), 7, .inl (fun _ => 0)))]) [0, 1] rfl
  have hDc := hD.sub (ws' := [(h0, .inr (5, [.ref (R 0), .int 0, .int 0, .int 0, .int 0, .int 3, .int 20, .int 0, .int 0, .int 0, .int 0, .ref (R 11), .ref (R 12), .ref (R 13), .ref (R 14), .ref (R 15), .ref (R 16), .ref (R 17), .ref (R 18), .ref (R 19), .ref (R 20), .ref (R 21), .ref (R 22), .ref (R 23), .ref (R 24), .ref (R 25), .ref (R 26), .ref (R 27), .ref (R 28), .ref (R 29), .ref (R 30), .ref (R 31), .ref (R 32), .ref (R 33), .ref (R 34), .ref (R 35), .ref (R 36), .ref (R 37), .ref (R 38), .ref (R 39), .ref (R 40), .ref (R 41), .int 0])), ((R 0), .inl ((C 0), 7, .inl (fun _ => 0)))]) [0, 1] (by decide) rfl
  have hKc := hK.sub (tys' := [((C 0), .int)]) [0] rfl
  have hFc := va_free (wc := [(h0, .inr (5, [.ref (R 0), .int 0, .int 0, .int 0, .int 0, .int 3, .int 20, .int 0, .int 0, .int 0, .int 0, .ref (R 11), .ref (R 12), .ref (R 13), .ref (R 14), .ref (R 15), .ref (R 16), .ref (R 17), .ref (R 18), .ref (R 19), .ref (R 20), .ref (R 21), .ref (R 22), .ref (R 23), .ref (R 24), .ref (R 25), .ref (R 26), .ref (R 27), .ref (R 28), .ref (R 29), .ref (R 30), .ref (R 31), .ref (R 32), .ref (R 33), .ref (R 34), .ref (R 35), .ref (R 36), .ref (R 37), .ref (R 38), .ref (R 39), .ref (R 40), .ref (R 41), .int 0])), ((R 0), .inl ((C 0), 7, .inl (fun _ => 0)))]) hD hS hA [0, 1] rfl
  refine va_calli (va_runV (As := [.int (-1)]) (rest := []) ⟨hx, hb, hml, hown, hts⟩ (k_X4_refuse1 l dC dI h0 R C H.size) (cwV 1 hts gX4_mark_X4_refuse rfl rfl rfl (by decide +kernel) ⟨Nat.le_of_ble_eq_true rfl, Nat.le_of_ble_eq_true rfl⟩) ⟨pz_blind, va_recv hKc hPc (ci := 5) (q0 := 0) rfl rfl, fun U hU hW => ⟨rfl, pz_at hPc hKc hDc hU hW⟩⟩ rfl rfl hl.1 rfl (lv_room (Nat.le_of_ble_eq_true rfl)) dX4_mark_10 ⟨Nat.le_of_ble_eq_true rfl, Nat.le_of_ble_eq_true rfl⟩) hS (fun q _ h => hFc q h) hFc (fun r_3 u t H locs ht hvm hw hB hz1 hk1 hS => ?_)
  obtain ⟨hP, hD⟩ := va_join (wr := []) (w1 := []) hP hD [0, 1] [] rfl rfl (by decide) (by decide) hk1 hFc pz_nilP pz_nilD
  have hP : va_P (dC, dI) vwCl [] H := hP
  have hD : va_D A [] := hD
  have hw : r_3 = (-1) := hw
  subst hw
  exact W.iret (v := (-1)) hx hb hr (fun t ht hW => ⟨⟨(-1), (), rfl, rfl, trivial⟩, hS.F ht⟩) hS.2.2 dX4_mark_13

set_option maxHeartbeats 40000000 in
set_option maxRecDepth 100000 in
theorem k_X4_share (l : Launch) (dC : Nat → ClassId) (dI : Nat → Nat → Nat) (h0 : Nat) (R : Nat → Nat) (C : Nat → ClassId) (a1 : Int32) (sz : Nat) : Met l yX4_share wsX4_share ({ frames := 2, cells := 0, slots := 0, locals := 42 }) (va_Pc [.ref h0, .int a1] (pzPre (dC, dI) vwCl [(h0, .inr (5, [.ref (R 0), .int 0, .int 0, .int 0, .int 0, .int 3, .int 20, .int 0, .int 0, .int 0, .int 0, .ref (R 11), .ref (R 12), .ref (R 13), .ref (R 14), .ref (R 15), .ref (R 16), .ref (R 17), .ref (R 18), .ref (R 19), .ref (R 20), .ref (R 21), .ref (R 22), .ref (R 23), .ref (R 24), .ref (R 25), .ref (R 26), .ref (R 27), .ref (R 28), .ref (R 29), .ref (R 30), .ref (R 31), .ref (R 32), .ref (R 33), .ref (R 34), .ref (R 35), .ref (R 36), .ref (R 37), .ref (R 38), .ref (R 39), .ref (R 40), .ref (R 41), .int 0])), ((R 0), .inl ((C 0), 7, .inl (fun _ => 0)))] [((C 0), .int)] sz)) (va_Qi (fun (r : Int32) (_ : Unit) => r = (-1)) (fun _ _ => True) (va_A [(h0, .inr (5, [.ref (R 0), .int 0, .int 0, .int 0, .int 0, .int 3, .int 20, .int 0, .int 0, .int 0, .int 0, .ref (R 11), .ref (R 12), .ref (R 13), .ref (R 14), .ref (R 15), .ref (R 16), .ref (R 17), .ref (R 18), .ref (R 19), .ref (R 20), .ref (R 21), .ref (R 22), .ref (R 23), .ref (R 24), .ref (R 25), .ref (R 26), .ref (R 27), .ref (R 28), .ref (R 29), .ref (R 30), .ref (R 31), .ref (R 32), .ref (R 33), .ref (R 34), .ref (R 35), .ref (R 36), .ref (R 37), .ref (R 38), .ref (R 39), .ref (R 40), .ref (R 41), .int 0])), ((R 0), .inl ((C 0), 7, .inl (fun _ => 0)))] sz)) 0 0 (va_A [(h0, .inr (5, [.ref (R 0), .int 0, .int 0, .int 0, .int 0, .int 3, .int 20, .int 0, .int 0, .int 0, .int 0, .ref (R 11), .ref (R 12), .ref (R 13), .ref (R 14), .ref (R 15), .ref (R 16), .ref (R 17), .ref (R 18), .ref (R 19), .ref (R 20), .ref (R 21), .ref (R 22), .ref (R 23), .ref (R 24), .ref (R 25), .ref (R 26), .ref (R 27), .ref (R 28), .ref (R 29), .ref (R 30), .ref (R 31), .ref (R 32), .ref (R 33), .ref (R 34), .ref (R 35), .ref (R 36), .ref (R 37), .ref (R 38), .ref (R 39), .ref (R 40), .ref (R 41), .int 0])), ((R 0), .inl ((C 0), 7, .inl (fun _ => 0)))] sz) := by
  refine Met.ofW (cc := cX4_share) (maxL := 2) (ret := (some .int)) (by decide) rfl ?_
  intro p e s m args below meth c s₁ B hml hv
  obtain ⟨rfl, hsz, hP, hK, hD0⟩ := hv
  have hx := B.exec
  have hb := B.bytes
  have hr := B.returns
  have hts := atoms_spec (ws := wsX4_share) B.pre
  have hown : s.vm.findClass RX4 = some m.cls := findClass_of_methodNamed B.named
  have hlocks := B.notSynchronized
  subst hsz
  have hD := hD0.self (sz := s.heap.size)
  generalize hAe : va_A [(h0, .inr (5, [.ref (R 0), .int 0, .int 0, .int 0, .int 0, .int 3, .int 20, .int 0, .int 0, .int 0, .int 0, .ref (R 11), .ref (R 12), .ref (R 13), .ref (R 14), .ref (R 15), .ref (R 16), .ref (R 17), .ref (R 18), .ref (R 19), .ref (R 20), .ref (R 21), .ref (R 22), .ref (R 23), .ref (R 24), .ref (R 25), .ref (R 26), .ref (R 27), .ref (R 28), .ref (R 29), .ref (R 30), .ref (R 31), .ref (R 32), .ref (R 33), .ref (R 34), .ref (R 35), .ref (R 36), .ref (R 37), .ref (R 38), .ref (R 39), .ref (R 40), .ref (R 41), .int 0])), ((R 0), .inl ((C 0), 7, .inl (fun _ => 0)))] s.heap.size = A at hD ⊢
  have hA : ∀ q : Nat, s.heap.size ≤ q → A q := fun q h => by rw [← hAe]; exact Or.inr h
  have hS : va_S A s.heap s.heap [] := va_S.rf
  have hP : va_P (dC, dI) vwCl [(h0, .inr (5, [.ref (R 0), .int 0, .int 0, .int 0, .int 0, .int 3, .int 20, .int 0, .int 0, .int 0, .int 0, .ref (R 11), .ref (R 12), .ref (R 13), .ref (R 14), .ref (R 15), .ref (R 16), .ref (R 17), .ref (R 18), .ref (R 19), .ref (R 20), .ref (R 21), .ref (R 22), .ref (R 23), .ref (R 24), .ref (R 25), .ref (R 26), .ref (R 27), .ref (R 28), .ref (R 29), .ref (R 30), .ref (R 31), .ref (R 32), .ref (R 33), .ref (R 34), .ref (R 35), .ref (R 36), .ref (R 37), .ref (R 38), .ref (R 39), .ref (R 40), .ref (R 41), .int 0])), ((R 0), .inl ((C 0), 7, .inl (fun _ => 0)))] s.heap := hP
  have hl := lv_entry ([.ref h0, .int a1]) (n := 2) (Nat.le_of_ble_eq_true rfl)
  rw [lg_entry_eq]
  generalize (lg_sl ([.ref h0, .int a1]) ++ List.replicate (2 - (lg_sl ([.ref h0, .int a1])).length) Slot.unset).toArray = ls at hl ⊢
  have hl : lv_has ls 2 [(0, .ref h0), (1, .int a1)] := hl
  refine lv_aload_n hx hb dX4_share_0 rfl (lv_at hl 0 rfl) ?_
  refine lv_iload_n hx hb dX4_share_1 rfl (lv_at hl 1 rfl) ?_
  have hPc := hP.sub (ws' := [(h0, .inr (5, [.ref (R 0), .int 0, .int 0, .int 0, .int 0, .int 3, .int 20, .int 0, .int 0, .int 0, .int 0, .ref (R 11), .ref (R 12), .ref (R 13), .ref (R 14), .ref (R 15), .ref (R 16), .ref (R 17), .ref (R 18), .ref (R 19), .ref (R 20), .ref (R 21), .ref (R 22), .ref (R 23), .ref (R 24), .ref (R 25), .ref (R 26), .ref (R 27), .ref (R 28), .ref (R 29), .ref (R 30), .ref (R 31), .ref (R 32), .ref (R 33), .ref (R 34), .ref (R 35), .ref (R 36), .ref (R 37), .ref (R 38), .ref (R 39), .ref (R 40), .ref (R 41), .int 0]))]) [0] rfl
  have hDc := hD.sub (ws' := [(h0, .inr (5, [.ref (R 0), .int 0, .int 0, .int 0, .int 0, .int 3, .int 20, .int 0, .int 0, .int 0, .int 0, .ref (R 11), .ref (R 12), .ref (R 13), .ref (R 14), .ref (R 15), .ref (R 16), .ref (R 17), .ref (R 18), .ref (R 19), .ref (R 20), .ref (R 21), .ref (R 22), .ref (R 23), .ref (R 24), .ref (R 25), .ref (R 26), .ref (R 27), .ref (R 28), .ref (R 29), .ref (R 30), .ref (R 31), .ref (R 32), .ref (R 33), .ref (R 34), .ref (R 35), .ref (R 36), .ref (R 37), .ref (R 38), .ref (R 39), .ref (R 40), .ref (R 41), .int 0]))]) [0] (by decide) rfl
  have hKc := hK.sub (tys' := []) [] rfl
  have hFc := pz_f hA hS
  refine va_calli (va_runV (As := [.int a1]) (rest := []) ⟨hx, hb, hml, hown, hts⟩ (k_X4_isServer l dC dI h0 R a1 s.heap.size) (cwV 1 hts gX4_share_X4_isServer rfl rfl rfl (by decide +kernel) ⟨Nat.le_of_ble_eq_true rfl, Nat.le_of_ble_eq_true rfl⟩) ⟨pz_blind, va_recv hKc hPc (ci := 5) (q0 := 0) rfl rfl, fun U hU hW => ⟨rfl, pz_at hPc hKc hDc hU hW⟩⟩ rfl rfl hl.1 rfl (lv_room (Nat.le_of_ble_eq_true rfl)) dX4_share_2 ⟨Nat.le_of_ble_eq_true rfl, Nat.le_of_ble_eq_true rfl⟩) hS (fun q _ h => hFc q h) hFc (fun r_1 u t H locs ht hvm hw hB hz1 hk1 hS => ?_)
  have hP := pz_keep hP hk1
  have hw : r_1 = 0 := hw
  subst hw
  refine lv_if_ne (tgt := 14) hx hb dX4_share_5 (by decide) (fun c_2 => absurd c_2 (by decide)) (fun c_2 => ?_)
  refine lv_aload_n hx hb dX4_share_8 rfl (lv_at hl 0 rfl) ?_
  refine lv_iconst (v := (-1)) hx hb dX4_share_9 (by decide) ?_
  have hPc := hP.sub (ws' := [(h0, .inr (5, [.ref (R 0), .int 0, .int 0, .int 0, .int 0, .int 3, .int 20, .int 0, .int 0, .int 0, .int 0, .ref (R 11), .ref (R 12), .ref (R 13), .ref (R 14), .ref (R 15), .ref (R 16), .ref (R 17), .ref (R 18), .ref (R 19), .ref (R 20), .ref (R 21), .ref (R 22), .ref (R 23), .ref (R 24), .ref (R 25), .ref (R 26), .ref (R 27), .ref (R 28), .ref (R 29), .ref (R 30), .ref (R 31), .ref (R 32), .ref (R 33), .ref (R 34), .ref (R 35), .ref (R 36), .ref (R 37), .ref (R 38), .ref (R 39), .ref (R 40), .ref (R 41), .int 0])), ((R 0), .inl ((C 0), 7, .inl (fun _ => 0)))]) [0, 1] rfl
  have hDc := hD.sub (ws' := [(h0, .inr (5, [.ref (R 0), .int 0, .int 0, .int 0, .int 0, .int 3, .int 20, .int 0, .int 0, .int 0, .int 0, .ref (R 11), .ref (R 12), .ref (R 13), .ref (R 14), .ref (R 15), .ref (R 16), .ref (R 17), .ref (R 18), .ref (R 19), .ref (R 20), .ref (R 21), .ref (R 22), .ref (R 23), .ref (R 24), .ref (R 25), .ref (R 26), .ref (R 27), .ref (R 28), .ref (R 29), .ref (R 30), .ref (R 31), .ref (R 32), .ref (R 33), .ref (R 34), .ref (R 35), .ref (R 36), .ref (R 37), .ref (R 38), .ref (R 39), .ref (R 40), .ref (R 41), .int 0])), ((R 0), .inl ((C 0), 7, .inl (fun _ => 0)))]) [0, 1] (by decide) rfl
  have hKc := hK.sub (tys' := [((C 0), .int)]) [0] rfl
  have hFc := va_free (wc := [(h0, .inr (5, [.ref (R 0), .int 0, .int 0, .int 0, .int 0, .int 3, .int 20, .int 0, .int 0, .int 0, .int 0, .ref (R 11), .ref (R 12), .ref (R 13), .ref (R 14), .ref (R 15), .ref (R 16), .ref (R 17), .ref (R 18), .ref (R 19), .ref (R 20), .ref (R 21), .ref (R 22), .ref (R 23), .ref (R 24), .ref (R 25), .ref (R 26), .ref (R 27), .ref (R 28), .ref (R 29), .ref (R 30), .ref (R 31), .ref (R 32), .ref (R 33), .ref (R 34), .ref (R 35), .ref (R 36), .ref (R 37), .ref (R 38), .ref (R 39), .ref (R 40), .ref (R 41), .int 0])), ((R 0), .inl ((C 0), 7, .inl (fun _ => 0)))]) hD hS hA [0, 1] rfl
  refine va_calli (va_runV (As := [.int (-1)]) (rest := []) ⟨hx, hb, hml, hown, hts⟩ (k_X4_refuse1 l dC dI h0 R C H.size) (cwV 1 hts gX4_share_X4_refuse rfl rfl rfl (by decide +kernel) ⟨Nat.le_of_ble_eq_true rfl, Nat.le_of_ble_eq_true rfl⟩) ⟨pz_blind, va_recv hKc hPc (ci := 5) (q0 := 0) rfl rfl, fun U hU hW => ⟨rfl, pz_at hPc hKc hDc hU hW⟩⟩ rfl rfl hl.1 rfl (lv_room (Nat.le_of_ble_eq_true rfl)) dX4_share_10 ⟨Nat.le_of_ble_eq_true rfl, Nat.le_of_ble_eq_true rfl⟩) hS (fun q _ h => hFc q h) hFc (fun r_3 u t H locs ht hvm hw hB hz1 hk1 hS => ?_)
  obtain ⟨hP, hD⟩ := va_join (wr := []) (w1 := []) hP hD [0, 1] [] rfl rfl (by decide) (by decide) hk1 hFc pz_nilP pz_nilD
  have hP : va_P (dC, dI) vwCl [] H := hP
  have hD : va_D A [] := hD
  have hw : r_3 = (-1) := hw
  subst hw
  exact W.iret (v := (-1)) hx hb hr (fun t ht hW => ⟨⟨(-1), (), rfl, rfl, trivial⟩, hS.F ht⟩) hS.2.2 dX4_share_13

set_option maxHeartbeats 40000000 in
set_option maxRecDepth 100000 in
theorem k_X4_rule (l : Launch) (dC : Nat → ClassId) (dI : Nat → Nat → Nat) (h0 : Nat) (R : Nat → Nat) (C : Nat → ClassId) (a1 : Int32) (sz : Nat) : Met l yX4_rule wsX4_rule ({ frames := 1, cells := 0, slots := 0, locals := 21 }) (va_Pc [.ref h0, .int a1] (pzPre (dC, dI) vwCl [(h0, .inr (5, [.ref (R 0), .int 0, .int 0, .int 0, .int 0, .int 3, .int 20, .int 0, .int 0, .int 0, .int 0, .ref (R 11), .ref (R 12), .ref (R 13), .ref (R 14), .ref (R 15), .ref (R 16), .ref (R 17), .ref (R 18), .ref (R 19), .ref (R 20), .ref (R 21), .ref (R 22), .ref (R 23), .ref (R 24), .ref (R 25), .ref (R 26), .ref (R 27), .ref (R 28), .ref (R 29), .ref (R 30), .ref (R 31), .ref (R 32), .ref (R 33), .ref (R 34), .ref (R 35), .ref (R 36), .ref (R 37), .ref (R 38), .ref (R 39), .ref (R 40), .ref (R 41), .int 0])), ((R 0), .inl ((C 0), 7, .inl (fun _ => 0)))] [((C 0), .int)] sz)) (va_Qi (fun (r : Int32) (_ : Unit) => r = ex_rule a1) (fun _ _ => True) (va_A [(h0, .inr (5, [.ref (R 0), .int 0, .int 0, .int 0, .int 0, .int 3, .int 20, .int 0, .int 0, .int 0, .int 0, .ref (R 11), .ref (R 12), .ref (R 13), .ref (R 14), .ref (R 15), .ref (R 16), .ref (R 17), .ref (R 18), .ref (R 19), .ref (R 20), .ref (R 21), .ref (R 22), .ref (R 23), .ref (R 24), .ref (R 25), .ref (R 26), .ref (R 27), .ref (R 28), .ref (R 29), .ref (R 30), .ref (R 31), .ref (R 32), .ref (R 33), .ref (R 34), .ref (R 35), .ref (R 36), .ref (R 37), .ref (R 38), .ref (R 39), .ref (R 40), .ref (R 41), .int 0])), ((R 0), .inl ((C 0), 7, .inl (fun _ => 0)))] sz)) 0 0 (va_A [(h0, .inr (5, [.ref (R 0), .int 0, .int 0, .int 0, .int 0, .int 3, .int 20, .int 0, .int 0, .int 0, .int 0, .ref (R 11), .ref (R 12), .ref (R 13), .ref (R 14), .ref (R 15), .ref (R 16), .ref (R 17), .ref (R 18), .ref (R 19), .ref (R 20), .ref (R 21), .ref (R 22), .ref (R 23), .ref (R 24), .ref (R 25), .ref (R 26), .ref (R 27), .ref (R 28), .ref (R 29), .ref (R 30), .ref (R 31), .ref (R 32), .ref (R 33), .ref (R 34), .ref (R 35), .ref (R 36), .ref (R 37), .ref (R 38), .ref (R 39), .ref (R 40), .ref (R 41), .int 0])), ((R 0), .inl ((C 0), 7, .inl (fun _ => 0)))] sz) := by
  refine Met.ofW (cc := cX4_rule) (maxL := 3) (ret := (some .int)) (by decide) rfl ?_
  intro p e s m args below meth c s₁ B hml hv
  obtain ⟨rfl, hsz, hP, hK, hD0⟩ := hv
  have hx := B.exec
  have hb := B.bytes
  have hr := B.returns
  have hts := atoms_spec (ws := wsX4_rule) B.pre
  have hown : s.vm.findClass RX4 = some m.cls := findClass_of_methodNamed B.named
  have hlocks := B.notSynchronized
  subst hsz
  have hD := hD0.self (sz := s.heap.size)
  generalize hAe : va_A [(h0, .inr (5, [.ref (R 0), .int 0, .int 0, .int 0, .int 0, .int 3, .int 20, .int 0, .int 0, .int 0, .int 0, .ref (R 11), .ref (R 12), .ref (R 13), .ref (R 14), .ref (R 15), .ref (R 16), .ref (R 17), .ref (R 18), .ref (R 19), .ref (R 20), .ref (R 21), .ref (R 22), .ref (R 23), .ref (R 24), .ref (R 25), .ref (R 26), .ref (R 27), .ref (R 28), .ref (R 29), .ref (R 30), .ref (R 31), .ref (R 32), .ref (R 33), .ref (R 34), .ref (R 35), .ref (R 36), .ref (R 37), .ref (R 38), .ref (R 39), .ref (R 40), .ref (R 41), .int 0])), ((R 0), .inl ((C 0), 7, .inl (fun _ => 0)))] s.heap.size = A at hD ⊢
  have hA : ∀ q : Nat, s.heap.size ≤ q → A q := fun q h => by rw [← hAe]; exact Or.inr h
  have hS : va_S A s.heap s.heap [] := va_S.rf
  have hP : va_P (dC, dI) vwCl [(h0, .inr (5, [.ref (R 0), .int 0, .int 0, .int 0, .int 0, .int 3, .int 20, .int 0, .int 0, .int 0, .int 0, .ref (R 11), .ref (R 12), .ref (R 13), .ref (R 14), .ref (R 15), .ref (R 16), .ref (R 17), .ref (R 18), .ref (R 19), .ref (R 20), .ref (R 21), .ref (R 22), .ref (R 23), .ref (R 24), .ref (R 25), .ref (R 26), .ref (R 27), .ref (R 28), .ref (R 29), .ref (R 30), .ref (R 31), .ref (R 32), .ref (R 33), .ref (R 34), .ref (R 35), .ref (R 36), .ref (R 37), .ref (R 38), .ref (R 39), .ref (R 40), .ref (R 41), .int 0])), ((R 0), .inl ((C 0), 7, .inl (fun _ => 0)))] s.heap := hP
  have hl := lv_entry ([.ref h0, .int a1]) (n := 3) (Nat.le_of_ble_eq_true rfl)
  rw [lg_entry_eq]
  generalize (lg_sl ([.ref h0, .int a1]) ++ List.replicate (3 - (lg_sl ([.ref h0, .int a1])).length) Slot.unset).toArray = ls at hl ⊢
  have hl : lv_has ls 3 [(0, .ref h0), (1, .int a1)] := hl
  refine lv_iload_n hx hb dX4_rule_0 rfl (lv_at hl 1 rfl) ?_
  refine lv_iconst (v := 4) hx hb dX4_rule_1 (by decide) ?_
  have hPc := hP.sub (ws' := []) [] rfl
  have hDc := hD.sub (ws' := []) [] (by decide) rfl
  have hKc := hK.sub (tys' := []) [] rfl
  have hFc := pz_f hA hS
  refine va_calli (va_runS (As := [.int a1, .int 4]) (rest := []) ⟨hx, hb, hml, hown, hts⟩ (k_X4_isIn l dC dI a1 4 s.heap.size) (va_cwS 2 hts gX4_rule_X4_isIn rfl rfl rfl (by decide +kernel) ⟨Nat.le_of_ble_eq_true rfl, Nat.le_of_ble_eq_true rfl⟩) ⟨pz_blind, fun U hU hW => ⟨rfl, pz_at hPc hKc hDc hU hW⟩⟩ rfl rfl hl.1 rfl (lv_room (Nat.le_of_ble_eq_true rfl)) dX4_rule_2 ⟨Nat.le_of_ble_eq_true rfl, Nat.le_of_ble_eq_true rfl⟩) hS (fun q _ h => hFc q h) hFc (fun r_1 u t H locs ht hvm hw hB hz1 hk1 hS => ?_)
  have hP := pz_keep hP hk1
  rcases hw with ⟨f_1_0, f_1_1, hr9⟩ | ⟨f_1_0, hr9⟩
  · skip
    have hr9 : r_1 = 1 := hr9
    subst hr9
    have f_1_0 : 0 ≤ a1.toInt := pz_id f_1_0
    have f_1_1 : a1.toInt < 4 := f_1_1
    refine lv_if_ne (tgt := 14) hx hb dX4_rule_5 (by decide) (fun c_2 => ?_) (fun c_2 => absurd c_2 (by decide))
    refine lv_aload_n hx hb dX4_rule_14 rfl (lv_at hl 0 rfl) ?_
    refine va_get (D := (dC, dI)) (ci := 5) (v := .int 0) (C := RX4) (T := TX4) (N := 43) hx hb hts (fun _ h => List.mem_cons_of_mem _ (List.mem_append_right _ h)) hown hK hP 0 rfl rfl 4 (by decide) (hts (.fieldLink RX4 136 "FrontDoorModel" "rule" "I") (by decide +kernel)) (fun _ h9 => h9) rfl dX4_rule_15 ?_
    refine lv_istore_n (lv' := [(2, .int 0), (0, .ref h0), (1, .int a1)]) hx hb dX4_rule_18 rfl hl (by decide) rfl (fun ls hl => ?_)
    refine lv_aload_n hx hb dX4_rule_19 rfl (lv_at hl 1 rfl) ?_
    refine lv_iload_n hx hb dX4_rule_20 rfl (lv_at hl 2 rfl) ?_
    refine va_put (D := (dC, dI)) (ci := 5) (v := .int a1) (ty := .int) (C := RX4) (T := TX4) (N := 43) hx hb hts (fun _ h => List.mem_cons_of_mem _ (List.mem_append_right _ h)) tyX4 tyX4_ok nmX4 hown hK hP hD hS 0 rfl rfl 4 (by decide) (hts (.fieldLink RX4 136 "FrontDoorModel" "rule" "I") (by decide +kernel)) (fun _ h9 => h9) rfl (by decide +kernel) rfl rfl (Nat.le_of_ble_eq_true rfl) dX4_rule_21 (fun H locs hP hD hS => ?_)
    have hP : va_P (dC, dI) vwCl [(h0, .inr (5, [.ref (R 0), .int 0, .int 0, .int 0, .int a1, .int 3, .int 20, .int 0, .int 0, .int 0, .int 0, .ref (R 11), .ref (R 12), .ref (R 13), .ref (R 14), .ref (R 15), .ref (R 16), .ref (R 17), .ref (R 18), .ref (R 19), .ref (R 20), .ref (R 21), .ref (R 22), .ref (R 23), .ref (R 24), .ref (R 25), .ref (R 26), .ref (R 27), .ref (R 28), .ref (R 29), .ref (R 30), .ref (R 31), .ref (R 32), .ref (R 33), .ref (R 34), .ref (R 35), .ref (R 36), .ref (R 37), .ref (R 38), .ref (R 39), .ref (R 40), .ref (R 41), .int 0])), ((R 0), .inl ((C 0), 7, .inl (fun _ => 0)))] H := hP
    have hD : va_D A [(h0, .inr (5, [.ref (R 0), .int 0, .int 0, .int 0, .int a1, .int 3, .int 20, .int 0, .int 0, .int 0, .int 0, .ref (R 11), .ref (R 12), .ref (R 13), .ref (R 14), .ref (R 15), .ref (R 16), .ref (R 17), .ref (R 18), .ref (R 19), .ref (R 20), .ref (R 21), .ref (R 22), .ref (R 23), .ref (R 24), .ref (R 25), .ref (R 26), .ref (R 27), .ref (R 28), .ref (R 29), .ref (R 30), .ref (R 31), .ref (R 32), .ref (R 33), .ref (R 34), .ref (R 35), .ref (R 36), .ref (R 37), .ref (R 38), .ref (R 39), .ref (R 40), .ref (R 41), .int 0])), ((R 0), .inl ((C 0), 7, .inl (fun _ => 0)))] := hD
    refine lv_iload_n hx hb dX4_rule_24 rfl (lv_at hl 0 rfl) ?_
    exact W.iret (v := 0) hx hb hr (fun t ht hW => ⟨⟨0, (), rfl, (by unfold ex_rule; (repeat' split) <;> first | rfl | omega), trivial⟩, hS.F ht⟩) hS.2.2 dX4_rule_25
  · skip
    have hr9 : r_1 = 0 := hr9
    subst hr9
    have f_1_0 : (a1.toInt < 0 ∨ 4 ≤ a1.toInt) := f_1_0
    refine lv_if_ne (tgt := 14) hx hb dX4_rule_5 (by decide) (fun c_3 => absurd c_3 (by decide)) (fun c_3 => ?_)
    refine lv_aload_n hx hb dX4_rule_8 rfl (lv_at hl 0 rfl) ?_
    refine lv_iconst (v := (-1)) hx hb dX4_rule_9 (by decide) ?_
    have hPc := hP.sub (ws' := [(h0, .inr (5, [.ref (R 0), .int 0, .int 0, .int 0, .int 0, .int 3, .int 20, .int 0, .int 0, .int 0, .int 0, .ref (R 11), .ref (R 12), .ref (R 13), .ref (R 14), .ref (R 15), .ref (R 16), .ref (R 17), .ref (R 18), .ref (R 19), .ref (R 20), .ref (R 21), .ref (R 22), .ref (R 23), .ref (R 24), .ref (R 25), .ref (R 26), .ref (R 27), .ref (R 28), .ref (R 29), .ref (R 30), .ref (R 31), .ref (R 32), .ref (R 33), .ref (R 34), .ref (R 35), .ref (R 36), .ref (R 37), .ref (R 38), .ref (R 39), .ref (R 40), .ref (R 41), .int 0])), ((R 0), .inl ((C 0), 7, .inl (fun _ => 0)))]) [0, 1] rfl
    have hDc := hD.sub (ws' := [(h0, .inr (5, [.ref (R 0), .int 0, .int 0, .int 0, .int 0, .int 3, .int 20, .int 0, .int 0, .int 0, .int 0, .ref (R 11), .ref (R 12), .ref (R 13), .ref (R 14), .ref (R 15), .ref (R 16), .ref (R 17), .ref (R 18), .ref (R 19), .ref (R 20), .ref (R 21), .ref (R 22), .ref (R 23), .ref (R 24), .ref (R 25), .ref (R 26), .ref (R 27), .ref (R 28), .ref (R 29), .ref (R 30), .ref (R 31), .ref (R 32), .ref (R 33), .ref (R 34), .ref (R 35), .ref (R 36), .ref (R 37), .ref (R 38), .ref (R 39), .ref (R 40), .ref (R 41), .int 0])), ((R 0), .inl ((C 0), 7, .inl (fun _ => 0)))]) [0, 1] (by decide) rfl
    have hKc := hK.sub (tys' := [((C 0), .int)]) [0] rfl
    have hFc := va_free (wc := [(h0, .inr (5, [.ref (R 0), .int 0, .int 0, .int 0, .int 0, .int 3, .int 20, .int 0, .int 0, .int 0, .int 0, .ref (R 11), .ref (R 12), .ref (R 13), .ref (R 14), .ref (R 15), .ref (R 16), .ref (R 17), .ref (R 18), .ref (R 19), .ref (R 20), .ref (R 21), .ref (R 22), .ref (R 23), .ref (R 24), .ref (R 25), .ref (R 26), .ref (R 27), .ref (R 28), .ref (R 29), .ref (R 30), .ref (R 31), .ref (R 32), .ref (R 33), .ref (R 34), .ref (R 35), .ref (R 36), .ref (R 37), .ref (R 38), .ref (R 39), .ref (R 40), .ref (R 41), .int 0])), ((R 0), .inl ((C 0), 7, .inl (fun _ => 0)))]) hD hS hA [0, 1] rfl
    refine va_calli (va_runV (As := [.int (-1)]) (rest := []) ⟨hx, hb, hml, hown, hts⟩ (k_X4_refuse1 l dC dI h0 R C H.size) (cwV 1 hts gX4_rule_X4_refuse rfl rfl rfl (by decide +kernel) ⟨Nat.le_of_ble_eq_true rfl, Nat.le_of_ble_eq_true rfl⟩) ⟨pz_blind, va_recv hKc hPc (ci := 5) (q0 := 0) rfl rfl, fun U hU hW => ⟨rfl, pz_at hPc hKc hDc hU hW⟩⟩ rfl rfl hl.1 rfl (lv_room (Nat.le_of_ble_eq_true rfl)) dX4_rule_10 ⟨Nat.le_of_ble_eq_true rfl, Nat.le_of_ble_eq_true rfl⟩) hS (fun q _ h => hFc q h) hFc (fun r_4 u t H locs ht hvm hw hB hz1 hk1 hS => ?_)
    obtain ⟨hP, hD⟩ := va_join (wr := []) (w1 := []) hP hD [0, 1] [] rfl rfl (by decide) (by decide) hk1 hFc pz_nilP pz_nilD
    have hP : va_P (dC, dI) vwCl [] H := hP
    have hD : va_D A [] := hD
    have hw : r_4 = (-1) := hw
    subst hw
    exact W.iret (v := (-1)) hx hb hr (fun t ht hW => ⟨⟨(-1), (), rfl, (by unfold ex_rule; (repeat' split) <;> first | rfl | omega), trivial⟩, hS.F ht⟩) hS.2.2 dX4_rule_13

set_option maxHeartbeats 40000000 in
set_option maxRecDepth 100000 in
theorem k_X4_limit (l : Launch) (dC : Nat → ClassId) (dI : Nat → Nat → Nat) (h0 : Nat) (R : Nat → Nat) (C : Nat → ClassId) (a1 : Int32) (sz : Nat) : Met l yX4_limit wsX4_limit ({ frames := 1, cells := 0, slots := 0, locals := 21 }) (va_Pc [.ref h0, .int a1] (pzPre (dC, dI) vwCl [(h0, .inr (5, [.ref (R 0), .int 0, .int 0, .int 0, .int 0, .int 3, .int 20, .int 0, .int 0, .int 0, .int 0, .ref (R 11), .ref (R 12), .ref (R 13), .ref (R 14), .ref (R 15), .ref (R 16), .ref (R 17), .ref (R 18), .ref (R 19), .ref (R 20), .ref (R 21), .ref (R 22), .ref (R 23), .ref (R 24), .ref (R 25), .ref (R 26), .ref (R 27), .ref (R 28), .ref (R 29), .ref (R 30), .ref (R 31), .ref (R 32), .ref (R 33), .ref (R 34), .ref (R 35), .ref (R 36), .ref (R 37), .ref (R 38), .ref (R 39), .ref (R 40), .ref (R 41), .int 0])), ((R 0), .inl ((C 0), 7, .inl (fun _ => 0)))] [((C 0), .int)] sz)) (va_Qi (fun (r : Int32) (_ : Unit) => r = ex_limit a1) (fun _ _ => True) (va_A [(h0, .inr (5, [.ref (R 0), .int 0, .int 0, .int 0, .int 0, .int 3, .int 20, .int 0, .int 0, .int 0, .int 0, .ref (R 11), .ref (R 12), .ref (R 13), .ref (R 14), .ref (R 15), .ref (R 16), .ref (R 17), .ref (R 18), .ref (R 19), .ref (R 20), .ref (R 21), .ref (R 22), .ref (R 23), .ref (R 24), .ref (R 25), .ref (R 26), .ref (R 27), .ref (R 28), .ref (R 29), .ref (R 30), .ref (R 31), .ref (R 32), .ref (R 33), .ref (R 34), .ref (R 35), .ref (R 36), .ref (R 37), .ref (R 38), .ref (R 39), .ref (R 40), .ref (R 41), .int 0])), ((R 0), .inl ((C 0), 7, .inl (fun _ => 0)))] sz)) 0 0 (va_A [(h0, .inr (5, [.ref (R 0), .int 0, .int 0, .int 0, .int 0, .int 3, .int 20, .int 0, .int 0, .int 0, .int 0, .ref (R 11), .ref (R 12), .ref (R 13), .ref (R 14), .ref (R 15), .ref (R 16), .ref (R 17), .ref (R 18), .ref (R 19), .ref (R 20), .ref (R 21), .ref (R 22), .ref (R 23), .ref (R 24), .ref (R 25), .ref (R 26), .ref (R 27), .ref (R 28), .ref (R 29), .ref (R 30), .ref (R 31), .ref (R 32), .ref (R 33), .ref (R 34), .ref (R 35), .ref (R 36), .ref (R 37), .ref (R 38), .ref (R 39), .ref (R 40), .ref (R 41), .int 0])), ((R 0), .inl ((C 0), 7, .inl (fun _ => 0)))] sz) := by
  refine Met.ofW (cc := cX4_limit) (maxL := 3) (ret := (some .int)) (by decide) rfl ?_
  intro p e s m args below meth c s₁ B hml hv
  obtain ⟨rfl, hsz, hP, hK, hD0⟩ := hv
  have hx := B.exec
  have hb := B.bytes
  have hr := B.returns
  have hts := atoms_spec (ws := wsX4_limit) B.pre
  have hown : s.vm.findClass RX4 = some m.cls := findClass_of_methodNamed B.named
  have hlocks := B.notSynchronized
  subst hsz
  have hD := hD0.self (sz := s.heap.size)
  generalize hAe : va_A [(h0, .inr (5, [.ref (R 0), .int 0, .int 0, .int 0, .int 0, .int 3, .int 20, .int 0, .int 0, .int 0, .int 0, .ref (R 11), .ref (R 12), .ref (R 13), .ref (R 14), .ref (R 15), .ref (R 16), .ref (R 17), .ref (R 18), .ref (R 19), .ref (R 20), .ref (R 21), .ref (R 22), .ref (R 23), .ref (R 24), .ref (R 25), .ref (R 26), .ref (R 27), .ref (R 28), .ref (R 29), .ref (R 30), .ref (R 31), .ref (R 32), .ref (R 33), .ref (R 34), .ref (R 35), .ref (R 36), .ref (R 37), .ref (R 38), .ref (R 39), .ref (R 40), .ref (R 41), .int 0])), ((R 0), .inl ((C 0), 7, .inl (fun _ => 0)))] s.heap.size = A at hD ⊢
  have hA : ∀ q : Nat, s.heap.size ≤ q → A q := fun q h => by rw [← hAe]; exact Or.inr h
  have hS : va_S A s.heap s.heap [] := va_S.rf
  have hP : va_P (dC, dI) vwCl [(h0, .inr (5, [.ref (R 0), .int 0, .int 0, .int 0, .int 0, .int 3, .int 20, .int 0, .int 0, .int 0, .int 0, .ref (R 11), .ref (R 12), .ref (R 13), .ref (R 14), .ref (R 15), .ref (R 16), .ref (R 17), .ref (R 18), .ref (R 19), .ref (R 20), .ref (R 21), .ref (R 22), .ref (R 23), .ref (R 24), .ref (R 25), .ref (R 26), .ref (R 27), .ref (R 28), .ref (R 29), .ref (R 30), .ref (R 31), .ref (R 32), .ref (R 33), .ref (R 34), .ref (R 35), .ref (R 36), .ref (R 37), .ref (R 38), .ref (R 39), .ref (R 40), .ref (R 41), .int 0])), ((R 0), .inl ((C 0), 7, .inl (fun _ => 0)))] s.heap := hP
  have hl := lv_entry ([.ref h0, .int a1]) (n := 3) (Nat.le_of_ble_eq_true rfl)
  rw [lg_entry_eq]
  generalize (lg_sl ([.ref h0, .int a1]) ++ List.replicate (3 - (lg_sl ([.ref h0, .int a1])).length) Slot.unset).toArray = ls at hl ⊢
  have hl : lv_has ls 3 [(0, .ref h0), (1, .int a1)] := hl
  refine lv_iload_n hx hb dX4_limit_0 rfl (lv_at hl 1 rfl) ?_
  refine lv_iconst (v := 1) hx hb dX4_limit_1 (by decide) ?_
  refine lv_icmp_ge (tgt := 12) hx hb dX4_limit_2 (by decide) (fun c_1 => ?_) (fun c_1 => ?_)
  · skip
    have i_1 : 1 ≤ a1.toInt := by have h9 := pz_ge c_1; exact h9
    refine lv_iload_n hx hb dX4_limit_12 rfl (lv_at hl 1 rfl) ?_
    refine lv_bipush (v := 10) hx hb dX4_limit_13 (by decide) ?_
    refine lv_icmp_le (tgt := 25) hx hb dX4_limit_15 (by decide) (fun c_2 => ?_) (fun c_2 => ?_)
    · skip
      have i_2 : a1.toInt ≤ 10 := by have h9 := pz_le c_2; exact h9
      refine lv_aload_n hx hb dX4_limit_25 rfl (lv_at hl 0 rfl) ?_
      refine va_get (D := (dC, dI)) (ci := 5) (v := .int 3) (C := RX4) (T := TX4) (N := 43) hx hb hts (fun _ h => List.mem_cons_of_mem _ (List.mem_append_right _ h)) hown hK hP 0 rfl rfl 5 (by decide) (hts (.fieldLink RX4 13 "FrontDoorModel" "limit" "I") (by decide +kernel)) (fun _ h9 => h9) rfl dX4_limit_26 ?_
      refine lv_istore_n (lv' := [(2, .int 3), (0, .ref h0), (1, .int a1)]) hx hb dX4_limit_29 rfl hl (by decide) rfl (fun ls hl => ?_)
      refine lv_aload_n hx hb dX4_limit_30 rfl (lv_at hl 1 rfl) ?_
      refine lv_iload_n hx hb dX4_limit_31 rfl (lv_at hl 2 rfl) ?_
      refine va_put (D := (dC, dI)) (ci := 5) (v := .int a1) (ty := .int) (C := RX4) (T := TX4) (N := 43) hx hb hts (fun _ h => List.mem_cons_of_mem _ (List.mem_append_right _ h)) tyX4 tyX4_ok nmX4 hown hK hP hD hS 0 rfl rfl 5 (by decide) (hts (.fieldLink RX4 13 "FrontDoorModel" "limit" "I") (by decide +kernel)) (fun _ h9 => h9) rfl (by decide +kernel) rfl rfl (Nat.le_of_ble_eq_true rfl) dX4_limit_32 (fun H locs hP hD hS => ?_)
      have hP : va_P (dC, dI) vwCl [(h0, .inr (5, [.ref (R 0), .int 0, .int 0, .int 0, .int 0, .int a1, .int 20, .int 0, .int 0, .int 0, .int 0, .ref (R 11), .ref (R 12), .ref (R 13), .ref (R 14), .ref (R 15), .ref (R 16), .ref (R 17), .ref (R 18), .ref (R 19), .ref (R 20), .ref (R 21), .ref (R 22), .ref (R 23), .ref (R 24), .ref (R 25), .ref (R 26), .ref (R 27), .ref (R 28), .ref (R 29), .ref (R 30), .ref (R 31), .ref (R 32), .ref (R 33), .ref (R 34), .ref (R 35), .ref (R 36), .ref (R 37), .ref (R 38), .ref (R 39), .ref (R 40), .ref (R 41), .int 0])), ((R 0), .inl ((C 0), 7, .inl (fun _ => 0)))] H := hP
      have hD : va_D A [(h0, .inr (5, [.ref (R 0), .int 0, .int 0, .int 0, .int 0, .int a1, .int 20, .int 0, .int 0, .int 0, .int 0, .ref (R 11), .ref (R 12), .ref (R 13), .ref (R 14), .ref (R 15), .ref (R 16), .ref (R 17), .ref (R 18), .ref (R 19), .ref (R 20), .ref (R 21), .ref (R 22), .ref (R 23), .ref (R 24), .ref (R 25), .ref (R 26), .ref (R 27), .ref (R 28), .ref (R 29), .ref (R 30), .ref (R 31), .ref (R 32), .ref (R 33), .ref (R 34), .ref (R 35), .ref (R 36), .ref (R 37), .ref (R 38), .ref (R 39), .ref (R 40), .ref (R 41), .int 0])), ((R 0), .inl ((C 0), 7, .inl (fun _ => 0)))] := hD
      refine lv_iload_n hx hb dX4_limit_35 rfl (lv_at hl 0 rfl) ?_
      exact W.iret (v := 3) hx hb hr (fun t ht hW => ⟨⟨3, (), rfl, (by unfold ex_limit; (repeat' split) <;> first | rfl | omega), trivial⟩, hS.F ht⟩) hS.2.2 dX4_limit_36
    · skip
      have i_2 : 10 < a1.toInt := by have h9 := pz_nle c_2; exact h9
      refine lv_aload_n hx hb dX4_limit_18 rfl (lv_at hl 0 rfl) ?_
      refine lv_bipush (v := (-6)) hx hb dX4_limit_19 (by decide) ?_
      have hPc := hP.sub (ws' := [(h0, .inr (5, [.ref (R 0), .int 0, .int 0, .int 0, .int 0, .int 3, .int 20, .int 0, .int 0, .int 0, .int 0, .ref (R 11), .ref (R 12), .ref (R 13), .ref (R 14), .ref (R 15), .ref (R 16), .ref (R 17), .ref (R 18), .ref (R 19), .ref (R 20), .ref (R 21), .ref (R 22), .ref (R 23), .ref (R 24), .ref (R 25), .ref (R 26), .ref (R 27), .ref (R 28), .ref (R 29), .ref (R 30), .ref (R 31), .ref (R 32), .ref (R 33), .ref (R 34), .ref (R 35), .ref (R 36), .ref (R 37), .ref (R 38), .ref (R 39), .ref (R 40), .ref (R 41), .int 0])), ((R 0), .inl ((C 0), 7, .inl (fun _ => 0)))]) [0, 1] rfl
      have hDc := hD.sub (ws' := [(h0, .inr (5, [.ref (R 0), .int 0, .int 0, .int 0, .int 0, .int 3, .int 20, .int 0, .int 0, .int 0, .int 0, .ref (R 11), .ref (R 12), .ref (R 13), .ref (R 14), .ref (R 15), .ref (R 16), .ref (R 17), .ref (R 18), .ref (R 19), .ref (R 20), .ref (R 21), .ref (R 22), .ref (R 23), .ref (R 24), .ref (R 25), .ref (R 26), .ref (R 27), .ref (R 28), .ref (R 29), .ref (R 30), .ref (R 31), .ref (R 32), .ref (R 33), .ref (R 34), .ref (R 35), .ref (R 36), .ref (R 37), .ref (R 38), .ref (R 39), .ref (R 40), .ref (R 41), .int 0])), ((R 0), .inl ((C 0), 7, .inl (fun _ => 0)))]) [0, 1] (by decide) rfl
      have hKc := hK.sub (tys' := [((C 0), .int)]) [0] rfl
      have hFc := va_free (wc := [(h0, .inr (5, [.ref (R 0), .int 0, .int 0, .int 0, .int 0, .int 3, .int 20, .int 0, .int 0, .int 0, .int 0, .ref (R 11), .ref (R 12), .ref (R 13), .ref (R 14), .ref (R 15), .ref (R 16), .ref (R 17), .ref (R 18), .ref (R 19), .ref (R 20), .ref (R 21), .ref (R 22), .ref (R 23), .ref (R 24), .ref (R 25), .ref (R 26), .ref (R 27), .ref (R 28), .ref (R 29), .ref (R 30), .ref (R 31), .ref (R 32), .ref (R 33), .ref (R 34), .ref (R 35), .ref (R 36), .ref (R 37), .ref (R 38), .ref (R 39), .ref (R 40), .ref (R 41), .int 0])), ((R 0), .inl ((C 0), 7, .inl (fun _ => 0)))]) hD hS hA [0, 1] rfl
      refine va_calli (va_runV (As := [.int (-6)]) (rest := []) ⟨hx, hb, hml, hown, hts⟩ (k_X4_refuse6 l dC dI h0 R C s.heap.size) (cwV 1 hts gX4_limit_X4_refuse rfl rfl rfl (by decide +kernel) ⟨Nat.le_of_ble_eq_true rfl, Nat.le_of_ble_eq_true rfl⟩) ⟨pz_blind, va_recv hKc hPc (ci := 5) (q0 := 0) rfl rfl, fun U hU hW => ⟨rfl, pz_at hPc hKc hDc hU hW⟩⟩ rfl rfl hl.1 rfl (lv_room (Nat.le_of_ble_eq_true rfl)) dX4_limit_21 ⟨Nat.le_of_ble_eq_true rfl, Nat.le_of_ble_eq_true rfl⟩) hS (fun q _ h => hFc q h) hFc (fun r_3 u t H locs ht hvm hw hB hz1 hk1 hS => ?_)
      obtain ⟨hP, hD⟩ := va_join (wr := []) (w1 := []) hP hD [0, 1] [] rfl rfl (by decide) (by decide) hk1 hFc pz_nilP pz_nilD
      have hP : va_P (dC, dI) vwCl [] H := hP
      have hD : va_D A [] := hD
      have hw : r_3 = (-6) := hw
      subst hw
      exact W.iret (v := (-6)) hx hb hr (fun t ht hW => ⟨⟨(-6), (), rfl, (by unfold ex_limit; (repeat' split) <;> first | rfl | omega), trivial⟩, hS.F ht⟩) hS.2.2 dX4_limit_24
  · skip
    have i_1 : a1.toInt < 1 := by have h9 := pz_nge c_1; exact h9
    refine lv_aload_n hx hb dX4_limit_5 rfl (lv_at hl 0 rfl) ?_
    refine lv_bipush (v := (-4)) hx hb dX4_limit_6 (by decide) ?_
    have hPc := hP.sub (ws' := [(h0, .inr (5, [.ref (R 0), .int 0, .int 0, .int 0, .int 0, .int 3, .int 20, .int 0, .int 0, .int 0, .int 0, .ref (R 11), .ref (R 12), .ref (R 13), .ref (R 14), .ref (R 15), .ref (R 16), .ref (R 17), .ref (R 18), .ref (R 19), .ref (R 20), .ref (R 21), .ref (R 22), .ref (R 23), .ref (R 24), .ref (R 25), .ref (R 26), .ref (R 27), .ref (R 28), .ref (R 29), .ref (R 30), .ref (R 31), .ref (R 32), .ref (R 33), .ref (R 34), .ref (R 35), .ref (R 36), .ref (R 37), .ref (R 38), .ref (R 39), .ref (R 40), .ref (R 41), .int 0])), ((R 0), .inl ((C 0), 7, .inl (fun _ => 0)))]) [0, 1] rfl
    have hDc := hD.sub (ws' := [(h0, .inr (5, [.ref (R 0), .int 0, .int 0, .int 0, .int 0, .int 3, .int 20, .int 0, .int 0, .int 0, .int 0, .ref (R 11), .ref (R 12), .ref (R 13), .ref (R 14), .ref (R 15), .ref (R 16), .ref (R 17), .ref (R 18), .ref (R 19), .ref (R 20), .ref (R 21), .ref (R 22), .ref (R 23), .ref (R 24), .ref (R 25), .ref (R 26), .ref (R 27), .ref (R 28), .ref (R 29), .ref (R 30), .ref (R 31), .ref (R 32), .ref (R 33), .ref (R 34), .ref (R 35), .ref (R 36), .ref (R 37), .ref (R 38), .ref (R 39), .ref (R 40), .ref (R 41), .int 0])), ((R 0), .inl ((C 0), 7, .inl (fun _ => 0)))]) [0, 1] (by decide) rfl
    have hKc := hK.sub (tys' := [((C 0), .int)]) [0] rfl
    have hFc := va_free (wc := [(h0, .inr (5, [.ref (R 0), .int 0, .int 0, .int 0, .int 0, .int 3, .int 20, .int 0, .int 0, .int 0, .int 0, .ref (R 11), .ref (R 12), .ref (R 13), .ref (R 14), .ref (R 15), .ref (R 16), .ref (R 17), .ref (R 18), .ref (R 19), .ref (R 20), .ref (R 21), .ref (R 22), .ref (R 23), .ref (R 24), .ref (R 25), .ref (R 26), .ref (R 27), .ref (R 28), .ref (R 29), .ref (R 30), .ref (R 31), .ref (R 32), .ref (R 33), .ref (R 34), .ref (R 35), .ref (R 36), .ref (R 37), .ref (R 38), .ref (R 39), .ref (R 40), .ref (R 41), .int 0])), ((R 0), .inl ((C 0), 7, .inl (fun _ => 0)))]) hD hS hA [0, 1] rfl
    refine va_calli (va_runV (As := [.int (-4)]) (rest := []) ⟨hx, hb, hml, hown, hts⟩ (k_X4_refuse4 l dC dI h0 R C s.heap.size) (cwV 1 hts gX4_limit_X4_refuse rfl rfl rfl (by decide +kernel) ⟨Nat.le_of_ble_eq_true rfl, Nat.le_of_ble_eq_true rfl⟩) ⟨pz_blind, va_recv hKc hPc (ci := 5) (q0 := 0) rfl rfl, fun U hU hW => ⟨rfl, pz_at hPc hKc hDc hU hW⟩⟩ rfl rfl hl.1 rfl (lv_room (Nat.le_of_ble_eq_true rfl)) dX4_limit_8 ⟨Nat.le_of_ble_eq_true rfl, Nat.le_of_ble_eq_true rfl⟩) hS (fun q _ h => hFc q h) hFc (fun r_4 u t H locs ht hvm hw hB hz1 hk1 hS => ?_)
    obtain ⟨hP, hD⟩ := va_join (wr := []) (w1 := []) hP hD [0, 1] [] rfl rfl (by decide) (by decide) hk1 hFc pz_nilP pz_nilD
    have hP : va_P (dC, dI) vwCl [] H := hP
    have hD : va_D A [] := hD
    have hw : r_4 = (-4) := hw
    subst hw
    exact W.iret (v := (-4)) hx hb hr (fun t ht hW => ⟨⟨(-4), (), rfl, (by unfold ex_limit; (repeat' split) <;> first | rfl | omega), trivial⟩, hS.F ht⟩) hS.2.2 dX4_limit_11

set_option maxHeartbeats 40000000 in
set_option maxRecDepth 100000 in
theorem k_X4_budget (l : Launch) (dC : Nat → ClassId) (dI : Nat → Nat → Nat) (h0 : Nat) (R : Nat → Nat) (C : Nat → ClassId) (a1 : Int32) (sz : Nat) : Met l yX4_budget wsX4_budget ({ frames := 1, cells := 0, slots := 0, locals := 21 }) (va_Pc [.ref h0, .int a1] (pzPre (dC, dI) vwCl [(h0, .inr (5, [.ref (R 0), .int 0, .int 0, .int 0, .int 0, .int 3, .int 20, .int 0, .int 0, .int 0, .int 0, .ref (R 11), .ref (R 12), .ref (R 13), .ref (R 14), .ref (R 15), .ref (R 16), .ref (R 17), .ref (R 18), .ref (R 19), .ref (R 20), .ref (R 21), .ref (R 22), .ref (R 23), .ref (R 24), .ref (R 25), .ref (R 26), .ref (R 27), .ref (R 28), .ref (R 29), .ref (R 30), .ref (R 31), .ref (R 32), .ref (R 33), .ref (R 34), .ref (R 35), .ref (R 36), .ref (R 37), .ref (R 38), .ref (R 39), .ref (R 40), .ref (R 41), .int 0])), ((R 0), .inl ((C 0), 7, .inl (fun _ => 0)))] [((C 0), .int)] sz)) (va_Qi (fun (r : Int32) (_ : Unit) => r = ex_budget a1) (fun _ _ => True) (va_A [(h0, .inr (5, [.ref (R 0), .int 0, .int 0, .int 0, .int 0, .int 3, .int 20, .int 0, .int 0, .int 0, .int 0, .ref (R 11), .ref (R 12), .ref (R 13), .ref (R 14), .ref (R 15), .ref (R 16), .ref (R 17), .ref (R 18), .ref (R 19), .ref (R 20), .ref (R 21), .ref (R 22), .ref (R 23), .ref (R 24), .ref (R 25), .ref (R 26), .ref (R 27), .ref (R 28), .ref (R 29), .ref (R 30), .ref (R 31), .ref (R 32), .ref (R 33), .ref (R 34), .ref (R 35), .ref (R 36), .ref (R 37), .ref (R 38), .ref (R 39), .ref (R 40), .ref (R 41), .int 0])), ((R 0), .inl ((C 0), 7, .inl (fun _ => 0)))] sz)) 0 0 (va_A [(h0, .inr (5, [.ref (R 0), .int 0, .int 0, .int 0, .int 0, .int 3, .int 20, .int 0, .int 0, .int 0, .int 0, .ref (R 11), .ref (R 12), .ref (R 13), .ref (R 14), .ref (R 15), .ref (R 16), .ref (R 17), .ref (R 18), .ref (R 19), .ref (R 20), .ref (R 21), .ref (R 22), .ref (R 23), .ref (R 24), .ref (R 25), .ref (R 26), .ref (R 27), .ref (R 28), .ref (R 29), .ref (R 30), .ref (R 31), .ref (R 32), .ref (R 33), .ref (R 34), .ref (R 35), .ref (R 36), .ref (R 37), .ref (R 38), .ref (R 39), .ref (R 40), .ref (R 41), .int 0])), ((R 0), .inl ((C 0), 7, .inl (fun _ => 0)))] sz) := by
  refine Met.ofW (cc := cX4_budget) (maxL := 3) (ret := (some .int)) (by decide) rfl ?_
  intro p e s m args below meth c s₁ B hml hv
  obtain ⟨rfl, hsz, hP, hK, hD0⟩ := hv
  have hx := B.exec
  have hb := B.bytes
  have hr := B.returns
  have hts := atoms_spec (ws := wsX4_budget) B.pre
  have hown : s.vm.findClass RX4 = some m.cls := findClass_of_methodNamed B.named
  have hlocks := B.notSynchronized
  subst hsz
  have hD := hD0.self (sz := s.heap.size)
  generalize hAe : va_A [(h0, .inr (5, [.ref (R 0), .int 0, .int 0, .int 0, .int 0, .int 3, .int 20, .int 0, .int 0, .int 0, .int 0, .ref (R 11), .ref (R 12), .ref (R 13), .ref (R 14), .ref (R 15), .ref (R 16), .ref (R 17), .ref (R 18), .ref (R 19), .ref (R 20), .ref (R 21), .ref (R 22), .ref (R 23), .ref (R 24), .ref (R 25), .ref (R 26), .ref (R 27), .ref (R 28), .ref (R 29), .ref (R 30), .ref (R 31), .ref (R 32), .ref (R 33), .ref (R 34), .ref (R 35), .ref (R 36), .ref (R 37), .ref (R 38), .ref (R 39), .ref (R 40), .ref (R 41), .int 0])), ((R 0), .inl ((C 0), 7, .inl (fun _ => 0)))] s.heap.size = A at hD ⊢
  have hA : ∀ q : Nat, s.heap.size ≤ q → A q := fun q h => by rw [← hAe]; exact Or.inr h
  have hS : va_S A s.heap s.heap [] := va_S.rf
  have hP : va_P (dC, dI) vwCl [(h0, .inr (5, [.ref (R 0), .int 0, .int 0, .int 0, .int 0, .int 3, .int 20, .int 0, .int 0, .int 0, .int 0, .ref (R 11), .ref (R 12), .ref (R 13), .ref (R 14), .ref (R 15), .ref (R 16), .ref (R 17), .ref (R 18), .ref (R 19), .ref (R 20), .ref (R 21), .ref (R 22), .ref (R 23), .ref (R 24), .ref (R 25), .ref (R 26), .ref (R 27), .ref (R 28), .ref (R 29), .ref (R 30), .ref (R 31), .ref (R 32), .ref (R 33), .ref (R 34), .ref (R 35), .ref (R 36), .ref (R 37), .ref (R 38), .ref (R 39), .ref (R 40), .ref (R 41), .int 0])), ((R 0), .inl ((C 0), 7, .inl (fun _ => 0)))] s.heap := hP
  have hl := lv_entry ([.ref h0, .int a1]) (n := 3) (Nat.le_of_ble_eq_true rfl)
  rw [lg_entry_eq]
  generalize (lg_sl ([.ref h0, .int a1]) ++ List.replicate (3 - (lg_sl ([.ref h0, .int a1])).length) Slot.unset).toArray = ls at hl ⊢
  have hl : lv_has ls 3 [(0, .ref h0), (1, .int a1)] := hl
  refine lv_iload_n hx hb dX4_budget_0 rfl (lv_at hl 1 rfl) ?_
  refine lv_if_ge (tgt := 11) hx hb dX4_budget_1 (by decide) (fun c_1 => ?_) (fun c_1 => ?_)
  · skip
    have i_1 : 0 ≤ a1.toInt := by have h9 := pz_ge c_1; exact h9
    refine lv_iload_n hx hb dX4_budget_11 rfl (lv_at hl 1 rfl) ?_
    refine lv_bipush (v := 100) hx hb dX4_budget_12 (by decide) ?_
    refine lv_icmp_le (tgt := 24) hx hb dX4_budget_14 (by decide) (fun c_2 => ?_) (fun c_2 => ?_)
    · skip
      have i_2 : a1.toInt ≤ 100 := by have h9 := pz_le c_2; exact h9
      refine lv_aload_n hx hb dX4_budget_24 rfl (lv_at hl 0 rfl) ?_
      refine va_get (D := (dC, dI)) (ci := 5) (v := .int 20) (C := RX4) (T := TX4) (N := 43) hx hb hts (fun _ h => List.mem_cons_of_mem _ (List.mem_append_right _ h)) hown hK hP 0 rfl rfl 6 (by decide) (hts (.fieldLink RX4 17 "FrontDoorModel" "budget" "I") (by decide +kernel)) (fun _ h9 => h9) rfl dX4_budget_25 ?_
      refine lv_istore_n (lv' := [(2, .int 20), (0, .ref h0), (1, .int a1)]) hx hb dX4_budget_28 rfl hl (by decide) rfl (fun ls hl => ?_)
      refine lv_aload_n hx hb dX4_budget_29 rfl (lv_at hl 1 rfl) ?_
      refine lv_iload_n hx hb dX4_budget_30 rfl (lv_at hl 2 rfl) ?_
      refine va_put (D := (dC, dI)) (ci := 5) (v := .int a1) (ty := .int) (C := RX4) (T := TX4) (N := 43) hx hb hts (fun _ h => List.mem_cons_of_mem _ (List.mem_append_right _ h)) tyX4 tyX4_ok nmX4 hown hK hP hD hS 0 rfl rfl 6 (by decide) (hts (.fieldLink RX4 17 "FrontDoorModel" "budget" "I") (by decide +kernel)) (fun _ h9 => h9) rfl (by decide +kernel) rfl rfl (Nat.le_of_ble_eq_true rfl) dX4_budget_31 (fun H locs hP hD hS => ?_)
      have hP : va_P (dC, dI) vwCl [(h0, .inr (5, [.ref (R 0), .int 0, .int 0, .int 0, .int 0, .int 3, .int a1, .int 0, .int 0, .int 0, .int 0, .ref (R 11), .ref (R 12), .ref (R 13), .ref (R 14), .ref (R 15), .ref (R 16), .ref (R 17), .ref (R 18), .ref (R 19), .ref (R 20), .ref (R 21), .ref (R 22), .ref (R 23), .ref (R 24), .ref (R 25), .ref (R 26), .ref (R 27), .ref (R 28), .ref (R 29), .ref (R 30), .ref (R 31), .ref (R 32), .ref (R 33), .ref (R 34), .ref (R 35), .ref (R 36), .ref (R 37), .ref (R 38), .ref (R 39), .ref (R 40), .ref (R 41), .int 0])), ((R 0), .inl ((C 0), 7, .inl (fun _ => 0)))] H := hP
      have hD : va_D A [(h0, .inr (5, [.ref (R 0), .int 0, .int 0, .int 0, .int 0, .int 3, .int a1, .int 0, .int 0, .int 0, .int 0, .ref (R 11), .ref (R 12), .ref (R 13), .ref (R 14), .ref (R 15), .ref (R 16), .ref (R 17), .ref (R 18), .ref (R 19), .ref (R 20), .ref (R 21), .ref (R 22), .ref (R 23), .ref (R 24), .ref (R 25), .ref (R 26), .ref (R 27), .ref (R 28), .ref (R 29), .ref (R 30), .ref (R 31), .ref (R 32), .ref (R 33), .ref (R 34), .ref (R 35), .ref (R 36), .ref (R 37), .ref (R 38), .ref (R 39), .ref (R 40), .ref (R 41), .int 0])), ((R 0), .inl ((C 0), 7, .inl (fun _ => 0)))] := hD
      refine lv_iload_n hx hb dX4_budget_34 rfl (lv_at hl 0 rfl) ?_
      exact W.iret (v := 20) hx hb hr (fun t ht hW => ⟨⟨20, (), rfl, (by unfold ex_budget; (repeat' split) <;> first | rfl | omega), trivial⟩, hS.F ht⟩) hS.2.2 dX4_budget_35
    · skip
      have i_2 : 100 < a1.toInt := by have h9 := pz_nle c_2; exact h9
      refine lv_aload_n hx hb dX4_budget_17 rfl (lv_at hl 0 rfl) ?_
      refine lv_bipush (v := (-6)) hx hb dX4_budget_18 (by decide) ?_
      have hPc := hP.sub (ws' := [(h0, .inr (5, [.ref (R 0), .int 0, .int 0, .int 0, .int 0, .int 3, .int 20, .int 0, .int 0, .int 0, .int 0, .ref (R 11), .ref (R 12), .ref (R 13), .ref (R 14), .ref (R 15), .ref (R 16), .ref (R 17), .ref (R 18), .ref (R 19), .ref (R 20), .ref (R 21), .ref (R 22), .ref (R 23), .ref (R 24), .ref (R 25), .ref (R 26), .ref (R 27), .ref (R 28), .ref (R 29), .ref (R 30), .ref (R 31), .ref (R 32), .ref (R 33), .ref (R 34), .ref (R 35), .ref (R 36), .ref (R 37), .ref (R 38), .ref (R 39), .ref (R 40), .ref (R 41), .int 0])), ((R 0), .inl ((C 0), 7, .inl (fun _ => 0)))]) [0, 1] rfl
      have hDc := hD.sub (ws' := [(h0, .inr (5, [.ref (R 0), .int 0, .int 0, .int 0, .int 0, .int 3, .int 20, .int 0, .int 0, .int 0, .int 0, .ref (R 11), .ref (R 12), .ref (R 13), .ref (R 14), .ref (R 15), .ref (R 16), .ref (R 17), .ref (R 18), .ref (R 19), .ref (R 20), .ref (R 21), .ref (R 22), .ref (R 23), .ref (R 24), .ref (R 25), .ref (R 26), .ref (R 27), .ref (R 28), .ref (R 29), .ref (R 30), .ref (R 31), .ref (R 32), .ref (R 33), .ref (R 34), .ref (R 35), .ref (R 36), .ref (R 37), .ref (R 38), .ref (R 39), .ref (R 40), .ref (R 41), .int 0])), ((R 0), .inl ((C 0), 7, .inl (fun _ => 0)))]) [0, 1] (by decide) rfl
      have hKc := hK.sub (tys' := [((C 0), .int)]) [0] rfl
      have hFc := va_free (wc := [(h0, .inr (5, [.ref (R 0), .int 0, .int 0, .int 0, .int 0, .int 3, .int 20, .int 0, .int 0, .int 0, .int 0, .ref (R 11), .ref (R 12), .ref (R 13), .ref (R 14), .ref (R 15), .ref (R 16), .ref (R 17), .ref (R 18), .ref (R 19), .ref (R 20), .ref (R 21), .ref (R 22), .ref (R 23), .ref (R 24), .ref (R 25), .ref (R 26), .ref (R 27), .ref (R 28), .ref (R 29), .ref (R 30), .ref (R 31), .ref (R 32), .ref (R 33), .ref (R 34), .ref (R 35), .ref (R 36), .ref (R 37), .ref (R 38), .ref (R 39), .ref (R 40), .ref (R 41), .int 0])), ((R 0), .inl ((C 0), 7, .inl (fun _ => 0)))]) hD hS hA [0, 1] rfl
      refine va_calli (va_runV (As := [.int (-6)]) (rest := []) ⟨hx, hb, hml, hown, hts⟩ (k_X4_refuse6 l dC dI h0 R C s.heap.size) (cwV 1 hts gX4_budget_X4_refuse rfl rfl rfl (by decide +kernel) ⟨Nat.le_of_ble_eq_true rfl, Nat.le_of_ble_eq_true rfl⟩) ⟨pz_blind, va_recv hKc hPc (ci := 5) (q0 := 0) rfl rfl, fun U hU hW => ⟨rfl, pz_at hPc hKc hDc hU hW⟩⟩ rfl rfl hl.1 rfl (lv_room (Nat.le_of_ble_eq_true rfl)) dX4_budget_20 ⟨Nat.le_of_ble_eq_true rfl, Nat.le_of_ble_eq_true rfl⟩) hS (fun q _ h => hFc q h) hFc (fun r_3 u t H locs ht hvm hw hB hz1 hk1 hS => ?_)
      obtain ⟨hP, hD⟩ := va_join (wr := []) (w1 := []) hP hD [0, 1] [] rfl rfl (by decide) (by decide) hk1 hFc pz_nilP pz_nilD
      have hP : va_P (dC, dI) vwCl [] H := hP
      have hD : va_D A [] := hD
      have hw : r_3 = (-6) := hw
      subst hw
      exact W.iret (v := (-6)) hx hb hr (fun t ht hW => ⟨⟨(-6), (), rfl, (by unfold ex_budget; (repeat' split) <;> first | rfl | omega), trivial⟩, hS.F ht⟩) hS.2.2 dX4_budget_23
  · skip
    have i_1 : a1.toInt < 0 := by have h9 := pz_nge c_1; exact h9
    refine lv_aload_n hx hb dX4_budget_4 rfl (lv_at hl 0 rfl) ?_
    refine lv_bipush (v := (-4)) hx hb dX4_budget_5 (by decide) ?_
    have hPc := hP.sub (ws' := [(h0, .inr (5, [.ref (R 0), .int 0, .int 0, .int 0, .int 0, .int 3, .int 20, .int 0, .int 0, .int 0, .int 0, .ref (R 11), .ref (R 12), .ref (R 13), .ref (R 14), .ref (R 15), .ref (R 16), .ref (R 17), .ref (R 18), .ref (R 19), .ref (R 20), .ref (R 21), .ref (R 22), .ref (R 23), .ref (R 24), .ref (R 25), .ref (R 26), .ref (R 27), .ref (R 28), .ref (R 29), .ref (R 30), .ref (R 31), .ref (R 32), .ref (R 33), .ref (R 34), .ref (R 35), .ref (R 36), .ref (R 37), .ref (R 38), .ref (R 39), .ref (R 40), .ref (R 41), .int 0])), ((R 0), .inl ((C 0), 7, .inl (fun _ => 0)))]) [0, 1] rfl
    have hDc := hD.sub (ws' := [(h0, .inr (5, [.ref (R 0), .int 0, .int 0, .int 0, .int 0, .int 3, .int 20, .int 0, .int 0, .int 0, .int 0, .ref (R 11), .ref (R 12), .ref (R 13), .ref (R 14), .ref (R 15), .ref (R 16), .ref (R 17), .ref (R 18), .ref (R 19), .ref (R 20), .ref (R 21), .ref (R 22), .ref (R 23), .ref (R 24), .ref (R 25), .ref (R 26), .ref (R 27), .ref (R 28), .ref (R 29), .ref (R 30), .ref (R 31), .ref (R 32), .ref (R 33), .ref (R 34), .ref (R 35), .ref (R 36), .ref (R 37), .ref (R 38), .ref (R 39), .ref (R 40), .ref (R 41), .int 0])), ((R 0), .inl ((C 0), 7, .inl (fun _ => 0)))]) [0, 1] (by decide) rfl
    have hKc := hK.sub (tys' := [((C 0), .int)]) [0] rfl
    have hFc := va_free (wc := [(h0, .inr (5, [.ref (R 0), .int 0, .int 0, .int 0, .int 0, .int 3, .int 20, .int 0, .int 0, .int 0, .int 0, .ref (R 11), .ref (R 12), .ref (R 13), .ref (R 14), .ref (R 15), .ref (R 16), .ref (R 17), .ref (R 18), .ref (R 19), .ref (R 20), .ref (R 21), .ref (R 22), .ref (R 23), .ref (R 24), .ref (R 25), .ref (R 26), .ref (R 27), .ref (R 28), .ref (R 29), .ref (R 30), .ref (R 31), .ref (R 32), .ref (R 33), .ref (R 34), .ref (R 35), .ref (R 36), .ref (R 37), .ref (R 38), .ref (R 39), .ref (R 40), .ref (R 41), .int 0])), ((R 0), .inl ((C 0), 7, .inl (fun _ => 0)))]) hD hS hA [0, 1] rfl
    refine va_calli (va_runV (As := [.int (-4)]) (rest := []) ⟨hx, hb, hml, hown, hts⟩ (k_X4_refuse4 l dC dI h0 R C s.heap.size) (cwV 1 hts gX4_budget_X4_refuse rfl rfl rfl (by decide +kernel) ⟨Nat.le_of_ble_eq_true rfl, Nat.le_of_ble_eq_true rfl⟩) ⟨pz_blind, va_recv hKc hPc (ci := 5) (q0 := 0) rfl rfl, fun U hU hW => ⟨rfl, pz_at hPc hKc hDc hU hW⟩⟩ rfl rfl hl.1 rfl (lv_room (Nat.le_of_ble_eq_true rfl)) dX4_budget_7 ⟨Nat.le_of_ble_eq_true rfl, Nat.le_of_ble_eq_true rfl⟩) hS (fun q _ h => hFc q h) hFc (fun r_4 u t H locs ht hvm hw hB hz1 hk1 hS => ?_)
    obtain ⟨hP, hD⟩ := va_join (wr := []) (w1 := []) hP hD [0, 1] [] rfl rfl (by decide) (by decide) hk1 hFc pz_nilP pz_nilD
    have hP : va_P (dC, dI) vwCl [] H := hP
    have hD : va_D A [] := hD
    have hw : r_4 = (-4) := hw
    subst hw
    exact W.iret (v := (-4)) hx hb hr (fun t ht hW => ⟨⟨(-4), (), rfl, (by unfold ex_budget; (repeat' split) <;> first | rfl | omega), trivial⟩, hS.F ht⟩) hS.2.2 dX4_budget_10

set_option maxHeartbeats 40000000 in
set_option maxRecDepth 100000 in
theorem k_X4_hedge (l : Launch) (dC : Nat → ClassId) (dI : Nat → Nat → Nat) (h0 : Nat) (R : Nat → Nat) (C : Nat → ClassId) (a1 : Int32) (sz : Nat) : Met l yX4_hedge wsX4_hedge ({ frames := 1, cells := 0, slots := 0, locals := 21 }) (va_Pc [.ref h0, .int a1] (pzPre (dC, dI) vwCl [(h0, .inr (5, [.ref (R 0), .int 0, .int 0, .int 0, .int 0, .int 3, .int 20, .int 0, .int 0, .int 0, .int 0, .ref (R 11), .ref (R 12), .ref (R 13), .ref (R 14), .ref (R 15), .ref (R 16), .ref (R 17), .ref (R 18), .ref (R 19), .ref (R 20), .ref (R 21), .ref (R 22), .ref (R 23), .ref (R 24), .ref (R 25), .ref (R 26), .ref (R 27), .ref (R 28), .ref (R 29), .ref (R 30), .ref (R 31), .ref (R 32), .ref (R 33), .ref (R 34), .ref (R 35), .ref (R 36), .ref (R 37), .ref (R 38), .ref (R 39), .ref (R 40), .ref (R 41), .int 0])), ((R 0), .inl ((C 0), 7, .inl (fun _ => 0)))] [((C 0), .int)] sz)) (va_Qi (fun (r : Int32) (_ : Unit) => r = ex_hedge a1) (fun _ _ => True) (va_A [(h0, .inr (5, [.ref (R 0), .int 0, .int 0, .int 0, .int 0, .int 3, .int 20, .int 0, .int 0, .int 0, .int 0, .ref (R 11), .ref (R 12), .ref (R 13), .ref (R 14), .ref (R 15), .ref (R 16), .ref (R 17), .ref (R 18), .ref (R 19), .ref (R 20), .ref (R 21), .ref (R 22), .ref (R 23), .ref (R 24), .ref (R 25), .ref (R 26), .ref (R 27), .ref (R 28), .ref (R 29), .ref (R 30), .ref (R 31), .ref (R 32), .ref (R 33), .ref (R 34), .ref (R 35), .ref (R 36), .ref (R 37), .ref (R 38), .ref (R 39), .ref (R 40), .ref (R 41), .int 0])), ((R 0), .inl ((C 0), 7, .inl (fun _ => 0)))] sz)) 0 0 (va_A [(h0, .inr (5, [.ref (R 0), .int 0, .int 0, .int 0, .int 0, .int 3, .int 20, .int 0, .int 0, .int 0, .int 0, .ref (R 11), .ref (R 12), .ref (R 13), .ref (R 14), .ref (R 15), .ref (R 16), .ref (R 17), .ref (R 18), .ref (R 19), .ref (R 20), .ref (R 21), .ref (R 22), .ref (R 23), .ref (R 24), .ref (R 25), .ref (R 26), .ref (R 27), .ref (R 28), .ref (R 29), .ref (R 30), .ref (R 31), .ref (R 32), .ref (R 33), .ref (R 34), .ref (R 35), .ref (R 36), .ref (R 37), .ref (R 38), .ref (R 39), .ref (R 40), .ref (R 41), .int 0])), ((R 0), .inl ((C 0), 7, .inl (fun _ => 0)))] sz) := by
  refine Met.ofW (cc := cX4_hedge) (maxL := 3) (ret := (some .int)) (by decide) rfl ?_
  intro p e s m args below meth c s₁ B hml hv
  obtain ⟨rfl, hsz, hP, hK, hD0⟩ := hv
  have hx := B.exec
  have hb := B.bytes
  have hr := B.returns
  have hts := atoms_spec (ws := wsX4_hedge) B.pre
  have hown : s.vm.findClass RX4 = some m.cls := findClass_of_methodNamed B.named
  have hlocks := B.notSynchronized
  subst hsz
  have hD := hD0.self (sz := s.heap.size)
  generalize hAe : va_A [(h0, .inr (5, [.ref (R 0), .int 0, .int 0, .int 0, .int 0, .int 3, .int 20, .int 0, .int 0, .int 0, .int 0, .ref (R 11), .ref (R 12), .ref (R 13), .ref (R 14), .ref (R 15), .ref (R 16), .ref (R 17), .ref (R 18), .ref (R 19), .ref (R 20), .ref (R 21), .ref (R 22), .ref (R 23), .ref (R 24), .ref (R 25), .ref (R 26), .ref (R 27), .ref (R 28), .ref (R 29), .ref (R 30), .ref (R 31), .ref (R 32), .ref (R 33), .ref (R 34), .ref (R 35), .ref (R 36), .ref (R 37), .ref (R 38), .ref (R 39), .ref (R 40), .ref (R 41), .int 0])), ((R 0), .inl ((C 0), 7, .inl (fun _ => 0)))] s.heap.size = A at hD ⊢
  have hA : ∀ q : Nat, s.heap.size ≤ q → A q := fun q h => by rw [← hAe]; exact Or.inr h
  have hS : va_S A s.heap s.heap [] := va_S.rf
  have hP : va_P (dC, dI) vwCl [(h0, .inr (5, [.ref (R 0), .int 0, .int 0, .int 0, .int 0, .int 3, .int 20, .int 0, .int 0, .int 0, .int 0, .ref (R 11), .ref (R 12), .ref (R 13), .ref (R 14), .ref (R 15), .ref (R 16), .ref (R 17), .ref (R 18), .ref (R 19), .ref (R 20), .ref (R 21), .ref (R 22), .ref (R 23), .ref (R 24), .ref (R 25), .ref (R 26), .ref (R 27), .ref (R 28), .ref (R 29), .ref (R 30), .ref (R 31), .ref (R 32), .ref (R 33), .ref (R 34), .ref (R 35), .ref (R 36), .ref (R 37), .ref (R 38), .ref (R 39), .ref (R 40), .ref (R 41), .int 0])), ((R 0), .inl ((C 0), 7, .inl (fun _ => 0)))] s.heap := hP
  have hl := lv_entry ([.ref h0, .int a1]) (n := 3) (Nat.le_of_ble_eq_true rfl)
  rw [lg_entry_eq]
  generalize (lg_sl ([.ref h0, .int a1]) ++ List.replicate (3 - (lg_sl ([.ref h0, .int a1])).length) Slot.unset).toArray = ls at hl ⊢
  have hl : lv_has ls 3 [(0, .ref h0), (1, .int a1)] := hl
  refine lv_iload_n hx hb dX4_hedge_0 rfl (lv_at hl 1 rfl) ?_
  refine lv_if_ge (tgt := 11) hx hb dX4_hedge_1 (by decide) (fun c_1 => ?_) (fun c_1 => ?_)
  · skip
    have i_1 : 0 ≤ a1.toInt := by have h9 := pz_ge c_1; exact h9
    refine lv_iload_n hx hb dX4_hedge_11 rfl (lv_at hl 1 rfl) ?_
    refine lv_sipush (v := 500) hx hb dX4_hedge_12 (by decide) ?_
    refine lv_icmp_le (tgt := 25) hx hb dX4_hedge_15 (by decide) (fun c_2 => ?_) (fun c_2 => ?_)
    · skip
      have i_2 : a1.toInt ≤ 500 := by have h9 := pz_le c_2; exact h9
      refine lv_aload_n hx hb dX4_hedge_25 rfl (lv_at hl 0 rfl) ?_
      refine va_get (D := (dC, dI)) (ci := 5) (v := .int 0) (C := RX4) (T := TX4) (N := 43) hx hb hts (fun _ h => List.mem_cons_of_mem _ (List.mem_append_right _ h)) hown hK hP 0 rfl rfl 7 (by decide) (hts (.fieldLink RX4 139 "FrontDoorModel" "hedge" "I") (by decide +kernel)) (fun _ h9 => h9) rfl dX4_hedge_26 ?_
      refine lv_istore_n (lv' := [(2, .int 0), (0, .ref h0), (1, .int a1)]) hx hb dX4_hedge_29 rfl hl (by decide) rfl (fun ls hl => ?_)
      refine lv_aload_n hx hb dX4_hedge_30 rfl (lv_at hl 1 rfl) ?_
      refine lv_iload_n hx hb dX4_hedge_31 rfl (lv_at hl 2 rfl) ?_
      refine va_put (D := (dC, dI)) (ci := 5) (v := .int a1) (ty := .int) (C := RX4) (T := TX4) (N := 43) hx hb hts (fun _ h => List.mem_cons_of_mem _ (List.mem_append_right _ h)) tyX4 tyX4_ok nmX4 hown hK hP hD hS 0 rfl rfl 7 (by decide) (hts (.fieldLink RX4 139 "FrontDoorModel" "hedge" "I") (by decide +kernel)) (fun _ h9 => h9) rfl (by decide +kernel) rfl rfl (Nat.le_of_ble_eq_true rfl) dX4_hedge_32 (fun H locs hP hD hS => ?_)
      have hP : va_P (dC, dI) vwCl [(h0, .inr (5, [.ref (R 0), .int 0, .int 0, .int 0, .int 0, .int 3, .int 20, .int a1, .int 0, .int 0, .int 0, .ref (R 11), .ref (R 12), .ref (R 13), .ref (R 14), .ref (R 15), .ref (R 16), .ref (R 17), .ref (R 18), .ref (R 19), .ref (R 20), .ref (R 21), .ref (R 22), .ref (R 23), .ref (R 24), .ref (R 25), .ref (R 26), .ref (R 27), .ref (R 28), .ref (R 29), .ref (R 30), .ref (R 31), .ref (R 32), .ref (R 33), .ref (R 34), .ref (R 35), .ref (R 36), .ref (R 37), .ref (R 38), .ref (R 39), .ref (R 40), .ref (R 41), .int 0])), ((R 0), .inl ((C 0), 7, .inl (fun _ => 0)))] H := hP
      have hD : va_D A [(h0, .inr (5, [.ref (R 0), .int 0, .int 0, .int 0, .int 0, .int 3, .int 20, .int a1, .int 0, .int 0, .int 0, .ref (R 11), .ref (R 12), .ref (R 13), .ref (R 14), .ref (R 15), .ref (R 16), .ref (R 17), .ref (R 18), .ref (R 19), .ref (R 20), .ref (R 21), .ref (R 22), .ref (R 23), .ref (R 24), .ref (R 25), .ref (R 26), .ref (R 27), .ref (R 28), .ref (R 29), .ref (R 30), .ref (R 31), .ref (R 32), .ref (R 33), .ref (R 34), .ref (R 35), .ref (R 36), .ref (R 37), .ref (R 38), .ref (R 39), .ref (R 40), .ref (R 41), .int 0])), ((R 0), .inl ((C 0), 7, .inl (fun _ => 0)))] := hD
      refine lv_iload_n hx hb dX4_hedge_35 rfl (lv_at hl 0 rfl) ?_
      exact W.iret (v := 0) hx hb hr (fun t ht hW => ⟨⟨0, (), rfl, (by unfold ex_hedge; (repeat' split) <;> first | rfl | omega), trivial⟩, hS.F ht⟩) hS.2.2 dX4_hedge_36
    · skip
      have i_2 : 500 < a1.toInt := by have h9 := pz_nle c_2; exact h9
      refine lv_aload_n hx hb dX4_hedge_18 rfl (lv_at hl 0 rfl) ?_
      refine lv_bipush (v := (-6)) hx hb dX4_hedge_19 (by decide) ?_
      have hPc := hP.sub (ws' := [(h0, .inr (5, [.ref (R 0), .int 0, .int 0, .int 0, .int 0, .int 3, .int 20, .int 0, .int 0, .int 0, .int 0, .ref (R 11), .ref (R 12), .ref (R 13), .ref (R 14), .ref (R 15), .ref (R 16), .ref (R 17), .ref (R 18), .ref (R 19), .ref (R 20), .ref (R 21), .ref (R 22), .ref (R 23), .ref (R 24), .ref (R 25), .ref (R 26), .ref (R 27), .ref (R 28), .ref (R 29), .ref (R 30), .ref (R 31), .ref (R 32), .ref (R 33), .ref (R 34), .ref (R 35), .ref (R 36), .ref (R 37), .ref (R 38), .ref (R 39), .ref (R 40), .ref (R 41), .int 0])), ((R 0), .inl ((C 0), 7, .inl (fun _ => 0)))]) [0, 1] rfl
      have hDc := hD.sub (ws' := [(h0, .inr (5, [.ref (R 0), .int 0, .int 0, .int 0, .int 0, .int 3, .int 20, .int 0, .int 0, .int 0, .int 0, .ref (R 11), .ref (R 12), .ref (R 13), .ref (R 14), .ref (R 15), .ref (R 16), .ref (R 17), .ref (R 18), .ref (R 19), .ref (R 20), .ref (R 21), .ref (R 22), .ref (R 23), .ref (R 24), .ref (R 25), .ref (R 26), .ref (R 27), .ref (R 28), .ref (R 29), .ref (R 30), .ref (R 31), .ref (R 32), .ref (R 33), .ref (R 34), .ref (R 35), .ref (R 36), .ref (R 37), .ref (R 38), .ref (R 39), .ref (R 40), .ref (R 41), .int 0])), ((R 0), .inl ((C 0), 7, .inl (fun _ => 0)))]) [0, 1] (by decide) rfl
      have hKc := hK.sub (tys' := [((C 0), .int)]) [0] rfl
      have hFc := va_free (wc := [(h0, .inr (5, [.ref (R 0), .int 0, .int 0, .int 0, .int 0, .int 3, .int 20, .int 0, .int 0, .int 0, .int 0, .ref (R 11), .ref (R 12), .ref (R 13), .ref (R 14), .ref (R 15), .ref (R 16), .ref (R 17), .ref (R 18), .ref (R 19), .ref (R 20), .ref (R 21), .ref (R 22), .ref (R 23), .ref (R 24), .ref (R 25), .ref (R 26), .ref (R 27), .ref (R 28), .ref (R 29), .ref (R 30), .ref (R 31), .ref (R 32), .ref (R 33), .ref (R 34), .ref (R 35), .ref (R 36), .ref (R 37), .ref (R 38), .ref (R 39), .ref (R 40), .ref (R 41), .int 0])), ((R 0), .inl ((C 0), 7, .inl (fun _ => 0)))]) hD hS hA [0, 1] rfl
      refine va_calli (va_runV (As := [.int (-6)]) (rest := []) ⟨hx, hb, hml, hown, hts⟩ (k_X4_refuse6 l dC dI h0 R C s.heap.size) (cwV 1 hts gX4_hedge_X4_refuse rfl rfl rfl (by decide +kernel) ⟨Nat.le_of_ble_eq_true rfl, Nat.le_of_ble_eq_true rfl⟩) ⟨pz_blind, va_recv hKc hPc (ci := 5) (q0 := 0) rfl rfl, fun U hU hW => ⟨rfl, pz_at hPc hKc hDc hU hW⟩⟩ rfl rfl hl.1 rfl (lv_room (Nat.le_of_ble_eq_true rfl)) dX4_hedge_21 ⟨Nat.le_of_ble_eq_true rfl, Nat.le_of_ble_eq_true rfl⟩) hS (fun q _ h => hFc q h) hFc (fun r_3 u t H locs ht hvm hw hB hz1 hk1 hS => ?_)
      obtain ⟨hP, hD⟩ := va_join (wr := []) (w1 := []) hP hD [0, 1] [] rfl rfl (by decide) (by decide) hk1 hFc pz_nilP pz_nilD
      have hP : va_P (dC, dI) vwCl [] H := hP
      have hD : va_D A [] := hD
      have hw : r_3 = (-6) := hw
      subst hw
      exact W.iret (v := (-6)) hx hb hr (fun t ht hW => ⟨⟨(-6), (), rfl, (by unfold ex_hedge; (repeat' split) <;> first | rfl | omega), trivial⟩, hS.F ht⟩) hS.2.2 dX4_hedge_24
  · skip
    have i_1 : a1.toInt < 0 := by have h9 := pz_nge c_1; exact h9
    refine lv_aload_n hx hb dX4_hedge_4 rfl (lv_at hl 0 rfl) ?_
    refine lv_bipush (v := (-4)) hx hb dX4_hedge_5 (by decide) ?_
    have hPc := hP.sub (ws' := [(h0, .inr (5, [.ref (R 0), .int 0, .int 0, .int 0, .int 0, .int 3, .int 20, .int 0, .int 0, .int 0, .int 0, .ref (R 11), .ref (R 12), .ref (R 13), .ref (R 14), .ref (R 15), .ref (R 16), .ref (R 17), .ref (R 18), .ref (R 19), .ref (R 20), .ref (R 21), .ref (R 22), .ref (R 23), .ref (R 24), .ref (R 25), .ref (R 26), .ref (R 27), .ref (R 28), .ref (R 29), .ref (R 30), .ref (R 31), .ref (R 32), .ref (R 33), .ref (R 34), .ref (R 35), .ref (R 36), .ref (R 37), .ref (R 38), .ref (R 39), .ref (R 40), .ref (R 41), .int 0])), ((R 0), .inl ((C 0), 7, .inl (fun _ => 0)))]) [0, 1] rfl
    have hDc := hD.sub (ws' := [(h0, .inr (5, [.ref (R 0), .int 0, .int 0, .int 0, .int 0, .int 3, .int 20, .int 0, .int 0, .int 0, .int 0, .ref (R 11), .ref (R 12), .ref (R 13), .ref (R 14), .ref (R 15), .ref (R 16), .ref (R 17), .ref (R 18), .ref (R 19), .ref (R 20), .ref (R 21), .ref (R 22), .ref (R 23), .ref (R 24), .ref (R 25), .ref (R 26), .ref (R 27), .ref (R 28), .ref (R 29), .ref (R 30), .ref (R 31), .ref (R 32), .ref (R 33), .ref (R 34), .ref (R 35), .ref (R 36), .ref (R 37), .ref (R 38), .ref (R 39), .ref (R 40), .ref (R 41), .int 0])), ((R 0), .inl ((C 0), 7, .inl (fun _ => 0)))]) [0, 1] (by decide) rfl
    have hKc := hK.sub (tys' := [((C 0), .int)]) [0] rfl
    have hFc := va_free (wc := [(h0, .inr (5, [.ref (R 0), .int 0, .int 0, .int 0, .int 0, .int 3, .int 20, .int 0, .int 0, .int 0, .int 0, .ref (R 11), .ref (R 12), .ref (R 13), .ref (R 14), .ref (R 15), .ref (R 16), .ref (R 17), .ref (R 18), .ref (R 19), .ref (R 20), .ref (R 21), .ref (R 22), .ref (R 23), .ref (R 24), .ref (R 25), .ref (R 26), .ref (R 27), .ref (R 28), .ref (R 29), .ref (R 30), .ref (R 31), .ref (R 32), .ref (R 33), .ref (R 34), .ref (R 35), .ref (R 36), .ref (R 37), .ref (R 38), .ref (R 39), .ref (R 40), .ref (R 41), .int 0])), ((R 0), .inl ((C 0), 7, .inl (fun _ => 0)))]) hD hS hA [0, 1] rfl
    refine va_calli (va_runV (As := [.int (-4)]) (rest := []) ⟨hx, hb, hml, hown, hts⟩ (k_X4_refuse4 l dC dI h0 R C s.heap.size) (cwV 1 hts gX4_hedge_X4_refuse rfl rfl rfl (by decide +kernel) ⟨Nat.le_of_ble_eq_true rfl, Nat.le_of_ble_eq_true rfl⟩) ⟨pz_blind, va_recv hKc hPc (ci := 5) (q0 := 0) rfl rfl, fun U hU hW => ⟨rfl, pz_at hPc hKc hDc hU hW⟩⟩ rfl rfl hl.1 rfl (lv_room (Nat.le_of_ble_eq_true rfl)) dX4_hedge_7 ⟨Nat.le_of_ble_eq_true rfl, Nat.le_of_ble_eq_true rfl⟩) hS (fun q _ h => hFc q h) hFc (fun r_4 u t H locs ht hvm hw hB hz1 hk1 hS => ?_)
    obtain ⟨hP, hD⟩ := va_join (wr := []) (w1 := []) hP hD [0, 1] [] rfl rfl (by decide) (by decide) hk1 hFc pz_nilP pz_nilD
    have hP : va_P (dC, dI) vwCl [] H := hP
    have hD : va_D A [] := hD
    have hw : r_4 = (-4) := hw
    subst hw
    exact W.iret (v := (-4)) hx hb hr (fun t ht hW => ⟨⟨(-4), (), rfl, (by unfold ex_hedge; (repeat' split) <;> first | rfl | omega), trivial⟩, hS.F ht⟩) hS.2.2 dX4_hedge_10

set_option maxHeartbeats 40000000 in
set_option maxRecDepth 100000 in
theorem k_X4_mays (l : Launch) (dC : Nat → ClassId) (dI : Nat → Nat → Nat) (h0 : Nat) (R : Nat → Nat) (tk : Int32) (cn : Int32) (t0 : Int32) (sz : Nat) : Met l yX4_mays wsX4_mays ({ frames := 0, cells := 0, slots := 0, locals := 0 }) (va_Pc [.ref h0, .int t0] (pzPre (dC, dI) vwCl [(h0, .inr (5, [.ref (R 0), .int tk, .int 0, .int cn, .int 0, .int 3, .int 20, .int 0, .int 0, .int 0, .int 0, .ref (R 11), .ref (R 12), .ref (R 13), .ref (R 14), .ref (R 15), .ref (R 16), .ref (R 17), .ref (R 18), .ref (R 19), .ref (R 20), .ref (R 21), .ref (R 22), .ref (R 23), .ref (R 24), .ref (R 25), .ref (R 26), .ref (R 27), .ref (R 28), .ref (R 29), .ref (R 30), .ref (R 31), .ref (R 32), .ref (R 33), .ref (R 34), .ref (R 35), .ref (R 36), .ref (R 37), .ref (R 38), .ref (R 39), .ref (R 40), .ref (R 41), .int 0]))] [] sz)) (va_Qi (fun (r : Int32) (_ : Unit) => r = 0) (fun _ _ => True) (va_A [] sz)) 0 0 (va_A [] sz) := by
  refine Met.ofW (cc := cX4_mays) (maxL := 4) (ret := (some .int)) (by decide) rfl ?_
  intro p e s m args below meth c s₁ B hml hv
  obtain ⟨rfl, hsz, hP, hK, hD0⟩ := hv
  have hx := B.exec
  have hb := B.bytes
  have hr := B.returns
  have hts := atoms_spec (ws := wsX4_mays) B.pre
  have hown : s.vm.findClass RX4 = some m.cls := findClass_of_methodNamed B.named
  have hlocks := B.notSynchronized
  subst hsz
  have hA : ∀ q : Nat, s.heap.size ≤ q → va_A [] s.heap.size q := fun q h => Or.inr h
  have hD := hD0
  generalize va_A [] s.heap.size = A at hA ⊢
  have hS : va_S A s.heap s.heap [] := va_S.rf
  have hP : va_P (dC, dI) vwCl [(h0, .inr (5, [.ref (R 0), .int tk, .int 0, .int cn, .int 0, .int 3, .int 20, .int 0, .int 0, .int 0, .int 0, .ref (R 11), .ref (R 12), .ref (R 13), .ref (R 14), .ref (R 15), .ref (R 16), .ref (R 17), .ref (R 18), .ref (R 19), .ref (R 20), .ref (R 21), .ref (R 22), .ref (R 23), .ref (R 24), .ref (R 25), .ref (R 26), .ref (R 27), .ref (R 28), .ref (R 29), .ref (R 30), .ref (R 31), .ref (R 32), .ref (R 33), .ref (R 34), .ref (R 35), .ref (R 36), .ref (R 37), .ref (R 38), .ref (R 39), .ref (R 40), .ref (R 41), .int 0]))] s.heap := hP
  have hl := lv_entry ([.ref h0, .int t0]) (n := 4) (Nat.le_of_ble_eq_true rfl)
  rw [lg_entry_eq]
  generalize (lg_sl ([.ref h0, .int t0]) ++ List.replicate (4 - (lg_sl ([.ref h0, .int t0])).length) Slot.unset).toArray = ls at hl ⊢
  have hl : lv_has ls 4 [(0, .ref h0), (1, .int t0)] := hl
  refine lv_iconst (v := 0) hx hb dX4_mays_0 (by decide) ?_
  refine lv_istore_n (lv' := [(2, .int 0), (0, .ref h0), (1, .int t0)]) hx hb dX4_mays_1 rfl hl (by decide) rfl (fun ls hl => ?_)
  refine lv_iconst (v := 0) hx hb dX4_mays_2 (by decide) ?_
  refine lv_istore_n (lv' := [(3, .int 0), (2, .int 0), (0, .ref h0), (1, .int t0)]) hx hb dX4_mays_3 rfl hl (by decide) rfl (fun ls hl => ?_)
  refine lv_iload_n hx hb dX4_mays_4 rfl (lv_at hl 0 rfl) ?_
  refine lv_aload_n hx hb dX4_mays_5 rfl (lv_at hl 2 rfl) ?_
  refine va_get (D := (dC, dI)) (ci := 5) (v := .int 0) (C := RX4) (T := TX4) (N := 43) hx hb hts (fun _ h => List.mem_cons_of_mem _ (List.mem_append_right _ h)) hown hK hP 0 rfl rfl 2 (by decide) (hts (.fieldLink RX4 114 "FrontDoorModel" "servers" "I") (by decide +kernel)) (fun _ h9 => h9) rfl dX4_mays_6 ?_
  refine lv_icmp_ge (tgt := 75) hx hb dX4_mays_9 (by decide) (fun c_1 => ?_) (fun c_1 => absurd (by decide) c_1)
  refine lv_iload_n hx hb dX4_mays_75 rfl (lv_at hl 1 rfl) ?_
  exact W.iret (v := 0) hx hb hr (fun t ht hW => ⟨⟨0, (), rfl, rfl, trivial⟩, hS.F ht⟩) hS.2.2 dX4_mays_76

set_option maxHeartbeats 40000000 in
set_option maxRecDepth 100000 in
theorem k_X4_asksFor (l : Launch) (dC : Nat → ClassId) (dI : Nat → Nat → Nat) (h0 : Nat) (R : Nat → Nat) (C : Nat → ClassId) (tk : Int32) (cn : Int32) (sz : Nat) : Met l yX4_asksFor wsX4_asksFor ({ frames := 1, cells := 0, slots := 0, locals := 23 }) (va_Pc [.ref h0, .int 0] (pzPre (dC, dI) vwCl [(h0, .inr (5, [.ref (R 0), .int tk, .int 0, .int cn, .int 0, .int 3, .int 20, .int 0, .int 0, .int 0, .int 0, .ref (R 11), .ref (R 12), .ref (R 13), .ref (R 14), .ref (R 15), .ref (R 16), .ref (R 17), .ref (R 18), .ref (R 19), .ref (R 20), .ref (R 21), .ref (R 22), .ref (R 23), .ref (R 24), .ref (R 25), .ref (R 26), .ref (R 27), .ref (R 28), .ref (R 29), .ref (R 30), .ref (R 31), .ref (R 32), .ref (R 33), .ref (R 34), .ref (R 35), .ref (R 36), .ref (R 37), .ref (R 38), .ref (R 39), .ref (R 40), .ref (R 41), .int 0])), ((R 32), .inl ((C 32), 200, .inl (fun _ => 0)))] [((C 32), .int)] sz)) (va_Qi (fun (r : Int32) (_ : Unit) => r = 0) (fun _ _ => True) (va_A [] sz)) 0 0 (va_A [] sz) := by
  refine Met.ofW (cc := cX4_asksFor) (maxL := 3) (ret := (some .boolean)) (by decide) rfl ?_
  intro p e s m args below meth c s₁ B hml hv
  obtain ⟨rfl, hsz, hP, hK, hD0⟩ := hv
  have hx := B.exec
  have hb := B.bytes
  have hr := B.returns
  have hts := atoms_spec (ws := wsX4_asksFor) B.pre
  have hown : s.vm.findClass RX4 = some m.cls := findClass_of_methodNamed B.named
  have hlocks := B.notSynchronized
  subst hsz
  have hA : ∀ q : Nat, s.heap.size ≤ q → va_A [] s.heap.size q := fun q h => Or.inr h
  have hD := hD0
  generalize va_A [] s.heap.size = A at hA ⊢
  have hS : va_S A s.heap s.heap [] := va_S.rf
  have hP : va_P (dC, dI) vwCl [(h0, .inr (5, [.ref (R 0), .int tk, .int 0, .int cn, .int 0, .int 3, .int 20, .int 0, .int 0, .int 0, .int 0, .ref (R 11), .ref (R 12), .ref (R 13), .ref (R 14), .ref (R 15), .ref (R 16), .ref (R 17), .ref (R 18), .ref (R 19), .ref (R 20), .ref (R 21), .ref (R 22), .ref (R 23), .ref (R 24), .ref (R 25), .ref (R 26), .ref (R 27), .ref (R 28), .ref (R 29), .ref (R 30), .ref (R 31), .ref (R 32), .ref (R 33), .ref (R 34), .ref (R 35), .ref (R 36), .ref (R 37), .ref (R 38), .ref (R 39), .ref (R 40), .ref (R 41), .int 0])), ((R 32), .inl ((C 32), 200, .inl (fun _ => 0)))] s.heap := hP
  have hl := lv_entry ([.ref h0, .int 0]) (n := 3) (Nat.le_of_ble_eq_true rfl)
  rw [lg_entry_eq]
  generalize (lg_sl ([.ref h0, .int 0]) ++ List.replicate (3 - (lg_sl ([.ref h0, .int 0])).length) Slot.unset).toArray = ls at hl ⊢
  have hl : lv_has ls 3 [(0, .ref h0), (1, .int 0)] := hl
  refine lv_aload_n hx hb dX4_asksFor_0 rfl (lv_at hl 0 rfl) ?_
  refine lv_aload_n hx hb dX4_asksFor_1 rfl (lv_at hl 0 rfl) ?_
  refine va_get (D := (dC, dI)) (ci := 5) (v := .ref (R 32)) (C := RX4) (T := TX4) (N := 43) hx hb hts (fun _ h => List.mem_cons_of_mem _ (List.mem_append_right _ h)) hown hK hP 0 rfl rfl 32 (by decide) (hts (.fieldLink RX4 83 "FrontDoorModel" "tried" "[I") (by decide +kernel)) (fun _ h9 => h9) rfl dX4_asksFor_2 ?_
  refine lv_iload_n hx hb dX4_asksFor_5 rfl (lv_at hl 1 rfl) ?_
  refine va_iald hx hb hK hP 1 0 rfl rfl (by unfold vp_in; decide) dX4_asksFor_6 ?_
  refine lv_topi (fun x_1 ex_1 => ?_)
  obtain rfl : x_1 = 0 := ex_1.trans (rfl)
  have hPc := hP.sub (ws' := [(h0, .inr (5, [.ref (R 0), .int tk, .int 0, .int cn, .int 0, .int 3, .int 20, .int 0, .int 0, .int 0, .int 0, .ref (R 11), .ref (R 12), .ref (R 13), .ref (R 14), .ref (R 15), .ref (R 16), .ref (R 17), .ref (R 18), .ref (R 19), .ref (R 20), .ref (R 21), .ref (R 22), .ref (R 23), .ref (R 24), .ref (R 25), .ref (R 26), .ref (R 27), .ref (R 28), .ref (R 29), .ref (R 30), .ref (R 31), .ref (R 32), .ref (R 33), .ref (R 34), .ref (R 35), .ref (R 36), .ref (R 37), .ref (R 38), .ref (R 39), .ref (R 40), .ref (R 41), .int 0]))]) [0] rfl
  have hDc := hD.sub (ws' := [(h0, .inr (5, [.ref (R 0), .int tk, .int 0, .int cn, .int 0, .int 3, .int 20, .int 0, .int 0, .int 0, .int 0, .ref (R 11), .ref (R 12), .ref (R 13), .ref (R 14), .ref (R 15), .ref (R 16), .ref (R 17), .ref (R 18), .ref (R 19), .ref (R 20), .ref (R 21), .ref (R 22), .ref (R 23), .ref (R 24), .ref (R 25), .ref (R 26), .ref (R 27), .ref (R 28), .ref (R 29), .ref (R 30), .ref (R 31), .ref (R 32), .ref (R 33), .ref (R 34), .ref (R 35), .ref (R 36), .ref (R 37), .ref (R 38), .ref (R 39), .ref (R 40), .ref (R 41), .int 0]))]) [0] (by decide) rfl
  have hKc := hK.sub (tys' := []) [] rfl
  have hFc := pz_f hA hS
  refine va_calli (va_runV (As := [.int 0]) (rest := []) ⟨hx, hb, hml, hown, hts⟩ (k_X4_mays l dC dI h0 R tk cn 0 s.heap.size) (cwV 1 hts gX4_asksFor_X4_mays rfl rfl rfl (by decide +kernel) ⟨Nat.le_of_ble_eq_true rfl, Nat.le_of_ble_eq_true rfl⟩) ⟨pz_blind, va_recv hKc hPc (ci := 5) (q0 := 0) rfl rfl, fun U hU hW => ⟨rfl, pz_at hPc hKc hDc hU hW⟩⟩ rfl rfl hl.1 rfl (lv_room (Nat.le_of_ble_eq_true rfl)) dX4_asksFor_7 ⟨Nat.le_of_ble_eq_true rfl, Nat.le_of_ble_eq_true rfl⟩) hS (fun q _ h => hFc q h) hFc (fun r_2 u t H locs ht hvm hw hB hz1 hk1 hS => ?_)
  have hP := pz_keep hP hk1
  have hw : r_2 = 0 := hw
  subst hw
  refine lv_istore_n (lv' := [(2, .int 0), (0, .ref h0), (1, .int 0)]) hx hb dX4_asksFor_10 rfl hl (by decide) rfl (fun ls hl => ?_)
  refine lv_iload_n hx hb dX4_asksFor_11 rfl (lv_at hl 0 rfl) ?_
  refine lv_if_ne (tgt := 17) hx hb dX4_asksFor_12 (by decide) (fun c_3 => absurd c_3 (by decide)) (fun c_3 => ?_)
  refine lv_iconst (v := 0) hx hb dX4_asksFor_15 (by decide) ?_
  exact W.zret (v := 0) hx hb hr rfl (fun t ht hW => ⟨⟨0, (), rfl, rfl, trivial⟩, hS.F ht⟩) hS.2.2 dX4_asksFor_16

set_option maxHeartbeats 40000000 in
set_option maxRecDepth 100000 in
theorem k_X4_pick (l : Launch) (dC : Nat → ClassId) (dI : Nat → Nat → Nat) (h0 : Nat) (R : Nat → Nat) (C : Nat → ClassId) (a1 : Int32) (sz : Nat) : Met l yX4_pick wsX4_pick ({ frames := 1, cells := 0, slots := 0, locals := 23 }) (va_Pc [.ref h0, .int a1] (pzPre (dC, dI) vwCl [(h0, .inr (5, [.ref (R 0), .int 0, .int 0, .int 0, .int 0, .int 3, .int 20, .int 0, .int 0, .int 0, .int 0, .ref (R 11), .ref (R 12), .ref (R 13), .ref (R 14), .ref (R 15), .ref (R 16), .ref (R 17), .ref (R 18), .ref (R 19), .ref (R 20), .ref (R 21), .ref (R 22), .ref (R 23), .ref (R 24), .ref (R 25), .ref (R 26), .ref (R 27), .ref (R 28), .ref (R 29), .ref (R 30), .ref (R 31), .ref (R 32), .ref (R 33), .ref (R 34), .ref (R 35), .ref (R 36), .ref (R 37), .ref (R 38), .ref (R 39), .ref (R 40), .ref (R 41), .int 0])), ((R 0), .inl ((C 0), 7, .inl (fun _ => 0)))] [((C 0), .int)] sz)) (va_Qi (fun (r : Int32) (_ : Unit) => r = ex_pick a1) (fun _ _ => True) (va_A [(h0, .inr (5, [.ref (R 0), .int 0, .int 0, .int 0, .int 0, .int 3, .int 20, .int 0, .int 0, .int 0, .int 0, .ref (R 11), .ref (R 12), .ref (R 13), .ref (R 14), .ref (R 15), .ref (R 16), .ref (R 17), .ref (R 18), .ref (R 19), .ref (R 20), .ref (R 21), .ref (R 22), .ref (R 23), .ref (R 24), .ref (R 25), .ref (R 26), .ref (R 27), .ref (R 28), .ref (R 29), .ref (R 30), .ref (R 31), .ref (R 32), .ref (R 33), .ref (R 34), .ref (R 35), .ref (R 36), .ref (R 37), .ref (R 38), .ref (R 39), .ref (R 40), .ref (R 41), .int 0])), ((R 0), .inl ((C 0), 7, .inl (fun _ => 0)))] sz)) 0 0 (va_A [(h0, .inr (5, [.ref (R 0), .int 0, .int 0, .int 0, .int 0, .int 3, .int 20, .int 0, .int 0, .int 0, .int 0, .ref (R 11), .ref (R 12), .ref (R 13), .ref (R 14), .ref (R 15), .ref (R 16), .ref (R 17), .ref (R 18), .ref (R 19), .ref (R 20), .ref (R 21), .ref (R 22), .ref (R 23), .ref (R 24), .ref (R 25), .ref (R 26), .ref (R 27), .ref (R 28), .ref (R 29), .ref (R 30), .ref (R 31), .ref (R 32), .ref (R 33), .ref (R 34), .ref (R 35), .ref (R 36), .ref (R 37), .ref (R 38), .ref (R 39), .ref (R 40), .ref (R 41), .int 0])), ((R 0), .inl ((C 0), 7, .inl (fun _ => 0)))] sz) := by
  refine Met.ofW (cc := cX4_pick) (maxL := 3) (ret := (some .int)) (by decide) rfl ?_
  intro p e s m args below meth c s₁ B hml hv
  obtain ⟨rfl, hsz, hP, hK, hD0⟩ := hv
  have hx := B.exec
  have hb := B.bytes
  have hr := B.returns
  have hts := atoms_spec (ws := wsX4_pick) B.pre
  have hown : s.vm.findClass RX4 = some m.cls := findClass_of_methodNamed B.named
  have hlocks := B.notSynchronized
  subst hsz
  have hD := hD0.self (sz := s.heap.size)
  generalize hAe : va_A [(h0, .inr (5, [.ref (R 0), .int 0, .int 0, .int 0, .int 0, .int 3, .int 20, .int 0, .int 0, .int 0, .int 0, .ref (R 11), .ref (R 12), .ref (R 13), .ref (R 14), .ref (R 15), .ref (R 16), .ref (R 17), .ref (R 18), .ref (R 19), .ref (R 20), .ref (R 21), .ref (R 22), .ref (R 23), .ref (R 24), .ref (R 25), .ref (R 26), .ref (R 27), .ref (R 28), .ref (R 29), .ref (R 30), .ref (R 31), .ref (R 32), .ref (R 33), .ref (R 34), .ref (R 35), .ref (R 36), .ref (R 37), .ref (R 38), .ref (R 39), .ref (R 40), .ref (R 41), .int 0])), ((R 0), .inl ((C 0), 7, .inl (fun _ => 0)))] s.heap.size = A at hD ⊢
  have hA : ∀ q : Nat, s.heap.size ≤ q → A q := fun q h => by rw [← hAe]; exact Or.inr h
  have hS : va_S A s.heap s.heap [] := va_S.rf
  have hP : va_P (dC, dI) vwCl [(h0, .inr (5, [.ref (R 0), .int 0, .int 0, .int 0, .int 0, .int 3, .int 20, .int 0, .int 0, .int 0, .int 0, .ref (R 11), .ref (R 12), .ref (R 13), .ref (R 14), .ref (R 15), .ref (R 16), .ref (R 17), .ref (R 18), .ref (R 19), .ref (R 20), .ref (R 21), .ref (R 22), .ref (R 23), .ref (R 24), .ref (R 25), .ref (R 26), .ref (R 27), .ref (R 28), .ref (R 29), .ref (R 30), .ref (R 31), .ref (R 32), .ref (R 33), .ref (R 34), .ref (R 35), .ref (R 36), .ref (R 37), .ref (R 38), .ref (R 39), .ref (R 40), .ref (R 41), .int 0])), ((R 0), .inl ((C 0), 7, .inl (fun _ => 0)))] s.heap := hP
  have hl := lv_entry ([.ref h0, .int a1]) (n := 3) (Nat.le_of_ble_eq_true rfl)
  rw [lg_entry_eq]
  generalize (lg_sl ([.ref h0, .int a1]) ++ List.replicate (3 - (lg_sl ([.ref h0, .int a1])).length) Slot.unset).toArray = ls at hl ⊢
  have hl : lv_has ls 3 [(0, .ref h0), (1, .int a1)] := hl
  refine lv_iload_n hx hb dX4_pick_0 rfl (lv_at hl 1 rfl) ?_
  refine lv_if_ge (tgt := 11) hx hb dX4_pick_1 (by decide) (fun c_1 => ?_) (fun c_1 => ?_)
  · skip
    have i_1 : 0 ≤ a1.toInt := by have h9 := pz_ge c_1; exact h9
    refine lv_iload_n hx hb dX4_pick_11 rfl (lv_at hl 1 rfl) ?_
    refine lv_ldc hx hb hown (hts (.constant RX4 143 (65536)) (by decide +kernel)) dX4_pick_12 ?_
    refine lv_icmp_lt (tgt := 24) hx hb dX4_pick_14 (by decide) (fun c_2 => ?_) (fun c_2 => ?_)
    · skip
      have i_2 : a1.toInt < 65536 := by have h9 := pz_lt c_2; exact h9
      refine lv_aload_n hx hb dX4_pick_24 rfl (lv_at hl 0 rfl) ?_
      refine lv_iconst (v := 0) hx hb dX4_pick_25 (by decide) ?_
      have hPc := hP.sub (ws' := [(h0, .inr (5, [.ref (R 0), .int 0, .int 0, .int 0, .int 0, .int 3, .int 20, .int 0, .int 0, .int 0, .int 0, .ref (R 11), .ref (R 12), .ref (R 13), .ref (R 14), .ref (R 15), .ref (R 16), .ref (R 17), .ref (R 18), .ref (R 19), .ref (R 20), .ref (R 21), .ref (R 22), .ref (R 23), .ref (R 24), .ref (R 25), .ref (R 26), .ref (R 27), .ref (R 28), .ref (R 29), .ref (R 30), .ref (R 31), .ref (R 32), .ref (R 33), .ref (R 34), .ref (R 35), .ref (R 36), .ref (R 37), .ref (R 38), .ref (R 39), .ref (R 40), .ref (R 41), .int 0]))]) [0] rfl
      have hDc := hD.sub (ws' := [(h0, .inr (5, [.ref (R 0), .int 0, .int 0, .int 0, .int 0, .int 3, .int 20, .int 0, .int 0, .int 0, .int 0, .ref (R 11), .ref (R 12), .ref (R 13), .ref (R 14), .ref (R 15), .ref (R 16), .ref (R 17), .ref (R 18), .ref (R 19), .ref (R 20), .ref (R 21), .ref (R 22), .ref (R 23), .ref (R 24), .ref (R 25), .ref (R 26), .ref (R 27), .ref (R 28), .ref (R 29), .ref (R 30), .ref (R 31), .ref (R 32), .ref (R 33), .ref (R 34), .ref (R 35), .ref (R 36), .ref (R 37), .ref (R 38), .ref (R 39), .ref (R 40), .ref (R 41), .int 0]))]) [0] (by decide) rfl
      have hKc := hK.sub (tys' := []) [] rfl
      have hFc := pz_f hA hS
      refine va_calli (va_runV (As := [.int 0]) (rest := []) ⟨hx, hb, hml, hown, hts⟩ (k_X4_mays l dC dI h0 R 0 0 0 s.heap.size) (cwV 1 hts gX4_pick_X4_mays rfl rfl rfl (by decide +kernel) ⟨Nat.le_of_ble_eq_true rfl, Nat.le_of_ble_eq_true rfl⟩) ⟨pz_blind, va_recv hKc hPc (ci := 5) (q0 := 0) rfl rfl, fun U hU hW => ⟨rfl, pz_at hPc hKc hDc hU hW⟩⟩ rfl rfl hl.1 rfl (lv_room (Nat.le_of_ble_eq_true rfl)) dX4_pick_26 ⟨Nat.le_of_ble_eq_true rfl, Nat.le_of_ble_eq_true rfl⟩) hS (fun q _ h => hFc q h) hFc (fun r_3 u t H locs ht hvm hw hB hz1 hk1 hS => ?_)
      have hP := pz_keep hP hk1
      have hw : r_3 = 0 := hw
      subst hw
      refine lv_istore_n (lv' := [(2, .int 0), (0, .ref h0), (1, .int a1)]) hx hb dX4_pick_29 rfl hl (by decide) rfl (fun ls hl => ?_)
      refine lv_iload_n hx hb dX4_pick_30 rfl (lv_at hl 0 rfl) ?_
      refine lv_if_ne (tgt := 39) hx hb dX4_pick_31 (by decide) (fun c_4 => absurd c_4 (by decide)) (fun c_4 => ?_)
      refine lv_bipush (v := (-9)) hx hb dX4_pick_34 (by decide) ?_
      refine lv_goto (tgt := 46) hx hb dX4_pick_36 (by decide) ?_
      exact W.iret (v := (-9)) hx hb hr (fun t ht hW => ⟨⟨(-9), (), rfl, (by unfold ex_pick; (repeat' split) <;> first | rfl | omega), trivial⟩, hS.F ht⟩) hS.2.2 dX4_pick_46
    · skip
      have i_2 : 65536 ≤ a1.toInt := by have h9 := pz_nlt c_2; exact h9
      refine lv_aload_n hx hb dX4_pick_17 rfl (lv_at hl 0 rfl) ?_
      refine lv_bipush (v := (-6)) hx hb dX4_pick_18 (by decide) ?_
      have hPc := hP.sub (ws' := [(h0, .inr (5, [.ref (R 0), .int 0, .int 0, .int 0, .int 0, .int 3, .int 20, .int 0, .int 0, .int 0, .int 0, .ref (R 11), .ref (R 12), .ref (R 13), .ref (R 14), .ref (R 15), .ref (R 16), .ref (R 17), .ref (R 18), .ref (R 19), .ref (R 20), .ref (R 21), .ref (R 22), .ref (R 23), .ref (R 24), .ref (R 25), .ref (R 26), .ref (R 27), .ref (R 28), .ref (R 29), .ref (R 30), .ref (R 31), .ref (R 32), .ref (R 33), .ref (R 34), .ref (R 35), .ref (R 36), .ref (R 37), .ref (R 38), .ref (R 39), .ref (R 40), .ref (R 41), .int 0])), ((R 0), .inl ((C 0), 7, .inl (fun _ => 0)))]) [0, 1] rfl
      have hDc := hD.sub (ws' := [(h0, .inr (5, [.ref (R 0), .int 0, .int 0, .int 0, .int 0, .int 3, .int 20, .int 0, .int 0, .int 0, .int 0, .ref (R 11), .ref (R 12), .ref (R 13), .ref (R 14), .ref (R 15), .ref (R 16), .ref (R 17), .ref (R 18), .ref (R 19), .ref (R 20), .ref (R 21), .ref (R 22), .ref (R 23), .ref (R 24), .ref (R 25), .ref (R 26), .ref (R 27), .ref (R 28), .ref (R 29), .ref (R 30), .ref (R 31), .ref (R 32), .ref (R 33), .ref (R 34), .ref (R 35), .ref (R 36), .ref (R 37), .ref (R 38), .ref (R 39), .ref (R 40), .ref (R 41), .int 0])), ((R 0), .inl ((C 0), 7, .inl (fun _ => 0)))]) [0, 1] (by decide) rfl
      have hKc := hK.sub (tys' := [((C 0), .int)]) [0] rfl
      have hFc := va_free (wc := [(h0, .inr (5, [.ref (R 0), .int 0, .int 0, .int 0, .int 0, .int 3, .int 20, .int 0, .int 0, .int 0, .int 0, .ref (R 11), .ref (R 12), .ref (R 13), .ref (R 14), .ref (R 15), .ref (R 16), .ref (R 17), .ref (R 18), .ref (R 19), .ref (R 20), .ref (R 21), .ref (R 22), .ref (R 23), .ref (R 24), .ref (R 25), .ref (R 26), .ref (R 27), .ref (R 28), .ref (R 29), .ref (R 30), .ref (R 31), .ref (R 32), .ref (R 33), .ref (R 34), .ref (R 35), .ref (R 36), .ref (R 37), .ref (R 38), .ref (R 39), .ref (R 40), .ref (R 41), .int 0])), ((R 0), .inl ((C 0), 7, .inl (fun _ => 0)))]) hD hS hA [0, 1] rfl
      refine va_calli (va_runV (As := [.int (-6)]) (rest := []) ⟨hx, hb, hml, hown, hts⟩ (k_X4_refuse6 l dC dI h0 R C s.heap.size) (cwV 1 hts gX4_pick_X4_refuse rfl rfl rfl (by decide +kernel) ⟨Nat.le_of_ble_eq_true rfl, Nat.le_of_ble_eq_true rfl⟩) ⟨pz_blind, va_recv hKc hPc (ci := 5) (q0 := 0) rfl rfl, fun U hU hW => ⟨rfl, pz_at hPc hKc hDc hU hW⟩⟩ rfl rfl hl.1 rfl (lv_room (Nat.le_of_ble_eq_true rfl)) dX4_pick_20 ⟨Nat.le_of_ble_eq_true rfl, Nat.le_of_ble_eq_true rfl⟩) hS (fun q _ h => hFc q h) hFc (fun r_5 u t H locs ht hvm hw hB hz1 hk1 hS => ?_)
      obtain ⟨hP, hD⟩ := va_join (wr := []) (w1 := []) hP hD [0, 1] [] rfl rfl (by decide) (by decide) hk1 hFc pz_nilP pz_nilD
      have hP : va_P (dC, dI) vwCl [] H := hP
      have hD : va_D A [] := hD
      have hw : r_5 = (-6) := hw
      subst hw
      exact W.iret (v := (-6)) hx hb hr (fun t ht hW => ⟨⟨(-6), (), rfl, (by unfold ex_pick; (repeat' split) <;> first | rfl | omega), trivial⟩, hS.F ht⟩) hS.2.2 dX4_pick_23
  · skip
    have i_1 : a1.toInt < 0 := by have h9 := pz_nge c_1; exact h9
    refine lv_aload_n hx hb dX4_pick_4 rfl (lv_at hl 0 rfl) ?_
    refine lv_bipush (v := (-4)) hx hb dX4_pick_5 (by decide) ?_
    have hPc := hP.sub (ws' := [(h0, .inr (5, [.ref (R 0), .int 0, .int 0, .int 0, .int 0, .int 3, .int 20, .int 0, .int 0, .int 0, .int 0, .ref (R 11), .ref (R 12), .ref (R 13), .ref (R 14), .ref (R 15), .ref (R 16), .ref (R 17), .ref (R 18), .ref (R 19), .ref (R 20), .ref (R 21), .ref (R 22), .ref (R 23), .ref (R 24), .ref (R 25), .ref (R 26), .ref (R 27), .ref (R 28), .ref (R 29), .ref (R 30), .ref (R 31), .ref (R 32), .ref (R 33), .ref (R 34), .ref (R 35), .ref (R 36), .ref (R 37), .ref (R 38), .ref (R 39), .ref (R 40), .ref (R 41), .int 0])), ((R 0), .inl ((C 0), 7, .inl (fun _ => 0)))]) [0, 1] rfl
    have hDc := hD.sub (ws' := [(h0, .inr (5, [.ref (R 0), .int 0, .int 0, .int 0, .int 0, .int 3, .int 20, .int 0, .int 0, .int 0, .int 0, .ref (R 11), .ref (R 12), .ref (R 13), .ref (R 14), .ref (R 15), .ref (R 16), .ref (R 17), .ref (R 18), .ref (R 19), .ref (R 20), .ref (R 21), .ref (R 22), .ref (R 23), .ref (R 24), .ref (R 25), .ref (R 26), .ref (R 27), .ref (R 28), .ref (R 29), .ref (R 30), .ref (R 31), .ref (R 32), .ref (R 33), .ref (R 34), .ref (R 35), .ref (R 36), .ref (R 37), .ref (R 38), .ref (R 39), .ref (R 40), .ref (R 41), .int 0])), ((R 0), .inl ((C 0), 7, .inl (fun _ => 0)))]) [0, 1] (by decide) rfl
    have hKc := hK.sub (tys' := [((C 0), .int)]) [0] rfl
    have hFc := va_free (wc := [(h0, .inr (5, [.ref (R 0), .int 0, .int 0, .int 0, .int 0, .int 3, .int 20, .int 0, .int 0, .int 0, .int 0, .ref (R 11), .ref (R 12), .ref (R 13), .ref (R 14), .ref (R 15), .ref (R 16), .ref (R 17), .ref (R 18), .ref (R 19), .ref (R 20), .ref (R 21), .ref (R 22), .ref (R 23), .ref (R 24), .ref (R 25), .ref (R 26), .ref (R 27), .ref (R 28), .ref (R 29), .ref (R 30), .ref (R 31), .ref (R 32), .ref (R 33), .ref (R 34), .ref (R 35), .ref (R 36), .ref (R 37), .ref (R 38), .ref (R 39), .ref (R 40), .ref (R 41), .int 0])), ((R 0), .inl ((C 0), 7, .inl (fun _ => 0)))]) hD hS hA [0, 1] rfl
    refine va_calli (va_runV (As := [.int (-4)]) (rest := []) ⟨hx, hb, hml, hown, hts⟩ (k_X4_refuse4 l dC dI h0 R C s.heap.size) (cwV 1 hts gX4_pick_X4_refuse rfl rfl rfl (by decide +kernel) ⟨Nat.le_of_ble_eq_true rfl, Nat.le_of_ble_eq_true rfl⟩) ⟨pz_blind, va_recv hKc hPc (ci := 5) (q0 := 0) rfl rfl, fun U hU hW => ⟨rfl, pz_at hPc hKc hDc hU hW⟩⟩ rfl rfl hl.1 rfl (lv_room (Nat.le_of_ble_eq_true rfl)) dX4_pick_7 ⟨Nat.le_of_ble_eq_true rfl, Nat.le_of_ble_eq_true rfl⟩) hS (fun q _ h => hFc q h) hFc (fun r_6 u t H locs ht hvm hw hB hz1 hk1 hS => ?_)
    obtain ⟨hP, hD⟩ := va_join (wr := []) (w1 := []) hP hD [0, 1] [] rfl rfl (by decide) (by decide) hk1 hFc pz_nilP pz_nilD
    have hP : va_P (dC, dI) vwCl [] H := hP
    have hD : va_D A [] := hD
    have hw : r_6 = (-4) := hw
    subst hw
    exact W.iret (v := (-4)) hx hb hr (fun t ht hW => ⟨⟨(-4), (), rfl, (by unfold ex_pick; (repeat' split) <;> first | rfl | omega), trivial⟩, hS.F ht⟩) hS.2.2 dX4_pick_10

set_option maxHeartbeats 40000000 in
set_option maxRecDepth 100000 in
theorem k_X4_line (l : Launch) (dC : Nat → ClassId) (dI : Nat → Nat → Nat) (h0 : Nat) (R : Nat → Nat) (tk : Int32) (sz : Nat) : Met l yX4_line wsX4_line ({ frames := 0, cells := 0, slots := 0, locals := 0 }) (va_Pc [.ref h0] (pzPre (dC, dI) vwCl [(h0, .inr (5, [.ref (R 0), .int tk, .int 0, .int 0, .int 0, .int 3, .int 20, .int 0, .int 0, .int 0, .int 0, .ref (R 11), .ref (R 12), .ref (R 13), .ref (R 14), .ref (R 15), .ref (R 16), .ref (R 17), .ref (R 18), .ref (R 19), .ref (R 20), .ref (R 21), .ref (R 22), .ref (R 23), .ref (R 24), .ref (R 25), .ref (R 26), .ref (R 27), .ref (R 28), .ref (R 29), .ref (R 30), .ref (R 31), .ref (R 32), .ref (R 33), .ref (R 34), .ref (R 35), .ref (R 36), .ref (R 37), .ref (R 38), .ref (R 39), .ref (R 40), .ref (R 41), .int 0]))] [] sz)) (va_Qv (fun _ : Unit => True) (fun (_ : Unit) (t : State) => va_P (dC, dI) vwCl [(h0, .inr (5, [.ref (R 0), .int tk, .int 0, .int 0, .int 0, .int 3, .int 20, .int 0, .int 0, .int 0, .int 0, .ref (R 11), .ref (R 12), .ref (R 13), .ref (R 14), .ref (R 15), .ref (R 16), .ref (R 17), .ref (R 18), .ref (R 19), .ref (R 20), .ref (R 21), .ref (R 22), .ref (R 23), .ref (R 24), .ref (R 25), .ref (R 26), .ref (R 27), .ref (R 28), .ref (R 29), .ref (R 30), .ref (R 31), .ref (R 32), .ref (R 33), .ref (R 34), .ref (R 35), .ref (R 36), .ref (R 37), .ref (R 38), .ref (R 39), .ref (R 40), .ref (R 41), .int 0]))] t.heap ∧ va_K (dC, dI) vwCl [] t ∧ va_D (va_A [(h0, .inr (5, [.ref (R 0), .int tk, .int 0, .int 0, .int 0, .int 3, .int 20, .int 0, .int 0, .int 0, .int 0, .ref (R 11), .ref (R 12), .ref (R 13), .ref (R 14), .ref (R 15), .ref (R 16), .ref (R 17), .ref (R 18), .ref (R 19), .ref (R 20), .ref (R 21), .ref (R 22), .ref (R 23), .ref (R 24), .ref (R 25), .ref (R 26), .ref (R 27), .ref (R 28), .ref (R 29), .ref (R 30), .ref (R 31), .ref (R 32), .ref (R 33), .ref (R 34), .ref (R 35), .ref (R 36), .ref (R 37), .ref (R 38), .ref (R 39), .ref (R 40), .ref (R 41), .int 0]))] sz) [(h0, .inr (5, [.ref (R 0), .int tk, .int 0, .int 0, .int 0, .int 3, .int 20, .int 0, .int 0, .int 0, .int 0, .ref (R 11), .ref (R 12), .ref (R 13), .ref (R 14), .ref (R 15), .ref (R 16), .ref (R 17), .ref (R 18), .ref (R 19), .ref (R 20), .ref (R 21), .ref (R 22), .ref (R 23), .ref (R 24), .ref (R 25), .ref (R 26), .ref (R 27), .ref (R 28), .ref (R 29), .ref (R 30), .ref (R 31), .ref (R 32), .ref (R 33), .ref (R 34), .ref (R 35), .ref (R 36), .ref (R 37), .ref (R 38), .ref (R 39), .ref (R 40), .ref (R 41), .int 0]))]) (va_A [(h0, .inr (5, [.ref (R 0), .int tk, .int 0, .int 0, .int 0, .int 3, .int 20, .int 0, .int 0, .int 0, .int 0, .ref (R 11), .ref (R 12), .ref (R 13), .ref (R 14), .ref (R 15), .ref (R 16), .ref (R 17), .ref (R 18), .ref (R 19), .ref (R 20), .ref (R 21), .ref (R 22), .ref (R 23), .ref (R 24), .ref (R 25), .ref (R 26), .ref (R 27), .ref (R 28), .ref (R 29), .ref (R 30), .ref (R 31), .ref (R 32), .ref (R 33), .ref (R 34), .ref (R 35), .ref (R 36), .ref (R 37), .ref (R 38), .ref (R 39), .ref (R 40), .ref (R 41), .int 0]))] sz)) 0 0 (va_A [(h0, .inr (5, [.ref (R 0), .int tk, .int 0, .int 0, .int 0, .int 3, .int 20, .int 0, .int 0, .int 0, .int 0, .ref (R 11), .ref (R 12), .ref (R 13), .ref (R 14), .ref (R 15), .ref (R 16), .ref (R 17), .ref (R 18), .ref (R 19), .ref (R 20), .ref (R 21), .ref (R 22), .ref (R 23), .ref (R 24), .ref (R 25), .ref (R 26), .ref (R 27), .ref (R 28), .ref (R 29), .ref (R 30), .ref (R 31), .ref (R 32), .ref (R 33), .ref (R 34), .ref (R 35), .ref (R 36), .ref (R 37), .ref (R 38), .ref (R 39), .ref (R 40), .ref (R 41), .int 0]))] sz) := by
  refine Met.ofW (cc := cX4_line) (maxL := 3) (ret := none) (by decide) rfl ?_
  intro p e s m args below meth c s₁ B hml hv
  obtain ⟨rfl, hsz, hP, hK, hD0⟩ := hv
  have hx := B.exec
  have hb := B.bytes
  have hr := B.returns
  have hts := atoms_spec (ws := wsX4_line) B.pre
  have hown : s.vm.findClass RX4 = some m.cls := findClass_of_methodNamed B.named
  have hlocks := B.notSynchronized
  subst hsz
  have hD := hD0.self (sz := s.heap.size)
  generalize hAe : va_A [(h0, .inr (5, [.ref (R 0), .int tk, .int 0, .int 0, .int 0, .int 3, .int 20, .int 0, .int 0, .int 0, .int 0, .ref (R 11), .ref (R 12), .ref (R 13), .ref (R 14), .ref (R 15), .ref (R 16), .ref (R 17), .ref (R 18), .ref (R 19), .ref (R 20), .ref (R 21), .ref (R 22), .ref (R 23), .ref (R 24), .ref (R 25), .ref (R 26), .ref (R 27), .ref (R 28), .ref (R 29), .ref (R 30), .ref (R 31), .ref (R 32), .ref (R 33), .ref (R 34), .ref (R 35), .ref (R 36), .ref (R 37), .ref (R 38), .ref (R 39), .ref (R 40), .ref (R 41), .int 0]))] s.heap.size = A at hD ⊢
  have hA : ∀ q : Nat, s.heap.size ≤ q → A q := fun q h => by rw [← hAe]; exact Or.inr h
  have hS : va_S A s.heap s.heap [] := va_S.rf
  have hP : va_P (dC, dI) vwCl [(h0, .inr (5, [.ref (R 0), .int tk, .int 0, .int 0, .int 0, .int 3, .int 20, .int 0, .int 0, .int 0, .int 0, .ref (R 11), .ref (R 12), .ref (R 13), .ref (R 14), .ref (R 15), .ref (R 16), .ref (R 17), .ref (R 18), .ref (R 19), .ref (R 20), .ref (R 21), .ref (R 22), .ref (R 23), .ref (R 24), .ref (R 25), .ref (R 26), .ref (R 27), .ref (R 28), .ref (R 29), .ref (R 30), .ref (R 31), .ref (R 32), .ref (R 33), .ref (R 34), .ref (R 35), .ref (R 36), .ref (R 37), .ref (R 38), .ref (R 39), .ref (R 40), .ref (R 41), .int 0]))] s.heap := hP
  have hl := lv_entry ([.ref h0]) (n := 3) (Nat.le_of_ble_eq_true rfl)
  rw [lg_entry_eq]
  generalize (lg_sl ([.ref h0]) ++ List.replicate (3 - (lg_sl ([.ref h0])).length) Slot.unset).toArray = ls at hl ⊢
  have hl : lv_has ls 3 [(0, .ref h0)] := hl
  refine lv_aload_n hx hb dX4_line_0 rfl (lv_at hl 0 rfl) ?_
  refine lv_iconst (v := 0) hx hb dX4_line_1 (by decide) ?_
  refine va_put (D := (dC, dI)) (ci := 5) (v := .int 0) (ty := .int) (C := RX4) (T := TX4) (N := 43) hx hb hts (fun _ h => List.mem_cons_of_mem _ (List.mem_append_right _ h)) tyX4 tyX4_ok nmX4 hown hK hP hD hS 0 rfl rfl 42 (by decide) (hts (.fieldLink RX4 212 "FrontDoorModel" "queued" "I") (by decide +kernel)) (fun _ h9 => h9) rfl (by decide +kernel) rfl rfl (Nat.le_of_ble_eq_true rfl) dX4_line_2 (fun H locs hP hD hS => ?_)
  have hP : va_P (dC, dI) vwCl [(h0, .inr (5, [.ref (R 0), .int tk, .int 0, .int 0, .int 0, .int 3, .int 20, .int 0, .int 0, .int 0, .int 0, .ref (R 11), .ref (R 12), .ref (R 13), .ref (R 14), .ref (R 15), .ref (R 16), .ref (R 17), .ref (R 18), .ref (R 19), .ref (R 20), .ref (R 21), .ref (R 22), .ref (R 23), .ref (R 24), .ref (R 25), .ref (R 26), .ref (R 27), .ref (R 28), .ref (R 29), .ref (R 30), .ref (R 31), .ref (R 32), .ref (R 33), .ref (R 34), .ref (R 35), .ref (R 36), .ref (R 37), .ref (R 38), .ref (R 39), .ref (R 40), .ref (R 41), .int 0]))] H := hP
  have hD : va_D A [(h0, .inr (5, [.ref (R 0), .int tk, .int 0, .int 0, .int 0, .int 3, .int 20, .int 0, .int 0, .int 0, .int 0, .ref (R 11), .ref (R 12), .ref (R 13), .ref (R 14), .ref (R 15), .ref (R 16), .ref (R 17), .ref (R 18), .ref (R 19), .ref (R 20), .ref (R 21), .ref (R 22), .ref (R 23), .ref (R 24), .ref (R 25), .ref (R 26), .ref (R 27), .ref (R 28), .ref (R 29), .ref (R 30), .ref (R 31), .ref (R 32), .ref (R 33), .ref (R 34), .ref (R 35), .ref (R 36), .ref (R 37), .ref (R 38), .ref (R 39), .ref (R 40), .ref (R 41), .int 0]))] := hD
  refine lv_iconst (v := 0) hx hb dX4_line_5 (by decide) ?_
  refine lv_istore_n (lv' := [(1, .int 0), (0, .ref h0)]) hx hb dX4_line_6 rfl hl (by decide) rfl (fun ls hl => ?_)
  refine lv_iload_n hx hb dX4_line_7 rfl (lv_at hl 0 rfl) ?_
  refine lv_aload_n hx hb dX4_line_8 rfl (lv_at hl 1 rfl) ?_
  refine va_get (D := (dC, dI)) (ci := 5) (v := .int 0) (C := RX4) (T := TX4) (N := 43) hx hb hts (fun _ h => List.mem_cons_of_mem _ (List.mem_append_right _ h)) hown hK hP 0 rfl rfl 3 (by decide) (hts (.fieldLink RX4 121 "FrontDoorModel" "calls" "I") (by decide +kernel)) (fun _ h9 => h9) rfl dX4_line_9 ?_
  refine lv_icmp_ge (tgt := 95) hx hb dX4_line_12 (by decide) (fun c_1 => ?_) (fun c_1 => absurd (by decide) c_1)
  have hP9 := hP.sub (ws' := [(h0, .inr (5, [.ref (R 0), .int tk, .int 0, .int 0, .int 0, .int 3, .int 20, .int 0, .int 0, .int 0, .int 0, .ref (R 11), .ref (R 12), .ref (R 13), .ref (R 14), .ref (R 15), .ref (R 16), .ref (R 17), .ref (R 18), .ref (R 19), .ref (R 20), .ref (R 21), .ref (R 22), .ref (R 23), .ref (R 24), .ref (R 25), .ref (R 26), .ref (R 27), .ref (R 28), .ref (R 29), .ref (R 30), .ref (R 31), .ref (R 32), .ref (R 33), .ref (R 34), .ref (R 35), .ref (R 36), .ref (R 37), .ref (R 38), .ref (R 39), .ref (R 40), .ref (R 41), .int 0]))]) [0] rfl
  have hD9 := hD.sub (ws' := [(h0, .inr (5, [.ref (R 0), .int tk, .int 0, .int 0, .int 0, .int 3, .int 20, .int 0, .int 0, .int 0, .int 0, .ref (R 11), .ref (R 12), .ref (R 13), .ref (R 14), .ref (R 15), .ref (R 16), .ref (R 17), .ref (R 18), .ref (R 19), .ref (R 20), .ref (R 21), .ref (R 22), .ref (R 23), .ref (R 24), .ref (R 25), .ref (R 26), .ref (R 27), .ref (R 28), .ref (R 29), .ref (R 30), .ref (R 31), .ref (R 32), .ref (R 33), .ref (R 34), .ref (R 35), .ref (R 36), .ref (R 37), .ref (R 38), .ref (R 39), .ref (R 40), .ref (R 41), .int 0]))]) [0] (by decide) rfl
  have hK9 := hK.sub (tys' := []) [] rfl
  exact W.vret hx hb hr (fun t ht hW => ⟨⟨(), rfl, trivial, ⟨by rw [ht]; exact hP9, va_K.moved hW.alike hK9, hD9⟩⟩, hS.F ht⟩) hS.2.2 dX4_line_95

set_option maxHeartbeats 40000000 in
set_option maxRecDepth 100000 in
theorem k_X4_queue (l : Launch) (dC : Nat → ClassId) (dI : Nat → Nat → Nat) (h0 : Nat) (R : Nat → Nat) (a1 : Int32) (sz : Nat) : Met l yX4_queue wsX4_queue ({ frames := 1, cells := 0, slots := 0, locals := 22 }) (va_Pc [.ref h0, .int a1] (pzPre (dC, dI) vwCl [(h0, .inr (5, [.ref (R 0), .int 0, .int 0, .int 0, .int 0, .int 3, .int 20, .int 0, .int 0, .int 0, .int 0, .ref (R 11), .ref (R 12), .ref (R 13), .ref (R 14), .ref (R 15), .ref (R 16), .ref (R 17), .ref (R 18), .ref (R 19), .ref (R 20), .ref (R 21), .ref (R 22), .ref (R 23), .ref (R 24), .ref (R 25), .ref (R 26), .ref (R 27), .ref (R 28), .ref (R 29), .ref (R 30), .ref (R 31), .ref (R 32), .ref (R 33), .ref (R 34), .ref (R 35), .ref (R 36), .ref (R 37), .ref (R 38), .ref (R 39), .ref (R 40), .ref (R 41), .int 0]))] [] sz)) (va_Qi (fun (r : Int32) (_ : Unit) => r = (-9)) (fun _ _ => True) (va_A [(h0, .inr (5, [.ref (R 0), .int 0, .int 0, .int 0, .int 0, .int 3, .int 20, .int 0, .int 0, .int 0, .int 0, .ref (R 11), .ref (R 12), .ref (R 13), .ref (R 14), .ref (R 15), .ref (R 16), .ref (R 17), .ref (R 18), .ref (R 19), .ref (R 20), .ref (R 21), .ref (R 22), .ref (R 23), .ref (R 24), .ref (R 25), .ref (R 26), .ref (R 27), .ref (R 28), .ref (R 29), .ref (R 30), .ref (R 31), .ref (R 32), .ref (R 33), .ref (R 34), .ref (R 35), .ref (R 36), .ref (R 37), .ref (R 38), .ref (R 39), .ref (R 40), .ref (R 41), .int 0]))] sz)) 0 0 (va_A [(h0, .inr (5, [.ref (R 0), .int 0, .int 0, .int 0, .int 0, .int 3, .int 20, .int 0, .int 0, .int 0, .int 0, .ref (R 11), .ref (R 12), .ref (R 13), .ref (R 14), .ref (R 15), .ref (R 16), .ref (R 17), .ref (R 18), .ref (R 19), .ref (R 20), .ref (R 21), .ref (R 22), .ref (R 23), .ref (R 24), .ref (R 25), .ref (R 26), .ref (R 27), .ref (R 28), .ref (R 29), .ref (R 30), .ref (R 31), .ref (R 32), .ref (R 33), .ref (R 34), .ref (R 35), .ref (R 36), .ref (R 37), .ref (R 38), .ref (R 39), .ref (R 40), .ref (R 41), .int 0]))] sz) := by
  refine Met.ofW (cc := cX4_queue) (maxL := 2) (ret := (some .int)) (by decide) rfl ?_
  intro p e s m args below meth c s₁ B hml hv
  obtain ⟨rfl, hsz, hP, hK, hD0⟩ := hv
  have hx := B.exec
  have hb := B.bytes
  have hr := B.returns
  have hts := atoms_spec (ws := wsX4_queue) B.pre
  have hown : s.vm.findClass RX4 = some m.cls := findClass_of_methodNamed B.named
  have hlocks := B.notSynchronized
  subst hsz
  have hD := hD0.self (sz := s.heap.size)
  generalize hAe : va_A [(h0, .inr (5, [.ref (R 0), .int 0, .int 0, .int 0, .int 0, .int 3, .int 20, .int 0, .int 0, .int 0, .int 0, .ref (R 11), .ref (R 12), .ref (R 13), .ref (R 14), .ref (R 15), .ref (R 16), .ref (R 17), .ref (R 18), .ref (R 19), .ref (R 20), .ref (R 21), .ref (R 22), .ref (R 23), .ref (R 24), .ref (R 25), .ref (R 26), .ref (R 27), .ref (R 28), .ref (R 29), .ref (R 30), .ref (R 31), .ref (R 32), .ref (R 33), .ref (R 34), .ref (R 35), .ref (R 36), .ref (R 37), .ref (R 38), .ref (R 39), .ref (R 40), .ref (R 41), .int 0]))] s.heap.size = A at hD ⊢
  have hA : ∀ q : Nat, s.heap.size ≤ q → A q := fun q h => by rw [← hAe]; exact Or.inr h
  have hS : va_S A s.heap s.heap [] := va_S.rf
  have hP : va_P (dC, dI) vwCl [(h0, .inr (5, [.ref (R 0), .int 0, .int 0, .int 0, .int 0, .int 3, .int 20, .int 0, .int 0, .int 0, .int 0, .ref (R 11), .ref (R 12), .ref (R 13), .ref (R 14), .ref (R 15), .ref (R 16), .ref (R 17), .ref (R 18), .ref (R 19), .ref (R 20), .ref (R 21), .ref (R 22), .ref (R 23), .ref (R 24), .ref (R 25), .ref (R 26), .ref (R 27), .ref (R 28), .ref (R 29), .ref (R 30), .ref (R 31), .ref (R 32), .ref (R 33), .ref (R 34), .ref (R 35), .ref (R 36), .ref (R 37), .ref (R 38), .ref (R 39), .ref (R 40), .ref (R 41), .int 0]))] s.heap := hP
  have hl := lv_entry ([.ref h0, .int a1]) (n := 2) (Nat.le_of_ble_eq_true rfl)
  rw [lg_entry_eq]
  generalize (lg_sl ([.ref h0, .int a1]) ++ List.replicate (2 - (lg_sl ([.ref h0, .int a1])).length) Slot.unset).toArray = ls at hl ⊢
  have hl : lv_has ls 2 [(0, .ref h0), (1, .int a1)] := hl
  refine lv_aload_n hx hb dX4_queue_0 rfl (lv_at hl 0 rfl) ?_
  have hPc := hP.sub (ws' := [(h0, .inr (5, [.ref (R 0), .int 0, .int 0, .int 0, .int 0, .int 3, .int 20, .int 0, .int 0, .int 0, .int 0, .ref (R 11), .ref (R 12), .ref (R 13), .ref (R 14), .ref (R 15), .ref (R 16), .ref (R 17), .ref (R 18), .ref (R 19), .ref (R 20), .ref (R 21), .ref (R 22), .ref (R 23), .ref (R 24), .ref (R 25), .ref (R 26), .ref (R 27), .ref (R 28), .ref (R 29), .ref (R 30), .ref (R 31), .ref (R 32), .ref (R 33), .ref (R 34), .ref (R 35), .ref (R 36), .ref (R 37), .ref (R 38), .ref (R 39), .ref (R 40), .ref (R 41), .int 0]))]) [0] rfl
  have hDc := hD.sub (ws' := [(h0, .inr (5, [.ref (R 0), .int 0, .int 0, .int 0, .int 0, .int 3, .int 20, .int 0, .int 0, .int 0, .int 0, .ref (R 11), .ref (R 12), .ref (R 13), .ref (R 14), .ref (R 15), .ref (R 16), .ref (R 17), .ref (R 18), .ref (R 19), .ref (R 20), .ref (R 21), .ref (R 22), .ref (R 23), .ref (R 24), .ref (R 25), .ref (R 26), .ref (R 27), .ref (R 28), .ref (R 29), .ref (R 30), .ref (R 31), .ref (R 32), .ref (R 33), .ref (R 34), .ref (R 35), .ref (R 36), .ref (R 37), .ref (R 38), .ref (R 39), .ref (R 40), .ref (R 41), .int 0]))]) [0] (by decide) rfl
  have hKc := hK.sub (tys' := []) [] rfl
  have hFc := va_free (wc := [(h0, .inr (5, [.ref (R 0), .int 0, .int 0, .int 0, .int 0, .int 3, .int 20, .int 0, .int 0, .int 0, .int 0, .ref (R 11), .ref (R 12), .ref (R 13), .ref (R 14), .ref (R 15), .ref (R 16), .ref (R 17), .ref (R 18), .ref (R 19), .ref (R 20), .ref (R 21), .ref (R 22), .ref (R 23), .ref (R 24), .ref (R 25), .ref (R 26), .ref (R 27), .ref (R 28), .ref (R 29), .ref (R 30), .ref (R 31), .ref (R 32), .ref (R 33), .ref (R 34), .ref (R 35), .ref (R 36), .ref (R 37), .ref (R 38), .ref (R 39), .ref (R 40), .ref (R 41), .int 0]))]) hD hS hA [0] rfl
  refine va_callv (va_runV (As := []) (rest := []) ⟨hx, hb, hml, hown, hts⟩ (k_X4_line l dC dI h0 R 0 s.heap.size) (cwV 0 hts gX4_queue_X4_line rfl rfl rfl (by decide +kernel) ⟨Nat.le_of_ble_eq_true rfl, Nat.le_of_ble_eq_true rfl⟩) ⟨pz_blind, va_recv hKc hPc (ci := 5) (q0 := 0) rfl rfl, fun U hU hW => ⟨rfl, pz_at hPc hKc hDc hU hW⟩⟩ rfl rfl hl.1 rfl (lv_room (Nat.le_of_ble_eq_true rfl)) dX4_queue_1 ⟨Nat.le_of_ble_eq_true rfl, Nat.le_of_ble_eq_true rfl⟩) hS (fun q _ h => hFc q h) hFc (fun u t H locs ht hvm hw hB hz1 hk1 hS => ?_)
  obtain ⟨hP1, hK1, hD1⟩ := hB
  rw [ht] at hP1
  have hK1 := va_K.moved hvm.symm hK1
  obtain ⟨hP, hD⟩ := va_join (wr := []) (w1 := [(h0, .inr (5, [.ref (R 0), .int 0, .int 0, .int 0, .int 0, .int 3, .int 20, .int 0, .int 0, .int 0, .int 0, .ref (R 11), .ref (R 12), .ref (R 13), .ref (R 14), .ref (R 15), .ref (R 16), .ref (R 17), .ref (R 18), .ref (R 19), .ref (R 20), .ref (R 21), .ref (R 22), .ref (R 23), .ref (R 24), .ref (R 25), .ref (R 26), .ref (R 27), .ref (R 28), .ref (R 29), .ref (R 30), .ref (R 31), .ref (R 32), .ref (R 33), .ref (R 34), .ref (R 35), .ref (R 36), .ref (R 37), .ref (R 38), .ref (R 39), .ref (R 40), .ref (R 41), .int 0]))]) hP hD [0] [] rfl rfl (by decide) (by decide) hk1 hFc hP1 hD1
  have hK := hK.app hK1
  have hK : va_K (dC, dI) vwCl [] s := hK
  have hP : va_P (dC, dI) vwCl [(h0, .inr (5, [.ref (R 0), .int 0, .int 0, .int 0, .int 0, .int 3, .int 20, .int 0, .int 0, .int 0, .int 0, .ref (R 11), .ref (R 12), .ref (R 13), .ref (R 14), .ref (R 15), .ref (R 16), .ref (R 17), .ref (R 18), .ref (R 19), .ref (R 20), .ref (R 21), .ref (R 22), .ref (R 23), .ref (R 24), .ref (R 25), .ref (R 26), .ref (R 27), .ref (R 28), .ref (R 29), .ref (R 30), .ref (R 31), .ref (R 32), .ref (R 33), .ref (R 34), .ref (R 35), .ref (R 36), .ref (R 37), .ref (R 38), .ref (R 39), .ref (R 40), .ref (R 41), .int 0]))] H := hP
  have hD : va_D A [(h0, .inr (5, [.ref (R 0), .int 0, .int 0, .int 0, .int 0, .int 3, .int 20, .int 0, .int 0, .int 0, .int 0, .ref (R 11), .ref (R 12), .ref (R 13), .ref (R 14), .ref (R 15), .ref (R 16), .ref (R 17), .ref (R 18), .ref (R 19), .ref (R 20), .ref (R 21), .ref (R 22), .ref (R 23), .ref (R 24), .ref (R 25), .ref (R 26), .ref (R 27), .ref (R 28), .ref (R 29), .ref (R 30), .ref (R 31), .ref (R 32), .ref (R 33), .ref (R 34), .ref (R 35), .ref (R 36), .ref (R 37), .ref (R 38), .ref (R 39), .ref (R 40), .ref (R 41), .int 0]))] := hD
  refine W.eq (g2 := F0 m 4 ls []) rfl ?_
  refine lv_iload_n hx hb dX4_queue_4 rfl (lv_at hl 1 rfl) ?_
  refine lv_aload_n hx hb dX4_queue_5 rfl (lv_at hl 0 rfl) ?_
  refine va_get (D := (dC, dI)) (ci := 5) (v := .int 0) (C := RX4) (T := TX4) (N := 43) hx hb hts (fun _ h => List.mem_cons_of_mem _ (List.mem_append_right _ h)) hown hK hP 0 rfl rfl 42 (by decide) (hts (.fieldLink RX4 212 "FrontDoorModel" "queued" "I") (by decide +kernel)) (fun _ h9 => h9) rfl dX4_queue_6 ?_
  have hPc := hP.sub (ws' := []) [] rfl
  have hDc := hD.sub (ws' := []) [] (by decide) rfl
  have hKc := hK.sub (tys' := []) [] rfl
  have hFc := pz_f hA hS
  refine va_calli (va_runS (As := [.int a1, .int 0]) (rest := []) ⟨hx, hb, hml, hown, hts⟩ (k_X4_isIn l dC dI a1 0 H.size) (va_cwS 2 hts gX4_queue_X4_isIn rfl rfl rfl (by decide +kernel) ⟨Nat.le_of_ble_eq_true rfl, Nat.le_of_ble_eq_true rfl⟩) ⟨pz_blind, fun U hU hW => ⟨rfl, pz_at hPc hKc hDc hU hW⟩⟩ rfl rfl hl.1 rfl (lv_room (Nat.le_of_ble_eq_true rfl)) dX4_queue_9 ⟨Nat.le_of_ble_eq_true rfl, Nat.le_of_ble_eq_true rfl⟩) hS (fun q _ h => hFc q h) hFc (fun r_2 u t H locs ht hvm hw hB hz1 hk1 hS => ?_)
  have hP := pz_keep hP hk1
  rcases hw with ⟨f_2_0, f_2_1, hr9⟩ | ⟨f_2_0, hr9⟩
  · skip
    have hr9 : r_2 = 1 := hr9
    subst hr9
    have f_2_0 : 0 ≤ a1.toInt := pz_id f_2_0
    have f_2_1 : a1.toInt < 0 := f_2_1
    exfalso
    omega
  · skip
    have hr9 : r_2 = 0 := hr9
    subst hr9
    have f_2_0 : (a1.toInt < 0 ∨ 0 ≤ a1.toInt) := f_2_0
    refine lv_if_eq (tgt := 24) hx hb dX4_queue_12 (by decide) (fun c_3 => ?_) (fun c_3 => absurd (by decide) c_3)
    refine lv_bipush (v := (-9)) hx hb dX4_queue_24 (by decide) ?_
    exact W.iret (v := (-9)) hx hb hr (fun t ht hW => ⟨⟨(-9), (), rfl, rfl, trivial⟩, hS.F ht⟩) hS.2.2 dX4_queue_26

set_option maxHeartbeats 40000000 in
set_option maxRecDepth 100000 in
theorem k_X4_inState (l : Launch) (dC : Nat → ClassId) (dI : Nat → Nat → Nat) (h0 : Nat) (R : Nat → Nat) (a1 : Int32) (sz : Nat) : Met l yX4_inState wsX4_inState ({ frames := 0, cells := 0, slots := 0, locals := 0 }) (va_Pc [.ref h0, .int a1] (pzPre (dC, dI) vwCl [(h0, .inr (5, [.ref (R 0), .int 0, .int 0, .int 0, .int 0, .int 3, .int 20, .int 0, .int 0, .int 0, .int 0, .ref (R 11), .ref (R 12), .ref (R 13), .ref (R 14), .ref (R 15), .ref (R 16), .ref (R 17), .ref (R 18), .ref (R 19), .ref (R 20), .ref (R 21), .ref (R 22), .ref (R 23), .ref (R 24), .ref (R 25), .ref (R 26), .ref (R 27), .ref (R 28), .ref (R 29), .ref (R 30), .ref (R 31), .ref (R 32), .ref (R 33), .ref (R 34), .ref (R 35), .ref (R 36), .ref (R 37), .ref (R 38), .ref (R 39), .ref (R 40), .ref (R 41), .int 0]))] [] sz)) (va_Qi (fun (r : Int32) (_ : Unit) => r = 0) (fun _ _ => True) (va_A [] sz)) 0 0 (va_A [] sz) := by
  refine Met.ofW (cc := cX4_inState) (maxL := 4) (ret := (some .int)) (by decide) rfl ?_
  intro p e s m args below meth c s₁ B hml hv
  obtain ⟨rfl, hsz, hP, hK, hD0⟩ := hv
  have hx := B.exec
  have hb := B.bytes
  have hr := B.returns
  have hts := atoms_spec (ws := wsX4_inState) B.pre
  have hown : s.vm.findClass RX4 = some m.cls := findClass_of_methodNamed B.named
  have hlocks := B.notSynchronized
  subst hsz
  have hA : ∀ q : Nat, s.heap.size ≤ q → va_A [] s.heap.size q := fun q h => Or.inr h
  have hD := hD0
  generalize va_A [] s.heap.size = A at hA ⊢
  have hS : va_S A s.heap s.heap [] := va_S.rf
  have hP : va_P (dC, dI) vwCl [(h0, .inr (5, [.ref (R 0), .int 0, .int 0, .int 0, .int 0, .int 3, .int 20, .int 0, .int 0, .int 0, .int 0, .ref (R 11), .ref (R 12), .ref (R 13), .ref (R 14), .ref (R 15), .ref (R 16), .ref (R 17), .ref (R 18), .ref (R 19), .ref (R 20), .ref (R 21), .ref (R 22), .ref (R 23), .ref (R 24), .ref (R 25), .ref (R 26), .ref (R 27), .ref (R 28), .ref (R 29), .ref (R 30), .ref (R 31), .ref (R 32), .ref (R 33), .ref (R 34), .ref (R 35), .ref (R 36), .ref (R 37), .ref (R 38), .ref (R 39), .ref (R 40), .ref (R 41), .int 0]))] s.heap := hP
  have hl := lv_entry ([.ref h0, .int a1]) (n := 4) (Nat.le_of_ble_eq_true rfl)
  rw [lg_entry_eq]
  generalize (lg_sl ([.ref h0, .int a1]) ++ List.replicate (4 - (lg_sl ([.ref h0, .int a1])).length) Slot.unset).toArray = ls at hl ⊢
  have hl : lv_has ls 4 [(0, .ref h0), (1, .int a1)] := hl
  refine lv_iconst (v := 0) hx hb dX4_inState_0 (by decide) ?_
  refine lv_istore_n (lv' := [(2, .int 0), (0, .ref h0), (1, .int a1)]) hx hb dX4_inState_1 rfl hl (by decide) rfl (fun ls hl => ?_)
  refine lv_iconst (v := 0) hx hb dX4_inState_2 (by decide) ?_
  refine lv_istore_n (lv' := [(3, .int 0), (2, .int 0), (0, .ref h0), (1, .int a1)]) hx hb dX4_inState_3 rfl hl (by decide) rfl (fun ls hl => ?_)
  refine lv_iload_n hx hb dX4_inState_4 rfl (lv_at hl 0 rfl) ?_
  refine lv_aload_n hx hb dX4_inState_5 rfl (lv_at hl 2 rfl) ?_
  refine va_get (D := (dC, dI)) (ci := 5) (v := .int 0) (C := RX4) (T := TX4) (N := 43) hx hb hts (fun _ h => List.mem_cons_of_mem _ (List.mem_append_right _ h)) hown hK hP 0 rfl rfl 3 (by decide) (hts (.fieldLink RX4 121 "FrontDoorModel" "calls" "I") (by decide +kernel)) (fun _ h9 => h9) rfl dX4_inState_6 ?_
  refine lv_icmp_ge (tgt := 36) hx hb dX4_inState_9 (by decide) (fun c_1 => ?_) (fun c_1 => absurd (by decide) c_1)
  refine lv_iload_n hx hb dX4_inState_36 rfl (lv_at hl 1 rfl) ?_
  exact W.iret (v := 0) hx hb hr (fun t ht hW => ⟨⟨0, (), rfl, rfl, trivial⟩, hS.F ht⟩) hS.2.2 dX4_inState_37

set_option maxHeartbeats 40000000 in
set_option maxRecDepth 100000 in
theorem k_X4_goesOn (l : Launch) (dC : Nat → ClassId) (dI : Nat → Nat → Nat) (h0 : Nat) (R : Nat → Nat) (tk : Int32) (sz : Nat) : Met l yX4_goesOn wsX4_goesOn ({ frames := 1, cells := 0, slots := 0, locals := 22 }) (va_Pc [.ref h0] (pzPre (dC, dI) vwCl [(h0, .inr (5, [.ref (R 0), .int tk, .int 0, .int 0, .int 0, .int 3, .int 20, .int 0, .int 0, .int 0, .int 0, .ref (R 11), .ref (R 12), .ref (R 13), .ref (R 14), .ref (R 15), .ref (R 16), .ref (R 17), .ref (R 18), .ref (R 19), .ref (R 20), .ref (R 21), .ref (R 22), .ref (R 23), .ref (R 24), .ref (R 25), .ref (R 26), .ref (R 27), .ref (R 28), .ref (R 29), .ref (R 30), .ref (R 31), .ref (R 32), .ref (R 33), .ref (R 34), .ref (R 35), .ref (R 36), .ref (R 37), .ref (R 38), .ref (R 39), .ref (R 40), .ref (R 41), .int 0]))] [] sz)) (va_Qi (fun (r : Int32) (_ : Unit) => r = 0) (fun (_ : Unit) (t : State) => va_P (dC, dI) vwCl [(h0, .inr (5, [.ref (R 0), .int (tk + 1), .int 0, .int 0, .int 0, .int 3, .int 20, .int 0, .int 0, .int 0, .int 0, .ref (R 11), .ref (R 12), .ref (R 13), .ref (R 14), .ref (R 15), .ref (R 16), .ref (R 17), .ref (R 18), .ref (R 19), .ref (R 20), .ref (R 21), .ref (R 22), .ref (R 23), .ref (R 24), .ref (R 25), .ref (R 26), .ref (R 27), .ref (R 28), .ref (R 29), .ref (R 30), .ref (R 31), .ref (R 32), .ref (R 33), .ref (R 34), .ref (R 35), .ref (R 36), .ref (R 37), .ref (R 38), .ref (R 39), .ref (R 40), .ref (R 41), .int 0]))] t.heap ∧ va_K (dC, dI) vwCl [] t ∧ va_D (va_A [(h0, .inr (5, [.ref (R 0), .int tk, .int 0, .int 0, .int 0, .int 3, .int 20, .int 0, .int 0, .int 0, .int 0, .ref (R 11), .ref (R 12), .ref (R 13), .ref (R 14), .ref (R 15), .ref (R 16), .ref (R 17), .ref (R 18), .ref (R 19), .ref (R 20), .ref (R 21), .ref (R 22), .ref (R 23), .ref (R 24), .ref (R 25), .ref (R 26), .ref (R 27), .ref (R 28), .ref (R 29), .ref (R 30), .ref (R 31), .ref (R 32), .ref (R 33), .ref (R 34), .ref (R 35), .ref (R 36), .ref (R 37), .ref (R 38), .ref (R 39), .ref (R 40), .ref (R 41), .int 0]))] sz) [(h0, .inr (5, [.ref (R 0), .int (tk + 1), .int 0, .int 0, .int 0, .int 3, .int 20, .int 0, .int 0, .int 0, .int 0, .ref (R 11), .ref (R 12), .ref (R 13), .ref (R 14), .ref (R 15), .ref (R 16), .ref (R 17), .ref (R 18), .ref (R 19), .ref (R 20), .ref (R 21), .ref (R 22), .ref (R 23), .ref (R 24), .ref (R 25), .ref (R 26), .ref (R 27), .ref (R 28), .ref (R 29), .ref (R 30), .ref (R 31), .ref (R 32), .ref (R 33), .ref (R 34), .ref (R 35), .ref (R 36), .ref (R 37), .ref (R 38), .ref (R 39), .ref (R 40), .ref (R 41), .int 0]))]) (va_A [(h0, .inr (5, [.ref (R 0), .int tk, .int 0, .int 0, .int 0, .int 3, .int 20, .int 0, .int 0, .int 0, .int 0, .ref (R 11), .ref (R 12), .ref (R 13), .ref (R 14), .ref (R 15), .ref (R 16), .ref (R 17), .ref (R 18), .ref (R 19), .ref (R 20), .ref (R 21), .ref (R 22), .ref (R 23), .ref (R 24), .ref (R 25), .ref (R 26), .ref (R 27), .ref (R 28), .ref (R 29), .ref (R 30), .ref (R 31), .ref (R 32), .ref (R 33), .ref (R 34), .ref (R 35), .ref (R 36), .ref (R 37), .ref (R 38), .ref (R 39), .ref (R 40), .ref (R 41), .int 0]))] sz)) 0 0 (va_A [(h0, .inr (5, [.ref (R 0), .int tk, .int 0, .int 0, .int 0, .int 3, .int 20, .int 0, .int 0, .int 0, .int 0, .ref (R 11), .ref (R 12), .ref (R 13), .ref (R 14), .ref (R 15), .ref (R 16), .ref (R 17), .ref (R 18), .ref (R 19), .ref (R 20), .ref (R 21), .ref (R 22), .ref (R 23), .ref (R 24), .ref (R 25), .ref (R 26), .ref (R 27), .ref (R 28), .ref (R 29), .ref (R 30), .ref (R 31), .ref (R 32), .ref (R 33), .ref (R 34), .ref (R 35), .ref (R 36), .ref (R 37), .ref (R 38), .ref (R 39), .ref (R 40), .ref (R 41), .int 0]))] sz) := by
  refine Met.ofW (cc := cX4_goesOn) (maxL := 4) (ret := (some .int)) (by decide) rfl ?_
  intro p e s m args below meth c s₁ B hml hv
  obtain ⟨rfl, hsz, hP, hK, hD0⟩ := hv
  have hx := B.exec
  have hb := B.bytes
  have hr := B.returns
  have hts := atoms_spec (ws := wsX4_goesOn) B.pre
  have hown : s.vm.findClass RX4 = some m.cls := findClass_of_methodNamed B.named
  have hlocks := B.notSynchronized
  subst hsz
  have hD := hD0.self (sz := s.heap.size)
  generalize hAe : va_A [(h0, .inr (5, [.ref (R 0), .int tk, .int 0, .int 0, .int 0, .int 3, .int 20, .int 0, .int 0, .int 0, .int 0, .ref (R 11), .ref (R 12), .ref (R 13), .ref (R 14), .ref (R 15), .ref (R 16), .ref (R 17), .ref (R 18), .ref (R 19), .ref (R 20), .ref (R 21), .ref (R 22), .ref (R 23), .ref (R 24), .ref (R 25), .ref (R 26), .ref (R 27), .ref (R 28), .ref (R 29), .ref (R 30), .ref (R 31), .ref (R 32), .ref (R 33), .ref (R 34), .ref (R 35), .ref (R 36), .ref (R 37), .ref (R 38), .ref (R 39), .ref (R 40), .ref (R 41), .int 0]))] s.heap.size = A at hD ⊢
  have hA : ∀ q : Nat, s.heap.size ≤ q → A q := fun q h => by rw [← hAe]; exact Or.inr h
  have hS : va_S A s.heap s.heap [] := va_S.rf
  have hP : va_P (dC, dI) vwCl [(h0, .inr (5, [.ref (R 0), .int tk, .int 0, .int 0, .int 0, .int 3, .int 20, .int 0, .int 0, .int 0, .int 0, .ref (R 11), .ref (R 12), .ref (R 13), .ref (R 14), .ref (R 15), .ref (R 16), .ref (R 17), .ref (R 18), .ref (R 19), .ref (R 20), .ref (R 21), .ref (R 22), .ref (R 23), .ref (R 24), .ref (R 25), .ref (R 26), .ref (R 27), .ref (R 28), .ref (R 29), .ref (R 30), .ref (R 31), .ref (R 32), .ref (R 33), .ref (R 34), .ref (R 35), .ref (R 36), .ref (R 37), .ref (R 38), .ref (R 39), .ref (R 40), .ref (R 41), .int 0]))] s.heap := hP
  have hl := lv_entry ([.ref h0]) (n := 4) (Nat.le_of_ble_eq_true rfl)
  rw [lg_entry_eq]
  generalize (lg_sl ([.ref h0]) ++ List.replicate (4 - (lg_sl ([.ref h0])).length) Slot.unset).toArray = ls at hl ⊢
  have hl : lv_has ls 4 [(0, .ref h0)] := hl
  refine lv_aload_n hx hb dX4_goesOn_0 rfl (lv_at hl 0 rfl) ?_
  refine lv_dup hx hb dX4_goesOn_1 rfl ?_
  refine va_get (D := (dC, dI)) (ci := 5) (v := .int tk) (C := RX4) (T := TX4) (N := 43) hx hb hts (fun _ h => List.mem_cons_of_mem _ (List.mem_append_right _ h)) hown hK hP 0 rfl rfl 1 (by decide) (hts (.fieldLink RX4 163 "FrontDoorModel" "tick" "I") (by decide +kernel)) (fun _ h9 => h9) rfl dX4_goesOn_2 ?_
  refine lv_iconst (v := 1) hx hb dX4_goesOn_5 (by decide) ?_
  refine lv_iadd hx hb dX4_goesOn_6 ?_
  refine lv_topi (fun x_1 ex_1 => ?_)
  subst ex_1
  refine va_put (D := (dC, dI)) (ci := 5) (v := .int (tk + 1)) (ty := .int) (C := RX4) (T := TX4) (N := 43) hx hb hts (fun _ h => List.mem_cons_of_mem _ (List.mem_append_right _ h)) tyX4 tyX4_ok nmX4 hown hK hP hD hS 0 rfl rfl 1 (by decide) (hts (.fieldLink RX4 163 "FrontDoorModel" "tick" "I") (by decide +kernel)) (fun _ h9 => h9) rfl (by decide +kernel) rfl rfl (Nat.le_of_ble_eq_true rfl) dX4_goesOn_7 (fun H locs hP hD hS => ?_)
  have hP : va_P (dC, dI) vwCl [(h0, .inr (5, [.ref (R 0), .int (tk + 1), .int 0, .int 0, .int 0, .int 3, .int 20, .int 0, .int 0, .int 0, .int 0, .ref (R 11), .ref (R 12), .ref (R 13), .ref (R 14), .ref (R 15), .ref (R 16), .ref (R 17), .ref (R 18), .ref (R 19), .ref (R 20), .ref (R 21), .ref (R 22), .ref (R 23), .ref (R 24), .ref (R 25), .ref (R 26), .ref (R 27), .ref (R 28), .ref (R 29), .ref (R 30), .ref (R 31), .ref (R 32), .ref (R 33), .ref (R 34), .ref (R 35), .ref (R 36), .ref (R 37), .ref (R 38), .ref (R 39), .ref (R 40), .ref (R 41), .int 0]))] H := hP
  have hD : va_D A [(h0, .inr (5, [.ref (R 0), .int (tk + 1), .int 0, .int 0, .int 0, .int 3, .int 20, .int 0, .int 0, .int 0, .int 0, .ref (R 11), .ref (R 12), .ref (R 13), .ref (R 14), .ref (R 15), .ref (R 16), .ref (R 17), .ref (R 18), .ref (R 19), .ref (R 20), .ref (R 21), .ref (R 22), .ref (R 23), .ref (R 24), .ref (R 25), .ref (R 26), .ref (R 27), .ref (R 28), .ref (R 29), .ref (R 30), .ref (R 31), .ref (R 32), .ref (R 33), .ref (R 34), .ref (R 35), .ref (R 36), .ref (R 37), .ref (R 38), .ref (R 39), .ref (R 40), .ref (R 41), .int 0]))] := hD
  refine lv_iconst (v := 0) hx hb dX4_goesOn_10 (by decide) ?_
  refine lv_istore_n (lv' := [(1, .int 0), (0, .ref h0)]) hx hb dX4_goesOn_11 rfl hl (by decide) rfl (fun ls hl => ?_)
  refine lv_iconst (v := 0) hx hb dX4_goesOn_12 (by decide) ?_
  refine lv_istore_n (lv' := [(2, .int 0), (1, .int 0), (0, .ref h0)]) hx hb dX4_goesOn_13 rfl hl (by decide) rfl (fun ls hl => ?_)
  refine lv_iload_n hx hb dX4_goesOn_14 rfl (lv_at hl 0 rfl) ?_
  refine lv_aload_n hx hb dX4_goesOn_15 rfl (lv_at hl 2 rfl) ?_
  refine va_get (D := (dC, dI)) (ci := 5) (v := .int 0) (C := RX4) (T := TX4) (N := 43) hx hb hts (fun _ h => List.mem_cons_of_mem _ (List.mem_append_right _ h)) hown hK hP 0 rfl rfl 3 (by decide) (hts (.fieldLink RX4 121 "FrontDoorModel" "calls" "I") (by decide +kernel)) (fun _ h9 => h9) rfl dX4_goesOn_16 ?_
  refine lv_icmp_ge (tgt := 54) hx hb dX4_goesOn_19 (by decide) (fun c_2 => ?_) (fun c_2 => absurd (by decide) c_2)
  refine lv_iconst (v := 0) hx hb dX4_goesOn_54 (by decide) ?_
  refine lv_istore_n (lv' := [(2, .int 0), (1, .int 0), (0, .ref h0)]) hx hb dX4_goesOn_55 rfl hl (by decide) rfl (fun ls hl => ?_)
  refine lv_iload_n hx hb dX4_goesOn_56 rfl (lv_at hl 0 rfl) ?_
  refine lv_aload_n hx hb dX4_goesOn_57 rfl (lv_at hl 2 rfl) ?_
  refine va_get (D := (dC, dI)) (ci := 5) (v := .int 0) (C := RX4) (T := TX4) (N := 43) hx hb hts (fun _ h => List.mem_cons_of_mem _ (List.mem_append_right _ h)) hown hK hP 0 rfl rfl 3 (by decide) (hts (.fieldLink RX4 121 "FrontDoorModel" "calls" "I") (by decide +kernel)) (fun _ h9 => h9) rfl dX4_goesOn_58 ?_
  refine lv_icmp_ge (tgt := 86) hx hb dX4_goesOn_61 (by decide) (fun c_3 => ?_) (fun c_3 => absurd (by decide) c_3)
  refine lv_iconst (v := 0) hx hb dX4_goesOn_86 (by decide) ?_
  refine lv_istore_n (lv' := [(2, .int 0), (1, .int 0), (0, .ref h0)]) hx hb dX4_goesOn_87 rfl hl (by decide) rfl (fun ls hl => ?_)
  refine lv_iload_n hx hb dX4_goesOn_88 rfl (lv_at hl 0 rfl) ?_
  refine lv_aload_n hx hb dX4_goesOn_89 rfl (lv_at hl 2 rfl) ?_
  refine va_get (D := (dC, dI)) (ci := 5) (v := .int 0) (C := RX4) (T := TX4) (N := 43) hx hb hts (fun _ h => List.mem_cons_of_mem _ (List.mem_append_right _ h)) hown hK hP 0 rfl rfl 2 (by decide) (hts (.fieldLink RX4 114 "FrontDoorModel" "servers" "I") (by decide +kernel)) (fun _ h9 => h9) rfl dX4_goesOn_90 ?_
  refine lv_icmp_ge (tgt := 132) hx hb dX4_goesOn_93 (by decide) (fun c_4 => ?_) (fun c_4 => absurd (by decide) c_4)
  refine lv_iconst (v := 0) hx hb dX4_goesOn_132 (by decide) ?_
  refine lv_istore_n (lv' := [(2, .int 0), (1, .int 0), (0, .ref h0)]) hx hb dX4_goesOn_133 rfl hl (by decide) rfl (fun ls hl => ?_)
  refine lv_iload_n hx hb dX4_goesOn_134 rfl (lv_at hl 0 rfl) ?_
  refine lv_aload_n hx hb dX4_goesOn_135 rfl (lv_at hl 2 rfl) ?_
  refine va_get (D := (dC, dI)) (ci := 5) (v := .int 0) (C := RX4) (T := TX4) (N := 43) hx hb hts (fun _ h => List.mem_cons_of_mem _ (List.mem_append_right _ h)) hown hK hP 0 rfl rfl 3 (by decide) (hts (.fieldLink RX4 121 "FrontDoorModel" "calls" "I") (by decide +kernel)) (fun _ h9 => h9) rfl dX4_goesOn_136 ?_
  refine lv_icmp_ge (tgt := 160) hx hb dX4_goesOn_139 (by decide) (fun c_5 => ?_) (fun c_5 => absurd (by decide) c_5)
  refine lv_aload_n hx hb dX4_goesOn_160 rfl (lv_at hl 2 rfl) ?_
  have hPc := hP.sub (ws' := [(h0, .inr (5, [.ref (R 0), .int (tk + 1), .int 0, .int 0, .int 0, .int 3, .int 20, .int 0, .int 0, .int 0, .int 0, .ref (R 11), .ref (R 12), .ref (R 13), .ref (R 14), .ref (R 15), .ref (R 16), .ref (R 17), .ref (R 18), .ref (R 19), .ref (R 20), .ref (R 21), .ref (R 22), .ref (R 23), .ref (R 24), .ref (R 25), .ref (R 26), .ref (R 27), .ref (R 28), .ref (R 29), .ref (R 30), .ref (R 31), .ref (R 32), .ref (R 33), .ref (R 34), .ref (R 35), .ref (R 36), .ref (R 37), .ref (R 38), .ref (R 39), .ref (R 40), .ref (R 41), .int 0]))]) [0] rfl
  have hDc := hD.sub (ws' := [(h0, .inr (5, [.ref (R 0), .int (tk + 1), .int 0, .int 0, .int 0, .int 3, .int 20, .int 0, .int 0, .int 0, .int 0, .ref (R 11), .ref (R 12), .ref (R 13), .ref (R 14), .ref (R 15), .ref (R 16), .ref (R 17), .ref (R 18), .ref (R 19), .ref (R 20), .ref (R 21), .ref (R 22), .ref (R 23), .ref (R 24), .ref (R 25), .ref (R 26), .ref (R 27), .ref (R 28), .ref (R 29), .ref (R 30), .ref (R 31), .ref (R 32), .ref (R 33), .ref (R 34), .ref (R 35), .ref (R 36), .ref (R 37), .ref (R 38), .ref (R 39), .ref (R 40), .ref (R 41), .int 0]))]) [0] (by decide) rfl
  have hKc := hK.sub (tys' := []) [] rfl
  have hFc := va_free (wc := [(h0, .inr (5, [.ref (R 0), .int (tk + 1), .int 0, .int 0, .int 0, .int 3, .int 20, .int 0, .int 0, .int 0, .int 0, .ref (R 11), .ref (R 12), .ref (R 13), .ref (R 14), .ref (R 15), .ref (R 16), .ref (R 17), .ref (R 18), .ref (R 19), .ref (R 20), .ref (R 21), .ref (R 22), .ref (R 23), .ref (R 24), .ref (R 25), .ref (R 26), .ref (R 27), .ref (R 28), .ref (R 29), .ref (R 30), .ref (R 31), .ref (R 32), .ref (R 33), .ref (R 34), .ref (R 35), .ref (R 36), .ref (R 37), .ref (R 38), .ref (R 39), .ref (R 40), .ref (R 41), .int 0]))]) hD hS hA [0] rfl
  refine va_callv (va_runV (As := []) (rest := []) ⟨hx, hb, hml, hown, hts⟩ (k_X4_line l dC dI h0 R (tk + 1) H.size) (cwV 0 hts gX4_goesOn_X4_line rfl rfl rfl (by decide +kernel) ⟨Nat.le_of_ble_eq_true rfl, Nat.le_of_ble_eq_true rfl⟩) ⟨pz_blind, va_recv hKc hPc (ci := 5) (q0 := 0) rfl rfl, fun U hU hW => ⟨rfl, pz_at hPc hKc hDc hU hW⟩⟩ rfl rfl hl.1 rfl (lv_room (Nat.le_of_ble_eq_true rfl)) dX4_goesOn_161 ⟨Nat.le_of_ble_eq_true rfl, Nat.le_of_ble_eq_true rfl⟩) hS (fun q _ h => hFc q h) hFc (fun u t H locs ht hvm hw hB hz1 hk1 hS => ?_)
  obtain ⟨hP1, hK1, hD1⟩ := hB
  rw [ht] at hP1
  have hK1 := va_K.moved hvm.symm hK1
  obtain ⟨hP, hD⟩ := va_join (wr := []) (w1 := [(h0, .inr (5, [.ref (R 0), .int (tk + 1), .int 0, .int 0, .int 0, .int 3, .int 20, .int 0, .int 0, .int 0, .int 0, .ref (R 11), .ref (R 12), .ref (R 13), .ref (R 14), .ref (R 15), .ref (R 16), .ref (R 17), .ref (R 18), .ref (R 19), .ref (R 20), .ref (R 21), .ref (R 22), .ref (R 23), .ref (R 24), .ref (R 25), .ref (R 26), .ref (R 27), .ref (R 28), .ref (R 29), .ref (R 30), .ref (R 31), .ref (R 32), .ref (R 33), .ref (R 34), .ref (R 35), .ref (R 36), .ref (R 37), .ref (R 38), .ref (R 39), .ref (R 40), .ref (R 41), .int 0]))]) hP hD [0] [] rfl rfl (by decide) (by decide) hk1 hFc hP1 hD1
  have hK := hK.app hK1
  have hK : va_K (dC, dI) vwCl [] s := hK
  have hP : va_P (dC, dI) vwCl [(h0, .inr (5, [.ref (R 0), .int (tk + 1), .int 0, .int 0, .int 0, .int 3, .int 20, .int 0, .int 0, .int 0, .int 0, .ref (R 11), .ref (R 12), .ref (R 13), .ref (R 14), .ref (R 15), .ref (R 16), .ref (R 17), .ref (R 18), .ref (R 19), .ref (R 20), .ref (R 21), .ref (R 22), .ref (R 23), .ref (R 24), .ref (R 25), .ref (R 26), .ref (R 27), .ref (R 28), .ref (R 29), .ref (R 30), .ref (R 31), .ref (R 32), .ref (R 33), .ref (R 34), .ref (R 35), .ref (R 36), .ref (R 37), .ref (R 38), .ref (R 39), .ref (R 40), .ref (R 41), .int 0]))] H := hP
  have hD : va_D A [(h0, .inr (5, [.ref (R 0), .int (tk + 1), .int 0, .int 0, .int 0, .int 3, .int 20, .int 0, .int 0, .int 0, .int 0, .ref (R 11), .ref (R 12), .ref (R 13), .ref (R 14), .ref (R 15), .ref (R 16), .ref (R 17), .ref (R 18), .ref (R 19), .ref (R 20), .ref (R 21), .ref (R 22), .ref (R 23), .ref (R 24), .ref (R 25), .ref (R 26), .ref (R 27), .ref (R 28), .ref (R 29), .ref (R 30), .ref (R 31), .ref (R 32), .ref (R 33), .ref (R 34), .ref (R 35), .ref (R 36), .ref (R 37), .ref (R 38), .ref (R 39), .ref (R 40), .ref (R 41), .int 0]))] := hD
  refine W.eq (g2 := F0 m 164 ls []) rfl ?_
  refine lv_iconst (v := 0) hx hb dX4_goesOn_164 (by decide) ?_
  refine lv_istore_n (lv' := [(2, .int 0), (1, .int 0), (0, .ref h0)]) hx hb dX4_goesOn_165 rfl hl (by decide) rfl (fun ls hl => ?_)
  refine lv_iload_n hx hb dX4_goesOn_166 rfl (lv_at hl 0 rfl) ?_
  refine lv_aload_n hx hb dX4_goesOn_167 rfl (lv_at hl 2 rfl) ?_
  refine va_get (D := (dC, dI)) (ci := 5) (v := .int 0) (C := RX4) (T := TX4) (N := 43) hx hb hts (fun _ h => List.mem_cons_of_mem _ (List.mem_append_right _ h)) hown hK hP 0 rfl rfl 42 (by decide) (hts (.fieldLink RX4 212 "FrontDoorModel" "queued" "I") (by decide +kernel)) (fun _ h9 => h9) rfl dX4_goesOn_168 ?_
  refine lv_icmp_ge (tgt := 191) hx hb dX4_goesOn_171 (by decide) (fun c_7 => ?_) (fun c_7 => absurd (by decide) c_7)
  refine lv_iconst (v := 0) hx hb dX4_goesOn_191 (by decide) ?_
  refine lv_istore_n (lv' := [(2, .int 0), (1, .int 0), (0, .ref h0)]) hx hb dX4_goesOn_192 rfl hl (by decide) rfl (fun ls hl => ?_)
  refine lv_iload_n hx hb dX4_goesOn_193 rfl (lv_at hl 0 rfl) ?_
  refine lv_aload_n hx hb dX4_goesOn_194 rfl (lv_at hl 2 rfl) ?_
  refine va_get (D := (dC, dI)) (ci := 5) (v := .int 0) (C := RX4) (T := TX4) (N := 43) hx hb hts (fun _ h => List.mem_cons_of_mem _ (List.mem_append_right _ h)) hown hK hP 0 rfl rfl 2 (by decide) (hts (.fieldLink RX4 114 "FrontDoorModel" "servers" "I") (by decide +kernel)) (fun _ h9 => h9) rfl dX4_goesOn_195 ?_
  refine lv_icmp_ge (tgt := 233) hx hb dX4_goesOn_198 (by decide) (fun c_8 => ?_) (fun c_8 => absurd (by decide) c_8)
  refine lv_iload_n hx hb dX4_goesOn_233 rfl (lv_at hl 1 rfl) ?_
  have hP9 := hP.sub (ws' := [(h0, .inr (5, [.ref (R 0), .int (tk + 1), .int 0, .int 0, .int 0, .int 3, .int 20, .int 0, .int 0, .int 0, .int 0, .ref (R 11), .ref (R 12), .ref (R 13), .ref (R 14), .ref (R 15), .ref (R 16), .ref (R 17), .ref (R 18), .ref (R 19), .ref (R 20), .ref (R 21), .ref (R 22), .ref (R 23), .ref (R 24), .ref (R 25), .ref (R 26), .ref (R 27), .ref (R 28), .ref (R 29), .ref (R 30), .ref (R 31), .ref (R 32), .ref (R 33), .ref (R 34), .ref (R 35), .ref (R 36), .ref (R 37), .ref (R 38), .ref (R 39), .ref (R 40), .ref (R 41), .int 0]))]) [0] rfl
  have hD9 := hD.sub (ws' := [(h0, .inr (5, [.ref (R 0), .int (tk + 1), .int 0, .int 0, .int 0, .int 3, .int 20, .int 0, .int 0, .int 0, .int 0, .ref (R 11), .ref (R 12), .ref (R 13), .ref (R 14), .ref (R 15), .ref (R 16), .ref (R 17), .ref (R 18), .ref (R 19), .ref (R 20), .ref (R 21), .ref (R 22), .ref (R 23), .ref (R 24), .ref (R 25), .ref (R 26), .ref (R 27), .ref (R 28), .ref (R 29), .ref (R 30), .ref (R 31), .ref (R 32), .ref (R 33), .ref (R 34), .ref (R 35), .ref (R 36), .ref (R 37), .ref (R 38), .ref (R 39), .ref (R 40), .ref (R 41), .int 0]))]) [0] (by decide) rfl
  have hK9 := hK.sub (tys' := []) [] rfl
  exact W.iret (v := 0) hx hb hr (fun t ht hW => ⟨⟨0, (), rfl, rfl, ⟨by rw [ht]; exact hP9, va_K.moved hW.alike hK9, hD9⟩⟩, hS.F ht⟩) hS.2.2 dX4_goesOn_234

set_option maxHeartbeats 40000000 in
set_option maxRecDepth 100000 in
theorem k_X4_ticks (l : Launch) (dC : Nat → ClassId) (dI : Nat → Nat → Nat) (h0 : Nat) (R : Nat → Nat) (C : Nat → ClassId) (a1 : Int32) (sz : Nat) : Met l yX4_ticks wsX4_ticks ({ frames := 2, cells := 0, slots := 0, locals := 45 }) (va_Pc [.ref h0, .int a1] (pzPre (dC, dI) vwCl [(h0, .inr (5, [.ref (R 0), .int 0, .int 0, .int 0, .int 0, .int 3, .int 20, .int 0, .int 0, .int 0, .int 0, .ref (R 11), .ref (R 12), .ref (R 13), .ref (R 14), .ref (R 15), .ref (R 16), .ref (R 17), .ref (R 18), .ref (R 19), .ref (R 20), .ref (R 21), .ref (R 22), .ref (R 23), .ref (R 24), .ref (R 25), .ref (R 26), .ref (R 27), .ref (R 28), .ref (R 29), .ref (R 30), .ref (R 31), .ref (R 32), .ref (R 33), .ref (R 34), .ref (R 35), .ref (R 36), .ref (R 37), .ref (R 38), .ref (R 39), .ref (R 40), .ref (R 41), .int 0])), ((R 0), .inl ((C 0), 7, .inl (fun _ => 0)))] [((C 0), .int)] sz)) (va_Qi (fun (r : Int32) (_ : Unit) => r = ex_ticks a1) (fun _ _ => True) (va_A [(h0, .inr (5, [.ref (R 0), .int 0, .int 0, .int 0, .int 0, .int 3, .int 20, .int 0, .int 0, .int 0, .int 0, .ref (R 11), .ref (R 12), .ref (R 13), .ref (R 14), .ref (R 15), .ref (R 16), .ref (R 17), .ref (R 18), .ref (R 19), .ref (R 20), .ref (R 21), .ref (R 22), .ref (R 23), .ref (R 24), .ref (R 25), .ref (R 26), .ref (R 27), .ref (R 28), .ref (R 29), .ref (R 30), .ref (R 31), .ref (R 32), .ref (R 33), .ref (R 34), .ref (R 35), .ref (R 36), .ref (R 37), .ref (R 38), .ref (R 39), .ref (R 40), .ref (R 41), .int 0])), ((R 0), .inl ((C 0), 7, .inl (fun _ => 0)))] sz)) 0 0 (va_A [(h0, .inr (5, [.ref (R 0), .int 0, .int 0, .int 0, .int 0, .int 3, .int 20, .int 0, .int 0, .int 0, .int 0, .ref (R 11), .ref (R 12), .ref (R 13), .ref (R 14), .ref (R 15), .ref (R 16), .ref (R 17), .ref (R 18), .ref (R 19), .ref (R 20), .ref (R 21), .ref (R 22), .ref (R 23), .ref (R 24), .ref (R 25), .ref (R 26), .ref (R 27), .ref (R 28), .ref (R 29), .ref (R 30), .ref (R 31), .ref (R 32), .ref (R 33), .ref (R 34), .ref (R 35), .ref (R 36), .ref (R 37), .ref (R 38), .ref (R 39), .ref (R 40), .ref (R 41), .int 0])), ((R 0), .inl ((C 0), 7, .inl (fun _ => 0)))] sz) := by
  refine Met.ofW (cc := cX4_ticks) (maxL := 4) (ret := (some .int)) (by decide) rfl ?_
  intro p e s m args below meth c s₁ B hml hv
  obtain ⟨rfl, hsz, hP, hK, hD0⟩ := hv
  have hx := B.exec
  have hb := B.bytes
  have hr := B.returns
  have hts := atoms_spec (ws := wsX4_ticks) B.pre
  have hown : s.vm.findClass RX4 = some m.cls := findClass_of_methodNamed B.named
  have hlocks := B.notSynchronized
  subst hsz
  have hD := hD0.self (sz := s.heap.size)
  generalize hAe : va_A [(h0, .inr (5, [.ref (R 0), .int 0, .int 0, .int 0, .int 0, .int 3, .int 20, .int 0, .int 0, .int 0, .int 0, .ref (R 11), .ref (R 12), .ref (R 13), .ref (R 14), .ref (R 15), .ref (R 16), .ref (R 17), .ref (R 18), .ref (R 19), .ref (R 20), .ref (R 21), .ref (R 22), .ref (R 23), .ref (R 24), .ref (R 25), .ref (R 26), .ref (R 27), .ref (R 28), .ref (R 29), .ref (R 30), .ref (R 31), .ref (R 32), .ref (R 33), .ref (R 34), .ref (R 35), .ref (R 36), .ref (R 37), .ref (R 38), .ref (R 39), .ref (R 40), .ref (R 41), .int 0])), ((R 0), .inl ((C 0), 7, .inl (fun _ => 0)))] s.heap.size = A at hD ⊢
  have hA : ∀ q : Nat, s.heap.size ≤ q → A q := fun q h => by rw [← hAe]; exact Or.inr h
  have hS : va_S A s.heap s.heap [] := va_S.rf
  have hP : va_P (dC, dI) vwCl [(h0, .inr (5, [.ref (R 0), .int 0, .int 0, .int 0, .int 0, .int 3, .int 20, .int 0, .int 0, .int 0, .int 0, .ref (R 11), .ref (R 12), .ref (R 13), .ref (R 14), .ref (R 15), .ref (R 16), .ref (R 17), .ref (R 18), .ref (R 19), .ref (R 20), .ref (R 21), .ref (R 22), .ref (R 23), .ref (R 24), .ref (R 25), .ref (R 26), .ref (R 27), .ref (R 28), .ref (R 29), .ref (R 30), .ref (R 31), .ref (R 32), .ref (R 33), .ref (R 34), .ref (R 35), .ref (R 36), .ref (R 37), .ref (R 38), .ref (R 39), .ref (R 40), .ref (R 41), .int 0])), ((R 0), .inl ((C 0), 7, .inl (fun _ => 0)))] s.heap := hP
  have hl := lv_entry ([.ref h0, .int a1]) (n := 4) (Nat.le_of_ble_eq_true rfl)
  rw [lg_entry_eq]
  generalize (lg_sl ([.ref h0, .int a1]) ++ List.replicate (4 - (lg_sl ([.ref h0, .int a1])).length) Slot.unset).toArray = ls at hl ⊢
  have hl : lv_has ls 4 [(0, .ref h0), (1, .int a1)] := hl
  refine lv_iload_n hx hb dX4_ticks_0 rfl (lv_at hl 1 rfl) ?_
  refine lv_iconst (v := 1) hx hb dX4_ticks_1 (by decide) ?_
  refine lv_icmp_ge (tgt := 12) hx hb dX4_ticks_2 (by decide) (fun c_1 => ?_) (fun c_1 => ?_)
  · skip
    have i_1 : 1 ≤ a1.toInt := by have h9 := pz_ge c_1; exact h9
    refine lv_iload_n hx hb dX4_ticks_12 rfl (lv_at hl 1 rfl) ?_
    refine lv_sipush (v := 20000) hx hb dX4_ticks_13 (by decide) ?_
    refine lv_aload_n hx hb dX4_ticks_16 rfl (lv_at hl 0 rfl) ?_
    refine va_get (D := (dC, dI)) (ci := 5) (v := .int 0) (C := RX4) (T := TX4) (N := 43) hx hb hts (fun _ h => List.mem_cons_of_mem _ (List.mem_append_right _ h)) hown hK hP 0 rfl rfl 1 (by decide) (hts (.fieldLink RX4 163 "FrontDoorModel" "tick" "I") (by decide +kernel)) (fun _ h9 => h9) rfl dX4_ticks_17 ?_
    refine lv_isub hx hb dX4_ticks_20 ?_
    refine lv_topi (fun x_2 ex_2 => ?_)
    obtain rfl : x_2 = 20000 := ex_2.trans (by decide)
    refine lv_icmp_le (tgt := 31) hx hb dX4_ticks_21 (by decide) (fun c_3 => ?_) (fun c_3 => ?_)
    · skip
      have i_3 : a1.toInt ≤ 20000 := by have h9 := pz_le c_3; exact h9
      refine lv_iconst (v := 0) hx hb dX4_ticks_31 (by decide) ?_
      refine lv_istore_n (lv' := [(2, .int 0), (0, .ref h0), (1, .int a1)]) hx hb dX4_ticks_32 rfl hl (by decide) rfl (fun ls hl => ?_)
      refine lv_iconst (v := 0) hx hb dX4_ticks_33 (by decide) ?_
      refine lv_istore_n (lv' := [(3, .int 0), (2, .int 0), (0, .ref h0), (1, .int a1)]) hx hb dX4_ticks_34 rfl hl (by decide) rfl (fun ls hl => ?_)
      obtain ⟨N, hN, eN⟩ : ∃ N : Nat, N ≤ 20000 ∧ a1 = nI N := pz_nI (by omega) (by omega)
      subst eN
      have loop : ∀ (k j : Nat) (tk : Int32) (H : Heap) (locs : List Loc) (ls : Array Slot), j + k = N → va_P (dC, dI) vwCl [(h0, .inr (5, [.ref (R 0), .int tk, .int 0, .int 0, .int 0, .int 3, .int 20, .int 0, .int 0, .int 0, .int 0, .ref (R 11), .ref (R 12), .ref (R 13), .ref (R 14), .ref (R 15), .ref (R 16), .ref (R 17), .ref (R 18), .ref (R 19), .ref (R 20), .ref (R 21), .ref (R 22), .ref (R 23), .ref (R 24), .ref (R 25), .ref (R 26), .ref (R 27), .ref (R 28), .ref (R 29), .ref (R 30), .ref (R 31), .ref (R 32), .ref (R 33), .ref (R 34), .ref (R 35), .ref (R 36), .ref (R 37), .ref (R 38), .ref (R 39), .ref (R 40), .ref (R 41), .int 0])), ((R 0), .inl ((C 0), 7, .inl (fun _ => 0)))] H → va_D A [(h0, .inr (5, [.ref (R 0), .int tk, .int 0, .int 0, .int 0, .int 3, .int 20, .int 0, .int 0, .int 0, .int 0, .ref (R 11), .ref (R 12), .ref (R 13), .ref (R 14), .ref (R 15), .ref (R 16), .ref (R 17), .ref (R 18), .ref (R 19), .ref (R 20), .ref (R 21), .ref (R 22), .ref (R 23), .ref (R 24), .ref (R 25), .ref (R 26), .ref (R 27), .ref (R 28), .ref (R 29), .ref (R 30), .ref (R 31), .ref (R 32), .ref (R 33), .ref (R 34), .ref (R 35), .ref (R 36), .ref (R 37), .ref (R 38), .ref (R 39), .ref (R 40), .ref (R 41), .int 0])), ((R 0), .inl ((C 0), 7, .inl (fun _ => 0)))] → va_S A s.heap H locs → lv_has ls 4 [(3, .int (nI j)), (2, .int 0), (0, .ref h0), (1, .int (nI N))] → W p l e (headSpec wsX4_ticks { frames := 2, cells := 0, slots := 0, locals := 45 }).room s m ([.ref h0, .int (nI N)] : List Value).toArray below meth c H locs 0 0 (MQ below (va_Qi (fun (r : Int32) (_ : Unit) => r = ex_ticks (nI N)) (fun _ _ => True) A) ([.ref h0, .int (nI N)] : List Value).toArray s 0 0 A) (F0 m 35 ls []) := by
        intro k
        induction k with
        | zero =>
          intro j tk H locs ls hj hP hD hS hl
          refine lv_iload_n hx hb dX4_ticks_35 rfl (lv_at hl 0 rfl) ?_
          refine lv_iload_n hx hb dX4_ticks_36 rfl (lv_at hl 3 rfl) ?_
          refine lv_icmp_ge (tgt := 53) hx hb dX4_ticks_37 (by decide) (fun c_4 => ?_) (fun c_4 => absurd (nI_le (by omega) (by omega)) c_4)
          refine lv_iload_n hx hb dX4_ticks_53 rfl (lv_at hl 1 rfl) ?_
          exact W.iret (v := 0) hx hb hr (fun t ht hW => ⟨⟨0, (), rfl, (by unfold ex_ticks; (repeat' split) <;> first | rfl | omega), trivial⟩, hS.F ht⟩) hS.2.2 dX4_ticks_54
        | succ k ih =>
          intro j tk H locs ls hj hP hD hS hl
          refine lv_iload_n hx hb dX4_ticks_35 rfl (lv_at hl 0 rfl) ?_
          refine lv_iload_n hx hb dX4_ticks_36 rfl (lv_at hl 3 rfl) ?_
          refine lv_icmp_ge (tgt := 53) hx hb dX4_ticks_37 (by decide) (fun c_5 => absurd c_5 (nI_ge (by omega) (by omega))) (fun c_5 => ?_)
          refine lv_iload_n hx hb dX4_ticks_40 rfl (lv_at hl 1 rfl) ?_
          refine lv_aload_n hx hb dX4_ticks_41 rfl (lv_at hl 2 rfl) ?_
          have hPc := hP.sub (ws' := [(h0, .inr (5, [.ref (R 0), .int tk, .int 0, .int 0, .int 0, .int 3, .int 20, .int 0, .int 0, .int 0, .int 0, .ref (R 11), .ref (R 12), .ref (R 13), .ref (R 14), .ref (R 15), .ref (R 16), .ref (R 17), .ref (R 18), .ref (R 19), .ref (R 20), .ref (R 21), .ref (R 22), .ref (R 23), .ref (R 24), .ref (R 25), .ref (R 26), .ref (R 27), .ref (R 28), .ref (R 29), .ref (R 30), .ref (R 31), .ref (R 32), .ref (R 33), .ref (R 34), .ref (R 35), .ref (R 36), .ref (R 37), .ref (R 38), .ref (R 39), .ref (R 40), .ref (R 41), .int 0]))]) [0] rfl
          have hDc := hD.sub (ws' := [(h0, .inr (5, [.ref (R 0), .int tk, .int 0, .int 0, .int 0, .int 3, .int 20, .int 0, .int 0, .int 0, .int 0, .ref (R 11), .ref (R 12), .ref (R 13), .ref (R 14), .ref (R 15), .ref (R 16), .ref (R 17), .ref (R 18), .ref (R 19), .ref (R 20), .ref (R 21), .ref (R 22), .ref (R 23), .ref (R 24), .ref (R 25), .ref (R 26), .ref (R 27), .ref (R 28), .ref (R 29), .ref (R 30), .ref (R 31), .ref (R 32), .ref (R 33), .ref (R 34), .ref (R 35), .ref (R 36), .ref (R 37), .ref (R 38), .ref (R 39), .ref (R 40), .ref (R 41), .int 0]))]) [0] (by decide) rfl
          have hKc := hK.sub (tys' := []) [] rfl
          have hFc := va_free (wc := [(h0, .inr (5, [.ref (R 0), .int tk, .int 0, .int 0, .int 0, .int 3, .int 20, .int 0, .int 0, .int 0, .int 0, .ref (R 11), .ref (R 12), .ref (R 13), .ref (R 14), .ref (R 15), .ref (R 16), .ref (R 17), .ref (R 18), .ref (R 19), .ref (R 20), .ref (R 21), .ref (R 22), .ref (R 23), .ref (R 24), .ref (R 25), .ref (R 26), .ref (R 27), .ref (R 28), .ref (R 29), .ref (R 30), .ref (R 31), .ref (R 32), .ref (R 33), .ref (R 34), .ref (R 35), .ref (R 36), .ref (R 37), .ref (R 38), .ref (R 39), .ref (R 40), .ref (R 41), .int 0]))]) hD hS hA [0] rfl
          refine va_calli (va_runV (As := []) (rest := [.int 0]) ⟨hx, hb, hml, hown, hts⟩ (k_X4_goesOn l dC dI h0 R tk H.size) (cwV 0 hts gX4_ticks_X4_goesOn rfl rfl rfl (by decide +kernel) ⟨Nat.le_of_ble_eq_true rfl, Nat.le_of_ble_eq_true rfl⟩) ⟨pz_blind, va_recv hKc hPc (ci := 5) (q0 := 0) rfl rfl, fun U hU hW => ⟨rfl, pz_at hPc hKc hDc hU hW⟩⟩ rfl rfl hl.1 rfl (lv_room (Nat.le_of_ble_eq_true rfl)) dX4_ticks_42 ⟨Nat.le_of_ble_eq_true rfl, Nat.le_of_ble_eq_true rfl⟩) hS (fun q _ h => hFc q h) hFc (fun r_6 u t H locs ht hvm hw hB hz1 hk1 hS => ?_)
          obtain ⟨hP1, hK1, hD1⟩ := hB
          rw [ht] at hP1
          have hK1 := va_K.moved hvm.symm hK1
          obtain ⟨hP, hD⟩ := va_join (wr := [((R 0), .inl ((C 0), 7, .inl (fun _ => 0)))]) (w1 := [(h0, .inr (5, [.ref (R 0), .int (tk + 1), .int 0, .int 0, .int 0, .int 3, .int 20, .int 0, .int 0, .int 0, .int 0, .ref (R 11), .ref (R 12), .ref (R 13), .ref (R 14), .ref (R 15), .ref (R 16), .ref (R 17), .ref (R 18), .ref (R 19), .ref (R 20), .ref (R 21), .ref (R 22), .ref (R 23), .ref (R 24), .ref (R 25), .ref (R 26), .ref (R 27), .ref (R 28), .ref (R 29), .ref (R 30), .ref (R 31), .ref (R 32), .ref (R 33), .ref (R 34), .ref (R 35), .ref (R 36), .ref (R 37), .ref (R 38), .ref (R 39), .ref (R 40), .ref (R 41), .int 0]))]) hP hD [0] [1] rfl rfl (by decide) (by decide) hk1 hFc hP1 hD1
          have hK := hK.app hK1
          have hK : va_K (dC, dI) vwCl [((C 0), .int)] s := hK
          have hP : va_P (dC, dI) vwCl [((R 0), .inl ((C 0), 7, .inl (fun _ => 0))), (h0, .inr (5, [.ref (R 0), .int (tk + 1), .int 0, .int 0, .int 0, .int 3, .int 20, .int 0, .int 0, .int 0, .int 0, .ref (R 11), .ref (R 12), .ref (R 13), .ref (R 14), .ref (R 15), .ref (R 16), .ref (R 17), .ref (R 18), .ref (R 19), .ref (R 20), .ref (R 21), .ref (R 22), .ref (R 23), .ref (R 24), .ref (R 25), .ref (R 26), .ref (R 27), .ref (R 28), .ref (R 29), .ref (R 30), .ref (R 31), .ref (R 32), .ref (R 33), .ref (R 34), .ref (R 35), .ref (R 36), .ref (R 37), .ref (R 38), .ref (R 39), .ref (R 40), .ref (R 41), .int 0]))] H := hP
          have hD : va_D A [((R 0), .inl ((C 0), 7, .inl (fun _ => 0))), (h0, .inr (5, [.ref (R 0), .int (tk + 1), .int 0, .int 0, .int 0, .int 3, .int 20, .int 0, .int 0, .int 0, .int 0, .ref (R 11), .ref (R 12), .ref (R 13), .ref (R 14), .ref (R 15), .ref (R 16), .ref (R 17), .ref (R 18), .ref (R 19), .ref (R 20), .ref (R 21), .ref (R 22), .ref (R 23), .ref (R 24), .ref (R 25), .ref (R 26), .ref (R 27), .ref (R 28), .ref (R 29), .ref (R 30), .ref (R 31), .ref (R 32), .ref (R 33), .ref (R 34), .ref (R 35), .ref (R 36), .ref (R 37), .ref (R 38), .ref (R 39), .ref (R 40), .ref (R 41), .int 0]))] := hD
          have hw : r_6 = 0 := hw
          subst hw
          refine lv_iadd hx hb dX4_ticks_45 ?_
          refine lv_topi (fun x_7 ex_7 => ?_)
          obtain rfl : x_7 = 0 := ex_7.trans (by decide)
          refine lv_istore_n (lv' := [(2, .int 0), (3, .int (nI j)), (0, .ref h0), (1, .int (nI N))]) hx hb dX4_ticks_46 rfl hl (by decide) rfl (fun ls hl => ?_)
          obtain ⟨y_8, ey_8⟩ : ∃ y : Int32, y = (nI j) + 1 := ⟨_, rfl⟩
          refine lv_iinc (v := y_8) (lv' := [(3, .int y_8), (2, .int 0), (0, .ref h0), (1, .int (nI N))]) hx hb dX4_ticks_47 hl (k := 1) rfl (by rw [ey_8]; rfl) (by decide) rfl (fun ls hl => ?_)
          refine lv_goto (tgt := 35) hx hb dX4_ticks_50 (by decide) ?_
          have e9 : y_8 = nI (j + 1) := ey_8.trans (nI_1 j)
          subst e9
          exact ih (j + 1) ((tk + 1)) _ _ ls (by omega) (hP.sub [1, 0] rfl) (hD.sub [1, 0] (by decide) rfl) hS hl
      exact loop N 0 0 _ _ ls (by omega) hP hD hS hl
    · skip
      have i_3 : 20000 < a1.toInt := by have h9 := pz_nle c_3; exact h9
      refine lv_aload_n hx hb dX4_ticks_24 rfl (lv_at hl 0 rfl) ?_
      refine lv_bipush (v := (-6)) hx hb dX4_ticks_25 (by decide) ?_
      have hPc := hP.sub (ws' := [(h0, .inr (5, [.ref (R 0), .int 0, .int 0, .int 0, .int 0, .int 3, .int 20, .int 0, .int 0, .int 0, .int 0, .ref (R 11), .ref (R 12), .ref (R 13), .ref (R 14), .ref (R 15), .ref (R 16), .ref (R 17), .ref (R 18), .ref (R 19), .ref (R 20), .ref (R 21), .ref (R 22), .ref (R 23), .ref (R 24), .ref (R 25), .ref (R 26), .ref (R 27), .ref (R 28), .ref (R 29), .ref (R 30), .ref (R 31), .ref (R 32), .ref (R 33), .ref (R 34), .ref (R 35), .ref (R 36), .ref (R 37), .ref (R 38), .ref (R 39), .ref (R 40), .ref (R 41), .int 0])), ((R 0), .inl ((C 0), 7, .inl (fun _ => 0)))]) [0, 1] rfl
      have hDc := hD.sub (ws' := [(h0, .inr (5, [.ref (R 0), .int 0, .int 0, .int 0, .int 0, .int 3, .int 20, .int 0, .int 0, .int 0, .int 0, .ref (R 11), .ref (R 12), .ref (R 13), .ref (R 14), .ref (R 15), .ref (R 16), .ref (R 17), .ref (R 18), .ref (R 19), .ref (R 20), .ref (R 21), .ref (R 22), .ref (R 23), .ref (R 24), .ref (R 25), .ref (R 26), .ref (R 27), .ref (R 28), .ref (R 29), .ref (R 30), .ref (R 31), .ref (R 32), .ref (R 33), .ref (R 34), .ref (R 35), .ref (R 36), .ref (R 37), .ref (R 38), .ref (R 39), .ref (R 40), .ref (R 41), .int 0])), ((R 0), .inl ((C 0), 7, .inl (fun _ => 0)))]) [0, 1] (by decide) rfl
      have hKc := hK.sub (tys' := [((C 0), .int)]) [0] rfl
      have hFc := va_free (wc := [(h0, .inr (5, [.ref (R 0), .int 0, .int 0, .int 0, .int 0, .int 3, .int 20, .int 0, .int 0, .int 0, .int 0, .ref (R 11), .ref (R 12), .ref (R 13), .ref (R 14), .ref (R 15), .ref (R 16), .ref (R 17), .ref (R 18), .ref (R 19), .ref (R 20), .ref (R 21), .ref (R 22), .ref (R 23), .ref (R 24), .ref (R 25), .ref (R 26), .ref (R 27), .ref (R 28), .ref (R 29), .ref (R 30), .ref (R 31), .ref (R 32), .ref (R 33), .ref (R 34), .ref (R 35), .ref (R 36), .ref (R 37), .ref (R 38), .ref (R 39), .ref (R 40), .ref (R 41), .int 0])), ((R 0), .inl ((C 0), 7, .inl (fun _ => 0)))]) hD hS hA [0, 1] rfl
      refine va_calli (va_runV (As := [.int (-6)]) (rest := []) ⟨hx, hb, hml, hown, hts⟩ (k_X4_refuse6 l dC dI h0 R C s.heap.size) (cwV 1 hts gX4_ticks_X4_refuse rfl rfl rfl (by decide +kernel) ⟨Nat.le_of_ble_eq_true rfl, Nat.le_of_ble_eq_true rfl⟩) ⟨pz_blind, va_recv hKc hPc (ci := 5) (q0 := 0) rfl rfl, fun U hU hW => ⟨rfl, pz_at hPc hKc hDc hU hW⟩⟩ rfl rfl hl.1 rfl (lv_room (Nat.le_of_ble_eq_true rfl)) dX4_ticks_27 ⟨Nat.le_of_ble_eq_true rfl, Nat.le_of_ble_eq_true rfl⟩) hS (fun q _ h => hFc q h) hFc (fun r_9 u t H locs ht hvm hw hB hz1 hk1 hS => ?_)
      obtain ⟨hP, hD⟩ := va_join (wr := []) (w1 := []) hP hD [0, 1] [] rfl rfl (by decide) (by decide) hk1 hFc pz_nilP pz_nilD
      have hP : va_P (dC, dI) vwCl [] H := hP
      have hD : va_D A [] := hD
      have hw : r_9 = (-6) := hw
      subst hw
      exact W.iret (v := (-6)) hx hb hr (fun t ht hW => ⟨⟨(-6), (), rfl, (by unfold ex_ticks; (repeat' split) <;> first | rfl | omega), trivial⟩, hS.F ht⟩) hS.2.2 dX4_ticks_30
  · skip
    have i_1 : a1.toInt < 1 := by have h9 := pz_nge c_1; exact h9
    refine lv_aload_n hx hb dX4_ticks_5 rfl (lv_at hl 0 rfl) ?_
    refine lv_bipush (v := (-4)) hx hb dX4_ticks_6 (by decide) ?_
    have hPc := hP.sub (ws' := [(h0, .inr (5, [.ref (R 0), .int 0, .int 0, .int 0, .int 0, .int 3, .int 20, .int 0, .int 0, .int 0, .int 0, .ref (R 11), .ref (R 12), .ref (R 13), .ref (R 14), .ref (R 15), .ref (R 16), .ref (R 17), .ref (R 18), .ref (R 19), .ref (R 20), .ref (R 21), .ref (R 22), .ref (R 23), .ref (R 24), .ref (R 25), .ref (R 26), .ref (R 27), .ref (R 28), .ref (R 29), .ref (R 30), .ref (R 31), .ref (R 32), .ref (R 33), .ref (R 34), .ref (R 35), .ref (R 36), .ref (R 37), .ref (R 38), .ref (R 39), .ref (R 40), .ref (R 41), .int 0])), ((R 0), .inl ((C 0), 7, .inl (fun _ => 0)))]) [0, 1] rfl
    have hDc := hD.sub (ws' := [(h0, .inr (5, [.ref (R 0), .int 0, .int 0, .int 0, .int 0, .int 3, .int 20, .int 0, .int 0, .int 0, .int 0, .ref (R 11), .ref (R 12), .ref (R 13), .ref (R 14), .ref (R 15), .ref (R 16), .ref (R 17), .ref (R 18), .ref (R 19), .ref (R 20), .ref (R 21), .ref (R 22), .ref (R 23), .ref (R 24), .ref (R 25), .ref (R 26), .ref (R 27), .ref (R 28), .ref (R 29), .ref (R 30), .ref (R 31), .ref (R 32), .ref (R 33), .ref (R 34), .ref (R 35), .ref (R 36), .ref (R 37), .ref (R 38), .ref (R 39), .ref (R 40), .ref (R 41), .int 0])), ((R 0), .inl ((C 0), 7, .inl (fun _ => 0)))]) [0, 1] (by decide) rfl
    have hKc := hK.sub (tys' := [((C 0), .int)]) [0] rfl
    have hFc := va_free (wc := [(h0, .inr (5, [.ref (R 0), .int 0, .int 0, .int 0, .int 0, .int 3, .int 20, .int 0, .int 0, .int 0, .int 0, .ref (R 11), .ref (R 12), .ref (R 13), .ref (R 14), .ref (R 15), .ref (R 16), .ref (R 17), .ref (R 18), .ref (R 19), .ref (R 20), .ref (R 21), .ref (R 22), .ref (R 23), .ref (R 24), .ref (R 25), .ref (R 26), .ref (R 27), .ref (R 28), .ref (R 29), .ref (R 30), .ref (R 31), .ref (R 32), .ref (R 33), .ref (R 34), .ref (R 35), .ref (R 36), .ref (R 37), .ref (R 38), .ref (R 39), .ref (R 40), .ref (R 41), .int 0])), ((R 0), .inl ((C 0), 7, .inl (fun _ => 0)))]) hD hS hA [0, 1] rfl
    refine va_calli (va_runV (As := [.int (-4)]) (rest := []) ⟨hx, hb, hml, hown, hts⟩ (k_X4_refuse4 l dC dI h0 R C s.heap.size) (cwV 1 hts gX4_ticks_X4_refuse rfl rfl rfl (by decide +kernel) ⟨Nat.le_of_ble_eq_true rfl, Nat.le_of_ble_eq_true rfl⟩) ⟨pz_blind, va_recv hKc hPc (ci := 5) (q0 := 0) rfl rfl, fun U hU hW => ⟨rfl, pz_at hPc hKc hDc hU hW⟩⟩ rfl rfl hl.1 rfl (lv_room (Nat.le_of_ble_eq_true rfl)) dX4_ticks_8 ⟨Nat.le_of_ble_eq_true rfl, Nat.le_of_ble_eq_true rfl⟩) hS (fun q _ h => hFc q h) hFc (fun r_10 u t H locs ht hvm hw hB hz1 hk1 hS => ?_)
    obtain ⟨hP, hD⟩ := va_join (wr := []) (w1 := []) hP hD [0, 1] [] rfl rfl (by decide) (by decide) hk1 hFc pz_nilP pz_nilD
    have hP : va_P (dC, dI) vwCl [] H := hP
    have hD : va_D A [] := hD
    have hw : r_10 = (-4) := hw
    subst hw
    exact W.iret (v := (-4)) hx hb hr (fun t ht hW => ⟨⟨(-4), (), rfl, (by unfold ex_ticks; (repeat' split) <;> first | rfl | omega), trivial⟩, hS.F ht⟩) hS.2.2 dX4_ticks_11
