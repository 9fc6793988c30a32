set_option maxHeartbeats 40000000 in
set_option maxRecDepth 100000 in
theorem m_X4_isIn (l : Launch) (dC : Nat → ClassId) (dI : Nat → Nat → Nat) (k0 : Int32) (n0 : Int32) (sz : Nat) : Met l yX4_isIn wsX4_isIn ({ frames := 0, cells := 0, slots := 0, locals := 0 }) (va_Pc [.int k0, .int n0] (pzPre (dC, dI) vwCl [] [] sz)) (va_Qi (fun (r : Int32) (_ : Unit) => (0 ≤ k0.toInt ∧ k0.toInt < n0.toInt ∧ r = 1) ∨ ((k0.toInt < 0 ∨ n0.toInt ≤ k0.toInt) ∧ r = 0)) (fun _ _ => True) (va_A [] sz)) 0 0 (va_A [] sz) := by
  refine Met.ofW (cc := cX4_isIn) (maxL := 2) (ret := (some .boolean)) (by decide) rfl ?_
  intro p e s m args below meth c s₁ B hml hv
  obtain ⟨rfl, hsz, hP, hK, hD0⟩ := hv
  have hx := B.exec
  have hb := B.bytes
  have hr := B.returns
  have hts := atoms_spec (ws := wsX4_isIn) B.pre
  have hown : s.vm.findClass RX4 = some m.cls := findClass_of_methodNamed B.named
  have hlocks := B.notSynchronized
  subst hsz
  have hA : ∀ q : Nat, s.heap.size ≤ q → va_A [] s.heap.size q := fun q h => Or.inr h
  have hD := hD0
  generalize va_A [] s.heap.size = A at hA ⊢
  have hS : va_S A s.heap s.heap [] := va_S.rf
  have hP : va_P (dC, dI) vwCl [] s.heap := hP
  have hl := lv_entry ([.int k0, .int n0]) (n := 2) (Nat.le_of_ble_eq_true rfl)
  rw [lg_entry_eq]
  generalize (lg_sl ([.int k0, .int n0]) ++ List.replicate (2 - (lg_sl ([.int k0, .int n0])).length) Slot.unset).toArray = ls at hl ⊢
  have hl : lv_has ls 2 [(0, .int k0), (1, .int n0)] := hl
  refine lv_iload_n hx hb dX4_isIn_0 rfl (lv_at hl 0 rfl) ?_
  refine lv_if_lt (tgt := 13) hx hb dX4_isIn_1 (by decide) (fun c_1 => ?_) (fun c_1 => ?_)
  · skip
    have i_1 : k0.toInt < 0 := by have h9 := pz_lt c_1; exact h9
    refine lv_iconst (v := 0) hx hb dX4_isIn_13 (by decide) ?_
    exact W.zret (v := 0) hx hb hr rfl (fun t ht hW => ⟨⟨0, (), rfl, (Or.inr (⟨(by omega), rfl⟩)), trivial⟩, hS.F ht⟩) hS.2.2 dX4_isIn_14
  · skip
    have i_1 : 0 ≤ k0.toInt := by have h9 := pz_nlt c_1; exact h9
    refine lv_iload_n hx hb dX4_isIn_4 rfl (lv_at hl 0 rfl) ?_
    refine lv_iload_n hx hb dX4_isIn_5 rfl (lv_at hl 1 rfl) ?_
    refine lv_icmp_ge (tgt := 13) hx hb dX4_isIn_6 (by decide) (fun c_2 => ?_) (fun c_2 => ?_)
    · skip
      have i_2 : n0.toInt ≤ k0.toInt := by have h9 := pz_ge c_2; exact h9
      refine lv_iconst (v := 0) hx hb dX4_isIn_13 (by decide) ?_
      exact W.zret (v := 0) hx hb hr rfl (fun t ht hW => ⟨⟨0, (), rfl, (Or.inr (⟨(by omega), rfl⟩)), trivial⟩, hS.F ht⟩) hS.2.2 dX4_isIn_14
    · skip
      have i_2 : k0.toInt < n0.toInt := by have h9 := pz_nge c_2; exact h9
      refine lv_iconst (v := 1) hx hb dX4_isIn_9 (by decide) ?_
      refine lv_goto (tgt := 14) hx hb dX4_isIn_10 (by decide) ?_
      exact W.zret (v := 1) hx hb hr rfl (fun t ht hW => ⟨⟨1, (), rfl, (Or.inl (⟨(by omega), (by omega), rfl⟩)), trivial⟩, hS.F ht⟩) hS.2.2 dX4_isIn_14

set_option maxHeartbeats 40000000 in
set_option maxRecDepth 100000 in
theorem m_X4_isServer (l : Launch) (dC : Nat → ClassId) (dI : Nat → Nat → Nat) (h0 : Nat) (R : Nat → Nat) (C : Nat → ClassId) (I : Nat → Int32) (F : Nat → Nat → Int32) (ns : Nat) (k0 : Int32) (sz : Nat) (hns : I 2 = nI ns) (hbn : ns ≤ 8) : Met l yX4_isServer wsX4_isServer ({ frames := 1, cells := 0, slots := 0, locals := 21 }) (va_Pc [.ref h0, .int k0] (pzPre (dC, dI) vwCl (gW h0 R C I F) (gT C) sz)) (va_Qi (fun (r : Int32) (_ : Unit) => (0 ≤ k0.toInt ∧ k0.toInt < (nI ns).toInt ∧ r = 1) ∨ ((k0.toInt < 0 ∨ (nI ns).toInt ≤ k0.toInt) ∧ r = 0)) (fun _ _ => True) (va_A [] sz)) 0 0 (va_A [] sz) := by
  refine Met.ofW (cc := cX4_isServer) (maxL := 2) (ret := (some .boolean)) (by decide) rfl ?_
  intro p e s m args below meth c s₁ B hml hv
  obtain ⟨rfl, hsz, hP, hK, hD0⟩ := hv
  have hx := B.exec
  have hb := B.bytes
  have hr := B.returns
  have hts := atoms_spec (ws := wsX4_isServer) B.pre
  have hown : s.vm.findClass RX4 = some m.cls := findClass_of_methodNamed B.named
  have hlocks := B.notSynchronized
  subst hsz
  have hA : ∀ q : Nat, s.heap.size ≤ q → va_A [] s.heap.size q := fun q h => Or.inr h
  have hD := hD0
  generalize va_A [] s.heap.size = A at hA ⊢
  have hS : va_S A s.heap s.heap [] := va_S.rf
  have hP : va_P (dC, dI) vwCl (gW h0 R C I F) s.heap := hP
  have hnsI : (nI ns).toInt = (ns : Int) := nI_toInt (by omega)
  have hl := lv_entry ([.ref h0, .int k0]) (n := 2) (Nat.le_of_ble_eq_true rfl)
  rw [lg_entry_eq]
  generalize (lg_sl ([.ref h0, .int k0]) ++ List.replicate (2 - (lg_sl ([.ref h0, .int k0])).length) Slot.unset).toArray = ls at hl ⊢
  have hl : lv_has ls 2 [(0, .ref h0), (1, .int k0)] := hl
  refine lv_iload_n hx hb dX4_isServer_0 rfl (lv_at hl 1 rfl) ?_
  refine lv_aload_n hx hb dX4_isServer_1 rfl (lv_at hl 0 rfl) ?_
  refine va_get (D := (dC, dI)) (ci := 5) (v := .int (I 2)) (C := RX4) (T := TX4) (N := 43) hx hb hts (fun _ h => List.mem_cons_of_mem _ (List.mem_append_right _ h)) hown hK hP 0 rfl rfl 2 (by decide) (hts (.fieldLink RX4 114 "FrontDoorModel" "servers" "I") (by decide +kernel)) (fun _ h9 => h9) rfl dX4_isServer_2 ?_
  refine lv_topi (fun x_1 ex_1 => ?_)
  obtain rfl : x_1 = (nI ns) := ex_1.trans hns
  have hPc := hP.sub (ws' := []) [] rfl
  have hDc := hD.sub (ws' := []) [] (by decide) rfl
  have hKc := hK.sub (tys' := []) [] rfl
  have hFc := pz_f hA hS
  refine va_calli (va_runS (As := [.int k0, .int (nI ns)]) (rest := []) ⟨hx, hb, hml, hown, hts⟩ (m_X4_isIn l dC dI k0 (nI ns) s.heap.size) (va_cwS 2 hts gX4_isServer_X4_isIn rfl rfl rfl (by decide +kernel) ⟨Nat.le_of_ble_eq_true rfl, Nat.le_of_ble_eq_true rfl⟩) ⟨pz_blind, fun U hU hW => ⟨rfl, pz_at hPc hKc hDc hU hW⟩⟩ rfl rfl hl.1 rfl (lv_room (Nat.le_of_ble_eq_true rfl)) dX4_isServer_5 ⟨Nat.le_of_ble_eq_true rfl, Nat.le_of_ble_eq_true rfl⟩) hS (fun q _ h => hFc q h) hFc (fun r_2 u t H locs ht hvm hw hB hz1 hk1 hS => ?_)
  have hP := pz_keep hP hk1
  rcases hw with ⟨f_2_0, f_2_1, hr9⟩ | ⟨f_2_0, hr9⟩
  · skip
    have hr9 : r_2 = 1 := hr9
    subst hr9
    have f_2_0 : 0 ≤ k0.toInt := pz_id f_2_0
    have f_2_1 : k0.toInt < (nI ns).toInt := pz_id f_2_1
    exact W.zret (v := 1) hx hb hr rfl (fun t ht hW => ⟨⟨1, (), rfl, (Or.inl (⟨(by omega), (by omega), rfl⟩)), trivial⟩, hS.F ht⟩) hS.2.2 dX4_isServer_8
  · skip
    have hr9 : r_2 = 0 := hr9
    subst hr9
    have f_2_0 : (k0.toInt < 0 ∨ (nI ns).toInt ≤ k0.toInt) := pz_id f_2_0
    exact W.zret (v := 0) hx hb hr rfl (fun t ht hW => ⟨⟨0, (), rfl, (Or.inr (⟨(by omega), rfl⟩)), trivial⟩, hS.F ht⟩) hS.2.2 dX4_isServer_8

set_option maxHeartbeats 40000000 in
set_option maxRecDepth 100000 in
theorem m_X4_isCall (l : Launch) (dC : Nat → ClassId) (dI : Nat → Nat → Nat) (h0 : Nat) (R : Nat → Nat) (C : Nat → ClassId) (I : Nat → Int32) (F : Nat → Nat → Int32) (nc : Nat) (k0 : Int32) (sz : Nat) (hnc : I 3 = nI nc) (hbc : nc ≤ 200) : Met l yX4_isCall wsX4_isCall ({ frames := 1, cells := 0, slots := 0, locals := 21 }) (va_Pc [.ref h0, .int k0] (pzPre (dC, dI) vwCl (gW h0 R C I F) (gT C) sz)) (va_Qi (fun (r : Int32) (_ : Unit) => (0 ≤ k0.toInt ∧ k0.toInt < (nI nc).toInt ∧ r = 1) ∨ ((k0.toInt < 0 ∨ (nI nc).toInt ≤ k0.toInt) ∧ r = 0)) (fun _ _ => True) (va_A [] sz)) 0 0 (va_A [] sz) := by
  refine Met.ofW (cc := cX4_isCall) (maxL := 2) (ret := (some .boolean)) (by decide) rfl ?_
  intro p e s m args below meth c s₁ B hml hv
  obtain ⟨rfl, hsz, hP, hK, hD0⟩ := hv
  have hx := B.exec
  have hb := B.bytes
  have hr := B.returns
  have hts := atoms_spec (ws := wsX4_isCall) B.pre
  have hown : s.vm.findClass RX4 = some m.cls := findClass_of_methodNamed B.named
  have hlocks := B.notSynchronized
  subst hsz
  have hA : ∀ q : Nat, s.heap.size ≤ q → va_A [] s.heap.size q := fun q h => Or.inr h
  have hD := hD0
  generalize va_A [] s.heap.size = A at hA ⊢
  have hS : va_S A s.heap s.heap [] := va_S.rf
  have hP : va_P (dC, dI) vwCl (gW h0 R C I F) s.heap := hP
  have hncI : (nI nc).toInt = (nc : Int) := nI_toInt (by omega)
  have hl := lv_entry ([.ref h0, .int k0]) (n := 2) (Nat.le_of_ble_eq_true rfl)
  rw [lg_entry_eq]
  generalize (lg_sl ([.ref h0, .int k0]) ++ List.replicate (2 - (lg_sl ([.ref h0, .int k0])).length) Slot.unset).toArray = ls at hl ⊢
  have hl : lv_has ls 2 [(0, .ref h0), (1, .int k0)] := hl
  refine lv_iload_n hx hb dX4_isCall_0 rfl (lv_at hl 1 rfl) ?_
  refine lv_aload_n hx hb dX4_isCall_1 rfl (lv_at hl 0 rfl) ?_
  refine va_get (D := (dC, dI)) (ci := 5) (v := .int (I 3)) (C := RX4) (T := TX4) (N := 43) hx hb hts (fun _ h => List.mem_cons_of_mem _ (List.mem_append_right _ h)) hown hK hP 0 rfl rfl 3 (by decide) (hts (.fieldLink RX4 121 "FrontDoorModel" "calls" "I") (by decide +kernel)) (fun _ h9 => h9) rfl dX4_isCall_2 ?_
  refine lv_topi (fun x_1 ex_1 => ?_)
  obtain rfl : x_1 = (nI nc) := ex_1.trans hnc
  have hPc := hP.sub (ws' := []) [] rfl
  have hDc := hD.sub (ws' := []) [] (by decide) rfl
  have hKc := hK.sub (tys' := []) [] rfl
  have hFc := pz_f hA hS
  refine va_calli (va_runS (As := [.int k0, .int (nI nc)]) (rest := []) ⟨hx, hb, hml, hown, hts⟩ (m_X4_isIn l dC dI k0 (nI nc) s.heap.size) (va_cwS 2 hts gX4_isCall_X4_isIn rfl rfl rfl (by decide +kernel) ⟨Nat.le_of_ble_eq_true rfl, Nat.le_of_ble_eq_true rfl⟩) ⟨pz_blind, fun U hU hW => ⟨rfl, pz_at hPc hKc hDc hU hW⟩⟩ rfl rfl hl.1 rfl (lv_room (Nat.le_of_ble_eq_true rfl)) dX4_isCall_5 ⟨Nat.le_of_ble_eq_true rfl, Nat.le_of_ble_eq_true rfl⟩) hS (fun q _ h => hFc q h) hFc (fun r_2 u t H locs ht hvm hw hB hz1 hk1 hS => ?_)
  have hP := pz_keep hP hk1
  rcases hw with ⟨f_2_0, f_2_1, hr9⟩ | ⟨f_2_0, hr9⟩
  · skip
    have hr9 : r_2 = 1 := hr9
    subst hr9
    have f_2_0 : 0 ≤ k0.toInt := pz_id f_2_0
    have f_2_1 : k0.toInt < (nI nc).toInt := pz_id f_2_1
    exact W.zret (v := 1) hx hb hr rfl (fun t ht hW => ⟨⟨1, (), rfl, (Or.inl (⟨(by omega), (by omega), rfl⟩)), trivial⟩, hS.F ht⟩) hS.2.2 dX4_isCall_8
  · skip
    have hr9 : r_2 = 0 := hr9
    subst hr9
    have f_2_0 : (k0.toInt < 0 ∨ (nI nc).toInt ≤ k0.toInt) := pz_id f_2_0
    exact W.zret (v := 0) hx hb hr rfl (fun t ht hW => ⟨⟨0, (), rfl, (Or.inr (⟨(by omega), rfl⟩)), trivial⟩, hS.F ht⟩) hS.2.2 dX4_isCall_8

set_option maxHeartbeats 40000000 in
set_option maxRecDepth 100000 in
theorem m_X4_refuse1 (l : Launch) (dC : Nat → ClassId) (dI : Nat → Nat → Nat) (h0 : Nat) (R : Nat → Nat) (C : Nat → ClassId) (I : Nat → Int32) (F : Nat → Nat → Int32) (sz : Nat) : Met l yX4_refuse wsX4_refuse ({ frames := 0, cells := 0, slots := 0, locals := 0 }) (va_Pc [.ref h0, .int (-1)] (pzPre (dC, dI) vwCl (gW h0 R C I F) (gT C) sz)) (va_Qi (fun (r : Int32) (u : (Nat → Int32) × (Nat → Nat → Int32)) => r = (-1) ∧ u.1 = I ∧ ∀ k, k ≠ 0 → u.2 k = F k) (fun (u : (Nat → Int32) × (Nat → Nat → Int32)) (t : State) => va_P (dC, dI) vwCl (gW h0 R C u.1 u.2) t.heap ∧ va_K (dC, dI) vwCl (gT C) t ∧ va_D (va_A (gW h0 R C I F) sz) (gW h0 R C u.1 u.2)) (va_A (gW h0 R C I F) sz)) 0 0 (va_A (gW h0 R C I F) sz) := by
  refine Met.ofW (cc := cX4_refuse) (maxL := 2) (ret := (some .int)) (by decide) rfl ?_
  intro p e s m args below meth c s₁ B hml hv
  obtain ⟨rfl, hsz, hP, hK, hD0⟩ := hv
  have hx := B.exec
  have hb := B.bytes
  have hr := B.returns
  have hts := atoms_spec (ws := wsX4_refuse) B.pre
  have hown : s.vm.findClass RX4 = some m.cls := findClass_of_methodNamed B.named
  have hlocks := B.notSynchronized
  subst hsz
  have hD := hD0.self (sz := s.heap.size)
  generalize hAe : va_A (gW h0 R C I F) s.heap.size = A at hD ⊢
  have hA : ∀ q : Nat, s.heap.size ≤ q → A q := fun q h => by rw [← hAe]; exact Or.inr h
  have hS : va_S A s.heap s.heap [] := va_S.rf
  have hP : va_P (dC, dI) vwCl (gW h0 R C I F) s.heap := hP
  have hl := lv_entry ([.ref h0, .int (-1)]) (n := 2) (Nat.le_of_ble_eq_true rfl)
  rw [lg_entry_eq]
  generalize (lg_sl ([.ref h0, .int (-1)]) ++ List.replicate (2 - (lg_sl ([.ref h0, .int (-1)])).length) Slot.unset).toArray = ls at hl ⊢
  have hl : lv_has ls 2 [(0, .ref h0), (1, .int (-1))] := hl
  refine lv_aload_n hx hb dX4_refuse_0 rfl (lv_at hl 0 rfl) ?_
  refine va_get (D := (dC, dI)) (ci := 5) (v := .ref (R 0)) (C := RX4) (T := TX4) (N := 43) hx hb hts (fun _ h => List.mem_cons_of_mem _ (List.mem_append_right _ h)) hown hK hP 0 rfl rfl 0 (by decide) (hts (.fieldLink RX4 7 "FrontDoorModel" "refusals" "[I") (by decide +kernel)) (fun _ h9 => h9) rfl dX4_refuse_1 ?_
  refine lv_iload_n hx hb dX4_refuse_4 rfl (lv_at hl 1 rfl) ?_
  refine lv_ineg hx hb dX4_refuse_5 ?_
  refine lv_topi (fun x_1 ex_1 => ?_)
  obtain rfl : x_1 = 1 := ex_1.trans (by decide)
  refine lv_dup2_11 hx hb dX4_refuse_6 rfl rfl ?_
  refine va_iald hx hb hK hP 1 0 rfl rfl (by unfold vp_in; decide) dX4_refuse_7 ?_
  refine lv_topi (fun x_2 ex_2 => ?_)
  replace ex_2 : x_2 = (F 0) (Int32.toNatClampNeg 1) := ex_2
  refine lv_iconst (v := 1) hx hb dX4_refuse_8 (by decide) ?_
  refine lv_iadd hx hb dX4_refuse_9 ?_
  refine lv_topi (fun x_3 ex_3 => ?_)
  refine va_iast hx hb hK hP hD hS 1 0 rfl rfl (by unfold vp_in; decide) dX4_refuse_10 (fun H locs hP hD hS => ?_)
  have hP : va_P (dC, dI) vwCl (gW h0 R C I (va_up F 0 (upd (F 0) (Int32.toNatClampNeg 1) x_3))) H := hP
  have hD : va_D A (gW h0 R C I (va_up F 0 (upd (F 0) (Int32.toNatClampNeg 1) x_3))) := hD
  refine lv_iload_n hx hb dX4_refuse_11 rfl (lv_at hl 1 rfl) ?_
  exact W.iret (v := (-1)) hx hb hr (fun t ht hW => ⟨⟨(-1), (I, (va_up F 0 (upd (F 0) (Int32.toNatClampNeg 1) x_3))), rfl, ⟨rfl, rfl, fun k hk => va_up_ne _ _ hk⟩, by rw [ht]; exact hP, va_K.moved hW.alike hK, hD⟩, hS.F ht⟩) hS.2.2 dX4_refuse_12

set_option maxHeartbeats 40000000 in
set_option maxRecDepth 100000 in
theorem m_X4_refuse2 (l : Launch) (dC : Nat → ClassId) (dI : Nat → Nat → Nat) (h0 : Nat) (R : Nat → Nat) (C : Nat → ClassId) (I : Nat → Int32) (F : Nat → Nat → Int32) (sz : Nat) : Met l yX4_refuse wsX4_refuse ({ frames := 0, cells := 0, slots := 0, locals := 0 }) (va_Pc [.ref h0, .int (-2)] (pzPre (dC, dI) vwCl (gW h0 R C I F) (gT C) sz)) (va_Qi (fun (r : Int32) (u : (Nat → Int32) × (Nat → Nat → Int32)) => r = (-2) ∧ u.1 = I ∧ ∀ k, k ≠ 0 → u.2 k = F k) (fun (u : (Nat → Int32) × (Nat → Nat → Int32)) (t : State) => va_P (dC, dI) vwCl (gW h0 R C u.1 u.2) t.heap ∧ va_K (dC, dI) vwCl (gT C) t ∧ va_D (va_A (gW h0 R C I F) sz) (gW h0 R C u.1 u.2)) (va_A (gW h0 R C I F) sz)) 0 0 (va_A (gW h0 R C I F) sz) := by
  refine Met.ofW (cc := cX4_refuse) (maxL := 2) (ret := (some .int)) (by decide) rfl ?_
  intro p e s m args below meth c s₁ B hml hv
  obtain ⟨rfl, hsz, hP, hK, hD0⟩ := hv
  have hx := B.exec
  have hb := B.bytes
  have hr := B.returns
  have hts := atoms_spec (ws := wsX4_refuse) B.pre
  have hown : s.vm.findClass RX4 = some m.cls := findClass_of_methodNamed B.named
  have hlocks := B.notSynchronized
  subst hsz
  have hD := hD0.self (sz := s.heap.size)
  generalize hAe : va_A (gW h0 R C I F) s.heap.size = A at hD ⊢
  have hA : ∀ q : Nat, s.heap.size ≤ q → A q := fun q h => by rw [← hAe]; exact Or.inr h
  have hS : va_S A s.heap s.heap [] := va_S.rf
  have hP : va_P (dC, dI) vwCl (gW h0 R C I F) s.heap := hP
  have hl := lv_entry ([.ref h0, .int (-2)]) (n := 2) (Nat.le_of_ble_eq_true rfl)
  rw [lg_entry_eq]
  generalize (lg_sl ([.ref h0, .int (-2)]) ++ List.replicate (2 - (lg_sl ([.ref h0, .int (-2)])).length) Slot.unset).toArray = ls at hl ⊢
  have hl : lv_has ls 2 [(0, .ref h0), (1, .int (-2))] := hl
  refine lv_aload_n hx hb dX4_refuse_0 rfl (lv_at hl 0 rfl) ?_
  refine va_get (D := (dC, dI)) (ci := 5) (v := .ref (R 0)) (C := RX4) (T := TX4) (N := 43) hx hb hts (fun _ h => List.mem_cons_of_mem _ (List.mem_append_right _ h)) hown hK hP 0 rfl rfl 0 (by decide) (hts (.fieldLink RX4 7 "FrontDoorModel" "refusals" "[I") (by decide +kernel)) (fun _ h9 => h9) rfl dX4_refuse_1 ?_
  refine lv_iload_n hx hb dX4_refuse_4 rfl (lv_at hl 1 rfl) ?_
  refine lv_ineg hx hb dX4_refuse_5 ?_
  refine lv_topi (fun x_1 ex_1 => ?_)
  obtain rfl : x_1 = 2 := ex_1.trans (by decide)
  refine lv_dup2_11 hx hb dX4_refuse_6 rfl rfl ?_
  refine va_iald hx hb hK hP 1 0 rfl rfl (by unfold vp_in; decide) dX4_refuse_7 ?_
  refine lv_topi (fun x_2 ex_2 => ?_)
  replace ex_2 : x_2 = (F 0) (Int32.toNatClampNeg 2) := ex_2
  refine lv_iconst (v := 1) hx hb dX4_refuse_8 (by decide) ?_
  refine lv_iadd hx hb dX4_refuse_9 ?_
  refine lv_topi (fun x_3 ex_3 => ?_)
  refine va_iast hx hb hK hP hD hS 1 0 rfl rfl (by unfold vp_in; decide) dX4_refuse_10 (fun H locs hP hD hS => ?_)
  have hP : va_P (dC, dI) vwCl (gW h0 R C I (va_up F 0 (upd (F 0) (Int32.toNatClampNeg 2) x_3))) H := hP
  have hD : va_D A (gW h0 R C I (va_up F 0 (upd (F 0) (Int32.toNatClampNeg 2) x_3))) := hD
  refine lv_iload_n hx hb dX4_refuse_11 rfl (lv_at hl 1 rfl) ?_
  exact W.iret (v := (-2)) hx hb hr (fun t ht hW => ⟨⟨(-2), (I, (va_up F 0 (upd (F 0) (Int32.toNatClampNeg 2) x_3))), rfl, ⟨rfl, rfl, fun k hk => va_up_ne _ _ hk⟩, by rw [ht]; exact hP, va_K.moved hW.alike hK, hD⟩, hS.F ht⟩) hS.2.2 dX4_refuse_12

set_option maxHeartbeats 40000000 in
set_option maxRecDepth 100000 in
theorem m_X4_refuse3 (l : Launch) (dC : Nat → ClassId) (dI : Nat → Nat → Nat) (h0 : Nat) (R : Nat → Nat) (C : Nat → ClassId) (I : Nat → Int32) (F : Nat → Nat → Int32) (sz : Nat) : Met l yX4_refuse wsX4_refuse ({ frames := 0, cells := 0, slots := 0, locals := 0 }) (va_Pc [.ref h0, .int (-3)] (pzPre (dC, dI) vwCl (gW h0 R C I F) (gT C) sz)) (va_Qi (fun (r : Int32) (u : (Nat → Int32) × (Nat → Nat → Int32)) => r = (-3) ∧ u.1 = I ∧ ∀ k, k ≠ 0 → u.2 k = F k) (fun (u : (Nat → Int32) × (Nat → Nat → Int32)) (t : State) => va_P (dC, dI) vwCl (gW h0 R C u.1 u.2) t.heap ∧ va_K (dC, dI) vwCl (gT C) t ∧ va_D (va_A (gW h0 R C I F) sz) (gW h0 R C u.1 u.2)) (va_A (gW h0 R C I F) sz)) 0 0 (va_A (gW h0 R C I F) sz) := by
  refine Met.ofW (cc := cX4_refuse) (maxL := 2) (ret := (some .int)) (by decide) rfl ?_
  intro p e s m args below meth c s₁ B hml hv
  obtain ⟨rfl, hsz, hP, hK, hD0⟩ := hv
  have hx := B.exec
  have hb := B.bytes
  have hr := B.returns
  have hts := atoms_spec (ws := wsX4_refuse) B.pre
  have hown : s.vm.findClass RX4 = some m.cls := findClass_of_methodNamed B.named
  have hlocks := B.notSynchronized
  subst hsz
  have hD := hD0.self (sz := s.heap.size)
  generalize hAe : va_A (gW h0 R C I F) s.heap.size = A at hD ⊢
  have hA : ∀ q : Nat, s.heap.size ≤ q → A q := fun q h => by rw [← hAe]; exact Or.inr h
  have hS : va_S A s.heap s.heap [] := va_S.rf
  have hP : va_P (dC, dI) vwCl (gW h0 R C I F) s.heap := hP
  have hl := lv_entry ([.ref h0, .int (-3)]) (n := 2) (Nat.le_of_ble_eq_true rfl)
  rw [lg_entry_eq]
  generalize (lg_sl ([.ref h0, .int (-3)]) ++ List.replicate (2 - (lg_sl ([.ref h0, .int (-3)])).length) Slot.unset).toArray = ls at hl ⊢
  have hl : lv_has ls 2 [(0, .ref h0), (1, .int (-3))] := hl
  refine lv_aload_n hx hb dX4_refuse_0 rfl (lv_at hl 0 rfl) ?_
  refine va_get (D := (dC, dI)) (ci := 5) (v := .ref (R 0)) (C := RX4) (T := TX4) (N := 43) hx hb hts (fun _ h => List.mem_cons_of_mem _ (List.mem_append_right _ h)) hown hK hP 0 rfl rfl 0 (by decide) (hts (.fieldLink RX4 7 "FrontDoorModel" "refusals" "[I") (by decide +kernel)) (fun _ h9 => h9) rfl dX4_refuse_1 ?_
  refine lv_iload_n hx hb dX4_refuse_4 rfl (lv_at hl 1 rfl) ?_
  refine lv_ineg hx hb dX4_refuse_5 ?_
  refine lv_topi (fun x_1 ex_1 => ?_)
  obtain rfl : x_1 = 3 := ex_1.trans (by decide)
  refine lv_dup2_11 hx hb dX4_refuse_6 rfl rfl ?_
  refine va_iald hx hb hK hP 1 0 rfl rfl (by unfold vp_in; decide) dX4_refuse_7 ?_
  refine lv_topi (fun x_2 ex_2 => ?_)
  replace ex_2 : x_2 = (F 0) (Int32.toNatClampNeg 3) := ex_2
  refine lv_iconst (v := 1) hx hb dX4_refuse_8 (by decide) ?_
  refine lv_iadd hx hb dX4_refuse_9 ?_
  refine lv_topi (fun x_3 ex_3 => ?_)
  refine va_iast hx hb hK hP hD hS 1 0 rfl rfl (by unfold vp_in; decide) dX4_refuse_10 (fun H locs hP hD hS => ?_)
  have hP : va_P (dC, dI) vwCl (gW h0 R C I (va_up F 0 (upd (F 0) (Int32.toNatClampNeg 3) x_3))) H := hP
  have hD : va_D A (gW h0 R C I (va_up F 0 (upd (F 0) (Int32.toNatClampNeg 3) x_3))) := hD
  refine lv_iload_n hx hb dX4_refuse_11 rfl (lv_at hl 1 rfl) ?_
  exact W.iret (v := (-3)) hx hb hr (fun t ht hW => ⟨⟨(-3), (I, (va_up F 0 (upd (F 0) (Int32.toNatClampNeg 3) x_3))), rfl, ⟨rfl, rfl, fun k hk => va_up_ne _ _ hk⟩, by rw [ht]; exact hP, va_K.moved hW.alike hK, hD⟩, hS.F ht⟩) hS.2.2 dX4_refuse_12

set_option maxHeartbeats 40000000 in
set_option maxRecDepth 100000 in
theorem m_X4_refuse4 (l : Launch) (dC : Nat → ClassId) (dI : Nat → Nat → Nat) (h0 : Nat) (R : Nat → Nat) (C : Nat → ClassId) (I : Nat → Int32) (F : Nat → Nat → Int32) (sz : Nat) : Met l yX4_refuse wsX4_refuse ({ frames := 0, cells := 0, slots := 0, locals := 0 }) (va_Pc [.ref h0, .int (-4)] (pzPre (dC, dI) vwCl (gW h0 R C I F) (gT C) sz)) (va_Qi (fun (r : Int32) (u : (Nat → Int32) × (Nat → Nat → Int32)) => r = (-4) ∧ u.1 = I ∧ ∀ k, k ≠ 0 → u.2 k = F k) (fun (u : (Nat → Int32) × (Nat → Nat → Int32)) (t : State) => va_P (dC, dI) vwCl (gW h0 R C u.1 u.2) t.heap ∧ va_K (dC, dI) vwCl (gT C) t ∧ va_D (va_A (gW h0 R C I F) sz) (gW h0 R C u.1 u.2)) (va_A (gW h0 R C I F) sz)) 0 0 (va_A (gW h0 R C I F) sz) := by
  refine Met.ofW (cc := cX4_refuse) (maxL := 2) (ret := (some .int)) (by decide) rfl ?_
  intro p e s m args below meth c s₁ B hml hv
  obtain ⟨rfl, hsz, hP, hK, hD0⟩ := hv
  have hx := B.exec
  have hb := B.bytes
  have hr := B.returns
  have hts := atoms_spec (ws := wsX4_refuse) B.pre
  have hown : s.vm.findClass RX4 = some m.cls := findClass_of_methodNamed B.named
  have hlocks := B.notSynchronized
  subst hsz
  have hD := hD0.self (sz := s.heap.size)
  generalize hAe : va_A (gW h0 R C I F) s.heap.size = A at hD ⊢
  have hA : ∀ q : Nat, s.heap.size ≤ q → A q := fun q h => by rw [← hAe]; exact Or.inr h
  have hS : va_S A s.heap s.heap [] := va_S.rf
  have hP : va_P (dC, dI) vwCl (gW h0 R C I F) s.heap := hP
  have hl := lv_entry ([.ref h0, .int (-4)]) (n := 2) (Nat.le_of_ble_eq_true rfl)
  rw [lg_entry_eq]
  generalize (lg_sl ([.ref h0, .int (-4)]) ++ List.replicate (2 - (lg_sl ([.ref h0, .int (-4)])).length) Slot.unset).toArray = ls at hl ⊢
  have hl : lv_has ls 2 [(0, .ref h0), (1, .int (-4))] := hl
  refine lv_aload_n hx hb dX4_refuse_0 rfl (lv_at hl 0 rfl) ?_
  refine va_get (D := (dC, dI)) (ci := 5) (v := .ref (R 0)) (C := RX4) (T := TX4) (N := 43) hx hb hts (fun _ h => List.mem_cons_of_mem _ (List.mem_append_right _ h)) hown hK hP 0 rfl rfl 0 (by decide) (hts (.fieldLink RX4 7 "FrontDoorModel" "refusals" "[I") (by decide +kernel)) (fun _ h9 => h9) rfl dX4_refuse_1 ?_
  refine lv_iload_n hx hb dX4_refuse_4 rfl (lv_at hl 1 rfl) ?_
  refine lv_ineg hx hb dX4_refuse_5 ?_
  refine lv_topi (fun x_1 ex_1 => ?_)
  obtain rfl : x_1 = 4 := ex_1.trans (by decide)
  refine lv_dup2_11 hx hb dX4_refuse_6 rfl rfl ?_
  refine va_iald hx hb hK hP 1 0 rfl rfl (by unfold vp_in; decide) dX4_refuse_7 ?_
  refine lv_topi (fun x_2 ex_2 => ?_)
  replace ex_2 : x_2 = (F 0) (Int32.toNatClampNeg 4) := ex_2
  refine lv_iconst (v := 1) hx hb dX4_refuse_8 (by decide) ?_
  refine lv_iadd hx hb dX4_refuse_9 ?_
  refine lv_topi (fun x_3 ex_3 => ?_)
  refine va_iast hx hb hK hP hD hS 1 0 rfl rfl (by unfold vp_in; decide) dX4_refuse_10 (fun H locs hP hD hS => ?_)
  have hP : va_P (dC, dI) vwCl (gW h0 R C I (va_up F 0 (upd (F 0) (Int32.toNatClampNeg 4) x_3))) H := hP
  have hD : va_D A (gW h0 R C I (va_up F 0 (upd (F 0) (Int32.toNatClampNeg 4) x_3))) := hD
  refine lv_iload_n hx hb dX4_refuse_11 rfl (lv_at hl 1 rfl) ?_
  exact W.iret (v := (-4)) hx hb hr (fun t ht hW => ⟨⟨(-4), (I, (va_up F 0 (upd (F 0) (Int32.toNatClampNeg 4) x_3))), rfl, ⟨rfl, rfl, fun k hk => va_up_ne _ _ hk⟩, by rw [ht]; exact hP, va_K.moved hW.alike hK, hD⟩, hS.F ht⟩) hS.2.2 dX4_refuse_12

set_option maxHeartbeats 40000000 in
set_option maxRecDepth 100000 in
theorem m_X4_refuse6 (l : Launch) (dC : Nat → ClassId) (dI : Nat → Nat → Nat) (h0 : Nat) (R : Nat → Nat) (C : Nat → ClassId) (I : Nat → Int32) (F : Nat → Nat → Int32) (sz : Nat) : Met l yX4_refuse wsX4_refuse ({ frames := 0, cells := 0, slots := 0, locals := 0 }) (va_Pc [.ref h0, .int (-6)] (pzPre (dC, dI) vwCl (gW h0 R C I F) (gT C) sz)) (va_Qi (fun (r : Int32) (u : (Nat → Int32) × (Nat → Nat → Int32)) => r = (-6) ∧ u.1 = I ∧ ∀ k, k ≠ 0 → u.2 k = F k) (fun (u : (Nat → Int32) × (Nat → Nat → Int32)) (t : State) => va_P (dC, dI) vwCl (gW h0 R C u.1 u.2) t.heap ∧ va_K (dC, dI) vwCl (gT C) t ∧ va_D (va_A (gW h0 R C I F) sz) (gW h0 R C u.1 u.2)) (va_A (gW h0 R C I F) sz)) 0 0 (va_A (gW h0 R C I F) sz) := by
  refine Met.ofW (cc := cX4_refuse) (maxL := 2) (ret := (some .int)) (by decide) rfl ?_
  intro p e s m args below meth c s₁ B hml hv
  obtain ⟨rfl, hsz, hP, hK, hD0⟩ := hv
  have hx := B.exec
  have hb := B.bytes
  have hr := B.returns
  have hts := atoms_spec (ws := wsX4_refuse) B.pre
  have hown : s.vm.findClass RX4 = some m.cls := findClass_of_methodNamed B.named
  have hlocks := B.notSynchronized
  subst hsz
  have hD := hD0.self (sz := s.heap.size)
  generalize hAe : va_A (gW h0 R C I F) s.heap.size = A at hD ⊢
  have hA : ∀ q : Nat, s.heap.size ≤ q → A q := fun q h => by rw [← hAe]; exact Or.inr h
  have hS : va_S A s.heap s.heap [] := va_S.rf
  have hP : va_P (dC, dI) vwCl (gW h0 R C I F) s.heap := hP
  have hl := lv_entry ([.ref h0, .int (-6)]) (n := 2) (Nat.le_of_ble_eq_true rfl)
  rw [lg_entry_eq]
  generalize (lg_sl ([.ref h0, .int (-6)]) ++ List.replicate (2 - (lg_sl ([.ref h0, .int (-6)])).length) Slot.unset).toArray = ls at hl ⊢
  have hl : lv_has ls 2 [(0, .ref h0), (1, .int (-6))] := hl
  refine lv_aload_n hx hb dX4_refuse_0 rfl (lv_at hl 0 rfl) ?_
  refine va_get (D := (dC, dI)) (ci := 5) (v := .ref (R 0)) (C := RX4) (T := TX4) (N := 43) hx hb hts (fun _ h => List.mem_cons_of_mem _ (List.mem_append_right _ h)) hown hK hP 0 rfl rfl 0 (by decide) (hts (.fieldLink RX4 7 "FrontDoorModel" "refusals" "[I") (by decide +kernel)) (fun _ h9 => h9) rfl dX4_refuse_1 ?_
  refine lv_iload_n hx hb dX4_refuse_4 rfl (lv_at hl 1 rfl) ?_
  refine lv_ineg hx hb dX4_refuse_5 ?_
  refine lv_topi (fun x_1 ex_1 => ?_)
  obtain rfl : x_1 = 6 := ex_1.trans (by decide)
  refine lv_dup2_11 hx hb dX4_refuse_6 rfl rfl ?_
  refine va_iald hx hb hK hP 1 0 rfl rfl (by unfold vp_in; decide) dX4_refuse_7 ?_
  refine lv_topi (fun x_2 ex_2 => ?_)
  replace ex_2 : x_2 = (F 0) (Int32.toNatClampNeg 6) := ex_2
  refine lv_iconst (v := 1) hx hb dX4_refuse_8 (by decide) ?_
  refine lv_iadd hx hb dX4_refuse_9 ?_
  refine lv_topi (fun x_3 ex_3 => ?_)
  refine va_iast hx hb hK hP hD hS 1 0 rfl rfl (by unfold vp_in; decide) dX4_refuse_10 (fun H locs hP hD hS => ?_)
  have hP : va_P (dC, dI) vwCl (gW h0 R C I (va_up F 0 (upd (F 0) (Int32.toNatClampNeg 6) x_3))) H := hP
  have hD : va_D A (gW h0 R C I (va_up F 0 (upd (F 0) (Int32.toNatClampNeg 6) x_3))) := hD
  refine lv_iload_n hx hb dX4_refuse_11 rfl (lv_at hl 1 rfl) ?_
  exact W.iret (v := (-6)) hx hb hr (fun t ht hW => ⟨⟨(-6), (I, (va_up F 0 (upd (F 0) (Int32.toNatClampNeg 6) x_3))), rfl, ⟨rfl, rfl, fun k hk => va_up_ne _ _ hk⟩, by rw [ht]; exact hP, va_K.moved hW.alike hK, hD⟩, hS.F ht⟩) hS.2.2 dX4_refuse_12

set_option maxHeartbeats 40000000 in
set_option maxRecDepth 100000 in
theorem m_X4_rule (l : Launch) (dC : Nat → ClassId) (dI : Nat → Nat → Nat) (h0 : Nat) (R : Nat → Nat) (C : Nat → ClassId) (I : Nat → Int32) (F : Nat → Nat → Int32) (a1 : Int32) (sz : Nat) : Met l yX4_rule wsX4_rule ({ frames := 1, cells := 0, slots := 0, locals := 21 }) (va_Pc [.ref h0, .int a1] (pzPre (dC, dI) vwCl (gW h0 R C I F) (gT C) sz)) (va_Qi (fun (r : Int32) (u : (Nat → Int32) × (Nat → Nat → Int32)) => (if a1.toInt < 0 ∨ 3 < a1.toInt then r = -1 ∧ u.1 = I else r = I 4 ∧ u.1 = va_up I 4 a1) ∧ ∀ k, k ≠ 0 → u.2 k = F k) (fun (u : (Nat → Int32) × (Nat → Nat → Int32)) (t : State) => va_P (dC, dI) vwCl (gW h0 R C u.1 u.2) t.heap ∧ va_K (dC, dI) vwCl (gT C) t ∧ va_D (va_A (gW h0 R C I F) sz) (gW h0 R C u.1 u.2)) (va_A (gW h0 R C I F) sz)) 0 0 (va_A (gW h0 R C I F) sz) := by
  refine Met.ofW (cc := cX4_rule) (maxL := 3) (ret := (some .int)) (by decide) rfl ?_
  intro p e s m args below meth c s₁ B hml hv
  obtain ⟨rfl, hsz, hP, hK, hD0⟩ := hv
  have hx := B.exec
  have hb := B.bytes
  have hr := B.returns
  have hts := atoms_spec (ws := wsX4_rule) B.pre
  have hown : s.vm.findClass RX4 = some m.cls := findClass_of_methodNamed B.named
  have hlocks := B.notSynchronized
  subst hsz
  have hD := hD0.self (sz := s.heap.size)
  generalize hAe : va_A (gW h0 R C I F) s.heap.size = A at hD ⊢
  have hA : ∀ q : Nat, s.heap.size ≤ q → A q := fun q h => by rw [← hAe]; exact Or.inr h
  have hS : va_S A s.heap s.heap [] := va_S.rf
  have hP : va_P (dC, dI) vwCl (gW h0 R C I F) s.heap := hP
  have hl := lv_entry ([.ref h0, .int a1]) (n := 3) (Nat.le_of_ble_eq_true rfl)
  rw [lg_entry_eq]
  generalize (lg_sl ([.ref h0, .int a1]) ++ List.replicate (3 - (lg_sl ([.ref h0, .int a1])).length) Slot.unset).toArray = ls at hl ⊢
  have hl : lv_has ls 3 [(0, .ref h0), (1, .int a1)] := hl
  refine lv_iload_n hx hb dX4_rule_0 rfl (lv_at hl 1 rfl) ?_
  refine lv_iconst (v := 4) hx hb dX4_rule_1 (by decide) ?_
  have hPc := hP.sub (ws' := []) [] rfl
  have hDc := hD.sub (ws' := []) [] (by decide) rfl
  have hKc := hK.sub (tys' := []) [] rfl
  have hFc := pz_f hA hS
  refine va_calli (va_runS (As := [.int a1, .int 4]) (rest := []) ⟨hx, hb, hml, hown, hts⟩ (m_X4_isIn l dC dI a1 4 s.heap.size) (va_cwS 2 hts gX4_rule_X4_isIn rfl rfl rfl (by decide +kernel) ⟨Nat.le_of_ble_eq_true rfl, Nat.le_of_ble_eq_true rfl⟩) ⟨pz_blind, fun U hU hW => ⟨rfl, pz_at hPc hKc hDc hU hW⟩⟩ rfl rfl hl.1 rfl (lv_room (Nat.le_of_ble_eq_true rfl)) dX4_rule_2 ⟨Nat.le_of_ble_eq_true rfl, Nat.le_of_ble_eq_true rfl⟩) hS (fun q _ h => hFc q h) hFc (fun r_1 u t H locs ht hvm hw hB hz1 hk1 hS => ?_)
  have hP := pz_keep hP hk1
  rcases hw with ⟨f_1_0, f_1_1, hr9⟩ | ⟨f_1_0, hr9⟩
  · skip
    have hr9 : r_1 = 1 := hr9
    subst hr9
    have f_1_0 : 0 ≤ a1.toInt := pz_id f_1_0
    have f_1_1 : a1.toInt < 4 := f_1_1
    refine lv_if_ne (tgt := 14) hx hb dX4_rule_5 (by decide) (fun c_2 => ?_) (fun c_2 => absurd c_2 (by decide))
    refine lv_aload_n hx hb dX4_rule_14 rfl (lv_at hl 0 rfl) ?_
    refine va_get (D := (dC, dI)) (ci := 5) (v := .int (I 4)) (C := RX4) (T := TX4) (N := 43) hx hb hts (fun _ h => List.mem_cons_of_mem _ (List.mem_append_right _ h)) hown hK hP 0 rfl rfl 4 (by decide) (hts (.fieldLink RX4 136 "FrontDoorModel" "rule" "I") (by decide +kernel)) (fun _ h9 => h9) rfl dX4_rule_15 ?_
    refine lv_istore_n (lv' := [(2, .int (I 4)), (0, .ref h0), (1, .int a1)]) hx hb dX4_rule_18 rfl hl (by decide) rfl (fun ls hl => ?_)
    refine lv_aload_n hx hb dX4_rule_19 rfl (lv_at hl 1 rfl) ?_
    refine lv_iload_n hx hb dX4_rule_20 rfl (lv_at hl 2 rfl) ?_
    refine va_put (D := (dC, dI)) (ci := 5) (v := .int a1) (ty := .int) (C := RX4) (T := TX4) (N := 43) hx hb hts (fun _ h => List.mem_cons_of_mem _ (List.mem_append_right _ h)) tyX4 tyX4_ok nmX4 hown hK hP hD hS 0 rfl rfl 4 (by decide) (hts (.fieldLink RX4 136 "FrontDoorModel" "rule" "I") (by decide +kernel)) (fun _ h9 => h9) rfl (by decide +kernel) rfl rfl (Nat.le_of_ble_eq_true rfl) dX4_rule_21 (fun H locs hP hD hS => ?_)
    have hP : va_P (dC, dI) vwCl (gW h0 R C (va_up I 4 a1) F) H := hP
    have hD : va_D A (gW h0 R C (va_up I 4 a1) F) := hD
    refine lv_iload_n hx hb dX4_rule_24 rfl (lv_at hl 0 rfl) ?_
    exact W.iret (v := (I 4)) hx hb hr (fun t ht hW => ⟨⟨(I 4), ((va_up I 4 a1), F), rfl, (by first | (refine ⟨?_, fun k hk => rfl⟩; (repeat' split) <;> first | exact ⟨rfl, rfl⟩ | (exfalso; omega)) | (obtain ⟨-, w1, w2⟩ := hw; subst w1; refine ⟨?_, w2⟩; (repeat' split) <;> first | exact ⟨rfl, rfl⟩ | (exfalso; omega))), by rw [ht]; exact hP, va_K.moved hW.alike hK, hD⟩, hS.F ht⟩) hS.2.2 dX4_rule_25
  · skip
    have hr9 : r_1 = 0 := hr9
    subst hr9
    have f_1_0 : (a1.toInt < 0 ∨ 4 ≤ a1.toInt) := f_1_0
    refine lv_if_ne (tgt := 14) hx hb dX4_rule_5 (by decide) (fun c_3 => absurd c_3 (by decide)) (fun c_3 => ?_)
    refine lv_aload_n hx hb dX4_rule_8 rfl (lv_at hl 0 rfl) ?_
    refine lv_iconst (v := (-1)) hx hb dX4_rule_9 (by decide) ?_
    have hPc := hP.sub (ws' := (gW h0 R C I F)) [0, 1, 2, 3, 4, 5, 6, 7, 8, 9, 10, 11, 12, 13, 14, 15, 16, 17, 18, 19, 20, 21, 22, 23, 24, 25, 26, 27, 28, 29, 30, 31, 32] rfl
    have hDc := hD.sub (ws' := (gW h0 R C I F)) [0, 1, 2, 3, 4, 5, 6, 7, 8, 9, 10, 11, 12, 13, 14, 15, 16, 17, 18, 19, 20, 21, 22, 23, 24, 25, 26, 27, 28, 29, 30, 31, 32] (by decide) rfl
    have hKc := hK.sub (tys' := (gT C)) [0, 1, 2, 3, 4, 5, 6, 7, 8, 9, 10, 11, 12, 13, 14, 15, 16, 17, 18, 19, 20, 21, 22, 23, 24, 25, 26, 27, 28, 29, 30, 31] rfl
    have hFc := va_free (wc := (gW h0 R C I F)) hD hS hA [0, 1, 2, 3, 4, 5, 6, 7, 8, 9, 10, 11, 12, 13, 14, 15, 16, 17, 18, 19, 20, 21, 22, 23, 24, 25, 26, 27, 28, 29, 30, 31, 32] rfl
    refine va_calli (va_runV (As := [.int (-1)]) (rest := []) ⟨hx, hb, hml, hown, hts⟩ (m_X4_refuse1 l dC dI h0 R C I F H.size) (cwV 1 hts gX4_rule_X4_refuse rfl rfl rfl (by decide +kernel) ⟨Nat.le_of_ble_eq_true rfl, Nat.le_of_ble_eq_true rfl⟩) ⟨pz_blind, va_recv hKc hPc (ci := 5) (q0 := 0) rfl rfl, fun U hU hW => ⟨rfl, pz_at hPc hKc hDc hU hW⟩⟩ rfl rfl hl.1 rfl (lv_room (Nat.le_of_ble_eq_true rfl)) dX4_rule_10 ⟨Nat.le_of_ble_eq_true rfl, Nat.le_of_ble_eq_true rfl⟩) hS (fun q _ h => hFc q h) hFc (fun r_4 u t H locs ht hvm hw hB hz1 hk1 hS => ?_)
    obtain ⟨I_4, F_4⟩ := u
    obtain ⟨hP1, hK1, hD1⟩ := hB
    rw [ht] at hP1
    try dsimp only at hw
    have hP := hP1
    have hD := hD1.weaken (fun _ _ _ h9 => hFc _ h9)
    have hP : va_P (dC, dI) vwCl (gW h0 R C I_4 F_4) H := hP
    have hD : va_D A (gW h0 R C I_4 F_4) := hD
    have hr8 : r_4 = (-1) := hw.1
    subst hr8
    exact W.iret (v := (-1)) hx hb hr (fun t ht hW => ⟨⟨(-1), (I_4, F_4), rfl, (by first | (refine ⟨?_, fun k hk => rfl⟩; (repeat' split) <;> first | exact ⟨rfl, rfl⟩ | (exfalso; omega)) | (obtain ⟨-, w1, w2⟩ := hw; subst w1; refine ⟨?_, w2⟩; (repeat' split) <;> first | exact ⟨rfl, rfl⟩ | (exfalso; omega))), by rw [ht]; exact hP, va_K.moved hW.alike hK, hD⟩, hS.F ht⟩) hS.2.2 dX4_rule_13

set_option maxHeartbeats 40000000 in
set_option maxRecDepth 100000 in
theorem m_X4_limit (l : Launch) (dC : Nat → ClassId) (dI : Nat → Nat → Nat) (h0 : Nat) (R : Nat → Nat) (C : Nat → ClassId) (I : Nat → Int32) (F : Nat → Nat → Int32) (a1 : Int32) (sz : Nat) : Met l yX4_limit wsX4_limit ({ frames := 1, cells := 0, slots := 0, locals := 21 }) (va_Pc [.ref h0, .int a1] (pzPre (dC, dI) vwCl (gW h0 R C I F) (gT C) sz)) (va_Qi (fun (r : Int32) (u : (Nat → Int32) × (Nat → Nat → Int32)) => (if a1.toInt < 1 then r = -4 ∧ u.1 = I else if 10 < a1.toInt then r = -6 ∧ u.1 = I else r = I 5 ∧ u.1 = va_up I 5 a1) ∧ ∀ k, k ≠ 0 → u.2 k = F k) (fun (u : (Nat → Int32) × (Nat → Nat → Int32)) (t : State) => va_P (dC, dI) vwCl (gW h0 R C u.1 u.2) t.heap ∧ va_K (dC, dI) vwCl (gT C) t ∧ va_D (va_A (gW h0 R C I F) sz) (gW h0 R C u.1 u.2)) (va_A (gW h0 R C I F) sz)) 0 0 (va_A (gW h0 R C I F) sz) := by
  refine Met.ofW (cc := cX4_limit) (maxL := 3) (ret := (some .int)) (by decide) rfl ?_
  intro p e s m args below meth c s₁ B hml hv
  obtain ⟨rfl, hsz, hP, hK, hD0⟩ := hv
  have hx := B.exec
  have hb := B.bytes
  have hr := B.returns
  have hts := atoms_spec (ws := wsX4_limit) B.pre
  have hown : s.vm.findClass RX4 = some m.cls := findClass_of_methodNamed B.named
  have hlocks := B.notSynchronized
  subst hsz
  have hD := hD0.self (sz := s.heap.size)
  generalize hAe : va_A (gW h0 R C I F) s.heap.size = A at hD ⊢
  have hA : ∀ q : Nat, s.heap.size ≤ q → A q := fun q h => by rw [← hAe]; exact Or.inr h
  have hS : va_S A s.heap s.heap [] := va_S.rf
  have hP : va_P (dC, dI) vwCl (gW h0 R C I F) s.heap := hP
  have hl := lv_entry ([.ref h0, .int a1]) (n := 3) (Nat.le_of_ble_eq_true rfl)
  rw [lg_entry_eq]
  generalize (lg_sl ([.ref h0, .int a1]) ++ List.replicate (3 - (lg_sl ([.ref h0, .int a1])).length) Slot.unset).toArray = ls at hl ⊢
  have hl : lv_has ls 3 [(0, .ref h0), (1, .int a1)] := hl
  refine lv_iload_n hx hb dX4_limit_0 rfl (lv_at hl 1 rfl) ?_
  refine lv_iconst (v := 1) hx hb dX4_limit_1 (by decide) ?_
  refine lv_icmp_ge (tgt := 12) hx hb dX4_limit_2 (by decide) (fun c_1 => ?_) (fun c_1 => ?_)
  · skip
    have i_1 : 1 ≤ a1.toInt := by have h9 := pz_ge c_1; exact h9
    refine lv_iload_n hx hb dX4_limit_12 rfl (lv_at hl 1 rfl) ?_
    refine lv_bipush (v := 10) hx hb dX4_limit_13 (by decide) ?_
    refine lv_icmp_le (tgt := 25) hx hb dX4_limit_15 (by decide) (fun c_2 => ?_) (fun c_2 => ?_)
    · skip
      have i_2 : a1.toInt ≤ 10 := by have h9 := pz_le c_2; exact h9
      refine lv_aload_n hx hb dX4_limit_25 rfl (lv_at hl 0 rfl) ?_
      refine va_get (D := (dC, dI)) (ci := 5) (v := .int (I 5)) (C := RX4) (T := TX4) (N := 43) hx hb hts (fun _ h => List.mem_cons_of_mem _ (List.mem_append_right _ h)) hown hK hP 0 rfl rfl 5 (by decide) (hts (.fieldLink RX4 13 "FrontDoorModel" "limit" "I") (by decide +kernel)) (fun _ h9 => h9) rfl dX4_limit_26 ?_
      refine lv_istore_n (lv' := [(2, .int (I 5)), (0, .ref h0), (1, .int a1)]) hx hb dX4_limit_29 rfl hl (by decide) rfl (fun ls hl => ?_)
      refine lv_aload_n hx hb dX4_limit_30 rfl (lv_at hl 1 rfl) ?_
      refine lv_iload_n hx hb dX4_limit_31 rfl (lv_at hl 2 rfl) ?_
      refine va_put (D := (dC, dI)) (ci := 5) (v := .int a1) (ty := .int) (C := RX4) (T := TX4) (N := 43) hx hb hts (fun _ h => List.mem_cons_of_mem _ (List.mem_append_right _ h)) tyX4 tyX4_ok nmX4 hown hK hP hD hS 0 rfl rfl 5 (by decide) (hts (.fieldLink RX4 13 "FrontDoorModel" "limit" "I") (by decide +kernel)) (fun _ h9 => h9) rfl (by decide +kernel) rfl rfl (Nat.le_of_ble_eq_true rfl) dX4_limit_32 (fun H locs hP hD hS => ?_)
      have hP : va_P (dC, dI) vwCl (gW h0 R C (va_up I 5 a1) F) H := hP
      have hD : va_D A (gW h0 R C (va_up I 5 a1) F) := hD
      refine lv_iload_n hx hb dX4_limit_35 rfl (lv_at hl 0 rfl) ?_
      exact W.iret (v := (I 5)) hx hb hr (fun t ht hW => ⟨⟨(I 5), ((va_up I 5 a1), F), rfl, (by first | (refine ⟨?_, fun k hk => rfl⟩; (repeat' split) <;> first | exact ⟨rfl, rfl⟩ | (exfalso; omega)) | (obtain ⟨-, w1, w2⟩ := hw; subst w1; refine ⟨?_, w2⟩; (repeat' split) <;> first | exact ⟨rfl, rfl⟩ | (exfalso; omega))), by rw [ht]; exact hP, va_K.moved hW.alike hK, hD⟩, hS.F ht⟩) hS.2.2 dX4_limit_36
    · skip
      have i_2 : 10 < a1.toInt := by have h9 := pz_nle c_2; exact h9
      refine lv_aload_n hx hb dX4_limit_18 rfl (lv_at hl 0 rfl) ?_
      refine lv_bipush (v := (-6)) hx hb dX4_limit_19 (by decide) ?_
      have hPc := hP.sub (ws' := (gW h0 R C I F)) [0, 1, 2, 3, 4, 5, 6, 7, 8, 9, 10, 11, 12, 13, 14, 15, 16, 17, 18, 19, 20, 21, 22, 23, 24, 25, 26, 27, 28, 29, 30, 31, 32] rfl
      have hDc := hD.sub (ws' := (gW h0 R C I F)) [0, 1, 2, 3, 4, 5, 6, 7, 8, 9, 10, 11, 12, 13, 14, 15, 16, 17, 18, 19, 20, 21, 22, 23, 24, 25, 26, 27, 28, 29, 30, 31, 32] (by decide) rfl
      have hKc := hK.sub (tys' := (gT C)) [0, 1, 2, 3, 4, 5, 6, 7, 8, 9, 10, 11, 12, 13, 14, 15, 16, 17, 18, 19, 20, 21, 22, 23, 24, 25, 26, 27, 28, 29, 30, 31] rfl
      have hFc := va_free (wc := (gW h0 R C I F)) hD hS hA [0, 1, 2, 3, 4, 5, 6, 7, 8, 9, 10, 11, 12, 13, 14, 15, 16, 17, 18, 19, 20, 21, 22, 23, 24, 25, 26, 27, 28, 29, 30, 31, 32] rfl
      refine va_calli (va_runV (As := [.int (-6)]) (rest := []) ⟨hx, hb, hml, hown, hts⟩ (m_X4_refuse6 l dC dI h0 R C I F s.heap.size) (cwV 1 hts gX4_limit_X4_refuse rfl rfl rfl (by decide +kernel) ⟨Nat.le_of_ble_eq_true rfl, Nat.le_of_ble_eq_true rfl⟩) ⟨pz_blind, va_recv hKc hPc (ci := 5) (q0 := 0) rfl rfl, fun U hU hW => ⟨rfl, pz_at hPc hKc hDc hU hW⟩⟩ rfl rfl hl.1 rfl (lv_room (Nat.le_of_ble_eq_true rfl)) dX4_limit_21 ⟨Nat.le_of_ble_eq_true rfl, Nat.le_of_ble_eq_true rfl⟩) hS (fun q _ h => hFc q h) hFc (fun r_3 u t H locs ht hvm hw hB hz1 hk1 hS => ?_)
      obtain ⟨I_3, F_3⟩ := u
      obtain ⟨hP1, hK1, hD1⟩ := hB
      rw [ht] at hP1
      try dsimp only at hw
      have hP := hP1
      have hD := hD1.weaken (fun _ _ _ h9 => hFc _ h9)
      have hP : va_P (dC, dI) vwCl (gW h0 R C I_3 F_3) H := hP
      have hD : va_D A (gW h0 R C I_3 F_3) := hD
      have hr8 : r_3 = (-6) := hw.1
      subst hr8
      exact W.iret (v := (-6)) hx hb hr (fun t ht hW => ⟨⟨(-6), (I_3, F_3), rfl, (by first | (refine ⟨?_, fun k hk => rfl⟩; (repeat' split) <;> first | exact ⟨rfl, rfl⟩ | (exfalso; omega)) | (obtain ⟨-, w1, w2⟩ := hw; subst w1; refine ⟨?_, w2⟩; (repeat' split) <;> first | exact ⟨rfl, rfl⟩ | (exfalso; omega))), by rw [ht]; exact hP, va_K.moved hW.alike hK, hD⟩, hS.F ht⟩) hS.2.2 dX4_limit_24
  · skip
    have i_1 : a1.toInt < 1 := by have h9 := pz_nge c_1; exact h9
    refine lv_aload_n hx hb dX4_limit_5 rfl (lv_at hl 0 rfl) ?_
    refine lv_bipush (v := (-4)) hx hb dX4_limit_6 (by decide) ?_
    have hPc := hP.sub (ws' := (gW h0 R C I F)) [0, 1, 2, 3, 4, 5, 6, 7, 8, 9, 10, 11, 12, 13, 14, 15, 16, 17, 18, 19, 20, 21, 22, 23, 24, 25, 26, 27, 28, 29, 30, 31, 32] rfl
    have hDc := hD.sub (ws' := (gW h0 R C I F)) [0, 1, 2, 3, 4, 5, 6, 7, 8, 9, 10, 11, 12, 13, 14, 15, 16, 17, 18, 19, 20, 21, 22, 23, 24, 25, 26, 27, 28, 29, 30, 31, 32] (by decide) rfl
    have hKc := hK.sub (tys' := (gT C)) [0, 1, 2, 3, 4, 5, 6, 7, 8, 9, 10, 11, 12, 13, 14, 15, 16, 17, 18, 19, 20, 21, 22, 23, 24, 25, 26, 27, 28, 29, 30, 31] rfl
    have hFc := va_free (wc := (gW h0 R C I F)) hD hS hA [0, 1, 2, 3, 4, 5, 6, 7, 8, 9, 10, 11, 12, 13, 14, 15, 16, 17, 18, 19, 20, 21, 22, 23, 24, 25, 26, 27, 28, 29, 30, 31, 32] rfl
    refine va_calli (va_runV (As := [.int (-4)]) (rest := []) ⟨hx, hb, hml, hown, hts⟩ (m_X4_refuse4 l dC dI h0 R C I F s.heap.size) (cwV 1 hts gX4_limit_X4_refuse rfl rfl rfl (by decide +kernel) ⟨Nat.le_of_ble_eq_true rfl, Nat.le_of_ble_eq_true rfl⟩) ⟨pz_blind, va_recv hKc hPc (ci := 5) (q0 := 0) rfl rfl, fun U hU hW => ⟨rfl, pz_at hPc hKc hDc hU hW⟩⟩ rfl rfl hl.1 rfl (lv_room (Nat.le_of_ble_eq_true rfl)) dX4_limit_8 ⟨Nat.le_of_ble_eq_true rfl, Nat.le_of_ble_eq_true rfl⟩) hS (fun q _ h => hFc q h) hFc (fun r_4 u t H locs ht hvm hw hB hz1 hk1 hS => ?_)
    obtain ⟨I_4, F_4⟩ := u
    obtain ⟨hP1, hK1, hD1⟩ := hB
    rw [ht] at hP1
    try dsimp only at hw
    have hP := hP1
    have hD := hD1.weaken (fun _ _ _ h9 => hFc _ h9)
    have hP : va_P (dC, dI) vwCl (gW h0 R C I_4 F_4) H := hP
    have hD : va_D A (gW h0 R C I_4 F_4) := hD
    have hr8 : r_4 = (-4) := hw.1
    subst hr8
    exact W.iret (v := (-4)) hx hb hr (fun t ht hW => ⟨⟨(-4), (I_4, F_4), rfl, (by first | (refine ⟨?_, fun k hk => rfl⟩; (repeat' split) <;> first | exact ⟨rfl, rfl⟩ | (exfalso; omega)) | (obtain ⟨-, w1, w2⟩ := hw; subst w1; refine ⟨?_, w2⟩; (repeat' split) <;> first | exact ⟨rfl, rfl⟩ | (exfalso; omega))), by rw [ht]; exact hP, va_K.moved hW.alike hK, hD⟩, hS.F ht⟩) hS.2.2 dX4_limit_11

set_option maxHeartbeats 40000000 in
set_option maxRecDepth 100000 in
theorem m_X4_budget (l : Launch) (dC : Nat → ClassId) (dI : Nat → Nat → Nat) (h0 : Nat) (R : Nat → Nat) (C : Nat → ClassId) (I : Nat → Int32) (F : Nat → Nat → Int32) (a1 : Int32) (sz : Nat) : Met l yX4_budget wsX4_budget ({ frames := 1, cells := 0, slots := 0, locals := 21 }) (va_Pc [.ref h0, .int a1] (pzPre (dC, dI) vwCl (gW h0 R C I F) (gT C) sz)) (va_Qi (fun (r : Int32) (u : (Nat → Int32) × (Nat → Nat → Int32)) => (if a1.toInt < 0 then r = -4 ∧ u.1 = I else if 100 < a1.toInt then r = -6 ∧ u.1 = I else r = I 6 ∧ u.1 = va_up I 6 a1) ∧ ∀ k, k ≠ 0 → u.2 k = F k) (fun (u : (Nat → Int32) × (Nat → Nat → Int32)) (t : State) => va_P (dC, dI) vwCl (gW h0 R C u.1 u.2) t.heap ∧ va_K (dC, dI) vwCl (gT C) t ∧ va_D (va_A (gW h0 R C I F) sz) (gW h0 R C u.1 u.2)) (va_A (gW h0 R C I F) sz)) 0 0 (va_A (gW h0 R C I F) sz) := by
  refine Met.ofW (cc := cX4_budget) (maxL := 3) (ret := (some .int)) (by decide) rfl ?_
  intro p e s m args below meth c s₁ B hml hv
  obtain ⟨rfl, hsz, hP, hK, hD0⟩ := hv
  have hx := B.exec
  have hb := B.bytes
  have hr := B.returns
  have hts := atoms_spec (ws := wsX4_budget) B.pre
  have hown : s.vm.findClass RX4 = some m.cls := findClass_of_methodNamed B.named
  have hlocks := B.notSynchronized
  subst hsz
  have hD := hD0.self (sz := s.heap.size)
  generalize hAe : va_A (gW h0 R C I F) s.heap.size = A at hD ⊢
  have hA : ∀ q : Nat, s.heap.size ≤ q → A q := fun q h => by rw [← hAe]; exact Or.inr h
  have hS : va_S A s.heap s.heap [] := va_S.rf
  have hP : va_P (dC, dI) vwCl (gW h0 R C I F) s.heap := hP
  have hl := lv_entry ([.ref h0, .int a1]) (n := 3) (Nat.le_of_ble_eq_true rfl)
  rw [lg_entry_eq]
  generalize (lg_sl ([.ref h0, .int a1]) ++ List.replicate (3 - (lg_sl ([.ref h0, .int a1])).length) Slot.unset).toArray = ls at hl ⊢
  have hl : lv_has ls 3 [(0, .ref h0), (1, .int a1)] := hl
  refine lv_iload_n hx hb dX4_budget_0 rfl (lv_at hl 1 rfl) ?_
  refine lv_if_ge (tgt := 11) hx hb dX4_budget_1 (by decide) (fun c_1 => ?_) (fun c_1 => ?_)
  · skip
    have i_1 : 0 ≤ a1.toInt := by have h9 := pz_ge c_1; exact h9
    refine lv_iload_n hx hb dX4_budget_11 rfl (lv_at hl 1 rfl) ?_
    refine lv_bipush (v := 100) hx hb dX4_budget_12 (by decide) ?_
    refine lv_icmp_le (tgt := 24) hx hb dX4_budget_14 (by decide) (fun c_2 => ?_) (fun c_2 => ?_)
    · skip
      have i_2 : a1.toInt ≤ 100 := by have h9 := pz_le c_2; exact h9
      refine lv_aload_n hx hb dX4_budget_24 rfl (lv_at hl 0 rfl) ?_
      refine va_get (D := (dC, dI)) (ci := 5) (v := .int (I 6)) (C := RX4) (T := TX4) (N := 43) hx hb hts (fun _ h => List.mem_cons_of_mem _ (List.mem_append_right _ h)) hown hK hP 0 rfl rfl 6 (by decide) (hts (.fieldLink RX4 17 "FrontDoorModel" "budget" "I") (by decide +kernel)) (fun _ h9 => h9) rfl dX4_budget_25 ?_
      refine lv_istore_n (lv' := [(2, .int (I 6)), (0, .ref h0), (1, .int a1)]) hx hb dX4_budget_28 rfl hl (by decide) rfl (fun ls hl => ?_)
      refine lv_aload_n hx hb dX4_budget_29 rfl (lv_at hl 1 rfl) ?_
      refine lv_iload_n hx hb dX4_budget_30 rfl (lv_at hl 2 rfl) ?_
      refine va_put (D := (dC, dI)) (ci := 5) (v := .int a1) (ty := .int) (C := RX4) (T := TX4) (N := 43) hx hb hts (fun _ h => List.mem_cons_of_mem _ (List.mem_append_right _ h)) tyX4 tyX4_ok nmX4 hown hK hP hD hS 0 rfl rfl 6 (by decide) (hts (.fieldLink RX4 17 "FrontDoorModel" "budget" "I") (by decide +kernel)) (fun _ h9 => h9) rfl (by decide +kernel) rfl rfl (Nat.le_of_ble_eq_true rfl) dX4_budget_31 (fun H locs hP hD hS => ?_)
      have hP : va_P (dC, dI) vwCl (gW h0 R C (va_up I 6 a1) F) H := hP
      have hD : va_D A (gW h0 R C (va_up I 6 a1) F) := hD
      refine lv_iload_n hx hb dX4_budget_34 rfl (lv_at hl 0 rfl) ?_
      exact W.iret (v := (I 6)) hx hb hr (fun t ht hW => ⟨⟨(I 6), ((va_up I 6 a1), F), rfl, (by first | (refine ⟨?_, fun k hk => rfl⟩; (repeat' split) <;> first | exact ⟨rfl, rfl⟩ | (exfalso; omega)) | (obtain ⟨-, w1, w2⟩ := hw; subst w1; refine ⟨?_, w2⟩; (repeat' split) <;> first | exact ⟨rfl, rfl⟩ | (exfalso; omega))), by rw [ht]; exact hP, va_K.moved hW.alike hK, hD⟩, hS.F ht⟩) hS.2.2 dX4_budget_35
    · skip
      have i_2 : 100 < a1.toInt := by have h9 := pz_nle c_2; exact h9
      refine lv_aload_n hx hb dX4_budget_17 rfl (lv_at hl 0 rfl) ?_
      refine lv_bipush (v := (-6)) hx hb dX4_budget_18 (by decide) ?_
      have hPc := hP.sub (ws' := (gW h0 R C I F)) [0, 1, 2, 3, 4, 5, 6, 7, 8, 9, 10, 11, 12, 13, 14, 15, 16, 17, 18, 19, 20, 21, 22, 23, 24, 25, 26, 27, 28, 29, 30, 31, 32] rfl
      have hDc := hD.sub (ws' := (gW h0 R C I F)) [0, 1, 2, 3, 4, 5, 6, 7, 8, 9, 10, 11, 12, 13, 14, 15, 16, 17, 18, 19, 20, 21, 22, 23, 24, 25, 26, 27, 28, 29, 30, 31, 32] (by decide) rfl
      have hKc := hK.sub (tys' := (gT C)) [0, 1, 2, 3, 4, 5, 6, 7, 8, 9, 10, 11, 12, 13, 14, 15, 16, 17, 18, 19, 20, 21, 22, 23, 24, 25, 26, 27, 28, 29, 30, 31] rfl
      have hFc := va_free (wc := (gW h0 R C I F)) hD hS hA [0, 1, 2, 3, 4, 5, 6, 7, 8, 9, 10, 11, 12, 13, 14, 15, 16, 17, 18, 19, 20, 21, 22, 23, 24, 25, 26, 27, 28, 29, 30, 31, 32] rfl
      refine va_calli (va_runV (As := [.int (-6)]) (rest := []) ⟨hx, hb, hml, hown, hts⟩ (m_X4_refuse6 l dC dI h0 R C I F s.heap.size) (cwV 1 hts gX4_budget_X4_refuse rfl rfl rfl (by decide +kernel) ⟨Nat.le_of_ble_eq_true rfl, Nat.le_of_ble_eq_true rfl⟩) ⟨pz_blind, va_recv hKc hPc (ci := 5) (q0 := 0) rfl rfl, fun U hU hW => ⟨rfl, pz_at hPc hKc hDc hU hW⟩⟩ rfl rfl hl.1 rfl (lv_room (Nat.le_of_ble_eq_true rfl)) dX4_budget_20 ⟨Nat.le_of_ble_eq_true rfl, Nat.le_of_ble_eq_true rfl⟩) hS (fun q _ h => hFc q h) hFc (fun r_3 u t H locs ht hvm hw hB hz1 hk1 hS => ?_)
      obtain ⟨I_3, F_3⟩ := u
      obtain ⟨hP1, hK1, hD1⟩ := hB
      rw [ht] at hP1
      try dsimp only at hw
      have hP := hP1
      have hD := hD1.weaken (fun _ _ _ h9 => hFc _ h9)
      have hP : va_P (dC, dI) vwCl (gW h0 R C I_3 F_3) H := hP
      have hD : va_D A (gW h0 R C I_3 F_3) := hD
      have hr8 : r_3 = (-6) := hw.1
      subst hr8
      exact W.iret (v := (-6)) hx hb hr (fun t ht hW => ⟨⟨(-6), (I_3, F_3), rfl, (by first | (refine ⟨?_, fun k hk => rfl⟩; (repeat' split) <;> first | exact ⟨rfl, rfl⟩ | (exfalso; omega)) | (obtain ⟨-, w1, w2⟩ := hw; subst w1; refine ⟨?_, w2⟩; (repeat' split) <;> first | exact ⟨rfl, rfl⟩ | (exfalso; omega))), by rw [ht]; exact hP, va_K.moved hW.alike hK, hD⟩, hS.F ht⟩) hS.2.2 dX4_budget_23
  · skip
    have i_1 : a1.toInt < 0 := by have h9 := pz_nge c_1; exact h9
    refine lv_aload_n hx hb dX4_budget_4 rfl (lv_at hl 0 rfl) ?_
    refine lv_bipush (v := (-4)) hx hb dX4_budget_5 (by decide) ?_
    have hPc := hP.sub (ws' := (gW h0 R C I F)) [0, 1, 2, 3, 4, 5, 6, 7, 8, 9, 10, 11, 12, 13, 14, 15, 16, 17, 18, 19, 20, 21, 22, 23, 24, 25, 26, 27, 28, 29, 30, 31, 32] rfl
    have hDc := hD.sub (ws' := (gW h0 R C I F)) [0, 1, 2, 3, 4, 5, 6, 7, 8, 9, 10, 11, 12, 13, 14, 15, 16, 17, 18, 19, 20, 21, 22, 23, 24, 25, 26, 27, 28, 29, 30, 31, 32] (by decide) rfl
    have hKc := hK.sub (tys' := (gT C)) [0, 1, 2, 3, 4, 5, 6, 7, 8, 9, 10, 11, 12, 13, 14, 15, 16, 17, 18, 19, 20, 21, 22, 23, 24, 25, 26, 27, 28, 29, 30, 31] rfl
    have hFc := va_free (wc := (gW h0 R C I F)) hD hS hA [0, 1, 2, 3, 4, 5, 6, 7, 8, 9, 10, 11, 12, 13, 14, 15, 16, 17, 18, 19, 20, 21, 22, 23, 24, 25, 26, 27, 28, 29, 30, 31, 32] rfl
    refine va_calli (va_runV (As := [.int (-4)]) (rest := []) ⟨hx, hb, hml, hown, hts⟩ (m_X4_refuse4 l dC dI h0 R C I F s.heap.size) (cwV 1 hts gX4_budget_X4_refuse rfl rfl rfl (by decide +kernel) ⟨Nat.le_of_ble_eq_true rfl, Nat.le_of_ble_eq_true rfl⟩) ⟨pz_blind, va_recv hKc hPc (ci := 5) (q0 := 0) rfl rfl, fun U hU hW => ⟨rfl, pz_at hPc hKc hDc hU hW⟩⟩ rfl rfl hl.1 rfl (lv_room (Nat.le_of_ble_eq_true rfl)) dX4_budget_7 ⟨Nat.le_of_ble_eq_true rfl, Nat.le_of_ble_eq_true rfl⟩) hS (fun q _ h => hFc q h) hFc (fun r_4 u t H locs ht hvm hw hB hz1 hk1 hS => ?_)
    obtain ⟨I_4, F_4⟩ := u
    obtain ⟨hP1, hK1, hD1⟩ := hB
    rw [ht] at hP1
    try dsimp only at hw
    have hP := hP1
    have hD := hD1.weaken (fun _ _ _ h9 => hFc _ h9)
    have hP : va_P (dC, dI) vwCl (gW h0 R C I_4 F_4) H := hP
    have hD : va_D A (gW h0 R C I_4 F_4) := hD
    have hr8 : r_4 = (-4) := hw.1
    subst hr8
    exact W.iret (v := (-4)) hx hb hr (fun t ht hW => ⟨⟨(-4), (I_4, F_4), rfl, (by first | (refine ⟨?_, fun k hk => rfl⟩; (repeat' split) <;> first | exact ⟨rfl, rfl⟩ | (exfalso; omega)) | (obtain ⟨-, w1, w2⟩ := hw; subst w1; refine ⟨?_, w2⟩; (repeat' split) <;> first | exact ⟨rfl, rfl⟩ | (exfalso; omega))), by rw [ht]; exact hP, va_K.moved hW.alike hK, hD⟩, hS.F ht⟩) hS.2.2 dX4_budget_10

set_option maxHeartbeats 40000000 in
set_option maxRecDepth 100000 in
theorem m_X4_hedge (l : Launch) (dC : Nat → ClassId) (dI : Nat → Nat → Nat) (h0 : Nat) (R : Nat → Nat) (C : Nat → ClassId) (I : Nat → Int32) (F : Nat → Nat → Int32) (a1 : Int32) (sz : Nat) : Met l yX4_hedge wsX4_hedge ({ frames := 1, cells := 0, slots := 0, locals := 21 }) (va_Pc [.ref h0, .int a1] (pzPre (dC, dI) vwCl (gW h0 R C I F) (gT C) sz)) (va_Qi (fun (r : Int32) (u : (Nat → Int32) × (Nat → Nat → Int32)) => (if a1.toInt < 0 then r = -4 ∧ u.1 = I else if 500 < a1.toInt then r = -6 ∧ u.1 = I else r = I 7 ∧ u.1 = va_up I 7 a1) ∧ ∀ k, k ≠ 0 → u.2 k = F k) (fun (u : (Nat → Int32) × (Nat → Nat → Int32)) (t : State) => va_P (dC, dI) vwCl (gW h0 R C u.1 u.2) t.heap ∧ va_K (dC, dI) vwCl (gT C) t ∧ va_D (va_A (gW h0 R C I F) sz) (gW h0 R C u.1 u.2)) (va_A (gW h0 R C I F) sz)) 0 0 (va_A (gW h0 R C I F) sz) := by
  refine Met.ofW (cc := cX4_hedge) (maxL := 3) (ret := (some .int)) (by decide) rfl ?_
  intro p e s m args below meth c s₁ B hml hv
  obtain ⟨rfl, hsz, hP, hK, hD0⟩ := hv
  have hx := B.exec
  have hb := B.bytes
  have hr := B.returns
  have hts := atoms_spec (ws := wsX4_hedge) B.pre
  have hown : s.vm.findClass RX4 = some m.cls := findClass_of_methodNamed B.named
  have hlocks := B.notSynchronized
  subst hsz
  have hD := hD0.self (sz := s.heap.size)
  generalize hAe : va_A (gW h0 R C I F) s.heap.size = A at hD ⊢
  have hA : ∀ q : Nat, s.heap.size ≤ q → A q := fun q h => by rw [← hAe]; exact Or.inr h
  have hS : va_S A s.heap s.heap [] := va_S.rf
  have hP : va_P (dC, dI) vwCl (gW h0 R C I F) s.heap := hP
  have hl := lv_entry ([.ref h0, .int a1]) (n := 3) (Nat.le_of_ble_eq_true rfl)
  rw [lg_entry_eq]
  generalize (lg_sl ([.ref h0, .int a1]) ++ List.replicate (3 - (lg_sl ([.ref h0, .int a1])).length) Slot.unset).toArray = ls at hl ⊢
  have hl : lv_has ls 3 [(0, .ref h0), (1, .int a1)] := hl
  refine lv_iload_n hx hb dX4_hedge_0 rfl (lv_at hl 1 rfl) ?_
  refine lv_if_ge (tgt := 11) hx hb dX4_hedge_1 (by decide) (fun c_1 => ?_) (fun c_1 => ?_)
  · skip
    have i_1 : 0 ≤ a1.toInt := by have h9 := pz_ge c_1; exact h9
    refine lv_iload_n hx hb dX4_hedge_11 rfl (lv_at hl 1 rfl) ?_
    refine lv_sipush (v := 500) hx hb dX4_hedge_12 (by decide) ?_
    refine lv_icmp_le (tgt := 25) hx hb dX4_hedge_15 (by decide) (fun c_2 => ?_) (fun c_2 => ?_)
    · skip
      have i_2 : a1.toInt ≤ 500 := by have h9 := pz_le c_2; exact h9
      refine lv_aload_n hx hb dX4_hedge_25 rfl (lv_at hl 0 rfl) ?_
      refine va_get (D := (dC, dI)) (ci := 5) (v := .int (I 7)) (C := RX4) (T := TX4) (N := 43) hx hb hts (fun _ h => List.mem_cons_of_mem _ (List.mem_append_right _ h)) hown hK hP 0 rfl rfl 7 (by decide) (hts (.fieldLink RX4 139 "FrontDoorModel" "hedge" "I") (by decide +kernel)) (fun _ h9 => h9) rfl dX4_hedge_26 ?_
      refine lv_istore_n (lv' := [(2, .int (I 7)), (0, .ref h0), (1, .int a1)]) hx hb dX4_hedge_29 rfl hl (by decide) rfl (fun ls hl => ?_)
      refine lv_aload_n hx hb dX4_hedge_30 rfl (lv_at hl 1 rfl) ?_
      refine lv_iload_n hx hb dX4_hedge_31 rfl (lv_at hl 2 rfl) ?_
      refine va_put (D := (dC, dI)) (ci := 5) (v := .int a1) (ty := .int) (C := RX4) (T := TX4) (N := 43) hx hb hts (fun _ h => List.mem_cons_of_mem _ (List.mem_append_right _ h)) tyX4 tyX4_ok nmX4 hown hK hP hD hS 0 rfl rfl 7 (by decide) (hts (.fieldLink RX4 139 "FrontDoorModel" "hedge" "I") (by decide +kernel)) (fun _ h9 => h9) rfl (by decide +kernel) rfl rfl (Nat.le_of_ble_eq_true rfl) dX4_hedge_32 (fun H locs hP hD hS => ?_)
      have hP : va_P (dC, dI) vwCl (gW h0 R C (va_up I 7 a1) F) H := hP
      have hD : va_D A (gW h0 R C (va_up I 7 a1) F) := hD
      refine lv_iload_n hx hb dX4_hedge_35 rfl (lv_at hl 0 rfl) ?_
      exact W.iret (v := (I 7)) hx hb hr (fun t ht hW => ⟨⟨(I 7), ((va_up I 7 a1), F), rfl, (by first | (refine ⟨?_, fun k hk => rfl⟩; (repeat' split) <;> first | exact ⟨rfl, rfl⟩ | (exfalso; omega)) | (obtain ⟨-, w1, w2⟩ := hw; subst w1; refine ⟨?_, w2⟩; (repeat' split) <;> first | exact ⟨rfl, rfl⟩ | (exfalso; omega))), by rw [ht]; exact hP, va_K.moved hW.alike hK, hD⟩, hS.F ht⟩) hS.2.2 dX4_hedge_36
    · skip
      have i_2 : 500 < a1.toInt := by have h9 := pz_nle c_2; exact h9
      refine lv_aload_n hx hb dX4_hedge_18 rfl (lv_at hl 0 rfl) ?_
      refine lv_bipush (v := (-6)) hx hb dX4_hedge_19 (by decide) ?_
      have hPc := hP.sub (ws' := (gW h0 R C I F)) [0, 1, 2, 3, 4, 5, 6, 7, 8, 9, 10, 11, 12, 13, 14, 15, 16, 17, 18, 19, 20, 21, 22, 23, 24, 25, 26, 27, 28, 29, 30, 31, 32] rfl
      have hDc := hD.sub (ws' := (gW h0 R C I F)) [0, 1, 2, 3, 4, 5, 6, 7, 8, 9, 10, 11, 12, 13, 14, 15, 16, 17, 18, 19, 20, 21, 22, 23, 24, 25, 26, 27, 28, 29, 30, 31, 32] (by decide) rfl
      have hKc := hK.sub (tys' := (gT C)) [0, 1, 2, 3, 4, 5, 6, 7, 8, 9, 10, 11, 12, 13, 14, 15, 16, 17, 18, 19, 20, 21, 22, 23, 24, 25, 26, 27, 28, 29, 30, 31] rfl
      have hFc := va_free (wc := (gW h0 R C I F)) hD hS hA [0, 1, 2, 3, 4, 5, 6, 7, 8, 9, 10, 11, 12, 13, 14, 15, 16, 17, 18, 19, 20, 21, 22, 23, 24, 25, 26, 27, 28, 29, 30, 31, 32] rfl
      refine va_calli (va_runV (As := [.int (-6)]) (rest := []) ⟨hx, hb, hml, hown, hts⟩ (m_X4_refuse6 l dC dI h0 R C I F s.heap.size) (cwV 1 hts gX4_hedge_X4_refuse rfl rfl rfl (by decide +kernel) ⟨Nat.le_of_ble_eq_true rfl, Nat.le_of_ble_eq_true rfl⟩) ⟨pz_blind, va_recv hKc hPc (ci := 5) (q0 := 0) rfl rfl, fun U hU hW => ⟨rfl, pz_at hPc hKc hDc hU hW⟩⟩ rfl rfl hl.1 rfl (lv_room (Nat.le_of_ble_eq_true rfl)) dX4_hedge_21 ⟨Nat.le_of_ble_eq_true rfl, Nat.le_of_ble_eq_true rfl⟩) hS (fun q _ h => hFc q h) hFc (fun r_3 u t H locs ht hvm hw hB hz1 hk1 hS => ?_)
      obtain ⟨I_3, F_3⟩ := u
      obtain ⟨hP1, hK1, hD1⟩ := hB
      rw [ht] at hP1
      try dsimp only at hw
      have hP := hP1
      have hD := hD1.weaken (fun _ _ _ h9 => hFc _ h9)
      have hP : va_P (dC, dI) vwCl (gW h0 R C I_3 F_3) H := hP
      have hD : va_D A (gW h0 R C I_3 F_3) := hD
      have hr8 : r_3 = (-6) := hw.1
      subst hr8
      exact W.iret (v := (-6)) hx hb hr (fun t ht hW => ⟨⟨(-6), (I_3, F_3), rfl, (by first | (refine ⟨?_, fun k hk => rfl⟩; (repeat' split) <;> first | exact ⟨rfl, rfl⟩ | (exfalso; omega)) | (obtain ⟨-, w1, w2⟩ := hw; subst w1; refine ⟨?_, w2⟩; (repeat' split) <;> first | exact ⟨rfl, rfl⟩ | (exfalso; omega))), by rw [ht]; exact hP, va_K.moved hW.alike hK, hD⟩, hS.F ht⟩) hS.2.2 dX4_hedge_24
  · skip
    have i_1 : a1.toInt < 0 := by have h9 := pz_nge c_1; exact h9
    refine lv_aload_n hx hb dX4_hedge_4 rfl (lv_at hl 0 rfl) ?_
    refine lv_bipush (v := (-4)) hx hb dX4_hedge_5 (by decide) ?_
    have hPc := hP.sub (ws' := (gW h0 R C I F)) [0, 1, 2, 3, 4, 5, 6, 7, 8, 9, 10, 11, 12, 13, 14, 15, 16, 17, 18, 19, 20, 21, 22, 23, 24, 25, 26, 27, 28, 29, 30, 31, 32] rfl
    have hDc := hD.sub (ws' := (gW h0 R C I F)) [0, 1, 2, 3, 4, 5, 6, 7, 8, 9, 10, 11, 12, 13, 14, 15, 16, 17, 18, 19, 20, 21, 22, 23, 24, 25, 26, 27, 28, 29, 30, 31, 32] (by decide) rfl
    have hKc := hK.sub (tys' := (gT C)) [0, 1, 2, 3, 4, 5, 6, 7, 8, 9, 10, 11, 12, 13, 14, 15, 16, 17, 18, 19, 20, 21, 22, 23, 24, 25, 26, 27, 28, 29, 30, 31] rfl
    have hFc := va_free (wc := (gW h0 R C I F)) hD hS hA [0, 1, 2, 3, 4, 5, 6, 7, 8, 9, 10, 11, 12, 13, 14, 15, 16, 17, 18, 19, 20, 21, 22, 23, 24, 25, 26, 27, 28, 29, 30, 31, 32] rfl
    refine va_calli (va_runV (As := [.int (-4)]) (rest := []) ⟨hx, hb, hml, hown, hts⟩ (m_X4_refuse4 l dC dI h0 R C I F s.heap.size) (cwV 1 hts gX4_hedge_X4_refuse rfl rfl rfl (by decide +kernel) ⟨Nat.le_of_ble_eq_true rfl, Nat.le_of_ble_eq_true rfl⟩) ⟨pz_blind, va_recv hKc hPc (ci := 5) (q0 := 0) rfl rfl, fun U hU hW => ⟨rfl, pz_at hPc hKc hDc hU hW⟩⟩ rfl rfl hl.1 rfl (lv_room (Nat.le_of_ble_eq_true rfl)) dX4_hedge_7 ⟨Nat.le_of_ble_eq_true rfl, Nat.le_of_ble_eq_true rfl⟩) hS (fun q _ h => hFc q h) hFc (fun r_4 u t H locs ht hvm hw hB hz1 hk1 hS => ?_)
    obtain ⟨I_4, F_4⟩ := u
    obtain ⟨hP1, hK1, hD1⟩ := hB
    rw [ht] at hP1
    try dsimp only at hw
    have hP := hP1
    have hD := hD1.weaken (fun _ _ _ h9 => hFc _ h9)
    have hP : va_P (dC, dI) vwCl (gW h0 R C I_4 F_4) H := hP
    have hD : va_D A (gW h0 R C I_4 F_4) := hD
    have hr8 : r_4 = (-4) := hw.1
    subst hr8
    exact W.iret (v := (-4)) hx hb hr (fun t ht hW => ⟨⟨(-4), (I_4, F_4), rfl, (by first | (refine ⟨?_, fun k hk => rfl⟩; (repeat' split) <;> first | exact ⟨rfl, rfl⟩ | (exfalso; omega)) | (obtain ⟨-, w1, w2⟩ := hw; subst w1; refine ⟨?_, w2⟩; (repeat' split) <;> first | exact ⟨rfl, rfl⟩ | (exfalso; omega))), by rw [ht]; exact hP, va_K.moved hW.alike hK, hD⟩, hS.F ht⟩) hS.2.2 dX4_hedge_10
