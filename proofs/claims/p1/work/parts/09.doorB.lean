set_option maxHeartbeats 4000000 in
set_option maxRecDepth 100000 in
theorem k_X3_queue (l : Launch) (dC : Nat → ClassId) (dI : Nat → Nat → Nat) (h0 : Nat) (q1 : Nat) (q2 : Nat) (q3 : Nat) (q4 : Nat) (q5 : Nat) (z : Nat) (tk : Int32) (a1 : Int32) (sz : Nat) : Met l yX3_queue wsX3_queue ({ frames := 1, cells := 0, slots := 0, locals := 20 }) (va_Pc [.ref h0, .int a1] (pzPre (dC, dI) vwCl [(h0, .inr (4, [.ref q1, .ref q2, .ref q3, .ref q4, .ref q5, .int tk, .int 0, .int 3, .int 20, .int 0, .int 0, .int 0, .int 0])), (q4, .inr (0, [.int 0, .ref z, .int 0]))] [] sz)) (va_Qi (fun (r : Int32) (_ : Unit) => r = (-9)) (fun _ _ => True) (va_A [] sz)) 0 0 (va_A [] sz) := by
  refine Met.ofW (cc := cX3_queue) (maxL := 2) (ret := (some .int)) (by decide) rfl ?_
  intro p e s m args below meth c s₁ B hml hv
  obtain ⟨rfl, hsz, hP, hK, hD0⟩ := hv
  have hx := B.exec
  have hb := B.bytes
  have hr := B.returns
  have hts := atoms_spec (ws := wsX3_queue) B.pre
  have hown : s.vm.findClass RX3 = some m.cls := findClass_of_methodNamed B.named
  have hlocks := B.notSynchronized
  subst hsz
  have hA : ∀ q : Nat, s.heap.size ≤ q → va_A [] s.heap.size q := fun q h => Or.inr h
  have hD := hD0
  generalize va_A [] s.heap.size = A at hA ⊢
  have hS : va_S A s.heap s.heap [] := va_S.rf
  have hP : va_P (dC, dI) vwCl [(h0, .inr (4, [.ref q1, .ref q2, .ref q3, .ref q4, .ref q5, .int tk, .int 0, .int 3, .int 20, .int 0, .int 0, .int 0, .int 0])), (q4, .inr (0, [.int 0, .ref z, .int 0]))] s.heap := hP
  have hl := lv_entry ([.ref h0, .int a1]) (n := 2) (Nat.le_of_ble_eq_true rfl)
  rw [lg_entry_eq]
  generalize (lg_sl ([.ref h0, .int a1]) ++ List.replicate (2 - (lg_sl ([.ref h0, .int a1])).length) Slot.unset).toArray = ls at hl ⊢
  have hl : lv_has ls 2 [(0, .ref h0), (1, .int a1)] := hl
  refine lv_iload_n hx hb dX3_queue_0 rfl (lv_at hl 1 rfl) ?_
  refine lv_if_lt (tgt := 15) hx hb dX3_queue_1 (by decide) (fun c_1 => ?_) (fun c_1 => ?_)
  · skip
    have i_1 : a1.toInt < 0 := by have h9 := pz_lt c_1; exact h9
    refine lv_bipush (v := (-9)) hx hb dX3_queue_15 (by decide) ?_
    refine lv_goto (tgt := 34) hx hb dX3_queue_17 (by decide) ?_
    exact W.iret (v := (-9)) hx hb hr (fun t ht hW => ⟨⟨(-9), (), rfl, rfl, trivial⟩, hS.F ht⟩) hS.2.2 dX3_queue_34
  · skip
    have i_1 : 0 ≤ a1.toInt := by have h9 := pz_nlt c_1; exact h9
    refine lv_iload_n hx hb dX3_queue_4 rfl (lv_at hl 1 rfl) ?_
    refine lv_aload_n hx hb dX3_queue_5 rfl (lv_at hl 0 rfl) ?_
    refine va_get (D := (dC, dI)) (ci := 4) (v := .ref q4) (C := RX3) (T := TX3) (N := 13) hx hb hts (fun _ h => List.mem_cons_of_mem _ (List.mem_append_left _ (List.mem_append_left _ (List.mem_append_right _ h)))) hown hK hP 0 rfl rfl 3 (by decide) (hts (.fieldLink RX3 22 "FrontDoor" "line" "Ljava/util/ArrayList;") (by decide +kernel)) (fun _ h9 => h9) rfl dX3_queue_6 ?_
    have hPc := hP.sub (ws' := [(q4, .inr (0, [.int 0, .ref z, .int 0]))]) [1] rfl
    have hDc := hD.sub (ws' := [(q4, .inr (0, [.int 0, .ref z, .int 0]))]) [1] (by decide) rfl
    have hKc := hK.sub (tys' := []) [] rfl
    have hFc := pz_f hA hS
    refine va_calli (va_runV (As := []) (rest := [.int a1]) ⟨hx, hb, hml, hown, hts⟩ (k_Jx4a65c_size_8abf5 l dC dI q4 z s.heap.size) (cwV 0 hts gX3_queue_Jx4a65c_size_8abf5 rfl rfl rfl (by decide +kernel) ⟨Nat.le_of_ble_eq_true rfl, Nat.le_of_ble_eq_true rfl⟩) ⟨pz_blind, va_recv hKc hPc (ci := 0) (q0 := 0) rfl rfl, fun U hU hW => ⟨rfl, pz_at hPc hKc hDc hU hW⟩⟩ rfl rfl hl.1 rfl (lv_room (Nat.le_of_ble_eq_true rfl)) dX3_queue_9 ⟨Nat.le_of_ble_eq_true rfl, Nat.le_of_ble_eq_true rfl⟩) hS (fun q _ h => hFc q h) hFc (fun r_2 u t H locs ht hvm hw hB hz1 hk1 hS => ?_)
    have hP := pz_keep hP hk1
    have hw : r_2 = 0 := hw
    subst hw
    refine lv_icmp_lt (tgt := 20) hx hb dX3_queue_12 (by decide) (fun c_3 => ?_) (fun c_3 => ?_)
    · skip
      have i_3 : a1.toInt < 0 := by have h9 := pz_lt c_3; exact h9
      exfalso
      omega
    · skip
      have i_3 : 0 ≤ a1.toInt := by have h9 := pz_nlt c_3; exact h9
      refine lv_bipush (v := (-9)) hx hb dX3_queue_15 (by decide) ?_
      refine lv_goto (tgt := 34) hx hb dX3_queue_17 (by decide) ?_
      exact W.iret (v := (-9)) hx hb hr (fun t ht hW => ⟨⟨(-9), (), rfl, rfl, trivial⟩, hS.F ht⟩) hS.2.2 dX3_queue_34

set_option maxHeartbeats 4000000 in
set_option maxRecDepth 100000 in
theorem k_X3_callsThatAre (l : Launch) (dC : Nat → ClassId) (dI : Nat → Nat → Nat) (h0 : Nat) (q1 : Nat) (q2 : Nat) (q3 : Nat) (q4 : Nat) (q5 : Nat) (z : Nat) (tk : Int32) (a1 : Int32) (sz : Nat) : Met l yX3_callsThatAre wsX3_callsThatAre ({ frames := 1, cells := 0, slots := 0, locals := 20 }) (va_Pc [.ref h0, .int a1] (pzPre (dC, dI) vwCl [(h0, .inr (4, [.ref q1, .ref q2, .ref q3, .ref q4, .ref q5, .int tk, .int 0, .int 3, .int 20, .int 0, .int 0, .int 0, .int 0])), (q2, .inr (0, [.int 0, .ref z, .int 0]))] [] sz)) (va_Qi (fun (r : Int32) (_ : Unit) => r = 0) (fun _ _ => True) (va_A [] sz)) 0 0 (va_A [] sz) := by
  refine Met.ofW (cc := cX3_callsThatAre) (maxL := 4) (ret := (some .int)) (by decide) rfl ?_
  intro p e s m args below meth c s₁ B hml hv
  obtain ⟨rfl, hsz, hP, hK, hD0⟩ := hv
  have hx := B.exec
  have hb := B.bytes
  have hr := B.returns
  have hts := atoms_spec (ws := wsX3_callsThatAre) B.pre
  have hown : s.vm.findClass RX3 = some m.cls := findClass_of_methodNamed B.named
  have hlocks := B.notSynchronized
  subst hsz
  have hA : ∀ q : Nat, s.heap.size ≤ q → va_A [] s.heap.size q := fun q h => Or.inr h
  have hD := hD0
  generalize va_A [] s.heap.size = A at hA ⊢
  have hS : va_S A s.heap s.heap [] := va_S.rf
  have hP : va_P (dC, dI) vwCl [(h0, .inr (4, [.ref q1, .ref q2, .ref q3, .ref q4, .ref q5, .int tk, .int 0, .int 3, .int 20, .int 0, .int 0, .int 0, .int 0])), (q2, .inr (0, [.int 0, .ref z, .int 0]))] s.heap := hP
  have hl := lv_entry ([.ref h0, .int a1]) (n := 4) (Nat.le_of_ble_eq_true rfl)
  rw [lg_entry_eq]
  generalize (lg_sl ([.ref h0, .int a1]) ++ List.replicate (4 - (lg_sl ([.ref h0, .int a1])).length) Slot.unset).toArray = ls at hl ⊢
  have hl : lv_has ls 4 [(0, .ref h0), (1, .int a1)] := hl
  refine lv_iconst (v := 0) hx hb dX3_callsThatAre_0 (by decide) ?_
  refine lv_istore_n (lv' := [(2, .int 0), (0, .ref h0), (1, .int a1)]) hx hb dX3_callsThatAre_1 rfl hl (by decide) rfl (fun ls hl => ?_)
  refine lv_iconst (v := 0) hx hb dX3_callsThatAre_2 (by decide) ?_
  refine lv_istore_n (lv' := [(3, .int 0), (2, .int 0), (0, .ref h0), (1, .int a1)]) hx hb dX3_callsThatAre_3 rfl hl (by decide) rfl (fun ls hl => ?_)
  refine lv_iload_n hx hb dX3_callsThatAre_4 rfl (lv_at hl 0 rfl) ?_
  refine lv_aload_n hx hb dX3_callsThatAre_5 rfl (lv_at hl 2 rfl) ?_
  refine va_get (D := (dC, dI)) (ci := 4) (v := .ref q2) (C := RX3) (T := TX3) (N := 13) hx hb hts (fun _ h => List.mem_cons_of_mem _ (List.mem_append_left _ (List.mem_append_left _ (List.mem_append_right _ h)))) hown hK hP 0 rfl rfl 1 (by decide) (hts (.fieldLink RX3 16 "FrontDoor" "calls" "Ljava/util/ArrayList;") (by decide +kernel)) (fun _ h9 => h9) rfl dX3_callsThatAre_6 ?_
  have hPc := hP.sub (ws' := [(q2, .inr (0, [.int 0, .ref z, .int 0]))]) [1] rfl
  have hDc := hD.sub (ws' := [(q2, .inr (0, [.int 0, .ref z, .int 0]))]) [1] (by decide) rfl
  have hKc := hK.sub (tys' := []) [] rfl
  have hFc := pz_f hA hS
  refine va_calli (va_runV (As := []) (rest := [.int 0]) ⟨hx, hb, hml, hown, hts⟩ (k_Jx4a65c_size_8abf5 l dC dI q2 z s.heap.size) (cwV 0 hts gX3_callsThatAre_Jx4a65c_size_8abf5 rfl rfl rfl (by decide +kernel) ⟨Nat.le_of_ble_eq_true rfl, Nat.le_of_ble_eq_true rfl⟩) ⟨pz_blind, va_recv hKc hPc (ci := 0) (q0 := 0) rfl rfl, fun U hU hW => ⟨rfl, pz_at hPc hKc hDc hU hW⟩⟩ rfl rfl hl.1 rfl (lv_room (Nat.le_of_ble_eq_true rfl)) dX3_callsThatAre_9 ⟨Nat.le_of_ble_eq_true rfl, Nat.le_of_ble_eq_true rfl⟩) hS (fun q _ h => hFc q h) hFc (fun r_1 u t H locs ht hvm hw hB hz1 hk1 hS => ?_)
  have hP := pz_keep hP hk1
  have hw : r_1 = 0 := hw
  subst hw
  refine lv_icmp_ge (tgt := 42) hx hb dX3_callsThatAre_12 (by decide) (fun c_2 => ?_) (fun c_2 => absurd (by decide) c_2)
  refine lv_iload_n hx hb dX3_callsThatAre_42 rfl (lv_at hl 1 rfl) ?_
  exact W.iret (v := 0) hx hb hr (fun t ht hW => ⟨⟨0, (), rfl, rfl, trivial⟩, hS.F ht⟩) hS.2.2 dX3_callsThatAre_43

set_option maxHeartbeats 4000000 in
set_option maxRecDepth 100000 in
theorem k_X3_askingsSoFar (l : Launch) (dC : Nat → ClassId) (dI : Nat → Nat → Nat) (h0 : Nat) (q1 : Nat) (q2 : Nat) (q3 : Nat) (q4 : Nat) (q5 : Nat) (z : Nat) (tk : Int32) (sz : Nat) : Met l yX3_askingsSoFar wsX3_askingsSoFar ({ frames := 1, cells := 0, slots := 0, locals := 20 }) (va_Pc [.ref h0] (pzPre (dC, dI) vwCl [(h0, .inr (4, [.ref q1, .ref q2, .ref q3, .ref q4, .ref q5, .int tk, .int 0, .int 3, .int 20, .int 0, .int 0, .int 0, .int 0])), (q1, .inr (0, [.int 0, .ref z, .int 0]))] [] sz)) (va_Qi (fun (r : Int32) (_ : Unit) => r = 0) (fun _ _ => True) (va_A [] sz)) 0 0 (va_A [] sz) := by
  refine Met.ofW (cc := cX3_askingsSoFar) (maxL := 3) (ret := (some .int)) (by decide) rfl ?_
  intro p e s m args below meth c s₁ B hml hv
  obtain ⟨rfl, hsz, hP, hK, hD0⟩ := hv
  have hx := B.exec
  have hb := B.bytes
  have hr := B.returns
  have hts := atoms_spec (ws := wsX3_askingsSoFar) B.pre
  have hown : s.vm.findClass RX3 = some m.cls := findClass_of_methodNamed B.named
  have hlocks := B.notSynchronized
  subst hsz
  have hA : ∀ q : Nat, s.heap.size ≤ q → va_A [] s.heap.size q := fun q h => Or.inr h
  have hD := hD0
  generalize va_A [] s.heap.size = A at hA ⊢
  have hS : va_S A s.heap s.heap [] := va_S.rf
  have hP : va_P (dC, dI) vwCl [(h0, .inr (4, [.ref q1, .ref q2, .ref q3, .ref q4, .ref q5, .int tk, .int 0, .int 3, .int 20, .int 0, .int 0, .int 0, .int 0])), (q1, .inr (0, [.int 0, .ref z, .int 0]))] s.heap := hP
  have hl := lv_entry ([.ref h0]) (n := 3) (Nat.le_of_ble_eq_true rfl)
  rw [lg_entry_eq]
  generalize (lg_sl ([.ref h0]) ++ List.replicate (3 - (lg_sl ([.ref h0])).length) Slot.unset).toArray = ls at hl ⊢
  have hl : lv_has ls 3 [(0, .ref h0)] := hl
  refine lv_iconst (v := 0) hx hb dX3_askingsSoFar_0 (by decide) ?_
  refine lv_istore_n (lv' := [(1, .int 0), (0, .ref h0)]) hx hb dX3_askingsSoFar_1 rfl hl (by decide) rfl (fun ls hl => ?_)
  refine lv_iconst (v := 0) hx hb dX3_askingsSoFar_2 (by decide) ?_
  refine lv_istore_n (lv' := [(2, .int 0), (1, .int 0), (0, .ref h0)]) hx hb dX3_askingsSoFar_3 rfl hl (by decide) rfl (fun ls hl => ?_)
  refine lv_iload_n hx hb dX3_askingsSoFar_4 rfl (lv_at hl 0 rfl) ?_
  refine lv_aload_n hx hb dX3_askingsSoFar_5 rfl (lv_at hl 2 rfl) ?_
  refine va_get (D := (dC, dI)) (ci := 4) (v := .ref q1) (C := RX3) (T := TX3) (N := 13) hx hb hts (fun _ h => List.mem_cons_of_mem _ (List.mem_append_left _ (List.mem_append_left _ (List.mem_append_right _ h)))) hown hK hP 0 rfl rfl 0 (by decide) (hts (.fieldLink RX3 10 "FrontDoor" "servers" "Ljava/util/ArrayList;") (by decide +kernel)) (fun _ h9 => h9) rfl dX3_askingsSoFar_6 ?_
  have hPc := hP.sub (ws' := [(q1, .inr (0, [.int 0, .ref z, .int 0]))]) [1] rfl
  have hDc := hD.sub (ws' := [(q1, .inr (0, [.int 0, .ref z, .int 0]))]) [1] (by decide) rfl
  have hKc := hK.sub (tys' := []) [] rfl
  have hFc := pz_f hA hS
  refine va_calli (va_runV (As := []) (rest := [.int 0]) ⟨hx, hb, hml, hown, hts⟩ (k_Jx4a65c_size_8abf5 l dC dI q1 z s.heap.size) (cwV 0 hts gX3_askingsSoFar_Jx4a65c_size_8abf5 rfl rfl rfl (by decide +kernel) ⟨Nat.le_of_ble_eq_true rfl, Nat.le_of_ble_eq_true rfl⟩) ⟨pz_blind, va_recv hKc hPc (ci := 0) (q0 := 0) rfl rfl, fun U hU hW => ⟨rfl, pz_at hPc hKc hDc hU hW⟩⟩ rfl rfl hl.1 rfl (lv_room (Nat.le_of_ble_eq_true rfl)) dX3_askingsSoFar_9 ⟨Nat.le_of_ble_eq_true rfl, Nat.le_of_ble_eq_true rfl⟩) hS (fun q _ h => hFc q h) hFc (fun r_1 u t H locs ht hvm hw hB hz1 hk1 hS => ?_)
  have hP := pz_keep hP hk1
  have hw : r_1 = 0 := hw
  subst hw
  refine lv_icmp_ge (tgt := 38) hx hb dX3_askingsSoFar_12 (by decide) (fun c_2 => ?_) (fun c_2 => absurd (by decide) c_2)
  refine lv_iload_n hx hb dX3_askingsSoFar_38 rfl (lv_at hl 1 rfl) ?_
  exact W.iret (v := 0) hx hb hr (fun t ht hW => ⟨⟨0, (), rfl, rfl, trivial⟩, hS.F ht⟩) hS.2.2 dX3_askingsSoFar_39

set_option maxHeartbeats 4000000 in
set_option maxRecDepth 100000 in
theorem k_X3_openAskings (l : Launch) (dC : Nat → ClassId) (dI : Nat → Nat → Nat) (h0 : Nat) (q1 : Nat) (q2 : Nat) (q3 : Nat) (q4 : Nat) (q5 : Nat) (z : Nat) (tk : Int32) (sz : Nat) : Met l yX3_openAskings wsX3_openAskings ({ frames := 1, cells := 0, slots := 0, locals := 20 }) (va_Pc [.ref h0] (pzPre (dC, dI) vwCl [(h0, .inr (4, [.ref q1, .ref q2, .ref q3, .ref q4, .ref q5, .int tk, .int 0, .int 3, .int 20, .int 0, .int 0, .int 0, .int 0])), (q1, .inr (0, [.int 0, .ref z, .int 0]))] [] sz)) (va_Qi (fun (r : Int32) (_ : Unit) => r = 0) (fun _ _ => True) (va_A [] sz)) 0 0 (va_A [] sz) := by
  refine Met.ofW (cc := cX3_openAskings) (maxL := 3) (ret := (some .int)) (by decide) rfl ?_
  intro p e s m args below meth c s₁ B hml hv
  obtain ⟨rfl, hsz, hP, hK, hD0⟩ := hv
  have hx := B.exec
  have hb := B.bytes
  have hr := B.returns
  have hts := atoms_spec (ws := wsX3_openAskings) B.pre
  have hown : s.vm.findClass RX3 = some m.cls := findClass_of_methodNamed B.named
  have hlocks := B.notSynchronized
  subst hsz
  have hA : ∀ q : Nat, s.heap.size ≤ q → va_A [] s.heap.size q := fun q h => Or.inr h
  have hD := hD0
  generalize va_A [] s.heap.size = A at hA ⊢
  have hS : va_S A s.heap s.heap [] := va_S.rf
  have hP : va_P (dC, dI) vwCl [(h0, .inr (4, [.ref q1, .ref q2, .ref q3, .ref q4, .ref q5, .int tk, .int 0, .int 3, .int 20, .int 0, .int 0, .int 0, .int 0])), (q1, .inr (0, [.int 0, .ref z, .int 0]))] s.heap := hP
  have hl := lv_entry ([.ref h0]) (n := 3) (Nat.le_of_ble_eq_true rfl)
  rw [lg_entry_eq]
  generalize (lg_sl ([.ref h0]) ++ List.replicate (3 - (lg_sl ([.ref h0])).length) Slot.unset).toArray = ls at hl ⊢
  have hl : lv_has ls 3 [(0, .ref h0)] := hl
  refine lv_iconst (v := 0) hx hb dX3_openAskings_0 (by decide) ?_
  refine lv_istore_n (lv' := [(1, .int 0), (0, .ref h0)]) hx hb dX3_openAskings_1 rfl hl (by decide) rfl (fun ls hl => ?_)
  refine lv_iconst (v := 0) hx hb dX3_openAskings_2 (by decide) ?_
  refine lv_istore_n (lv' := [(2, .int 0), (1, .int 0), (0, .ref h0)]) hx hb dX3_openAskings_3 rfl hl (by decide) rfl (fun ls hl => ?_)
  refine lv_iload_n hx hb dX3_openAskings_4 rfl (lv_at hl 0 rfl) ?_
  refine lv_aload_n hx hb dX3_openAskings_5 rfl (lv_at hl 2 rfl) ?_
  refine va_get (D := (dC, dI)) (ci := 4) (v := .ref q1) (C := RX3) (T := TX3) (N := 13) hx hb hts (fun _ h => List.mem_cons_of_mem _ (List.mem_append_left _ (List.mem_append_left _ (List.mem_append_right _ h)))) hown hK hP 0 rfl rfl 0 (by decide) (hts (.fieldLink RX3 10 "FrontDoor" "servers" "Ljava/util/ArrayList;") (by decide +kernel)) (fun _ h9 => h9) rfl dX3_openAskings_6 ?_
  have hPc := hP.sub (ws' := [(q1, .inr (0, [.int 0, .ref z, .int 0]))]) [1] rfl
  have hDc := hD.sub (ws' := [(q1, .inr (0, [.int 0, .ref z, .int 0]))]) [1] (by decide) rfl
  have hKc := hK.sub (tys' := []) [] rfl
  have hFc := pz_f hA hS
  refine va_calli (va_runV (As := []) (rest := [.int 0]) ⟨hx, hb, hml, hown, hts⟩ (k_Jx4a65c_size_8abf5 l dC dI q1 z s.heap.size) (cwV 0 hts gX3_openAskings_Jx4a65c_size_8abf5 rfl rfl rfl (by decide +kernel) ⟨Nat.le_of_ble_eq_true rfl, Nat.le_of_ble_eq_true rfl⟩) ⟨pz_blind, va_recv hKc hPc (ci := 0) (q0 := 0) rfl rfl, fun U hU hW => ⟨rfl, pz_at hPc hKc hDc hU hW⟩⟩ rfl rfl hl.1 rfl (lv_room (Nat.le_of_ble_eq_true rfl)) dX3_openAskings_9 ⟨Nat.le_of_ble_eq_true rfl, Nat.le_of_ble_eq_true rfl⟩) hS (fun q _ h => hFc q h) hFc (fun r_1 u t H locs ht hvm hw hB hz1 hk1 hS => ?_)
  have hP := pz_keep hP hk1
  have hw : r_1 = 0 := hw
  subst hw
  refine lv_icmp_ge (tgt := 38) hx hb dX3_openAskings_12 (by decide) (fun c_2 => ?_) (fun c_2 => absurd (by decide) c_2)
  refine lv_iload_n hx hb dX3_openAskings_38 rfl (lv_at hl 1 rfl) ?_
  exact W.iret (v := 0) hx hb hr (fun t ht hW => ⟨⟨0, (), rfl, rfl, trivial⟩, hS.F ht⟩) hS.2.2 dX3_openAskings_39

set_option maxHeartbeats 4000000 in
set_option maxRecDepth 100000 in
theorem k_X3_askByRule (l : Launch) (dC : Nat → ClassId) (dI : Nat → Nat → Nat) (h0 : Nat) (q1 : Nat) (q2 : Nat) (q3 : Nat) (q4 : Nat) (q5 : Nat) (z : Nat) (tk : Int32) (c0 : Nat) (n : Int32) (ky : Int32) (gr : Int32) (cm : Int32) (du : Int32) (sf : Int32) (sz : Nat) : Met l yX3_askByRule wsX3_askByRule ({ frames := 3, cells := 0, slots := 0, locals := 67 }) (va_Pc [.ref h0, .ref c0] (pzPre (dC, dI) vwCl [(h0, .inr (4, [.ref q1, .ref q2, .ref q3, .ref q4, .ref q5, .int tk, .int 0, .int 3, .int 20, .int 0, .int 0, .int 0, .int 0])), (q1, .inr (0, [.int 0, .ref z, .int 0])), (c0, .inr (2, [.int n, .int ky, .int gr, .int cm, .int du, .int sf, .int 0, .int 0, .int (-9), .int (-9), .null, .null]))] [] sz)) (va_Qi (fun (r : Int32) (_ : Unit) => r = 0) (fun _ _ => True) (va_A [] sz)) 0 0 (va_A [] sz) := by
  refine Met.ofW (cc := cX3_askByRule) (maxL := 3) (ret := (some .boolean)) (by decide) rfl ?_
  intro p e s m args below meth c s₁ B hml hv
  obtain ⟨rfl, hsz, hP, hK, hD0⟩ := hv
  have hx := B.exec
  have hb := B.bytes
  have hr := B.returns
  have hts := atoms_spec (ws := wsX3_askByRule) B.pre
  have hown : s.vm.findClass RX3 = some m.cls := findClass_of_methodNamed B.named
  have hlocks := B.notSynchronized
  subst hsz
  have hA : ∀ q : Nat, s.heap.size ≤ q → va_A [] s.heap.size q := fun q h => Or.inr h
  have hD := hD0
  generalize va_A [] s.heap.size = A at hA ⊢
  have hS : va_S A s.heap s.heap [] := va_S.rf
  have hP : va_P (dC, dI) vwCl [(h0, .inr (4, [.ref q1, .ref q2, .ref q3, .ref q4, .ref q5, .int tk, .int 0, .int 3, .int 20, .int 0, .int 0, .int 0, .int 0])), (q1, .inr (0, [.int 0, .ref z, .int 0])), (c0, .inr (2, [.int n, .int ky, .int gr, .int cm, .int du, .int sf, .int 0, .int 0, .int (-9), .int (-9), .null, .null]))] s.heap := hP
  have hl := lv_entry ([.ref h0, .ref c0]) (n := 3) (Nat.le_of_ble_eq_true rfl)
  rw [lg_entry_eq]
  generalize (lg_sl ([.ref h0, .ref c0]) ++ List.replicate (3 - (lg_sl ([.ref h0, .ref c0])).length) Slot.unset).toArray = ls at hl ⊢
  have hl : lv_has ls 3 [(0, .ref h0), (1, .ref c0)] := hl
  refine lv_aload_n hx hb dX3_askByRule_0 rfl (lv_at hl 0 rfl) ?_
  refine lv_aload_n hx hb dX3_askByRule_1 rfl (lv_at hl 1 rfl) ?_
  refine va_get (D := (dC, dI)) (ci := 2) (v := .int ky) (C := RX1) (T := TX1) (N := 12) hx hb hts (fun _ h => List.mem_cons_of_mem _ (List.mem_append_left _ (List.mem_append_left _ (List.mem_append_left _ (List.mem_append_left _ (List.mem_append_right _ h)))))) hown hK hP 2 rfl rfl 1 (by decide) (hts (.fieldLink RX3 199 "FrontDoor$Call" "key" "I") (by decide +kernel)) (fun _ h9 => h9) rfl dX3_askByRule_2 ?_
  refine lv_aload_n hx hb dX3_askByRule_5 rfl (lv_at hl 1 rfl) ?_
  refine va_get (D := (dC, dI)) (ci := 2) (v := .int 0) (C := RX1) (T := TX1) (N := 12) hx hb hts (fun _ h => List.mem_cons_of_mem _ (List.mem_append_left _ (List.mem_append_left _ (List.mem_append_left _ (List.mem_append_left _ (List.mem_append_right _ h)))))) hown hK hP 2 rfl rfl 7 (by decide) (hts (.fieldLink RX3 202 "FrontDoor$Call" "tried" "I") (by decide +kernel)) (fun _ h9 => h9) rfl dX3_askByRule_6 ?_
  have hPc := hP.sub (ws' := [(h0, .inr (4, [.ref q1, .ref q2, .ref q3, .ref q4, .ref q5, .int tk, .int 0, .int 3, .int 20, .int 0, .int 0, .int 0, .int 0])), (q1, .inr (0, [.int 0, .ref z, .int 0]))]) [0, 1] rfl
  have hDc := hD.sub (ws' := [(h0, .inr (4, [.ref q1, .ref q2, .ref q3, .ref q4, .ref q5, .int tk, .int 0, .int 3, .int 20, .int 0, .int 0, .int 0, .int 0])), (q1, .inr (0, [.int 0, .ref z, .int 0]))]) [0, 1] (by decide) rfl
  have hKc := hK.sub (tys' := []) [] rfl
  have hFc := pz_f hA hS
  refine va_callq (va_runV (As := [.int ky, .int 0]) (rest := []) ⟨hx, hb, hml, hown, hts⟩ (k_X3_chosen l dC dI h0 q1 q2 q3 q4 q5 z tk ky 0 s.heap.size) (cwV 2 hts gX3_askByRule_X3_chosen rfl rfl rfl (by decide +kernel) ⟨Nat.le_of_ble_eq_true rfl, Nat.le_of_ble_eq_true rfl⟩) ⟨pz_blind, va_recv hKc hPc (ci := 4) (q0 := 0) rfl rfl, fun U hU hW => ⟨rfl, pz_at hPc hKc hDc hU hW⟩⟩ rfl rfl hl.1 rfl (lv_room (Nat.le_of_ble_eq_true rfl)) dX3_askByRule_9 ⟨Nat.le_of_ble_eq_true rfl, Nat.le_of_ble_eq_true rfl⟩) hS (fun q _ h => hFc q h) hFc (fun r_1 u t H locs ht hvm hw hB hz1 hk1 hS => ?_)
  have hP := pz_keep hP hk1
  have hw : r_1 = none := hw
  subst hw
  refine W.eq (g2 := F0 m 12 ls [.null]) rfl ?_
  refine lv_astore_nN (lv' := [(2, .null), (0, .ref h0), (1, .ref c0)]) hx hb dX3_askByRule_12 rfl hl (by decide) rfl (fun ls hl => ?_)
  refine lv_aload_nN hx hb dX3_askByRule_13 rfl (lv_at hl 0 rfl) ?_
  refine lv_ifnonnullN hx hb dX3_askByRule_14 ?_
  refine lv_iconst (v := 0) hx hb dX3_askByRule_17 (by decide) ?_
  exact W.zret (v := 0) hx hb hr rfl (fun t ht hW => ⟨⟨0, (), rfl, rfl, trivial⟩, hS.F ht⟩) hS.2.2 dX3_askByRule_18

set_option maxHeartbeats 4000000 in
set_option maxRecDepth 100000 in
theorem k_X3_joinLine (l : Launch) (dC : Nat → ClassId) (dI : Nat → Nat → Nat) (h0 : Nat) (q1 : Nat) (q2 : Nat) (q3 : Nat) (q4 : Nat) (q5 : Nat) (z : Nat) (tk : Int32) (c0 : Nat) (n : Int32) (ky : Int32) (gr : Int32) (cm : Int32) (du : Int32) (sf : Int32) (sz : Nat) : Met l yX3_joinLine wsX3_joinLine ({ frames := 4, cells := 1, slots := 10, locals := 84 }) (va_Pc [.ref h0, .ref c0] (pzPreZ (dC, dI) vwCl [(h0, .inr (4, [.ref q1, .ref q2, .ref q3, .ref q4, .ref q5, .int tk, .int 0, .int 3, .int 20, .int 0, .int 0, .int 0, .int 0])), (q4, .inr (0, [.int 0, .ref z, .int 0])), (c0, .inr (2, [.int n, .int ky, .int gr, .int cm, .int du, .int sf, .int 0, .int 0, .int (-9), .int (-9), .null, .null]))] [] sz z)) (va_Qv (fun _ : Unit => True) (fun (_ : Unit) (t : State) => va_P (dC, dI) vwCl [(c0, .inr (2, [.int n, .int ky, .int gr, .int cm, .int du, .int sf, .int 0, .int 0, .int (-9), .int (-9), .null, .null]))] t.heap ∧ va_K (dC, dI) vwCl [] t ∧ va_D (va_A [(h0, .inr (4, [.ref q1, .ref q2, .ref q3, .ref q4, .ref q5, .int tk, .int 0, .int 3, .int 20, .int 0, .int 0, .int 0, .int 0])), (q4, .inr (0, [.int 0, .ref z, .int 0])), (c0, .inr (2, [.int n, .int ky, .int gr, .int cm, .int du, .int sf, .int 0, .int 0, .int (-9), .int (-9), .null, .null]))] sz) [(c0, .inr (2, [.int n, .int ky, .int gr, .int cm, .int du, .int sf, .int 0, .int 0, .int (-9), .int (-9), .null, .null]))]) (va_A [(h0, .inr (4, [.ref q1, .ref q2, .ref q3, .ref q4, .ref q5, .int tk, .int 0, .int 3, .int 20, .int 0, .int 0, .int 0, .int 0])), (q4, .inr (0, [.int 0, .ref z, .int 0])), (c0, .inr (2, [.int n, .int ky, .int gr, .int cm, .int du, .int sf, .int 0, .int 0, .int (-9), .int (-9), .null, .null]))] sz)) 1 10 (va_A [(h0, .inr (4, [.ref q1, .ref q2, .ref q3, .ref q4, .ref q5, .int tk, .int 0, .int 3, .int 20, .int 0, .int 0, .int 0, .int 0])), (q4, .inr (0, [.int 0, .ref z, .int 0])), (c0, .inr (2, [.int n, .int ky, .int gr, .int cm, .int du, .int sf, .int 0, .int 0, .int (-9), .int (-9), .null, .null]))] sz) := by
  refine Met.ofW (cc := cX3_joinLine) (maxL := 3) (ret := none) (by decide) rfl ?_
  intro p e s m args below meth c s₁ B hml hv
  obtain ⟨rfl, ⟨hsz, hP, hK, hD0⟩, hZ⟩ := hv
  have hx := B.exec
  have hb := B.bytes
  have hr := B.returns
  have hts := atoms_spec (ws := wsX3_joinLine) B.pre
  have hown : s.vm.findClass RX3 = some m.cls := findClass_of_methodNamed B.named
  have hlocks := B.notSynchronized
  subst hsz
  have hD := hD0.self (sz := s.heap.size)
  generalize hAe : va_A [(h0, .inr (4, [.ref q1, .ref q2, .ref q3, .ref q4, .ref q5, .int tk, .int 0, .int 3, .int 20, .int 0, .int 0, .int 0, .int 0])), (q4, .inr (0, [.int 0, .ref z, .int 0])), (c0, .inr (2, [.int n, .int ky, .int gr, .int cm, .int du, .int sf, .int 0, .int 0, .int (-9), .int (-9), .null, .null]))] s.heap.size = A at hD hZ ⊢
  have hA : ∀ q : Nat, s.heap.size ≤ q → A q := fun q h => by rw [← hAe]; exact Or.inr h
  have hS : va_S A s.heap s.heap [] := va_S.rf
  have hP : va_P (dC, dI) vwCl [(h0, .inr (4, [.ref q1, .ref q2, .ref q3, .ref q4, .ref q5, .int tk, .int 0, .int 3, .int 20, .int 0, .int 0, .int 0, .int 0])), (q4, .inr (0, [.int 0, .ref z, .int 0])), (c0, .inr (2, [.int n, .int ky, .int gr, .int cm, .int du, .int sf, .int 0, .int 0, .int (-9), .int (-9), .null, .null]))] s.heap := hP
  have hl := lv_entry ([.ref h0, .ref c0]) (n := 3) (Nat.le_of_ble_eq_true rfl)
  rw [lg_entry_eq]
  generalize (lg_sl ([.ref h0, .ref c0]) ++ List.replicate (3 - (lg_sl ([.ref h0, .ref c0])).length) Slot.unset).toArray = ls at hl ⊢
  have hl : lv_has ls 3 [(0, .ref h0), (1, .ref c0)] := hl
  refine lv_aload_n hx hb dX3_joinLine_0 rfl (lv_at hl 1 rfl) ?_
  refine lv_iconst (v := 0) hx hb dX3_joinLine_1 (by decide) ?_
  refine va_put (D := (dC, dI)) (ci := 2) (v := .int 0) (ty := .int) (C := RX1) (T := TX1) (N := 12) hx hb hts (fun _ h => List.mem_cons_of_mem _ (List.mem_append_left _ (List.mem_append_left _ (List.mem_append_right _ h)))) tyX1 tyX1_ok nmX1 hown hK hP hD hS 2 rfl rfl 6 (by decide) (hts (.fieldLink RX3 118 "FrontDoor$Call" "state" "I") (by decide +kernel)) (fun _ h9 => h9) rfl (by decide +kernel) rfl rfl (Nat.le_of_ble_eq_true rfl) dX3_joinLine_2 (fun H locs hP hD hS => ?_)
  have hP : va_P (dC, dI) vwCl [(h0, .inr (4, [.ref q1, .ref q2, .ref q3, .ref q4, .ref q5, .int tk, .int 0, .int 3, .int 20, .int 0, .int 0, .int 0, .int 0])), (q4, .inr (0, [.int 0, .ref z, .int 0])), (c0, .inr (2, [.int n, .int ky, .int gr, .int cm, .int du, .int sf, .int 0, .int 0, .int (-9), .int (-9), .null, .null]))] H := hP
  have hD : va_D A [(h0, .inr (4, [.ref q1, .ref q2, .ref q3, .ref q4, .ref q5, .int tk, .int 0, .int 3, .int 20, .int 0, .int 0, .int 0, .int 0])), (q4, .inr (0, [.int 0, .ref z, .int 0])), (c0, .inr (2, [.int n, .int ky, .int gr, .int cm, .int du, .int sf, .int 0, .int 0, .int (-9), .int (-9), .null, .null]))] := hD
  refine lv_iconst (v := 0) hx hb dX3_joinLine_5 (by decide) ?_
  refine lv_istore_n (lv' := [(2, .int 0), (0, .ref h0), (1, .ref c0)]) hx hb dX3_joinLine_6 rfl hl (by decide) rfl (fun ls hl => ?_)
  refine lv_iload_n hx hb dX3_joinLine_7 rfl (lv_at hl 0 rfl) ?_
  refine lv_aload_n hx hb dX3_joinLine_8 rfl (lv_at hl 1 rfl) ?_
  refine va_get (D := (dC, dI)) (ci := 4) (v := .ref q4) (C := RX3) (T := TX3) (N := 13) hx hb hts (fun _ h => List.mem_cons_of_mem _ (List.mem_append_left _ (List.mem_append_right _ h))) hown hK hP 0 rfl rfl 3 (by decide) (hts (.fieldLink RX3 22 "FrontDoor" "line" "Ljava/util/ArrayList;") (by decide +kernel)) (fun _ h9 => h9) rfl dX3_joinLine_9 ?_
  have hPc := hP.sub (ws' := [(q4, .inr (0, [.int 0, .ref z, .int 0]))]) [1] rfl
  have hDc := hD.sub (ws' := [(q4, .inr (0, [.int 0, .ref z, .int 0]))]) [1] (by decide) rfl
  have hKc := hK.sub (tys' := []) [] rfl
  have hFc := pz_f hA hS
  refine va_calli (va_runV (As := []) (rest := [.int 0]) ⟨hx, hb, hml, hown, hts⟩ (k_Jx4a65c_size_8abf5 l dC dI q4 z H.size) (cwV 0 hts gX3_joinLine_Jx4a65c_size_8abf5 rfl rfl rfl (by decide +kernel) ⟨Nat.le_of_ble_eq_true rfl, Nat.le_of_ble_eq_true rfl⟩) ⟨pz_blind, va_recv hKc hPc (ci := 0) (q0 := 0) rfl rfl, fun U hU hW => ⟨rfl, pz_at hPc hKc hDc hU hW⟩⟩ rfl rfl hl.1 rfl (lv_room (Nat.le_of_ble_eq_true rfl)) dX3_joinLine_12 ⟨Nat.le_of_ble_eq_true rfl, Nat.le_of_ble_eq_true rfl⟩) hS (fun q _ h => hFc q h) hFc (fun r_1 u t H locs ht hvm hw hB hz1 hk1 hS => ?_)
  have hP := pz_keep hP hk1
  have hw : r_1 = 0 := hw
  subst hw
  refine lv_icmp_ge (tgt := 42) hx hb dX3_joinLine_15 (by decide) (fun c_2 => ?_) (fun c_2 => absurd (by decide) c_2)
  refine lv_aload_n hx hb dX3_joinLine_42 rfl (lv_at hl 1 rfl) ?_
  refine va_get (D := (dC, dI)) (ci := 4) (v := .ref q4) (C := RX3) (T := TX3) (N := 13) hx hb hts (fun _ h => List.mem_cons_of_mem _ (List.mem_append_left _ (List.mem_append_right _ h))) hown hK hP 0 rfl rfl 3 (by decide) (hts (.fieldLink RX3 22 "FrontDoor" "line" "Ljava/util/ArrayList;") (by decide +kernel)) (fun _ h9 => h9) rfl dX3_joinLine_43 ?_
  refine lv_iload_n hx hb dX3_joinLine_46 rfl (lv_at hl 0 rfl) ?_
  refine lv_aload_n hx hb dX3_joinLine_47 rfl (lv_at hl 2 rfl) ?_
  have hPc := hP.sub (ws' := [(q4, .inr (0, [.int 0, .ref z, .int 0]))]) [1] rfl
  have hDc := hD.sub (ws' := [(q4, .inr (0, [.int 0, .ref z, .int 0]))]) [1] (by decide) rfl
  have hKc := hK.sub (tys' := []) [] rfl
  have hFc := va_free (wc := [(q4, .inr (0, [.int 0, .ref z, .int 0]))]) hD hS hA [1] rfl
  refine va_callv (va_runV (As := [.int 0, .ref c0]) (rest := []) ⟨hx, hb, hml, hown, hts⟩ (k_Jx4a65c_add_7a177 l dC dI q4 z c0 H.size) (cwV 2 hts gX3_joinLine_Jx4a65c_add_7a177 rfl rfl rfl (by decide +kernel) ⟨Nat.le_of_ble_eq_true rfl, Nat.le_of_ble_eq_true rfl⟩) ⟨pz_blindE, va_recv hKc hPc (ci := 0) (q0 := 0) rfl rfl, fun U hU hW => ⟨rfl, ⟨pz_at hPc hKc hDc hU hW, pz_Zat hZ hS hFc hU hW, pz_Enew (pz_rAny hK hP (q0 := 2) (ci := 2) rfl rfl (hZ.2.2.2.2)) (pz_notA hP hD 2 [1] rfl rfl (by decide)) hU hW⟩⟩⟩ rfl rfl hl.1 rfl (lv_room (Nat.le_of_ble_eq_true rfl)) dX3_joinLine_48 ⟨Nat.le_of_ble_eq_true rfl, Nat.le_of_ble_eq_true rfl⟩) hS (fun q _ h => hFc q h) hFc (fun u t H locs ht hvm hw hB hz1 hk1 hS => ?_)
  obtain ⟨hP, hD⟩ := va_join (wr := [(h0, .inr (4, [.ref q1, .ref q2, .ref q3, .ref q4, .ref q5, .int tk, .int 0, .int 3, .int 20, .int 0, .int 0, .int 0, .int 0])), (c0, .inr (2, [.int n, .int ky, .int gr, .int cm, .int du, .int sf, .int 0, .int 0, .int (-9), .int (-9), .null, .null]))]) (w1 := []) hP hD [1] [0, 2] rfl rfl (by decide) (by decide) hk1 hFc pz_nilP pz_nilD
  have hP : va_P (dC, dI) vwCl [(h0, .inr (4, [.ref q1, .ref q2, .ref q3, .ref q4, .ref q5, .int tk, .int 0, .int 3, .int 20, .int 0, .int 0, .int 0, .int 0])), (c0, .inr (2, [.int n, .int ky, .int gr, .int cm, .int du, .int sf, .int 0, .int 0, .int (-9), .int (-9), .null, .null]))] H := hP
  have hD : va_D A [(h0, .inr (4, [.ref q1, .ref q2, .ref q3, .ref q4, .ref q5, .int tk, .int 0, .int 3, .int 20, .int 0, .int 0, .int 0, .int 0])), (c0, .inr (2, [.int n, .int ky, .int gr, .int cm, .int du, .int sf, .int 0, .int 0, .int (-9), .int (-9), .null, .null]))] := hD
  refine W.eq (g2 := F0 m 51 ls []) rfl ?_
  have hP9 := hP.sub (ws' := [(c0, .inr (2, [.int n, .int ky, .int gr, .int cm, .int du, .int sf, .int 0, .int 0, .int (-9), .int (-9), .null, .null]))]) [1] rfl
  have hD9 := hD.sub (ws' := [(c0, .inr (2, [.int n, .int ky, .int gr, .int cm, .int du, .int sf, .int 0, .int 0, .int (-9), .int (-9), .null, .null]))]) [1] (by decide) rfl
  have hK9 := hK.sub (tys' := []) [] rfl
  exact W.vret hx hb hr (fun t ht hW => ⟨⟨(), rfl, trivial, ⟨by rw [ht]; exact hP9, va_K.moved hW.alike hK9, hD9⟩⟩, hS.F ht⟩) hS.2.2 dX3_joinLine_51

set_option maxHeartbeats 4000000 in
set_option maxRecDepth 100000 in
theorem k_X3_takeWhatIsOver (l : Launch) (dC : Nat → ClassId) (dI : Nat → Nat → Nat) (h0 : Nat) (q1 : Nat) (q2 : Nat) (q3 : Nat) (q4 : Nat) (q5 : Nat) (z : Nat) (tk : Int32) (sz : Nat) : Met l yX3_takeWhatIsOver wsX3_takeWhatIsOver ({ frames := 1, cells := 0, slots := 0, locals := 20 }) (va_Pc [.ref h0] (pzPre (dC, dI) vwCl [(h0, .inr (4, [.ref q1, .ref q2, .ref q3, .ref q4, .ref q5, .int tk, .int 0, .int 3, .int 20, .int 0, .int 0, .int 0, .int 0])), (q3, .inr (0, [.int 0, .ref z, .int 0]))] [] sz)) (va_Qv (fun _ : Unit => True) (fun _ _ => True) (va_A [] sz)) 0 0 (va_A [] sz) := by
  refine Met.ofW (cc := cX3_takeWhatIsOver) (maxL := 5) (ret := none) (by decide) rfl ?_
  intro p e s m args below meth c s₁ B hml hv
  obtain ⟨rfl, hsz, hP, hK, hD0⟩ := hv
  have hx := B.exec
  have hb := B.bytes
  have hr := B.returns
  have hts := atoms_spec (ws := wsX3_takeWhatIsOver) B.pre
  have hown : s.vm.findClass RX3 = some m.cls := findClass_of_methodNamed B.named
  have hlocks := B.notSynchronized
  subst hsz
  have hA : ∀ q : Nat, s.heap.size ≤ q → va_A [] s.heap.size q := fun q h => Or.inr h
  have hD := hD0
  generalize va_A [] s.heap.size = A at hA ⊢
  have hS : va_S A s.heap s.heap [] := va_S.rf
  have hP : va_P (dC, dI) vwCl [(h0, .inr (4, [.ref q1, .ref q2, .ref q3, .ref q4, .ref q5, .int tk, .int 0, .int 3, .int 20, .int 0, .int 0, .int 0, .int 0])), (q3, .inr (0, [.int 0, .ref z, .int 0]))] s.heap := hP
  have hl := lv_entry ([.ref h0]) (n := 5) (Nat.le_of_ble_eq_true rfl)
  rw [lg_entry_eq]
  generalize (lg_sl ([.ref h0]) ++ List.replicate (5 - (lg_sl ([.ref h0])).length) Slot.unset).toArray = ls at hl ⊢
  have hl : lv_has ls 5 [(0, .ref h0)] := hl
  refine lv_iconst (v := 0) hx hb dX3_takeWhatIsOver_0 (by decide) ?_
  refine lv_istore_n (lv' := [(1, .int 0), (0, .ref h0)]) hx hb dX3_takeWhatIsOver_1 rfl hl (by decide) rfl (fun ls hl => ?_)
  refine lv_iload_n hx hb dX3_takeWhatIsOver_2 rfl (lv_at hl 0 rfl) ?_
  refine lv_aload_n hx hb dX3_takeWhatIsOver_3 rfl (lv_at hl 1 rfl) ?_
  refine va_get (D := (dC, dI)) (ci := 4) (v := .ref q3) (C := RX3) (T := TX3) (N := 13) hx hb hts (fun _ h => List.mem_cons_of_mem _ (List.mem_append_left _ (List.mem_append_left _ (List.mem_append_left _ (List.mem_append_left _ (List.mem_append_right _ h)))))) hown hK hP 0 rfl rfl 2 (by decide) (hts (.fieldLink RX3 19 "FrontDoor" "live" "Ljava/util/ArrayList;") (by decide +kernel)) (fun _ h9 => h9) rfl dX3_takeWhatIsOver_4 ?_
  have hPc := hP.sub (ws' := [(q3, .inr (0, [.int 0, .ref z, .int 0]))]) [1] rfl
  have hDc := hD.sub (ws' := [(q3, .inr (0, [.int 0, .ref z, .int 0]))]) [1] (by decide) rfl
  have hKc := hK.sub (tys' := []) [] rfl
  have hFc := pz_f hA hS
  refine va_calli (va_runV (As := []) (rest := [.int 0]) ⟨hx, hb, hml, hown, hts⟩ (k_Jx4a65c_size_8abf5 l dC dI q3 z s.heap.size) (cwV 0 hts gX3_takeWhatIsOver_Jx4a65c_size_8abf5 rfl rfl rfl (by decide +kernel) ⟨Nat.le_of_ble_eq_true rfl, Nat.le_of_ble_eq_true rfl⟩) ⟨pz_blind, va_recv hKc hPc (ci := 0) (q0 := 0) rfl rfl, fun U hU hW => ⟨rfl, pz_at hPc hKc hDc hU hW⟩⟩ rfl rfl hl.1 rfl (lv_room (Nat.le_of_ble_eq_true rfl)) dX3_takeWhatIsOver_7 ⟨Nat.le_of_ble_eq_true rfl, Nat.le_of_ble_eq_true rfl⟩) hS (fun q _ h => hFc q h) hFc (fun r_1 u t H locs ht hvm hw hB hz1 hk1 hS => ?_)
  have hP := pz_keep hP hk1
  have hw : r_1 = 0 := hw
  subst hw
  refine lv_icmp_ge (tgt := 95) hx hb dX3_takeWhatIsOver_10 (by decide) (fun c_2 => ?_) (fun c_2 => absurd (by decide) c_2)
  exact W.vret hx hb hr (fun t ht hW => ⟨⟨(), rfl, trivial, trivial⟩, hS.F ht⟩) hS.2.2 dX3_takeWhatIsOver_95

set_option maxHeartbeats 4000000 in
set_option maxRecDepth 100000 in
theorem k_X3_meetDues (l : Launch) (dC : Nat → ClassId) (dI : Nat → Nat → Nat) (h0 : Nat) (q1 : Nat) (q2 : Nat) (q3 : Nat) (q4 : Nat) (q5 : Nat) (z : Nat) (tk : Int32) (sz : Nat) : Met l yX3_meetDues wsX3_meetDues ({ frames := 1, cells := 0, slots := 0, locals := 20 }) (va_Pc [.ref h0] (pzPre (dC, dI) vwCl [(h0, .inr (4, [.ref q1, .ref q2, .ref q3, .ref q4, .ref q5, .int tk, .int 0, .int 3, .int 20, .int 0, .int 0, .int 0, .int 0])), (q3, .inr (0, [.int 0, .ref z, .int 0]))] [] sz)) (va_Qv (fun _ : Unit => True) (fun _ _ => True) (va_A [] sz)) 0 0 (va_A [] sz) := by
  refine Met.ofW (cc := cX3_meetDues) (maxL := 3) (ret := none) (by decide) rfl ?_
  intro p e s m args below meth c s₁ B hml hv
  obtain ⟨rfl, hsz, hP, hK, hD0⟩ := hv
  have hx := B.exec
  have hb := B.bytes
  have hr := B.returns
  have hts := atoms_spec (ws := wsX3_meetDues) B.pre
  have hown : s.vm.findClass RX3 = some m.cls := findClass_of_methodNamed B.named
  have hlocks := B.notSynchronized
  subst hsz
  have hA : ∀ q : Nat, s.heap.size ≤ q → va_A [] s.heap.size q := fun q h => Or.inr h
  have hD := hD0
  generalize va_A [] s.heap.size = A at hA ⊢
  have hS : va_S A s.heap s.heap [] := va_S.rf
  have hP : va_P (dC, dI) vwCl [(h0, .inr (4, [.ref q1, .ref q2, .ref q3, .ref q4, .ref q5, .int tk, .int 0, .int 3, .int 20, .int 0, .int 0, .int 0, .int 0])), (q3, .inr (0, [.int 0, .ref z, .int 0]))] s.heap := hP
  have hl := lv_entry ([.ref h0]) (n := 3) (Nat.le_of_ble_eq_true rfl)
  rw [lg_entry_eq]
  generalize (lg_sl ([.ref h0]) ++ List.replicate (3 - (lg_sl ([.ref h0])).length) Slot.unset).toArray = ls at hl ⊢
  have hl : lv_has ls 3 [(0, .ref h0)] := hl
  refine lv_iconst (v := 0) hx hb dX3_meetDues_0 (by decide) ?_
  refine lv_istore_n (lv' := [(1, .int 0), (0, .ref h0)]) hx hb dX3_meetDues_1 rfl hl (by decide) rfl (fun ls hl => ?_)
  refine lv_iload_n hx hb dX3_meetDues_2 rfl (lv_at hl 0 rfl) ?_
  refine lv_aload_n hx hb dX3_meetDues_3 rfl (lv_at hl 1 rfl) ?_
  refine va_get (D := (dC, dI)) (ci := 4) (v := .ref q3) (C := RX3) (T := TX3) (N := 13) hx hb hts (fun _ h => List.mem_cons_of_mem _ (List.mem_append_left _ (List.mem_append_left _ (List.mem_append_left _ (List.mem_append_left _ (List.mem_append_right _ h)))))) hown hK hP 0 rfl rfl 2 (by decide) (hts (.fieldLink RX3 19 "FrontDoor" "live" "Ljava/util/ArrayList;") (by decide +kernel)) (fun _ h9 => h9) rfl dX3_meetDues_4 ?_
  have hPc := hP.sub (ws' := [(q3, .inr (0, [.int 0, .ref z, .int 0]))]) [1] rfl
  have hDc := hD.sub (ws' := [(q3, .inr (0, [.int 0, .ref z, .int 0]))]) [1] (by decide) rfl
  have hKc := hK.sub (tys' := []) [] rfl
  have hFc := pz_f hA hS
  refine va_calli (va_runV (As := []) (rest := [.int 0]) ⟨hx, hb, hml, hown, hts⟩ (k_Jx4a65c_size_8abf5 l dC dI q3 z s.heap.size) (cwV 0 hts gX3_meetDues_Jx4a65c_size_8abf5 rfl rfl rfl (by decide +kernel) ⟨Nat.le_of_ble_eq_true rfl, Nat.le_of_ble_eq_true rfl⟩) ⟨pz_blind, va_recv hKc hPc (ci := 0) (q0 := 0) rfl rfl, fun U hU hW => ⟨rfl, pz_at hPc hKc hDc hU hW⟩⟩ rfl rfl hl.1 rfl (lv_room (Nat.le_of_ble_eq_true rfl)) dX3_meetDues_7 ⟨Nat.le_of_ble_eq_true rfl, Nat.le_of_ble_eq_true rfl⟩) hS (fun q _ h => hFc q h) hFc (fun r_1 u t H locs ht hvm hw hB hz1 hk1 hS => ?_)
  have hP := pz_keep hP hk1
  have hw : r_1 = 0 := hw
  subst hw
  refine lv_icmp_ge (tgt := 79) hx hb dX3_meetDues_10 (by decide) (fun c_2 => ?_) (fun c_2 => absurd (by decide) c_2)
  exact W.vret hx hb hr (fun t ht hW => ⟨⟨(), rfl, trivial, trivial⟩, hS.F ht⟩) hS.2.2 dX3_meetDues_79

set_option maxHeartbeats 4000000 in
set_option maxRecDepth 100000 in
theorem k_X3_dropEnded (l : Launch) (dC : Nat → ClassId) (dI : Nat → Nat → Nat) (h0 : Nat) (q1 : Nat) (q2 : Nat) (q3 : Nat) (q4 : Nat) (q5 : Nat) (z : Nat) (tk : Int32) (sz : Nat) : Met l yX3_dropEnded wsX3_dropEnded ({ frames := 1, cells := 0, slots := 0, locals := 20 }) (va_Pc [.ref h0] (pzPre (dC, dI) vwCl [(h0, .inr (4, [.ref q1, .ref q2, .ref q3, .ref q4, .ref q5, .int tk, .int 0, .int 3, .int 20, .int 0, .int 0, .int 0, .int 0])), (q3, .inr (0, [.int 0, .ref z, .int 0]))] [] sz)) (va_Qv (fun _ : Unit => True) (fun _ _ => True) (va_A [] sz)) 0 0 (va_A [] sz) := by
  refine Met.ofW (cc := cX3_dropEnded) (maxL := 2) (ret := none) (by decide) rfl ?_
  intro p e s m args below meth c s₁ B hml hv
  obtain ⟨rfl, hsz, hP, hK, hD0⟩ := hv
  have hx := B.exec
  have hb := B.bytes
  have hr := B.returns
  have hts := atoms_spec (ws := wsX3_dropEnded) B.pre
  have hown : s.vm.findClass RX3 = some m.cls := findClass_of_methodNamed B.named
  have hlocks := B.notSynchronized
  subst hsz
  have hA : ∀ q : Nat, s.heap.size ≤ q → va_A [] s.heap.size q := fun q h => Or.inr h
  have hD := hD0
  generalize va_A [] s.heap.size = A at hA ⊢
  have hS : va_S A s.heap s.heap [] := va_S.rf
  have hP : va_P (dC, dI) vwCl [(h0, .inr (4, [.ref q1, .ref q2, .ref q3, .ref q4, .ref q5, .int tk, .int 0, .int 3, .int 20, .int 0, .int 0, .int 0, .int 0])), (q3, .inr (0, [.int 0, .ref z, .int 0]))] s.heap := hP
  have hl := lv_entry ([.ref h0]) (n := 2) (Nat.le_of_ble_eq_true rfl)
  rw [lg_entry_eq]
  generalize (lg_sl ([.ref h0]) ++ List.replicate (2 - (lg_sl ([.ref h0])).length) Slot.unset).toArray = ls at hl ⊢
  have hl : lv_has ls 2 [(0, .ref h0)] := hl
  refine lv_aload_n hx hb dX3_dropEnded_0 rfl (lv_at hl 0 rfl) ?_
  refine va_get (D := (dC, dI)) (ci := 4) (v := .ref q3) (C := RX3) (T := TX3) (N := 13) hx hb hts (fun _ h => List.mem_cons_of_mem _ (List.mem_append_left _ (List.mem_append_left _ (List.mem_append_right _ h)))) hown hK hP 0 rfl rfl 2 (by decide) (hts (.fieldLink RX3 19 "FrontDoor" "live" "Ljava/util/ArrayList;") (by decide +kernel)) (fun _ h9 => h9) rfl dX3_dropEnded_1 ?_
  have hPc := hP.sub (ws' := [(q3, .inr (0, [.int 0, .ref z, .int 0]))]) [1] rfl
  have hDc := hD.sub (ws' := [(q3, .inr (0, [.int 0, .ref z, .int 0]))]) [1] (by decide) rfl
  have hKc := hK.sub (tys' := []) [] rfl
  have hFc := pz_f hA hS
  refine va_calli (va_runV (As := []) (rest := []) ⟨hx, hb, hml, hown, hts⟩ (k_Jx4a65c_size_8abf5 l dC dI q3 z s.heap.size) (cwV 0 hts gX3_dropEnded_Jx4a65c_size_8abf5 rfl rfl rfl (by decide +kernel) ⟨Nat.le_of_ble_eq_true rfl, Nat.le_of_ble_eq_true rfl⟩) ⟨pz_blind, va_recv hKc hPc (ci := 0) (q0 := 0) rfl rfl, fun U hU hW => ⟨rfl, pz_at hPc hKc hDc hU hW⟩⟩ rfl rfl hl.1 rfl (lv_room (Nat.le_of_ble_eq_true rfl)) dX3_dropEnded_4 ⟨Nat.le_of_ble_eq_true rfl, Nat.le_of_ble_eq_true rfl⟩) hS (fun q _ h => hFc q h) hFc (fun r_1 u t H locs ht hvm hw hB hz1 hk1 hS => ?_)
  have hP := pz_keep hP hk1
  have hw : r_1 = 0 := hw
  subst hw
  refine lv_iconst (v := 1) hx hb dX3_dropEnded_7 (by decide) ?_
  refine lv_isub hx hb dX3_dropEnded_8 ?_
  refine lv_topi (fun x_2 ex_2 => ?_)
  obtain rfl : x_2 = (-1) := ex_2.trans (by decide)
  refine lv_istore_n (lv' := [(1, .int (-1)), (0, .ref h0)]) hx hb dX3_dropEnded_9 rfl hl (by decide) rfl (fun ls hl => ?_)
  refine lv_iload_n hx hb dX3_dropEnded_10 rfl (lv_at hl 0 rfl) ?_
  refine lv_if_lt (tgt := 46) hx hb dX3_dropEnded_11 (by decide) (fun c_3 => ?_) (fun c_3 => absurd (by decide) c_3)
  exact W.vret hx hb hr (fun t ht hW => ⟨⟨(), rfl, trivial, trivial⟩, hS.F ht⟩) hS.2.2 dX3_dropEnded_46

set_option maxHeartbeats 4000000 in
set_option maxRecDepth 100000 in
theorem k_X3_tryThoseOut (l : Launch) (dC : Nat → ClassId) (dI : Nat → Nat → Nat) (h0 : Nat) (q1 : Nat) (q2 : Nat) (q3 : Nat) (q4 : Nat) (q5 : Nat) (z : Nat) (tk : Int32) (sz : Nat) : Met l yX3_tryThoseOut wsX3_tryThoseOut ({ frames := 1, cells := 0, slots := 0, locals := 20 }) (va_Pc [.ref h0] (pzPre (dC, dI) vwCl [(h0, .inr (4, [.ref q1, .ref q2, .ref q3, .ref q4, .ref q5, .int tk, .int 0, .int 3, .int 20, .int 0, .int 0, .int 0, .int 0])), (q1, .inr (0, [.int 0, .ref z, .int 0]))] [] sz)) (va_Qv (fun _ : Unit => True) (fun _ _ => True) (va_A [] sz)) 0 0 (va_A [] sz) := by
  refine Met.ofW (cc := cX3_tryThoseOut) (maxL := 3) (ret := none) (by decide) rfl ?_
  intro p e s m args below meth c s₁ B hml hv
  obtain ⟨rfl, hsz, hP, hK, hD0⟩ := hv
  have hx := B.exec
  have hb := B.bytes
  have hr := B.returns
  have hts := atoms_spec (ws := wsX3_tryThoseOut) B.pre
  have hown : s.vm.findClass RX3 = some m.cls := findClass_of_methodNamed B.named
  have hlocks := B.notSynchronized
  subst hsz
  have hA : ∀ q : Nat, s.heap.size ≤ q → va_A [] s.heap.size q := fun q h => Or.inr h
  have hD := hD0
  generalize va_A [] s.heap.size = A at hA ⊢
  have hS : va_S A s.heap s.heap [] := va_S.rf
  have hP : va_P (dC, dI) vwCl [(h0, .inr (4, [.ref q1, .ref q2, .ref q3, .ref q4, .ref q5, .int tk, .int 0, .int 3, .int 20, .int 0, .int 0, .int 0, .int 0])), (q1, .inr (0, [.int 0, .ref z, .int 0]))] s.heap := hP
  have hl := lv_entry ([.ref h0]) (n := 3) (Nat.le_of_ble_eq_true rfl)
  rw [lg_entry_eq]
  generalize (lg_sl ([.ref h0]) ++ List.replicate (3 - (lg_sl ([.ref h0])).length) Slot.unset).toArray = ls at hl ⊢
  have hl : lv_has ls 3 [(0, .ref h0)] := hl
  refine lv_iconst (v := 0) hx hb dX3_tryThoseOut_0 (by decide) ?_
  refine lv_istore_n (lv' := [(1, .int 0), (0, .ref h0)]) hx hb dX3_tryThoseOut_1 rfl hl (by decide) rfl (fun ls hl => ?_)
  refine lv_iload_n hx hb dX3_tryThoseOut_2 rfl (lv_at hl 0 rfl) ?_
  refine lv_aload_n hx hb dX3_tryThoseOut_3 rfl (lv_at hl 1 rfl) ?_
  refine va_get (D := (dC, dI)) (ci := 4) (v := .ref q1) (C := RX3) (T := TX3) (N := 13) hx hb hts (fun _ h => List.mem_cons_of_mem _ (List.mem_append_left _ (List.mem_append_left _ (List.mem_append_right _ h)))) hown hK hP 0 rfl rfl 0 (by decide) (hts (.fieldLink RX3 10 "FrontDoor" "servers" "Ljava/util/ArrayList;") (by decide +kernel)) (fun _ h9 => h9) rfl dX3_tryThoseOut_4 ?_
  have hPc := hP.sub (ws' := [(q1, .inr (0, [.int 0, .ref z, .int 0]))]) [1] rfl
  have hDc := hD.sub (ws' := [(q1, .inr (0, [.int 0, .ref z, .int 0]))]) [1] (by decide) rfl
  have hKc := hK.sub (tys' := []) [] rfl
  have hFc := pz_f hA hS
  refine va_calli (va_runV (As := []) (rest := [.int 0]) ⟨hx, hb, hml, hown, hts⟩ (k_Jx4a65c_size_8abf5 l dC dI q1 z s.heap.size) (cwV 0 hts gX3_tryThoseOut_Jx4a65c_size_8abf5 rfl rfl rfl (by decide +kernel) ⟨Nat.le_of_ble_eq_true rfl, Nat.le_of_ble_eq_true rfl⟩) ⟨pz_blind, va_recv hKc hPc (ci := 0) (q0 := 0) rfl rfl, fun U hU hW => ⟨rfl, pz_at hPc hKc hDc hU hW⟩⟩ rfl rfl hl.1 rfl (lv_room (Nat.le_of_ble_eq_true rfl)) dX3_tryThoseOut_7 ⟨Nat.le_of_ble_eq_true rfl, Nat.le_of_ble_eq_true rfl⟩) hS (fun q _ h => hFc q h) hFc (fun r_1 u t H locs ht hvm hw hB hz1 hk1 hS => ?_)
  have hP := pz_keep hP hk1
  have hw : r_1 = 0 := hw
  subst hw
  refine lv_icmp_ge (tgt := 55) hx hb dX3_tryThoseOut_10 (by decide) (fun c_2 => ?_) (fun c_2 => absurd (by decide) c_2)
  exact W.vret hx hb hr (fun t ht hW => ⟨⟨(), rfl, trivial, trivial⟩, hS.F ht⟩) hS.2.2 dX3_tryThoseOut_55

set_option maxHeartbeats 4000000 in
set_option maxRecDepth 100000 in
theorem k_X3_hedgeSlow (l : Launch) (dC : Nat → ClassId) (dI : Nat → Nat → Nat) (h0 : Nat) (q1 : Nat) (q2 : Nat) (q3 : Nat) (q4 : Nat) (q5 : Nat) (z : Nat) (tk : Int32) (sz : Nat) : Met l yX3_hedgeSlow wsX3_hedgeSlow ({ frames := 0, cells := 0, slots := 0, locals := 0 }) (va_Pc [.ref h0] (pzPre (dC, dI) vwCl [(h0, .inr (4, [.ref q1, .ref q2, .ref q3, .ref q4, .ref q5, .int tk, .int 0, .int 3, .int 20, .int 0, .int 0, .int 0, .int 0])), (q3, .inr (0, [.int 0, .ref z, .int 0]))] [] sz)) (va_Qv (fun _ : Unit => True) (fun _ _ => True) (va_A [] sz)) 0 0 (va_A [] sz) := by
  refine Met.ofW (cc := cX3_hedgeSlow) (maxL := 5) (ret := none) (by decide) rfl ?_
  intro p e s m args below meth c s₁ B hml hv
  obtain ⟨rfl, hsz, hP, hK, hD0⟩ := hv
  have hx := B.exec
  have hb := B.bytes
  have hr := B.returns
  have hts := atoms_spec (ws := wsX3_hedgeSlow) B.pre
  have hown : s.vm.findClass RX3 = some m.cls := findClass_of_methodNamed B.named
  have hlocks := B.notSynchronized
  subst hsz
  have hA : ∀ q : Nat, s.heap.size ≤ q → va_A [] s.heap.size q := fun q h => Or.inr h
  have hD := hD0
  generalize va_A [] s.heap.size = A at hA ⊢
  have hS : va_S A s.heap s.heap [] := va_S.rf
  have hP : va_P (dC, dI) vwCl [(h0, .inr (4, [.ref q1, .ref q2, .ref q3, .ref q4, .ref q5, .int tk, .int 0, .int 3, .int 20, .int 0, .int 0, .int 0, .int 0])), (q3, .inr (0, [.int 0, .ref z, .int 0]))] s.heap := hP
  have hl := lv_entry ([.ref h0]) (n := 5) (Nat.le_of_ble_eq_true rfl)
  rw [lg_entry_eq]
  generalize (lg_sl ([.ref h0]) ++ List.replicate (5 - (lg_sl ([.ref h0])).length) Slot.unset).toArray = ls at hl ⊢
  have hl : lv_has ls 5 [(0, .ref h0)] := hl
  refine lv_aload_n hx hb dX3_hedgeSlow_0 rfl (lv_at hl 0 rfl) ?_
  refine va_get (D := (dC, dI)) (ci := 4) (v := .int 0) (C := RX3) (T := TX3) (N := 13) hx hb hts (fun _ h => List.mem_cons_of_mem _ (List.mem_append_left _ (List.mem_append_left _ (List.mem_append_left _ (List.mem_append_left _ (List.mem_append_right _ h)))))) hown hK hP 0 rfl rfl 9 (by decide) (hts (.fieldLink RX3 89 "FrontDoor" "hedgeNow" "I") (by decide +kernel)) (fun _ h9 => h9) rfl dX3_hedgeSlow_1 ?_
  refine lv_if_ne (tgt := 8) hx hb dX3_hedgeSlow_4 (by decide) (fun c_1 => absurd c_1 (by decide)) (fun c_1 => ?_)
  exact W.vret hx hb hr (fun t ht hW => ⟨⟨(), rfl, trivial, trivial⟩, hS.F ht⟩) hS.2.2 dX3_hedgeSlow_7

set_option maxHeartbeats 4000000 in
set_option maxRecDepth 100000 in
theorem k_X3_askQueued (l : Launch) (dC : Nat → ClassId) (dI : Nat → Nat → Nat) (h0 : Nat) (q1 : Nat) (q2 : Nat) (q3 : Nat) (q4 : Nat) (q5 : Nat) (z : Nat) (tk : Int32) (sz : Nat) : Met l yX3_askQueued wsX3_askQueued ({ frames := 1, cells := 0, slots := 0, locals := 20 }) (va_Pc [.ref h0] (pzPre (dC, dI) vwCl [(h0, .inr (4, [.ref q1, .ref q2, .ref q3, .ref q4, .ref q5, .int tk, .int 0, .int 3, .int 20, .int 0, .int 0, .int 0, .int 0])), (q4, .inr (0, [.int 0, .ref z, .int 0]))] [] sz)) (va_Qv (fun _ : Unit => True) (fun _ _ => True) (va_A [] sz)) 0 0 (va_A [] sz) := by
  refine Met.ofW (cc := cX3_askQueued) (maxL := 4) (ret := none) (by decide) rfl ?_
  intro p e s m args below meth c s₁ B hml hv
  obtain ⟨rfl, hsz, hP, hK, hD0⟩ := hv
  have hx := B.exec
  have hb := B.bytes
  have hr := B.returns
  have hts := atoms_spec (ws := wsX3_askQueued) B.pre
  have hown : s.vm.findClass RX3 = some m.cls := findClass_of_methodNamed B.named
  have hlocks := B.notSynchronized
  subst hsz
  have hA : ∀ q : Nat, s.heap.size ≤ q → va_A [] s.heap.size q := fun q h => Or.inr h
  have hD := hD0
  generalize va_A [] s.heap.size = A at hA ⊢
  have hS : va_S A s.heap s.heap [] := va_S.rf
  have hP : va_P (dC, dI) vwCl [(h0, .inr (4, [.ref q1, .ref q2, .ref q3, .ref q4, .ref q5, .int tk, .int 0, .int 3, .int 20, .int 0, .int 0, .int 0, .int 0])), (q4, .inr (0, [.int 0, .ref z, .int 0]))] s.heap := hP
  have hl := lv_entry ([.ref h0]) (n := 4) (Nat.le_of_ble_eq_true rfl)
  rw [lg_entry_eq]
  generalize (lg_sl ([.ref h0]) ++ List.replicate (4 - (lg_sl ([.ref h0])).length) Slot.unset).toArray = ls at hl ⊢
  have hl : lv_has ls 4 [(0, .ref h0)] := hl
  refine lv_aload_n hx hb dX3_askQueued_0 rfl (lv_at hl 0 rfl) ?_
  refine va_get (D := (dC, dI)) (ci := 4) (v := .ref q4) (C := RX3) (T := TX3) (N := 13) hx hb hts (fun _ h => List.mem_cons_of_mem _ (List.mem_append_left _ (List.mem_append_left _ (List.mem_append_left _ (List.mem_append_left _ (List.mem_append_right _ h)))))) hown hK hP 0 rfl rfl 3 (by decide) (hts (.fieldLink RX3 22 "FrontDoor" "line" "Ljava/util/ArrayList;") (by decide +kernel)) (fun _ h9 => h9) rfl dX3_askQueued_1 ?_
  have hPc := hP.sub (ws' := [(q4, .inr (0, [.int 0, .ref z, .int 0]))]) [1] rfl
  have hDc := hD.sub (ws' := [(q4, .inr (0, [.int 0, .ref z, .int 0]))]) [1] (by decide) rfl
  have hKc := hK.sub (tys' := []) [] rfl
  have hFc := pz_f hA hS
  refine va_calli (va_runV (As := []) (rest := []) ⟨hx, hb, hml, hown, hts⟩ (k_Jx4a65c_size_8abf5 l dC dI q4 z s.heap.size) (cwV 0 hts gX3_askQueued_Jx4a65c_size_8abf5 rfl rfl rfl (by decide +kernel) ⟨Nat.le_of_ble_eq_true rfl, Nat.le_of_ble_eq_true rfl⟩) ⟨pz_blind, va_recv hKc hPc (ci := 0) (q0 := 0) rfl rfl, fun U hU hW => ⟨rfl, pz_at hPc hKc hDc hU hW⟩⟩ rfl rfl hl.1 rfl (lv_room (Nat.le_of_ble_eq_true rfl)) dX3_askQueued_4 ⟨Nat.le_of_ble_eq_true rfl, Nat.le_of_ble_eq_true rfl⟩) hS (fun q _ h => hFc q h) hFc (fun r_1 u t H locs ht hvm hw hB hz1 hk1 hS => ?_)
  have hP := pz_keep hP hk1
  have hw : r_1 = 0 := hw
  subst hw
  refine lv_istore_n (lv' := [(1, .int 0), (0, .ref h0)]) hx hb dX3_askQueued_7 rfl hl (by decide) rfl (fun ls hl => ?_)
  refine lv_iconst (v := 0) hx hb dX3_askQueued_8 (by decide) ?_
  refine lv_istore_n (lv' := [(2, .int 0), (1, .int 0), (0, .ref h0)]) hx hb dX3_askQueued_9 rfl hl (by decide) rfl (fun ls hl => ?_)
  refine lv_iconst (v := 0) hx hb dX3_askQueued_10 (by decide) ?_
  refine lv_istore_n (lv' := [(3, .int 0), (2, .int 0), (1, .int 0), (0, .ref h0)]) hx hb dX3_askQueued_11 rfl hl (by decide) rfl (fun ls hl => ?_)
  refine lv_iload_n hx hb dX3_askQueued_12 rfl (lv_at hl 0 rfl) ?_
  refine lv_iload_n hx hb dX3_askQueued_13 rfl (lv_at hl 2 rfl) ?_
  refine lv_icmp_ge (tgt := 67) hx hb dX3_askQueued_14 (by decide) (fun c_2 => ?_) (fun c_2 => absurd (by decide) c_2)
  exact W.vret hx hb hr (fun t ht hW => ⟨⟨(), rfl, trivial, trivial⟩, hS.F ht⟩) hS.2.2 dX3_askQueued_67

set_option maxHeartbeats 4000000 in
set_option maxRecDepth 100000 in
theorem k_X3_letDrainedGo (l : Launch) (dC : Nat → ClassId) (dI : Nat → Nat → Nat) (h0 : Nat) (q1 : Nat) (q2 : Nat) (q3 : Nat) (q4 : Nat) (q5 : Nat) (z : Nat) (tk : Int32) (sz : Nat) : Met l yX3_letDrainedGo wsX3_letDrainedGo ({ frames := 1, cells := 0, slots := 0, locals := 20 }) (va_Pc [.ref h0] (pzPre (dC, dI) vwCl [(h0, .inr (4, [.ref q1, .ref q2, .ref q3, .ref q4, .ref q5, .int tk, .int 0, .int 3, .int 20, .int 0, .int 0, .int 0, .int 0])), (q1, .inr (0, [.int 0, .ref z, .int 0]))] [] sz)) (va_Qv (fun _ : Unit => True) (fun _ _ => True) (va_A [] sz)) 0 0 (va_A [] sz) := by
  refine Met.ofW (cc := cX3_letDrainedGo) (maxL := 3) (ret := none) (by decide) rfl ?_
  intro p e s m args below meth c s₁ B hml hv
  obtain ⟨rfl, hsz, hP, hK, hD0⟩ := hv
  have hx := B.exec
  have hb := B.bytes
  have hr := B.returns
  have hts := atoms_spec (ws := wsX3_letDrainedGo) B.pre
  have hown : s.vm.findClass RX3 = some m.cls := findClass_of_methodNamed B.named
  have hlocks := B.notSynchronized
  subst hsz
  have hA : ∀ q : Nat, s.heap.size ≤ q → va_A [] s.heap.size q := fun q h => Or.inr h
  have hD := hD0
  generalize va_A [] s.heap.size = A at hA ⊢
  have hS : va_S A s.heap s.heap [] := va_S.rf
  have hP : va_P (dC, dI) vwCl [(h0, .inr (4, [.ref q1, .ref q2, .ref q3, .ref q4, .ref q5, .int tk, .int 0, .int 3, .int 20, .int 0, .int 0, .int 0, .int 0])), (q1, .inr (0, [.int 0, .ref z, .int 0]))] s.heap := hP
  have hl := lv_entry ([.ref h0]) (n := 3) (Nat.le_of_ble_eq_true rfl)
  rw [lg_entry_eq]
  generalize (lg_sl ([.ref h0]) ++ List.replicate (3 - (lg_sl ([.ref h0])).length) Slot.unset).toArray = ls at hl ⊢
  have hl : lv_has ls 3 [(0, .ref h0)] := hl
  refine lv_iconst (v := 0) hx hb dX3_letDrainedGo_0 (by decide) ?_
  refine lv_istore_n (lv' := [(1, .int 0), (0, .ref h0)]) hx hb dX3_letDrainedGo_1 rfl hl (by decide) rfl (fun ls hl => ?_)
  refine lv_iload_n hx hb dX3_letDrainedGo_2 rfl (lv_at hl 0 rfl) ?_
  refine lv_aload_n hx hb dX3_letDrainedGo_3 rfl (lv_at hl 1 rfl) ?_
  refine va_get (D := (dC, dI)) (ci := 4) (v := .ref q1) (C := RX3) (T := TX3) (N := 13) hx hb hts (fun _ h => List.mem_cons_of_mem _ (List.mem_append_left _ (List.mem_append_left _ (List.mem_append_right _ h)))) hown hK hP 0 rfl rfl 0 (by decide) (hts (.fieldLink RX3 10 "FrontDoor" "servers" "Ljava/util/ArrayList;") (by decide +kernel)) (fun _ h9 => h9) rfl dX3_letDrainedGo_4 ?_
  have hPc := hP.sub (ws' := [(q1, .inr (0, [.int 0, .ref z, .int 0]))]) [1] rfl
  have hDc := hD.sub (ws' := [(q1, .inr (0, [.int 0, .ref z, .int 0]))]) [1] (by decide) rfl
  have hKc := hK.sub (tys' := []) [] rfl
  have hFc := pz_f hA hS
  refine va_calli (va_runV (As := []) (rest := [.int 0]) ⟨hx, hb, hml, hown, hts⟩ (k_Jx4a65c_size_8abf5 l dC dI q1 z s.heap.size) (cwV 0 hts gX3_letDrainedGo_Jx4a65c_size_8abf5 rfl rfl rfl (by decide +kernel) ⟨Nat.le_of_ble_eq_true rfl, Nat.le_of_ble_eq_true rfl⟩) ⟨pz_blind, va_recv hKc hPc (ci := 0) (q0 := 0) rfl rfl, fun U hU hW => ⟨rfl, pz_at hPc hKc hDc hU hW⟩⟩ rfl rfl hl.1 rfl (lv_room (Nat.le_of_ble_eq_true rfl)) dX3_letDrainedGo_7 ⟨Nat.le_of_ble_eq_true rfl, Nat.le_of_ble_eq_true rfl⟩) hS (fun q _ h => hFc q h) hFc (fun r_1 u t H locs ht hvm hw hB hz1 hk1 hS => ?_)
  have hP := pz_keep hP hk1
  have hw : r_1 = 0 := hw
  subst hw
  refine lv_icmp_ge (tgt := 51) hx hb dX3_letDrainedGo_10 (by decide) (fun c_2 => ?_) (fun c_2 => absurd (by decide) c_2)
  exact W.vret hx hb hr (fun t ht hW => ⟨⟨(), rfl, trivial, trivial⟩, hS.F ht⟩) hS.2.2 dX3_letDrainedGo_51

set_option maxHeartbeats 4000000 in
set_option maxRecDepth 100000 in
theorem k_X3_passTick (l : Launch) (dC : Nat → ClassId) (dI : Nat → Nat → Nat) (h0 : Nat) (q1 : Nat) (q2 : Nat) (q3 : Nat) (q4 : Nat) (q5 : Nat) (z : Nat) (tk : Int32) (sz : Nat) : Met l yX3_passTick wsX3_passTick ({ frames := 2, cells := 0, slots := 0, locals := 44 }) (va_Pc [.ref h0] (pzPre (dC, dI) vwCl [(h0, .inr (4, [.ref q1, .ref q2, .ref q3, .ref q4, .ref q5, .int tk, .int 0, .int 3, .int 20, .int 0, .int 0, .int 0, .int 0])), (q1, .inr (0, [.int 0, .ref z, .int 0])), (q3, .inr (0, [.int 0, .ref z, .int 0])), (q4, .inr (0, [.int 0, .ref z, .int 0]))] [] sz)) (va_Qv (fun _ : Unit => True) (fun (_ : Unit) (t : State) => va_P (dC, dI) vwCl [(h0, .inr (4, [.ref q1, .ref q2, .ref q3, .ref q4, .ref q5, .int (tk + 1), .int 0, .int 3, .int 20, .int 0, .int 0, .int 0, .int 0])), (q1, .inr (0, [.int 0, .ref z, .int 0])), (q3, .inr (0, [.int 0, .ref z, .int 0])), (q4, .inr (0, [.int 0, .ref z, .int 0]))] t.heap ∧ va_K (dC, dI) vwCl [] t ∧ va_D (va_A [(h0, .inr (4, [.ref q1, .ref q2, .ref q3, .ref q4, .ref q5, .int tk, .int 0, .int 3, .int 20, .int 0, .int 0, .int 0, .int 0])), (q1, .inr (0, [.int 0, .ref z, .int 0])), (q3, .inr (0, [.int 0, .ref z, .int 0])), (q4, .inr (0, [.int 0, .ref z, .int 0]))] sz) [(h0, .inr (4, [.ref q1, .ref q2, .ref q3, .ref q4, .ref q5, .int (tk + 1), .int 0, .int 3, .int 20, .int 0, .int 0, .int 0, .int 0])), (q1, .inr (0, [.int 0, .ref z, .int 0])), (q3, .inr (0, [.int 0, .ref z, .int 0])), (q4, .inr (0, [.int 0, .ref z, .int 0]))]) (va_A [(h0, .inr (4, [.ref q1, .ref q2, .ref q3, .ref q4, .ref q5, .int tk, .int 0, .int 3, .int 20, .int 0, .int 0, .int 0, .int 0])), (q1, .inr (0, [.int 0, .ref z, .int 0])), (q3, .inr (0, [.int 0, .ref z, .int 0])), (q4, .inr (0, [.int 0, .ref z, .int 0]))] sz)) 0 0 (va_A [(h0, .inr (4, [.ref q1, .ref q2, .ref q3, .ref q4, .ref q5, .int tk, .int 0, .int 3, .int 20, .int 0, .int 0, .int 0, .int 0])), (q1, .inr (0, [.int 0, .ref z, .int 0])), (q3, .inr (0, [.int 0, .ref z, .int 0])), (q4, .inr (0, [.int 0, .ref z, .int 0]))] sz) := by
  refine Met.ofW (cc := cX3_passTick) (maxL := 1) (ret := none) (by decide) rfl ?_
  intro p e s m args below meth c s₁ B hml hv
  obtain ⟨rfl, hsz, hP, hK, hD0⟩ := hv
  have hx := B.exec
  have hb := B.bytes
  have hr := B.returns
  have hts := atoms_spec (ws := wsX3_passTick) B.pre
  have hown : s.vm.findClass RX3 = some m.cls := findClass_of_methodNamed B.named
  have hlocks := B.notSynchronized
  subst hsz
  have hD := hD0.self (sz := s.heap.size)
  generalize hAe : va_A [(h0, .inr (4, [.ref q1, .ref q2, .ref q3, .ref q4, .ref q5, .int tk, .int 0, .int 3, .int 20, .int 0, .int 0, .int 0, .int 0])), (q1, .inr (0, [.int 0, .ref z, .int 0])), (q3, .inr (0, [.int 0, .ref z, .int 0])), (q4, .inr (0, [.int 0, .ref z, .int 0]))] s.heap.size = A at hD ⊢
  have hA : ∀ q : Nat, s.heap.size ≤ q → A q := fun q h => by rw [← hAe]; exact Or.inr h
  have hS : va_S A s.heap s.heap [] := va_S.rf
  have hP : va_P (dC, dI) vwCl [(h0, .inr (4, [.ref q1, .ref q2, .ref q3, .ref q4, .ref q5, .int tk, .int 0, .int 3, .int 20, .int 0, .int 0, .int 0, .int 0])), (q1, .inr (0, [.int 0, .ref z, .int 0])), (q3, .inr (0, [.int 0, .ref z, .int 0])), (q4, .inr (0, [.int 0, .ref z, .int 0]))] s.heap := hP
  have hl := lv_entry ([.ref h0]) (n := 1) (Nat.le_of_ble_eq_true rfl)
  rw [lg_entry_eq]
  generalize (lg_sl ([.ref h0]) ++ List.replicate (1 - (lg_sl ([.ref h0])).length) Slot.unset).toArray = ls at hl ⊢
  have hl : lv_has ls 1 [(0, .ref h0)] := hl
  refine lv_aload_n hx hb dX3_passTick_0 rfl (lv_at hl 0 rfl) ?_
  refine lv_dup hx hb dX3_passTick_1 rfl ?_
  refine va_get (D := (dC, dI)) (ci := 4) (v := .int tk) (C := RX3) (T := TX3) (N := 13) hx hb hts (fun _ h => List.mem_cons_of_mem _ (List.mem_append_left _ (List.mem_append_left _ (List.mem_append_left _ (List.mem_append_left _ (List.mem_append_right _ h)))))) hown hK hP 0 rfl rfl 5 (by decide) (hts (.fieldLink RX3 95 "FrontDoor" "tick" "I") (by decide +kernel)) (fun _ h9 => h9) rfl dX3_passTick_2 ?_
  refine lv_iconst (v := 1) hx hb dX3_passTick_5 (by decide) ?_
  refine lv_iadd hx hb dX3_passTick_6 ?_
  refine lv_topi (fun x_1 ex_1 => ?_)
  subst ex_1
  refine va_put (D := (dC, dI)) (ci := 4) (v := .int (tk + 1)) (ty := .int) (C := RX3) (T := TX3) (N := 13) hx hb hts (fun _ h => List.mem_cons_of_mem _ (List.mem_append_left _ (List.mem_append_left _ (List.mem_append_left _ (List.mem_append_left _ (List.mem_append_right _ h)))))) tyX3 tyX3_ok nmX3 hown hK hP hD hS 0 rfl rfl 5 (by decide) (hts (.fieldLink RX3 95 "FrontDoor" "tick" "I") (by decide +kernel)) (fun _ h9 => h9) rfl (by decide +kernel) rfl rfl (Nat.le_of_ble_eq_true rfl) dX3_passTick_7 (fun H locs hP hD hS => ?_)
  have hP : va_P (dC, dI) vwCl [(h0, .inr (4, [.ref q1, .ref q2, .ref q3, .ref q4, .ref q5, .int (tk + 1), .int 0, .int 3, .int 20, .int 0, .int 0, .int 0, .int 0])), (q1, .inr (0, [.int 0, .ref z, .int 0])), (q3, .inr (0, [.int 0, .ref z, .int 0])), (q4, .inr (0, [.int 0, .ref z, .int 0]))] H := hP
  have hD : va_D A [(h0, .inr (4, [.ref q1, .ref q2, .ref q3, .ref q4, .ref q5, .int (tk + 1), .int 0, .int 3, .int 20, .int 0, .int 0, .int 0, .int 0])), (q1, .inr (0, [.int 0, .ref z, .int 0])), (q3, .inr (0, [.int 0, .ref z, .int 0])), (q4, .inr (0, [.int 0, .ref z, .int 0]))] := hD
  refine lv_aload_n hx hb dX3_passTick_10 rfl (lv_at hl 0 rfl) ?_
  have hPc := hP.sub (ws' := [(h0, .inr (4, [.ref q1, .ref q2, .ref q3, .ref q4, .ref q5, .int (tk + 1), .int 0, .int 3, .int 20, .int 0, .int 0, .int 0, .int 0])), (q3, .inr (0, [.int 0, .ref z, .int 0]))]) [0, 2] rfl
  have hDc := hD.sub (ws' := [(h0, .inr (4, [.ref q1, .ref q2, .ref q3, .ref q4, .ref q5, .int (tk + 1), .int 0, .int 3, .int 20, .int 0, .int 0, .int 0, .int 0])), (q3, .inr (0, [.int 0, .ref z, .int 0]))]) [0, 2] (by decide) rfl
  have hKc := hK.sub (tys' := []) [] rfl
  have hFc := pz_f hA hS
  refine va_callv (va_runV (As := []) (rest := []) ⟨hx, hb, hml, hown, hts⟩ (k_X3_takeWhatIsOver l dC dI h0 q1 q2 q3 q4 q5 z (tk + 1) H.size) (cwV 0 hts gX3_passTick_X3_takeWhatIsOver rfl rfl rfl (by decide +kernel) ⟨Nat.le_of_ble_eq_true rfl, Nat.le_of_ble_eq_true rfl⟩) ⟨pz_blind, va_recv hKc hPc (ci := 4) (q0 := 0) rfl rfl, fun U hU hW => ⟨rfl, pz_at hPc hKc hDc hU hW⟩⟩ rfl rfl hl.1 rfl (lv_room (Nat.le_of_ble_eq_true rfl)) dX3_passTick_11 ⟨Nat.le_of_ble_eq_true rfl, Nat.le_of_ble_eq_true rfl⟩) hS (fun q _ h => hFc q h) hFc (fun u t H locs ht hvm hw hB hz1 hk1 hS => ?_)
  have hP := pz_keep hP hk1
  refine W.eq (g2 := F0 m 14 ls []) rfl ?_
  refine lv_aload_n hx hb dX3_passTick_14 rfl (lv_at hl 0 rfl) ?_
  have hPc := hP.sub (ws' := [(h0, .inr (4, [.ref q1, .ref q2, .ref q3, .ref q4, .ref q5, .int (tk + 1), .int 0, .int 3, .int 20, .int 0, .int 0, .int 0, .int 0])), (q3, .inr (0, [.int 0, .ref z, .int 0]))]) [0, 2] rfl
  have hDc := hD.sub (ws' := [(h0, .inr (4, [.ref q1, .ref q2, .ref q3, .ref q4, .ref q5, .int (tk + 1), .int 0, .int 3, .int 20, .int 0, .int 0, .int 0, .int 0])), (q3, .inr (0, [.int 0, .ref z, .int 0]))]) [0, 2] (by decide) rfl
  have hKc := hK.sub (tys' := []) [] rfl
  have hFc := pz_f hA hS
  refine va_callv (va_runV (As := []) (rest := []) ⟨hx, hb, hml, hown, hts⟩ (k_X3_meetDues l dC dI h0 q1 q2 q3 q4 q5 z (tk + 1) H.size) (cwV 0 hts gX3_passTick_X3_meetDues rfl rfl rfl (by decide +kernel) ⟨Nat.le_of_ble_eq_true rfl, Nat.le_of_ble_eq_true rfl⟩) ⟨pz_blind, va_recv hKc hPc (ci := 4) (q0 := 0) rfl rfl, fun U hU hW => ⟨rfl, pz_at hPc hKc hDc hU hW⟩⟩ rfl rfl hl.1 rfl (lv_room (Nat.le_of_ble_eq_true rfl)) dX3_passTick_15 ⟨Nat.le_of_ble_eq_true rfl, Nat.le_of_ble_eq_true rfl⟩) hS (fun q _ h => hFc q h) hFc (fun u t H locs ht hvm hw hB hz1 hk1 hS => ?_)
  have hP := pz_keep hP hk1
  refine W.eq (g2 := F0 m 18 ls []) rfl ?_
  refine lv_aload_n hx hb dX3_passTick_18 rfl (lv_at hl 0 rfl) ?_
  have hPc := hP.sub (ws' := [(h0, .inr (4, [.ref q1, .ref q2, .ref q3, .ref q4, .ref q5, .int (tk + 1), .int 0, .int 3, .int 20, .int 0, .int 0, .int 0, .int 0])), (q3, .inr (0, [.int 0, .ref z, .int 0]))]) [0, 2] rfl
  have hDc := hD.sub (ws' := [(h0, .inr (4, [.ref q1, .ref q2, .ref q3, .ref q4, .ref q5, .int (tk + 1), .int 0, .int 3, .int 20, .int 0, .int 0, .int 0, .int 0])), (q3, .inr (0, [.int 0, .ref z, .int 0]))]) [0, 2] (by decide) rfl
  have hKc := hK.sub (tys' := []) [] rfl
  have hFc := pz_f hA hS
  refine va_callv (va_runV (As := []) (rest := []) ⟨hx, hb, hml, hown, hts⟩ (k_X3_dropEnded l dC dI h0 q1 q2 q3 q4 q5 z (tk + 1) H.size) (cwV 0 hts gX3_passTick_X3_dropEnded rfl rfl rfl (by decide +kernel) ⟨Nat.le_of_ble_eq_true rfl, Nat.le_of_ble_eq_true rfl⟩) ⟨pz_blind, va_recv hKc hPc (ci := 4) (q0 := 0) rfl rfl, fun U hU hW => ⟨rfl, pz_at hPc hKc hDc hU hW⟩⟩ rfl rfl hl.1 rfl (lv_room (Nat.le_of_ble_eq_true rfl)) dX3_passTick_19 ⟨Nat.le_of_ble_eq_true rfl, Nat.le_of_ble_eq_true rfl⟩) hS (fun q _ h => hFc q h) hFc (fun u t H locs ht hvm hw hB hz1 hk1 hS => ?_)
  have hP := pz_keep hP hk1
  refine W.eq (g2 := F0 m 22 ls []) rfl ?_
  refine lv_aload_n hx hb dX3_passTick_22 rfl (lv_at hl 0 rfl) ?_
  have hPc := hP.sub (ws' := [(h0, .inr (4, [.ref q1, .ref q2, .ref q3, .ref q4, .ref q5, .int (tk + 1), .int 0, .int 3, .int 20, .int 0, .int 0, .int 0, .int 0])), (q1, .inr (0, [.int 0, .ref z, .int 0]))]) [0, 1] rfl
  have hDc := hD.sub (ws' := [(h0, .inr (4, [.ref q1, .ref q2, .ref q3, .ref q4, .ref q5, .int (tk + 1), .int 0, .int 3, .int 20, .int 0, .int 0, .int 0, .int 0])), (q1, .inr (0, [.int 0, .ref z, .int 0]))]) [0, 1] (by decide) rfl
  have hKc := hK.sub (tys' := []) [] rfl
  have hFc := pz_f hA hS
  refine va_callv (va_runV (As := []) (rest := []) ⟨hx, hb, hml, hown, hts⟩ (k_X3_tryThoseOut l dC dI h0 q1 q2 q3 q4 q5 z (tk + 1) H.size) (cwV 0 hts gX3_passTick_X3_tryThoseOut rfl rfl rfl (by decide +kernel) ⟨Nat.le_of_ble_eq_true rfl, Nat.le_of_ble_eq_true rfl⟩) ⟨pz_blind, va_recv hKc hPc (ci := 4) (q0 := 0) rfl rfl, fun U hU hW => ⟨rfl, pz_at hPc hKc hDc hU hW⟩⟩ rfl rfl hl.1 rfl (lv_room (Nat.le_of_ble_eq_true rfl)) dX3_passTick_23 ⟨Nat.le_of_ble_eq_true rfl, Nat.le_of_ble_eq_true rfl⟩) hS (fun q _ h => hFc q h) hFc (fun u t H locs ht hvm hw hB hz1 hk1 hS => ?_)
  have hP := pz_keep hP hk1
  refine W.eq (g2 := F0 m 26 ls []) rfl ?_
  refine lv_aload_n hx hb dX3_passTick_26 rfl (lv_at hl 0 rfl) ?_
  have hPc := hP.sub (ws' := [(h0, .inr (4, [.ref q1, .ref q2, .ref q3, .ref q4, .ref q5, .int (tk + 1), .int 0, .int 3, .int 20, .int 0, .int 0, .int 0, .int 0])), (q3, .inr (0, [.int 0, .ref z, .int 0]))]) [0, 2] rfl
  have hDc := hD.sub (ws' := [(h0, .inr (4, [.ref q1, .ref q2, .ref q3, .ref q4, .ref q5, .int (tk + 1), .int 0, .int 3, .int 20, .int 0, .int 0, .int 0, .int 0])), (q3, .inr (0, [.int 0, .ref z, .int 0]))]) [0, 2] (by decide) rfl
  have hKc := hK.sub (tys' := []) [] rfl
  have hFc := pz_f hA hS
  refine va_callv (va_runV (As := []) (rest := []) ⟨hx, hb, hml, hown, hts⟩ (k_X3_hedgeSlow l dC dI h0 q1 q2 q3 q4 q5 z (tk + 1) H.size) (cwV 0 hts gX3_passTick_X3_hedgeSlow rfl rfl rfl (by decide +kernel) ⟨Nat.le_of_ble_eq_true rfl, Nat.le_of_ble_eq_true rfl⟩) ⟨pz_blind, va_recv hKc hPc (ci := 4) (q0 := 0) rfl rfl, fun U hU hW => ⟨rfl, pz_at hPc hKc hDc hU hW⟩⟩ rfl rfl hl.1 rfl (lv_room (Nat.le_of_ble_eq_true rfl)) dX3_passTick_27 ⟨Nat.le_of_ble_eq_true rfl, Nat.le_of_ble_eq_true rfl⟩) hS (fun q _ h => hFc q h) hFc (fun u t H locs ht hvm hw hB hz1 hk1 hS => ?_)
  have hP := pz_keep hP hk1
  refine W.eq (g2 := F0 m 30 ls []) rfl ?_
  refine lv_aload_n hx hb dX3_passTick_30 rfl (lv_at hl 0 rfl) ?_
  have hPc := hP.sub (ws' := [(h0, .inr (4, [.ref q1, .ref q2, .ref q3, .ref q4, .ref q5, .int (tk + 1), .int 0, .int 3, .int 20, .int 0, .int 0, .int 0, .int 0])), (q4, .inr (0, [.int 0, .ref z, .int 0]))]) [0, 3] rfl
  have hDc := hD.sub (ws' := [(h0, .inr (4, [.ref q1, .ref q2, .ref q3, .ref q4, .ref q5, .int (tk + 1), .int 0, .int 3, .int 20, .int 0, .int 0, .int 0, .int 0])), (q4, .inr (0, [.int 0, .ref z, .int 0]))]) [0, 3] (by decide) rfl
  have hKc := hK.sub (tys' := []) [] rfl
  have hFc := pz_f hA hS
  refine va_callv (va_runV (As := []) (rest := []) ⟨hx, hb, hml, hown, hts⟩ (k_X3_askQueued l dC dI h0 q1 q2 q3 q4 q5 z (tk + 1) H.size) (cwV 0 hts gX3_passTick_X3_askQueued rfl rfl rfl (by decide +kernel) ⟨Nat.le_of_ble_eq_true rfl, Nat.le_of_ble_eq_true rfl⟩) ⟨pz_blind, va_recv hKc hPc (ci := 4) (q0 := 0) rfl rfl, fun U hU hW => ⟨rfl, pz_at hPc hKc hDc hU hW⟩⟩ rfl rfl hl.1 rfl (lv_room (Nat.le_of_ble_eq_true rfl)) dX3_passTick_31 ⟨Nat.le_of_ble_eq_true rfl, Nat.le_of_ble_eq_true rfl⟩) hS (fun q _ h => hFc q h) hFc (fun u t H locs ht hvm hw hB hz1 hk1 hS => ?_)
  have hP := pz_keep hP hk1
  refine W.eq (g2 := F0 m 34 ls []) rfl ?_
  refine lv_aload_n hx hb dX3_passTick_34 rfl (lv_at hl 0 rfl) ?_
  have hPc := hP.sub (ws' := [(h0, .inr (4, [.ref q1, .ref q2, .ref q3, .ref q4, .ref q5, .int (tk + 1), .int 0, .int 3, .int 20, .int 0, .int 0, .int 0, .int 0])), (q1, .inr (0, [.int 0, .ref z, .int 0]))]) [0, 1] rfl
  have hDc := hD.sub (ws' := [(h0, .inr (4, [.ref q1, .ref q2, .ref q3, .ref q4, .ref q5, .int (tk + 1), .int 0, .int 3, .int 20, .int 0, .int 0, .int 0, .int 0])), (q1, .inr (0, [.int 0, .ref z, .int 0]))]) [0, 1] (by decide) rfl
  have hKc := hK.sub (tys' := []) [] rfl
  have hFc := pz_f hA hS
  refine va_callv (va_runV (As := []) (rest := []) ⟨hx, hb, hml, hown, hts⟩ (k_X3_letDrainedGo l dC dI h0 q1 q2 q3 q4 q5 z (tk + 1) H.size) (cwV 0 hts gX3_passTick_X3_letDrainedGo rfl rfl rfl (by decide +kernel) ⟨Nat.le_of_ble_eq_true rfl, Nat.le_of_ble_eq_true rfl⟩) ⟨pz_blind, va_recv hKc hPc (ci := 4) (q0 := 0) rfl rfl, fun U hU hW => ⟨rfl, pz_at hPc hKc hDc hU hW⟩⟩ rfl rfl hl.1 rfl (lv_room (Nat.le_of_ble_eq_true rfl)) dX3_passTick_35 ⟨Nat.le_of_ble_eq_true rfl, Nat.le_of_ble_eq_true rfl⟩) hS (fun q _ h => hFc q h) hFc (fun u t H locs ht hvm hw hB hz1 hk1 hS => ?_)
  have hP := pz_keep hP hk1
  refine W.eq (g2 := F0 m 38 ls []) rfl ?_
  have hP9 := hP.sub (ws' := [(h0, .inr (4, [.ref q1, .ref q2, .ref q3, .ref q4, .ref q5, .int (tk + 1), .int 0, .int 3, .int 20, .int 0, .int 0, .int 0, .int 0])), (q1, .inr (0, [.int 0, .ref z, .int 0])), (q3, .inr (0, [.int 0, .ref z, .int 0])), (q4, .inr (0, [.int 0, .ref z, .int 0]))]) [0, 1, 2, 3] rfl
  have hD9 := hD.sub (ws' := [(h0, .inr (4, [.ref q1, .ref q2, .ref q3, .ref q4, .ref q5, .int (tk + 1), .int 0, .int 3, .int 20, .int 0, .int 0, .int 0, .int 0])), (q1, .inr (0, [.int 0, .ref z, .int 0])), (q3, .inr (0, [.int 0, .ref z, .int 0])), (q4, .inr (0, [.int 0, .ref z, .int 0]))]) [0, 1, 2, 3] (by decide) rfl
  have hK9 := hK.sub (tys' := []) [] rfl
  exact W.vret hx hb hr (fun t ht hW => ⟨⟨(), rfl, trivial, ⟨by rw [ht]; exact hP9, va_K.moved hW.alike hK9, hD9⟩⟩, hS.F ht⟩) hS.2.2 dX3_passTick_38
