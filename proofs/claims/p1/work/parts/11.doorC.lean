set_option maxHeartbeats 40000000 in
set_option maxRecDepth 100000 in
theorem k_X3_init (l : Launch) (dC : Nat → ClassId) (dI : Nat → Nat → Nat) (h0 : Nat) (z : Nat) (sz : Nat) : Met l yX3_init wsX3_init ({ frames := 4, cells := 5, slots := 19, locals := 72 }) (va_Pc [.ref h0] (pzPreZ (dC, dI) vwCl [(h0, .inr (4, [.null, .null, .null, .null, .null, .int 0, .int 0, .int 0, .int 0, .int 0, .int 0, .int 0, .int 0]))] [] sz z)) (va_Qv (fun _ : Unit => True) (fun (_ : Unit) (t : State) => ∃ q1 : Nat, ∃ q2 : Nat, ∃ q3 : Nat, ∃ q4 : Nat, ∃ q5 : Nat, ∃ cI : ClassId, va_P (dC, dI) vwCl [(h0, .inr (4, [.ref q1, .ref q2, .ref q3, .ref q4, .ref q5, .int 0, .int 0, .int 3, .int 20, .int 0, .int 0, .int 0, .int 0])), (q1, .inr (0, [.int 0, .ref z, .int 0])), (q2, .inr (0, [.int 0, .ref z, .int 0])), (q3, .inr (0, [.int 0, .ref z, .int 0])), (q4, .inr (0, [.int 0, .ref z, .int 0])), (q5, .inl (cI, 7, .inl (fun _ => 0)))] t.heap ∧ va_K (dC, dI) vwCl [(cI, .int)] t ∧ va_D (va_A [(h0, .inr (4, [.null, .null, .null, .null, .null, .int 0, .int 0, .int 0, .int 0, .int 0, .int 0, .int 0, .int 0]))] sz) [(h0, .inr (4, [.ref q1, .ref q2, .ref q3, .ref q4, .ref q5, .int 0, .int 0, .int 3, .int 20, .int 0, .int 0, .int 0, .int 0])), (q1, .inr (0, [.int 0, .ref z, .int 0])), (q2, .inr (0, [.int 0, .ref z, .int 0])), (q3, .inr (0, [.int 0, .ref z, .int 0])), (q4, .inr (0, [.int 0, .ref z, .int 0])), (q5, .inl (cI, 7, .inl (fun _ => 0)))]) (va_A [(h0, .inr (4, [.null, .null, .null, .null, .null, .int 0, .int 0, .int 0, .int 0, .int 0, .int 0, .int 0, .int 0]))] sz)) 5 19 (va_A [(h0, .inr (4, [.null, .null, .null, .null, .null, .int 0, .int 0, .int 0, .int 0, .int 0, .int 0, .int 0, .int 0]))] sz) := by
  refine Met.ofW (cc := cX3_init) (maxL := 1) (ret := none) (by decide) rfl ?_
  intro p e s m args below meth c s₁ B hml hv
  obtain ⟨rfl, ⟨hsz, hP, hK, hD0⟩, hZ⟩ := hv
  have hx := B.exec
  have hb := B.bytes
  have hr := B.returns
  have hts := atoms_spec (ws := wsX3_init) B.pre
  have hown : s.vm.findClass RX3 = some m.cls := findClass_of_methodNamed B.named
  have hlocks := B.notSynchronized
  have hin : meth.name = "<init>" := (name_of_methodNamed B.named B.method).1
  subst hsz
  have hD := hD0.self (sz := s.heap.size)
  generalize hAe : va_A [(h0, .inr (4, [.null, .null, .null, .null, .null, .int 0, .int 0, .int 0, .int 0, .int 0, .int 0, .int 0, .int 0]))] s.heap.size = A at hD hZ ⊢
  have hA : ∀ q : Nat, s.heap.size ≤ q → A q := fun q h => by rw [← hAe]; exact Or.inr h
  have hS : va_S A s.heap s.heap [] := va_S.rf
  have hP : va_P (dC, dI) vwCl [(h0, .inr (4, [.null, .null, .null, .null, .null, .int 0, .int 0, .int 0, .int 0, .int 0, .int 0, .int 0, .int 0]))] s.heap := hP
  have hl := lv_entry ([.ref h0]) (n := 1) (Nat.le_of_ble_eq_true rfl)
  rw [lg_entry_eq]
  generalize (lg_sl ([.ref h0]) ++ List.replicate (1 - (lg_sl ([.ref h0])).length) Slot.unset).toArray = ls at hl ⊢
  have hl : lv_has ls 1 [(0, .ref h0)] := hl
  refine lv_aload_n hx hb dX3_init_0 rfl (lv_at hl 0 rfl) ?_
  refine W.objInit hx hb hown (hts (.methodLink RX3 1 objectInit) (by decide +kernel)) (hts (.instanceMethod objectInit) (by decide +kernel)) (hts (.code objectInit ⟨#[0xb1]⟩ 1 none) (by decide +kernel)) rfl (by rw [hml]; exact hl.1) rfl dX3_init_1 (Nat.le_of_ble_eq_true rfl) (Nat.le_of_ble_eq_true rfl) ?_
  refine W.eq (g2 := F0 m 4 ls []) rfl ?_
  refine lv_aload_n hx hb dX3_init_4 rfl (lv_at hl 0 rfl) ?_
  refine va_new (ci := 0) (fs := [.int 0, .null, .int 0]) (C := RJx4a65c) (T := TJx4a65c) (N := 3) hx hb hts (fun _ h => List.mem_cons_of_mem _ (List.mem_append_left _ (List.mem_append_right _ h))) tyJx4a65c tyJx4a65c_ok hown (hts (.classLink RX3 7 RJx4a65c) (by decide +kernel)) (hts (.instantiable RJx4a65c 3) (by decide +kernel)) (hts (.initialized RJx4a65c) (by decide +kernel)) hK hP hD hS hA rfl (fun j hj => match j, hj with | 0, _ => rfl | 1, _ => rfl | 2, _ => rfl | z9 + 3, h9 => absurd h9 (by omega)) (Nat.le_of_ble_eq_true rfl) (Nat.le_of_ble_eq_true rfl) dX3_init_5 (fun q_1 H hP hD hS => ?_)
  have hP : va_P (dC, dI) vwCl [(h0, .inr (4, [.null, .null, .null, .null, .null, .int 0, .int 0, .int 0, .int 0, .int 0, .int 0, .int 0, .int 0])), (q_1, .inr (0, [.int 0, .null, .int 0]))] H := hP
  have hD : va_D A [(h0, .inr (4, [.null, .null, .null, .null, .null, .int 0, .int 0, .int 0, .int 0, .int 0, .int 0, .int 0, .int 0])), (q_1, .inr (0, [.int 0, .null, .int 0]))] := hD
  refine W.widen (k := 1) (n := 3) (Nat.le_refl 1) (Nat.le_refl 3) ?_
  refine lv_dup hx hb dX3_init_8 rfl ?_
  have hPc := hP.sub (ws' := [(q_1, .inr (0, [.int 0, .null, .int 0]))]) [1] rfl
  have hDc := hD.sub (ws' := [(q_1, .inr (0, [.int 0, .null, .int 0]))]) [1] (by decide) rfl
  have hKc := hK.sub (tys' := []) [] rfl
  have hFc := va_free (wc := [(q_1, .inr (0, [.int 0, .null, .int 0]))]) hD hS hA [1] rfl
  refine va_callv (va_runI (As := []) (rest := [.ref q_1, .ref h0]) ⟨hx, hb, hml, hown, hts⟩ (k_Jx4a65c_init_da8c8 l dC dI q_1 z H.size) (cwI 0 hts gX3_init_Jx4a65c_init_da8c8 rfl rfl rfl (hts (.initialized RJx4a65c) (by decide +kernel)) (hts (.methodLink RX3 9 yJx4a65c_init_da8c8) (by decide +kernel)) (hts (.instanceMethod yJx4a65c_init_da8c8) (by decide +kernel)) rfl (by decide +kernel) ⟨Nat.le_of_ble_eq_true rfl, Nat.le_of_ble_eq_true rfl⟩) ⟨pz_blindZ, fun U hU hW => ⟨rfl, ⟨pz_at hPc hKc hDc hU hW, pz_Zat hZ hS hFc hU hW⟩⟩⟩ rfl rfl hl.1 rfl (lv_room (Nat.le_of_ble_eq_true rfl)) dX3_init_9 ⟨Nat.le_of_ble_eq_true rfl, Nat.le_of_ble_eq_true rfl⟩) hS (fun q _ h => hFc q h) hFc (fun u t H locs ht hvm hw hB hz1 hk1 hS => ?_)
  obtain ⟨hP1, hK1, hD1⟩ := hB
  rw [ht] at hP1
  have hK1 := va_K.moved hvm.symm hK1
  obtain ⟨hP, hD⟩ := va_join (wr := [(h0, .inr (4, [.null, .null, .null, .null, .null, .int 0, .int 0, .int 0, .int 0, .int 0, .int 0, .int 0, .int 0]))]) (w1 := [(q_1, .inr (0, [.int 0, .ref z, .int 0]))]) hP hD [1] [0] rfl rfl (by decide) (by decide) hk1 hFc hP1 hD1
  have hK := hK.app hK1
  have hK : va_K (dC, dI) vwCl [] s := hK
  have hP : va_P (dC, dI) vwCl [(h0, .inr (4, [.null, .null, .null, .null, .null, .int 0, .int 0, .int 0, .int 0, .int 0, .int 0, .int 0, .int 0])), (q_1, .inr (0, [.int 0, .ref z, .int 0]))] H := hP
  have hD : va_D A [(h0, .inr (4, [.null, .null, .null, .null, .null, .int 0, .int 0, .int 0, .int 0, .int 0, .int 0, .int 0, .int 0])), (q_1, .inr (0, [.int 0, .ref z, .int 0]))] := hD
  refine W.eq (g2 := F0 m 12 ls [.ref q_1, .ref h0]) rfl ?_
  refine va_putF (D := (dC, dI)) (ci := 4) (v := .ref q_1) (ty := .object "java/util/ArrayList") (C := RX3) (T := TX3) (N := 13) hx hb hts (fun _ h => List.mem_cons_of_mem _ (List.mem_append_right _ h)) tyX3 tyX3_ok nmX3 hown hK hP hD hS 0 rfl rfl 0 (by decide) (hts (.fieldLink RX3 10 "FrontDoor" "servers" "Ljava/util/ArrayList;") (by decide +kernel)) (fun _ h9 => h9) rfl hin rfl (by decide +kernel) rfl rfl (Nat.le_of_ble_eq_true rfl) dX3_init_12 (fun H locs hP hD hS => ?_)
  have hP : va_P (dC, dI) vwCl [(h0, .inr (4, [.ref q_1, .null, .null, .null, .null, .int 0, .int 0, .int 0, .int 0, .int 0, .int 0, .int 0, .int 0])), (q_1, .inr (0, [.int 0, .ref z, .int 0]))] H := hP
  have hD : va_D A [(h0, .inr (4, [.ref q_1, .null, .null, .null, .null, .int 0, .int 0, .int 0, .int 0, .int 0, .int 0, .int 0, .int 0])), (q_1, .inr (0, [.int 0, .ref z, .int 0]))] := hD
  refine lv_aload_n hx hb dX3_init_15 rfl (lv_at hl 0 rfl) ?_
  refine va_new (ci := 0) (fs := [.int 0, .null, .int 0]) (C := RJx4a65c) (T := TJx4a65c) (N := 3) hx hb hts (fun _ h => List.mem_cons_of_mem _ (List.mem_append_left _ (List.mem_append_right _ h))) tyJx4a65c tyJx4a65c_ok hown (hts (.classLink RX3 7 RJx4a65c) (by decide +kernel)) (hts (.instantiable RJx4a65c 3) (by decide +kernel)) (hts (.initialized RJx4a65c) (by decide +kernel)) hK hP hD hS hA rfl (fun j hj => match j, hj with | 0, _ => rfl | 1, _ => rfl | 2, _ => rfl | z9 + 3, h9 => absurd h9 (by omega)) (Nat.le_of_ble_eq_true rfl) (Nat.le_of_ble_eq_true rfl) dX3_init_16 (fun q_3 H hP hD hS => ?_)
  have hP : va_P (dC, dI) vwCl [(h0, .inr (4, [.ref q_1, .null, .null, .null, .null, .int 0, .int 0, .int 0, .int 0, .int 0, .int 0, .int 0, .int 0])), (q_1, .inr (0, [.int 0, .ref z, .int 0])), (q_3, .inr (0, [.int 0, .null, .int 0]))] H := hP
  have hD : va_D A [(h0, .inr (4, [.ref q_1, .null, .null, .null, .null, .int 0, .int 0, .int 0, .int 0, .int 0, .int 0, .int 0, .int 0])), (q_1, .inr (0, [.int 0, .ref z, .int 0])), (q_3, .inr (0, [.int 0, .null, .int 0]))] := hD
  refine W.widen (k := 2) (n := 6) (Nat.le_refl 2) (Nat.le_refl 6) ?_
  refine lv_dup hx hb dX3_init_19 rfl ?_
  have hPc := hP.sub (ws' := [(q_3, .inr (0, [.int 0, .null, .int 0]))]) [2] rfl
  have hDc := hD.sub (ws' := [(q_3, .inr (0, [.int 0, .null, .int 0]))]) [2] (by decide) rfl
  have hKc := hK.sub (tys' := []) [] rfl
  have hFc := va_free (wc := [(q_3, .inr (0, [.int 0, .null, .int 0]))]) hD hS hA [2] rfl
  refine va_callv (va_runI (As := []) (rest := [.ref q_3, .ref h0]) ⟨hx, hb, hml, hown, hts⟩ (k_Jx4a65c_init_da8c8 l dC dI q_3 z H.size) (cwI 0 hts gX3_init_Jx4a65c_init_da8c8 rfl rfl rfl (hts (.initialized RJx4a65c) (by decide +kernel)) (hts (.methodLink RX3 9 yJx4a65c_init_da8c8) (by decide +kernel)) (hts (.instanceMethod yJx4a65c_init_da8c8) (by decide +kernel)) rfl (by decide +kernel) ⟨Nat.le_of_ble_eq_true rfl, Nat.le_of_ble_eq_true rfl⟩) ⟨pz_blindZ, fun U hU hW => ⟨rfl, ⟨pz_at hPc hKc hDc hU hW, pz_Zat hZ hS hFc hU hW⟩⟩⟩ rfl rfl hl.1 rfl (lv_room (Nat.le_of_ble_eq_true rfl)) dX3_init_20 ⟨Nat.le_of_ble_eq_true rfl, Nat.le_of_ble_eq_true rfl⟩) hS (fun q _ h => hFc q h) hFc (fun u t H locs ht hvm hw hB hz1 hk1 hS => ?_)
  obtain ⟨hP1, hK1, hD1⟩ := hB
  rw [ht] at hP1
  have hK1 := va_K.moved hvm.symm hK1
  obtain ⟨hP, hD⟩ := va_join (wr := [(h0, .inr (4, [.ref q_1, .null, .null, .null, .null, .int 0, .int 0, .int 0, .int 0, .int 0, .int 0, .int 0, .int 0])), (q_1, .inr (0, [.int 0, .ref z, .int 0]))]) (w1 := [(q_3, .inr (0, [.int 0, .ref z, .int 0]))]) hP hD [2] [0, 1] rfl rfl (by decide) (by decide) hk1 hFc hP1 hD1
  have hK := hK.app hK1
  have hK : va_K (dC, dI) vwCl [] s := hK
  have hP : va_P (dC, dI) vwCl [(h0, .inr (4, [.ref q_1, .null, .null, .null, .null, .int 0, .int 0, .int 0, .int 0, .int 0, .int 0, .int 0, .int 0])), (q_1, .inr (0, [.int 0, .ref z, .int 0])), (q_3, .inr (0, [.int 0, .ref z, .int 0]))] H := hP
  have hD : va_D A [(h0, .inr (4, [.ref q_1, .null, .null, .null, .null, .int 0, .int 0, .int 0, .int 0, .int 0, .int 0, .int 0, .int 0])), (q_1, .inr (0, [.int 0, .ref z, .int 0])), (q_3, .inr (0, [.int 0, .ref z, .int 0]))] := hD
  refine W.eq (g2 := F0 m 23 ls [.ref q_3, .ref h0]) rfl ?_
  refine va_putF (D := (dC, dI)) (ci := 4) (v := .ref q_3) (ty := .object "java/util/ArrayList") (C := RX3) (T := TX3) (N := 13) hx hb hts (fun _ h => List.mem_cons_of_mem _ (List.mem_append_right _ h)) tyX3 tyX3_ok nmX3 hown hK hP hD hS 0 rfl rfl 1 (by decide) (hts (.fieldLink RX3 16 "FrontDoor" "calls" "Ljava/util/ArrayList;") (by decide +kernel)) (fun _ h9 => h9) rfl hin rfl (by decide +kernel) rfl rfl (Nat.le_of_ble_eq_true rfl) dX3_init_23 (fun H locs hP hD hS => ?_)
  have hP : va_P (dC, dI) vwCl [(h0, .inr (4, [.ref q_1, .ref q_3, .null, .null, .null, .int 0, .int 0, .int 0, .int 0, .int 0, .int 0, .int 0, .int 0])), (q_1, .inr (0, [.int 0, .ref z, .int 0])), (q_3, .inr (0, [.int 0, .ref z, .int 0]))] H := hP
  have hD : va_D A [(h0, .inr (4, [.ref q_1, .ref q_3, .null, .null, .null, .int 0, .int 0, .int 0, .int 0, .int 0, .int 0, .int 0, .int 0])), (q_1, .inr (0, [.int 0, .ref z, .int 0])), (q_3, .inr (0, [.int 0, .ref z, .int 0]))] := hD
  refine lv_aload_n hx hb dX3_init_26 rfl (lv_at hl 0 rfl) ?_
  refine va_new (ci := 0) (fs := [.int 0, .null, .int 0]) (C := RJx4a65c) (T := TJx4a65c) (N := 3) hx hb hts (fun _ h => List.mem_cons_of_mem _ (List.mem_append_left _ (List.mem_append_right _ h))) tyJx4a65c tyJx4a65c_ok hown (hts (.classLink RX3 7 RJx4a65c) (by decide +kernel)) (hts (.instantiable RJx4a65c 3) (by decide +kernel)) (hts (.initialized RJx4a65c) (by decide +kernel)) hK hP hD hS hA rfl (fun j hj => match j, hj with | 0, _ => rfl | 1, _ => rfl | 2, _ => rfl | z9 + 3, h9 => absurd h9 (by omega)) (Nat.le_of_ble_eq_true rfl) (Nat.le_of_ble_eq_true rfl) dX3_init_27 (fun q_5 H hP hD hS => ?_)
  have hP : va_P (dC, dI) vwCl [(h0, .inr (4, [.ref q_1, .ref q_3, .null, .null, .null, .int 0, .int 0, .int 0, .int 0, .int 0, .int 0, .int 0, .int 0])), (q_1, .inr (0, [.int 0, .ref z, .int 0])), (q_3, .inr (0, [.int 0, .ref z, .int 0])), (q_5, .inr (0, [.int 0, .null, .int 0]))] H := hP
  have hD : va_D A [(h0, .inr (4, [.ref q_1, .ref q_3, .null, .null, .null, .int 0, .int 0, .int 0, .int 0, .int 0, .int 0, .int 0, .int 0])), (q_1, .inr (0, [.int 0, .ref z, .int 0])), (q_3, .inr (0, [.int 0, .ref z, .int 0])), (q_5, .inr (0, [.int 0, .null, .int 0]))] := hD
  refine W.widen (k := 3) (n := 9) (Nat.le_refl 3) (Nat.le_refl 9) ?_
  refine lv_dup hx hb dX3_init_30 rfl ?_
  have hPc := hP.sub (ws' := [(q_5, .inr (0, [.int 0, .null, .int 0]))]) [3] rfl
  have hDc := hD.sub (ws' := [(q_5, .inr (0, [.int 0, .null, .int 0]))]) [3] (by decide) rfl
  have hKc := hK.sub (tys' := []) [] rfl
  have hFc := va_free (wc := [(q_5, .inr (0, [.int 0, .null, .int 0]))]) hD hS hA [3] rfl
  refine va_callv (va_runI (As := []) (rest := [.ref q_5, .ref h0]) ⟨hx, hb, hml, hown, hts⟩ (k_Jx4a65c_init_da8c8 l dC dI q_5 z H.size) (cwI 0 hts gX3_init_Jx4a65c_init_da8c8 rfl rfl rfl (hts (.initialized RJx4a65c) (by decide +kernel)) (hts (.methodLink RX3 9 yJx4a65c_init_da8c8) (by decide +kernel)) (hts (.instanceMethod yJx4a65c_init_da8c8) (by decide +kernel)) rfl (by decide +kernel) ⟨Nat.le_of_ble_eq_true rfl, Nat.le_of_ble_eq_true rfl⟩) ⟨pz_blindZ, fun U hU hW => ⟨rfl, ⟨pz_at hPc hKc hDc hU hW, pz_Zat hZ hS hFc hU hW⟩⟩⟩ rfl rfl hl.1 rfl (lv_room (Nat.le_of_ble_eq_true rfl)) dX3_init_31 ⟨Nat.le_of_ble_eq_true rfl, Nat.le_of_ble_eq_true rfl⟩) hS (fun q _ h => hFc q h) hFc (fun u t H locs ht hvm hw hB hz1 hk1 hS => ?_)
  obtain ⟨hP1, hK1, hD1⟩ := hB
  rw [ht] at hP1
  have hK1 := va_K.moved hvm.symm hK1
  obtain ⟨hP, hD⟩ := va_join (wr := [(h0, .inr (4, [.ref q_1, .ref q_3, .null, .null, .null, .int 0, .int 0, .int 0, .int 0, .int 0, .int 0, .int 0, .int 0])), (q_1, .inr (0, [.int 0, .ref z, .int 0])), (q_3, .inr (0, [.int 0, .ref z, .int 0]))]) (w1 := [(q_5, .inr (0, [.int 0, .ref z, .int 0]))]) hP hD [3] [0, 1, 2] rfl rfl (by decide) (by decide) hk1 hFc hP1 hD1
  have hK := hK.app hK1
  have hK : va_K (dC, dI) vwCl [] s := hK
  have hP : va_P (dC, dI) vwCl [(h0, .inr (4, [.ref q_1, .ref q_3, .null, .null, .null, .int 0, .int 0, .int 0, .int 0, .int 0, .int 0, .int 0, .int 0])), (q_1, .inr (0, [.int 0, .ref z, .int 0])), (q_3, .inr (0, [.int 0, .ref z, .int 0])), (q_5, .inr (0, [.int 0, .ref z, .int 0]))] H := hP
  have hD : va_D A [(h0, .inr (4, [.ref q_1, .ref q_3, .null, .null, .null, .int 0, .int 0, .int 0, .int 0, .int 0, .int 0, .int 0, .int 0])), (q_1, .inr (0, [.int 0, .ref z, .int 0])), (q_3, .inr (0, [.int 0, .ref z, .int 0])), (q_5, .inr (0, [.int 0, .ref z, .int 0]))] := hD
  refine W.eq (g2 := F0 m 34 ls [.ref q_5, .ref h0]) rfl ?_
  refine va_putF (D := (dC, dI)) (ci := 4) (v := .ref q_5) (ty := .object "java/util/ArrayList") (C := RX3) (T := TX3) (N := 13) hx hb hts (fun _ h => List.mem_cons_of_mem _ (List.mem_append_right _ h)) tyX3 tyX3_ok nmX3 hown hK hP hD hS 0 rfl rfl 2 (by decide) (hts (.fieldLink RX3 19 "FrontDoor" "live" "Ljava/util/ArrayList;") (by decide +kernel)) (fun _ h9 => h9) rfl hin rfl (by decide +kernel) rfl rfl (Nat.le_of_ble_eq_true rfl) dX3_init_34 (fun H locs hP hD hS => ?_)
  have hP : va_P (dC, dI) vwCl [(h0, .inr (4, [.ref q_1, .ref q_3, .ref q_5, .null, .null, .int 0, .int 0, .int 0, .int 0, .int 0, .int 0, .int 0, .int 0])), (q_1, .inr (0, [.int 0, .ref z, .int 0])), (q_3, .inr (0, [.int 0, .ref z, .int 0])), (q_5, .inr (0, [.int 0, .ref z, .int 0]))] H := hP
  have hD : va_D A [(h0, .inr (4, [.ref q_1, .ref q_3, .ref q_5, .null, .null, .int 0, .int 0, .int 0, .int 0, .int 0, .int 0, .int 0, .int 0])), (q_1, .inr (0, [.int 0, .ref z, .int 0])), (q_3, .inr (0, [.int 0, .ref z, .int 0])), (q_5, .inr (0, [.int 0, .ref z, .int 0]))] := hD
  refine lv_aload_n hx hb dX3_init_37 rfl (lv_at hl 0 rfl) ?_
  refine va_new (ci := 0) (fs := [.int 0, .null, .int 0]) (C := RJx4a65c) (T := TJx4a65c) (N := 3) hx hb hts (fun _ h => List.mem_cons_of_mem _ (List.mem_append_left _ (List.mem_append_right _ h))) tyJx4a65c tyJx4a65c_ok hown (hts (.classLink RX3 7 RJx4a65c) (by decide +kernel)) (hts (.instantiable RJx4a65c 3) (by decide +kernel)) (hts (.initialized RJx4a65c) (by decide +kernel)) hK hP hD hS hA rfl (fun j hj => match j, hj with | 0, _ => rfl | 1, _ => rfl | 2, _ => rfl | z9 + 3, h9 => absurd h9 (by omega)) (Nat.le_of_ble_eq_true rfl) (Nat.le_of_ble_eq_true rfl) dX3_init_38 (fun q_7 H hP hD hS => ?_)
  have hP : va_P (dC, dI) vwCl [(h0, .inr (4, [.ref q_1, .ref q_3, .ref q_5, .null, .null, .int 0, .int 0, .int 0, .int 0, .int 0, .int 0, .int 0, .int 0])), (q_1, .inr (0, [.int 0, .ref z, .int 0])), (q_3, .inr (0, [.int 0, .ref z, .int 0])), (q_5, .inr (0, [.int 0, .ref z, .int 0])), (q_7, .inr (0, [.int 0, .null, .int 0]))] H := hP
  have hD : va_D A [(h0, .inr (4, [.ref q_1, .ref q_3, .ref q_5, .null, .null, .int 0, .int 0, .int 0, .int 0, .int 0, .int 0, .int 0, .int 0])), (q_1, .inr (0, [.int 0, .ref z, .int 0])), (q_3, .inr (0, [.int 0, .ref z, .int 0])), (q_5, .inr (0, [.int 0, .ref z, .int 0])), (q_7, .inr (0, [.int 0, .null, .int 0]))] := hD
  refine W.widen (k := 4) (n := 12) (Nat.le_refl 4) (Nat.le_refl 12) ?_
  refine lv_dup hx hb dX3_init_41 rfl ?_
  have hPc := hP.sub (ws' := [(q_7, .inr (0, [.int 0, .null, .int 0]))]) [4] rfl
  have hDc := hD.sub (ws' := [(q_7, .inr (0, [.int 0, .null, .int 0]))]) [4] (by decide) rfl
  have hKc := hK.sub (tys' := []) [] rfl
  have hFc := va_free (wc := [(q_7, .inr (0, [.int 0, .null, .int 0]))]) hD hS hA [4] rfl
  refine va_callv (va_runI (As := []) (rest := [.ref q_7, .ref h0]) ⟨hx, hb, hml, hown, hts⟩ (k_Jx4a65c_init_da8c8 l dC dI q_7 z H.size) (cwI 0 hts gX3_init_Jx4a65c_init_da8c8 rfl rfl rfl (hts (.initialized RJx4a65c) (by decide +kernel)) (hts (.methodLink RX3 9 yJx4a65c_init_da8c8) (by decide +kernel)) (hts (.instanceMethod yJx4a65c_init_da8c8) (by decide +kernel)) rfl (by decide +kernel) ⟨Nat.le_of_ble_eq_true rfl, Nat.le_of_ble_eq_true rfl⟩) ⟨pz_blindZ, fun U hU hW => ⟨rfl, ⟨pz_at hPc hKc hDc hU hW, pz_Zat hZ hS hFc hU hW⟩⟩⟩ rfl rfl hl.1 rfl (lv_room (Nat.le_of_ble_eq_true rfl)) dX3_init_42 ⟨Nat.le_of_ble_eq_true rfl, Nat.le_of_ble_eq_true rfl⟩) hS (fun q _ h => hFc q h) hFc (fun u t H locs ht hvm hw hB hz1 hk1 hS => ?_)
  obtain ⟨hP1, hK1, hD1⟩ := hB
  rw [ht] at hP1
  have hK1 := va_K.moved hvm.symm hK1
  obtain ⟨hP, hD⟩ := va_join (wr := [(h0, .inr (4, [.ref q_1, .ref q_3, .ref q_5, .null, .null, .int 0, .int 0, .int 0, .int 0, .int 0, .int 0, .int 0, .int 0])), (q_1, .inr (0, [.int 0, .ref z, .int 0])), (q_3, .inr (0, [.int 0, .ref z, .int 0])), (q_5, .inr (0, [.int 0, .ref z, .int 0]))]) (w1 := [(q_7, .inr (0, [.int 0, .ref z, .int 0]))]) hP hD [4] [0, 1, 2, 3] rfl rfl (by decide) (by decide) hk1 hFc hP1 hD1
  have hK := hK.app hK1
  have hK : va_K (dC, dI) vwCl [] s := hK
  have hP : va_P (dC, dI) vwCl [(h0, .inr (4, [.ref q_1, .ref q_3, .ref q_5, .null, .null, .int 0, .int 0, .int 0, .int 0, .int 0, .int 0, .int 0, .int 0])), (q_1, .inr (0, [.int 0, .ref z, .int 0])), (q_3, .inr (0, [.int 0, .ref z, .int 0])), (q_5, .inr (0, [.int 0, .ref z, .int 0])), (q_7, .inr (0, [.int 0, .ref z, .int 0]))] H := hP
  have hD : va_D A [(h0, .inr (4, [.ref q_1, .ref q_3, .ref q_5, .null, .null, .int 0, .int 0, .int 0, .int 0, .int 0, .int 0, .int 0, .int 0])), (q_1, .inr (0, [.int 0, .ref z, .int 0])), (q_3, .inr (0, [.int 0, .ref z, .int 0])), (q_5, .inr (0, [.int 0, .ref z, .int 0])), (q_7, .inr (0, [.int 0, .ref z, .int 0]))] := hD
  refine W.eq (g2 := F0 m 45 ls [.ref q_7, .ref h0]) rfl ?_
  refine va_putF (D := (dC, dI)) (ci := 4) (v := .ref q_7) (ty := .object "java/util/ArrayList") (C := RX3) (T := TX3) (N := 13) hx hb hts (fun _ h => List.mem_cons_of_mem _ (List.mem_append_right _ h)) tyX3 tyX3_ok nmX3 hown hK hP hD hS 0 rfl rfl 3 (by decide) (hts (.fieldLink RX3 22 "FrontDoor" "line" "Ljava/util/ArrayList;") (by decide +kernel)) (fun _ h9 => h9) rfl hin rfl (by decide +kernel) rfl rfl (Nat.le_of_ble_eq_true rfl) dX3_init_45 (fun H locs hP hD hS => ?_)
  have hP : va_P (dC, dI) vwCl [(h0, .inr (4, [.ref q_1, .ref q_3, .ref q_5, .ref q_7, .null, .int 0, .int 0, .int 0, .int 0, .int 0, .int 0, .int 0, .int 0])), (q_1, .inr (0, [.int 0, .ref z, .int 0])), (q_3, .inr (0, [.int 0, .ref z, .int 0])), (q_5, .inr (0, [.int 0, .ref z, .int 0])), (q_7, .inr (0, [.int 0, .ref z, .int 0]))] H := hP
  have hD : va_D A [(h0, .inr (4, [.ref q_1, .ref q_3, .ref q_5, .ref q_7, .null, .int 0, .int 0, .int 0, .int 0, .int 0, .int 0, .int 0, .int 0])), (q_1, .inr (0, [.int 0, .ref z, .int 0])), (q_3, .inr (0, [.int 0, .ref z, .int 0])), (q_5, .inr (0, [.int 0, .ref z, .int 0])), (q_7, .inr (0, [.int 0, .ref z, .int 0]))] := hD
  refine lv_aload_n hx hb dX3_init_48 rfl (lv_at hl 0 rfl) ?_
  refine lv_bipush (v := 7) hx hb dX3_init_49 (by decide) ?_
  refine va_newa (D := (dC, dI)) (cl := vwCl) (atype := .int) (ty := .int) (n := 7) (N' := 7) (a0 := (7, .inl (fun _ => 0))) hx hb (hts (.arrayClass .int) (by decide +kernel)) rfl hK hP hD hS hA (pz_aI 7) pz_n7 pz_c7 pz_bI7 (Nat.le_of_ble_eq_true rfl) (Nat.le_of_ble_eq_true rfl) dX3_init_51 (fun q_9 cA_9 H hK hP hD hS => ?_)
  have hP : va_P (dC, dI) vwCl [(h0, .inr (4, [.ref q_1, .ref q_3, .ref q_5, .ref q_7, .null, .int 0, .int 0, .int 0, .int 0, .int 0, .int 0, .int 0, .int 0])), (q_1, .inr (0, [.int 0, .ref z, .int 0])), (q_3, .inr (0, [.int 0, .ref z, .int 0])), (q_5, .inr (0, [.int 0, .ref z, .int 0])), (q_7, .inr (0, [.int 0, .ref z, .int 0])), (q_9, .inl (cA_9, 7, .inl (fun _ => 0)))] H := hP
  have hD : va_D A [(h0, .inr (4, [.ref q_1, .ref q_3, .ref q_5, .ref q_7, .null, .int 0, .int 0, .int 0, .int 0, .int 0, .int 0, .int 0, .int 0])), (q_1, .inr (0, [.int 0, .ref z, .int 0])), (q_3, .inr (0, [.int 0, .ref z, .int 0])), (q_5, .inr (0, [.int 0, .ref z, .int 0])), (q_7, .inr (0, [.int 0, .ref z, .int 0])), (q_9, .inl (cA_9, 7, .inl (fun _ => 0)))] := hD
  refine W.widen (k := 5) (n := 19) (Nat.le_refl 5) (Nat.le_refl 19) ?_
  have hK : va_K (dC, dI) vwCl [(cA_9, .int)] s := hK
  refine va_putF (D := (dC, dI)) (ci := 4) (v := .ref q_9) (ty := .array .int) (C := RX3) (T := TX3) (N := 13) hx hb hts (fun _ h => List.mem_cons_of_mem _ (List.mem_append_right _ h)) tyX3 tyX3_ok nmX3 hown hK hP hD hS 0 rfl rfl 4 (by decide) (hts (.fieldLink RX3 25 "FrontDoor" "refusals" "[I") (by decide +kernel)) (fun _ h9 => h9) rfl hin rfl (by decide +kernel) rfl rfl (Nat.le_of_ble_eq_true rfl) dX3_init_53 (fun H locs hP hD hS => ?_)
  have hP : va_P (dC, dI) vwCl [(h0, .inr (4, [.ref q_1, .ref q_3, .ref q_5, .ref q_7, .ref q_9, .int 0, .int 0, .int 0, .int 0, .int 0, .int 0, .int 0, .int 0])), (q_1, .inr (0, [.int 0, .ref z, .int 0])), (q_3, .inr (0, [.int 0, .ref z, .int 0])), (q_5, .inr (0, [.int 0, .ref z, .int 0])), (q_7, .inr (0, [.int 0, .ref z, .int 0])), (q_9, .inl (cA_9, 7, .inl (fun _ => 0)))] H := hP
  have hD : va_D A [(h0, .inr (4, [.ref q_1, .ref q_3, .ref q_5, .ref q_7, .ref q_9, .int 0, .int 0, .int 0, .int 0, .int 0, .int 0, .int 0, .int 0])), (q_1, .inr (0, [.int 0, .ref z, .int 0])), (q_3, .inr (0, [.int 0, .ref z, .int 0])), (q_5, .inr (0, [.int 0, .ref z, .int 0])), (q_7, .inr (0, [.int 0, .ref z, .int 0])), (q_9, .inl (cA_9, 7, .inl (fun _ => 0)))] := hD
  refine lv_aload_n hx hb dX3_init_56 rfl (lv_at hl 0 rfl) ?_
  refine lv_iconst (v := 0) hx hb dX3_init_57 (by decide) ?_
  refine va_put (D := (dC, dI)) (ci := 4) (v := .int 0) (ty := .int) (C := RX3) (T := TX3) (N := 13) hx hb hts (fun _ h => List.mem_cons_of_mem _ (List.mem_append_right _ h)) tyX3 tyX3_ok nmX3 hown hK hP hD hS 0 rfl rfl 6 (by decide) (hts (.fieldLink RX3 29 "FrontDoor" "ruleNow" "I") (by decide +kernel)) (fun _ h9 => h9) rfl (by decide +kernel) rfl rfl (Nat.le_of_ble_eq_true rfl) dX3_init_58 (fun H locs hP hD hS => ?_)
  have hP : va_P (dC, dI) vwCl [(h0, .inr (4, [.ref q_1, .ref q_3, .ref q_5, .ref q_7, .ref q_9, .int 0, .int 0, .int 0, .int 0, .int 0, .int 0, .int 0, .int 0])), (q_1, .inr (0, [.int 0, .ref z, .int 0])), (q_3, .inr (0, [.int 0, .ref z, .int 0])), (q_5, .inr (0, [.int 0, .ref z, .int 0])), (q_7, .inr (0, [.int 0, .ref z, .int 0])), (q_9, .inl (cA_9, 7, .inl (fun _ => 0)))] H := hP
  have hD : va_D A [(h0, .inr (4, [.ref q_1, .ref q_3, .ref q_5, .ref q_7, .ref q_9, .int 0, .int 0, .int 0, .int 0, .int 0, .int 0, .int 0, .int 0])), (q_1, .inr (0, [.int 0, .ref z, .int 0])), (q_3, .inr (0, [.int 0, .ref z, .int 0])), (q_5, .inr (0, [.int 0, .ref z, .int 0])), (q_7, .inr (0, [.int 0, .ref z, .int 0])), (q_9, .inl (cA_9, 7, .inl (fun _ => 0)))] := hD
  refine lv_aload_n hx hb dX3_init_61 rfl (lv_at hl 0 rfl) ?_
  refine lv_iconst (v := 3) hx hb dX3_init_62 (by decide) ?_
  refine va_put (D := (dC, dI)) (ci := 4) (v := .int 3) (ty := .int) (C := RX3) (T := TX3) (N := 13) hx hb hts (fun _ h => List.mem_cons_of_mem _ (List.mem_append_right _ h)) tyX3 tyX3_ok nmX3 hown hK hP hD hS 0 rfl rfl 7 (by decide) (hts (.fieldLink RX3 33 "FrontDoor" "limitNow" "I") (by decide +kernel)) (fun _ h9 => h9) rfl (by decide +kernel) rfl rfl (Nat.le_of_ble_eq_true rfl) dX3_init_63 (fun H locs hP hD hS => ?_)
  have hP : va_P (dC, dI) vwCl [(h0, .inr (4, [.ref q_1, .ref q_3, .ref q_5, .ref q_7, .ref q_9, .int 0, .int 0, .int 3, .int 0, .int 0, .int 0, .int 0, .int 0])), (q_1, .inr (0, [.int 0, .ref z, .int 0])), (q_3, .inr (0, [.int 0, .ref z, .int 0])), (q_5, .inr (0, [.int 0, .ref z, .int 0])), (q_7, .inr (0, [.int 0, .ref z, .int 0])), (q_9, .inl (cA_9, 7, .inl (fun _ => 0)))] H := hP
  have hD : va_D A [(h0, .inr (4, [.ref q_1, .ref q_3, .ref q_5, .ref q_7, .ref q_9, .int 0, .int 0, .int 3, .int 0, .int 0, .int 0, .int 0, .int 0])), (q_1, .inr (0, [.int 0, .ref z, .int 0])), (q_3, .inr (0, [.int 0, .ref z, .int 0])), (q_5, .inr (0, [.int 0, .ref z, .int 0])), (q_7, .inr (0, [.int 0, .ref z, .int 0])), (q_9, .inl (cA_9, 7, .inl (fun _ => 0)))] := hD
  refine lv_aload_n hx hb dX3_init_66 rfl (lv_at hl 0 rfl) ?_
  refine lv_bipush (v := 20) hx hb dX3_init_67 (by decide) ?_
  refine va_put (D := (dC, dI)) (ci := 4) (v := .int 20) (ty := .int) (C := RX3) (T := TX3) (N := 13) hx hb hts (fun _ h => List.mem_cons_of_mem _ (List.mem_append_right _ h)) tyX3 tyX3_ok nmX3 hown hK hP hD hS 0 rfl rfl 8 (by decide) (hts (.fieldLink RX3 36 "FrontDoor" "budgetNow" "I") (by decide +kernel)) (fun _ h9 => h9) rfl (by decide +kernel) rfl rfl (Nat.le_of_ble_eq_true rfl) dX3_init_69 (fun H locs hP hD hS => ?_)
  have hP : va_P (dC, dI) vwCl [(h0, .inr (4, [.ref q_1, .ref q_3, .ref q_5, .ref q_7, .ref q_9, .int 0, .int 0, .int 3, .int 20, .int 0, .int 0, .int 0, .int 0])), (q_1, .inr (0, [.int 0, .ref z, .int 0])), (q_3, .inr (0, [.int 0, .ref z, .int 0])), (q_5, .inr (0, [.int 0, .ref z, .int 0])), (q_7, .inr (0, [.int 0, .ref z, .int 0])), (q_9, .inl (cA_9, 7, .inl (fun _ => 0)))] H := hP
  have hD : va_D A [(h0, .inr (4, [.ref q_1, .ref q_3, .ref q_5, .ref q_7, .ref q_9, .int 0, .int 0, .int 3, .int 20, .int 0, .int 0, .int 0, .int 0])), (q_1, .inr (0, [.int 0, .ref z, .int 0])), (q_3, .inr (0, [.int 0, .ref z, .int 0])), (q_5, .inr (0, [.int 0, .ref z, .int 0])), (q_7, .inr (0, [.int 0, .ref z, .int 0])), (q_9, .inl (cA_9, 7, .inl (fun _ => 0)))] := hD
  have hP9 := hP.sub (ws' := [(h0, .inr (4, [.ref q_1, .ref q_3, .ref q_5, .ref q_7, .ref q_9, .int 0, .int 0, .int 3, .int 20, .int 0, .int 0, .int 0, .int 0])), (q_1, .inr (0, [.int 0, .ref z, .int 0])), (q_3, .inr (0, [.int 0, .ref z, .int 0])), (q_5, .inr (0, [.int 0, .ref z, .int 0])), (q_7, .inr (0, [.int 0, .ref z, .int 0])), (q_9, .inl (cA_9, 7, .inl (fun _ => 0)))]) [0, 1, 2, 3, 4, 5] rfl
  have hD9 := hD.sub (ws' := [(h0, .inr (4, [.ref q_1, .ref q_3, .ref q_5, .ref q_7, .ref q_9, .int 0, .int 0, .int 3, .int 20, .int 0, .int 0, .int 0, .int 0])), (q_1, .inr (0, [.int 0, .ref z, .int 0])), (q_3, .inr (0, [.int 0, .ref z, .int 0])), (q_5, .inr (0, [.int 0, .ref z, .int 0])), (q_7, .inr (0, [.int 0, .ref z, .int 0])), (q_9, .inl (cA_9, 7, .inl (fun _ => 0)))]) [0, 1, 2, 3, 4, 5] (by decide) rfl
  have hK9 := hK.sub (tys' := [(cA_9, .int)]) [0] rfl
  exact W.vret hx hb hr (fun t ht hW => ⟨⟨(), rfl, trivial, ⟨q_1, q_3, q_5, q_7, q_9, cA_9, by rw [ht]; exact hP9, va_K.moved hW.alike hK9, hD9⟩⟩, hS.F ht⟩) hS.2.2 dX3_init_72

set_option maxHeartbeats 40000000 in
set_option maxRecDepth 100000 in
theorem k_X3_count (l : Launch) (dC : Nat → ClassId) (dI : Nat → Nat → Nat) (h0 : Nat) (q1 : Nat) (q2 : Nat) (q3 : Nat) (q4 : Nat) (q5 : Nat) (z : Nat) (cI : ClassId) (a1 : Int32) (sz : Nat) : Met l yX3_count wsX3_count ({ frames := 2, cells := 0, slots := 0, locals := 43 }) (va_Pc [.ref h0, .int a1] (pzPre (dC, dI) vwCl [(h0, .inr (4, [.ref q1, .ref q2, .ref q3, .ref q4, .ref q5, .int 0, .int 0, .int 3, .int 20, .int 0, .int 0, .int 0, .int 0])), (q1, .inr (0, [.int 0, .ref z, .int 0])), (q2, .inr (0, [.int 0, .ref z, .int 0])), (q5, .inl (cI, 7, .inl (fun _ => 0)))] [(cI, .int)] sz)) (va_Qi (fun (r : Int32) (_ : Unit) => r = ex_count a1) (fun _ _ => True) (va_A [] sz)) 0 0 (va_A [] sz) := by
  refine Met.ofW (cc := cX3_count) (maxL := 2) (ret := (some .int)) (by decide) rfl ?_
  intro p e s m args below meth c s₁ B hml hv
  obtain ⟨rfl, hsz, hP, hK, hD0⟩ := hv
  have hx := B.exec
  have hb := B.bytes
  have hr := B.returns
  have hts := atoms_spec (ws := wsX3_count) B.pre
  have hown : s.vm.findClass RX3 = some m.cls := findClass_of_methodNamed B.named
  have hlocks := B.notSynchronized
  subst hsz
  have hA : ∀ q : Nat, s.heap.size ≤ q → va_A [] s.heap.size q := fun q h => Or.inr h
  have hD := hD0
  generalize va_A [] s.heap.size = A at hA ⊢
  have hS : va_S A s.heap s.heap [] := va_S.rf
  have hP : va_P (dC, dI) vwCl [(h0, .inr (4, [.ref q1, .ref q2, .ref q3, .ref q4, .ref q5, .int 0, .int 0, .int 3, .int 20, .int 0, .int 0, .int 0, .int 0])), (q1, .inr (0, [.int 0, .ref z, .int 0])), (q2, .inr (0, [.int 0, .ref z, .int 0])), (q5, .inl (cI, 7, .inl (fun _ => 0)))] s.heap := hP
  have hl := lv_entry ([.ref h0, .int a1]) (n := 2) (Nat.le_of_ble_eq_true rfl)
  rw [lg_entry_eq]
  generalize (lg_sl ([.ref h0, .int a1]) ++ List.replicate (2 - (lg_sl ([.ref h0, .int a1])).length) Slot.unset).toArray = ls at hl ⊢
  have hl : lv_has ls 2 [(0, .ref h0), (1, .int a1)] := hl
  refine lv_iload_n hx hb dX3_count_0 rfl (lv_at hl 1 rfl) ?_
  refine lv_iconst (v := 3) hx hb dX3_count_1 (by decide) ?_
  refine lv_icmp_lt (tgt := 19) hx hb dX3_count_2 (by decide) (fun c_1 => ?_) (fun c_1 => ?_)
  · skip
    have i_1 : a1.toInt < 3 := by have h9 := pz_lt c_1; exact h9
    refine lv_iload_n hx hb dX3_count_19 rfl (lv_at hl 1 rfl) ?_
    refine lv_bipush (v := 11) hx hb dX3_count_20 (by decide) ?_
    refine lv_icmp_lt (tgt := 41) hx hb dX3_count_22 (by decide) (fun c_2 => ?_) (fun c_2 => ?_)
    · skip
      have i_2 : a1.toInt < 11 := by have h9 := pz_lt c_2; exact h9
      refine lv_iload_n hx hb dX3_count_41 rfl (lv_at hl 1 rfl) ?_
      by_cases t_3 : a1.toInt < 0 ∨ 17 < a1.toInt
      · skip
        refine lv_tableOut (tgt := 169) hx hb dX3_count_42 t_3 (by decide) ?_
        refine lv_bipush (v := (-9)) hx hb dX3_count_169 (by decide) ?_
        exact W.iret (v := (-9)) hx hb hr (fun t ht hW => ⟨⟨(-9), (), rfl, (by unfold ex_count; (repeat' split) <;> first | rfl | omega), trivial⟩, hS.F ht⟩) hS.2.2 dX3_count_171
      · skip
        rcases pz_cases18 t_3 with e_3 | e_3 | e_3 | e_3 | e_3 | e_3 | e_3 | e_3 | e_3 | e_3 | e_3 | e_3 | e_3 | e_3 | e_3 | e_3 | e_3 | e_3
        · skip
          subst e_3
          refine lv_tableIn (off := 86) (tgt := 128) hx hb dX3_count_42 (by decide) (by decide) (by decide) (by decide) ?_
          refine lv_aload_n hx hb dX3_count_128 rfl (lv_at hl 0 rfl) ?_
          refine va_get (D := (dC, dI)) (ci := 4) (v := .int 0) (C := RX3) (T := TX3) (N := 13) hx hb hts (fun _ h => List.mem_cons_of_mem _ (List.mem_append_left _ (List.mem_append_left _ (List.mem_append_left _ (List.mem_append_right _ h))))) hown hK hP 0 rfl rfl 5 (by decide) (hts (.fieldLink RX3 95 "FrontDoor" "tick" "I") (by decide +kernel)) (fun _ h9 => h9) rfl dX3_count_129 ?_
          exact W.iret (v := 0) hx hb hr (fun t ht hW => ⟨⟨0, (), rfl, (by decide), trivial⟩, hS.F ht⟩) hS.2.2 dX3_count_132
        · skip
          subst e_3
          refine lv_tableIn (off := 91) (tgt := 133) hx hb dX3_count_42 (by decide) (by decide) (by decide) (by decide) ?_
          refine lv_aload_n hx hb dX3_count_133 rfl (lv_at hl 0 rfl) ?_
          refine va_get (D := (dC, dI)) (ci := 4) (v := .ref q1) (C := RX3) (T := TX3) (N := 13) hx hb hts (fun _ h => List.mem_cons_of_mem _ (List.mem_append_left _ (List.mem_append_left _ (List.mem_append_left _ (List.mem_append_right _ h))))) hown hK hP 0 rfl rfl 0 (by decide) (hts (.fieldLink RX3 10 "FrontDoor" "servers" "Ljava/util/ArrayList;") (by decide +kernel)) (fun _ h9 => h9) rfl dX3_count_134 ?_
          have hPc := hP.sub (ws' := [(q1, .inr (0, [.int 0, .ref z, .int 0]))]) [1] rfl
          have hDc := hD.sub (ws' := [(q1, .inr (0, [.int 0, .ref z, .int 0]))]) [1] (by decide) rfl
          have hKc := hK.sub (tys' := []) [] rfl
          have hFc := pz_f hA hS
          refine va_calli (va_runV (As := []) (rest := []) ⟨hx, hb, hml, hown, hts⟩ (k_Jx4a65c_size_8abf5 l dC dI q1 z s.heap.size) (cwV 0 hts gX3_count_Jx4a65c_size_8abf5 rfl rfl rfl (by decide +kernel) ⟨Nat.le_of_ble_eq_true rfl, Nat.le_of_ble_eq_true rfl⟩) ⟨pz_blind, va_recv hKc hPc (ci := 0) (q0 := 0) rfl rfl, fun U hU hW => ⟨rfl, pz_at hPc hKc hDc hU hW⟩⟩ rfl rfl hl.1 rfl (lv_room (Nat.le_of_ble_eq_true rfl)) dX3_count_137 ⟨Nat.le_of_ble_eq_true rfl, Nat.le_of_ble_eq_true rfl⟩) hS (fun q _ h => hFc q h) hFc (fun r_4 u t H locs ht hvm hw hB hz1 hk1 hS => ?_)
          have hP := pz_keep hP hk1
          have hw : r_4 = 0 := hw
          subst hw
          exact W.iret (v := 0) hx hb hr (fun t ht hW => ⟨⟨0, (), rfl, (by decide), trivial⟩, hS.F ht⟩) hS.2.2 dX3_count_140
        · skip
          subst e_3
          refine lv_tableIn (off := 99) (tgt := 141) hx hb dX3_count_42 (by decide) (by decide) (by decide) (by decide) ?_
          refine lv_aload_n hx hb dX3_count_141 rfl (lv_at hl 0 rfl) ?_
          refine va_get (D := (dC, dI)) (ci := 4) (v := .ref q2) (C := RX3) (T := TX3) (N := 13) hx hb hts (fun _ h => List.mem_cons_of_mem _ (List.mem_append_left _ (List.mem_append_left _ (List.mem_append_left _ (List.mem_append_right _ h))))) hown hK hP 0 rfl rfl 1 (by decide) (hts (.fieldLink RX3 16 "FrontDoor" "calls" "Ljava/util/ArrayList;") (by decide +kernel)) (fun _ h9 => h9) rfl dX3_count_142 ?_
          have hPc := hP.sub (ws' := [(q2, .inr (0, [.int 0, .ref z, .int 0]))]) [2] rfl
          have hDc := hD.sub (ws' := [(q2, .inr (0, [.int 0, .ref z, .int 0]))]) [2] (by decide) rfl
          have hKc := hK.sub (tys' := []) [] rfl
          have hFc := pz_f hA hS
          refine va_calli (va_runV (As := []) (rest := []) ⟨hx, hb, hml, hown, hts⟩ (k_Jx4a65c_size_8abf5 l dC dI q2 z s.heap.size) (cwV 0 hts gX3_count_Jx4a65c_size_8abf5 rfl rfl rfl (by decide +kernel) ⟨Nat.le_of_ble_eq_true rfl, Nat.le_of_ble_eq_true rfl⟩) ⟨pz_blind, va_recv hKc hPc (ci := 0) (q0 := 0) rfl rfl, fun U hU hW => ⟨rfl, pz_at hPc hKc hDc hU hW⟩⟩ rfl rfl hl.1 rfl (lv_room (Nat.le_of_ble_eq_true rfl)) dX3_count_145 ⟨Nat.le_of_ble_eq_true rfl, Nat.le_of_ble_eq_true rfl⟩) hS (fun q _ h => hFc q h) hFc (fun r_5 u t H locs ht hvm hw hB hz1 hk1 hS => ?_)
          have hP := pz_keep hP hk1
          have hw : r_5 = 0 := hw
          subst hw
          exact W.iret (v := 0) hx hb hr (fun t ht hW => ⟨⟨0, (), rfl, (by decide), trivial⟩, hS.F ht⟩) hS.2.2 dX3_count_148
        · skip
          exfalso
          have h9 : a1.toInt = 3 := by rw [e_3]; decide
          omega
        · skip
          exfalso
          have h9 : a1.toInt = 4 := by rw [e_3]; decide
          omega
        · skip
          exfalso
          have h9 : a1.toInt = 5 := by rw [e_3]; decide
          omega
        · skip
          exfalso
          have h9 : a1.toInt = 6 := by rw [e_3]; decide
          omega
        · skip
          exfalso
          have h9 : a1.toInt = 7 := by rw [e_3]; decide
          omega
        · skip
          exfalso
          have h9 : a1.toInt = 8 := by rw [e_3]; decide
          omega
        · skip
          exfalso
          have h9 : a1.toInt = 9 := by rw [e_3]; decide
          omega
        · skip
          exfalso
          have h9 : a1.toInt = 10 := by rw [e_3]; decide
          omega
        · skip
          exfalso
          have h9 : a1.toInt = 11 := by rw [e_3]; decide
          omega
        · skip
          exfalso
          have h9 : a1.toInt = 12 := by rw [e_3]; decide
          omega
        · skip
          exfalso
          have h9 : a1.toInt = 13 := by rw [e_3]; decide
          omega
        · skip
          exfalso
          have h9 : a1.toInt = 14 := by rw [e_3]; decide
          omega
        · skip
          exfalso
          have h9 : a1.toInt = 15 := by rw [e_3]; decide
          omega
        · skip
          exfalso
          have h9 : a1.toInt = 16 := by rw [e_3]; decide
          omega
        · skip
          exfalso
          have h9 : a1.toInt = 17 := by rw [e_3]; decide
          omega
    · skip
      have i_2 : 11 ≤ a1.toInt := by have h9 := pz_nlt c_2; exact h9
      exfalso
      omega
  · skip
    have i_1 : 3 ≤ a1.toInt := by have h9 := pz_nlt c_1; exact h9
    refine lv_iload_n hx hb dX3_count_5 rfl (lv_at hl 1 rfl) ?_
    refine lv_bipush (v := 7) hx hb dX3_count_6 (by decide) ?_
    refine lv_icmp_gt (tgt := 19) hx hb dX3_count_8 (by decide) (fun c_6 => ?_) (fun c_6 => ?_)
    · skip
      have i_6 : 7 < a1.toInt := by have h9 := pz_gt c_6; exact h9
      refine lv_iload_n hx hb dX3_count_19 rfl (lv_at hl 1 rfl) ?_
      refine lv_bipush (v := 11) hx hb dX3_count_20 (by decide) ?_
      refine lv_icmp_lt (tgt := 41) hx hb dX3_count_22 (by decide) (fun c_7 => ?_) (fun c_7 => ?_)
      · skip
        have i_7 : a1.toInt < 11 := by have h9 := pz_lt c_7; exact h9
        refine lv_iload_n hx hb dX3_count_41 rfl (lv_at hl 1 rfl) ?_
        by_cases t_8 : a1.toInt < 0 ∨ 17 < a1.toInt
        · skip
          refine lv_tableOut (tgt := 169) hx hb dX3_count_42 t_8 (by decide) ?_
          refine lv_bipush (v := (-9)) hx hb dX3_count_169 (by decide) ?_
          exact W.iret (v := (-9)) hx hb hr (fun t ht hW => ⟨⟨(-9), (), rfl, (by unfold ex_count; (repeat' split) <;> first | rfl | omega), trivial⟩, hS.F ht⟩) hS.2.2 dX3_count_171
        · skip
          rcases pz_cases18 t_8 with e_8 | e_8 | e_8 | e_8 | e_8 | e_8 | e_8 | e_8 | e_8 | e_8 | e_8 | e_8 | e_8 | e_8 | e_8 | e_8 | e_8 | e_8
          · skip
            exfalso
            have h9 : a1.toInt = 0 := by rw [e_8]; decide
            omega
          · skip
            exfalso
            have h9 : a1.toInt = 1 := by rw [e_8]; decide
            omega
          · skip
            exfalso
            have h9 : a1.toInt = 2 := by rw [e_8]; decide
            omega
          · skip
            exfalso
            have h9 : a1.toInt = 3 := by rw [e_8]; decide
            omega
          · skip
            exfalso
            have h9 : a1.toInt = 4 := by rw [e_8]; decide
            omega
          · skip
            exfalso
            have h9 : a1.toInt = 5 := by rw [e_8]; decide
            omega
          · skip
            exfalso
            have h9 : a1.toInt = 6 := by rw [e_8]; decide
            omega
          · skip
            exfalso
            have h9 : a1.toInt = 7 := by rw [e_8]; decide
            omega
          · skip
            subst e_8
            refine lv_tableIn (off := 107) (tgt := 149) hx hb dX3_count_42 (by decide) (by decide) (by decide) (by decide) ?_
            refine lv_aload_n hx hb dX3_count_149 rfl (lv_at hl 0 rfl) ?_
            have hPc := hP.sub (ws' := [(h0, .inr (4, [.ref q1, .ref q2, .ref q3, .ref q4, .ref q5, .int 0, .int 0, .int 3, .int 20, .int 0, .int 0, .int 0, .int 0])), (q1, .inr (0, [.int 0, .ref z, .int 0]))]) [0, 1] rfl
            have hDc := hD.sub (ws' := [(h0, .inr (4, [.ref q1, .ref q2, .ref q3, .ref q4, .ref q5, .int 0, .int 0, .int 3, .int 20, .int 0, .int 0, .int 0, .int 0])), (q1, .inr (0, [.int 0, .ref z, .int 0]))]) [0, 1] (by decide) rfl
            have hKc := hK.sub (tys' := []) [] rfl
            have hFc := pz_f hA hS
            refine va_calli (va_runV (As := []) (rest := []) ⟨hx, hb, hml, hown, hts⟩ (k_X3_askingsSoFar l dC dI h0 q1 q2 q3 q4 q5 z 0 s.heap.size) (cwV 0 hts gX3_count_X3_askingsSoFar rfl rfl rfl (by decide +kernel) ⟨Nat.le_of_ble_eq_true rfl, Nat.le_of_ble_eq_true rfl⟩) ⟨pz_blind, va_recv hKc hPc (ci := 4) (q0 := 0) rfl rfl, fun U hU hW => ⟨rfl, pz_at hPc hKc hDc hU hW⟩⟩ rfl rfl hl.1 rfl (lv_room (Nat.le_of_ble_eq_true rfl)) dX3_count_150 ⟨Nat.le_of_ble_eq_true rfl, Nat.le_of_ble_eq_true rfl⟩) hS (fun q _ h => hFc q h) hFc (fun r_9 u t H locs ht hvm hw hB hz1 hk1 hS => ?_)
            have hP := pz_keep hP hk1
            have hw : r_9 = 0 := hw
            subst hw
            exact W.iret (v := 0) hx hb hr (fun t ht hW => ⟨⟨0, (), rfl, (by decide), trivial⟩, hS.F ht⟩) hS.2.2 dX3_count_153
          · skip
            subst e_8
            refine lv_tableIn (off := 112) (tgt := 154) hx hb dX3_count_42 (by decide) (by decide) (by decide) (by decide) ?_
            refine lv_aload_n hx hb dX3_count_154 rfl (lv_at hl 0 rfl) ?_
            refine va_get (D := (dC, dI)) (ci := 4) (v := .int 0) (C := RX3) (T := TX3) (N := 13) hx hb hts (fun _ h => List.mem_cons_of_mem _ (List.mem_append_left _ (List.mem_append_left _ (List.mem_append_left _ (List.mem_append_right _ h))))) hown hK hP 0 rfl rfl 10 (by decide) (hts (.fieldLink RX3 164 "FrontDoor" "agains" "I") (by decide +kernel)) (fun _ h9 => h9) rfl dX3_count_155 ?_
            exact W.iret (v := 0) hx hb hr (fun t ht hW => ⟨⟨0, (), rfl, (by decide), trivial⟩, hS.F ht⟩) hS.2.2 dX3_count_158
          · skip
            subst e_8
            refine lv_tableIn (off := 117) (tgt := 159) hx hb dX3_count_42 (by decide) (by decide) (by decide) (by decide) ?_
            refine lv_aload_n hx hb dX3_count_159 rfl (lv_at hl 0 rfl) ?_
            refine va_get (D := (dC, dI)) (ci := 4) (v := .int 0) (C := RX3) (T := TX3) (N := 13) hx hb hts (fun _ h => List.mem_cons_of_mem _ (List.mem_append_left _ (List.mem_append_left _ (List.mem_append_left _ (List.mem_append_right _ h))))) hown hK hP 0 rfl rfl 11 (by decide) (hts (.fieldLink RX3 167 "FrontDoor" "seconds" "I") (by decide +kernel)) (fun _ h9 => h9) rfl dX3_count_160 ?_
            exact W.iret (v := 0) hx hb hr (fun t ht hW => ⟨⟨0, (), rfl, (by decide), trivial⟩, hS.F ht⟩) hS.2.2 dX3_count_163
          · skip
            exfalso
            have h9 : a1.toInt = 11 := by rw [e_8]; decide
            omega
          · skip
            exfalso
            have h9 : a1.toInt = 12 := by rw [e_8]; decide
            omega
          · skip
            exfalso
            have h9 : a1.toInt = 13 := by rw [e_8]; decide
            omega
          · skip
            exfalso
            have h9 : a1.toInt = 14 := by rw [e_8]; decide
            omega
          · skip
            exfalso
            have h9 : a1.toInt = 15 := by rw [e_8]; decide
            omega
          · skip
            exfalso
            have h9 : a1.toInt = 16 := by rw [e_8]; decide
            omega
          · skip
            exfalso
            have h9 : a1.toInt = 17 := by rw [e_8]; decide
            omega
      · skip
        have i_7 : 11 ≤ a1.toInt := by have h9 := pz_nlt c_7; exact h9
        refine lv_iload_n hx hb dX3_count_25 rfl (lv_at hl 1 rfl) ?_
        refine lv_bipush (v := 16) hx hb dX3_count_26 (by decide) ?_
        refine lv_icmp_gt (tgt := 41) hx hb dX3_count_28 (by decide) (fun c_10 => ?_) (fun c_10 => ?_)
        · skip
          have i_10 : 16 < a1.toInt := by have h9 := pz_gt c_10; exact h9
          refine lv_iload_n hx hb dX3_count_41 rfl (lv_at hl 1 rfl) ?_
          by_cases t_11 : a1.toInt < 0 ∨ 17 < a1.toInt
          · skip
            refine lv_tableOut (tgt := 169) hx hb dX3_count_42 t_11 (by decide) ?_
            refine lv_bipush (v := (-9)) hx hb dX3_count_169 (by decide) ?_
            exact W.iret (v := (-9)) hx hb hr (fun t ht hW => ⟨⟨(-9), (), rfl, (by unfold ex_count; (repeat' split) <;> first | rfl | omega), trivial⟩, hS.F ht⟩) hS.2.2 dX3_count_171
          · skip
            rcases pz_cases18 t_11 with e_11 | e_11 | e_11 | e_11 | e_11 | e_11 | e_11 | e_11 | e_11 | e_11 | e_11 | e_11 | e_11 | e_11 | e_11 | e_11 | e_11 | e_11
            · skip
              exfalso
              have h9 : a1.toInt = 0 := by rw [e_11]; decide
              omega
            · skip
              exfalso
              have h9 : a1.toInt = 1 := by rw [e_11]; decide
              omega
            · skip
              exfalso
              have h9 : a1.toInt = 2 := by rw [e_11]; decide
              omega
            · skip
              exfalso
              have h9 : a1.toInt = 3 := by rw [e_11]; decide
              omega
            · skip
              exfalso
              have h9 : a1.toInt = 4 := by rw [e_11]; decide
              omega
            · skip
              exfalso
              have h9 : a1.toInt = 5 := by rw [e_11]; decide
              omega
            · skip
              exfalso
              have h9 : a1.toInt = 6 := by rw [e_11]; decide
              omega
            · skip
              exfalso
              have h9 : a1.toInt = 7 := by rw [e_11]; decide
              omega
            · skip
              exfalso
              have h9 : a1.toInt = 8 := by rw [e_11]; decide
              omega
            · skip
              exfalso
              have h9 : a1.toInt = 9 := by rw [e_11]; decide
              omega
            · skip
              exfalso
              have h9 : a1.toInt = 10 := by rw [e_11]; decide
              omega
            · skip
              exfalso
              have h9 : a1.toInt = 11 := by rw [e_11]; decide
              omega
            · skip
              exfalso
              have h9 : a1.toInt = 12 := by rw [e_11]; decide
              omega
            · skip
              exfalso
              have h9 : a1.toInt = 13 := by rw [e_11]; decide
              omega
            · skip
              exfalso
              have h9 : a1.toInt = 14 := by rw [e_11]; decide
              omega
            · skip
              exfalso
              have h9 : a1.toInt = 15 := by rw [e_11]; decide
              omega
            · skip
              exfalso
              have h9 : a1.toInt = 16 := by rw [e_11]; decide
              omega
            · skip
              subst e_11
              refine lv_tableIn (off := 122) (tgt := 164) hx hb dX3_count_42 (by decide) (by decide) (by decide) (by decide) ?_
              refine lv_aload_n hx hb dX3_count_164 rfl (lv_at hl 0 rfl) ?_
              have hPc := hP.sub (ws' := [(h0, .inr (4, [.ref q1, .ref q2, .ref q3, .ref q4, .ref q5, .int 0, .int 0, .int 3, .int 20, .int 0, .int 0, .int 0, .int 0])), (q1, .inr (0, [.int 0, .ref z, .int 0]))]) [0, 1] rfl
              have hDc := hD.sub (ws' := [(h0, .inr (4, [.ref q1, .ref q2, .ref q3, .ref q4, .ref q5, .int 0, .int 0, .int 3, .int 20, .int 0, .int 0, .int 0, .int 0])), (q1, .inr (0, [.int 0, .ref z, .int 0]))]) [0, 1] (by decide) rfl
              have hKc := hK.sub (tys' := []) [] rfl
              have hFc := pz_f hA hS
              refine va_calli (va_runV (As := []) (rest := []) ⟨hx, hb, hml, hown, hts⟩ (k_X3_openAskings l dC dI h0 q1 q2 q3 q4 q5 z 0 s.heap.size) (cwV 0 hts gX3_count_X3_openAskings rfl rfl rfl (by decide +kernel) ⟨Nat.le_of_ble_eq_true rfl, Nat.le_of_ble_eq_true rfl⟩) ⟨pz_blind, va_recv hKc hPc (ci := 4) (q0 := 0) rfl rfl, fun U hU hW => ⟨rfl, pz_at hPc hKc hDc hU hW⟩⟩ rfl rfl hl.1 rfl (lv_room (Nat.le_of_ble_eq_true rfl)) dX3_count_165 ⟨Nat.le_of_ble_eq_true rfl, Nat.le_of_ble_eq_true rfl⟩) hS (fun q _ h => hFc q h) hFc (fun r_12 u t H locs ht hvm hw hB hz1 hk1 hS => ?_)
              have hP := pz_keep hP hk1
              have hw : r_12 = 0 := hw
              subst hw
              exact W.iret (v := 0) hx hb hr (fun t ht hW => ⟨⟨0, (), rfl, (by decide), trivial⟩, hS.F ht⟩) hS.2.2 dX3_count_168
        · skip
          have i_10 : a1.toInt ≤ 16 := by have h9 := pz_ngt c_10; exact h9
          refine lv_aload_n hx hb dX3_count_31 rfl (lv_at hl 0 rfl) ?_
          refine va_get (D := (dC, dI)) (ci := 4) (v := .ref q5) (C := RX3) (T := TX3) (N := 13) hx hb hts (fun _ h => List.mem_cons_of_mem _ (List.mem_append_left _ (List.mem_append_left _ (List.mem_append_left _ (List.mem_append_right _ h))))) hown hK hP 0 rfl rfl 4 (by decide) (hts (.fieldLink RX3 25 "FrontDoor" "refusals" "[I") (by decide +kernel)) (fun _ h9 => h9) rfl dX3_count_32 ?_
          refine lv_iload_n hx hb dX3_count_35 rfl (lv_at hl 1 rfl) ?_
          refine lv_bipush (v := 10) hx hb dX3_count_36 (by decide) ?_
          refine lv_isub hx hb dX3_count_38 ?_
          refine lv_topi (fun x_13 ex_13 => ?_)
          refine va_iald hx hb hK hP 3 0 rfl rfl (pz_in10 ex_13 (by omega) (by omega)) dX3_count_39 ?_
          refine lv_topi (fun x_14 ex_14 => ?_)
          obtain rfl : x_14 = 0 := ex_14.trans (rfl)
          exact W.iret (v := 0) hx hb hr (fun t ht hW => ⟨⟨0, (), rfl, (by unfold ex_count; (repeat' split) <;> first | rfl | omega), trivial⟩, hS.F ht⟩) hS.2.2 dX3_count_40
    · skip
      have i_6 : a1.toInt ≤ 7 := by have h9 := pz_ngt c_6; exact h9
      refine lv_aload_n hx hb dX3_count_11 rfl (lv_at hl 0 rfl) ?_
      refine lv_iload_n hx hb dX3_count_12 rfl (lv_at hl 1 rfl) ?_
      refine lv_iconst (v := 3) hx hb dX3_count_13 (by decide) ?_
      refine lv_isub hx hb dX3_count_14 ?_
      refine lv_topi (fun x_15 ex_15 => ?_)
      have hPc := hP.sub (ws' := [(h0, .inr (4, [.ref q1, .ref q2, .ref q3, .ref q4, .ref q5, .int 0, .int 0, .int 3, .int 20, .int 0, .int 0, .int 0, .int 0])), (q2, .inr (0, [.int 0, .ref z, .int 0]))]) [0, 2] rfl
      have hDc := hD.sub (ws' := [(h0, .inr (4, [.ref q1, .ref q2, .ref q3, .ref q4, .ref q5, .int 0, .int 0, .int 3, .int 20, .int 0, .int 0, .int 0, .int 0])), (q2, .inr (0, [.int 0, .ref z, .int 0]))]) [0, 2] (by decide) rfl
      have hKc := hK.sub (tys' := []) [] rfl
      have hFc := pz_f hA hS
      refine va_calli (va_runV (As := [.int x_15]) (rest := []) ⟨hx, hb, hml, hown, hts⟩ (k_X3_callsThatAre l dC dI h0 q1 q2 q3 q4 q5 z 0 x_15 s.heap.size) (cwV 1 hts gX3_count_X3_callsThatAre rfl rfl rfl (by decide +kernel) ⟨Nat.le_of_ble_eq_true rfl, Nat.le_of_ble_eq_true rfl⟩) ⟨pz_blind, va_recv hKc hPc (ci := 4) (q0 := 0) rfl rfl, fun U hU hW => ⟨rfl, pz_at hPc hKc hDc hU hW⟩⟩ rfl rfl hl.1 rfl (lv_room (Nat.le_of_ble_eq_true rfl)) dX3_count_15 ⟨Nat.le_of_ble_eq_true rfl, Nat.le_of_ble_eq_true rfl⟩) hS (fun q _ h => hFc q h) hFc (fun r_16 u t H locs ht hvm hw hB hz1 hk1 hS => ?_)
      have hP := pz_keep hP hk1
      have hw : r_16 = 0 := hw
      subst hw
      exact W.iret (v := 0) hx hb hr (fun t ht hW => ⟨⟨0, (), rfl, (by unfold ex_count; (repeat' split) <;> first | rfl | omega), trivial⟩, hS.F ht⟩) hS.2.2 dX3_count_18

set_option maxHeartbeats 40000000 in
set_option maxRecDepth 100000 in
theorem k_X3_server (l : Launch) (dC : Nat → ClassId) (dI : Nat → Nat → Nat) (h0 : Nat) (q1 : Nat) (q2 : Nat) (q3 : Nat) (q4 : Nat) (q5 : Nat) (z : Nat) (cI : ClassId) (tk : Int32) (a1 : Int32) (a2 : Int32) (a3 : Int32) (a4 : Int32) (a5 : Int32) (sz : Nat) : Met l yX3_server wsX3_server ({ frames := 5, cells := 2, slots := 27, locals := 101 }) (va_Pc [.ref h0, .int a1, .int a2, .int a3, .int a4, .int a5] (pzPreZ (dC, dI) vwCl [(h0, .inr (4, [.ref q1, .ref q2, .ref q3, .ref q4, .ref q5, .int tk, .int 0, .int 3, .int 20, .int 0, .int 0, .int 0, .int 0])), (q1, .inr (0, [.int 0, .ref z, .int 0])), (q5, .inl (cI, 7, .inl (fun _ => 0)))] [(cI, .int)] sz z)) (va_Qi (fun (r : Int32) (_ : Unit) => r = ex_server a1 a2 a3 a4 a5) (fun _ _ => True) (va_A [(h0, .inr (4, [.ref q1, .ref q2, .ref q3, .ref q4, .ref q5, .int tk, .int 0, .int 3, .int 20, .int 0, .int 0, .int 0, .int 0])), (q1, .inr (0, [.int 0, .ref z, .int 0])), (q5, .inl (cI, 7, .inl (fun _ => 0)))] sz)) 2 27 (va_A [(h0, .inr (4, [.ref q1, .ref q2, .ref q3, .ref q4, .ref q5, .int tk, .int 0, .int 3, .int 20, .int 0, .int 0, .int 0, .int 0])), (q1, .inr (0, [.int 0, .ref z, .int 0])), (q5, .inl (cI, 7, .inl (fun _ => 0)))] sz) := by
  refine Met.ofW (cc := cX3_server) (maxL := 7) (ret := (some .int)) (by decide) rfl ?_
  intro p e s m args below meth c s₁ B hml hv
  obtain ⟨rfl, ⟨hsz, hP, hK, hD0⟩, hZ⟩ := hv
  have hx := B.exec
  have hb := B.bytes
  have hr := B.returns
  have hts := atoms_spec (ws := wsX3_server) B.pre
  have hown : s.vm.findClass RX3 = some m.cls := findClass_of_methodNamed B.named
  have hlocks := B.notSynchronized
  subst hsz
  have hD := hD0.self (sz := s.heap.size)
  generalize hAe : va_A [(h0, .inr (4, [.ref q1, .ref q2, .ref q3, .ref q4, .ref q5, .int tk, .int 0, .int 3, .int 20, .int 0, .int 0, .int 0, .int 0])), (q1, .inr (0, [.int 0, .ref z, .int 0])), (q5, .inl (cI, 7, .inl (fun _ => 0)))] s.heap.size = A at hD hZ ⊢
  have hA : ∀ q : Nat, s.heap.size ≤ q → A q := fun q h => by rw [← hAe]; exact Or.inr h
  have hS : va_S A s.heap s.heap [] := va_S.rf
  have hP : va_P (dC, dI) vwCl [(h0, .inr (4, [.ref q1, .ref q2, .ref q3, .ref q4, .ref q5, .int tk, .int 0, .int 3, .int 20, .int 0, .int 0, .int 0, .int 0])), (q1, .inr (0, [.int 0, .ref z, .int 0])), (q5, .inl (cI, 7, .inl (fun _ => 0)))] s.heap := hP
  have hl := lv_entry ([.ref h0, .int a1, .int a2, .int a3, .int a4, .int a5]) (n := 7) (Nat.le_of_ble_eq_true rfl)
  rw [lg_entry_eq]
  generalize (lg_sl ([.ref h0, .int a1, .int a2, .int a3, .int a4, .int a5]) ++ List.replicate (7 - (lg_sl ([.ref h0, .int a1, .int a2, .int a3, .int a4, .int a5])).length) Slot.unset).toArray = ls at hl ⊢
  have hl : lv_has ls 7 [(0, .ref h0), (1, .int a1), (2, .int a2), (3, .int a3), (4, .int a4), (5, .int a5)] := hl
  refine lv_iload_n hx hb dX3_server_0 rfl (lv_at hl 2 rfl) ?_
  refine lv_if_lt (tgt := 9) hx hb dX3_server_1 (by decide) (fun c_1 => ?_) (fun c_1 => ?_)
  · skip
    have i_1 : a2.toInt < 0 := by have h9 := pz_lt c_1; exact h9
    refine lv_aload_n hx hb dX3_server_9 rfl (lv_at hl 0 rfl) ?_
    refine lv_iconst (v := (-1)) hx hb dX3_server_10 (by decide) ?_
    have hPc := hP.sub (ws' := [(h0, .inr (4, [.ref q1, .ref q2, .ref q3, .ref q4, .ref q5, .int tk, .int 0, .int 3, .int 20, .int 0, .int 0, .int 0, .int 0])), (q5, .inl (cI, 7, .inl (fun _ => 0)))]) [0, 2] rfl
    have hDc := hD.sub (ws' := [(h0, .inr (4, [.ref q1, .ref q2, .ref q3, .ref q4, .ref q5, .int tk, .int 0, .int 3, .int 20, .int 0, .int 0, .int 0, .int 0])), (q5, .inl (cI, 7, .inl (fun _ => 0)))]) [0, 2] (by decide) rfl
    have hKc := hK.sub (tys' := [(cI, .int)]) [0] rfl
    have hFc := va_free (wc := [(h0, .inr (4, [.ref q1, .ref q2, .ref q3, .ref q4, .ref q5, .int tk, .int 0, .int 3, .int 20, .int 0, .int 0, .int 0, .int 0])), (q5, .inl (cI, 7, .inl (fun _ => 0)))]) hD hS hA [0, 2] rfl
    refine va_calli (va_runV (As := [.int (-1)]) (rest := []) ⟨hx, hb, hml, hown, hts⟩ (k_X3_refuse1 l dC dI h0 q1 q2 q3 q4 q5 cI tk s.heap.size) (cwV 1 hts gX3_server_X3_refuse rfl rfl rfl (by decide +kernel) ⟨Nat.le_of_ble_eq_true rfl, Nat.le_of_ble_eq_true rfl⟩) ⟨pz_blind, va_recv hKc hPc (ci := 4) (q0 := 0) rfl rfl, fun U hU hW => ⟨rfl, pz_at hPc hKc hDc hU hW⟩⟩ rfl rfl hl.1 rfl (lv_room (Nat.le_of_ble_eq_true rfl)) dX3_server_11 ⟨Nat.le_of_ble_eq_true rfl, Nat.le_of_ble_eq_true rfl⟩) hS (fun q _ h => hFc q h) hFc (fun r_2 u t H locs ht hvm hw hB hz1 hk1 hS => ?_)
    obtain ⟨hP, hD⟩ := va_join (wr := [(q1, .inr (0, [.int 0, .ref z, .int 0]))]) (w1 := []) hP hD [0, 2] [1] rfl rfl (by decide) (by decide) hk1 hFc pz_nilP pz_nilD
    have hP : va_P (dC, dI) vwCl [(q1, .inr (0, [.int 0, .ref z, .int 0]))] H := hP
    have hD : va_D A [(q1, .inr (0, [.int 0, .ref z, .int 0]))] := hD
    have hw : r_2 = (-1) := hw
    subst hw
    refine W.widen (k := 2) (n := 27) (by omega) (by omega) ?_
    exact W.iret (v := (-1)) hx hb hr (fun t ht hW => ⟨⟨(-1), (), rfl, (by unfold ex_server; (repeat' split) <;> first | rfl | omega), trivial⟩, hS.F ht⟩) hS.2.2 dX3_server_14
  · skip
    have i_1 : 0 ≤ a2.toInt := by have h9 := pz_nlt c_1; exact h9
    refine lv_iload_n hx hb dX3_server_4 rfl (lv_at hl 2 rfl) ?_
    refine lv_iconst (v := 4) hx hb dX3_server_5 (by decide) ?_
    refine lv_icmp_lt (tgt := 15) hx hb dX3_server_6 (by decide) (fun c_3 => ?_) (fun c_3 => ?_)
    · skip
      have i_3 : a2.toInt < 4 := by have h9 := pz_lt c_3; exact h9
      refine lv_iload_n hx hb dX3_server_15 rfl (lv_at hl 1 rfl) ?_
      refine lv_iconst (v := 1) hx hb dX3_server_16 (by decide) ?_
      refine lv_icmp_lt (tgt := 36) hx hb dX3_server_17 (by decide) (fun c_4 => ?_) (fun c_4 => ?_)
      · skip
        have i_4 : a1.toInt < 1 := by have h9 := pz_lt c_4; exact h9
        refine lv_aload_n hx hb dX3_server_36 rfl (lv_at hl 0 rfl) ?_
        refine lv_bipush (v := (-4)) hx hb dX3_server_37 (by decide) ?_
        have hPc := hP.sub (ws' := [(h0, .inr (4, [.ref q1, .ref q2, .ref q3, .ref q4, .ref q5, .int tk, .int 0, .int 3, .int 20, .int 0, .int 0, .int 0, .int 0])), (q5, .inl (cI, 7, .inl (fun _ => 0)))]) [0, 2] rfl
        have hDc := hD.sub (ws' := [(h0, .inr (4, [.ref q1, .ref q2, .ref q3, .ref q4, .ref q5, .int tk, .int 0, .int 3, .int 20, .int 0, .int 0, .int 0, .int 0])), (q5, .inl (cI, 7, .inl (fun _ => 0)))]) [0, 2] (by decide) rfl
        have hKc := hK.sub (tys' := [(cI, .int)]) [0] rfl
        have hFc := va_free (wc := [(h0, .inr (4, [.ref q1, .ref q2, .ref q3, .ref q4, .ref q5, .int tk, .int 0, .int 3, .int 20, .int 0, .int 0, .int 0, .int 0])), (q5, .inl (cI, 7, .inl (fun _ => 0)))]) hD hS hA [0, 2] rfl
        refine va_calli (va_runV (As := [.int (-4)]) (rest := []) ⟨hx, hb, hml, hown, hts⟩ (k_X3_refuse4 l dC dI h0 q1 q2 q3 q4 q5 cI tk s.heap.size) (cwV 1 hts gX3_server_X3_refuse rfl rfl rfl (by decide +kernel) ⟨Nat.le_of_ble_eq_true rfl, Nat.le_of_ble_eq_true rfl⟩) ⟨pz_blind, va_recv hKc hPc (ci := 4) (q0 := 0) rfl rfl, fun U hU hW => ⟨rfl, pz_at hPc hKc hDc hU hW⟩⟩ rfl rfl hl.1 rfl (lv_room (Nat.le_of_ble_eq_true rfl)) dX3_server_39 ⟨Nat.le_of_ble_eq_true rfl, Nat.le_of_ble_eq_true rfl⟩) hS (fun q _ h => hFc q h) hFc (fun r_5 u t H locs ht hvm hw hB hz1 hk1 hS => ?_)
        obtain ⟨hP, hD⟩ := va_join (wr := [(q1, .inr (0, [.int 0, .ref z, .int 0]))]) (w1 := []) hP hD [0, 2] [1] rfl rfl (by decide) (by decide) hk1 hFc pz_nilP pz_nilD
        have hP : va_P (dC, dI) vwCl [(q1, .inr (0, [.int 0, .ref z, .int 0]))] H := hP
        have hD : va_D A [(q1, .inr (0, [.int 0, .ref z, .int 0]))] := hD
        have hw : r_5 = (-4) := hw
        subst hw
        refine W.widen (k := 2) (n := 27) (by omega) (by omega) ?_
        exact W.iret (v := (-4)) hx hb hr (fun t ht hW => ⟨⟨(-4), (), rfl, (by unfold ex_server; (repeat' split) <;> first | rfl | omega), trivial⟩, hS.F ht⟩) hS.2.2 dX3_server_42
      · skip
        have i_4 : 1 ≤ a1.toInt := by have h9 := pz_nlt c_4; exact h9
        refine lv_iload_n hx hb dX3_server_20 rfl (lv_at hl 3 rfl) ?_
        refine lv_iconst (v := 1) hx hb dX3_server_21 (by decide) ?_
        refine lv_icmp_lt (tgt := 36) hx hb dX3_server_22 (by decide) (fun c_6 => ?_) (fun c_6 => ?_)
        · skip
          have i_6 : a3.toInt < 1 := by have h9 := pz_lt c_6; exact h9
          refine lv_aload_n hx hb dX3_server_36 rfl (lv_at hl 0 rfl) ?_
          refine lv_bipush (v := (-4)) hx hb dX3_server_37 (by decide) ?_
          have hPc := hP.sub (ws' := [(h0, .inr (4, [.ref q1, .ref q2, .ref q3, .ref q4, .ref q5, .int tk, .int 0, .int 3, .int 20, .int 0, .int 0, .int 0, .int 0])), (q5, .inl (cI, 7, .inl (fun _ => 0)))]) [0, 2] rfl
          have hDc := hD.sub (ws' := [(h0, .inr (4, [.ref q1, .ref q2, .ref q3, .ref q4, .ref q5, .int tk, .int 0, .int 3, .int 20, .int 0, .int 0, .int 0, .int 0])), (q5, .inl (cI, 7, .inl (fun _ => 0)))]) [0, 2] (by decide) rfl
          have hKc := hK.sub (tys' := [(cI, .int)]) [0] rfl
          have hFc := va_free (wc := [(h0, .inr (4, [.ref q1, .ref q2, .ref q3, .ref q4, .ref q5, .int tk, .int 0, .int 3, .int 20, .int 0, .int 0, .int 0, .int 0])), (q5, .inl (cI, 7, .inl (fun _ => 0)))]) hD hS hA [0, 2] rfl
          refine va_calli (va_runV (As := [.int (-4)]) (rest := []) ⟨hx, hb, hml, hown, hts⟩ (k_X3_refuse4 l dC dI h0 q1 q2 q3 q4 q5 cI tk s.heap.size) (cwV 1 hts gX3_server_X3_refuse rfl rfl rfl (by decide +kernel) ⟨Nat.le_of_ble_eq_true rfl, Nat.le_of_ble_eq_true rfl⟩) ⟨pz_blind, va_recv hKc hPc (ci := 4) (q0 := 0) rfl rfl, fun U hU hW => ⟨rfl, pz_at hPc hKc hDc hU hW⟩⟩ rfl rfl hl.1 rfl (lv_room (Nat.le_of_ble_eq_true rfl)) dX3_server_39 ⟨Nat.le_of_ble_eq_true rfl, Nat.le_of_ble_eq_true rfl⟩) hS (fun q _ h => hFc q h) hFc (fun r_7 u t H locs ht hvm hw hB hz1 hk1 hS => ?_)
          obtain ⟨hP, hD⟩ := va_join (wr := [(q1, .inr (0, [.int 0, .ref z, .int 0]))]) (w1 := []) hP hD [0, 2] [1] rfl rfl (by decide) (by decide) hk1 hFc pz_nilP pz_nilD
          have hP : va_P (dC, dI) vwCl [(q1, .inr (0, [.int 0, .ref z, .int 0]))] H := hP
          have hD : va_D A [(q1, .inr (0, [.int 0, .ref z, .int 0]))] := hD
          have hw : r_7 = (-4) := hw
          subst hw
          refine W.widen (k := 2) (n := 27) (by omega) (by omega) ?_
          exact W.iret (v := (-4)) hx hb hr (fun t ht hW => ⟨⟨(-4), (), rfl, (by unfold ex_server; (repeat' split) <;> first | rfl | omega), trivial⟩, hS.F ht⟩) hS.2.2 dX3_server_42
        · skip
          have i_6 : 1 ≤ a3.toInt := by have h9 := pz_nlt c_6; exact h9
          refine lv_iload hx hb dX3_server_25 (lv_at hl 4 rfl) ?_
          refine lv_iconst (v := 1) hx hb dX3_server_27 (by decide) ?_
          refine lv_icmp_lt (tgt := 36) hx hb dX3_server_28 (by decide) (fun c_8 => ?_) (fun c_8 => ?_)
          · skip
            have i_8 : a4.toInt < 1 := by have h9 := pz_lt c_8; exact h9
            refine lv_aload_n hx hb dX3_server_36 rfl (lv_at hl 0 rfl) ?_
            refine lv_bipush (v := (-4)) hx hb dX3_server_37 (by decide) ?_
            have hPc := hP.sub (ws' := [(h0, .inr (4, [.ref q1, .ref q2, .ref q3, .ref q4, .ref q5, .int tk, .int 0, .int 3, .int 20, .int 0, .int 0, .int 0, .int 0])), (q5, .inl (cI, 7, .inl (fun _ => 0)))]) [0, 2] rfl
            have hDc := hD.sub (ws' := [(h0, .inr (4, [.ref q1, .ref q2, .ref q3, .ref q4, .ref q5, .int tk, .int 0, .int 3, .int 20, .int 0, .int 0, .int 0, .int 0])), (q5, .inl (cI, 7, .inl (fun _ => 0)))]) [0, 2] (by decide) rfl
            have hKc := hK.sub (tys' := [(cI, .int)]) [0] rfl
            have hFc := va_free (wc := [(h0, .inr (4, [.ref q1, .ref q2, .ref q3, .ref q4, .ref q5, .int tk, .int 0, .int 3, .int 20, .int 0, .int 0, .int 0, .int 0])), (q5, .inl (cI, 7, .inl (fun _ => 0)))]) hD hS hA [0, 2] rfl
            refine va_calli (va_runV (As := [.int (-4)]) (rest := []) ⟨hx, hb, hml, hown, hts⟩ (k_X3_refuse4 l dC dI h0 q1 q2 q3 q4 q5 cI tk s.heap.size) (cwV 1 hts gX3_server_X3_refuse rfl rfl rfl (by decide +kernel) ⟨Nat.le_of_ble_eq_true rfl, Nat.le_of_ble_eq_true rfl⟩) ⟨pz_blind, va_recv hKc hPc (ci := 4) (q0 := 0) rfl rfl, fun U hU hW => ⟨rfl, pz_at hPc hKc hDc hU hW⟩⟩ rfl rfl hl.1 rfl (lv_room (Nat.le_of_ble_eq_true rfl)) dX3_server_39 ⟨Nat.le_of_ble_eq_true rfl, Nat.le_of_ble_eq_true rfl⟩) hS (fun q _ h => hFc q h) hFc (fun r_9 u t H locs ht hvm hw hB hz1 hk1 hS => ?_)
            obtain ⟨hP, hD⟩ := va_join (wr := [(q1, .inr (0, [.int 0, .ref z, .int 0]))]) (w1 := []) hP hD [0, 2] [1] rfl rfl (by decide) (by decide) hk1 hFc pz_nilP pz_nilD
            have hP : va_P (dC, dI) vwCl [(q1, .inr (0, [.int 0, .ref z, .int 0]))] H := hP
            have hD : va_D A [(q1, .inr (0, [.int 0, .ref z, .int 0]))] := hD
            have hw : r_9 = (-4) := hw
            subst hw
            refine W.widen (k := 2) (n := 27) (by omega) (by omega) ?_
            exact W.iret (v := (-4)) hx hb hr (fun t ht hW => ⟨⟨(-4), (), rfl, (by unfold ex_server; (repeat' split) <;> first | rfl | omega), trivial⟩, hS.F ht⟩) hS.2.2 dX3_server_42
          · skip
            have i_8 : 1 ≤ a4.toInt := by have h9 := pz_nlt c_8; exact h9
            refine lv_iload hx hb dX3_server_31 (lv_at hl 5 rfl) ?_
            refine lv_if_ge (tgt := 43) hx hb dX3_server_33 (by decide) (fun c_10 => ?_) (fun c_10 => ?_)
            · skip
              have i_10 : 0 ≤ a5.toInt := by have h9 := pz_ge c_10; exact h9
              refine lv_iload_n hx hb dX3_server_43 rfl (lv_at hl 1 rfl) ?_
              refine lv_bipush (v := 100) hx hb dX3_server_44 (by decide) ?_
              refine lv_icmp_gt (tgt := 70) hx hb dX3_server_46 (by decide) (fun c_11 => ?_) (fun c_11 => ?_)
              · skip
                have i_11 : 100 < a1.toInt := by have h9 := pz_gt c_11; exact h9
                refine lv_aload_n hx hb dX3_server_70 rfl (lv_at hl 0 rfl) ?_
                refine lv_bipush (v := (-6)) hx hb dX3_server_71 (by decide) ?_
                have hPc := hP.sub (ws' := [(h0, .inr (4, [.ref q1, .ref q2, .ref q3, .ref q4, .ref q5, .int tk, .int 0, .int 3, .int 20, .int 0, .int 0, .int 0, .int 0])), (q5, .inl (cI, 7, .inl (fun _ => 0)))]) [0, 2] rfl
                have hDc := hD.sub (ws' := [(h0, .inr (4, [.ref q1, .ref q2, .ref q3, .ref q4, .ref q5, .int tk, .int 0, .int 3, .int 20, .int 0, .int 0, .int 0, .int 0])), (q5, .inl (cI, 7, .inl (fun _ => 0)))]) [0, 2] (by decide) rfl
                have hKc := hK.sub (tys' := [(cI, .int)]) [0] rfl
                have hFc := va_free (wc := [(h0, .inr (4, [.ref q1, .ref q2, .ref q3, .ref q4, .ref q5, .int tk, .int 0, .int 3, .int 20, .int 0, .int 0, .int 0, .int 0])), (q5, .inl (cI, 7, .inl (fun _ => 0)))]) hD hS hA [0, 2] rfl
                refine va_calli (va_runV (As := [.int (-6)]) (rest := []) ⟨hx, hb, hml, hown, hts⟩ (k_X3_refuse6 l dC dI h0 q1 q2 q3 q4 q5 cI tk s.heap.size) (cwV 1 hts gX3_server_X3_refuse rfl rfl rfl (by decide +kernel) ⟨Nat.le_of_ble_eq_true rfl, Nat.le_of_ble_eq_true rfl⟩) ⟨pz_blind, va_recv hKc hPc (ci := 4) (q0 := 0) rfl rfl, fun U hU hW => ⟨rfl, pz_at hPc hKc hDc hU hW⟩⟩ rfl rfl hl.1 rfl (lv_room (Nat.le_of_ble_eq_true rfl)) dX3_server_73 ⟨Nat.le_of_ble_eq_true rfl, Nat.le_of_ble_eq_true rfl⟩) hS (fun q _ h => hFc q h) hFc (fun r_12 u t H locs ht hvm hw hB hz1 hk1 hS => ?_)
                obtain ⟨hP, hD⟩ := va_join (wr := [(q1, .inr (0, [.int 0, .ref z, .int 0]))]) (w1 := []) hP hD [0, 2] [1] rfl rfl (by decide) (by decide) hk1 hFc pz_nilP pz_nilD
                have hP : va_P (dC, dI) vwCl [(q1, .inr (0, [.int 0, .ref z, .int 0]))] H := hP
                have hD : va_D A [(q1, .inr (0, [.int 0, .ref z, .int 0]))] := hD
                have hw : r_12 = (-6) := hw
                subst hw
                refine W.widen (k := 2) (n := 27) (by omega) (by omega) ?_
                exact W.iret (v := (-6)) hx hb hr (fun t ht hW => ⟨⟨(-6), (), rfl, (by unfold ex_server; (repeat' split) <;> first | rfl | omega), trivial⟩, hS.F ht⟩) hS.2.2 dX3_server_76
              · skip
                have i_11 : a1.toInt ≤ 100 := by have h9 := pz_ngt c_11; exact h9
                refine lv_iload_n hx hb dX3_server_49 rfl (lv_at hl 3 rfl) ?_
                refine lv_bipush (v := 20) hx hb dX3_server_50 (by decide) ?_
                refine lv_icmp_gt (tgt := 70) hx hb dX3_server_52 (by decide) (fun c_13 => ?_) (fun c_13 => ?_)
                · skip
                  have i_13 : 20 < a3.toInt := by have h9 := pz_gt c_13; exact h9
                  refine lv_aload_n hx hb dX3_server_70 rfl (lv_at hl 0 rfl) ?_
                  refine lv_bipush (v := (-6)) hx hb dX3_server_71 (by decide) ?_
                  have hPc := hP.sub (ws' := [(h0, .inr (4, [.ref q1, .ref q2, .ref q3, .ref q4, .ref q5, .int tk, .int 0, .int 3, .int 20, .int 0, .int 0, .int 0, .int 0])), (q5, .inl (cI, 7, .inl (fun _ => 0)))]) [0, 2] rfl
                  have hDc := hD.sub (ws' := [(h0, .inr (4, [.ref q1, .ref q2, .ref q3, .ref q4, .ref q5, .int tk, .int 0, .int 3, .int 20, .int 0, .int 0, .int 0, .int 0])), (q5, .inl (cI, 7, .inl (fun _ => 0)))]) [0, 2] (by decide) rfl
                  have hKc := hK.sub (tys' := [(cI, .int)]) [0] rfl
                  have hFc := va_free (wc := [(h0, .inr (4, [.ref q1, .ref q2, .ref q3, .ref q4, .ref q5, .int tk, .int 0, .int 3, .int 20, .int 0, .int 0, .int 0, .int 0])), (q5, .inl (cI, 7, .inl (fun _ => 0)))]) hD hS hA [0, 2] rfl
                  refine va_calli (va_runV (As := [.int (-6)]) (rest := []) ⟨hx, hb, hml, hown, hts⟩ (k_X3_refuse6 l dC dI h0 q1 q2 q3 q4 q5 cI tk s.heap.size) (cwV 1 hts gX3_server_X3_refuse rfl rfl rfl (by decide +kernel) ⟨Nat.le_of_ble_eq_true rfl, Nat.le_of_ble_eq_true rfl⟩) ⟨pz_blind, va_recv hKc hPc (ci := 4) (q0 := 0) rfl rfl, fun U hU hW => ⟨rfl, pz_at hPc hKc hDc hU hW⟩⟩ rfl rfl hl.1 rfl (lv_room (Nat.le_of_ble_eq_true rfl)) dX3_server_73 ⟨Nat.le_of_ble_eq_true rfl, Nat.le_of_ble_eq_true rfl⟩) hS (fun q _ h => hFc q h) hFc (fun r_14 u t H locs ht hvm hw hB hz1 hk1 hS => ?_)
                  obtain ⟨hP, hD⟩ := va_join (wr := [(q1, .inr (0, [.int 0, .ref z, .int 0]))]) (w1 := []) hP hD [0, 2] [1] rfl rfl (by decide) (by decide) hk1 hFc pz_nilP pz_nilD
                  have hP : va_P (dC, dI) vwCl [(q1, .inr (0, [.int 0, .ref z, .int 0]))] H := hP
                  have hD : va_D A [(q1, .inr (0, [.int 0, .ref z, .int 0]))] := hD
                  have hw : r_14 = (-6) := hw
                  subst hw
                  refine W.widen (k := 2) (n := 27) (by omega) (by omega) ?_
                  exact W.iret (v := (-6)) hx hb hr (fun t ht hW => ⟨⟨(-6), (), rfl, (by unfold ex_server; (repeat' split) <;> first | rfl | omega), trivial⟩, hS.F ht⟩) hS.2.2 dX3_server_76
                · skip
                  have i_13 : a3.toInt ≤ 20 := by have h9 := pz_ngt c_13; exact h9
                  refine lv_iload hx hb dX3_server_55 (lv_at hl 4 rfl) ?_
                  refine lv_sipush (v := 200) hx hb dX3_server_57 (by decide) ?_
                  refine lv_icmp_gt (tgt := 70) hx hb dX3_server_60 (by decide) (fun c_15 => ?_) (fun c_15 => ?_)
                  · skip
                    have i_15 : 200 < a4.toInt := by have h9 := pz_gt c_15; exact h9
                    refine lv_aload_n hx hb dX3_server_70 rfl (lv_at hl 0 rfl) ?_
                    refine lv_bipush (v := (-6)) hx hb dX3_server_71 (by decide) ?_
                    have hPc := hP.sub (ws' := [(h0, .inr (4, [.ref q1, .ref q2, .ref q3, .ref q4, .ref q5, .int tk, .int 0, .int 3, .int 20, .int 0, .int 0, .int 0, .int 0])), (q5, .inl (cI, 7, .inl (fun _ => 0)))]) [0, 2] rfl
                    have hDc := hD.sub (ws' := [(h0, .inr (4, [.ref q1, .ref q2, .ref q3, .ref q4, .ref q5, .int tk, .int 0, .int 3, .int 20, .int 0, .int 0, .int 0, .int 0])), (q5, .inl (cI, 7, .inl (fun _ => 0)))]) [0, 2] (by decide) rfl
                    have hKc := hK.sub (tys' := [(cI, .int)]) [0] rfl
                    have hFc := va_free (wc := [(h0, .inr (4, [.ref q1, .ref q2, .ref q3, .ref q4, .ref q5, .int tk, .int 0, .int 3, .int 20, .int 0, .int 0, .int 0, .int 0])), (q5, .inl (cI, 7, .inl (fun _ => 0)))]) hD hS hA [0, 2] rfl
                    refine va_calli (va_runV (As := [.int (-6)]) (rest := []) ⟨hx, hb, hml, hown, hts⟩ (k_X3_refuse6 l dC dI h0 q1 q2 q3 q4 q5 cI tk s.heap.size) (cwV 1 hts gX3_server_X3_refuse rfl rfl rfl (by decide +kernel) ⟨Nat.le_of_ble_eq_true rfl, Nat.le_of_ble_eq_true rfl⟩) ⟨pz_blind, va_recv hKc hPc (ci := 4) (q0 := 0) rfl rfl, fun U hU hW => ⟨rfl, pz_at hPc hKc hDc hU hW⟩⟩ rfl rfl hl.1 rfl (lv_room (Nat.le_of_ble_eq_true rfl)) dX3_server_73 ⟨Nat.le_of_ble_eq_true rfl, Nat.le_of_ble_eq_true rfl⟩) hS (fun q _ h => hFc q h) hFc (fun r_16 u t H locs ht hvm hw hB hz1 hk1 hS => ?_)
                    obtain ⟨hP, hD⟩ := va_join (wr := [(q1, .inr (0, [.int 0, .ref z, .int 0]))]) (w1 := []) hP hD [0, 2] [1] rfl rfl (by decide) (by decide) hk1 hFc pz_nilP pz_nilD
                    have hP : va_P (dC, dI) vwCl [(q1, .inr (0, [.int 0, .ref z, .int 0]))] H := hP
                    have hD : va_D A [(q1, .inr (0, [.int 0, .ref z, .int 0]))] := hD
                    have hw : r_16 = (-6) := hw
                    subst hw
                    refine W.widen (k := 2) (n := 27) (by omega) (by omega) ?_
                    exact W.iret (v := (-6)) hx hb hr (fun t ht hW => ⟨⟨(-6), (), rfl, (by unfold ex_server; (repeat' split) <;> first | rfl | omega), trivial⟩, hS.F ht⟩) hS.2.2 dX3_server_76
                  · skip
                    have i_15 : a4.toInt ≤ 200 := by have h9 := pz_ngt c_15; exact h9
                    refine lv_iload hx hb dX3_server_63 (lv_at hl 5 rfl) ?_
                    refine lv_bipush (v := 20) hx hb dX3_server_65 (by decide) ?_
                    refine lv_icmp_le (tgt := 77) hx hb dX3_server_67 (by decide) (fun c_17 => ?_) (fun c_17 => ?_)
                    · skip
                      have i_17 : a5.toInt ≤ 20 := by have h9 := pz_le c_17; exact h9
                      refine lv_aload_n hx hb dX3_server_77 rfl (lv_at hl 0 rfl) ?_
                      refine va_get (D := (dC, dI)) (ci := 4) (v := .ref q1) (C := RX3) (T := TX3) (N := 13) hx hb hts (fun _ h => List.mem_cons_of_mem _ (List.mem_append_left _ (List.mem_append_left _ (List.mem_append_right _ h)))) hown hK hP 0 rfl rfl 0 (by decide) (hts (.fieldLink RX3 10 "FrontDoor" "servers" "Ljava/util/ArrayList;") (by decide +kernel)) (fun _ h9 => h9) rfl dX3_server_78 ?_
                      have hPc := hP.sub (ws' := [(q1, .inr (0, [.int 0, .ref z, .int 0]))]) [1] rfl
                      have hDc := hD.sub (ws' := [(q1, .inr (0, [.int 0, .ref z, .int 0]))]) [1] (by decide) rfl
                      have hKc := hK.sub (tys' := []) [] rfl
                      have hFc := pz_f hA hS
                      refine va_calli (va_runV (As := []) (rest := []) ⟨hx, hb, hml, hown, hts⟩ (k_Jx4a65c_size_8abf5 l dC dI q1 z s.heap.size) (cwV 0 hts gX3_server_Jx4a65c_size_8abf5 rfl rfl rfl (by decide +kernel) ⟨Nat.le_of_ble_eq_true rfl, Nat.le_of_ble_eq_true rfl⟩) ⟨pz_blind, va_recv hKc hPc (ci := 0) (q0 := 0) rfl rfl, fun U hU hW => ⟨rfl, pz_at hPc hKc hDc hU hW⟩⟩ rfl rfl hl.1 rfl (lv_room (Nat.le_of_ble_eq_true rfl)) dX3_server_81 ⟨Nat.le_of_ble_eq_true rfl, Nat.le_of_ble_eq_true rfl⟩) hS (fun q _ h => hFc q h) hFc (fun r_18 u t H locs ht hvm hw hB hz1 hk1 hS => ?_)
                      have hP := pz_keep hP hk1
                      have hw : r_18 = 0 := hw
                      subst hw
                      refine lv_bipush (v := 8) hx hb dX3_server_84 (by decide) ?_
                      refine lv_icmp_lt (tgt := 96) hx hb dX3_server_86 (by decide) (fun c_19 => ?_) (fun c_19 => absurd (by decide) c_19)
                      refine va_new (ci := 3) (fs := [.int 0, .int 0, .int 0, .int 0, .int 0, .int 0, .int 0, .int 0, .int 0, .int 0, .int 0, .int 0, .int 0, .int 0, .int 0, .int 0, .int 0]) (C := RX2) (T := TX2) (N := 17) hx hb hts (fun _ h => List.mem_cons_of_mem _ (List.mem_append_left _ (List.mem_append_right _ h))) tyX2 tyX2_ok hown (hts (.classLink RX3 47 RX2) (by decide +kernel)) (hts (.instantiable RX2 17) (by decide +kernel)) (hts (.initialized RX2) (by decide +kernel)) hK hP hD hS hA rfl (fun j hj => match j, hj with | 0, _ => rfl | 1, _ => rfl | 2, _ => rfl | 3, _ => rfl | 4, _ => rfl | 5, _ => rfl | 6, _ => rfl | 7, _ => rfl | 8, _ => rfl | 9, _ => rfl | 10, _ => rfl | 11, _ => rfl | 12, _ => rfl | 13, _ => rfl | 14, _ => rfl | 15, _ => rfl | 16, _ => rfl | z9 + 17, h9 => absurd h9 (by omega)) (Nat.le_of_ble_eq_true rfl) (Nat.le_of_ble_eq_true rfl) dX3_server_96 (fun q_20 H hP hD hS => ?_)
                      have hP : va_P (dC, dI) vwCl [(h0, .inr (4, [.ref q1, .ref q2, .ref q3, .ref q4, .ref q5, .int tk, .int 0, .int 3, .int 20, .int 0, .int 0, .int 0, .int 0])), (q1, .inr (0, [.int 0, .ref z, .int 0])), (q5, .inl (cI, 7, .inl (fun _ => 0))), (q_20, .inr (3, [.int 0, .int 0, .int 0, .int 0, .int 0, .int 0, .int 0, .int 0, .int 0, .int 0, .int 0, .int 0, .int 0, .int 0, .int 0, .int 0, .int 0]))] H := hP
                      have hD : va_D A [(h0, .inr (4, [.ref q1, .ref q2, .ref q3, .ref q4, .ref q5, .int tk, .int 0, .int 3, .int 20, .int 0, .int 0, .int 0, .int 0])), (q1, .inr (0, [.int 0, .ref z, .int 0])), (q5, .inl (cI, 7, .inl (fun _ => 0))), (q_20, .inr (3, [.int 0, .int 0, .int 0, .int 0, .int 0, .int 0, .int 0, .int 0, .int 0, .int 0, .int 0, .int 0, .int 0, .int 0, .int 0, .int 0, .int 0]))] := hD
                      refine W.widen (k := 1) (n := 17) (Nat.le_refl 1) (Nat.le_refl 17) ?_
                      refine lv_dup hx hb dX3_server_99 rfl ?_
                      refine lv_aload_n hx hb dX3_server_100 rfl (lv_at hl 0 rfl) ?_
                      refine va_get (D := (dC, dI)) (ci := 4) (v := .ref q1) (C := RX3) (T := TX3) (N := 13) hx hb hts (fun _ h => List.mem_cons_of_mem _ (List.mem_append_left _ (List.mem_append_left _ (List.mem_append_right _ h)))) hown hK hP 0 rfl rfl 0 (by decide) (hts (.fieldLink RX3 10 "FrontDoor" "servers" "Ljava/util/ArrayList;") (by decide +kernel)) (fun _ h9 => h9) rfl dX3_server_101 ?_
                      have hPc := hP.sub (ws' := [(q1, .inr (0, [.int 0, .ref z, .int 0]))]) [1] rfl
                      have hDc := hD.sub (ws' := [(q1, .inr (0, [.int 0, .ref z, .int 0]))]) [1] (by decide) rfl
                      have hKc := hK.sub (tys' := []) [] rfl
                      have hFc := pz_f hA hS
                      refine va_calli (va_runV (As := []) (rest := [.ref q_20, .ref q_20]) ⟨hx, hb, hml, hown, hts⟩ (k_Jx4a65c_size_8abf5 l dC dI q1 z H.size) (cwV 0 hts gX3_server_Jx4a65c_size_8abf5 rfl rfl rfl (by decide +kernel) ⟨Nat.le_of_ble_eq_true rfl, Nat.le_of_ble_eq_true rfl⟩) ⟨pz_blind, va_recv hKc hPc (ci := 0) (q0 := 0) rfl rfl, fun U hU hW => ⟨rfl, pz_at hPc hKc hDc hU hW⟩⟩ rfl rfl hl.1 rfl (lv_room (Nat.le_of_ble_eq_true rfl)) dX3_server_104 ⟨Nat.le_of_ble_eq_true rfl, Nat.le_of_ble_eq_true rfl⟩) hS (fun q _ h => hFc q h) hFc (fun r_21 u t H locs ht hvm hw hB hz1 hk1 hS => ?_)
                      have hP := pz_keep hP hk1
                      have hw : r_21 = 0 := hw
                      subst hw
                      refine lv_iload_n hx hb dX3_server_107 rfl (lv_at hl 1 rfl) ?_
                      refine lv_iload_n hx hb dX3_server_108 rfl (lv_at hl 2 rfl) ?_
                      refine lv_iload_n hx hb dX3_server_109 rfl (lv_at hl 3 rfl) ?_
                      refine lv_iload hx hb dX3_server_110 (lv_at hl 4 rfl) ?_
                      refine lv_iload hx hb dX3_server_112 (lv_at hl 5 rfl) ?_
                      have hPc := hP.sub (ws' := [(q_20, .inr (3, [.int 0, .int 0, .int 0, .int 0, .int 0, .int 0, .int 0, .int 0, .int 0, .int 0, .int 0, .int 0, .int 0, .int 0, .int 0, .int 0, .int 0]))]) [3] rfl
                      have hDc := hD.sub (ws' := [(q_20, .inr (3, [.int 0, .int 0, .int 0, .int 0, .int 0, .int 0, .int 0, .int 0, .int 0, .int 0, .int 0, .int 0, .int 0, .int 0, .int 0, .int 0, .int 0]))]) [3] (by decide) rfl
                      have hKc := hK.sub (tys' := []) [] rfl
                      have hFc := va_free (wc := [(q_20, .inr (3, [.int 0, .int 0, .int 0, .int 0, .int 0, .int 0, .int 0, .int 0, .int 0, .int 0, .int 0, .int 0, .int 0, .int 0, .int 0, .int 0, .int 0]))]) hD hS hA [3] rfl
                      refine va_callv (va_runI (As := [.int 0, .int a1, .int a2, .int a3, .int a4, .int a5]) (rest := [.ref q_20]) ⟨hx, hb, hml, hown, hts⟩ (k_X2_init l dC dI q_20 0 a1 a2 a3 a4 a5 H.size) (cwI 6 hts gX3_server_X2_init rfl rfl rfl (hts (.initialized RX2) (by decide +kernel)) (hts (.methodLink RX3 49 yX2_init) (by decide +kernel)) (hts (.instanceMethod yX2_init) (by decide +kernel)) rfl (by decide +kernel) ⟨Nat.le_of_ble_eq_true rfl, Nat.le_of_ble_eq_true rfl⟩) ⟨pz_blind, fun U hU hW => ⟨rfl, pz_at hPc hKc hDc hU hW⟩⟩ rfl rfl hl.1 rfl (lv_room (Nat.le_of_ble_eq_true rfl)) dX3_server_114 ⟨Nat.le_of_ble_eq_true rfl, Nat.le_of_ble_eq_true rfl⟩) hS (fun q _ h => hFc q h) hFc (fun u t H locs ht hvm hw hB hz1 hk1 hS => ?_)
                      obtain ⟨hP1, hK1, hD1⟩ := hB
                      rw [ht] at hP1
                      have hK1 := va_K.moved hvm.symm hK1
                      obtain ⟨hP, hD⟩ := va_join (wr := [(h0, .inr (4, [.ref q1, .ref q2, .ref q3, .ref q4, .ref q5, .int tk, .int 0, .int 3, .int 20, .int 0, .int 0, .int 0, .int 0])), (q1, .inr (0, [.int 0, .ref z, .int 0])), (q5, .inl (cI, 7, .inl (fun _ => 0)))]) (w1 := [(q_20, .inr (3, [.int 0, .int a2, .int a1, .int a3, .int a4, .int a5, .int 0, .int 0, .int 0, .int 0, .int 0, .int 0, .int 0, .int 0, .int 10, .int 0, .int 0]))]) hP hD [3] [0, 1, 2] rfl rfl (by decide) (by decide) hk1 hFc hP1 hD1
                      have hK := hK.app hK1
                      have hK : va_K (dC, dI) vwCl [(cI, .int)] s := hK
                      have hP : va_P (dC, dI) vwCl [(h0, .inr (4, [.ref q1, .ref q2, .ref q3, .ref q4, .ref q5, .int tk, .int 0, .int 3, .int 20, .int 0, .int 0, .int 0, .int 0])), (q1, .inr (0, [.int 0, .ref z, .int 0])), (q5, .inl (cI, 7, .inl (fun _ => 0))), (q_20, .inr (3, [.int 0, .int a2, .int a1, .int a3, .int a4, .int a5, .int 0, .int 0, .int 0, .int 0, .int 0, .int 0, .int 0, .int 0, .int 10, .int 0, .int 0]))] H := hP
                      have hD : va_D A [(h0, .inr (4, [.ref q1, .ref q2, .ref q3, .ref q4, .ref q5, .int tk, .int 0, .int 3, .int 20, .int 0, .int 0, .int 0, .int 0])), (q1, .inr (0, [.int 0, .ref z, .int 0])), (q5, .inl (cI, 7, .inl (fun _ => 0))), (q_20, .inr (3, [.int 0, .int a2, .int a1, .int a3, .int a4, .int a5, .int 0, .int 0, .int 0, .int 0, .int 0, .int 0, .int 0, .int 0, .int 10, .int 0, .int 0]))] := hD
                      refine W.eq (g2 := F0 m 117 ls [.ref q_20]) rfl ?_
                      refine lv_astore (lv' := [(6, .ref q_20), (0, .ref h0), (1, .int a1), (2, .int a2), (3, .int a3), (4, .int a4), (5, .int a5)]) hx hb dX3_server_117 hl (by decide) rfl (fun ls hl => ?_)
                      refine lv_aload_n hx hb dX3_server_119 rfl (lv_at hl 1 rfl) ?_
                      refine va_get (D := (dC, dI)) (ci := 4) (v := .ref q1) (C := RX3) (T := TX3) (N := 13) hx hb hts (fun _ h => List.mem_cons_of_mem _ (List.mem_append_left _ (List.mem_append_left _ (List.mem_append_right _ h)))) hown hK hP 0 rfl rfl 0 (by decide) (hts (.fieldLink RX3 10 "FrontDoor" "servers" "Ljava/util/ArrayList;") (by decide +kernel)) (fun _ h9 => h9) rfl dX3_server_120 ?_
                      refine lv_aload hx hb dX3_server_123 (lv_at hl 0 rfl) ?_
                      have hPc := hP.sub (ws' := [(q1, .inr (0, [.int 0, .ref z, .int 0]))]) [1] rfl
                      have hDc := hD.sub (ws' := [(q1, .inr (0, [.int 0, .ref z, .int 0]))]) [1] (by decide) rfl
                      have hKc := hK.sub (tys' := []) [] rfl
                      have hFc := va_free (wc := [(q1, .inr (0, [.int 0, .ref z, .int 0]))]) hD hS hA [1] rfl
                      refine va_calli (va_runV (As := [.ref q_20]) (rest := []) ⟨hx, hb, hml, hown, hts⟩ (k_Jx4a65c_add_9ea2d l dC dI q1 z q_20 H.size) (cwV 1 hts gX3_server_Jx4a65c_add_9ea2d rfl rfl rfl (by decide +kernel) ⟨Nat.le_of_ble_eq_true rfl, Nat.le_of_ble_eq_true rfl⟩) ⟨pz_blindE, va_recv hKc hPc (ci := 0) (q0 := 0) rfl rfl, fun U hU hW => ⟨rfl, ⟨pz_at hPc hKc hDc hU hW, pz_Zat hZ hS hFc hU hW, pz_Enew (pz_rAny hK hP (q0 := 3) (ci := 3) rfl rfl (hZ.2.2.2.1)) (pz_notA hP hD 3 [1] rfl rfl (by decide)) hU hW⟩⟩⟩ rfl rfl hl.1 rfl (lv_room (Nat.le_of_ble_eq_true rfl)) dX3_server_125 ⟨Nat.le_of_ble_eq_true rfl, Nat.le_of_ble_eq_true rfl⟩) hS (fun q _ h => hFc q h) hFc (fun r_23 u t H locs ht hvm hw hB hz1 hk1 hS => ?_)
                      obtain ⟨hP, hD⟩ := va_join (wr := [(h0, .inr (4, [.ref q1, .ref q2, .ref q3, .ref q4, .ref q5, .int tk, .int 0, .int 3, .int 20, .int 0, .int 0, .int 0, .int 0])), (q5, .inl (cI, 7, .inl (fun _ => 0))), (q_20, .inr (3, [.int 0, .int a2, .int a1, .int a3, .int a4, .int a5, .int 0, .int 0, .int 0, .int 0, .int 0, .int 0, .int 0, .int 0, .int 10, .int 0, .int 0]))]) (w1 := []) hP hD [1] [0, 2, 3] rfl rfl (by decide) (by decide) hk1 hFc pz_nilP pz_nilD
                      have hP : va_P (dC, dI) vwCl [(h0, .inr (4, [.ref q1, .ref q2, .ref q3, .ref q4, .ref q5, .int tk, .int 0, .int 3, .int 20, .int 0, .int 0, .int 0, .int 0])), (q5, .inl (cI, 7, .inl (fun _ => 0))), (q_20, .inr (3, [.int 0, .int a2, .int a1, .int a3, .int a4, .int a5, .int 0, .int 0, .int 0, .int 0, .int 0, .int 0, .int 0, .int 0, .int 10, .int 0, .int 0]))] H := hP
                      have hD : va_D A [(h0, .inr (4, [.ref q1, .ref q2, .ref q3, .ref q4, .ref q5, .int tk, .int 0, .int 3, .int 20, .int 0, .int 0, .int 0, .int 0])), (q5, .inl (cI, 7, .inl (fun _ => 0))), (q_20, .inr (3, [.int 0, .int a2, .int a1, .int a3, .int a4, .int a5, .int 0, .int 0, .int 0, .int 0, .int 0, .int 0, .int 0, .int 0, .int 10, .int 0, .int 0]))] := hD
                      refine W.widen (k := 2) (n := 27) (Nat.le_refl 2) (Nat.le_refl 27) ?_
                      refine lv_pop hx hb dX3_server_128 rfl ?_
                      refine lv_aload hx hb dX3_server_129 (lv_at hl 0 rfl) ?_
                      refine va_get (D := (dC, dI)) (ci := 3) (v := .int 0) (C := RX2) (T := TX2) (N := 17) hx hb hts (fun _ h => List.mem_cons_of_mem _ (List.mem_append_left _ (List.mem_append_right _ h))) hown hK hP 2 rfl rfl 0 (by decide) (hts (.fieldLink RX3 56 "FrontDoor$Server" "number" "I") (by decide +kernel)) (fun _ h9 => h9) rfl dX3_server_131 ?_
                      exact W.iret (v := 0) hx hb hr (fun t ht hW => ⟨⟨0, (), rfl, (by unfold ex_server; (repeat' split) <;> first | rfl | omega), trivial⟩, hS.F ht⟩) hS.2.2 dX3_server_134
                    · skip
                      have i_17 : 20 < a5.toInt := by have h9 := pz_nle c_17; exact h9
                      refine lv_aload_n hx hb dX3_server_70 rfl (lv_at hl 0 rfl) ?_
                      refine lv_bipush (v := (-6)) hx hb dX3_server_71 (by decide) ?_
                      have hPc := hP.sub (ws' := [(h0, .inr (4, [.ref q1, .ref q2, .ref q3, .ref q4, .ref q5, .int tk, .int 0, .int 3, .int 20, .int 0, .int 0, .int 0, .int 0])), (q5, .inl (cI, 7, .inl (fun _ => 0)))]) [0, 2] rfl
                      have hDc := hD.sub (ws' := [(h0, .inr (4, [.ref q1, .ref q2, .ref q3, .ref q4, .ref q5, .int tk, .int 0, .int 3, .int 20, .int 0, .int 0, .int 0, .int 0])), (q5, .inl (cI, 7, .inl (fun _ => 0)))]) [0, 2] (by decide) rfl
                      have hKc := hK.sub (tys' := [(cI, .int)]) [0] rfl
                      have hFc := va_free (wc := [(h0, .inr (4, [.ref q1, .ref q2, .ref q3, .ref q4, .ref q5, .int tk, .int 0, .int 3, .int 20, .int 0, .int 0, .int 0, .int 0])), (q5, .inl (cI, 7, .inl (fun _ => 0)))]) hD hS hA [0, 2] rfl
                      refine va_calli (va_runV (As := [.int (-6)]) (rest := []) ⟨hx, hb, hml, hown, hts⟩ (k_X3_refuse6 l dC dI h0 q1 q2 q3 q4 q5 cI tk s.heap.size) (cwV 1 hts gX3_server_X3_refuse rfl rfl rfl (by decide +kernel) ⟨Nat.le_of_ble_eq_true rfl, Nat.le_of_ble_eq_true rfl⟩) ⟨pz_blind, va_recv hKc hPc (ci := 4) (q0 := 0) rfl rfl, fun U hU hW => ⟨rfl, pz_at hPc hKc hDc hU hW⟩⟩ rfl rfl hl.1 rfl (lv_room (Nat.le_of_ble_eq_true rfl)) dX3_server_73 ⟨Nat.le_of_ble_eq_true rfl, Nat.le_of_ble_eq_true rfl⟩) hS (fun q _ h => hFc q h) hFc (fun r_24 u t H locs ht hvm hw hB hz1 hk1 hS => ?_)
                      obtain ⟨hP, hD⟩ := va_join (wr := [(q1, .inr (0, [.int 0, .ref z, .int 0]))]) (w1 := []) hP hD [0, 2] [1] rfl rfl (by decide) (by decide) hk1 hFc pz_nilP pz_nilD
                      have hP : va_P (dC, dI) vwCl [(q1, .inr (0, [.int 0, .ref z, .int 0]))] H := hP
                      have hD : va_D A [(q1, .inr (0, [.int 0, .ref z, .int 0]))] := hD
                      have hw : r_24 = (-6) := hw
                      subst hw
                      refine W.widen (k := 2) (n := 27) (by omega) (by omega) ?_
                      exact W.iret (v := (-6)) hx hb hr (fun t ht hW => ⟨⟨(-6), (), rfl, (by unfold ex_server; (repeat' split) <;> first | rfl | omega), trivial⟩, hS.F ht⟩) hS.2.2 dX3_server_76
            · skip
              have i_10 : a5.toInt < 0 := by have h9 := pz_nge c_10; exact h9
              refine lv_aload_n hx hb dX3_server_36 rfl (lv_at hl 0 rfl) ?_
              refine lv_bipush (v := (-4)) hx hb dX3_server_37 (by decide) ?_
              have hPc := hP.sub (ws' := [(h0, .inr (4, [.ref q1, .ref q2, .ref q3, .ref q4, .ref q5, .int tk, .int 0, .int 3, .int 20, .int 0, .int 0, .int 0, .int 0])), (q5, .inl (cI, 7, .inl (fun _ => 0)))]) [0, 2] rfl
              have hDc := hD.sub (ws' := [(h0, .inr (4, [.ref q1, .ref q2, .ref q3, .ref q4, .ref q5, .int tk, .int 0, .int 3, .int 20, .int 0, .int 0, .int 0, .int 0])), (q5, .inl (cI, 7, .inl (fun _ => 0)))]) [0, 2] (by decide) rfl
              have hKc := hK.sub (tys' := [(cI, .int)]) [0] rfl
              have hFc := va_free (wc := [(h0, .inr (4, [.ref q1, .ref q2, .ref q3, .ref q4, .ref q5, .int tk, .int 0, .int 3, .int 20, .int 0, .int 0, .int 0, .int 0])), (q5, .inl (cI, 7, .inl (fun _ => 0)))]) hD hS hA [0, 2] rfl
              refine va_calli (va_runV (As := [.int (-4)]) (rest := []) ⟨hx, hb, hml, hown, hts⟩ (k_X3_refuse4 l dC dI h0 q1 q2 q3 q4 q5 cI tk s.heap.size) (cwV 1 hts gX3_server_X3_refuse rfl rfl rfl (by decide +kernel) ⟨Nat.le_of_ble_eq_true rfl, Nat.le_of_ble_eq_true rfl⟩) ⟨pz_blind, va_recv hKc hPc (ci := 4) (q0 := 0) rfl rfl, fun U hU hW => ⟨rfl, pz_at hPc hKc hDc hU hW⟩⟩ rfl rfl hl.1 rfl (lv_room (Nat.le_of_ble_eq_true rfl)) dX3_server_39 ⟨Nat.le_of_ble_eq_true rfl, Nat.le_of_ble_eq_true rfl⟩) hS (fun q _ h => hFc q h) hFc (fun r_25 u t H locs ht hvm hw hB hz1 hk1 hS => ?_)
              obtain ⟨hP, hD⟩ := va_join (wr := [(q1, .inr (0, [.int 0, .ref z, .int 0]))]) (w1 := []) hP hD [0, 2] [1] rfl rfl (by decide) (by decide) hk1 hFc pz_nilP pz_nilD
              have hP : va_P (dC, dI) vwCl [(q1, .inr (0, [.int 0, .ref z, .int 0]))] H := hP
              have hD : va_D A [(q1, .inr (0, [.int 0, .ref z, .int 0]))] := hD
              have hw : r_25 = (-4) := hw
              subst hw
              refine W.widen (k := 2) (n := 27) (by omega) (by omega) ?_
              exact W.iret (v := (-4)) hx hb hr (fun t ht hW => ⟨⟨(-4), (), rfl, (by unfold ex_server; (repeat' split) <;> first | rfl | omega), trivial⟩, hS.F ht⟩) hS.2.2 dX3_server_42
    · skip
      have i_3 : 4 ≤ a2.toInt := by have h9 := pz_nlt c_3; exact h9
      refine lv_aload_n hx hb dX3_server_9 rfl (lv_at hl 0 rfl) ?_
      refine lv_iconst (v := (-1)) hx hb dX3_server_10 (by decide) ?_
      have hPc := hP.sub (ws' := [(h0, .inr (4, [.ref q1, .ref q2, .ref q3, .ref q4, .ref q5, .int tk, .int 0, .int 3, .int 20, .int 0, .int 0, .int 0, .int 0])), (q5, .inl (cI, 7, .inl (fun _ => 0)))]) [0, 2] rfl
      have hDc := hD.sub (ws' := [(h0, .inr (4, [.ref q1, .ref q2, .ref q3, .ref q4, .ref q5, .int tk, .int 0, .int 3, .int 20, .int 0, .int 0, .int 0, .int 0])), (q5, .inl (cI, 7, .inl (fun _ => 0)))]) [0, 2] (by decide) rfl
      have hKc := hK.sub (tys' := [(cI, .int)]) [0] rfl
      have hFc := va_free (wc := [(h0, .inr (4, [.ref q1, .ref q2, .ref q3, .ref q4, .ref q5, .int tk, .int 0, .int 3, .int 20, .int 0, .int 0, .int 0, .int 0])), (q5, .inl (cI, 7, .inl (fun _ => 0)))]) hD hS hA [0, 2] rfl
      refine va_calli (va_runV (As := [.int (-1)]) (rest := []) ⟨hx, hb, hml, hown, hts⟩ (k_X3_refuse1 l dC dI h0 q1 q2 q3 q4 q5 cI tk s.heap.size) (cwV 1 hts gX3_server_X3_refuse rfl rfl rfl (by decide +kernel) ⟨Nat.le_of_ble_eq_true rfl, Nat.le_of_ble_eq_true rfl⟩) ⟨pz_blind, va_recv hKc hPc (ci := 4) (q0 := 0) rfl rfl, fun U hU hW => ⟨rfl, pz_at hPc hKc hDc hU hW⟩⟩ rfl rfl hl.1 rfl (lv_room (Nat.le_of_ble_eq_true rfl)) dX3_server_11 ⟨Nat.le_of_ble_eq_true rfl, Nat.le_of_ble_eq_true rfl⟩) hS (fun q _ h => hFc q h) hFc (fun r_26 u t H locs ht hvm hw hB hz1 hk1 hS => ?_)
      obtain ⟨hP, hD⟩ := va_join (wr := [(q1, .inr (0, [.int 0, .ref z, .int 0]))]) (w1 := []) hP hD [0, 2] [1] rfl rfl (by decide) (by decide) hk1 hFc pz_nilP pz_nilD
      have hP : va_P (dC, dI) vwCl [(q1, .inr (0, [.int 0, .ref z, .int 0]))] H := hP
      have hD : va_D A [(q1, .inr (0, [.int 0, .ref z, .int 0]))] := hD
      have hw : r_26 = (-1) := hw
      subst hw
      refine W.widen (k := 2) (n := 27) (by omega) (by omega) ?_
      exact W.iret (v := (-1)) hx hb hr (fun t ht hW => ⟨⟨(-1), (), rfl, (by unfold ex_server; (repeat' split) <;> first | rfl | omega), trivial⟩, hS.F ht⟩) hS.2.2 dX3_server_14

set_option maxHeartbeats 40000000 in
set_option maxRecDepth 100000 in
theorem k_X3_call (l : Launch) (dC : Nat → ClassId) (dI : Nat → Nat → Nat) (h0 : Nat) (q1 : Nat) (q2 : Nat) (q3 : Nat) (q4 : Nat) (q5 : Nat) (z : Nat) (cI : ClassId) (tk : Int32) (a1 : Int32) (a2 : Int32) (a3 : Int32) (sf : Int32) (sz : Nat) (hsf : sf = 0 ∨ sf = 1) : Met l yX3_call wsX3_call ({ frames := 5, cells := 4, slots := 42, locals := 106 }) (va_Pc [.ref h0, .int a1, .int a2, .int a3, .int sf] (pzPreZ (dC, dI) vwCl [(h0, .inr (4, [.ref q1, .ref q2, .ref q3, .ref q4, .ref q5, .int tk, .int 0, .int 3, .int 20, .int 0, .int 0, .int 0, .int 0])), (q1, .inr (0, [.int 0, .ref z, .int 0])), (q2, .inr (0, [.int 0, .ref z, .int 0])), (q3, .inr (0, [.int 0, .ref z, .int 0])), (q4, .inr (0, [.int 0, .ref z, .int 0])), (q5, .inl (cI, 7, .inl (fun _ => 0)))] [(cI, .int)] sz z)) (va_Qi (fun (r : Int32) (_ : Unit) => r = ex_call a1 a2 a3) (fun _ _ => True) (va_A [(h0, .inr (4, [.ref q1, .ref q2, .ref q3, .ref q4, .ref q5, .int tk, .int 0, .int 3, .int 20, .int 0, .int 0, .int 0, .int 0])), (q1, .inr (0, [.int 0, .ref z, .int 0])), (q2, .inr (0, [.int 0, .ref z, .int 0])), (q3, .inr (0, [.int 0, .ref z, .int 0])), (q4, .inr (0, [.int 0, .ref z, .int 0])), (q5, .inl (cI, 7, .inl (fun _ => 0)))] sz)) 4 42 (va_A [(h0, .inr (4, [.ref q1, .ref q2, .ref q3, .ref q4, .ref q5, .int tk, .int 0, .int 3, .int 20, .int 0, .int 0, .int 0, .int 0])), (q1, .inr (0, [.int 0, .ref z, .int 0])), (q2, .inr (0, [.int 0, .ref z, .int 0])), (q3, .inr (0, [.int 0, .ref z, .int 0])), (q4, .inr (0, [.int 0, .ref z, .int 0])), (q5, .inl (cI, 7, .inl (fun _ => 0)))] sz) := by
  refine Met.ofW (cc := cX3_call) (maxL := 6) (ret := (some .int)) (by decide) rfl ?_
  intro p e s m args below meth c s₁ B hml hv
  obtain ⟨rfl, ⟨hsz, hP, hK, hD0⟩, hZ⟩ := hv
  have hx := B.exec
  have hb := B.bytes
  have hr := B.returns
  have hts := atoms_spec (ws := wsX3_call) B.pre
  have hown : s.vm.findClass RX3 = some m.cls := findClass_of_methodNamed B.named
  have hlocks := B.notSynchronized
  subst hsz
  have hD := hD0.self (sz := s.heap.size)
  generalize hAe : va_A [(h0, .inr (4, [.ref q1, .ref q2, .ref q3, .ref q4, .ref q5, .int tk, .int 0, .int 3, .int 20, .int 0, .int 0, .int 0, .int 0])), (q1, .inr (0, [.int 0, .ref z, .int 0])), (q2, .inr (0, [.int 0, .ref z, .int 0])), (q3, .inr (0, [.int 0, .ref z, .int 0])), (q4, .inr (0, [.int 0, .ref z, .int 0])), (q5, .inl (cI, 7, .inl (fun _ => 0)))] s.heap.size = A at hD hZ ⊢
  have hA : ∀ q : Nat, s.heap.size ≤ q → A q := fun q h => by rw [← hAe]; exact Or.inr h
  have hS : va_S A s.heap s.heap [] := va_S.rf
  have hP : va_P (dC, dI) vwCl [(h0, .inr (4, [.ref q1, .ref q2, .ref q3, .ref q4, .ref q5, .int tk, .int 0, .int 3, .int 20, .int 0, .int 0, .int 0, .int 0])), (q1, .inr (0, [.int 0, .ref z, .int 0])), (q2, .inr (0, [.int 0, .ref z, .int 0])), (q3, .inr (0, [.int 0, .ref z, .int 0])), (q4, .inr (0, [.int 0, .ref z, .int 0])), (q5, .inl (cI, 7, .inl (fun _ => 0)))] s.heap := hP
  have hnar : narrow .boolean (.int sf) = .int sf := by rcases hsf with h | h <;> rw [h] <;> rfl
  have hfit : fits .boolean (.int sf) = true := by rcases hsf with h | h <;> rw [h] <;> rfl
  have hl := lv_entry ([.ref h0, .int a1, .int a2, .int a3, .int sf]) (n := 6) (Nat.le_of_ble_eq_true rfl)
  rw [lg_entry_eq]
  generalize (lg_sl ([.ref h0, .int a1, .int a2, .int a3, .int sf]) ++ List.replicate (6 - (lg_sl ([.ref h0, .int a1, .int a2, .int a3, .int sf])).length) Slot.unset).toArray = ls at hl ⊢
  have hl : lv_has ls 6 [(0, .ref h0), (1, .int a1), (2, .int a2), (3, .int a3), (4, .int sf)] := hl
  refine lv_iload_n hx hb dX3_call_0 rfl (lv_at hl 1 rfl) ?_
  refine lv_if_lt (tgt := 13) hx hb dX3_call_1 (by decide) (fun c_1 => ?_) (fun c_1 => ?_)
  · skip
    have i_1 : a1.toInt < 0 := by have h9 := pz_lt c_1; exact h9
    refine lv_aload_n hx hb dX3_call_13 rfl (lv_at hl 0 rfl) ?_
    refine lv_bipush (v := (-4)) hx hb dX3_call_14 (by decide) ?_
    have hPc := hP.sub (ws' := [(h0, .inr (4, [.ref q1, .ref q2, .ref q3, .ref q4, .ref q5, .int tk, .int 0, .int 3, .int 20, .int 0, .int 0, .int 0, .int 0])), (q5, .inl (cI, 7, .inl (fun _ => 0)))]) [0, 5] rfl
    have hDc := hD.sub (ws' := [(h0, .inr (4, [.ref q1, .ref q2, .ref q3, .ref q4, .ref q5, .int tk, .int 0, .int 3, .int 20, .int 0, .int 0, .int 0, .int 0])), (q5, .inl (cI, 7, .inl (fun _ => 0)))]) [0, 5] (by decide) rfl
    have hKc := hK.sub (tys' := [(cI, .int)]) [0] rfl
    have hFc := va_free (wc := [(h0, .inr (4, [.ref q1, .ref q2, .ref q3, .ref q4, .ref q5, .int tk, .int 0, .int 3, .int 20, .int 0, .int 0, .int 0, .int 0])), (q5, .inl (cI, 7, .inl (fun _ => 0)))]) hD hS hA [0, 5] rfl
    refine va_calli (va_runV (As := [.int (-4)]) (rest := []) ⟨hx, hb, hml, hown, hts⟩ (k_X3_refuse4 l dC dI h0 q1 q2 q3 q4 q5 cI tk s.heap.size) (cwV 1 hts gX3_call_X3_refuse rfl rfl rfl (by decide +kernel) ⟨Nat.le_of_ble_eq_true rfl, Nat.le_of_ble_eq_true rfl⟩) ⟨pz_blind, va_recv hKc hPc (ci := 4) (q0 := 0) rfl rfl, fun U hU hW => ⟨rfl, pz_at hPc hKc hDc hU hW⟩⟩ rfl rfl hl.1 rfl (lv_room (Nat.le_of_ble_eq_true rfl)) dX3_call_16 ⟨Nat.le_of_ble_eq_true rfl, Nat.le_of_ble_eq_true rfl⟩) hS (fun q _ h => hFc q h) hFc (fun r_2 u t H locs ht hvm hw hB hz1 hk1 hS => ?_)
    obtain ⟨hP, hD⟩ := va_join (wr := [(q1, .inr (0, [.int 0, .ref z, .int 0])), (q2, .inr (0, [.int 0, .ref z, .int 0])), (q3, .inr (0, [.int 0, .ref z, .int 0])), (q4, .inr (0, [.int 0, .ref z, .int 0]))]) (w1 := []) hP hD [0, 5] [1, 2, 3, 4] rfl rfl (by decide) (by decide) hk1 hFc pz_nilP pz_nilD
    have hP : va_P (dC, dI) vwCl [(q1, .inr (0, [.int 0, .ref z, .int 0])), (q2, .inr (0, [.int 0, .ref z, .int 0])), (q3, .inr (0, [.int 0, .ref z, .int 0])), (q4, .inr (0, [.int 0, .ref z, .int 0]))] H := hP
    have hD : va_D A [(q1, .inr (0, [.int 0, .ref z, .int 0])), (q2, .inr (0, [.int 0, .ref z, .int 0])), (q3, .inr (0, [.int 0, .ref z, .int 0])), (q4, .inr (0, [.int 0, .ref z, .int 0]))] := hD
    have hw : r_2 = (-4) := hw
    subst hw
    refine W.widen (k := 4) (n := 42) (by omega) (by omega) ?_
    exact W.iret (v := (-4)) hx hb hr (fun t ht hW => ⟨⟨(-4), (), rfl, (by unfold ex_call; (repeat' split) <;> first | rfl | omega), trivial⟩, hS.F ht⟩) hS.2.2 dX3_call_19
  · skip
    have i_1 : 0 ≤ a1.toInt := by have h9 := pz_nlt c_1; exact h9
    refine lv_iload_n hx hb dX3_call_4 rfl (lv_at hl 2 rfl) ?_
    refine lv_if_lt (tgt := 13) hx hb dX3_call_5 (by decide) (fun c_3 => ?_) (fun c_3 => ?_)
    · skip
      have i_3 : a2.toInt < 0 := by have h9 := pz_lt c_3; exact h9
      refine lv_aload_n hx hb dX3_call_13 rfl (lv_at hl 0 rfl) ?_
      refine lv_bipush (v := (-4)) hx hb dX3_call_14 (by decide) ?_
      have hPc := hP.sub (ws' := [(h0, .inr (4, [.ref q1, .ref q2, .ref q3, .ref q4, .ref q5, .int tk, .int 0, .int 3, .int 20, .int 0, .int 0, .int 0, .int 0])), (q5, .inl (cI, 7, .inl (fun _ => 0)))]) [0, 5] rfl
      have hDc := hD.sub (ws' := [(h0, .inr (4, [.ref q1, .ref q2, .ref q3, .ref q4, .ref q5, .int tk, .int 0, .int 3, .int 20, .int 0, .int 0, .int 0, .int 0])), (q5, .inl (cI, 7, .inl (fun _ => 0)))]) [0, 5] (by decide) rfl
      have hKc := hK.sub (tys' := [(cI, .int)]) [0] rfl
      have hFc := va_free (wc := [(h0, .inr (4, [.ref q1, .ref q2, .ref q3, .ref q4, .ref q5, .int tk, .int 0, .int 3, .int 20, .int 0, .int 0, .int 0, .int 0])), (q5, .inl (cI, 7, .inl (fun _ => 0)))]) hD hS hA [0, 5] rfl
      refine va_calli (va_runV (As := [.int (-4)]) (rest := []) ⟨hx, hb, hml, hown, hts⟩ (k_X3_refuse4 l dC dI h0 q1 q2 q3 q4 q5 cI tk s.heap.size) (cwV 1 hts gX3_call_X3_refuse rfl rfl rfl (by decide +kernel) ⟨Nat.le_of_ble_eq_true rfl, Nat.le_of_ble_eq_true rfl⟩) ⟨pz_blind, va_recv hKc hPc (ci := 4) (q0 := 0) rfl rfl, fun U hU hW => ⟨rfl, pz_at hPc hKc hDc hU hW⟩⟩ rfl rfl hl.1 rfl (lv_room (Nat.le_of_ble_eq_true rfl)) dX3_call_16 ⟨Nat.le_of_ble_eq_true rfl, Nat.le_of_ble_eq_true rfl⟩) hS (fun q _ h => hFc q h) hFc (fun r_4 u t H locs ht hvm hw hB hz1 hk1 hS => ?_)
      obtain ⟨hP, hD⟩ := va_join (wr := [(q1, .inr (0, [.int 0, .ref z, .int 0])), (q2, .inr (0, [.int 0, .ref z, .int 0])), (q3, .inr (0, [.int 0, .ref z, .int 0])), (q4, .inr (0, [.int 0, .ref z, .int 0]))]) (w1 := []) hP hD [0, 5] [1, 2, 3, 4] rfl rfl (by decide) (by decide) hk1 hFc pz_nilP pz_nilD
      have hP : va_P (dC, dI) vwCl [(q1, .inr (0, [.int 0, .ref z, .int 0])), (q2, .inr (0, [.int 0, .ref z, .int 0])), (q3, .inr (0, [.int 0, .ref z, .int 0])), (q4, .inr (0, [.int 0, .ref z, .int 0]))] H := hP
      have hD : va_D A [(q1, .inr (0, [.int 0, .ref z, .int 0])), (q2, .inr (0, [.int 0, .ref z, .int 0])), (q3, .inr (0, [.int 0, .ref z, .int 0])), (q4, .inr (0, [.int 0, .ref z, .int 0]))] := hD
      have hw : r_4 = (-4) := hw
      subst hw
      refine W.widen (k := 4) (n := 42) (by omega) (by omega) ?_
      exact W.iret (v := (-4)) hx hb hr (fun t ht hW => ⟨⟨(-4), (), rfl, (by unfold ex_call; (repeat' split) <;> first | rfl | omega), trivial⟩, hS.F ht⟩) hS.2.2 dX3_call_19
    · skip
      have i_3 : 0 ≤ a2.toInt := by have h9 := pz_nlt c_3; exact h9
      refine lv_iload_n hx hb dX3_call_8 rfl (lv_at hl 3 rfl) ?_
      refine lv_iconst (v := 1) hx hb dX3_call_9 (by decide) ?_
      refine lv_icmp_ge (tgt := 20) hx hb dX3_call_10 (by decide) (fun c_5 => ?_) (fun c_5 => ?_)
      · skip
        have i_5 : 1 ≤ a3.toInt := by have h9 := pz_ge c_5; exact h9
        refine lv_iload_n hx hb dX3_call_20 rfl (lv_at hl 1 rfl) ?_
        refine lv_ldc hx hb hown (hts (.constant RX3 92 (65535)) (by decide +kernel)) dX3_call_21 ?_
        refine lv_icmp_gt (tgt := 51) hx hb dX3_call_23 (by decide) (fun c_6 => ?_) (fun c_6 => ?_)
        · skip
          have i_6 : 65535 < a1.toInt := by have h9 := pz_gt c_6; exact h9
          refine lv_aload_n hx hb dX3_call_51 rfl (lv_at hl 0 rfl) ?_
          refine lv_bipush (v := (-6)) hx hb dX3_call_52 (by decide) ?_
          have hPc := hP.sub (ws' := [(h0, .inr (4, [.ref q1, .ref q2, .ref q3, .ref q4, .ref q5, .int tk, .int 0, .int 3, .int 20, .int 0, .int 0, .int 0, .int 0])), (q5, .inl (cI, 7, .inl (fun _ => 0)))]) [0, 5] rfl
          have hDc := hD.sub (ws' := [(h0, .inr (4, [.ref q1, .ref q2, .ref q3, .ref q4, .ref q5, .int tk, .int 0, .int 3, .int 20, .int 0, .int 0, .int 0, .int 0])), (q5, .inl (cI, 7, .inl (fun _ => 0)))]) [0, 5] (by decide) rfl
          have hKc := hK.sub (tys' := [(cI, .int)]) [0] rfl
          have hFc := va_free (wc := [(h0, .inr (4, [.ref q1, .ref q2, .ref q3, .ref q4, .ref q5, .int tk, .int 0, .int 3, .int 20, .int 0, .int 0, .int 0, .int 0])), (q5, .inl (cI, 7, .inl (fun _ => 0)))]) hD hS hA [0, 5] rfl
          refine va_calli (va_runV (As := [.int (-6)]) (rest := []) ⟨hx, hb, hml, hown, hts⟩ (k_X3_refuse6 l dC dI h0 q1 q2 q3 q4 q5 cI tk s.heap.size) (cwV 1 hts gX3_call_X3_refuse rfl rfl rfl (by decide +kernel) ⟨Nat.le_of_ble_eq_true rfl, Nat.le_of_ble_eq_true rfl⟩) ⟨pz_blind, va_recv hKc hPc (ci := 4) (q0 := 0) rfl rfl, fun U hU hW => ⟨rfl, pz_at hPc hKc hDc hU hW⟩⟩ rfl rfl hl.1 rfl (lv_room (Nat.le_of_ble_eq_true rfl)) dX3_call_54 ⟨Nat.le_of_ble_eq_true rfl, Nat.le_of_ble_eq_true rfl⟩) hS (fun q _ h => hFc q h) hFc (fun r_7 u t H locs ht hvm hw hB hz1 hk1 hS => ?_)
          obtain ⟨hP, hD⟩ := va_join (wr := [(q1, .inr (0, [.int 0, .ref z, .int 0])), (q2, .inr (0, [.int 0, .ref z, .int 0])), (q3, .inr (0, [.int 0, .ref z, .int 0])), (q4, .inr (0, [.int 0, .ref z, .int 0]))]) (w1 := []) hP hD [0, 5] [1, 2, 3, 4] rfl rfl (by decide) (by decide) hk1 hFc pz_nilP pz_nilD
          have hP : va_P (dC, dI) vwCl [(q1, .inr (0, [.int 0, .ref z, .int 0])), (q2, .inr (0, [.int 0, .ref z, .int 0])), (q3, .inr (0, [.int 0, .ref z, .int 0])), (q4, .inr (0, [.int 0, .ref z, .int 0]))] H := hP
          have hD : va_D A [(q1, .inr (0, [.int 0, .ref z, .int 0])), (q2, .inr (0, [.int 0, .ref z, .int 0])), (q3, .inr (0, [.int 0, .ref z, .int 0])), (q4, .inr (0, [.int 0, .ref z, .int 0]))] := hD
          have hw : r_7 = (-6) := hw
          subst hw
          refine W.widen (k := 4) (n := 42) (by omega) (by omega) ?_
          exact W.iret (v := (-6)) hx hb hr (fun t ht hW => ⟨⟨(-6), (), rfl, (by unfold ex_call; (repeat' split) <;> first | rfl | omega), trivial⟩, hS.F ht⟩) hS.2.2 dX3_call_57
        · skip
          have i_6 : a1.toInt ≤ 65535 := by have h9 := pz_ngt c_6; exact h9
          refine lv_iload_n hx hb dX3_call_26 rfl (lv_at hl 2 rfl) ?_
          refine lv_iconst (v := 3) hx hb dX3_call_27 (by decide) ?_
          refine lv_icmp_gt (tgt := 51) hx hb dX3_call_28 (by decide) (fun c_8 => ?_) (fun c_8 => ?_)
          · skip
            have i_8 : 3 < a2.toInt := by have h9 := pz_gt c_8; exact h9
            refine lv_aload_n hx hb dX3_call_51 rfl (lv_at hl 0 rfl) ?_
            refine lv_bipush (v := (-6)) hx hb dX3_call_52 (by decide) ?_
            have hPc := hP.sub (ws' := [(h0, .inr (4, [.ref q1, .ref q2, .ref q3, .ref q4, .ref q5, .int tk, .int 0, .int 3, .int 20, .int 0, .int 0, .int 0, .int 0])), (q5, .inl (cI, 7, .inl (fun _ => 0)))]) [0, 5] rfl
            have hDc := hD.sub (ws' := [(h0, .inr (4, [.ref q1, .ref q2, .ref q3, .ref q4, .ref q5, .int tk, .int 0, .int 3, .int 20, .int 0, .int 0, .int 0, .int 0])), (q5, .inl (cI, 7, .inl (fun _ => 0)))]) [0, 5] (by decide) rfl
            have hKc := hK.sub (tys' := [(cI, .int)]) [0] rfl
            have hFc := va_free (wc := [(h0, .inr (4, [.ref q1, .ref q2, .ref q3, .ref q4, .ref q5, .int tk, .int 0, .int 3, .int 20, .int 0, .int 0, .int 0, .int 0])), (q5, .inl (cI, 7, .inl (fun _ => 0)))]) hD hS hA [0, 5] rfl
            refine va_calli (va_runV (As := [.int (-6)]) (rest := []) ⟨hx, hb, hml, hown, hts⟩ (k_X3_refuse6 l dC dI h0 q1 q2 q3 q4 q5 cI tk s.heap.size) (cwV 1 hts gX3_call_X3_refuse rfl rfl rfl (by decide +kernel) ⟨Nat.le_of_ble_eq_true rfl, Nat.le_of_ble_eq_true rfl⟩) ⟨pz_blind, va_recv hKc hPc (ci := 4) (q0 := 0) rfl rfl, fun U hU hW => ⟨rfl, pz_at hPc hKc hDc hU hW⟩⟩ rfl rfl hl.1 rfl (lv_room (Nat.le_of_ble_eq_true rfl)) dX3_call_54 ⟨Nat.le_of_ble_eq_true rfl, Nat.le_of_ble_eq_true rfl⟩) hS (fun q _ h => hFc q h) hFc (fun r_9 u t H locs ht hvm hw hB hz1 hk1 hS => ?_)
            obtain ⟨hP, hD⟩ := va_join (wr := [(q1, .inr (0, [.int 0, .ref z, .int 0])), (q2, .inr (0, [.int 0, .ref z, .int 0])), (q3, .inr (0, [.int 0, .ref z, .int 0])), (q4, .inr (0, [.int 0, .ref z, .int 0]))]) (w1 := []) hP hD [0, 5] [1, 2, 3, 4] rfl rfl (by decide) (by decide) hk1 hFc pz_nilP pz_nilD
            have hP : va_P (dC, dI) vwCl [(q1, .inr (0, [.int 0, .ref z, .int 0])), (q2, .inr (0, [.int 0, .ref z, .int 0])), (q3, .inr (0, [.int 0, .ref z, .int 0])), (q4, .inr (0, [.int 0, .ref z, .int 0]))] H := hP
            have hD : va_D A [(q1, .inr (0, [.int 0, .ref z, .int 0])), (q2, .inr (0, [.int 0, .ref z, .int 0])), (q3, .inr (0, [.int 0, .ref z, .int 0])), (q4, .inr (0, [.int 0, .ref z, .int 0]))] := hD
            have hw : r_9 = (-6) := hw
            subst hw
            refine W.widen (k := 4) (n := 42) (by omega) (by omega) ?_
            exact W.iret (v := (-6)) hx hb hr (fun t ht hW => ⟨⟨(-6), (), rfl, (by unfold ex_call; (repeat' split) <;> first | rfl | omega), trivial⟩, hS.F ht⟩) hS.2.2 dX3_call_57
          · skip
            have i_8 : a2.toInt ≤ 3 := by have h9 := pz_ngt c_8; exact h9
            refine lv_iload_n hx hb dX3_call_31 rfl (lv_at hl 3 rfl) ?_
            refine lv_sipush (v := 2000) hx hb dX3_call_32 (by decide) ?_
            refine lv_icmp_gt (tgt := 51) hx hb dX3_call_35 (by decide) (fun c_10 => ?_) (fun c_10 => ?_)
            · skip
              have i_10 : 2000 < a3.toInt := by have h9 := pz_gt c_10; exact h9
              refine lv_aload_n hx hb dX3_call_51 rfl (lv_at hl 0 rfl) ?_
              refine lv_bipush (v := (-6)) hx hb dX3_call_52 (by decide) ?_
              have hPc := hP.sub (ws' := [(h0, .inr (4, [.ref q1, .ref q2, .ref q3, .ref q4, .ref q5, .int tk, .int 0, .int 3, .int 20, .int 0, .int 0, .int 0, .int 0])), (q5, .inl (cI, 7, .inl (fun _ => 0)))]) [0, 5] rfl
              have hDc := hD.sub (ws' := [(h0, .inr (4, [.ref q1, .ref q2, .ref q3, .ref q4, .ref q5, .int tk, .int 0, .int 3, .int 20, .int 0, .int 0, .int 0, .int 0])), (q5, .inl (cI, 7, .inl (fun _ => 0)))]) [0, 5] (by decide) rfl
              have hKc := hK.sub (tys' := [(cI, .int)]) [0] rfl
              have hFc := va_free (wc := [(h0, .inr (4, [.ref q1, .ref q2, .ref q3, .ref q4, .ref q5, .int tk, .int 0, .int 3, .int 20, .int 0, .int 0, .int 0, .int 0])), (q5, .inl (cI, 7, .inl (fun _ => 0)))]) hD hS hA [0, 5] rfl
              refine va_calli (va_runV (As := [.int (-6)]) (rest := []) ⟨hx, hb, hml, hown, hts⟩ (k_X3_refuse6 l dC dI h0 q1 q2 q3 q4 q5 cI tk s.heap.size) (cwV 1 hts gX3_call_X3_refuse rfl rfl rfl (by decide +kernel) ⟨Nat.le_of_ble_eq_true rfl, Nat.le_of_ble_eq_true rfl⟩) ⟨pz_blind, va_recv hKc hPc (ci := 4) (q0 := 0) rfl rfl, fun U hU hW => ⟨rfl, pz_at hPc hKc hDc hU hW⟩⟩ rfl rfl hl.1 rfl (lv_room (Nat.le_of_ble_eq_true rfl)) dX3_call_54 ⟨Nat.le_of_ble_eq_true rfl, Nat.le_of_ble_eq_true rfl⟩) hS (fun q _ h => hFc q h) hFc (fun r_11 u t H locs ht hvm hw hB hz1 hk1 hS => ?_)
              obtain ⟨hP, hD⟩ := va_join (wr := [(q1, .inr (0, [.int 0, .ref z, .int 0])), (q2, .inr (0, [.int 0, .ref z, .int 0])), (q3, .inr (0, [.int 0, .ref z, .int 0])), (q4, .inr (0, [.int 0, .ref z, .int 0]))]) (w1 := []) hP hD [0, 5] [1, 2, 3, 4] rfl rfl (by decide) (by decide) hk1 hFc pz_nilP pz_nilD
              have hP : va_P (dC, dI) vwCl [(q1, .inr (0, [.int 0, .ref z, .int 0])), (q2, .inr (0, [.int 0, .ref z, .int 0])), (q3, .inr (0, [.int 0, .ref z, .int 0])), (q4, .inr (0, [.int 0, .ref z, .int 0]))] H := hP
              have hD : va_D A [(q1, .inr (0, [.int 0, .ref z, .int 0])), (q2, .inr (0, [.int 0, .ref z, .int 0])), (q3, .inr (0, [.int 0, .ref z, .int 0])), (q4, .inr (0, [.int 0, .ref z, .int 0]))] := hD
              have hw : r_11 = (-6) := hw
              subst hw
              refine W.widen (k := 4) (n := 42) (by omega) (by omega) ?_
              exact W.iret (v := (-6)) hx hb hr (fun t ht hW => ⟨⟨(-6), (), rfl, (by unfold ex_call; (repeat' split) <;> first | rfl | omega), trivial⟩, hS.F ht⟩) hS.2.2 dX3_call_57
            · skip
              have i_10 : a3.toInt ≤ 2000 := by have h9 := pz_ngt c_10; exact h9
              refine lv_aload_n hx hb dX3_call_38 rfl (lv_at hl 0 rfl) ?_
              refine va_get (D := (dC, dI)) (ci := 4) (v := .ref q2) (C := RX3) (T := TX3) (N := 13) hx hb hts (fun _ h => List.mem_cons_of_mem _ (List.mem_append_left _ (List.mem_append_left _ (List.mem_append_left _ (List.mem_append_left _ (List.mem_append_right _ h)))))) hown hK hP 0 rfl rfl 1 (by decide) (hts (.fieldLink RX3 16 "FrontDoor" "calls" "Ljava/util/ArrayList;") (by decide +kernel)) (fun _ h9 => h9) rfl dX3_call_39 ?_
              have hPc := hP.sub (ws' := [(q2, .inr (0, [.int 0, .ref z, .int 0]))]) [2] rfl
              have hDc := hD.sub (ws' := [(q2, .inr (0, [.int 0, .ref z, .int 0]))]) [2] (by decide) rfl
              have hKc := hK.sub (tys' := []) [] rfl
              have hFc := pz_f hA hS
              refine va_calli (va_runV (As := []) (rest := []) ⟨hx, hb, hml, hown, hts⟩ (k_Jx4a65c_size_8abf5 l dC dI q2 z s.heap.size) (cwV 0 hts gX3_call_Jx4a65c_size_8abf5 rfl rfl rfl (by decide +kernel) ⟨Nat.le_of_ble_eq_true rfl, Nat.le_of_ble_eq_true rfl⟩) ⟨pz_blind, va_recv hKc hPc (ci := 0) (q0 := 0) rfl rfl, fun U hU hW => ⟨rfl, pz_at hPc hKc hDc hU hW⟩⟩ rfl rfl hl.1 rfl (lv_room (Nat.le_of_ble_eq_true rfl)) dX3_call_42 ⟨Nat.le_of_ble_eq_true rfl, Nat.le_of_ble_eq_true rfl⟩) hS (fun q _ h => hFc q h) hFc (fun r_12 u t H locs ht hvm hw hB hz1 hk1 hS => ?_)
              have hP := pz_keep hP hk1
              have hw : r_12 = 0 := hw
              subst hw
              refine lv_sipush (v := 200) hx hb dX3_call_45 (by decide) ?_
              refine lv_icmp_lt (tgt := 58) hx hb dX3_call_48 (by decide) (fun c_13 => ?_) (fun c_13 => absurd (by decide) c_13)
              refine va_new (ci := 2) (fs := [.int 0, .int 0, .int 0, .int 0, .int 0, .int 0, .int 0, .int 0, .int 0, .int 0, .null, .null]) (C := RX1) (T := TX1) (N := 12) hx hb hts (fun _ h => List.mem_cons_of_mem _ (List.mem_append_left _ (List.mem_append_left _ (List.mem_append_left _ (List.mem_append_right _ h))))) tyX1 tyX1_ok hown (hts (.classLink RX3 93 RX1) (by decide +kernel)) (hts (.instantiable RX1 12) (by decide +kernel)) (hts (.initialized RX1) (by decide +kernel)) hK hP hD hS hA rfl (fun j hj => match j, hj with | 0, _ => rfl | 1, _ => rfl | 2, _ => rfl | 3, _ => rfl | 4, _ => rfl | 5, _ => rfl | 6, _ => rfl | 7, _ => rfl | 8, _ => rfl | 9, _ => rfl | 10, _ => rfl | 11, _ => rfl | z9 + 12, h9 => absurd h9 (by omega)) (Nat.le_of_ble_eq_true rfl) (Nat.le_of_ble_eq_true rfl) dX3_call_58 (fun q_14 H hP hD hS => ?_)
              have hP : va_P (dC, dI) vwCl [(h0, .inr (4, [.ref q1, .ref q2, .ref q3, .ref q4, .ref q5, .int tk, .int 0, .int 3, .int 20, .int 0, .int 0, .int 0, .int 0])), (q1, .inr (0, [.int 0, .ref z, .int 0])), (q2, .inr (0, [.int 0, .ref z, .int 0])), (q3, .inr (0, [.int 0, .ref z, .int 0])), (q4, .inr (0, [.int 0, .ref z, .int 0])), (q5, .inl (cI, 7, .inl (fun _ => 0))), (q_14, .inr (2, [.int 0, .int 0, .int 0, .int 0, .int 0, .int 0, .int 0, .int 0, .int 0, .int 0, .null, .null]))] H := hP
              have hD : va_D A [(h0, .inr (4, [.ref q1, .ref q2, .ref q3, .ref q4, .ref q5, .int tk, .int 0, .int 3, .int 20, .int 0, .int 0, .int 0, .int 0])), (q1, .inr (0, [.int 0, .ref z, .int 0])), (q2, .inr (0, [.int 0, .ref z, .int 0])), (q3, .inr (0, [.int 0, .ref z, .int 0])), (q4, .inr (0, [.int 0, .ref z, .int 0])), (q5, .inl (cI, 7, .inl (fun _ => 0))), (q_14, .inr (2, [.int 0, .int 0, .int 0, .int 0, .int 0, .int 0, .int 0, .int 0, .int 0, .int 0, .null, .null]))] := hD
              refine W.widen (k := 1) (n := 12) (Nat.le_refl 1) (Nat.le_refl 12) ?_
              refine lv_dup hx hb dX3_call_61 rfl ?_
              refine lv_aload_n hx hb dX3_call_62 rfl (lv_at hl 0 rfl) ?_
              refine va_get (D := (dC, dI)) (ci := 4) (v := .ref q2) (C := RX3) (T := TX3) (N := 13) hx hb hts (fun _ h => List.mem_cons_of_mem _ (List.mem_append_left _ (List.mem_append_left _ (List.mem_append_left _ (List.mem_append_left _ (List.mem_append_right _ h)))))) hown hK hP 0 rfl rfl 1 (by decide) (hts (.fieldLink RX3 16 "FrontDoor" "calls" "Ljava/util/ArrayList;") (by decide +kernel)) (fun _ h9 => h9) rfl dX3_call_63 ?_
              have hPc := hP.sub (ws' := [(q2, .inr (0, [.int 0, .ref z, .int 0]))]) [2] rfl
              have hDc := hD.sub (ws' := [(q2, .inr (0, [.int 0, .ref z, .int 0]))]) [2] (by decide) rfl
              have hKc := hK.sub (tys' := []) [] rfl
              have hFc := pz_f hA hS
              refine va_calli (va_runV (As := []) (rest := [.ref q_14, .ref q_14]) ⟨hx, hb, hml, hown, hts⟩ (k_Jx4a65c_size_8abf5 l dC dI q2 z H.size) (cwV 0 hts gX3_call_Jx4a65c_size_8abf5 rfl rfl rfl (by decide +kernel) ⟨Nat.le_of_ble_eq_true rfl, Nat.le_of_ble_eq_true rfl⟩) ⟨pz_blind, va_recv hKc hPc (ci := 0) (q0 := 0) rfl rfl, fun U hU hW => ⟨rfl, pz_at hPc hKc hDc hU hW⟩⟩ rfl rfl hl.1 rfl (lv_room (Nat.le_of_ble_eq_true rfl)) dX3_call_66 ⟨Nat.le_of_ble_eq_true rfl, Nat.le_of_ble_eq_true rfl⟩) hS (fun q _ h => hFc q h) hFc (fun r_15 u t H locs ht hvm hw hB hz1 hk1 hS => ?_)
              have hP := pz_keep hP hk1
              have hw : r_15 = 0 := hw
              subst hw
              refine lv_iload_n hx hb dX3_call_69 rfl (lv_at hl 1 rfl) ?_
              refine lv_iload_n hx hb dX3_call_70 rfl (lv_at hl 2 rfl) ?_
              refine lv_aload_n hx hb dX3_call_71 rfl (lv_at hl 0 rfl) ?_
              refine va_get (D := (dC, dI)) (ci := 4) (v := .int tk) (C := RX3) (T := TX3) (N := 13) hx hb hts (fun _ h => List.mem_cons_of_mem _ (List.mem_append_left _ (List.mem_append_left _ (List.mem_append_left _ (List.mem_append_left _ (List.mem_append_right _ h)))))) hown hK hP 0 rfl rfl 5 (by decide) (hts (.fieldLink RX3 95 "FrontDoor" "tick" "I") (by decide +kernel)) (fun _ h9 => h9) rfl dX3_call_72 ?_
              refine lv_aload_n hx hb dX3_call_75 rfl (lv_at hl 0 rfl) ?_
              refine va_get (D := (dC, dI)) (ci := 4) (v := .int tk) (C := RX3) (T := TX3) (N := 13) hx hb hts (fun _ h => List.mem_cons_of_mem _ (List.mem_append_left _ (List.mem_append_left _ (List.mem_append_left _ (List.mem_append_left _ (List.mem_append_right _ h)))))) hown hK hP 0 rfl rfl 5 (by decide) (hts (.fieldLink RX3 95 "FrontDoor" "tick" "I") (by decide +kernel)) (fun _ h9 => h9) rfl dX3_call_76 ?_
              refine lv_iload_n hx hb dX3_call_79 rfl (lv_at hl 3 rfl) ?_
              refine lv_iadd hx hb dX3_call_80 ?_
              refine lv_topi (fun x_16 ex_16 => ?_)
              refine lv_iload hx hb dX3_call_81 (lv_at hl 4 rfl) ?_
              have hPc := hP.sub (ws' := [(q_14, .inr (2, [.int 0, .int 0, .int 0, .int 0, .int 0, .int 0, .int 0, .int 0, .int 0, .int 0, .null, .null]))]) [6] rfl
              have hDc := hD.sub (ws' := [(q_14, .inr (2, [.int 0, .int 0, .int 0, .int 0, .int 0, .int 0, .int 0, .int 0, .int 0, .int 0, .null, .null]))]) [6] (by decide) rfl
              have hKc := hK.sub (tys' := []) [] rfl
              have hFc := va_free (wc := [(q_14, .inr (2, [.int 0, .int 0, .int 0, .int 0, .int 0, .int 0, .int 0, .int 0, .int 0, .int 0, .null, .null]))]) hD hS hA [6] rfl
              refine va_callv (va_runI (As := [.int 0, .int a1, .int a2, .int tk, .int x_16, .int sf]) (rest := [.ref q_14]) ⟨hx, hb, hml, hown, hts⟩ (k_X1_init l dC dI q_14 0 a1 a2 tk x_16 sf H.size hsf) (cwI 6 hts gX3_call_X1_init rfl rfl rfl (hts (.initialized RX1) (by decide +kernel)) (hts (.methodLink RX3 98 yX1_init) (by decide +kernel)) (hts (.instanceMethod yX1_init) (by decide +kernel)) rfl (by decide +kernel) ⟨Nat.le_of_ble_eq_true rfl, Nat.le_of_ble_eq_true rfl⟩) ⟨pz_blind, fun U hU hW => ⟨rfl, pz_at hPc hKc hDc hU hW⟩⟩ rfl rfl hl.1 rfl (lv_room (Nat.le_of_ble_eq_true rfl)) dX3_call_83 ⟨Nat.le_of_ble_eq_true rfl, Nat.le_of_ble_eq_true rfl⟩) hS (fun q _ h => hFc q h) hFc (fun u t H locs ht hvm hw hB hz1 hk1 hS => ?_)
              obtain ⟨hP1, hK1, hD1⟩ := hB
              rw [ht] at hP1
              have hK1 := va_K.moved hvm.symm hK1
              obtain ⟨hP, hD⟩ := va_join (wr := [(h0, .inr (4, [.ref q1, .ref q2, .ref q3, .ref q4, .ref q5, .int tk, .int 0, .int 3, .int 20, .int 0, .int 0, .int 0, .int 0])), (q1, .inr (0, [.int 0, .ref z, .int 0])), (q2, .inr (0, [.int 0, .ref z, .int 0])), (q3, .inr (0, [.int 0, .ref z, .int 0])), (q4, .inr (0, [.int 0, .ref z, .int 0])), (q5, .inl (cI, 7, .inl (fun _ => 0)))]) (w1 := [(q_14, .inr (2, [.int 0, .int a1, .int a2, .int tk, .int x_16, .int sf, .int 0, .int 0, .int (-9), .int (-9), .null, .null]))]) hP hD [6] [0, 1, 2, 3, 4, 5] rfl rfl (by decide) (by decide) hk1 hFc hP1 hD1
              have hK := hK.app hK1
              have hK : va_K (dC, dI) vwCl [(cI, .int)] s := hK
              have hP : va_P (dC, dI) vwCl [(h0, .inr (4, [.ref q1, .ref q2, .ref q3, .ref q4, .ref q5, .int tk, .int 0, .int 3, .int 20, .int 0, .int 0, .int 0, .int 0])), (q1, .inr (0, [.int 0, .ref z, .int 0])), (q2, .inr (0, [.int 0, .ref z, .int 0])), (q3, .inr (0, [.int 0, .ref z, .int 0])), (q4, .inr (0, [.int 0, .ref z, .int 0])), (q5, .inl (cI, 7, .inl (fun _ => 0))), (q_14, .inr (2, [.int 0, .int a1, .int a2, .int tk, .int x_16, .int sf, .int 0, .int 0, .int (-9), .int (-9), .null, .null]))] H := hP
              have hD : va_D A [(h0, .inr (4, [.ref q1, .ref q2, .ref q3, .ref q4, .ref q5, .int tk, .int 0, .int 3, .int 20, .int 0, .int 0, .int 0, .int 0])), (q1, .inr (0, [.int 0, .ref z, .int 0])), (q2, .inr (0, [.int 0, .ref z, .int 0])), (q3, .inr (0, [.int 0, .ref z, .int 0])), (q4, .inr (0, [.int 0, .ref z, .int 0])), (q5, .inl (cI, 7, .inl (fun _ => 0))), (q_14, .inr (2, [.int 0, .int a1, .int a2, .int tk, .int x_16, .int sf, .int 0, .int 0, .int (-9), .int (-9), .null, .null]))] := hD
              refine W.eq (g2 := F0 m 86 ls [.ref q_14]) rfl ?_
              refine lv_astore (lv' := [(5, .ref q_14), (0, .ref h0), (1, .int a1), (2, .int a2), (3, .int a3), (4, .int sf)]) hx hb dX3_call_86 hl (by decide) rfl (fun ls hl => ?_)
              refine lv_aload_n hx hb dX3_call_88 rfl (lv_at hl 1 rfl) ?_
              refine va_get (D := (dC, dI)) (ci := 4) (v := .ref q2) (C := RX3) (T := TX3) (N := 13) hx hb hts (fun _ h => List.mem_cons_of_mem _ (List.mem_append_left _ (List.mem_append_left _ (List.mem_append_left _ (List.mem_append_left _ (List.mem_append_right _ h)))))) hown hK hP 0 rfl rfl 1 (by decide) (hts (.fieldLink RX3 16 "FrontDoor" "calls" "Ljava/util/ArrayList;") (by decide +kernel)) (fun _ h9 => h9) rfl dX3_call_89 ?_
              refine lv_aload hx hb dX3_call_92 (lv_at hl 0 rfl) ?_
              have hPc := hP.sub (ws' := [(q2, .inr (0, [.int 0, .ref z, .int 0]))]) [2] rfl
              have hDc := hD.sub (ws' := [(q2, .inr (0, [.int 0, .ref z, .int 0]))]) [2] (by decide) rfl
              have hKc := hK.sub (tys' := []) [] rfl
              have hFc := va_free (wc := [(q2, .inr (0, [.int 0, .ref z, .int 0]))]) hD hS hA [2] rfl
              refine va_calli (va_runV (As := [.ref q_14]) (rest := []) ⟨hx, hb, hml, hown, hts⟩ (k_Jx4a65c_add_9ea2d l dC dI q2 z q_14 H.size) (cwV 1 hts gX3_call_Jx4a65c_add_9ea2d rfl rfl rfl (by decide +kernel) ⟨Nat.le_of_ble_eq_true rfl, Nat.le_of_ble_eq_true rfl⟩) ⟨pz_blindE, va_recv hKc hPc (ci := 0) (q0 := 0) rfl rfl, fun U hU hW => ⟨rfl, ⟨pz_at hPc hKc hDc hU hW, pz_Zat hZ hS hFc hU hW, pz_Enew (pz_rAny hK hP (q0 := 6) (ci := 2) rfl rfl (hZ.2.2.2.2)) (pz_notA hP hD 6 [2] rfl rfl (by decide)) hU hW⟩⟩⟩ rfl rfl hl.1 rfl (lv_room (Nat.le_of_ble_eq_true rfl)) dX3_call_94 ⟨Nat.le_of_ble_eq_true rfl, Nat.le_of_ble_eq_true rfl⟩) hS (fun q _ h => hFc q h) hFc (fun r_18 u t H locs ht hvm hw hB hz1 hk1 hS => ?_)
              obtain ⟨hP, hD⟩ := va_join (wr := [(h0, .inr (4, [.ref q1, .ref q2, .ref q3, .ref q4, .ref q5, .int tk, .int 0, .int 3, .int 20, .int 0, .int 0, .int 0, .int 0])), (q1, .inr (0, [.int 0, .ref z, .int 0])), (q3, .inr (0, [.int 0, .ref z, .int 0])), (q4, .inr (0, [.int 0, .ref z, .int 0])), (q5, .inl (cI, 7, .inl (fun _ => 0))), (q_14, .inr (2, [.int 0, .int a1, .int a2, .int tk, .int x_16, .int sf, .int 0, .int 0, .int (-9), .int (-9), .null, .null]))]) (w1 := []) hP hD [2] [0, 1, 3, 4, 5, 6] rfl rfl (by decide) (by decide) hk1 hFc pz_nilP pz_nilD
              have hP : va_P (dC, dI) vwCl [(h0, .inr (4, [.ref q1, .ref q2, .ref q3, .ref q4, .ref q5, .int tk, .int 0, .int 3, .int 20, .int 0, .int 0, .int 0, .int 0])), (q1, .inr (0, [.int 0, .ref z, .int 0])), (q3, .inr (0, [.int 0, .ref z, .int 0])), (q4, .inr (0, [.int 0, .ref z, .int 0])), (q5, .inl (cI, 7, .inl (fun _ => 0))), (q_14, .inr (2, [.int 0, .int a1, .int a2, .int tk, .int x_16, .int sf, .int 0, .int 0, .int (-9), .int (-9), .null, .null]))] H := hP
              have hD : va_D A [(h0, .inr (4, [.ref q1, .ref q2, .ref q3, .ref q4, .ref q5, .int tk, .int 0, .int 3, .int 20, .int 0, .int 0, .int 0, .int 0])), (q1, .inr (0, [.int 0, .ref z, .int 0])), (q3, .inr (0, [.int 0, .ref z, .int 0])), (q4, .inr (0, [.int 0, .ref z, .int 0])), (q5, .inl (cI, 7, .inl (fun _ => 0))), (q_14, .inr (2, [.int 0, .int a1, .int a2, .int tk, .int x_16, .int sf, .int 0, .int 0, .int (-9), .int (-9), .null, .null]))] := hD
              refine W.widen (k := 2) (n := 22) (Nat.le_refl 2) (Nat.le_refl 22) ?_
              refine lv_pop hx hb dX3_call_97 rfl ?_
              refine lv_aload_n hx hb dX3_call_98 rfl (lv_at hl 1 rfl) ?_
              refine va_get (D := (dC, dI)) (ci := 4) (v := .ref q3) (C := RX3) (T := TX3) (N := 13) hx hb hts (fun _ h => List.mem_cons_of_mem _ (List.mem_append_left _ (List.mem_append_left _ (List.mem_append_left _ (List.mem_append_left _ (List.mem_append_right _ h)))))) hown hK hP 0 rfl rfl 2 (by decide) (hts (.fieldLink RX3 19 "FrontDoor" "live" "Ljava/util/ArrayList;") (by decide +kernel)) (fun _ h9 => h9) rfl dX3_call_99 ?_
              refine lv_aload hx hb dX3_call_102 (lv_at hl 0 rfl) ?_
              have hPc := hP.sub (ws' := [(q3, .inr (0, [.int 0, .ref z, .int 0]))]) [2] rfl
              have hDc := hD.sub (ws' := [(q3, .inr (0, [.int 0, .ref z, .int 0]))]) [2] (by decide) rfl
              have hKc := hK.sub (tys' := []) [] rfl
              have hFc := va_free (wc := [(q3, .inr (0, [.int 0, .ref z, .int 0]))]) hD hS hA [2] rfl
              refine va_calli (va_runV (As := [.ref q_14]) (rest := []) ⟨hx, hb, hml, hown, hts⟩ (k_Jx4a65c_add_9ea2d l dC dI q3 z q_14 H.size) (cwV 1 hts gX3_call_Jx4a65c_add_9ea2d rfl rfl rfl (by decide +kernel) ⟨Nat.le_of_ble_eq_true rfl, Nat.le_of_ble_eq_true rfl⟩) ⟨pz_blindE, va_recv hKc hPc (ci := 0) (q0 := 0) rfl rfl, fun U hU hW => ⟨rfl, ⟨pz_at hPc hKc hDc hU hW, pz_Zat hZ hS hFc hU hW, pz_Enew (pz_rAny hK hP (q0 := 5) (ci := 2) rfl rfl (hZ.2.2.2.2)) (pz_notA hP hD 5 [2] rfl rfl (by decide)) hU hW⟩⟩⟩ rfl rfl hl.1 rfl (lv_room (Nat.le_of_ble_eq_true rfl)) dX3_call_104 ⟨Nat.le_of_ble_eq_true rfl, Nat.le_of_ble_eq_true rfl⟩) hS (fun q _ h => hFc q h) hFc (fun r_19 u t H locs ht hvm hw hB hz1 hk1 hS => ?_)
              obtain ⟨hP, hD⟩ := va_join (wr := [(h0, .inr (4, [.ref q1, .ref q2, .ref q3, .ref q4, .ref q5, .int tk, .int 0, .int 3, .int 20, .int 0, .int 0, .int 0, .int 0])), (q1, .inr (0, [.int 0, .ref z, .int 0])), (q4, .inr (0, [.int 0, .ref z, .int 0])), (q5, .inl (cI, 7, .inl (fun _ => 0))), (q_14, .inr (2, [.int 0, .int a1, .int a2, .int tk, .int x_16, .int sf, .int 0, .int 0, .int (-9), .int (-9), .null, .null]))]) (w1 := []) hP hD [2] [0, 1, 3, 4, 5] rfl rfl (by decide) (by decide) hk1 hFc pz_nilP pz_nilD
              have hP : va_P (dC, dI) vwCl [(h0, .inr (4, [.ref q1, .ref q2, .ref q3, .ref q4, .ref q5, .int tk, .int 0, .int 3, .int 20, .int 0, .int 0, .int 0, .int 0])), (q1, .inr (0, [.int 0, .ref z, .int 0])), (q4, .inr (0, [.int 0, .ref z, .int 0])), (q5, .inl (cI, 7, .inl (fun _ => 0))), (q_14, .inr (2, [.int 0, .int a1, .int a2, .int tk, .int x_16, .int sf, .int 0, .int 0, .int (-9), .int (-9), .null, .null]))] H := hP
              have hD : va_D A [(h0, .inr (4, [.ref q1, .ref q2, .ref q3, .ref q4, .ref q5, .int tk, .int 0, .int 3, .int 20, .int 0, .int 0, .int 0, .int 0])), (q1, .inr (0, [.int 0, .ref z, .int 0])), (q4, .inr (0, [.int 0, .ref z, .int 0])), (q5, .inl (cI, 7, .inl (fun _ => 0))), (q_14, .inr (2, [.int 0, .int a1, .int a2, .int tk, .int x_16, .int sf, .int 0, .int 0, .int (-9), .int (-9), .null, .null]))] := hD
              refine W.widen (k := 3) (n := 32) (Nat.le_refl 3) (Nat.le_refl 32) ?_
              refine lv_pop hx hb dX3_call_107 rfl ?_
              refine lv_aload_n hx hb dX3_call_108 rfl (lv_at hl 1 rfl) ?_
              refine lv_aload hx hb dX3_call_109 (lv_at hl 0 rfl) ?_
              have hPc := hP.sub (ws' := [(h0, .inr (4, [.ref q1, .ref q2, .ref q3, .ref q4, .ref q5, .int tk, .int 0, .int 3, .int 20, .int 0, .int 0, .int 0, .int 0])), (q1, .inr (0, [.int 0, .ref z, .int 0])), (q_14, .inr (2, [.int 0, .int a1, .int a2, .int tk, .int x_16, .int sf, .int 0, .int 0, .int (-9), .int (-9), .null, .null]))]) [0, 1, 4] rfl
              have hDc := hD.sub (ws' := [(h0, .inr (4, [.ref q1, .ref q2, .ref q3, .ref q4, .ref q5, .int tk, .int 0, .int 3, .int 20, .int 0, .int 0, .int 0, .int 0])), (q1, .inr (0, [.int 0, .ref z, .int 0])), (q_14, .inr (2, [.int 0, .int a1, .int a2, .int tk, .int x_16, .int sf, .int 0, .int 0, .int (-9), .int (-9), .null, .null]))]) [0, 1, 4] (by decide) rfl
              have hKc := hK.sub (tys' := []) [] rfl
              have hFc := pz_f hA hS
              refine va_calli (va_runV (As := [.ref q_14]) (rest := []) ⟨hx, hb, hml, hown, hts⟩ (k_X3_askByRule l dC dI h0 q1 q2 q3 q4 q5 z tk q_14 0 a1 a2 tk x_16 sf H.size) (cwV 1 hts gX3_call_X3_askByRule rfl rfl rfl (by decide +kernel) ⟨Nat.le_of_ble_eq_true rfl, Nat.le_of_ble_eq_true rfl⟩) ⟨pz_blind, va_recv hKc hPc (ci := 4) (q0 := 0) rfl rfl, fun U hU hW => ⟨rfl, pz_at hPc hKc hDc hU hW⟩⟩ rfl rfl hl.1 rfl (lv_room (Nat.le_of_ble_eq_true rfl)) dX3_call_111 ⟨Nat.le_of_ble_eq_true rfl, Nat.le_of_ble_eq_true rfl⟩) hS (fun q _ h => hFc q h) hFc (fun r_20 u t H locs ht hvm hw hB hz1 hk1 hS => ?_)
              have hP := pz_keep hP hk1
              have hw : r_20 = 0 := hw
              subst hw
              refine lv_if_ne (tgt := 123) hx hb dX3_call_114 (by decide) (fun c_21 => absurd c_21 (by decide)) (fun c_21 => ?_)
              refine lv_aload_n hx hb dX3_call_117 rfl (lv_at hl 1 rfl) ?_
              refine lv_aload hx hb dX3_call_118 (lv_at hl 0 rfl) ?_
              have hPc := hP.sub (ws' := [(h0, .inr (4, [.ref q1, .ref q2, .ref q3, .ref q4, .ref q5, .int tk, .int 0, .int 3, .int 20, .int 0, .int 0, .int 0, .int 0])), (q4, .inr (0, [.int 0, .ref z, .int 0])), (q_14, .inr (2, [.int 0, .int a1, .int a2, .int tk, .int x_16, .int sf, .int 0, .int 0, .int (-9), .int (-9), .null, .null]))]) [0, 2, 4] rfl
              have hDc := hD.sub (ws' := [(h0, .inr (4, [.ref q1, .ref q2, .ref q3, .ref q4, .ref q5, .int tk, .int 0, .int 3, .int 20, .int 0, .int 0, .int 0, .int 0])), (q4, .inr (0, [.int 0, .ref z, .int 0])), (q_14, .inr (2, [.int 0, .int a1, .int a2, .int tk, .int x_16, .int sf, .int 0, .int 0, .int (-9), .int (-9), .null, .null]))]) [0, 2, 4] (by decide) rfl
              have hKc := hK.sub (tys' := []) [] rfl
              have hFc := va_free (wc := [(h0, .inr (4, [.ref q1, .ref q2, .ref q3, .ref q4, .ref q5, .int tk, .int 0, .int 3, .int 20, .int 0, .int 0, .int 0, .int 0])), (q4, .inr (0, [.int 0, .ref z, .int 0])), (q_14, .inr (2, [.int 0, .int a1, .int a2, .int tk, .int x_16, .int sf, .int 0, .int 0, .int (-9), .int (-9), .null, .null]))]) hD hS hA [0, 2, 4] rfl
              refine va_callv (va_runV (As := [.ref q_14]) (rest := []) ⟨hx, hb, hml, hown, hts⟩ (k_X3_joinLine l dC dI h0 q1 q2 q3 q4 q5 z tk q_14 0 a1 a2 tk x_16 sf H.size) (cwV 1 hts gX3_call_X3_joinLine rfl rfl rfl (by decide +kernel) ⟨Nat.le_of_ble_eq_true rfl, Nat.le_of_ble_eq_true rfl⟩) ⟨pz_blindZ, va_recv hKc hPc (ci := 4) (q0 := 0) rfl rfl, fun U hU hW => ⟨rfl, ⟨pz_at hPc hKc hDc hU hW, pz_Zat hZ hS hFc hU hW⟩⟩⟩ rfl rfl hl.1 rfl (lv_room (Nat.le_of_ble_eq_true rfl)) dX3_call_120 ⟨Nat.le_of_ble_eq_true rfl, Nat.le_of_ble_eq_true rfl⟩) hS (fun q _ h => hFc q h) hFc (fun u t H locs ht hvm hw hB hz1 hk1 hS => ?_)
              obtain ⟨hP1, hK1, hD1⟩ := hB
              rw [ht] at hP1
              have hK1 := va_K.moved hvm.symm hK1
              obtain ⟨hP, hD⟩ := va_join (wr := [(q1, .inr (0, [.int 0, .ref z, .int 0])), (q5, .inl (cI, 7, .inl (fun _ => 0)))]) (w1 := [(q_14, .inr (2, [.int 0, .int a1, .int a2, .int tk, .int x_16, .int sf, .int 0, .int 0, .int (-9), .int (-9), .null, .null]))]) hP hD [0, 2, 4] [1, 3] rfl rfl (by decide) (by decide) hk1 hFc hP1 hD1
              have hK := hK.app hK1
              have hK : va_K (dC, dI) vwCl [(cI, .int)] s := hK
              have hP : va_P (dC, dI) vwCl [(q1, .inr (0, [.int 0, .ref z, .int 0])), (q5, .inl (cI, 7, .inl (fun _ => 0))), (q_14, .inr (2, [.int 0, .int a1, .int a2, .int tk, .int x_16, .int sf, .int 0, .int 0, .int (-9), .int (-9), .null, .null]))] H := hP
              have hD : va_D A [(q1, .inr (0, [.int 0, .ref z, .int 0])), (q5, .inl (cI, 7, .inl (fun _ => 0))), (q_14, .inr (2, [.int 0, .int a1, .int a2, .int tk, .int x_16, .int sf, .int 0, .int 0, .int (-9), .int (-9), .null, .null]))] := hD
              refine W.widen (k := 4) (n := 42) (Nat.le_refl 4) (Nat.le_refl 42) ?_
              refine W.eq (g2 := F0 m 123 ls []) rfl ?_
              refine lv_aload hx hb dX3_call_123 (lv_at hl 0 rfl) ?_
              refine va_get (D := (dC, dI)) (ci := 2) (v := .int 0) (C := RX1) (T := TX1) (N := 12) hx hb hts (fun _ h => List.mem_cons_of_mem _ (List.mem_append_left _ (List.mem_append_left _ (List.mem_append_left _ (List.mem_append_right _ h))))) hown hK hP 2 rfl rfl 0 (by decide) (hts (.fieldLink RX3 109 "FrontDoor$Call" "number" "I") (by decide +kernel)) (fun _ h9 => h9) rfl dX3_call_125 ?_
              exact W.iret (v := 0) hx hb hr (fun t ht hW => ⟨⟨0, (), rfl, (by unfold ex_call; (repeat' split) <;> first | rfl | omega), trivial⟩, hS.F ht⟩) hS.2.2 dX3_call_128
      · skip
        have i_5 : a3.toInt < 1 := by have h9 := pz_nge c_5; exact h9
        refine lv_aload_n hx hb dX3_call_13 rfl (lv_at hl 0 rfl) ?_
        refine lv_bipush (v := (-4)) hx hb dX3_call_14 (by decide) ?_
        have hPc := hP.sub (ws' := [(h0, .inr (4, [.ref q1, .ref q2, .ref q3, .ref q4, .ref q5, .int tk, .int 0, .int 3, .int 20, .int 0, .int 0, .int 0, .int 0])), (q5, .inl (cI, 7, .inl (fun _ => 0)))]) [0, 5] rfl
        have hDc := hD.sub (ws' := [(h0, .inr (4, [.ref q1, .ref q2, .ref q3, .ref q4, .ref q5, .int tk, .int 0, .int 3, .int 20, .int 0, .int 0, .int 0, .int 0])), (q5, .inl (cI, 7, .inl (fun _ => 0)))]) [0, 5] (by decide) rfl
        have hKc := hK.sub (tys' := [(cI, .int)]) [0] rfl
        have hFc := va_free (wc := [(h0, .inr (4, [.ref q1, .ref q2, .ref q3, .ref q4, .ref q5, .int tk, .int 0, .int 3, .int 20, .int 0, .int 0, .int 0, .int 0])), (q5, .inl (cI, 7, .inl (fun _ => 0)))]) hD hS hA [0, 5] rfl
        refine va_calli (va_runV (As := [.int (-4)]) (rest := []) ⟨hx, hb, hml, hown, hts⟩ (k_X3_refuse4 l dC dI h0 q1 q2 q3 q4 q5 cI tk s.heap.size) (cwV 1 hts gX3_call_X3_refuse rfl rfl rfl (by decide +kernel) ⟨Nat.le_of_ble_eq_true rfl, Nat.le_of_ble_eq_true rfl⟩) ⟨pz_blind, va_recv hKc hPc (ci := 4) (q0 := 0) rfl rfl, fun U hU hW => ⟨rfl, pz_at hPc hKc hDc hU hW⟩⟩ rfl rfl hl.1 rfl (lv_room (Nat.le_of_ble_eq_true rfl)) dX3_call_16 ⟨Nat.le_of_ble_eq_true rfl, Nat.le_of_ble_eq_true rfl⟩) hS (fun q _ h => hFc q h) hFc (fun r_23 u t H locs ht hvm hw hB hz1 hk1 hS => ?_)
        obtain ⟨hP, hD⟩ := va_join (wr := [(q1, .inr (0, [.int 0, .ref z, .int 0])), (q2, .inr (0, [.int 0, .ref z, .int 0])), (q3, .inr (0, [.int 0, .ref z, .int 0])), (q4, .inr (0, [.int 0, .ref z, .int 0]))]) (w1 := []) hP hD [0, 5] [1, 2, 3, 4] rfl rfl (by decide) (by decide) hk1 hFc pz_nilP pz_nilD
        have hP : va_P (dC, dI) vwCl [(q1, .inr (0, [.int 0, .ref z, .int 0])), (q2, .inr (0, [.int 0, .ref z, .int 0])), (q3, .inr (0, [.int 0, .ref z, .int 0])), (q4, .inr (0, [.int 0, .ref z, .int 0]))] H := hP
        have hD : va_D A [(q1, .inr (0, [.int 0, .ref z, .int 0])), (q2, .inr (0, [.int 0, .ref z, .int 0])), (q3, .inr (0, [.int 0, .ref z, .int 0])), (q4, .inr (0, [.int 0, .ref z, .int 0]))] := hD
        have hw : r_23 = (-4) := hw
        subst hw
        refine W.widen (k := 4) (n := 42) (by omega) (by omega) ?_
        exact W.iret (v := (-4)) hx hb hr (fun t ht hW => ⟨⟨(-4), (), rfl, (by unfold ex_call; (repeat' split) <;> first | rfl | omega), trivial⟩, hS.F ht⟩) hS.2.2 dX3_call_19

set_option maxHeartbeats 40000000 in
set_option maxRecDepth 100000 in
theorem k_X3_ticks (l : Launch) (dC : Nat → ClassId) (dI : Nat → Nat → Nat) (h0 : Nat) (q1 : Nat) (q2 : Nat) (q3 : Nat) (q4 : Nat) (q5 : Nat) (z : Nat) (cI : ClassId) (a1 : Int32) (sz : Nat) : Met l yX3_ticks wsX3_ticks ({ frames := 3, cells := 0, slots := 0, locals := 64 }) (va_Pc [.ref h0, .int a1] (pzPre (dC, dI) vwCl [(h0, .inr (4, [.ref q1, .ref q2, .ref q3, .ref q4, .ref q5, .int 0, .int 0, .int 3, .int 20, .int 0, .int 0, .int 0, .int 0])), (q1, .inr (0, [.int 0, .ref z, .int 0])), (q3, .inr (0, [.int 0, .ref z, .int 0])), (q4, .inr (0, [.int 0, .ref z, .int 0])), (q5, .inl (cI, 7, .inl (fun _ => 0)))] [(cI, .int)] sz)) (va_Qi (fun (r : Int32) (_ : Unit) => r = ex_ticks a1) (fun _ _ => True) (va_A [(h0, .inr (4, [.ref q1, .ref q2, .ref q3, .ref q4, .ref q5, .int 0, .int 0, .int 3, .int 20, .int 0, .int 0, .int 0, .int 0])), (q1, .inr (0, [.int 0, .ref z, .int 0])), (q3, .inr (0, [.int 0, .ref z, .int 0])), (q4, .inr (0, [.int 0, .ref z, .int 0])), (q5, .inl (cI, 7, .inl (fun _ => 0)))] sz)) 0 0 (va_A [(h0, .inr (4, [.ref q1, .ref q2, .ref q3, .ref q4, .ref q5, .int 0, .int 0, .int 3, .int 20, .int 0, .int 0, .int 0, .int 0])), (q1, .inr (0, [.int 0, .ref z, .int 0])), (q3, .inr (0, [.int 0, .ref z, .int 0])), (q4, .inr (0, [.int 0, .ref z, .int 0])), (q5, .inl (cI, 7, .inl (fun _ => 0)))] sz) := by
  refine Met.ofW (cc := cX3_ticks) (maxL := 5) (ret := (some .int)) (by decide) rfl ?_
  intro p e s m args below meth c s₁ B hml hv
  obtain ⟨rfl, hsz, hP, hK, hD0⟩ := hv
  have hx := B.exec
  have hb := B.bytes
  have hr := B.returns
  have hts := atoms_spec (ws := wsX3_ticks) B.pre
  have hown : s.vm.findClass RX3 = some m.cls := findClass_of_methodNamed B.named
  have hlocks := B.notSynchronized
  subst hsz
  have hD := hD0.self (sz := s.heap.size)
  generalize hAe : va_A [(h0, .inr (4, [.ref q1, .ref q2, .ref q3, .ref q4, .ref q5, .int 0, .int 0, .int 3, .int 20, .int 0, .int 0, .int 0, .int 0])), (q1, .inr (0, [.int 0, .ref z, .int 0])), (q3, .inr (0, [.int 0, .ref z, .int 0])), (q4, .inr (0, [.int 0, .ref z, .int 0])), (q5, .inl (cI, 7, .inl (fun _ => 0)))] s.heap.size = A at hD ⊢
  have hA : ∀ q : Nat, s.heap.size ≤ q → A q := fun q h => by rw [← hAe]; exact Or.inr h
  have hS : va_S A s.heap s.heap [] := va_S.rf
  have hP : va_P (dC, dI) vwCl [(h0, .inr (4, [.ref q1, .ref q2, .ref q3, .ref q4, .ref q5, .int 0, .int 0, .int 3, .int 20, .int 0, .int 0, .int 0, .int 0])), (q1, .inr (0, [.int 0, .ref z, .int 0])), (q3, .inr (0, [.int 0, .ref z, .int 0])), (q4, .inr (0, [.int 0, .ref z, .int 0])), (q5, .inl (cI, 7, .inl (fun _ => 0)))] s.heap := hP
  have hl := lv_entry ([.ref h0, .int a1]) (n := 5) (Nat.le_of_ble_eq_true rfl)
  rw [lg_entry_eq]
  generalize (lg_sl ([.ref h0, .int a1]) ++ List.replicate (5 - (lg_sl ([.ref h0, .int a1])).length) Slot.unset).toArray = ls at hl ⊢
  have hl : lv_has ls 5 [(0, .ref h0), (1, .int a1)] := hl
  refine lv_iload_n hx hb dX3_ticks_0 rfl (lv_at hl 1 rfl) ?_
  refine lv_iconst (v := 1) hx hb dX3_ticks_1 (by decide) ?_
  refine lv_sipush (v := 20000) hx hb dX3_ticks_2 (by decide) ?_
  refine lv_aload_n hx hb dX3_ticks_5 rfl (lv_at hl 0 rfl) ?_
  refine va_get (D := (dC, dI)) (ci := 4) (v := .int 0) (C := RX3) (T := TX3) (N := 13) hx hb hts (fun _ h => List.mem_cons_of_mem _ (List.mem_append_left _ (List.mem_append_left _ (List.mem_append_left _ (List.mem_append_left _ (List.mem_append_right _ h)))))) hown hK hP 0 rfl rfl 5 (by decide) (hts (.fieldLink RX3 95 "FrontDoor" "tick" "I") (by decide +kernel)) (fun _ h9 => h9) rfl dX3_ticks_6 ?_
  refine lv_isub hx hb dX3_ticks_9 ?_
  refine lv_topi (fun x_1 ex_1 => ?_)
  obtain rfl : x_1 = 20000 := ex_1.trans (by decide)
  have hPc := hP.sub (ws' := []) [] rfl
  have hDc := hD.sub (ws' := []) [] (by decide) rfl
  have hKc := hK.sub (tys' := []) [] rfl
  have hFc := pz_f hA hS
  refine va_calli (va_runS (As := [.int a1, .int 1, .int 20000]) (rest := []) ⟨hx, hb, hml, hown, hts⟩ (k_X3_faultOf l dC dI a1 1 20000 s.heap.size) (va_cwS 3 hts gX3_ticks_X3_faultOf rfl rfl rfl (by decide +kernel) ⟨Nat.le_of_ble_eq_true rfl, Nat.le_of_ble_eq_true rfl⟩) ⟨pz_blind, fun U hU hW => ⟨rfl, pz_at hPc hKc hDc hU hW⟩⟩ rfl rfl hl.1 rfl (lv_room (Nat.le_of_ble_eq_true rfl)) dX3_ticks_10 ⟨Nat.le_of_ble_eq_true rfl, Nat.le_of_ble_eq_true rfl⟩) hS (fun q _ h => hFc q h) hFc (fun r_2 u t H locs ht hvm hw hB hz1 hk1 hS => ?_)
  have hP := pz_keep hP hk1
  rcases hw with ⟨f_2_0, hr9⟩ | ⟨f_2_0, f_2_1, hr9⟩ | ⟨f_2_0, f_2_1, hr9⟩
  · skip
    have hr9 : r_2 = (-4) := hr9
    subst hr9
    have f_2_0 : a1.toInt < 1 := f_2_0
    refine lv_istore_n (lv' := [(2, .int (-4)), (0, .ref h0), (1, .int a1)]) hx hb dX3_ticks_13 rfl hl (by decide) rfl (fun ls hl => ?_)
    refine lv_iload_n hx hb dX3_ticks_14 rfl (lv_at hl 0 rfl) ?_
    refine lv_if_eq (tgt := 24) hx hb dX3_ticks_15 (by decide) (fun c_3 => absurd c_3 (by decide)) (fun c_3 => ?_)
    refine lv_aload_n hx hb dX3_ticks_18 rfl (lv_at hl 1 rfl) ?_
    refine lv_iload_n hx hb dX3_ticks_19 rfl (lv_at hl 0 rfl) ?_
    have hPc := hP.sub (ws' := [(h0, .inr (4, [.ref q1, .ref q2, .ref q3, .ref q4, .ref q5, .int 0, .int 0, .int 3, .int 20, .int 0, .int 0, .int 0, .int 0])), (q5, .inl (cI, 7, .inl (fun _ => 0)))]) [0, 4] rfl
    have hDc := hD.sub (ws' := [(h0, .inr (4, [.ref q1, .ref q2, .ref q3, .ref q4, .ref q5, .int 0, .int 0, .int 3, .int 20, .int 0, .int 0, .int 0, .int 0])), (q5, .inl (cI, 7, .inl (fun _ => 0)))]) [0, 4] (by decide) rfl
    have hKc := hK.sub (tys' := [(cI, .int)]) [0] rfl
    have hFc := va_free (wc := [(h0, .inr (4, [.ref q1, .ref q2, .ref q3, .ref q4, .ref q5, .int 0, .int 0, .int 3, .int 20, .int 0, .int 0, .int 0, .int 0])), (q5, .inl (cI, 7, .inl (fun _ => 0)))]) hD hS hA [0, 4] rfl
    refine va_calli (va_runV (As := [.int (-4)]) (rest := []) ⟨hx, hb, hml, hown, hts⟩ (k_X3_refuse4 l dC dI h0 q1 q2 q3 q4 q5 cI 0 H.size) (cwV 1 hts gX3_ticks_X3_refuse rfl rfl rfl (by decide +kernel) ⟨Nat.le_of_ble_eq_true rfl, Nat.le_of_ble_eq_true rfl⟩) ⟨pz_blind, va_recv hKc hPc (ci := 4) (q0 := 0) rfl rfl, fun U hU hW => ⟨rfl, pz_at hPc hKc hDc hU hW⟩⟩ rfl rfl hl.1 rfl (lv_room (Nat.le_of_ble_eq_true rfl)) dX3_ticks_20 ⟨Nat.le_of_ble_eq_true rfl, Nat.le_of_ble_eq_true rfl⟩) hS (fun q _ h => hFc q h) hFc (fun r_4 u t H locs ht hvm hw hB hz1 hk1 hS => ?_)
    obtain ⟨hP, hD⟩ := va_join (wr := [(q1, .inr (0, [.int 0, .ref z, .int 0])), (q3, .inr (0, [.int 0, .ref z, .int 0])), (q4, .inr (0, [.int 0, .ref z, .int 0]))]) (w1 := []) hP hD [0, 4] [1, 2, 3] rfl rfl (by decide) (by decide) hk1 hFc pz_nilP pz_nilD
    have hP : va_P (dC, dI) vwCl [(q1, .inr (0, [.int 0, .ref z, .int 0])), (q3, .inr (0, [.int 0, .ref z, .int 0])), (q4, .inr (0, [.int 0, .ref z, .int 0]))] H := hP
    have hD : va_D A [(q1, .inr (0, [.int 0, .ref z, .int 0])), (q3, .inr (0, [.int 0, .ref z, .int 0])), (q4, .inr (0, [.int 0, .ref z, .int 0]))] := hD
    have hw : r_4 = (-4) := hw
    subst hw
    exact W.iret (v := (-4)) hx hb hr (fun t ht hW => ⟨⟨(-4), (), rfl, (by unfold ex_ticks; (repeat' split) <;> first | rfl | omega), trivial⟩, hS.F ht⟩) hS.2.2 dX3_ticks_23
  · skip
    have hr9 : r_2 = (-6) := hr9
    subst hr9
    have f_2_0 : 1 ≤ a1.toInt := f_2_0
    have f_2_1 : 20000 < a1.toInt := f_2_1
    refine lv_istore_n (lv' := [(2, .int (-6)), (0, .ref h0), (1, .int a1)]) hx hb dX3_ticks_13 rfl hl (by decide) rfl (fun ls hl => ?_)
    refine lv_iload_n hx hb dX3_ticks_14 rfl (lv_at hl 0 rfl) ?_
    refine lv_if_eq (tgt := 24) hx hb dX3_ticks_15 (by decide) (fun c_5 => absurd c_5 (by decide)) (fun c_5 => ?_)
    refine lv_aload_n hx hb dX3_ticks_18 rfl (lv_at hl 1 rfl) ?_
    refine lv_iload_n hx hb dX3_ticks_19 rfl (lv_at hl 0 rfl) ?_
    have hPc := hP.sub (ws' := [(h0, .inr (4, [.ref q1, .ref q2, .ref q3, .ref q4, .ref q5, .int 0, .int 0, .int 3, .int 20, .int 0, .int 0, .int 0, .int 0])), (q5, .inl (cI, 7, .inl (fun _ => 0)))]) [0, 4] rfl
    have hDc := hD.sub (ws' := [(h0, .inr (4, [.ref q1, .ref q2, .ref q3, .ref q4, .ref q5, .int 0, .int 0, .int 3, .int 20, .int 0, .int 0, .int 0, .int 0])), (q5, .inl (cI, 7, .inl (fun _ => 0)))]) [0, 4] (by decide) rfl
    have hKc := hK.sub (tys' := [(cI, .int)]) [0] rfl
    have hFc := va_free (wc := [(h0, .inr (4, [.ref q1, .ref q2, .ref q3, .ref q4, .ref q5, .int 0, .int 0, .int 3, .int 20, .int 0, .int 0, .int 0, .int 0])), (q5, .inl (cI, 7, .inl (fun _ => 0)))]) hD hS hA [0, 4] rfl
    refine va_calli (va_runV (As := [.int (-6)]) (rest := []) ⟨hx, hb, hml, hown, hts⟩ (k_X3_refuse6 l dC dI h0 q1 q2 q3 q4 q5 cI 0 H.size) (cwV 1 hts gX3_ticks_X3_refuse rfl rfl rfl (by decide +kernel) ⟨Nat.le_of_ble_eq_true rfl, Nat.le_of_ble_eq_true rfl⟩) ⟨pz_blind, va_recv hKc hPc (ci := 4) (q0 := 0) rfl rfl, fun U hU hW => ⟨rfl, pz_at hPc hKc hDc hU hW⟩⟩ rfl rfl hl.1 rfl (lv_room (Nat.le_of_ble_eq_true rfl)) dX3_ticks_20 ⟨Nat.le_of_ble_eq_true rfl, Nat.le_of_ble_eq_true rfl⟩) hS (fun q _ h => hFc q h) hFc (fun r_6 u t H locs ht hvm hw hB hz1 hk1 hS => ?_)
    obtain ⟨hP, hD⟩ := va_join (wr := [(q1, .inr (0, [.int 0, .ref z, .int 0])), (q3, .inr (0, [.int 0, .ref z, .int 0])), (q4, .inr (0, [.int 0, .ref z, .int 0]))]) (w1 := []) hP hD [0, 4] [1, 2, 3] rfl rfl (by decide) (by decide) hk1 hFc pz_nilP pz_nilD
    have hP : va_P (dC, dI) vwCl [(q1, .inr (0, [.int 0, .ref z, .int 0])), (q3, .inr (0, [.int 0, .ref z, .int 0])), (q4, .inr (0, [.int 0, .ref z, .int 0]))] H := hP
    have hD : va_D A [(q1, .inr (0, [.int 0, .ref z, .int 0])), (q3, .inr (0, [.int 0, .ref z, .int 0])), (q4, .inr (0, [.int 0, .ref z, .int 0]))] := hD
    have hw : r_6 = (-6) := hw
    subst hw
    exact W.iret (v := (-6)) hx hb hr (fun t ht hW => ⟨⟨(-6), (), rfl, (by unfold ex_ticks; (repeat' split) <;> first | rfl | omega), trivial⟩, hS.F ht⟩) hS.2.2 dX3_ticks_23
  · skip
    have hr9 : r_2 = 0 := hr9
    subst hr9
    have f_2_0 : 1 ≤ a1.toInt := f_2_0
    have f_2_1 : a1.toInt ≤ 20000 := f_2_1
    refine lv_istore_n (lv' := [(2, .int 0), (0, .ref h0), (1, .int a1)]) hx hb dX3_ticks_13 rfl hl (by decide) rfl (fun ls hl => ?_)
    refine lv_iload_n hx hb dX3_ticks_14 rfl (lv_at hl 0 rfl) ?_
    refine lv_if_eq (tgt := 24) hx hb dX3_ticks_15 (by decide) (fun c_7 => ?_) (fun c_7 => absurd (by decide) c_7)
    refine lv_aload_n hx hb dX3_ticks_24 rfl (lv_at hl 1 rfl) ?_
    refine va_get (D := (dC, dI)) (ci := 4) (v := .int 0) (C := RX3) (T := TX3) (N := 13) hx hb hts (fun _ h => List.mem_cons_of_mem _ (List.mem_append_left _ (List.mem_append_left _ (List.mem_append_left _ (List.mem_append_left _ (List.mem_append_right _ h)))))) hown hK hP 0 rfl rfl 12 (by decide) (hts (.fieldLink RX3 134 "FrontDoor" "endedSoFar" "I") (by decide +kernel)) (fun _ h9 => h9) rfl dX3_ticks_25 ?_
    refine lv_istore_n (lv' := [(3, .int 0), (2, .int 0), (0, .ref h0), (1, .int a1)]) hx hb dX3_ticks_28 rfl hl (by decide) rfl (fun ls hl => ?_)
    refine lv_iconst (v := 0) hx hb dX3_ticks_29 (by decide) ?_
    refine lv_istore (lv' := [(4, .int 0), (3, .int 0), (2, .int 0), (0, .ref h0), (1, .int a1)]) hx hb dX3_ticks_30 hl (by decide) rfl (fun ls hl => ?_)
    obtain ⟨N, hN, eN⟩ : ∃ N : Nat, N ≤ 20000 ∧ a1 = nI N := pz_nI (by omega) (by omega)
    subst eN
    have loop : ∀ (k j : Nat) (tk : Int32) (H : Heap) (locs : List Loc) (ls : Array Slot), j + k = N → va_P (dC, dI) vwCl [(h0, .inr (4, [.ref q1, .ref q2, .ref q3, .ref q4, .ref q5, .int tk, .int 0, .int 3, .int 20, .int 0, .int 0, .int 0, .int 0])), (q1, .inr (0, [.int 0, .ref z, .int 0])), (q3, .inr (0, [.int 0, .ref z, .int 0])), (q4, .inr (0, [.int 0, .ref z, .int 0])), (q5, .inl (cI, 7, .inl (fun _ => 0)))] H → va_D A [(h0, .inr (4, [.ref q1, .ref q2, .ref q3, .ref q4, .ref q5, .int tk, .int 0, .int 3, .int 20, .int 0, .int 0, .int 0, .int 0])), (q1, .inr (0, [.int 0, .ref z, .int 0])), (q3, .inr (0, [.int 0, .ref z, .int 0])), (q4, .inr (0, [.int 0, .ref z, .int 0])), (q5, .inl (cI, 7, .inl (fun _ => 0)))] → va_S A s.heap H locs → lv_has ls 5 [(4, .int (nI j)), (3, .int 0), (2, .int 0), (0, .ref h0), (1, .int (nI N))] → W p l e (headSpec wsX3_ticks { frames := 3, cells := 0, slots := 0, locals := 64 }).room s m ([.ref h0, .int (nI N)] : List Value).toArray below meth c H locs 0 0 (MQ below (va_Qi (fun (r : Int32) (_ : Unit) => r = ex_ticks (nI N)) (fun _ _ => True) A) ([.ref h0, .int (nI N)] : List Value).toArray s 0 0 A) (F0 m 32 ls []) := by
      intro k
      induction k with
      | zero =>
        intro j tk H locs ls hj hP hD hS hl
        refine lv_iload hx hb dX3_ticks_32 (lv_at hl 0 rfl) ?_
        refine lv_iload_n hx hb dX3_ticks_34 rfl (lv_at hl 4 rfl) ?_
        refine lv_icmp_ge (tgt := 48) hx hb dX3_ticks_35 (by decide) (fun c_8 => ?_) (fun c_8 => absurd (nI_le (by omega) (by omega)) c_8)
        refine lv_aload_n hx hb dX3_ticks_48 rfl (lv_at hl 3 rfl) ?_
        refine va_get (D := (dC, dI)) (ci := 4) (v := .int 0) (C := RX3) (T := TX3) (N := 13) hx hb hts (fun _ h => List.mem_cons_of_mem _ (List.mem_append_left _ (List.mem_append_left _ (List.mem_append_left _ (List.mem_append_left _ (List.mem_append_right _ h)))))) hown hK hP 0 rfl rfl 12 (by decide) (hts (.fieldLink RX3 134 "FrontDoor" "endedSoFar" "I") (by decide +kernel)) (fun _ h9 => h9) rfl dX3_ticks_49 ?_
        refine lv_iload_n hx hb dX3_ticks_52 rfl (lv_at hl 1 rfl) ?_
        refine lv_isub hx hb dX3_ticks_53 ?_
        refine lv_topi (fun x_9 ex_9 => ?_)
        obtain rfl : x_9 = 0 := ex_9.trans (by decide)
        exact W.iret (v := 0) hx hb hr (fun t ht hW => ⟨⟨0, (), rfl, (by unfold ex_ticks; (repeat' split) <;> first | rfl | omega), trivial⟩, hS.F ht⟩) hS.2.2 dX3_ticks_54
      | succ k ih =>
        intro j tk H locs ls hj hP hD hS hl
        refine lv_iload hx hb dX3_ticks_32 (lv_at hl 0 rfl) ?_
        refine lv_iload_n hx hb dX3_ticks_34 rfl (lv_at hl 4 rfl) ?_
        refine lv_icmp_ge (tgt := 48) hx hb dX3_ticks_35 (by decide) (fun c_10 => absurd c_10 (nI_ge (by omega) (by omega))) (fun c_10 => ?_)
        refine lv_aload_n hx hb dX3_ticks_38 rfl (lv_at hl 3 rfl) ?_
        have hPc := hP.sub (ws' := [(h0, .inr (4, [.ref q1, .ref q2, .ref q3, .ref q4, .ref q5, .int tk, .int 0, .int 3, .int 20, .int 0, .int 0, .int 0, .int 0])), (q1, .inr (0, [.int 0, .ref z, .int 0])), (q3, .inr (0, [.int 0, .ref z, .int 0])), (q4, .inr (0, [.int 0, .ref z, .int 0]))]) [0, 1, 2, 3] rfl
        have hDc := hD.sub (ws' := [(h0, .inr (4, [.ref q1, .ref q2, .ref q3, .ref q4, .ref q5, .int tk, .int 0, .int 3, .int 20, .int 0, .int 0, .int 0, .int 0])), (q1, .inr (0, [.int 0, .ref z, .int 0])), (q3, .inr (0, [.int 0, .ref z, .int 0])), (q4, .inr (0, [.int 0, .ref z, .int 0]))]) [0, 1, 2, 3] (by decide) rfl
        have hKc := hK.sub (tys' := []) [] rfl
        have hFc := va_free (wc := [(h0, .inr (4, [.ref q1, .ref q2, .ref q3, .ref q4, .ref q5, .int tk, .int 0, .int 3, .int 20, .int 0, .int 0, .int 0, .int 0])), (q1, .inr (0, [.int 0, .ref z, .int 0])), (q3, .inr (0, [.int 0, .ref z, .int 0])), (q4, .inr (0, [.int 0, .ref z, .int 0]))]) hD hS hA [0, 1, 2, 3] rfl
        refine va_callv (va_runV (As := []) (rest := []) ⟨hx, hb, hml, hown, hts⟩ (k_X3_passTick l dC dI h0 q1 q2 q3 q4 q5 z tk H.size) (cwV 0 hts gX3_ticks_X3_passTick rfl rfl rfl (by decide +kernel) ⟨Nat.le_of_ble_eq_true rfl, Nat.le_of_ble_eq_true rfl⟩) ⟨pz_blind, va_recv hKc hPc (ci := 4) (q0 := 0) rfl rfl, fun U hU hW => ⟨rfl, pz_at hPc hKc hDc hU hW⟩⟩ rfl rfl hl.1 rfl (lv_room (Nat.le_of_ble_eq_true rfl)) dX3_ticks_39 ⟨Nat.le_of_ble_eq_true rfl, Nat.le_of_ble_eq_true rfl⟩) hS (fun q _ h => hFc q h) hFc (fun u t H locs ht hvm hw hB hz1 hk1 hS => ?_)
        obtain ⟨hP1, hK1, hD1⟩ := hB
        rw [ht] at hP1
        have hK1 := va_K.moved hvm.symm hK1
        obtain ⟨hP, hD⟩ := va_join (wr := [(q5, .inl (cI, 7, .inl (fun _ => 0)))]) (w1 := [(h0, .inr (4, [.ref q1, .ref q2, .ref q3, .ref q4, .ref q5, .int (tk + 1), .int 0, .int 3, .int 20, .int 0, .int 0, .int 0, .int 0])), (q1, .inr (0, [.int 0, .ref z, .int 0])), (q3, .inr (0, [.int 0, .ref z, .int 0])), (q4, .inr (0, [.int 0, .ref z, .int 0]))]) hP hD [0, 1, 2, 3] [4] rfl rfl (by decide) (by decide) hk1 hFc hP1 hD1
        have hK := hK.app hK1
        have hK : va_K (dC, dI) vwCl [(cI, .int)] s := hK
        have hP : va_P (dC, dI) vwCl [(q5, .inl (cI, 7, .inl (fun _ => 0))), (h0, .inr (4, [.ref q1, .ref q2, .ref q3, .ref q4, .ref q5, .int (tk + 1), .int 0, .int 3, .int 20, .int 0, .int 0, .int 0, .int 0])), (q1, .inr (0, [.int 0, .ref z, .int 0])), (q3, .inr (0, [.int 0, .ref z, .int 0])), (q4, .inr (0, [.int 0, .ref z, .int 0]))] H := hP
        have hD : va_D A [(q5, .inl (cI, 7, .inl (fun _ => 0))), (h0, .inr (4, [.ref q1, .ref q2, .ref q3, .ref q4, .ref q5, .int (tk + 1), .int 0, .int 3, .int 20, .int 0, .int 0, .int 0, .int 0])), (q1, .inr (0, [.int 0, .ref z, .int 0])), (q3, .inr (0, [.int 0, .ref z, .int 0])), (q4, .inr (0, [.int 0, .ref z, .int 0]))] := hD
        refine W.eq (g2 := F0 m 42 ls []) rfl ?_
        obtain ⟨y_12, ey_12⟩ : ∃ y : Int32, y = (nI j) + 1 := ⟨_, rfl⟩
        refine lv_iinc (v := y_12) (lv' := [(4, .int y_12), (3, .int 0), (2, .int 0), (0, .ref h0), (1, .int (nI N))]) hx hb dX3_ticks_42 hl (k := 0) rfl (by rw [ey_12]; rfl) (by decide) rfl (fun ls hl => ?_)
        refine lv_goto (tgt := 32) hx hb dX3_ticks_45 (by decide) ?_
        have e9 : y_12 = nI (j + 1) := ey_12.trans (nI_1 j)
        subst e9
        exact ih (j + 1) ((tk + 1)) _ _ ls (by omega) (hP.sub [1, 2, 3, 4, 0] rfl) (hD.sub [1, 2, 3, 4, 0] (by decide) rfl) hS hl
    exact loop N 0 0 _ _ ls (by omega) hP hD hS hl
