set_option maxHeartbeats 40000000 in
set_option maxRecDepth 100000 in
theorem m_X4_answer (l : Launch) (dC : Nat → ClassId) (dI : Nat → Nat → Nat) (h0 : Nat) (R : Nat → Nat) (C : Nat → ClassId) (I : Nat → Int32) (F : Nat → Nat → Int32) (sj : Nat) (sz : Nat) (hsj : sj < 8) : Met l yX4_answer wsX4_answer ({ frames := 0, cells := 0, slots := 0, locals := 0 }) (va_Pc [.ref h0, .int (nI sj)] (pzPre (dC, dI) vwCl (gW h0 R C I F) (gT C) sz)) (va_Qv (fun (u : (Nat → Int32) × (Nat → Nat → Int32)) => u.1 = I ∧ (∀ k, k < 20 ∨ 24 < k → k ≠ 17 → u.2 k = F k) ∧ ∀ s, gDr (u.2 17 s) ↔ gDr (F 17 s)) (fun (u : (Nat → Int32) × (Nat → Nat → Int32)) (t : State) => va_P (dC, dI) vwCl (gW h0 R C u.1 u.2) t.heap ∧ va_K (dC, dI) vwCl (gT C) t ∧ va_D (va_A (gW h0 R C I F) sz) (gW h0 R C u.1 u.2)) (va_A (gW h0 R C I F) sz)) 0 0 (va_A (gW h0 R C I F) sz) := by
  refine Met.ofW (cc := cX4_answer) (maxL := 2) (ret := none) (by decide) rfl ?_
  intro p e s m args below meth c s₁ B hml hv
  obtain ⟨rfl, hsz, hP, hK, hD0⟩ := hv
  have hx := B.exec
  have hb := B.bytes
  have hr := B.returns
  have hts := atoms_spec (ws := wsX4_answer) B.pre
  have hown : s.vm.findClass RX4 = some m.cls := findClass_of_methodNamed B.named
  have hlocks := B.notSynchronized
  subst hsz
  have hD := hD0.self (sz := s.heap.size)
  generalize hAe : va_A (gW h0 R C I F) s.heap.size = A at hD ⊢
  have hA : ∀ q : Nat, s.heap.size ≤ q → A q := fun q h => by rw [← hAe]; exact Or.inr h
  have hS : va_S A s.heap s.heap [] := va_S.rf
  have hP : va_P (dC, dI) vwCl (gW h0 R C I F) s.heap := hP
  have hl := lv_entry ([.ref h0, .int (nI sj)]) (n := 2) (Nat.le_of_ble_eq_true rfl)
  rw [lg_entry_eq]
  generalize (lg_sl ([.ref h0, .int (nI sj)]) ++ List.replicate (2 - (lg_sl ([.ref h0, .int (nI sj)])).length) Slot.unset).toArray = ls at hl ⊢
  have hl : lv_has ls 2 [(0, .ref h0), (1, .int (nI sj))] := hl
  refine lv_aload_n hx hb dX4_answer_0 rfl (lv_at hl 0 rfl) ?_
  refine va_get (D := (dC, dI)) (ci := 5) (v := .ref (R 20)) (C := RX4) (T := TX4) (N := 43) hx hb hts (fun _ h => List.mem_cons_of_mem _ (List.mem_append_right _ h)) hown hK hP 0 rfl rfl 20 (by decide) (hts (.fieldLink RX4 47 "FrontDoorModel" "answers" "[I") (by decide +kernel)) (fun _ h9 => h9) rfl dX4_answer_1 ?_
  refine lv_iload_n hx hb dX4_answer_4 rfl (lv_at hl 1 rfl) ?_
  refine lv_dup2_11 hx hb dX4_answer_5 rfl rfl ?_
  refine va_iald hx hb hK hP 11 10 rfl rfl (vp_in_nI (by omega) (by decide)) dX4_answer_6 ?_
  refine lv_topi (fun x_1 ex_1 => ?_)
  replace ex_1 : x_1 = (F 20) (Int32.toNatClampNeg (nI sj)) := ex_1
  refine lv_iconst (v := 1) hx hb dX4_answer_7 (by decide) ?_
  refine lv_iadd hx hb dX4_answer_8 ?_
  refine lv_topi (fun x_2 ex_2 => ?_)
  refine va_iast hx hb hK hP hD hS 11 10 rfl rfl (vp_in_nI (by omega) (by decide)) dX4_answer_9 (fun H locs hP hD hS => ?_)
  have hP : va_P (dC, dI) vwCl (gW h0 R C I (va_up F 20 (upd (F 20) (Int32.toNatClampNeg (nI sj)) x_2))) H := hP
  have hD : va_D A (gW h0 R C I (va_up F 20 (upd (F 20) (Int32.toNatClampNeg (nI sj)) x_2))) := hD
  refine lv_aload_n hx hb dX4_answer_10 rfl (lv_at hl 0 rfl) ?_
  refine va_get (D := (dC, dI)) (ci := 5) (v := .ref (R 22)) (C := RX4) (T := TX4) (N := 43) hx hb hts (fun _ h => List.mem_cons_of_mem _ (List.mem_append_right _ h)) hown hK hP 0 rfl rfl 22 (by decide) (hts (.fieldLink RX4 53 "FrontDoorModel" "row" "[I") (by decide +kernel)) (fun _ h9 => h9) rfl dX4_answer_11 ?_
  refine lv_iload_n hx hb dX4_answer_14 rfl (lv_at hl 1 rfl) ?_
  refine lv_iconst (v := 0) hx hb dX4_answer_15 (by decide) ?_
  refine va_iast hx hb hK hP hD hS 13 12 rfl rfl (vp_in_nI (by omega) (by decide)) dX4_answer_16 (fun H locs hP hD hS => ?_)
  have hP : va_P (dC, dI) vwCl (gW h0 R C I (va_up (va_up F 20 (upd (F 20) (Int32.toNatClampNeg (nI sj)) x_2)) 22 (upd (F 22) (Int32.toNatClampNeg (nI sj)) 0))) H := hP
  have hD : va_D A (gW h0 R C I (va_up (va_up F 20 (upd (F 20) (Int32.toNatClampNeg (nI sj)) x_2)) 22 (upd (F 22) (Int32.toNatClampNeg (nI sj)) 0))) := hD
  refine lv_aload_n hx hb dX4_answer_17 rfl (lv_at hl 0 rfl) ?_
  refine va_get (D := (dC, dI)) (ci := 5) (v := .ref (R 24)) (C := RX4) (T := TX4) (N := 43) hx hb hts (fun _ h => List.mem_cons_of_mem _ (List.mem_append_right _ h)) hown hK hP 0 rfl rfl 24 (by decide) (hts (.fieldLink RX4 59 "FrontDoorModel" "penalty" "[I") (by decide +kernel)) (fun _ h9 => h9) rfl dX4_answer_18 ?_
  refine lv_iload_n hx hb dX4_answer_21 rfl (lv_at hl 1 rfl) ?_
  refine lv_bipush (v := 10) hx hb dX4_answer_22 (by decide) ?_
  refine va_iast hx hb hK hP hD hS 15 14 rfl rfl (vp_in_nI (by omega) (by decide)) dX4_answer_24 (fun H locs hP hD hS => ?_)
  have hP : va_P (dC, dI) vwCl (gW h0 R C I (va_up (va_up (va_up F 20 (upd (F 20) (Int32.toNatClampNeg (nI sj)) x_2)) 22 (upd (F 22) (Int32.toNatClampNeg (nI sj)) 0)) 24 (upd (F 24) (Int32.toNatClampNeg (nI sj)) 10))) H := hP
  have hD : va_D A (gW h0 R C I (va_up (va_up (va_up F 20 (upd (F 20) (Int32.toNatClampNeg (nI sj)) x_2)) 22 (upd (F 22) (Int32.toNatClampNeg (nI sj)) 0)) 24 (upd (F 24) (Int32.toNatClampNeg (nI sj)) 10))) := hD
  refine lv_aload_n hx hb dX4_answer_25 rfl (lv_at hl 0 rfl) ?_
  refine va_get (D := (dC, dI)) (ci := 5) (v := .ref (R 17)) (C := RX4) (T := TX4) (N := 43) hx hb hts (fun _ h => List.mem_cons_of_mem _ (List.mem_append_right _ h)) hown hK hP 0 rfl rfl 17 (by decide) (hts (.fieldLink RX4 38 "FrontDoorModel" "health" "[I") (by decide +kernel)) (fun _ h9 => h9) rfl dX4_answer_26 ?_
  refine lv_iload_n hx hb dX4_answer_29 rfl (lv_at hl 1 rfl) ?_
  refine va_iald hx hb hK hP 8 7 rfl rfl (vp_in_nI (by omega) (by decide)) dX4_answer_30 ?_
  refine lv_topi (fun x_3 ex_3 => ?_)
  replace ex_3 : x_3 = (F 17) (Int32.toNatClampNeg (nI sj)) := ex_3
  refine lv_iconst (v := 2) hx hb dX4_answer_31 (by decide) ?_
  refine lv_icmp_ne (tgt := 42) hx hb dX4_answer_32 (by decide) (fun c_4 => ?_) (fun c_4 => ?_)
  · skip
    have i_4 : ¬ x_3.toInt = 2 := by have h9 := pz_neq c_4; exact h9
    exact W.vret hx hb hr (fun t ht hW => ⟨⟨(I, (va_up (va_up (va_up F 20 (upd (F 20) (Int32.toNatClampNeg (nI sj)) x_2)) 22 (upd (F 22) (Int32.toNatClampNeg (nI sj)) 0)) 24 (upd (F 24) (Int32.toNatClampNeg (nI sj)) 10))), rfl, (by refine ⟨rfl, fun k h1 h2 => ?_, ?_⟩; { simp only [va_up]; (repeat' split) <;> first | rfl | (exfalso; omega) }; { first | exact fun s => Iff.rfl | (subst_vars; exact gd_upd (by first | exact gd_n2 (by assumption)) gd_0) }), by rw [ht]; exact hP, va_K.moved hW.alike hK, hD⟩, hS.F ht⟩) hS.2.2 dX4_answer_42
  · skip
    have i_4 : x_3.toInt = 2 := by have h9 := pz_eq c_4; exact h9
    refine lv_aload_n hx hb dX4_answer_35 rfl (lv_at hl 0 rfl) ?_
    refine va_get (D := (dC, dI)) (ci := 5) (v := .ref (R 17)) (C := RX4) (T := TX4) (N := 43) hx hb hts (fun _ h => List.mem_cons_of_mem _ (List.mem_append_right _ h)) hown hK hP 0 rfl rfl 17 (by decide) (hts (.fieldLink RX4 38 "FrontDoorModel" "health" "[I") (by decide +kernel)) (fun _ h9 => h9) rfl dX4_answer_36 ?_
    refine lv_iload_n hx hb dX4_answer_39 rfl (lv_at hl 1 rfl) ?_
    refine lv_iconst (v := 0) hx hb dX4_answer_40 (by decide) ?_
    refine va_iast hx hb hK hP hD hS 8 7 rfl rfl (vp_in_nI (by omega) (by decide)) dX4_answer_41 (fun H locs hP hD hS => ?_)
    have hP : va_P (dC, dI) vwCl (gW h0 R C I (va_up (va_up (va_up (va_up F 17 (upd (F 17) (Int32.toNatClampNeg (nI sj)) 0)) 20 (upd (F 20) (Int32.toNatClampNeg (nI sj)) x_2)) 22 (upd (F 22) (Int32.toNatClampNeg (nI sj)) 0)) 24 (upd (F 24) (Int32.toNatClampNeg (nI sj)) 10))) H := hP
    have hD : va_D A (gW h0 R C I (va_up (va_up (va_up (va_up F 17 (upd (F 17) (Int32.toNatClampNeg (nI sj)) 0)) 20 (upd (F 20) (Int32.toNatClampNeg (nI sj)) x_2)) 22 (upd (F 22) (Int32.toNatClampNeg (nI sj)) 0)) 24 (upd (F 24) (Int32.toNatClampNeg (nI sj)) 10))) := hD
    exact W.vret hx hb hr (fun t ht hW => ⟨⟨(I, (va_up (va_up (va_up (va_up F 17 (upd (F 17) (Int32.toNatClampNeg (nI sj)) 0)) 20 (upd (F 20) (Int32.toNatClampNeg (nI sj)) x_2)) 22 (upd (F 22) (Int32.toNatClampNeg (nI sj)) 0)) 24 (upd (F 24) (Int32.toNatClampNeg (nI sj)) 10))), rfl, (by refine ⟨rfl, fun k h1 h2 => ?_, ?_⟩; { simp only [va_up]; (repeat' split) <;> first | rfl | (exfalso; omega) }; { first | exact fun s => Iff.rfl | (subst_vars; exact gd_upd (by first | exact gd_n2 (by assumption)) gd_0) }), by rw [ht]; exact hP, va_K.moved hW.alike hK, hD⟩, hS.F ht⟩) hS.2.2 dX4_answer_42
