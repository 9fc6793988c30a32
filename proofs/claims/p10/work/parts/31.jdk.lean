abbrev B_q_J3 (A : Nat → Prop) (P : Heap → Prop) (i : Nat) (n : Nat) : Option Value → Heap → Prop := fun v H => v = some (.int (nI i)) ∧ P H
set_option maxHeartbeats 8000000 in
set_option maxRecDepth 20000 in
theorem q_J3 (l : Launch) (A : Nat → Prop) (P : Heap → Prop) (i : Nat) (n : Nat) (hi : i < n) (hn : n < 1000) : Met l yJ3_checkIndex_8e157 (cws yJ3_checkIndex_8e157 cJ3_checkIndex_8e157 3 (some .int)) { frames := 0, cells := 0, slots := 0, locals := 0 } (va_Pc [.int (nI i), .int (nI n), .null] (fun U => True ∧ P U.heap)) (Qg (B_q_J3 A P i n) A) 0 0 A := by
  refine m_start (KK := fun _ => True) (Pw := P) (by decide) (Nat.le_of_ble_eq_true rfl) ?_
  intro p e9 s m9 below meth c ls S hr hlocks hin hK hW hS hl
  obtain ⟨hx, hb, hml, hown, hts⟩ := id S
  have hl : lv_has ls 3 [(0, .int (nI i)), (1, .int (nI n)), (2, .null)] := hl
  have en_i : (nI i).toInt = ((i : Nat) : Int) := pz_ti (by omega)
  have en_n : (nI n).toInt = ((n : Nat) : Int) := pz_ti (by omega)
  refine lv_iload_n hx hb dJ3_checkIndex_8e157_0 rfl (lv_at hl 0 rfl) ?_
  refine lv_if_lt (tgt := 9) hx hb dJ3_checkIndex_8e157_1 (by decide) (fun c_1 => ?_) (fun c_1 => ?_)
  · skip
    have i_1 : (nI i).toInt < 0 := by have h9 := pz_lt c_1; exact h9
    exfalso
    omega
  · skip
    have i_1 : (nI i).toInt ≥ 0 := by have h9 := pz_nlt c_1; exact h9
    refine lv_iload_n hx hb dJ3_checkIndex_8e157_4 rfl (lv_at hl 0 rfl) ?_
    refine lv_iload_n hx hb dJ3_checkIndex_8e157_5 rfl (lv_at hl 1 rfl) ?_
    refine lv_icmp_lt (tgt := 16) hx hb dJ3_checkIndex_8e157_6 (by decide) (fun c_2 => ?_) (fun c_2 => ?_)
    · skip
      have i_2 : (nI i).toInt < (nI n).toInt := by have h9 := pz_lt c_2; exact h9
      refine lv_iload_n hx hb dJ3_checkIndex_8e157_16 rfl (lv_at hl 0 rfl) ?_
      exact r_i (v := (nI i)) hx hb hr hlocks hS dJ3_checkIndex_8e157_17 (⟨rfl, hW⟩)
    · skip
      have i_2 : (nI i).toInt ≥ (nI n).toInt := by have h9 := pz_nlt c_2; exact h9
      exfalso
      omega

abbrev B_q_J15 (A : Nat → Prop) (P : Heap → Prop) (i : Nat) (n : Nat) : Option Value → Heap → Prop := fun v H => v = some (.int (nI i)) ∧ P H
set_option maxHeartbeats 8000000 in
set_option maxRecDepth 20000 in
theorem q_J15 (l : Launch) (A : Nat → Prop) (P : Heap → Prop) (i : Nat) (n : Nat) (hi : i < n) (hn : n < 1000) : Met l yJ15_checkIndex_7cf53 (cws yJ15_checkIndex_7cf53 cJ15_checkIndex_7cf53 2 (some .int)) { frames := 1, cells := 0, slots := 0, locals := 22 } (va_Pc [.int (nI i), .int (nI n)] (fun U => True ∧ P U.heap)) (Qg (B_q_J15 A P i n) A) 0 0 A := by
  refine m_start (KK := fun _ => True) (Pw := P) (by decide) (Nat.le_of_ble_eq_true rfl) ?_
  intro p e9 s m9 below meth c ls S hr hlocks hin hK hW hS hl
  obtain ⟨hx, hb, hml, hown, hts⟩ := id S
  have hl : lv_has ls 2 [(0, .int (nI i)), (1, .int (nI n))] := hl
  have en_i : (nI i).toInt = ((i : Nat) : Int) := pz_ti (by omega)
  have en_n : (nI n).toInt = ((n : Nat) : Int) := pz_ti (by omega)
  refine lv_iload_n hx hb dJ15_checkIndex_7cf53_0 rfl (lv_at hl 0 rfl) ?_
  refine lv_iload_n hx hb dJ15_checkIndex_7cf53_1 rfl (lv_at hl 1 rfl) ?_
  refine lv_null hx hb dJ15_checkIndex_7cf53_2 ?_
  refine c_s (Pw := P) (n := 3) (As := [.int (nI i), .int (nI n), .null]) (rest := []) S (q_J3 l A P i n (by omega) (by omega)) iw_299 iw_297 iw_298 iw_68 (by decide +kernel) rfl ⟨rfl, rfl, Nat.le_of_ble_eq_true rfl, Nat.le_of_ble_eq_true rfl⟩ (fun _ _ _ _ _ => trivial) (fun _ _ _ => trivial) hW hl.1 rfl (Nat.le_of_ble_eq_true rfl) dJ15_checkIndex_7cf53_3 ⟨by decide, by decide⟩ hS (fun _ h9 => h9) (fun v9 H locs hB hz9 hk9 hS => ?_)
  refine W.widen (k := 0) (n := 0) (Nat.le_refl _) (Nat.le_refl _) ?_
  obtain ⟨rfl, hW⟩ := hB
  refine W.eq (g2 := F0 m9 6 ls [.int (nI i)]) rfl ?_
  exact r_i (v := (nI i)) hx hb hr hlocks hS dJ15_checkIndex_7cf53_6 (⟨rfl, hW⟩)

abbrev B_q_newLength (A : Nat → Prop) (P : Heap → Prop) (a : Nat) (b : Nat) (d : Nat) : Option Value → Heap → Prop := fun v H => v = some (.int (nI (a + max b d))) ∧ P H
set_option maxHeartbeats 8000000 in
set_option maxRecDepth 20000 in
theorem q_newLength (l : Launch) (A : Nat → Prop) (P : Heap → Prop) (a : Nat) (b : Nat) (d : Nat) (hb1 : 0 < b) (hs9 : a + b + d < 5000) : Met l yJ8_newLength_cabcc (cws yJ8_newLength_cabcc cJ8_newLength_cabcc 4 (some .int)) { frames := 1, cells := 0, slots := 0, locals := 14 } (va_Pc [.int (nI a), .int (nI b), .int (nI d)] (fun U => True ∧ P U.heap)) (Qg (B_q_newLength A P a b d) A) 0 0 A := by
  refine m_start (KK := fun _ => True) (Pw := P) (by decide) (Nat.le_of_ble_eq_true rfl) ?_
  intro p e9 s m9 below meth c ls S hr hlocks hin hK hW hS hl
  obtain ⟨hx, hb, hml, hown, hts⟩ := id S
  have hl : lv_has ls 4 [(0, .int (nI a)), (1, .int (nI b)), (2, .int (nI d))] := hl
  have en_a : (nI a).toInt = ((a : Nat) : Int) := pz_ti (by omega)
  have en_b : (nI b).toInt = ((b : Nat) : Int) := pz_ti (by omega)
  have en_d : (nI d).toInt = ((d : Nat) : Int) := pz_ti (by omega)
  refine lv_iload_n hx hb dJ8_newLength_cabcc_0 rfl (lv_at hl 0 rfl) ?_
  refine lv_iload_n hx hb dJ8_newLength_cabcc_1 rfl (lv_at hl 1 rfl) ?_
  refine lv_iload_n hx hb dJ8_newLength_cabcc_2 rfl (lv_at hl 2 rfl) ?_
  refine W.eq (g2 := F0 m9 3 ls [.int (nI d), .int (nI b), .int (nI a)]) rfl ?_
  refine va_mmax hx hb (hml.trans hl.1.symm) hown (hts _ iw_248) (hts _ iw_249) (hts _ iw_64) (hts _ iw_250) (Nat.le_of_ble_eq_true rfl) (Nat.le_of_ble_eq_true rfl) (by decide) (by decide) dJ8_newLength_cabcc_3 ?_
  refine lv_topi (fun x_1 ex_1 => ?_)
  obtain rfl : x_1 = nI (max b d) := ex_1.trans (pz_max (by omega) (by omega))
  have en_2 : (nI (max b d)).toInt = ((max b d : Nat) : Int) := pz_ti (by omega)
  refine lv_iadd hx hb dJ8_newLength_cabcc_6 ?_
  refine lv_topi (fun x_3 ex_3 => ?_)
  obtain rfl : x_3 = nI (a + (max b d)) := ex_3.trans (nI_add a (max b d))
  have en_4 : (nI (a + (max b d))).toInt = ((a + (max b d) : Nat) : Int) := pz_ti (by omega)
  refine lv_istore_n (lv' := [(3, .int (nI (a + (max b d)))), (0, .int (nI a)), (1, .int (nI b)), (2, .int (nI d))]) hx hb dJ8_newLength_cabcc_7 rfl hl (by decide) rfl (fun ls hl => ?_)
  refine lv_iconst (v := 0) hx hb dJ8_newLength_cabcc_8 (by decide) ?_
  refine lv_iload_n hx hb dJ8_newLength_cabcc_9 rfl (lv_at hl 0 rfl) ?_
  refine lv_icmp_ge (tgt := 21) hx hb dJ8_newLength_cabcc_10 (by decide) (fun c_5 => ?_) (fun c_5 => ?_)
  · skip
    have i_5 : 0 ≥ (nI (a + (max b d))).toInt := by have h9 := pz_ge c_5; exact h9
    exfalso
    omega
  · skip
    have i_5 : 0 < (nI (a + (max b d))).toInt := by have h9 := pz_nge c_5; exact h9
    refine lv_iload_n hx hb dJ8_newLength_cabcc_13 rfl (lv_at hl 0 rfl) ?_
    refine lv_ldc hx hb hown (hts _ iw_251) dJ8_newLength_cabcc_14 ?_
    refine lv_icmp_gt (tgt := 21) hx hb dJ8_newLength_cabcc_16 (by decide) (fun c_6 => ?_) (fun c_6 => ?_)
    · skip
      have i_6 : (nI (a + (max b d))).toInt > 2147483639 := by have h9 := pz_gt c_6; exact h9
      exfalso
      omega
    · skip
      have i_6 : (nI (a + (max b d))).toInt ≤ 2147483639 := by have h9 := pz_ngt c_6; exact h9
      refine lv_iload_n hx hb dJ8_newLength_cabcc_19 rfl (lv_at hl 0 rfl) ?_
      exact r_i (v := (nI (a + (max b d)))) hx hb hr hlocks hS dJ8_newLength_cabcc_20 (⟨rfl, hW⟩)

abbrev B_q_copy3 (dC : Nat → ClassId) (dI : Nat → Nat → Nat) (z : Nat) (mi : Nat) (A : Nat → Prop) (n : Nat) (f : Nat → Option Nat) (x : Nat) (q : Nat) (e : Nat) (sz : Nat) (m : Int32) (N : Nat) : Option Value → Heap → Prop := fun v H => ∃ (r : Nat) (g : Nat → Option Nat), v = some (.ref r) ∧ (∀ t, t < n → g t = f t) ∧ va_P (dC, dI) vwCl [(q, .inr (0, [.int m, .ref e, .int (nI n)])), (e, .inl (dC 8, n, .inr (.inr (.inr (.inr f))))), (r, .inl (dC 8, N, .inr (.inr (.inr (.inr g)))))] H ∧ va_D A [(q, .inr (0, [.int m, .ref e, .int (nI n)])), (e, .inl (dC 8, n, .inr (.inr (.inr (.inr f))))), (r, .inl (dC 8, N, .inr (.inr (.inr (.inr g)))))]
set_option maxHeartbeats 8000000 in
set_option maxRecDepth 20000 in
theorem q_copy3 (l : Launch) (dC : Nat → ClassId) (dI : Nat → Nat → Nat) (z : Nat) (mi : Nat) (A : Nat → Prop) (n : Nat) (f : Nat → Option Nat) (x : Nat) (q : Nat) (e : Nat) (sz : Nat) (m : Int32) (N : Nat) (hA : ∀ y, sz ≤ y → A y) (hn : n ≤ N) (hN : N ≤ 610) : Met l yJ7_copyOf_6403c (cws yJ7_copyOf_6403c cJ7_copyOf_6403c 4 (some (.array (.object "java/lang/Object")))) { frames := 1, cells := 1, slots := 610, locals := 60 } (va_Pc [.ref e, .int (nI N), .ref mi] (fun U => KL dC dI z mi A n f x U ∧ (fun H => H.size = sz ∧ va_P (dC, dI) vwCl [(q, .inr (0, [.int m, .ref e, .int (nI n)])), (e, .inl (dC 8, n, .inr (.inr (.inr (.inr f)))))] H ∧ va_D A [(q, .inr (0, [.int m, .ref e, .int (nI n)])), (e, .inl (dC 8, n, .inr (.inr (.inr (.inr f)))))]) U.heap)) (Qg (B_q_copy3 dC dI z mi A n f x q e sz m N) A) 1 610 A := by
  refine m_start (KK := KL dC dI z mi A n f x) (Pw := (fun H => H.size = sz ∧ va_P (dC, dI) vwCl [(q, .inr (0, [.int m, .ref e, .int (nI n)])), (e, .inl (dC 8, n, .inr (.inr (.inr (.inr f)))))] H ∧ va_D A [(q, .inr (0, [.int m, .ref e, .int (nI n)])), (e, .inl (dC 8, n, .inr (.inr (.inr (.inr f)))))])) (by decide) (Nat.le_of_ble_eq_true rfl) ?_
  intro p e9 s m9 below meth c ls S hr hlocks hin hKL hW hS hl
  obtain ⟨hx, hb, hml, hown, hts⟩ := id S
  have hK := hKL.1
  obtain ⟨hsz, hP, hD⟩ := hW
  subst hsz
  have hl : lv_has ls 4 [(0, .ref e), (1, .int (nI N)), (2, .ref mi)] := hl
  have en_N : (nI N).toInt = ((N : Nat) : Int) := pz_ti (by omega)
  have en_n : (nI n).toInt = ((n : Nat) : Int) := pz_ti (by omega)
  refine lv_aload_n hx hb dJ7_copyOf_6403c_0 rfl (lv_at hl 2 rfl) ?_
  refine va_ldcM hx hb hown (hts _ iw_271) hKL.2.2.1.1 dJ7_copyOf_6403c_1 ?_
  refine lv_acmp_ne (rx := (some mi)) (ry := (some mi)) (tgt := 13) hx hb dJ7_copyOf_6403c_3 (by decide) (fun c_1 => ?_) (fun c_1 => ?_)
  · skip
    exact absurd rfl c_1
  · skip
    refine lv_iload_n hx hb dJ7_copyOf_6403c_6 rfl (lv_at hl 1 rfl) ?_
    refine va_newq (D := (dC, dI)) (cl := vwCl) (n := (nI N)) (N' := N) hx hb hown (hts _ iw_273) hKL.2.1.2.2.1 hK hP hD hS hA (nI_pos (by omega)) (pz_cl (by omega)) (by omega) (by show _ + 1 ≤ _; decide) (by show 0 + _ ≤ 610; omega) dJ7_copyOf_6403c_7 (fun q_2 cA H hK2 hP hD hS => ?_)
    obtain rfl := hK.nq hK2
    have hP : va_P (dC, dI) vwCl [(q, .inr (0, [.int m, .ref e, .int (nI n)])), (e, .inl (dC 8, n, .inr (.inr (.inr (.inr f))))), (q_2, .inl (dC 8, N, .inr (.inr (.inr (.inr (fun _ => none))))))] H := hP
    have hD : va_D A [(q, .inr (0, [.int m, .ref e, .int (nI n)])), (e, .inl (dC 8, n, .inr (.inr (.inr (.inr f))))), (q_2, .inl (dC 8, N, .inr (.inr (.inr (.inr (fun _ => none))))))] := hD
    refine W.widen (k := 1) (n := 610) (by decide) (by omega) ?_
    refine lv_goto (tgt := 24) hx hb dJ7_copyOf_6403c_10 (by decide) ?_
    refine lv_astore_n (lv' := [(3, .ref q_2), (0, .ref e), (1, .int (nI N)), (2, .ref mi)]) hx hb dJ7_copyOf_6403c_24 rfl hl (by decide) rfl (fun ls hl => ?_)
    refine lv_aload_n hx hb dJ7_copyOf_6403c_25 rfl (lv_at hl 1 rfl) ?_
    refine lv_iconst (v := 0) hx hb dJ7_copyOf_6403c_26 (by decide) ?_
    refine lv_aload_n hx hb dJ7_copyOf_6403c_27 rfl (lv_at hl 0 rfl) ?_
    refine lv_iconst (v := 0) hx hb dJ7_copyOf_6403c_28 (by decide) ?_
    refine lv_aload_n hx hb dJ7_copyOf_6403c_29 rfl (lv_at hl 1 rfl) ?_
    refine va_alen hx hb hK hP 1 2 rfl rfl (v := nI n) rfl dJ7_copyOf_6403c_30 ?_
    refine lv_iload_n hx hb dJ7_copyOf_6403c_31 rfl (lv_at hl 2 rfl) ?_
    refine W.eq (g2 := F0 m9 32 ls [.int (nI N), .int (nI n), .int 0, .ref q_2, .int 0, .ref e]) rfl ?_
    refine va_mmin hx hb (hml.trans hl.1.symm) hown (hts _ iw_274) (hts _ iw_275) (hts _ iw_64) (hts _ iw_276) (Nat.le_of_ble_eq_true rfl) (Nat.le_of_ble_eq_true rfl) (by decide) (by decide) dJ7_copyOf_6403c_32 ?_
    refine lv_topi (fun x_3 ex_3 => ?_)
    obtain rfl : x_3 = nI (min n N) := ex_3.trans (pz_min (by omega) (by omega))
    have en_4 : (nI (min n N)).toInt = ((min n N : Nat) : Int) := pz_ti (by omega)
    refine W.eq (g2 := F0 m9 35 ls [.int (nI (min n N)), .int (nI 0), .ref q_2, .int (nI 0), .ref e]) rfl ?_
    refine va_copyM hx hb (hml.trans hl.1.symm) hown (hts _ iw_277) (hts _ iw_279) (hts _ iw_278) (hts _ iw_66) hK hP hD hS 1 2 2 2 rfl rfl rfl rfl (nI_pos (by omega)) (nI_pos (by omega)) (nI_pos (by omega)) (by rw [pz_cl (j := 0) (by omega), pz_cl (j := (min n N)) (by omega)]; omega) (by rw [pz_cl (j := 0) (by omega), pz_cl (j := (min n N)) (by omega)]; omega) (fun i9 h9 y9 e9 => pzE.at (pz_Ekept (hKL.2.2.2.1 (0 + i9) (by rw [pz_cl (j := min n N) (by omega)] at h9; omega) y9 (by rw [pz_cl (j := 0) (by omega)] at e9; exact e9)) hS)) (Nat.le_of_ble_eq_true rfl) (Nat.le_of_ble_eq_true rfl) dJ7_copyOf_6403c_35 (fun H locs hP hD hS => ?_)
    have hP : va_P (dC, dI) vwCl [(q, .inr (0, [.int m, .ref e, .int (nI n)])), (e, .inl (dC 8, n, .inr (.inr (.inr (.inr f))))), (q_2, .inl (dC 8, N, .inr (.inr (.inr (.inr (va_cpy f (fun _ => none) (nI 0).toNatClampNeg (nI 0).toNatClampNeg (nI (min n N)).toNatClampNeg))))))] H := hP
    have hD : va_D A [(q, .inr (0, [.int m, .ref e, .int (nI n)])), (e, .inl (dC 8, n, .inr (.inr (.inr (.inr f))))), (q_2, .inl (dC 8, N, .inr (.inr (.inr (.inr (va_cpy f (fun _ => none) (nI 0).toNatClampNeg (nI 0).toNatClampNeg (nI (min n N)).toNatClampNeg))))))] := hD
    rw [pz_cl (j := 0) (by omega), pz_cl (j := (min n N)) (by omega)] at hP hD
    have hP : va_P (dC, dI) vwCl [(q, .inr (0, [.int m, .ref e, .int (nI n)])), (e, .inl (dC 8, n, .inr (.inr (.inr (.inr f))))), (q_2, .inl (dC 8, N, .inr (.inr (.inr (.inr (va_cpy f (fun _ => none) 0 0 (min n N)))))))] H := hP
    have hD : va_D A [(q, .inr (0, [.int m, .ref e, .int (nI n)])), (e, .inl (dC 8, n, .inr (.inr (.inr (.inr f))))), (q_2, .inl (dC 8, N, .inr (.inr (.inr (.inr (va_cpy f (fun _ => none) 0 0 (min n N)))))))] := hD
    refine lv_aload_n hx hb dJ7_copyOf_6403c_38 rfl (lv_at hl 0 rfl) ?_
    exact r_a (o := some q_2) hx hb hr (Or.inr ⟨_, rfl⟩) hlocks hS dJ7_copyOf_6403c_39 (⟨_, _, rfl, fun t h9 => by rw [pk_cpy_in (by omega) (by omega)]; congr 1; omega, hP, hD⟩)

abbrev B_q_copy2 (dC : Nat → ClassId) (dI : Nat → Nat → Nat) (z : Nat) (mi : Nat) (A : Nat → Prop) (n : Nat) (f : Nat → Option Nat) (x : Nat) (q : Nat) (e : Nat) (sz : Nat) (m : Int32) (N : Nat) : Option Value → Heap → Prop := fun v H => ∃ (r : Nat) (g : Nat → Option Nat), v = some (.ref r) ∧ (∀ t, t < n → g t = f t) ∧ va_P (dC, dI) vwCl [(q, .inr (0, [.int m, .ref e, .int (nI n)])), (e, .inl (dC 8, n, .inr (.inr (.inr (.inr f))))), (r, .inl (dC 8, N, .inr (.inr (.inr (.inr g)))))] H ∧ va_D A [(q, .inr (0, [.int m, .ref e, .int (nI n)])), (e, .inl (dC 8, n, .inr (.inr (.inr (.inr f))))), (r, .inl (dC 8, N, .inr (.inr (.inr (.inr g)))))]
set_option maxHeartbeats 8000000 in
set_option maxRecDepth 20000 in
theorem q_copy2 (l : Launch) (dC : Nat → ClassId) (dI : Nat → Nat → Nat) (z : Nat) (mi : Nat) (A : Nat → Prop) (n : Nat) (f : Nat → Option Nat) (x : Nat) (q : Nat) (e : Nat) (sz : Nat) (m : Int32) (N : Nat) (hA : ∀ y, sz ≤ y → A y) (hn : n ≤ N) (hN : N ≤ 610) : Met l yJ7_copyOf_1904c (cws yJ7_copyOf_1904c cJ7_copyOf_1904c 2 (some (.array (.object "java/lang/Object")))) { frames := 2, cells := 1, slots := 610, locals := 83 } (va_Pc [.ref e, .int (nI N)] (fun U => KL dC dI z mi A n f x U ∧ (fun H => H.size = sz ∧ va_P (dC, dI) vwCl [(q, .inr (0, [.int m, .ref e, .int (nI n)])), (e, .inl (dC 8, n, .inr (.inr (.inr (.inr f)))))] H ∧ va_D A [(q, .inr (0, [.int m, .ref e, .int (nI n)])), (e, .inl (dC 8, n, .inr (.inr (.inr (.inr f)))))]) U.heap)) (Qg (B_q_copy2 dC dI z mi A n f x q e sz m N) A) 1 610 A := by
  refine m_start (KK := KL dC dI z mi A n f x) (Pw := (fun H => H.size = sz ∧ va_P (dC, dI) vwCl [(q, .inr (0, [.int m, .ref e, .int (nI n)])), (e, .inl (dC 8, n, .inr (.inr (.inr (.inr f)))))] H ∧ va_D A [(q, .inr (0, [.int m, .ref e, .int (nI n)])), (e, .inl (dC 8, n, .inr (.inr (.inr (.inr f)))))])) (by decide) (Nat.le_of_ble_eq_true rfl) ?_
  intro p e9 s m9 below meth c ls S hr hlocks hin hKL hW hS hl
  obtain ⟨hx, hb, hml, hown, hts⟩ := id S
  have hK := hKL.1
  obtain ⟨hsz, hP, hD⟩ := hW
  subst hsz
  have hl : lv_has ls 2 [(0, .ref e), (1, .int (nI N))] := hl
  have en_N : (nI N).toInt = ((N : Nat) : Int) := pz_ti (by omega)
  have en_n : (nI n).toInt = ((n : Nat) : Int) := pz_ti (by omega)
  refine lv_aload_n hx hb dJ7_copyOf_1904c_0 rfl (lv_at hl 0 rfl) ?_
  refine lv_iload_n hx hb dJ7_copyOf_1904c_1 rfl (lv_at hl 1 rfl) ?_
  refine lv_aload_n hx hb dJ7_copyOf_1904c_2 rfl (lv_at hl 0 rfl) ?_
  refine va_getC (C := "[Ljava/lang/Object;") hx hb (hml.trans hl.1.symm) hown (hts _ iw_258) hKL.2.2.1.2.use (hts _ iw_960) (hts _ iw_259) (hts _ iw_267) hKL.2.2.1.1 (by obtain h9 := hP 1 _ rfl; exact ⟨_, h9, rfl, hK.name 8 (by decide)⟩) (Nat.le_of_ble_eq_true rfl) (Nat.le_of_ble_eq_true rfl) dJ7_copyOf_1904c_3 ?_
  refine c_s (Pw := fun H9 => H9.size = s.heap.size ∧ va_P (dC, dI) vwCl [(q, .inr (0, [.int m, .ref e, .int (nI n)])), (e, .inl (dC 8, n, .inr (.inr (.inr (.inr f)))))] H9 ∧ va_D A [(q, .inr (0, [.int m, .ref e, .int (nI n)])), (e, .inl (dC 8, n, .inr (.inr (.inr (.inr f)))))]) (n := 3) (As := [.ref e, .int (nI N), .ref mi]) (rest := []) S (q_copy3 l dC dI z mi A n f x q e s.heap.size m N (fun y9 h9 => hA y9 (Nat.le_trans hS.1 h9)) (by omega) (by omega)) iw_270 iw_268 iw_269 iw_65 (by decide +kernel) rfl ⟨rfl, rfl, Nat.le_of_ble_eq_true rfl, Nat.le_of_ble_eq_true rfl⟩ KL.blind (hKL.at hS) ⟨rfl, hP, hD⟩ hl.1 rfl (Nat.le_of_ble_eq_true rfl) dJ7_copyOf_1904c_6 ⟨by decide, by decide⟩ hS (fun _ h9 => h9) (fun v9 H locs hB hz9 hk9 hS => ?_)
  refine W.widen (k := 1) (n := 610) (Nat.le_refl _) (Nat.le_refl _) ?_
  obtain ⟨r_1, g_1, rfl, hg_1, hP, hD⟩ := hB
  refine W.eq (g2 := F0 m9 9 ls [.ref r_1]) rfl ?_
  have hP : va_P (dC, dI) vwCl [(q, .inr (0, [.int m, .ref e, .int (nI n)])), (e, .inl (dC 8, n, .inr (.inr (.inr (.inr f))))), (r_1, .inl (dC 8, N, .inr (.inr (.inr (.inr g_1)))))] H := hP
  have hD : va_D A [(q, .inr (0, [.int m, .ref e, .int (nI n)])), (e, .inl (dC 8, n, .inr (.inr (.inr (.inr f))))), (r_1, .inl (dC 8, N, .inr (.inr (.inr (.inr g_1)))))] := hD
  exact r_a (o := some r_1) hx hb hr (Or.inr ⟨_, rfl⟩) hlocks hS dJ7_copyOf_1904c_9 (⟨_, _, rfl, hg_1, hP, hD⟩)

abbrev B_q_grow1_o (dC : Nat → ClassId) (dI : Nat → Nat → Nat) (z : Nat) (mi : Nat) (A : Nat → Prop) (n : Nat) (f : Nat → Option Nat) (x : Nat) (q : Nat) (e : Nat) (sz : Nat) (m : Int32) : Option Value → Heap → Prop := fun v H => ∃ (r cp : Nat) (g : Nat → Option Nat), v = some (.ref r) ∧ n < cp ∧ cp ≤ 610 ∧ (∀ t, t < n → g t = f t) ∧ va_P (dC, dI) vwCl [(q, .inr (0, [.int m, .ref r, .int (nI n)])), (r, .inl (dC 8, cp, .inr (.inr (.inr (.inr g)))))] H ∧ va_D A [(q, .inr (0, [.int m, .ref r, .int (nI n)])), (r, .inl (dC 8, cp, .inr (.inr (.inr (.inr g)))))]
set_option maxHeartbeats 8000000 in
set_option maxRecDepth 20000 in
theorem q_grow1_o (l : Launch) (dC : Nat → ClassId) (dI : Nat → Nat → Nat) (z : Nat) (mi : Nat) (A : Nat → Prop) (n : Nat) (f : Nat → Option Nat) (x : Nat) (q : Nat) (e : Nat) (sz : Nat) (m : Int32) (hA : ∀ y, sz ≤ y → A y) (hn0 : 0 < n) (hn4 : n ≤ 400) : Met l yJx4a65c_grow_92f84 (cws yJx4a65c_grow_92f84 cJx4a65c_grow_92f84 4 (some (.array (.object "java/lang/Object")))) { frames := 3, cells := 1, slots := 610, locals := 104 } (va_Pc [.ref q, .int (nI (n + 1))] (fun U => KL dC dI z mi A n f x U ∧ (fun H => H.size = sz ∧ va_P (dC, dI) vwCl [(q, .inr (0, [.int m, .ref e, .int (nI n)])), (e, .inl (dC 8, n, .inr (.inr (.inr (.inr f)))))] H ∧ va_D A [(q, .inr (0, [.int m, .ref e, .int (nI n)])), (e, .inl (dC 8, n, .inr (.inr (.inr (.inr f)))))]) U.heap)) (Qg (B_q_grow1_o dC dI z mi A n f x q e sz m) A) 1 610 A := by
  refine m_start (KK := KL dC dI z mi A n f x) (Pw := (fun H => H.size = sz ∧ va_P (dC, dI) vwCl [(q, .inr (0, [.int m, .ref e, .int (nI n)])), (e, .inl (dC 8, n, .inr (.inr (.inr (.inr f)))))] H ∧ va_D A [(q, .inr (0, [.int m, .ref e, .int (nI n)])), (e, .inl (dC 8, n, .inr (.inr (.inr (.inr f)))))])) (by decide) (Nat.le_of_ble_eq_true rfl) ?_
  intro p e9 s m9 below meth c ls S hr hlocks hin hKL hW hS hl
  obtain ⟨hx, hb, hml, hown, hts⟩ := id S
  have hK := hKL.1
  obtain ⟨hsz, hP, hD⟩ := hW
  subst hsz
  have hl : lv_has ls 4 [(0, .ref q), (1, .int (nI (n + 1)))] := hl
  have en_n : (nI n).toInt = ((n : Nat) : Int) := pz_ti (by omega)
  refine lv_aload_n hx hb dJx4a65c_grow_92f84_0 rfl (lv_at hl 0 rfl) ?_
  refine va_get (D := (dC, dI)) (ci := 0) (v := .ref e) (C := RJx4a65c) (T := TJx4a65c) (N := 3) hx hb hts inJx4a65c hown hK hP 0 rfl rfl 1 (by decide) (hts _ iw_93) (fun _ h9 => h9) rfl dJx4a65c_grow_92f84_1 ?_
  refine va_alen hx hb hK hP 1 2 rfl rfl (v := nI n) rfl dJx4a65c_grow_92f84_4 ?_
  refine lv_istore_n (lv' := [(2, .int (nI n)), (0, .ref q), (1, .int (nI (n + 1)))]) hx hb dJx4a65c_grow_92f84_5 rfl hl (by decide) rfl (fun ls hl => ?_)
  refine lv_iload_n hx hb dJx4a65c_grow_92f84_6 rfl (lv_at hl 0 rfl) ?_
  refine lv_if_gt (tgt := 20) hx hb dJx4a65c_grow_92f84_7 (by decide) (fun c_1 => ?_) (fun c_1 => ?_)
  · skip
    have i_1 : (nI n).toInt > 0 := by have h9 := pz_gt c_1; exact h9
    refine lv_iload_n hx hb dJx4a65c_grow_92f84_20 rfl (lv_at hl 0 rfl) ?_
    refine lv_iload_n hx hb dJx4a65c_grow_92f84_21 rfl (lv_at hl 2 rfl) ?_
    refine lv_iload_n hx hb dJx4a65c_grow_92f84_22 rfl (lv_at hl 0 rfl) ?_
    refine lv_isub hx hb dJx4a65c_grow_92f84_23 ?_
    refine lv_topi (fun x_2 ex_2 => ?_)
    obtain rfl : x_2 = nI ((n + 1) - n) := ex_2.trans (pk_sub (a := (n + 1)) (b := n) (by omega))
    have en_3 : (nI ((n + 1) - n)).toInt = (((n + 1) - n : Nat) : Int) := pz_ti (by omega)
    refine lv_iload_n hx hb dJx4a65c_grow_92f84_24 rfl (lv_at hl 0 rfl) ?_
    refine lv_iconst (v := 1) hx hb dJx4a65c_grow_92f84_25 (by decide) ?_
    refine lv_ishr hx hb dJx4a65c_grow_92f84_26 ?_
    refine lv_topi (fun x_4 ex_4 => ?_)
    obtain rfl : x_4 = nI (n / 2) := ex_4.trans (pz_shr1 (by omega))
    have en_5 : (nI (n / 2)).toInt = ((n / 2 : Nat) : Int) := pz_ti (by omega)
    refine c_s (Pw := (fun H9 => H9.size = s.heap.size ∧ va_P (dC, dI) vwCl [(q, .inr (0, [.int m, .ref e, .int (nI n)])), (e, .inl (dC 8, n, .inr (.inr (.inr (.inr f)))))] H9 ∧ va_D A [(q, .inr (0, [.int m, .ref e, .int (nI n)])), (e, .inl (dC 8, n, .inr (.inr (.inr (.inr f)))))])) (n := 3) (As := [.int (nI n), .int (nI ((n + 1) - n)), .int (nI (n / 2))]) (rest := []) S (q_newLength l A (fun H9 => H9.size = s.heap.size ∧ va_P (dC, dI) vwCl [(q, .inr (0, [.int m, .ref e, .int (nI n)])), (e, .inl (dC 8, n, .inr (.inr (.inr (.inr f)))))] H9 ∧ va_D A [(q, .inr (0, [.int m, .ref e, .int (nI n)])), (e, .inl (dC 8, n, .inr (.inr (.inr (.inr f)))))]) n ((n + 1) - n) (n / 2) (by omega) (by omega)) iw_247 iw_245 iw_246 iw_63 (by decide +kernel) rfl ⟨rfl, rfl, Nat.le_of_ble_eq_true rfl, Nat.le_of_ble_eq_true rfl⟩ (fun _ _ _ _ _ => trivial) (fun _ _ _ => trivial) ⟨rfl, hP, hD⟩ hl.1 rfl (Nat.le_of_ble_eq_true rfl) dJx4a65c_grow_92f84_27 ⟨by decide, by decide⟩ hS (fun _ h9 => h9) (fun v9 H locs hB hz9 hk9 hS => ?_)
    refine W.widen (k := 0) (n := 0) (Nat.le_refl _) (Nat.le_refl _) ?_
    obtain ⟨rfl, -, hP, hD⟩ := hB
    refine W.eq (g2 := F0 m9 30 ls [.int (nI (n + max ((n + 1) - n) (n / 2)))]) rfl ?_
    have hmx : n + max ((n + 1) - n) (n / 2) ≤ 610 ∧ n < n + max ((n + 1) - n) (n / 2) := by omega
    have en_6 : (nI (n + max ((n + 1) - n) (n / 2))).toInt = ((n + max ((n + 1) - n) (n / 2) : Nat) : Int) := pz_ti (by omega)
    have hP : va_P (dC, dI) vwCl [(q, .inr (0, [.int m, .ref e, .int (nI n)])), (e, .inl (dC 8, n, .inr (.inr (.inr (.inr f)))))] H := hP
    have hD : va_D A [(q, .inr (0, [.int m, .ref e, .int (nI n)])), (e, .inl (dC 8, n, .inr (.inr (.inr (.inr f)))))] := hD
    refine lv_istore_n (lv' := [(3, .int (nI (n + max ((n + 1) - n) (n / 2)))), (2, .int (nI n)), (0, .ref q), (1, .int (nI (n + 1)))]) hx hb dJx4a65c_grow_92f84_30 rfl hl (by decide) rfl (fun ls hl => ?_)
    refine lv_aload_n hx hb dJx4a65c_grow_92f84_31 rfl (lv_at hl 2 rfl) ?_
    refine lv_aload_n hx hb dJx4a65c_grow_92f84_32 rfl (lv_at hl 2 rfl) ?_
    refine va_get (D := (dC, dI)) (ci := 0) (v := .ref e) (C := RJx4a65c) (T := TJx4a65c) (N := 3) hx hb hts inJx4a65c hown hK hP 0 rfl rfl 1 (by decide) (hts _ iw_93) (fun _ h9 => h9) rfl dJx4a65c_grow_92f84_33 ?_
    refine lv_iload_n hx hb dJx4a65c_grow_92f84_36 rfl (lv_at hl 0 rfl) ?_
    refine c_s (Pw := fun H9 => H9.size = H.size ∧ va_P (dC, dI) vwCl [(q, .inr (0, [.int m, .ref e, .int (nI n)])), (e, .inl (dC 8, n, .inr (.inr (.inr (.inr f)))))] H9 ∧ va_D A [(q, .inr (0, [.int m, .ref e, .int (nI n)])), (e, .inl (dC 8, n, .inr (.inr (.inr (.inr f)))))]) (n := 2) (As := [.ref e, .int (nI (n + max ((n + 1) - n) (n / 2)))]) (rest := [.ref q]) S (q_copy2 l dC dI z mi A n f x q e H.size m (n + max ((n + 1) - n) (n / 2)) (fun y9 h9 => hA y9 (Nat.le_trans hS.1 h9)) (by omega) (by omega)) iw_257 iw_255 iw_256 iw_65 (by decide +kernel) rfl ⟨rfl, rfl, Nat.le_of_ble_eq_true rfl, Nat.le_of_ble_eq_true rfl⟩ KL.blind (hKL.at hS) ⟨rfl, hP, hD⟩ hl.1 rfl (Nat.le_of_ble_eq_true rfl) dJx4a65c_grow_92f84_37 ⟨by decide, by decide⟩ hS (fun _ h9 => h9) (fun v9 H locs hB hz9 hk9 hS => ?_)
    refine W.widen (k := 1) (n := 610) (Nat.le_refl _) (Nat.le_refl _) ?_
    obtain ⟨r_7, g_7, rfl, hg_7, hP, hD⟩ := hB
    refine W.eq (g2 := F0 m9 40 ls [.ref r_7, .ref q]) rfl ?_
    have hP : va_P (dC, dI) vwCl [(q, .inr (0, [.int m, .ref e, .int (nI n)])), (e, .inl (dC 8, n, .inr (.inr (.inr (.inr f))))), (r_7, .inl (dC 8, (n + max ((n + 1) - n) (n / 2)), .inr (.inr (.inr (.inr g_7)))))] H := hP
    have hD : va_D A [(q, .inr (0, [.int m, .ref e, .int (nI n)])), (e, .inl (dC 8, n, .inr (.inr (.inr (.inr f))))), (r_7, .inl (dC 8, (n + max ((n + 1) - n) (n / 2)), .inr (.inr (.inr (.inr g_7)))))] := hD
    refine lv_dup_x1 hx hb dJx4a65c_grow_92f84_40 rfl rfl ?_
    refine va_put (D := (dC, dI)) (ci := 0) (v := .ref r_7) (ty := .array (.object "java/lang/Object")) (C := RJx4a65c) (T := TJx4a65c) (N := 3) hx hb hts inJx4a65c tyJx4a65c tyJx4a65c_ok nmJx4a65c hown hK hP hD hS 0 rfl rfl 1 (by decide) (hts _ iw_93) (fun _ h9 => h9) rfl (by decide +kernel) rfl rfl (Nat.le_of_ble_eq_true rfl) dJx4a65c_grow_92f84_41 (fun H locs hP hD hS => ?_)
    have hP : va_P (dC, dI) vwCl [(q, .inr (0, [.int m, .ref r_7, .int (nI n)])), (e, .inl (dC 8, n, .inr (.inr (.inr (.inr f))))), (r_7, .inl (dC 8, (n + max ((n + 1) - n) (n / 2)), .inr (.inr (.inr (.inr g_7)))))] H := hP
    have hD : va_D A [(q, .inr (0, [.int m, .ref r_7, .int (nI n)])), (e, .inl (dC 8, n, .inr (.inr (.inr (.inr f))))), (r_7, .inl (dC 8, (n + max ((n + 1) - n) (n / 2)), .inr (.inr (.inr (.inr g_7)))))] := hD
    exact r_a (o := some r_7) hx hb hr (Or.inr ⟨_, rfl⟩) hlocks hS dJx4a65c_grow_92f84_44 (⟨_, _, _, rfl, by omega, by omega, hg_7, hP.sub [0, 2] rfl, hD.sub [0, 2] (by decide) rfl⟩)
  · skip
    have i_1 : (nI n).toInt ≤ 0 := by have h9 := pz_ngt c_1; exact h9
    exfalso
    omega

abbrev B_q_grow_o (dC : Nat → ClassId) (dI : Nat → Nat → Nat) (z : Nat) (mi : Nat) (A : Nat → Prop) (n : Nat) (f : Nat → Option Nat) (x : Nat) (q : Nat) (e : Nat) (sz : Nat) (m : Int32) : Option Value → Heap → Prop := fun v H => ∃ (r cp : Nat) (g : Nat → Option Nat), v = some (.ref r) ∧ n < cp ∧ cp ≤ 610 ∧ (∀ t, t < n → g t = f t) ∧ va_P (dC, dI) vwCl [(q, .inr (0, [.int m, .ref r, .int (nI n)])), (r, .inl (dC 8, cp, .inr (.inr (.inr (.inr g)))))] H ∧ va_D A [(q, .inr (0, [.int m, .ref r, .int (nI n)])), (r, .inl (dC 8, cp, .inr (.inr (.inr (.inr g)))))]
set_option maxHeartbeats 8000000 in
set_option maxRecDepth 20000 in
theorem q_grow_o (l : Launch) (dC : Nat → ClassId) (dI : Nat → Nat → Nat) (z : Nat) (mi : Nat) (A : Nat → Prop) (n : Nat) (f : Nat → Option Nat) (x : Nat) (q : Nat) (e : Nat) (sz : Nat) (m : Int32) (hA : ∀ y, sz ≤ y → A y) (hn0 : 0 < n) (hn4 : n ≤ 400) : Met l yJx4a65c_grow_d5877 (cws yJx4a65c_grow_d5877 cJx4a65c_grow_d5877 1 (some (.array (.object "java/lang/Object")))) { frames := 4, cells := 1, slots := 610, locals := 127 } (va_Pc [.ref q] (fun U => KL dC dI z mi A n f x U ∧ (fun H => H.size = sz ∧ va_P (dC, dI) vwCl [(q, .inr (0, [.int m, .ref e, .int (nI n)])), (e, .inl (dC 8, n, .inr (.inr (.inr (.inr f)))))] H ∧ va_D A [(q, .inr (0, [.int m, .ref e, .int (nI n)])), (e, .inl (dC 8, n, .inr (.inr (.inr (.inr f)))))]) U.heap)) (Qg (B_q_grow_o dC dI z mi A n f x q e sz m) A) 1 610 A := by
  refine m_start (KK := KL dC dI z mi A n f x) (Pw := (fun H => H.size = sz ∧ va_P (dC, dI) vwCl [(q, .inr (0, [.int m, .ref e, .int (nI n)])), (e, .inl (dC 8, n, .inr (.inr (.inr (.inr f)))))] H ∧ va_D A [(q, .inr (0, [.int m, .ref e, .int (nI n)])), (e, .inl (dC 8, n, .inr (.inr (.inr (.inr f)))))])) (by decide) (Nat.le_of_ble_eq_true rfl) ?_
  intro p e9 s m9 below meth c ls S hr hlocks hin hKL hW hS hl
  obtain ⟨hx, hb, hml, hown, hts⟩ := id S
  have hK := hKL.1
  obtain ⟨hsz, hP, hD⟩ := hW
  subst hsz
  have hl : lv_has ls 1 [(0, .ref q)] := hl
  have en_n : (nI n).toInt = ((n : Nat) : Int) := pz_ti (by omega)
  refine lv_aload_n hx hb dJx4a65c_grow_d5877_0 rfl (lv_at hl 0 rfl) ?_
  refine lv_aload_n hx hb dJx4a65c_grow_d5877_1 rfl (lv_at hl 0 rfl) ?_
  refine va_get (D := (dC, dI)) (ci := 0) (v := .int (nI n)) (C := RJx4a65c) (T := TJx4a65c) (N := 3) hx hb hts inJx4a65c hown hK hP 0 rfl rfl 2 (by decide) (hts _ iw_94) (fun _ h9 => h9) rfl dJx4a65c_grow_d5877_2 ?_
  refine lv_iconst (v := 1) hx hb dJx4a65c_grow_d5877_5 (by decide) ?_
  refine lv_iadd hx hb dJx4a65c_grow_d5877_6 ?_
  refine lv_topi (fun x_1 ex_1 => ?_)
  obtain rfl : x_1 = nI (n + 1) := ex_1.trans (nI_add n 1)
  have en_2 : (nI (n + 1)).toInt = ((n + 1 : Nat) : Int) := pz_ti (by omega)
  refine c_v (Pw := fun H9 => H9.size = s.heap.size ∧ va_P (dC, dI) vwCl [(q, .inr (0, [.int m, .ref e, .int (nI n)])), (e, .inl (dC 8, n, .inr (.inr (.inr (.inr f)))))] H9 ∧ va_D A [(q, .inr (0, [.int m, .ref e, .int (nI n)])), (e, .inl (dC 8, n, .inr (.inr (.inr (.inr f)))))]) (n := 1) (As := [.int (nI (n + 1))]) (rest := []) S (q_grow1_o l dC dI z mi A n f x q e s.heap.size m (fun y9 h9 => hA y9 (Nat.le_trans hS.1 h9)) (by omega) (by omega)) iw_244 iw_241 iw_243 iw_3 iw_60 (by decide +kernel) rfl ⟨rfl, rfl, Nat.le_of_ble_eq_true rfl, Nat.le_of_ble_eq_true rfl⟩ KL.blind (va_recv hK hP (ci := 0) (q0 := 0) rfl rfl) (hKL.at hS) ⟨rfl, hP, hD⟩ hl.1 rfl (Nat.le_of_ble_eq_true rfl) dJx4a65c_grow_d5877_7 ⟨by decide, by decide⟩ hS (fun _ h9 => h9) (fun v9 H locs hB hz9 hk9 hS => ?_)
  refine W.widen (k := 1) (n := 610) (Nat.le_refl _) (Nat.le_refl _) ?_
  obtain ⟨r_3, cp_3, g_3, rfl, hc1_3, hc2_3, hg_3, hP, hD⟩ := hB
  refine W.eq (g2 := F0 m9 10 ls [.ref r_3]) rfl ?_
  have hP : va_P (dC, dI) vwCl [(q, .inr (0, [.int m, .ref r_3, .int (nI n)])), (r_3, .inl (dC 8, cp_3, .inr (.inr (.inr (.inr g_3)))))] H := hP
  have hD : va_D A [(q, .inr (0, [.int m, .ref r_3, .int (nI n)])), (r_3, .inl (dC 8, cp_3, .inr (.inr (.inr (.inr g_3)))))] := hD
  exact r_a (o := some r_3) hx hb hr (Or.inr ⟨_, rfl⟩) hlocks hS dJx4a65c_grow_d5877_10 (⟨_, _, _, rfl, hc1_3, hc2_3, hg_3, hP, hD⟩)

abbrev B_q_grow1_z (dC : Nat → ClassId) (dI : Nat → Nat → Nat) (z : Nat) (mi : Nat) (A : Nat → Prop) (n : Nat) (f : Nat → Option Nat) (x : Nat) (q : Nat) (e : Nat) (sz : Nat) (m : Int32) : Option Value → Heap → Prop := fun v H => ∃ (r cp : Nat) (g : Nat → Option Nat), v = some (.ref r) ∧ 0 < cp ∧ cp ≤ 610 ∧ (∀ t, t < 0 → g t = f t) ∧ va_P (dC, dI) vwCl [(q, .inr (0, [.int m, .ref r, .int (nI 0)])), (r, .inl (dC 8, cp, .inr (.inr (.inr (.inr g)))))] H ∧ va_D A [(q, .inr (0, [.int m, .ref r, .int (nI 0)])), (r, .inl (dC 8, cp, .inr (.inr (.inr (.inr g)))))]
set_option maxHeartbeats 8000000 in
set_option maxRecDepth 20000 in
theorem q_grow1_z (l : Launch) (dC : Nat → ClassId) (dI : Nat → Nat → Nat) (z : Nat) (mi : Nat) (A : Nat → Prop) (n : Nat) (f : Nat → Option Nat) (x : Nat) (q : Nat) (e : Nat) (sz : Nat) (m : Int32) (hA : ∀ y, sz ≤ y → A y) : Met l yJx4a65c_grow_92f84 (cws yJx4a65c_grow_92f84 cJx4a65c_grow_92f84 4 (some (.array (.object "java/lang/Object")))) { frames := 1, cells := 1, slots := 610, locals := 14 } (va_Pc [.ref q, .int (nI (0 + 1))] (fun U => KL dC dI z mi A n f x U ∧ (fun H => H.size = sz ∧ va_P (dC, dI) vwCl [(q, .inr (0, [.int m, .ref z, .int (nI 0)]))] H ∧ va_D A [(q, .inr (0, [.int m, .ref z, .int (nI 0)]))]) U.heap)) (Qg (B_q_grow1_z dC dI z mi A n f x q e sz m) A) 1 610 A := by
  refine m_start (KK := KL dC dI z mi A n f x) (Pw := (fun H => H.size = sz ∧ va_P (dC, dI) vwCl [(q, .inr (0, [.int m, .ref z, .int (nI 0)]))] H ∧ va_D A [(q, .inr (0, [.int m, .ref z, .int (nI 0)]))])) (by decide) (Nat.le_of_ble_eq_true rfl) ?_
  intro p e9 s m9 below meth c ls S hr hlocks hin hKL hW hS hl
  obtain ⟨hx, hb, hml, hown, hts⟩ := id S
  have hK := hKL.1
  obtain ⟨hsz, hP, hD⟩ := hW
  subst hsz
  have hl : lv_has ls 4 [(0, .ref q), (1, .int (nI (0 + 1)))] := hl
  refine lv_aload_n hx hb dJx4a65c_grow_92f84_0 rfl (lv_at hl 0 rfl) ?_
  refine va_get (D := (dC, dI)) (ci := 0) (v := .ref z) (C := RJx4a65c) (T := TJx4a65c) (N := 3) hx hb hts inJx4a65c hown hK hP 0 rfl rfl 1 (by decide) (hts _ iw_93) (fun _ h9 => h9) rfl dJx4a65c_grow_92f84_1 ?_
  refine va_tlen hx hb hKL.2.1.2.1 hS (v := 0) rfl dJx4a65c_grow_92f84_4 ?_
  refine lv_istore_n (lv' := [(2, .int 0), (0, .ref q), (1, .int (nI (0 + 1)))]) hx hb dJx4a65c_grow_92f84_5 rfl hl (by decide) rfl (fun ls hl => ?_)
  refine lv_iload_n hx hb dJx4a65c_grow_92f84_6 rfl (lv_at hl 0 rfl) ?_
  refine lv_if_gt (tgt := 20) hx hb dJx4a65c_grow_92f84_7 (by decide) (fun c_1 => absurd c_1 (by decide)) (fun c_1 => ?_)
  refine lv_aload_n hx hb dJx4a65c_grow_92f84_10 rfl (lv_at hl 1 rfl) ?_
  refine va_get (D := (dC, dI)) (ci := 0) (v := .ref z) (C := RJx4a65c) (T := TJx4a65c) (N := 3) hx hb hts inJx4a65c hown hK hP 0 rfl rfl 1 (by decide) (hts _ iw_93) (fun _ h9 => h9) rfl dJx4a65c_grow_92f84_11 ?_
  refine va_gets hx hb hKL.2.1.1 hS hown (hts _ iw_91) (fun _ h9 => h9) dJx4a65c_grow_92f84_14 ?_
  refine lv_acmp_eq (rx := (some z)) (ry := (some z)) (tgt := 45) hx hb dJx4a65c_grow_92f84_17 (by decide) (fun c_2 => ?_) (fun c_2 => ?_)
  · skip
    refine lv_aload_n hx hb dJx4a65c_grow_92f84_45 rfl (lv_at hl 1 rfl) ?_
    refine lv_bipush (v := 10) hx hb dJx4a65c_grow_92f84_46 (by decide) ?_
    refine lv_iload_n hx hb dJx4a65c_grow_92f84_48 rfl (lv_at hl 2 rfl) ?_
    refine W.eq (g2 := F0 m9 49 ls [.int (nI (0 + 1)), .int (nI 10), .ref q]) rfl ?_
    refine va_mmax hx hb (hml.trans hl.1.symm) hown (hts _ iw_280) (hts _ iw_249) (hts _ iw_64) (hts _ iw_250) (Nat.le_of_ble_eq_true rfl) (Nat.le_of_ble_eq_true rfl) (by decide) (by decide) dJx4a65c_grow_92f84_49 ?_
    refine lv_topi (fun x_3 ex_3 => ?_)
    obtain rfl : x_3 = nI (max 10 (0 + 1)) := ex_3.trans (pz_max (by omega) (by omega))
    have en_4 : (nI (max 10 (0 + 1))).toInt = ((max 10 (0 + 1) : Nat) : Int) := pz_ti (by omega)
    refine va_newq (D := (dC, dI)) (cl := vwCl) (n := (nI (max 10 (0 + 1)))) (N' := (max 10 (0 + 1))) hx hb hown (hts _ iw_281) hKL.2.1.2.2.1 hK hP hD hS hA (nI_pos (by omega)) (pz_cl (by omega)) (by omega) (by show _ + 1 ≤ _; decide) (by show 0 + _ ≤ 610; omega) dJx4a65c_grow_92f84_52 (fun q_5 cA H hK2 hP hD hS => ?_)
    obtain rfl := hK.nq hK2
    have hP : va_P (dC, dI) vwCl [(q, .inr (0, [.int m, .ref z, .int (nI 0)])), (q_5, .inl (dC 8, (max 10 (0 + 1)), .inr (.inr (.inr (.inr (fun _ => none))))))] H := hP
    have hD : va_D A [(q, .inr (0, [.int m, .ref z, .int (nI 0)])), (q_5, .inl (dC 8, (max 10 (0 + 1)), .inr (.inr (.inr (.inr (fun _ => none))))))] := hD
    refine W.widen (k := 1) (n := 610) (by decide) (by omega) ?_
    refine lv_dup_x1 hx hb dJx4a65c_grow_92f84_55 rfl rfl ?_
    refine va_put (D := (dC, dI)) (ci := 0) (v := .ref q_5) (ty := .array (.object "java/lang/Object")) (C := RJx4a65c) (T := TJx4a65c) (N := 3) hx hb hts inJx4a65c tyJx4a65c tyJx4a65c_ok nmJx4a65c hown hK hP hD hS 0 rfl rfl 1 (by decide) (hts _ iw_93) (fun _ h9 => h9) rfl (by decide +kernel) rfl rfl (Nat.le_of_ble_eq_true rfl) dJx4a65c_grow_92f84_56 (fun H locs hP hD hS => ?_)
    have hP : va_P (dC, dI) vwCl [(q, .inr (0, [.int m, .ref q_5, .int (nI 0)])), (q_5, .inl (dC 8, (max 10 (0 + 1)), .inr (.inr (.inr (.inr (fun _ => none))))))] H := hP
    have hD : va_D A [(q, .inr (0, [.int m, .ref q_5, .int (nI 0)])), (q_5, .inl (dC 8, (max 10 (0 + 1)), .inr (.inr (.inr (.inr (fun _ => none))))))] := hD
    exact r_a (o := some q_5) hx hb hr (Or.inr ⟨_, rfl⟩) hlocks hS dJx4a65c_grow_92f84_59 (⟨_, _, _, rfl, by omega, by omega, fun t h9 => absurd h9 (Nat.not_lt_zero t), hP, hD⟩)
  · skip
    exact absurd rfl c_2

abbrev B_q_grow_z (dC : Nat → ClassId) (dI : Nat → Nat → Nat) (z : Nat) (mi : Nat) (A : Nat → Prop) (n : Nat) (f : Nat → Option Nat) (x : Nat) (q : Nat) (e : Nat) (sz : Nat) (m : Int32) : Option Value → Heap → Prop := fun v H => ∃ (r cp : Nat) (g : Nat → Option Nat), v = some (.ref r) ∧ 0 < cp ∧ cp ≤ 610 ∧ (∀ t, t < 0 → g t = f t) ∧ va_P (dC, dI) vwCl [(q, .inr (0, [.int m, .ref r, .int (nI 0)])), (r, .inl (dC 8, cp, .inr (.inr (.inr (.inr g)))))] H ∧ va_D A [(q, .inr (0, [.int m, .ref r, .int (nI 0)])), (r, .inl (dC 8, cp, .inr (.inr (.inr (.inr g)))))]
set_option maxHeartbeats 8000000 in
set_option maxRecDepth 20000 in
theorem q_grow_z (l : Launch) (dC : Nat → ClassId) (dI : Nat → Nat → Nat) (z : Nat) (mi : Nat) (A : Nat → Prop) (n : Nat) (f : Nat → Option Nat) (x : Nat) (q : Nat) (e : Nat) (sz : Nat) (m : Int32) (hA : ∀ y, sz ≤ y → A y) : Met l yJx4a65c_grow_d5877 (cws yJx4a65c_grow_d5877 cJx4a65c_grow_d5877 1 (some (.array (.object "java/lang/Object")))) { frames := 2, cells := 1, slots := 610, locals := 37 } (va_Pc [.ref q] (fun U => KL dC dI z mi A n f x U ∧ (fun H => H.size = sz ∧ va_P (dC, dI) vwCl [(q, .inr (0, [.int m, .ref z, .int (nI 0)]))] H ∧ va_D A [(q, .inr (0, [.int m, .ref z, .int (nI 0)]))]) U.heap)) (Qg (B_q_grow_z dC dI z mi A n f x q e sz m) A) 1 610 A := by
  refine m_start (KK := KL dC dI z mi A n f x) (Pw := (fun H => H.size = sz ∧ va_P (dC, dI) vwCl [(q, .inr (0, [.int m, .ref z, .int (nI 0)]))] H ∧ va_D A [(q, .inr (0, [.int m, .ref z, .int (nI 0)]))])) (by decide) (Nat.le_of_ble_eq_true rfl) ?_
  intro p e9 s m9 below meth c ls S hr hlocks hin hKL hW hS hl
  obtain ⟨hx, hb, hml, hown, hts⟩ := id S
  have hK := hKL.1
  obtain ⟨hsz, hP, hD⟩ := hW
  subst hsz
  have hl : lv_has ls 1 [(0, .ref q)] := hl
  refine lv_aload_n hx hb dJx4a65c_grow_d5877_0 rfl (lv_at hl 0 rfl) ?_
  refine lv_aload_n hx hb dJx4a65c_grow_d5877_1 rfl (lv_at hl 0 rfl) ?_
  refine va_get (D := (dC, dI)) (ci := 0) (v := .int (nI 0)) (C := RJx4a65c) (T := TJx4a65c) (N := 3) hx hb hts inJx4a65c hown hK hP 0 rfl rfl 2 (by decide) (hts _ iw_94) (fun _ h9 => h9) rfl dJx4a65c_grow_d5877_2 ?_
  refine lv_iconst (v := 1) hx hb dJx4a65c_grow_d5877_5 (by decide) ?_
  refine lv_iadd hx hb dJx4a65c_grow_d5877_6 ?_
  refine lv_topi (fun x_1 ex_1 => ?_)
  obtain rfl : x_1 = nI (0 + 1) := ex_1.trans (nI_add 0 1)
  have en_2 : (nI (0 + 1)).toInt = ((0 + 1 : Nat) : Int) := pz_ti (by omega)
  refine c_v (Pw := fun H9 => H9.size = s.heap.size ∧ va_P (dC, dI) vwCl [(q, .inr (0, [.int m, .ref z, .int (nI 0)]))] H9 ∧ va_D A [(q, .inr (0, [.int m, .ref z, .int (nI 0)]))]) (n := 1) (As := [.int (nI (0 + 1))]) (rest := []) S (q_grow1_z l dC dI z mi A n f x q e s.heap.size m (fun y9 h9 => hA y9 (Nat.le_trans hS.1 h9))) iw_244 iw_241 iw_243 iw_3 iw_60 (by decide +kernel) rfl ⟨rfl, rfl, Nat.le_of_ble_eq_true rfl, Nat.le_of_ble_eq_true rfl⟩ KL.blind (va_recv hK hP (ci := 0) (q0 := 0) rfl rfl) (hKL.at hS) ⟨rfl, hP, hD⟩ hl.1 rfl (Nat.le_of_ble_eq_true rfl) dJx4a65c_grow_d5877_7 ⟨by decide, by decide⟩ hS (fun _ h9 => h9) (fun v9 H locs hB hz9 hk9 hS => ?_)
  refine W.widen (k := 1) (n := 610) (Nat.le_refl _) (Nat.le_refl _) ?_
  obtain ⟨r_3, cp_3, g_3, rfl, hc1_3, hc2_3, hg_3, hP, hD⟩ := hB
  refine W.eq (g2 := F0 m9 10 ls [.ref r_3]) rfl ?_
  have hP : va_P (dC, dI) vwCl [(q, .inr (0, [.int m, .ref r_3, .int (nI 0)])), (r_3, .inl (dC 8, cp_3, .inr (.inr (.inr (.inr g_3)))))] H := hP
  have hD : va_D A [(q, .inr (0, [.int m, .ref r_3, .int (nI 0)])), (r_3, .inl (dC 8, cp_3, .inr (.inr (.inr (.inr g_3)))))] := hD
  exact r_a (o := some r_3) hx hb hr (Or.inr ⟨_, rfl⟩) hlocks hS dJx4a65c_grow_d5877_10 (⟨_, _, _, rfl, hc1_3, hc2_3, hg_3, hP, hD⟩)
