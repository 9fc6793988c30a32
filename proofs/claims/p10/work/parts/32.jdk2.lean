abbrev B_q_addp_n (dC : Nat → ClassId) (dI : Nat → Nat → Nat) (z : Nat) (mi : Nat) (A : Nat → Prop) (n : Nat) (f : Nat → Option Nat) (x : Nat) (q : Nat) (e : Nat) (sz : Nat) (m : Int32) (cap : Nat) : Option Value → Heap → Prop := fun v H => ∃ (r cp : Nat) (g : Nat → Option Nat) (m1 : Int32), v = none ∧ n < cp ∧ cp ≤ 610 ∧ (∀ t, t < n → g t = f t) ∧ g n = some x ∧ va_P (dC, dI) vwCl [(q, .inr (0, [.int m1, .ref r, .int (nI (n + 1))])), (r, .inl (dC 8, cp, .inr (.inr (.inr (.inr g)))))] H ∧ va_D A [(q, .inr (0, [.int m1, .ref r, .int (nI (n + 1))])), (r, .inl (dC 8, cp, .inr (.inr (.inr (.inr g)))))]
set_option maxHeartbeats 8000000 in
set_option maxRecDepth 20000 in
theorem q_addp_n (l : Launch) (dC : Nat → ClassId) (dI : Nat → Nat → Nat) (z : Nat) (mi : Nat) (A : Nat → Prop) (n : Nat) (f : Nat → Option Nat) (x : Nat) (q : Nat) (e : Nat) (sz : Nat) (m : Int32) (cap : Nat) (hA : ∀ y, sz ≤ y → A y) (hnc : n < cap) (hcap : cap ≤ 610) : Met l yJx4a65c_add_72be8 (cws yJx4a65c_add_72be8 cJx4a65c_add_72be8 4 none) { frames := 0, cells := 1, slots := 610, locals := 0 } (va_Pc [.ref q, .ref x, .ref e, .int (nI n)] (fun U => KL dC dI z mi A n f x U ∧ (fun H => H.size = sz ∧ va_P (dC, dI) vwCl [(q, .inr (0, [.int m, .ref e, .int (nI n)])), (e, .inl (dC 8, cap, .inr (.inr (.inr (.inr f)))))] H ∧ va_D A [(q, .inr (0, [.int m, .ref e, .int (nI n)])), (e, .inl (dC 8, cap, .inr (.inr (.inr (.inr f)))))]) U.heap)) (Qg (B_q_addp_n dC dI z mi A n f x q e sz m cap) A) 1 610 A := by
  refine m_start (KK := KL dC dI z mi A n f x) (Pw := (fun H => H.size = sz ∧ va_P (dC, dI) vwCl [(q, .inr (0, [.int m, .ref e, .int (nI n)])), (e, .inl (dC 8, cap, .inr (.inr (.inr (.inr f)))))] H ∧ va_D A [(q, .inr (0, [.int m, .ref e, .int (nI n)])), (e, .inl (dC 8, cap, .inr (.inr (.inr (.inr f)))))])) (by decide) (Nat.le_of_ble_eq_true rfl) ?_
  intro p e9 s m9 below meth c ls S hr hlocks hin hKL hW hS hl
  obtain ⟨hx, hb, hml, hown, hts⟩ := id S
  have hK := hKL.1
  obtain ⟨hsz, hP, hD⟩ := hW
  subst hsz
  have hl : lv_has ls 4 [(0, .ref q), (1, .ref x), (2, .ref e), (3, .int (nI n))] := hl
  have en_n : (nI n).toInt = ((n : Nat) : Int) := pz_ti (by omega)
  have en_cap : (nI cap).toInt = ((cap : Nat) : Int) := pz_ti (by omega)
  refine lv_iload_n hx hb dJx4a65c_add_72be8_0 rfl (lv_at hl 3 rfl) ?_
  refine lv_aload_n hx hb dJx4a65c_add_72be8_1 rfl (lv_at hl 2 rfl) ?_
  refine va_alen hx hb hK hP 1 2 rfl rfl (v := nI cap) rfl dJx4a65c_add_72be8_2 ?_
  refine lv_icmp_ne (tgt := 11) hx hb dJx4a65c_add_72be8_3 (by decide) (fun c_1 => ?_) (fun c_1 => ?_)
  · skip
    have i_1 : ¬ (nI n).toInt = (nI cap).toInt := by have h9 := pz_neq c_1; exact h9
    refine lv_aload_n hx hb dJx4a65c_add_72be8_11 rfl (lv_at hl 2 rfl) ?_
    refine lv_iload_n hx hb dJx4a65c_add_72be8_12 rfl (lv_at hl 3 rfl) ?_
    refine lv_aload_n hx hb dJx4a65c_add_72be8_13 rfl (lv_at hl 1 rfl) ?_
    refine va_astqM hx hb hK hP hD hS 1 2 rfl rfl (pzE.at (pz_Ekept hKL.2.2.2.2 hS)) (pz_vi (n := cap) (by omega) (by omega)) dJx4a65c_add_72be8_14 (fun H locs hP hD hS => ?_)
    have hP : va_P (dC, dI) vwCl [(q, .inr (0, [.int m, .ref e, .int (nI n)])), (e, .inl (dC 8, cap, .inr (.inr (.inr (.inr (va_up f ((nI n).toNatClampNeg) (some x)))))))] H := hP
    have hD : va_D A [(q, .inr (0, [.int m, .ref e, .int (nI n)])), (e, .inl (dC 8, cap, .inr (.inr (.inr (.inr (va_up f ((nI n).toNatClampNeg) (some x)))))))] := hD
    rw [pz_cl (by omega)] at hP hD
    have hP : va_P (dC, dI) vwCl [(q, .inr (0, [.int m, .ref e, .int (nI n)])), (e, .inl (dC 8, cap, .inr (.inr (.inr (.inr (va_up f n (some x)))))))] H := hP
    have hD : va_D A [(q, .inr (0, [.int m, .ref e, .int (nI n)])), (e, .inl (dC 8, cap, .inr (.inr (.inr (.inr (va_up f n (some x)))))))] := hD
    refine lv_aload_n hx hb dJx4a65c_add_72be8_15 rfl (lv_at hl 0 rfl) ?_
    refine lv_iload_n hx hb dJx4a65c_add_72be8_16 rfl (lv_at hl 3 rfl) ?_
    refine lv_iconst (v := 1) hx hb dJx4a65c_add_72be8_17 (by decide) ?_
    refine lv_iadd hx hb dJx4a65c_add_72be8_18 ?_
    refine lv_topi (fun x_2 ex_2 => ?_)
    obtain rfl : x_2 = nI (n + 1) := ex_2.trans (nI_add n 1)
    have en_3 : (nI (n + 1)).toInt = ((n + 1 : Nat) : Int) := pz_ti (by omega)
    refine va_put (D := (dC, dI)) (ci := 0) (v := .int (nI (n + 1))) (ty := .int) (C := RJx4a65c) (T := TJx4a65c) (N := 3) hx hb hts inJx4a65c tyJx4a65c tyJx4a65c_ok nmJx4a65c hown hK hP hD hS 0 rfl rfl 2 (by decide) (hts _ iw_94) (fun _ h9 => h9) rfl (by decide +kernel) rfl rfl (Nat.le_of_ble_eq_true rfl) dJx4a65c_add_72be8_19 (fun H locs hP hD hS => ?_)
    have hP : va_P (dC, dI) vwCl [(q, .inr (0, [.int m, .ref e, .int (nI (n + 1))])), (e, .inl (dC 8, cap, .inr (.inr (.inr (.inr (va_up f n (some x)))))))] H := hP
    have hD : va_D A [(q, .inr (0, [.int m, .ref e, .int (nI (n + 1))])), (e, .inl (dC 8, cap, .inr (.inr (.inr (.inr (va_up f n (some x)))))))] := hD
    refine W.widen (k := 1) (n := 610) (by decide) (by decide) ?_
    exact r_v hx hb hr hlocks hS dJx4a65c_add_72be8_22 (⟨e, cap, (va_up f n (some x)), m, rfl, by omega, by omega, fun t h9 => vu_n (by omega), vu_s, hP, hD⟩)
  · skip
    have i_1 : (nI n).toInt = (nI cap).toInt := by have h9 := pz_eq c_1; exact h9
    exfalso
    omega

abbrev B_q_add_n (dC : Nat → ClassId) (dI : Nat → Nat → Nat) (z : Nat) (mi : Nat) (A : Nat → Prop) (n : Nat) (f : Nat → Option Nat) (x : Nat) (q : Nat) (e : Nat) (sz : Nat) (m : Int32) (cap : Nat) (bs : Nat) : Option Value → Heap → Prop := fun v H => ∃ (r cp : Nat) (g : Nat → Option Nat) (m1 : Int32), v = some (.int 1) ∧ n < cp ∧ cp ≤ 610 ∧ (∀ t, t < n → g t = f t) ∧ g n = some x ∧ va_P (dC, dI) vwCl [(q, .inr (0, [.int m1, .ref r, .int (nI (n + 1))])), (r, .inl (dC 8, cp, .inr (.inr (.inr (.inr g)))))] H ∧ va_D A [(q, .inr (0, [.int m1, .ref r, .int (nI (n + 1))])), (r, .inl (dC 8, cp, .inr (.inr (.inr (.inr g)))))] ∧ Sz bs H ∧ H.size ≤ sz + 1
set_option maxHeartbeats 8000000 in
set_option maxRecDepth 20000 in
theorem q_add_n (l : Launch) (dC : Nat → ClassId) (dI : Nat → Nat → Nat) (z : Nat) (mi : Nat) (A : Nat → Prop) (n : Nat) (f : Nat → Option Nat) (x : Nat) (q : Nat) (e : Nat) (sz : Nat) (m : Int32) (cap : Nat) (bs : Nat) (hA : ∀ y, sz ≤ y → A y) (hnc : n < cap) (hcap : cap ≤ 610) : Met l yJx4a65c_add_9ea2d (cws yJx4a65c_add_9ea2d cJx4a65c_add_9ea2d 2 (some .boolean)) { frames := 1, cells := 1, slots := 610, locals := 23 } (va_Pc [.ref q, .ref x] (fun U => KL dC dI z mi A n f x U ∧ (fun H => H.size = sz ∧ va_P (dC, dI) vwCl [(q, .inr (0, [.int m, .ref e, .int (nI n)])), (e, .inl (dC 8, cap, .inr (.inr (.inr (.inr f)))))] H ∧ va_D A [(q, .inr (0, [.int m, .ref e, .int (nI n)])), (e, .inl (dC 8, cap, .inr (.inr (.inr (.inr f)))))] ∧ Sz bs H) U.heap)) (Qg (B_q_add_n dC dI z mi A n f x q e sz m cap bs) A) 1 610 A := by
  refine m_start (KK := KL dC dI z mi A n f x) (Pw := (fun H => H.size = sz ∧ va_P (dC, dI) vwCl [(q, .inr (0, [.int m, .ref e, .int (nI n)])), (e, .inl (dC 8, cap, .inr (.inr (.inr (.inr f)))))] H ∧ va_D A [(q, .inr (0, [.int m, .ref e, .int (nI n)])), (e, .inl (dC 8, cap, .inr (.inr (.inr (.inr f)))))] ∧ Sz bs H)) (by decide) (Nat.le_of_ble_eq_true rfl) ?_
  intro p e9 s m9 below meth c ls S hr hlocks hin hKL hW hS hl
  obtain ⟨hx, hb, hml, hown, hts⟩ := id S
  have hK := hKL.1
  obtain ⟨hsz, hP, hD, hSz⟩ := hW
  subst hsz
  have hl : lv_has ls 2 [(0, .ref q), (1, .ref x)] := hl
  have en_n : (nI n).toInt = ((n : Nat) : Int) := pz_ti (by omega)
  have en_cap : (nI cap).toInt = ((cap : Nat) : Int) := pz_ti (by omega)
  refine lv_aload_n hx hb dJx4a65c_add_9ea2d_0 rfl (lv_at hl 0 rfl) ?_
  refine lv_dup hx hb dJx4a65c_add_9ea2d_1 rfl ?_
  refine va_get (D := (dC, dI)) (ci := 0) (v := .int m) (C := RJx4a65c) (T := TJx4a65c) (N := 3) hx hb hts inJx4a65c hown hK hP 0 rfl rfl 0 (by decide) (hts _ iw_96) (u_same (hts _ iw_97)) rfl dJx4a65c_add_9ea2d_2 ?_
  refine lv_iconst (v := 1) hx hb dJx4a65c_add_9ea2d_5 (by decide) ?_
  refine lv_iadd hx hb dJx4a65c_add_9ea2d_6 ?_
  refine lv_topi (fun x_1 _ => ?_)
  refine va_put (D := (dC, dI)) (ci := 0) (v := .int x_1) (ty := .int) (C := RJx4a65c) (T := TJx4a65c) (N := 3) hx hb hts inJx4a65c tyJx4a65c tyJx4a65c_ok nmJx4a65c hown hK hP hD hS 0 rfl rfl 0 (by decide) (hts _ iw_96) (u_same (hts _ iw_97)) rfl (by decide +kernel) rfl rfl (Nat.le_of_ble_eq_true rfl) dJx4a65c_add_9ea2d_7 (fun H locs hP hD hS => ?_)
  have hP : va_P (dC, dI) vwCl [(q, .inr (0, [.int x_1, .ref e, .int (nI n)])), (e, .inl (dC 8, cap, .inr (.inr (.inr (.inr f)))))] H := hP
  have hD : va_D A [(q, .inr (0, [.int x_1, .ref e, .int (nI n)])), (e, .inl (dC 8, cap, .inr (.inr (.inr (.inr f)))))] := hD
  refine lv_aload_n hx hb dJx4a65c_add_9ea2d_10 rfl (lv_at hl 0 rfl) ?_
  refine lv_aload_n hx hb dJx4a65c_add_9ea2d_11 rfl (lv_at hl 1 rfl) ?_
  refine lv_aload_n hx hb dJx4a65c_add_9ea2d_12 rfl (lv_at hl 0 rfl) ?_
  refine va_get (D := (dC, dI)) (ci := 0) (v := .ref e) (C := RJx4a65c) (T := TJx4a65c) (N := 3) hx hb hts inJx4a65c hown hK hP 0 rfl rfl 1 (by decide) (hts _ iw_93) (fun _ h9 => h9) rfl dJx4a65c_add_9ea2d_13 ?_
  refine lv_aload_n hx hb dJx4a65c_add_9ea2d_16 rfl (lv_at hl 0 rfl) ?_
  refine va_get (D := (dC, dI)) (ci := 0) (v := .int (nI n)) (C := RJx4a65c) (T := TJx4a65c) (N := 3) hx hb hts inJx4a65c hown hK hP 0 rfl rfl 2 (by decide) (hts _ iw_94) (fun _ h9 => h9) rfl dJx4a65c_add_9ea2d_17 ?_
  refine c_v (Pw := fun H9 => H9.size = H.size ∧ va_P (dC, dI) vwCl [(q, .inr (0, [.int x_1, .ref e, .int (nI n)])), (e, .inl (dC 8, cap, .inr (.inr (.inr (.inr f)))))] H9 ∧ va_D A [(q, .inr (0, [.int x_1, .ref e, .int (nI n)])), (e, .inl (dC 8, cap, .inr (.inr (.inr (.inr f)))))]) (n := 3) (As := [.ref x, .ref e, .int (nI n)]) (rest := []) S (q_addp_n l dC dI z mi A n f x q e H.size x_1 cap (fun y9 h9 => hA y9 (Nat.le_trans hS.1 h9)) (by omega) (by omega)) iw_236 iw_233 iw_235 iw_1 iw_60 (by decide +kernel) rfl ⟨rfl, rfl, Nat.le_of_ble_eq_true rfl, Nat.le_of_ble_eq_true rfl⟩ KL.blind (va_recv hK hP (ci := 0) (q0 := 0) rfl rfl) (hKL.at hS) ⟨rfl, hP, hD⟩ hl.1 rfl (Nat.le_of_ble_eq_true rfl) dJx4a65c_add_9ea2d_20 ⟨by decide, by decide⟩ hS (fun _ h9 => h9) (fun v9 H locs hB hz9 hk9 hS => ?_)
  refine W.widen (k := 1) (n := 610) (Nat.le_refl _) (Nat.le_refl _) ?_
  obtain ⟨r_2, cp_2, g_2, m_2, rfl, hc1_2, hc2_2, hg_2, hx_2, hP, hD⟩ := hB
  refine W.eq (g2 := F0 m9 23 ls []) rfl ?_
  have hP : va_P (dC, dI) vwCl [(q, .inr (0, [.int m_2, .ref r_2, .int (nI (n + 1))])), (r_2, .inl (dC 8, cp_2, .inr (.inr (.inr (.inr g_2)))))] H := hP
  have hD : va_D A [(q, .inr (0, [.int m_2, .ref r_2, .int (nI (n + 1))])), (r_2, .inl (dC 8, cp_2, .inr (.inr (.inr (.inr g_2)))))] := hD
  refine lv_iconst (v := 1) hx hb dJx4a65c_add_9ea2d_23 (by decide) ?_
  refine W.learn (fun lr1 lr2 lr3 => ?_)
  exact r_z (v := 1) hx hb hr rfl hlocks hS dJx4a65c_add_9ea2d_24 (⟨_, _, _, _, rfl, hc1_2, hc2_2, hg_2, hx_2, hP, hD, hSz.of lr1 (Nat.le_trans lr3 (by decide)), lr2⟩)

abbrev B_q_addp_o (dC : Nat → ClassId) (dI : Nat → Nat → Nat) (z : Nat) (mi : Nat) (A : Nat → Prop) (n : Nat) (f : Nat → Option Nat) (x : Nat) (q : Nat) (e : Nat) (sz : Nat) (m : Int32) : Option Value → Heap → Prop := fun v H => ∃ (r cp : Nat) (g : Nat → Option Nat) (m1 : Int32), v = none ∧ n < cp ∧ cp ≤ 610 ∧ (∀ t, t < n → g t = f t) ∧ g n = some x ∧ va_P (dC, dI) vwCl [(q, .inr (0, [.int m1, .ref r, .int (nI (n + 1))])), (r, .inl (dC 8, cp, .inr (.inr (.inr (.inr g)))))] H ∧ va_D A [(q, .inr (0, [.int m1, .ref r, .int (nI (n + 1))])), (r, .inl (dC 8, cp, .inr (.inr (.inr (.inr g)))))]
set_option maxHeartbeats 8000000 in
set_option maxRecDepth 20000 in
theorem q_addp_o (l : Launch) (dC : Nat → ClassId) (dI : Nat → Nat → Nat) (z : Nat) (mi : Nat) (A : Nat → Prop) (n : Nat) (f : Nat → Option Nat) (x : Nat) (q : Nat) (e : Nat) (sz : Nat) (m : Int32) (hA : ∀ y, sz ≤ y → A y) (hn0 : 0 < n) (hn4 : n ≤ 400) : Met l yJx4a65c_add_72be8 (cws yJx4a65c_add_72be8 cJx4a65c_add_72be8 4 none) { frames := 5, cells := 1, slots := 610, locals := 147 } (va_Pc [.ref q, .ref x, .ref e, .int (nI n)] (fun U => KL dC dI z mi A n f x U ∧ (fun H => H.size = sz ∧ va_P (dC, dI) vwCl [(q, .inr (0, [.int m, .ref e, .int (nI n)])), (e, .inl (dC 8, n, .inr (.inr (.inr (.inr f)))))] H ∧ va_D A [(q, .inr (0, [.int m, .ref e, .int (nI n)])), (e, .inl (dC 8, n, .inr (.inr (.inr (.inr f)))))]) U.heap)) (Qg (B_q_addp_o dC dI z mi A n f x q e sz m) A) 1 610 A := by
  refine m_start (KK := KL dC dI z mi A n f x) (Pw := (fun H => H.size = sz ∧ va_P (dC, dI) vwCl [(q, .inr (0, [.int m, .ref e, .int (nI n)])), (e, .inl (dC 8, n, .inr (.inr (.inr (.inr f)))))] H ∧ va_D A [(q, .inr (0, [.int m, .ref e, .int (nI n)])), (e, .inl (dC 8, n, .inr (.inr (.inr (.inr f)))))])) (by decide) (Nat.le_of_ble_eq_true rfl) ?_
  intro p e9 s m9 below meth c ls S hr hlocks hin hKL hW hS hl
  obtain ⟨hx, hb, hml, hown, hts⟩ := id S
  have hK := hKL.1
  obtain ⟨hsz, hP, hD⟩ := hW
  subst hsz
  have hl : lv_has ls 4 [(0, .ref q), (1, .ref x), (2, .ref e), (3, .int (nI n))] := hl
  have en_n : (nI n).toInt = ((n : Nat) : Int) := pz_ti (by omega)
  refine lv_iload_n hx hb dJx4a65c_add_72be8_0 rfl (lv_at hl 3 rfl) ?_
  refine lv_aload_n hx hb dJx4a65c_add_72be8_1 rfl (lv_at hl 2 rfl) ?_
  refine va_alen hx hb hK hP 1 2 rfl rfl (v := nI n) rfl dJx4a65c_add_72be8_2 ?_
  refine lv_icmp_ne (tgt := 11) hx hb dJx4a65c_add_72be8_3 (by decide) (fun c_1 => ?_) (fun c_1 => ?_)
  · skip
    have i_1 : ¬ (nI n).toInt = (nI n).toInt := by have h9 := pz_neq c_1; exact h9
    exfalso
    omega
  · skip
    have i_1 : (nI n).toInt = (nI n).toInt := by have h9 := pz_eq c_1; exact h9
    refine lv_aload_n hx hb dJx4a65c_add_72be8_6 rfl (lv_at hl 0 rfl) ?_
    refine c_v (Pw := fun H9 => H9.size = s.heap.size ∧ va_P (dC, dI) vwCl [(q, .inr (0, [.int m, .ref e, .int (nI n)])), (e, .inl (dC 8, n, .inr (.inr (.inr (.inr f)))))] H9 ∧ va_D A [(q, .inr (0, [.int m, .ref e, .int (nI n)])), (e, .inl (dC 8, n, .inr (.inr (.inr (.inr f)))))]) (n := 0) (As := []) (rest := []) S (q_grow_o l dC dI z mi A n f x q e s.heap.size m (fun y9 h9 => hA y9 (Nat.le_trans hS.1 h9)) (by omega) (by omega)) iw_240 iw_237 iw_239 iw_2 iw_60 (by decide +kernel) rfl ⟨rfl, rfl, Nat.le_of_ble_eq_true rfl, Nat.le_of_ble_eq_true rfl⟩ KL.blind (va_recv hK hP (ci := 0) (q0 := 0) rfl rfl) (hKL.at hS) ⟨rfl, hP, hD⟩ hl.1 rfl (Nat.le_of_ble_eq_true rfl) dJx4a65c_add_72be8_7 ⟨by decide, by decide⟩ hS (fun _ h9 => h9) (fun v9 H locs hB hz9 hk9 hS => ?_)
    refine W.widen (k := 1) (n := 610) (Nat.le_refl _) (Nat.le_refl _) ?_
    obtain ⟨r_2, cp_2, g_2, rfl, hc1_2, hc2_2, hg_2, hP, hD⟩ := hB
    refine W.eq (g2 := F0 m9 10 ls [.ref r_2]) rfl ?_
    have hP : va_P (dC, dI) vwCl [(q, .inr (0, [.int m, .ref r_2, .int (nI n)])), (r_2, .inl (dC 8, cp_2, .inr (.inr (.inr (.inr g_2)))))] H := hP
    have hD : va_D A [(q, .inr (0, [.int m, .ref r_2, .int (nI n)])), (r_2, .inl (dC 8, cp_2, .inr (.inr (.inr (.inr g_2)))))] := hD
    refine lv_astore_n (lv' := [(2, .ref r_2), (0, .ref q), (1, .ref x), (3, .int (nI n))]) hx hb dJx4a65c_add_72be8_10 rfl hl (by decide) rfl (fun ls hl => ?_)
    refine lv_aload_n hx hb dJx4a65c_add_72be8_11 rfl (lv_at hl 0 rfl) ?_
    refine lv_iload_n hx hb dJx4a65c_add_72be8_12 rfl (lv_at hl 3 rfl) ?_
    refine lv_aload_n hx hb dJx4a65c_add_72be8_13 rfl (lv_at hl 2 rfl) ?_
    refine va_astqM hx hb hK hP hD hS 1 2 rfl rfl (pzE.at (pz_Ekept hKL.2.2.2.2 hS)) (pz_vi (n := cp_2) (by omega) (by omega)) dJx4a65c_add_72be8_14 (fun H locs hP hD hS => ?_)
    have hP : va_P (dC, dI) vwCl [(q, .inr (0, [.int m, .ref r_2, .int (nI n)])), (r_2, .inl (dC 8, cp_2, .inr (.inr (.inr (.inr (va_up g_2 ((nI n).toNatClampNeg) (some x)))))))] H := hP
    have hD : va_D A [(q, .inr (0, [.int m, .ref r_2, .int (nI n)])), (r_2, .inl (dC 8, cp_2, .inr (.inr (.inr (.inr (va_up g_2 ((nI n).toNatClampNeg) (some x)))))))] := hD
    rw [pz_cl (by omega)] at hP hD
    have hP : va_P (dC, dI) vwCl [(q, .inr (0, [.int m, .ref r_2, .int (nI n)])), (r_2, .inl (dC 8, cp_2, .inr (.inr (.inr (.inr (va_up g_2 n (some x)))))))] H := hP
    have hD : va_D A [(q, .inr (0, [.int m, .ref r_2, .int (nI n)])), (r_2, .inl (dC 8, cp_2, .inr (.inr (.inr (.inr (va_up g_2 n (some x)))))))] := hD
    refine lv_aload_n hx hb dJx4a65c_add_72be8_15 rfl (lv_at hl 1 rfl) ?_
    refine lv_iload_n hx hb dJx4a65c_add_72be8_16 rfl (lv_at hl 3 rfl) ?_
    refine lv_iconst (v := 1) hx hb dJx4a65c_add_72be8_17 (by decide) ?_
    refine lv_iadd hx hb dJx4a65c_add_72be8_18 ?_
    refine lv_topi (fun x_3 ex_3 => ?_)
    obtain rfl : x_3 = nI (n + 1) := ex_3.trans (nI_add n 1)
    have en_4 : (nI (n + 1)).toInt = ((n + 1 : Nat) : Int) := pz_ti (by omega)
    refine va_put (D := (dC, dI)) (ci := 0) (v := .int (nI (n + 1))) (ty := .int) (C := RJx4a65c) (T := TJx4a65c) (N := 3) hx hb hts inJx4a65c tyJx4a65c tyJx4a65c_ok nmJx4a65c hown hK hP hD hS 0 rfl rfl 2 (by decide) (hts _ iw_94) (fun _ h9 => h9) rfl (by decide +kernel) rfl rfl (Nat.le_of_ble_eq_true rfl) dJx4a65c_add_72be8_19 (fun H locs hP hD hS => ?_)
    have hP : va_P (dC, dI) vwCl [(q, .inr (0, [.int m, .ref r_2, .int (nI (n + 1))])), (r_2, .inl (dC 8, cp_2, .inr (.inr (.inr (.inr (va_up g_2 n (some x)))))))] H := hP
    have hD : va_D A [(q, .inr (0, [.int m, .ref r_2, .int (nI (n + 1))])), (r_2, .inl (dC 8, cp_2, .inr (.inr (.inr (.inr (va_up g_2 n (some x)))))))] := hD
    exact r_v hx hb hr hlocks hS dJx4a65c_add_72be8_22 (⟨r_2, cp_2, (va_up g_2 n (some x)), m, rfl, by omega, by omega, fun t h9 => (vu_n (by omega)).trans (hg_2 t h9), vu_s, hP, hD⟩)

abbrev B_q_add_o (dC : Nat → ClassId) (dI : Nat → Nat → Nat) (z : Nat) (mi : Nat) (A : Nat → Prop) (n : Nat) (f : Nat → Option Nat) (x : Nat) (q : Nat) (e : Nat) (sz : Nat) (m : Int32) (bs : Nat) : Option Value → Heap → Prop := fun v H => ∃ (r cp : Nat) (g : Nat → Option Nat) (m1 : Int32), v = some (.int 1) ∧ n < cp ∧ cp ≤ 610 ∧ (∀ t, t < n → g t = f t) ∧ g n = some x ∧ va_P (dC, dI) vwCl [(q, .inr (0, [.int m1, .ref r, .int (nI (n + 1))])), (r, .inl (dC 8, cp, .inr (.inr (.inr (.inr g)))))] H ∧ va_D A [(q, .inr (0, [.int m1, .ref r, .int (nI (n + 1))])), (r, .inl (dC 8, cp, .inr (.inr (.inr (.inr g)))))] ∧ Sz bs H ∧ H.size ≤ sz + 1
set_option maxHeartbeats 8000000 in
set_option maxRecDepth 20000 in
theorem q_add_o (l : Launch) (dC : Nat → ClassId) (dI : Nat → Nat → Nat) (z : Nat) (mi : Nat) (A : Nat → Prop) (n : Nat) (f : Nat → Option Nat) (x : Nat) (q : Nat) (e : Nat) (sz : Nat) (m : Int32) (bs : Nat) (hA : ∀ y, sz ≤ y → A y) (hn0 : 0 < n) (hn4 : n ≤ 400) : Met l yJx4a65c_add_9ea2d (cws yJx4a65c_add_9ea2d cJx4a65c_add_9ea2d 2 (some .boolean)) { frames := 6, cells := 1, slots := 610, locals := 170 } (va_Pc [.ref q, .ref x] (fun U => KL dC dI z mi A n f x U ∧ (fun H => H.size = sz ∧ va_P (dC, dI) vwCl [(q, .inr (0, [.int m, .ref e, .int (nI n)])), (e, .inl (dC 8, n, .inr (.inr (.inr (.inr f)))))] H ∧ va_D A [(q, .inr (0, [.int m, .ref e, .int (nI n)])), (e, .inl (dC 8, n, .inr (.inr (.inr (.inr f)))))] ∧ Sz bs H) U.heap)) (Qg (B_q_add_o dC dI z mi A n f x q e sz m bs) A) 1 610 A := by
  refine m_start (KK := KL dC dI z mi A n f x) (Pw := (fun H => H.size = sz ∧ va_P (dC, dI) vwCl [(q, .inr (0, [.int m, .ref e, .int (nI n)])), (e, .inl (dC 8, n, .inr (.inr (.inr (.inr f)))))] H ∧ va_D A [(q, .inr (0, [.int m, .ref e, .int (nI n)])), (e, .inl (dC 8, n, .inr (.inr (.inr (.inr f)))))] ∧ Sz bs H)) (by decide) (Nat.le_of_ble_eq_true rfl) ?_
  intro p e9 s m9 below meth c ls S hr hlocks hin hKL hW hS hl
  obtain ⟨hx, hb, hml, hown, hts⟩ := id S
  have hK := hKL.1
  obtain ⟨hsz, hP, hD, hSz⟩ := hW
  subst hsz
  have hl : lv_has ls 2 [(0, .ref q), (1, .ref x)] := hl
  have en_n : (nI n).toInt = ((n : Nat) : Int) := pz_ti (by omega)
  refine lv_aload_n hx hb dJx4a65c_add_9ea2d_0 rfl (lv_at hl 0 rfl) ?_
  refine lv_dup hx hb dJx4a65c_add_9ea2d_1 rfl ?_
  refine va_get (D := (dC, dI)) (ci := 0) (v := .int m) (C := RJx4a65c) (T := TJx4a65c) (N := 3) hx hb hts inJx4a65c hown hK hP 0 rfl rfl 0 (by decide) (hts _ iw_96) (u_same (hts _ iw_97)) rfl dJx4a65c_add_9ea2d_2 ?_
  refine lv_iconst (v := 1) hx hb dJx4a65c_add_9ea2d_5 (by decide) ?_
  refine lv_iadd hx hb dJx4a65c_add_9ea2d_6 ?_
  refine lv_topi (fun x_1 _ => ?_)
  refine va_put (D := (dC, dI)) (ci := 0) (v := .int x_1) (ty := .int) (C := RJx4a65c) (T := TJx4a65c) (N := 3) hx hb hts inJx4a65c tyJx4a65c tyJx4a65c_ok nmJx4a65c hown hK hP hD hS 0 rfl rfl 0 (by decide) (hts _ iw_96) (u_same (hts _ iw_97)) rfl (by decide +kernel) rfl rfl (Nat.le_of_ble_eq_true rfl) dJx4a65c_add_9ea2d_7 (fun H locs hP hD hS => ?_)
  have hP : va_P (dC, dI) vwCl [(q, .inr (0, [.int x_1, .ref e, .int (nI n)])), (e, .inl (dC 8, n, .inr (.inr (.inr (.inr f)))))] H := hP
  have hD : va_D A [(q, .inr (0, [.int x_1, .ref e, .int (nI n)])), (e, .inl (dC 8, n, .inr (.inr (.inr (.inr f)))))] := hD
  refine lv_aload_n hx hb dJx4a65c_add_9ea2d_10 rfl (lv_at hl 0 rfl) ?_
  refine lv_aload_n hx hb dJx4a65c_add_9ea2d_11 rfl (lv_at hl 1 rfl) ?_
  refine lv_aload_n hx hb dJx4a65c_add_9ea2d_12 rfl (lv_at hl 0 rfl) ?_
  refine va_get (D := (dC, dI)) (ci := 0) (v := .ref e) (C := RJx4a65c) (T := TJx4a65c) (N := 3) hx hb hts inJx4a65c hown hK hP 0 rfl rfl 1 (by decide) (hts _ iw_93) (fun _ h9 => h9) rfl dJx4a65c_add_9ea2d_13 ?_
  refine lv_aload_n hx hb dJx4a65c_add_9ea2d_16 rfl (lv_at hl 0 rfl) ?_
  refine va_get (D := (dC, dI)) (ci := 0) (v := .int (nI n)) (C := RJx4a65c) (T := TJx4a65c) (N := 3) hx hb hts inJx4a65c hown hK hP 0 rfl rfl 2 (by decide) (hts _ iw_94) (fun _ h9 => h9) rfl dJx4a65c_add_9ea2d_17 ?_
  refine c_v (Pw := fun H9 => H9.size = H.size ∧ va_P (dC, dI) vwCl [(q, .inr (0, [.int x_1, .ref e, .int (nI n)])), (e, .inl (dC 8, n, .inr (.inr (.inr (.inr f)))))] H9 ∧ va_D A [(q, .inr (0, [.int x_1, .ref e, .int (nI n)])), (e, .inl (dC 8, n, .inr (.inr (.inr (.inr f)))))]) (n := 3) (As := [.ref x, .ref e, .int (nI n)]) (rest := []) S (q_addp_o l dC dI z mi A n f x q e H.size x_1 (fun y9 h9 => hA y9 (Nat.le_trans hS.1 h9)) (by omega) (by omega)) iw_236 iw_233 iw_235 iw_1 iw_60 (by decide +kernel) rfl ⟨rfl, rfl, Nat.le_of_ble_eq_true rfl, Nat.le_of_ble_eq_true rfl⟩ KL.blind (va_recv hK hP (ci := 0) (q0 := 0) rfl rfl) (hKL.at hS) ⟨rfl, hP, hD⟩ hl.1 rfl (Nat.le_of_ble_eq_true rfl) dJx4a65c_add_9ea2d_20 ⟨by decide, by decide⟩ hS (fun _ h9 => h9) (fun v9 H locs hB hz9 hk9 hS => ?_)
  refine W.widen (k := 1) (n := 610) (Nat.le_refl _) (Nat.le_refl _) ?_
  obtain ⟨r_2, cp_2, g_2, m_2, rfl, hc1_2, hc2_2, hg_2, hx_2, hP, hD⟩ := hB
  refine W.eq (g2 := F0 m9 23 ls []) rfl ?_
  have hP : va_P (dC, dI) vwCl [(q, .inr (0, [.int m_2, .ref r_2, .int (nI (n + 1))])), (r_2, .inl (dC 8, cp_2, .inr (.inr (.inr (.inr g_2)))))] H := hP
  have hD : va_D A [(q, .inr (0, [.int m_2, .ref r_2, .int (nI (n + 1))])), (r_2, .inl (dC 8, cp_2, .inr (.inr (.inr (.inr g_2)))))] := hD
  refine lv_iconst (v := 1) hx hb dJx4a65c_add_9ea2d_23 (by decide) ?_
  refine W.learn (fun lr1 lr2 lr3 => ?_)
  exact r_z (v := 1) hx hb hr rfl hlocks hS dJx4a65c_add_9ea2d_24 (⟨_, _, _, _, rfl, hc1_2, hc2_2, hg_2, hx_2, hP, hD, hSz.of lr1 (Nat.le_trans lr3 (by decide)), lr2⟩)

abbrev B_q_addp_z (dC : Nat → ClassId) (dI : Nat → Nat → Nat) (z : Nat) (mi : Nat) (A : Nat → Prop) (n : Nat) (f : Nat → Option Nat) (x : Nat) (q : Nat) (e : Nat) (sz : Nat) (m : Int32) : Option Value → Heap → Prop := fun v H => ∃ (r cp : Nat) (g : Nat → Option Nat) (m1 : Int32), v = none ∧ 0 < cp ∧ cp ≤ 610 ∧ (∀ t, t < 0 → g t = f t) ∧ g 0 = some x ∧ va_P (dC, dI) vwCl [(q, .inr (0, [.int m1, .ref r, .int (nI (0 + 1))])), (r, .inl (dC 8, cp, .inr (.inr (.inr (.inr g)))))] H ∧ va_D A [(q, .inr (0, [.int m1, .ref r, .int (nI (0 + 1))])), (r, .inl (dC 8, cp, .inr (.inr (.inr (.inr g)))))]
set_option maxHeartbeats 8000000 in
set_option maxRecDepth 20000 in
theorem q_addp_z (l : Launch) (dC : Nat → ClassId) (dI : Nat → Nat → Nat) (z : Nat) (mi : Nat) (A : Nat → Prop) (n : Nat) (f : Nat → Option Nat) (x : Nat) (q : Nat) (e : Nat) (sz : Nat) (m : Int32) (hA : ∀ y, sz ≤ y → A y) : Met l yJx4a65c_add_72be8 (cws yJx4a65c_add_72be8 cJx4a65c_add_72be8 4 none) { frames := 3, cells := 1, slots := 610, locals := 57 } (va_Pc [.ref q, .ref x, .ref z, .int (nI 0)] (fun U => KL dC dI z mi A n f x U ∧ (fun H => H.size = sz ∧ va_P (dC, dI) vwCl [(q, .inr (0, [.int m, .ref z, .int (nI 0)]))] H ∧ va_D A [(q, .inr (0, [.int m, .ref z, .int (nI 0)]))]) U.heap)) (Qg (B_q_addp_z dC dI z mi A n f x q e sz m) A) 1 610 A := by
  refine m_start (KK := KL dC dI z mi A n f x) (Pw := (fun H => H.size = sz ∧ va_P (dC, dI) vwCl [(q, .inr (0, [.int m, .ref z, .int (nI 0)]))] H ∧ va_D A [(q, .inr (0, [.int m, .ref z, .int (nI 0)]))])) (by decide) (Nat.le_of_ble_eq_true rfl) ?_
  intro p e9 s m9 below meth c ls S hr hlocks hin hKL hW hS hl
  obtain ⟨hx, hb, hml, hown, hts⟩ := id S
  have hK := hKL.1
  obtain ⟨hsz, hP, hD⟩ := hW
  subst hsz
  have hl : lv_has ls 4 [(0, .ref q), (1, .ref x), (2, .ref z), (3, .int (nI 0))] := hl
  have en_0 : (nI 0).toInt = 0 := by decide
  refine lv_iload_n hx hb dJx4a65c_add_72be8_0 rfl (lv_at hl 3 rfl) ?_
  refine lv_aload_n hx hb dJx4a65c_add_72be8_1 rfl (lv_at hl 2 rfl) ?_
  refine va_tlen hx hb hKL.2.1.2.1 hS (v := 0) rfl dJx4a65c_add_72be8_2 ?_
  refine lv_icmp_ne (tgt := 11) hx hb dJx4a65c_add_72be8_3 (by decide) (fun c_1 => ?_) (fun c_1 => ?_)
  · skip
    have i_1 : ¬ (nI 0).toInt = 0 := by have h9 := pz_neq c_1; exact h9
    exfalso
    omega
  · skip
    have i_1 : (nI 0).toInt = 0 := by have h9 := pz_eq c_1; exact h9
    refine lv_aload_n hx hb dJx4a65c_add_72be8_6 rfl (lv_at hl 0 rfl) ?_
    refine c_v (Pw := fun H9 => H9.size = s.heap.size ∧ va_P (dC, dI) vwCl [(q, .inr (0, [.int m, .ref z, .int (nI 0)]))] H9 ∧ va_D A [(q, .inr (0, [.int m, .ref z, .int (nI 0)]))]) (n := 0) (As := []) (rest := []) S (q_grow_z l dC dI z mi A n f x q e s.heap.size m (fun y9 h9 => hA y9 (Nat.le_trans hS.1 h9))) iw_240 iw_237 iw_239 iw_2 iw_60 (by decide +kernel) rfl ⟨rfl, rfl, Nat.le_of_ble_eq_true rfl, Nat.le_of_ble_eq_true rfl⟩ KL.blind (va_recv hK hP (ci := 0) (q0 := 0) rfl rfl) (hKL.at hS) ⟨rfl, hP, hD⟩ hl.1 rfl (Nat.le_of_ble_eq_true rfl) dJx4a65c_add_72be8_7 ⟨by decide, by decide⟩ hS (fun _ h9 => h9) (fun v9 H locs hB hz9 hk9 hS => ?_)
    refine W.widen (k := 1) (n := 610) (Nat.le_refl _) (Nat.le_refl _) ?_
    obtain ⟨r_2, cp_2, g_2, rfl, hc1_2, hc2_2, hg_2, hP, hD⟩ := hB
    refine W.eq (g2 := F0 m9 10 ls [.ref r_2]) rfl ?_
    have hP : va_P (dC, dI) vwCl [(q, .inr (0, [.int m, .ref r_2, .int (nI 0)])), (r_2, .inl (dC 8, cp_2, .inr (.inr (.inr (.inr g_2)))))] H := hP
    have hD : va_D A [(q, .inr (0, [.int m, .ref r_2, .int (nI 0)])), (r_2, .inl (dC 8, cp_2, .inr (.inr (.inr (.inr g_2)))))] := hD
    refine lv_astore_n (lv' := [(2, .ref r_2), (0, .ref q), (1, .ref x), (3, .int (nI 0))]) hx hb dJx4a65c_add_72be8_10 rfl hl (by decide) rfl (fun ls hl => ?_)
    refine lv_aload_n hx hb dJx4a65c_add_72be8_11 rfl (lv_at hl 0 rfl) ?_
    refine lv_iload_n hx hb dJx4a65c_add_72be8_12 rfl (lv_at hl 3 rfl) ?_
    refine lv_aload_n hx hb dJx4a65c_add_72be8_13 rfl (lv_at hl 2 rfl) ?_
    refine va_astqM hx hb hK hP hD hS 1 2 rfl rfl (pzE.at (pz_Ekept hKL.2.2.2.2 hS)) (pz_vi (n := cp_2) (by omega) (by omega)) dJx4a65c_add_72be8_14 (fun H locs hP hD hS => ?_)
    have hP : va_P (dC, dI) vwCl [(q, .inr (0, [.int m, .ref r_2, .int (nI 0)])), (r_2, .inl (dC 8, cp_2, .inr (.inr (.inr (.inr (va_up g_2 ((nI 0).toNatClampNeg) (some x)))))))] H := hP
    have hD : va_D A [(q, .inr (0, [.int m, .ref r_2, .int (nI 0)])), (r_2, .inl (dC 8, cp_2, .inr (.inr (.inr (.inr (va_up g_2 ((nI 0).toNatClampNeg) (some x)))))))] := hD
    rw [pz_cl (by omega)] at hP hD
    have hP : va_P (dC, dI) vwCl [(q, .inr (0, [.int m, .ref r_2, .int (nI 0)])), (r_2, .inl (dC 8, cp_2, .inr (.inr (.inr (.inr (va_up g_2 0 (some x)))))))] H := hP
    have hD : va_D A [(q, .inr (0, [.int m, .ref r_2, .int (nI 0)])), (r_2, .inl (dC 8, cp_2, .inr (.inr (.inr (.inr (va_up g_2 0 (some x)))))))] := hD
    refine lv_aload_n hx hb dJx4a65c_add_72be8_15 rfl (lv_at hl 1 rfl) ?_
    refine lv_iload_n hx hb dJx4a65c_add_72be8_16 rfl (lv_at hl 3 rfl) ?_
    refine lv_iconst (v := 1) hx hb dJx4a65c_add_72be8_17 (by decide) ?_
    refine lv_iadd hx hb dJx4a65c_add_72be8_18 ?_
    refine lv_topi (fun x_3 ex_3 => ?_)
    obtain rfl : x_3 = nI (0 + 1) := ex_3.trans (nI_add 0 1)
    have en_4 : (nI (0 + 1)).toInt = ((0 + 1 : Nat) : Int) := pz_ti (by omega)
    refine va_put (D := (dC, dI)) (ci := 0) (v := .int (nI (0 + 1))) (ty := .int) (C := RJx4a65c) (T := TJx4a65c) (N := 3) hx hb hts inJx4a65c tyJx4a65c tyJx4a65c_ok nmJx4a65c hown hK hP hD hS 0 rfl rfl 2 (by decide) (hts _ iw_94) (fun _ h9 => h9) rfl (by decide +kernel) rfl rfl (Nat.le_of_ble_eq_true rfl) dJx4a65c_add_72be8_19 (fun H locs hP hD hS => ?_)
    have hP : va_P (dC, dI) vwCl [(q, .inr (0, [.int m, .ref r_2, .int (nI (0 + 1))])), (r_2, .inl (dC 8, cp_2, .inr (.inr (.inr (.inr (va_up g_2 0 (some x)))))))] H := hP
    have hD : va_D A [(q, .inr (0, [.int m, .ref r_2, .int (nI (0 + 1))])), (r_2, .inl (dC 8, cp_2, .inr (.inr (.inr (.inr (va_up g_2 0 (some x)))))))] := hD
    exact r_v hx hb hr hlocks hS dJx4a65c_add_72be8_22 (⟨r_2, cp_2, (va_up g_2 0 (some x)), m, rfl, by omega, by omega, fun t h9 => (vu_n (by omega)).trans (hg_2 t h9), vu_s, hP, hD⟩)

abbrev B_q_add_z (dC : Nat → ClassId) (dI : Nat → Nat → Nat) (z : Nat) (mi : Nat) (A : Nat → Prop) (n : Nat) (f : Nat → Option Nat) (x : Nat) (q : Nat) (e : Nat) (sz : Nat) (m : Int32) (bs : Nat) : Option Value → Heap → Prop := fun v H => ∃ (r cp : Nat) (g : Nat → Option Nat) (m1 : Int32), v = some (.int 1) ∧ 0 < cp ∧ cp ≤ 610 ∧ (∀ t, t < 0 → g t = f t) ∧ g 0 = some x ∧ va_P (dC, dI) vwCl [(q, .inr (0, [.int m1, .ref r, .int (nI (0 + 1))])), (r, .inl (dC 8, cp, .inr (.inr (.inr (.inr g)))))] H ∧ va_D A [(q, .inr (0, [.int m1, .ref r, .int (nI (0 + 1))])), (r, .inl (dC 8, cp, .inr (.inr (.inr (.inr g)))))] ∧ Sz bs H ∧ H.size ≤ sz + 1
set_option maxHeartbeats 8000000 in
set_option maxRecDepth 20000 in
theorem q_add_z (l : Launch) (dC : Nat → ClassId) (dI : Nat → Nat → Nat) (z : Nat) (mi : Nat) (A : Nat → Prop) (n : Nat) (f : Nat → Option Nat) (x : Nat) (q : Nat) (e : Nat) (sz : Nat) (m : Int32) (bs : Nat) (hA : ∀ y, sz ≤ y → A y) : Met l yJx4a65c_add_9ea2d (cws yJx4a65c_add_9ea2d cJx4a65c_add_9ea2d 2 (some .boolean)) { frames := 4, cells := 1, slots := 610, locals := 80 } (va_Pc [.ref q, .ref x] (fun U => KL dC dI z mi A n f x U ∧ (fun H => H.size = sz ∧ va_P (dC, dI) vwCl [(q, .inr (0, [.int m, .ref z, .int (nI 0)]))] H ∧ va_D A [(q, .inr (0, [.int m, .ref z, .int (nI 0)]))] ∧ Sz bs H) U.heap)) (Qg (B_q_add_z dC dI z mi A n f x q e sz m bs) A) 1 610 A := by
  refine m_start (KK := KL dC dI z mi A n f x) (Pw := (fun H => H.size = sz ∧ va_P (dC, dI) vwCl [(q, .inr (0, [.int m, .ref z, .int (nI 0)]))] H ∧ va_D A [(q, .inr (0, [.int m, .ref z, .int (nI 0)]))] ∧ Sz bs H)) (by decide) (Nat.le_of_ble_eq_true rfl) ?_
  intro p e9 s m9 below meth c ls S hr hlocks hin hKL hW hS hl
  obtain ⟨hx, hb, hml, hown, hts⟩ := id S
  have hK := hKL.1
  obtain ⟨hsz, hP, hD, hSz⟩ := hW
  subst hsz
  have hl : lv_has ls 2 [(0, .ref q), (1, .ref x)] := hl
  have en_0 : (nI 0).toInt = 0 := by decide
  refine lv_aload_n hx hb dJx4a65c_add_9ea2d_0 rfl (lv_at hl 0 rfl) ?_
  refine lv_dup hx hb dJx4a65c_add_9ea2d_1 rfl ?_
  refine va_get (D := (dC, dI)) (ci := 0) (v := .int m) (C := RJx4a65c) (T := TJx4a65c) (N := 3) hx hb hts inJx4a65c hown hK hP 0 rfl rfl 0 (by decide) (hts _ iw_96) (u_same (hts _ iw_97)) rfl dJx4a65c_add_9ea2d_2 ?_
  refine lv_iconst (v := 1) hx hb dJx4a65c_add_9ea2d_5 (by decide) ?_
  refine lv_iadd hx hb dJx4a65c_add_9ea2d_6 ?_
  refine lv_topi (fun x_1 _ => ?_)
  refine va_put (D := (dC, dI)) (ci := 0) (v := .int x_1) (ty := .int) (C := RJx4a65c) (T := TJx4a65c) (N := 3) hx hb hts inJx4a65c tyJx4a65c tyJx4a65c_ok nmJx4a65c hown hK hP hD hS 0 rfl rfl 0 (by decide) (hts _ iw_96) (u_same (hts _ iw_97)) rfl (by decide +kernel) rfl rfl (Nat.le_of_ble_eq_true rfl) dJx4a65c_add_9ea2d_7 (fun H locs hP hD hS => ?_)
  have hP : va_P (dC, dI) vwCl [(q, .inr (0, [.int x_1, .ref z, .int (nI 0)]))] H := hP
  have hD : va_D A [(q, .inr (0, [.int x_1, .ref z, .int (nI 0)]))] := hD
  refine lv_aload_n hx hb dJx4a65c_add_9ea2d_10 rfl (lv_at hl 0 rfl) ?_
  refine lv_aload_n hx hb dJx4a65c_add_9ea2d_11 rfl (lv_at hl 1 rfl) ?_
  refine lv_aload_n hx hb dJx4a65c_add_9ea2d_12 rfl (lv_at hl 0 rfl) ?_
  refine va_get (D := (dC, dI)) (ci := 0) (v := .ref z) (C := RJx4a65c) (T := TJx4a65c) (N := 3) hx hb hts inJx4a65c hown hK hP 0 rfl rfl 1 (by decide) (hts _ iw_93) (fun _ h9 => h9) rfl dJx4a65c_add_9ea2d_13 ?_
  refine lv_aload_n hx hb dJx4a65c_add_9ea2d_16 rfl (lv_at hl 0 rfl) ?_
  refine va_get (D := (dC, dI)) (ci := 0) (v := .int (nI 0)) (C := RJx4a65c) (T := TJx4a65c) (N := 3) hx hb hts inJx4a65c hown hK hP 0 rfl rfl 2 (by decide) (hts _ iw_94) (fun _ h9 => h9) rfl dJx4a65c_add_9ea2d_17 ?_
  refine c_v (Pw := fun H9 => H9.size = H.size ∧ va_P (dC, dI) vwCl [(q, .inr (0, [.int x_1, .ref z, .int (nI 0)]))] H9 ∧ va_D A [(q, .inr (0, [.int x_1, .ref z, .int (nI 0)]))]) (n := 3) (As := [.ref x, .ref z, .int (nI 0)]) (rest := []) S (q_addp_z l dC dI z mi A n f x q e H.size x_1 (fun y9 h9 => hA y9 (Nat.le_trans hS.1 h9))) iw_236 iw_233 iw_235 iw_1 iw_60 (by decide +kernel) rfl ⟨rfl, rfl, Nat.le_of_ble_eq_true rfl, Nat.le_of_ble_eq_true rfl⟩ KL.blind (va_recv hK hP (ci := 0) (q0 := 0) rfl rfl) (hKL.at hS) ⟨rfl, hP, hD⟩ hl.1 rfl (Nat.le_of_ble_eq_true rfl) dJx4a65c_add_9ea2d_20 ⟨by decide, by decide⟩ hS (fun _ h9 => h9) (fun v9 H locs hB hz9 hk9 hS => ?_)
  refine W.widen (k := 1) (n := 610) (Nat.le_refl _) (Nat.le_refl _) ?_
  obtain ⟨r_2, cp_2, g_2, m_2, rfl, hc1_2, hc2_2, hg_2, hx_2, hP, hD⟩ := hB
  refine W.eq (g2 := F0 m9 23 ls []) rfl ?_
  have hP : va_P (dC, dI) vwCl [(q, .inr (0, [.int m_2, .ref r_2, .int (nI (0 + 1))])), (r_2, .inl (dC 8, cp_2, .inr (.inr (.inr (.inr g_2)))))] H := hP
  have hD : va_D A [(q, .inr (0, [.int m_2, .ref r_2, .int (nI (0 + 1))])), (r_2, .inl (dC 8, cp_2, .inr (.inr (.inr (.inr g_2)))))] := hD
  refine lv_iconst (v := 1) hx hb dJx4a65c_add_9ea2d_23 (by decide) ?_
  refine W.learn (fun lr1 lr2 lr3 => ?_)
  exact r_z (v := 1) hx hb hr rfl hlocks hS dJx4a65c_add_9ea2d_24 (⟨_, _, _, _, rfl, hc1_2, hc2_2, hg_2, hx_2, hP, hD, hSz.of lr1 (Nat.le_trans lr3 (by decide)), lr2⟩)

abbrev B_q_size (dC : Nat → ClassId) (dI : Nat → Nat → Nat) (A : Nat → Prop) (P : Heap → Prop) (q : Nat) (n : Nat) : Option Value → Heap → Prop := fun v H => v = some (.int (nI n)) ∧ P H
set_option maxHeartbeats 8000000 in
set_option maxRecDepth 20000 in
theorem q_size (l : Launch) (dC : Nat → ClassId) (dI : Nat → Nat → Nat) (A : Nat → Prop) (P : Heap → Prop) (q : Nat) (n : Nat) (hP9 : ∀ H, P H → ∃ (m : Int32) (e : Nat), oat dC dI q 0 [.int m, .ref e, .int (nI n)] H) : Met l yJx4a65c_size_8abf5 (cws yJx4a65c_size_8abf5 cJx4a65c_size_8abf5 1 (some .int)) { frames := 0, cells := 0, slots := 0, locals := 0 } (va_Pc [.ref q] (fun U => Kt dC dI U ∧ P U.heap)) (Qg (B_q_size dC dI A P q n) A) 0 0 A := by
  refine m_start (KK := Kt dC dI) (Pw := P) (by decide) (Nat.le_of_ble_eq_true rfl) ?_
  intro p e9 s m9 below meth c ls S hr hlocks hin hK hW hS hl
  obtain ⟨hx, hb, hml, hown, hts⟩ := id S
  have hl : lv_has ls 1 [(0, .ref q)] := hl
  obtain ⟨m, e, hL9⟩ := hP9 _ hW
  have hP := va_P1 hL9
  refine lv_aload_n hx hb dJx4a65c_size_8abf5_0 rfl (lv_at hl 0 rfl) ?_
  refine va_get (D := (dC, dI)) (ci := 0) (v := .int (nI n)) (C := RJx4a65c) (T := TJx4a65c) (N := 3) hx hb hts inJx4a65c hown hK hP 0 rfl rfl 2 (by decide) (hts _ iw_94) (fun _ h9 => h9) rfl dJx4a65c_size_8abf5_1 ?_
  exact r_i (v := (nI n)) hx hb hr hlocks hS dJx4a65c_size_8abf5_4 (⟨rfl, hW⟩)

abbrev B_q_rca (dC : Nat → ClassId) (dI : Nat → Nat → Nat) (A : Nat → Prop) (P : Heap → Prop) (q : Nat) (n : Nat) (i : Nat) : Option Value → Heap → Prop := fun v H => v = none ∧ P H
set_option maxHeartbeats 8000000 in
set_option maxRecDepth 20000 in
theorem q_rca (l : Launch) (dC : Nat → ClassId) (dI : Nat → Nat → Nat) (A : Nat → Prop) (P : Heap → Prop) (q : Nat) (n : Nat) (i : Nat) (hP9 : ∀ H, P H → ∃ (m : Int32) (e : Nat), oat dC dI q 0 [.int m, .ref e, .int (nI n)] H) (hi : i ≤ n) (hn : n < 1000) : Met l yJx4a65c_rangeCheckForAdd_d00df (cws yJx4a65c_rangeCheckForAdd_d00df cJx4a65c_rangeCheckForAdd_d00df 2 none) { frames := 0, cells := 0, slots := 0, locals := 0 } (va_Pc [.ref q, .int (nI i)] (fun U => Kt dC dI U ∧ P U.heap)) (Qg (B_q_rca dC dI A P q n i) A) 0 0 A := by
  refine m_start (KK := Kt dC dI) (Pw := P) (by decide) (Nat.le_of_ble_eq_true rfl) ?_
  intro p e9 s m9 below meth c ls S hr hlocks hin hK hW hS hl
  obtain ⟨hx, hb, hml, hown, hts⟩ := id S
  have hl : lv_has ls 2 [(0, .ref q), (1, .int (nI i))] := hl
  obtain ⟨m, e, hL9⟩ := hP9 _ hW
  have hP := va_P1 hL9
  have en_i : (nI i).toInt = ((i : Nat) : Int) := pz_ti (by omega)
  have en_n : (nI n).toInt = ((n : Nat) : Int) := pz_ti (by omega)
  refine lv_iload_n hx hb dJx4a65c_rangeCheckForAdd_d00df_0 rfl (lv_at hl 1 rfl) ?_
  refine lv_aload_n hx hb dJx4a65c_rangeCheckForAdd_d00df_1 rfl (lv_at hl 0 rfl) ?_
  refine va_get (D := (dC, dI)) (ci := 0) (v := .int (nI n)) (C := RJx4a65c) (T := TJx4a65c) (N := 3) hx hb hts inJx4a65c hown hK hP 0 rfl rfl 2 (by decide) (hts _ iw_94) (fun _ h9 => h9) rfl dJx4a65c_rangeCheckForAdd_d00df_2 ?_
  refine lv_icmp_gt (tgt := 12) hx hb dJx4a65c_rangeCheckForAdd_d00df_5 (by decide) (fun c_1 => ?_) (fun c_1 => ?_)
  · skip
    have i_1 : (nI i).toInt > (nI n).toInt := by have h9 := pz_gt c_1; exact h9
    exfalso
    omega
  · skip
    have i_1 : (nI i).toInt ≤ (nI n).toInt := by have h9 := pz_ngt c_1; exact h9
    refine lv_iload_n hx hb dJx4a65c_rangeCheckForAdd_d00df_8 rfl (lv_at hl 1 rfl) ?_
    refine lv_if_ge (tgt := 25) hx hb dJx4a65c_rangeCheckForAdd_d00df_9 (by decide) (fun c_2 => ?_) (fun c_2 => ?_)
    · skip
      have i_2 : (nI i).toInt ≥ 0 := by have h9 := pz_ge c_2; exact h9
      exact r_v hx hb hr hlocks hS dJx4a65c_rangeCheckForAdd_d00df_25 (⟨rfl, hW⟩)
    · skip
      have i_2 : (nI i).toInt < 0 := by have h9 := pz_nge c_2; exact h9
      exfalso
      omega

abbrev B_q_elem (dC : Nat → ClassId) (dI : Nat → Nat → Nat) (A : Nat → Prop) (P : Heap → Prop) (q : Nat) (n : Nat) (i : Nat) (ok : Nat → Prop) : Option Value → Heap → Prop := fun v H => ∃ r : Nat, v = some (.ref r) ∧ ok r ∧ P H
set_option maxHeartbeats 8000000 in
set_option maxRecDepth 20000 in
theorem q_elem (l : Launch) (dC : Nat → ClassId) (dI : Nat → Nat → Nat) (A : Nat → Prop) (P : Heap → Prop) (q : Nat) (n : Nat) (i : Nat) (ok : Nat → Prop) (hP9 : ∀ H, P H → ∃ (m : Int32) (e cap : Nat) (f : Nat → Option Nat) (r : Nat), oat dC dI q 0 [.int m, .ref e, .int (nI n)] H ∧ qat dC dI e cap f H ∧ n ≤ cap ∧ cap < 1000 ∧ f i = some r ∧ ok r) (hi : i < n) : Met l yJx4a65c_elementData_915e3 (cws yJx4a65c_elementData_915e3 cJx4a65c_elementData_915e3 2 (some (.object "java/lang/Object"))) { frames := 0, cells := 0, slots := 0, locals := 0 } (va_Pc [.ref q, .int (nI i)] (fun U => Kt dC dI U ∧ P U.heap)) (Qg (B_q_elem dC dI A P q n i ok) A) 0 0 A := by
  refine m_start (KK := Kt dC dI) (Pw := P) (by decide) (Nat.le_of_ble_eq_true rfl) ?_
  intro p e9 s m9 below meth c ls S hr hlocks hin hK hW hS hl
  obtain ⟨hx, hb, hml, hown, hts⟩ := id S
  have hl : lv_has ls 2 [(0, .ref q), (1, .int (nI i))] := hl
  obtain ⟨m, e, cap, f, r, hL9, hQ9, hcap, hc1, hfi, hok⟩ := hP9 _ hW
  have hP := va_P2 hL9 hQ9
  have en_i : (nI i).toInt = ((i : Nat) : Int) := pz_ti (by omega)
  have en_n : (nI n).toInt = ((n : Nat) : Int) := pz_ti (by omega)
  refine lv_aload_n hx hb dJx4a65c_elementData_915e3_0 rfl (lv_at hl 0 rfl) ?_
  refine va_get (D := (dC, dI)) (ci := 0) (v := .ref e) (C := RJx4a65c) (T := TJx4a65c) (N := 3) hx hb hts inJx4a65c hown hK hP 0 rfl rfl 1 (by decide) (hts _ iw_93) (fun _ h9 => h9) rfl dJx4a65c_elementData_915e3_1 ?_
  refine lv_iload_n hx hb dJx4a65c_elementData_915e3_4 rfl (lv_at hl 1 rfl) ?_
  refine va_aldq hx hb hK hP 1 2 rfl rfl (pz_vi (n := cap) (by omega) (by omega)) dJx4a65c_elementData_915e3_5 ?_
  rw [pz_cl (by omega), hfi]
  refine W.eq (g2 := F0 m9 6 ls [.ref r]) rfl ?_
  exact r_a (o := some r) hx hb hr (Or.inl ⟨_, rfl⟩) hlocks hS dJx4a65c_elementData_915e3_6 (⟨_, rfl, hok, hW⟩)

abbrev B_q_get (dC : Nat → ClassId) (dI : Nat → Nat → Nat) (A : Nat → Prop) (P : Heap → Prop) (q : Nat) (n : Nat) (i : Nat) (ok : Nat → Prop) : Option Value → Heap → Prop := fun v H => ∃ r : Nat, v = some (.ref r) ∧ ok r ∧ P H
set_option maxHeartbeats 8000000 in
set_option maxRecDepth 20000 in
theorem q_get (l : Launch) (dC : Nat → ClassId) (dI : Nat → Nat → Nat) (A : Nat → Prop) (P : Heap → Prop) (q : Nat) (n : Nat) (i : Nat) (ok : Nat → Prop) (hP9 : ∀ H, P H → ∃ (m : Int32) (e cap : Nat) (f : Nat → Option Nat) (r : Nat), oat dC dI q 0 [.int m, .ref e, .int (nI n)] H ∧ qat dC dI e cap f H ∧ n ≤ cap ∧ cap < 1000 ∧ f i = some r ∧ ok r) (hi : i < n) : Met l yJx4a65c_get_915e3 (cws yJx4a65c_get_915e3 cJx4a65c_get_915e3 2 (some (.object "java/lang/Object"))) { frames := 2, cells := 0, slots := 0, locals := 43 } (va_Pc [.ref q, .int (nI i)] (fun U => Kt dC dI U ∧ P U.heap)) (Qg (B_q_get dC dI A P q n i ok) A) 0 0 A := by
  refine m_start (KK := Kt dC dI) (Pw := P) (by decide) (Nat.le_of_ble_eq_true rfl) ?_
  intro p e9 s m9 below meth c ls S hr hlocks hin hK hW hS hl
  obtain ⟨hx, hb, hml, hown, hts⟩ := id S
  have hl : lv_has ls 2 [(0, .ref q), (1, .int (nI i))] := hl
  obtain ⟨m, e, cap, f, r, hL9, hQ9, hcap, hc1, hfi, hok⟩ := hP9 _ hW
  have hP := va_P2 hL9 hQ9
  have en_i : (nI i).toInt = ((i : Nat) : Int) := pz_ti (by omega)
  have en_n : (nI n).toInt = ((n : Nat) : Int) := pz_ti (by omega)
  refine lv_iload_n hx hb dJx4a65c_get_915e3_0 rfl (lv_at hl 1 rfl) ?_
  refine lv_aload_n hx hb dJx4a65c_get_915e3_1 rfl (lv_at hl 0 rfl) ?_
  refine va_get (D := (dC, dI)) (ci := 0) (v := .int (nI n)) (C := RJx4a65c) (T := TJx4a65c) (N := 3) hx hb hts inJx4a65c hown hK hP 0 rfl rfl 2 (by decide) (hts _ iw_94) (fun _ h9 => h9) rfl dJx4a65c_get_915e3_2 ?_
  refine c_s (Pw := P) (n := 2) (As := [.int (nI i), .int (nI n)]) (rest := []) S (q_J15 l A P i n (by omega) (by omega)) iw_296 iw_294 iw_295 iw_67 (by decide +kernel) rfl ⟨rfl, rfl, Nat.le_of_ble_eq_true rfl, Nat.le_of_ble_eq_true rfl⟩ (fun _ _ _ _ _ => trivial) (fun _ _ _ => trivial) hW hl.1 rfl (Nat.le_of_ble_eq_true rfl) dJx4a65c_get_915e3_5 ⟨by decide, by decide⟩ hS (fun _ h9 => h9) (fun v9 H locs hB hz9 hk9 hS => ?_)
  refine W.widen (k := 0) (n := 0) (Nat.le_refl _) (Nat.le_refl _) ?_
  obtain ⟨rfl, hW⟩ := hB
  obtain ⟨m, e, cap, f, r, hL9, hQ9, hcap, hc1, hfi, hok⟩ := hP9 _ hW
  have hP := va_P2 hL9 hQ9
  refine W.eq (g2 := F0 m9 8 ls [.int (nI i)]) rfl ?_
  refine lv_pop hx hb dJx4a65c_get_915e3_8 rfl ?_
  refine lv_aload_n hx hb dJx4a65c_get_915e3_9 rfl (lv_at hl 0 rfl) ?_
  refine lv_iload_n hx hb dJx4a65c_get_915e3_10 rfl (lv_at hl 1 rfl) ?_
  refine c_v (Pw := P) (n := 1) (As := [.int (nI i)]) (rest := []) S (q_elem l dC dI A P q n i ok hP9 hi) iw_303 iw_300 iw_301 iw_302 iw_60 (by decide +kernel) rfl ⟨rfl, rfl, Nat.le_of_ble_eq_true rfl, Nat.le_of_ble_eq_true rfl⟩ Kt.blind (va_recv hK hP (ci := 0) (q0 := 0) rfl rfl) hK.at hW hl.1 rfl (Nat.le_of_ble_eq_true rfl) dJx4a65c_get_915e3_11 ⟨by decide, by decide⟩ hS (fun _ h9 => h9) (fun v9 H locs hB hz9 hk9 hS => ?_)
  refine W.widen (k := 0) (n := 0) (Nat.le_refl _) (Nat.le_refl _) ?_
  obtain ⟨r_1, rfl, hok_1, hW⟩ := hB
  refine W.eq (g2 := F0 m9 14 ls [.ref r_1]) rfl ?_
  exact r_a (o := some r_1) hx hb hr (Or.inl ⟨_, rfl⟩) hlocks hS dJx4a65c_get_915e3_14 (⟨_, rfl, hok_1, hW⟩)

abbrev B_q_ins_n (dC : Nat → ClassId) (dI : Nat → Nat → Nat) (z : Nat) (mi : Nat) (A : Nat → Prop) (n : Nat) (f : Nat → Option Nat) (x : Nat) (q : Nat) (e : Nat) (sz : Nat) (m : Int32) (cap : Nat) (i : Nat) (bs : Nat) : Option Value → Heap → Prop := fun v H => ∃ (r cp : Nat) (g : Nat → Option Nat) (m1 : Int32), v = none ∧ n < cp ∧ cp ≤ 610 ∧ (∀ t, t < i → g t = f t) ∧ g i = some x ∧ (∀ t, i < t → t ≤ n → g t = f (t - 1)) ∧ va_P (dC, dI) vwCl [(q, .inr (0, [.int m1, .ref r, .int (nI (n + 1))])), (r, .inl (dC 8, cp, .inr (.inr (.inr (.inr g)))))] H ∧ va_D A [(q, .inr (0, [.int m1, .ref r, .int (nI (n + 1))])), (r, .inl (dC 8, cp, .inr (.inr (.inr (.inr g)))))] ∧ Sz bs H ∧ H.size ≤ sz + 1
set_option maxHeartbeats 8000000 in
set_option maxRecDepth 20000 in
theorem q_ins_n (l : Launch) (dC : Nat → ClassId) (dI : Nat → Nat → Nat) (z : Nat) (mi : Nat) (A : Nat → Prop) (n : Nat) (f : Nat → Option Nat) (x : Nat) (q : Nat) (e : Nat) (sz : Nat) (m : Int32) (cap : Nat) (i : Nat) (bs : Nat) (hA : ∀ y, sz ≤ y → A y) (hnc : n < cap) (hcap : cap ≤ 610) (hi : i ≤ n) : Met l yJx4a65c_add_7a177 (cws yJx4a65c_add_7a177 cJx4a65c_add_7a177 5 none) { frames := 1, cells := 1, slots := 610, locals := 60 } (va_Pc [.ref q, .int (nI i), .ref x] (fun U => KL dC dI z mi A n f x U ∧ (fun H => H.size = sz ∧ va_P (dC, dI) vwCl [(q, .inr (0, [.int m, .ref e, .int (nI n)])), (e, .inl (dC 8, cap, .inr (.inr (.inr (.inr f)))))] H ∧ va_D A [(q, .inr (0, [.int m, .ref e, .int (nI n)])), (e, .inl (dC 8, cap, .inr (.inr (.inr (.inr f)))))] ∧ Sz bs H) U.heap)) (Qg (B_q_ins_n dC dI z mi A n f x q e sz m cap i bs) A) 1 610 A := by
  refine m_start (KK := KL dC dI z mi A n f x) (Pw := (fun H => H.size = sz ∧ va_P (dC, dI) vwCl [(q, .inr (0, [.int m, .ref e, .int (nI n)])), (e, .inl (dC 8, cap, .inr (.inr (.inr (.inr f)))))] H ∧ va_D A [(q, .inr (0, [.int m, .ref e, .int (nI n)])), (e, .inl (dC 8, cap, .inr (.inr (.inr (.inr f)))))] ∧ Sz bs H)) (by decide) (Nat.le_of_ble_eq_true rfl) ?_
  intro p e9 s m9 below meth c ls S hr hlocks hin hKL hW hS hl
  obtain ⟨hx, hb, hml, hown, hts⟩ := id S
  have hK := hKL.1
  obtain ⟨hsz, hP, hD, hSz⟩ := hW
  subst hsz
  have hl : lv_has ls 5 [(0, .ref q), (1, .int (nI i)), (2, .ref x)] := hl
  have en_n : (nI n).toInt = ((n : Nat) : Int) := pz_ti (by omega)
  have en_i : (nI i).toInt = ((i : Nat) : Int) := pz_ti (by omega)
  have en_cap : (nI cap).toInt = ((cap : Nat) : Int) := pz_ti (by omega)
  refine lv_aload_n hx hb dJx4a65c_add_7a177_0 rfl (lv_at hl 0 rfl) ?_
  refine lv_iload_n hx hb dJx4a65c_add_7a177_1 rfl (lv_at hl 1 rfl) ?_
  refine c_v (Pw := (fun H9 => H9.size = s.heap.size ∧ va_P (dC, dI) vwCl [(q, .inr (0, [.int m, .ref e, .int (nI n)])), (e, .inl (dC 8, cap, .inr (.inr (.inr (.inr f)))))] H9 ∧ va_D A [(q, .inr (0, [.int m, .ref e, .int (nI n)])), (e, .inl (dC 8, cap, .inr (.inr (.inr (.inr f)))))])) (n := 1) (As := [.int (nI i)]) (rest := []) S (q_rca l dC dI A (fun H9 => H9.size = s.heap.size ∧ va_P (dC, dI) vwCl [(q, .inr (0, [.int m, .ref e, .int (nI n)])), (e, .inl (dC 8, cap, .inr (.inr (.inr (.inr f)))))] H9 ∧ va_D A [(q, .inr (0, [.int m, .ref e, .int (nI n)])), (e, .inl (dC 8, cap, .inr (.inr (.inr (.inr f)))))]) q n i (fun H9 h9 => ⟨_, _, h9.2.1 0 _ rfl⟩) (by omega) (by omega)) iw_491 iw_488 iw_490 iw_12 iw_60 (by decide +kernel) rfl ⟨rfl, rfl, Nat.le_of_ble_eq_true rfl, Nat.le_of_ble_eq_true rfl⟩ Kt.blind (va_recv hK hP (ci := 0) (q0 := 0) rfl rfl) hK.at ⟨rfl, hP, hD⟩ hl.1 rfl (Nat.le_of_ble_eq_true rfl) dJx4a65c_add_7a177_2 ⟨by decide, by decide⟩ hS (fun _ h9 => h9) (fun v9 H locs hB hz9 hk9 hS => ?_)
  refine W.widen (k := 0) (n := 0) (Nat.le_refl _) (Nat.le_refl _) ?_
  obtain ⟨rfl, -, hP, hD⟩ := hB
  refine W.eq (g2 := F0 m9 5 ls []) rfl ?_
  have hP : va_P (dC, dI) vwCl [(q, .inr (0, [.int m, .ref e, .int (nI n)])), (e, .inl (dC 8, cap, .inr (.inr (.inr (.inr f)))))] H := hP
  have hD : va_D A [(q, .inr (0, [.int m, .ref e, .int (nI n)])), (e, .inl (dC 8, cap, .inr (.inr (.inr (.inr f)))))] := hD
  refine lv_aload_n hx hb dJx4a65c_add_7a177_5 rfl (lv_at hl 0 rfl) ?_
  refine lv_dup hx hb dJx4a65c_add_7a177_6 rfl ?_
  refine va_get (D := (dC, dI)) (ci := 0) (v := .int m) (C := RJx4a65c) (T := TJx4a65c) (N := 3) hx hb hts inJx4a65c hown hK hP 0 rfl rfl 0 (by decide) (hts _ iw_96) (u_same (hts _ iw_97)) rfl dJx4a65c_add_7a177_7 ?_
  refine lv_iconst (v := 1) hx hb dJx4a65c_add_7a177_10 (by decide) ?_
  refine lv_iadd hx hb dJx4a65c_add_7a177_11 ?_
  refine lv_topi (fun x_1 _ => ?_)
  refine va_put (D := (dC, dI)) (ci := 0) (v := .int x_1) (ty := .int) (C := RJx4a65c) (T := TJx4a65c) (N := 3) hx hb hts inJx4a65c tyJx4a65c tyJx4a65c_ok nmJx4a65c hown hK hP hD hS 0 rfl rfl 0 (by decide) (hts _ iw_96) (u_same (hts _ iw_97)) rfl (by decide +kernel) rfl rfl (Nat.le_of_ble_eq_true rfl) dJx4a65c_add_7a177_12 (fun H locs hP hD hS => ?_)
  have hP : va_P (dC, dI) vwCl [(q, .inr (0, [.int x_1, .ref e, .int (nI n)])), (e, .inl (dC 8, cap, .inr (.inr (.inr (.inr f)))))] H := hP
  have hD : va_D A [(q, .inr (0, [.int x_1, .ref e, .int (nI n)])), (e, .inl (dC 8, cap, .inr (.inr (.inr (.inr f)))))] := hD
  refine lv_aload_n hx hb dJx4a65c_add_7a177_15 rfl (lv_at hl 0 rfl) ?_
  refine va_get (D := (dC, dI)) (ci := 0) (v := .int (nI n)) (C := RJx4a65c) (T := TJx4a65c) (N := 3) hx hb hts inJx4a65c hown hK hP 0 rfl rfl 2 (by decide) (hts _ iw_94) (fun _ h9 => h9) rfl dJx4a65c_add_7a177_16 ?_
  refine lv_dup hx hb dJx4a65c_add_7a177_19 rfl ?_
  refine lv_istore_n (lv' := [(3, .int (nI n)), (0, .ref q), (1, .int (nI i)), (2, .ref x)]) hx hb dJx4a65c_add_7a177_20 rfl hl (by decide) rfl (fun ls hl => ?_)
  refine lv_aload_n hx hb dJx4a65c_add_7a177_21 rfl (lv_at hl 1 rfl) ?_
  refine va_get (D := (dC, dI)) (ci := 0) (v := .ref e) (C := RJx4a65c) (T := TJx4a65c) (N := 3) hx hb hts inJx4a65c hown hK hP 0 rfl rfl 1 (by decide) (hts _ iw_93) (fun _ h9 => h9) rfl dJx4a65c_add_7a177_22 ?_
  refine lv_dup hx hb dJx4a65c_add_7a177_25 rfl ?_
  refine lv_astore (lv' := [(4, .ref e), (3, .int (nI n)), (0, .ref q), (1, .int (nI i)), (2, .ref x)]) hx hb dJx4a65c_add_7a177_26 hl (by decide) rfl (fun ls hl => ?_)
  refine va_alen hx hb hK hP 1 2 rfl rfl (v := nI cap) rfl dJx4a65c_add_7a177_28 ?_
  refine lv_icmp_ne (tgt := 38) hx hb dJx4a65c_add_7a177_29 (by decide) (fun c_2 => ?_) (fun c_2 => ?_)
  · skip
    have i_2 : ¬ (nI n).toInt = (nI cap).toInt := by have h9 := pz_neq c_2; exact h9
    refine lv_aload hx hb dJx4a65c_add_7a177_38 (lv_at hl 0 rfl) ?_
    refine lv_iload_n hx hb dJx4a65c_add_7a177_40 rfl (lv_at hl 3 rfl) ?_
    refine lv_aload hx hb dJx4a65c_add_7a177_41 (lv_at hl 0 rfl) ?_
    refine lv_iload_n hx hb dJx4a65c_add_7a177_43 rfl (lv_at hl 3 rfl) ?_
    refine lv_iconst (v := 1) hx hb dJx4a65c_add_7a177_44 (by decide) ?_
    refine lv_iadd hx hb dJx4a65c_add_7a177_45 ?_
    refine lv_topi (fun x_3 ex_3 => ?_)
    obtain rfl : x_3 = nI (i + 1) := ex_3.trans (nI_add i 1)
    have en_4 : (nI (i + 1)).toInt = ((i + 1 : Nat) : Int) := pz_ti (by omega)
    refine lv_iload_n hx hb dJx4a65c_add_7a177_46 rfl (lv_at hl 1 rfl) ?_
    refine lv_iload_n hx hb dJx4a65c_add_7a177_47 rfl (lv_at hl 3 rfl) ?_
    refine lv_isub hx hb dJx4a65c_add_7a177_48 ?_
    refine lv_topi (fun x_5 ex_5 => ?_)
    obtain rfl : x_5 = nI (n - i) := ex_5.trans (pk_sub (a := n) (b := i) (by omega))
    have en_6 : (nI (n - i)).toInt = ((n - i : Nat) : Int) := pz_ti (by omega)
    refine W.eq (g2 := F0 m9 49 ls [.int (nI (n - i)), .int (nI (i + 1)), .ref e, .int (nI i), .ref e]) rfl ?_
    refine va_copyM hx hb (hml.trans hl.1.symm) hown (hts _ iw_492) (hts _ iw_279) (hts _ iw_278) (hts _ iw_66) hK hP hD hS 1 1 2 2 rfl rfl rfl rfl (nI_pos (by omega)) (nI_pos (by omega)) (nI_pos (by omega)) (by rw [pz_cl (j := i) (by omega), pz_cl (j := (n - i)) (by omega)]; omega) (by rw [pz_cl (j := (i + 1)) (by omega), pz_cl (j := (n - i)) (by omega)]; omega) (fun i9 h9 y9 e9 => pzE.at (pz_Ekept (hKL.2.2.2.1 (i + i9) (by rw [pz_cl (j := (n - i)) (by omega)] at h9; omega) y9 (by rw [pz_cl (j := i) (by omega)] at e9; exact e9)) hS)) (Nat.le_of_ble_eq_true rfl) (Nat.le_of_ble_eq_true rfl) dJx4a65c_add_7a177_49 (fun H locs hP hD hS => ?_)
    have hP : va_P (dC, dI) vwCl [(q, .inr (0, [.int x_1, .ref e, .int (nI n)])), (e, .inl (dC 8, cap, .inr (.inr (.inr (.inr (va_cpy f f (nI i).toNatClampNeg (nI (i + 1)).toNatClampNeg (nI (n - i)).toNatClampNeg))))))] H := hP
    have hD : va_D A [(q, .inr (0, [.int x_1, .ref e, .int (nI n)])), (e, .inl (dC 8, cap, .inr (.inr (.inr (.inr (va_cpy f f (nI i).toNatClampNeg (nI (i + 1)).toNatClampNeg (nI (n - i)).toNatClampNeg))))))] := hD
    rw [pz_cl (j := i) (by omega), pz_cl (j := (i + 1)) (by omega), pz_cl (j := (n - i)) (by omega)] at hP hD
    have hP : va_P (dC, dI) vwCl [(q, .inr (0, [.int x_1, .ref e, .int (nI n)])), (e, .inl (dC 8, cap, .inr (.inr (.inr (.inr (va_cpy f f i (i + 1) (n - i)))))))] H := hP
    have hD : va_D A [(q, .inr (0, [.int x_1, .ref e, .int (nI n)])), (e, .inl (dC 8, cap, .inr (.inr (.inr (.inr (va_cpy f f i (i + 1) (n - i)))))))] := hD
    refine lv_aload hx hb dJx4a65c_add_7a177_52 (lv_at hl 0 rfl) ?_
    refine lv_iload_n hx hb dJx4a65c_add_7a177_54 rfl (lv_at hl 3 rfl) ?_
    refine lv_aload_n hx hb dJx4a65c_add_7a177_55 rfl (lv_at hl 4 rfl) ?_
    refine va_astqM hx hb hK hP hD hS 1 2 rfl rfl (pzE.at (pz_Ekept hKL.2.2.2.2 hS)) (pz_vi (n := cap) (by omega) (by omega)) dJx4a65c_add_7a177_56 (fun H locs hP hD hS => ?_)
    have hP : va_P (dC, dI) vwCl [(q, .inr (0, [.int x_1, .ref e, .int (nI n)])), (e, .inl (dC 8, cap, .inr (.inr (.inr (.inr (va_up (va_cpy f f i (i + 1) (n - i)) ((nI i).toNatClampNeg) (some x)))))))] H := hP
    have hD : va_D A [(q, .inr (0, [.int x_1, .ref e, .int (nI n)])), (e, .inl (dC 8, cap, .inr (.inr (.inr (.inr (va_up (va_cpy f f i (i + 1) (n - i)) ((nI i).toNatClampNeg) (some x)))))))] := hD
    rw [pz_cl (by omega)] at hP hD
    have hP : va_P (dC, dI) vwCl [(q, .inr (0, [.int x_1, .ref e, .int (nI n)])), (e, .inl (dC 8, cap, .inr (.inr (.inr (.inr (va_up (va_cpy f f i (i + 1) (n - i)) i (some x)))))))] H := hP
    have hD : va_D A [(q, .inr (0, [.int x_1, .ref e, .int (nI n)])), (e, .inl (dC 8, cap, .inr (.inr (.inr (.inr (va_up (va_cpy f f i (i + 1) (n - i)) i (some x)))))))] := hD
    refine lv_aload_n hx hb dJx4a65c_add_7a177_57 rfl (lv_at hl 2 rfl) ?_
    refine lv_iload_n hx hb dJx4a65c_add_7a177_58 rfl (lv_at hl 1 rfl) ?_
    refine lv_iconst (v := 1) hx hb dJx4a65c_add_7a177_59 (by decide) ?_
    refine lv_iadd hx hb dJx4a65c_add_7a177_60 ?_
    refine lv_topi (fun x_7 ex_7 => ?_)
    obtain rfl : x_7 = nI (n + 1) := ex_7.trans (nI_add n 1)
    have en_8 : (nI (n + 1)).toInt = ((n + 1 : Nat) : Int) := pz_ti (by omega)
    refine va_put (D := (dC, dI)) (ci := 0) (v := .int (nI (n + 1))) (ty := .int) (C := RJx4a65c) (T := TJx4a65c) (N := 3) hx hb hts inJx4a65c tyJx4a65c tyJx4a65c_ok nmJx4a65c hown hK hP hD hS 0 rfl rfl 2 (by decide) (hts _ iw_94) (fun _ h9 => h9) rfl (by decide +kernel) rfl rfl (Nat.le_of_ble_eq_true rfl) dJx4a65c_add_7a177_61 (fun H locs hP hD hS => ?_)
    have hP : va_P (dC, dI) vwCl [(q, .inr (0, [.int x_1, .ref e, .int (nI (n + 1))])), (e, .inl (dC 8, cap, .inr (.inr (.inr (.inr (va_up (va_cpy f f i (i + 1) (n - i)) i (some x)))))))] H := hP
    have hD : va_D A [(q, .inr (0, [.int x_1, .ref e, .int (nI (n + 1))])), (e, .inl (dC 8, cap, .inr (.inr (.inr (.inr (va_up (va_cpy f f i (i + 1) (n - i)) i (some x)))))))] := hD
    refine W.widen (k := 1) (n := 610) (by decide) (by decide) ?_
    refine W.learn (fun lr1 lr2 lr3 => ?_)
    exact r_v hx hb hr hlocks hS dJx4a65c_add_7a177_64 (⟨e, cap, (va_up (va_cpy f f i (i + 1) (n - i)) i (some x)), x_1, rfl, by omega, by omega, fun t h9 => ((vu_n (by omega)).trans (pk_cpy_out (Or.inl (by omega)))), vu_s, fun t h8 h9 => ((vu_n (by omega)).trans (pk_cpy_in (by omega) (by omega))).trans (by congr 1; omega), hP, hD, hSz.of lr1 (Nat.le_trans lr3 (by decide)), lr2⟩)
  · skip
    have i_2 : (nI n).toInt = (nI cap).toInt := by have h9 := pz_eq c_2; exact h9
    exfalso
    omega

abbrev B_q_ins_o (dC : Nat → ClassId) (dI : Nat → Nat → Nat) (z : Nat) (mi : Nat) (A : Nat → Prop) (n : Nat) (f : Nat → Option Nat) (x : Nat) (q : Nat) (e : Nat) (sz : Nat) (m : Int32) (i : Nat) (bs : Nat) : Option Value → Heap → Prop := fun v H => ∃ (r cp : Nat) (g : Nat → Option Nat) (m1 : Int32), v = none ∧ n < cp ∧ cp ≤ 610 ∧ (∀ t, t < i → g t = f t) ∧ g i = some x ∧ (∀ t, i < t → t ≤ n → g t = f (t - 1)) ∧ va_P (dC, dI) vwCl [(q, .inr (0, [.int m1, .ref r, .int (nI (n + 1))])), (r, .inl (dC 8, cp, .inr (.inr (.inr (.inr g)))))] H ∧ va_D A [(q, .inr (0, [.int m1, .ref r, .int (nI (n + 1))])), (r, .inl (dC 8, cp, .inr (.inr (.inr (.inr g)))))] ∧ Sz bs H ∧ H.size ≤ sz + 1
set_option maxHeartbeats 8000000 in
set_option maxRecDepth 20000 in
theorem q_ins_o (l : Launch) (dC : Nat → ClassId) (dI : Nat → Nat → Nat) (z : Nat) (mi : Nat) (A : Nat → Prop) (n : Nat) (f : Nat → Option Nat) (x : Nat) (q : Nat) (e : Nat) (sz : Nat) (m : Int32) (i : Nat) (bs : Nat) (hA : ∀ y, sz ≤ y → A y) (hn0 : 0 < n) (hn4 : n ≤ 400) (hi : i ≤ n) : Met l yJx4a65c_add_7a177 (cws yJx4a65c_add_7a177 cJx4a65c_add_7a177 5 none) { frames := 5, cells := 1, slots := 610, locals := 147 } (va_Pc [.ref q, .int (nI i), .ref x] (fun U => KL dC dI z mi A n f x U ∧ (fun H => H.size = sz ∧ va_P (dC, dI) vwCl [(q, .inr (0, [.int m, .ref e, .int (nI n)])), (e, .inl (dC 8, n, .inr (.inr (.inr (.inr f)))))] H ∧ va_D A [(q, .inr (0, [.int m, .ref e, .int (nI n)])), (e, .inl (dC 8, n, .inr (.inr (.inr (.inr f)))))] ∧ Sz bs H) U.heap)) (Qg (B_q_ins_o dC dI z mi A n f x q e sz m i bs) A) 1 610 A := by
  refine m_start (KK := KL dC dI z mi A n f x) (Pw := (fun H => H.size = sz ∧ va_P (dC, dI) vwCl [(q, .inr (0, [.int m, .ref e, .int (nI n)])), (e, .inl (dC 8, n, .inr (.inr (.inr (.inr f)))))] H ∧ va_D A [(q, .inr (0, [.int m, .ref e, .int (nI n)])), (e, .inl (dC 8, n, .inr (.inr (.inr (.inr f)))))] ∧ Sz bs H)) (by decide) (Nat.le_of_ble_eq_true rfl) ?_
  intro p e9 s m9 below meth c ls S hr hlocks hin hKL hW hS hl
  obtain ⟨hx, hb, hml, hown, hts⟩ := id S
  have hK := hKL.1
  obtain ⟨hsz, hP, hD, hSz⟩ := hW
  subst hsz
  have hl : lv_has ls 5 [(0, .ref q), (1, .int (nI i)), (2, .ref x)] := hl
  have en_n : (nI n).toInt = ((n : Nat) : Int) := pz_ti (by omega)
  have en_i : (nI i).toInt = ((i : Nat) : Int) := pz_ti (by omega)
  refine lv_aload_n hx hb dJx4a65c_add_7a177_0 rfl (lv_at hl 0 rfl) ?_
  refine lv_iload_n hx hb dJx4a65c_add_7a177_1 rfl (lv_at hl 1 rfl) ?_
  refine c_v (Pw := (fun H9 => H9.size = s.heap.size ∧ va_P (dC, dI) vwCl [(q, .inr (0, [.int m, .ref e, .int (nI n)])), (e, .inl (dC 8, n, .inr (.inr (.inr (.inr f)))))] H9 ∧ va_D A [(q, .inr (0, [.int m, .ref e, .int (nI n)])), (e, .inl (dC 8, n, .inr (.inr (.inr (.inr f)))))])) (n := 1) (As := [.int (nI i)]) (rest := []) S (q_rca l dC dI A (fun H9 => H9.size = s.heap.size ∧ va_P (dC, dI) vwCl [(q, .inr (0, [.int m, .ref e, .int (nI n)])), (e, .inl (dC 8, n, .inr (.inr (.inr (.inr f)))))] H9 ∧ va_D A [(q, .inr (0, [.int m, .ref e, .int (nI n)])), (e, .inl (dC 8, n, .inr (.inr (.inr (.inr f)))))]) q n i (fun H9 h9 => ⟨_, _, h9.2.1 0 _ rfl⟩) (by omega) (by omega)) iw_491 iw_488 iw_490 iw_12 iw_60 (by decide +kernel) rfl ⟨rfl, rfl, Nat.le_of_ble_eq_true rfl, Nat.le_of_ble_eq_true rfl⟩ Kt.blind (va_recv hK hP (ci := 0) (q0 := 0) rfl rfl) hK.at ⟨rfl, hP, hD⟩ hl.1 rfl (Nat.le_of_ble_eq_true rfl) dJx4a65c_add_7a177_2 ⟨by decide, by decide⟩ hS (fun _ h9 => h9) (fun v9 H locs hB hz9 hk9 hS => ?_)
  refine W.widen (k := 0) (n := 0) (Nat.le_refl _) (Nat.le_refl _) ?_
  obtain ⟨rfl, -, hP, hD⟩ := hB
  refine W.eq (g2 := F0 m9 5 ls []) rfl ?_
  have hP : va_P (dC, dI) vwCl [(q, .inr (0, [.int m, .ref e, .int (nI n)])), (e, .inl (dC 8, n, .inr (.inr (.inr (.inr f)))))] H := hP
  have hD : va_D A [(q, .inr (0, [.int m, .ref e, .int (nI n)])), (e, .inl (dC 8, n, .inr (.inr (.inr (.inr f)))))] := hD
  refine lv_aload_n hx hb dJx4a65c_add_7a177_5 rfl (lv_at hl 0 rfl) ?_
  refine lv_dup hx hb dJx4a65c_add_7a177_6 rfl ?_
  refine va_get (D := (dC, dI)) (ci := 0) (v := .int m) (C := RJx4a65c) (T := TJx4a65c) (N := 3) hx hb hts inJx4a65c hown hK hP 0 rfl rfl 0 (by decide) (hts _ iw_96) (u_same (hts _ iw_97)) rfl dJx4a65c_add_7a177_7 ?_
  refine lv_iconst (v := 1) hx hb dJx4a65c_add_7a177_10 (by decide) ?_
  refine lv_iadd hx hb dJx4a65c_add_7a177_11 ?_
  refine lv_topi (fun x_1 _ => ?_)
  refine va_put (D := (dC, dI)) (ci := 0) (v := .int x_1) (ty := .int) (C := RJx4a65c) (T := TJx4a65c) (N := 3) hx hb hts inJx4a65c tyJx4a65c tyJx4a65c_ok nmJx4a65c hown hK hP hD hS 0 rfl rfl 0 (by decide) (hts _ iw_96) (u_same (hts _ iw_97)) rfl (by decide +kernel) rfl rfl (Nat.le_of_ble_eq_true rfl) dJx4a65c_add_7a177_12 (fun H locs hP hD hS => ?_)
  have hP : va_P (dC, dI) vwCl [(q, .inr (0, [.int x_1, .ref e, .int (nI n)])), (e, .inl (dC 8, n, .inr (.inr (.inr (.inr f)))))] H := hP
  have hD : va_D A [(q, .inr (0, [.int x_1, .ref e, .int (nI n)])), (e, .inl (dC 8, n, .inr (.inr (.inr (.inr f)))))] := hD
  refine lv_aload_n hx hb dJx4a65c_add_7a177_15 rfl (lv_at hl 0 rfl) ?_
  refine va_get (D := (dC, dI)) (ci := 0) (v := .int (nI n)) (C := RJx4a65c) (T := TJx4a65c) (N := 3) hx hb hts inJx4a65c hown hK hP 0 rfl rfl 2 (by decide) (hts _ iw_94) (fun _ h9 => h9) rfl dJx4a65c_add_7a177_16 ?_
  refine lv_dup hx hb dJx4a65c_add_7a177_19 rfl ?_
  refine lv_istore_n (lv' := [(3, .int (nI n)), (0, .ref q), (1, .int (nI i)), (2, .ref x)]) hx hb dJx4a65c_add_7a177_20 rfl hl (by decide) rfl (fun ls hl => ?_)
  refine lv_aload_n hx hb dJx4a65c_add_7a177_21 rfl (lv_at hl 1 rfl) ?_
  refine va_get (D := (dC, dI)) (ci := 0) (v := .ref e) (C := RJx4a65c) (T := TJx4a65c) (N := 3) hx hb hts inJx4a65c hown hK hP 0 rfl rfl 1 (by decide) (hts _ iw_93) (fun _ h9 => h9) rfl dJx4a65c_add_7a177_22 ?_
  refine lv_dup hx hb dJx4a65c_add_7a177_25 rfl ?_
  refine lv_astore (lv' := [(4, .ref e), (3, .int (nI n)), (0, .ref q), (1, .int (nI i)), (2, .ref x)]) hx hb dJx4a65c_add_7a177_26 hl (by decide) rfl (fun ls hl => ?_)
  refine va_alen hx hb hK hP 1 2 rfl rfl (v := nI n) rfl dJx4a65c_add_7a177_28 ?_
  refine lv_icmp_ne (tgt := 38) hx hb dJx4a65c_add_7a177_29 (by decide) (fun c_2 => ?_) (fun c_2 => ?_)
  · skip
    have i_2 : ¬ (nI n).toInt = (nI n).toInt := by have h9 := pz_neq c_2; exact h9
    exfalso
    omega
  · skip
    have i_2 : (nI n).toInt = (nI n).toInt := by have h9 := pz_eq c_2; exact h9
    refine lv_aload_n hx hb dJx4a65c_add_7a177_32 rfl (lv_at hl 2 rfl) ?_
    refine c_v (Pw := fun H9 => H9.size = H.size ∧ va_P (dC, dI) vwCl [(q, .inr (0, [.int x_1, .ref e, .int (nI n)])), (e, .inl (dC 8, n, .inr (.inr (.inr (.inr f)))))] H9 ∧ va_D A [(q, .inr (0, [.int x_1, .ref e, .int (nI n)])), (e, .inl (dC 8, n, .inr (.inr (.inr (.inr f)))))]) (n := 0) (As := []) (rest := []) S (q_grow_o l dC dI z mi A n f x q e H.size x_1 (fun y9 h9 => hA y9 (Nat.le_trans hS.1 h9)) (by omega) (by omega)) iw_240 iw_237 iw_239 iw_2 iw_60 (by decide +kernel) rfl ⟨rfl, rfl, Nat.le_of_ble_eq_true rfl, Nat.le_of_ble_eq_true rfl⟩ KL.blind (va_recv hK hP (ci := 0) (q0 := 0) rfl rfl) (hKL.at hS) ⟨rfl, hP, hD⟩ hl.1 rfl (Nat.le_of_ble_eq_true rfl) dJx4a65c_add_7a177_33 ⟨by decide, by decide⟩ hS (fun _ h9 => h9) (fun v9 H locs hB hz9 hk9 hS => ?_)
    refine W.widen (k := 1) (n := 610) (Nat.le_refl _) (Nat.le_refl _) ?_
    obtain ⟨r_3, cp_3, g_3, rfl, hc1_3, hc2_3, hg_3, hP, hD⟩ := hB
    refine W.eq (g2 := F0 m9 36 ls [.ref r_3]) rfl ?_
    have hP : va_P (dC, dI) vwCl [(q, .inr (0, [.int x_1, .ref r_3, .int (nI n)])), (r_3, .inl (dC 8, cp_3, .inr (.inr (.inr (.inr g_3)))))] H := hP
    have hD : va_D A [(q, .inr (0, [.int x_1, .ref r_3, .int (nI n)])), (r_3, .inl (dC 8, cp_3, .inr (.inr (.inr (.inr g_3)))))] := hD
    refine lv_astore (lv' := [(4, .ref r_3), (3, .int (nI n)), (0, .ref q), (1, .int (nI i)), (2, .ref x)]) hx hb dJx4a65c_add_7a177_36 hl (by decide) rfl (fun ls hl => ?_)
    refine lv_aload hx hb dJx4a65c_add_7a177_38 (lv_at hl 0 rfl) ?_
    refine lv_iload_n hx hb dJx4a65c_add_7a177_40 rfl (lv_at hl 3 rfl) ?_
    refine lv_aload hx hb dJx4a65c_add_7a177_41 (lv_at hl 0 rfl) ?_
    refine lv_iload_n hx hb dJx4a65c_add_7a177_43 rfl (lv_at hl 3 rfl) ?_
    refine lv_iconst (v := 1) hx hb dJx4a65c_add_7a177_44 (by decide) ?_
    refine lv_iadd hx hb dJx4a65c_add_7a177_45 ?_
    refine lv_topi (fun x_4 ex_4 => ?_)
    obtain rfl : x_4 = nI (i + 1) := ex_4.trans (nI_add i 1)
    have en_5 : (nI (i + 1)).toInt = ((i + 1 : Nat) : Int) := pz_ti (by omega)
    refine lv_iload_n hx hb dJx4a65c_add_7a177_46 rfl (lv_at hl 1 rfl) ?_
    refine lv_iload_n hx hb dJx4a65c_add_7a177_47 rfl (lv_at hl 3 rfl) ?_
    refine lv_isub hx hb dJx4a65c_add_7a177_48 ?_
    refine lv_topi (fun x_6 ex_6 => ?_)
    obtain rfl : x_6 = nI (n - i) := ex_6.trans (pk_sub (a := n) (b := i) (by omega))
    have en_7 : (nI (n - i)).toInt = ((n - i : Nat) : Int) := pz_ti (by omega)
    refine W.eq (g2 := F0 m9 49 ls [.int (nI (n - i)), .int (nI (i + 1)), .ref r_3, .int (nI i), .ref r_3]) rfl ?_
    refine va_copyM hx hb (hml.trans hl.1.symm) hown (hts _ iw_492) (hts _ iw_279) (hts _ iw_278) (hts _ iw_66) hK hP hD hS 1 1 2 2 rfl rfl rfl rfl (nI_pos (by omega)) (nI_pos (by omega)) (nI_pos (by omega)) (by rw [pz_cl (j := i) (by omega), pz_cl (j := (n - i)) (by omega)]; omega) (by rw [pz_cl (j := (i + 1)) (by omega), pz_cl (j := (n - i)) (by omega)]; omega) (fun i9 h9 y9 e9 => pzE.at (pz_Ekept (hKL.2.2.2.1 (i + i9) (by rw [pz_cl (j := (n - i)) (by omega)] at h9; omega) y9 (by rw [pz_cl (j := i) (by omega)] at e9; exact (hg_3 _ (by rw [pz_cl (j := (n - i)) (by omega)] at h9; omega)).symm.trans e9)) hS)) (Nat.le_of_ble_eq_true rfl) (Nat.le_of_ble_eq_true rfl) dJx4a65c_add_7a177_49 (fun H locs hP hD hS => ?_)
    have hP : va_P (dC, dI) vwCl [(q, .inr (0, [.int x_1, .ref r_3, .int (nI n)])), (r_3, .inl (dC 8, cp_3, .inr (.inr (.inr (.inr (va_cpy g_3 g_3 (nI i).toNatClampNeg (nI (i + 1)).toNatClampNeg (nI (n - i)).toNatClampNeg))))))] H := hP
    have hD : va_D A [(q, .inr (0, [.int x_1, .ref r_3, .int (nI n)])), (r_3, .inl (dC 8, cp_3, .inr (.inr (.inr (.inr (va_cpy g_3 g_3 (nI i).toNatClampNeg (nI (i + 1)).toNatClampNeg (nI (n - i)).toNatClampNeg))))))] := hD
    rw [pz_cl (j := i) (by omega), pz_cl (j := (i + 1)) (by omega), pz_cl (j := (n - i)) (by omega)] at hP hD
    have hP : va_P (dC, dI) vwCl [(q, .inr (0, [.int x_1, .ref r_3, .int (nI n)])), (r_3, .inl (dC 8, cp_3, .inr (.inr (.inr (.inr (va_cpy g_3 g_3 i (i + 1) (n - i)))))))] H := hP
    have hD : va_D A [(q, .inr (0, [.int x_1, .ref r_3, .int (nI n)])), (r_3, .inl (dC 8, cp_3, .inr (.inr (.inr (.inr (va_cpy g_3 g_3 i (i + 1) (n - i)))))))] := hD
    refine lv_aload hx hb dJx4a65c_add_7a177_52 (lv_at hl 0 rfl) ?_
    refine lv_iload_n hx hb dJx4a65c_add_7a177_54 rfl (lv_at hl 3 rfl) ?_
    refine lv_aload_n hx hb dJx4a65c_add_7a177_55 rfl (lv_at hl 4 rfl) ?_
    refine va_astqM hx hb hK hP hD hS 1 2 rfl rfl (pzE.at (pz_Ekept hKL.2.2.2.2 hS)) (pz_vi (n := cp_3) (by omega) (by omega)) dJx4a65c_add_7a177_56 (fun H locs hP hD hS => ?_)
    have hP : va_P (dC, dI) vwCl [(q, .inr (0, [.int x_1, .ref r_3, .int (nI n)])), (r_3, .inl (dC 8, cp_3, .inr (.inr (.inr (.inr (va_up (va_cpy g_3 g_3 i (i + 1) (n - i)) ((nI i).toNatClampNeg) (some x)))))))] H := hP
    have hD : va_D A [(q, .inr (0, [.int x_1, .ref r_3, .int (nI n)])), (r_3, .inl (dC 8, cp_3, .inr (.inr (.inr (.inr (va_up (va_cpy g_3 g_3 i (i + 1) (n - i)) ((nI i).toNatClampNeg) (some x)))))))] := hD
    rw [pz_cl (by omega)] at hP hD
    have hP : va_P (dC, dI) vwCl [(q, .inr (0, [.int x_1, .ref r_3, .int (nI n)])), (r_3, .inl (dC 8, cp_3, .inr (.inr (.inr (.inr (va_up (va_cpy g_3 g_3 i (i + 1) (n - i)) i (some x)))))))] H := hP
    have hD : va_D A [(q, .inr (0, [.int x_1, .ref r_3, .int (nI n)])), (r_3, .inl (dC 8, cp_3, .inr (.inr (.inr (.inr (va_up (va_cpy g_3 g_3 i (i + 1) (n - i)) i (some x)))))))] := hD
    refine lv_aload_n hx hb dJx4a65c_add_7a177_57 rfl (lv_at hl 2 rfl) ?_
    refine lv_iload_n hx hb dJx4a65c_add_7a177_58 rfl (lv_at hl 1 rfl) ?_
    refine lv_iconst (v := 1) hx hb dJx4a65c_add_7a177_59 (by decide) ?_
    refine lv_iadd hx hb dJx4a65c_add_7a177_60 ?_
    refine lv_topi (fun x_8 ex_8 => ?_)
    obtain rfl : x_8 = nI (n + 1) := ex_8.trans (nI_add n 1)
    have en_9 : (nI (n + 1)).toInt = ((n + 1 : Nat) : Int) := pz_ti (by omega)
    refine va_put (D := (dC, dI)) (ci := 0) (v := .int (nI (n + 1))) (ty := .int) (C := RJx4a65c) (T := TJx4a65c) (N := 3) hx hb hts inJx4a65c tyJx4a65c tyJx4a65c_ok nmJx4a65c hown hK hP hD hS 0 rfl rfl 2 (by decide) (hts _ iw_94) (fun _ h9 => h9) rfl (by decide +kernel) rfl rfl (Nat.le_of_ble_eq_true rfl) dJx4a65c_add_7a177_61 (fun H locs hP hD hS => ?_)
    have hP : va_P (dC, dI) vwCl [(q, .inr (0, [.int x_1, .ref r_3, .int (nI (n + 1))])), (r_3, .inl (dC 8, cp_3, .inr (.inr (.inr (.inr (va_up (va_cpy g_3 g_3 i (i + 1) (n - i)) i (some x)))))))] H := hP
    have hD : va_D A [(q, .inr (0, [.int x_1, .ref r_3, .int (nI (n + 1))])), (r_3, .inl (dC 8, cp_3, .inr (.inr (.inr (.inr (va_up (va_cpy g_3 g_3 i (i + 1) (n - i)) i (some x)))))))] := hD
    refine W.learn (fun lr1 lr2 lr3 => ?_)
    exact r_v hx hb hr hlocks hS dJx4a65c_add_7a177_64 (⟨r_3, cp_3, (va_up (va_cpy g_3 g_3 i (i + 1) (n - i)) i (some x)), x_1, rfl, by omega, by omega, fun t h9 => (((vu_n (by omega)).trans (pk_cpy_out (Or.inl (by omega)))).trans (hg_3 _ (by omega))), vu_s, fun t h8 h9 => (((vu_n (by omega)).trans (pk_cpy_in (by omega) (by omega))).trans (hg_3 _ (by omega))).trans (by congr 1; omega), hP, hD, hSz.of lr1 (Nat.le_trans lr3 (by decide)), lr2⟩)

abbrev B_q_ins_z (dC : Nat → ClassId) (dI : Nat → Nat → Nat) (z : Nat) (mi : Nat) (A : Nat → Prop) (n : Nat) (f : Nat → Option Nat) (x : Nat) (q : Nat) (e : Nat) (sz : Nat) (m : Int32) (i : Nat) (bs : Nat) : Option Value → Heap → Prop := fun v H => ∃ (r cp : Nat) (g : Nat → Option Nat) (m1 : Int32), v = none ∧ 0 < cp ∧ cp ≤ 610 ∧ (∀ t, t < i → g t = f t) ∧ g i = some x ∧ (∀ t, i < t → t ≤ 0 → g t = f (t - 1)) ∧ va_P (dC, dI) vwCl [(q, .inr (0, [.int m1, .ref r, .int (nI (0 + 1))])), (r, .inl (dC 8, cp, .inr (.inr (.inr (.inr g)))))] H ∧ va_D A [(q, .inr (0, [.int m1, .ref r, .int (nI (0 + 1))])), (r, .inl (dC 8, cp, .inr (.inr (.inr (.inr g)))))] ∧ Sz bs H ∧ H.size ≤ sz + 1
set_option maxHeartbeats 8000000 in
set_option maxRecDepth 20000 in
theorem q_ins_z (l : Launch) (dC : Nat → ClassId) (dI : Nat → Nat → Nat) (z : Nat) (mi : Nat) (A : Nat → Prop) (n : Nat) (f : Nat → Option Nat) (x : Nat) (q : Nat) (e : Nat) (sz : Nat) (m : Int32) (i : Nat) (bs : Nat) (hA : ∀ y, sz ≤ y → A y) (hi : i ≤ 0) : Met l yJx4a65c_add_7a177 (cws yJx4a65c_add_7a177 cJx4a65c_add_7a177 5 none) { frames := 3, cells := 1, slots := 610, locals := 60 } (va_Pc [.ref q, .int (nI i), .ref x] (fun U => KL dC dI z mi A n f x U ∧ (fun H => H.size = sz ∧ va_P (dC, dI) vwCl [(q, .inr (0, [.int m, .ref z, .int (nI 0)]))] H ∧ va_D A [(q, .inr (0, [.int m, .ref z, .int (nI 0)]))] ∧ Sz bs H) U.heap)) (Qg (B_q_ins_z dC dI z mi A n f x q e sz m i bs) A) 1 610 A := by
  refine m_start (KK := KL dC dI z mi A n f x) (Pw := (fun H => H.size = sz ∧ va_P (dC, dI) vwCl [(q, .inr (0, [.int m, .ref z, .int (nI 0)]))] H ∧ va_D A [(q, .inr (0, [.int m, .ref z, .int (nI 0)]))] ∧ Sz bs H)) (by decide) (Nat.le_of_ble_eq_true rfl) ?_
  intro p e9 s m9 below meth c ls S hr hlocks hin hKL hW hS hl
  obtain ⟨hx, hb, hml, hown, hts⟩ := id S
  have hK := hKL.1
  obtain ⟨hsz, hP, hD, hSz⟩ := hW
  subst hsz
  have hl : lv_has ls 5 [(0, .ref q), (1, .int (nI i)), (2, .ref x)] := hl
  have en_0 : (nI 0).toInt = 0 := by decide
  have en_i : (nI i).toInt = ((i : Nat) : Int) := pz_ti (by omega)
  refine lv_aload_n hx hb dJx4a65c_add_7a177_0 rfl (lv_at hl 0 rfl) ?_
  refine lv_iload_n hx hb dJx4a65c_add_7a177_1 rfl (lv_at hl 1 rfl) ?_
  refine c_v (Pw := (fun H9 => H9.size = s.heap.size ∧ va_P (dC, dI) vwCl [(q, .inr (0, [.int m, .ref z, .int (nI 0)]))] H9 ∧ va_D A [(q, .inr (0, [.int m, .ref z, .int (nI 0)]))])) (n := 1) (As := [.int (nI i)]) (rest := []) S (q_rca l dC dI A (fun H9 => H9.size = s.heap.size ∧ va_P (dC, dI) vwCl [(q, .inr (0, [.int m, .ref z, .int (nI 0)]))] H9 ∧ va_D A [(q, .inr (0, [.int m, .ref z, .int (nI 0)]))]) q 0 i (fun H9 h9 => ⟨_, _, h9.2.1 0 _ rfl⟩) (by omega) (by omega)) iw_491 iw_488 iw_490 iw_12 iw_60 (by decide +kernel) rfl ⟨rfl, rfl, Nat.le_of_ble_eq_true rfl, Nat.le_of_ble_eq_true rfl⟩ Kt.blind (va_recv hK hP (ci := 0) (q0 := 0) rfl rfl) hK.at ⟨rfl, hP, hD⟩ hl.1 rfl (Nat.le_of_ble_eq_true rfl) dJx4a65c_add_7a177_2 ⟨by decide, by decide⟩ hS (fun _ h9 => h9) (fun v9 H locs hB hz9 hk9 hS => ?_)
  refine W.widen (k := 0) (n := 0) (Nat.le_refl _) (Nat.le_refl _) ?_
  obtain ⟨rfl, -, hP, hD⟩ := hB
  refine W.eq (g2 := F0 m9 5 ls []) rfl ?_
  have hP : va_P (dC, dI) vwCl [(q, .inr (0, [.int m, .ref z, .int (nI 0)]))] H := hP
  have hD : va_D A [(q, .inr (0, [.int m, .ref z, .int (nI 0)]))] := hD
  refine lv_aload_n hx hb dJx4a65c_add_7a177_5 rfl (lv_at hl 0 rfl) ?_
  refine lv_dup hx hb dJx4a65c_add_7a177_6 rfl ?_
  refine va_get (D := (dC, dI)) (ci := 0) (v := .int m) (C := RJx4a65c) (T := TJx4a65c) (N := 3) hx hb hts inJx4a65c hown hK hP 0 rfl rfl 0 (by decide) (hts _ iw_96) (u_same (hts _ iw_97)) rfl dJx4a65c_add_7a177_7 ?_
  refine lv_iconst (v := 1) hx hb dJx4a65c_add_7a177_10 (by decide) ?_
  refine lv_iadd hx hb dJx4a65c_add_7a177_11 ?_
  refine lv_topi (fun x_1 _ => ?_)
  refine va_put (D := (dC, dI)) (ci := 0) (v := .int x_1) (ty := .int) (C := RJx4a65c) (T := TJx4a65c) (N := 3) hx hb hts inJx4a65c tyJx4a65c tyJx4a65c_ok nmJx4a65c hown hK hP hD hS 0 rfl rfl 0 (by decide) (hts _ iw_96) (u_same (hts _ iw_97)) rfl (by decide +kernel) rfl rfl (Nat.le_of_ble_eq_true rfl) dJx4a65c_add_7a177_12 (fun H locs hP hD hS => ?_)
  have hP : va_P (dC, dI) vwCl [(q, .inr (0, [.int x_1, .ref z, .int (nI 0)]))] H := hP
  have hD : va_D A [(q, .inr (0, [.int x_1, .ref z, .int (nI 0)]))] := hD
  refine lv_aload_n hx hb dJx4a65c_add_7a177_15 rfl (lv_at hl 0 rfl) ?_
  refine va_get (D := (dC, dI)) (ci := 0) (v := .int (nI 0)) (C := RJx4a65c) (T := TJx4a65c) (N := 3) hx hb hts inJx4a65c hown hK hP 0 rfl rfl 2 (by decide) (hts _ iw_94) (fun _ h9 => h9) rfl dJx4a65c_add_7a177_16 ?_
  refine lv_dup hx hb dJx4a65c_add_7a177_19 rfl ?_
  refine lv_istore_n (lv' := [(3, .int (nI 0)), (0, .ref q), (1, .int (nI i)), (2, .ref x)]) hx hb dJx4a65c_add_7a177_20 rfl hl (by decide) rfl (fun ls hl => ?_)
  refine lv_aload_n hx hb dJx4a65c_add_7a177_21 rfl (lv_at hl 1 rfl) ?_
  refine va_get (D := (dC, dI)) (ci := 0) (v := .ref z) (C := RJx4a65c) (T := TJx4a65c) (N := 3) hx hb hts inJx4a65c hown hK hP 0 rfl rfl 1 (by decide) (hts _ iw_93) (fun _ h9 => h9) rfl dJx4a65c_add_7a177_22 ?_
  refine lv_dup hx hb dJx4a65c_add_7a177_25 rfl ?_
  refine lv_astore (lv' := [(4, .ref z), (3, .int (nI 0)), (0, .ref q), (1, .int (nI i)), (2, .ref x)]) hx hb dJx4a65c_add_7a177_26 hl (by decide) rfl (fun ls hl => ?_)
  refine va_tlen hx hb hKL.2.1.2.1 hS (v := 0) rfl dJx4a65c_add_7a177_28 ?_
  refine lv_icmp_ne (tgt := 38) hx hb dJx4a65c_add_7a177_29 (by decide) (fun c_2 => ?_) (fun c_2 => ?_)
  · skip
    have i_2 : ¬ (nI 0).toInt = 0 := by have h9 := pz_neq c_2; exact h9
    exfalso
    omega
  · skip
    have i_2 : (nI 0).toInt = 0 := by have h9 := pz_eq c_2; exact h9
    refine lv_aload_n hx hb dJx4a65c_add_7a177_32 rfl (lv_at hl 2 rfl) ?_
    refine c_v (Pw := fun H9 => H9.size = H.size ∧ va_P (dC, dI) vwCl [(q, .inr (0, [.int x_1, .ref z, .int (nI 0)]))] H9 ∧ va_D A [(q, .inr (0, [.int x_1, .ref z, .int (nI 0)]))]) (n := 0) (As := []) (rest := []) S (q_grow_z l dC dI z mi A n f x q e H.size x_1 (fun y9 h9 => hA y9 (Nat.le_trans hS.1 h9))) iw_240 iw_237 iw_239 iw_2 iw_60 (by decide +kernel) rfl ⟨rfl, rfl, Nat.le_of_ble_eq_true rfl, Nat.le_of_ble_eq_true rfl⟩ KL.blind (va_recv hK hP (ci := 0) (q0 := 0) rfl rfl) (hKL.at hS) ⟨rfl, hP, hD⟩ hl.1 rfl (Nat.le_of_ble_eq_true rfl) dJx4a65c_add_7a177_33 ⟨by decide, by decide⟩ hS (fun _ h9 => h9) (fun v9 H locs hB hz9 hk9 hS => ?_)
    refine W.widen (k := 1) (n := 610) (Nat.le_refl _) (Nat.le_refl _) ?_
    obtain ⟨r_3, cp_3, g_3, rfl, hc1_3, hc2_3, hg_3, hP, hD⟩ := hB
    refine W.eq (g2 := F0 m9 36 ls [.ref r_3]) rfl ?_
    have hP : va_P (dC, dI) vwCl [(q, .inr (0, [.int x_1, .ref r_3, .int (nI 0)])), (r_3, .inl (dC 8, cp_3, .inr (.inr (.inr (.inr g_3)))))] H := hP
    have hD : va_D A [(q, .inr (0, [.int x_1, .ref r_3, .int (nI 0)])), (r_3, .inl (dC 8, cp_3, .inr (.inr (.inr (.inr g_3)))))] := hD
    refine lv_astore (lv' := [(4, .ref r_3), (3, .int (nI 0)), (0, .ref q), (1, .int (nI i)), (2, .ref x)]) hx hb dJx4a65c_add_7a177_36 hl (by decide) rfl (fun ls hl => ?_)
    refine lv_aload hx hb dJx4a65c_add_7a177_38 (lv_at hl 0 rfl) ?_
    refine lv_iload_n hx hb dJx4a65c_add_7a177_40 rfl (lv_at hl 3 rfl) ?_
    refine lv_aload hx hb dJx4a65c_add_7a177_41 (lv_at hl 0 rfl) ?_
    refine lv_iload_n hx hb dJx4a65c_add_7a177_43 rfl (lv_at hl 3 rfl) ?_
    refine lv_iconst (v := 1) hx hb dJx4a65c_add_7a177_44 (by decide) ?_
    refine lv_iadd hx hb dJx4a65c_add_7a177_45 ?_
    refine lv_topi (fun x_4 ex_4 => ?_)
    obtain rfl : x_4 = nI (i + 1) := ex_4.trans (nI_add i 1)
    have en_5 : (nI (i + 1)).toInt = ((i + 1 : Nat) : Int) := pz_ti (by omega)
    refine lv_iload_n hx hb dJx4a65c_add_7a177_46 rfl (lv_at hl 1 rfl) ?_
    refine lv_iload_n hx hb dJx4a65c_add_7a177_47 rfl (lv_at hl 3 rfl) ?_
    refine lv_isub hx hb dJx4a65c_add_7a177_48 ?_
    refine lv_topi (fun x_6 ex_6 => ?_)
    obtain rfl : x_6 = nI (0 - i) := ex_6.trans (pk_sub (a := 0) (b := i) (by omega))
    have en_7 : (nI (0 - i)).toInt = ((0 - i : Nat) : Int) := pz_ti (by omega)
    refine W.eq (g2 := F0 m9 49 ls [.int (nI (0 - i)), .int (nI (i + 1)), .ref r_3, .int (nI i), .ref r_3]) rfl ?_
    refine va_copyM hx hb (hml.trans hl.1.symm) hown (hts _ iw_492) (hts _ iw_279) (hts _ iw_278) (hts _ iw_66) hK hP hD hS 1 1 2 2 rfl rfl rfl rfl (nI_pos (by omega)) (nI_pos (by omega)) (nI_pos (by omega)) (by rw [pz_cl (j := i) (by omega), pz_cl (j := (0 - i)) (by omega)]; omega) (by rw [pz_cl (j := (i + 1)) (by omega), pz_cl (j := (0 - i)) (by omega)]; omega) (fun i9 h9 y9 e9 => pzE.at (pz_Ekept (hKL.2.2.2.1 (i + i9) (by rw [pz_cl (j := (0 - i)) (by omega)] at h9; omega) y9 (by rw [pz_cl (j := i) (by omega)] at e9; exact (hg_3 _ (by rw [pz_cl (j := (0 - i)) (by omega)] at h9; omega)).symm.trans e9)) hS)) (Nat.le_of_ble_eq_true rfl) (Nat.le_of_ble_eq_true rfl) dJx4a65c_add_7a177_49 (fun H locs hP hD hS => ?_)
    have hP : va_P (dC, dI) vwCl [(q, .inr (0, [.int x_1, .ref r_3, .int (nI 0)])), (r_3, .inl (dC 8, cp_3, .inr (.inr (.inr (.inr (va_cpy g_3 g_3 (nI i).toNatClampNeg (nI (i + 1)).toNatClampNeg (nI (0 - i)).toNatClampNeg))))))] H := hP
    have hD : va_D A [(q, .inr (0, [.int x_1, .ref r_3, .int (nI 0)])), (r_3, .inl (dC 8, cp_3, .inr (.inr (.inr (.inr (va_cpy g_3 g_3 (nI i).toNatClampNeg (nI (i + 1)).toNatClampNeg (nI (0 - i)).toNatClampNeg))))))] := hD
    rw [pz_cl (j := i) (by omega), pz_cl (j := (i + 1)) (by omega), pz_cl (j := (0 - i)) (by omega)] at hP hD
    have hP : va_P (dC, dI) vwCl [(q, .inr (0, [.int x_1, .ref r_3, .int (nI 0)])), (r_3, .inl (dC 8, cp_3, .inr (.inr (.inr (.inr (va_cpy g_3 g_3 i (i + 1) (0 - i)))))))] H := hP
    have hD : va_D A [(q, .inr (0, [.int x_1, .ref r_3, .int (nI 0)])), (r_3, .inl (dC 8, cp_3, .inr (.inr (.inr (.inr (va_cpy g_3 g_3 i (i + 1) (0 - i)))))))] := hD
    refine lv_aload hx hb dJx4a65c_add_7a177_52 (lv_at hl 0 rfl) ?_
    refine lv_iload_n hx hb dJx4a65c_add_7a177_54 rfl (lv_at hl 3 rfl) ?_
    refine lv_aload_n hx hb dJx4a65c_add_7a177_55 rfl (lv_at hl 4 rfl) ?_
    refine va_astqM hx hb hK hP hD hS 1 2 rfl rfl (pzE.at (pz_Ekept hKL.2.2.2.2 hS)) (pz_vi (n := cp_3) (by omega) (by omega)) dJx4a65c_add_7a177_56 (fun H locs hP hD hS => ?_)
    have hP : va_P (dC, dI) vwCl [(q, .inr (0, [.int x_1, .ref r_3, .int (nI 0)])), (r_3, .inl (dC 8, cp_3, .inr (.inr (.inr (.inr (va_up (va_cpy g_3 g_3 i (i + 1) (0 - i)) ((nI i).toNatClampNeg) (some x)))))))] H := hP
    have hD : va_D A [(q, .inr (0, [.int x_1, .ref r_3, .int (nI 0)])), (r_3, .inl (dC 8, cp_3, .inr (.inr (.inr (.inr (va_up (va_cpy g_3 g_3 i (i + 1) (0 - i)) ((nI i).toNatClampNeg) (some x)))))))] := hD
    rw [pz_cl (by omega)] at hP hD
    have hP : va_P (dC, dI) vwCl [(q, .inr (0, [.int x_1, .ref r_3, .int (nI 0)])), (r_3, .inl (dC 8, cp_3, .inr (.inr (.inr (.inr (va_up (va_cpy g_3 g_3 i (i + 1) (0 - i)) i (some x)))))))] H := hP
    have hD : va_D A [(q, .inr (0, [.int x_1, .ref r_3, .int (nI 0)])), (r_3, .inl (dC 8, cp_3, .inr (.inr (.inr (.inr (va_up (va_cpy g_3 g_3 i (i + 1) (0 - i)) i (some x)))))))] := hD
    refine lv_aload_n hx hb dJx4a65c_add_7a177_57 rfl (lv_at hl 2 rfl) ?_
    refine lv_iload_n hx hb dJx4a65c_add_7a177_58 rfl (lv_at hl 1 rfl) ?_
    refine lv_iconst (v := 1) hx hb dJx4a65c_add_7a177_59 (by decide) ?_
    refine lv_iadd hx hb dJx4a65c_add_7a177_60 ?_
    refine lv_topi (fun x_8 ex_8 => ?_)
    obtain rfl : x_8 = nI (0 + 1) := ex_8.trans (nI_add 0 1)
    have en_9 : (nI (0 + 1)).toInt = ((0 + 1 : Nat) : Int) := pz_ti (by omega)
    refine va_put (D := (dC, dI)) (ci := 0) (v := .int (nI (0 + 1))) (ty := .int) (C := RJx4a65c) (T := TJx4a65c) (N := 3) hx hb hts inJx4a65c tyJx4a65c tyJx4a65c_ok nmJx4a65c hown hK hP hD hS 0 rfl rfl 2 (by decide) (hts _ iw_94) (fun _ h9 => h9) rfl (by decide +kernel) rfl rfl (Nat.le_of_ble_eq_true rfl) dJx4a65c_add_7a177_61 (fun H locs hP hD hS => ?_)
    have hP : va_P (dC, dI) vwCl [(q, .inr (0, [.int x_1, .ref r_3, .int (nI (0 + 1))])), (r_3, .inl (dC 8, cp_3, .inr (.inr (.inr (.inr (va_up (va_cpy g_3 g_3 i (i + 1) (0 - i)) i (some x)))))))] H := hP
    have hD : va_D A [(q, .inr (0, [.int x_1, .ref r_3, .int (nI (0 + 1))])), (r_3, .inl (dC 8, cp_3, .inr (.inr (.inr (.inr (va_up (va_cpy g_3 g_3 i (i + 1) (0 - i)) i (some x)))))))] := hD
    refine W.learn (fun lr1 lr2 lr3 => ?_)
    exact r_v hx hb hr hlocks hS dJx4a65c_add_7a177_64 (⟨r_3, cp_3, (va_up (va_cpy g_3 g_3 i (i + 1) (0 - i)) i (some x)), x_1, rfl, by omega, by omega, fun t h9 => (((vu_n (by omega)).trans (pk_cpy_out (Or.inl (by omega)))).trans (hg_3 _ (by omega))), vu_s, fun t h8 h9 => (((vu_n (by omega)).trans (pk_cpy_in (by omega) (by omega))).trans (hg_3 _ (by omega))).trans (by congr 1; omega), hP, hD, hSz.of lr1 (Nat.le_trans lr3 (by decide)), lr2⟩)

abbrev B_q_fast (dC : Nat → ClassId) (dI : Nat → Nat → Nat) (z : Nat) (mi : Nat) (A : Nat → Prop) (n : Nat) (f : Nat → Option Nat) (x : Nat) (q : Nat) (e : Nat) (sz : Nat) (m : Int32) (cap : Nat) (i : Nat) : Option Value → Heap → Prop := fun v H => ∃ (g : Nat → Option Nat) (m1 : Int32), v = none ∧ (∀ t, t < i → g t = f t) ∧ (∀ t, i ≤ t → t < n - 1 → g t = f (t + 1)) ∧ va_P (dC, dI) vwCl [(q, .inr (0, [.int m1, .ref e, .int (nI (n - 1))])), (e, .inl (dC 8, cap, .inr (.inr (.inr (.inr g)))))] H ∧ va_D A [(q, .inr (0, [.int m1, .ref e, .int (nI (n - 1))])), (e, .inl (dC 8, cap, .inr (.inr (.inr (.inr g)))))]
set_option maxHeartbeats 8000000 in
set_option maxRecDepth 20000 in
theorem q_fast (l : Launch) (dC : Nat → ClassId) (dI : Nat → Nat → Nat) (z : Nat) (mi : Nat) (A : Nat → Prop) (n : Nat) (f : Nat → Option Nat) (x : Nat) (q : Nat) (e : Nat) (sz : Nat) (m : Int32) (cap : Nat) (i : Nat) (hi : i < n) (hnc : n ≤ cap) (hcap : cap ≤ 610) : Met l yJx4a65c_fastRemove_b59b0 (cws yJx4a65c_fastRemove_b59b0 cJx4a65c_fastRemove_b59b0 4 none) { frames := 1, cells := 0, slots := 0, locals := 60 } (va_Pc [.ref q, .ref e, .int (nI i)] (fun U => KL dC dI z mi A n f x U ∧ (fun H => H.size = sz ∧ va_P (dC, dI) vwCl [(q, .inr (0, [.int m, .ref e, .int (nI n)])), (e, .inl (dC 8, cap, .inr (.inr (.inr (.inr f)))))] H ∧ va_D A [(q, .inr (0, [.int m, .ref e, .int (nI n)])), (e, .inl (dC 8, cap, .inr (.inr (.inr (.inr f)))))]) U.heap)) (Qg (B_q_fast dC dI z mi A n f x q e sz m cap i) A) 0 0 A := by
  refine m_start (KK := KL dC dI z mi A n f x) (Pw := (fun H => H.size = sz ∧ va_P (dC, dI) vwCl [(q, .inr (0, [.int m, .ref e, .int (nI n)])), (e, .inl (dC 8, cap, .inr (.inr (.inr (.inr f)))))] H ∧ va_D A [(q, .inr (0, [.int m, .ref e, .int (nI n)])), (e, .inl (dC 8, cap, .inr (.inr (.inr (.inr f)))))])) (by decide) (Nat.le_of_ble_eq_true rfl) ?_
  intro p e9 s m9 below meth c ls S hr hlocks hin hKL hW hS hl
  obtain ⟨hx, hb, hml, hown, hts⟩ := id S
  have hK := hKL.1
  obtain ⟨hsz, hP, hD⟩ := hW
  subst hsz
  have hl : lv_has ls 4 [(0, .ref q), (1, .ref e), (2, .int (nI i))] := hl
  have en_n : (nI n).toInt = ((n : Nat) : Int) := pz_ti (by omega)
  have en_i : (nI i).toInt = ((i : Nat) : Int) := pz_ti (by omega)
  have en_cap : (nI cap).toInt = ((cap : Nat) : Int) := pz_ti (by omega)
  refine lv_aload_n hx hb dJx4a65c_fastRemove_b59b0_0 rfl (lv_at hl 0 rfl) ?_
  refine lv_dup hx hb dJx4a65c_fastRemove_b59b0_1 rfl ?_
  refine va_get (D := (dC, dI)) (ci := 0) (v := .int m) (C := RJx4a65c) (T := TJx4a65c) (N := 3) hx hb hts inJx4a65c hown hK hP 0 rfl rfl 0 (by decide) (hts _ iw_96) (u_same (hts _ iw_97)) rfl dJx4a65c_fastRemove_b59b0_2 ?_
  refine lv_iconst (v := 1) hx hb dJx4a65c_fastRemove_b59b0_5 (by decide) ?_
  refine lv_iadd hx hb dJx4a65c_fastRemove_b59b0_6 ?_
  refine lv_topi (fun x_1 _ => ?_)
  refine va_put (D := (dC, dI)) (ci := 0) (v := .int x_1) (ty := .int) (C := RJx4a65c) (T := TJx4a65c) (N := 3) hx hb hts inJx4a65c tyJx4a65c tyJx4a65c_ok nmJx4a65c hown hK hP hD hS 0 rfl rfl 0 (by decide) (hts _ iw_96) (u_same (hts _ iw_97)) rfl (by decide +kernel) rfl rfl (Nat.le_of_ble_eq_true rfl) dJx4a65c_fastRemove_b59b0_7 (fun H locs hP hD hS => ?_)
  have hP : va_P (dC, dI) vwCl [(q, .inr (0, [.int x_1, .ref e, .int (nI n)])), (e, .inl (dC 8, cap, .inr (.inr (.inr (.inr f)))))] H := hP
  have hD : va_D A [(q, .inr (0, [.int x_1, .ref e, .int (nI n)])), (e, .inl (dC 8, cap, .inr (.inr (.inr (.inr f)))))] := hD
  refine lv_aload_n hx hb dJx4a65c_fastRemove_b59b0_10 rfl (lv_at hl 0 rfl) ?_
  refine va_get (D := (dC, dI)) (ci := 0) (v := .int (nI n)) (C := RJx4a65c) (T := TJx4a65c) (N := 3) hx hb hts inJx4a65c hown hK hP 0 rfl rfl 2 (by decide) (hts _ iw_94) (fun _ h9 => h9) rfl dJx4a65c_fastRemove_b59b0_11 ?_
  refine lv_iconst (v := 1) hx hb dJx4a65c_fastRemove_b59b0_14 (by decide) ?_
  refine lv_isub hx hb dJx4a65c_fastRemove_b59b0_15 ?_
  refine lv_topi (fun x_2 ex_2 => ?_)
  obtain rfl : x_2 = nI (n - 1) := ex_2.trans (pk_sub (a := n) (b := 1) (by omega))
  have en_3 : (nI (n - 1)).toInt = ((n - 1 : Nat) : Int) := pz_ti (by omega)
  refine lv_dup hx hb dJx4a65c_fastRemove_b59b0_16 rfl ?_
  refine lv_istore_n (lv' := [(3, .int (nI (n - 1))), (0, .ref q), (1, .ref e), (2, .int (nI i))]) hx hb dJx4a65c_fastRemove_b59b0_17 rfl hl (by decide) rfl (fun ls hl => ?_)
  refine lv_iload_n hx hb dJx4a65c_fastRemove_b59b0_18 rfl (lv_at hl 3 rfl) ?_
  refine lv_icmp_le (tgt := 34) hx hb dJx4a65c_fastRemove_b59b0_19 (by decide) (fun c_4 => ?_) (fun c_4 => ?_)
  · skip
    have i_4 : (nI (n - 1)).toInt ≤ (nI i).toInt := by have h9 := pz_le c_4; exact h9
    refine lv_aload_n hx hb dJx4a65c_fastRemove_b59b0_34 rfl (lv_at hl 2 rfl) ?_
    refine lv_aload_n hx hb dJx4a65c_fastRemove_b59b0_35 rfl (lv_at hl 1 rfl) ?_
    refine lv_iload_n hx hb dJx4a65c_fastRemove_b59b0_36 rfl (lv_at hl 0 rfl) ?_
    refine lv_dup_x1 hx hb dJx4a65c_fastRemove_b59b0_37 rfl rfl ?_
    refine va_put (D := (dC, dI)) (ci := 0) (v := .int (nI (n - 1))) (ty := .int) (C := RJx4a65c) (T := TJx4a65c) (N := 3) hx hb hts inJx4a65c tyJx4a65c tyJx4a65c_ok nmJx4a65c hown hK hP hD hS 0 rfl rfl 2 (by decide) (hts _ iw_94) (fun _ h9 => h9) rfl (by decide +kernel) rfl rfl (Nat.le_of_ble_eq_true rfl) dJx4a65c_fastRemove_b59b0_38 (fun H locs hP hD hS => ?_)
    have hP : va_P (dC, dI) vwCl [(q, .inr (0, [.int x_1, .ref e, .int (nI (n - 1))])), (e, .inl (dC 8, cap, .inr (.inr (.inr (.inr f)))))] H := hP
    have hD : va_D A [(q, .inr (0, [.int x_1, .ref e, .int (nI (n - 1))])), (e, .inl (dC 8, cap, .inr (.inr (.inr (.inr f)))))] := hD
    refine lv_null hx hb dJx4a65c_fastRemove_b59b0_41 ?_
    refine va_astqN hx hb hK hP hD hS 1 2 rfl rfl (pz_vi (n := cap) (by omega) (by omega)) dJx4a65c_fastRemove_b59b0_42 (fun H locs hP hD hS => ?_)
    have hP : va_P (dC, dI) vwCl [(q, .inr (0, [.int x_1, .ref e, .int (nI (n - 1))])), (e, .inl (dC 8, cap, .inr (.inr (.inr (.inr (va_up f ((nI (n - 1)).toNatClampNeg) none))))))] H := hP
    have hD : va_D A [(q, .inr (0, [.int x_1, .ref e, .int (nI (n - 1))])), (e, .inl (dC 8, cap, .inr (.inr (.inr (.inr (va_up f ((nI (n - 1)).toNatClampNeg) none))))))] := hD
    rw [pz_cl (by omega)] at hP hD
    have hP : va_P (dC, dI) vwCl [(q, .inr (0, [.int x_1, .ref e, .int (nI (n - 1))])), (e, .inl (dC 8, cap, .inr (.inr (.inr (.inr (va_up f ((n - 1)) none))))))] H := hP
    have hD : va_D A [(q, .inr (0, [.int x_1, .ref e, .int (nI (n - 1))])), (e, .inl (dC 8, cap, .inr (.inr (.inr (.inr (va_up f ((n - 1)) none))))))] := hD
    exact r_v hx hb hr hlocks hS dJx4a65c_fastRemove_b59b0_43 (⟨(va_up f ((n - 1)) none), x_1, rfl, fun t h9 => vu_n (by omega), fun t h8 h9 => by omega, hP, hD⟩)
  · skip
    have i_4 : (nI (n - 1)).toInt > (nI i).toInt := by have h9 := pz_nle c_4; exact h9
    refine lv_aload_n hx hb dJx4a65c_fastRemove_b59b0_22 rfl (lv_at hl 2 rfl) ?_
    refine lv_iload_n hx hb dJx4a65c_fastRemove_b59b0_23 rfl (lv_at hl 3 rfl) ?_
    refine lv_iconst (v := 1) hx hb dJx4a65c_fastRemove_b59b0_24 (by decide) ?_
    refine lv_iadd hx hb dJx4a65c_fastRemove_b59b0_25 ?_
    refine lv_topi (fun x_5 ex_5 => ?_)
    obtain rfl : x_5 = nI (i + 1) := ex_5.trans (nI_add i 1)
    have en_6 : (nI (i + 1)).toInt = ((i + 1 : Nat) : Int) := pz_ti (by omega)
    refine lv_aload_n hx hb dJx4a65c_fastRemove_b59b0_26 rfl (lv_at hl 2 rfl) ?_
    refine lv_iload_n hx hb dJx4a65c_fastRemove_b59b0_27 rfl (lv_at hl 3 rfl) ?_
    refine lv_iload_n hx hb dJx4a65c_fastRemove_b59b0_28 rfl (lv_at hl 0 rfl) ?_
    refine lv_iload_n hx hb dJx4a65c_fastRemove_b59b0_29 rfl (lv_at hl 3 rfl) ?_
    refine lv_isub hx hb dJx4a65c_fastRemove_b59b0_30 ?_
    refine lv_topi (fun x_7 ex_7 => ?_)
    obtain rfl : x_7 = nI ((n - 1) - i) := ex_7.trans (pk_sub (a := (n - 1)) (b := i) (by omega))
    have en_8 : (nI ((n - 1) - i)).toInt = (((n - 1) - i : Nat) : Int) := pz_ti (by omega)
    refine W.eq (g2 := F0 m9 31 ls [.int (nI ((n - 1) - i)), .int (nI i), .ref e, .int (nI (i + 1)), .ref e]) rfl ?_
    refine va_copyM hx hb (hml.trans hl.1.symm) hown (hts _ iw_492) (hts _ iw_279) (hts _ iw_278) (hts _ iw_66) hK hP hD hS 1 1 2 2 rfl rfl rfl rfl (nI_pos (by omega)) (nI_pos (by omega)) (nI_pos (by omega)) (by rw [pz_cl (j := (i + 1)) (by omega), pz_cl (j := ((n - 1) - i)) (by omega)]; omega) (by rw [pz_cl (j := i) (by omega), pz_cl (j := ((n - 1) - i)) (by omega)]; omega) (fun i9 h9 y9 e9 => pzE.at (pz_Ekept (hKL.2.2.2.1 (i + 1 + i9) (by rw [pz_cl (j := ((n - 1) - i)) (by omega)] at h9; omega) y9 (by rw [pz_cl (j := i + 1) (by omega)] at e9; exact e9)) hS)) (Nat.le_of_ble_eq_true rfl) (Nat.le_of_ble_eq_true rfl) dJx4a65c_fastRemove_b59b0_31 (fun H locs hP hD hS => ?_)
    have hP : va_P (dC, dI) vwCl [(q, .inr (0, [.int x_1, .ref e, .int (nI n)])), (e, .inl (dC 8, cap, .inr (.inr (.inr (.inr (va_cpy f f (nI (i + 1)).toNatClampNeg (nI i).toNatClampNeg (nI ((n - 1) - i)).toNatClampNeg))))))] H := hP
    have hD : va_D A [(q, .inr (0, [.int x_1, .ref e, .int (nI n)])), (e, .inl (dC 8, cap, .inr (.inr (.inr (.inr (va_cpy f f (nI (i + 1)).toNatClampNeg (nI i).toNatClampNeg (nI ((n - 1) - i)).toNatClampNeg))))))] := hD
    rw [pz_cl (j := (i + 1)) (by omega), pz_cl (j := i) (by omega), pz_cl (j := ((n - 1) - i)) (by omega)] at hP hD
    have hP : va_P (dC, dI) vwCl [(q, .inr (0, [.int x_1, .ref e, .int (nI n)])), (e, .inl (dC 8, cap, .inr (.inr (.inr (.inr (va_cpy f f (i + 1) i ((n - 1) - i)))))))] H := hP
    have hD : va_D A [(q, .inr (0, [.int x_1, .ref e, .int (nI n)])), (e, .inl (dC 8, cap, .inr (.inr (.inr (.inr (va_cpy f f (i + 1) i ((n - 1) - i)))))))] := hD
    refine lv_aload_n hx hb dJx4a65c_fastRemove_b59b0_34 rfl (lv_at hl 2 rfl) ?_
    refine lv_aload_n hx hb dJx4a65c_fastRemove_b59b0_35 rfl (lv_at hl 1 rfl) ?_
    refine lv_iload_n hx hb dJx4a65c_fastRemove_b59b0_36 rfl (lv_at hl 0 rfl) ?_
    refine lv_dup_x1 hx hb dJx4a65c_fastRemove_b59b0_37 rfl rfl ?_
    refine va_put (D := (dC, dI)) (ci := 0) (v := .int (nI (n - 1))) (ty := .int) (C := RJx4a65c) (T := TJx4a65c) (N := 3) hx hb hts inJx4a65c tyJx4a65c tyJx4a65c_ok nmJx4a65c hown hK hP hD hS 0 rfl rfl 2 (by decide) (hts _ iw_94) (fun _ h9 => h9) rfl (by decide +kernel) rfl rfl (Nat.le_of_ble_eq_true rfl) dJx4a65c_fastRemove_b59b0_38 (fun H locs hP hD hS => ?_)
    have hP : va_P (dC, dI) vwCl [(q, .inr (0, [.int x_1, .ref e, .int (nI (n - 1))])), (e, .inl (dC 8, cap, .inr (.inr (.inr (.inr (va_cpy f f (i + 1) i ((n - 1) - i)))))))] H := hP
    have hD : va_D A [(q, .inr (0, [.int x_1, .ref e, .int (nI (n - 1))])), (e, .inl (dC 8, cap, .inr (.inr (.inr (.inr (va_cpy f f (i + 1) i ((n - 1) - i)))))))] := hD
    refine lv_null hx hb dJx4a65c_fastRemove_b59b0_41 ?_
    refine va_astqN hx hb hK hP hD hS 1 2 rfl rfl (pz_vi (n := cap) (by omega) (by omega)) dJx4a65c_fastRemove_b59b0_42 (fun H locs hP hD hS => ?_)
    have hP : va_P (dC, dI) vwCl [(q, .inr (0, [.int x_1, .ref e, .int (nI (n - 1))])), (e, .inl (dC 8, cap, .inr (.inr (.inr (.inr (va_up (va_cpy f f (i + 1) i ((n - 1) - i)) ((nI (n - 1)).toNatClampNeg) none))))))] H := hP
    have hD : va_D A [(q, .inr (0, [.int x_1, .ref e, .int (nI (n - 1))])), (e, .inl (dC 8, cap, .inr (.inr (.inr (.inr (va_up (va_cpy f f (i + 1) i ((n - 1) - i)) ((nI (n - 1)).toNatClampNeg) none))))))] := hD
    rw [pz_cl (by omega)] at hP hD
    have hP : va_P (dC, dI) vwCl [(q, .inr (0, [.int x_1, .ref e, .int (nI (n - 1))])), (e, .inl (dC 8, cap, .inr (.inr (.inr (.inr (va_up (va_cpy f f (i + 1) i ((n - 1) - i)) ((n - 1)) none))))))] H := hP
    have hD : va_D A [(q, .inr (0, [.int x_1, .ref e, .int (nI (n - 1))])), (e, .inl (dC 8, cap, .inr (.inr (.inr (.inr (va_up (va_cpy f f (i + 1) i ((n - 1) - i)) ((n - 1)) none))))))] := hD
    exact r_v hx hb hr hlocks hS dJx4a65c_fastRemove_b59b0_43 (⟨(va_up (va_cpy f f (i + 1) i ((n - 1) - i)) ((n - 1)) none), x_1, rfl, fun t h9 => (vu_n (by omega)).trans (pk_cpy_out (Or.inl (by omega))), fun t h8 h9 => ((vu_n (by omega)).trans (pk_cpy_in (by omega) (by omega))).trans (by congr 1; omega), hP, hD⟩)

abbrev B_q_rem (dC : Nat → ClassId) (dI : Nat → Nat → Nat) (z : Nat) (mi : Nat) (A : Nat → Prop) (n : Nat) (f : Nat → Option Nat) (x : Nat) (q : Nat) (e : Nat) (sz : Nat) (m : Int32) (cap : Nat) (i : Nat) (r0 : Nat) (bs : Nat) : Option Value → Heap → Prop := fun v H => ∃ (g : Nat → Option Nat) (m1 : Int32), v = some (.ref r0) ∧ (∀ t, t < i → g t = f t) ∧ (∀ t, i ≤ t → t < n - 1 → g t = f (t + 1)) ∧ va_P (dC, dI) vwCl [(q, .inr (0, [.int m1, .ref e, .int (nI (n - 1))])), (e, .inl (dC 8, cap, .inr (.inr (.inr (.inr g)))))] H ∧ va_D A [(q, .inr (0, [.int m1, .ref e, .int (nI (n - 1))])), (e, .inl (dC 8, cap, .inr (.inr (.inr (.inr g)))))] ∧ Sz bs H ∧ H.size ≤ sz + 0
set_option maxHeartbeats 8000000 in
set_option maxRecDepth 20000 in
theorem q_rem (l : Launch) (dC : Nat → ClassId) (dI : Nat → Nat → Nat) (z : Nat) (mi : Nat) (A : Nat → Prop) (n : Nat) (f : Nat → Option Nat) (x : Nat) (q : Nat) (e : Nat) (sz : Nat) (m : Int32) (cap : Nat) (i : Nat) (r0 : Nat) (bs : Nat) (hi : i < n) (hnc : n ≤ cap) (hcap : cap ≤ 610) (hfi : f i = some r0) : Met l yJx4a65c_remove_915e3 (cws yJx4a65c_remove_915e3 cJx4a65c_remove_915e3 4 (some (.object "java/lang/Object"))) { frames := 2, cells := 0, slots := 0, locals := 83 } (va_Pc [.ref q, .int (nI i)] (fun U => KL dC dI z mi A n f x U ∧ (fun H => H.size = sz ∧ va_P (dC, dI) vwCl [(q, .inr (0, [.int m, .ref e, .int (nI n)])), (e, .inl (dC 8, cap, .inr (.inr (.inr (.inr f)))))] H ∧ va_D A [(q, .inr (0, [.int m, .ref e, .int (nI n)])), (e, .inl (dC 8, cap, .inr (.inr (.inr (.inr f)))))] ∧ Sz bs H) U.heap)) (Qg (B_q_rem dC dI z mi A n f x q e sz m cap i r0 bs) A) 0 0 A := by
  refine m_start (KK := KL dC dI z mi A n f x) (Pw := (fun H => H.size = sz ∧ va_P (dC, dI) vwCl [(q, .inr (0, [.int m, .ref e, .int (nI n)])), (e, .inl (dC 8, cap, .inr (.inr (.inr (.inr f)))))] H ∧ va_D A [(q, .inr (0, [.int m, .ref e, .int (nI n)])), (e, .inl (dC 8, cap, .inr (.inr (.inr (.inr f)))))] ∧ Sz bs H)) (by decide) (Nat.le_of_ble_eq_true rfl) ?_
  intro p e9 s m9 below meth c ls S hr hlocks hin hKL hW hS hl
  obtain ⟨hx, hb, hml, hown, hts⟩ := id S
  have hK := hKL.1
  obtain ⟨hsz, hP, hD, hSz⟩ := hW
  subst hsz
  have hl : lv_has ls 4 [(0, .ref q), (1, .int (nI i))] := hl
  have en_n : (nI n).toInt = ((n : Nat) : Int) := pz_ti (by omega)
  have en_i : (nI i).toInt = ((i : Nat) : Int) := pz_ti (by omega)
  have en_cap : (nI cap).toInt = ((cap : Nat) : Int) := pz_ti (by omega)
  refine lv_iload_n hx hb dJx4a65c_remove_915e3_0 rfl (lv_at hl 1 rfl) ?_
  refine lv_aload_n hx hb dJx4a65c_remove_915e3_1 rfl (lv_at hl 0 rfl) ?_
  refine va_get (D := (dC, dI)) (ci := 0) (v := .int (nI n)) (C := RJx4a65c) (T := TJx4a65c) (N := 3) hx hb hts inJx4a65c hown hK hP 0 rfl rfl 2 (by decide) (hts _ iw_94) (fun _ h9 => h9) rfl dJx4a65c_remove_915e3_2 ?_
  refine c_s (Pw := (fun H9 => H9.size = s.heap.size ∧ va_P (dC, dI) vwCl [(q, .inr (0, [.int m, .ref e, .int (nI n)])), (e, .inl (dC 8, cap, .inr (.inr (.inr (.inr f)))))] H9 ∧ va_D A [(q, .inr (0, [.int m, .ref e, .int (nI n)])), (e, .inl (dC 8, cap, .inr (.inr (.inr (.inr f)))))])) (n := 2) (As := [.int (nI i), .int (nI n)]) (rest := []) S (q_J15 l A (fun H9 => H9.size = s.heap.size ∧ va_P (dC, dI) vwCl [(q, .inr (0, [.int m, .ref e, .int (nI n)])), (e, .inl (dC 8, cap, .inr (.inr (.inr (.inr f)))))] H9 ∧ va_D A [(q, .inr (0, [.int m, .ref e, .int (nI n)])), (e, .inl (dC 8, cap, .inr (.inr (.inr (.inr f)))))]) i n (by omega) (by omega)) iw_296 iw_294 iw_295 iw_67 (by decide +kernel) rfl ⟨rfl, rfl, Nat.le_of_ble_eq_true rfl, Nat.le_of_ble_eq_true rfl⟩ (fun _ _ _ _ _ => trivial) (fun _ _ _ => trivial) ⟨rfl, hP, hD⟩ hl.1 rfl (Nat.le_of_ble_eq_true rfl) dJx4a65c_remove_915e3_5 ⟨by decide, by decide⟩ hS (fun _ h9 => h9) (fun v9 H locs hB hz9 hk9 hS => ?_)
  refine W.widen (k := 0) (n := 0) (Nat.le_refl _) (Nat.le_refl _) ?_
  obtain ⟨rfl, -, hP, hD⟩ := hB
  have hP : va_P (dC, dI) vwCl [(q, .inr (0, [.int m, .ref e, .int (nI n)])), (e, .inl (dC 8, cap, .inr (.inr (.inr (.inr f)))))] H := hP
  have hD : va_D A [(q, .inr (0, [.int m, .ref e, .int (nI n)])), (e, .inl (dC 8, cap, .inr (.inr (.inr (.inr f)))))] := hD
  refine W.eq (g2 := F0 m9 8 ls [.int (nI i)]) rfl ?_
  refine lv_pop hx hb dJx4a65c_remove_915e3_8 rfl ?_
  refine lv_aload_n hx hb dJx4a65c_remove_915e3_9 rfl (lv_at hl 0 rfl) ?_
  refine va_get (D := (dC, dI)) (ci := 0) (v := .ref e) (C := RJx4a65c) (T := TJx4a65c) (N := 3) hx hb hts inJx4a65c hown hK hP 0 rfl rfl 1 (by decide) (hts _ iw_93) (fun _ h9 => h9) rfl dJx4a65c_remove_915e3_10 ?_
  refine lv_astore_n (lv' := [(2, .ref e), (0, .ref q), (1, .int (nI i))]) hx hb dJx4a65c_remove_915e3_13 rfl hl (by decide) rfl (fun ls hl => ?_)
  refine lv_aload_n hx hb dJx4a65c_remove_915e3_14 rfl (lv_at hl 0 rfl) ?_
  refine lv_iload_n hx hb dJx4a65c_remove_915e3_15 rfl (lv_at hl 2 rfl) ?_
  refine va_aldq hx hb hK hP 1 2 rfl rfl (pz_vi (n := cap) (by omega) (by omega)) dJx4a65c_remove_915e3_16 ?_
  rw [pz_cl (by omega), hfi]
  refine W.eq (g2 := F0 m9 17 ls [.ref r0]) rfl ?_
  refine lv_astore_n (lv' := [(3, .ref r0), (2, .ref e), (0, .ref q), (1, .int (nI i))]) hx hb dJx4a65c_remove_915e3_17 rfl hl (by decide) rfl (fun ls hl => ?_)
  refine lv_aload_n hx hb dJx4a65c_remove_915e3_18 rfl (lv_at hl 2 rfl) ?_
  refine lv_aload_n hx hb dJx4a65c_remove_915e3_19 rfl (lv_at hl 1 rfl) ?_
  refine lv_iload_n hx hb dJx4a65c_remove_915e3_20 rfl (lv_at hl 3 rfl) ?_
  refine c_v (Pw := fun H9 => H9.size = H.size ∧ va_P (dC, dI) vwCl [(q, .inr (0, [.int m, .ref e, .int (nI n)])), (e, .inl (dC 8, cap, .inr (.inr (.inr (.inr f)))))] H9 ∧ va_D A [(q, .inr (0, [.int m, .ref e, .int (nI n)])), (e, .inl (dC 8, cap, .inr (.inr (.inr (.inr f)))))]) (n := 2) (As := [.ref e, .int (nI i)]) (rest := []) S (q_fast l dC dI z mi A n f x q e H.size m cap i hi hnc hcap) iw_516 iw_513 iw_515 iw_15 iw_60 (by decide +kernel) rfl ⟨rfl, rfl, Nat.le_of_ble_eq_true rfl, Nat.le_of_ble_eq_true rfl⟩ KL.blind (va_recv hK hP (ci := 0) (q0 := 0) rfl rfl) (hKL.at hS) ⟨rfl, hP, hD⟩ hl.1 rfl (Nat.le_of_ble_eq_true rfl) dJx4a65c_remove_915e3_21 ⟨by decide, by decide⟩ hS (fun _ h9 => h9) (fun v9 H locs hB hz9 hk9 hS => ?_)
  refine W.widen (k := 0) (n := 0) (Nat.le_refl _) (Nat.le_refl _) ?_
  obtain ⟨g_1, m_1, rfl, ga_1, gb_1, hP, hD⟩ := hB
  refine W.eq (g2 := F0 m9 24 ls []) rfl ?_
  have hP : va_P (dC, dI) vwCl [(q, .inr (0, [.int m_1, .ref e, .int (nI (n - 1))])), (e, .inl (dC 8, cap, .inr (.inr (.inr (.inr g_1)))))] H := hP
  have hD : va_D A [(q, .inr (0, [.int m_1, .ref e, .int (nI (n - 1))])), (e, .inl (dC 8, cap, .inr (.inr (.inr (.inr g_1)))))] := hD
  refine lv_aload_n hx hb dJx4a65c_remove_915e3_24 rfl (lv_at hl 0 rfl) ?_
  refine W.learn (fun lr1 lr2 lr3 => ?_)
  exact r_a (o := some r0) hx hb hr (Or.inl ⟨_, rfl⟩) hlocks hS dJx4a65c_remove_915e3_25 (⟨_, _, rfl, ga_1, gb_1, hP, hD, hSz.of lr1 (Nat.le_trans lr3 (by decide)), lr2⟩)
