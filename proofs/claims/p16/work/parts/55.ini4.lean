theorem pz_n7 : ¬ (7 : Int32) < 0 := by decide +kernel
theorem pz_n8 : ¬ (8 : Int32) < 0 := by decide +kernel
theorem pz_n200 : ¬ (200 : Int32) < 0 := by decide +kernel
theorem pz_n400 : ¬ (400 : Int32) < 0 := by decide +kernel
theorem pz_c7 : (7 : Int32).toNatClampNeg = 7 := by decide +kernel
theorem pz_c8 : (8 : Int32).toNatClampNeg = 8 := by decide +kernel
theorem pz_c200 : (200 : Int32).toNatClampNeg = 200 := by decide +kernel
theorem pz_c400 : (400 : Int32).toNatClampNeg = 400 := by decide +kernel
def kx (i : Nat) : Nat := if i = 0 then 0 else i + 10
/-- the rows made so far -/
def Jn (dC : Nat → ClassId) (dI : Nat → Nat → Nat) (sz n : Nat) (H : Heap) : Prop := ∀ i, i < n → iat dC dI (sz + i) (mC (kx i)) (mN (kx i)) (fun _ => 0) H
theorem Jn.push {dC : Nat → ClassId} {dI : Nat → Nat → Nat} {sz n c N : Nat} {H H1 : Heap} (h : Jn dC dI sz n H) (hz : H.size = sz + n) (ho : ∀ y : Nat, y < H.size → H1[y]? = H[y]?) (hc : mC (kx n) = c) (hN : mN (kx n) = N) (hi : iat dC dI (sz + n) c N (fun _ => 0) H1) : Jn dC dI sz (n + 1) H1 := fun i hl => by
  rcases Nat.lt_succ_iff_lt_or_eq.mp hl with g | g
  · exact va_at.kept (h i g) (ho _ (by omega))
  · rw [g, hc, hN]; exact hi
theorem Jn.keep {dC : Nat → ClassId} {dI : Nat → Nat → Nat} {sz n h0 : Nat} {H H1 : Heap} (h : Jn dC dI sz n H) (hz : H.size = sz + n) (h00 : h0 < sz) (ho : ∀ y : Nat, y < H.size → ¬ y = h0 → H1[y]? = H[y]?) : Jn dC dI sz n H1 := fun i hl => va_at.kept (h i hl) (ho _ (by omega) (by omega))
theorem mAr_ge {k : Nat} (h : mAr k = true) : k = 0 ∨ (11 ≤ k ∧ k ≤ 41) := by
  unfold mAr at h
  simp at h
  omega
theorem mAr_jn {dC : Nat → ClassId} {dI : Nat → Nat → Nat} {sz k : Nat} {H : Heap} (h : mAr k = true) (hJ : Jn dC dI sz 32 H) : iat dC dI (sz + (k - 10)) (mC k) (mN k) (fun _ => 0) H := by
  have h1 := mAr_ge h
  have h2 := hJ (k - 10) (by omega)
  have h3 : kx (k - 10) = k := by unfold kx; split <;> omega
  rw [h3] at h2
  exact h2
abbrev B_q_X4_init (dC : Nat → ClassId) (dI : Nat → Nat → Nat) (A : Nat → Prop) (h0 sz : Nat) : Option Value → Heap → Prop := fun v H => v = none ∧ Mw dC dI h0 (fun k => sz + (k - 10)) A (fun k => if k = 5 then 3 else if k = 6 then 20 else 0) (fun _ _ => 0) H ∧ H.size = sz + 32
set_option maxHeartbeats 8000000 in
set_option maxRecDepth 20000 in
theorem q_X4_init (l : Launch) (dC : Nat → ClassId) (dI : Nat → Nat → Nat) (A : Nat → Prop) (h0 sz : Nat) (hA0 : A h0) (hA1 : ∀ y, sz ≤ y → A y) : Met l yX4_init (cws yX4_init cX4_init 1 none) { frames := 1, cells := 32, slots := 3935, locals := 12 } (va_Pc [.ref h0] (fun U => Kt dC dI U ∧ (fun H => H.size = sz ∧ oat dC dI h0 5 [.null, .int 0, .int 0, .int 0, .int 0, .int 0, .int 0, .int 0, .int 0, .int 0, .int 0, .null, .null, .null, .null, .null, .null, .null, .null, .null, .null, .null, .null, .null, .null, .null, .null, .null, .null, .null, .null, .null, .null, .null, .null, .null, .null, .null, .null, .null, .null, .null, .int 0] H) U.heap)) (Qg (B_q_X4_init dC dI A h0 sz) (fun y => y = h0)) 32 3935 (fun y => y = h0) := by
  refine m_start (KK := Kt dC dI) (Pw := (fun H => H.size = sz ∧ oat dC dI h0 5 [.null, .int 0, .int 0, .int 0, .int 0, .int 0, .int 0, .int 0, .int 0, .int 0, .int 0, .null, .null, .null, .null, .null, .null, .null, .null, .null, .null, .null, .null, .null, .null, .null, .null, .null, .null, .null, .null, .null, .null, .null, .null, .null, .null, .null, .null, .null, .null, .null, .int 0] H)) (by decide) (Nat.le_of_ble_eq_true rfl) ?_
  intro p e s m below meth c ls S hr hlocks hin hK hW hS hl
  obtain ⟨hx, hb, hml, hown, hts⟩ := id S
  obtain ⟨hsz, ho⟩ := hW
  subst hsz
  have h00 : h0 < s.heap.size := va_at.lt ho
  have hz : s.heap.size = s.heap.size + 0 := rfl
  have hJ : Jn dC dI s.heap.size 0 s.heap := fun _ h9 => absurd h9 (Nat.not_lt_zero _)
  have hl : lv_has ls 1 [(0, .ref h0)] := hl
  refine lv_aload_n hx hb dX4_init_0 rfl (lv_at hl 0 rfl) ?_
  refine W.objInit hx hb hown (hts _ iw_645) (hts _ iw_77) (hts _ iw_78) rfl (by rw [hml]; exact hl.1) rfl dX4_init_1 (Nat.le_of_ble_eq_true rfl) (Nat.le_of_ble_eq_true rfl) ?_
  refine W.eq (g2 := F0 m 4 ls []) rfl ?_
  refine lv_aload_n hx hb dX4_init_4 rfl (lv_at hl 0 rfl) ?_
  refine lv_bipush (v := 7) hx hb dX4_init_5 (by decide) ?_
  refine va_newaK hx hb (hts _ iw_145) rfl dX4_init_7 rfl pz_n7 pz_c7 (by decide +kernel) (Nat.le_of_ble_eq_true rfl) (Nat.le_of_ble_eq_true rfl) hz (fun H1 cA e1 z1 o1 _ hNm => ?_)
  obtain rfl : cA = dC 6 := Option.some.inj (hNm.symm.trans (hK.name 6 (by decide)))
  have hJ := hJ.push (c := 6) (N := 7) hz o1 (by decide) (by decide) (show iat dC dI (s.heap.size + 0) 6 7 (fun _ => 0) H1 from e1)
  have ho : oat dC dI h0 5 [.null, .int 0, .int 0, .int 0, .int 0, .int 0, .int 0, .int 0, .int 0, .int 0, .int 0, .null, .null, .null, .null, .null, .null, .null, .null, .null, .null, .null, .null, .null, .null, .null, .null, .null, .null, .null, .null, .null, .null, .null, .null, .null, .null, .null, .null, .null, .null, .null, .int 0] H1 := va_at.kept ho (o1 h0 (by omega))
  have hS : va_S (fun y => y = h0) s.heap H1 _ := ⟨by omega, fun x9 h8 h9 => (o1 x9 (by omega)).trans (hS.2.1 x9 h8 h9), hS.2.2⟩
  have hz : H1.size = s.heap.size + 1 := z1
  clear e1 z1 o1 hNm
  refine W.eq (g2 := F0 m 9 ls [.ref (s.heap.size + 0), .ref h0]) rfl ?_
  refine va_putF (D := (dC, dI)) (ws := [(h0, .inr (5, [.null, .int 0, .int 0, .int 0, .int 0, .int 0, .int 0, .int 0, .int 0, .int 0, .int 0, .null, .null, .null, .null, .null, .null, .null, .null, .null, .null, .null, .null, .null, .null, .null, .null, .null, .null, .null, .null, .null, .null, .null, .null, .null, .null, .null, .null, .null, .null, .null, .int 0]))]) (A := fun y => y = h0) (H0 := _) (ci := 5) (v := .ref (s.heap.size + 0)) (ty := .array .int) (C := RX4) (T := TX4) (N := 43) hx hb hts inX4 tyX4 tyX4_ok nmX4 hown hK (va_P1 ho) (va_D1 rfl) ⟨Nat.le_refl _, fun _ _ _ => rfl, hS.2.2⟩ 0 rfl rfl 0 (by decide) (hts _ iw_646) (fun _ h9 => h9) rfl hin rfl (by decide +kernel) rfl rfl (Nat.le_of_ble_eq_true rfl) dX4_init_9 (fun H2 locs hP _ hS2 => ?_)
  refine W.learn (fun _ lr2 _ => ?_)
  have ho : oat dC dI h0 5 [.ref (s.heap.size + 0), .int 0, .int 0, .int 0, .int 0, .int 0, .int 0, .int 0, .int 0, .int 0, .int 0, .null, .null, .null, .null, .null, .null, .null, .null, .null, .null, .null, .null, .null, .null, .null, .null, .null, .null, .null, .null, .null, .null, .null, .null, .null, .null, .null, .null, .null, .null, .null, .int 0] H2 := hP 0 _ rfl
  have hJ := hJ.keep hz h00 (fun y9 h8 h9 => hS2.2.1 y9 h8 h9)
  have hS : va_S (fun y => y = h0) s.heap H2 locs := ⟨Nat.le_trans hS.1 hS2.1, fun x9 h8 h9 => (hS2.2.1 x9 (Nat.lt_of_lt_of_le h8 hS.1) h9).trans (hS.2.1 x9 h8 h9), hS2.2.2⟩
  have hz : H2.size = s.heap.size + 1 := by have h9 := hS2.1; omega
  clear hP hS2 lr2
  refine lv_aload_n hx hb dX4_init_12 rfl (lv_at hl 0 rfl) ?_
  refine lv_iconst (v := 3) hx hb dX4_init_13 (by decide) ?_
  refine va_put (D := (dC, dI)) (ws := [(h0, .inr (5, [.ref (s.heap.size + 0), .int 0, .int 0, .int 0, .int 0, .int 0, .int 0, .int 0, .int 0, .int 0, .int 0, .null, .null, .null, .null, .null, .null, .null, .null, .null, .null, .null, .null, .null, .null, .null, .null, .null, .null, .null, .null, .null, .null, .null, .null, .null, .null, .null, .null, .null, .null, .null, .int 0]))]) (A := fun y => y = h0) (H0 := _) (ci := 5) (v := .int 3) (ty := .int) (C := RX4) (T := TX4) (N := 43) hx hb hts inX4 tyX4 tyX4_ok nmX4 hown hK (va_P1 ho) (va_D1 rfl) ⟨Nat.le_refl _, fun _ _ _ => rfl, hS.2.2⟩ 0 rfl rfl 5 (by decide) (hts _ iw_651) (fun _ h9 => h9) rfl (by decide +kernel) rfl rfl (Nat.le_of_ble_eq_true rfl) dX4_init_14 (fun H2 locs hP _ hS2 => ?_)
  refine W.learn (fun _ lr2 _ => ?_)
  have ho : oat dC dI h0 5 [.ref (s.heap.size + 0), .int 0, .int 0, .int 0, .int 0, .int 3, .int 0, .int 0, .int 0, .int 0, .int 0, .null, .null, .null, .null, .null, .null, .null, .null, .null, .null, .null, .null, .null, .null, .null, .null, .null, .null, .null, .null, .null, .null, .null, .null, .null, .null, .null, .null, .null, .null, .null, .int 0] H2 := hP 0 _ rfl
  have hJ := hJ.keep hz h00 (fun y9 h8 h9 => hS2.2.1 y9 h8 h9)
  have hS : va_S (fun y => y = h0) s.heap H2 locs := ⟨Nat.le_trans hS.1 hS2.1, fun x9 h8 h9 => (hS2.2.1 x9 (Nat.lt_of_lt_of_le h8 hS.1) h9).trans (hS.2.1 x9 h8 h9), hS2.2.2⟩
  have hz : H2.size = s.heap.size + 1 := by have h9 := hS2.1; omega
  clear hP hS2 lr2
  refine lv_aload_n hx hb dX4_init_17 rfl (lv_at hl 0 rfl) ?_
  refine lv_bipush (v := 20) hx hb dX4_init_18 (by decide) ?_
  refine va_put (D := (dC, dI)) (ws := [(h0, .inr (5, [.ref (s.heap.size + 0), .int 0, .int 0, .int 0, .int 0, .int 3, .int 0, .int 0, .int 0, .int 0, .int 0, .null, .null, .null, .null, .null, .null, .null, .null, .null, .null, .null, .null, .null, .null, .null, .null, .null, .null, .null, .null, .null, .null, .null, .null, .null, .null, .null, .null, .null, .null, .null, .int 0]))]) (A := fun y => y = h0) (H0 := _) (ci := 5) (v := .int 20) (ty := .int) (C := RX4) (T := TX4) (N := 43) hx hb hts inX4 tyX4 tyX4_ok nmX4 hown hK (va_P1 ho) (va_D1 rfl) ⟨Nat.le_refl _, fun _ _ _ => rfl, hS.2.2⟩ 0 rfl rfl 6 (by decide) (hts _ iw_652) (fun _ h9 => h9) rfl (by decide +kernel) rfl rfl (Nat.le_of_ble_eq_true rfl) dX4_init_20 (fun H2 locs hP _ hS2 => ?_)
  refine W.learn (fun _ lr2 _ => ?_)
  have ho : oat dC dI h0 5 [.ref (s.heap.size + 0), .int 0, .int 0, .int 0, .int 0, .int 3, .int 20, .int 0, .int 0, .int 0, .int 0, .null, .null, .null, .null, .null, .null, .null, .null, .null, .null, .null, .null, .null, .null, .null, .null, .null, .null, .null, .null, .null, .null, .null, .null, .null, .null, .null, .null, .null, .null, .null, .int 0] H2 := hP 0 _ rfl
  have hJ := hJ.keep hz h00 (fun y9 h8 h9 => hS2.2.1 y9 h8 h9)
  have hS : va_S (fun y => y = h0) s.heap H2 locs := ⟨Nat.le_trans hS.1 hS2.1, fun x9 h8 h9 => (hS2.2.1 x9 (Nat.lt_of_lt_of_le h8 hS.1) h9).trans (hS.2.1 x9 h8 h9), hS2.2.2⟩
  have hz : H2.size = s.heap.size + 1 := by have h9 := hS2.1; omega
  clear hP hS2 lr2
  refine lv_aload_n hx hb dX4_init_23 rfl (lv_at hl 0 rfl) ?_
  refine lv_bipush (v := 8) hx hb dX4_init_24 (by decide) ?_
  refine va_newaK hx hb (hts _ iw_145) rfl dX4_init_26 rfl pz_n8 pz_c8 (by decide +kernel) (Nat.le_of_ble_eq_true rfl) (Nat.le_of_ble_eq_true rfl) hz (fun H1 cA e1 z1 o1 _ hNm => ?_)
  obtain rfl : cA = dC 6 := Option.some.inj (hNm.symm.trans (hK.name 6 (by decide)))
  have hJ := hJ.push (c := 6) (N := 8) hz o1 (by decide) (by decide) (show iat dC dI (s.heap.size + 1) 6 8 (fun _ => 0) H1 from e1)
  have ho : oat dC dI h0 5 [.ref (s.heap.size + 0), .int 0, .int 0, .int 0, .int 0, .int 3, .int 20, .int 0, .int 0, .int 0, .int 0, .null, .null, .null, .null, .null, .null, .null, .null, .null, .null, .null, .null, .null, .null, .null, .null, .null, .null, .null, .null, .null, .null, .null, .null, .null, .null, .null, .null, .null, .null, .null, .int 0] H1 := va_at.kept ho (o1 h0 (by omega))
  have hS : va_S (fun y => y = h0) s.heap H1 _ := ⟨by omega, fun x9 h8 h9 => (o1 x9 (by omega)).trans (hS.2.1 x9 h8 h9), hS.2.2⟩
  have hz : H1.size = s.heap.size + 2 := z1
  clear e1 z1 o1 hNm
  refine W.eq (g2 := F0 m 28 ls [.ref (s.heap.size + 1), .ref h0]) rfl ?_
  refine va_putF (D := (dC, dI)) (ws := [(h0, .inr (5, [.ref (s.heap.size + 0), .int 0, .int 0, .int 0, .int 0, .int 3, .int 20, .int 0, .int 0, .int 0, .int 0, .null, .null, .null, .null, .null, .null, .null, .null, .null, .null, .null, .null, .null, .null, .null, .null, .null, .null, .null, .null, .null, .null, .null, .null, .null, .null, .null, .null, .null, .null, .null, .int 0]))]) (A := fun y => y = h0) (H0 := _) (ci := 5) (v := .ref (s.heap.size + 1)) (ty := .array .int) (C := RX4) (T := TX4) (N := 43) hx hb hts inX4 tyX4 tyX4_ok nmX4 hown hK (va_P1 ho) (va_D1 rfl) ⟨Nat.le_refl _, fun _ _ _ => rfl, hS.2.2⟩ 0 rfl rfl 11 (by decide) (hts _ iw_657) (fun _ h9 => h9) rfl hin rfl (by decide +kernel) rfl rfl (Nat.le_of_ble_eq_true rfl) dX4_init_28 (fun H2 locs hP _ hS2 => ?_)
  refine W.learn (fun _ lr2 _ => ?_)
  have ho : oat dC dI h0 5 [.ref (s.heap.size + 0), .int 0, .int 0, .int 0, .int 0, .int 3, .int 20, .int 0, .int 0, .int 0, .int 0, .ref (s.heap.size + 1), .null, .null, .null, .null, .null, .null, .null, .null, .null, .null, .null, .null, .null, .null, .null, .null, .null, .null, .null, .null, .null, .null, .null, .null, .null, .null, .null, .null, .null, .null, .int 0] H2 := hP 0 _ rfl
  have hJ := hJ.keep hz h00 (fun y9 h8 h9 => hS2.2.1 y9 h8 h9)
  have hS : va_S (fun y => y = h0) s.heap H2 locs := ⟨Nat.le_trans hS.1 hS2.1, fun x9 h8 h9 => (hS2.2.1 x9 (Nat.lt_of_lt_of_le h8 hS.1) h9).trans (hS.2.1 x9 h8 h9), hS2.2.2⟩
  have hz : H2.size = s.heap.size + 2 := by have h9 := hS2.1; omega
  clear hP hS2 lr2
  refine lv_aload_n hx hb dX4_init_31 rfl (lv_at hl 0 rfl) ?_
  refine lv_bipush (v := 8) hx hb dX4_init_32 (by decide) ?_
  refine va_newaK hx hb (hts _ iw_145) rfl dX4_init_34 rfl pz_n8 pz_c8 (by decide +kernel) (Nat.le_of_ble_eq_true rfl) (Nat.le_of_ble_eq_true rfl) hz (fun H1 cA e1 z1 o1 _ hNm => ?_)
  obtain rfl : cA = dC 6 := Option.some.inj (hNm.symm.trans (hK.name 6 (by decide)))
  have hJ := hJ.push (c := 6) (N := 8) hz o1 (by decide) (by decide) (show iat dC dI (s.heap.size + 2) 6 8 (fun _ => 0) H1 from e1)
  have ho : oat dC dI h0 5 [.ref (s.heap.size + 0), .int 0, .int 0, .int 0, .int 0, .int 3, .int 20, .int 0, .int 0, .int 0, .int 0, .ref (s.heap.size + 1), .null, .null, .null, .null, .null, .null, .null, .null, .null, .null, .null, .null, .null, .null, .null, .null, .null, .null, .null, .null, .null, .null, .null, .null, .null, .null, .null, .null, .null, .null, .int 0] H1 := va_at.kept ho (o1 h0 (by omega))
  have hS : va_S (fun y => y = h0) s.heap H1 _ := ⟨by omega, fun x9 h8 h9 => (o1 x9 (by omega)).trans (hS.2.1 x9 h8 h9), hS.2.2⟩
  have hz : H1.size = s.heap.size + 3 := z1
  clear e1 z1 o1 hNm
  refine W.eq (g2 := F0 m 36 ls [.ref (s.heap.size + 2), .ref h0]) rfl ?_
  refine va_putF (D := (dC, dI)) (ws := [(h0, .inr (5, [.ref (s.heap.size + 0), .int 0, .int 0, .int 0, .int 0, .int 3, .int 20, .int 0, .int 0, .int 0, .int 0, .ref (s.heap.size + 1), .null, .null, .null, .null, .null, .null, .null, .null, .null, .null, .null, .null, .null, .null, .null, .null, .null, .null, .null, .null, .null, .null, .null, .null, .null, .null, .null, .null, .null, .null, .int 0]))]) (A := fun y => y = h0) (H0 := _) (ci := 5) (v := .ref (s.heap.size + 2)) (ty := .array .int) (C := RX4) (T := TX4) (N := 43) hx hb hts inX4 tyX4 tyX4_ok nmX4 hown hK (va_P1 ho) (va_D1 rfl) ⟨Nat.le_refl _, fun _ _ _ => rfl, hS.2.2⟩ 0 rfl rfl 12 (by decide) (hts _ iw_658) (fun _ h9 => h9) rfl hin rfl (by decide +kernel) rfl rfl (Nat.le_of_ble_eq_true rfl) dX4_init_36 (fun H2 locs hP _ hS2 => ?_)
  refine W.learn (fun _ lr2 _ => ?_)
  have ho : oat dC dI h0 5 [.ref (s.heap.size + 0), .int 0, .int 0, .int 0, .int 0, .int 3, .int 20, .int 0, .int 0, .int 0, .int 0, .ref (s.heap.size + 1), .ref (s.heap.size + 2), .null, .null, .null, .null, .null, .null, .null, .null, .null, .null, .null, .null, .null, .null, .null, .null, .null, .null, .null, .null, .null, .null, .null, .null, .null, .null, .null, .null, .null, .int 0] H2 := hP 0 _ rfl
  have hJ := hJ.keep hz h00 (fun y9 h8 h9 => hS2.2.1 y9 h8 h9)
  have hS : va_S (fun y => y = h0) s.heap H2 locs := ⟨Nat.le_trans hS.1 hS2.1, fun x9 h8 h9 => (hS2.2.1 x9 (Nat.lt_of_lt_of_le h8 hS.1) h9).trans (hS.2.1 x9 h8 h9), hS2.2.2⟩
  have hz : H2.size = s.heap.size + 3 := by have h9 := hS2.1; omega
  clear hP hS2 lr2
  refine lv_aload_n hx hb dX4_init_39 rfl (lv_at hl 0 rfl) ?_
  refine lv_bipush (v := 8) hx hb dX4_init_40 (by decide) ?_
  refine va_newaK hx hb (hts _ iw_145) rfl dX4_init_42 rfl pz_n8 pz_c8 (by decide +kernel) (Nat.le_of_ble_eq_true rfl) (Nat.le_of_ble_eq_true rfl) hz (fun H1 cA e1 z1 o1 _ hNm => ?_)
  obtain rfl : cA = dC 6 := Option.some.inj (hNm.symm.trans (hK.name 6 (by decide)))
  have hJ := hJ.push (c := 6) (N := 8) hz o1 (by decide) (by decide) (show iat dC dI (s.heap.size + 3) 6 8 (fun _ => 0) H1 from e1)
  have ho : oat dC dI h0 5 [.ref (s.heap.size + 0), .int 0, .int 0, .int 0, .int 0, .int 3, .int 20, .int 0, .int 0, .int 0, .int 0, .ref (s.heap.size + 1), .ref (s.heap.size + 2), .null, .null, .null, .null, .null, .null, .null, .null, .null, .null, .null, .null, .null, .null, .null, .null, .null, .null, .null, .null, .null, .null, .null, .null, .null, .null, .null, .null, .null, .int 0] H1 := va_at.kept ho (o1 h0 (by omega))
  have hS : va_S (fun y => y = h0) s.heap H1 _ := ⟨by omega, fun x9 h8 h9 => (o1 x9 (by omega)).trans (hS.2.1 x9 h8 h9), hS.2.2⟩
  have hz : H1.size = s.heap.size + 4 := z1
  clear e1 z1 o1 hNm
  refine W.eq (g2 := F0 m 44 ls [.ref (s.heap.size + 3), .ref h0]) rfl ?_
  refine va_putF (D := (dC, dI)) (ws := [(h0, .inr (5, [.ref (s.heap.size + 0), .int 0, .int 0, .int 0, .int 0, .int 3, .int 20, .int 0, .int 0, .int 0, .int 0, .ref (s.heap.size + 1), .ref (s.heap.size + 2), .null, .null, .null, .null, .null, .null, .null, .null, .null, .null, .null, .null, .null, .null, .null, .null, .null, .null, .null, .null, .null, .null, .null, .null, .null, .null, .null, .null, .null, .int 0]))]) (A := fun y => y = h0) (H0 := _) (ci := 5) (v := .ref (s.heap.size + 3)) (ty := .array .int) (C := RX4) (T := TX4) (N := 43) hx hb hts inX4 tyX4 tyX4_ok nmX4 hown hK (va_P1 ho) (va_D1 rfl) ⟨Nat.le_refl _, fun _ _ _ => rfl, hS.2.2⟩ 0 rfl rfl 13 (by decide) (hts _ iw_659) (fun _ h9 => h9) rfl hin rfl (by decide +kernel) rfl rfl (Nat.le_of_ble_eq_true rfl) dX4_init_44 (fun H2 locs hP _ hS2 => ?_)
  refine W.learn (fun _ lr2 _ => ?_)
  have ho : oat dC dI h0 5 [.ref (s.heap.size + 0), .int 0, .int 0, .int 0, .int 0, .int 3, .int 20, .int 0, .int 0, .int 0, .int 0, .ref (s.heap.size + 1), .ref (s.heap.size + 2), .ref (s.heap.size + 3), .null, .null, .null, .null, .null, .null, .null, .null, .null, .null, .null, .null, .null, .null, .null, .null, .null, .null, .null, .null, .null, .null, .null, .null, .null, .null, .null, .null, .int 0] H2 := hP 0 _ rfl
  have hJ := hJ.keep hz h00 (fun y9 h8 h9 => hS2.2.1 y9 h8 h9)
  have hS : va_S (fun y => y = h0) s.heap H2 locs := ⟨Nat.le_trans hS.1 hS2.1, fun x9 h8 h9 => (hS2.2.1 x9 (Nat.lt_of_lt_of_le h8 hS.1) h9).trans (hS.2.1 x9 h8 h9), hS2.2.2⟩
  have hz : H2.size = s.heap.size + 4 := by have h9 := hS2.1; omega
  clear hP hS2 lr2
  refine lv_aload_n hx hb dX4_init_47 rfl (lv_at hl 0 rfl) ?_
  refine lv_bipush (v := 8) hx hb dX4_init_48 (by decide) ?_
  refine va_newaK hx hb (hts _ iw_145) rfl dX4_init_50 rfl pz_n8 pz_c8 (by decide +kernel) (Nat.le_of_ble_eq_true rfl) (Nat.le_of_ble_eq_true rfl) hz (fun H1 cA e1 z1 o1 _ hNm => ?_)
  obtain rfl : cA = dC 6 := Option.some.inj (hNm.symm.trans (hK.name 6 (by decide)))
  have hJ := hJ.push (c := 6) (N := 8) hz o1 (by decide) (by decide) (show iat dC dI (s.heap.size + 4) 6 8 (fun _ => 0) H1 from e1)
  have ho : oat dC dI h0 5 [.ref (s.heap.size + 0), .int 0, .int 0, .int 0, .int 0, .int 3, .int 20, .int 0, .int 0, .int 0, .int 0, .ref (s.heap.size + 1), .ref (s.heap.size + 2), .ref (s.heap.size + 3), .null, .null, .null, .null, .null, .null, .null, .null, .null, .null, .null, .null, .null, .null, .null, .null, .null, .null, .null, .null, .null, .null, .null, .null, .null, .null, .null, .null, .int 0] H1 := va_at.kept ho (o1 h0 (by omega))
  have hS : va_S (fun y => y = h0) s.heap H1 _ := ⟨by omega, fun x9 h8 h9 => (o1 x9 (by omega)).trans (hS.2.1 x9 h8 h9), hS.2.2⟩
  have hz : H1.size = s.heap.size + 5 := z1
  clear e1 z1 o1 hNm
  refine W.eq (g2 := F0 m 52 ls [.ref (s.heap.size + 4), .ref h0]) rfl ?_
  refine va_putF (D := (dC, dI)) (ws := [(h0, .inr (5, [.ref (s.heap.size + 0), .int 0, .int 0, .int 0, .int 0, .int 3, .int 20, .int 0, .int 0, .int 0, .int 0, .ref (s.heap.size + 1), .ref (s.heap.size + 2), .ref (s.heap.size + 3), .null, .null, .null, .null, .null, .null, .null, .null, .null, .null, .null, .null, .null, .null, .null, .null, .null, .null, .null, .null, .null, .null, .null, .null, .null, .null, .null, .null, .int 0]))]) (A := fun y => y = h0) (H0 := _) (ci := 5) (v := .ref (s.heap.size + 4)) (ty := .array .int) (C := RX4) (T := TX4) (N := 43) hx hb hts inX4 tyX4 tyX4_ok nmX4 hown hK (va_P1 ho) (va_D1 rfl) ⟨Nat.le_refl _, fun _ _ _ => rfl, hS.2.2⟩ 0 rfl rfl 14 (by decide) (hts _ iw_660) (fun _ h9 => h9) rfl hin rfl (by decide +kernel) rfl rfl (Nat.le_of_ble_eq_true rfl) dX4_init_52 (fun H2 locs hP _ hS2 => ?_)
  refine W.learn (fun _ lr2 _ => ?_)
  have ho : oat dC dI h0 5 [.ref (s.heap.size + 0), .int 0, .int 0, .int 0, .int 0, .int 3, .int 20, .int 0, .int 0, .int 0, .int 0, .ref (s.heap.size + 1), .ref (s.heap.size + 2), .ref (s.heap.size + 3), .ref (s.heap.size + 4), .null, .null, .null, .null, .null, .null, .null, .null, .null, .null, .null, .null, .null, .null, .null, .null, .null, .null, .null, .null, .null, .null, .null, .null, .null, .null, .null, .int 0] H2 := hP 0 _ rfl
  have hJ := hJ.keep hz h00 (fun y9 h8 h9 => hS2.2.1 y9 h8 h9)
  have hS : va_S (fun y => y = h0) s.heap H2 locs := ⟨Nat.le_trans hS.1 hS2.1, fun x9 h8 h9 => (hS2.2.1 x9 (Nat.lt_of_lt_of_le h8 hS.1) h9).trans (hS.2.1 x9 h8 h9), hS2.2.2⟩
  have hz : H2.size = s.heap.size + 5 := by have h9 := hS2.1; omega
  clear hP hS2 lr2
  refine lv_aload_n hx hb dX4_init_55 rfl (lv_at hl 0 rfl) ?_
  refine lv_bipush (v := 8) hx hb dX4_init_56 (by decide) ?_
  refine va_newaK hx hb (hts _ iw_145) rfl dX4_init_58 rfl pz_n8 pz_c8 (by decide +kernel) (Nat.le_of_ble_eq_true rfl) (Nat.le_of_ble_eq_true rfl) hz (fun H1 cA e1 z1 o1 _ hNm => ?_)
  obtain rfl : cA = dC 6 := Option.some.inj (hNm.symm.trans (hK.name 6 (by decide)))
  have hJ := hJ.push (c := 6) (N := 8) hz o1 (by decide) (by decide) (show iat dC dI (s.heap.size + 5) 6 8 (fun _ => 0) H1 from e1)
  have ho : oat dC dI h0 5 [.ref (s.heap.size + 0), .int 0, .int 0, .int 0, .int 0, .int 3, .int 20, .int 0, .int 0, .int 0, .int 0, .ref (s.heap.size + 1), .ref (s.heap.size + 2), .ref (s.heap.size + 3), .ref (s.heap.size + 4), .null, .null, .null, .null, .null, .null, .null, .null, .null, .null, .null, .null, .null, .null, .null, .null, .null, .null, .null, .null, .null, .null, .null, .null, .null, .null, .null, .int 0] H1 := va_at.kept ho (o1 h0 (by omega))
  have hS : va_S (fun y => y = h0) s.heap H1 _ := ⟨by omega, fun x9 h8 h9 => (o1 x9 (by omega)).trans (hS.2.1 x9 h8 h9), hS.2.2⟩
  have hz : H1.size = s.heap.size + 6 := z1
  clear e1 z1 o1 hNm
  refine W.eq (g2 := F0 m 60 ls [.ref (s.heap.size + 5), .ref h0]) rfl ?_
  refine va_putF (D := (dC, dI)) (ws := [(h0, .inr (5, [.ref (s.heap.size + 0), .int 0, .int 0, .int 0, .int 0, .int 3, .int 20, .int 0, .int 0, .int 0, .int 0, .ref (s.heap.size + 1), .ref (s.heap.size + 2), .ref (s.heap.size + 3), .ref (s.heap.size + 4), .null, .null, .null, .null, .null, .null, .null, .null, .null, .null, .null, .null, .null, .null, .null, .null, .null, .null, .null, .null, .null, .null, .null, .null, .null, .null, .null, .int 0]))]) (A := fun y => y = h0) (H0 := _) (ci := 5) (v := .ref (s.heap.size + 5)) (ty := .array .int) (C := RX4) (T := TX4) (N := 43) hx hb hts inX4 tyX4 tyX4_ok nmX4 hown hK (va_P1 ho) (va_D1 rfl) ⟨Nat.le_refl _, fun _ _ _ => rfl, hS.2.2⟩ 0 rfl rfl 15 (by decide) (hts _ iw_661) (fun _ h9 => h9) rfl hin rfl (by decide +kernel) rfl rfl (Nat.le_of_ble_eq_true rfl) dX4_init_60 (fun H2 locs hP _ hS2 => ?_)
  refine W.learn (fun _ lr2 _ => ?_)
  have ho : oat dC dI h0 5 [.ref (s.heap.size + 0), .int 0, .int 0, .int 0, .int 0, .int 3, .int 20, .int 0, .int 0, .int 0, .int 0, .ref (s.heap.size + 1), .ref (s.heap.size + 2), .ref (s.heap.size + 3), .ref (s.heap.size + 4), .ref (s.heap.size + 5), .null, .null, .null, .null, .null, .null, .null, .null, .null, .null, .null, .null, .null, .null, .null, .null, .null, .null, .null, .null, .null, .null, .null, .null, .null, .null, .int 0] H2 := hP 0 _ rfl
  have hJ := hJ.keep hz h00 (fun y9 h8 h9 => hS2.2.1 y9 h8 h9)
  have hS : va_S (fun y => y = h0) s.heap H2 locs := ⟨Nat.le_trans hS.1 hS2.1, fun x9 h8 h9 => (hS2.2.1 x9 (Nat.lt_of_lt_of_le h8 hS.1) h9).trans (hS.2.1 x9 h8 h9), hS2.2.2⟩
  have hz : H2.size = s.heap.size + 6 := by have h9 := hS2.1; omega
  clear hP hS2 lr2
  refine lv_aload_n hx hb dX4_init_63 rfl (lv_at hl 0 rfl) ?_
  refine lv_bipush (v := 8) hx hb dX4_init_64 (by decide) ?_
  refine va_newaK hx hb (hts _ iw_145) rfl dX4_init_66 rfl pz_n8 pz_c8 (by decide +kernel) (Nat.le_of_ble_eq_true rfl) (Nat.le_of_ble_eq_true rfl) hz (fun H1 cA e1 z1 o1 _ hNm => ?_)
  obtain rfl : cA = dC 6 := Option.some.inj (hNm.symm.trans (hK.name 6 (by decide)))
  have hJ := hJ.push (c := 6) (N := 8) hz o1 (by decide) (by decide) (show iat dC dI (s.heap.size + 6) 6 8 (fun _ => 0) H1 from e1)
  have ho : oat dC dI h0 5 [.ref (s.heap.size + 0), .int 0, .int 0, .int 0, .int 0, .int 3, .int 20, .int 0, .int 0, .int 0, .int 0, .ref (s.heap.size + 1), .ref (s.heap.size + 2), .ref (s.heap.size + 3), .ref (s.heap.size + 4), .ref (s.heap.size + 5), .null, .null, .null, .null, .null, .null, .null, .null, .null, .null, .null, .null, .null, .null, .null, .null, .null, .null, .null, .null, .null, .null, .null, .null, .null, .null, .int 0] H1 := va_at.kept ho (o1 h0 (by omega))
  have hS : va_S (fun y => y = h0) s.heap H1 _ := ⟨by omega, fun x9 h8 h9 => (o1 x9 (by omega)).trans (hS.2.1 x9 h8 h9), hS.2.2⟩
  have hz : H1.size = s.heap.size + 7 := z1
  clear e1 z1 o1 hNm
  refine W.eq (g2 := F0 m 68 ls [.ref (s.heap.size + 6), .ref h0]) rfl ?_
  refine va_putF (D := (dC, dI)) (ws := [(h0, .inr (5, [.ref (s.heap.size + 0), .int 0, .int 0, .int 0, .int 0, .int 3, .int 20, .int 0, .int 0, .int 0, .int 0, .ref (s.heap.size + 1), .ref (s.heap.size + 2), .ref (s.heap.size + 3), .ref (s.heap.size + 4), .ref (s.heap.size + 5), .null, .null, .null, .null, .null, .null, .null, .null, .null, .null, .null, .null, .null, .null, .null, .null, .null, .null, .null, .null, .null, .null, .null, .null, .null, .null, .int 0]))]) (A := fun y => y = h0) (H0 := _) (ci := 5) (v := .ref (s.heap.size + 6)) (ty := .array .int) (C := RX4) (T := TX4) (N := 43) hx hb hts inX4 tyX4 tyX4_ok nmX4 hown hK (va_P1 ho) (va_D1 rfl) ⟨Nat.le_refl _, fun _ _ _ => rfl, hS.2.2⟩ 0 rfl rfl 16 (by decide) (hts _ iw_662) (fun _ h9 => h9) rfl hin rfl (by decide +kernel) rfl rfl (Nat.le_of_ble_eq_true rfl) dX4_init_68 (fun H2 locs hP _ hS2 => ?_)
  refine W.learn (fun _ lr2 _ => ?_)
  have ho : oat dC dI h0 5 [.ref (s.heap.size + 0), .int 0, .int 0, .int 0, .int 0, .int 3, .int 20, .int 0, .int 0, .int 0, .int 0, .ref (s.heap.size + 1), .ref (s.heap.size + 2), .ref (s.heap.size + 3), .ref (s.heap.size + 4), .ref (s.heap.size + 5), .ref (s.heap.size + 6), .null, .null, .null, .null, .null, .null, .null, .null, .null, .null, .null, .null, .null, .null, .null, .null, .null, .null, .null, .null, .null, .null, .null, .null, .null, .int 0] H2 := hP 0 _ rfl
  have hJ := hJ.keep hz h00 (fun y9 h8 h9 => hS2.2.1 y9 h8 h9)
  have hS : va_S (fun y => y = h0) s.heap H2 locs := ⟨Nat.le_trans hS.1 hS2.1, fun x9 h8 h9 => (hS2.2.1 x9 (Nat.lt_of_lt_of_le h8 hS.1) h9).trans (hS.2.1 x9 h8 h9), hS2.2.2⟩
  have hz : H2.size = s.heap.size + 7 := by have h9 := hS2.1; omega
  clear hP hS2 lr2
  refine lv_aload_n hx hb dX4_init_71 rfl (lv_at hl 0 rfl) ?_
  refine lv_bipush (v := 8) hx hb dX4_init_72 (by decide) ?_
  refine va_newaK hx hb (hts _ iw_145) rfl dX4_init_74 rfl pz_n8 pz_c8 (by decide +kernel) (Nat.le_of_ble_eq_true rfl) (Nat.le_of_ble_eq_true rfl) hz (fun H1 cA e1 z1 o1 _ hNm => ?_)
  obtain rfl : cA = dC 6 := Option.some.inj (hNm.symm.trans (hK.name 6 (by decide)))
  have hJ := hJ.push (c := 6) (N := 8) hz o1 (by decide) (by decide) (show iat dC dI (s.heap.size + 7) 6 8 (fun _ => 0) H1 from e1)
  have ho : oat dC dI h0 5 [.ref (s.heap.size + 0), .int 0, .int 0, .int 0, .int 0, .int 3, .int 20, .int 0, .int 0, .int 0, .int 0, .ref (s.heap.size + 1), .ref (s.heap.size + 2), .ref (s.heap.size + 3), .ref (s.heap.size + 4), .ref (s.heap.size + 5), .ref (s.heap.size + 6), .null, .null, .null, .null, .null, .null, .null, .null, .null, .null, .null, .null, .null, .null, .null, .null, .null, .null, .null, .null, .null, .null, .null, .null, .null, .int 0] H1 := va_at.kept ho (o1 h0 (by omega))
  have hS : va_S (fun y => y = h0) s.heap H1 _ := ⟨by omega, fun x9 h8 h9 => (o1 x9 (by omega)).trans (hS.2.1 x9 h8 h9), hS.2.2⟩
  have hz : H1.size = s.heap.size + 8 := z1
  clear e1 z1 o1 hNm
  refine W.eq (g2 := F0 m 76 ls [.ref (s.heap.size + 7), .ref h0]) rfl ?_
  refine va_putF (D := (dC, dI)) (ws := [(h0, .inr (5, [.ref (s.heap.size + 0), .int 0, .int 0, .int 0, .int 0, .int 3, .int 20, .int 0, .int 0, .int 0, .int 0, .ref (s.heap.size + 1), .ref (s.heap.size + 2), .ref (s.heap.size + 3), .ref (s.heap.size + 4), .ref (s.heap.size + 5), .ref (s.heap.size + 6), .null, .null, .null, .null, .null, .null, .null, .null, .null, .null, .null, .null, .null, .null, .null, .null, .null, .null, .null, .null, .null, .null, .null, .null, .null, .int 0]))]) (A := fun y => y = h0) (H0 := _) (ci := 5) (v := .ref (s.heap.size + 7)) (ty := .array .int) (C := RX4) (T := TX4) (N := 43) hx hb hts inX4 tyX4 tyX4_ok nmX4 hown hK (va_P1 ho) (va_D1 rfl) ⟨Nat.le_refl _, fun _ _ _ => rfl, hS.2.2⟩ 0 rfl rfl 17 (by decide) (hts _ iw_663) (fun _ h9 => h9) rfl hin rfl (by decide +kernel) rfl rfl (Nat.le_of_ble_eq_true rfl) dX4_init_76 (fun H2 locs hP _ hS2 => ?_)
  refine W.learn (fun _ lr2 _ => ?_)
  have ho : oat dC dI h0 5 [.ref (s.heap.size + 0), .int 0, .int 0, .int 0, .int 0, .int 3, .int 20, .int 0, .int 0, .int 0, .int 0, .ref (s.heap.size + 1), .ref (s.heap.size + 2), .ref (s.heap.size + 3), .ref (s.heap.size + 4), .ref (s.heap.size + 5), .ref (s.heap.size + 6), .ref (s.heap.size + 7), .null, .null, .null, .null, .null, .null, .null, .null, .null, .null, .null, .null, .null, .null, .null, .null, .null, .null, .null, .null, .null, .null, .null, .null, .int 0] H2 := hP 0 _ rfl
  have hJ := hJ.keep hz h00 (fun y9 h8 h9 => hS2.2.1 y9 h8 h9)
  have hS : va_S (fun y => y = h0) s.heap H2 locs := ⟨Nat.le_trans hS.1 hS2.1, fun x9 h8 h9 => (hS2.2.1 x9 (Nat.lt_of_lt_of_le h8 hS.1) h9).trans (hS.2.1 x9 h8 h9), hS2.2.2⟩
  have hz : H2.size = s.heap.size + 8 := by have h9 := hS2.1; omega
  clear hP hS2 lr2
  refine lv_aload_n hx hb dX4_init_79 rfl (lv_at hl 0 rfl) ?_
  refine lv_bipush (v := 8) hx hb dX4_init_80 (by decide) ?_
  refine va_newaK hx hb (hts _ iw_145) rfl dX4_init_82 rfl pz_n8 pz_c8 (by decide +kernel) (Nat.le_of_ble_eq_true rfl) (Nat.le_of_ble_eq_true rfl) hz (fun H1 cA e1 z1 o1 _ hNm => ?_)
  obtain rfl : cA = dC 6 := Option.some.inj (hNm.symm.trans (hK.name 6 (by decide)))
  have hJ := hJ.push (c := 6) (N := 8) hz o1 (by decide) (by decide) (show iat dC dI (s.heap.size + 8) 6 8 (fun _ => 0) H1 from e1)
  have ho : oat dC dI h0 5 [.ref (s.heap.size + 0), .int 0, .int 0, .int 0, .int 0, .int 3, .int 20, .int 0, .int 0, .int 0, .int 0, .ref (s.heap.size + 1), .ref (s.heap.size + 2), .ref (s.heap.size + 3), .ref (s.heap.size + 4), .ref (s.heap.size + 5), .ref (s.heap.size + 6), .ref (s.heap.size + 7), .null, .null, .null, .null, .null, .null, .null, .null, .null, .null, .null, .null, .null, .null, .null, .null, .null, .null, .null, .null, .null, .null, .null, .null, .int 0] H1 := va_at.kept ho (o1 h0 (by omega))
  have hS : va_S (fun y => y = h0) s.heap H1 _ := ⟨by omega, fun x9 h8 h9 => (o1 x9 (by omega)).trans (hS.2.1 x9 h8 h9), hS.2.2⟩
  have hz : H1.size = s.heap.size + 9 := z1
  clear e1 z1 o1 hNm
  refine W.eq (g2 := F0 m 84 ls [.ref (s.heap.size + 8), .ref h0]) rfl ?_
  refine va_putF (D := (dC, dI)) (ws := [(h0, .inr (5, [.ref (s.heap.size + 0), .int 0, .int 0, .int 0, .int 0, .int 3, .int 20, .int 0, .int 0, .int 0, .int 0, .ref (s.heap.size + 1), .ref (s.heap.size + 2), .ref (s.heap.size + 3), .ref (s.heap.size + 4), .ref (s.heap.size + 5), .ref (s.heap.size + 6), .ref (s.heap.size + 7), .null, .null, .null, .null, .null, .null, .null, .null, .null, .null, .null, .null, .null, .null, .null, .null, .null, .null, .null, .null, .null, .null, .null, .null, .int 0]))]) (A := fun y => y = h0) (H0 := _) (ci := 5) (v := .ref (s.heap.size + 8)) (ty := .array .int) (C := RX4) (T := TX4) (N := 43) hx hb hts inX4 tyX4 tyX4_ok nmX4 hown hK (va_P1 ho) (va_D1 rfl) ⟨Nat.le_refl _, fun _ _ _ => rfl, hS.2.2⟩ 0 rfl rfl 18 (by decide) (hts _ iw_664) (fun _ h9 => h9) rfl hin rfl (by decide +kernel) rfl rfl (Nat.le_of_ble_eq_true rfl) dX4_init_84 (fun H2 locs hP _ hS2 => ?_)
  refine W.learn (fun _ lr2 _ => ?_)
  have ho : oat dC dI h0 5 [.ref (s.heap.size + 0), .int 0, .int 0, .int 0, .int 0, .int 3, .int 20, .int 0, .int 0, .int 0, .int 0, .ref (s.heap.size + 1), .ref (s.heap.size + 2), .ref (s.heap.size + 3), .ref (s.heap.size + 4), .ref (s.heap.size + 5), .ref (s.heap.size + 6), .ref (s.heap.size + 7), .ref (s.heap.size + 8), .null, .null, .null, .null, .null, .null, .null, .null, .null, .null, .null, .null, .null, .null, .null, .null, .null, .null, .null, .null, .null, .null, .null, .int 0] H2 := hP 0 _ rfl
  have hJ := hJ.keep hz h00 (fun y9 h8 h9 => hS2.2.1 y9 h8 h9)
  have hS : va_S (fun y => y = h0) s.heap H2 locs := ⟨Nat.le_trans hS.1 hS2.1, fun x9 h8 h9 => (hS2.2.1 x9 (Nat.lt_of_lt_of_le h8 hS.1) h9).trans (hS.2.1 x9 h8 h9), hS2.2.2⟩
  have hz : H2.size = s.heap.size + 9 := by have h9 := hS2.1; omega
  clear hP hS2 lr2
  refine lv_aload_n hx hb dX4_init_87 rfl (lv_at hl 0 rfl) ?_
  refine lv_bipush (v := 8) hx hb dX4_init_88 (by decide) ?_
  refine va_newaK hx hb (hts _ iw_145) rfl dX4_init_90 rfl pz_n8 pz_c8 (by decide +kernel) (Nat.le_of_ble_eq_true rfl) (Nat.le_of_ble_eq_true rfl) hz (fun H1 cA e1 z1 o1 _ hNm => ?_)
  obtain rfl : cA = dC 6 := Option.some.inj (hNm.symm.trans (hK.name 6 (by decide)))
  have hJ := hJ.push (c := 6) (N := 8) hz o1 (by decide) (by decide) (show iat dC dI (s.heap.size + 9) 6 8 (fun _ => 0) H1 from e1)
  have ho : oat dC dI h0 5 [.ref (s.heap.size + 0), .int 0, .int 0, .int 0, .int 0, .int 3, .int 20, .int 0, .int 0, .int 0, .int 0, .ref (s.heap.size + 1), .ref (s.heap.size + 2), .ref (s.heap.size + 3), .ref (s.heap.size + 4), .ref (s.heap.size + 5), .ref (s.heap.size + 6), .ref (s.heap.size + 7), .ref (s.heap.size + 8), .null, .null, .null, .null, .null, .null, .null, .null, .null, .null, .null, .null, .null, .null, .null, .null, .null, .null, .null, .null, .null, .null, .null, .int 0] H1 := va_at.kept ho (o1 h0 (by omega))
  have hS : va_S (fun y => y = h0) s.heap H1 _ := ⟨by omega, fun x9 h8 h9 => (o1 x9 (by omega)).trans (hS.2.1 x9 h8 h9), hS.2.2⟩
  have hz : H1.size = s.heap.size + 10 := z1
  clear e1 z1 o1 hNm
  refine W.eq (g2 := F0 m 92 ls [.ref (s.heap.size + 9), .ref h0]) rfl ?_
  refine va_putF (D := (dC, dI)) (ws := [(h0, .inr (5, [.ref (s.heap.size + 0), .int 0, .int 0, .int 0, .int 0, .int 3, .int 20, .int 0, .int 0, .int 0, .int 0, .ref (s.heap.size + 1), .ref (s.heap.size + 2), .ref (s.heap.size + 3), .ref (s.heap.size + 4), .ref (s.heap.size + 5), .ref (s.heap.size + 6), .ref (s.heap.size + 7), .ref (s.heap.size + 8), .null, .null, .null, .null, .null, .null, .null, .null, .null, .null, .null, .null, .null, .null, .null, .null, .null, .null, .null, .null, .null, .null, .null, .int 0]))]) (A := fun y => y = h0) (H0 := _) (ci := 5) (v := .ref (s.heap.size + 9)) (ty := .array .int) (C := RX4) (T := TX4) (N := 43) hx hb hts inX4 tyX4 tyX4_ok nmX4 hown hK (va_P1 ho) (va_D1 rfl) ⟨Nat.le_refl _, fun _ _ _ => rfl, hS.2.2⟩ 0 rfl rfl 19 (by decide) (hts _ iw_665) (fun _ h9 => h9) rfl hin rfl (by decide +kernel) rfl rfl (Nat.le_of_ble_eq_true rfl) dX4_init_92 (fun H2 locs hP _ hS2 => ?_)
  refine W.learn (fun _ lr2 _ => ?_)
  have ho : oat dC dI h0 5 [.ref (s.heap.size + 0), .int 0, .int 0, .int 0, .int 0, .int 3, .int 20, .int 0, .int 0, .int 0, .int 0, .ref (s.heap.size + 1), .ref (s.heap.size + 2), .ref (s.heap.size + 3), .ref (s.heap.size + 4), .ref (s.heap.size + 5), .ref (s.heap.size + 6), .ref (s.heap.size + 7), .ref (s.heap.size + 8), .ref (s.heap.size + 9), .null, .null, .null, .null, .null, .null, .null, .null, .null, .null, .null, .null, .null, .null, .null, .null, .null, .null, .null, .null, .null, .null, .int 0] H2 := hP 0 _ rfl
  have hJ := hJ.keep hz h00 (fun y9 h8 h9 => hS2.2.1 y9 h8 h9)
  have hS : va_S (fun y => y = h0) s.heap H2 locs := ⟨Nat.le_trans hS.1 hS2.1, fun x9 h8 h9 => (hS2.2.1 x9 (Nat.lt_of_lt_of_le h8 hS.1) h9).trans (hS.2.1 x9 h8 h9), hS2.2.2⟩
  have hz : H2.size = s.heap.size + 10 := by have h9 := hS2.1; omega
  clear hP hS2 lr2
  refine lv_aload_n hx hb dX4_init_95 rfl (lv_at hl 0 rfl) ?_
  refine lv_bipush (v := 8) hx hb dX4_init_96 (by decide) ?_
  refine va_newaK hx hb (hts _ iw_145) rfl dX4_init_98 rfl pz_n8 pz_c8 (by decide +kernel) (Nat.le_of_ble_eq_true rfl) (Nat.le_of_ble_eq_true rfl) hz (fun H1 cA e1 z1 o1 _ hNm => ?_)
  obtain rfl : cA = dC 6 := Option.some.inj (hNm.symm.trans (hK.name 6 (by decide)))
  have hJ := hJ.push (c := 6) (N := 8) hz o1 (by decide) (by decide) (show iat dC dI (s.heap.size + 10) 6 8 (fun _ => 0) H1 from e1)
  have ho : oat dC dI h0 5 [.ref (s.heap.size + 0), .int 0, .int 0, .int 0, .int 0, .int 3, .int 20, .int 0, .int 0, .int 0, .int 0, .ref (s.heap.size + 1), .ref (s.heap.size + 2), .ref (s.heap.size + 3), .ref (s.heap.size + 4), .ref (s.heap.size + 5), .ref (s.heap.size + 6), .ref (s.heap.size + 7), .ref (s.heap.size + 8), .ref (s.heap.size + 9), .null, .null, .null, .null, .null, .null, .null, .null, .null, .null, .null, .null, .null, .null, .null, .null, .null, .null, .null, .null, .null, .null, .int 0] H1 := va_at.kept ho (o1 h0 (by omega))
  have hS : va_S (fun y => y = h0) s.heap H1 _ := ⟨by omega, fun x9 h8 h9 => (o1 x9 (by omega)).trans (hS.2.1 x9 h8 h9), hS.2.2⟩
  have hz : H1.size = s.heap.size + 11 := z1
  clear e1 z1 o1 hNm
  refine W.eq (g2 := F0 m 100 ls [.ref (s.heap.size + 10), .ref h0]) rfl ?_
  refine va_putF (D := (dC, dI)) (ws := [(h0, .inr (5, [.ref (s.heap.size + 0), .int 0, .int 0, .int 0, .int 0, .int 3, .int 20, .int 0, .int 0, .int 0, .int 0, .ref (s.heap.size + 1), .ref (s.heap.size + 2), .ref (s.heap.size + 3), .ref (s.heap.size + 4), .ref (s.heap.size + 5), .ref (s.heap.size + 6), .ref (s.heap.size + 7), .ref (s.heap.size + 8), .ref (s.heap.size + 9), .null, .null, .null, .null, .null, .null, .null, .null, .null, .null, .null, .null, .null, .null, .null, .null, .null, .null, .null, .null, .null, .null, .int 0]))]) (A := fun y => y = h0) (H0 := _) (ci := 5) (v := .ref (s.heap.size + 10)) (ty := .array .int) (C := RX4) (T := TX4) (N := 43) hx hb hts inX4 tyX4 tyX4_ok nmX4 hown hK (va_P1 ho) (va_D1 rfl) ⟨Nat.le_refl _, fun _ _ _ => rfl, hS.2.2⟩ 0 rfl rfl 20 (by decide) (hts _ iw_666) (fun _ h9 => h9) rfl hin rfl (by decide +kernel) rfl rfl (Nat.le_of_ble_eq_true rfl) dX4_init_100 (fun H2 locs hP _ hS2 => ?_)
  refine W.learn (fun _ lr2 _ => ?_)
  have ho : oat dC dI h0 5 [.ref (s.heap.size + 0), .int 0, .int 0, .int 0, .int 0, .int 3, .int 20, .int 0, .int 0, .int 0, .int 0, .ref (s.heap.size + 1), .ref (s.heap.size + 2), .ref (s.heap.size + 3), .ref (s.heap.size + 4), .ref (s.heap.size + 5), .ref (s.heap.size + 6), .ref (s.heap.size + 7), .ref (s.heap.size + 8), .ref (s.heap.size + 9), .ref (s.heap.size + 10), .null, .null, .null, .null, .null, .null, .null, .null, .null, .null, .null, .null, .null, .null, .null, .null, .null, .null, .null, .null, .null, .int 0] H2 := hP 0 _ rfl
  have hJ := hJ.keep hz h00 (fun y9 h8 h9 => hS2.2.1 y9 h8 h9)
  have hS : va_S (fun y => y = h0) s.heap H2 locs := ⟨Nat.le_trans hS.1 hS2.1, fun x9 h8 h9 => (hS2.2.1 x9 (Nat.lt_of_lt_of_le h8 hS.1) h9).trans (hS.2.1 x9 h8 h9), hS2.2.2⟩
  have hz : H2.size = s.heap.size + 11 := by have h9 := hS2.1; omega
  clear hP hS2 lr2
  refine lv_aload_n hx hb dX4_init_103 rfl (lv_at hl 0 rfl) ?_
  refine lv_bipush (v := 8) hx hb dX4_init_104 (by decide) ?_
  refine va_newaK hx hb (hts _ iw_145) rfl dX4_init_106 rfl pz_n8 pz_c8 (by decide +kernel) (Nat.le_of_ble_eq_true rfl) (Nat.le_of_ble_eq_true rfl) hz (fun H1 cA e1 z1 o1 _ hNm => ?_)
  obtain rfl : cA = dC 6 := Option.some.inj (hNm.symm.trans (hK.name 6 (by decide)))
  have hJ := hJ.push (c := 6) (N := 8) hz o1 (by decide) (by decide) (show iat dC dI (s.heap.size + 11) 6 8 (fun _ => 0) H1 from e1)
  have ho : oat dC dI h0 5 [.ref (s.heap.size + 0), .int 0, .int 0, .int 0, .int 0, .int 3, .int 20, .int 0, .int 0, .int 0, .int 0, .ref (s.heap.size + 1), .ref (s.heap.size + 2), .ref (s.heap.size + 3), .ref (s.heap.size + 4), .ref (s.heap.size + 5), .ref (s.heap.size + 6), .ref (s.heap.size + 7), .ref (s.heap.size + 8), .ref (s.heap.size + 9), .ref (s.heap.size + 10), .null, .null, .null, .null, .null, .null, .null, .null, .null, .null, .null, .null, .null, .null, .null, .null, .null, .null, .null, .null, .null, .int 0] H1 := va_at.kept ho (o1 h0 (by omega))
  have hS : va_S (fun y => y = h0) s.heap H1 _ := ⟨by omega, fun x9 h8 h9 => (o1 x9 (by omega)).trans (hS.2.1 x9 h8 h9), hS.2.2⟩
  have hz : H1.size = s.heap.size + 12 := z1
  clear e1 z1 o1 hNm
  refine W.eq (g2 := F0 m 108 ls [.ref (s.heap.size + 11), .ref h0]) rfl ?_
  refine va_putF (D := (dC, dI)) (ws := [(h0, .inr (5, [.ref (s.heap.size + 0), .int 0, .int 0, .int 0, .int 0, .int 3, .int 20, .int 0, .int 0, .int 0, .int 0, .ref (s.heap.size + 1), .ref (s.heap.size + 2), .ref (s.heap.size + 3), .ref (s.heap.size + 4), .ref (s.heap.size + 5), .ref (s.heap.size + 6), .ref (s.heap.size + 7), .ref (s.heap.size + 8), .ref (s.heap.size + 9), .ref (s.heap.size + 10), .null, .null, .null, .null, .null, .null, .null, .null, .null, .null, .null, .null, .null, .null, .null, .null, .null, .null, .null, .null, .null, .int 0]))]) (A := fun y => y = h0) (H0 := _) (ci := 5) (v := .ref (s.heap.size + 11)) (ty := .array .int) (C := RX4) (T := TX4) (N := 43) hx hb hts inX4 tyX4 tyX4_ok nmX4 hown hK (va_P1 ho) (va_D1 rfl) ⟨Nat.le_refl _, fun _ _ _ => rfl, hS.2.2⟩ 0 rfl rfl 21 (by decide) (hts _ iw_667) (fun _ h9 => h9) rfl hin rfl (by decide +kernel) rfl rfl (Nat.le_of_ble_eq_true rfl) dX4_init_108 (fun H2 locs hP _ hS2 => ?_)
  refine W.learn (fun _ lr2 _ => ?_)
  have ho : oat dC dI h0 5 [.ref (s.heap.size + 0), .int 0, .int 0, .int 0, .int 0, .int 3, .int 20, .int 0, .int 0, .int 0, .int 0, .ref (s.heap.size + 1), .ref (s.heap.size + 2), .ref (s.heap.size + 3), .ref (s.heap.size + 4), .ref (s.heap.size + 5), .ref (s.heap.size + 6), .ref (s.heap.size + 7), .ref (s.heap.size + 8), .ref (s.heap.size + 9), .ref (s.heap.size + 10), .ref (s.heap.size + 11), .null, .null, .null, .null, .null, .null, .null, .null, .null, .null, .null, .null, .null, .null, .null, .null, .null, .null, .null, .null, .int 0] H2 := hP 0 _ rfl
  have hJ := hJ.keep hz h00 (fun y9 h8 h9 => hS2.2.1 y9 h8 h9)
  have hS : va_S (fun y => y = h0) s.heap H2 locs := ⟨Nat.le_trans hS.1 hS2.1, fun x9 h8 h9 => (hS2.2.1 x9 (Nat.lt_of_lt_of_le h8 hS.1) h9).trans (hS.2.1 x9 h8 h9), hS2.2.2⟩
  have hz : H2.size = s.heap.size + 12 := by have h9 := hS2.1; omega
  clear hP hS2 lr2
  refine lv_aload_n hx hb dX4_init_111 rfl (lv_at hl 0 rfl) ?_
  refine lv_bipush (v := 8) hx hb dX4_init_112 (by decide) ?_
  refine va_newaK hx hb (hts _ iw_145) rfl dX4_init_114 rfl pz_n8 pz_c8 (by decide +kernel) (Nat.le_of_ble_eq_true rfl) (Nat.le_of_ble_eq_true rfl) hz (fun H1 cA e1 z1 o1 _ hNm => ?_)
  obtain rfl : cA = dC 6 := Option.some.inj (hNm.symm.trans (hK.name 6 (by decide)))
  have hJ := hJ.push (c := 6) (N := 8) hz o1 (by decide) (by decide) (show iat dC dI (s.heap.size + 12) 6 8 (fun _ => 0) H1 from e1)
  have ho : oat dC dI h0 5 [.ref (s.heap.size + 0), .int 0, .int 0, .int 0, .int 0, .int 3, .int 20, .int 0, .int 0, .int 0, .int 0, .ref (s.heap.size + 1), .ref (s.heap.size + 2), .ref (s.heap.size + 3), .ref (s.heap.size + 4), .ref (s.heap.size + 5), .ref (s.heap.size + 6), .ref (s.heap.size + 7), .ref (s.heap.size + 8), .ref (s.heap.size + 9), .ref (s.heap.size + 10), .ref (s.heap.size + 11), .null, .null, .null, .null, .null, .null, .null, .null, .null, .null, .null, .null, .null, .null, .null, .null, .null, .null, .null, .null, .int 0] H1 := va_at.kept ho (o1 h0 (by omega))
  have hS : va_S (fun y => y = h0) s.heap H1 _ := ⟨by omega, fun x9 h8 h9 => (o1 x9 (by omega)).trans (hS.2.1 x9 h8 h9), hS.2.2⟩
  have hz : H1.size = s.heap.size + 13 := z1
  clear e1 z1 o1 hNm
  refine W.eq (g2 := F0 m 116 ls [.ref (s.heap.size + 12), .ref h0]) rfl ?_
  refine va_putF (D := (dC, dI)) (ws := [(h0, .inr (5, [.ref (s.heap.size + 0), .int 0, .int 0, .int 0, .int 0, .int 3, .int 20, .int 0, .int 0, .int 0, .int 0, .ref (s.heap.size + 1), .ref (s.heap.size + 2), .ref (s.heap.size + 3), .ref (s.heap.size + 4), .ref (s.heap.size + 5), .ref (s.heap.size + 6), .ref (s.heap.size + 7), .ref (s.heap.size + 8), .ref (s.heap.size + 9), .ref (s.heap.size + 10), .ref (s.heap.size + 11), .null, .null, .null, .null, .null, .null, .null, .null, .null, .null, .null, .null, .null, .null, .null, .null, .null, .null, .null, .null, .int 0]))]) (A := fun y => y = h0) (H0 := _) (ci := 5) (v := .ref (s.heap.size + 12)) (ty := .array .int) (C := RX4) (T := TX4) (N := 43) hx hb hts inX4 tyX4 tyX4_ok nmX4 hown hK (va_P1 ho) (va_D1 rfl) ⟨Nat.le_refl _, fun _ _ _ => rfl, hS.2.2⟩ 0 rfl rfl 22 (by decide) (hts _ iw_668) (fun _ h9 => h9) rfl hin rfl (by decide +kernel) rfl rfl (Nat.le_of_ble_eq_true rfl) dX4_init_116 (fun H2 locs hP _ hS2 => ?_)
  refine W.learn (fun _ lr2 _ => ?_)
  have ho : oat dC dI h0 5 [.ref (s.heap.size + 0), .int 0, .int 0, .int 0, .int 0, .int 3, .int 20, .int 0, .int 0, .int 0, .int 0, .ref (s.heap.size + 1), .ref (s.heap.size + 2), .ref (s.heap.size + 3), .ref (s.heap.size + 4), .ref (s.heap.size + 5), .ref (s.heap.size + 6), .ref (s.heap.size + 7), .ref (s.heap.size + 8), .ref (s.heap.size + 9), .ref (s.heap.size + 10), .ref (s.heap.size + 11), .ref (s.heap.size + 12), .null, .null, .null, .null, .null, .null, .null, .null, .null, .null, .null, .null, .null, .null, .null, .null, .null, .null, .null, .int 0] H2 := hP 0 _ rfl
  have hJ := hJ.keep hz h00 (fun y9 h8 h9 => hS2.2.1 y9 h8 h9)
  have hS : va_S (fun y => y = h0) s.heap H2 locs := ⟨Nat.le_trans hS.1 hS2.1, fun x9 h8 h9 => (hS2.2.1 x9 (Nat.lt_of_lt_of_le h8 hS.1) h9).trans (hS.2.1 x9 h8 h9), hS2.2.2⟩
  have hz : H2.size = s.heap.size + 13 := by have h9 := hS2.1; omega
  clear hP hS2 lr2
  refine lv_aload_n hx hb dX4_init_119 rfl (lv_at hl 0 rfl) ?_
  refine lv_bipush (v := 8) hx hb dX4_init_120 (by decide) ?_
  refine va_newaK hx hb (hts _ iw_145) rfl dX4_init_122 rfl pz_n8 pz_c8 (by decide +kernel) (Nat.le_of_ble_eq_true rfl) (Nat.le_of_ble_eq_true rfl) hz (fun H1 cA e1 z1 o1 _ hNm => ?_)
  obtain rfl : cA = dC 6 := Option.some.inj (hNm.symm.trans (hK.name 6 (by decide)))
  have hJ := hJ.push (c := 6) (N := 8) hz o1 (by decide) (by decide) (show iat dC dI (s.heap.size + 13) 6 8 (fun _ => 0) H1 from e1)
  have ho : oat dC dI h0 5 [.ref (s.heap.size + 0), .int 0, .int 0, .int 0, .int 0, .int 3, .int 20, .int 0, .int 0, .int 0, .int 0, .ref (s.heap.size + 1), .ref (s.heap.size + 2), .ref (s.heap.size + 3), .ref (s.heap.size + 4), .ref (s.heap.size + 5), .ref (s.heap.size + 6), .ref (s.heap.size + 7), .ref (s.heap.size + 8), .ref (s.heap.size + 9), .ref (s.heap.size + 10), .ref (s.heap.size + 11), .ref (s.heap.size + 12), .null, .null, .null, .null, .null, .null, .null, .null, .null, .null, .null, .null, .null, .null, .null, .null, .null, .null, .null, .int 0] H1 := va_at.kept ho (o1 h0 (by omega))
  have hS : va_S (fun y => y = h0) s.heap H1 _ := ⟨by omega, fun x9 h8 h9 => (o1 x9 (by omega)).trans (hS.2.1 x9 h8 h9), hS.2.2⟩
  have hz : H1.size = s.heap.size + 14 := z1
  clear e1 z1 o1 hNm
  refine W.eq (g2 := F0 m 124 ls [.ref (s.heap.size + 13), .ref h0]) rfl ?_
  refine va_putF (D := (dC, dI)) (ws := [(h0, .inr (5, [.ref (s.heap.size + 0), .int 0, .int 0, .int 0, .int 0, .int 3, .int 20, .int 0, .int 0, .int 0, .int 0, .ref (s.heap.size + 1), .ref (s.heap.size + 2), .ref (s.heap.size + 3), .ref (s.heap.size + 4), .ref (s.heap.size + 5), .ref (s.heap.size + 6), .ref (s.heap.size + 7), .ref (s.heap.size + 8), .ref (s.heap.size + 9), .ref (s.heap.size + 10), .ref (s.heap.size + 11), .ref (s.heap.size + 12), .null, .null, .null, .null, .null, .null, .null, .null, .null, .null, .null, .null, .null, .null, .null, .null, .null, .null, .null, .int 0]))]) (A := fun y => y = h0) (H0 := _) (ci := 5) (v := .ref (s.heap.size + 13)) (ty := .array .int) (C := RX4) (T := TX4) (N := 43) hx hb hts inX4 tyX4 tyX4_ok nmX4 hown hK (va_P1 ho) (va_D1 rfl) ⟨Nat.le_refl _, fun _ _ _ => rfl, hS.2.2⟩ 0 rfl rfl 23 (by decide) (hts _ iw_669) (fun _ h9 => h9) rfl hin rfl (by decide +kernel) rfl rfl (Nat.le_of_ble_eq_true rfl) dX4_init_124 (fun H2 locs hP _ hS2 => ?_)
  refine W.learn (fun _ lr2 _ => ?_)
  have ho : oat dC dI h0 5 [.ref (s.heap.size + 0), .int 0, .int 0, .int 0, .int 0, .int 3, .int 20, .int 0, .int 0, .int 0, .int 0, .ref (s.heap.size + 1), .ref (s.heap.size + 2), .ref (s.heap.size + 3), .ref (s.heap.size + 4), .ref (s.heap.size + 5), .ref (s.heap.size + 6), .ref (s.heap.size + 7), .ref (s.heap.size + 8), .ref (s.heap.size + 9), .ref (s.heap.size + 10), .ref (s.heap.size + 11), .ref (s.heap.size + 12), .ref (s.heap.size + 13), .null, .null, .null, .null, .null, .null, .null, .null, .null, .null, .null, .null, .null, .null, .null, .null, .null, .null, .int 0] H2 := hP 0 _ rfl
  have hJ := hJ.keep hz h00 (fun y9 h8 h9 => hS2.2.1 y9 h8 h9)
  have hS : va_S (fun y => y = h0) s.heap H2 locs := ⟨Nat.le_trans hS.1 hS2.1, fun x9 h8 h9 => (hS2.2.1 x9 (Nat.lt_of_lt_of_le h8 hS.1) h9).trans (hS.2.1 x9 h8 h9), hS2.2.2⟩
  have hz : H2.size = s.heap.size + 14 := by have h9 := hS2.1; omega
  clear hP hS2 lr2
  refine lv_aload_n hx hb dX4_init_127 rfl (lv_at hl 0 rfl) ?_
  refine lv_bipush (v := 8) hx hb dX4_init_128 (by decide) ?_
  refine va_newaK hx hb (hts _ iw_145) rfl dX4_init_130 rfl pz_n8 pz_c8 (by decide +kernel) (Nat.le_of_ble_eq_true rfl) (Nat.le_of_ble_eq_true rfl) hz (fun H1 cA e1 z1 o1 _ hNm => ?_)
  obtain rfl : cA = dC 6 := Option.some.inj (hNm.symm.trans (hK.name 6 (by decide)))
  have hJ := hJ.push (c := 6) (N := 8) hz o1 (by decide) (by decide) (show iat dC dI (s.heap.size + 14) 6 8 (fun _ => 0) H1 from e1)
  have ho : oat dC dI h0 5 [.ref (s.heap.size + 0), .int 0, .int 0, .int 0, .int 0, .int 3, .int 20, .int 0, .int 0, .int 0, .int 0, .ref (s.heap.size + 1), .ref (s.heap.size + 2), .ref (s.heap.size + 3), .ref (s.heap.size + 4), .ref (s.heap.size + 5), .ref (s.heap.size + 6), .ref (s.heap.size + 7), .ref (s.heap.size + 8), .ref (s.heap.size + 9), .ref (s.heap.size + 10), .ref (s.heap.size + 11), .ref (s.heap.size + 12), .ref (s.heap.size + 13), .null, .null, .null, .null, .null, .null, .null, .null, .null, .null, .null, .null, .null, .null, .null, .null, .null, .null, .int 0] H1 := va_at.kept ho (o1 h0 (by omega))
  have hS : va_S (fun y => y = h0) s.heap H1 _ := ⟨by omega, fun x9 h8 h9 => (o1 x9 (by omega)).trans (hS.2.1 x9 h8 h9), hS.2.2⟩
  have hz : H1.size = s.heap.size + 15 := z1
  clear e1 z1 o1 hNm
  refine W.eq (g2 := F0 m 132 ls [.ref (s.heap.size + 14), .ref h0]) rfl ?_
  refine va_putF (D := (dC, dI)) (ws := [(h0, .inr (5, [.ref (s.heap.size + 0), .int 0, .int 0, .int 0, .int 0, .int 3, .int 20, .int 0, .int 0, .int 0, .int 0, .ref (s.heap.size + 1), .ref (s.heap.size + 2), .ref (s.heap.size + 3), .ref (s.heap.size + 4), .ref (s.heap.size + 5), .ref (s.heap.size + 6), .ref (s.heap.size + 7), .ref (s.heap.size + 8), .ref (s.heap.size + 9), .ref (s.heap.size + 10), .ref (s.heap.size + 11), .ref (s.heap.size + 12), .ref (s.heap.size + 13), .null, .null, .null, .null, .null, .null, .null, .null, .null, .null, .null, .null, .null, .null, .null, .null, .null, .null, .int 0]))]) (A := fun y => y = h0) (H0 := _) (ci := 5) (v := .ref (s.heap.size + 14)) (ty := .array .int) (C := RX4) (T := TX4) (N := 43) hx hb hts inX4 tyX4 tyX4_ok nmX4 hown hK (va_P1 ho) (va_D1 rfl) ⟨Nat.le_refl _, fun _ _ _ => rfl, hS.2.2⟩ 0 rfl rfl 24 (by decide) (hts _ iw_670) (fun _ h9 => h9) rfl hin rfl (by decide +kernel) rfl rfl (Nat.le_of_ble_eq_true rfl) dX4_init_132 (fun H2 locs hP _ hS2 => ?_)
  refine W.learn (fun _ lr2 _ => ?_)
  have ho : oat dC dI h0 5 [.ref (s.heap.size + 0), .int 0, .int 0, .int 0, .int 0, .int 3, .int 20, .int 0, .int 0, .int 0, .int 0, .ref (s.heap.size + 1), .ref (s.heap.size + 2), .ref (s.heap.size + 3), .ref (s.heap.size + 4), .ref (s.heap.size + 5), .ref (s.heap.size + 6), .ref (s.heap.size + 7), .ref (s.heap.size + 8), .ref (s.heap.size + 9), .ref (s.heap.size + 10), .ref (s.heap.size + 11), .ref (s.heap.size + 12), .ref (s.heap.size + 13), .ref (s.heap.size + 14), .null, .null, .null, .null, .null, .null, .null, .null, .null, .null, .null, .null, .null, .null, .null, .null, .null, .int 0] H2 := hP 0 _ rfl
  have hJ := hJ.keep hz h00 (fun y9 h8 h9 => hS2.2.1 y9 h8 h9)
  have hS : va_S (fun y => y = h0) s.heap H2 locs := ⟨Nat.le_trans hS.1 hS2.1, fun x9 h8 h9 => (hS2.2.1 x9 (Nat.lt_of_lt_of_le h8 hS.1) h9).trans (hS.2.1 x9 h8 h9), hS2.2.2⟩
  have hz : H2.size = s.heap.size + 15 := by have h9 := hS2.1; omega
  clear hP hS2 lr2
  refine lv_aload_n hx hb dX4_init_135 rfl (lv_at hl 0 rfl) ?_
  refine lv_bipush (v := 8) hx hb dX4_init_136 (by decide) ?_
  refine va_newaK hx hb (hts _ iw_145) rfl dX4_init_138 rfl pz_n8 pz_c8 (by decide +kernel) (Nat.le_of_ble_eq_true rfl) (Nat.le_of_ble_eq_true rfl) hz (fun H1 cA e1 z1 o1 _ hNm => ?_)
  obtain rfl : cA = dC 6 := Option.some.inj (hNm.symm.trans (hK.name 6 (by decide)))
  have hJ := hJ.push (c := 6) (N := 8) hz o1 (by decide) (by decide) (show iat dC dI (s.heap.size + 15) 6 8 (fun _ => 0) H1 from e1)
  have ho : oat dC dI h0 5 [.ref (s.heap.size + 0), .int 0, .int 0, .int 0, .int 0, .int 3, .int 20, .int 0, .int 0, .int 0, .int 0, .ref (s.heap.size + 1), .ref (s.heap.size + 2), .ref (s.heap.size + 3), .ref (s.heap.size + 4), .ref (s.heap.size + 5), .ref (s.heap.size + 6), .ref (s.heap.size + 7), .ref (s.heap.size + 8), .ref (s.heap.size + 9), .ref (s.heap.size + 10), .ref (s.heap.size + 11), .ref (s.heap.size + 12), .ref (s.heap.size + 13), .ref (s.heap.size + 14), .null, .null, .null, .null, .null, .null, .null, .null, .null, .null, .null, .null, .null, .null, .null, .null, .null, .int 0] H1 := va_at.kept ho (o1 h0 (by omega))
  have hS : va_S (fun y => y = h0) s.heap H1 _ := ⟨by omega, fun x9 h8 h9 => (o1 x9 (by omega)).trans (hS.2.1 x9 h8 h9), hS.2.2⟩
  have hz : H1.size = s.heap.size + 16 := z1
  clear e1 z1 o1 hNm
  refine W.eq (g2 := F0 m 140 ls [.ref (s.heap.size + 15), .ref h0]) rfl ?_
  refine va_putF (D := (dC, dI)) (ws := [(h0, .inr (5, [.ref (s.heap.size + 0), .int 0, .int 0, .int 0, .int 0, .int 3, .int 20, .int 0, .int 0, .int 0, .int 0, .ref (s.heap.size + 1), .ref (s.heap.size + 2), .ref (s.heap.size + 3), .ref (s.heap.size + 4), .ref (s.heap.size + 5), .ref (s.heap.size + 6), .ref (s.heap.size + 7), .ref (s.heap.size + 8), .ref (s.heap.size + 9), .ref (s.heap.size + 10), .ref (s.heap.size + 11), .ref (s.heap.size + 12), .ref (s.heap.size + 13), .ref (s.heap.size + 14), .null, .null, .null, .null, .null, .null, .null, .null, .null, .null, .null, .null, .null, .null, .null, .null, .null, .int 0]))]) (A := fun y => y = h0) (H0 := _) (ci := 5) (v := .ref (s.heap.size + 15)) (ty := .array .int) (C := RX4) (T := TX4) (N := 43) hx hb hts inX4 tyX4 tyX4_ok nmX4 hown hK (va_P1 ho) (va_D1 rfl) ⟨Nat.le_refl _, fun _ _ _ => rfl, hS.2.2⟩ 0 rfl rfl 25 (by decide) (hts _ iw_671) (fun _ h9 => h9) rfl hin rfl (by decide +kernel) rfl rfl (Nat.le_of_ble_eq_true rfl) dX4_init_140 (fun H2 locs hP _ hS2 => ?_)
  refine W.learn (fun _ lr2 _ => ?_)
  have ho : oat dC dI h0 5 [.ref (s.heap.size + 0), .int 0, .int 0, .int 0, .int 0, .int 3, .int 20, .int 0, .int 0, .int 0, .int 0, .ref (s.heap.size + 1), .ref (s.heap.size + 2), .ref (s.heap.size + 3), .ref (s.heap.size + 4), .ref (s.heap.size + 5), .ref (s.heap.size + 6), .ref (s.heap.size + 7), .ref (s.heap.size + 8), .ref (s.heap.size + 9), .ref (s.heap.size + 10), .ref (s.heap.size + 11), .ref (s.heap.size + 12), .ref (s.heap.size + 13), .ref (s.heap.size + 14), .ref (s.heap.size + 15), .null, .null, .null, .null, .null, .null, .null, .null, .null, .null, .null, .null, .null, .null, .null, .null, .int 0] H2 := hP 0 _ rfl
  have hJ := hJ.keep hz h00 (fun y9 h8 h9 => hS2.2.1 y9 h8 h9)
  have hS : va_S (fun y => y = h0) s.heap H2 locs := ⟨Nat.le_trans hS.1 hS2.1, fun x9 h8 h9 => (hS2.2.1 x9 (Nat.lt_of_lt_of_le h8 hS.1) h9).trans (hS.2.1 x9 h8 h9), hS2.2.2⟩
  have hz : H2.size = s.heap.size + 16 := by have h9 := hS2.1; omega
  clear hP hS2 lr2
  refine lv_aload_n hx hb dX4_init_143 rfl (lv_at hl 0 rfl) ?_
  refine lv_bipush (v := 8) hx hb dX4_init_144 (by decide) ?_
  refine va_newaK hx hb (hts _ iw_145) rfl dX4_init_146 rfl pz_n8 pz_c8 (by decide +kernel) (Nat.le_of_ble_eq_true rfl) (Nat.le_of_ble_eq_true rfl) hz (fun H1 cA e1 z1 o1 _ hNm => ?_)
  obtain rfl : cA = dC 6 := Option.some.inj (hNm.symm.trans (hK.name 6 (by decide)))
  have hJ := hJ.push (c := 6) (N := 8) hz o1 (by decide) (by decide) (show iat dC dI (s.heap.size + 16) 6 8 (fun _ => 0) H1 from e1)
  have ho : oat dC dI h0 5 [.ref (s.heap.size + 0), .int 0, .int 0, .int 0, .int 0, .int 3, .int 20, .int 0, .int 0, .int 0, .int 0, .ref (s.heap.size + 1), .ref (s.heap.size + 2), .ref (s.heap.size + 3), .ref (s.heap.size + 4), .ref (s.heap.size + 5), .ref (s.heap.size + 6), .ref (s.heap.size + 7), .ref (s.heap.size + 8), .ref (s.heap.size + 9), .ref (s.heap.size + 10), .ref (s.heap.size + 11), .ref (s.heap.size + 12), .ref (s.heap.size + 13), .ref (s.heap.size + 14), .ref (s.heap.size + 15), .null, .null, .null, .null, .null, .null, .null, .null, .null, .null, .null, .null, .null, .null, .null, .null, .int 0] H1 := va_at.kept ho (o1 h0 (by omega))
  have hS : va_S (fun y => y = h0) s.heap H1 _ := ⟨by omega, fun x9 h8 h9 => (o1 x9 (by omega)).trans (hS.2.1 x9 h8 h9), hS.2.2⟩
  have hz : H1.size = s.heap.size + 17 := z1
  clear e1 z1 o1 hNm
  refine W.eq (g2 := F0 m 148 ls [.ref (s.heap.size + 16), .ref h0]) rfl ?_
  refine va_putF (D := (dC, dI)) (ws := [(h0, .inr (5, [.ref (s.heap.size + 0), .int 0, .int 0, .int 0, .int 0, .int 3, .int 20, .int 0, .int 0, .int 0, .int 0, .ref (s.heap.size + 1), .ref (s.heap.size + 2), .ref (s.heap.size + 3), .ref (s.heap.size + 4), .ref (s.heap.size + 5), .ref (s.heap.size + 6), .ref (s.heap.size + 7), .ref (s.heap.size + 8), .ref (s.heap.size + 9), .ref (s.heap.size + 10), .ref (s.heap.size + 11), .ref (s.heap.size + 12), .ref (s.heap.size + 13), .ref (s.heap.size + 14), .ref (s.heap.size + 15), .null, .null, .null, .null, .null, .null, .null, .null, .null, .null, .null, .null, .null, .null, .null, .null, .int 0]))]) (A := fun y => y = h0) (H0 := _) (ci := 5) (v := .ref (s.heap.size + 16)) (ty := .array .int) (C := RX4) (T := TX4) (N := 43) hx hb hts inX4 tyX4 tyX4_ok nmX4 hown hK (va_P1 ho) (va_D1 rfl) ⟨Nat.le_refl _, fun _ _ _ => rfl, hS.2.2⟩ 0 rfl rfl 26 (by decide) (hts _ iw_672) (fun _ h9 => h9) rfl hin rfl (by decide +kernel) rfl rfl (Nat.le_of_ble_eq_true rfl) dX4_init_148 (fun H2 locs hP _ hS2 => ?_)
  refine W.learn (fun _ lr2 _ => ?_)
  have ho : oat dC dI h0 5 [.ref (s.heap.size + 0), .int 0, .int 0, .int 0, .int 0, .int 3, .int 20, .int 0, .int 0, .int 0, .int 0, .ref (s.heap.size + 1), .ref (s.heap.size + 2), .ref (s.heap.size + 3), .ref (s.heap.size + 4), .ref (s.heap.size + 5), .ref (s.heap.size + 6), .ref (s.heap.size + 7), .ref (s.heap.size + 8), .ref (s.heap.size + 9), .ref (s.heap.size + 10), .ref (s.heap.size + 11), .ref (s.heap.size + 12), .ref (s.heap.size + 13), .ref (s.heap.size + 14), .ref (s.heap.size + 15), .ref (s.heap.size + 16), .null, .null, .null, .null, .null, .null, .null, .null, .null, .null, .null, .null, .null, .null, .null, .int 0] H2 := hP 0 _ rfl
  have hJ := hJ.keep hz h00 (fun y9 h8 h9 => hS2.2.1 y9 h8 h9)
  have hS : va_S (fun y => y = h0) s.heap H2 locs := ⟨Nat.le_trans hS.1 hS2.1, fun x9 h8 h9 => (hS2.2.1 x9 (Nat.lt_of_lt_of_le h8 hS.1) h9).trans (hS.2.1 x9 h8 h9), hS2.2.2⟩
  have hz : H2.size = s.heap.size + 17 := by have h9 := hS2.1; omega
  clear hP hS2 lr2
  refine lv_aload_n hx hb dX4_init_151 rfl (lv_at hl 0 rfl) ?_
  refine lv_sipush (v := 200) hx hb dX4_init_152 (by decide) ?_
  refine va_newaK hx hb (hts _ iw_145) rfl dX4_init_155 rfl pz_n200 pz_c200 (by decide +kernel) (Nat.le_of_ble_eq_true rfl) (Nat.le_of_ble_eq_true rfl) hz (fun H1 cA e1 z1 o1 _ hNm => ?_)
  obtain rfl : cA = dC 6 := Option.some.inj (hNm.symm.trans (hK.name 6 (by decide)))
  have hJ := hJ.push (c := 6) (N := 200) hz o1 (by decide) (by decide) (show iat dC dI (s.heap.size + 17) 6 200 (fun _ => 0) H1 from e1)
  have ho : oat dC dI h0 5 [.ref (s.heap.size + 0), .int 0, .int 0, .int 0, .int 0, .int 3, .int 20, .int 0, .int 0, .int 0, .int 0, .ref (s.heap.size + 1), .ref (s.heap.size + 2), .ref (s.heap.size + 3), .ref (s.heap.size + 4), .ref (s.heap.size + 5), .ref (s.heap.size + 6), .ref (s.heap.size + 7), .ref (s.heap.size + 8), .ref (s.heap.size + 9), .ref (s.heap.size + 10), .ref (s.heap.size + 11), .ref (s.heap.size + 12), .ref (s.heap.size + 13), .ref (s.heap.size + 14), .ref (s.heap.size + 15), .ref (s.heap.size + 16), .null, .null, .null, .null, .null, .null, .null, .null, .null, .null, .null, .null, .null, .null, .null, .int 0] H1 := va_at.kept ho (o1 h0 (by omega))
  have hS : va_S (fun y => y = h0) s.heap H1 _ := ⟨by omega, fun x9 h8 h9 => (o1 x9 (by omega)).trans (hS.2.1 x9 h8 h9), hS.2.2⟩
  have hz : H1.size = s.heap.size + 18 := z1
  clear e1 z1 o1 hNm
  refine W.eq (g2 := F0 m 157 ls [.ref (s.heap.size + 17), .ref h0]) rfl ?_
  refine va_putF (D := (dC, dI)) (ws := [(h0, .inr (5, [.ref (s.heap.size + 0), .int 0, .int 0, .int 0, .int 0, .int 3, .int 20, .int 0, .int 0, .int 0, .int 0, .ref (s.heap.size + 1), .ref (s.heap.size + 2), .ref (s.heap.size + 3), .ref (s.heap.size + 4), .ref (s.heap.size + 5), .ref (s.heap.size + 6), .ref (s.heap.size + 7), .ref (s.heap.size + 8), .ref (s.heap.size + 9), .ref (s.heap.size + 10), .ref (s.heap.size + 11), .ref (s.heap.size + 12), .ref (s.heap.size + 13), .ref (s.heap.size + 14), .ref (s.heap.size + 15), .ref (s.heap.size + 16), .null, .null, .null, .null, .null, .null, .null, .null, .null, .null, .null, .null, .null, .null, .null, .int 0]))]) (A := fun y => y = h0) (H0 := _) (ci := 5) (v := .ref (s.heap.size + 17)) (ty := .array .int) (C := RX4) (T := TX4) (N := 43) hx hb hts inX4 tyX4 tyX4_ok nmX4 hown hK (va_P1 ho) (va_D1 rfl) ⟨Nat.le_refl _, fun _ _ _ => rfl, hS.2.2⟩ 0 rfl rfl 27 (by decide) (hts _ iw_673) (fun _ h9 => h9) rfl hin rfl (by decide +kernel) rfl rfl (Nat.le_of_ble_eq_true rfl) dX4_init_157 (fun H2 locs hP _ hS2 => ?_)
  refine W.learn (fun _ lr2 _ => ?_)
  have ho : oat dC dI h0 5 [.ref (s.heap.size + 0), .int 0, .int 0, .int 0, .int 0, .int 3, .int 20, .int 0, .int 0, .int 0, .int 0, .ref (s.heap.size + 1), .ref (s.heap.size + 2), .ref (s.heap.size + 3), .ref (s.heap.size + 4), .ref (s.heap.size + 5), .ref (s.heap.size + 6), .ref (s.heap.size + 7), .ref (s.heap.size + 8), .ref (s.heap.size + 9), .ref (s.heap.size + 10), .ref (s.heap.size + 11), .ref (s.heap.size + 12), .ref (s.heap.size + 13), .ref (s.heap.size + 14), .ref (s.heap.size + 15), .ref (s.heap.size + 16), .ref (s.heap.size + 17), .null, .null, .null, .null, .null, .null, .null, .null, .null, .null, .null, .null, .null, .null, .int 0] H2 := hP 0 _ rfl
  have hJ := hJ.keep hz h00 (fun y9 h8 h9 => hS2.2.1 y9 h8 h9)
  have hS : va_S (fun y => y = h0) s.heap H2 locs := ⟨Nat.le_trans hS.1 hS2.1, fun x9 h8 h9 => (hS2.2.1 x9 (Nat.lt_of_lt_of_le h8 hS.1) h9).trans (hS.2.1 x9 h8 h9), hS2.2.2⟩
  have hz : H2.size = s.heap.size + 18 := by have h9 := hS2.1; omega
  clear hP hS2 lr2
  refine lv_aload_n hx hb dX4_init_160 rfl (lv_at hl 0 rfl) ?_
  refine lv_sipush (v := 200) hx hb dX4_init_161 (by decide) ?_
  refine va_newaK hx hb (hts _ iw_145) rfl dX4_init_164 rfl pz_n200 pz_c200 (by decide +kernel) (Nat.le_of_ble_eq_true rfl) (Nat.le_of_ble_eq_true rfl) hz (fun H1 cA e1 z1 o1 _ hNm => ?_)
  obtain rfl : cA = dC 6 := Option.some.inj (hNm.symm.trans (hK.name 6 (by decide)))
  have hJ := hJ.push (c := 6) (N := 200) hz o1 (by decide) (by decide) (show iat dC dI (s.heap.size + 18) 6 200 (fun _ => 0) H1 from e1)
  have ho : oat dC dI h0 5 [.ref (s.heap.size + 0), .int 0, .int 0, .int 0, .int 0, .int 3, .int 20, .int 0, .int 0, .int 0, .int 0, .ref (s.heap.size + 1), .ref (s.heap.size + 2), .ref (s.heap.size + 3), .ref (s.heap.size + 4), .ref (s.heap.size + 5), .ref (s.heap.size + 6), .ref (s.heap.size + 7), .ref (s.heap.size + 8), .ref (s.heap.size + 9), .ref (s.heap.size + 10), .ref (s.heap.size + 11), .ref (s.heap.size + 12), .ref (s.heap.size + 13), .ref (s.heap.size + 14), .ref (s.heap.size + 15), .ref (s.heap.size + 16), .ref (s.heap.size + 17), .null, .null, .null, .null, .null, .null, .null, .null, .null, .null, .null, .null, .null, .null, .int 0] H1 := va_at.kept ho (o1 h0 (by omega))
  have hS : va_S (fun y => y = h0) s.heap H1 _ := ⟨by omega, fun x9 h8 h9 => (o1 x9 (by omega)).trans (hS.2.1 x9 h8 h9), hS.2.2⟩
  have hz : H1.size = s.heap.size + 19 := z1
  clear e1 z1 o1 hNm
  refine W.eq (g2 := F0 m 166 ls [.ref (s.heap.size + 18), .ref h0]) rfl ?_
  refine va_putF (D := (dC, dI)) (ws := [(h0, .inr (5, [.ref (s.heap.size + 0), .int 0, .int 0, .int 0, .int 0, .int 3, .int 20, .int 0, .int 0, .int 0, .int 0, .ref (s.heap.size + 1), .ref (s.heap.size + 2), .ref (s.heap.size + 3), .ref (s.heap.size + 4), .ref (s.heap.size + 5), .ref (s.heap.size + 6), .ref (s.heap.size + 7), .ref (s.heap.size + 8), .ref (s.heap.size + 9), .ref (s.heap.size + 10), .ref (s.heap.size + 11), .ref (s.heap.size + 12), .ref (s.heap.size + 13), .ref (s.heap.size + 14), .ref (s.heap.size + 15), .ref (s.heap.size + 16), .ref (s.heap.size + 17), .null, .null, .null, .null, .null, .null, .null, .null, .null, .null, .null, .null, .null, .null, .int 0]))]) (A := fun y => y = h0) (H0 := _) (ci := 5) (v := .ref (s.heap.size + 18)) (ty := .array .int) (C := RX4) (T := TX4) (N := 43) hx hb hts inX4 tyX4 tyX4_ok nmX4 hown hK (va_P1 ho) (va_D1 rfl) ⟨Nat.le_refl _, fun _ _ _ => rfl, hS.2.2⟩ 0 rfl rfl 28 (by decide) (hts _ iw_674) (fun _ h9 => h9) rfl hin rfl (by decide +kernel) rfl rfl (Nat.le_of_ble_eq_true rfl) dX4_init_166 (fun H2 locs hP _ hS2 => ?_)
  refine W.learn (fun _ lr2 _ => ?_)
  have ho : oat dC dI h0 5 [.ref (s.heap.size + 0), .int 0, .int 0, .int 0, .int 0, .int 3, .int 20, .int 0, .int 0, .int 0, .int 0, .ref (s.heap.size + 1), .ref (s.heap.size + 2), .ref (s.heap.size + 3), .ref (s.heap.size + 4), .ref (s.heap.size + 5), .ref (s.heap.size + 6), .ref (s.heap.size + 7), .ref (s.heap.size + 8), .ref (s.heap.size + 9), .ref (s.heap.size + 10), .ref (s.heap.size + 11), .ref (s.heap.size + 12), .ref (s.heap.size + 13), .ref (s.heap.size + 14), .ref (s.heap.size + 15), .ref (s.heap.size + 16), .ref (s.heap.size + 17), .ref (s.heap.size + 18), .null, .null, .null, .null, .null, .null, .null, .null, .null, .null, .null, .null, .null, .int 0] H2 := hP 0 _ rfl
  have hJ := hJ.keep hz h00 (fun y9 h8 h9 => hS2.2.1 y9 h8 h9)
  have hS : va_S (fun y => y = h0) s.heap H2 locs := ⟨Nat.le_trans hS.1 hS2.1, fun x9 h8 h9 => (hS2.2.1 x9 (Nat.lt_of_lt_of_le h8 hS.1) h9).trans (hS.2.1 x9 h8 h9), hS2.2.2⟩
  have hz : H2.size = s.heap.size + 19 := by have h9 := hS2.1; omega
  clear hP hS2 lr2
  refine lv_aload_n hx hb dX4_init_169 rfl (lv_at hl 0 rfl) ?_
  refine lv_sipush (v := 200) hx hb dX4_init_170 (by decide) ?_
  refine va_newaK hx hb (hts _ iw_145) rfl dX4_init_173 rfl pz_n200 pz_c200 (by decide +kernel) (Nat.le_of_ble_eq_true rfl) (Nat.le_of_ble_eq_true rfl) hz (fun H1 cA e1 z1 o1 _ hNm => ?_)
  obtain rfl : cA = dC 6 := Option.some.inj (hNm.symm.trans (hK.name 6 (by decide)))
  have hJ := hJ.push (c := 6) (N := 200) hz o1 (by decide) (by decide) (show iat dC dI (s.heap.size + 19) 6 200 (fun _ => 0) H1 from e1)
  have ho : oat dC dI h0 5 [.ref (s.heap.size + 0), .int 0, .int 0, .int 0, .int 0, .int 3, .int 20, .int 0, .int 0, .int 0, .int 0, .ref (s.heap.size + 1), .ref (s.heap.size + 2), .ref (s.heap.size + 3), .ref (s.heap.size + 4), .ref (s.heap.size + 5), .ref (s.heap.size + 6), .ref (s.heap.size + 7), .ref (s.heap.size + 8), .ref (s.heap.size + 9), .ref (s.heap.size + 10), .ref (s.heap.size + 11), .ref (s.heap.size + 12), .ref (s.heap.size + 13), .ref (s.heap.size + 14), .ref (s.heap.size + 15), .ref (s.heap.size + 16), .ref (s.heap.size + 17), .ref (s.heap.size + 18), .null, .null, .null, .null, .null, .null, .null, .null, .null, .null, .null, .null, .null, .int 0] H1 := va_at.kept ho (o1 h0 (by omega))
  have hS : va_S (fun y => y = h0) s.heap H1 _ := ⟨by omega, fun x9 h8 h9 => (o1 x9 (by omega)).trans (hS.2.1 x9 h8 h9), hS.2.2⟩
  have hz : H1.size = s.heap.size + 20 := z1
  clear e1 z1 o1 hNm
  refine W.eq (g2 := F0 m 175 ls [.ref (s.heap.size + 19), .ref h0]) rfl ?_
  refine va_putF (D := (dC, dI)) (ws := [(h0, .inr (5, [.ref (s.heap.size + 0), .int 0, .int 0, .int 0, .int 0, .int 3, .int 20, .int 0, .int 0, .int 0, .int 0, .ref (s.heap.size + 1), .ref (s.heap.size + 2), .ref (s.heap.size + 3), .ref (s.heap.size + 4), .ref (s.heap.size + 5), .ref (s.heap.size + 6), .ref (s.heap.size + 7), .ref (s.heap.size + 8), .ref (s.heap.size + 9), .ref (s.heap.size + 10), .ref (s.heap.size + 11), .ref (s.heap.size + 12), .ref (s.heap.size + 13), .ref (s.heap.size + 14), .ref (s.heap.size + 15), .ref (s.heap.size + 16), .ref (s.heap.size + 17), .ref (s.heap.size + 18), .null, .null, .null, .null, .null, .null, .null, .null, .null, .null, .null, .null, .null, .int 0]))]) (A := fun y => y = h0) (H0 := _) (ci := 5) (v := .ref (s.heap.size + 19)) (ty := .array .int) (C := RX4) (T := TX4) (N := 43) hx hb hts inX4 tyX4 tyX4_ok nmX4 hown hK (va_P1 ho) (va_D1 rfl) ⟨Nat.le_refl _, fun _ _ _ => rfl, hS.2.2⟩ 0 rfl rfl 29 (by decide) (hts _ iw_675) (fun _ h9 => h9) rfl hin rfl (by decide +kernel) rfl rfl (Nat.le_of_ble_eq_true rfl) dX4_init_175 (fun H2 locs hP _ hS2 => ?_)
  refine W.learn (fun _ lr2 _ => ?_)
  have ho : oat dC dI h0 5 [.ref (s.heap.size + 0), .int 0, .int 0, .int 0, .int 0, .int 3, .int 20, .int 0, .int 0, .int 0, .int 0, .ref (s.heap.size + 1), .ref (s.heap.size + 2), .ref (s.heap.size + 3), .ref (s.heap.size + 4), .ref (s.heap.size + 5), .ref (s.heap.size + 6), .ref (s.heap.size + 7), .ref (s.heap.size + 8), .ref (s.heap.size + 9), .ref (s.heap.size + 10), .ref (s.heap.size + 11), .ref (s.heap.size + 12), .ref (s.heap.size + 13), .ref (s.heap.size + 14), .ref (s.heap.size + 15), .ref (s.heap.size + 16), .ref (s.heap.size + 17), .ref (s.heap.size + 18), .ref (s.heap.size + 19), .null, .null, .null, .null, .null, .null, .null, .null, .null, .null, .null, .null, .int 0] H2 := hP 0 _ rfl
  have hJ := hJ.keep hz h00 (fun y9 h8 h9 => hS2.2.1 y9 h8 h9)
  have hS : va_S (fun y => y = h0) s.heap H2 locs := ⟨Nat.le_trans hS.1 hS2.1, fun x9 h8 h9 => (hS2.2.1 x9 (Nat.lt_of_lt_of_le h8 hS.1) h9).trans (hS.2.1 x9 h8 h9), hS2.2.2⟩
  have hz : H2.size = s.heap.size + 20 := by have h9 := hS2.1; omega
  clear hP hS2 lr2
  refine lv_aload_n hx hb dX4_init_178 rfl (lv_at hl 0 rfl) ?_
  refine lv_sipush (v := 200) hx hb dX4_init_179 (by decide) ?_
  refine va_newaK hx hb (hts _ iw_145) rfl dX4_init_182 rfl pz_n200 pz_c200 (by decide +kernel) (Nat.le_of_ble_eq_true rfl) (Nat.le_of_ble_eq_true rfl) hz (fun H1 cA e1 z1 o1 _ hNm => ?_)
  obtain rfl : cA = dC 6 := Option.some.inj (hNm.symm.trans (hK.name 6 (by decide)))
  have hJ := hJ.push (c := 6) (N := 200) hz o1 (by decide) (by decide) (show iat dC dI (s.heap.size + 20) 6 200 (fun _ => 0) H1 from e1)
  have ho : oat dC dI h0 5 [.ref (s.heap.size + 0), .int 0, .int 0, .int 0, .int 0, .int 3, .int 20, .int 0, .int 0, .int 0, .int 0, .ref (s.heap.size + 1), .ref (s.heap.size + 2), .ref (s.heap.size + 3), .ref (s.heap.size + 4), .ref (s.heap.size + 5), .ref (s.heap.size + 6), .ref (s.heap.size + 7), .ref (s.heap.size + 8), .ref (s.heap.size + 9), .ref (s.heap.size + 10), .ref (s.heap.size + 11), .ref (s.heap.size + 12), .ref (s.heap.size + 13), .ref (s.heap.size + 14), .ref (s.heap.size + 15), .ref (s.heap.size + 16), .ref (s.heap.size + 17), .ref (s.heap.size + 18), .ref (s.heap.size + 19), .null, .null, .null, .null, .null, .null, .null, .null, .null, .null, .null, .null, .int 0] H1 := va_at.kept ho (o1 h0 (by omega))
  have hS : va_S (fun y => y = h0) s.heap H1 _ := ⟨by omega, fun x9 h8 h9 => (o1 x9 (by omega)).trans (hS.2.1 x9 h8 h9), hS.2.2⟩
  have hz : H1.size = s.heap.size + 21 := z1
  clear e1 z1 o1 hNm
  refine W.eq (g2 := F0 m 184 ls [.ref (s.heap.size + 20), .ref h0]) rfl ?_
  refine va_putF (D := (dC, dI)) (ws := [(h0, .inr (5, [.ref (s.heap.size + 0), .int 0, .int 0, .int 0, .int 0, .int 3, .int 20, .int 0, .int 0, .int 0, .int 0, .ref (s.heap.size + 1), .ref (s.heap.size + 2), .ref (s.heap.size + 3), .ref (s.heap.size + 4), .ref (s.heap.size + 5), .ref (s.heap.size + 6), .ref (s.heap.size + 7), .ref (s.heap.size + 8), .ref (s.heap.size + 9), .ref (s.heap.size + 10), .ref (s.heap.size + 11), .ref (s.heap.size + 12), .ref (s.heap.size + 13), .ref (s.heap.size + 14), .ref (s.heap.size + 15), .ref (s.heap.size + 16), .ref (s.heap.size + 17), .ref (s.heap.size + 18), .ref (s.heap.size + 19), .null, .null, .null, .null, .null, .null, .null, .null, .null, .null, .null, .null, .int 0]))]) (A := fun y => y = h0) (H0 := _) (ci := 5) (v := .ref (s.heap.size + 20)) (ty := .array .int) (C := RX4) (T := TX4) (N := 43) hx hb hts inX4 tyX4 tyX4_ok nmX4 hown hK (va_P1 ho) (va_D1 rfl) ⟨Nat.le_refl _, fun _ _ _ => rfl, hS.2.2⟩ 0 rfl rfl 30 (by decide) (hts _ iw_676) (fun _ h9 => h9) rfl hin rfl (by decide +kernel) rfl rfl (Nat.le_of_ble_eq_true rfl) dX4_init_184 (fun H2 locs hP _ hS2 => ?_)
  refine W.learn (fun _ lr2 _ => ?_)
  have ho : oat dC dI h0 5 [.ref (s.heap.size + 0), .int 0, .int 0, .int 0, .int 0, .int 3, .int 20, .int 0, .int 0, .int 0, .int 0, .ref (s.heap.size + 1), .ref (s.heap.size + 2), .ref (s.heap.size + 3), .ref (s.heap.size + 4), .ref (s.heap.size + 5), .ref (s.heap.size + 6), .ref (s.heap.size + 7), .ref (s.heap.size + 8), .ref (s.heap.size + 9), .ref (s.heap.size + 10), .ref (s.heap.size + 11), .ref (s.heap.size + 12), .ref (s.heap.size + 13), .ref (s.heap.size + 14), .ref (s.heap.size + 15), .ref (s.heap.size + 16), .ref (s.heap.size + 17), .ref (s.heap.size + 18), .ref (s.heap.size + 19), .ref (s.heap.size + 20), .null, .null, .null, .null, .null, .null, .null, .null, .null, .null, .null, .int 0] H2 := hP 0 _ rfl
  have hJ := hJ.keep hz h00 (fun y9 h8 h9 => hS2.2.1 y9 h8 h9)
  have hS : va_S (fun y => y = h0) s.heap H2 locs := ⟨Nat.le_trans hS.1 hS2.1, fun x9 h8 h9 => (hS2.2.1 x9 (Nat.lt_of_lt_of_le h8 hS.1) h9).trans (hS.2.1 x9 h8 h9), hS2.2.2⟩
  have hz : H2.size = s.heap.size + 21 := by have h9 := hS2.1; omega
  clear hP hS2 lr2
  refine lv_aload_n hx hb dX4_init_187 rfl (lv_at hl 0 rfl) ?_
  refine lv_sipush (v := 200) hx hb dX4_init_188 (by decide) ?_
  refine va_newaK hx hb (hts _ iw_145) rfl dX4_init_191 rfl pz_n200 pz_c200 (by decide +kernel) (Nat.le_of_ble_eq_true rfl) (Nat.le_of_ble_eq_true rfl) hz (fun H1 cA e1 z1 o1 _ hNm => ?_)
  obtain rfl : cA = dC 6 := Option.some.inj (hNm.symm.trans (hK.name 6 (by decide)))
  have hJ := hJ.push (c := 6) (N := 200) hz o1 (by decide) (by decide) (show iat dC dI (s.heap.size + 21) 6 200 (fun _ => 0) H1 from e1)
  have ho : oat dC dI h0 5 [.ref (s.heap.size + 0), .int 0, .int 0, .int 0, .int 0, .int 3, .int 20, .int 0, .int 0, .int 0, .int 0, .ref (s.heap.size + 1), .ref (s.heap.size + 2), .ref (s.heap.size + 3), .ref (s.heap.size + 4), .ref (s.heap.size + 5), .ref (s.heap.size + 6), .ref (s.heap.size + 7), .ref (s.heap.size + 8), .ref (s.heap.size + 9), .ref (s.heap.size + 10), .ref (s.heap.size + 11), .ref (s.heap.size + 12), .ref (s.heap.size + 13), .ref (s.heap.size + 14), .ref (s.heap.size + 15), .ref (s.heap.size + 16), .ref (s.heap.size + 17), .ref (s.heap.size + 18), .ref (s.heap.size + 19), .ref (s.heap.size + 20), .null, .null, .null, .null, .null, .null, .null, .null, .null, .null, .null, .int 0] H1 := va_at.kept ho (o1 h0 (by omega))
  have hS : va_S (fun y => y = h0) s.heap H1 _ := ⟨by omega, fun x9 h8 h9 => (o1 x9 (by omega)).trans (hS.2.1 x9 h8 h9), hS.2.2⟩
  have hz : H1.size = s.heap.size + 22 := z1
  clear e1 z1 o1 hNm
  refine W.eq (g2 := F0 m 193 ls [.ref (s.heap.size + 21), .ref h0]) rfl ?_
  refine va_putF (D := (dC, dI)) (ws := [(h0, .inr (5, [.ref (s.heap.size + 0), .int 0, .int 0, .int 0, .int 0, .int 3, .int 20, .int 0, .int 0, .int 0, .int 0, .ref (s.heap.size + 1), .ref (s.heap.size + 2), .ref (s.heap.size + 3), .ref (s.heap.size + 4), .ref (s.heap.size + 5), .ref (s.heap.size + 6), .ref (s.heap.size + 7), .ref (s.heap.size + 8), .ref (s.heap.size + 9), .ref (s.heap.size + 10), .ref (s.heap.size + 11), .ref (s.heap.size + 12), .ref (s.heap.size + 13), .ref (s.heap.size + 14), .ref (s.heap.size + 15), .ref (s.heap.size + 16), .ref (s.heap.size + 17), .ref (s.heap.size + 18), .ref (s.heap.size + 19), .ref (s.heap.size + 20), .null, .null, .null, .null, .null, .null, .null, .null, .null, .null, .null, .int 0]))]) (A := fun y => y = h0) (H0 := _) (ci := 5) (v := .ref (s.heap.size + 21)) (ty := .array .int) (C := RX4) (T := TX4) (N := 43) hx hb hts inX4 tyX4 tyX4_ok nmX4 hown hK (va_P1 ho) (va_D1 rfl) ⟨Nat.le_refl _, fun _ _ _ => rfl, hS.2.2⟩ 0 rfl rfl 31 (by decide) (hts _ iw_677) (fun _ h9 => h9) rfl hin rfl (by decide +kernel) rfl rfl (Nat.le_of_ble_eq_true rfl) dX4_init_193 (fun H2 locs hP _ hS2 => ?_)
  refine W.learn (fun _ lr2 _ => ?_)
  have ho : oat dC dI h0 5 [.ref (s.heap.size + 0), .int 0, .int 0, .int 0, .int 0, .int 3, .int 20, .int 0, .int 0, .int 0, .int 0, .ref (s.heap.size + 1), .ref (s.heap.size + 2), .ref (s.heap.size + 3), .ref (s.heap.size + 4), .ref (s.heap.size + 5), .ref (s.heap.size + 6), .ref (s.heap.size + 7), .ref (s.heap.size + 8), .ref (s.heap.size + 9), .ref (s.heap.size + 10), .ref (s.heap.size + 11), .ref (s.heap.size + 12), .ref (s.heap.size + 13), .ref (s.heap.size + 14), .ref (s.heap.size + 15), .ref (s.heap.size + 16), .ref (s.heap.size + 17), .ref (s.heap.size + 18), .ref (s.heap.size + 19), .ref (s.heap.size + 20), .ref (s.heap.size + 21), .null, .null, .null, .null, .null, .null, .null, .null, .null, .null, .int 0] H2 := hP 0 _ rfl
  have hJ := hJ.keep hz h00 (fun y9 h8 h9 => hS2.2.1 y9 h8 h9)
  have hS : va_S (fun y => y = h0) s.heap H2 locs := ⟨Nat.le_trans hS.1 hS2.1, fun x9 h8 h9 => (hS2.2.1 x9 (Nat.lt_of_lt_of_le h8 hS.1) h9).trans (hS.2.1 x9 h8 h9), hS2.2.2⟩
  have hz : H2.size = s.heap.size + 22 := by have h9 := hS2.1; omega
  clear hP hS2 lr2
  refine lv_aload_n hx hb dX4_init_196 rfl (lv_at hl 0 rfl) ?_
  refine lv_sipush (v := 200) hx hb dX4_init_197 (by decide) ?_
  refine va_newaK hx hb (hts _ iw_145) rfl dX4_init_200 rfl pz_n200 pz_c200 (by decide +kernel) (Nat.le_of_ble_eq_true rfl) (Nat.le_of_ble_eq_true rfl) hz (fun H1 cA e1 z1 o1 _ hNm => ?_)
  obtain rfl : cA = dC 6 := Option.some.inj (hNm.symm.trans (hK.name 6 (by decide)))
  have hJ := hJ.push (c := 6) (N := 200) hz o1 (by decide) (by decide) (show iat dC dI (s.heap.size + 22) 6 200 (fun _ => 0) H1 from e1)
  have ho : oat dC dI h0 5 [.ref (s.heap.size + 0), .int 0, .int 0, .int 0, .int 0, .int 3, .int 20, .int 0, .int 0, .int 0, .int 0, .ref (s.heap.size + 1), .ref (s.heap.size + 2), .ref (s.heap.size + 3), .ref (s.heap.size + 4), .ref (s.heap.size + 5), .ref (s.heap.size + 6), .ref (s.heap.size + 7), .ref (s.heap.size + 8), .ref (s.heap.size + 9), .ref (s.heap.size + 10), .ref (s.heap.size + 11), .ref (s.heap.size + 12), .ref (s.heap.size + 13), .ref (s.heap.size + 14), .ref (s.heap.size + 15), .ref (s.heap.size + 16), .ref (s.heap.size + 17), .ref (s.heap.size + 18), .ref (s.heap.size + 19), .ref (s.heap.size + 20), .ref (s.heap.size + 21), .null, .null, .null, .null, .null, .null, .null, .null, .null, .null, .int 0] H1 := va_at.kept ho (o1 h0 (by omega))
  have hS : va_S (fun y => y = h0) s.heap H1 _ := ⟨by omega, fun x9 h8 h9 => (o1 x9 (by omega)).trans (hS.2.1 x9 h8 h9), hS.2.2⟩
  have hz : H1.size = s.heap.size + 23 := z1
  clear e1 z1 o1 hNm
  refine W.eq (g2 := F0 m 202 ls [.ref (s.heap.size + 22), .ref h0]) rfl ?_
  refine va_putF (D := (dC, dI)) (ws := [(h0, .inr (5, [.ref (s.heap.size + 0), .int 0, .int 0, .int 0, .int 0, .int 3, .int 20, .int 0, .int 0, .int 0, .int 0, .ref (s.heap.size + 1), .ref (s.heap.size + 2), .ref (s.heap.size + 3), .ref (s.heap.size + 4), .ref (s.heap.size + 5), .ref (s.heap.size + 6), .ref (s.heap.size + 7), .ref (s.heap.size + 8), .ref (s.heap.size + 9), .ref (s.heap.size + 10), .ref (s.heap.size + 11), .ref (s.heap.size + 12), .ref (s.heap.size + 13), .ref (s.heap.size + 14), .ref (s.heap.size + 15), .ref (s.heap.size + 16), .ref (s.heap.size + 17), .ref (s.heap.size + 18), .ref (s.heap.size + 19), .ref (s.heap.size + 20), .ref (s.heap.size + 21), .null, .null, .null, .null, .null, .null, .null, .null, .null, .null, .int 0]))]) (A := fun y => y = h0) (H0 := _) (ci := 5) (v := .ref (s.heap.size + 22)) (ty := .array .int) (C := RX4) (T := TX4) (N := 43) hx hb hts inX4 tyX4 tyX4_ok nmX4 hown hK (va_P1 ho) (va_D1 rfl) ⟨Nat.le_refl _, fun _ _ _ => rfl, hS.2.2⟩ 0 rfl rfl 32 (by decide) (hts _ iw_678) (fun _ h9 => h9) rfl hin rfl (by decide +kernel) rfl rfl (Nat.le_of_ble_eq_true rfl) dX4_init_202 (fun H2 locs hP _ hS2 => ?_)
  refine W.learn (fun _ lr2 _ => ?_)
  have ho : oat dC dI h0 5 [.ref (s.heap.size + 0), .int 0, .int 0, .int 0, .int 0, .int 3, .int 20, .int 0, .int 0, .int 0, .int 0, .ref (s.heap.size + 1), .ref (s.heap.size + 2), .ref (s.heap.size + 3), .ref (s.heap.size + 4), .ref (s.heap.size + 5), .ref (s.heap.size + 6), .ref (s.heap.size + 7), .ref (s.heap.size + 8), .ref (s.heap.size + 9), .ref (s.heap.size + 10), .ref (s.heap.size + 11), .ref (s.heap.size + 12), .ref (s.heap.size + 13), .ref (s.heap.size + 14), .ref (s.heap.size + 15), .ref (s.heap.size + 16), .ref (s.heap.size + 17), .ref (s.heap.size + 18), .ref (s.heap.size + 19), .ref (s.heap.size + 20), .ref (s.heap.size + 21), .ref (s.heap.size + 22), .null, .null, .null, .null, .null, .null, .null, .null, .null, .int 0] H2 := hP 0 _ rfl
  have hJ := hJ.keep hz h00 (fun y9 h8 h9 => hS2.2.1 y9 h8 h9)
  have hS : va_S (fun y => y = h0) s.heap H2 locs := ⟨Nat.le_trans hS.1 hS2.1, fun x9 h8 h9 => (hS2.2.1 x9 (Nat.lt_of_lt_of_le h8 hS.1) h9).trans (hS.2.1 x9 h8 h9), hS2.2.2⟩
  have hz : H2.size = s.heap.size + 23 := by have h9 := hS2.1; omega
  clear hP hS2 lr2
  refine lv_aload_n hx hb dX4_init_205 rfl (lv_at hl 0 rfl) ?_
  refine lv_sipush (v := 200) hx hb dX4_init_206 (by decide) ?_
  refine va_newaK hx hb (hts _ iw_145) rfl dX4_init_209 rfl pz_n200 pz_c200 (by decide +kernel) (Nat.le_of_ble_eq_true rfl) (Nat.le_of_ble_eq_true rfl) hz (fun H1 cA e1 z1 o1 _ hNm => ?_)
  obtain rfl : cA = dC 6 := Option.some.inj (hNm.symm.trans (hK.name 6 (by decide)))
  have hJ := hJ.push (c := 6) (N := 200) hz o1 (by decide) (by decide) (show iat dC dI (s.heap.size + 23) 6 200 (fun _ => 0) H1 from e1)
  have ho : oat dC dI h0 5 [.ref (s.heap.size + 0), .int 0, .int 0, .int 0, .int 0, .int 3, .int 20, .int 0, .int 0, .int 0, .int 0, .ref (s.heap.size + 1), .ref (s.heap.size + 2), .ref (s.heap.size + 3), .ref (s.heap.size + 4), .ref (s.heap.size + 5), .ref (s.heap.size + 6), .ref (s.heap.size + 7), .ref (s.heap.size + 8), .ref (s.heap.size + 9), .ref (s.heap.size + 10), .ref (s.heap.size + 11), .ref (s.heap.size + 12), .ref (s.heap.size + 13), .ref (s.heap.size + 14), .ref (s.heap.size + 15), .ref (s.heap.size + 16), .ref (s.heap.size + 17), .ref (s.heap.size + 18), .ref (s.heap.size + 19), .ref (s.heap.size + 20), .ref (s.heap.size + 21), .ref (s.heap.size + 22), .null, .null, .null, .null, .null, .null, .null, .null, .null, .int 0] H1 := va_at.kept ho (o1 h0 (by omega))
  have hS : va_S (fun y => y = h0) s.heap H1 _ := ⟨by omega, fun x9 h8 h9 => (o1 x9 (by omega)).trans (hS.2.1 x9 h8 h9), hS.2.2⟩
  have hz : H1.size = s.heap.size + 24 := z1
  clear e1 z1 o1 hNm
  refine W.eq (g2 := F0 m 211 ls [.ref (s.heap.size + 23), .ref h0]) rfl ?_
  refine va_putF (D := (dC, dI)) (ws := [(h0, .inr (5, [.ref (s.heap.size + 0), .int 0, .int 0, .int 0, .int 0, .int 3, .int 20, .int 0, .int 0, .int 0, .int 0, .ref (s.heap.size + 1), .ref (s.heap.size + 2), .ref (s.heap.size + 3), .ref (s.heap.size + 4), .ref (s.heap.size + 5), .ref (s.heap.size + 6), .ref (s.heap.size + 7), .ref (s.heap.size + 8), .ref (s.heap.size + 9), .ref (s.heap.size + 10), .ref (s.heap.size + 11), .ref (s.heap.size + 12), .ref (s.heap.size + 13), .ref (s.heap.size + 14), .ref (s.heap.size + 15), .ref (s.heap.size + 16), .ref (s.heap.size + 17), .ref (s.heap.size + 18), .ref (s.heap.size + 19), .ref (s.heap.size + 20), .ref (s.heap.size + 21), .ref (s.heap.size + 22), .null, .null, .null, .null, .null, .null, .null, .null, .null, .int 0]))]) (A := fun y => y = h0) (H0 := _) (ci := 5) (v := .ref (s.heap.size + 23)) (ty := .array .int) (C := RX4) (T := TX4) (N := 43) hx hb hts inX4 tyX4 tyX4_ok nmX4 hown hK (va_P1 ho) (va_D1 rfl) ⟨Nat.le_refl _, fun _ _ _ => rfl, hS.2.2⟩ 0 rfl rfl 33 (by decide) (hts _ iw_679) (fun _ h9 => h9) rfl hin rfl (by decide +kernel) rfl rfl (Nat.le_of_ble_eq_true rfl) dX4_init_211 (fun H2 locs hP _ hS2 => ?_)
  refine W.learn (fun _ lr2 _ => ?_)
  have ho : oat dC dI h0 5 [.ref (s.heap.size + 0), .int 0, .int 0, .int 0, .int 0, .int 3, .int 20, .int 0, .int 0, .int 0, .int 0, .ref (s.heap.size + 1), .ref (s.heap.size + 2), .ref (s.heap.size + 3), .ref (s.heap.size + 4), .ref (s.heap.size + 5), .ref (s.heap.size + 6), .ref (s.heap.size + 7), .ref (s.heap.size + 8), .ref (s.heap.size + 9), .ref (s.heap.size + 10), .ref (s.heap.size + 11), .ref (s.heap.size + 12), .ref (s.heap.size + 13), .ref (s.heap.size + 14), .ref (s.heap.size + 15), .ref (s.heap.size + 16), .ref (s.heap.size + 17), .ref (s.heap.size + 18), .ref (s.heap.size + 19), .ref (s.heap.size + 20), .ref (s.heap.size + 21), .ref (s.heap.size + 22), .ref (s.heap.size + 23), .null, .null, .null, .null, .null, .null, .null, .null, .int 0] H2 := hP 0 _ rfl
  have hJ := hJ.keep hz h00 (fun y9 h8 h9 => hS2.2.1 y9 h8 h9)
  have hS : va_S (fun y => y = h0) s.heap H2 locs := ⟨Nat.le_trans hS.1 hS2.1, fun x9 h8 h9 => (hS2.2.1 x9 (Nat.lt_of_lt_of_le h8 hS.1) h9).trans (hS.2.1 x9 h8 h9), hS2.2.2⟩
  have hz : H2.size = s.heap.size + 24 := by have h9 := hS2.1; omega
  clear hP hS2 lr2
  refine lv_aload_n hx hb dX4_init_214 rfl (lv_at hl 0 rfl) ?_
  refine lv_sipush (v := 200) hx hb dX4_init_215 (by decide) ?_
  refine va_newaK hx hb (hts _ iw_145) rfl dX4_init_218 rfl pz_n200 pz_c200 (by decide +kernel) (Nat.le_of_ble_eq_true rfl) (Nat.le_of_ble_eq_true rfl) hz (fun H1 cA e1 z1 o1 _ hNm => ?_)
  obtain rfl : cA = dC 6 := Option.some.inj (hNm.symm.trans (hK.name 6 (by decide)))
  have hJ := hJ.push (c := 6) (N := 200) hz o1 (by decide) (by decide) (show iat dC dI (s.heap.size + 24) 6 200 (fun _ => 0) H1 from e1)
  have ho : oat dC dI h0 5 [.ref (s.heap.size + 0), .int 0, .int 0, .int 0, .int 0, .int 3, .int 20, .int 0, .int 0, .int 0, .int 0, .ref (s.heap.size + 1), .ref (s.heap.size + 2), .ref (s.heap.size + 3), .ref (s.heap.size + 4), .ref (s.heap.size + 5), .ref (s.heap.size + 6), .ref (s.heap.size + 7), .ref (s.heap.size + 8), .ref (s.heap.size + 9), .ref (s.heap.size + 10), .ref (s.heap.size + 11), .ref (s.heap.size + 12), .ref (s.heap.size + 13), .ref (s.heap.size + 14), .ref (s.heap.size + 15), .ref (s.heap.size + 16), .ref (s.heap.size + 17), .ref (s.heap.size + 18), .ref (s.heap.size + 19), .ref (s.heap.size + 20), .ref (s.heap.size + 21), .ref (s.heap.size + 22), .ref (s.heap.size + 23), .null, .null, .null, .null, .null, .null, .null, .null, .int 0] H1 := va_at.kept ho (o1 h0 (by omega))
  have hS : va_S (fun y => y = h0) s.heap H1 _ := ⟨by omega, fun x9 h8 h9 => (o1 x9 (by omega)).trans (hS.2.1 x9 h8 h9), hS.2.2⟩
  have hz : H1.size = s.heap.size + 25 := z1
  clear e1 z1 o1 hNm
  refine W.eq (g2 := F0 m 220 ls [.ref (s.heap.size + 24), .ref h0]) rfl ?_
  refine va_putF (D := (dC, dI)) (ws := [(h0, .inr (5, [.ref (s.heap.size + 0), .int 0, .int 0, .int 0, .int 0, .int 3, .int 20, .int 0, .int 0, .int 0, .int 0, .ref (s.heap.size + 1), .ref (s.heap.size + 2), .ref (s.heap.size + 3), .ref (s.heap.size + 4), .ref (s.heap.size + 5), .ref (s.heap.size + 6), .ref (s.heap.size + 7), .ref (s.heap.size + 8), .ref (s.heap.size + 9), .ref (s.heap.size + 10), .ref (s.heap.size + 11), .ref (s.heap.size + 12), .ref (s.heap.size + 13), .ref (s.heap.size + 14), .ref (s.heap.size + 15), .ref (s.heap.size + 16), .ref (s.heap.size + 17), .ref (s.heap.size + 18), .ref (s.heap.size + 19), .ref (s.heap.size + 20), .ref (s.heap.size + 21), .ref (s.heap.size + 22), .ref (s.heap.size + 23), .null, .null, .null, .null, .null, .null, .null, .null, .int 0]))]) (A := fun y => y = h0) (H0 := _) (ci := 5) (v := .ref (s.heap.size + 24)) (ty := .array .int) (C := RX4) (T := TX4) (N := 43) hx hb hts inX4 tyX4 tyX4_ok nmX4 hown hK (va_P1 ho) (va_D1 rfl) ⟨Nat.le_refl _, fun _ _ _ => rfl, hS.2.2⟩ 0 rfl rfl 34 (by decide) (hts _ iw_680) (fun _ h9 => h9) rfl hin rfl (by decide +kernel) rfl rfl (Nat.le_of_ble_eq_true rfl) dX4_init_220 (fun H2 locs hP _ hS2 => ?_)
  refine W.learn (fun _ lr2 _ => ?_)
  have ho : oat dC dI h0 5 [.ref (s.heap.size + 0), .int 0, .int 0, .int 0, .int 0, .int 3, .int 20, .int 0, .int 0, .int 0, .int 0, .ref (s.heap.size + 1), .ref (s.heap.size + 2), .ref (s.heap.size + 3), .ref (s.heap.size + 4), .ref (s.heap.size + 5), .ref (s.heap.size + 6), .ref (s.heap.size + 7), .ref (s.heap.size + 8), .ref (s.heap.size + 9), .ref (s.heap.size + 10), .ref (s.heap.size + 11), .ref (s.heap.size + 12), .ref (s.heap.size + 13), .ref (s.heap.size + 14), .ref (s.heap.size + 15), .ref (s.heap.size + 16), .ref (s.heap.size + 17), .ref (s.heap.size + 18), .ref (s.heap.size + 19), .ref (s.heap.size + 20), .ref (s.heap.size + 21), .ref (s.heap.size + 22), .ref (s.heap.size + 23), .ref (s.heap.size + 24), .null, .null, .null, .null, .null, .null, .null, .int 0] H2 := hP 0 _ rfl
  have hJ := hJ.keep hz h00 (fun y9 h8 h9 => hS2.2.1 y9 h8 h9)
  have hS : va_S (fun y => y = h0) s.heap H2 locs := ⟨Nat.le_trans hS.1 hS2.1, fun x9 h8 h9 => (hS2.2.1 x9 (Nat.lt_of_lt_of_le h8 hS.1) h9).trans (hS.2.1 x9 h8 h9), hS2.2.2⟩
  have hz : H2.size = s.heap.size + 25 := by have h9 := hS2.1; omega
  clear hP hS2 lr2
  refine lv_aload_n hx hb dX4_init_223 rfl (lv_at hl 0 rfl) ?_
  refine lv_sipush (v := 200) hx hb dX4_init_224 (by decide) ?_
  refine va_newaK hx hb (hts _ iw_145) rfl dX4_init_227 rfl pz_n200 pz_c200 (by decide +kernel) (Nat.le_of_ble_eq_true rfl) (Nat.le_of_ble_eq_true rfl) hz (fun H1 cA e1 z1 o1 _ hNm => ?_)
  obtain rfl : cA = dC 6 := Option.some.inj (hNm.symm.trans (hK.name 6 (by decide)))
  have hJ := hJ.push (c := 6) (N := 200) hz o1 (by decide) (by decide) (show iat dC dI (s.heap.size + 25) 6 200 (fun _ => 0) H1 from e1)
  have ho : oat dC dI h0 5 [.ref (s.heap.size + 0), .int 0, .int 0, .int 0, .int 0, .int 3, .int 20, .int 0, .int 0, .int 0, .int 0, .ref (s.heap.size + 1), .ref (s.heap.size + 2), .ref (s.heap.size + 3), .ref (s.heap.size + 4), .ref (s.heap.size + 5), .ref (s.heap.size + 6), .ref (s.heap.size + 7), .ref (s.heap.size + 8), .ref (s.heap.size + 9), .ref (s.heap.size + 10), .ref (s.heap.size + 11), .ref (s.heap.size + 12), .ref (s.heap.size + 13), .ref (s.heap.size + 14), .ref (s.heap.size + 15), .ref (s.heap.size + 16), .ref (s.heap.size + 17), .ref (s.heap.size + 18), .ref (s.heap.size + 19), .ref (s.heap.size + 20), .ref (s.heap.size + 21), .ref (s.heap.size + 22), .ref (s.heap.size + 23), .ref (s.heap.size + 24), .null, .null, .null, .null, .null, .null, .null, .int 0] H1 := va_at.kept ho (o1 h0 (by omega))
  have hS : va_S (fun y => y = h0) s.heap H1 _ := ⟨by omega, fun x9 h8 h9 => (o1 x9 (by omega)).trans (hS.2.1 x9 h8 h9), hS.2.2⟩
  have hz : H1.size = s.heap.size + 26 := z1
  clear e1 z1 o1 hNm
  refine W.eq (g2 := F0 m 229 ls [.ref (s.heap.size + 25), .ref h0]) rfl ?_
  refine va_putF (D := (dC, dI)) (ws := [(h0, .inr (5, [.ref (s.heap.size + 0), .int 0, .int 0, .int 0, .int 0, .int 3, .int 20, .int 0, .int 0, .int 0, .int 0, .ref (s.heap.size + 1), .ref (s.heap.size + 2), .ref (s.heap.size + 3), .ref (s.heap.size + 4), .ref (s.heap.size + 5), .ref (s.heap.size + 6), .ref (s.heap.size + 7), .ref (s.heap.size + 8), .ref (s.heap.size + 9), .ref (s.heap.size + 10), .ref (s.heap.size + 11), .ref (s.heap.size + 12), .ref (s.heap.size + 13), .ref (s.heap.size + 14), .ref (s.heap.size + 15), .ref (s.heap.size + 16), .ref (s.heap.size + 17), .ref (s.heap.size + 18), .ref (s.heap.size + 19), .ref (s.heap.size + 20), .ref (s.heap.size + 21), .ref (s.heap.size + 22), .ref (s.heap.size + 23), .ref (s.heap.size + 24), .null, .null, .null, .null, .null, .null, .null, .int 0]))]) (A := fun y => y = h0) (H0 := _) (ci := 5) (v := .ref (s.heap.size + 25)) (ty := .array .int) (C := RX4) (T := TX4) (N := 43) hx hb hts inX4 tyX4 tyX4_ok nmX4 hown hK (va_P1 ho) (va_D1 rfl) ⟨Nat.le_refl _, fun _ _ _ => rfl, hS.2.2⟩ 0 rfl rfl 35 (by decide) (hts _ iw_681) (fun _ h9 => h9) rfl hin rfl (by decide +kernel) rfl rfl (Nat.le_of_ble_eq_true rfl) dX4_init_229 (fun H2 locs hP _ hS2 => ?_)
  refine W.learn (fun _ lr2 _ => ?_)
  have ho : oat dC dI h0 5 [.ref (s.heap.size + 0), .int 0, .int 0, .int 0, .int 0, .int 3, .int 20, .int 0, .int 0, .int 0, .int 0, .ref (s.heap.size + 1), .ref (s.heap.size + 2), .ref (s.heap.size + 3), .ref (s.heap.size + 4), .ref (s.heap.size + 5), .ref (s.heap.size + 6), .ref (s.heap.size + 7), .ref (s.heap.size + 8), .ref (s.heap.size + 9), .ref (s.heap.size + 10), .ref (s.heap.size + 11), .ref (s.heap.size + 12), .ref (s.heap.size + 13), .ref (s.heap.size + 14), .ref (s.heap.size + 15), .ref (s.heap.size + 16), .ref (s.heap.size + 17), .ref (s.heap.size + 18), .ref (s.heap.size + 19), .ref (s.heap.size + 20), .ref (s.heap.size + 21), .ref (s.heap.size + 22), .ref (s.heap.size + 23), .ref (s.heap.size + 24), .ref (s.heap.size + 25), .null, .null, .null, .null, .null, .null, .int 0] H2 := hP 0 _ rfl
  have hJ := hJ.keep hz h00 (fun y9 h8 h9 => hS2.2.1 y9 h8 h9)
  have hS : va_S (fun y => y = h0) s.heap H2 locs := ⟨Nat.le_trans hS.1 hS2.1, fun x9 h8 h9 => (hS2.2.1 x9 (Nat.lt_of_lt_of_le h8 hS.1) h9).trans (hS.2.1 x9 h8 h9), hS2.2.2⟩
  have hz : H2.size = s.heap.size + 26 := by have h9 := hS2.1; omega
  clear hP hS2 lr2
  refine lv_aload_n hx hb dX4_init_232 rfl (lv_at hl 0 rfl) ?_
  refine lv_sipush (v := 200) hx hb dX4_init_233 (by decide) ?_
  refine va_newaK hx hb (hts _ iw_776) rfl dX4_init_236 rfl pz_n200 pz_c200 (by decide +kernel) (Nat.le_of_ble_eq_true rfl) (Nat.le_of_ble_eq_true rfl) hz (fun H1 cA e1 z1 o1 _ hNm => ?_)
  obtain rfl : cA = dC 7 := Option.some.inj (hNm.symm.trans (hK.name 7 (by decide)))
  have hJ := hJ.push (c := 7) (N := 200) hz o1 (by decide) (by decide) (show iat dC dI (s.heap.size + 26) 7 200 (fun _ => 0) H1 from e1)
  have ho : oat dC dI h0 5 [.ref (s.heap.size + 0), .int 0, .int 0, .int 0, .int 0, .int 3, .int 20, .int 0, .int 0, .int 0, .int 0, .ref (s.heap.size + 1), .ref (s.heap.size + 2), .ref (s.heap.size + 3), .ref (s.heap.size + 4), .ref (s.heap.size + 5), .ref (s.heap.size + 6), .ref (s.heap.size + 7), .ref (s.heap.size + 8), .ref (s.heap.size + 9), .ref (s.heap.size + 10), .ref (s.heap.size + 11), .ref (s.heap.size + 12), .ref (s.heap.size + 13), .ref (s.heap.size + 14), .ref (s.heap.size + 15), .ref (s.heap.size + 16), .ref (s.heap.size + 17), .ref (s.heap.size + 18), .ref (s.heap.size + 19), .ref (s.heap.size + 20), .ref (s.heap.size + 21), .ref (s.heap.size + 22), .ref (s.heap.size + 23), .ref (s.heap.size + 24), .ref (s.heap.size + 25), .null, .null, .null, .null, .null, .null, .int 0] H1 := va_at.kept ho (o1 h0 (by omega))
  have hS : va_S (fun y => y = h0) s.heap H1 _ := ⟨by omega, fun x9 h8 h9 => (o1 x9 (by omega)).trans (hS.2.1 x9 h8 h9), hS.2.2⟩
  have hz : H1.size = s.heap.size + 27 := z1
  clear e1 z1 o1 hNm
  refine W.eq (g2 := F0 m 238 ls [.ref (s.heap.size + 26), .ref h0]) rfl ?_
  refine va_putF (D := (dC, dI)) (ws := [(h0, .inr (5, [.ref (s.heap.size + 0), .int 0, .int 0, .int 0, .int 0, .int 3, .int 20, .int 0, .int 0, .int 0, .int 0, .ref (s.heap.size + 1), .ref (s.heap.size + 2), .ref (s.heap.size + 3), .ref (s.heap.size + 4), .ref (s.heap.size + 5), .ref (s.heap.size + 6), .ref (s.heap.size + 7), .ref (s.heap.size + 8), .ref (s.heap.size + 9), .ref (s.heap.size + 10), .ref (s.heap.size + 11), .ref (s.heap.size + 12), .ref (s.heap.size + 13), .ref (s.heap.size + 14), .ref (s.heap.size + 15), .ref (s.heap.size + 16), .ref (s.heap.size + 17), .ref (s.heap.size + 18), .ref (s.heap.size + 19), .ref (s.heap.size + 20), .ref (s.heap.size + 21), .ref (s.heap.size + 22), .ref (s.heap.size + 23), .ref (s.heap.size + 24), .ref (s.heap.size + 25), .null, .null, .null, .null, .null, .null, .int 0]))]) (A := fun y => y = h0) (H0 := _) (ci := 5) (v := .ref (s.heap.size + 26)) (ty := .array .boolean) (C := RX4) (T := TX4) (N := 43) hx hb hts inX4 tyX4 tyX4_ok nmX4 hown hK (va_P1 ho) (va_D1 rfl) ⟨Nat.le_refl _, fun _ _ _ => rfl, hS.2.2⟩ 0 rfl rfl 36 (by decide) (hts _ iw_682) (fun _ h9 => h9) rfl hin rfl (by decide +kernel) rfl rfl (Nat.le_of_ble_eq_true rfl) dX4_init_238 (fun H2 locs hP _ hS2 => ?_)
  refine W.learn (fun _ lr2 _ => ?_)
  have ho : oat dC dI h0 5 [.ref (s.heap.size + 0), .int 0, .int 0, .int 0, .int 0, .int 3, .int 20, .int 0, .int 0, .int 0, .int 0, .ref (s.heap.size + 1), .ref (s.heap.size + 2), .ref (s.heap.size + 3), .ref (s.heap.size + 4), .ref (s.heap.size + 5), .ref (s.heap.size + 6), .ref (s.heap.size + 7), .ref (s.heap.size + 8), .ref (s.heap.size + 9), .ref (s.heap.size + 10), .ref (s.heap.size + 11), .ref (s.heap.size + 12), .ref (s.heap.size + 13), .ref (s.heap.size + 14), .ref (s.heap.size + 15), .ref (s.heap.size + 16), .ref (s.heap.size + 17), .ref (s.heap.size + 18), .ref (s.heap.size + 19), .ref (s.heap.size + 20), .ref (s.heap.size + 21), .ref (s.heap.size + 22), .ref (s.heap.size + 23), .ref (s.heap.size + 24), .ref (s.heap.size + 25), .ref (s.heap.size + 26), .null, .null, .null, .null, .null, .int 0] H2 := hP 0 _ rfl
  have hJ := hJ.keep hz h00 (fun y9 h8 h9 => hS2.2.1 y9 h8 h9)
  have hS : va_S (fun y => y = h0) s.heap H2 locs := ⟨Nat.le_trans hS.1 hS2.1, fun x9 h8 h9 => (hS2.2.1 x9 (Nat.lt_of_lt_of_le h8 hS.1) h9).trans (hS.2.1 x9 h8 h9), hS2.2.2⟩
  have hz : H2.size = s.heap.size + 27 := by have h9 := hS2.1; omega
  clear hP hS2 lr2
  refine lv_aload_n hx hb dX4_init_241 rfl (lv_at hl 0 rfl) ?_
  refine lv_sipush (v := 400) hx hb dX4_init_242 (by decide) ?_
  refine va_newaK hx hb (hts _ iw_145) rfl dX4_init_245 rfl pz_n400 pz_c400 (by decide +kernel) (Nat.le_of_ble_eq_true rfl) (Nat.le_of_ble_eq_true rfl) hz (fun H1 cA e1 z1 o1 _ hNm => ?_)
  obtain rfl : cA = dC 6 := Option.some.inj (hNm.symm.trans (hK.name 6 (by decide)))
  have hJ := hJ.push (c := 6) (N := 400) hz o1 (by decide) (by decide) (show iat dC dI (s.heap.size + 27) 6 400 (fun _ => 0) H1 from e1)
  have ho : oat dC dI h0 5 [.ref (s.heap.size + 0), .int 0, .int 0, .int 0, .int 0, .int 3, .int 20, .int 0, .int 0, .int 0, .int 0, .ref (s.heap.size + 1), .ref (s.heap.size + 2), .ref (s.heap.size + 3), .ref (s.heap.size + 4), .ref (s.heap.size + 5), .ref (s.heap.size + 6), .ref (s.heap.size + 7), .ref (s.heap.size + 8), .ref (s.heap.size + 9), .ref (s.heap.size + 10), .ref (s.heap.size + 11), .ref (s.heap.size + 12), .ref (s.heap.size + 13), .ref (s.heap.size + 14), .ref (s.heap.size + 15), .ref (s.heap.size + 16), .ref (s.heap.size + 17), .ref (s.heap.size + 18), .ref (s.heap.size + 19), .ref (s.heap.size + 20), .ref (s.heap.size + 21), .ref (s.heap.size + 22), .ref (s.heap.size + 23), .ref (s.heap.size + 24), .ref (s.heap.size + 25), .ref (s.heap.size + 26), .null, .null, .null, .null, .null, .int 0] H1 := va_at.kept ho (o1 h0 (by omega))
  have hS : va_S (fun y => y = h0) s.heap H1 _ := ⟨by omega, fun x9 h8 h9 => (o1 x9 (by omega)).trans (hS.2.1 x9 h8 h9), hS.2.2⟩
  have hz : H1.size = s.heap.size + 28 := z1
  clear e1 z1 o1 hNm
  refine W.eq (g2 := F0 m 247 ls [.ref (s.heap.size + 27), .ref h0]) rfl ?_
  refine va_putF (D := (dC, dI)) (ws := [(h0, .inr (5, [.ref (s.heap.size + 0), .int 0, .int 0, .int 0, .int 0, .int 3, .int 20, .int 0, .int 0, .int 0, .int 0, .ref (s.heap.size + 1), .ref (s.heap.size + 2), .ref (s.heap.size + 3), .ref (s.heap.size + 4), .ref (s.heap.size + 5), .ref (s.heap.size + 6), .ref (s.heap.size + 7), .ref (s.heap.size + 8), .ref (s.heap.size + 9), .ref (s.heap.size + 10), .ref (s.heap.size + 11), .ref (s.heap.size + 12), .ref (s.heap.size + 13), .ref (s.heap.size + 14), .ref (s.heap.size + 15), .ref (s.heap.size + 16), .ref (s.heap.size + 17), .ref (s.heap.size + 18), .ref (s.heap.size + 19), .ref (s.heap.size + 20), .ref (s.heap.size + 21), .ref (s.heap.size + 22), .ref (s.heap.size + 23), .ref (s.heap.size + 24), .ref (s.heap.size + 25), .ref (s.heap.size + 26), .null, .null, .null, .null, .null, .int 0]))]) (A := fun y => y = h0) (H0 := _) (ci := 5) (v := .ref (s.heap.size + 27)) (ty := .array .int) (C := RX4) (T := TX4) (N := 43) hx hb hts inX4 tyX4 tyX4_ok nmX4 hown hK (va_P1 ho) (va_D1 rfl) ⟨Nat.le_refl _, fun _ _ _ => rfl, hS.2.2⟩ 0 rfl rfl 37 (by decide) (hts _ iw_683) (fun _ h9 => h9) rfl hin rfl (by decide +kernel) rfl rfl (Nat.le_of_ble_eq_true rfl) dX4_init_247 (fun H2 locs hP _ hS2 => ?_)
  refine W.learn (fun _ lr2 _ => ?_)
  have ho : oat dC dI h0 5 [.ref (s.heap.size + 0), .int 0, .int 0, .int 0, .int 0, .int 3, .int 20, .int 0, .int 0, .int 0, .int 0, .ref (s.heap.size + 1), .ref (s.heap.size + 2), .ref (s.heap.size + 3), .ref (s.heap.size + 4), .ref (s.heap.size + 5), .ref (s.heap.size + 6), .ref (s.heap.size + 7), .ref (s.heap.size + 8), .ref (s.heap.size + 9), .ref (s.heap.size + 10), .ref (s.heap.size + 11), .ref (s.heap.size + 12), .ref (s.heap.size + 13), .ref (s.heap.size + 14), .ref (s.heap.size + 15), .ref (s.heap.size + 16), .ref (s.heap.size + 17), .ref (s.heap.size + 18), .ref (s.heap.size + 19), .ref (s.heap.size + 20), .ref (s.heap.size + 21), .ref (s.heap.size + 22), .ref (s.heap.size + 23), .ref (s.heap.size + 24), .ref (s.heap.size + 25), .ref (s.heap.size + 26), .ref (s.heap.size + 27), .null, .null, .null, .null, .int 0] H2 := hP 0 _ rfl
  have hJ := hJ.keep hz h00 (fun y9 h8 h9 => hS2.2.1 y9 h8 h9)
  have hS : va_S (fun y => y = h0) s.heap H2 locs := ⟨Nat.le_trans hS.1 hS2.1, fun x9 h8 h9 => (hS2.2.1 x9 (Nat.lt_of_lt_of_le h8 hS.1) h9).trans (hS.2.1 x9 h8 h9), hS2.2.2⟩
  have hz : H2.size = s.heap.size + 28 := by have h9 := hS2.1; omega
  clear hP hS2 lr2
  refine lv_aload_n hx hb dX4_init_250 rfl (lv_at hl 0 rfl) ?_
  refine lv_sipush (v := 400) hx hb dX4_init_251 (by decide) ?_
  refine va_newaK hx hb (hts _ iw_145) rfl dX4_init_254 rfl pz_n400 pz_c400 (by decide +kernel) (Nat.le_of_ble_eq_true rfl) (Nat.le_of_ble_eq_true rfl) hz (fun H1 cA e1 z1 o1 _ hNm => ?_)
  obtain rfl : cA = dC 6 := Option.some.inj (hNm.symm.trans (hK.name 6 (by decide)))
  have hJ := hJ.push (c := 6) (N := 400) hz o1 (by decide) (by decide) (show iat dC dI (s.heap.size + 28) 6 400 (fun _ => 0) H1 from e1)
  have ho : oat dC dI h0 5 [.ref (s.heap.size + 0), .int 0, .int 0, .int 0, .int 0, .int 3, .int 20, .int 0, .int 0, .int 0, .int 0, .ref (s.heap.size + 1), .ref (s.heap.size + 2), .ref (s.heap.size + 3), .ref (s.heap.size + 4), .ref (s.heap.size + 5), .ref (s.heap.size + 6), .ref (s.heap.size + 7), .ref (s.heap.size + 8), .ref (s.heap.size + 9), .ref (s.heap.size + 10), .ref (s.heap.size + 11), .ref (s.heap.size + 12), .ref (s.heap.size + 13), .ref (s.heap.size + 14), .ref (s.heap.size + 15), .ref (s.heap.size + 16), .ref (s.heap.size + 17), .ref (s.heap.size + 18), .ref (s.heap.size + 19), .ref (s.heap.size + 20), .ref (s.heap.size + 21), .ref (s.heap.size + 22), .ref (s.heap.size + 23), .ref (s.heap.size + 24), .ref (s.heap.size + 25), .ref (s.heap.size + 26), .ref (s.heap.size + 27), .null, .null, .null, .null, .int 0] H1 := va_at.kept ho (o1 h0 (by omega))
  have hS : va_S (fun y => y = h0) s.heap H1 _ := ⟨by omega, fun x9 h8 h9 => (o1 x9 (by omega)).trans (hS.2.1 x9 h8 h9), hS.2.2⟩
  have hz : H1.size = s.heap.size + 29 := z1
  clear e1 z1 o1 hNm
  refine W.eq (g2 := F0 m 256 ls [.ref (s.heap.size + 28), .ref h0]) rfl ?_
  refine va_putF (D := (dC, dI)) (ws := [(h0, .inr (5, [.ref (s.heap.size + 0), .int 0, .int 0, .int 0, .int 0, .int 3, .int 20, .int 0, .int 0, .int 0, .int 0, .ref (s.heap.size + 1), .ref (s.heap.size + 2), .ref (s.heap.size + 3), .ref (s.heap.size + 4), .ref (s.heap.size + 5), .ref (s.heap.size + 6), .ref (s.heap.size + 7), .ref (s.heap.size + 8), .ref (s.heap.size + 9), .ref (s.heap.size + 10), .ref (s.heap.size + 11), .ref (s.heap.size + 12), .ref (s.heap.size + 13), .ref (s.heap.size + 14), .ref (s.heap.size + 15), .ref (s.heap.size + 16), .ref (s.heap.size + 17), .ref (s.heap.size + 18), .ref (s.heap.size + 19), .ref (s.heap.size + 20), .ref (s.heap.size + 21), .ref (s.heap.size + 22), .ref (s.heap.size + 23), .ref (s.heap.size + 24), .ref (s.heap.size + 25), .ref (s.heap.size + 26), .ref (s.heap.size + 27), .null, .null, .null, .null, .int 0]))]) (A := fun y => y = h0) (H0 := _) (ci := 5) (v := .ref (s.heap.size + 28)) (ty := .array .int) (C := RX4) (T := TX4) (N := 43) hx hb hts inX4 tyX4 tyX4_ok nmX4 hown hK (va_P1 ho) (va_D1 rfl) ⟨Nat.le_refl _, fun _ _ _ => rfl, hS.2.2⟩ 0 rfl rfl 38 (by decide) (hts _ iw_684) (fun _ h9 => h9) rfl hin rfl (by decide +kernel) rfl rfl (Nat.le_of_ble_eq_true rfl) dX4_init_256 (fun H2 locs hP _ hS2 => ?_)
  refine W.learn (fun _ lr2 _ => ?_)
  have ho : oat dC dI h0 5 [.ref (s.heap.size + 0), .int 0, .int 0, .int 0, .int 0, .int 3, .int 20, .int 0, .int 0, .int 0, .int 0, .ref (s.heap.size + 1), .ref (s.heap.size + 2), .ref (s.heap.size + 3), .ref (s.heap.size + 4), .ref (s.heap.size + 5), .ref (s.heap.size + 6), .ref (s.heap.size + 7), .ref (s.heap.size + 8), .ref (s.heap.size + 9), .ref (s.heap.size + 10), .ref (s.heap.size + 11), .ref (s.heap.size + 12), .ref (s.heap.size + 13), .ref (s.heap.size + 14), .ref (s.heap.size + 15), .ref (s.heap.size + 16), .ref (s.heap.size + 17), .ref (s.heap.size + 18), .ref (s.heap.size + 19), .ref (s.heap.size + 20), .ref (s.heap.size + 21), .ref (s.heap.size + 22), .ref (s.heap.size + 23), .ref (s.heap.size + 24), .ref (s.heap.size + 25), .ref (s.heap.size + 26), .ref (s.heap.size + 27), .ref (s.heap.size + 28), .null, .null, .null, .int 0] H2 := hP 0 _ rfl
  have hJ := hJ.keep hz h00 (fun y9 h8 h9 => hS2.2.1 y9 h8 h9)
  have hS : va_S (fun y => y = h0) s.heap H2 locs := ⟨Nat.le_trans hS.1 hS2.1, fun x9 h8 h9 => (hS2.2.1 x9 (Nat.lt_of_lt_of_le h8 hS.1) h9).trans (hS.2.1 x9 h8 h9), hS2.2.2⟩
  have hz : H2.size = s.heap.size + 29 := by have h9 := hS2.1; omega
  clear hP hS2 lr2
  refine lv_aload_n hx hb dX4_init_259 rfl (lv_at hl 0 rfl) ?_
  refine lv_sipush (v := 400) hx hb dX4_init_260 (by decide) ?_
  refine va_newaK hx hb (hts _ iw_145) rfl dX4_init_263 rfl pz_n400 pz_c400 (by decide +kernel) (Nat.le_of_ble_eq_true rfl) (Nat.le_of_ble_eq_true rfl) hz (fun H1 cA e1 z1 o1 _ hNm => ?_)
  obtain rfl : cA = dC 6 := Option.some.inj (hNm.symm.trans (hK.name 6 (by decide)))
  have hJ := hJ.push (c := 6) (N := 400) hz o1 (by decide) (by decide) (show iat dC dI (s.heap.size + 29) 6 400 (fun _ => 0) H1 from e1)
  have ho : oat dC dI h0 5 [.ref (s.heap.size + 0), .int 0, .int 0, .int 0, .int 0, .int 3, .int 20, .int 0, .int 0, .int 0, .int 0, .ref (s.heap.size + 1), .ref (s.heap.size + 2), .ref (s.heap.size + 3), .ref (s.heap.size + 4), .ref (s.heap.size + 5), .ref (s.heap.size + 6), .ref (s.heap.size + 7), .ref (s.heap.size + 8), .ref (s.heap.size + 9), .ref (s.heap.size + 10), .ref (s.heap.size + 11), .ref (s.heap.size + 12), .ref (s.heap.size + 13), .ref (s.heap.size + 14), .ref (s.heap.size + 15), .ref (s.heap.size + 16), .ref (s.heap.size + 17), .ref (s.heap.size + 18), .ref (s.heap.size + 19), .ref (s.heap.size + 20), .ref (s.heap.size + 21), .ref (s.heap.size + 22), .ref (s.heap.size + 23), .ref (s.heap.size + 24), .ref (s.heap.size + 25), .ref (s.heap.size + 26), .ref (s.heap.size + 27), .ref (s.heap.size + 28), .null, .null, .null, .int 0] H1 := va_at.kept ho (o1 h0 (by omega))
  have hS : va_S (fun y => y = h0) s.heap H1 _ := ⟨by omega, fun x9 h8 h9 => (o1 x9 (by omega)).trans (hS.2.1 x9 h8 h9), hS.2.2⟩
  have hz : H1.size = s.heap.size + 30 := z1
  clear e1 z1 o1 hNm
  refine W.eq (g2 := F0 m 265 ls [.ref (s.heap.size + 29), .ref h0]) rfl ?_
  refine va_putF (D := (dC, dI)) (ws := [(h0, .inr (5, [.ref (s.heap.size + 0), .int 0, .int 0, .int 0, .int 0, .int 3, .int 20, .int 0, .int 0, .int 0, .int 0, .ref (s.heap.size + 1), .ref (s.heap.size + 2), .ref (s.heap.size + 3), .ref (s.heap.size + 4), .ref (s.heap.size + 5), .ref (s.heap.size + 6), .ref (s.heap.size + 7), .ref (s.heap.size + 8), .ref (s.heap.size + 9), .ref (s.heap.size + 10), .ref (s.heap.size + 11), .ref (s.heap.size + 12), .ref (s.heap.size + 13), .ref (s.heap.size + 14), .ref (s.heap.size + 15), .ref (s.heap.size + 16), .ref (s.heap.size + 17), .ref (s.heap.size + 18), .ref (s.heap.size + 19), .ref (s.heap.size + 20), .ref (s.heap.size + 21), .ref (s.heap.size + 22), .ref (s.heap.size + 23), .ref (s.heap.size + 24), .ref (s.heap.size + 25), .ref (s.heap.size + 26), .ref (s.heap.size + 27), .ref (s.heap.size + 28), .null, .null, .null, .int 0]))]) (A := fun y => y = h0) (H0 := _) (ci := 5) (v := .ref (s.heap.size + 29)) (ty := .array .int) (C := RX4) (T := TX4) (N := 43) hx hb hts inX4 tyX4 tyX4_ok nmX4 hown hK (va_P1 ho) (va_D1 rfl) ⟨Nat.le_refl _, fun _ _ _ => rfl, hS.2.2⟩ 0 rfl rfl 39 (by decide) (hts _ iw_685) (fun _ h9 => h9) rfl hin rfl (by decide +kernel) rfl rfl (Nat.le_of_ble_eq_true rfl) dX4_init_265 (fun H2 locs hP _ hS2 => ?_)
  refine W.learn (fun _ lr2 _ => ?_)
  have ho : oat dC dI h0 5 [.ref (s.heap.size + 0), .int 0, .int 0, .int 0, .int 0, .int 3, .int 20, .int 0, .int 0, .int 0, .int 0, .ref (s.heap.size + 1), .ref (s.heap.size + 2), .ref (s.heap.size + 3), .ref (s.heap.size + 4), .ref (s.heap.size + 5), .ref (s.heap.size + 6), .ref (s.heap.size + 7), .ref (s.heap.size + 8), .ref (s.heap.size + 9), .ref (s.heap.size + 10), .ref (s.heap.size + 11), .ref (s.heap.size + 12), .ref (s.heap.size + 13), .ref (s.heap.size + 14), .ref (s.heap.size + 15), .ref (s.heap.size + 16), .ref (s.heap.size + 17), .ref (s.heap.size + 18), .ref (s.heap.size + 19), .ref (s.heap.size + 20), .ref (s.heap.size + 21), .ref (s.heap.size + 22), .ref (s.heap.size + 23), .ref (s.heap.size + 24), .ref (s.heap.size + 25), .ref (s.heap.size + 26), .ref (s.heap.size + 27), .ref (s.heap.size + 28), .ref (s.heap.size + 29), .null, .null, .int 0] H2 := hP 0 _ rfl
  have hJ := hJ.keep hz h00 (fun y9 h8 h9 => hS2.2.1 y9 h8 h9)
  have hS : va_S (fun y => y = h0) s.heap H2 locs := ⟨Nat.le_trans hS.1 hS2.1, fun x9 h8 h9 => (hS2.2.1 x9 (Nat.lt_of_lt_of_le h8 hS.1) h9).trans (hS.2.1 x9 h8 h9), hS2.2.2⟩
  have hz : H2.size = s.heap.size + 30 := by have h9 := hS2.1; omega
  clear hP hS2 lr2
  refine lv_aload_n hx hb dX4_init_268 rfl (lv_at hl 0 rfl) ?_
  refine lv_sipush (v := 400) hx hb dX4_init_269 (by decide) ?_
  refine va_newaK hx hb (hts _ iw_776) rfl dX4_init_272 rfl pz_n400 pz_c400 (by decide +kernel) (Nat.le_of_ble_eq_true rfl) (Nat.le_of_ble_eq_true rfl) hz (fun H1 cA e1 z1 o1 _ hNm => ?_)
  obtain rfl : cA = dC 7 := Option.some.inj (hNm.symm.trans (hK.name 7 (by decide)))
  have hJ := hJ.push (c := 7) (N := 400) hz o1 (by decide) (by decide) (show iat dC dI (s.heap.size + 30) 7 400 (fun _ => 0) H1 from e1)
  have ho : oat dC dI h0 5 [.ref (s.heap.size + 0), .int 0, .int 0, .int 0, .int 0, .int 3, .int 20, .int 0, .int 0, .int 0, .int 0, .ref (s.heap.size + 1), .ref (s.heap.size + 2), .ref (s.heap.size + 3), .ref (s.heap.size + 4), .ref (s.heap.size + 5), .ref (s.heap.size + 6), .ref (s.heap.size + 7), .ref (s.heap.size + 8), .ref (s.heap.size + 9), .ref (s.heap.size + 10), .ref (s.heap.size + 11), .ref (s.heap.size + 12), .ref (s.heap.size + 13), .ref (s.heap.size + 14), .ref (s.heap.size + 15), .ref (s.heap.size + 16), .ref (s.heap.size + 17), .ref (s.heap.size + 18), .ref (s.heap.size + 19), .ref (s.heap.size + 20), .ref (s.heap.size + 21), .ref (s.heap.size + 22), .ref (s.heap.size + 23), .ref (s.heap.size + 24), .ref (s.heap.size + 25), .ref (s.heap.size + 26), .ref (s.heap.size + 27), .ref (s.heap.size + 28), .ref (s.heap.size + 29), .null, .null, .int 0] H1 := va_at.kept ho (o1 h0 (by omega))
  have hS : va_S (fun y => y = h0) s.heap H1 _ := ⟨by omega, fun x9 h8 h9 => (o1 x9 (by omega)).trans (hS.2.1 x9 h8 h9), hS.2.2⟩
  have hz : H1.size = s.heap.size + 31 := z1
  clear e1 z1 o1 hNm
  refine W.eq (g2 := F0 m 274 ls [.ref (s.heap.size + 30), .ref h0]) rfl ?_
  refine va_putF (D := (dC, dI)) (ws := [(h0, .inr (5, [.ref (s.heap.size + 0), .int 0, .int 0, .int 0, .int 0, .int 3, .int 20, .int 0, .int 0, .int 0, .int 0, .ref (s.heap.size + 1), .ref (s.heap.size + 2), .ref (s.heap.size + 3), .ref (s.heap.size + 4), .ref (s.heap.size + 5), .ref (s.heap.size + 6), .ref (s.heap.size + 7), .ref (s.heap.size + 8), .ref (s.heap.size + 9), .ref (s.heap.size + 10), .ref (s.heap.size + 11), .ref (s.heap.size + 12), .ref (s.heap.size + 13), .ref (s.heap.size + 14), .ref (s.heap.size + 15), .ref (s.heap.size + 16), .ref (s.heap.size + 17), .ref (s.heap.size + 18), .ref (s.heap.size + 19), .ref (s.heap.size + 20), .ref (s.heap.size + 21), .ref (s.heap.size + 22), .ref (s.heap.size + 23), .ref (s.heap.size + 24), .ref (s.heap.size + 25), .ref (s.heap.size + 26), .ref (s.heap.size + 27), .ref (s.heap.size + 28), .ref (s.heap.size + 29), .null, .null, .int 0]))]) (A := fun y => y = h0) (H0 := _) (ci := 5) (v := .ref (s.heap.size + 30)) (ty := .array .boolean) (C := RX4) (T := TX4) (N := 43) hx hb hts inX4 tyX4 tyX4_ok nmX4 hown hK (va_P1 ho) (va_D1 rfl) ⟨Nat.le_refl _, fun _ _ _ => rfl, hS.2.2⟩ 0 rfl rfl 40 (by decide) (hts _ iw_686) (fun _ h9 => h9) rfl hin rfl (by decide +kernel) rfl rfl (Nat.le_of_ble_eq_true rfl) dX4_init_274 (fun H2 locs hP _ hS2 => ?_)
  refine W.learn (fun _ lr2 _ => ?_)
  have ho : oat dC dI h0 5 [.ref (s.heap.size + 0), .int 0, .int 0, .int 0, .int 0, .int 3, .int 20, .int 0, .int 0, .int 0, .int 0, .ref (s.heap.size + 1), .ref (s.heap.size + 2), .ref (s.heap.size + 3), .ref (s.heap.size + 4), .ref (s.heap.size + 5), .ref (s.heap.size + 6), .ref (s.heap.size + 7), .ref (s.heap.size + 8), .ref (s.heap.size + 9), .ref (s.heap.size + 10), .ref (s.heap.size + 11), .ref (s.heap.size + 12), .ref (s.heap.size + 13), .ref (s.heap.size + 14), .ref (s.heap.size + 15), .ref (s.heap.size + 16), .ref (s.heap.size + 17), .ref (s.heap.size + 18), .ref (s.heap.size + 19), .ref (s.heap.size + 20), .ref (s.heap.size + 21), .ref (s.heap.size + 22), .ref (s.heap.size + 23), .ref (s.heap.size + 24), .ref (s.heap.size + 25), .ref (s.heap.size + 26), .ref (s.heap.size + 27), .ref (s.heap.size + 28), .ref (s.heap.size + 29), .ref (s.heap.size + 30), .null, .int 0] H2 := hP 0 _ rfl
  have hJ := hJ.keep hz h00 (fun y9 h8 h9 => hS2.2.1 y9 h8 h9)
  have hS : va_S (fun y => y = h0) s.heap H2 locs := ⟨Nat.le_trans hS.1 hS2.1, fun x9 h8 h9 => (hS2.2.1 x9 (Nat.lt_of_lt_of_le h8 hS.1) h9).trans (hS.2.1 x9 h8 h9), hS2.2.2⟩
  have hz : H2.size = s.heap.size + 31 := by have h9 := hS2.1; omega
  clear hP hS2 lr2
  refine lv_aload_n hx hb dX4_init_277 rfl (lv_at hl 0 rfl) ?_
  refine lv_sipush (v := 200) hx hb dX4_init_278 (by decide) ?_
  refine va_newaK hx hb (hts _ iw_145) rfl dX4_init_281 rfl pz_n200 pz_c200 (by decide +kernel) (Nat.le_of_ble_eq_true rfl) (Nat.le_of_ble_eq_true rfl) hz (fun H1 cA e1 z1 o1 _ hNm => ?_)
  obtain rfl : cA = dC 6 := Option.some.inj (hNm.symm.trans (hK.name 6 (by decide)))
  have hJ := hJ.push (c := 6) (N := 200) hz o1 (by decide) (by decide) (show iat dC dI (s.heap.size + 31) 6 200 (fun _ => 0) H1 from e1)
  have ho : oat dC dI h0 5 [.ref (s.heap.size + 0), .int 0, .int 0, .int 0, .int 0, .int 3, .int 20, .int 0, .int 0, .int 0, .int 0, .ref (s.heap.size + 1), .ref (s.heap.size + 2), .ref (s.heap.size + 3), .ref (s.heap.size + 4), .ref (s.heap.size + 5), .ref (s.heap.size + 6), .ref (s.heap.size + 7), .ref (s.heap.size + 8), .ref (s.heap.size + 9), .ref (s.heap.size + 10), .ref (s.heap.size + 11), .ref (s.heap.size + 12), .ref (s.heap.size + 13), .ref (s.heap.size + 14), .ref (s.heap.size + 15), .ref (s.heap.size + 16), .ref (s.heap.size + 17), .ref (s.heap.size + 18), .ref (s.heap.size + 19), .ref (s.heap.size + 20), .ref (s.heap.size + 21), .ref (s.heap.size + 22), .ref (s.heap.size + 23), .ref (s.heap.size + 24), .ref (s.heap.size + 25), .ref (s.heap.size + 26), .ref (s.heap.size + 27), .ref (s.heap.size + 28), .ref (s.heap.size + 29), .ref (s.heap.size + 30), .null, .int 0] H1 := va_at.kept ho (o1 h0 (by omega))
  have hS : va_S (fun y => y = h0) s.heap H1 _ := ⟨by omega, fun x9 h8 h9 => (o1 x9 (by omega)).trans (hS.2.1 x9 h8 h9), hS.2.2⟩
  have hz : H1.size = s.heap.size + 32 := z1
  clear e1 z1 o1 hNm
  refine W.eq (g2 := F0 m 283 ls [.ref (s.heap.size + 31), .ref h0]) rfl ?_
  refine va_putF (D := (dC, dI)) (ws := [(h0, .inr (5, [.ref (s.heap.size + 0), .int 0, .int 0, .int 0, .int 0, .int 3, .int 20, .int 0, .int 0, .int 0, .int 0, .ref (s.heap.size + 1), .ref (s.heap.size + 2), .ref (s.heap.size + 3), .ref (s.heap.size + 4), .ref (s.heap.size + 5), .ref (s.heap.size + 6), .ref (s.heap.size + 7), .ref (s.heap.size + 8), .ref (s.heap.size + 9), .ref (s.heap.size + 10), .ref (s.heap.size + 11), .ref (s.heap.size + 12), .ref (s.heap.size + 13), .ref (s.heap.size + 14), .ref (s.heap.size + 15), .ref (s.heap.size + 16), .ref (s.heap.size + 17), .ref (s.heap.size + 18), .ref (s.heap.size + 19), .ref (s.heap.size + 20), .ref (s.heap.size + 21), .ref (s.heap.size + 22), .ref (s.heap.size + 23), .ref (s.heap.size + 24), .ref (s.heap.size + 25), .ref (s.heap.size + 26), .ref (s.heap.size + 27), .ref (s.heap.size + 28), .ref (s.heap.size + 29), .ref (s.heap.size + 30), .null, .int 0]))]) (A := fun y => y = h0) (H0 := _) (ci := 5) (v := .ref (s.heap.size + 31)) (ty := .array .int) (C := RX4) (T := TX4) (N := 43) hx hb hts inX4 tyX4 tyX4_ok nmX4 hown hK (va_P1 ho) (va_D1 rfl) ⟨Nat.le_refl _, fun _ _ _ => rfl, hS.2.2⟩ 0 rfl rfl 41 (by decide) (hts _ iw_687) (fun _ h9 => h9) rfl hin rfl (by decide +kernel) rfl rfl (Nat.le_of_ble_eq_true rfl) dX4_init_283 (fun H2 locs hP _ hS2 => ?_)
  refine W.learn (fun _ lr2 _ => ?_)
  have ho : oat dC dI h0 5 [.ref (s.heap.size + 0), .int 0, .int 0, .int 0, .int 0, .int 3, .int 20, .int 0, .int 0, .int 0, .int 0, .ref (s.heap.size + 1), .ref (s.heap.size + 2), .ref (s.heap.size + 3), .ref (s.heap.size + 4), .ref (s.heap.size + 5), .ref (s.heap.size + 6), .ref (s.heap.size + 7), .ref (s.heap.size + 8), .ref (s.heap.size + 9), .ref (s.heap.size + 10), .ref (s.heap.size + 11), .ref (s.heap.size + 12), .ref (s.heap.size + 13), .ref (s.heap.size + 14), .ref (s.heap.size + 15), .ref (s.heap.size + 16), .ref (s.heap.size + 17), .ref (s.heap.size + 18), .ref (s.heap.size + 19), .ref (s.heap.size + 20), .ref (s.heap.size + 21), .ref (s.heap.size + 22), .ref (s.heap.size + 23), .ref (s.heap.size + 24), .ref (s.heap.size + 25), .ref (s.heap.size + 26), .ref (s.heap.size + 27), .ref (s.heap.size + 28), .ref (s.heap.size + 29), .ref (s.heap.size + 30), .ref (s.heap.size + 31), .int 0] H2 := hP 0 _ rfl
  have hJ := hJ.keep hz h00 (fun y9 h8 h9 => hS2.2.1 y9 h8 h9)
  have hS : va_S (fun y => y = h0) s.heap H2 locs := ⟨Nat.le_trans hS.1 hS2.1, fun x9 h8 h9 => (hS2.2.1 x9 (Nat.lt_of_lt_of_le h8 hS.1) h9).trans (hS.2.1 x9 h8 h9), hS2.2.2⟩
  have hz : H2.size = s.heap.size + 32 := by have h9 := hS2.1; omega
  clear hP hS2 lr2
  exact r_v hx hb hr hlocks hS dX4_init_286 ⟨rfl, ⟨⟨hA0, fun k9 h9 => hA1 _ (by omega), fun k9 j9 h8 h9 e9 => by have := mAr_ge h8; have := mAr_ge h9; omega⟩, ⟨fun k9 => if k9 = 5 then 3 else if k9 = 6 then 20 else 0, ho, fun _ _ => rfl⟩, fun k9 h9 => ⟨fun _ => 0, mAr_jn h9 hJ, fun _ => rfl⟩⟩, hz⟩
