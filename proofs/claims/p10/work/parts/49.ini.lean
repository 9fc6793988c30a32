abbrev B_q_X0_init (dC : Nat → ClassId) (dI : Nat → Nat → Nat) (q sz bs : Nat) (r : Nat) (a2 a3 a4 : Int32) : Option Value → Heap → Prop := fun v H => v = none ∧ va_P (dC, dI) vwCl [(q, .inr (1, [.ref r, .int a2, .int a3, .int a4]))] H ∧ Sz bs H ∧ H.size ≤ sz + 0
set_option maxHeartbeats 8000000 in
theorem q_X0_init (l : Launch) (dC : Nat → ClassId) (dI : Nat → Nat → Nat) (q sz bs : Nat) (r : Nat) (a2 a3 a4 : Int32) (hsf : a4 = 0 ∨ a4 = 1) : Met l yX0_init (cws yX0_init cX0_init 5 none) { frames := 1, cells := 0, slots := 0, locals := 12 } (va_Pc [.ref q, .ref r, .int a2, .int a3, .int a4] (fun U => Kt dC dI U ∧ (fun H => H.size = sz ∧ va_P (dC, dI) vwCl [(q, .inr (1, [.null, .int 0, .int 0, .int 0]))] H ∧ Sz bs H) U.heap)) (Qg (B_q_X0_init dC dI q sz bs r a2 a3 a4) (fun y => y = q)) 0 0 (fun y => y = q) := by
  refine m_start (KK := Kt dC dI) (Pw := (fun H => H.size = sz ∧ va_P (dC, dI) vwCl [(q, .inr (1, [.null, .int 0, .int 0, .int 0]))] H ∧ Sz bs H)) (by decide) (Nat.le_of_ble_eq_true rfl) ?_
  intro p e s m below meth c ls S hr hlocks hin hK hW hS hl
  obtain ⟨hx, hb, hml, hown, hts⟩ := id S
  obtain ⟨hsz, hP, hSz⟩ := hW
  subst hsz
  have hD : va_D (fun y => y = q) [(q, .inr (1, [.null, .int 0, .int 0, .int 0]))] := va_D1 rfl
  have hl : lv_has ls 5 [(0, .ref q), (1, .ref r), (2, .int a2), (3, .int a3), (4, .int a4)] := hl
  refine lv_aload_n hx hb dX0_init_0 rfl (lv_at hl 0 rfl) ?_
  refine W.objInit hx hb hown (hts _ iw_453) (hts _ iw_77) (hts _ iw_78) rfl (by rw [hml]; exact hl.1) rfl dX0_init_1 (Nat.le_of_ble_eq_true rfl) (Nat.le_of_ble_eq_true rfl) ?_
  refine W.eq (g2 := F0 m 4 ls []) rfl ?_
  refine lv_aload_n hx hb dX0_init_4 rfl (lv_at hl 0 rfl) ?_
  refine lv_aload_n hx hb dX0_init_5 rfl (lv_at hl 1 rfl) ?_
  refine va_putF (D := (dC, dI)) (ci := 1) (v := .ref r) (ty := .object "FrontDoor$Server") (C := RX0) (T := TX0) (N := 4) hx hb hts inX0 tyX0 tyX0_ok nmX0 hown hK hP hD hS 0 rfl rfl 0 (by decide) (hts _ iw_454) (fun _ h9 => h9) rfl hin rfl (by decide +kernel) rfl rfl (Nat.le_of_ble_eq_true rfl) dX0_init_6 (fun H locs hP hD hS => ?_)
  have hP : va_P (dC, dI) vwCl [(q, .inr (1, [.ref r, .int 0, .int 0, .int 0]))] H := hP
  have hD : va_D (fun y => y = q) [(q, .inr (1, [.ref r, .int 0, .int 0, .int 0]))] := hD
  refine lv_aload_n hx hb dX0_init_9 rfl (lv_at hl 0 rfl) ?_
  refine lv_iload_n hx hb dX0_init_10 rfl (lv_at hl 2 rfl) ?_
  refine va_putF (D := (dC, dI)) (ci := 1) (v := .int a2) (ty := .int) (C := RX0) (T := TX0) (N := 4) hx hb hts inX0 tyX0 tyX0_ok nmX0 hown hK hP hD hS 0 rfl rfl 1 (by decide) (hts _ iw_457) (fun _ h9 => h9) rfl hin rfl (by decide +kernel) rfl rfl (Nat.le_of_ble_eq_true rfl) dX0_init_11 (fun H locs hP hD hS => ?_)
  have hP : va_P (dC, dI) vwCl [(q, .inr (1, [.ref r, .int a2, .int 0, .int 0]))] H := hP
  have hD : va_D (fun y => y = q) [(q, .inr (1, [.ref r, .int a2, .int 0, .int 0]))] := hD
  refine lv_aload_n hx hb dX0_init_14 rfl (lv_at hl 0 rfl) ?_
  refine lv_iload_n hx hb dX0_init_15 rfl (lv_at hl 3 rfl) ?_
  refine va_putF (D := (dC, dI)) (ci := 1) (v := .int a3) (ty := .int) (C := RX0) (T := TX0) (N := 4) hx hb hts inX0 tyX0 tyX0_ok nmX0 hown hK hP hD hS 0 rfl rfl 2 (by decide) (hts _ iw_459) (fun _ h9 => h9) rfl hin rfl (by decide +kernel) rfl rfl (Nat.le_of_ble_eq_true rfl) dX0_init_16 (fun H locs hP hD hS => ?_)
  have hP : va_P (dC, dI) vwCl [(q, .inr (1, [.ref r, .int a2, .int a3, .int 0]))] H := hP
  have hD : va_D (fun y => y = q) [(q, .inr (1, [.ref r, .int a2, .int a3, .int 0]))] := hD
  refine lv_aload_n hx hb dX0_init_19 rfl (lv_at hl 0 rfl) ?_
  refine lv_iload hx hb dX0_init_20 (lv_at hl 4 rfl) ?_
  refine va_putF (D := (dC, dI)) (ci := 1) (v := .int a4) (ty := .boolean) (C := RX0) (T := TX0) (N := 4) hx hb hts inX0 tyX0 tyX0_ok nmX0 hown hK hP hD hS 0 rfl rfl 3 (by decide) (hts _ iw_461) (fun _ h9 => h9) rfl hin rfl (by decide +kernel) (by rcases hsf with rfl | rfl <;> rfl) (by rcases hsf with rfl | rfl <;> rfl) (Nat.le_of_ble_eq_true rfl) dX0_init_22 (fun H locs hP hD hS => ?_)
  have hP : va_P (dC, dI) vwCl [(q, .inr (1, [.ref r, .int a2, .int a3, .int a4]))] H := hP
  have hD : va_D (fun y => y = q) [(q, .inr (1, [.ref r, .int a2, .int a3, .int a4]))] := hD
  refine W.learn (fun lr1 lr2 lr3 => ?_)
  exact r_v hx hb hr hlocks hS dX0_init_25 ⟨rfl, hP, hSz.of lr1 (Nat.le_trans lr3 (by decide)), lr2⟩

abbrev B_q_X1_init (dC : Nat → ClassId) (dI : Nat → Nat → Nat) (q sz bs : Nat) (a1 a2 a3 a4 a5 a6 : Int32) : Option Value → Heap → Prop := fun v H => v = none ∧ va_P (dC, dI) vwCl [(q, .inr (2, [.int a1, .int a2, .int a3, .int a4, .int a5, .int a6, .int 0, .int 0, .int (-9), .int (-9), .null, .null]))] H ∧ Sz bs H ∧ H.size ≤ sz + 0
set_option maxHeartbeats 8000000 in
theorem q_X1_init (l : Launch) (dC : Nat → ClassId) (dI : Nat → Nat → Nat) (q sz bs : Nat) (a1 a2 a3 a4 a5 a6 : Int32) (hsf : a6 = 0 ∨ a6 = 1) : Met l yX1_init (cws yX1_init cX1_init 7 none) { frames := 1, cells := 0, slots := 0, locals := 12 } (va_Pc [.ref q, .int a1, .int a2, .int a3, .int a4, .int a5, .int a6] (fun U => Kt dC dI U ∧ (fun H => H.size = sz ∧ va_P (dC, dI) vwCl [(q, .inr (2, [.int 0, .int 0, .int 0, .int 0, .int 0, .int 0, .int 0, .int 0, .int 0, .int 0, .null, .null]))] H ∧ Sz bs H) U.heap)) (Qg (B_q_X1_init dC dI q sz bs a1 a2 a3 a4 a5 a6) (fun y => y = q)) 0 0 (fun y => y = q) := by
  refine m_start (KK := Kt dC dI) (Pw := (fun H => H.size = sz ∧ va_P (dC, dI) vwCl [(q, .inr (2, [.int 0, .int 0, .int 0, .int 0, .int 0, .int 0, .int 0, .int 0, .int 0, .int 0, .null, .null]))] H ∧ Sz bs H)) (by decide) (Nat.le_of_ble_eq_true rfl) ?_
  intro p e s m below meth c ls S hr hlocks hin hK hW hS hl
  obtain ⟨hx, hb, hml, hown, hts⟩ := id S
  obtain ⟨hsz, hP, hSz⟩ := hW
  subst hsz
  have hD : va_D (fun y => y = q) [(q, .inr (2, [.int 0, .int 0, .int 0, .int 0, .int 0, .int 0, .int 0, .int 0, .int 0, .int 0, .null, .null]))] := va_D1 rfl
  have hl : lv_has ls 7 [(0, .ref q), (1, .int a1), (2, .int a2), (3, .int a3), (4, .int a4), (5, .int a5), (6, .int a6)] := hl
  refine lv_aload_n hx hb dX1_init_0 rfl (lv_at hl 0 rfl) ?_
  refine W.objInit hx hb hown (hts _ iw_356) (hts _ iw_77) (hts _ iw_78) rfl (by rw [hml]; exact hl.1) rfl dX1_init_1 (Nat.le_of_ble_eq_true rfl) (Nat.le_of_ble_eq_true rfl) ?_
  refine W.eq (g2 := F0 m 4 ls []) rfl ?_
  refine lv_aload_n hx hb dX1_init_4 rfl (lv_at hl 0 rfl) ?_
  refine lv_iload_n hx hb dX1_init_5 rfl (lv_at hl 1 rfl) ?_
  refine va_putF (D := (dC, dI)) (ci := 2) (v := .int a1) (ty := .int) (C := RX1) (T := TX1) (N := 12) hx hb hts inX1 tyX1 tyX1_ok nmX1 hown hK hP hD hS 0 rfl rfl 0 (by decide) (hts _ iw_357) (fun _ h9 => h9) rfl hin rfl (by decide +kernel) rfl rfl (Nat.le_of_ble_eq_true rfl) dX1_init_6 (fun H locs hP hD hS => ?_)
  have hP : va_P (dC, dI) vwCl [(q, .inr (2, [.int a1, .int 0, .int 0, .int 0, .int 0, .int 0, .int 0, .int 0, .int 0, .int 0, .null, .null]))] H := hP
  have hD : va_D (fun y => y = q) [(q, .inr (2, [.int a1, .int 0, .int 0, .int 0, .int 0, .int 0, .int 0, .int 0, .int 0, .int 0, .null, .null]))] := hD
  refine lv_aload_n hx hb dX1_init_9 rfl (lv_at hl 0 rfl) ?_
  refine lv_iload_n hx hb dX1_init_10 rfl (lv_at hl 2 rfl) ?_
  refine va_putF (D := (dC, dI)) (ci := 2) (v := .int a2) (ty := .int) (C := RX1) (T := TX1) (N := 12) hx hb hts inX1 tyX1 tyX1_ok nmX1 hown hK hP hD hS 0 rfl rfl 1 (by decide) (hts _ iw_359) (fun _ h9 => h9) rfl hin rfl (by decide +kernel) rfl rfl (Nat.le_of_ble_eq_true rfl) dX1_init_11 (fun H locs hP hD hS => ?_)
  have hP : va_P (dC, dI) vwCl [(q, .inr (2, [.int a1, .int a2, .int 0, .int 0, .int 0, .int 0, .int 0, .int 0, .int 0, .int 0, .null, .null]))] H := hP
  have hD : va_D (fun y => y = q) [(q, .inr (2, [.int a1, .int a2, .int 0, .int 0, .int 0, .int 0, .int 0, .int 0, .int 0, .int 0, .null, .null]))] := hD
  refine lv_aload_n hx hb dX1_init_14 rfl (lv_at hl 0 rfl) ?_
  refine lv_iload_n hx hb dX1_init_15 rfl (lv_at hl 3 rfl) ?_
  refine va_putF (D := (dC, dI)) (ci := 2) (v := .int a3) (ty := .int) (C := RX1) (T := TX1) (N := 12) hx hb hts inX1 tyX1 tyX1_ok nmX1 hown hK hP hD hS 0 rfl rfl 2 (by decide) (hts _ iw_361) (fun _ h9 => h9) rfl hin rfl (by decide +kernel) rfl rfl (Nat.le_of_ble_eq_true rfl) dX1_init_16 (fun H locs hP hD hS => ?_)
  have hP : va_P (dC, dI) vwCl [(q, .inr (2, [.int a1, .int a2, .int a3, .int 0, .int 0, .int 0, .int 0, .int 0, .int 0, .int 0, .null, .null]))] H := hP
  have hD : va_D (fun y => y = q) [(q, .inr (2, [.int a1, .int a2, .int a3, .int 0, .int 0, .int 0, .int 0, .int 0, .int 0, .int 0, .null, .null]))] := hD
  refine lv_aload_n hx hb dX1_init_19 rfl (lv_at hl 0 rfl) ?_
  refine lv_iload hx hb dX1_init_20 (lv_at hl 4 rfl) ?_
  refine va_putF (D := (dC, dI)) (ci := 2) (v := .int a4) (ty := .int) (C := RX1) (T := TX1) (N := 12) hx hb hts inX1 tyX1 tyX1_ok nmX1 hown hK hP hD hS 0 rfl rfl 3 (by decide) (hts _ iw_362) (fun _ h9 => h9) rfl hin rfl (by decide +kernel) rfl rfl (Nat.le_of_ble_eq_true rfl) dX1_init_22 (fun H locs hP hD hS => ?_)
  have hP : va_P (dC, dI) vwCl [(q, .inr (2, [.int a1, .int a2, .int a3, .int a4, .int 0, .int 0, .int 0, .int 0, .int 0, .int 0, .null, .null]))] H := hP
  have hD : va_D (fun y => y = q) [(q, .inr (2, [.int a1, .int a2, .int a3, .int a4, .int 0, .int 0, .int 0, .int 0, .int 0, .int 0, .null, .null]))] := hD
  refine lv_aload_n hx hb dX1_init_25 rfl (lv_at hl 0 rfl) ?_
  refine lv_iload hx hb dX1_init_26 (lv_at hl 5 rfl) ?_
  refine va_putF (D := (dC, dI)) (ci := 2) (v := .int a5) (ty := .int) (C := RX1) (T := TX1) (N := 12) hx hb hts inX1 tyX1 tyX1_ok nmX1 hown hK hP hD hS 0 rfl rfl 4 (by decide) (hts _ iw_363) (fun _ h9 => h9) rfl hin rfl (by decide +kernel) rfl rfl (Nat.le_of_ble_eq_true rfl) dX1_init_28 (fun H locs hP hD hS => ?_)
  have hP : va_P (dC, dI) vwCl [(q, .inr (2, [.int a1, .int a2, .int a3, .int a4, .int a5, .int 0, .int 0, .int 0, .int 0, .int 0, .null, .null]))] H := hP
  have hD : va_D (fun y => y = q) [(q, .inr (2, [.int a1, .int a2, .int a3, .int a4, .int a5, .int 0, .int 0, .int 0, .int 0, .int 0, .null, .null]))] := hD
  refine lv_aload_n hx hb dX1_init_31 rfl (lv_at hl 0 rfl) ?_
  refine lv_iload hx hb dX1_init_32 (lv_at hl 6 rfl) ?_
  refine va_putF (D := (dC, dI)) (ci := 2) (v := .int a6) (ty := .boolean) (C := RX1) (T := TX1) (N := 12) hx hb hts inX1 tyX1 tyX1_ok nmX1 hown hK hP hD hS 0 rfl rfl 5 (by decide) (hts _ iw_365) (fun _ h9 => h9) rfl hin rfl (by decide +kernel) (by rcases hsf with rfl | rfl <;> rfl) (by rcases hsf with rfl | rfl <;> rfl) (Nat.le_of_ble_eq_true rfl) dX1_init_34 (fun H locs hP hD hS => ?_)
  have hP : va_P (dC, dI) vwCl [(q, .inr (2, [.int a1, .int a2, .int a3, .int a4, .int a5, .int a6, .int 0, .int 0, .int 0, .int 0, .null, .null]))] H := hP
  have hD : va_D (fun y => y = q) [(q, .inr (2, [.int a1, .int a2, .int a3, .int a4, .int a5, .int a6, .int 0, .int 0, .int 0, .int 0, .null, .null]))] := hD
  refine lv_aload_n hx hb dX1_init_37 rfl (lv_at hl 0 rfl) ?_
  refine lv_iconst (v := 0) hx hb dX1_init_38 (by decide) ?_
  refine va_put (D := (dC, dI)) (ci := 2) (v := .int 0) (ty := .int) (C := RX1) (T := TX1) (N := 12) hx hb hts inX1 tyX1 tyX1_ok nmX1 hown hK hP hD hS 0 rfl rfl 6 (by decide) (hts _ iw_367) (fun _ h9 => h9) rfl (by decide +kernel) rfl rfl (Nat.le_of_ble_eq_true rfl) dX1_init_39 (fun H locs hP hD hS => ?_)
  have hP : va_P (dC, dI) vwCl [(q, .inr (2, [.int a1, .int a2, .int a3, .int a4, .int a5, .int a6, .int 0, .int 0, .int 0, .int 0, .null, .null]))] H := hP
  have hD : va_D (fun y => y = q) [(q, .inr (2, [.int a1, .int a2, .int a3, .int a4, .int a5, .int a6, .int 0, .int 0, .int 0, .int 0, .null, .null]))] := hD
  refine lv_aload_n hx hb dX1_init_42 rfl (lv_at hl 0 rfl) ?_
  refine lv_bipush (v := (-9)) hx hb dX1_init_43 (by decide) ?_
  refine va_put (D := (dC, dI)) (ci := 2) (v := .int (-9)) (ty := .int) (C := RX1) (T := TX1) (N := 12) hx hb hts inX1 tyX1 tyX1_ok nmX1 hown hK hP hD hS 0 rfl rfl 8 (by decide) (hts _ iw_371) (fun _ h9 => h9) rfl (by decide +kernel) rfl rfl (Nat.le_of_ble_eq_true rfl) dX1_init_45 (fun H locs hP hD hS => ?_)
  have hP : va_P (dC, dI) vwCl [(q, .inr (2, [.int a1, .int a2, .int a3, .int a4, .int a5, .int a6, .int 0, .int 0, .int (-9), .int 0, .null, .null]))] H := hP
  have hD : va_D (fun y => y = q) [(q, .inr (2, [.int a1, .int a2, .int a3, .int a4, .int a5, .int a6, .int 0, .int 0, .int (-9), .int 0, .null, .null]))] := hD
  refine lv_aload_n hx hb dX1_init_48 rfl (lv_at hl 0 rfl) ?_
  refine lv_bipush (v := (-9)) hx hb dX1_init_49 (by decide) ?_
  refine va_put (D := (dC, dI)) (ci := 2) (v := .int (-9)) (ty := .int) (C := RX1) (T := TX1) (N := 12) hx hb hts inX1 tyX1 tyX1_ok nmX1 hown hK hP hD hS 0 rfl rfl 9 (by decide) (hts _ iw_373) (fun _ h9 => h9) rfl (by decide +kernel) rfl rfl (Nat.le_of_ble_eq_true rfl) dX1_init_51 (fun H locs hP hD hS => ?_)
  have hP : va_P (dC, dI) vwCl [(q, .inr (2, [.int a1, .int a2, .int a3, .int a4, .int a5, .int a6, .int 0, .int 0, .int (-9), .int (-9), .null, .null]))] H := hP
  have hD : va_D (fun y => y = q) [(q, .inr (2, [.int a1, .int a2, .int a3, .int a4, .int a5, .int a6, .int 0, .int 0, .int (-9), .int (-9), .null, .null]))] := hD
  refine W.learn (fun lr1 lr2 lr3 => ?_)
  exact r_v hx hb hr hlocks hS dX1_init_54 ⟨rfl, hP, hSz.of lr1 (Nat.le_trans lr3 (by decide)), lr2⟩

abbrev B_q_X2_init (dC : Nat → ClassId) (dI : Nat → Nat → Nat) (q sz bs : Nat) (a1 a2 a3 a4 a5 a6 : Int32) : Option Value → Heap → Prop := fun v H => v = none ∧ va_P (dC, dI) vwCl [(q, .inr (3, [.int a1, .int a3, .int a2, .int a4, .int a5, .int a6, .int 0, .int 0, .int 0, .int 0, .int 0, .int 0, .int 0, .int 0, .int 10, .int 0, .int 0]))] H ∧ Sz bs H ∧ H.size ≤ sz + 0
set_option maxHeartbeats 8000000 in
theorem q_X2_init (l : Launch) (dC : Nat → ClassId) (dI : Nat → Nat → Nat) (q sz bs : Nat) (a1 a2 a3 a4 a5 a6 : Int32) : Met l yX2_init (cws yX2_init cX2_init 7 none) { frames := 1, cells := 0, slots := 0, locals := 12 } (va_Pc [.ref q, .int a1, .int a2, .int a3, .int a4, .int a5, .int a6] (fun U => Kt dC dI U ∧ (fun H => H.size = sz ∧ va_P (dC, dI) vwCl [(q, .inr (3, [.int 0, .int 0, .int 0, .int 0, .int 0, .int 0, .int 0, .int 0, .int 0, .int 0, .int 0, .int 0, .int 0, .int 0, .int 0, .int 0, .int 0]))] H ∧ Sz bs H) U.heap)) (Qg (B_q_X2_init dC dI q sz bs a1 a2 a3 a4 a5 a6) (fun y => y = q)) 0 0 (fun y => y = q) := by
  refine m_start (KK := Kt dC dI) (Pw := (fun H => H.size = sz ∧ va_P (dC, dI) vwCl [(q, .inr (3, [.int 0, .int 0, .int 0, .int 0, .int 0, .int 0, .int 0, .int 0, .int 0, .int 0, .int 0, .int 0, .int 0, .int 0, .int 0, .int 0, .int 0]))] H ∧ Sz bs H)) (by decide) (Nat.le_of_ble_eq_true rfl) ?_
  intro p e s m below meth c ls S hr hlocks hin hK hW hS hl
  obtain ⟨hx, hb, hml, hown, hts⟩ := id S
  obtain ⟨hsz, hP, hSz⟩ := hW
  subst hsz
  have hD : va_D (fun y => y = q) [(q, .inr (3, [.int 0, .int 0, .int 0, .int 0, .int 0, .int 0, .int 0, .int 0, .int 0, .int 0, .int 0, .int 0, .int 0, .int 0, .int 0, .int 0, .int 0]))] := va_D1 rfl
  have hl : lv_has ls 7 [(0, .ref q), (1, .int a1), (2, .int a2), (3, .int a3), (4, .int a4), (5, .int a5), (6, .int a6)] := hl
  refine lv_aload_n hx hb dX2_init_0 rfl (lv_at hl 0 rfl) ?_
  refine W.objInit hx hb hown (hts _ iw_163) (hts _ iw_77) (hts _ iw_78) rfl (by rw [hml]; exact hl.1) rfl dX2_init_1 (Nat.le_of_ble_eq_true rfl) (Nat.le_of_ble_eq_true rfl) ?_
  refine W.eq (g2 := F0 m 4 ls []) rfl ?_
  refine lv_aload_n hx hb dX2_init_4 rfl (lv_at hl 0 rfl) ?_
  refine lv_iload_n hx hb dX2_init_5 rfl (lv_at hl 1 rfl) ?_
  refine va_putF (D := (dC, dI)) (ci := 3) (v := .int a1) (ty := .int) (C := RX2) (T := TX2) (N := 17) hx hb hts inX2 tyX2 tyX2_ok nmX2 hown hK hP hD hS 0 rfl rfl 0 (by decide) (hts _ iw_164) (fun _ h9 => h9) rfl hin rfl (by decide +kernel) rfl rfl (Nat.le_of_ble_eq_true rfl) dX2_init_6 (fun H locs hP hD hS => ?_)
  have hP : va_P (dC, dI) vwCl [(q, .inr (3, [.int a1, .int 0, .int 0, .int 0, .int 0, .int 0, .int 0, .int 0, .int 0, .int 0, .int 0, .int 0, .int 0, .int 0, .int 0, .int 0, .int 0]))] H := hP
  have hD : va_D (fun y => y = q) [(q, .inr (3, [.int a1, .int 0, .int 0, .int 0, .int 0, .int 0, .int 0, .int 0, .int 0, .int 0, .int 0, .int 0, .int 0, .int 0, .int 0, .int 0, .int 0]))] := hD
  refine lv_aload_n hx hb dX2_init_9 rfl (lv_at hl 0 rfl) ?_
  refine lv_iload_n hx hb dX2_init_10 rfl (lv_at hl 2 rfl) ?_
  refine va_put (D := (dC, dI)) (ci := 3) (v := .int a2) (ty := .int) (C := RX2) (T := TX2) (N := 17) hx hb hts inX2 tyX2 tyX2_ok nmX2 hown hK hP hD hS 0 rfl rfl 2 (by decide) (hts _ iw_169) (fun _ h9 => h9) rfl (by decide +kernel) rfl rfl (Nat.le_of_ble_eq_true rfl) dX2_init_11 (fun H locs hP hD hS => ?_)
  have hP : va_P (dC, dI) vwCl [(q, .inr (3, [.int a1, .int 0, .int a2, .int 0, .int 0, .int 0, .int 0, .int 0, .int 0, .int 0, .int 0, .int 0, .int 0, .int 0, .int 0, .int 0, .int 0]))] H := hP
  have hD : va_D (fun y => y = q) [(q, .inr (3, [.int a1, .int 0, .int a2, .int 0, .int 0, .int 0, .int 0, .int 0, .int 0, .int 0, .int 0, .int 0, .int 0, .int 0, .int 0, .int 0, .int 0]))] := hD
  refine lv_aload_n hx hb dX2_init_14 rfl (lv_at hl 0 rfl) ?_
  refine lv_iload_n hx hb dX2_init_15 rfl (lv_at hl 3 rfl) ?_
  refine va_putF (D := (dC, dI)) (ci := 3) (v := .int a3) (ty := .int) (C := RX2) (T := TX2) (N := 17) hx hb hts inX2 tyX2 tyX2_ok nmX2 hown hK hP hD hS 0 rfl rfl 1 (by decide) (hts _ iw_167) (fun _ h9 => h9) rfl hin rfl (by decide +kernel) rfl rfl (Nat.le_of_ble_eq_true rfl) dX2_init_16 (fun H locs hP hD hS => ?_)
  have hP : va_P (dC, dI) vwCl [(q, .inr (3, [.int a1, .int a3, .int a2, .int 0, .int 0, .int 0, .int 0, .int 0, .int 0, .int 0, .int 0, .int 0, .int 0, .int 0, .int 0, .int 0, .int 0]))] H := hP
  have hD : va_D (fun y => y = q) [(q, .inr (3, [.int a1, .int a3, .int a2, .int 0, .int 0, .int 0, .int 0, .int 0, .int 0, .int 0, .int 0, .int 0, .int 0, .int 0, .int 0, .int 0, .int 0]))] := hD
  refine lv_aload_n hx hb dX2_init_19 rfl (lv_at hl 0 rfl) ?_
  refine lv_iload hx hb dX2_init_20 (lv_at hl 4 rfl) ?_
  refine va_put (D := (dC, dI)) (ci := 3) (v := .int a4) (ty := .int) (C := RX2) (T := TX2) (N := 17) hx hb hts inX2 tyX2 tyX2_ok nmX2 hown hK hP hD hS 0 rfl rfl 3 (by decide) (hts _ iw_171) (fun _ h9 => h9) rfl (by decide +kernel) rfl rfl (Nat.le_of_ble_eq_true rfl) dX2_init_22 (fun H locs hP hD hS => ?_)
  have hP : va_P (dC, dI) vwCl [(q, .inr (3, [.int a1, .int a3, .int a2, .int a4, .int 0, .int 0, .int 0, .int 0, .int 0, .int 0, .int 0, .int 0, .int 0, .int 0, .int 0, .int 0, .int 0]))] H := hP
  have hD : va_D (fun y => y = q) [(q, .inr (3, [.int a1, .int a3, .int a2, .int a4, .int 0, .int 0, .int 0, .int 0, .int 0, .int 0, .int 0, .int 0, .int 0, .int 0, .int 0, .int 0, .int 0]))] := hD
  refine lv_aload_n hx hb dX2_init_25 rfl (lv_at hl 0 rfl) ?_
  refine lv_iload hx hb dX2_init_26 (lv_at hl 5 rfl) ?_
  refine va_put (D := (dC, dI)) (ci := 3) (v := .int a5) (ty := .int) (C := RX2) (T := TX2) (N := 17) hx hb hts inX2 tyX2 tyX2_ok nmX2 hown hK hP hD hS 0 rfl rfl 4 (by decide) (hts _ iw_172) (fun _ h9 => h9) rfl (by decide +kernel) rfl rfl (Nat.le_of_ble_eq_true rfl) dX2_init_28 (fun H locs hP hD hS => ?_)
  have hP : va_P (dC, dI) vwCl [(q, .inr (3, [.int a1, .int a3, .int a2, .int a4, .int a5, .int 0, .int 0, .int 0, .int 0, .int 0, .int 0, .int 0, .int 0, .int 0, .int 0, .int 0, .int 0]))] H := hP
  have hD : va_D (fun y => y = q) [(q, .inr (3, [.int a1, .int a3, .int a2, .int a4, .int a5, .int 0, .int 0, .int 0, .int 0, .int 0, .int 0, .int 0, .int 0, .int 0, .int 0, .int 0, .int 0]))] := hD
  refine lv_aload_n hx hb dX2_init_31 rfl (lv_at hl 0 rfl) ?_
  refine lv_iload hx hb dX2_init_32 (lv_at hl 6 rfl) ?_
  refine va_put (D := (dC, dI)) (ci := 3) (v := .int a6) (ty := .int) (C := RX2) (T := TX2) (N := 17) hx hb hts inX2 tyX2 tyX2_ok nmX2 hown hK hP hD hS 0 rfl rfl 5 (by decide) (hts _ iw_173) (fun _ h9 => h9) rfl (by decide +kernel) rfl rfl (Nat.le_of_ble_eq_true rfl) dX2_init_34 (fun H locs hP hD hS => ?_)
  have hP : va_P (dC, dI) vwCl [(q, .inr (3, [.int a1, .int a3, .int a2, .int a4, .int a5, .int a6, .int 0, .int 0, .int 0, .int 0, .int 0, .int 0, .int 0, .int 0, .int 0, .int 0, .int 0]))] H := hP
  have hD : va_D (fun y => y = q) [(q, .inr (3, [.int a1, .int a3, .int a2, .int a4, .int a5, .int a6, .int 0, .int 0, .int 0, .int 0, .int 0, .int 0, .int 0, .int 0, .int 0, .int 0, .int 0]))] := hD
  refine lv_aload_n hx hb dX2_init_37 rfl (lv_at hl 0 rfl) ?_
  refine lv_iconst (v := 0) hx hb dX2_init_38 (by decide) ?_
  refine va_put (D := (dC, dI)) (ci := 3) (v := .int 0) (ty := .int) (C := RX2) (T := TX2) (N := 17) hx hb hts inX2 tyX2 tyX2_ok nmX2 hown hK hP hD hS 0 rfl rfl 7 (by decide) (hts _ iw_175) (fun _ h9 => h9) rfl (by decide +kernel) rfl rfl (Nat.le_of_ble_eq_true rfl) dX2_init_39 (fun H locs hP hD hS => ?_)
  have hP : va_P (dC, dI) vwCl [(q, .inr (3, [.int a1, .int a3, .int a2, .int a4, .int a5, .int a6, .int 0, .int 0, .int 0, .int 0, .int 0, .int 0, .int 0, .int 0, .int 0, .int 0, .int 0]))] H := hP
  have hD : va_D (fun y => y = q) [(q, .inr (3, [.int a1, .int a3, .int a2, .int a4, .int a5, .int a6, .int 0, .int 0, .int 0, .int 0, .int 0, .int 0, .int 0, .int 0, .int 0, .int 0, .int 0]))] := hD
  refine lv_aload_n hx hb dX2_init_42 rfl (lv_at hl 0 rfl) ?_
  refine lv_bipush (v := 10) hx hb dX2_init_43 (by decide) ?_
  refine va_put (D := (dC, dI)) (ci := 3) (v := .int 10) (ty := .int) (C := RX2) (T := TX2) (N := 17) hx hb hts inX2 tyX2 tyX2_ok nmX2 hown hK hP hD hS 0 rfl rfl 14 (by decide) (hts _ iw_189) (fun _ h9 => h9) rfl (by decide +kernel) rfl rfl (Nat.le_of_ble_eq_true rfl) dX2_init_45 (fun H locs hP hD hS => ?_)
  have hP : va_P (dC, dI) vwCl [(q, .inr (3, [.int a1, .int a3, .int a2, .int a4, .int a5, .int a6, .int 0, .int 0, .int 0, .int 0, .int 0, .int 0, .int 0, .int 0, .int 10, .int 0, .int 0]))] H := hP
  have hD : va_D (fun y => y = q) [(q, .inr (3, [.int a1, .int a3, .int a2, .int a4, .int a5, .int a6, .int 0, .int 0, .int 0, .int 0, .int 0, .int 0, .int 0, .int 0, .int 10, .int 0, .int 0]))] := hD
  refine W.learn (fun lr1 lr2 lr3 => ?_)
  exact r_v hx hb hr hlocks hS dX2_init_48 ⟨rfl, hP, hSz.of lr1 (Nat.le_trans lr3 (by decide)), lr2⟩
