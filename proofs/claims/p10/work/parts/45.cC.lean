abbrev B_q_X3_rule (dC : Nat → ClassId) (dI : Nat → Nat → Nat) (z : Nat) (mi : Nat) (A : Nat → Prop) (bs : Nat) (cp : Nat) (h0 : Nat) (la : Nat → Nat) (sA : Nat → Nat) (cA : Nat → Nat) (ns : Nat) (nc : Nat) (dr : Nat → Prop) (X : Nat → Int32) (P : Nat → Prop) (tr : Nat → Int32) (nl : Nat) (nq : Nat) (rs : Nat) (a1 : Int32) : Option Value → Heap → Prop := fun v H => ∃ (r : Int32) (X1 : Nat → Int32), v = some (.int r) ∧ ((badR a1 = some r ∧ ∀ k, X1 k = X k) ∨ (badR a1 = none ∧ r = X 6 ∧ X1 6 = a1 ∧ ∀ k, k ≠ 6 → X1 k = X k)) ∧ Cw dC dI z A bs cp h0 la sA cA ns nc dr X1 P tr nl nq rs H
set_option maxHeartbeats 8000000 in
set_option maxRecDepth 20000 in
theorem q_X3_rule (l : Launch) (dC : Nat → ClassId) (dI : Nat → Nat → Nat) (z : Nat) (mi : Nat) (A : Nat → Prop) (bs : Nat) (cp : Nat) (h0 : Nat) (la : Nat → Nat) (sA : Nat → Nat) (cA : Nat → Nat) (ns : Nat) (nc : Nat) (dr : Nat → Prop) (X : Nat → Int32) (P : Nat → Prop) (tr : Nat → Int32) (nl : Nat) (nq : Nat) (rs : Nat) (a1 : Int32) : Met l yX3_rule (cws yX3_rule cX3_rule 3 (some .int)) { frames := 1, cells := 0, slots := 0, locals := 22 } (va_Pc [.ref h0, .int a1] (fun U => KZ dC dI z mi A U ∧ Cw dC dI z A bs cp h0 la sA cA ns nc dr X P tr nl nq rs U.heap)) (Qg (B_q_X3_rule dC dI z mi A bs cp h0 la sA cA ns nc dr X P tr nl nq rs a1) A) 0 0 A := by
  refine m_start (KK := KZ dC dI z mi A) (Pw := Cw dC dI z A bs cp h0 la sA cA ns nc dr X P tr nl nq rs) (by decide) (Nat.le_of_ble_eq_true rfl) ?_
  intro p e s m below meth c ls S hr hlocks hin hKZ hW hS hl
  obtain ⟨hx, hb, hml, hown, hts⟩ := id S
  have hK := hKZ.1
  obtain ⟨hns, hnc, hnl, ag, hag, hXg, hnq⟩ := id hW.2.2.2.2.2.2
  have hl : lv_has ls 3 [(0, .ref h0), (1, .int a1)] := hl
  refine lv_iload_n hx hb dX3_rule_0 rfl (lv_at hl 1 rfl) ?_
  refine lv_if_lt (tgt := 9) hx hb dX3_rule_1 (by decide) (fun c_1 => ?_) (fun c_1 => ?_)
  · skip
    have i_1 : a1.toInt < 0 := by have h9 := pz_lt c_1; exact h9
    refine lv_aload_n hx hb dX3_rule_9 rfl (lv_at hl 0 rfl) ?_
    refine lv_iconst (v := (-1)) hx hb dX3_rule_10 (by decide) ?_
    refine c_v (Pw := Cw dC dI z A bs cp h0 la sA cA ns nc dr X P tr nl nq rs) (n := 1) (As := [.int (-1)]) (rest := []) S (q_X3_refuse l dC dI z mi A bs cp h0 la sA cA ns nc dr X P tr nl nq rs (-1)) iw_153 iw_150 iw_152 iw_0 iw_57 (by decide +kernel) rfl ⟨rfl, rfl, Nat.le_of_ble_eq_true rfl, Nat.le_of_ble_eq_true rfl⟩ KZ.blind (D_recv hK hW) (hKZ.at hS (fun _ h9 => h9)) hW hl.1 rfl (Nat.le_of_ble_eq_true rfl) dX3_rule_11 ⟨Nat.le_refl _, Nat.le_refl _⟩ hS (fun _ h9 => h9) (fun v9 H locs hB hz9 hk9 hS => ?_)
    refine W.widen (k := 0) (n := 0) (Nat.le_refl 0) (Nat.le_refl 0) ?_
    obtain ⟨_, rfl, rfl, hW⟩ := hB
    refine W.eq (g2 := F0 m 14 ls [.int (-1)]) rfl ?_
    exact r_i (v := (-1)) hx hb hr hlocks hS dX3_rule_14 (⟨_, X, rfl, Or.inl ⟨by unfold badR; (repeat' split) <;> first | rfl | (exfalso; omega), fun _ => rfl⟩, hW⟩)
  · skip
    have i_1 : a1.toInt ≥ 0 := by have h9 := pz_nlt c_1; exact h9
    refine lv_iload_n hx hb dX3_rule_4 rfl (lv_at hl 1 rfl) ?_
    refine lv_iconst (v := 3) hx hb dX3_rule_5 (by decide) ?_
    refine lv_icmp_le (tgt := 15) hx hb dX3_rule_6 (by decide) (fun c_2 => ?_) (fun c_2 => ?_)
    · skip
      have i_2 : a1.toInt ≤ 3 := by have h9 := pz_le c_2; exact h9
      refine lv_aload_n hx hb dX3_rule_15 rfl (lv_at hl 0 rfl) ?_
      refine D_get S hK hW 6 (by decide) (fun _ => rfl) iw_111 rfl dX3_rule_16 (fun x_3 hx_3 => ?_)
      replace hx_3 := hx_3 (by decide) (by decide)
      refine lv_istore_n (lv' := [(2, .int x_3), (0, .ref h0), (1, .int a1)]) hx hb dX3_rule_19 rfl hl (by decide) rfl (fun ls hl => ?_)
      refine lv_aload_n hx hb dX3_rule_20 rfl (lv_at hl 1 rfl) ?_
      refine lv_iload_n hx hb dX3_rule_21 rfl (lv_at hl 2 rfl) ?_
      refine D_putx S hK hW hS 6 (by decide) (fun _ => rfl) iw_111 rfl rfl (by decide +kernel) rfl (va_up X 6 a1) (fun I9 h9 => up_ag h9) (hW.2.2.2.2.2.2.up (by decide)) dX3_rule_22 (fun H locs hW hS => ?_)
      refine lv_iload_n hx hb dX3_rule_25 rfl (lv_at hl 0 rfl) ?_
      exact r_i (v := x_3) hx hb hr hlocks hS dX3_rule_26 (⟨_, _, rfl, Or.inr ⟨by unfold badR; (repeat' split) <;> first | rfl | (exfalso; omega), hx_3, vu_s, fun k h9 => vu_n h9⟩, hW⟩)
    · skip
      have i_2 : a1.toInt > 3 := by have h9 := pz_nle c_2; exact h9
      refine lv_aload_n hx hb dX3_rule_9 rfl (lv_at hl 0 rfl) ?_
      refine lv_iconst (v := (-1)) hx hb dX3_rule_10 (by decide) ?_
      refine c_v (Pw := Cw dC dI z A bs cp h0 la sA cA ns nc dr X P tr nl nq rs) (n := 1) (As := [.int (-1)]) (rest := []) S (q_X3_refuse l dC dI z mi A bs cp h0 la sA cA ns nc dr X P tr nl nq rs (-1)) iw_153 iw_150 iw_152 iw_0 iw_57 (by decide +kernel) rfl ⟨rfl, rfl, Nat.le_of_ble_eq_true rfl, Nat.le_of_ble_eq_true rfl⟩ KZ.blind (D_recv hK hW) (hKZ.at hS (fun _ h9 => h9)) hW hl.1 rfl (Nat.le_of_ble_eq_true rfl) dX3_rule_11 ⟨Nat.le_refl _, Nat.le_refl _⟩ hS (fun _ h9 => h9) (fun v9 H locs hB hz9 hk9 hS => ?_)
      refine W.widen (k := 0) (n := 0) (Nat.le_refl 0) (Nat.le_refl 0) ?_
      obtain ⟨_, rfl, rfl, hW⟩ := hB
      refine W.eq (g2 := F0 m 14 ls [.int (-1)]) rfl ?_
      exact r_i (v := (-1)) hx hb hr hlocks hS dX3_rule_14 (⟨_, X, rfl, Or.inl ⟨by unfold badR; (repeat' split) <;> first | rfl | (exfalso; omega), fun _ => rfl⟩, hW⟩)

abbrev B_q_X3_limit (dC : Nat → ClassId) (dI : Nat → Nat → Nat) (z : Nat) (mi : Nat) (A : Nat → Prop) (bs : Nat) (cp : Nat) (h0 : Nat) (la : Nat → Nat) (sA : Nat → Nat) (cA : Nat → Nat) (ns : Nat) (nc : Nat) (dr : Nat → Prop) (X : Nat → Int32) (P : Nat → Prop) (tr : Nat → Int32) (nl : Nat) (nq : Nat) (rs : Nat) (a1 : Int32) : Option Value → Heap → Prop := fun v H => ∃ (r : Int32) (X1 : Nat → Int32), v = some (.int r) ∧ ((badN a1 1 10 = some r ∧ ∀ k, X1 k = X k) ∨ (badN a1 1 10 = none ∧ r = X 7 ∧ X1 7 = a1 ∧ ∀ k, k ≠ 7 → X1 k = X k)) ∧ Cw dC dI z A bs cp h0 la sA cA ns nc dr X1 P tr nl nq rs H
set_option maxHeartbeats 8000000 in
set_option maxRecDepth 20000 in
theorem q_X3_limit (l : Launch) (dC : Nat → ClassId) (dI : Nat → Nat → Nat) (z : Nat) (mi : Nat) (A : Nat → Prop) (bs : Nat) (cp : Nat) (h0 : Nat) (la : Nat → Nat) (sA : Nat → Nat) (cA : Nat → Nat) (ns : Nat) (nc : Nat) (dr : Nat → Prop) (X : Nat → Int32) (P : Nat → Prop) (tr : Nat → Int32) (nl : Nat) (nq : Nat) (rs : Nat) (a1 : Int32) : Met l yX3_limit (cws yX3_limit cX3_limit 4 (some .int)) { frames := 1, cells := 0, slots := 0, locals := 22 } (va_Pc [.ref h0, .int a1] (fun U => KZ dC dI z mi A U ∧ Cw dC dI z A bs cp h0 la sA cA ns nc dr X P tr nl nq rs U.heap)) (Qg (B_q_X3_limit dC dI z mi A bs cp h0 la sA cA ns nc dr X P tr nl nq rs a1) A) 0 0 A := by
  refine m_start (KK := KZ dC dI z mi A) (Pw := Cw dC dI z A bs cp h0 la sA cA ns nc dr X P tr nl nq rs) (by decide) (Nat.le_of_ble_eq_true rfl) ?_
  intro p e s m below meth c ls S hr hlocks hin hKZ hW hS hl
  obtain ⟨hx, hb, hml, hown, hts⟩ := id S
  have hK := hKZ.1
  obtain ⟨hns, hnc, hnl, ag, hag, hXg, hnq⟩ := id hW.2.2.2.2.2.2
  have hl : lv_has ls 4 [(0, .ref h0), (1, .int a1)] := hl
  refine lv_iload_n hx hb dX3_limit_0 rfl (lv_at hl 1 rfl) ?_
  refine lv_iconst (v := 1) hx hb dX3_limit_1 (by decide) ?_
  refine lv_bipush (v := 10) hx hb dX3_limit_2 (by decide) ?_
  refine c_s (Pw := Cw dC dI z A bs cp h0 la sA cA ns nc dr X P tr nl nq rs) (n := 3) (As := [.int a1, .int 1, .int 10]) (rest := []) S (q_X3_faultOf l A (Cw dC dI z A bs cp h0 la sA cA ns nc dr X P tr nl nq rs) a1 1 10) iw_312 iw_310 iw_311 iw_57 (by decide +kernel) rfl ⟨rfl, rfl, Nat.le_of_ble_eq_true rfl, Nat.le_of_ble_eq_true rfl⟩ (fun _ _ _ _ _ => trivial) (fun _ _ _ => trivial) hW hl.1 rfl (Nat.le_of_ble_eq_true rfl) dX3_limit_4 ⟨Nat.le_refl _, Nat.le_refl _⟩ hS (fun _ h9 => h9) (fun v9 H locs hB hz9 hk9 hS => ?_)
  refine W.widen (k := 0) (n := 0) (Nat.le_refl 0) (Nat.le_refl 0) ?_
  obtain ⟨r_1, rfl, hf_1, hW⟩ := hB
  refine W.eq (g2 := F0 m 7 ls [.int r_1]) rfl ?_
  rcases hf_1 with ⟨fa_1, rfl⟩ | ⟨fa_1, fb_1, rfl⟩ | ⟨fa_1, fb_1, rfl⟩
  · skip
    have fa_1 : a1.toInt < 1 := by have h9 := fa_1; exact h9
    refine lv_istore_n (lv' := [(2, .int (-4)), (0, .ref h0), (1, .int a1)]) hx hb dX3_limit_7 rfl hl (by decide) rfl (fun ls hl => ?_)
    refine lv_iload_n hx hb dX3_limit_8 rfl (lv_at hl 0 rfl) ?_
    refine lv_if_eq (tgt := 18) hx hb dX3_limit_9 (by decide) (fun c_2 => absurd c_2 (by decide)) (fun c_2 => ?_)
    refine lv_aload_n hx hb dX3_limit_12 rfl (lv_at hl 1 rfl) ?_
    refine lv_iload_n hx hb dX3_limit_13 rfl (lv_at hl 0 rfl) ?_
    refine c_v (Pw := Cw dC dI z A bs cp h0 la sA cA ns nc dr X P tr nl nq rs) (n := 1) (As := [.int (-4)]) (rest := []) S (q_X3_refuse l dC dI z mi A bs cp h0 la sA cA ns nc dr X P tr nl nq rs (-4)) iw_153 iw_150 iw_152 iw_0 iw_57 (by decide +kernel) rfl ⟨rfl, rfl, Nat.le_of_ble_eq_true rfl, Nat.le_of_ble_eq_true rfl⟩ KZ.blind (D_recv hK hW) (hKZ.at hS (fun _ h9 => h9)) hW hl.1 rfl (Nat.le_of_ble_eq_true rfl) dX3_limit_14 ⟨Nat.le_refl _, Nat.le_refl _⟩ hS (fun _ h9 => h9) (fun v9 H locs hB hz9 hk9 hS => ?_)
    refine W.widen (k := 0) (n := 0) (Nat.le_refl 0) (Nat.le_refl 0) ?_
    obtain ⟨_, rfl, rfl, hW⟩ := hB
    refine W.eq (g2 := F0 m 17 ls [.int (-4)]) rfl ?_
    exact r_i (v := (-4)) hx hb hr hlocks hS dX3_limit_17 (⟨_, X, rfl, Or.inl ⟨by unfold badN; (repeat' split) <;> first | rfl | (exfalso; omega), fun _ => rfl⟩, hW⟩)
  · skip
    have fa_1 : 1 ≤ a1.toInt := by have h9 := fa_1; exact h9
    have fb_1 : 10 < a1.toInt := by have h9 := fb_1; exact h9
    refine lv_istore_n (lv' := [(2, .int (-6)), (0, .ref h0), (1, .int a1)]) hx hb dX3_limit_7 rfl hl (by decide) rfl (fun ls hl => ?_)
    refine lv_iload_n hx hb dX3_limit_8 rfl (lv_at hl 0 rfl) ?_
    refine lv_if_eq (tgt := 18) hx hb dX3_limit_9 (by decide) (fun c_3 => absurd c_3 (by decide)) (fun c_3 => ?_)
    refine lv_aload_n hx hb dX3_limit_12 rfl (lv_at hl 1 rfl) ?_
    refine lv_iload_n hx hb dX3_limit_13 rfl (lv_at hl 0 rfl) ?_
    refine c_v (Pw := Cw dC dI z A bs cp h0 la sA cA ns nc dr X P tr nl nq rs) (n := 1) (As := [.int (-6)]) (rest := []) S (q_X3_refuse l dC dI z mi A bs cp h0 la sA cA ns nc dr X P tr nl nq rs (-6)) iw_153 iw_150 iw_152 iw_0 iw_57 (by decide +kernel) rfl ⟨rfl, rfl, Nat.le_of_ble_eq_true rfl, Nat.le_of_ble_eq_true rfl⟩ KZ.blind (D_recv hK hW) (hKZ.at hS (fun _ h9 => h9)) hW hl.1 rfl (Nat.le_of_ble_eq_true rfl) dX3_limit_14 ⟨Nat.le_refl _, Nat.le_refl _⟩ hS (fun _ h9 => h9) (fun v9 H locs hB hz9 hk9 hS => ?_)
    refine W.widen (k := 0) (n := 0) (Nat.le_refl 0) (Nat.le_refl 0) ?_
    obtain ⟨_, rfl, rfl, hW⟩ := hB
    refine W.eq (g2 := F0 m 17 ls [.int (-6)]) rfl ?_
    exact r_i (v := (-6)) hx hb hr hlocks hS dX3_limit_17 (⟨_, X, rfl, Or.inl ⟨by unfold badN; (repeat' split) <;> first | rfl | (exfalso; omega), fun _ => rfl⟩, hW⟩)
  · skip
    have fa_1 : 1 ≤ a1.toInt := by have h9 := fa_1; exact h9
    have fb_1 : a1.toInt ≤ 10 := by have h9 := fb_1; exact h9
    refine lv_istore_n (lv' := [(2, .int 0), (0, .ref h0), (1, .int a1)]) hx hb dX3_limit_7 rfl hl (by decide) rfl (fun ls hl => ?_)
    refine lv_iload_n hx hb dX3_limit_8 rfl (lv_at hl 0 rfl) ?_
    refine lv_if_eq (tgt := 18) hx hb dX3_limit_9 (by decide) (fun c_4 => ?_) (fun c_4 => absurd (by decide) c_4)
    refine lv_aload_n hx hb dX3_limit_18 rfl (lv_at hl 1 rfl) ?_
    refine D_get S hK hW 7 (by decide) (fun _ => rfl) iw_112 rfl dX3_limit_19 (fun x_5 hx_5 => ?_)
    replace hx_5 := hx_5 (by decide) (by decide)
    refine lv_istore_n (lv' := [(3, .int x_5), (2, .int 0), (0, .ref h0), (1, .int a1)]) hx hb dX3_limit_22 rfl hl (by decide) rfl (fun ls hl => ?_)
    refine lv_aload_n hx hb dX3_limit_23 rfl (lv_at hl 2 rfl) ?_
    refine lv_iload_n hx hb dX3_limit_24 rfl (lv_at hl 3 rfl) ?_
    refine D_putx S hK hW hS 7 (by decide) (fun _ => rfl) iw_112 rfl rfl (by decide +kernel) rfl (va_up X 7 a1) (fun I9 h9 => up_ag h9) (hW.2.2.2.2.2.2.up (by decide)) dX3_limit_25 (fun H locs hW hS => ?_)
    refine lv_iload_n hx hb dX3_limit_28 rfl (lv_at hl 0 rfl) ?_
    exact r_i (v := x_5) hx hb hr hlocks hS dX3_limit_29 (⟨_, _, rfl, Or.inr ⟨by unfold badN; (repeat' split) <;> first | rfl | (exfalso; omega), hx_5, vu_s, fun k h9 => vu_n h9⟩, hW⟩)

abbrev B_q_X3_budget (dC : Nat → ClassId) (dI : Nat → Nat → Nat) (z : Nat) (mi : Nat) (A : Nat → Prop) (bs : Nat) (cp : Nat) (h0 : Nat) (la : Nat → Nat) (sA : Nat → Nat) (cA : Nat → Nat) (ns : Nat) (nc : Nat) (dr : Nat → Prop) (X : Nat → Int32) (P : Nat → Prop) (tr : Nat → Int32) (nl : Nat) (nq : Nat) (rs : Nat) (a1 : Int32) : Option Value → Heap → Prop := fun v H => ∃ (r : Int32) (X1 : Nat → Int32), v = some (.int r) ∧ ((badN a1 0 100 = some r ∧ ∀ k, X1 k = X k) ∨ (badN a1 0 100 = none ∧ r = X 8 ∧ X1 8 = a1 ∧ ∀ k, k ≠ 8 → X1 k = X k)) ∧ Cw dC dI z A bs cp h0 la sA cA ns nc dr X1 P tr nl nq rs H
set_option maxHeartbeats 8000000 in
set_option maxRecDepth 20000 in
theorem q_X3_budget (l : Launch) (dC : Nat → ClassId) (dI : Nat → Nat → Nat) (z : Nat) (mi : Nat) (A : Nat → Prop) (bs : Nat) (cp : Nat) (h0 : Nat) (la : Nat → Nat) (sA : Nat → Nat) (cA : Nat → Nat) (ns : Nat) (nc : Nat) (dr : Nat → Prop) (X : Nat → Int32) (P : Nat → Prop) (tr : Nat → Int32) (nl : Nat) (nq : Nat) (rs : Nat) (a1 : Int32) : Met l yX3_budget (cws yX3_budget cX3_budget 4 (some .int)) { frames := 1, cells := 0, slots := 0, locals := 22 } (va_Pc [.ref h0, .int a1] (fun U => KZ dC dI z mi A U ∧ Cw dC dI z A bs cp h0 la sA cA ns nc dr X P tr nl nq rs U.heap)) (Qg (B_q_X3_budget dC dI z mi A bs cp h0 la sA cA ns nc dr X P tr nl nq rs a1) A) 0 0 A := by
  refine m_start (KK := KZ dC dI z mi A) (Pw := Cw dC dI z A bs cp h0 la sA cA ns nc dr X P tr nl nq rs) (by decide) (Nat.le_of_ble_eq_true rfl) ?_
  intro p e s m below meth c ls S hr hlocks hin hKZ hW hS hl
  obtain ⟨hx, hb, hml, hown, hts⟩ := id S
  have hK := hKZ.1
  obtain ⟨hns, hnc, hnl, ag, hag, hXg, hnq⟩ := id hW.2.2.2.2.2.2
  have hl : lv_has ls 4 [(0, .ref h0), (1, .int a1)] := hl
  refine lv_iload_n hx hb dX3_budget_0 rfl (lv_at hl 1 rfl) ?_
  refine lv_iconst (v := 0) hx hb dX3_budget_1 (by decide) ?_
  refine lv_bipush (v := 100) hx hb dX3_budget_2 (by decide) ?_
  refine c_s (Pw := Cw dC dI z A bs cp h0 la sA cA ns nc dr X P tr nl nq rs) (n := 3) (As := [.int a1, .int 0, .int 100]) (rest := []) S (q_X3_faultOf l A (Cw dC dI z A bs cp h0 la sA cA ns nc dr X P tr nl nq rs) a1 0 100) iw_312 iw_310 iw_311 iw_57 (by decide +kernel) rfl ⟨rfl, rfl, Nat.le_of_ble_eq_true rfl, Nat.le_of_ble_eq_true rfl⟩ (fun _ _ _ _ _ => trivial) (fun _ _ _ => trivial) hW hl.1 rfl (Nat.le_of_ble_eq_true rfl) dX3_budget_4 ⟨Nat.le_refl _, Nat.le_refl _⟩ hS (fun _ h9 => h9) (fun v9 H locs hB hz9 hk9 hS => ?_)
  refine W.widen (k := 0) (n := 0) (Nat.le_refl 0) (Nat.le_refl 0) ?_
  obtain ⟨r_1, rfl, hf_1, hW⟩ := hB
  refine W.eq (g2 := F0 m 7 ls [.int r_1]) rfl ?_
  rcases hf_1 with ⟨fa_1, rfl⟩ | ⟨fa_1, fb_1, rfl⟩ | ⟨fa_1, fb_1, rfl⟩
  · skip
    have fa_1 : a1.toInt < 0 := by have h9 := fa_1; exact h9
    refine lv_istore_n (lv' := [(2, .int (-4)), (0, .ref h0), (1, .int a1)]) hx hb dX3_budget_7 rfl hl (by decide) rfl (fun ls hl => ?_)
    refine lv_iload_n hx hb dX3_budget_8 rfl (lv_at hl 0 rfl) ?_
    refine lv_if_eq (tgt := 18) hx hb dX3_budget_9 (by decide) (fun c_2 => absurd c_2 (by decide)) (fun c_2 => ?_)
    refine lv_aload_n hx hb dX3_budget_12 rfl (lv_at hl 1 rfl) ?_
    refine lv_iload_n hx hb dX3_budget_13 rfl (lv_at hl 0 rfl) ?_
    refine c_v (Pw := Cw dC dI z A bs cp h0 la sA cA ns nc dr X P tr nl nq rs) (n := 1) (As := [.int (-4)]) (rest := []) S (q_X3_refuse l dC dI z mi A bs cp h0 la sA cA ns nc dr X P tr nl nq rs (-4)) iw_153 iw_150 iw_152 iw_0 iw_57 (by decide +kernel) rfl ⟨rfl, rfl, Nat.le_of_ble_eq_true rfl, Nat.le_of_ble_eq_true rfl⟩ KZ.blind (D_recv hK hW) (hKZ.at hS (fun _ h9 => h9)) hW hl.1 rfl (Nat.le_of_ble_eq_true rfl) dX3_budget_14 ⟨Nat.le_refl _, Nat.le_refl _⟩ hS (fun _ h9 => h9) (fun v9 H locs hB hz9 hk9 hS => ?_)
    refine W.widen (k := 0) (n := 0) (Nat.le_refl 0) (Nat.le_refl 0) ?_
    obtain ⟨_, rfl, rfl, hW⟩ := hB
    refine W.eq (g2 := F0 m 17 ls [.int (-4)]) rfl ?_
    exact r_i (v := (-4)) hx hb hr hlocks hS dX3_budget_17 (⟨_, X, rfl, Or.inl ⟨by unfold badN; (repeat' split) <;> first | rfl | (exfalso; omega), fun _ => rfl⟩, hW⟩)
  · skip
    have fa_1 : 0 ≤ a1.toInt := by have h9 := fa_1; exact h9
    have fb_1 : 100 < a1.toInt := by have h9 := fb_1; exact h9
    refine lv_istore_n (lv' := [(2, .int (-6)), (0, .ref h0), (1, .int a1)]) hx hb dX3_budget_7 rfl hl (by decide) rfl (fun ls hl => ?_)
    refine lv_iload_n hx hb dX3_budget_8 rfl (lv_at hl 0 rfl) ?_
    refine lv_if_eq (tgt := 18) hx hb dX3_budget_9 (by decide) (fun c_3 => absurd c_3 (by decide)) (fun c_3 => ?_)
    refine lv_aload_n hx hb dX3_budget_12 rfl (lv_at hl 1 rfl) ?_
    refine lv_iload_n hx hb dX3_budget_13 rfl (lv_at hl 0 rfl) ?_
    refine c_v (Pw := Cw dC dI z A bs cp h0 la sA cA ns nc dr X P tr nl nq rs) (n := 1) (As := [.int (-6)]) (rest := []) S (q_X3_refuse l dC dI z mi A bs cp h0 la sA cA ns nc dr X P tr nl nq rs (-6)) iw_153 iw_150 iw_152 iw_0 iw_57 (by decide +kernel) rfl ⟨rfl, rfl, Nat.le_of_ble_eq_true rfl, Nat.le_of_ble_eq_true rfl⟩ KZ.blind (D_recv hK hW) (hKZ.at hS (fun _ h9 => h9)) hW hl.1 rfl (Nat.le_of_ble_eq_true rfl) dX3_budget_14 ⟨Nat.le_refl _, Nat.le_refl _⟩ hS (fun _ h9 => h9) (fun v9 H locs hB hz9 hk9 hS => ?_)
    refine W.widen (k := 0) (n := 0) (Nat.le_refl 0) (Nat.le_refl 0) ?_
    obtain ⟨_, rfl, rfl, hW⟩ := hB
    refine W.eq (g2 := F0 m 17 ls [.int (-6)]) rfl ?_
    exact r_i (v := (-6)) hx hb hr hlocks hS dX3_budget_17 (⟨_, X, rfl, Or.inl ⟨by unfold badN; (repeat' split) <;> first | rfl | (exfalso; omega), fun _ => rfl⟩, hW⟩)
  · skip
    have fa_1 : 0 ≤ a1.toInt := by have h9 := fa_1; exact h9
    have fb_1 : a1.toInt ≤ 100 := by have h9 := fb_1; exact h9
    refine lv_istore_n (lv' := [(2, .int 0), (0, .ref h0), (1, .int a1)]) hx hb dX3_budget_7 rfl hl (by decide) rfl (fun ls hl => ?_)
    refine lv_iload_n hx hb dX3_budget_8 rfl (lv_at hl 0 rfl) ?_
    refine lv_if_eq (tgt := 18) hx hb dX3_budget_9 (by decide) (fun c_4 => ?_) (fun c_4 => absurd (by decide) c_4)
    refine lv_aload_n hx hb dX3_budget_18 rfl (lv_at hl 1 rfl) ?_
    refine D_get S hK hW 8 (by decide) (fun _ => rfl) iw_113 rfl dX3_budget_19 (fun x_5 hx_5 => ?_)
    replace hx_5 := hx_5 (by decide) (by decide)
    refine lv_istore_n (lv' := [(3, .int x_5), (2, .int 0), (0, .ref h0), (1, .int a1)]) hx hb dX3_budget_22 rfl hl (by decide) rfl (fun ls hl => ?_)
    refine lv_aload_n hx hb dX3_budget_23 rfl (lv_at hl 2 rfl) ?_
    refine lv_iload_n hx hb dX3_budget_24 rfl (lv_at hl 3 rfl) ?_
    refine D_putx S hK hW hS 8 (by decide) (fun _ => rfl) iw_113 rfl rfl (by decide +kernel) rfl (va_up X 8 a1) (fun I9 h9 => up_ag h9) (hW.2.2.2.2.2.2.up (by decide)) dX3_budget_25 (fun H locs hW hS => ?_)
    refine lv_iload_n hx hb dX3_budget_28 rfl (lv_at hl 0 rfl) ?_
    exact r_i (v := x_5) hx hb hr hlocks hS dX3_budget_29 (⟨_, _, rfl, Or.inr ⟨by unfold badN; (repeat' split) <;> first | rfl | (exfalso; omega), hx_5, vu_s, fun k h9 => vu_n h9⟩, hW⟩)

abbrev B_q_X3_hedge (dC : Nat → ClassId) (dI : Nat → Nat → Nat) (z : Nat) (mi : Nat) (A : Nat → Prop) (bs : Nat) (cp : Nat) (h0 : Nat) (la : Nat → Nat) (sA : Nat → Nat) (cA : Nat → Nat) (ns : Nat) (nc : Nat) (dr : Nat → Prop) (X : Nat → Int32) (P : Nat → Prop) (tr : Nat → Int32) (nl : Nat) (nq : Nat) (rs : Nat) (a1 : Int32) : Option Value → Heap → Prop := fun v H => ∃ (r : Int32) (X1 : Nat → Int32), v = some (.int r) ∧ ((badN a1 0 500 = some r ∧ ∀ k, X1 k = X k) ∨ (badN a1 0 500 = none ∧ r = X 9 ∧ X1 9 = a1 ∧ ∀ k, k ≠ 9 → X1 k = X k)) ∧ Cw dC dI z A bs cp h0 la sA cA ns nc dr X1 P tr nl nq rs H
set_option maxHeartbeats 8000000 in
set_option maxRecDepth 20000 in
theorem q_X3_hedge (l : Launch) (dC : Nat → ClassId) (dI : Nat → Nat → Nat) (z : Nat) (mi : Nat) (A : Nat → Prop) (bs : Nat) (cp : Nat) (h0 : Nat) (la : Nat → Nat) (sA : Nat → Nat) (cA : Nat → Nat) (ns : Nat) (nc : Nat) (dr : Nat → Prop) (X : Nat → Int32) (P : Nat → Prop) (tr : Nat → Int32) (nl : Nat) (nq : Nat) (rs : Nat) (a1 : Int32) : Met l yX3_hedge (cws yX3_hedge cX3_hedge 4 (some .int)) { frames := 1, cells := 0, slots := 0, locals := 22 } (va_Pc [.ref h0, .int a1] (fun U => KZ dC dI z mi A U ∧ Cw dC dI z A bs cp h0 la sA cA ns nc dr X P tr nl nq rs U.heap)) (Qg (B_q_X3_hedge dC dI z mi A bs cp h0 la sA cA ns nc dr X P tr nl nq rs a1) A) 0 0 A := by
  refine m_start (KK := KZ dC dI z mi A) (Pw := Cw dC dI z A bs cp h0 la sA cA ns nc dr X P tr nl nq rs) (by decide) (Nat.le_of_ble_eq_true rfl) ?_
  intro p e s m below meth c ls S hr hlocks hin hKZ hW hS hl
  obtain ⟨hx, hb, hml, hown, hts⟩ := id S
  have hK := hKZ.1
  obtain ⟨hns, hnc, hnl, ag, hag, hXg, hnq⟩ := id hW.2.2.2.2.2.2
  have hl : lv_has ls 4 [(0, .ref h0), (1, .int a1)] := hl
  refine lv_iload_n hx hb dX3_hedge_0 rfl (lv_at hl 1 rfl) ?_
  refine lv_iconst (v := 0) hx hb dX3_hedge_1 (by decide) ?_
  refine lv_sipush (v := 500) hx hb dX3_hedge_2 (by decide) ?_
  refine c_s (Pw := Cw dC dI z A bs cp h0 la sA cA ns nc dr X P tr nl nq rs) (n := 3) (As := [.int a1, .int 0, .int 500]) (rest := []) S (q_X3_faultOf l A (Cw dC dI z A bs cp h0 la sA cA ns nc dr X P tr nl nq rs) a1 0 500) iw_312 iw_310 iw_311 iw_57 (by decide +kernel) rfl ⟨rfl, rfl, Nat.le_of_ble_eq_true rfl, Nat.le_of_ble_eq_true rfl⟩ (fun _ _ _ _ _ => trivial) (fun _ _ _ => trivial) hW hl.1 rfl (Nat.le_of_ble_eq_true rfl) dX3_hedge_5 ⟨Nat.le_refl _, Nat.le_refl _⟩ hS (fun _ h9 => h9) (fun v9 H locs hB hz9 hk9 hS => ?_)
  refine W.widen (k := 0) (n := 0) (Nat.le_refl 0) (Nat.le_refl 0) ?_
  obtain ⟨r_1, rfl, hf_1, hW⟩ := hB
  refine W.eq (g2 := F0 m 8 ls [.int r_1]) rfl ?_
  rcases hf_1 with ⟨fa_1, rfl⟩ | ⟨fa_1, fb_1, rfl⟩ | ⟨fa_1, fb_1, rfl⟩
  · skip
    have fa_1 : a1.toInt < 0 := by have h9 := fa_1; exact h9
    refine lv_istore_n (lv' := [(2, .int (-4)), (0, .ref h0), (1, .int a1)]) hx hb dX3_hedge_8 rfl hl (by decide) rfl (fun ls hl => ?_)
    refine lv_iload_n hx hb dX3_hedge_9 rfl (lv_at hl 0 rfl) ?_
    refine lv_if_eq (tgt := 19) hx hb dX3_hedge_10 (by decide) (fun c_2 => absurd c_2 (by decide)) (fun c_2 => ?_)
    refine lv_aload_n hx hb dX3_hedge_13 rfl (lv_at hl 1 rfl) ?_
    refine lv_iload_n hx hb dX3_hedge_14 rfl (lv_at hl 0 rfl) ?_
    refine c_v (Pw := Cw dC dI z A bs cp h0 la sA cA ns nc dr X P tr nl nq rs) (n := 1) (As := [.int (-4)]) (rest := []) S (q_X3_refuse l dC dI z mi A bs cp h0 la sA cA ns nc dr X P tr nl nq rs (-4)) iw_153 iw_150 iw_152 iw_0 iw_57 (by decide +kernel) rfl ⟨rfl, rfl, Nat.le_of_ble_eq_true rfl, Nat.le_of_ble_eq_true rfl⟩ KZ.blind (D_recv hK hW) (hKZ.at hS (fun _ h9 => h9)) hW hl.1 rfl (Nat.le_of_ble_eq_true rfl) dX3_hedge_15 ⟨Nat.le_refl _, Nat.le_refl _⟩ hS (fun _ h9 => h9) (fun v9 H locs hB hz9 hk9 hS => ?_)
    refine W.widen (k := 0) (n := 0) (Nat.le_refl 0) (Nat.le_refl 0) ?_
    obtain ⟨_, rfl, rfl, hW⟩ := hB
    refine W.eq (g2 := F0 m 18 ls [.int (-4)]) rfl ?_
    exact r_i (v := (-4)) hx hb hr hlocks hS dX3_hedge_18 (⟨_, X, rfl, Or.inl ⟨by unfold badN; (repeat' split) <;> first | rfl | (exfalso; omega), fun _ => rfl⟩, hW⟩)
  · skip
    have fa_1 : 0 ≤ a1.toInt := by have h9 := fa_1; exact h9
    have fb_1 : 500 < a1.toInt := by have h9 := fb_1; exact h9
    refine lv_istore_n (lv' := [(2, .int (-6)), (0, .ref h0), (1, .int a1)]) hx hb dX3_hedge_8 rfl hl (by decide) rfl (fun ls hl => ?_)
    refine lv_iload_n hx hb dX3_hedge_9 rfl (lv_at hl 0 rfl) ?_
    refine lv_if_eq (tgt := 19) hx hb dX3_hedge_10 (by decide) (fun c_3 => absurd c_3 (by decide)) (fun c_3 => ?_)
    refine lv_aload_n hx hb dX3_hedge_13 rfl (lv_at hl 1 rfl) ?_
    refine lv_iload_n hx hb dX3_hedge_14 rfl (lv_at hl 0 rfl) ?_
    refine c_v (Pw := Cw dC dI z A bs cp h0 la sA cA ns nc dr X P tr nl nq rs) (n := 1) (As := [.int (-6)]) (rest := []) S (q_X3_refuse l dC dI z mi A bs cp h0 la sA cA ns nc dr X P tr nl nq rs (-6)) iw_153 iw_150 iw_152 iw_0 iw_57 (by decide +kernel) rfl ⟨rfl, rfl, Nat.le_of_ble_eq_true rfl, Nat.le_of_ble_eq_true rfl⟩ KZ.blind (D_recv hK hW) (hKZ.at hS (fun _ h9 => h9)) hW hl.1 rfl (Nat.le_of_ble_eq_true rfl) dX3_hedge_15 ⟨Nat.le_refl _, Nat.le_refl _⟩ hS (fun _ h9 => h9) (fun v9 H locs hB hz9 hk9 hS => ?_)
    refine W.widen (k := 0) (n := 0) (Nat.le_refl 0) (Nat.le_refl 0) ?_
    obtain ⟨_, rfl, rfl, hW⟩ := hB
    refine W.eq (g2 := F0 m 18 ls [.int (-6)]) rfl ?_
    exact r_i (v := (-6)) hx hb hr hlocks hS dX3_hedge_18 (⟨_, X, rfl, Or.inl ⟨by unfold badN; (repeat' split) <;> first | rfl | (exfalso; omega), fun _ => rfl⟩, hW⟩)
  · skip
    have fa_1 : 0 ≤ a1.toInt := by have h9 := fa_1; exact h9
    have fb_1 : a1.toInt ≤ 500 := by have h9 := fb_1; exact h9
    refine lv_istore_n (lv' := [(2, .int 0), (0, .ref h0), (1, .int a1)]) hx hb dX3_hedge_8 rfl hl (by decide) rfl (fun ls hl => ?_)
    refine lv_iload_n hx hb dX3_hedge_9 rfl (lv_at hl 0 rfl) ?_
    refine lv_if_eq (tgt := 19) hx hb dX3_hedge_10 (by decide) (fun c_4 => ?_) (fun c_4 => absurd (by decide) c_4)
    refine lv_aload_n hx hb dX3_hedge_19 rfl (lv_at hl 1 rfl) ?_
    refine D_get S hK hW 9 (by decide) (fun _ => rfl) iw_114 rfl dX3_hedge_20 (fun x_5 hx_5 => ?_)
    replace hx_5 := hx_5 (by decide) (by decide)
    refine lv_istore_n (lv' := [(3, .int x_5), (2, .int 0), (0, .ref h0), (1, .int a1)]) hx hb dX3_hedge_23 rfl hl (by decide) rfl (fun ls hl => ?_)
    refine lv_aload_n hx hb dX3_hedge_24 rfl (lv_at hl 2 rfl) ?_
    refine lv_iload_n hx hb dX3_hedge_25 rfl (lv_at hl 3 rfl) ?_
    refine D_putx S hK hW hS 9 (by decide) (fun _ => rfl) iw_114 rfl rfl (by decide +kernel) rfl (va_up X 9 a1) (fun I9 h9 => up_ag h9) (hW.2.2.2.2.2.2.up (by decide)) dX3_hedge_26 (fun H locs hW hS => ?_)
    refine lv_iload_n hx hb dX3_hedge_29 rfl (lv_at hl 0 rfl) ?_
    exact r_i (v := x_5) hx hb hr hlocks hS dX3_hedge_30 (⟨_, _, rfl, Or.inr ⟨by unfold badN; (repeat' split) <;> first | rfl | (exfalso; omega), hx_5, vu_s, fun k h9 => vu_n h9⟩, hW⟩)

abbrev B_q_X3_drain (dC : Nat → ClassId) (dI : Nat → Nat → Nat) (z : Nat) (mi : Nat) (A : Nat → Prop) (bs : Nat) (cp : Nat) (h0 : Nat) (la : Nat → Nat) (sA : Nat → Nat) (cA : Nat → Nat) (ns : Nat) (nc : Nat) (dr : Nat → Prop) (X : Nat → Int32) (P : Nat → Prop) (tr : Nat → Int32) (nl : Nat) (nq : Nat) (rs : Nat) (a1 : Int32) : Option Value → Heap → Prop := fun v H => ∃ (r : Int32) (dr1 : Nat → Prop), v = some (.int r) ∧ (((a1.toInt < 0 ∨ (ns : Int) ≤ a1.toInt) ∧ r = -1 ∧ ∀ k, dr1 k ↔ dr k) ∨ ∃ j, j < ns ∧ a1 = nI j ∧ ((dr j ∧ r = -3 ∧ ∀ k, dr1 k ↔ dr k) ∨ (¬ dr j ∧ ∀ k, dr1 k ↔ (k = j ∨ dr k)))) ∧ Cw dC dI z A bs cp h0 la sA cA ns nc dr1 X P tr nl nq rs H
set_option maxHeartbeats 8000000 in
set_option maxRecDepth 20000 in
theorem q_X3_drain (l : Launch) (dC : Nat → ClassId) (dI : Nat → Nat → Nat) (z : Nat) (mi : Nat) (A : Nat → Prop) (bs : Nat) (cp : Nat) (h0 : Nat) (la : Nat → Nat) (sA : Nat → Nat) (cA : Nat → Nat) (ns : Nat) (nc : Nat) (dr : Nat → Prop) (X : Nat → Int32) (P : Nat → Prop) (tr : Nat → Int32) (nl : Nat) (nq : Nat) (rs : Nat) (a1 : Int32) : Met l yX3_drain (cws yX3_drain cX3_drain 3 (some .int)) { frames := 4, cells := 0, slots := 0, locals := 85 } (va_Pc [.ref h0, .int a1] (fun U => KZ dC dI z mi A U ∧ Cw dC dI z A bs cp h0 la sA cA ns nc dr X P tr nl nq rs U.heap)) (Qg (B_q_X3_drain dC dI z mi A bs cp h0 la sA cA ns nc dr X P tr nl nq rs a1) A) 0 0 A := by
  refine m_start (KK := KZ dC dI z mi A) (Pw := Cw dC dI z A bs cp h0 la sA cA ns nc dr X P tr nl nq rs) (by decide) (Nat.le_of_ble_eq_true rfl) ?_
  intro p e s m below meth c ls S hr hlocks hin hKZ hW hS hl
  obtain ⟨hx, hb, hml, hown, hts⟩ := id S
  have hK := hKZ.1
  obtain ⟨hns, hnc, hnl, ag, hag, hXg, hnq⟩ := id hW.2.2.2.2.2.2
  have hl : lv_has ls 3 [(0, .ref h0), (1, .int a1)] := hl
  refine lv_aload_n hx hb dX3_drain_0 rfl (lv_at hl 0 rfl) ?_
  refine lv_iload_n hx hb dX3_drain_1 rfl (lv_at hl 1 rfl) ?_
  refine c_v (Pw := Cw dC dI z A bs cp h0 la sA cA ns nc dr X P tr nl nq rs) (n := 1) (As := [.int a1]) (rest := []) S (q_X3_serverAt l dC dI z mi A bs cp h0 la sA cA ns nc dr X P tr nl nq rs a1) iw_289 iw_286 iw_288 iw_4 iw_57 (by decide +kernel) rfl ⟨rfl, rfl, Nat.le_of_ble_eq_true rfl, Nat.le_of_ble_eq_true rfl⟩ KZ.blind (D_recv hK hW) (hKZ.at hS (fun _ h9 => h9)) hW hl.1 rfl (Nat.le_of_ble_eq_true rfl) dX3_drain_2 ⟨Nat.le_refl _, Nat.le_refl _⟩ hS (fun _ h9 => h9) (fun v9 H locs hB hz9 hk9 hS => ?_)
  refine W.widen (k := 0) (n := 0) (Nat.le_refl 0) (Nat.le_refl 0) ?_
  obtain ⟨o_1, rfl, ho_1, hW⟩ := hB
  rcases ho_1 with ⟨rfl, hno_1⟩ | ⟨j_1, hj_1, ej_1, rfl⟩
  · skip
    refine W.eq (g2 := F0 m 5 ls [.null]) rfl ?_
    refine lv_astore_nN (lv' := [(2, .null), (0, .ref h0), (1, .int a1)]) hx hb dX3_drain_5 rfl hl (by decide) rfl (fun ls hl => ?_)
    refine lv_aload_nN hx hb dX3_drain_6 rfl (lv_at hl 0 rfl) ?_
    refine lv_ifnonnullN hx hb dX3_drain_7 ?_
    refine lv_aload_n hx hb dX3_drain_10 rfl (lv_at hl 1 rfl) ?_
    refine lv_iconst (v := (-1)) hx hb dX3_drain_11 (by decide) ?_
    refine c_v (Pw := Cw dC dI z A bs cp h0 la sA cA ns nc dr X P tr nl nq rs) (n := 1) (As := [.int (-1)]) (rest := []) S (q_X3_refuse l dC dI z mi A bs cp h0 la sA cA ns nc dr X P tr nl nq rs (-1)) iw_153 iw_150 iw_152 iw_0 iw_57 (by decide +kernel) rfl ⟨rfl, rfl, Nat.le_of_ble_eq_true rfl, Nat.le_of_ble_eq_true rfl⟩ KZ.blind (D_recv hK hW) (hKZ.at hS (fun _ h9 => h9)) hW hl.1 rfl (Nat.le_of_ble_eq_true rfl) dX3_drain_12 ⟨Nat.le_refl _, Nat.le_refl _⟩ hS (fun _ h9 => h9) (fun v9 H locs hB hz9 hk9 hS => ?_)
    refine W.widen (k := 0) (n := 0) (Nat.le_refl 0) (Nat.le_refl 0) ?_
    obtain ⟨_, rfl, rfl, hW⟩ := hB
    refine W.eq (g2 := F0 m 15 ls [.int (-1)]) rfl ?_
    exact r_i (v := (-1)) hx hb hr hlocks hS dX3_drain_15 (⟨_, dr, rfl, Or.inl ⟨hno_1, rfl, fun _ => Iff.rfl⟩, hW⟩)
  · skip
    subst ej_1
    have en_2 : (nI j_1).toInt = ((j_1 : Nat) : Int) := pz_ti (by omega)
    refine W.eq (g2 := F0 m 5 ls [.ref (sA j_1)]) rfl ?_
    refine lv_astore_n (lv' := [(2, .ref (sA j_1)), (0, .ref h0), (1, .int (nI j_1))]) hx hb dX3_drain_5 rfl hl (by decide) rfl (fun ls hl => ?_)
    refine lv_aload_n hx hb dX3_drain_6 rfl (lv_at hl 0 rfl) ?_
    refine lv_ifnonnull (tgt := 16) hx hb dX3_drain_7 (by decide) ?_
    refine lv_aload_n hx hb dX3_drain_16 rfl (lv_at hl 0 rfl) ?_
    obtain ⟨-, x_3, hc_3, h0_3, hd_3⟩ := hW.2.2.1 j_1 (by omega)
    refine S_gp S hK hc_3 7 (by decide) (fun _ => rfl) iw_176 rfl dX3_drain_17 ?_
    refine lv_iconst (v := 3) hx hb dX3_drain_20 (by decide) ?_
    refine lv_icmp_eq (tgt := 32) hx hb dX3_drain_21 (by decide) (fun c_4 => ?_) (fun c_4 => ?_)
    · skip
      have i_4 : (x_3 7).toInt = 3 := by have h9 := pz_eq c_4; exact h9
      refine lv_aload_n hx hb dX3_drain_32 rfl (lv_at hl 1 rfl) ?_
      refine lv_bipush (v := (-3)) hx hb dX3_drain_33 (by decide) ?_
      refine c_v (Pw := Cw dC dI z A bs cp h0 la sA cA ns nc dr X P tr nl nq rs) (n := 1) (As := [.int (-3)]) (rest := []) S (q_X3_refuse l dC dI z mi A bs cp h0 la sA cA ns nc dr X P tr nl nq rs (-3)) iw_153 iw_150 iw_152 iw_0 iw_57 (by decide +kernel) rfl ⟨rfl, rfl, Nat.le_of_ble_eq_true rfl, Nat.le_of_ble_eq_true rfl⟩ KZ.blind (D_recv hK hW) (hKZ.at hS (fun _ h9 => h9)) hW hl.1 rfl (Nat.le_of_ble_eq_true rfl) dX3_drain_35 ⟨Nat.le_refl _, Nat.le_refl _⟩ hS (fun _ h9 => h9) (fun v9 H locs hB hz9 hk9 hS => ?_)
      refine W.widen (k := 0) (n := 0) (Nat.le_refl 0) (Nat.le_refl 0) ?_
      obtain ⟨_, rfl, rfl, hW⟩ := hB
      refine W.eq (g2 := F0 m 38 ls [.int (-3)]) rfl ?_
      exact r_i (v := (-3)) hx hb hr hlocks hS dX3_drain_38 (⟨_, dr, rfl, Or.inr ⟨j_1, by omega, rfl, Or.inl ⟨(hd_3.mpr (Or.inl c_4)), rfl, fun _ => Iff.rfl⟩⟩, hW⟩)
    · skip
      have i_4 : ¬ (x_3 7).toInt = 3 := by have h9 := pz_neq c_4; exact h9
      refine lv_aload_n hx hb dX3_drain_24 rfl (lv_at hl 0 rfl) ?_
      refine S_gp S hK hc_3 7 (by decide) (fun _ => rfl) iw_176 rfl dX3_drain_25 ?_
      refine lv_iconst (v := 4) hx hb dX3_drain_28 (by decide) ?_
      refine lv_icmp_ne (tgt := 39) hx hb dX3_drain_29 (by decide) (fun c_6 => ?_) (fun c_6 => ?_)
      · skip
        have i_6 : ¬ (x_3 7).toInt = 4 := by have h9 := pz_neq c_6; exact h9
        refine lv_aload_n hx hb dX3_drain_39 rfl (lv_at hl 0 rfl) ?_
        refine lv_aload_n hx hb dX3_drain_40 rfl (lv_at hl 0 rfl) ?_
        refine S_gp S hK hc_3 8 (by decide) (fun _ => rfl) iw_178 rfl dX3_drain_41 ?_
        refine lv_if_ne (tgt := 51) hx hb dX3_drain_44 (by decide) (fun c_8 => ?_) (fun c_8 => ?_)
        · skip
          have i_8 : ¬ (x_3 8).toInt = 0 := by have h9 := pz_neq c_8; exact h9
          refine lv_iconst (v := 3) hx hb dX3_drain_51 (by decide) ?_
          have hnd : ¬ dr j_1 := (fun h9 => (hd_3.mp h9).elim (fun e9 => c_4 e9) (fun e9 => c_6 e9))
          refine S_putd S hK hW hS (k := j_1) (by omega) 7 (by decide) (by decide) (fun _ => rfl) iw_176 rfl rfl (by decide +kernel) rfl (fun k9 => k9 = j_1 ∨ dr k9) (fun x9 h9 => ⟨fun _ => (show gDr (3 : Int32) from by unfold gDr; decide), fun _ => Or.inl rfl⟩) (fun i9 h9 => ⟨fun q => q.resolve_left h9, Or.inr⟩) dX3_drain_52 (fun H locs hW hS => ?_)
          refine lv_aload_n hx hb dX3_drain_55 rfl (lv_at hl 0 rfl) ?_
          obtain ⟨-, x_10, hc_10, h0_10, hd_10⟩ := hW.2.2.1 j_1 (by omega)
          refine S_gp S hK hc_10 8 (by decide) (fun _ => rfl) iw_178 rfl dX3_drain_56 ?_
          exact r_i (v := (x_10 8)) hx hb hr hlocks hS dX3_drain_59 (⟨_, _, rfl, Or.inr ⟨j_1, by omega, rfl, Or.inr ⟨hnd, fun _ => Iff.rfl⟩⟩, hW⟩)
        · skip
          have i_8 : (x_3 8).toInt = 0 := by have h9 := pz_eq c_8; exact h9
          refine lv_iconst (v := 4) hx hb dX3_drain_47 (by decide) ?_
          refine lv_goto (tgt := 52) hx hb dX3_drain_48 (by decide) ?_
          have hnd : ¬ dr j_1 := (fun h9 => (hd_3.mp h9).elim (fun e9 => c_4 e9) (fun e9 => c_6 e9))
          refine S_putd S hK hW hS (k := j_1) (by omega) 7 (by decide) (by decide) (fun _ => rfl) iw_176 rfl rfl (by decide +kernel) rfl (fun k9 => k9 = j_1 ∨ dr k9) (fun x9 h9 => ⟨fun _ => (show gDr (4 : Int32) from by unfold gDr; decide), fun _ => Or.inl rfl⟩) (fun i9 h9 => ⟨fun q => q.resolve_left h9, Or.inr⟩) dX3_drain_52 (fun H locs hW hS => ?_)
          refine lv_aload_n hx hb dX3_drain_55 rfl (lv_at hl 0 rfl) ?_
          obtain ⟨-, x_12, hc_12, h0_12, hd_12⟩ := hW.2.2.1 j_1 (by omega)
          refine S_gp S hK hc_12 8 (by decide) (fun _ => rfl) iw_178 rfl dX3_drain_56 ?_
          exact r_i (v := (x_12 8)) hx hb hr hlocks hS dX3_drain_59 (⟨_, _, rfl, Or.inr ⟨j_1, by omega, rfl, Or.inr ⟨hnd, fun _ => Iff.rfl⟩⟩, hW⟩)
      · skip
        have i_6 : (x_3 7).toInt = 4 := by have h9 := pz_eq c_6; exact h9
        refine lv_aload_n hx hb dX3_drain_32 rfl (lv_at hl 1 rfl) ?_
        refine lv_bipush (v := (-3)) hx hb dX3_drain_33 (by decide) ?_
        refine c_v (Pw := Cw dC dI z A bs cp h0 la sA cA ns nc dr X P tr nl nq rs) (n := 1) (As := [.int (-3)]) (rest := []) S (q_X3_refuse l dC dI z mi A bs cp h0 la sA cA ns nc dr X P tr nl nq rs (-3)) iw_153 iw_150 iw_152 iw_0 iw_57 (by decide +kernel) rfl ⟨rfl, rfl, Nat.le_of_ble_eq_true rfl, Nat.le_of_ble_eq_true rfl⟩ KZ.blind (D_recv hK hW) (hKZ.at hS (fun _ h9 => h9)) hW hl.1 rfl (Nat.le_of_ble_eq_true rfl) dX3_drain_35 ⟨Nat.le_refl _, Nat.le_refl _⟩ hS (fun _ h9 => h9) (fun v9 H locs hB hz9 hk9 hS => ?_)
        refine W.widen (k := 0) (n := 0) (Nat.le_refl 0) (Nat.le_refl 0) ?_
        obtain ⟨_, rfl, rfl, hW⟩ := hB
        refine W.eq (g2 := F0 m 38 ls [.int (-3)]) rfl ?_
        exact r_i (v := (-3)) hx hb hr hlocks hS dX3_drain_38 (⟨_, dr, rfl, Or.inr ⟨j_1, by omega, rfl, Or.inl ⟨(hd_3.mpr (Or.inr c_6)), rfl, fun _ => Iff.rfl⟩⟩, hW⟩)

abbrev B_q_X3_back (dC : Nat → ClassId) (dI : Nat → Nat → Nat) (z : Nat) (mi : Nat) (A : Nat → Prop) (bs : Nat) (cp : Nat) (h0 : Nat) (la : Nat → Nat) (sA : Nat → Nat) (cA : Nat → Nat) (ns : Nat) (nc : Nat) (dr : Nat → Prop) (X : Nat → Int32) (P : Nat → Prop) (tr : Nat → Int32) (nl : Nat) (nq : Nat) (rs : Nat) (a1 : Int32) : Option Value → Heap → Prop := fun v H => ∃ (r : Int32) (dr1 : Nat → Prop), v = some (.int r) ∧ (((a1.toInt < 0 ∨ (ns : Int) ≤ a1.toInt) ∧ r = -1 ∧ ∀ k, dr1 k ↔ dr k) ∨ ∃ j, j < ns ∧ a1 = nI j ∧ ((¬ dr j ∧ r = -3 ∧ ∀ k, dr1 k ↔ dr k) ∨ (dr j ∧ r = 1 ∧ ∀ k, dr1 k ↔ (k ≠ j ∧ dr k)))) ∧ Cw dC dI z A bs cp h0 la sA cA ns nc dr1 X P tr nl nq rs H
set_option maxHeartbeats 8000000 in
set_option maxRecDepth 20000 in
theorem q_X3_back (l : Launch) (dC : Nat → ClassId) (dI : Nat → Nat → Nat) (z : Nat) (mi : Nat) (A : Nat → Prop) (bs : Nat) (cp : Nat) (h0 : Nat) (la : Nat → Nat) (sA : Nat → Nat) (cA : Nat → Nat) (ns : Nat) (nc : Nat) (dr : Nat → Prop) (X : Nat → Int32) (P : Nat → Prop) (tr : Nat → Int32) (nl : Nat) (nq : Nat) (rs : Nat) (a1 : Int32) : Met l yX3_back (cws yX3_back cX3_back 3 (some .int)) { frames := 4, cells := 0, slots := 0, locals := 85 } (va_Pc [.ref h0, .int a1] (fun U => KZ dC dI z mi A U ∧ Cw dC dI z A bs cp h0 la sA cA ns nc dr X P tr nl nq rs U.heap)) (Qg (B_q_X3_back dC dI z mi A bs cp h0 la sA cA ns nc dr X P tr nl nq rs a1) A) 0 0 A := by
  refine m_start (KK := KZ dC dI z mi A) (Pw := Cw dC dI z A bs cp h0 la sA cA ns nc dr X P tr nl nq rs) (by decide) (Nat.le_of_ble_eq_true rfl) ?_
  intro p e s m below meth c ls S hr hlocks hin hKZ hW hS hl
  obtain ⟨hx, hb, hml, hown, hts⟩ := id S
  have hK := hKZ.1
  obtain ⟨hns, hnc, hnl, ag, hag, hXg, hnq⟩ := id hW.2.2.2.2.2.2
  have hl : lv_has ls 3 [(0, .ref h0), (1, .int a1)] := hl
  refine lv_aload_n hx hb dX3_back_0 rfl (lv_at hl 0 rfl) ?_
  refine lv_iload_n hx hb dX3_back_1 rfl (lv_at hl 1 rfl) ?_
  refine c_v (Pw := Cw dC dI z A bs cp h0 la sA cA ns nc dr X P tr nl nq rs) (n := 1) (As := [.int a1]) (rest := []) S (q_X3_serverAt l dC dI z mi A bs cp h0 la sA cA ns nc dr X P tr nl nq rs a1) iw_289 iw_286 iw_288 iw_4 iw_57 (by decide +kernel) rfl ⟨rfl, rfl, Nat.le_of_ble_eq_true rfl, Nat.le_of_ble_eq_true rfl⟩ KZ.blind (D_recv hK hW) (hKZ.at hS (fun _ h9 => h9)) hW hl.1 rfl (Nat.le_of_ble_eq_true rfl) dX3_back_2 ⟨Nat.le_refl _, Nat.le_refl _⟩ hS (fun _ h9 => h9) (fun v9 H locs hB hz9 hk9 hS => ?_)
  refine W.widen (k := 0) (n := 0) (Nat.le_refl 0) (Nat.le_refl 0) ?_
  obtain ⟨o_1, rfl, ho_1, hW⟩ := hB
  rcases ho_1 with ⟨rfl, hno_1⟩ | ⟨j_1, hj_1, ej_1, rfl⟩
  · skip
    refine W.eq (g2 := F0 m 5 ls [.null]) rfl ?_
    refine lv_astore_nN (lv' := [(2, .null), (0, .ref h0), (1, .int a1)]) hx hb dX3_back_5 rfl hl (by decide) rfl (fun ls hl => ?_)
    refine lv_aload_nN hx hb dX3_back_6 rfl (lv_at hl 0 rfl) ?_
    refine lv_ifnonnullN hx hb dX3_back_7 ?_
    refine lv_aload_n hx hb dX3_back_10 rfl (lv_at hl 1 rfl) ?_
    refine lv_iconst (v := (-1)) hx hb dX3_back_11 (by decide) ?_
    refine c_v (Pw := Cw dC dI z A bs cp h0 la sA cA ns nc dr X P tr nl nq rs) (n := 1) (As := [.int (-1)]) (rest := []) S (q_X3_refuse l dC dI z mi A bs cp h0 la sA cA ns nc dr X P tr nl nq rs (-1)) iw_153 iw_150 iw_152 iw_0 iw_57 (by decide +kernel) rfl ⟨rfl, rfl, Nat.le_of_ble_eq_true rfl, Nat.le_of_ble_eq_true rfl⟩ KZ.blind (D_recv hK hW) (hKZ.at hS (fun _ h9 => h9)) hW hl.1 rfl (Nat.le_of_ble_eq_true rfl) dX3_back_12 ⟨Nat.le_refl _, Nat.le_refl _⟩ hS (fun _ h9 => h9) (fun v9 H locs hB hz9 hk9 hS => ?_)
    refine W.widen (k := 0) (n := 0) (Nat.le_refl 0) (Nat.le_refl 0) ?_
    obtain ⟨_, rfl, rfl, hW⟩ := hB
    refine W.eq (g2 := F0 m 15 ls [.int (-1)]) rfl ?_
    exact r_i (v := (-1)) hx hb hr hlocks hS dX3_back_15 (⟨_, dr, rfl, Or.inl ⟨hno_1, rfl, fun _ => Iff.rfl⟩, hW⟩)
  · skip
    subst ej_1
    have en_2 : (nI j_1).toInt = ((j_1 : Nat) : Int) := pz_ti (by omega)
    refine W.eq (g2 := F0 m 5 ls [.ref (sA j_1)]) rfl ?_
    refine lv_astore_n (lv' := [(2, .ref (sA j_1)), (0, .ref h0), (1, .int (nI j_1))]) hx hb dX3_back_5 rfl hl (by decide) rfl (fun ls hl => ?_)
    refine lv_aload_n hx hb dX3_back_6 rfl (lv_at hl 0 rfl) ?_
    refine lv_ifnonnull (tgt := 16) hx hb dX3_back_7 (by decide) ?_
    refine lv_aload_n hx hb dX3_back_16 rfl (lv_at hl 0 rfl) ?_
    obtain ⟨-, x_3, hc_3, h0_3, hd_3⟩ := hW.2.2.1 j_1 (by omega)
    refine S_gp S hK hc_3 7 (by decide) (fun _ => rfl) iw_176 rfl dX3_back_17 ?_
    refine lv_iconst (v := 3) hx hb dX3_back_20 (by decide) ?_
    refine lv_icmp_eq (tgt := 39) hx hb dX3_back_21 (by decide) (fun c_4 => ?_) (fun c_4 => ?_)
    · skip
      have i_4 : (x_3 7).toInt = 3 := by have h9 := pz_eq c_4; exact h9
      refine lv_aload_n hx hb dX3_back_39 rfl (lv_at hl 0 rfl) ?_
      refine lv_iconst (v := 2) hx hb dX3_back_40 (by decide) ?_
      have hdd : dr j_1 := (hd_3.mpr (Or.inl c_4))
      refine S_putd S hK hW hS (k := j_1) (by omega) 7 (by decide) (by decide) (fun _ => rfl) iw_176 rfl rfl (by decide +kernel) rfl (fun k9 => k9 ≠ j_1 ∧ dr k9) (fun x9 h9 => ⟨fun q => absurd rfl q.1, fun q => absurd (show gDr (2 : Int32) from q) (gDr_n (by decide))⟩) (fun i9 h9 => ⟨fun q => q.2, fun q => ⟨h9, q⟩⟩) dX3_back_41 (fun H locs hW hS => ?_)
      refine lv_aload_n hx hb dX3_back_44 rfl (lv_at hl 0 rfl) ?_
      refine lv_iconst (v := 0) hx hb dX3_back_45 (by decide) ?_
      refine S_put S hK hW hS (k := j_1) (by omega) 12 (by decide) (by decide) (by decide) (fun _ => rfl) iw_185 rfl rfl (by decide +kernel) rfl dX3_back_46 (fun H locs hW hS => ?_)
      refine lv_aload_n hx hb dX3_back_49 rfl (lv_at hl 0 rfl) ?_
      refine lv_bipush (v := 10) hx hb dX3_back_50 (by decide) ?_
      refine S_put S hK hW hS (k := j_1) (by omega) 14 (by decide) (by decide) (by decide) (fun _ => rfl) iw_190 rfl rfl (by decide +kernel) rfl dX3_back_52 (fun H locs hW hS => ?_)
      refine lv_iconst (v := 1) hx hb dX3_back_55 (by decide) ?_
      exact r_i (v := 1) hx hb hr hlocks hS dX3_back_56 (⟨_, _, rfl, Or.inr ⟨j_1, by omega, rfl, Or.inr ⟨hdd, rfl, fun _ => Iff.rfl⟩⟩, hW⟩)
    · skip
      have i_4 : ¬ (x_3 7).toInt = 3 := by have h9 := pz_neq c_4; exact h9
      refine lv_aload_n hx hb dX3_back_24 rfl (lv_at hl 0 rfl) ?_
      refine S_gp S hK hc_3 7 (by decide) (fun _ => rfl) iw_176 rfl dX3_back_25 ?_
      refine lv_iconst (v := 4) hx hb dX3_back_28 (by decide) ?_
      refine lv_icmp_eq (tgt := 39) hx hb dX3_back_29 (by decide) (fun c_9 => ?_) (fun c_9 => ?_)
      · skip
        have i_9 : (x_3 7).toInt = 4 := by have h9 := pz_eq c_9; exact h9
        refine lv_aload_n hx hb dX3_back_39 rfl (lv_at hl 0 rfl) ?_
        refine lv_iconst (v := 2) hx hb dX3_back_40 (by decide) ?_
        have hdd : dr j_1 := (hd_3.mpr (Or.inr c_9))
        refine S_putd S hK hW hS (k := j_1) (by omega) 7 (by decide) (by decide) (fun _ => rfl) iw_176 rfl rfl (by decide +kernel) rfl (fun k9 => k9 ≠ j_1 ∧ dr k9) (fun x9 h9 => ⟨fun q => absurd rfl q.1, fun q => absurd (show gDr (2 : Int32) from q) (gDr_n (by decide))⟩) (fun i9 h9 => ⟨fun q => q.2, fun q => ⟨h9, q⟩⟩) dX3_back_41 (fun H locs hW hS => ?_)
        refine lv_aload_n hx hb dX3_back_44 rfl (lv_at hl 0 rfl) ?_
        refine lv_iconst (v := 0) hx hb dX3_back_45 (by decide) ?_
        refine S_put S hK hW hS (k := j_1) (by omega) 12 (by decide) (by decide) (by decide) (fun _ => rfl) iw_185 rfl rfl (by decide +kernel) rfl dX3_back_46 (fun H locs hW hS => ?_)
        refine lv_aload_n hx hb dX3_back_49 rfl (lv_at hl 0 rfl) ?_
        refine lv_bipush (v := 10) hx hb dX3_back_50 (by decide) ?_
        refine S_put S hK hW hS (k := j_1) (by omega) 14 (by decide) (by decide) (by decide) (fun _ => rfl) iw_190 rfl rfl (by decide +kernel) rfl dX3_back_52 (fun H locs hW hS => ?_)
        refine lv_iconst (v := 1) hx hb dX3_back_55 (by decide) ?_
        exact r_i (v := 1) hx hb hr hlocks hS dX3_back_56 (⟨_, _, rfl, Or.inr ⟨j_1, by omega, rfl, Or.inr ⟨hdd, rfl, fun _ => Iff.rfl⟩⟩, hW⟩)
      · skip
        have i_9 : ¬ (x_3 7).toInt = 4 := by have h9 := pz_neq c_9; exact h9
        refine lv_aload_n hx hb dX3_back_32 rfl (lv_at hl 1 rfl) ?_
        refine lv_bipush (v := (-3)) hx hb dX3_back_33 (by decide) ?_
        refine c_v (Pw := Cw dC dI z A bs cp h0 la sA cA ns nc dr X P tr nl nq rs) (n := 1) (As := [.int (-3)]) (rest := []) S (q_X3_refuse l dC dI z mi A bs cp h0 la sA cA ns nc dr X P tr nl nq rs (-3)) iw_153 iw_150 iw_152 iw_0 iw_57 (by decide +kernel) rfl ⟨rfl, rfl, Nat.le_of_ble_eq_true rfl, Nat.le_of_ble_eq_true rfl⟩ KZ.blind (D_recv hK hW) (hKZ.at hS (fun _ h9 => h9)) hW hl.1 rfl (Nat.le_of_ble_eq_true rfl) dX3_back_35 ⟨Nat.le_refl _, Nat.le_refl _⟩ hS (fun _ h9 => h9) (fun v9 H locs hB hz9 hk9 hS => ?_)
        refine W.widen (k := 0) (n := 0) (Nat.le_refl 0) (Nat.le_refl 0) ?_
        obtain ⟨_, rfl, rfl, hW⟩ := hB
        refine W.eq (g2 := F0 m 38 ls [.int (-3)]) rfl ?_
        exact r_i (v := (-3)) hx hb hr hlocks hS dX3_back_38 (⟨_, dr, rfl, Or.inr ⟨j_1, by omega, rfl, Or.inl ⟨(fun h9 => (hd_3.mp h9).elim (fun e9 => c_4 e9) (fun e9 => c_9 e9)), rfl, fun _ => Iff.rfl⟩⟩, hW⟩)

abbrev B_q_X3_set (dC : Nat → ClassId) (dI : Nat → Nat → Nat) (z : Nat) (mi : Nat) (A : Nat → Prop) (bs : Nat) (cp : Nat) (h0 : Nat) (la : Nat → Nat) (sA : Nat → Nat) (cA : Nat → Nat) (ns : Nat) (nc : Nat) (dr : Nat → Prop) (X : Nat → Int32) (P : Nat → Prop) (tr : Nat → Int32) (nl : Nat) (nq : Nat) (rs : Nat) (a1 : Int32) (a2 : Int32) (a3 : Int32) : Option Value → Heap → Prop := fun v H => ∃ r : Int32, v = some (.int r) ∧ Cw dC dI z A bs cp h0 la sA cA ns nc dr X P tr nl nq rs H
set_option maxHeartbeats 8000000 in
set_option maxRecDepth 20000 in
theorem q_X3_set (l : Launch) (dC : Nat → ClassId) (dI : Nat → Nat → Nat) (z : Nat) (mi : Nat) (A : Nat → Prop) (bs : Nat) (cp : Nat) (h0 : Nat) (la : Nat → Nat) (sA : Nat → Nat) (cA : Nat → Nat) (ns : Nat) (nc : Nat) (dr : Nat → Prop) (X : Nat → Int32) (P : Nat → Prop) (tr : Nat → Int32) (nl : Nat) (nq : Nat) (rs : Nat) (a1 : Int32) (a2 : Int32) (a3 : Int32) : Met l yX3_set (cws yX3_set cX3_set 6 (some .int)) { frames := 4, cells := 0, slots := 0, locals := 85 } (va_Pc [.ref h0, .int a1, .int a2, .int a3] (fun U => KZ dC dI z mi A U ∧ Cw dC dI z A bs cp h0 la sA cA ns nc dr X P tr nl nq rs U.heap)) (Qg (B_q_X3_set dC dI z mi A bs cp h0 la sA cA ns nc dr X P tr nl nq rs a1 a2 a3) A) 0 0 A := by
  refine m_start (KK := KZ dC dI z mi A) (Pw := Cw dC dI z A bs cp h0 la sA cA ns nc dr X P tr nl nq rs) (by decide) (Nat.le_of_ble_eq_true rfl) ?_
  intro p e s m below meth c ls S hr hlocks hin hKZ hW hS hl
  obtain ⟨hx, hb, hml, hown, hts⟩ := id S
  have hK := hKZ.1
  obtain ⟨hns, hnc, hnl, ag, hag, hXg, hnq⟩ := id hW.2.2.2.2.2.2
  have hl : lv_has ls 6 [(0, .ref h0), (1, .int a1), (2, .int a2), (3, .int a3)] := hl
  refine lv_aload_n hx hb dX3_set_0 rfl (lv_at hl 0 rfl) ?_
  refine lv_iload_n hx hb dX3_set_1 rfl (lv_at hl 1 rfl) ?_
  refine c_v (Pw := Cw dC dI z A bs cp h0 la sA cA ns nc dr X P tr nl nq rs) (n := 1) (As := [.int a1]) (rest := []) S (q_X3_serverAt l dC dI z mi A bs cp h0 la sA cA ns nc dr X P tr nl nq rs a1) iw_289 iw_286 iw_288 iw_4 iw_57 (by decide +kernel) rfl ⟨rfl, rfl, Nat.le_of_ble_eq_true rfl, Nat.le_of_ble_eq_true rfl⟩ KZ.blind (D_recv hK hW) (hKZ.at hS (fun _ h9 => h9)) hW hl.1 rfl (Nat.le_of_ble_eq_true rfl) dX3_set_2 ⟨Nat.le_refl _, Nat.le_refl _⟩ hS (fun _ h9 => h9) (fun v9 H locs hB hz9 hk9 hS => ?_)
  refine W.widen (k := 0) (n := 0) (Nat.le_refl 0) (Nat.le_refl 0) ?_
  obtain ⟨o_1, rfl, ho_1, hW⟩ := hB
  rcases ho_1 with ⟨rfl, hno_1⟩ | ⟨j_1, hj_1, ej_1, rfl⟩
  · skip
    refine W.eq (g2 := F0 m 5 ls [.null]) rfl ?_
    refine lv_astoreN (lv' := [(4, .null), (0, .ref h0), (1, .int a1), (2, .int a2), (3, .int a3)]) hx hb dX3_set_5 hl (by decide) rfl (fun ls hl => ?_)
    refine lv_aloadN hx hb dX3_set_7 (lv_at hl 0 rfl) ?_
    refine lv_ifnonnullN hx hb dX3_set_9 ?_
    refine lv_aload_n hx hb dX3_set_12 rfl (lv_at hl 1 rfl) ?_
    refine lv_iconst (v := (-1)) hx hb dX3_set_13 (by decide) ?_
    refine c_v (Pw := Cw dC dI z A bs cp h0 la sA cA ns nc dr X P tr nl nq rs) (n := 1) (As := [.int (-1)]) (rest := []) S (q_X3_refuse l dC dI z mi A bs cp h0 la sA cA ns nc dr X P tr nl nq rs (-1)) iw_153 iw_150 iw_152 iw_0 iw_57 (by decide +kernel) rfl ⟨rfl, rfl, Nat.le_of_ble_eq_true rfl, Nat.le_of_ble_eq_true rfl⟩ KZ.blind (D_recv hK hW) (hKZ.at hS (fun _ h9 => h9)) hW hl.1 rfl (Nat.le_of_ble_eq_true rfl) dX3_set_14 ⟨Nat.le_refl _, Nat.le_refl _⟩ hS (fun _ h9 => h9) (fun v9 H locs hB hz9 hk9 hS => ?_)
    refine W.widen (k := 0) (n := 0) (Nat.le_refl 0) (Nat.le_refl 0) ?_
    obtain ⟨_, rfl, rfl, hW⟩ := hB
    refine W.eq (g2 := F0 m 17 ls [.int (-1)]) rfl ?_
    exact r_i (v := (-1)) hx hb hr hlocks hS dX3_set_17 (⟨_, rfl, hW⟩)
  · skip
    subst ej_1
    have en_2 : (nI j_1).toInt = ((j_1 : Nat) : Int) := pz_ti (by omega)
    refine W.eq (g2 := F0 m 5 ls [.ref (sA j_1)]) rfl ?_
    refine lv_astore (lv' := [(4, .ref (sA j_1)), (0, .ref h0), (1, .int (nI j_1)), (2, .int a2), (3, .int a3)]) hx hb dX3_set_5 hl (by decide) rfl (fun ls hl => ?_)
    refine lv_aload hx hb dX3_set_7 (lv_at hl 0 rfl) ?_
    refine lv_ifnonnull (tgt := 18) hx hb dX3_set_9 (by decide) ?_
    refine lv_iload_n hx hb dX3_set_18 rfl (lv_at hl 3 rfl) ?_
    refine lv_if_lt (tgt := 27) hx hb dX3_set_19 (by decide) (fun c_3 => ?_) (fun c_3 => ?_)
    · skip
      have i_3 : a2.toInt < 0 := by have h9 := pz_lt c_3; exact h9
      refine lv_aload_n hx hb dX3_set_27 rfl (lv_at hl 1 rfl) ?_
      refine lv_bipush (v := (-2)) hx hb dX3_set_28 (by decide) ?_
      refine c_v (Pw := Cw dC dI z A bs cp h0 la sA cA ns nc dr X P tr nl nq rs) (n := 1) (As := [.int (-2)]) (rest := []) S (q_X3_refuse l dC dI z mi A bs cp h0 la sA cA ns nc dr X P tr nl nq rs (-2)) iw_153 iw_150 iw_152 iw_0 iw_57 (by decide +kernel) rfl ⟨rfl, rfl, Nat.le_of_ble_eq_true rfl, Nat.le_of_ble_eq_true rfl⟩ KZ.blind (D_recv hK hW) (hKZ.at hS (fun _ h9 => h9)) hW hl.1 rfl (Nat.le_of_ble_eq_true rfl) dX3_set_30 ⟨Nat.le_refl _, Nat.le_refl _⟩ hS (fun _ h9 => h9) (fun v9 H locs hB hz9 hk9 hS => ?_)
      refine W.widen (k := 0) (n := 0) (Nat.le_refl 0) (Nat.le_refl 0) ?_
      obtain ⟨_, rfl, rfl, hW⟩ := hB
      refine W.eq (g2 := F0 m 33 ls [.int (-2)]) rfl ?_
      exact r_i (v := (-2)) hx hb hr hlocks hS dX3_set_33 (⟨_, rfl, hW⟩)
    · skip
      have i_3 : a2.toInt ≥ 0 := by have h9 := pz_nlt c_3; exact h9
      refine lv_iload_n hx hb dX3_set_22 rfl (lv_at hl 3 rfl) ?_
      refine lv_iconst (v := 4) hx hb dX3_set_23 (by decide) ?_
      refine lv_icmp_le (tgt := 34) hx hb dX3_set_24 (by decide) (fun c_4 => ?_) (fun c_4 => ?_)
      · skip
        have i_4 : a2.toInt ≤ 4 := by have h9 := pz_le c_4; exact h9
        refine lv_aload hx hb dX3_set_34 (lv_at hl 0 rfl) ?_
        obtain ⟨-, x_5, hc_5, h0_5, hd_5⟩ := hW.2.2.1 j_1 (by omega)
        refine S_gp S hK hc_5 7 (by decide) (fun _ => rfl) iw_176 rfl dX3_set_36 ?_
        refine lv_iconst (v := 4) hx hb dX3_set_39 (by decide) ?_
        refine lv_icmp_ne (tgt := 50) hx hb dX3_set_40 (by decide) (fun c_6 => ?_) (fun c_6 => ?_)
        · skip
          have i_6 : ¬ (x_5 7).toInt = 4 := by have h9 := pz_neq c_6; exact h9
          refine lv_iload_n hx hb dX3_set_50 rfl (lv_at hl 4 rfl) ?_
          refine lv_iload_n hx hb dX3_set_51 rfl (lv_at hl 3 rfl) ?_
          refine c_s (Pw := Cw dC dI z A bs cp h0 la sA cA ns nc dr X P tr nl nq rs) (n := 1) (As := [.int a2]) (rest := [.int a3]) S (q_X3_leastOf l A (Cw dC dI z A bs cp h0 la sA cA ns nc dr X P tr nl nq rs) a2) iw_306 iw_304 iw_305 iw_57 (by decide +kernel) rfl ⟨rfl, rfl, Nat.le_of_ble_eq_true rfl, Nat.le_of_ble_eq_true rfl⟩ (fun _ _ _ _ _ => trivial) (fun _ _ _ => trivial) hW hl.1 rfl (Nat.le_of_ble_eq_true rfl) dX3_set_52 ⟨Nat.le_refl _, Nat.le_refl _⟩ hS (fun _ h9 => h9) (fun v9 H locs hB hz9 hk9 hS => ?_)
          refine W.widen (k := 0) (n := 0) (Nat.le_refl 0) (Nat.le_refl 0) ?_
          obtain ⟨r_7, rfl, hW⟩ := hB
          refine W.eq (g2 := F0 m 55 ls [.int r_7, .int a3]) rfl ?_
          refine lv_iload_n hx hb dX3_set_55 rfl (lv_at hl 3 rfl) ?_
          refine c_s (Pw := Cw dC dI z A bs cp h0 la sA cA ns nc dr X P tr nl nq rs) (n := 1) (As := [.int a2]) (rest := [.int r_7, .int a3]) S (q_X3_greatestOf l A (Cw dC dI z A bs cp h0 la sA cA ns nc dr X P tr nl nq rs) a2) iw_309 iw_307 iw_308 iw_57 (by decide +kernel) rfl ⟨rfl, rfl, Nat.le_of_ble_eq_true rfl, Nat.le_of_ble_eq_true rfl⟩ (fun _ _ _ _ _ => trivial) (fun _ _ _ => trivial) hW hl.1 rfl (Nat.le_of_ble_eq_true rfl) dX3_set_56 ⟨Nat.le_refl _, Nat.le_refl _⟩ hS (fun _ h9 => h9) (fun v9 H locs hB hz9 hk9 hS => ?_)
          refine W.widen (k := 0) (n := 0) (Nat.le_refl 0) (Nat.le_refl 0) ?_
          obtain ⟨r_8, rfl, hW⟩ := hB
          refine W.eq (g2 := F0 m 59 ls [.int r_8, .int r_7, .int a3]) rfl ?_
          refine c_s (Pw := Cw dC dI z A bs cp h0 la sA cA ns nc dr X P tr nl nq rs) (n := 3) (As := [.int a3, .int r_7, .int r_8]) (rest := []) S (q_X3_faultOf l A (Cw dC dI z A bs cp h0 la sA cA ns nc dr X P tr nl nq rs) a3 r_7 r_8) iw_312 iw_310 iw_311 iw_57 (by decide +kernel) rfl ⟨rfl, rfl, Nat.le_of_ble_eq_true rfl, Nat.le_of_ble_eq_true rfl⟩ (fun _ _ _ _ _ => trivial) (fun _ _ _ => trivial) hW hl.1 rfl (Nat.le_of_ble_eq_true rfl) dX3_set_59 ⟨Nat.le_refl _, Nat.le_refl _⟩ hS (fun _ h9 => h9) (fun v9 H locs hB hz9 hk9 hS => ?_)
          refine W.widen (k := 0) (n := 0) (Nat.le_refl 0) (Nat.le_refl 0) ?_
          obtain ⟨r_9, rfl, hf_9, hW⟩ := hB
          refine W.eq (g2 := F0 m 62 ls [.int r_9]) rfl ?_
          rcases hf_9 with ⟨fa_9, rfl⟩ | ⟨fa_9, fb_9, rfl⟩ | ⟨fa_9, fb_9, rfl⟩
          · skip
            have fa_9 : a3.toInt < r_7.toInt := by have h9 := fa_9; exact h9
            refine lv_istore (lv' := [(5, .int (-4)), (4, .ref (sA j_1)), (0, .ref h0), (1, .int (nI j_1)), (2, .int a2), (3, .int a3)]) hx hb dX3_set_62 hl (by decide) rfl (fun ls hl => ?_)
            refine lv_iload hx hb dX3_set_64 (lv_at hl 0 rfl) ?_
            refine lv_if_eq (tgt := 78) hx hb dX3_set_66 (by decide) (fun c_10 => absurd c_10 (by decide)) (fun c_10 => ?_)
            refine lv_aload_n hx hb dX3_set_69 rfl (lv_at hl 2 rfl) ?_
            refine lv_iload hx hb dX3_set_70 (lv_at hl 0 rfl) ?_
            refine c_v (Pw := Cw dC dI z A bs cp h0 la sA cA ns nc dr X P tr nl nq rs) (n := 1) (As := [.int (-4)]) (rest := []) S (q_X3_refuse l dC dI z mi A bs cp h0 la sA cA ns nc dr X P tr nl nq rs (-4)) iw_153 iw_150 iw_152 iw_0 iw_57 (by decide +kernel) rfl ⟨rfl, rfl, Nat.le_of_ble_eq_true rfl, Nat.le_of_ble_eq_true rfl⟩ KZ.blind (D_recv hK hW) (hKZ.at hS (fun _ h9 => h9)) hW hl.1 rfl (Nat.le_of_ble_eq_true rfl) dX3_set_72 ⟨Nat.le_refl _, Nat.le_refl _⟩ hS (fun _ h9 => h9) (fun v9 H locs hB hz9 hk9 hS => ?_)
            refine W.widen (k := 0) (n := 0) (Nat.le_refl 0) (Nat.le_refl 0) ?_
            obtain ⟨_, rfl, rfl, hW⟩ := hB
            refine W.eq (g2 := F0 m 75 ls [.int (-4)]) rfl ?_
            refine lv_goto (tgt := 85) hx hb dX3_set_75 (by decide) ?_
            exact r_i (v := (-4)) hx hb hr hlocks hS dX3_set_85 (⟨_, rfl, hW⟩)
          · skip
            have fa_9 : r_7.toInt ≤ a3.toInt := by have h9 := fa_9; exact h9
            have fb_9 : r_8.toInt < a3.toInt := by have h9 := fb_9; exact h9
            refine lv_istore (lv' := [(5, .int (-6)), (4, .ref (sA j_1)), (0, .ref h0), (1, .int (nI j_1)), (2, .int a2), (3, .int a3)]) hx hb dX3_set_62 hl (by decide) rfl (fun ls hl => ?_)
            refine lv_iload hx hb dX3_set_64 (lv_at hl 0 rfl) ?_
            refine lv_if_eq (tgt := 78) hx hb dX3_set_66 (by decide) (fun c_11 => absurd c_11 (by decide)) (fun c_11 => ?_)
            refine lv_aload_n hx hb dX3_set_69 rfl (lv_at hl 2 rfl) ?_
            refine lv_iload hx hb dX3_set_70 (lv_at hl 0 rfl) ?_
            refine c_v (Pw := Cw dC dI z A bs cp h0 la sA cA ns nc dr X P tr nl nq rs) (n := 1) (As := [.int (-6)]) (rest := []) S (q_X3_refuse l dC dI z mi A bs cp h0 la sA cA ns nc dr X P tr nl nq rs (-6)) iw_153 iw_150 iw_152 iw_0 iw_57 (by decide +kernel) rfl ⟨rfl, rfl, Nat.le_of_ble_eq_true rfl, Nat.le_of_ble_eq_true rfl⟩ KZ.blind (D_recv hK hW) (hKZ.at hS (fun _ h9 => h9)) hW hl.1 rfl (Nat.le_of_ble_eq_true rfl) dX3_set_72 ⟨Nat.le_refl _, Nat.le_refl _⟩ hS (fun _ h9 => h9) (fun v9 H locs hB hz9 hk9 hS => ?_)
            refine W.widen (k := 0) (n := 0) (Nat.le_refl 0) (Nat.le_refl 0) ?_
            obtain ⟨_, rfl, rfl, hW⟩ := hB
            refine W.eq (g2 := F0 m 75 ls [.int (-6)]) rfl ?_
            refine lv_goto (tgt := 85) hx hb dX3_set_75 (by decide) ?_
            exact r_i (v := (-6)) hx hb hr hlocks hS dX3_set_85 (⟨_, rfl, hW⟩)
          · skip
            have fa_9 : r_7.toInt ≤ a3.toInt := by have h9 := fa_9; exact h9
            have fb_9 : a3.toInt ≤ r_8.toInt := by have h9 := fb_9; exact h9
            refine lv_istore (lv' := [(5, .int 0), (4, .ref (sA j_1)), (0, .ref h0), (1, .int (nI j_1)), (2, .int a2), (3, .int a3)]) hx hb dX3_set_62 hl (by decide) rfl (fun ls hl => ?_)
            refine lv_iload hx hb dX3_set_64 (lv_at hl 0 rfl) ?_
            refine lv_if_eq (tgt := 78) hx hb dX3_set_66 (by decide) (fun c_12 => ?_) (fun c_12 => absurd (by decide) c_12)
            refine lv_aload hx hb dX3_set_78 (lv_at hl 1 rfl) ?_
            refine lv_iload_n hx hb dX3_set_80 rfl (lv_at hl 4 rfl) ?_
            refine lv_iload_n hx hb dX3_set_81 rfl (lv_at hl 5 rfl) ?_
            refine c_v (Pw := Cw dC dI z A bs cp h0 la sA cA ns nc dr X P tr nl nq rs) (n := 2) (As := [.int a2, .int a3]) (rest := []) S (q_X2_change l dC dI z mi A bs cp h0 la sA cA ns nc dr X P tr nl nq rs j_1 a2 a3 (by omega)) iw_316 iw_313 iw_314 iw_315 iw_62 (by decide +kernel) rfl ⟨rfl, rfl, Nat.le_of_ble_eq_true rfl, Nat.le_of_ble_eq_true rfl⟩ KZ.blind (S_recv hK hW (by omega)) (hKZ.at hS (fun _ h9 => h9)) hW hl.1 rfl (Nat.le_of_ble_eq_true rfl) dX3_set_82 ⟨Nat.le_refl _, Nat.le_refl _⟩ hS (fun _ h9 => h9) (fun v9 H locs hB hz9 hk9 hS => ?_)
            refine W.widen (k := 0) (n := 0) (Nat.le_refl 0) (Nat.le_refl 0) ?_
            obtain ⟨r_13, rfl, hW⟩ := hB
            refine W.eq (g2 := F0 m 85 ls [.int r_13]) rfl ?_
            exact r_i (v := r_13) hx hb hr hlocks hS dX3_set_85 (⟨_, rfl, hW⟩)
        · skip
          have i_6 : (x_5 7).toInt = 4 := by have h9 := pz_eq c_6; exact h9
          refine lv_aload_n hx hb dX3_set_43 rfl (lv_at hl 1 rfl) ?_
          refine lv_bipush (v := (-3)) hx hb dX3_set_44 (by decide) ?_
          refine c_v (Pw := Cw dC dI z A bs cp h0 la sA cA ns nc dr X P tr nl nq rs) (n := 1) (As := [.int (-3)]) (rest := []) S (q_X3_refuse l dC dI z mi A bs cp h0 la sA cA ns nc dr X P tr nl nq rs (-3)) iw_153 iw_150 iw_152 iw_0 iw_57 (by decide +kernel) rfl ⟨rfl, rfl, Nat.le_of_ble_eq_true rfl, Nat.le_of_ble_eq_true rfl⟩ KZ.blind (D_recv hK hW) (hKZ.at hS (fun _ h9 => h9)) hW hl.1 rfl (Nat.le_of_ble_eq_true rfl) dX3_set_46 ⟨Nat.le_refl _, Nat.le_refl _⟩ hS (fun _ h9 => h9) (fun v9 H locs hB hz9 hk9 hS => ?_)
          refine W.widen (k := 0) (n := 0) (Nat.le_refl 0) (Nat.le_refl 0) ?_
          obtain ⟨_, rfl, rfl, hW⟩ := hB
          refine W.eq (g2 := F0 m 49 ls [.int (-3)]) rfl ?_
          exact r_i (v := (-3)) hx hb hr hlocks hS dX3_set_49 (⟨_, rfl, hW⟩)
      · skip
        have i_4 : a2.toInt > 4 := by have h9 := pz_nle c_4; exact h9
        refine lv_aload_n hx hb dX3_set_27 rfl (lv_at hl 1 rfl) ?_
        refine lv_bipush (v := (-2)) hx hb dX3_set_28 (by decide) ?_
        refine c_v (Pw := Cw dC dI z A bs cp h0 la sA cA ns nc dr X P tr nl nq rs) (n := 1) (As := [.int (-2)]) (rest := []) S (q_X3_refuse l dC dI z mi A bs cp h0 la sA cA ns nc dr X P tr nl nq rs (-2)) iw_153 iw_150 iw_152 iw_0 iw_57 (by decide +kernel) rfl ⟨rfl, rfl, Nat.le_of_ble_eq_true rfl, Nat.le_of_ble_eq_true rfl⟩ KZ.blind (D_recv hK hW) (hKZ.at hS (fun _ h9 => h9)) hW hl.1 rfl (Nat.le_of_ble_eq_true rfl) dX3_set_30 ⟨Nat.le_refl _, Nat.le_refl _⟩ hS (fun _ h9 => h9) (fun v9 H locs hB hz9 hk9 hS => ?_)
        refine W.widen (k := 0) (n := 0) (Nat.le_refl 0) (Nat.le_refl 0) ?_
        obtain ⟨_, rfl, rfl, hW⟩ := hB
        refine W.eq (g2 := F0 m 33 ls [.int (-2)]) rfl ?_
        exact r_i (v := (-2)) hx hb hr hlocks hS dX3_set_33 (⟨_, rfl, hW⟩)

abbrev B_q_X3_callOf (dC : Nat → ClassId) (dI : Nat → Nat → Nat) (z : Nat) (mi : Nat) (A : Nat → Prop) (bs : Nat) (cp : Nat) (h0 : Nat) (la : Nat → Nat) (sA : Nat → Nat) (cA : Nat → Nat) (ns : Nat) (nc : Nat) (dr : Nat → Prop) (X : Nat → Int32) (P : Nat → Prop) (tr : Nat → Int32) (nl : Nat) (nq : Nat) (rs : Nat) (a1 : Int32) (a2 : Int32) : Option Value → Heap → Prop := fun v H => ∃ r : Int32, v = some (.int r) ∧ Cw dC dI z A bs cp h0 la sA cA ns nc dr X P tr nl nq rs H
set_option maxHeartbeats 8000000 in
set_option maxRecDepth 20000 in
theorem q_X3_callOf (l : Launch) (dC : Nat → ClassId) (dI : Nat → Nat → Nat) (z : Nat) (mi : Nat) (A : Nat → Prop) (bs : Nat) (cp : Nat) (h0 : Nat) (la : Nat → Nat) (sA : Nat → Nat) (cA : Nat → Nat) (ns : Nat) (nc : Nat) (dr : Nat → Prop) (X : Nat → Int32) (P : Nat → Prop) (tr : Nat → Int32) (nl : Nat) (nq : Nat) (rs : Nat) (a1 : Int32) (a2 : Int32) : Met l yX3_callOf (cws yX3_callOf cX3_callOf 4 (some .int)) { frames := 4, cells := 0, slots := 0, locals := 85 } (va_Pc [.ref h0, .int a1, .int a2] (fun U => KZ dC dI z mi A U ∧ Cw dC dI z A bs cp h0 la sA cA ns nc dr X P tr nl nq rs U.heap)) (Qg (B_q_X3_callOf dC dI z mi A bs cp h0 la sA cA ns nc dr X P tr nl nq rs a1 a2) A) 0 0 A := by
  refine m_start (KK := KZ dC dI z mi A) (Pw := Cw dC dI z A bs cp h0 la sA cA ns nc dr X P tr nl nq rs) (by decide) (Nat.le_of_ble_eq_true rfl) ?_
  intro p e s m below meth c ls S hr hlocks hin hKZ hW hS hl
  obtain ⟨hx, hb, hml, hown, hts⟩ := id S
  have hK := hKZ.1
  obtain ⟨hns, hnc, hnl, ag, hag, hXg, hnq⟩ := id hW.2.2.2.2.2.2
  have hl : lv_has ls 4 [(0, .ref h0), (1, .int a1), (2, .int a2)] := hl
  refine lv_aload_n hx hb dX3_callOf_0 rfl (lv_at hl 0 rfl) ?_
  refine lv_iload_n hx hb dX3_callOf_1 rfl (lv_at hl 1 rfl) ?_
  refine c_v (Pw := Cw dC dI z A bs cp h0 la sA cA ns nc dr X P tr nl nq rs) (n := 1) (As := [.int a1]) (rest := []) S (q_X3_callAt l dC dI z mi A bs cp h0 la sA cA ns nc dr X P tr nl nq rs a1) iw_500 iw_497 iw_499 iw_13 iw_57 (by decide +kernel) rfl ⟨rfl, rfl, Nat.le_of_ble_eq_true rfl, Nat.le_of_ble_eq_true rfl⟩ KZ.blind (D_recv hK hW) (hKZ.at hS (fun _ h9 => h9)) hW hl.1 rfl (Nat.le_of_ble_eq_true rfl) dX3_callOf_2 ⟨Nat.le_refl _, Nat.le_refl _⟩ hS (fun _ h9 => h9) (fun v9 H locs hB hz9 hk9 hS => ?_)
  refine W.widen (k := 0) (n := 0) (Nat.le_refl 0) (Nat.le_refl 0) ?_
  obtain ⟨o_1, rfl, ho_1, hW⟩ := hB
  rcases ho_1 with ⟨rfl, hno_1⟩ | ⟨j_1, hj_1, ej_1, rfl⟩
  · skip
    refine W.eq (g2 := F0 m 5 ls [.null]) rfl ?_
    refine lv_astore_nN (lv' := [(3, .null), (0, .ref h0), (1, .int a1), (2, .int a2)]) hx hb dX3_callOf_5 rfl hl (by decide) rfl (fun ls hl => ?_)
    refine lv_aload_nN hx hb dX3_callOf_6 rfl (lv_at hl 0 rfl) ?_
    refine lv_ifnonnullN hx hb dX3_callOf_7 ?_
    refine lv_aload_n hx hb dX3_callOf_10 rfl (lv_at hl 1 rfl) ?_
    refine lv_iconst (v := (-1)) hx hb dX3_callOf_11 (by decide) ?_
    refine c_v (Pw := Cw dC dI z A bs cp h0 la sA cA ns nc dr X P tr nl nq rs) (n := 1) (As := [.int (-1)]) (rest := []) S (q_X3_refuse l dC dI z mi A bs cp h0 la sA cA ns nc dr X P tr nl nq rs (-1)) iw_153 iw_150 iw_152 iw_0 iw_57 (by decide +kernel) rfl ⟨rfl, rfl, Nat.le_of_ble_eq_true rfl, Nat.le_of_ble_eq_true rfl⟩ KZ.blind (D_recv hK hW) (hKZ.at hS (fun _ h9 => h9)) hW hl.1 rfl (Nat.le_of_ble_eq_true rfl) dX3_callOf_12 ⟨Nat.le_refl _, Nat.le_refl _⟩ hS (fun _ h9 => h9) (fun v9 H locs hB hz9 hk9 hS => ?_)
    refine W.widen (k := 0) (n := 0) (Nat.le_refl 0) (Nat.le_refl 0) ?_
    obtain ⟨_, rfl, rfl, hW⟩ := hB
    refine W.eq (g2 := F0 m 15 ls [.int (-1)]) rfl ?_
    exact r_i (v := (-1)) hx hb hr hlocks hS dX3_callOf_15 (⟨_, rfl, hW⟩)
  · skip
    subst ej_1
    have en_2 : (nI j_1).toInt = ((j_1 : Nat) : Int) := pz_ti (by omega)
    refine W.eq (g2 := F0 m 5 ls [.ref (cA j_1)]) rfl ?_
    refine lv_astore_n (lv' := [(3, .ref (cA j_1)), (0, .ref h0), (1, .int (nI j_1)), (2, .int a2)]) hx hb dX3_callOf_5 rfl hl (by decide) rfl (fun ls hl => ?_)
    refine lv_aload_n hx hb dX3_callOf_6 rfl (lv_at hl 0 rfl) ?_
    refine lv_ifnonnull (tgt := 16) hx hb dX3_callOf_7 (by decide) ?_
    refine lv_iload_n hx hb dX3_callOf_16 rfl (lv_at hl 3 rfl) ?_
    refine lv_if_lt (tgt := 26) hx hb dX3_callOf_17 (by decide) (fun c_3 => ?_) (fun c_3 => ?_)
    · skip
      have i_3 : a2.toInt < 0 := by have h9 := pz_lt c_3; exact h9
      refine lv_aload_n hx hb dX3_callOf_26 rfl (lv_at hl 1 rfl) ?_
      refine lv_bipush (v := (-2)) hx hb dX3_callOf_27 (by decide) ?_
      refine c_v (Pw := Cw dC dI z A bs cp h0 la sA cA ns nc dr X P tr nl nq rs) (n := 1) (As := [.int (-2)]) (rest := []) S (q_X3_refuse l dC dI z mi A bs cp h0 la sA cA ns nc dr X P tr nl nq rs (-2)) iw_153 iw_150 iw_152 iw_0 iw_57 (by decide +kernel) rfl ⟨rfl, rfl, Nat.le_of_ble_eq_true rfl, Nat.le_of_ble_eq_true rfl⟩ KZ.blind (D_recv hK hW) (hKZ.at hS (fun _ h9 => h9)) hW hl.1 rfl (Nat.le_of_ble_eq_true rfl) dX3_callOf_29 ⟨Nat.le_refl _, Nat.le_refl _⟩ hS (fun _ h9 => h9) (fun v9 H locs hB hz9 hk9 hS => ?_)
      refine W.widen (k := 0) (n := 0) (Nat.le_refl 0) (Nat.le_refl 0) ?_
      obtain ⟨_, rfl, rfl, hW⟩ := hB
      refine W.eq (g2 := F0 m 32 ls [.int (-2)]) rfl ?_
      refine lv_goto (tgt := 40) hx hb dX3_callOf_32 (by decide) ?_
      exact r_i (v := (-2)) hx hb hr hlocks hS dX3_callOf_40 (⟨_, rfl, hW⟩)
    · skip
      have i_3 : a2.toInt ≥ 0 := by have h9 := pz_nlt c_3; exact h9
      refine lv_iload_n hx hb dX3_callOf_20 rfl (lv_at hl 3 rfl) ?_
      refine lv_bipush (v := 10) hx hb dX3_callOf_21 (by decide) ?_
      refine lv_icmp_le (tgt := 35) hx hb dX3_callOf_23 (by decide) (fun c_4 => ?_) (fun c_4 => ?_)
      · skip
        have i_4 : a2.toInt ≤ 10 := by have h9 := pz_le c_4; exact h9
        refine lv_aload_n hx hb dX3_callOf_35 rfl (lv_at hl 0 rfl) ?_
        refine lv_iload_n hx hb dX3_callOf_36 rfl (lv_at hl 3 rfl) ?_
        refine c_v (Pw := Cw dC dI z A bs cp h0 la sA cA ns nc dr X P tr nl nq rs) (n := 1) (As := [.int a2]) (rest := []) S (q_X1_tell l dC dI z mi A bs cp h0 la sA cA ns nc dr X P tr nl nq rs j_1 a2 (by omega)) iw_605 iw_602 iw_603 iw_604 iw_69 (by decide +kernel) rfl ⟨rfl, rfl, Nat.le_of_ble_eq_true rfl, Nat.le_of_ble_eq_true rfl⟩ KZ.blind (C_recv hK hW (by omega)) (hKZ.at hS (fun _ h9 => h9)) hW hl.1 rfl (Nat.le_of_ble_eq_true rfl) dX3_callOf_37 ⟨Nat.le_refl _, Nat.le_refl _⟩ hS (fun _ h9 => h9) (fun v9 H locs hB hz9 hk9 hS => ?_)
        refine W.widen (k := 0) (n := 0) (Nat.le_refl 0) (Nat.le_refl 0) ?_
        obtain ⟨r_5, rfl, hW⟩ := hB
        refine W.eq (g2 := F0 m 40 ls [.int r_5]) rfl ?_
        exact r_i (v := r_5) hx hb hr hlocks hS dX3_callOf_40 (⟨_, rfl, hW⟩)
      · skip
        have i_4 : a2.toInt > 10 := by have h9 := pz_nle c_4; exact h9
        refine lv_aload_n hx hb dX3_callOf_26 rfl (lv_at hl 1 rfl) ?_
        refine lv_bipush (v := (-2)) hx hb dX3_callOf_27 (by decide) ?_
        refine c_v (Pw := Cw dC dI z A bs cp h0 la sA cA ns nc dr X P tr nl nq rs) (n := 1) (As := [.int (-2)]) (rest := []) S (q_X3_refuse l dC dI z mi A bs cp h0 la sA cA ns nc dr X P tr nl nq rs (-2)) iw_153 iw_150 iw_152 iw_0 iw_57 (by decide +kernel) rfl ⟨rfl, rfl, Nat.le_of_ble_eq_true rfl, Nat.le_of_ble_eq_true rfl⟩ KZ.blind (D_recv hK hW) (hKZ.at hS (fun _ h9 => h9)) hW hl.1 rfl (Nat.le_of_ble_eq_true rfl) dX3_callOf_29 ⟨Nat.le_refl _, Nat.le_refl _⟩ hS (fun _ h9 => h9) (fun v9 H locs hB hz9 hk9 hS => ?_)
        refine W.widen (k := 0) (n := 0) (Nat.le_refl 0) (Nat.le_refl 0) ?_
        obtain ⟨_, rfl, rfl, hW⟩ := hB
        refine W.eq (g2 := F0 m 32 ls [.int (-2)]) rfl ?_
        refine lv_goto (tgt := 40) hx hb dX3_callOf_32 (by decide) ?_
        exact r_i (v := (-2)) hx hb hr hlocks hS dX3_callOf_40 (⟨_, rfl, hW⟩)

abbrev B_q_X3_serverOf (dC : Nat → ClassId) (dI : Nat → Nat → Nat) (z : Nat) (mi : Nat) (A : Nat → Prop) (bs : Nat) (cp : Nat) (h0 : Nat) (la : Nat → Nat) (sA : Nat → Nat) (cA : Nat → Nat) (ns : Nat) (nc : Nat) (dr : Nat → Prop) (X : Nat → Int32) (P : Nat → Prop) (tr : Nat → Int32) (nl : Nat) (nq : Nat) (rs : Nat) (a1 : Int32) (a2 : Int32) : Option Value → Heap → Prop := fun v H => ∃ r : Int32, v = some (.int r) ∧ Cw dC dI z A bs cp h0 la sA cA ns nc dr X P tr nl nq rs H
set_option maxHeartbeats 8000000 in
set_option maxRecDepth 20000 in
theorem q_X3_serverOf (l : Launch) (dC : Nat → ClassId) (dI : Nat → Nat → Nat) (z : Nat) (mi : Nat) (A : Nat → Prop) (bs : Nat) (cp : Nat) (h0 : Nat) (la : Nat → Nat) (sA : Nat → Nat) (cA : Nat → Nat) (ns : Nat) (nc : Nat) (dr : Nat → Prop) (X : Nat → Int32) (P : Nat → Prop) (tr : Nat → Int32) (nl : Nat) (nq : Nat) (rs : Nat) (a1 : Int32) (a2 : Int32) : Met l yX3_serverOf (cws yX3_serverOf cX3_serverOf 4 (some .int)) { frames := 4, cells := 0, slots := 0, locals := 85 } (va_Pc [.ref h0, .int a1, .int a2] (fun U => KZ dC dI z mi A U ∧ Cw dC dI z A bs cp h0 la sA cA ns nc dr X P tr nl nq rs U.heap)) (Qg (B_q_X3_serverOf dC dI z mi A bs cp h0 la sA cA ns nc dr X P tr nl nq rs a1 a2) A) 0 0 A := by
  refine m_start (KK := KZ dC dI z mi A) (Pw := Cw dC dI z A bs cp h0 la sA cA ns nc dr X P tr nl nq rs) (by decide) (Nat.le_of_ble_eq_true rfl) ?_
  intro p e s m below meth c ls S hr hlocks hin hKZ hW hS hl
  obtain ⟨hx, hb, hml, hown, hts⟩ := id S
  have hK := hKZ.1
  obtain ⟨hns, hnc, hnl, ag, hag, hXg, hnq⟩ := id hW.2.2.2.2.2.2
  have hl : lv_has ls 4 [(0, .ref h0), (1, .int a1), (2, .int a2)] := hl
  refine lv_aload_n hx hb dX3_serverOf_0 rfl (lv_at hl 0 rfl) ?_
  refine lv_iload_n hx hb dX3_serverOf_1 rfl (lv_at hl 1 rfl) ?_
  refine c_v (Pw := Cw dC dI z A bs cp h0 la sA cA ns nc dr X P tr nl nq rs) (n := 1) (As := [.int a1]) (rest := []) S (q_X3_serverAt l dC dI z mi A bs cp h0 la sA cA ns nc dr X P tr nl nq rs a1) iw_289 iw_286 iw_288 iw_4 iw_57 (by decide +kernel) rfl ⟨rfl, rfl, Nat.le_of_ble_eq_true rfl, Nat.le_of_ble_eq_true rfl⟩ KZ.blind (D_recv hK hW) (hKZ.at hS (fun _ h9 => h9)) hW hl.1 rfl (Nat.le_of_ble_eq_true rfl) dX3_serverOf_2 ⟨Nat.le_refl _, Nat.le_refl _⟩ hS (fun _ h9 => h9) (fun v9 H locs hB hz9 hk9 hS => ?_)
  refine W.widen (k := 0) (n := 0) (Nat.le_refl 0) (Nat.le_refl 0) ?_
  obtain ⟨o_1, rfl, ho_1, hW⟩ := hB
  rcases ho_1 with ⟨rfl, hno_1⟩ | ⟨j_1, hj_1, ej_1, rfl⟩
  · skip
    refine W.eq (g2 := F0 m 5 ls [.null]) rfl ?_
    refine lv_astore_nN (lv' := [(3, .null), (0, .ref h0), (1, .int a1), (2, .int a2)]) hx hb dX3_serverOf_5 rfl hl (by decide) rfl (fun ls hl => ?_)
    refine lv_aload_nN hx hb dX3_serverOf_6 rfl (lv_at hl 0 rfl) ?_
    refine lv_ifnonnullN hx hb dX3_serverOf_7 ?_
    refine lv_aload_n hx hb dX3_serverOf_10 rfl (lv_at hl 1 rfl) ?_
    refine lv_iconst (v := (-1)) hx hb dX3_serverOf_11 (by decide) ?_
    refine c_v (Pw := Cw dC dI z A bs cp h0 la sA cA ns nc dr X P tr nl nq rs) (n := 1) (As := [.int (-1)]) (rest := []) S (q_X3_refuse l dC dI z mi A bs cp h0 la sA cA ns nc dr X P tr nl nq rs (-1)) iw_153 iw_150 iw_152 iw_0 iw_57 (by decide +kernel) rfl ⟨rfl, rfl, Nat.le_of_ble_eq_true rfl, Nat.le_of_ble_eq_true rfl⟩ KZ.blind (D_recv hK hW) (hKZ.at hS (fun _ h9 => h9)) hW hl.1 rfl (Nat.le_of_ble_eq_true rfl) dX3_serverOf_12 ⟨Nat.le_refl _, Nat.le_refl _⟩ hS (fun _ h9 => h9) (fun v9 H locs hB hz9 hk9 hS => ?_)
    refine W.widen (k := 0) (n := 0) (Nat.le_refl 0) (Nat.le_refl 0) ?_
    obtain ⟨_, rfl, rfl, hW⟩ := hB
    refine W.eq (g2 := F0 m 15 ls [.int (-1)]) rfl ?_
    exact r_i (v := (-1)) hx hb hr hlocks hS dX3_serverOf_15 (⟨_, rfl, hW⟩)
  · skip
    subst ej_1
    have en_2 : (nI j_1).toInt = ((j_1 : Nat) : Int) := pz_ti (by omega)
    refine W.eq (g2 := F0 m 5 ls [.ref (sA j_1)]) rfl ?_
    refine lv_astore_n (lv' := [(3, .ref (sA j_1)), (0, .ref h0), (1, .int (nI j_1)), (2, .int a2)]) hx hb dX3_serverOf_5 rfl hl (by decide) rfl (fun ls hl => ?_)
    refine lv_aload_n hx hb dX3_serverOf_6 rfl (lv_at hl 0 rfl) ?_
    refine lv_ifnonnull (tgt := 16) hx hb dX3_serverOf_7 (by decide) ?_
    refine lv_iload_n hx hb dX3_serverOf_16 rfl (lv_at hl 3 rfl) ?_
    refine lv_if_lt (tgt := 26) hx hb dX3_serverOf_17 (by decide) (fun c_3 => ?_) (fun c_3 => ?_)
    · skip
      have i_3 : a2.toInt < 0 := by have h9 := pz_lt c_3; exact h9
      refine lv_aload_n hx hb dX3_serverOf_26 rfl (lv_at hl 1 rfl) ?_
      refine lv_bipush (v := (-2)) hx hb dX3_serverOf_27 (by decide) ?_
      refine c_v (Pw := Cw dC dI z A bs cp h0 la sA cA ns nc dr X P tr nl nq rs) (n := 1) (As := [.int (-2)]) (rest := []) S (q_X3_refuse l dC dI z mi A bs cp h0 la sA cA ns nc dr X P tr nl nq rs (-2)) iw_153 iw_150 iw_152 iw_0 iw_57 (by decide +kernel) rfl ⟨rfl, rfl, Nat.le_of_ble_eq_true rfl, Nat.le_of_ble_eq_true rfl⟩ KZ.blind (D_recv hK hW) (hKZ.at hS (fun _ h9 => h9)) hW hl.1 rfl (Nat.le_of_ble_eq_true rfl) dX3_serverOf_29 ⟨Nat.le_refl _, Nat.le_refl _⟩ hS (fun _ h9 => h9) (fun v9 H locs hB hz9 hk9 hS => ?_)
      refine W.widen (k := 0) (n := 0) (Nat.le_refl 0) (Nat.le_refl 0) ?_
      obtain ⟨_, rfl, rfl, hW⟩ := hB
      refine W.eq (g2 := F0 m 32 ls [.int (-2)]) rfl ?_
      refine lv_goto (tgt := 40) hx hb dX3_serverOf_32 (by decide) ?_
      exact r_i (v := (-2)) hx hb hr hlocks hS dX3_serverOf_40 (⟨_, rfl, hW⟩)
    · skip
      have i_3 : a2.toInt ≥ 0 := by have h9 := pz_nlt c_3; exact h9
      refine lv_iload_n hx hb dX3_serverOf_20 rfl (lv_at hl 3 rfl) ?_
      refine lv_bipush (v := 15) hx hb dX3_serverOf_21 (by decide) ?_
      refine lv_icmp_le (tgt := 35) hx hb dX3_serverOf_23 (by decide) (fun c_4 => ?_) (fun c_4 => ?_)
      · skip
        have i_4 : a2.toInt ≤ 15 := by have h9 := pz_le c_4; exact h9
        refine lv_aload_n hx hb dX3_serverOf_35 rfl (lv_at hl 0 rfl) ?_
        refine lv_iload_n hx hb dX3_serverOf_36 rfl (lv_at hl 3 rfl) ?_
        refine c_v (Pw := Cw dC dI z A bs cp h0 la sA cA ns nc dr X P tr nl nq rs) (n := 1) (As := [.int a2]) (rest := []) S (q_X2_tell l dC dI z mi A bs cp h0 la sA cA ns nc dr X P tr nl nq rs j_1 a2 (by omega)) iw_320 iw_610 iw_318 iw_319 iw_62 (by decide +kernel) rfl ⟨rfl, rfl, Nat.le_of_ble_eq_true rfl, Nat.le_of_ble_eq_true rfl⟩ KZ.blind (S_recv hK hW (by omega)) (hKZ.at hS (fun _ h9 => h9)) hW hl.1 rfl (Nat.le_of_ble_eq_true rfl) dX3_serverOf_37 ⟨Nat.le_refl _, Nat.le_refl _⟩ hS (fun _ h9 => h9) (fun v9 H locs hB hz9 hk9 hS => ?_)
        refine W.widen (k := 0) (n := 0) (Nat.le_refl 0) (Nat.le_refl 0) ?_
        obtain ⟨r_5, rfl, hW⟩ := hB
        refine W.eq (g2 := F0 m 40 ls [.int r_5]) rfl ?_
        exact r_i (v := r_5) hx hb hr hlocks hS dX3_serverOf_40 (⟨_, rfl, hW⟩)
      · skip
        have i_4 : a2.toInt > 15 := by have h9 := pz_nle c_4; exact h9
        refine lv_aload_n hx hb dX3_serverOf_26 rfl (lv_at hl 1 rfl) ?_
        refine lv_bipush (v := (-2)) hx hb dX3_serverOf_27 (by decide) ?_
        refine c_v (Pw := Cw dC dI z A bs cp h0 la sA cA ns nc dr X P tr nl nq rs) (n := 1) (As := [.int (-2)]) (rest := []) S (q_X3_refuse l dC dI z mi A bs cp h0 la sA cA ns nc dr X P tr nl nq rs (-2)) iw_153 iw_150 iw_152 iw_0 iw_57 (by decide +kernel) rfl ⟨rfl, rfl, Nat.le_of_ble_eq_true rfl, Nat.le_of_ble_eq_true rfl⟩ KZ.blind (D_recv hK hW) (hKZ.at hS (fun _ h9 => h9)) hW hl.1 rfl (Nat.le_of_ble_eq_true rfl) dX3_serverOf_29 ⟨Nat.le_refl _, Nat.le_refl _⟩ hS (fun _ h9 => h9) (fun v9 H locs hB hz9 hk9 hS => ?_)
        refine W.widen (k := 0) (n := 0) (Nat.le_refl 0) (Nat.le_refl 0) ?_
        obtain ⟨_, rfl, rfl, hW⟩ := hB
        refine W.eq (g2 := F0 m 32 ls [.int (-2)]) rfl ?_
        refine lv_goto (tgt := 40) hx hb dX3_serverOf_32 (by decide) ?_
        exact r_i (v := (-2)) hx hb hr hlocks hS dX3_serverOf_40 (⟨_, rfl, hW⟩)

abbrev B_q_X3_mark (dC : Nat → ClassId) (dI : Nat → Nat → Nat) (z : Nat) (mi : Nat) (A : Nat → Prop) (bs : Nat) (cp : Nat) (h0 : Nat) (la : Nat → Nat) (sA : Nat → Nat) (cA : Nat → Nat) (ns : Nat) (nc : Nat) (dr : Nat → Prop) (X : Nat → Int32) (P : Nat → Prop) (tr : Nat → Int32) (nl : Nat) (nq : Nat) (rs : Nat) (a1 : Int32) (a2 : Int32) : Option Value → Heap → Prop := fun v H => ∃ r : Int32, v = some (.int r) ∧ r = exMark ns a1 a2 ∧ Cw dC dI z A bs cp h0 la sA cA ns nc dr X P tr nl nq rs H
set_option maxHeartbeats 8000000 in
set_option maxRecDepth 20000 in
theorem q_X3_mark (l : Launch) (dC : Nat → ClassId) (dI : Nat → Nat → Nat) (z : Nat) (mi : Nat) (A : Nat → Prop) (bs : Nat) (cp : Nat) (h0 : Nat) (la : Nat → Nat) (sA : Nat → Nat) (cA : Nat → Nat) (ns : Nat) (nc : Nat) (dr : Nat → Prop) (X : Nat → Int32) (P : Nat → Prop) (tr : Nat → Int32) (nl : Nat) (nq : Nat) (rs : Nat) (a1 : Int32) (a2 : Int32) : Met l yX3_mark (cws yX3_mark cX3_mark 4 (some .int)) { frames := 4, cells := 0, slots := 0, locals := 85 } (va_Pc [.ref h0, .int a1, .int a2] (fun U => KZ dC dI z mi A U ∧ Cw dC dI z A bs cp h0 la sA cA ns nc dr X P tr nl nq rs U.heap)) (Qg (B_q_X3_mark dC dI z mi A bs cp h0 la sA cA ns nc dr X P tr nl nq rs a1 a2) A) 0 0 A := by
  refine m_start (KK := KZ dC dI z mi A) (Pw := Cw dC dI z A bs cp h0 la sA cA ns nc dr X P tr nl nq rs) (by decide) (Nat.le_of_ble_eq_true rfl) ?_
  intro p e s m below meth c ls S hr hlocks hin hKZ hW hS hl
  obtain ⟨hx, hb, hml, hown, hts⟩ := id S
  have hK := hKZ.1
  obtain ⟨hns, hnc, hnl, ag, hag, hXg, hnq⟩ := id hW.2.2.2.2.2.2
  have hl : lv_has ls 4 [(0, .ref h0), (1, .int a1), (2, .int a2)] := hl
  refine lv_aload_n hx hb dX3_mark_0 rfl (lv_at hl 0 rfl) ?_
  refine lv_iload_n hx hb dX3_mark_1 rfl (lv_at hl 1 rfl) ?_
  refine c_v (Pw := Cw dC dI z A bs cp h0 la sA cA ns nc dr X P tr nl nq rs) (n := 1) (As := [.int a1]) (rest := []) S (q_X3_serverAt l dC dI z mi A bs cp h0 la sA cA ns nc dr X P tr nl nq rs a1) iw_289 iw_286 iw_288 iw_4 iw_57 (by decide +kernel) rfl ⟨rfl, rfl, Nat.le_of_ble_eq_true rfl, Nat.le_of_ble_eq_true rfl⟩ KZ.blind (D_recv hK hW) (hKZ.at hS (fun _ h9 => h9)) hW hl.1 rfl (Nat.le_of_ble_eq_true rfl) dX3_mark_2 ⟨Nat.le_refl _, Nat.le_refl _⟩ hS (fun _ h9 => h9) (fun v9 H locs hB hz9 hk9 hS => ?_)
  refine W.widen (k := 0) (n := 0) (Nat.le_refl 0) (Nat.le_refl 0) ?_
  obtain ⟨o_1, rfl, ho_1, hW⟩ := hB
  rcases ho_1 with ⟨rfl, hno_1⟩ | ⟨j_1, hj_1, ej_1, rfl⟩
  · skip
    refine W.eq (g2 := F0 m 5 ls [.null]) rfl ?_
    refine lv_astore_nN (lv' := [(3, .null), (0, .ref h0), (1, .int a1), (2, .int a2)]) hx hb dX3_mark_5 rfl hl (by decide) rfl (fun ls hl => ?_)
    refine lv_aload_nN hx hb dX3_mark_6 rfl (lv_at hl 0 rfl) ?_
    refine lv_ifnonnullN hx hb dX3_mark_7 ?_
    refine lv_aload_n hx hb dX3_mark_10 rfl (lv_at hl 1 rfl) ?_
    refine lv_iconst (v := (-1)) hx hb dX3_mark_11 (by decide) ?_
    refine c_v (Pw := Cw dC dI z A bs cp h0 la sA cA ns nc dr X P tr nl nq rs) (n := 1) (As := [.int (-1)]) (rest := []) S (q_X3_refuse l dC dI z mi A bs cp h0 la sA cA ns nc dr X P tr nl nq rs (-1)) iw_153 iw_150 iw_152 iw_0 iw_57 (by decide +kernel) rfl ⟨rfl, rfl, Nat.le_of_ble_eq_true rfl, Nat.le_of_ble_eq_true rfl⟩ KZ.blind (D_recv hK hW) (hKZ.at hS (fun _ h9 => h9)) hW hl.1 rfl (Nat.le_of_ble_eq_true rfl) dX3_mark_12 ⟨Nat.le_refl _, Nat.le_refl _⟩ hS (fun _ h9 => h9) (fun v9 H locs hB hz9 hk9 hS => ?_)
    refine W.widen (k := 0) (n := 0) (Nat.le_refl 0) (Nat.le_refl 0) ?_
    obtain ⟨_, rfl, rfl, hW⟩ := hB
    refine W.eq (g2 := F0 m 15 ls [.int (-1)]) rfl ?_
    exact r_i (v := (-1)) hx hb hr hlocks hS dX3_mark_15 (⟨_, rfl, by unfold exMark; rw [if_pos hno_1], hW⟩)
  · skip
    subst ej_1
    have en_2 : (nI j_1).toInt = ((j_1 : Nat) : Int) := pz_ti (by omega)
    refine W.eq (g2 := F0 m 5 ls [.ref (sA j_1)]) rfl ?_
    refine lv_astore_n (lv' := [(3, .ref (sA j_1)), (0, .ref h0), (1, .int (nI j_1)), (2, .int a2)]) hx hb dX3_mark_5 rfl hl (by decide) rfl (fun ls hl => ?_)
    refine lv_aload_n hx hb dX3_mark_6 rfl (lv_at hl 0 rfl) ?_
    refine lv_ifnonnull (tgt := 16) hx hb dX3_mark_7 (by decide) ?_
    refine lv_iload_n hx hb dX3_mark_16 rfl (lv_at hl 3 rfl) ?_
    refine lv_if_lt (tgt := 25) hx hb dX3_mark_17 (by decide) (fun c_3 => ?_) (fun c_3 => ?_)
    · skip
      have i_3 : a2.toInt < 0 := by have h9 := pz_lt c_3; exact h9
      refine lv_aload_n hx hb dX3_mark_25 rfl (lv_at hl 1 rfl) ?_
      refine lv_bipush (v := (-2)) hx hb dX3_mark_26 (by decide) ?_
      refine c_v (Pw := Cw dC dI z A bs cp h0 la sA cA ns nc dr X P tr nl nq rs) (n := 1) (As := [.int (-2)]) (rest := []) S (q_X3_refuse l dC dI z mi A bs cp h0 la sA cA ns nc dr X P tr nl nq rs (-2)) iw_153 iw_150 iw_152 iw_0 iw_57 (by decide +kernel) rfl ⟨rfl, rfl, Nat.le_of_ble_eq_true rfl, Nat.le_of_ble_eq_true rfl⟩ KZ.blind (D_recv hK hW) (hKZ.at hS (fun _ h9 => h9)) hW hl.1 rfl (Nat.le_of_ble_eq_true rfl) dX3_mark_28 ⟨Nat.le_refl _, Nat.le_refl _⟩ hS (fun _ h9 => h9) (fun v9 H locs hB hz9 hk9 hS => ?_)
      refine W.widen (k := 0) (n := 0) (Nat.le_refl 0) (Nat.le_refl 0) ?_
      obtain ⟨_, rfl, rfl, hW⟩ := hB
      refine W.eq (g2 := F0 m 31 ls [.int (-2)]) rfl ?_
      refine lv_goto (tgt := 39) hx hb dX3_mark_31 (by decide) ?_
      exact r_i (v := (-2)) hx hb hr hlocks hS dX3_mark_39 (⟨_, rfl, by unfold exMark; rw [if_neg (by omega), if_pos (by omega)], hW⟩)
    · skip
      have i_3 : a2.toInt ≥ 0 := by have h9 := pz_nlt c_3; exact h9
      refine lv_iload_n hx hb dX3_mark_20 rfl (lv_at hl 3 rfl) ?_
      refine lv_iconst (v := 4) hx hb dX3_mark_21 (by decide) ?_
      refine lv_icmp_lt (tgt := 34) hx hb dX3_mark_22 (by decide) (fun c_4 => ?_) (fun c_4 => ?_)
      · skip
        have i_4 : a2.toInt < 4 := by have h9 := pz_lt c_4; exact h9
        refine lv_aload_n hx hb dX3_mark_34 rfl (lv_at hl 0 rfl) ?_
        refine lv_iload_n hx hb dX3_mark_35 rfl (lv_at hl 3 rfl) ?_
        refine c_v (Pw := Cw dC dI z A bs cp h0 la sA cA ns nc dr X P tr nl nq rs) (n := 1) (As := [.int a2]) (rest := []) S (q_X2_placeOfMark l dC dI z mi A bs cp h0 la sA cA ns nc dr X P tr nl nq rs j_1 a2 (by omega)) iw_433 iw_615 iw_431 iw_432 iw_62 (by decide +kernel) rfl ⟨rfl, rfl, Nat.le_of_ble_eq_true rfl, Nat.le_of_ble_eq_true rfl⟩ KZ.blind (S_recv hK hW (by omega)) (hKZ.at hS (fun _ h9 => h9)) hW hl.1 rfl (Nat.le_of_ble_eq_true rfl) dX3_mark_36 ⟨Nat.le_refl _, Nat.le_refl _⟩ hS (fun _ h9 => h9) (fun v9 H locs hB hz9 hk9 hS => ?_)
        refine W.widen (k := 0) (n := 0) (Nat.le_refl 0) (Nat.le_refl 0) ?_
        obtain ⟨r_5, rfl, hr_5, hW⟩ := hB
        refine W.eq (g2 := F0 m 39 ls [.int r_5]) rfl ?_
        exact r_i (v := r_5) hx hb hr hlocks hS dX3_mark_39 (⟨_, rfl, hr_5.trans (plM_ex (by omega) (by omega) (by omega) (by omega)), hW⟩)
      · skip
        have i_4 : a2.toInt ≥ 4 := by have h9 := pz_nlt c_4; exact h9
        refine lv_aload_n hx hb dX3_mark_25 rfl (lv_at hl 1 rfl) ?_
        refine lv_bipush (v := (-2)) hx hb dX3_mark_26 (by decide) ?_
        refine c_v (Pw := Cw dC dI z A bs cp h0 la sA cA ns nc dr X P tr nl nq rs) (n := 1) (As := [.int (-2)]) (rest := []) S (q_X3_refuse l dC dI z mi A bs cp h0 la sA cA ns nc dr X P tr nl nq rs (-2)) iw_153 iw_150 iw_152 iw_0 iw_57 (by decide +kernel) rfl ⟨rfl, rfl, Nat.le_of_ble_eq_true rfl, Nat.le_of_ble_eq_true rfl⟩ KZ.blind (D_recv hK hW) (hKZ.at hS (fun _ h9 => h9)) hW hl.1 rfl (Nat.le_of_ble_eq_true rfl) dX3_mark_28 ⟨Nat.le_refl _, Nat.le_refl _⟩ hS (fun _ h9 => h9) (fun v9 H locs hB hz9 hk9 hS => ?_)
        refine W.widen (k := 0) (n := 0) (Nat.le_refl 0) (Nat.le_refl 0) ?_
        obtain ⟨_, rfl, rfl, hW⟩ := hB
        refine W.eq (g2 := F0 m 31 ls [.int (-2)]) rfl ?_
        refine lv_goto (tgt := 39) hx hb dX3_mark_31 (by decide) ?_
        exact r_i (v := (-2)) hx hb hr hlocks hS dX3_mark_39 (⟨_, rfl, by unfold exMark; rw [if_neg (by omega), if_pos (by omega)], hW⟩)

abbrev B_q_X3_queue (dC : Nat → ClassId) (dI : Nat → Nat → Nat) (z : Nat) (mi : Nat) (A : Nat → Prop) (bs : Nat) (cp : Nat) (h0 : Nat) (la : Nat → Nat) (sA : Nat → Nat) (cA : Nat → Nat) (ns : Nat) (nc : Nat) (dr : Nat → Prop) (X : Nat → Int32) (P : Nat → Prop) (tr : Nat → Int32) (nl : Nat) (nq : Nat) (rs : Nat) (a1 : Int32) : Option Value → Heap → Prop := fun v H => ∃ r : Int32, v = some (.int r) ∧ Cw dC dI z A bs cp h0 la sA cA ns nc dr X P tr nl nq rs H
set_option maxHeartbeats 8000000 in
set_option maxRecDepth 20000 in
theorem q_X3_queue (l : Launch) (dC : Nat → ClassId) (dI : Nat → Nat → Nat) (z : Nat) (mi : Nat) (A : Nat → Prop) (bs : Nat) (cp : Nat) (h0 : Nat) (la : Nat → Nat) (sA : Nat → Nat) (cA : Nat → Nat) (ns : Nat) (nc : Nat) (dr : Nat → Prop) (X : Nat → Int32) (P : Nat → Prop) (tr : Nat → Int32) (nl : Nat) (nq : Nat) (rs : Nat) (a1 : Int32) : Met l yX3_queue (cws yX3_queue cX3_queue 2 (some .int)) { frames := 3, cells := 0, slots := 0, locals := 64 } (va_Pc [.ref h0, .int a1] (fun U => KZ dC dI z mi A U ∧ Cw dC dI z A bs cp h0 la sA cA ns nc dr X P tr nl nq rs U.heap)) (Qg (B_q_X3_queue dC dI z mi A bs cp h0 la sA cA ns nc dr X P tr nl nq rs a1) A) 0 0 A := by
  refine m_start (KK := KZ dC dI z mi A) (Pw := Cw dC dI z A bs cp h0 la sA cA ns nc dr X P tr nl nq rs) (by decide) (Nat.le_of_ble_eq_true rfl) ?_
  intro p e s m below meth c ls S hr hlocks hin hKZ hW hS hl
  obtain ⟨hx, hb, hml, hown, hts⟩ := id S
  have hK := hKZ.1
  obtain ⟨hns, hnc, hnl, ag, hag, hXg, hnq⟩ := id hW.2.2.2.2.2.2
  have hl : lv_has ls 2 [(0, .ref h0), (1, .int a1)] := hl
  refine lv_iload_n hx hb dX3_queue_0 rfl (lv_at hl 1 rfl) ?_
  refine lv_if_lt (tgt := 15) hx hb dX3_queue_1 (by decide) (fun c_1 => ?_) (fun c_1 => ?_)
  · skip
    have i_1 : a1.toInt < 0 := by have h9 := pz_lt c_1; exact h9
    refine lv_bipush (v := (-9)) hx hb dX3_queue_15 (by decide) ?_
    refine lv_goto (tgt := 34) hx hb dX3_queue_17 (by decide) ?_
    exact r_i (v := (-9)) hx hb hr hlocks hS dX3_queue_34 (⟨_, rfl, hW⟩)
  · skip
    have i_1 : a1.toInt ≥ 0 := by have h9 := pz_nlt c_1; exact h9
    refine lv_iload_n hx hb dX3_queue_4 rfl (lv_at hl 1 rfl) ?_
    refine lv_aload_n hx hb dX3_queue_5 rfl (lv_at hl 0 rfl) ?_
    refine D_getl S hK hW 3 (by decide) (fun _ => rfl) iw_108 rfl dX3_queue_6 ?_
    refine L_size (rest := [.int a1]) S hKZ hW hS (i := 3) (by decide) hl.1 (Nat.le_of_ble_eq_true rfl) dX3_queue_9 ⟨Nat.le_of_ble_eq_true rfl, Nat.le_of_ble_eq_true rfl⟩ ⟨Nat.le_refl _, Nat.le_refl _⟩ (fun H locs hW hS => ?_)
    refine W.eq (g2 := F0 m 12 ls [.int (nI nq), .int a1]) rfl ?_
    obtain ⟨hns, hnc, hnl, ag_3, hag_3, -, hnq⟩ := id hW.2.2.2.2.2.2
    have en_4 : (nI nq).toInt = ((nq : Nat) : Int) := pz_ti (by omega)
    refine lv_icmp_lt (tgt := 20) hx hb dX3_queue_12 (by decide) (fun c_5 => ?_) (fun c_5 => ?_)
    · skip
      have i_5 : a1.toInt < (nI nq).toInt := by have h9 := pz_lt c_5; exact h9
      refine lv_aload_n hx hb dX3_queue_20 rfl (lv_at hl 0 rfl) ?_
      refine D_getl S hK hW 3 (by decide) (fun _ => rfl) iw_108 rfl dX3_queue_21 ?_
      refine lv_iload_n hx hb dX3_queue_24 rfl (lv_at hl 1 rfl) ?_
      obtain ⟨j_7, hj_7, ej_7⟩ := pz_of (x := a1) (n := nq) (by omega) (by omega)
      subst ej_7
      have en_8 : (nI j_7).toInt = ((j_7 : Nat) : Int) := pz_ti (by omega)
      refine L_get (rest := []) S hKZ hW hS (i := 3) (t := j_7) (by decide) (by show j_7 < nq; omega) hl.1 (Nat.le_of_ble_eq_true rfl) dX3_queue_25 ⟨Nat.le_of_ble_eq_true rfl, Nat.le_of_ble_eq_true rfl⟩ ⟨Nat.le_refl _, Nat.le_refl _⟩ (fun r_7 H locs hr_7 hW hS => ?_)
      obtain ⟨c_7a, hc_7a, rfl⟩ : ∃ c, c < nc ∧ r_7 = cA c := hr_7
      refine C_cast S hK hW (k := c_7a) (by omega) iw_351 dX3_queue_28 ?_
      obtain ⟨-, y_10, p_10, q_10, hc_10, ⟨h0_10, h7_10⟩, hp_10, hq_10⟩ := hW.2.2.2.1 c_7a (by omega)
      refine C_gp (v := .int (y_10 0)) S hK hc_10 0 (by decide) rfl iw_358 rfl dX3_queue_31 ?_
      rw [h0_10]
      exact r_i (v := (nI c_7a)) hx hb hr hlocks hS dX3_queue_34 (⟨_, rfl, hW⟩)
    · skip
      have i_5 : a1.toInt ≥ (nI nq).toInt := by have h9 := pz_nlt c_5; exact h9
      refine lv_bipush (v := (-9)) hx hb dX3_queue_15 (by decide) ?_
      refine lv_goto (tgt := 34) hx hb dX3_queue_17 (by decide) ?_
      exact r_i (v := (-9)) hx hb hr hlocks hS dX3_queue_34 (⟨_, rfl, hW⟩)

abbrev B_q_X3_share (dC : Nat → ClassId) (dI : Nat → Nat → Nat) (z : Nat) (mi : Nat) (A : Nat → Prop) (bs : Nat) (cp : Nat) (h0 : Nat) (la : Nat → Nat) (sA : Nat → Nat) (cA : Nat → Nat) (ns : Nat) (nc : Nat) (dr : Nat → Prop) (X : Nat → Int32) (P : Nat → Prop) (tr : Nat → Int32) (nl : Nat) (nq : Nat) (rs : Nat) (a1 : Int32) : Option Value → Heap → Prop := fun v H => ∃ r : Int32, v = some (.int r) ∧ Cw dC dI z A bs cp h0 la sA cA ns nc dr X P tr nl nq rs H
set_option maxHeartbeats 8000000 in
set_option maxRecDepth 20000 in
theorem q_X3_share (l : Launch) (dC : Nat → ClassId) (dI : Nat → Nat → Nat) (z : Nat) (mi : Nat) (A : Nat → Prop) (bs : Nat) (cp : Nat) (h0 : Nat) (la : Nat → Nat) (sA : Nat → Nat) (cA : Nat → Nat) (ns : Nat) (nc : Nat) (dr : Nat → Prop) (X : Nat → Int32) (P : Nat → Prop) (tr : Nat → Int32) (nl : Nat) (nq : Nat) (rs : Nat) (a1 : Int32) : Met l yX3_share (cws yX3_share cX3_share 4 (some .int)) { frames := 4, cells := 0, slots := 0, locals := 86 } (va_Pc [.ref h0, .int a1] (fun U => KZ dC dI z mi A U ∧ Cw dC dI z A bs cp h0 la sA cA ns nc dr X P tr nl nq rs U.heap)) (Qg (B_q_X3_share dC dI z mi A bs cp h0 la sA cA ns nc dr X P tr nl nq rs a1) A) 0 0 A := by
  refine m_start (KK := KZ dC dI z mi A) (Pw := Cw dC dI z A bs cp h0 la sA cA ns nc dr X P tr nl nq rs) (by decide) (Nat.le_of_ble_eq_true rfl) ?_
  intro p e s m below meth c ls S hr hlocks hin hKZ hW hS hl
  obtain ⟨hx, hb, hml, hown, hts⟩ := id S
  have hK := hKZ.1
  obtain ⟨hns, hnc, hnl, ag, hag, hXg, hnq⟩ := id hW.2.2.2.2.2.2
  have hl : lv_has ls 4 [(0, .ref h0), (1, .int a1)] := hl
  refine lv_aload_n hx hb dX3_share_0 rfl (lv_at hl 0 rfl) ?_
  refine lv_iload_n hx hb dX3_share_1 rfl (lv_at hl 1 rfl) ?_
  refine c_v (Pw := Cw dC dI z A bs cp h0 la sA cA ns nc dr X P tr nl nq rs) (n := 1) (As := [.int a1]) (rest := []) S (q_X3_serverAt l dC dI z mi A bs cp h0 la sA cA ns nc dr X P tr nl nq rs a1) iw_289 iw_286 iw_288 iw_4 iw_57 (by decide +kernel) rfl ⟨rfl, rfl, Nat.le_of_ble_eq_true rfl, Nat.le_of_ble_eq_true rfl⟩ KZ.blind (D_recv hK hW) (hKZ.at hS (fun _ h9 => h9)) hW hl.1 rfl (Nat.le_of_ble_eq_true rfl) dX3_share_2 ⟨Nat.le_refl _, Nat.le_refl _⟩ hS (fun _ h9 => h9) (fun v9 H locs hB hz9 hk9 hS => ?_)
  refine W.widen (k := 0) (n := 0) (Nat.le_refl 0) (Nat.le_refl 0) ?_
  obtain ⟨o_1, rfl, ho_1, hW⟩ := hB
  rcases ho_1 with ⟨rfl, hno_1⟩ | ⟨j_1, hj_1, ej_1, rfl⟩
  · skip
    refine W.eq (g2 := F0 m 5 ls [.null]) rfl ?_
    refine lv_astore_nN (lv' := [(2, .null), (0, .ref h0), (1, .int a1)]) hx hb dX3_share_5 rfl hl (by decide) rfl (fun ls hl => ?_)
    refine lv_aload_nN hx hb dX3_share_6 rfl (lv_at hl 0 rfl) ?_
    refine lv_ifnonnullN hx hb dX3_share_7 ?_
    refine lv_aload_n hx hb dX3_share_10 rfl (lv_at hl 1 rfl) ?_
    refine lv_iconst (v := (-1)) hx hb dX3_share_11 (by decide) ?_
    refine c_v (Pw := Cw dC dI z A bs cp h0 la sA cA ns nc dr X P tr nl nq rs) (n := 1) (As := [.int (-1)]) (rest := []) S (q_X3_refuse l dC dI z mi A bs cp h0 la sA cA ns nc dr X P tr nl nq rs (-1)) iw_153 iw_150 iw_152 iw_0 iw_57 (by decide +kernel) rfl ⟨rfl, rfl, Nat.le_of_ble_eq_true rfl, Nat.le_of_ble_eq_true rfl⟩ KZ.blind (D_recv hK hW) (hKZ.at hS (fun _ h9 => h9)) hW hl.1 rfl (Nat.le_of_ble_eq_true rfl) dX3_share_12 ⟨Nat.le_refl _, Nat.le_refl _⟩ hS (fun _ h9 => h9) (fun v9 H locs hB hz9 hk9 hS => ?_)
    refine W.widen (k := 0) (n := 0) (Nat.le_refl 0) (Nat.le_refl 0) ?_
    obtain ⟨_, rfl, rfl, hW⟩ := hB
    refine W.eq (g2 := F0 m 15 ls [.int (-1)]) rfl ?_
    exact r_i (v := (-1)) hx hb hr hlocks hS dX3_share_15 (⟨_, rfl, hW⟩)
  · skip
    subst ej_1
    have en_2 : (nI j_1).toInt = ((j_1 : Nat) : Int) := pz_ti (by omega)
    refine W.eq (g2 := F0 m 5 ls [.ref (sA j_1)]) rfl ?_
    refine lv_astore_n (lv' := [(2, .ref (sA j_1)), (0, .ref h0), (1, .int (nI j_1))]) hx hb dX3_share_5 rfl hl (by decide) rfl (fun ls hl => ?_)
    refine lv_aload_n hx hb dX3_share_6 rfl (lv_at hl 0 rfl) ?_
    refine lv_ifnonnull (tgt := 16) hx hb dX3_share_7 (by decide) ?_
    refine lv_aload_n hx hb dX3_share_16 rfl (lv_at hl 1 rfl) ?_
    refine c_v (Pw := Cw dC dI z A bs cp h0 la sA cA ns nc dr X P tr nl nq rs) (n := 0) (As := []) (rest := []) S (q_X3_askingsSoFar l dC dI z mi A bs cp h0 la sA cA ns nc dr X P tr nl nq rs) iw_627 iw_624 iw_626 iw_30 iw_57 (by decide +kernel) rfl ⟨rfl, rfl, Nat.le_of_ble_eq_true rfl, Nat.le_of_ble_eq_true rfl⟩ KZ.blind (D_recv hK hW) (hKZ.at hS (fun _ h9 => h9)) hW hl.1 rfl (Nat.le_of_ble_eq_true rfl) dX3_share_17 ⟨Nat.le_refl _, Nat.le_refl _⟩ hS (fun _ h9 => h9) (fun v9 H locs hB hz9 hk9 hS => ?_)
    refine W.widen (k := 0) (n := 0) (Nat.le_refl 0) (Nat.le_refl 0) ?_
    obtain ⟨r_3, rfl, hW⟩ := hB
    refine W.eq (g2 := F0 m 20 ls [.int r_3]) rfl ?_
    refine lv_istore_n (lv' := [(3, .int r_3), (2, .ref (sA j_1)), (0, .ref h0), (1, .int (nI j_1))]) hx hb dX3_share_20 rfl hl (by decide) rfl (fun ls hl => ?_)
    refine lv_iload_n hx hb dX3_share_21 rfl (lv_at hl 0 rfl) ?_
    refine lv_if_ne (tgt := 29) hx hb dX3_share_22 (by decide) (fun c_4 => ?_) (fun c_4 => ?_)
    · skip
      have i_4 : ¬ r_3.toInt = 0 := by have h9 := pz_neq c_4; exact h9
      refine lv_aload_n hx hb dX3_share_29 rfl (lv_at hl 1 rfl) ?_
      obtain ⟨-, x_5, hc_5, h0_5, hd_5⟩ := hW.2.2.1 j_1 (by omega)
      refine S_gp S hK hc_5 9 (by decide) (fun _ => rfl) iw_181 rfl dX3_share_30 ?_
      refine lv_sipush (v := 1000) hx hb dX3_share_33 (by decide) ?_
      refine lv_imul hx hb dX3_share_36 ?_
      refine lv_topi (fun x_6 _ => ?_)
      refine lv_iload_n hx hb dX3_share_37 rfl (lv_at hl 0 rfl) ?_
      refine lv_idiv hx hb dX3_share_38 c_4 ?_
      refine lv_topi (fun x_7 _ => ?_)
      exact r_i (v := x_7) hx hb hr hlocks hS dX3_share_39 (⟨_, rfl, hW⟩)
    · skip
      have i_4 : r_3.toInt = 0 := by have h9 := pz_eq c_4; exact h9
      refine lv_iconst (v := 0) hx hb dX3_share_25 (by decide) ?_
      refine lv_goto (tgt := 39) hx hb dX3_share_26 (by decide) ?_
      exact r_i (v := 0) hx hb hr hlocks hS dX3_share_39 (⟨_, rfl, hW⟩)

abbrev B_q_X3_pick (dC : Nat → ClassId) (dI : Nat → Nat → Nat) (z : Nat) (mi : Nat) (A : Nat → Prop) (bs : Nat) (cp : Nat) (h0 : Nat) (la : Nat → Nat) (sA : Nat → Nat) (cA : Nat → Nat) (ns : Nat) (nc : Nat) (dr : Nat → Prop) (X : Nat → Int32) (P : Nat → Prop) (tr : Nat → Int32) (nl : Nat) (nq : Nat) (rs : Nat) (a1 : Int32) : Option Value → Heap → Prop := fun v H => ∃ r : Int32, v = some (.int r) ∧ Cw dC dI z A bs cp h0 la sA cA ns nc dr X P tr nl nq rs H
set_option maxHeartbeats 8000000 in
set_option maxRecDepth 20000 in
theorem q_X3_pick (l : Launch) (dC : Nat → ClassId) (dI : Nat → Nat → Nat) (z : Nat) (mi : Nat) (A : Nat → Prop) (bs : Nat) (cp : Nat) (h0 : Nat) (la : Nat → Nat) (sA : Nat → Nat) (cA : Nat → Nat) (ns : Nat) (nc : Nat) (dr : Nat → Prop) (X : Nat → Int32) (P : Nat → Prop) (tr : Nat → Int32) (nl : Nat) (nq : Nat) (rs : Nat) (a1 : Int32) : Met l yX3_pick (cws yX3_pick cX3_pick 4 (some .int)) { frames := 5, cells := 0, slots := 0, locals := 113 } (va_Pc [.ref h0, .int a1] (fun U => KZ dC dI z mi A U ∧ Cw dC dI z A bs cp h0 la sA cA ns nc dr X P tr nl nq rs U.heap)) (Qg (B_q_X3_pick dC dI z mi A bs cp h0 la sA cA ns nc dr X P tr nl nq rs a1) A) 0 0 A := by
  refine m_start (KK := KZ dC dI z mi A) (Pw := Cw dC dI z A bs cp h0 la sA cA ns nc dr X P tr nl nq rs) (by decide) (Nat.le_of_ble_eq_true rfl) ?_
  intro p e s m below meth c ls S hr hlocks hin hKZ hW hS hl
  obtain ⟨hx, hb, hml, hown, hts⟩ := id S
  have hK := hKZ.1
  obtain ⟨hns, hnc, hnl, ag, hag, hXg, hnq⟩ := id hW.2.2.2.2.2.2
  have hl : lv_has ls 4 [(0, .ref h0), (1, .int a1)] := hl
  refine lv_iload_n hx hb dX3_pick_0 rfl (lv_at hl 1 rfl) ?_
  refine lv_iconst (v := 0) hx hb dX3_pick_1 (by decide) ?_
  refine lv_ldc hx hb hown (hts _ iw_350) dX3_pick_2 ?_
  refine c_s (Pw := Cw dC dI z A bs cp h0 la sA cA ns nc dr X P tr nl nq rs) (n := 3) (As := [.int a1, .int 0, .int 65535]) (rest := []) S (q_X3_faultOf l A (Cw dC dI z A bs cp h0 la sA cA ns nc dr X P tr nl nq rs) a1 0 65535) iw_312 iw_310 iw_311 iw_57 (by decide +kernel) rfl ⟨rfl, rfl, Nat.le_of_ble_eq_true rfl, Nat.le_of_ble_eq_true rfl⟩ (fun _ _ _ _ _ => trivial) (fun _ _ _ => trivial) hW hl.1 rfl (Nat.le_of_ble_eq_true rfl) dX3_pick_4 ⟨Nat.le_refl _, Nat.le_refl _⟩ hS (fun _ h9 => h9) (fun v9 H locs hB hz9 hk9 hS => ?_)
  refine W.widen (k := 0) (n := 0) (Nat.le_refl 0) (Nat.le_refl 0) ?_
  obtain ⟨r_1, rfl, hf_1, hW⟩ := hB
  refine W.eq (g2 := F0 m 7 ls [.int r_1]) rfl ?_
  rcases hf_1 with ⟨fa_1, rfl⟩ | ⟨fa_1, fb_1, rfl⟩ | ⟨fa_1, fb_1, rfl⟩
  · skip
    have fa_1 : a1.toInt < 0 := by have h9 := fa_1; exact h9
    refine lv_istore_n (lv' := [(2, .int (-4)), (0, .ref h0), (1, .int a1)]) hx hb dX3_pick_7 rfl hl (by decide) rfl (fun ls hl => ?_)
    refine lv_iload_n hx hb dX3_pick_8 rfl (lv_at hl 0 rfl) ?_
    refine lv_if_eq (tgt := 18) hx hb dX3_pick_9 (by decide) (fun c_2 => absurd c_2 (by decide)) (fun c_2 => ?_)
    refine lv_aload_n hx hb dX3_pick_12 rfl (lv_at hl 1 rfl) ?_
    refine lv_iload_n hx hb dX3_pick_13 rfl (lv_at hl 0 rfl) ?_
    refine c_v (Pw := Cw dC dI z A bs cp h0 la sA cA ns nc dr X P tr nl nq rs) (n := 1) (As := [.int (-4)]) (rest := []) S (q_X3_refuse l dC dI z mi A bs cp h0 la sA cA ns nc dr X P tr nl nq rs (-4)) iw_153 iw_150 iw_152 iw_0 iw_57 (by decide +kernel) rfl ⟨rfl, rfl, Nat.le_of_ble_eq_true rfl, Nat.le_of_ble_eq_true rfl⟩ KZ.blind (D_recv hK hW) (hKZ.at hS (fun _ h9 => h9)) hW hl.1 rfl (Nat.le_of_ble_eq_true rfl) dX3_pick_14 ⟨Nat.le_refl _, Nat.le_refl _⟩ hS (fun _ h9 => h9) (fun v9 H locs hB hz9 hk9 hS => ?_)
    refine W.widen (k := 0) (n := 0) (Nat.le_refl 0) (Nat.le_refl 0) ?_
    obtain ⟨_, rfl, rfl, hW⟩ := hB
    refine W.eq (g2 := F0 m 17 ls [.int (-4)]) rfl ?_
    exact r_i (v := (-4)) hx hb hr hlocks hS dX3_pick_17 (⟨_, rfl, hW⟩)
  · skip
    have fa_1 : 0 ≤ a1.toInt := by have h9 := fa_1; exact h9
    have fb_1 : 65535 < a1.toInt := by have h9 := fb_1; exact h9
    refine lv_istore_n (lv' := [(2, .int (-6)), (0, .ref h0), (1, .int a1)]) hx hb dX3_pick_7 rfl hl (by decide) rfl (fun ls hl => ?_)
    refine lv_iload_n hx hb dX3_pick_8 rfl (lv_at hl 0 rfl) ?_
    refine lv_if_eq (tgt := 18) hx hb dX3_pick_9 (by decide) (fun c_3 => absurd c_3 (by decide)) (fun c_3 => ?_)
    refine lv_aload_n hx hb dX3_pick_12 rfl (lv_at hl 1 rfl) ?_
    refine lv_iload_n hx hb dX3_pick_13 rfl (lv_at hl 0 rfl) ?_
    refine c_v (Pw := Cw dC dI z A bs cp h0 la sA cA ns nc dr X P tr nl nq rs) (n := 1) (As := [.int (-6)]) (rest := []) S (q_X3_refuse l dC dI z mi A bs cp h0 la sA cA ns nc dr X P tr nl nq rs (-6)) iw_153 iw_150 iw_152 iw_0 iw_57 (by decide +kernel) rfl ⟨rfl, rfl, Nat.le_of_ble_eq_true rfl, Nat.le_of_ble_eq_true rfl⟩ KZ.blind (D_recv hK hW) (hKZ.at hS (fun _ h9 => h9)) hW hl.1 rfl (Nat.le_of_ble_eq_true rfl) dX3_pick_14 ⟨Nat.le_refl _, Nat.le_refl _⟩ hS (fun _ h9 => h9) (fun v9 H locs hB hz9 hk9 hS => ?_)
    refine W.widen (k := 0) (n := 0) (Nat.le_refl 0) (Nat.le_refl 0) ?_
    obtain ⟨_, rfl, rfl, hW⟩ := hB
    refine W.eq (g2 := F0 m 17 ls [.int (-6)]) rfl ?_
    exact r_i (v := (-6)) hx hb hr hlocks hS dX3_pick_17 (⟨_, rfl, hW⟩)
  · skip
    have fa_1 : 0 ≤ a1.toInt := by have h9 := fa_1; exact h9
    have fb_1 : a1.toInt ≤ 65535 := by have h9 := fb_1; exact h9
    refine lv_istore_n (lv' := [(2, .int 0), (0, .ref h0), (1, .int a1)]) hx hb dX3_pick_7 rfl hl (by decide) rfl (fun ls hl => ?_)
    refine lv_iload_n hx hb dX3_pick_8 rfl (lv_at hl 0 rfl) ?_
    refine lv_if_eq (tgt := 18) hx hb dX3_pick_9 (by decide) (fun c_4 => ?_) (fun c_4 => absurd (by decide) c_4)
    refine lv_aload_n hx hb dX3_pick_18 rfl (lv_at hl 1 rfl) ?_
    refine lv_iload_n hx hb dX3_pick_19 rfl (lv_at hl 2 rfl) ?_
    refine lv_iconst (v := 0) hx hb dX3_pick_20 (by decide) ?_
    refine c_v (Pw := Cw dC dI z A bs cp h0 la sA cA ns nc dr X P tr nl nq rs) (n := 2) (As := [.int a1, .int 0]) (rest := []) S (q_X3_chosen l dC dI z mi A bs cp h0 la sA cA ns nc dr X P tr nl nq rs a1 0) iw_411 iw_408 iw_410 iw_6 iw_57 (by decide +kernel) rfl ⟨rfl, rfl, Nat.le_of_ble_eq_true rfl, Nat.le_of_ble_eq_true rfl⟩ KZ.blind (D_recv hK hW) (hKZ.at hS (fun _ h9 => h9)) hW hl.1 rfl (Nat.le_of_ble_eq_true rfl) dX3_pick_21 ⟨Nat.le_refl _, Nat.le_refl _⟩ hS (fun _ h9 => h9) (fun v9 H locs hB hz9 hk9 hS => ?_)
    refine W.widen (k := 0) (n := 0) (Nat.le_refl 0) (Nat.le_refl 0) ?_
    obtain ⟨o_5, rfl, ho_5, hW⟩ := hB
    rcases ho_5 with rfl | ⟨k_5, hk_5, rfl, hm_5⟩
    · skip
      refine W.eq (g2 := F0 m 24 ls [.null]) rfl ?_
      refine lv_astore_nN (lv' := [(3, .null), (2, .int 0), (0, .ref h0), (1, .int a1)]) hx hb dX3_pick_24 rfl hl (by decide) rfl (fun ls hl => ?_)
      refine lv_aload_nN hx hb dX3_pick_25 rfl (lv_at hl 0 rfl) ?_
      refine lv_ifnonnullN hx hb dX3_pick_26 ?_
      refine lv_bipush (v := (-9)) hx hb dX3_pick_29 (by decide) ?_
      refine lv_goto (tgt := 38) hx hb dX3_pick_31 (by decide) ?_
      exact r_i (v := (-9)) hx hb hr hlocks hS dX3_pick_38 (⟨_, rfl, hW⟩)
    · skip
      refine W.eq (g2 := F0 m 24 ls [.ref (sA k_5)]) rfl ?_
      refine lv_astore_n (lv' := [(3, .ref (sA k_5)), (2, .int 0), (0, .ref h0), (1, .int a1)]) hx hb dX3_pick_24 rfl hl (by decide) rfl (fun ls hl => ?_)
      refine lv_aload_n hx hb dX3_pick_25 rfl (lv_at hl 0 rfl) ?_
      refine lv_ifnonnull (tgt := 34) hx hb dX3_pick_26 (by decide) ?_
      refine lv_aload_n hx hb dX3_pick_34 rfl (lv_at hl 0 rfl) ?_
      obtain ⟨-, x_6, hc_6, h0_6, hd_6⟩ := hW.2.2.1 k_5 (by omega)
      refine S_gp S hK hc_6 0 (by decide) (fun _ => rfl) iw_165 rfl dX3_pick_35 ?_
      rw [h0_6]
      exact r_i (v := (nI k_5)) hx hb hr hlocks hS dX3_pick_38 (⟨_, rfl, hW⟩)

abbrev B_q_X3_count (dC : Nat → ClassId) (dI : Nat → Nat → Nat) (z : Nat) (mi : Nat) (A : Nat → Prop) (bs : Nat) (cp : Nat) (h0 : Nat) (la : Nat → Nat) (sA : Nat → Nat) (cA : Nat → Nat) (ns : Nat) (nc : Nat) (dr : Nat → Prop) (X : Nat → Int32) (P : Nat → Prop) (tr : Nat → Int32) (nl : Nat) (nq : Nat) (rs : Nat) (a1 : Int32) : Option Value → Heap → Prop := fun v H => ∃ r : Int32, v = some (.int r) ∧ Cw dC dI z A bs cp h0 la sA cA ns nc dr X P tr nl nq rs H
set_option maxHeartbeats 8000000 in
set_option maxRecDepth 20000 in
theorem q_X3_count (l : Launch) (dC : Nat → ClassId) (dI : Nat → Nat → Nat) (z : Nat) (mi : Nat) (A : Nat → Prop) (bs : Nat) (cp : Nat) (h0 : Nat) (la : Nat → Nat) (sA : Nat → Nat) (cA : Nat → Nat) (ns : Nat) (nc : Nat) (dr : Nat → Prop) (X : Nat → Int32) (P : Nat → Prop) (tr : Nat → Int32) (nl : Nat) (nq : Nat) (rs : Nat) (a1 : Int32) : Met l yX3_count (cws yX3_count cX3_count 2 (some .int)) { frames := 4, cells := 0, slots := 0, locals := 87 } (va_Pc [.ref h0, .int a1] (fun U => KZ dC dI z mi A U ∧ Cw dC dI z A bs cp h0 la sA cA ns nc dr X P tr nl nq rs U.heap)) (Qg (B_q_X3_count dC dI z mi A bs cp h0 la sA cA ns nc dr X P tr nl nq rs a1) A) 0 0 A := by
  refine m_start (KK := KZ dC dI z mi A) (Pw := Cw dC dI z A bs cp h0 la sA cA ns nc dr X P tr nl nq rs) (by decide) (Nat.le_of_ble_eq_true rfl) ?_
  intro p e s m below meth c ls S hr hlocks hin hKZ hW hS hl
  obtain ⟨hx, hb, hml, hown, hts⟩ := id S
  have hK := hKZ.1
  obtain ⟨hns, hnc, hnl, ag, hag, hXg, hnq⟩ := id hW.2.2.2.2.2.2
  have hl : lv_has ls 2 [(0, .ref h0), (1, .int a1)] := hl
  refine lv_iload_n hx hb dX3_count_0 rfl (lv_at hl 1 rfl) ?_
  refine lv_iconst (v := 3) hx hb dX3_count_1 (by decide) ?_
  refine lv_icmp_lt (tgt := 19) hx hb dX3_count_2 (by decide) (fun c_1 => ?_) (fun c_1 => ?_)
  · skip
    have i_1 : a1.toInt < 3 := by have h9 := pz_lt c_1; exact h9
    refine lv_iload_n hx hb dX3_count_19 rfl (lv_at hl 1 rfl) ?_
    refine lv_bipush (v := 11) hx hb dX3_count_20 (by decide) ?_
    refine lv_icmp_lt (tgt := 41) hx hb dX3_count_22 (by decide) (fun c_2 => ?_) (fun c_2 => ?_)
    · skip
      have i_2 : a1.toInt < 11 := by have h9 := pz_lt c_2; exact h9
      refine lv_iload_n hx hb dX3_count_41 rfl (lv_at hl 1 rfl) ?_
      by_cases t_3 : a1.toInt < 0 ∨ 17 < a1.toInt
      · skip
        refine lv_tableOut (tgt := 169) hx hb dX3_count_42 t_3 (by decide) ?_
        refine lv_bipush (v := (-9)) hx hb dX3_count_169 (by decide) ?_
        exact r_i (v := (-9)) hx hb hr hlocks hS dX3_count_171 (⟨_, rfl, hW⟩)
      · skip
        obtain ⟨j_3, hj_3, ej_3⟩ := pz_of (x := a1) (n := 18) (by omega) (by omega)
        have oj_3 : j_3 = 0 ∨ j_3 = 1 ∨ j_3 = 2 ∨ j_3 = 3 ∨ j_3 = 4 ∨ j_3 = 5 ∨ j_3 = 6 ∨ j_3 = 7 ∨ j_3 = 8 ∨ j_3 = 9 ∨ j_3 = 10 ∨ j_3 = 11 ∨ j_3 = 12 ∨ j_3 = 13 ∨ j_3 = 14 ∨ j_3 = 15 ∨ j_3 = 16 ∨ j_3 = 17 := by omega
        rcases oj_3 with h9 | h9 | h9 | h9 | h9 | h9 | h9 | h9 | h9 | h9 | h9 | h9 | h9 | h9 | h9 | h9 | h9 | h9
        · skip
          have e9 : a1 = 0 := by rw [ej_3, h9]; rfl
          subst e9
          refine lv_tableIn (off := 86) (tgt := 128) hx hb dX3_count_42 (by decide) (by decide) (by decide) (by decide) ?_
          refine lv_aload_n hx hb dX3_count_128 rfl (lv_at hl 0 rfl) ?_
          refine D_get S hK hW 5 (by decide) (fun _ => rfl) iw_110 rfl dX3_count_129 (fun x_4 hx_4 => ?_)
          exact r_i (v := x_4) hx hb hr hlocks hS dX3_count_132 (⟨_, rfl, hW⟩)
        · skip
          have e9 : a1 = 1 := by rw [ej_3, h9]; rfl
          subst e9
          refine lv_tableIn (off := 91) (tgt := 133) hx hb dX3_count_42 (by decide) (by decide) (by decide) (by decide) ?_
          refine lv_aload_n hx hb dX3_count_133 rfl (lv_at hl 0 rfl) ?_
          refine D_getl S hK hW 0 (by decide) (fun _ => rfl) iw_105 rfl dX3_count_134 ?_
          refine L_size (rest := []) S hKZ hW hS (i := 0) (by decide) hl.1 (Nat.le_of_ble_eq_true rfl) dX3_count_137 ⟨Nat.le_of_ble_eq_true rfl, Nat.le_of_ble_eq_true rfl⟩ ⟨Nat.le_refl _, Nat.le_refl _⟩ (fun H locs hW hS => ?_)
          refine W.eq (g2 := F0 m 140 ls [.int (nI ns)]) rfl ?_
          obtain ⟨hns, hnc, hnl, ag_6, hag_6, -, hnq⟩ := id hW.2.2.2.2.2.2
          have en_7 : (nI ns).toInt = ((ns : Nat) : Int) := pz_ti (by omega)
          exact r_i (v := (nI ns)) hx hb hr hlocks hS dX3_count_140 (⟨_, rfl, hW⟩)
        · skip
          have e9 : a1 = 2 := by rw [ej_3, h9]; rfl
          subst e9
          refine lv_tableIn (off := 99) (tgt := 141) hx hb dX3_count_42 (by decide) (by decide) (by decide) (by decide) ?_
          refine lv_aload_n hx hb dX3_count_141 rfl (lv_at hl 0 rfl) ?_
          refine D_getl S hK hW 1 (by decide) (fun _ => rfl) iw_106 rfl dX3_count_142 ?_
          refine L_size (rest := []) S hKZ hW hS (i := 1) (by decide) hl.1 (Nat.le_of_ble_eq_true rfl) dX3_count_145 ⟨Nat.le_of_ble_eq_true rfl, Nat.le_of_ble_eq_true rfl⟩ ⟨Nat.le_refl _, Nat.le_refl _⟩ (fun H locs hW hS => ?_)
          refine W.eq (g2 := F0 m 148 ls [.int (nI nc)]) rfl ?_
          obtain ⟨hns, hnc, hnl, ag_9, hag_9, -, hnq⟩ := id hW.2.2.2.2.2.2
          have en_10 : (nI nc).toInt = ((nc : Nat) : Int) := pz_ti (by omega)
          exact r_i (v := (nI nc)) hx hb hr hlocks hS dX3_count_148 (⟨_, rfl, hW⟩)
        · skip
          have e9 : a1 = 3 := by rw [ej_3, h9]; rfl
          subst e9
          refine lv_tableIn (off := 127) (tgt := 169) hx hb dX3_count_42 (by decide) (by decide) (by decide) (by decide) ?_
          refine lv_bipush (v := (-9)) hx hb dX3_count_169 (by decide) ?_
          exact r_i (v := (-9)) hx hb hr hlocks hS dX3_count_171 (⟨_, rfl, hW⟩)
        · skip
          have e9 : a1 = 4 := by rw [ej_3, h9]; rfl
          subst e9
          refine lv_tableIn (off := 127) (tgt := 169) hx hb dX3_count_42 (by decide) (by decide) (by decide) (by decide) ?_
          refine lv_bipush (v := (-9)) hx hb dX3_count_169 (by decide) ?_
          exact r_i (v := (-9)) hx hb hr hlocks hS dX3_count_171 (⟨_, rfl, hW⟩)
        · skip
          have e9 : a1 = 5 := by rw [ej_3, h9]; rfl
          subst e9
          refine lv_tableIn (off := 127) (tgt := 169) hx hb dX3_count_42 (by decide) (by decide) (by decide) (by decide) ?_
          refine lv_bipush (v := (-9)) hx hb dX3_count_169 (by decide) ?_
          exact r_i (v := (-9)) hx hb hr hlocks hS dX3_count_171 (⟨_, rfl, hW⟩)
        · skip
          have e9 : a1 = 6 := by rw [ej_3, h9]; rfl
          subst e9
          refine lv_tableIn (off := 127) (tgt := 169) hx hb dX3_count_42 (by decide) (by decide) (by decide) (by decide) ?_
          refine lv_bipush (v := (-9)) hx hb dX3_count_169 (by decide) ?_
          exact r_i (v := (-9)) hx hb hr hlocks hS dX3_count_171 (⟨_, rfl, hW⟩)
        · skip
          have e9 : a1 = 7 := by rw [ej_3, h9]; rfl
          subst e9
          refine lv_tableIn (off := 127) (tgt := 169) hx hb dX3_count_42 (by decide) (by decide) (by decide) (by decide) ?_
          refine lv_bipush (v := (-9)) hx hb dX3_count_169 (by decide) ?_
          exact r_i (v := (-9)) hx hb hr hlocks hS dX3_count_171 (⟨_, rfl, hW⟩)
        · skip
          have e9 : a1 = 8 := by rw [ej_3, h9]; rfl
          subst e9
          refine lv_tableIn (off := 107) (tgt := 149) hx hb dX3_count_42 (by decide) (by decide) (by decide) (by decide) ?_
          refine lv_aload_n hx hb dX3_count_149 rfl (lv_at hl 0 rfl) ?_
          refine c_v (Pw := Cw dC dI z A bs cp h0 la sA cA ns nc dr X P tr nl nq rs) (n := 0) (As := []) (rest := []) S (q_X3_askingsSoFar l dC dI z mi A bs cp h0 la sA cA ns nc dr X P tr nl nq rs) iw_627 iw_624 iw_626 iw_30 iw_57 (by decide +kernel) rfl ⟨rfl, rfl, Nat.le_of_ble_eq_true rfl, Nat.le_of_ble_eq_true rfl⟩ KZ.blind (D_recv hK hW) (hKZ.at hS (fun _ h9 => h9)) hW hl.1 rfl (Nat.le_of_ble_eq_true rfl) dX3_count_150 ⟨Nat.le_refl _, Nat.le_refl _⟩ hS (fun _ h9 => h9) (fun v9 H locs hB hz9 hk9 hS => ?_)
          refine W.widen (k := 0) (n := 0) (Nat.le_refl 0) (Nat.le_refl 0) ?_
          obtain ⟨r_11, rfl, hW⟩ := hB
          refine W.eq (g2 := F0 m 153 ls [.int r_11]) rfl ?_
          exact r_i (v := r_11) hx hb hr hlocks hS dX3_count_153 (⟨_, rfl, hW⟩)
        · skip
          have e9 : a1 = 9 := by rw [ej_3, h9]; rfl
          subst e9
          refine lv_tableIn (off := 112) (tgt := 154) hx hb dX3_count_42 (by decide) (by decide) (by decide) (by decide) ?_
          refine lv_aload_n hx hb dX3_count_154 rfl (lv_at hl 0 rfl) ?_
          refine D_get S hK hW 10 (by decide) (fun _ => rfl) iw_115 rfl dX3_count_155 (fun x_12 hx_12 => ?_)
          replace hx_12 := hx_12 (by decide) (by decide)
          exact r_i (v := x_12) hx hb hr hlocks hS dX3_count_158 (⟨_, rfl, hW⟩)
        · skip
          have e9 : a1 = 10 := by rw [ej_3, h9]; rfl
          subst e9
          refine lv_tableIn (off := 117) (tgt := 159) hx hb dX3_count_42 (by decide) (by decide) (by decide) (by decide) ?_
          refine lv_aload_n hx hb dX3_count_159 rfl (lv_at hl 0 rfl) ?_
          refine D_get S hK hW 11 (by decide) (fun _ => rfl) iw_116 rfl dX3_count_160 (fun x_13 hx_13 => ?_)
          exact r_i (v := x_13) hx hb hr hlocks hS dX3_count_163 (⟨_, rfl, hW⟩)
        · skip
          have e9 : a1 = 11 := by rw [ej_3, h9]; rfl
          subst e9
          refine lv_tableIn (off := 127) (tgt := 169) hx hb dX3_count_42 (by decide) (by decide) (by decide) (by decide) ?_
          refine lv_bipush (v := (-9)) hx hb dX3_count_169 (by decide) ?_
          exact r_i (v := (-9)) hx hb hr hlocks hS dX3_count_171 (⟨_, rfl, hW⟩)
        · skip
          have e9 : a1 = 12 := by rw [ej_3, h9]; rfl
          subst e9
          refine lv_tableIn (off := 127) (tgt := 169) hx hb dX3_count_42 (by decide) (by decide) (by decide) (by decide) ?_
          refine lv_bipush (v := (-9)) hx hb dX3_count_169 (by decide) ?_
          exact r_i (v := (-9)) hx hb hr hlocks hS dX3_count_171 (⟨_, rfl, hW⟩)
        · skip
          have e9 : a1 = 13 := by rw [ej_3, h9]; rfl
          subst e9
          refine lv_tableIn (off := 127) (tgt := 169) hx hb dX3_count_42 (by decide) (by decide) (by decide) (by decide) ?_
          refine lv_bipush (v := (-9)) hx hb dX3_count_169 (by decide) ?_
          exact r_i (v := (-9)) hx hb hr hlocks hS dX3_count_171 (⟨_, rfl, hW⟩)
        · skip
          have e9 : a1 = 14 := by rw [ej_3, h9]; rfl
          subst e9
          refine lv_tableIn (off := 127) (tgt := 169) hx hb dX3_count_42 (by decide) (by decide) (by decide) (by decide) ?_
          refine lv_bipush (v := (-9)) hx hb dX3_count_169 (by decide) ?_
          exact r_i (v := (-9)) hx hb hr hlocks hS dX3_count_171 (⟨_, rfl, hW⟩)
        · skip
          have e9 : a1 = 15 := by rw [ej_3, h9]; rfl
          subst e9
          refine lv_tableIn (off := 127) (tgt := 169) hx hb dX3_count_42 (by decide) (by decide) (by decide) (by decide) ?_
          refine lv_bipush (v := (-9)) hx hb dX3_count_169 (by decide) ?_
          exact r_i (v := (-9)) hx hb hr hlocks hS dX3_count_171 (⟨_, rfl, hW⟩)
        · skip
          have e9 : a1 = 16 := by rw [ej_3, h9]; rfl
          subst e9
          refine lv_tableIn (off := 127) (tgt := 169) hx hb dX3_count_42 (by decide) (by decide) (by decide) (by decide) ?_
          refine lv_bipush (v := (-9)) hx hb dX3_count_169 (by decide) ?_
          exact r_i (v := (-9)) hx hb hr hlocks hS dX3_count_171 (⟨_, rfl, hW⟩)
        · skip
          have e9 : a1 = 17 := by rw [ej_3, h9]; rfl
          subst e9
          refine lv_tableIn (off := 122) (tgt := 164) hx hb dX3_count_42 (by decide) (by decide) (by decide) (by decide) ?_
          refine lv_aload_n hx hb dX3_count_164 rfl (lv_at hl 0 rfl) ?_
          refine c_v (Pw := Cw dC dI z A bs cp h0 la sA cA ns nc dr X P tr nl nq rs) (n := 0) (As := []) (rest := []) S (q_X3_openAskings l dC dI z mi A bs cp h0 la sA cA ns nc dr X P tr nl nq rs) iw_639 iw_636 iw_638 iw_32 iw_57 (by decide +kernel) rfl ⟨rfl, rfl, Nat.le_of_ble_eq_true rfl, Nat.le_of_ble_eq_true rfl⟩ KZ.blind (D_recv hK hW) (hKZ.at hS (fun _ h9 => h9)) hW hl.1 rfl (Nat.le_of_ble_eq_true rfl) dX3_count_165 ⟨Nat.le_refl _, Nat.le_refl _⟩ hS (fun _ h9 => h9) (fun v9 H locs hB hz9 hk9 hS => ?_)
          refine W.widen (k := 0) (n := 0) (Nat.le_refl 0) (Nat.le_refl 0) ?_
          obtain ⟨r_14, rfl, hW⟩ := hB
          refine W.eq (g2 := F0 m 168 ls [.int r_14]) rfl ?_
          exact r_i (v := r_14) hx hb hr hlocks hS dX3_count_168 (⟨_, rfl, hW⟩)
    · skip
      have i_2 : a1.toInt ≥ 11 := by have h9 := pz_nlt c_2; exact h9
      refine lv_iload_n hx hb dX3_count_25 rfl (lv_at hl 1 rfl) ?_
      refine lv_bipush (v := 16) hx hb dX3_count_26 (by decide) ?_
      refine lv_icmp_gt (tgt := 41) hx hb dX3_count_28 (by decide) (fun c_15 => ?_) (fun c_15 => ?_)
      · skip
        have i_15 : a1.toInt > 16 := by have h9 := pz_gt c_15; exact h9
        refine lv_iload_n hx hb dX3_count_41 rfl (lv_at hl 1 rfl) ?_
        by_cases t_16 : a1.toInt < 0 ∨ 17 < a1.toInt
        · skip
          refine lv_tableOut (tgt := 169) hx hb dX3_count_42 t_16 (by decide) ?_
          refine lv_bipush (v := (-9)) hx hb dX3_count_169 (by decide) ?_
          exact r_i (v := (-9)) hx hb hr hlocks hS dX3_count_171 (⟨_, rfl, hW⟩)
        · skip
          obtain ⟨j_16, hj_16, ej_16⟩ := pz_of (x := a1) (n := 18) (by omega) (by omega)
          have oj_16 : j_16 = 0 ∨ j_16 = 1 ∨ j_16 = 2 ∨ j_16 = 3 ∨ j_16 = 4 ∨ j_16 = 5 ∨ j_16 = 6 ∨ j_16 = 7 ∨ j_16 = 8 ∨ j_16 = 9 ∨ j_16 = 10 ∨ j_16 = 11 ∨ j_16 = 12 ∨ j_16 = 13 ∨ j_16 = 14 ∨ j_16 = 15 ∨ j_16 = 16 ∨ j_16 = 17 := by omega
          rcases oj_16 with h9 | h9 | h9 | h9 | h9 | h9 | h9 | h9 | h9 | h9 | h9 | h9 | h9 | h9 | h9 | h9 | h9 | h9
          · skip
            have e9 : a1 = 0 := by rw [ej_16, h9]; rfl
            subst e9
            refine lv_tableIn (off := 86) (tgt := 128) hx hb dX3_count_42 (by decide) (by decide) (by decide) (by decide) ?_
            refine lv_aload_n hx hb dX3_count_128 rfl (lv_at hl 0 rfl) ?_
            refine D_get S hK hW 5 (by decide) (fun _ => rfl) iw_110 rfl dX3_count_129 (fun x_17 hx_17 => ?_)
            exact r_i (v := x_17) hx hb hr hlocks hS dX3_count_132 (⟨_, rfl, hW⟩)
          · skip
            have e9 : a1 = 1 := by rw [ej_16, h9]; rfl
            subst e9
            refine lv_tableIn (off := 91) (tgt := 133) hx hb dX3_count_42 (by decide) (by decide) (by decide) (by decide) ?_
            refine lv_aload_n hx hb dX3_count_133 rfl (lv_at hl 0 rfl) ?_
            refine D_getl S hK hW 0 (by decide) (fun _ => rfl) iw_105 rfl dX3_count_134 ?_
            refine L_size (rest := []) S hKZ hW hS (i := 0) (by decide) hl.1 (Nat.le_of_ble_eq_true rfl) dX3_count_137 ⟨Nat.le_of_ble_eq_true rfl, Nat.le_of_ble_eq_true rfl⟩ ⟨Nat.le_refl _, Nat.le_refl _⟩ (fun H locs hW hS => ?_)
            refine W.eq (g2 := F0 m 140 ls [.int (nI ns)]) rfl ?_
            obtain ⟨hns, hnc, hnl, ag_19, hag_19, -, hnq⟩ := id hW.2.2.2.2.2.2
            have en_20 : (nI ns).toInt = ((ns : Nat) : Int) := pz_ti (by omega)
            exact r_i (v := (nI ns)) hx hb hr hlocks hS dX3_count_140 (⟨_, rfl, hW⟩)
          · skip
            have e9 : a1 = 2 := by rw [ej_16, h9]; rfl
            subst e9
            refine lv_tableIn (off := 99) (tgt := 141) hx hb dX3_count_42 (by decide) (by decide) (by decide) (by decide) ?_
            refine lv_aload_n hx hb dX3_count_141 rfl (lv_at hl 0 rfl) ?_
            refine D_getl S hK hW 1 (by decide) (fun _ => rfl) iw_106 rfl dX3_count_142 ?_
            refine L_size (rest := []) S hKZ hW hS (i := 1) (by decide) hl.1 (Nat.le_of_ble_eq_true rfl) dX3_count_145 ⟨Nat.le_of_ble_eq_true rfl, Nat.le_of_ble_eq_true rfl⟩ ⟨Nat.le_refl _, Nat.le_refl _⟩ (fun H locs hW hS => ?_)
            refine W.eq (g2 := F0 m 148 ls [.int (nI nc)]) rfl ?_
            obtain ⟨hns, hnc, hnl, ag_22, hag_22, -, hnq⟩ := id hW.2.2.2.2.2.2
            have en_23 : (nI nc).toInt = ((nc : Nat) : Int) := pz_ti (by omega)
            exact r_i (v := (nI nc)) hx hb hr hlocks hS dX3_count_148 (⟨_, rfl, hW⟩)
          · skip
            have e9 : a1 = 3 := by rw [ej_16, h9]; rfl
            subst e9
            refine lv_tableIn (off := 127) (tgt := 169) hx hb dX3_count_42 (by decide) (by decide) (by decide) (by decide) ?_
            refine lv_bipush (v := (-9)) hx hb dX3_count_169 (by decide) ?_
            exact r_i (v := (-9)) hx hb hr hlocks hS dX3_count_171 (⟨_, rfl, hW⟩)
          · skip
            have e9 : a1 = 4 := by rw [ej_16, h9]; rfl
            subst e9
            refine lv_tableIn (off := 127) (tgt := 169) hx hb dX3_count_42 (by decide) (by decide) (by decide) (by decide) ?_
            refine lv_bipush (v := (-9)) hx hb dX3_count_169 (by decide) ?_
            exact r_i (v := (-9)) hx hb hr hlocks hS dX3_count_171 (⟨_, rfl, hW⟩)
          · skip
            have e9 : a1 = 5 := by rw [ej_16, h9]; rfl
            subst e9
            refine lv_tableIn (off := 127) (tgt := 169) hx hb dX3_count_42 (by decide) (by decide) (by decide) (by decide) ?_
            refine lv_bipush (v := (-9)) hx hb dX3_count_169 (by decide) ?_
            exact r_i (v := (-9)) hx hb hr hlocks hS dX3_count_171 (⟨_, rfl, hW⟩)
          · skip
            have e9 : a1 = 6 := by rw [ej_16, h9]; rfl
            subst e9
            refine lv_tableIn (off := 127) (tgt := 169) hx hb dX3_count_42 (by decide) (by decide) (by decide) (by decide) ?_
            refine lv_bipush (v := (-9)) hx hb dX3_count_169 (by decide) ?_
            exact r_i (v := (-9)) hx hb hr hlocks hS dX3_count_171 (⟨_, rfl, hW⟩)
          · skip
            have e9 : a1 = 7 := by rw [ej_16, h9]; rfl
            subst e9
            refine lv_tableIn (off := 127) (tgt := 169) hx hb dX3_count_42 (by decide) (by decide) (by decide) (by decide) ?_
            refine lv_bipush (v := (-9)) hx hb dX3_count_169 (by decide) ?_
            exact r_i (v := (-9)) hx hb hr hlocks hS dX3_count_171 (⟨_, rfl, hW⟩)
          · skip
            have e9 : a1 = 8 := by rw [ej_16, h9]; rfl
            subst e9
            refine lv_tableIn (off := 107) (tgt := 149) hx hb dX3_count_42 (by decide) (by decide) (by decide) (by decide) ?_
            refine lv_aload_n hx hb dX3_count_149 rfl (lv_at hl 0 rfl) ?_
            refine c_v (Pw := Cw dC dI z A bs cp h0 la sA cA ns nc dr X P tr nl nq rs) (n := 0) (As := []) (rest := []) S (q_X3_askingsSoFar l dC dI z mi A bs cp h0 la sA cA ns nc dr X P tr nl nq rs) iw_627 iw_624 iw_626 iw_30 iw_57 (by decide +kernel) rfl ⟨rfl, rfl, Nat.le_of_ble_eq_true rfl, Nat.le_of_ble_eq_true rfl⟩ KZ.blind (D_recv hK hW) (hKZ.at hS (fun _ h9 => h9)) hW hl.1 rfl (Nat.le_of_ble_eq_true rfl) dX3_count_150 ⟨Nat.le_refl _, Nat.le_refl _⟩ hS (fun _ h9 => h9) (fun v9 H locs hB hz9 hk9 hS => ?_)
            refine W.widen (k := 0) (n := 0) (Nat.le_refl 0) (Nat.le_refl 0) ?_
            obtain ⟨r_24, rfl, hW⟩ := hB
            refine W.eq (g2 := F0 m 153 ls [.int r_24]) rfl ?_
            exact r_i (v := r_24) hx hb hr hlocks hS dX3_count_153 (⟨_, rfl, hW⟩)
          · skip
            have e9 : a1 = 9 := by rw [ej_16, h9]; rfl
            subst e9
            refine lv_tableIn (off := 112) (tgt := 154) hx hb dX3_count_42 (by decide) (by decide) (by decide) (by decide) ?_
            refine lv_aload_n hx hb dX3_count_154 rfl (lv_at hl 0 rfl) ?_
            refine D_get S hK hW 10 (by decide) (fun _ => rfl) iw_115 rfl dX3_count_155 (fun x_25 hx_25 => ?_)
            replace hx_25 := hx_25 (by decide) (by decide)
            exact r_i (v := x_25) hx hb hr hlocks hS dX3_count_158 (⟨_, rfl, hW⟩)
          · skip
            have e9 : a1 = 10 := by rw [ej_16, h9]; rfl
            subst e9
            refine lv_tableIn (off := 117) (tgt := 159) hx hb dX3_count_42 (by decide) (by decide) (by decide) (by decide) ?_
            refine lv_aload_n hx hb dX3_count_159 rfl (lv_at hl 0 rfl) ?_
            refine D_get S hK hW 11 (by decide) (fun _ => rfl) iw_116 rfl dX3_count_160 (fun x_26 hx_26 => ?_)
            exact r_i (v := x_26) hx hb hr hlocks hS dX3_count_163 (⟨_, rfl, hW⟩)
          · skip
            have e9 : a1 = 11 := by rw [ej_16, h9]; rfl
            subst e9
            refine lv_tableIn (off := 127) (tgt := 169) hx hb dX3_count_42 (by decide) (by decide) (by decide) (by decide) ?_
            refine lv_bipush (v := (-9)) hx hb dX3_count_169 (by decide) ?_
            exact r_i (v := (-9)) hx hb hr hlocks hS dX3_count_171 (⟨_, rfl, hW⟩)
          · skip
            have e9 : a1 = 12 := by rw [ej_16, h9]; rfl
            subst e9
            refine lv_tableIn (off := 127) (tgt := 169) hx hb dX3_count_42 (by decide) (by decide) (by decide) (by decide) ?_
            refine lv_bipush (v := (-9)) hx hb dX3_count_169 (by decide) ?_
            exact r_i (v := (-9)) hx hb hr hlocks hS dX3_count_171 (⟨_, rfl, hW⟩)
          · skip
            have e9 : a1 = 13 := by rw [ej_16, h9]; rfl
            subst e9
            refine lv_tableIn (off := 127) (tgt := 169) hx hb dX3_count_42 (by decide) (by decide) (by decide) (by decide) ?_
            refine lv_bipush (v := (-9)) hx hb dX3_count_169 (by decide) ?_
            exact r_i (v := (-9)) hx hb hr hlocks hS dX3_count_171 (⟨_, rfl, hW⟩)
          · skip
            have e9 : a1 = 14 := by rw [ej_16, h9]; rfl
            subst e9
            refine lv_tableIn (off := 127) (tgt := 169) hx hb dX3_count_42 (by decide) (by decide) (by decide) (by decide) ?_
            refine lv_bipush (v := (-9)) hx hb dX3_count_169 (by decide) ?_
            exact r_i (v := (-9)) hx hb hr hlocks hS dX3_count_171 (⟨_, rfl, hW⟩)
          · skip
            have e9 : a1 = 15 := by rw [ej_16, h9]; rfl
            subst e9
            refine lv_tableIn (off := 127) (tgt := 169) hx hb dX3_count_42 (by decide) (by decide) (by decide) (by decide) ?_
            refine lv_bipush (v := (-9)) hx hb dX3_count_169 (by decide) ?_
            exact r_i (v := (-9)) hx hb hr hlocks hS dX3_count_171 (⟨_, rfl, hW⟩)
          · skip
            have e9 : a1 = 16 := by rw [ej_16, h9]; rfl
            subst e9
            refine lv_tableIn (off := 127) (tgt := 169) hx hb dX3_count_42 (by decide) (by decide) (by decide) (by decide) ?_
            refine lv_bipush (v := (-9)) hx hb dX3_count_169 (by decide) ?_
            exact r_i (v := (-9)) hx hb hr hlocks hS dX3_count_171 (⟨_, rfl, hW⟩)
          · skip
            have e9 : a1 = 17 := by rw [ej_16, h9]; rfl
            subst e9
            refine lv_tableIn (off := 122) (tgt := 164) hx hb dX3_count_42 (by decide) (by decide) (by decide) (by decide) ?_
            refine lv_aload_n hx hb dX3_count_164 rfl (lv_at hl 0 rfl) ?_
            refine c_v (Pw := Cw dC dI z A bs cp h0 la sA cA ns nc dr X P tr nl nq rs) (n := 0) (As := []) (rest := []) S (q_X3_openAskings l dC dI z mi A bs cp h0 la sA cA ns nc dr X P tr nl nq rs) iw_639 iw_636 iw_638 iw_32 iw_57 (by decide +kernel) rfl ⟨rfl, rfl, Nat.le_of_ble_eq_true rfl, Nat.le_of_ble_eq_true rfl⟩ KZ.blind (D_recv hK hW) (hKZ.at hS (fun _ h9 => h9)) hW hl.1 rfl (Nat.le_of_ble_eq_true rfl) dX3_count_165 ⟨Nat.le_refl _, Nat.le_refl _⟩ hS (fun _ h9 => h9) (fun v9 H locs hB hz9 hk9 hS => ?_)
            refine W.widen (k := 0) (n := 0) (Nat.le_refl 0) (Nat.le_refl 0) ?_
            obtain ⟨r_27, rfl, hW⟩ := hB
            refine W.eq (g2 := F0 m 168 ls [.int r_27]) rfl ?_
            exact r_i (v := r_27) hx hb hr hlocks hS dX3_count_168 (⟨_, rfl, hW⟩)
      · skip
        have i_15 : a1.toInt ≤ 16 := by have h9 := pz_ngt c_15; exact h9
        obtain ⟨jc, hjc, ejc⟩ := pz_of (x := a1) (n := 17) (by omega) (by omega)
        subst ejc
        have en_28 : (nI jc).toInt = ((jc : Nat) : Int) := pz_ti (by omega)
        refine lv_aload_n hx hb dX3_count_31 rfl (lv_at hl 0 rfl) ?_
        refine D_getl S hK hW 4 (by decide) (fun _ => rfl) iw_109 rfl dX3_count_32 ?_
        refine lv_iload_n hx hb dX3_count_35 rfl (lv_at hl 1 rfl) ?_
        refine lv_bipush (v := 10) hx hb dX3_count_36 (by decide) ?_
        refine lv_isub hx hb dX3_count_38 ?_
        refine lv_topi (fun x_30 ex_30 => ?_)
        obtain rfl : x_30 = nI (jc - 10) := ex_30.trans (pk_sub (a := jc) (b := 10) (by omega))
        have en_31 : (nI (jc - 10)).toInt = ((jc - 10 : Nat) : Int) := pz_ti (by omega)
        refine R_ld hx hb hK hW (pz_vi (by omega) (by decide)) dX3_count_39 (fun x_32 => ?_)
        exact r_i (v := x_32) hx hb hr hlocks hS dX3_count_40 (⟨_, rfl, hW⟩)
  · skip
    have i_1 : a1.toInt ≥ 3 := by have h9 := pz_nlt c_1; exact h9
    refine lv_iload_n hx hb dX3_count_5 rfl (lv_at hl 1 rfl) ?_
    refine lv_bipush (v := 7) hx hb dX3_count_6 (by decide) ?_
    refine lv_icmp_gt (tgt := 19) hx hb dX3_count_8 (by decide) (fun c_33 => ?_) (fun c_33 => ?_)
    · skip
      have i_33 : a1.toInt > 7 := by have h9 := pz_gt c_33; exact h9
      refine lv_iload_n hx hb dX3_count_19 rfl (lv_at hl 1 rfl) ?_
      refine lv_bipush (v := 11) hx hb dX3_count_20 (by decide) ?_
      refine lv_icmp_lt (tgt := 41) hx hb dX3_count_22 (by decide) (fun c_34 => ?_) (fun c_34 => ?_)
      · skip
        have i_34 : a1.toInt < 11 := by have h9 := pz_lt c_34; exact h9
        refine lv_iload_n hx hb dX3_count_41 rfl (lv_at hl 1 rfl) ?_
        by_cases t_35 : a1.toInt < 0 ∨ 17 < a1.toInt
        · skip
          refine lv_tableOut (tgt := 169) hx hb dX3_count_42 t_35 (by decide) ?_
          refine lv_bipush (v := (-9)) hx hb dX3_count_169 (by decide) ?_
          exact r_i (v := (-9)) hx hb hr hlocks hS dX3_count_171 (⟨_, rfl, hW⟩)
        · skip
          obtain ⟨j_35, hj_35, ej_35⟩ := pz_of (x := a1) (n := 18) (by omega) (by omega)
          have oj_35 : j_35 = 0 ∨ j_35 = 1 ∨ j_35 = 2 ∨ j_35 = 3 ∨ j_35 = 4 ∨ j_35 = 5 ∨ j_35 = 6 ∨ j_35 = 7 ∨ j_35 = 8 ∨ j_35 = 9 ∨ j_35 = 10 ∨ j_35 = 11 ∨ j_35 = 12 ∨ j_35 = 13 ∨ j_35 = 14 ∨ j_35 = 15 ∨ j_35 = 16 ∨ j_35 = 17 := by omega
          rcases oj_35 with h9 | h9 | h9 | h9 | h9 | h9 | h9 | h9 | h9 | h9 | h9 | h9 | h9 | h9 | h9 | h9 | h9 | h9
          · skip
            have e9 : a1 = 0 := by rw [ej_35, h9]; rfl
            subst e9
            refine lv_tableIn (off := 86) (tgt := 128) hx hb dX3_count_42 (by decide) (by decide) (by decide) (by decide) ?_
            refine lv_aload_n hx hb dX3_count_128 rfl (lv_at hl 0 rfl) ?_
            refine D_get S hK hW 5 (by decide) (fun _ => rfl) iw_110 rfl dX3_count_129 (fun x_36 hx_36 => ?_)
            exact r_i (v := x_36) hx hb hr hlocks hS dX3_count_132 (⟨_, rfl, hW⟩)
          · skip
            have e9 : a1 = 1 := by rw [ej_35, h9]; rfl
            subst e9
            refine lv_tableIn (off := 91) (tgt := 133) hx hb dX3_count_42 (by decide) (by decide) (by decide) (by decide) ?_
            refine lv_aload_n hx hb dX3_count_133 rfl (lv_at hl 0 rfl) ?_
            refine D_getl S hK hW 0 (by decide) (fun _ => rfl) iw_105 rfl dX3_count_134 ?_
            refine L_size (rest := []) S hKZ hW hS (i := 0) (by decide) hl.1 (Nat.le_of_ble_eq_true rfl) dX3_count_137 ⟨Nat.le_of_ble_eq_true rfl, Nat.le_of_ble_eq_true rfl⟩ ⟨Nat.le_refl _, Nat.le_refl _⟩ (fun H locs hW hS => ?_)
            refine W.eq (g2 := F0 m 140 ls [.int (nI ns)]) rfl ?_
            obtain ⟨hns, hnc, hnl, ag_38, hag_38, -, hnq⟩ := id hW.2.2.2.2.2.2
            have en_39 : (nI ns).toInt = ((ns : Nat) : Int) := pz_ti (by omega)
            exact r_i (v := (nI ns)) hx hb hr hlocks hS dX3_count_140 (⟨_, rfl, hW⟩)
          · skip
            have e9 : a1 = 2 := by rw [ej_35, h9]; rfl
            subst e9
            refine lv_tableIn (off := 99) (tgt := 141) hx hb dX3_count_42 (by decide) (by decide) (by decide) (by decide) ?_
            refine lv_aload_n hx hb dX3_count_141 rfl (lv_at hl 0 rfl) ?_
            refine D_getl S hK hW 1 (by decide) (fun _ => rfl) iw_106 rfl dX3_count_142 ?_
            refine L_size (rest := []) S hKZ hW hS (i := 1) (by decide) hl.1 (Nat.le_of_ble_eq_true rfl) dX3_count_145 ⟨Nat.le_of_ble_eq_true rfl, Nat.le_of_ble_eq_true rfl⟩ ⟨Nat.le_refl _, Nat.le_refl _⟩ (fun H locs hW hS => ?_)
            refine W.eq (g2 := F0 m 148 ls [.int (nI nc)]) rfl ?_
            obtain ⟨hns, hnc, hnl, ag_41, hag_41, -, hnq⟩ := id hW.2.2.2.2.2.2
            have en_42 : (nI nc).toInt = ((nc : Nat) : Int) := pz_ti (by omega)
            exact r_i (v := (nI nc)) hx hb hr hlocks hS dX3_count_148 (⟨_, rfl, hW⟩)
          · skip
            have e9 : a1 = 3 := by rw [ej_35, h9]; rfl
            subst e9
            refine lv_tableIn (off := 127) (tgt := 169) hx hb dX3_count_42 (by decide) (by decide) (by decide) (by decide) ?_
            refine lv_bipush (v := (-9)) hx hb dX3_count_169 (by decide) ?_
            exact r_i (v := (-9)) hx hb hr hlocks hS dX3_count_171 (⟨_, rfl, hW⟩)
          · skip
            have e9 : a1 = 4 := by rw [ej_35, h9]; rfl
            subst e9
            refine lv_tableIn (off := 127) (tgt := 169) hx hb dX3_count_42 (by decide) (by decide) (by decide) (by decide) ?_
            refine lv_bipush (v := (-9)) hx hb dX3_count_169 (by decide) ?_
            exact r_i (v := (-9)) hx hb hr hlocks hS dX3_count_171 (⟨_, rfl, hW⟩)
          · skip
            have e9 : a1 = 5 := by rw [ej_35, h9]; rfl
            subst e9
            refine lv_tableIn (off := 127) (tgt := 169) hx hb dX3_count_42 (by decide) (by decide) (by decide) (by decide) ?_
            refine lv_bipush (v := (-9)) hx hb dX3_count_169 (by decide) ?_
            exact r_i (v := (-9)) hx hb hr hlocks hS dX3_count_171 (⟨_, rfl, hW⟩)
          · skip
            have e9 : a1 = 6 := by rw [ej_35, h9]; rfl
            subst e9
            refine lv_tableIn (off := 127) (tgt := 169) hx hb dX3_count_42 (by decide) (by decide) (by decide) (by decide) ?_
            refine lv_bipush (v := (-9)) hx hb dX3_count_169 (by decide) ?_
            exact r_i (v := (-9)) hx hb hr hlocks hS dX3_count_171 (⟨_, rfl, hW⟩)
          · skip
            have e9 : a1 = 7 := by rw [ej_35, h9]; rfl
            subst e9
            refine lv_tableIn (off := 127) (tgt := 169) hx hb dX3_count_42 (by decide) (by decide) (by decide) (by decide) ?_
            refine lv_bipush (v := (-9)) hx hb dX3_count_169 (by decide) ?_
            exact r_i (v := (-9)) hx hb hr hlocks hS dX3_count_171 (⟨_, rfl, hW⟩)
          · skip
            have e9 : a1 = 8 := by rw [ej_35, h9]; rfl
            subst e9
            refine lv_tableIn (off := 107) (tgt := 149) hx hb dX3_count_42 (by decide) (by decide) (by decide) (by decide) ?_
            refine lv_aload_n hx hb dX3_count_149 rfl (lv_at hl 0 rfl) ?_
            refine c_v (Pw := Cw dC dI z A bs cp h0 la sA cA ns nc dr X P tr nl nq rs) (n := 0) (As := []) (rest := []) S (q_X3_askingsSoFar l dC dI z mi A bs cp h0 la sA cA ns nc dr X P tr nl nq rs) iw_627 iw_624 iw_626 iw_30 iw_57 (by decide +kernel) rfl ⟨rfl, rfl, Nat.le_of_ble_eq_true rfl, Nat.le_of_ble_eq_true rfl⟩ KZ.blind (D_recv hK hW) (hKZ.at hS (fun _ h9 => h9)) hW hl.1 rfl (Nat.le_of_ble_eq_true rfl) dX3_count_150 ⟨Nat.le_refl _, Nat.le_refl _⟩ hS (fun _ h9 => h9) (fun v9 H locs hB hz9 hk9 hS => ?_)
            refine W.widen (k := 0) (n := 0) (Nat.le_refl 0) (Nat.le_refl 0) ?_
            obtain ⟨r_43, rfl, hW⟩ := hB
            refine W.eq (g2 := F0 m 153 ls [.int r_43]) rfl ?_
            exact r_i (v := r_43) hx hb hr hlocks hS dX3_count_153 (⟨_, rfl, hW⟩)
          · skip
            have e9 : a1 = 9 := by rw [ej_35, h9]; rfl
            subst e9
            refine lv_tableIn (off := 112) (tgt := 154) hx hb dX3_count_42 (by decide) (by decide) (by decide) (by decide) ?_
            refine lv_aload_n hx hb dX3_count_154 rfl (lv_at hl 0 rfl) ?_
            refine D_get S hK hW 10 (by decide) (fun _ => rfl) iw_115 rfl dX3_count_155 (fun x_44 hx_44 => ?_)
            replace hx_44 := hx_44 (by decide) (by decide)
            exact r_i (v := x_44) hx hb hr hlocks hS dX3_count_158 (⟨_, rfl, hW⟩)
          · skip
            have e9 : a1 = 10 := by rw [ej_35, h9]; rfl
            subst e9
            refine lv_tableIn (off := 117) (tgt := 159) hx hb dX3_count_42 (by decide) (by decide) (by decide) (by decide) ?_
            refine lv_aload_n hx hb dX3_count_159 rfl (lv_at hl 0 rfl) ?_
            refine D_get S hK hW 11 (by decide) (fun _ => rfl) iw_116 rfl dX3_count_160 (fun x_45 hx_45 => ?_)
            exact r_i (v := x_45) hx hb hr hlocks hS dX3_count_163 (⟨_, rfl, hW⟩)
          · skip
            have e9 : a1 = 11 := by rw [ej_35, h9]; rfl
            subst e9
            refine lv_tableIn (off := 127) (tgt := 169) hx hb dX3_count_42 (by decide) (by decide) (by decide) (by decide) ?_
            refine lv_bipush (v := (-9)) hx hb dX3_count_169 (by decide) ?_
            exact r_i (v := (-9)) hx hb hr hlocks hS dX3_count_171 (⟨_, rfl, hW⟩)
          · skip
            have e9 : a1 = 12 := by rw [ej_35, h9]; rfl
            subst e9
            refine lv_tableIn (off := 127) (tgt := 169) hx hb dX3_count_42 (by decide) (by decide) (by decide) (by decide) ?_
            refine lv_bipush (v := (-9)) hx hb dX3_count_169 (by decide) ?_
            exact r_i (v := (-9)) hx hb hr hlocks hS dX3_count_171 (⟨_, rfl, hW⟩)
          · skip
            have e9 : a1 = 13 := by rw [ej_35, h9]; rfl
            subst e9
            refine lv_tableIn (off := 127) (tgt := 169) hx hb dX3_count_42 (by decide) (by decide) (by decide) (by decide) ?_
            refine lv_bipush (v := (-9)) hx hb dX3_count_169 (by decide) ?_
            exact r_i (v := (-9)) hx hb hr hlocks hS dX3_count_171 (⟨_, rfl, hW⟩)
          · skip
            have e9 : a1 = 14 := by rw [ej_35, h9]; rfl
            subst e9
            refine lv_tableIn (off := 127) (tgt := 169) hx hb dX3_count_42 (by decide) (by decide) (by decide) (by decide) ?_
            refine lv_bipush (v := (-9)) hx hb dX3_count_169 (by decide) ?_
            exact r_i (v := (-9)) hx hb hr hlocks hS dX3_count_171 (⟨_, rfl, hW⟩)
          · skip
            have e9 : a1 = 15 := by rw [ej_35, h9]; rfl
            subst e9
            refine lv_tableIn (off := 127) (tgt := 169) hx hb dX3_count_42 (by decide) (by decide) (by decide) (by decide) ?_
            refine lv_bipush (v := (-9)) hx hb dX3_count_169 (by decide) ?_
            exact r_i (v := (-9)) hx hb hr hlocks hS dX3_count_171 (⟨_, rfl, hW⟩)
          · skip
            have e9 : a1 = 16 := by rw [ej_35, h9]; rfl
            subst e9
            refine lv_tableIn (off := 127) (tgt := 169) hx hb dX3_count_42 (by decide) (by decide) (by decide) (by decide) ?_
            refine lv_bipush (v := (-9)) hx hb dX3_count_169 (by decide) ?_
            exact r_i (v := (-9)) hx hb hr hlocks hS dX3_count_171 (⟨_, rfl, hW⟩)
          · skip
            have e9 : a1 = 17 := by rw [ej_35, h9]; rfl
            subst e9
            refine lv_tableIn (off := 122) (tgt := 164) hx hb dX3_count_42 (by decide) (by decide) (by decide) (by decide) ?_
            refine lv_aload_n hx hb dX3_count_164 rfl (lv_at hl 0 rfl) ?_
            refine c_v (Pw := Cw dC dI z A bs cp h0 la sA cA ns nc dr X P tr nl nq rs) (n := 0) (As := []) (rest := []) S (q_X3_openAskings l dC dI z mi A bs cp h0 la sA cA ns nc dr X P tr nl nq rs) iw_639 iw_636 iw_638 iw_32 iw_57 (by decide +kernel) rfl ⟨rfl, rfl, Nat.le_of_ble_eq_true rfl, Nat.le_of_ble_eq_true rfl⟩ KZ.blind (D_recv hK hW) (hKZ.at hS (fun _ h9 => h9)) hW hl.1 rfl (Nat.le_of_ble_eq_true rfl) dX3_count_165 ⟨Nat.le_refl _, Nat.le_refl _⟩ hS (fun _ h9 => h9) (fun v9 H locs hB hz9 hk9 hS => ?_)
            refine W.widen (k := 0) (n := 0) (Nat.le_refl 0) (Nat.le_refl 0) ?_
            obtain ⟨r_46, rfl, hW⟩ := hB
            refine W.eq (g2 := F0 m 168 ls [.int r_46]) rfl ?_
            exact r_i (v := r_46) hx hb hr hlocks hS dX3_count_168 (⟨_, rfl, hW⟩)
      · skip
        have i_34 : a1.toInt ≥ 11 := by have h9 := pz_nlt c_34; exact h9
        refine lv_iload_n hx hb dX3_count_25 rfl (lv_at hl 1 rfl) ?_
        refine lv_bipush (v := 16) hx hb dX3_count_26 (by decide) ?_
        refine lv_icmp_gt (tgt := 41) hx hb dX3_count_28 (by decide) (fun c_47 => ?_) (fun c_47 => ?_)
        · skip
          have i_47 : a1.toInt > 16 := by have h9 := pz_gt c_47; exact h9
          refine lv_iload_n hx hb dX3_count_41 rfl (lv_at hl 1 rfl) ?_
          by_cases t_48 : a1.toInt < 0 ∨ 17 < a1.toInt
          · skip
            refine lv_tableOut (tgt := 169) hx hb dX3_count_42 t_48 (by decide) ?_
            refine lv_bipush (v := (-9)) hx hb dX3_count_169 (by decide) ?_
            exact r_i (v := (-9)) hx hb hr hlocks hS dX3_count_171 (⟨_, rfl, hW⟩)
          · skip
            obtain ⟨j_48, hj_48, ej_48⟩ := pz_of (x := a1) (n := 18) (by omega) (by omega)
            have oj_48 : j_48 = 0 ∨ j_48 = 1 ∨ j_48 = 2 ∨ j_48 = 3 ∨ j_48 = 4 ∨ j_48 = 5 ∨ j_48 = 6 ∨ j_48 = 7 ∨ j_48 = 8 ∨ j_48 = 9 ∨ j_48 = 10 ∨ j_48 = 11 ∨ j_48 = 12 ∨ j_48 = 13 ∨ j_48 = 14 ∨ j_48 = 15 ∨ j_48 = 16 ∨ j_48 = 17 := by omega
            rcases oj_48 with h9 | h9 | h9 | h9 | h9 | h9 | h9 | h9 | h9 | h9 | h9 | h9 | h9 | h9 | h9 | h9 | h9 | h9
            · skip
              have e9 : a1 = 0 := by rw [ej_48, h9]; rfl
              subst e9
              refine lv_tableIn (off := 86) (tgt := 128) hx hb dX3_count_42 (by decide) (by decide) (by decide) (by decide) ?_
              refine lv_aload_n hx hb dX3_count_128 rfl (lv_at hl 0 rfl) ?_
              refine D_get S hK hW 5 (by decide) (fun _ => rfl) iw_110 rfl dX3_count_129 (fun x_49 hx_49 => ?_)
              exact r_i (v := x_49) hx hb hr hlocks hS dX3_count_132 (⟨_, rfl, hW⟩)
            · skip
              have e9 : a1 = 1 := by rw [ej_48, h9]; rfl
              subst e9
              refine lv_tableIn (off := 91) (tgt := 133) hx hb dX3_count_42 (by decide) (by decide) (by decide) (by decide) ?_
              refine lv_aload_n hx hb dX3_count_133 rfl (lv_at hl 0 rfl) ?_
              refine D_getl S hK hW 0 (by decide) (fun _ => rfl) iw_105 rfl dX3_count_134 ?_
              refine L_size (rest := []) S hKZ hW hS (i := 0) (by decide) hl.1 (Nat.le_of_ble_eq_true rfl) dX3_count_137 ⟨Nat.le_of_ble_eq_true rfl, Nat.le_of_ble_eq_true rfl⟩ ⟨Nat.le_refl _, Nat.le_refl _⟩ (fun H locs hW hS => ?_)
              refine W.eq (g2 := F0 m 140 ls [.int (nI ns)]) rfl ?_
              obtain ⟨hns, hnc, hnl, ag_51, hag_51, -, hnq⟩ := id hW.2.2.2.2.2.2
              have en_52 : (nI ns).toInt = ((ns : Nat) : Int) := pz_ti (by omega)
              exact r_i (v := (nI ns)) hx hb hr hlocks hS dX3_count_140 (⟨_, rfl, hW⟩)
            · skip
              have e9 : a1 = 2 := by rw [ej_48, h9]; rfl
              subst e9
              refine lv_tableIn (off := 99) (tgt := 141) hx hb dX3_count_42 (by decide) (by decide) (by decide) (by decide) ?_
              refine lv_aload_n hx hb dX3_count_141 rfl (lv_at hl 0 rfl) ?_
              refine D_getl S hK hW 1 (by decide) (fun _ => rfl) iw_106 rfl dX3_count_142 ?_
              refine L_size (rest := []) S hKZ hW hS (i := 1) (by decide) hl.1 (Nat.le_of_ble_eq_true rfl) dX3_count_145 ⟨Nat.le_of_ble_eq_true rfl, Nat.le_of_ble_eq_true rfl⟩ ⟨Nat.le_refl _, Nat.le_refl _⟩ (fun H locs hW hS => ?_)
              refine W.eq (g2 := F0 m 148 ls [.int (nI nc)]) rfl ?_
              obtain ⟨hns, hnc, hnl, ag_54, hag_54, -, hnq⟩ := id hW.2.2.2.2.2.2
              have en_55 : (nI nc).toInt = ((nc : Nat) : Int) := pz_ti (by omega)
              exact r_i (v := (nI nc)) hx hb hr hlocks hS dX3_count_148 (⟨_, rfl, hW⟩)
            · skip
              have e9 : a1 = 3 := by rw [ej_48, h9]; rfl
              subst e9
              refine lv_tableIn (off := 127) (tgt := 169) hx hb dX3_count_42 (by decide) (by decide) (by decide) (by decide) ?_
              refine lv_bipush (v := (-9)) hx hb dX3_count_169 (by decide) ?_
              exact r_i (v := (-9)) hx hb hr hlocks hS dX3_count_171 (⟨_, rfl, hW⟩)
            · skip
              have e9 : a1 = 4 := by rw [ej_48, h9]; rfl
              subst e9
              refine lv_tableIn (off := 127) (tgt := 169) hx hb dX3_count_42 (by decide) (by decide) (by decide) (by decide) ?_
              refine lv_bipush (v := (-9)) hx hb dX3_count_169 (by decide) ?_
              exact r_i (v := (-9)) hx hb hr hlocks hS dX3_count_171 (⟨_, rfl, hW⟩)
            · skip
              have e9 : a1 = 5 := by rw [ej_48, h9]; rfl
              subst e9
              refine lv_tableIn (off := 127) (tgt := 169) hx hb dX3_count_42 (by decide) (by decide) (by decide) (by decide) ?_
              refine lv_bipush (v := (-9)) hx hb dX3_count_169 (by decide) ?_
              exact r_i (v := (-9)) hx hb hr hlocks hS dX3_count_171 (⟨_, rfl, hW⟩)
            · skip
              have e9 : a1 = 6 := by rw [ej_48, h9]; rfl
              subst e9
              refine lv_tableIn (off := 127) (tgt := 169) hx hb dX3_count_42 (by decide) (by decide) (by decide) (by decide) ?_
              refine lv_bipush (v := (-9)) hx hb dX3_count_169 (by decide) ?_
              exact r_i (v := (-9)) hx hb hr hlocks hS dX3_count_171 (⟨_, rfl, hW⟩)
            · skip
              have e9 : a1 = 7 := by rw [ej_48, h9]; rfl
              subst e9
              refine lv_tableIn (off := 127) (tgt := 169) hx hb dX3_count_42 (by decide) (by decide) (by decide) (by decide) ?_
              refine lv_bipush (v := (-9)) hx hb dX3_count_169 (by decide) ?_
              exact r_i (v := (-9)) hx hb hr hlocks hS dX3_count_171 (⟨_, rfl, hW⟩)
            · skip
              have e9 : a1 = 8 := by rw [ej_48, h9]; rfl
              subst e9
              refine lv_tableIn (off := 107) (tgt := 149) hx hb dX3_count_42 (by decide) (by decide) (by decide) (by decide) ?_
              refine lv_aload_n hx hb dX3_count_149 rfl (lv_at hl 0 rfl) ?_
              refine c_v (Pw := Cw dC dI z A bs cp h0 la sA cA ns nc dr X P tr nl nq rs) (n := 0) (As := []) (rest := []) S (q_X3_askingsSoFar l dC dI z mi A bs cp h0 la sA cA ns nc dr X P tr nl nq rs) iw_627 iw_624 iw_626 iw_30 iw_57 (by decide +kernel) rfl ⟨rfl, rfl, Nat.le_of_ble_eq_true rfl, Nat.le_of_ble_eq_true rfl⟩ KZ.blind (D_recv hK hW) (hKZ.at hS (fun _ h9 => h9)) hW hl.1 rfl (Nat.le_of_ble_eq_true rfl) dX3_count_150 ⟨Nat.le_refl _, Nat.le_refl _⟩ hS (fun _ h9 => h9) (fun v9 H locs hB hz9 hk9 hS => ?_)
              refine W.widen (k := 0) (n := 0) (Nat.le_refl 0) (Nat.le_refl 0) ?_
              obtain ⟨r_56, rfl, hW⟩ := hB
              refine W.eq (g2 := F0 m 153 ls [.int r_56]) rfl ?_
              exact r_i (v := r_56) hx hb hr hlocks hS dX3_count_153 (⟨_, rfl, hW⟩)
            · skip
              have e9 : a1 = 9 := by rw [ej_48, h9]; rfl
              subst e9
              refine lv_tableIn (off := 112) (tgt := 154) hx hb dX3_count_42 (by decide) (by decide) (by decide) (by decide) ?_
              refine lv_aload_n hx hb dX3_count_154 rfl (lv_at hl 0 rfl) ?_
              refine D_get S hK hW 10 (by decide) (fun _ => rfl) iw_115 rfl dX3_count_155 (fun x_57 hx_57 => ?_)
              replace hx_57 := hx_57 (by decide) (by decide)
              exact r_i (v := x_57) hx hb hr hlocks hS dX3_count_158 (⟨_, rfl, hW⟩)
            · skip
              have e9 : a1 = 10 := by rw [ej_48, h9]; rfl
              subst e9
              refine lv_tableIn (off := 117) (tgt := 159) hx hb dX3_count_42 (by decide) (by decide) (by decide) (by decide) ?_
              refine lv_aload_n hx hb dX3_count_159 rfl (lv_at hl 0 rfl) ?_
              refine D_get S hK hW 11 (by decide) (fun _ => rfl) iw_116 rfl dX3_count_160 (fun x_58 hx_58 => ?_)
              exact r_i (v := x_58) hx hb hr hlocks hS dX3_count_163 (⟨_, rfl, hW⟩)
            · skip
              have e9 : a1 = 11 := by rw [ej_48, h9]; rfl
              subst e9
              refine lv_tableIn (off := 127) (tgt := 169) hx hb dX3_count_42 (by decide) (by decide) (by decide) (by decide) ?_
              refine lv_bipush (v := (-9)) hx hb dX3_count_169 (by decide) ?_
              exact r_i (v := (-9)) hx hb hr hlocks hS dX3_count_171 (⟨_, rfl, hW⟩)
            · skip
              have e9 : a1 = 12 := by rw [ej_48, h9]; rfl
              subst e9
              refine lv_tableIn (off := 127) (tgt := 169) hx hb dX3_count_42 (by decide) (by decide) (by decide) (by decide) ?_
              refine lv_bipush (v := (-9)) hx hb dX3_count_169 (by decide) ?_
              exact r_i (v := (-9)) hx hb hr hlocks hS dX3_count_171 (⟨_, rfl, hW⟩)
            · skip
              have e9 : a1 = 13 := by rw [ej_48, h9]; rfl
              subst e9
              refine lv_tableIn (off := 127) (tgt := 169) hx hb dX3_count_42 (by decide) (by decide) (by decide) (by decide) ?_
              refine lv_bipush (v := (-9)) hx hb dX3_count_169 (by decide) ?_
              exact r_i (v := (-9)) hx hb hr hlocks hS dX3_count_171 (⟨_, rfl, hW⟩)
            · skip
              have e9 : a1 = 14 := by rw [ej_48, h9]; rfl
              subst e9
              refine lv_tableIn (off := 127) (tgt := 169) hx hb dX3_count_42 (by decide) (by decide) (by decide) (by decide) ?_
              refine lv_bipush (v := (-9)) hx hb dX3_count_169 (by decide) ?_
              exact r_i (v := (-9)) hx hb hr hlocks hS dX3_count_171 (⟨_, rfl, hW⟩)
            · skip
              have e9 : a1 = 15 := by rw [ej_48, h9]; rfl
              subst e9
              refine lv_tableIn (off := 127) (tgt := 169) hx hb dX3_count_42 (by decide) (by decide) (by decide) (by decide) ?_
              refine lv_bipush (v := (-9)) hx hb dX3_count_169 (by decide) ?_
              exact r_i (v := (-9)) hx hb hr hlocks hS dX3_count_171 (⟨_, rfl, hW⟩)
            · skip
              have e9 : a1 = 16 := by rw [ej_48, h9]; rfl
              subst e9
              refine lv_tableIn (off := 127) (tgt := 169) hx hb dX3_count_42 (by decide) (by decide) (by decide) (by decide) ?_
              refine lv_bipush (v := (-9)) hx hb dX3_count_169 (by decide) ?_
              exact r_i (v := (-9)) hx hb hr hlocks hS dX3_count_171 (⟨_, rfl, hW⟩)
            · skip
              have e9 : a1 = 17 := by rw [ej_48, h9]; rfl
              subst e9
              refine lv_tableIn (off := 122) (tgt := 164) hx hb dX3_count_42 (by decide) (by decide) (by decide) (by decide) ?_
              refine lv_aload_n hx hb dX3_count_164 rfl (lv_at hl 0 rfl) ?_
              refine c_v (Pw := Cw dC dI z A bs cp h0 la sA cA ns nc dr X P tr nl nq rs) (n := 0) (As := []) (rest := []) S (q_X3_openAskings l dC dI z mi A bs cp h0 la sA cA ns nc dr X P tr nl nq rs) iw_639 iw_636 iw_638 iw_32 iw_57 (by decide +kernel) rfl ⟨rfl, rfl, Nat.le_of_ble_eq_true rfl, Nat.le_of_ble_eq_true rfl⟩ KZ.blind (D_recv hK hW) (hKZ.at hS (fun _ h9 => h9)) hW hl.1 rfl (Nat.le_of_ble_eq_true rfl) dX3_count_165 ⟨Nat.le_refl _, Nat.le_refl _⟩ hS (fun _ h9 => h9) (fun v9 H locs hB hz9 hk9 hS => ?_)
              refine W.widen (k := 0) (n := 0) (Nat.le_refl 0) (Nat.le_refl 0) ?_
              obtain ⟨r_59, rfl, hW⟩ := hB
              refine W.eq (g2 := F0 m 168 ls [.int r_59]) rfl ?_
              exact r_i (v := r_59) hx hb hr hlocks hS dX3_count_168 (⟨_, rfl, hW⟩)
        · skip
          have i_47 : a1.toInt ≤ 16 := by have h9 := pz_ngt c_47; exact h9
          obtain ⟨jc, hjc, ejc⟩ := pz_of (x := a1) (n := 17) (by omega) (by omega)
          subst ejc
          have en_60 : (nI jc).toInt = ((jc : Nat) : Int) := pz_ti (by omega)
          refine lv_aload_n hx hb dX3_count_31 rfl (lv_at hl 0 rfl) ?_
          refine D_getl S hK hW 4 (by decide) (fun _ => rfl) iw_109 rfl dX3_count_32 ?_
          refine lv_iload_n hx hb dX3_count_35 rfl (lv_at hl 1 rfl) ?_
          refine lv_bipush (v := 10) hx hb dX3_count_36 (by decide) ?_
          refine lv_isub hx hb dX3_count_38 ?_
          refine lv_topi (fun x_62 ex_62 => ?_)
          obtain rfl : x_62 = nI (jc - 10) := ex_62.trans (pk_sub (a := jc) (b := 10) (by omega))
          have en_63 : (nI (jc - 10)).toInt = ((jc - 10 : Nat) : Int) := pz_ti (by omega)
          refine R_ld hx hb hK hW (pz_vi (by omega) (by decide)) dX3_count_39 (fun x_64 => ?_)
          exact r_i (v := x_64) hx hb hr hlocks hS dX3_count_40 (⟨_, rfl, hW⟩)
    · skip
      have i_33 : a1.toInt ≤ 7 := by have h9 := pz_ngt c_33; exact h9
      refine lv_aload_n hx hb dX3_count_11 rfl (lv_at hl 0 rfl) ?_
      refine lv_iload_n hx hb dX3_count_12 rfl (lv_at hl 1 rfl) ?_
      refine lv_iconst (v := 3) hx hb dX3_count_13 (by decide) ?_
      refine lv_isub hx hb dX3_count_14 ?_
      refine lv_topi (fun x_65 _ => ?_)
      refine c_v (Pw := Cw dC dI z A bs cp h0 la sA cA ns nc dr X P tr nl nq rs) (n := 1) (As := [.int x_65]) (rest := []) S (q_X3_callsThatAre l dC dI z mi A bs cp h0 la sA cA ns nc dr X P tr nl nq rs x_65) iw_635 iw_632 iw_634 iw_31 iw_57 (by decide +kernel) rfl ⟨rfl, rfl, Nat.le_of_ble_eq_true rfl, Nat.le_of_ble_eq_true rfl⟩ KZ.blind (D_recv hK hW) (hKZ.at hS (fun _ h9 => h9)) hW hl.1 rfl (Nat.le_of_ble_eq_true rfl) dX3_count_15 ⟨Nat.le_refl _, Nat.le_refl _⟩ hS (fun _ h9 => h9) (fun v9 H locs hB hz9 hk9 hS => ?_)
      refine W.widen (k := 0) (n := 0) (Nat.le_refl 0) (Nat.le_refl 0) ?_
      obtain ⟨r_66, rfl, hW⟩ := hB
      refine W.eq (g2 := F0 m 18 ls [.int r_66]) rfl ?_
      exact r_i (v := r_66) hx hb hr hlocks hS dX3_count_18 (⟨_, rfl, hW⟩)
