abbrev B_q_X4_isIn  (A : Nat → Prop) (P : Heap → Prop) (k0 : Int32) (n0 : Int32) : Option Value → Heap → Prop := fun v H => ∃ r : Int32, v = some (.int r) ∧ ((0 ≤ k0.toInt ∧ k0.toInt < n0.toInt ∧ r = 1) ∨ ((k0.toInt < 0 ∨ n0.toInt ≤ k0.toInt) ∧ r = 0)) ∧ P H
set_option maxHeartbeats 8000000 in
set_option maxRecDepth 20000 in
theorem q_X4_isIn (l : Launch) (A : Nat → Prop) (P : Heap → Prop) (k0 : Int32) (n0 : Int32) : Met l yX4_isIn (cws yX4_isIn cX4_isIn 2 (some .boolean)) { frames := 0, cells := 0, slots := 0, locals := 0 } (va_Pc [.int k0, .int n0] (fun U => True ∧ P U.heap)) (Qg (B_q_X4_isIn A P k0 n0) A) 0 0 A := by
  refine m_start (KK := fun _ => True) (Pw := P) (by decide) (Nat.le_of_ble_eq_true rfl) ?_
  intro p e s m below meth c ls S hr hlocks hin hK hW hS hl
  obtain ⟨hx, hb, hml, hown, hts⟩ := id S
  have hl : lv_has ls 2 [(0, .int k0), (1, .int n0)] := hl
  refine lv_iload_n hx hb dX4_isIn_0 rfl (lv_at hl 0 rfl) ?_
  refine lv_if_lt (tgt := 13) hx hb dX4_isIn_1 (by decide) (fun c_1 => ?_) (fun c_1 => ?_)
  · skip
    have i_1 : k0.toInt < 0 := by have h9 := pz_lt c_1; exact h9
    refine lv_iconst (v := 0) hx hb dX4_isIn_13 (by decide) ?_
    exact r_z (v := 0) hx hb hr rfl hlocks hS dX4_isIn_14 (⟨_, rfl, Or.inr ⟨by omega, rfl⟩, hW⟩)
  · skip
    have i_1 : k0.toInt ≥ 0 := by have h9 := pz_nlt c_1; exact h9
    refine lv_iload_n hx hb dX4_isIn_4 rfl (lv_at hl 0 rfl) ?_
    refine lv_iload_n hx hb dX4_isIn_5 rfl (lv_at hl 1 rfl) ?_
    refine lv_icmp_ge (tgt := 13) hx hb dX4_isIn_6 (by decide) (fun c_2 => ?_) (fun c_2 => ?_)
    · skip
      have i_2 : k0.toInt ≥ n0.toInt := by have h9 := pz_ge c_2; exact h9
      refine lv_iconst (v := 0) hx hb dX4_isIn_13 (by decide) ?_
      exact r_z (v := 0) hx hb hr rfl hlocks hS dX4_isIn_14 (⟨_, rfl, Or.inr ⟨by omega, rfl⟩, hW⟩)
    · skip
      have i_2 : k0.toInt < n0.toInt := by have h9 := pz_nge c_2; exact h9
      refine lv_iconst (v := 1) hx hb dX4_isIn_9 (by decide) ?_
      refine lv_goto (tgt := 14) hx hb dX4_isIn_10 (by decide) ?_
      exact r_z (v := 1) hx hb hr rfl hlocks hS dX4_isIn_14 (⟨_, rfl, Or.inl ⟨by omega, by omega, rfl⟩, hW⟩)

abbrev B_q_X4_isServer (dC : Nat → ClassId) (dI : Nat → Nat → Nat) (h0 : Nat) (R : Nat → Nat) (A : Nat → Prop) (V : Nat → Int32) (G : Nat → Nat → Int32) (ns : Nat) (k0 : Int32) : Option Value → Heap → Prop := fun v H => ∃ r : Int32, v = some (.int r) ∧ ((0 ≤ k0.toInt ∧ k0.toInt < ((ns : Nat) : Int) ∧ r = 1) ∨ ((k0.toInt < 0 ∨ ((ns : Nat) : Int) ≤ k0.toInt) ∧ r = 0)) ∧ Mw dC dI h0 R A V G H
set_option maxHeartbeats 8000000 in
set_option maxRecDepth 20000 in
theorem q_X4_isServer (l : Launch) (dC : Nat → ClassId) (dI : Nat → Nat → Nat) (h0 : Nat) (R : Nat → Nat) (A : Nat → Prop) (V : Nat → Int32) (G : Nat → Nat → Int32) (ns : Nat) (k0 : Int32) (hV2 : V 2 = nI ns) (hns : ns ≤ 8) : Met l yX4_isServer (cws yX4_isServer cX4_isServer 2 (some .boolean)) { frames := 1, cells := 0, slots := 0, locals := 21 } (va_Pc [.ref h0, .int k0] (fun U => Kt dC dI U ∧ Mw dC dI h0 R A V G U.heap)) (Qg (B_q_X4_isServer dC dI h0 R A V G ns k0) A) 0 0 A := by
  refine m_start (KK := Kt dC dI) (Pw := Mw dC dI h0 R A V G) (by decide) (Nat.le_of_ble_eq_true rfl) ?_
  intro p e s m below meth c ls S hr hlocks hin hK hW hS hl
  obtain ⟨hx, hb, hml, hown, hts⟩ := id S
  have hl : lv_has ls 2 [(0, .ref h0), (1, .int k0)] := hl
  have en_s : (nI ns).toInt = ((ns : Nat) : Int) := pz_ti (by omega)
  refine lv_iload_n hx hb dX4_isServer_0 rfl (lv_at hl 1 rfl) ?_
  refine lv_aload_n hx hb dX4_isServer_1 rfl (lv_at hl 0 rfl) ?_
  refine M_g2 S hK hW dX4_isServer_2 (fun x_1 hx_1 => ?_)
  obtain rfl : x_1 = nI ns := hx_1.trans hV2
  refine c_s (n := 2) (As := [.int k0, .int (nI ns)]) (rest := []) S (q_X4_isIn l A (Mw dC dI h0 R A V G) k0 (nI ns)) iw_783 iw_781 iw_782 iw_61 (by decide +kernel) rfl ⟨rfl, rfl, Nat.le_of_ble_eq_true rfl, Nat.le_of_ble_eq_true rfl⟩ (fun _ _ _ _ _ => trivial) (fun _ _ _ => trivial) hW hl.1 rfl (Nat.le_of_ble_eq_true rfl) dX4_isServer_5 ⟨Nat.le_refl _, Nat.le_refl _⟩ hS (fun _ h9 => h9) (fun v9 H locs hB hz9 hk9 hS => ?_)
  refine W.widen (k := 0) (n := 0) (Nat.le_refl 0) (Nat.le_refl 0) ?_
  obtain ⟨r_2, rfl, hr_2, hW⟩ := hB
  refine W.eq (g2 := F0 m 8 ls [.int r_2]) rfl ?_
  rcases hr_2 with ⟨ha_2, hb_2, rfl⟩ | ⟨ha_2, rfl⟩
  · skip
    exact r_z (v := 1) hx hb hr rfl hlocks hS dX4_isServer_8 (⟨_, rfl, Or.inl ⟨by omega, by omega, rfl⟩, hW⟩)
  · skip
    exact r_z (v := 0) hx hb hr rfl hlocks hS dX4_isServer_8 (⟨_, rfl, Or.inr ⟨by omega, rfl⟩, hW⟩)

abbrev B_q_X4_isCall (dC : Nat → ClassId) (dI : Nat → Nat → Nat) (h0 : Nat) (R : Nat → Nat) (A : Nat → Prop) (V : Nat → Int32) (G : Nat → Nat → Int32) (nc : Nat) (k0 : Int32) : Option Value → Heap → Prop := fun v H => ∃ r : Int32, v = some (.int r) ∧ ((0 ≤ k0.toInt ∧ k0.toInt < ((nc : Nat) : Int) ∧ r = 1) ∨ ((k0.toInt < 0 ∨ ((nc : Nat) : Int) ≤ k0.toInt) ∧ r = 0)) ∧ Mw dC dI h0 R A V G H
set_option maxHeartbeats 8000000 in
set_option maxRecDepth 20000 in
theorem q_X4_isCall (l : Launch) (dC : Nat → ClassId) (dI : Nat → Nat → Nat) (h0 : Nat) (R : Nat → Nat) (A : Nat → Prop) (V : Nat → Int32) (G : Nat → Nat → Int32) (nc : Nat) (k0 : Int32) (hV3 : V 3 = nI nc) (hnc : nc ≤ 200) : Met l yX4_isCall (cws yX4_isCall cX4_isCall 2 (some .boolean)) { frames := 1, cells := 0, slots := 0, locals := 21 } (va_Pc [.ref h0, .int k0] (fun U => Kt dC dI U ∧ Mw dC dI h0 R A V G U.heap)) (Qg (B_q_X4_isCall dC dI h0 R A V G nc k0) A) 0 0 A := by
  refine m_start (KK := Kt dC dI) (Pw := Mw dC dI h0 R A V G) (by decide) (Nat.le_of_ble_eq_true rfl) ?_
  intro p e s m below meth c ls S hr hlocks hin hK hW hS hl
  obtain ⟨hx, hb, hml, hown, hts⟩ := id S
  have hl : lv_has ls 2 [(0, .ref h0), (1, .int k0)] := hl
  have en_c : (nI nc).toInt = ((nc : Nat) : Int) := pz_ti (by omega)
  refine lv_iload_n hx hb dX4_isCall_0 rfl (lv_at hl 1 rfl) ?_
  refine lv_aload_n hx hb dX4_isCall_1 rfl (lv_at hl 0 rfl) ?_
  refine M_g3 S hK hW dX4_isCall_2 (fun x_1 hx_1 => ?_)
  obtain rfl : x_1 = nI nc := hx_1.trans hV3
  refine c_s (n := 2) (As := [.int k0, .int (nI nc)]) (rest := []) S (q_X4_isIn l A (Mw dC dI h0 R A V G) k0 (nI nc)) iw_783 iw_781 iw_782 iw_61 (by decide +kernel) rfl ⟨rfl, rfl, Nat.le_of_ble_eq_true rfl, Nat.le_of_ble_eq_true rfl⟩ (fun _ _ _ _ _ => trivial) (fun _ _ _ => trivial) hW hl.1 rfl (Nat.le_of_ble_eq_true rfl) dX4_isCall_5 ⟨Nat.le_refl _, Nat.le_refl _⟩ hS (fun _ h9 => h9) (fun v9 H locs hB hz9 hk9 hS => ?_)
  refine W.widen (k := 0) (n := 0) (Nat.le_refl 0) (Nat.le_refl 0) ?_
  obtain ⟨r_2, rfl, hr_2, hW⟩ := hB
  refine W.eq (g2 := F0 m 8 ls [.int r_2]) rfl ?_
  rcases hr_2 with ⟨ha_2, hb_2, rfl⟩ | ⟨ha_2, rfl⟩
  · skip
    exact r_z (v := 1) hx hb hr rfl hlocks hS dX4_isCall_8 (⟨_, rfl, Or.inl ⟨by omega, by omega, rfl⟩, hW⟩)
  · skip
    exact r_z (v := 0) hx hb hr rfl hlocks hS dX4_isCall_8 (⟨_, rfl, Or.inr ⟨by omega, rfl⟩, hW⟩)

abbrev B_q_X4_refuse (dC : Nat → ClassId) (dI : Nat → Nat → Nat) (h0 : Nat) (R : Nat → Nat) (A : Nat → Prop) (V : Nat → Int32) (G : Nat → Nat → Int32) (cd : Int32) : Option Value → Heap → Prop := fun v H => ∃ r : Int32, v = some (.int r) ∧ r = cd ∧ Mw dC dI h0 R A V G H
set_option maxHeartbeats 8000000 in
set_option maxRecDepth 20000 in
theorem q_X4_refuse (l : Launch) (dC : Nat → ClassId) (dI : Nat → Nat → Nat) (h0 : Nat) (R : Nat → Nat) (A : Nat → Prop) (V : Nat → Int32) (G : Nat → Nat → Int32) (cd : Int32) (hcd : vp_in (-cd) 7) : Met l yX4_refuse (cws yX4_refuse cX4_refuse 2 (some .int)) { frames := 0, cells := 0, slots := 0, locals := 0 } (va_Pc [.ref h0, .int cd] (fun U => Kt dC dI U ∧ Mw dC dI h0 R A V G U.heap)) (Qg (B_q_X4_refuse dC dI h0 R A V G cd) A) 0 0 A := by
  refine m_start (KK := Kt dC dI) (Pw := Mw dC dI h0 R A V G) (by decide) (Nat.le_of_ble_eq_true rfl) ?_
  intro p e s m below meth c ls S hr hlocks hin hK hW hS hl
  obtain ⟨hx, hb, hml, hown, hts⟩ := id S
  have hl : lv_has ls 2 [(0, .ref h0), (1, .int cd)] := hl
  refine lv_aload_n hx hb dX4_refuse_0 rfl (lv_at hl 0 rfl) ?_
  refine M_g0 S hK hW dX4_refuse_1 ?_
  refine lv_iload_n hx hb dX4_refuse_4 rfl (lv_at hl 1 rfl) ?_
  refine lv_ineg hx hb dX4_refuse_5 ?_
  refine lv_dup2_11 hx hb dX4_refuse_6 rfl rfl ?_
  refine mw_ld S hK hW 0 rfl rfl hcd dX4_refuse_7 (fun x_1 hx_1 => ?_)
  refine lv_iconst (v := 1) hx hb dX4_refuse_8 (by decide) ?_
  refine lv_iadd hx hb dX4_refuse_9 ?_
  refine lv_topi (fun x_2 _ => ?_)
  refine mw_su S hK hW hS 0 rfl rfl rfl hcd dX4_refuse_10 (fun H locs hW hS => ?_)
  refine lv_iload_n hx hb dX4_refuse_11 rfl (lv_at hl 1 rfl) ?_
  exact r_i (v := cd) hx hb hr hlocks hS dX4_refuse_12 (⟨_, rfl, rfl, hW⟩)

abbrev B_q_X4_rule (dC : Nat → ClassId) (dI : Nat → Nat → Nat) (h0 : Nat) (R : Nat → Nat) (A : Nat → Prop) (V : Nat → Int32) (G : Nat → Nat → Int32) (a1 : Int32) : Option Value → Heap → Prop := fun v H => ∃ (r : Int32) (V1 : Nat → Int32), v = some (.int r) ∧ ((badR a1 = some r ∧ ∀ j, V1 j = V j) ∨ (badR a1 = none ∧ r = V 4 ∧ V1 4 = a1 ∧ ∀ j, j ≠ 4 → V1 j = V j)) ∧ Mw dC dI h0 R A V1 G H
set_option maxHeartbeats 8000000 in
set_option maxRecDepth 20000 in
theorem q_X4_rule (l : Launch) (dC : Nat → ClassId) (dI : Nat → Nat → Nat) (h0 : Nat) (R : Nat → Nat) (A : Nat → Prop) (V : Nat → Int32) (G : Nat → Nat → Int32) (a1 : Int32) : Met l yX4_rule (cws yX4_rule cX4_rule 3 (some .int)) { frames := 1, cells := 0, slots := 0, locals := 21 } (va_Pc [.ref h0, .int a1] (fun U => Kt dC dI U ∧ Mw dC dI h0 R A V G U.heap)) (Qg (B_q_X4_rule dC dI h0 R A V G a1) A) 0 0 A := by
  refine m_start (KK := Kt dC dI) (Pw := Mw dC dI h0 R A V G) (by decide) (Nat.le_of_ble_eq_true rfl) ?_
  intro p e s m below meth c ls S hr hlocks hin hK hW hS hl
  obtain ⟨hx, hb, hml, hown, hts⟩ := id S
  have hl : lv_has ls 3 [(0, .ref h0), (1, .int a1)] := hl
  refine lv_iload_n hx hb dX4_rule_0 rfl (lv_at hl 1 rfl) ?_
  refine lv_iconst (v := 4) hx hb dX4_rule_1 (by decide) ?_
  refine c_s (n := 2) (As := [.int a1, .int 4]) (rest := []) S (q_X4_isIn l A (Mw dC dI h0 R A V G) a1 4) iw_783 iw_781 iw_782 iw_61 (by decide +kernel) rfl ⟨rfl, rfl, Nat.le_of_ble_eq_true rfl, Nat.le_of_ble_eq_true rfl⟩ (fun _ _ _ _ _ => trivial) (fun _ _ _ => trivial) hW hl.1 rfl (Nat.le_of_ble_eq_true rfl) dX4_rule_2 ⟨Nat.le_refl _, Nat.le_refl _⟩ hS (fun _ h9 => h9) (fun v9 H locs hB hz9 hk9 hS => ?_)
  refine W.widen (k := 0) (n := 0) (Nat.le_refl 0) (Nat.le_refl 0) ?_
  obtain ⟨r_1, rfl, hr_1, hW⟩ := hB
  refine W.eq (g2 := F0 m 5 ls [.int r_1]) rfl ?_
  rcases hr_1 with ⟨ha_1, hb_1, rfl⟩ | ⟨ha_1, rfl⟩
  · skip
    have hb_1 : a1.toInt < 4 := by have h9 := hb_1; exact h9
    refine lv_if_ne (tgt := 14) hx hb dX4_rule_5 (by decide) (fun c_2 => ?_) (fun c_2 => absurd c_2 (by decide))
    refine lv_aload_n hx hb dX4_rule_14 rfl (lv_at hl 0 rfl) ?_
    refine M_g4 S hK hW dX4_rule_15 (fun x_3 hx_3 => ?_)
    refine lv_istore_n (lv' := [(2, .int x_3), (0, .ref h0), (1, .int a1)]) hx hb dX4_rule_18 rfl hl (by decide) rfl (fun ls hl => ?_)
    refine lv_aload_n hx hb dX4_rule_19 rfl (lv_at hl 1 rfl) ?_
    refine lv_iload_n hx hb dX4_rule_20 rfl (lv_at hl 2 rfl) ?_
    refine M_p4 S hK hW hS dX4_rule_21 (fun H locs V_4 v1_4 v2_4 hW hS => ?_)
    refine lv_iload_n hx hb dX4_rule_24 rfl (lv_at hl 0 rfl) ?_
    exact r_i (v := x_3) hx hb hr hlocks hS dX4_rule_25 (⟨_, _, rfl, Or.inr ⟨by unfold badR; (repeat' split) <;> first | rfl | (exfalso; omega), hx_3, v1_4, v2_4⟩, hW⟩)
  · skip
    have ha_1 : a1.toInt < 0 ∨ 4 ≤ a1.toInt := by have h9 := ha_1; exact h9
    refine lv_if_ne (tgt := 14) hx hb dX4_rule_5 (by decide) (fun c_5 => absurd c_5 (by decide)) (fun c_5 => ?_)
    refine lv_aload_n hx hb dX4_rule_8 rfl (lv_at hl 0 rfl) ?_
    refine lv_iconst (v := (-1)) hx hb dX4_rule_9 (by decide) ?_
    refine c_v (n := 1) (As := [.int (-1)]) (rest := []) S (q_X4_refuse l dC dI h0 R A V G (-1) (by unfold vp_in; decide)) iw_787 iw_784 iw_786 iw_33 iw_61 (by decide +kernel) rfl ⟨rfl, rfl, Nat.le_of_ble_eq_true rfl, Nat.le_of_ble_eq_true rfl⟩ Kt.blind (M_recv hK hW) hK.at hW hl.1 rfl (Nat.le_of_ble_eq_true rfl) dX4_rule_10 ⟨Nat.le_refl _, Nat.le_refl _⟩ hS (fun _ h9 => h9) (fun v9 H locs hB hz9 hk9 hS => ?_)
    refine W.widen (k := 0) (n := 0) (Nat.le_refl 0) (Nat.le_refl 0) ?_
    obtain ⟨_, rfl, rfl, hW⟩ := hB
    refine W.eq (g2 := F0 m 13 ls [.int (-1)]) rfl ?_
    exact r_i (v := (-1)) hx hb hr hlocks hS dX4_rule_13 (⟨_, V, rfl, Or.inl ⟨by unfold badR; (repeat' split) <;> first | rfl | (exfalso; omega), fun _ => rfl⟩, hW⟩)

abbrev B_q_X4_limit (dC : Nat → ClassId) (dI : Nat → Nat → Nat) (h0 : Nat) (R : Nat → Nat) (A : Nat → Prop) (V : Nat → Int32) (G : Nat → Nat → Int32) (a1 : Int32) : Option Value → Heap → Prop := fun v H => ∃ (r : Int32) (V1 : Nat → Int32), v = some (.int r) ∧ ((badN a1 1 10 = some r ∧ ∀ j, V1 j = V j) ∨ (badN a1 1 10 = none ∧ r = V 5 ∧ V1 5 = a1 ∧ ∀ j, j ≠ 5 → V1 j = V j)) ∧ Mw dC dI h0 R A V1 G H
set_option maxHeartbeats 8000000 in
set_option maxRecDepth 20000 in
theorem q_X4_limit (l : Launch) (dC : Nat → ClassId) (dI : Nat → Nat → Nat) (h0 : Nat) (R : Nat → Nat) (A : Nat → Prop) (V : Nat → Int32) (G : Nat → Nat → Int32) (a1 : Int32) : Met l yX4_limit (cws yX4_limit cX4_limit 3 (some .int)) { frames := 1, cells := 0, slots := 0, locals := 21 } (va_Pc [.ref h0, .int a1] (fun U => Kt dC dI U ∧ Mw dC dI h0 R A V G U.heap)) (Qg (B_q_X4_limit dC dI h0 R A V G a1) A) 0 0 A := by
  refine m_start (KK := Kt dC dI) (Pw := Mw dC dI h0 R A V G) (by decide) (Nat.le_of_ble_eq_true rfl) ?_
  intro p e s m below meth c ls S hr hlocks hin hK hW hS hl
  obtain ⟨hx, hb, hml, hown, hts⟩ := id S
  have hl : lv_has ls 3 [(0, .ref h0), (1, .int a1)] := hl
  refine lv_iload_n hx hb dX4_limit_0 rfl (lv_at hl 1 rfl) ?_
  refine lv_iconst (v := 1) hx hb dX4_limit_1 (by decide) ?_
  refine lv_icmp_ge (tgt := 12) hx hb dX4_limit_2 (by decide) (fun c_1 => ?_) (fun c_1 => ?_)
  · skip
    have i_1 : a1.toInt ≥ 1 := by have h9 := pz_ge c_1; exact h9
    refine lv_iload_n hx hb dX4_limit_12 rfl (lv_at hl 1 rfl) ?_
    refine lv_bipush (v := 10) hx hb dX4_limit_13 (by decide) ?_
    refine lv_icmp_le (tgt := 25) hx hb dX4_limit_15 (by decide) (fun c_2 => ?_) (fun c_2 => ?_)
    · skip
      have i_2 : a1.toInt ≤ 10 := by have h9 := pz_le c_2; exact h9
      refine lv_aload_n hx hb dX4_limit_25 rfl (lv_at hl 0 rfl) ?_
      refine M_g5 S hK hW dX4_limit_26 (fun x_3 hx_3 => ?_)
      refine lv_istore_n (lv' := [(2, .int x_3), (0, .ref h0), (1, .int a1)]) hx hb dX4_limit_29 rfl hl (by decide) rfl (fun ls hl => ?_)
      refine lv_aload_n hx hb dX4_limit_30 rfl (lv_at hl 1 rfl) ?_
      refine lv_iload_n hx hb dX4_limit_31 rfl (lv_at hl 2 rfl) ?_
      refine M_p5 S hK hW hS dX4_limit_32 (fun H locs V_4 v1_4 v2_4 hW hS => ?_)
      refine lv_iload_n hx hb dX4_limit_35 rfl (lv_at hl 0 rfl) ?_
      exact r_i (v := x_3) hx hb hr hlocks hS dX4_limit_36 (⟨_, _, rfl, Or.inr ⟨by unfold badN; (repeat' split) <;> first | rfl | (exfalso; omega), hx_3, v1_4, v2_4⟩, hW⟩)
    · skip
      have i_2 : a1.toInt > 10 := by have h9 := pz_nle c_2; exact h9
      refine lv_aload_n hx hb dX4_limit_18 rfl (lv_at hl 0 rfl) ?_
      refine lv_bipush (v := (-6)) hx hb dX4_limit_19 (by decide) ?_
      refine c_v (n := 1) (As := [.int (-6)]) (rest := []) S (q_X4_refuse l dC dI h0 R A V G (-6) (by unfold vp_in; decide)) iw_787 iw_784 iw_786 iw_33 iw_61 (by decide +kernel) rfl ⟨rfl, rfl, Nat.le_of_ble_eq_true rfl, Nat.le_of_ble_eq_true rfl⟩ Kt.blind (M_recv hK hW) hK.at hW hl.1 rfl (Nat.le_of_ble_eq_true rfl) dX4_limit_21 ⟨Nat.le_refl _, Nat.le_refl _⟩ hS (fun _ h9 => h9) (fun v9 H locs hB hz9 hk9 hS => ?_)
      refine W.widen (k := 0) (n := 0) (Nat.le_refl 0) (Nat.le_refl 0) ?_
      obtain ⟨_, rfl, rfl, hW⟩ := hB
      refine W.eq (g2 := F0 m 24 ls [.int (-6)]) rfl ?_
      exact r_i (v := (-6)) hx hb hr hlocks hS dX4_limit_24 (⟨_, V, rfl, Or.inl ⟨by unfold badN; (repeat' split) <;> first | rfl | (exfalso; omega), fun _ => rfl⟩, hW⟩)
  · skip
    have i_1 : a1.toInt < 1 := by have h9 := pz_nge c_1; exact h9
    refine lv_aload_n hx hb dX4_limit_5 rfl (lv_at hl 0 rfl) ?_
    refine lv_bipush (v := (-4)) hx hb dX4_limit_6 (by decide) ?_
    refine c_v (n := 1) (As := [.int (-4)]) (rest := []) S (q_X4_refuse l dC dI h0 R A V G (-4) (by unfold vp_in; decide)) iw_787 iw_784 iw_786 iw_33 iw_61 (by decide +kernel) rfl ⟨rfl, rfl, Nat.le_of_ble_eq_true rfl, Nat.le_of_ble_eq_true rfl⟩ Kt.blind (M_recv hK hW) hK.at hW hl.1 rfl (Nat.le_of_ble_eq_true rfl) dX4_limit_8 ⟨Nat.le_refl _, Nat.le_refl _⟩ hS (fun _ h9 => h9) (fun v9 H locs hB hz9 hk9 hS => ?_)
    refine W.widen (k := 0) (n := 0) (Nat.le_refl 0) (Nat.le_refl 0) ?_
    obtain ⟨_, rfl, rfl, hW⟩ := hB
    refine W.eq (g2 := F0 m 11 ls [.int (-4)]) rfl ?_
    exact r_i (v := (-4)) hx hb hr hlocks hS dX4_limit_11 (⟨_, V, rfl, Or.inl ⟨by unfold badN; (repeat' split) <;> first | rfl | (exfalso; omega), fun _ => rfl⟩, hW⟩)

abbrev B_q_X4_budget (dC : Nat → ClassId) (dI : Nat → Nat → Nat) (h0 : Nat) (R : Nat → Nat) (A : Nat → Prop) (V : Nat → Int32) (G : Nat → Nat → Int32) (a1 : Int32) : Option Value → Heap → Prop := fun v H => ∃ (r : Int32) (V1 : Nat → Int32), v = some (.int r) ∧ ((badN a1 0 100 = some r ∧ ∀ j, V1 j = V j) ∨ (badN a1 0 100 = none ∧ r = V 6 ∧ V1 6 = a1 ∧ ∀ j, j ≠ 6 → V1 j = V j)) ∧ Mw dC dI h0 R A V1 G H
set_option maxHeartbeats 8000000 in
set_option maxRecDepth 20000 in
theorem q_X4_budget (l : Launch) (dC : Nat → ClassId) (dI : Nat → Nat → Nat) (h0 : Nat) (R : Nat → Nat) (A : Nat → Prop) (V : Nat → Int32) (G : Nat → Nat → Int32) (a1 : Int32) : Met l yX4_budget (cws yX4_budget cX4_budget 3 (some .int)) { frames := 1, cells := 0, slots := 0, locals := 21 } (va_Pc [.ref h0, .int a1] (fun U => Kt dC dI U ∧ Mw dC dI h0 R A V G U.heap)) (Qg (B_q_X4_budget dC dI h0 R A V G a1) A) 0 0 A := by
  refine m_start (KK := Kt dC dI) (Pw := Mw dC dI h0 R A V G) (by decide) (Nat.le_of_ble_eq_true rfl) ?_
  intro p e s m below meth c ls S hr hlocks hin hK hW hS hl
  obtain ⟨hx, hb, hml, hown, hts⟩ := id S
  have hl : lv_has ls 3 [(0, .ref h0), (1, .int a1)] := hl
  refine lv_iload_n hx hb dX4_budget_0 rfl (lv_at hl 1 rfl) ?_
  refine lv_if_ge (tgt := 11) hx hb dX4_budget_1 (by decide) (fun c_1 => ?_) (fun c_1 => ?_)
  · skip
    have i_1 : a1.toInt ≥ 0 := by have h9 := pz_ge c_1; exact h9
    refine lv_iload_n hx hb dX4_budget_11 rfl (lv_at hl 1 rfl) ?_
    refine lv_bipush (v := 100) hx hb dX4_budget_12 (by decide) ?_
    refine lv_icmp_le (tgt := 24) hx hb dX4_budget_14 (by decide) (fun c_2 => ?_) (fun c_2 => ?_)
    · skip
      have i_2 : a1.toInt ≤ 100 := by have h9 := pz_le c_2; exact h9
      refine lv_aload_n hx hb dX4_budget_24 rfl (lv_at hl 0 rfl) ?_
      refine M_g6 S hK hW dX4_budget_25 (fun x_3 hx_3 => ?_)
      refine lv_istore_n (lv' := [(2, .int x_3), (0, .ref h0), (1, .int a1)]) hx hb dX4_budget_28 rfl hl (by decide) rfl (fun ls hl => ?_)
      refine lv_aload_n hx hb dX4_budget_29 rfl (lv_at hl 1 rfl) ?_
      refine lv_iload_n hx hb dX4_budget_30 rfl (lv_at hl 2 rfl) ?_
      refine M_p6 S hK hW hS dX4_budget_31 (fun H locs V_4 v1_4 v2_4 hW hS => ?_)
      refine lv_iload_n hx hb dX4_budget_34 rfl (lv_at hl 0 rfl) ?_
      exact r_i (v := x_3) hx hb hr hlocks hS dX4_budget_35 (⟨_, _, rfl, Or.inr ⟨by unfold badN; (repeat' split) <;> first | rfl | (exfalso; omega), hx_3, v1_4, v2_4⟩, hW⟩)
    · skip
      have i_2 : a1.toInt > 100 := by have h9 := pz_nle c_2; exact h9
      refine lv_aload_n hx hb dX4_budget_17 rfl (lv_at hl 0 rfl) ?_
      refine lv_bipush (v := (-6)) hx hb dX4_budget_18 (by decide) ?_
      refine c_v (n := 1) (As := [.int (-6)]) (rest := []) S (q_X4_refuse l dC dI h0 R A V G (-6) (by unfold vp_in; decide)) iw_787 iw_784 iw_786 iw_33 iw_61 (by decide +kernel) rfl ⟨rfl, rfl, Nat.le_of_ble_eq_true rfl, Nat.le_of_ble_eq_true rfl⟩ Kt.blind (M_recv hK hW) hK.at hW hl.1 rfl (Nat.le_of_ble_eq_true rfl) dX4_budget_20 ⟨Nat.le_refl _, Nat.le_refl _⟩ hS (fun _ h9 => h9) (fun v9 H locs hB hz9 hk9 hS => ?_)
      refine W.widen (k := 0) (n := 0) (Nat.le_refl 0) (Nat.le_refl 0) ?_
      obtain ⟨_, rfl, rfl, hW⟩ := hB
      refine W.eq (g2 := F0 m 23 ls [.int (-6)]) rfl ?_
      exact r_i (v := (-6)) hx hb hr hlocks hS dX4_budget_23 (⟨_, V, rfl, Or.inl ⟨by unfold badN; (repeat' split) <;> first | rfl | (exfalso; omega), fun _ => rfl⟩, hW⟩)
  · skip
    have i_1 : a1.toInt < 0 := by have h9 := pz_nge c_1; exact h9
    refine lv_aload_n hx hb dX4_budget_4 rfl (lv_at hl 0 rfl) ?_
    refine lv_bipush (v := (-4)) hx hb dX4_budget_5 (by decide) ?_
    refine c_v (n := 1) (As := [.int (-4)]) (rest := []) S (q_X4_refuse l dC dI h0 R A V G (-4) (by unfold vp_in; decide)) iw_787 iw_784 iw_786 iw_33 iw_61 (by decide +kernel) rfl ⟨rfl, rfl, Nat.le_of_ble_eq_true rfl, Nat.le_of_ble_eq_true rfl⟩ Kt.blind (M_recv hK hW) hK.at hW hl.1 rfl (Nat.le_of_ble_eq_true rfl) dX4_budget_7 ⟨Nat.le_refl _, Nat.le_refl _⟩ hS (fun _ h9 => h9) (fun v9 H locs hB hz9 hk9 hS => ?_)
    refine W.widen (k := 0) (n := 0) (Nat.le_refl 0) (Nat.le_refl 0) ?_
    obtain ⟨_, rfl, rfl, hW⟩ := hB
    refine W.eq (g2 := F0 m 10 ls [.int (-4)]) rfl ?_
    exact r_i (v := (-4)) hx hb hr hlocks hS dX4_budget_10 (⟨_, V, rfl, Or.inl ⟨by unfold badN; (repeat' split) <;> first | rfl | (exfalso; omega), fun _ => rfl⟩, hW⟩)

abbrev B_q_X4_hedge (dC : Nat → ClassId) (dI : Nat → Nat → Nat) (h0 : Nat) (R : Nat → Nat) (A : Nat → Prop) (V : Nat → Int32) (G : Nat → Nat → Int32) (a1 : Int32) : Option Value → Heap → Prop := fun v H => ∃ (r : Int32) (V1 : Nat → Int32), v = some (.int r) ∧ ((badN a1 0 500 = some r ∧ ∀ j, V1 j = V j) ∨ (badN a1 0 500 = none ∧ r = V 7 ∧ V1 7 = a1 ∧ ∀ j, j ≠ 7 → V1 j = V j)) ∧ Mw dC dI h0 R A V1 G H
set_option maxHeartbeats 8000000 in
set_option maxRecDepth 20000 in
theorem q_X4_hedge (l : Launch) (dC : Nat → ClassId) (dI : Nat → Nat → Nat) (h0 : Nat) (R : Nat → Nat) (A : Nat → Prop) (V : Nat → Int32) (G : Nat → Nat → Int32) (a1 : Int32) : Met l yX4_hedge (cws yX4_hedge cX4_hedge 3 (some .int)) { frames := 1, cells := 0, slots := 0, locals := 21 } (va_Pc [.ref h0, .int a1] (fun U => Kt dC dI U ∧ Mw dC dI h0 R A V G U.heap)) (Qg (B_q_X4_hedge dC dI h0 R A V G a1) A) 0 0 A := by
  refine m_start (KK := Kt dC dI) (Pw := Mw dC dI h0 R A V G) (by decide) (Nat.le_of_ble_eq_true rfl) ?_
  intro p e s m below meth c ls S hr hlocks hin hK hW hS hl
  obtain ⟨hx, hb, hml, hown, hts⟩ := id S
  have hl : lv_has ls 3 [(0, .ref h0), (1, .int a1)] := hl
  refine lv_iload_n hx hb dX4_hedge_0 rfl (lv_at hl 1 rfl) ?_
  refine lv_if_ge (tgt := 11) hx hb dX4_hedge_1 (by decide) (fun c_1 => ?_) (fun c_1 => ?_)
  · skip
    have i_1 : a1.toInt ≥ 0 := by have h9 := pz_ge c_1; exact h9
    refine lv_iload_n hx hb dX4_hedge_11 rfl (lv_at hl 1 rfl) ?_
    refine lv_sipush (v := 500) hx hb dX4_hedge_12 (by decide) ?_
    refine lv_icmp_le (tgt := 25) hx hb dX4_hedge_15 (by decide) (fun c_2 => ?_) (fun c_2 => ?_)
    · skip
      have i_2 : a1.toInt ≤ 500 := by have h9 := pz_le c_2; exact h9
      refine lv_aload_n hx hb dX4_hedge_25 rfl (lv_at hl 0 rfl) ?_
      refine M_g7 S hK hW dX4_hedge_26 (fun x_3 hx_3 => ?_)
      refine lv_istore_n (lv' := [(2, .int x_3), (0, .ref h0), (1, .int a1)]) hx hb dX4_hedge_29 rfl hl (by decide) rfl (fun ls hl => ?_)
      refine lv_aload_n hx hb dX4_hedge_30 rfl (lv_at hl 1 rfl) ?_
      refine lv_iload_n hx hb dX4_hedge_31 rfl (lv_at hl 2 rfl) ?_
      refine M_p7 S hK hW hS dX4_hedge_32 (fun H locs V_4 v1_4 v2_4 hW hS => ?_)
      refine lv_iload_n hx hb dX4_hedge_35 rfl (lv_at hl 0 rfl) ?_
      exact r_i (v := x_3) hx hb hr hlocks hS dX4_hedge_36 (⟨_, _, rfl, Or.inr ⟨by unfold badN; (repeat' split) <;> first | rfl | (exfalso; omega), hx_3, v1_4, v2_4⟩, hW⟩)
    · skip
      have i_2 : a1.toInt > 500 := by have h9 := pz_nle c_2; exact h9
      refine lv_aload_n hx hb dX4_hedge_18 rfl (lv_at hl 0 rfl) ?_
      refine lv_bipush (v := (-6)) hx hb dX4_hedge_19 (by decide) ?_
      refine c_v (n := 1) (As := [.int (-6)]) (rest := []) S (q_X4_refuse l dC dI h0 R A V G (-6) (by unfold vp_in; decide)) iw_787 iw_784 iw_786 iw_33 iw_61 (by decide +kernel) rfl ⟨rfl, rfl, Nat.le_of_ble_eq_true rfl, Nat.le_of_ble_eq_true rfl⟩ Kt.blind (M_recv hK hW) hK.at hW hl.1 rfl (Nat.le_of_ble_eq_true rfl) dX4_hedge_21 ⟨Nat.le_refl _, Nat.le_refl _⟩ hS (fun _ h9 => h9) (fun v9 H locs hB hz9 hk9 hS => ?_)
      refine W.widen (k := 0) (n := 0) (Nat.le_refl 0) (Nat.le_refl 0) ?_
      obtain ⟨_, rfl, rfl, hW⟩ := hB
      refine W.eq (g2 := F0 m 24 ls [.int (-6)]) rfl ?_
      exact r_i (v := (-6)) hx hb hr hlocks hS dX4_hedge_24 (⟨_, V, rfl, Or.inl ⟨by unfold badN; (repeat' split) <;> first | rfl | (exfalso; omega), fun _ => rfl⟩, hW⟩)
  · skip
    have i_1 : a1.toInt < 0 := by have h9 := pz_nge c_1; exact h9
    refine lv_aload_n hx hb dX4_hedge_4 rfl (lv_at hl 0 rfl) ?_
    refine lv_bipush (v := (-4)) hx hb dX4_hedge_5 (by decide) ?_
    refine c_v (n := 1) (As := [.int (-4)]) (rest := []) S (q_X4_refuse l dC dI h0 R A V G (-4) (by unfold vp_in; decide)) iw_787 iw_784 iw_786 iw_33 iw_61 (by decide +kernel) rfl ⟨rfl, rfl, Nat.le_of_ble_eq_true rfl, Nat.le_of_ble_eq_true rfl⟩ Kt.blind (M_recv hK hW) hK.at hW hl.1 rfl (Nat.le_of_ble_eq_true rfl) dX4_hedge_7 ⟨Nat.le_refl _, Nat.le_refl _⟩ hS (fun _ h9 => h9) (fun v9 H locs hB hz9 hk9 hS => ?_)
    refine W.widen (k := 0) (n := 0) (Nat.le_refl 0) (Nat.le_refl 0) ?_
    obtain ⟨_, rfl, rfl, hW⟩ := hB
    refine W.eq (g2 := F0 m 10 ls [.int (-4)]) rfl ?_
    exact r_i (v := (-4)) hx hb hr hlocks hS dX4_hedge_10 (⟨_, V, rfl, Or.inl ⟨by unfold badN; (repeat' split) <;> first | rfl | (exfalso; omega), fun _ => rfl⟩, hW⟩)

abbrev B_q_X4_server (dC : Nat → ClassId) (dI : Nat → Nat → Nat) (h0 : Nat) (R : Nat → Nat) (A : Nat → Prop) (V : Nat → Int32) (G : Nat → Nat → Int32) (ns : Nat) (a1 : Int32) (a2 : Int32) (a3 : Int32) (a4 : Int32) (a5 : Int32) : Option Value → Heap → Prop := fun v H => ∃ (r : Int32) (V1 : Nat → Int32), v = some (.int r) ∧ ((badS ns a1 a2 a3 a4 a5 = some r ∧ ∀ j, V1 j = V j) ∨ (badS ns a1 a2 a3 a4 a5 = none ∧ r = nI ns ∧ V1 2 = nI (ns + 1) ∧ ∀ j, j ≠ 2 → V1 j = V j)) ∧ Mw dC dI h0 R A V1 G H
set_option maxHeartbeats 8000000 in
set_option maxRecDepth 20000 in
theorem q_X4_server (l : Launch) (dC : Nat → ClassId) (dI : Nat → Nat → Nat) (h0 : Nat) (R : Nat → Nat) (A : Nat → Prop) (V : Nat → Int32) (G : Nat → Nat → Int32) (ns : Nat) (a1 : Int32) (a2 : Int32) (a3 : Int32) (a4 : Int32) (a5 : Int32) (hV2 : V 2 = nI ns) (hns : ns ≤ 8) : Met l yX4_server (cws yX4_server cX4_server 7 (some .int)) { frames := 1, cells := 0, slots := 0, locals := 21 } (va_Pc [.ref h0, .int a1, .int a2, .int a3, .int a4, .int a5] (fun U => Kt dC dI U ∧ Mw dC dI h0 R A V G U.heap)) (Qg (B_q_X4_server dC dI h0 R A V G ns a1 a2 a3 a4 a5) A) 0 0 A := by
  refine m_start (KK := Kt dC dI) (Pw := Mw dC dI h0 R A V G) (by decide) (Nat.le_of_ble_eq_true rfl) ?_
  intro p e s m below meth c ls S hr hlocks hin hK hW hS hl
  obtain ⟨hx, hb, hml, hown, hts⟩ := id S
  have hl : lv_has ls 7 [(0, .ref h0), (1, .int a1), (2, .int a2), (3, .int a3), (4, .int a4), (5, .int a5)] := hl
  have en_s : (nI ns).toInt = ((ns : Nat) : Int) := pz_ti (by omega)
  refine lv_iload_n hx hb dX4_server_0 rfl (lv_at hl 2 rfl) ?_
  refine lv_iconst (v := 4) hx hb dX4_server_1 (by decide) ?_
  refine c_s (n := 2) (As := [.int a2, .int 4]) (rest := []) S (q_X4_isIn l A (Mw dC dI h0 R A V G) a2 4) iw_783 iw_781 iw_782 iw_61 (by decide +kernel) rfl ⟨rfl, rfl, Nat.le_of_ble_eq_true rfl, Nat.le_of_ble_eq_true rfl⟩ (fun _ _ _ _ _ => trivial) (fun _ _ _ => trivial) hW hl.1 rfl (Nat.le_of_ble_eq_true rfl) dX4_server_2 ⟨Nat.le_refl _, Nat.le_refl _⟩ hS (fun _ h9 => h9) (fun v9 H locs hB hz9 hk9 hS => ?_)
  refine W.widen (k := 0) (n := 0) (Nat.le_refl 0) (Nat.le_refl 0) ?_
  obtain ⟨r_1, rfl, hr_1, hW⟩ := hB
  refine W.eq (g2 := F0 m 5 ls [.int r_1]) rfl ?_
  rcases hr_1 with ⟨ha_1, hb_1, rfl⟩ | ⟨ha_1, rfl⟩
  · skip
    have hb_1 : a2.toInt < 4 := by have h9 := hb_1; exact h9
    refine lv_if_ne (tgt := 14) hx hb dX4_server_5 (by decide) (fun c_2 => ?_) (fun c_2 => absurd c_2 (by decide))
    refine lv_iload_n hx hb dX4_server_14 rfl (lv_at hl 1 rfl) ?_
    refine lv_iconst (v := 1) hx hb dX4_server_15 (by decide) ?_
    refine lv_icmp_lt (tgt := 35) hx hb dX4_server_16 (by decide) (fun c_3 => ?_) (fun c_3 => ?_)
    · skip
      have i_3 : a1.toInt < 1 := by have h9 := pz_lt c_3; exact h9
      refine lv_aload_n hx hb dX4_server_35 rfl (lv_at hl 0 rfl) ?_
      refine lv_bipush (v := (-4)) hx hb dX4_server_36 (by decide) ?_
      refine c_v (n := 1) (As := [.int (-4)]) (rest := []) S (q_X4_refuse l dC dI h0 R A V G (-4) (by unfold vp_in; decide)) iw_787 iw_784 iw_786 iw_33 iw_61 (by decide +kernel) rfl ⟨rfl, rfl, Nat.le_of_ble_eq_true rfl, Nat.le_of_ble_eq_true rfl⟩ Kt.blind (M_recv hK hW) hK.at hW hl.1 rfl (Nat.le_of_ble_eq_true rfl) dX4_server_38 ⟨Nat.le_refl _, Nat.le_refl _⟩ hS (fun _ h9 => h9) (fun v9 H locs hB hz9 hk9 hS => ?_)
      refine W.widen (k := 0) (n := 0) (Nat.le_refl 0) (Nat.le_refl 0) ?_
      obtain ⟨_, rfl, rfl, hW⟩ := hB
      refine W.eq (g2 := F0 m 41 ls [.int (-4)]) rfl ?_
      exact r_i (v := (-4)) hx hb hr hlocks hS dX4_server_41 (⟨_, V, rfl, Or.inl ⟨by unfold badS; (repeat' split) <;> first | rfl | (exfalso; omega), fun _ => rfl⟩, hW⟩)
    · skip
      have i_3 : a1.toInt ≥ 1 := by have h9 := pz_nlt c_3; exact h9
      refine lv_iload_n hx hb dX4_server_19 rfl (lv_at hl 3 rfl) ?_
      refine lv_iconst (v := 1) hx hb dX4_server_20 (by decide) ?_
      refine lv_icmp_lt (tgt := 35) hx hb dX4_server_21 (by decide) (fun c_5 => ?_) (fun c_5 => ?_)
      · skip
        have i_5 : a3.toInt < 1 := by have h9 := pz_lt c_5; exact h9
        refine lv_aload_n hx hb dX4_server_35 rfl (lv_at hl 0 rfl) ?_
        refine lv_bipush (v := (-4)) hx hb dX4_server_36 (by decide) ?_
        refine c_v (n := 1) (As := [.int (-4)]) (rest := []) S (q_X4_refuse l dC dI h0 R A V G (-4) (by unfold vp_in; decide)) iw_787 iw_784 iw_786 iw_33 iw_61 (by decide +kernel) rfl ⟨rfl, rfl, Nat.le_of_ble_eq_true rfl, Nat.le_of_ble_eq_true rfl⟩ Kt.blind (M_recv hK hW) hK.at hW hl.1 rfl (Nat.le_of_ble_eq_true rfl) dX4_server_38 ⟨Nat.le_refl _, Nat.le_refl _⟩ hS (fun _ h9 => h9) (fun v9 H locs hB hz9 hk9 hS => ?_)
        refine W.widen (k := 0) (n := 0) (Nat.le_refl 0) (Nat.le_refl 0) ?_
        obtain ⟨_, rfl, rfl, hW⟩ := hB
        refine W.eq (g2 := F0 m 41 ls [.int (-4)]) rfl ?_
        exact r_i (v := (-4)) hx hb hr hlocks hS dX4_server_41 (⟨_, V, rfl, Or.inl ⟨by unfold badS; (repeat' split) <;> first | rfl | (exfalso; omega), fun _ => rfl⟩, hW⟩)
      · skip
        have i_5 : a3.toInt ≥ 1 := by have h9 := pz_nlt c_5; exact h9
        refine lv_iload hx hb dX4_server_24 (lv_at hl 4 rfl) ?_
        refine lv_iconst (v := 1) hx hb dX4_server_26 (by decide) ?_
        refine lv_icmp_lt (tgt := 35) hx hb dX4_server_27 (by decide) (fun c_7 => ?_) (fun c_7 => ?_)
        · skip
          have i_7 : a4.toInt < 1 := by have h9 := pz_lt c_7; exact h9
          refine lv_aload_n hx hb dX4_server_35 rfl (lv_at hl 0 rfl) ?_
          refine lv_bipush (v := (-4)) hx hb dX4_server_36 (by decide) ?_
          refine c_v (n := 1) (As := [.int (-4)]) (rest := []) S (q_X4_refuse l dC dI h0 R A V G (-4) (by unfold vp_in; decide)) iw_787 iw_784 iw_786 iw_33 iw_61 (by decide +kernel) rfl ⟨rfl, rfl, Nat.le_of_ble_eq_true rfl, Nat.le_of_ble_eq_true rfl⟩ Kt.blind (M_recv hK hW) hK.at hW hl.1 rfl (Nat.le_of_ble_eq_true rfl) dX4_server_38 ⟨Nat.le_refl _, Nat.le_refl _⟩ hS (fun _ h9 => h9) (fun v9 H locs hB hz9 hk9 hS => ?_)
          refine W.widen (k := 0) (n := 0) (Nat.le_refl 0) (Nat.le_refl 0) ?_
          obtain ⟨_, rfl, rfl, hW⟩ := hB
          refine W.eq (g2 := F0 m 41 ls [.int (-4)]) rfl ?_
          exact r_i (v := (-4)) hx hb hr hlocks hS dX4_server_41 (⟨_, V, rfl, Or.inl ⟨by unfold badS; (repeat' split) <;> first | rfl | (exfalso; omega), fun _ => rfl⟩, hW⟩)
        · skip
          have i_7 : a4.toInt ≥ 1 := by have h9 := pz_nlt c_7; exact h9
          refine lv_iload hx hb dX4_server_30 (lv_at hl 5 rfl) ?_
          refine lv_if_ge (tgt := 42) hx hb dX4_server_32 (by decide) (fun c_9 => ?_) (fun c_9 => ?_)
          · skip
            have i_9 : a5.toInt ≥ 0 := by have h9 := pz_ge c_9; exact h9
            refine lv_iload_n hx hb dX4_server_42 rfl (lv_at hl 1 rfl) ?_
            refine lv_bipush (v := 100) hx hb dX4_server_43 (by decide) ?_
            refine lv_icmp_gt (tgt := 78) hx hb dX4_server_45 (by decide) (fun c_10 => ?_) (fun c_10 => ?_)
            · skip
              have i_10 : a1.toInt > 100 := by have h9 := pz_gt c_10; exact h9
              refine lv_aload_n hx hb dX4_server_78 rfl (lv_at hl 0 rfl) ?_
              refine lv_bipush (v := (-6)) hx hb dX4_server_79 (by decide) ?_
              refine c_v (n := 1) (As := [.int (-6)]) (rest := []) S (q_X4_refuse l dC dI h0 R A V G (-6) (by unfold vp_in; decide)) iw_787 iw_784 iw_786 iw_33 iw_61 (by decide +kernel) rfl ⟨rfl, rfl, Nat.le_of_ble_eq_true rfl, Nat.le_of_ble_eq_true rfl⟩ Kt.blind (M_recv hK hW) hK.at hW hl.1 rfl (Nat.le_of_ble_eq_true rfl) dX4_server_81 ⟨Nat.le_refl _, Nat.le_refl _⟩ hS (fun _ h9 => h9) (fun v9 H locs hB hz9 hk9 hS => ?_)
              refine W.widen (k := 0) (n := 0) (Nat.le_refl 0) (Nat.le_refl 0) ?_
              obtain ⟨_, rfl, rfl, hW⟩ := hB
              refine W.eq (g2 := F0 m 84 ls [.int (-6)]) rfl ?_
              exact r_i (v := (-6)) hx hb hr hlocks hS dX4_server_84 (⟨_, V, rfl, Or.inl ⟨by unfold badS; (repeat' split) <;> first | rfl | (exfalso; omega), fun _ => rfl⟩, hW⟩)
            · skip
              have i_10 : a1.toInt ≤ 100 := by have h9 := pz_ngt c_10; exact h9
              refine lv_iload_n hx hb dX4_server_48 rfl (lv_at hl 3 rfl) ?_
              refine lv_bipush (v := 20) hx hb dX4_server_49 (by decide) ?_
              refine lv_icmp_gt (tgt := 78) hx hb dX4_server_51 (by decide) (fun c_12 => ?_) (fun c_12 => ?_)
              · skip
                have i_12 : a3.toInt > 20 := by have h9 := pz_gt c_12; exact h9
                refine lv_aload_n hx hb dX4_server_78 rfl (lv_at hl 0 rfl) ?_
                refine lv_bipush (v := (-6)) hx hb dX4_server_79 (by decide) ?_
                refine c_v (n := 1) (As := [.int (-6)]) (rest := []) S (q_X4_refuse l dC dI h0 R A V G (-6) (by unfold vp_in; decide)) iw_787 iw_784 iw_786 iw_33 iw_61 (by decide +kernel) rfl ⟨rfl, rfl, Nat.le_of_ble_eq_true rfl, Nat.le_of_ble_eq_true rfl⟩ Kt.blind (M_recv hK hW) hK.at hW hl.1 rfl (Nat.le_of_ble_eq_true rfl) dX4_server_81 ⟨Nat.le_refl _, Nat.le_refl _⟩ hS (fun _ h9 => h9) (fun v9 H locs hB hz9 hk9 hS => ?_)
                refine W.widen (k := 0) (n := 0) (Nat.le_refl 0) (Nat.le_refl 0) ?_
                obtain ⟨_, rfl, rfl, hW⟩ := hB
                refine W.eq (g2 := F0 m 84 ls [.int (-6)]) rfl ?_
                exact r_i (v := (-6)) hx hb hr hlocks hS dX4_server_84 (⟨_, V, rfl, Or.inl ⟨by unfold badS; (repeat' split) <;> first | rfl | (exfalso; omega), fun _ => rfl⟩, hW⟩)
              · skip
                have i_12 : a3.toInt ≤ 20 := by have h9 := pz_ngt c_12; exact h9
                refine lv_iload hx hb dX4_server_54 (lv_at hl 4 rfl) ?_
                refine lv_sipush (v := 200) hx hb dX4_server_56 (by decide) ?_
                refine lv_icmp_gt (tgt := 78) hx hb dX4_server_59 (by decide) (fun c_14 => ?_) (fun c_14 => ?_)
                · skip
                  have i_14 : a4.toInt > 200 := by have h9 := pz_gt c_14; exact h9
                  refine lv_aload_n hx hb dX4_server_78 rfl (lv_at hl 0 rfl) ?_
                  refine lv_bipush (v := (-6)) hx hb dX4_server_79 (by decide) ?_
                  refine c_v (n := 1) (As := [.int (-6)]) (rest := []) S (q_X4_refuse l dC dI h0 R A V G (-6) (by unfold vp_in; decide)) iw_787 iw_784 iw_786 iw_33 iw_61 (by decide +kernel) rfl ⟨rfl, rfl, Nat.le_of_ble_eq_true rfl, Nat.le_of_ble_eq_true rfl⟩ Kt.blind (M_recv hK hW) hK.at hW hl.1 rfl (Nat.le_of_ble_eq_true rfl) dX4_server_81 ⟨Nat.le_refl _, Nat.le_refl _⟩ hS (fun _ h9 => h9) (fun v9 H locs hB hz9 hk9 hS => ?_)
                  refine W.widen (k := 0) (n := 0) (Nat.le_refl 0) (Nat.le_refl 0) ?_
                  obtain ⟨_, rfl, rfl, hW⟩ := hB
                  refine W.eq (g2 := F0 m 84 ls [.int (-6)]) rfl ?_
                  exact r_i (v := (-6)) hx hb hr hlocks hS dX4_server_84 (⟨_, V, rfl, Or.inl ⟨by unfold badS; (repeat' split) <;> first | rfl | (exfalso; omega), fun _ => rfl⟩, hW⟩)
                · skip
                  have i_14 : a4.toInt ≤ 200 := by have h9 := pz_ngt c_14; exact h9
                  refine lv_iload hx hb dX4_server_62 (lv_at hl 5 rfl) ?_
                  refine lv_bipush (v := 20) hx hb dX4_server_64 (by decide) ?_
                  refine lv_icmp_gt (tgt := 78) hx hb dX4_server_66 (by decide) (fun c_16 => ?_) (fun c_16 => ?_)
                  · skip
                    have i_16 : a5.toInt > 20 := by have h9 := pz_gt c_16; exact h9
                    refine lv_aload_n hx hb dX4_server_78 rfl (lv_at hl 0 rfl) ?_
                    refine lv_bipush (v := (-6)) hx hb dX4_server_79 (by decide) ?_
                    refine c_v (n := 1) (As := [.int (-6)]) (rest := []) S (q_X4_refuse l dC dI h0 R A V G (-6) (by unfold vp_in; decide)) iw_787 iw_784 iw_786 iw_33 iw_61 (by decide +kernel) rfl ⟨rfl, rfl, Nat.le_of_ble_eq_true rfl, Nat.le_of_ble_eq_true rfl⟩ Kt.blind (M_recv hK hW) hK.at hW hl.1 rfl (Nat.le_of_ble_eq_true rfl) dX4_server_81 ⟨Nat.le_refl _, Nat.le_refl _⟩ hS (fun _ h9 => h9) (fun v9 H locs hB hz9 hk9 hS => ?_)
                    refine W.widen (k := 0) (n := 0) (Nat.le_refl 0) (Nat.le_refl 0) ?_
                    obtain ⟨_, rfl, rfl, hW⟩ := hB
                    refine W.eq (g2 := F0 m 84 ls [.int (-6)]) rfl ?_
                    exact r_i (v := (-6)) hx hb hr hlocks hS dX4_server_84 (⟨_, V, rfl, Or.inl ⟨by unfold badS; (repeat' split) <;> first | rfl | (exfalso; omega), fun _ => rfl⟩, hW⟩)
                  · skip
                    have i_16 : a5.toInt ≤ 20 := by have h9 := pz_ngt c_16; exact h9
                    refine lv_aload_n hx hb dX4_server_69 rfl (lv_at hl 0 rfl) ?_
                    refine M_g2 S hK hW dX4_server_70 (fun x_18 hx_18 => ?_)
                    obtain rfl : x_18 = nI ns := hx_18.trans hV2
                    refine lv_bipush (v := 8) hx hb dX4_server_73 (by decide) ?_
                    refine lv_icmp_ne (tgt := 85) hx hb dX4_server_75 (by decide) (fun c_19 => ?_) (fun c_19 => ?_)
                    · skip
                      have i_19 : ¬ (nI ns).toInt = 8 := by have h9 := pz_neq c_19; exact h9
                      refine lv_aload_n hx hb dX4_server_85 rfl (lv_at hl 0 rfl) ?_
                      refine M_g2 S hK hW dX4_server_86 (fun x_20 hx_20 => ?_)
                      obtain rfl : x_20 = nI ns := hx_20.trans hV2
                      refine lv_istore (lv' := [(6, .int (nI ns)), (0, .ref h0), (1, .int a1), (2, .int a2), (3, .int a3), (4, .int a4), (5, .int a5)]) hx hb dX4_server_89 hl (by decide) rfl (fun ls hl => ?_)
                      refine lv_aload_n hx hb dX4_server_91 rfl (lv_at hl 1 rfl) ?_
                      refine lv_dup hx hb dX4_server_92 rfl ?_
                      refine M_g2 S hK hW dX4_server_93 (fun x_21 hx_21 => ?_)
                      obtain rfl : x_21 = nI ns := hx_21.trans hV2
                      refine lv_iconst (v := 1) hx hb dX4_server_96 (by decide) ?_
                      refine lv_iadd hx hb dX4_server_97 ?_
                      refine lv_topi (fun x_22 ex_22 => ?_)
                      obtain rfl : x_22 = nI (ns + 1) := ex_22.trans (nI_add ns 1)
                      have en_23 : (nI (ns + 1)).toInt = ((ns + 1 : Nat) : Int) := pz_ti (by omega)
                      refine M_p2 S hK hW hS dX4_server_98 (fun H locs V_24 v1_24 v2_24 hW hS => ?_)
                      have hV2 : V_24 2 = nI (ns + 1) := v1_24
                      refine lv_aload_n hx hb dX4_server_101 rfl (lv_at hl 1 rfl) ?_
                      refine M_g11 S hK hW dX4_server_102 ?_
                      refine lv_iload hx hb dX4_server_105 (lv_at hl 0 rfl) ?_
                      refine lv_iload_n hx hb dX4_server_107 rfl (lv_at hl 2 rfl) ?_
                      refine mw_su S hK hW hS 11 rfl rfl rfl (pz_vi (n := mN 11) (by rw [show mN 11 = 8 from rfl]; omega) (by decide)) dX4_server_108 (fun H locs hW hS => ?_)
                      refine lv_aload_n hx hb dX4_server_109 rfl (lv_at hl 1 rfl) ?_
                      refine M_g12 S hK hW dX4_server_110 ?_
                      refine lv_iload hx hb dX4_server_113 (lv_at hl 0 rfl) ?_
                      refine lv_iload_n hx hb dX4_server_115 rfl (lv_at hl 3 rfl) ?_
                      refine mw_su S hK hW hS 12 rfl rfl rfl (pz_vi (n := mN 12) (by rw [show mN 12 = 8 from rfl]; omega) (by decide)) dX4_server_116 (fun H locs hW hS => ?_)
                      refine lv_aload_n hx hb dX4_server_117 rfl (lv_at hl 1 rfl) ?_
                      refine M_g13 S hK hW dX4_server_118 ?_
                      refine lv_iload hx hb dX4_server_121 (lv_at hl 0 rfl) ?_
                      refine lv_iload_n hx hb dX4_server_123 rfl (lv_at hl 4 rfl) ?_
                      refine mw_su S hK hW hS 13 rfl rfl rfl (pz_vi (n := mN 13) (by rw [show mN 13 = 8 from rfl]; omega) (by decide)) dX4_server_124 (fun H locs hW hS => ?_)
                      refine lv_aload_n hx hb dX4_server_125 rfl (lv_at hl 1 rfl) ?_
                      refine M_g14 S hK hW dX4_server_126 ?_
                      refine lv_iload hx hb dX4_server_129 (lv_at hl 0 rfl) ?_
                      refine lv_iload hx hb dX4_server_131 (lv_at hl 5 rfl) ?_
                      refine mw_su S hK hW hS 14 rfl rfl rfl (pz_vi (n := mN 14) (by rw [show mN 14 = 8 from rfl]; omega) (by decide)) dX4_server_133 (fun H locs hW hS => ?_)
                      refine lv_aload_n hx hb dX4_server_134 rfl (lv_at hl 1 rfl) ?_
                      refine M_g15 S hK hW dX4_server_135 ?_
                      refine lv_iload hx hb dX4_server_138 (lv_at hl 0 rfl) ?_
                      refine lv_iload hx hb dX4_server_140 (lv_at hl 6 rfl) ?_
                      refine mw_su S hK hW hS 15 rfl rfl rfl (pz_vi (n := mN 15) (by rw [show mN 15 = 8 from rfl]; omega) (by decide)) dX4_server_142 (fun H locs hW hS => ?_)
                      refine lv_aload_n hx hb dX4_server_143 rfl (lv_at hl 1 rfl) ?_
                      refine M_g24 S hK hW dX4_server_144 ?_
                      refine lv_iload hx hb dX4_server_147 (lv_at hl 0 rfl) ?_
                      refine lv_bipush (v := 10) hx hb dX4_server_149 (by decide) ?_
                      refine mw_su S hK hW hS 24 rfl rfl rfl (pz_vi (n := mN 24) (by rw [show mN 24 = 8 from rfl]; omega) (by decide)) dX4_server_151 (fun H locs hW hS => ?_)
                      refine lv_iload hx hb dX4_server_152 (lv_at hl 0 rfl) ?_
                      exact r_i (v := (nI ns)) hx hb hr hlocks hS dX4_server_154 (⟨_, _, rfl, Or.inr ⟨by unfold badS; (repeat' split) <;> first | rfl | (exfalso; omega), rfl, v1_24, v2_24⟩, hW⟩)
                    · skip
                      have i_19 : (nI ns).toInt = 8 := by have h9 := pz_eq c_19; exact h9
                      refine lv_aload_n hx hb dX4_server_78 rfl (lv_at hl 0 rfl) ?_
                      refine lv_bipush (v := (-6)) hx hb dX4_server_79 (by decide) ?_
                      refine c_v (n := 1) (As := [.int (-6)]) (rest := []) S (q_X4_refuse l dC dI h0 R A V G (-6) (by unfold vp_in; decide)) iw_787 iw_784 iw_786 iw_33 iw_61 (by decide +kernel) rfl ⟨rfl, rfl, Nat.le_of_ble_eq_true rfl, Nat.le_of_ble_eq_true rfl⟩ Kt.blind (M_recv hK hW) hK.at hW hl.1 rfl (Nat.le_of_ble_eq_true rfl) dX4_server_81 ⟨Nat.le_refl _, Nat.le_refl _⟩ hS (fun _ h9 => h9) (fun v9 H locs hB hz9 hk9 hS => ?_)
                      refine W.widen (k := 0) (n := 0) (Nat.le_refl 0) (Nat.le_refl 0) ?_
                      obtain ⟨_, rfl, rfl, hW⟩ := hB
                      refine W.eq (g2 := F0 m 84 ls [.int (-6)]) rfl ?_
                      exact r_i (v := (-6)) hx hb hr hlocks hS dX4_server_84 (⟨_, V, rfl, Or.inl ⟨by unfold badS; (repeat' split) <;> first | rfl | (exfalso; omega), fun _ => rfl⟩, hW⟩)
          · skip
            have i_9 : a5.toInt < 0 := by have h9 := pz_nge c_9; exact h9
            refine lv_aload_n hx hb dX4_server_35 rfl (lv_at hl 0 rfl) ?_
            refine lv_bipush (v := (-4)) hx hb dX4_server_36 (by decide) ?_
            refine c_v (n := 1) (As := [.int (-4)]) (rest := []) S (q_X4_refuse l dC dI h0 R A V G (-4) (by unfold vp_in; decide)) iw_787 iw_784 iw_786 iw_33 iw_61 (by decide +kernel) rfl ⟨rfl, rfl, Nat.le_of_ble_eq_true rfl, Nat.le_of_ble_eq_true rfl⟩ Kt.blind (M_recv hK hW) hK.at hW hl.1 rfl (Nat.le_of_ble_eq_true rfl) dX4_server_38 ⟨Nat.le_refl _, Nat.le_refl _⟩ hS (fun _ h9 => h9) (fun v9 H locs hB hz9 hk9 hS => ?_)
            refine W.widen (k := 0) (n := 0) (Nat.le_refl 0) (Nat.le_refl 0) ?_
            obtain ⟨_, rfl, rfl, hW⟩ := hB
            refine W.eq (g2 := F0 m 41 ls [.int (-4)]) rfl ?_
            exact r_i (v := (-4)) hx hb hr hlocks hS dX4_server_41 (⟨_, V, rfl, Or.inl ⟨by unfold badS; (repeat' split) <;> first | rfl | (exfalso; omega), fun _ => rfl⟩, hW⟩)
  · skip
    have ha_1 : a2.toInt < 0 ∨ 4 ≤ a2.toInt := by have h9 := ha_1; exact h9
    refine lv_if_ne (tgt := 14) hx hb dX4_server_5 (by decide) (fun c_27 => absurd c_27 (by decide)) (fun c_27 => ?_)
    refine lv_aload_n hx hb dX4_server_8 rfl (lv_at hl 0 rfl) ?_
    refine lv_iconst (v := (-1)) hx hb dX4_server_9 (by decide) ?_
    refine c_v (n := 1) (As := [.int (-1)]) (rest := []) S (q_X4_refuse l dC dI h0 R A V G (-1) (by unfold vp_in; decide)) iw_787 iw_784 iw_786 iw_33 iw_61 (by decide +kernel) rfl ⟨rfl, rfl, Nat.le_of_ble_eq_true rfl, Nat.le_of_ble_eq_true rfl⟩ Kt.blind (M_recv hK hW) hK.at hW hl.1 rfl (Nat.le_of_ble_eq_true rfl) dX4_server_10 ⟨Nat.le_refl _, Nat.le_refl _⟩ hS (fun _ h9 => h9) (fun v9 H locs hB hz9 hk9 hS => ?_)
    refine W.widen (k := 0) (n := 0) (Nat.le_refl 0) (Nat.le_refl 0) ?_
    obtain ⟨_, rfl, rfl, hW⟩ := hB
    refine W.eq (g2 := F0 m 13 ls [.int (-1)]) rfl ?_
    exact r_i (v := (-1)) hx hb hr hlocks hS dX4_server_13 (⟨_, V, rfl, Or.inl ⟨by unfold badS; (repeat' split) <;> first | rfl | (exfalso; omega), fun _ => rfl⟩, hW⟩)

abbrev B_q_X4_serverOf (dC : Nat → ClassId) (dI : Nat → Nat → Nat) (h0 : Nat) (R : Nat → Nat) (A : Nat → Prop) (V : Nat → Int32) (G : Nat → Nat → Int32) (ns : Nat) (a1 : Int32) (a2 : Int32) : Option Value → Heap → Prop := fun v H => ∃ r : Int32, v = some (.int r) ∧ Mw dC dI h0 R A V G H
set_option maxHeartbeats 8000000 in
set_option maxRecDepth 20000 in
theorem q_X4_serverOf (l : Launch) (dC : Nat → ClassId) (dI : Nat → Nat → Nat) (h0 : Nat) (R : Nat → Nat) (A : Nat → Prop) (V : Nat → Int32) (G : Nat → Nat → Int32) (ns : Nat) (a1 : Int32) (a2 : Int32) (hV2 : V 2 = nI ns) (hns : ns ≤ 8) : Met l yX4_serverOf (cws yX4_serverOf cX4_serverOf 3 (some .int)) { frames := 2, cells := 0, slots := 0, locals := 42 } (va_Pc [.ref h0, .int a1, .int a2] (fun U => Kt dC dI U ∧ Mw dC dI h0 R A V G U.heap)) (Qg (B_q_X4_serverOf dC dI h0 R A V G ns a1 a2) A) 0 0 A := by
  refine m_start (KK := Kt dC dI) (Pw := Mw dC dI h0 R A V G) (by decide) (Nat.le_of_ble_eq_true rfl) ?_
  intro p e s m below meth c ls S hr hlocks hin hK hW hS hl
  obtain ⟨hx, hb, hml, hown, hts⟩ := id S
  have hl : lv_has ls 3 [(0, .ref h0), (1, .int a1), (2, .int a2)] := hl
  have en_s : (nI ns).toInt = ((ns : Nat) : Int) := pz_ti (by omega)
  refine lv_aload_n hx hb dX4_serverOf_0 rfl (lv_at hl 0 rfl) ?_
  refine lv_iload_n hx hb dX4_serverOf_1 rfl (lv_at hl 1 rfl) ?_
  refine c_v (n := 1) (As := [.int a1]) (rest := []) S (q_X4_isServer l dC dI h0 R A V G ns a1 hV2 (by omega)) iw_795 iw_792 iw_794 iw_34 iw_61 (by decide +kernel) rfl ⟨rfl, rfl, Nat.le_of_ble_eq_true rfl, Nat.le_of_ble_eq_true rfl⟩ Kt.blind (M_recv hK hW) hK.at hW hl.1 rfl (Nat.le_of_ble_eq_true rfl) dX4_serverOf_2 ⟨Nat.le_refl _, Nat.le_refl _⟩ hS (fun _ h9 => h9) (fun v9 H locs hB hz9 hk9 hS => ?_)
  refine W.widen (k := 0) (n := 0) (Nat.le_refl 0) (Nat.le_refl 0) ?_
  obtain ⟨r_1, rfl, hr_1, hW⟩ := hB
  refine W.eq (g2 := F0 m 5 ls [.int r_1]) rfl ?_
  rcases hr_1 with ⟨ha_1, hb_1, rfl⟩ | ⟨ha_1, rfl⟩
  · skip
    obtain ⟨j_1, hj_1, ej_1⟩ := pz_of ha_1 hb_1
    subst ej_1
    have en_2 : (nI j_1).toInt = ((j_1 : Nat) : Int) := pz_ti (by omega)
    refine lv_if_ne (tgt := 14) hx hb dX4_serverOf_5 (by decide) (fun c_3 => ?_) (fun c_3 => absurd c_3 (by decide))
    refine lv_iload_n hx hb dX4_serverOf_14 rfl (lv_at hl 2 rfl) ?_
    by_cases t_4 : a2.toInt < 0 ∨ 15 < a2.toInt
    · skip
      refine lv_tableOut (tgt := 222) hx hb dX4_serverOf_15 t_4 (by decide) ?_
      refine lv_aload_n hx hb dX4_serverOf_222 rfl (lv_at hl 0 rfl) ?_
      refine lv_bipush (v := (-2)) hx hb dX4_serverOf_223 (by decide) ?_
      refine c_v (n := 1) (As := [.int (-2)]) (rest := []) S (q_X4_refuse l dC dI h0 R A V G (-2) (by unfold vp_in; decide)) iw_787 iw_784 iw_786 iw_33 iw_61 (by decide +kernel) rfl ⟨rfl, rfl, Nat.le_of_ble_eq_true rfl, Nat.le_of_ble_eq_true rfl⟩ Kt.blind (M_recv hK hW) hK.at hW hl.1 rfl (Nat.le_of_ble_eq_true rfl) dX4_serverOf_225 ⟨Nat.le_refl _, Nat.le_refl _⟩ hS (fun _ h9 => h9) (fun v9 H locs hB hz9 hk9 hS => ?_)
      refine W.widen (k := 0) (n := 0) (Nat.le_refl 0) (Nat.le_refl 0) ?_
      obtain ⟨_, rfl, rfl, hW⟩ := hB
      refine W.eq (g2 := F0 m 228 ls [.int (-2)]) rfl ?_
      exact r_i (v := (-2)) hx hb hr hlocks hS dX4_serverOf_228 (⟨_, rfl, hW⟩)
    · skip
      obtain ⟨j_4, hj_4, ej_4⟩ := pz_of (x := a2) (n := 16) (by omega) (by omega)
      have oj_4 : j_4 = 0 ∨ j_4 = 1 ∨ j_4 = 2 ∨ j_4 = 3 ∨ j_4 = 4 ∨ j_4 = 5 ∨ j_4 = 6 ∨ j_4 = 7 ∨ j_4 = 8 ∨ j_4 = 9 ∨ j_4 = 10 ∨ j_4 = 11 ∨ j_4 = 12 ∨ j_4 = 13 ∨ j_4 = 14 ∨ j_4 = 15 := by omega
      rcases oj_4 with h9 | h9 | h9 | h9 | h9 | h9 | h9 | h9 | h9 | h9 | h9 | h9 | h9 | h9 | h9 | h9
      · skip
        have e9 : a2 = 0 := by rw [ej_4, h9]; rfl
        subst e9
        refine lv_tableIn (off := 77) (tgt := 92) hx hb dX4_serverOf_15 (by decide) (by decide) (by decide) (by decide) ?_
        refine lv_aload_n hx hb dX4_serverOf_92 rfl (lv_at hl 0 rfl) ?_
        refine M_g17 S hK hW dX4_serverOf_93 ?_
        refine lv_iload_n hx hb dX4_serverOf_96 rfl (lv_at hl 1 rfl) ?_
        refine mw_ld S hK hW 17 rfl rfl (pz_vi (n := mN 17) (by rw [show mN 17 = 8 from rfl]; omega) (by decide)) dX4_serverOf_97 (fun x_6 hx_6 => ?_)
        replace hx_6 : x_6 = G 17 j_1 := (hx_6 rfl).trans (congrArg _ (pz_cl (by omega)))
        exact r_i (v := x_6) hx hb hr hlocks hS dX4_serverOf_98 (⟨_, rfl, hW⟩)
      · skip
        have e9 : a2 = 1 := by rw [ej_4, h9]; rfl
        subst e9
        refine lv_tableIn (off := 84) (tgt := 99) hx hb dX4_serverOf_15 (by decide) (by decide) (by decide) (by decide) ?_
        refine lv_aload_n hx hb dX4_serverOf_99 rfl (lv_at hl 0 rfl) ?_
        refine M_g18 S hK hW dX4_serverOf_100 ?_
        refine lv_iload_n hx hb dX4_serverOf_103 rfl (lv_at hl 1 rfl) ?_
        refine mw_ld S hK hW 18 rfl rfl (pz_vi (n := mN 18) (by rw [show mN 18 = 8 from rfl]; omega) (by decide)) dX4_serverOf_104 (fun x_7 hx_7 => ?_)
        exact r_i (v := x_7) hx hb hr hlocks hS dX4_serverOf_105 (⟨_, rfl, hW⟩)
      · skip
        have e9 : a2 = 2 := by rw [ej_4, h9]; rfl
        subst e9
        refine lv_tableIn (off := 91) (tgt := 106) hx hb dX4_serverOf_15 (by decide) (by decide) (by decide) (by decide) ?_
        refine lv_aload_n hx hb dX4_serverOf_106 rfl (lv_at hl 0 rfl) ?_
        refine M_g19 S hK hW dX4_serverOf_107 ?_
        refine lv_iload_n hx hb dX4_serverOf_110 rfl (lv_at hl 1 rfl) ?_
        refine mw_ld S hK hW 19 rfl rfl (pz_vi (n := mN 19) (by rw [show mN 19 = 8 from rfl]; omega) (by decide)) dX4_serverOf_111 (fun x_8 hx_8 => ?_)
        exact r_i (v := x_8) hx hb hr hlocks hS dX4_serverOf_112 (⟨_, rfl, hW⟩)
      · skip
        have e9 : a2 = 3 := by rw [ej_4, h9]; rfl
        subst e9
        refine lv_tableIn (off := 98) (tgt := 113) hx hb dX4_serverOf_15 (by decide) (by decide) (by decide) (by decide) ?_
        refine lv_aload_n hx hb dX4_serverOf_113 rfl (lv_at hl 0 rfl) ?_
        refine M_g20 S hK hW dX4_serverOf_114 ?_
        refine lv_iload_n hx hb dX4_serverOf_117 rfl (lv_at hl 1 rfl) ?_
        refine mw_ld S hK hW 20 rfl rfl (pz_vi (n := mN 20) (by rw [show mN 20 = 8 from rfl]; omega) (by decide)) dX4_serverOf_118 (fun x_9 hx_9 => ?_)
        exact r_i (v := x_9) hx hb hr hlocks hS dX4_serverOf_119 (⟨_, rfl, hW⟩)
      · skip
        have e9 : a2 = 4 := by rw [ej_4, h9]; rfl
        subst e9
        refine lv_tableIn (off := 105) (tgt := 120) hx hb dX4_serverOf_15 (by decide) (by decide) (by decide) (by decide) ?_
        refine lv_aload_n hx hb dX4_serverOf_120 rfl (lv_at hl 0 rfl) ?_
        refine M_g21 S hK hW dX4_serverOf_121 ?_
        refine lv_iload_n hx hb dX4_serverOf_124 rfl (lv_at hl 1 rfl) ?_
        refine mw_ld S hK hW 21 rfl rfl (pz_vi (n := mN 21) (by rw [show mN 21 = 8 from rfl]; omega) (by decide)) dX4_serverOf_125 (fun x_10 hx_10 => ?_)
        exact r_i (v := x_10) hx hb hr hlocks hS dX4_serverOf_126 (⟨_, rfl, hW⟩)
      · skip
        have e9 : a2 = 5 := by rw [ej_4, h9]; rfl
        subst e9
        refine lv_tableIn (off := 112) (tgt := 127) hx hb dX4_serverOf_15 (by decide) (by decide) (by decide) (by decide) ?_
        refine lv_aload_n hx hb dX4_serverOf_127 rfl (lv_at hl 0 rfl) ?_
        refine M_g22 S hK hW dX4_serverOf_128 ?_
        refine lv_iload_n hx hb dX4_serverOf_131 rfl (lv_at hl 1 rfl) ?_
        refine mw_ld S hK hW 22 rfl rfl (pz_vi (n := mN 22) (by rw [show mN 22 = 8 from rfl]; omega) (by decide)) dX4_serverOf_132 (fun x_11 hx_11 => ?_)
        exact r_i (v := x_11) hx hb hr hlocks hS dX4_serverOf_133 (⟨_, rfl, hW⟩)
      · skip
        have e9 : a2 = 6 := by rw [ej_4, h9]; rfl
        subst e9
        refine lv_tableIn (off := 119) (tgt := 134) hx hb dX4_serverOf_15 (by decide) (by decide) (by decide) (by decide) ?_
        refine lv_aload_n hx hb dX4_serverOf_134 rfl (lv_at hl 0 rfl) ?_
        refine M_g17 S hK hW dX4_serverOf_135 ?_
        refine lv_iload_n hx hb dX4_serverOf_138 rfl (lv_at hl 1 rfl) ?_
        refine mw_ld S hK hW 17 rfl rfl (pz_vi (n := mN 17) (by rw [show mN 17 = 8 from rfl]; omega) (by decide)) dX4_serverOf_139 (fun x_12 hx_12 => ?_)
        replace hx_12 : x_12 = G 17 j_1 := (hx_12 rfl).trans (congrArg _ (pz_cl (by omega)))
        refine lv_iconst (v := 1) hx hb dX4_serverOf_140 (by decide) ?_
        refine lv_icmp_ne (tgt := 153) hx hb dX4_serverOf_141 (by decide) (fun c_13 => ?_) (fun c_13 => ?_)
        · skip
          have i_13 : ¬ x_12.toInt = 1 := by have h9 := pz_neq c_13; exact h9
          refine lv_bipush (v := (-9)) hx hb dX4_serverOf_153 (by decide) ?_
          exact r_i (v := (-9)) hx hb hr hlocks hS dX4_serverOf_155 (⟨_, rfl, hW⟩)
        · skip
          have i_13 : x_12.toInt = 1 := by have h9 := pz_eq c_13; exact h9
          refine lv_aload_n hx hb dX4_serverOf_144 rfl (lv_at hl 0 rfl) ?_
          refine M_g23 S hK hW dX4_serverOf_145 ?_
          refine lv_iload_n hx hb dX4_serverOf_148 rfl (lv_at hl 1 rfl) ?_
          refine mw_ld S hK hW 23 rfl rfl (pz_vi (n := mN 23) (by rw [show mN 23 = 8 from rfl]; omega) (by decide)) dX4_serverOf_149 (fun x_14 hx_14 => ?_)
          refine lv_goto (tgt := 155) hx hb dX4_serverOf_150 (by decide) ?_
          exact r_i (v := x_14) hx hb hr hlocks hS dX4_serverOf_155 (⟨_, rfl, hW⟩)
      · skip
        have e9 : a2 = 7 := by rw [ej_4, h9]; rfl
        subst e9
        refine lv_tableIn (off := 141) (tgt := 156) hx hb dX4_serverOf_15 (by decide) (by decide) (by decide) (by decide) ?_
        refine lv_aload_n hx hb dX4_serverOf_156 rfl (lv_at hl 0 rfl) ?_
        refine M_g24 S hK hW dX4_serverOf_157 ?_
        refine lv_iload_n hx hb dX4_serverOf_160 rfl (lv_at hl 1 rfl) ?_
        refine mw_ld S hK hW 24 rfl rfl (pz_vi (n := mN 24) (by rw [show mN 24 = 8 from rfl]; omega) (by decide)) dX4_serverOf_161 (fun x_15 hx_15 => ?_)
        exact r_i (v := x_15) hx hb hr hlocks hS dX4_serverOf_162 (⟨_, rfl, hW⟩)
      · skip
        have e9 : a2 = 8 := by rw [ej_4, h9]; rfl
        subst e9
        refine lv_tableIn (off := 148) (tgt := 163) hx hb dX4_serverOf_15 (by decide) (by decide) (by decide) (by decide) ?_
        refine lv_aload_n hx hb dX4_serverOf_163 rfl (lv_at hl 0 rfl) ?_
        refine M_g25 S hK hW dX4_serverOf_164 ?_
        refine lv_iload_n hx hb dX4_serverOf_167 rfl (lv_at hl 1 rfl) ?_
        refine mw_ld S hK hW 25 rfl rfl (pz_vi (n := mN 25) (by rw [show mN 25 = 8 from rfl]; omega) (by decide)) dX4_serverOf_168 (fun x_16 hx_16 => ?_)
        exact r_i (v := x_16) hx hb hr hlocks hS dX4_serverOf_169 (⟨_, rfl, hW⟩)
      · skip
        have e9 : a2 = 9 := by rw [ej_4, h9]; rfl
        subst e9
        refine lv_tableIn (off := 155) (tgt := 170) hx hb dX4_serverOf_15 (by decide) (by decide) (by decide) (by decide) ?_
        refine lv_aload_n hx hb dX4_serverOf_170 rfl (lv_at hl 0 rfl) ?_
        refine M_g26 S hK hW dX4_serverOf_171 ?_
        refine lv_iload_n hx hb dX4_serverOf_174 rfl (lv_at hl 1 rfl) ?_
        refine mw_ld S hK hW 26 rfl rfl (pz_vi (n := mN 26) (by rw [show mN 26 = 8 from rfl]; omega) (by decide)) dX4_serverOf_175 (fun x_17 hx_17 => ?_)
        refine lv_ldc hx hb hown (hts _ iw_800) dX4_serverOf_176 ?_
        refine lv_iadd hx hb dX4_serverOf_178 ?_
        refine lv_topi (fun x_18 _ => ?_)
        exact r_i (v := x_18) hx hb hr hlocks hS dX4_serverOf_179 (⟨_, rfl, hW⟩)
      · skip
        have e9 : a2 = 10 := by rw [ej_4, h9]; rfl
        subst e9
        refine lv_tableIn (off := 165) (tgt := 180) hx hb dX4_serverOf_15 (by decide) (by decide) (by decide) (by decide) ?_
        refine lv_aload_n hx hb dX4_serverOf_180 rfl (lv_at hl 0 rfl) ?_
        refine M_g11 S hK hW dX4_serverOf_181 ?_
        refine lv_iload_n hx hb dX4_serverOf_184 rfl (lv_at hl 1 rfl) ?_
        refine mw_ld S hK hW 11 rfl rfl (pz_vi (n := mN 11) (by rw [show mN 11 = 8 from rfl]; omega) (by decide)) dX4_serverOf_185 (fun x_19 hx_19 => ?_)
        exact r_i (v := x_19) hx hb hr hlocks hS dX4_serverOf_186 (⟨_, rfl, hW⟩)
      · skip
        have e9 : a2 = 11 := by rw [ej_4, h9]; rfl
        subst e9
        refine lv_tableIn (off := 172) (tgt := 187) hx hb dX4_serverOf_15 (by decide) (by decide) (by decide) (by decide) ?_
        refine lv_aload_n hx hb dX4_serverOf_187 rfl (lv_at hl 0 rfl) ?_
        refine M_g12 S hK hW dX4_serverOf_188 ?_
        refine lv_iload_n hx hb dX4_serverOf_191 rfl (lv_at hl 1 rfl) ?_
        refine mw_ld S hK hW 12 rfl rfl (pz_vi (n := mN 12) (by rw [show mN 12 = 8 from rfl]; omega) (by decide)) dX4_serverOf_192 (fun x_20 hx_20 => ?_)
        exact r_i (v := x_20) hx hb hr hlocks hS dX4_serverOf_193 (⟨_, rfl, hW⟩)
      · skip
        have e9 : a2 = 12 := by rw [ej_4, h9]; rfl
        subst e9
        refine lv_tableIn (off := 179) (tgt := 194) hx hb dX4_serverOf_15 (by decide) (by decide) (by decide) (by decide) ?_
        refine lv_aload_n hx hb dX4_serverOf_194 rfl (lv_at hl 0 rfl) ?_
        refine M_g13 S hK hW dX4_serverOf_195 ?_
        refine lv_iload_n hx hb dX4_serverOf_198 rfl (lv_at hl 1 rfl) ?_
        refine mw_ld S hK hW 13 rfl rfl (pz_vi (n := mN 13) (by rw [show mN 13 = 8 from rfl]; omega) (by decide)) dX4_serverOf_199 (fun x_21 hx_21 => ?_)
        exact r_i (v := x_21) hx hb hr hlocks hS dX4_serverOf_200 (⟨_, rfl, hW⟩)
      · skip
        have e9 : a2 = 13 := by rw [ej_4, h9]; rfl
        subst e9
        refine lv_tableIn (off := 186) (tgt := 201) hx hb dX4_serverOf_15 (by decide) (by decide) (by decide) (by decide) ?_
        refine lv_aload_n hx hb dX4_serverOf_201 rfl (lv_at hl 0 rfl) ?_
        refine M_g14 S hK hW dX4_serverOf_202 ?_
        refine lv_iload_n hx hb dX4_serverOf_205 rfl (lv_at hl 1 rfl) ?_
        refine mw_ld S hK hW 14 rfl rfl (pz_vi (n := mN 14) (by rw [show mN 14 = 8 from rfl]; omega) (by decide)) dX4_serverOf_206 (fun x_22 hx_22 => ?_)
        exact r_i (v := x_22) hx hb hr hlocks hS dX4_serverOf_207 (⟨_, rfl, hW⟩)
      · skip
        have e9 : a2 = 14 := by rw [ej_4, h9]; rfl
        subst e9
        refine lv_tableIn (off := 193) (tgt := 208) hx hb dX4_serverOf_15 (by decide) (by decide) (by decide) (by decide) ?_
        refine lv_aload_n hx hb dX4_serverOf_208 rfl (lv_at hl 0 rfl) ?_
        refine M_g15 S hK hW dX4_serverOf_209 ?_
        refine lv_iload_n hx hb dX4_serverOf_212 rfl (lv_at hl 1 rfl) ?_
        refine mw_ld S hK hW 15 rfl rfl (pz_vi (n := mN 15) (by rw [show mN 15 = 8 from rfl]; omega) (by decide)) dX4_serverOf_213 (fun x_23 hx_23 => ?_)
        exact r_i (v := x_23) hx hb hr hlocks hS dX4_serverOf_214 (⟨_, rfl, hW⟩)
      · skip
        have e9 : a2 = 15 := by rw [ej_4, h9]; rfl
        subst e9
        refine lv_tableIn (off := 200) (tgt := 215) hx hb dX4_serverOf_15 (by decide) (by decide) (by decide) (by decide) ?_
        refine lv_aload_n hx hb dX4_serverOf_215 rfl (lv_at hl 0 rfl) ?_
        refine M_g16 S hK hW dX4_serverOf_216 ?_
        refine lv_iload_n hx hb dX4_serverOf_219 rfl (lv_at hl 1 rfl) ?_
        refine mw_ld S hK hW 16 rfl rfl (pz_vi (n := mN 16) (by rw [show mN 16 = 8 from rfl]; omega) (by decide)) dX4_serverOf_220 (fun x_24 hx_24 => ?_)
        exact r_i (v := x_24) hx hb hr hlocks hS dX4_serverOf_221 (⟨_, rfl, hW⟩)
  · skip
    refine lv_if_ne (tgt := 14) hx hb dX4_serverOf_5 (by decide) (fun c_25 => absurd c_25 (by decide)) (fun c_25 => ?_)
    refine lv_aload_n hx hb dX4_serverOf_8 rfl (lv_at hl 0 rfl) ?_
    refine lv_iconst (v := (-1)) hx hb dX4_serverOf_9 (by decide) ?_
    refine c_v (n := 1) (As := [.int (-1)]) (rest := []) S (q_X4_refuse l dC dI h0 R A V G (-1) (by unfold vp_in; decide)) iw_787 iw_784 iw_786 iw_33 iw_61 (by decide +kernel) rfl ⟨rfl, rfl, Nat.le_of_ble_eq_true rfl, Nat.le_of_ble_eq_true rfl⟩ Kt.blind (M_recv hK hW) hK.at hW hl.1 rfl (Nat.le_of_ble_eq_true rfl) dX4_serverOf_10 ⟨Nat.le_refl _, Nat.le_refl _⟩ hS (fun _ h9 => h9) (fun v9 H locs hB hz9 hk9 hS => ?_)
    refine W.widen (k := 0) (n := 0) (Nat.le_refl 0) (Nat.le_refl 0) ?_
    obtain ⟨_, rfl, rfl, hW⟩ := hB
    refine W.eq (g2 := F0 m 13 ls [.int (-1)]) rfl ?_
    exact r_i (v := (-1)) hx hb hr hlocks hS dX4_serverOf_13 (⟨_, rfl, hW⟩)

abbrev B_q_X4_callOf (dC : Nat → ClassId) (dI : Nat → Nat → Nat) (h0 : Nat) (R : Nat → Nat) (A : Nat → Prop) (V : Nat → Int32) (G : Nat → Nat → Int32) (nc : Nat) (a1 : Int32) (a2 : Int32) : Option Value → Heap → Prop := fun v H => ∃ r : Int32, v = some (.int r) ∧ Mw dC dI h0 R A V G H
set_option maxHeartbeats 8000000 in
set_option maxRecDepth 20000 in
theorem q_X4_callOf (l : Launch) (dC : Nat → ClassId) (dI : Nat → Nat → Nat) (h0 : Nat) (R : Nat → Nat) (A : Nat → Prop) (V : Nat → Int32) (G : Nat → Nat → Int32) (nc : Nat) (a1 : Int32) (a2 : Int32) (hV3 : V 3 = nI nc) (hnc : nc ≤ 200) : Met l yX4_callOf (cws yX4_callOf cX4_callOf 3 (some .int)) { frames := 2, cells := 0, slots := 0, locals := 42 } (va_Pc [.ref h0, .int a1, .int a2] (fun U => Kt dC dI U ∧ Mw dC dI h0 R A V G U.heap)) (Qg (B_q_X4_callOf dC dI h0 R A V G nc a1 a2) A) 0 0 A := by
  refine m_start (KK := Kt dC dI) (Pw := Mw dC dI h0 R A V G) (by decide) (Nat.le_of_ble_eq_true rfl) ?_
  intro p e s m below meth c ls S hr hlocks hin hK hW hS hl
  obtain ⟨hx, hb, hml, hown, hts⟩ := id S
  have hl : lv_has ls 3 [(0, .ref h0), (1, .int a1), (2, .int a2)] := hl
  have en_c : (nI nc).toInt = ((nc : Nat) : Int) := pz_ti (by omega)
  refine lv_aload_n hx hb dX4_callOf_0 rfl (lv_at hl 0 rfl) ?_
  refine lv_iload_n hx hb dX4_callOf_1 rfl (lv_at hl 1 rfl) ?_
  refine c_v (n := 1) (As := [.int a1]) (rest := []) S (q_X4_isCall l dC dI h0 R A V G nc a1 hV3 (by omega)) iw_874 iw_871 iw_873 iw_43 iw_61 (by decide +kernel) rfl ⟨rfl, rfl, Nat.le_of_ble_eq_true rfl, Nat.le_of_ble_eq_true rfl⟩ Kt.blind (M_recv hK hW) hK.at hW hl.1 rfl (Nat.le_of_ble_eq_true rfl) dX4_callOf_2 ⟨Nat.le_refl _, Nat.le_refl _⟩ hS (fun _ h9 => h9) (fun v9 H locs hB hz9 hk9 hS => ?_)
  refine W.widen (k := 0) (n := 0) (Nat.le_refl 0) (Nat.le_refl 0) ?_
  obtain ⟨r_1, rfl, hr_1, hW⟩ := hB
  refine W.eq (g2 := F0 m 5 ls [.int r_1]) rfl ?_
  rcases hr_1 with ⟨ha_1, hb_1, rfl⟩ | ⟨ha_1, rfl⟩
  · skip
    obtain ⟨j_1, hj_1, ej_1⟩ := pz_of ha_1 hb_1
    subst ej_1
    have en_2 : (nI j_1).toInt = ((j_1 : Nat) : Int) := pz_ti (by omega)
    refine lv_if_ne (tgt := 14) hx hb dX4_callOf_5 (by decide) (fun c_3 => ?_) (fun c_3 => absurd c_3 (by decide))
    refine lv_iload_n hx hb dX4_callOf_14 rfl (lv_at hl 2 rfl) ?_
    by_cases t_4 : a2.toInt < 0 ∨ 10 < a2.toInt
    · skip
      refine lv_tableOut (tgt := 211) hx hb dX4_callOf_15 t_4 (by decide) ?_
      refine lv_aload_n hx hb dX4_callOf_211 rfl (lv_at hl 0 rfl) ?_
      refine lv_bipush (v := (-2)) hx hb dX4_callOf_212 (by decide) ?_
      refine c_v (n := 1) (As := [.int (-2)]) (rest := []) S (q_X4_refuse l dC dI h0 R A V G (-2) (by unfold vp_in; decide)) iw_787 iw_784 iw_786 iw_33 iw_61 (by decide +kernel) rfl ⟨rfl, rfl, Nat.le_of_ble_eq_true rfl, Nat.le_of_ble_eq_true rfl⟩ Kt.blind (M_recv hK hW) hK.at hW hl.1 rfl (Nat.le_of_ble_eq_true rfl) dX4_callOf_214 ⟨Nat.le_refl _, Nat.le_refl _⟩ hS (fun _ h9 => h9) (fun v9 H locs hB hz9 hk9 hS => ?_)
      refine W.widen (k := 0) (n := 0) (Nat.le_refl 0) (Nat.le_refl 0) ?_
      obtain ⟨_, rfl, rfl, hW⟩ := hB
      refine W.eq (g2 := F0 m 217 ls [.int (-2)]) rfl ?_
      exact r_i (v := (-2)) hx hb hr hlocks hS dX4_callOf_217 (⟨_, rfl, hW⟩)
    · skip
      obtain ⟨j_4, hj_4, ej_4⟩ := pz_of (x := a2) (n := 11) (by omega) (by omega)
      have oj_4 : j_4 = 0 ∨ j_4 = 1 ∨ j_4 = 2 ∨ j_4 = 3 ∨ j_4 = 4 ∨ j_4 = 5 ∨ j_4 = 6 ∨ j_4 = 7 ∨ j_4 = 8 ∨ j_4 = 9 ∨ j_4 = 10 := by omega
      rcases oj_4 with h9 | h9 | h9 | h9 | h9 | h9 | h9 | h9 | h9 | h9 | h9
      · skip
        have e9 : a2 = 0 := by rw [ej_4, h9]; rfl
        subst e9
        refine lv_tableIn (off := 57) (tgt := 72) hx hb dX4_callOf_15 (by decide) (by decide) (by decide) (by decide) ?_
        refine lv_aload_n hx hb dX4_callOf_72 rfl (lv_at hl 0 rfl) ?_
        refine M_g30 S hK hW dX4_callOf_73 ?_
        refine lv_iload_n hx hb dX4_callOf_76 rfl (lv_at hl 1 rfl) ?_
        refine mw_ld S hK hW 30 rfl rfl (pz_vi (n := mN 30) (by rw [show mN 30 = 200 from rfl]; omega) (by decide)) dX4_callOf_77 (fun x_6 hx_6 => ?_)
        replace hx_6 : x_6 = G 30 j_1 := (hx_6 rfl).trans (congrArg _ (pz_cl (by omega)))
        exact r_i (v := x_6) hx hb hr hlocks hS dX4_callOf_78 (⟨_, rfl, hW⟩)
      · skip
        have e9 : a2 = 1 := by rw [ej_4, h9]; rfl
        subst e9
        refine lv_tableIn (off := 64) (tgt := 79) hx hb dX4_callOf_15 (by decide) (by decide) (by decide) (by decide) ?_
        refine lv_aload_n hx hb dX4_callOf_79 rfl (lv_at hl 0 rfl) ?_
        refine M_g27 S hK hW dX4_callOf_80 ?_
        refine lv_iload_n hx hb dX4_callOf_83 rfl (lv_at hl 1 rfl) ?_
        refine mw_ld S hK hW 27 rfl rfl (pz_vi (n := mN 27) (by rw [show mN 27 = 200 from rfl]; omega) (by decide)) dX4_callOf_84 (fun x_7 hx_7 => ?_)
        exact r_i (v := x_7) hx hb hr hlocks hS dX4_callOf_85 (⟨_, rfl, hW⟩)
      · skip
        have e9 : a2 = 2 := by rw [ej_4, h9]; rfl
        subst e9
        refine lv_tableIn (off := 71) (tgt := 86) hx hb dX4_callOf_15 (by decide) (by decide) (by decide) (by decide) ?_
        refine lv_aload_n hx hb dX4_callOf_86 rfl (lv_at hl 0 rfl) ?_
        refine M_g28 S hK hW dX4_callOf_87 ?_
        refine lv_iload_n hx hb dX4_callOf_90 rfl (lv_at hl 1 rfl) ?_
        refine mw_ld S hK hW 28 rfl rfl (pz_vi (n := mN 28) (by rw [show mN 28 = 200 from rfl]; omega) (by decide)) dX4_callOf_91 (fun x_8 hx_8 => ?_)
        exact r_i (v := x_8) hx hb hr hlocks hS dX4_callOf_92 (⟨_, rfl, hW⟩)
      · skip
        have e9 : a2 = 3 := by rw [ej_4, h9]; rfl
        subst e9
        refine lv_tableIn (off := 78) (tgt := 93) hx hb dX4_callOf_15 (by decide) (by decide) (by decide) (by decide) ?_
        refine lv_aload_n hx hb dX4_callOf_93 rfl (lv_at hl 0 rfl) ?_
        refine M_g29 S hK hW dX4_callOf_94 ?_
        refine lv_iload_n hx hb dX4_callOf_97 rfl (lv_at hl 1 rfl) ?_
        refine mw_ld S hK hW 29 rfl rfl (pz_vi (n := mN 29) (by rw [show mN 29 = 200 from rfl]; omega) (by decide)) dX4_callOf_98 (fun x_9 hx_9 => ?_)
        exact r_i (v := x_9) hx hb hr hlocks hS dX4_callOf_99 (⟨_, rfl, hW⟩)
      · skip
        have e9 : a2 = 4 := by rw [ej_4, h9]; rfl
        subst e9
        refine lv_tableIn (off := 85) (tgt := 100) hx hb dX4_callOf_15 (by decide) (by decide) (by decide) (by decide) ?_
        refine lv_aload_n hx hb dX4_callOf_100 rfl (lv_at hl 0 rfl) ?_
        refine M_g36 S hK hW dX4_callOf_101 ?_
        refine lv_iload_n hx hb dX4_callOf_104 rfl (lv_at hl 1 rfl) ?_
        refine mw_lz S hK hW 36 rfl rfl (pz_vi (n := mN 36) (by rw [show mN 36 = 200 from rfl]; omega) (by decide)) dX4_callOf_105 (fun x_10 => ?_)
        refine lv_if_eq (tgt := 113) hx hb dX4_callOf_106 (by decide) (fun c_11 => ?_) (fun c_11 => ?_)
        · skip
          have i_11 : x_10.toInt = 0 := by have h9 := pz_eq c_11; exact h9
          refine lv_iconst (v := 0) hx hb dX4_callOf_113 (by decide) ?_
          exact r_i (v := 0) hx hb hr hlocks hS dX4_callOf_114 (⟨_, rfl, hW⟩)
        · skip
          have i_11 : ¬ x_10.toInt = 0 := by have h9 := pz_neq c_11; exact h9
          refine lv_iconst (v := 1) hx hb dX4_callOf_109 (by decide) ?_
          refine lv_goto (tgt := 114) hx hb dX4_callOf_110 (by decide) ?_
          exact r_i (v := 1) hx hb hr hlocks hS dX4_callOf_114 (⟨_, rfl, hW⟩)
      · skip
        have e9 : a2 = 5 := by rw [ej_4, h9]; rfl
        subst e9
        refine lv_tableIn (off := 100) (tgt := 115) hx hb dX4_callOf_15 (by decide) (by decide) (by decide) (by decide) ?_
        refine lv_aload_n hx hb dX4_callOf_115 rfl (lv_at hl 0 rfl) ?_
        refine M_g31 S hK hW dX4_callOf_116 ?_
        refine lv_iload_n hx hb dX4_callOf_119 rfl (lv_at hl 1 rfl) ?_
        refine mw_ld S hK hW 31 rfl rfl (pz_vi (n := mN 31) (by rw [show mN 31 = 200 from rfl]; omega) (by decide)) dX4_callOf_120 (fun x_12 hx_12 => ?_)
        replace hx_12 : x_12 = G 31 j_1 := (hx_12 rfl).trans (congrArg _ (pz_cl (by omega)))
        exact r_i (v := x_12) hx hb hr hlocks hS dX4_callOf_121 (⟨_, rfl, hW⟩)
      · skip
        have e9 : a2 = 6 := by rw [ej_4, h9]; rfl
        subst e9
        refine lv_tableIn (off := 107) (tgt := 122) hx hb dX4_callOf_15 (by decide) (by decide) (by decide) (by decide) ?_
        refine lv_aload_n hx hb dX4_callOf_122 rfl (lv_at hl 0 rfl) ?_
        refine M_g30 S hK hW dX4_callOf_123 ?_
        refine lv_iload_n hx hb dX4_callOf_126 rfl (lv_at hl 1 rfl) ?_
        refine mw_ld S hK hW 30 rfl rfl (pz_vi (n := mN 30) (by rw [show mN 30 = 200 from rfl]; omega) (by decide)) dX4_callOf_127 (fun x_13 hx_13 => ?_)
        replace hx_13 : x_13 = G 30 j_1 := (hx_13 rfl).trans (congrArg _ (pz_cl (by omega)))
        refine lv_iconst (v := 2) hx hb dX4_callOf_128 (by decide) ?_
        refine lv_icmp_ne (tgt := 141) hx hb dX4_callOf_129 (by decide) (fun c_14 => ?_) (fun c_14 => ?_)
        · skip
          have i_14 : ¬ x_13.toInt = 2 := by have h9 := pz_neq c_14; exact h9
          refine lv_aload_n hx hb dX4_callOf_141 rfl (lv_at hl 0 rfl) ?_
          refine M_g31 S hK hW dX4_callOf_142 ?_
          refine lv_iload_n hx hb dX4_callOf_145 rfl (lv_at hl 1 rfl) ?_
          refine mw_ld S hK hW 31 rfl rfl (pz_vi (n := mN 31) (by rw [show mN 31 = 200 from rfl]; omega) (by decide)) dX4_callOf_146 (fun x_15 hx_15 => ?_)
          replace hx_15 : x_15 = G 31 j_1 := (hx_15 rfl).trans (congrArg _ (pz_cl (by omega)))
          refine lv_if_le (tgt := 161) hx hb dX4_callOf_147 (by decide) (fun c_16 => ?_) (fun c_16 => ?_)
          · skip
            have i_16 : x_15.toInt ≤ 0 := by have h9 := pz_le c_16; exact h9
            refine lv_bipush (v := (-9)) hx hb dX4_callOf_161 (by decide) ?_
            exact r_i (v := (-9)) hx hb hr hlocks hS dX4_callOf_163 (⟨_, rfl, hW⟩)
          · skip
            have i_16 : x_15.toInt > 0 := by have h9 := pz_nle c_16; exact h9
            refine lv_aload_n hx hb dX4_callOf_150 rfl (lv_at hl 0 rfl) ?_
            refine M_g37 S hK hW dX4_callOf_151 ?_
            refine lv_iconst (v := 2) hx hb dX4_callOf_154 (by decide) ?_
            refine lv_iload_n hx hb dX4_callOf_155 rfl (lv_at hl 1 rfl) ?_
            refine lv_imul hx hb dX4_callOf_156 ?_
            refine lv_topi (fun x_17 ex_17 => ?_)
            obtain rfl : x_17 = nI (2 * j_1) := ex_17.trans (pk_mul 2 j_1)
            have en_18 : (nI (2 * j_1)).toInt = ((2 * j_1 : Nat) : Int) := pz_ti (by omega)
            refine mw_ld S hK hW 37 rfl rfl (pz_vi (n := mN 37) (by rw [show mN 37 = 400 from rfl]; omega) (by decide)) dX4_callOf_157 (fun x_19 hx_19 => ?_)
            replace hx_19 : x_19 = G 37 (2 * j_1) := (hx_19 rfl).trans (congrArg _ (pz_cl (by omega)))
            refine lv_goto (tgt := 163) hx hb dX4_callOf_158 (by decide) ?_
            exact r_i (v := x_19) hx hb hr hlocks hS dX4_callOf_163 (⟨_, rfl, hW⟩)
        · skip
          have i_14 : x_13.toInt = 2 := by have h9 := pz_eq c_14; exact h9
          refine lv_aload_n hx hb dX4_callOf_132 rfl (lv_at hl 0 rfl) ?_
          refine M_g35 S hK hW dX4_callOf_133 ?_
          refine lv_iload_n hx hb dX4_callOf_136 rfl (lv_at hl 1 rfl) ?_
          refine mw_ld S hK hW 35 rfl rfl (pz_vi (n := mN 35) (by rw [show mN 35 = 200 from rfl]; omega) (by decide)) dX4_callOf_137 (fun x_20 hx_20 => ?_)
          refine lv_goto (tgt := 163) hx hb dX4_callOf_138 (by decide) ?_
          exact r_i (v := x_20) hx hb hr hlocks hS dX4_callOf_163 (⟨_, rfl, hW⟩)
      · skip
        have e9 : a2 = 7 := by rw [ej_4, h9]; rfl
        subst e9
        refine lv_tableIn (off := 149) (tgt := 164) hx hb dX4_callOf_15 (by decide) (by decide) (by decide) (by decide) ?_
        refine lv_aload_n hx hb dX4_callOf_164 rfl (lv_at hl 0 rfl) ?_
        refine M_g31 S hK hW dX4_callOf_165 ?_
        refine lv_iload_n hx hb dX4_callOf_168 rfl (lv_at hl 1 rfl) ?_
        refine mw_ld S hK hW 31 rfl rfl (pz_vi (n := mN 31) (by rw [show mN 31 = 200 from rfl]; omega) (by decide)) dX4_callOf_169 (fun x_21 hx_21 => ?_)
        replace hx_21 : x_21 = G 31 j_1 := (hx_21 rfl).trans (congrArg _ (pz_cl (by omega)))
        refine lv_iconst (v := 1) hx hb dX4_callOf_170 (by decide) ?_
        refine lv_icmp_le (tgt := 187) hx hb dX4_callOf_171 (by decide) (fun c_22 => ?_) (fun c_22 => ?_)
        · skip
          have i_22 : x_21.toInt ≤ 1 := by have h9 := pz_le c_22; exact h9
          refine lv_bipush (v := (-9)) hx hb dX4_callOf_187 (by decide) ?_
          exact r_i (v := (-9)) hx hb hr hlocks hS dX4_callOf_189 (⟨_, rfl, hW⟩)
        · skip
          have i_22 : x_21.toInt > 1 := by have h9 := pz_nle c_22; exact h9
          refine lv_aload_n hx hb dX4_callOf_174 rfl (lv_at hl 0 rfl) ?_
          refine M_g37 S hK hW dX4_callOf_175 ?_
          refine lv_iconst (v := 2) hx hb dX4_callOf_178 (by decide) ?_
          refine lv_iload_n hx hb dX4_callOf_179 rfl (lv_at hl 1 rfl) ?_
          refine lv_imul hx hb dX4_callOf_180 ?_
          refine lv_topi (fun x_23 ex_23 => ?_)
          obtain rfl : x_23 = nI (2 * j_1) := ex_23.trans (pk_mul 2 j_1)
          have en_24 : (nI (2 * j_1)).toInt = ((2 * j_1 : Nat) : Int) := pz_ti (by omega)
          refine lv_iconst (v := 1) hx hb dX4_callOf_181 (by decide) ?_
          refine lv_iadd hx hb dX4_callOf_182 ?_
          refine lv_topi (fun x_25 ex_25 => ?_)
          obtain rfl : x_25 = nI ((2 * j_1) + 1) := ex_25.trans (nI_add (2 * j_1) 1)
          have en_26 : (nI ((2 * j_1) + 1)).toInt = (((2 * j_1) + 1 : Nat) : Int) := pz_ti (by omega)
          refine mw_ld S hK hW 37 rfl rfl (pz_vi (n := mN 37) (by rw [show mN 37 = 400 from rfl]; omega) (by decide)) dX4_callOf_183 (fun x_27 hx_27 => ?_)
          replace hx_27 : x_27 = G 37 ((2 * j_1) + 1) := (hx_27 rfl).trans (congrArg _ (pz_cl (by omega)))
          refine lv_goto (tgt := 189) hx hb dX4_callOf_184 (by decide) ?_
          exact r_i (v := x_27) hx hb hr hlocks hS dX4_callOf_189 (⟨_, rfl, hW⟩)
      · skip
        have e9 : a2 = 8 := by rw [ej_4, h9]; rfl
        subst e9
        refine lv_tableIn (off := 175) (tgt := 190) hx hb dX4_callOf_15 (by decide) (by decide) (by decide) (by decide) ?_
        refine lv_aload_n hx hb dX4_callOf_190 rfl (lv_at hl 0 rfl) ?_
        refine M_g32 S hK hW dX4_callOf_191 ?_
        refine lv_iload_n hx hb dX4_callOf_194 rfl (lv_at hl 1 rfl) ?_
        refine mw_ld S hK hW 32 rfl rfl (pz_vi (n := mN 32) (by rw [show mN 32 = 200 from rfl]; omega) (by decide)) dX4_callOf_195 (fun x_28 hx_28 => ?_)
        exact r_i (v := x_28) hx hb hr hlocks hS dX4_callOf_196 (⟨_, rfl, hW⟩)
      · skip
        have e9 : a2 = 9 := by rw [ej_4, h9]; rfl
        subst e9
        refine lv_tableIn (off := 182) (tgt := 197) hx hb dX4_callOf_15 (by decide) (by decide) (by decide) (by decide) ?_
        refine lv_aload_n hx hb dX4_callOf_197 rfl (lv_at hl 0 rfl) ?_
        refine M_g33 S hK hW dX4_callOf_198 ?_
        refine lv_iload_n hx hb dX4_callOf_201 rfl (lv_at hl 1 rfl) ?_
        refine mw_ld S hK hW 33 rfl rfl (pz_vi (n := mN 33) (by rw [show mN 33 = 200 from rfl]; omega) (by decide)) dX4_callOf_202 (fun x_29 hx_29 => ?_)
        exact r_i (v := x_29) hx hb hr hlocks hS dX4_callOf_203 (⟨_, rfl, hW⟩)
      · skip
        have e9 : a2 = 10 := by rw [ej_4, h9]; rfl
        subst e9
        refine lv_tableIn (off := 189) (tgt := 204) hx hb dX4_callOf_15 (by decide) (by decide) (by decide) (by decide) ?_
        refine lv_aload_n hx hb dX4_callOf_204 rfl (lv_at hl 0 rfl) ?_
        refine M_g34 S hK hW dX4_callOf_205 ?_
        refine lv_iload_n hx hb dX4_callOf_208 rfl (lv_at hl 1 rfl) ?_
        refine mw_ld S hK hW 34 rfl rfl (pz_vi (n := mN 34) (by rw [show mN 34 = 200 from rfl]; omega) (by decide)) dX4_callOf_209 (fun x_30 hx_30 => ?_)
        exact r_i (v := x_30) hx hb hr hlocks hS dX4_callOf_210 (⟨_, rfl, hW⟩)
  · skip
    refine lv_if_ne (tgt := 14) hx hb dX4_callOf_5 (by decide) (fun c_31 => absurd c_31 (by decide)) (fun c_31 => ?_)
    refine lv_aload_n hx hb dX4_callOf_8 rfl (lv_at hl 0 rfl) ?_
    refine lv_iconst (v := (-1)) hx hb dX4_callOf_9 (by decide) ?_
    refine c_v (n := 1) (As := [.int (-1)]) (rest := []) S (q_X4_refuse l dC dI h0 R A V G (-1) (by unfold vp_in; decide)) iw_787 iw_784 iw_786 iw_33 iw_61 (by decide +kernel) rfl ⟨rfl, rfl, Nat.le_of_ble_eq_true rfl, Nat.le_of_ble_eq_true rfl⟩ Kt.blind (M_recv hK hW) hK.at hW hl.1 rfl (Nat.le_of_ble_eq_true rfl) dX4_callOf_10 ⟨Nat.le_refl _, Nat.le_refl _⟩ hS (fun _ h9 => h9) (fun v9 H locs hB hz9 hk9 hS => ?_)
    refine W.widen (k := 0) (n := 0) (Nat.le_refl 0) (Nat.le_refl 0) ?_
    obtain ⟨_, rfl, rfl, hW⟩ := hB
    refine W.eq (g2 := F0 m 13 ls [.int (-1)]) rfl ?_
    exact r_i (v := (-1)) hx hb hr hlocks hS dX4_callOf_13 (⟨_, rfl, hW⟩)

abbrev B_q_X4_share (dC : Nat → ClassId) (dI : Nat → Nat → Nat) (h0 : Nat) (R : Nat → Nat) (A : Nat → Prop) (V : Nat → Int32) (G : Nat → Nat → Int32) (ns : Nat) (a1 : Int32) : Option Value → Heap → Prop := fun v H => ∃ r : Int32, v = some (.int r) ∧ Mw dC dI h0 R A V G H
set_option maxHeartbeats 8000000 in
set_option maxRecDepth 20000 in
theorem q_X4_share (l : Launch) (dC : Nat → ClassId) (dI : Nat → Nat → Nat) (h0 : Nat) (R : Nat → Nat) (A : Nat → Prop) (V : Nat → Int32) (G : Nat → Nat → Int32) (ns : Nat) (a1 : Int32) (hV2 : V 2 = nI ns) (hns : ns ≤ 8) : Met l yX4_share (cws yX4_share cX4_share 2 (some .int)) { frames := 2, cells := 0, slots := 0, locals := 42 } (va_Pc [.ref h0, .int a1] (fun U => Kt dC dI U ∧ Mw dC dI h0 R A V G U.heap)) (Qg (B_q_X4_share dC dI h0 R A V G ns a1) A) 0 0 A := by
  refine m_start (KK := Kt dC dI) (Pw := Mw dC dI h0 R A V G) (by decide) (Nat.le_of_ble_eq_true rfl) ?_
  intro p e s m below meth c ls S hr hlocks hin hK hW hS hl
  obtain ⟨hx, hb, hml, hown, hts⟩ := id S
  have hl : lv_has ls 2 [(0, .ref h0), (1, .int a1)] := hl
  have en_s : (nI ns).toInt = ((ns : Nat) : Int) := pz_ti (by omega)
  refine lv_aload_n hx hb dX4_share_0 rfl (lv_at hl 0 rfl) ?_
  refine lv_iload_n hx hb dX4_share_1 rfl (lv_at hl 1 rfl) ?_
  refine c_v (n := 1) (As := [.int a1]) (rest := []) S (q_X4_isServer l dC dI h0 R A V G ns a1 hV2 (by omega)) iw_795 iw_792 iw_794 iw_34 iw_61 (by decide +kernel) rfl ⟨rfl, rfl, Nat.le_of_ble_eq_true rfl, Nat.le_of_ble_eq_true rfl⟩ Kt.blind (M_recv hK hW) hK.at hW hl.1 rfl (Nat.le_of_ble_eq_true rfl) dX4_share_2 ⟨Nat.le_refl _, Nat.le_refl _⟩ hS (fun _ h9 => h9) (fun v9 H locs hB hz9 hk9 hS => ?_)
  refine W.widen (k := 0) (n := 0) (Nat.le_refl 0) (Nat.le_refl 0) ?_
  obtain ⟨r_1, rfl, hr_1, hW⟩ := hB
  refine W.eq (g2 := F0 m 5 ls [.int r_1]) rfl ?_
  rcases hr_1 with ⟨ha_1, hb_1, rfl⟩ | ⟨ha_1, rfl⟩
  · skip
    obtain ⟨j_1, hj_1, ej_1⟩ := pz_of ha_1 hb_1
    subst ej_1
    have en_2 : (nI j_1).toInt = ((j_1 : Nat) : Int) := pz_ti (by omega)
    refine lv_if_ne (tgt := 14) hx hb dX4_share_5 (by decide) (fun c_3 => ?_) (fun c_3 => absurd c_3 (by decide))
    refine lv_aload_n hx hb dX4_share_14 rfl (lv_at hl 0 rfl) ?_
    obtain ⟨I_4, hI_4, -⟩ := hW.2.1
    refine mw_gI S hK hI_4 8 (by decide) (fun _ => rfl) iw_654 rfl dX4_share_15 ?_
    refine lv_if_ne (tgt := 25) hx hb dX4_share_18 (by decide) (fun c_5 => ?_) (fun c_5 => ?_)
    · skip
      have i_5 : ¬ (I_4 8).toInt = 0 := by have h9 := pz_neq c_5; exact h9
      refine lv_sipush (v := 1000) hx hb dX4_share_25 (by decide) ?_
      refine lv_aload_n hx hb dX4_share_28 rfl (lv_at hl 0 rfl) ?_
      refine M_g19 S hK hW dX4_share_29 ?_
      refine lv_iload_n hx hb dX4_share_32 rfl (lv_at hl 1 rfl) ?_
      refine mw_ld S hK hW 19 rfl rfl (pz_vi (n := mN 19) (by rw [show mN 19 = 8 from rfl]; omega) (by decide)) dX4_share_33 (fun x_6 hx_6 => ?_)
      refine lv_imul hx hb dX4_share_34 ?_
      refine lv_topi (fun x_7 _ => ?_)
      refine lv_aload_n hx hb dX4_share_35 rfl (lv_at hl 0 rfl) ?_
      refine mw_gI S hK hI_4 8 (by decide) (fun _ => rfl) iw_654 rfl dX4_share_36 ?_
      refine lv_idiv hx hb dX4_share_39 c_5 ?_
      refine lv_topi (fun x_8 _ => ?_)
      exact r_i (v := x_8) hx hb hr hlocks hS dX4_share_40 (⟨_, rfl, hW⟩)
    · skip
      have i_5 : (I_4 8).toInt = 0 := by have h9 := pz_eq c_5; exact h9
      refine lv_iconst (v := 0) hx hb dX4_share_21 (by decide) ?_
      refine lv_goto (tgt := 40) hx hb dX4_share_22 (by decide) ?_
      exact r_i (v := 0) hx hb hr hlocks hS dX4_share_40 (⟨_, rfl, hW⟩)
  · skip
    refine lv_if_ne (tgt := 14) hx hb dX4_share_5 (by decide) (fun c_9 => absurd c_9 (by decide)) (fun c_9 => ?_)
    refine lv_aload_n hx hb dX4_share_8 rfl (lv_at hl 0 rfl) ?_
    refine lv_iconst (v := (-1)) hx hb dX4_share_9 (by decide) ?_
    refine c_v (n := 1) (As := [.int (-1)]) (rest := []) S (q_X4_refuse l dC dI h0 R A V G (-1) (by unfold vp_in; decide)) iw_787 iw_784 iw_786 iw_33 iw_61 (by decide +kernel) rfl ⟨rfl, rfl, Nat.le_of_ble_eq_true rfl, Nat.le_of_ble_eq_true rfl⟩ Kt.blind (M_recv hK hW) hK.at hW hl.1 rfl (Nat.le_of_ble_eq_true rfl) dX4_share_10 ⟨Nat.le_refl _, Nat.le_refl _⟩ hS (fun _ h9 => h9) (fun v9 H locs hB hz9 hk9 hS => ?_)
    refine W.widen (k := 0) (n := 0) (Nat.le_refl 0) (Nat.le_refl 0) ?_
    obtain ⟨_, rfl, rfl, hW⟩ := hB
    refine W.eq (g2 := F0 m 13 ls [.int (-1)]) rfl ?_
    exact r_i (v := (-1)) hx hb hr hlocks hS dX4_share_13 (⟨_, rfl, hW⟩)

abbrev B_q_X4_markOf  (A : Nat → Prop) (P : Heap → Prop) (s0 : Int32) (m0 : Int32) : Option Value → Heap → Prop := fun v H => ∃ r : Int32, v = some (.int r) ∧ r = gMk s0 m0 ∧ P H
set_option maxHeartbeats 8000000 in
set_option maxRecDepth 20000 in
theorem q_X4_markOf (l : Launch) (A : Nat → Prop) (P : Heap → Prop) (s0 : Int32) (m0 : Int32) : Met l yX4_markOf (cws yX4_markOf cX4_markOf 2 (some .int)) { frames := 0, cells := 0, slots := 0, locals := 0 } (va_Pc [.int s0, .int m0] (fun U => True ∧ P U.heap)) (Qg (B_q_X4_markOf A P s0 m0) A) 0 0 A := by
  refine m_start (KK := fun _ => True) (Pw := P) (by decide) (Nat.le_of_ble_eq_true rfl) ?_
  intro p e s m below meth c ls S hr hlocks hin hK hW hS hl
  obtain ⟨hx, hb, hml, hown, hts⟩ := id S
  have hl : lv_has ls 2 [(0, .int s0), (1, .int m0)] := hl
  refine lv_ldc hx hb hown (hts _ iw_857) dX4_markOf_0 ?_
  refine lv_iconst (v := 4) hx hb dX4_markOf_2 (by decide) ?_
  refine lv_iload_n hx hb dX4_markOf_3 rfl (lv_at hl 0 rfl) ?_
  refine lv_imul hx hb dX4_markOf_4 ?_
  refine lv_iload_n hx hb dX4_markOf_5 rfl (lv_at hl 1 rfl) ?_
  refine lv_iadd hx hb dX4_markOf_6 ?_
  refine lv_iconst (v := 1) hx hb dX4_markOf_7 (by decide) ?_
  refine lv_iadd hx hb dX4_markOf_8 ?_
  refine lv_imul hx hb dX4_markOf_9 ?_
  refine lv_ldc hx hb hown (hts _ iw_829) dX4_markOf_10 ?_
  refine lv_irem hx hb dX4_markOf_12 (by decide) ?_
  exact r_i (v := ((40503 * (((4 * s0) + m0) + 1)) - (40503 * (((4 * s0) + m0) + 1)) / 65536 * 65536)) hx hb hr hlocks hS dX4_markOf_13 (⟨_, rfl, rfl, hW⟩)

abbrev B_q_X4_mark (dC : Nat → ClassId) (dI : Nat → Nat → Nat) (h0 : Nat) (R : Nat → Nat) (A : Nat → Prop) (V : Nat → Int32) (G : Nat → Nat → Int32) (ns : Nat) (a1 : Int32) (a2 : Int32) : Option Value → Heap → Prop := fun v H => ∃ r : Int32, v = some (.int r) ∧ r = exMark ns a1 a2 ∧ Mw dC dI h0 R A V G H
set_option maxHeartbeats 8000000 in
set_option maxRecDepth 20000 in
theorem q_X4_mark (l : Launch) (dC : Nat → ClassId) (dI : Nat → Nat → Nat) (h0 : Nat) (R : Nat → Nat) (A : Nat → Prop) (V : Nat → Int32) (G : Nat → Nat → Int32) (ns : Nat) (a1 : Int32) (a2 : Int32) (hV2 : V 2 = nI ns) (hns : ns ≤ 8) : Met l yX4_mark (cws yX4_mark cX4_mark 3 (some .int)) { frames := 2, cells := 0, slots := 0, locals := 42 } (va_Pc [.ref h0, .int a1, .int a2] (fun U => Kt dC dI U ∧ Mw dC dI h0 R A V G U.heap)) (Qg (B_q_X4_mark dC dI h0 R A V G ns a1 a2) A) 0 0 A := by
  refine m_start (KK := Kt dC dI) (Pw := Mw dC dI h0 R A V G) (by decide) (Nat.le_of_ble_eq_true rfl) ?_
  intro p e s m below meth c ls S hr hlocks hin hK hW hS hl
  obtain ⟨hx, hb, hml, hown, hts⟩ := id S
  have hl : lv_has ls 3 [(0, .ref h0), (1, .int a1), (2, .int a2)] := hl
  have en_s : (nI ns).toInt = ((ns : Nat) : Int) := pz_ti (by omega)
  refine lv_aload_n hx hb dX4_mark_0 rfl (lv_at hl 0 rfl) ?_
  refine lv_iload_n hx hb dX4_mark_1 rfl (lv_at hl 1 rfl) ?_
  refine c_v (n := 1) (As := [.int a1]) (rest := []) S (q_X4_isServer l dC dI h0 R A V G ns a1 hV2 (by omega)) iw_795 iw_792 iw_794 iw_34 iw_61 (by decide +kernel) rfl ⟨rfl, rfl, Nat.le_of_ble_eq_true rfl, Nat.le_of_ble_eq_true rfl⟩ Kt.blind (M_recv hK hW) hK.at hW hl.1 rfl (Nat.le_of_ble_eq_true rfl) dX4_mark_2 ⟨Nat.le_refl _, Nat.le_refl _⟩ hS (fun _ h9 => h9) (fun v9 H locs hB hz9 hk9 hS => ?_)
  refine W.widen (k := 0) (n := 0) (Nat.le_refl 0) (Nat.le_refl 0) ?_
  obtain ⟨r_1, rfl, hr_1, hW⟩ := hB
  refine W.eq (g2 := F0 m 5 ls [.int r_1]) rfl ?_
  rcases hr_1 with ⟨ha_1, hb_1, rfl⟩ | ⟨ha_1, rfl⟩
  · skip
    obtain ⟨j_1, hj_1, ej_1⟩ := pz_of ha_1 hb_1
    subst ej_1
    have en_2 : (nI j_1).toInt = ((j_1 : Nat) : Int) := pz_ti (by omega)
    refine lv_if_ne (tgt := 14) hx hb dX4_mark_5 (by decide) (fun c_3 => ?_) (fun c_3 => absurd c_3 (by decide))
    refine lv_iload_n hx hb dX4_mark_14 rfl (lv_at hl 2 rfl) ?_
    refine lv_iconst (v := 4) hx hb dX4_mark_15 (by decide) ?_
    refine c_s (n := 2) (As := [.int a2, .int 4]) (rest := []) S (q_X4_isIn l A (Mw dC dI h0 R A V G) a2 4) iw_783 iw_781 iw_782 iw_61 (by decide +kernel) rfl ⟨rfl, rfl, Nat.le_of_ble_eq_true rfl, Nat.le_of_ble_eq_true rfl⟩ (fun _ _ _ _ _ => trivial) (fun _ _ _ => trivial) hW hl.1 rfl (Nat.le_of_ble_eq_true rfl) dX4_mark_16 ⟨Nat.le_refl _, Nat.le_refl _⟩ hS (fun _ h9 => h9) (fun v9 H locs hB hz9 hk9 hS => ?_)
    refine W.widen (k := 0) (n := 0) (Nat.le_refl 0) (Nat.le_refl 0) ?_
    obtain ⟨r_4, rfl, hr_4, hW⟩ := hB
    refine W.eq (g2 := F0 m 19 ls [.int r_4]) rfl ?_
    rcases hr_4 with ⟨ha_4, hb_4, rfl⟩ | ⟨ha_4, rfl⟩
    · skip
      have hb_4 : a2.toInt < 4 := by have h9 := hb_4; exact h9
      refine lv_if_eq (tgt := 30) hx hb dX4_mark_19 (by decide) (fun c_5 => absurd c_5 (by decide)) (fun c_5 => ?_)
      refine lv_iload_n hx hb dX4_mark_22 rfl (lv_at hl 1 rfl) ?_
      refine lv_iload_n hx hb dX4_mark_23 rfl (lv_at hl 2 rfl) ?_
      refine c_s (n := 2) (As := [.int (nI j_1), .int a2]) (rest := []) S (q_X4_markOf l A (Mw dC dI h0 R A V G) (nI j_1) a2) iw_856 iw_854 iw_855 iw_61 (by decide +kernel) rfl ⟨rfl, rfl, Nat.le_of_ble_eq_true rfl, Nat.le_of_ble_eq_true rfl⟩ (fun _ _ _ _ _ => trivial) (fun _ _ _ => trivial) hW hl.1 rfl (Nat.le_of_ble_eq_true rfl) dX4_mark_24 ⟨Nat.le_refl _, Nat.le_refl _⟩ hS (fun _ h9 => h9) (fun v9 H locs hB hz9 hk9 hS => ?_)
      refine W.widen (k := 0) (n := 0) (Nat.le_refl 0) (Nat.le_refl 0) ?_
      obtain ⟨r_6, rfl, hr_6, hW⟩ := hB
      refine W.eq (g2 := F0 m 27 ls [.int r_6]) rfl ?_
      refine lv_goto (tgt := 36) hx hb dX4_mark_27 (by decide) ?_
      exact r_i (v := r_6) hx hb hr hlocks hS dX4_mark_36 (⟨_, rfl, by unfold exMark; (repeat' split) <;> first | rfl | assumption | (exfalso; omega), hW⟩)
    · skip
      have ha_4 : a2.toInt < 0 ∨ 4 ≤ a2.toInt := by have h9 := ha_4; exact h9
      refine lv_if_eq (tgt := 30) hx hb dX4_mark_19 (by decide) (fun c_7 => ?_) (fun c_7 => absurd (by decide) c_7)
      refine lv_aload_n hx hb dX4_mark_30 rfl (lv_at hl 0 rfl) ?_
      refine lv_bipush (v := (-2)) hx hb dX4_mark_31 (by decide) ?_
      refine c_v (n := 1) (As := [.int (-2)]) (rest := []) S (q_X4_refuse l dC dI h0 R A V G (-2) (by unfold vp_in; decide)) iw_787 iw_784 iw_786 iw_33 iw_61 (by decide +kernel) rfl ⟨rfl, rfl, Nat.le_of_ble_eq_true rfl, Nat.le_of_ble_eq_true rfl⟩ Kt.blind (M_recv hK hW) hK.at hW hl.1 rfl (Nat.le_of_ble_eq_true rfl) dX4_mark_33 ⟨Nat.le_refl _, Nat.le_refl _⟩ hS (fun _ h9 => h9) (fun v9 H locs hB hz9 hk9 hS => ?_)
      refine W.widen (k := 0) (n := 0) (Nat.le_refl 0) (Nat.le_refl 0) ?_
      obtain ⟨_, rfl, rfl, hW⟩ := hB
      refine W.eq (g2 := F0 m 36 ls [.int (-2)]) rfl ?_
      exact r_i (v := (-2)) hx hb hr hlocks hS dX4_mark_36 (⟨_, rfl, by unfold exMark; (repeat' split) <;> first | rfl | assumption | (exfalso; omega), hW⟩)
  · skip
    refine lv_if_ne (tgt := 14) hx hb dX4_mark_5 (by decide) (fun c_9 => absurd c_9 (by decide)) (fun c_9 => ?_)
    refine lv_aload_n hx hb dX4_mark_8 rfl (lv_at hl 0 rfl) ?_
    refine lv_iconst (v := (-1)) hx hb dX4_mark_9 (by decide) ?_
    refine c_v (n := 1) (As := [.int (-1)]) (rest := []) S (q_X4_refuse l dC dI h0 R A V G (-1) (by unfold vp_in; decide)) iw_787 iw_784 iw_786 iw_33 iw_61 (by decide +kernel) rfl ⟨rfl, rfl, Nat.le_of_ble_eq_true rfl, Nat.le_of_ble_eq_true rfl⟩ Kt.blind (M_recv hK hW) hK.at hW hl.1 rfl (Nat.le_of_ble_eq_true rfl) dX4_mark_10 ⟨Nat.le_refl _, Nat.le_refl _⟩ hS (fun _ h9 => h9) (fun v9 H locs hB hz9 hk9 hS => ?_)
    refine W.widen (k := 0) (n := 0) (Nat.le_refl 0) (Nat.le_refl 0) ?_
    obtain ⟨_, rfl, rfl, hW⟩ := hB
    refine W.eq (g2 := F0 m 13 ls [.int (-1)]) rfl ?_
    exact r_i (v := (-1)) hx hb hr hlocks hS dX4_mark_13 (⟨_, rfl, by unfold exMark; (repeat' split) <;> first | rfl | assumption | (exfalso; omega), hW⟩)
