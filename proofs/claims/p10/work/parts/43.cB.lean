abbrev B_q_X3_serverAt (dC : Nat → ClassId) (dI : Nat → Nat → Nat) (z : Nat) (mi : Nat) (A : Nat → Prop) (bs : Nat) (cp : Nat) (h0 : Nat) (la : Nat → Nat) (sA : Nat → Nat) (cA : Nat → Nat) (ns : Nat) (nc : Nat) (dr : Nat → Prop) (X : Nat → Int32) (P : Nat → Prop) (tr : Nat → Int32) (nl : Nat) (nq : Nat) (rs : Nat) (a1 : Int32) : Option Value → Heap → Prop := fun v H => ∃ o : Option Nat, v = some (va_rf o) ∧ ((o = none ∧ (a1.toInt < 0 ∨ (ns : Int) ≤ a1.toInt)) ∨ ∃ j, j < ns ∧ a1 = nI j ∧ o = some (sA j)) ∧ Cw dC dI z A bs cp h0 la sA cA ns nc dr X P tr nl nq rs H
set_option maxHeartbeats 8000000 in
set_option maxRecDepth 20000 in
theorem q_X3_serverAt (l : Launch) (dC : Nat → ClassId) (dI : Nat → Nat → Nat) (z : Nat) (mi : Nat) (A : Nat → Prop) (bs : Nat) (cp : Nat) (h0 : Nat) (la : Nat → Nat) (sA : Nat → Nat) (cA : Nat → Nat) (ns : Nat) (nc : Nat) (dr : Nat → Prop) (X : Nat → Int32) (P : Nat → Prop) (tr : Nat → Int32) (nl : Nat) (nq : Nat) (rs : Nat) (a1 : Int32) : Met l yX3_serverAt (cws yX3_serverAt cX3_serverAt 2 (some (.object "FrontDoor$Server"))) { frames := 3, cells := 0, slots := 0, locals := 64 } (va_Pc [.ref h0, .int a1] (fun U => KZ dC dI z mi A U ∧ Cw dC dI z A bs cp h0 la sA cA ns nc dr X P tr nl nq rs U.heap)) (Qg (B_q_X3_serverAt dC dI z mi A bs cp h0 la sA cA ns nc dr X P tr nl nq rs a1) A) 0 0 A := by
  refine m_start (KK := KZ dC dI z mi A) (Pw := Cw dC dI z A bs cp h0 la sA cA ns nc dr X P tr nl nq rs) (by decide) (Nat.le_of_ble_eq_true rfl) ?_
  intro p e s m below meth c ls S hr hlocks hin hKZ hW hS hl
  obtain ⟨hx, hb, hml, hown, hts⟩ := id S
  have hK := hKZ.1
  obtain ⟨hns, hnc, hnl, ag, hag, hXg, hnq⟩ := id hW.2.2.2.2.2.2
  have hl : lv_has ls 2 [(0, .ref h0), (1, .int a1)] := hl
  refine lv_iload_n hx hb dX3_serverAt_0 rfl (lv_at hl 1 rfl) ?_
  refine lv_if_lt (tgt := 15) hx hb dX3_serverAt_1 (by decide) (fun c_1 => ?_) (fun c_1 => ?_)
  · skip
    have i_1 : a1.toInt < 0 := by have h9 := pz_lt c_1; exact h9
    refine lv_null hx hb dX3_serverAt_15 ?_
    refine lv_goto (tgt := 30) hx hb dX3_serverAt_16 (by decide) ?_
    exact r_a (o := none) hx hb hr (Or.inl ⟨_, rfl⟩) hlocks hS dX3_serverAt_30 (⟨none, rfl, Or.inl ⟨rfl, by omega⟩, hW⟩)
  · skip
    have i_1 : a1.toInt ≥ 0 := by have h9 := pz_nlt c_1; exact h9
    refine lv_iload_n hx hb dX3_serverAt_4 rfl (lv_at hl 1 rfl) ?_
    refine lv_aload_n hx hb dX3_serverAt_5 rfl (lv_at hl 0 rfl) ?_
    refine D_getl S hK hW 0 (by decide) (fun _ => rfl) iw_105 rfl dX3_serverAt_6 ?_
    refine L_size (rest := [.int a1]) S hKZ hW hS (i := 0) (by decide) hl.1 (Nat.le_of_ble_eq_true rfl) dX3_serverAt_9 ⟨Nat.le_of_ble_eq_true rfl, Nat.le_of_ble_eq_true rfl⟩ ⟨Nat.le_refl _, Nat.le_refl _⟩ (fun H locs hW hS => ?_)
    refine W.eq (g2 := F0 m 12 ls [.int (nI ns), .int a1]) rfl ?_
    obtain ⟨hns, hnc, hnl, ag_3, hag_3, -, hnq⟩ := id hW.2.2.2.2.2.2
    have en_4 : (nI ns).toInt = ((ns : Nat) : Int) := pz_ti (by omega)
    refine lv_icmp_lt (tgt := 19) hx hb dX3_serverAt_12 (by decide) (fun c_5 => ?_) (fun c_5 => ?_)
    · skip
      have i_5 : a1.toInt < (nI ns).toInt := by have h9 := pz_lt c_5; exact h9
      refine lv_aload_n hx hb dX3_serverAt_19 rfl (lv_at hl 0 rfl) ?_
      refine D_getl S hK hW 0 (by decide) (fun _ => rfl) iw_105 rfl dX3_serverAt_20 ?_
      refine lv_iload_n hx hb dX3_serverAt_23 rfl (lv_at hl 1 rfl) ?_
      obtain ⟨j_7, hj_7, ej_7⟩ := pz_of (x := a1) (n := ns) (by omega) (by omega)
      subst ej_7
      have en_8 : (nI j_7).toInt = ((j_7 : Nat) : Int) := pz_ti (by omega)
      refine L_get (rest := []) S hKZ hW hS (i := 0) (t := j_7) (by decide) (by show j_7 < ns; omega) hl.1 (Nat.le_of_ble_eq_true rfl) dX3_serverAt_24 ⟨Nat.le_of_ble_eq_true rfl, Nat.le_of_ble_eq_true rfl⟩ ⟨Nat.le_refl _, Nat.le_refl _⟩ (fun r_7 H locs hr_7 hW hS => ?_)
      obtain rfl : r_7 = sA j_7 := hr_7
      refine S_cast S hK hW (k := j_7) (by omega) iw_158 dX3_serverAt_27 ?_
      exact r_a (o := some (sA j_7)) hx hb hr (Or.inl ⟨_, rfl⟩) hlocks hS dX3_serverAt_30 (⟨_, rfl, Or.inr ⟨j_7, by omega, rfl, rfl⟩, hW⟩)
    · skip
      have i_5 : a1.toInt ≥ (nI ns).toInt := by have h9 := pz_nlt c_5; exact h9
      refine lv_null hx hb dX3_serverAt_15 ?_
      refine lv_goto (tgt := 30) hx hb dX3_serverAt_16 (by decide) ?_
      exact r_a (o := none) hx hb hr (Or.inl ⟨_, rfl⟩) hlocks hS dX3_serverAt_30 (⟨none, rfl, Or.inl ⟨rfl, by omega⟩, hW⟩)

abbrev B_q_X3_callAt (dC : Nat → ClassId) (dI : Nat → Nat → Nat) (z : Nat) (mi : Nat) (A : Nat → Prop) (bs : Nat) (cp : Nat) (h0 : Nat) (la : Nat → Nat) (sA : Nat → Nat) (cA : Nat → Nat) (ns : Nat) (nc : Nat) (dr : Nat → Prop) (X : Nat → Int32) (P : Nat → Prop) (tr : Nat → Int32) (nl : Nat) (nq : Nat) (rs : Nat) (a1 : Int32) : Option Value → Heap → Prop := fun v H => ∃ o : Option Nat, v = some (va_rf o) ∧ ((o = none ∧ (a1.toInt < 0 ∨ (nc : Int) ≤ a1.toInt)) ∨ ∃ j, j < nc ∧ a1 = nI j ∧ o = some (cA j)) ∧ Cw dC dI z A bs cp h0 la sA cA ns nc dr X P tr nl nq rs H
set_option maxHeartbeats 8000000 in
set_option maxRecDepth 20000 in
theorem q_X3_callAt (l : Launch) (dC : Nat → ClassId) (dI : Nat → Nat → Nat) (z : Nat) (mi : Nat) (A : Nat → Prop) (bs : Nat) (cp : Nat) (h0 : Nat) (la : Nat → Nat) (sA : Nat → Nat) (cA : Nat → Nat) (ns : Nat) (nc : Nat) (dr : Nat → Prop) (X : Nat → Int32) (P : Nat → Prop) (tr : Nat → Int32) (nl : Nat) (nq : Nat) (rs : Nat) (a1 : Int32) : Met l yX3_callAt (cws yX3_callAt cX3_callAt 2 (some (.object "FrontDoor$Call"))) { frames := 3, cells := 0, slots := 0, locals := 64 } (va_Pc [.ref h0, .int a1] (fun U => KZ dC dI z mi A U ∧ Cw dC dI z A bs cp h0 la sA cA ns nc dr X P tr nl nq rs U.heap)) (Qg (B_q_X3_callAt dC dI z mi A bs cp h0 la sA cA ns nc dr X P tr nl nq rs a1) A) 0 0 A := by
  refine m_start (KK := KZ dC dI z mi A) (Pw := Cw dC dI z A bs cp h0 la sA cA ns nc dr X P tr nl nq rs) (by decide) (Nat.le_of_ble_eq_true rfl) ?_
  intro p e s m below meth c ls S hr hlocks hin hKZ hW hS hl
  obtain ⟨hx, hb, hml, hown, hts⟩ := id S
  have hK := hKZ.1
  obtain ⟨hns, hnc, hnl, ag, hag, hXg, hnq⟩ := id hW.2.2.2.2.2.2
  have hl : lv_has ls 2 [(0, .ref h0), (1, .int a1)] := hl
  refine lv_iload_n hx hb dX3_callAt_0 rfl (lv_at hl 1 rfl) ?_
  refine lv_if_lt (tgt := 15) hx hb dX3_callAt_1 (by decide) (fun c_1 => ?_) (fun c_1 => ?_)
  · skip
    have i_1 : a1.toInt < 0 := by have h9 := pz_lt c_1; exact h9
    refine lv_null hx hb dX3_callAt_15 ?_
    refine lv_goto (tgt := 30) hx hb dX3_callAt_16 (by decide) ?_
    exact r_a (o := none) hx hb hr (Or.inl ⟨_, rfl⟩) hlocks hS dX3_callAt_30 (⟨none, rfl, Or.inl ⟨rfl, by omega⟩, hW⟩)
  · skip
    have i_1 : a1.toInt ≥ 0 := by have h9 := pz_nlt c_1; exact h9
    refine lv_iload_n hx hb dX3_callAt_4 rfl (lv_at hl 1 rfl) ?_
    refine lv_aload_n hx hb dX3_callAt_5 rfl (lv_at hl 0 rfl) ?_
    refine D_getl S hK hW 1 (by decide) (fun _ => rfl) iw_106 rfl dX3_callAt_6 ?_
    refine L_size (rest := [.int a1]) S hKZ hW hS (i := 1) (by decide) hl.1 (Nat.le_of_ble_eq_true rfl) dX3_callAt_9 ⟨Nat.le_of_ble_eq_true rfl, Nat.le_of_ble_eq_true rfl⟩ ⟨Nat.le_refl _, Nat.le_refl _⟩ (fun H locs hW hS => ?_)
    refine W.eq (g2 := F0 m 12 ls [.int (nI nc), .int a1]) rfl ?_
    obtain ⟨hns, hnc, hnl, ag_3, hag_3, -, hnq⟩ := id hW.2.2.2.2.2.2
    have en_4 : (nI nc).toInt = ((nc : Nat) : Int) := pz_ti (by omega)
    refine lv_icmp_lt (tgt := 19) hx hb dX3_callAt_12 (by decide) (fun c_5 => ?_) (fun c_5 => ?_)
    · skip
      have i_5 : a1.toInt < (nI nc).toInt := by have h9 := pz_lt c_5; exact h9
      refine lv_aload_n hx hb dX3_callAt_19 rfl (lv_at hl 0 rfl) ?_
      refine D_getl S hK hW 1 (by decide) (fun _ => rfl) iw_106 rfl dX3_callAt_20 ?_
      refine lv_iload_n hx hb dX3_callAt_23 rfl (lv_at hl 1 rfl) ?_
      obtain ⟨j_7, hj_7, ej_7⟩ := pz_of (x := a1) (n := nc) (by omega) (by omega)
      subst ej_7
      have en_8 : (nI j_7).toInt = ((j_7 : Nat) : Int) := pz_ti (by omega)
      refine L_get (rest := []) S hKZ hW hS (i := 1) (t := j_7) (by decide) (by show j_7 < nc; omega) hl.1 (Nat.le_of_ble_eq_true rfl) dX3_callAt_24 ⟨Nat.le_of_ble_eq_true rfl, Nat.le_of_ble_eq_true rfl⟩ ⟨Nat.le_refl _, Nat.le_refl _⟩ (fun r_7 H locs hr_7 hW hS => ?_)
      obtain rfl : r_7 = cA j_7 := hr_7
      refine C_cast S hK hW (k := j_7) (by omega) iw_351 dX3_callAt_27 ?_
      exact r_a (o := some (cA j_7)) hx hb hr (Or.inl ⟨_, rfl⟩) hlocks hS dX3_callAt_30 (⟨_, rfl, Or.inr ⟨j_7, by omega, rfl, rfl⟩, hW⟩)
    · skip
      have i_5 : a1.toInt ≥ (nI nc).toInt := by have h9 := pz_nlt c_5; exact h9
      refine lv_null hx hb dX3_callAt_15 ?_
      refine lv_goto (tgt := 30) hx hb dX3_callAt_16 (by decide) ?_
      exact r_a (o := none) hx hb hr (Or.inl ⟨_, rfl⟩) hlocks hS dX3_callAt_30 (⟨none, rfl, Or.inl ⟨rfl, by omega⟩, hW⟩)

abbrev B_q_X3_refuse (dC : Nat → ClassId) (dI : Nat → Nat → Nat) (z : Nat) (mi : Nat) (A : Nat → Prop) (bs : Nat) (cp : Nat) (h0 : Nat) (la : Nat → Nat) (sA : Nat → Nat) (cA : Nat → Nat) (ns : Nat) (nc : Nat) (dr : Nat → Prop) (X : Nat → Int32) (P : Nat → Prop) (tr : Nat → Int32) (nl : Nat) (nq : Nat) (rs : Nat) (cd : Int32) : Option Value → Heap → Prop := fun v H => ∃ r : Int32, v = some (.int r) ∧ r = cd ∧ Cw dC dI z A bs cp h0 la sA cA ns nc dr X P tr nl nq rs H
set_option maxHeartbeats 8000000 in
set_option maxRecDepth 20000 in
theorem q_X3_refuse (l : Launch) (dC : Nat → ClassId) (dI : Nat → Nat → Nat) (z : Nat) (mi : Nat) (A : Nat → Prop) (bs : Nat) (cp : Nat) (h0 : Nat) (la : Nat → Nat) (sA : Nat → Nat) (cA : Nat → Nat) (ns : Nat) (nc : Nat) (dr : Nat → Prop) (X : Nat → Int32) (P : Nat → Prop) (tr : Nat → Int32) (nl : Nat) (nq : Nat) (rs : Nat) (cd : Int32) : Met l yX3_refuse (cws yX3_refuse cX3_refuse 3 (some .int)) { frames := 0, cells := 0, slots := 0, locals := 0 } (va_Pc [.ref h0, .int cd] (fun U => KZ dC dI z mi A U ∧ Cw dC dI z A bs cp h0 la sA cA ns nc dr X P tr nl nq rs U.heap)) (Qg (B_q_X3_refuse dC dI z mi A bs cp h0 la sA cA ns nc dr X P tr nl nq rs cd) A) 0 0 A := by
  refine m_start (KK := KZ dC dI z mi A) (Pw := Cw dC dI z A bs cp h0 la sA cA ns nc dr X P tr nl nq rs) (by decide) (Nat.le_of_ble_eq_true rfl) ?_
  intro p e s m below meth c ls S hr hlocks hin hKZ hW hS hl
  obtain ⟨hx, hb, hml, hown, hts⟩ := id S
  have hK := hKZ.1
  obtain ⟨hns, hnc, hnl, ag, hag, hXg, hnq⟩ := id hW.2.2.2.2.2.2
  have hl : lv_has ls 3 [(0, .ref h0), (1, .int cd)] := hl
  refine lv_iload_n hx hb dX3_refuse_0 rfl (lv_at hl 1 rfl) ?_
  refine lv_ineg hx hb dX3_refuse_1 ?_
  refine lv_istore_n (lv' := [(2, .int (-cd)), (0, .ref h0), (1, .int cd)]) hx hb dX3_refuse_2 rfl hl (by decide) rfl (fun ls hl => ?_)
  refine lv_iload_n hx hb dX3_refuse_3 rfl (lv_at hl 0 rfl) ?_
  refine lv_if_lt (tgt := 26) hx hb dX3_refuse_4 (by decide) (fun c_1 => ?_) (fun c_1 => ?_)
  · skip
    have i_1 : (-cd).toInt < 0 := by have h9 := pz_lt c_1; exact h9
    refine lv_iload_n hx hb dX3_refuse_26 rfl (lv_at hl 2 rfl) ?_
    exact r_i (v := cd) hx hb hr hlocks hS dX3_refuse_27 (⟨_, rfl, rfl, hW⟩)
  · skip
    have i_1 : (-cd).toInt ≥ 0 := by have h9 := pz_nlt c_1; exact h9
    refine lv_iload_n hx hb dX3_refuse_7 rfl (lv_at hl 0 rfl) ?_
    refine lv_aload_n hx hb dX3_refuse_8 rfl (lv_at hl 1 rfl) ?_
    refine D_getl S hK hW 4 (by decide) (fun _ => rfl) iw_109 rfl dX3_refuse_9 ?_
    refine R_len hx hb hK hW dX3_refuse_12 ?_
    refine lv_icmp_ge (tgt := 26) hx hb dX3_refuse_13 (by decide) (fun c_4 => ?_) (fun c_4 => ?_)
    · skip
      have i_4 : (-cd).toInt ≥ 7 := by have h9 := pz_ge c_4; exact h9
      refine lv_iload_n hx hb dX3_refuse_26 rfl (lv_at hl 2 rfl) ?_
      exact r_i (v := cd) hx hb hr hlocks hS dX3_refuse_27 (⟨_, rfl, rfl, hW⟩)
    · skip
      have i_4 : (-cd).toInt < 7 := by have h9 := pz_nge c_4; exact h9
      refine lv_aload_n hx hb dX3_refuse_16 rfl (lv_at hl 1 rfl) ?_
      refine D_getl S hK hW 4 (by decide) (fun _ => rfl) iw_109 rfl dX3_refuse_17 ?_
      refine lv_iload_n hx hb dX3_refuse_20 rfl (lv_at hl 0 rfl) ?_
      refine lv_dup2_11 hx hb dX3_refuse_21 rfl rfl ?_
      refine R_ld hx hb hK hW (vp_in_iff.mpr ⟨by omega, by omega⟩) dX3_refuse_22 (fun x_6 => ?_)
      refine lv_iconst (v := 1) hx hb dX3_refuse_23 (by decide) ?_
      refine lv_iadd hx hb dX3_refuse_24 ?_
      refine lv_topi (fun x_7 _ => ?_)
      refine R_st hx hb hK hW hS (vp_in_iff.mpr ⟨by omega, by omega⟩) dX3_refuse_25 (fun H locs hW hS => ?_)
      refine lv_iload_n hx hb dX3_refuse_26 rfl (lv_at hl 2 rfl) ?_
      exact r_i (v := cd) hx hb hr hlocks hS dX3_refuse_27 (⟨_, rfl, rfl, hW⟩)

abbrev B_q_X3_faultOf (A : Nat → Prop) (Pw : Heap → Prop) (a1 : Int32) (a2 : Int32) (a3 : Int32) : Option Value → Heap → Prop := fun v H => ∃ r : Int32, v = some (.int r) ∧ ((a1.toInt < a2.toInt ∧ r = -4) ∨ (a2.toInt ≤ a1.toInt ∧ a3.toInt < a1.toInt ∧ r = -6) ∨ (a2.toInt ≤ a1.toInt ∧ a1.toInt ≤ a3.toInt ∧ r = 0)) ∧ Pw H
set_option maxHeartbeats 8000000 in
set_option maxRecDepth 20000 in
theorem q_X3_faultOf (l : Launch) (A : Nat → Prop) (Pw : Heap → Prop) (a1 : Int32) (a2 : Int32) (a3 : Int32) : Met l yX3_faultOf (cws yX3_faultOf cX3_faultOf 3 (some .int)) { frames := 0, cells := 0, slots := 0, locals := 0 } (va_Pc [.int a1, .int a2, .int a3] (fun U => True ∧ Pw U.heap)) (Qg (B_q_X3_faultOf A Pw a1 a2 a3) A) 0 0 A := by
  refine m_start (KK := fun _ => True) (Pw := Pw) (by decide) (Nat.le_of_ble_eq_true rfl) ?_
  intro p e s m below meth c ls S hr hlocks hin hKZ hW hS hl
  obtain ⟨hx, hb, hml, hown, hts⟩ := id S
  have hl : lv_has ls 3 [(0, .int a1), (1, .int a2), (2, .int a3)] := hl
  refine lv_iload_n hx hb dX3_faultOf_0 rfl (lv_at hl 0 rfl) ?_
  refine lv_iload_n hx hb dX3_faultOf_1 rfl (lv_at hl 1 rfl) ?_
  refine lv_icmp_ge (tgt := 10) hx hb dX3_faultOf_2 (by decide) (fun c_1 => ?_) (fun c_1 => ?_)
  · skip
    have i_1 : a1.toInt ≥ a2.toInt := by have h9 := pz_ge c_1; exact h9
    refine lv_iload_n hx hb dX3_faultOf_10 rfl (lv_at hl 0 rfl) ?_
    refine lv_iload_n hx hb dX3_faultOf_11 rfl (lv_at hl 2 rfl) ?_
    refine lv_icmp_le (tgt := 20) hx hb dX3_faultOf_12 (by decide) (fun c_2 => ?_) (fun c_2 => ?_)
    · skip
      have i_2 : a1.toInt ≤ a3.toInt := by have h9 := pz_le c_2; exact h9
      refine lv_iconst (v := 0) hx hb dX3_faultOf_20 (by decide) ?_
      exact r_i (v := 0) hx hb hr hlocks hS dX3_faultOf_21 (⟨_, rfl, Or.inr (Or.inr ⟨by omega, by omega, rfl⟩), hW⟩)
    · skip
      have i_2 : a1.toInt > a3.toInt := by have h9 := pz_nle c_2; exact h9
      refine lv_bipush (v := (-6)) hx hb dX3_faultOf_15 (by decide) ?_
      refine lv_goto (tgt := 21) hx hb dX3_faultOf_17 (by decide) ?_
      exact r_i (v := (-6)) hx hb hr hlocks hS dX3_faultOf_21 (⟨_, rfl, Or.inr (Or.inl ⟨by omega, by omega, rfl⟩), hW⟩)
  · skip
    have i_1 : a1.toInt < a2.toInt := by have h9 := pz_nge c_1; exact h9
    refine lv_bipush (v := (-4)) hx hb dX3_faultOf_5 (by decide) ?_
    refine lv_goto (tgt := 21) hx hb dX3_faultOf_7 (by decide) ?_
    exact r_i (v := (-4)) hx hb hr hlocks hS dX3_faultOf_21 (⟨_, rfl, Or.inl ⟨by omega, rfl⟩, hW⟩)

abbrev B_q_X3_leastOf (A : Nat → Prop) (Pw : Heap → Prop) (a1 : Int32) : Option Value → Heap → Prop := fun v H => ∃ r : Int32, v = some (.int r) ∧ Pw H
set_option maxHeartbeats 8000000 in
set_option maxRecDepth 20000 in
theorem q_X3_leastOf (l : Launch) (A : Nat → Prop) (Pw : Heap → Prop) (a1 : Int32) : Met l yX3_leastOf (cws yX3_leastOf cX3_leastOf 1 (some .int)) { frames := 0, cells := 0, slots := 0, locals := 0 } (va_Pc [.int a1] (fun U => True ∧ Pw U.heap)) (Qg (B_q_X3_leastOf A Pw a1) A) 0 0 A := by
  refine m_start (KK := fun _ => True) (Pw := Pw) (by decide) (Nat.le_of_ble_eq_true rfl) ?_
  intro p e s m below meth c ls S hr hlocks hin hKZ hW hS hl
  obtain ⟨hx, hb, hml, hown, hts⟩ := id S
  have hl : lv_has ls 1 [(0, .int a1)] := hl
  refine lv_iload_n hx hb dX3_leastOf_0 rfl (lv_at hl 0 rfl) ?_
  refine lv_iconst (v := 2) hx hb dX3_leastOf_1 (by decide) ?_
  refine lv_icmp_gt (tgt := 9) hx hb dX3_leastOf_2 (by decide) (fun c_1 => ?_) (fun c_1 => ?_)
  · skip
    have i_1 : a1.toInt > 2 := by have h9 := pz_gt c_1; exact h9
    refine lv_iconst (v := 0) hx hb dX3_leastOf_9 (by decide) ?_
    exact r_i (v := 0) hx hb hr hlocks hS dX3_leastOf_10 (⟨_, rfl, hW⟩)
  · skip
    have i_1 : a1.toInt ≤ 2 := by have h9 := pz_ngt c_1; exact h9
    refine lv_iconst (v := 1) hx hb dX3_leastOf_5 (by decide) ?_
    refine lv_goto (tgt := 10) hx hb dX3_leastOf_6 (by decide) ?_
    exact r_i (v := 1) hx hb hr hlocks hS dX3_leastOf_10 (⟨_, rfl, hW⟩)

abbrev B_q_X3_greatestOf (A : Nat → Prop) (Pw : Heap → Prop) (a1 : Int32) : Option Value → Heap → Prop := fun v H => ∃ r : Int32, v = some (.int r) ∧ Pw H
set_option maxHeartbeats 8000000 in
set_option maxRecDepth 20000 in
theorem q_X3_greatestOf (l : Launch) (A : Nat → Prop) (Pw : Heap → Prop) (a1 : Int32) : Met l yX3_greatestOf (cws yX3_greatestOf cX3_greatestOf 1 (some .int)) { frames := 0, cells := 0, slots := 0, locals := 0 } (va_Pc [.int a1] (fun U => True ∧ Pw U.heap)) (Qg (B_q_X3_greatestOf A Pw a1) A) 0 0 A := by
  refine m_start (KK := fun _ => True) (Pw := Pw) (by decide) (Nat.le_of_ble_eq_true rfl) ?_
  intro p e s m below meth c ls S hr hlocks hin hKZ hW hS hl
  obtain ⟨hx, hb, hml, hown, hts⟩ := id S
  have hl : lv_has ls 1 [(0, .int a1)] := hl
  refine lv_iload_n hx hb dX3_greatestOf_0 rfl (lv_at hl 0 rfl) ?_
  by_cases t_1 : a1.toInt < 0 ∨ 3 < a1.toInt
  · skip
    refine lv_tableOut (tgt := 45) hx hb dX3_greatestOf_1 t_1 (by decide) ?_
    refine lv_iconst (v := 1) hx hb dX3_greatestOf_45 (by decide) ?_
    exact r_i (v := 1) hx hb hr hlocks hS dX3_greatestOf_46 (⟨_, rfl, hW⟩)
  · skip
    obtain ⟨j_1, hj_1, ej_1⟩ := pz_of (x := a1) (n := 4) (by omega) (by omega)
    have oj_1 : j_1 = 0 ∨ j_1 = 1 ∨ j_1 = 2 ∨ j_1 = 3 := by omega
    rcases oj_1 with h9 | h9 | h9 | h9
    · skip
      have e9 : a1 = 0 := by rw [ej_1, h9]; rfl
      subst e9
      refine lv_tableIn (off := 31) (tgt := 32) hx hb dX3_greatestOf_1 (by decide) (by decide) (by decide) (by decide) ?_
      refine lv_bipush (v := 100) hx hb dX3_greatestOf_32 (by decide) ?_
      exact r_i (v := 100) hx hb hr hlocks hS dX3_greatestOf_34 (⟨_, rfl, hW⟩)
    · skip
      have e9 : a1 = 1 := by rw [ej_1, h9]; rfl
      subst e9
      refine lv_tableIn (off := 34) (tgt := 35) hx hb dX3_greatestOf_1 (by decide) (by decide) (by decide) (by decide) ?_
      refine lv_bipush (v := 20) hx hb dX3_greatestOf_35 (by decide) ?_
      exact r_i (v := 20) hx hb hr hlocks hS dX3_greatestOf_37 (⟨_, rfl, hW⟩)
    · skip
      have e9 : a1 = 2 := by rw [ej_1, h9]; rfl
      subst e9
      refine lv_tableIn (off := 37) (tgt := 38) hx hb dX3_greatestOf_1 (by decide) (by decide) (by decide) (by decide) ?_
      refine lv_sipush (v := 200) hx hb dX3_greatestOf_38 (by decide) ?_
      exact r_i (v := 200) hx hb hr hlocks hS dX3_greatestOf_41 (⟨_, rfl, hW⟩)
    · skip
      have e9 : a1 = 3 := by rw [ej_1, h9]; rfl
      subst e9
      refine lv_tableIn (off := 41) (tgt := 42) hx hb dX3_greatestOf_1 (by decide) (by decide) (by decide) (by decide) ?_
      refine lv_bipush (v := 20) hx hb dX3_greatestOf_42 (by decide) ?_
      exact r_i (v := 20) hx hb hr hlocks hS dX3_greatestOf_44 (⟨_, rfl, hW⟩)

abbrev B_q_X3_callsThatAre (dC : Nat → ClassId) (dI : Nat → Nat → Nat) (z : Nat) (mi : Nat) (A : Nat → Prop) (bs : Nat) (cp : Nat) (h0 : Nat) (la : Nat → Nat) (sA : Nat → Nat) (cA : Nat → Nat) (ns : Nat) (nc : Nat) (dr : Nat → Prop) (X : Nat → Int32) (P : Nat → Prop) (tr : Nat → Int32) (nl : Nat) (nq : Nat) (rs : Nat) (a1 : Int32) : Option Value → Heap → Prop := fun v H => ∃ r : Int32, v = some (.int r) ∧ Cw dC dI z A bs cp h0 la sA cA ns nc dr X P tr nl nq rs H
set_option maxHeartbeats 8000000 in
set_option maxRecDepth 20000 in
theorem q_X3_callsThatAre (l : Launch) (dC : Nat → ClassId) (dI : Nat → Nat → Nat) (z : Nat) (mi : Nat) (A : Nat → Prop) (bs : Nat) (cp : Nat) (h0 : Nat) (la : Nat → Nat) (sA : Nat → Nat) (cA : Nat → Nat) (ns : Nat) (nc : Nat) (dr : Nat → Prop) (X : Nat → Int32) (P : Nat → Prop) (tr : Nat → Int32) (nl : Nat) (nq : Nat) (rs : Nat) (a1 : Int32) : Met l yX3_callsThatAre (cws yX3_callsThatAre cX3_callsThatAre 4 (some .int)) { frames := 3, cells := 0, slots := 0, locals := 64 } (va_Pc [.ref h0, .int a1] (fun U => KZ dC dI z mi A U ∧ Cw dC dI z A bs cp h0 la sA cA ns nc dr X P tr nl nq rs U.heap)) (Qg (B_q_X3_callsThatAre dC dI z mi A bs cp h0 la sA cA ns nc dr X P tr nl nq rs a1) A) 0 0 A := by
  refine m_start (KK := KZ dC dI z mi A) (Pw := Cw dC dI z A bs cp h0 la sA cA ns nc dr X P tr nl nq rs) (by decide) (Nat.le_of_ble_eq_true rfl) ?_
  intro p e s m below meth c ls S hr hlocks hin hKZ hW hS hl
  obtain ⟨hx, hb, hml, hown, hts⟩ := id S
  have hK := hKZ.1
  obtain ⟨hns, hnc, hnl, ag, hag, hXg, hnq⟩ := id hW.2.2.2.2.2.2
  have hl : lv_has ls 4 [(0, .ref h0), (1, .int a1)] := hl
  refine lv_iconst (v := 0) hx hb dX3_callsThatAre_0 (by decide) ?_
  refine lv_istore_n (lv' := [(2, .int 0), (0, .ref h0), (1, .int a1)]) hx hb dX3_callsThatAre_1 rfl hl (by decide) rfl (fun ls hl => ?_)
  refine lv_iconst (v := 0) hx hb dX3_callsThatAre_2 (by decide) ?_
  refine lv_istore_n (lv' := [(3, .int 0), (2, .int 0), (0, .ref h0), (1, .int a1)]) hx hb dX3_callsThatAre_3 rfl hl (by decide) rfl (fun ls hl => ?_)
  have loop_B4 : ∀ (k9 : Nat) (j : Nat) (n2 : Int32) (H : Heap) (locs : List Loc) (ls : Array Slot), nc - j = k9 → (j ≤ nc) → Cw dC dI z A bs cp h0 la sA cA ns nc dr X P tr nl nq rs H → va_S A s.heap H locs → lv_has ls 4 [(0, .ref h0), (1, .int a1), (2, .int n2), (3, .int (nI j))] → W p l e { frames := 3, cells := 0, slots := 0, locals := 64 } s m ([.ref h0, .int a1] : List Value).toArray below meth c H locs 0 0 (MQ below (Qg (B_q_X3_callsThatAre dC dI z mi A bs cp h0 la sA cA ns nc dr X P tr nl nq rs a1) A) ([.ref h0, .int a1] : List Value).toArray s 0 0 A) (F0 m 4 ls []) := by
    intro k9
    induction k9 using Nat.strongRecOn with
    | ind k9 ih_B4 =>
      intro j n2 H locs ls hm_B4 hle_j hW hS hl
      have en_j : (nI j).toInt = ((j : Nat) : Int) := pz_ti (by omega)
      refine lv_iload_n hx hb dX3_callsThatAre_4 rfl (lv_at hl 3 rfl) ?_
      refine lv_aload_n hx hb dX3_callsThatAre_5 rfl (lv_at hl 0 rfl) ?_
      refine D_getl S hK hW 1 (by decide) (fun _ => rfl) iw_106 rfl dX3_callsThatAre_6 ?_
      refine L_size (rest := [.int (nI j)]) S hKZ hW hS (i := 1) (by decide) hl.1 (Nat.le_of_ble_eq_true rfl) dX3_callsThatAre_9 ⟨Nat.le_of_ble_eq_true rfl, Nat.le_of_ble_eq_true rfl⟩ ⟨Nat.le_refl _, Nat.le_refl _⟩ (fun H locs hW hS => ?_)
      refine W.eq (g2 := F0 m 12 ls [.int (nI nc), .int (nI j)]) rfl ?_
      obtain ⟨hns, hnc, hnl, ag_2, hag_2, -, hnq⟩ := id hW.2.2.2.2.2.2
      have en_3 : (nI nc).toInt = ((nc : Nat) : Int) := pz_ti (by omega)
      refine lv_icmp_ge (tgt := 42) hx hb dX3_callsThatAre_12 (by decide) (fun c_4 => ?_) (fun c_4 => ?_)
      · skip
        have i_4 : (nI j).toInt ≥ (nI nc).toInt := by have h9 := pz_ge c_4; exact h9
        refine lv_iload_n hx hb dX3_callsThatAre_42 rfl (lv_at hl 2 rfl) ?_
        exact r_i (v := n2) hx hb hr hlocks hS dX3_callsThatAre_43 (⟨_, rfl, hW⟩)
      · skip
        have i_4 : (nI j).toInt < (nI nc).toInt := by have h9 := pz_nge c_4; exact h9
        refine lv_aload_n hx hb dX3_callsThatAre_15 rfl (lv_at hl 0 rfl) ?_
        refine D_getl S hK hW 1 (by decide) (fun _ => rfl) iw_106 rfl dX3_callsThatAre_16 ?_
        refine lv_iload_n hx hb dX3_callsThatAre_19 rfl (lv_at hl 3 rfl) ?_
        refine L_get (rest := []) S hKZ hW hS (i := 1) (t := j) (by decide) (by show j < nc; omega) hl.1 (Nat.le_of_ble_eq_true rfl) dX3_callsThatAre_20 ⟨Nat.le_of_ble_eq_true rfl, Nat.le_of_ble_eq_true rfl⟩ ⟨Nat.le_refl _, Nat.le_refl _⟩ (fun r_6 H locs hr_6 hW hS => ?_)
        obtain rfl : r_6 = cA j := hr_6
        refine C_cast S hK hW (k := j) (by omega) iw_351 dX3_callsThatAre_23 ?_
        obtain ⟨-, y_8, p_8, q_8, hc_8, ⟨h0_8, h7_8⟩, hp_8, hq_8⟩ := hW.2.2.2.1 j (by omega)
        refine C_gp (v := .int (y_8 6)) S hK hc_8 6 (by decide) rfl iw_368 rfl dX3_callsThatAre_26 ?_
        refine lv_iload_n hx hb dX3_callsThatAre_29 rfl (lv_at hl 1 rfl) ?_
        refine lv_icmp_ne (tgt := 36) hx hb dX3_callsThatAre_30 (by decide) (fun c_9 => ?_) (fun c_9 => ?_)
        · skip
          have i_9 : ¬ (y_8 6).toInt = a1.toInt := by have h9 := pz_neq c_9; exact h9
          obtain ⟨y_10, ey_10⟩ : ∃ y : Int32, y = (nI j) + 1 := ⟨_, rfl⟩
          refine lv_iinc (v := y_10) (lv' := [(3, .int y_10), (0, .ref h0), (1, .int a1), (2, .int n2)]) hx hb dX3_callsThatAre_36 hl (k := 3) rfl (by rw [ey_10]; rfl) (by decide) rfl (fun ls hl => ?_)
          obtain rfl : y_10 = nI (j + 1) := ey_10.trans (nI_1 j)
          have en_11 : (nI (j + 1)).toInt = ((j + 1 : Nat) : Int) := pz_ti (by omega)
          refine lv_goto (tgt := 4) hx hb dX3_callsThatAre_39 (by decide) ?_
          exact ih_B4 _ (by omega) (j + 1) n2 _ _ ls rfl (by omega) hW hS (lv_sub hl [1, 2, 3, 0] rfl)
        · skip
          have i_9 : (y_8 6).toInt = a1.toInt := by have h9 := pz_eq c_9; exact h9
          obtain ⟨y_12, ey_12⟩ : ∃ y : Int32, y = n2 + 1 := ⟨_, rfl⟩
          refine lv_iinc (v := y_12) (lv' := [(2, .int y_12), (0, .ref h0), (1, .int a1), (3, .int (nI j))]) hx hb dX3_callsThatAre_33 hl (k := 2) rfl (by rw [ey_12]; rfl) (by decide) rfl (fun ls hl => ?_)
          obtain ⟨y_13, ey_13⟩ : ∃ y : Int32, y = (nI j) + 1 := ⟨_, rfl⟩
          refine lv_iinc (v := y_13) (lv' := [(3, .int y_13), (2, .int y_12), (0, .ref h0), (1, .int a1)]) hx hb dX3_callsThatAre_36 hl (k := 3) rfl (by rw [ey_13]; rfl) (by decide) rfl (fun ls hl => ?_)
          obtain rfl : y_13 = nI (j + 1) := ey_13.trans (nI_1 j)
          have en_14 : (nI (j + 1)).toInt = ((j + 1 : Nat) : Int) := pz_ti (by omega)
          refine lv_goto (tgt := 4) hx hb dX3_callsThatAre_39 (by decide) ?_
          exact ih_B4 _ (by omega) (j + 1) y_12 _ _ ls rfl (by omega) hW hS (lv_sub hl [2, 3, 1, 0] rfl)
  exact loop_B4 _ 0 0 _ _ ls rfl (by omega) hW hS (lv_sub hl [2, 3, 1, 0] rfl)

abbrev B_q_X3_askingsSoFar (dC : Nat → ClassId) (dI : Nat → Nat → Nat) (z : Nat) (mi : Nat) (A : Nat → Prop) (bs : Nat) (cp : Nat) (h0 : Nat) (la : Nat → Nat) (sA : Nat → Nat) (cA : Nat → Nat) (ns : Nat) (nc : Nat) (dr : Nat → Prop) (X : Nat → Int32) (P : Nat → Prop) (tr : Nat → Int32) (nl : Nat) (nq : Nat) (rs : Nat) : Option Value → Heap → Prop := fun v H => ∃ r : Int32, v = some (.int r) ∧ Cw dC dI z A bs cp h0 la sA cA ns nc dr X P tr nl nq rs H
set_option maxHeartbeats 8000000 in
set_option maxRecDepth 20000 in
theorem q_X3_askingsSoFar (l : Launch) (dC : Nat → ClassId) (dI : Nat → Nat → Nat) (z : Nat) (mi : Nat) (A : Nat → Prop) (bs : Nat) (cp : Nat) (h0 : Nat) (la : Nat → Nat) (sA : Nat → Nat) (cA : Nat → Nat) (ns : Nat) (nc : Nat) (dr : Nat → Prop) (X : Nat → Int32) (P : Nat → Prop) (tr : Nat → Int32) (nl : Nat) (nq : Nat) (rs : Nat) : Met l yX3_askingsSoFar (cws yX3_askingsSoFar cX3_askingsSoFar 3 (some .int)) { frames := 3, cells := 0, slots := 0, locals := 64 } (va_Pc [.ref h0] (fun U => KZ dC dI z mi A U ∧ Cw dC dI z A bs cp h0 la sA cA ns nc dr X P tr nl nq rs U.heap)) (Qg (B_q_X3_askingsSoFar dC dI z mi A bs cp h0 la sA cA ns nc dr X P tr nl nq rs) A) 0 0 A := by
  refine m_start (KK := KZ dC dI z mi A) (Pw := Cw dC dI z A bs cp h0 la sA cA ns nc dr X P tr nl nq rs) (by decide) (Nat.le_of_ble_eq_true rfl) ?_
  intro p e s m below meth c ls S hr hlocks hin hKZ hW hS hl
  obtain ⟨hx, hb, hml, hown, hts⟩ := id S
  have hK := hKZ.1
  obtain ⟨hns, hnc, hnl, ag, hag, hXg, hnq⟩ := id hW.2.2.2.2.2.2
  have hl : lv_has ls 3 [(0, .ref h0)] := hl
  refine lv_iconst (v := 0) hx hb dX3_askingsSoFar_0 (by decide) ?_
  refine lv_istore_n (lv' := [(1, .int 0), (0, .ref h0)]) hx hb dX3_askingsSoFar_1 rfl hl (by decide) rfl (fun ls hl => ?_)
  refine lv_iconst (v := 0) hx hb dX3_askingsSoFar_2 (by decide) ?_
  refine lv_istore_n (lv' := [(2, .int 0), (1, .int 0), (0, .ref h0)]) hx hb dX3_askingsSoFar_3 rfl hl (by decide) rfl (fun ls hl => ?_)
  have loop_B4 : ∀ (k9 : Nat) (j : Nat) (n1 : Int32) (H : Heap) (locs : List Loc) (ls : Array Slot), ns - j = k9 → (j ≤ ns) → Cw dC dI z A bs cp h0 la sA cA ns nc dr X P tr nl nq rs H → va_S A s.heap H locs → lv_has ls 3 [(0, .ref h0), (1, .int n1), (2, .int (nI j))] → W p l e { frames := 3, cells := 0, slots := 0, locals := 64 } s m ([.ref h0] : List Value).toArray below meth c H locs 0 0 (MQ below (Qg (B_q_X3_askingsSoFar dC dI z mi A bs cp h0 la sA cA ns nc dr X P tr nl nq rs) A) ([.ref h0] : List Value).toArray s 0 0 A) (F0 m 4 ls []) := by
    intro k9
    induction k9 using Nat.strongRecOn with
    | ind k9 ih_B4 =>
      intro j n1 H locs ls hm_B4 hle_j hW hS hl
      have en_j : (nI j).toInt = ((j : Nat) : Int) := pz_ti (by omega)
      refine lv_iload_n hx hb dX3_askingsSoFar_4 rfl (lv_at hl 2 rfl) ?_
      refine lv_aload_n hx hb dX3_askingsSoFar_5 rfl (lv_at hl 0 rfl) ?_
      refine D_getl S hK hW 0 (by decide) (fun _ => rfl) iw_105 rfl dX3_askingsSoFar_6 ?_
      refine L_size (rest := [.int (nI j)]) S hKZ hW hS (i := 0) (by decide) hl.1 (Nat.le_of_ble_eq_true rfl) dX3_askingsSoFar_9 ⟨Nat.le_of_ble_eq_true rfl, Nat.le_of_ble_eq_true rfl⟩ ⟨Nat.le_refl _, Nat.le_refl _⟩ (fun H locs hW hS => ?_)
      refine W.eq (g2 := F0 m 12 ls [.int (nI ns), .int (nI j)]) rfl ?_
      obtain ⟨hns, hnc, hnl, ag_2, hag_2, -, hnq⟩ := id hW.2.2.2.2.2.2
      have en_3 : (nI ns).toInt = ((ns : Nat) : Int) := pz_ti (by omega)
      refine lv_icmp_ge (tgt := 38) hx hb dX3_askingsSoFar_12 (by decide) (fun c_4 => ?_) (fun c_4 => ?_)
      · skip
        have i_4 : (nI j).toInt ≥ (nI ns).toInt := by have h9 := pz_ge c_4; exact h9
        refine lv_iload_n hx hb dX3_askingsSoFar_38 rfl (lv_at hl 1 rfl) ?_
        exact r_i (v := n1) hx hb hr hlocks hS dX3_askingsSoFar_39 (⟨_, rfl, hW⟩)
      · skip
        have i_4 : (nI j).toInt < (nI ns).toInt := by have h9 := pz_nge c_4; exact h9
        refine lv_iload_n hx hb dX3_askingsSoFar_15 rfl (lv_at hl 1 rfl) ?_
        refine lv_aload_n hx hb dX3_askingsSoFar_16 rfl (lv_at hl 0 rfl) ?_
        refine D_getl S hK hW 0 (by decide) (fun _ => rfl) iw_105 rfl dX3_askingsSoFar_17 ?_
        refine lv_iload_n hx hb dX3_askingsSoFar_20 rfl (lv_at hl 2 rfl) ?_
        refine L_get (rest := [.int n1]) S hKZ hW hS (i := 0) (t := j) (by decide) (by show j < ns; omega) hl.1 (Nat.le_of_ble_eq_true rfl) dX3_askingsSoFar_21 ⟨Nat.le_of_ble_eq_true rfl, Nat.le_of_ble_eq_true rfl⟩ ⟨Nat.le_refl _, Nat.le_refl _⟩ (fun r_6 H locs hr_6 hW hS => ?_)
        obtain rfl : r_6 = sA j := hr_6
        refine S_cast S hK hW (k := j) (by omega) iw_158 dX3_askingsSoFar_24 ?_
        obtain ⟨-, x_8, hc_8, h0_8, hd_8⟩ := hW.2.2.1 j (by omega)
        refine S_gp S hK hc_8 9 (by decide) (fun _ => rfl) iw_181 rfl dX3_askingsSoFar_27 ?_
        refine lv_iadd hx hb dX3_askingsSoFar_30 ?_
        refine lv_topi (fun x_9 _ => ?_)
        refine lv_istore_n (lv' := [(1, .int x_9), (0, .ref h0), (2, .int (nI j))]) hx hb dX3_askingsSoFar_31 rfl hl (by decide) rfl (fun ls hl => ?_)
        obtain ⟨y_10, ey_10⟩ : ∃ y : Int32, y = (nI j) + 1 := ⟨_, rfl⟩
        refine lv_iinc (v := y_10) (lv' := [(2, .int y_10), (1, .int x_9), (0, .ref h0)]) hx hb dX3_askingsSoFar_32 hl (k := 2) rfl (by rw [ey_10]; rfl) (by decide) rfl (fun ls hl => ?_)
        obtain rfl : y_10 = nI (j + 1) := ey_10.trans (nI_1 j)
        have en_11 : (nI (j + 1)).toInt = ((j + 1 : Nat) : Int) := pz_ti (by omega)
        refine lv_goto (tgt := 4) hx hb dX3_askingsSoFar_35 (by decide) ?_
        exact ih_B4 _ (by omega) (j + 1) x_9 _ _ ls rfl (by omega) hW hS (lv_sub hl [2, 1, 0] rfl)
  exact loop_B4 _ 0 0 _ _ ls rfl (by omega) hW hS (lv_sub hl [2, 1, 0] rfl)

abbrev B_q_X3_openAskings (dC : Nat → ClassId) (dI : Nat → Nat → Nat) (z : Nat) (mi : Nat) (A : Nat → Prop) (bs : Nat) (cp : Nat) (h0 : Nat) (la : Nat → Nat) (sA : Nat → Nat) (cA : Nat → Nat) (ns : Nat) (nc : Nat) (dr : Nat → Prop) (X : Nat → Int32) (P : Nat → Prop) (tr : Nat → Int32) (nl : Nat) (nq : Nat) (rs : Nat) : Option Value → Heap → Prop := fun v H => ∃ r : Int32, v = some (.int r) ∧ Cw dC dI z A bs cp h0 la sA cA ns nc dr X P tr nl nq rs H
set_option maxHeartbeats 8000000 in
set_option maxRecDepth 20000 in
theorem q_X3_openAskings (l : Launch) (dC : Nat → ClassId) (dI : Nat → Nat → Nat) (z : Nat) (mi : Nat) (A : Nat → Prop) (bs : Nat) (cp : Nat) (h0 : Nat) (la : Nat → Nat) (sA : Nat → Nat) (cA : Nat → Nat) (ns : Nat) (nc : Nat) (dr : Nat → Prop) (X : Nat → Int32) (P : Nat → Prop) (tr : Nat → Int32) (nl : Nat) (nq : Nat) (rs : Nat) : Met l yX3_openAskings (cws yX3_openAskings cX3_openAskings 3 (some .int)) { frames := 3, cells := 0, slots := 0, locals := 64 } (va_Pc [.ref h0] (fun U => KZ dC dI z mi A U ∧ Cw dC dI z A bs cp h0 la sA cA ns nc dr X P tr nl nq rs U.heap)) (Qg (B_q_X3_openAskings dC dI z mi A bs cp h0 la sA cA ns nc dr X P tr nl nq rs) A) 0 0 A := by
  refine m_start (KK := KZ dC dI z mi A) (Pw := Cw dC dI z A bs cp h0 la sA cA ns nc dr X P tr nl nq rs) (by decide) (Nat.le_of_ble_eq_true rfl) ?_
  intro p e s m below meth c ls S hr hlocks hin hKZ hW hS hl
  obtain ⟨hx, hb, hml, hown, hts⟩ := id S
  have hK := hKZ.1
  obtain ⟨hns, hnc, hnl, ag, hag, hXg, hnq⟩ := id hW.2.2.2.2.2.2
  have hl : lv_has ls 3 [(0, .ref h0)] := hl
  refine lv_iconst (v := 0) hx hb dX3_openAskings_0 (by decide) ?_
  refine lv_istore_n (lv' := [(1, .int 0), (0, .ref h0)]) hx hb dX3_openAskings_1 rfl hl (by decide) rfl (fun ls hl => ?_)
  refine lv_iconst (v := 0) hx hb dX3_openAskings_2 (by decide) ?_
  refine lv_istore_n (lv' := [(2, .int 0), (1, .int 0), (0, .ref h0)]) hx hb dX3_openAskings_3 rfl hl (by decide) rfl (fun ls hl => ?_)
  have loop_B4 : ∀ (k9 : Nat) (j : Nat) (n1 : Int32) (H : Heap) (locs : List Loc) (ls : Array Slot), ns - j = k9 → (j ≤ ns) → Cw dC dI z A bs cp h0 la sA cA ns nc dr X P tr nl nq rs H → va_S A s.heap H locs → lv_has ls 3 [(0, .ref h0), (1, .int n1), (2, .int (nI j))] → W p l e { frames := 3, cells := 0, slots := 0, locals := 64 } s m ([.ref h0] : List Value).toArray below meth c H locs 0 0 (MQ below (Qg (B_q_X3_openAskings dC dI z mi A bs cp h0 la sA cA ns nc dr X P tr nl nq rs) A) ([.ref h0] : List Value).toArray s 0 0 A) (F0 m 4 ls []) := by
    intro k9
    induction k9 using Nat.strongRecOn with
    | ind k9 ih_B4 =>
      intro j n1 H locs ls hm_B4 hle_j hW hS hl
      have en_j : (nI j).toInt = ((j : Nat) : Int) := pz_ti (by omega)
      refine lv_iload_n hx hb dX3_openAskings_4 rfl (lv_at hl 2 rfl) ?_
      refine lv_aload_n hx hb dX3_openAskings_5 rfl (lv_at hl 0 rfl) ?_
      refine D_getl S hK hW 0 (by decide) (fun _ => rfl) iw_105 rfl dX3_openAskings_6 ?_
      refine L_size (rest := [.int (nI j)]) S hKZ hW hS (i := 0) (by decide) hl.1 (Nat.le_of_ble_eq_true rfl) dX3_openAskings_9 ⟨Nat.le_of_ble_eq_true rfl, Nat.le_of_ble_eq_true rfl⟩ ⟨Nat.le_refl _, Nat.le_refl _⟩ (fun H locs hW hS => ?_)
      refine W.eq (g2 := F0 m 12 ls [.int (nI ns), .int (nI j)]) rfl ?_
      obtain ⟨hns, hnc, hnl, ag_2, hag_2, -, hnq⟩ := id hW.2.2.2.2.2.2
      have en_3 : (nI ns).toInt = ((ns : Nat) : Int) := pz_ti (by omega)
      refine lv_icmp_ge (tgt := 38) hx hb dX3_openAskings_12 (by decide) (fun c_4 => ?_) (fun c_4 => ?_)
      · skip
        have i_4 : (nI j).toInt ≥ (nI ns).toInt := by have h9 := pz_ge c_4; exact h9
        refine lv_iload_n hx hb dX3_openAskings_38 rfl (lv_at hl 1 rfl) ?_
        exact r_i (v := n1) hx hb hr hlocks hS dX3_openAskings_39 (⟨_, rfl, hW⟩)
      · skip
        have i_4 : (nI j).toInt < (nI ns).toInt := by have h9 := pz_nge c_4; exact h9
        refine lv_iload_n hx hb dX3_openAskings_15 rfl (lv_at hl 1 rfl) ?_
        refine lv_aload_n hx hb dX3_openAskings_16 rfl (lv_at hl 0 rfl) ?_
        refine D_getl S hK hW 0 (by decide) (fun _ => rfl) iw_105 rfl dX3_openAskings_17 ?_
        refine lv_iload_n hx hb dX3_openAskings_20 rfl (lv_at hl 2 rfl) ?_
        refine L_get (rest := [.int n1]) S hKZ hW hS (i := 0) (t := j) (by decide) (by show j < ns; omega) hl.1 (Nat.le_of_ble_eq_true rfl) dX3_openAskings_21 ⟨Nat.le_of_ble_eq_true rfl, Nat.le_of_ble_eq_true rfl⟩ ⟨Nat.le_refl _, Nat.le_refl _⟩ (fun r_6 H locs hr_6 hW hS => ?_)
        obtain rfl : r_6 = sA j := hr_6
        refine S_cast S hK hW (k := j) (by omega) iw_158 dX3_openAskings_24 ?_
        obtain ⟨-, x_8, hc_8, h0_8, hd_8⟩ := hW.2.2.1 j (by omega)
        refine S_gp S hK hc_8 8 (by decide) (fun _ => rfl) iw_178 rfl dX3_openAskings_27 ?_
        refine lv_iadd hx hb dX3_openAskings_30 ?_
        refine lv_topi (fun x_9 _ => ?_)
        refine lv_istore_n (lv' := [(1, .int x_9), (0, .ref h0), (2, .int (nI j))]) hx hb dX3_openAskings_31 rfl hl (by decide) rfl (fun ls hl => ?_)
        obtain ⟨y_10, ey_10⟩ : ∃ y : Int32, y = (nI j) + 1 := ⟨_, rfl⟩
        refine lv_iinc (v := y_10) (lv' := [(2, .int y_10), (1, .int x_9), (0, .ref h0)]) hx hb dX3_openAskings_32 hl (k := 2) rfl (by rw [ey_10]; rfl) (by decide) rfl (fun ls hl => ?_)
        obtain rfl : y_10 = nI (j + 1) := ey_10.trans (nI_1 j)
        have en_11 : (nI (j + 1)).toInt = ((j + 1 : Nat) : Int) := pz_ti (by omega)
        refine lv_goto (tgt := 4) hx hb dX3_openAskings_35 (by decide) ?_
        exact ih_B4 _ (by omega) (j + 1) x_9 _ _ ls rfl (by omega) hW hS (lv_sub hl [2, 1, 0] rfl)
  exact loop_B4 _ 0 0 _ _ ls rfl (by omega) hW hS (lv_sub hl [2, 1, 0] rfl)

abbrev B_q_X3_oneMoreOutIsTooMany (dC : Nat → ClassId) (dI : Nat → Nat → Nat) (z : Nat) (mi : Nat) (A : Nat → Prop) (bs : Nat) (cp : Nat) (h0 : Nat) (la : Nat → Nat) (sA : Nat → Nat) (cA : Nat → Nat) (ns : Nat) (nc : Nat) (dr : Nat → Prop) (X : Nat → Int32) (P : Nat → Prop) (tr : Nat → Int32) (nl : Nat) (nq : Nat) (rs : Nat) : Option Value → Heap → Prop := fun v H => ∃ r : Int32, v = some (.int r) ∧ Cw dC dI z A bs cp h0 la sA cA ns nc dr X P tr nl nq rs H
set_option maxHeartbeats 8000000 in
set_option maxRecDepth 20000 in
theorem q_X3_oneMoreOutIsTooMany (l : Launch) (dC : Nat → ClassId) (dI : Nat → Nat → Nat) (z : Nat) (mi : Nat) (A : Nat → Prop) (bs : Nat) (cp : Nat) (h0 : Nat) (la : Nat → Nat) (sA : Nat → Nat) (cA : Nat → Nat) (ns : Nat) (nc : Nat) (dr : Nat → Prop) (X : Nat → Int32) (P : Nat → Prop) (tr : Nat → Int32) (nl : Nat) (nq : Nat) (rs : Nat) : Met l yX3_oneMoreOutIsTooMany (cws yX3_oneMoreOutIsTooMany cX3_oneMoreOutIsTooMany 5 (some .boolean)) { frames := 3, cells := 0, slots := 0, locals := 64 } (va_Pc [.ref h0] (fun U => KZ dC dI z mi A U ∧ Cw dC dI z A bs cp h0 la sA cA ns nc dr X P tr nl nq rs U.heap)) (Qg (B_q_X3_oneMoreOutIsTooMany dC dI z mi A bs cp h0 la sA cA ns nc dr X P tr nl nq rs) A) 0 0 A := by
  refine m_start (KK := KZ dC dI z mi A) (Pw := Cw dC dI z A bs cp h0 la sA cA ns nc dr X P tr nl nq rs) (by decide) (Nat.le_of_ble_eq_true rfl) ?_
  intro p e s m below meth c ls S hr hlocks hin hKZ hW hS hl
  obtain ⟨hx, hb, hml, hown, hts⟩ := id S
  have hK := hKZ.1
  obtain ⟨hns, hnc, hnl, ag, hag, hXg, hnq⟩ := id hW.2.2.2.2.2.2
  have hl : lv_has ls 5 [(0, .ref h0)] := hl
  refine lv_iconst (v := 1) hx hb dX3_oneMoreOutIsTooMany_0 (by decide) ?_
  refine lv_istore_n (lv' := [(1, .int 1), (0, .ref h0)]) hx hb dX3_oneMoreOutIsTooMany_1 rfl hl (by decide) rfl (fun ls hl => ?_)
  refine lv_iconst (v := 0) hx hb dX3_oneMoreOutIsTooMany_2 (by decide) ?_
  refine lv_istore_n (lv' := [(2, .int 0), (1, .int 1), (0, .ref h0)]) hx hb dX3_oneMoreOutIsTooMany_3 rfl hl (by decide) rfl (fun ls hl => ?_)
  refine lv_iconst (v := 0) hx hb dX3_oneMoreOutIsTooMany_4 (by decide) ?_
  refine lv_istore_n (lv' := [(3, .int 0), (2, .int 0), (1, .int 1), (0, .ref h0)]) hx hb dX3_oneMoreOutIsTooMany_5 rfl hl (by decide) rfl (fun ls hl => ?_)
  have loop_B6 : ∀ (k9 : Nat) (j : Nat) (n1 : Int32) (n2 : Int32) (H : Heap) (locs : List Loc) (ls : Array Slot), ns - j = k9 → (j ≤ ns) → Cw dC dI z A bs cp h0 la sA cA ns nc dr X P tr nl nq rs H → va_S A s.heap H locs → lv_has ls 5 [(0, .ref h0), (1, .int n1), (2, .int n2), (3, .int (nI j))] → W p l e { frames := 3, cells := 0, slots := 0, locals := 64 } s m ([.ref h0] : List Value).toArray below meth c H locs 0 0 (MQ below (Qg (B_q_X3_oneMoreOutIsTooMany dC dI z mi A bs cp h0 la sA cA ns nc dr X P tr nl nq rs) A) ([.ref h0] : List Value).toArray s 0 0 A) (F0 m 6 ls []) := by
    intro k9
    induction k9 using Nat.strongRecOn with
    | ind k9 ih_B6 =>
      intro j n1 n2 H locs ls hm_B6 hle_j hW hS hl
      have en_j : (nI j).toInt = ((j : Nat) : Int) := pz_ti (by omega)
      refine lv_iload_n hx hb dX3_oneMoreOutIsTooMany_6 rfl (lv_at hl 3 rfl) ?_
      refine lv_aload_n hx hb dX3_oneMoreOutIsTooMany_7 rfl (lv_at hl 0 rfl) ?_
      refine D_getl S hK hW 0 (by decide) (fun _ => rfl) iw_105 rfl dX3_oneMoreOutIsTooMany_8 ?_
      refine L_size (rest := [.int (nI j)]) S hKZ hW hS (i := 0) (by decide) hl.1 (Nat.le_of_ble_eq_true rfl) dX3_oneMoreOutIsTooMany_11 ⟨Nat.le_of_ble_eq_true rfl, Nat.le_of_ble_eq_true rfl⟩ ⟨Nat.le_refl _, Nat.le_refl _⟩ (fun H locs hW hS => ?_)
      refine W.eq (g2 := F0 m 14 ls [.int (nI ns), .int (nI j)]) rfl ?_
      obtain ⟨hns, hnc, hnl, ag_2, hag_2, -, hnq⟩ := id hW.2.2.2.2.2.2
      have en_3 : (nI ns).toInt = ((ns : Nat) : Int) := pz_ti (by omega)
      refine lv_icmp_ge (tgt := 68) hx hb dX3_oneMoreOutIsTooMany_14 (by decide) (fun c_4 => ?_) (fun c_4 => ?_)
      · skip
        have i_4 : (nI j).toInt ≥ (nI ns).toInt := by have h9 := pz_ge c_4; exact h9
        refine lv_iload_n hx hb dX3_oneMoreOutIsTooMany_68 rfl (lv_at hl 1 rfl) ?_
        refine lv_iload_n hx hb dX3_oneMoreOutIsTooMany_69 rfl (lv_at hl 2 rfl) ?_
        refine lv_iconst (v := 2) hx hb dX3_oneMoreOutIsTooMany_70 (by decide) ?_
        refine lv_idiv hx hb dX3_oneMoreOutIsTooMany_71 (by decide) ?_
        refine lv_topi (fun x_5 _ => ?_)
        refine lv_icmp_le (tgt := 79) hx hb dX3_oneMoreOutIsTooMany_72 (by decide) (fun c_6 => ?_) (fun c_6 => ?_)
        · skip
          have i_6 : n1.toInt ≤ x_5.toInt := by have h9 := pz_le c_6; exact h9
          refine lv_iconst (v := 0) hx hb dX3_oneMoreOutIsTooMany_79 (by decide) ?_
          exact r_z (v := 0) hx hb hr rfl hlocks hS dX3_oneMoreOutIsTooMany_80 (⟨_, rfl, hW⟩)
        · skip
          have i_6 : n1.toInt > x_5.toInt := by have h9 := pz_nle c_6; exact h9
          refine lv_iconst (v := 1) hx hb dX3_oneMoreOutIsTooMany_75 (by decide) ?_
          refine lv_goto (tgt := 80) hx hb dX3_oneMoreOutIsTooMany_76 (by decide) ?_
          exact r_z (v := 1) hx hb hr rfl hlocks hS dX3_oneMoreOutIsTooMany_80 (⟨_, rfl, hW⟩)
      · skip
        have i_4 : (nI j).toInt < (nI ns).toInt := by have h9 := pz_nge c_4; exact h9
        refine lv_aload_n hx hb dX3_oneMoreOutIsTooMany_17 rfl (lv_at hl 0 rfl) ?_
        refine D_getl S hK hW 0 (by decide) (fun _ => rfl) iw_105 rfl dX3_oneMoreOutIsTooMany_18 ?_
        refine lv_iload_n hx hb dX3_oneMoreOutIsTooMany_21 rfl (lv_at hl 3 rfl) ?_
        refine L_get (rest := []) S hKZ hW hS (i := 0) (t := j) (by decide) (by show j < ns; omega) hl.1 (Nat.le_of_ble_eq_true rfl) dX3_oneMoreOutIsTooMany_22 ⟨Nat.le_of_ble_eq_true rfl, Nat.le_of_ble_eq_true rfl⟩ ⟨Nat.le_refl _, Nat.le_refl _⟩ (fun r_8 H locs hr_8 hW hS => ?_)
        obtain rfl : r_8 = sA j := hr_8
        refine S_cast S hK hW (k := j) (by omega) iw_158 dX3_oneMoreOutIsTooMany_25 ?_
        obtain ⟨-, x_10, hc_10, h0_10, hd_10⟩ := hW.2.2.1 j (by omega)
        refine S_gp S hK hc_10 7 (by decide) (fun _ => rfl) iw_176 rfl dX3_oneMoreOutIsTooMany_28 ?_
        refine lv_istore (lv' := [(4, .int (x_10 7)), (0, .ref h0), (1, .int n1), (2, .int n2), (3, .int (nI j))]) hx hb dX3_oneMoreOutIsTooMany_31 hl (by decide) rfl (fun ls hl => ?_)
        refine lv_iload hx hb dX3_oneMoreOutIsTooMany_33 (lv_at hl 0 rfl) ?_
        refine lv_iconst (v := 1) hx hb dX3_oneMoreOutIsTooMany_35 (by decide) ?_
        refine lv_icmp_ne (tgt := 42) hx hb dX3_oneMoreOutIsTooMany_36 (by decide) (fun c_11 => ?_) (fun c_11 => ?_)
        · skip
          have i_11 : ¬ (x_10 7).toInt = 1 := by have h9 := pz_neq c_11; exact h9
          refine lv_iload hx hb dX3_oneMoreOutIsTooMany_42 (lv_at hl 0 rfl) ?_
          refine lv_if_eq (tgt := 59) hx hb dX3_oneMoreOutIsTooMany_44 (by decide) (fun c_12 => ?_) (fun c_12 => ?_)
          · skip
            have i_12 : (x_10 7).toInt = 0 := by have h9 := pz_eq c_12; exact h9
            obtain ⟨y_13, ey_13⟩ : ∃ y : Int32, y = n2 + 1 := ⟨_, rfl⟩
            refine lv_iinc (v := y_13) (lv' := [(2, .int y_13), (4, .int (x_10 7)), (0, .ref h0), (1, .int n1), (3, .int (nI j))]) hx hb dX3_oneMoreOutIsTooMany_59 hl (k := 3) rfl (by rw [ey_13]; rfl) (by decide) rfl (fun ls hl => ?_)
            obtain ⟨y_14, ey_14⟩ : ∃ y : Int32, y = (nI j) + 1 := ⟨_, rfl⟩
            refine lv_iinc (v := y_14) (lv' := [(3, .int y_14), (2, .int y_13), (4, .int (x_10 7)), (0, .ref h0), (1, .int n1)]) hx hb dX3_oneMoreOutIsTooMany_62 hl (k := 4) rfl (by rw [ey_14]; rfl) (by decide) rfl (fun ls hl => ?_)
            obtain rfl : y_14 = nI (j + 1) := ey_14.trans (nI_1 j)
            have en_15 : (nI (j + 1)).toInt = ((j + 1 : Nat) : Int) := pz_ti (by omega)
            refine lv_goto (tgt := 6) hx hb dX3_oneMoreOutIsTooMany_65 (by decide) ?_
            exact ih_B6 _ (by omega) (j + 1) n1 y_13 _ _ ls rfl (by omega) hW hS (lv_sub hl [3, 4, 1, 0] rfl)
          · skip
            have i_12 : ¬ (x_10 7).toInt = 0 := by have h9 := pz_neq c_12; exact h9
            refine lv_iload hx hb dX3_oneMoreOutIsTooMany_47 (lv_at hl 0 rfl) ?_
            refine lv_iconst (v := 2) hx hb dX3_oneMoreOutIsTooMany_49 (by decide) ?_
            refine lv_icmp_eq (tgt := 59) hx hb dX3_oneMoreOutIsTooMany_50 (by decide) (fun c_16 => ?_) (fun c_16 => ?_)
            · skip
              have i_16 : (x_10 7).toInt = 2 := by have h9 := pz_eq c_16; exact h9
              obtain ⟨y_17, ey_17⟩ : ∃ y : Int32, y = n2 + 1 := ⟨_, rfl⟩
              refine lv_iinc (v := y_17) (lv' := [(2, .int y_17), (4, .int (x_10 7)), (0, .ref h0), (1, .int n1), (3, .int (nI j))]) hx hb dX3_oneMoreOutIsTooMany_59 hl (k := 3) rfl (by rw [ey_17]; rfl) (by decide) rfl (fun ls hl => ?_)
              obtain ⟨y_18, ey_18⟩ : ∃ y : Int32, y = (nI j) + 1 := ⟨_, rfl⟩
              refine lv_iinc (v := y_18) (lv' := [(3, .int y_18), (2, .int y_17), (4, .int (x_10 7)), (0, .ref h0), (1, .int n1)]) hx hb dX3_oneMoreOutIsTooMany_62 hl (k := 4) rfl (by rw [ey_18]; rfl) (by decide) rfl (fun ls hl => ?_)
              obtain rfl : y_18 = nI (j + 1) := ey_18.trans (nI_1 j)
              have en_19 : (nI (j + 1)).toInt = ((j + 1 : Nat) : Int) := pz_ti (by omega)
              refine lv_goto (tgt := 6) hx hb dX3_oneMoreOutIsTooMany_65 (by decide) ?_
              exact ih_B6 _ (by omega) (j + 1) n1 y_17 _ _ ls rfl (by omega) hW hS (lv_sub hl [3, 4, 1, 0] rfl)
            · skip
              have i_16 : ¬ (x_10 7).toInt = 2 := by have h9 := pz_neq c_16; exact h9
              refine lv_iload hx hb dX3_oneMoreOutIsTooMany_53 (lv_at hl 0 rfl) ?_
              refine lv_iconst (v := 1) hx hb dX3_oneMoreOutIsTooMany_55 (by decide) ?_
              refine lv_icmp_ne (tgt := 62) hx hb dX3_oneMoreOutIsTooMany_56 (by decide) (fun c_20 => ?_) (fun c_20 => ?_)
              · skip
                have i_20 : ¬ (x_10 7).toInt = 1 := by have h9 := pz_neq c_20; exact h9
                obtain ⟨y_21, ey_21⟩ : ∃ y : Int32, y = (nI j) + 1 := ⟨_, rfl⟩
                refine lv_iinc (v := y_21) (lv' := [(3, .int y_21), (4, .int (x_10 7)), (0, .ref h0), (1, .int n1), (2, .int n2)]) hx hb dX3_oneMoreOutIsTooMany_62 hl (k := 4) rfl (by rw [ey_21]; rfl) (by decide) rfl (fun ls hl => ?_)
                obtain rfl : y_21 = nI (j + 1) := ey_21.trans (nI_1 j)
                have en_22 : (nI (j + 1)).toInt = ((j + 1 : Nat) : Int) := pz_ti (by omega)
                refine lv_goto (tgt := 6) hx hb dX3_oneMoreOutIsTooMany_65 (by decide) ?_
                exact ih_B6 _ (by omega) (j + 1) n1 n2 _ _ ls rfl (by omega) hW hS (lv_sub hl [2, 3, 4, 0] rfl)
              · skip
                have i_20 : (x_10 7).toInt = 1 := by have h9 := pz_eq c_20; exact h9
                obtain ⟨y_23, ey_23⟩ : ∃ y : Int32, y = n2 + 1 := ⟨_, rfl⟩
                refine lv_iinc (v := y_23) (lv' := [(2, .int y_23), (4, .int (x_10 7)), (0, .ref h0), (1, .int n1), (3, .int (nI j))]) hx hb dX3_oneMoreOutIsTooMany_59 hl (k := 3) rfl (by rw [ey_23]; rfl) (by decide) rfl (fun ls hl => ?_)
                obtain ⟨y_24, ey_24⟩ : ∃ y : Int32, y = (nI j) + 1 := ⟨_, rfl⟩
                refine lv_iinc (v := y_24) (lv' := [(3, .int y_24), (2, .int y_23), (4, .int (x_10 7)), (0, .ref h0), (1, .int n1)]) hx hb dX3_oneMoreOutIsTooMany_62 hl (k := 4) rfl (by rw [ey_24]; rfl) (by decide) rfl (fun ls hl => ?_)
                obtain rfl : y_24 = nI (j + 1) := ey_24.trans (nI_1 j)
                have en_25 : (nI (j + 1)).toInt = ((j + 1 : Nat) : Int) := pz_ti (by omega)
                refine lv_goto (tgt := 6) hx hb dX3_oneMoreOutIsTooMany_65 (by decide) ?_
                exact ih_B6 _ (by omega) (j + 1) n1 y_23 _ _ ls rfl (by omega) hW hS (lv_sub hl [3, 4, 1, 0] rfl)
        · skip
          have i_11 : (x_10 7).toInt = 1 := by have h9 := pz_eq c_11; exact h9
          obtain ⟨y_26, ey_26⟩ : ∃ y : Int32, y = n1 + 1 := ⟨_, rfl⟩
          refine lv_iinc (v := y_26) (lv' := [(1, .int y_26), (4, .int (x_10 7)), (0, .ref h0), (2, .int n2), (3, .int (nI j))]) hx hb dX3_oneMoreOutIsTooMany_39 hl (k := 2) rfl (by rw [ey_26]; rfl) (by decide) rfl (fun ls hl => ?_)
          refine lv_iload hx hb dX3_oneMoreOutIsTooMany_42 (lv_at hl 1 rfl) ?_
          refine lv_if_eq (tgt := 59) hx hb dX3_oneMoreOutIsTooMany_44 (by decide) (fun c_27 => ?_) (fun c_27 => ?_)
          · skip
            have i_27 : (x_10 7).toInt = 0 := by have h9 := pz_eq c_27; exact h9
            obtain ⟨y_28, ey_28⟩ : ∃ y : Int32, y = n2 + 1 := ⟨_, rfl⟩
            refine lv_iinc (v := y_28) (lv' := [(2, .int y_28), (1, .int y_26), (4, .int (x_10 7)), (0, .ref h0), (3, .int (nI j))]) hx hb dX3_oneMoreOutIsTooMany_59 hl (k := 3) rfl (by rw [ey_28]; rfl) (by decide) rfl (fun ls hl => ?_)
            obtain ⟨y_29, ey_29⟩ : ∃ y : Int32, y = (nI j) + 1 := ⟨_, rfl⟩
            refine lv_iinc (v := y_29) (lv' := [(3, .int y_29), (2, .int y_28), (1, .int y_26), (4, .int (x_10 7)), (0, .ref h0)]) hx hb dX3_oneMoreOutIsTooMany_62 hl (k := 4) rfl (by rw [ey_29]; rfl) (by decide) rfl (fun ls hl => ?_)
            obtain rfl : y_29 = nI (j + 1) := ey_29.trans (nI_1 j)
            have en_30 : (nI (j + 1)).toInt = ((j + 1 : Nat) : Int) := pz_ti (by omega)
            refine lv_goto (tgt := 6) hx hb dX3_oneMoreOutIsTooMany_65 (by decide) ?_
            exact ih_B6 _ (by omega) (j + 1) y_26 y_28 _ _ ls rfl (by omega) hW hS (lv_sub hl [4, 2, 1, 0] rfl)
          · skip
            have i_27 : ¬ (x_10 7).toInt = 0 := by have h9 := pz_neq c_27; exact h9
            refine lv_iload hx hb dX3_oneMoreOutIsTooMany_47 (lv_at hl 1 rfl) ?_
            refine lv_iconst (v := 2) hx hb dX3_oneMoreOutIsTooMany_49 (by decide) ?_
            refine lv_icmp_eq (tgt := 59) hx hb dX3_oneMoreOutIsTooMany_50 (by decide) (fun c_31 => ?_) (fun c_31 => ?_)
            · skip
              have i_31 : (x_10 7).toInt = 2 := by have h9 := pz_eq c_31; exact h9
              obtain ⟨y_32, ey_32⟩ : ∃ y : Int32, y = n2 + 1 := ⟨_, rfl⟩
              refine lv_iinc (v := y_32) (lv' := [(2, .int y_32), (1, .int y_26), (4, .int (x_10 7)), (0, .ref h0), (3, .int (nI j))]) hx hb dX3_oneMoreOutIsTooMany_59 hl (k := 3) rfl (by rw [ey_32]; rfl) (by decide) rfl (fun ls hl => ?_)
              obtain ⟨y_33, ey_33⟩ : ∃ y : Int32, y = (nI j) + 1 := ⟨_, rfl⟩
              refine lv_iinc (v := y_33) (lv' := [(3, .int y_33), (2, .int y_32), (1, .int y_26), (4, .int (x_10 7)), (0, .ref h0)]) hx hb dX3_oneMoreOutIsTooMany_62 hl (k := 4) rfl (by rw [ey_33]; rfl) (by decide) rfl (fun ls hl => ?_)
              obtain rfl : y_33 = nI (j + 1) := ey_33.trans (nI_1 j)
              have en_34 : (nI (j + 1)).toInt = ((j + 1 : Nat) : Int) := pz_ti (by omega)
              refine lv_goto (tgt := 6) hx hb dX3_oneMoreOutIsTooMany_65 (by decide) ?_
              exact ih_B6 _ (by omega) (j + 1) y_26 y_32 _ _ ls rfl (by omega) hW hS (lv_sub hl [4, 2, 1, 0] rfl)
            · skip
              have i_31 : ¬ (x_10 7).toInt = 2 := by have h9 := pz_neq c_31; exact h9
              refine lv_iload hx hb dX3_oneMoreOutIsTooMany_53 (lv_at hl 1 rfl) ?_
              refine lv_iconst (v := 1) hx hb dX3_oneMoreOutIsTooMany_55 (by decide) ?_
              refine lv_icmp_ne (tgt := 62) hx hb dX3_oneMoreOutIsTooMany_56 (by decide) (fun c_35 => ?_) (fun c_35 => ?_)
              · skip
                have i_35 : ¬ (x_10 7).toInt = 1 := by have h9 := pz_neq c_35; exact h9
                obtain ⟨y_36, ey_36⟩ : ∃ y : Int32, y = (nI j) + 1 := ⟨_, rfl⟩
                refine lv_iinc (v := y_36) (lv' := [(3, .int y_36), (1, .int y_26), (4, .int (x_10 7)), (0, .ref h0), (2, .int n2)]) hx hb dX3_oneMoreOutIsTooMany_62 hl (k := 4) rfl (by rw [ey_36]; rfl) (by decide) rfl (fun ls hl => ?_)
                obtain rfl : y_36 = nI (j + 1) := ey_36.trans (nI_1 j)
                have en_37 : (nI (j + 1)).toInt = ((j + 1 : Nat) : Int) := pz_ti (by omega)
                refine lv_goto (tgt := 6) hx hb dX3_oneMoreOutIsTooMany_65 (by decide) ?_
                exact ih_B6 _ (by omega) (j + 1) y_26 n2 _ _ ls rfl (by omega) hW hS (lv_sub hl [3, 1, 4, 0] rfl)
              · skip
                have i_35 : (x_10 7).toInt = 1 := by have h9 := pz_eq c_35; exact h9
                obtain ⟨y_38, ey_38⟩ : ∃ y : Int32, y = n2 + 1 := ⟨_, rfl⟩
                refine lv_iinc (v := y_38) (lv' := [(2, .int y_38), (1, .int y_26), (4, .int (x_10 7)), (0, .ref h0), (3, .int (nI j))]) hx hb dX3_oneMoreOutIsTooMany_59 hl (k := 3) rfl (by rw [ey_38]; rfl) (by decide) rfl (fun ls hl => ?_)
                obtain ⟨y_39, ey_39⟩ : ∃ y : Int32, y = (nI j) + 1 := ⟨_, rfl⟩
                refine lv_iinc (v := y_39) (lv' := [(3, .int y_39), (2, .int y_38), (1, .int y_26), (4, .int (x_10 7)), (0, .ref h0)]) hx hb dX3_oneMoreOutIsTooMany_62 hl (k := 4) rfl (by rw [ey_39]; rfl) (by decide) rfl (fun ls hl => ?_)
                obtain rfl : y_39 = nI (j + 1) := ey_39.trans (nI_1 j)
                have en_40 : (nI (j + 1)).toInt = ((j + 1 : Nat) : Int) := pz_ti (by omega)
                refine lv_goto (tgt := 6) hx hb dX3_oneMoreOutIsTooMany_65 (by decide) ?_
                exact ih_B6 _ (by omega) (j + 1) y_26 y_38 _ _ ls rfl (by omega) hW hS (lv_sub hl [4, 2, 1, 0] rfl)
  exact loop_B6 _ 0 1 0 _ _ ls rfl (by omega) hW hS (lv_sub hl [3, 2, 1, 0] rfl)

abbrev B_q_X3_tryThoseOut (dC : Nat → ClassId) (dI : Nat → Nat → Nat) (z : Nat) (mi : Nat) (A : Nat → Prop) (bs : Nat) (cp : Nat) (h0 : Nat) (la : Nat → Nat) (sA : Nat → Nat) (cA : Nat → Nat) (ns : Nat) (nc : Nat) (dr : Nat → Prop) (X : Nat → Int32) (P : Nat → Prop) (tr : Nat → Int32) (nl : Nat) (nq : Nat) (rs : Nat) : Option Value → Heap → Prop := fun v H => v = none ∧ Cw dC dI z A bs cp h0 la sA cA ns nc dr X P tr nl nq rs H
set_option maxHeartbeats 8000000 in
set_option maxRecDepth 20000 in
theorem q_X3_tryThoseOut (l : Launch) (dC : Nat → ClassId) (dI : Nat → Nat → Nat) (z : Nat) (mi : Nat) (A : Nat → Prop) (bs : Nat) (cp : Nat) (h0 : Nat) (la : Nat → Nat) (sA : Nat → Nat) (cA : Nat → Nat) (ns : Nat) (nc : Nat) (dr : Nat → Prop) (X : Nat → Int32) (P : Nat → Prop) (tr : Nat → Int32) (nl : Nat) (nq : Nat) (rs : Nat) : Met l yX3_tryThoseOut (cws yX3_tryThoseOut cX3_tryThoseOut 3 none) { frames := 3, cells := 0, slots := 0, locals := 64 } (va_Pc [.ref h0] (fun U => KZ dC dI z mi A U ∧ Cw dC dI z A bs cp h0 la sA cA ns nc dr X P tr nl nq rs U.heap)) (Qg (B_q_X3_tryThoseOut dC dI z mi A bs cp h0 la sA cA ns nc dr X P tr nl nq rs) A) 0 0 A := by
  refine m_start (KK := KZ dC dI z mi A) (Pw := Cw dC dI z A bs cp h0 la sA cA ns nc dr X P tr nl nq rs) (by decide) (Nat.le_of_ble_eq_true rfl) ?_
  intro p e s m below meth c ls S hr hlocks hin hKZ hW hS hl
  obtain ⟨hx, hb, hml, hown, hts⟩ := id S
  have hK := hKZ.1
  obtain ⟨hns, hnc, hnl, ag, hag, hXg, hnq⟩ := id hW.2.2.2.2.2.2
  have hl : lv_has ls 3 [(0, .ref h0)] := hl
  refine lv_iconst (v := 0) hx hb dX3_tryThoseOut_0 (by decide) ?_
  refine lv_istore_n (lv' := [(1, .int 0), (0, .ref h0)]) hx hb dX3_tryThoseOut_1 rfl hl (by decide) rfl (fun ls hl => ?_)
  have loop_B2 : ∀ (k9 : Nat) (j : Nat) (H : Heap) (locs : List Loc) (ls : Array Slot), ns - j = k9 → (j ≤ ns) → Cw dC dI z A bs cp h0 la sA cA ns nc dr X P tr nl nq rs H → va_S A s.heap H locs → lv_has ls 3 [(0, .ref h0), (1, .int (nI j))] → W p l e { frames := 3, cells := 0, slots := 0, locals := 64 } s m ([.ref h0] : List Value).toArray below meth c H locs 0 0 (MQ below (Qg (B_q_X3_tryThoseOut dC dI z mi A bs cp h0 la sA cA ns nc dr X P tr nl nq rs) A) ([.ref h0] : List Value).toArray s 0 0 A) (F0 m 2 ls []) := by
    intro k9
    induction k9 using Nat.strongRecOn with
    | ind k9 ih_B2 =>
      intro j H locs ls hm_B2 hle_j hW hS hl
      have en_j : (nI j).toInt = ((j : Nat) : Int) := pz_ti (by omega)
      refine lv_iload_n hx hb dX3_tryThoseOut_2 rfl (lv_at hl 1 rfl) ?_
      refine lv_aload_n hx hb dX3_tryThoseOut_3 rfl (lv_at hl 0 rfl) ?_
      refine D_getl S hK hW 0 (by decide) (fun _ => rfl) iw_105 rfl dX3_tryThoseOut_4 ?_
      refine L_size (rest := [.int (nI j)]) S hKZ hW hS (i := 0) (by decide) hl.1 (Nat.le_of_ble_eq_true rfl) dX3_tryThoseOut_7 ⟨Nat.le_of_ble_eq_true rfl, Nat.le_of_ble_eq_true rfl⟩ ⟨Nat.le_refl _, Nat.le_refl _⟩ (fun H locs hW hS => ?_)
      refine W.eq (g2 := F0 m 10 ls [.int (nI ns), .int (nI j)]) rfl ?_
      obtain ⟨hns, hnc, hnl, ag_2, hag_2, -, hnq⟩ := id hW.2.2.2.2.2.2
      have en_3 : (nI ns).toInt = ((ns : Nat) : Int) := pz_ti (by omega)
      refine lv_icmp_ge (tgt := 55) hx hb dX3_tryThoseOut_10 (by decide) (fun c_4 => ?_) (fun c_4 => ?_)
      · skip
        have i_4 : (nI j).toInt ≥ (nI ns).toInt := by have h9 := pz_ge c_4; exact h9
        exact r_v hx hb hr hlocks hS dX3_tryThoseOut_55 (⟨rfl, hW⟩)
      · skip
        have i_4 : (nI j).toInt < (nI ns).toInt := by have h9 := pz_nge c_4; exact h9
        refine lv_aload_n hx hb dX3_tryThoseOut_13 rfl (lv_at hl 0 rfl) ?_
        refine D_getl S hK hW 0 (by decide) (fun _ => rfl) iw_105 rfl dX3_tryThoseOut_14 ?_
        refine lv_iload_n hx hb dX3_tryThoseOut_17 rfl (lv_at hl 1 rfl) ?_
        refine L_get (rest := []) S hKZ hW hS (i := 0) (t := j) (by decide) (by show j < ns; omega) hl.1 (Nat.le_of_ble_eq_true rfl) dX3_tryThoseOut_18 ⟨Nat.le_of_ble_eq_true rfl, Nat.le_of_ble_eq_true rfl⟩ ⟨Nat.le_refl _, Nat.le_refl _⟩ (fun r_6 H locs hr_6 hW hS => ?_)
        obtain rfl : r_6 = sA j := hr_6
        refine S_cast S hK hW (k := j) (by omega) iw_158 dX3_tryThoseOut_21 ?_
        refine lv_astore_n (lv' := [(2, .ref (sA j)), (0, .ref h0), (1, .int (nI j))]) hx hb dX3_tryThoseOut_24 rfl hl (by decide) rfl (fun ls hl => ?_)
        refine lv_aload_n hx hb dX3_tryThoseOut_25 rfl (lv_at hl 0 rfl) ?_
        obtain ⟨-, x_8, hc_8, h0_8, hd_8⟩ := hW.2.2.1 j (by omega)
        refine S_gp S hK hc_8 7 (by decide) (fun _ => rfl) iw_176 rfl dX3_tryThoseOut_26 ?_
        refine lv_iconst (v := 1) hx hb dX3_tryThoseOut_29 (by decide) ?_
        refine lv_icmp_ne (tgt := 49) hx hb dX3_tryThoseOut_30 (by decide) (fun c_9 => ?_) (fun c_9 => ?_)
        · skip
          have i_9 : ¬ (x_8 7).toInt = 1 := by have h9 := pz_neq c_9; exact h9
          obtain ⟨y_10, ey_10⟩ : ∃ y : Int32, y = (nI j) + 1 := ⟨_, rfl⟩
          refine lv_iinc (v := y_10) (lv' := [(1, .int y_10), (2, .ref (sA j)), (0, .ref h0)]) hx hb dX3_tryThoseOut_49 hl (k := 2) rfl (by rw [ey_10]; rfl) (by decide) rfl (fun ls hl => ?_)
          obtain rfl : y_10 = nI (j + 1) := ey_10.trans (nI_1 j)
          have en_11 : (nI (j + 1)).toInt = ((j + 1 : Nat) : Int) := pz_ti (by omega)
          refine lv_goto (tgt := 2) hx hb dX3_tryThoseOut_52 (by decide) ?_
          exact ih_B2 _ (by omega) (j + 1) _ _ ls rfl (by omega) hW hS (lv_sub hl [2, 0] rfl)
        · skip
          have i_9 : (x_8 7).toInt = 1 := by have h9 := pz_eq c_9; exact h9
          have hnd_12 : ¬ dr j := fun q => gDr_n (Or.inr (Or.inl c_9)) (hd_8.mp q)
          refine lv_aload_n hx hb dX3_tryThoseOut_33 rfl (lv_at hl 0 rfl) ?_
          refine S_gp S hK hc_8 13 (by decide) (fun _ => rfl) iw_188 rfl dX3_tryThoseOut_34 ?_
          refine lv_aload_n hx hb dX3_tryThoseOut_37 rfl (lv_at hl 1 rfl) ?_
          refine D_get S hK hW 5 (by decide) (fun _ => rfl) iw_110 rfl dX3_tryThoseOut_38 (fun x_14 hx_14 => ?_)
          refine lv_icmp_ne (tgt := 49) hx hb dX3_tryThoseOut_41 (by decide) (fun c_15 => ?_) (fun c_15 => ?_)
          · skip
            have i_15 : ¬ (x_8 13).toInt = x_14.toInt := by have h9 := pz_neq c_15; exact h9
            obtain ⟨y_16, ey_16⟩ : ∃ y : Int32, y = (nI j) + 1 := ⟨_, rfl⟩
            refine lv_iinc (v := y_16) (lv' := [(1, .int y_16), (2, .ref (sA j)), (0, .ref h0)]) hx hb dX3_tryThoseOut_49 hl (k := 2) rfl (by rw [ey_16]; rfl) (by decide) rfl (fun ls hl => ?_)
            obtain rfl : y_16 = nI (j + 1) := ey_16.trans (nI_1 j)
            have en_17 : (nI (j + 1)).toInt = ((j + 1 : Nat) : Int) := pz_ti (by omega)
            refine lv_goto (tgt := 2) hx hb dX3_tryThoseOut_52 (by decide) ?_
            exact ih_B2 _ (by omega) (j + 1) _ _ ls rfl (by omega) hW hS (lv_sub hl [2, 0] rfl)
          · skip
            have i_15 : (x_8 13).toInt = x_14.toInt := by have h9 := pz_eq c_15; exact h9
            refine lv_aload_n hx hb dX3_tryThoseOut_44 rfl (lv_at hl 0 rfl) ?_
            refine lv_iconst (v := 2) hx hb dX3_tryThoseOut_45 (by decide) ?_
            refine S_putd S hK hW hS (k := j) (by omega) 7 (by decide) (by decide) (fun _ => rfl) iw_176 rfl rfl (by decide +kernel) rfl dr (fun x9 h9 => ⟨fun q => absurd q hnd_12, fun q => absurd (show gDr (2 : Int32) from q) (gDr_n (by decide))⟩) (fun _ _ => Iff.rfl) dX3_tryThoseOut_46 (fun H locs hW hS => ?_)
            obtain ⟨y_19, ey_19⟩ : ∃ y : Int32, y = (nI j) + 1 := ⟨_, rfl⟩
            refine lv_iinc (v := y_19) (lv' := [(1, .int y_19), (2, .ref (sA j)), (0, .ref h0)]) hx hb dX3_tryThoseOut_49 hl (k := 2) rfl (by rw [ey_19]; rfl) (by decide) rfl (fun ls hl => ?_)
            obtain rfl : y_19 = nI (j + 1) := ey_19.trans (nI_1 j)
            have en_20 : (nI (j + 1)).toInt = ((j + 1 : Nat) : Int) := pz_ti (by omega)
            refine lv_goto (tgt := 2) hx hb dX3_tryThoseOut_52 (by decide) ?_
            exact ih_B2 _ (by omega) (j + 1) _ _ ls rfl (by omega) hW hS (lv_sub hl [2, 0] rfl)
  exact loop_B2 _ 0 _ _ ls rfl (by omega) hW hS (lv_sub hl [1, 0] rfl)

abbrev B_q_X3_letDrainedGo (dC : Nat → ClassId) (dI : Nat → Nat → Nat) (z : Nat) (mi : Nat) (A : Nat → Prop) (bs : Nat) (cp : Nat) (h0 : Nat) (la : Nat → Nat) (sA : Nat → Nat) (cA : Nat → Nat) (ns : Nat) (nc : Nat) (dr : Nat → Prop) (X : Nat → Int32) (P : Nat → Prop) (tr : Nat → Int32) (nl : Nat) (nq : Nat) (rs : Nat) : Option Value → Heap → Prop := fun v H => v = none ∧ Cw dC dI z A bs cp h0 la sA cA ns nc dr X P tr nl nq rs H
set_option maxHeartbeats 8000000 in
set_option maxRecDepth 20000 in
theorem q_X3_letDrainedGo (l : Launch) (dC : Nat → ClassId) (dI : Nat → Nat → Nat) (z : Nat) (mi : Nat) (A : Nat → Prop) (bs : Nat) (cp : Nat) (h0 : Nat) (la : Nat → Nat) (sA : Nat → Nat) (cA : Nat → Nat) (ns : Nat) (nc : Nat) (dr : Nat → Prop) (X : Nat → Int32) (P : Nat → Prop) (tr : Nat → Int32) (nl : Nat) (nq : Nat) (rs : Nat) : Met l yX3_letDrainedGo (cws yX3_letDrainedGo cX3_letDrainedGo 3 none) { frames := 3, cells := 0, slots := 0, locals := 64 } (va_Pc [.ref h0] (fun U => KZ dC dI z mi A U ∧ Cw dC dI z A bs cp h0 la sA cA ns nc dr X P tr nl nq rs U.heap)) (Qg (B_q_X3_letDrainedGo dC dI z mi A bs cp h0 la sA cA ns nc dr X P tr nl nq rs) A) 0 0 A := by
  refine m_start (KK := KZ dC dI z mi A) (Pw := Cw dC dI z A bs cp h0 la sA cA ns nc dr X P tr nl nq rs) (by decide) (Nat.le_of_ble_eq_true rfl) ?_
  intro p e s m below meth c ls S hr hlocks hin hKZ hW hS hl
  obtain ⟨hx, hb, hml, hown, hts⟩ := id S
  have hK := hKZ.1
  obtain ⟨hns, hnc, hnl, ag, hag, hXg, hnq⟩ := id hW.2.2.2.2.2.2
  have hl : lv_has ls 3 [(0, .ref h0)] := hl
  refine lv_iconst (v := 0) hx hb dX3_letDrainedGo_0 (by decide) ?_
  refine lv_istore_n (lv' := [(1, .int 0), (0, .ref h0)]) hx hb dX3_letDrainedGo_1 rfl hl (by decide) rfl (fun ls hl => ?_)
  have loop_B2 : ∀ (k9 : Nat) (j : Nat) (H : Heap) (locs : List Loc) (ls : Array Slot), ns - j = k9 → (j ≤ ns) → Cw dC dI z A bs cp h0 la sA cA ns nc dr X P tr nl nq rs H → va_S A s.heap H locs → lv_has ls 3 [(0, .ref h0), (1, .int (nI j))] → W p l e { frames := 3, cells := 0, slots := 0, locals := 64 } s m ([.ref h0] : List Value).toArray below meth c H locs 0 0 (MQ below (Qg (B_q_X3_letDrainedGo dC dI z mi A bs cp h0 la sA cA ns nc dr X P tr nl nq rs) A) ([.ref h0] : List Value).toArray s 0 0 A) (F0 m 2 ls []) := by
    intro k9
    induction k9 using Nat.strongRecOn with
    | ind k9 ih_B2 =>
      intro j H locs ls hm_B2 hle_j hW hS hl
      have en_j : (nI j).toInt = ((j : Nat) : Int) := pz_ti (by omega)
      refine lv_iload_n hx hb dX3_letDrainedGo_2 rfl (lv_at hl 1 rfl) ?_
      refine lv_aload_n hx hb dX3_letDrainedGo_3 rfl (lv_at hl 0 rfl) ?_
      refine D_getl S hK hW 0 (by decide) (fun _ => rfl) iw_105 rfl dX3_letDrainedGo_4 ?_
      refine L_size (rest := [.int (nI j)]) S hKZ hW hS (i := 0) (by decide) hl.1 (Nat.le_of_ble_eq_true rfl) dX3_letDrainedGo_7 ⟨Nat.le_of_ble_eq_true rfl, Nat.le_of_ble_eq_true rfl⟩ ⟨Nat.le_refl _, Nat.le_refl _⟩ (fun H locs hW hS => ?_)
      refine W.eq (g2 := F0 m 10 ls [.int (nI ns), .int (nI j)]) rfl ?_
      obtain ⟨hns, hnc, hnl, ag_2, hag_2, -, hnq⟩ := id hW.2.2.2.2.2.2
      have en_3 : (nI ns).toInt = ((ns : Nat) : Int) := pz_ti (by omega)
      refine lv_icmp_ge (tgt := 51) hx hb dX3_letDrainedGo_10 (by decide) (fun c_4 => ?_) (fun c_4 => ?_)
      · skip
        have i_4 : (nI j).toInt ≥ (nI ns).toInt := by have h9 := pz_ge c_4; exact h9
        exact r_v hx hb hr hlocks hS dX3_letDrainedGo_51 (⟨rfl, hW⟩)
      · skip
        have i_4 : (nI j).toInt < (nI ns).toInt := by have h9 := pz_nge c_4; exact h9
        refine lv_aload_n hx hb dX3_letDrainedGo_13 rfl (lv_at hl 0 rfl) ?_
        refine D_getl S hK hW 0 (by decide) (fun _ => rfl) iw_105 rfl dX3_letDrainedGo_14 ?_
        refine lv_iload_n hx hb dX3_letDrainedGo_17 rfl (lv_at hl 1 rfl) ?_
        refine L_get (rest := []) S hKZ hW hS (i := 0) (t := j) (by decide) (by show j < ns; omega) hl.1 (Nat.le_of_ble_eq_true rfl) dX3_letDrainedGo_18 ⟨Nat.le_of_ble_eq_true rfl, Nat.le_of_ble_eq_true rfl⟩ ⟨Nat.le_refl _, Nat.le_refl _⟩ (fun r_6 H locs hr_6 hW hS => ?_)
        obtain rfl : r_6 = sA j := hr_6
        refine S_cast S hK hW (k := j) (by omega) iw_158 dX3_letDrainedGo_21 ?_
        refine lv_astore_n (lv' := [(2, .ref (sA j)), (0, .ref h0), (1, .int (nI j))]) hx hb dX3_letDrainedGo_24 rfl hl (by decide) rfl (fun ls hl => ?_)
        refine lv_aload_n hx hb dX3_letDrainedGo_25 rfl (lv_at hl 0 rfl) ?_
        obtain ⟨-, x_8, hc_8, h0_8, hd_8⟩ := hW.2.2.1 j (by omega)
        refine S_gp S hK hc_8 7 (by decide) (fun _ => rfl) iw_176 rfl dX3_letDrainedGo_26 ?_
        refine lv_iconst (v := 3) hx hb dX3_letDrainedGo_29 (by decide) ?_
        refine lv_icmp_ne (tgt := 45) hx hb dX3_letDrainedGo_30 (by decide) (fun c_9 => ?_) (fun c_9 => ?_)
        · skip
          have i_9 : ¬ (x_8 7).toInt = 3 := by have h9 := pz_neq c_9; exact h9
          obtain ⟨y_10, ey_10⟩ : ∃ y : Int32, y = (nI j) + 1 := ⟨_, rfl⟩
          refine lv_iinc (v := y_10) (lv' := [(1, .int y_10), (2, .ref (sA j)), (0, .ref h0)]) hx hb dX3_letDrainedGo_45 hl (k := 2) rfl (by rw [ey_10]; rfl) (by decide) rfl (fun ls hl => ?_)
          obtain rfl : y_10 = nI (j + 1) := ey_10.trans (nI_1 j)
          have en_11 : (nI (j + 1)).toInt = ((j + 1 : Nat) : Int) := pz_ti (by omega)
          refine lv_goto (tgt := 2) hx hb dX3_letDrainedGo_48 (by decide) ?_
          exact ih_B2 _ (by omega) (j + 1) _ _ ls rfl (by omega) hW hS (lv_sub hl [2, 0] rfl)
        · skip
          have i_9 : (x_8 7).toInt = 3 := by have h9 := pz_eq c_9; exact h9
          have hdr : dr j := hd_8.mpr (Or.inl c_9)
          refine lv_aload_n hx hb dX3_letDrainedGo_33 rfl (lv_at hl 0 rfl) ?_
          refine S_gp S hK hc_8 8 (by decide) (fun _ => rfl) iw_178 rfl dX3_letDrainedGo_34 ?_
          refine lv_if_ne (tgt := 45) hx hb dX3_letDrainedGo_37 (by decide) (fun c_13 => ?_) (fun c_13 => ?_)
          · skip
            have i_13 : ¬ (x_8 8).toInt = 0 := by have h9 := pz_neq c_13; exact h9
            obtain ⟨y_14, ey_14⟩ : ∃ y : Int32, y = (nI j) + 1 := ⟨_, rfl⟩
            refine lv_iinc (v := y_14) (lv' := [(1, .int y_14), (2, .ref (sA j)), (0, .ref h0)]) hx hb dX3_letDrainedGo_45 hl (k := 2) rfl (by rw [ey_14]; rfl) (by decide) rfl (fun ls hl => ?_)
            obtain rfl : y_14 = nI (j + 1) := ey_14.trans (nI_1 j)
            have en_15 : (nI (j + 1)).toInt = ((j + 1 : Nat) : Int) := pz_ti (by omega)
            refine lv_goto (tgt := 2) hx hb dX3_letDrainedGo_48 (by decide) ?_
            exact ih_B2 _ (by omega) (j + 1) _ _ ls rfl (by omega) hW hS (lv_sub hl [2, 0] rfl)
          · skip
            have i_13 : (x_8 8).toInt = 0 := by have h9 := pz_eq c_13; exact h9
            refine lv_aload_n hx hb dX3_letDrainedGo_40 rfl (lv_at hl 0 rfl) ?_
            refine lv_iconst (v := 4) hx hb dX3_letDrainedGo_41 (by decide) ?_
            refine S_putd S hK hW hS (k := j) (by omega) 7 (by decide) (by decide) (fun _ => rfl) iw_176 rfl rfl (by decide +kernel) rfl dr (fun x9 h9 => ⟨fun _ => (show gDr (4 : Int32) from by unfold gDr; decide), fun _ => hdr⟩) (fun _ _ => Iff.rfl) dX3_letDrainedGo_42 (fun H locs hW hS => ?_)
            obtain ⟨y_17, ey_17⟩ : ∃ y : Int32, y = (nI j) + 1 := ⟨_, rfl⟩
            refine lv_iinc (v := y_17) (lv' := [(1, .int y_17), (2, .ref (sA j)), (0, .ref h0)]) hx hb dX3_letDrainedGo_45 hl (k := 2) rfl (by rw [ey_17]; rfl) (by decide) rfl (fun ls hl => ?_)
            obtain rfl : y_17 = nI (j + 1) := ey_17.trans (nI_1 j)
            have en_18 : (nI (j + 1)).toInt = ((j + 1 : Nat) : Int) := pz_ti (by omega)
            refine lv_goto (tgt := 2) hx hb dX3_letDrainedGo_48 (by decide) ?_
            exact ih_B2 _ (by omega) (j + 1) _ _ ls rfl (by omega) hW hS (lv_sub hl [2, 0] rfl)
  exact loop_B2 _ 0 _ _ ls rfl (by omega) hW hS (lv_sub hl [1, 0] rfl)

abbrev B_q_X3_failureOf (dC : Nat → ClassId) (dI : Nat → Nat → Nat) (z : Nat) (mi : Nat) (A : Nat → Prop) (bs : Nat) (cp : Nat) (h0 : Nat) (la : Nat → Nat) (sA : Nat → Nat) (cA : Nat → Nat) (ns : Nat) (nc : Nat) (dr : Nat → Prop) (X : Nat → Int32) (P : Nat → Prop) (tr : Nat → Int32) (nl : Nat) (nq : Nat) (rs : Nat) (k : Nat) : Option Value → Heap → Prop := fun v H => v = none ∧ Cw dC dI z A bs cp h0 la sA cA ns nc dr X P tr nl nq rs H
set_option maxHeartbeats 8000000 in
set_option maxRecDepth 20000 in
theorem q_X3_failureOf (l : Launch) (dC : Nat → ClassId) (dI : Nat → Nat → Nat) (z : Nat) (mi : Nat) (A : Nat → Prop) (bs : Nat) (cp : Nat) (h0 : Nat) (la : Nat → Nat) (sA : Nat → Nat) (cA : Nat → Nat) (ns : Nat) (nc : Nat) (dr : Nat → Prop) (X : Nat → Int32) (P : Nat → Prop) (tr : Nat → Int32) (nl : Nat) (nq : Nat) (rs : Nat) (k : Nat) (hk : k < ns) : Met l yX3_failureOf (cws yX3_failureOf cX3_failureOf 2 none) { frames := 4, cells := 0, slots := 0, locals := 88 } (va_Pc [.ref h0, .ref (sA k)] (fun U => KZ dC dI z mi A U ∧ Cw dC dI z A bs cp h0 la sA cA ns nc dr X P tr nl nq rs U.heap)) (Qg (B_q_X3_failureOf dC dI z mi A bs cp h0 la sA cA ns nc dr X P tr nl nq rs k) A) 0 0 A := by
  refine m_start (KK := KZ dC dI z mi A) (Pw := Cw dC dI z A bs cp h0 la sA cA ns nc dr X P tr nl nq rs) (by decide) (Nat.le_of_ble_eq_true rfl) ?_
  intro p e s m below meth c ls S hr hlocks hin hKZ hW hS hl
  obtain ⟨hx, hb, hml, hown, hts⟩ := id S
  have hK := hKZ.1
  obtain ⟨hns, hnc, hnl, ag, hag, hXg, hnq⟩ := id hW.2.2.2.2.2.2
  have hl : lv_has ls 2 [(0, .ref h0), (1, .ref (sA k))] := hl
  refine lv_aload_n hx hb dX3_failureOf_0 rfl (lv_at hl 1 rfl) ?_
  refine lv_dup hx hb dX3_failureOf_1 rfl ?_
  obtain ⟨-, x_1, hc_1, h0_1, hd_1⟩ := hW.2.2.1 k (by omega)
  refine S_gp S hK hc_1 11 (by decide) (fun _ => rfl) iw_184 rfl dX3_failureOf_2 ?_
  refine lv_iconst (v := 1) hx hb dX3_failureOf_5 (by decide) ?_
  refine lv_iadd hx hb dX3_failureOf_6 ?_
  refine lv_topi (fun x_2 _ => ?_)
  refine S_put S hK hW hS (k := k) (by omega) 11 (by decide) (by decide) (by decide) (fun _ => rfl) iw_184 rfl rfl (by decide +kernel) rfl dX3_failureOf_7 (fun H locs hW hS => ?_)
  refine lv_aload_n hx hb dX3_failureOf_10 rfl (lv_at hl 1 rfl) ?_
  refine lv_dup hx hb dX3_failureOf_11 rfl ?_
  obtain ⟨-, x_4, hc_4, h0_4, hd_4⟩ := hW.2.2.1 k (by omega)
  refine S_gp S hK hc_4 12 (by decide) (fun _ => rfl) iw_185 rfl dX3_failureOf_12 ?_
  refine lv_iconst (v := 1) hx hb dX3_failureOf_15 (by decide) ?_
  refine lv_iadd hx hb dX3_failureOf_16 ?_
  refine lv_topi (fun x_5 _ => ?_)
  refine S_put S hK hW hS (k := k) (by omega) 12 (by decide) (by decide) (by decide) (fun _ => rfl) iw_185 rfl rfl (by decide +kernel) rfl dX3_failureOf_17 (fun H locs hW hS => ?_)
  refine lv_aload_n hx hb dX3_failureOf_20 rfl (lv_at hl 1 rfl) ?_
  obtain ⟨-, x_7, hc_7, h0_7, hd_7⟩ := hW.2.2.1 k (by omega)
  refine S_gp S hK hc_7 7 (by decide) (fun _ => rfl) iw_176 rfl dX3_failureOf_21 ?_
  refine lv_if_ne (tgt := 64) hx hb dX3_failureOf_24 (by decide) (fun c_8 => ?_) (fun c_8 => ?_)
  · skip
    have i_8 : ¬ (x_7 7).toInt = 0 := by have h9 := pz_neq c_8; exact h9
    refine lv_aload_n hx hb dX3_failureOf_64 rfl (lv_at hl 1 rfl) ?_
    refine S_gp S hK hc_7 7 (by decide) (fun _ => rfl) iw_176 rfl dX3_failureOf_65 ?_
    refine lv_iconst (v := 2) hx hb dX3_failureOf_68 (by decide) ?_
    refine lv_icmp_ne (tgt := 95) hx hb dX3_failureOf_69 (by decide) (fun c_10 => ?_) (fun c_10 => ?_)
    · skip
      have i_10 : ¬ (x_7 7).toInt = 2 := by have h9 := pz_neq c_10; exact h9
      exact r_v hx hb hr hlocks hS dX3_failureOf_95 (⟨rfl, hW⟩)
    · skip
      have i_10 : (x_7 7).toInt = 2 := by have h9 := pz_eq c_10; exact h9
      have hnd_11 : ¬ dr k := fun q => gDr_n (Or.inr (Or.inr c_10)) (hd_7.mp q)
      refine lv_aload_n hx hb dX3_failureOf_72 rfl (lv_at hl 0 rfl) ?_
      refine c_v (Pw := Cw dC dI z A bs cp h0 la sA cA ns nc dr X P tr nl nq rs) (n := 0) (As := []) (rest := []) S (q_X3_oneMoreOutIsTooMany l dC dI z mi A bs cp h0 la sA cA ns nc dr X P tr nl nq rs) iw_561 iw_558 iw_560 iw_22 iw_57 (by decide +kernel) rfl ⟨rfl, rfl, Nat.le_of_ble_eq_true rfl, Nat.le_of_ble_eq_true rfl⟩ KZ.blind (D_recv hK hW) (hKZ.at hS (fun _ h9 => h9)) hW hl.1 rfl (Nat.le_of_ble_eq_true rfl) dX3_failureOf_73 ⟨Nat.le_refl _, Nat.le_refl _⟩ hS (fun _ h9 => h9) (fun v9 H locs hB hz9 hk9 hS => ?_)
      refine W.widen (k := 0) (n := 0) (Nat.le_refl 0) (Nat.le_refl 0) ?_
      obtain ⟨r_12, rfl, hW⟩ := hB
      refine W.eq (g2 := F0 m 76 ls [.int r_12]) rfl ?_
      refine lv_if_eq (tgt := 87) hx hb dX3_failureOf_76 (by decide) (fun c_13 => ?_) (fun c_13 => ?_)
      · skip
        have i_13 : r_12.toInt = 0 := by have h9 := pz_eq c_13; exact h9
        refine lv_aload_n hx hb dX3_failureOf_87 rfl (lv_at hl 1 rfl) ?_
        refine lv_aload_n hx hb dX3_failureOf_88 rfl (lv_at hl 0 rfl) ?_
        refine D_get S hK hW 5 (by decide) (fun _ => rfl) iw_110 rfl dX3_failureOf_89 (fun x_14 hx_14 => ?_)
        refine c_v (Pw := Cw dC dI z A bs cp h0 la sA cA ns nc dr X P tr nl nq rs) (n := 1) (As := [.int x_14]) (rest := []) S (q_X2_goOut l dC dI z mi A bs cp h0 la sA cA ns nc dr X P tr nl nq rs k x_14 (by omega) hnd_11) iw_565 iw_562 iw_563 iw_564 iw_62 (by decide +kernel) rfl ⟨rfl, rfl, Nat.le_of_ble_eq_true rfl, Nat.le_of_ble_eq_true rfl⟩ KZ.blind (S_recv hK hW (by omega)) (hKZ.at hS (fun _ h9 => h9)) hW hl.1 rfl (Nat.le_of_ble_eq_true rfl) dX3_failureOf_92 ⟨Nat.le_refl _, Nat.le_refl _⟩ hS (fun _ h9 => h9) (fun v9 H locs hB hz9 hk9 hS => ?_)
        refine W.widen (k := 0) (n := 0) (Nat.le_refl 0) (Nat.le_refl 0) ?_
        obtain ⟨rfl, hW⟩ := hB
        refine W.eq (g2 := F0 m 95 ls []) rfl ?_
        exact r_v hx hb hr hlocks hS dX3_failureOf_95 (⟨rfl, hW⟩)
      · skip
        have i_13 : ¬ r_12.toInt = 0 := by have h9 := pz_neq c_13; exact h9
        refine lv_aload_n hx hb dX3_failureOf_79 rfl (lv_at hl 1 rfl) ?_
        refine lv_iconst (v := 0) hx hb dX3_failureOf_80 (by decide) ?_
        refine S_putd S hK hW hS (k := k) (by omega) 7 (by decide) (by decide) (fun _ => rfl) iw_176 rfl rfl (by decide +kernel) rfl dr (fun x9 h9 => ⟨fun q => absurd q hnd_11, fun q => absurd (show gDr (0 : Int32) from q) (gDr_n (by decide))⟩) (fun _ _ => Iff.rfl) dX3_failureOf_81 (fun H locs hW hS => ?_)
        refine lv_goto (tgt := 95) hx hb dX3_failureOf_84 (by decide) ?_
        exact r_v hx hb hr hlocks hS dX3_failureOf_95 (⟨rfl, hW⟩)
  · skip
    have i_8 : (x_7 7).toInt = 0 := by have h9 := pz_eq c_8; exact h9
    have hnd_16 : ¬ dr k := fun q => gDr_n (Or.inl c_8) (hd_7.mp q)
    refine lv_aload_n hx hb dX3_failureOf_27 rfl (lv_at hl 1 rfl) ?_
    refine S_gp S hK hc_7 12 (by decide) (fun _ => rfl) iw_185 rfl dX3_failureOf_28 ?_
    refine lv_aload_n hx hb dX3_failureOf_31 rfl (lv_at hl 0 rfl) ?_
    refine D_get S hK hW 7 (by decide) (fun _ => rfl) iw_112 rfl dX3_failureOf_32 (fun x_18 hx_18 => ?_)
    replace hx_18 := hx_18 (by decide) (by decide)
    refine lv_icmp_lt (tgt := 64) hx hb dX3_failureOf_35 (by decide) (fun c_19 => ?_) (fun c_19 => ?_)
    · skip
      have i_19 : (x_7 12).toInt < x_18.toInt := by have h9 := pz_lt c_19; exact h9
      refine lv_aload_n hx hb dX3_failureOf_64 rfl (lv_at hl 1 rfl) ?_
      refine S_gp S hK hc_7 7 (by decide) (fun _ => rfl) iw_176 rfl dX3_failureOf_65 ?_
      refine lv_iconst (v := 2) hx hb dX3_failureOf_68 (by decide) ?_
      refine lv_icmp_ne (tgt := 95) hx hb dX3_failureOf_69 (by decide) (fun c_21 => ?_) (fun c_21 => ?_)
      · skip
        have i_21 : ¬ (x_7 7).toInt = 2 := by have h9 := pz_neq c_21; exact h9
        exact r_v hx hb hr hlocks hS dX3_failureOf_95 (⟨rfl, hW⟩)
      · skip
        have i_21 : (x_7 7).toInt = 2 := by have h9 := pz_eq c_21; exact h9
        have hnd_22 : ¬ dr k := fun q => gDr_n (Or.inr (Or.inr c_21)) (hd_7.mp q)
        refine lv_aload_n hx hb dX3_failureOf_72 rfl (lv_at hl 0 rfl) ?_
        refine c_v (Pw := Cw dC dI z A bs cp h0 la sA cA ns nc dr X P tr nl nq rs) (n := 0) (As := []) (rest := []) S (q_X3_oneMoreOutIsTooMany l dC dI z mi A bs cp h0 la sA cA ns nc dr X P tr nl nq rs) iw_561 iw_558 iw_560 iw_22 iw_57 (by decide +kernel) rfl ⟨rfl, rfl, Nat.le_of_ble_eq_true rfl, Nat.le_of_ble_eq_true rfl⟩ KZ.blind (D_recv hK hW) (hKZ.at hS (fun _ h9 => h9)) hW hl.1 rfl (Nat.le_of_ble_eq_true rfl) dX3_failureOf_73 ⟨Nat.le_refl _, Nat.le_refl _⟩ hS (fun _ h9 => h9) (fun v9 H locs hB hz9 hk9 hS => ?_)
        refine W.widen (k := 0) (n := 0) (Nat.le_refl 0) (Nat.le_refl 0) ?_
        obtain ⟨r_23, rfl, hW⟩ := hB
        refine W.eq (g2 := F0 m 76 ls [.int r_23]) rfl ?_
        refine lv_if_eq (tgt := 87) hx hb dX3_failureOf_76 (by decide) (fun c_24 => ?_) (fun c_24 => ?_)
        · skip
          have i_24 : r_23.toInt = 0 := by have h9 := pz_eq c_24; exact h9
          refine lv_aload_n hx hb dX3_failureOf_87 rfl (lv_at hl 1 rfl) ?_
          refine lv_aload_n hx hb dX3_failureOf_88 rfl (lv_at hl 0 rfl) ?_
          refine D_get S hK hW 5 (by decide) (fun _ => rfl) iw_110 rfl dX3_failureOf_89 (fun x_25 hx_25 => ?_)
          refine c_v (Pw := Cw dC dI z A bs cp h0 la sA cA ns nc dr X P tr nl nq rs) (n := 1) (As := [.int x_25]) (rest := []) S (q_X2_goOut l dC dI z mi A bs cp h0 la sA cA ns nc dr X P tr nl nq rs k x_25 (by omega) hnd_22) iw_565 iw_562 iw_563 iw_564 iw_62 (by decide +kernel) rfl ⟨rfl, rfl, Nat.le_of_ble_eq_true rfl, Nat.le_of_ble_eq_true rfl⟩ KZ.blind (S_recv hK hW (by omega)) (hKZ.at hS (fun _ h9 => h9)) hW hl.1 rfl (Nat.le_of_ble_eq_true rfl) dX3_failureOf_92 ⟨Nat.le_refl _, Nat.le_refl _⟩ hS (fun _ h9 => h9) (fun v9 H locs hB hz9 hk9 hS => ?_)
          refine W.widen (k := 0) (n := 0) (Nat.le_refl 0) (Nat.le_refl 0) ?_
          obtain ⟨rfl, hW⟩ := hB
          refine W.eq (g2 := F0 m 95 ls []) rfl ?_
          exact r_v hx hb hr hlocks hS dX3_failureOf_95 (⟨rfl, hW⟩)
        · skip
          have i_24 : ¬ r_23.toInt = 0 := by have h9 := pz_neq c_24; exact h9
          refine lv_aload_n hx hb dX3_failureOf_79 rfl (lv_at hl 1 rfl) ?_
          refine lv_iconst (v := 0) hx hb dX3_failureOf_80 (by decide) ?_
          refine S_putd S hK hW hS (k := k) (by omega) 7 (by decide) (by decide) (fun _ => rfl) iw_176 rfl rfl (by decide +kernel) rfl dr (fun x9 h9 => ⟨fun q => absurd q hnd_22, fun q => absurd (show gDr (0 : Int32) from q) (gDr_n (by decide))⟩) (fun _ _ => Iff.rfl) dX3_failureOf_81 (fun H locs hW hS => ?_)
          refine lv_goto (tgt := 95) hx hb dX3_failureOf_84 (by decide) ?_
          exact r_v hx hb hr hlocks hS dX3_failureOf_95 (⟨rfl, hW⟩)
    · skip
      have i_19 : (x_7 12).toInt ≥ x_18.toInt := by have h9 := pz_nlt c_19; exact h9
      refine lv_aload_n hx hb dX3_failureOf_38 rfl (lv_at hl 0 rfl) ?_
      refine c_v (Pw := Cw dC dI z A bs cp h0 la sA cA ns nc dr X P tr nl nq rs) (n := 0) (As := []) (rest := []) S (q_X3_oneMoreOutIsTooMany l dC dI z mi A bs cp h0 la sA cA ns nc dr X P tr nl nq rs) iw_561 iw_558 iw_560 iw_22 iw_57 (by decide +kernel) rfl ⟨rfl, rfl, Nat.le_of_ble_eq_true rfl, Nat.le_of_ble_eq_true rfl⟩ KZ.blind (D_recv hK hW) (hKZ.at hS (fun _ h9 => h9)) hW hl.1 rfl (Nat.le_of_ble_eq_true rfl) dX3_failureOf_39 ⟨Nat.le_refl _, Nat.le_refl _⟩ hS (fun _ h9 => h9) (fun v9 H locs hB hz9 hk9 hS => ?_)
      refine W.widen (k := 0) (n := 0) (Nat.le_refl 0) (Nat.le_refl 0) ?_
      obtain ⟨r_27, rfl, hW⟩ := hB
      refine W.eq (g2 := F0 m 42 ls [.int r_27]) rfl ?_
      refine lv_if_eq (tgt := 53) hx hb dX3_failureOf_42 (by decide) (fun c_28 => ?_) (fun c_28 => ?_)
      · skip
        have i_28 : r_27.toInt = 0 := by have h9 := pz_eq c_28; exact h9
        refine lv_aload_n hx hb dX3_failureOf_53 rfl (lv_at hl 1 rfl) ?_
        refine lv_aload_n hx hb dX3_failureOf_54 rfl (lv_at hl 0 rfl) ?_
        refine D_get S hK hW 5 (by decide) (fun _ => rfl) iw_110 rfl dX3_failureOf_55 (fun x_29 hx_29 => ?_)
        refine c_v (Pw := Cw dC dI z A bs cp h0 la sA cA ns nc dr X P tr nl nq rs) (n := 1) (As := [.int x_29]) (rest := []) S (q_X2_goOut l dC dI z mi A bs cp h0 la sA cA ns nc dr X P tr nl nq rs k x_29 (by omega) hnd_16) iw_565 iw_562 iw_563 iw_564 iw_62 (by decide +kernel) rfl ⟨rfl, rfl, Nat.le_of_ble_eq_true rfl, Nat.le_of_ble_eq_true rfl⟩ KZ.blind (S_recv hK hW (by omega)) (hKZ.at hS (fun _ h9 => h9)) hW hl.1 rfl (Nat.le_of_ble_eq_true rfl) dX3_failureOf_58 ⟨Nat.le_refl _, Nat.le_refl _⟩ hS (fun _ h9 => h9) (fun v9 H locs hB hz9 hk9 hS => ?_)
        refine W.widen (k := 0) (n := 0) (Nat.le_refl 0) (Nat.le_refl 0) ?_
        obtain ⟨rfl, hW⟩ := hB
        refine W.eq (g2 := F0 m 61 ls []) rfl ?_
        refine lv_goto (tgt := 95) hx hb dX3_failureOf_61 (by decide) ?_
        exact r_v hx hb hr hlocks hS dX3_failureOf_95 (⟨rfl, hW⟩)
      · skip
        have i_28 : ¬ r_27.toInt = 0 := by have h9 := pz_neq c_28; exact h9
        refine lv_aload_n hx hb dX3_failureOf_45 rfl (lv_at hl 1 rfl) ?_
        refine lv_iconst (v := 0) hx hb dX3_failureOf_46 (by decide) ?_
        refine S_put S hK hW hS (k := k) (by omega) 12 (by decide) (by decide) (by decide) (fun _ => rfl) iw_185 rfl rfl (by decide +kernel) rfl dX3_failureOf_47 (fun H locs hW hS => ?_)
        refine lv_goto (tgt := 95) hx hb dX3_failureOf_50 (by decide) ?_
        exact r_v hx hb hr hlocks hS dX3_failureOf_95 (⟨rfl, hW⟩)

abbrev B_q_X3_end (dC : Nat → ClassId) (dI : Nat → Nat → Nat) (z : Nat) (mi : Nat) (A : Nat → Prop) (bs : Nat) (cp : Nat) (h0 : Nat) (la : Nat → Nat) (sA : Nat → Nat) (cA : Nat → Nat) (ns : Nat) (nc : Nat) (dr : Nat → Prop) (X : Nat → Int32) (P : Nat → Prop) (tr : Nat → Int32) (nl : Nat) (nq : Nat) (rs : Nat) (k : Nat) (a2 : Int32) : Option Value → Heap → Prop := fun v H => v = none ∧ Cw dC dI z A bs cp h0 la sA cA ns nc dr X P tr nl nq rs H
set_option maxHeartbeats 8000000 in
set_option maxRecDepth 20000 in
theorem q_X3_end (l : Launch) (dC : Nat → ClassId) (dI : Nat → Nat → Nat) (z : Nat) (mi : Nat) (A : Nat → Prop) (bs : Nat) (cp : Nat) (h0 : Nat) (la : Nat → Nat) (sA : Nat → Nat) (cA : Nat → Nat) (ns : Nat) (nc : Nat) (dr : Nat → Prop) (X : Nat → Int32) (P : Nat → Prop) (tr : Nat → Int32) (nl : Nat) (nq : Nat) (rs : Nat) (k : Nat) (a2 : Int32) (hk : k < nc) : Met l yX3_end (cws yX3_end cX3_end 3 none) { frames := 0, cells := 0, slots := 0, locals := 0 } (va_Pc [.ref h0, .ref (cA k), .int a2] (fun U => KZ dC dI z mi A U ∧ Cw dC dI z A bs cp h0 la sA cA ns nc dr X P tr nl nq rs U.heap)) (Qg (B_q_X3_end dC dI z mi A bs cp h0 la sA cA ns nc dr X P tr nl nq rs k a2) A) 0 0 A := by
  refine m_start (KK := KZ dC dI z mi A) (Pw := Cw dC dI z A bs cp h0 la sA cA ns nc dr X P tr nl nq rs) (by decide) (Nat.le_of_ble_eq_true rfl) ?_
  intro p e s m below meth c ls S hr hlocks hin hKZ hW hS hl
  obtain ⟨hx, hb, hml, hown, hts⟩ := id S
  have hK := hKZ.1
  obtain ⟨hns, hnc, hnl, ag, hag, hXg, hnq⟩ := id hW.2.2.2.2.2.2
  have hl : lv_has ls 3 [(0, .ref h0), (1, .ref (cA k)), (2, .int a2)] := hl
  refine lv_aload_n hx hb dX3_end_0 rfl (lv_at hl 1 rfl) ?_
  refine lv_iload_n hx hb dX3_end_1 rfl (lv_at hl 2 rfl) ?_
  refine C_put S hK hW hS (k := k) (by omega) 6 (by decide) (by decide) (by decide) (fun _ _ _ => rfl) iw_368 rfl rfl (by decide +kernel) rfl dX3_end_2 (fun H locs hW hS => ?_)
  refine lv_aload_n hx hb dX3_end_5 rfl (lv_at hl 1 rfl) ?_
  refine lv_aload_n hx hb dX3_end_6 rfl (lv_at hl 0 rfl) ?_
  refine D_get S hK hW 5 (by decide) (fun _ => rfl) iw_110 rfl dX3_end_7 (fun x_2 hx_2 => ?_)
  refine C_put S hK hW hS (k := k) (by omega) 8 (by decide) (by decide) (by decide) (fun _ _ _ => rfl) iw_372 rfl rfl (by decide +kernel) rfl dX3_end_10 (fun H locs hW hS => ?_)
  refine lv_aload_n hx hb dX3_end_13 rfl (lv_at hl 0 rfl) ?_
  refine lv_dup hx hb dX3_end_14 rfl ?_
  refine D_get S hK hW 12 (by decide) (fun _ => rfl) iw_117 rfl dX3_end_15 (fun x_4 hx_4 => ?_)
  refine lv_iconst (v := 1) hx hb dX3_end_18 (by decide) ?_
  refine lv_iadd hx hb dX3_end_19 ?_
  refine lv_topi (fun x_5 _ => ?_)
  refine D_put S hK hW hS 12 (by decide) (by decide) (fun _ => rfl) iw_117 rfl rfl (by decide +kernel) rfl dX3_end_20 (fun H locs hW hS => ?_)
  exact r_v hx hb hr hlocks hS dX3_end_23 (⟨rfl, hW⟩)

abbrev B_q_X3_failByDue (dC : Nat → ClassId) (dI : Nat → Nat → Nat) (z : Nat) (mi : Nat) (A : Nat → Prop) (bs : Nat) (cp : Nat) (h0 : Nat) (la : Nat → Nat) (sA : Nat → Nat) (cA : Nat → Nat) (ns : Nat) (nc : Nat) (dr : Nat → Prop) (X : Nat → Int32) (P : Nat → Prop) (tr : Nat → Int32) (nl : Nat) (nq : Nat) (rs : Nat) (k : Nat) : Option Value → Heap → Prop := fun v H => v = none ∧ Cw dC dI z A bs cp h0 la sA cA ns nc dr X P tr nl nq rs H
set_option maxHeartbeats 8000000 in
set_option maxRecDepth 20000 in
theorem q_X3_failByDue (l : Launch) (dC : Nat → ClassId) (dI : Nat → Nat → Nat) (z : Nat) (mi : Nat) (A : Nat → Prop) (bs : Nat) (cp : Nat) (h0 : Nat) (la : Nat → Nat) (sA : Nat → Nat) (cA : Nat → Nat) (ns : Nat) (nc : Nat) (dr : Nat → Prop) (X : Nat → Int32) (P : Nat → Prop) (tr : Nat → Int32) (nl : Nat) (nq : Nat) (rs : Nat) (k : Nat) (hk : k < nc) : Met l yX3_failByDue (cws yX3_failByDue cX3_failByDue 4 none) { frames := 5, cells := 0, slots := 0, locals := 109 } (va_Pc [.ref h0, .ref (cA k)] (fun U => KZ dC dI z mi A U ∧ Cw dC dI z A bs cp h0 la sA cA ns nc dr X P tr nl nq rs U.heap)) (Qg (B_q_X3_failByDue dC dI z mi A bs cp h0 la sA cA ns nc dr X P tr nl nq rs k) A) 0 0 A := by
  refine m_start (KK := KZ dC dI z mi A) (Pw := Cw dC dI z A bs cp h0 la sA cA ns nc dr X P tr nl nq rs) (by decide) (Nat.le_of_ble_eq_true rfl) ?_
  intro p e s m below meth c ls S hr hlocks hin hKZ hW hS hl
  obtain ⟨hx, hb, hml, hown, hts⟩ := id S
  have hK := hKZ.1
  obtain ⟨hns, hnc, hnl, ag, hag, hXg, hnq⟩ := id hW.2.2.2.2.2.2
  have hl : lv_has ls 4 [(0, .ref h0), (1, .ref (cA k))] := hl
  refine lv_aload_n hx hb dX3_failByDue_0 rfl (lv_at hl 1 rfl) ?_
  obtain ⟨-, y_1, p_1, q_1, hc_1, ⟨h0_1, h7_1⟩, hp_1, hq_1⟩ := hW.2.2.2.1 k (by omega)
  refine C_gp (v := va_rf p_1) S hK hc_1 10 (by decide) rfl iw_376 rfl dX3_failByDue_1 ?_
  rcases p_1 with _ | a_1
  · skip
    refine W.eq (g2 := F0 m 4 ls [.null]) rfl ?_
    refine lv_astore_nN (lv' := [(2, .null), (0, .ref h0), (1, .ref (cA k))]) hx hb dX3_failByDue_4 rfl hl (by decide) rfl (fun ls hl => ?_)
    refine lv_aload_n hx hb dX3_failByDue_5 rfl (lv_at hl 2 rfl) ?_
    refine C_gp (v := va_rf q_1) S hK hc_1 11 (by decide) rfl iw_378 rfl dX3_failByDue_6 ?_
    rcases q_1 with _ | a_2
    · skip
      refine W.eq (g2 := F0 m 9 ls [.null]) rfl ?_
      refine lv_astore_nN (lv' := [(3, .null), (2, .null), (0, .ref h0), (1, .ref (cA k))]) hx hb dX3_failByDue_9 rfl hl (by decide) rfl (fun ls hl => ?_)
      refine lv_aload_n hx hb dX3_failByDue_10 rfl (lv_at hl 3 rfl) ?_
      refine c_v (Pw := Cw dC dI z A bs cp h0 la sA cA ns nc dr X P tr nl nq rs) (n := 0) (As := []) (rest := []) S (q_X1_callOffAll l dC dI z mi A bs cp h0 la sA cA ns nc dr X P tr nl nq rs k (by omega)) iw_520 iw_517 iw_518 iw_519 iw_69 (by decide +kernel) rfl ⟨rfl, rfl, Nat.le_of_ble_eq_true rfl, Nat.le_of_ble_eq_true rfl⟩ KZ.blind (C_recv hK hW (by omega)) (hKZ.at hS (fun _ h9 => h9)) hW hl.1 rfl (Nat.le_of_ble_eq_true rfl) dX3_failByDue_11 ⟨Nat.le_refl _, Nat.le_refl _⟩ hS (fun _ h9 => h9) (fun v9 H locs hB hz9 hk9 hS => ?_)
      refine W.widen (k := 0) (n := 0) (Nat.le_refl 0) (Nat.le_refl 0) ?_
      obtain ⟨rfl, hW⟩ := hB
      refine W.eq (g2 := F0 m 14 ls []) rfl ?_
      refine lv_aload_nN hx hb dX3_failByDue_14 rfl (lv_at hl 1 rfl) ?_
      refine lv_ifnullN (tgt := 26) hx hb dX3_failByDue_15 (by decide) ?_
      refine lv_aload_nN hx hb dX3_failByDue_26 rfl (lv_at hl 0 rfl) ?_
      refine lv_ifnullN (tgt := 38) hx hb dX3_failByDue_27 (by decide) ?_
      refine lv_aload_n hx hb dX3_failByDue_38 rfl (lv_at hl 2 rfl) ?_
      refine lv_aload_n hx hb dX3_failByDue_39 rfl (lv_at hl 3 rfl) ?_
      refine lv_iconst (v := 3) hx hb dX3_failByDue_40 (by decide) ?_
      refine c_v (Pw := Cw dC dI z A bs cp h0 la sA cA ns nc dr X P tr nl nq rs) (n := 2) (As := [.ref (cA k), .int 3]) (rest := []) S (q_X3_end l dC dI z mi A bs cp h0 la sA cA ns nc dr X P tr nl nq rs k 3 (by omega)) iw_528 iw_525 iw_527 iw_16 iw_57 (by decide +kernel) rfl ⟨rfl, rfl, Nat.le_of_ble_eq_true rfl, Nat.le_of_ble_eq_true rfl⟩ KZ.blind (D_recv hK hW) (hKZ.at hS (fun _ h9 => h9)) hW hl.1 rfl (Nat.le_of_ble_eq_true rfl) dX3_failByDue_41 ⟨Nat.le_refl _, Nat.le_refl _⟩ hS (fun _ h9 => h9) (fun v9 H locs hB hz9 hk9 hS => ?_)
      refine W.widen (k := 0) (n := 0) (Nat.le_refl 0) (Nat.le_refl 0) ?_
      obtain ⟨rfl, hW⟩ := hB
      refine W.eq (g2 := F0 m 44 ls []) rfl ?_
      exact r_v hx hb hr hlocks hS dX3_failByDue_44 (⟨rfl, hW⟩)
    · skip
      have hP_2 : P a_2 := hq_1 _ rfl
      refine W.eq (g2 := F0 m 9 ls [.ref a_2]) rfl ?_
      refine lv_astore_n (lv' := [(3, .ref a_2), (2, .null), (0, .ref h0), (1, .ref (cA k))]) hx hb dX3_failByDue_9 rfl hl (by decide) rfl (fun ls hl => ?_)
      refine lv_aload_n hx hb dX3_failByDue_10 rfl (lv_at hl 3 rfl) ?_
      refine c_v (Pw := Cw dC dI z A bs cp h0 la sA cA ns nc dr X P tr nl nq rs) (n := 0) (As := []) (rest := []) S (q_X1_callOffAll l dC dI z mi A bs cp h0 la sA cA ns nc dr X P tr nl nq rs k (by omega)) iw_520 iw_517 iw_518 iw_519 iw_69 (by decide +kernel) rfl ⟨rfl, rfl, Nat.le_of_ble_eq_true rfl, Nat.le_of_ble_eq_true rfl⟩ KZ.blind (C_recv hK hW (by omega)) (hKZ.at hS (fun _ h9 => h9)) hW hl.1 rfl (Nat.le_of_ble_eq_true rfl) dX3_failByDue_11 ⟨Nat.le_refl _, Nat.le_refl _⟩ hS (fun _ h9 => h9) (fun v9 H locs hB hz9 hk9 hS => ?_)
      refine W.widen (k := 0) (n := 0) (Nat.le_refl 0) (Nat.le_refl 0) ?_
      obtain ⟨rfl, hW⟩ := hB
      refine W.eq (g2 := F0 m 14 ls []) rfl ?_
      refine lv_aload_nN hx hb dX3_failByDue_14 rfl (lv_at hl 1 rfl) ?_
      refine lv_ifnullN (tgt := 26) hx hb dX3_failByDue_15 (by decide) ?_
      refine lv_aload_n hx hb dX3_failByDue_26 rfl (lv_at hl 0 rfl) ?_
      refine lv_ifnull hx hb dX3_failByDue_27 ?_
      refine lv_aload_n hx hb dX3_failByDue_30 rfl (lv_at hl 2 rfl) ?_
      refine lv_aload_n hx hb dX3_failByDue_31 rfl (lv_at hl 0 rfl) ?_
      refine A_get0 S hK hW hP_2 iw_456 rfl dX3_failByDue_32 (fun k_3 hk_3 => ?_)
      refine c_v (Pw := Cw dC dI z A bs cp h0 la sA cA ns nc dr X P tr nl nq rs) (n := 1) (As := [.ref (sA k_3)]) (rest := []) S (q_X3_failureOf l dC dI z mi A bs cp h0 la sA cA ns nc dr X P tr nl nq rs k_3 (by omega)) iw_557 iw_554 iw_556 iw_21 iw_57 (by decide +kernel) rfl ⟨rfl, rfl, Nat.le_of_ble_eq_true rfl, Nat.le_of_ble_eq_true rfl⟩ KZ.blind (D_recv hK hW) (hKZ.at hS (fun _ h9 => h9)) hW hl.1 rfl (Nat.le_of_ble_eq_true rfl) dX3_failByDue_35 ⟨Nat.le_refl _, Nat.le_refl _⟩ hS (fun _ h9 => h9) (fun v9 H locs hB hz9 hk9 hS => ?_)
      refine W.widen (k := 0) (n := 0) (Nat.le_refl 0) (Nat.le_refl 0) ?_
      obtain ⟨rfl, hW⟩ := hB
      refine W.eq (g2 := F0 m 38 ls []) rfl ?_
      refine lv_aload_n hx hb dX3_failByDue_38 rfl (lv_at hl 2 rfl) ?_
      refine lv_aload_n hx hb dX3_failByDue_39 rfl (lv_at hl 3 rfl) ?_
      refine lv_iconst (v := 3) hx hb dX3_failByDue_40 (by decide) ?_
      refine c_v (Pw := Cw dC dI z A bs cp h0 la sA cA ns nc dr X P tr nl nq rs) (n := 2) (As := [.ref (cA k), .int 3]) (rest := []) S (q_X3_end l dC dI z mi A bs cp h0 la sA cA ns nc dr X P tr nl nq rs k 3 (by omega)) iw_528 iw_525 iw_527 iw_16 iw_57 (by decide +kernel) rfl ⟨rfl, rfl, Nat.le_of_ble_eq_true rfl, Nat.le_of_ble_eq_true rfl⟩ KZ.blind (D_recv hK hW) (hKZ.at hS (fun _ h9 => h9)) hW hl.1 rfl (Nat.le_of_ble_eq_true rfl) dX3_failByDue_41 ⟨Nat.le_refl _, Nat.le_refl _⟩ hS (fun _ h9 => h9) (fun v9 H locs hB hz9 hk9 hS => ?_)
      refine W.widen (k := 0) (n := 0) (Nat.le_refl 0) (Nat.le_refl 0) ?_
      obtain ⟨rfl, hW⟩ := hB
      refine W.eq (g2 := F0 m 44 ls []) rfl ?_
      exact r_v hx hb hr hlocks hS dX3_failByDue_44 (⟨rfl, hW⟩)
  · skip
    have hP_1 : P a_1 := hp_1 _ rfl
    refine W.eq (g2 := F0 m 4 ls [.ref a_1]) rfl ?_
    refine lv_astore_n (lv' := [(2, .ref a_1), (0, .ref h0), (1, .ref (cA k))]) hx hb dX3_failByDue_4 rfl hl (by decide) rfl (fun ls hl => ?_)
    refine lv_aload_n hx hb dX3_failByDue_5 rfl (lv_at hl 2 rfl) ?_
    refine C_gp (v := va_rf q_1) S hK hc_1 11 (by decide) rfl iw_378 rfl dX3_failByDue_6 ?_
    rcases q_1 with _ | a_4
    · skip
      refine W.eq (g2 := F0 m 9 ls [.null]) rfl ?_
      refine lv_astore_nN (lv' := [(3, .null), (2, .ref a_1), (0, .ref h0), (1, .ref (cA k))]) hx hb dX3_failByDue_9 rfl hl (by decide) rfl (fun ls hl => ?_)
      refine lv_aload_n hx hb dX3_failByDue_10 rfl (lv_at hl 3 rfl) ?_
      refine c_v (Pw := Cw dC dI z A bs cp h0 la sA cA ns nc dr X P tr nl nq rs) (n := 0) (As := []) (rest := []) S (q_X1_callOffAll l dC dI z mi A bs cp h0 la sA cA ns nc dr X P tr nl nq rs k (by omega)) iw_520 iw_517 iw_518 iw_519 iw_69 (by decide +kernel) rfl ⟨rfl, rfl, Nat.le_of_ble_eq_true rfl, Nat.le_of_ble_eq_true rfl⟩ KZ.blind (C_recv hK hW (by omega)) (hKZ.at hS (fun _ h9 => h9)) hW hl.1 rfl (Nat.le_of_ble_eq_true rfl) dX3_failByDue_11 ⟨Nat.le_refl _, Nat.le_refl _⟩ hS (fun _ h9 => h9) (fun v9 H locs hB hz9 hk9 hS => ?_)
      refine W.widen (k := 0) (n := 0) (Nat.le_refl 0) (Nat.le_refl 0) ?_
      obtain ⟨rfl, hW⟩ := hB
      refine W.eq (g2 := F0 m 14 ls []) rfl ?_
      refine lv_aload_n hx hb dX3_failByDue_14 rfl (lv_at hl 1 rfl) ?_
      refine lv_ifnull hx hb dX3_failByDue_15 ?_
      refine lv_aload_n hx hb dX3_failByDue_18 rfl (lv_at hl 2 rfl) ?_
      refine lv_aload_n hx hb dX3_failByDue_19 rfl (lv_at hl 1 rfl) ?_
      refine A_get0 S hK hW hP_1 iw_456 rfl dX3_failByDue_20 (fun k_5 hk_5 => ?_)
      refine c_v (Pw := Cw dC dI z A bs cp h0 la sA cA ns nc dr X P tr nl nq rs) (n := 1) (As := [.ref (sA k_5)]) (rest := []) S (q_X3_failureOf l dC dI z mi A bs cp h0 la sA cA ns nc dr X P tr nl nq rs k_5 (by omega)) iw_557 iw_554 iw_556 iw_21 iw_57 (by decide +kernel) rfl ⟨rfl, rfl, Nat.le_of_ble_eq_true rfl, Nat.le_of_ble_eq_true rfl⟩ KZ.blind (D_recv hK hW) (hKZ.at hS (fun _ h9 => h9)) hW hl.1 rfl (Nat.le_of_ble_eq_true rfl) dX3_failByDue_23 ⟨Nat.le_refl _, Nat.le_refl _⟩ hS (fun _ h9 => h9) (fun v9 H locs hB hz9 hk9 hS => ?_)
      refine W.widen (k := 0) (n := 0) (Nat.le_refl 0) (Nat.le_refl 0) ?_
      obtain ⟨rfl, hW⟩ := hB
      refine W.eq (g2 := F0 m 26 ls []) rfl ?_
      refine lv_aload_nN hx hb dX3_failByDue_26 rfl (lv_at hl 0 rfl) ?_
      refine lv_ifnullN (tgt := 38) hx hb dX3_failByDue_27 (by decide) ?_
      refine lv_aload_n hx hb dX3_failByDue_38 rfl (lv_at hl 2 rfl) ?_
      refine lv_aload_n hx hb dX3_failByDue_39 rfl (lv_at hl 3 rfl) ?_
      refine lv_iconst (v := 3) hx hb dX3_failByDue_40 (by decide) ?_
      refine c_v (Pw := Cw dC dI z A bs cp h0 la sA cA ns nc dr X P tr nl nq rs) (n := 2) (As := [.ref (cA k), .int 3]) (rest := []) S (q_X3_end l dC dI z mi A bs cp h0 la sA cA ns nc dr X P tr nl nq rs k 3 (by omega)) iw_528 iw_525 iw_527 iw_16 iw_57 (by decide +kernel) rfl ⟨rfl, rfl, Nat.le_of_ble_eq_true rfl, Nat.le_of_ble_eq_true rfl⟩ KZ.blind (D_recv hK hW) (hKZ.at hS (fun _ h9 => h9)) hW hl.1 rfl (Nat.le_of_ble_eq_true rfl) dX3_failByDue_41 ⟨Nat.le_refl _, Nat.le_refl _⟩ hS (fun _ h9 => h9) (fun v9 H locs hB hz9 hk9 hS => ?_)
      refine W.widen (k := 0) (n := 0) (Nat.le_refl 0) (Nat.le_refl 0) ?_
      obtain ⟨rfl, hW⟩ := hB
      refine W.eq (g2 := F0 m 44 ls []) rfl ?_
      exact r_v hx hb hr hlocks hS dX3_failByDue_44 (⟨rfl, hW⟩)
    · skip
      have hP_4 : P a_4 := hq_1 _ rfl
      refine W.eq (g2 := F0 m 9 ls [.ref a_4]) rfl ?_
      refine lv_astore_n (lv' := [(3, .ref a_4), (2, .ref a_1), (0, .ref h0), (1, .ref (cA k))]) hx hb dX3_failByDue_9 rfl hl (by decide) rfl (fun ls hl => ?_)
      refine lv_aload_n hx hb dX3_failByDue_10 rfl (lv_at hl 3 rfl) ?_
      refine c_v (Pw := Cw dC dI z A bs cp h0 la sA cA ns nc dr X P tr nl nq rs) (n := 0) (As := []) (rest := []) S (q_X1_callOffAll l dC dI z mi A bs cp h0 la sA cA ns nc dr X P tr nl nq rs k (by omega)) iw_520 iw_517 iw_518 iw_519 iw_69 (by decide +kernel) rfl ⟨rfl, rfl, Nat.le_of_ble_eq_true rfl, Nat.le_of_ble_eq_true rfl⟩ KZ.blind (C_recv hK hW (by omega)) (hKZ.at hS (fun _ h9 => h9)) hW hl.1 rfl (Nat.le_of_ble_eq_true rfl) dX3_failByDue_11 ⟨Nat.le_refl _, Nat.le_refl _⟩ hS (fun _ h9 => h9) (fun v9 H locs hB hz9 hk9 hS => ?_)
      refine W.widen (k := 0) (n := 0) (Nat.le_refl 0) (Nat.le_refl 0) ?_
      obtain ⟨rfl, hW⟩ := hB
      refine W.eq (g2 := F0 m 14 ls []) rfl ?_
      refine lv_aload_n hx hb dX3_failByDue_14 rfl (lv_at hl 1 rfl) ?_
      refine lv_ifnull hx hb dX3_failByDue_15 ?_
      refine lv_aload_n hx hb dX3_failByDue_18 rfl (lv_at hl 2 rfl) ?_
      refine lv_aload_n hx hb dX3_failByDue_19 rfl (lv_at hl 1 rfl) ?_
      refine A_get0 S hK hW hP_1 iw_456 rfl dX3_failByDue_20 (fun k_6 hk_6 => ?_)
      refine c_v (Pw := Cw dC dI z A bs cp h0 la sA cA ns nc dr X P tr nl nq rs) (n := 1) (As := [.ref (sA k_6)]) (rest := []) S (q_X3_failureOf l dC dI z mi A bs cp h0 la sA cA ns nc dr X P tr nl nq rs k_6 (by omega)) iw_557 iw_554 iw_556 iw_21 iw_57 (by decide +kernel) rfl ⟨rfl, rfl, Nat.le_of_ble_eq_true rfl, Nat.le_of_ble_eq_true rfl⟩ KZ.blind (D_recv hK hW) (hKZ.at hS (fun _ h9 => h9)) hW hl.1 rfl (Nat.le_of_ble_eq_true rfl) dX3_failByDue_23 ⟨Nat.le_refl _, Nat.le_refl _⟩ hS (fun _ h9 => h9) (fun v9 H locs hB hz9 hk9 hS => ?_)
      refine W.widen (k := 0) (n := 0) (Nat.le_refl 0) (Nat.le_refl 0) ?_
      obtain ⟨rfl, hW⟩ := hB
      refine W.eq (g2 := F0 m 26 ls []) rfl ?_
      refine lv_aload_n hx hb dX3_failByDue_26 rfl (lv_at hl 0 rfl) ?_
      refine lv_ifnull hx hb dX3_failByDue_27 ?_
      refine lv_aload_n hx hb dX3_failByDue_30 rfl (lv_at hl 2 rfl) ?_
      refine lv_aload_n hx hb dX3_failByDue_31 rfl (lv_at hl 0 rfl) ?_
      refine A_get0 S hK hW hP_4 iw_456 rfl dX3_failByDue_32 (fun k_7 hk_7 => ?_)
      refine c_v (Pw := Cw dC dI z A bs cp h0 la sA cA ns nc dr X P tr nl nq rs) (n := 1) (As := [.ref (sA k_7)]) (rest := []) S (q_X3_failureOf l dC dI z mi A bs cp h0 la sA cA ns nc dr X P tr nl nq rs k_7 (by omega)) iw_557 iw_554 iw_556 iw_21 iw_57 (by decide +kernel) rfl ⟨rfl, rfl, Nat.le_of_ble_eq_true rfl, Nat.le_of_ble_eq_true rfl⟩ KZ.blind (D_recv hK hW) (hKZ.at hS (fun _ h9 => h9)) hW hl.1 rfl (Nat.le_of_ble_eq_true rfl) dX3_failByDue_35 ⟨Nat.le_refl _, Nat.le_refl _⟩ hS (fun _ h9 => h9) (fun v9 H locs hB hz9 hk9 hS => ?_)
      refine W.widen (k := 0) (n := 0) (Nat.le_refl 0) (Nat.le_refl 0) ?_
      obtain ⟨rfl, hW⟩ := hB
      refine W.eq (g2 := F0 m 38 ls []) rfl ?_
      refine lv_aload_n hx hb dX3_failByDue_38 rfl (lv_at hl 2 rfl) ?_
      refine lv_aload_n hx hb dX3_failByDue_39 rfl (lv_at hl 3 rfl) ?_
      refine lv_iconst (v := 3) hx hb dX3_failByDue_40 (by decide) ?_
      refine c_v (Pw := Cw dC dI z A bs cp h0 la sA cA ns nc dr X P tr nl nq rs) (n := 2) (As := [.ref (cA k), .int 3]) (rest := []) S (q_X3_end l dC dI z mi A bs cp h0 la sA cA ns nc dr X P tr nl nq rs k 3 (by omega)) iw_528 iw_525 iw_527 iw_16 iw_57 (by decide +kernel) rfl ⟨rfl, rfl, Nat.le_of_ble_eq_true rfl, Nat.le_of_ble_eq_true rfl⟩ KZ.blind (D_recv hK hW) (hKZ.at hS (fun _ h9 => h9)) hW hl.1 rfl (Nat.le_of_ble_eq_true rfl) dX3_failByDue_41 ⟨Nat.le_refl _, Nat.le_refl _⟩ hS (fun _ h9 => h9) (fun v9 H locs hB hz9 hk9 hS => ?_)
      refine W.widen (k := 0) (n := 0) (Nat.le_refl 0) (Nat.le_refl 0) ?_
      obtain ⟨rfl, hW⟩ := hB
      refine W.eq (g2 := F0 m 44 ls []) rfl ?_
      exact r_v hx hb hr hlocks hS dX3_failByDue_44 (⟨rfl, hW⟩)

abbrev B_q_X3_byTurn (dC : Nat → ClassId) (dI : Nat → Nat → Nat) (z : Nat) (mi : Nat) (A : Nat → Prop) (bs : Nat) (cp : Nat) (h0 : Nat) (la : Nat → Nat) (sA : Nat → Nat) (cA : Nat → Nat) (ns : Nat) (nc : Nat) (dr : Nat → Prop) (X : Nat → Int32) (P : Nat → Prop) (tr : Nat → Int32) (nl : Nat) (nq : Nat) (rs : Nat) (a1 : Int32) : Option Value → Heap → Prop := fun v H => ∃ o : Option Nat, v = some (va_rf o) ∧ (o = none ∨ ∃ k, k < ns ∧ o = some (sA k) ∧ (a1 >>> (nI k &&& 31)) &&& 1 = 0) ∧ Cw dC dI z A bs cp h0 la sA cA ns nc dr X P tr nl nq rs H
set_option maxHeartbeats 8000000 in
set_option maxRecDepth 20000 in
theorem q_X3_byTurn (l : Launch) (dC : Nat → ClassId) (dI : Nat → Nat → Nat) (z : Nat) (mi : Nat) (A : Nat → Prop) (bs : Nat) (cp : Nat) (h0 : Nat) (la : Nat → Nat) (sA : Nat → Nat) (cA : Nat → Nat) (ns : Nat) (nc : Nat) (dr : Nat → Prop) (X : Nat → Int32) (P : Nat → Prop) (tr : Nat → Int32) (nl : Nat) (nq : Nat) (rs : Nat) (a1 : Int32) : Met l yX3_byTurn (cws yX3_byTurn cX3_byTurn 5 (some (.object "FrontDoor$Server"))) { frames := 3, cells := 0, slots := 0, locals := 64 } (va_Pc [.ref h0, .int a1] (fun U => KZ dC dI z mi A U ∧ Cw dC dI z A bs cp h0 la sA cA ns nc dr X P tr nl nq rs U.heap)) (Qg (B_q_X3_byTurn dC dI z mi A bs cp h0 la sA cA ns nc dr X P tr nl nq rs a1) A) 0 0 A := by
  refine m_start (KK := KZ dC dI z mi A) (Pw := Cw dC dI z A bs cp h0 la sA cA ns nc dr X P tr nl nq rs) (by decide) (Nat.le_of_ble_eq_true rfl) ?_
  intro p e s m below meth c ls S hr hlocks hin hKZ hW hS hl
  obtain ⟨hx, hb, hml, hown, hts⟩ := id S
  have hK := hKZ.1
  obtain ⟨hns, hnc, hnl, ag, hag, hXg, hnq⟩ := id hW.2.2.2.2.2.2
  have hl : lv_has ls 5 [(0, .ref h0), (1, .int a1)] := hl
  refine lv_null hx hb dX3_byTurn_0 ?_
  refine lv_astore_nN (lv' := [(2, .null), (0, .ref h0), (1, .int a1)]) hx hb dX3_byTurn_1 rfl hl (by decide) rfl (fun ls hl => ?_)
  refine lv_iconst (v := 0) hx hb dX3_byTurn_2 (by decide) ?_
  refine lv_istore_n (lv' := [(3, .int 0), (2, .null), (0, .ref h0), (1, .int a1)]) hx hb dX3_byTurn_3 rfl hl (by decide) rfl (fun ls hl => ?_)
  have loop_B4 : ∀ (k9 : Nat) (j : Nat) (ob : Option Nat) (H : Heap) (locs : List Loc) (ls : Array Slot), ns - j = k9 → (j ≤ ns) → (∀ b, ob = some b → b < ns ∧ (a1 >>> (nI b &&& 31)) &&& 1 = 0) → Cw dC dI z A bs cp h0 la sA cA ns nc dr X P tr nl nq rs H → va_S A s.heap H locs → lv_has ls 5 [(0, .ref h0), (1, .int a1), (2, va_rf (Option.map sA ob)), (3, .int (nI j))] → W p l e { frames := 3, cells := 0, slots := 0, locals := 64 } s m ([.ref h0, .int a1] : List Value).toArray below meth c H locs 0 0 (MQ below (Qg (B_q_X3_byTurn dC dI z mi A bs cp h0 la sA cA ns nc dr X P tr nl nq rs a1) A) ([.ref h0, .int a1] : List Value).toArray s 0 0 A) (F0 m 4 ls []) := by
    intro k9
    induction k9 using Nat.strongRecOn with
    | ind k9 ih_B4 =>
      intro j ob H locs ls hm_B4 hle_j hbb hW hS hl
      have en_j : (nI j).toInt = ((j : Nat) : Int) := pz_ti (by omega)
      rcases ob with _ | b
      · skip
        have hl : lv_has ls 5 [(0, .ref h0), (1, .int a1), (2, .null), (3, .int (nI j))] := hl
        refine lv_iload_n hx hb dX3_byTurn_4 rfl (lv_at hl 3 rfl) ?_
        refine lv_aload_n hx hb dX3_byTurn_5 rfl (lv_at hl 0 rfl) ?_
        refine D_getl S hK hW 0 (by decide) (fun _ => rfl) iw_105 rfl dX3_byTurn_6 ?_
        refine L_size (rest := [.int (nI j)]) S hKZ hW hS (i := 0) (by decide) hl.1 (Nat.le_of_ble_eq_true rfl) dX3_byTurn_9 ⟨Nat.le_of_ble_eq_true rfl, Nat.le_of_ble_eq_true rfl⟩ ⟨Nat.le_refl _, Nat.le_refl _⟩ (fun H locs hW hS => ?_)
        refine W.eq (g2 := F0 m 12 ls [.int (nI ns), .int (nI j)]) rfl ?_
        obtain ⟨hns, hnc, hnl, ag_2, hag_2, -, hnq⟩ := id hW.2.2.2.2.2.2
        have en_3 : (nI ns).toInt = ((ns : Nat) : Int) := pz_ti (by omega)
        refine lv_icmp_ge (tgt := 73) hx hb dX3_byTurn_12 (by decide) (fun c_4 => ?_) (fun c_4 => ?_)
        · skip
          have i_4 : (nI j).toInt ≥ (nI ns).toInt := by have h9 := pz_ge c_4; exact h9
          refine lv_aload_nN hx hb dX3_byTurn_73 rfl (lv_at hl 2 rfl) ?_
          exact r_a (o := none) hx hb hr (Or.inl ⟨_, rfl⟩) hlocks hS dX3_byTurn_74 (⟨none, rfl, Or.inl rfl, hW⟩)
        · skip
          have i_4 : (nI j).toInt < (nI ns).toInt := by have h9 := pz_nge c_4; exact h9
          refine lv_aload_n hx hb dX3_byTurn_15 rfl (lv_at hl 0 rfl) ?_
          refine D_getl S hK hW 0 (by decide) (fun _ => rfl) iw_105 rfl dX3_byTurn_16 ?_
          refine lv_iload_n hx hb dX3_byTurn_19 rfl (lv_at hl 3 rfl) ?_
          refine L_get (rest := []) S hKZ hW hS (i := 0) (t := j) (by decide) (by show j < ns; omega) hl.1 (Nat.le_of_ble_eq_true rfl) dX3_byTurn_20 ⟨Nat.le_of_ble_eq_true rfl, Nat.le_of_ble_eq_true rfl⟩ ⟨Nat.le_refl _, Nat.le_refl _⟩ (fun r_6 H locs hr_6 hW hS => ?_)
          obtain rfl : r_6 = sA j := hr_6
          refine S_cast S hK hW (k := j) (by omega) iw_158 dX3_byTurn_23 ?_
          refine lv_astore (lv' := [(4, .ref (sA j)), (0, .ref h0), (1, .int a1), (2, .null), (3, .int (nI j))]) hx hb dX3_byTurn_26 hl (by decide) rfl (fun ls hl => ?_)
          refine lv_aload hx hb dX3_byTurn_28 (lv_at hl 0 rfl) ?_
          refine lv_iload_n hx hb dX3_byTurn_30 rfl (lv_at hl 2 rfl) ?_
          refine c_v (Pw := Cw dC dI z A bs cp h0 la sA cA ns nc dr X P tr nl nq rs) (n := 1) (As := [.int a1]) (rest := []) S (q_X2_mayBeAsked l dC dI z mi A bs cp h0 la sA cA ns nc dr X P tr nl nq rs j a1 (by omega)) iw_419 iw_416 iw_417 iw_418 iw_62 (by decide +kernel) rfl ⟨rfl, rfl, Nat.le_of_ble_eq_true rfl, Nat.le_of_ble_eq_true rfl⟩ KZ.blind (S_recv hK hW (by omega)) (hKZ.at hS (fun _ h9 => h9)) hW hl.1 rfl (Nat.le_of_ble_eq_true rfl) dX3_byTurn_31 ⟨Nat.le_refl _, Nat.le_refl _⟩ hS (fun _ h9 => h9) (fun v9 H locs hB hz9 hk9 hS => ?_)
          refine W.widen (k := 0) (n := 0) (Nat.le_refl 0) (Nat.le_refl 0) ?_
          obtain ⟨r_8, rfl, hm_8, hW⟩ := hB
          refine W.eq (g2 := F0 m 34 ls [.int r_8]) rfl ?_
          rcases hm_8 with rfl | ⟨rfl, hm_8⟩
          · skip
            refine lv_if_eq (tgt := 67) hx hb dX3_byTurn_34 (by decide) (fun c_9 => ?_) (fun c_9 => absurd (by decide) c_9)
            obtain ⟨y_10, ey_10⟩ : ∃ y : Int32, y = (nI j) + 1 := ⟨_, rfl⟩
            refine lv_iinc (v := y_10) (lv' := [(3, .int y_10), (4, .ref (sA j)), (0, .ref h0), (1, .int a1), (2, .null)]) hx hb dX3_byTurn_67 hl (k := 4) rfl (by rw [ey_10]; rfl) (by decide) rfl (fun ls hl => ?_)
            obtain rfl : y_10 = nI (j + 1) := ey_10.trans (nI_1 j)
            have en_11 : (nI (j + 1)).toInt = ((j + 1 : Nat) : Int) := pz_ti (by omega)
            refine lv_goto (tgt := 4) hx hb dX3_byTurn_70 (by decide) ?_
            exact ih_B4 _ (by omega) (j + 1) none _ _ ls rfl (by omega) (fun b9 h9 => by cases h9) hW hS (lv_sub hl [2, 3, 4, 0] rfl)
          · skip
            refine lv_if_eq (tgt := 67) hx hb dX3_byTurn_34 (by decide) (fun c_12 => absurd c_12 (by decide)) (fun c_12 => ?_)
            refine lv_aload_nN hx hb dX3_byTurn_37 rfl (lv_at hl 3 rfl) ?_
            refine lv_ifnullN (tgt := 64) hx hb dX3_byTurn_38 (by decide) ?_
            refine lv_aload hx hb dX3_byTurn_64 (lv_at hl 0 rfl) ?_
            refine lv_astore_n (lv' := [(2, .ref (sA j)), (4, .ref (sA j)), (0, .ref h0), (1, .int a1), (3, .int (nI j))]) hx hb dX3_byTurn_66 rfl hl (by decide) rfl (fun ls hl => ?_)
            obtain ⟨y_13, ey_13⟩ : ∃ y : Int32, y = (nI j) + 1 := ⟨_, rfl⟩
            refine lv_iinc (v := y_13) (lv' := [(3, .int y_13), (2, .ref (sA j)), (4, .ref (sA j)), (0, .ref h0), (1, .int a1)]) hx hb dX3_byTurn_67 hl (k := 4) rfl (by rw [ey_13]; rfl) (by decide) rfl (fun ls hl => ?_)
            obtain rfl : y_13 = nI (j + 1) := ey_13.trans (nI_1 j)
            have en_14 : (nI (j + 1)).toInt = ((j + 1 : Nat) : Int) := pz_ti (by omega)
            refine lv_goto (tgt := 4) hx hb dX3_byTurn_70 (by decide) ?_
            exact ih_B4 _ (by omega) (j + 1) (some j) _ _ ls rfl (by omega) (fun b9 h9 => by cases h9; exact ⟨by omega, hm_8⟩) hW hS (lv_sub hl [3, 4, 1, 0] rfl)
      · skip
        have hl : lv_has ls 5 [(0, .ref h0), (1, .int a1), (2, .ref (sA b)), (3, .int (nI j))] := hl
        obtain ⟨hbn, hbm⟩ := hbb b rfl
        refine lv_iload_n hx hb dX3_byTurn_4 rfl (lv_at hl 3 rfl) ?_
        refine lv_aload_n hx hb dX3_byTurn_5 rfl (lv_at hl 0 rfl) ?_
        refine D_getl S hK hW 0 (by decide) (fun _ => rfl) iw_105 rfl dX3_byTurn_6 ?_
        refine L_size (rest := [.int (nI j)]) S hKZ hW hS (i := 0) (by decide) hl.1 (Nat.le_of_ble_eq_true rfl) dX3_byTurn_9 ⟨Nat.le_of_ble_eq_true rfl, Nat.le_of_ble_eq_true rfl⟩ ⟨Nat.le_refl _, Nat.le_refl _⟩ (fun H locs hW hS => ?_)
        refine W.eq (g2 := F0 m 12 ls [.int (nI ns), .int (nI j)]) rfl ?_
        obtain ⟨hns, hnc, hnl, ag_16, hag_16, -, hnq⟩ := id hW.2.2.2.2.2.2
        have en_17 : (nI ns).toInt = ((ns : Nat) : Int) := pz_ti (by omega)
        refine lv_icmp_ge (tgt := 73) hx hb dX3_byTurn_12 (by decide) (fun c_18 => ?_) (fun c_18 => ?_)
        · skip
          have i_18 : (nI j).toInt ≥ (nI ns).toInt := by have h9 := pz_ge c_18; exact h9
          refine lv_aload_n hx hb dX3_byTurn_73 rfl (lv_at hl 2 rfl) ?_
          exact r_a (o := some (sA b)) hx hb hr (Or.inl ⟨_, rfl⟩) hlocks hS dX3_byTurn_74 (⟨_, rfl, Or.inr ⟨b, by omega, rfl, hbm⟩, hW⟩)
        · skip
          have i_18 : (nI j).toInt < (nI ns).toInt := by have h9 := pz_nge c_18; exact h9
          refine lv_aload_n hx hb dX3_byTurn_15 rfl (lv_at hl 0 rfl) ?_
          refine D_getl S hK hW 0 (by decide) (fun _ => rfl) iw_105 rfl dX3_byTurn_16 ?_
          refine lv_iload_n hx hb dX3_byTurn_19 rfl (lv_at hl 3 rfl) ?_
          refine L_get (rest := []) S hKZ hW hS (i := 0) (t := j) (by decide) (by show j < ns; omega) hl.1 (Nat.le_of_ble_eq_true rfl) dX3_byTurn_20 ⟨Nat.le_of_ble_eq_true rfl, Nat.le_of_ble_eq_true rfl⟩ ⟨Nat.le_refl _, Nat.le_refl _⟩ (fun r_20 H locs hr_20 hW hS => ?_)
          obtain rfl : r_20 = sA j := hr_20
          refine S_cast S hK hW (k := j) (by omega) iw_158 dX3_byTurn_23 ?_
          refine lv_astore (lv' := [(4, .ref (sA j)), (0, .ref h0), (1, .int a1), (2, .ref (sA b)), (3, .int (nI j))]) hx hb dX3_byTurn_26 hl (by decide) rfl (fun ls hl => ?_)
          refine lv_aload hx hb dX3_byTurn_28 (lv_at hl 0 rfl) ?_
          refine lv_iload_n hx hb dX3_byTurn_30 rfl (lv_at hl 2 rfl) ?_
          refine c_v (Pw := Cw dC dI z A bs cp h0 la sA cA ns nc dr X P tr nl nq rs) (n := 1) (As := [.int a1]) (rest := []) S (q_X2_mayBeAsked l dC dI z mi A bs cp h0 la sA cA ns nc dr X P tr nl nq rs j a1 (by omega)) iw_419 iw_416 iw_417 iw_418 iw_62 (by decide +kernel) rfl ⟨rfl, rfl, Nat.le_of_ble_eq_true rfl, Nat.le_of_ble_eq_true rfl⟩ KZ.blind (S_recv hK hW (by omega)) (hKZ.at hS (fun _ h9 => h9)) hW hl.1 rfl (Nat.le_of_ble_eq_true rfl) dX3_byTurn_31 ⟨Nat.le_refl _, Nat.le_refl _⟩ hS (fun _ h9 => h9) (fun v9 H locs hB hz9 hk9 hS => ?_)
          refine W.widen (k := 0) (n := 0) (Nat.le_refl 0) (Nat.le_refl 0) ?_
          obtain ⟨r_22, rfl, hm_22, hW⟩ := hB
          refine W.eq (g2 := F0 m 34 ls [.int r_22]) rfl ?_
          rcases hm_22 with rfl | ⟨rfl, hm_22⟩
          · skip
            refine lv_if_eq (tgt := 67) hx hb dX3_byTurn_34 (by decide) (fun c_23 => ?_) (fun c_23 => absurd (by decide) c_23)
            obtain ⟨y_24, ey_24⟩ : ∃ y : Int32, y = (nI j) + 1 := ⟨_, rfl⟩
            refine lv_iinc (v := y_24) (lv' := [(3, .int y_24), (4, .ref (sA j)), (0, .ref h0), (1, .int a1), (2, .ref (sA b))]) hx hb dX3_byTurn_67 hl (k := 4) rfl (by rw [ey_24]; rfl) (by decide) rfl (fun ls hl => ?_)
            obtain rfl : y_24 = nI (j + 1) := ey_24.trans (nI_1 j)
            have en_25 : (nI (j + 1)).toInt = ((j + 1 : Nat) : Int) := pz_ti (by omega)
            refine lv_goto (tgt := 4) hx hb dX3_byTurn_70 (by decide) ?_
            exact ih_B4 _ (by omega) (j + 1) (some b) _ _ ls rfl (by omega) (fun b9 h9 => by cases h9; exact ⟨by omega, hbm⟩) hW hS (lv_sub hl [2, 3, 4, 0] rfl)
          · skip
            refine lv_if_eq (tgt := 67) hx hb dX3_byTurn_34 (by decide) (fun c_26 => absurd c_26 (by decide)) (fun c_26 => ?_)
            refine lv_aload_n hx hb dX3_byTurn_37 rfl (lv_at hl 3 rfl) ?_
            refine lv_ifnull hx hb dX3_byTurn_38 ?_
            refine lv_aload hx hb dX3_byTurn_41 (lv_at hl 0 rfl) ?_
            obtain ⟨-, x_27, hc_27, h0_27, hd_27⟩ := hW.2.2.1 j (by omega)
            refine S_gp S hK hc_27 16 (by decide) (fun _ => rfl) iw_193 rfl dX3_byTurn_43 ?_
            refine lv_aload hx hb dX3_byTurn_46 (lv_at hl 0 rfl) ?_
            refine S_gp S hK hc_27 2 (by decide) (fun _ => rfl) iw_170 rfl dX3_byTurn_48 ?_
            refine lv_iadd hx hb dX3_byTurn_51 ?_
            refine lv_topi (fun x_29 _ => ?_)
            refine lv_aload_n hx hb dX3_byTurn_52 rfl (lv_at hl 3 rfl) ?_
            obtain ⟨-, x_30, hc_30, h0_30, hd_30⟩ := hW.2.2.1 b (by omega)
            refine S_gp S hK hc_30 16 (by decide) (fun _ => rfl) iw_193 rfl dX3_byTurn_53 ?_
            refine lv_aload_n hx hb dX3_byTurn_56 rfl (lv_at hl 3 rfl) ?_
            refine S_gp S hK hc_30 2 (by decide) (fun _ => rfl) iw_170 rfl dX3_byTurn_57 ?_
            refine lv_iadd hx hb dX3_byTurn_60 ?_
            refine lv_topi (fun x_32 _ => ?_)
            refine lv_icmp_le (tgt := 67) hx hb dX3_byTurn_61 (by decide) (fun c_33 => ?_) (fun c_33 => ?_)
            · skip
              have i_33 : x_29.toInt ≤ x_32.toInt := by have h9 := pz_le c_33; exact h9
              obtain ⟨y_34, ey_34⟩ : ∃ y : Int32, y = (nI j) + 1 := ⟨_, rfl⟩
              refine lv_iinc (v := y_34) (lv' := [(3, .int y_34), (4, .ref (sA j)), (0, .ref h0), (1, .int a1), (2, .ref (sA b))]) hx hb dX3_byTurn_67 hl (k := 4) rfl (by rw [ey_34]; rfl) (by decide) rfl (fun ls hl => ?_)
              obtain rfl : y_34 = nI (j + 1) := ey_34.trans (nI_1 j)
              have en_35 : (nI (j + 1)).toInt = ((j + 1 : Nat) : Int) := pz_ti (by omega)
              refine lv_goto (tgt := 4) hx hb dX3_byTurn_70 (by decide) ?_
              exact ih_B4 _ (by omega) (j + 1) (some b) _ _ ls rfl (by omega) (fun b9 h9 => by cases h9; exact ⟨by omega, hbm⟩) hW hS (lv_sub hl [2, 3, 4, 0] rfl)
            · skip
              have i_33 : x_29.toInt > x_32.toInt := by have h9 := pz_nle c_33; exact h9
              refine lv_aload hx hb dX3_byTurn_64 (lv_at hl 0 rfl) ?_
              refine lv_astore_n (lv' := [(2, .ref (sA j)), (4, .ref (sA j)), (0, .ref h0), (1, .int a1), (3, .int (nI j))]) hx hb dX3_byTurn_66 rfl hl (by decide) rfl (fun ls hl => ?_)
              obtain ⟨y_36, ey_36⟩ : ∃ y : Int32, y = (nI j) + 1 := ⟨_, rfl⟩
              refine lv_iinc (v := y_36) (lv' := [(3, .int y_36), (2, .ref (sA j)), (4, .ref (sA j)), (0, .ref h0), (1, .int a1)]) hx hb dX3_byTurn_67 hl (k := 4) rfl (by rw [ey_36]; rfl) (by decide) rfl (fun ls hl => ?_)
              obtain rfl : y_36 = nI (j + 1) := ey_36.trans (nI_1 j)
              have en_37 : (nI (j + 1)).toInt = ((j + 1 : Nat) : Int) := pz_ti (by omega)
              refine lv_goto (tgt := 4) hx hb dX3_byTurn_70 (by decide) ?_
              exact ih_B4 _ (by omega) (j + 1) (some j) _ _ ls rfl (by omega) (fun b9 h9 => by cases h9; exact ⟨by omega, hm_22⟩) hW hS (lv_sub hl [3, 4, 1, 0] rfl)
  exact loop_B4 _ 0 none _ _ ls rfl (by omega) (fun b9 h9 => by cases h9) hW hS (lv_sub hl [2, 3, 1, 0] rfl)

abbrev B_q_X3_byFewest (dC : Nat → ClassId) (dI : Nat → Nat → Nat) (z : Nat) (mi : Nat) (A : Nat → Prop) (bs : Nat) (cp : Nat) (h0 : Nat) (la : Nat → Nat) (sA : Nat → Nat) (cA : Nat → Nat) (ns : Nat) (nc : Nat) (dr : Nat → Prop) (X : Nat → Int32) (P : Nat → Prop) (tr : Nat → Int32) (nl : Nat) (nq : Nat) (rs : Nat) (a1 : Int32) (a2 : Int32) : Option Value → Heap → Prop := fun v H => ∃ o : Option Nat, v = some (va_rf o) ∧ (o = none ∨ ∃ k, k < ns ∧ o = some (sA k) ∧ (a1 >>> (nI k &&& 31)) &&& 1 = 0) ∧ Cw dC dI z A bs cp h0 la sA cA ns nc dr X P tr nl nq rs H
set_option maxHeartbeats 8000000 in
set_option maxRecDepth 20000 in
theorem q_X3_byFewest (l : Launch) (dC : Nat → ClassId) (dI : Nat → Nat → Nat) (z : Nat) (mi : Nat) (A : Nat → Prop) (bs : Nat) (cp : Nat) (h0 : Nat) (la : Nat → Nat) (sA : Nat → Nat) (cA : Nat → Nat) (ns : Nat) (nc : Nat) (dr : Nat → Prop) (X : Nat → Int32) (P : Nat → Prop) (tr : Nat → Int32) (nl : Nat) (nq : Nat) (rs : Nat) (a1 : Int32) (a2 : Int32) : Met l yX3_byFewest (cws yX3_byFewest cX3_byFewest 7 (some (.object "FrontDoor$Server"))) { frames := 3, cells := 0, slots := 0, locals := 64 } (va_Pc [.ref h0, .int a1, .int a2] (fun U => KZ dC dI z mi A U ∧ Cw dC dI z A bs cp h0 la sA cA ns nc dr X P tr nl nq rs U.heap)) (Qg (B_q_X3_byFewest dC dI z mi A bs cp h0 la sA cA ns nc dr X P tr nl nq rs a1 a2) A) 0 0 A := by
  refine m_start (KK := KZ dC dI z mi A) (Pw := Cw dC dI z A bs cp h0 la sA cA ns nc dr X P tr nl nq rs) (by decide) (Nat.le_of_ble_eq_true rfl) ?_
  intro p e s m below meth c ls S hr hlocks hin hKZ hW hS hl
  obtain ⟨hx, hb, hml, hown, hts⟩ := id S
  have hK := hKZ.1
  obtain ⟨hns, hnc, hnl, ag, hag, hXg, hnq⟩ := id hW.2.2.2.2.2.2
  have hl : lv_has ls 7 [(0, .ref h0), (1, .int a1), (2, .int a2)] := hl
  refine lv_null hx hb dX3_byFewest_0 ?_
  refine lv_astore_nN (lv' := [(3, .null), (0, .ref h0), (1, .int a1), (2, .int a2)]) hx hb dX3_byFewest_1 rfl hl (by decide) rfl (fun ls hl => ?_)
  refine lv_iconst (v := 0) hx hb dX3_byFewest_2 (by decide) ?_
  refine lv_istore (lv' := [(4, .int 0), (3, .null), (0, .ref h0), (1, .int a1), (2, .int a2)]) hx hb dX3_byFewest_3 hl (by decide) rfl (fun ls hl => ?_)
  have loop_B5 : ∀ (k9 : Nat) (j : Nat) (ob : Option Nat) (H : Heap) (locs : List Loc) (ls : Array Slot), ns - j = k9 → (j ≤ ns) → (∀ b, ob = some b → b < ns ∧ (a1 >>> (nI b &&& 31)) &&& 1 = 0) → Cw dC dI z A bs cp h0 la sA cA ns nc dr X P tr nl nq rs H → va_S A s.heap H locs → lv_has ls 7 [(0, .ref h0), (1, .int a1), (2, .int a2), (3, va_rf (Option.map sA ob)), (4, .int (nI j))] → W p l e { frames := 3, cells := 0, slots := 0, locals := 64 } s m ([.ref h0, .int a1, .int a2] : List Value).toArray below meth c H locs 0 0 (MQ below (Qg (B_q_X3_byFewest dC dI z mi A bs cp h0 la sA cA ns nc dr X P tr nl nq rs a1 a2) A) ([.ref h0, .int a1, .int a2] : List Value).toArray s 0 0 A) (F0 m 5 ls []) := by
    intro k9
    induction k9 using Nat.strongRecOn with
    | ind k9 ih_B5 =>
      intro j ob H locs ls hm_B5 hle_j hbb hW hS hl
      have en_j : (nI j).toInt = ((j : Nat) : Int) := pz_ti (by omega)
      rcases ob with _ | b
      · skip
        have hl : lv_has ls 7 [(0, .ref h0), (1, .int a1), (2, .int a2), (3, .null), (4, .int (nI j))] := hl
        refine lv_iload hx hb dX3_byFewest_5 (lv_at hl 4 rfl) ?_
        refine lv_aload_n hx hb dX3_byFewest_7 rfl (lv_at hl 0 rfl) ?_
        refine D_getl S hK hW 0 (by decide) (fun _ => rfl) iw_105 rfl dX3_byFewest_8 ?_
        refine L_size (rest := [.int (nI j)]) S hKZ hW hS (i := 0) (by decide) hl.1 (Nat.le_of_ble_eq_true rfl) dX3_byFewest_11 ⟨Nat.le_of_ble_eq_true rfl, Nat.le_of_ble_eq_true rfl⟩ ⟨Nat.le_refl _, Nat.le_refl _⟩ (fun H locs hW hS => ?_)
        refine W.eq (g2 := F0 m 14 ls [.int (nI ns), .int (nI j)]) rfl ?_
        obtain ⟨hns, hnc, hnl, ag_2, hag_2, -, hnq⟩ := id hW.2.2.2.2.2.2
        have en_3 : (nI ns).toInt = ((ns : Nat) : Int) := pz_ti (by omega)
        refine lv_icmp_ge (tgt := 102) hx hb dX3_byFewest_14 (by decide) (fun c_4 => ?_) (fun c_4 => ?_)
        · skip
          have i_4 : (nI j).toInt ≥ (nI ns).toInt := by have h9 := pz_ge c_4; exact h9
          refine lv_aload_nN hx hb dX3_byFewest_102 rfl (lv_at hl 3 rfl) ?_
          exact r_a (o := none) hx hb hr (Or.inl ⟨_, rfl⟩) hlocks hS dX3_byFewest_103 (⟨none, rfl, Or.inl rfl, hW⟩)
        · skip
          have i_4 : (nI j).toInt < (nI ns).toInt := by have h9 := pz_nge c_4; exact h9
          refine lv_aload_n hx hb dX3_byFewest_17 rfl (lv_at hl 0 rfl) ?_
          refine D_getl S hK hW 0 (by decide) (fun _ => rfl) iw_105 rfl dX3_byFewest_18 ?_
          refine lv_iload hx hb dX3_byFewest_21 (lv_at hl 4 rfl) ?_
          refine L_get (rest := []) S hKZ hW hS (i := 0) (t := j) (by decide) (by show j < ns; omega) hl.1 (Nat.le_of_ble_eq_true rfl) dX3_byFewest_23 ⟨Nat.le_of_ble_eq_true rfl, Nat.le_of_ble_eq_true rfl⟩ ⟨Nat.le_refl _, Nat.le_refl _⟩ (fun r_6 H locs hr_6 hW hS => ?_)
          obtain rfl : r_6 = sA j := hr_6
          refine S_cast S hK hW (k := j) (by omega) iw_158 dX3_byFewest_26 ?_
          refine lv_astore (lv' := [(5, .ref (sA j)), (0, .ref h0), (1, .int a1), (2, .int a2), (3, .null), (4, .int (nI j))]) hx hb dX3_byFewest_29 hl (by decide) rfl (fun ls hl => ?_)
          refine lv_iload_n hx hb dX3_byFewest_31 rfl (lv_at hl 3 rfl) ?_
          refine lv_iconst (v := (-1)) hx hb dX3_byFewest_32 (by decide) ?_
          refine lv_icmp_eq (tgt := 45) hx hb dX3_byFewest_33 (by decide) (fun c_8 => ?_) (fun c_8 => ?_)
          · skip
            have i_8 : a2.toInt = -1 := by have h9 := pz_eq c_8; exact h9
            refine lv_aload hx hb dX3_byFewest_45 (lv_at hl 0 rfl) ?_
            refine lv_iload_n hx hb dX3_byFewest_47 rfl (lv_at hl 2 rfl) ?_
            refine c_v (Pw := Cw dC dI z A bs cp h0 la sA cA ns nc dr X P tr nl nq rs) (n := 1) (As := [.int a1]) (rest := []) S (q_X2_mayBeAsked l dC dI z mi A bs cp h0 la sA cA ns nc dr X P tr nl nq rs j a1 (by omega)) iw_419 iw_416 iw_417 iw_418 iw_62 (by decide +kernel) rfl ⟨rfl, rfl, Nat.le_of_ble_eq_true rfl, Nat.le_of_ble_eq_true rfl⟩ KZ.blind (S_recv hK hW (by omega)) (hKZ.at hS (fun _ h9 => h9)) hW hl.1 rfl (Nat.le_of_ble_eq_true rfl) dX3_byFewest_48 ⟨Nat.le_refl _, Nat.le_refl _⟩ hS (fun _ h9 => h9) (fun v9 H locs hB hz9 hk9 hS => ?_)
            refine W.widen (k := 0) (n := 0) (Nat.le_refl 0) (Nat.le_refl 0) ?_
            obtain ⟨r_9, rfl, hm_9, hW⟩ := hB
            refine W.eq (g2 := F0 m 51 ls [.int r_9]) rfl ?_
            rcases hm_9 with rfl | ⟨rfl, hm_9⟩
            · skip
              refine lv_if_eq (tgt := 58) hx hb dX3_byFewest_51 (by decide) (fun c_10 => ?_) (fun c_10 => absurd (by decide) c_10)
              refine lv_iconst (v := 0) hx hb dX3_byFewest_58 (by decide) ?_
              refine lv_istore (lv' := [(6, .int 0), (5, .ref (sA j)), (0, .ref h0), (1, .int a1), (2, .int a2), (3, .null), (4, .int (nI j))]) hx hb dX3_byFewest_59 hl (by decide) rfl (fun ls hl => ?_)
              refine lv_iload hx hb dX3_byFewest_61 (lv_at hl 0 rfl) ?_
              refine lv_if_eq (tgt := 96) hx hb dX3_byFewest_63 (by decide) (fun c_11 => ?_) (fun c_11 => absurd (by decide) c_11)
              obtain ⟨y_12, ey_12⟩ : ∃ y : Int32, y = (nI j) + 1 := ⟨_, rfl⟩
              refine lv_iinc (v := y_12) (lv' := [(4, .int y_12), (6, .int 0), (5, .ref (sA j)), (0, .ref h0), (1, .int a1), (2, .int a2), (3, .null)]) hx hb dX3_byFewest_96 hl (k := 6) rfl (by rw [ey_12]; rfl) (by decide) rfl (fun ls hl => ?_)
              obtain rfl : y_12 = nI (j + 1) := ey_12.trans (nI_1 j)
              have en_13 : (nI (j + 1)).toInt = ((j + 1 : Nat) : Int) := pz_ti (by omega)
              refine lv_goto (tgt := 5) hx hb dX3_byFewest_99 (by decide) ?_
              exact ih_B5 _ (by omega) (j + 1) none _ _ ls rfl (by omega) (fun b9 h9 => by cases h9) hW hS (lv_sub hl [3, 4, 5, 6, 0] rfl)
            · skip
              refine lv_if_eq (tgt := 58) hx hb dX3_byFewest_51 (by decide) (fun c_14 => absurd c_14 (by decide)) (fun c_14 => ?_)
              refine lv_iconst (v := 1) hx hb dX3_byFewest_54 (by decide) ?_
              refine lv_goto (tgt := 59) hx hb dX3_byFewest_55 (by decide) ?_
              refine lv_istore (lv' := [(6, .int 1), (5, .ref (sA j)), (0, .ref h0), (1, .int a1), (2, .int a2), (3, .null), (4, .int (nI j))]) hx hb dX3_byFewest_59 hl (by decide) rfl (fun ls hl => ?_)
              refine lv_iload hx hb dX3_byFewest_61 (lv_at hl 0 rfl) ?_
              refine lv_if_eq (tgt := 96) hx hb dX3_byFewest_63 (by decide) (fun c_15 => absurd c_15 (by decide)) (fun c_15 => ?_)
              refine lv_aload_nN hx hb dX3_byFewest_66 rfl (lv_at hl 5 rfl) ?_
              refine lv_ifnullN (tgt := 93) hx hb dX3_byFewest_67 (by decide) ?_
              refine lv_aload hx hb dX3_byFewest_93 (lv_at hl 1 rfl) ?_
              refine lv_astore_n (lv' := [(3, .ref (sA j)), (6, .int 1), (5, .ref (sA j)), (0, .ref h0), (1, .int a1), (2, .int a2), (4, .int (nI j))]) hx hb dX3_byFewest_95 rfl hl (by decide) rfl (fun ls hl => ?_)
              obtain ⟨y_16, ey_16⟩ : ∃ y : Int32, y = (nI j) + 1 := ⟨_, rfl⟩
              refine lv_iinc (v := y_16) (lv' := [(4, .int y_16), (3, .ref (sA j)), (6, .int 1), (5, .ref (sA j)), (0, .ref h0), (1, .int a1), (2, .int a2)]) hx hb dX3_byFewest_96 hl (k := 6) rfl (by rw [ey_16]; rfl) (by decide) rfl (fun ls hl => ?_)
              obtain rfl : y_16 = nI (j + 1) := ey_16.trans (nI_1 j)
              have en_17 : (nI (j + 1)).toInt = ((j + 1 : Nat) : Int) := pz_ti (by omega)
              refine lv_goto (tgt := 5) hx hb dX3_byFewest_99 (by decide) ?_
              exact ih_B5 _ (by omega) (j + 1) (some j) _ _ ls rfl (by omega) (fun b9 h9 => by cases h9; exact ⟨by omega, hm_9⟩) hW hS (lv_sub hl [4, 5, 6, 1, 0] rfl)
          · skip
            have i_8 : ¬ a2.toInt = -1 := by have h9 := pz_neq c_8; exact h9
            refine lv_aload hx hb dX3_byFewest_36 (lv_at hl 0 rfl) ?_
            obtain ⟨-, x_18, hc_18, h0_18, hd_18⟩ := hW.2.2.1 j (by omega)
            refine S_gp S hK hc_18 1 (by decide) (fun _ => rfl) iw_168 rfl dX3_byFewest_38 ?_
            refine lv_iload_n hx hb dX3_byFewest_41 rfl (lv_at hl 3 rfl) ?_
            refine lv_icmp_ne (tgt := 58) hx hb dX3_byFewest_42 (by decide) (fun c_19 => ?_) (fun c_19 => ?_)
            · skip
              have i_19 : ¬ (x_18 1).toInt = a2.toInt := by have h9 := pz_neq c_19; exact h9
              refine lv_iconst (v := 0) hx hb dX3_byFewest_58 (by decide) ?_
              refine lv_istore (lv' := [(6, .int 0), (5, .ref (sA j)), (0, .ref h0), (1, .int a1), (2, .int a2), (3, .null), (4, .int (nI j))]) hx hb dX3_byFewest_59 hl (by decide) rfl (fun ls hl => ?_)
              refine lv_iload hx hb dX3_byFewest_61 (lv_at hl 0 rfl) ?_
              refine lv_if_eq (tgt := 96) hx hb dX3_byFewest_63 (by decide) (fun c_20 => ?_) (fun c_20 => absurd (by decide) c_20)
              obtain ⟨y_21, ey_21⟩ : ∃ y : Int32, y = (nI j) + 1 := ⟨_, rfl⟩
              refine lv_iinc (v := y_21) (lv' := [(4, .int y_21), (6, .int 0), (5, .ref (sA j)), (0, .ref h0), (1, .int a1), (2, .int a2), (3, .null)]) hx hb dX3_byFewest_96 hl (k := 6) rfl (by rw [ey_21]; rfl) (by decide) rfl (fun ls hl => ?_)
              obtain rfl : y_21 = nI (j + 1) := ey_21.trans (nI_1 j)
              have en_22 : (nI (j + 1)).toInt = ((j + 1 : Nat) : Int) := pz_ti (by omega)
              refine lv_goto (tgt := 5) hx hb dX3_byFewest_99 (by decide) ?_
              exact ih_B5 _ (by omega) (j + 1) none _ _ ls rfl (by omega) (fun b9 h9 => by cases h9) hW hS (lv_sub hl [3, 4, 5, 6, 0] rfl)
            · skip
              have i_19 : (x_18 1).toInt = a2.toInt := by have h9 := pz_eq c_19; exact h9
              refine lv_aload hx hb dX3_byFewest_45 (lv_at hl 0 rfl) ?_
              refine lv_iload_n hx hb dX3_byFewest_47 rfl (lv_at hl 2 rfl) ?_
              refine c_v (Pw := Cw dC dI z A bs cp h0 la sA cA ns nc dr X P tr nl nq rs) (n := 1) (As := [.int a1]) (rest := []) S (q_X2_mayBeAsked l dC dI z mi A bs cp h0 la sA cA ns nc dr X P tr nl nq rs j a1 (by omega)) iw_419 iw_416 iw_417 iw_418 iw_62 (by decide +kernel) rfl ⟨rfl, rfl, Nat.le_of_ble_eq_true rfl, Nat.le_of_ble_eq_true rfl⟩ KZ.blind (S_recv hK hW (by omega)) (hKZ.at hS (fun _ h9 => h9)) hW hl.1 rfl (Nat.le_of_ble_eq_true rfl) dX3_byFewest_48 ⟨Nat.le_refl _, Nat.le_refl _⟩ hS (fun _ h9 => h9) (fun v9 H locs hB hz9 hk9 hS => ?_)
              refine W.widen (k := 0) (n := 0) (Nat.le_refl 0) (Nat.le_refl 0) ?_
              obtain ⟨r_23, rfl, hm_23, hW⟩ := hB
              refine W.eq (g2 := F0 m 51 ls [.int r_23]) rfl ?_
              rcases hm_23 with rfl | ⟨rfl, hm_23⟩
              · skip
                refine lv_if_eq (tgt := 58) hx hb dX3_byFewest_51 (by decide) (fun c_24 => ?_) (fun c_24 => absurd (by decide) c_24)
                refine lv_iconst (v := 0) hx hb dX3_byFewest_58 (by decide) ?_
                refine lv_istore (lv' := [(6, .int 0), (5, .ref (sA j)), (0, .ref h0), (1, .int a1), (2, .int a2), (3, .null), (4, .int (nI j))]) hx hb dX3_byFewest_59 hl (by decide) rfl (fun ls hl => ?_)
                refine lv_iload hx hb dX3_byFewest_61 (lv_at hl 0 rfl) ?_
                refine lv_if_eq (tgt := 96) hx hb dX3_byFewest_63 (by decide) (fun c_25 => ?_) (fun c_25 => absurd (by decide) c_25)
                obtain ⟨y_26, ey_26⟩ : ∃ y : Int32, y = (nI j) + 1 := ⟨_, rfl⟩
                refine lv_iinc (v := y_26) (lv' := [(4, .int y_26), (6, .int 0), (5, .ref (sA j)), (0, .ref h0), (1, .int a1), (2, .int a2), (3, .null)]) hx hb dX3_byFewest_96 hl (k := 6) rfl (by rw [ey_26]; rfl) (by decide) rfl (fun ls hl => ?_)
                obtain rfl : y_26 = nI (j + 1) := ey_26.trans (nI_1 j)
                have en_27 : (nI (j + 1)).toInt = ((j + 1 : Nat) : Int) := pz_ti (by omega)
                refine lv_goto (tgt := 5) hx hb dX3_byFewest_99 (by decide) ?_
                exact ih_B5 _ (by omega) (j + 1) none _ _ ls rfl (by omega) (fun b9 h9 => by cases h9) hW hS (lv_sub hl [3, 4, 5, 6, 0] rfl)
              · skip
                refine lv_if_eq (tgt := 58) hx hb dX3_byFewest_51 (by decide) (fun c_28 => absurd c_28 (by decide)) (fun c_28 => ?_)
                refine lv_iconst (v := 1) hx hb dX3_byFewest_54 (by decide) ?_
                refine lv_goto (tgt := 59) hx hb dX3_byFewest_55 (by decide) ?_
                refine lv_istore (lv' := [(6, .int 1), (5, .ref (sA j)), (0, .ref h0), (1, .int a1), (2, .int a2), (3, .null), (4, .int (nI j))]) hx hb dX3_byFewest_59 hl (by decide) rfl (fun ls hl => ?_)
                refine lv_iload hx hb dX3_byFewest_61 (lv_at hl 0 rfl) ?_
                refine lv_if_eq (tgt := 96) hx hb dX3_byFewest_63 (by decide) (fun c_29 => absurd c_29 (by decide)) (fun c_29 => ?_)
                refine lv_aload_nN hx hb dX3_byFewest_66 rfl (lv_at hl 5 rfl) ?_
                refine lv_ifnullN (tgt := 93) hx hb dX3_byFewest_67 (by decide) ?_
                refine lv_aload hx hb dX3_byFewest_93 (lv_at hl 1 rfl) ?_
                refine lv_astore_n (lv' := [(3, .ref (sA j)), (6, .int 1), (5, .ref (sA j)), (0, .ref h0), (1, .int a1), (2, .int a2), (4, .int (nI j))]) hx hb dX3_byFewest_95 rfl hl (by decide) rfl (fun ls hl => ?_)
                obtain ⟨y_30, ey_30⟩ : ∃ y : Int32, y = (nI j) + 1 := ⟨_, rfl⟩
                refine lv_iinc (v := y_30) (lv' := [(4, .int y_30), (3, .ref (sA j)), (6, .int 1), (5, .ref (sA j)), (0, .ref h0), (1, .int a1), (2, .int a2)]) hx hb dX3_byFewest_96 hl (k := 6) rfl (by rw [ey_30]; rfl) (by decide) rfl (fun ls hl => ?_)
                obtain rfl : y_30 = nI (j + 1) := ey_30.trans (nI_1 j)
                have en_31 : (nI (j + 1)).toInt = ((j + 1 : Nat) : Int) := pz_ti (by omega)
                refine lv_goto (tgt := 5) hx hb dX3_byFewest_99 (by decide) ?_
                exact ih_B5 _ (by omega) (j + 1) (some j) _ _ ls rfl (by omega) (fun b9 h9 => by cases h9; exact ⟨by omega, hm_23⟩) hW hS (lv_sub hl [4, 5, 6, 1, 0] rfl)
      · skip
        have hl : lv_has ls 7 [(0, .ref h0), (1, .int a1), (2, .int a2), (3, .ref (sA b)), (4, .int (nI j))] := hl
        obtain ⟨hbn, hbm⟩ := hbb b rfl
        refine lv_iload hx hb dX3_byFewest_5 (lv_at hl 4 rfl) ?_
        refine lv_aload_n hx hb dX3_byFewest_7 rfl (lv_at hl 0 rfl) ?_
        refine D_getl S hK hW 0 (by decide) (fun _ => rfl) iw_105 rfl dX3_byFewest_8 ?_
        refine L_size (rest := [.int (nI j)]) S hKZ hW hS (i := 0) (by decide) hl.1 (Nat.le_of_ble_eq_true rfl) dX3_byFewest_11 ⟨Nat.le_of_ble_eq_true rfl, Nat.le_of_ble_eq_true rfl⟩ ⟨Nat.le_refl _, Nat.le_refl _⟩ (fun H locs hW hS => ?_)
        refine W.eq (g2 := F0 m 14 ls [.int (nI ns), .int (nI j)]) rfl ?_
        obtain ⟨hns, hnc, hnl, ag_33, hag_33, -, hnq⟩ := id hW.2.2.2.2.2.2
        have en_34 : (nI ns).toInt = ((ns : Nat) : Int) := pz_ti (by omega)
        refine lv_icmp_ge (tgt := 102) hx hb dX3_byFewest_14 (by decide) (fun c_35 => ?_) (fun c_35 => ?_)
        · skip
          have i_35 : (nI j).toInt ≥ (nI ns).toInt := by have h9 := pz_ge c_35; exact h9
          refine lv_aload_n hx hb dX3_byFewest_102 rfl (lv_at hl 3 rfl) ?_
          exact r_a (o := some (sA b)) hx hb hr (Or.inl ⟨_, rfl⟩) hlocks hS dX3_byFewest_103 (⟨_, rfl, Or.inr ⟨b, by omega, rfl, hbm⟩, hW⟩)
        · skip
          have i_35 : (nI j).toInt < (nI ns).toInt := by have h9 := pz_nge c_35; exact h9
          refine lv_aload_n hx hb dX3_byFewest_17 rfl (lv_at hl 0 rfl) ?_
          refine D_getl S hK hW 0 (by decide) (fun _ => rfl) iw_105 rfl dX3_byFewest_18 ?_
          refine lv_iload hx hb dX3_byFewest_21 (lv_at hl 4 rfl) ?_
          refine L_get (rest := []) S hKZ hW hS (i := 0) (t := j) (by decide) (by show j < ns; omega) hl.1 (Nat.le_of_ble_eq_true rfl) dX3_byFewest_23 ⟨Nat.le_of_ble_eq_true rfl, Nat.le_of_ble_eq_true rfl⟩ ⟨Nat.le_refl _, Nat.le_refl _⟩ (fun r_37 H locs hr_37 hW hS => ?_)
          obtain rfl : r_37 = sA j := hr_37
          refine S_cast S hK hW (k := j) (by omega) iw_158 dX3_byFewest_26 ?_
          refine lv_astore (lv' := [(5, .ref (sA j)), (0, .ref h0), (1, .int a1), (2, .int a2), (3, .ref (sA b)), (4, .int (nI j))]) hx hb dX3_byFewest_29 hl (by decide) rfl (fun ls hl => ?_)
          refine lv_iload_n hx hb dX3_byFewest_31 rfl (lv_at hl 3 rfl) ?_
          refine lv_iconst (v := (-1)) hx hb dX3_byFewest_32 (by decide) ?_
          refine lv_icmp_eq (tgt := 45) hx hb dX3_byFewest_33 (by decide) (fun c_39 => ?_) (fun c_39 => ?_)
          · skip
            have i_39 : a2.toInt = -1 := by have h9 := pz_eq c_39; exact h9
            refine lv_aload hx hb dX3_byFewest_45 (lv_at hl 0 rfl) ?_
            refine lv_iload_n hx hb dX3_byFewest_47 rfl (lv_at hl 2 rfl) ?_
            refine c_v (Pw := Cw dC dI z A bs cp h0 la sA cA ns nc dr X P tr nl nq rs) (n := 1) (As := [.int a1]) (rest := []) S (q_X2_mayBeAsked l dC dI z mi A bs cp h0 la sA cA ns nc dr X P tr nl nq rs j a1 (by omega)) iw_419 iw_416 iw_417 iw_418 iw_62 (by decide +kernel) rfl ⟨rfl, rfl, Nat.le_of_ble_eq_true rfl, Nat.le_of_ble_eq_true rfl⟩ KZ.blind (S_recv hK hW (by omega)) (hKZ.at hS (fun _ h9 => h9)) hW hl.1 rfl (Nat.le_of_ble_eq_true rfl) dX3_byFewest_48 ⟨Nat.le_refl _, Nat.le_refl _⟩ hS (fun _ h9 => h9) (fun v9 H locs hB hz9 hk9 hS => ?_)
            refine W.widen (k := 0) (n := 0) (Nat.le_refl 0) (Nat.le_refl 0) ?_
            obtain ⟨r_40, rfl, hm_40, hW⟩ := hB
            refine W.eq (g2 := F0 m 51 ls [.int r_40]) rfl ?_
            rcases hm_40 with rfl | ⟨rfl, hm_40⟩
            · skip
              refine lv_if_eq (tgt := 58) hx hb dX3_byFewest_51 (by decide) (fun c_41 => ?_) (fun c_41 => absurd (by decide) c_41)
              refine lv_iconst (v := 0) hx hb dX3_byFewest_58 (by decide) ?_
              refine lv_istore (lv' := [(6, .int 0), (5, .ref (sA j)), (0, .ref h0), (1, .int a1), (2, .int a2), (3, .ref (sA b)), (4, .int (nI j))]) hx hb dX3_byFewest_59 hl (by decide) rfl (fun ls hl => ?_)
              refine lv_iload hx hb dX3_byFewest_61 (lv_at hl 0 rfl) ?_
              refine lv_if_eq (tgt := 96) hx hb dX3_byFewest_63 (by decide) (fun c_42 => ?_) (fun c_42 => absurd (by decide) c_42)
              obtain ⟨y_43, ey_43⟩ : ∃ y : Int32, y = (nI j) + 1 := ⟨_, rfl⟩
              refine lv_iinc (v := y_43) (lv' := [(4, .int y_43), (6, .int 0), (5, .ref (sA j)), (0, .ref h0), (1, .int a1), (2, .int a2), (3, .ref (sA b))]) hx hb dX3_byFewest_96 hl (k := 6) rfl (by rw [ey_43]; rfl) (by decide) rfl (fun ls hl => ?_)
              obtain rfl : y_43 = nI (j + 1) := ey_43.trans (nI_1 j)
              have en_44 : (nI (j + 1)).toInt = ((j + 1 : Nat) : Int) := pz_ti (by omega)
              refine lv_goto (tgt := 5) hx hb dX3_byFewest_99 (by decide) ?_
              exact ih_B5 _ (by omega) (j + 1) (some b) _ _ ls rfl (by omega) (fun b9 h9 => by cases h9; exact ⟨by omega, hbm⟩) hW hS (lv_sub hl [3, 4, 5, 6, 0] rfl)
            · skip
              refine lv_if_eq (tgt := 58) hx hb dX3_byFewest_51 (by decide) (fun c_45 => absurd c_45 (by decide)) (fun c_45 => ?_)
              refine lv_iconst (v := 1) hx hb dX3_byFewest_54 (by decide) ?_
              refine lv_goto (tgt := 59) hx hb dX3_byFewest_55 (by decide) ?_
              refine lv_istore (lv' := [(6, .int 1), (5, .ref (sA j)), (0, .ref h0), (1, .int a1), (2, .int a2), (3, .ref (sA b)), (4, .int (nI j))]) hx hb dX3_byFewest_59 hl (by decide) rfl (fun ls hl => ?_)
              refine lv_iload hx hb dX3_byFewest_61 (lv_at hl 0 rfl) ?_
              refine lv_if_eq (tgt := 96) hx hb dX3_byFewest_63 (by decide) (fun c_46 => absurd c_46 (by decide)) (fun c_46 => ?_)
              refine lv_aload_n hx hb dX3_byFewest_66 rfl (lv_at hl 5 rfl) ?_
              refine lv_ifnull hx hb dX3_byFewest_67 ?_
              refine lv_aload hx hb dX3_byFewest_70 (lv_at hl 1 rfl) ?_
              obtain ⟨-, x_47, hc_47, h0_47, hd_47⟩ := hW.2.2.1 j (by omega)
              refine S_gp S hK hc_47 8 (by decide) (fun _ => rfl) iw_178 rfl dX3_byFewest_72 ?_
              refine lv_aload_n hx hb dX3_byFewest_75 rfl (lv_at hl 5 rfl) ?_
              obtain ⟨-, x_48, hc_48, h0_48, hd_48⟩ := hW.2.2.1 b (by omega)
              refine S_gp S hK hc_48 2 (by decide) (fun _ => rfl) iw_170 rfl dX3_byFewest_76 ?_
              refine lv_imul hx hb dX3_byFewest_79 ?_
              refine lv_topi (fun x_49 _ => ?_)
              refine lv_aload_n hx hb dX3_byFewest_80 rfl (lv_at hl 5 rfl) ?_
              refine S_gp S hK hc_48 8 (by decide) (fun _ => rfl) iw_178 rfl dX3_byFewest_81 ?_
              refine lv_aload hx hb dX3_byFewest_84 (lv_at hl 1 rfl) ?_
              refine S_gp S hK hc_47 2 (by decide) (fun _ => rfl) iw_170 rfl dX3_byFewest_86 ?_
              refine lv_imul hx hb dX3_byFewest_89 ?_
              refine lv_topi (fun x_52 _ => ?_)
              refine lv_icmp_ge (tgt := 96) hx hb dX3_byFewest_90 (by decide) (fun c_53 => ?_) (fun c_53 => ?_)
              · skip
                have i_53 : x_49.toInt ≥ x_52.toInt := by have h9 := pz_ge c_53; exact h9
                obtain ⟨y_54, ey_54⟩ : ∃ y : Int32, y = (nI j) + 1 := ⟨_, rfl⟩
                refine lv_iinc (v := y_54) (lv' := [(4, .int y_54), (6, .int 1), (5, .ref (sA j)), (0, .ref h0), (1, .int a1), (2, .int a2), (3, .ref (sA b))]) hx hb dX3_byFewest_96 hl (k := 6) rfl (by rw [ey_54]; rfl) (by decide) rfl (fun ls hl => ?_)
                obtain rfl : y_54 = nI (j + 1) := ey_54.trans (nI_1 j)
                have en_55 : (nI (j + 1)).toInt = ((j + 1 : Nat) : Int) := pz_ti (by omega)
                refine lv_goto (tgt := 5) hx hb dX3_byFewest_99 (by decide) ?_
                exact ih_B5 _ (by omega) (j + 1) (some b) _ _ ls rfl (by omega) (fun b9 h9 => by cases h9; exact ⟨by omega, hbm⟩) hW hS (lv_sub hl [3, 4, 5, 6, 0] rfl)
              · skip
                have i_53 : x_49.toInt < x_52.toInt := by have h9 := pz_nge c_53; exact h9
                refine lv_aload hx hb dX3_byFewest_93 (lv_at hl 1 rfl) ?_
                refine lv_astore_n (lv' := [(3, .ref (sA j)), (6, .int 1), (5, .ref (sA j)), (0, .ref h0), (1, .int a1), (2, .int a2), (4, .int (nI j))]) hx hb dX3_byFewest_95 rfl hl (by decide) rfl (fun ls hl => ?_)
                obtain ⟨y_56, ey_56⟩ : ∃ y : Int32, y = (nI j) + 1 := ⟨_, rfl⟩
                refine lv_iinc (v := y_56) (lv' := [(4, .int y_56), (3, .ref (sA j)), (6, .int 1), (5, .ref (sA j)), (0, .ref h0), (1, .int a1), (2, .int a2)]) hx hb dX3_byFewest_96 hl (k := 6) rfl (by rw [ey_56]; rfl) (by decide) rfl (fun ls hl => ?_)
                obtain rfl : y_56 = nI (j + 1) := ey_56.trans (nI_1 j)
                have en_57 : (nI (j + 1)).toInt = ((j + 1 : Nat) : Int) := pz_ti (by omega)
                refine lv_goto (tgt := 5) hx hb dX3_byFewest_99 (by decide) ?_
                exact ih_B5 _ (by omega) (j + 1) (some j) _ _ ls rfl (by omega) (fun b9 h9 => by cases h9; exact ⟨by omega, hm_40⟩) hW hS (lv_sub hl [4, 5, 6, 1, 0] rfl)
          · skip
            have i_39 : ¬ a2.toInt = -1 := by have h9 := pz_neq c_39; exact h9
            refine lv_aload hx hb dX3_byFewest_36 (lv_at hl 0 rfl) ?_
            obtain ⟨-, x_58, hc_58, h0_58, hd_58⟩ := hW.2.2.1 j (by omega)
            refine S_gp S hK hc_58 1 (by decide) (fun _ => rfl) iw_168 rfl dX3_byFewest_38 ?_
            refine lv_iload_n hx hb dX3_byFewest_41 rfl (lv_at hl 3 rfl) ?_
            refine lv_icmp_ne (tgt := 58) hx hb dX3_byFewest_42 (by decide) (fun c_59 => ?_) (fun c_59 => ?_)
            · skip
              have i_59 : ¬ (x_58 1).toInt = a2.toInt := by have h9 := pz_neq c_59; exact h9
              refine lv_iconst (v := 0) hx hb dX3_byFewest_58 (by decide) ?_
              refine lv_istore (lv' := [(6, .int 0), (5, .ref (sA j)), (0, .ref h0), (1, .int a1), (2, .int a2), (3, .ref (sA b)), (4, .int (nI j))]) hx hb dX3_byFewest_59 hl (by decide) rfl (fun ls hl => ?_)
              refine lv_iload hx hb dX3_byFewest_61 (lv_at hl 0 rfl) ?_
              refine lv_if_eq (tgt := 96) hx hb dX3_byFewest_63 (by decide) (fun c_60 => ?_) (fun c_60 => absurd (by decide) c_60)
              obtain ⟨y_61, ey_61⟩ : ∃ y : Int32, y = (nI j) + 1 := ⟨_, rfl⟩
              refine lv_iinc (v := y_61) (lv' := [(4, .int y_61), (6, .int 0), (5, .ref (sA j)), (0, .ref h0), (1, .int a1), (2, .int a2), (3, .ref (sA b))]) hx hb dX3_byFewest_96 hl (k := 6) rfl (by rw [ey_61]; rfl) (by decide) rfl (fun ls hl => ?_)
              obtain rfl : y_61 = nI (j + 1) := ey_61.trans (nI_1 j)
              have en_62 : (nI (j + 1)).toInt = ((j + 1 : Nat) : Int) := pz_ti (by omega)
              refine lv_goto (tgt := 5) hx hb dX3_byFewest_99 (by decide) ?_
              exact ih_B5 _ (by omega) (j + 1) (some b) _ _ ls rfl (by omega) (fun b9 h9 => by cases h9; exact ⟨by omega, hbm⟩) hW hS (lv_sub hl [3, 4, 5, 6, 0] rfl)
            · skip
              have i_59 : (x_58 1).toInt = a2.toInt := by have h9 := pz_eq c_59; exact h9
              refine lv_aload hx hb dX3_byFewest_45 (lv_at hl 0 rfl) ?_
              refine lv_iload_n hx hb dX3_byFewest_47 rfl (lv_at hl 2 rfl) ?_
              refine c_v (Pw := Cw dC dI z A bs cp h0 la sA cA ns nc dr X P tr nl nq rs) (n := 1) (As := [.int a1]) (rest := []) S (q_X2_mayBeAsked l dC dI z mi A bs cp h0 la sA cA ns nc dr X P tr nl nq rs j a1 (by omega)) iw_419 iw_416 iw_417 iw_418 iw_62 (by decide +kernel) rfl ⟨rfl, rfl, Nat.le_of_ble_eq_true rfl, Nat.le_of_ble_eq_true rfl⟩ KZ.blind (S_recv hK hW (by omega)) (hKZ.at hS (fun _ h9 => h9)) hW hl.1 rfl (Nat.le_of_ble_eq_true rfl) dX3_byFewest_48 ⟨Nat.le_refl _, Nat.le_refl _⟩ hS (fun _ h9 => h9) (fun v9 H locs hB hz9 hk9 hS => ?_)
              refine W.widen (k := 0) (n := 0) (Nat.le_refl 0) (Nat.le_refl 0) ?_
              obtain ⟨r_63, rfl, hm_63, hW⟩ := hB
              refine W.eq (g2 := F0 m 51 ls [.int r_63]) rfl ?_
              rcases hm_63 with rfl | ⟨rfl, hm_63⟩
              · skip
                refine lv_if_eq (tgt := 58) hx hb dX3_byFewest_51 (by decide) (fun c_64 => ?_) (fun c_64 => absurd (by decide) c_64)
                refine lv_iconst (v := 0) hx hb dX3_byFewest_58 (by decide) ?_
                refine lv_istore (lv' := [(6, .int 0), (5, .ref (sA j)), (0, .ref h0), (1, .int a1), (2, .int a2), (3, .ref (sA b)), (4, .int (nI j))]) hx hb dX3_byFewest_59 hl (by decide) rfl (fun ls hl => ?_)
                refine lv_iload hx hb dX3_byFewest_61 (lv_at hl 0 rfl) ?_
                refine lv_if_eq (tgt := 96) hx hb dX3_byFewest_63 (by decide) (fun c_65 => ?_) (fun c_65 => absurd (by decide) c_65)
                obtain ⟨y_66, ey_66⟩ : ∃ y : Int32, y = (nI j) + 1 := ⟨_, rfl⟩
                refine lv_iinc (v := y_66) (lv' := [(4, .int y_66), (6, .int 0), (5, .ref (sA j)), (0, .ref h0), (1, .int a1), (2, .int a2), (3, .ref (sA b))]) hx hb dX3_byFewest_96 hl (k := 6) rfl (by rw [ey_66]; rfl) (by decide) rfl (fun ls hl => ?_)
                obtain rfl : y_66 = nI (j + 1) := ey_66.trans (nI_1 j)
                have en_67 : (nI (j + 1)).toInt = ((j + 1 : Nat) : Int) := pz_ti (by omega)
                refine lv_goto (tgt := 5) hx hb dX3_byFewest_99 (by decide) ?_
                exact ih_B5 _ (by omega) (j + 1) (some b) _ _ ls rfl (by omega) (fun b9 h9 => by cases h9; exact ⟨by omega, hbm⟩) hW hS (lv_sub hl [3, 4, 5, 6, 0] rfl)
              · skip
                refine lv_if_eq (tgt := 58) hx hb dX3_byFewest_51 (by decide) (fun c_68 => absurd c_68 (by decide)) (fun c_68 => ?_)
                refine lv_iconst (v := 1) hx hb dX3_byFewest_54 (by decide) ?_
                refine lv_goto (tgt := 59) hx hb dX3_byFewest_55 (by decide) ?_
                refine lv_istore (lv' := [(6, .int 1), (5, .ref (sA j)), (0, .ref h0), (1, .int a1), (2, .int a2), (3, .ref (sA b)), (4, .int (nI j))]) hx hb dX3_byFewest_59 hl (by decide) rfl (fun ls hl => ?_)
                refine lv_iload hx hb dX3_byFewest_61 (lv_at hl 0 rfl) ?_
                refine lv_if_eq (tgt := 96) hx hb dX3_byFewest_63 (by decide) (fun c_69 => absurd c_69 (by decide)) (fun c_69 => ?_)
                refine lv_aload_n hx hb dX3_byFewest_66 rfl (lv_at hl 5 rfl) ?_
                refine lv_ifnull hx hb dX3_byFewest_67 ?_
                refine lv_aload hx hb dX3_byFewest_70 (lv_at hl 1 rfl) ?_
                obtain ⟨-, x_70, hc_70, h0_70, hd_70⟩ := hW.2.2.1 j (by omega)
                refine S_gp S hK hc_70 8 (by decide) (fun _ => rfl) iw_178 rfl dX3_byFewest_72 ?_
                refine lv_aload_n hx hb dX3_byFewest_75 rfl (lv_at hl 5 rfl) ?_
                obtain ⟨-, x_71, hc_71, h0_71, hd_71⟩ := hW.2.2.1 b (by omega)
                refine S_gp S hK hc_71 2 (by decide) (fun _ => rfl) iw_170 rfl dX3_byFewest_76 ?_
                refine lv_imul hx hb dX3_byFewest_79 ?_
                refine lv_topi (fun x_72 _ => ?_)
                refine lv_aload_n hx hb dX3_byFewest_80 rfl (lv_at hl 5 rfl) ?_
                refine S_gp S hK hc_71 8 (by decide) (fun _ => rfl) iw_178 rfl dX3_byFewest_81 ?_
                refine lv_aload hx hb dX3_byFewest_84 (lv_at hl 1 rfl) ?_
                refine S_gp S hK hc_70 2 (by decide) (fun _ => rfl) iw_170 rfl dX3_byFewest_86 ?_
                refine lv_imul hx hb dX3_byFewest_89 ?_
                refine lv_topi (fun x_75 _ => ?_)
                refine lv_icmp_ge (tgt := 96) hx hb dX3_byFewest_90 (by decide) (fun c_76 => ?_) (fun c_76 => ?_)
                · skip
                  have i_76 : x_72.toInt ≥ x_75.toInt := by have h9 := pz_ge c_76; exact h9
                  obtain ⟨y_77, ey_77⟩ : ∃ y : Int32, y = (nI j) + 1 := ⟨_, rfl⟩
                  refine lv_iinc (v := y_77) (lv' := [(4, .int y_77), (6, .int 1), (5, .ref (sA j)), (0, .ref h0), (1, .int a1), (2, .int a2), (3, .ref (sA b))]) hx hb dX3_byFewest_96 hl (k := 6) rfl (by rw [ey_77]; rfl) (by decide) rfl (fun ls hl => ?_)
                  obtain rfl : y_77 = nI (j + 1) := ey_77.trans (nI_1 j)
                  have en_78 : (nI (j + 1)).toInt = ((j + 1 : Nat) : Int) := pz_ti (by omega)
                  refine lv_goto (tgt := 5) hx hb dX3_byFewest_99 (by decide) ?_
                  exact ih_B5 _ (by omega) (j + 1) (some b) _ _ ls rfl (by omega) (fun b9 h9 => by cases h9; exact ⟨by omega, hbm⟩) hW hS (lv_sub hl [3, 4, 5, 6, 0] rfl)
                · skip
                  have i_76 : x_72.toInt < x_75.toInt := by have h9 := pz_nge c_76; exact h9
                  refine lv_aload hx hb dX3_byFewest_93 (lv_at hl 1 rfl) ?_
                  refine lv_astore_n (lv' := [(3, .ref (sA j)), (6, .int 1), (5, .ref (sA j)), (0, .ref h0), (1, .int a1), (2, .int a2), (4, .int (nI j))]) hx hb dX3_byFewest_95 rfl hl (by decide) rfl (fun ls hl => ?_)
                  obtain ⟨y_79, ey_79⟩ : ∃ y : Int32, y = (nI j) + 1 := ⟨_, rfl⟩
                  refine lv_iinc (v := y_79) (lv' := [(4, .int y_79), (3, .ref (sA j)), (6, .int 1), (5, .ref (sA j)), (0, .ref h0), (1, .int a1), (2, .int a2)]) hx hb dX3_byFewest_96 hl (k := 6) rfl (by rw [ey_79]; rfl) (by decide) rfl (fun ls hl => ?_)
                  obtain rfl : y_79 = nI (j + 1) := ey_79.trans (nI_1 j)
                  have en_80 : (nI (j + 1)).toInt = ((j + 1 : Nat) : Int) := pz_ti (by omega)
                  refine lv_goto (tgt := 5) hx hb dX3_byFewest_99 (by decide) ?_
                  exact ih_B5 _ (by omega) (j + 1) (some j) _ _ ls rfl (by omega) (fun b9 h9 => by cases h9; exact ⟨by omega, hm_63⟩) hW hS (lv_sub hl [4, 5, 6, 1, 0] rfl)
  exact loop_B5 _ 0 none _ _ ls rfl (by omega) (fun b9 h9 => by cases h9) hW hS (lv_sub hl [2, 3, 4, 1, 0] rfl)

abbrev B_q_X3_byRing (dC : Nat → ClassId) (dI : Nat → Nat → Nat) (z : Nat) (mi : Nat) (A : Nat → Prop) (bs : Nat) (cp : Nat) (h0 : Nat) (la : Nat → Nat) (sA : Nat → Nat) (cA : Nat → Nat) (ns : Nat) (nc : Nat) (dr : Nat → Prop) (X : Nat → Int32) (P : Nat → Prop) (tr : Nat → Int32) (nl : Nat) (nq : Nat) (rs : Nat) (a1 : Int32) (a2 : Int32) : Option Value → Heap → Prop := fun v H => ∃ o : Option Nat, v = some (va_rf o) ∧ (o = none ∨ ∃ k, k < ns ∧ o = some (sA k) ∧ (a2 >>> (nI k &&& 31)) &&& 1 = 0) ∧ Cw dC dI z A bs cp h0 la sA cA ns nc dr X P tr nl nq rs H
set_option maxHeartbeats 8000000 in
set_option maxRecDepth 20000 in
theorem q_X3_byRing (l : Launch) (dC : Nat → ClassId) (dI : Nat → Nat → Nat) (z : Nat) (mi : Nat) (A : Nat → Prop) (bs : Nat) (cp : Nat) (h0 : Nat) (la : Nat → Nat) (sA : Nat → Nat) (cA : Nat → Nat) (ns : Nat) (nc : Nat) (dr : Nat → Prop) (X : Nat → Int32) (P : Nat → Prop) (tr : Nat → Int32) (nl : Nat) (nq : Nat) (rs : Nat) (a1 : Int32) (a2 : Int32) : Met l yX3_byRing (cws yX3_byRing cX3_byRing 7 (some (.object "FrontDoor$Server"))) { frames := 3, cells := 0, slots := 0, locals := 64 } (va_Pc [.ref h0, .int a1, .int a2] (fun U => KZ dC dI z mi A U ∧ Cw dC dI z A bs cp h0 la sA cA ns nc dr X P tr nl nq rs U.heap)) (Qg (B_q_X3_byRing dC dI z mi A bs cp h0 la sA cA ns nc dr X P tr nl nq rs a1 a2) A) 0 0 A := by
  refine m_start (KK := KZ dC dI z mi A) (Pw := Cw dC dI z A bs cp h0 la sA cA ns nc dr X P tr nl nq rs) (by decide) (Nat.le_of_ble_eq_true rfl) ?_
  intro p e s m below meth c ls S hr hlocks hin hKZ hW hS hl
  obtain ⟨hx, hb, hml, hown, hts⟩ := id S
  have hK := hKZ.1
  obtain ⟨hns, hnc, hnl, ag, hag, hXg, hnq⟩ := id hW.2.2.2.2.2.2
  have hl : lv_has ls 7 [(0, .ref h0), (1, .int a1), (2, .int a2)] := hl
  refine lv_null hx hb dX3_byRing_0 ?_
  refine lv_astore_nN (lv' := [(3, .null), (0, .ref h0), (1, .int a1), (2, .int a2)]) hx hb dX3_byRing_1 rfl hl (by decide) rfl (fun ls hl => ?_)
  refine lv_ldc hx hb hown (hts _ iw_424) dX3_byRing_2 ?_
  refine lv_istore (lv' := [(4, .int 65536), (3, .null), (0, .ref h0), (1, .int a1), (2, .int a2)]) hx hb dX3_byRing_4 hl (by decide) rfl (fun ls hl => ?_)
  refine lv_iconst (v := 0) hx hb dX3_byRing_6 (by decide) ?_
  refine lv_istore (lv' := [(5, .int 0), (4, .int 65536), (3, .null), (0, .ref h0), (1, .int a1), (2, .int a2)]) hx hb dX3_byRing_7 hl (by decide) rfl (fun ls hl => ?_)
  have loop_B9 : ∀ (k9 : Nat) (j : Nat) (n4 : Int32) (ob : Option Nat) (H : Heap) (locs : List Loc) (ls : Array Slot), ns - j = k9 → (j ≤ ns) → (∀ b, ob = some b → b < ns ∧ (a2 >>> (nI b &&& 31)) &&& 1 = 0) → Cw dC dI z A bs cp h0 la sA cA ns nc dr X P tr nl nq rs H → va_S A s.heap H locs → lv_has ls 7 [(0, .ref h0), (1, .int a1), (2, .int a2), (3, va_rf (Option.map sA ob)), (4, .int n4), (5, .int (nI j))] → W p l e { frames := 3, cells := 0, slots := 0, locals := 64 } s m ([.ref h0, .int a1, .int a2] : List Value).toArray below meth c H locs 0 0 (MQ below (Qg (B_q_X3_byRing dC dI z mi A bs cp h0 la sA cA ns nc dr X P tr nl nq rs a1 a2) A) ([.ref h0, .int a1, .int a2] : List Value).toArray s 0 0 A) (F0 m 9 ls []) := by
    intro k9
    induction k9 using Nat.strongRecOn with
    | ind k9 ih_B9 =>
      intro j n4 ob H locs ls hm_B9 hle_j hbb hW hS hl
      have en_j : (nI j).toInt = ((j : Nat) : Int) := pz_ti (by omega)
      rcases ob with _ | b
      · skip
        have hl : lv_has ls 7 [(0, .ref h0), (1, .int a1), (2, .int a2), (3, .null), (4, .int n4), (5, .int (nI j))] := hl
        refine lv_iload hx hb dX3_byRing_9 (lv_at hl 5 rfl) ?_
        refine lv_aload_n hx hb dX3_byRing_11 rfl (lv_at hl 0 rfl) ?_
        refine D_getl S hK hW 0 (by decide) (fun _ => rfl) iw_105 rfl dX3_byRing_12 ?_
        refine L_size (rest := [.int (nI j)]) S hKZ hW hS (i := 0) (by decide) hl.1 (Nat.le_of_ble_eq_true rfl) dX3_byRing_15 ⟨Nat.le_of_ble_eq_true rfl, Nat.le_of_ble_eq_true rfl⟩ ⟨Nat.le_refl _, Nat.le_refl _⟩ (fun H locs hW hS => ?_)
        refine W.eq (g2 := F0 m 18 ls [.int (nI ns), .int (nI j)]) rfl ?_
        obtain ⟨hns, hnc, hnl, ag_2, hag_2, -, hnq⟩ := id hW.2.2.2.2.2.2
        have en_3 : (nI ns).toInt = ((ns : Nat) : Int) := pz_ti (by omega)
        refine lv_icmp_ge (tgt := 72) hx hb dX3_byRing_18 (by decide) (fun c_4 => ?_) (fun c_4 => ?_)
        · skip
          have i_4 : (nI j).toInt ≥ (nI ns).toInt := by have h9 := pz_ge c_4; exact h9
          refine lv_aload_nN hx hb dX3_byRing_72 rfl (lv_at hl 3 rfl) ?_
          exact r_a (o := none) hx hb hr (Or.inl ⟨_, rfl⟩) hlocks hS dX3_byRing_73 (⟨none, rfl, Or.inl rfl, hW⟩)
        · skip
          have i_4 : (nI j).toInt < (nI ns).toInt := by have h9 := pz_nge c_4; exact h9
          refine lv_aload_n hx hb dX3_byRing_21 rfl (lv_at hl 0 rfl) ?_
          refine D_getl S hK hW 0 (by decide) (fun _ => rfl) iw_105 rfl dX3_byRing_22 ?_
          refine lv_iload hx hb dX3_byRing_25 (lv_at hl 5 rfl) ?_
          refine L_get (rest := []) S hKZ hW hS (i := 0) (t := j) (by decide) (by show j < ns; omega) hl.1 (Nat.le_of_ble_eq_true rfl) dX3_byRing_27 ⟨Nat.le_of_ble_eq_true rfl, Nat.le_of_ble_eq_true rfl⟩ ⟨Nat.le_refl _, Nat.le_refl _⟩ (fun r_6 H locs hr_6 hW hS => ?_)
          obtain rfl : r_6 = sA j := hr_6
          refine S_cast S hK hW (k := j) (by omega) iw_158 dX3_byRing_30 ?_
          refine lv_astore (lv' := [(6, .ref (sA j)), (0, .ref h0), (1, .int a1), (2, .int a2), (3, .null), (4, .int n4), (5, .int (nI j))]) hx hb dX3_byRing_33 hl (by decide) rfl (fun ls hl => ?_)
          refine lv_aload hx hb dX3_byRing_35 (lv_at hl 0 rfl) ?_
          refine lv_iload_n hx hb dX3_byRing_37 rfl (lv_at hl 3 rfl) ?_
          refine c_v (Pw := Cw dC dI z A bs cp h0 la sA cA ns nc dr X P tr nl nq rs) (n := 1) (As := [.int a2]) (rest := []) S (q_X2_mayBeAsked l dC dI z mi A bs cp h0 la sA cA ns nc dr X P tr nl nq rs j a2 (by omega)) iw_419 iw_416 iw_417 iw_418 iw_62 (by decide +kernel) rfl ⟨rfl, rfl, Nat.le_of_ble_eq_true rfl, Nat.le_of_ble_eq_true rfl⟩ KZ.blind (S_recv hK hW (by omega)) (hKZ.at hS (fun _ h9 => h9)) hW hl.1 rfl (Nat.le_of_ble_eq_true rfl) dX3_byRing_38 ⟨Nat.le_refl _, Nat.le_refl _⟩ hS (fun _ h9 => h9) (fun v9 H locs hB hz9 hk9 hS => ?_)
          refine W.widen (k := 0) (n := 0) (Nat.le_refl 0) (Nat.le_refl 0) ?_
          obtain ⟨r_8, rfl, hm_8, hW⟩ := hB
          refine W.eq (g2 := F0 m 41 ls [.int r_8]) rfl ?_
          rcases hm_8 with rfl | ⟨rfl, hm_8⟩
          · skip
            refine lv_if_eq (tgt := 66) hx hb dX3_byRing_41 (by decide) (fun c_9 => ?_) (fun c_9 => absurd (by decide) c_9)
            obtain ⟨y_10, ey_10⟩ : ∃ y : Int32, y = (nI j) + 1 := ⟨_, rfl⟩
            refine lv_iinc (v := y_10) (lv' := [(5, .int y_10), (6, .ref (sA j)), (0, .ref h0), (1, .int a1), (2, .int a2), (3, .null), (4, .int n4)]) hx hb dX3_byRing_66 hl (k := 6) rfl (by rw [ey_10]; rfl) (by decide) rfl (fun ls hl => ?_)
            obtain rfl : y_10 = nI (j + 1) := ey_10.trans (nI_1 j)
            have en_11 : (nI (j + 1)).toInt = ((j + 1 : Nat) : Int) := pz_ti (by omega)
            refine lv_goto (tgt := 9) hx hb dX3_byRing_69 (by decide) ?_
            exact ih_B9 _ (by omega) (j + 1) n4 none _ _ ls rfl (by omega) (fun b9 h9 => by cases h9) hW hS (lv_sub hl [2, 3, 4, 5, 6, 0] rfl)
          · skip
            refine lv_if_eq (tgt := 66) hx hb dX3_byRing_41 (by decide) (fun c_12 => absurd c_12 (by decide)) (fun c_12 => ?_)
            refine lv_aload hx hb dX3_byRing_44 (lv_at hl 0 rfl) ?_
            refine lv_iload_n hx hb dX3_byRing_46 rfl (lv_at hl 2 rfl) ?_
            refine c_v (Pw := Cw dC dI z A bs cp h0 la sA cA ns nc dr X P tr nl nq rs) (n := 1) (As := [.int a1]) (rest := []) S (q_X2_wayFrom l dC dI z mi A bs cp h0 la sA cA ns nc dr X P tr nl nq rs j a1 (by omega)) iw_428 iw_425 iw_426 iw_427 iw_62 (by decide +kernel) rfl ⟨rfl, rfl, Nat.le_of_ble_eq_true rfl, Nat.le_of_ble_eq_true rfl⟩ KZ.blind (S_recv hK hW (by omega)) (hKZ.at hS (fun _ h9 => h9)) hW hl.1 rfl (Nat.le_of_ble_eq_true rfl) dX3_byRing_47 ⟨Nat.le_refl _, Nat.le_refl _⟩ hS (fun _ h9 => h9) (fun v9 H locs hB hz9 hk9 hS => ?_)
            refine W.widen (k := 0) (n := 0) (Nat.le_refl 0) (Nat.le_refl 0) ?_
            obtain ⟨r_13, rfl, hW⟩ := hB
            refine W.eq (g2 := F0 m 50 ls [.int r_13]) rfl ?_
            refine lv_iload hx hb dX3_byRing_50 (lv_at hl 5 rfl) ?_
            refine lv_icmp_ge (tgt := 66) hx hb dX3_byRing_52 (by decide) (fun c_14 => ?_) (fun c_14 => ?_)
            · skip
              have i_14 : r_13.toInt ≥ n4.toInt := by have h9 := pz_ge c_14; exact h9
              obtain ⟨y_15, ey_15⟩ : ∃ y : Int32, y = (nI j) + 1 := ⟨_, rfl⟩
              refine lv_iinc (v := y_15) (lv' := [(5, .int y_15), (6, .ref (sA j)), (0, .ref h0), (1, .int a1), (2, .int a2), (3, .null), (4, .int n4)]) hx hb dX3_byRing_66 hl (k := 6) rfl (by rw [ey_15]; rfl) (by decide) rfl (fun ls hl => ?_)
              obtain rfl : y_15 = nI (j + 1) := ey_15.trans (nI_1 j)
              have en_16 : (nI (j + 1)).toInt = ((j + 1 : Nat) : Int) := pz_ti (by omega)
              refine lv_goto (tgt := 9) hx hb dX3_byRing_69 (by decide) ?_
              exact ih_B9 _ (by omega) (j + 1) n4 none _ _ ls rfl (by omega) (fun b9 h9 => by cases h9) hW hS (lv_sub hl [2, 3, 4, 5, 6, 0] rfl)
            · skip
              have i_14 : r_13.toInt < n4.toInt := by have h9 := pz_nge c_14; exact h9
              refine lv_aload hx hb dX3_byRing_55 (lv_at hl 0 rfl) ?_
              refine lv_astore_n (lv' := [(3, .ref (sA j)), (6, .ref (sA j)), (0, .ref h0), (1, .int a1), (2, .int a2), (4, .int n4), (5, .int (nI j))]) hx hb dX3_byRing_57 rfl hl (by decide) rfl (fun ls hl => ?_)
              refine lv_aload hx hb dX3_byRing_58 (lv_at hl 1 rfl) ?_
              refine lv_iload_n hx hb dX3_byRing_60 rfl (lv_at hl 3 rfl) ?_
              refine c_v (Pw := Cw dC dI z A bs cp h0 la sA cA ns nc dr X P tr nl nq rs) (n := 1) (As := [.int a1]) (rest := []) S (q_X2_wayFrom l dC dI z mi A bs cp h0 la sA cA ns nc dr X P tr nl nq rs j a1 (by omega)) iw_428 iw_425 iw_426 iw_427 iw_62 (by decide +kernel) rfl ⟨rfl, rfl, Nat.le_of_ble_eq_true rfl, Nat.le_of_ble_eq_true rfl⟩ KZ.blind (S_recv hK hW (by omega)) (hKZ.at hS (fun _ h9 => h9)) hW hl.1 rfl (Nat.le_of_ble_eq_true rfl) dX3_byRing_61 ⟨Nat.le_refl _, Nat.le_refl _⟩ hS (fun _ h9 => h9) (fun v9 H locs hB hz9 hk9 hS => ?_)
              refine W.widen (k := 0) (n := 0) (Nat.le_refl 0) (Nat.le_refl 0) ?_
              obtain ⟨r_17, rfl, hW⟩ := hB
              refine W.eq (g2 := F0 m 64 ls [.int r_17]) rfl ?_
              refine lv_istore (lv' := [(4, .int r_17), (3, .ref (sA j)), (6, .ref (sA j)), (0, .ref h0), (1, .int a1), (2, .int a2), (5, .int (nI j))]) hx hb dX3_byRing_64 hl (by decide) rfl (fun ls hl => ?_)
              obtain ⟨y_18, ey_18⟩ : ∃ y : Int32, y = (nI j) + 1 := ⟨_, rfl⟩
              refine lv_iinc (v := y_18) (lv' := [(5, .int y_18), (4, .int r_17), (3, .ref (sA j)), (6, .ref (sA j)), (0, .ref h0), (1, .int a1), (2, .int a2)]) hx hb dX3_byRing_66 hl (k := 6) rfl (by rw [ey_18]; rfl) (by decide) rfl (fun ls hl => ?_)
              obtain rfl : y_18 = nI (j + 1) := ey_18.trans (nI_1 j)
              have en_19 : (nI (j + 1)).toInt = ((j + 1 : Nat) : Int) := pz_ti (by omega)
              refine lv_goto (tgt := 9) hx hb dX3_byRing_69 (by decide) ?_
              exact ih_B9 _ (by omega) (j + 1) r_17 (some j) _ _ ls rfl (by omega) (fun b9 h9 => by cases h9; exact ⟨by omega, hm_8⟩) hW hS (lv_sub hl [4, 5, 6, 2, 1, 0] rfl)
      · skip
        have hl : lv_has ls 7 [(0, .ref h0), (1, .int a1), (2, .int a2), (3, .ref (sA b)), (4, .int n4), (5, .int (nI j))] := hl
        obtain ⟨hbn, hbm⟩ := hbb b rfl
        refine lv_iload hx hb dX3_byRing_9 (lv_at hl 5 rfl) ?_
        refine lv_aload_n hx hb dX3_byRing_11 rfl (lv_at hl 0 rfl) ?_
        refine D_getl S hK hW 0 (by decide) (fun _ => rfl) iw_105 rfl dX3_byRing_12 ?_
        refine L_size (rest := [.int (nI j)]) S hKZ hW hS (i := 0) (by decide) hl.1 (Nat.le_of_ble_eq_true rfl) dX3_byRing_15 ⟨Nat.le_of_ble_eq_true rfl, Nat.le_of_ble_eq_true rfl⟩ ⟨Nat.le_refl _, Nat.le_refl _⟩ (fun H locs hW hS => ?_)
        refine W.eq (g2 := F0 m 18 ls [.int (nI ns), .int (nI j)]) rfl ?_
        obtain ⟨hns, hnc, hnl, ag_21, hag_21, -, hnq⟩ := id hW.2.2.2.2.2.2
        have en_22 : (nI ns).toInt = ((ns : Nat) : Int) := pz_ti (by omega)
        refine lv_icmp_ge (tgt := 72) hx hb dX3_byRing_18 (by decide) (fun c_23 => ?_) (fun c_23 => ?_)
        · skip
          have i_23 : (nI j).toInt ≥ (nI ns).toInt := by have h9 := pz_ge c_23; exact h9
          refine lv_aload_n hx hb dX3_byRing_72 rfl (lv_at hl 3 rfl) ?_
          exact r_a (o := some (sA b)) hx hb hr (Or.inl ⟨_, rfl⟩) hlocks hS dX3_byRing_73 (⟨_, rfl, Or.inr ⟨b, by omega, rfl, hbm⟩, hW⟩)
        · skip
          have i_23 : (nI j).toInt < (nI ns).toInt := by have h9 := pz_nge c_23; exact h9
          refine lv_aload_n hx hb dX3_byRing_21 rfl (lv_at hl 0 rfl) ?_
          refine D_getl S hK hW 0 (by decide) (fun _ => rfl) iw_105 rfl dX3_byRing_22 ?_
          refine lv_iload hx hb dX3_byRing_25 (lv_at hl 5 rfl) ?_
          refine L_get (rest := []) S hKZ hW hS (i := 0) (t := j) (by decide) (by show j < ns; omega) hl.1 (Nat.le_of_ble_eq_true rfl) dX3_byRing_27 ⟨Nat.le_of_ble_eq_true rfl, Nat.le_of_ble_eq_true rfl⟩ ⟨Nat.le_refl _, Nat.le_refl _⟩ (fun r_25 H locs hr_25 hW hS => ?_)
          obtain rfl : r_25 = sA j := hr_25
          refine S_cast S hK hW (k := j) (by omega) iw_158 dX3_byRing_30 ?_
          refine lv_astore (lv' := [(6, .ref (sA j)), (0, .ref h0), (1, .int a1), (2, .int a2), (3, .ref (sA b)), (4, .int n4), (5, .int (nI j))]) hx hb dX3_byRing_33 hl (by decide) rfl (fun ls hl => ?_)
          refine lv_aload hx hb dX3_byRing_35 (lv_at hl 0 rfl) ?_
          refine lv_iload_n hx hb dX3_byRing_37 rfl (lv_at hl 3 rfl) ?_
          refine c_v (Pw := Cw dC dI z A bs cp h0 la sA cA ns nc dr X P tr nl nq rs) (n := 1) (As := [.int a2]) (rest := []) S (q_X2_mayBeAsked l dC dI z mi A bs cp h0 la sA cA ns nc dr X P tr nl nq rs j a2 (by omega)) iw_419 iw_416 iw_417 iw_418 iw_62 (by decide +kernel) rfl ⟨rfl, rfl, Nat.le_of_ble_eq_true rfl, Nat.le_of_ble_eq_true rfl⟩ KZ.blind (S_recv hK hW (by omega)) (hKZ.at hS (fun _ h9 => h9)) hW hl.1 rfl (Nat.le_of_ble_eq_true rfl) dX3_byRing_38 ⟨Nat.le_refl _, Nat.le_refl _⟩ hS (fun _ h9 => h9) (fun v9 H locs hB hz9 hk9 hS => ?_)
          refine W.widen (k := 0) (n := 0) (Nat.le_refl 0) (Nat.le_refl 0) ?_
          obtain ⟨r_27, rfl, hm_27, hW⟩ := hB
          refine W.eq (g2 := F0 m 41 ls [.int r_27]) rfl ?_
          rcases hm_27 with rfl | ⟨rfl, hm_27⟩
          · skip
            refine lv_if_eq (tgt := 66) hx hb dX3_byRing_41 (by decide) (fun c_28 => ?_) (fun c_28 => absurd (by decide) c_28)
            obtain ⟨y_29, ey_29⟩ : ∃ y : Int32, y = (nI j) + 1 := ⟨_, rfl⟩
            refine lv_iinc (v := y_29) (lv' := [(5, .int y_29), (6, .ref (sA j)), (0, .ref h0), (1, .int a1), (2, .int a2), (3, .ref (sA b)), (4, .int n4)]) hx hb dX3_byRing_66 hl (k := 6) rfl (by rw [ey_29]; rfl) (by decide) rfl (fun ls hl => ?_)
            obtain rfl : y_29 = nI (j + 1) := ey_29.trans (nI_1 j)
            have en_30 : (nI (j + 1)).toInt = ((j + 1 : Nat) : Int) := pz_ti (by omega)
            refine lv_goto (tgt := 9) hx hb dX3_byRing_69 (by decide) ?_
            exact ih_B9 _ (by omega) (j + 1) n4 (some b) _ _ ls rfl (by omega) (fun b9 h9 => by cases h9; exact ⟨by omega, hbm⟩) hW hS (lv_sub hl [2, 3, 4, 5, 6, 0] rfl)
          · skip
            refine lv_if_eq (tgt := 66) hx hb dX3_byRing_41 (by decide) (fun c_31 => absurd c_31 (by decide)) (fun c_31 => ?_)
            refine lv_aload hx hb dX3_byRing_44 (lv_at hl 0 rfl) ?_
            refine lv_iload_n hx hb dX3_byRing_46 rfl (lv_at hl 2 rfl) ?_
            refine c_v (Pw := Cw dC dI z A bs cp h0 la sA cA ns nc dr X P tr nl nq rs) (n := 1) (As := [.int a1]) (rest := []) S (q_X2_wayFrom l dC dI z mi A bs cp h0 la sA cA ns nc dr X P tr nl nq rs j a1 (by omega)) iw_428 iw_425 iw_426 iw_427 iw_62 (by decide +kernel) rfl ⟨rfl, rfl, Nat.le_of_ble_eq_true rfl, Nat.le_of_ble_eq_true rfl⟩ KZ.blind (S_recv hK hW (by omega)) (hKZ.at hS (fun _ h9 => h9)) hW hl.1 rfl (Nat.le_of_ble_eq_true rfl) dX3_byRing_47 ⟨Nat.le_refl _, Nat.le_refl _⟩ hS (fun _ h9 => h9) (fun v9 H locs hB hz9 hk9 hS => ?_)
            refine W.widen (k := 0) (n := 0) (Nat.le_refl 0) (Nat.le_refl 0) ?_
            obtain ⟨r_32, rfl, hW⟩ := hB
            refine W.eq (g2 := F0 m 50 ls [.int r_32]) rfl ?_
            refine lv_iload hx hb dX3_byRing_50 (lv_at hl 5 rfl) ?_
            refine lv_icmp_ge (tgt := 66) hx hb dX3_byRing_52 (by decide) (fun c_33 => ?_) (fun c_33 => ?_)
            · skip
              have i_33 : r_32.toInt ≥ n4.toInt := by have h9 := pz_ge c_33; exact h9
              obtain ⟨y_34, ey_34⟩ : ∃ y : Int32, y = (nI j) + 1 := ⟨_, rfl⟩
              refine lv_iinc (v := y_34) (lv' := [(5, .int y_34), (6, .ref (sA j)), (0, .ref h0), (1, .int a1), (2, .int a2), (3, .ref (sA b)), (4, .int n4)]) hx hb dX3_byRing_66 hl (k := 6) rfl (by rw [ey_34]; rfl) (by decide) rfl (fun ls hl => ?_)
              obtain rfl : y_34 = nI (j + 1) := ey_34.trans (nI_1 j)
              have en_35 : (nI (j + 1)).toInt = ((j + 1 : Nat) : Int) := pz_ti (by omega)
              refine lv_goto (tgt := 9) hx hb dX3_byRing_69 (by decide) ?_
              exact ih_B9 _ (by omega) (j + 1) n4 (some b) _ _ ls rfl (by omega) (fun b9 h9 => by cases h9; exact ⟨by omega, hbm⟩) hW hS (lv_sub hl [2, 3, 4, 5, 6, 0] rfl)
            · skip
              have i_33 : r_32.toInt < n4.toInt := by have h9 := pz_nge c_33; exact h9
              refine lv_aload hx hb dX3_byRing_55 (lv_at hl 0 rfl) ?_
              refine lv_astore_n (lv' := [(3, .ref (sA j)), (6, .ref (sA j)), (0, .ref h0), (1, .int a1), (2, .int a2), (4, .int n4), (5, .int (nI j))]) hx hb dX3_byRing_57 rfl hl (by decide) rfl (fun ls hl => ?_)
              refine lv_aload hx hb dX3_byRing_58 (lv_at hl 1 rfl) ?_
              refine lv_iload_n hx hb dX3_byRing_60 rfl (lv_at hl 3 rfl) ?_
              refine c_v (Pw := Cw dC dI z A bs cp h0 la sA cA ns nc dr X P tr nl nq rs) (n := 1) (As := [.int a1]) (rest := []) S (q_X2_wayFrom l dC dI z mi A bs cp h0 la sA cA ns nc dr X P tr nl nq rs j a1 (by omega)) iw_428 iw_425 iw_426 iw_427 iw_62 (by decide +kernel) rfl ⟨rfl, rfl, Nat.le_of_ble_eq_true rfl, Nat.le_of_ble_eq_true rfl⟩ KZ.blind (S_recv hK hW (by omega)) (hKZ.at hS (fun _ h9 => h9)) hW hl.1 rfl (Nat.le_of_ble_eq_true rfl) dX3_byRing_61 ⟨Nat.le_refl _, Nat.le_refl _⟩ hS (fun _ h9 => h9) (fun v9 H locs hB hz9 hk9 hS => ?_)
              refine W.widen (k := 0) (n := 0) (Nat.le_refl 0) (Nat.le_refl 0) ?_
              obtain ⟨r_36, rfl, hW⟩ := hB
              refine W.eq (g2 := F0 m 64 ls [.int r_36]) rfl ?_
              refine lv_istore (lv' := [(4, .int r_36), (3, .ref (sA j)), (6, .ref (sA j)), (0, .ref h0), (1, .int a1), (2, .int a2), (5, .int (nI j))]) hx hb dX3_byRing_64 hl (by decide) rfl (fun ls hl => ?_)
              obtain ⟨y_37, ey_37⟩ : ∃ y : Int32, y = (nI j) + 1 := ⟨_, rfl⟩
              refine lv_iinc (v := y_37) (lv' := [(5, .int y_37), (4, .int r_36), (3, .ref (sA j)), (6, .ref (sA j)), (0, .ref h0), (1, .int a1), (2, .int a2)]) hx hb dX3_byRing_66 hl (k := 6) rfl (by rw [ey_37]; rfl) (by decide) rfl (fun ls hl => ?_)
              obtain rfl : y_37 = nI (j + 1) := ey_37.trans (nI_1 j)
              have en_38 : (nI (j + 1)).toInt = ((j + 1 : Nat) : Int) := pz_ti (by omega)
              refine lv_goto (tgt := 9) hx hb dX3_byRing_69 (by decide) ?_
              exact ih_B9 _ (by omega) (j + 1) r_36 (some j) _ _ ls rfl (by omega) (fun b9 h9 => by cases h9; exact ⟨by omega, hm_27⟩) hW hS (lv_sub hl [4, 5, 6, 2, 1, 0] rfl)
  exact loop_B9 _ 0 65536 none _ _ ls rfl (by omega) (fun b9 h9 => by cases h9) hW hS (lv_sub hl [3, 4, 5, 2, 1, 0] rfl)

abbrev B_q_X3_chosen (dC : Nat → ClassId) (dI : Nat → Nat → Nat) (z : Nat) (mi : Nat) (A : Nat → Prop) (bs : Nat) (cp : Nat) (h0 : Nat) (la : Nat → Nat) (sA : Nat → Nat) (cA : Nat → Nat) (ns : Nat) (nc : Nat) (dr : Nat → Prop) (X : Nat → Int32) (P : Nat → Prop) (tr : Nat → Int32) (nl : Nat) (nq : Nat) (rs : Nat) (a1 : Int32) (a2 : Int32) : Option Value → Heap → Prop := fun v H => ∃ o : Option Nat, v = some (va_rf o) ∧ (o = none ∨ ∃ k, k < ns ∧ o = some (sA k) ∧ (a2 >>> (nI k &&& 31)) &&& 1 = 0) ∧ Cw dC dI z A bs cp h0 la sA cA ns nc dr X P tr nl nq rs H
set_option maxHeartbeats 8000000 in
set_option maxRecDepth 20000 in
theorem q_X3_chosen (l : Launch) (dC : Nat → ClassId) (dI : Nat → Nat → Nat) (z : Nat) (mi : Nat) (A : Nat → Prop) (bs : Nat) (cp : Nat) (h0 : Nat) (la : Nat → Nat) (sA : Nat → Nat) (cA : Nat → Nat) (ns : Nat) (nc : Nat) (dr : Nat → Prop) (X : Nat → Int32) (P : Nat → Prop) (tr : Nat → Int32) (nl : Nat) (nq : Nat) (rs : Nat) (a1 : Int32) (a2 : Int32) : Met l yX3_chosen (cws yX3_chosen cX3_chosen 4 (some (.object "FrontDoor$Server"))) { frames := 4, cells := 0, slots := 0, locals := 90 } (va_Pc [.ref h0, .int a1, .int a2] (fun U => KZ dC dI z mi A U ∧ Cw dC dI z A bs cp h0 la sA cA ns nc dr X P tr nl nq rs U.heap)) (Qg (B_q_X3_chosen dC dI z mi A bs cp h0 la sA cA ns nc dr X P tr nl nq rs a1 a2) A) 0 0 A := by
  refine m_start (KK := KZ dC dI z mi A) (Pw := Cw dC dI z A bs cp h0 la sA cA ns nc dr X P tr nl nq rs) (by decide) (Nat.le_of_ble_eq_true rfl) ?_
  intro p e s m below meth c ls S hr hlocks hin hKZ hW hS hl
  obtain ⟨hx, hb, hml, hown, hts⟩ := id S
  have hK := hKZ.1
  obtain ⟨hns, hnc, hnl, ag, hag, hXg, hnq⟩ := id hW.2.2.2.2.2.2
  have hl : lv_has ls 4 [(0, .ref h0), (1, .int a1), (2, .int a2)] := hl
  refine lv_aload_n hx hb dX3_chosen_0 rfl (lv_at hl 0 rfl) ?_
  refine D_get S hK hW 6 (by decide) (fun _ => rfl) iw_111 rfl dX3_chosen_1 (fun x_1 hx_1 => ?_)
  replace hx_1 := hx_1 (by decide) (by decide)
  refine lv_if_ne (tgt := 13) hx hb dX3_chosen_4 (by decide) (fun c_2 => ?_) (fun c_2 => ?_)
  · skip
    have i_2 : ¬ x_1.toInt = 0 := by have h9 := pz_neq c_2; exact h9
    refine lv_aload_n hx hb dX3_chosen_13 rfl (lv_at hl 0 rfl) ?_
    refine D_get S hK hW 6 (by decide) (fun _ => rfl) iw_111 rfl dX3_chosen_14 (fun x_3 hx_3 => ?_)
    replace hx_3 := hx_3 (by decide) (by decide)
    refine lv_iconst (v := 2) hx hb dX3_chosen_17 (by decide) ?_
    refine lv_icmp_ne (tgt := 28) hx hb dX3_chosen_18 (by decide) (fun c_4 => ?_) (fun c_4 => ?_)
    · skip
      have i_4 : ¬ x_3.toInt = 2 := by have h9 := pz_neq c_4; exact h9
      refine lv_aload_n hx hb dX3_chosen_28 rfl (lv_at hl 0 rfl) ?_
      refine D_get S hK hW 6 (by decide) (fun _ => rfl) iw_111 rfl dX3_chosen_29 (fun x_5 hx_5 => ?_)
      replace hx_5 := hx_5 (by decide) (by decide)
      refine lv_iconst (v := 3) hx hb dX3_chosen_32 (by decide) ?_
      refine lv_icmp_ne (tgt := 47) hx hb dX3_chosen_33 (by decide) (fun c_6 => ?_) (fun c_6 => ?_)
      · skip
        have i_6 : ¬ x_5.toInt = 3 := by have h9 := pz_neq c_6; exact h9
        refine lv_null hx hb dX3_chosen_47 ?_
        refine lv_astore_nN (lv' := [(3, .null), (0, .ref h0), (1, .int a1), (2, .int a2)]) hx hb dX3_chosen_48 rfl hl (by decide) rfl (fun ls hl => ?_)
        refine lv_aload_nN hx hb dX3_chosen_49 rfl (lv_at hl 0 rfl) ?_
        refine lv_ifnullN (tgt := 57) hx hb dX3_chosen_50 (by decide) ?_
        refine lv_aload_n hx hb dX3_chosen_57 rfl (lv_at hl 1 rfl) ?_
        refine lv_iload_n hx hb dX3_chosen_58 rfl (lv_at hl 3 rfl) ?_
        refine lv_iconst (v := (-1)) hx hb dX3_chosen_59 (by decide) ?_
        refine c_v (Pw := Cw dC dI z A bs cp h0 la sA cA ns nc dr X P tr nl nq rs) (n := 2) (As := [.int a2, .int (-1)]) (rest := []) S (q_X3_byFewest l dC dI z mi A bs cp h0 la sA cA ns nc dr X P tr nl nq rs a2 (-1)) iw_439 iw_436 iw_438 iw_9 iw_57 (by decide +kernel) rfl ⟨rfl, rfl, Nat.le_of_ble_eq_true rfl, Nat.le_of_ble_eq_true rfl⟩ KZ.blind (D_recv hK hW) (hKZ.at hS (fun _ h9 => h9)) hW hl.1 rfl (Nat.le_of_ble_eq_true rfl) dX3_chosen_60 ⟨Nat.le_refl _, Nat.le_refl _⟩ hS (fun _ h9 => h9) (fun v9 H locs hB hz9 hk9 hS => ?_)
        refine W.widen (k := 0) (n := 0) (Nat.le_refl 0) (Nat.le_refl 0) ?_
        obtain ⟨o_7, rfl, ho_7, hW⟩ := hB
        rcases ho_7 with rfl | ⟨k_7, hk_7, rfl, hm_7⟩
        · skip
          refine W.eq (g2 := F0 m 63 ls [.null]) rfl ?_
          exact r_a (o := none) hx hb hr (Or.inl ⟨_, rfl⟩) hlocks hS dX3_chosen_63 (⟨none, rfl, Or.inl rfl, hW⟩)
        · skip
          refine W.eq (g2 := F0 m 63 ls [.ref (sA k_7)]) rfl ?_
          exact r_a (o := some (sA k_7)) hx hb hr (Or.inl ⟨_, rfl⟩) hlocks hS dX3_chosen_63 (⟨_, rfl, Or.inr ⟨k_7, by omega, rfl, hm_7⟩, hW⟩)
      · skip
        have i_6 : x_5.toInt = 3 := by have h9 := pz_eq c_6; exact h9
        refine lv_aload_n hx hb dX3_chosen_36 rfl (lv_at hl 0 rfl) ?_
        refine lv_iload_n hx hb dX3_chosen_37 rfl (lv_at hl 2 rfl) ?_
        refine lv_iload_n hx hb dX3_chosen_38 rfl (lv_at hl 1 rfl) ?_
        refine lv_iconst (v := 4) hx hb dX3_chosen_39 (by decide) ?_
        refine lv_irem hx hb dX3_chosen_40 (by decide) ?_
        refine lv_topi (fun x_8 _ => ?_)
        refine c_v (Pw := Cw dC dI z A bs cp h0 la sA cA ns nc dr X P tr nl nq rs) (n := 2) (As := [.int a2, .int x_8]) (rest := []) S (q_X3_byFewest l dC dI z mi A bs cp h0 la sA cA ns nc dr X P tr nl nq rs a2 x_8) iw_439 iw_436 iw_438 iw_9 iw_57 (by decide +kernel) rfl ⟨rfl, rfl, Nat.le_of_ble_eq_true rfl, Nat.le_of_ble_eq_true rfl⟩ KZ.blind (D_recv hK hW) (hKZ.at hS (fun _ h9 => h9)) hW hl.1 rfl (Nat.le_of_ble_eq_true rfl) dX3_chosen_41 ⟨Nat.le_refl _, Nat.le_refl _⟩ hS (fun _ h9 => h9) (fun v9 H locs hB hz9 hk9 hS => ?_)
        refine W.widen (k := 0) (n := 0) (Nat.le_refl 0) (Nat.le_refl 0) ?_
        obtain ⟨o_9, rfl, ho_9, hW⟩ := hB
        rcases ho_9 with rfl | ⟨k_9, hk_9, rfl, hm_9⟩
        · skip
          refine W.eq (g2 := F0 m 44 ls [.null]) rfl ?_
          refine lv_goto (tgt := 48) hx hb dX3_chosen_44 (by decide) ?_
          refine lv_astore_nN (lv' := [(3, .null), (0, .ref h0), (1, .int a1), (2, .int a2)]) hx hb dX3_chosen_48 rfl hl (by decide) rfl (fun ls hl => ?_)
          refine lv_aload_nN hx hb dX3_chosen_49 rfl (lv_at hl 0 rfl) ?_
          refine lv_ifnullN (tgt := 57) hx hb dX3_chosen_50 (by decide) ?_
          refine lv_aload_n hx hb dX3_chosen_57 rfl (lv_at hl 1 rfl) ?_
          refine lv_iload_n hx hb dX3_chosen_58 rfl (lv_at hl 3 rfl) ?_
          refine lv_iconst (v := (-1)) hx hb dX3_chosen_59 (by decide) ?_
          refine c_v (Pw := Cw dC dI z A bs cp h0 la sA cA ns nc dr X P tr nl nq rs) (n := 2) (As := [.int a2, .int (-1)]) (rest := []) S (q_X3_byFewest l dC dI z mi A bs cp h0 la sA cA ns nc dr X P tr nl nq rs a2 (-1)) iw_439 iw_436 iw_438 iw_9 iw_57 (by decide +kernel) rfl ⟨rfl, rfl, Nat.le_of_ble_eq_true rfl, Nat.le_of_ble_eq_true rfl⟩ KZ.blind (D_recv hK hW) (hKZ.at hS (fun _ h9 => h9)) hW hl.1 rfl (Nat.le_of_ble_eq_true rfl) dX3_chosen_60 ⟨Nat.le_refl _, Nat.le_refl _⟩ hS (fun _ h9 => h9) (fun v9 H locs hB hz9 hk9 hS => ?_)
          refine W.widen (k := 0) (n := 0) (Nat.le_refl 0) (Nat.le_refl 0) ?_
          obtain ⟨o_10, rfl, ho_10, hW⟩ := hB
          rcases ho_10 with rfl | ⟨k_10, hk_10, rfl, hm_10⟩
          · skip
            refine W.eq (g2 := F0 m 63 ls [.null]) rfl ?_
            exact r_a (o := none) hx hb hr (Or.inl ⟨_, rfl⟩) hlocks hS dX3_chosen_63 (⟨none, rfl, Or.inl rfl, hW⟩)
          · skip
            refine W.eq (g2 := F0 m 63 ls [.ref (sA k_10)]) rfl ?_
            exact r_a (o := some (sA k_10)) hx hb hr (Or.inl ⟨_, rfl⟩) hlocks hS dX3_chosen_63 (⟨_, rfl, Or.inr ⟨k_10, by omega, rfl, hm_10⟩, hW⟩)
        · skip
          refine W.eq (g2 := F0 m 44 ls [.ref (sA k_9)]) rfl ?_
          refine lv_goto (tgt := 48) hx hb dX3_chosen_44 (by decide) ?_
          refine lv_astore_n (lv' := [(3, .ref (sA k_9)), (0, .ref h0), (1, .int a1), (2, .int a2)]) hx hb dX3_chosen_48 rfl hl (by decide) rfl (fun ls hl => ?_)
          refine lv_aload_n hx hb dX3_chosen_49 rfl (lv_at hl 0 rfl) ?_
          refine lv_ifnull hx hb dX3_chosen_50 ?_
          refine lv_aload_n hx hb dX3_chosen_53 rfl (lv_at hl 0 rfl) ?_
          refine lv_goto (tgt := 63) hx hb dX3_chosen_54 (by decide) ?_
          exact r_a (o := some (sA k_9)) hx hb hr (Or.inl ⟨_, rfl⟩) hlocks hS dX3_chosen_63 (⟨_, rfl, Or.inr ⟨k_9, by omega, rfl, hm_9⟩, hW⟩)
    · skip
      have i_4 : x_3.toInt = 2 := by have h9 := pz_eq c_4; exact h9
      refine lv_aload_n hx hb dX3_chosen_21 rfl (lv_at hl 0 rfl) ?_
      refine lv_iload_n hx hb dX3_chosen_22 rfl (lv_at hl 1 rfl) ?_
      refine lv_iload_n hx hb dX3_chosen_23 rfl (lv_at hl 2 rfl) ?_
      refine c_v (Pw := Cw dC dI z A bs cp h0 la sA cA ns nc dr X P tr nl nq rs) (n := 2) (As := [.int a1, .int a2]) (rest := []) S (q_X3_byRing l dC dI z mi A bs cp h0 la sA cA ns nc dr X P tr nl nq rs a1 a2) iw_423 iw_420 iw_422 iw_8 iw_57 (by decide +kernel) rfl ⟨rfl, rfl, Nat.le_of_ble_eq_true rfl, Nat.le_of_ble_eq_true rfl⟩ KZ.blind (D_recv hK hW) (hKZ.at hS (fun _ h9 => h9)) hW hl.1 rfl (Nat.le_of_ble_eq_true rfl) dX3_chosen_24 ⟨Nat.le_refl _, Nat.le_refl _⟩ hS (fun _ h9 => h9) (fun v9 H locs hB hz9 hk9 hS => ?_)
      refine W.widen (k := 0) (n := 0) (Nat.le_refl 0) (Nat.le_refl 0) ?_
      obtain ⟨o_11, rfl, ho_11, hW⟩ := hB
      rcases ho_11 with rfl | ⟨k_11, hk_11, rfl, hm_11⟩
      · skip
        refine W.eq (g2 := F0 m 27 ls [.null]) rfl ?_
        exact r_a (o := none) hx hb hr (Or.inl ⟨_, rfl⟩) hlocks hS dX3_chosen_27 (⟨none, rfl, Or.inl rfl, hW⟩)
      · skip
        refine W.eq (g2 := F0 m 27 ls [.ref (sA k_11)]) rfl ?_
        exact r_a (o := some (sA k_11)) hx hb hr (Or.inl ⟨_, rfl⟩) hlocks hS dX3_chosen_27 (⟨_, rfl, Or.inr ⟨k_11, by omega, rfl, hm_11⟩, hW⟩)
  · skip
    have i_2 : x_1.toInt = 0 := by have h9 := pz_eq c_2; exact h9
    refine lv_aload_n hx hb dX3_chosen_7 rfl (lv_at hl 0 rfl) ?_
    refine lv_iload_n hx hb dX3_chosen_8 rfl (lv_at hl 2 rfl) ?_
    refine c_v (Pw := Cw dC dI z A bs cp h0 la sA cA ns nc dr X P tr nl nq rs) (n := 1) (As := [.int a2]) (rest := []) S (q_X3_byTurn l dC dI z mi A bs cp h0 la sA cA ns nc dr X P tr nl nq rs a2) iw_415 iw_412 iw_414 iw_7 iw_57 (by decide +kernel) rfl ⟨rfl, rfl, Nat.le_of_ble_eq_true rfl, Nat.le_of_ble_eq_true rfl⟩ KZ.blind (D_recv hK hW) (hKZ.at hS (fun _ h9 => h9)) hW hl.1 rfl (Nat.le_of_ble_eq_true rfl) dX3_chosen_9 ⟨Nat.le_refl _, Nat.le_refl _⟩ hS (fun _ h9 => h9) (fun v9 H locs hB hz9 hk9 hS => ?_)
    refine W.widen (k := 0) (n := 0) (Nat.le_refl 0) (Nat.le_refl 0) ?_
    obtain ⟨o_12, rfl, ho_12, hW⟩ := hB
    rcases ho_12 with rfl | ⟨k_12, hk_12, rfl, hm_12⟩
    · skip
      refine W.eq (g2 := F0 m 12 ls [.null]) rfl ?_
      exact r_a (o := none) hx hb hr (Or.inl ⟨_, rfl⟩) hlocks hS dX3_chosen_12 (⟨none, rfl, Or.inl rfl, hW⟩)
    · skip
      refine W.eq (g2 := F0 m 12 ls [.ref (sA k_12)]) rfl ?_
      exact r_a (o := some (sA k_12)) hx hb hr (Or.inl ⟨_, rfl⟩) hlocks hS dX3_chosen_12 (⟨_, rfl, Or.inr ⟨k_12, by omega, rfl, hm_12⟩, hW⟩)

abbrev B_q_X3_settleCredits (dC : Nat → ClassId) (dI : Nat → Nat → Nat) (z : Nat) (mi : Nat) (A : Nat → Prop) (bs : Nat) (cp : Nat) (h0 : Nat) (la : Nat → Nat) (sA : Nat → Nat) (cA : Nat → Nat) (ns : Nat) (nc : Nat) (dr : Nat → Prop) (X : Nat → Int32) (P : Nat → Prop) (tr : Nat → Int32) (nl : Nat) (nq : Nat) (rs : Nat) (a1 : Int32) (k : Nat) : Option Value → Heap → Prop := fun v H => v = none ∧ Cw dC dI z A bs cp h0 la sA cA ns nc dr X P tr nl nq rs H
set_option maxHeartbeats 8000000 in
set_option maxRecDepth 20000 in
theorem q_X3_settleCredits (l : Launch) (dC : Nat → ClassId) (dI : Nat → Nat → Nat) (z : Nat) (mi : Nat) (A : Nat → Prop) (bs : Nat) (cp : Nat) (h0 : Nat) (la : Nat → Nat) (sA : Nat → Nat) (cA : Nat → Nat) (ns : Nat) (nc : Nat) (dr : Nat → Prop) (X : Nat → Int32) (P : Nat → Prop) (tr : Nat → Int32) (nl : Nat) (nq : Nat) (rs : Nat) (a1 : Int32) (k : Nat) (hk : k < ns) : Met l yX3_settleCredits (cws yX3_settleCredits cX3_settleCredits 6 none) { frames := 3, cells := 0, slots := 0, locals := 64 } (va_Pc [.ref h0, .int a1, .ref (sA k)] (fun U => KZ dC dI z mi A U ∧ Cw dC dI z A bs cp h0 la sA cA ns nc dr X P tr nl nq rs U.heap)) (Qg (B_q_X3_settleCredits dC dI z mi A bs cp h0 la sA cA ns nc dr X P tr nl nq rs a1 k) A) 0 0 A := by
  refine m_start (KK := KZ dC dI z mi A) (Pw := Cw dC dI z A bs cp h0 la sA cA ns nc dr X P tr nl nq rs) (by decide) (Nat.le_of_ble_eq_true rfl) ?_
  intro p e s m below meth c ls S hr hlocks hin hKZ hW hS hl
  obtain ⟨hx, hb, hml, hown, hts⟩ := id S
  have hK := hKZ.1
  obtain ⟨hns, hnc, hnl, ag, hag, hXg, hnq⟩ := id hW.2.2.2.2.2.2
  have hl : lv_has ls 6 [(0, .ref h0), (1, .int a1), (2, .ref (sA k))] := hl
  refine lv_iconst (v := 0) hx hb dX3_settleCredits_0 (by decide) ?_
  refine lv_istore_n (lv' := [(3, .int 0), (0, .ref h0), (1, .int a1), (2, .ref (sA k))]) hx hb dX3_settleCredits_1 rfl hl (by decide) rfl (fun ls hl => ?_)
  refine lv_iconst (v := 0) hx hb dX3_settleCredits_2 (by decide) ?_
  refine lv_istore (lv' := [(4, .int 0), (3, .int 0), (0, .ref h0), (1, .int a1), (2, .ref (sA k))]) hx hb dX3_settleCredits_3 hl (by decide) rfl (fun ls hl => ?_)
  have loop_B5 : ∀ (k9 : Nat) (j : Nat) (n3 : Int32) (H : Heap) (locs : List Loc) (ls : Array Slot), ns - j = k9 → (j ≤ ns) → Cw dC dI z A bs cp h0 la sA cA ns nc dr X P tr nl nq rs H → va_S A s.heap H locs → lv_has ls 6 [(0, .ref h0), (1, .int a1), (2, .ref (sA k)), (3, .int n3), (4, .int (nI j))] → W p l e { frames := 3, cells := 0, slots := 0, locals := 64 } s m ([.ref h0, .int a1, .ref (sA k)] : List Value).toArray below meth c H locs 0 0 (MQ below (Qg (B_q_X3_settleCredits dC dI z mi A bs cp h0 la sA cA ns nc dr X P tr nl nq rs a1 k) A) ([.ref h0, .int a1, .ref (sA k)] : List Value).toArray s 0 0 A) (F0 m 5 ls []) := by
    intro k9
    induction k9 using Nat.strongRecOn with
    | ind k9 ih_B5 =>
      intro j n3 H locs ls hm_B5 hle_j hW hS hl
      have en_j : (nI j).toInt = ((j : Nat) : Int) := pz_ti (by omega)
      refine lv_iload hx hb dX3_settleCredits_5 (lv_at hl 4 rfl) ?_
      refine lv_aload_n hx hb dX3_settleCredits_7 rfl (lv_at hl 0 rfl) ?_
      refine D_getl S hK hW 0 (by decide) (fun _ => rfl) iw_105 rfl dX3_settleCredits_8 ?_
      refine L_size (rest := [.int (nI j)]) S hKZ hW hS (i := 0) (by decide) hl.1 (Nat.le_of_ble_eq_true rfl) dX3_settleCredits_11 ⟨Nat.le_of_ble_eq_true rfl, Nat.le_of_ble_eq_true rfl⟩ ⟨Nat.le_refl _, Nat.le_refl _⟩ (fun H locs hW hS => ?_)
      refine W.eq (g2 := F0 m 14 ls [.int (nI ns), .int (nI j)]) rfl ?_
      obtain ⟨hns, hnc, hnl, ag_2, hag_2, -, hnq⟩ := id hW.2.2.2.2.2.2
      have en_3 : (nI ns).toInt = ((ns : Nat) : Int) := pz_ti (by omega)
      refine lv_icmp_ge (tgt := 69) hx hb dX3_settleCredits_14 (by decide) (fun c_4 => ?_) (fun c_4 => ?_)
      · skip
        have i_4 : (nI j).toInt ≥ (nI ns).toInt := by have h9 := pz_ge c_4; exact h9
        refine lv_aload_n hx hb dX3_settleCredits_69 rfl (lv_at hl 2 rfl) ?_
        refine lv_dup hx hb dX3_settleCredits_70 rfl ?_
        obtain ⟨-, x_5, hc_5, h0_5, hd_5⟩ := hW.2.2.1 k (by omega)
        refine S_gp S hK hc_5 16 (by decide) (fun _ => rfl) iw_193 rfl dX3_settleCredits_71 ?_
        refine lv_iload_n hx hb dX3_settleCredits_74 rfl (lv_at hl 3 rfl) ?_
        refine lv_isub hx hb dX3_settleCredits_75 ?_
        refine lv_topi (fun x_6 _ => ?_)
        refine S_put S hK hW hS (k := k) (by omega) 16 (by decide) (by decide) (by decide) (fun _ => rfl) iw_193 rfl rfl (by decide +kernel) rfl dX3_settleCredits_76 (fun H locs hW hS => ?_)
        exact r_v hx hb hr hlocks hS dX3_settleCredits_79 (⟨rfl, hW⟩)
      · skip
        have i_4 : (nI j).toInt < (nI ns).toInt := by have h9 := pz_nge c_4; exact h9
        refine lv_aload_n hx hb dX3_settleCredits_17 rfl (lv_at hl 0 rfl) ?_
        refine D_getl S hK hW 0 (by decide) (fun _ => rfl) iw_105 rfl dX3_settleCredits_18 ?_
        refine lv_iload hx hb dX3_settleCredits_21 (lv_at hl 4 rfl) ?_
        refine L_get (rest := []) S hKZ hW hS (i := 0) (t := j) (by decide) (by show j < ns; omega) hl.1 (Nat.le_of_ble_eq_true rfl) dX3_settleCredits_23 ⟨Nat.le_of_ble_eq_true rfl, Nat.le_of_ble_eq_true rfl⟩ ⟨Nat.le_refl _, Nat.le_refl _⟩ (fun r_9 H locs hr_9 hW hS => ?_)
        obtain rfl : r_9 = sA j := hr_9
        refine S_cast S hK hW (k := j) (by omega) iw_158 dX3_settleCredits_26 ?_
        refine lv_astore (lv' := [(5, .ref (sA j)), (0, .ref h0), (1, .int a1), (2, .ref (sA k)), (3, .int n3), (4, .int (nI j))]) hx hb dX3_settleCredits_29 hl (by decide) rfl (fun ls hl => ?_)
        refine lv_aload hx hb dX3_settleCredits_31 (lv_at hl 0 rfl) ?_
        refine lv_iload_n hx hb dX3_settleCredits_33 rfl (lv_at hl 2 rfl) ?_
        refine c_v (Pw := Cw dC dI z A bs cp h0 la sA cA ns nc dr X P tr nl nq rs) (n := 1) (As := [.int a1]) (rest := []) S (q_X2_mayBeAsked l dC dI z mi A bs cp h0 la sA cA ns nc dr X P tr nl nq rs j a1 (by omega)) iw_419 iw_416 iw_417 iw_418 iw_62 (by decide +kernel) rfl ⟨rfl, rfl, Nat.le_of_ble_eq_true rfl, Nat.le_of_ble_eq_true rfl⟩ KZ.blind (S_recv hK hW (by omega)) (hKZ.at hS (fun _ h9 => h9)) hW hl.1 rfl (Nat.le_of_ble_eq_true rfl) dX3_settleCredits_34 ⟨Nat.le_refl _, Nat.le_refl _⟩ hS (fun _ h9 => h9) (fun v9 H locs hB hz9 hk9 hS => ?_)
        refine W.widen (k := 0) (n := 0) (Nat.le_refl 0) (Nat.le_refl 0) ?_
        obtain ⟨r_11, rfl, hm_11, hW⟩ := hB
        refine W.eq (g2 := F0 m 37 ls [.int r_11]) rfl ?_
        rcases hm_11 with rfl | ⟨rfl, hm_11⟩
        · skip
          refine lv_if_eq (tgt := 63) hx hb dX3_settleCredits_37 (by decide) (fun c_12 => ?_) (fun c_12 => absurd (by decide) c_12)
          obtain ⟨y_13, ey_13⟩ : ∃ y : Int32, y = (nI j) + 1 := ⟨_, rfl⟩
          refine lv_iinc (v := y_13) (lv' := [(4, .int y_13), (5, .ref (sA j)), (0, .ref h0), (1, .int a1), (2, .ref (sA k)), (3, .int n3)]) hx hb dX3_settleCredits_63 hl (k := 5) rfl (by rw [ey_13]; rfl) (by decide) rfl (fun ls hl => ?_)
          obtain rfl : y_13 = nI (j + 1) := ey_13.trans (nI_1 j)
          have en_14 : (nI (j + 1)).toInt = ((j + 1 : Nat) : Int) := pz_ti (by omega)
          refine lv_goto (tgt := 5) hx hb dX3_settleCredits_66 (by decide) ?_
          exact ih_B5 _ (by omega) (j + 1) n3 _ _ ls rfl (by omega) hW hS (lv_sub hl [2, 3, 4, 5, 0] rfl)
        · skip
          refine lv_if_eq (tgt := 63) hx hb dX3_settleCredits_37 (by decide) (fun c_15 => absurd c_15 (by decide)) (fun c_15 => ?_)
          refine lv_aload hx hb dX3_settleCredits_40 (lv_at hl 0 rfl) ?_
          refine lv_dup hx hb dX3_settleCredits_42 rfl ?_
          obtain ⟨-, x_16, hc_16, h0_16, hd_16⟩ := hW.2.2.1 j (by omega)
          refine S_gp S hK hc_16 16 (by decide) (fun _ => rfl) iw_193 rfl dX3_settleCredits_43 ?_
          refine lv_aload hx hb dX3_settleCredits_46 (lv_at hl 0 rfl) ?_
          refine S_gp S hK hc_16 2 (by decide) (fun _ => rfl) iw_170 rfl dX3_settleCredits_48 ?_
          refine lv_iadd hx hb dX3_settleCredits_51 ?_
          refine lv_topi (fun x_18 _ => ?_)
          refine S_put S hK hW hS (k := j) (by omega) 16 (by decide) (by decide) (by decide) (fun _ => rfl) iw_193 rfl rfl (by decide +kernel) rfl dX3_settleCredits_52 (fun H locs hW hS => ?_)
          refine lv_iload_n hx hb dX3_settleCredits_55 rfl (lv_at hl 4 rfl) ?_
          refine lv_aload hx hb dX3_settleCredits_56 (lv_at hl 0 rfl) ?_
          obtain ⟨-, x_20, hc_20, h0_20, hd_20⟩ := hW.2.2.1 j (by omega)
          refine S_gp S hK hc_20 2 (by decide) (fun _ => rfl) iw_170 rfl dX3_settleCredits_58 ?_
          refine lv_iadd hx hb dX3_settleCredits_61 ?_
          refine lv_topi (fun x_21 _ => ?_)
          refine lv_istore_n (lv' := [(3, .int x_21), (5, .ref (sA j)), (0, .ref h0), (1, .int a1), (2, .ref (sA k)), (4, .int (nI j))]) hx hb dX3_settleCredits_62 rfl hl (by decide) rfl (fun ls hl => ?_)
          obtain ⟨y_22, ey_22⟩ : ∃ y : Int32, y = (nI j) + 1 := ⟨_, rfl⟩
          refine lv_iinc (v := y_22) (lv' := [(4, .int y_22), (3, .int x_21), (5, .ref (sA j)), (0, .ref h0), (1, .int a1), (2, .ref (sA k))]) hx hb dX3_settleCredits_63 hl (k := 5) rfl (by rw [ey_22]; rfl) (by decide) rfl (fun ls hl => ?_)
          obtain rfl : y_22 = nI (j + 1) := ey_22.trans (nI_1 j)
          have en_23 : (nI (j + 1)).toInt = ((j + 1 : Nat) : Int) := pz_ti (by omega)
          refine lv_goto (tgt := 5) hx hb dX3_settleCredits_66 (by decide) ?_
          exact ih_B5 _ (by omega) (j + 1) x_21 _ _ ls rfl (by omega) hW hS (lv_sub hl [3, 4, 5, 1, 0] rfl)
  exact loop_B5 _ 0 0 _ _ ls rfl (by omega) hW hS (lv_sub hl [2, 3, 4, 1, 0] rfl)
