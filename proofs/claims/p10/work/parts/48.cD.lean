abbrev B_q_X3_leaveLine (dC : Nat → ClassId) (dI : Nat → Nat → Nat) (z : Nat) (mi : Nat) (A : Nat → Prop) (bs : Nat) (cp : Nat) (h0 : Nat) (la : Nat → Nat) (sA : Nat → Nat) (cA : Nat → Nat) (ns : Nat) (nc : Nat) (dr : Nat → Prop) (X : Nat → Int32) (P : Nat → Prop) (tr : Nat → Int32) (nl : Nat) (nq : Nat) (rs : Nat) (k : Nat) : Option Value → Heap → Prop := fun v H => ∃ nq1 : Nat, v = none ∧ nq1 ≤ nq ∧ Cw dC dI z A bs cp h0 la sA cA ns nc dr X P tr nl nq1 rs H
set_option maxHeartbeats 8000000 in
set_option maxRecDepth 20000 in
theorem q_X3_leaveLine (l : Launch) (dC : Nat → ClassId) (dI : Nat → Nat → Nat) (z : Nat) (mi : Nat) (A : Nat → Prop) (bs : Nat) (cp : Nat) (h0 : Nat) (la : Nat → Nat) (sA : Nat → Nat) (cA : Nat → Nat) (ns : Nat) (nc : Nat) (dr : Nat → Prop) (X : Nat → Int32) (P : Nat → Prop) (tr : Nat → Int32) (nl : Nat) (nq : Nat) (rs : Nat) (k : Nat) (hk : k < nc) : Met l yX3_leaveLine (cws yX3_leaveLine cX3_leaveLine 3 none) { frames := 4, cells := 0, slots := 0, locals := 120 } (va_Pc [.ref h0, .ref (cA k)] (fun U => KZ dC dI z mi A U ∧ Cw dC dI z A bs cp h0 la sA cA ns nc dr X P tr nl nq rs U.heap)) (Qg (B_q_X3_leaveLine dC dI z mi A bs cp h0 la sA cA ns nc dr X P tr nl nq rs k) A) 0 0 A := by
  refine m_start (KK := KZ dC dI z mi A) (Pw := Cw dC dI z A bs cp h0 la sA cA ns nc dr X P tr nl nq rs) (by decide) (Nat.le_of_ble_eq_true rfl) ?_
  intro p e s m below meth c ls S hr hlocks hin hKZ hW hS hl
  obtain ⟨hx, hb, hml, hown, hts⟩ := id S
  have hK := hKZ.1
  obtain ⟨hns, hnc, hnl, ag, hag, hXg, hnq⟩ := id hW.2.2.2.2.2.2
  have hl : lv_has ls 3 [(0, .ref h0), (1, .ref (cA k))] := hl
  have en_k : (nI k).toInt = ((k : Nat) : Int) := pz_ti (by omega)
  refine lv_iconst (v := 0) hx hb dX3_leaveLine_0 (by decide) ?_
  refine lv_istore_n (lv' := [(2, .int 0), (0, .ref h0), (1, .ref (cA k))]) hx hb dX3_leaveLine_1 rfl hl (by decide) rfl (fun ls hl => ?_)
  have loop_B2 : ∀ (k9 : Nat) (j : Nat) (H : Heap) (locs : List Loc) (ls : Array Slot), nq - j = k9 → (j ≤ nq) → Cw dC dI z A bs cp h0 la sA cA ns nc dr X P tr nl nq rs H → va_S A s.heap H locs → lv_has ls 3 [(0, .ref h0), (1, .ref (cA k)), (2, .int (nI j))] → W p l e { frames := 4, cells := 0, slots := 0, locals := 120 } s m ([.ref h0, .ref (cA k)] : List Value).toArray below meth c H locs 0 0 (MQ below (Qg (B_q_X3_leaveLine dC dI z mi A bs cp h0 la sA cA ns nc dr X P tr nl nq rs k) A) ([.ref h0, .ref (cA k)] : List Value).toArray s 0 0 A) (F0 m 2 ls []) := by
    intro k9
    induction k9 using Nat.strongRecOn with
    | ind k9 ih_B2 =>
      intro j H locs ls hm_B2 hle_j hW hS hl
      have en_j : (nI j).toInt = ((j : Nat) : Int) := pz_ti (by omega)
      refine lv_iload_n hx hb dX3_leaveLine_2 rfl (lv_at hl 2 rfl) ?_
      refine lv_aload_n hx hb dX3_leaveLine_3 rfl (lv_at hl 0 rfl) ?_
      refine D_getl S hK hW 3 (by decide) (fun _ => rfl) iw_108 rfl dX3_leaveLine_4 ?_
      refine L_size (rest := [.int (nI j)]) S hKZ hW hS (i := 3) (by decide) hl.1 (Nat.le_of_ble_eq_true rfl) dX3_leaveLine_7 ⟨Nat.le_of_ble_eq_true rfl, Nat.le_of_ble_eq_true rfl⟩ ⟨Nat.le_refl _, Nat.le_refl _⟩ (fun H locs hW hS => ?_)
      refine W.eq (g2 := F0 m 10 ls [.int (nI nq), .int (nI j)]) rfl ?_
      obtain ⟨hns, hnc, hnl, ag_2, hag_2, -, hnq⟩ := id hW.2.2.2.2.2.2
      have en_3 : (nI nq).toInt = ((nq : Nat) : Int) := pz_ti (by omega)
      refine lv_icmp_ge (tgt := 50) hx hb dX3_leaveLine_10 (by decide) (fun c_4 => ?_) (fun c_4 => ?_)
      · skip
        have i_4 : (nI j).toInt ≥ (nI nq).toInt := by have h9 := pz_ge c_4; exact h9
        exact r_v hx hb hr hlocks hS dX3_leaveLine_50 (⟨_, rfl, by omega, hW⟩)
      · skip
        have i_4 : (nI j).toInt < (nI nq).toInt := by have h9 := pz_nge c_4; exact h9
        refine lv_aload_n hx hb dX3_leaveLine_13 rfl (lv_at hl 0 rfl) ?_
        refine D_getl S hK hW 3 (by decide) (fun _ => rfl) iw_108 rfl dX3_leaveLine_14 ?_
        refine lv_iload_n hx hb dX3_leaveLine_17 rfl (lv_at hl 2 rfl) ?_
        refine L_get (rest := []) S hKZ hW hS (i := 3) (t := j) (by decide) (by show j < nq; omega) hl.1 (Nat.le_of_ble_eq_true rfl) dX3_leaveLine_18 ⟨Nat.le_of_ble_eq_true rfl, Nat.le_of_ble_eq_true rfl⟩ ⟨Nat.le_refl _, Nat.le_refl _⟩ (fun r_6 H locs hr_6 hW hS => ?_)
        obtain ⟨c_6a, hc_6a, rfl⟩ : ∃ c, c < nc ∧ r_6 = cA c := hr_6
        refine C_cast S hK hW (k := c_6a) (by omega) iw_351 dX3_leaveLine_21 ?_
        obtain ⟨-, y_8, p_8, q_8, hc_8, ⟨h0_8, h7_8⟩, hp_8, hq_8⟩ := hW.2.2.2.1 c_6a (by omega)
        refine C_gp (v := .int (y_8 0)) S hK hc_8 0 (by decide) rfl iw_358 rfl dX3_leaveLine_24 ?_
        rw [h0_8]
        refine lv_aload_n hx hb dX3_leaveLine_27 rfl (lv_at hl 1 rfl) ?_
        obtain ⟨-, y_9, p_9, q_9, hc_9, ⟨h0_9, h7_9⟩, hp_9, hq_9⟩ := hW.2.2.2.1 k (by omega)
        refine C_gp (v := .int (y_9 0)) S hK hc_9 0 (by decide) rfl iw_358 rfl dX3_leaveLine_28 ?_
        rw [h0_9]
        refine lv_icmp_ne (tgt := 44) hx hb dX3_leaveLine_31 (by decide) (fun c_10 => ?_) (fun c_10 => ?_)
        · skip
          have i_10 : ¬ (nI c_6a).toInt = (nI k).toInt := by have h9 := pz_neq c_10; exact h9
          obtain ⟨y_11, ey_11⟩ : ∃ y : Int32, y = (nI j) + 1 := ⟨_, rfl⟩
          refine lv_iinc (v := y_11) (lv' := [(2, .int y_11), (0, .ref h0), (1, .ref (cA k))]) hx hb dX3_leaveLine_44 hl (k := 2) rfl (by rw [ey_11]; rfl) (by decide) rfl (fun ls hl => ?_)
          obtain rfl : y_11 = nI (j + 1) := ey_11.trans (nI_1 j)
          have en_12 : (nI (j + 1)).toInt = ((j + 1 : Nat) : Int) := pz_ti (by omega)
          refine lv_goto (tgt := 2) hx hb dX3_leaveLine_47 (by decide) ?_
          exact ih_B2 _ (by omega) (j + 1) _ _ ls rfl (by omega) hW hS (lv_sub hl [1, 2, 0] rfl)
        · skip
          have i_10 : (nI c_6a).toInt = (nI k).toInt := by have h9 := pz_eq c_10; exact h9
          refine lv_aload_n hx hb dX3_leaveLine_34 rfl (lv_at hl 0 rfl) ?_
          refine D_getl S hK hW 3 (by decide) (fun _ => rfl) iw_108 rfl dX3_leaveLine_35 ?_
          refine lv_iload_n hx hb dX3_leaveLine_38 rfl (lv_at hl 2 rfl) ?_
          refine L_rem3 (rest := []) S hKZ hW hS (t := j) (by omega) hl.1 (Nat.le_of_ble_eq_true rfl) dX3_leaveLine_39 ⟨Nat.le_of_ble_eq_true rfl, Nat.le_of_ble_eq_true rfl⟩ ⟨Nat.le_refl _, Nat.le_refl _⟩ (fun H locs r_14 hW hS => ?_)
          refine lv_pop hx hb dX3_leaveLine_42 rfl ?_
          exact r_v hx hb hr hlocks hS dX3_leaveLine_43 (⟨_, rfl, by omega, hW⟩)
  exact loop_B2 _ 0 _ _ ls rfl (by omega) hW hS (lv_sub hl [1, 2, 0] rfl)

abbrev B_q_X3_dropEnded (dC : Nat → ClassId) (dI : Nat → Nat → Nat) (z : Nat) (mi : Nat) (A : Nat → Prop) (bs : Nat) (cp : Nat) (h0 : Nat) (la : Nat → Nat) (sA : Nat → Nat) (cA : Nat → Nat) (ns : Nat) (nc : Nat) (dr : Nat → Prop) (X : Nat → Int32) (P : Nat → Prop) (tr : Nat → Int32) (nl : Nat) (nq : Nat) (rs : Nat) : Option Value → Heap → Prop := fun v H => ∃ nl1 : Nat, v = none ∧ Cw dC dI z A bs cp h0 la sA cA ns nc dr X P tr nl1 nq rs H
set_option maxHeartbeats 8000000 in
set_option maxRecDepth 20000 in
theorem q_X3_dropEnded (l : Launch) (dC : Nat → ClassId) (dI : Nat → Nat → Nat) (z : Nat) (mi : Nat) (A : Nat → Prop) (bs : Nat) (cp : Nat) (h0 : Nat) (la : Nat → Nat) (sA : Nat → Nat) (cA : Nat → Nat) (ns : Nat) (nc : Nat) (dr : Nat → Prop) (X : Nat → Int32) (P : Nat → Prop) (tr : Nat → Int32) (nl : Nat) (nq : Nat) (rs : Nat) : Met l yX3_dropEnded (cws yX3_dropEnded cX3_dropEnded 2 none) { frames := 4, cells := 0, slots := 0, locals := 120 } (va_Pc [.ref h0] (fun U => KZ dC dI z mi A U ∧ Cw dC dI z A bs cp h0 la sA cA ns nc dr X P tr nl nq rs U.heap)) (Qg (B_q_X3_dropEnded dC dI z mi A bs cp h0 la sA cA ns nc dr X P tr nl nq rs) A) 0 0 A := by
  refine m_start (KK := KZ dC dI z mi A) (Pw := Cw dC dI z A bs cp h0 la sA cA ns nc dr X P tr nl nq rs) (by decide) (Nat.le_of_ble_eq_true rfl) ?_
  intro p e s m below meth c ls S hr hlocks hin hKZ hW hS hl
  obtain ⟨hx, hb, hml, hown, hts⟩ := id S
  have hK := hKZ.1
  obtain ⟨hns, hnc, hnl, ag, hag, hXg, hnq⟩ := id hW.2.2.2.2.2.2
  have hl : lv_has ls 2 [(0, .ref h0)] := hl
  refine lv_aload_n hx hb dX3_dropEnded_0 rfl (lv_at hl 0 rfl) ?_
  refine D_getl S hK hW 2 (by decide) (fun _ => rfl) iw_107 rfl dX3_dropEnded_1 ?_
  refine L_size (rest := []) S hKZ hW hS (i := 2) (by decide) hl.1 (Nat.le_of_ble_eq_true rfl) dX3_dropEnded_4 ⟨Nat.le_of_ble_eq_true rfl, Nat.le_of_ble_eq_true rfl⟩ ⟨Nat.le_refl _, Nat.le_refl _⟩ (fun H locs hW hS => ?_)
  refine W.eq (g2 := F0 m 7 ls [.int (nI nl)]) rfl ?_
  obtain ⟨hns, hnc, hnl, ag_2, hag_2, -, hnq⟩ := id hW.2.2.2.2.2.2
  have en_3 : (nI nl).toInt = ((nl : Nat) : Int) := pz_ti (by omega)
  refine lv_iconst (v := 1) hx hb dX3_dropEnded_7 (by decide) ?_
  refine lv_isub hx hb dX3_dropEnded_8 ?_
  refine lv_istore_n (lv' := [(1, .int ((nI nl) - 1)), (0, .ref h0)]) hx hb dX3_dropEnded_9 rfl hl (by decide) rfl (fun ls hl => ?_)
  have loop_B10 : ∀ (k9 : Nat) (k : Nat) (nl7 : Nat) (H : Heap) (locs : List Loc) (ls : Array Slot), k = k9 → (k ≤ nl7) → Cw dC dI z A bs cp h0 la sA cA ns nc dr X P tr nl7 nq rs H → va_S A s.heap H locs → lv_has ls 2 [(0, .ref h0), (1, .int (nI k - 1))] → W p l e { frames := 4, cells := 0, slots := 0, locals := 120 } s m ([.ref h0] : List Value).toArray below meth c H locs 0 0 (MQ below (Qg (B_q_X3_dropEnded dC dI z mi A bs cp h0 la sA cA ns nc dr X P tr nl nq rs) A) ([.ref h0] : List Value).toArray s 0 0 A) (F0 m 10 ls []) := by
    intro k9
    induction k9 using Nat.strongRecOn with
    | ind k9 ih_B10 =>
      intro k nl7 H locs ls hm_B10 hkl hW hS hl
      obtain ⟨hns, hnc, hnl, -⟩ := id hW.2.2.2.2.2.2
      have en_k : (nI k - 1).toInt = ((k : Nat) : Int) - 1 := pz_km (by omega)
      refine lv_iload_n hx hb dX3_dropEnded_10 rfl (lv_at hl 1 rfl) ?_
      refine lv_if_lt (tgt := 46) hx hb dX3_dropEnded_11 (by decide) (fun c_4 => ?_) (fun c_4 => ?_)
      · skip
        have i_4 : (nI k - 1).toInt < 0 := by have h9 := pz_lt c_4; exact h9
        exact r_v hx hb hr hlocks hS dX3_dropEnded_46 (⟨_, rfl, hW⟩)
      · skip
        have i_4 : (nI k - 1).toInt ≥ 0 := by have h9 := pz_nlt c_4; exact h9
        have ek : nI k - 1 = nI (k - 1) := pk_sub (a := k) (b := 1) (by omega)
        rw [ek] at hl
        have en_5 : (nI (k - 1)).toInt = ((k - 1 : Nat) : Int) := pz_ti (by omega)
        refine lv_aload_n hx hb dX3_dropEnded_14 rfl (lv_at hl 0 rfl) ?_
        refine D_getl S hK hW 2 (by decide) (fun _ => rfl) iw_107 rfl dX3_dropEnded_15 ?_
        refine lv_iload_n hx hb dX3_dropEnded_18 rfl (lv_at hl 1 rfl) ?_
        refine L_get (rest := []) S hKZ hW hS (i := 2) (t := (k - 1)) (by decide) (by show (k - 1) < nl7; omega) hl.1 (Nat.le_of_ble_eq_true rfl) dX3_dropEnded_19 ⟨Nat.le_of_ble_eq_true rfl, Nat.le_of_ble_eq_true rfl⟩ ⟨Nat.le_refl _, Nat.le_refl _⟩ (fun r_7 H locs hr_7 hW hS => ?_)
        obtain ⟨c_7a, hc_7a, rfl⟩ : ∃ c, c < nc ∧ r_7 = cA c := hr_7
        refine C_cast S hK hW (k := c_7a) (by omega) iw_351 dX3_dropEnded_22 ?_
        refine c_v (Pw := Cw dC dI z A bs cp h0 la sA cA ns nc dr X P tr nl7 nq rs) (n := 0) (As := []) (rest := []) S (q_X1_hasEnded l dC dI z mi A bs cp h0 la sA cA ns nc dr X P tr nl7 nq rs c_7a (by omega)) iw_504 iw_501 iw_502 iw_503 iw_69 (by decide +kernel) rfl ⟨rfl, rfl, Nat.le_of_ble_eq_true rfl, Nat.le_of_ble_eq_true rfl⟩ KZ.blind (C_recv hK hW (by omega)) (hKZ.at hS (fun _ h9 => h9)) hW hl.1 rfl (Nat.le_of_ble_eq_true rfl) dX3_dropEnded_25 ⟨Nat.le_refl _, Nat.le_refl _⟩ hS (fun _ h9 => h9) (fun v9 H locs hB hz9 hk9 hS => ?_)
        refine W.widen (k := 0) (n := 0) (Nat.le_refl 0) (Nat.le_refl 0) ?_
        obtain ⟨r_9, rfl, h01_9, hW⟩ := hB
        refine W.eq (g2 := F0 m 28 ls [.int r_9]) rfl ?_
        refine lv_if_eq (tgt := 40) hx hb dX3_dropEnded_28 (by decide) (fun c_10 => ?_) (fun c_10 => ?_)
        · skip
          have i_10 : r_9.toInt = 0 := by have h9 := pz_eq c_10; exact h9
          obtain ⟨y_11, ey_11⟩ : ∃ y : Int32, y = (nI (k - 1)) + (-1) := ⟨_, rfl⟩
          refine lv_iinc (v := y_11) (lv' := [(1, .int y_11), (0, .ref h0)]) hx hb dX3_dropEnded_40 hl (k := 1) rfl (by rw [ey_11]; rfl) (by decide) rfl (fun ls hl => ?_)
          obtain rfl : y_11 = nI ((k - 1)) - 1 := ey_11.trans (pz_pm _)
          refine lv_goto (tgt := 10) hx hb dX3_dropEnded_43 (by decide) ?_
          exact ih_B10 _ (by omega) (k - 1) nl7 _ _ ls rfl (by omega) hW hS (lv_sub hl [1, 0] rfl)
        · skip
          have i_10 : ¬ r_9.toInt = 0 := by have h9 := pz_neq c_10; exact h9
          refine lv_aload_n hx hb dX3_dropEnded_31 rfl (lv_at hl 0 rfl) ?_
          refine D_getl S hK hW 2 (by decide) (fun _ => rfl) iw_107 rfl dX3_dropEnded_32 ?_
          refine lv_iload_n hx hb dX3_dropEnded_35 rfl (lv_at hl 1 rfl) ?_
          refine L_rem2 (rest := []) S hKZ hW hS (t := (k - 1)) (by omega) hl.1 (Nat.le_of_ble_eq_true rfl) dX3_dropEnded_36 ⟨Nat.le_of_ble_eq_true rfl, Nat.le_of_ble_eq_true rfl⟩ ⟨Nat.le_refl _, Nat.le_refl _⟩ (fun H locs r_13 hW hS => ?_)
          refine lv_pop hx hb dX3_dropEnded_39 rfl ?_
          obtain ⟨y_14, ey_14⟩ : ∃ y : Int32, y = (nI (k - 1)) + (-1) := ⟨_, rfl⟩
          refine lv_iinc (v := y_14) (lv' := [(1, .int y_14), (0, .ref h0)]) hx hb dX3_dropEnded_40 hl (k := 1) rfl (by rw [ey_14]; rfl) (by decide) rfl (fun ls hl => ?_)
          obtain rfl : y_14 = nI ((k - 1)) - 1 := ey_14.trans (pz_pm _)
          refine lv_goto (tgt := 10) hx hb dX3_dropEnded_43 (by decide) ?_
          exact ih_B10 _ (by omega) (k - 1) (nl7 - 1) _ _ ls rfl (by omega) hW hS (lv_sub hl [1, 0] rfl)
  exact loop_B10 _ nl nl _ _ ls rfl (Nat.le_refl _) hW hS (lv_sub hl [1, 0] rfl)

abbrev B_q_X3_meetDues (dC : Nat → ClassId) (dI : Nat → Nat → Nat) (z : Nat) (mi : Nat) (A : Nat → Prop) (bs : Nat) (cp : Nat) (h0 : Nat) (la : Nat → Nat) (sA : Nat → Nat) (cA : Nat → Nat) (ns : Nat) (nc : Nat) (dr : Nat → Prop) (X : Nat → Int32) (P : Nat → Prop) (tr : Nat → Int32) (nl : Nat) (nq : Nat) (rs : Nat) : Option Value → Heap → Prop := fun v H => ∃ nq1 : Nat, v = none ∧ nq1 ≤ nq ∧ Cw dC dI z A bs cp h0 la sA cA ns nc dr X P tr nl nq1 rs H
set_option maxHeartbeats 8000000 in
set_option maxRecDepth 20000 in
theorem q_X3_meetDues (l : Launch) (dC : Nat → ClassId) (dI : Nat → Nat → Nat) (z : Nat) (mi : Nat) (A : Nat → Prop) (bs : Nat) (cp : Nat) (h0 : Nat) (la : Nat → Nat) (sA : Nat → Nat) (cA : Nat → Nat) (ns : Nat) (nc : Nat) (dr : Nat → Prop) (X : Nat → Int32) (P : Nat → Prop) (tr : Nat → Int32) (nl : Nat) (nq : Nat) (rs : Nat) : Met l yX3_meetDues (cws yX3_meetDues cX3_meetDues 3 none) { frames := 6, cells := 0, slots := 0, locals := 142 } (va_Pc [.ref h0] (fun U => KZ dC dI z mi A U ∧ Cw dC dI z A bs cp h0 la sA cA ns nc dr X P tr nl nq rs U.heap)) (Qg (B_q_X3_meetDues dC dI z mi A bs cp h0 la sA cA ns nc dr X P tr nl nq rs) A) 0 0 A := by
  refine m_start (KK := KZ dC dI z mi A) (Pw := Cw dC dI z A bs cp h0 la sA cA ns nc dr X P tr nl nq rs) (by decide) (Nat.le_of_ble_eq_true rfl) ?_
  intro p e s m below meth c ls S hr hlocks hin hKZ hW hS hl
  obtain ⟨hx, hb, hml, hown, hts⟩ := id S
  have hK := hKZ.1
  obtain ⟨hns, hnc, hnl, ag, hag, hXg, hnq⟩ := id hW.2.2.2.2.2.2
  have hl : lv_has ls 3 [(0, .ref h0)] := hl
  refine lv_iconst (v := 0) hx hb dX3_meetDues_0 (by decide) ?_
  refine lv_istore_n (lv' := [(1, .int 0), (0, .ref h0)]) hx hb dX3_meetDues_1 rfl hl (by decide) rfl (fun ls hl => ?_)
  have loop_B2 : ∀ (k9 : Nat) (j : Nat) (nq7 : Nat) (H : Heap) (locs : List Loc) (ls : Array Slot), nl - j = k9 → (j ≤ nl) → (nq7 ≤ nq) → Cw dC dI z A bs cp h0 la sA cA ns nc dr X P tr nl nq7 rs H → va_S A s.heap H locs → lv_has ls 3 [(0, .ref h0), (1, .int (nI j))] → W p l e { frames := 6, cells := 0, slots := 0, locals := 142 } s m ([.ref h0] : List Value).toArray below meth c H locs 0 0 (MQ below (Qg (B_q_X3_meetDues dC dI z mi A bs cp h0 la sA cA ns nc dr X P tr nl nq rs) A) ([.ref h0] : List Value).toArray s 0 0 A) (F0 m 2 ls []) := by
    intro k9
    induction k9 using Nat.strongRecOn with
    | ind k9 ih_B2 =>
      intro j nq7 H locs ls hm_B2 hle_j hq7 hW hS hl
      have en_j : (nI j).toInt = ((j : Nat) : Int) := pz_ti (by omega)
      refine lv_iload_n hx hb dX3_meetDues_2 rfl (lv_at hl 1 rfl) ?_
      refine lv_aload_n hx hb dX3_meetDues_3 rfl (lv_at hl 0 rfl) ?_
      refine D_getl S hK hW 2 (by decide) (fun _ => rfl) iw_107 rfl dX3_meetDues_4 ?_
      refine L_size (rest := [.int (nI j)]) S hKZ hW hS (i := 2) (by decide) hl.1 (Nat.le_of_ble_eq_true rfl) dX3_meetDues_7 ⟨Nat.le_of_ble_eq_true rfl, Nat.le_of_ble_eq_true rfl⟩ ⟨Nat.le_refl _, Nat.le_refl _⟩ (fun H locs hW hS => ?_)
      refine W.eq (g2 := F0 m 10 ls [.int (nI nl), .int (nI j)]) rfl ?_
      obtain ⟨hns, hnc, hnl, ag_2, hag_2, -, hnq⟩ := id hW.2.2.2.2.2.2
      have en_3 : (nI nl).toInt = ((nl : Nat) : Int) := pz_ti (by omega)
      refine lv_icmp_ge (tgt := 79) hx hb dX3_meetDues_10 (by decide) (fun c_4 => ?_) (fun c_4 => ?_)
      · skip
        have i_4 : (nI j).toInt ≥ (nI nl).toInt := by have h9 := pz_ge c_4; exact h9
        exact r_v hx hb hr hlocks hS dX3_meetDues_79 (⟨_, rfl, by omega, hW⟩)
      · skip
        have i_4 : (nI j).toInt < (nI nl).toInt := by have h9 := pz_nge c_4; exact h9
        refine lv_aload_n hx hb dX3_meetDues_13 rfl (lv_at hl 0 rfl) ?_
        refine D_getl S hK hW 2 (by decide) (fun _ => rfl) iw_107 rfl dX3_meetDues_14 ?_
        refine lv_iload_n hx hb dX3_meetDues_17 rfl (lv_at hl 1 rfl) ?_
        refine L_get (rest := []) S hKZ hW hS (i := 2) (t := j) (by decide) (by show j < nl; omega) hl.1 (Nat.le_of_ble_eq_true rfl) dX3_meetDues_18 ⟨Nat.le_of_ble_eq_true rfl, Nat.le_of_ble_eq_true rfl⟩ ⟨Nat.le_refl _, Nat.le_refl _⟩ (fun r_6 H locs hr_6 hW hS => ?_)
        obtain ⟨c_6a, hc_6a, rfl⟩ : ∃ c, c < nc ∧ r_6 = cA c := hr_6
        refine C_cast S hK hW (k := c_6a) (by omega) iw_351 dX3_meetDues_21 ?_
        refine lv_astore_n (lv' := [(2, .ref (cA c_6a)), (0, .ref h0), (1, .int (nI j))]) hx hb dX3_meetDues_24 rfl hl (by decide) rfl (fun ls hl => ?_)
        refine lv_aload_n hx hb dX3_meetDues_25 rfl (lv_at hl 0 rfl) ?_
        obtain ⟨-, y_8, p_8, q_8, hc_8, ⟨h0_8, h7_8⟩, hp_8, hq_8⟩ := hW.2.2.2.1 c_6a (by omega)
        refine C_gp (v := .int (y_8 4)) S hK hc_8 4 (by decide) rfl iw_364 rfl dX3_meetDues_26 ?_
        refine lv_aload_n hx hb dX3_meetDues_29 rfl (lv_at hl 1 rfl) ?_
        refine D_get S hK hW 5 (by decide) (fun _ => rfl) iw_110 rfl dX3_meetDues_30 (fun x_9 hx_9 => ?_)
        refine lv_icmp_eq (tgt := 39) hx hb dX3_meetDues_33 (by decide) (fun c_10 => ?_) (fun c_10 => ?_)
        · skip
          have i_10 : (y_8 4).toInt = x_9.toInt := by have h9 := pz_eq c_10; exact h9
          refine lv_aload_n hx hb dX3_meetDues_39 rfl (lv_at hl 0 rfl) ?_
          refine C_gp (v := .int (y_8 6)) S hK hc_8 6 (by decide) rfl iw_368 rfl dX3_meetDues_40 ?_
          refine lv_iconst (v := 1) hx hb dX3_meetDues_43 (by decide) ?_
          refine lv_icmp_ne (tgt := 55) hx hb dX3_meetDues_44 (by decide) (fun c_12 => ?_) (fun c_12 => ?_)
          · skip
            have i_12 : ¬ (y_8 6).toInt = 1 := by have h9 := pz_neq c_12; exact h9
            refine lv_aload_n hx hb dX3_meetDues_55 rfl (lv_at hl 0 rfl) ?_
            refine C_gp (v := .int (y_8 6)) S hK hc_8 6 (by decide) rfl iw_368 rfl dX3_meetDues_56 ?_
            refine lv_if_ne (tgt := 73) hx hb dX3_meetDues_59 (by decide) (fun c_14 => ?_) (fun c_14 => ?_)
            · skip
              have i_14 : ¬ (y_8 6).toInt = 0 := by have h9 := pz_neq c_14; exact h9
              obtain ⟨y_15, ey_15⟩ : ∃ y : Int32, y = (nI j) + 1 := ⟨_, rfl⟩
              refine lv_iinc (v := y_15) (lv' := [(1, .int y_15), (2, .ref (cA c_6a)), (0, .ref h0)]) hx hb dX3_meetDues_73 hl (k := 2) rfl (by rw [ey_15]; rfl) (by decide) rfl (fun ls hl => ?_)
              obtain rfl : y_15 = nI (j + 1) := ey_15.trans (nI_1 j)
              have en_16 : (nI (j + 1)).toInt = ((j + 1 : Nat) : Int) := pz_ti (by omega)
              refine lv_goto (tgt := 2) hx hb dX3_meetDues_76 (by decide) ?_
              exact ih_B2 _ (by omega) (j + 1) nq7 _ _ ls rfl (by omega) (by omega) hW hS (lv_sub hl [2, 0] rfl)
            · skip
              have i_14 : (y_8 6).toInt = 0 := by have h9 := pz_eq c_14; exact h9
              refine lv_aload_n hx hb dX3_meetDues_62 rfl (lv_at hl 1 rfl) ?_
              refine lv_aload_n hx hb dX3_meetDues_63 rfl (lv_at hl 0 rfl) ?_
              refine c_v (Pw := Cw dC dI z A bs cp h0 la sA cA ns nc dr X P tr nl nq7 rs) (n := 1) (As := [.ref (cA c_6a)]) (rest := []) S (q_X3_leaveLine l dC dI z mi A bs cp h0 la sA cA ns nc dr X P tr nl nq7 rs c_6a (by omega)) iw_508 iw_505 iw_507 iw_14 iw_57 (by decide +kernel) rfl ⟨rfl, rfl, Nat.le_of_ble_eq_true rfl, Nat.le_of_ble_eq_true rfl⟩ KZ.blind (D_recv hK hW) (hKZ.at hS (fun _ h9 => h9)) hW hl.1 rfl (Nat.le_of_ble_eq_true rfl) dX3_meetDues_64 ⟨Nat.le_refl _, Nat.le_refl _⟩ hS (fun _ h9 => h9) (fun v9 H locs hB hz9 hk9 hS => ?_)
              refine W.widen (k := 0) (n := 0) (Nat.le_refl 0) (Nat.le_refl 0) ?_
              obtain ⟨nq_17, rfl, hle_17, hW⟩ := hB
              refine W.eq (g2 := F0 m 67 ls []) rfl ?_
              refine lv_aload_n hx hb dX3_meetDues_67 rfl (lv_at hl 1 rfl) ?_
              refine lv_aload_n hx hb dX3_meetDues_68 rfl (lv_at hl 0 rfl) ?_
              refine lv_iconst (v := 4) hx hb dX3_meetDues_69 (by decide) ?_
              refine c_v (Pw := Cw dC dI z A bs cp h0 la sA cA ns nc dr X P tr nl nq_17 rs) (n := 2) (As := [.ref (cA c_6a), .int 4]) (rest := []) S (q_X3_end l dC dI z mi A bs cp h0 la sA cA ns nc dr X P tr nl nq_17 rs c_6a 4 (by omega)) iw_528 iw_525 iw_527 iw_16 iw_57 (by decide +kernel) rfl ⟨rfl, rfl, Nat.le_of_ble_eq_true rfl, Nat.le_of_ble_eq_true rfl⟩ KZ.blind (D_recv hK hW) (hKZ.at hS (fun _ h9 => h9)) hW hl.1 rfl (Nat.le_of_ble_eq_true rfl) dX3_meetDues_70 ⟨Nat.le_refl _, Nat.le_refl _⟩ hS (fun _ h9 => h9) (fun v9 H locs hB hz9 hk9 hS => ?_)
              refine W.widen (k := 0) (n := 0) (Nat.le_refl 0) (Nat.le_refl 0) ?_
              obtain ⟨rfl, hW⟩ := hB
              refine W.eq (g2 := F0 m 73 ls []) rfl ?_
              obtain ⟨y_18, ey_18⟩ : ∃ y : Int32, y = (nI j) + 1 := ⟨_, rfl⟩
              refine lv_iinc (v := y_18) (lv' := [(1, .int y_18), (2, .ref (cA c_6a)), (0, .ref h0)]) hx hb dX3_meetDues_73 hl (k := 2) rfl (by rw [ey_18]; rfl) (by decide) rfl (fun ls hl => ?_)
              obtain rfl : y_18 = nI (j + 1) := ey_18.trans (nI_1 j)
              have en_19 : (nI (j + 1)).toInt = ((j + 1 : Nat) : Int) := pz_ti (by omega)
              refine lv_goto (tgt := 2) hx hb dX3_meetDues_76 (by decide) ?_
              exact ih_B2 _ (by omega) (j + 1) nq_17 _ _ ls rfl (by omega) (by omega) hW hS (lv_sub hl [2, 0] rfl)
          · skip
            have i_12 : (y_8 6).toInt = 1 := by have h9 := pz_eq c_12; exact h9
            refine lv_aload_n hx hb dX3_meetDues_47 rfl (lv_at hl 1 rfl) ?_
            refine lv_aload_n hx hb dX3_meetDues_48 rfl (lv_at hl 0 rfl) ?_
            refine c_v (Pw := Cw dC dI z A bs cp h0 la sA cA ns nc dr X P tr nl nq7 rs) (n := 1) (As := [.ref (cA c_6a)]) (rest := []) S (q_X3_failByDue l dC dI z mi A bs cp h0 la sA cA ns nc dr X P tr nl nq7 rs c_6a (by omega)) iw_577 iw_574 iw_576 iw_25 iw_57 (by decide +kernel) rfl ⟨rfl, rfl, Nat.le_of_ble_eq_true rfl, Nat.le_of_ble_eq_true rfl⟩ KZ.blind (D_recv hK hW) (hKZ.at hS (fun _ h9 => h9)) hW hl.1 rfl (Nat.le_of_ble_eq_true rfl) dX3_meetDues_49 ⟨Nat.le_refl _, Nat.le_refl _⟩ hS (fun _ h9 => h9) (fun v9 H locs hB hz9 hk9 hS => ?_)
            refine W.widen (k := 0) (n := 0) (Nat.le_refl 0) (Nat.le_refl 0) ?_
            obtain ⟨rfl, hW⟩ := hB
            refine W.eq (g2 := F0 m 52 ls []) rfl ?_
            refine lv_goto (tgt := 73) hx hb dX3_meetDues_52 (by decide) ?_
            obtain ⟨y_20, ey_20⟩ : ∃ y : Int32, y = (nI j) + 1 := ⟨_, rfl⟩
            refine lv_iinc (v := y_20) (lv' := [(1, .int y_20), (2, .ref (cA c_6a)), (0, .ref h0)]) hx hb dX3_meetDues_73 hl (k := 2) rfl (by rw [ey_20]; rfl) (by decide) rfl (fun ls hl => ?_)
            obtain rfl : y_20 = nI (j + 1) := ey_20.trans (nI_1 j)
            have en_21 : (nI (j + 1)).toInt = ((j + 1 : Nat) : Int) := pz_ti (by omega)
            refine lv_goto (tgt := 2) hx hb dX3_meetDues_76 (by decide) ?_
            exact ih_B2 _ (by omega) (j + 1) nq7 _ _ ls rfl (by omega) (by omega) hW hS (lv_sub hl [2, 0] rfl)
        · skip
          have i_10 : ¬ (y_8 4).toInt = x_9.toInt := by have h9 := pz_neq c_10; exact h9
          refine lv_goto (tgt := 73) hx hb dX3_meetDues_36 (by decide) ?_
          obtain ⟨y_22, ey_22⟩ : ∃ y : Int32, y = (nI j) + 1 := ⟨_, rfl⟩
          refine lv_iinc (v := y_22) (lv' := [(1, .int y_22), (2, .ref (cA c_6a)), (0, .ref h0)]) hx hb dX3_meetDues_73 hl (k := 2) rfl (by rw [ey_22]; rfl) (by decide) rfl (fun ls hl => ?_)
          obtain rfl : y_22 = nI (j + 1) := ey_22.trans (nI_1 j)
          have en_23 : (nI (j + 1)).toInt = ((j + 1 : Nat) : Int) := pz_ti (by omega)
          refine lv_goto (tgt := 2) hx hb dX3_meetDues_76 (by decide) ?_
          exact ih_B2 _ (by omega) (j + 1) nq7 _ _ ls rfl (by omega) (by omega) hW hS (lv_sub hl [2, 0] rfl)
  exact loop_B2 _ 0 nq _ _ ls rfl (by omega) (Nat.le_refl _) hW hS (lv_sub hl [1, 0] rfl)

abbrev B_q_X3_off (dC : Nat → ClassId) (dI : Nat → Nat → Nat) (z : Nat) (mi : Nat) (A : Nat → Prop) (bs : Nat) (cp : Nat) (h0 : Nat) (la : Nat → Nat) (sA : Nat → Nat) (cA : Nat → Nat) (ns : Nat) (nc : Nat) (dr : Nat → Prop) (X : Nat → Int32) (P : Nat → Prop) (tr : Nat → Int32) (nl : Nat) (nq : Nat) (rs : Nat) (a1 : Int32) : Option Value → Heap → Prop := fun v H => ∃ (r : Int32) (nl1 nq1 : Nat), v = some (.int r) ∧ Cw dC dI z A bs cp h0 la sA cA ns nc dr X P tr nl1 nq1 rs H
set_option maxHeartbeats 8000000 in
set_option maxRecDepth 20000 in
theorem q_X3_off (l : Launch) (dC : Nat → ClassId) (dI : Nat → Nat → Nat) (z : Nat) (mi : Nat) (A : Nat → Prop) (bs : Nat) (cp : Nat) (h0 : Nat) (la : Nat → Nat) (sA : Nat → Nat) (cA : Nat → Nat) (ns : Nat) (nc : Nat) (dr : Nat → Prop) (X : Nat → Int32) (P : Nat → Prop) (tr : Nat → Int32) (nl : Nat) (nq : Nat) (rs : Nat) (a1 : Int32) : Met l yX3_off (cws yX3_off cX3_off 3 (some .int)) { frames := 5, cells := 0, slots := 0, locals := 142 } (va_Pc [.ref h0, .int a1] (fun U => KZ dC dI z mi A U ∧ Cw dC dI z A bs cp h0 la sA cA ns nc dr X P tr nl nq rs U.heap)) (Qg (B_q_X3_off dC dI z mi A bs cp h0 la sA cA ns nc dr X P tr nl nq rs a1) A) 0 0 A := by
  refine m_start (KK := KZ dC dI z mi A) (Pw := Cw dC dI z A bs cp h0 la sA cA ns nc dr X P tr nl nq rs) (by decide) (Nat.le_of_ble_eq_true rfl) ?_
  intro p e s m below meth c ls S hr hlocks hin hKZ hW hS hl
  obtain ⟨hx, hb, hml, hown, hts⟩ := id S
  have hK := hKZ.1
  obtain ⟨hns, hnc, hnl, ag, hag, hXg, hnq⟩ := id hW.2.2.2.2.2.2
  have hl : lv_has ls 3 [(0, .ref h0), (1, .int a1)] := hl
  refine lv_aload_n hx hb dX3_off_0 rfl (lv_at hl 0 rfl) ?_
  refine lv_iload_n hx hb dX3_off_1 rfl (lv_at hl 1 rfl) ?_
  refine c_v (Pw := Cw dC dI z A bs cp h0 la sA cA ns nc dr X P tr nl nq rs) (n := 1) (As := [.int a1]) (rest := []) S (q_X3_callAt l dC dI z mi A bs cp h0 la sA cA ns nc dr X P tr nl nq rs a1) iw_500 iw_497 iw_499 iw_13 iw_57 (by decide +kernel) rfl ⟨rfl, rfl, Nat.le_of_ble_eq_true rfl, Nat.le_of_ble_eq_true rfl⟩ KZ.blind (D_recv hK hW) (hKZ.at hS (fun _ h9 => h9)) hW hl.1 rfl (Nat.le_of_ble_eq_true rfl) dX3_off_2 ⟨Nat.le_refl _, Nat.le_refl _⟩ hS (fun _ h9 => h9) (fun v9 H locs hB hz9 hk9 hS => ?_)
  refine W.widen (k := 0) (n := 0) (Nat.le_refl 0) (Nat.le_refl 0) ?_
  obtain ⟨o_1, rfl, ho_1, hW⟩ := hB
  rcases ho_1 with ⟨rfl, hno_1⟩ | ⟨j_1, hj_1, ej_1, rfl⟩
  · skip
    refine W.eq (g2 := F0 m 5 ls [.null]) rfl ?_
    refine lv_astore_nN (lv' := [(2, .null), (0, .ref h0), (1, .int a1)]) hx hb dX3_off_5 rfl hl (by decide) rfl (fun ls hl => ?_)
    refine lv_aload_nN hx hb dX3_off_6 rfl (lv_at hl 0 rfl) ?_
    refine lv_ifnonnullN hx hb dX3_off_7 ?_
    refine lv_aload_n hx hb dX3_off_10 rfl (lv_at hl 1 rfl) ?_
    refine lv_iconst (v := (-1)) hx hb dX3_off_11 (by decide) ?_
    refine c_v (Pw := Cw dC dI z A bs cp h0 la sA cA ns nc dr X P tr nl nq rs) (n := 1) (As := [.int (-1)]) (rest := []) S (q_X3_refuse l dC dI z mi A bs cp h0 la sA cA ns nc dr X P tr nl nq rs (-1)) iw_153 iw_150 iw_152 iw_0 iw_57 (by decide +kernel) rfl ⟨rfl, rfl, Nat.le_of_ble_eq_true rfl, Nat.le_of_ble_eq_true rfl⟩ KZ.blind (D_recv hK hW) (hKZ.at hS (fun _ h9 => h9)) hW hl.1 rfl (Nat.le_of_ble_eq_true rfl) dX3_off_12 ⟨Nat.le_refl _, Nat.le_refl _⟩ hS (fun _ h9 => h9) (fun v9 H locs hB hz9 hk9 hS => ?_)
    refine W.widen (k := 0) (n := 0) (Nat.le_refl 0) (Nat.le_refl 0) ?_
    obtain ⟨_, rfl, rfl, hW⟩ := hB
    refine W.eq (g2 := F0 m 15 ls [.int (-1)]) rfl ?_
    exact r_i (v := (-1)) hx hb hr hlocks hS dX3_off_15 (⟨_, _, _, rfl, hW⟩)
  · skip
    subst ej_1
    have en_2 : (nI j_1).toInt = ((j_1 : Nat) : Int) := pz_ti (by omega)
    refine W.eq (g2 := F0 m 5 ls [.ref (cA j_1)]) rfl ?_
    refine lv_astore_n (lv' := [(2, .ref (cA j_1)), (0, .ref h0), (1, .int (nI j_1))]) hx hb dX3_off_5 rfl hl (by decide) rfl (fun ls hl => ?_)
    refine lv_aload_n hx hb dX3_off_6 rfl (lv_at hl 0 rfl) ?_
    refine lv_ifnonnull (tgt := 16) hx hb dX3_off_7 (by decide) ?_
    refine lv_aload_n hx hb dX3_off_16 rfl (lv_at hl 0 rfl) ?_
    refine c_v (Pw := Cw dC dI z A bs cp h0 la sA cA ns nc dr X P tr nl nq rs) (n := 0) (As := []) (rest := []) S (q_X1_hasEnded l dC dI z mi A bs cp h0 la sA cA ns nc dr X P tr nl nq rs j_1 (by omega)) iw_504 iw_501 iw_502 iw_503 iw_69 (by decide +kernel) rfl ⟨rfl, rfl, Nat.le_of_ble_eq_true rfl, Nat.le_of_ble_eq_true rfl⟩ KZ.blind (C_recv hK hW (by omega)) (hKZ.at hS (fun _ h9 => h9)) hW hl.1 rfl (Nat.le_of_ble_eq_true rfl) dX3_off_17 ⟨Nat.le_refl _, Nat.le_refl _⟩ hS (fun _ h9 => h9) (fun v9 H locs hB hz9 hk9 hS => ?_)
    refine W.widen (k := 0) (n := 0) (Nat.le_refl 0) (Nat.le_refl 0) ?_
    obtain ⟨r_3, rfl, h01_3, hW⟩ := hB
    refine W.eq (g2 := F0 m 20 ls [.int r_3]) rfl ?_
    refine lv_if_eq (tgt := 30) hx hb dX3_off_20 (by decide) (fun c_4 => ?_) (fun c_4 => ?_)
    · skip
      have i_4 : r_3.toInt = 0 := by have h9 := pz_eq c_4; exact h9
      refine lv_aload_n hx hb dX3_off_30 rfl (lv_at hl 0 rfl) ?_
      obtain ⟨-, y_5, p_5, q_5, hc_5, ⟨h0_5, h7_5⟩, hp_5, hq_5⟩ := hW.2.2.2.1 j_1 (by omega)
      refine C_gp (v := .int (y_5 6)) S hK hc_5 6 (by decide) rfl iw_368 rfl dX3_off_31 ?_
      refine lv_if_ne (tgt := 42) hx hb dX3_off_34 (by decide) (fun c_6 => ?_) (fun c_6 => ?_)
      · skip
        have i_6 : ¬ (y_5 6).toInt = 0 := by have h9 := pz_neq c_6; exact h9
        refine lv_aload_n hx hb dX3_off_42 rfl (lv_at hl 0 rfl) ?_
        refine c_v (Pw := Cw dC dI z A bs cp h0 la sA cA ns nc dr X P tr nl nq rs) (n := 0) (As := []) (rest := []) S (q_X1_callOffAll l dC dI z mi A bs cp h0 la sA cA ns nc dr X P tr nl nq rs j_1 (by omega)) iw_520 iw_517 iw_518 iw_519 iw_69 (by decide +kernel) rfl ⟨rfl, rfl, Nat.le_of_ble_eq_true rfl, Nat.le_of_ble_eq_true rfl⟩ KZ.blind (C_recv hK hW (by omega)) (hKZ.at hS (fun _ h9 => h9)) hW hl.1 rfl (Nat.le_of_ble_eq_true rfl) dX3_off_43 ⟨Nat.le_refl _, Nat.le_refl _⟩ hS (fun _ h9 => h9) (fun v9 H locs hB hz9 hk9 hS => ?_)
        refine W.widen (k := 0) (n := 0) (Nat.le_refl 0) (Nat.le_refl 0) ?_
        obtain ⟨rfl, hW⟩ := hB
        refine W.eq (g2 := F0 m 46 ls []) rfl ?_
        refine lv_aload_n hx hb dX3_off_46 rfl (lv_at hl 1 rfl) ?_
        refine lv_aload_n hx hb dX3_off_47 rfl (lv_at hl 0 rfl) ?_
        refine lv_iconst (v := 4) hx hb dX3_off_48 (by decide) ?_
        refine c_v (Pw := Cw dC dI z A bs cp h0 la sA cA ns nc dr X P tr nl nq rs) (n := 2) (As := [.ref (cA j_1), .int 4]) (rest := []) S (q_X3_end l dC dI z mi A bs cp h0 la sA cA ns nc dr X P tr nl nq rs j_1 4 (by omega)) iw_528 iw_525 iw_527 iw_16 iw_57 (by decide +kernel) rfl ⟨rfl, rfl, Nat.le_of_ble_eq_true rfl, Nat.le_of_ble_eq_true rfl⟩ KZ.blind (D_recv hK hW) (hKZ.at hS (fun _ h9 => h9)) hW hl.1 rfl (Nat.le_of_ble_eq_true rfl) dX3_off_49 ⟨Nat.le_refl _, Nat.le_refl _⟩ hS (fun _ h9 => h9) (fun v9 H locs hB hz9 hk9 hS => ?_)
        refine W.widen (k := 0) (n := 0) (Nat.le_refl 0) (Nat.le_refl 0) ?_
        obtain ⟨rfl, hW⟩ := hB
        refine W.eq (g2 := F0 m 52 ls []) rfl ?_
        refine lv_aload_n hx hb dX3_off_52 rfl (lv_at hl 1 rfl) ?_
        refine c_v (Pw := Cw dC dI z A bs cp h0 la sA cA ns nc dr X P tr nl nq rs) (n := 0) (As := []) (rest := []) S (q_X3_dropEnded l dC dI z mi A bs cp h0 la sA cA ns nc dr X P tr nl nq rs) iw_532 iw_529 iw_531 iw_17 iw_57 (by decide +kernel) rfl ⟨rfl, rfl, Nat.le_of_ble_eq_true rfl, Nat.le_of_ble_eq_true rfl⟩ KZ.blind (D_recv hK hW) (hKZ.at hS (fun _ h9 => h9)) hW hl.1 rfl (Nat.le_of_ble_eq_true rfl) dX3_off_53 ⟨Nat.le_refl _, Nat.le_refl _⟩ hS (fun _ h9 => h9) (fun v9 H locs hB hz9 hk9 hS => ?_)
        refine W.widen (k := 0) (n := 0) (Nat.le_refl 0) (Nat.le_refl 0) ?_
        obtain ⟨nl_7, rfl, hW⟩ := hB
        refine W.eq (g2 := F0 m 56 ls []) rfl ?_
        refine lv_iconst (v := 1) hx hb dX3_off_56 (by decide) ?_
        exact r_i (v := 1) hx hb hr hlocks hS dX3_off_57 (⟨_, _, _, rfl, hW⟩)
      · skip
        have i_6 : (y_5 6).toInt = 0 := by have h9 := pz_eq c_6; exact h9
        refine lv_aload_n hx hb dX3_off_37 rfl (lv_at hl 1 rfl) ?_
        refine lv_aload_n hx hb dX3_off_38 rfl (lv_at hl 0 rfl) ?_
        refine c_v (Pw := Cw dC dI z A bs cp h0 la sA cA ns nc dr X P tr nl nq rs) (n := 1) (As := [.ref (cA j_1)]) (rest := []) S (q_X3_leaveLine l dC dI z mi A bs cp h0 la sA cA ns nc dr X P tr nl nq rs j_1 (by omega)) iw_508 iw_505 iw_507 iw_14 iw_57 (by decide +kernel) rfl ⟨rfl, rfl, Nat.le_of_ble_eq_true rfl, Nat.le_of_ble_eq_true rfl⟩ KZ.blind (D_recv hK hW) (hKZ.at hS (fun _ h9 => h9)) hW hl.1 rfl (Nat.le_of_ble_eq_true rfl) dX3_off_39 ⟨Nat.le_refl _, Nat.le_refl _⟩ hS (fun _ h9 => h9) (fun v9 H locs hB hz9 hk9 hS => ?_)
        refine W.widen (k := 0) (n := 0) (Nat.le_refl 0) (Nat.le_refl 0) ?_
        obtain ⟨nq_8, rfl, hle_8, hW⟩ := hB
        refine W.eq (g2 := F0 m 42 ls []) rfl ?_
        refine lv_aload_n hx hb dX3_off_42 rfl (lv_at hl 0 rfl) ?_
        refine c_v (Pw := Cw dC dI z A bs cp h0 la sA cA ns nc dr X P tr nl nq_8 rs) (n := 0) (As := []) (rest := []) S (q_X1_callOffAll l dC dI z mi A bs cp h0 la sA cA ns nc dr X P tr nl nq_8 rs j_1 (by omega)) iw_520 iw_517 iw_518 iw_519 iw_69 (by decide +kernel) rfl ⟨rfl, rfl, Nat.le_of_ble_eq_true rfl, Nat.le_of_ble_eq_true rfl⟩ KZ.blind (C_recv hK hW (by omega)) (hKZ.at hS (fun _ h9 => h9)) hW hl.1 rfl (Nat.le_of_ble_eq_true rfl) dX3_off_43 ⟨Nat.le_refl _, Nat.le_refl _⟩ hS (fun _ h9 => h9) (fun v9 H locs hB hz9 hk9 hS => ?_)
        refine W.widen (k := 0) (n := 0) (Nat.le_refl 0) (Nat.le_refl 0) ?_
        obtain ⟨rfl, hW⟩ := hB
        refine W.eq (g2 := F0 m 46 ls []) rfl ?_
        refine lv_aload_n hx hb dX3_off_46 rfl (lv_at hl 1 rfl) ?_
        refine lv_aload_n hx hb dX3_off_47 rfl (lv_at hl 0 rfl) ?_
        refine lv_iconst (v := 4) hx hb dX3_off_48 (by decide) ?_
        refine c_v (Pw := Cw dC dI z A bs cp h0 la sA cA ns nc dr X P tr nl nq_8 rs) (n := 2) (As := [.ref (cA j_1), .int 4]) (rest := []) S (q_X3_end l dC dI z mi A bs cp h0 la sA cA ns nc dr X P tr nl nq_8 rs j_1 4 (by omega)) iw_528 iw_525 iw_527 iw_16 iw_57 (by decide +kernel) rfl ⟨rfl, rfl, Nat.le_of_ble_eq_true rfl, Nat.le_of_ble_eq_true rfl⟩ KZ.blind (D_recv hK hW) (hKZ.at hS (fun _ h9 => h9)) hW hl.1 rfl (Nat.le_of_ble_eq_true rfl) dX3_off_49 ⟨Nat.le_refl _, Nat.le_refl _⟩ hS (fun _ h9 => h9) (fun v9 H locs hB hz9 hk9 hS => ?_)
        refine W.widen (k := 0) (n := 0) (Nat.le_refl 0) (Nat.le_refl 0) ?_
        obtain ⟨rfl, hW⟩ := hB
        refine W.eq (g2 := F0 m 52 ls []) rfl ?_
        refine lv_aload_n hx hb dX3_off_52 rfl (lv_at hl 1 rfl) ?_
        refine c_v (Pw := Cw dC dI z A bs cp h0 la sA cA ns nc dr X P tr nl nq_8 rs) (n := 0) (As := []) (rest := []) S (q_X3_dropEnded l dC dI z mi A bs cp h0 la sA cA ns nc dr X P tr nl nq_8 rs) iw_532 iw_529 iw_531 iw_17 iw_57 (by decide +kernel) rfl ⟨rfl, rfl, Nat.le_of_ble_eq_true rfl, Nat.le_of_ble_eq_true rfl⟩ KZ.blind (D_recv hK hW) (hKZ.at hS (fun _ h9 => h9)) hW hl.1 rfl (Nat.le_of_ble_eq_true rfl) dX3_off_53 ⟨Nat.le_refl _, Nat.le_refl _⟩ hS (fun _ h9 => h9) (fun v9 H locs hB hz9 hk9 hS => ?_)
        refine W.widen (k := 0) (n := 0) (Nat.le_refl 0) (Nat.le_refl 0) ?_
        obtain ⟨nl_9, rfl, hW⟩ := hB
        refine W.eq (g2 := F0 m 56 ls []) rfl ?_
        refine lv_iconst (v := 1) hx hb dX3_off_56 (by decide) ?_
        exact r_i (v := 1) hx hb hr hlocks hS dX3_off_57 (⟨_, _, _, rfl, hW⟩)
    · skip
      have i_4 : ¬ r_3.toInt = 0 := by have h9 := pz_neq c_4; exact h9
      refine lv_aload_n hx hb dX3_off_23 rfl (lv_at hl 1 rfl) ?_
      refine lv_bipush (v := (-3)) hx hb dX3_off_24 (by decide) ?_
      refine c_v (Pw := Cw dC dI z A bs cp h0 la sA cA ns nc dr X P tr nl nq rs) (n := 1) (As := [.int (-3)]) (rest := []) S (q_X3_refuse l dC dI z mi A bs cp h0 la sA cA ns nc dr X P tr nl nq rs (-3)) iw_153 iw_150 iw_152 iw_0 iw_57 (by decide +kernel) rfl ⟨rfl, rfl, Nat.le_of_ble_eq_true rfl, Nat.le_of_ble_eq_true rfl⟩ KZ.blind (D_recv hK hW) (hKZ.at hS (fun _ h9 => h9)) hW hl.1 rfl (Nat.le_of_ble_eq_true rfl) dX3_off_26 ⟨Nat.le_refl _, Nat.le_refl _⟩ hS (fun _ h9 => h9) (fun v9 H locs hB hz9 hk9 hS => ?_)
      refine W.widen (k := 0) (n := 0) (Nat.le_refl 0) (Nat.le_refl 0) ?_
      obtain ⟨_, rfl, rfl, hW⟩ := hB
      refine W.eq (g2 := F0 m 29 ls [.int (-3)]) rfl ?_
      exact r_i (v := (-3)) hx hb hr hlocks hS dX3_off_29 (⟨_, _, _, rfl, hW⟩)
