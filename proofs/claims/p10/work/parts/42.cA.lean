abbrev B_q_X2_mayBeAsked (dC : Nat → ClassId) (dI : Nat → Nat → Nat) (z : Nat) (mi : Nat) (A : Nat → Prop) (bs : Nat) (cp : Nat) (h0 : Nat) (la : Nat → Nat) (sA : Nat → Nat) (cA : Nat → Nat) (ns : Nat) (nc : Nat) (dr : Nat → Prop) (X : Nat → Int32) (P : Nat → Prop) (tr : Nat → Int32) (nl : Nat) (nq : Nat) (rs : Nat) (k : Nat) (a1 : Int32) : Option Value → Heap → Prop := fun v H => ∃ r : Int32, v = some (.int r) ∧ (r = 0 ∨ (r = 1 ∧ (a1 >>> (nI k &&& 31)) &&& 1 = 0)) ∧ Cw dC dI z A bs cp h0 la sA cA ns nc dr X P tr nl nq rs H
set_option maxHeartbeats 8000000 in
set_option maxRecDepth 20000 in
theorem q_X2_mayBeAsked (l : Launch) (dC : Nat → ClassId) (dI : Nat → Nat → Nat) (z : Nat) (mi : Nat) (A : Nat → Prop) (bs : Nat) (cp : Nat) (h0 : Nat) (la : Nat → Nat) (sA : Nat → Nat) (cA : Nat → Nat) (ns : Nat) (nc : Nat) (dr : Nat → Prop) (X : Nat → Int32) (P : Nat → Prop) (tr : Nat → Int32) (nl : Nat) (nq : Nat) (rs : Nat) (k : Nat) (a1 : Int32) (hk : k < ns) : Met l yX2_mayBeAsked (cws yX2_mayBeAsked cX2_mayBeAsked 2 (some .boolean)) { frames := 0, cells := 0, slots := 0, locals := 0 } (va_Pc [.ref (sA k), .int a1] (fun U => KZ dC dI z mi A U ∧ Cw dC dI z A bs cp h0 la sA cA ns nc dr X P tr nl nq rs U.heap)) (Qg (B_q_X2_mayBeAsked dC dI z mi A bs cp h0 la sA cA ns nc dr X P tr nl nq rs k a1) A) 0 0 A := by
  refine m_start (KK := KZ dC dI z mi A) (Pw := Cw dC dI z A bs cp h0 la sA cA ns nc dr X P tr nl nq rs) (by decide) (Nat.le_of_ble_eq_true rfl) ?_
  intro p e s m below meth c ls S hr hlocks hin hKZ hW hS hl
  obtain ⟨hx, hb, hml, hown, hts⟩ := id S
  have hK := hKZ.1
  obtain ⟨hns, hnc, hnl, ag, hag, hXg, hnq⟩ := id hW.2.2.2.2.2.2
  have hl : lv_has ls 2 [(0, .ref (sA k)), (1, .int a1)] := hl
  have en_k : (nI k).toInt = ((k : Nat) : Int) := pz_ti (by omega)
  refine lv_iload_n hx hb dX2_mayBeAsked_0 rfl (lv_at hl 1 rfl) ?_
  refine lv_aload_n hx hb dX2_mayBeAsked_1 rfl (lv_at hl 0 rfl) ?_
  obtain ⟨-, x_1, hc_1, h0_1, hd_1⟩ := hW.2.2.1 k (by omega)
  refine S_gp S hK hc_1 0 (by decide) (fun _ => rfl) iw_164 rfl dX2_mayBeAsked_2 ?_
  rw [h0_1]
  refine lv_ishr hx hb dX2_mayBeAsked_5 ?_
  refine lv_iconst (v := 1) hx hb dX2_mayBeAsked_6 (by decide) ?_
  refine lv_iand hx hb dX2_mayBeAsked_7 ?_
  refine lv_if_ne (tgt := 22) hx hb dX2_mayBeAsked_8 (by decide) (fun c_2 => ?_) (fun c_2 => ?_)
  · skip
    have i_2 : ¬ ((a1 >>> ((nI k) &&& 31)) &&& 1).toInt = 0 := by have h9 := pz_neq c_2; exact h9
    refine lv_iconst (v := 0) hx hb dX2_mayBeAsked_22 (by decide) ?_
    exact r_z (v := 0) hx hb hr rfl hlocks hS dX2_mayBeAsked_23 (⟨_, rfl, Or.inl rfl, hW⟩)
  · skip
    have i_2 : ((a1 >>> ((nI k) &&& 31)) &&& 1).toInt = 0 := by have h9 := pz_eq c_2; exact h9
    refine lv_aload_n hx hb dX2_mayBeAsked_11 rfl (lv_at hl 0 rfl) ?_
    refine S_gp S hK hc_1 8 (by decide) (fun _ => rfl) iw_177 rfl dX2_mayBeAsked_12 ?_
    refine lv_aload_n hx hb dX2_mayBeAsked_15 rfl (lv_at hl 0 rfl) ?_
    refine S_gp S hK hc_1 3 (by decide) (fun _ => rfl) iw_171 rfl dX2_mayBeAsked_16 ?_
    refine lv_icmp_lt (tgt := 24) hx hb dX2_mayBeAsked_19 (by decide) (fun c_5 => ?_) (fun c_5 => ?_)
    · skip
      have i_5 : (x_1 8).toInt < (x_1 3).toInt := by have h9 := pz_lt c_5; exact h9
      refine lv_aload_n hx hb dX2_mayBeAsked_24 rfl (lv_at hl 0 rfl) ?_
      refine S_gp S hK hc_1 7 (by decide) (fun _ => rfl) iw_175 rfl dX2_mayBeAsked_25 ?_
      refine lv_if_eq (tgt := 46) hx hb dX2_mayBeAsked_28 (by decide) (fun c_7 => ?_) (fun c_7 => ?_)
      · skip
        have i_7 : (x_1 7).toInt = 0 := by have h9 := pz_eq c_7; exact h9
        refine lv_iconst (v := 1) hx hb dX2_mayBeAsked_46 (by decide) ?_
        refine lv_goto (tgt := 51) hx hb dX2_mayBeAsked_47 (by decide) ?_
        exact r_z (v := 1) hx hb hr rfl hlocks hS dX2_mayBeAsked_51 (⟨_, rfl, Or.inr ⟨rfl, c_2⟩, hW⟩)
      · skip
        have i_7 : ¬ (x_1 7).toInt = 0 := by have h9 := pz_neq c_7; exact h9
        refine lv_aload_n hx hb dX2_mayBeAsked_31 rfl (lv_at hl 0 rfl) ?_
        refine S_gp S hK hc_1 7 (by decide) (fun _ => rfl) iw_175 rfl dX2_mayBeAsked_32 ?_
        refine lv_iconst (v := 2) hx hb dX2_mayBeAsked_35 (by decide) ?_
        refine lv_icmp_ne (tgt := 50) hx hb dX2_mayBeAsked_36 (by decide) (fun c_9 => ?_) (fun c_9 => ?_)
        · skip
          have i_9 : ¬ (x_1 7).toInt = 2 := by have h9 := pz_neq c_9; exact h9
          refine lv_iconst (v := 0) hx hb dX2_mayBeAsked_50 (by decide) ?_
          exact r_z (v := 0) hx hb hr rfl hlocks hS dX2_mayBeAsked_51 (⟨_, rfl, Or.inl rfl, hW⟩)
        · skip
          have i_9 : (x_1 7).toInt = 2 := by have h9 := pz_eq c_9; exact h9
          refine lv_aload_n hx hb dX2_mayBeAsked_39 rfl (lv_at hl 0 rfl) ?_
          refine S_gp S hK hc_1 8 (by decide) (fun _ => rfl) iw_177 rfl dX2_mayBeAsked_40 ?_
          refine lv_if_ne (tgt := 50) hx hb dX2_mayBeAsked_43 (by decide) (fun c_11 => ?_) (fun c_11 => ?_)
          · skip
            have i_11 : ¬ (x_1 8).toInt = 0 := by have h9 := pz_neq c_11; exact h9
            refine lv_iconst (v := 0) hx hb dX2_mayBeAsked_50 (by decide) ?_
            exact r_z (v := 0) hx hb hr rfl hlocks hS dX2_mayBeAsked_51 (⟨_, rfl, Or.inl rfl, hW⟩)
          · skip
            have i_11 : (x_1 8).toInt = 0 := by have h9 := pz_eq c_11; exact h9
            refine lv_iconst (v := 1) hx hb dX2_mayBeAsked_46 (by decide) ?_
            refine lv_goto (tgt := 51) hx hb dX2_mayBeAsked_47 (by decide) ?_
            exact r_z (v := 1) hx hb hr rfl hlocks hS dX2_mayBeAsked_51 (⟨_, rfl, Or.inr ⟨rfl, c_2⟩, hW⟩)
    · skip
      have i_5 : (x_1 8).toInt ≥ (x_1 3).toInt := by have h9 := pz_nlt c_5; exact h9
      refine lv_iconst (v := 0) hx hb dX2_mayBeAsked_22 (by decide) ?_
      exact r_z (v := 0) hx hb hr rfl hlocks hS dX2_mayBeAsked_23 (⟨_, rfl, Or.inl rfl, hW⟩)

abbrev B_q_X2_placeOfMark (dC : Nat → ClassId) (dI : Nat → Nat → Nat) (z : Nat) (mi : Nat) (A : Nat → Prop) (bs : Nat) (cp : Nat) (h0 : Nat) (la : Nat → Nat) (sA : Nat → Nat) (cA : Nat → Nat) (ns : Nat) (nc : Nat) (dr : Nat → Prop) (X : Nat → Int32) (P : Nat → Prop) (tr : Nat → Int32) (nl : Nat) (nq : Nat) (rs : Nat) (k : Nat) (a1 : Int32) : Option Value → Heap → Prop := fun v H => ∃ r : Int32, v = some (.int r) ∧ r = plM k a1 ∧ Cw dC dI z A bs cp h0 la sA cA ns nc dr X P tr nl nq rs H
set_option maxHeartbeats 8000000 in
set_option maxRecDepth 20000 in
theorem q_X2_placeOfMark (l : Launch) (dC : Nat → ClassId) (dI : Nat → Nat → Nat) (z : Nat) (mi : Nat) (A : Nat → Prop) (bs : Nat) (cp : Nat) (h0 : Nat) (la : Nat → Nat) (sA : Nat → Nat) (cA : Nat → Nat) (ns : Nat) (nc : Nat) (dr : Nat → Prop) (X : Nat → Int32) (P : Nat → Prop) (tr : Nat → Int32) (nl : Nat) (nq : Nat) (rs : Nat) (k : Nat) (a1 : Int32) (hk : k < ns) : Met l yX2_placeOfMark (cws yX2_placeOfMark cX2_placeOfMark 2 (some .int)) { frames := 0, cells := 0, slots := 0, locals := 0 } (va_Pc [.ref (sA k), .int a1] (fun U => KZ dC dI z mi A U ∧ Cw dC dI z A bs cp h0 la sA cA ns nc dr X P tr nl nq rs U.heap)) (Qg (B_q_X2_placeOfMark dC dI z mi A bs cp h0 la sA cA ns nc dr X P tr nl nq rs k a1) A) 0 0 A := by
  refine m_start (KK := KZ dC dI z mi A) (Pw := Cw dC dI z A bs cp h0 la sA cA ns nc dr X P tr nl nq rs) (by decide) (Nat.le_of_ble_eq_true rfl) ?_
  intro p e s m below meth c ls S hr hlocks hin hKZ hW hS hl
  obtain ⟨hx, hb, hml, hown, hts⟩ := id S
  have hK := hKZ.1
  obtain ⟨hns, hnc, hnl, ag, hag, hXg, hnq⟩ := id hW.2.2.2.2.2.2
  have hl : lv_has ls 2 [(0, .ref (sA k)), (1, .int a1)] := hl
  have en_k : (nI k).toInt = ((k : Nat) : Int) := pz_ti (by omega)
  refine lv_ldc hx hb hown (hts _ iw_434) dX2_placeOfMark_0 ?_
  refine lv_iconst (v := 4) hx hb dX2_placeOfMark_2 (by decide) ?_
  refine lv_aload_n hx hb dX2_placeOfMark_3 rfl (lv_at hl 0 rfl) ?_
  obtain ⟨-, x_1, hc_1, h0_1, hd_1⟩ := hW.2.2.1 k (by omega)
  refine S_gp S hK hc_1 0 (by decide) (fun _ => rfl) iw_164 rfl dX2_placeOfMark_4 ?_
  rw [h0_1]
  refine lv_imul hx hb dX2_placeOfMark_7 ?_
  refine lv_iload_n hx hb dX2_placeOfMark_8 rfl (lv_at hl 1 rfl) ?_
  refine lv_iadd hx hb dX2_placeOfMark_9 ?_
  refine lv_iconst (v := 1) hx hb dX2_placeOfMark_10 (by decide) ?_
  refine lv_iadd hx hb dX2_placeOfMark_11 ?_
  refine lv_imul hx hb dX2_placeOfMark_12 ?_
  refine lv_ldc hx hb hown (hts _ iw_429) dX2_placeOfMark_13 ?_
  refine lv_iand hx hb dX2_placeOfMark_15 ?_
  exact r_i (v := ((40503 * (((4 * (nI k)) + a1) + 1)) &&& 65535)) hx hb hr hlocks hS dX2_placeOfMark_16 (⟨_, rfl, rfl, hW⟩)

abbrev B_q_X2_wayFrom (dC : Nat → ClassId) (dI : Nat → Nat → Nat) (z : Nat) (mi : Nat) (A : Nat → Prop) (bs : Nat) (cp : Nat) (h0 : Nat) (la : Nat → Nat) (sA : Nat → Nat) (cA : Nat → Nat) (ns : Nat) (nc : Nat) (dr : Nat → Prop) (X : Nat → Int32) (P : Nat → Prop) (tr : Nat → Int32) (nl : Nat) (nq : Nat) (rs : Nat) (k : Nat) (a1 : Int32) : Option Value → Heap → Prop := fun v H => ∃ r : Int32, v = some (.int r) ∧ Cw dC dI z A bs cp h0 la sA cA ns nc dr X P tr nl nq rs H
set_option maxHeartbeats 8000000 in
set_option maxRecDepth 20000 in
theorem q_X2_wayFrom (l : Launch) (dC : Nat → ClassId) (dI : Nat → Nat → Nat) (z : Nat) (mi : Nat) (A : Nat → Prop) (bs : Nat) (cp : Nat) (h0 : Nat) (la : Nat → Nat) (sA : Nat → Nat) (cA : Nat → Nat) (ns : Nat) (nc : Nat) (dr : Nat → Prop) (X : Nat → Int32) (P : Nat → Prop) (tr : Nat → Int32) (nl : Nat) (nq : Nat) (rs : Nat) (k : Nat) (a1 : Int32) (hk : k < ns) : Met l yX2_wayFrom (cws yX2_wayFrom cX2_wayFrom 4 (some .int)) { frames := 1, cells := 0, slots := 0, locals := 21 } (va_Pc [.ref (sA k), .int a1] (fun U => KZ dC dI z mi A U ∧ Cw dC dI z A bs cp h0 la sA cA ns nc dr X P tr nl nq rs U.heap)) (Qg (B_q_X2_wayFrom dC dI z mi A bs cp h0 la sA cA ns nc dr X P tr nl nq rs k a1) A) 0 0 A := by
  refine m_start (KK := KZ dC dI z mi A) (Pw := Cw dC dI z A bs cp h0 la sA cA ns nc dr X P tr nl nq rs) (by decide) (Nat.le_of_ble_eq_true rfl) ?_
  intro p e s m below meth c ls S hr hlocks hin hKZ hW hS hl
  obtain ⟨hx, hb, hml, hown, hts⟩ := id S
  have hK := hKZ.1
  obtain ⟨hns, hnc, hnl, ag, hag, hXg, hnq⟩ := id hW.2.2.2.2.2.2
  have hl : lv_has ls 4 [(0, .ref (sA k)), (1, .int a1)] := hl
  have en_k : (nI k).toInt = ((k : Nat) : Int) := pz_ti (by omega)
  refine lv_ldc hx hb hown (hts _ iw_429) dX2_wayFrom_0 ?_
  refine lv_istore_n (lv' := [(2, .int 65535), (0, .ref (sA k)), (1, .int a1)]) hx hb dX2_wayFrom_2 rfl hl (by decide) rfl (fun ls hl => ?_)
  refine lv_iconst (v := 0) hx hb dX2_wayFrom_3 (by decide) ?_
  refine lv_istore_n (lv' := [(3, .int 0), (2, .int 65535), (0, .ref (sA k)), (1, .int a1)]) hx hb dX2_wayFrom_4 rfl hl (by decide) rfl (fun ls hl => ?_)
  have loop_B5 : ∀ (k9 : Nat) (j : Nat) (n2 : Int32) (H : Heap) (locs : List Loc) (ls : Array Slot), 4 - j = k9 → (j ≤ 4) → Cw dC dI z A bs cp h0 la sA cA ns nc dr X P tr nl nq rs H → va_S A s.heap H locs → lv_has ls 4 [(0, .ref (sA k)), (1, .int a1), (2, .int n2), (3, .int (nI j))] → W p l e { frames := 1, cells := 0, slots := 0, locals := 21 } s m ([.ref (sA k), .int a1] : List Value).toArray below meth c H locs 0 0 (MQ below (Qg (B_q_X2_wayFrom dC dI z mi A bs cp h0 la sA cA ns nc dr X P tr nl nq rs k a1) A) ([.ref (sA k), .int a1] : List Value).toArray s 0 0 A) (F0 m 5 ls []) := by
    intro k9
    induction k9 using Nat.strongRecOn with
    | ind k9 ih_B5 =>
      intro j n2 H locs ls hm_B5 hle_j hW hS hl
      have en_j : (nI j).toInt = ((j : Nat) : Int) := pz_ti (by omega)
      refine lv_iload_n hx hb dX2_wayFrom_5 rfl (lv_at hl 3 rfl) ?_
      refine lv_iconst (v := 4) hx hb dX2_wayFrom_6 (by decide) ?_
      refine lv_icmp_ge (tgt := 31) hx hb dX2_wayFrom_7 (by decide) (fun c_1 => ?_) (fun c_1 => ?_)
      · skip
        have i_1 : (nI j).toInt ≥ 4 := by have h9 := pz_ge c_1; exact h9
        refine lv_iload_n hx hb dX2_wayFrom_31 rfl (lv_at hl 2 rfl) ?_
        exact r_i (v := n2) hx hb hr hlocks hS dX2_wayFrom_32 (⟨_, rfl, hW⟩)
      · skip
        have i_1 : (nI j).toInt < 4 := by have h9 := pz_nge c_1; exact h9
        refine lv_iload_n hx hb dX2_wayFrom_10 rfl (lv_at hl 2 rfl) ?_
        refine lv_aload_n hx hb dX2_wayFrom_11 rfl (lv_at hl 0 rfl) ?_
        refine lv_iload_n hx hb dX2_wayFrom_12 rfl (lv_at hl 3 rfl) ?_
        refine c_v (Pw := Cw dC dI z A bs cp h0 la sA cA ns nc dr X P tr nl nq rs) (n := 1) (As := [.int (nI j)]) (rest := [.int n2]) S (q_X2_placeOfMark l dC dI z mi A bs cp h0 la sA cA ns nc dr X P tr nl nq rs k (nI j) (by omega)) iw_433 iw_430 iw_431 iw_432 iw_62 (by decide +kernel) rfl ⟨rfl, rfl, Nat.le_of_ble_eq_true rfl, Nat.le_of_ble_eq_true rfl⟩ KZ.blind (S_recv hK hW (by omega)) (hKZ.at hS (fun _ h9 => h9)) hW hl.1 rfl (Nat.le_of_ble_eq_true rfl) dX2_wayFrom_13 ⟨Nat.le_refl _, Nat.le_refl _⟩ hS (fun _ h9 => h9) (fun v9 H locs hB hz9 hk9 hS => ?_)
        refine W.widen (k := 0) (n := 0) (Nat.le_refl 0) (Nat.le_refl 0) ?_
        obtain ⟨r_2, rfl, hr_2, hW⟩ := hB
        refine W.eq (g2 := F0 m 16 ls [.int r_2, .int n2]) rfl ?_
        refine lv_iload_n hx hb dX2_wayFrom_16 rfl (lv_at hl 1 rfl) ?_
        refine lv_isub hx hb dX2_wayFrom_17 ?_
        refine lv_topi (fun x_3 _ => ?_)
        refine lv_ldc hx hb hown (hts _ iw_429) dX2_wayFrom_18 ?_
        refine lv_iand hx hb dX2_wayFrom_20 ?_
        refine lv_topi (fun x_4 _ => ?_)
        refine va_mmin hx hb (hml.trans hl.1.symm) hown (hts _ iw_435) (hts _ iw_275) (hts _ iw_64) (hts _ iw_276) (Nat.le_of_ble_eq_true rfl) (Nat.le_of_ble_eq_true rfl) (Nat.le_of_ble_eq_true rfl) (Nat.le_of_ble_eq_true rfl) dX2_wayFrom_21 ?_
        refine lv_topi (fun x_5 _ => ?_)
        refine lv_istore_n (lv' := [(2, .int x_5), (0, .ref (sA k)), (1, .int a1), (3, .int (nI j))]) hx hb dX2_wayFrom_24 rfl hl (by decide) rfl (fun ls hl => ?_)
        obtain ⟨y_6, ey_6⟩ : ∃ y : Int32, y = (nI j) + 1 := ⟨_, rfl⟩
        refine lv_iinc (v := y_6) (lv' := [(3, .int y_6), (2, .int x_5), (0, .ref (sA k)), (1, .int a1)]) hx hb dX2_wayFrom_25 hl (k := 3) rfl (by rw [ey_6]; rfl) (by decide) rfl (fun ls hl => ?_)
        obtain rfl : y_6 = nI (j + 1) := ey_6.trans (nI_1 j)
        have en_7 : (nI (j + 1)).toInt = ((j + 1 : Nat) : Int) := pz_ti (by omega)
        refine lv_goto (tgt := 5) hx hb dX2_wayFrom_28 (by decide) ?_
        exact ih_B5 _ (by omega) (j + 1) x_5 _ _ ls rfl (by omega) hW hS (lv_sub hl [2, 3, 1, 0] rfl)
  exact loop_B5 _ 0 65535 _ _ ls rfl (by omega) hW hS (lv_sub hl [2, 3, 1, 0] rfl)

abbrev B_q_X2_answer (dC : Nat → ClassId) (dI : Nat → Nat → Nat) (z : Nat) (mi : Nat) (A : Nat → Prop) (bs : Nat) (cp : Nat) (h0 : Nat) (la : Nat → Nat) (sA : Nat → Nat) (cA : Nat → Nat) (ns : Nat) (nc : Nat) (dr : Nat → Prop) (X : Nat → Int32) (P : Nat → Prop) (tr : Nat → Int32) (nl : Nat) (nq : Nat) (rs : Nat) (k : Nat) : Option Value → Heap → Prop := fun v H => v = none ∧ Cw dC dI z A bs cp h0 la sA cA ns nc dr X P tr nl nq rs H
set_option maxHeartbeats 8000000 in
set_option maxRecDepth 20000 in
theorem q_X2_answer (l : Launch) (dC : Nat → ClassId) (dI : Nat → Nat → Nat) (z : Nat) (mi : Nat) (A : Nat → Prop) (bs : Nat) (cp : Nat) (h0 : Nat) (la : Nat → Nat) (sA : Nat → Nat) (cA : Nat → Nat) (ns : Nat) (nc : Nat) (dr : Nat → Prop) (X : Nat → Int32) (P : Nat → Prop) (tr : Nat → Int32) (nl : Nat) (nq : Nat) (rs : Nat) (k : Nat) (hk : k < ns) : Met l yX2_answer (cws yX2_answer cX2_answer 1 none) { frames := 0, cells := 0, slots := 0, locals := 0 } (va_Pc [.ref (sA k)] (fun U => KZ dC dI z mi A U ∧ Cw dC dI z A bs cp h0 la sA cA ns nc dr X P tr nl nq rs U.heap)) (Qg (B_q_X2_answer dC dI z mi A bs cp h0 la sA cA ns nc dr X P tr nl nq rs k) A) 0 0 A := by
  refine m_start (KK := KZ dC dI z mi A) (Pw := Cw dC dI z A bs cp h0 la sA cA ns nc dr X P tr nl nq rs) (by decide) (Nat.le_of_ble_eq_true rfl) ?_
  intro p e s m below meth c ls S hr hlocks hin hKZ hW hS hl
  obtain ⟨hx, hb, hml, hown, hts⟩ := id S
  have hK := hKZ.1
  obtain ⟨hns, hnc, hnl, ag, hag, hXg, hnq⟩ := id hW.2.2.2.2.2.2
  have hl : lv_has ls 1 [(0, .ref (sA k))] := hl
  refine lv_aload_n hx hb dX2_answer_0 rfl (lv_at hl 0 rfl) ?_
  refine lv_dup hx hb dX2_answer_1 rfl ?_
  obtain ⟨-, x_1, hc_1, h0_1, hd_1⟩ := hW.2.2.1 k (by omega)
  refine S_gp S hK hc_1 10 (by decide) (fun _ => rfl) iw_182 rfl dX2_answer_2 ?_
  refine lv_iconst (v := 1) hx hb dX2_answer_5 (by decide) ?_
  refine lv_iadd hx hb dX2_answer_6 ?_
  refine lv_topi (fun x_2 _ => ?_)
  refine S_put S hK hW hS (k := k) (by omega) 10 (by decide) (by decide) (by decide) (fun _ => rfl) iw_182 rfl rfl (by decide +kernel) rfl dX2_answer_7 (fun H locs hW hS => ?_)
  refine lv_aload_n hx hb dX2_answer_10 rfl (lv_at hl 0 rfl) ?_
  refine lv_iconst (v := 0) hx hb dX2_answer_11 (by decide) ?_
  refine S_put S hK hW hS (k := k) (by omega) 12 (by decide) (by decide) (by decide) (fun _ => rfl) iw_186 rfl rfl (by decide +kernel) rfl dX2_answer_12 (fun H locs hW hS => ?_)
  refine lv_aload_n hx hb dX2_answer_15 rfl (lv_at hl 0 rfl) ?_
  refine lv_bipush (v := 10) hx hb dX2_answer_16 (by decide) ?_
  refine S_put S hK hW hS (k := k) (by omega) 14 (by decide) (by decide) (by decide) (fun _ => rfl) iw_189 rfl rfl (by decide +kernel) rfl dX2_answer_18 (fun H locs hW hS => ?_)
  refine lv_aload_n hx hb dX2_answer_21 rfl (lv_at hl 0 rfl) ?_
  obtain ⟨-, x_6, hc_6, h0_6, hd_6⟩ := hW.2.2.1 k (by omega)
  refine S_gp S hK hc_6 7 (by decide) (fun _ => rfl) iw_175 rfl dX2_answer_22 ?_
  refine lv_iconst (v := 2) hx hb dX2_answer_25 (by decide) ?_
  refine lv_icmp_ne (tgt := 34) hx hb dX2_answer_26 (by decide) (fun c_7 => ?_) (fun c_7 => ?_)
  · skip
    have i_7 : ¬ (x_6 7).toInt = 2 := by have h9 := pz_neq c_7; exact h9
    exact r_v hx hb hr hlocks hS dX2_answer_34 (⟨rfl, hW⟩)
  · skip
    have i_7 : (x_6 7).toInt = 2 := by have h9 := pz_eq c_7; exact h9
    have hnd_8 : ¬ dr k := fun q => gDr_n (Or.inr (Or.inr c_7)) (hd_6.mp q)
    refine lv_aload_n hx hb dX2_answer_29 rfl (lv_at hl 0 rfl) ?_
    refine lv_iconst (v := 0) hx hb dX2_answer_30 (by decide) ?_
    refine S_putd S hK hW hS (k := k) (by omega) 7 (by decide) (by decide) (fun _ => rfl) iw_175 rfl rfl (by decide +kernel) rfl dr (fun x9 h9 => ⟨fun q => absurd q hnd_8, fun q => absurd (show gDr (0 : Int32) from q) (gDr_n (by decide))⟩) (fun _ _ => Iff.rfl) dX2_answer_31 (fun H locs hW hS => ?_)
    exact r_v hx hb hr hlocks hS dX2_answer_34 (⟨rfl, hW⟩)

abbrev B_q_X2_goOut (dC : Nat → ClassId) (dI : Nat → Nat → Nat) (z : Nat) (mi : Nat) (A : Nat → Prop) (bs : Nat) (cp : Nat) (h0 : Nat) (la : Nat → Nat) (sA : Nat → Nat) (cA : Nat → Nat) (ns : Nat) (nc : Nat) (dr : Nat → Prop) (X : Nat → Int32) (P : Nat → Prop) (tr : Nat → Int32) (nl : Nat) (nq : Nat) (rs : Nat) (k : Nat) (a1 : Int32) : Option Value → Heap → Prop := fun v H => v = none ∧ Cw dC dI z A bs cp h0 la sA cA ns nc dr X P tr nl nq rs H
set_option maxHeartbeats 8000000 in
set_option maxRecDepth 20000 in
theorem q_X2_goOut (l : Launch) (dC : Nat → ClassId) (dI : Nat → Nat → Nat) (z : Nat) (mi : Nat) (A : Nat → Prop) (bs : Nat) (cp : Nat) (h0 : Nat) (la : Nat → Nat) (sA : Nat → Nat) (cA : Nat → Nat) (ns : Nat) (nc : Nat) (dr : Nat → Prop) (X : Nat → Int32) (P : Nat → Prop) (tr : Nat → Int32) (nl : Nat) (nq : Nat) (rs : Nat) (k : Nat) (a1 : Int32) (hk : k < ns) (hnd : ¬ dr k) : Met l yX2_goOut (cws yX2_goOut cX2_goOut 2 none) { frames := 1, cells := 0, slots := 0, locals := 14 } (va_Pc [.ref (sA k), .int a1] (fun U => KZ dC dI z mi A U ∧ Cw dC dI z A bs cp h0 la sA cA ns nc dr X P tr nl nq rs U.heap)) (Qg (B_q_X2_goOut dC dI z mi A bs cp h0 la sA cA ns nc dr X P tr nl nq rs k a1) A) 0 0 A := by
  refine m_start (KK := KZ dC dI z mi A) (Pw := Cw dC dI z A bs cp h0 la sA cA ns nc dr X P tr nl nq rs) (by decide) (Nat.le_of_ble_eq_true rfl) ?_
  intro p e s m below meth c ls S hr hlocks hin hKZ hW hS hl
  obtain ⟨hx, hb, hml, hown, hts⟩ := id S
  have hK := hKZ.1
  obtain ⟨hns, hnc, hnl, ag, hag, hXg, hnq⟩ := id hW.2.2.2.2.2.2
  have hl : lv_has ls 2 [(0, .ref (sA k)), (1, .int a1)] := hl
  refine lv_aload_n hx hb dX2_goOut_0 rfl (lv_at hl 0 rfl) ?_
  refine lv_iconst (v := 1) hx hb dX2_goOut_1 (by decide) ?_
  refine S_putd S hK hW hS (k := k) (by omega) 7 (by decide) (by decide) (fun _ => rfl) iw_175 rfl rfl (by decide +kernel) rfl dr (fun x9 h9 => ⟨fun q => absurd q hnd, fun q => absurd (show gDr (1 : Int32) from q) (gDr_n (by decide))⟩) (fun _ _ => Iff.rfl) dX2_goOut_2 (fun H locs hW hS => ?_)
  refine lv_aload_n hx hb dX2_goOut_5 rfl (lv_at hl 0 rfl) ?_
  refine lv_iload_n hx hb dX2_goOut_6 rfl (lv_at hl 1 rfl) ?_
  refine lv_aload_n hx hb dX2_goOut_7 rfl (lv_at hl 0 rfl) ?_
  obtain ⟨-, x_2, hc_2, h0_2, hd_2⟩ := hW.2.2.1 k (by omega)
  refine S_gp S hK hc_2 14 (by decide) (fun _ => rfl) iw_189 rfl dX2_goOut_8 ?_
  refine lv_iadd hx hb dX2_goOut_11 ?_
  refine lv_topi (fun x_3 _ => ?_)
  refine S_put S hK hW hS (k := k) (by omega) 13 (by decide) (by decide) (by decide) (fun _ => rfl) iw_187 rfl rfl (by decide +kernel) rfl dX2_goOut_12 (fun H locs hW hS => ?_)
  refine lv_aload_n hx hb dX2_goOut_15 rfl (lv_at hl 0 rfl) ?_
  refine lv_sipush (v := 320) hx hb dX2_goOut_16 (by decide) ?_
  refine lv_iconst (v := 2) hx hb dX2_goOut_19 (by decide) ?_
  refine lv_aload_n hx hb dX2_goOut_20 rfl (lv_at hl 0 rfl) ?_
  obtain ⟨-, x_5, hc_5, h0_5, hd_5⟩ := hW.2.2.1 k (by omega)
  refine S_gp S hK hc_5 14 (by decide) (fun _ => rfl) iw_189 rfl dX2_goOut_21 ?_
  refine lv_imul hx hb dX2_goOut_24 ?_
  refine lv_topi (fun x_6 _ => ?_)
  refine va_mmin hx hb (hml.trans hl.1.symm) hown (hts _ iw_435) (hts _ iw_275) (hts _ iw_64) (hts _ iw_276) (Nat.le_of_ble_eq_true rfl) (Nat.le_of_ble_eq_true rfl) (Nat.le_of_ble_eq_true rfl) (Nat.le_of_ble_eq_true rfl) dX2_goOut_25 ?_
  refine lv_topi (fun x_7 _ => ?_)
  refine S_put S hK hW hS (k := k) (by omega) 14 (by decide) (by decide) (by decide) (fun _ => rfl) iw_189 rfl rfl (by decide +kernel) rfl dX2_goOut_28 (fun H locs hW hS => ?_)
  refine lv_aload_n hx hb dX2_goOut_31 rfl (lv_at hl 0 rfl) ?_
  refine lv_dup hx hb dX2_goOut_32 rfl ?_
  obtain ⟨-, x_9, hc_9, h0_9, hd_9⟩ := hW.2.2.1 k (by omega)
  refine S_gp S hK hc_9 15 (by decide) (fun _ => rfl) iw_191 rfl dX2_goOut_33 ?_
  refine lv_iconst (v := 1) hx hb dX2_goOut_36 (by decide) ?_
  refine lv_iadd hx hb dX2_goOut_37 ?_
  refine lv_topi (fun x_10 _ => ?_)
  refine S_put S hK hW hS (k := k) (by omega) 15 (by decide) (by decide) (by decide) (fun _ => rfl) iw_191 rfl rfl (by decide +kernel) rfl dX2_goOut_38 (fun H locs hW hS => ?_)
  refine lv_aload_n hx hb dX2_goOut_41 rfl (lv_at hl 0 rfl) ?_
  refine lv_iconst (v := 0) hx hb dX2_goOut_42 (by decide) ?_
  refine S_put S hK hW hS (k := k) (by omega) 12 (by decide) (by decide) (by decide) (fun _ => rfl) iw_186 rfl rfl (by decide +kernel) rfl dX2_goOut_43 (fun H locs hW hS => ?_)
  exact r_v hx hb hr hlocks hS dX2_goOut_46 (⟨rfl, hW⟩)

abbrev B_q_X2_tell (dC : Nat → ClassId) (dI : Nat → Nat → Nat) (z : Nat) (mi : Nat) (A : Nat → Prop) (bs : Nat) (cp : Nat) (h0 : Nat) (la : Nat → Nat) (sA : Nat → Nat) (cA : Nat → Nat) (ns : Nat) (nc : Nat) (dr : Nat → Prop) (X : Nat → Int32) (P : Nat → Prop) (tr : Nat → Int32) (nl : Nat) (nq : Nat) (rs : Nat) (k : Nat) (a1 : Int32) : Option Value → Heap → Prop := fun v H => ∃ r : Int32, v = some (.int r) ∧ Cw dC dI z A bs cp h0 la sA cA ns nc dr X P tr nl nq rs H
set_option maxHeartbeats 8000000 in
set_option maxRecDepth 20000 in
theorem q_X2_tell (l : Launch) (dC : Nat → ClassId) (dI : Nat → Nat → Nat) (z : Nat) (mi : Nat) (A : Nat → Prop) (bs : Nat) (cp : Nat) (h0 : Nat) (la : Nat → Nat) (sA : Nat → Nat) (cA : Nat → Nat) (ns : Nat) (nc : Nat) (dr : Nat → Prop) (X : Nat → Int32) (P : Nat → Prop) (tr : Nat → Int32) (nl : Nat) (nq : Nat) (rs : Nat) (k : Nat) (a1 : Int32) (hk : k < ns) : Met l yX2_tell (cws yX2_tell cX2_tell 2 (some .int)) { frames := 0, cells := 0, slots := 0, locals := 0 } (va_Pc [.ref (sA k), .int a1] (fun U => KZ dC dI z mi A U ∧ Cw dC dI z A bs cp h0 la sA cA ns nc dr X P tr nl nq rs U.heap)) (Qg (B_q_X2_tell dC dI z mi A bs cp h0 la sA cA ns nc dr X P tr nl nq rs k a1) A) 0 0 A := by
  refine m_start (KK := KZ dC dI z mi A) (Pw := Cw dC dI z A bs cp h0 la sA cA ns nc dr X P tr nl nq rs) (by decide) (Nat.le_of_ble_eq_true rfl) ?_
  intro p e s m below meth c ls S hr hlocks hin hKZ hW hS hl
  obtain ⟨hx, hb, hml, hown, hts⟩ := id S
  have hK := hKZ.1
  obtain ⟨hns, hnc, hnl, ag, hag, hXg, hnq⟩ := id hW.2.2.2.2.2.2
  have hl : lv_has ls 2 [(0, .ref (sA k)), (1, .int a1)] := hl
  refine lv_iload_n hx hb dX2_tell_0 rfl (lv_at hl 1 rfl) ?_
  by_cases t_1 : a1.toInt < 0 ∨ 14 < a1.toInt
  · skip
    refine lv_tableOut (tgt := 167) hx hb dX2_tell_1 t_1 (by decide) ?_
    refine lv_aload_n hx hb dX2_tell_167 rfl (lv_at hl 0 rfl) ?_
    obtain ⟨-, x_2, hc_2, h0_2, hd_2⟩ := hW.2.2.1 k (by omega)
    refine S_gp S hK hc_2 6 (by decide) (fun _ => rfl) iw_174 rfl dX2_tell_168 ?_
    exact r_i (v := (x_2 6)) hx hb hr hlocks hS dX2_tell_171 (⟨_, rfl, hW⟩)
  · skip
    obtain ⟨j_1, hj_1, ej_1⟩ := pz_of (x := a1) (n := 15) (by omega) (by omega)
    have oj_1 : j_1 = 0 ∨ j_1 = 1 ∨ j_1 = 2 ∨ j_1 = 3 ∨ j_1 = 4 ∨ j_1 = 5 ∨ j_1 = 6 ∨ j_1 = 7 ∨ j_1 = 8 ∨ j_1 = 9 ∨ j_1 = 10 ∨ j_1 = 11 ∨ j_1 = 12 ∨ j_1 = 13 ∨ j_1 = 14 := by omega
    rcases oj_1 with h9 | h9 | h9 | h9 | h9 | h9 | h9 | h9 | h9 | h9 | h9 | h9 | h9 | h9 | h9
    · skip
      have e9 : a1 = 0 := by rw [ej_1, h9]; rfl
      subst e9
      refine lv_tableIn (off := 75) (tgt := 76) hx hb dX2_tell_1 (by decide) (by decide) (by decide) (by decide) ?_
      refine lv_aload_n hx hb dX2_tell_76 rfl (lv_at hl 0 rfl) ?_
      obtain ⟨-, x_3, hc_3, h0_3, hd_3⟩ := hW.2.2.1 k (by omega)
      refine S_gp S hK hc_3 7 (by decide) (fun _ => rfl) iw_175 rfl dX2_tell_77 ?_
      exact r_i (v := (x_3 7)) hx hb hr hlocks hS dX2_tell_80 (⟨_, rfl, hW⟩)
    · skip
      have e9 : a1 = 1 := by rw [ej_1, h9]; rfl
      subst e9
      refine lv_tableIn (off := 80) (tgt := 81) hx hb dX2_tell_1 (by decide) (by decide) (by decide) (by decide) ?_
      refine lv_aload_n hx hb dX2_tell_81 rfl (lv_at hl 0 rfl) ?_
      obtain ⟨-, x_4, hc_4, h0_4, hd_4⟩ := hW.2.2.1 k (by omega)
      refine S_gp S hK hc_4 8 (by decide) (fun _ => rfl) iw_177 rfl dX2_tell_82 ?_
      exact r_i (v := (x_4 8)) hx hb hr hlocks hS dX2_tell_85 (⟨_, rfl, hW⟩)
    · skip
      have e9 : a1 = 2 := by rw [ej_1, h9]; rfl
      subst e9
      refine lv_tableIn (off := 85) (tgt := 86) hx hb dX2_tell_1 (by decide) (by decide) (by decide) (by decide) ?_
      refine lv_aload_n hx hb dX2_tell_86 rfl (lv_at hl 0 rfl) ?_
      obtain ⟨-, x_5, hc_5, h0_5, hd_5⟩ := hW.2.2.1 k (by omega)
      refine S_gp S hK hc_5 9 (by decide) (fun _ => rfl) iw_180 rfl dX2_tell_87 ?_
      exact r_i (v := (x_5 9)) hx hb hr hlocks hS dX2_tell_90 (⟨_, rfl, hW⟩)
    · skip
      have e9 : a1 = 3 := by rw [ej_1, h9]; rfl
      subst e9
      refine lv_tableIn (off := 90) (tgt := 91) hx hb dX2_tell_1 (by decide) (by decide) (by decide) (by decide) ?_
      refine lv_aload_n hx hb dX2_tell_91 rfl (lv_at hl 0 rfl) ?_
      obtain ⟨-, x_6, hc_6, h0_6, hd_6⟩ := hW.2.2.1 k (by omega)
      refine S_gp S hK hc_6 10 (by decide) (fun _ => rfl) iw_182 rfl dX2_tell_92 ?_
      exact r_i (v := (x_6 10)) hx hb hr hlocks hS dX2_tell_95 (⟨_, rfl, hW⟩)
    · skip
      have e9 : a1 = 4 := by rw [ej_1, h9]; rfl
      subst e9
      refine lv_tableIn (off := 95) (tgt := 96) hx hb dX2_tell_1 (by decide) (by decide) (by decide) (by decide) ?_
      refine lv_aload_n hx hb dX2_tell_96 rfl (lv_at hl 0 rfl) ?_
      obtain ⟨-, x_7, hc_7, h0_7, hd_7⟩ := hW.2.2.1 k (by omega)
      refine S_gp S hK hc_7 11 (by decide) (fun _ => rfl) iw_183 rfl dX2_tell_97 ?_
      exact r_i (v := (x_7 11)) hx hb hr hlocks hS dX2_tell_100 (⟨_, rfl, hW⟩)
    · skip
      have e9 : a1 = 5 := by rw [ej_1, h9]; rfl
      subst e9
      refine lv_tableIn (off := 100) (tgt := 101) hx hb dX2_tell_1 (by decide) (by decide) (by decide) (by decide) ?_
      refine lv_aload_n hx hb dX2_tell_101 rfl (lv_at hl 0 rfl) ?_
      obtain ⟨-, x_8, hc_8, h0_8, hd_8⟩ := hW.2.2.1 k (by omega)
      refine S_gp S hK hc_8 12 (by decide) (fun _ => rfl) iw_186 rfl dX2_tell_102 ?_
      exact r_i (v := (x_8 12)) hx hb hr hlocks hS dX2_tell_105 (⟨_, rfl, hW⟩)
    · skip
      have e9 : a1 = 6 := by rw [ej_1, h9]; rfl
      subst e9
      refine lv_tableIn (off := 105) (tgt := 106) hx hb dX2_tell_1 (by decide) (by decide) (by decide) (by decide) ?_
      refine lv_aload_n hx hb dX2_tell_106 rfl (lv_at hl 0 rfl) ?_
      obtain ⟨-, x_9, hc_9, h0_9, hd_9⟩ := hW.2.2.1 k (by omega)
      refine S_gp S hK hc_9 7 (by decide) (fun _ => rfl) iw_175 rfl dX2_tell_107 ?_
      refine lv_iconst (v := 1) hx hb dX2_tell_110 (by decide) ?_
      refine lv_icmp_ne (tgt := 121) hx hb dX2_tell_111 (by decide) (fun c_10 => ?_) (fun c_10 => ?_)
      · skip
        have i_10 : ¬ (x_9 7).toInt = 1 := by have h9 := pz_neq c_10; exact h9
        refine lv_bipush (v := (-9)) hx hb dX2_tell_121 (by decide) ?_
        exact r_i (v := (-9)) hx hb hr hlocks hS dX2_tell_123 (⟨_, rfl, hW⟩)
      · skip
        have i_10 : (x_9 7).toInt = 1 := by have h9 := pz_eq c_10; exact h9
        refine lv_aload_n hx hb dX2_tell_114 rfl (lv_at hl 0 rfl) ?_
        refine S_gp S hK hc_9 13 (by decide) (fun _ => rfl) iw_187 rfl dX2_tell_115 ?_
        refine lv_goto (tgt := 123) hx hb dX2_tell_118 (by decide) ?_
        exact r_i (v := (x_9 13)) hx hb hr hlocks hS dX2_tell_123 (⟨_, rfl, hW⟩)
    · skip
      have e9 : a1 = 7 := by rw [ej_1, h9]; rfl
      subst e9
      refine lv_tableIn (off := 123) (tgt := 124) hx hb dX2_tell_1 (by decide) (by decide) (by decide) (by decide) ?_
      refine lv_aload_n hx hb dX2_tell_124 rfl (lv_at hl 0 rfl) ?_
      obtain ⟨-, x_12, hc_12, h0_12, hd_12⟩ := hW.2.2.1 k (by omega)
      refine S_gp S hK hc_12 14 (by decide) (fun _ => rfl) iw_189 rfl dX2_tell_125 ?_
      exact r_i (v := (x_12 14)) hx hb hr hlocks hS dX2_tell_128 (⟨_, rfl, hW⟩)
    · skip
      have e9 : a1 = 8 := by rw [ej_1, h9]; rfl
      subst e9
      refine lv_tableIn (off := 128) (tgt := 129) hx hb dX2_tell_1 (by decide) (by decide) (by decide) (by decide) ?_
      refine lv_aload_n hx hb dX2_tell_129 rfl (lv_at hl 0 rfl) ?_
      obtain ⟨-, x_13, hc_13, h0_13, hd_13⟩ := hW.2.2.1 k (by omega)
      refine S_gp S hK hc_13 15 (by decide) (fun _ => rfl) iw_191 rfl dX2_tell_130 ?_
      exact r_i (v := (x_13 15)) hx hb hr hlocks hS dX2_tell_133 (⟨_, rfl, hW⟩)
    · skip
      have e9 : a1 = 9 := by rw [ej_1, h9]; rfl
      subst e9
      refine lv_tableIn (off := 133) (tgt := 134) hx hb dX2_tell_1 (by decide) (by decide) (by decide) (by decide) ?_
      refine lv_aload_n hx hb dX2_tell_134 rfl (lv_at hl 0 rfl) ?_
      obtain ⟨-, x_14, hc_14, h0_14, hd_14⟩ := hW.2.2.1 k (by omega)
      refine S_gp S hK hc_14 16 (by decide) (fun _ => rfl) iw_192 rfl dX2_tell_135 ?_
      refine lv_ldc hx hb hown (hts _ iw_321) dX2_tell_138 ?_
      refine lv_iadd hx hb dX2_tell_140 ?_
      refine lv_topi (fun x_15 _ => ?_)
      exact r_i (v := x_15) hx hb hr hlocks hS dX2_tell_141 (⟨_, rfl, hW⟩)
    · skip
      have e9 : a1 = 10 := by rw [ej_1, h9]; rfl
      subst e9
      refine lv_tableIn (off := 141) (tgt := 142) hx hb dX2_tell_1 (by decide) (by decide) (by decide) (by decide) ?_
      refine lv_aload_n hx hb dX2_tell_142 rfl (lv_at hl 0 rfl) ?_
      obtain ⟨-, x_16, hc_16, h0_16, hd_16⟩ := hW.2.2.1 k (by omega)
      refine S_gp S hK hc_16 2 (by decide) (fun _ => rfl) iw_169 rfl dX2_tell_143 ?_
      exact r_i (v := (x_16 2)) hx hb hr hlocks hS dX2_tell_146 (⟨_, rfl, hW⟩)
    · skip
      have e9 : a1 = 11 := by rw [ej_1, h9]; rfl
      subst e9
      refine lv_tableIn (off := 146) (tgt := 147) hx hb dX2_tell_1 (by decide) (by decide) (by decide) (by decide) ?_
      refine lv_aload_n hx hb dX2_tell_147 rfl (lv_at hl 0 rfl) ?_
      obtain ⟨-, x_17, hc_17, h0_17, hd_17⟩ := hW.2.2.1 k (by omega)
      refine S_gp S hK hc_17 1 (by decide) (fun _ => rfl) iw_167 rfl dX2_tell_148 ?_
      exact r_i (v := (x_17 1)) hx hb hr hlocks hS dX2_tell_151 (⟨_, rfl, hW⟩)
    · skip
      have e9 : a1 = 12 := by rw [ej_1, h9]; rfl
      subst e9
      refine lv_tableIn (off := 151) (tgt := 152) hx hb dX2_tell_1 (by decide) (by decide) (by decide) (by decide) ?_
      refine lv_aload_n hx hb dX2_tell_152 rfl (lv_at hl 0 rfl) ?_
      obtain ⟨-, x_18, hc_18, h0_18, hd_18⟩ := hW.2.2.1 k (by omega)
      refine S_gp S hK hc_18 3 (by decide) (fun _ => rfl) iw_171 rfl dX2_tell_153 ?_
      exact r_i (v := (x_18 3)) hx hb hr hlocks hS dX2_tell_156 (⟨_, rfl, hW⟩)
    · skip
      have e9 : a1 = 13 := by rw [ej_1, h9]; rfl
      subst e9
      refine lv_tableIn (off := 156) (tgt := 157) hx hb dX2_tell_1 (by decide) (by decide) (by decide) (by decide) ?_
      refine lv_aload_n hx hb dX2_tell_157 rfl (lv_at hl 0 rfl) ?_
      obtain ⟨-, x_19, hc_19, h0_19, hd_19⟩ := hW.2.2.1 k (by omega)
      refine S_gp S hK hc_19 4 (by decide) (fun _ => rfl) iw_172 rfl dX2_tell_158 ?_
      exact r_i (v := (x_19 4)) hx hb hr hlocks hS dX2_tell_161 (⟨_, rfl, hW⟩)
    · skip
      have e9 : a1 = 14 := by rw [ej_1, h9]; rfl
      subst e9
      refine lv_tableIn (off := 161) (tgt := 162) hx hb dX2_tell_1 (by decide) (by decide) (by decide) (by decide) ?_
      refine lv_aload_n hx hb dX2_tell_162 rfl (lv_at hl 0 rfl) ?_
      obtain ⟨-, x_20, hc_20, h0_20, hd_20⟩ := hW.2.2.1 k (by omega)
      refine S_gp S hK hc_20 5 (by decide) (fun _ => rfl) iw_173 rfl dX2_tell_163 ?_
      exact r_i (v := (x_20 5)) hx hb hr hlocks hS dX2_tell_166 (⟨_, rfl, hW⟩)

abbrev B_q_X2_change (dC : Nat → ClassId) (dI : Nat → Nat → Nat) (z : Nat) (mi : Nat) (A : Nat → Prop) (bs : Nat) (cp : Nat) (h0 : Nat) (la : Nat → Nat) (sA : Nat → Nat) (cA : Nat → Nat) (ns : Nat) (nc : Nat) (dr : Nat → Prop) (X : Nat → Int32) (P : Nat → Prop) (tr : Nat → Int32) (nl : Nat) (nq : Nat) (rs : Nat) (k : Nat) (a1 : Int32) (a2 : Int32) : Option Value → Heap → Prop := fun v H => ∃ r : Int32, v = some (.int r) ∧ Cw dC dI z A bs cp h0 la sA cA ns nc dr X P tr nl nq rs H
set_option maxHeartbeats 8000000 in
set_option maxRecDepth 20000 in
theorem q_X2_change (l : Launch) (dC : Nat → ClassId) (dI : Nat → Nat → Nat) (z : Nat) (mi : Nat) (A : Nat → Prop) (bs : Nat) (cp : Nat) (h0 : Nat) (la : Nat → Nat) (sA : Nat → Nat) (cA : Nat → Nat) (ns : Nat) (nc : Nat) (dr : Nat → Prop) (X : Nat → Int32) (P : Nat → Prop) (tr : Nat → Int32) (nl : Nat) (nq : Nat) (rs : Nat) (k : Nat) (a1 : Int32) (a2 : Int32) (hk : k < ns) : Met l yX2_change (cws yX2_change cX2_change 4 (some .int)) { frames := 1, cells := 0, slots := 0, locals := 21 } (va_Pc [.ref (sA k), .int a1, .int a2] (fun U => KZ dC dI z mi A U ∧ Cw dC dI z A bs cp h0 la sA cA ns nc dr X P tr nl nq rs U.heap)) (Qg (B_q_X2_change dC dI z mi A bs cp h0 la sA cA ns nc dr X P tr nl nq rs k a1 a2) A) 0 0 A := by
  refine m_start (KK := KZ dC dI z mi A) (Pw := Cw dC dI z A bs cp h0 la sA cA ns nc dr X P tr nl nq rs) (by decide) (Nat.le_of_ble_eq_true rfl) ?_
  intro p e s m below meth c ls S hr hlocks hin hKZ hW hS hl
  obtain ⟨hx, hb, hml, hown, hts⟩ := id S
  have hK := hKZ.1
  obtain ⟨hns, hnc, hnl, ag, hag, hXg, hnq⟩ := id hW.2.2.2.2.2.2
  have hl : lv_has ls 4 [(0, .ref (sA k)), (1, .int a1), (2, .int a2)] := hl
  refine lv_aload_n hx hb dX2_change_0 rfl (lv_at hl 0 rfl) ?_
  refine lv_iload_n hx hb dX2_change_1 rfl (lv_at hl 1 rfl) ?_
  refine lv_if_ne (tgt := 10) hx hb dX2_change_2 (by decide) (fun c_1 => ?_) (fun c_1 => ?_)
  · skip
    have i_1 : ¬ a1.toInt = 0 := by have h9 := pz_neq c_1; exact h9
    refine lv_iload_n hx hb dX2_change_10 rfl (lv_at hl 1 rfl) ?_
    refine lv_bipush (v := 11) hx hb dX2_change_11 (by decide) ?_
    refine lv_iadd hx hb dX2_change_13 ?_
    refine lv_topi (fun x_2 _ => ?_)
    refine c_v (Pw := Cw dC dI z A bs cp h0 la sA cA ns nc dr X P tr nl nq rs) (n := 1) (As := [.int x_2]) (rest := []) S (q_X2_tell l dC dI z mi A bs cp h0 la sA cA ns nc dr X P tr nl nq rs k x_2 (by omega)) iw_320 iw_317 iw_318 iw_319 iw_62 (by decide +kernel) rfl ⟨rfl, rfl, Nat.le_of_ble_eq_true rfl, Nat.le_of_ble_eq_true rfl⟩ KZ.blind (S_recv hK hW (by omega)) (hKZ.at hS (fun _ h9 => h9)) hW hl.1 rfl (Nat.le_of_ble_eq_true rfl) dX2_change_14 ⟨Nat.le_refl _, Nat.le_refl _⟩ hS (fun _ h9 => h9) (fun v9 H locs hB hz9 hk9 hS => ?_)
    refine W.widen (k := 0) (n := 0) (Nat.le_refl 0) (Nat.le_refl 0) ?_
    obtain ⟨r_3, rfl, hW⟩ := hB
    refine W.eq (g2 := F0 m 17 ls [.int r_3]) rfl ?_
    refine lv_istore_n (lv' := [(3, .int r_3), (0, .ref (sA k)), (1, .int a1), (2, .int a2)]) hx hb dX2_change_17 rfl hl (by decide) rfl (fun ls hl => ?_)
    refine lv_iload_n hx hb dX2_change_18 rfl (lv_at hl 2 rfl) ?_
    by_cases t_4 : a1.toInt < 0 ∨ 3 < a1.toInt
    · skip
      refine lv_tableOut (tgt := 80) hx hb dX2_change_19 t_4 (by decide) ?_
      refine lv_aload_n hx hb dX2_change_80 rfl (lv_at hl 1 rfl) ?_
      refine lv_iload_n hx hb dX2_change_81 rfl (lv_at hl 3 rfl) ?_
      refine S_put S hK hW hS (k := k) (by omega) 6 (by decide) (by decide) (by decide) (fun _ => rfl) iw_174 rfl rfl (by decide +kernel) rfl dX2_change_82 (fun H locs hW hS => ?_)
      refine lv_iload_n hx hb dX2_change_85 rfl (lv_at hl 0 rfl) ?_
      exact r_i (v := r_3) hx hb hr hlocks hS dX2_change_86 (⟨_, rfl, hW⟩)
    · skip
      obtain ⟨j_4, hj_4, ej_4⟩ := pz_of (x := a1) (n := 4) (by omega) (by omega)
      have oj_4 : j_4 = 0 ∨ j_4 = 1 ∨ j_4 = 2 ∨ j_4 = 3 := by omega
      rcases oj_4 with h9 | h9 | h9 | h9
      · skip
        have e9 : a1 = 0 := by rw [ej_4, h9]; rfl
        subst e9
        refine lv_tableIn (off := 29) (tgt := 48) hx hb dX2_change_19 (by decide) (by decide) (by decide) (by decide) ?_
        refine lv_aload_n hx hb dX2_change_48 rfl (lv_at hl 1 rfl) ?_
        refine lv_iload_n hx hb dX2_change_49 rfl (lv_at hl 3 rfl) ?_
        refine S_put S hK hW hS (k := k) (by omega) 2 (by decide) (by decide) (by decide) (fun _ => rfl) iw_169 rfl rfl (by decide +kernel) rfl dX2_change_50 (fun H locs hW hS => ?_)
        refine lv_goto (tgt := 85) hx hb dX2_change_53 (by decide) ?_
        refine lv_iload_n hx hb dX2_change_85 rfl (lv_at hl 0 rfl) ?_
        exact r_i (v := r_3) hx hb hr hlocks hS dX2_change_86 (⟨_, rfl, hW⟩)
      · skip
        have e9 : a1 = 1 := by rw [ej_4, h9]; rfl
        subst e9
        refine lv_tableIn (off := 37) (tgt := 56) hx hb dX2_change_19 (by decide) (by decide) (by decide) (by decide) ?_
        refine lv_aload_n hx hb dX2_change_56 rfl (lv_at hl 1 rfl) ?_
        refine lv_iload_n hx hb dX2_change_57 rfl (lv_at hl 3 rfl) ?_
        refine S_put S hK hW hS (k := k) (by omega) 3 (by decide) (by decide) (by decide) (fun _ => rfl) iw_171 rfl rfl (by decide +kernel) rfl dX2_change_58 (fun H locs hW hS => ?_)
        refine lv_goto (tgt := 85) hx hb dX2_change_61 (by decide) ?_
        refine lv_iload_n hx hb dX2_change_85 rfl (lv_at hl 0 rfl) ?_
        exact r_i (v := r_3) hx hb hr hlocks hS dX2_change_86 (⟨_, rfl, hW⟩)
      · skip
        have e9 : a1 = 2 := by rw [ej_4, h9]; rfl
        subst e9
        refine lv_tableIn (off := 45) (tgt := 64) hx hb dX2_change_19 (by decide) (by decide) (by decide) (by decide) ?_
        refine lv_aload_n hx hb dX2_change_64 rfl (lv_at hl 1 rfl) ?_
        refine lv_iload_n hx hb dX2_change_65 rfl (lv_at hl 3 rfl) ?_
        refine S_put S hK hW hS (k := k) (by omega) 4 (by decide) (by decide) (by decide) (fun _ => rfl) iw_172 rfl rfl (by decide +kernel) rfl dX2_change_66 (fun H locs hW hS => ?_)
        refine lv_goto (tgt := 85) hx hb dX2_change_69 (by decide) ?_
        refine lv_iload_n hx hb dX2_change_85 rfl (lv_at hl 0 rfl) ?_
        exact r_i (v := r_3) hx hb hr hlocks hS dX2_change_86 (⟨_, rfl, hW⟩)
      · skip
        have e9 : a1 = 3 := by rw [ej_4, h9]; rfl
        subst e9
        refine lv_tableIn (off := 53) (tgt := 72) hx hb dX2_change_19 (by decide) (by decide) (by decide) (by decide) ?_
        refine lv_aload_n hx hb dX2_change_72 rfl (lv_at hl 1 rfl) ?_
        refine lv_iload_n hx hb dX2_change_73 rfl (lv_at hl 3 rfl) ?_
        refine S_put S hK hW hS (k := k) (by omega) 5 (by decide) (by decide) (by decide) (fun _ => rfl) iw_173 rfl rfl (by decide +kernel) rfl dX2_change_74 (fun H locs hW hS => ?_)
        refine lv_goto (tgt := 85) hx hb dX2_change_77 (by decide) ?_
        refine lv_iload_n hx hb dX2_change_85 rfl (lv_at hl 0 rfl) ?_
        exact r_i (v := r_3) hx hb hr hlocks hS dX2_change_86 (⟨_, rfl, hW⟩)
  · skip
    have i_1 : a1.toInt = 0 := by have h9 := pz_eq c_1; exact h9
    refine lv_bipush (v := 10) hx hb dX2_change_5 (by decide) ?_
    refine lv_goto (tgt := 14) hx hb dX2_change_7 (by decide) ?_
    refine c_v (Pw := Cw dC dI z A bs cp h0 la sA cA ns nc dr X P tr nl nq rs) (n := 1) (As := [.int 10]) (rest := []) S (q_X2_tell l dC dI z mi A bs cp h0 la sA cA ns nc dr X P tr nl nq rs k 10 (by omega)) iw_320 iw_317 iw_318 iw_319 iw_62 (by decide +kernel) rfl ⟨rfl, rfl, Nat.le_of_ble_eq_true rfl, Nat.le_of_ble_eq_true rfl⟩ KZ.blind (S_recv hK hW (by omega)) (hKZ.at hS (fun _ h9 => h9)) hW hl.1 rfl (Nat.le_of_ble_eq_true rfl) dX2_change_14 ⟨Nat.le_refl _, Nat.le_refl _⟩ hS (fun _ h9 => h9) (fun v9 H locs hB hz9 hk9 hS => ?_)
    refine W.widen (k := 0) (n := 0) (Nat.le_refl 0) (Nat.le_refl 0) ?_
    obtain ⟨r_10, rfl, hW⟩ := hB
    refine W.eq (g2 := F0 m 17 ls [.int r_10]) rfl ?_
    refine lv_istore_n (lv' := [(3, .int r_10), (0, .ref (sA k)), (1, .int a1), (2, .int a2)]) hx hb dX2_change_17 rfl hl (by decide) rfl (fun ls hl => ?_)
    refine lv_iload_n hx hb dX2_change_18 rfl (lv_at hl 2 rfl) ?_
    by_cases t_11 : a1.toInt < 0 ∨ 3 < a1.toInt
    · skip
      refine lv_tableOut (tgt := 80) hx hb dX2_change_19 t_11 (by decide) ?_
      refine lv_aload_n hx hb dX2_change_80 rfl (lv_at hl 1 rfl) ?_
      refine lv_iload_n hx hb dX2_change_81 rfl (lv_at hl 3 rfl) ?_
      refine S_put S hK hW hS (k := k) (by omega) 6 (by decide) (by decide) (by decide) (fun _ => rfl) iw_174 rfl rfl (by decide +kernel) rfl dX2_change_82 (fun H locs hW hS => ?_)
      refine lv_iload_n hx hb dX2_change_85 rfl (lv_at hl 0 rfl) ?_
      exact r_i (v := r_10) hx hb hr hlocks hS dX2_change_86 (⟨_, rfl, hW⟩)
    · skip
      obtain ⟨j_11, hj_11, ej_11⟩ := pz_of (x := a1) (n := 4) (by omega) (by omega)
      have oj_11 : j_11 = 0 ∨ j_11 = 1 ∨ j_11 = 2 ∨ j_11 = 3 := by omega
      rcases oj_11 with h9 | h9 | h9 | h9
      · skip
        have e9 : a1 = 0 := by rw [ej_11, h9]; rfl
        subst e9
        refine lv_tableIn (off := 29) (tgt := 48) hx hb dX2_change_19 (by decide) (by decide) (by decide) (by decide) ?_
        refine lv_aload_n hx hb dX2_change_48 rfl (lv_at hl 1 rfl) ?_
        refine lv_iload_n hx hb dX2_change_49 rfl (lv_at hl 3 rfl) ?_
        refine S_put S hK hW hS (k := k) (by omega) 2 (by decide) (by decide) (by decide) (fun _ => rfl) iw_169 rfl rfl (by decide +kernel) rfl dX2_change_50 (fun H locs hW hS => ?_)
        refine lv_goto (tgt := 85) hx hb dX2_change_53 (by decide) ?_
        refine lv_iload_n hx hb dX2_change_85 rfl (lv_at hl 0 rfl) ?_
        exact r_i (v := r_10) hx hb hr hlocks hS dX2_change_86 (⟨_, rfl, hW⟩)
      · skip
        have e9 : a1 = 1 := by rw [ej_11, h9]; rfl
        subst e9
        refine lv_tableIn (off := 37) (tgt := 56) hx hb dX2_change_19 (by decide) (by decide) (by decide) (by decide) ?_
        refine lv_aload_n hx hb dX2_change_56 rfl (lv_at hl 1 rfl) ?_
        refine lv_iload_n hx hb dX2_change_57 rfl (lv_at hl 3 rfl) ?_
        refine S_put S hK hW hS (k := k) (by omega) 3 (by decide) (by decide) (by decide) (fun _ => rfl) iw_171 rfl rfl (by decide +kernel) rfl dX2_change_58 (fun H locs hW hS => ?_)
        refine lv_goto (tgt := 85) hx hb dX2_change_61 (by decide) ?_
        refine lv_iload_n hx hb dX2_change_85 rfl (lv_at hl 0 rfl) ?_
        exact r_i (v := r_10) hx hb hr hlocks hS dX2_change_86 (⟨_, rfl, hW⟩)
      · skip
        have e9 : a1 = 2 := by rw [ej_11, h9]; rfl
        subst e9
        refine lv_tableIn (off := 45) (tgt := 64) hx hb dX2_change_19 (by decide) (by decide) (by decide) (by decide) ?_
        refine lv_aload_n hx hb dX2_change_64 rfl (lv_at hl 1 rfl) ?_
        refine lv_iload_n hx hb dX2_change_65 rfl (lv_at hl 3 rfl) ?_
        refine S_put S hK hW hS (k := k) (by omega) 4 (by decide) (by decide) (by decide) (fun _ => rfl) iw_172 rfl rfl (by decide +kernel) rfl dX2_change_66 (fun H locs hW hS => ?_)
        refine lv_goto (tgt := 85) hx hb dX2_change_69 (by decide) ?_
        refine lv_iload_n hx hb dX2_change_85 rfl (lv_at hl 0 rfl) ?_
        exact r_i (v := r_10) hx hb hr hlocks hS dX2_change_86 (⟨_, rfl, hW⟩)
      · skip
        have e9 : a1 = 3 := by rw [ej_11, h9]; rfl
        subst e9
        refine lv_tableIn (off := 53) (tgt := 72) hx hb dX2_change_19 (by decide) (by decide) (by decide) (by decide) ?_
        refine lv_aload_n hx hb dX2_change_72 rfl (lv_at hl 1 rfl) ?_
        refine lv_iload_n hx hb dX2_change_73 rfl (lv_at hl 3 rfl) ?_
        refine S_put S hK hW hS (k := k) (by omega) 5 (by decide) (by decide) (by decide) (fun _ => rfl) iw_173 rfl rfl (by decide +kernel) rfl dX2_change_74 (fun H locs hW hS => ?_)
        refine lv_goto (tgt := 85) hx hb dX2_change_77 (by decide) ?_
        refine lv_iload_n hx hb dX2_change_85 rfl (lv_at hl 0 rfl) ?_
        exact r_i (v := r_10) hx hb hr hlocks hS dX2_change_86 (⟨_, rfl, hW⟩)

abbrev B_q_X1_hasEnded (dC : Nat → ClassId) (dI : Nat → Nat → Nat) (z : Nat) (mi : Nat) (A : Nat → Prop) (bs : Nat) (cp : Nat) (h0 : Nat) (la : Nat → Nat) (sA : Nat → Nat) (cA : Nat → Nat) (ns : Nat) (nc : Nat) (dr : Nat → Prop) (X : Nat → Int32) (P : Nat → Prop) (tr : Nat → Int32) (nl : Nat) (nq : Nat) (rs : Nat) (k : Nat) : Option Value → Heap → Prop := fun v H => ∃ r : Int32, v = some (.int r) ∧ (r = 0 ∨ r = 1) ∧ Cw dC dI z A bs cp h0 la sA cA ns nc dr X P tr nl nq rs H
set_option maxHeartbeats 8000000 in
set_option maxRecDepth 20000 in
theorem q_X1_hasEnded (l : Launch) (dC : Nat → ClassId) (dI : Nat → Nat → Nat) (z : Nat) (mi : Nat) (A : Nat → Prop) (bs : Nat) (cp : Nat) (h0 : Nat) (la : Nat → Nat) (sA : Nat → Nat) (cA : Nat → Nat) (ns : Nat) (nc : Nat) (dr : Nat → Prop) (X : Nat → Int32) (P : Nat → Prop) (tr : Nat → Int32) (nl : Nat) (nq : Nat) (rs : Nat) (k : Nat) (hk : k < nc) : Met l yX1_hasEnded (cws yX1_hasEnded cX1_hasEnded 1 (some .boolean)) { frames := 0, cells := 0, slots := 0, locals := 0 } (va_Pc [.ref (cA k)] (fun U => KZ dC dI z mi A U ∧ Cw dC dI z A bs cp h0 la sA cA ns nc dr X P tr nl nq rs U.heap)) (Qg (B_q_X1_hasEnded dC dI z mi A bs cp h0 la sA cA ns nc dr X P tr nl nq rs k) A) 0 0 A := by
  refine m_start (KK := KZ dC dI z mi A) (Pw := Cw dC dI z A bs cp h0 la sA cA ns nc dr X P tr nl nq rs) (by decide) (Nat.le_of_ble_eq_true rfl) ?_
  intro p e s m below meth c ls S hr hlocks hin hKZ hW hS hl
  obtain ⟨hx, hb, hml, hown, hts⟩ := id S
  have hK := hKZ.1
  obtain ⟨hns, hnc, hnl, ag, hag, hXg, hnq⟩ := id hW.2.2.2.2.2.2
  have hl : lv_has ls 1 [(0, .ref (cA k))] := hl
  refine lv_aload_n hx hb dX1_hasEnded_0 rfl (lv_at hl 0 rfl) ?_
  obtain ⟨-, y_1, p_1, q_1, hc_1, ⟨h0_1, h7_1⟩, hp_1, hq_1⟩ := hW.2.2.2.1 k (by omega)
  refine C_gp (v := .int (y_1 6)) S hK hc_1 6 (by decide) rfl iw_367 rfl dX1_hasEnded_1 ?_
  refine lv_if_eq (tgt := 19) hx hb dX1_hasEnded_4 (by decide) (fun c_2 => ?_) (fun c_2 => ?_)
  · skip
    have i_2 : (y_1 6).toInt = 0 := by have h9 := pz_eq c_2; exact h9
    refine lv_iconst (v := 0) hx hb dX1_hasEnded_19 (by decide) ?_
    exact r_z (v := 0) hx hb hr rfl hlocks hS dX1_hasEnded_20 (⟨_, rfl, by decide, hW⟩)
  · skip
    have i_2 : ¬ (y_1 6).toInt = 0 := by have h9 := pz_neq c_2; exact h9
    refine lv_aload_n hx hb dX1_hasEnded_7 rfl (lv_at hl 0 rfl) ?_
    refine C_gp (v := .int (y_1 6)) S hK hc_1 6 (by decide) rfl iw_367 rfl dX1_hasEnded_8 ?_
    refine lv_iconst (v := 1) hx hb dX1_hasEnded_11 (by decide) ?_
    refine lv_icmp_eq (tgt := 19) hx hb dX1_hasEnded_12 (by decide) (fun c_4 => ?_) (fun c_4 => ?_)
    · skip
      have i_4 : (y_1 6).toInt = 1 := by have h9 := pz_eq c_4; exact h9
      refine lv_iconst (v := 0) hx hb dX1_hasEnded_19 (by decide) ?_
      exact r_z (v := 0) hx hb hr rfl hlocks hS dX1_hasEnded_20 (⟨_, rfl, by decide, hW⟩)
    · skip
      have i_4 : ¬ (y_1 6).toInt = 1 := by have h9 := pz_neq c_4; exact h9
      refine lv_iconst (v := 1) hx hb dX1_hasEnded_15 (by decide) ?_
      refine lv_goto (tgt := 20) hx hb dX1_hasEnded_16 (by decide) ?_
      exact r_z (v := 1) hx hb hr rfl hlocks hS dX1_hasEnded_20 (⟨_, rfl, by decide, hW⟩)

abbrev B_q_X1_goesAheadOf (dC : Nat → ClassId) (dI : Nat → Nat → Nat) (z : Nat) (mi : Nat) (A : Nat → Prop) (bs : Nat) (cp : Nat) (h0 : Nat) (la : Nat → Nat) (sA : Nat → Nat) (cA : Nat → Nat) (ns : Nat) (nc : Nat) (dr : Nat → Prop) (X : Nat → Int32) (P : Nat → Prop) (tr : Nat → Int32) (nl : Nat) (nq : Nat) (rs : Nat) (k : Nat) (j : Nat) : Option Value → Heap → Prop := fun v H => ∃ r : Int32, v = some (.int r) ∧ Cw dC dI z A bs cp h0 la sA cA ns nc dr X P tr nl nq rs H
set_option maxHeartbeats 8000000 in
set_option maxRecDepth 20000 in
theorem q_X1_goesAheadOf (l : Launch) (dC : Nat → ClassId) (dI : Nat → Nat → Nat) (z : Nat) (mi : Nat) (A : Nat → Prop) (bs : Nat) (cp : Nat) (h0 : Nat) (la : Nat → Nat) (sA : Nat → Nat) (cA : Nat → Nat) (ns : Nat) (nc : Nat) (dr : Nat → Prop) (X : Nat → Int32) (P : Nat → Prop) (tr : Nat → Int32) (nl : Nat) (nq : Nat) (rs : Nat) (k : Nat) (j : Nat) (hk : k < nc) (hj : j < nc) : Met l yX1_goesAheadOf (cws yX1_goesAheadOf cX1_goesAheadOf 2 (some .boolean)) { frames := 0, cells := 0, slots := 0, locals := 0 } (va_Pc [.ref (cA k), .ref (cA j)] (fun U => KZ dC dI z mi A U ∧ Cw dC dI z A bs cp h0 la sA cA ns nc dr X P tr nl nq rs U.heap)) (Qg (B_q_X1_goesAheadOf dC dI z mi A bs cp h0 la sA cA ns nc dr X P tr nl nq rs k j) A) 0 0 A := by
  refine m_start (KK := KZ dC dI z mi A) (Pw := Cw dC dI z A bs cp h0 la sA cA ns nc dr X P tr nl nq rs) (by decide) (Nat.le_of_ble_eq_true rfl) ?_
  intro p e s m below meth c ls S hr hlocks hin hKZ hW hS hl
  obtain ⟨hx, hb, hml, hown, hts⟩ := id S
  have hK := hKZ.1
  obtain ⟨hns, hnc, hnl, ag, hag, hXg, hnq⟩ := id hW.2.2.2.2.2.2
  have hl : lv_has ls 2 [(0, .ref (cA k)), (1, .ref (cA j))] := hl
  refine lv_aload_n hx hb dX1_goesAheadOf_0 rfl (lv_at hl 0 rfl) ?_
  obtain ⟨-, y_1, p_1, q_1, hc_1, ⟨h0_1, h7_1⟩, hp_1, hq_1⟩ := hW.2.2.2.1 k (by omega)
  refine C_gp (v := .int (y_1 2)) S hK hc_1 2 (by decide) rfl iw_361 rfl dX1_goesAheadOf_1 ?_
  refine lv_aload_n hx hb dX1_goesAheadOf_4 rfl (lv_at hl 1 rfl) ?_
  obtain ⟨-, y_2, p_2, q_2, hc_2, ⟨h0_2, h7_2⟩, hp_2, hq_2⟩ := hW.2.2.2.1 j (by omega)
  refine C_gp (v := .int (y_2 2)) S hK hc_2 2 (by decide) rfl iw_361 rfl dX1_goesAheadOf_5 ?_
  refine lv_icmp_eq (tgt := 28) hx hb dX1_goesAheadOf_8 (by decide) (fun c_3 => ?_) (fun c_3 => ?_)
  · skip
    have i_3 : (y_1 2).toInt = (y_2 2).toInt := by have h9 := pz_eq c_3; exact h9
    refine lv_aload_n hx hb dX1_goesAheadOf_28 rfl (lv_at hl 0 rfl) ?_
    refine C_gp (v := .int (y_1 4)) S hK hc_1 4 (by decide) rfl iw_363 rfl dX1_goesAheadOf_29 ?_
    refine lv_aload_n hx hb dX1_goesAheadOf_32 rfl (lv_at hl 1 rfl) ?_
    refine C_gp (v := .int (y_2 4)) S hK hc_2 4 (by decide) rfl iw_363 rfl dX1_goesAheadOf_33 ?_
    refine lv_icmp_eq (tgt := 58) hx hb dX1_goesAheadOf_36 (by decide) (fun c_6 => ?_) (fun c_6 => ?_)
    · skip
      have i_6 : (y_1 4).toInt = (y_2 4).toInt := by have h9 := pz_eq c_6; exact h9
      refine lv_aload_n hx hb dX1_goesAheadOf_58 rfl (lv_at hl 0 rfl) ?_
      refine C_gp (v := .int (y_1 0)) S hK hc_1 0 (by decide) rfl iw_357 rfl dX1_goesAheadOf_59 ?_
      rw [h0_1]
      refine lv_aload_n hx hb dX1_goesAheadOf_62 rfl (lv_at hl 1 rfl) ?_
      refine C_gp (v := .int (y_2 0)) S hK hc_2 0 (by decide) rfl iw_357 rfl dX1_goesAheadOf_63 ?_
      rw [h0_2]
      refine lv_icmp_ge (tgt := 73) hx hb dX1_goesAheadOf_66 (by decide) (fun c_9 => ?_) (fun c_9 => ?_)
      · skip
        have i_9 : (nI k).toInt ≥ (nI j).toInt := by have h9 := pz_ge c_9; exact h9
        refine lv_iconst (v := 0) hx hb dX1_goesAheadOf_73 (by decide) ?_
        exact r_z (v := 0) hx hb hr rfl hlocks hS dX1_goesAheadOf_74 (⟨_, rfl, hW⟩)
      · skip
        have i_9 : (nI k).toInt < (nI j).toInt := by have h9 := pz_nge c_9; exact h9
        refine lv_iconst (v := 1) hx hb dX1_goesAheadOf_69 (by decide) ?_
        refine lv_goto (tgt := 74) hx hb dX1_goesAheadOf_70 (by decide) ?_
        exact r_z (v := 1) hx hb hr rfl hlocks hS dX1_goesAheadOf_74 (⟨_, rfl, hW⟩)
    · skip
      have i_6 : ¬ (y_1 4).toInt = (y_2 4).toInt := by have h9 := pz_neq c_6; exact h9
      refine lv_aload_n hx hb dX1_goesAheadOf_39 rfl (lv_at hl 0 rfl) ?_
      refine C_gp (v := .int (y_1 4)) S hK hc_1 4 (by decide) rfl iw_363 rfl dX1_goesAheadOf_40 ?_
      refine lv_aload_n hx hb dX1_goesAheadOf_43 rfl (lv_at hl 1 rfl) ?_
      refine C_gp (v := .int (y_2 4)) S hK hc_2 4 (by decide) rfl iw_363 rfl dX1_goesAheadOf_44 ?_
      refine lv_icmp_ge (tgt := 54) hx hb dX1_goesAheadOf_47 (by decide) (fun c_12 => ?_) (fun c_12 => ?_)
      · skip
        have i_12 : (y_1 4).toInt ≥ (y_2 4).toInt := by have h9 := pz_ge c_12; exact h9
        refine lv_iconst (v := 0) hx hb dX1_goesAheadOf_54 (by decide) ?_
        refine lv_goto (tgt := 74) hx hb dX1_goesAheadOf_55 (by decide) ?_
        exact r_z (v := 0) hx hb hr rfl hlocks hS dX1_goesAheadOf_74 (⟨_, rfl, hW⟩)
      · skip
        have i_12 : (y_1 4).toInt < (y_2 4).toInt := by have h9 := pz_nge c_12; exact h9
        refine lv_iconst (v := 1) hx hb dX1_goesAheadOf_50 (by decide) ?_
        refine lv_goto (tgt := 74) hx hb dX1_goesAheadOf_51 (by decide) ?_
        exact r_z (v := 1) hx hb hr rfl hlocks hS dX1_goesAheadOf_74 (⟨_, rfl, hW⟩)
  · skip
    have i_3 : ¬ (y_1 2).toInt = (y_2 2).toInt := by have h9 := pz_neq c_3; exact h9
    refine lv_aload_n hx hb dX1_goesAheadOf_11 rfl (lv_at hl 0 rfl) ?_
    refine C_gp (v := .int (y_1 2)) S hK hc_1 2 (by decide) rfl iw_361 rfl dX1_goesAheadOf_12 ?_
    refine lv_aload_n hx hb dX1_goesAheadOf_15 rfl (lv_at hl 1 rfl) ?_
    refine C_gp (v := .int (y_2 2)) S hK hc_2 2 (by decide) rfl iw_361 rfl dX1_goesAheadOf_16 ?_
    refine lv_icmp_le (tgt := 26) hx hb dX1_goesAheadOf_19 (by decide) (fun c_15 => ?_) (fun c_15 => ?_)
    · skip
      have i_15 : (y_1 2).toInt ≤ (y_2 2).toInt := by have h9 := pz_le c_15; exact h9
      refine lv_iconst (v := 0) hx hb dX1_goesAheadOf_26 (by decide) ?_
      exact r_z (v := 0) hx hb hr rfl hlocks hS dX1_goesAheadOf_27 (⟨_, rfl, hW⟩)
    · skip
      have i_15 : (y_1 2).toInt > (y_2 2).toInt := by have h9 := pz_nle c_15; exact h9
      refine lv_iconst (v := 1) hx hb dX1_goesAheadOf_22 (by decide) ?_
      refine lv_goto (tgt := 27) hx hb dX1_goesAheadOf_23 (by decide) ?_
      exact r_z (v := 1) hx hb hr rfl hlocks hS dX1_goesAheadOf_27 (⟨_, rfl, hW⟩)

abbrev B_q_X1_letGo (dC : Nat → ClassId) (dI : Nat → Nat → Nat) (z : Nat) (mi : Nat) (A : Nat → Prop) (bs : Nat) (cp : Nat) (h0 : Nat) (la : Nat → Nat) (sA : Nat → Nat) (cA : Nat → Nat) (ns : Nat) (nc : Nat) (dr : Nat → Prop) (X : Nat → Int32) (P : Nat → Prop) (tr : Nat → Int32) (nl : Nat) (nq : Nat) (rs : Nat) (k : Nat) (a : Nat) : Option Value → Heap → Prop := fun v H => v = none ∧ Cw dC dI z A bs cp h0 la sA cA ns nc dr X P tr nl nq rs H
set_option maxHeartbeats 8000000 in
set_option maxRecDepth 20000 in
theorem q_X1_letGo (l : Launch) (dC : Nat → ClassId) (dI : Nat → Nat → Nat) (z : Nat) (mi : Nat) (A : Nat → Prop) (bs : Nat) (cp : Nat) (h0 : Nat) (la : Nat → Nat) (sA : Nat → Nat) (cA : Nat → Nat) (ns : Nat) (nc : Nat) (dr : Nat → Prop) (X : Nat → Int32) (P : Nat → Prop) (tr : Nat → Int32) (nl : Nat) (nq : Nat) (rs : Nat) (k : Nat) (a : Nat) (hk : k < nc) (hPa : P a) : Met l yX1_letGo (cws yX1_letGo cX1_letGo 2 none) { frames := 0, cells := 0, slots := 0, locals := 0 } (va_Pc [.ref (cA k), .ref a] (fun U => KZ dC dI z mi A U ∧ Cw dC dI z A bs cp h0 la sA cA ns nc dr X P tr nl nq rs U.heap)) (Qg (B_q_X1_letGo dC dI z mi A bs cp h0 la sA cA ns nc dr X P tr nl nq rs k a) A) 0 0 A := by
  refine m_start (KK := KZ dC dI z mi A) (Pw := Cw dC dI z A bs cp h0 la sA cA ns nc dr X P tr nl nq rs) (by decide) (Nat.le_of_ble_eq_true rfl) ?_
  intro p e s m below meth c ls S hr hlocks hin hKZ hW hS hl
  obtain ⟨hx, hb, hml, hown, hts⟩ := id S
  have hK := hKZ.1
  obtain ⟨hns, hnc, hnl, ag, hag, hXg, hnq⟩ := id hW.2.2.2.2.2.2
  have hl : lv_has ls 2 [(0, .ref (cA k)), (1, .ref a)] := hl
  refine lv_aload_n hx hb dX1_letGo_0 rfl (lv_at hl 1 rfl) ?_
  refine A_get0 S hK hW hPa iw_455 rfl dX1_letGo_1 (fun k_1 hk_1 => ?_)
  refine lv_dup hx hb dX1_letGo_4 rfl ?_
  obtain ⟨-, x_2, hc_2, h0_2, hd_2⟩ := hW.2.2.1 k_1 (by omega)
  refine S_gp S hK hc_2 8 (by decide) (fun _ => rfl) iw_179 rfl dX1_letGo_5 ?_
  refine lv_iconst (v := 1) hx hb dX1_letGo_8 (by decide) ?_
  refine lv_isub hx hb dX1_letGo_9 ?_
  refine lv_topi (fun x_3 _ => ?_)
  refine S_put S hK hW hS (k := k_1) (by omega) 8 (by decide) (by decide) (by decide) (fun _ => rfl) iw_179 rfl rfl (by decide +kernel) rfl dX1_letGo_10 (fun H locs hW hS => ?_)
  refine lv_aload_n hx hb dX1_letGo_13 rfl (lv_at hl 1 rfl) ?_
  refine lv_aload_n hx hb dX1_letGo_14 rfl (lv_at hl 0 rfl) ?_
  obtain ⟨-, y_5, p_5, q_5, hc_5, ⟨h0_5, h7_5⟩, hp_5, hq_5⟩ := hW.2.2.2.1 k (by omega)
  refine C_gp (v := va_rf p_5) S hK hc_5 10 (by decide) rfl iw_375 rfl dX1_letGo_15 ?_
  rcases p_5 with _ | a_5
  · skip
    refine W.eq (g2 := F0 m 18 ls [.null, .ref a]) rfl ?_
    refine lv_acmp_ne (rx := (some a)) (ry := none) (tgt := 29) hx hb dX1_letGo_18 (by decide) (fun c_6 => ?_) (fun c_6 => ?_)
    · skip
      refine lv_aload_n hx hb dX1_letGo_29 rfl (lv_at hl 0 rfl) ?_
      refine lv_null hx hb dX1_letGo_30 ?_
      refine C_put11 (o := none) S hK hW hS (k := k) (by omega) iw_377 rfl dX1_letGo_31 (fun r9 h9 => by cases h9) (fun H locs hW hS => ?_)
      exact r_v hx hb hr hlocks hS dX1_letGo_34 (⟨rfl, hW⟩)
    · skip
      refine lv_aload_n hx hb dX1_letGo_21 rfl (lv_at hl 0 rfl) ?_
      refine lv_aload_n hx hb dX1_letGo_22 rfl (lv_at hl 0 rfl) ?_
      refine C_gp (v := va_rf q_5) S hK hc_5 11 (by decide) rfl iw_377 rfl dX1_letGo_23 ?_
      rcases q_5 with _ | a_8
      · skip
        refine W.eq (g2 := F0 m 26 ls [.null, .ref (cA k)]) rfl ?_
        refine C_put10 (o := none) S hK hW hS (k := k) (by omega) iw_375 rfl dX1_letGo_26 (fun r9 h9 => by cases h9) (fun H locs hW hS => ?_)
        refine lv_aload_n hx hb dX1_letGo_29 rfl (lv_at hl 0 rfl) ?_
        refine lv_null hx hb dX1_letGo_30 ?_
        refine C_put11 (o := none) S hK hW hS (k := k) (by omega) iw_377 rfl dX1_letGo_31 (fun r9 h9 => by cases h9) (fun H locs hW hS => ?_)
        exact r_v hx hb hr hlocks hS dX1_letGo_34 (⟨rfl, hW⟩)
      · skip
        have hP_8 : P a_8 := hq_5 _ rfl
        refine W.eq (g2 := F0 m 26 ls [.ref a_8, .ref (cA k)]) rfl ?_
        refine C_put10 (o := (some a_8)) S hK hW hS (k := k) (by omega) iw_375 rfl dX1_letGo_26 (fun r9 h9 => by cases h9; exact hP_8) (fun H locs hW hS => ?_)
        refine lv_aload_n hx hb dX1_letGo_29 rfl (lv_at hl 0 rfl) ?_
        refine lv_null hx hb dX1_letGo_30 ?_
        refine C_put11 (o := none) S hK hW hS (k := k) (by omega) iw_377 rfl dX1_letGo_31 (fun r9 h9 => by cases h9) (fun H locs hW hS => ?_)
        exact r_v hx hb hr hlocks hS dX1_letGo_34 (⟨rfl, hW⟩)
  · skip
    have hP_5 : P a_5 := hp_5 _ rfl
    refine W.eq (g2 := F0 m 18 ls [.ref a_5, .ref a]) rfl ?_
    refine lv_acmp_ne (rx := (some a)) (ry := (some a_5)) (tgt := 29) hx hb dX1_letGo_18 (by decide) (fun c_13 => ?_) (fun c_13 => ?_)
    · skip
      refine lv_aload_n hx hb dX1_letGo_29 rfl (lv_at hl 0 rfl) ?_
      refine lv_null hx hb dX1_letGo_30 ?_
      refine C_put11 (o := none) S hK hW hS (k := k) (by omega) iw_377 rfl dX1_letGo_31 (fun r9 h9 => by cases h9) (fun H locs hW hS => ?_)
      exact r_v hx hb hr hlocks hS dX1_letGo_34 (⟨rfl, hW⟩)
    · skip
      refine lv_aload_n hx hb dX1_letGo_21 rfl (lv_at hl 0 rfl) ?_
      refine lv_aload_n hx hb dX1_letGo_22 rfl (lv_at hl 0 rfl) ?_
      refine C_gp (v := va_rf q_5) S hK hc_5 11 (by decide) rfl iw_377 rfl dX1_letGo_23 ?_
      rcases q_5 with _ | a_15
      · skip
        refine W.eq (g2 := F0 m 26 ls [.null, .ref (cA k)]) rfl ?_
        refine C_put10 (o := none) S hK hW hS (k := k) (by omega) iw_375 rfl dX1_letGo_26 (fun r9 h9 => by cases h9) (fun H locs hW hS => ?_)
        refine lv_aload_n hx hb dX1_letGo_29 rfl (lv_at hl 0 rfl) ?_
        refine lv_null hx hb dX1_letGo_30 ?_
        refine C_put11 (o := none) S hK hW hS (k := k) (by omega) iw_377 rfl dX1_letGo_31 (fun r9 h9 => by cases h9) (fun H locs hW hS => ?_)
        exact r_v hx hb hr hlocks hS dX1_letGo_34 (⟨rfl, hW⟩)
      · skip
        have hP_15 : P a_15 := hq_5 _ rfl
        refine W.eq (g2 := F0 m 26 ls [.ref a_15, .ref (cA k)]) rfl ?_
        refine C_put10 (o := (some a_15)) S hK hW hS (k := k) (by omega) iw_375 rfl dX1_letGo_26 (fun r9 h9 => by cases h9; exact hP_15) (fun H locs hW hS => ?_)
        refine lv_aload_n hx hb dX1_letGo_29 rfl (lv_at hl 0 rfl) ?_
        refine lv_null hx hb dX1_letGo_30 ?_
        refine C_put11 (o := none) S hK hW hS (k := k) (by omega) iw_377 rfl dX1_letGo_31 (fun r9 h9 => by cases h9) (fun H locs hW hS => ?_)
        exact r_v hx hb hr hlocks hS dX1_letGo_34 (⟨rfl, hW⟩)

abbrev B_q_X1_callOffAll (dC : Nat → ClassId) (dI : Nat → Nat → Nat) (z : Nat) (mi : Nat) (A : Nat → Prop) (bs : Nat) (cp : Nat) (h0 : Nat) (la : Nat → Nat) (sA : Nat → Nat) (cA : Nat → Nat) (ns : Nat) (nc : Nat) (dr : Nat → Prop) (X : Nat → Int32) (P : Nat → Prop) (tr : Nat → Int32) (nl : Nat) (nq : Nat) (rs : Nat) (k : Nat) : Option Value → Heap → Prop := fun v H => v = none ∧ Cw dC dI z A bs cp h0 la sA cA ns nc dr X P tr nl nq rs H
set_option maxHeartbeats 8000000 in
set_option maxRecDepth 20000 in
theorem q_X1_callOffAll (l : Launch) (dC : Nat → ClassId) (dI : Nat → Nat → Nat) (z : Nat) (mi : Nat) (A : Nat → Prop) (bs : Nat) (cp : Nat) (h0 : Nat) (la : Nat → Nat) (sA : Nat → Nat) (cA : Nat → Nat) (ns : Nat) (nc : Nat) (dr : Nat → Prop) (X : Nat → Int32) (P : Nat → Prop) (tr : Nat → Int32) (nl : Nat) (nq : Nat) (rs : Nat) (k : Nat) (hk : k < nc) : Met l yX1_callOffAll (cws yX1_callOffAll cX1_callOffAll 1 none) { frames := 1, cells := 0, slots := 0, locals := 21 } (va_Pc [.ref (cA k)] (fun U => KZ dC dI z mi A U ∧ Cw dC dI z A bs cp h0 la sA cA ns nc dr X P tr nl nq rs U.heap)) (Qg (B_q_X1_callOffAll dC dI z mi A bs cp h0 la sA cA ns nc dr X P tr nl nq rs k) A) 0 0 A := by
  refine m_start (KK := KZ dC dI z mi A) (Pw := Cw dC dI z A bs cp h0 la sA cA ns nc dr X P tr nl nq rs) (by decide) (Nat.le_of_ble_eq_true rfl) ?_
  intro p e s m below meth c ls S hr hlocks hin hKZ hW hS hl
  obtain ⟨hx, hb, hml, hown, hts⟩ := id S
  have hK := hKZ.1
  obtain ⟨hns, hnc, hnl, ag, hag, hXg, hnq⟩ := id hW.2.2.2.2.2.2
  have hl : lv_has ls 1 [(0, .ref (cA k))] := hl
  refine lv_aload_n hx hb dX1_callOffAll_0 rfl (lv_at hl 0 rfl) ?_
  obtain ⟨-, y_1, p_1, q_1, hc_1, ⟨h0_1, h7_1⟩, hp_1, hq_1⟩ := hW.2.2.2.1 k (by omega)
  refine C_gp (v := va_rf q_1) S hK hc_1 11 (by decide) rfl iw_377 rfl dX1_callOffAll_1 ?_
  rcases q_1 with _ | a_1
  · skip
    refine W.eq (g2 := F0 m 4 ls [.null]) rfl ?_
    refine lv_ifnullN (tgt := 15) hx hb dX1_callOffAll_4 (by decide) ?_
    refine lv_aload_n hx hb dX1_callOffAll_15 rfl (lv_at hl 0 rfl) ?_
    refine C_gp (v := va_rf p_1) S hK hc_1 10 (by decide) rfl iw_375 rfl dX1_callOffAll_16 ?_
    rcases p_1 with _ | a_2
    · skip
      refine W.eq (g2 := F0 m 19 ls [.null]) rfl ?_
      refine lv_ifnullN (tgt := 30) hx hb dX1_callOffAll_19 (by decide) ?_
      exact r_v hx hb hr hlocks hS dX1_callOffAll_30 (⟨rfl, hW⟩)
    · skip
      have hP_2 : P a_2 := hp_1 _ rfl
      refine W.eq (g2 := F0 m 19 ls [.ref a_2]) rfl ?_
      refine lv_ifnull hx hb dX1_callOffAll_19 ?_
      refine lv_aload_n hx hb dX1_callOffAll_22 rfl (lv_at hl 0 rfl) ?_
      refine lv_aload_n hx hb dX1_callOffAll_23 rfl (lv_at hl 0 rfl) ?_
      refine C_gp (v := .ref a_2) S hK hc_1 10 (by decide) rfl iw_375 rfl dX1_callOffAll_24 ?_
      refine c_v (Pw := Cw dC dI z A bs cp h0 la sA cA ns nc dr X P tr nl nq rs) (n := 1) (As := [.ref a_2]) (rest := []) S (q_X1_letGo l dC dI z mi A bs cp h0 la sA cA ns nc dr X P tr nl nq rs k a_2 (by omega) hP_2) iw_524 iw_521 iw_522 iw_523 iw_69 (by decide +kernel) rfl ⟨rfl, rfl, Nat.le_of_ble_eq_true rfl, Nat.le_of_ble_eq_true rfl⟩ KZ.blind (C_recv hK hW (by omega)) (hKZ.at hS (fun _ h9 => h9)) hW hl.1 rfl (Nat.le_of_ble_eq_true rfl) dX1_callOffAll_27 ⟨Nat.le_refl _, Nat.le_refl _⟩ hS (fun _ h9 => h9) (fun v9 H locs hB hz9 hk9 hS => ?_)
      refine W.widen (k := 0) (n := 0) (Nat.le_refl 0) (Nat.le_refl 0) ?_
      obtain ⟨rfl, hW⟩ := hB
      refine W.eq (g2 := F0 m 30 ls []) rfl ?_
      exact r_v hx hb hr hlocks hS dX1_callOffAll_30 (⟨rfl, hW⟩)
  · skip
    have hP_1 : P a_1 := hq_1 _ rfl
    refine W.eq (g2 := F0 m 4 ls [.ref a_1]) rfl ?_
    refine lv_ifnull hx hb dX1_callOffAll_4 ?_
    refine lv_aload_n hx hb dX1_callOffAll_7 rfl (lv_at hl 0 rfl) ?_
    refine lv_aload_n hx hb dX1_callOffAll_8 rfl (lv_at hl 0 rfl) ?_
    refine C_gp (v := .ref a_1) S hK hc_1 11 (by decide) rfl iw_377 rfl dX1_callOffAll_9 ?_
    refine c_v (Pw := Cw dC dI z A bs cp h0 la sA cA ns nc dr X P tr nl nq rs) (n := 1) (As := [.ref a_1]) (rest := []) S (q_X1_letGo l dC dI z mi A bs cp h0 la sA cA ns nc dr X P tr nl nq rs k a_1 (by omega) hP_1) iw_524 iw_521 iw_522 iw_523 iw_69 (by decide +kernel) rfl ⟨rfl, rfl, Nat.le_of_ble_eq_true rfl, Nat.le_of_ble_eq_true rfl⟩ KZ.blind (C_recv hK hW (by omega)) (hKZ.at hS (fun _ h9 => h9)) hW hl.1 rfl (Nat.le_of_ble_eq_true rfl) dX1_callOffAll_12 ⟨Nat.le_refl _, Nat.le_refl _⟩ hS (fun _ h9 => h9) (fun v9 H locs hB hz9 hk9 hS => ?_)
    refine W.widen (k := 0) (n := 0) (Nat.le_refl 0) (Nat.le_refl 0) ?_
    obtain ⟨rfl, hW⟩ := hB
    refine W.eq (g2 := F0 m 15 ls []) rfl ?_
    refine lv_aload_n hx hb dX1_callOffAll_15 rfl (lv_at hl 0 rfl) ?_
    obtain ⟨-, y_5, p_5, q_5, hc_5, ⟨h0_5, h7_5⟩, hp_5, hq_5⟩ := hW.2.2.2.1 k (by omega)
    refine C_gp (v := va_rf p_5) S hK hc_5 10 (by decide) rfl iw_375 rfl dX1_callOffAll_16 ?_
    rcases p_5 with _ | a_5
    · skip
      refine W.eq (g2 := F0 m 19 ls [.null]) rfl ?_
      refine lv_ifnullN (tgt := 30) hx hb dX1_callOffAll_19 (by decide) ?_
      exact r_v hx hb hr hlocks hS dX1_callOffAll_30 (⟨rfl, hW⟩)
    · skip
      have hP_5 : P a_5 := hp_5 _ rfl
      refine W.eq (g2 := F0 m 19 ls [.ref a_5]) rfl ?_
      refine lv_ifnull hx hb dX1_callOffAll_19 ?_
      refine lv_aload_n hx hb dX1_callOffAll_22 rfl (lv_at hl 0 rfl) ?_
      refine lv_aload_n hx hb dX1_callOffAll_23 rfl (lv_at hl 0 rfl) ?_
      refine C_gp (v := .ref a_5) S hK hc_5 10 (by decide) rfl iw_375 rfl dX1_callOffAll_24 ?_
      refine c_v (Pw := Cw dC dI z A bs cp h0 la sA cA ns nc dr X P tr nl nq rs) (n := 1) (As := [.ref a_5]) (rest := []) S (q_X1_letGo l dC dI z mi A bs cp h0 la sA cA ns nc dr X P tr nl nq rs k a_5 (by omega) hP_5) iw_524 iw_521 iw_522 iw_523 iw_69 (by decide +kernel) rfl ⟨rfl, rfl, Nat.le_of_ble_eq_true rfl, Nat.le_of_ble_eq_true rfl⟩ KZ.blind (C_recv hK hW (by omega)) (hKZ.at hS (fun _ h9 => h9)) hW hl.1 rfl (Nat.le_of_ble_eq_true rfl) dX1_callOffAll_27 ⟨Nat.le_refl _, Nat.le_refl _⟩ hS (fun _ h9 => h9) (fun v9 H locs hB hz9 hk9 hS => ?_)
      refine W.widen (k := 0) (n := 0) (Nat.le_refl 0) (Nat.le_refl 0) ?_
      obtain ⟨rfl, hW⟩ := hB
      refine W.eq (g2 := F0 m 30 ls []) rfl ?_
      exact r_v hx hb hr hlocks hS dX1_callOffAll_30 (⟨rfl, hW⟩)

abbrev B_q_X1_tell (dC : Nat → ClassId) (dI : Nat → Nat → Nat) (z : Nat) (mi : Nat) (A : Nat → Prop) (bs : Nat) (cp : Nat) (h0 : Nat) (la : Nat → Nat) (sA : Nat → Nat) (cA : Nat → Nat) (ns : Nat) (nc : Nat) (dr : Nat → Prop) (X : Nat → Int32) (P : Nat → Prop) (tr : Nat → Int32) (nl : Nat) (nq : Nat) (rs : Nat) (k : Nat) (a1 : Int32) : Option Value → Heap → Prop := fun v H => ∃ r : Int32, v = some (.int r) ∧ Cw dC dI z A bs cp h0 la sA cA ns nc dr X P tr nl nq rs H
set_option maxHeartbeats 8000000 in
set_option maxRecDepth 20000 in
theorem q_X1_tell (l : Launch) (dC : Nat → ClassId) (dI : Nat → Nat → Nat) (z : Nat) (mi : Nat) (A : Nat → Prop) (bs : Nat) (cp : Nat) (h0 : Nat) (la : Nat → Nat) (sA : Nat → Nat) (cA : Nat → Nat) (ns : Nat) (nc : Nat) (dr : Nat → Prop) (X : Nat → Int32) (P : Nat → Prop) (tr : Nat → Int32) (nl : Nat) (nq : Nat) (rs : Nat) (k : Nat) (a1 : Int32) (hk : k < nc) : Met l yX1_tell (cws yX1_tell cX1_tell 2 (some .int)) { frames := 0, cells := 0, slots := 0, locals := 0 } (va_Pc [.ref (cA k), .int a1] (fun U => KZ dC dI z mi A U ∧ Cw dC dI z A bs cp h0 la sA cA ns nc dr X P tr nl nq rs U.heap)) (Qg (B_q_X1_tell dC dI z mi A bs cp h0 la sA cA ns nc dr X P tr nl nq rs k a1) A) 0 0 A := by
  refine m_start (KK := KZ dC dI z mi A) (Pw := Cw dC dI z A bs cp h0 la sA cA ns nc dr X P tr nl nq rs) (by decide) (Nat.le_of_ble_eq_true rfl) ?_
  intro p e s m below meth c ls S hr hlocks hin hKZ hW hS hl
  obtain ⟨hx, hb, hml, hown, hts⟩ := id S
  have hK := hKZ.1
  obtain ⟨hns, hnc, hnl, ag, hag, hXg, hnq⟩ := id hW.2.2.2.2.2.2
  have hl : lv_has ls 2 [(0, .ref (cA k)), (1, .int a1)] := hl
  refine lv_iload_n hx hb dX1_tell_0 rfl (lv_at hl 1 rfl) ?_
  by_cases t_1 : a1.toInt < 0 ∨ 9 < a1.toInt
  · skip
    refine lv_tableOut (tgt := 171) hx hb dX1_tell_1 t_1 (by decide) ?_
    refine lv_aload_n hx hb dX1_tell_171 rfl (lv_at hl 0 rfl) ?_
    obtain ⟨-, y_2, p_2, q_2, hc_2, ⟨h0_2, h7_2⟩, hp_2, hq_2⟩ := hW.2.2.2.1 k (by omega)
    refine C_gp (v := .int (y_2 8)) S hK hc_2 8 (by decide) rfl iw_371 rfl dX1_tell_172 ?_
    exact r_i (v := (y_2 8)) hx hb hr hlocks hS dX1_tell_175 (⟨_, rfl, hW⟩)
  · skip
    obtain ⟨j_1, hj_1, ej_1⟩ := pz_of (x := a1) (n := 10) (by omega) (by omega)
    have oj_1 : j_1 = 0 ∨ j_1 = 1 ∨ j_1 = 2 ∨ j_1 = 3 ∨ j_1 = 4 ∨ j_1 = 5 ∨ j_1 = 6 ∨ j_1 = 7 ∨ j_1 = 8 ∨ j_1 = 9 := by omega
    rcases oj_1 with h9 | h9 | h9 | h9 | h9 | h9 | h9 | h9 | h9 | h9
    · skip
      have e9 : a1 = 0 := by rw [ej_1, h9]; rfl
      subst e9
      refine lv_tableIn (off := 55) (tgt := 56) hx hb dX1_tell_1 (by decide) (by decide) (by decide) (by decide) ?_
      refine lv_aload_n hx hb dX1_tell_56 rfl (lv_at hl 0 rfl) ?_
      obtain ⟨-, y_3, p_3, q_3, hc_3, ⟨h0_3, h7_3⟩, hp_3, hq_3⟩ := hW.2.2.2.1 k (by omega)
      refine C_gp (v := .int (y_3 6)) S hK hc_3 6 (by decide) rfl iw_367 rfl dX1_tell_57 ?_
      exact r_i (v := (y_3 6)) hx hb hr hlocks hS dX1_tell_60 (⟨_, rfl, hW⟩)
    · skip
      have e9 : a1 = 1 := by rw [ej_1, h9]; rfl
      subst e9
      refine lv_tableIn (off := 60) (tgt := 61) hx hb dX1_tell_1 (by decide) (by decide) (by decide) (by decide) ?_
      refine lv_aload_n hx hb dX1_tell_61 rfl (lv_at hl 0 rfl) ?_
      obtain ⟨-, y_4, p_4, q_4, hc_4, ⟨h0_4, h7_4⟩, hp_4, hq_4⟩ := hW.2.2.2.1 k (by omega)
      refine C_gp (v := .int (y_4 1)) S hK hc_4 1 (by decide) rfl iw_359 rfl dX1_tell_62 ?_
      exact r_i (v := (y_4 1)) hx hb hr hlocks hS dX1_tell_65 (⟨_, rfl, hW⟩)
    · skip
      have e9 : a1 = 2 := by rw [ej_1, h9]; rfl
      subst e9
      refine lv_tableIn (off := 65) (tgt := 66) hx hb dX1_tell_1 (by decide) (by decide) (by decide) (by decide) ?_
      refine lv_aload_n hx hb dX1_tell_66 rfl (lv_at hl 0 rfl) ?_
      obtain ⟨-, y_5, p_5, q_5, hc_5, ⟨h0_5, h7_5⟩, hp_5, hq_5⟩ := hW.2.2.2.1 k (by omega)
      refine C_gp (v := .int (y_5 2)) S hK hc_5 2 (by decide) rfl iw_361 rfl dX1_tell_67 ?_
      exact r_i (v := (y_5 2)) hx hb hr hlocks hS dX1_tell_70 (⟨_, rfl, hW⟩)
    · skip
      have e9 : a1 = 3 := by rw [ej_1, h9]; rfl
      subst e9
      refine lv_tableIn (off := 70) (tgt := 71) hx hb dX1_tell_1 (by decide) (by decide) (by decide) (by decide) ?_
      refine lv_aload_n hx hb dX1_tell_71 rfl (lv_at hl 0 rfl) ?_
      obtain ⟨-, y_6, p_6, q_6, hc_6, ⟨h0_6, h7_6⟩, hp_6, hq_6⟩ := hW.2.2.2.1 k (by omega)
      refine C_gp (v := .int (y_6 4)) S hK hc_6 4 (by decide) rfl iw_363 rfl dX1_tell_72 ?_
      exact r_i (v := (y_6 4)) hx hb hr hlocks hS dX1_tell_75 (⟨_, rfl, hW⟩)
    · skip
      have e9 : a1 = 4 := by rw [ej_1, h9]; rfl
      subst e9
      refine lv_tableIn (off := 75) (tgt := 76) hx hb dX1_tell_1 (by decide) (by decide) (by decide) (by decide) ?_
      refine lv_aload_n hx hb dX1_tell_76 rfl (lv_at hl 0 rfl) ?_
      obtain ⟨-, y_7, p_7, q_7, hc_7, ⟨h0_7, h7_7⟩, hp_7, hq_7⟩ := hW.2.2.2.1 k (by omega)
      refine C_gp (v := .int (y_7 5)) S hK hc_7 5 (by decide) rfl iw_365 rfl dX1_tell_77 ?_
      refine lv_if_eq (tgt := 87) hx hb dX1_tell_80 (by decide) (fun c_8 => ?_) (fun c_8 => ?_)
      · skip
        have i_8 : (y_7 5).toInt = 0 := by have h9 := pz_eq c_8; exact h9
        refine lv_iconst (v := 0) hx hb dX1_tell_87 (by decide) ?_
        exact r_i (v := 0) hx hb hr hlocks hS dX1_tell_88 (⟨_, rfl, hW⟩)
      · skip
        have i_8 : ¬ (y_7 5).toInt = 0 := by have h9 := pz_neq c_8; exact h9
        refine lv_iconst (v := 1) hx hb dX1_tell_83 (by decide) ?_
        refine lv_goto (tgt := 88) hx hb dX1_tell_84 (by decide) ?_
        exact r_i (v := 1) hx hb hr hlocks hS dX1_tell_88 (⟨_, rfl, hW⟩)
    · skip
      have e9 : a1 = 5 := by rw [ej_1, h9]; rfl
      subst e9
      refine lv_tableIn (off := 88) (tgt := 89) hx hb dX1_tell_1 (by decide) (by decide) (by decide) (by decide) ?_
      refine lv_aload_n hx hb dX1_tell_89 rfl (lv_at hl 0 rfl) ?_
      obtain ⟨-, y_9, p_9, q_9, hc_9, ⟨h0_9, h7_9⟩, hp_9, hq_9⟩ := hW.2.2.2.1 k (by omega)
      refine C_gp (v := va_rf p_9) S hK hc_9 10 (by decide) rfl iw_375 rfl dX1_tell_90 ?_
      rcases p_9 with _ | a_9
      · skip
        refine W.eq (g2 := F0 m 93 ls [.null]) rfl ?_
        refine lv_ifnonnullN hx hb dX1_tell_93 ?_
        refine lv_iconst (v := 0) hx hb dX1_tell_96 (by decide) ?_
        refine lv_goto (tgt := 112) hx hb dX1_tell_97 (by decide) ?_
        exact r_i (v := 0) hx hb hr hlocks hS dX1_tell_112 (⟨_, rfl, hW⟩)
      · skip
        have hP_9 : P a_9 := hp_9 _ rfl
        refine W.eq (g2 := F0 m 93 ls [.ref a_9]) rfl ?_
        refine lv_ifnonnull (tgt := 100) hx hb dX1_tell_93 (by decide) ?_
        refine lv_aload_n hx hb dX1_tell_100 rfl (lv_at hl 0 rfl) ?_
        refine C_gp (v := va_rf q_9) S hK hc_9 11 (by decide) rfl iw_377 rfl dX1_tell_101 ?_
        rcases q_9 with _ | a_10
        · skip
          refine W.eq (g2 := F0 m 104 ls [.null]) rfl ?_
          refine lv_ifnonnullN hx hb dX1_tell_104 ?_
          refine lv_iconst (v := 1) hx hb dX1_tell_107 (by decide) ?_
          refine lv_goto (tgt := 112) hx hb dX1_tell_108 (by decide) ?_
          exact r_i (v := 1) hx hb hr hlocks hS dX1_tell_112 (⟨_, rfl, hW⟩)
        · skip
          have hP_10 : P a_10 := hq_9 _ rfl
          refine W.eq (g2 := F0 m 104 ls [.ref a_10]) rfl ?_
          refine lv_ifnonnull (tgt := 111) hx hb dX1_tell_104 (by decide) ?_
          refine lv_iconst (v := 2) hx hb dX1_tell_111 (by decide) ?_
          exact r_i (v := 2) hx hb hr hlocks hS dX1_tell_112 (⟨_, rfl, hW⟩)
    · skip
      have e9 : a1 = 6 := by rw [ej_1, h9]; rfl
      subst e9
      refine lv_tableIn (off := 112) (tgt := 113) hx hb dX1_tell_1 (by decide) (by decide) (by decide) (by decide) ?_
      refine lv_aload_n hx hb dX1_tell_113 rfl (lv_at hl 0 rfl) ?_
      obtain ⟨-, y_11, p_11, q_11, hc_11, ⟨h0_11, h7_11⟩, hp_11, hq_11⟩ := hW.2.2.2.1 k (by omega)
      refine C_gp (v := va_rf p_11) S hK hc_11 10 (by decide) rfl iw_375 rfl dX1_tell_114 ?_
      rcases p_11 with _ | a_11
      · skip
        refine W.eq (g2 := F0 m 117 ls [.null]) rfl ?_
        refine lv_ifnonnullN hx hb dX1_tell_117 ?_
        refine lv_aload_n hx hb dX1_tell_120 rfl (lv_at hl 0 rfl) ?_
        refine C_gp (v := .int (y_11 9)) S hK hc_11 9 (by decide) rfl iw_373 rfl dX1_tell_121 ?_
        refine lv_goto (tgt := 137) hx hb dX1_tell_124 (by decide) ?_
        exact r_i (v := (y_11 9)) hx hb hr hlocks hS dX1_tell_137 (⟨_, rfl, hW⟩)
      · skip
        have hP_11 : P a_11 := hp_11 _ rfl
        refine W.eq (g2 := F0 m 117 ls [.ref a_11]) rfl ?_
        refine lv_ifnonnull (tgt := 127) hx hb dX1_tell_117 (by decide) ?_
        refine lv_aload_n hx hb dX1_tell_127 rfl (lv_at hl 0 rfl) ?_
        refine C_gp (v := .ref a_11) S hK hc_11 10 (by decide) rfl iw_375 rfl dX1_tell_128 ?_
        refine A_get0 S hK hW hP_11 iw_455 rfl dX1_tell_131 (fun k_14 hk_14 => ?_)
        obtain ⟨-, x_15, hc_15, h0_15, hd_15⟩ := hW.2.2.1 k_14 (by omega)
        refine S_gp S hK hc_15 0 (by decide) (fun _ => rfl) iw_166 rfl dX1_tell_134 ?_
        rw [h0_15]
        exact r_i (v := (nI k_14)) hx hb hr hlocks hS dX1_tell_137 (⟨_, rfl, hW⟩)
    · skip
      have e9 : a1 = 7 := by rw [ej_1, h9]; rfl
      subst e9
      refine lv_tableIn (off := 137) (tgt := 138) hx hb dX1_tell_1 (by decide) (by decide) (by decide) (by decide) ?_
      refine lv_aload_n hx hb dX1_tell_138 rfl (lv_at hl 0 rfl) ?_
      obtain ⟨-, y_16, p_16, q_16, hc_16, ⟨h0_16, h7_16⟩, hp_16, hq_16⟩ := hW.2.2.2.1 k (by omega)
      refine C_gp (v := va_rf q_16) S hK hc_16 11 (by decide) rfl iw_377 rfl dX1_tell_139 ?_
      rcases q_16 with _ | a_16
      · skip
        refine W.eq (g2 := F0 m 142 ls [.null]) rfl ?_
        refine lv_ifnonnullN hx hb dX1_tell_142 ?_
        refine lv_bipush (v := (-9)) hx hb dX1_tell_145 (by decide) ?_
        refine lv_goto (tgt := 160) hx hb dX1_tell_147 (by decide) ?_
        exact r_i (v := (-9)) hx hb hr hlocks hS dX1_tell_160 (⟨_, rfl, hW⟩)
      · skip
        have hP_16 : P a_16 := hq_16 _ rfl
        refine W.eq (g2 := F0 m 142 ls [.ref a_16]) rfl ?_
        refine lv_ifnonnull (tgt := 150) hx hb dX1_tell_142 (by decide) ?_
        refine lv_aload_n hx hb dX1_tell_150 rfl (lv_at hl 0 rfl) ?_
        refine C_gp (v := .ref a_16) S hK hc_16 11 (by decide) rfl iw_377 rfl dX1_tell_151 ?_
        refine A_get0 S hK hW hP_16 iw_455 rfl dX1_tell_154 (fun k_18 hk_18 => ?_)
        obtain ⟨-, x_19, hc_19, h0_19, hd_19⟩ := hW.2.2.1 k_18 (by omega)
        refine S_gp S hK hc_19 0 (by decide) (fun _ => rfl) iw_166 rfl dX1_tell_157 ?_
        rw [h0_19]
        exact r_i (v := (nI k_18)) hx hb hr hlocks hS dX1_tell_160 (⟨_, rfl, hW⟩)
    · skip
      have e9 : a1 = 8 := by rw [ej_1, h9]; rfl
      subst e9
      refine lv_tableIn (off := 160) (tgt := 161) hx hb dX1_tell_1 (by decide) (by decide) (by decide) (by decide) ?_
      refine lv_aload_n hx hb dX1_tell_161 rfl (lv_at hl 0 rfl) ?_
      obtain ⟨-, y_20, p_20, q_20, hc_20, ⟨h0_20, h7_20⟩, hp_20, hq_20⟩ := hW.2.2.2.1 k (by omega)
      refine C_gp (v := .int (y_20 7)) S hK hc_20 7 (by decide) rfl iw_369 rfl dX1_tell_162 ?_
      rw [h7_20]
      exact r_i (v := (tr k)) hx hb hr hlocks hS dX1_tell_165 (⟨_, rfl, hW⟩)
    · skip
      have e9 : a1 = 9 := by rw [ej_1, h9]; rfl
      subst e9
      refine lv_tableIn (off := 165) (tgt := 166) hx hb dX1_tell_1 (by decide) (by decide) (by decide) (by decide) ?_
      refine lv_aload_n hx hb dX1_tell_166 rfl (lv_at hl 0 rfl) ?_
      obtain ⟨-, y_21, p_21, q_21, hc_21, ⟨h0_21, h7_21⟩, hp_21, hq_21⟩ := hW.2.2.2.1 k (by omega)
      refine C_gp (v := .int (y_21 3)) S hK hc_21 3 (by decide) rfl iw_362 rfl dX1_tell_167 ?_
      exact r_i (v := (y_21 3)) hx hb hr hlocks hS dX1_tell_170 (⟨_, rfl, hW⟩)
