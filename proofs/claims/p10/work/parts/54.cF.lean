abbrev B_q_X3_call (dC : Nat → ClassId) (dI : Nat → Nat → Nat) (z : Nat) (mi : Nat) (A : Nat → Prop) (bs : Nat) (cp : Nat) (h0 : Nat) (la : Nat → Nat) (sA : Nat → Nat) (cA : Nat → Nat) (ns : Nat) (nc : Nat) (dr : Nat → Prop) (X : Nat → Int32) (P : Nat → Prop) (tr : Nat → Int32) (nl : Nat) (nq : Nat) (rs : Nat) (sz : Nat) (a1 : Int32) (a2 : Int32) (a3 : Int32) (a4 : Int32) : Option Value → Heap → Prop := fun v H => ∃ (r : Int32) (cA1 : Nat → Nat) (nc1 : Nat) (P1 : Nat → Prop) (tr1 : Nat → Int32) (nl1 : Nat) (nq1 : Nat) (rs1 : Nat), v = some (.int r) ∧ ((badC nc a1 a2 a3 = some r ∧ nc1 = nc) ∨ (badC nc a1 a2 a3 = none ∧ r = nI nc ∧ nc1 = nc + 1)) ∧ smc tr1 nc1 + (200 - agn X) + (2 * (8 - ns) + 12 * (200 - nc1)) ≤ rs1 ∧ Cw dC dI z A bs cp h0 la sA cA1 ns nc1 dr X P1 tr1 nl1 nq1 rs1 H
set_option maxHeartbeats 8000000 in
set_option maxRecDepth 20000 in
theorem q_X3_call (l : Launch) (dC : Nat → ClassId) (dI : Nat → Nat → Nat) (z : Nat) (mi : Nat) (A : Nat → Prop) (bs : Nat) (cp : Nat) (h0 : Nat) (la : Nat → Nat) (sA : Nat → Nat) (cA : Nat → Nat) (ns : Nat) (nc : Nat) (dr : Nat → Prop) (X : Nat → Int32) (P : Nat → Prop) (tr : Nat → Int32) (nl : Nat) (nq : Nat) (rs : Nat) (sz : Nat) (a1 : Int32) (a2 : Int32) (a3 : Int32) (a4 : Int32) (hbs : bs ≤ sz) (hsf : a4 = 0 ∨ a4 = 1) (hnd : smc tr nc + (200 - agn X) + (2 * (8 - ns) + 12 * (200 - nc)) ≤ rs) : Met l yX3_call (cws yX3_call cX3_call 6 (some .int)) { frames := 8, cells := (cp - sz), slots := (610 * (cp - sz)), locals := 222 } (va_Pc [.ref h0, .int a1, .int a2, .int a3, .int a4] (fun U => KZ dC dI z mi A U ∧ (fun H => H.size = sz ∧ Cw dC dI z A bs cp h0 la sA cA ns nc dr X P tr nl nq rs H) U.heap)) (Qg (B_q_X3_call dC dI z mi A bs cp h0 la sA cA ns nc dr X P tr nl nq rs sz a1 a2 a3 a4) A) (cp - sz) (610 * (cp - sz)) A := by
  refine m_start (KK := KZ dC dI z mi A) (Pw := (fun H => H.size = sz ∧ Cw dC dI z A bs cp h0 la sA cA ns nc dr X P tr nl nq rs H)) (by decide) (Nat.le_of_ble_eq_true rfl) ?_
  intro p e s m below meth c ls S hr hlocks hin hKZ hW hS hl
  obtain ⟨hx, hb, hml, hown, hts⟩ := id S
  obtain ⟨hsz, hW⟩ := hW
  have hK := hKZ.1
  obtain ⟨hns, hnc, hnl, ag, hag, hXg, hnq⟩ := id hW.2.2.2.2.2.2
  have hagn : agn X = ag := agn_of hXg hag
  have hl : lv_has ls 6 [(0, .ref h0), (1, .int a1), (2, .int a2), (3, .int a3), (4, .int a4)] := hl
  refine W.to hsz hbs hS hW ?_
  refine lv_iload_n hx hb dX3_call_0 rfl (lv_at hl 1 rfl) ?_
  refine lv_if_lt (tgt := 13) hx hb dX3_call_1 (by decide) (fun c_1 => ?_) (fun c_1 => ?_)
  · skip
    have i_1 : a1.toInt < 0 := by have h9 := pz_lt c_1; exact h9
    refine lv_aload_n hx hb dX3_call_13 rfl (lv_at hl 0 rfl) ?_
    refine lv_bipush (v := (-4)) hx hb dX3_call_14 (by decide) ?_
    refine c_v (Pw := Cw dC dI z A bs cp h0 la sA cA ns nc dr X P tr nl nq rs) (n := 1) (As := [.int (-4)]) (rest := []) S (q_X3_refuse l dC dI z mi A bs cp h0 la sA cA ns nc dr X P tr nl nq rs (-4)) iw_153 iw_150 iw_152 iw_0 iw_57 (by decide +kernel) rfl ⟨rfl, rfl, Nat.le_of_ble_eq_true rfl, Nat.le_of_ble_eq_true rfl⟩ KZ.blind (D_recv hK hW) (hKZ.at hS (fun _ h9 => h9)) hW hl.1 rfl (Nat.le_of_ble_eq_true rfl) dX3_call_16 ⟨Nat.le_refl _, Nat.le_refl _⟩ hS (fun _ h9 => h9) (fun v9 H locs hB hz9 hk9 hS => ?_)
    refine W.widen (k := cp - sz) (n := 610 * (cp - sz)) (Nat.le_refl _) (Nat.le_refl _) ?_
    obtain ⟨_, rfl, rfl, hW⟩ := hB
    refine W.eq (g2 := F0 m 19 ls [.int (-4)]) rfl ?_
    exact r_i (v := (-4)) hx hb hr hlocks hS dX3_call_19 (⟨_, cA, nc, P, tr, nl, nq, rs, rfl, Or.inl ⟨by unfold badC; (repeat' split) <;> first | rfl | (exfalso; omega), rfl⟩, by omega, hW⟩)
  · skip
    have i_1 : a1.toInt ≥ 0 := by have h9 := pz_nlt c_1; exact h9
    refine lv_iload_n hx hb dX3_call_4 rfl (lv_at hl 2 rfl) ?_
    refine lv_if_lt (tgt := 13) hx hb dX3_call_5 (by decide) (fun c_2 => ?_) (fun c_2 => ?_)
    · skip
      have i_2 : a2.toInt < 0 := by have h9 := pz_lt c_2; exact h9
      refine lv_aload_n hx hb dX3_call_13 rfl (lv_at hl 0 rfl) ?_
      refine lv_bipush (v := (-4)) hx hb dX3_call_14 (by decide) ?_
      refine c_v (Pw := Cw dC dI z A bs cp h0 la sA cA ns nc dr X P tr nl nq rs) (n := 1) (As := [.int (-4)]) (rest := []) S (q_X3_refuse l dC dI z mi A bs cp h0 la sA cA ns nc dr X P tr nl nq rs (-4)) iw_153 iw_150 iw_152 iw_0 iw_57 (by decide +kernel) rfl ⟨rfl, rfl, Nat.le_of_ble_eq_true rfl, Nat.le_of_ble_eq_true rfl⟩ KZ.blind (D_recv hK hW) (hKZ.at hS (fun _ h9 => h9)) hW hl.1 rfl (Nat.le_of_ble_eq_true rfl) dX3_call_16 ⟨Nat.le_refl _, Nat.le_refl _⟩ hS (fun _ h9 => h9) (fun v9 H locs hB hz9 hk9 hS => ?_)
      refine W.widen (k := cp - sz) (n := 610 * (cp - sz)) (Nat.le_refl _) (Nat.le_refl _) ?_
      obtain ⟨_, rfl, rfl, hW⟩ := hB
      refine W.eq (g2 := F0 m 19 ls [.int (-4)]) rfl ?_
      exact r_i (v := (-4)) hx hb hr hlocks hS dX3_call_19 (⟨_, cA, nc, P, tr, nl, nq, rs, rfl, Or.inl ⟨by unfold badC; (repeat' split) <;> first | rfl | (exfalso; omega), rfl⟩, by omega, hW⟩)
    · skip
      have i_2 : a2.toInt ≥ 0 := by have h9 := pz_nlt c_2; exact h9
      refine lv_iload_n hx hb dX3_call_8 rfl (lv_at hl 3 rfl) ?_
      refine lv_iconst (v := 1) hx hb dX3_call_9 (by decide) ?_
      refine lv_icmp_ge (tgt := 20) hx hb dX3_call_10 (by decide) (fun c_3 => ?_) (fun c_3 => ?_)
      · skip
        have i_3 : a3.toInt ≥ 1 := by have h9 := pz_ge c_3; exact h9
        refine lv_iload_n hx hb dX3_call_20 rfl (lv_at hl 1 rfl) ?_
        refine lv_ldc hx hb hown (hts _ iw_350) dX3_call_21 ?_
        refine lv_icmp_gt (tgt := 51) hx hb dX3_call_23 (by decide) (fun c_4 => ?_) (fun c_4 => ?_)
        · skip
          have i_4 : a1.toInt > 65535 := by have h9 := pz_gt c_4; exact h9
          refine lv_aload_n hx hb dX3_call_51 rfl (lv_at hl 0 rfl) ?_
          refine lv_bipush (v := (-6)) hx hb dX3_call_52 (by decide) ?_
          refine c_v (Pw := Cw dC dI z A bs cp h0 la sA cA ns nc dr X P tr nl nq rs) (n := 1) (As := [.int (-6)]) (rest := []) S (q_X3_refuse l dC dI z mi A bs cp h0 la sA cA ns nc dr X P tr nl nq rs (-6)) iw_153 iw_150 iw_152 iw_0 iw_57 (by decide +kernel) rfl ⟨rfl, rfl, Nat.le_of_ble_eq_true rfl, Nat.le_of_ble_eq_true rfl⟩ KZ.blind (D_recv hK hW) (hKZ.at hS (fun _ h9 => h9)) hW hl.1 rfl (Nat.le_of_ble_eq_true rfl) dX3_call_54 ⟨Nat.le_refl _, Nat.le_refl _⟩ hS (fun _ h9 => h9) (fun v9 H locs hB hz9 hk9 hS => ?_)
          refine W.widen (k := cp - sz) (n := 610 * (cp - sz)) (Nat.le_refl _) (Nat.le_refl _) ?_
          obtain ⟨_, rfl, rfl, hW⟩ := hB
          refine W.eq (g2 := F0 m 57 ls [.int (-6)]) rfl ?_
          exact r_i (v := (-6)) hx hb hr hlocks hS dX3_call_57 (⟨_, cA, nc, P, tr, nl, nq, rs, rfl, Or.inl ⟨by unfold badC; (repeat' split) <;> first | rfl | (exfalso; omega), rfl⟩, by omega, hW⟩)
        · skip
          have i_4 : a1.toInt ≤ 65535 := by have h9 := pz_ngt c_4; exact h9
          refine lv_iload_n hx hb dX3_call_26 rfl (lv_at hl 2 rfl) ?_
          refine lv_iconst (v := 3) hx hb dX3_call_27 (by decide) ?_
          refine lv_icmp_gt (tgt := 51) hx hb dX3_call_28 (by decide) (fun c_5 => ?_) (fun c_5 => ?_)
          · skip
            have i_5 : a2.toInt > 3 := by have h9 := pz_gt c_5; exact h9
            refine lv_aload_n hx hb dX3_call_51 rfl (lv_at hl 0 rfl) ?_
            refine lv_bipush (v := (-6)) hx hb dX3_call_52 (by decide) ?_
            refine c_v (Pw := Cw dC dI z A bs cp h0 la sA cA ns nc dr X P tr nl nq rs) (n := 1) (As := [.int (-6)]) (rest := []) S (q_X3_refuse l dC dI z mi A bs cp h0 la sA cA ns nc dr X P tr nl nq rs (-6)) iw_153 iw_150 iw_152 iw_0 iw_57 (by decide +kernel) rfl ⟨rfl, rfl, Nat.le_of_ble_eq_true rfl, Nat.le_of_ble_eq_true rfl⟩ KZ.blind (D_recv hK hW) (hKZ.at hS (fun _ h9 => h9)) hW hl.1 rfl (Nat.le_of_ble_eq_true rfl) dX3_call_54 ⟨Nat.le_refl _, Nat.le_refl _⟩ hS (fun _ h9 => h9) (fun v9 H locs hB hz9 hk9 hS => ?_)
            refine W.widen (k := cp - sz) (n := 610 * (cp - sz)) (Nat.le_refl _) (Nat.le_refl _) ?_
            obtain ⟨_, rfl, rfl, hW⟩ := hB
            refine W.eq (g2 := F0 m 57 ls [.int (-6)]) rfl ?_
            exact r_i (v := (-6)) hx hb hr hlocks hS dX3_call_57 (⟨_, cA, nc, P, tr, nl, nq, rs, rfl, Or.inl ⟨by unfold badC; (repeat' split) <;> first | rfl | (exfalso; omega), rfl⟩, by omega, hW⟩)
          · skip
            have i_5 : a2.toInt ≤ 3 := by have h9 := pz_ngt c_5; exact h9
            refine lv_iload_n hx hb dX3_call_31 rfl (lv_at hl 3 rfl) ?_
            refine lv_sipush (v := 2000) hx hb dX3_call_32 (by decide) ?_
            refine lv_icmp_gt (tgt := 51) hx hb dX3_call_35 (by decide) (fun c_6 => ?_) (fun c_6 => ?_)
            · skip
              have i_6 : a3.toInt > 2000 := by have h9 := pz_gt c_6; exact h9
              refine lv_aload_n hx hb dX3_call_51 rfl (lv_at hl 0 rfl) ?_
              refine lv_bipush (v := (-6)) hx hb dX3_call_52 (by decide) ?_
              refine c_v (Pw := Cw dC dI z A bs cp h0 la sA cA ns nc dr X P tr nl nq rs) (n := 1) (As := [.int (-6)]) (rest := []) S (q_X3_refuse l dC dI z mi A bs cp h0 la sA cA ns nc dr X P tr nl nq rs (-6)) iw_153 iw_150 iw_152 iw_0 iw_57 (by decide +kernel) rfl ⟨rfl, rfl, Nat.le_of_ble_eq_true rfl, Nat.le_of_ble_eq_true rfl⟩ KZ.blind (D_recv hK hW) (hKZ.at hS (fun _ h9 => h9)) hW hl.1 rfl (Nat.le_of_ble_eq_true rfl) dX3_call_54 ⟨Nat.le_refl _, Nat.le_refl _⟩ hS (fun _ h9 => h9) (fun v9 H locs hB hz9 hk9 hS => ?_)
              refine W.widen (k := cp - sz) (n := 610 * (cp - sz)) (Nat.le_refl _) (Nat.le_refl _) ?_
              obtain ⟨_, rfl, rfl, hW⟩ := hB
              refine W.eq (g2 := F0 m 57 ls [.int (-6)]) rfl ?_
              exact r_i (v := (-6)) hx hb hr hlocks hS dX3_call_57 (⟨_, cA, nc, P, tr, nl, nq, rs, rfl, Or.inl ⟨by unfold badC; (repeat' split) <;> first | rfl | (exfalso; omega), rfl⟩, by omega, hW⟩)
            · skip
              have i_6 : a3.toInt ≤ 2000 := by have h9 := pz_ngt c_6; exact h9
              refine lv_aload_n hx hb dX3_call_38 rfl (lv_at hl 0 rfl) ?_
              refine D_getl S hK hW 1 (by decide) (fun _ => rfl) iw_106 rfl dX3_call_39 ?_
              refine L_size (rest := []) S hKZ hW hS (i := 1) (by decide) hl.1 (Nat.le_of_ble_eq_true rfl) dX3_call_42 ⟨Nat.le_of_ble_eq_true rfl, Nat.le_of_ble_eq_true rfl⟩ ⟨Nat.le_refl _, Nat.le_refl _⟩ (fun H locs hW hS => ?_)
              refine W.eq (g2 := F0 m 45 ls [.int (nI nc)]) rfl ?_
              obtain ⟨hns, hnc, hnl, ag_8, hag_8, -, hnq⟩ := id hW.2.2.2.2.2.2
              have en_9 : (nI nc).toInt = ((nc : Nat) : Int) := pz_ti (by omega)
              refine lv_sipush (v := 200) hx hb dX3_call_45 (by decide) ?_
              refine lv_icmp_lt (tgt := 58) hx hb dX3_call_48 (by decide) (fun c_10 => ?_) (fun c_10 => ?_)
              · skip
                have i_10 : (nI nc).toInt < 200 := by have h9 := pz_lt c_10; exact h9
                obtain ⟨q_11, eq_11⟩ : ∃ q : Nat, q = H.size := ⟨_, rfl⟩
                refine W.ti hsz hbs hS hW ?_
                refine x_new (own := RX3) (C := RX1) (T := TX1) (N := 12) (ci := 2) (fs := [.int 0, .int 0, .int 0, .int 0, .int 0, .int 0, .int 0, .int 0, .int 0, .int 0, .null, .null]) hx hb hts inX1 tyX1 tyX1_ok hown (hts _ iw_351) (hts _ iw_352) (hts _ iw_69) hK hS rfl (by intro j9 hj9; match j9, hj9 with | 0, _ => rfl | 1, _ => rfl | 2, _ => rfl | 3, _ => rfl | 4, _ => rfl | 5, _ => rfl | 6, _ => rfl | 7, _ => rfl | 8, _ => rfl | 9, _ => rfl | 10, _ => rfl | 11, _ => rfl) (hW.rone hsz hS (by omega)).1 (Nat.le_trans (Nat.add_le_add_left (by decide) _) (hW.rone hsz hS (by omega)).2) dX3_call_58 (fun Hn hon hzn hfn hcn hS => ?_)
                have hSn := hW.2.2.2.2.2.1.1.fresh hzn hfn hcn (by decide)
                have hcp := hW.2.2.2.2.2.1.2.1
                refine W.to9 (cp := cp) hsz hbs hS hSn (by omega) ?_
                have hW0 := hW
                have hW : Cw dC dI z A bs cp h0 la sA cA ns nc dr X P tr nl nq (rs - 1) Hn := hW0.kp (Kp.fresh hfn) ⟨hSn, by omega, fun y9 h9 => hW0.2.2.2.2.2.1.2.2 y9 (by omega)⟩
                refine W.eq (g2 := F0 m 61 ls [.ref q_11]) (by rw [eq_11]) ?_
                rw [← eq_11] at hon
                refine lv_dup hx hb dX3_call_61 rfl ?_
                refine lv_aload_n hx hb dX3_call_62 rfl (lv_at hl 0 rfl) ?_
                refine D_getl S hK hW 1 (by decide) (fun _ => rfl) iw_106 rfl dX3_call_63 ?_
                refine L_sizeX (rest := [.ref q_11, .ref q_11]) S hKZ hW hS (i := 1) (by decide) hl.1 (Nat.le_of_ble_eq_true rfl) dX3_call_66 ⟨Nat.le_of_ble_eq_true rfl, Nat.le_of_ble_eq_true rfl⟩ ⟨Nat.le_refl _, Nat.le_refl _⟩ (fun locs hS => ?_)
                refine W.eq (g2 := F0 m 69 ls [.int (nI nc), .ref q_11, .ref q_11]) rfl ?_
                refine lv_iload_n hx hb dX3_call_69 rfl (lv_at hl 1 rfl) ?_
                refine lv_iload_n hx hb dX3_call_70 rfl (lv_at hl 2 rfl) ?_
                refine lv_aload_n hx hb dX3_call_71 rfl (lv_at hl 0 rfl) ?_
                refine D_get S hK hW 5 (by decide) (fun _ => rfl) iw_110 rfl dX3_call_72 (fun x_13 hx_13 => ?_)
                refine lv_aload_n hx hb dX3_call_75 rfl (lv_at hl 0 rfl) ?_
                refine D_get S hK hW 5 (by decide) (fun _ => rfl) iw_110 rfl dX3_call_76 (fun x_14 hx_14 => ?_)
                refine lv_iload_n hx hb dX3_call_79 rfl (lv_at hl 3 rfl) ?_
                refine lv_iadd hx hb dX3_call_80 ?_
                refine lv_topi (fun x_15 _ => ?_)
                refine lv_iload hx hb dX3_call_81 (lv_at hl 4 rfl) ?_
                refine c_i (Pw := (fun H => H.size = Hn.size ∧ va_P (dC, dI) vwCl [(q_11, .inr (2, [.int 0, .int 0, .int 0, .int 0, .int 0, .int 0, .int 0, .int 0, .int 0, .int 0, .null, .null]))] H ∧ Sz bs H)) (n := 6) (As := [.int (nI nc), .int a1, .int a2, .int x_13, .int x_15, .int a4]) (rest := [.ref q_11]) S (q_X1_init l dC dI q_11 Hn.size bs (nI nc) a1 a2 x_13 x_15 a4 hsf) iw_355 iw_353 iw_354 iw_69 rfl (by decide +kernel) rfl ⟨rfl, rfl, Nat.le_of_ble_eq_true rfl, Nat.le_of_ble_eq_true rfl⟩ Kt.blind (fun U _ h9 => va_K.moved h9.alike hK) ⟨rfl, va_P1 hon, hSn⟩ hl.1 rfl (Nat.le_of_ble_eq_true rfl) dX3_call_83 ⟨Nat.le_refl _, Nat.le_refl _⟩ hS (fun y9 h9 => hW0.2.2.2.2.2.1.2.2 y9 (by omega)) (fun v9 H locs hB hz9 hk9 hS => ?_)
                obtain ⟨rfl, hP9, hSz9, hle9⟩ := hB
                obtain ⟨Y, eY⟩ : ∃ f : Nat → Int32, f = (fun i => ([(nI nc), a1, a2, x_13, x_15, a4, 0, 0, (-9), (-9)] : List Int32).getD i 0) := ⟨_, rfl⟩
                have hoq : oat dC dI q_11 2 (eC Y none none) H := by rw [eY]; exact hP9 0 _ rfl
                have hY0 : Y 0 = nI nc := by rw [eY]; rfl
                clear eY
                have hAq : A q_11 := hW0.2.2.2.2.2.1.2.2 q_11 (by omega)
                have hW : Cw dC dI z A bs cp h0 la sA cA ns nc dr X P tr nl nq (rs - 1) H := hW0.kp (Kp.fresh (fun y9 h9 => (hk9 y9 (by omega) (by omega)).trans (hfn y9 h9))) ⟨hSz9, by omega, fun y9 h9 => hW0.2.2.2.2.2.1.2.2 y9 (by omega)⟩
                refine W.to hsz hbs hS hW ?_
                refine W.eq (g2 := F0 m 86 ls [.ref q_11]) rfl ?_
                refine lv_astore (lv' := [(5, .ref q_11), (0, .ref h0), (1, .int a1), (2, .int a2), (3, .int a3), (4, .int a4)]) hx hb dX3_call_86 hl (by decide) rfl (fun ls hl => ?_)
                refine lv_aload_n hx hb dX3_call_88 rfl (lv_at hl 1 rfl) ?_
                refine D_getl S hK hW 1 (by decide) (fun _ => rfl) iw_106 rfl dX3_call_89 ?_
                refine lv_aload hx hb dX3_call_92 (lv_at hl 0 rfl) ?_
                refine W.ti hsz hbs hS hW ?_
                refine L_add1 (rest := []) (y := Y) S hKZ hW hS (by omega) hAq hoq hY0 (by omega) hl.1 (Nat.le_of_ble_eq_true rfl) dX3_call_94 ⟨Nat.le_of_ble_eq_true rfl, Nat.le_of_ble_eq_true rfl⟩ (hW.rone hsz hS (by omega)) (fun H locs hW hS => ?_)
                refine W.to hsz hbs hS hW ?_
                obtain ⟨cA, hfA⟩ : ∃ f : Nat → Nat, f = va_up cA nc q_11 := ⟨_, rfl⟩
                rw [← hfA] at hW
                have hfq : cA nc = q_11 := by rw [hfA]; exact vu_s
                clear hfA
                subst hfq
                have hsn : smc (va_up tr nc (Y 7)) (nc + 1) ≤ smc tr nc + 8 := smc_new (fun i9 h9 => vu_n h9)
                refine W.eq (g2 := F0 m 97 ls [.int 1]) rfl ?_
                refine lv_pop hx hb dX3_call_97 rfl ?_
                refine lv_aload_n hx hb dX3_call_98 rfl (lv_at hl 1 rfl) ?_
                refine D_getl S hK hW 2 (by decide) (fun _ => rfl) iw_107 rfl dX3_call_99 ?_
                refine lv_aload hx hb dX3_call_102 (lv_at hl 0 rfl) ?_
                refine W.ti hsz hbs hS hW ?_
                refine L_add2 (rest := []) S hKZ hW hS (k := nc) (by omega) (by omega) (by omega) hl.1 (Nat.le_of_ble_eq_true rfl) dX3_call_104 ⟨Nat.le_of_ble_eq_true rfl, Nat.le_of_ble_eq_true rfl⟩ (hW.rone hsz hS (by omega)) (fun H locs hW hS => ?_)
                refine W.to hsz hbs hS hW ?_
                refine W.eq (g2 := F0 m 107 ls [.int 1]) rfl ?_
                refine lv_pop hx hb dX3_call_107 rfl ?_
                refine lv_aload_n hx hb dX3_call_108 rfl (lv_at hl 1 rfl) ?_
                refine lv_aload hx hb dX3_call_109 (lv_at hl 0 rfl) ?_
                refine W.ti hsz hbs hS hW ?_
                refine c_v (Pw := fun H9 => H9.size = H.size ∧ Cw dC dI z A bs cp h0 la sA cA ns (nc + 1) dr X P (va_up tr nc (Y 7)) (nl + 1) nq (((rs - 1) - 1) - 1) H9) (n := 1) (As := [.ref (cA nc)]) (rest := []) S (q_X3_askByRule l dC dI z mi A bs cp h0 la sA cA ns (nc + 1) dr X P (va_up tr nc (Y 7)) (nl + 1) nq (((rs - 1) - 1) - 1) H.size nc (2 * (8 - ns) + 12 * (200 - (nc + 1)) + 1) (by have h9 := hS.1; omega) (by omega) (by omega)) iw_407 iw_404 iw_406 iw_5 iw_57 (by decide +kernel) rfl ⟨rfl, rfl, Nat.le_of_ble_eq_true rfl, Nat.le_of_ble_eq_true rfl⟩ KZ.blind (D_recv hK hW) (hKZ.at hS (fun _ h9 => h9)) ⟨rfl, hW⟩ hl.1 rfl (Nat.le_of_ble_eq_true rfl) dX3_call_111 (hW.rok hsz hS) hS (fun _ h9 => h9) (fun v9 H locs hB hz9 hk9 hS => ?_)
                obtain ⟨r_18, P_18, tr_18, rs_18, rfl, hN_18, hW⟩ := hB
                refine W.to hsz hbs hS hW ?_
                refine W.eq (g2 := F0 m 114 ls [.int r_18]) rfl ?_
                refine lv_if_ne (tgt := 123) hx hb dX3_call_114 (by decide) (fun c_19 => ?_) (fun c_19 => ?_)
                · skip
                  have i_19 : ¬ r_18.toInt = 0 := by have h9 := pz_neq c_19; exact h9
                  refine lv_aload hx hb dX3_call_123 (lv_at hl 0 rfl) ?_
                  obtain ⟨-, y_20, p_20, q_20, hc_20, ⟨h0_20, h7_20⟩, hp_20, hq_20⟩ := hW.2.2.2.1 nc (by omega)
                  refine C_gp (v := .int (y_20 0)) S hK hc_20 0 (by decide) rfl iw_358 rfl dX3_call_125 ?_
                  rw [h0_20]
                  exact r_i (v := (nI nc)) hx hb hr hlocks hS dX3_call_128 (⟨_, cA, (nc + 1), P_18, tr_18, (nl + 1), nq, rs_18, rfl, Or.inr ⟨by unfold badC; (repeat' split) <;> first | rfl | (exfalso; omega), rfl, rfl⟩, by omega, hW⟩)
                · skip
                  have i_19 : r_18.toInt = 0 := by have h9 := pz_eq c_19; exact h9
                  refine lv_aload_n hx hb dX3_call_117 rfl (lv_at hl 1 rfl) ?_
                  refine lv_aload hx hb dX3_call_118 (lv_at hl 0 rfl) ?_
                  refine W.ti hsz hbs hS hW ?_
                  refine c_v (Pw := fun H9 => H9.size = H.size ∧ Cw dC dI z A bs cp h0 la sA cA ns (nc + 1) dr X P_18 tr_18 (nl + 1) nq rs_18 H9) (n := 1) (As := [.ref (cA nc)]) (rest := []) S (q_X3_joinLine l dC dI z mi A bs cp h0 la sA cA ns (nc + 1) dr X P_18 tr_18 (nl + 1) nq rs_18 H.size nc (by have h9 := hS.1; omega) (by omega) ⟨ag, hag, hXg, by omega⟩ (by omega)) iw_479 iw_476 iw_478 iw_11 iw_57 (by decide +kernel) rfl ⟨rfl, rfl, Nat.le_of_ble_eq_true rfl, Nat.le_of_ble_eq_true rfl⟩ KZ.blind (D_recv hK hW) (hKZ.at hS (fun _ h9 => h9)) ⟨rfl, hW⟩ hl.1 rfl (Nat.le_of_ble_eq_true rfl) dX3_call_120 (hW.rok hsz hS) hS (fun _ h9 => h9) (fun v9 H locs hB hz9 hk9 hS => ?_)
                  obtain ⟨rfl, hW⟩ := hB
                  refine W.to hsz hbs hS hW ?_
                  refine W.eq (g2 := F0 m 123 ls []) rfl ?_
                  refine lv_aload hx hb dX3_call_123 (lv_at hl 0 rfl) ?_
                  obtain ⟨-, y_21, p_21, q_21, hc_21, ⟨h0_21, h7_21⟩, hp_21, hq_21⟩ := hW.2.2.2.1 nc (by omega)
                  refine C_gp (v := .int (y_21 0)) S hK hc_21 0 (by decide) rfl iw_358 rfl dX3_call_125 ?_
                  rw [h0_21]
                  exact r_i (v := (nI nc)) hx hb hr hlocks hS dX3_call_128 (⟨_, cA, (nc + 1), P_18, tr_18, (nl + 1), (nq + 1), (rs_18 - 1), rfl, Or.inr ⟨by unfold badC; (repeat' split) <;> first | rfl | (exfalso; omega), rfl, rfl⟩, by omega, hW⟩)
              · skip
                have i_10 : (nI nc).toInt ≥ 200 := by have h9 := pz_nlt c_10; exact h9
                refine lv_aload_n hx hb dX3_call_51 rfl (lv_at hl 0 rfl) ?_
                refine lv_bipush (v := (-6)) hx hb dX3_call_52 (by decide) ?_
                refine c_v (Pw := Cw dC dI z A bs cp h0 la sA cA ns nc dr X P tr nl nq rs) (n := 1) (As := [.int (-6)]) (rest := []) S (q_X3_refuse l dC dI z mi A bs cp h0 la sA cA ns nc dr X P tr nl nq rs (-6)) iw_153 iw_150 iw_152 iw_0 iw_57 (by decide +kernel) rfl ⟨rfl, rfl, Nat.le_of_ble_eq_true rfl, Nat.le_of_ble_eq_true rfl⟩ KZ.blind (D_recv hK hW) (hKZ.at hS (fun _ h9 => h9)) hW hl.1 rfl (Nat.le_of_ble_eq_true rfl) dX3_call_54 ⟨Nat.le_refl _, Nat.le_refl _⟩ hS (fun _ h9 => h9) (fun v9 H locs hB hz9 hk9 hS => ?_)
                refine W.widen (k := cp - sz) (n := 610 * (cp - sz)) (Nat.le_refl _) (Nat.le_refl _) ?_
                obtain ⟨_, rfl, rfl, hW⟩ := hB
                refine W.eq (g2 := F0 m 57 ls [.int (-6)]) rfl ?_
                exact r_i (v := (-6)) hx hb hr hlocks hS dX3_call_57 (⟨_, cA, nc, P, tr, nl, nq, rs, rfl, Or.inl ⟨by unfold badC; (repeat' split) <;> first | rfl | (exfalso; omega), rfl⟩, by omega, hW⟩)
      · skip
        have i_3 : a3.toInt < 1 := by have h9 := pz_nge c_3; exact h9
        refine lv_aload_n hx hb dX3_call_13 rfl (lv_at hl 0 rfl) ?_
        refine lv_bipush (v := (-4)) hx hb dX3_call_14 (by decide) ?_
        refine c_v (Pw := Cw dC dI z A bs cp h0 la sA cA ns nc dr X P tr nl nq rs) (n := 1) (As := [.int (-4)]) (rest := []) S (q_X3_refuse l dC dI z mi A bs cp h0 la sA cA ns nc dr X P tr nl nq rs (-4)) iw_153 iw_150 iw_152 iw_0 iw_57 (by decide +kernel) rfl ⟨rfl, rfl, Nat.le_of_ble_eq_true rfl, Nat.le_of_ble_eq_true rfl⟩ KZ.blind (D_recv hK hW) (hKZ.at hS (fun _ h9 => h9)) hW hl.1 rfl (Nat.le_of_ble_eq_true rfl) dX3_call_16 ⟨Nat.le_refl _, Nat.le_refl _⟩ hS (fun _ h9 => h9) (fun v9 H locs hB hz9 hk9 hS => ?_)
        refine W.widen (k := cp - sz) (n := 610 * (cp - sz)) (Nat.le_refl _) (Nat.le_refl _) ?_
        obtain ⟨_, rfl, rfl, hW⟩ := hB
        refine W.eq (g2 := F0 m 19 ls [.int (-4)]) rfl ?_
        exact r_i (v := (-4)) hx hb hr hlocks hS dX3_call_19 (⟨_, cA, nc, P, tr, nl, nq, rs, rfl, Or.inl ⟨by unfold badC; (repeat' split) <;> first | rfl | (exfalso; omega), rfl⟩, by omega, hW⟩)

abbrev B_q_X3_server (dC : Nat → ClassId) (dI : Nat → Nat → Nat) (z : Nat) (mi : Nat) (A : Nat → Prop) (bs : Nat) (cp : Nat) (h0 : Nat) (la : Nat → Nat) (sA : Nat → Nat) (cA : Nat → Nat) (ns : Nat) (nc : Nat) (dr : Nat → Prop) (X : Nat → Int32) (P : Nat → Prop) (tr : Nat → Int32) (nl : Nat) (nq : Nat) (rs : Nat) (sz : Nat) (a1 : Int32) (a2 : Int32) (a3 : Int32) (a4 : Int32) (a5 : Int32) : Option Value → Heap → Prop := fun v H => ∃ (r : Int32) (sA1 : Nat → Nat) (ns1 rs1 : Nat), v = some (.int r) ∧ ((badS ns a1 a2 a3 a4 a5 = some r ∧ ns1 = ns) ∨ (badS ns a1 a2 a3 a4 a5 = none ∧ r = nI ns ∧ ns1 = ns + 1)) ∧ smc tr nc + (200 - agn X) + (2 * (8 - ns1) + 12 * (200 - nc)) ≤ rs1 ∧ Cw dC dI z A bs cp h0 la sA1 cA ns1 nc dr X P tr nl nq rs1 H
set_option maxHeartbeats 8000000 in
set_option maxRecDepth 20000 in
theorem q_X3_server (l : Launch) (dC : Nat → ClassId) (dI : Nat → Nat → Nat) (z : Nat) (mi : Nat) (A : Nat → Prop) (bs : Nat) (cp : Nat) (h0 : Nat) (la : Nat → Nat) (sA : Nat → Nat) (cA : Nat → Nat) (ns : Nat) (nc : Nat) (dr : Nat → Prop) (X : Nat → Int32) (P : Nat → Prop) (tr : Nat → Int32) (nl : Nat) (nq : Nat) (rs : Nat) (sz : Nat) (a1 : Int32) (a2 : Int32) (a3 : Int32) (a4 : Int32) (a5 : Int32) (hbs : bs ≤ sz) (hnd9 : ¬ dr ns) (hnd : smc tr nc + (200 - agn X) + (2 * (8 - ns) + 12 * (200 - nc)) ≤ rs) : Met l yX3_server (cws yX3_server cX3_server 7 (some .int)) { frames := 7, cells := (cp - sz), slots := (610 * (cp - sz)), locals := 200 } (va_Pc [.ref h0, .int a1, .int a2, .int a3, .int a4, .int a5] (fun U => KZ dC dI z mi A U ∧ (fun H => H.size = sz ∧ Cw dC dI z A bs cp h0 la sA cA ns nc dr X P tr nl nq rs H) U.heap)) (Qg (B_q_X3_server dC dI z mi A bs cp h0 la sA cA ns nc dr X P tr nl nq rs sz a1 a2 a3 a4 a5) A) (cp - sz) (610 * (cp - sz)) A := by
  refine m_start (KK := KZ dC dI z mi A) (Pw := (fun H => H.size = sz ∧ Cw dC dI z A bs cp h0 la sA cA ns nc dr X P tr nl nq rs H)) (by decide) (Nat.le_of_ble_eq_true rfl) ?_
  intro p e s m below meth c ls S hr hlocks hin hKZ hW hS hl
  obtain ⟨hx, hb, hml, hown, hts⟩ := id S
  obtain ⟨hsz, hW⟩ := hW
  have hK := hKZ.1
  obtain ⟨hns, hnc, hnl, ag, hag, hXg, hnq⟩ := id hW.2.2.2.2.2.2
  have hagn : agn X = ag := agn_of hXg hag
  have hl : lv_has ls 7 [(0, .ref h0), (1, .int a1), (2, .int a2), (3, .int a3), (4, .int a4), (5, .int a5)] := hl
  refine W.to hsz hbs hS hW ?_
  refine lv_iload_n hx hb dX3_server_0 rfl (lv_at hl 2 rfl) ?_
  refine lv_if_lt (tgt := 9) hx hb dX3_server_1 (by decide) (fun c_1 => ?_) (fun c_1 => ?_)
  · skip
    have i_1 : a2.toInt < 0 := by have h9 := pz_lt c_1; exact h9
    refine lv_aload_n hx hb dX3_server_9 rfl (lv_at hl 0 rfl) ?_
    refine lv_iconst (v := (-1)) hx hb dX3_server_10 (by decide) ?_
    refine c_v (Pw := Cw dC dI z A bs cp h0 la sA cA ns nc dr X P tr nl nq rs) (n := 1) (As := [.int (-1)]) (rest := []) S (q_X3_refuse l dC dI z mi A bs cp h0 la sA cA ns nc dr X P tr nl nq rs (-1)) iw_153 iw_150 iw_152 iw_0 iw_57 (by decide +kernel) rfl ⟨rfl, rfl, Nat.le_of_ble_eq_true rfl, Nat.le_of_ble_eq_true rfl⟩ KZ.blind (D_recv hK hW) (hKZ.at hS (fun _ h9 => h9)) hW hl.1 rfl (Nat.le_of_ble_eq_true rfl) dX3_server_11 ⟨Nat.le_refl _, Nat.le_refl _⟩ hS (fun _ h9 => h9) (fun v9 H locs hB hz9 hk9 hS => ?_)
    refine W.widen (k := cp - sz) (n := 610 * (cp - sz)) (Nat.le_refl _) (Nat.le_refl _) ?_
    obtain ⟨_, rfl, rfl, hW⟩ := hB
    refine W.eq (g2 := F0 m 14 ls [.int (-1)]) rfl ?_
    exact r_i (v := (-1)) hx hb hr hlocks hS dX3_server_14 (⟨_, sA, ns, rs, rfl, Or.inl ⟨by unfold badS; (repeat' split) <;> first | rfl | (exfalso; omega), rfl⟩, by omega, hW⟩)
  · skip
    have i_1 : a2.toInt ≥ 0 := by have h9 := pz_nlt c_1; exact h9
    refine lv_iload_n hx hb dX3_server_4 rfl (lv_at hl 2 rfl) ?_
    refine lv_iconst (v := 4) hx hb dX3_server_5 (by decide) ?_
    refine lv_icmp_lt (tgt := 15) hx hb dX3_server_6 (by decide) (fun c_2 => ?_) (fun c_2 => ?_)
    · skip
      have i_2 : a2.toInt < 4 := by have h9 := pz_lt c_2; exact h9
      refine lv_iload_n hx hb dX3_server_15 rfl (lv_at hl 1 rfl) ?_
      refine lv_iconst (v := 1) hx hb dX3_server_16 (by decide) ?_
      refine lv_icmp_lt (tgt := 36) hx hb dX3_server_17 (by decide) (fun c_3 => ?_) (fun c_3 => ?_)
      · skip
        have i_3 : a1.toInt < 1 := by have h9 := pz_lt c_3; exact h9
        refine lv_aload_n hx hb dX3_server_36 rfl (lv_at hl 0 rfl) ?_
        refine lv_bipush (v := (-4)) hx hb dX3_server_37 (by decide) ?_
        refine c_v (Pw := Cw dC dI z A bs cp h0 la sA cA ns nc dr X P tr nl nq rs) (n := 1) (As := [.int (-4)]) (rest := []) S (q_X3_refuse l dC dI z mi A bs cp h0 la sA cA ns nc dr X P tr nl nq rs (-4)) iw_153 iw_150 iw_152 iw_0 iw_57 (by decide +kernel) rfl ⟨rfl, rfl, Nat.le_of_ble_eq_true rfl, Nat.le_of_ble_eq_true rfl⟩ KZ.blind (D_recv hK hW) (hKZ.at hS (fun _ h9 => h9)) hW hl.1 rfl (Nat.le_of_ble_eq_true rfl) dX3_server_39 ⟨Nat.le_refl _, Nat.le_refl _⟩ hS (fun _ h9 => h9) (fun v9 H locs hB hz9 hk9 hS => ?_)
        refine W.widen (k := cp - sz) (n := 610 * (cp - sz)) (Nat.le_refl _) (Nat.le_refl _) ?_
        obtain ⟨_, rfl, rfl, hW⟩ := hB
        refine W.eq (g2 := F0 m 42 ls [.int (-4)]) rfl ?_
        exact r_i (v := (-4)) hx hb hr hlocks hS dX3_server_42 (⟨_, sA, ns, rs, rfl, Or.inl ⟨by unfold badS; (repeat' split) <;> first | rfl | (exfalso; omega), rfl⟩, by omega, hW⟩)
      · skip
        have i_3 : a1.toInt ≥ 1 := by have h9 := pz_nlt c_3; exact h9
        refine lv_iload_n hx hb dX3_server_20 rfl (lv_at hl 3 rfl) ?_
        refine lv_iconst (v := 1) hx hb dX3_server_21 (by decide) ?_
        refine lv_icmp_lt (tgt := 36) hx hb dX3_server_22 (by decide) (fun c_4 => ?_) (fun c_4 => ?_)
        · skip
          have i_4 : a3.toInt < 1 := by have h9 := pz_lt c_4; exact h9
          refine lv_aload_n hx hb dX3_server_36 rfl (lv_at hl 0 rfl) ?_
          refine lv_bipush (v := (-4)) hx hb dX3_server_37 (by decide) ?_
          refine c_v (Pw := Cw dC dI z A bs cp h0 la sA cA ns nc dr X P tr nl nq rs) (n := 1) (As := [.int (-4)]) (rest := []) S (q_X3_refuse l dC dI z mi A bs cp h0 la sA cA ns nc dr X P tr nl nq rs (-4)) iw_153 iw_150 iw_152 iw_0 iw_57 (by decide +kernel) rfl ⟨rfl, rfl, Nat.le_of_ble_eq_true rfl, Nat.le_of_ble_eq_true rfl⟩ KZ.blind (D_recv hK hW) (hKZ.at hS (fun _ h9 => h9)) hW hl.1 rfl (Nat.le_of_ble_eq_true rfl) dX3_server_39 ⟨Nat.le_refl _, Nat.le_refl _⟩ hS (fun _ h9 => h9) (fun v9 H locs hB hz9 hk9 hS => ?_)
          refine W.widen (k := cp - sz) (n := 610 * (cp - sz)) (Nat.le_refl _) (Nat.le_refl _) ?_
          obtain ⟨_, rfl, rfl, hW⟩ := hB
          refine W.eq (g2 := F0 m 42 ls [.int (-4)]) rfl ?_
          exact r_i (v := (-4)) hx hb hr hlocks hS dX3_server_42 (⟨_, sA, ns, rs, rfl, Or.inl ⟨by unfold badS; (repeat' split) <;> first | rfl | (exfalso; omega), rfl⟩, by omega, hW⟩)
        · skip
          have i_4 : a3.toInt ≥ 1 := by have h9 := pz_nlt c_4; exact h9
          refine lv_iload hx hb dX3_server_25 (lv_at hl 4 rfl) ?_
          refine lv_iconst (v := 1) hx hb dX3_server_27 (by decide) ?_
          refine lv_icmp_lt (tgt := 36) hx hb dX3_server_28 (by decide) (fun c_5 => ?_) (fun c_5 => ?_)
          · skip
            have i_5 : a4.toInt < 1 := by have h9 := pz_lt c_5; exact h9
            refine lv_aload_n hx hb dX3_server_36 rfl (lv_at hl 0 rfl) ?_
            refine lv_bipush (v := (-4)) hx hb dX3_server_37 (by decide) ?_
            refine c_v (Pw := Cw dC dI z A bs cp h0 la sA cA ns nc dr X P tr nl nq rs) (n := 1) (As := [.int (-4)]) (rest := []) S (q_X3_refuse l dC dI z mi A bs cp h0 la sA cA ns nc dr X P tr nl nq rs (-4)) iw_153 iw_150 iw_152 iw_0 iw_57 (by decide +kernel) rfl ⟨rfl, rfl, Nat.le_of_ble_eq_true rfl, Nat.le_of_ble_eq_true rfl⟩ KZ.blind (D_recv hK hW) (hKZ.at hS (fun _ h9 => h9)) hW hl.1 rfl (Nat.le_of_ble_eq_true rfl) dX3_server_39 ⟨Nat.le_refl _, Nat.le_refl _⟩ hS (fun _ h9 => h9) (fun v9 H locs hB hz9 hk9 hS => ?_)
            refine W.widen (k := cp - sz) (n := 610 * (cp - sz)) (Nat.le_refl _) (Nat.le_refl _) ?_
            obtain ⟨_, rfl, rfl, hW⟩ := hB
            refine W.eq (g2 := F0 m 42 ls [.int (-4)]) rfl ?_
            exact r_i (v := (-4)) hx hb hr hlocks hS dX3_server_42 (⟨_, sA, ns, rs, rfl, Or.inl ⟨by unfold badS; (repeat' split) <;> first | rfl | (exfalso; omega), rfl⟩, by omega, hW⟩)
          · skip
            have i_5 : a4.toInt ≥ 1 := by have h9 := pz_nlt c_5; exact h9
            refine lv_iload hx hb dX3_server_31 (lv_at hl 5 rfl) ?_
            refine lv_if_ge (tgt := 43) hx hb dX3_server_33 (by decide) (fun c_6 => ?_) (fun c_6 => ?_)
            · skip
              have i_6 : a5.toInt ≥ 0 := by have h9 := pz_ge c_6; exact h9
              refine lv_iload_n hx hb dX3_server_43 rfl (lv_at hl 1 rfl) ?_
              refine lv_bipush (v := 100) hx hb dX3_server_44 (by decide) ?_
              refine lv_icmp_gt (tgt := 70) hx hb dX3_server_46 (by decide) (fun c_7 => ?_) (fun c_7 => ?_)
              · skip
                have i_7 : a1.toInt > 100 := by have h9 := pz_gt c_7; exact h9
                refine lv_aload_n hx hb dX3_server_70 rfl (lv_at hl 0 rfl) ?_
                refine lv_bipush (v := (-6)) hx hb dX3_server_71 (by decide) ?_
                refine c_v (Pw := Cw dC dI z A bs cp h0 la sA cA ns nc dr X P tr nl nq rs) (n := 1) (As := [.int (-6)]) (rest := []) S (q_X3_refuse l dC dI z mi A bs cp h0 la sA cA ns nc dr X P tr nl nq rs (-6)) iw_153 iw_150 iw_152 iw_0 iw_57 (by decide +kernel) rfl ⟨rfl, rfl, Nat.le_of_ble_eq_true rfl, Nat.le_of_ble_eq_true rfl⟩ KZ.blind (D_recv hK hW) (hKZ.at hS (fun _ h9 => h9)) hW hl.1 rfl (Nat.le_of_ble_eq_true rfl) dX3_server_73 ⟨Nat.le_refl _, Nat.le_refl _⟩ hS (fun _ h9 => h9) (fun v9 H locs hB hz9 hk9 hS => ?_)
                refine W.widen (k := cp - sz) (n := 610 * (cp - sz)) (Nat.le_refl _) (Nat.le_refl _) ?_
                obtain ⟨_, rfl, rfl, hW⟩ := hB
                refine W.eq (g2 := F0 m 76 ls [.int (-6)]) rfl ?_
                exact r_i (v := (-6)) hx hb hr hlocks hS dX3_server_76 (⟨_, sA, ns, rs, rfl, Or.inl ⟨by unfold badS; (repeat' split) <;> first | rfl | (exfalso; omega), rfl⟩, by omega, hW⟩)
              · skip
                have i_7 : a1.toInt ≤ 100 := by have h9 := pz_ngt c_7; exact h9
                refine lv_iload_n hx hb dX3_server_49 rfl (lv_at hl 3 rfl) ?_
                refine lv_bipush (v := 20) hx hb dX3_server_50 (by decide) ?_
                refine lv_icmp_gt (tgt := 70) hx hb dX3_server_52 (by decide) (fun c_8 => ?_) (fun c_8 => ?_)
                · skip
                  have i_8 : a3.toInt > 20 := by have h9 := pz_gt c_8; exact h9
                  refine lv_aload_n hx hb dX3_server_70 rfl (lv_at hl 0 rfl) ?_
                  refine lv_bipush (v := (-6)) hx hb dX3_server_71 (by decide) ?_
                  refine c_v (Pw := Cw dC dI z A bs cp h0 la sA cA ns nc dr X P tr nl nq rs) (n := 1) (As := [.int (-6)]) (rest := []) S (q_X3_refuse l dC dI z mi A bs cp h0 la sA cA ns nc dr X P tr nl nq rs (-6)) iw_153 iw_150 iw_152 iw_0 iw_57 (by decide +kernel) rfl ⟨rfl, rfl, Nat.le_of_ble_eq_true rfl, Nat.le_of_ble_eq_true rfl⟩ KZ.blind (D_recv hK hW) (hKZ.at hS (fun _ h9 => h9)) hW hl.1 rfl (Nat.le_of_ble_eq_true rfl) dX3_server_73 ⟨Nat.le_refl _, Nat.le_refl _⟩ hS (fun _ h9 => h9) (fun v9 H locs hB hz9 hk9 hS => ?_)
                  refine W.widen (k := cp - sz) (n := 610 * (cp - sz)) (Nat.le_refl _) (Nat.le_refl _) ?_
                  obtain ⟨_, rfl, rfl, hW⟩ := hB
                  refine W.eq (g2 := F0 m 76 ls [.int (-6)]) rfl ?_
                  exact r_i (v := (-6)) hx hb hr hlocks hS dX3_server_76 (⟨_, sA, ns, rs, rfl, Or.inl ⟨by unfold badS; (repeat' split) <;> first | rfl | (exfalso; omega), rfl⟩, by omega, hW⟩)
                · skip
                  have i_8 : a3.toInt ≤ 20 := by have h9 := pz_ngt c_8; exact h9
                  refine lv_iload hx hb dX3_server_55 (lv_at hl 4 rfl) ?_
                  refine lv_sipush (v := 200) hx hb dX3_server_57 (by decide) ?_
                  refine lv_icmp_gt (tgt := 70) hx hb dX3_server_60 (by decide) (fun c_9 => ?_) (fun c_9 => ?_)
                  · skip
                    have i_9 : a4.toInt > 200 := by have h9 := pz_gt c_9; exact h9
                    refine lv_aload_n hx hb dX3_server_70 rfl (lv_at hl 0 rfl) ?_
                    refine lv_bipush (v := (-6)) hx hb dX3_server_71 (by decide) ?_
                    refine c_v (Pw := Cw dC dI z A bs cp h0 la sA cA ns nc dr X P tr nl nq rs) (n := 1) (As := [.int (-6)]) (rest := []) S (q_X3_refuse l dC dI z mi A bs cp h0 la sA cA ns nc dr X P tr nl nq rs (-6)) iw_153 iw_150 iw_152 iw_0 iw_57 (by decide +kernel) rfl ⟨rfl, rfl, Nat.le_of_ble_eq_true rfl, Nat.le_of_ble_eq_true rfl⟩ KZ.blind (D_recv hK hW) (hKZ.at hS (fun _ h9 => h9)) hW hl.1 rfl (Nat.le_of_ble_eq_true rfl) dX3_server_73 ⟨Nat.le_refl _, Nat.le_refl _⟩ hS (fun _ h9 => h9) (fun v9 H locs hB hz9 hk9 hS => ?_)
                    refine W.widen (k := cp - sz) (n := 610 * (cp - sz)) (Nat.le_refl _) (Nat.le_refl _) ?_
                    obtain ⟨_, rfl, rfl, hW⟩ := hB
                    refine W.eq (g2 := F0 m 76 ls [.int (-6)]) rfl ?_
                    exact r_i (v := (-6)) hx hb hr hlocks hS dX3_server_76 (⟨_, sA, ns, rs, rfl, Or.inl ⟨by unfold badS; (repeat' split) <;> first | rfl | (exfalso; omega), rfl⟩, by omega, hW⟩)
                  · skip
                    have i_9 : a4.toInt ≤ 200 := by have h9 := pz_ngt c_9; exact h9
                    refine lv_iload hx hb dX3_server_63 (lv_at hl 5 rfl) ?_
                    refine lv_bipush (v := 20) hx hb dX3_server_65 (by decide) ?_
                    refine lv_icmp_le (tgt := 77) hx hb dX3_server_67 (by decide) (fun c_10 => ?_) (fun c_10 => ?_)
                    · skip
                      have i_10 : a5.toInt ≤ 20 := by have h9 := pz_le c_10; exact h9
                      refine lv_aload_n hx hb dX3_server_77 rfl (lv_at hl 0 rfl) ?_
                      refine D_getl S hK hW 0 (by decide) (fun _ => rfl) iw_105 rfl dX3_server_78 ?_
                      refine L_size (rest := []) S hKZ hW hS (i := 0) (by decide) hl.1 (Nat.le_of_ble_eq_true rfl) dX3_server_81 ⟨Nat.le_of_ble_eq_true rfl, Nat.le_of_ble_eq_true rfl⟩ ⟨Nat.le_refl _, Nat.le_refl _⟩ (fun H locs hW hS => ?_)
                      refine W.eq (g2 := F0 m 84 ls [.int (nI ns)]) rfl ?_
                      obtain ⟨hns, hnc, hnl, ag_12, hag_12, -, hnq⟩ := id hW.2.2.2.2.2.2
                      have en_13 : (nI ns).toInt = ((ns : Nat) : Int) := pz_ti (by omega)
                      refine lv_bipush (v := 8) hx hb dX3_server_84 (by decide) ?_
                      refine lv_icmp_lt (tgt := 96) hx hb dX3_server_86 (by decide) (fun c_14 => ?_) (fun c_14 => ?_)
                      · skip
                        have i_14 : (nI ns).toInt < 8 := by have h9 := pz_lt c_14; exact h9
                        obtain ⟨q_15, eq_15⟩ : ∃ q : Nat, q = H.size := ⟨_, rfl⟩
                        refine W.ti hsz hbs hS hW ?_
                        refine x_new (own := RX3) (C := RX2) (T := TX2) (N := 17) (ci := 3) (fs := [.int 0, .int 0, .int 0, .int 0, .int 0, .int 0, .int 0, .int 0, .int 0, .int 0, .int 0, .int 0, .int 0, .int 0, .int 0, .int 0, .int 0]) hx hb hts inX2 tyX2 tyX2_ok hown (hts _ iw_158) (hts _ iw_159) (hts _ iw_62) hK hS rfl (by intro j9 hj9; match j9, hj9 with | 0, _ => rfl | 1, _ => rfl | 2, _ => rfl | 3, _ => rfl | 4, _ => rfl | 5, _ => rfl | 6, _ => rfl | 7, _ => rfl | 8, _ => rfl | 9, _ => rfl | 10, _ => rfl | 11, _ => rfl | 12, _ => rfl | 13, _ => rfl | 14, _ => rfl | 15, _ => rfl | 16, _ => rfl | n9 + 17, h9 => exact absurd h9 (by omega)) (hW.rone hsz hS (by omega)).1 (Nat.le_trans (Nat.add_le_add_left (by decide) _) (hW.rone hsz hS (by omega)).2) dX3_server_96 (fun Hn hon hzn hfn hcn hS => ?_)
                        have hSn := hW.2.2.2.2.2.1.1.fresh hzn hfn hcn (by decide)
                        have hcp := hW.2.2.2.2.2.1.2.1
                        refine W.to9 (cp := cp) hsz hbs hS hSn (by omega) ?_
                        have hW0 := hW
                        have hW : Cw dC dI z A bs cp h0 la sA cA ns nc dr X P tr nl nq (rs - 1) Hn := hW0.kp (Kp.fresh hfn) ⟨hSn, by omega, fun y9 h9 => hW0.2.2.2.2.2.1.2.2 y9 (by omega)⟩
                        refine W.eq (g2 := F0 m 99 ls [.ref q_15]) (by rw [eq_15]) ?_
                        rw [← eq_15] at hon
                        refine lv_dup hx hb dX3_server_99 rfl ?_
                        refine lv_aload_n hx hb dX3_server_100 rfl (lv_at hl 0 rfl) ?_
                        refine D_getl S hK hW 0 (by decide) (fun _ => rfl) iw_105 rfl dX3_server_101 ?_
                        refine L_sizeX (rest := [.ref q_15, .ref q_15]) S hKZ hW hS (i := 0) (by decide) hl.1 (Nat.le_of_ble_eq_true rfl) dX3_server_104 ⟨Nat.le_of_ble_eq_true rfl, Nat.le_of_ble_eq_true rfl⟩ ⟨Nat.le_refl _, Nat.le_refl _⟩ (fun locs hS => ?_)
                        refine W.eq (g2 := F0 m 107 ls [.int (nI ns), .ref q_15, .ref q_15]) rfl ?_
                        refine lv_iload_n hx hb dX3_server_107 rfl (lv_at hl 1 rfl) ?_
                        refine lv_iload_n hx hb dX3_server_108 rfl (lv_at hl 2 rfl) ?_
                        refine lv_iload_n hx hb dX3_server_109 rfl (lv_at hl 3 rfl) ?_
                        refine lv_iload hx hb dX3_server_110 (lv_at hl 4 rfl) ?_
                        refine lv_iload hx hb dX3_server_112 (lv_at hl 5 rfl) ?_
                        refine c_i (Pw := (fun H => H.size = Hn.size ∧ va_P (dC, dI) vwCl [(q_15, .inr (3, [.int 0, .int 0, .int 0, .int 0, .int 0, .int 0, .int 0, .int 0, .int 0, .int 0, .int 0, .int 0, .int 0, .int 0, .int 0, .int 0, .int 0]))] H ∧ Sz bs H)) (n := 6) (As := [.int (nI ns), .int a1, .int a2, .int a3, .int a4, .int a5]) (rest := [.ref q_15]) S (q_X2_init l dC dI q_15 Hn.size bs (nI ns) a1 a2 a3 a4 a5) iw_162 iw_160 iw_161 iw_62 rfl (by decide +kernel) rfl ⟨rfl, rfl, Nat.le_of_ble_eq_true rfl, Nat.le_of_ble_eq_true rfl⟩ Kt.blind (fun U _ h9 => va_K.moved h9.alike hK) ⟨rfl, va_P1 hon, hSn⟩ hl.1 rfl (Nat.le_of_ble_eq_true rfl) dX3_server_114 ⟨Nat.le_refl _, Nat.le_refl _⟩ hS (fun y9 h9 => hW0.2.2.2.2.2.1.2.2 y9 (by omega)) (fun v9 H locs hB hz9 hk9 hS => ?_)
                        obtain ⟨rfl, hP9, hSz9, hle9⟩ := hB
                        obtain ⟨Y, eY⟩ : ∃ f : Nat → Int32, f = (fun i => ([(nI ns), a2, a1, a3, a4, a5, 0, 0, 0, 0, 0, 0, 0, 0, 10, 0, 0] : List Int32).getD i 0) := ⟨_, rfl⟩
                        have hoq : oat dC dI q_15 3 (eS Y) H := by rw [eY]; exact hP9 0 _ rfl
                        have hY0 : Y 0 = nI ns := by rw [eY]; rfl
                        have hY7 : Y 7 = 0 := by rw [eY]; rfl
                        clear eY
                        have hAq : A q_15 := hW0.2.2.2.2.2.1.2.2 q_15 (by omega)
                        have hW : Cw dC dI z A bs cp h0 la sA cA ns nc dr X P tr nl nq (rs - 1) H := hW0.kp (Kp.fresh (fun y9 h9 => (hk9 y9 (by omega) (by omega)).trans (hfn y9 h9))) ⟨hSz9, by omega, fun y9 h9 => hW0.2.2.2.2.2.1.2.2 y9 (by omega)⟩
                        refine W.to hsz hbs hS hW ?_
                        refine W.eq (g2 := F0 m 117 ls [.ref q_15]) rfl ?_
                        refine lv_astore (lv' := [(6, .ref q_15), (0, .ref h0), (1, .int a1), (2, .int a2), (3, .int a3), (4, .int a4), (5, .int a5)]) hx hb dX3_server_117 hl (by decide) rfl (fun ls hl => ?_)
                        refine lv_aload_n hx hb dX3_server_119 rfl (lv_at hl 1 rfl) ?_
                        refine D_getl S hK hW 0 (by decide) (fun _ => rfl) iw_105 rfl dX3_server_120 ?_
                        refine lv_aload hx hb dX3_server_123 (lv_at hl 0 rfl) ?_
                        refine W.ti hsz hbs hS hW ?_
                        refine L_add0 (rest := []) (y := Y) S hKZ hW hS (by omega) hAq hoq hY0 ⟨fun q9 => absurd q9 hnd9, fun q9 => absurd q9 (by rw [hY7]; exact gDr_n (by decide))⟩ (by omega) hl.1 (Nat.le_of_ble_eq_true rfl) dX3_server_125 ⟨Nat.le_of_ble_eq_true rfl, Nat.le_of_ble_eq_true rfl⟩ (hW.rone hsz hS (by omega)) (fun H locs hW hS => ?_)
                        refine W.to hsz hbs hS hW ?_
                        obtain ⟨sA, hfA⟩ : ∃ f : Nat → Nat, f = va_up sA ns q_15 := ⟨_, rfl⟩
                        rw [← hfA] at hW
                        have hfq : sA ns = q_15 := by rw [hfA]; exact vu_s
                        clear hfA
                        subst hfq
                        refine W.eq (g2 := F0 m 128 ls [.int 1]) rfl ?_
                        refine lv_pop hx hb dX3_server_128 rfl ?_
                        refine lv_aload hx hb dX3_server_129 (lv_at hl 0 rfl) ?_
                        obtain ⟨-, x_18, hc_18, h0_18, hd_18⟩ := hW.2.2.1 ns (by omega)
                        refine S_gp S hK hc_18 0 (by decide) (fun _ => rfl) iw_165 rfl dX3_server_131 ?_
                        rw [h0_18]
                        exact r_i (v := (nI ns)) hx hb hr hlocks hS dX3_server_134 (⟨_, sA, (ns + 1), ((rs - 1) - 1), rfl, Or.inr ⟨by unfold badS; (repeat' split) <;> first | rfl | (exfalso; omega), rfl, rfl⟩, by omega, hW⟩)
                      · skip
                        have i_14 : (nI ns).toInt ≥ 8 := by have h9 := pz_nlt c_14; exact h9
                        refine lv_aload_n hx hb dX3_server_89 rfl (lv_at hl 0 rfl) ?_
                        refine lv_bipush (v := (-6)) hx hb dX3_server_90 (by decide) ?_
                        refine c_v (Pw := Cw dC dI z A bs cp h0 la sA cA ns nc dr X P tr nl nq rs) (n := 1) (As := [.int (-6)]) (rest := []) S (q_X3_refuse l dC dI z mi A bs cp h0 la sA cA ns nc dr X P tr nl nq rs (-6)) iw_153 iw_150 iw_152 iw_0 iw_57 (by decide +kernel) rfl ⟨rfl, rfl, Nat.le_of_ble_eq_true rfl, Nat.le_of_ble_eq_true rfl⟩ KZ.blind (D_recv hK hW) (hKZ.at hS (fun _ h9 => h9)) hW hl.1 rfl (Nat.le_of_ble_eq_true rfl) dX3_server_92 ⟨Nat.le_refl _, Nat.le_refl _⟩ hS (fun _ h9 => h9) (fun v9 H locs hB hz9 hk9 hS => ?_)
                        refine W.widen (k := cp - sz) (n := 610 * (cp - sz)) (Nat.le_refl _) (Nat.le_refl _) ?_
                        obtain ⟨_, rfl, rfl, hW⟩ := hB
                        refine W.eq (g2 := F0 m 95 ls [.int (-6)]) rfl ?_
                        exact r_i (v := (-6)) hx hb hr hlocks hS dX3_server_95 (⟨_, sA, ns, rs, rfl, Or.inl ⟨by unfold badS; (repeat' split) <;> first | rfl | (exfalso; omega), rfl⟩, by omega, hW⟩)
                    · skip
                      have i_10 : a5.toInt > 20 := by have h9 := pz_nle c_10; exact h9
                      refine lv_aload_n hx hb dX3_server_70 rfl (lv_at hl 0 rfl) ?_
                      refine lv_bipush (v := (-6)) hx hb dX3_server_71 (by decide) ?_
                      refine c_v (Pw := Cw dC dI z A bs cp h0 la sA cA ns nc dr X P tr nl nq rs) (n := 1) (As := [.int (-6)]) (rest := []) S (q_X3_refuse l dC dI z mi A bs cp h0 la sA cA ns nc dr X P tr nl nq rs (-6)) iw_153 iw_150 iw_152 iw_0 iw_57 (by decide +kernel) rfl ⟨rfl, rfl, Nat.le_of_ble_eq_true rfl, Nat.le_of_ble_eq_true rfl⟩ KZ.blind (D_recv hK hW) (hKZ.at hS (fun _ h9 => h9)) hW hl.1 rfl (Nat.le_of_ble_eq_true rfl) dX3_server_73 ⟨Nat.le_refl _, Nat.le_refl _⟩ hS (fun _ h9 => h9) (fun v9 H locs hB hz9 hk9 hS => ?_)
                      refine W.widen (k := cp - sz) (n := 610 * (cp - sz)) (Nat.le_refl _) (Nat.le_refl _) ?_
                      obtain ⟨_, rfl, rfl, hW⟩ := hB
                      refine W.eq (g2 := F0 m 76 ls [.int (-6)]) rfl ?_
                      exact r_i (v := (-6)) hx hb hr hlocks hS dX3_server_76 (⟨_, sA, ns, rs, rfl, Or.inl ⟨by unfold badS; (repeat' split) <;> first | rfl | (exfalso; omega), rfl⟩, by omega, hW⟩)
            · skip
              have i_6 : a5.toInt < 0 := by have h9 := pz_nge c_6; exact h9
              refine lv_aload_n hx hb dX3_server_36 rfl (lv_at hl 0 rfl) ?_
              refine lv_bipush (v := (-4)) hx hb dX3_server_37 (by decide) ?_
              refine c_v (Pw := Cw dC dI z A bs cp h0 la sA cA ns nc dr X P tr nl nq rs) (n := 1) (As := [.int (-4)]) (rest := []) S (q_X3_refuse l dC dI z mi A bs cp h0 la sA cA ns nc dr X P tr nl nq rs (-4)) iw_153 iw_150 iw_152 iw_0 iw_57 (by decide +kernel) rfl ⟨rfl, rfl, Nat.le_of_ble_eq_true rfl, Nat.le_of_ble_eq_true rfl⟩ KZ.blind (D_recv hK hW) (hKZ.at hS (fun _ h9 => h9)) hW hl.1 rfl (Nat.le_of_ble_eq_true rfl) dX3_server_39 ⟨Nat.le_refl _, Nat.le_refl _⟩ hS (fun _ h9 => h9) (fun v9 H locs hB hz9 hk9 hS => ?_)
              refine W.widen (k := cp - sz) (n := 610 * (cp - sz)) (Nat.le_refl _) (Nat.le_refl _) ?_
              obtain ⟨_, rfl, rfl, hW⟩ := hB
              refine W.eq (g2 := F0 m 42 ls [.int (-4)]) rfl ?_
              exact r_i (v := (-4)) hx hb hr hlocks hS dX3_server_42 (⟨_, sA, ns, rs, rfl, Or.inl ⟨by unfold badS; (repeat' split) <;> first | rfl | (exfalso; omega), rfl⟩, by omega, hW⟩)
    · skip
      have i_2 : a2.toInt ≥ 4 := by have h9 := pz_nlt c_2; exact h9
      refine lv_aload_n hx hb dX3_server_9 rfl (lv_at hl 0 rfl) ?_
      refine lv_iconst (v := (-1)) hx hb dX3_server_10 (by decide) ?_
      refine c_v (Pw := Cw dC dI z A bs cp h0 la sA cA ns nc dr X P tr nl nq rs) (n := 1) (As := [.int (-1)]) (rest := []) S (q_X3_refuse l dC dI z mi A bs cp h0 la sA cA ns nc dr X P tr nl nq rs (-1)) iw_153 iw_150 iw_152 iw_0 iw_57 (by decide +kernel) rfl ⟨rfl, rfl, Nat.le_of_ble_eq_true rfl, Nat.le_of_ble_eq_true rfl⟩ KZ.blind (D_recv hK hW) (hKZ.at hS (fun _ h9 => h9)) hW hl.1 rfl (Nat.le_of_ble_eq_true rfl) dX3_server_11 ⟨Nat.le_refl _, Nat.le_refl _⟩ hS (fun _ h9 => h9) (fun v9 H locs hB hz9 hk9 hS => ?_)
      refine W.widen (k := cp - sz) (n := 610 * (cp - sz)) (Nat.le_refl _) (Nat.le_refl _) ?_
      obtain ⟨_, rfl, rfl, hW⟩ := hB
      refine W.eq (g2 := F0 m 14 ls [.int (-1)]) rfl ?_
      exact r_i (v := (-1)) hx hb hr hlocks hS dX3_server_14 (⟨_, sA, ns, rs, rfl, Or.inl ⟨by unfold badS; (repeat' split) <;> first | rfl | (exfalso; omega), rfl⟩, by omega, hW⟩)
