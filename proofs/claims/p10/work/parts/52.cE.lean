abbrev B_q_X2_takeAsking (dC : Nat → ClassId) (dI : Nat → Nat → Nat) (z : Nat) (mi : Nat) (A : Nat → Prop) (bs : Nat) (cp : Nat) (h0 : Nat) (la : Nat → Nat) (sA : Nat → Nat) (cA : Nat → Nat) (ns : Nat) (nc : Nat) (dr : Nat → Prop) (X : Nat → Int32) (P : Nat → Prop) (tr : Nat → Int32) (nl : Nat) (nq : Nat) (rs : Nat) (sz : Nat) (k : Nat) (a1 : Int32) : Option Value → Heap → Prop := fun v H => ∃ (o : Nat) (P1 : Nat → Prop) (w : Nat → Int32), v = some (.ref o) ∧ P1 o ∧ oat dC dI o 1 (eA (sA k) w) H ∧ Cw dC dI z A bs cp h0 la sA cA ns nc dr X P1 tr nl nq (rs - 1) H
set_option maxHeartbeats 8000000 in
set_option maxRecDepth 20000 in
theorem q_X2_takeAsking (l : Launch) (dC : Nat → ClassId) (dI : Nat → Nat → Nat) (z : Nat) (mi : Nat) (A : Nat → Prop) (bs : Nat) (cp : Nat) (h0 : Nat) (la : Nat → Nat) (sA : Nat → Nat) (cA : Nat → Nat) (ns : Nat) (nc : Nat) (dr : Nat → Prop) (X : Nat → Int32) (P : Nat → Prop) (tr : Nat → Int32) (nl : Nat) (nq : Nat) (rs : Nat) (sz : Nat) (k : Nat) (a1 : Int32) (hbs : bs ≤ sz) (hk : k < ns) (hrs : 1 ≤ rs) : Met l yX2_takeAsking (cws yX2_takeAsking cX2_takeAsking 4 (some (.object "FrontDoor$Asking"))) { frames := 2, cells := (cp - sz), slots := (610 * (cp - sz)), locals := 36 } (va_Pc [.ref (sA k), .int a1] (fun U => KZ dC dI z mi A U ∧ (fun H => H.size = sz ∧ Cw dC dI z A bs cp h0 la sA cA ns nc dr X P tr nl nq rs H) U.heap)) (Qg (B_q_X2_takeAsking dC dI z mi A bs cp h0 la sA cA ns nc dr X P tr nl nq rs sz k a1) A) (cp - sz) (610 * (cp - sz)) A := by
  refine m_start (KK := KZ dC dI z mi A) (Pw := (fun H => H.size = sz ∧ Cw dC dI z A bs cp h0 la sA cA ns nc dr X P tr nl nq rs H)) (by decide) (Nat.le_of_ble_eq_true rfl) ?_
  intro p e s m below meth c ls S hr hlocks hin hKZ hW hS hl
  obtain ⟨hx, hb, hml, hown, hts⟩ := id S
  obtain ⟨hsz, hW⟩ := hW
  have hK := hKZ.1
  obtain ⟨hns, hnc, hnl, ag, hag, hXg, hnq⟩ := id hW.2.2.2.2.2.2
  have hagn : agn X = ag := agn_of hXg hag
  have hl : lv_has ls 4 [(0, .ref (sA k)), (1, .int a1)] := hl
  have en_k : (nI k).toInt = ((k : Nat) : Int) := pz_ti (by omega)
  refine W.to hsz hbs hS hW ?_
  refine lv_aload_n hx hb dX2_takeAsking_0 rfl (lv_at hl 0 rfl) ?_
  refine lv_dup hx hb dX2_takeAsking_1 rfl ?_
  obtain ⟨-, x_1, hc_1, h0_1, hd_1⟩ := hW.2.2.1 k (by omega)
  refine S_gp S hK hc_1 9 (by decide) (fun _ => rfl) iw_180 rfl dX2_takeAsking_2 ?_
  refine lv_iconst (v := 1) hx hb dX2_takeAsking_5 (by decide) ?_
  refine lv_iadd hx hb dX2_takeAsking_6 ?_
  refine lv_topi (fun x_2 _ => ?_)
  refine S_put S hK hW hS (k := k) (by omega) 9 (by decide) (by decide) (by decide) (fun _ => rfl) iw_180 rfl rfl (by decide +kernel) rfl dX2_takeAsking_7 (fun H locs hW hS => ?_)
  refine lv_aload_n hx hb dX2_takeAsking_10 rfl (lv_at hl 0 rfl) ?_
  refine lv_dup hx hb dX2_takeAsking_11 rfl ?_
  obtain ⟨-, x_4, hc_4, h0_4, hd_4⟩ := hW.2.2.1 k (by omega)
  refine S_gp S hK hc_4 8 (by decide) (fun _ => rfl) iw_177 rfl dX2_takeAsking_12 ?_
  refine lv_iconst (v := 1) hx hb dX2_takeAsking_15 (by decide) ?_
  refine lv_iadd hx hb dX2_takeAsking_16 ?_
  refine lv_topi (fun x_5 _ => ?_)
  refine S_put S hK hW hS (k := k) (by omega) 8 (by decide) (by decide) (by decide) (fun _ => rfl) iw_177 rfl rfl (by decide +kernel) rfl dX2_takeAsking_17 (fun H locs hW hS => ?_)
  refine lv_aload_n hx hb dX2_takeAsking_20 rfl (lv_at hl 0 rfl) ?_
  obtain ⟨-, x_7, hc_7, h0_7, hd_7⟩ := hW.2.2.1 k (by omega)
  refine S_gp S hK hc_7 6 (by decide) (fun _ => rfl) iw_174 rfl dX2_takeAsking_21 ?_
  refine lv_iconst (v := 1) hx hb dX2_takeAsking_24 (by decide) ?_
  refine lv_icmp_ne (tgt := 32) hx hb dX2_takeAsking_25 (by decide) (fun c_8 => ?_) (fun c_8 => ?_)
  · skip
    have i_8 : ¬ (x_7 6).toInt = 1 := by have h9 := pz_neq c_8; exact h9
    refine lv_iload_n hx hb dX2_takeAsking_32 rfl (lv_at hl 1 rfl) ?_
    refine lv_aload_n hx hb dX2_takeAsking_33 rfl (lv_at hl 0 rfl) ?_
    refine S_gp S hK hc_7 4 (by decide) (fun _ => rfl) iw_172 rfl dX2_takeAsking_34 ?_
    refine lv_iadd hx hb dX2_takeAsking_37 ?_
    refine lv_topi (fun x_10 _ => ?_)
    refine lv_istore_n (lv' := [(2, .int x_10), (0, .ref (sA k)), (1, .int a1)]) hx hb dX2_takeAsking_38 rfl hl (by decide) rfl (fun ls hl => ?_)
    refine lv_aload_n hx hb dX2_takeAsking_39 rfl (lv_at hl 1 rfl) ?_
    refine S_gp S hK hc_7 5 (by decide) (fun _ => rfl) iw_173 rfl dX2_takeAsking_40 ?_
    refine lv_if_eq (tgt := 62) hx hb dX2_takeAsking_43 (by decide) (fun c_12 => ?_) (fun c_12 => ?_)
    · skip
      have i_12 : (x_7 5).toInt = 0 := by have h9 := pz_eq c_12; exact h9
      refine lv_iconst (v := 0) hx hb dX2_takeAsking_62 (by decide) ?_
      refine lv_istore_n (lv' := [(3, .int 0), (2, .int x_10), (0, .ref (sA k)), (1, .int a1)]) hx hb dX2_takeAsking_63 rfl hl (by decide) rfl (fun ls hl => ?_)
      obtain ⟨q_13, eq_13⟩ : ∃ q : Nat, q = H.size := ⟨_, rfl⟩
      refine W.ti hsz hbs hS hW ?_
      refine x_new (own := RX2) (C := RX0) (T := TX0) (N := 4) (ci := 1) (fs := [.null, .int 0, .int 0, .int 0]) hx hb hts inX0 tyX0 tyX0_ok hown (hts _ iw_448) (hts _ iw_449) (hts _ iw_70) hK hS rfl (by intro j9 hj9; match j9, hj9 with | 0, _ => rfl | 1, _ => rfl | 2, _ => rfl | 3, _ => rfl) (hW.rone hsz hS (by omega)).1 (Nat.le_trans (Nat.add_le_add_left (by decide) _) (hW.rone hsz hS (by omega)).2) dX2_takeAsking_64 (fun Hn hon hzn hfn hcn hS => ?_)
      have hSn := hW.2.2.2.2.2.1.1.fresh hzn hfn hcn (by decide)
      have hcp := hW.2.2.2.2.2.1.2.1
      refine W.to9 (cp := cp) hsz hbs hS hSn (by omega) ?_
      have hW0 := hW
      refine W.eq (g2 := F0 m 67 ls [.ref q_13]) (by rw [eq_13]) ?_
      rw [← eq_13] at hon
      refine lv_dup hx hb dX2_takeAsking_67 rfl ?_
      refine lv_aload_n hx hb dX2_takeAsking_68 rfl (lv_at hl 2 rfl) ?_
      refine lv_iload_n hx hb dX2_takeAsking_69 rfl (lv_at hl 3 rfl) ?_
      refine lv_iload_n hx hb dX2_takeAsking_70 rfl (lv_at hl 1 rfl) ?_
      refine lv_iload_n hx hb dX2_takeAsking_71 rfl (lv_at hl 0 rfl) ?_
      refine c_i (Pw := (fun H => H.size = Hn.size ∧ va_P (dC, dI) vwCl [(q_13, .inr (1, [.null, .int 0, .int 0, .int 0]))] H ∧ Sz bs H)) (n := 4) (As := [.ref (sA k), .int a1, .int x_10, .int 0]) (rest := [.ref q_13]) S (q_X0_init l dC dI q_13 Hn.size bs (sA k) a1 x_10 0 (Or.inl rfl)) iw_452 iw_450 iw_451 iw_70 rfl (by decide +kernel) rfl ⟨rfl, rfl, Nat.le_of_ble_eq_true rfl, Nat.le_of_ble_eq_true rfl⟩ Kt.blind (fun U _ h9 => va_K.moved h9.alike hK) ⟨rfl, va_P1 hon, hSn⟩ hl.1 rfl (Nat.le_of_ble_eq_true rfl) dX2_takeAsking_72 ⟨Nat.le_refl _, Nat.le_refl _⟩ hS (fun y9 h9 => hW0.2.2.2.2.2.1.2.2 y9 (by omega)) (fun v9 H locs hB hz9 hk9 hS => ?_)
      obtain ⟨rfl, hP9, hSz9, hle9⟩ := hB
      have hoq : oat dC dI q_13 1 (eA (sA k) (fun i => if i = 1 then a1 else if i = 2 then x_10 else 0)) H := hP9 0 _ rfl
      have hW := Cw.asking hW hk hrs eq_13 (fun y9 h9 => (hk9 y9 (by omega) (by omega)).trans (hfn y9 h9)) (by omega) hSz9 hoq
      refine W.to hsz hbs hS hW ?_
      refine W.eq (g2 := F0 m 75 ls [.ref q_13]) rfl ?_
      exact r_a (o := some q_13) hx hb hr (Or.inl ⟨_, rfl⟩) hlocks hS dX2_takeAsking_75 (⟨_, _, _, rfl, Or.inr rfl, hoq, hW⟩)
    · skip
      have i_12 : ¬ (x_7 5).toInt = 0 := by have h9 := pz_neq c_12; exact h9
      refine lv_aload_n hx hb dX2_takeAsking_46 rfl (lv_at hl 1 rfl) ?_
      refine S_gp S hK hc_7 9 (by decide) (fun _ => rfl) iw_180 rfl dX2_takeAsking_47 ?_
      refine lv_aload_n hx hb dX2_takeAsking_50 rfl (lv_at hl 1 rfl) ?_
      refine S_gp S hK hc_7 5 (by decide) (fun _ => rfl) iw_173 rfl dX2_takeAsking_51 ?_
      refine lv_irem hx hb dX2_takeAsking_54 c_12 ?_
      refine lv_topi (fun x_16 _ => ?_)
      refine lv_if_ne (tgt := 62) hx hb dX2_takeAsking_55 (by decide) (fun c_17 => ?_) (fun c_17 => ?_)
      · skip
        have i_17 : ¬ x_16.toInt = 0 := by have h9 := pz_neq c_17; exact h9
        refine lv_iconst (v := 0) hx hb dX2_takeAsking_62 (by decide) ?_
        refine lv_istore_n (lv' := [(3, .int 0), (2, .int x_10), (0, .ref (sA k)), (1, .int a1)]) hx hb dX2_takeAsking_63 rfl hl (by decide) rfl (fun ls hl => ?_)
        obtain ⟨q_18, eq_18⟩ : ∃ q : Nat, q = H.size := ⟨_, rfl⟩
        refine W.ti hsz hbs hS hW ?_
        refine x_new (own := RX2) (C := RX0) (T := TX0) (N := 4) (ci := 1) (fs := [.null, .int 0, .int 0, .int 0]) hx hb hts inX0 tyX0 tyX0_ok hown (hts _ iw_448) (hts _ iw_449) (hts _ iw_70) hK hS rfl (by intro j9 hj9; match j9, hj9 with | 0, _ => rfl | 1, _ => rfl | 2, _ => rfl | 3, _ => rfl) (hW.rone hsz hS (by omega)).1 (Nat.le_trans (Nat.add_le_add_left (by decide) _) (hW.rone hsz hS (by omega)).2) dX2_takeAsking_64 (fun Hn hon hzn hfn hcn hS => ?_)
        have hSn := hW.2.2.2.2.2.1.1.fresh hzn hfn hcn (by decide)
        have hcp := hW.2.2.2.2.2.1.2.1
        refine W.to9 (cp := cp) hsz hbs hS hSn (by omega) ?_
        have hW0 := hW
        refine W.eq (g2 := F0 m 67 ls [.ref q_18]) (by rw [eq_18]) ?_
        rw [← eq_18] at hon
        refine lv_dup hx hb dX2_takeAsking_67 rfl ?_
        refine lv_aload_n hx hb dX2_takeAsking_68 rfl (lv_at hl 2 rfl) ?_
        refine lv_iload_n hx hb dX2_takeAsking_69 rfl (lv_at hl 3 rfl) ?_
        refine lv_iload_n hx hb dX2_takeAsking_70 rfl (lv_at hl 1 rfl) ?_
        refine lv_iload_n hx hb dX2_takeAsking_71 rfl (lv_at hl 0 rfl) ?_
        refine c_i (Pw := (fun H => H.size = Hn.size ∧ va_P (dC, dI) vwCl [(q_18, .inr (1, [.null, .int 0, .int 0, .int 0]))] H ∧ Sz bs H)) (n := 4) (As := [.ref (sA k), .int a1, .int x_10, .int 0]) (rest := [.ref q_18]) S (q_X0_init l dC dI q_18 Hn.size bs (sA k) a1 x_10 0 (Or.inl rfl)) iw_452 iw_450 iw_451 iw_70 rfl (by decide +kernel) rfl ⟨rfl, rfl, Nat.le_of_ble_eq_true rfl, Nat.le_of_ble_eq_true rfl⟩ Kt.blind (fun U _ h9 => va_K.moved h9.alike hK) ⟨rfl, va_P1 hon, hSn⟩ hl.1 rfl (Nat.le_of_ble_eq_true rfl) dX2_takeAsking_72 ⟨Nat.le_refl _, Nat.le_refl _⟩ hS (fun y9 h9 => hW0.2.2.2.2.2.1.2.2 y9 (by omega)) (fun v9 H locs hB hz9 hk9 hS => ?_)
        obtain ⟨rfl, hP9, hSz9, hle9⟩ := hB
        have hoq : oat dC dI q_18 1 (eA (sA k) (fun i => if i = 1 then a1 else if i = 2 then x_10 else 0)) H := hP9 0 _ rfl
        have hW := Cw.asking hW hk hrs eq_18 (fun y9 h9 => (hk9 y9 (by omega) (by omega)).trans (hfn y9 h9)) (by omega) hSz9 hoq
        refine W.to hsz hbs hS hW ?_
        refine W.eq (g2 := F0 m 75 ls [.ref q_18]) rfl ?_
        exact r_a (o := some q_18) hx hb hr (Or.inl ⟨_, rfl⟩) hlocks hS dX2_takeAsking_75 (⟨_, _, _, rfl, Or.inr rfl, hoq, hW⟩)
      · skip
        have i_17 : x_16.toInt = 0 := by have h9 := pz_eq c_17; exact h9
        refine lv_iconst (v := 1) hx hb dX2_takeAsking_58 (by decide) ?_
        refine lv_goto (tgt := 63) hx hb dX2_takeAsking_59 (by decide) ?_
        refine lv_istore_n (lv' := [(3, .int 1), (2, .int x_10), (0, .ref (sA k)), (1, .int a1)]) hx hb dX2_takeAsking_63 rfl hl (by decide) rfl (fun ls hl => ?_)
        obtain ⟨q_19, eq_19⟩ : ∃ q : Nat, q = H.size := ⟨_, rfl⟩
        refine W.ti hsz hbs hS hW ?_
        refine x_new (own := RX2) (C := RX0) (T := TX0) (N := 4) (ci := 1) (fs := [.null, .int 0, .int 0, .int 0]) hx hb hts inX0 tyX0 tyX0_ok hown (hts _ iw_448) (hts _ iw_449) (hts _ iw_70) hK hS rfl (by intro j9 hj9; match j9, hj9 with | 0, _ => rfl | 1, _ => rfl | 2, _ => rfl | 3, _ => rfl) (hW.rone hsz hS (by omega)).1 (Nat.le_trans (Nat.add_le_add_left (by decide) _) (hW.rone hsz hS (by omega)).2) dX2_takeAsking_64 (fun Hn hon hzn hfn hcn hS => ?_)
        have hSn := hW.2.2.2.2.2.1.1.fresh hzn hfn hcn (by decide)
        have hcp := hW.2.2.2.2.2.1.2.1
        refine W.to9 (cp := cp) hsz hbs hS hSn (by omega) ?_
        have hW0 := hW
        refine W.eq (g2 := F0 m 67 ls [.ref q_19]) (by rw [eq_19]) ?_
        rw [← eq_19] at hon
        refine lv_dup hx hb dX2_takeAsking_67 rfl ?_
        refine lv_aload_n hx hb dX2_takeAsking_68 rfl (lv_at hl 2 rfl) ?_
        refine lv_iload_n hx hb dX2_takeAsking_69 rfl (lv_at hl 3 rfl) ?_
        refine lv_iload_n hx hb dX2_takeAsking_70 rfl (lv_at hl 1 rfl) ?_
        refine lv_iload_n hx hb dX2_takeAsking_71 rfl (lv_at hl 0 rfl) ?_
        refine c_i (Pw := (fun H => H.size = Hn.size ∧ va_P (dC, dI) vwCl [(q_19, .inr (1, [.null, .int 0, .int 0, .int 0]))] H ∧ Sz bs H)) (n := 4) (As := [.ref (sA k), .int a1, .int x_10, .int 1]) (rest := [.ref q_19]) S (q_X0_init l dC dI q_19 Hn.size bs (sA k) a1 x_10 1 (Or.inr rfl)) iw_452 iw_450 iw_451 iw_70 rfl (by decide +kernel) rfl ⟨rfl, rfl, Nat.le_of_ble_eq_true rfl, Nat.le_of_ble_eq_true rfl⟩ Kt.blind (fun U _ h9 => va_K.moved h9.alike hK) ⟨rfl, va_P1 hon, hSn⟩ hl.1 rfl (Nat.le_of_ble_eq_true rfl) dX2_takeAsking_72 ⟨Nat.le_refl _, Nat.le_refl _⟩ hS (fun y9 h9 => hW0.2.2.2.2.2.1.2.2 y9 (by omega)) (fun v9 H locs hB hz9 hk9 hS => ?_)
        obtain ⟨rfl, hP9, hSz9, hle9⟩ := hB
        have hoq : oat dC dI q_19 1 (eA (sA k) (fun i => if i = 1 then a1 else if i = 2 then x_10 else 1)) H := hP9 0 _ rfl
        have hW := Cw.asking hW hk hrs eq_19 (fun y9 h9 => (hk9 y9 (by omega) (by omega)).trans (hfn y9 h9)) (by omega) hSz9 hoq
        refine W.to hsz hbs hS hW ?_
        refine W.eq (g2 := F0 m 75 ls [.ref q_19]) rfl ?_
        exact r_a (o := some q_19) hx hb hr (Or.inl ⟨_, rfl⟩) hlocks hS dX2_takeAsking_75 (⟨_, _, _, rfl, Or.inr rfl, hoq, hW⟩)
  · skip
    have i_8 : (x_7 6).toInt = 1 := by have h9 := pz_eq c_8; exact h9
    refine lv_iconst (v := (-1)) hx hb dX2_takeAsking_28 (by decide) ?_
    refine lv_goto (tgt := 38) hx hb dX2_takeAsking_29 (by decide) ?_
    refine lv_istore_n (lv' := [(2, .int (-1)), (0, .ref (sA k)), (1, .int a1)]) hx hb dX2_takeAsking_38 rfl hl (by decide) rfl (fun ls hl => ?_)
    refine lv_aload_n hx hb dX2_takeAsking_39 rfl (lv_at hl 1 rfl) ?_
    refine S_gp S hK hc_7 5 (by decide) (fun _ => rfl) iw_173 rfl dX2_takeAsking_40 ?_
    refine lv_if_eq (tgt := 62) hx hb dX2_takeAsking_43 (by decide) (fun c_21 => ?_) (fun c_21 => ?_)
    · skip
      have i_21 : (x_7 5).toInt = 0 := by have h9 := pz_eq c_21; exact h9
      refine lv_iconst (v := 0) hx hb dX2_takeAsking_62 (by decide) ?_
      refine lv_istore_n (lv' := [(3, .int 0), (2, .int (-1)), (0, .ref (sA k)), (1, .int a1)]) hx hb dX2_takeAsking_63 rfl hl (by decide) rfl (fun ls hl => ?_)
      obtain ⟨q_22, eq_22⟩ : ∃ q : Nat, q = H.size := ⟨_, rfl⟩
      refine W.ti hsz hbs hS hW ?_
      refine x_new (own := RX2) (C := RX0) (T := TX0) (N := 4) (ci := 1) (fs := [.null, .int 0, .int 0, .int 0]) hx hb hts inX0 tyX0 tyX0_ok hown (hts _ iw_448) (hts _ iw_449) (hts _ iw_70) hK hS rfl (by intro j9 hj9; match j9, hj9 with | 0, _ => rfl | 1, _ => rfl | 2, _ => rfl | 3, _ => rfl) (hW.rone hsz hS (by omega)).1 (Nat.le_trans (Nat.add_le_add_left (by decide) _) (hW.rone hsz hS (by omega)).2) dX2_takeAsking_64 (fun Hn hon hzn hfn hcn hS => ?_)
      have hSn := hW.2.2.2.2.2.1.1.fresh hzn hfn hcn (by decide)
      have hcp := hW.2.2.2.2.2.1.2.1
      refine W.to9 (cp := cp) hsz hbs hS hSn (by omega) ?_
      have hW0 := hW
      refine W.eq (g2 := F0 m 67 ls [.ref q_22]) (by rw [eq_22]) ?_
      rw [← eq_22] at hon
      refine lv_dup hx hb dX2_takeAsking_67 rfl ?_
      refine lv_aload_n hx hb dX2_takeAsking_68 rfl (lv_at hl 2 rfl) ?_
      refine lv_iload_n hx hb dX2_takeAsking_69 rfl (lv_at hl 3 rfl) ?_
      refine lv_iload_n hx hb dX2_takeAsking_70 rfl (lv_at hl 1 rfl) ?_
      refine lv_iload_n hx hb dX2_takeAsking_71 rfl (lv_at hl 0 rfl) ?_
      refine c_i (Pw := (fun H => H.size = Hn.size ∧ va_P (dC, dI) vwCl [(q_22, .inr (1, [.null, .int 0, .int 0, .int 0]))] H ∧ Sz bs H)) (n := 4) (As := [.ref (sA k), .int a1, .int (-1), .int 0]) (rest := [.ref q_22]) S (q_X0_init l dC dI q_22 Hn.size bs (sA k) a1 (-1) 0 (Or.inl rfl)) iw_452 iw_450 iw_451 iw_70 rfl (by decide +kernel) rfl ⟨rfl, rfl, Nat.le_of_ble_eq_true rfl, Nat.le_of_ble_eq_true rfl⟩ Kt.blind (fun U _ h9 => va_K.moved h9.alike hK) ⟨rfl, va_P1 hon, hSn⟩ hl.1 rfl (Nat.le_of_ble_eq_true rfl) dX2_takeAsking_72 ⟨Nat.le_refl _, Nat.le_refl _⟩ hS (fun y9 h9 => hW0.2.2.2.2.2.1.2.2 y9 (by omega)) (fun v9 H locs hB hz9 hk9 hS => ?_)
      obtain ⟨rfl, hP9, hSz9, hle9⟩ := hB
      have hoq : oat dC dI q_22 1 (eA (sA k) (fun i => if i = 1 then a1 else if i = 2 then (-1) else 0)) H := hP9 0 _ rfl
      have hW := Cw.asking hW hk hrs eq_22 (fun y9 h9 => (hk9 y9 (by omega) (by omega)).trans (hfn y9 h9)) (by omega) hSz9 hoq
      refine W.to hsz hbs hS hW ?_
      refine W.eq (g2 := F0 m 75 ls [.ref q_22]) rfl ?_
      exact r_a (o := some q_22) hx hb hr (Or.inl ⟨_, rfl⟩) hlocks hS dX2_takeAsking_75 (⟨_, _, _, rfl, Or.inr rfl, hoq, hW⟩)
    · skip
      have i_21 : ¬ (x_7 5).toInt = 0 := by have h9 := pz_neq c_21; exact h9
      refine lv_aload_n hx hb dX2_takeAsking_46 rfl (lv_at hl 1 rfl) ?_
      refine S_gp S hK hc_7 9 (by decide) (fun _ => rfl) iw_180 rfl dX2_takeAsking_47 ?_
      refine lv_aload_n hx hb dX2_takeAsking_50 rfl (lv_at hl 1 rfl) ?_
      refine S_gp S hK hc_7 5 (by decide) (fun _ => rfl) iw_173 rfl dX2_takeAsking_51 ?_
      refine lv_irem hx hb dX2_takeAsking_54 c_21 ?_
      refine lv_topi (fun x_25 _ => ?_)
      refine lv_if_ne (tgt := 62) hx hb dX2_takeAsking_55 (by decide) (fun c_26 => ?_) (fun c_26 => ?_)
      · skip
        have i_26 : ¬ x_25.toInt = 0 := by have h9 := pz_neq c_26; exact h9
        refine lv_iconst (v := 0) hx hb dX2_takeAsking_62 (by decide) ?_
        refine lv_istore_n (lv' := [(3, .int 0), (2, .int (-1)), (0, .ref (sA k)), (1, .int a1)]) hx hb dX2_takeAsking_63 rfl hl (by decide) rfl (fun ls hl => ?_)
        obtain ⟨q_27, eq_27⟩ : ∃ q : Nat, q = H.size := ⟨_, rfl⟩
        refine W.ti hsz hbs hS hW ?_
        refine x_new (own := RX2) (C := RX0) (T := TX0) (N := 4) (ci := 1) (fs := [.null, .int 0, .int 0, .int 0]) hx hb hts inX0 tyX0 tyX0_ok hown (hts _ iw_448) (hts _ iw_449) (hts _ iw_70) hK hS rfl (by intro j9 hj9; match j9, hj9 with | 0, _ => rfl | 1, _ => rfl | 2, _ => rfl | 3, _ => rfl) (hW.rone hsz hS (by omega)).1 (Nat.le_trans (Nat.add_le_add_left (by decide) _) (hW.rone hsz hS (by omega)).2) dX2_takeAsking_64 (fun Hn hon hzn hfn hcn hS => ?_)
        have hSn := hW.2.2.2.2.2.1.1.fresh hzn hfn hcn (by decide)
        have hcp := hW.2.2.2.2.2.1.2.1
        refine W.to9 (cp := cp) hsz hbs hS hSn (by omega) ?_
        have hW0 := hW
        refine W.eq (g2 := F0 m 67 ls [.ref q_27]) (by rw [eq_27]) ?_
        rw [← eq_27] at hon
        refine lv_dup hx hb dX2_takeAsking_67 rfl ?_
        refine lv_aload_n hx hb dX2_takeAsking_68 rfl (lv_at hl 2 rfl) ?_
        refine lv_iload_n hx hb dX2_takeAsking_69 rfl (lv_at hl 3 rfl) ?_
        refine lv_iload_n hx hb dX2_takeAsking_70 rfl (lv_at hl 1 rfl) ?_
        refine lv_iload_n hx hb dX2_takeAsking_71 rfl (lv_at hl 0 rfl) ?_
        refine c_i (Pw := (fun H => H.size = Hn.size ∧ va_P (dC, dI) vwCl [(q_27, .inr (1, [.null, .int 0, .int 0, .int 0]))] H ∧ Sz bs H)) (n := 4) (As := [.ref (sA k), .int a1, .int (-1), .int 0]) (rest := [.ref q_27]) S (q_X0_init l dC dI q_27 Hn.size bs (sA k) a1 (-1) 0 (Or.inl rfl)) iw_452 iw_450 iw_451 iw_70 rfl (by decide +kernel) rfl ⟨rfl, rfl, Nat.le_of_ble_eq_true rfl, Nat.le_of_ble_eq_true rfl⟩ Kt.blind (fun U _ h9 => va_K.moved h9.alike hK) ⟨rfl, va_P1 hon, hSn⟩ hl.1 rfl (Nat.le_of_ble_eq_true rfl) dX2_takeAsking_72 ⟨Nat.le_refl _, Nat.le_refl _⟩ hS (fun y9 h9 => hW0.2.2.2.2.2.1.2.2 y9 (by omega)) (fun v9 H locs hB hz9 hk9 hS => ?_)
        obtain ⟨rfl, hP9, hSz9, hle9⟩ := hB
        have hoq : oat dC dI q_27 1 (eA (sA k) (fun i => if i = 1 then a1 else if i = 2 then (-1) else 0)) H := hP9 0 _ rfl
        have hW := Cw.asking hW hk hrs eq_27 (fun y9 h9 => (hk9 y9 (by omega) (by omega)).trans (hfn y9 h9)) (by omega) hSz9 hoq
        refine W.to hsz hbs hS hW ?_
        refine W.eq (g2 := F0 m 75 ls [.ref q_27]) rfl ?_
        exact r_a (o := some q_27) hx hb hr (Or.inl ⟨_, rfl⟩) hlocks hS dX2_takeAsking_75 (⟨_, _, _, rfl, Or.inr rfl, hoq, hW⟩)
      · skip
        have i_26 : x_25.toInt = 0 := by have h9 := pz_eq c_26; exact h9
        refine lv_iconst (v := 1) hx hb dX2_takeAsking_58 (by decide) ?_
        refine lv_goto (tgt := 63) hx hb dX2_takeAsking_59 (by decide) ?_
        refine lv_istore_n (lv' := [(3, .int 1), (2, .int (-1)), (0, .ref (sA k)), (1, .int a1)]) hx hb dX2_takeAsking_63 rfl hl (by decide) rfl (fun ls hl => ?_)
        obtain ⟨q_28, eq_28⟩ : ∃ q : Nat, q = H.size := ⟨_, rfl⟩
        refine W.ti hsz hbs hS hW ?_
        refine x_new (own := RX2) (C := RX0) (T := TX0) (N := 4) (ci := 1) (fs := [.null, .int 0, .int 0, .int 0]) hx hb hts inX0 tyX0 tyX0_ok hown (hts _ iw_448) (hts _ iw_449) (hts _ iw_70) hK hS rfl (by intro j9 hj9; match j9, hj9 with | 0, _ => rfl | 1, _ => rfl | 2, _ => rfl | 3, _ => rfl) (hW.rone hsz hS (by omega)).1 (Nat.le_trans (Nat.add_le_add_left (by decide) _) (hW.rone hsz hS (by omega)).2) dX2_takeAsking_64 (fun Hn hon hzn hfn hcn hS => ?_)
        have hSn := hW.2.2.2.2.2.1.1.fresh hzn hfn hcn (by decide)
        have hcp := hW.2.2.2.2.2.1.2.1
        refine W.to9 (cp := cp) hsz hbs hS hSn (by omega) ?_
        have hW0 := hW
        refine W.eq (g2 := F0 m 67 ls [.ref q_28]) (by rw [eq_28]) ?_
        rw [← eq_28] at hon
        refine lv_dup hx hb dX2_takeAsking_67 rfl ?_
        refine lv_aload_n hx hb dX2_takeAsking_68 rfl (lv_at hl 2 rfl) ?_
        refine lv_iload_n hx hb dX2_takeAsking_69 rfl (lv_at hl 3 rfl) ?_
        refine lv_iload_n hx hb dX2_takeAsking_70 rfl (lv_at hl 1 rfl) ?_
        refine lv_iload_n hx hb dX2_takeAsking_71 rfl (lv_at hl 0 rfl) ?_
        refine c_i (Pw := (fun H => H.size = Hn.size ∧ va_P (dC, dI) vwCl [(q_28, .inr (1, [.null, .int 0, .int 0, .int 0]))] H ∧ Sz bs H)) (n := 4) (As := [.ref (sA k), .int a1, .int (-1), .int 1]) (rest := [.ref q_28]) S (q_X0_init l dC dI q_28 Hn.size bs (sA k) a1 (-1) 1 (Or.inr rfl)) iw_452 iw_450 iw_451 iw_70 rfl (by decide +kernel) rfl ⟨rfl, rfl, Nat.le_of_ble_eq_true rfl, Nat.le_of_ble_eq_true rfl⟩ Kt.blind (fun U _ h9 => va_K.moved h9.alike hK) ⟨rfl, va_P1 hon, hSn⟩ hl.1 rfl (Nat.le_of_ble_eq_true rfl) dX2_takeAsking_72 ⟨Nat.le_refl _, Nat.le_refl _⟩ hS (fun y9 h9 => hW0.2.2.2.2.2.1.2.2 y9 (by omega)) (fun v9 H locs hB hz9 hk9 hS => ?_)
        obtain ⟨rfl, hP9, hSz9, hle9⟩ := hB
        have hoq : oat dC dI q_28 1 (eA (sA k) (fun i => if i = 1 then a1 else if i = 2 then (-1) else 1)) H := hP9 0 _ rfl
        have hW := Cw.asking hW hk hrs eq_28 (fun y9 h9 => (hk9 y9 (by omega) (by omega)).trans (hfn y9 h9)) (by omega) hSz9 hoq
        refine W.to hsz hbs hS hW ?_
        refine W.eq (g2 := F0 m 75 ls [.ref q_28]) rfl ?_
        exact r_a (o := some q_28) hx hb hr (Or.inl ⟨_, rfl⟩) hlocks hS dX2_takeAsking_75 (⟨_, _, _, rfl, Or.inr rfl, hoq, hW⟩)

abbrev B_q_X1_begin (dC : Nat → ClassId) (dI : Nat → Nat → Nat) (z : Nat) (mi : Nat) (A : Nat → Prop) (bs : Nat) (cp : Nat) (h0 : Nat) (la : Nat → Nat) (sA : Nat → Nat) (cA : Nat → Nat) (ns : Nat) (nc : Nat) (dr : Nat → Prop) (X : Nat → Int32) (P : Nat → Prop) (tr : Nat → Int32) (nl : Nat) (nq : Nat) (rs : Nat) (k : Nat) (j : Nat) (a : Nat) : Option Value → Heap → Prop := fun v H => v = none ∧ Cw dC dI z A bs cp h0 la sA cA ns nc dr X P (va_up tr k (tr k ||| (1 <<< (nI j &&& 31)))) nl nq rs H
set_option maxHeartbeats 8000000 in
set_option maxRecDepth 20000 in
theorem q_X1_begin (l : Launch) (dC : Nat → ClassId) (dI : Nat → Nat → Nat) (z : Nat) (mi : Nat) (A : Nat → Prop) (bs : Nat) (cp : Nat) (h0 : Nat) (la : Nat → Nat) (sA : Nat → Nat) (cA : Nat → Nat) (ns : Nat) (nc : Nat) (dr : Nat → Prop) (X : Nat → Int32) (P : Nat → Prop) (tr : Nat → Int32) (nl : Nat) (nq : Nat) (rs : Nat) (k : Nat) (j : Nat) (a : Nat) (hk : k < nc) (hj : j < ns) (hPa : P a) : Met l yX1_begin (cws yX1_begin cX1_begin 2 none) { frames := 0, cells := 0, slots := 0, locals := 0 } (va_Pc [.ref (cA k), .ref a] (fun U => KZ dC dI z mi A U ∧ (fun H => (∃ w : Nat → Int32, oat dC dI a 1 (eA (sA j) w) H) ∧ Cw dC dI z A bs cp h0 la sA cA ns nc dr X P tr nl nq rs H) U.heap)) (Qg (B_q_X1_begin dC dI z mi A bs cp h0 la sA cA ns nc dr X P tr nl nq rs k j a) A) 0 0 A := by
  refine m_start (KK := KZ dC dI z mi A) (Pw := (fun H => (∃ w : Nat → Int32, oat dC dI a 1 (eA (sA j) w) H) ∧ Cw dC dI z A bs cp h0 la sA cA ns nc dr X P tr nl nq rs H)) (by decide) (Nat.le_of_ble_eq_true rfl) ?_
  intro p e s m below meth c ls S hr hlocks hin hKZ hW hS hl
  obtain ⟨hx, hb, hml, hown, hts⟩ := id S
  obtain ⟨⟨w9, hq9⟩, hW⟩ := hW
  have hK := hKZ.1
  obtain ⟨hns, hnc, hnl, ag, hag, hXg, hnq⟩ := id hW.2.2.2.2.2.2
  have hagn : agn X = ag := agn_of hXg hag
  have hl : lv_has ls 2 [(0, .ref (cA k)), (1, .ref a)] := hl
  have en_k : (nI k).toInt = ((k : Nat) : Int) := pz_ti (by omega)
  have en_j : (nI j).toInt = ((j : Nat) : Int) := pz_ti (by omega)
  refine lv_aload_n hx hb dX1_begin_0 rfl (lv_at hl 0 rfl) ?_
  obtain ⟨-, y_1, p_1, q_1, hc_1, ⟨h0_1, h7_1⟩, hp_1, hq_1⟩ := hW.2.2.2.1 k (by omega)
  refine C_gp (v := va_rf p_1) S hK hc_1 10 (by decide) rfl iw_375 rfl dX1_begin_1 ?_
  rcases p_1 with _ | a_1
  · skip
    refine W.eq (g2 := F0 m 4 ls [.null]) rfl ?_
    refine lv_ifnonnullN hx hb dX1_begin_4 ?_
    refine lv_aload_n hx hb dX1_begin_7 rfl (lv_at hl 0 rfl) ?_
    refine lv_aload_n hx hb dX1_begin_8 rfl (lv_at hl 1 rfl) ?_
    refine C_put10x (o := some a) S hK hW hS (k := k) (by omega) iw_375 rfl dX1_begin_9 (fun r9 h9 => by cases h9; exact hPa) (fun H locs hO hW1 hS => ?_)
    replace hq9 := Cw.one0 hK hW (by omega) hO hq9
    have hW := hW1
    refine lv_goto (tgt := 20) hx hb dX1_begin_12 (by decide) ?_
    refine lv_aload_n hx hb dX1_begin_20 rfl (lv_at hl 0 rfl) ?_
    refine lv_dup hx hb dX1_begin_21 rfl ?_
    obtain ⟨-, y_2, p_2, q_2, hc_2, ⟨h0_2, h7_2⟩, hp_2, hq_2⟩ := hW.2.2.2.1 k (by omega)
    refine C_gp (v := .int (y_2 7)) S hK hc_2 7 (by decide) rfl iw_369 rfl dX1_begin_22 ?_
    rw [h7_2]
    refine lv_iconst (v := 1) hx hb dX1_begin_25 (by decide) ?_
    refine lv_aload_n hx hb dX1_begin_26 rfl (lv_at hl 1 rfl) ?_
    refine A_get0x S hK hq9 iw_455 rfl dX1_begin_27 ?_
    obtain ⟨-, x_3, hc_3, h0_3, hd_3⟩ := hW.2.2.1 j (by omega)
    refine S_gp S hK hc_3 0 (by decide) (fun _ => rfl) iw_166 rfl dX1_begin_30 ?_
    rw [h0_3]
    refine lv_ishl hx hb dX1_begin_33 ?_
    refine lv_ior hx hb dX1_begin_34 ?_
    refine C_putt S hK hW hS (k := k) (by omega) 7 (by decide) (by decide) (fun _ _ _ => rfl) iw_369 rfl rfl (by decide +kernel) rfl (va_up tr k ((tr k) ||| (1 <<< ((nI j) &&& 31)))) (fun y9 h9 => vu_s.trans vu_s.symm) (fun i9 h9 => vu_n h9) dX1_begin_35 (fun H locs hW hS => ?_)
    refine lv_aload_n hx hb dX1_begin_38 rfl (lv_at hl 0 rfl) ?_
    refine lv_iconst (v := 1) hx hb dX1_begin_39 (by decide) ?_
    refine C_put S hK hW hS (k := k) (by omega) 6 (by decide) (by decide) (by decide) (fun _ _ _ => rfl) iw_367 rfl rfl (by decide +kernel) rfl dX1_begin_40 (fun H locs hW hS => ?_)
    exact r_v hx hb hr hlocks hS dX1_begin_43 (⟨rfl, hW⟩)
  · skip
    have hP_1 : P a_1 := hp_1 _ rfl
    refine W.eq (g2 := F0 m 4 ls [.ref a_1]) rfl ?_
    refine lv_ifnonnull (tgt := 15) hx hb dX1_begin_4 (by decide) ?_
    refine lv_aload_n hx hb dX1_begin_15 rfl (lv_at hl 0 rfl) ?_
    refine lv_aload_n hx hb dX1_begin_16 rfl (lv_at hl 1 rfl) ?_
    refine C_put11x (o := some a) S hK hW hS (k := k) (by omega) iw_377 rfl dX1_begin_17 (fun r9 h9 => by cases h9; exact hPa) (fun H locs hO hW1 hS => ?_)
    replace hq9 := Cw.one0 hK hW (by omega) hO hq9
    have hW := hW1
    refine lv_aload_n hx hb dX1_begin_20 rfl (lv_at hl 0 rfl) ?_
    refine lv_dup hx hb dX1_begin_21 rfl ?_
    obtain ⟨-, y_6, p_6, q_6, hc_6, ⟨h0_6, h7_6⟩, hp_6, hq_6⟩ := hW.2.2.2.1 k (by omega)
    refine C_gp (v := .int (y_6 7)) S hK hc_6 7 (by decide) rfl iw_369 rfl dX1_begin_22 ?_
    rw [h7_6]
    refine lv_iconst (v := 1) hx hb dX1_begin_25 (by decide) ?_
    refine lv_aload_n hx hb dX1_begin_26 rfl (lv_at hl 1 rfl) ?_
    refine A_get0x S hK hq9 iw_455 rfl dX1_begin_27 ?_
    obtain ⟨-, x_7, hc_7, h0_7, hd_7⟩ := hW.2.2.1 j (by omega)
    refine S_gp S hK hc_7 0 (by decide) (fun _ => rfl) iw_166 rfl dX1_begin_30 ?_
    rw [h0_7]
    refine lv_ishl hx hb dX1_begin_33 ?_
    refine lv_ior hx hb dX1_begin_34 ?_
    refine C_putt S hK hW hS (k := k) (by omega) 7 (by decide) (by decide) (fun _ _ _ => rfl) iw_369 rfl rfl (by decide +kernel) rfl (va_up tr k ((tr k) ||| (1 <<< ((nI j) &&& 31)))) (fun y9 h9 => vu_s.trans vu_s.symm) (fun i9 h9 => vu_n h9) dX1_begin_35 (fun H locs hW hS => ?_)
    refine lv_aload_n hx hb dX1_begin_38 rfl (lv_at hl 0 rfl) ?_
    refine lv_iconst (v := 1) hx hb dX1_begin_39 (by decide) ?_
    refine C_put S hK hW hS (k := k) (by omega) 6 (by decide) (by decide) (by decide) (fun _ _ _ => rfl) iw_367 rfl rfl (by decide +kernel) rfl dX1_begin_40 (fun H locs hW hS => ?_)
    exact r_v hx hb hr hlocks hS dX1_begin_43 (⟨rfl, hW⟩)

abbrev B_q_X3_askByRule (dC : Nat → ClassId) (dI : Nat → Nat → Nat) (z : Nat) (mi : Nat) (A : Nat → Prop) (bs : Nat) (cp : Nat) (h0 : Nat) (la : Nat → Nat) (sA : Nat → Nat) (cA : Nat → Nat) (ns : Nat) (nc : Nat) (dr : Nat → Prop) (X : Nat → Int32) (P : Nat → Prop) (tr : Nat → Int32) (nl : Nat) (nq : Nat) (rs : Nat) (sz : Nat) (k : Nat) (xr : Nat) : Option Value → Heap → Prop := fun v H => ∃ (r : Int32) (P1 : Nat → Prop) (tr1 : Nat → Int32) (rs1 : Nat), v = some (.int r) ∧ smc tr1 nc + (200 - agn X) + xr ≤ rs1 ∧ Cw dC dI z A bs cp h0 la sA cA ns nc dr X P1 tr1 nl nq rs1 H
set_option maxHeartbeats 8000000 in
set_option maxRecDepth 20000 in
theorem q_X3_askByRule (l : Launch) (dC : Nat → ClassId) (dI : Nat → Nat → Nat) (z : Nat) (mi : Nat) (A : Nat → Prop) (bs : Nat) (cp : Nat) (h0 : Nat) (la : Nat → Nat) (sA : Nat → Nat) (cA : Nat → Nat) (ns : Nat) (nc : Nat) (dr : Nat → Prop) (X : Nat → Int32) (P : Nat → Prop) (tr : Nat → Int32) (nl : Nat) (nq : Nat) (rs : Nat) (sz : Nat) (k : Nat) (xr : Nat) (hbs : bs ≤ sz) (hk : k < nc) (hnd : smc tr nc + (200 - agn X) + xr ≤ rs) : Met l yX3_askByRule (cws yX3_askByRule cX3_askByRule 3 (some .boolean)) { frames := 5, cells := (cp - sz), slots := (610 * (cp - sz)), locals := 113 } (va_Pc [.ref h0, .ref (cA k)] (fun U => KZ dC dI z mi A U ∧ (fun H => H.size = sz ∧ Cw dC dI z A bs cp h0 la sA cA ns nc dr X P tr nl nq rs H) U.heap)) (Qg (B_q_X3_askByRule dC dI z mi A bs cp h0 la sA cA ns nc dr X P tr nl nq rs sz k xr) A) (cp - sz) (610 * (cp - sz)) A := by
  refine m_start (KK := KZ dC dI z mi A) (Pw := (fun H => H.size = sz ∧ Cw dC dI z A bs cp h0 la sA cA ns nc dr X P tr nl nq rs H)) (by decide) (Nat.le_of_ble_eq_true rfl) ?_
  intro p e s m below meth c ls S hr hlocks hin hKZ hW hS hl
  obtain ⟨hx, hb, hml, hown, hts⟩ := id S
  obtain ⟨hsz, hW⟩ := hW
  have hK := hKZ.1
  obtain ⟨hns, hnc, hnl, ag, hag, hXg, hnq⟩ := id hW.2.2.2.2.2.2
  have hagn : agn X = ag := agn_of hXg hag
  have hl : lv_has ls 3 [(0, .ref h0), (1, .ref (cA k))] := hl
  have en_k : (nI k).toInt = ((k : Nat) : Int) := pz_ti (by omega)
  refine W.to hsz hbs hS hW ?_
  refine lv_aload_n hx hb dX3_askByRule_0 rfl (lv_at hl 0 rfl) ?_
  refine lv_aload_n hx hb dX3_askByRule_1 rfl (lv_at hl 1 rfl) ?_
  obtain ⟨-, y_1, p_1, q_1, hc_1, ⟨h0_1, h7_1⟩, hp_1, hq_1⟩ := hW.2.2.2.1 k (by omega)
  refine C_gp (v := .int (y_1 1)) S hK hc_1 1 (by decide) rfl iw_360 rfl dX3_askByRule_2 ?_
  refine lv_aload_n hx hb dX3_askByRule_5 rfl (lv_at hl 1 rfl) ?_
  refine C_gp (v := .int (y_1 7)) S hK hc_1 7 (by decide) rfl iw_370 rfl dX3_askByRule_6 ?_
  rw [h7_1]
  refine c_v (Pw := Cw dC dI z A bs cp h0 la sA cA ns nc dr X P tr nl nq rs) (n := 2) (As := [.int (y_1 1), .int (tr k)]) (rest := []) S (q_X3_chosen l dC dI z mi A bs cp h0 la sA cA ns nc dr X P tr nl nq rs (y_1 1) (tr k)) iw_411 iw_408 iw_410 iw_6 iw_57 (by decide +kernel) rfl ⟨rfl, rfl, Nat.le_of_ble_eq_true rfl, Nat.le_of_ble_eq_true rfl⟩ KZ.blind (D_recv hK hW) (hKZ.at hS (fun _ h9 => h9)) hW hl.1 rfl (Nat.le_of_ble_eq_true rfl) dX3_askByRule_9 ⟨Nat.le_refl _, Nat.le_refl _⟩ hS (fun _ h9 => h9) (fun v9 H locs hB hz9 hk9 hS => ?_)
  refine W.widen (k := cp - sz) (n := 610 * (cp - sz)) (Nat.le_refl _) (Nat.le_refl _) ?_
  obtain ⟨o_3, rfl, ho_3, hW⟩ := hB
  rcases ho_3 with rfl | ⟨k_3, hk_3, rfl, hm_3⟩
  · skip
    refine W.eq (g2 := F0 m 12 ls [.null]) rfl ?_
    refine lv_astore_nN (lv' := [(2, .null), (0, .ref h0), (1, .ref (cA k))]) hx hb dX3_askByRule_12 rfl hl (by decide) rfl (fun ls hl => ?_)
    refine lv_aload_nN hx hb dX3_askByRule_13 rfl (lv_at hl 0 rfl) ?_
    refine lv_ifnonnullN hx hb dX3_askByRule_14 ?_
    refine lv_iconst (v := 0) hx hb dX3_askByRule_17 (by decide) ?_
    exact r_z (v := 0) hx hb hr rfl hlocks hS dX3_askByRule_18 (⟨_, P, tr, rs, rfl, by omega, hW⟩)
  · skip
    refine W.eq (g2 := F0 m 12 ls [.ref (sA k_3)]) rfl ?_
    refine lv_astore_n (lv' := [(2, .ref (sA k_3)), (0, .ref h0), (1, .ref (cA k))]) hx hb dX3_askByRule_12 rfl hl (by decide) rfl (fun ls hl => ?_)
    refine lv_aload_n hx hb dX3_askByRule_13 rfl (lv_at hl 0 rfl) ?_
    refine lv_ifnonnull (tgt := 19) hx hb dX3_askByRule_14 (by decide) ?_
    refine lv_aload_n hx hb dX3_askByRule_19 rfl (lv_at hl 1 rfl) ?_
    refine D_get S hK hW 6 (by decide) (fun _ => rfl) iw_111 rfl dX3_askByRule_20 (fun x_4 hx_4 => ?_)
    replace hx_4 := hx_4 (by decide) (by decide)
    refine lv_if_ne (tgt := 35) hx hb dX3_askByRule_23 (by decide) (fun c_5 => ?_) (fun c_5 => ?_)
    · skip
      have i_5 : ¬ x_4.toInt = 0 := by have h9 := pz_neq c_5; exact h9
      have hsm_6 := smc_set (tr := tr) (k := k) (j := k_3) (n := nc) (by omega) (by omega) hm_3
      refine lv_aload_n hx hb dX3_askByRule_35 rfl (lv_at hl 2 rfl) ?_
      refine lv_aload_n hx hb dX3_askByRule_36 rfl (lv_at hl 0 rfl) ?_
      refine lv_aload_n hx hb dX3_askByRule_37 rfl (lv_at hl 1 rfl) ?_
      refine D_get S hK hW 5 (by decide) (fun _ => rfl) iw_110 rfl dX3_askByRule_38 (fun x_7 hx_7 => ?_)
      refine W.ti hsz hbs hS hW ?_
      refine c_v (Pw := fun H9 => H9.size = H.size ∧ Cw dC dI z A bs cp h0 la sA cA ns nc dr X P tr nl nq rs H9) (n := 1) (As := [.int x_7]) (rest := [.ref (cA k)]) S (q_X2_takeAsking l dC dI z mi A bs cp h0 la sA cA ns nc dr X P tr nl nq rs H.size k_3 x_7 (by have h9 := hS.1; omega) (by omega) (by omega)) iw_447 iw_444 iw_445 iw_446 iw_62 (by decide +kernel) rfl ⟨rfl, rfl, Nat.le_of_ble_eq_true rfl, Nat.le_of_ble_eq_true rfl⟩ KZ.blind (S_recv hK hW (by omega)) (hKZ.at hS (fun _ h9 => h9)) ⟨rfl, hW⟩ hl.1 rfl (Nat.le_of_ble_eq_true rfl) dX3_askByRule_41 (hW.rok hsz hS) hS (fun _ h9 => h9) (fun v9 H locs hB hz9 hk9 hS => ?_)
      obtain ⟨q_8, P_8, w_8, rfl, hPq_8, hoq_8, hW⟩ := hB
      refine W.to hsz hbs hS hW ?_
      refine W.eq (g2 := F0 m 44 ls [.ref q_8, .ref (cA k)]) rfl ?_
      refine c_v (Pw := fun H9 => (∃ w : Nat → Int32, oat dC dI q_8 1 (eA (sA k_3) w) H9) ∧ Cw dC dI z A bs cp h0 la sA cA ns nc dr X P_8 tr nl nq (rs - 1) H9) (n := 1) (As := [.ref q_8]) (rest := []) S (q_X1_begin l dC dI z mi A bs cp h0 la sA cA ns nc dr X P_8 tr nl nq (rs - 1) k k_3 q_8 (by omega) (by omega) hPq_8) iw_475 iw_472 iw_473 iw_474 iw_69 (by decide +kernel) rfl ⟨rfl, rfl, Nat.le_of_ble_eq_true rfl, Nat.le_of_ble_eq_true rfl⟩ KZ.blind (C_recv hK hW (by omega)) (hKZ.at hS (fun _ h9 => h9)) ⟨⟨_, hoq_8⟩, hW⟩ hl.1 rfl (Nat.le_of_ble_eq_true rfl) dX3_askByRule_44 ⟨Nat.le_refl _, Nat.le_refl _⟩ hS (fun _ h9 => h9) (fun v9 H locs hB hz9 hk9 hS => ?_)
      refine W.widen (k := cp - sz) (n := 610 * (cp - sz)) (Nat.le_refl _) (Nat.le_refl _) ?_
      obtain ⟨rfl, hW⟩ := hB
      refine W.eq (g2 := F0 m 47 ls []) rfl ?_
      refine lv_iconst (v := 1) hx hb dX3_askByRule_47 (by decide) ?_
      exact r_z (v := 1) hx hb hr rfl hlocks hS dX3_askByRule_48 (⟨_, P_8, (va_up tr k (tr k ||| (1 <<< (nI k_3 &&& 31)))), (rs - 1), rfl, by omega, hW⟩)
    · skip
      have i_5 : x_4.toInt = 0 := by have h9 := pz_eq c_5; exact h9
      refine lv_aload_n hx hb dX3_askByRule_26 rfl (lv_at hl 1 rfl) ?_
      refine lv_aload_n hx hb dX3_askByRule_27 rfl (lv_at hl 2 rfl) ?_
      obtain ⟨-, y_9, p_9, q_9, hc_9, ⟨h0_9, h7_9⟩, hp_9, hq_9⟩ := hW.2.2.2.1 k (by omega)
      refine C_gp (v := .int (y_9 7)) S hK hc_9 7 (by decide) rfl iw_370 rfl dX3_askByRule_28 ?_
      rw [h7_9]
      refine lv_aload_n hx hb dX3_askByRule_31 rfl (lv_at hl 0 rfl) ?_
      refine c_v (Pw := Cw dC dI z A bs cp h0 la sA cA ns nc dr X P tr nl nq rs) (n := 2) (As := [.int (tr k), .ref (sA k_3)]) (rest := []) S (q_X3_settleCredits l dC dI z mi A bs cp h0 la sA cA ns nc dr X P tr nl nq rs (tr k) k_3 (by omega)) iw_443 iw_440 iw_442 iw_10 iw_57 (by decide +kernel) rfl ⟨rfl, rfl, Nat.le_of_ble_eq_true rfl, Nat.le_of_ble_eq_true rfl⟩ KZ.blind (D_recv hK hW) (hKZ.at hS (fun _ h9 => h9)) hW hl.1 rfl (Nat.le_of_ble_eq_true rfl) dX3_askByRule_32 ⟨Nat.le_refl _, Nat.le_refl _⟩ hS (fun _ h9 => h9) (fun v9 H locs hB hz9 hk9 hS => ?_)
      refine W.widen (k := cp - sz) (n := 610 * (cp - sz)) (Nat.le_refl _) (Nat.le_refl _) ?_
      obtain ⟨rfl, hW⟩ := hB
      refine W.eq (g2 := F0 m 35 ls []) rfl ?_
      have hsm_10 := smc_set (tr := tr) (k := k) (j := k_3) (n := nc) (by omega) (by omega) hm_3
      refine lv_aload_n hx hb dX3_askByRule_35 rfl (lv_at hl 2 rfl) ?_
      refine lv_aload_n hx hb dX3_askByRule_36 rfl (lv_at hl 0 rfl) ?_
      refine lv_aload_n hx hb dX3_askByRule_37 rfl (lv_at hl 1 rfl) ?_
      refine D_get S hK hW 5 (by decide) (fun _ => rfl) iw_110 rfl dX3_askByRule_38 (fun x_11 hx_11 => ?_)
      refine W.ti hsz hbs hS hW ?_
      refine c_v (Pw := fun H9 => H9.size = H.size ∧ Cw dC dI z A bs cp h0 la sA cA ns nc dr X P tr nl nq rs H9) (n := 1) (As := [.int x_11]) (rest := [.ref (cA k)]) S (q_X2_takeAsking l dC dI z mi A bs cp h0 la sA cA ns nc dr X P tr nl nq rs H.size k_3 x_11 (by have h9 := hS.1; omega) (by omega) (by omega)) iw_447 iw_444 iw_445 iw_446 iw_62 (by decide +kernel) rfl ⟨rfl, rfl, Nat.le_of_ble_eq_true rfl, Nat.le_of_ble_eq_true rfl⟩ KZ.blind (S_recv hK hW (by omega)) (hKZ.at hS (fun _ h9 => h9)) ⟨rfl, hW⟩ hl.1 rfl (Nat.le_of_ble_eq_true rfl) dX3_askByRule_41 (hW.rok hsz hS) hS (fun _ h9 => h9) (fun v9 H locs hB hz9 hk9 hS => ?_)
      obtain ⟨q_12, P_12, w_12, rfl, hPq_12, hoq_12, hW⟩ := hB
      refine W.to hsz hbs hS hW ?_
      refine W.eq (g2 := F0 m 44 ls [.ref q_12, .ref (cA k)]) rfl ?_
      refine c_v (Pw := fun H9 => (∃ w : Nat → Int32, oat dC dI q_12 1 (eA (sA k_3) w) H9) ∧ Cw dC dI z A bs cp h0 la sA cA ns nc dr X P_12 tr nl nq (rs - 1) H9) (n := 1) (As := [.ref q_12]) (rest := []) S (q_X1_begin l dC dI z mi A bs cp h0 la sA cA ns nc dr X P_12 tr nl nq (rs - 1) k k_3 q_12 (by omega) (by omega) hPq_12) iw_475 iw_472 iw_473 iw_474 iw_69 (by decide +kernel) rfl ⟨rfl, rfl, Nat.le_of_ble_eq_true rfl, Nat.le_of_ble_eq_true rfl⟩ KZ.blind (C_recv hK hW (by omega)) (hKZ.at hS (fun _ h9 => h9)) ⟨⟨_, hoq_12⟩, hW⟩ hl.1 rfl (Nat.le_of_ble_eq_true rfl) dX3_askByRule_44 ⟨Nat.le_refl _, Nat.le_refl _⟩ hS (fun _ h9 => h9) (fun v9 H locs hB hz9 hk9 hS => ?_)
      refine W.widen (k := cp - sz) (n := 610 * (cp - sz)) (Nat.le_refl _) (Nat.le_refl _) ?_
      obtain ⟨rfl, hW⟩ := hB
      refine W.eq (g2 := F0 m 47 ls []) rfl ?_
      refine lv_iconst (v := 1) hx hb dX3_askByRule_47 (by decide) ?_
      exact r_z (v := 1) hx hb hr rfl hlocks hS dX3_askByRule_48 (⟨_, P_12, (va_up tr k (tr k ||| (1 <<< (nI k_3 &&& 31)))), (rs - 1), rfl, by omega, hW⟩)

abbrev B_q_X3_joinLine (dC : Nat → ClassId) (dI : Nat → Nat → Nat) (z : Nat) (mi : Nat) (A : Nat → Prop) (bs : Nat) (cp : Nat) (h0 : Nat) (la : Nat → Nat) (sA : Nat → Nat) (cA : Nat → Nat) (ns : Nat) (nc : Nat) (dr : Nat → Prop) (X : Nat → Int32) (P : Nat → Prop) (tr : Nat → Int32) (nl : Nat) (nq : Nat) (rs : Nat) (sz : Nat) (k : Nat) : Option Value → Heap → Prop := fun v H => v = none ∧ Cw dC dI z A bs cp h0 la sA cA ns nc dr X P tr nl (nq + 1) (rs - 1) H
set_option maxHeartbeats 8000000 in
set_option maxRecDepth 20000 in
theorem q_X3_joinLine (l : Launch) (dC : Nat → ClassId) (dI : Nat → Nat → Nat) (z : Nat) (mi : Nat) (A : Nat → Prop) (bs : Nat) (cp : Nat) (h0 : Nat) (la : Nat → Nat) (sA : Nat → Nat) (cA : Nat → Nat) (ns : Nat) (nc : Nat) (dr : Nat → Prop) (X : Nat → Int32) (P : Nat → Prop) (tr : Nat → Int32) (nl : Nat) (nq : Nat) (rs : Nat) (sz : Nat) (k : Nat) (hbs : bs ≤ sz) (hk : k < nc) (hq : ∃ ag, ag ≤ 200 ∧ X 10 = nI ag ∧ nq < nc + ag) (hrs : 1 ≤ rs) : Met l yX3_joinLine (cws yX3_joinLine cX3_joinLine 3 none) { frames := 7, cells := (cp - sz), slots := (610 * (cp - sz)), locals := 200 } (va_Pc [.ref h0, .ref (cA k)] (fun U => KZ dC dI z mi A U ∧ (fun H => H.size = sz ∧ Cw dC dI z A bs cp h0 la sA cA ns nc dr X P tr nl nq rs H) U.heap)) (Qg (B_q_X3_joinLine dC dI z mi A bs cp h0 la sA cA ns nc dr X P tr nl nq rs sz k) A) (cp - sz) (610 * (cp - sz)) A := by
  refine m_start (KK := KZ dC dI z mi A) (Pw := (fun H => H.size = sz ∧ Cw dC dI z A bs cp h0 la sA cA ns nc dr X P tr nl nq rs H)) (by decide) (Nat.le_of_ble_eq_true rfl) ?_
  intro p e s m below meth c ls S hr hlocks hin hKZ hW hS hl
  obtain ⟨hx, hb, hml, hown, hts⟩ := id S
  obtain ⟨hsz, hW⟩ := hW
  have hK := hKZ.1
  obtain ⟨hns, hnc, hnl, ag, hag, hXg, hnq⟩ := id hW.2.2.2.2.2.2
  have hagn : agn X = ag := agn_of hXg hag
  have hl : lv_has ls 3 [(0, .ref h0), (1, .ref (cA k))] := hl
  have en_k : (nI k).toInt = ((k : Nat) : Int) := pz_ti (by omega)
  refine W.to hsz hbs hS hW ?_
  refine lv_aload_n hx hb dX3_joinLine_0 rfl (lv_at hl 1 rfl) ?_
  refine lv_iconst (v := 0) hx hb dX3_joinLine_1 (by decide) ?_
  refine C_put S hK hW hS (k := k) (by omega) 6 (by decide) (by decide) (by decide) (fun _ _ _ => rfl) iw_368 rfl rfl (by decide +kernel) rfl dX3_joinLine_2 (fun H locs hW hS => ?_)
  refine lv_iconst (v := 0) hx hb dX3_joinLine_5 (by decide) ?_
  refine lv_istore_n (lv' := [(2, .int 0), (0, .ref h0), (1, .ref (cA k))]) hx hb dX3_joinLine_6 rfl hl (by decide) rfl (fun ls hl => ?_)
  have loop_B7 : ∀ (k9 : Nat) (j : Nat) (H : Heap) (locs : List Loc) (ls : Array Slot), nq - j = k9 → (j ≤ nq) → Cw dC dI z A bs cp h0 la sA cA ns nc dr X P tr nl nq rs H → va_S A s.heap H locs → lv_has ls 3 [(0, .ref h0), (1, .ref (cA k)), (2, .int (nI j))] → W p l e { frames := 7, cells := (cp - sz), slots := (610 * (cp - sz)), locals := 200 } s m ([.ref h0, .ref (cA k)] : List Value).toArray below meth c H locs (cp - sz) (610 * (cp - sz)) (MQ below (Qg (B_q_X3_joinLine dC dI z mi A bs cp h0 la sA cA ns nc dr X P tr nl nq rs sz k) A) ([.ref h0, .ref (cA k)] : List Value).toArray s (cp - sz) (610 * (cp - sz)) A) (F0 m 7 ls []) := by
    intro k9
    induction k9 using Nat.strongRecOn with
    | ind k9 ih_B7 =>
      intro j H locs ls hm_B7 hle_j hW hS hl
      have en_j : (nI j).toInt = ((j : Nat) : Int) := pz_ti (by omega)
      refine lv_iload_n hx hb dX3_joinLine_7 rfl (lv_at hl 2 rfl) ?_
      refine lv_aload_n hx hb dX3_joinLine_8 rfl (lv_at hl 0 rfl) ?_
      refine D_getl S hK hW 3 (by decide) (fun _ => rfl) iw_108 rfl dX3_joinLine_9 ?_
      refine L_size (rest := [.int (nI j)]) S hKZ hW hS (i := 3) (by decide) hl.1 (Nat.le_of_ble_eq_true rfl) dX3_joinLine_12 ⟨Nat.le_of_ble_eq_true rfl, Nat.le_of_ble_eq_true rfl⟩ ⟨Nat.le_refl _, Nat.le_refl _⟩ (fun H locs hW hS => ?_)
      refine W.eq (g2 := F0 m 15 ls [.int (nI nq), .int (nI j)]) rfl ?_
      obtain ⟨hns, hnc, hnl, ag_3, hag_3, -, hnq⟩ := id hW.2.2.2.2.2.2
      have en_4 : (nI nq).toInt = ((nq : Nat) : Int) := pz_ti (by omega)
      refine lv_icmp_ge (tgt := 42) hx hb dX3_joinLine_15 (by decide) (fun c_5 => ?_) (fun c_5 => ?_)
      · skip
        have i_5 : (nI j).toInt ≥ (nI nq).toInt := by have h9 := pz_ge c_5; exact h9
        refine lv_aload_n hx hb dX3_joinLine_42 rfl (lv_at hl 0 rfl) ?_
        refine D_getl S hK hW 3 (by decide) (fun _ => rfl) iw_108 rfl dX3_joinLine_43 ?_
        refine lv_iload_n hx hb dX3_joinLine_46 rfl (lv_at hl 2 rfl) ?_
        refine lv_aload_n hx hb dX3_joinLine_47 rfl (lv_at hl 1 rfl) ?_
        refine W.ti hsz hbs hS hW ?_
        refine L_ins3 (rest := []) S hKZ hW hS (t := j) (k := k) (by omega) (by omega) hq (by omega) hl.1 (Nat.le_of_ble_eq_true rfl) dX3_joinLine_48 ⟨Nat.le_of_ble_eq_true rfl, Nat.le_of_ble_eq_true rfl⟩ (hW.rone hsz hS (by omega)) (fun H locs hW hS => ?_)
        refine W.to hsz hbs hS hW ?_
        refine W.eq (g2 := F0 m 51 ls []) rfl ?_
        exact r_v hx hb hr hlocks hS dX3_joinLine_51 (⟨rfl, hW⟩)
      · skip
        have i_5 : (nI j).toInt < (nI nq).toInt := by have h9 := pz_nge c_5; exact h9
        refine lv_aload_n hx hb dX3_joinLine_18 rfl (lv_at hl 0 rfl) ?_
        refine D_getl S hK hW 3 (by decide) (fun _ => rfl) iw_108 rfl dX3_joinLine_19 ?_
        refine lv_iload_n hx hb dX3_joinLine_22 rfl (lv_at hl 2 rfl) ?_
        refine L_get (rest := []) S hKZ hW hS (i := 3) (t := j) (by decide) (by show j < nq; omega) hl.1 (Nat.le_of_ble_eq_true rfl) dX3_joinLine_23 ⟨Nat.le_of_ble_eq_true rfl, Nat.le_of_ble_eq_true rfl⟩ ⟨Nat.le_refl _, Nat.le_refl _⟩ (fun r_8 H locs hr_8 hW hS => ?_)
        obtain ⟨c_8a, hc_8a, rfl⟩ : ∃ c, c < nc ∧ r_8 = cA c := hr_8
        refine C_cast S hK hW (k := c_8a) (by omega) iw_351 dX3_joinLine_26 ?_
        refine lv_aload_n hx hb dX3_joinLine_29 rfl (lv_at hl 1 rfl) ?_
        refine c_v (Pw := Cw dC dI z A bs cp h0 la sA cA ns nc dr X P tr nl nq rs) (n := 1) (As := [.ref (cA k)]) (rest := []) S (q_X1_goesAheadOf l dC dI z mi A bs cp h0 la sA cA ns nc dr X P tr nl nq rs c_8a k (by omega) (by omega)) iw_483 iw_480 iw_481 iw_482 iw_69 (by decide +kernel) rfl ⟨rfl, rfl, Nat.le_of_ble_eq_true rfl, Nat.le_of_ble_eq_true rfl⟩ KZ.blind (C_recv hK hW (by omega)) (hKZ.at hS (fun _ h9 => h9)) hW hl.1 rfl (Nat.le_of_ble_eq_true rfl) dX3_joinLine_30 ⟨Nat.le_refl _, Nat.le_refl _⟩ hS (fun _ h9 => h9) (fun v9 H locs hB hz9 hk9 hS => ?_)
        refine W.widen (k := cp - sz) (n := 610 * (cp - sz)) (Nat.le_refl _) (Nat.le_refl _) ?_
        obtain ⟨r_10, rfl, hW⟩ := hB
        refine W.eq (g2 := F0 m 33 ls [.int r_10]) rfl ?_
        refine lv_if_eq (tgt := 42) hx hb dX3_joinLine_33 (by decide) (fun c_11 => ?_) (fun c_11 => ?_)
        · skip
          have i_11 : r_10.toInt = 0 := by have h9 := pz_eq c_11; exact h9
          refine lv_aload_n hx hb dX3_joinLine_42 rfl (lv_at hl 0 rfl) ?_
          refine D_getl S hK hW 3 (by decide) (fun _ => rfl) iw_108 rfl dX3_joinLine_43 ?_
          refine lv_iload_n hx hb dX3_joinLine_46 rfl (lv_at hl 2 rfl) ?_
          refine lv_aload_n hx hb dX3_joinLine_47 rfl (lv_at hl 1 rfl) ?_
          refine W.ti hsz hbs hS hW ?_
          refine L_ins3 (rest := []) S hKZ hW hS (t := j) (k := k) (by omega) (by omega) hq (by omega) hl.1 (Nat.le_of_ble_eq_true rfl) dX3_joinLine_48 ⟨Nat.le_of_ble_eq_true rfl, Nat.le_of_ble_eq_true rfl⟩ (hW.rone hsz hS (by omega)) (fun H locs hW hS => ?_)
          refine W.to hsz hbs hS hW ?_
          refine W.eq (g2 := F0 m 51 ls []) rfl ?_
          exact r_v hx hb hr hlocks hS dX3_joinLine_51 (⟨rfl, hW⟩)
        · skip
          have i_11 : ¬ r_10.toInt = 0 := by have h9 := pz_neq c_11; exact h9
          obtain ⟨y_13, ey_13⟩ : ∃ y : Int32, y = (nI j) + 1 := ⟨_, rfl⟩
          refine lv_iinc (v := y_13) (lv' := [(2, .int y_13), (0, .ref h0), (1, .ref (cA k))]) hx hb dX3_joinLine_36 hl (k := 2) rfl (by rw [ey_13]; rfl) (by decide) rfl (fun ls hl => ?_)
          obtain rfl : y_13 = nI (j + 1) := ey_13.trans (nI_1 j)
          have en_14 : (nI (j + 1)).toInt = ((j + 1 : Nat) : Int) := pz_ti (by omega)
          refine lv_goto (tgt := 7) hx hb dX3_joinLine_39 (by decide) ?_
          exact ih_B7 _ (by omega) (j + 1) _ _ ls rfl (by omega) hW hS (lv_sub hl [1, 2, 0] rfl)
  exact loop_B7 _ 0 _ _ ls rfl (by omega) hW hS (lv_sub hl [1, 2, 0] rfl)

abbrev B_q_X3_budgetHolds (dC : Nat → ClassId) (dI : Nat → Nat → Nat) (z : Nat) (mi : Nat) (A : Nat → Prop) (bs : Nat) (cp : Nat) (h0 : Nat) (la : Nat → Nat) (sA : Nat → Nat) (cA : Nat → Nat) (ns : Nat) (nc : Nat) (dr : Nat → Prop) (X : Nat → Int32) (P : Nat → Prop) (tr : Nat → Int32) (nl : Nat) (nq : Nat) (rs : Nat) : Option Value → Heap → Prop := fun v H => ∃ r : Int32, v = some (.int r) ∧ (r = 0 ∨ (r = 1 ∧ agn X + 1 ≤ nc)) ∧ Cw dC dI z A bs cp h0 la sA cA ns nc dr X P tr nl nq rs H
set_option maxHeartbeats 8000000 in
set_option maxRecDepth 20000 in
theorem q_X3_budgetHolds (l : Launch) (dC : Nat → ClassId) (dI : Nat → Nat → Nat) (z : Nat) (mi : Nat) (A : Nat → Prop) (bs : Nat) (cp : Nat) (h0 : Nat) (la : Nat → Nat) (sA : Nat → Nat) (cA : Nat → Nat) (ns : Nat) (nc : Nat) (dr : Nat → Prop) (X : Nat → Int32) (P : Nat → Prop) (tr : Nat → Int32) (nl : Nat) (nq : Nat) (rs : Nat) (hb8 : 0 ≤ (X 8).toInt ∧ (X 8).toInt ≤ 100) : Met l yX3_budgetHolds (cws yX3_budgetHolds cX3_budgetHolds 1 (some .boolean)) { frames := 1, cells := 0, slots := 0, locals := 20 } (va_Pc [.ref h0] (fun U => KZ dC dI z mi A U ∧ (Cw dC dI z A bs cp h0 la sA cA ns nc dr X P tr nl nq rs) U.heap)) (Qg (B_q_X3_budgetHolds dC dI z mi A bs cp h0 la sA cA ns nc dr X P tr nl nq rs) A) 0 0 A := by
  refine m_start (KK := KZ dC dI z mi A) (Pw := (Cw dC dI z A bs cp h0 la sA cA ns nc dr X P tr nl nq rs)) (by decide) (Nat.le_of_ble_eq_true rfl) ?_
  intro p e s m below meth c ls S hr hlocks hin hKZ hW hS hl
  obtain ⟨hx, hb, hml, hown, hts⟩ := id S
  have hW : Cw dC dI z A bs cp h0 la sA cA ns nc dr X P tr nl nq rs s.heap := hW
  have hK := hKZ.1
  obtain ⟨hns, hnc, hnl, ag, hag, hXg, hnq⟩ := id hW.2.2.2.2.2.2
  have hagn : agn X = ag := agn_of hXg hag
  have hl : lv_has ls 1 [(0, .ref h0)] := hl
  refine lv_bipush (v := 100) hx hb dX3_budgetHolds_0 (by decide) ?_
  refine lv_aload_n hx hb dX3_budgetHolds_2 rfl (lv_at hl 0 rfl) ?_
  refine D_get S hK hW 10 (by decide) (fun _ => rfl) iw_115 rfl dX3_budgetHolds_3 (fun x_1 hx_1 => ?_)
  replace hx_1 := hx_1 (by decide) (by decide)
  obtain rfl : x_1 = nI ag := hx_1.trans hXg
  have en_2 : (nI ag).toInt = ((ag : Nat) : Int) := pz_ti (by omega)
  refine lv_iconst (v := 1) hx hb dX3_budgetHolds_6 (by decide) ?_
  refine lv_iadd hx hb dX3_budgetHolds_7 ?_
  refine lv_topi (fun x_3 ex_3 => ?_)
  obtain rfl : x_3 = nI (ag + 1) := ex_3.trans (nI_add ag 1)
  have en_4 : (nI (ag + 1)).toInt = ((ag + 1 : Nat) : Int) := pz_ti (by omega)
  refine lv_imul hx hb dX3_budgetHolds_8 ?_
  refine lv_topi (fun x_5 ex_5 => ?_)
  obtain rfl : x_5 = nI (100 * (ag + 1)) := ex_5.trans (pk_mul 100 (ag + 1))
  have en_6 : (nI (100 * (ag + 1))).toInt = ((100 * (ag + 1) : Nat) : Int) := pz_ti (by omega)
  refine lv_aload_n hx hb dX3_budgetHolds_9 rfl (lv_at hl 0 rfl) ?_
  refine D_get S hK hW 8 (by decide) (fun _ => rfl) iw_113 rfl dX3_budgetHolds_10 (fun x_7 hx_7 => ?_)
  replace hx_7 := hx_7 (by decide) (by decide)
  obtain ⟨b, hb9, eb⟩ := pz_of (x := X 8) (n := 101) (by omega) (by omega)
  obtain rfl : x_7 = nI b := hx_7.trans eb
  have en_8 : (nI b).toInt = ((b : Nat) : Int) := pz_ti (by omega)
  have hbn : b * nc ≤ 100 * nc := Nat.mul_le_mul_right nc (by omega)
  refine lv_aload_n hx hb dX3_budgetHolds_13 rfl (lv_at hl 0 rfl) ?_
  refine D_getl S hK hW 1 (by decide) (fun _ => rfl) iw_106 rfl dX3_budgetHolds_14 ?_
  refine L_size (rest := [.int (nI b), .int (nI (100 * (ag + 1)))]) S hKZ hW hS (i := 1) (by decide) hl.1 (Nat.le_of_ble_eq_true rfl) dX3_budgetHolds_17 ⟨Nat.le_of_ble_eq_true rfl, Nat.le_of_ble_eq_true rfl⟩ ⟨Nat.le_refl _, Nat.le_refl _⟩ (fun H locs hW hS => ?_)
  refine W.eq (g2 := F0 m 20 ls [.int (nI nc), .int (nI b), .int (nI (100 * (ag + 1)))]) rfl ?_
  obtain ⟨hns, hnc, hnl, ag_10, hag_10, -, hnq⟩ := id hW.2.2.2.2.2.2
  have en_11 : (nI nc).toInt = ((nc : Nat) : Int) := pz_ti (by omega)
  refine lv_imul hx hb dX3_budgetHolds_20 ?_
  refine lv_topi (fun x_12 ex_12 => ?_)
  obtain rfl : x_12 = nI (b * nc) := ex_12.trans (pk_mul b nc)
  have en_13 : (nI (b * nc)).toInt = ((b * nc : Nat) : Int) := pz_ti (by omega)
  refine lv_icmp_gt (tgt := 28) hx hb dX3_budgetHolds_21 (by decide) (fun c_14 => ?_) (fun c_14 => ?_)
  · skip
    have i_14 : (nI (100 * (ag + 1))).toInt > (nI (b * nc)).toInt := by have h9 := pz_gt c_14; exact h9
    refine lv_iconst (v := 0) hx hb dX3_budgetHolds_28 (by decide) ?_
    exact r_z (v := 0) hx hb hr rfl hlocks hS dX3_budgetHolds_29 (⟨_, rfl, Or.inl rfl, hW⟩)
  · skip
    have i_14 : (nI (100 * (ag + 1))).toInt ≤ (nI (b * nc)).toInt := by have h9 := pz_ngt c_14; exact h9
    refine lv_iconst (v := 1) hx hb dX3_budgetHolds_24 (by decide) ?_
    refine lv_goto (tgt := 29) hx hb dX3_budgetHolds_25 (by decide) ?_
    exact r_z (v := 1) hx hb hr rfl hlocks hS dX3_budgetHolds_29 (⟨_, rfl, Or.inr ⟨rfl, by omega⟩, hW⟩)

abbrev B_q_X3_takeAnswer (dC : Nat → ClassId) (dI : Nat → Nat → Nat) (z : Nat) (mi : Nat) (A : Nat → Prop) (bs : Nat) (cp : Nat) (h0 : Nat) (la : Nat → Nat) (sA : Nat → Nat) (cA : Nat → Nat) (ns : Nat) (nc : Nat) (dr : Nat → Prop) (X : Nat → Int32) (P : Nat → Prop) (tr : Nat → Int32) (nl : Nat) (nq : Nat) (rs : Nat) (sz : Nat) (k : Nat) (a : Nat) (xr : Nat) : Option Value → Heap → Prop := fun v H => ∃ (X1 : Nat → Int32) (nq1 : Nat) (rs1 : Nat), v = none ∧ (∀ j, j ≠ 10 → X1 j = X j) ∧ smc tr nc + (200 - agn X1) + xr ≤ rs1 ∧ Cw dC dI z A bs cp h0 la sA cA ns nc dr X1 P tr nl nq1 rs1 H
set_option maxHeartbeats 8000000 in
set_option maxRecDepth 20000 in
theorem q_X3_takeAnswer (l : Launch) (dC : Nat → ClassId) (dI : Nat → Nat → Nat) (z : Nat) (mi : Nat) (A : Nat → Prop) (bs : Nat) (cp : Nat) (h0 : Nat) (la : Nat → Nat) (sA : Nat → Nat) (cA : Nat → Nat) (ns : Nat) (nc : Nat) (dr : Nat → Prop) (X : Nat → Int32) (P : Nat → Prop) (tr : Nat → Int32) (nl : Nat) (nq : Nat) (rs : Nat) (sz : Nat) (k : Nat) (a : Nat) (xr : Nat) (hbs : bs ≤ sz) (hk : k < nc) (hPa : P a) (hb8 : 0 ≤ (X 8).toInt ∧ (X 8).toInt ≤ 100) (hnd : smc tr nc + (200 - agn X) + xr ≤ rs) : Met l yX3_takeAnswer (cws yX3_takeAnswer cX3_takeAnswer 3 none) { frames := 8, cells := (cp - sz), slots := (610 * (cp - sz)), locals := 222 } (va_Pc [.ref h0, .ref (cA k), .ref a] (fun U => KZ dC dI z mi A U ∧ (fun H => H.size = sz ∧ Cw dC dI z A bs cp h0 la sA cA ns nc dr X P tr nl nq rs H) U.heap)) (Qg (B_q_X3_takeAnswer dC dI z mi A bs cp h0 la sA cA ns nc dr X P tr nl nq rs sz k a xr) A) (cp - sz) (610 * (cp - sz)) A := by
  refine m_start (KK := KZ dC dI z mi A) (Pw := (fun H => H.size = sz ∧ Cw dC dI z A bs cp h0 la sA cA ns nc dr X P tr nl nq rs H)) (by decide) (Nat.le_of_ble_eq_true rfl) ?_
  intro p e s m below meth c ls S hr hlocks hin hKZ hW hS hl
  obtain ⟨hx, hb, hml, hown, hts⟩ := id S
  obtain ⟨hsz, hW⟩ := hW
  have hK := hKZ.1
  obtain ⟨hns, hnc, hnl, ag, hag, hXg, hnq⟩ := id hW.2.2.2.2.2.2
  have hagn : agn X = ag := agn_of hXg hag
  have hl : lv_has ls 3 [(0, .ref h0), (1, .ref (cA k)), (2, .ref a)] := hl
  have en_k : (nI k).toInt = ((k : Nat) : Int) := pz_ti (by omega)
  refine W.to hsz hbs hS hW ?_
  refine lv_aload_n hx hb dX3_takeAnswer_0 rfl (lv_at hl 2 rfl) ?_
  refine A_get S hK hW hPa 3 (by decide) (fun _ _ => rfl) iw_462 rfl dX3_takeAnswer_1 (fun x_1 => ?_)
  refine lv_if_ne (tgt := 36) hx hb dX3_takeAnswer_4 (by decide) (fun c_2 => ?_) (fun c_2 => ?_)
  · skip
    have i_2 : ¬ x_1.toInt = 0 := by have h9 := pz_neq c_2; exact h9
    refine lv_aload_n hx hb dX3_takeAnswer_36 rfl (lv_at hl 1 rfl) ?_
    refine lv_aload_n hx hb dX3_takeAnswer_37 rfl (lv_at hl 2 rfl) ?_
    refine c_v (Pw := Cw dC dI z A bs cp h0 la sA cA ns nc dr X P tr nl nq rs) (n := 1) (As := [.ref a]) (rest := []) S (q_X1_letGo l dC dI z mi A bs cp h0 la sA cA ns nc dr X P tr nl nq rs k a (by omega) hPa) iw_524 iw_553 iw_522 iw_523 iw_69 (by decide +kernel) rfl ⟨rfl, rfl, Nat.le_of_ble_eq_true rfl, Nat.le_of_ble_eq_true rfl⟩ KZ.blind (C_recv hK hW (by omega)) (hKZ.at hS (fun _ h9 => h9)) hW hl.1 rfl (Nat.le_of_ble_eq_true rfl) dX3_takeAnswer_38 ⟨Nat.le_refl _, Nat.le_refl _⟩ hS (fun _ h9 => h9) (fun v9 H locs hB hz9 hk9 hS => ?_)
    refine W.widen (k := cp - sz) (n := 610 * (cp - sz)) (Nat.le_refl _) (Nat.le_refl _) ?_
    obtain ⟨rfl, hW⟩ := hB
    refine W.eq (g2 := F0 m 41 ls []) rfl ?_
    refine lv_aload_n hx hb dX3_takeAnswer_41 rfl (lv_at hl 0 rfl) ?_
    refine lv_aload_n hx hb dX3_takeAnswer_42 rfl (lv_at hl 2 rfl) ?_
    refine A_get0 S hK hW hPa iw_456 rfl dX3_takeAnswer_43 (fun k_3 hk_3 => ?_)
    refine c_v (Pw := Cw dC dI z A bs cp h0 la sA cA ns nc dr X P tr nl nq rs) (n := 1) (As := [.ref (sA k_3)]) (rest := []) S (q_X3_failureOf l dC dI z mi A bs cp h0 la sA cA ns nc dr X P tr nl nq rs k_3 (by omega)) iw_557 iw_554 iw_556 iw_21 iw_57 (by decide +kernel) rfl ⟨rfl, rfl, Nat.le_of_ble_eq_true rfl, Nat.le_of_ble_eq_true rfl⟩ KZ.blind (D_recv hK hW) (hKZ.at hS (fun _ h9 => h9)) hW hl.1 rfl (Nat.le_of_ble_eq_true rfl) dX3_takeAnswer_46 ⟨Nat.le_refl _, Nat.le_refl _⟩ hS (fun _ h9 => h9) (fun v9 H locs hB hz9 hk9 hS => ?_)
    refine W.widen (k := cp - sz) (n := 610 * (cp - sz)) (Nat.le_refl _) (Nat.le_refl _) ?_
    obtain ⟨rfl, hW⟩ := hB
    refine W.eq (g2 := F0 m 49 ls []) rfl ?_
    refine lv_aload_n hx hb dX3_takeAnswer_49 rfl (lv_at hl 1 rfl) ?_
    obtain ⟨-, y_4, p_4, q_4, hc_4, ⟨h0_4, h7_4⟩, hp_4, hq_4⟩ := hW.2.2.2.1 k (by omega)
    refine C_gp (v := va_rf p_4) S hK hc_4 10 (by decide) rfl iw_376 rfl dX3_takeAnswer_50 ?_
    rcases p_4 with _ | a_4
    · skip
      refine W.eq (g2 := F0 m 53 ls [.null]) rfl ?_
      refine lv_ifnullN (tgt := 57) hx hb dX3_takeAnswer_53 (by decide) ?_
      refine lv_aload_n hx hb dX3_takeAnswer_57 rfl (lv_at hl 1 rfl) ?_
      refine C_gp (v := .int (y_4 5)) S hK hc_4 5 (by decide) rfl iw_366 rfl dX3_takeAnswer_58 ?_
      refine lv_if_eq (tgt := 100) hx hb dX3_takeAnswer_61 (by decide) (fun c_6 => ?_) (fun c_6 => ?_)
      · skip
        have i_6 : (y_4 5).toInt = 0 := by have h9 := pz_eq c_6; exact h9
        refine lv_aload_n hx hb dX3_takeAnswer_100 rfl (lv_at hl 0 rfl) ?_
        refine lv_aload_n hx hb dX3_takeAnswer_101 rfl (lv_at hl 1 rfl) ?_
        refine lv_iconst (v := 3) hx hb dX3_takeAnswer_102 (by decide) ?_
        refine c_v (Pw := Cw dC dI z A bs cp h0 la sA cA ns nc dr X P tr nl nq rs) (n := 2) (As := [.ref (cA k), .int 3]) (rest := []) S (q_X3_end l dC dI z mi A bs cp h0 la sA cA ns nc dr X P tr nl nq rs k 3 (by omega)) iw_528 iw_525 iw_527 iw_16 iw_57 (by decide +kernel) rfl ⟨rfl, rfl, Nat.le_of_ble_eq_true rfl, Nat.le_of_ble_eq_true rfl⟩ KZ.blind (D_recv hK hW) (hKZ.at hS (fun _ h9 => h9)) hW hl.1 rfl (Nat.le_of_ble_eq_true rfl) dX3_takeAnswer_103 ⟨Nat.le_refl _, Nat.le_refl _⟩ hS (fun _ h9 => h9) (fun v9 H locs hB hz9 hk9 hS => ?_)
        refine W.widen (k := cp - sz) (n := 610 * (cp - sz)) (Nat.le_refl _) (Nat.le_refl _) ?_
        obtain ⟨rfl, hW⟩ := hB
        refine W.eq (g2 := F0 m 106 ls []) rfl ?_
        exact r_v hx hb hr hlocks hS dX3_takeAnswer_106 (⟨X, nq, rs, rfl, (fun _ _ => rfl), by omega, hW⟩)
      · skip
        have i_6 : ¬ (y_4 5).toInt = 0 := by have h9 := pz_neq c_6; exact h9
        refine lv_aload_n hx hb dX3_takeAnswer_64 rfl (lv_at hl 0 rfl) ?_
        refine D_get S hK hW 5 (by decide) (fun _ => rfl) iw_110 rfl dX3_takeAnswer_65 (fun x_7 hx_7 => ?_)
        refine lv_aload_n hx hb dX3_takeAnswer_68 rfl (lv_at hl 1 rfl) ?_
        refine C_gp (v := .int (y_4 4)) S hK hc_4 4 (by decide) rfl iw_364 rfl dX3_takeAnswer_69 ?_
        refine lv_icmp_ge (tgt := 100) hx hb dX3_takeAnswer_72 (by decide) (fun c_9 => ?_) (fun c_9 => ?_)
        · skip
          have i_9 : x_7.toInt ≥ (y_4 4).toInt := by have h9 := pz_ge c_9; exact h9
          refine lv_aload_n hx hb dX3_takeAnswer_100 rfl (lv_at hl 0 rfl) ?_
          refine lv_aload_n hx hb dX3_takeAnswer_101 rfl (lv_at hl 1 rfl) ?_
          refine lv_iconst (v := 3) hx hb dX3_takeAnswer_102 (by decide) ?_
          refine c_v (Pw := Cw dC dI z A bs cp h0 la sA cA ns nc dr X P tr nl nq rs) (n := 2) (As := [.ref (cA k), .int 3]) (rest := []) S (q_X3_end l dC dI z mi A bs cp h0 la sA cA ns nc dr X P tr nl nq rs k 3 (by omega)) iw_528 iw_525 iw_527 iw_16 iw_57 (by decide +kernel) rfl ⟨rfl, rfl, Nat.le_of_ble_eq_true rfl, Nat.le_of_ble_eq_true rfl⟩ KZ.blind (D_recv hK hW) (hKZ.at hS (fun _ h9 => h9)) hW hl.1 rfl (Nat.le_of_ble_eq_true rfl) dX3_takeAnswer_103 ⟨Nat.le_refl _, Nat.le_refl _⟩ hS (fun _ h9 => h9) (fun v9 H locs hB hz9 hk9 hS => ?_)
          refine W.widen (k := cp - sz) (n := 610 * (cp - sz)) (Nat.le_refl _) (Nat.le_refl _) ?_
          obtain ⟨rfl, hW⟩ := hB
          refine W.eq (g2 := F0 m 106 ls []) rfl ?_
          exact r_v hx hb hr hlocks hS dX3_takeAnswer_106 (⟨X, nq, rs, rfl, (fun _ _ => rfl), by omega, hW⟩)
        · skip
          have i_9 : x_7.toInt < (y_4 4).toInt := by have h9 := pz_nge c_9; exact h9
          refine lv_aload_n hx hb dX3_takeAnswer_75 rfl (lv_at hl 0 rfl) ?_
          refine c_v (Pw := Cw dC dI z A bs cp h0 la sA cA ns nc dr X P tr nl nq rs) (n := 0) (As := []) (rest := []) S (q_X3_budgetHolds l dC dI z mi A bs cp h0 la sA cA ns nc dr X P tr nl nq rs hb8) iw_569 iw_566 iw_568 iw_23 iw_57 (by decide +kernel) rfl ⟨rfl, rfl, Nat.le_of_ble_eq_true rfl, Nat.le_of_ble_eq_true rfl⟩ KZ.blind (D_recv hK hW) (hKZ.at hS (fun _ h9 => h9)) hW hl.1 rfl (Nat.le_of_ble_eq_true rfl) dX3_takeAnswer_76 ⟨Nat.le_refl _, Nat.le_refl _⟩ hS (fun _ h9 => h9) (fun v9 H locs hB hz9 hk9 hS => ?_)
          refine W.widen (k := cp - sz) (n := 610 * (cp - sz)) (Nat.le_refl _) (Nat.le_refl _) ?_
          obtain ⟨r_10, rfl, hbu_10, hW⟩ := hB
          rcases hbu_10 with rfl | ⟨rfl, hbu_10⟩
          · skip
            refine W.eq (g2 := F0 m 79 ls [.int 0]) rfl ?_
            refine lv_if_eq (tgt := 100) hx hb dX3_takeAnswer_79 (by decide) (fun c_11 => ?_) (fun c_11 => absurd (by decide) c_11)
            refine lv_aload_n hx hb dX3_takeAnswer_100 rfl (lv_at hl 0 rfl) ?_
            refine lv_aload_n hx hb dX3_takeAnswer_101 rfl (lv_at hl 1 rfl) ?_
            refine lv_iconst (v := 3) hx hb dX3_takeAnswer_102 (by decide) ?_
            refine c_v (Pw := Cw dC dI z A bs cp h0 la sA cA ns nc dr X P tr nl nq rs) (n := 2) (As := [.ref (cA k), .int 3]) (rest := []) S (q_X3_end l dC dI z mi A bs cp h0 la sA cA ns nc dr X P tr nl nq rs k 3 (by omega)) iw_528 iw_525 iw_527 iw_16 iw_57 (by decide +kernel) rfl ⟨rfl, rfl, Nat.le_of_ble_eq_true rfl, Nat.le_of_ble_eq_true rfl⟩ KZ.blind (D_recv hK hW) (hKZ.at hS (fun _ h9 => h9)) hW hl.1 rfl (Nat.le_of_ble_eq_true rfl) dX3_takeAnswer_103 ⟨Nat.le_refl _, Nat.le_refl _⟩ hS (fun _ h9 => h9) (fun v9 H locs hB hz9 hk9 hS => ?_)
            refine W.widen (k := cp - sz) (n := 610 * (cp - sz)) (Nat.le_refl _) (Nat.le_refl _) ?_
            obtain ⟨rfl, hW⟩ := hB
            refine W.eq (g2 := F0 m 106 ls []) rfl ?_
            exact r_v hx hb hr hlocks hS dX3_takeAnswer_106 (⟨X, nq, rs, rfl, (fun _ _ => rfl), by omega, hW⟩)
          · skip
            refine W.eq (g2 := F0 m 79 ls [.int 1]) rfl ?_
            refine lv_if_eq (tgt := 100) hx hb dX3_takeAnswer_79 (by decide) (fun c_12 => absurd c_12 (by decide)) (fun c_12 => ?_)
            refine lv_aload_n hx hb dX3_takeAnswer_82 rfl (lv_at hl 0 rfl) ?_
            refine lv_dup hx hb dX3_takeAnswer_83 rfl ?_
            refine D_get S hK hW 10 (by decide) (fun _ => rfl) iw_115 rfl dX3_takeAnswer_84 (fun x_13 hx_13 => ?_)
            replace hx_13 := hx_13 (by decide) (by decide)
            obtain rfl : x_13 = nI ag := hx_13.trans hXg
            have en_14 : (nI ag).toInt = ((ag : Nat) : Int) := pz_ti (by omega)
            refine lv_iconst (v := 1) hx hb dX3_takeAnswer_87 (by decide) ?_
            refine lv_iadd hx hb dX3_takeAnswer_88 ?_
            refine lv_topi (fun x_15 ex_15 => ?_)
            obtain rfl : x_15 = nI (ag + 1) := ex_15.trans (nI_add ag 1)
            have en_16 : (nI (ag + 1)).toInt = ((ag + 1 : Nat) : Int) := pz_ti (by omega)
            refine D_putx S hK hW hS 10 (by decide) (fun _ => rfl) iw_115 rfl rfl (by decide +kernel) rfl (va_up X 10 (nI (ag + 1))) (fun I9 h9 => up_ag h9) ⟨by omega, by omega, by omega, ag + 1, by omega, vu_s, by omega⟩ dX3_takeAnswer_89 (fun H locs hW hS => ?_)
            have hag1 : agn (va_up X 10 (nI (ag + 1))) = ag + 1 := agn_of vu_s (by omega)
            refine lv_aload_n hx hb dX3_takeAnswer_92 rfl (lv_at hl 0 rfl) ?_
            refine lv_aload_n hx hb dX3_takeAnswer_93 rfl (lv_at hl 1 rfl) ?_
            refine W.ti hsz hbs hS hW ?_
            refine c_v (Pw := fun H9 => H9.size = H.size ∧ Cw dC dI z A bs cp h0 la sA cA ns nc dr (va_up X 10 (nI (ag + 1))) P tr nl nq rs H9) (n := 1) (As := [.ref (cA k)]) (rest := []) S (q_X3_joinLine l dC dI z mi A bs cp h0 la sA cA ns nc dr (va_up X 10 (nI (ag + 1))) P tr nl nq rs H.size k (by have h9 := hS.1; omega) (by omega) ⟨ag + 1, by omega, vu_s, by omega⟩ (by omega)) iw_479 iw_476 iw_478 iw_11 iw_57 (by decide +kernel) rfl ⟨rfl, rfl, Nat.le_of_ble_eq_true rfl, Nat.le_of_ble_eq_true rfl⟩ KZ.blind (D_recv hK hW) (hKZ.at hS (fun _ h9 => h9)) ⟨rfl, hW⟩ hl.1 rfl (Nat.le_of_ble_eq_true rfl) dX3_takeAnswer_94 (hW.rok hsz hS) hS (fun _ h9 => h9) (fun v9 H locs hB hz9 hk9 hS => ?_)
            obtain ⟨rfl, hW⟩ := hB
            refine W.to hsz hbs hS hW ?_
            refine W.eq (g2 := F0 m 97 ls []) rfl ?_
            refine lv_goto (tgt := 106) hx hb dX3_takeAnswer_97 (by decide) ?_
            exact r_v hx hb hr hlocks hS dX3_takeAnswer_106 (⟨(va_up X 10 (nI (ag + 1))), (nq + 1), (rs - 1), rfl, (fun j9 h9 => vu_n h9), by omega, hW⟩)
    · skip
      have hP_4 : P a_4 := hp_4 _ rfl
      refine W.eq (g2 := F0 m 53 ls [.ref a_4]) rfl ?_
      refine lv_ifnull hx hb dX3_takeAnswer_53 ?_
      exact r_v hx hb hr hlocks hS dX3_takeAnswer_56 (⟨X, nq, rs, rfl, (fun _ _ => rfl), by omega, hW⟩)
  · skip
    have i_2 : x_1.toInt = 0 := by have h9 := pz_eq c_2; exact h9
    refine lv_aload_n hx hb dX3_takeAnswer_7 rfl (lv_at hl 2 rfl) ?_
    refine A_get0 S hK hW hPa iw_456 rfl dX3_takeAnswer_8 (fun k_18 hk_18 => ?_)
    refine c_v (Pw := Cw dC dI z A bs cp h0 la sA cA ns nc dr X P tr nl nq rs) (n := 0) (As := []) (rest := []) S (q_X2_answer l dC dI z mi A bs cp h0 la sA cA ns nc dr X P tr nl nq rs k_18 (by omega)) iw_552 iw_549 iw_550 iw_551 iw_62 (by decide +kernel) rfl ⟨rfl, rfl, Nat.le_of_ble_eq_true rfl, Nat.le_of_ble_eq_true rfl⟩ KZ.blind (S_recv hK hW (by omega)) (hKZ.at hS (fun _ h9 => h9)) hW hl.1 rfl (Nat.le_of_ble_eq_true rfl) dX3_takeAnswer_11 ⟨Nat.le_refl _, Nat.le_refl _⟩ hS (fun _ h9 => h9) (fun v9 H locs hB hz9 hk9 hS => ?_)
    refine W.widen (k := cp - sz) (n := 610 * (cp - sz)) (Nat.le_refl _) (Nat.le_refl _) ?_
    obtain ⟨rfl, hW⟩ := hB
    refine W.eq (g2 := F0 m 14 ls []) rfl ?_
    refine lv_aload_n hx hb dX3_takeAnswer_14 rfl (lv_at hl 1 rfl) ?_
    refine lv_aload_n hx hb dX3_takeAnswer_15 rfl (lv_at hl 2 rfl) ?_
    refine A_get0 S hK hW hPa iw_456 rfl dX3_takeAnswer_16 (fun k_19 hk_19 => ?_)
    obtain ⟨-, x_20, hc_20, h0_20, hd_20⟩ := hW.2.2.1 k_19 (by omega)
    refine S_gp S hK hc_20 0 (by decide) (fun _ => rfl) iw_165 rfl dX3_takeAnswer_19 ?_
    rw [h0_20]
    refine C_put S hK hW hS (k := k) (by omega) 9 (by decide) (by decide) (by decide) (fun _ _ _ => rfl) iw_374 rfl rfl (by decide +kernel) rfl dX3_takeAnswer_22 (fun H locs hW hS => ?_)
    refine lv_aload_n hx hb dX3_takeAnswer_25 rfl (lv_at hl 1 rfl) ?_
    refine c_v (Pw := Cw dC dI z A bs cp h0 la sA cA ns nc dr X P tr nl nq rs) (n := 0) (As := []) (rest := []) S (q_X1_callOffAll l dC dI z mi A bs cp h0 la sA cA ns nc dr X P tr nl nq rs k (by omega)) iw_520 iw_517 iw_518 iw_519 iw_69 (by decide +kernel) rfl ⟨rfl, rfl, Nat.le_of_ble_eq_true rfl, Nat.le_of_ble_eq_true rfl⟩ KZ.blind (C_recv hK hW (by omega)) (hKZ.at hS (fun _ h9 => h9)) hW hl.1 rfl (Nat.le_of_ble_eq_true rfl) dX3_takeAnswer_26 ⟨Nat.le_refl _, Nat.le_refl _⟩ hS (fun _ h9 => h9) (fun v9 H locs hB hz9 hk9 hS => ?_)
    refine W.widen (k := cp - sz) (n := 610 * (cp - sz)) (Nat.le_refl _) (Nat.le_refl _) ?_
    obtain ⟨rfl, hW⟩ := hB
    refine W.eq (g2 := F0 m 29 ls []) rfl ?_
    refine lv_aload_n hx hb dX3_takeAnswer_29 rfl (lv_at hl 0 rfl) ?_
    refine lv_aload_n hx hb dX3_takeAnswer_30 rfl (lv_at hl 1 rfl) ?_
    refine lv_iconst (v := 2) hx hb dX3_takeAnswer_31 (by decide) ?_
    refine c_v (Pw := Cw dC dI z A bs cp h0 la sA cA ns nc dr X P tr nl nq rs) (n := 2) (As := [.ref (cA k), .int 2]) (rest := []) S (q_X3_end l dC dI z mi A bs cp h0 la sA cA ns nc dr X P tr nl nq rs k 2 (by omega)) iw_528 iw_525 iw_527 iw_16 iw_57 (by decide +kernel) rfl ⟨rfl, rfl, Nat.le_of_ble_eq_true rfl, Nat.le_of_ble_eq_true rfl⟩ KZ.blind (D_recv hK hW) (hKZ.at hS (fun _ h9 => h9)) hW hl.1 rfl (Nat.le_of_ble_eq_true rfl) dX3_takeAnswer_32 ⟨Nat.le_refl _, Nat.le_refl _⟩ hS (fun _ h9 => h9) (fun v9 H locs hB hz9 hk9 hS => ?_)
    refine W.widen (k := cp - sz) (n := 610 * (cp - sz)) (Nat.le_refl _) (Nat.le_refl _) ?_
    obtain ⟨rfl, hW⟩ := hB
    refine W.eq (g2 := F0 m 35 ls []) rfl ?_
    exact r_v hx hb hr hlocks hS dX3_takeAnswer_35 (⟨X, nq, rs, rfl, (fun _ _ => rfl), by omega, hW⟩)

abbrev B_q_X3_takeWhatIsOver (dC : Nat → ClassId) (dI : Nat → Nat → Nat) (z : Nat) (mi : Nat) (A : Nat → Prop) (bs : Nat) (cp : Nat) (h0 : Nat) (la : Nat → Nat) (sA : Nat → Nat) (cA : Nat → Nat) (ns : Nat) (nc : Nat) (dr : Nat → Prop) (X : Nat → Int32) (P : Nat → Prop) (tr : Nat → Int32) (nl : Nat) (nq : Nat) (rs : Nat) (sz : Nat) (xr : Nat) : Option Value → Heap → Prop := fun v H => ∃ (X1 : Nat → Int32) (nq1 : Nat) (rs1 : Nat), v = none ∧ (∀ j, j ≠ 10 → X1 j = X j) ∧ smc tr nc + (200 - agn X1) + xr ≤ rs1 ∧ Cw dC dI z A bs cp h0 la sA cA ns nc dr X1 P tr nl nq1 rs1 H
set_option maxHeartbeats 8000000 in
set_option maxRecDepth 20000 in
theorem q_X3_takeWhatIsOver (l : Launch) (dC : Nat → ClassId) (dI : Nat → Nat → Nat) (z : Nat) (mi : Nat) (A : Nat → Prop) (bs : Nat) (cp : Nat) (h0 : Nat) (la : Nat → Nat) (sA : Nat → Nat) (cA : Nat → Nat) (ns : Nat) (nc : Nat) (dr : Nat → Prop) (X : Nat → Int32) (P : Nat → Prop) (tr : Nat → Int32) (nl : Nat) (nq : Nat) (rs : Nat) (sz : Nat) (xr : Nat) (hbs : bs ≤ sz) (hb8 : 0 ≤ (X 8).toInt ∧ (X 8).toInt ≤ 100) (hnd : smc tr nc + (200 - agn X) + xr ≤ rs) : Met l yX3_takeWhatIsOver (cws yX3_takeWhatIsOver cX3_takeWhatIsOver 5 none) { frames := 9, cells := (cp - sz), slots := (610 * (cp - sz)), locals := 244 } (va_Pc [.ref h0] (fun U => KZ dC dI z mi A U ∧ (fun H => H.size = sz ∧ Cw dC dI z A bs cp h0 la sA cA ns nc dr X P tr nl nq rs H) U.heap)) (Qg (B_q_X3_takeWhatIsOver dC dI z mi A bs cp h0 la sA cA ns nc dr X P tr nl nq rs sz xr) A) (cp - sz) (610 * (cp - sz)) A := by
  refine m_start (KK := KZ dC dI z mi A) (Pw := (fun H => H.size = sz ∧ Cw dC dI z A bs cp h0 la sA cA ns nc dr X P tr nl nq rs H)) (by decide) (Nat.le_of_ble_eq_true rfl) ?_
  intro p e s m below meth c ls S hr hlocks hin hKZ hW hS hl
  obtain ⟨hx, hb, hml, hown, hts⟩ := id S
  obtain ⟨hsz, hW⟩ := hW
  have hK := hKZ.1
  obtain ⟨hns, hnc, hnl, ag, hag, hXg, hnq⟩ := id hW.2.2.2.2.2.2
  have hagn : agn X = ag := agn_of hXg hag
  have hl : lv_has ls 5 [(0, .ref h0)] := hl
  refine W.to hsz hbs hS hW ?_
  refine lv_iconst (v := 0) hx hb dX3_takeWhatIsOver_0 (by decide) ?_
  refine lv_istore_n (lv' := [(1, .int 0), (0, .ref h0)]) hx hb dX3_takeWhatIsOver_1 rfl hl (by decide) rfl (fun ls hl => ?_)
  have loop_B2 : ∀ (k9 : Nat) (j : Nat) (X7 : Nat → Int32) (nq7 : Nat) (rs7 : Nat) (H : Heap) (locs : List Loc) (ls : Array Slot), nl - j = k9 → (j ≤ nl) → (∀ j, j ≠ 10 → X7 j = X j) → (smc tr nc + (200 - agn X7) + xr ≤ rs7) → Cw dC dI z A bs cp h0 la sA cA ns nc dr X7 P tr nl nq7 rs7 H → va_S A s.heap H locs → lv_has ls 5 [(0, .ref h0), (1, .int (nI j))] → W p l e { frames := 9, cells := (cp - sz), slots := (610 * (cp - sz)), locals := 244 } s m ([.ref h0] : List Value).toArray below meth c H locs (cp - sz) (610 * (cp - sz)) (MQ below (Qg (B_q_X3_takeWhatIsOver dC dI z mi A bs cp h0 la sA cA ns nc dr X P tr nl nq rs sz xr) A) ([.ref h0] : List Value).toArray s (cp - sz) (610 * (cp - sz)) A) (F0 m 2 ls []) := by
    intro k9
    induction k9 using Nat.strongRecOn with
    | ind k9 ih_B2 =>
      intro j X7 nq7 rs7 H locs ls hm_B2 hle_j hX7 hN7 hW hS hl
      have en_j : (nI j).toInt = ((j : Nat) : Int) := pz_ti (by omega)
      refine lv_iload_n hx hb dX3_takeWhatIsOver_2 rfl (lv_at hl 1 rfl) ?_
      refine lv_aload_n hx hb dX3_takeWhatIsOver_3 rfl (lv_at hl 0 rfl) ?_
      refine D_getl S hK hW 2 (by decide) (fun _ => rfl) iw_107 rfl dX3_takeWhatIsOver_4 ?_
      refine L_size (rest := [.int (nI j)]) S hKZ hW hS (i := 2) (by decide) hl.1 (Nat.le_of_ble_eq_true rfl) dX3_takeWhatIsOver_7 ⟨Nat.le_of_ble_eq_true rfl, Nat.le_of_ble_eq_true rfl⟩ ⟨Nat.le_refl _, Nat.le_refl _⟩ (fun H locs hW hS => ?_)
      refine W.eq (g2 := F0 m 10 ls [.int (nI nl), .int (nI j)]) rfl ?_
      obtain ⟨hns, hnc, hnl, ag_2, hag_2, -, hnq⟩ := id hW.2.2.2.2.2.2
      have en_3 : (nI nl).toInt = ((nl : Nat) : Int) := pz_ti (by omega)
      refine lv_icmp_ge (tgt := 95) hx hb dX3_takeWhatIsOver_10 (by decide) (fun c_4 => ?_) (fun c_4 => ?_)
      · skip
        have i_4 : (nI j).toInt ≥ (nI nl).toInt := by have h9 := pz_ge c_4; exact h9
        exact r_v hx hb hr hlocks hS dX3_takeWhatIsOver_95 (⟨X7, nq7, rs7, rfl, hX7, by omega, hW⟩)
      · skip
        have i_4 : (nI j).toInt < (nI nl).toInt := by have h9 := pz_nge c_4; exact h9
        refine lv_aload_n hx hb dX3_takeWhatIsOver_13 rfl (lv_at hl 0 rfl) ?_
        refine D_getl S hK hW 2 (by decide) (fun _ => rfl) iw_107 rfl dX3_takeWhatIsOver_14 ?_
        refine lv_iload_n hx hb dX3_takeWhatIsOver_17 rfl (lv_at hl 1 rfl) ?_
        refine L_get (rest := []) S hKZ hW hS (i := 2) (t := j) (by decide) (by show j < nl; omega) hl.1 (Nat.le_of_ble_eq_true rfl) dX3_takeWhatIsOver_18 ⟨Nat.le_of_ble_eq_true rfl, Nat.le_of_ble_eq_true rfl⟩ ⟨Nat.le_refl _, Nat.le_refl _⟩ (fun r_6 H locs hr_6 hW hS => ?_)
        obtain ⟨c_6a, hc_6a, rfl⟩ : ∃ c, c < nc ∧ r_6 = cA c := hr_6
        refine C_cast S hK hW (k := c_6a) (by omega) iw_351 dX3_takeWhatIsOver_21 ?_
        refine lv_astore_n (lv' := [(2, .ref (cA c_6a)), (0, .ref h0), (1, .int (nI j))]) hx hb dX3_takeWhatIsOver_24 rfl hl (by decide) rfl (fun ls hl => ?_)
        refine lv_aload_n hx hb dX3_takeWhatIsOver_25 rfl (lv_at hl 0 rfl) ?_
        obtain ⟨-, y_8, p_8, q_8, hc_8, ⟨h0_8, h7_8⟩, hp_8, hq_8⟩ := hW.2.2.2.1 c_6a (by omega)
        refine C_gp (v := va_rf p_8) S hK hc_8 10 (by decide) rfl iw_376 rfl dX3_takeWhatIsOver_26 ?_
        rcases p_8 with _ | a_8
        · skip
          refine W.eq (g2 := F0 m 29 ls [.null]) rfl ?_
          refine lv_astore_nN (lv' := [(3, .null), (2, .ref (cA c_6a)), (0, .ref h0), (1, .int (nI j))]) hx hb dX3_takeWhatIsOver_29 rfl hl (by decide) rfl (fun ls hl => ?_)
          refine lv_aload_n hx hb dX3_takeWhatIsOver_30 rfl (lv_at hl 1 rfl) ?_
          refine C_gp (v := va_rf q_8) S hK hc_8 11 (by decide) rfl iw_378 rfl dX3_takeWhatIsOver_31 ?_
          rcases q_8 with _ | a_9
          · skip
            refine W.eq (g2 := F0 m 34 ls [.null]) rfl ?_
            refine lv_astoreN (lv' := [(4, .null), (3, .null), (2, .ref (cA c_6a)), (0, .ref h0), (1, .int (nI j))]) hx hb dX3_takeWhatIsOver_34 hl (by decide) rfl (fun ls hl => ?_)
            refine lv_aload_nN hx hb dX3_takeWhatIsOver_36 rfl (lv_at hl 1 rfl) ?_
            refine lv_ifnullN (tgt := 57) hx hb dX3_takeWhatIsOver_37 (by decide) ?_
            refine lv_aloadN hx hb dX3_takeWhatIsOver_57 (lv_at hl 0 rfl) ?_
            refine lv_ifnullN (tgt := 89) hx hb dX3_takeWhatIsOver_59 (by decide) ?_
            obtain ⟨y_10, ey_10⟩ : ∃ y : Int32, y = (nI j) + 1 := ⟨_, rfl⟩
            refine lv_iinc (v := y_10) (lv' := [(1, .int y_10), (4, .null), (3, .null), (2, .ref (cA c_6a)), (0, .ref h0)]) hx hb dX3_takeWhatIsOver_89 hl (k := 4) rfl (by rw [ey_10]; rfl) (by decide) rfl (fun ls hl => ?_)
            obtain rfl : y_10 = nI (j + 1) := ey_10.trans (nI_1 j)
            have en_11 : (nI (j + 1)).toInt = ((j + 1 : Nat) : Int) := pz_ti (by omega)
            refine lv_goto (tgt := 2) hx hb dX3_takeWhatIsOver_92 (by decide) ?_
            exact ih_B2 _ (by omega) (j + 1) X7 nq7 rs7 _ _ ls rfl (by omega) (hX7) (by omega) hW hS (lv_sub hl [4, 0] rfl)
          · skip
            have hP_9 : P a_9 := hq_8 _ rfl
            refine W.eq (g2 := F0 m 34 ls [.ref a_9]) rfl ?_
            refine lv_astore (lv' := [(4, .ref a_9), (3, .null), (2, .ref (cA c_6a)), (0, .ref h0), (1, .int (nI j))]) hx hb dX3_takeWhatIsOver_34 hl (by decide) rfl (fun ls hl => ?_)
            refine lv_aload_nN hx hb dX3_takeWhatIsOver_36 rfl (lv_at hl 1 rfl) ?_
            refine lv_ifnullN (tgt := 57) hx hb dX3_takeWhatIsOver_37 (by decide) ?_
            refine lv_aload hx hb dX3_takeWhatIsOver_57 (lv_at hl 0 rfl) ?_
            refine lv_ifnull hx hb dX3_takeWhatIsOver_59 ?_
            refine lv_aload hx hb dX3_takeWhatIsOver_62 (lv_at hl 0 rfl) ?_
            refine A_get S hK hW hP_9 2 (by decide) (fun _ _ => rfl) iw_460 rfl dX3_takeWhatIsOver_64 (fun x_12 => ?_)
            refine lv_aload_n hx hb dX3_takeWhatIsOver_67 rfl (lv_at hl 3 rfl) ?_
            refine D_get S hK hW 5 (by decide) (fun _ => rfl) iw_110 rfl dX3_takeWhatIsOver_68 (fun x_13 hx_13 => ?_)
            refine lv_icmp_ne (tgt := 89) hx hb dX3_takeWhatIsOver_71 (by decide) (fun c_14 => ?_) (fun c_14 => ?_)
            · skip
              have i_14 : ¬ x_12.toInt = x_13.toInt := by have h9 := pz_neq c_14; exact h9
              obtain ⟨y_15, ey_15⟩ : ∃ y : Int32, y = (nI j) + 1 := ⟨_, rfl⟩
              refine lv_iinc (v := y_15) (lv' := [(1, .int y_15), (4, .ref a_9), (3, .null), (2, .ref (cA c_6a)), (0, .ref h0)]) hx hb dX3_takeWhatIsOver_89 hl (k := 4) rfl (by rw [ey_15]; rfl) (by decide) rfl (fun ls hl => ?_)
              obtain rfl : y_15 = nI (j + 1) := ey_15.trans (nI_1 j)
              have en_16 : (nI (j + 1)).toInt = ((j + 1 : Nat) : Int) := pz_ti (by omega)
              refine lv_goto (tgt := 2) hx hb dX3_takeWhatIsOver_92 (by decide) ?_
              exact ih_B2 _ (by omega) (j + 1) X7 nq7 rs7 _ _ ls rfl (by omega) (hX7) (by omega) hW hS (lv_sub hl [4, 0] rfl)
            · skip
              have i_14 : x_12.toInt = x_13.toInt := by have h9 := pz_eq c_14; exact h9
              refine lv_aload_n hx hb dX3_takeWhatIsOver_74 rfl (lv_at hl 2 rfl) ?_
              refine C_gp (v := .int (y_8 6)) S hK hc_8 6 (by decide) rfl iw_368 rfl dX3_takeWhatIsOver_75 ?_
              refine lv_iconst (v := 1) hx hb dX3_takeWhatIsOver_78 (by decide) ?_
              refine lv_icmp_ne (tgt := 89) hx hb dX3_takeWhatIsOver_79 (by decide) (fun c_18 => ?_) (fun c_18 => ?_)
              · skip
                have i_18 : ¬ (y_8 6).toInt = 1 := by have h9 := pz_neq c_18; exact h9
                obtain ⟨y_19, ey_19⟩ : ∃ y : Int32, y = (nI j) + 1 := ⟨_, rfl⟩
                refine lv_iinc (v := y_19) (lv' := [(1, .int y_19), (4, .ref a_9), (3, .null), (2, .ref (cA c_6a)), (0, .ref h0)]) hx hb dX3_takeWhatIsOver_89 hl (k := 4) rfl (by rw [ey_19]; rfl) (by decide) rfl (fun ls hl => ?_)
                obtain rfl : y_19 = nI (j + 1) := ey_19.trans (nI_1 j)
                have en_20 : (nI (j + 1)).toInt = ((j + 1 : Nat) : Int) := pz_ti (by omega)
                refine lv_goto (tgt := 2) hx hb dX3_takeWhatIsOver_92 (by decide) ?_
                exact ih_B2 _ (by omega) (j + 1) X7 nq7 rs7 _ _ ls rfl (by omega) (hX7) (by omega) hW hS (lv_sub hl [4, 0] rfl)
              · skip
                have i_18 : (y_8 6).toInt = 1 := by have h9 := pz_eq c_18; exact h9
                refine lv_aload_n hx hb dX3_takeWhatIsOver_82 rfl (lv_at hl 3 rfl) ?_
                refine lv_aload_n hx hb dX3_takeWhatIsOver_83 rfl (lv_at hl 2 rfl) ?_
                refine lv_aload hx hb dX3_takeWhatIsOver_84 (lv_at hl 0 rfl) ?_
                refine W.ti hsz hbs hS hW ?_
                refine c_v (Pw := fun H9 => H9.size = H.size ∧ Cw dC dI z A bs cp h0 la sA cA ns nc dr X7 P tr nl nq7 rs7 H9) (n := 2) (As := [.ref (cA c_6a), .ref a_9]) (rest := []) S (q_X3_takeAnswer l dC dI z mi A bs cp h0 la sA cA ns nc dr X7 P tr nl nq7 rs7 H.size c_6a a_9 xr (by have h9 := hS.1; omega) (by omega) hP_9 (by have h9 : X7 8 = X 8 := hX7 8 (by decide); rw [h9]; exact hb8) (by omega)) iw_548 iw_545 iw_547 iw_20 iw_57 (by decide +kernel) rfl ⟨rfl, rfl, Nat.le_of_ble_eq_true rfl, Nat.le_of_ble_eq_true rfl⟩ KZ.blind (D_recv hK hW) (hKZ.at hS (fun _ h9 => h9)) ⟨rfl, hW⟩ hl.1 rfl (Nat.le_of_ble_eq_true rfl) dX3_takeWhatIsOver_86 (hW.rok hsz hS) hS (fun _ h9 => h9) (fun v9 H locs hB hz9 hk9 hS => ?_)
                obtain ⟨X_21, nq_21, rs_21, rfl, hX_21, hN_21, hW⟩ := hB
                refine W.to hsz hbs hS hW ?_
                refine W.eq (g2 := F0 m 89 ls []) rfl ?_
                obtain ⟨y_22, ey_22⟩ : ∃ y : Int32, y = (nI j) + 1 := ⟨_, rfl⟩
                refine lv_iinc (v := y_22) (lv' := [(1, .int y_22), (4, .ref a_9), (3, .null), (2, .ref (cA c_6a)), (0, .ref h0)]) hx hb dX3_takeWhatIsOver_89 hl (k := 4) rfl (by rw [ey_22]; rfl) (by decide) rfl (fun ls hl => ?_)
                obtain rfl : y_22 = nI (j + 1) := ey_22.trans (nI_1 j)
                have en_23 : (nI (j + 1)).toInt = ((j + 1 : Nat) : Int) := pz_ti (by omega)
                refine lv_goto (tgt := 2) hx hb dX3_takeWhatIsOver_92 (by decide) ?_
                exact ih_B2 _ (by omega) (j + 1) X_21 nq_21 rs_21 _ _ ls rfl (by omega) ((fun j9 h9 => (hX_21 j9 h9).trans (hX7 j9 h9))) (by omega) hW hS (lv_sub hl [4, 0] rfl)
        · skip
          have hP_8 : P a_8 := hp_8 _ rfl
          refine W.eq (g2 := F0 m 29 ls [.ref a_8]) rfl ?_
          refine lv_astore_n (lv' := [(3, .ref a_8), (2, .ref (cA c_6a)), (0, .ref h0), (1, .int (nI j))]) hx hb dX3_takeWhatIsOver_29 rfl hl (by decide) rfl (fun ls hl => ?_)
          refine lv_aload_n hx hb dX3_takeWhatIsOver_30 rfl (lv_at hl 1 rfl) ?_
          refine C_gp (v := va_rf q_8) S hK hc_8 11 (by decide) rfl iw_378 rfl dX3_takeWhatIsOver_31 ?_
          rcases q_8 with _ | a_24
          · skip
            refine W.eq (g2 := F0 m 34 ls [.null]) rfl ?_
            refine lv_astoreN (lv' := [(4, .null), (3, .ref a_8), (2, .ref (cA c_6a)), (0, .ref h0), (1, .int (nI j))]) hx hb dX3_takeWhatIsOver_34 hl (by decide) rfl (fun ls hl => ?_)
            refine lv_aload_n hx hb dX3_takeWhatIsOver_36 rfl (lv_at hl 1 rfl) ?_
            refine lv_ifnull hx hb dX3_takeWhatIsOver_37 ?_
            refine lv_aload_n hx hb dX3_takeWhatIsOver_40 rfl (lv_at hl 1 rfl) ?_
            refine A_get S hK hW hP_8 2 (by decide) (fun _ _ => rfl) iw_460 rfl dX3_takeWhatIsOver_41 (fun x_25 => ?_)
            refine lv_aload_n hx hb dX3_takeWhatIsOver_44 rfl (lv_at hl 3 rfl) ?_
            refine D_get S hK hW 5 (by decide) (fun _ => rfl) iw_110 rfl dX3_takeWhatIsOver_45 (fun x_26 hx_26 => ?_)
            refine lv_icmp_ne (tgt := 57) hx hb dX3_takeWhatIsOver_48 (by decide) (fun c_27 => ?_) (fun c_27 => ?_)
            · skip
              have i_27 : ¬ x_25.toInt = x_26.toInt := by have h9 := pz_neq c_27; exact h9
              refine lv_aloadN hx hb dX3_takeWhatIsOver_57 (lv_at hl 0 rfl) ?_
              refine lv_ifnullN (tgt := 89) hx hb dX3_takeWhatIsOver_59 (by decide) ?_
              obtain ⟨y_28, ey_28⟩ : ∃ y : Int32, y = (nI j) + 1 := ⟨_, rfl⟩
              refine lv_iinc (v := y_28) (lv' := [(1, .int y_28), (4, .null), (3, .ref a_8), (2, .ref (cA c_6a)), (0, .ref h0)]) hx hb dX3_takeWhatIsOver_89 hl (k := 4) rfl (by rw [ey_28]; rfl) (by decide) rfl (fun ls hl => ?_)
              obtain rfl : y_28 = nI (j + 1) := ey_28.trans (nI_1 j)
              have en_29 : (nI (j + 1)).toInt = ((j + 1 : Nat) : Int) := pz_ti (by omega)
              refine lv_goto (tgt := 2) hx hb dX3_takeWhatIsOver_92 (by decide) ?_
              exact ih_B2 _ (by omega) (j + 1) X7 nq7 rs7 _ _ ls rfl (by omega) (hX7) (by omega) hW hS (lv_sub hl [4, 0] rfl)
            · skip
              have i_27 : x_25.toInt = x_26.toInt := by have h9 := pz_eq c_27; exact h9
              refine lv_aload_n hx hb dX3_takeWhatIsOver_51 rfl (lv_at hl 3 rfl) ?_
              refine lv_aload_n hx hb dX3_takeWhatIsOver_52 rfl (lv_at hl 2 rfl) ?_
              refine lv_aload_n hx hb dX3_takeWhatIsOver_53 rfl (lv_at hl 1 rfl) ?_
              refine W.ti hsz hbs hS hW ?_
              refine c_v (Pw := fun H9 => H9.size = H.size ∧ Cw dC dI z A bs cp h0 la sA cA ns nc dr X7 P tr nl nq7 rs7 H9) (n := 2) (As := [.ref (cA c_6a), .ref a_8]) (rest := []) S (q_X3_takeAnswer l dC dI z mi A bs cp h0 la sA cA ns nc dr X7 P tr nl nq7 rs7 H.size c_6a a_8 xr (by have h9 := hS.1; omega) (by omega) hP_8 (by have h9 : X7 8 = X 8 := hX7 8 (by decide); rw [h9]; exact hb8) (by omega)) iw_548 iw_545 iw_547 iw_20 iw_57 (by decide +kernel) rfl ⟨rfl, rfl, Nat.le_of_ble_eq_true rfl, Nat.le_of_ble_eq_true rfl⟩ KZ.blind (D_recv hK hW) (hKZ.at hS (fun _ h9 => h9)) ⟨rfl, hW⟩ hl.1 rfl (Nat.le_of_ble_eq_true rfl) dX3_takeWhatIsOver_54 (hW.rok hsz hS) hS (fun _ h9 => h9) (fun v9 H locs hB hz9 hk9 hS => ?_)
              obtain ⟨X_30, nq_30, rs_30, rfl, hX_30, hN_30, hW⟩ := hB
              refine W.to hsz hbs hS hW ?_
              refine W.eq (g2 := F0 m 57 ls []) rfl ?_
              refine lv_aloadN hx hb dX3_takeWhatIsOver_57 (lv_at hl 0 rfl) ?_
              refine lv_ifnullN (tgt := 89) hx hb dX3_takeWhatIsOver_59 (by decide) ?_
              obtain ⟨y_31, ey_31⟩ : ∃ y : Int32, y = (nI j) + 1 := ⟨_, rfl⟩
              refine lv_iinc (v := y_31) (lv' := [(1, .int y_31), (4, .null), (3, .ref a_8), (2, .ref (cA c_6a)), (0, .ref h0)]) hx hb dX3_takeWhatIsOver_89 hl (k := 4) rfl (by rw [ey_31]; rfl) (by decide) rfl (fun ls hl => ?_)
              obtain rfl : y_31 = nI (j + 1) := ey_31.trans (nI_1 j)
              have en_32 : (nI (j + 1)).toInt = ((j + 1 : Nat) : Int) := pz_ti (by omega)
              refine lv_goto (tgt := 2) hx hb dX3_takeWhatIsOver_92 (by decide) ?_
              exact ih_B2 _ (by omega) (j + 1) X_30 nq_30 rs_30 _ _ ls rfl (by omega) ((fun j9 h9 => (hX_30 j9 h9).trans (hX7 j9 h9))) (by omega) hW hS (lv_sub hl [4, 0] rfl)
          · skip
            have hP_24 : P a_24 := hq_8 _ rfl
            refine W.eq (g2 := F0 m 34 ls [.ref a_24]) rfl ?_
            refine lv_astore (lv' := [(4, .ref a_24), (3, .ref a_8), (2, .ref (cA c_6a)), (0, .ref h0), (1, .int (nI j))]) hx hb dX3_takeWhatIsOver_34 hl (by decide) rfl (fun ls hl => ?_)
            refine lv_aload_n hx hb dX3_takeWhatIsOver_36 rfl (lv_at hl 1 rfl) ?_
            refine lv_ifnull hx hb dX3_takeWhatIsOver_37 ?_
            refine lv_aload_n hx hb dX3_takeWhatIsOver_40 rfl (lv_at hl 1 rfl) ?_
            refine A_get S hK hW hP_8 2 (by decide) (fun _ _ => rfl) iw_460 rfl dX3_takeWhatIsOver_41 (fun x_33 => ?_)
            refine lv_aload_n hx hb dX3_takeWhatIsOver_44 rfl (lv_at hl 3 rfl) ?_
            refine D_get S hK hW 5 (by decide) (fun _ => rfl) iw_110 rfl dX3_takeWhatIsOver_45 (fun x_34 hx_34 => ?_)
            refine lv_icmp_ne (tgt := 57) hx hb dX3_takeWhatIsOver_48 (by decide) (fun c_35 => ?_) (fun c_35 => ?_)
            · skip
              have i_35 : ¬ x_33.toInt = x_34.toInt := by have h9 := pz_neq c_35; exact h9
              refine lv_aload hx hb dX3_takeWhatIsOver_57 (lv_at hl 0 rfl) ?_
              refine lv_ifnull hx hb dX3_takeWhatIsOver_59 ?_
              refine lv_aload hx hb dX3_takeWhatIsOver_62 (lv_at hl 0 rfl) ?_
              refine A_get S hK hW hP_24 2 (by decide) (fun _ _ => rfl) iw_460 rfl dX3_takeWhatIsOver_64 (fun x_36 => ?_)
              refine lv_aload_n hx hb dX3_takeWhatIsOver_67 rfl (lv_at hl 3 rfl) ?_
              refine D_get S hK hW 5 (by decide) (fun _ => rfl) iw_110 rfl dX3_takeWhatIsOver_68 (fun x_37 hx_37 => ?_)
              refine lv_icmp_ne (tgt := 89) hx hb dX3_takeWhatIsOver_71 (by decide) (fun c_38 => ?_) (fun c_38 => ?_)
              · skip
                have i_38 : ¬ x_36.toInt = x_37.toInt := by have h9 := pz_neq c_38; exact h9
                obtain ⟨y_39, ey_39⟩ : ∃ y : Int32, y = (nI j) + 1 := ⟨_, rfl⟩
                refine lv_iinc (v := y_39) (lv' := [(1, .int y_39), (4, .ref a_24), (3, .ref a_8), (2, .ref (cA c_6a)), (0, .ref h0)]) hx hb dX3_takeWhatIsOver_89 hl (k := 4) rfl (by rw [ey_39]; rfl) (by decide) rfl (fun ls hl => ?_)
                obtain rfl : y_39 = nI (j + 1) := ey_39.trans (nI_1 j)
                have en_40 : (nI (j + 1)).toInt = ((j + 1 : Nat) : Int) := pz_ti (by omega)
                refine lv_goto (tgt := 2) hx hb dX3_takeWhatIsOver_92 (by decide) ?_
                exact ih_B2 _ (by omega) (j + 1) X7 nq7 rs7 _ _ ls rfl (by omega) (hX7) (by omega) hW hS (lv_sub hl [4, 0] rfl)
              · skip
                have i_38 : x_36.toInt = x_37.toInt := by have h9 := pz_eq c_38; exact h9
                refine lv_aload_n hx hb dX3_takeWhatIsOver_74 rfl (lv_at hl 2 rfl) ?_
                refine C_gp (v := .int (y_8 6)) S hK hc_8 6 (by decide) rfl iw_368 rfl dX3_takeWhatIsOver_75 ?_
                refine lv_iconst (v := 1) hx hb dX3_takeWhatIsOver_78 (by decide) ?_
                refine lv_icmp_ne (tgt := 89) hx hb dX3_takeWhatIsOver_79 (by decide) (fun c_42 => ?_) (fun c_42 => ?_)
                · skip
                  have i_42 : ¬ (y_8 6).toInt = 1 := by have h9 := pz_neq c_42; exact h9
                  obtain ⟨y_43, ey_43⟩ : ∃ y : Int32, y = (nI j) + 1 := ⟨_, rfl⟩
                  refine lv_iinc (v := y_43) (lv' := [(1, .int y_43), (4, .ref a_24), (3, .ref a_8), (2, .ref (cA c_6a)), (0, .ref h0)]) hx hb dX3_takeWhatIsOver_89 hl (k := 4) rfl (by rw [ey_43]; rfl) (by decide) rfl (fun ls hl => ?_)
                  obtain rfl : y_43 = nI (j + 1) := ey_43.trans (nI_1 j)
                  have en_44 : (nI (j + 1)).toInt = ((j + 1 : Nat) : Int) := pz_ti (by omega)
                  refine lv_goto (tgt := 2) hx hb dX3_takeWhatIsOver_92 (by decide) ?_
                  exact ih_B2 _ (by omega) (j + 1) X7 nq7 rs7 _ _ ls rfl (by omega) (hX7) (by omega) hW hS (lv_sub hl [4, 0] rfl)
                · skip
                  have i_42 : (y_8 6).toInt = 1 := by have h9 := pz_eq c_42; exact h9
                  refine lv_aload_n hx hb dX3_takeWhatIsOver_82 rfl (lv_at hl 3 rfl) ?_
                  refine lv_aload_n hx hb dX3_takeWhatIsOver_83 rfl (lv_at hl 2 rfl) ?_
                  refine lv_aload hx hb dX3_takeWhatIsOver_84 (lv_at hl 0 rfl) ?_
                  refine W.ti hsz hbs hS hW ?_
                  refine c_v (Pw := fun H9 => H9.size = H.size ∧ Cw dC dI z A bs cp h0 la sA cA ns nc dr X7 P tr nl nq7 rs7 H9) (n := 2) (As := [.ref (cA c_6a), .ref a_24]) (rest := []) S (q_X3_takeAnswer l dC dI z mi A bs cp h0 la sA cA ns nc dr X7 P tr nl nq7 rs7 H.size c_6a a_24 xr (by have h9 := hS.1; omega) (by omega) hP_24 (by have h9 : X7 8 = X 8 := hX7 8 (by decide); rw [h9]; exact hb8) (by omega)) iw_548 iw_545 iw_547 iw_20 iw_57 (by decide +kernel) rfl ⟨rfl, rfl, Nat.le_of_ble_eq_true rfl, Nat.le_of_ble_eq_true rfl⟩ KZ.blind (D_recv hK hW) (hKZ.at hS (fun _ h9 => h9)) ⟨rfl, hW⟩ hl.1 rfl (Nat.le_of_ble_eq_true rfl) dX3_takeWhatIsOver_86 (hW.rok hsz hS) hS (fun _ h9 => h9) (fun v9 H locs hB hz9 hk9 hS => ?_)
                  obtain ⟨X_45, nq_45, rs_45, rfl, hX_45, hN_45, hW⟩ := hB
                  refine W.to hsz hbs hS hW ?_
                  refine W.eq (g2 := F0 m 89 ls []) rfl ?_
                  obtain ⟨y_46, ey_46⟩ : ∃ y : Int32, y = (nI j) + 1 := ⟨_, rfl⟩
                  refine lv_iinc (v := y_46) (lv' := [(1, .int y_46), (4, .ref a_24), (3, .ref a_8), (2, .ref (cA c_6a)), (0, .ref h0)]) hx hb dX3_takeWhatIsOver_89 hl (k := 4) rfl (by rw [ey_46]; rfl) (by decide) rfl (fun ls hl => ?_)
                  obtain rfl : y_46 = nI (j + 1) := ey_46.trans (nI_1 j)
                  have en_47 : (nI (j + 1)).toInt = ((j + 1 : Nat) : Int) := pz_ti (by omega)
                  refine lv_goto (tgt := 2) hx hb dX3_takeWhatIsOver_92 (by decide) ?_
                  exact ih_B2 _ (by omega) (j + 1) X_45 nq_45 rs_45 _ _ ls rfl (by omega) ((fun j9 h9 => (hX_45 j9 h9).trans (hX7 j9 h9))) (by omega) hW hS (lv_sub hl [4, 0] rfl)
            · skip
              have i_35 : x_33.toInt = x_34.toInt := by have h9 := pz_eq c_35; exact h9
              refine lv_aload_n hx hb dX3_takeWhatIsOver_51 rfl (lv_at hl 3 rfl) ?_
              refine lv_aload_n hx hb dX3_takeWhatIsOver_52 rfl (lv_at hl 2 rfl) ?_
              refine lv_aload_n hx hb dX3_takeWhatIsOver_53 rfl (lv_at hl 1 rfl) ?_
              refine W.ti hsz hbs hS hW ?_
              refine c_v (Pw := fun H9 => H9.size = H.size ∧ Cw dC dI z A bs cp h0 la sA cA ns nc dr X7 P tr nl nq7 rs7 H9) (n := 2) (As := [.ref (cA c_6a), .ref a_8]) (rest := []) S (q_X3_takeAnswer l dC dI z mi A bs cp h0 la sA cA ns nc dr X7 P tr nl nq7 rs7 H.size c_6a a_8 xr (by have h9 := hS.1; omega) (by omega) hP_8 (by have h9 : X7 8 = X 8 := hX7 8 (by decide); rw [h9]; exact hb8) (by omega)) iw_548 iw_545 iw_547 iw_20 iw_57 (by decide +kernel) rfl ⟨rfl, rfl, Nat.le_of_ble_eq_true rfl, Nat.le_of_ble_eq_true rfl⟩ KZ.blind (D_recv hK hW) (hKZ.at hS (fun _ h9 => h9)) ⟨rfl, hW⟩ hl.1 rfl (Nat.le_of_ble_eq_true rfl) dX3_takeWhatIsOver_54 (hW.rok hsz hS) hS (fun _ h9 => h9) (fun v9 H locs hB hz9 hk9 hS => ?_)
              obtain ⟨X_48, nq_48, rs_48, rfl, hX_48, hN_48, hW⟩ := hB
              refine W.to hsz hbs hS hW ?_
              refine W.eq (g2 := F0 m 57 ls []) rfl ?_
              refine lv_aload hx hb dX3_takeWhatIsOver_57 (lv_at hl 0 rfl) ?_
              refine lv_ifnull hx hb dX3_takeWhatIsOver_59 ?_
              refine lv_aload hx hb dX3_takeWhatIsOver_62 (lv_at hl 0 rfl) ?_
              refine A_get S hK hW hP_24 2 (by decide) (fun _ _ => rfl) iw_460 rfl dX3_takeWhatIsOver_64 (fun x_49 => ?_)
              refine lv_aload_n hx hb dX3_takeWhatIsOver_67 rfl (lv_at hl 3 rfl) ?_
              refine D_get S hK hW 5 (by decide) (fun _ => rfl) iw_110 rfl dX3_takeWhatIsOver_68 (fun x_50 hx_50 => ?_)
              refine lv_icmp_ne (tgt := 89) hx hb dX3_takeWhatIsOver_71 (by decide) (fun c_51 => ?_) (fun c_51 => ?_)
              · skip
                have i_51 : ¬ x_49.toInt = x_50.toInt := by have h9 := pz_neq c_51; exact h9
                obtain ⟨y_52, ey_52⟩ : ∃ y : Int32, y = (nI j) + 1 := ⟨_, rfl⟩
                refine lv_iinc (v := y_52) (lv' := [(1, .int y_52), (4, .ref a_24), (3, .ref a_8), (2, .ref (cA c_6a)), (0, .ref h0)]) hx hb dX3_takeWhatIsOver_89 hl (k := 4) rfl (by rw [ey_52]; rfl) (by decide) rfl (fun ls hl => ?_)
                obtain rfl : y_52 = nI (j + 1) := ey_52.trans (nI_1 j)
                have en_53 : (nI (j + 1)).toInt = ((j + 1 : Nat) : Int) := pz_ti (by omega)
                refine lv_goto (tgt := 2) hx hb dX3_takeWhatIsOver_92 (by decide) ?_
                exact ih_B2 _ (by omega) (j + 1) X_48 nq_48 rs_48 _ _ ls rfl (by omega) ((fun j9 h9 => (hX_48 j9 h9).trans (hX7 j9 h9))) (by omega) hW hS (lv_sub hl [4, 0] rfl)
              · skip
                have i_51 : x_49.toInt = x_50.toInt := by have h9 := pz_eq c_51; exact h9
                refine lv_aload_n hx hb dX3_takeWhatIsOver_74 rfl (lv_at hl 2 rfl) ?_
                obtain ⟨-, y_54, p_54, q_54, hc_54, ⟨h0_54, h7_54⟩, hp_54, hq_54⟩ := hW.2.2.2.1 c_6a (by omega)
                refine C_gp (v := .int (y_54 6)) S hK hc_54 6 (by decide) rfl iw_368 rfl dX3_takeWhatIsOver_75 ?_
                refine lv_iconst (v := 1) hx hb dX3_takeWhatIsOver_78 (by decide) ?_
                refine lv_icmp_ne (tgt := 89) hx hb dX3_takeWhatIsOver_79 (by decide) (fun c_55 => ?_) (fun c_55 => ?_)
                · skip
                  have i_55 : ¬ (y_54 6).toInt = 1 := by have h9 := pz_neq c_55; exact h9
                  obtain ⟨y_56, ey_56⟩ : ∃ y : Int32, y = (nI j) + 1 := ⟨_, rfl⟩
                  refine lv_iinc (v := y_56) (lv' := [(1, .int y_56), (4, .ref a_24), (3, .ref a_8), (2, .ref (cA c_6a)), (0, .ref h0)]) hx hb dX3_takeWhatIsOver_89 hl (k := 4) rfl (by rw [ey_56]; rfl) (by decide) rfl (fun ls hl => ?_)
                  obtain rfl : y_56 = nI (j + 1) := ey_56.trans (nI_1 j)
                  have en_57 : (nI (j + 1)).toInt = ((j + 1 : Nat) : Int) := pz_ti (by omega)
                  refine lv_goto (tgt := 2) hx hb dX3_takeWhatIsOver_92 (by decide) ?_
                  exact ih_B2 _ (by omega) (j + 1) X_48 nq_48 rs_48 _ _ ls rfl (by omega) ((fun j9 h9 => (hX_48 j9 h9).trans (hX7 j9 h9))) (by omega) hW hS (lv_sub hl [4, 0] rfl)
                · skip
                  have i_55 : (y_54 6).toInt = 1 := by have h9 := pz_eq c_55; exact h9
                  refine lv_aload_n hx hb dX3_takeWhatIsOver_82 rfl (lv_at hl 3 rfl) ?_
                  refine lv_aload_n hx hb dX3_takeWhatIsOver_83 rfl (lv_at hl 2 rfl) ?_
                  refine lv_aload hx hb dX3_takeWhatIsOver_84 (lv_at hl 0 rfl) ?_
                  refine W.ti hsz hbs hS hW ?_
                  refine c_v (Pw := fun H9 => H9.size = H.size ∧ Cw dC dI z A bs cp h0 la sA cA ns nc dr X_48 P tr nl nq_48 rs_48 H9) (n := 2) (As := [.ref (cA c_6a), .ref a_24]) (rest := []) S (q_X3_takeAnswer l dC dI z mi A bs cp h0 la sA cA ns nc dr X_48 P tr nl nq_48 rs_48 H.size c_6a a_24 xr (by have h9 := hS.1; omega) (by omega) hP_24 (by have h9 : X_48 8 = X 8 := (fun j9 h9 => (hX_48 j9 h9).trans (hX7 j9 h9)) 8 (by decide); rw [h9]; exact hb8) (by omega)) iw_548 iw_545 iw_547 iw_20 iw_57 (by decide +kernel) rfl ⟨rfl, rfl, Nat.le_of_ble_eq_true rfl, Nat.le_of_ble_eq_true rfl⟩ KZ.blind (D_recv hK hW) (hKZ.at hS (fun _ h9 => h9)) ⟨rfl, hW⟩ hl.1 rfl (Nat.le_of_ble_eq_true rfl) dX3_takeWhatIsOver_86 (hW.rok hsz hS) hS (fun _ h9 => h9) (fun v9 H locs hB hz9 hk9 hS => ?_)
                  obtain ⟨X_58, nq_58, rs_58, rfl, hX_58, hN_58, hW⟩ := hB
                  refine W.to hsz hbs hS hW ?_
                  refine W.eq (g2 := F0 m 89 ls []) rfl ?_
                  obtain ⟨y_59, ey_59⟩ : ∃ y : Int32, y = (nI j) + 1 := ⟨_, rfl⟩
                  refine lv_iinc (v := y_59) (lv' := [(1, .int y_59), (4, .ref a_24), (3, .ref a_8), (2, .ref (cA c_6a)), (0, .ref h0)]) hx hb dX3_takeWhatIsOver_89 hl (k := 4) rfl (by rw [ey_59]; rfl) (by decide) rfl (fun ls hl => ?_)
                  obtain rfl : y_59 = nI (j + 1) := ey_59.trans (nI_1 j)
                  have en_60 : (nI (j + 1)).toInt = ((j + 1 : Nat) : Int) := pz_ti (by omega)
                  refine lv_goto (tgt := 2) hx hb dX3_takeWhatIsOver_92 (by decide) ?_
                  exact ih_B2 _ (by omega) (j + 1) X_58 nq_58 rs_58 _ _ ls rfl (by omega) ((fun j9 h9 => (hX_58 j9 h9).trans ((fun j9 h9 => (hX_48 j9 h9).trans (hX7 j9 h9)) j9 h9))) (by omega) hW hS (lv_sub hl [4, 0] rfl)
  exact loop_B2 _ 0 X nq rs _ _ ls rfl (by omega) ((fun _ _ => rfl)) (by omega) hW hS (lv_sub hl [1, 0] rfl)

abbrev B_q_X3_hedgeSlow (dC : Nat → ClassId) (dI : Nat → Nat → Nat) (z : Nat) (mi : Nat) (A : Nat → Prop) (bs : Nat) (cp : Nat) (h0 : Nat) (la : Nat → Nat) (sA : Nat → Nat) (cA : Nat → Nat) (ns : Nat) (nc : Nat) (dr : Nat → Prop) (X : Nat → Int32) (P : Nat → Prop) (tr : Nat → Int32) (nl : Nat) (nq : Nat) (rs : Nat) (sz : Nat) (xr : Nat) : Option Value → Heap → Prop := fun v H => ∃ (P1 : Nat → Prop) (tr1 : Nat → Int32) (rs1 : Nat), v = none ∧ smc tr1 nc + (200 - agn X) + xr ≤ rs1 ∧ Cw dC dI z A bs cp h0 la sA cA ns nc dr X P1 tr1 nl nq rs1 H
set_option maxHeartbeats 8000000 in
set_option maxRecDepth 20000 in
theorem q_X3_hedgeSlow (l : Launch) (dC : Nat → ClassId) (dI : Nat → Nat → Nat) (z : Nat) (mi : Nat) (A : Nat → Prop) (bs : Nat) (cp : Nat) (h0 : Nat) (la : Nat → Nat) (sA : Nat → Nat) (cA : Nat → Nat) (ns : Nat) (nc : Nat) (dr : Nat → Prop) (X : Nat → Int32) (P : Nat → Prop) (tr : Nat → Int32) (nl : Nat) (nq : Nat) (rs : Nat) (sz : Nat) (xr : Nat) (hbs : bs ≤ sz) (hnd : smc tr nc + (200 - agn X) + xr ≤ rs) : Met l yX3_hedgeSlow (cws yX3_hedgeSlow cX3_hedgeSlow 5 none) { frames := 4, cells := (cp - sz), slots := (610 * (cp - sz)), locals := 90 } (va_Pc [.ref h0] (fun U => KZ dC dI z mi A U ∧ (fun H => H.size = sz ∧ Cw dC dI z A bs cp h0 la sA cA ns nc dr X P tr nl nq rs H) U.heap)) (Qg (B_q_X3_hedgeSlow dC dI z mi A bs cp h0 la sA cA ns nc dr X P tr nl nq rs sz xr) A) (cp - sz) (610 * (cp - sz)) A := by
  refine m_start (KK := KZ dC dI z mi A) (Pw := (fun H => H.size = sz ∧ Cw dC dI z A bs cp h0 la sA cA ns nc dr X P tr nl nq rs H)) (by decide) (Nat.le_of_ble_eq_true rfl) ?_
  intro p e s m below meth c ls S hr hlocks hin hKZ hW hS hl
  obtain ⟨hx, hb, hml, hown, hts⟩ := id S
  obtain ⟨hsz, hW⟩ := hW
  have hK := hKZ.1
  obtain ⟨hns, hnc, hnl, ag, hag, hXg, hnq⟩ := id hW.2.2.2.2.2.2
  have hagn : agn X = ag := agn_of hXg hag
  have hl : lv_has ls 5 [(0, .ref h0)] := hl
  refine W.to hsz hbs hS hW ?_
  refine lv_aload_n hx hb dX3_hedgeSlow_0 rfl (lv_at hl 0 rfl) ?_
  refine D_get S hK hW 9 (by decide) (fun _ => rfl) iw_114 rfl dX3_hedgeSlow_1 (fun x_1 hx_1 => ?_)
  replace hx_1 := hx_1 (by decide) (by decide)
  refine lv_if_ne (tgt := 8) hx hb dX3_hedgeSlow_4 (by decide) (fun c_2 => ?_) (fun c_2 => ?_)
  · skip
    have i_2 : ¬ x_1.toInt = 0 := by have h9 := pz_neq c_2; exact h9
    refine lv_iconst (v := 0) hx hb dX3_hedgeSlow_8 (by decide) ?_
    refine lv_istore_n (lv' := [(1, .int 0), (0, .ref h0)]) hx hb dX3_hedgeSlow_9 rfl hl (by decide) rfl (fun ls hl => ?_)
    have loop_B10 : ∀ (k9 : Nat) (j : Nat) (P7 : Nat → Prop) (tr7 : Nat → Int32) (rs7 : Nat) (H : Heap) (locs : List Loc) (ls : Array Slot), nl - j = k9 → (j ≤ nl) → (smc tr7 nc + (200 - agn X) + xr ≤ rs7) → Cw dC dI z A bs cp h0 la sA cA ns nc dr X P7 tr7 nl nq rs7 H → va_S A s.heap H locs → lv_has ls 5 [(0, .ref h0), (1, .int (nI j))] → W p l e { frames := 4, cells := (cp - sz), slots := (610 * (cp - sz)), locals := 90 } s m ([.ref h0] : List Value).toArray below meth c H locs (cp - sz) (610 * (cp - sz)) (MQ below (Qg (B_q_X3_hedgeSlow dC dI z mi A bs cp h0 la sA cA ns nc dr X P tr nl nq rs sz xr) A) ([.ref h0] : List Value).toArray s (cp - sz) (610 * (cp - sz)) A) (F0 m 10 ls []) := by
      intro k9
      induction k9 using Nat.strongRecOn with
      | ind k9 ih_B10 =>
        intro j P7 tr7 rs7 H locs ls hm_B10 hle_j hN7 hW hS hl
        have en_j : (nI j).toInt = ((j : Nat) : Int) := pz_ti (by omega)
        refine lv_iload_n hx hb dX3_hedgeSlow_10 rfl (lv_at hl 1 rfl) ?_
        refine lv_aload_n hx hb dX3_hedgeSlow_11 rfl (lv_at hl 0 rfl) ?_
        refine D_getl S hK hW 2 (by decide) (fun _ => rfl) iw_107 rfl dX3_hedgeSlow_12 ?_
        refine L_size (rest := [.int (nI j)]) S hKZ hW hS (i := 2) (by decide) hl.1 (Nat.le_of_ble_eq_true rfl) dX3_hedgeSlow_15 ⟨Nat.le_of_ble_eq_true rfl, Nat.le_of_ble_eq_true rfl⟩ ⟨Nat.le_refl _, Nat.le_refl _⟩ (fun H locs hW hS => ?_)
        refine W.eq (g2 := F0 m 18 ls [.int (nI nl), .int (nI j)]) rfl ?_
        obtain ⟨hns, hnc, hnl, ag_4, hag_4, -, hnq⟩ := id hW.2.2.2.2.2.2
        have en_5 : (nI nl).toInt = ((nl : Nat) : Int) := pz_ti (by omega)
        refine lv_icmp_ge (tgt := 124) hx hb dX3_hedgeSlow_18 (by decide) (fun c_6 => ?_) (fun c_6 => ?_)
        · skip
          have i_6 : (nI j).toInt ≥ (nI nl).toInt := by have h9 := pz_ge c_6; exact h9
          exact r_v hx hb hr hlocks hS dX3_hedgeSlow_124 (⟨P7, tr7, rs7, rfl, by omega, hW⟩)
        · skip
          have i_6 : (nI j).toInt < (nI nl).toInt := by have h9 := pz_nge c_6; exact h9
          refine lv_aload_n hx hb dX3_hedgeSlow_21 rfl (lv_at hl 0 rfl) ?_
          refine D_getl S hK hW 2 (by decide) (fun _ => rfl) iw_107 rfl dX3_hedgeSlow_22 ?_
          refine lv_iload_n hx hb dX3_hedgeSlow_25 rfl (lv_at hl 1 rfl) ?_
          refine L_get (rest := []) S hKZ hW hS (i := 2) (t := j) (by decide) (by show j < nl; omega) hl.1 (Nat.le_of_ble_eq_true rfl) dX3_hedgeSlow_26 ⟨Nat.le_of_ble_eq_true rfl, Nat.le_of_ble_eq_true rfl⟩ ⟨Nat.le_refl _, Nat.le_refl _⟩ (fun r_8 H locs hr_8 hW hS => ?_)
          obtain ⟨c_8a, hc_8a, rfl⟩ : ∃ c, c < nc ∧ r_8 = cA c := hr_8
          refine C_cast S hK hW (k := c_8a) (by omega) iw_351 dX3_hedgeSlow_29 ?_
          refine lv_astore_n (lv' := [(2, .ref (cA c_8a)), (0, .ref h0), (1, .int (nI j))]) hx hb dX3_hedgeSlow_32 rfl hl (by decide) rfl (fun ls hl => ?_)
          refine lv_aload_n hx hb dX3_hedgeSlow_33 rfl (lv_at hl 0 rfl) ?_
          obtain ⟨-, y_10, p_10, q_10, hc_10, ⟨h0_10, h7_10⟩, hp_10, hq_10⟩ := hW.2.2.2.1 c_8a (by omega)
          refine C_gp (v := va_rf q_10) S hK hc_10 11 (by decide) rfl iw_378 rfl dX3_hedgeSlow_34 ?_
          rcases q_10 with _ | a_10
          · skip
            refine W.eq (g2 := F0 m 37 ls [.null]) rfl ?_
            refine lv_ifnonnullN hx hb dX3_hedgeSlow_37 ?_
            refine lv_aload_n hx hb dX3_hedgeSlow_40 rfl (lv_at hl 0 rfl) ?_
            refine C_gp (v := va_rf p_10) S hK hc_10 10 (by decide) rfl iw_376 rfl dX3_hedgeSlow_41 ?_
            rcases p_10 with _ | a_11
            · skip
              refine W.eq (g2 := F0 m 44 ls [.null]) rfl ?_
              refine lv_goto (tgt := 48) hx hb dX3_hedgeSlow_44 (by decide) ?_
              refine lv_astore_nN (lv' := [(3, .null), (2, .ref (cA c_8a)), (0, .ref h0), (1, .int (nI j))]) hx hb dX3_hedgeSlow_48 rfl hl (by decide) rfl (fun ls hl => ?_)
              refine lv_aload_nN hx hb dX3_hedgeSlow_49 rfl (lv_at hl 0 rfl) ?_
              refine lv_ifnullN (tgt := 118) hx hb dX3_hedgeSlow_50 (by decide) ?_
              obtain ⟨y_12, ey_12⟩ : ∃ y : Int32, y = (nI j) + 1 := ⟨_, rfl⟩
              refine lv_iinc (v := y_12) (lv' := [(1, .int y_12), (3, .null), (2, .ref (cA c_8a)), (0, .ref h0)]) hx hb dX3_hedgeSlow_118 hl (k := 3) rfl (by rw [ey_12]; rfl) (by decide) rfl (fun ls hl => ?_)
              obtain rfl : y_12 = nI (j + 1) := ey_12.trans (nI_1 j)
              have en_13 : (nI (j + 1)).toInt = ((j + 1 : Nat) : Int) := pz_ti (by omega)
              refine lv_goto (tgt := 10) hx hb dX3_hedgeSlow_121 (by decide) ?_
              exact ih_B10 _ (by omega) (j + 1) P7 tr7 rs7 _ _ ls rfl (by omega) (by omega) hW hS (lv_sub hl [3, 0] rfl)
            · skip
              have hP_11 : P7 a_11 := hp_10 _ rfl
              refine W.eq (g2 := F0 m 44 ls [.ref a_11]) rfl ?_
              refine lv_goto (tgt := 48) hx hb dX3_hedgeSlow_44 (by decide) ?_
              refine lv_astore_n (lv' := [(3, .ref a_11), (2, .ref (cA c_8a)), (0, .ref h0), (1, .int (nI j))]) hx hb dX3_hedgeSlow_48 rfl hl (by decide) rfl (fun ls hl => ?_)
              refine lv_aload_n hx hb dX3_hedgeSlow_49 rfl (lv_at hl 0 rfl) ?_
              refine lv_ifnull hx hb dX3_hedgeSlow_50 ?_
              refine lv_aload_n hx hb dX3_hedgeSlow_53 rfl (lv_at hl 1 rfl) ?_
              refine C_gp (v := .int (y_10 5)) S hK hc_10 5 (by decide) rfl iw_366 rfl dX3_hedgeSlow_54 ?_
              refine lv_if_eq (tgt := 118) hx hb dX3_hedgeSlow_57 (by decide) (fun c_15 => ?_) (fun c_15 => ?_)
              · skip
                have i_15 : (y_10 5).toInt = 0 := by have h9 := pz_eq c_15; exact h9
                obtain ⟨y_16, ey_16⟩ : ∃ y : Int32, y = (nI j) + 1 := ⟨_, rfl⟩
                refine lv_iinc (v := y_16) (lv' := [(1, .int y_16), (3, .ref a_11), (2, .ref (cA c_8a)), (0, .ref h0)]) hx hb dX3_hedgeSlow_118 hl (k := 3) rfl (by rw [ey_16]; rfl) (by decide) rfl (fun ls hl => ?_)
                obtain rfl : y_16 = nI (j + 1) := ey_16.trans (nI_1 j)
                have en_17 : (nI (j + 1)).toInt = ((j + 1 : Nat) : Int) := pz_ti (by omega)
                refine lv_goto (tgt := 10) hx hb dX3_hedgeSlow_121 (by decide) ?_
                exact ih_B10 _ (by omega) (j + 1) P7 tr7 rs7 _ _ ls rfl (by omega) (by omega) hW hS (lv_sub hl [3, 0] rfl)
              · skip
                have i_15 : ¬ (y_10 5).toInt = 0 := by have h9 := pz_neq c_15; exact h9
                refine lv_aload_n hx hb dX3_hedgeSlow_60 rfl (lv_at hl 0 rfl) ?_
                refine A_get S hK hW hP_11 1 (by decide) (fun _ _ => rfl) iw_458 rfl dX3_hedgeSlow_61 (fun x_18 => ?_)
                refine lv_aload_n hx hb dX3_hedgeSlow_64 rfl (lv_at hl 2 rfl) ?_
                refine D_get S hK hW 9 (by decide) (fun _ => rfl) iw_114 rfl dX3_hedgeSlow_65 (fun x_19 hx_19 => ?_)
                replace hx_19 := hx_19 (by decide) (by decide)
                refine lv_iadd hx hb dX3_hedgeSlow_68 ?_
                refine lv_topi (fun x_20 _ => ?_)
                refine lv_aload_n hx hb dX3_hedgeSlow_69 rfl (lv_at hl 2 rfl) ?_
                refine D_get S hK hW 5 (by decide) (fun _ => rfl) iw_110 rfl dX3_hedgeSlow_70 (fun x_21 hx_21 => ?_)
                refine lv_icmp_eq (tgt := 79) hx hb dX3_hedgeSlow_73 (by decide) (fun c_22 => ?_) (fun c_22 => ?_)
                · skip
                  have i_22 : x_20.toInt = x_21.toInt := by have h9 := pz_eq c_22; exact h9
                  refine lv_aload_n hx hb dX3_hedgeSlow_79 rfl (lv_at hl 2 rfl) ?_
                  refine lv_aload_n hx hb dX3_hedgeSlow_80 rfl (lv_at hl 1 rfl) ?_
                  refine C_gp (v := .int (y_10 7)) S hK hc_10 7 (by decide) rfl iw_370 rfl dX3_hedgeSlow_81 ?_
                  rw [h7_10]
                  refine lv_iconst (v := (-1)) hx hb dX3_hedgeSlow_84 (by decide) ?_
                  refine c_v (Pw := Cw dC dI z A bs cp h0 la sA cA ns nc dr X P7 tr7 nl nq rs7) (n := 2) (As := [.int (tr7 c_8a), .int (-1)]) (rest := []) S (q_X3_byFewest l dC dI z mi A bs cp h0 la sA cA ns nc dr X P7 tr7 nl nq rs7 (tr7 c_8a) (-1)) iw_439 iw_436 iw_438 iw_9 iw_57 (by decide +kernel) rfl ⟨rfl, rfl, Nat.le_of_ble_eq_true rfl, Nat.le_of_ble_eq_true rfl⟩ KZ.blind (D_recv hK hW) (hKZ.at hS (fun _ h9 => h9)) hW hl.1 rfl (Nat.le_of_ble_eq_true rfl) dX3_hedgeSlow_85 ⟨Nat.le_refl _, Nat.le_refl _⟩ hS (fun _ h9 => h9) (fun v9 H locs hB hz9 hk9 hS => ?_)
                  refine W.widen (k := cp - sz) (n := 610 * (cp - sz)) (Nat.le_refl _) (Nat.le_refl _) ?_
                  obtain ⟨o_24, rfl, ho_24, hW⟩ := hB
                  rcases ho_24 with rfl | ⟨k_24, hk_24, rfl, hm_24⟩
                  · skip
                    refine W.eq (g2 := F0 m 88 ls [.null]) rfl ?_
                    refine lv_astoreN (lv' := [(4, .null), (3, .ref a_11), (2, .ref (cA c_8a)), (0, .ref h0), (1, .int (nI j))]) hx hb dX3_hedgeSlow_88 hl (by decide) rfl (fun ls hl => ?_)
                    refine lv_aloadN hx hb dX3_hedgeSlow_90 (lv_at hl 0 rfl) ?_
                    refine lv_ifnullN (tgt := 118) hx hb dX3_hedgeSlow_92 (by decide) ?_
                    obtain ⟨y_25, ey_25⟩ : ∃ y : Int32, y = (nI j) + 1 := ⟨_, rfl⟩
                    refine lv_iinc (v := y_25) (lv' := [(1, .int y_25), (4, .null), (3, .ref a_11), (2, .ref (cA c_8a)), (0, .ref h0)]) hx hb dX3_hedgeSlow_118 hl (k := 4) rfl (by rw [ey_25]; rfl) (by decide) rfl (fun ls hl => ?_)
                    obtain rfl : y_25 = nI (j + 1) := ey_25.trans (nI_1 j)
                    have en_26 : (nI (j + 1)).toInt = ((j + 1 : Nat) : Int) := pz_ti (by omega)
                    refine lv_goto (tgt := 10) hx hb dX3_hedgeSlow_121 (by decide) ?_
                    exact ih_B10 _ (by omega) (j + 1) P7 tr7 rs7 _ _ ls rfl (by omega) (by omega) hW hS (lv_sub hl [4, 0] rfl)
                  · skip
                    refine W.eq (g2 := F0 m 88 ls [.ref (sA k_24)]) rfl ?_
                    refine lv_astore (lv' := [(4, .ref (sA k_24)), (3, .ref a_11), (2, .ref (cA c_8a)), (0, .ref h0), (1, .int (nI j))]) hx hb dX3_hedgeSlow_88 hl (by decide) rfl (fun ls hl => ?_)
                    refine lv_aload hx hb dX3_hedgeSlow_90 (lv_at hl 0 rfl) ?_
                    refine lv_ifnull hx hb dX3_hedgeSlow_92 ?_
                    have hsm_27 := smc_set (tr := tr7) (k := c_8a) (j := k_24) (n := nc) (by omega) (by omega) hm_24
                    refine lv_aload_n hx hb dX3_hedgeSlow_95 rfl (lv_at hl 2 rfl) ?_
                    refine lv_aload hx hb dX3_hedgeSlow_96 (lv_at hl 0 rfl) ?_
                    refine lv_aload_n hx hb dX3_hedgeSlow_98 rfl (lv_at hl 3 rfl) ?_
                    refine D_get S hK hW 5 (by decide) (fun _ => rfl) iw_110 rfl dX3_hedgeSlow_99 (fun x_28 hx_28 => ?_)
                    refine W.ti hsz hbs hS hW ?_
                    refine c_v (Pw := fun H9 => H9.size = H.size ∧ Cw dC dI z A bs cp h0 la sA cA ns nc dr X P7 tr7 nl nq rs7 H9) (n := 1) (As := [.int x_28]) (rest := [.ref (cA c_8a)]) S (q_X2_takeAsking l dC dI z mi A bs cp h0 la sA cA ns nc dr X P7 tr7 nl nq rs7 H.size k_24 x_28 (by have h9 := hS.1; omega) (by omega) (by omega)) iw_447 iw_444 iw_445 iw_446 iw_62 (by decide +kernel) rfl ⟨rfl, rfl, Nat.le_of_ble_eq_true rfl, Nat.le_of_ble_eq_true rfl⟩ KZ.blind (S_recv hK hW (by omega)) (hKZ.at hS (fun _ h9 => h9)) ⟨rfl, hW⟩ hl.1 rfl (Nat.le_of_ble_eq_true rfl) dX3_hedgeSlow_102 (hW.rok hsz hS) hS (fun _ h9 => h9) (fun v9 H locs hB hz9 hk9 hS => ?_)
                    obtain ⟨q_29, P_29, w_29, rfl, hPq_29, hoq_29, hW⟩ := hB
                    refine W.to hsz hbs hS hW ?_
                    refine W.eq (g2 := F0 m 105 ls [.ref q_29, .ref (cA c_8a)]) rfl ?_
                    refine c_v (Pw := fun H9 => (∃ w : Nat → Int32, oat dC dI q_29 1 (eA (sA k_24) w) H9) ∧ Cw dC dI z A bs cp h0 la sA cA ns nc dr X P_29 tr7 nl nq (rs7 - 1) H9) (n := 1) (As := [.ref q_29]) (rest := []) S (q_X1_begin l dC dI z mi A bs cp h0 la sA cA ns nc dr X P_29 tr7 nl nq (rs7 - 1) c_8a k_24 q_29 (by omega) (by omega) hPq_29) iw_475 iw_472 iw_473 iw_474 iw_69 (by decide +kernel) rfl ⟨rfl, rfl, Nat.le_of_ble_eq_true rfl, Nat.le_of_ble_eq_true rfl⟩ KZ.blind (C_recv hK hW (by omega)) (hKZ.at hS (fun _ h9 => h9)) ⟨⟨_, hoq_29⟩, hW⟩ hl.1 rfl (Nat.le_of_ble_eq_true rfl) dX3_hedgeSlow_105 ⟨Nat.le_refl _, Nat.le_refl _⟩ hS (fun _ h9 => h9) (fun v9 H locs hB hz9 hk9 hS => ?_)
                    refine W.widen (k := cp - sz) (n := 610 * (cp - sz)) (Nat.le_refl _) (Nat.le_refl _) ?_
                    obtain ⟨rfl, hW⟩ := hB
                    refine W.eq (g2 := F0 m 108 ls []) rfl ?_
                    refine lv_aload_n hx hb dX3_hedgeSlow_108 rfl (lv_at hl 3 rfl) ?_
                    refine lv_dup hx hb dX3_hedgeSlow_109 rfl ?_
                    refine D_get S hK hW 11 (by decide) (fun _ => rfl) iw_116 rfl dX3_hedgeSlow_110 (fun x_30 hx_30 => ?_)
                    refine lv_iconst (v := 1) hx hb dX3_hedgeSlow_113 (by decide) ?_
                    refine lv_iadd hx hb dX3_hedgeSlow_114 ?_
                    refine lv_topi (fun x_31 _ => ?_)
                    refine D_put S hK hW hS 11 (by decide) (by decide) (fun _ => rfl) iw_116 rfl rfl (by decide +kernel) rfl dX3_hedgeSlow_115 (fun H locs hW hS => ?_)
                    obtain ⟨y_33, ey_33⟩ : ∃ y : Int32, y = (nI j) + 1 := ⟨_, rfl⟩
                    refine lv_iinc (v := y_33) (lv' := [(1, .int y_33), (4, .ref (sA k_24)), (3, .ref a_11), (2, .ref (cA c_8a)), (0, .ref h0)]) hx hb dX3_hedgeSlow_118 hl (k := 4) rfl (by rw [ey_33]; rfl) (by decide) rfl (fun ls hl => ?_)
                    obtain rfl : y_33 = nI (j + 1) := ey_33.trans (nI_1 j)
                    have en_34 : (nI (j + 1)).toInt = ((j + 1 : Nat) : Int) := pz_ti (by omega)
                    refine lv_goto (tgt := 10) hx hb dX3_hedgeSlow_121 (by decide) ?_
                    exact ih_B10 _ (by omega) (j + 1) P_29 (va_up tr7 c_8a (tr7 c_8a ||| (1 <<< (nI k_24 &&& 31)))) (rs7 - 1) _ _ ls rfl (by omega) (by omega) hW hS (lv_sub hl [4, 0] rfl)
                · skip
                  have i_22 : ¬ x_20.toInt = x_21.toInt := by have h9 := pz_neq c_22; exact h9
                  refine lv_goto (tgt := 118) hx hb dX3_hedgeSlow_76 (by decide) ?_
                  obtain ⟨y_35, ey_35⟩ : ∃ y : Int32, y = (nI j) + 1 := ⟨_, rfl⟩
                  refine lv_iinc (v := y_35) (lv' := [(1, .int y_35), (3, .ref a_11), (2, .ref (cA c_8a)), (0, .ref h0)]) hx hb dX3_hedgeSlow_118 hl (k := 3) rfl (by rw [ey_35]; rfl) (by decide) rfl (fun ls hl => ?_)
                  obtain rfl : y_35 = nI (j + 1) := ey_35.trans (nI_1 j)
                  have en_36 : (nI (j + 1)).toInt = ((j + 1 : Nat) : Int) := pz_ti (by omega)
                  refine lv_goto (tgt := 10) hx hb dX3_hedgeSlow_121 (by decide) ?_
                  exact ih_B10 _ (by omega) (j + 1) P7 tr7 rs7 _ _ ls rfl (by omega) (by omega) hW hS (lv_sub hl [3, 0] rfl)
          · skip
            have hP_10 : P7 a_10 := hq_10 _ rfl
            refine W.eq (g2 := F0 m 37 ls [.ref a_10]) rfl ?_
            refine lv_ifnonnull (tgt := 47) hx hb dX3_hedgeSlow_37 (by decide) ?_
            refine lv_null hx hb dX3_hedgeSlow_47 ?_
            refine lv_astore_nN (lv' := [(3, .null), (2, .ref (cA c_8a)), (0, .ref h0), (1, .int (nI j))]) hx hb dX3_hedgeSlow_48 rfl hl (by decide) rfl (fun ls hl => ?_)
            refine lv_aload_nN hx hb dX3_hedgeSlow_49 rfl (lv_at hl 0 rfl) ?_
            refine lv_ifnullN (tgt := 118) hx hb dX3_hedgeSlow_50 (by decide) ?_
            obtain ⟨y_37, ey_37⟩ : ∃ y : Int32, y = (nI j) + 1 := ⟨_, rfl⟩
            refine lv_iinc (v := y_37) (lv' := [(1, .int y_37), (3, .null), (2, .ref (cA c_8a)), (0, .ref h0)]) hx hb dX3_hedgeSlow_118 hl (k := 3) rfl (by rw [ey_37]; rfl) (by decide) rfl (fun ls hl => ?_)
            obtain rfl : y_37 = nI (j + 1) := ey_37.trans (nI_1 j)
            have en_38 : (nI (j + 1)).toInt = ((j + 1 : Nat) : Int) := pz_ti (by omega)
            refine lv_goto (tgt := 10) hx hb dX3_hedgeSlow_121 (by decide) ?_
            exact ih_B10 _ (by omega) (j + 1) P7 tr7 rs7 _ _ ls rfl (by omega) (by omega) hW hS (lv_sub hl [3, 0] rfl)
    exact loop_B10 _ 0 P tr rs _ _ ls rfl (by omega) (by omega) hW hS (lv_sub hl [1, 0] rfl)
  · skip
    have i_2 : x_1.toInt = 0 := by have h9 := pz_eq c_2; exact h9
    exact r_v hx hb hr hlocks hS dX3_hedgeSlow_7 (⟨P, tr, rs, rfl, by omega, hW⟩)

abbrev B_q_X3_askQueued (dC : Nat → ClassId) (dI : Nat → Nat → Nat) (z : Nat) (mi : Nat) (A : Nat → Prop) (bs : Nat) (cp : Nat) (h0 : Nat) (la : Nat → Nat) (sA : Nat → Nat) (cA : Nat → Nat) (ns : Nat) (nc : Nat) (dr : Nat → Prop) (X : Nat → Int32) (P : Nat → Prop) (tr : Nat → Int32) (nl : Nat) (nq : Nat) (rs : Nat) (sz : Nat) (xr : Nat) : Option Value → Heap → Prop := fun v H => ∃ (P1 : Nat → Prop) (tr1 : Nat → Int32) (nq1 : Nat) (rs1 : Nat), v = none ∧ smc tr1 nc + (200 - agn X) + xr ≤ rs1 ∧ Cw dC dI z A bs cp h0 la sA cA ns nc dr X P1 tr1 nl nq1 rs1 H
set_option maxHeartbeats 8000000 in
set_option maxRecDepth 20000 in
theorem q_X3_askQueued (l : Launch) (dC : Nat → ClassId) (dI : Nat → Nat → Nat) (z : Nat) (mi : Nat) (A : Nat → Prop) (bs : Nat) (cp : Nat) (h0 : Nat) (la : Nat → Nat) (sA : Nat → Nat) (cA : Nat → Nat) (ns : Nat) (nc : Nat) (dr : Nat → Prop) (X : Nat → Int32) (P : Nat → Prop) (tr : Nat → Int32) (nl : Nat) (nq : Nat) (rs : Nat) (sz : Nat) (xr : Nat) (hbs : bs ≤ sz) (hnd : smc tr nc + (200 - agn X) + xr ≤ rs) : Met l yX3_askQueued (cws yX3_askQueued cX3_askQueued 4 none) { frames := 6, cells := (cp - sz), slots := (610 * (cp - sz)), locals := 135 } (va_Pc [.ref h0] (fun U => KZ dC dI z mi A U ∧ (fun H => H.size = sz ∧ Cw dC dI z A bs cp h0 la sA cA ns nc dr X P tr nl nq rs H) U.heap)) (Qg (B_q_X3_askQueued dC dI z mi A bs cp h0 la sA cA ns nc dr X P tr nl nq rs sz xr) A) (cp - sz) (610 * (cp - sz)) A := by
  refine m_start (KK := KZ dC dI z mi A) (Pw := (fun H => H.size = sz ∧ Cw dC dI z A bs cp h0 la sA cA ns nc dr X P tr nl nq rs H)) (by decide) (Nat.le_of_ble_eq_true rfl) ?_
  intro p e s m below meth c ls S hr hlocks hin hKZ hW hS hl
  obtain ⟨hx, hb, hml, hown, hts⟩ := id S
  obtain ⟨hsz, hW⟩ := hW
  have hK := hKZ.1
  obtain ⟨hns, hnc, hnl, ag, hag, hXg, hnq⟩ := id hW.2.2.2.2.2.2
  have hagn : agn X = ag := agn_of hXg hag
  have hl : lv_has ls 4 [(0, .ref h0)] := hl
  refine W.to hsz hbs hS hW ?_
  refine lv_aload_n hx hb dX3_askQueued_0 rfl (lv_at hl 0 rfl) ?_
  refine D_getl S hK hW 3 (by decide) (fun _ => rfl) iw_108 rfl dX3_askQueued_1 ?_
  refine L_size (rest := []) S hKZ hW hS (i := 3) (by decide) hl.1 (Nat.le_of_ble_eq_true rfl) dX3_askQueued_4 ⟨Nat.le_of_ble_eq_true rfl, Nat.le_of_ble_eq_true rfl⟩ ⟨Nat.le_refl _, Nat.le_refl _⟩ (fun H locs hW hS => ?_)
  refine W.eq (g2 := F0 m 7 ls [.int (nI nq)]) rfl ?_
  obtain ⟨hns, hnc, hnl, ag_2, hag_2, -, hnq⟩ := id hW.2.2.2.2.2.2
  have en_3 : (nI nq).toInt = ((nq : Nat) : Int) := pz_ti (by omega)
  refine lv_istore_n (lv' := [(1, .int (nI nq)), (0, .ref h0)]) hx hb dX3_askQueued_7 rfl hl (by decide) rfl (fun ls hl => ?_)
  refine lv_iconst (v := 0) hx hb dX3_askQueued_8 (by decide) ?_
  refine lv_istore_n (lv' := [(2, .int 0), (1, .int (nI nq)), (0, .ref h0)]) hx hb dX3_askQueued_9 rfl hl (by decide) rfl (fun ls hl => ?_)
  refine lv_iconst (v := 0) hx hb dX3_askQueued_10 (by decide) ?_
  refine lv_istore_n (lv' := [(3, .int 0), (2, .int 0), (1, .int (nI nq)), (0, .ref h0)]) hx hb dX3_askQueued_11 rfl hl (by decide) rfl (fun ls hl => ?_)
  have loop_B12 : ∀ (k9 : Nat) (j : Nat) (t : Nat) (P7 : Nat → Prop) (tr7 : Nat → Int32) (nq7 : Nat) (rs7 : Nat) (H : Heap) (locs : List Loc) (ls : Array Slot), nq - j = k9 → (j ≤ nq) → (t ≤ 400) → (smc tr7 nc + (200 - agn X) + xr ≤ rs7) → Cw dC dI z A bs cp h0 la sA cA ns nc dr X P7 tr7 nl nq7 rs7 H → va_S A s.heap H locs → lv_has ls 4 [(0, .ref h0), (1, .int (nI nq)), (2, .int (nI t)), (3, .int (nI j))] → W p l e { frames := 6, cells := (cp - sz), slots := (610 * (cp - sz)), locals := 135 } s m ([.ref h0] : List Value).toArray below meth c H locs (cp - sz) (610 * (cp - sz)) (MQ below (Qg (B_q_X3_askQueued dC dI z mi A bs cp h0 la sA cA ns nc dr X P tr nl nq rs sz xr) A) ([.ref h0] : List Value).toArray s (cp - sz) (610 * (cp - sz)) A) (F0 m 12 ls []) := by
    intro k9
    induction k9 using Nat.strongRecOn with
    | ind k9 ih_B12 =>
      intro j t P7 tr7 nq7 rs7 H locs ls hm_B12 hle_j ht9 hN7 hW hS hl
      have en_j : (nI j).toInt = ((j : Nat) : Int) := pz_ti (by omega)
      have en_t : (nI t).toInt = ((t : Nat) : Int) := pz_ti (by omega)
      refine lv_iload_n hx hb dX3_askQueued_12 rfl (lv_at hl 3 rfl) ?_
      refine lv_iload_n hx hb dX3_askQueued_13 rfl (lv_at hl 1 rfl) ?_
      refine lv_icmp_ge (tgt := 67) hx hb dX3_askQueued_14 (by decide) (fun c_4 => ?_) (fun c_4 => ?_)
      · skip
        have i_4 : (nI j).toInt ≥ (nI nq).toInt := by have h9 := pz_ge c_4; exact h9
        exact r_v hx hb hr hlocks hS dX3_askQueued_67 (⟨P7, tr7, nq7, rs7, rfl, by omega, hW⟩)
      · skip
        have i_4 : (nI j).toInt < (nI nq).toInt := by have h9 := pz_nge c_4; exact h9
        refine lv_iload_n hx hb dX3_askQueued_17 rfl (lv_at hl 2 rfl) ?_
        refine lv_aload_n hx hb dX3_askQueued_18 rfl (lv_at hl 0 rfl) ?_
        refine D_getl S hK hW 3 (by decide) (fun _ => rfl) iw_108 rfl dX3_askQueued_19 ?_
        refine L_size (rest := [.int (nI t)]) S hKZ hW hS (i := 3) (by decide) hl.1 (Nat.le_of_ble_eq_true rfl) dX3_askQueued_22 ⟨Nat.le_of_ble_eq_true rfl, Nat.le_of_ble_eq_true rfl⟩ ⟨Nat.le_refl _, Nat.le_refl _⟩ (fun H locs hW hS => ?_)
        refine W.eq (g2 := F0 m 25 ls [.int (nI nq7), .int (nI t)]) rfl ?_
        obtain ⟨hns, hnc, hnl, ag_6, hag_6, -, hnq⟩ := id hW.2.2.2.2.2.2
        have en_7 : (nI nq7).toInt = ((nq7 : Nat) : Int) := pz_ti (by omega)
        refine lv_icmp_ge (tgt := 67) hx hb dX3_askQueued_25 (by decide) (fun c_8 => ?_) (fun c_8 => ?_)
        · skip
          have i_8 : (nI t).toInt ≥ (nI nq7).toInt := by have h9 := pz_ge c_8; exact h9
          exact r_v hx hb hr hlocks hS dX3_askQueued_67 (⟨P7, tr7, nq7, rs7, rfl, by omega, hW⟩)
        · skip
          have i_8 : (nI t).toInt < (nI nq7).toInt := by have h9 := pz_nge c_8; exact h9
          refine lv_aload_n hx hb dX3_askQueued_28 rfl (lv_at hl 0 rfl) ?_
          refine lv_aload_n hx hb dX3_askQueued_29 rfl (lv_at hl 0 rfl) ?_
          refine D_getl S hK hW 3 (by decide) (fun _ => rfl) iw_108 rfl dX3_askQueued_30 ?_
          refine lv_iload_n hx hb dX3_askQueued_33 rfl (lv_at hl 2 rfl) ?_
          refine L_get (rest := [.ref h0]) S hKZ hW hS (i := 3) (t := t) (by decide) (by show t < nq7; omega) hl.1 (Nat.le_of_ble_eq_true rfl) dX3_askQueued_34 ⟨Nat.le_of_ble_eq_true rfl, Nat.le_of_ble_eq_true rfl⟩ ⟨Nat.le_refl _, Nat.le_refl _⟩ (fun r_10 H locs hr_10 hW hS => ?_)
          obtain ⟨c_10a, hc_10a, rfl⟩ : ∃ c, c < nc ∧ r_10 = cA c := hr_10
          refine C_cast S hK hW (k := c_10a) (by omega) iw_351 dX3_askQueued_37 ?_
          refine W.ti hsz hbs hS hW ?_
          refine c_v (Pw := fun H9 => H9.size = H.size ∧ Cw dC dI z A bs cp h0 la sA cA ns nc dr X P7 tr7 nl nq7 rs7 H9) (n := 1) (As := [.ref (cA c_10a)]) (rest := []) S (q_X3_askByRule l dC dI z mi A bs cp h0 la sA cA ns nc dr X P7 tr7 nl nq7 rs7 H.size c_10a xr (by have h9 := hS.1; omega) (by omega) (by omega)) iw_407 iw_404 iw_406 iw_5 iw_57 (by decide +kernel) rfl ⟨rfl, rfl, Nat.le_of_ble_eq_true rfl, Nat.le_of_ble_eq_true rfl⟩ KZ.blind (D_recv hK hW) (hKZ.at hS (fun _ h9 => h9)) ⟨rfl, hW⟩ hl.1 rfl (Nat.le_of_ble_eq_true rfl) dX3_askQueued_40 (hW.rok hsz hS) hS (fun _ h9 => h9) (fun v9 H locs hB hz9 hk9 hS => ?_)
          obtain ⟨r_12, P_12, tr_12, rs_12, rfl, hN_12, hW⟩ := hB
          refine W.to hsz hbs hS hW ?_
          refine W.eq (g2 := F0 m 43 ls [.int r_12]) rfl ?_
          refine lv_if_eq (tgt := 58) hx hb dX3_askQueued_43 (by decide) (fun c_13 => ?_) (fun c_13 => ?_)
          · skip
            have i_13 : r_12.toInt = 0 := by have h9 := pz_eq c_13; exact h9
            obtain ⟨y_14, ey_14⟩ : ∃ y : Int32, y = (nI t) + 1 := ⟨_, rfl⟩
            refine lv_iinc (v := y_14) (lv' := [(2, .int y_14), (0, .ref h0), (1, .int (nI nq)), (3, .int (nI j))]) hx hb dX3_askQueued_58 hl (k := 2) rfl (by rw [ey_14]; rfl) (by decide) rfl (fun ls hl => ?_)
            obtain rfl : y_14 = nI (t + 1) := ey_14.trans (nI_1 t)
            have en_15 : (nI (t + 1)).toInt = ((t + 1 : Nat) : Int) := pz_ti (by omega)
            obtain ⟨y_16, ey_16⟩ : ∃ y : Int32, y = (nI j) + 1 := ⟨_, rfl⟩
            refine lv_iinc (v := y_16) (lv' := [(3, .int y_16), (2, .int (nI (t + 1))), (0, .ref h0), (1, .int (nI nq))]) hx hb dX3_askQueued_61 hl (k := 3) rfl (by rw [ey_16]; rfl) (by decide) rfl (fun ls hl => ?_)
            obtain rfl : y_16 = nI (j + 1) := ey_16.trans (nI_1 j)
            have en_17 : (nI (j + 1)).toInt = ((j + 1 : Nat) : Int) := pz_ti (by omega)
            refine lv_goto (tgt := 12) hx hb dX3_askQueued_64 (by decide) ?_
            exact ih_B12 _ (by omega) (j + 1) (t + 1) P_12 tr_12 nq7 rs_12 _ _ ls rfl (by omega) (by omega) (by omega) hW hS (lv_sub hl [2, 3, 1, 0] rfl)
          · skip
            have i_13 : ¬ r_12.toInt = 0 := by have h9 := pz_neq c_13; exact h9
            refine lv_aload_n hx hb dX3_askQueued_46 rfl (lv_at hl 0 rfl) ?_
            refine D_getl S hK hW 3 (by decide) (fun _ => rfl) iw_108 rfl dX3_askQueued_47 ?_
            refine lv_iload_n hx hb dX3_askQueued_50 rfl (lv_at hl 2 rfl) ?_
            refine L_rem3 (rest := []) S hKZ hW hS (t := t) (by omega) hl.1 (Nat.le_of_ble_eq_true rfl) dX3_askQueued_51 ⟨Nat.le_of_ble_eq_true rfl, Nat.le_of_ble_eq_true rfl⟩ ⟨Nat.le_refl _, Nat.le_refl _⟩ (fun H locs r_19 hW hS => ?_)
            refine lv_pop hx hb dX3_askQueued_54 rfl ?_
            refine lv_goto (tgt := 61) hx hb dX3_askQueued_55 (by decide) ?_
            obtain ⟨y_20, ey_20⟩ : ∃ y : Int32, y = (nI j) + 1 := ⟨_, rfl⟩
            refine lv_iinc (v := y_20) (lv' := [(3, .int y_20), (0, .ref h0), (1, .int (nI nq)), (2, .int (nI t))]) hx hb dX3_askQueued_61 hl (k := 3) rfl (by rw [ey_20]; rfl) (by decide) rfl (fun ls hl => ?_)
            obtain rfl : y_20 = nI (j + 1) := ey_20.trans (nI_1 j)
            have en_21 : (nI (j + 1)).toInt = ((j + 1 : Nat) : Int) := pz_ti (by omega)
            refine lv_goto (tgt := 12) hx hb dX3_askQueued_64 (by decide) ?_
            exact ih_B12 _ (by omega) (j + 1) t P_12 tr_12 (nq7 - 1) rs_12 _ _ ls rfl (by omega) (by omega) (by omega) hW hS (lv_sub hl [1, 2, 3, 0] rfl)
  exact loop_B12 _ 0 0 P tr nq rs _ _ ls rfl (by omega) (by omega) (by omega) hW hS (lv_sub hl [3, 2, 1, 0] rfl)

abbrev B_q_X3_passTick (dC : Nat → ClassId) (dI : Nat → Nat → Nat) (z : Nat) (mi : Nat) (A : Nat → Prop) (bs : Nat) (cp : Nat) (h0 : Nat) (la : Nat → Nat) (sA : Nat → Nat) (cA : Nat → Nat) (ns : Nat) (nc : Nat) (dr : Nat → Prop) (X : Nat → Int32) (P : Nat → Prop) (tr : Nat → Int32) (nl : Nat) (nq : Nat) (rs : Nat) (sz : Nat) (xr : Nat) : Option Value → Heap → Prop := fun v H => ∃ (X1 : Nat → Int32) (P1 : Nat → Prop) (tr1 : Nat → Int32) (nl1 : Nat) (nq1 : Nat) (rs1 : Nat), v = none ∧ (∀ j, j ≠ 10 → X1 j = X j) ∧ smc tr1 nc + (200 - agn X1) + xr ≤ rs1 ∧ Cw dC dI z A bs cp h0 la sA cA ns nc dr X1 P1 tr1 nl1 nq1 rs1 H
set_option maxHeartbeats 8000000 in
set_option maxRecDepth 20000 in
theorem q_X3_passTick (l : Launch) (dC : Nat → ClassId) (dI : Nat → Nat → Nat) (z : Nat) (mi : Nat) (A : Nat → Prop) (bs : Nat) (cp : Nat) (h0 : Nat) (la : Nat → Nat) (sA : Nat → Nat) (cA : Nat → Nat) (ns : Nat) (nc : Nat) (dr : Nat → Prop) (X : Nat → Int32) (P : Nat → Prop) (tr : Nat → Int32) (nl : Nat) (nq : Nat) (rs : Nat) (sz : Nat) (xr : Nat) (hbs : bs ≤ sz) (hb8 : 0 ≤ (X 8).toInt ∧ (X 8).toInt ≤ 100) (hnd : smc tr nc + (200 - agn X) + xr ≤ rs) : Met l yX3_passTick (cws yX3_passTick cX3_passTick 1 none) { frames := 10, cells := (cp - sz), slots := (610 * (cp - sz)), locals := 268 } (va_Pc [.ref h0] (fun U => KZ dC dI z mi A U ∧ (fun H => H.size = sz ∧ Cw dC dI z A bs cp h0 la sA cA ns nc dr X P tr nl nq rs H) U.heap)) (Qg (B_q_X3_passTick dC dI z mi A bs cp h0 la sA cA ns nc dr X P tr nl nq rs sz xr) A) (cp - sz) (610 * (cp - sz)) A := by
  refine m_start (KK := KZ dC dI z mi A) (Pw := (fun H => H.size = sz ∧ Cw dC dI z A bs cp h0 la sA cA ns nc dr X P tr nl nq rs H)) (by decide) (Nat.le_of_ble_eq_true rfl) ?_
  intro p e s m below meth c ls S hr hlocks hin hKZ hW hS hl
  obtain ⟨hx, hb, hml, hown, hts⟩ := id S
  obtain ⟨hsz, hW⟩ := hW
  have hK := hKZ.1
  obtain ⟨hns, hnc, hnl, ag, hag, hXg, hnq⟩ := id hW.2.2.2.2.2.2
  have hagn : agn X = ag := agn_of hXg hag
  have hl : lv_has ls 1 [(0, .ref h0)] := hl
  refine W.to hsz hbs hS hW ?_
  refine lv_aload_n hx hb dX3_passTick_0 rfl (lv_at hl 0 rfl) ?_
  refine lv_dup hx hb dX3_passTick_1 rfl ?_
  refine D_get S hK hW 5 (by decide) (fun _ => rfl) iw_110 rfl dX3_passTick_2 (fun x_1 hx_1 => ?_)
  refine lv_iconst (v := 1) hx hb dX3_passTick_5 (by decide) ?_
  refine lv_iadd hx hb dX3_passTick_6 ?_
  refine lv_topi (fun x_2 _ => ?_)
  refine D_put S hK hW hS 5 (by decide) (by decide) (fun _ => rfl) iw_110 rfl rfl (by decide +kernel) rfl dX3_passTick_7 (fun H locs hW hS => ?_)
  refine lv_aload_n hx hb dX3_passTick_10 rfl (lv_at hl 0 rfl) ?_
  refine W.ti hsz hbs hS hW ?_
  refine c_v (Pw := fun H9 => H9.size = H.size ∧ Cw dC dI z A bs cp h0 la sA cA ns nc dr X P tr nl nq rs H9) (n := 0) (As := []) (rest := []) S (q_X3_takeWhatIsOver l dC dI z mi A bs cp h0 la sA cA ns nc dr X P tr nl nq rs H.size xr (by have h9 := hS.1; omega) hb8 (by omega)) iw_544 iw_541 iw_543 iw_19 iw_57 (by decide +kernel) rfl ⟨rfl, rfl, Nat.le_of_ble_eq_true rfl, Nat.le_of_ble_eq_true rfl⟩ KZ.blind (D_recv hK hW) (hKZ.at hS (fun _ h9 => h9)) ⟨rfl, hW⟩ hl.1 rfl (Nat.le_of_ble_eq_true rfl) dX3_passTick_11 (hW.rok hsz hS) hS (fun _ h9 => h9) (fun v9 H locs hB hz9 hk9 hS => ?_)
  obtain ⟨X_4, nq_4, rs_4, rfl, hX_4, hN_4, hW⟩ := hB
  refine W.to hsz hbs hS hW ?_
  refine W.eq (g2 := F0 m 14 ls []) rfl ?_
  refine lv_aload_n hx hb dX3_passTick_14 rfl (lv_at hl 0 rfl) ?_
  refine c_v (Pw := Cw dC dI z A bs cp h0 la sA cA ns nc dr X_4 P tr nl nq_4 rs_4) (n := 0) (As := []) (rest := []) S (q_X3_meetDues l dC dI z mi A bs cp h0 la sA cA ns nc dr X_4 P tr nl nq_4 rs_4) iw_573 iw_570 iw_572 iw_24 iw_57 (by decide +kernel) rfl ⟨rfl, rfl, Nat.le_of_ble_eq_true rfl, Nat.le_of_ble_eq_true rfl⟩ KZ.blind (D_recv hK hW) (hKZ.at hS (fun _ h9 => h9)) hW hl.1 rfl (Nat.le_of_ble_eq_true rfl) dX3_passTick_15 ⟨Nat.le_refl _, Nat.le_refl _⟩ hS (fun _ h9 => h9) (fun v9 H locs hB hz9 hk9 hS => ?_)
  refine W.widen (k := cp - sz) (n := 610 * (cp - sz)) (Nat.le_refl _) (Nat.le_refl _) ?_
  obtain ⟨nq_5, rfl, hle_5, hW⟩ := hB
  refine W.eq (g2 := F0 m 18 ls []) rfl ?_
  refine lv_aload_n hx hb dX3_passTick_18 rfl (lv_at hl 0 rfl) ?_
  refine c_v (Pw := Cw dC dI z A bs cp h0 la sA cA ns nc dr X_4 P tr nl nq_5 rs_4) (n := 0) (As := []) (rest := []) S (q_X3_dropEnded l dC dI z mi A bs cp h0 la sA cA ns nc dr X_4 P tr nl nq_5 rs_4) iw_532 iw_529 iw_531 iw_17 iw_57 (by decide +kernel) rfl ⟨rfl, rfl, Nat.le_of_ble_eq_true rfl, Nat.le_of_ble_eq_true rfl⟩ KZ.blind (D_recv hK hW) (hKZ.at hS (fun _ h9 => h9)) hW hl.1 rfl (Nat.le_of_ble_eq_true rfl) dX3_passTick_19 ⟨Nat.le_refl _, Nat.le_refl _⟩ hS (fun _ h9 => h9) (fun v9 H locs hB hz9 hk9 hS => ?_)
  refine W.widen (k := cp - sz) (n := 610 * (cp - sz)) (Nat.le_refl _) (Nat.le_refl _) ?_
  obtain ⟨nl_6, rfl, hW⟩ := hB
  refine W.eq (g2 := F0 m 22 ls []) rfl ?_
  refine lv_aload_n hx hb dX3_passTick_22 rfl (lv_at hl 0 rfl) ?_
  refine c_v (Pw := Cw dC dI z A bs cp h0 la sA cA ns nc dr X_4 P tr nl_6 nq_5 rs_4) (n := 0) (As := []) (rest := []) S (q_X3_tryThoseOut l dC dI z mi A bs cp h0 la sA cA ns nc dr X_4 P tr nl_6 nq_5 rs_4) iw_581 iw_578 iw_580 iw_26 iw_57 (by decide +kernel) rfl ⟨rfl, rfl, Nat.le_of_ble_eq_true rfl, Nat.le_of_ble_eq_true rfl⟩ KZ.blind (D_recv hK hW) (hKZ.at hS (fun _ h9 => h9)) hW hl.1 rfl (Nat.le_of_ble_eq_true rfl) dX3_passTick_23 ⟨Nat.le_refl _, Nat.le_refl _⟩ hS (fun _ h9 => h9) (fun v9 H locs hB hz9 hk9 hS => ?_)
  refine W.widen (k := cp - sz) (n := 610 * (cp - sz)) (Nat.le_refl _) (Nat.le_refl _) ?_
  obtain ⟨rfl, hW⟩ := hB
  refine W.eq (g2 := F0 m 26 ls []) rfl ?_
  refine lv_aload_n hx hb dX3_passTick_26 rfl (lv_at hl 0 rfl) ?_
  refine W.ti hsz hbs hS hW ?_
  refine c_v (Pw := fun H9 => H9.size = H.size ∧ Cw dC dI z A bs cp h0 la sA cA ns nc dr X_4 P tr nl_6 nq_5 rs_4 H9) (n := 0) (As := []) (rest := []) S (q_X3_hedgeSlow l dC dI z mi A bs cp h0 la sA cA ns nc dr X_4 P tr nl_6 nq_5 rs_4 H.size xr (by have h9 := hS.1; omega) (by omega)) iw_585 iw_582 iw_584 iw_27 iw_57 (by decide +kernel) rfl ⟨rfl, rfl, Nat.le_of_ble_eq_true rfl, Nat.le_of_ble_eq_true rfl⟩ KZ.blind (D_recv hK hW) (hKZ.at hS (fun _ h9 => h9)) ⟨rfl, hW⟩ hl.1 rfl (Nat.le_of_ble_eq_true rfl) dX3_passTick_27 (hW.rok hsz hS) hS (fun _ h9 => h9) (fun v9 H locs hB hz9 hk9 hS => ?_)
  obtain ⟨P_7, tr_7, rs_7, rfl, hN_7, hW⟩ := hB
  refine W.to hsz hbs hS hW ?_
  refine W.eq (g2 := F0 m 30 ls []) rfl ?_
  refine lv_aload_n hx hb dX3_passTick_30 rfl (lv_at hl 0 rfl) ?_
  refine W.ti hsz hbs hS hW ?_
  refine c_v (Pw := fun H9 => H9.size = H.size ∧ Cw dC dI z A bs cp h0 la sA cA ns nc dr X_4 P_7 tr_7 nl_6 nq_5 rs_7 H9) (n := 0) (As := []) (rest := []) S (q_X3_askQueued l dC dI z mi A bs cp h0 la sA cA ns nc dr X_4 P_7 tr_7 nl_6 nq_5 rs_7 H.size xr (by have h9 := hS.1; omega) (by omega)) iw_589 iw_586 iw_588 iw_28 iw_57 (by decide +kernel) rfl ⟨rfl, rfl, Nat.le_of_ble_eq_true rfl, Nat.le_of_ble_eq_true rfl⟩ KZ.blind (D_recv hK hW) (hKZ.at hS (fun _ h9 => h9)) ⟨rfl, hW⟩ hl.1 rfl (Nat.le_of_ble_eq_true rfl) dX3_passTick_31 (hW.rok hsz hS) hS (fun _ h9 => h9) (fun v9 H locs hB hz9 hk9 hS => ?_)
  obtain ⟨P_8, tr_8, nq_8, rs_8, rfl, hN_8, hW⟩ := hB
  refine W.to hsz hbs hS hW ?_
  refine W.eq (g2 := F0 m 34 ls []) rfl ?_
  refine lv_aload_n hx hb dX3_passTick_34 rfl (lv_at hl 0 rfl) ?_
  refine c_v (Pw := Cw dC dI z A bs cp h0 la sA cA ns nc dr X_4 P_8 tr_8 nl_6 nq_8 rs_8) (n := 0) (As := []) (rest := []) S (q_X3_letDrainedGo l dC dI z mi A bs cp h0 la sA cA ns nc dr X_4 P_8 tr_8 nl_6 nq_8 rs_8) iw_593 iw_590 iw_592 iw_29 iw_57 (by decide +kernel) rfl ⟨rfl, rfl, Nat.le_of_ble_eq_true rfl, Nat.le_of_ble_eq_true rfl⟩ KZ.blind (D_recv hK hW) (hKZ.at hS (fun _ h9 => h9)) hW hl.1 rfl (Nat.le_of_ble_eq_true rfl) dX3_passTick_35 ⟨Nat.le_refl _, Nat.le_refl _⟩ hS (fun _ h9 => h9) (fun v9 H locs hB hz9 hk9 hS => ?_)
  refine W.widen (k := cp - sz) (n := 610 * (cp - sz)) (Nat.le_refl _) (Nat.le_refl _) ?_
  obtain ⟨rfl, hW⟩ := hB
  refine W.eq (g2 := F0 m 38 ls []) rfl ?_
  exact r_v hx hb hr hlocks hS dX3_passTick_38 (⟨X_4, P_8, tr_8, nl_6, nq_8, rs_8, rfl, (fun j9 h9 => (hX_4 j9 h9).trans ((fun _ _ => rfl) j9 h9)), by omega, hW⟩)

abbrev B_q_X3_ticks (dC : Nat → ClassId) (dI : Nat → Nat → Nat) (z : Nat) (mi : Nat) (A : Nat → Prop) (bs : Nat) (cp : Nat) (h0 : Nat) (la : Nat → Nat) (sA : Nat → Nat) (cA : Nat → Nat) (ns : Nat) (nc : Nat) (dr : Nat → Prop) (X : Nat → Int32) (P : Nat → Prop) (tr : Nat → Int32) (nl : Nat) (nq : Nat) (rs : Nat) (sz : Nat) (a1 : Int32) (xr : Nat) : Option Value → Heap → Prop := fun v H => ∃ (r : Int32) (X1 : Nat → Int32) (P1 : Nat → Prop) (tr1 : Nat → Int32) (nl1 : Nat) (nq1 : Nat) (rs1 : Nat), v = some (.int r) ∧ (∀ j, j ≠ 10 → X1 j = X j) ∧ smc tr1 nc + (200 - agn X1) + xr ≤ rs1 ∧ Cw dC dI z A bs cp h0 la sA cA ns nc dr X1 P1 tr1 nl1 nq1 rs1 H
set_option maxHeartbeats 8000000 in
set_option maxRecDepth 20000 in
theorem q_X3_ticks (l : Launch) (dC : Nat → ClassId) (dI : Nat → Nat → Nat) (z : Nat) (mi : Nat) (A : Nat → Prop) (bs : Nat) (cp : Nat) (h0 : Nat) (la : Nat → Nat) (sA : Nat → Nat) (cA : Nat → Nat) (ns : Nat) (nc : Nat) (dr : Nat → Prop) (X : Nat → Int32) (P : Nat → Prop) (tr : Nat → Int32) (nl : Nat) (nq : Nat) (rs : Nat) (sz : Nat) (a1 : Int32) (xr : Nat) (hbs : bs ≤ sz) (hb8 : 0 ≤ (X 8).toInt ∧ (X 8).toInt ≤ 100) (hnd : smc tr nc + (200 - agn X) + xr ≤ rs) : Met l yX3_ticks (cws yX3_ticks cX3_ticks 5 (some .int)) { frames := 11, cells := (cp - sz), slots := (610 * (cp - sz)), locals := 288 } (va_Pc [.ref h0, .int a1] (fun U => KZ dC dI z mi A U ∧ (fun H => H.size = sz ∧ Cw dC dI z A bs cp h0 la sA cA ns nc dr X P tr nl nq rs H) U.heap)) (Qg (B_q_X3_ticks dC dI z mi A bs cp h0 la sA cA ns nc dr X P tr nl nq rs sz a1 xr) A) (cp - sz) (610 * (cp - sz)) A := by
  refine m_start (KK := KZ dC dI z mi A) (Pw := (fun H => H.size = sz ∧ Cw dC dI z A bs cp h0 la sA cA ns nc dr X P tr nl nq rs H)) (by decide) (Nat.le_of_ble_eq_true rfl) ?_
  intro p e s m below meth c ls S hr hlocks hin hKZ hW hS hl
  obtain ⟨hx, hb, hml, hown, hts⟩ := id S
  obtain ⟨hsz, hW⟩ := hW
  have hK := hKZ.1
  obtain ⟨hns, hnc, hnl, ag, hag, hXg, hnq⟩ := id hW.2.2.2.2.2.2
  have hagn : agn X = ag := agn_of hXg hag
  have hl : lv_has ls 5 [(0, .ref h0), (1, .int a1)] := hl
  refine W.to hsz hbs hS hW ?_
  refine lv_iload_n hx hb dX3_ticks_0 rfl (lv_at hl 1 rfl) ?_
  refine lv_iconst (v := 1) hx hb dX3_ticks_1 (by decide) ?_
  refine lv_sipush (v := 20000) hx hb dX3_ticks_2 (by decide) ?_
  refine lv_aload_n hx hb dX3_ticks_5 rfl (lv_at hl 0 rfl) ?_
  refine D_get S hK hW 5 (by decide) (fun _ => rfl) iw_110 rfl dX3_ticks_6 (fun x_1 hx_1 => ?_)
  refine lv_isub hx hb dX3_ticks_9 ?_
  refine lv_topi (fun x_2 _ => ?_)
  refine c_s (Pw := Cw dC dI z A bs cp h0 la sA cA ns nc dr X P tr nl nq rs) (n := 3) (As := [.int a1, .int 1, .int x_2]) (rest := []) S (q_X3_faultOf l A (Cw dC dI z A bs cp h0 la sA cA ns nc dr X P tr nl nq rs) a1 1 x_2) iw_312 iw_310 iw_311 iw_57 (by decide +kernel) rfl ⟨rfl, rfl, Nat.le_of_ble_eq_true rfl, Nat.le_of_ble_eq_true rfl⟩ (fun _ _ _ _ _ => trivial) (fun _ _ _ => trivial) hW hl.1 rfl (Nat.le_of_ble_eq_true rfl) dX3_ticks_10 ⟨Nat.le_refl _, Nat.le_refl _⟩ hS (fun _ h9 => h9) (fun v9 H locs hB hz9 hk9 hS => ?_)
  refine W.widen (k := cp - sz) (n := 610 * (cp - sz)) (Nat.le_refl _) (Nat.le_refl _) ?_
  obtain ⟨r_3, rfl, hf_3, hW⟩ := hB
  refine W.eq (g2 := F0 m 13 ls [.int r_3]) rfl ?_
  rcases hf_3 with ⟨fa_3, rfl⟩ | ⟨fa_3, fb_3, rfl⟩ | ⟨fa_3, fb_3, rfl⟩
  · skip
    have fa_3 : a1.toInt < 1 := by have h9 := fa_3; exact h9
    refine lv_istore_n (lv' := [(2, .int (-4)), (0, .ref h0), (1, .int a1)]) hx hb dX3_ticks_13 rfl hl (by decide) rfl (fun ls hl => ?_)
    refine lv_iload_n hx hb dX3_ticks_14 rfl (lv_at hl 0 rfl) ?_
    refine lv_if_eq (tgt := 24) hx hb dX3_ticks_15 (by decide) (fun c_4 => absurd c_4 (by decide)) (fun c_4 => ?_)
    refine lv_aload_n hx hb dX3_ticks_18 rfl (lv_at hl 1 rfl) ?_
    refine lv_iload_n hx hb dX3_ticks_19 rfl (lv_at hl 0 rfl) ?_
    refine c_v (Pw := Cw dC dI z A bs cp h0 la sA cA ns nc dr X P tr nl nq rs) (n := 1) (As := [.int (-4)]) (rest := []) S (q_X3_refuse l dC dI z mi A bs cp h0 la sA cA ns nc dr X P tr nl nq rs (-4)) iw_153 iw_150 iw_152 iw_0 iw_57 (by decide +kernel) rfl ⟨rfl, rfl, Nat.le_of_ble_eq_true rfl, Nat.le_of_ble_eq_true rfl⟩ KZ.blind (D_recv hK hW) (hKZ.at hS (fun _ h9 => h9)) hW hl.1 rfl (Nat.le_of_ble_eq_true rfl) dX3_ticks_20 ⟨Nat.le_refl _, Nat.le_refl _⟩ hS (fun _ h9 => h9) (fun v9 H locs hB hz9 hk9 hS => ?_)
    refine W.widen (k := cp - sz) (n := 610 * (cp - sz)) (Nat.le_refl _) (Nat.le_refl _) ?_
    obtain ⟨_, rfl, rfl, hW⟩ := hB
    refine W.eq (g2 := F0 m 23 ls [.int (-4)]) rfl ?_
    exact r_i (v := (-4)) hx hb hr hlocks hS dX3_ticks_23 (⟨_, X, P, tr, nl, nq, rs, rfl, (fun _ _ => rfl), by omega, hW⟩)
  · skip
    have fa_3 : 1 ≤ a1.toInt := by have h9 := fa_3; exact h9
    have fb_3 : x_2.toInt < a1.toInt := by have h9 := fb_3; exact h9
    refine lv_istore_n (lv' := [(2, .int (-6)), (0, .ref h0), (1, .int a1)]) hx hb dX3_ticks_13 rfl hl (by decide) rfl (fun ls hl => ?_)
    refine lv_iload_n hx hb dX3_ticks_14 rfl (lv_at hl 0 rfl) ?_
    refine lv_if_eq (tgt := 24) hx hb dX3_ticks_15 (by decide) (fun c_5 => absurd c_5 (by decide)) (fun c_5 => ?_)
    refine lv_aload_n hx hb dX3_ticks_18 rfl (lv_at hl 1 rfl) ?_
    refine lv_iload_n hx hb dX3_ticks_19 rfl (lv_at hl 0 rfl) ?_
    refine c_v (Pw := Cw dC dI z A bs cp h0 la sA cA ns nc dr X P tr nl nq rs) (n := 1) (As := [.int (-6)]) (rest := []) S (q_X3_refuse l dC dI z mi A bs cp h0 la sA cA ns nc dr X P tr nl nq rs (-6)) iw_153 iw_150 iw_152 iw_0 iw_57 (by decide +kernel) rfl ⟨rfl, rfl, Nat.le_of_ble_eq_true rfl, Nat.le_of_ble_eq_true rfl⟩ KZ.blind (D_recv hK hW) (hKZ.at hS (fun _ h9 => h9)) hW hl.1 rfl (Nat.le_of_ble_eq_true rfl) dX3_ticks_20 ⟨Nat.le_refl _, Nat.le_refl _⟩ hS (fun _ h9 => h9) (fun v9 H locs hB hz9 hk9 hS => ?_)
    refine W.widen (k := cp - sz) (n := 610 * (cp - sz)) (Nat.le_refl _) (Nat.le_refl _) ?_
    obtain ⟨_, rfl, rfl, hW⟩ := hB
    refine W.eq (g2 := F0 m 23 ls [.int (-6)]) rfl ?_
    exact r_i (v := (-6)) hx hb hr hlocks hS dX3_ticks_23 (⟨_, X, P, tr, nl, nq, rs, rfl, (fun _ _ => rfl), by omega, hW⟩)
  · skip
    have fa_3 : 1 ≤ a1.toInt := by have h9 := fa_3; exact h9
    have fb_3 : a1.toInt ≤ x_2.toInt := by have h9 := fb_3; exact h9
    refine lv_istore_n (lv' := [(2, .int 0), (0, .ref h0), (1, .int a1)]) hx hb dX3_ticks_13 rfl hl (by decide) rfl (fun ls hl => ?_)
    refine lv_iload_n hx hb dX3_ticks_14 rfl (lv_at hl 0 rfl) ?_
    refine lv_if_eq (tgt := 24) hx hb dX3_ticks_15 (by decide) (fun c_6 => ?_) (fun c_6 => absurd (by decide) c_6)
    refine lv_aload_n hx hb dX3_ticks_24 rfl (lv_at hl 1 rfl) ?_
    refine D_get S hK hW 12 (by decide) (fun _ => rfl) iw_117 rfl dX3_ticks_25 (fun x_7 hx_7 => ?_)
    refine lv_istore_n (lv' := [(3, .int x_7), (2, .int 0), (0, .ref h0), (1, .int a1)]) hx hb dX3_ticks_28 rfl hl (by decide) rfl (fun ls hl => ?_)
    obtain ⟨N, hN, eN⟩ := pz_of (x := a1) (n := 2147483648) (by omega) (rg32 a1).2
    subst eN
    have en_8 : (nI N).toInt = ((N : Nat) : Int) := pz_ti (by omega)
    refine lv_iconst (v := 0) hx hb dX3_ticks_29 (by decide) ?_
    refine lv_istore (lv' := [(4, .int 0), (3, .int x_7), (2, .int 0), (0, .ref h0), (1, .int (nI N))]) hx hb dX3_ticks_30 hl (by decide) rfl (fun ls hl => ?_)
    have loop_B32 : ∀ (k9 : Nat) (j : Nat) (n3 : Int32) (X7 : Nat → Int32) (P7 : Nat → Prop) (tr7 : Nat → Int32) (nl7 : Nat) (nq7 : Nat) (rs7 : Nat) (H : Heap) (locs : List Loc) (ls : Array Slot), N - j = k9 → (j ≤ N) → (∀ j, j ≠ 10 → X7 j = X j) → (smc tr7 nc + (200 - agn X7) + xr ≤ rs7) → Cw dC dI z A bs cp h0 la sA cA ns nc dr X7 P7 tr7 nl7 nq7 rs7 H → va_S A s.heap H locs → lv_has ls 5 [(0, .ref h0), (1, .int (nI N)), (3, .int n3), (4, .int (nI j))] → W p l e { frames := 11, cells := (cp - sz), slots := (610 * (cp - sz)), locals := 288 } s m ([.ref h0, .int (nI N)] : List Value).toArray below meth c H locs (cp - sz) (610 * (cp - sz)) (MQ below (Qg (B_q_X3_ticks dC dI z mi A bs cp h0 la sA cA ns nc dr X P tr nl nq rs sz (nI N) xr) A) ([.ref h0, .int (nI N)] : List Value).toArray s (cp - sz) (610 * (cp - sz)) A) (F0 m 32 ls []) := by
      intro k9
      induction k9 using Nat.strongRecOn with
      | ind k9 ih_B32 =>
        intro j n3 X7 P7 tr7 nl7 nq7 rs7 H locs ls hm_B32 hle_j hX7 hN7 hW hS hl
        have en_j : (nI j).toInt = ((j : Nat) : Int) := pz_ti (by omega)
        refine lv_iload hx hb dX3_ticks_32 (lv_at hl 3 rfl) ?_
        refine lv_iload_n hx hb dX3_ticks_34 rfl (lv_at hl 1 rfl) ?_
        refine lv_icmp_ge (tgt := 48) hx hb dX3_ticks_35 (by decide) (fun c_9 => ?_) (fun c_9 => ?_)
        · skip
          have i_9 : (nI j).toInt ≥ (nI N).toInt := by have h9 := pz_ge c_9; exact h9
          refine lv_aload_n hx hb dX3_ticks_48 rfl (lv_at hl 0 rfl) ?_
          refine D_get S hK hW 12 (by decide) (fun _ => rfl) iw_117 rfl dX3_ticks_49 (fun x_10 hx_10 => ?_)
          refine lv_iload_n hx hb dX3_ticks_52 rfl (lv_at hl 2 rfl) ?_
          refine lv_isub hx hb dX3_ticks_53 ?_
          refine lv_topi (fun x_11 _ => ?_)
          exact r_i (v := x_11) hx hb hr hlocks hS dX3_ticks_54 (⟨_, X7, P7, tr7, nl7, nq7, rs7, rfl, hX7, by omega, hW⟩)
        · skip
          have i_9 : (nI j).toInt < (nI N).toInt := by have h9 := pz_nge c_9; exact h9
          refine lv_aload_n hx hb dX3_ticks_38 rfl (lv_at hl 0 rfl) ?_
          refine W.ti hsz hbs hS hW ?_
          refine c_v (Pw := fun H9 => H9.size = H.size ∧ Cw dC dI z A bs cp h0 la sA cA ns nc dr X7 P7 tr7 nl7 nq7 rs7 H9) (n := 0) (As := []) (rest := []) S (q_X3_passTick l dC dI z mi A bs cp h0 la sA cA ns nc dr X7 P7 tr7 nl7 nq7 rs7 H.size xr (by have h9 := hS.1; omega) (by have h9 : X7 8 = X 8 := hX7 8 (by decide); rw [h9]; exact hb8) (by omega)) iw_540 iw_537 iw_539 iw_18 iw_57 (by decide +kernel) rfl ⟨rfl, rfl, Nat.le_of_ble_eq_true rfl, Nat.le_of_ble_eq_true rfl⟩ KZ.blind (D_recv hK hW) (hKZ.at hS (fun _ h9 => h9)) ⟨rfl, hW⟩ hl.1 rfl (Nat.le_of_ble_eq_true rfl) dX3_ticks_39 (hW.rok hsz hS) hS (fun _ h9 => h9) (fun v9 H locs hB hz9 hk9 hS => ?_)
          obtain ⟨X_12, P_12, tr_12, nl_12, nq_12, rs_12, rfl, hX_12, hN_12, hW⟩ := hB
          refine W.to hsz hbs hS hW ?_
          refine W.eq (g2 := F0 m 42 ls []) rfl ?_
          obtain ⟨y_13, ey_13⟩ : ∃ y : Int32, y = (nI j) + 1 := ⟨_, rfl⟩
          refine lv_iinc (v := y_13) (lv' := [(4, .int y_13), (0, .ref h0), (1, .int (nI N)), (3, .int n3)]) hx hb dX3_ticks_42 hl (k := 3) rfl (by rw [ey_13]; rfl) (by decide) rfl (fun ls hl => ?_)
          obtain rfl : y_13 = nI (j + 1) := ey_13.trans (nI_1 j)
          have en_14 : (nI (j + 1)).toInt = ((j + 1 : Nat) : Int) := pz_ti (by omega)
          refine lv_goto (tgt := 32) hx hb dX3_ticks_45 (by decide) ?_
          exact ih_B32 _ (by omega) (j + 1) n3 X_12 P_12 tr_12 nl_12 nq_12 rs_12 _ _ ls rfl (by omega) ((fun j9 h9 => (hX_12 j9 h9).trans (hX7 j9 h9))) (by omega) hW hS (lv_sub hl [1, 2, 3, 0] rfl)
    exact loop_B32 _ 0 x_7 X P tr nl nq rs _ _ ls rfl (by omega) ((fun _ _ => rfl)) (by omega) hW hS (lv_sub hl [3, 4, 1, 0] rfl)
