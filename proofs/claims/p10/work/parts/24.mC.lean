abbrev B_q_X4_hedges (dC : Nat → ClassId) (dI : Nat → Nat → Nat) (h0 : Nat) (R : Nat → Nat) (A : Nat → Prop) (V : Nat → Int32) (G : Nat → Nat → Int32) (ns : Nat) (nc : Nat) (dr : Nat → Prop) (cj : Nat) : Option Value → Heap → Prop := fun v H => ∃ (V1 : Nat → Int32) (G1 : Nat → Nat → Int32), v = none ∧ MI ns nc dr V1 G1 ∧ KV V V1 ∧ Mw dC dI h0 R A V1 G1 H
set_option maxHeartbeats 8000000 in
set_option maxRecDepth 20000 in
theorem q_X4_hedges (l : Launch) (dC : Nat → ClassId) (dI : Nat → Nat → Nat) (h0 : Nat) (R : Nat → Nat) (A : Nat → Prop) (V : Nat → Int32) (G : Nat → Nat → Int32) (ns : Nat) (nc : Nat) (dr : Nat → Prop) (cj : Nat) (hM : MI ns nc dr V G) (hcn : cj < nc) : Met l yX4_hedges (cws yX4_hedges cX4_hedges 3 none) { frames := 1, cells := 0, slots := 0, locals := 23 } (va_Pc [.ref h0, .int (nI cj)] (fun U => Kt dC dI U ∧ Mw dC dI h0 R A V G U.heap)) (Qg (B_q_X4_hedges dC dI h0 R A V G ns nc dr cj) A) 0 0 A := by
  refine m_start (KK := Kt dC dI) (Pw := Mw dC dI h0 R A V G) (by decide) (Nat.le_of_ble_eq_true rfl) ?_
  intro p e s m below meth c ls S hr hlocks hin hK hW hS hl
  obtain ⟨hx, hb, hml, hown, hts⟩ := id S
  have hl : lv_has ls 3 [(0, .ref h0), (1, .int (nI cj))] := hl
  obtain ⟨⟨hV2, hns⟩, ⟨hV3, hnc⟩, h31, h37, hQ, hZ, hD⟩ := id hM
  have en_s : (nI ns).toInt = ((ns : Nat) : Int) := pz_ti (by omega)
  have en_c : (nI nc).toInt = ((nc : Nat) : Int) := pz_ti (by omega)
  refine lv_aload_n hx hb dX4_hedges_0 rfl (lv_at hl 0 rfl) ?_
  refine M_g30 S hK hW dX4_hedges_1 ?_
  refine lv_iload_n hx hb dX4_hedges_4 rfl (lv_at hl 1 rfl) ?_
  refine mw_ld S hK hW 30 rfl rfl (pz_vi (n := mN 30) (by rw [show mN 30 = 200 from rfl]; omega) (by decide)) dX4_hedges_5 (fun x_1 hx_1 => ?_)
  replace hx_1 : x_1 = G 30 cj := (hx_1 rfl).trans (congrArg _ (pz_cl (by omega)))
  refine lv_iconst (v := 1) hx hb dX4_hedges_6 (by decide) ?_
  refine lv_icmp_ne (tgt := 49) hx hb dX4_hedges_7 (by decide) (fun c_2 => ?_) (fun c_2 => ?_)
  · skip
    have i_2 : ¬ x_1.toInt = 1 := by have h9 := pz_neq c_2; exact h9
    exact r_v hx hb hr hlocks hS dX4_hedges_49 (⟨_, _, rfl, hM, KV.rf, hW⟩)
  · skip
    have i_2 : x_1.toInt = 1 := by have h9 := pz_eq c_2; exact h9
    refine lv_aload_n hx hb dX4_hedges_10 rfl (lv_at hl 0 rfl) ?_
    refine M_g36 S hK hW dX4_hedges_11 ?_
    refine lv_iload_n hx hb dX4_hedges_14 rfl (lv_at hl 1 rfl) ?_
    refine mw_lz S hK hW 36 rfl rfl (pz_vi (n := mN 36) (by rw [show mN 36 = 200 from rfl]; omega) (by decide)) dX4_hedges_15 (fun x_3 => ?_)
    refine lv_if_eq (tgt := 49) hx hb dX4_hedges_16 (by decide) (fun c_4 => ?_) (fun c_4 => ?_)
    · skip
      have i_4 : x_3.toInt = 0 := by have h9 := pz_eq c_4; exact h9
      exact r_v hx hb hr hlocks hS dX4_hedges_49 (⟨_, _, rfl, hM, KV.rf, hW⟩)
    · skip
      have i_4 : ¬ x_3.toInt = 0 := by have h9 := pz_neq c_4; exact h9
      refine lv_aload_n hx hb dX4_hedges_19 rfl (lv_at hl 0 rfl) ?_
      refine M_g31 S hK hW dX4_hedges_20 ?_
      refine lv_iload_n hx hb dX4_hedges_23 rfl (lv_at hl 1 rfl) ?_
      refine mw_ld S hK hW 31 rfl rfl (pz_vi (n := mN 31) (by rw [show mN 31 = 200 from rfl]; omega) (by decide)) dX4_hedges_24 (fun x_5 hx_5 => ?_)
      replace hx_5 : x_5 = G 31 cj := (hx_5 rfl).trans (congrArg _ (pz_cl (by omega)))
      refine lv_iconst (v := 1) hx hb dX4_hedges_25 (by decide) ?_
      refine lv_icmp_ne (tgt := 49) hx hb dX4_hedges_26 (by decide) (fun c_6 => ?_) (fun c_6 => ?_)
      · skip
        have i_6 : ¬ x_5.toInt = 1 := by have h9 := pz_neq c_6; exact h9
        exact r_v hx hb hr hlocks hS dX4_hedges_49 (⟨_, _, rfl, hM, KV.rf, hW⟩)
      · skip
        have i_6 : x_5.toInt = 1 := by have h9 := pz_eq c_6; exact h9
        have h1k : G 31 cj = nI 1 := hx_5.symm.trans c_6
        refine lv_aload_n hx hb dX4_hedges_29 rfl (lv_at hl 0 rfl) ?_
        refine M_g38 S hK hW dX4_hedges_30 ?_
        refine lv_iconst (v := 2) hx hb dX4_hedges_33 (by decide) ?_
        refine lv_iload_n hx hb dX4_hedges_34 rfl (lv_at hl 1 rfl) ?_
        refine lv_imul hx hb dX4_hedges_35 ?_
        refine lv_topi (fun x_7 ex_7 => ?_)
        obtain rfl : x_7 = nI (2 * cj) := ex_7.trans (pk_mul 2 cj)
        have en_8 : (nI (2 * cj)).toInt = ((2 * cj : Nat) : Int) := pz_ti (by omega)
        refine mw_ld S hK hW 38 rfl rfl (pz_vi (n := mN 38) (by rw [show mN 38 = 400 from rfl]; omega) (by decide)) dX4_hedges_36 (fun x_9 hx_9 => ?_)
        refine lv_aload_n hx hb dX4_hedges_37 rfl (lv_at hl 0 rfl) ?_
        refine M_g7 S hK hW dX4_hedges_38 (fun x_10 hx_10 => ?_)
        refine lv_iadd hx hb dX4_hedges_41 ?_
        refine lv_topi (fun x_11 _ => ?_)
        refine lv_aload_n hx hb dX4_hedges_42 rfl (lv_at hl 0 rfl) ?_
        refine M_g1 S hK hW dX4_hedges_43 (fun x_12 => ?_)
        refine lv_icmp_eq (tgt := 50) hx hb dX4_hedges_46 (by decide) (fun c_13 => ?_) (fun c_13 => ?_)
        · skip
          have i_13 : x_11.toInt = x_12.toInt := by have h9 := pz_eq c_13; exact h9
          refine lv_aload_n hx hb dX4_hedges_50 rfl (lv_at hl 0 rfl) ?_
          refine lv_aload_n hx hb dX4_hedges_51 rfl (lv_at hl 0 rfl) ?_
          refine M_g32 S hK hW dX4_hedges_52 ?_
          refine lv_iload_n hx hb dX4_hedges_55 rfl (lv_at hl 1 rfl) ?_
          refine mw_ld S hK hW 32 rfl rfl (pz_vi (n := mN 32) (by rw [show mN 32 = 200 from rfl]; omega) (by decide)) dX4_hedges_56 (fun x_14 hx_14 => ?_)
          refine c_v (n := 1) (As := [.int x_14]) (rest := []) S (q_X4_mays l dC dI h0 R A V G ns x_14 hV2 (by omega)) iw_837 iw_834 iw_836 iw_36 iw_61 (by decide +kernel) rfl ⟨rfl, rfl, Nat.le_of_ble_eq_true rfl, Nat.le_of_ble_eq_true rfl⟩ Kt.blind (M_recv hK hW) hK.at hW hl.1 rfl (Nat.le_of_ble_eq_true rfl) dX4_hedges_57 ⟨Nat.le_refl _, Nat.le_refl _⟩ hS (fun _ h9 => h9) (fun v9 H locs hB hz9 hk9 hS => ?_)
          refine W.widen (k := 0) (n := 0) (Nat.le_refl 0) (Nat.le_refl 0) ?_
          obtain ⟨r_15, rfl, hm_15, hW⟩ := hB
          refine W.eq (g2 := F0 m 60 ls [.int r_15]) rfl ?_
          refine lv_istore_n (lv' := [(2, .int r_15), (0, .ref h0), (1, .int (nI cj))]) hx hb dX4_hedges_60 rfl hl (by decide) rfl (fun ls hl => ?_)
          refine lv_iload_n hx hb dX4_hedges_61 rfl (lv_at hl 0 rfl) ?_
          refine lv_if_ne (tgt := 66) hx hb dX4_hedges_62 (by decide) (fun c_16 => ?_) (fun c_16 => ?_)
          · skip
            have i_16 : ¬ r_15.toInt = 0 := by have h9 := pz_neq c_16; exact h9
            refine lv_aload_n hx hb dX4_hedges_66 rfl (lv_at hl 1 rfl) ?_
            refine lv_iload_n hx hb dX4_hedges_67 rfl (lv_at hl 2 rfl) ?_
            refine lv_aload_n hx hb dX4_hedges_68 rfl (lv_at hl 1 rfl) ?_
            refine lv_iload_n hx hb dX4_hedges_69 rfl (lv_at hl 0 rfl) ?_
            refine c_v (n := 1) (As := [.int r_15]) (rest := [.int (nI cj), .ref h0]) S (q_X4_fewest l dC dI h0 R A V G ns r_15 hV2 (by omega) (hm_15.resolve_left c_16)) iw_849 iw_846 iw_848 iw_39 iw_61 (by decide +kernel) rfl ⟨rfl, rfl, Nat.le_of_ble_eq_true rfl, Nat.le_of_ble_eq_true rfl⟩ Kt.blind (M_recv hK hW) hK.at hW hl.1 rfl (Nat.le_of_ble_eq_true rfl) dX4_hedges_70 ⟨Nat.le_refl _, Nat.le_refl _⟩ hS (fun _ h9 => h9) (fun v9 H locs hB hz9 hk9 hS => ?_)
            refine W.widen (k := 0) (n := 0) (Nat.le_refl 0) (Nat.le_refl 0) ?_
            obtain ⟨r_17, q_17, rfl, ⟨hq_17, rfl⟩, hW⟩ := hB
            refine W.eq (g2 := F0 m 73 ls [.int (nI q_17), .int (nI cj), .ref h0]) rfl ?_
            have en_18 : (nI q_17).toInt = ((q_17 : Nat) : Int) := pz_ti (by omega)
            refine c_v (n := 2) (As := [.int (nI cj), .int (nI q_17)]) (rest := []) S (q_X4_ask l dC dI h0 R A V G cj q_17 1 (by omega) (by omega) (by omega) h1k) iw_865 iw_862 iw_864 iw_42 iw_61 (by decide +kernel) rfl ⟨rfl, rfl, Nat.le_of_ble_eq_true rfl, Nat.le_of_ble_eq_true rfl⟩ Kt.blind (M_recv hK hW) hK.at hW hl.1 rfl (Nat.le_of_ble_eq_true rfl) dX4_hedges_73 ⟨Nat.le_refl _, Nat.le_refl _⟩ hS (fun _ h9 => h9) (fun v9 H locs hB hz9 hk9 hS => ?_)
            refine W.widen (k := 0) (n := 0) (Nat.le_refl 0) (Nat.le_refl 0) ?_
            obtain ⟨G_19, rfl, k37_19, k31_19, k30_19, ko_19, hW⟩ := hB
            refine W.eq (g2 := F0 m 76 ls []) rfl ?_
            refine lv_aload_n hx hb dX4_hedges_76 rfl (lv_at hl 1 rfl) ?_
            refine lv_dup hx hb dX4_hedges_77 rfl ?_
            refine M_g10 S hK hW dX4_hedges_78 (fun x_20 => ?_)
            refine lv_iconst (v := 1) hx hb dX4_hedges_81 (by decide) ?_
            refine lv_iadd hx hb dX4_hedges_82 ?_
            refine lv_topi (fun x_21 _ => ?_)
            refine M_p10 S hK hW hS dX4_hedges_83 (fun H locs hW hS => ?_)
            exact r_v hx hb hr hlocks hS dX4_hedges_86 (⟨_, _, rfl, hM.ask (by omega) (AskR.of h37 (by omega) (by decide) k37_19 k31_19 k30_19 ko_19), KV.rf, hW⟩)
          · skip
            have i_16 : r_15.toInt = 0 := by have h9 := pz_eq c_16; exact h9
            exact r_v hx hb hr hlocks hS dX4_hedges_65 (⟨_, _, rfl, hM, KV.rf, hW⟩)
        · skip
          have i_13 : ¬ x_11.toInt = x_12.toInt := by have h9 := pz_neq c_13; exact h9
          exact r_v hx hb hr hlocks hS dX4_hedges_49 (⟨_, _, rfl, hM, KV.rf, hW⟩)

abbrev B_q_X4_isAhead (dC : Nat → ClassId) (dI : Nat → Nat → Nat) (h0 : Nat) (R : Nat → Nat) (A : Nat → Prop) (V : Nat → Int32) (G : Nat → Nat → Int32) (aj : Nat) (bj : Nat) : Option Value → Heap → Prop := fun v H => ∃ r : Int32, v = some (.int r) ∧ Mw dC dI h0 R A V G H
set_option maxHeartbeats 8000000 in
set_option maxRecDepth 20000 in
theorem q_X4_isAhead (l : Launch) (dC : Nat → ClassId) (dI : Nat → Nat → Nat) (h0 : Nat) (R : Nat → Nat) (A : Nat → Prop) (V : Nat → Int32) (G : Nat → Nat → Int32) (aj : Nat) (bj : Nat) (haj : aj < 200) (hbj : bj < 200) : Met l yX4_isAhead (cws yX4_isAhead cX4_isAhead 3 (some .boolean)) { frames := 0, cells := 0, slots := 0, locals := 0 } (va_Pc [.ref h0, .int (nI aj), .int (nI bj)] (fun U => Kt dC dI U ∧ Mw dC dI h0 R A V G U.heap)) (Qg (B_q_X4_isAhead dC dI h0 R A V G aj bj) A) 0 0 A := by
  refine m_start (KK := Kt dC dI) (Pw := Mw dC dI h0 R A V G) (by decide) (Nat.le_of_ble_eq_true rfl) ?_
  intro p e s m below meth c ls S hr hlocks hin hK hW hS hl
  obtain ⟨hx, hb, hml, hown, hts⟩ := id S
  have hl : lv_has ls 3 [(0, .ref h0), (1, .int (nI aj)), (2, .int (nI bj))] := hl
  have en_a : (nI aj).toInt = ((aj : Nat) : Int) := pz_ti (by omega)
  have en_b : (nI bj).toInt = ((bj : Nat) : Int) := pz_ti (by omega)
  refine lv_aload_n hx hb dX4_isAhead_0 rfl (lv_at hl 0 rfl) ?_
  refine M_g28 S hK hW dX4_isAhead_1 ?_
  refine lv_iload_n hx hb dX4_isAhead_4 rfl (lv_at hl 1 rfl) ?_
  refine mw_ld S hK hW 28 rfl rfl (pz_vi (n := mN 28) (by rw [show mN 28 = 200 from rfl]; omega) (by decide)) dX4_isAhead_5 (fun x_1 hx_1 => ?_)
  refine lv_aload_n hx hb dX4_isAhead_6 rfl (lv_at hl 0 rfl) ?_
  refine M_g28 S hK hW dX4_isAhead_7 ?_
  refine lv_iload_n hx hb dX4_isAhead_10 rfl (lv_at hl 2 rfl) ?_
  refine mw_ld S hK hW 28 rfl rfl (pz_vi (n := mN 28) (by rw [show mN 28 = 200 from rfl]; omega) (by decide)) dX4_isAhead_11 (fun x_2 hx_2 => ?_)
  refine lv_icmp_eq (tgt := 36) hx hb dX4_isAhead_12 (by decide) (fun c_3 => ?_) (fun c_3 => ?_)
  · skip
    have i_3 : x_1.toInt = x_2.toInt := by have h9 := pz_eq c_3; exact h9
    refine lv_aload_n hx hb dX4_isAhead_36 rfl (lv_at hl 0 rfl) ?_
    refine M_g29 S hK hW dX4_isAhead_37 ?_
    refine lv_iload_n hx hb dX4_isAhead_40 rfl (lv_at hl 1 rfl) ?_
    refine mw_ld S hK hW 29 rfl rfl (pz_vi (n := mN 29) (by rw [show mN 29 = 200 from rfl]; omega) (by decide)) dX4_isAhead_41 (fun x_4 hx_4 => ?_)
    refine lv_aload_n hx hb dX4_isAhead_42 rfl (lv_at hl 0 rfl) ?_
    refine M_g29 S hK hW dX4_isAhead_43 ?_
    refine lv_iload_n hx hb dX4_isAhead_46 rfl (lv_at hl 2 rfl) ?_
    refine mw_ld S hK hW 29 rfl rfl (pz_vi (n := mN 29) (by rw [show mN 29 = 200 from rfl]; omega) (by decide)) dX4_isAhead_47 (fun x_5 hx_5 => ?_)
    refine lv_icmp_eq (tgt := 74) hx hb dX4_isAhead_48 (by decide) (fun c_6 => ?_) (fun c_6 => ?_)
    · skip
      have i_6 : x_4.toInt = x_5.toInt := by have h9 := pz_eq c_6; exact h9
      refine lv_iload_n hx hb dX4_isAhead_74 rfl (lv_at hl 1 rfl) ?_
      refine lv_iload_n hx hb dX4_isAhead_75 rfl (lv_at hl 2 rfl) ?_
      refine lv_icmp_ge (tgt := 83) hx hb dX4_isAhead_76 (by decide) (fun c_7 => ?_) (fun c_7 => ?_)
      · skip
        have i_7 : (nI aj).toInt ≥ (nI bj).toInt := by have h9 := pz_ge c_7; exact h9
        refine lv_iconst (v := 0) hx hb dX4_isAhead_83 (by decide) ?_
        exact r_z (v := 0) hx hb hr rfl hlocks hS dX4_isAhead_84 (⟨_, rfl, hW⟩)
      · skip
        have i_7 : (nI aj).toInt < (nI bj).toInt := by have h9 := pz_nge c_7; exact h9
        refine lv_iconst (v := 1) hx hb dX4_isAhead_79 (by decide) ?_
        refine lv_goto (tgt := 84) hx hb dX4_isAhead_80 (by decide) ?_
        exact r_z (v := 1) hx hb hr rfl hlocks hS dX4_isAhead_84 (⟨_, rfl, hW⟩)
    · skip
      have i_6 : ¬ x_4.toInt = x_5.toInt := by have h9 := pz_neq c_6; exact h9
      refine lv_aload_n hx hb dX4_isAhead_51 rfl (lv_at hl 0 rfl) ?_
      refine M_g29 S hK hW dX4_isAhead_52 ?_
      refine lv_iload_n hx hb dX4_isAhead_55 rfl (lv_at hl 1 rfl) ?_
      refine mw_ld S hK hW 29 rfl rfl (pz_vi (n := mN 29) (by rw [show mN 29 = 200 from rfl]; omega) (by decide)) dX4_isAhead_56 (fun x_8 hx_8 => ?_)
      refine lv_aload_n hx hb dX4_isAhead_57 rfl (lv_at hl 0 rfl) ?_
      refine M_g29 S hK hW dX4_isAhead_58 ?_
      refine lv_iload_n hx hb dX4_isAhead_61 rfl (lv_at hl 2 rfl) ?_
      refine mw_ld S hK hW 29 rfl rfl (pz_vi (n := mN 29) (by rw [show mN 29 = 200 from rfl]; omega) (by decide)) dX4_isAhead_62 (fun x_9 hx_9 => ?_)
      refine lv_icmp_ge (tgt := 70) hx hb dX4_isAhead_63 (by decide) (fun c_10 => ?_) (fun c_10 => ?_)
      · skip
        have i_10 : x_8.toInt ≥ x_9.toInt := by have h9 := pz_ge c_10; exact h9
        refine lv_iconst (v := 0) hx hb dX4_isAhead_70 (by decide) ?_
        refine lv_goto (tgt := 84) hx hb dX4_isAhead_71 (by decide) ?_
        exact r_z (v := 0) hx hb hr rfl hlocks hS dX4_isAhead_84 (⟨_, rfl, hW⟩)
      · skip
        have i_10 : x_8.toInt < x_9.toInt := by have h9 := pz_nge c_10; exact h9
        refine lv_iconst (v := 1) hx hb dX4_isAhead_66 (by decide) ?_
        refine lv_goto (tgt := 84) hx hb dX4_isAhead_67 (by decide) ?_
        exact r_z (v := 1) hx hb hr rfl hlocks hS dX4_isAhead_84 (⟨_, rfl, hW⟩)
  · skip
    have i_3 : ¬ x_1.toInt = x_2.toInt := by have h9 := pz_neq c_3; exact h9
    refine lv_aload_n hx hb dX4_isAhead_15 rfl (lv_at hl 0 rfl) ?_
    refine M_g28 S hK hW dX4_isAhead_16 ?_
    refine lv_iload_n hx hb dX4_isAhead_19 rfl (lv_at hl 1 rfl) ?_
    refine mw_ld S hK hW 28 rfl rfl (pz_vi (n := mN 28) (by rw [show mN 28 = 200 from rfl]; omega) (by decide)) dX4_isAhead_20 (fun x_11 hx_11 => ?_)
    refine lv_aload_n hx hb dX4_isAhead_21 rfl (lv_at hl 0 rfl) ?_
    refine M_g28 S hK hW dX4_isAhead_22 ?_
    refine lv_iload_n hx hb dX4_isAhead_25 rfl (lv_at hl 2 rfl) ?_
    refine mw_ld S hK hW 28 rfl rfl (pz_vi (n := mN 28) (by rw [show mN 28 = 200 from rfl]; omega) (by decide)) dX4_isAhead_26 (fun x_12 hx_12 => ?_)
    refine lv_icmp_le (tgt := 34) hx hb dX4_isAhead_27 (by decide) (fun c_13 => ?_) (fun c_13 => ?_)
    · skip
      have i_13 : x_11.toInt ≤ x_12.toInt := by have h9 := pz_le c_13; exact h9
      refine lv_iconst (v := 0) hx hb dX4_isAhead_34 (by decide) ?_
      exact r_z (v := 0) hx hb hr rfl hlocks hS dX4_isAhead_35 (⟨_, rfl, hW⟩)
    · skip
      have i_13 : x_11.toInt > x_12.toInt := by have h9 := pz_nle c_13; exact h9
      refine lv_iconst (v := 1) hx hb dX4_isAhead_30 (by decide) ?_
      refine lv_goto (tgt := 35) hx hb dX4_isAhead_31 (by decide) ?_
      exact r_z (v := 1) hx hb hr rfl hlocks hS dX4_isAhead_35 (⟨_, rfl, hW⟩)

abbrev B_q_X4_line (dC : Nat → ClassId) (dI : Nat → Nat → Nat) (h0 : Nat) (R : Nat → Nat) (A : Nat → Prop) (V : Nat → Int32) (G : Nat → Nat → Int32) (nc : Nat) : Option Value → Heap → Prop := fun v H => ∃ (V1 : Nat → Int32) (G1 : Nat → Nat → Int32) (nq : Nat), v = none ∧ (V1 42 = nI nq ∧ nq ≤ nc ∧ (∀ i, i ≠ 42 → V1 i = V i) ∧ (∀ i, i ≠ 41 → G1 i = G i) ∧ Qf nc nq (G 30) (G1 41)) ∧ Mw dC dI h0 R A V1 G1 H
set_option maxHeartbeats 8000000 in
set_option maxRecDepth 20000 in
theorem q_X4_line (l : Launch) (dC : Nat → ClassId) (dI : Nat → Nat → Nat) (h0 : Nat) (R : Nat → Nat) (A : Nat → Prop) (V : Nat → Int32) (G : Nat → Nat → Int32) (nc : Nat) (hV3 : V 3 = nI nc) (hnc : nc ≤ 200) : Met l yX4_line (cws yX4_line cX4_line 3 none) { frames := 1, cells := 0, slots := 0, locals := 22 } (va_Pc [.ref h0] (fun U => Kt dC dI U ∧ Mw dC dI h0 R A V G U.heap)) (Qg (B_q_X4_line dC dI h0 R A V G nc) A) 0 0 A := by
  refine m_start (KK := Kt dC dI) (Pw := Mw dC dI h0 R A V G) (by decide) (Nat.le_of_ble_eq_true rfl) ?_
  intro p e s m below meth c ls S hr hlocks hin hK hW hS hl
  obtain ⟨hx, hb, hml, hown, hts⟩ := id S
  have hl : lv_has ls 3 [(0, .ref h0)] := hl
  have en_c : (nI nc).toInt = ((nc : Nat) : Int) := pz_ti (by omega)
  have hV3o := hV3
  refine lv_aload_n hx hb dX4_line_0 rfl (lv_at hl 0 rfl) ?_
  refine lv_iconst (v := 0) hx hb dX4_line_1 (by decide) ?_
  refine M_p42 S hK hW hS dX4_line_2 (fun H locs V_1 v1_1 v2_1 hW hS => ?_)
  have hV3 : V_1 3 = nI nc := (v2_1 3 (by decide)).trans hV3
  have hV42 : V_1 42 = nI 0 := v1_1
  refine lv_iconst (v := 0) hx hb dX4_line_5 (by decide) ?_
  refine lv_istore_n (lv' := [(1, .int 0), (0, .ref h0)]) hx hb dX4_line_6 rfl hl (by decide) rfl (fun ls hl => ?_)
  have loop_B7 : ∀ (k9 : Nat) (j : Nat) (nq : Nat) (V7 : Nat → Int32) (G7 : Nat → Nat → Int32) (H : Heap) (locs : List Loc) (ls : Array Slot), nc - j = k9 → (j ≤ nc) → (nq ≤ j) → (V7 42 = nI nq) → (∀ i, i ≠ 42 → V7 i = V i) → (∀ i, i ≠ 41 → G7 i = G i) → (Qf j nq (G 30) (G7 41)) → Mw dC dI h0 R A V7 G7 H → va_S A s.heap H locs → lv_has ls 3 [(0, .ref h0), (1, .int (nI j))] → W p l e { frames := 1, cells := 0, slots := 0, locals := 22 } s m ([.ref h0] : List Value).toArray below meth c H locs 0 0 (MQ below (Qg (B_q_X4_line dC dI h0 R A V G nc) A) ([.ref h0] : List Value).toArray s 0 0 A) (F0 m 7 ls []) := by
    intro k9
    induction k9 using Nat.strongRecOn with
    | ind k9 ih_B7 =>
      intro j nq V7 G7 H locs ls hm_B7 hle hnq hV42 hv7 hg7 hq hW hS hl
      have en_j : (nI j).toInt = ((j : Nat) : Int) := pz_ti (by omega)
      have en_nq : (nI nq).toInt = ((nq : Nat) : Int) := pz_ti (by omega)
      have hV3 : V7 3 = nI nc := (hv7 3 (by decide)).trans hV3o
      refine lv_iload_n hx hb dX4_line_7 rfl (lv_at hl 1 rfl) ?_
      refine lv_aload_n hx hb dX4_line_8 rfl (lv_at hl 0 rfl) ?_
      refine M_g3 S hK hW dX4_line_9 (fun x_2 hx_2 => ?_)
      obtain rfl : x_2 = nI nc := hx_2.trans hV3
      refine lv_icmp_ge (tgt := 95) hx hb dX4_line_12 (by decide) (fun c_3 => ?_) (fun c_3 => ?_)
      · skip
        have i_3 : (nI j).toInt ≥ (nI nc).toInt := by have h9 := pz_ge c_3; exact h9
        exact r_v hx hb hr hlocks hS dX4_line_95 (⟨_, _, nq, rfl, ⟨hV42, by omega, hv7, hg7, by rw [show nc = j by omega]; exact hq⟩, hW⟩)
      · skip
        have i_3 : (nI j).toInt < (nI nc).toInt := by have h9 := pz_nge c_3; exact h9
        refine lv_aload_n hx hb dX4_line_15 rfl (lv_at hl 0 rfl) ?_
        refine M_g30 S hK hW dX4_line_16 ?_
        refine lv_iload_n hx hb dX4_line_19 rfl (lv_at hl 1 rfl) ?_
        refine mw_ld S hK hW 30 rfl rfl (pz_vi (n := mN 30) (by rw [show mN 30 = 200 from rfl]; omega) (by decide)) dX4_line_20 (fun x_4 hx_4 => ?_)
        replace hx_4 : x_4 = G7 30 j := (hx_4 rfl).trans (congrArg _ (pz_cl (by omega)))
        replace hx_4 : x_4 = G 30 j := hx_4.trans (congrFun (hg7 30 (by decide)) _)
        refine lv_if_eq (tgt := 27) hx hb dX4_line_21 (by decide) (fun c_5 => ?_) (fun c_5 => ?_)
        · skip
          have i_5 : x_4.toInt = 0 := by have h9 := pz_eq c_5; exact h9
          have hs0 : G 30 j = 0 := hx_4.symm.trans c_5
          refine lv_aload_n hx hb dX4_line_27 rfl (lv_at hl 0 rfl) ?_
          refine M_g42 S hK hW dX4_line_28 (fun x_6 hx_6 => ?_)
          obtain rfl : x_6 = nI nq := hx_6.trans hV42
          refine lv_istore_n (lv' := [(2, .int (nI nq)), (0, .ref h0), (1, .int (nI j))]) hx hb dX4_line_31 rfl hl (by decide) rfl (fun ls hl => ?_)
          have loop_B32 : ∀ (k9 : Nat) (k : Nat) (G8 : Nat → Nat → Int32) (H : Heap) (locs : List Loc) (ls : Array Slot), k = k9 → (k ≤ nq) → (∀ i, i ≠ 41 → G8 i = G i) → (Qh j (nq + 1) k (G 30) (G8 41)) → Mw dC dI h0 R A V7 G8 H → va_S A s.heap H locs → lv_has ls 3 [(0, .ref h0), (1, .int (nI j)), (2, .int (nI k))] → W p l e { frames := 1, cells := 0, slots := 0, locals := 22 } s m ([.ref h0] : List Value).toArray below meth c H locs 0 0 (MQ below (Qg (B_q_X4_line dC dI h0 R A V G nc) A) ([.ref h0] : List Value).toArray s 0 0 A) (F0 m 32 ls []) := by
            intro k9
            induction k9 using Nat.strongRecOn with
            | ind k9 ih_B32 =>
              intro k G8 H locs ls hm_B32 hk hg8 hh hW hS hl
              have en_k : (nI k).toInt = ((k : Nat) : Int) := pz_ti (by omega)
              refine lv_iload_n hx hb dX4_line_32 rfl (lv_at hl 2 rfl) ?_
              refine lv_if_le (tgt := 72) hx hb dX4_line_33 (by decide) (fun c_7 => ?_) (fun c_7 => ?_)
              · skip
                have i_7 : (nI k).toInt ≤ 0 := by have h9 := pz_le c_7; exact h9
                refine lv_aload_n hx hb dX4_line_72 rfl (lv_at hl 0 rfl) ?_
                refine M_g41 S hK hW dX4_line_73 ?_
                refine lv_iload_n hx hb dX4_line_76 rfl (lv_at hl 2 rfl) ?_
                refine lv_iload_n hx hb dX4_line_77 rfl (lv_at hl 1 rfl) ?_
                refine mw_st S hK hW hS 41 rfl rfl (pz_vi (n := mN 41) (by rw [show mN 41 = 200 from rfl]; omega) (by decide)) dX4_line_78 (fun H locs G_8 g1_8 g2_8 hW hS => ?_)
                rw [pz_cl (by omega)] at g1_8
                have hq2 : Qf (j + 1) (nq + 1) (G 30) (G_8 41) := hh.put (by omega) (by omega) hs0 g1_8
                refine lv_aload_n hx hb dX4_line_79 rfl (lv_at hl 0 rfl) ?_
                refine lv_dup hx hb dX4_line_80 rfl ?_
                refine M_g42 S hK hW dX4_line_81 (fun x_9 hx_9 => ?_)
                obtain rfl : x_9 = nI nq := hx_9.trans hV42
                refine lv_iconst (v := 1) hx hb dX4_line_84 (by decide) ?_
                refine lv_iadd hx hb dX4_line_85 ?_
                refine lv_topi (fun x_10 ex_10 => ?_)
                obtain rfl : x_10 = nI (nq + 1) := ex_10.trans (nI_add nq 1)
                have en_11 : (nI (nq + 1)).toInt = ((nq + 1 : Nat) : Int) := pz_ti (by omega)
                refine M_p42 S hK hW hS dX4_line_86 (fun H locs V_12 v1_12 v2_12 hW hS => ?_)
                have hV3 : V_12 3 = nI nc := (v2_12 3 (by decide)).trans hV3
                have hV42 : V_12 42 = nI (nq + 1) := v1_12
                obtain ⟨y_13, ey_13⟩ : ∃ y : Int32, y = (nI j) + 1 := ⟨_, rfl⟩
                refine lv_iinc (v := y_13) (lv' := [(1, .int y_13), (0, .ref h0), (2, .int (nI k))]) hx hb dX4_line_89 hl (k := 1) rfl (by rw [ey_13]; rfl) (by decide) rfl (fun ls hl => ?_)
                obtain rfl : y_13 = nI (j + 1) := ey_13.trans (nI_1 j)
                have en_14 : (nI (j + 1)).toInt = ((j + 1 : Nat) : Int) := pz_ti (by omega)
                refine lv_goto (tgt := 7) hx hb dX4_line_92 (by decide) ?_
                exact ih_B7 _ (by omega) (j + 1) (nq + 1) V_12 G_8 _ _ ls rfl (by omega) (by omega) (hV42) (fun i h9 => (v2_12 i h9).trans (hv7 i h9)) (fun i h9 => (g2_8 i h9).trans (hg8 i h9)) (hq2) hW hS (lv_sub hl [1, 0] rfl)
              · skip
                have i_7 : (nI k).toInt > 0 := by have h9 := pz_nle c_7; exact h9
                refine lv_aload_n hx hb dX4_line_36 rfl (lv_at hl 0 rfl) ?_
                refine lv_iload_n hx hb dX4_line_37 rfl (lv_at hl 1 rfl) ?_
                refine lv_aload_n hx hb dX4_line_38 rfl (lv_at hl 0 rfl) ?_
                refine M_g41 S hK hW dX4_line_39 ?_
                refine lv_iload_n hx hb dX4_line_42 rfl (lv_at hl 2 rfl) ?_
                refine lv_iconst (v := 1) hx hb dX4_line_43 (by decide) ?_
                refine lv_isub hx hb dX4_line_44 ?_
                refine lv_topi (fun x_15 ex_15 => ?_)
                obtain rfl : x_15 = nI (k - 1) := ex_15.trans (pk_sub (a := k) (b := 1) (by omega))
                have en_16 : (nI (k - 1)).toInt = ((k - 1 : Nat) : Int) := pz_ti (by omega)
                refine mw_ld S hK hW 41 rfl rfl (pz_vi (n := mN 41) (by rw [show mN 41 = 200 from rfl]; omega) (by decide)) dX4_line_45 (fun x_17 hx_17 => ?_)
                replace hx_17 : x_17 = G8 41 (k - 1) := (hx_17 rfl).trans (congrArg _ (pz_cl (by omega)))
                obtain ⟨a_18, ha_18, ea_18, -⟩ := hh.1 ((k - 1)) (by omega) (by omega)
                obtain rfl : x_17 = nI a_18 := hx_17.trans ea_18
                have en_19 : (nI a_18).toInt = ((a_18 : Nat) : Int) := pz_ti (by omega)
                refine c_v (n := 2) (As := [.int (nI j), .int (nI a_18)]) (rest := []) S (q_X4_isAhead l dC dI h0 R A V7 G8 j a_18 (by omega) (by omega)) iw_923 iw_920 iw_922 iw_54 iw_61 (by decide +kernel) rfl ⟨rfl, rfl, Nat.le_of_ble_eq_true rfl, Nat.le_of_ble_eq_true rfl⟩ Kt.blind (M_recv hK hW) hK.at hW hl.1 rfl (Nat.le_of_ble_eq_true rfl) dX4_line_46 ⟨Nat.le_refl _, Nat.le_refl _⟩ hS (fun _ h9 => h9) (fun v9 H locs hB hz9 hk9 hS => ?_)
                refine W.widen (k := 0) (n := 0) (Nat.le_refl 0) (Nat.le_refl 0) ?_
                obtain ⟨r_20, rfl, hW⟩ := hB
                refine W.eq (g2 := F0 m 49 ls [.int r_20]) rfl ?_
                refine lv_if_eq (tgt := 72) hx hb dX4_line_49 (by decide) (fun c_21 => ?_) (fun c_21 => ?_)
                · skip
                  have i_21 : r_20.toInt = 0 := by have h9 := pz_eq c_21; exact h9
                  refine lv_aload_n hx hb dX4_line_72 rfl (lv_at hl 0 rfl) ?_
                  refine M_g41 S hK hW dX4_line_73 ?_
                  refine lv_iload_n hx hb dX4_line_76 rfl (lv_at hl 2 rfl) ?_
                  refine lv_iload_n hx hb dX4_line_77 rfl (lv_at hl 1 rfl) ?_
                  refine mw_st S hK hW hS 41 rfl rfl (pz_vi (n := mN 41) (by rw [show mN 41 = 200 from rfl]; omega) (by decide)) dX4_line_78 (fun H locs G_22 g1_22 g2_22 hW hS => ?_)
                  rw [pz_cl (by omega)] at g1_22
                  have hq2 : Qf (j + 1) (nq + 1) (G 30) (G_22 41) := hh.put (by omega) (by omega) hs0 g1_22
                  refine lv_aload_n hx hb dX4_line_79 rfl (lv_at hl 0 rfl) ?_
                  refine lv_dup hx hb dX4_line_80 rfl ?_
                  refine M_g42 S hK hW dX4_line_81 (fun x_23 hx_23 => ?_)
                  obtain rfl : x_23 = nI nq := hx_23.trans hV42
                  refine lv_iconst (v := 1) hx hb dX4_line_84 (by decide) ?_
                  refine lv_iadd hx hb dX4_line_85 ?_
                  refine lv_topi (fun x_24 ex_24 => ?_)
                  obtain rfl : x_24 = nI (nq + 1) := ex_24.trans (nI_add nq 1)
                  have en_25 : (nI (nq + 1)).toInt = ((nq + 1 : Nat) : Int) := pz_ti (by omega)
                  refine M_p42 S hK hW hS dX4_line_86 (fun H locs V_26 v1_26 v2_26 hW hS => ?_)
                  have hV3 : V_26 3 = nI nc := (v2_26 3 (by decide)).trans hV3
                  have hV42 : V_26 42 = nI (nq + 1) := v1_26
                  obtain ⟨y_27, ey_27⟩ : ∃ y : Int32, y = (nI j) + 1 := ⟨_, rfl⟩
                  refine lv_iinc (v := y_27) (lv' := [(1, .int y_27), (0, .ref h0), (2, .int (nI k))]) hx hb dX4_line_89 hl (k := 1) rfl (by rw [ey_27]; rfl) (by decide) rfl (fun ls hl => ?_)
                  obtain rfl : y_27 = nI (j + 1) := ey_27.trans (nI_1 j)
                  have en_28 : (nI (j + 1)).toInt = ((j + 1 : Nat) : Int) := pz_ti (by omega)
                  refine lv_goto (tgt := 7) hx hb dX4_line_92 (by decide) ?_
                  exact ih_B7 _ (by omega) (j + 1) (nq + 1) V_26 G_22 _ _ ls rfl (by omega) (by omega) (hV42) (fun i h9 => (v2_26 i h9).trans (hv7 i h9)) (fun i h9 => (g2_22 i h9).trans (hg8 i h9)) (hq2) hW hS (lv_sub hl [1, 0] rfl)
                · skip
                  have i_21 : ¬ r_20.toInt = 0 := by have h9 := pz_neq c_21; exact h9
                  refine lv_aload_n hx hb dX4_line_52 rfl (lv_at hl 0 rfl) ?_
                  refine M_g41 S hK hW dX4_line_53 ?_
                  refine lv_iload_n hx hb dX4_line_56 rfl (lv_at hl 2 rfl) ?_
                  refine lv_aload_n hx hb dX4_line_57 rfl (lv_at hl 0 rfl) ?_
                  refine M_g41 S hK hW dX4_line_58 ?_
                  refine lv_iload_n hx hb dX4_line_61 rfl (lv_at hl 2 rfl) ?_
                  refine lv_iconst (v := 1) hx hb dX4_line_62 (by decide) ?_
                  refine lv_isub hx hb dX4_line_63 ?_
                  refine lv_topi (fun x_29 ex_29 => ?_)
                  obtain rfl : x_29 = nI (k - 1) := ex_29.trans (pk_sub (a := k) (b := 1) (by omega))
                  have en_30 : (nI (k - 1)).toInt = ((k - 1 : Nat) : Int) := pz_ti (by omega)
                  refine mw_ld S hK hW 41 rfl rfl (pz_vi (n := mN 41) (by rw [show mN 41 = 200 from rfl]; omega) (by decide)) dX4_line_64 (fun x_31 hx_31 => ?_)
                  replace hx_31 : x_31 = G8 41 (k - 1) := (hx_31 rfl).trans (congrArg _ (pz_cl (by omega)))
                  obtain ⟨a_32, ha_32, ea_32, -⟩ := hh.1 ((k - 1)) (by omega) (by omega)
                  obtain rfl : x_31 = nI a_32 := hx_31.trans ea_32
                  have en_33 : (nI a_32).toInt = ((a_32 : Nat) : Int) := pz_ti (by omega)
                  refine mw_st S hK hW hS 41 rfl rfl (pz_vi (n := mN 41) (by rw [show mN 41 = 200 from rfl]; omega) (by decide)) dX4_line_65 (fun H locs G_34 g1_34 g2_34 hW hS => ?_)
                  rw [pz_cl (by omega)] at g1_34
                  have hh2 : Qh j (nq + 1) (k - 1) (G 30) (G_34 41) := hh.shift (by omega) (by omega) (by rw [g1_34, ← ea_32])
                  obtain ⟨y_35, ey_35⟩ : ∃ y : Int32, y = (nI k) + (-1) := ⟨_, rfl⟩
                  refine lv_iinc (v := y_35) (lv' := [(2, .int y_35), (0, .ref h0), (1, .int (nI j))]) hx hb dX4_line_66 hl (k := 2) rfl (by rw [ey_35]; rfl) (by decide) rfl (fun ls hl => ?_)
                  obtain rfl : y_35 = nI (k - 1) := ey_35.trans (sb_m1 (by omega))
                  have en_36 : (nI (k - 1)).toInt = ((k - 1 : Nat) : Int) := pz_ti (by omega)
                  refine lv_goto (tgt := 32) hx hb dX4_line_69 (by decide) ?_
                  exact ih_B32 _ (by omega) (k - 1) G_34 _ _ ls rfl (by omega) (fun i h9 => (g2_34 i h9).trans (hg8 i h9)) (hh2) hW hS (lv_sub hl [1, 2, 0] rfl)
          exact loop_B32 _ nq G7 _ _ ls rfl (by omega) (hg7) (hq.hole) hW hS (lv_sub hl [1, 2, 0] rfl)
        · skip
          have i_5 : ¬ x_4.toInt = 0 := by have h9 := pz_neq c_5; exact h9
          refine lv_goto (tgt := 89) hx hb dX4_line_24 (by decide) ?_
          obtain ⟨y_37, ey_37⟩ : ∃ y : Int32, y = (nI j) + 1 := ⟨_, rfl⟩
          refine lv_iinc (v := y_37) (lv' := [(1, .int y_37), (0, .ref h0)]) hx hb dX4_line_89 hl (k := 1) rfl (by rw [ey_37]; rfl) (by decide) rfl (fun ls hl => ?_)
          obtain rfl : y_37 = nI (j + 1) := ey_37.trans (nI_1 j)
          have en_38 : (nI (j + 1)).toInt = ((j + 1 : Nat) : Int) := pz_ti (by omega)
          refine lv_goto (tgt := 7) hx hb dX4_line_92 (by decide) ?_
          exact ih_B7 _ (by omega) (j + 1) nq V7 G7 _ _ ls rfl (by omega) (by omega) (hV42) (hv7) (hg7) (hq.up) hW hS (lv_sub hl [1, 0] rfl)
  exact loop_B7 _ 0 0 V_1 G _ _ ls rfl (by omega) (by omega) (hV42) (v2_1) (fun _ _ => rfl) (Qf.zero) hW hS (lv_sub hl [1, 0] rfl)

abbrev B_q_X4_goesOn (dC : Nat → ClassId) (dI : Nat → Nat → Nat) (h0 : Nat) (R : Nat → Nat) (A : Nat → Prop) (V : Nat → Int32) (G : Nat → Nat → Int32) (ns : Nat) (nc : Nat) (dr : Nat → Prop) : Option Value → Heap → Prop := fun v H => ∃ (r : Int32) (V1 : Nat → Int32) (G1 : Nat → Nat → Int32), v = some (.int r) ∧ MI ns nc dr V1 G1 ∧ KV V V1 ∧ Mw dC dI h0 R A V1 G1 H
set_option maxHeartbeats 8000000 in
set_option maxRecDepth 20000 in
theorem q_X4_goesOn (l : Launch) (dC : Nat → ClassId) (dI : Nat → Nat → Nat) (h0 : Nat) (R : Nat → Nat) (A : Nat → Prop) (V : Nat → Int32) (G : Nat → Nat → Int32) (ns : Nat) (nc : Nat) (dr : Nat → Prop) (hM : MI ns nc dr V G) : Met l yX4_goesOn (cws yX4_goesOn cX4_goesOn 4 (some .int)) { frames := 4, cells := 0, slots := 0, locals := 93 } (va_Pc [.ref h0] (fun U => Kt dC dI U ∧ Mw dC dI h0 R A V G U.heap)) (Qg (B_q_X4_goesOn dC dI h0 R A V G ns nc dr) A) 0 0 A := by
  refine m_start (KK := Kt dC dI) (Pw := Mw dC dI h0 R A V G) (by decide) (Nat.le_of_ble_eq_true rfl) ?_
  intro p e s m below meth c ls S hr hlocks hin hK hW hS hl
  obtain ⟨hx, hb, hml, hown, hts⟩ := id S
  have hl : lv_has ls 4 [(0, .ref h0)] := hl
  obtain ⟨⟨hV2, hns⟩, ⟨hV3, hnc⟩, h31, h37, hQ, hZ, hD⟩ := id hM
  have en_s : (nI ns).toInt = ((ns : Nat) : Int) := pz_ti (by omega)
  have en_c : (nI nc).toInt = ((nc : Nat) : Int) := pz_ti (by omega)
  refine lv_aload_n hx hb dX4_goesOn_0 rfl (lv_at hl 0 rfl) ?_
  refine lv_dup hx hb dX4_goesOn_1 rfl ?_
  refine M_g1 S hK hW dX4_goesOn_2 (fun x_1 => ?_)
  refine lv_iconst (v := 1) hx hb dX4_goesOn_5 (by decide) ?_
  refine lv_iadd hx hb dX4_goesOn_6 ?_
  refine lv_topi (fun x_2 _ => ?_)
  refine M_p1 S hK hW hS dX4_goesOn_7 (fun H locs hW hS => ?_)
  refine lv_iconst (v := 0) hx hb dX4_goesOn_10 (by decide) ?_
  refine lv_istore_n (lv' := [(1, .int 0), (0, .ref h0)]) hx hb dX4_goesOn_11 rfl hl (by decide) rfl (fun ls hl => ?_)
  refine lv_iconst (v := 0) hx hb dX4_goesOn_12 (by decide) ?_
  refine lv_istore_n (lv' := [(2, .int 0), (1, .int 0), (0, .ref h0)]) hx hb dX4_goesOn_13 rfl hl (by decide) rfl (fun ls hl => ?_)
  have loop_B14 : ∀ (k9 : Nat) (j : Nat) (n1 : Int32) (V7 : Nat → Int32) (G7 : Nat → Nat → Int32) (H : Heap) (locs : List Loc) (ls : Array Slot), nc - j = k9 → (j ≤ nc) → (MI ns nc dr V7 G7) → (KV V V7) → Mw dC dI h0 R A V7 G7 H → va_S A s.heap H locs → lv_has ls 4 [(0, .ref h0), (1, .int n1), (2, .int (nI j))] → W p l e { frames := 4, cells := 0, slots := 0, locals := 93 } s m ([.ref h0] : List Value).toArray below meth c H locs 0 0 (MQ below (Qg (B_q_X4_goesOn dC dI h0 R A V G ns nc dr) A) ([.ref h0] : List Value).toArray s 0 0 A) (F0 m 14 ls []) := by
    intro k9
    induction k9 using Nat.strongRecOn with
    | ind k9 ih_B14 =>
      intro j n1 V7 G7 H locs ls hm_B14 hle_j hM7 kv7 hW hS hl
      have en_j : (nI j).toInt = ((j : Nat) : Int) := pz_ti (by omega)
      obtain ⟨⟨hV2, -⟩, ⟨hV3, -⟩, -, h37, -⟩ := id hM7
      refine lv_iload_n hx hb dX4_goesOn_14 rfl (lv_at hl 2 rfl) ?_
      refine lv_aload_n hx hb dX4_goesOn_15 rfl (lv_at hl 0 rfl) ?_
      refine M_g3 S hK hW dX4_goesOn_16 (fun x_3 hx_3 => ?_)
      obtain rfl : x_3 = nI nc := hx_3.trans hV3
      refine lv_icmp_ge (tgt := 54) hx hb dX4_goesOn_19 (by decide) (fun c_4 => ?_) (fun c_4 => ?_)
      · skip
        have i_4 : (nI j).toInt ≥ (nI nc).toInt := by have h9 := pz_ge c_4; exact h9
        refine lv_iconst (v := 0) hx hb dX4_goesOn_54 (by decide) ?_
        refine lv_istore_n (lv' := [(2, .int 0), (0, .ref h0), (1, .int n1)]) hx hb dX4_goesOn_55 rfl hl (by decide) rfl (fun ls hl => ?_)
        have loop_B56 : ∀ (k9 : Nat) (j : Nat) (n1 : Int32) (V7 : Nat → Int32) (G7 : Nat → Nat → Int32) (H : Heap) (locs : List Loc) (ls : Array Slot), nc - j = k9 → (j ≤ nc) → (MI ns nc dr V7 G7) → (KV V V7) → Mw dC dI h0 R A V7 G7 H → va_S A s.heap H locs → lv_has ls 4 [(0, .ref h0), (1, .int n1), (2, .int (nI j))] → W p l e { frames := 4, cells := 0, slots := 0, locals := 93 } s m ([.ref h0] : List Value).toArray below meth c H locs 0 0 (MQ below (Qg (B_q_X4_goesOn dC dI h0 R A V G ns nc dr) A) ([.ref h0] : List Value).toArray s 0 0 A) (F0 m 56 ls []) := by
          intro k9
          induction k9 using Nat.strongRecOn with
          | ind k9 ih_B56 =>
            intro j n1 V7 G7 H locs ls hm_B56 hle_j hM7 kv7 hW hS hl
            have en_j : (nI j).toInt = ((j : Nat) : Int) := pz_ti (by omega)
            obtain ⟨⟨hV2, -⟩, ⟨hV3, -⟩, -, h37, -⟩ := id hM7
            refine lv_iload_n hx hb dX4_goesOn_56 rfl (lv_at hl 2 rfl) ?_
            refine lv_aload_n hx hb dX4_goesOn_57 rfl (lv_at hl 0 rfl) ?_
            refine M_g3 S hK hW dX4_goesOn_58 (fun x_5 hx_5 => ?_)
            obtain rfl : x_5 = nI nc := hx_5.trans hV3
            refine lv_icmp_ge (tgt := 86) hx hb dX4_goesOn_61 (by decide) (fun c_6 => ?_) (fun c_6 => ?_)
            · skip
              have i_6 : (nI j).toInt ≥ (nI nc).toInt := by have h9 := pz_ge c_6; exact h9
              refine lv_iconst (v := 0) hx hb dX4_goesOn_86 (by decide) ?_
              refine lv_istore_n (lv' := [(2, .int 0), (0, .ref h0), (1, .int n1)]) hx hb dX4_goesOn_87 rfl hl (by decide) rfl (fun ls hl => ?_)
              have loop_B88 : ∀ (k9 : Nat) (j : Nat) (n1 : Int32) (V7 : Nat → Int32) (G7 : Nat → Nat → Int32) (H : Heap) (locs : List Loc) (ls : Array Slot), ns - j = k9 → (j ≤ ns) → (MI ns nc dr V7 G7) → (KV V V7) → Mw dC dI h0 R A V7 G7 H → va_S A s.heap H locs → lv_has ls 4 [(0, .ref h0), (1, .int n1), (2, .int (nI j))] → W p l e { frames := 4, cells := 0, slots := 0, locals := 93 } s m ([.ref h0] : List Value).toArray below meth c H locs 0 0 (MQ below (Qg (B_q_X4_goesOn dC dI h0 R A V G ns nc dr) A) ([.ref h0] : List Value).toArray s 0 0 A) (F0 m 88 ls []) := by
                intro k9
                induction k9 using Nat.strongRecOn with
                | ind k9 ih_B88 =>
                  intro j n1 V7 G7 H locs ls hm_B88 hle_j hM7 kv7 hW hS hl
                  have en_j : (nI j).toInt = ((j : Nat) : Int) := pz_ti (by omega)
                  obtain ⟨⟨hV2, -⟩, ⟨hV3, -⟩, -, h37, -⟩ := id hM7
                  refine lv_iload_n hx hb dX4_goesOn_88 rfl (lv_at hl 2 rfl) ?_
                  refine lv_aload_n hx hb dX4_goesOn_89 rfl (lv_at hl 0 rfl) ?_
                  refine M_g2 S hK hW dX4_goesOn_90 (fun x_7 hx_7 => ?_)
                  obtain rfl : x_7 = nI ns := hx_7.trans hV2
                  refine lv_icmp_ge (tgt := 132) hx hb dX4_goesOn_93 (by decide) (fun c_8 => ?_) (fun c_8 => ?_)
                  · skip
                    have i_8 : (nI j).toInt ≥ (nI ns).toInt := by have h9 := pz_ge c_8; exact h9
                    refine lv_iconst (v := 0) hx hb dX4_goesOn_132 (by decide) ?_
                    refine lv_istore_n (lv' := [(2, .int 0), (0, .ref h0), (1, .int n1)]) hx hb dX4_goesOn_133 rfl hl (by decide) rfl (fun ls hl => ?_)
                    have loop_B134 : ∀ (k9 : Nat) (j : Nat) (n1 : Int32) (V7 : Nat → Int32) (G7 : Nat → Nat → Int32) (H : Heap) (locs : List Loc) (ls : Array Slot), nc - j = k9 → (j ≤ nc) → (MI ns nc dr V7 G7) → (KV V V7) → Mw dC dI h0 R A V7 G7 H → va_S A s.heap H locs → lv_has ls 4 [(0, .ref h0), (1, .int n1), (2, .int (nI j))] → W p l e { frames := 4, cells := 0, slots := 0, locals := 93 } s m ([.ref h0] : List Value).toArray below meth c H locs 0 0 (MQ below (Qg (B_q_X4_goesOn dC dI h0 R A V G ns nc dr) A) ([.ref h0] : List Value).toArray s 0 0 A) (F0 m 134 ls []) := by
                      intro k9
                      induction k9 using Nat.strongRecOn with
                      | ind k9 ih_B134 =>
                        intro j n1 V7 G7 H locs ls hm_B134 hle_j hM7 kv7 hW hS hl
                        have en_j : (nI j).toInt = ((j : Nat) : Int) := pz_ti (by omega)
                        obtain ⟨⟨hV2, -⟩, ⟨hV3, -⟩, -, h37, -⟩ := id hM7
                        refine lv_iload_n hx hb dX4_goesOn_134 rfl (lv_at hl 2 rfl) ?_
                        refine lv_aload_n hx hb dX4_goesOn_135 rfl (lv_at hl 0 rfl) ?_
                        refine M_g3 S hK hW dX4_goesOn_136 (fun x_9 hx_9 => ?_)
                        obtain rfl : x_9 = nI nc := hx_9.trans hV3
                        refine lv_icmp_ge (tgt := 160) hx hb dX4_goesOn_139 (by decide) (fun c_10 => ?_) (fun c_10 => ?_)
                        · skip
                          have i_10 : (nI j).toInt ≥ (nI nc).toInt := by have h9 := pz_ge c_10; exact h9
                          refine lv_aload_n hx hb dX4_goesOn_160 rfl (lv_at hl 0 rfl) ?_
                          refine c_v (n := 0) (As := []) (rest := []) S (q_X4_line l dC dI h0 R A V7 G7 nc hV3 (by omega)) iw_919 iw_916 iw_918 iw_53 iw_61 (by decide +kernel) rfl ⟨rfl, rfl, Nat.le_of_ble_eq_true rfl, Nat.le_of_ble_eq_true rfl⟩ Kt.blind (M_recv hK hW) hK.at hW hl.1 rfl (Nat.le_of_ble_eq_true rfl) dX4_goesOn_161 ⟨Nat.le_refl _, Nat.le_refl _⟩ hS (fun _ h9 => h9) (fun v9 H locs hB hz9 hk9 hS => ?_)
                          refine W.widen (k := 0) (n := 0) (Nat.le_refl 0) (Nat.le_refl 0) ?_
                          obtain ⟨V_11, G_11, nq, rfl, ⟨hV42, hnq, lv_11, lg_11, lq_11⟩, hW⟩ := hB
                          refine W.eq (g2 := F0 m 164 ls []) rfl ?_
                          have hM_11 : MI ns nc dr V_11 G_11 := (hM7.V (V1 := V_11) (lv_11 2 (by decide)) (lv_11 3 (by decide))).q lg_11
                          have kv_11 : KV V7 V_11 := fun i h1 h2 => lv_11 i (by omega)
                          have en_nq : (nI nq).toInt = ((nq : Nat) : Int) := pz_ti (by omega)
                          obtain ⟨⟨hV2, -⟩, ⟨hV3, -⟩, -⟩ := id hM_11
                          refine lv_iconst (v := 0) hx hb dX4_goesOn_164 (by decide) ?_
                          refine lv_istore_n (lv' := [(2, .int 0), (0, .ref h0), (1, .int n1)]) hx hb dX4_goesOn_165 rfl hl (by decide) rfl (fun ls hl => ?_)
                          have loop_B166 : ∀ (k9 : Nat) (j : Nat) (n1 : Int32) (nq : Nat) (V7 : Nat → Int32) (G7 : Nat → Nat → Int32) (H : Heap) (locs : List Loc) (ls : Array Slot), nq - j = k9 → (j ≤ nq) → (MI ns nc dr V7 G7) → (KV V V7) → (nq ≤ nc) → (V7 42 = nI nq) → (Qr nc j nq (G7 30) (G7 41)) → Mw dC dI h0 R A V7 G7 H → va_S A s.heap H locs → lv_has ls 4 [(0, .ref h0), (1, .int n1), (2, .int (nI j))] → W p l e { frames := 4, cells := 0, slots := 0, locals := 93 } s m ([.ref h0] : List Value).toArray below meth c H locs 0 0 (MQ below (Qg (B_q_X4_goesOn dC dI h0 R A V G ns nc dr) A) ([.ref h0] : List Value).toArray s 0 0 A) (F0 m 166 ls []) := by
                            intro k9
                            induction k9 using Nat.strongRecOn with
                            | ind k9 ih_B166 =>
                              intro j n1 nq V7 G7 H locs ls hm_B166 hle_j hM7 kv7 hnq hV42 hqr hW hS hl
                              have en_j : (nI j).toInt = ((j : Nat) : Int) := pz_ti (by omega)
                              obtain ⟨⟨hV2, -⟩, ⟨hV3, -⟩, -, h37, -⟩ := id hM7
                              have en_nq : (nI nq).toInt = ((nq : Nat) : Int) := pz_ti (by omega)
                              refine lv_iload_n hx hb dX4_goesOn_166 rfl (lv_at hl 2 rfl) ?_
                              refine lv_aload_n hx hb dX4_goesOn_167 rfl (lv_at hl 0 rfl) ?_
                              refine M_g42 S hK hW dX4_goesOn_168 (fun x_12 hx_12 => ?_)
                              obtain rfl : x_12 = nI nq := hx_12.trans hV42
                              refine lv_icmp_ge (tgt := 191) hx hb dX4_goesOn_171 (by decide) (fun c_13 => ?_) (fun c_13 => ?_)
                              · skip
                                have i_13 : (nI j).toInt ≥ (nI nq).toInt := by have h9 := pz_ge c_13; exact h9
                                refine lv_iconst (v := 0) hx hb dX4_goesOn_191 (by decide) ?_
                                refine lv_istore_n (lv' := [(2, .int 0), (0, .ref h0), (1, .int n1)]) hx hb dX4_goesOn_192 rfl hl (by decide) rfl (fun ls hl => ?_)
                                have loop_B193 : ∀ (k9 : Nat) (j : Nat) (n1 : Int32) (V7 : Nat → Int32) (G7 : Nat → Nat → Int32) (H : Heap) (locs : List Loc) (ls : Array Slot), ns - j = k9 → (j ≤ ns) → (MI ns nc dr V7 G7) → (KV V V7) → Mw dC dI h0 R A V7 G7 H → va_S A s.heap H locs → lv_has ls 4 [(0, .ref h0), (1, .int n1), (2, .int (nI j))] → W p l e { frames := 4, cells := 0, slots := 0, locals := 93 } s m ([.ref h0] : List Value).toArray below meth c H locs 0 0 (MQ below (Qg (B_q_X4_goesOn dC dI h0 R A V G ns nc dr) A) ([.ref h0] : List Value).toArray s 0 0 A) (F0 m 193 ls []) := by
                                  intro k9
                                  induction k9 using Nat.strongRecOn with
                                  | ind k9 ih_B193 =>
                                    intro j n1 V7 G7 H locs ls hm_B193 hle_j hM7 kv7 hW hS hl
                                    have en_j : (nI j).toInt = ((j : Nat) : Int) := pz_ti (by omega)
                                    obtain ⟨⟨hV2, -⟩, ⟨hV3, -⟩, -, h37, -⟩ := id hM7
                                    refine lv_iload_n hx hb dX4_goesOn_193 rfl (lv_at hl 2 rfl) ?_
                                    refine lv_aload_n hx hb dX4_goesOn_194 rfl (lv_at hl 0 rfl) ?_
                                    refine M_g2 S hK hW dX4_goesOn_195 (fun x_14 hx_14 => ?_)
                                    obtain rfl : x_14 = nI ns := hx_14.trans hV2
                                    refine lv_icmp_ge (tgt := 233) hx hb dX4_goesOn_198 (by decide) (fun c_15 => ?_) (fun c_15 => ?_)
                                    · skip
                                      have i_15 : (nI j).toInt ≥ (nI ns).toInt := by have h9 := pz_ge c_15; exact h9
                                      refine lv_iload_n hx hb dX4_goesOn_233 rfl (lv_at hl 1 rfl) ?_
                                      exact r_i (v := n1) hx hb hr hlocks hS dX4_goesOn_234 (⟨_, _, _, rfl, hM7, kv7, hW⟩)
                                    · skip
                                      have i_15 : (nI j).toInt < (nI ns).toInt := by have h9 := pz_nge c_15; exact h9
                                      refine lv_aload_n hx hb dX4_goesOn_201 rfl (lv_at hl 0 rfl) ?_
                                      refine M_g17 S hK hW dX4_goesOn_202 ?_
                                      refine lv_iload_n hx hb dX4_goesOn_205 rfl (lv_at hl 2 rfl) ?_
                                      refine mw_ld S hK hW 17 rfl rfl (pz_vi (n := mN 17) (by rw [show mN 17 = 8 from rfl]; omega) (by decide)) dX4_goesOn_206 (fun x_16 hx_16 => ?_)
                                      replace hx_16 : x_16 = G7 17 j := (hx_16 rfl).trans (congrArg _ (pz_cl (by omega)))
                                      refine lv_iconst (v := 3) hx hb dX4_goesOn_207 (by decide) ?_
                                      refine lv_icmp_ne (tgt := 227) hx hb dX4_goesOn_208 (by decide) (fun c_17 => ?_) (fun c_17 => ?_)
                                      · skip
                                        have i_17 : ¬ x_16.toInt = 3 := by have h9 := pz_neq c_17; exact h9
                                        obtain ⟨y_18, ey_18⟩ : ∃ y : Int32, y = (nI j) + 1 := ⟨_, rfl⟩
                                        refine lv_iinc (v := y_18) (lv' := [(2, .int y_18), (0, .ref h0), (1, .int n1)]) hx hb dX4_goesOn_227 hl (k := 2) rfl (by rw [ey_18]; rfl) (by decide) rfl (fun ls hl => ?_)
                                        obtain rfl : y_18 = nI (j + 1) := ey_18.trans (nI_1 j)
                                        have en_19 : (nI (j + 1)).toInt = ((j + 1 : Nat) : Int) := pz_ti (by omega)
                                        refine lv_goto (tgt := 193) hx hb dX4_goesOn_230 (by decide) ?_
                                        exact ih_B193 _ (by omega) (j + 1) n1 V7 G7 _ _ ls rfl (by omega) (hM7) (kv7) hW hS (lv_sub hl [1, 2, 0] rfl)
                                      · skip
                                        have i_17 : x_16.toInt = 3 := by have h9 := pz_eq c_17; exact h9
                                        have hnd : gDr (G7 17 j) := Or.inl (hx_16.symm.trans c_17)
                                        refine lv_aload_n hx hb dX4_goesOn_211 rfl (lv_at hl 0 rfl) ?_
                                        refine M_g18 S hK hW dX4_goesOn_212 ?_
                                        refine lv_iload_n hx hb dX4_goesOn_215 rfl (lv_at hl 2 rfl) ?_
                                        refine mw_ld S hK hW 18 rfl rfl (pz_vi (n := mN 18) (by rw [show mN 18 = 8 from rfl]; omega) (by decide)) dX4_goesOn_216 (fun x_20 hx_20 => ?_)
                                        refine lv_if_ne (tgt := 227) hx hb dX4_goesOn_217 (by decide) (fun c_21 => ?_) (fun c_21 => ?_)
                                        · skip
                                          have i_21 : ¬ x_20.toInt = 0 := by have h9 := pz_neq c_21; exact h9
                                          obtain ⟨y_22, ey_22⟩ : ∃ y : Int32, y = (nI j) + 1 := ⟨_, rfl⟩
                                          refine lv_iinc (v := y_22) (lv' := [(2, .int y_22), (0, .ref h0), (1, .int n1)]) hx hb dX4_goesOn_227 hl (k := 2) rfl (by rw [ey_22]; rfl) (by decide) rfl (fun ls hl => ?_)
                                          obtain rfl : y_22 = nI (j + 1) := ey_22.trans (nI_1 j)
                                          have en_23 : (nI (j + 1)).toInt = ((j + 1 : Nat) : Int) := pz_ti (by omega)
                                          refine lv_goto (tgt := 193) hx hb dX4_goesOn_230 (by decide) ?_
                                          exact ih_B193 _ (by omega) (j + 1) n1 V7 G7 _ _ ls rfl (by omega) (hM7) (kv7) hW hS (lv_sub hl [1, 2, 0] rfl)
                                        · skip
                                          have i_21 : x_20.toInt = 0 := by have h9 := pz_eq c_21; exact h9
                                          refine lv_aload_n hx hb dX4_goesOn_220 rfl (lv_at hl 0 rfl) ?_
                                          refine M_g17 S hK hW dX4_goesOn_221 ?_
                                          refine lv_iload_n hx hb dX4_goesOn_224 rfl (lv_at hl 2 rfl) ?_
                                          refine lv_iconst (v := 4) hx hb dX4_goesOn_225 (by decide) ?_
                                          refine mw_st S hK hW hS 17 rfl rfl (pz_vi (n := mN 17) (by rw [show mN 17 = 8 from rfl]; omega) (by decide)) dX4_goesOn_226 (fun H locs G_24 g1_24 g2_24 hW hS => ?_)
                                          rw [pz_cl (by omega)] at g1_24
                                          have hM_24 : MI ns nc dr V7 G_24 := hM7.h g2_24 (fun k => by rw [g1_24]; exact gDr_upd2 hnd (by unfold gDr; decide) k)
                                          obtain ⟨y_25, ey_25⟩ : ∃ y : Int32, y = (nI j) + 1 := ⟨_, rfl⟩
                                          refine lv_iinc (v := y_25) (lv' := [(2, .int y_25), (0, .ref h0), (1, .int n1)]) hx hb dX4_goesOn_227 hl (k := 2) rfl (by rw [ey_25]; rfl) (by decide) rfl (fun ls hl => ?_)
                                          obtain rfl : y_25 = nI (j + 1) := ey_25.trans (nI_1 j)
                                          have en_26 : (nI (j + 1)).toInt = ((j + 1 : Nat) : Int) := pz_ti (by omega)
                                          refine lv_goto (tgt := 193) hx hb dX4_goesOn_230 (by decide) ?_
                                          exact ih_B193 _ (by omega) (j + 1) n1 V7 G_24 _ _ ls rfl (by omega) (hM_24) (kv7) hW hS (lv_sub hl [1, 2, 0] rfl)
                                exact loop_B193 _ 0 n1 V7 G7 _ _ ls rfl (by omega) (hM7) (kv7) hW hS (lv_sub hl [1, 2, 0] rfl)
                              · skip
                                have i_13 : (nI j).toInt < (nI nq).toInt := by have h9 := pz_nge c_13; exact h9
                                refine lv_aload_n hx hb dX4_goesOn_174 rfl (lv_at hl 0 rfl) ?_
                                refine lv_aload_n hx hb dX4_goesOn_175 rfl (lv_at hl 0 rfl) ?_
                                refine M_g41 S hK hW dX4_goesOn_176 ?_
                                refine lv_iload_n hx hb dX4_goesOn_179 rfl (lv_at hl 2 rfl) ?_
                                refine mw_ld S hK hW 41 rfl rfl (pz_vi (n := mN 41) (by rw [show mN 41 = 200 from rfl]; omega) (by decide)) dX4_goesOn_180 (fun x_27 hx_27 => ?_)
                                replace hx_27 : x_27 = G7 41 j := (hx_27 rfl).trans (congrArg _ (pz_cl (by omega)))
                                obtain ⟨a_28, ha_28, ea_28, es_28⟩ := hqr.1 j (Nat.le_refl _) (by omega)
                                obtain rfl : x_27 = nI a_28 := hx_27.trans ea_28
                                have en_29 : (nI a_28).toInt = ((a_28 : Nat) : Int) := pz_ti (by omega)
                                refine c_v (n := 1) (As := [.int (nI a_28)]) (rest := []) S (q_X4_asksFor l dC dI h0 R A V7 G7 ns a_28 hV2 (by omega) (by omega) (hM7.2.2.2.2.1 a_28 (by omega) es_28) h37) iw_833 iw_830 iw_832 iw_35 iw_61 (by decide +kernel) rfl ⟨rfl, rfl, Nat.le_of_ble_eq_true rfl, Nat.le_of_ble_eq_true rfl⟩ Kt.blind (M_recv hK hW) hK.at hW hl.1 rfl (Nat.le_of_ble_eq_true rfl) dX4_goesOn_181 ⟨Nat.le_refl _, Nat.le_refl _⟩ hS (fun _ h9 => h9) (fun v9 H locs hB hz9 hk9 hS => ?_)
                                refine W.widen (k := 0) (n := 0) (Nat.le_refl 0) (Nat.le_refl 0) ?_
                                obtain ⟨r_30, G_30, rfl, ha_30, hW⟩ := hB
                                refine W.eq (g2 := F0 m 184 ls [.int r_30]) rfl ?_
                                have hM_30 : MI ns nc dr V7 G_30 := hM7.ask ha_28 ha_30
                                have hqr2 : Qr nc (j + 1) nq (G_30 30) (G_30 41) := by rw [ha_30.2.2.2.2.2.2]; exact hqr.next (by omega) ea_28 ha_30.1
                                refine lv_istore_n (lv' := [(3, .int r_30), (0, .ref h0), (1, .int n1), (2, .int (nI j))]) hx hb dX4_goesOn_184 rfl hl (by decide) rfl (fun ls hl => ?_)
                                obtain ⟨y_31, ey_31⟩ : ∃ y : Int32, y = (nI j) + 1 := ⟨_, rfl⟩
                                refine lv_iinc (v := y_31) (lv' := [(2, .int y_31), (3, .int r_30), (0, .ref h0), (1, .int n1)]) hx hb dX4_goesOn_185 hl (k := 3) rfl (by rw [ey_31]; rfl) (by decide) rfl (fun ls hl => ?_)
                                obtain rfl : y_31 = nI (j + 1) := ey_31.trans (nI_1 j)
                                have en_32 : (nI (j + 1)).toInt = ((j + 1 : Nat) : Int) := pz_ti (by omega)
                                refine lv_goto (tgt := 166) hx hb dX4_goesOn_188 (by decide) ?_
                                exact ih_B166 _ (by omega) (j + 1) n1 nq V7 G_30 _ _ ls rfl (by omega) (hM_30) (kv7) (hnq) (hV42) (hqr2) hW hS (lv_sub hl [2, 3, 0] rfl)
                          exact loop_B166 _ 0 n1 nq V_11 G_11 _ _ ls rfl (by omega) (hM_11) ((kv7.tr kv_11)) (hnq) (hV42) (⟨fun t _ h9 => by rw [lg_11 30 (by decide)]; exact lq_11.1 t h9, lq_11.2⟩) hW hS (lv_sub hl [1, 2, 0] rfl)
                        · skip
                          have i_10 : (nI j).toInt < (nI nc).toInt := by have h9 := pz_nge c_10; exact h9
                          refine lv_aload_n hx hb dX4_goesOn_142 rfl (lv_at hl 0 rfl) ?_
                          refine M_g7 S hK hW dX4_goesOn_143 (fun x_33 hx_33 => ?_)
                          refine lv_if_le (tgt := 160) hx hb dX4_goesOn_146 (by decide) (fun c_34 => ?_) (fun c_34 => ?_)
                          · skip
                            have i_34 : x_33.toInt ≤ 0 := by have h9 := pz_le c_34; exact h9
                            refine lv_aload_n hx hb dX4_goesOn_160 rfl (lv_at hl 0 rfl) ?_
                            refine c_v (n := 0) (As := []) (rest := []) S (q_X4_line l dC dI h0 R A V7 G7 nc hV3 (by omega)) iw_919 iw_916 iw_918 iw_53 iw_61 (by decide +kernel) rfl ⟨rfl, rfl, Nat.le_of_ble_eq_true rfl, Nat.le_of_ble_eq_true rfl⟩ Kt.blind (M_recv hK hW) hK.at hW hl.1 rfl (Nat.le_of_ble_eq_true rfl) dX4_goesOn_161 ⟨Nat.le_refl _, Nat.le_refl _⟩ hS (fun _ h9 => h9) (fun v9 H locs hB hz9 hk9 hS => ?_)
                            refine W.widen (k := 0) (n := 0) (Nat.le_refl 0) (Nat.le_refl 0) ?_
                            obtain ⟨V_35, G_35, nq, rfl, ⟨hV42, hnq, lv_35, lg_35, lq_35⟩, hW⟩ := hB
                            refine W.eq (g2 := F0 m 164 ls []) rfl ?_
                            have hM_35 : MI ns nc dr V_35 G_35 := (hM7.V (V1 := V_35) (lv_35 2 (by decide)) (lv_35 3 (by decide))).q lg_35
                            have kv_35 : KV V7 V_35 := fun i h1 h2 => lv_35 i (by omega)
                            have en_nq : (nI nq).toInt = ((nq : Nat) : Int) := pz_ti (by omega)
                            obtain ⟨⟨hV2, -⟩, ⟨hV3, -⟩, -⟩ := id hM_35
                            refine lv_iconst (v := 0) hx hb dX4_goesOn_164 (by decide) ?_
                            refine lv_istore_n (lv' := [(2, .int 0), (0, .ref h0), (1, .int n1)]) hx hb dX4_goesOn_165 rfl hl (by decide) rfl (fun ls hl => ?_)
                            have loop_B166 : ∀ (k9 : Nat) (j : Nat) (n1 : Int32) (nq : Nat) (V7 : Nat → Int32) (G7 : Nat → Nat → Int32) (H : Heap) (locs : List Loc) (ls : Array Slot), nq - j = k9 → (j ≤ nq) → (MI ns nc dr V7 G7) → (KV V V7) → (nq ≤ nc) → (V7 42 = nI nq) → (Qr nc j nq (G7 30) (G7 41)) → Mw dC dI h0 R A V7 G7 H → va_S A s.heap H locs → lv_has ls 4 [(0, .ref h0), (1, .int n1), (2, .int (nI j))] → W p l e { frames := 4, cells := 0, slots := 0, locals := 93 } s m ([.ref h0] : List Value).toArray below meth c H locs 0 0 (MQ below (Qg (B_q_X4_goesOn dC dI h0 R A V G ns nc dr) A) ([.ref h0] : List Value).toArray s 0 0 A) (F0 m 166 ls []) := by
                              intro k9
                              induction k9 using Nat.strongRecOn with
                              | ind k9 ih_B166 =>
                                intro j n1 nq V7 G7 H locs ls hm_B166 hle_j hM7 kv7 hnq hV42 hqr hW hS hl
                                have en_j : (nI j).toInt = ((j : Nat) : Int) := pz_ti (by omega)
                                obtain ⟨⟨hV2, -⟩, ⟨hV3, -⟩, -, h37, -⟩ := id hM7
                                have en_nq : (nI nq).toInt = ((nq : Nat) : Int) := pz_ti (by omega)
                                refine lv_iload_n hx hb dX4_goesOn_166 rfl (lv_at hl 2 rfl) ?_
                                refine lv_aload_n hx hb dX4_goesOn_167 rfl (lv_at hl 0 rfl) ?_
                                refine M_g42 S hK hW dX4_goesOn_168 (fun x_36 hx_36 => ?_)
                                obtain rfl : x_36 = nI nq := hx_36.trans hV42
                                refine lv_icmp_ge (tgt := 191) hx hb dX4_goesOn_171 (by decide) (fun c_37 => ?_) (fun c_37 => ?_)
                                · skip
                                  have i_37 : (nI j).toInt ≥ (nI nq).toInt := by have h9 := pz_ge c_37; exact h9
                                  refine lv_iconst (v := 0) hx hb dX4_goesOn_191 (by decide) ?_
                                  refine lv_istore_n (lv' := [(2, .int 0), (0, .ref h0), (1, .int n1)]) hx hb dX4_goesOn_192 rfl hl (by decide) rfl (fun ls hl => ?_)
                                  have loop_B193 : ∀ (k9 : Nat) (j : Nat) (n1 : Int32) (V7 : Nat → Int32) (G7 : Nat → Nat → Int32) (H : Heap) (locs : List Loc) (ls : Array Slot), ns - j = k9 → (j ≤ ns) → (MI ns nc dr V7 G7) → (KV V V7) → Mw dC dI h0 R A V7 G7 H → va_S A s.heap H locs → lv_has ls 4 [(0, .ref h0), (1, .int n1), (2, .int (nI j))] → W p l e { frames := 4, cells := 0, slots := 0, locals := 93 } s m ([.ref h0] : List Value).toArray below meth c H locs 0 0 (MQ below (Qg (B_q_X4_goesOn dC dI h0 R A V G ns nc dr) A) ([.ref h0] : List Value).toArray s 0 0 A) (F0 m 193 ls []) := by
                                    intro k9
                                    induction k9 using Nat.strongRecOn with
                                    | ind k9 ih_B193 =>
                                      intro j n1 V7 G7 H locs ls hm_B193 hle_j hM7 kv7 hW hS hl
                                      have en_j : (nI j).toInt = ((j : Nat) : Int) := pz_ti (by omega)
                                      obtain ⟨⟨hV2, -⟩, ⟨hV3, -⟩, -, h37, -⟩ := id hM7
                                      refine lv_iload_n hx hb dX4_goesOn_193 rfl (lv_at hl 2 rfl) ?_
                                      refine lv_aload_n hx hb dX4_goesOn_194 rfl (lv_at hl 0 rfl) ?_
                                      refine M_g2 S hK hW dX4_goesOn_195 (fun x_38 hx_38 => ?_)
                                      obtain rfl : x_38 = nI ns := hx_38.trans hV2
                                      refine lv_icmp_ge (tgt := 233) hx hb dX4_goesOn_198 (by decide) (fun c_39 => ?_) (fun c_39 => ?_)
                                      · skip
                                        have i_39 : (nI j).toInt ≥ (nI ns).toInt := by have h9 := pz_ge c_39; exact h9
                                        refine lv_iload_n hx hb dX4_goesOn_233 rfl (lv_at hl 1 rfl) ?_
                                        exact r_i (v := n1) hx hb hr hlocks hS dX4_goesOn_234 (⟨_, _, _, rfl, hM7, kv7, hW⟩)
                                      · skip
                                        have i_39 : (nI j).toInt < (nI ns).toInt := by have h9 := pz_nge c_39; exact h9
                                        refine lv_aload_n hx hb dX4_goesOn_201 rfl (lv_at hl 0 rfl) ?_
                                        refine M_g17 S hK hW dX4_goesOn_202 ?_
                                        refine lv_iload_n hx hb dX4_goesOn_205 rfl (lv_at hl 2 rfl) ?_
                                        refine mw_ld S hK hW 17 rfl rfl (pz_vi (n := mN 17) (by rw [show mN 17 = 8 from rfl]; omega) (by decide)) dX4_goesOn_206 (fun x_40 hx_40 => ?_)
                                        replace hx_40 : x_40 = G7 17 j := (hx_40 rfl).trans (congrArg _ (pz_cl (by omega)))
                                        refine lv_iconst (v := 3) hx hb dX4_goesOn_207 (by decide) ?_
                                        refine lv_icmp_ne (tgt := 227) hx hb dX4_goesOn_208 (by decide) (fun c_41 => ?_) (fun c_41 => ?_)
                                        · skip
                                          have i_41 : ¬ x_40.toInt = 3 := by have h9 := pz_neq c_41; exact h9
                                          obtain ⟨y_42, ey_42⟩ : ∃ y : Int32, y = (nI j) + 1 := ⟨_, rfl⟩
                                          refine lv_iinc (v := y_42) (lv' := [(2, .int y_42), (0, .ref h0), (1, .int n1)]) hx hb dX4_goesOn_227 hl (k := 2) rfl (by rw [ey_42]; rfl) (by decide) rfl (fun ls hl => ?_)
                                          obtain rfl : y_42 = nI (j + 1) := ey_42.trans (nI_1 j)
                                          have en_43 : (nI (j + 1)).toInt = ((j + 1 : Nat) : Int) := pz_ti (by omega)
                                          refine lv_goto (tgt := 193) hx hb dX4_goesOn_230 (by decide) ?_
                                          exact ih_B193 _ (by omega) (j + 1) n1 V7 G7 _ _ ls rfl (by omega) (hM7) (kv7) hW hS (lv_sub hl [1, 2, 0] rfl)
                                        · skip
                                          have i_41 : x_40.toInt = 3 := by have h9 := pz_eq c_41; exact h9
                                          have hnd : gDr (G7 17 j) := Or.inl (hx_40.symm.trans c_41)
                                          refine lv_aload_n hx hb dX4_goesOn_211 rfl (lv_at hl 0 rfl) ?_
                                          refine M_g18 S hK hW dX4_goesOn_212 ?_
                                          refine lv_iload_n hx hb dX4_goesOn_215 rfl (lv_at hl 2 rfl) ?_
                                          refine mw_ld S hK hW 18 rfl rfl (pz_vi (n := mN 18) (by rw [show mN 18 = 8 from rfl]; omega) (by decide)) dX4_goesOn_216 (fun x_44 hx_44 => ?_)
                                          refine lv_if_ne (tgt := 227) hx hb dX4_goesOn_217 (by decide) (fun c_45 => ?_) (fun c_45 => ?_)
                                          · skip
                                            have i_45 : ¬ x_44.toInt = 0 := by have h9 := pz_neq c_45; exact h9
                                            obtain ⟨y_46, ey_46⟩ : ∃ y : Int32, y = (nI j) + 1 := ⟨_, rfl⟩
                                            refine lv_iinc (v := y_46) (lv' := [(2, .int y_46), (0, .ref h0), (1, .int n1)]) hx hb dX4_goesOn_227 hl (k := 2) rfl (by rw [ey_46]; rfl) (by decide) rfl (fun ls hl => ?_)
                                            obtain rfl : y_46 = nI (j + 1) := ey_46.trans (nI_1 j)
                                            have en_47 : (nI (j + 1)).toInt = ((j + 1 : Nat) : Int) := pz_ti (by omega)
                                            refine lv_goto (tgt := 193) hx hb dX4_goesOn_230 (by decide) ?_
                                            exact ih_B193 _ (by omega) (j + 1) n1 V7 G7 _ _ ls rfl (by omega) (hM7) (kv7) hW hS (lv_sub hl [1, 2, 0] rfl)
                                          · skip
                                            have i_45 : x_44.toInt = 0 := by have h9 := pz_eq c_45; exact h9
                                            refine lv_aload_n hx hb dX4_goesOn_220 rfl (lv_at hl 0 rfl) ?_
                                            refine M_g17 S hK hW dX4_goesOn_221 ?_
                                            refine lv_iload_n hx hb dX4_goesOn_224 rfl (lv_at hl 2 rfl) ?_
                                            refine lv_iconst (v := 4) hx hb dX4_goesOn_225 (by decide) ?_
                                            refine mw_st S hK hW hS 17 rfl rfl (pz_vi (n := mN 17) (by rw [show mN 17 = 8 from rfl]; omega) (by decide)) dX4_goesOn_226 (fun H locs G_48 g1_48 g2_48 hW hS => ?_)
                                            rw [pz_cl (by omega)] at g1_48
                                            have hM_48 : MI ns nc dr V7 G_48 := hM7.h g2_48 (fun k => by rw [g1_48]; exact gDr_upd2 hnd (by unfold gDr; decide) k)
                                            obtain ⟨y_49, ey_49⟩ : ∃ y : Int32, y = (nI j) + 1 := ⟨_, rfl⟩
                                            refine lv_iinc (v := y_49) (lv' := [(2, .int y_49), (0, .ref h0), (1, .int n1)]) hx hb dX4_goesOn_227 hl (k := 2) rfl (by rw [ey_49]; rfl) (by decide) rfl (fun ls hl => ?_)
                                            obtain rfl : y_49 = nI (j + 1) := ey_49.trans (nI_1 j)
                                            have en_50 : (nI (j + 1)).toInt = ((j + 1 : Nat) : Int) := pz_ti (by omega)
                                            refine lv_goto (tgt := 193) hx hb dX4_goesOn_230 (by decide) ?_
                                            exact ih_B193 _ (by omega) (j + 1) n1 V7 G_48 _ _ ls rfl (by omega) (hM_48) (kv7) hW hS (lv_sub hl [1, 2, 0] rfl)
                                  exact loop_B193 _ 0 n1 V7 G7 _ _ ls rfl (by omega) (hM7) (kv7) hW hS (lv_sub hl [1, 2, 0] rfl)
                                · skip
                                  have i_37 : (nI j).toInt < (nI nq).toInt := by have h9 := pz_nge c_37; exact h9
                                  refine lv_aload_n hx hb dX4_goesOn_174 rfl (lv_at hl 0 rfl) ?_
                                  refine lv_aload_n hx hb dX4_goesOn_175 rfl (lv_at hl 0 rfl) ?_
                                  refine M_g41 S hK hW dX4_goesOn_176 ?_
                                  refine lv_iload_n hx hb dX4_goesOn_179 rfl (lv_at hl 2 rfl) ?_
                                  refine mw_ld S hK hW 41 rfl rfl (pz_vi (n := mN 41) (by rw [show mN 41 = 200 from rfl]; omega) (by decide)) dX4_goesOn_180 (fun x_51 hx_51 => ?_)
                                  replace hx_51 : x_51 = G7 41 j := (hx_51 rfl).trans (congrArg _ (pz_cl (by omega)))
                                  obtain ⟨a_52, ha_52, ea_52, es_52⟩ := hqr.1 j (Nat.le_refl _) (by omega)
                                  obtain rfl : x_51 = nI a_52 := hx_51.trans ea_52
                                  have en_53 : (nI a_52).toInt = ((a_52 : Nat) : Int) := pz_ti (by omega)
                                  refine c_v (n := 1) (As := [.int (nI a_52)]) (rest := []) S (q_X4_asksFor l dC dI h0 R A V7 G7 ns a_52 hV2 (by omega) (by omega) (hM7.2.2.2.2.1 a_52 (by omega) es_52) h37) iw_833 iw_830 iw_832 iw_35 iw_61 (by decide +kernel) rfl ⟨rfl, rfl, Nat.le_of_ble_eq_true rfl, Nat.le_of_ble_eq_true rfl⟩ Kt.blind (M_recv hK hW) hK.at hW hl.1 rfl (Nat.le_of_ble_eq_true rfl) dX4_goesOn_181 ⟨Nat.le_refl _, Nat.le_refl _⟩ hS (fun _ h9 => h9) (fun v9 H locs hB hz9 hk9 hS => ?_)
                                  refine W.widen (k := 0) (n := 0) (Nat.le_refl 0) (Nat.le_refl 0) ?_
                                  obtain ⟨r_54, G_54, rfl, ha_54, hW⟩ := hB
                                  refine W.eq (g2 := F0 m 184 ls [.int r_54]) rfl ?_
                                  have hM_54 : MI ns nc dr V7 G_54 := hM7.ask ha_52 ha_54
                                  have hqr2 : Qr nc (j + 1) nq (G_54 30) (G_54 41) := by rw [ha_54.2.2.2.2.2.2]; exact hqr.next (by omega) ea_52 ha_54.1
                                  refine lv_istore_n (lv' := [(3, .int r_54), (0, .ref h0), (1, .int n1), (2, .int (nI j))]) hx hb dX4_goesOn_184 rfl hl (by decide) rfl (fun ls hl => ?_)
                                  obtain ⟨y_55, ey_55⟩ : ∃ y : Int32, y = (nI j) + 1 := ⟨_, rfl⟩
                                  refine lv_iinc (v := y_55) (lv' := [(2, .int y_55), (3, .int r_54), (0, .ref h0), (1, .int n1)]) hx hb dX4_goesOn_185 hl (k := 3) rfl (by rw [ey_55]; rfl) (by decide) rfl (fun ls hl => ?_)
                                  obtain rfl : y_55 = nI (j + 1) := ey_55.trans (nI_1 j)
                                  have en_56 : (nI (j + 1)).toInt = ((j + 1 : Nat) : Int) := pz_ti (by omega)
                                  refine lv_goto (tgt := 166) hx hb dX4_goesOn_188 (by decide) ?_
                                  exact ih_B166 _ (by omega) (j + 1) n1 nq V7 G_54 _ _ ls rfl (by omega) (hM_54) (kv7) (hnq) (hV42) (hqr2) hW hS (lv_sub hl [2, 3, 0] rfl)
                            exact loop_B166 _ 0 n1 nq V_35 G_35 _ _ ls rfl (by omega) (hM_35) ((kv7.tr kv_35)) (hnq) (hV42) (⟨fun t _ h9 => by rw [lg_35 30 (by decide)]; exact lq_35.1 t h9, lq_35.2⟩) hW hS (lv_sub hl [1, 2, 0] rfl)
                          · skip
                            have i_34 : x_33.toInt > 0 := by have h9 := pz_nle c_34; exact h9
                            refine lv_aload_n hx hb dX4_goesOn_149 rfl (lv_at hl 0 rfl) ?_
                            refine lv_iload_n hx hb dX4_goesOn_150 rfl (lv_at hl 2 rfl) ?_
                            refine c_v (n := 1) (As := [.int (nI j)]) (rest := []) S (q_X4_hedges l dC dI h0 R A V7 G7 ns nc dr j hM7 (by omega)) iw_915 iw_912 iw_914 iw_52 iw_61 (by decide +kernel) rfl ⟨rfl, rfl, Nat.le_of_ble_eq_true rfl, Nat.le_of_ble_eq_true rfl⟩ Kt.blind (M_recv hK hW) hK.at hW hl.1 rfl (Nat.le_of_ble_eq_true rfl) dX4_goesOn_151 ⟨Nat.le_refl _, Nat.le_refl _⟩ hS (fun _ h9 => h9) (fun v9 H locs hB hz9 hk9 hS => ?_)
                            refine W.widen (k := 0) (n := 0) (Nat.le_refl 0) (Nat.le_refl 0) ?_
                            obtain ⟨V_57, G_57, rfl, hM_57, kv_57, hW⟩ := hB
                            refine W.eq (g2 := F0 m 154 ls []) rfl ?_
                            obtain ⟨⟨hV2, -⟩, ⟨hV3, -⟩, -⟩ := id hM_57
                            obtain ⟨y_58, ey_58⟩ : ∃ y : Int32, y = (nI j) + 1 := ⟨_, rfl⟩
                            refine lv_iinc (v := y_58) (lv' := [(2, .int y_58), (0, .ref h0), (1, .int n1)]) hx hb dX4_goesOn_154 hl (k := 2) rfl (by rw [ey_58]; rfl) (by decide) rfl (fun ls hl => ?_)
                            obtain rfl : y_58 = nI (j + 1) := ey_58.trans (nI_1 j)
                            have en_59 : (nI (j + 1)).toInt = ((j + 1 : Nat) : Int) := pz_ti (by omega)
                            refine lv_goto (tgt := 134) hx hb dX4_goesOn_157 (by decide) ?_
                            exact ih_B134 _ (by omega) (j + 1) n1 V_57 G_57 _ _ ls rfl (by omega) (hM_57) ((kv7.tr kv_57)) hW hS (lv_sub hl [1, 2, 0] rfl)
                    exact loop_B134 _ 0 n1 V7 G7 _ _ ls rfl (by omega) (hM7) (kv7) hW hS (lv_sub hl [1, 2, 0] rfl)
                  · skip
                    have i_8 : (nI j).toInt < (nI ns).toInt := by have h9 := pz_nge c_8; exact h9
                    refine lv_aload_n hx hb dX4_goesOn_96 rfl (lv_at hl 0 rfl) ?_
                    refine M_g17 S hK hW dX4_goesOn_97 ?_
                    refine lv_iload_n hx hb dX4_goesOn_100 rfl (lv_at hl 2 rfl) ?_
                    refine mw_ld S hK hW 17 rfl rfl (pz_vi (n := mN 17) (by rw [show mN 17 = 8 from rfl]; omega) (by decide)) dX4_goesOn_101 (fun x_60 hx_60 => ?_)
                    replace hx_60 : x_60 = G7 17 j := (hx_60 rfl).trans (congrArg _ (pz_cl (by omega)))
                    refine lv_iconst (v := 1) hx hb dX4_goesOn_102 (by decide) ?_
                    refine lv_icmp_ne (tgt := 126) hx hb dX4_goesOn_103 (by decide) (fun c_61 => ?_) (fun c_61 => ?_)
                    · skip
                      have i_61 : ¬ x_60.toInt = 1 := by have h9 := pz_neq c_61; exact h9
                      obtain ⟨y_62, ey_62⟩ : ∃ y : Int32, y = (nI j) + 1 := ⟨_, rfl⟩
                      refine lv_iinc (v := y_62) (lv' := [(2, .int y_62), (0, .ref h0), (1, .int n1)]) hx hb dX4_goesOn_126 hl (k := 2) rfl (by rw [ey_62]; rfl) (by decide) rfl (fun ls hl => ?_)
                      obtain rfl : y_62 = nI (j + 1) := ey_62.trans (nI_1 j)
                      have en_63 : (nI (j + 1)).toInt = ((j + 1 : Nat) : Int) := pz_ti (by omega)
                      refine lv_goto (tgt := 88) hx hb dX4_goesOn_129 (by decide) ?_
                      exact ih_B88 _ (by omega) (j + 1) n1 V7 G7 _ _ ls rfl (by omega) (hM7) (kv7) hW hS (lv_sub hl [1, 2, 0] rfl)
                    · skip
                      have i_61 : x_60.toInt = 1 := by have h9 := pz_eq c_61; exact h9
                      have hnd : ¬ gDr (G7 17 j) := gDr_n (Or.inr (Or.inl (hx_60.symm.trans c_61)))
                      refine lv_aload_n hx hb dX4_goesOn_106 rfl (lv_at hl 0 rfl) ?_
                      refine M_g23 S hK hW dX4_goesOn_107 ?_
                      refine lv_iload_n hx hb dX4_goesOn_110 rfl (lv_at hl 2 rfl) ?_
                      refine mw_ld S hK hW 23 rfl rfl (pz_vi (n := mN 23) (by rw [show mN 23 = 8 from rfl]; omega) (by decide)) dX4_goesOn_111 (fun x_64 hx_64 => ?_)
                      refine lv_aload_n hx hb dX4_goesOn_112 rfl (lv_at hl 0 rfl) ?_
                      refine M_g1 S hK hW dX4_goesOn_113 (fun x_65 => ?_)
                      refine lv_icmp_gt (tgt := 126) hx hb dX4_goesOn_116 (by decide) (fun c_66 => ?_) (fun c_66 => ?_)
                      · skip
                        have i_66 : x_64.toInt > x_65.toInt := by have h9 := pz_gt c_66; exact h9
                        obtain ⟨y_67, ey_67⟩ : ∃ y : Int32, y = (nI j) + 1 := ⟨_, rfl⟩
                        refine lv_iinc (v := y_67) (lv' := [(2, .int y_67), (0, .ref h0), (1, .int n1)]) hx hb dX4_goesOn_126 hl (k := 2) rfl (by rw [ey_67]; rfl) (by decide) rfl (fun ls hl => ?_)
                        obtain rfl : y_67 = nI (j + 1) := ey_67.trans (nI_1 j)
                        have en_68 : (nI (j + 1)).toInt = ((j + 1 : Nat) : Int) := pz_ti (by omega)
                        refine lv_goto (tgt := 88) hx hb dX4_goesOn_129 (by decide) ?_
                        exact ih_B88 _ (by omega) (j + 1) n1 V7 G7 _ _ ls rfl (by omega) (hM7) (kv7) hW hS (lv_sub hl [1, 2, 0] rfl)
                      · skip
                        have i_66 : x_64.toInt ≤ x_65.toInt := by have h9 := pz_ngt c_66; exact h9
                        refine lv_aload_n hx hb dX4_goesOn_119 rfl (lv_at hl 0 rfl) ?_
                        refine M_g17 S hK hW dX4_goesOn_120 ?_
                        refine lv_iload_n hx hb dX4_goesOn_123 rfl (lv_at hl 2 rfl) ?_
                        refine lv_iconst (v := 2) hx hb dX4_goesOn_124 (by decide) ?_
                        refine mw_st S hK hW hS 17 rfl rfl (pz_vi (n := mN 17) (by rw [show mN 17 = 8 from rfl]; omega) (by decide)) dX4_goesOn_125 (fun H locs G_69 g1_69 g2_69 hW hS => ?_)
                        rw [pz_cl (by omega)] at g1_69
                        have hM_69 : MI ns nc dr V7 G_69 := hM7.h g2_69 (fun k => by rw [g1_69]; exact gDr_upd hnd (gDr_n (by decide)) k)
                        obtain ⟨y_70, ey_70⟩ : ∃ y : Int32, y = (nI j) + 1 := ⟨_, rfl⟩
                        refine lv_iinc (v := y_70) (lv' := [(2, .int y_70), (0, .ref h0), (1, .int n1)]) hx hb dX4_goesOn_126 hl (k := 2) rfl (by rw [ey_70]; rfl) (by decide) rfl (fun ls hl => ?_)
                        obtain rfl : y_70 = nI (j + 1) := ey_70.trans (nI_1 j)
                        have en_71 : (nI (j + 1)).toInt = ((j + 1 : Nat) : Int) := pz_ti (by omega)
                        refine lv_goto (tgt := 88) hx hb dX4_goesOn_129 (by decide) ?_
                        exact ih_B88 _ (by omega) (j + 1) n1 V7 G_69 _ _ ls rfl (by omega) (hM_69) (kv7) hW hS (lv_sub hl [1, 2, 0] rfl)
              exact loop_B88 _ 0 n1 V7 G7 _ _ ls rfl (by omega) (hM7) (kv7) hW hS (lv_sub hl [1, 2, 0] rfl)
            · skip
              have i_6 : (nI j).toInt < (nI nc).toInt := by have h9 := pz_nge c_6; exact h9
              refine lv_iload_n hx hb dX4_goesOn_64 rfl (lv_at hl 1 rfl) ?_
              refine lv_aload_n hx hb dX4_goesOn_65 rfl (lv_at hl 0 rfl) ?_
              refine lv_iload_n hx hb dX4_goesOn_66 rfl (lv_at hl 2 rfl) ?_
              refine c_v (n := 1) (As := [.int (nI j)]) (rest := [.int n1]) S (q_X4_isDue l dC dI h0 R A V7 G7 ns nc dr j hM7 (by omega)) iw_911 iw_908 iw_910 iw_51 iw_61 (by decide +kernel) rfl ⟨rfl, rfl, Nat.le_of_ble_eq_true rfl, Nat.le_of_ble_eq_true rfl⟩ Kt.blind (M_recv hK hW) hK.at hW hl.1 rfl (Nat.le_of_ble_eq_true rfl) dX4_goesOn_67 ⟨Nat.le_refl _, Nat.le_refl _⟩ hS (fun _ h9 => h9) (fun v9 H locs hB hz9 hk9 hS => ?_)
              refine W.widen (k := 0) (n := 0) (Nat.le_refl 0) (Nat.le_refl 0) ?_
              obtain ⟨r_72, V_72, G_72, rfl, hM_72, kv_72, hW⟩ := hB
              refine W.eq (g2 := F0 m 70 ls [.int r_72, .int n1]) rfl ?_
              obtain ⟨⟨hV2, -⟩, ⟨hV3, -⟩, -⟩ := id hM_72
              refine lv_if_eq (tgt := 77) hx hb dX4_goesOn_70 (by decide) (fun c_73 => ?_) (fun c_73 => ?_)
              · skip
                have i_73 : r_72.toInt = 0 := by have h9 := pz_eq c_73; exact h9
                refine lv_iconst (v := 0) hx hb dX4_goesOn_77 (by decide) ?_
                refine lv_iadd hx hb dX4_goesOn_78 ?_
                refine lv_topi (fun x_74 _ => ?_)
                refine lv_istore_n (lv' := [(1, .int x_74), (0, .ref h0), (2, .int (nI j))]) hx hb dX4_goesOn_79 rfl hl (by decide) rfl (fun ls hl => ?_)
                obtain ⟨y_75, ey_75⟩ : ∃ y : Int32, y = (nI j) + 1 := ⟨_, rfl⟩
                refine lv_iinc (v := y_75) (lv' := [(2, .int y_75), (1, .int x_74), (0, .ref h0)]) hx hb dX4_goesOn_80 hl (k := 2) rfl (by rw [ey_75]; rfl) (by decide) rfl (fun ls hl => ?_)
                obtain rfl : y_75 = nI (j + 1) := ey_75.trans (nI_1 j)
                have en_76 : (nI (j + 1)).toInt = ((j + 1 : Nat) : Int) := pz_ti (by omega)
                refine lv_goto (tgt := 56) hx hb dX4_goesOn_83 (by decide) ?_
                exact ih_B56 _ (by omega) (j + 1) x_74 V_72 G_72 _ _ ls rfl (by omega) (hM_72) ((kv7.tr kv_72)) hW hS (lv_sub hl [2, 1, 0] rfl)
              · skip
                have i_73 : ¬ r_72.toInt = 0 := by have h9 := pz_neq c_73; exact h9
                refine lv_iconst (v := 1) hx hb dX4_goesOn_73 (by decide) ?_
                refine lv_goto (tgt := 78) hx hb dX4_goesOn_74 (by decide) ?_
                refine lv_iadd hx hb dX4_goesOn_78 ?_
                refine lv_topi (fun x_77 _ => ?_)
                refine lv_istore_n (lv' := [(1, .int x_77), (0, .ref h0), (2, .int (nI j))]) hx hb dX4_goesOn_79 rfl hl (by decide) rfl (fun ls hl => ?_)
                obtain ⟨y_78, ey_78⟩ : ∃ y : Int32, y = (nI j) + 1 := ⟨_, rfl⟩
                refine lv_iinc (v := y_78) (lv' := [(2, .int y_78), (1, .int x_77), (0, .ref h0)]) hx hb dX4_goesOn_80 hl (k := 2) rfl (by rw [ey_78]; rfl) (by decide) rfl (fun ls hl => ?_)
                obtain rfl : y_78 = nI (j + 1) := ey_78.trans (nI_1 j)
                have en_79 : (nI (j + 1)).toInt = ((j + 1 : Nat) : Int) := pz_ti (by omega)
                refine lv_goto (tgt := 56) hx hb dX4_goesOn_83 (by decide) ?_
                exact ih_B56 _ (by omega) (j + 1) x_77 V_72 G_72 _ _ ls rfl (by omega) (hM_72) ((kv7.tr kv_72)) hW hS (lv_sub hl [2, 1, 0] rfl)
        exact loop_B56 _ 0 n1 V7 G7 _ _ ls rfl (by omega) (hM7) (kv7) hW hS (lv_sub hl [1, 2, 0] rfl)
      · skip
        have i_4 : (nI j).toInt < (nI nc).toInt := by have h9 := pz_nge c_4; exact h9
        refine lv_iload_n hx hb dX4_goesOn_22 rfl (lv_at hl 1 rfl) ?_
        refine lv_aload_n hx hb dX4_goesOn_23 rfl (lv_at hl 0 rfl) ?_
        refine M_g30 S hK hW dX4_goesOn_24 ?_
        refine lv_iload_n hx hb dX4_goesOn_27 rfl (lv_at hl 2 rfl) ?_
        refine mw_ld S hK hW 30 rfl rfl (pz_vi (n := mN 30) (by rw [show mN 30 = 200 from rfl]; omega) (by decide)) dX4_goesOn_28 (fun x_80 hx_80 => ?_)
        replace hx_80 : x_80 = G7 30 j := (hx_80 rfl).trans (congrArg _ (pz_cl (by omega)))
        refine lv_iconst (v := 1) hx hb dX4_goesOn_29 (by decide) ?_
        refine lv_icmp_ne (tgt := 45) hx hb dX4_goesOn_30 (by decide) (fun c_81 => ?_) (fun c_81 => ?_)
        · skip
          have i_81 : ¬ x_80.toInt = 1 := by have h9 := pz_neq c_81; exact h9
          refine lv_iconst (v := 0) hx hb dX4_goesOn_45 (by decide) ?_
          refine lv_iadd hx hb dX4_goesOn_46 ?_
          refine lv_topi (fun x_82 _ => ?_)
          refine lv_istore_n (lv' := [(1, .int x_82), (0, .ref h0), (2, .int (nI j))]) hx hb dX4_goesOn_47 rfl hl (by decide) rfl (fun ls hl => ?_)
          obtain ⟨y_83, ey_83⟩ : ∃ y : Int32, y = (nI j) + 1 := ⟨_, rfl⟩
          refine lv_iinc (v := y_83) (lv' := [(2, .int y_83), (1, .int x_82), (0, .ref h0)]) hx hb dX4_goesOn_48 hl (k := 2) rfl (by rw [ey_83]; rfl) (by decide) rfl (fun ls hl => ?_)
          obtain rfl : y_83 = nI (j + 1) := ey_83.trans (nI_1 j)
          have en_84 : (nI (j + 1)).toInt = ((j + 1 : Nat) : Int) := pz_ti (by omega)
          refine lv_goto (tgt := 14) hx hb dX4_goesOn_51 (by decide) ?_
          exact ih_B14 _ (by omega) (j + 1) x_82 V7 G7 _ _ ls rfl (by omega) (hM7) (kv7) hW hS (lv_sub hl [2, 1, 0] rfl)
        · skip
          have i_81 : x_80.toInt = 1 := by have h9 := pz_eq c_81; exact h9
          refine lv_aload_n hx hb dX4_goesOn_33 rfl (lv_at hl 0 rfl) ?_
          refine lv_iload_n hx hb dX4_goesOn_34 rfl (lv_at hl 2 rfl) ?_
          refine c_v (n := 1) (As := [.int (nI j)]) (rest := [.int n1]) S (q_X4_comesBack l dC dI h0 R A V7 G7 ns nc dr j hM7 (by omega)) iw_894 iw_891 iw_893 iw_47 iw_61 (by decide +kernel) rfl ⟨rfl, rfl, Nat.le_of_ble_eq_true rfl, Nat.le_of_ble_eq_true rfl⟩ Kt.blind (M_recv hK hW) hK.at hW hl.1 rfl (Nat.le_of_ble_eq_true rfl) dX4_goesOn_35 ⟨Nat.le_refl _, Nat.le_refl _⟩ hS (fun _ h9 => h9) (fun v9 H locs hB hz9 hk9 hS => ?_)
          refine W.widen (k := 0) (n := 0) (Nat.le_refl 0) (Nat.le_refl 0) ?_
          obtain ⟨r_85, V_85, G_85, rfl, hM_85, kv_85, hW⟩ := hB
          refine W.eq (g2 := F0 m 38 ls [.int r_85, .int n1]) rfl ?_
          obtain ⟨⟨hV2, -⟩, ⟨hV3, -⟩, -⟩ := id hM_85
          refine lv_if_eq (tgt := 45) hx hb dX4_goesOn_38 (by decide) (fun c_86 => ?_) (fun c_86 => ?_)
          · skip
            have i_86 : r_85.toInt = 0 := by have h9 := pz_eq c_86; exact h9
            refine lv_iconst (v := 0) hx hb dX4_goesOn_45 (by decide) ?_
            refine lv_iadd hx hb dX4_goesOn_46 ?_
            refine lv_topi (fun x_87 _ => ?_)
            refine lv_istore_n (lv' := [(1, .int x_87), (0, .ref h0), (2, .int (nI j))]) hx hb dX4_goesOn_47 rfl hl (by decide) rfl (fun ls hl => ?_)
            obtain ⟨y_88, ey_88⟩ : ∃ y : Int32, y = (nI j) + 1 := ⟨_, rfl⟩
            refine lv_iinc (v := y_88) (lv' := [(2, .int y_88), (1, .int x_87), (0, .ref h0)]) hx hb dX4_goesOn_48 hl (k := 2) rfl (by rw [ey_88]; rfl) (by decide) rfl (fun ls hl => ?_)
            obtain rfl : y_88 = nI (j + 1) := ey_88.trans (nI_1 j)
            have en_89 : (nI (j + 1)).toInt = ((j + 1 : Nat) : Int) := pz_ti (by omega)
            refine lv_goto (tgt := 14) hx hb dX4_goesOn_51 (by decide) ?_
            exact ih_B14 _ (by omega) (j + 1) x_87 V_85 G_85 _ _ ls rfl (by omega) (hM_85) ((kv7.tr kv_85)) hW hS (lv_sub hl [2, 1, 0] rfl)
          · skip
            have i_86 : ¬ r_85.toInt = 0 := by have h9 := pz_neq c_86; exact h9
            refine lv_iconst (v := 1) hx hb dX4_goesOn_41 (by decide) ?_
            refine lv_goto (tgt := 46) hx hb dX4_goesOn_42 (by decide) ?_
            refine lv_iadd hx hb dX4_goesOn_46 ?_
            refine lv_topi (fun x_90 _ => ?_)
            refine lv_istore_n (lv' := [(1, .int x_90), (0, .ref h0), (2, .int (nI j))]) hx hb dX4_goesOn_47 rfl hl (by decide) rfl (fun ls hl => ?_)
            obtain ⟨y_91, ey_91⟩ : ∃ y : Int32, y = (nI j) + 1 := ⟨_, rfl⟩
            refine lv_iinc (v := y_91) (lv' := [(2, .int y_91), (1, .int x_90), (0, .ref h0)]) hx hb dX4_goesOn_48 hl (k := 2) rfl (by rw [ey_91]; rfl) (by decide) rfl (fun ls hl => ?_)
            obtain rfl : y_91 = nI (j + 1) := ey_91.trans (nI_1 j)
            have en_92 : (nI (j + 1)).toInt = ((j + 1 : Nat) : Int) := pz_ti (by omega)
            refine lv_goto (tgt := 14) hx hb dX4_goesOn_51 (by decide) ?_
            exact ih_B14 _ (by omega) (j + 1) x_90 V_85 G_85 _ _ ls rfl (by omega) (hM_85) ((kv7.tr kv_85)) hW hS (lv_sub hl [2, 1, 0] rfl)
  exact loop_B14 _ 0 0 V G _ _ ls rfl (by omega) (hM) (KV.rf) hW hS (lv_sub hl [2, 1, 0] rfl)

abbrev B_q_X4_ticks (dC : Nat → ClassId) (dI : Nat → Nat → Nat) (h0 : Nat) (R : Nat → Nat) (A : Nat → Prop) (V : Nat → Int32) (G : Nat → Nat → Int32) (ns : Nat) (nc : Nat) (dr : Nat → Prop) (a1 : Int32) : Option Value → Heap → Prop := fun v H => ∃ (r : Int32) (V1 : Nat → Int32) (G1 : Nat → Nat → Int32), v = some (.int r) ∧ MI ns nc dr V1 G1 ∧ KV V V1 ∧ Mw dC dI h0 R A V1 G1 H
set_option maxHeartbeats 8000000 in
set_option maxRecDepth 20000 in
theorem q_X4_ticks (l : Launch) (dC : Nat → ClassId) (dI : Nat → Nat → Nat) (h0 : Nat) (R : Nat → Nat) (A : Nat → Prop) (V : Nat → Int32) (G : Nat → Nat → Int32) (ns : Nat) (nc : Nat) (dr : Nat → Prop) (a1 : Int32) (hM : MI ns nc dr V G) : Met l yX4_ticks (cws yX4_ticks cX4_ticks 4 (some .int)) { frames := 5, cells := 0, slots := 0, locals := 116 } (va_Pc [.ref h0, .int a1] (fun U => Kt dC dI U ∧ Mw dC dI h0 R A V G U.heap)) (Qg (B_q_X4_ticks dC dI h0 R A V G ns nc dr a1) A) 0 0 A := by
  refine m_start (KK := Kt dC dI) (Pw := Mw dC dI h0 R A V G) (by decide) (Nat.le_of_ble_eq_true rfl) ?_
  intro p e s m below meth c ls S hr hlocks hin hK hW hS hl
  obtain ⟨hx, hb, hml, hown, hts⟩ := id S
  have hl : lv_has ls 4 [(0, .ref h0), (1, .int a1)] := hl
  obtain ⟨⟨hV2, hns⟩, ⟨hV3, hnc⟩, h31, h37, hQ, hZ, hD⟩ := id hM
  have en_s : (nI ns).toInt = ((ns : Nat) : Int) := pz_ti (by omega)
  have en_c : (nI nc).toInt = ((nc : Nat) : Int) := pz_ti (by omega)
  refine lv_iload_n hx hb dX4_ticks_0 rfl (lv_at hl 1 rfl) ?_
  refine lv_iconst (v := 1) hx hb dX4_ticks_1 (by decide) ?_
  refine lv_icmp_ge (tgt := 12) hx hb dX4_ticks_2 (by decide) (fun c_1 => ?_) (fun c_1 => ?_)
  · skip
    have i_1 : a1.toInt ≥ 1 := by have h9 := pz_ge c_1; exact h9
    refine lv_iload_n hx hb dX4_ticks_12 rfl (lv_at hl 1 rfl) ?_
    refine lv_sipush (v := 20000) hx hb dX4_ticks_13 (by decide) ?_
    refine lv_aload_n hx hb dX4_ticks_16 rfl (lv_at hl 0 rfl) ?_
    refine M_g1 S hK hW dX4_ticks_17 (fun x_2 => ?_)
    refine lv_isub hx hb dX4_ticks_20 ?_
    refine lv_topi (fun x_3 _ => ?_)
    refine lv_icmp_le (tgt := 31) hx hb dX4_ticks_21 (by decide) (fun c_4 => ?_) (fun c_4 => ?_)
    · skip
      have i_4 : a1.toInt ≤ x_3.toInt := by have h9 := pz_le c_4; exact h9
      obtain ⟨N, hN, eN⟩ := pz_of (x := a1) (n := 2147483648) (by omega) (rg32 a1).2
      subst eN
      have en_5 : (nI N).toInt = ((N : Nat) : Int) := pz_ti (by omega)
      refine lv_iconst (v := 0) hx hb dX4_ticks_31 (by decide) ?_
      refine lv_istore_n (lv' := [(2, .int 0), (0, .ref h0), (1, .int (nI N))]) hx hb dX4_ticks_32 rfl hl (by decide) rfl (fun ls hl => ?_)
      refine lv_iconst (v := 0) hx hb dX4_ticks_33 (by decide) ?_
      refine lv_istore_n (lv' := [(3, .int 0), (2, .int 0), (0, .ref h0), (1, .int (nI N))]) hx hb dX4_ticks_34 rfl hl (by decide) rfl (fun ls hl => ?_)
      have loop_B35 : ∀ (k9 : Nat) (j : Nat) (n2 : Int32) (V7 : Nat → Int32) (G7 : Nat → Nat → Int32) (H : Heap) (locs : List Loc) (ls : Array Slot), N - j = k9 → (j ≤ N) → (MI ns nc dr V7 G7) → (KV V V7) → Mw dC dI h0 R A V7 G7 H → va_S A s.heap H locs → lv_has ls 4 [(0, .ref h0), (1, .int (nI N)), (2, .int n2), (3, .int (nI j))] → W p l e { frames := 5, cells := 0, slots := 0, locals := 116 } s m ([.ref h0, .int (nI N)] : List Value).toArray below meth c H locs 0 0 (MQ below (Qg (B_q_X4_ticks dC dI h0 R A V G ns nc dr (nI N)) A) ([.ref h0, .int (nI N)] : List Value).toArray s 0 0 A) (F0 m 35 ls []) := by
        intro k9
        induction k9 using Nat.strongRecOn with
        | ind k9 ih_B35 =>
          intro j n2 V7 G7 H locs ls hm_B35 hle_j hM7 kv7 hW hS hl
          have en_j : (nI j).toInt = ((j : Nat) : Int) := pz_ti (by omega)
          obtain ⟨⟨hV2, -⟩, ⟨hV3, -⟩, -, h37, -⟩ := id hM7
          refine lv_iload_n hx hb dX4_ticks_35 rfl (lv_at hl 3 rfl) ?_
          refine lv_iload_n hx hb dX4_ticks_36 rfl (lv_at hl 1 rfl) ?_
          refine lv_icmp_ge (tgt := 53) hx hb dX4_ticks_37 (by decide) (fun c_6 => ?_) (fun c_6 => ?_)
          · skip
            have i_6 : (nI j).toInt ≥ (nI N).toInt := by have h9 := pz_ge c_6; exact h9
            refine lv_iload_n hx hb dX4_ticks_53 rfl (lv_at hl 2 rfl) ?_
            exact r_i (v := n2) hx hb hr hlocks hS dX4_ticks_54 (⟨_, _, _, rfl, hM7, kv7, hW⟩)
          · skip
            have i_6 : (nI j).toInt < (nI N).toInt := by have h9 := pz_nge c_6; exact h9
            refine lv_iload_n hx hb dX4_ticks_40 rfl (lv_at hl 2 rfl) ?_
            refine lv_aload_n hx hb dX4_ticks_41 rfl (lv_at hl 0 rfl) ?_
            refine c_v (n := 0) (As := []) (rest := [.int n2]) S (q_X4_goesOn l dC dI h0 R A V7 G7 ns nc dr hM7) iw_890 iw_887 iw_889 iw_46 iw_61 (by decide +kernel) rfl ⟨rfl, rfl, Nat.le_of_ble_eq_true rfl, Nat.le_of_ble_eq_true rfl⟩ Kt.blind (M_recv hK hW) hK.at hW hl.1 rfl (Nat.le_of_ble_eq_true rfl) dX4_ticks_42 ⟨Nat.le_refl _, Nat.le_refl _⟩ hS (fun _ h9 => h9) (fun v9 H locs hB hz9 hk9 hS => ?_)
            refine W.widen (k := 0) (n := 0) (Nat.le_refl 0) (Nat.le_refl 0) ?_
            obtain ⟨r_7, V_7, G_7, rfl, hM_7, kv_7, hW⟩ := hB
            refine W.eq (g2 := F0 m 45 ls [.int r_7, .int n2]) rfl ?_
            obtain ⟨⟨hV2, -⟩, ⟨hV3, -⟩, -⟩ := id hM_7
            refine lv_iadd hx hb dX4_ticks_45 ?_
            refine lv_topi (fun x_8 _ => ?_)
            refine lv_istore_n (lv' := [(2, .int x_8), (0, .ref h0), (1, .int (nI N)), (3, .int (nI j))]) hx hb dX4_ticks_46 rfl hl (by decide) rfl (fun ls hl => ?_)
            obtain ⟨y_9, ey_9⟩ : ∃ y : Int32, y = (nI j) + 1 := ⟨_, rfl⟩
            refine lv_iinc (v := y_9) (lv' := [(3, .int y_9), (2, .int x_8), (0, .ref h0), (1, .int (nI N))]) hx hb dX4_ticks_47 hl (k := 3) rfl (by rw [ey_9]; rfl) (by decide) rfl (fun ls hl => ?_)
            obtain rfl : y_9 = nI (j + 1) := ey_9.trans (nI_1 j)
            have en_10 : (nI (j + 1)).toInt = ((j + 1 : Nat) : Int) := pz_ti (by omega)
            refine lv_goto (tgt := 35) hx hb dX4_ticks_50 (by decide) ?_
            exact ih_B35 _ (by omega) (j + 1) x_8 V_7 G_7 _ _ ls rfl (by omega) (hM_7) ((kv7.tr kv_7)) hW hS (lv_sub hl [2, 3, 1, 0] rfl)
      exact loop_B35 _ 0 0 V G _ _ ls rfl (by omega) (hM) (KV.rf) hW hS (lv_sub hl [2, 3, 1, 0] rfl)
    · skip
      have i_4 : a1.toInt > x_3.toInt := by have h9 := pz_nle c_4; exact h9
      refine lv_aload_n hx hb dX4_ticks_24 rfl (lv_at hl 0 rfl) ?_
      refine lv_bipush (v := (-6)) hx hb dX4_ticks_25 (by decide) ?_
      refine c_v (n := 1) (As := [.int (-6)]) (rest := []) S (q_X4_refuse l dC dI h0 R A V G (-6) (by unfold vp_in; decide)) iw_787 iw_784 iw_786 iw_33 iw_61 (by decide +kernel) rfl ⟨rfl, rfl, Nat.le_of_ble_eq_true rfl, Nat.le_of_ble_eq_true rfl⟩ Kt.blind (M_recv hK hW) hK.at hW hl.1 rfl (Nat.le_of_ble_eq_true rfl) dX4_ticks_27 ⟨Nat.le_refl _, Nat.le_refl _⟩ hS (fun _ h9 => h9) (fun v9 H locs hB hz9 hk9 hS => ?_)
      refine W.widen (k := 0) (n := 0) (Nat.le_refl 0) (Nat.le_refl 0) ?_
      obtain ⟨_, rfl, rfl, hW⟩ := hB
      refine W.eq (g2 := F0 m 30 ls [.int (-6)]) rfl ?_
      exact r_i (v := (-6)) hx hb hr hlocks hS dX4_ticks_30 (⟨_, _, _, rfl, hM, KV.rf, hW⟩)
  · skip
    have i_1 : a1.toInt < 1 := by have h9 := pz_nge c_1; exact h9
    refine lv_aload_n hx hb dX4_ticks_5 rfl (lv_at hl 0 rfl) ?_
    refine lv_bipush (v := (-4)) hx hb dX4_ticks_6 (by decide) ?_
    refine c_v (n := 1) (As := [.int (-4)]) (rest := []) S (q_X4_refuse l dC dI h0 R A V G (-4) (by unfold vp_in; decide)) iw_787 iw_784 iw_786 iw_33 iw_61 (by decide +kernel) rfl ⟨rfl, rfl, Nat.le_of_ble_eq_true rfl, Nat.le_of_ble_eq_true rfl⟩ Kt.blind (M_recv hK hW) hK.at hW hl.1 rfl (Nat.le_of_ble_eq_true rfl) dX4_ticks_8 ⟨Nat.le_refl _, Nat.le_refl _⟩ hS (fun _ h9 => h9) (fun v9 H locs hB hz9 hk9 hS => ?_)
    refine W.widen (k := 0) (n := 0) (Nat.le_refl 0) (Nat.le_refl 0) ?_
    obtain ⟨_, rfl, rfl, hW⟩ := hB
    refine W.eq (g2 := F0 m 11 ls [.int (-4)]) rfl ?_
    exact r_i (v := (-4)) hx hb hr hlocks hS dX4_ticks_11 (⟨_, _, _, rfl, hM, KV.rf, hW⟩)

abbrev B_q_X4_pick (dC : Nat → ClassId) (dI : Nat → Nat → Nat) (h0 : Nat) (R : Nat → Nat) (A : Nat → Prop) (V : Nat → Int32) (G : Nat → Nat → Int32) (ns : Nat) (a1 : Int32) : Option Value → Heap → Prop := fun v H => ∃ r : Int32, v = some (.int r) ∧ Mw dC dI h0 R A V G H
set_option maxHeartbeats 8000000 in
set_option maxRecDepth 20000 in
theorem q_X4_pick (l : Launch) (dC : Nat → ClassId) (dI : Nat → Nat → Nat) (h0 : Nat) (R : Nat → Nat) (A : Nat → Prop) (V : Nat → Int32) (G : Nat → Nat → Int32) (ns : Nat) (a1 : Int32) (hV2 : V 2 = nI ns) (hns : ns ≤ 8) : Met l yX4_pick (cws yX4_pick cX4_pick 3 (some .int)) { frames := 3, cells := 0, slots := 0, locals := 71 } (va_Pc [.ref h0, .int a1] (fun U => Kt dC dI U ∧ Mw dC dI h0 R A V G U.heap)) (Qg (B_q_X4_pick dC dI h0 R A V G ns a1) A) 0 0 A := by
  refine m_start (KK := Kt dC dI) (Pw := Mw dC dI h0 R A V G) (by decide) (Nat.le_of_ble_eq_true rfl) ?_
  intro p e s m below meth c ls S hr hlocks hin hK hW hS hl
  obtain ⟨hx, hb, hml, hown, hts⟩ := id S
  have hl : lv_has ls 3 [(0, .ref h0), (1, .int a1)] := hl
  have en_s : (nI ns).toInt = ((ns : Nat) : Int) := pz_ti (by omega)
  refine lv_iload_n hx hb dX4_pick_0 rfl (lv_at hl 1 rfl) ?_
  refine lv_if_ge (tgt := 11) hx hb dX4_pick_1 (by decide) (fun c_1 => ?_) (fun c_1 => ?_)
  · skip
    have i_1 : a1.toInt ≥ 0 := by have h9 := pz_ge c_1; exact h9
    refine lv_iload_n hx hb dX4_pick_11 rfl (lv_at hl 1 rfl) ?_
    refine lv_ldc hx hb hown (hts _ iw_829) dX4_pick_12 ?_
    refine lv_icmp_lt (tgt := 24) hx hb dX4_pick_14 (by decide) (fun c_2 => ?_) (fun c_2 => ?_)
    · skip
      have i_2 : a1.toInt < 65536 := by have h9 := pz_lt c_2; exact h9
      refine lv_aload_n hx hb dX4_pick_24 rfl (lv_at hl 0 rfl) ?_
      refine lv_iconst (v := 0) hx hb dX4_pick_25 (by decide) ?_
      refine c_v (n := 1) (As := [.int 0]) (rest := []) S (q_X4_mays l dC dI h0 R A V G ns 0 hV2 (by omega)) iw_837 iw_834 iw_836 iw_36 iw_61 (by decide +kernel) rfl ⟨rfl, rfl, Nat.le_of_ble_eq_true rfl, Nat.le_of_ble_eq_true rfl⟩ Kt.blind (M_recv hK hW) hK.at hW hl.1 rfl (Nat.le_of_ble_eq_true rfl) dX4_pick_26 ⟨Nat.le_refl _, Nat.le_refl _⟩ hS (fun _ h9 => h9) (fun v9 H locs hB hz9 hk9 hS => ?_)
      refine W.widen (k := 0) (n := 0) (Nat.le_refl 0) (Nat.le_refl 0) ?_
      obtain ⟨r_3, rfl, hm_3, hW⟩ := hB
      refine W.eq (g2 := F0 m 29 ls [.int r_3]) rfl ?_
      refine lv_istore_n (lv' := [(2, .int r_3), (0, .ref h0), (1, .int a1)]) hx hb dX4_pick_29 rfl hl (by decide) rfl (fun ls hl => ?_)
      refine lv_iload_n hx hb dX4_pick_30 rfl (lv_at hl 0 rfl) ?_
      refine lv_if_ne (tgt := 39) hx hb dX4_pick_31 (by decide) (fun c_4 => ?_) (fun c_4 => ?_)
      · skip
        have i_4 : ¬ r_3.toInt = 0 := by have h9 := pz_neq c_4; exact h9
        refine lv_aload_n hx hb dX4_pick_39 rfl (lv_at hl 1 rfl) ?_
        refine lv_iload_n hx hb dX4_pick_40 rfl (lv_at hl 0 rfl) ?_
        refine lv_iload_n hx hb dX4_pick_41 rfl (lv_at hl 2 rfl) ?_
        refine lv_iconst (v := 0) hx hb dX4_pick_42 (by decide) ?_
        refine c_v (n := 3) (As := [.int r_3, .int a1, .int 0]) (rest := []) S (q_X4_picked l dC dI h0 R A V G ns r_3 a1 0 hV2 (by omega) (hm_3.resolve_left c_4)) iw_841 iw_838 iw_840 iw_37 iw_61 (by decide +kernel) rfl ⟨rfl, rfl, Nat.le_of_ble_eq_true rfl, Nat.le_of_ble_eq_true rfl⟩ Kt.blind (M_recv hK hW) hK.at hW hl.1 rfl (Nat.le_of_ble_eq_true rfl) dX4_pick_43 ⟨Nat.le_refl _, Nat.le_refl _⟩ hS (fun _ h9 => h9) (fun v9 H locs hB hz9 hk9 hS => ?_)
        refine W.widen (k := 0) (n := 0) (Nat.le_refl 0) (Nat.le_refl 0) ?_
        obtain ⟨r_5, q_5, rfl, ⟨hq_5, rfl⟩, hW⟩ := hB
        refine W.eq (g2 := F0 m 46 ls [.int (nI q_5)]) rfl ?_
        have en_6 : (nI q_5).toInt = ((q_5 : Nat) : Int) := pz_ti (by omega)
        exact r_i (v := (nI q_5)) hx hb hr hlocks hS dX4_pick_46 (⟨_, rfl, hW⟩)
      · skip
        have i_4 : r_3.toInt = 0 := by have h9 := pz_eq c_4; exact h9
        refine lv_bipush (v := (-9)) hx hb dX4_pick_34 (by decide) ?_
        refine lv_goto (tgt := 46) hx hb dX4_pick_36 (by decide) ?_
        exact r_i (v := (-9)) hx hb hr hlocks hS dX4_pick_46 (⟨_, rfl, hW⟩)
    · skip
      have i_2 : a1.toInt ≥ 65536 := by have h9 := pz_nlt c_2; exact h9
      refine lv_aload_n hx hb dX4_pick_17 rfl (lv_at hl 0 rfl) ?_
      refine lv_bipush (v := (-6)) hx hb dX4_pick_18 (by decide) ?_
      refine c_v (n := 1) (As := [.int (-6)]) (rest := []) S (q_X4_refuse l dC dI h0 R A V G (-6) (by unfold vp_in; decide)) iw_787 iw_784 iw_786 iw_33 iw_61 (by decide +kernel) rfl ⟨rfl, rfl, Nat.le_of_ble_eq_true rfl, Nat.le_of_ble_eq_true rfl⟩ Kt.blind (M_recv hK hW) hK.at hW hl.1 rfl (Nat.le_of_ble_eq_true rfl) dX4_pick_20 ⟨Nat.le_refl _, Nat.le_refl _⟩ hS (fun _ h9 => h9) (fun v9 H locs hB hz9 hk9 hS => ?_)
      refine W.widen (k := 0) (n := 0) (Nat.le_refl 0) (Nat.le_refl 0) ?_
      obtain ⟨_, rfl, rfl, hW⟩ := hB
      refine W.eq (g2 := F0 m 23 ls [.int (-6)]) rfl ?_
      exact r_i (v := (-6)) hx hb hr hlocks hS dX4_pick_23 (⟨_, rfl, hW⟩)
  · skip
    have i_1 : a1.toInt < 0 := by have h9 := pz_nge c_1; exact h9
    refine lv_aload_n hx hb dX4_pick_4 rfl (lv_at hl 0 rfl) ?_
    refine lv_bipush (v := (-4)) hx hb dX4_pick_5 (by decide) ?_
    refine c_v (n := 1) (As := [.int (-4)]) (rest := []) S (q_X4_refuse l dC dI h0 R A V G (-4) (by unfold vp_in; decide)) iw_787 iw_784 iw_786 iw_33 iw_61 (by decide +kernel) rfl ⟨rfl, rfl, Nat.le_of_ble_eq_true rfl, Nat.le_of_ble_eq_true rfl⟩ Kt.blind (M_recv hK hW) hK.at hW hl.1 rfl (Nat.le_of_ble_eq_true rfl) dX4_pick_7 ⟨Nat.le_refl _, Nat.le_refl _⟩ hS (fun _ h9 => h9) (fun v9 H locs hB hz9 hk9 hS => ?_)
    refine W.widen (k := 0) (n := 0) (Nat.le_refl 0) (Nat.le_refl 0) ?_
    obtain ⟨_, rfl, rfl, hW⟩ := hB
    refine W.eq (g2 := F0 m 10 ls [.int (-4)]) rfl ?_
    exact r_i (v := (-4)) hx hb hr hlocks hS dX4_pick_10 (⟨_, rfl, hW⟩)

abbrev B_q_X4_queue (dC : Nat → ClassId) (dI : Nat → Nat → Nat) (h0 : Nat) (R : Nat → Nat) (A : Nat → Prop) (V : Nat → Int32) (G : Nat → Nat → Int32) (ns : Nat) (nc : Nat) (dr : Nat → Prop) (a1 : Int32) : Option Value → Heap → Prop := fun v H => ∃ (r : Int32) (V1 : Nat → Int32) (G1 : Nat → Nat → Int32), v = some (.int r) ∧ MI ns nc dr V1 G1 ∧ KV V V1 ∧ Mw dC dI h0 R A V1 G1 H
set_option maxHeartbeats 8000000 in
set_option maxRecDepth 20000 in
theorem q_X4_queue (l : Launch) (dC : Nat → ClassId) (dI : Nat → Nat → Nat) (h0 : Nat) (R : Nat → Nat) (A : Nat → Prop) (V : Nat → Int32) (G : Nat → Nat → Int32) (ns : Nat) (nc : Nat) (dr : Nat → Prop) (a1 : Int32) (hM : MI ns nc dr V G) : Met l yX4_queue (cws yX4_queue cX4_queue 2 (some .int)) { frames := 2, cells := 0, slots := 0, locals := 44 } (va_Pc [.ref h0, .int a1] (fun U => Kt dC dI U ∧ Mw dC dI h0 R A V G U.heap)) (Qg (B_q_X4_queue dC dI h0 R A V G ns nc dr a1) A) 0 0 A := by
  refine m_start (KK := Kt dC dI) (Pw := Mw dC dI h0 R A V G) (by decide) (Nat.le_of_ble_eq_true rfl) ?_
  intro p e s m below meth c ls S hr hlocks hin hK hW hS hl
  obtain ⟨hx, hb, hml, hown, hts⟩ := id S
  have hl : lv_has ls 2 [(0, .ref h0), (1, .int a1)] := hl
  obtain ⟨⟨hV2, hns⟩, ⟨hV3, hnc⟩, h31, h37, hQ, hZ, hD⟩ := id hM
  have en_s : (nI ns).toInt = ((ns : Nat) : Int) := pz_ti (by omega)
  have en_c : (nI nc).toInt = ((nc : Nat) : Int) := pz_ti (by omega)
  refine lv_aload_n hx hb dX4_queue_0 rfl (lv_at hl 0 rfl) ?_
  refine c_v (n := 0) (As := []) (rest := []) S (q_X4_line l dC dI h0 R A V G nc hV3 (by omega)) iw_919 iw_916 iw_918 iw_53 iw_61 (by decide +kernel) rfl ⟨rfl, rfl, Nat.le_of_ble_eq_true rfl, Nat.le_of_ble_eq_true rfl⟩ Kt.blind (M_recv hK hW) hK.at hW hl.1 rfl (Nat.le_of_ble_eq_true rfl) dX4_queue_1 ⟨Nat.le_refl _, Nat.le_refl _⟩ hS (fun _ h9 => h9) (fun v9 H locs hB hz9 hk9 hS => ?_)
  refine W.widen (k := 0) (n := 0) (Nat.le_refl 0) (Nat.le_refl 0) ?_
  obtain ⟨V_1, G_1, nq, rfl, ⟨hV42, hnq, lv_1, lg_1, lq_1⟩, hW⟩ := hB
  refine W.eq (g2 := F0 m 4 ls []) rfl ?_
  have hM_1 : MI ns nc dr V_1 G_1 := (hM.V (V1 := V_1) (lv_1 2 (by decide)) (lv_1 3 (by decide))).q lg_1
  have kv_1 : KV V V_1 := fun i h1 h2 => lv_1 i (by omega)
  have en_nq : (nI nq).toInt = ((nq : Nat) : Int) := pz_ti (by omega)
  obtain ⟨⟨hV2, -⟩, ⟨hV3, -⟩, -⟩ := id hM_1
  refine lv_iload_n hx hb dX4_queue_4 rfl (lv_at hl 1 rfl) ?_
  refine lv_aload_n hx hb dX4_queue_5 rfl (lv_at hl 0 rfl) ?_
  refine M_g42 S hK hW dX4_queue_6 (fun x_2 hx_2 => ?_)
  obtain rfl : x_2 = nI nq := hx_2.trans hV42
  refine c_s (n := 2) (As := [.int a1, .int (nI nq)]) (rest := []) S (q_X4_isIn l A (Mw dC dI h0 R A V_1 G_1) a1 (nI nq)) iw_783 iw_781 iw_782 iw_61 (by decide +kernel) rfl ⟨rfl, rfl, Nat.le_of_ble_eq_true rfl, Nat.le_of_ble_eq_true rfl⟩ (fun _ _ _ _ _ => trivial) (fun _ _ _ => trivial) hW hl.1 rfl (Nat.le_of_ble_eq_true rfl) dX4_queue_9 ⟨Nat.le_refl _, Nat.le_refl _⟩ hS (fun _ h9 => h9) (fun v9 H locs hB hz9 hk9 hS => ?_)
  refine W.widen (k := 0) (n := 0) (Nat.le_refl 0) (Nat.le_refl 0) ?_
  obtain ⟨r_3, rfl, hr_3, hW⟩ := hB
  refine W.eq (g2 := F0 m 12 ls [.int r_3]) rfl ?_
  rcases hr_3 with ⟨ha_3, hb_3, rfl⟩ | ⟨ha_3, rfl⟩
  · skip
    refine lv_if_eq (tgt := 24) hx hb dX4_queue_12 (by decide) (fun c_4 => absurd c_4 (by decide)) (fun c_4 => ?_)
    obtain ⟨jq, hjq, ejq⟩ := pz_of (x := a1) (n := nq) (by omega) (by omega)
    subst ejq
    refine lv_aload_n hx hb dX4_queue_15 rfl (lv_at hl 0 rfl) ?_
    refine M_g41 S hK hW dX4_queue_16 ?_
    refine lv_iload_n hx hb dX4_queue_19 rfl (lv_at hl 1 rfl) ?_
    refine mw_ld S hK hW 41 rfl rfl (pz_vi (n := mN 41) (by rw [show mN 41 = 200 from rfl]; omega) (by decide)) dX4_queue_20 (fun x_5 hx_5 => ?_)
    replace hx_5 : x_5 = G_1 41 jq := (hx_5 rfl).trans (congrArg _ (pz_cl (by omega)))
    refine lv_goto (tgt := 26) hx hb dX4_queue_21 (by decide) ?_
    exact r_i (v := x_5) hx hb hr hlocks hS dX4_queue_26 (⟨_, _, _, rfl, hM_1, kv_1, hW⟩)
  · skip
    refine lv_if_eq (tgt := 24) hx hb dX4_queue_12 (by decide) (fun c_6 => ?_) (fun c_6 => absurd (by decide) c_6)
    refine lv_bipush (v := (-9)) hx hb dX4_queue_24 (by decide) ?_
    exact r_i (v := (-9)) hx hb hr hlocks hS dX4_queue_26 (⟨_, _, _, rfl, hM_1, kv_1, hW⟩)

abbrev B_q_X4_count (dC : Nat → ClassId) (dI : Nat → Nat → Nat) (h0 : Nat) (R : Nat → Nat) (A : Nat → Prop) (V : Nat → Int32) (G : Nat → Nat → Int32) (ns : Nat) (nc : Nat) (a1 : Int32) : Option Value → Heap → Prop := fun v H => ∃ r : Int32, v = some (.int r) ∧ Mw dC dI h0 R A V G H
set_option maxHeartbeats 8000000 in
set_option maxRecDepth 20000 in
theorem q_X4_count (l : Launch) (dC : Nat → ClassId) (dI : Nat → Nat → Nat) (h0 : Nat) (R : Nat → Nat) (A : Nat → Prop) (V : Nat → Int32) (G : Nat → Nat → Int32) (ns : Nat) (nc : Nat) (a1 : Int32) (hV2 : V 2 = nI ns) (hns : ns ≤ 8) (hV3 : V 3 = nI nc) (hnc : nc ≤ 200) : Met l yX4_count (cws yX4_count cX4_count 4 (some .int)) { frames := 1, cells := 0, slots := 0, locals := 23 } (va_Pc [.ref h0, .int a1] (fun U => Kt dC dI U ∧ Mw dC dI h0 R A V G U.heap)) (Qg (B_q_X4_count dC dI h0 R A V G ns nc a1) A) 0 0 A := by
  refine m_start (KK := Kt dC dI) (Pw := Mw dC dI h0 R A V G) (by decide) (Nat.le_of_ble_eq_true rfl) ?_
  intro p e s m below meth c ls S hr hlocks hin hK hW hS hl
  obtain ⟨hx, hb, hml, hown, hts⟩ := id S
  have hl : lv_has ls 4 [(0, .ref h0), (1, .int a1)] := hl
  have en_s : (nI ns).toInt = ((ns : Nat) : Int) := pz_ti (by omega)
  have en_c : (nI nc).toInt = ((nc : Nat) : Int) := pz_ti (by omega)
  refine lv_iload_n hx hb dX4_count_0 rfl (lv_at hl 1 rfl) ?_
  refine lv_bipush (v := 10) hx hb dX4_count_1 (by decide) ?_
  refine lv_icmp_le (tgt := 22) hx hb dX4_count_3 (by decide) (fun c_1 => ?_) (fun c_1 => ?_)
  · skip
    have i_1 : a1.toInt ≤ 10 := by have h9 := pz_le c_1; exact h9
    refine lv_iconst (v := 0) hx hb dX4_count_22 (by decide) ?_
    refine lv_istore_n (lv' := [(2, .int 0), (0, .ref h0), (1, .int a1)]) hx hb dX4_count_23 rfl hl (by decide) rfl (fun ls hl => ?_)
    refine lv_iload_n hx hb dX4_count_24 rfl (lv_at hl 2 rfl) ?_
    by_cases t_2 : a1.toInt < 0 ∨ 17 < a1.toInt
    · skip
      refine lv_tableOut (tgt := 177) hx hb dX4_count_25 t_2 (by decide) ?_
      refine lv_bipush (v := (-9)) hx hb dX4_count_177 (by decide) ?_
      exact r_i (v := (-9)) hx hb hr hlocks hS dX4_count_179 (⟨_, rfl, hW⟩)
    · skip
      obtain ⟨j_2, hj_2, ej_2⟩ := pz_of (x := a1) (n := 18) (by omega) (by omega)
      have oj_2 : j_2 = 0 ∨ j_2 = 1 ∨ j_2 = 2 ∨ j_2 = 3 ∨ j_2 = 4 ∨ j_2 = 5 ∨ j_2 = 6 ∨ j_2 = 7 ∨ j_2 = 8 ∨ j_2 = 9 ∨ j_2 = 10 ∨ j_2 = 11 ∨ j_2 = 12 ∨ j_2 = 13 ∨ j_2 = 14 ∨ j_2 = 15 ∨ j_2 = 16 ∨ j_2 = 17 := by omega
      rcases oj_2 with h9 | h9 | h9 | h9 | h9 | h9 | h9 | h9 | h9 | h9 | h9 | h9 | h9 | h9 | h9 | h9 | h9 | h9
      · skip
        have e9 : a1 = 0 := by rw [ej_2, h9]; rfl
        subst e9
        refine lv_tableIn (off := 87) (tgt := 112) hx hb dX4_count_25 (by decide) (by decide) (by decide) (by decide) ?_
        refine lv_aload_n hx hb dX4_count_112 rfl (lv_at hl 1 rfl) ?_
        refine M_g1 S hK hW dX4_count_113 (fun x_3 => ?_)
        exact r_i (v := x_3) hx hb hr hlocks hS dX4_count_116 (⟨_, rfl, hW⟩)
      · skip
        have e9 : a1 = 1 := by rw [ej_2, h9]; rfl
        subst e9
        refine lv_tableIn (off := 92) (tgt := 117) hx hb dX4_count_25 (by decide) (by decide) (by decide) (by decide) ?_
        refine lv_aload_n hx hb dX4_count_117 rfl (lv_at hl 1 rfl) ?_
        refine M_g2 S hK hW dX4_count_118 (fun x_4 hx_4 => ?_)
        obtain rfl : x_4 = nI ns := hx_4.trans hV2
        exact r_i (v := (nI ns)) hx hb hr hlocks hS dX4_count_121 (⟨_, rfl, hW⟩)
      · skip
        have e9 : a1 = 2 := by rw [ej_2, h9]; rfl
        subst e9
        refine lv_tableIn (off := 97) (tgt := 122) hx hb dX4_count_25 (by decide) (by decide) (by decide) (by decide) ?_
        refine lv_aload_n hx hb dX4_count_122 rfl (lv_at hl 1 rfl) ?_
        refine M_g3 S hK hW dX4_count_123 (fun x_5 hx_5 => ?_)
        obtain rfl : x_5 = nI nc := hx_5.trans hV3
        exact r_i (v := (nI nc)) hx hb hr hlocks hS dX4_count_126 (⟨_, rfl, hW⟩)
      · skip
        have e9 : a1 = 3 := by rw [ej_2, h9]; rfl
        subst e9
        refine lv_tableIn (off := 102) (tgt := 127) hx hb dX4_count_25 (by decide) (by decide) (by decide) (by decide) ?_
        refine lv_aload_n hx hb dX4_count_127 rfl (lv_at hl 1 rfl) ?_
        refine lv_iload_n hx hb dX4_count_128 rfl (lv_at hl 2 rfl) ?_
        refine lv_iconst (v := 3) hx hb dX4_count_129 (by decide) ?_
        refine lv_isub hx hb dX4_count_130 ?_
        refine lv_topi (fun x_6 ex_6 => ?_)
        obtain rfl : x_6 = 0 := ex_6.trans (by decide)
        refine c_v (n := 1) (As := [.int 0]) (rest := []) S (q_X4_inState l dC dI h0 R A V G nc 0 hV3 (by omega)) iw_952 iw_949 iw_951 iw_55 iw_61 (by decide +kernel) rfl ⟨rfl, rfl, Nat.le_of_ble_eq_true rfl, Nat.le_of_ble_eq_true rfl⟩ Kt.blind (M_recv hK hW) hK.at hW hl.1 rfl (Nat.le_of_ble_eq_true rfl) dX4_count_131 ⟨Nat.le_refl _, Nat.le_refl _⟩ hS (fun _ h9 => h9) (fun v9 H locs hB hz9 hk9 hS => ?_)
        refine W.widen (k := 0) (n := 0) (Nat.le_refl 0) (Nat.le_refl 0) ?_
        obtain ⟨r_7, rfl, hW⟩ := hB
        refine W.eq (g2 := F0 m 134 ls [.int r_7]) rfl ?_
        exact r_i (v := r_7) hx hb hr hlocks hS dX4_count_134 (⟨_, rfl, hW⟩)
      · skip
        have e9 : a1 = 4 := by rw [ej_2, h9]; rfl
        subst e9
        refine lv_tableIn (off := 102) (tgt := 127) hx hb dX4_count_25 (by decide) (by decide) (by decide) (by decide) ?_
        refine lv_aload_n hx hb dX4_count_127 rfl (lv_at hl 1 rfl) ?_
        refine lv_iload_n hx hb dX4_count_128 rfl (lv_at hl 2 rfl) ?_
        refine lv_iconst (v := 3) hx hb dX4_count_129 (by decide) ?_
        refine lv_isub hx hb dX4_count_130 ?_
        refine lv_topi (fun x_8 ex_8 => ?_)
        obtain rfl : x_8 = 1 := ex_8.trans (by decide)
        refine c_v (n := 1) (As := [.int 1]) (rest := []) S (q_X4_inState l dC dI h0 R A V G nc 1 hV3 (by omega)) iw_952 iw_949 iw_951 iw_55 iw_61 (by decide +kernel) rfl ⟨rfl, rfl, Nat.le_of_ble_eq_true rfl, Nat.le_of_ble_eq_true rfl⟩ Kt.blind (M_recv hK hW) hK.at hW hl.1 rfl (Nat.le_of_ble_eq_true rfl) dX4_count_131 ⟨Nat.le_refl _, Nat.le_refl _⟩ hS (fun _ h9 => h9) (fun v9 H locs hB hz9 hk9 hS => ?_)
        refine W.widen (k := 0) (n := 0) (Nat.le_refl 0) (Nat.le_refl 0) ?_
        obtain ⟨r_9, rfl, hW⟩ := hB
        refine W.eq (g2 := F0 m 134 ls [.int r_9]) rfl ?_
        exact r_i (v := r_9) hx hb hr hlocks hS dX4_count_134 (⟨_, rfl, hW⟩)
      · skip
        have e9 : a1 = 5 := by rw [ej_2, h9]; rfl
        subst e9
        refine lv_tableIn (off := 102) (tgt := 127) hx hb dX4_count_25 (by decide) (by decide) (by decide) (by decide) ?_
        refine lv_aload_n hx hb dX4_count_127 rfl (lv_at hl 1 rfl) ?_
        refine lv_iload_n hx hb dX4_count_128 rfl (lv_at hl 2 rfl) ?_
        refine lv_iconst (v := 3) hx hb dX4_count_129 (by decide) ?_
        refine lv_isub hx hb dX4_count_130 ?_
        refine lv_topi (fun x_10 ex_10 => ?_)
        obtain rfl : x_10 = 2 := ex_10.trans (by decide)
        refine c_v (n := 1) (As := [.int 2]) (rest := []) S (q_X4_inState l dC dI h0 R A V G nc 2 hV3 (by omega)) iw_952 iw_949 iw_951 iw_55 iw_61 (by decide +kernel) rfl ⟨rfl, rfl, Nat.le_of_ble_eq_true rfl, Nat.le_of_ble_eq_true rfl⟩ Kt.blind (M_recv hK hW) hK.at hW hl.1 rfl (Nat.le_of_ble_eq_true rfl) dX4_count_131 ⟨Nat.le_refl _, Nat.le_refl _⟩ hS (fun _ h9 => h9) (fun v9 H locs hB hz9 hk9 hS => ?_)
        refine W.widen (k := 0) (n := 0) (Nat.le_refl 0) (Nat.le_refl 0) ?_
        obtain ⟨r_11, rfl, hW⟩ := hB
        refine W.eq (g2 := F0 m 134 ls [.int r_11]) rfl ?_
        exact r_i (v := r_11) hx hb hr hlocks hS dX4_count_134 (⟨_, rfl, hW⟩)
      · skip
        have e9 : a1 = 6 := by rw [ej_2, h9]; rfl
        subst e9
        refine lv_tableIn (off := 102) (tgt := 127) hx hb dX4_count_25 (by decide) (by decide) (by decide) (by decide) ?_
        refine lv_aload_n hx hb dX4_count_127 rfl (lv_at hl 1 rfl) ?_
        refine lv_iload_n hx hb dX4_count_128 rfl (lv_at hl 2 rfl) ?_
        refine lv_iconst (v := 3) hx hb dX4_count_129 (by decide) ?_
        refine lv_isub hx hb dX4_count_130 ?_
        refine lv_topi (fun x_12 ex_12 => ?_)
        obtain rfl : x_12 = 3 := ex_12.trans (by decide)
        refine c_v (n := 1) (As := [.int 3]) (rest := []) S (q_X4_inState l dC dI h0 R A V G nc 3 hV3 (by omega)) iw_952 iw_949 iw_951 iw_55 iw_61 (by decide +kernel) rfl ⟨rfl, rfl, Nat.le_of_ble_eq_true rfl, Nat.le_of_ble_eq_true rfl⟩ Kt.blind (M_recv hK hW) hK.at hW hl.1 rfl (Nat.le_of_ble_eq_true rfl) dX4_count_131 ⟨Nat.le_refl _, Nat.le_refl _⟩ hS (fun _ h9 => h9) (fun v9 H locs hB hz9 hk9 hS => ?_)
        refine W.widen (k := 0) (n := 0) (Nat.le_refl 0) (Nat.le_refl 0) ?_
        obtain ⟨r_13, rfl, hW⟩ := hB
        refine W.eq (g2 := F0 m 134 ls [.int r_13]) rfl ?_
        exact r_i (v := r_13) hx hb hr hlocks hS dX4_count_134 (⟨_, rfl, hW⟩)
      · skip
        have e9 : a1 = 7 := by rw [ej_2, h9]; rfl
        subst e9
        refine lv_tableIn (off := 102) (tgt := 127) hx hb dX4_count_25 (by decide) (by decide) (by decide) (by decide) ?_
        refine lv_aload_n hx hb dX4_count_127 rfl (lv_at hl 1 rfl) ?_
        refine lv_iload_n hx hb dX4_count_128 rfl (lv_at hl 2 rfl) ?_
        refine lv_iconst (v := 3) hx hb dX4_count_129 (by decide) ?_
        refine lv_isub hx hb dX4_count_130 ?_
        refine lv_topi (fun x_14 ex_14 => ?_)
        obtain rfl : x_14 = 4 := ex_14.trans (by decide)
        refine c_v (n := 1) (As := [.int 4]) (rest := []) S (q_X4_inState l dC dI h0 R A V G nc 4 hV3 (by omega)) iw_952 iw_949 iw_951 iw_55 iw_61 (by decide +kernel) rfl ⟨rfl, rfl, Nat.le_of_ble_eq_true rfl, Nat.le_of_ble_eq_true rfl⟩ Kt.blind (M_recv hK hW) hK.at hW hl.1 rfl (Nat.le_of_ble_eq_true rfl) dX4_count_131 ⟨Nat.le_refl _, Nat.le_refl _⟩ hS (fun _ h9 => h9) (fun v9 H locs hB hz9 hk9 hS => ?_)
        refine W.widen (k := 0) (n := 0) (Nat.le_refl 0) (Nat.le_refl 0) ?_
        obtain ⟨r_15, rfl, hW⟩ := hB
        refine W.eq (g2 := F0 m 134 ls [.int r_15]) rfl ?_
        exact r_i (v := r_15) hx hb hr hlocks hS dX4_count_134 (⟨_, rfl, hW⟩)
      · skip
        have e9 : a1 = 8 := by rw [ej_2, h9]; rfl
        subst e9
        refine lv_tableIn (off := 110) (tgt := 135) hx hb dX4_count_25 (by decide) (by decide) (by decide) (by decide) ?_
        refine lv_aload_n hx hb dX4_count_135 rfl (lv_at hl 1 rfl) ?_
        refine M_g8 S hK hW dX4_count_136 (fun x_16 => ?_)
        exact r_i (v := x_16) hx hb hr hlocks hS dX4_count_139 (⟨_, rfl, hW⟩)
      · skip
        have e9 : a1 = 9 := by rw [ej_2, h9]; rfl
        subst e9
        refine lv_tableIn (off := 115) (tgt := 140) hx hb dX4_count_25 (by decide) (by decide) (by decide) (by decide) ?_
        refine lv_aload_n hx hb dX4_count_140 rfl (lv_at hl 1 rfl) ?_
        refine M_g9 S hK hW dX4_count_141 (fun x_17 => ?_)
        exact r_i (v := x_17) hx hb hr hlocks hS dX4_count_144 (⟨_, rfl, hW⟩)
      · skip
        have e9 : a1 = 10 := by rw [ej_2, h9]; rfl
        subst e9
        refine lv_tableIn (off := 120) (tgt := 145) hx hb dX4_count_25 (by decide) (by decide) (by decide) (by decide) ?_
        refine lv_aload_n hx hb dX4_count_145 rfl (lv_at hl 1 rfl) ?_
        refine M_g10 S hK hW dX4_count_146 (fun x_18 => ?_)
        exact r_i (v := x_18) hx hb hr hlocks hS dX4_count_149 (⟨_, rfl, hW⟩)
      · skip
        have e9 : a1 = 11 := by rw [ej_2, h9]; rfl
        subst e9
        refine lv_tableIn (off := 152) (tgt := 177) hx hb dX4_count_25 (by decide) (by decide) (by decide) (by decide) ?_
        refine lv_bipush (v := (-9)) hx hb dX4_count_177 (by decide) ?_
        exact r_i (v := (-9)) hx hb hr hlocks hS dX4_count_179 (⟨_, rfl, hW⟩)
      · skip
        have e9 : a1 = 12 := by rw [ej_2, h9]; rfl
        subst e9
        refine lv_tableIn (off := 152) (tgt := 177) hx hb dX4_count_25 (by decide) (by decide) (by decide) (by decide) ?_
        refine lv_bipush (v := (-9)) hx hb dX4_count_177 (by decide) ?_
        exact r_i (v := (-9)) hx hb hr hlocks hS dX4_count_179 (⟨_, rfl, hW⟩)
      · skip
        have e9 : a1 = 13 := by rw [ej_2, h9]; rfl
        subst e9
        refine lv_tableIn (off := 152) (tgt := 177) hx hb dX4_count_25 (by decide) (by decide) (by decide) (by decide) ?_
        refine lv_bipush (v := (-9)) hx hb dX4_count_177 (by decide) ?_
        exact r_i (v := (-9)) hx hb hr hlocks hS dX4_count_179 (⟨_, rfl, hW⟩)
      · skip
        have e9 : a1 = 14 := by rw [ej_2, h9]; rfl
        subst e9
        refine lv_tableIn (off := 152) (tgt := 177) hx hb dX4_count_25 (by decide) (by decide) (by decide) (by decide) ?_
        refine lv_bipush (v := (-9)) hx hb dX4_count_177 (by decide) ?_
        exact r_i (v := (-9)) hx hb hr hlocks hS dX4_count_179 (⟨_, rfl, hW⟩)
      · skip
        have e9 : a1 = 15 := by rw [ej_2, h9]; rfl
        subst e9
        refine lv_tableIn (off := 152) (tgt := 177) hx hb dX4_count_25 (by decide) (by decide) (by decide) (by decide) ?_
        refine lv_bipush (v := (-9)) hx hb dX4_count_177 (by decide) ?_
        exact r_i (v := (-9)) hx hb hr hlocks hS dX4_count_179 (⟨_, rfl, hW⟩)
      · skip
        have e9 : a1 = 16 := by rw [ej_2, h9]; rfl
        subst e9
        refine lv_tableIn (off := 152) (tgt := 177) hx hb dX4_count_25 (by decide) (by decide) (by decide) (by decide) ?_
        refine lv_bipush (v := (-9)) hx hb dX4_count_177 (by decide) ?_
        exact r_i (v := (-9)) hx hb hr hlocks hS dX4_count_179 (⟨_, rfl, hW⟩)
      · skip
        have e9 : a1 = 17 := by rw [ej_2, h9]; rfl
        subst e9
        refine lv_tableIn (off := 125) (tgt := 150) hx hb dX4_count_25 (by decide) (by decide) (by decide) (by decide) ?_
        refine lv_iconst (v := 0) hx hb dX4_count_150 (by decide) ?_
        refine lv_istore_n (lv' := [(3, .int 0), (2, .int 0), (0, .ref h0), (1, .int 17)]) hx hb dX4_count_151 rfl hl (by decide) rfl (fun ls hl => ?_)
        have loop_B152 : ∀ (k9 : Nat) (j : Nat) (n2 : Int32) (H : Heap) (locs : List Loc) (ls : Array Slot), ns - j = k9 → (j ≤ ns) → Mw dC dI h0 R A V G H → va_S A s.heap H locs → lv_has ls 4 [(0, .ref h0), (1, .int 17), (2, .int n2), (3, .int (nI j))] → W p l e { frames := 1, cells := 0, slots := 0, locals := 23 } s m ([.ref h0, .int 17] : List Value).toArray below meth c H locs 0 0 (MQ below (Qg (B_q_X4_count dC dI h0 R A V G ns nc 17) A) ([.ref h0, .int 17] : List Value).toArray s 0 0 A) (F0 m 152 ls []) := by
          intro k9
          induction k9 using Nat.strongRecOn with
          | ind k9 ih_B152 =>
            intro j n2 H locs ls hm_B152 hle_j hW hS hl
            have en_j : (nI j).toInt = ((j : Nat) : Int) := pz_ti (by omega)
            refine lv_iload_n hx hb dX4_count_152 rfl (lv_at hl 3 rfl) ?_
            refine lv_aload_n hx hb dX4_count_153 rfl (lv_at hl 0 rfl) ?_
            refine M_g2 S hK hW dX4_count_154 (fun x_19 hx_19 => ?_)
            obtain rfl : x_19 = nI ns := hx_19.trans hV2
            refine lv_icmp_ge (tgt := 175) hx hb dX4_count_157 (by decide) (fun c_20 => ?_) (fun c_20 => ?_)
            · skip
              have i_20 : (nI j).toInt ≥ (nI ns).toInt := by have h9 := pz_ge c_20; exact h9
              refine lv_iload_n hx hb dX4_count_175 rfl (lv_at hl 2 rfl) ?_
              exact r_i (v := n2) hx hb hr hlocks hS dX4_count_176 (⟨_, rfl, hW⟩)
            · skip
              have i_20 : (nI j).toInt < (nI ns).toInt := by have h9 := pz_nge c_20; exact h9
              refine lv_iload_n hx hb dX4_count_160 rfl (lv_at hl 2 rfl) ?_
              refine lv_aload_n hx hb dX4_count_161 rfl (lv_at hl 0 rfl) ?_
              refine M_g18 S hK hW dX4_count_162 ?_
              refine lv_iload_n hx hb dX4_count_165 rfl (lv_at hl 3 rfl) ?_
              refine mw_ld S hK hW 18 rfl rfl (pz_vi (n := mN 18) (by rw [show mN 18 = 8 from rfl]; omega) (by decide)) dX4_count_166 (fun x_21 hx_21 => ?_)
              refine lv_iadd hx hb dX4_count_167 ?_
              refine lv_topi (fun x_22 _ => ?_)
              refine lv_istore_n (lv' := [(2, .int x_22), (0, .ref h0), (1, .int 17), (3, .int (nI j))]) hx hb dX4_count_168 rfl hl (by decide) rfl (fun ls hl => ?_)
              obtain ⟨y_23, ey_23⟩ : ∃ y : Int32, y = (nI j) + 1 := ⟨_, rfl⟩
              refine lv_iinc (v := y_23) (lv' := [(3, .int y_23), (2, .int x_22), (0, .ref h0), (1, .int 17)]) hx hb dX4_count_169 hl (k := 3) rfl (by rw [ey_23]; rfl) (by decide) rfl (fun ls hl => ?_)
              obtain rfl : y_23 = nI (j + 1) := ey_23.trans (nI_1 j)
              have en_24 : (nI (j + 1)).toInt = ((j + 1 : Nat) : Int) := pz_ti (by omega)
              refine lv_goto (tgt := 152) hx hb dX4_count_172 (by decide) ?_
              exact ih_B152 _ (by omega) (j + 1) x_22 _ _ ls rfl (by omega) hW hS (lv_sub hl [2, 3, 1, 0] rfl)
        exact loop_B152 _ 0 0 _ _ ls rfl (by omega) hW hS (lv_sub hl [2, 3, 1, 0] rfl)
  · skip
    have i_1 : a1.toInt > 10 := by have h9 := pz_nle c_1; exact h9
    refine lv_iload_n hx hb dX4_count_6 rfl (lv_at hl 1 rfl) ?_
    refine lv_bipush (v := 17) hx hb dX4_count_7 (by decide) ?_
    refine lv_icmp_ge (tgt := 22) hx hb dX4_count_9 (by decide) (fun c_25 => ?_) (fun c_25 => ?_)
    · skip
      have i_25 : a1.toInt ≥ 17 := by have h9 := pz_ge c_25; exact h9
      refine lv_iconst (v := 0) hx hb dX4_count_22 (by decide) ?_
      refine lv_istore_n (lv' := [(2, .int 0), (0, .ref h0), (1, .int a1)]) hx hb dX4_count_23 rfl hl (by decide) rfl (fun ls hl => ?_)
      refine lv_iload_n hx hb dX4_count_24 rfl (lv_at hl 2 rfl) ?_
      by_cases t_26 : a1.toInt < 0 ∨ 17 < a1.toInt
      · skip
        refine lv_tableOut (tgt := 177) hx hb dX4_count_25 t_26 (by decide) ?_
        refine lv_bipush (v := (-9)) hx hb dX4_count_177 (by decide) ?_
        exact r_i (v := (-9)) hx hb hr hlocks hS dX4_count_179 (⟨_, rfl, hW⟩)
      · skip
        obtain ⟨j_26, hj_26, ej_26⟩ := pz_of (x := a1) (n := 18) (by omega) (by omega)
        have oj_26 : j_26 = 0 ∨ j_26 = 1 ∨ j_26 = 2 ∨ j_26 = 3 ∨ j_26 = 4 ∨ j_26 = 5 ∨ j_26 = 6 ∨ j_26 = 7 ∨ j_26 = 8 ∨ j_26 = 9 ∨ j_26 = 10 ∨ j_26 = 11 ∨ j_26 = 12 ∨ j_26 = 13 ∨ j_26 = 14 ∨ j_26 = 15 ∨ j_26 = 16 ∨ j_26 = 17 := by omega
        rcases oj_26 with h9 | h9 | h9 | h9 | h9 | h9 | h9 | h9 | h9 | h9 | h9 | h9 | h9 | h9 | h9 | h9 | h9 | h9
        · skip
          have e9 : a1 = 0 := by rw [ej_26, h9]; rfl
          subst e9
          refine lv_tableIn (off := 87) (tgt := 112) hx hb dX4_count_25 (by decide) (by decide) (by decide) (by decide) ?_
          refine lv_aload_n hx hb dX4_count_112 rfl (lv_at hl 1 rfl) ?_
          refine M_g1 S hK hW dX4_count_113 (fun x_27 => ?_)
          exact r_i (v := x_27) hx hb hr hlocks hS dX4_count_116 (⟨_, rfl, hW⟩)
        · skip
          have e9 : a1 = 1 := by rw [ej_26, h9]; rfl
          subst e9
          refine lv_tableIn (off := 92) (tgt := 117) hx hb dX4_count_25 (by decide) (by decide) (by decide) (by decide) ?_
          refine lv_aload_n hx hb dX4_count_117 rfl (lv_at hl 1 rfl) ?_
          refine M_g2 S hK hW dX4_count_118 (fun x_28 hx_28 => ?_)
          obtain rfl : x_28 = nI ns := hx_28.trans hV2
          exact r_i (v := (nI ns)) hx hb hr hlocks hS dX4_count_121 (⟨_, rfl, hW⟩)
        · skip
          have e9 : a1 = 2 := by rw [ej_26, h9]; rfl
          subst e9
          refine lv_tableIn (off := 97) (tgt := 122) hx hb dX4_count_25 (by decide) (by decide) (by decide) (by decide) ?_
          refine lv_aload_n hx hb dX4_count_122 rfl (lv_at hl 1 rfl) ?_
          refine M_g3 S hK hW dX4_count_123 (fun x_29 hx_29 => ?_)
          obtain rfl : x_29 = nI nc := hx_29.trans hV3
          exact r_i (v := (nI nc)) hx hb hr hlocks hS dX4_count_126 (⟨_, rfl, hW⟩)
        · skip
          have e9 : a1 = 3 := by rw [ej_26, h9]; rfl
          subst e9
          refine lv_tableIn (off := 102) (tgt := 127) hx hb dX4_count_25 (by decide) (by decide) (by decide) (by decide) ?_
          refine lv_aload_n hx hb dX4_count_127 rfl (lv_at hl 1 rfl) ?_
          refine lv_iload_n hx hb dX4_count_128 rfl (lv_at hl 2 rfl) ?_
          refine lv_iconst (v := 3) hx hb dX4_count_129 (by decide) ?_
          refine lv_isub hx hb dX4_count_130 ?_
          refine lv_topi (fun x_30 ex_30 => ?_)
          obtain rfl : x_30 = 0 := ex_30.trans (by decide)
          refine c_v (n := 1) (As := [.int 0]) (rest := []) S (q_X4_inState l dC dI h0 R A V G nc 0 hV3 (by omega)) iw_952 iw_949 iw_951 iw_55 iw_61 (by decide +kernel) rfl ⟨rfl, rfl, Nat.le_of_ble_eq_true rfl, Nat.le_of_ble_eq_true rfl⟩ Kt.blind (M_recv hK hW) hK.at hW hl.1 rfl (Nat.le_of_ble_eq_true rfl) dX4_count_131 ⟨Nat.le_refl _, Nat.le_refl _⟩ hS (fun _ h9 => h9) (fun v9 H locs hB hz9 hk9 hS => ?_)
          refine W.widen (k := 0) (n := 0) (Nat.le_refl 0) (Nat.le_refl 0) ?_
          obtain ⟨r_31, rfl, hW⟩ := hB
          refine W.eq (g2 := F0 m 134 ls [.int r_31]) rfl ?_
          exact r_i (v := r_31) hx hb hr hlocks hS dX4_count_134 (⟨_, rfl, hW⟩)
        · skip
          have e9 : a1 = 4 := by rw [ej_26, h9]; rfl
          subst e9
          refine lv_tableIn (off := 102) (tgt := 127) hx hb dX4_count_25 (by decide) (by decide) (by decide) (by decide) ?_
          refine lv_aload_n hx hb dX4_count_127 rfl (lv_at hl 1 rfl) ?_
          refine lv_iload_n hx hb dX4_count_128 rfl (lv_at hl 2 rfl) ?_
          refine lv_iconst (v := 3) hx hb dX4_count_129 (by decide) ?_
          refine lv_isub hx hb dX4_count_130 ?_
          refine lv_topi (fun x_32 ex_32 => ?_)
          obtain rfl : x_32 = 1 := ex_32.trans (by decide)
          refine c_v (n := 1) (As := [.int 1]) (rest := []) S (q_X4_inState l dC dI h0 R A V G nc 1 hV3 (by omega)) iw_952 iw_949 iw_951 iw_55 iw_61 (by decide +kernel) rfl ⟨rfl, rfl, Nat.le_of_ble_eq_true rfl, Nat.le_of_ble_eq_true rfl⟩ Kt.blind (M_recv hK hW) hK.at hW hl.1 rfl (Nat.le_of_ble_eq_true rfl) dX4_count_131 ⟨Nat.le_refl _, Nat.le_refl _⟩ hS (fun _ h9 => h9) (fun v9 H locs hB hz9 hk9 hS => ?_)
          refine W.widen (k := 0) (n := 0) (Nat.le_refl 0) (Nat.le_refl 0) ?_
          obtain ⟨r_33, rfl, hW⟩ := hB
          refine W.eq (g2 := F0 m 134 ls [.int r_33]) rfl ?_
          exact r_i (v := r_33) hx hb hr hlocks hS dX4_count_134 (⟨_, rfl, hW⟩)
        · skip
          have e9 : a1 = 5 := by rw [ej_26, h9]; rfl
          subst e9
          refine lv_tableIn (off := 102) (tgt := 127) hx hb dX4_count_25 (by decide) (by decide) (by decide) (by decide) ?_
          refine lv_aload_n hx hb dX4_count_127 rfl (lv_at hl 1 rfl) ?_
          refine lv_iload_n hx hb dX4_count_128 rfl (lv_at hl 2 rfl) ?_
          refine lv_iconst (v := 3) hx hb dX4_count_129 (by decide) ?_
          refine lv_isub hx hb dX4_count_130 ?_
          refine lv_topi (fun x_34 ex_34 => ?_)
          obtain rfl : x_34 = 2 := ex_34.trans (by decide)
          refine c_v (n := 1) (As := [.int 2]) (rest := []) S (q_X4_inState l dC dI h0 R A V G nc 2 hV3 (by omega)) iw_952 iw_949 iw_951 iw_55 iw_61 (by decide +kernel) rfl ⟨rfl, rfl, Nat.le_of_ble_eq_true rfl, Nat.le_of_ble_eq_true rfl⟩ Kt.blind (M_recv hK hW) hK.at hW hl.1 rfl (Nat.le_of_ble_eq_true rfl) dX4_count_131 ⟨Nat.le_refl _, Nat.le_refl _⟩ hS (fun _ h9 => h9) (fun v9 H locs hB hz9 hk9 hS => ?_)
          refine W.widen (k := 0) (n := 0) (Nat.le_refl 0) (Nat.le_refl 0) ?_
          obtain ⟨r_35, rfl, hW⟩ := hB
          refine W.eq (g2 := F0 m 134 ls [.int r_35]) rfl ?_
          exact r_i (v := r_35) hx hb hr hlocks hS dX4_count_134 (⟨_, rfl, hW⟩)
        · skip
          have e9 : a1 = 6 := by rw [ej_26, h9]; rfl
          subst e9
          refine lv_tableIn (off := 102) (tgt := 127) hx hb dX4_count_25 (by decide) (by decide) (by decide) (by decide) ?_
          refine lv_aload_n hx hb dX4_count_127 rfl (lv_at hl 1 rfl) ?_
          refine lv_iload_n hx hb dX4_count_128 rfl (lv_at hl 2 rfl) ?_
          refine lv_iconst (v := 3) hx hb dX4_count_129 (by decide) ?_
          refine lv_isub hx hb dX4_count_130 ?_
          refine lv_topi (fun x_36 ex_36 => ?_)
          obtain rfl : x_36 = 3 := ex_36.trans (by decide)
          refine c_v (n := 1) (As := [.int 3]) (rest := []) S (q_X4_inState l dC dI h0 R A V G nc 3 hV3 (by omega)) iw_952 iw_949 iw_951 iw_55 iw_61 (by decide +kernel) rfl ⟨rfl, rfl, Nat.le_of_ble_eq_true rfl, Nat.le_of_ble_eq_true rfl⟩ Kt.blind (M_recv hK hW) hK.at hW hl.1 rfl (Nat.le_of_ble_eq_true rfl) dX4_count_131 ⟨Nat.le_refl _, Nat.le_refl _⟩ hS (fun _ h9 => h9) (fun v9 H locs hB hz9 hk9 hS => ?_)
          refine W.widen (k := 0) (n := 0) (Nat.le_refl 0) (Nat.le_refl 0) ?_
          obtain ⟨r_37, rfl, hW⟩ := hB
          refine W.eq (g2 := F0 m 134 ls [.int r_37]) rfl ?_
          exact r_i (v := r_37) hx hb hr hlocks hS dX4_count_134 (⟨_, rfl, hW⟩)
        · skip
          have e9 : a1 = 7 := by rw [ej_26, h9]; rfl
          subst e9
          refine lv_tableIn (off := 102) (tgt := 127) hx hb dX4_count_25 (by decide) (by decide) (by decide) (by decide) ?_
          refine lv_aload_n hx hb dX4_count_127 rfl (lv_at hl 1 rfl) ?_
          refine lv_iload_n hx hb dX4_count_128 rfl (lv_at hl 2 rfl) ?_
          refine lv_iconst (v := 3) hx hb dX4_count_129 (by decide) ?_
          refine lv_isub hx hb dX4_count_130 ?_
          refine lv_topi (fun x_38 ex_38 => ?_)
          obtain rfl : x_38 = 4 := ex_38.trans (by decide)
          refine c_v (n := 1) (As := [.int 4]) (rest := []) S (q_X4_inState l dC dI h0 R A V G nc 4 hV3 (by omega)) iw_952 iw_949 iw_951 iw_55 iw_61 (by decide +kernel) rfl ⟨rfl, rfl, Nat.le_of_ble_eq_true rfl, Nat.le_of_ble_eq_true rfl⟩ Kt.blind (M_recv hK hW) hK.at hW hl.1 rfl (Nat.le_of_ble_eq_true rfl) dX4_count_131 ⟨Nat.le_refl _, Nat.le_refl _⟩ hS (fun _ h9 => h9) (fun v9 H locs hB hz9 hk9 hS => ?_)
          refine W.widen (k := 0) (n := 0) (Nat.le_refl 0) (Nat.le_refl 0) ?_
          obtain ⟨r_39, rfl, hW⟩ := hB
          refine W.eq (g2 := F0 m 134 ls [.int r_39]) rfl ?_
          exact r_i (v := r_39) hx hb hr hlocks hS dX4_count_134 (⟨_, rfl, hW⟩)
        · skip
          have e9 : a1 = 8 := by rw [ej_26, h9]; rfl
          subst e9
          refine lv_tableIn (off := 110) (tgt := 135) hx hb dX4_count_25 (by decide) (by decide) (by decide) (by decide) ?_
          refine lv_aload_n hx hb dX4_count_135 rfl (lv_at hl 1 rfl) ?_
          refine M_g8 S hK hW dX4_count_136 (fun x_40 => ?_)
          exact r_i (v := x_40) hx hb hr hlocks hS dX4_count_139 (⟨_, rfl, hW⟩)
        · skip
          have e9 : a1 = 9 := by rw [ej_26, h9]; rfl
          subst e9
          refine lv_tableIn (off := 115) (tgt := 140) hx hb dX4_count_25 (by decide) (by decide) (by decide) (by decide) ?_
          refine lv_aload_n hx hb dX4_count_140 rfl (lv_at hl 1 rfl) ?_
          refine M_g9 S hK hW dX4_count_141 (fun x_41 => ?_)
          exact r_i (v := x_41) hx hb hr hlocks hS dX4_count_144 (⟨_, rfl, hW⟩)
        · skip
          have e9 : a1 = 10 := by rw [ej_26, h9]; rfl
          subst e9
          refine lv_tableIn (off := 120) (tgt := 145) hx hb dX4_count_25 (by decide) (by decide) (by decide) (by decide) ?_
          refine lv_aload_n hx hb dX4_count_145 rfl (lv_at hl 1 rfl) ?_
          refine M_g10 S hK hW dX4_count_146 (fun x_42 => ?_)
          exact r_i (v := x_42) hx hb hr hlocks hS dX4_count_149 (⟨_, rfl, hW⟩)
        · skip
          have e9 : a1 = 11 := by rw [ej_26, h9]; rfl
          subst e9
          refine lv_tableIn (off := 152) (tgt := 177) hx hb dX4_count_25 (by decide) (by decide) (by decide) (by decide) ?_
          refine lv_bipush (v := (-9)) hx hb dX4_count_177 (by decide) ?_
          exact r_i (v := (-9)) hx hb hr hlocks hS dX4_count_179 (⟨_, rfl, hW⟩)
        · skip
          have e9 : a1 = 12 := by rw [ej_26, h9]; rfl
          subst e9
          refine lv_tableIn (off := 152) (tgt := 177) hx hb dX4_count_25 (by decide) (by decide) (by decide) (by decide) ?_
          refine lv_bipush (v := (-9)) hx hb dX4_count_177 (by decide) ?_
          exact r_i (v := (-9)) hx hb hr hlocks hS dX4_count_179 (⟨_, rfl, hW⟩)
        · skip
          have e9 : a1 = 13 := by rw [ej_26, h9]; rfl
          subst e9
          refine lv_tableIn (off := 152) (tgt := 177) hx hb dX4_count_25 (by decide) (by decide) (by decide) (by decide) ?_
          refine lv_bipush (v := (-9)) hx hb dX4_count_177 (by decide) ?_
          exact r_i (v := (-9)) hx hb hr hlocks hS dX4_count_179 (⟨_, rfl, hW⟩)
        · skip
          have e9 : a1 = 14 := by rw [ej_26, h9]; rfl
          subst e9
          refine lv_tableIn (off := 152) (tgt := 177) hx hb dX4_count_25 (by decide) (by decide) (by decide) (by decide) ?_
          refine lv_bipush (v := (-9)) hx hb dX4_count_177 (by decide) ?_
          exact r_i (v := (-9)) hx hb hr hlocks hS dX4_count_179 (⟨_, rfl, hW⟩)
        · skip
          have e9 : a1 = 15 := by rw [ej_26, h9]; rfl
          subst e9
          refine lv_tableIn (off := 152) (tgt := 177) hx hb dX4_count_25 (by decide) (by decide) (by decide) (by decide) ?_
          refine lv_bipush (v := (-9)) hx hb dX4_count_177 (by decide) ?_
          exact r_i (v := (-9)) hx hb hr hlocks hS dX4_count_179 (⟨_, rfl, hW⟩)
        · skip
          have e9 : a1 = 16 := by rw [ej_26, h9]; rfl
          subst e9
          refine lv_tableIn (off := 152) (tgt := 177) hx hb dX4_count_25 (by decide) (by decide) (by decide) (by decide) ?_
          refine lv_bipush (v := (-9)) hx hb dX4_count_177 (by decide) ?_
          exact r_i (v := (-9)) hx hb hr hlocks hS dX4_count_179 (⟨_, rfl, hW⟩)
        · skip
          have e9 : a1 = 17 := by rw [ej_26, h9]; rfl
          subst e9
          refine lv_tableIn (off := 125) (tgt := 150) hx hb dX4_count_25 (by decide) (by decide) (by decide) (by decide) ?_
          refine lv_iconst (v := 0) hx hb dX4_count_150 (by decide) ?_
          refine lv_istore_n (lv' := [(3, .int 0), (2, .int 0), (0, .ref h0), (1, .int 17)]) hx hb dX4_count_151 rfl hl (by decide) rfl (fun ls hl => ?_)
          have loop_B152 : ∀ (k9 : Nat) (j : Nat) (n2 : Int32) (H : Heap) (locs : List Loc) (ls : Array Slot), ns - j = k9 → (j ≤ ns) → Mw dC dI h0 R A V G H → va_S A s.heap H locs → lv_has ls 4 [(0, .ref h0), (1, .int 17), (2, .int n2), (3, .int (nI j))] → W p l e { frames := 1, cells := 0, slots := 0, locals := 23 } s m ([.ref h0, .int 17] : List Value).toArray below meth c H locs 0 0 (MQ below (Qg (B_q_X4_count dC dI h0 R A V G ns nc 17) A) ([.ref h0, .int 17] : List Value).toArray s 0 0 A) (F0 m 152 ls []) := by
            intro k9
            induction k9 using Nat.strongRecOn with
            | ind k9 ih_B152 =>
              intro j n2 H locs ls hm_B152 hle_j hW hS hl
              have en_j : (nI j).toInt = ((j : Nat) : Int) := pz_ti (by omega)
              refine lv_iload_n hx hb dX4_count_152 rfl (lv_at hl 3 rfl) ?_
              refine lv_aload_n hx hb dX4_count_153 rfl (lv_at hl 0 rfl) ?_
              refine M_g2 S hK hW dX4_count_154 (fun x_43 hx_43 => ?_)
              obtain rfl : x_43 = nI ns := hx_43.trans hV2
              refine lv_icmp_ge (tgt := 175) hx hb dX4_count_157 (by decide) (fun c_44 => ?_) (fun c_44 => ?_)
              · skip
                have i_44 : (nI j).toInt ≥ (nI ns).toInt := by have h9 := pz_ge c_44; exact h9
                refine lv_iload_n hx hb dX4_count_175 rfl (lv_at hl 2 rfl) ?_
                exact r_i (v := n2) hx hb hr hlocks hS dX4_count_176 (⟨_, rfl, hW⟩)
              · skip
                have i_44 : (nI j).toInt < (nI ns).toInt := by have h9 := pz_nge c_44; exact h9
                refine lv_iload_n hx hb dX4_count_160 rfl (lv_at hl 2 rfl) ?_
                refine lv_aload_n hx hb dX4_count_161 rfl (lv_at hl 0 rfl) ?_
                refine M_g18 S hK hW dX4_count_162 ?_
                refine lv_iload_n hx hb dX4_count_165 rfl (lv_at hl 3 rfl) ?_
                refine mw_ld S hK hW 18 rfl rfl (pz_vi (n := mN 18) (by rw [show mN 18 = 8 from rfl]; omega) (by decide)) dX4_count_166 (fun x_45 hx_45 => ?_)
                refine lv_iadd hx hb dX4_count_167 ?_
                refine lv_topi (fun x_46 _ => ?_)
                refine lv_istore_n (lv' := [(2, .int x_46), (0, .ref h0), (1, .int 17), (3, .int (nI j))]) hx hb dX4_count_168 rfl hl (by decide) rfl (fun ls hl => ?_)
                obtain ⟨y_47, ey_47⟩ : ∃ y : Int32, y = (nI j) + 1 := ⟨_, rfl⟩
                refine lv_iinc (v := y_47) (lv' := [(3, .int y_47), (2, .int x_46), (0, .ref h0), (1, .int 17)]) hx hb dX4_count_169 hl (k := 3) rfl (by rw [ey_47]; rfl) (by decide) rfl (fun ls hl => ?_)
                obtain rfl : y_47 = nI (j + 1) := ey_47.trans (nI_1 j)
                have en_48 : (nI (j + 1)).toInt = ((j + 1 : Nat) : Int) := pz_ti (by omega)
                refine lv_goto (tgt := 152) hx hb dX4_count_172 (by decide) ?_
                exact ih_B152 _ (by omega) (j + 1) x_46 _ _ ls rfl (by omega) hW hS (lv_sub hl [2, 3, 1, 0] rfl)
          exact loop_B152 _ 0 0 _ _ ls rfl (by omega) hW hS (lv_sub hl [2, 3, 1, 0] rfl)
    · skip
      have i_25 : a1.toInt < 17 := by have h9 := pz_nge c_25; exact h9
      obtain ⟨jc, hjc, ejc⟩ := pz_of (x := a1) (n := 17) (by omega) (by omega)
      subst ejc
      have en_49 : (nI jc).toInt = ((jc : Nat) : Int) := pz_ti (by omega)
      refine lv_aload_n hx hb dX4_count_12 rfl (lv_at hl 0 rfl) ?_
      refine M_g0 S hK hW dX4_count_13 ?_
      refine lv_iload_n hx hb dX4_count_16 rfl (lv_at hl 1 rfl) ?_
      refine lv_bipush (v := 10) hx hb dX4_count_17 (by decide) ?_
      refine lv_isub hx hb dX4_count_19 ?_
      refine lv_topi (fun x_50 ex_50 => ?_)
      obtain rfl : x_50 = nI (jc - 10) := ex_50.trans (pk_sub (a := jc) (b := 10) (by omega))
      have en_51 : (nI (jc - 10)).toInt = ((jc - 10 : Nat) : Int) := pz_ti (by omega)
      refine mw_ld S hK hW 0 rfl rfl (pz_vi (n := mN 0) (by rw [show mN 0 = 7 from rfl]; omega) (by decide)) dX4_count_20 (fun x_52 hx_52 => ?_)
      exact r_i (v := x_52) hx hb hr hlocks hS dX4_count_21 (⟨_, rfl, hW⟩)

abbrev B_q_X4_drain (dC : Nat → ClassId) (dI : Nat → Nat → Nat) (h0 : Nat) (R : Nat → Nat) (A : Nat → Prop) (V : Nat → Int32) (G : Nat → Nat → Int32) (ns : Nat) (a1 : Int32) : Option Value → Heap → Prop := fun v H => ∃ (r : Int32) (G1 : Nat → Nat → Int32), v = some (.int r) ∧ (((a1.toInt < 0 ∨ (ns : Int) ≤ a1.toInt) ∧ r = -1 ∧ G1 = G) ∨ ∃ j, j < ns ∧ a1 = nI j ∧ ((gDr (G 17 j) ∧ r = -3 ∧ G1 = G) ∨ (¬ gDr (G 17 j) ∧ (∃ x, G1 17 = upd (G 17) j x ∧ gDr x) ∧ ∀ i, i ≠ 17 → G1 i = G i))) ∧ Mw dC dI h0 R A V G1 H
set_option maxHeartbeats 8000000 in
set_option maxRecDepth 20000 in
theorem q_X4_drain (l : Launch) (dC : Nat → ClassId) (dI : Nat → Nat → Nat) (h0 : Nat) (R : Nat → Nat) (A : Nat → Prop) (V : Nat → Int32) (G : Nat → Nat → Int32) (ns : Nat) (a1 : Int32) (hV2 : V 2 = nI ns) (hns : ns ≤ 8) : Met l yX4_drain (cws yX4_drain cX4_drain 2 (some .int)) { frames := 2, cells := 0, slots := 0, locals := 42 } (va_Pc [.ref h0, .int a1] (fun U => Kt dC dI U ∧ Mw dC dI h0 R A V G U.heap)) (Qg (B_q_X4_drain dC dI h0 R A V G ns a1) A) 0 0 A := by
  refine m_start (KK := Kt dC dI) (Pw := Mw dC dI h0 R A V G) (by decide) (Nat.le_of_ble_eq_true rfl) ?_
  intro p e s m below meth c ls S hr hlocks hin hK hW hS hl
  obtain ⟨hx, hb, hml, hown, hts⟩ := id S
  have hl : lv_has ls 2 [(0, .ref h0), (1, .int a1)] := hl
  have en_s : (nI ns).toInt = ((ns : Nat) : Int) := pz_ti (by omega)
  refine lv_aload_n hx hb dX4_drain_0 rfl (lv_at hl 0 rfl) ?_
  refine lv_iload_n hx hb dX4_drain_1 rfl (lv_at hl 1 rfl) ?_
  refine c_v (n := 1) (As := [.int a1]) (rest := []) S (q_X4_isServer l dC dI h0 R A V G ns a1 hV2 (by omega)) iw_795 iw_792 iw_794 iw_34 iw_61 (by decide +kernel) rfl ⟨rfl, rfl, Nat.le_of_ble_eq_true rfl, Nat.le_of_ble_eq_true rfl⟩ Kt.blind (M_recv hK hW) hK.at hW hl.1 rfl (Nat.le_of_ble_eq_true rfl) dX4_drain_2 ⟨Nat.le_refl _, Nat.le_refl _⟩ hS (fun _ h9 => h9) (fun v9 H locs hB hz9 hk9 hS => ?_)
  refine W.widen (k := 0) (n := 0) (Nat.le_refl 0) (Nat.le_refl 0) ?_
  obtain ⟨r_1, rfl, hr_1, hW⟩ := hB
  refine W.eq (g2 := F0 m 5 ls [.int r_1]) rfl ?_
  rcases hr_1 with ⟨ha_1, hb_1, rfl⟩ | ⟨ha_1, rfl⟩
  · skip
    obtain ⟨j_1, hj_1, ej_1⟩ := pz_of ha_1 hb_1
    subst ej_1
    have en_2 : (nI j_1).toInt = ((j_1 : Nat) : Int) := pz_ti (by omega)
    refine lv_if_ne (tgt := 14) hx hb dX4_drain_5 (by decide) (fun c_3 => ?_) (fun c_3 => absurd c_3 (by decide))
    refine lv_aload_n hx hb dX4_drain_14 rfl (lv_at hl 0 rfl) ?_
    refine M_g17 S hK hW dX4_drain_15 ?_
    refine lv_iload_n hx hb dX4_drain_18 rfl (lv_at hl 1 rfl) ?_
    refine mw_ld S hK hW 17 rfl rfl (pz_vi (n := mN 17) (by rw [show mN 17 = 8 from rfl]; omega) (by decide)) dX4_drain_19 (fun x_4 hx_4 => ?_)
    replace hx_4 : x_4 = G 17 j_1 := (hx_4 rfl).trans (congrArg _ (pz_cl (by omega)))
    refine lv_iconst (v := 4) hx hb dX4_drain_20 (by decide) ?_
    refine lv_icmp_eq (tgt := 34) hx hb dX4_drain_21 (by decide) (fun c_5 => ?_) (fun c_5 => ?_)
    · skip
      have i_5 : x_4.toInt = 4 := by have h9 := pz_eq c_5; exact h9
      refine lv_aload_n hx hb dX4_drain_34 rfl (lv_at hl 0 rfl) ?_
      refine lv_bipush (v := (-3)) hx hb dX4_drain_35 (by decide) ?_
      refine c_v (n := 1) (As := [.int (-3)]) (rest := []) S (q_X4_refuse l dC dI h0 R A V G (-3) (by unfold vp_in; decide)) iw_787 iw_784 iw_786 iw_33 iw_61 (by decide +kernel) rfl ⟨rfl, rfl, Nat.le_of_ble_eq_true rfl, Nat.le_of_ble_eq_true rfl⟩ Kt.blind (M_recv hK hW) hK.at hW hl.1 rfl (Nat.le_of_ble_eq_true rfl) dX4_drain_37 ⟨Nat.le_refl _, Nat.le_refl _⟩ hS (fun _ h9 => h9) (fun v9 H locs hB hz9 hk9 hS => ?_)
      refine W.widen (k := 0) (n := 0) (Nat.le_refl 0) (Nat.le_refl 0) ?_
      obtain ⟨_, rfl, rfl, hW⟩ := hB
      refine W.eq (g2 := F0 m 40 ls [.int (-3)]) rfl ?_
      exact r_i (v := (-3)) hx hb hr hlocks hS dX4_drain_40 (⟨_, _, rfl, Or.inr ⟨j_1, by omega, rfl, Or.inl ⟨Or.inr (hx_4.symm.trans c_5), rfl, rfl⟩⟩, hW⟩)
    · skip
      have i_5 : ¬ x_4.toInt = 4 := by have h9 := pz_neq c_5; exact h9
      refine lv_aload_n hx hb dX4_drain_24 rfl (lv_at hl 0 rfl) ?_
      refine M_g17 S hK hW dX4_drain_25 ?_
      refine lv_iload_n hx hb dX4_drain_28 rfl (lv_at hl 1 rfl) ?_
      refine mw_ld S hK hW 17 rfl rfl (pz_vi (n := mN 17) (by rw [show mN 17 = 8 from rfl]; omega) (by decide)) dX4_drain_29 (fun x_7 hx_7 => ?_)
      replace hx_7 : x_7 = G 17 j_1 := (hx_7 rfl).trans (congrArg _ (pz_cl (by omega)))
      refine lv_iconst (v := 3) hx hb dX4_drain_30 (by decide) ?_
      refine lv_icmp_ne (tgt := 41) hx hb dX4_drain_31 (by decide) (fun c_8 => ?_) (fun c_8 => ?_)
      · skip
        have i_8 : ¬ x_7.toInt = 3 := by have h9 := pz_neq c_8; exact h9
        refine lv_aload_n hx hb dX4_drain_41 rfl (lv_at hl 0 rfl) ?_
        refine M_g17 S hK hW dX4_drain_42 ?_
        refine lv_iload_n hx hb dX4_drain_45 rfl (lv_at hl 1 rfl) ?_
        refine lv_aload_n hx hb dX4_drain_46 rfl (lv_at hl 0 rfl) ?_
        refine M_g18 S hK hW dX4_drain_47 ?_
        refine lv_iload_n hx hb dX4_drain_50 rfl (lv_at hl 1 rfl) ?_
        refine mw_ld S hK hW 18 rfl rfl (pz_vi (n := mN 18) (by rw [show mN 18 = 8 from rfl]; omega) (by decide)) dX4_drain_51 (fun x_9 hx_9 => ?_)
        refine lv_if_ne (tgt := 59) hx hb dX4_drain_52 (by decide) (fun c_10 => ?_) (fun c_10 => ?_)
        · skip
          have i_10 : ¬ x_9.toInt = 0 := by have h9 := pz_neq c_10; exact h9
          refine lv_iconst (v := 3) hx hb dX4_drain_59 (by decide) ?_
          refine mw_st S hK hW hS 17 rfl rfl (pz_vi (n := mN 17) (by rw [show mN 17 = 8 from rfl]; omega) (by decide)) dX4_drain_60 (fun H locs G_11 g1_11 g2_11 hW hS => ?_)
          rw [pz_cl (by omega)] at g1_11
          refine lv_aload_n hx hb dX4_drain_61 rfl (lv_at hl 0 rfl) ?_
          refine M_g18 S hK hW dX4_drain_62 ?_
          refine lv_iload_n hx hb dX4_drain_65 rfl (lv_at hl 1 rfl) ?_
          refine mw_ld S hK hW 18 rfl rfl (pz_vi (n := mN 18) (by rw [show mN 18 = 8 from rfl]; omega) (by decide)) dX4_drain_66 (fun x_12 hx_12 => ?_)
          exact r_i (v := x_12) hx hb hr hlocks hS dX4_drain_67 (⟨_, _, rfl, Or.inr ⟨j_1, by omega, rfl, Or.inr ⟨fun h9 => h9.elim (fun e9 => c_8 (hx_7.trans e9)) (fun e9 => c_5 (hx_4.trans e9)), ⟨_, g1_11, by unfold gDr; decide⟩, g2_11⟩⟩, hW⟩)
        · skip
          have i_10 : x_9.toInt = 0 := by have h9 := pz_eq c_10; exact h9
          refine lv_iconst (v := 4) hx hb dX4_drain_55 (by decide) ?_
          refine lv_goto (tgt := 60) hx hb dX4_drain_56 (by decide) ?_
          refine mw_st S hK hW hS 17 rfl rfl (pz_vi (n := mN 17) (by rw [show mN 17 = 8 from rfl]; omega) (by decide)) dX4_drain_60 (fun H locs G_13 g1_13 g2_13 hW hS => ?_)
          rw [pz_cl (by omega)] at g1_13
          refine lv_aload_n hx hb dX4_drain_61 rfl (lv_at hl 0 rfl) ?_
          refine M_g18 S hK hW dX4_drain_62 ?_
          refine lv_iload_n hx hb dX4_drain_65 rfl (lv_at hl 1 rfl) ?_
          refine mw_ld S hK hW 18 rfl rfl (pz_vi (n := mN 18) (by rw [show mN 18 = 8 from rfl]; omega) (by decide)) dX4_drain_66 (fun x_14 hx_14 => ?_)
          exact r_i (v := x_14) hx hb hr hlocks hS dX4_drain_67 (⟨_, _, rfl, Or.inr ⟨j_1, by omega, rfl, Or.inr ⟨fun h9 => h9.elim (fun e9 => c_8 (hx_7.trans e9)) (fun e9 => c_5 (hx_4.trans e9)), ⟨_, g1_13, by unfold gDr; decide⟩, g2_13⟩⟩, hW⟩)
      · skip
        have i_8 : x_7.toInt = 3 := by have h9 := pz_eq c_8; exact h9
        refine lv_aload_n hx hb dX4_drain_34 rfl (lv_at hl 0 rfl) ?_
        refine lv_bipush (v := (-3)) hx hb dX4_drain_35 (by decide) ?_
        refine c_v (n := 1) (As := [.int (-3)]) (rest := []) S (q_X4_refuse l dC dI h0 R A V G (-3) (by unfold vp_in; decide)) iw_787 iw_784 iw_786 iw_33 iw_61 (by decide +kernel) rfl ⟨rfl, rfl, Nat.le_of_ble_eq_true rfl, Nat.le_of_ble_eq_true rfl⟩ Kt.blind (M_recv hK hW) hK.at hW hl.1 rfl (Nat.le_of_ble_eq_true rfl) dX4_drain_37 ⟨Nat.le_refl _, Nat.le_refl _⟩ hS (fun _ h9 => h9) (fun v9 H locs hB hz9 hk9 hS => ?_)
        refine W.widen (k := 0) (n := 0) (Nat.le_refl 0) (Nat.le_refl 0) ?_
        obtain ⟨_, rfl, rfl, hW⟩ := hB
        refine W.eq (g2 := F0 m 40 ls [.int (-3)]) rfl ?_
        exact r_i (v := (-3)) hx hb hr hlocks hS dX4_drain_40 (⟨_, _, rfl, Or.inr ⟨j_1, by omega, rfl, Or.inl ⟨Or.inl (hx_7.symm.trans c_8), rfl, rfl⟩⟩, hW⟩)
  · skip
    refine lv_if_ne (tgt := 14) hx hb dX4_drain_5 (by decide) (fun c_16 => absurd c_16 (by decide)) (fun c_16 => ?_)
    refine lv_aload_n hx hb dX4_drain_8 rfl (lv_at hl 0 rfl) ?_
    refine lv_iconst (v := (-1)) hx hb dX4_drain_9 (by decide) ?_
    refine c_v (n := 1) (As := [.int (-1)]) (rest := []) S (q_X4_refuse l dC dI h0 R A V G (-1) (by unfold vp_in; decide)) iw_787 iw_784 iw_786 iw_33 iw_61 (by decide +kernel) rfl ⟨rfl, rfl, Nat.le_of_ble_eq_true rfl, Nat.le_of_ble_eq_true rfl⟩ Kt.blind (M_recv hK hW) hK.at hW hl.1 rfl (Nat.le_of_ble_eq_true rfl) dX4_drain_10 ⟨Nat.le_refl _, Nat.le_refl _⟩ hS (fun _ h9 => h9) (fun v9 H locs hB hz9 hk9 hS => ?_)
    refine W.widen (k := 0) (n := 0) (Nat.le_refl 0) (Nat.le_refl 0) ?_
    obtain ⟨_, rfl, rfl, hW⟩ := hB
    refine W.eq (g2 := F0 m 13 ls [.int (-1)]) rfl ?_
    exact r_i (v := (-1)) hx hb hr hlocks hS dX4_drain_13 (⟨_, _, rfl, Or.inl ⟨by omega, rfl, rfl⟩, hW⟩)

abbrev B_q_X4_back (dC : Nat → ClassId) (dI : Nat → Nat → Nat) (h0 : Nat) (R : Nat → Nat) (A : Nat → Prop) (V : Nat → Int32) (G : Nat → Nat → Int32) (ns : Nat) (a1 : Int32) : Option Value → Heap → Prop := fun v H => ∃ (r : Int32) (G1 : Nat → Nat → Int32), v = some (.int r) ∧ (((a1.toInt < 0 ∨ (ns : Int) ≤ a1.toInt) ∧ r = -1 ∧ G1 = G) ∨ ∃ j, j < ns ∧ a1 = nI j ∧ ((¬ gDr (G 17 j) ∧ r = -3 ∧ G1 = G) ∨ (gDr (G 17 j) ∧ r = 1 ∧ G1 17 = upd (G 17) j 2 ∧ ∀ i, i ≠ 17 → G1 i = G i))) ∧ Mw dC dI h0 R A V G1 H
set_option maxHeartbeats 8000000 in
set_option maxRecDepth 20000 in
theorem q_X4_back (l : Launch) (dC : Nat → ClassId) (dI : Nat → Nat → Nat) (h0 : Nat) (R : Nat → Nat) (A : Nat → Prop) (V : Nat → Int32) (G : Nat → Nat → Int32) (ns : Nat) (a1 : Int32) (hV2 : V 2 = nI ns) (hns : ns ≤ 8) : Met l yX4_back (cws yX4_back cX4_back 2 (some .int)) { frames := 2, cells := 0, slots := 0, locals := 42 } (va_Pc [.ref h0, .int a1] (fun U => Kt dC dI U ∧ Mw dC dI h0 R A V G U.heap)) (Qg (B_q_X4_back dC dI h0 R A V G ns a1) A) 0 0 A := by
  refine m_start (KK := Kt dC dI) (Pw := Mw dC dI h0 R A V G) (by decide) (Nat.le_of_ble_eq_true rfl) ?_
  intro p e s m below meth c ls S hr hlocks hin hK hW hS hl
  obtain ⟨hx, hb, hml, hown, hts⟩ := id S
  have hl : lv_has ls 2 [(0, .ref h0), (1, .int a1)] := hl
  have en_s : (nI ns).toInt = ((ns : Nat) : Int) := pz_ti (by omega)
  refine lv_aload_n hx hb dX4_back_0 rfl (lv_at hl 0 rfl) ?_
  refine lv_iload_n hx hb dX4_back_1 rfl (lv_at hl 1 rfl) ?_
  refine c_v (n := 1) (As := [.int a1]) (rest := []) S (q_X4_isServer l dC dI h0 R A V G ns a1 hV2 (by omega)) iw_795 iw_792 iw_794 iw_34 iw_61 (by decide +kernel) rfl ⟨rfl, rfl, Nat.le_of_ble_eq_true rfl, Nat.le_of_ble_eq_true rfl⟩ Kt.blind (M_recv hK hW) hK.at hW hl.1 rfl (Nat.le_of_ble_eq_true rfl) dX4_back_2 ⟨Nat.le_refl _, Nat.le_refl _⟩ hS (fun _ h9 => h9) (fun v9 H locs hB hz9 hk9 hS => ?_)
  refine W.widen (k := 0) (n := 0) (Nat.le_refl 0) (Nat.le_refl 0) ?_
  obtain ⟨r_1, rfl, hr_1, hW⟩ := hB
  refine W.eq (g2 := F0 m 5 ls [.int r_1]) rfl ?_
  rcases hr_1 with ⟨ha_1, hb_1, rfl⟩ | ⟨ha_1, rfl⟩
  · skip
    obtain ⟨j_1, hj_1, ej_1⟩ := pz_of ha_1 hb_1
    subst ej_1
    have en_2 : (nI j_1).toInt = ((j_1 : Nat) : Int) := pz_ti (by omega)
    refine lv_if_ne (tgt := 14) hx hb dX4_back_5 (by decide) (fun c_3 => ?_) (fun c_3 => absurd c_3 (by decide))
    refine lv_aload_n hx hb dX4_back_14 rfl (lv_at hl 0 rfl) ?_
    refine M_g17 S hK hW dX4_back_15 ?_
    refine lv_iload_n hx hb dX4_back_18 rfl (lv_at hl 1 rfl) ?_
    refine mw_ld S hK hW 17 rfl rfl (pz_vi (n := mN 17) (by rw [show mN 17 = 8 from rfl]; omega) (by decide)) dX4_back_19 (fun x_4 hx_4 => ?_)
    replace hx_4 : x_4 = G 17 j_1 := (hx_4 rfl).trans (congrArg _ (pz_cl (by omega)))
    refine lv_iconst (v := 4) hx hb dX4_back_20 (by decide) ?_
    refine lv_icmp_eq (tgt := 41) hx hb dX4_back_21 (by decide) (fun c_5 => ?_) (fun c_5 => ?_)
    · skip
      have i_5 : x_4.toInt = 4 := by have h9 := pz_eq c_5; exact h9
      refine lv_aload_n hx hb dX4_back_41 rfl (lv_at hl 0 rfl) ?_
      refine M_g17 S hK hW dX4_back_42 ?_
      refine lv_iload_n hx hb dX4_back_45 rfl (lv_at hl 1 rfl) ?_
      refine lv_iconst (v := 2) hx hb dX4_back_46 (by decide) ?_
      refine mw_st S hK hW hS 17 rfl rfl (pz_vi (n := mN 17) (by rw [show mN 17 = 8 from rfl]; omega) (by decide)) dX4_back_47 (fun H locs G_6 g1_6 g2_6 hW hS => ?_)
      rw [pz_cl (by omega)] at g1_6
      refine lv_aload_n hx hb dX4_back_48 rfl (lv_at hl 0 rfl) ?_
      refine M_g22 S hK hW dX4_back_49 ?_
      refine lv_iload_n hx hb dX4_back_52 rfl (lv_at hl 1 rfl) ?_
      refine lv_iconst (v := 0) hx hb dX4_back_53 (by decide) ?_
      refine mw_su S hK hW hS 22 rfl rfl rfl (pz_vi (n := mN 22) (by rw [show mN 22 = 8 from rfl]; omega) (by decide)) dX4_back_54 (fun H locs hW hS => ?_)
      refine lv_aload_n hx hb dX4_back_55 rfl (lv_at hl 0 rfl) ?_
      refine M_g24 S hK hW dX4_back_56 ?_
      refine lv_iload_n hx hb dX4_back_59 rfl (lv_at hl 1 rfl) ?_
      refine lv_bipush (v := 10) hx hb dX4_back_60 (by decide) ?_
      refine mw_su S hK hW hS 24 rfl rfl rfl (pz_vi (n := mN 24) (by rw [show mN 24 = 8 from rfl]; omega) (by decide)) dX4_back_62 (fun H locs hW hS => ?_)
      refine lv_iconst (v := 1) hx hb dX4_back_63 (by decide) ?_
      exact r_i (v := 1) hx hb hr hlocks hS dX4_back_64 (⟨_, _, rfl, Or.inr ⟨j_1, by omega, rfl, Or.inr ⟨Or.inr (hx_4.symm.trans c_5), rfl, g1_6, g2_6⟩⟩, hW⟩)
    · skip
      have i_5 : ¬ x_4.toInt = 4 := by have h9 := pz_neq c_5; exact h9
      refine lv_aload_n hx hb dX4_back_24 rfl (lv_at hl 0 rfl) ?_
      refine M_g17 S hK hW dX4_back_25 ?_
      refine lv_iload_n hx hb dX4_back_28 rfl (lv_at hl 1 rfl) ?_
      refine mw_ld S hK hW 17 rfl rfl (pz_vi (n := mN 17) (by rw [show mN 17 = 8 from rfl]; omega) (by decide)) dX4_back_29 (fun x_7 hx_7 => ?_)
      replace hx_7 : x_7 = G 17 j_1 := (hx_7 rfl).trans (congrArg _ (pz_cl (by omega)))
      refine lv_iconst (v := 3) hx hb dX4_back_30 (by decide) ?_
      refine lv_icmp_eq (tgt := 41) hx hb dX4_back_31 (by decide) (fun c_8 => ?_) (fun c_8 => ?_)
      · skip
        have i_8 : x_7.toInt = 3 := by have h9 := pz_eq c_8; exact h9
        refine lv_aload_n hx hb dX4_back_41 rfl (lv_at hl 0 rfl) ?_
        refine M_g17 S hK hW dX4_back_42 ?_
        refine lv_iload_n hx hb dX4_back_45 rfl (lv_at hl 1 rfl) ?_
        refine lv_iconst (v := 2) hx hb dX4_back_46 (by decide) ?_
        refine mw_st S hK hW hS 17 rfl rfl (pz_vi (n := mN 17) (by rw [show mN 17 = 8 from rfl]; omega) (by decide)) dX4_back_47 (fun H locs G_9 g1_9 g2_9 hW hS => ?_)
        rw [pz_cl (by omega)] at g1_9
        refine lv_aload_n hx hb dX4_back_48 rfl (lv_at hl 0 rfl) ?_
        refine M_g22 S hK hW dX4_back_49 ?_
        refine lv_iload_n hx hb dX4_back_52 rfl (lv_at hl 1 rfl) ?_
        refine lv_iconst (v := 0) hx hb dX4_back_53 (by decide) ?_
        refine mw_su S hK hW hS 22 rfl rfl rfl (pz_vi (n := mN 22) (by rw [show mN 22 = 8 from rfl]; omega) (by decide)) dX4_back_54 (fun H locs hW hS => ?_)
        refine lv_aload_n hx hb dX4_back_55 rfl (lv_at hl 0 rfl) ?_
        refine M_g24 S hK hW dX4_back_56 ?_
        refine lv_iload_n hx hb dX4_back_59 rfl (lv_at hl 1 rfl) ?_
        refine lv_bipush (v := 10) hx hb dX4_back_60 (by decide) ?_
        refine mw_su S hK hW hS 24 rfl rfl rfl (pz_vi (n := mN 24) (by rw [show mN 24 = 8 from rfl]; omega) (by decide)) dX4_back_62 (fun H locs hW hS => ?_)
        refine lv_iconst (v := 1) hx hb dX4_back_63 (by decide) ?_
        exact r_i (v := 1) hx hb hr hlocks hS dX4_back_64 (⟨_, _, rfl, Or.inr ⟨j_1, by omega, rfl, Or.inr ⟨Or.inl (hx_7.symm.trans c_8), rfl, g1_9, g2_9⟩⟩, hW⟩)
      · skip
        have i_8 : ¬ x_7.toInt = 3 := by have h9 := pz_neq c_8; exact h9
        refine lv_aload_n hx hb dX4_back_34 rfl (lv_at hl 0 rfl) ?_
        refine lv_bipush (v := (-3)) hx hb dX4_back_35 (by decide) ?_
        refine c_v (n := 1) (As := [.int (-3)]) (rest := []) S (q_X4_refuse l dC dI h0 R A V G (-3) (by unfold vp_in; decide)) iw_787 iw_784 iw_786 iw_33 iw_61 (by decide +kernel) rfl ⟨rfl, rfl, Nat.le_of_ble_eq_true rfl, Nat.le_of_ble_eq_true rfl⟩ Kt.blind (M_recv hK hW) hK.at hW hl.1 rfl (Nat.le_of_ble_eq_true rfl) dX4_back_37 ⟨Nat.le_refl _, Nat.le_refl _⟩ hS (fun _ h9 => h9) (fun v9 H locs hB hz9 hk9 hS => ?_)
        refine W.widen (k := 0) (n := 0) (Nat.le_refl 0) (Nat.le_refl 0) ?_
        obtain ⟨_, rfl, rfl, hW⟩ := hB
        refine W.eq (g2 := F0 m 40 ls [.int (-3)]) rfl ?_
        exact r_i (v := (-3)) hx hb hr hlocks hS dX4_back_40 (⟨_, _, rfl, Or.inr ⟨j_1, by omega, rfl, Or.inl ⟨fun h9 => h9.elim (fun e9 => c_8 (hx_7.trans e9)) (fun e9 => c_5 (hx_4.trans e9)), rfl, rfl⟩⟩, hW⟩)
  · skip
    refine lv_if_ne (tgt := 14) hx hb dX4_back_5 (by decide) (fun c_11 => absurd c_11 (by decide)) (fun c_11 => ?_)
    refine lv_aload_n hx hb dX4_back_8 rfl (lv_at hl 0 rfl) ?_
    refine lv_iconst (v := (-1)) hx hb dX4_back_9 (by decide) ?_
    refine c_v (n := 1) (As := [.int (-1)]) (rest := []) S (q_X4_refuse l dC dI h0 R A V G (-1) (by unfold vp_in; decide)) iw_787 iw_784 iw_786 iw_33 iw_61 (by decide +kernel) rfl ⟨rfl, rfl, Nat.le_of_ble_eq_true rfl, Nat.le_of_ble_eq_true rfl⟩ Kt.blind (M_recv hK hW) hK.at hW hl.1 rfl (Nat.le_of_ble_eq_true rfl) dX4_back_10 ⟨Nat.le_refl _, Nat.le_refl _⟩ hS (fun _ h9 => h9) (fun v9 H locs hB hz9 hk9 hS => ?_)
    refine W.widen (k := 0) (n := 0) (Nat.le_refl 0) (Nat.le_refl 0) ?_
    obtain ⟨_, rfl, rfl, hW⟩ := hB
    refine W.eq (g2 := F0 m 13 ls [.int (-1)]) rfl ?_
    exact r_i (v := (-1)) hx hb hr hlocks hS dX4_back_13 (⟨_, _, rfl, Or.inl ⟨by omega, rfl, rfl⟩, hW⟩)

abbrev B_q_X4_set (dC : Nat → ClassId) (dI : Nat → Nat → Nat) (h0 : Nat) (R : Nat → Nat) (A : Nat → Prop) (V : Nat → Int32) (G : Nat → Nat → Int32) (ns : Nat) (a1 : Int32) (a2 : Int32) (a3 : Int32) : Option Value → Heap → Prop := fun v H => ∃ r : Int32, v = some (.int r) ∧ Mw dC dI h0 R A V G H
set_option maxHeartbeats 8000000 in
set_option maxRecDepth 20000 in
theorem q_X4_set (l : Launch) (dC : Nat → ClassId) (dI : Nat → Nat → Nat) (h0 : Nat) (R : Nat → Nat) (A : Nat → Prop) (V : Nat → Int32) (G : Nat → Nat → Int32) (ns : Nat) (a1 : Int32) (a2 : Int32) (a3 : Int32) (hV2 : V 2 = nI ns) (hns : ns ≤ 8) : Met l yX4_set (cws yX4_set cX4_set 5 (some .int)) { frames := 3, cells := 0, slots := 0, locals := 64 } (va_Pc [.ref h0, .int a1, .int a2, .int a3] (fun U => Kt dC dI U ∧ Mw dC dI h0 R A V G U.heap)) (Qg (B_q_X4_set dC dI h0 R A V G ns a1 a2 a3) A) 0 0 A := by
  refine m_start (KK := Kt dC dI) (Pw := Mw dC dI h0 R A V G) (by decide) (Nat.le_of_ble_eq_true rfl) ?_
  intro p e s m below meth c ls S hr hlocks hin hK hW hS hl
  obtain ⟨hx, hb, hml, hown, hts⟩ := id S
  have hl : lv_has ls 5 [(0, .ref h0), (1, .int a1), (2, .int a2), (3, .int a3)] := hl
  have en_s : (nI ns).toInt = ((ns : Nat) : Int) := pz_ti (by omega)
  refine lv_aload_n hx hb dX4_set_0 rfl (lv_at hl 0 rfl) ?_
  refine lv_iload_n hx hb dX4_set_1 rfl (lv_at hl 1 rfl) ?_
  refine c_v (n := 1) (As := [.int a1]) (rest := []) S (q_X4_isServer l dC dI h0 R A V G ns a1 hV2 (by omega)) iw_795 iw_792 iw_794 iw_34 iw_61 (by decide +kernel) rfl ⟨rfl, rfl, Nat.le_of_ble_eq_true rfl, Nat.le_of_ble_eq_true rfl⟩ Kt.blind (M_recv hK hW) hK.at hW hl.1 rfl (Nat.le_of_ble_eq_true rfl) dX4_set_2 ⟨Nat.le_refl _, Nat.le_refl _⟩ hS (fun _ h9 => h9) (fun v9 H locs hB hz9 hk9 hS => ?_)
  refine W.widen (k := 0) (n := 0) (Nat.le_refl 0) (Nat.le_refl 0) ?_
  obtain ⟨r_1, rfl, hr_1, hW⟩ := hB
  refine W.eq (g2 := F0 m 5 ls [.int r_1]) rfl ?_
  rcases hr_1 with ⟨ha_1, hb_1, rfl⟩ | ⟨ha_1, rfl⟩
  · skip
    obtain ⟨j_1, hj_1, ej_1⟩ := pz_of ha_1 hb_1
    subst ej_1
    have en_2 : (nI j_1).toInt = ((j_1 : Nat) : Int) := pz_ti (by omega)
    refine lv_if_ne (tgt := 14) hx hb dX4_set_5 (by decide) (fun c_3 => ?_) (fun c_3 => absurd c_3 (by decide))
    refine lv_iload_n hx hb dX4_set_14 rfl (lv_at hl 2 rfl) ?_
    refine lv_iconst (v := 5) hx hb dX4_set_15 (by decide) ?_
    refine c_s (n := 2) (As := [.int a2, .int 5]) (rest := []) S (q_X4_isIn l A (Mw dC dI h0 R A V G) a2 5) iw_783 iw_781 iw_782 iw_61 (by decide +kernel) rfl ⟨rfl, rfl, Nat.le_of_ble_eq_true rfl, Nat.le_of_ble_eq_true rfl⟩ (fun _ _ _ _ _ => trivial) (fun _ _ _ => trivial) hW hl.1 rfl (Nat.le_of_ble_eq_true rfl) dX4_set_16 ⟨Nat.le_refl _, Nat.le_refl _⟩ hS (fun _ h9 => h9) (fun v9 H locs hB hz9 hk9 hS => ?_)
    refine W.widen (k := 0) (n := 0) (Nat.le_refl 0) (Nat.le_refl 0) ?_
    obtain ⟨r_4, rfl, hr_4, hW⟩ := hB
    refine W.eq (g2 := F0 m 19 ls [.int r_4]) rfl ?_
    rcases hr_4 with ⟨ha_4, hb_4, rfl⟩ | ⟨ha_4, rfl⟩
    · skip
      have hb_4 : a2.toInt < 5 := by have h9 := hb_4; exact h9
      refine lv_if_ne (tgt := 29) hx hb dX4_set_19 (by decide) (fun c_5 => ?_) (fun c_5 => absurd c_5 (by decide))
      refine lv_aload_n hx hb dX4_set_29 rfl (lv_at hl 0 rfl) ?_
      refine M_g17 S hK hW dX4_set_30 ?_
      refine lv_iload_n hx hb dX4_set_33 rfl (lv_at hl 1 rfl) ?_
      refine mw_ld S hK hW 17 rfl rfl (pz_vi (n := mN 17) (by rw [show mN 17 = 8 from rfl]; omega) (by decide)) dX4_set_34 (fun x_6 hx_6 => ?_)
      replace hx_6 : x_6 = G 17 j_1 := (hx_6 rfl).trans (congrArg _ (pz_cl (by omega)))
      refine lv_iconst (v := 4) hx hb dX4_set_35 (by decide) ?_
      refine lv_icmp_ne (tgt := 46) hx hb dX4_set_36 (by decide) (fun c_7 => ?_) (fun c_7 => ?_)
      · skip
        have i_7 : ¬ x_6.toInt = 4 := by have h9 := pz_neq c_7; exact h9
        refine lv_iload_n hx hb dX4_set_46 rfl (lv_at hl 3 rfl) ?_
        refine lv_iload_n hx hb dX4_set_47 rfl (lv_at hl 2 rfl) ?_
        refine lv_iconst (v := 3) hx hb dX4_set_48 (by decide) ?_
        refine lv_icmp_ge (tgt := 56) hx hb dX4_set_49 (by decide) (fun c_8 => ?_) (fun c_8 => ?_)
        · skip
          have i_8 : a2.toInt ≥ 3 := by have h9 := pz_ge c_8; exact h9
          refine lv_iconst (v := 0) hx hb dX4_set_56 (by decide) ?_
          refine lv_icmp_ge (tgt := 67) hx hb dX4_set_57 (by decide) (fun c_9 => ?_) (fun c_9 => ?_)
          · skip
            have i_9 : a3.toInt ≥ 0 := by have h9 := pz_ge c_9; exact h9
            refine lv_iload_n hx hb dX4_set_67 rfl (lv_at hl 3 rfl) ?_
            refine lv_iload_n hx hb dX4_set_68 rfl (lv_at hl 2 rfl) ?_
            refine lv_if_ne (tgt := 77) hx hb dX4_set_69 (by decide) (fun c_10 => ?_) (fun c_10 => ?_)
            · skip
              have i_10 : ¬ a2.toInt = 0 := by have h9 := pz_neq c_10; exact h9
              refine lv_iload_n hx hb dX4_set_77 rfl (lv_at hl 2 rfl) ?_
              refine lv_iconst (v := 1) hx hb dX4_set_78 (by decide) ?_
              refine lv_icmp_eq (tgt := 87) hx hb dX4_set_79 (by decide) (fun c_11 => ?_) (fun c_11 => ?_)
              · skip
                have i_11 : a2.toInt = 1 := by have h9 := pz_eq c_11; exact h9
                refine lv_bipush (v := 20) hx hb dX4_set_87 (by decide) ?_
                refine lv_goto (tgt := 104) hx hb dX4_set_89 (by decide) ?_
                refine lv_icmp_le (tgt := 114) hx hb dX4_set_104 (by decide) (fun c_12 => ?_) (fun c_12 => ?_)
                · skip
                  have i_12 : a3.toInt ≤ 20 := by have h9 := pz_le c_12; exact h9
                  refine lv_aload_n hx hb dX4_set_114 rfl (lv_at hl 0 rfl) ?_
                  refine lv_iload_n hx hb dX4_set_115 rfl (lv_at hl 1 rfl) ?_
                  refine lv_iload_n hx hb dX4_set_116 rfl (lv_at hl 2 rfl) ?_
                  refine lv_if_ne (tgt := 125) hx hb dX4_set_117 (by decide) (fun c_13 => ?_) (fun c_13 => ?_)
                  · skip
                    have i_13 : ¬ a2.toInt = 0 := by have h9 := pz_neq c_13; exact h9
                    refine lv_bipush (v := 11) hx hb dX4_set_125 (by decide) ?_
                    refine lv_iload_n hx hb dX4_set_127 rfl (lv_at hl 2 rfl) ?_
                    refine lv_iadd hx hb dX4_set_128 ?_
                    refine lv_topi (fun x_14 _ => ?_)
                    refine c_v (n := 2) (As := [.int (nI j_1), .int x_14]) (rest := []) S (q_X4_serverOf l dC dI h0 R A V G ns (nI j_1) x_14 hV2 (by omega)) iw_799 iw_796 iw_797 iw_798 iw_61 (by decide +kernel) rfl ⟨rfl, rfl, Nat.le_of_ble_eq_true rfl, Nat.le_of_ble_eq_true rfl⟩ Kt.blind (M_recv hK hW) hK.at hW hl.1 rfl (Nat.le_of_ble_eq_true rfl) dX4_set_129 ⟨Nat.le_refl _, Nat.le_refl _⟩ hS (fun _ h9 => h9) (fun v9 H locs hB hz9 hk9 hS => ?_)
                    refine W.widen (k := 0) (n := 0) (Nat.le_refl 0) (Nat.le_refl 0) ?_
                    obtain ⟨r_15, rfl, hW⟩ := hB
                    refine W.eq (g2 := F0 m 132 ls [.int r_15]) rfl ?_
                    refine lv_istore (lv' := [(4, .int r_15), (0, .ref h0), (1, .int (nI j_1)), (2, .int a2), (3, .int a3)]) hx hb dX4_set_132 hl (by decide) rfl (fun ls hl => ?_)
                    refine lv_iload_n hx hb dX4_set_134 rfl (lv_at hl 3 rfl) ?_
                    refine lv_if_ne (tgt := 148) hx hb dX4_set_135 (by decide) (fun c_16 => ?_) (fun c_16 => ?_)
                    · skip
                      have i_16 : ¬ a2.toInt = 0 := by have h9 := pz_neq c_16; exact h9
                      refine lv_iload_n hx hb dX4_set_148 rfl (lv_at hl 3 rfl) ?_
                      refine lv_iconst (v := 1) hx hb dX4_set_149 (by decide) ?_
                      refine lv_icmp_ne (tgt := 163) hx hb dX4_set_150 (by decide) (fun c_17 => ?_) (fun c_17 => ?_)
                      · skip
                        have i_17 : ¬ a2.toInt = 1 := by have h9 := pz_neq c_17; exact h9
                        refine lv_iload_n hx hb dX4_set_163 rfl (lv_at hl 3 rfl) ?_
                        refine lv_iconst (v := 2) hx hb dX4_set_164 (by decide) ?_
                        refine lv_icmp_ne (tgt := 178) hx hb dX4_set_165 (by decide) (fun c_18 => ?_) (fun c_18 => ?_)
                        · skip
                          have i_18 : ¬ a2.toInt = 2 := by have h9 := pz_neq c_18; exact h9
                          refine lv_iload_n hx hb dX4_set_178 rfl (lv_at hl 3 rfl) ?_
                          refine lv_iconst (v := 3) hx hb dX4_set_179 (by decide) ?_
                          refine lv_icmp_ne (tgt := 193) hx hb dX4_set_180 (by decide) (fun c_19 => ?_) (fun c_19 => ?_)
                          · skip
                            have i_19 : ¬ a2.toInt = 3 := by have h9 := pz_neq c_19; exact h9
                            refine lv_aload_n hx hb dX4_set_193 rfl (lv_at hl 1 rfl) ?_
                            refine M_g16 S hK hW dX4_set_194 ?_
                            refine lv_iload_n hx hb dX4_set_197 rfl (lv_at hl 2 rfl) ?_
                            refine lv_iload_n hx hb dX4_set_198 rfl (lv_at hl 4 rfl) ?_
                            refine mw_su S hK hW hS 16 rfl rfl rfl (pz_vi (n := mN 16) (by rw [show mN 16 = 8 from rfl]; omega) (by decide)) dX4_set_199 (fun H locs hW hS => ?_)
                            refine lv_iload hx hb dX4_set_200 (lv_at hl 0 rfl) ?_
                            exact r_i (v := r_15) hx hb hr hlocks hS dX4_set_202 (⟨_, rfl, hW⟩)
                          · skip
                            have i_19 : a2.toInt = 3 := by have h9 := pz_eq c_19; exact h9
                            refine lv_aload_n hx hb dX4_set_183 rfl (lv_at hl 1 rfl) ?_
                            refine M_g15 S hK hW dX4_set_184 ?_
                            refine lv_iload_n hx hb dX4_set_187 rfl (lv_at hl 2 rfl) ?_
                            refine lv_iload_n hx hb dX4_set_188 rfl (lv_at hl 4 rfl) ?_
                            refine mw_su S hK hW hS 15 rfl rfl rfl (pz_vi (n := mN 15) (by rw [show mN 15 = 8 from rfl]; omega) (by decide)) dX4_set_189 (fun H locs hW hS => ?_)
                            refine lv_goto (tgt := 200) hx hb dX4_set_190 (by decide) ?_
                            refine lv_iload hx hb dX4_set_200 (lv_at hl 0 rfl) ?_
                            exact r_i (v := r_15) hx hb hr hlocks hS dX4_set_202 (⟨_, rfl, hW⟩)
                        · skip
                          have i_18 : a2.toInt = 2 := by have h9 := pz_eq c_18; exact h9
                          refine lv_aload_n hx hb dX4_set_168 rfl (lv_at hl 1 rfl) ?_
                          refine M_g14 S hK hW dX4_set_169 ?_
                          refine lv_iload_n hx hb dX4_set_172 rfl (lv_at hl 2 rfl) ?_
                          refine lv_iload_n hx hb dX4_set_173 rfl (lv_at hl 4 rfl) ?_
                          refine mw_su S hK hW hS 14 rfl rfl rfl (pz_vi (n := mN 14) (by rw [show mN 14 = 8 from rfl]; omega) (by decide)) dX4_set_174 (fun H locs hW hS => ?_)
                          refine lv_goto (tgt := 200) hx hb dX4_set_175 (by decide) ?_
                          refine lv_iload hx hb dX4_set_200 (lv_at hl 0 rfl) ?_
                          exact r_i (v := r_15) hx hb hr hlocks hS dX4_set_202 (⟨_, rfl, hW⟩)
                      · skip
                        have i_17 : a2.toInt = 1 := by have h9 := pz_eq c_17; exact h9
                        refine lv_aload_n hx hb dX4_set_153 rfl (lv_at hl 1 rfl) ?_
                        refine M_g13 S hK hW dX4_set_154 ?_
                        refine lv_iload_n hx hb dX4_set_157 rfl (lv_at hl 2 rfl) ?_
                        refine lv_iload_n hx hb dX4_set_158 rfl (lv_at hl 4 rfl) ?_
                        refine mw_su S hK hW hS 13 rfl rfl rfl (pz_vi (n := mN 13) (by rw [show mN 13 = 8 from rfl]; omega) (by decide)) dX4_set_159 (fun H locs hW hS => ?_)
                        refine lv_goto (tgt := 200) hx hb dX4_set_160 (by decide) ?_
                        refine lv_iload hx hb dX4_set_200 (lv_at hl 0 rfl) ?_
                        exact r_i (v := r_15) hx hb hr hlocks hS dX4_set_202 (⟨_, rfl, hW⟩)
                    · skip
                      have i_16 : a2.toInt = 0 := by have h9 := pz_eq c_16; exact h9
                      refine lv_aload_n hx hb dX4_set_138 rfl (lv_at hl 1 rfl) ?_
                      refine M_g11 S hK hW dX4_set_139 ?_
                      refine lv_iload_n hx hb dX4_set_142 rfl (lv_at hl 2 rfl) ?_
                      refine lv_iload_n hx hb dX4_set_143 rfl (lv_at hl 4 rfl) ?_
                      refine mw_su S hK hW hS 11 rfl rfl rfl (pz_vi (n := mN 11) (by rw [show mN 11 = 8 from rfl]; omega) (by decide)) dX4_set_144 (fun H locs hW hS => ?_)
                      refine lv_goto (tgt := 200) hx hb dX4_set_145 (by decide) ?_
                      refine lv_iload hx hb dX4_set_200 (lv_at hl 0 rfl) ?_
                      exact r_i (v := r_15) hx hb hr hlocks hS dX4_set_202 (⟨_, rfl, hW⟩)
                  · skip
                    have i_13 : a2.toInt = 0 := by have h9 := pz_eq c_13; exact h9
                    refine lv_bipush (v := 10) hx hb dX4_set_120 (by decide) ?_
                    refine lv_goto (tgt := 129) hx hb dX4_set_122 (by decide) ?_
                    refine c_v (n := 2) (As := [.int (nI j_1), .int 10]) (rest := []) S (q_X4_serverOf l dC dI h0 R A V G ns (nI j_1) 10 hV2 (by omega)) iw_799 iw_796 iw_797 iw_798 iw_61 (by decide +kernel) rfl ⟨rfl, rfl, Nat.le_of_ble_eq_true rfl, Nat.le_of_ble_eq_true rfl⟩ Kt.blind (M_recv hK hW) hK.at hW hl.1 rfl (Nat.le_of_ble_eq_true rfl) dX4_set_129 ⟨Nat.le_refl _, Nat.le_refl _⟩ hS (fun _ h9 => h9) (fun v9 H locs hB hz9 hk9 hS => ?_)
                    refine W.widen (k := 0) (n := 0) (Nat.le_refl 0) (Nat.le_refl 0) ?_
                    obtain ⟨r_20, rfl, hW⟩ := hB
                    refine W.eq (g2 := F0 m 132 ls [.int r_20]) rfl ?_
                    refine lv_istore (lv' := [(4, .int r_20), (0, .ref h0), (1, .int (nI j_1)), (2, .int a2), (3, .int a3)]) hx hb dX4_set_132 hl (by decide) rfl (fun ls hl => ?_)
                    refine lv_iload_n hx hb dX4_set_134 rfl (lv_at hl 3 rfl) ?_
                    refine lv_if_ne (tgt := 148) hx hb dX4_set_135 (by decide) (fun c_21 => ?_) (fun c_21 => ?_)
                    · skip
                      have i_21 : ¬ a2.toInt = 0 := by have h9 := pz_neq c_21; exact h9
                      refine lv_iload_n hx hb dX4_set_148 rfl (lv_at hl 3 rfl) ?_
                      refine lv_iconst (v := 1) hx hb dX4_set_149 (by decide) ?_
                      refine lv_icmp_ne (tgt := 163) hx hb dX4_set_150 (by decide) (fun c_22 => ?_) (fun c_22 => ?_)
                      · skip
                        have i_22 : ¬ a2.toInt = 1 := by have h9 := pz_neq c_22; exact h9
                        refine lv_iload_n hx hb dX4_set_163 rfl (lv_at hl 3 rfl) ?_
                        refine lv_iconst (v := 2) hx hb dX4_set_164 (by decide) ?_
                        refine lv_icmp_ne (tgt := 178) hx hb dX4_set_165 (by decide) (fun c_23 => ?_) (fun c_23 => ?_)
                        · skip
                          have i_23 : ¬ a2.toInt = 2 := by have h9 := pz_neq c_23; exact h9
                          refine lv_iload_n hx hb dX4_set_178 rfl (lv_at hl 3 rfl) ?_
                          refine lv_iconst (v := 3) hx hb dX4_set_179 (by decide) ?_
                          refine lv_icmp_ne (tgt := 193) hx hb dX4_set_180 (by decide) (fun c_24 => ?_) (fun c_24 => ?_)
                          · skip
                            have i_24 : ¬ a2.toInt = 3 := by have h9 := pz_neq c_24; exact h9
                            refine lv_aload_n hx hb dX4_set_193 rfl (lv_at hl 1 rfl) ?_
                            refine M_g16 S hK hW dX4_set_194 ?_
                            refine lv_iload_n hx hb dX4_set_197 rfl (lv_at hl 2 rfl) ?_
                            refine lv_iload_n hx hb dX4_set_198 rfl (lv_at hl 4 rfl) ?_
                            refine mw_su S hK hW hS 16 rfl rfl rfl (pz_vi (n := mN 16) (by rw [show mN 16 = 8 from rfl]; omega) (by decide)) dX4_set_199 (fun H locs hW hS => ?_)
                            refine lv_iload hx hb dX4_set_200 (lv_at hl 0 rfl) ?_
                            exact r_i (v := r_20) hx hb hr hlocks hS dX4_set_202 (⟨_, rfl, hW⟩)
                          · skip
                            have i_24 : a2.toInt = 3 := by have h9 := pz_eq c_24; exact h9
                            refine lv_aload_n hx hb dX4_set_183 rfl (lv_at hl 1 rfl) ?_
                            refine M_g15 S hK hW dX4_set_184 ?_
                            refine lv_iload_n hx hb dX4_set_187 rfl (lv_at hl 2 rfl) ?_
                            refine lv_iload_n hx hb dX4_set_188 rfl (lv_at hl 4 rfl) ?_
                            refine mw_su S hK hW hS 15 rfl rfl rfl (pz_vi (n := mN 15) (by rw [show mN 15 = 8 from rfl]; omega) (by decide)) dX4_set_189 (fun H locs hW hS => ?_)
                            refine lv_goto (tgt := 200) hx hb dX4_set_190 (by decide) ?_
                            refine lv_iload hx hb dX4_set_200 (lv_at hl 0 rfl) ?_
                            exact r_i (v := r_20) hx hb hr hlocks hS dX4_set_202 (⟨_, rfl, hW⟩)
                        · skip
                          have i_23 : a2.toInt = 2 := by have h9 := pz_eq c_23; exact h9
                          refine lv_aload_n hx hb dX4_set_168 rfl (lv_at hl 1 rfl) ?_
                          refine M_g14 S hK hW dX4_set_169 ?_
                          refine lv_iload_n hx hb dX4_set_172 rfl (lv_at hl 2 rfl) ?_
                          refine lv_iload_n hx hb dX4_set_173 rfl (lv_at hl 4 rfl) ?_
                          refine mw_su S hK hW hS 14 rfl rfl rfl (pz_vi (n := mN 14) (by rw [show mN 14 = 8 from rfl]; omega) (by decide)) dX4_set_174 (fun H locs hW hS => ?_)
                          refine lv_goto (tgt := 200) hx hb dX4_set_175 (by decide) ?_
                          refine lv_iload hx hb dX4_set_200 (lv_at hl 0 rfl) ?_
                          exact r_i (v := r_20) hx hb hr hlocks hS dX4_set_202 (⟨_, rfl, hW⟩)
                      · skip
                        have i_22 : a2.toInt = 1 := by have h9 := pz_eq c_22; exact h9
                        refine lv_aload_n hx hb dX4_set_153 rfl (lv_at hl 1 rfl) ?_
                        refine M_g13 S hK hW dX4_set_154 ?_
                        refine lv_iload_n hx hb dX4_set_157 rfl (lv_at hl 2 rfl) ?_
                        refine lv_iload_n hx hb dX4_set_158 rfl (lv_at hl 4 rfl) ?_
                        refine mw_su S hK hW hS 13 rfl rfl rfl (pz_vi (n := mN 13) (by rw [show mN 13 = 8 from rfl]; omega) (by decide)) dX4_set_159 (fun H locs hW hS => ?_)
                        refine lv_goto (tgt := 200) hx hb dX4_set_160 (by decide) ?_
                        refine lv_iload hx hb dX4_set_200 (lv_at hl 0 rfl) ?_
                        exact r_i (v := r_20) hx hb hr hlocks hS dX4_set_202 (⟨_, rfl, hW⟩)
                    · skip
                      have i_21 : a2.toInt = 0 := by have h9 := pz_eq c_21; exact h9
                      refine lv_aload_n hx hb dX4_set_138 rfl (lv_at hl 1 rfl) ?_
                      refine M_g11 S hK hW dX4_set_139 ?_
                      refine lv_iload_n hx hb dX4_set_142 rfl (lv_at hl 2 rfl) ?_
                      refine lv_iload_n hx hb dX4_set_143 rfl (lv_at hl 4 rfl) ?_
                      refine mw_su S hK hW hS 11 rfl rfl rfl (pz_vi (n := mN 11) (by rw [show mN 11 = 8 from rfl]; omega) (by decide)) dX4_set_144 (fun H locs hW hS => ?_)
                      refine lv_goto (tgt := 200) hx hb dX4_set_145 (by decide) ?_
                      refine lv_iload hx hb dX4_set_200 (lv_at hl 0 rfl) ?_
                      exact r_i (v := r_20) hx hb hr hlocks hS dX4_set_202 (⟨_, rfl, hW⟩)
                · skip
                  have i_12 : a3.toInt > 20 := by have h9 := pz_nle c_12; exact h9
                  refine lv_aload_n hx hb dX4_set_107 rfl (lv_at hl 0 rfl) ?_
                  refine lv_bipush (v := (-6)) hx hb dX4_set_108 (by decide) ?_
                  refine c_v (n := 1) (As := [.int (-6)]) (rest := []) S (q_X4_refuse l dC dI h0 R A V G (-6) (by unfold vp_in; decide)) iw_787 iw_784 iw_786 iw_33 iw_61 (by decide +kernel) rfl ⟨rfl, rfl, Nat.le_of_ble_eq_true rfl, Nat.le_of_ble_eq_true rfl⟩ Kt.blind (M_recv hK hW) hK.at hW hl.1 rfl (Nat.le_of_ble_eq_true rfl) dX4_set_110 ⟨Nat.le_refl _, Nat.le_refl _⟩ hS (fun _ h9 => h9) (fun v9 H locs hB hz9 hk9 hS => ?_)
                  refine W.widen (k := 0) (n := 0) (Nat.le_refl 0) (Nat.le_refl 0) ?_
                  obtain ⟨_, rfl, rfl, hW⟩ := hB
                  refine W.eq (g2 := F0 m 113 ls [.int (-6)]) rfl ?_
                  exact r_i (v := (-6)) hx hb hr hlocks hS dX4_set_113 (⟨_, rfl, hW⟩)
              · skip
                have i_11 : ¬ a2.toInt = 1 := by have h9 := pz_neq c_11; exact h9
                refine lv_iload_n hx hb dX4_set_82 rfl (lv_at hl 2 rfl) ?_
                refine lv_iconst (v := 3) hx hb dX4_set_83 (by decide) ?_
                refine lv_icmp_ne (tgt := 92) hx hb dX4_set_84 (by decide) (fun c_26 => ?_) (fun c_26 => ?_)
                · skip
                  have i_26 : ¬ a2.toInt = 3 := by have h9 := pz_neq c_26; exact h9
                  refine lv_iload_n hx hb dX4_set_92 rfl (lv_at hl 2 rfl) ?_
                  refine lv_iconst (v := 2) hx hb dX4_set_93 (by decide) ?_
                  refine lv_icmp_ne (tgt := 103) hx hb dX4_set_94 (by decide) (fun c_27 => ?_) (fun c_27 => ?_)
                  · skip
                    have i_27 : ¬ a2.toInt = 2 := by have h9 := pz_neq c_27; exact h9
                    refine lv_iconst (v := 1) hx hb dX4_set_103 (by decide) ?_
                    refine lv_icmp_le (tgt := 114) hx hb dX4_set_104 (by decide) (fun c_28 => ?_) (fun c_28 => ?_)
                    · skip
                      have i_28 : a3.toInt ≤ 1 := by have h9 := pz_le c_28; exact h9
                      refine lv_aload_n hx hb dX4_set_114 rfl (lv_at hl 0 rfl) ?_
                      refine lv_iload_n hx hb dX4_set_115 rfl (lv_at hl 1 rfl) ?_
                      refine lv_iload_n hx hb dX4_set_116 rfl (lv_at hl 2 rfl) ?_
                      refine lv_if_ne (tgt := 125) hx hb dX4_set_117 (by decide) (fun c_29 => ?_) (fun c_29 => ?_)
                      · skip
                        have i_29 : ¬ a2.toInt = 0 := by have h9 := pz_neq c_29; exact h9
                        refine lv_bipush (v := 11) hx hb dX4_set_125 (by decide) ?_
                        refine lv_iload_n hx hb dX4_set_127 rfl (lv_at hl 2 rfl) ?_
                        refine lv_iadd hx hb dX4_set_128 ?_
                        refine lv_topi (fun x_30 _ => ?_)
                        refine c_v (n := 2) (As := [.int (nI j_1), .int x_30]) (rest := []) S (q_X4_serverOf l dC dI h0 R A V G ns (nI j_1) x_30 hV2 (by omega)) iw_799 iw_796 iw_797 iw_798 iw_61 (by decide +kernel) rfl ⟨rfl, rfl, Nat.le_of_ble_eq_true rfl, Nat.le_of_ble_eq_true rfl⟩ Kt.blind (M_recv hK hW) hK.at hW hl.1 rfl (Nat.le_of_ble_eq_true rfl) dX4_set_129 ⟨Nat.le_refl _, Nat.le_refl _⟩ hS (fun _ h9 => h9) (fun v9 H locs hB hz9 hk9 hS => ?_)
                        refine W.widen (k := 0) (n := 0) (Nat.le_refl 0) (Nat.le_refl 0) ?_
                        obtain ⟨r_31, rfl, hW⟩ := hB
                        refine W.eq (g2 := F0 m 132 ls [.int r_31]) rfl ?_
                        refine lv_istore (lv' := [(4, .int r_31), (0, .ref h0), (1, .int (nI j_1)), (2, .int a2), (3, .int a3)]) hx hb dX4_set_132 hl (by decide) rfl (fun ls hl => ?_)
                        refine lv_iload_n hx hb dX4_set_134 rfl (lv_at hl 3 rfl) ?_
                        refine lv_if_ne (tgt := 148) hx hb dX4_set_135 (by decide) (fun c_32 => ?_) (fun c_32 => ?_)
                        · skip
                          have i_32 : ¬ a2.toInt = 0 := by have h9 := pz_neq c_32; exact h9
                          refine lv_iload_n hx hb dX4_set_148 rfl (lv_at hl 3 rfl) ?_
                          refine lv_iconst (v := 1) hx hb dX4_set_149 (by decide) ?_
                          refine lv_icmp_ne (tgt := 163) hx hb dX4_set_150 (by decide) (fun c_33 => ?_) (fun c_33 => ?_)
                          · skip
                            have i_33 : ¬ a2.toInt = 1 := by have h9 := pz_neq c_33; exact h9
                            refine lv_iload_n hx hb dX4_set_163 rfl (lv_at hl 3 rfl) ?_
                            refine lv_iconst (v := 2) hx hb dX4_set_164 (by decide) ?_
                            refine lv_icmp_ne (tgt := 178) hx hb dX4_set_165 (by decide) (fun c_34 => ?_) (fun c_34 => ?_)
                            · skip
                              have i_34 : ¬ a2.toInt = 2 := by have h9 := pz_neq c_34; exact h9
                              refine lv_iload_n hx hb dX4_set_178 rfl (lv_at hl 3 rfl) ?_
                              refine lv_iconst (v := 3) hx hb dX4_set_179 (by decide) ?_
                              refine lv_icmp_ne (tgt := 193) hx hb dX4_set_180 (by decide) (fun c_35 => ?_) (fun c_35 => ?_)
                              · skip
                                have i_35 : ¬ a2.toInt = 3 := by have h9 := pz_neq c_35; exact h9
                                refine lv_aload_n hx hb dX4_set_193 rfl (lv_at hl 1 rfl) ?_
                                refine M_g16 S hK hW dX4_set_194 ?_
                                refine lv_iload_n hx hb dX4_set_197 rfl (lv_at hl 2 rfl) ?_
                                refine lv_iload_n hx hb dX4_set_198 rfl (lv_at hl 4 rfl) ?_
                                refine mw_su S hK hW hS 16 rfl rfl rfl (pz_vi (n := mN 16) (by rw [show mN 16 = 8 from rfl]; omega) (by decide)) dX4_set_199 (fun H locs hW hS => ?_)
                                refine lv_iload hx hb dX4_set_200 (lv_at hl 0 rfl) ?_
                                exact r_i (v := r_31) hx hb hr hlocks hS dX4_set_202 (⟨_, rfl, hW⟩)
                              · skip
                                have i_35 : a2.toInt = 3 := by have h9 := pz_eq c_35; exact h9
                                refine lv_aload_n hx hb dX4_set_183 rfl (lv_at hl 1 rfl) ?_
                                refine M_g15 S hK hW dX4_set_184 ?_
                                refine lv_iload_n hx hb dX4_set_187 rfl (lv_at hl 2 rfl) ?_
                                refine lv_iload_n hx hb dX4_set_188 rfl (lv_at hl 4 rfl) ?_
                                refine mw_su S hK hW hS 15 rfl rfl rfl (pz_vi (n := mN 15) (by rw [show mN 15 = 8 from rfl]; omega) (by decide)) dX4_set_189 (fun H locs hW hS => ?_)
                                refine lv_goto (tgt := 200) hx hb dX4_set_190 (by decide) ?_
                                refine lv_iload hx hb dX4_set_200 (lv_at hl 0 rfl) ?_
                                exact r_i (v := r_31) hx hb hr hlocks hS dX4_set_202 (⟨_, rfl, hW⟩)
                            · skip
                              have i_34 : a2.toInt = 2 := by have h9 := pz_eq c_34; exact h9
                              refine lv_aload_n hx hb dX4_set_168 rfl (lv_at hl 1 rfl) ?_
                              refine M_g14 S hK hW dX4_set_169 ?_
                              refine lv_iload_n hx hb dX4_set_172 rfl (lv_at hl 2 rfl) ?_
                              refine lv_iload_n hx hb dX4_set_173 rfl (lv_at hl 4 rfl) ?_
                              refine mw_su S hK hW hS 14 rfl rfl rfl (pz_vi (n := mN 14) (by rw [show mN 14 = 8 from rfl]; omega) (by decide)) dX4_set_174 (fun H locs hW hS => ?_)
                              refine lv_goto (tgt := 200) hx hb dX4_set_175 (by decide) ?_
                              refine lv_iload hx hb dX4_set_200 (lv_at hl 0 rfl) ?_
                              exact r_i (v := r_31) hx hb hr hlocks hS dX4_set_202 (⟨_, rfl, hW⟩)
                          · skip
                            have i_33 : a2.toInt = 1 := by have h9 := pz_eq c_33; exact h9
                            refine lv_aload_n hx hb dX4_set_153 rfl (lv_at hl 1 rfl) ?_
                            refine M_g13 S hK hW dX4_set_154 ?_
                            refine lv_iload_n hx hb dX4_set_157 rfl (lv_at hl 2 rfl) ?_
                            refine lv_iload_n hx hb dX4_set_158 rfl (lv_at hl 4 rfl) ?_
                            refine mw_su S hK hW hS 13 rfl rfl rfl (pz_vi (n := mN 13) (by rw [show mN 13 = 8 from rfl]; omega) (by decide)) dX4_set_159 (fun H locs hW hS => ?_)
                            refine lv_goto (tgt := 200) hx hb dX4_set_160 (by decide) ?_
                            refine lv_iload hx hb dX4_set_200 (lv_at hl 0 rfl) ?_
                            exact r_i (v := r_31) hx hb hr hlocks hS dX4_set_202 (⟨_, rfl, hW⟩)
                        · skip
                          have i_32 : a2.toInt = 0 := by have h9 := pz_eq c_32; exact h9
                          refine lv_aload_n hx hb dX4_set_138 rfl (lv_at hl 1 rfl) ?_
                          refine M_g11 S hK hW dX4_set_139 ?_
                          refine lv_iload_n hx hb dX4_set_142 rfl (lv_at hl 2 rfl) ?_
                          refine lv_iload_n hx hb dX4_set_143 rfl (lv_at hl 4 rfl) ?_
                          refine mw_su S hK hW hS 11 rfl rfl rfl (pz_vi (n := mN 11) (by rw [show mN 11 = 8 from rfl]; omega) (by decide)) dX4_set_144 (fun H locs hW hS => ?_)
                          refine lv_goto (tgt := 200) hx hb dX4_set_145 (by decide) ?_
                          refine lv_iload hx hb dX4_set_200 (lv_at hl 0 rfl) ?_
                          exact r_i (v := r_31) hx hb hr hlocks hS dX4_set_202 (⟨_, rfl, hW⟩)
                      · skip
                        have i_29 : a2.toInt = 0 := by have h9 := pz_eq c_29; exact h9
                        refine lv_bipush (v := 10) hx hb dX4_set_120 (by decide) ?_
                        refine lv_goto (tgt := 129) hx hb dX4_set_122 (by decide) ?_
                        refine c_v (n := 2) (As := [.int (nI j_1), .int 10]) (rest := []) S (q_X4_serverOf l dC dI h0 R A V G ns (nI j_1) 10 hV2 (by omega)) iw_799 iw_796 iw_797 iw_798 iw_61 (by decide +kernel) rfl ⟨rfl, rfl, Nat.le_of_ble_eq_true rfl, Nat.le_of_ble_eq_true rfl⟩ Kt.blind (M_recv hK hW) hK.at hW hl.1 rfl (Nat.le_of_ble_eq_true rfl) dX4_set_129 ⟨Nat.le_refl _, Nat.le_refl _⟩ hS (fun _ h9 => h9) (fun v9 H locs hB hz9 hk9 hS => ?_)
                        refine W.widen (k := 0) (n := 0) (Nat.le_refl 0) (Nat.le_refl 0) ?_
                        obtain ⟨r_36, rfl, hW⟩ := hB
                        refine W.eq (g2 := F0 m 132 ls [.int r_36]) rfl ?_
                        refine lv_istore (lv' := [(4, .int r_36), (0, .ref h0), (1, .int (nI j_1)), (2, .int a2), (3, .int a3)]) hx hb dX4_set_132 hl (by decide) rfl (fun ls hl => ?_)
                        refine lv_iload_n hx hb dX4_set_134 rfl (lv_at hl 3 rfl) ?_
                        refine lv_if_ne (tgt := 148) hx hb dX4_set_135 (by decide) (fun c_37 => ?_) (fun c_37 => ?_)
                        · skip
                          have i_37 : ¬ a2.toInt = 0 := by have h9 := pz_neq c_37; exact h9
                          refine lv_iload_n hx hb dX4_set_148 rfl (lv_at hl 3 rfl) ?_
                          refine lv_iconst (v := 1) hx hb dX4_set_149 (by decide) ?_
                          refine lv_icmp_ne (tgt := 163) hx hb dX4_set_150 (by decide) (fun c_38 => ?_) (fun c_38 => ?_)
                          · skip
                            have i_38 : ¬ a2.toInt = 1 := by have h9 := pz_neq c_38; exact h9
                            refine lv_iload_n hx hb dX4_set_163 rfl (lv_at hl 3 rfl) ?_
                            refine lv_iconst (v := 2) hx hb dX4_set_164 (by decide) ?_
                            refine lv_icmp_ne (tgt := 178) hx hb dX4_set_165 (by decide) (fun c_39 => ?_) (fun c_39 => ?_)
                            · skip
                              have i_39 : ¬ a2.toInt = 2 := by have h9 := pz_neq c_39; exact h9
                              refine lv_iload_n hx hb dX4_set_178 rfl (lv_at hl 3 rfl) ?_
                              refine lv_iconst (v := 3) hx hb dX4_set_179 (by decide) ?_
                              refine lv_icmp_ne (tgt := 193) hx hb dX4_set_180 (by decide) (fun c_40 => ?_) (fun c_40 => ?_)
                              · skip
                                have i_40 : ¬ a2.toInt = 3 := by have h9 := pz_neq c_40; exact h9
                                refine lv_aload_n hx hb dX4_set_193 rfl (lv_at hl 1 rfl) ?_
                                refine M_g16 S hK hW dX4_set_194 ?_
                                refine lv_iload_n hx hb dX4_set_197 rfl (lv_at hl 2 rfl) ?_
                                refine lv_iload_n hx hb dX4_set_198 rfl (lv_at hl 4 rfl) ?_
                                refine mw_su S hK hW hS 16 rfl rfl rfl (pz_vi (n := mN 16) (by rw [show mN 16 = 8 from rfl]; omega) (by decide)) dX4_set_199 (fun H locs hW hS => ?_)
                                refine lv_iload hx hb dX4_set_200 (lv_at hl 0 rfl) ?_
                                exact r_i (v := r_36) hx hb hr hlocks hS dX4_set_202 (⟨_, rfl, hW⟩)
                              · skip
                                have i_40 : a2.toInt = 3 := by have h9 := pz_eq c_40; exact h9
                                refine lv_aload_n hx hb dX4_set_183 rfl (lv_at hl 1 rfl) ?_
                                refine M_g15 S hK hW dX4_set_184 ?_
                                refine lv_iload_n hx hb dX4_set_187 rfl (lv_at hl 2 rfl) ?_
                                refine lv_iload_n hx hb dX4_set_188 rfl (lv_at hl 4 rfl) ?_
                                refine mw_su S hK hW hS 15 rfl rfl rfl (pz_vi (n := mN 15) (by rw [show mN 15 = 8 from rfl]; omega) (by decide)) dX4_set_189 (fun H locs hW hS => ?_)
                                refine lv_goto (tgt := 200) hx hb dX4_set_190 (by decide) ?_
                                refine lv_iload hx hb dX4_set_200 (lv_at hl 0 rfl) ?_
                                exact r_i (v := r_36) hx hb hr hlocks hS dX4_set_202 (⟨_, rfl, hW⟩)
                            · skip
                              have i_39 : a2.toInt = 2 := by have h9 := pz_eq c_39; exact h9
                              refine lv_aload_n hx hb dX4_set_168 rfl (lv_at hl 1 rfl) ?_
                              refine M_g14 S hK hW dX4_set_169 ?_
                              refine lv_iload_n hx hb dX4_set_172 rfl (lv_at hl 2 rfl) ?_
                              refine lv_iload_n hx hb dX4_set_173 rfl (lv_at hl 4 rfl) ?_
                              refine mw_su S hK hW hS 14 rfl rfl rfl (pz_vi (n := mN 14) (by rw [show mN 14 = 8 from rfl]; omega) (by decide)) dX4_set_174 (fun H locs hW hS => ?_)
                              refine lv_goto (tgt := 200) hx hb dX4_set_175 (by decide) ?_
                              refine lv_iload hx hb dX4_set_200 (lv_at hl 0 rfl) ?_
                              exact r_i (v := r_36) hx hb hr hlocks hS dX4_set_202 (⟨_, rfl, hW⟩)
                          · skip
                            have i_38 : a2.toInt = 1 := by have h9 := pz_eq c_38; exact h9
                            refine lv_aload_n hx hb dX4_set_153 rfl (lv_at hl 1 rfl) ?_
                            refine M_g13 S hK hW dX4_set_154 ?_
                            refine lv_iload_n hx hb dX4_set_157 rfl (lv_at hl 2 rfl) ?_
                            refine lv_iload_n hx hb dX4_set_158 rfl (lv_at hl 4 rfl) ?_
                            refine mw_su S hK hW hS 13 rfl rfl rfl (pz_vi (n := mN 13) (by rw [show mN 13 = 8 from rfl]; omega) (by decide)) dX4_set_159 (fun H locs hW hS => ?_)
                            refine lv_goto (tgt := 200) hx hb dX4_set_160 (by decide) ?_
                            refine lv_iload hx hb dX4_set_200 (lv_at hl 0 rfl) ?_
                            exact r_i (v := r_36) hx hb hr hlocks hS dX4_set_202 (⟨_, rfl, hW⟩)
                        · skip
                          have i_37 : a2.toInt = 0 := by have h9 := pz_eq c_37; exact h9
                          refine lv_aload_n hx hb dX4_set_138 rfl (lv_at hl 1 rfl) ?_
                          refine M_g11 S hK hW dX4_set_139 ?_
                          refine lv_iload_n hx hb dX4_set_142 rfl (lv_at hl 2 rfl) ?_
                          refine lv_iload_n hx hb dX4_set_143 rfl (lv_at hl 4 rfl) ?_
                          refine mw_su S hK hW hS 11 rfl rfl rfl (pz_vi (n := mN 11) (by rw [show mN 11 = 8 from rfl]; omega) (by decide)) dX4_set_144 (fun H locs hW hS => ?_)
                          refine lv_goto (tgt := 200) hx hb dX4_set_145 (by decide) ?_
                          refine lv_iload hx hb dX4_set_200 (lv_at hl 0 rfl) ?_
                          exact r_i (v := r_36) hx hb hr hlocks hS dX4_set_202 (⟨_, rfl, hW⟩)
                    · skip
                      have i_28 : a3.toInt > 1 := by have h9 := pz_nle c_28; exact h9
                      refine lv_aload_n hx hb dX4_set_107 rfl (lv_at hl 0 rfl) ?_
                      refine lv_bipush (v := (-6)) hx hb dX4_set_108 (by decide) ?_
                      refine c_v (n := 1) (As := [.int (-6)]) (rest := []) S (q_X4_refuse l dC dI h0 R A V G (-6) (by unfold vp_in; decide)) iw_787 iw_784 iw_786 iw_33 iw_61 (by decide +kernel) rfl ⟨rfl, rfl, Nat.le_of_ble_eq_true rfl, Nat.le_of_ble_eq_true rfl⟩ Kt.blind (M_recv hK hW) hK.at hW hl.1 rfl (Nat.le_of_ble_eq_true rfl) dX4_set_110 ⟨Nat.le_refl _, Nat.le_refl _⟩ hS (fun _ h9 => h9) (fun v9 H locs hB hz9 hk9 hS => ?_)
                      refine W.widen (k := 0) (n := 0) (Nat.le_refl 0) (Nat.le_refl 0) ?_
                      obtain ⟨_, rfl, rfl, hW⟩ := hB
                      refine W.eq (g2 := F0 m 113 ls [.int (-6)]) rfl ?_
                      exact r_i (v := (-6)) hx hb hr hlocks hS dX4_set_113 (⟨_, rfl, hW⟩)
                  · skip
                    have i_27 : a2.toInt = 2 := by have h9 := pz_eq c_27; exact h9
                    refine lv_sipush (v := 200) hx hb dX4_set_97 (by decide) ?_
                    refine lv_goto (tgt := 104) hx hb dX4_set_100 (by decide) ?_
                    refine lv_icmp_le (tgt := 114) hx hb dX4_set_104 (by decide) (fun c_42 => ?_) (fun c_42 => ?_)
                    · skip
                      have i_42 : a3.toInt ≤ 200 := by have h9 := pz_le c_42; exact h9
                      refine lv_aload_n hx hb dX4_set_114 rfl (lv_at hl 0 rfl) ?_
                      refine lv_iload_n hx hb dX4_set_115 rfl (lv_at hl 1 rfl) ?_
                      refine lv_iload_n hx hb dX4_set_116 rfl (lv_at hl 2 rfl) ?_
                      refine lv_if_ne (tgt := 125) hx hb dX4_set_117 (by decide) (fun c_43 => ?_) (fun c_43 => ?_)
                      · skip
                        have i_43 : ¬ a2.toInt = 0 := by have h9 := pz_neq c_43; exact h9
                        refine lv_bipush (v := 11) hx hb dX4_set_125 (by decide) ?_
                        refine lv_iload_n hx hb dX4_set_127 rfl (lv_at hl 2 rfl) ?_
                        refine lv_iadd hx hb dX4_set_128 ?_
                        refine lv_topi (fun x_44 _ => ?_)
                        refine c_v (n := 2) (As := [.int (nI j_1), .int x_44]) (rest := []) S (q_X4_serverOf l dC dI h0 R A V G ns (nI j_1) x_44 hV2 (by omega)) iw_799 iw_796 iw_797 iw_798 iw_61 (by decide +kernel) rfl ⟨rfl, rfl, Nat.le_of_ble_eq_true rfl, Nat.le_of_ble_eq_true rfl⟩ Kt.blind (M_recv hK hW) hK.at hW hl.1 rfl (Nat.le_of_ble_eq_true rfl) dX4_set_129 ⟨Nat.le_refl _, Nat.le_refl _⟩ hS (fun _ h9 => h9) (fun v9 H locs hB hz9 hk9 hS => ?_)
                        refine W.widen (k := 0) (n := 0) (Nat.le_refl 0) (Nat.le_refl 0) ?_
                        obtain ⟨r_45, rfl, hW⟩ := hB
                        refine W.eq (g2 := F0 m 132 ls [.int r_45]) rfl ?_
                        refine lv_istore (lv' := [(4, .int r_45), (0, .ref h0), (1, .int (nI j_1)), (2, .int a2), (3, .int a3)]) hx hb dX4_set_132 hl (by decide) rfl (fun ls hl => ?_)
                        refine lv_iload_n hx hb dX4_set_134 rfl (lv_at hl 3 rfl) ?_
                        refine lv_if_ne (tgt := 148) hx hb dX4_set_135 (by decide) (fun c_46 => ?_) (fun c_46 => ?_)
                        · skip
                          have i_46 : ¬ a2.toInt = 0 := by have h9 := pz_neq c_46; exact h9
                          refine lv_iload_n hx hb dX4_set_148 rfl (lv_at hl 3 rfl) ?_
                          refine lv_iconst (v := 1) hx hb dX4_set_149 (by decide) ?_
                          refine lv_icmp_ne (tgt := 163) hx hb dX4_set_150 (by decide) (fun c_47 => ?_) (fun c_47 => ?_)
                          · skip
                            have i_47 : ¬ a2.toInt = 1 := by have h9 := pz_neq c_47; exact h9
                            refine lv_iload_n hx hb dX4_set_163 rfl (lv_at hl 3 rfl) ?_
                            refine lv_iconst (v := 2) hx hb dX4_set_164 (by decide) ?_
                            refine lv_icmp_ne (tgt := 178) hx hb dX4_set_165 (by decide) (fun c_48 => ?_) (fun c_48 => ?_)
                            · skip
                              have i_48 : ¬ a2.toInt = 2 := by have h9 := pz_neq c_48; exact h9
                              refine lv_iload_n hx hb dX4_set_178 rfl (lv_at hl 3 rfl) ?_
                              refine lv_iconst (v := 3) hx hb dX4_set_179 (by decide) ?_
                              refine lv_icmp_ne (tgt := 193) hx hb dX4_set_180 (by decide) (fun c_49 => ?_) (fun c_49 => ?_)
                              · skip
                                have i_49 : ¬ a2.toInt = 3 := by have h9 := pz_neq c_49; exact h9
                                refine lv_aload_n hx hb dX4_set_193 rfl (lv_at hl 1 rfl) ?_
                                refine M_g16 S hK hW dX4_set_194 ?_
                                refine lv_iload_n hx hb dX4_set_197 rfl (lv_at hl 2 rfl) ?_
                                refine lv_iload_n hx hb dX4_set_198 rfl (lv_at hl 4 rfl) ?_
                                refine mw_su S hK hW hS 16 rfl rfl rfl (pz_vi (n := mN 16) (by rw [show mN 16 = 8 from rfl]; omega) (by decide)) dX4_set_199 (fun H locs hW hS => ?_)
                                refine lv_iload hx hb dX4_set_200 (lv_at hl 0 rfl) ?_
                                exact r_i (v := r_45) hx hb hr hlocks hS dX4_set_202 (⟨_, rfl, hW⟩)
                              · skip
                                have i_49 : a2.toInt = 3 := by have h9 := pz_eq c_49; exact h9
                                refine lv_aload_n hx hb dX4_set_183 rfl (lv_at hl 1 rfl) ?_
                                refine M_g15 S hK hW dX4_set_184 ?_
                                refine lv_iload_n hx hb dX4_set_187 rfl (lv_at hl 2 rfl) ?_
                                refine lv_iload_n hx hb dX4_set_188 rfl (lv_at hl 4 rfl) ?_
                                refine mw_su S hK hW hS 15 rfl rfl rfl (pz_vi (n := mN 15) (by rw [show mN 15 = 8 from rfl]; omega) (by decide)) dX4_set_189 (fun H locs hW hS => ?_)
                                refine lv_goto (tgt := 200) hx hb dX4_set_190 (by decide) ?_
                                refine lv_iload hx hb dX4_set_200 (lv_at hl 0 rfl) ?_
                                exact r_i (v := r_45) hx hb hr hlocks hS dX4_set_202 (⟨_, rfl, hW⟩)
                            · skip
                              have i_48 : a2.toInt = 2 := by have h9 := pz_eq c_48; exact h9
                              refine lv_aload_n hx hb dX4_set_168 rfl (lv_at hl 1 rfl) ?_
                              refine M_g14 S hK hW dX4_set_169 ?_
                              refine lv_iload_n hx hb dX4_set_172 rfl (lv_at hl 2 rfl) ?_
                              refine lv_iload_n hx hb dX4_set_173 rfl (lv_at hl 4 rfl) ?_
                              refine mw_su S hK hW hS 14 rfl rfl rfl (pz_vi (n := mN 14) (by rw [show mN 14 = 8 from rfl]; omega) (by decide)) dX4_set_174 (fun H locs hW hS => ?_)
                              refine lv_goto (tgt := 200) hx hb dX4_set_175 (by decide) ?_
                              refine lv_iload hx hb dX4_set_200 (lv_at hl 0 rfl) ?_
                              exact r_i (v := r_45) hx hb hr hlocks hS dX4_set_202 (⟨_, rfl, hW⟩)
                          · skip
                            have i_47 : a2.toInt = 1 := by have h9 := pz_eq c_47; exact h9
                            refine lv_aload_n hx hb dX4_set_153 rfl (lv_at hl 1 rfl) ?_
                            refine M_g13 S hK hW dX4_set_154 ?_
                            refine lv_iload_n hx hb dX4_set_157 rfl (lv_at hl 2 rfl) ?_
                            refine lv_iload_n hx hb dX4_set_158 rfl (lv_at hl 4 rfl) ?_
                            refine mw_su S hK hW hS 13 rfl rfl rfl (pz_vi (n := mN 13) (by rw [show mN 13 = 8 from rfl]; omega) (by decide)) dX4_set_159 (fun H locs hW hS => ?_)
                            refine lv_goto (tgt := 200) hx hb dX4_set_160 (by decide) ?_
                            refine lv_iload hx hb dX4_set_200 (lv_at hl 0 rfl) ?_
                            exact r_i (v := r_45) hx hb hr hlocks hS dX4_set_202 (⟨_, rfl, hW⟩)
                        · skip
                          have i_46 : a2.toInt = 0 := by have h9 := pz_eq c_46; exact h9
                          refine lv_aload_n hx hb dX4_set_138 rfl (lv_at hl 1 rfl) ?_
                          refine M_g11 S hK hW dX4_set_139 ?_
                          refine lv_iload_n hx hb dX4_set_142 rfl (lv_at hl 2 rfl) ?_
                          refine lv_iload_n hx hb dX4_set_143 rfl (lv_at hl 4 rfl) ?_
                          refine mw_su S hK hW hS 11 rfl rfl rfl (pz_vi (n := mN 11) (by rw [show mN 11 = 8 from rfl]; omega) (by decide)) dX4_set_144 (fun H locs hW hS => ?_)
                          refine lv_goto (tgt := 200) hx hb dX4_set_145 (by decide) ?_
                          refine lv_iload hx hb dX4_set_200 (lv_at hl 0 rfl) ?_
                          exact r_i (v := r_45) hx hb hr hlocks hS dX4_set_202 (⟨_, rfl, hW⟩)
                      · skip
                        have i_43 : a2.toInt = 0 := by have h9 := pz_eq c_43; exact h9
                        refine lv_bipush (v := 10) hx hb dX4_set_120 (by decide) ?_
                        refine lv_goto (tgt := 129) hx hb dX4_set_122 (by decide) ?_
                        refine c_v (n := 2) (As := [.int (nI j_1), .int 10]) (rest := []) S (q_X4_serverOf l dC dI h0 R A V G ns (nI j_1) 10 hV2 (by omega)) iw_799 iw_796 iw_797 iw_798 iw_61 (by decide +kernel) rfl ⟨rfl, rfl, Nat.le_of_ble_eq_true rfl, Nat.le_of_ble_eq_true rfl⟩ Kt.blind (M_recv hK hW) hK.at hW hl.1 rfl (Nat.le_of_ble_eq_true rfl) dX4_set_129 ⟨Nat.le_refl _, Nat.le_refl _⟩ hS (fun _ h9 => h9) (fun v9 H locs hB hz9 hk9 hS => ?_)
                        refine W.widen (k := 0) (n := 0) (Nat.le_refl 0) (Nat.le_refl 0) ?_
                        obtain ⟨r_50, rfl, hW⟩ := hB
                        refine W.eq (g2 := F0 m 132 ls [.int r_50]) rfl ?_
                        refine lv_istore (lv' := [(4, .int r_50), (0, .ref h0), (1, .int (nI j_1)), (2, .int a2), (3, .int a3)]) hx hb dX4_set_132 hl (by decide) rfl (fun ls hl => ?_)
                        refine lv_iload_n hx hb dX4_set_134 rfl (lv_at hl 3 rfl) ?_
                        refine lv_if_ne (tgt := 148) hx hb dX4_set_135 (by decide) (fun c_51 => ?_) (fun c_51 => ?_)
                        · skip
                          have i_51 : ¬ a2.toInt = 0 := by have h9 := pz_neq c_51; exact h9
                          refine lv_iload_n hx hb dX4_set_148 rfl (lv_at hl 3 rfl) ?_
                          refine lv_iconst (v := 1) hx hb dX4_set_149 (by decide) ?_
                          refine lv_icmp_ne (tgt := 163) hx hb dX4_set_150 (by decide) (fun c_52 => ?_) (fun c_52 => ?_)
                          · skip
                            have i_52 : ¬ a2.toInt = 1 := by have h9 := pz_neq c_52; exact h9
                            refine lv_iload_n hx hb dX4_set_163 rfl (lv_at hl 3 rfl) ?_
                            refine lv_iconst (v := 2) hx hb dX4_set_164 (by decide) ?_
                            refine lv_icmp_ne (tgt := 178) hx hb dX4_set_165 (by decide) (fun c_53 => ?_) (fun c_53 => ?_)
                            · skip
                              have i_53 : ¬ a2.toInt = 2 := by have h9 := pz_neq c_53; exact h9
                              refine lv_iload_n hx hb dX4_set_178 rfl (lv_at hl 3 rfl) ?_
                              refine lv_iconst (v := 3) hx hb dX4_set_179 (by decide) ?_
                              refine lv_icmp_ne (tgt := 193) hx hb dX4_set_180 (by decide) (fun c_54 => ?_) (fun c_54 => ?_)
                              · skip
                                have i_54 : ¬ a2.toInt = 3 := by have h9 := pz_neq c_54; exact h9
                                refine lv_aload_n hx hb dX4_set_193 rfl (lv_at hl 1 rfl) ?_
                                refine M_g16 S hK hW dX4_set_194 ?_
                                refine lv_iload_n hx hb dX4_set_197 rfl (lv_at hl 2 rfl) ?_
                                refine lv_iload_n hx hb dX4_set_198 rfl (lv_at hl 4 rfl) ?_
                                refine mw_su S hK hW hS 16 rfl rfl rfl (pz_vi (n := mN 16) (by rw [show mN 16 = 8 from rfl]; omega) (by decide)) dX4_set_199 (fun H locs hW hS => ?_)
                                refine lv_iload hx hb dX4_set_200 (lv_at hl 0 rfl) ?_
                                exact r_i (v := r_50) hx hb hr hlocks hS dX4_set_202 (⟨_, rfl, hW⟩)
                              · skip
                                have i_54 : a2.toInt = 3 := by have h9 := pz_eq c_54; exact h9
                                refine lv_aload_n hx hb dX4_set_183 rfl (lv_at hl 1 rfl) ?_
                                refine M_g15 S hK hW dX4_set_184 ?_
                                refine lv_iload_n hx hb dX4_set_187 rfl (lv_at hl 2 rfl) ?_
                                refine lv_iload_n hx hb dX4_set_188 rfl (lv_at hl 4 rfl) ?_
                                refine mw_su S hK hW hS 15 rfl rfl rfl (pz_vi (n := mN 15) (by rw [show mN 15 = 8 from rfl]; omega) (by decide)) dX4_set_189 (fun H locs hW hS => ?_)
                                refine lv_goto (tgt := 200) hx hb dX4_set_190 (by decide) ?_
                                refine lv_iload hx hb dX4_set_200 (lv_at hl 0 rfl) ?_
                                exact r_i (v := r_50) hx hb hr hlocks hS dX4_set_202 (⟨_, rfl, hW⟩)
                            · skip
                              have i_53 : a2.toInt = 2 := by have h9 := pz_eq c_53; exact h9
                              refine lv_aload_n hx hb dX4_set_168 rfl (lv_at hl 1 rfl) ?_
                              refine M_g14 S hK hW dX4_set_169 ?_
                              refine lv_iload_n hx hb dX4_set_172 rfl (lv_at hl 2 rfl) ?_
                              refine lv_iload_n hx hb dX4_set_173 rfl (lv_at hl 4 rfl) ?_
                              refine mw_su S hK hW hS 14 rfl rfl rfl (pz_vi (n := mN 14) (by rw [show mN 14 = 8 from rfl]; omega) (by decide)) dX4_set_174 (fun H locs hW hS => ?_)
                              refine lv_goto (tgt := 200) hx hb dX4_set_175 (by decide) ?_
                              refine lv_iload hx hb dX4_set_200 (lv_at hl 0 rfl) ?_
                              exact r_i (v := r_50) hx hb hr hlocks hS dX4_set_202 (⟨_, rfl, hW⟩)
                          · skip
                            have i_52 : a2.toInt = 1 := by have h9 := pz_eq c_52; exact h9
                            refine lv_aload_n hx hb dX4_set_153 rfl (lv_at hl 1 rfl) ?_
                            refine M_g13 S hK hW dX4_set_154 ?_
                            refine lv_iload_n hx hb dX4_set_157 rfl (lv_at hl 2 rfl) ?_
                            refine lv_iload_n hx hb dX4_set_158 rfl (lv_at hl 4 rfl) ?_
                            refine mw_su S hK hW hS 13 rfl rfl rfl (pz_vi (n := mN 13) (by rw [show mN 13 = 8 from rfl]; omega) (by decide)) dX4_set_159 (fun H locs hW hS => ?_)
                            refine lv_goto (tgt := 200) hx hb dX4_set_160 (by decide) ?_
                            refine lv_iload hx hb dX4_set_200 (lv_at hl 0 rfl) ?_
                            exact r_i (v := r_50) hx hb hr hlocks hS dX4_set_202 (⟨_, rfl, hW⟩)
                        · skip
                          have i_51 : a2.toInt = 0 := by have h9 := pz_eq c_51; exact h9
                          refine lv_aload_n hx hb dX4_set_138 rfl (lv_at hl 1 rfl) ?_
                          refine M_g11 S hK hW dX4_set_139 ?_
                          refine lv_iload_n hx hb dX4_set_142 rfl (lv_at hl 2 rfl) ?_
                          refine lv_iload_n hx hb dX4_set_143 rfl (lv_at hl 4 rfl) ?_
                          refine mw_su S hK hW hS 11 rfl rfl rfl (pz_vi (n := mN 11) (by rw [show mN 11 = 8 from rfl]; omega) (by decide)) dX4_set_144 (fun H locs hW hS => ?_)
                          refine lv_goto (tgt := 200) hx hb dX4_set_145 (by decide) ?_
                          refine lv_iload hx hb dX4_set_200 (lv_at hl 0 rfl) ?_
                          exact r_i (v := r_50) hx hb hr hlocks hS dX4_set_202 (⟨_, rfl, hW⟩)
                    · skip
                      have i_42 : a3.toInt > 200 := by have h9 := pz_nle c_42; exact h9
                      refine lv_aload_n hx hb dX4_set_107 rfl (lv_at hl 0 rfl) ?_
                      refine lv_bipush (v := (-6)) hx hb dX4_set_108 (by decide) ?_
                      refine c_v (n := 1) (As := [.int (-6)]) (rest := []) S (q_X4_refuse l dC dI h0 R A V G (-6) (by unfold vp_in; decide)) iw_787 iw_784 iw_786 iw_33 iw_61 (by decide +kernel) rfl ⟨rfl, rfl, Nat.le_of_ble_eq_true rfl, Nat.le_of_ble_eq_true rfl⟩ Kt.blind (M_recv hK hW) hK.at hW hl.1 rfl (Nat.le_of_ble_eq_true rfl) dX4_set_110 ⟨Nat.le_refl _, Nat.le_refl _⟩ hS (fun _ h9 => h9) (fun v9 H locs hB hz9 hk9 hS => ?_)
                      refine W.widen (k := 0) (n := 0) (Nat.le_refl 0) (Nat.le_refl 0) ?_
                      obtain ⟨_, rfl, rfl, hW⟩ := hB
                      refine W.eq (g2 := F0 m 113 ls [.int (-6)]) rfl ?_
                      exact r_i (v := (-6)) hx hb hr hlocks hS dX4_set_113 (⟨_, rfl, hW⟩)
                · skip
                  have i_26 : a2.toInt = 3 := by have h9 := pz_eq c_26; exact h9
                  refine lv_bipush (v := 20) hx hb dX4_set_87 (by decide) ?_
                  refine lv_goto (tgt := 104) hx hb dX4_set_89 (by decide) ?_
                  refine lv_icmp_le (tgt := 114) hx hb dX4_set_104 (by decide) (fun c_56 => ?_) (fun c_56 => ?_)
                  · skip
                    have i_56 : a3.toInt ≤ 20 := by have h9 := pz_le c_56; exact h9
                    refine lv_aload_n hx hb dX4_set_114 rfl (lv_at hl 0 rfl) ?_
                    refine lv_iload_n hx hb dX4_set_115 rfl (lv_at hl 1 rfl) ?_
                    refine lv_iload_n hx hb dX4_set_116 rfl (lv_at hl 2 rfl) ?_
                    refine lv_if_ne (tgt := 125) hx hb dX4_set_117 (by decide) (fun c_57 => ?_) (fun c_57 => ?_)
                    · skip
                      have i_57 : ¬ a2.toInt = 0 := by have h9 := pz_neq c_57; exact h9
                      refine lv_bipush (v := 11) hx hb dX4_set_125 (by decide) ?_
                      refine lv_iload_n hx hb dX4_set_127 rfl (lv_at hl 2 rfl) ?_
                      refine lv_iadd hx hb dX4_set_128 ?_
                      refine lv_topi (fun x_58 _ => ?_)
                      refine c_v (n := 2) (As := [.int (nI j_1), .int x_58]) (rest := []) S (q_X4_serverOf l dC dI h0 R A V G ns (nI j_1) x_58 hV2 (by omega)) iw_799 iw_796 iw_797 iw_798 iw_61 (by decide +kernel) rfl ⟨rfl, rfl, Nat.le_of_ble_eq_true rfl, Nat.le_of_ble_eq_true rfl⟩ Kt.blind (M_recv hK hW) hK.at hW hl.1 rfl (Nat.le_of_ble_eq_true rfl) dX4_set_129 ⟨Nat.le_refl _, Nat.le_refl _⟩ hS (fun _ h9 => h9) (fun v9 H locs hB hz9 hk9 hS => ?_)
                      refine W.widen (k := 0) (n := 0) (Nat.le_refl 0) (Nat.le_refl 0) ?_
                      obtain ⟨r_59, rfl, hW⟩ := hB
                      refine W.eq (g2 := F0 m 132 ls [.int r_59]) rfl ?_
                      refine lv_istore (lv' := [(4, .int r_59), (0, .ref h0), (1, .int (nI j_1)), (2, .int a2), (3, .int a3)]) hx hb dX4_set_132 hl (by decide) rfl (fun ls hl => ?_)
                      refine lv_iload_n hx hb dX4_set_134 rfl (lv_at hl 3 rfl) ?_
                      refine lv_if_ne (tgt := 148) hx hb dX4_set_135 (by decide) (fun c_60 => ?_) (fun c_60 => ?_)
                      · skip
                        have i_60 : ¬ a2.toInt = 0 := by have h9 := pz_neq c_60; exact h9
                        refine lv_iload_n hx hb dX4_set_148 rfl (lv_at hl 3 rfl) ?_
                        refine lv_iconst (v := 1) hx hb dX4_set_149 (by decide) ?_
                        refine lv_icmp_ne (tgt := 163) hx hb dX4_set_150 (by decide) (fun c_61 => ?_) (fun c_61 => ?_)
                        · skip
                          have i_61 : ¬ a2.toInt = 1 := by have h9 := pz_neq c_61; exact h9
                          refine lv_iload_n hx hb dX4_set_163 rfl (lv_at hl 3 rfl) ?_
                          refine lv_iconst (v := 2) hx hb dX4_set_164 (by decide) ?_
                          refine lv_icmp_ne (tgt := 178) hx hb dX4_set_165 (by decide) (fun c_62 => ?_) (fun c_62 => ?_)
                          · skip
                            have i_62 : ¬ a2.toInt = 2 := by have h9 := pz_neq c_62; exact h9
                            refine lv_iload_n hx hb dX4_set_178 rfl (lv_at hl 3 rfl) ?_
                            refine lv_iconst (v := 3) hx hb dX4_set_179 (by decide) ?_
                            refine lv_icmp_ne (tgt := 193) hx hb dX4_set_180 (by decide) (fun c_63 => ?_) (fun c_63 => ?_)
                            · skip
                              have i_63 : ¬ a2.toInt = 3 := by have h9 := pz_neq c_63; exact h9
                              refine lv_aload_n hx hb dX4_set_193 rfl (lv_at hl 1 rfl) ?_
                              refine M_g16 S hK hW dX4_set_194 ?_
                              refine lv_iload_n hx hb dX4_set_197 rfl (lv_at hl 2 rfl) ?_
                              refine lv_iload_n hx hb dX4_set_198 rfl (lv_at hl 4 rfl) ?_
                              refine mw_su S hK hW hS 16 rfl rfl rfl (pz_vi (n := mN 16) (by rw [show mN 16 = 8 from rfl]; omega) (by decide)) dX4_set_199 (fun H locs hW hS => ?_)
                              refine lv_iload hx hb dX4_set_200 (lv_at hl 0 rfl) ?_
                              exact r_i (v := r_59) hx hb hr hlocks hS dX4_set_202 (⟨_, rfl, hW⟩)
                            · skip
                              have i_63 : a2.toInt = 3 := by have h9 := pz_eq c_63; exact h9
                              refine lv_aload_n hx hb dX4_set_183 rfl (lv_at hl 1 rfl) ?_
                              refine M_g15 S hK hW dX4_set_184 ?_
                              refine lv_iload_n hx hb dX4_set_187 rfl (lv_at hl 2 rfl) ?_
                              refine lv_iload_n hx hb dX4_set_188 rfl (lv_at hl 4 rfl) ?_
                              refine mw_su S hK hW hS 15 rfl rfl rfl (pz_vi (n := mN 15) (by rw [show mN 15 = 8 from rfl]; omega) (by decide)) dX4_set_189 (fun H locs hW hS => ?_)
                              refine lv_goto (tgt := 200) hx hb dX4_set_190 (by decide) ?_
                              refine lv_iload hx hb dX4_set_200 (lv_at hl 0 rfl) ?_
                              exact r_i (v := r_59) hx hb hr hlocks hS dX4_set_202 (⟨_, rfl, hW⟩)
                          · skip
                            have i_62 : a2.toInt = 2 := by have h9 := pz_eq c_62; exact h9
                            refine lv_aload_n hx hb dX4_set_168 rfl (lv_at hl 1 rfl) ?_
                            refine M_g14 S hK hW dX4_set_169 ?_
                            refine lv_iload_n hx hb dX4_set_172 rfl (lv_at hl 2 rfl) ?_
                            refine lv_iload_n hx hb dX4_set_173 rfl (lv_at hl 4 rfl) ?_
                            refine mw_su S hK hW hS 14 rfl rfl rfl (pz_vi (n := mN 14) (by rw [show mN 14 = 8 from rfl]; omega) (by decide)) dX4_set_174 (fun H locs hW hS => ?_)
                            refine lv_goto (tgt := 200) hx hb dX4_set_175 (by decide) ?_
                            refine lv_iload hx hb dX4_set_200 (lv_at hl 0 rfl) ?_
                            exact r_i (v := r_59) hx hb hr hlocks hS dX4_set_202 (⟨_, rfl, hW⟩)
                        · skip
                          have i_61 : a2.toInt = 1 := by have h9 := pz_eq c_61; exact h9
                          refine lv_aload_n hx hb dX4_set_153 rfl (lv_at hl 1 rfl) ?_
                          refine M_g13 S hK hW dX4_set_154 ?_
                          refine lv_iload_n hx hb dX4_set_157 rfl (lv_at hl 2 rfl) ?_
                          refine lv_iload_n hx hb dX4_set_158 rfl (lv_at hl 4 rfl) ?_
                          refine mw_su S hK hW hS 13 rfl rfl rfl (pz_vi (n := mN 13) (by rw [show mN 13 = 8 from rfl]; omega) (by decide)) dX4_set_159 (fun H locs hW hS => ?_)
                          refine lv_goto (tgt := 200) hx hb dX4_set_160 (by decide) ?_
                          refine lv_iload hx hb dX4_set_200 (lv_at hl 0 rfl) ?_
                          exact r_i (v := r_59) hx hb hr hlocks hS dX4_set_202 (⟨_, rfl, hW⟩)
                      · skip
                        have i_60 : a2.toInt = 0 := by have h9 := pz_eq c_60; exact h9
                        refine lv_aload_n hx hb dX4_set_138 rfl (lv_at hl 1 rfl) ?_
                        refine M_g11 S hK hW dX4_set_139 ?_
                        refine lv_iload_n hx hb dX4_set_142 rfl (lv_at hl 2 rfl) ?_
                        refine lv_iload_n hx hb dX4_set_143 rfl (lv_at hl 4 rfl) ?_
                        refine mw_su S hK hW hS 11 rfl rfl rfl (pz_vi (n := mN 11) (by rw [show mN 11 = 8 from rfl]; omega) (by decide)) dX4_set_144 (fun H locs hW hS => ?_)
                        refine lv_goto (tgt := 200) hx hb dX4_set_145 (by decide) ?_
                        refine lv_iload hx hb dX4_set_200 (lv_at hl 0 rfl) ?_
                        exact r_i (v := r_59) hx hb hr hlocks hS dX4_set_202 (⟨_, rfl, hW⟩)
                    · skip
                      have i_57 : a2.toInt = 0 := by have h9 := pz_eq c_57; exact h9
                      refine lv_bipush (v := 10) hx hb dX4_set_120 (by decide) ?_
                      refine lv_goto (tgt := 129) hx hb dX4_set_122 (by decide) ?_
                      refine c_v (n := 2) (As := [.int (nI j_1), .int 10]) (rest := []) S (q_X4_serverOf l dC dI h0 R A V G ns (nI j_1) 10 hV2 (by omega)) iw_799 iw_796 iw_797 iw_798 iw_61 (by decide +kernel) rfl ⟨rfl, rfl, Nat.le_of_ble_eq_true rfl, Nat.le_of_ble_eq_true rfl⟩ Kt.blind (M_recv hK hW) hK.at hW hl.1 rfl (Nat.le_of_ble_eq_true rfl) dX4_set_129 ⟨Nat.le_refl _, Nat.le_refl _⟩ hS (fun _ h9 => h9) (fun v9 H locs hB hz9 hk9 hS => ?_)
                      refine W.widen (k := 0) (n := 0) (Nat.le_refl 0) (Nat.le_refl 0) ?_
                      obtain ⟨r_64, rfl, hW⟩ := hB
                      refine W.eq (g2 := F0 m 132 ls [.int r_64]) rfl ?_
                      refine lv_istore (lv' := [(4, .int r_64), (0, .ref h0), (1, .int (nI j_1)), (2, .int a2), (3, .int a3)]) hx hb dX4_set_132 hl (by decide) rfl (fun ls hl => ?_)
                      refine lv_iload_n hx hb dX4_set_134 rfl (lv_at hl 3 rfl) ?_
                      refine lv_if_ne (tgt := 148) hx hb dX4_set_135 (by decide) (fun c_65 => ?_) (fun c_65 => ?_)
                      · skip
                        have i_65 : ¬ a2.toInt = 0 := by have h9 := pz_neq c_65; exact h9
                        refine lv_iload_n hx hb dX4_set_148 rfl (lv_at hl 3 rfl) ?_
                        refine lv_iconst (v := 1) hx hb dX4_set_149 (by decide) ?_
                        refine lv_icmp_ne (tgt := 163) hx hb dX4_set_150 (by decide) (fun c_66 => ?_) (fun c_66 => ?_)
                        · skip
                          have i_66 : ¬ a2.toInt = 1 := by have h9 := pz_neq c_66; exact h9
                          refine lv_iload_n hx hb dX4_set_163 rfl (lv_at hl 3 rfl) ?_
                          refine lv_iconst (v := 2) hx hb dX4_set_164 (by decide) ?_
                          refine lv_icmp_ne (tgt := 178) hx hb dX4_set_165 (by decide) (fun c_67 => ?_) (fun c_67 => ?_)
                          · skip
                            have i_67 : ¬ a2.toInt = 2 := by have h9 := pz_neq c_67; exact h9
                            refine lv_iload_n hx hb dX4_set_178 rfl (lv_at hl 3 rfl) ?_
                            refine lv_iconst (v := 3) hx hb dX4_set_179 (by decide) ?_
                            refine lv_icmp_ne (tgt := 193) hx hb dX4_set_180 (by decide) (fun c_68 => ?_) (fun c_68 => ?_)
                            · skip
                              have i_68 : ¬ a2.toInt = 3 := by have h9 := pz_neq c_68; exact h9
                              refine lv_aload_n hx hb dX4_set_193 rfl (lv_at hl 1 rfl) ?_
                              refine M_g16 S hK hW dX4_set_194 ?_
                              refine lv_iload_n hx hb dX4_set_197 rfl (lv_at hl 2 rfl) ?_
                              refine lv_iload_n hx hb dX4_set_198 rfl (lv_at hl 4 rfl) ?_
                              refine mw_su S hK hW hS 16 rfl rfl rfl (pz_vi (n := mN 16) (by rw [show mN 16 = 8 from rfl]; omega) (by decide)) dX4_set_199 (fun H locs hW hS => ?_)
                              refine lv_iload hx hb dX4_set_200 (lv_at hl 0 rfl) ?_
                              exact r_i (v := r_64) hx hb hr hlocks hS dX4_set_202 (⟨_, rfl, hW⟩)
                            · skip
                              have i_68 : a2.toInt = 3 := by have h9 := pz_eq c_68; exact h9
                              refine lv_aload_n hx hb dX4_set_183 rfl (lv_at hl 1 rfl) ?_
                              refine M_g15 S hK hW dX4_set_184 ?_
                              refine lv_iload_n hx hb dX4_set_187 rfl (lv_at hl 2 rfl) ?_
                              refine lv_iload_n hx hb dX4_set_188 rfl (lv_at hl 4 rfl) ?_
                              refine mw_su S hK hW hS 15 rfl rfl rfl (pz_vi (n := mN 15) (by rw [show mN 15 = 8 from rfl]; omega) (by decide)) dX4_set_189 (fun H locs hW hS => ?_)
                              refine lv_goto (tgt := 200) hx hb dX4_set_190 (by decide) ?_
                              refine lv_iload hx hb dX4_set_200 (lv_at hl 0 rfl) ?_
                              exact r_i (v := r_64) hx hb hr hlocks hS dX4_set_202 (⟨_, rfl, hW⟩)
                          · skip
                            have i_67 : a2.toInt = 2 := by have h9 := pz_eq c_67; exact h9
                            refine lv_aload_n hx hb dX4_set_168 rfl (lv_at hl 1 rfl) ?_
                            refine M_g14 S hK hW dX4_set_169 ?_
                            refine lv_iload_n hx hb dX4_set_172 rfl (lv_at hl 2 rfl) ?_
                            refine lv_iload_n hx hb dX4_set_173 rfl (lv_at hl 4 rfl) ?_
                            refine mw_su S hK hW hS 14 rfl rfl rfl (pz_vi (n := mN 14) (by rw [show mN 14 = 8 from rfl]; omega) (by decide)) dX4_set_174 (fun H locs hW hS => ?_)
                            refine lv_goto (tgt := 200) hx hb dX4_set_175 (by decide) ?_
                            refine lv_iload hx hb dX4_set_200 (lv_at hl 0 rfl) ?_
                            exact r_i (v := r_64) hx hb hr hlocks hS dX4_set_202 (⟨_, rfl, hW⟩)
                        · skip
                          have i_66 : a2.toInt = 1 := by have h9 := pz_eq c_66; exact h9
                          refine lv_aload_n hx hb dX4_set_153 rfl (lv_at hl 1 rfl) ?_
                          refine M_g13 S hK hW dX4_set_154 ?_
                          refine lv_iload_n hx hb dX4_set_157 rfl (lv_at hl 2 rfl) ?_
                          refine lv_iload_n hx hb dX4_set_158 rfl (lv_at hl 4 rfl) ?_
                          refine mw_su S hK hW hS 13 rfl rfl rfl (pz_vi (n := mN 13) (by rw [show mN 13 = 8 from rfl]; omega) (by decide)) dX4_set_159 (fun H locs hW hS => ?_)
                          refine lv_goto (tgt := 200) hx hb dX4_set_160 (by decide) ?_
                          refine lv_iload hx hb dX4_set_200 (lv_at hl 0 rfl) ?_
                          exact r_i (v := r_64) hx hb hr hlocks hS dX4_set_202 (⟨_, rfl, hW⟩)
                      · skip
                        have i_65 : a2.toInt = 0 := by have h9 := pz_eq c_65; exact h9
                        refine lv_aload_n hx hb dX4_set_138 rfl (lv_at hl 1 rfl) ?_
                        refine M_g11 S hK hW dX4_set_139 ?_
                        refine lv_iload_n hx hb dX4_set_142 rfl (lv_at hl 2 rfl) ?_
                        refine lv_iload_n hx hb dX4_set_143 rfl (lv_at hl 4 rfl) ?_
                        refine mw_su S hK hW hS 11 rfl rfl rfl (pz_vi (n := mN 11) (by rw [show mN 11 = 8 from rfl]; omega) (by decide)) dX4_set_144 (fun H locs hW hS => ?_)
                        refine lv_goto (tgt := 200) hx hb dX4_set_145 (by decide) ?_
                        refine lv_iload hx hb dX4_set_200 (lv_at hl 0 rfl) ?_
                        exact r_i (v := r_64) hx hb hr hlocks hS dX4_set_202 (⟨_, rfl, hW⟩)
                  · skip
                    have i_56 : a3.toInt > 20 := by have h9 := pz_nle c_56; exact h9
                    refine lv_aload_n hx hb dX4_set_107 rfl (lv_at hl 0 rfl) ?_
                    refine lv_bipush (v := (-6)) hx hb dX4_set_108 (by decide) ?_
                    refine c_v (n := 1) (As := [.int (-6)]) (rest := []) S (q_X4_refuse l dC dI h0 R A V G (-6) (by unfold vp_in; decide)) iw_787 iw_784 iw_786 iw_33 iw_61 (by decide +kernel) rfl ⟨rfl, rfl, Nat.le_of_ble_eq_true rfl, Nat.le_of_ble_eq_true rfl⟩ Kt.blind (M_recv hK hW) hK.at hW hl.1 rfl (Nat.le_of_ble_eq_true rfl) dX4_set_110 ⟨Nat.le_refl _, Nat.le_refl _⟩ hS (fun _ h9 => h9) (fun v9 H locs hB hz9 hk9 hS => ?_)
                    refine W.widen (k := 0) (n := 0) (Nat.le_refl 0) (Nat.le_refl 0) ?_
                    obtain ⟨_, rfl, rfl, hW⟩ := hB
                    refine W.eq (g2 := F0 m 113 ls [.int (-6)]) rfl ?_
                    exact r_i (v := (-6)) hx hb hr hlocks hS dX4_set_113 (⟨_, rfl, hW⟩)
            · skip
              have i_10 : a2.toInt = 0 := by have h9 := pz_eq c_10; exact h9
              refine lv_bipush (v := 100) hx hb dX4_set_72 (by decide) ?_
              refine lv_goto (tgt := 104) hx hb dX4_set_74 (by decide) ?_
              refine lv_icmp_le (tgt := 114) hx hb dX4_set_104 (by decide) (fun c_70 => ?_) (fun c_70 => ?_)
              · skip
                have i_70 : a3.toInt ≤ 100 := by have h9 := pz_le c_70; exact h9
                refine lv_aload_n hx hb dX4_set_114 rfl (lv_at hl 0 rfl) ?_
                refine lv_iload_n hx hb dX4_set_115 rfl (lv_at hl 1 rfl) ?_
                refine lv_iload_n hx hb dX4_set_116 rfl (lv_at hl 2 rfl) ?_
                refine lv_if_ne (tgt := 125) hx hb dX4_set_117 (by decide) (fun c_71 => ?_) (fun c_71 => ?_)
                · skip
                  have i_71 : ¬ a2.toInt = 0 := by have h9 := pz_neq c_71; exact h9
                  refine lv_bipush (v := 11) hx hb dX4_set_125 (by decide) ?_
                  refine lv_iload_n hx hb dX4_set_127 rfl (lv_at hl 2 rfl) ?_
                  refine lv_iadd hx hb dX4_set_128 ?_
                  refine lv_topi (fun x_72 _ => ?_)
                  refine c_v (n := 2) (As := [.int (nI j_1), .int x_72]) (rest := []) S (q_X4_serverOf l dC dI h0 R A V G ns (nI j_1) x_72 hV2 (by omega)) iw_799 iw_796 iw_797 iw_798 iw_61 (by decide +kernel) rfl ⟨rfl, rfl, Nat.le_of_ble_eq_true rfl, Nat.le_of_ble_eq_true rfl⟩ Kt.blind (M_recv hK hW) hK.at hW hl.1 rfl (Nat.le_of_ble_eq_true rfl) dX4_set_129 ⟨Nat.le_refl _, Nat.le_refl _⟩ hS (fun _ h9 => h9) (fun v9 H locs hB hz9 hk9 hS => ?_)
                  refine W.widen (k := 0) (n := 0) (Nat.le_refl 0) (Nat.le_refl 0) ?_
                  obtain ⟨r_73, rfl, hW⟩ := hB
                  refine W.eq (g2 := F0 m 132 ls [.int r_73]) rfl ?_
                  refine lv_istore (lv' := [(4, .int r_73), (0, .ref h0), (1, .int (nI j_1)), (2, .int a2), (3, .int a3)]) hx hb dX4_set_132 hl (by decide) rfl (fun ls hl => ?_)
                  refine lv_iload_n hx hb dX4_set_134 rfl (lv_at hl 3 rfl) ?_
                  refine lv_if_ne (tgt := 148) hx hb dX4_set_135 (by decide) (fun c_74 => ?_) (fun c_74 => ?_)
                  · skip
                    have i_74 : ¬ a2.toInt = 0 := by have h9 := pz_neq c_74; exact h9
                    refine lv_iload_n hx hb dX4_set_148 rfl (lv_at hl 3 rfl) ?_
                    refine lv_iconst (v := 1) hx hb dX4_set_149 (by decide) ?_
                    refine lv_icmp_ne (tgt := 163) hx hb dX4_set_150 (by decide) (fun c_75 => ?_) (fun c_75 => ?_)
                    · skip
                      have i_75 : ¬ a2.toInt = 1 := by have h9 := pz_neq c_75; exact h9
                      refine lv_iload_n hx hb dX4_set_163 rfl (lv_at hl 3 rfl) ?_
                      refine lv_iconst (v := 2) hx hb dX4_set_164 (by decide) ?_
                      refine lv_icmp_ne (tgt := 178) hx hb dX4_set_165 (by decide) (fun c_76 => ?_) (fun c_76 => ?_)
                      · skip
                        have i_76 : ¬ a2.toInt = 2 := by have h9 := pz_neq c_76; exact h9
                        refine lv_iload_n hx hb dX4_set_178 rfl (lv_at hl 3 rfl) ?_
                        refine lv_iconst (v := 3) hx hb dX4_set_179 (by decide) ?_
                        refine lv_icmp_ne (tgt := 193) hx hb dX4_set_180 (by decide) (fun c_77 => ?_) (fun c_77 => ?_)
                        · skip
                          have i_77 : ¬ a2.toInt = 3 := by have h9 := pz_neq c_77; exact h9
                          refine lv_aload_n hx hb dX4_set_193 rfl (lv_at hl 1 rfl) ?_
                          refine M_g16 S hK hW dX4_set_194 ?_
                          refine lv_iload_n hx hb dX4_set_197 rfl (lv_at hl 2 rfl) ?_
                          refine lv_iload_n hx hb dX4_set_198 rfl (lv_at hl 4 rfl) ?_
                          refine mw_su S hK hW hS 16 rfl rfl rfl (pz_vi (n := mN 16) (by rw [show mN 16 = 8 from rfl]; omega) (by decide)) dX4_set_199 (fun H locs hW hS => ?_)
                          refine lv_iload hx hb dX4_set_200 (lv_at hl 0 rfl) ?_
                          exact r_i (v := r_73) hx hb hr hlocks hS dX4_set_202 (⟨_, rfl, hW⟩)
                        · skip
                          have i_77 : a2.toInt = 3 := by have h9 := pz_eq c_77; exact h9
                          refine lv_aload_n hx hb dX4_set_183 rfl (lv_at hl 1 rfl) ?_
                          refine M_g15 S hK hW dX4_set_184 ?_
                          refine lv_iload_n hx hb dX4_set_187 rfl (lv_at hl 2 rfl) ?_
                          refine lv_iload_n hx hb dX4_set_188 rfl (lv_at hl 4 rfl) ?_
                          refine mw_su S hK hW hS 15 rfl rfl rfl (pz_vi (n := mN 15) (by rw [show mN 15 = 8 from rfl]; omega) (by decide)) dX4_set_189 (fun H locs hW hS => ?_)
                          refine lv_goto (tgt := 200) hx hb dX4_set_190 (by decide) ?_
                          refine lv_iload hx hb dX4_set_200 (lv_at hl 0 rfl) ?_
                          exact r_i (v := r_73) hx hb hr hlocks hS dX4_set_202 (⟨_, rfl, hW⟩)
                      · skip
                        have i_76 : a2.toInt = 2 := by have h9 := pz_eq c_76; exact h9
                        refine lv_aload_n hx hb dX4_set_168 rfl (lv_at hl 1 rfl) ?_
                        refine M_g14 S hK hW dX4_set_169 ?_
                        refine lv_iload_n hx hb dX4_set_172 rfl (lv_at hl 2 rfl) ?_
                        refine lv_iload_n hx hb dX4_set_173 rfl (lv_at hl 4 rfl) ?_
                        refine mw_su S hK hW hS 14 rfl rfl rfl (pz_vi (n := mN 14) (by rw [show mN 14 = 8 from rfl]; omega) (by decide)) dX4_set_174 (fun H locs hW hS => ?_)
                        refine lv_goto (tgt := 200) hx hb dX4_set_175 (by decide) ?_
                        refine lv_iload hx hb dX4_set_200 (lv_at hl 0 rfl) ?_
                        exact r_i (v := r_73) hx hb hr hlocks hS dX4_set_202 (⟨_, rfl, hW⟩)
                    · skip
                      have i_75 : a2.toInt = 1 := by have h9 := pz_eq c_75; exact h9
                      refine lv_aload_n hx hb dX4_set_153 rfl (lv_at hl 1 rfl) ?_
                      refine M_g13 S hK hW dX4_set_154 ?_
                      refine lv_iload_n hx hb dX4_set_157 rfl (lv_at hl 2 rfl) ?_
                      refine lv_iload_n hx hb dX4_set_158 rfl (lv_at hl 4 rfl) ?_
                      refine mw_su S hK hW hS 13 rfl rfl rfl (pz_vi (n := mN 13) (by rw [show mN 13 = 8 from rfl]; omega) (by decide)) dX4_set_159 (fun H locs hW hS => ?_)
                      refine lv_goto (tgt := 200) hx hb dX4_set_160 (by decide) ?_
                      refine lv_iload hx hb dX4_set_200 (lv_at hl 0 rfl) ?_
                      exact r_i (v := r_73) hx hb hr hlocks hS dX4_set_202 (⟨_, rfl, hW⟩)
                  · skip
                    have i_74 : a2.toInt = 0 := by have h9 := pz_eq c_74; exact h9
                    refine lv_aload_n hx hb dX4_set_138 rfl (lv_at hl 1 rfl) ?_
                    refine M_g11 S hK hW dX4_set_139 ?_
                    refine lv_iload_n hx hb dX4_set_142 rfl (lv_at hl 2 rfl) ?_
                    refine lv_iload_n hx hb dX4_set_143 rfl (lv_at hl 4 rfl) ?_
                    refine mw_su S hK hW hS 11 rfl rfl rfl (pz_vi (n := mN 11) (by rw [show mN 11 = 8 from rfl]; omega) (by decide)) dX4_set_144 (fun H locs hW hS => ?_)
                    refine lv_goto (tgt := 200) hx hb dX4_set_145 (by decide) ?_
                    refine lv_iload hx hb dX4_set_200 (lv_at hl 0 rfl) ?_
                    exact r_i (v := r_73) hx hb hr hlocks hS dX4_set_202 (⟨_, rfl, hW⟩)
                · skip
                  have i_71 : a2.toInt = 0 := by have h9 := pz_eq c_71; exact h9
                  refine lv_bipush (v := 10) hx hb dX4_set_120 (by decide) ?_
                  refine lv_goto (tgt := 129) hx hb dX4_set_122 (by decide) ?_
                  refine c_v (n := 2) (As := [.int (nI j_1), .int 10]) (rest := []) S (q_X4_serverOf l dC dI h0 R A V G ns (nI j_1) 10 hV2 (by omega)) iw_799 iw_796 iw_797 iw_798 iw_61 (by decide +kernel) rfl ⟨rfl, rfl, Nat.le_of_ble_eq_true rfl, Nat.le_of_ble_eq_true rfl⟩ Kt.blind (M_recv hK hW) hK.at hW hl.1 rfl (Nat.le_of_ble_eq_true rfl) dX4_set_129 ⟨Nat.le_refl _, Nat.le_refl _⟩ hS (fun _ h9 => h9) (fun v9 H locs hB hz9 hk9 hS => ?_)
                  refine W.widen (k := 0) (n := 0) (Nat.le_refl 0) (Nat.le_refl 0) ?_
                  obtain ⟨r_78, rfl, hW⟩ := hB
                  refine W.eq (g2 := F0 m 132 ls [.int r_78]) rfl ?_
                  refine lv_istore (lv' := [(4, .int r_78), (0, .ref h0), (1, .int (nI j_1)), (2, .int a2), (3, .int a3)]) hx hb dX4_set_132 hl (by decide) rfl (fun ls hl => ?_)
                  refine lv_iload_n hx hb dX4_set_134 rfl (lv_at hl 3 rfl) ?_
                  refine lv_if_ne (tgt := 148) hx hb dX4_set_135 (by decide) (fun c_79 => ?_) (fun c_79 => ?_)
                  · skip
                    have i_79 : ¬ a2.toInt = 0 := by have h9 := pz_neq c_79; exact h9
                    refine lv_iload_n hx hb dX4_set_148 rfl (lv_at hl 3 rfl) ?_
                    refine lv_iconst (v := 1) hx hb dX4_set_149 (by decide) ?_
                    refine lv_icmp_ne (tgt := 163) hx hb dX4_set_150 (by decide) (fun c_80 => ?_) (fun c_80 => ?_)
                    · skip
                      have i_80 : ¬ a2.toInt = 1 := by have h9 := pz_neq c_80; exact h9
                      refine lv_iload_n hx hb dX4_set_163 rfl (lv_at hl 3 rfl) ?_
                      refine lv_iconst (v := 2) hx hb dX4_set_164 (by decide) ?_
                      refine lv_icmp_ne (tgt := 178) hx hb dX4_set_165 (by decide) (fun c_81 => ?_) (fun c_81 => ?_)
                      · skip
                        have i_81 : ¬ a2.toInt = 2 := by have h9 := pz_neq c_81; exact h9
                        refine lv_iload_n hx hb dX4_set_178 rfl (lv_at hl 3 rfl) ?_
                        refine lv_iconst (v := 3) hx hb dX4_set_179 (by decide) ?_
                        refine lv_icmp_ne (tgt := 193) hx hb dX4_set_180 (by decide) (fun c_82 => ?_) (fun c_82 => ?_)
                        · skip
                          have i_82 : ¬ a2.toInt = 3 := by have h9 := pz_neq c_82; exact h9
                          refine lv_aload_n hx hb dX4_set_193 rfl (lv_at hl 1 rfl) ?_
                          refine M_g16 S hK hW dX4_set_194 ?_
                          refine lv_iload_n hx hb dX4_set_197 rfl (lv_at hl 2 rfl) ?_
                          refine lv_iload_n hx hb dX4_set_198 rfl (lv_at hl 4 rfl) ?_
                          refine mw_su S hK hW hS 16 rfl rfl rfl (pz_vi (n := mN 16) (by rw [show mN 16 = 8 from rfl]; omega) (by decide)) dX4_set_199 (fun H locs hW hS => ?_)
                          refine lv_iload hx hb dX4_set_200 (lv_at hl 0 rfl) ?_
                          exact r_i (v := r_78) hx hb hr hlocks hS dX4_set_202 (⟨_, rfl, hW⟩)
                        · skip
                          have i_82 : a2.toInt = 3 := by have h9 := pz_eq c_82; exact h9
                          refine lv_aload_n hx hb dX4_set_183 rfl (lv_at hl 1 rfl) ?_
                          refine M_g15 S hK hW dX4_set_184 ?_
                          refine lv_iload_n hx hb dX4_set_187 rfl (lv_at hl 2 rfl) ?_
                          refine lv_iload_n hx hb dX4_set_188 rfl (lv_at hl 4 rfl) ?_
                          refine mw_su S hK hW hS 15 rfl rfl rfl (pz_vi (n := mN 15) (by rw [show mN 15 = 8 from rfl]; omega) (by decide)) dX4_set_189 (fun H locs hW hS => ?_)
                          refine lv_goto (tgt := 200) hx hb dX4_set_190 (by decide) ?_
                          refine lv_iload hx hb dX4_set_200 (lv_at hl 0 rfl) ?_
                          exact r_i (v := r_78) hx hb hr hlocks hS dX4_set_202 (⟨_, rfl, hW⟩)
                      · skip
                        have i_81 : a2.toInt = 2 := by have h9 := pz_eq c_81; exact h9
                        refine lv_aload_n hx hb dX4_set_168 rfl (lv_at hl 1 rfl) ?_
                        refine M_g14 S hK hW dX4_set_169 ?_
                        refine lv_iload_n hx hb dX4_set_172 rfl (lv_at hl 2 rfl) ?_
                        refine lv_iload_n hx hb dX4_set_173 rfl (lv_at hl 4 rfl) ?_
                        refine mw_su S hK hW hS 14 rfl rfl rfl (pz_vi (n := mN 14) (by rw [show mN 14 = 8 from rfl]; omega) (by decide)) dX4_set_174 (fun H locs hW hS => ?_)
                        refine lv_goto (tgt := 200) hx hb dX4_set_175 (by decide) ?_
                        refine lv_iload hx hb dX4_set_200 (lv_at hl 0 rfl) ?_
                        exact r_i (v := r_78) hx hb hr hlocks hS dX4_set_202 (⟨_, rfl, hW⟩)
                    · skip
                      have i_80 : a2.toInt = 1 := by have h9 := pz_eq c_80; exact h9
                      refine lv_aload_n hx hb dX4_set_153 rfl (lv_at hl 1 rfl) ?_
                      refine M_g13 S hK hW dX4_set_154 ?_
                      refine lv_iload_n hx hb dX4_set_157 rfl (lv_at hl 2 rfl) ?_
                      refine lv_iload_n hx hb dX4_set_158 rfl (lv_at hl 4 rfl) ?_
                      refine mw_su S hK hW hS 13 rfl rfl rfl (pz_vi (n := mN 13) (by rw [show mN 13 = 8 from rfl]; omega) (by decide)) dX4_set_159 (fun H locs hW hS => ?_)
                      refine lv_goto (tgt := 200) hx hb dX4_set_160 (by decide) ?_
                      refine lv_iload hx hb dX4_set_200 (lv_at hl 0 rfl) ?_
                      exact r_i (v := r_78) hx hb hr hlocks hS dX4_set_202 (⟨_, rfl, hW⟩)
                  · skip
                    have i_79 : a2.toInt = 0 := by have h9 := pz_eq c_79; exact h9
                    refine lv_aload_n hx hb dX4_set_138 rfl (lv_at hl 1 rfl) ?_
                    refine M_g11 S hK hW dX4_set_139 ?_
                    refine lv_iload_n hx hb dX4_set_142 rfl (lv_at hl 2 rfl) ?_
                    refine lv_iload_n hx hb dX4_set_143 rfl (lv_at hl 4 rfl) ?_
                    refine mw_su S hK hW hS 11 rfl rfl rfl (pz_vi (n := mN 11) (by rw [show mN 11 = 8 from rfl]; omega) (by decide)) dX4_set_144 (fun H locs hW hS => ?_)
                    refine lv_goto (tgt := 200) hx hb dX4_set_145 (by decide) ?_
                    refine lv_iload hx hb dX4_set_200 (lv_at hl 0 rfl) ?_
                    exact r_i (v := r_78) hx hb hr hlocks hS dX4_set_202 (⟨_, rfl, hW⟩)
              · skip
                have i_70 : a3.toInt > 100 := by have h9 := pz_nle c_70; exact h9
                refine lv_aload_n hx hb dX4_set_107 rfl (lv_at hl 0 rfl) ?_
                refine lv_bipush (v := (-6)) hx hb dX4_set_108 (by decide) ?_
                refine c_v (n := 1) (As := [.int (-6)]) (rest := []) S (q_X4_refuse l dC dI h0 R A V G (-6) (by unfold vp_in; decide)) iw_787 iw_784 iw_786 iw_33 iw_61 (by decide +kernel) rfl ⟨rfl, rfl, Nat.le_of_ble_eq_true rfl, Nat.le_of_ble_eq_true rfl⟩ Kt.blind (M_recv hK hW) hK.at hW hl.1 rfl (Nat.le_of_ble_eq_true rfl) dX4_set_110 ⟨Nat.le_refl _, Nat.le_refl _⟩ hS (fun _ h9 => h9) (fun v9 H locs hB hz9 hk9 hS => ?_)
                refine W.widen (k := 0) (n := 0) (Nat.le_refl 0) (Nat.le_refl 0) ?_
                obtain ⟨_, rfl, rfl, hW⟩ := hB
                refine W.eq (g2 := F0 m 113 ls [.int (-6)]) rfl ?_
                exact r_i (v := (-6)) hx hb hr hlocks hS dX4_set_113 (⟨_, rfl, hW⟩)
          · skip
            have i_9 : a3.toInt < 0 := by have h9 := pz_nge c_9; exact h9
            refine lv_aload_n hx hb dX4_set_60 rfl (lv_at hl 0 rfl) ?_
            refine lv_bipush (v := (-4)) hx hb dX4_set_61 (by decide) ?_
            refine c_v (n := 1) (As := [.int (-4)]) (rest := []) S (q_X4_refuse l dC dI h0 R A V G (-4) (by unfold vp_in; decide)) iw_787 iw_784 iw_786 iw_33 iw_61 (by decide +kernel) rfl ⟨rfl, rfl, Nat.le_of_ble_eq_true rfl, Nat.le_of_ble_eq_true rfl⟩ Kt.blind (M_recv hK hW) hK.at hW hl.1 rfl (Nat.le_of_ble_eq_true rfl) dX4_set_63 ⟨Nat.le_refl _, Nat.le_refl _⟩ hS (fun _ h9 => h9) (fun v9 H locs hB hz9 hk9 hS => ?_)
            refine W.widen (k := 0) (n := 0) (Nat.le_refl 0) (Nat.le_refl 0) ?_
            obtain ⟨_, rfl, rfl, hW⟩ := hB
            refine W.eq (g2 := F0 m 66 ls [.int (-4)]) rfl ?_
            exact r_i (v := (-4)) hx hb hr hlocks hS dX4_set_66 (⟨_, rfl, hW⟩)
        · skip
          have i_8 : a2.toInt < 3 := by have h9 := pz_nge c_8; exact h9
          refine lv_iconst (v := 1) hx hb dX4_set_52 (by decide) ?_
          refine lv_goto (tgt := 57) hx hb dX4_set_53 (by decide) ?_
          refine lv_icmp_ge (tgt := 67) hx hb dX4_set_57 (by decide) (fun c_85 => ?_) (fun c_85 => ?_)
          · skip
            have i_85 : a3.toInt ≥ 1 := by have h9 := pz_ge c_85; exact h9
            refine lv_iload_n hx hb dX4_set_67 rfl (lv_at hl 3 rfl) ?_
            refine lv_iload_n hx hb dX4_set_68 rfl (lv_at hl 2 rfl) ?_
            refine lv_if_ne (tgt := 77) hx hb dX4_set_69 (by decide) (fun c_86 => ?_) (fun c_86 => ?_)
            · skip
              have i_86 : ¬ a2.toInt = 0 := by have h9 := pz_neq c_86; exact h9
              refine lv_iload_n hx hb dX4_set_77 rfl (lv_at hl 2 rfl) ?_
              refine lv_iconst (v := 1) hx hb dX4_set_78 (by decide) ?_
              refine lv_icmp_eq (tgt := 87) hx hb dX4_set_79 (by decide) (fun c_87 => ?_) (fun c_87 => ?_)
              · skip
                have i_87 : a2.toInt = 1 := by have h9 := pz_eq c_87; exact h9
                refine lv_bipush (v := 20) hx hb dX4_set_87 (by decide) ?_
                refine lv_goto (tgt := 104) hx hb dX4_set_89 (by decide) ?_
                refine lv_icmp_le (tgt := 114) hx hb dX4_set_104 (by decide) (fun c_88 => ?_) (fun c_88 => ?_)
                · skip
                  have i_88 : a3.toInt ≤ 20 := by have h9 := pz_le c_88; exact h9
                  refine lv_aload_n hx hb dX4_set_114 rfl (lv_at hl 0 rfl) ?_
                  refine lv_iload_n hx hb dX4_set_115 rfl (lv_at hl 1 rfl) ?_
                  refine lv_iload_n hx hb dX4_set_116 rfl (lv_at hl 2 rfl) ?_
                  refine lv_if_ne (tgt := 125) hx hb dX4_set_117 (by decide) (fun c_89 => ?_) (fun c_89 => ?_)
                  · skip
                    have i_89 : ¬ a2.toInt = 0 := by have h9 := pz_neq c_89; exact h9
                    refine lv_bipush (v := 11) hx hb dX4_set_125 (by decide) ?_
                    refine lv_iload_n hx hb dX4_set_127 rfl (lv_at hl 2 rfl) ?_
                    refine lv_iadd hx hb dX4_set_128 ?_
                    refine lv_topi (fun x_90 _ => ?_)
                    refine c_v (n := 2) (As := [.int (nI j_1), .int x_90]) (rest := []) S (q_X4_serverOf l dC dI h0 R A V G ns (nI j_1) x_90 hV2 (by omega)) iw_799 iw_796 iw_797 iw_798 iw_61 (by decide +kernel) rfl ⟨rfl, rfl, Nat.le_of_ble_eq_true rfl, Nat.le_of_ble_eq_true rfl⟩ Kt.blind (M_recv hK hW) hK.at hW hl.1 rfl (Nat.le_of_ble_eq_true rfl) dX4_set_129 ⟨Nat.le_refl _, Nat.le_refl _⟩ hS (fun _ h9 => h9) (fun v9 H locs hB hz9 hk9 hS => ?_)
                    refine W.widen (k := 0) (n := 0) (Nat.le_refl 0) (Nat.le_refl 0) ?_
                    obtain ⟨r_91, rfl, hW⟩ := hB
                    refine W.eq (g2 := F0 m 132 ls [.int r_91]) rfl ?_
                    refine lv_istore (lv' := [(4, .int r_91), (0, .ref h0), (1, .int (nI j_1)), (2, .int a2), (3, .int a3)]) hx hb dX4_set_132 hl (by decide) rfl (fun ls hl => ?_)
                    refine lv_iload_n hx hb dX4_set_134 rfl (lv_at hl 3 rfl) ?_
                    refine lv_if_ne (tgt := 148) hx hb dX4_set_135 (by decide) (fun c_92 => ?_) (fun c_92 => ?_)
                    · skip
                      have i_92 : ¬ a2.toInt = 0 := by have h9 := pz_neq c_92; exact h9
                      refine lv_iload_n hx hb dX4_set_148 rfl (lv_at hl 3 rfl) ?_
                      refine lv_iconst (v := 1) hx hb dX4_set_149 (by decide) ?_
                      refine lv_icmp_ne (tgt := 163) hx hb dX4_set_150 (by decide) (fun c_93 => ?_) (fun c_93 => ?_)
                      · skip
                        have i_93 : ¬ a2.toInt = 1 := by have h9 := pz_neq c_93; exact h9
                        refine lv_iload_n hx hb dX4_set_163 rfl (lv_at hl 3 rfl) ?_
                        refine lv_iconst (v := 2) hx hb dX4_set_164 (by decide) ?_
                        refine lv_icmp_ne (tgt := 178) hx hb dX4_set_165 (by decide) (fun c_94 => ?_) (fun c_94 => ?_)
                        · skip
                          have i_94 : ¬ a2.toInt = 2 := by have h9 := pz_neq c_94; exact h9
                          refine lv_iload_n hx hb dX4_set_178 rfl (lv_at hl 3 rfl) ?_
                          refine lv_iconst (v := 3) hx hb dX4_set_179 (by decide) ?_
                          refine lv_icmp_ne (tgt := 193) hx hb dX4_set_180 (by decide) (fun c_95 => ?_) (fun c_95 => ?_)
                          · skip
                            have i_95 : ¬ a2.toInt = 3 := by have h9 := pz_neq c_95; exact h9
                            refine lv_aload_n hx hb dX4_set_193 rfl (lv_at hl 1 rfl) ?_
                            refine M_g16 S hK hW dX4_set_194 ?_
                            refine lv_iload_n hx hb dX4_set_197 rfl (lv_at hl 2 rfl) ?_
                            refine lv_iload_n hx hb dX4_set_198 rfl (lv_at hl 4 rfl) ?_
                            refine mw_su S hK hW hS 16 rfl rfl rfl (pz_vi (n := mN 16) (by rw [show mN 16 = 8 from rfl]; omega) (by decide)) dX4_set_199 (fun H locs hW hS => ?_)
                            refine lv_iload hx hb dX4_set_200 (lv_at hl 0 rfl) ?_
                            exact r_i (v := r_91) hx hb hr hlocks hS dX4_set_202 (⟨_, rfl, hW⟩)
                          · skip
                            have i_95 : a2.toInt = 3 := by have h9 := pz_eq c_95; exact h9
                            refine lv_aload_n hx hb dX4_set_183 rfl (lv_at hl 1 rfl) ?_
                            refine M_g15 S hK hW dX4_set_184 ?_
                            refine lv_iload_n hx hb dX4_set_187 rfl (lv_at hl 2 rfl) ?_
                            refine lv_iload_n hx hb dX4_set_188 rfl (lv_at hl 4 rfl) ?_
                            refine mw_su S hK hW hS 15 rfl rfl rfl (pz_vi (n := mN 15) (by rw [show mN 15 = 8 from rfl]; omega) (by decide)) dX4_set_189 (fun H locs hW hS => ?_)
                            refine lv_goto (tgt := 200) hx hb dX4_set_190 (by decide) ?_
                            refine lv_iload hx hb dX4_set_200 (lv_at hl 0 rfl) ?_
                            exact r_i (v := r_91) hx hb hr hlocks hS dX4_set_202 (⟨_, rfl, hW⟩)
                        · skip
                          have i_94 : a2.toInt = 2 := by have h9 := pz_eq c_94; exact h9
                          refine lv_aload_n hx hb dX4_set_168 rfl (lv_at hl 1 rfl) ?_
                          refine M_g14 S hK hW dX4_set_169 ?_
                          refine lv_iload_n hx hb dX4_set_172 rfl (lv_at hl 2 rfl) ?_
                          refine lv_iload_n hx hb dX4_set_173 rfl (lv_at hl 4 rfl) ?_
                          refine mw_su S hK hW hS 14 rfl rfl rfl (pz_vi (n := mN 14) (by rw [show mN 14 = 8 from rfl]; omega) (by decide)) dX4_set_174 (fun H locs hW hS => ?_)
                          refine lv_goto (tgt := 200) hx hb dX4_set_175 (by decide) ?_
                          refine lv_iload hx hb dX4_set_200 (lv_at hl 0 rfl) ?_
                          exact r_i (v := r_91) hx hb hr hlocks hS dX4_set_202 (⟨_, rfl, hW⟩)
                      · skip
                        have i_93 : a2.toInt = 1 := by have h9 := pz_eq c_93; exact h9
                        refine lv_aload_n hx hb dX4_set_153 rfl (lv_at hl 1 rfl) ?_
                        refine M_g13 S hK hW dX4_set_154 ?_
                        refine lv_iload_n hx hb dX4_set_157 rfl (lv_at hl 2 rfl) ?_
                        refine lv_iload_n hx hb dX4_set_158 rfl (lv_at hl 4 rfl) ?_
                        refine mw_su S hK hW hS 13 rfl rfl rfl (pz_vi (n := mN 13) (by rw [show mN 13 = 8 from rfl]; omega) (by decide)) dX4_set_159 (fun H locs hW hS => ?_)
                        refine lv_goto (tgt := 200) hx hb dX4_set_160 (by decide) ?_
                        refine lv_iload hx hb dX4_set_200 (lv_at hl 0 rfl) ?_
                        exact r_i (v := r_91) hx hb hr hlocks hS dX4_set_202 (⟨_, rfl, hW⟩)
                    · skip
                      have i_92 : a2.toInt = 0 := by have h9 := pz_eq c_92; exact h9
                      refine lv_aload_n hx hb dX4_set_138 rfl (lv_at hl 1 rfl) ?_
                      refine M_g11 S hK hW dX4_set_139 ?_
                      refine lv_iload_n hx hb dX4_set_142 rfl (lv_at hl 2 rfl) ?_
                      refine lv_iload_n hx hb dX4_set_143 rfl (lv_at hl 4 rfl) ?_
                      refine mw_su S hK hW hS 11 rfl rfl rfl (pz_vi (n := mN 11) (by rw [show mN 11 = 8 from rfl]; omega) (by decide)) dX4_set_144 (fun H locs hW hS => ?_)
                      refine lv_goto (tgt := 200) hx hb dX4_set_145 (by decide) ?_
                      refine lv_iload hx hb dX4_set_200 (lv_at hl 0 rfl) ?_
                      exact r_i (v := r_91) hx hb hr hlocks hS dX4_set_202 (⟨_, rfl, hW⟩)
                  · skip
                    have i_89 : a2.toInt = 0 := by have h9 := pz_eq c_89; exact h9
                    refine lv_bipush (v := 10) hx hb dX4_set_120 (by decide) ?_
                    refine lv_goto (tgt := 129) hx hb dX4_set_122 (by decide) ?_
                    refine c_v (n := 2) (As := [.int (nI j_1), .int 10]) (rest := []) S (q_X4_serverOf l dC dI h0 R A V G ns (nI j_1) 10 hV2 (by omega)) iw_799 iw_796 iw_797 iw_798 iw_61 (by decide +kernel) rfl ⟨rfl, rfl, Nat.le_of_ble_eq_true rfl, Nat.le_of_ble_eq_true rfl⟩ Kt.blind (M_recv hK hW) hK.at hW hl.1 rfl (Nat.le_of_ble_eq_true rfl) dX4_set_129 ⟨Nat.le_refl _, Nat.le_refl _⟩ hS (fun _ h9 => h9) (fun v9 H locs hB hz9 hk9 hS => ?_)
                    refine W.widen (k := 0) (n := 0) (Nat.le_refl 0) (Nat.le_refl 0) ?_
                    obtain ⟨r_96, rfl, hW⟩ := hB
                    refine W.eq (g2 := F0 m 132 ls [.int r_96]) rfl ?_
                    refine lv_istore (lv' := [(4, .int r_96), (0, .ref h0), (1, .int (nI j_1)), (2, .int a2), (3, .int a3)]) hx hb dX4_set_132 hl (by decide) rfl (fun ls hl => ?_)
                    refine lv_iload_n hx hb dX4_set_134 rfl (lv_at hl 3 rfl) ?_
                    refine lv_if_ne (tgt := 148) hx hb dX4_set_135 (by decide) (fun c_97 => ?_) (fun c_97 => ?_)
                    · skip
                      have i_97 : ¬ a2.toInt = 0 := by have h9 := pz_neq c_97; exact h9
                      refine lv_iload_n hx hb dX4_set_148 rfl (lv_at hl 3 rfl) ?_
                      refine lv_iconst (v := 1) hx hb dX4_set_149 (by decide) ?_
                      refine lv_icmp_ne (tgt := 163) hx hb dX4_set_150 (by decide) (fun c_98 => ?_) (fun c_98 => ?_)
                      · skip
                        have i_98 : ¬ a2.toInt = 1 := by have h9 := pz_neq c_98; exact h9
                        refine lv_iload_n hx hb dX4_set_163 rfl (lv_at hl 3 rfl) ?_
                        refine lv_iconst (v := 2) hx hb dX4_set_164 (by decide) ?_
                        refine lv_icmp_ne (tgt := 178) hx hb dX4_set_165 (by decide) (fun c_99 => ?_) (fun c_99 => ?_)
                        · skip
                          have i_99 : ¬ a2.toInt = 2 := by have h9 := pz_neq c_99; exact h9
                          refine lv_iload_n hx hb dX4_set_178 rfl (lv_at hl 3 rfl) ?_
                          refine lv_iconst (v := 3) hx hb dX4_set_179 (by decide) ?_
                          refine lv_icmp_ne (tgt := 193) hx hb dX4_set_180 (by decide) (fun c_100 => ?_) (fun c_100 => ?_)
                          · skip
                            have i_100 : ¬ a2.toInt = 3 := by have h9 := pz_neq c_100; exact h9
                            refine lv_aload_n hx hb dX4_set_193 rfl (lv_at hl 1 rfl) ?_
                            refine M_g16 S hK hW dX4_set_194 ?_
                            refine lv_iload_n hx hb dX4_set_197 rfl (lv_at hl 2 rfl) ?_
                            refine lv_iload_n hx hb dX4_set_198 rfl (lv_at hl 4 rfl) ?_
                            refine mw_su S hK hW hS 16 rfl rfl rfl (pz_vi (n := mN 16) (by rw [show mN 16 = 8 from rfl]; omega) (by decide)) dX4_set_199 (fun H locs hW hS => ?_)
                            refine lv_iload hx hb dX4_set_200 (lv_at hl 0 rfl) ?_
                            exact r_i (v := r_96) hx hb hr hlocks hS dX4_set_202 (⟨_, rfl, hW⟩)
                          · skip
                            have i_100 : a2.toInt = 3 := by have h9 := pz_eq c_100; exact h9
                            refine lv_aload_n hx hb dX4_set_183 rfl (lv_at hl 1 rfl) ?_
                            refine M_g15 S hK hW dX4_set_184 ?_
                            refine lv_iload_n hx hb dX4_set_187 rfl (lv_at hl 2 rfl) ?_
                            refine lv_iload_n hx hb dX4_set_188 rfl (lv_at hl 4 rfl) ?_
                            refine mw_su S hK hW hS 15 rfl rfl rfl (pz_vi (n := mN 15) (by rw [show mN 15 = 8 from rfl]; omega) (by decide)) dX4_set_189 (fun H locs hW hS => ?_)
                            refine lv_goto (tgt := 200) hx hb dX4_set_190 (by decide) ?_
                            refine lv_iload hx hb dX4_set_200 (lv_at hl 0 rfl) ?_
                            exact r_i (v := r_96) hx hb hr hlocks hS dX4_set_202 (⟨_, rfl, hW⟩)
                        · skip
                          have i_99 : a2.toInt = 2 := by have h9 := pz_eq c_99; exact h9
                          refine lv_aload_n hx hb dX4_set_168 rfl (lv_at hl 1 rfl) ?_
                          refine M_g14 S hK hW dX4_set_169 ?_
                          refine lv_iload_n hx hb dX4_set_172 rfl (lv_at hl 2 rfl) ?_
                          refine lv_iload_n hx hb dX4_set_173 rfl (lv_at hl 4 rfl) ?_
                          refine mw_su S hK hW hS 14 rfl rfl rfl (pz_vi (n := mN 14) (by rw [show mN 14 = 8 from rfl]; omega) (by decide)) dX4_set_174 (fun H locs hW hS => ?_)
                          refine lv_goto (tgt := 200) hx hb dX4_set_175 (by decide) ?_
                          refine lv_iload hx hb dX4_set_200 (lv_at hl 0 rfl) ?_
                          exact r_i (v := r_96) hx hb hr hlocks hS dX4_set_202 (⟨_, rfl, hW⟩)
                      · skip
                        have i_98 : a2.toInt = 1 := by have h9 := pz_eq c_98; exact h9
                        refine lv_aload_n hx hb dX4_set_153 rfl (lv_at hl 1 rfl) ?_
                        refine M_g13 S hK hW dX4_set_154 ?_
                        refine lv_iload_n hx hb dX4_set_157 rfl (lv_at hl 2 rfl) ?_
                        refine lv_iload_n hx hb dX4_set_158 rfl (lv_at hl 4 rfl) ?_
                        refine mw_su S hK hW hS 13 rfl rfl rfl (pz_vi (n := mN 13) (by rw [show mN 13 = 8 from rfl]; omega) (by decide)) dX4_set_159 (fun H locs hW hS => ?_)
                        refine lv_goto (tgt := 200) hx hb dX4_set_160 (by decide) ?_
                        refine lv_iload hx hb dX4_set_200 (lv_at hl 0 rfl) ?_
                        exact r_i (v := r_96) hx hb hr hlocks hS dX4_set_202 (⟨_, rfl, hW⟩)
                    · skip
                      have i_97 : a2.toInt = 0 := by have h9 := pz_eq c_97; exact h9
                      refine lv_aload_n hx hb dX4_set_138 rfl (lv_at hl 1 rfl) ?_
                      refine M_g11 S hK hW dX4_set_139 ?_
                      refine lv_iload_n hx hb dX4_set_142 rfl (lv_at hl 2 rfl) ?_
                      refine lv_iload_n hx hb dX4_set_143 rfl (lv_at hl 4 rfl) ?_
                      refine mw_su S hK hW hS 11 rfl rfl rfl (pz_vi (n := mN 11) (by rw [show mN 11 = 8 from rfl]; omega) (by decide)) dX4_set_144 (fun H locs hW hS => ?_)
                      refine lv_goto (tgt := 200) hx hb dX4_set_145 (by decide) ?_
                      refine lv_iload hx hb dX4_set_200 (lv_at hl 0 rfl) ?_
                      exact r_i (v := r_96) hx hb hr hlocks hS dX4_set_202 (⟨_, rfl, hW⟩)
                · skip
                  have i_88 : a3.toInt > 20 := by have h9 := pz_nle c_88; exact h9
                  refine lv_aload_n hx hb dX4_set_107 rfl (lv_at hl 0 rfl) ?_
                  refine lv_bipush (v := (-6)) hx hb dX4_set_108 (by decide) ?_
                  refine c_v (n := 1) (As := [.int (-6)]) (rest := []) S (q_X4_refuse l dC dI h0 R A V G (-6) (by unfold vp_in; decide)) iw_787 iw_784 iw_786 iw_33 iw_61 (by decide +kernel) rfl ⟨rfl, rfl, Nat.le_of_ble_eq_true rfl, Nat.le_of_ble_eq_true rfl⟩ Kt.blind (M_recv hK hW) hK.at hW hl.1 rfl (Nat.le_of_ble_eq_true rfl) dX4_set_110 ⟨Nat.le_refl _, Nat.le_refl _⟩ hS (fun _ h9 => h9) (fun v9 H locs hB hz9 hk9 hS => ?_)
                  refine W.widen (k := 0) (n := 0) (Nat.le_refl 0) (Nat.le_refl 0) ?_
                  obtain ⟨_, rfl, rfl, hW⟩ := hB
                  refine W.eq (g2 := F0 m 113 ls [.int (-6)]) rfl ?_
                  exact r_i (v := (-6)) hx hb hr hlocks hS dX4_set_113 (⟨_, rfl, hW⟩)
              · skip
                have i_87 : ¬ a2.toInt = 1 := by have h9 := pz_neq c_87; exact h9
                refine lv_iload_n hx hb dX4_set_82 rfl (lv_at hl 2 rfl) ?_
                refine lv_iconst (v := 3) hx hb dX4_set_83 (by decide) ?_
                refine lv_icmp_ne (tgt := 92) hx hb dX4_set_84 (by decide) (fun c_102 => ?_) (fun c_102 => ?_)
                · skip
                  have i_102 : ¬ a2.toInt = 3 := by have h9 := pz_neq c_102; exact h9
                  refine lv_iload_n hx hb dX4_set_92 rfl (lv_at hl 2 rfl) ?_
                  refine lv_iconst (v := 2) hx hb dX4_set_93 (by decide) ?_
                  refine lv_icmp_ne (tgt := 103) hx hb dX4_set_94 (by decide) (fun c_103 => ?_) (fun c_103 => ?_)
                  · skip
                    have i_103 : ¬ a2.toInt = 2 := by have h9 := pz_neq c_103; exact h9
                    refine lv_iconst (v := 1) hx hb dX4_set_103 (by decide) ?_
                    refine lv_icmp_le (tgt := 114) hx hb dX4_set_104 (by decide) (fun c_104 => ?_) (fun c_104 => ?_)
                    · skip
                      have i_104 : a3.toInt ≤ 1 := by have h9 := pz_le c_104; exact h9
                      refine lv_aload_n hx hb dX4_set_114 rfl (lv_at hl 0 rfl) ?_
                      refine lv_iload_n hx hb dX4_set_115 rfl (lv_at hl 1 rfl) ?_
                      refine lv_iload_n hx hb dX4_set_116 rfl (lv_at hl 2 rfl) ?_
                      refine lv_if_ne (tgt := 125) hx hb dX4_set_117 (by decide) (fun c_105 => ?_) (fun c_105 => ?_)
                      · skip
                        have i_105 : ¬ a2.toInt = 0 := by have h9 := pz_neq c_105; exact h9
                        refine lv_bipush (v := 11) hx hb dX4_set_125 (by decide) ?_
                        refine lv_iload_n hx hb dX4_set_127 rfl (lv_at hl 2 rfl) ?_
                        refine lv_iadd hx hb dX4_set_128 ?_
                        refine lv_topi (fun x_106 _ => ?_)
                        refine c_v (n := 2) (As := [.int (nI j_1), .int x_106]) (rest := []) S (q_X4_serverOf l dC dI h0 R A V G ns (nI j_1) x_106 hV2 (by omega)) iw_799 iw_796 iw_797 iw_798 iw_61 (by decide +kernel) rfl ⟨rfl, rfl, Nat.le_of_ble_eq_true rfl, Nat.le_of_ble_eq_true rfl⟩ Kt.blind (M_recv hK hW) hK.at hW hl.1 rfl (Nat.le_of_ble_eq_true rfl) dX4_set_129 ⟨Nat.le_refl _, Nat.le_refl _⟩ hS (fun _ h9 => h9) (fun v9 H locs hB hz9 hk9 hS => ?_)
                        refine W.widen (k := 0) (n := 0) (Nat.le_refl 0) (Nat.le_refl 0) ?_
                        obtain ⟨r_107, rfl, hW⟩ := hB
                        refine W.eq (g2 := F0 m 132 ls [.int r_107]) rfl ?_
                        refine lv_istore (lv' := [(4, .int r_107), (0, .ref h0), (1, .int (nI j_1)), (2, .int a2), (3, .int a3)]) hx hb dX4_set_132 hl (by decide) rfl (fun ls hl => ?_)
                        refine lv_iload_n hx hb dX4_set_134 rfl (lv_at hl 3 rfl) ?_
                        refine lv_if_ne (tgt := 148) hx hb dX4_set_135 (by decide) (fun c_108 => ?_) (fun c_108 => ?_)
                        · skip
                          have i_108 : ¬ a2.toInt = 0 := by have h9 := pz_neq c_108; exact h9
                          refine lv_iload_n hx hb dX4_set_148 rfl (lv_at hl 3 rfl) ?_
                          refine lv_iconst (v := 1) hx hb dX4_set_149 (by decide) ?_
                          refine lv_icmp_ne (tgt := 163) hx hb dX4_set_150 (by decide) (fun c_109 => ?_) (fun c_109 => ?_)
                          · skip
                            have i_109 : ¬ a2.toInt = 1 := by have h9 := pz_neq c_109; exact h9
                            refine lv_iload_n hx hb dX4_set_163 rfl (lv_at hl 3 rfl) ?_
                            refine lv_iconst (v := 2) hx hb dX4_set_164 (by decide) ?_
                            refine lv_icmp_ne (tgt := 178) hx hb dX4_set_165 (by decide) (fun c_110 => ?_) (fun c_110 => ?_)
                            · skip
                              have i_110 : ¬ a2.toInt = 2 := by have h9 := pz_neq c_110; exact h9
                              refine lv_iload_n hx hb dX4_set_178 rfl (lv_at hl 3 rfl) ?_
                              refine lv_iconst (v := 3) hx hb dX4_set_179 (by decide) ?_
                              refine lv_icmp_ne (tgt := 193) hx hb dX4_set_180 (by decide) (fun c_111 => ?_) (fun c_111 => ?_)
                              · skip
                                have i_111 : ¬ a2.toInt = 3 := by have h9 := pz_neq c_111; exact h9
                                refine lv_aload_n hx hb dX4_set_193 rfl (lv_at hl 1 rfl) ?_
                                refine M_g16 S hK hW dX4_set_194 ?_
                                refine lv_iload_n hx hb dX4_set_197 rfl (lv_at hl 2 rfl) ?_
                                refine lv_iload_n hx hb dX4_set_198 rfl (lv_at hl 4 rfl) ?_
                                refine mw_su S hK hW hS 16 rfl rfl rfl (pz_vi (n := mN 16) (by rw [show mN 16 = 8 from rfl]; omega) (by decide)) dX4_set_199 (fun H locs hW hS => ?_)
                                refine lv_iload hx hb dX4_set_200 (lv_at hl 0 rfl) ?_
                                exact r_i (v := r_107) hx hb hr hlocks hS dX4_set_202 (⟨_, rfl, hW⟩)
                              · skip
                                have i_111 : a2.toInt = 3 := by have h9 := pz_eq c_111; exact h9
                                refine lv_aload_n hx hb dX4_set_183 rfl (lv_at hl 1 rfl) ?_
                                refine M_g15 S hK hW dX4_set_184 ?_
                                refine lv_iload_n hx hb dX4_set_187 rfl (lv_at hl 2 rfl) ?_
                                refine lv_iload_n hx hb dX4_set_188 rfl (lv_at hl 4 rfl) ?_
                                refine mw_su S hK hW hS 15 rfl rfl rfl (pz_vi (n := mN 15) (by rw [show mN 15 = 8 from rfl]; omega) (by decide)) dX4_set_189 (fun H locs hW hS => ?_)
                                refine lv_goto (tgt := 200) hx hb dX4_set_190 (by decide) ?_
                                refine lv_iload hx hb dX4_set_200 (lv_at hl 0 rfl) ?_
                                exact r_i (v := r_107) hx hb hr hlocks hS dX4_set_202 (⟨_, rfl, hW⟩)
                            · skip
                              have i_110 : a2.toInt = 2 := by have h9 := pz_eq c_110; exact h9
                              refine lv_aload_n hx hb dX4_set_168 rfl (lv_at hl 1 rfl) ?_
                              refine M_g14 S hK hW dX4_set_169 ?_
                              refine lv_iload_n hx hb dX4_set_172 rfl (lv_at hl 2 rfl) ?_
                              refine lv_iload_n hx hb dX4_set_173 rfl (lv_at hl 4 rfl) ?_
                              refine mw_su S hK hW hS 14 rfl rfl rfl (pz_vi (n := mN 14) (by rw [show mN 14 = 8 from rfl]; omega) (by decide)) dX4_set_174 (fun H locs hW hS => ?_)
                              refine lv_goto (tgt := 200) hx hb dX4_set_175 (by decide) ?_
                              refine lv_iload hx hb dX4_set_200 (lv_at hl 0 rfl) ?_
                              exact r_i (v := r_107) hx hb hr hlocks hS dX4_set_202 (⟨_, rfl, hW⟩)
                          · skip
                            have i_109 : a2.toInt = 1 := by have h9 := pz_eq c_109; exact h9
                            refine lv_aload_n hx hb dX4_set_153 rfl (lv_at hl 1 rfl) ?_
                            refine M_g13 S hK hW dX4_set_154 ?_
                            refine lv_iload_n hx hb dX4_set_157 rfl (lv_at hl 2 rfl) ?_
                            refine lv_iload_n hx hb dX4_set_158 rfl (lv_at hl 4 rfl) ?_
                            refine mw_su S hK hW hS 13 rfl rfl rfl (pz_vi (n := mN 13) (by rw [show mN 13 = 8 from rfl]; omega) (by decide)) dX4_set_159 (fun H locs hW hS => ?_)
                            refine lv_goto (tgt := 200) hx hb dX4_set_160 (by decide) ?_
                            refine lv_iload hx hb dX4_set_200 (lv_at hl 0 rfl) ?_
                            exact r_i (v := r_107) hx hb hr hlocks hS dX4_set_202 (⟨_, rfl, hW⟩)
                        · skip
                          have i_108 : a2.toInt = 0 := by have h9 := pz_eq c_108; exact h9
                          refine lv_aload_n hx hb dX4_set_138 rfl (lv_at hl 1 rfl) ?_
                          refine M_g11 S hK hW dX4_set_139 ?_
                          refine lv_iload_n hx hb dX4_set_142 rfl (lv_at hl 2 rfl) ?_
                          refine lv_iload_n hx hb dX4_set_143 rfl (lv_at hl 4 rfl) ?_
                          refine mw_su S hK hW hS 11 rfl rfl rfl (pz_vi (n := mN 11) (by rw [show mN 11 = 8 from rfl]; omega) (by decide)) dX4_set_144 (fun H locs hW hS => ?_)
                          refine lv_goto (tgt := 200) hx hb dX4_set_145 (by decide) ?_
                          refine lv_iload hx hb dX4_set_200 (lv_at hl 0 rfl) ?_
                          exact r_i (v := r_107) hx hb hr hlocks hS dX4_set_202 (⟨_, rfl, hW⟩)
                      · skip
                        have i_105 : a2.toInt = 0 := by have h9 := pz_eq c_105; exact h9
                        refine lv_bipush (v := 10) hx hb dX4_set_120 (by decide) ?_
                        refine lv_goto (tgt := 129) hx hb dX4_set_122 (by decide) ?_
                        refine c_v (n := 2) (As := [.int (nI j_1), .int 10]) (rest := []) S (q_X4_serverOf l dC dI h0 R A V G ns (nI j_1) 10 hV2 (by omega)) iw_799 iw_796 iw_797 iw_798 iw_61 (by decide +kernel) rfl ⟨rfl, rfl, Nat.le_of_ble_eq_true rfl, Nat.le_of_ble_eq_true rfl⟩ Kt.blind (M_recv hK hW) hK.at hW hl.1 rfl (Nat.le_of_ble_eq_true rfl) dX4_set_129 ⟨Nat.le_refl _, Nat.le_refl _⟩ hS (fun _ h9 => h9) (fun v9 H locs hB hz9 hk9 hS => ?_)
                        refine W.widen (k := 0) (n := 0) (Nat.le_refl 0) (Nat.le_refl 0) ?_
                        obtain ⟨r_112, rfl, hW⟩ := hB
                        refine W.eq (g2 := F0 m 132 ls [.int r_112]) rfl ?_
                        refine lv_istore (lv' := [(4, .int r_112), (0, .ref h0), (1, .int (nI j_1)), (2, .int a2), (3, .int a3)]) hx hb dX4_set_132 hl (by decide) rfl (fun ls hl => ?_)
                        refine lv_iload_n hx hb dX4_set_134 rfl (lv_at hl 3 rfl) ?_
                        refine lv_if_ne (tgt := 148) hx hb dX4_set_135 (by decide) (fun c_113 => ?_) (fun c_113 => ?_)
                        · skip
                          have i_113 : ¬ a2.toInt = 0 := by have h9 := pz_neq c_113; exact h9
                          refine lv_iload_n hx hb dX4_set_148 rfl (lv_at hl 3 rfl) ?_
                          refine lv_iconst (v := 1) hx hb dX4_set_149 (by decide) ?_
                          refine lv_icmp_ne (tgt := 163) hx hb dX4_set_150 (by decide) (fun c_114 => ?_) (fun c_114 => ?_)
                          · skip
                            have i_114 : ¬ a2.toInt = 1 := by have h9 := pz_neq c_114; exact h9
                            refine lv_iload_n hx hb dX4_set_163 rfl (lv_at hl 3 rfl) ?_
                            refine lv_iconst (v := 2) hx hb dX4_set_164 (by decide) ?_
                            refine lv_icmp_ne (tgt := 178) hx hb dX4_set_165 (by decide) (fun c_115 => ?_) (fun c_115 => ?_)
                            · skip
                              have i_115 : ¬ a2.toInt = 2 := by have h9 := pz_neq c_115; exact h9
                              refine lv_iload_n hx hb dX4_set_178 rfl (lv_at hl 3 rfl) ?_
                              refine lv_iconst (v := 3) hx hb dX4_set_179 (by decide) ?_
                              refine lv_icmp_ne (tgt := 193) hx hb dX4_set_180 (by decide) (fun c_116 => ?_) (fun c_116 => ?_)
                              · skip
                                have i_116 : ¬ a2.toInt = 3 := by have h9 := pz_neq c_116; exact h9
                                refine lv_aload_n hx hb dX4_set_193 rfl (lv_at hl 1 rfl) ?_
                                refine M_g16 S hK hW dX4_set_194 ?_
                                refine lv_iload_n hx hb dX4_set_197 rfl (lv_at hl 2 rfl) ?_
                                refine lv_iload_n hx hb dX4_set_198 rfl (lv_at hl 4 rfl) ?_
                                refine mw_su S hK hW hS 16 rfl rfl rfl (pz_vi (n := mN 16) (by rw [show mN 16 = 8 from rfl]; omega) (by decide)) dX4_set_199 (fun H locs hW hS => ?_)
                                refine lv_iload hx hb dX4_set_200 (lv_at hl 0 rfl) ?_
                                exact r_i (v := r_112) hx hb hr hlocks hS dX4_set_202 (⟨_, rfl, hW⟩)
                              · skip
                                have i_116 : a2.toInt = 3 := by have h9 := pz_eq c_116; exact h9
                                refine lv_aload_n hx hb dX4_set_183 rfl (lv_at hl 1 rfl) ?_
                                refine M_g15 S hK hW dX4_set_184 ?_
                                refine lv_iload_n hx hb dX4_set_187 rfl (lv_at hl 2 rfl) ?_
                                refine lv_iload_n hx hb dX4_set_188 rfl (lv_at hl 4 rfl) ?_
                                refine mw_su S hK hW hS 15 rfl rfl rfl (pz_vi (n := mN 15) (by rw [show mN 15 = 8 from rfl]; omega) (by decide)) dX4_set_189 (fun H locs hW hS => ?_)
                                refine lv_goto (tgt := 200) hx hb dX4_set_190 (by decide) ?_
                                refine lv_iload hx hb dX4_set_200 (lv_at hl 0 rfl) ?_
                                exact r_i (v := r_112) hx hb hr hlocks hS dX4_set_202 (⟨_, rfl, hW⟩)
                            · skip
                              have i_115 : a2.toInt = 2 := by have h9 := pz_eq c_115; exact h9
                              refine lv_aload_n hx hb dX4_set_168 rfl (lv_at hl 1 rfl) ?_
                              refine M_g14 S hK hW dX4_set_169 ?_
                              refine lv_iload_n hx hb dX4_set_172 rfl (lv_at hl 2 rfl) ?_
                              refine lv_iload_n hx hb dX4_set_173 rfl (lv_at hl 4 rfl) ?_
                              refine mw_su S hK hW hS 14 rfl rfl rfl (pz_vi (n := mN 14) (by rw [show mN 14 = 8 from rfl]; omega) (by decide)) dX4_set_174 (fun H locs hW hS => ?_)
                              refine lv_goto (tgt := 200) hx hb dX4_set_175 (by decide) ?_
                              refine lv_iload hx hb dX4_set_200 (lv_at hl 0 rfl) ?_
                              exact r_i (v := r_112) hx hb hr hlocks hS dX4_set_202 (⟨_, rfl, hW⟩)
                          · skip
                            have i_114 : a2.toInt = 1 := by have h9 := pz_eq c_114; exact h9
                            refine lv_aload_n hx hb dX4_set_153 rfl (lv_at hl 1 rfl) ?_
                            refine M_g13 S hK hW dX4_set_154 ?_
                            refine lv_iload_n hx hb dX4_set_157 rfl (lv_at hl 2 rfl) ?_
                            refine lv_iload_n hx hb dX4_set_158 rfl (lv_at hl 4 rfl) ?_
                            refine mw_su S hK hW hS 13 rfl rfl rfl (pz_vi (n := mN 13) (by rw [show mN 13 = 8 from rfl]; omega) (by decide)) dX4_set_159 (fun H locs hW hS => ?_)
                            refine lv_goto (tgt := 200) hx hb dX4_set_160 (by decide) ?_
                            refine lv_iload hx hb dX4_set_200 (lv_at hl 0 rfl) ?_
                            exact r_i (v := r_112) hx hb hr hlocks hS dX4_set_202 (⟨_, rfl, hW⟩)
                        · skip
                          have i_113 : a2.toInt = 0 := by have h9 := pz_eq c_113; exact h9
                          refine lv_aload_n hx hb dX4_set_138 rfl (lv_at hl 1 rfl) ?_
                          refine M_g11 S hK hW dX4_set_139 ?_
                          refine lv_iload_n hx hb dX4_set_142 rfl (lv_at hl 2 rfl) ?_
                          refine lv_iload_n hx hb dX4_set_143 rfl (lv_at hl 4 rfl) ?_
                          refine mw_su S hK hW hS 11 rfl rfl rfl (pz_vi (n := mN 11) (by rw [show mN 11 = 8 from rfl]; omega) (by decide)) dX4_set_144 (fun H locs hW hS => ?_)
                          refine lv_goto (tgt := 200) hx hb dX4_set_145 (by decide) ?_
                          refine lv_iload hx hb dX4_set_200 (lv_at hl 0 rfl) ?_
                          exact r_i (v := r_112) hx hb hr hlocks hS dX4_set_202 (⟨_, rfl, hW⟩)
                    · skip
                      have i_104 : a3.toInt > 1 := by have h9 := pz_nle c_104; exact h9
                      refine lv_aload_n hx hb dX4_set_107 rfl (lv_at hl 0 rfl) ?_
                      refine lv_bipush (v := (-6)) hx hb dX4_set_108 (by decide) ?_
                      refine c_v (n := 1) (As := [.int (-6)]) (rest := []) S (q_X4_refuse l dC dI h0 R A V G (-6) (by unfold vp_in; decide)) iw_787 iw_784 iw_786 iw_33 iw_61 (by decide +kernel) rfl ⟨rfl, rfl, Nat.le_of_ble_eq_true rfl, Nat.le_of_ble_eq_true rfl⟩ Kt.blind (M_recv hK hW) hK.at hW hl.1 rfl (Nat.le_of_ble_eq_true rfl) dX4_set_110 ⟨Nat.le_refl _, Nat.le_refl _⟩ hS (fun _ h9 => h9) (fun v9 H locs hB hz9 hk9 hS => ?_)
                      refine W.widen (k := 0) (n := 0) (Nat.le_refl 0) (Nat.le_refl 0) ?_
                      obtain ⟨_, rfl, rfl, hW⟩ := hB
                      refine W.eq (g2 := F0 m 113 ls [.int (-6)]) rfl ?_
                      exact r_i (v := (-6)) hx hb hr hlocks hS dX4_set_113 (⟨_, rfl, hW⟩)
                  · skip
                    have i_103 : a2.toInt = 2 := by have h9 := pz_eq c_103; exact h9
                    refine lv_sipush (v := 200) hx hb dX4_set_97 (by decide) ?_
                    refine lv_goto (tgt := 104) hx hb dX4_set_100 (by decide) ?_
                    refine lv_icmp_le (tgt := 114) hx hb dX4_set_104 (by decide) (fun c_118 => ?_) (fun c_118 => ?_)
                    · skip
                      have i_118 : a3.toInt ≤ 200 := by have h9 := pz_le c_118; exact h9
                      refine lv_aload_n hx hb dX4_set_114 rfl (lv_at hl 0 rfl) ?_
                      refine lv_iload_n hx hb dX4_set_115 rfl (lv_at hl 1 rfl) ?_
                      refine lv_iload_n hx hb dX4_set_116 rfl (lv_at hl 2 rfl) ?_
                      refine lv_if_ne (tgt := 125) hx hb dX4_set_117 (by decide) (fun c_119 => ?_) (fun c_119 => ?_)
                      · skip
                        have i_119 : ¬ a2.toInt = 0 := by have h9 := pz_neq c_119; exact h9
                        refine lv_bipush (v := 11) hx hb dX4_set_125 (by decide) ?_
                        refine lv_iload_n hx hb dX4_set_127 rfl (lv_at hl 2 rfl) ?_
                        refine lv_iadd hx hb dX4_set_128 ?_
                        refine lv_topi (fun x_120 _ => ?_)
                        refine c_v (n := 2) (As := [.int (nI j_1), .int x_120]) (rest := []) S (q_X4_serverOf l dC dI h0 R A V G ns (nI j_1) x_120 hV2 (by omega)) iw_799 iw_796 iw_797 iw_798 iw_61 (by decide +kernel) rfl ⟨rfl, rfl, Nat.le_of_ble_eq_true rfl, Nat.le_of_ble_eq_true rfl⟩ Kt.blind (M_recv hK hW) hK.at hW hl.1 rfl (Nat.le_of_ble_eq_true rfl) dX4_set_129 ⟨Nat.le_refl _, Nat.le_refl _⟩ hS (fun _ h9 => h9) (fun v9 H locs hB hz9 hk9 hS => ?_)
                        refine W.widen (k := 0) (n := 0) (Nat.le_refl 0) (Nat.le_refl 0) ?_
                        obtain ⟨r_121, rfl, hW⟩ := hB
                        refine W.eq (g2 := F0 m 132 ls [.int r_121]) rfl ?_
                        refine lv_istore (lv' := [(4, .int r_121), (0, .ref h0), (1, .int (nI j_1)), (2, .int a2), (3, .int a3)]) hx hb dX4_set_132 hl (by decide) rfl (fun ls hl => ?_)
                        refine lv_iload_n hx hb dX4_set_134 rfl (lv_at hl 3 rfl) ?_
                        refine lv_if_ne (tgt := 148) hx hb dX4_set_135 (by decide) (fun c_122 => ?_) (fun c_122 => ?_)
                        · skip
                          have i_122 : ¬ a2.toInt = 0 := by have h9 := pz_neq c_122; exact h9
                          refine lv_iload_n hx hb dX4_set_148 rfl (lv_at hl 3 rfl) ?_
                          refine lv_iconst (v := 1) hx hb dX4_set_149 (by decide) ?_
                          refine lv_icmp_ne (tgt := 163) hx hb dX4_set_150 (by decide) (fun c_123 => ?_) (fun c_123 => ?_)
                          · skip
                            have i_123 : ¬ a2.toInt = 1 := by have h9 := pz_neq c_123; exact h9
                            refine lv_iload_n hx hb dX4_set_163 rfl (lv_at hl 3 rfl) ?_
                            refine lv_iconst (v := 2) hx hb dX4_set_164 (by decide) ?_
                            refine lv_icmp_ne (tgt := 178) hx hb dX4_set_165 (by decide) (fun c_124 => ?_) (fun c_124 => ?_)
                            · skip
                              have i_124 : ¬ a2.toInt = 2 := by have h9 := pz_neq c_124; exact h9
                              refine lv_iload_n hx hb dX4_set_178 rfl (lv_at hl 3 rfl) ?_
                              refine lv_iconst (v := 3) hx hb dX4_set_179 (by decide) ?_
                              refine lv_icmp_ne (tgt := 193) hx hb dX4_set_180 (by decide) (fun c_125 => ?_) (fun c_125 => ?_)
                              · skip
                                have i_125 : ¬ a2.toInt = 3 := by have h9 := pz_neq c_125; exact h9
                                refine lv_aload_n hx hb dX4_set_193 rfl (lv_at hl 1 rfl) ?_
                                refine M_g16 S hK hW dX4_set_194 ?_
                                refine lv_iload_n hx hb dX4_set_197 rfl (lv_at hl 2 rfl) ?_
                                refine lv_iload_n hx hb dX4_set_198 rfl (lv_at hl 4 rfl) ?_
                                refine mw_su S hK hW hS 16 rfl rfl rfl (pz_vi (n := mN 16) (by rw [show mN 16 = 8 from rfl]; omega) (by decide)) dX4_set_199 (fun H locs hW hS => ?_)
                                refine lv_iload hx hb dX4_set_200 (lv_at hl 0 rfl) ?_
                                exact r_i (v := r_121) hx hb hr hlocks hS dX4_set_202 (⟨_, rfl, hW⟩)
                              · skip
                                have i_125 : a2.toInt = 3 := by have h9 := pz_eq c_125; exact h9
                                refine lv_aload_n hx hb dX4_set_183 rfl (lv_at hl 1 rfl) ?_
                                refine M_g15 S hK hW dX4_set_184 ?_
                                refine lv_iload_n hx hb dX4_set_187 rfl (lv_at hl 2 rfl) ?_
                                refine lv_iload_n hx hb dX4_set_188 rfl (lv_at hl 4 rfl) ?_
                                refine mw_su S hK hW hS 15 rfl rfl rfl (pz_vi (n := mN 15) (by rw [show mN 15 = 8 from rfl]; omega) (by decide)) dX4_set_189 (fun H locs hW hS => ?_)
                                refine lv_goto (tgt := 200) hx hb dX4_set_190 (by decide) ?_
                                refine lv_iload hx hb dX4_set_200 (lv_at hl 0 rfl) ?_
                                exact r_i (v := r_121) hx hb hr hlocks hS dX4_set_202 (⟨_, rfl, hW⟩)
                            · skip
                              have i_124 : a2.toInt = 2 := by have h9 := pz_eq c_124; exact h9
                              refine lv_aload_n hx hb dX4_set_168 rfl (lv_at hl 1 rfl) ?_
                              refine M_g14 S hK hW dX4_set_169 ?_
                              refine lv_iload_n hx hb dX4_set_172 rfl (lv_at hl 2 rfl) ?_
                              refine lv_iload_n hx hb dX4_set_173 rfl (lv_at hl 4 rfl) ?_
                              refine mw_su S hK hW hS 14 rfl rfl rfl (pz_vi (n := mN 14) (by rw [show mN 14 = 8 from rfl]; omega) (by decide)) dX4_set_174 (fun H locs hW hS => ?_)
                              refine lv_goto (tgt := 200) hx hb dX4_set_175 (by decide) ?_
                              refine lv_iload hx hb dX4_set_200 (lv_at hl 0 rfl) ?_
                              exact r_i (v := r_121) hx hb hr hlocks hS dX4_set_202 (⟨_, rfl, hW⟩)
                          · skip
                            have i_123 : a2.toInt = 1 := by have h9 := pz_eq c_123; exact h9
                            refine lv_aload_n hx hb dX4_set_153 rfl (lv_at hl 1 rfl) ?_
                            refine M_g13 S hK hW dX4_set_154 ?_
                            refine lv_iload_n hx hb dX4_set_157 rfl (lv_at hl 2 rfl) ?_
                            refine lv_iload_n hx hb dX4_set_158 rfl (lv_at hl 4 rfl) ?_
                            refine mw_su S hK hW hS 13 rfl rfl rfl (pz_vi (n := mN 13) (by rw [show mN 13 = 8 from rfl]; omega) (by decide)) dX4_set_159 (fun H locs hW hS => ?_)
                            refine lv_goto (tgt := 200) hx hb dX4_set_160 (by decide) ?_
                            refine lv_iload hx hb dX4_set_200 (lv_at hl 0 rfl) ?_
                            exact r_i (v := r_121) hx hb hr hlocks hS dX4_set_202 (⟨_, rfl, hW⟩)
                        · skip
                          have i_122 : a2.toInt = 0 := by have h9 := pz_eq c_122; exact h9
                          refine lv_aload_n hx hb dX4_set_138 rfl (lv_at hl 1 rfl) ?_
                          refine M_g11 S hK hW dX4_set_139 ?_
                          refine lv_iload_n hx hb dX4_set_142 rfl (lv_at hl 2 rfl) ?_
                          refine lv_iload_n hx hb dX4_set_143 rfl (lv_at hl 4 rfl) ?_
                          refine mw_su S hK hW hS 11 rfl rfl rfl (pz_vi (n := mN 11) (by rw [show mN 11 = 8 from rfl]; omega) (by decide)) dX4_set_144 (fun H locs hW hS => ?_)
                          refine lv_goto (tgt := 200) hx hb dX4_set_145 (by decide) ?_
                          refine lv_iload hx hb dX4_set_200 (lv_at hl 0 rfl) ?_
                          exact r_i (v := r_121) hx hb hr hlocks hS dX4_set_202 (⟨_, rfl, hW⟩)
                      · skip
                        have i_119 : a2.toInt = 0 := by have h9 := pz_eq c_119; exact h9
                        refine lv_bipush (v := 10) hx hb dX4_set_120 (by decide) ?_
                        refine lv_goto (tgt := 129) hx hb dX4_set_122 (by decide) ?_
                        refine c_v (n := 2) (As := [.int (nI j_1), .int 10]) (rest := []) S (q_X4_serverOf l dC dI h0 R A V G ns (nI j_1) 10 hV2 (by omega)) iw_799 iw_796 iw_797 iw_798 iw_61 (by decide +kernel) rfl ⟨rfl, rfl, Nat.le_of_ble_eq_true rfl, Nat.le_of_ble_eq_true rfl⟩ Kt.blind (M_recv hK hW) hK.at hW hl.1 rfl (Nat.le_of_ble_eq_true rfl) dX4_set_129 ⟨Nat.le_refl _, Nat.le_refl _⟩ hS (fun _ h9 => h9) (fun v9 H locs hB hz9 hk9 hS => ?_)
                        refine W.widen (k := 0) (n := 0) (Nat.le_refl 0) (Nat.le_refl 0) ?_
                        obtain ⟨r_126, rfl, hW⟩ := hB
                        refine W.eq (g2 := F0 m 132 ls [.int r_126]) rfl ?_
                        refine lv_istore (lv' := [(4, .int r_126), (0, .ref h0), (1, .int (nI j_1)), (2, .int a2), (3, .int a3)]) hx hb dX4_set_132 hl (by decide) rfl (fun ls hl => ?_)
                        refine lv_iload_n hx hb dX4_set_134 rfl (lv_at hl 3 rfl) ?_
                        refine lv_if_ne (tgt := 148) hx hb dX4_set_135 (by decide) (fun c_127 => ?_) (fun c_127 => ?_)
                        · skip
                          have i_127 : ¬ a2.toInt = 0 := by have h9 := pz_neq c_127; exact h9
                          refine lv_iload_n hx hb dX4_set_148 rfl (lv_at hl 3 rfl) ?_
                          refine lv_iconst (v := 1) hx hb dX4_set_149 (by decide) ?_
                          refine lv_icmp_ne (tgt := 163) hx hb dX4_set_150 (by decide) (fun c_128 => ?_) (fun c_128 => ?_)
                          · skip
                            have i_128 : ¬ a2.toInt = 1 := by have h9 := pz_neq c_128; exact h9
                            refine lv_iload_n hx hb dX4_set_163 rfl (lv_at hl 3 rfl) ?_
                            refine lv_iconst (v := 2) hx hb dX4_set_164 (by decide) ?_
                            refine lv_icmp_ne (tgt := 178) hx hb dX4_set_165 (by decide) (fun c_129 => ?_) (fun c_129 => ?_)
                            · skip
                              have i_129 : ¬ a2.toInt = 2 := by have h9 := pz_neq c_129; exact h9
                              refine lv_iload_n hx hb dX4_set_178 rfl (lv_at hl 3 rfl) ?_
                              refine lv_iconst (v := 3) hx hb dX4_set_179 (by decide) ?_
                              refine lv_icmp_ne (tgt := 193) hx hb dX4_set_180 (by decide) (fun c_130 => ?_) (fun c_130 => ?_)
                              · skip
                                have i_130 : ¬ a2.toInt = 3 := by have h9 := pz_neq c_130; exact h9
                                refine lv_aload_n hx hb dX4_set_193 rfl (lv_at hl 1 rfl) ?_
                                refine M_g16 S hK hW dX4_set_194 ?_
                                refine lv_iload_n hx hb dX4_set_197 rfl (lv_at hl 2 rfl) ?_
                                refine lv_iload_n hx hb dX4_set_198 rfl (lv_at hl 4 rfl) ?_
                                refine mw_su S hK hW hS 16 rfl rfl rfl (pz_vi (n := mN 16) (by rw [show mN 16 = 8 from rfl]; omega) (by decide)) dX4_set_199 (fun H locs hW hS => ?_)
                                refine lv_iload hx hb dX4_set_200 (lv_at hl 0 rfl) ?_
                                exact r_i (v := r_126) hx hb hr hlocks hS dX4_set_202 (⟨_, rfl, hW⟩)
                              · skip
                                have i_130 : a2.toInt = 3 := by have h9 := pz_eq c_130; exact h9
                                refine lv_aload_n hx hb dX4_set_183 rfl (lv_at hl 1 rfl) ?_
                                refine M_g15 S hK hW dX4_set_184 ?_
                                refine lv_iload_n hx hb dX4_set_187 rfl (lv_at hl 2 rfl) ?_
                                refine lv_iload_n hx hb dX4_set_188 rfl (lv_at hl 4 rfl) ?_
                                refine mw_su S hK hW hS 15 rfl rfl rfl (pz_vi (n := mN 15) (by rw [show mN 15 = 8 from rfl]; omega) (by decide)) dX4_set_189 (fun H locs hW hS => ?_)
                                refine lv_goto (tgt := 200) hx hb dX4_set_190 (by decide) ?_
                                refine lv_iload hx hb dX4_set_200 (lv_at hl 0 rfl) ?_
                                exact r_i (v := r_126) hx hb hr hlocks hS dX4_set_202 (⟨_, rfl, hW⟩)
                            · skip
                              have i_129 : a2.toInt = 2 := by have h9 := pz_eq c_129; exact h9
                              refine lv_aload_n hx hb dX4_set_168 rfl (lv_at hl 1 rfl) ?_
                              refine M_g14 S hK hW dX4_set_169 ?_
                              refine lv_iload_n hx hb dX4_set_172 rfl (lv_at hl 2 rfl) ?_
                              refine lv_iload_n hx hb dX4_set_173 rfl (lv_at hl 4 rfl) ?_
                              refine mw_su S hK hW hS 14 rfl rfl rfl (pz_vi (n := mN 14) (by rw [show mN 14 = 8 from rfl]; omega) (by decide)) dX4_set_174 (fun H locs hW hS => ?_)
                              refine lv_goto (tgt := 200) hx hb dX4_set_175 (by decide) ?_
                              refine lv_iload hx hb dX4_set_200 (lv_at hl 0 rfl) ?_
                              exact r_i (v := r_126) hx hb hr hlocks hS dX4_set_202 (⟨_, rfl, hW⟩)
                          · skip
                            have i_128 : a2.toInt = 1 := by have h9 := pz_eq c_128; exact h9
                            refine lv_aload_n hx hb dX4_set_153 rfl (lv_at hl 1 rfl) ?_
                            refine M_g13 S hK hW dX4_set_154 ?_
                            refine lv_iload_n hx hb dX4_set_157 rfl (lv_at hl 2 rfl) ?_
                            refine lv_iload_n hx hb dX4_set_158 rfl (lv_at hl 4 rfl) ?_
                            refine mw_su S hK hW hS 13 rfl rfl rfl (pz_vi (n := mN 13) (by rw [show mN 13 = 8 from rfl]; omega) (by decide)) dX4_set_159 (fun H locs hW hS => ?_)
                            refine lv_goto (tgt := 200) hx hb dX4_set_160 (by decide) ?_
                            refine lv_iload hx hb dX4_set_200 (lv_at hl 0 rfl) ?_
                            exact r_i (v := r_126) hx hb hr hlocks hS dX4_set_202 (⟨_, rfl, hW⟩)
                        · skip
                          have i_127 : a2.toInt = 0 := by have h9 := pz_eq c_127; exact h9
                          refine lv_aload_n hx hb dX4_set_138 rfl (lv_at hl 1 rfl) ?_
                          refine M_g11 S hK hW dX4_set_139 ?_
                          refine lv_iload_n hx hb dX4_set_142 rfl (lv_at hl 2 rfl) ?_
                          refine lv_iload_n hx hb dX4_set_143 rfl (lv_at hl 4 rfl) ?_
                          refine mw_su S hK hW hS 11 rfl rfl rfl (pz_vi (n := mN 11) (by rw [show mN 11 = 8 from rfl]; omega) (by decide)) dX4_set_144 (fun H locs hW hS => ?_)
                          refine lv_goto (tgt := 200) hx hb dX4_set_145 (by decide) ?_
                          refine lv_iload hx hb dX4_set_200 (lv_at hl 0 rfl) ?_
                          exact r_i (v := r_126) hx hb hr hlocks hS dX4_set_202 (⟨_, rfl, hW⟩)
                    · skip
                      have i_118 : a3.toInt > 200 := by have h9 := pz_nle c_118; exact h9
                      refine lv_aload_n hx hb dX4_set_107 rfl (lv_at hl 0 rfl) ?_
                      refine lv_bipush (v := (-6)) hx hb dX4_set_108 (by decide) ?_
                      refine c_v (n := 1) (As := [.int (-6)]) (rest := []) S (q_X4_refuse l dC dI h0 R A V G (-6) (by unfold vp_in; decide)) iw_787 iw_784 iw_786 iw_33 iw_61 (by decide +kernel) rfl ⟨rfl, rfl, Nat.le_of_ble_eq_true rfl, Nat.le_of_ble_eq_true rfl⟩ Kt.blind (M_recv hK hW) hK.at hW hl.1 rfl (Nat.le_of_ble_eq_true rfl) dX4_set_110 ⟨Nat.le_refl _, Nat.le_refl _⟩ hS (fun _ h9 => h9) (fun v9 H locs hB hz9 hk9 hS => ?_)
                      refine W.widen (k := 0) (n := 0) (Nat.le_refl 0) (Nat.le_refl 0) ?_
                      obtain ⟨_, rfl, rfl, hW⟩ := hB
                      refine W.eq (g2 := F0 m 113 ls [.int (-6)]) rfl ?_
                      exact r_i (v := (-6)) hx hb hr hlocks hS dX4_set_113 (⟨_, rfl, hW⟩)
                · skip
                  have i_102 : a2.toInt = 3 := by have h9 := pz_eq c_102; exact h9
                  refine lv_bipush (v := 20) hx hb dX4_set_87 (by decide) ?_
                  refine lv_goto (tgt := 104) hx hb dX4_set_89 (by decide) ?_
                  refine lv_icmp_le (tgt := 114) hx hb dX4_set_104 (by decide) (fun c_132 => ?_) (fun c_132 => ?_)
                  · skip
                    have i_132 : a3.toInt ≤ 20 := by have h9 := pz_le c_132; exact h9
                    refine lv_aload_n hx hb dX4_set_114 rfl (lv_at hl 0 rfl) ?_
                    refine lv_iload_n hx hb dX4_set_115 rfl (lv_at hl 1 rfl) ?_
                    refine lv_iload_n hx hb dX4_set_116 rfl (lv_at hl 2 rfl) ?_
                    refine lv_if_ne (tgt := 125) hx hb dX4_set_117 (by decide) (fun c_133 => ?_) (fun c_133 => ?_)
                    · skip
                      have i_133 : ¬ a2.toInt = 0 := by have h9 := pz_neq c_133; exact h9
                      refine lv_bipush (v := 11) hx hb dX4_set_125 (by decide) ?_
                      refine lv_iload_n hx hb dX4_set_127 rfl (lv_at hl 2 rfl) ?_
                      refine lv_iadd hx hb dX4_set_128 ?_
                      refine lv_topi (fun x_134 _ => ?_)
                      refine c_v (n := 2) (As := [.int (nI j_1), .int x_134]) (rest := []) S (q_X4_serverOf l dC dI h0 R A V G ns (nI j_1) x_134 hV2 (by omega)) iw_799 iw_796 iw_797 iw_798 iw_61 (by decide +kernel) rfl ⟨rfl, rfl, Nat.le_of_ble_eq_true rfl, Nat.le_of_ble_eq_true rfl⟩ Kt.blind (M_recv hK hW) hK.at hW hl.1 rfl (Nat.le_of_ble_eq_true rfl) dX4_set_129 ⟨Nat.le_refl _, Nat.le_refl _⟩ hS (fun _ h9 => h9) (fun v9 H locs hB hz9 hk9 hS => ?_)
                      refine W.widen (k := 0) (n := 0) (Nat.le_refl 0) (Nat.le_refl 0) ?_
                      obtain ⟨r_135, rfl, hW⟩ := hB
                      refine W.eq (g2 := F0 m 132 ls [.int r_135]) rfl ?_
                      refine lv_istore (lv' := [(4, .int r_135), (0, .ref h0), (1, .int (nI j_1)), (2, .int a2), (3, .int a3)]) hx hb dX4_set_132 hl (by decide) rfl (fun ls hl => ?_)
                      refine lv_iload_n hx hb dX4_set_134 rfl (lv_at hl 3 rfl) ?_
                      refine lv_if_ne (tgt := 148) hx hb dX4_set_135 (by decide) (fun c_136 => ?_) (fun c_136 => ?_)
                      · skip
                        have i_136 : ¬ a2.toInt = 0 := by have h9 := pz_neq c_136; exact h9
                        refine lv_iload_n hx hb dX4_set_148 rfl (lv_at hl 3 rfl) ?_
                        refine lv_iconst (v := 1) hx hb dX4_set_149 (by decide) ?_
                        refine lv_icmp_ne (tgt := 163) hx hb dX4_set_150 (by decide) (fun c_137 => ?_) (fun c_137 => ?_)
                        · skip
                          have i_137 : ¬ a2.toInt = 1 := by have h9 := pz_neq c_137; exact h9
                          refine lv_iload_n hx hb dX4_set_163 rfl (lv_at hl 3 rfl) ?_
                          refine lv_iconst (v := 2) hx hb dX4_set_164 (by decide) ?_
                          refine lv_icmp_ne (tgt := 178) hx hb dX4_set_165 (by decide) (fun c_138 => ?_) (fun c_138 => ?_)
                          · skip
                            have i_138 : ¬ a2.toInt = 2 := by have h9 := pz_neq c_138; exact h9
                            refine lv_iload_n hx hb dX4_set_178 rfl (lv_at hl 3 rfl) ?_
                            refine lv_iconst (v := 3) hx hb dX4_set_179 (by decide) ?_
                            refine lv_icmp_ne (tgt := 193) hx hb dX4_set_180 (by decide) (fun c_139 => ?_) (fun c_139 => ?_)
                            · skip
                              have i_139 : ¬ a2.toInt = 3 := by have h9 := pz_neq c_139; exact h9
                              refine lv_aload_n hx hb dX4_set_193 rfl (lv_at hl 1 rfl) ?_
                              refine M_g16 S hK hW dX4_set_194 ?_
                              refine lv_iload_n hx hb dX4_set_197 rfl (lv_at hl 2 rfl) ?_
                              refine lv_iload_n hx hb dX4_set_198 rfl (lv_at hl 4 rfl) ?_
                              refine mw_su S hK hW hS 16 rfl rfl rfl (pz_vi (n := mN 16) (by rw [show mN 16 = 8 from rfl]; omega) (by decide)) dX4_set_199 (fun H locs hW hS => ?_)
                              refine lv_iload hx hb dX4_set_200 (lv_at hl 0 rfl) ?_
                              exact r_i (v := r_135) hx hb hr hlocks hS dX4_set_202 (⟨_, rfl, hW⟩)
                            · skip
                              have i_139 : a2.toInt = 3 := by have h9 := pz_eq c_139; exact h9
                              refine lv_aload_n hx hb dX4_set_183 rfl (lv_at hl 1 rfl) ?_
                              refine M_g15 S hK hW dX4_set_184 ?_
                              refine lv_iload_n hx hb dX4_set_187 rfl (lv_at hl 2 rfl) ?_
                              refine lv_iload_n hx hb dX4_set_188 rfl (lv_at hl 4 rfl) ?_
                              refine mw_su S hK hW hS 15 rfl rfl rfl (pz_vi (n := mN 15) (by rw [show mN 15 = 8 from rfl]; omega) (by decide)) dX4_set_189 (fun H locs hW hS => ?_)
                              refine lv_goto (tgt := 200) hx hb dX4_set_190 (by decide) ?_
                              refine lv_iload hx hb dX4_set_200 (lv_at hl 0 rfl) ?_
                              exact r_i (v := r_135) hx hb hr hlocks hS dX4_set_202 (⟨_, rfl, hW⟩)
                          · skip
                            have i_138 : a2.toInt = 2 := by have h9 := pz_eq c_138; exact h9
                            refine lv_aload_n hx hb dX4_set_168 rfl (lv_at hl 1 rfl) ?_
                            refine M_g14 S hK hW dX4_set_169 ?_
                            refine lv_iload_n hx hb dX4_set_172 rfl (lv_at hl 2 rfl) ?_
                            refine lv_iload_n hx hb dX4_set_173 rfl (lv_at hl 4 rfl) ?_
                            refine mw_su S hK hW hS 14 rfl rfl rfl (pz_vi (n := mN 14) (by rw [show mN 14 = 8 from rfl]; omega) (by decide)) dX4_set_174 (fun H locs hW hS => ?_)
                            refine lv_goto (tgt := 200) hx hb dX4_set_175 (by decide) ?_
                            refine lv_iload hx hb dX4_set_200 (lv_at hl 0 rfl) ?_
                            exact r_i (v := r_135) hx hb hr hlocks hS dX4_set_202 (⟨_, rfl, hW⟩)
                        · skip
                          have i_137 : a2.toInt = 1 := by have h9 := pz_eq c_137; exact h9
                          refine lv_aload_n hx hb dX4_set_153 rfl (lv_at hl 1 rfl) ?_
                          refine M_g13 S hK hW dX4_set_154 ?_
                          refine lv_iload_n hx hb dX4_set_157 rfl (lv_at hl 2 rfl) ?_
                          refine lv_iload_n hx hb dX4_set_158 rfl (lv_at hl 4 rfl) ?_
                          refine mw_su S hK hW hS 13 rfl rfl rfl (pz_vi (n := mN 13) (by rw [show mN 13 = 8 from rfl]; omega) (by decide)) dX4_set_159 (fun H locs hW hS => ?_)
                          refine lv_goto (tgt := 200) hx hb dX4_set_160 (by decide) ?_
                          refine lv_iload hx hb dX4_set_200 (lv_at hl 0 rfl) ?_
                          exact r_i (v := r_135) hx hb hr hlocks hS dX4_set_202 (⟨_, rfl, hW⟩)
                      · skip
                        have i_136 : a2.toInt = 0 := by have h9 := pz_eq c_136; exact h9
                        refine lv_aload_n hx hb dX4_set_138 rfl (lv_at hl 1 rfl) ?_
                        refine M_g11 S hK hW dX4_set_139 ?_
                        refine lv_iload_n hx hb dX4_set_142 rfl (lv_at hl 2 rfl) ?_
                        refine lv_iload_n hx hb dX4_set_143 rfl (lv_at hl 4 rfl) ?_
                        refine mw_su S hK hW hS 11 rfl rfl rfl (pz_vi (n := mN 11) (by rw [show mN 11 = 8 from rfl]; omega) (by decide)) dX4_set_144 (fun H locs hW hS => ?_)
                        refine lv_goto (tgt := 200) hx hb dX4_set_145 (by decide) ?_
                        refine lv_iload hx hb dX4_set_200 (lv_at hl 0 rfl) ?_
                        exact r_i (v := r_135) hx hb hr hlocks hS dX4_set_202 (⟨_, rfl, hW⟩)
                    · skip
                      have i_133 : a2.toInt = 0 := by have h9 := pz_eq c_133; exact h9
                      refine lv_bipush (v := 10) hx hb dX4_set_120 (by decide) ?_
                      refine lv_goto (tgt := 129) hx hb dX4_set_122 (by decide) ?_
                      refine c_v (n := 2) (As := [.int (nI j_1), .int 10]) (rest := []) S (q_X4_serverOf l dC dI h0 R A V G ns (nI j_1) 10 hV2 (by omega)) iw_799 iw_796 iw_797 iw_798 iw_61 (by decide +kernel) rfl ⟨rfl, rfl, Nat.le_of_ble_eq_true rfl, Nat.le_of_ble_eq_true rfl⟩ Kt.blind (M_recv hK hW) hK.at hW hl.1 rfl (Nat.le_of_ble_eq_true rfl) dX4_set_129 ⟨Nat.le_refl _, Nat.le_refl _⟩ hS (fun _ h9 => h9) (fun v9 H locs hB hz9 hk9 hS => ?_)
                      refine W.widen (k := 0) (n := 0) (Nat.le_refl 0) (Nat.le_refl 0) ?_
                      obtain ⟨r_140, rfl, hW⟩ := hB
                      refine W.eq (g2 := F0 m 132 ls [.int r_140]) rfl ?_
                      refine lv_istore (lv' := [(4, .int r_140), (0, .ref h0), (1, .int (nI j_1)), (2, .int a2), (3, .int a3)]) hx hb dX4_set_132 hl (by decide) rfl (fun ls hl => ?_)
                      refine lv_iload_n hx hb dX4_set_134 rfl (lv_at hl 3 rfl) ?_
                      refine lv_if_ne (tgt := 148) hx hb dX4_set_135 (by decide) (fun c_141 => ?_) (fun c_141 => ?_)
                      · skip
                        have i_141 : ¬ a2.toInt = 0 := by have h9 := pz_neq c_141; exact h9
                        refine lv_iload_n hx hb dX4_set_148 rfl (lv_at hl 3 rfl) ?_
                        refine lv_iconst (v := 1) hx hb dX4_set_149 (by decide) ?_
                        refine lv_icmp_ne (tgt := 163) hx hb dX4_set_150 (by decide) (fun c_142 => ?_) (fun c_142 => ?_)
                        · skip
                          have i_142 : ¬ a2.toInt = 1 := by have h9 := pz_neq c_142; exact h9
                          refine lv_iload_n hx hb dX4_set_163 rfl (lv_at hl 3 rfl) ?_
                          refine lv_iconst (v := 2) hx hb dX4_set_164 (by decide) ?_
                          refine lv_icmp_ne (tgt := 178) hx hb dX4_set_165 (by decide) (fun c_143 => ?_) (fun c_143 => ?_)
                          · skip
                            have i_143 : ¬ a2.toInt = 2 := by have h9 := pz_neq c_143; exact h9
                            refine lv_iload_n hx hb dX4_set_178 rfl (lv_at hl 3 rfl) ?_
                            refine lv_iconst (v := 3) hx hb dX4_set_179 (by decide) ?_
                            refine lv_icmp_ne (tgt := 193) hx hb dX4_set_180 (by decide) (fun c_144 => ?_) (fun c_144 => ?_)
                            · skip
                              have i_144 : ¬ a2.toInt = 3 := by have h9 := pz_neq c_144; exact h9
                              refine lv_aload_n hx hb dX4_set_193 rfl (lv_at hl 1 rfl) ?_
                              refine M_g16 S hK hW dX4_set_194 ?_
                              refine lv_iload_n hx hb dX4_set_197 rfl (lv_at hl 2 rfl) ?_
                              refine lv_iload_n hx hb dX4_set_198 rfl (lv_at hl 4 rfl) ?_
                              refine mw_su S hK hW hS 16 rfl rfl rfl (pz_vi (n := mN 16) (by rw [show mN 16 = 8 from rfl]; omega) (by decide)) dX4_set_199 (fun H locs hW hS => ?_)
                              refine lv_iload hx hb dX4_set_200 (lv_at hl 0 rfl) ?_
                              exact r_i (v := r_140) hx hb hr hlocks hS dX4_set_202 (⟨_, rfl, hW⟩)
                            · skip
                              have i_144 : a2.toInt = 3 := by have h9 := pz_eq c_144; exact h9
                              refine lv_aload_n hx hb dX4_set_183 rfl (lv_at hl 1 rfl) ?_
                              refine M_g15 S hK hW dX4_set_184 ?_
                              refine lv_iload_n hx hb dX4_set_187 rfl (lv_at hl 2 rfl) ?_
                              refine lv_iload_n hx hb dX4_set_188 rfl (lv_at hl 4 rfl) ?_
                              refine mw_su S hK hW hS 15 rfl rfl rfl (pz_vi (n := mN 15) (by rw [show mN 15 = 8 from rfl]; omega) (by decide)) dX4_set_189 (fun H locs hW hS => ?_)
                              refine lv_goto (tgt := 200) hx hb dX4_set_190 (by decide) ?_
                              refine lv_iload hx hb dX4_set_200 (lv_at hl 0 rfl) ?_
                              exact r_i (v := r_140) hx hb hr hlocks hS dX4_set_202 (⟨_, rfl, hW⟩)
                          · skip
                            have i_143 : a2.toInt = 2 := by have h9 := pz_eq c_143; exact h9
                            refine lv_aload_n hx hb dX4_set_168 rfl (lv_at hl 1 rfl) ?_
                            refine M_g14 S hK hW dX4_set_169 ?_
                            refine lv_iload_n hx hb dX4_set_172 rfl (lv_at hl 2 rfl) ?_
                            refine lv_iload_n hx hb dX4_set_173 rfl (lv_at hl 4 rfl) ?_
                            refine mw_su S hK hW hS 14 rfl rfl rfl (pz_vi (n := mN 14) (by rw [show mN 14 = 8 from rfl]; omega) (by decide)) dX4_set_174 (fun H locs hW hS => ?_)
                            refine lv_goto (tgt := 200) hx hb dX4_set_175 (by decide) ?_
                            refine lv_iload hx hb dX4_set_200 (lv_at hl 0 rfl) ?_
                            exact r_i (v := r_140) hx hb hr hlocks hS dX4_set_202 (⟨_, rfl, hW⟩)
                        · skip
                          have i_142 : a2.toInt = 1 := by have h9 := pz_eq c_142; exact h9
                          refine lv_aload_n hx hb dX4_set_153 rfl (lv_at hl 1 rfl) ?_
                          refine M_g13 S hK hW dX4_set_154 ?_
                          refine lv_iload_n hx hb dX4_set_157 rfl (lv_at hl 2 rfl) ?_
                          refine lv_iload_n hx hb dX4_set_158 rfl (lv_at hl 4 rfl) ?_
                          refine mw_su S hK hW hS 13 rfl rfl rfl (pz_vi (n := mN 13) (by rw [show mN 13 = 8 from rfl]; omega) (by decide)) dX4_set_159 (fun H locs hW hS => ?_)
                          refine lv_goto (tgt := 200) hx hb dX4_set_160 (by decide) ?_
                          refine lv_iload hx hb dX4_set_200 (lv_at hl 0 rfl) ?_
                          exact r_i (v := r_140) hx hb hr hlocks hS dX4_set_202 (⟨_, rfl, hW⟩)
                      · skip
                        have i_141 : a2.toInt = 0 := by have h9 := pz_eq c_141; exact h9
                        refine lv_aload_n hx hb dX4_set_138 rfl (lv_at hl 1 rfl) ?_
                        refine M_g11 S hK hW dX4_set_139 ?_
                        refine lv_iload_n hx hb dX4_set_142 rfl (lv_at hl 2 rfl) ?_
                        refine lv_iload_n hx hb dX4_set_143 rfl (lv_at hl 4 rfl) ?_
                        refine mw_su S hK hW hS 11 rfl rfl rfl (pz_vi (n := mN 11) (by rw [show mN 11 = 8 from rfl]; omega) (by decide)) dX4_set_144 (fun H locs hW hS => ?_)
                        refine lv_goto (tgt := 200) hx hb dX4_set_145 (by decide) ?_
                        refine lv_iload hx hb dX4_set_200 (lv_at hl 0 rfl) ?_
                        exact r_i (v := r_140) hx hb hr hlocks hS dX4_set_202 (⟨_, rfl, hW⟩)
                  · skip
                    have i_132 : a3.toInt > 20 := by have h9 := pz_nle c_132; exact h9
                    refine lv_aload_n hx hb dX4_set_107 rfl (lv_at hl 0 rfl) ?_
                    refine lv_bipush (v := (-6)) hx hb dX4_set_108 (by decide) ?_
                    refine c_v (n := 1) (As := [.int (-6)]) (rest := []) S (q_X4_refuse l dC dI h0 R A V G (-6) (by unfold vp_in; decide)) iw_787 iw_784 iw_786 iw_33 iw_61 (by decide +kernel) rfl ⟨rfl, rfl, Nat.le_of_ble_eq_true rfl, Nat.le_of_ble_eq_true rfl⟩ Kt.blind (M_recv hK hW) hK.at hW hl.1 rfl (Nat.le_of_ble_eq_true rfl) dX4_set_110 ⟨Nat.le_refl _, Nat.le_refl _⟩ hS (fun _ h9 => h9) (fun v9 H locs hB hz9 hk9 hS => ?_)
                    refine W.widen (k := 0) (n := 0) (Nat.le_refl 0) (Nat.le_refl 0) ?_
                    obtain ⟨_, rfl, rfl, hW⟩ := hB
                    refine W.eq (g2 := F0 m 113 ls [.int (-6)]) rfl ?_
                    exact r_i (v := (-6)) hx hb hr hlocks hS dX4_set_113 (⟨_, rfl, hW⟩)
            · skip
              have i_86 : a2.toInt = 0 := by have h9 := pz_eq c_86; exact h9
              refine lv_bipush (v := 100) hx hb dX4_set_72 (by decide) ?_
              refine lv_goto (tgt := 104) hx hb dX4_set_74 (by decide) ?_
              refine lv_icmp_le (tgt := 114) hx hb dX4_set_104 (by decide) (fun c_146 => ?_) (fun c_146 => ?_)
              · skip
                have i_146 : a3.toInt ≤ 100 := by have h9 := pz_le c_146; exact h9
                refine lv_aload_n hx hb dX4_set_114 rfl (lv_at hl 0 rfl) ?_
                refine lv_iload_n hx hb dX4_set_115 rfl (lv_at hl 1 rfl) ?_
                refine lv_iload_n hx hb dX4_set_116 rfl (lv_at hl 2 rfl) ?_
                refine lv_if_ne (tgt := 125) hx hb dX4_set_117 (by decide) (fun c_147 => ?_) (fun c_147 => ?_)
                · skip
                  have i_147 : ¬ a2.toInt = 0 := by have h9 := pz_neq c_147; exact h9
                  refine lv_bipush (v := 11) hx hb dX4_set_125 (by decide) ?_
                  refine lv_iload_n hx hb dX4_set_127 rfl (lv_at hl 2 rfl) ?_
                  refine lv_iadd hx hb dX4_set_128 ?_
                  refine lv_topi (fun x_148 _ => ?_)
                  refine c_v (n := 2) (As := [.int (nI j_1), .int x_148]) (rest := []) S (q_X4_serverOf l dC dI h0 R A V G ns (nI j_1) x_148 hV2 (by omega)) iw_799 iw_796 iw_797 iw_798 iw_61 (by decide +kernel) rfl ⟨rfl, rfl, Nat.le_of_ble_eq_true rfl, Nat.le_of_ble_eq_true rfl⟩ Kt.blind (M_recv hK hW) hK.at hW hl.1 rfl (Nat.le_of_ble_eq_true rfl) dX4_set_129 ⟨Nat.le_refl _, Nat.le_refl _⟩ hS (fun _ h9 => h9) (fun v9 H locs hB hz9 hk9 hS => ?_)
                  refine W.widen (k := 0) (n := 0) (Nat.le_refl 0) (Nat.le_refl 0) ?_
                  obtain ⟨r_149, rfl, hW⟩ := hB
                  refine W.eq (g2 := F0 m 132 ls [.int r_149]) rfl ?_
                  refine lv_istore (lv' := [(4, .int r_149), (0, .ref h0), (1, .int (nI j_1)), (2, .int a2), (3, .int a3)]) hx hb dX4_set_132 hl (by decide) rfl (fun ls hl => ?_)
                  refine lv_iload_n hx hb dX4_set_134 rfl (lv_at hl 3 rfl) ?_
                  refine lv_if_ne (tgt := 148) hx hb dX4_set_135 (by decide) (fun c_150 => ?_) (fun c_150 => ?_)
                  · skip
                    have i_150 : ¬ a2.toInt = 0 := by have h9 := pz_neq c_150; exact h9
                    refine lv_iload_n hx hb dX4_set_148 rfl (lv_at hl 3 rfl) ?_
                    refine lv_iconst (v := 1) hx hb dX4_set_149 (by decide) ?_
                    refine lv_icmp_ne (tgt := 163) hx hb dX4_set_150 (by decide) (fun c_151 => ?_) (fun c_151 => ?_)
                    · skip
                      have i_151 : ¬ a2.toInt = 1 := by have h9 := pz_neq c_151; exact h9
                      refine lv_iload_n hx hb dX4_set_163 rfl (lv_at hl 3 rfl) ?_
                      refine lv_iconst (v := 2) hx hb dX4_set_164 (by decide) ?_
                      refine lv_icmp_ne (tgt := 178) hx hb dX4_set_165 (by decide) (fun c_152 => ?_) (fun c_152 => ?_)
                      · skip
                        have i_152 : ¬ a2.toInt = 2 := by have h9 := pz_neq c_152; exact h9
                        refine lv_iload_n hx hb dX4_set_178 rfl (lv_at hl 3 rfl) ?_
                        refine lv_iconst (v := 3) hx hb dX4_set_179 (by decide) ?_
                        refine lv_icmp_ne (tgt := 193) hx hb dX4_set_180 (by decide) (fun c_153 => ?_) (fun c_153 => ?_)
                        · skip
                          have i_153 : ¬ a2.toInt = 3 := by have h9 := pz_neq c_153; exact h9
                          refine lv_aload_n hx hb dX4_set_193 rfl (lv_at hl 1 rfl) ?_
                          refine M_g16 S hK hW dX4_set_194 ?_
                          refine lv_iload_n hx hb dX4_set_197 rfl (lv_at hl 2 rfl) ?_
                          refine lv_iload_n hx hb dX4_set_198 rfl (lv_at hl 4 rfl) ?_
                          refine mw_su S hK hW hS 16 rfl rfl rfl (pz_vi (n := mN 16) (by rw [show mN 16 = 8 from rfl]; omega) (by decide)) dX4_set_199 (fun H locs hW hS => ?_)
                          refine lv_iload hx hb dX4_set_200 (lv_at hl 0 rfl) ?_
                          exact r_i (v := r_149) hx hb hr hlocks hS dX4_set_202 (⟨_, rfl, hW⟩)
                        · skip
                          have i_153 : a2.toInt = 3 := by have h9 := pz_eq c_153; exact h9
                          refine lv_aload_n hx hb dX4_set_183 rfl (lv_at hl 1 rfl) ?_
                          refine M_g15 S hK hW dX4_set_184 ?_
                          refine lv_iload_n hx hb dX4_set_187 rfl (lv_at hl 2 rfl) ?_
                          refine lv_iload_n hx hb dX4_set_188 rfl (lv_at hl 4 rfl) ?_
                          refine mw_su S hK hW hS 15 rfl rfl rfl (pz_vi (n := mN 15) (by rw [show mN 15 = 8 from rfl]; omega) (by decide)) dX4_set_189 (fun H locs hW hS => ?_)
                          refine lv_goto (tgt := 200) hx hb dX4_set_190 (by decide) ?_
                          refine lv_iload hx hb dX4_set_200 (lv_at hl 0 rfl) ?_
                          exact r_i (v := r_149) hx hb hr hlocks hS dX4_set_202 (⟨_, rfl, hW⟩)
                      · skip
                        have i_152 : a2.toInt = 2 := by have h9 := pz_eq c_152; exact h9
                        refine lv_aload_n hx hb dX4_set_168 rfl (lv_at hl 1 rfl) ?_
                        refine M_g14 S hK hW dX4_set_169 ?_
                        refine lv_iload_n hx hb dX4_set_172 rfl (lv_at hl 2 rfl) ?_
                        refine lv_iload_n hx hb dX4_set_173 rfl (lv_at hl 4 rfl) ?_
                        refine mw_su S hK hW hS 14 rfl rfl rfl (pz_vi (n := mN 14) (by rw [show mN 14 = 8 from rfl]; omega) (by decide)) dX4_set_174 (fun H locs hW hS => ?_)
                        refine lv_goto (tgt := 200) hx hb dX4_set_175 (by decide) ?_
                        refine lv_iload hx hb dX4_set_200 (lv_at hl 0 rfl) ?_
                        exact r_i (v := r_149) hx hb hr hlocks hS dX4_set_202 (⟨_, rfl, hW⟩)
                    · skip
                      have i_151 : a2.toInt = 1 := by have h9 := pz_eq c_151; exact h9
                      refine lv_aload_n hx hb dX4_set_153 rfl (lv_at hl 1 rfl) ?_
                      refine M_g13 S hK hW dX4_set_154 ?_
                      refine lv_iload_n hx hb dX4_set_157 rfl (lv_at hl 2 rfl) ?_
                      refine lv_iload_n hx hb dX4_set_158 rfl (lv_at hl 4 rfl) ?_
                      refine mw_su S hK hW hS 13 rfl rfl rfl (pz_vi (n := mN 13) (by rw [show mN 13 = 8 from rfl]; omega) (by decide)) dX4_set_159 (fun H locs hW hS => ?_)
                      refine lv_goto (tgt := 200) hx hb dX4_set_160 (by decide) ?_
                      refine lv_iload hx hb dX4_set_200 (lv_at hl 0 rfl) ?_
                      exact r_i (v := r_149) hx hb hr hlocks hS dX4_set_202 (⟨_, rfl, hW⟩)
                  · skip
                    have i_150 : a2.toInt = 0 := by have h9 := pz_eq c_150; exact h9
                    refine lv_aload_n hx hb dX4_set_138 rfl (lv_at hl 1 rfl) ?_
                    refine M_g11 S hK hW dX4_set_139 ?_
                    refine lv_iload_n hx hb dX4_set_142 rfl (lv_at hl 2 rfl) ?_
                    refine lv_iload_n hx hb dX4_set_143 rfl (lv_at hl 4 rfl) ?_
                    refine mw_su S hK hW hS 11 rfl rfl rfl (pz_vi (n := mN 11) (by rw [show mN 11 = 8 from rfl]; omega) (by decide)) dX4_set_144 (fun H locs hW hS => ?_)
                    refine lv_goto (tgt := 200) hx hb dX4_set_145 (by decide) ?_
                    refine lv_iload hx hb dX4_set_200 (lv_at hl 0 rfl) ?_
                    exact r_i (v := r_149) hx hb hr hlocks hS dX4_set_202 (⟨_, rfl, hW⟩)
                · skip
                  have i_147 : a2.toInt = 0 := by have h9 := pz_eq c_147; exact h9
                  refine lv_bipush (v := 10) hx hb dX4_set_120 (by decide) ?_
                  refine lv_goto (tgt := 129) hx hb dX4_set_122 (by decide) ?_
                  refine c_v (n := 2) (As := [.int (nI j_1), .int 10]) (rest := []) S (q_X4_serverOf l dC dI h0 R A V G ns (nI j_1) 10 hV2 (by omega)) iw_799 iw_796 iw_797 iw_798 iw_61 (by decide +kernel) rfl ⟨rfl, rfl, Nat.le_of_ble_eq_true rfl, Nat.le_of_ble_eq_true rfl⟩ Kt.blind (M_recv hK hW) hK.at hW hl.1 rfl (Nat.le_of_ble_eq_true rfl) dX4_set_129 ⟨Nat.le_refl _, Nat.le_refl _⟩ hS (fun _ h9 => h9) (fun v9 H locs hB hz9 hk9 hS => ?_)
                  refine W.widen (k := 0) (n := 0) (Nat.le_refl 0) (Nat.le_refl 0) ?_
                  obtain ⟨r_154, rfl, hW⟩ := hB
                  refine W.eq (g2 := F0 m 132 ls [.int r_154]) rfl ?_
                  refine lv_istore (lv' := [(4, .int r_154), (0, .ref h0), (1, .int (nI j_1)), (2, .int a2), (3, .int a3)]) hx hb dX4_set_132 hl (by decide) rfl (fun ls hl => ?_)
                  refine lv_iload_n hx hb dX4_set_134 rfl (lv_at hl 3 rfl) ?_
                  refine lv_if_ne (tgt := 148) hx hb dX4_set_135 (by decide) (fun c_155 => ?_) (fun c_155 => ?_)
                  · skip
                    have i_155 : ¬ a2.toInt = 0 := by have h9 := pz_neq c_155; exact h9
                    refine lv_iload_n hx hb dX4_set_148 rfl (lv_at hl 3 rfl) ?_
                    refine lv_iconst (v := 1) hx hb dX4_set_149 (by decide) ?_
                    refine lv_icmp_ne (tgt := 163) hx hb dX4_set_150 (by decide) (fun c_156 => ?_) (fun c_156 => ?_)
                    · skip
                      have i_156 : ¬ a2.toInt = 1 := by have h9 := pz_neq c_156; exact h9
                      refine lv_iload_n hx hb dX4_set_163 rfl (lv_at hl 3 rfl) ?_
                      refine lv_iconst (v := 2) hx hb dX4_set_164 (by decide) ?_
                      refine lv_icmp_ne (tgt := 178) hx hb dX4_set_165 (by decide) (fun c_157 => ?_) (fun c_157 => ?_)
                      · skip
                        have i_157 : ¬ a2.toInt = 2 := by have h9 := pz_neq c_157; exact h9
                        refine lv_iload_n hx hb dX4_set_178 rfl (lv_at hl 3 rfl) ?_
                        refine lv_iconst (v := 3) hx hb dX4_set_179 (by decide) ?_
                        refine lv_icmp_ne (tgt := 193) hx hb dX4_set_180 (by decide) (fun c_158 => ?_) (fun c_158 => ?_)
                        · skip
                          have i_158 : ¬ a2.toInt = 3 := by have h9 := pz_neq c_158; exact h9
                          refine lv_aload_n hx hb dX4_set_193 rfl (lv_at hl 1 rfl) ?_
                          refine M_g16 S hK hW dX4_set_194 ?_
                          refine lv_iload_n hx hb dX4_set_197 rfl (lv_at hl 2 rfl) ?_
                          refine lv_iload_n hx hb dX4_set_198 rfl (lv_at hl 4 rfl) ?_
                          refine mw_su S hK hW hS 16 rfl rfl rfl (pz_vi (n := mN 16) (by rw [show mN 16 = 8 from rfl]; omega) (by decide)) dX4_set_199 (fun H locs hW hS => ?_)
                          refine lv_iload hx hb dX4_set_200 (lv_at hl 0 rfl) ?_
                          exact r_i (v := r_154) hx hb hr hlocks hS dX4_set_202 (⟨_, rfl, hW⟩)
                        · skip
                          have i_158 : a2.toInt = 3 := by have h9 := pz_eq c_158; exact h9
                          refine lv_aload_n hx hb dX4_set_183 rfl (lv_at hl 1 rfl) ?_
                          refine M_g15 S hK hW dX4_set_184 ?_
                          refine lv_iload_n hx hb dX4_set_187 rfl (lv_at hl 2 rfl) ?_
                          refine lv_iload_n hx hb dX4_set_188 rfl (lv_at hl 4 rfl) ?_
                          refine mw_su S hK hW hS 15 rfl rfl rfl (pz_vi (n := mN 15) (by rw [show mN 15 = 8 from rfl]; omega) (by decide)) dX4_set_189 (fun H locs hW hS => ?_)
                          refine lv_goto (tgt := 200) hx hb dX4_set_190 (by decide) ?_
                          refine lv_iload hx hb dX4_set_200 (lv_at hl 0 rfl) ?_
                          exact r_i (v := r_154) hx hb hr hlocks hS dX4_set_202 (⟨_, rfl, hW⟩)
                      · skip
                        have i_157 : a2.toInt = 2 := by have h9 := pz_eq c_157; exact h9
                        refine lv_aload_n hx hb dX4_set_168 rfl (lv_at hl 1 rfl) ?_
                        refine M_g14 S hK hW dX4_set_169 ?_
                        refine lv_iload_n hx hb dX4_set_172 rfl (lv_at hl 2 rfl) ?_
                        refine lv_iload_n hx hb dX4_set_173 rfl (lv_at hl 4 rfl) ?_
                        refine mw_su S hK hW hS 14 rfl rfl rfl (pz_vi (n := mN 14) (by rw [show mN 14 = 8 from rfl]; omega) (by decide)) dX4_set_174 (fun H locs hW hS => ?_)
                        refine lv_goto (tgt := 200) hx hb dX4_set_175 (by decide) ?_
                        refine lv_iload hx hb dX4_set_200 (lv_at hl 0 rfl) ?_
                        exact r_i (v := r_154) hx hb hr hlocks hS dX4_set_202 (⟨_, rfl, hW⟩)
                    · skip
                      have i_156 : a2.toInt = 1 := by have h9 := pz_eq c_156; exact h9
                      refine lv_aload_n hx hb dX4_set_153 rfl (lv_at hl 1 rfl) ?_
                      refine M_g13 S hK hW dX4_set_154 ?_
                      refine lv_iload_n hx hb dX4_set_157 rfl (lv_at hl 2 rfl) ?_
                      refine lv_iload_n hx hb dX4_set_158 rfl (lv_at hl 4 rfl) ?_
                      refine mw_su S hK hW hS 13 rfl rfl rfl (pz_vi (n := mN 13) (by rw [show mN 13 = 8 from rfl]; omega) (by decide)) dX4_set_159 (fun H locs hW hS => ?_)
                      refine lv_goto (tgt := 200) hx hb dX4_set_160 (by decide) ?_
                      refine lv_iload hx hb dX4_set_200 (lv_at hl 0 rfl) ?_
                      exact r_i (v := r_154) hx hb hr hlocks hS dX4_set_202 (⟨_, rfl, hW⟩)
                  · skip
                    have i_155 : a2.toInt = 0 := by have h9 := pz_eq c_155; exact h9
                    refine lv_aload_n hx hb dX4_set_138 rfl (lv_at hl 1 rfl) ?_
                    refine M_g11 S hK hW dX4_set_139 ?_
                    refine lv_iload_n hx hb dX4_set_142 rfl (lv_at hl 2 rfl) ?_
                    refine lv_iload_n hx hb dX4_set_143 rfl (lv_at hl 4 rfl) ?_
                    refine mw_su S hK hW hS 11 rfl rfl rfl (pz_vi (n := mN 11) (by rw [show mN 11 = 8 from rfl]; omega) (by decide)) dX4_set_144 (fun H locs hW hS => ?_)
                    refine lv_goto (tgt := 200) hx hb dX4_set_145 (by decide) ?_
                    refine lv_iload hx hb dX4_set_200 (lv_at hl 0 rfl) ?_
                    exact r_i (v := r_154) hx hb hr hlocks hS dX4_set_202 (⟨_, rfl, hW⟩)
              · skip
                have i_146 : a3.toInt > 100 := by have h9 := pz_nle c_146; exact h9
                refine lv_aload_n hx hb dX4_set_107 rfl (lv_at hl 0 rfl) ?_
                refine lv_bipush (v := (-6)) hx hb dX4_set_108 (by decide) ?_
                refine c_v (n := 1) (As := [.int (-6)]) (rest := []) S (q_X4_refuse l dC dI h0 R A V G (-6) (by unfold vp_in; decide)) iw_787 iw_784 iw_786 iw_33 iw_61 (by decide +kernel) rfl ⟨rfl, rfl, Nat.le_of_ble_eq_true rfl, Nat.le_of_ble_eq_true rfl⟩ Kt.blind (M_recv hK hW) hK.at hW hl.1 rfl (Nat.le_of_ble_eq_true rfl) dX4_set_110 ⟨Nat.le_refl _, Nat.le_refl _⟩ hS (fun _ h9 => h9) (fun v9 H locs hB hz9 hk9 hS => ?_)
                refine W.widen (k := 0) (n := 0) (Nat.le_refl 0) (Nat.le_refl 0) ?_
                obtain ⟨_, rfl, rfl, hW⟩ := hB
                refine W.eq (g2 := F0 m 113 ls [.int (-6)]) rfl ?_
                exact r_i (v := (-6)) hx hb hr hlocks hS dX4_set_113 (⟨_, rfl, hW⟩)
          · skip
            have i_85 : a3.toInt < 1 := by have h9 := pz_nge c_85; exact h9
            refine lv_aload_n hx hb dX4_set_60 rfl (lv_at hl 0 rfl) ?_
            refine lv_bipush (v := (-4)) hx hb dX4_set_61 (by decide) ?_
            refine c_v (n := 1) (As := [.int (-4)]) (rest := []) S (q_X4_refuse l dC dI h0 R A V G (-4) (by unfold vp_in; decide)) iw_787 iw_784 iw_786 iw_33 iw_61 (by decide +kernel) rfl ⟨rfl, rfl, Nat.le_of_ble_eq_true rfl, Nat.le_of_ble_eq_true rfl⟩ Kt.blind (M_recv hK hW) hK.at hW hl.1 rfl (Nat.le_of_ble_eq_true rfl) dX4_set_63 ⟨Nat.le_refl _, Nat.le_refl _⟩ hS (fun _ h9 => h9) (fun v9 H locs hB hz9 hk9 hS => ?_)
            refine W.widen (k := 0) (n := 0) (Nat.le_refl 0) (Nat.le_refl 0) ?_
            obtain ⟨_, rfl, rfl, hW⟩ := hB
            refine W.eq (g2 := F0 m 66 ls [.int (-4)]) rfl ?_
            exact r_i (v := (-4)) hx hb hr hlocks hS dX4_set_66 (⟨_, rfl, hW⟩)
      · skip
        have i_7 : x_6.toInt = 4 := by have h9 := pz_eq c_7; exact h9
        refine lv_aload_n hx hb dX4_set_39 rfl (lv_at hl 0 rfl) ?_
        refine lv_bipush (v := (-3)) hx hb dX4_set_40 (by decide) ?_
        refine c_v (n := 1) (As := [.int (-3)]) (rest := []) S (q_X4_refuse l dC dI h0 R A V G (-3) (by unfold vp_in; decide)) iw_787 iw_784 iw_786 iw_33 iw_61 (by decide +kernel) rfl ⟨rfl, rfl, Nat.le_of_ble_eq_true rfl, Nat.le_of_ble_eq_true rfl⟩ Kt.blind (M_recv hK hW) hK.at hW hl.1 rfl (Nat.le_of_ble_eq_true rfl) dX4_set_42 ⟨Nat.le_refl _, Nat.le_refl _⟩ hS (fun _ h9 => h9) (fun v9 H locs hB hz9 hk9 hS => ?_)
        refine W.widen (k := 0) (n := 0) (Nat.le_refl 0) (Nat.le_refl 0) ?_
        obtain ⟨_, rfl, rfl, hW⟩ := hB
        refine W.eq (g2 := F0 m 45 ls [.int (-3)]) rfl ?_
        exact r_i (v := (-3)) hx hb hr hlocks hS dX4_set_45 (⟨_, rfl, hW⟩)
    · skip
      have ha_4 : a2.toInt < 0 ∨ 5 ≤ a2.toInt := by have h9 := ha_4; exact h9
      refine lv_if_ne (tgt := 29) hx hb dX4_set_19 (by decide) (fun c_162 => absurd c_162 (by decide)) (fun c_162 => ?_)
      refine lv_aload_n hx hb dX4_set_22 rfl (lv_at hl 0 rfl) ?_
      refine lv_bipush (v := (-2)) hx hb dX4_set_23 (by decide) ?_
      refine c_v (n := 1) (As := [.int (-2)]) (rest := []) S (q_X4_refuse l dC dI h0 R A V G (-2) (by unfold vp_in; decide)) iw_787 iw_784 iw_786 iw_33 iw_61 (by decide +kernel) rfl ⟨rfl, rfl, Nat.le_of_ble_eq_true rfl, Nat.le_of_ble_eq_true rfl⟩ Kt.blind (M_recv hK hW) hK.at hW hl.1 rfl (Nat.le_of_ble_eq_true rfl) dX4_set_25 ⟨Nat.le_refl _, Nat.le_refl _⟩ hS (fun _ h9 => h9) (fun v9 H locs hB hz9 hk9 hS => ?_)
      refine W.widen (k := 0) (n := 0) (Nat.le_refl 0) (Nat.le_refl 0) ?_
      obtain ⟨_, rfl, rfl, hW⟩ := hB
      refine W.eq (g2 := F0 m 28 ls [.int (-2)]) rfl ?_
      exact r_i (v := (-2)) hx hb hr hlocks hS dX4_set_28 (⟨_, rfl, hW⟩)
  · skip
    refine lv_if_ne (tgt := 14) hx hb dX4_set_5 (by decide) (fun c_164 => absurd c_164 (by decide)) (fun c_164 => ?_)
    refine lv_aload_n hx hb dX4_set_8 rfl (lv_at hl 0 rfl) ?_
    refine lv_iconst (v := (-1)) hx hb dX4_set_9 (by decide) ?_
    refine c_v (n := 1) (As := [.int (-1)]) (rest := []) S (q_X4_refuse l dC dI h0 R A V G (-1) (by unfold vp_in; decide)) iw_787 iw_784 iw_786 iw_33 iw_61 (by decide +kernel) rfl ⟨rfl, rfl, Nat.le_of_ble_eq_true rfl, Nat.le_of_ble_eq_true rfl⟩ Kt.blind (M_recv hK hW) hK.at hW hl.1 rfl (Nat.le_of_ble_eq_true rfl) dX4_set_10 ⟨Nat.le_refl _, Nat.le_refl _⟩ hS (fun _ h9 => h9) (fun v9 H locs hB hz9 hk9 hS => ?_)
    refine W.widen (k := 0) (n := 0) (Nat.le_refl 0) (Nat.le_refl 0) ?_
    obtain ⟨_, rfl, rfl, hW⟩ := hB
    refine W.eq (g2 := F0 m 13 ls [.int (-1)]) rfl ?_
    exact r_i (v := (-1)) hx hb hr hlocks hS dX4_set_13 (⟨_, rfl, hW⟩)
