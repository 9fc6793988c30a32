abbrev B_q_X4_inState (dC : Nat → ClassId) (dI : Nat → Nat → Nat) (h0 : Nat) (R : Nat → Nat) (A : Nat → Prop) (V : Nat → Int32) (G : Nat → Nat → Int32) (nc : Nat) (a1 : Int32) : Option Value → Heap → Prop := fun v H => ∃ r : Int32, v = some (.int r) ∧ Mw dC dI h0 R A V G H
set_option maxHeartbeats 8000000 in
set_option maxRecDepth 20000 in
theorem q_X4_inState (l : Launch) (dC : Nat → ClassId) (dI : Nat → Nat → Nat) (h0 : Nat) (R : Nat → Nat) (A : Nat → Prop) (V : Nat → Int32) (G : Nat → Nat → Int32) (nc : Nat) (a1 : Int32) (hV3 : V 3 = nI nc) (hnc : nc ≤ 200) : Met l yX4_inState (cws yX4_inState cX4_inState 4 (some .int)) { frames := 0, cells := 0, slots := 0, locals := 0 } (va_Pc [.ref h0, .int a1] (fun U => Kt dC dI U ∧ Mw dC dI h0 R A V G U.heap)) (Qg (B_q_X4_inState dC dI h0 R A V G nc a1) A) 0 0 A := by
  refine m_start (KK := Kt dC dI) (Pw := Mw dC dI h0 R A V G) (by decide) (Nat.le_of_ble_eq_true rfl) ?_
  intro p e s m below meth c ls S hr hlocks hin hK hW hS hl
  obtain ⟨hx, hb, hml, hown, hts⟩ := id S
  have hl : lv_has ls 4 [(0, .ref h0), (1, .int a1)] := hl
  have en_c : (nI nc).toInt = ((nc : Nat) : Int) := pz_ti (by omega)
  refine lv_iconst (v := 0) hx hb dX4_inState_0 (by decide) ?_
  refine lv_istore_n (lv' := [(2, .int 0), (0, .ref h0), (1, .int a1)]) hx hb dX4_inState_1 rfl hl (by decide) rfl (fun ls hl => ?_)
  refine lv_iconst (v := 0) hx hb dX4_inState_2 (by decide) ?_
  refine lv_istore_n (lv' := [(3, .int 0), (2, .int 0), (0, .ref h0), (1, .int a1)]) hx hb dX4_inState_3 rfl hl (by decide) rfl (fun ls hl => ?_)
  have loop_B4 : ∀ (k9 : Nat) (j : Nat) (n2 : Int32) (H : Heap) (locs : List Loc) (ls : Array Slot), nc - j = k9 → (j ≤ nc) → Mw dC dI h0 R A V G H → va_S A s.heap H locs → lv_has ls 4 [(0, .ref h0), (1, .int a1), (2, .int n2), (3, .int (nI j))] → W p l e { frames := 0, cells := 0, slots := 0, locals := 0 } s m ([.ref h0, .int a1] : List Value).toArray below meth c H locs 0 0 (MQ below (Qg (B_q_X4_inState dC dI h0 R A V G nc a1) A) ([.ref h0, .int a1] : List Value).toArray s 0 0 A) (F0 m 4 ls []) := by
    intro k9
    induction k9 using Nat.strongRecOn with
    | ind k9 ih_B4 =>
      intro j n2 H locs ls hm_B4 hle_j hW hS hl
      have en_j : (nI j).toInt = ((j : Nat) : Int) := pz_ti (by omega)
      refine lv_iload_n hx hb dX4_inState_4 rfl (lv_at hl 3 rfl) ?_
      refine lv_aload_n hx hb dX4_inState_5 rfl (lv_at hl 0 rfl) ?_
      refine M_g3 S hK hW dX4_inState_6 (fun x_1 hx_1 => ?_)
      obtain rfl : x_1 = nI nc := hx_1.trans hV3
      refine lv_icmp_ge (tgt := 36) hx hb dX4_inState_9 (by decide) (fun c_2 => ?_) (fun c_2 => ?_)
      · skip
        have i_2 : (nI j).toInt ≥ (nI nc).toInt := by have h9 := pz_ge c_2; exact h9
        refine lv_iload_n hx hb dX4_inState_36 rfl (lv_at hl 2 rfl) ?_
        exact r_i (v := n2) hx hb hr hlocks hS dX4_inState_37 (⟨_, rfl, hW⟩)
      · skip
        have i_2 : (nI j).toInt < (nI nc).toInt := by have h9 := pz_nge c_2; exact h9
        refine lv_iload_n hx hb dX4_inState_12 rfl (lv_at hl 2 rfl) ?_
        refine lv_aload_n hx hb dX4_inState_13 rfl (lv_at hl 0 rfl) ?_
        refine M_g30 S hK hW dX4_inState_14 ?_
        refine lv_iload_n hx hb dX4_inState_17 rfl (lv_at hl 3 rfl) ?_
        refine mw_ld S hK hW 30 rfl rfl (pz_vi (n := mN 30) (by rw [show mN 30 = 200 from rfl]; omega) (by decide)) dX4_inState_18 (fun x_3 hx_3 => ?_)
        replace hx_3 : x_3 = G 30 j := (hx_3 rfl).trans (congrArg _ (pz_cl (by omega)))
        refine lv_iload_n hx hb dX4_inState_19 rfl (lv_at hl 1 rfl) ?_
        refine lv_icmp_ne (tgt := 27) hx hb dX4_inState_20 (by decide) (fun c_4 => ?_) (fun c_4 => ?_)
        · skip
          have i_4 : ¬ x_3.toInt = a1.toInt := by have h9 := pz_neq c_4; exact h9
          refine lv_iconst (v := 0) hx hb dX4_inState_27 (by decide) ?_
          refine lv_iadd hx hb dX4_inState_28 ?_
          refine lv_topi (fun x_5 _ => ?_)
          refine lv_istore_n (lv' := [(2, .int x_5), (0, .ref h0), (1, .int a1), (3, .int (nI j))]) hx hb dX4_inState_29 rfl hl (by decide) rfl (fun ls hl => ?_)
          obtain ⟨y_6, ey_6⟩ : ∃ y : Int32, y = (nI j) + 1 := ⟨_, rfl⟩
          refine lv_iinc (v := y_6) (lv' := [(3, .int y_6), (2, .int x_5), (0, .ref h0), (1, .int a1)]) hx hb dX4_inState_30 hl (k := 3) rfl (by rw [ey_6]; rfl) (by decide) rfl (fun ls hl => ?_)
          obtain rfl : y_6 = nI (j + 1) := ey_6.trans (nI_1 j)
          have en_7 : (nI (j + 1)).toInt = ((j + 1 : Nat) : Int) := pz_ti (by omega)
          refine lv_goto (tgt := 4) hx hb dX4_inState_33 (by decide) ?_
          exact ih_B4 _ (by omega) (j + 1) x_5 _ _ ls rfl (by omega) hW hS (lv_sub hl [2, 3, 1, 0] rfl)
        · skip
          have i_4 : x_3.toInt = a1.toInt := by have h9 := pz_eq c_4; exact h9
          refine lv_iconst (v := 1) hx hb dX4_inState_23 (by decide) ?_
          refine lv_goto (tgt := 28) hx hb dX4_inState_24 (by decide) ?_
          refine lv_iadd hx hb dX4_inState_28 ?_
          refine lv_topi (fun x_8 _ => ?_)
          refine lv_istore_n (lv' := [(2, .int x_8), (0, .ref h0), (1, .int a1), (3, .int (nI j))]) hx hb dX4_inState_29 rfl hl (by decide) rfl (fun ls hl => ?_)
          obtain ⟨y_9, ey_9⟩ : ∃ y : Int32, y = (nI j) + 1 := ⟨_, rfl⟩
          refine lv_iinc (v := y_9) (lv' := [(3, .int y_9), (2, .int x_8), (0, .ref h0), (1, .int a1)]) hx hb dX4_inState_30 hl (k := 3) rfl (by rw [ey_9]; rfl) (by decide) rfl (fun ls hl => ?_)
          obtain rfl : y_9 = nI (j + 1) := ey_9.trans (nI_1 j)
          have en_10 : (nI (j + 1)).toInt = ((j + 1 : Nat) : Int) := pz_ti (by omega)
          refine lv_goto (tgt := 4) hx hb dX4_inState_33 (by decide) ?_
          exact ih_B4 _ (by omega) (j + 1) x_8 _ _ ls rfl (by omega) hW hS (lv_sub hl [2, 3, 1, 0] rfl)
  exact loop_B4 _ 0 0 _ _ ls rfl (by omega) hW hS (lv_sub hl [2, 3, 1, 0] rfl)

abbrev B_q_X4_outsNow (dC : Nat → ClassId) (dI : Nat → Nat → Nat) (h0 : Nat) (R : Nat → Nat) (A : Nat → Prop) (V : Nat → Int32) (G : Nat → Nat → Int32) (ns : Nat) (a1 : Int32) : Option Value → Heap → Prop := fun v H => ∃ r : Int32, v = some (.int r) ∧ Mw dC dI h0 R A V G H
set_option maxHeartbeats 8000000 in
set_option maxRecDepth 20000 in
theorem q_X4_outsNow (l : Launch) (dC : Nat → ClassId) (dI : Nat → Nat → Nat) (h0 : Nat) (R : Nat → Nat) (A : Nat → Prop) (V : Nat → Int32) (G : Nat → Nat → Int32) (ns : Nat) (a1 : Int32) (hV2 : V 2 = nI ns) (hns : ns ≤ 8) : Met l yX4_outsNow (cws yX4_outsNow cX4_outsNow 4 (some .int)) { frames := 0, cells := 0, slots := 0, locals := 0 } (va_Pc [.ref h0, .int a1] (fun U => Kt dC dI U ∧ Mw dC dI h0 R A V G U.heap)) (Qg (B_q_X4_outsNow dC dI h0 R A V G ns a1) A) 0 0 A := by
  refine m_start (KK := Kt dC dI) (Pw := Mw dC dI h0 R A V G) (by decide) (Nat.le_of_ble_eq_true rfl) ?_
  intro p e s m below meth c ls S hr hlocks hin hK hW hS hl
  obtain ⟨hx, hb, hml, hown, hts⟩ := id S
  have hl : lv_has ls 4 [(0, .ref h0), (1, .int a1)] := hl
  have en_s : (nI ns).toInt = ((ns : Nat) : Int) := pz_ti (by omega)
  refine lv_iconst (v := 0) hx hb dX4_outsNow_0 (by decide) ?_
  refine lv_istore_n (lv' := [(2, .int 0), (0, .ref h0), (1, .int a1)]) hx hb dX4_outsNow_1 rfl hl (by decide) rfl (fun ls hl => ?_)
  refine lv_iconst (v := 0) hx hb dX4_outsNow_2 (by decide) ?_
  refine lv_istore_n (lv' := [(3, .int 0), (2, .int 0), (0, .ref h0), (1, .int a1)]) hx hb dX4_outsNow_3 rfl hl (by decide) rfl (fun ls hl => ?_)
  have loop_B4 : ∀ (k9 : Nat) (j : Nat) (n2 : Int32) (H : Heap) (locs : List Loc) (ls : Array Slot), ns - j = k9 → (j ≤ ns) → Mw dC dI h0 R A V G H → va_S A s.heap H locs → lv_has ls 4 [(0, .ref h0), (1, .int a1), (2, .int n2), (3, .int (nI j))] → W p l e { frames := 0, cells := 0, slots := 0, locals := 0 } s m ([.ref h0, .int a1] : List Value).toArray below meth c H locs 0 0 (MQ below (Qg (B_q_X4_outsNow dC dI h0 R A V G ns a1) A) ([.ref h0, .int a1] : List Value).toArray s 0 0 A) (F0 m 4 ls []) := by
    intro k9
    induction k9 using Nat.strongRecOn with
    | ind k9 ih_B4 =>
      intro j n2 H locs ls hm_B4 hle_j hW hS hl
      have en_j : (nI j).toInt = ((j : Nat) : Int) := pz_ti (by omega)
      refine lv_iload_n hx hb dX4_outsNow_4 rfl (lv_at hl 3 rfl) ?_
      refine lv_aload_n hx hb dX4_outsNow_5 rfl (lv_at hl 0 rfl) ?_
      refine M_g2 S hK hW dX4_outsNow_6 (fun x_1 hx_1 => ?_)
      obtain rfl : x_1 = nI ns := hx_1.trans hV2
      refine lv_icmp_ge (tgt := 59) hx hb dX4_outsNow_9 (by decide) (fun c_2 => ?_) (fun c_2 => ?_)
      · skip
        have i_2 : (nI j).toInt ≥ (nI ns).toInt := by have h9 := pz_ge c_2; exact h9
        refine lv_iload_n hx hb dX4_outsNow_59 rfl (lv_at hl 2 rfl) ?_
        exact r_i (v := n2) hx hb hr hlocks hS dX4_outsNow_60 (⟨_, rfl, hW⟩)
      · skip
        have i_2 : (nI j).toInt < (nI ns).toInt := by have h9 := pz_nge c_2; exact h9
        refine lv_iload_n hx hb dX4_outsNow_12 rfl (lv_at hl 2 rfl) ?_
        refine lv_aload_n hx hb dX4_outsNow_13 rfl (lv_at hl 0 rfl) ?_
        refine M_g17 S hK hW dX4_outsNow_14 ?_
        refine lv_iload_n hx hb dX4_outsNow_17 rfl (lv_at hl 3 rfl) ?_
        refine mw_ld S hK hW 17 rfl rfl (pz_vi (n := mN 17) (by rw [show mN 17 = 8 from rfl]; omega) (by decide)) dX4_outsNow_18 (fun x_3 hx_3 => ?_)
        replace hx_3 : x_3 = G 17 j := (hx_3 rfl).trans (congrArg _ (pz_cl (by omega)))
        refine lv_iconst (v := 1) hx hb dX4_outsNow_19 (by decide) ?_
        refine lv_icmp_eq (tgt := 46) hx hb dX4_outsNow_20 (by decide) (fun c_4 => ?_) (fun c_4 => ?_)
        · skip
          have i_4 : x_3.toInt = 1 := by have h9 := pz_eq c_4; exact h9
          refine lv_iconst (v := 1) hx hb dX4_outsNow_46 (by decide) ?_
          refine lv_goto (tgt := 51) hx hb dX4_outsNow_47 (by decide) ?_
          refine lv_iadd hx hb dX4_outsNow_51 ?_
          refine lv_topi (fun x_5 _ => ?_)
          refine lv_istore_n (lv' := [(2, .int x_5), (0, .ref h0), (1, .int a1), (3, .int (nI j))]) hx hb dX4_outsNow_52 rfl hl (by decide) rfl (fun ls hl => ?_)
          obtain ⟨y_6, ey_6⟩ : ∃ y : Int32, y = (nI j) + 1 := ⟨_, rfl⟩
          refine lv_iinc (v := y_6) (lv' := [(3, .int y_6), (2, .int x_5), (0, .ref h0), (1, .int a1)]) hx hb dX4_outsNow_53 hl (k := 3) rfl (by rw [ey_6]; rfl) (by decide) rfl (fun ls hl => ?_)
          obtain rfl : y_6 = nI (j + 1) := ey_6.trans (nI_1 j)
          have en_7 : (nI (j + 1)).toInt = ((j + 1 : Nat) : Int) := pz_ti (by omega)
          refine lv_goto (tgt := 4) hx hb dX4_outsNow_56 (by decide) ?_
          exact ih_B4 _ (by omega) (j + 1) x_5 _ _ ls rfl (by omega) hW hS (lv_sub hl [2, 3, 1, 0] rfl)
        · skip
          have i_4 : ¬ x_3.toInt = 1 := by have h9 := pz_neq c_4; exact h9
          refine lv_iload_n hx hb dX4_outsNow_23 rfl (lv_at hl 1 rfl) ?_
          refine lv_if_eq (tgt := 50) hx hb dX4_outsNow_24 (by decide) (fun c_8 => ?_) (fun c_8 => ?_)
          · skip
            have i_8 : a1.toInt = 0 := by have h9 := pz_eq c_8; exact h9
            refine lv_iconst (v := 0) hx hb dX4_outsNow_50 (by decide) ?_
            refine lv_iadd hx hb dX4_outsNow_51 ?_
            refine lv_topi (fun x_9 _ => ?_)
            refine lv_istore_n (lv' := [(2, .int x_9), (0, .ref h0), (1, .int a1), (3, .int (nI j))]) hx hb dX4_outsNow_52 rfl hl (by decide) rfl (fun ls hl => ?_)
            obtain ⟨y_10, ey_10⟩ : ∃ y : Int32, y = (nI j) + 1 := ⟨_, rfl⟩
            refine lv_iinc (v := y_10) (lv' := [(3, .int y_10), (2, .int x_9), (0, .ref h0), (1, .int a1)]) hx hb dX4_outsNow_53 hl (k := 3) rfl (by rw [ey_10]; rfl) (by decide) rfl (fun ls hl => ?_)
            obtain rfl : y_10 = nI (j + 1) := ey_10.trans (nI_1 j)
            have en_11 : (nI (j + 1)).toInt = ((j + 1 : Nat) : Int) := pz_ti (by omega)
            refine lv_goto (tgt := 4) hx hb dX4_outsNow_56 (by decide) ?_
            exact ih_B4 _ (by omega) (j + 1) x_9 _ _ ls rfl (by omega) hW hS (lv_sub hl [2, 3, 1, 0] rfl)
          · skip
            have i_8 : ¬ a1.toInt = 0 := by have h9 := pz_neq c_8; exact h9
            refine lv_aload_n hx hb dX4_outsNow_27 rfl (lv_at hl 0 rfl) ?_
            refine M_g17 S hK hW dX4_outsNow_28 ?_
            refine lv_iload_n hx hb dX4_outsNow_31 rfl (lv_at hl 3 rfl) ?_
            refine mw_ld S hK hW 17 rfl rfl (pz_vi (n := mN 17) (by rw [show mN 17 = 8 from rfl]; omega) (by decide)) dX4_outsNow_32 (fun x_12 hx_12 => ?_)
            replace hx_12 : x_12 = G 17 j := (hx_12 rfl).trans (congrArg _ (pz_cl (by omega)))
            refine lv_if_eq (tgt := 46) hx hb dX4_outsNow_33 (by decide) (fun c_13 => ?_) (fun c_13 => ?_)
            · skip
              have i_13 : x_12.toInt = 0 := by have h9 := pz_eq c_13; exact h9
              refine lv_iconst (v := 1) hx hb dX4_outsNow_46 (by decide) ?_
              refine lv_goto (tgt := 51) hx hb dX4_outsNow_47 (by decide) ?_
              refine lv_iadd hx hb dX4_outsNow_51 ?_
              refine lv_topi (fun x_14 _ => ?_)
              refine lv_istore_n (lv' := [(2, .int x_14), (0, .ref h0), (1, .int a1), (3, .int (nI j))]) hx hb dX4_outsNow_52 rfl hl (by decide) rfl (fun ls hl => ?_)
              obtain ⟨y_15, ey_15⟩ : ∃ y : Int32, y = (nI j) + 1 := ⟨_, rfl⟩
              refine lv_iinc (v := y_15) (lv' := [(3, .int y_15), (2, .int x_14), (0, .ref h0), (1, .int a1)]) hx hb dX4_outsNow_53 hl (k := 3) rfl (by rw [ey_15]; rfl) (by decide) rfl (fun ls hl => ?_)
              obtain rfl : y_15 = nI (j + 1) := ey_15.trans (nI_1 j)
              have en_16 : (nI (j + 1)).toInt = ((j + 1 : Nat) : Int) := pz_ti (by omega)
              refine lv_goto (tgt := 4) hx hb dX4_outsNow_56 (by decide) ?_
              exact ih_B4 _ (by omega) (j + 1) x_14 _ _ ls rfl (by omega) hW hS (lv_sub hl [2, 3, 1, 0] rfl)
            · skip
              have i_13 : ¬ x_12.toInt = 0 := by have h9 := pz_neq c_13; exact h9
              refine lv_aload_n hx hb dX4_outsNow_36 rfl (lv_at hl 0 rfl) ?_
              refine M_g17 S hK hW dX4_outsNow_37 ?_
              refine lv_iload_n hx hb dX4_outsNow_40 rfl (lv_at hl 3 rfl) ?_
              refine mw_ld S hK hW 17 rfl rfl (pz_vi (n := mN 17) (by rw [show mN 17 = 8 from rfl]; omega) (by decide)) dX4_outsNow_41 (fun x_17 hx_17 => ?_)
              replace hx_17 : x_17 = G 17 j := (hx_17 rfl).trans (congrArg _ (pz_cl (by omega)))
              refine lv_iconst (v := 2) hx hb dX4_outsNow_42 (by decide) ?_
              refine lv_icmp_ne (tgt := 50) hx hb dX4_outsNow_43 (by decide) (fun c_18 => ?_) (fun c_18 => ?_)
              · skip
                have i_18 : ¬ x_17.toInt = 2 := by have h9 := pz_neq c_18; exact h9
                refine lv_iconst (v := 0) hx hb dX4_outsNow_50 (by decide) ?_
                refine lv_iadd hx hb dX4_outsNow_51 ?_
                refine lv_topi (fun x_19 _ => ?_)
                refine lv_istore_n (lv' := [(2, .int x_19), (0, .ref h0), (1, .int a1), (3, .int (nI j))]) hx hb dX4_outsNow_52 rfl hl (by decide) rfl (fun ls hl => ?_)
                obtain ⟨y_20, ey_20⟩ : ∃ y : Int32, y = (nI j) + 1 := ⟨_, rfl⟩
                refine lv_iinc (v := y_20) (lv' := [(3, .int y_20), (2, .int x_19), (0, .ref h0), (1, .int a1)]) hx hb dX4_outsNow_53 hl (k := 3) rfl (by rw [ey_20]; rfl) (by decide) rfl (fun ls hl => ?_)
                obtain rfl : y_20 = nI (j + 1) := ey_20.trans (nI_1 j)
                have en_21 : (nI (j + 1)).toInt = ((j + 1 : Nat) : Int) := pz_ti (by omega)
                refine lv_goto (tgt := 4) hx hb dX4_outsNow_56 (by decide) ?_
                exact ih_B4 _ (by omega) (j + 1) x_19 _ _ ls rfl (by omega) hW hS (lv_sub hl [2, 3, 1, 0] rfl)
              · skip
                have i_18 : x_17.toInt = 2 := by have h9 := pz_eq c_18; exact h9
                refine lv_iconst (v := 1) hx hb dX4_outsNow_46 (by decide) ?_
                refine lv_goto (tgt := 51) hx hb dX4_outsNow_47 (by decide) ?_
                refine lv_iadd hx hb dX4_outsNow_51 ?_
                refine lv_topi (fun x_22 _ => ?_)
                refine lv_istore_n (lv' := [(2, .int x_22), (0, .ref h0), (1, .int a1), (3, .int (nI j))]) hx hb dX4_outsNow_52 rfl hl (by decide) rfl (fun ls hl => ?_)
                obtain ⟨y_23, ey_23⟩ : ∃ y : Int32, y = (nI j) + 1 := ⟨_, rfl⟩
                refine lv_iinc (v := y_23) (lv' := [(3, .int y_23), (2, .int x_22), (0, .ref h0), (1, .int a1)]) hx hb dX4_outsNow_53 hl (k := 3) rfl (by rw [ey_23]; rfl) (by decide) rfl (fun ls hl => ?_)
                obtain rfl : y_23 = nI (j + 1) := ey_23.trans (nI_1 j)
                have en_24 : (nI (j + 1)).toInt = ((j + 1 : Nat) : Int) := pz_ti (by omega)
                refine lv_goto (tgt := 4) hx hb dX4_outsNow_56 (by decide) ?_
                exact ih_B4 _ (by omega) (j + 1) x_22 _ _ ls rfl (by omega) hW hS (lv_sub hl [2, 3, 1, 0] rfl)
  exact loop_B4 _ 0 0 _ _ ls rfl (by omega) hW hS (lv_sub hl [2, 3, 1, 0] rfl)

abbrev B_q_X4_mays (dC : Nat → ClassId) (dI : Nat → Nat → Nat) (h0 : Nat) (R : Nat → Nat) (A : Nat → Prop) (V : Nat → Int32) (G : Nat → Nat → Int32) (ns : Nat) (a1 : Int32) : Option Value → Heap → Prop := fun v H => ∃ r : Int32, v = some (.int r) ∧ gMay r ns ∧ Mw dC dI h0 R A V G H
set_option maxHeartbeats 8000000 in
set_option maxRecDepth 20000 in
theorem q_X4_mays (l : Launch) (dC : Nat → ClassId) (dI : Nat → Nat → Nat) (h0 : Nat) (R : Nat → Nat) (A : Nat → Prop) (V : Nat → Int32) (G : Nat → Nat → Int32) (ns : Nat) (a1 : Int32) (hV2 : V 2 = nI ns) (hns : ns ≤ 8) : Met l yX4_mays (cws yX4_mays cX4_mays 4 (some .int)) { frames := 0, cells := 0, slots := 0, locals := 0 } (va_Pc [.ref h0, .int a1] (fun U => Kt dC dI U ∧ Mw dC dI h0 R A V G U.heap)) (Qg (B_q_X4_mays dC dI h0 R A V G ns a1) A) 0 0 A := by
  refine m_start (KK := Kt dC dI) (Pw := Mw dC dI h0 R A V G) (by decide) (Nat.le_of_ble_eq_true rfl) ?_
  intro p e s m below meth c ls S hr hlocks hin hK hW hS hl
  obtain ⟨hx, hb, hml, hown, hts⟩ := id S
  have hl : lv_has ls 4 [(0, .ref h0), (1, .int a1)] := hl
  have en_s : (nI ns).toInt = ((ns : Nat) : Int) := pz_ti (by omega)
  refine lv_iconst (v := 0) hx hb dX4_mays_0 (by decide) ?_
  refine lv_istore_n (lv' := [(2, .int 0), (0, .ref h0), (1, .int a1)]) hx hb dX4_mays_1 rfl hl (by decide) rfl (fun ls hl => ?_)
  refine lv_iconst (v := 0) hx hb dX4_mays_2 (by decide) ?_
  refine lv_istore_n (lv' := [(3, .int 0), (2, .int 0), (0, .ref h0), (1, .int a1)]) hx hb dX4_mays_3 rfl hl (by decide) rfl (fun ls hl => ?_)
  have loop_B4 : ∀ (k9 : Nat) (j : Nat) (b2 : Int32) (H : Heap) (locs : List Loc) (ls : Array Slot), ns - j = k9 → (j ≤ ns) → (gMay b2 j) → Mw dC dI h0 R A V G H → va_S A s.heap H locs → lv_has ls 4 [(0, .ref h0), (1, .int a1), (2, .int b2), (3, .int (nI j))] → W p l e { frames := 0, cells := 0, slots := 0, locals := 0 } s m ([.ref h0, .int a1] : List Value).toArray below meth c H locs 0 0 (MQ below (Qg (B_q_X4_mays dC dI h0 R A V G ns a1) A) ([.ref h0, .int a1] : List Value).toArray s 0 0 A) (F0 m 4 ls []) := by
    intro k9
    induction k9 using Nat.strongRecOn with
    | ind k9 ih_B4 =>
      intro j b2 H locs ls hm_B4 hle_j hg hW hS hl
      have en_j : (nI j).toInt = ((j : Nat) : Int) := pz_ti (by omega)
      refine lv_iload_n hx hb dX4_mays_4 rfl (lv_at hl 3 rfl) ?_
      refine lv_aload_n hx hb dX4_mays_5 rfl (lv_at hl 0 rfl) ?_
      refine M_g2 S hK hW dX4_mays_6 (fun x_1 hx_1 => ?_)
      obtain rfl : x_1 = nI ns := hx_1.trans hV2
      refine lv_icmp_ge (tgt := 75) hx hb dX4_mays_9 (by decide) (fun c_2 => ?_) (fun c_2 => ?_)
      · skip
        have i_2 : (nI j).toInt ≥ (nI ns).toInt := by have h9 := pz_ge c_2; exact h9
        refine lv_iload_n hx hb dX4_mays_75 rfl (lv_at hl 2 rfl) ?_
        exact r_i (v := b2) hx hb hr hlocks hS dX4_mays_76 (⟨_, rfl, by rw [show ns = j by omega]; exact hg, hW⟩)
      · skip
        have i_2 : (nI j).toInt < (nI ns).toInt := by have h9 := pz_nge c_2; exact h9
        refine lv_iload_n hx hb dX4_mays_12 rfl (lv_at hl 1 rfl) ?_
        refine lv_iload_n hx hb dX4_mays_13 rfl (lv_at hl 3 rfl) ?_
        refine lv_ishr hx hb dX4_mays_14 ?_
        refine lv_iconst (v := 1) hx hb dX4_mays_15 (by decide) ?_
        refine lv_iand hx hb dX4_mays_16 ?_
        refine lv_if_ne (tgt := 69) hx hb dX4_mays_17 (by decide) (fun c_3 => ?_) (fun c_3 => ?_)
        · skip
          have i_3 : ¬ ((a1 >>> ((nI j) &&& 31)) &&& 1).toInt = 0 := by have h9 := pz_neq c_3; exact h9
          obtain ⟨y_4, ey_4⟩ : ∃ y : Int32, y = (nI j) + 1 := ⟨_, rfl⟩
          refine lv_iinc (v := y_4) (lv' := [(3, .int y_4), (0, .ref h0), (1, .int a1), (2, .int b2)]) hx hb dX4_mays_69 hl (k := 3) rfl (by rw [ey_4]; rfl) (by decide) rfl (fun ls hl => ?_)
          obtain rfl : y_4 = nI (j + 1) := ey_4.trans (nI_1 j)
          have en_5 : (nI (j + 1)).toInt = ((j + 1 : Nat) : Int) := pz_ti (by omega)
          refine lv_goto (tgt := 4) hx hb dX4_mays_72 (by decide) ?_
          exact ih_B4 _ (by omega) (j + 1) b2 _ _ ls rfl (by omega) (gMay_up hg) hW hS (lv_sub hl [1, 2, 3, 0] rfl)
        · skip
          have i_3 : ((a1 >>> ((nI j) &&& 31)) &&& 1).toInt = 0 := by have h9 := pz_eq c_3; exact h9
          refine lv_aload_n hx hb dX4_mays_20 rfl (lv_at hl 0 rfl) ?_
          refine M_g18 S hK hW dX4_mays_21 ?_
          refine lv_iload_n hx hb dX4_mays_24 rfl (lv_at hl 3 rfl) ?_
          refine mw_ld S hK hW 18 rfl rfl (pz_vi (n := mN 18) (by rw [show mN 18 = 8 from rfl]; omega) (by decide)) dX4_mays_25 (fun x_6 hx_6 => ?_)
          refine lv_aload_n hx hb dX4_mays_26 rfl (lv_at hl 0 rfl) ?_
          refine M_g13 S hK hW dX4_mays_27 ?_
          refine lv_iload_n hx hb dX4_mays_30 rfl (lv_at hl 3 rfl) ?_
          refine mw_ld S hK hW 13 rfl rfl (pz_vi (n := mN 13) (by rw [show mN 13 = 8 from rfl]; omega) (by decide)) dX4_mays_31 (fun x_7 hx_7 => ?_)
          refine lv_icmp_ge (tgt := 69) hx hb dX4_mays_32 (by decide) (fun c_8 => ?_) (fun c_8 => ?_)
          · skip
            have i_8 : x_6.toInt ≥ x_7.toInt := by have h9 := pz_ge c_8; exact h9
            obtain ⟨y_9, ey_9⟩ : ∃ y : Int32, y = (nI j) + 1 := ⟨_, rfl⟩
            refine lv_iinc (v := y_9) (lv' := [(3, .int y_9), (0, .ref h0), (1, .int a1), (2, .int b2)]) hx hb dX4_mays_69 hl (k := 3) rfl (by rw [ey_9]; rfl) (by decide) rfl (fun ls hl => ?_)
            obtain rfl : y_9 = nI (j + 1) := ey_9.trans (nI_1 j)
            have en_10 : (nI (j + 1)).toInt = ((j + 1 : Nat) : Int) := pz_ti (by omega)
            refine lv_goto (tgt := 4) hx hb dX4_mays_72 (by decide) ?_
            exact ih_B4 _ (by omega) (j + 1) b2 _ _ ls rfl (by omega) (gMay_up hg) hW hS (lv_sub hl [1, 2, 3, 0] rfl)
          · skip
            have i_8 : x_6.toInt < x_7.toInt := by have h9 := pz_nge c_8; exact h9
            refine lv_aload_n hx hb dX4_mays_35 rfl (lv_at hl 0 rfl) ?_
            refine M_g17 S hK hW dX4_mays_36 ?_
            refine lv_iload_n hx hb dX4_mays_39 rfl (lv_at hl 3 rfl) ?_
            refine mw_ld S hK hW 17 rfl rfl (pz_vi (n := mN 17) (by rw [show mN 17 = 8 from rfl]; omega) (by decide)) dX4_mays_40 (fun x_11 hx_11 => ?_)
            replace hx_11 : x_11 = G 17 j := (hx_11 rfl).trans (congrArg _ (pz_cl (by omega)))
            refine lv_if_eq (tgt := 63) hx hb dX4_mays_41 (by decide) (fun c_12 => ?_) (fun c_12 => ?_)
            · skip
              have i_12 : x_11.toInt = 0 := by have h9 := pz_eq c_12; exact h9
              refine lv_iload_n hx hb dX4_mays_63 rfl (lv_at hl 2 rfl) ?_
              refine lv_iconst (v := 1) hx hb dX4_mays_64 (by decide) ?_
              refine lv_iload_n hx hb dX4_mays_65 rfl (lv_at hl 3 rfl) ?_
              refine lv_ishl hx hb dX4_mays_66 ?_
              refine lv_ior hx hb dX4_mays_67 ?_
              refine lv_istore_n (lv' := [(2, .int (b2 ||| (1 <<< ((nI j) &&& 31)))), (0, .ref h0), (1, .int a1), (3, .int (nI j))]) hx hb dX4_mays_68 rfl hl (by decide) rfl (fun ls hl => ?_)
              obtain ⟨y_13, ey_13⟩ : ∃ y : Int32, y = (nI j) + 1 := ⟨_, rfl⟩
              refine lv_iinc (v := y_13) (lv' := [(3, .int y_13), (2, .int (b2 ||| (1 <<< ((nI j) &&& 31)))), (0, .ref h0), (1, .int a1)]) hx hb dX4_mays_69 hl (k := 3) rfl (by rw [ey_13]; rfl) (by decide) rfl (fun ls hl => ?_)
              obtain rfl : y_13 = nI (j + 1) := ey_13.trans (nI_1 j)
              have en_14 : (nI (j + 1)).toInt = ((j + 1 : Nat) : Int) := pz_ti (by omega)
              refine lv_goto (tgt := 4) hx hb dX4_mays_72 (by decide) ?_
              exact ih_B4 _ (by omega) (j + 1) (b2 ||| (1 <<< ((nI j) &&& 31))) _ _ ls rfl (by omega) (gMay_or (by omega)) hW hS (lv_sub hl [2, 3, 1, 0] rfl)
            · skip
              have i_12 : ¬ x_11.toInt = 0 := by have h9 := pz_neq c_12; exact h9
              refine lv_aload_n hx hb dX4_mays_44 rfl (lv_at hl 0 rfl) ?_
              refine M_g17 S hK hW dX4_mays_45 ?_
              refine lv_iload_n hx hb dX4_mays_48 rfl (lv_at hl 3 rfl) ?_
              refine mw_ld S hK hW 17 rfl rfl (pz_vi (n := mN 17) (by rw [show mN 17 = 8 from rfl]; omega) (by decide)) dX4_mays_49 (fun x_15 hx_15 => ?_)
              replace hx_15 : x_15 = G 17 j := (hx_15 rfl).trans (congrArg _ (pz_cl (by omega)))
              refine lv_iconst (v := 2) hx hb dX4_mays_50 (by decide) ?_
              refine lv_icmp_ne (tgt := 69) hx hb dX4_mays_51 (by decide) (fun c_16 => ?_) (fun c_16 => ?_)
              · skip
                have i_16 : ¬ x_15.toInt = 2 := by have h9 := pz_neq c_16; exact h9
                obtain ⟨y_17, ey_17⟩ : ∃ y : Int32, y = (nI j) + 1 := ⟨_, rfl⟩
                refine lv_iinc (v := y_17) (lv' := [(3, .int y_17), (0, .ref h0), (1, .int a1), (2, .int b2)]) hx hb dX4_mays_69 hl (k := 3) rfl (by rw [ey_17]; rfl) (by decide) rfl (fun ls hl => ?_)
                obtain rfl : y_17 = nI (j + 1) := ey_17.trans (nI_1 j)
                have en_18 : (nI (j + 1)).toInt = ((j + 1 : Nat) : Int) := pz_ti (by omega)
                refine lv_goto (tgt := 4) hx hb dX4_mays_72 (by decide) ?_
                exact ih_B4 _ (by omega) (j + 1) b2 _ _ ls rfl (by omega) (gMay_up hg) hW hS (lv_sub hl [1, 2, 3, 0] rfl)
              · skip
                have i_16 : x_15.toInt = 2 := by have h9 := pz_eq c_16; exact h9
                refine lv_aload_n hx hb dX4_mays_54 rfl (lv_at hl 0 rfl) ?_
                refine M_g18 S hK hW dX4_mays_55 ?_
                refine lv_iload_n hx hb dX4_mays_58 rfl (lv_at hl 3 rfl) ?_
                refine mw_ld S hK hW 18 rfl rfl (pz_vi (n := mN 18) (by rw [show mN 18 = 8 from rfl]; omega) (by decide)) dX4_mays_59 (fun x_19 hx_19 => ?_)
                refine lv_if_ne (tgt := 69) hx hb dX4_mays_60 (by decide) (fun c_20 => ?_) (fun c_20 => ?_)
                · skip
                  have i_20 : ¬ x_19.toInt = 0 := by have h9 := pz_neq c_20; exact h9
                  obtain ⟨y_21, ey_21⟩ : ∃ y : Int32, y = (nI j) + 1 := ⟨_, rfl⟩
                  refine lv_iinc (v := y_21) (lv' := [(3, .int y_21), (0, .ref h0), (1, .int a1), (2, .int b2)]) hx hb dX4_mays_69 hl (k := 3) rfl (by rw [ey_21]; rfl) (by decide) rfl (fun ls hl => ?_)
                  obtain rfl : y_21 = nI (j + 1) := ey_21.trans (nI_1 j)
                  have en_22 : (nI (j + 1)).toInt = ((j + 1 : Nat) : Int) := pz_ti (by omega)
                  refine lv_goto (tgt := 4) hx hb dX4_mays_72 (by decide) ?_
                  exact ih_B4 _ (by omega) (j + 1) b2 _ _ ls rfl (by omega) (gMay_up hg) hW hS (lv_sub hl [1, 2, 3, 0] rfl)
                · skip
                  have i_20 : x_19.toInt = 0 := by have h9 := pz_eq c_20; exact h9
                  refine lv_iload_n hx hb dX4_mays_63 rfl (lv_at hl 2 rfl) ?_
                  refine lv_iconst (v := 1) hx hb dX4_mays_64 (by decide) ?_
                  refine lv_iload_n hx hb dX4_mays_65 rfl (lv_at hl 3 rfl) ?_
                  refine lv_ishl hx hb dX4_mays_66 ?_
                  refine lv_ior hx hb dX4_mays_67 ?_
                  refine lv_istore_n (lv' := [(2, .int (b2 ||| (1 <<< ((nI j) &&& 31)))), (0, .ref h0), (1, .int a1), (3, .int (nI j))]) hx hb dX4_mays_68 rfl hl (by decide) rfl (fun ls hl => ?_)
                  obtain ⟨y_23, ey_23⟩ : ∃ y : Int32, y = (nI j) + 1 := ⟨_, rfl⟩
                  refine lv_iinc (v := y_23) (lv' := [(3, .int y_23), (2, .int (b2 ||| (1 <<< ((nI j) &&& 31)))), (0, .ref h0), (1, .int a1)]) hx hb dX4_mays_69 hl (k := 3) rfl (by rw [ey_23]; rfl) (by decide) rfl (fun ls hl => ?_)
                  obtain rfl : y_23 = nI (j + 1) := ey_23.trans (nI_1 j)
                  have en_24 : (nI (j + 1)).toInt = ((j + 1 : Nat) : Int) := pz_ti (by omega)
                  refine lv_goto (tgt := 4) hx hb dX4_mays_72 (by decide) ?_
                  exact ih_B4 _ (by omega) (j + 1) (b2 ||| (1 <<< ((nI j) &&& 31))) _ _ ls rfl (by omega) (gMay_or (by omega)) hW hS (lv_sub hl [2, 3, 1, 0] rfl)
  exact loop_B4 _ 0 0 _ _ ls rfl (by omega) (gMay_0 0) hW hS (lv_sub hl [2, 3, 1, 0] rfl)

abbrev B_q_X4_fewest (dC : Nat → ClassId) (dI : Nat → Nat → Nat) (h0 : Nat) (R : Nat → Nat) (A : Nat → Prop) (V : Nat → Int32) (G : Nat → Nat → Int32) (ns : Nat) (a1 : Int32) : Option Value → Heap → Prop := fun v H => ∃ (r : Int32) (q : Nat), v = some (.int r) ∧ (q < ns ∧ r = nI q) ∧ Mw dC dI h0 R A V G H
set_option maxHeartbeats 8000000 in
set_option maxRecDepth 20000 in
theorem q_X4_fewest (l : Launch) (dC : Nat → ClassId) (dI : Nat → Nat → Nat) (h0 : Nat) (R : Nat → Nat) (A : Nat → Prop) (V : Nat → Int32) (G : Nat → Nat → Int32) (ns : Nat) (a1 : Int32) (hV2 : V 2 = nI ns) (hns : ns ≤ 8) (hbit : ∃ s, s < ns ∧ gBit a1 s) : Met l yX4_fewest (cws yX4_fewest cX4_fewest 4 (some .int)) { frames := 0, cells := 0, slots := 0, locals := 0 } (va_Pc [.ref h0, .int a1] (fun U => Kt dC dI U ∧ Mw dC dI h0 R A V G U.heap)) (Qg (B_q_X4_fewest dC dI h0 R A V G ns a1) A) 0 0 A := by
  refine m_start (KK := Kt dC dI) (Pw := Mw dC dI h0 R A V G) (by decide) (Nat.le_of_ble_eq_true rfl) ?_
  intro p e s m below meth c ls S hr hlocks hin hK hW hS hl
  obtain ⟨hx, hb, hml, hown, hts⟩ := id S
  have hl : lv_has ls 4 [(0, .ref h0), (1, .int a1)] := hl
  have en_s : (nI ns).toInt = ((ns : Nat) : Int) := pz_ti (by omega)
  refine lv_iconst (v := (-1)) hx hb dX4_fewest_0 (by decide) ?_
  refine lv_istore_n (lv' := [(2, .int (-1)), (0, .ref h0), (1, .int a1)]) hx hb dX4_fewest_1 rfl hl (by decide) rfl (fun ls hl => ?_)
  refine lv_iconst (v := 0) hx hb dX4_fewest_2 (by decide) ?_
  refine lv_istore_n (lv' := [(3, .int 0), (2, .int (-1)), (0, .ref h0), (1, .int a1)]) hx hb dX4_fewest_3 rfl hl (by decide) rfl (fun ls hl => ?_)
  have loop_B4 : ∀ (k9 : Nat) (j : Nat) (b2 : Int32) (H : Heap) (locs : List Loc) (ls : Array Slot), ns - j = k9 → (j ≤ ns) → (((b2 = -1 ∧ ∀ s, s < j → ¬ gBit a1 s) ∨ ∃ q, q < ns ∧ b2 = nI q)) → Mw dC dI h0 R A V G H → va_S A s.heap H locs → lv_has ls 4 [(0, .ref h0), (1, .int a1), (2, .int b2), (3, .int (nI j))] → W p l e { frames := 0, cells := 0, slots := 0, locals := 0 } s m ([.ref h0, .int a1] : List Value).toArray below meth c H locs 0 0 (MQ below (Qg (B_q_X4_fewest dC dI h0 R A V G ns a1) A) ([.ref h0, .int a1] : List Value).toArray s 0 0 A) (F0 m 4 ls []) := by
    intro k9
    induction k9 using Nat.strongRecOn with
    | ind k9 ih_B4 =>
      intro j b2 H locs ls hm_B4 hle_j hf hW hS hl
      have en_j : (nI j).toInt = ((j : Nat) : Int) := pz_ti (by omega)
      rcases hf with ⟨rfl, hnb⟩ | ⟨q, hq, rfl⟩
      · skip
        refine lv_iload_n hx hb dX4_fewest_4 rfl (lv_at hl 3 rfl) ?_
        refine lv_aload_n hx hb dX4_fewest_5 rfl (lv_at hl 0 rfl) ?_
        refine M_g2 S hK hW dX4_fewest_6 (fun x_1 hx_1 => ?_)
        obtain rfl : x_1 = nI ns := hx_1.trans hV2
        refine lv_icmp_ge (tgt := 62) hx hb dX4_fewest_9 (by decide) (fun c_2 => ?_) (fun c_2 => ?_)
        · skip
          have i_2 : (nI j).toInt ≥ (nI ns).toInt := by have h9 := pz_ge c_2; exact h9
          refine lv_iload_n hx hb dX4_fewest_62 rfl (lv_at hl 2 rfl) ?_
          exact r_i (v := (-1)) hx hb hr hlocks hS dX4_fewest_63 ((by obtain ⟨s9, h1, h2⟩ := hbit; exact absurd h2 (hnb s9 (by omega))))
        · skip
          have i_2 : (nI j).toInt < (nI ns).toInt := by have h9 := pz_nge c_2; exact h9
          refine lv_iload_n hx hb dX4_fewest_12 rfl (lv_at hl 1 rfl) ?_
          refine lv_iload_n hx hb dX4_fewest_13 rfl (lv_at hl 3 rfl) ?_
          refine lv_ishr hx hb dX4_fewest_14 ?_
          refine lv_iconst (v := 1) hx hb dX4_fewest_15 (by decide) ?_
          refine lv_iand hx hb dX4_fewest_16 ?_
          refine lv_iconst (v := 1) hx hb dX4_fewest_17 (by decide) ?_
          refine lv_icmp_ne (tgt := 56) hx hb dX4_fewest_18 (by decide) (fun c_3 => ?_) (fun c_3 => ?_)
          · skip
            have i_3 : ¬ ((a1 >>> ((nI j) &&& 31)) &&& 1).toInt = 1 := by have h9 := pz_neq c_3; exact h9
            obtain ⟨y_4, ey_4⟩ : ∃ y : Int32, y = (nI j) + 1 := ⟨_, rfl⟩
            refine lv_iinc (v := y_4) (lv' := [(3, .int y_4), (0, .ref h0), (1, .int a1), (2, .int (-1))]) hx hb dX4_fewest_56 hl (k := 3) rfl (by rw [ey_4]; rfl) (by decide) rfl (fun ls hl => ?_)
            obtain rfl : y_4 = nI (j + 1) := ey_4.trans (nI_1 j)
            have en_5 : (nI (j + 1)).toInt = ((j + 1 : Nat) : Int) := pz_ti (by omega)
            refine lv_goto (tgt := 4) hx hb dX4_fewest_59 (by decide) ?_
            exact ih_B4 _ (by omega) (j + 1) (-1) _ _ ls rfl (by omega) (gF_skip hnb (fun h9 => c_3 h9)) hW hS (lv_sub hl [1, 2, 3, 0] rfl)
          · skip
            have i_3 : ((a1 >>> ((nI j) &&& 31)) &&& 1).toInt = 1 := by have h9 := pz_eq c_3; exact h9
            refine lv_iload_n hx hb dX4_fewest_21 rfl (lv_at hl 2 rfl) ?_
            refine lv_if_lt (tgt := 54) hx hb dX4_fewest_22 (by decide) (fun c_6 => ?_) (fun c_6 => absurd (by decide) c_6)
            refine lv_iload_n hx hb dX4_fewest_54 rfl (lv_at hl 3 rfl) ?_
            refine lv_istore_n (lv' := [(2, .int (nI j)), (0, .ref h0), (1, .int a1), (3, .int (nI j))]) hx hb dX4_fewest_55 rfl hl (by decide) rfl (fun ls hl => ?_)
            obtain ⟨y_7, ey_7⟩ : ∃ y : Int32, y = (nI j) + 1 := ⟨_, rfl⟩
            refine lv_iinc (v := y_7) (lv' := [(3, .int y_7), (2, .int (nI j)), (0, .ref h0), (1, .int a1)]) hx hb dX4_fewest_56 hl (k := 3) rfl (by rw [ey_7]; rfl) (by decide) rfl (fun ls hl => ?_)
            obtain rfl : y_7 = nI (j + 1) := ey_7.trans (nI_1 j)
            have en_8 : (nI (j + 1)).toInt = ((j + 1 : Nat) : Int) := pz_ti (by omega)
            refine lv_goto (tgt := 4) hx hb dX4_fewest_59 (by decide) ?_
            exact ih_B4 _ (by omega) (j + 1) (nI j) _ _ ls rfl (by omega) (Or.inr ⟨_, by omega, rfl⟩) hW hS (lv_sub hl [2, 3, 1, 0] rfl)
      · skip
        have en_q : (nI q).toInt = ((q : Nat) : Int) := pz_ti (by omega)
        refine lv_iload_n hx hb dX4_fewest_4 rfl (lv_at hl 3 rfl) ?_
        refine lv_aload_n hx hb dX4_fewest_5 rfl (lv_at hl 0 rfl) ?_
        refine M_g2 S hK hW dX4_fewest_6 (fun x_9 hx_9 => ?_)
        obtain rfl : x_9 = nI ns := hx_9.trans hV2
        refine lv_icmp_ge (tgt := 62) hx hb dX4_fewest_9 (by decide) (fun c_10 => ?_) (fun c_10 => ?_)
        · skip
          have i_10 : (nI j).toInt ≥ (nI ns).toInt := by have h9 := pz_ge c_10; exact h9
          refine lv_iload_n hx hb dX4_fewest_62 rfl (lv_at hl 2 rfl) ?_
          exact r_i (v := (nI q)) hx hb hr hlocks hS dX4_fewest_63 (⟨_, _, rfl, ⟨by omega, rfl⟩, hW⟩)
        · skip
          have i_10 : (nI j).toInt < (nI ns).toInt := by have h9 := pz_nge c_10; exact h9
          refine lv_iload_n hx hb dX4_fewest_12 rfl (lv_at hl 1 rfl) ?_
          refine lv_iload_n hx hb dX4_fewest_13 rfl (lv_at hl 3 rfl) ?_
          refine lv_ishr hx hb dX4_fewest_14 ?_
          refine lv_iconst (v := 1) hx hb dX4_fewest_15 (by decide) ?_
          refine lv_iand hx hb dX4_fewest_16 ?_
          refine lv_iconst (v := 1) hx hb dX4_fewest_17 (by decide) ?_
          refine lv_icmp_ne (tgt := 56) hx hb dX4_fewest_18 (by decide) (fun c_11 => ?_) (fun c_11 => ?_)
          · skip
            have i_11 : ¬ ((a1 >>> ((nI j) &&& 31)) &&& 1).toInt = 1 := by have h9 := pz_neq c_11; exact h9
            obtain ⟨y_12, ey_12⟩ : ∃ y : Int32, y = (nI j) + 1 := ⟨_, rfl⟩
            refine lv_iinc (v := y_12) (lv' := [(3, .int y_12), (0, .ref h0), (1, .int a1), (2, .int (nI q))]) hx hb dX4_fewest_56 hl (k := 3) rfl (by rw [ey_12]; rfl) (by decide) rfl (fun ls hl => ?_)
            obtain rfl : y_12 = nI (j + 1) := ey_12.trans (nI_1 j)
            have en_13 : (nI (j + 1)).toInt = ((j + 1 : Nat) : Int) := pz_ti (by omega)
            refine lv_goto (tgt := 4) hx hb dX4_fewest_59 (by decide) ?_
            exact ih_B4 _ (by omega) (j + 1) (nI q) _ _ ls rfl (by omega) (Or.inr ⟨_, by omega, rfl⟩) hW hS (lv_sub hl [1, 2, 3, 0] rfl)
          · skip
            have i_11 : ((a1 >>> ((nI j) &&& 31)) &&& 1).toInt = 1 := by have h9 := pz_eq c_11; exact h9
            refine lv_iload_n hx hb dX4_fewest_21 rfl (lv_at hl 2 rfl) ?_
            refine lv_if_lt (tgt := 54) hx hb dX4_fewest_22 (by decide) (fun c_14 => ?_) (fun c_14 => ?_)
            · skip
              have i_14 : (nI q).toInt < 0 := by have h9 := pz_lt c_14; exact h9
              refine lv_iload_n hx hb dX4_fewest_54 rfl (lv_at hl 3 rfl) ?_
              refine lv_istore_n (lv' := [(2, .int (nI j)), (0, .ref h0), (1, .int a1), (3, .int (nI j))]) hx hb dX4_fewest_55 rfl hl (by decide) rfl (fun ls hl => ?_)
              obtain ⟨y_15, ey_15⟩ : ∃ y : Int32, y = (nI j) + 1 := ⟨_, rfl⟩
              refine lv_iinc (v := y_15) (lv' := [(3, .int y_15), (2, .int (nI j)), (0, .ref h0), (1, .int a1)]) hx hb dX4_fewest_56 hl (k := 3) rfl (by rw [ey_15]; rfl) (by decide) rfl (fun ls hl => ?_)
              obtain rfl : y_15 = nI (j + 1) := ey_15.trans (nI_1 j)
              have en_16 : (nI (j + 1)).toInt = ((j + 1 : Nat) : Int) := pz_ti (by omega)
              refine lv_goto (tgt := 4) hx hb dX4_fewest_59 (by decide) ?_
              exact ih_B4 _ (by omega) (j + 1) (nI j) _ _ ls rfl (by omega) (Or.inr ⟨_, by omega, rfl⟩) hW hS (lv_sub hl [2, 3, 1, 0] rfl)
            · skip
              have i_14 : (nI q).toInt ≥ 0 := by have h9 := pz_nlt c_14; exact h9
              refine lv_aload_n hx hb dX4_fewest_25 rfl (lv_at hl 0 rfl) ?_
              refine M_g18 S hK hW dX4_fewest_26 ?_
              refine lv_iload_n hx hb dX4_fewest_29 rfl (lv_at hl 3 rfl) ?_
              refine mw_ld S hK hW 18 rfl rfl (pz_vi (n := mN 18) (by rw [show mN 18 = 8 from rfl]; omega) (by decide)) dX4_fewest_30 (fun x_17 hx_17 => ?_)
              refine lv_aload_n hx hb dX4_fewest_31 rfl (lv_at hl 0 rfl) ?_
              refine M_g11 S hK hW dX4_fewest_32 ?_
              refine lv_iload_n hx hb dX4_fewest_35 rfl (lv_at hl 2 rfl) ?_
              refine mw_ld S hK hW 11 rfl rfl (pz_vi (n := mN 11) (by rw [show mN 11 = 8 from rfl]; omega) (by decide)) dX4_fewest_36 (fun x_18 hx_18 => ?_)
              refine lv_imul hx hb dX4_fewest_37 ?_
              refine lv_topi (fun x_19 _ => ?_)
              refine lv_aload_n hx hb dX4_fewest_38 rfl (lv_at hl 0 rfl) ?_
              refine M_g18 S hK hW dX4_fewest_39 ?_
              refine lv_iload_n hx hb dX4_fewest_42 rfl (lv_at hl 2 rfl) ?_
              refine mw_ld S hK hW 18 rfl rfl (pz_vi (n := mN 18) (by rw [show mN 18 = 8 from rfl]; omega) (by decide)) dX4_fewest_43 (fun x_20 hx_20 => ?_)
              refine lv_aload_n hx hb dX4_fewest_44 rfl (lv_at hl 0 rfl) ?_
              refine M_g11 S hK hW dX4_fewest_45 ?_
              refine lv_iload_n hx hb dX4_fewest_48 rfl (lv_at hl 3 rfl) ?_
              refine mw_ld S hK hW 11 rfl rfl (pz_vi (n := mN 11) (by rw [show mN 11 = 8 from rfl]; omega) (by decide)) dX4_fewest_49 (fun x_21 hx_21 => ?_)
              refine lv_imul hx hb dX4_fewest_50 ?_
              refine lv_topi (fun x_22 _ => ?_)
              refine lv_icmp_ge (tgt := 56) hx hb dX4_fewest_51 (by decide) (fun c_23 => ?_) (fun c_23 => ?_)
              · skip
                have i_23 : x_19.toInt ≥ x_22.toInt := by have h9 := pz_ge c_23; exact h9
                obtain ⟨y_24, ey_24⟩ : ∃ y : Int32, y = (nI j) + 1 := ⟨_, rfl⟩
                refine lv_iinc (v := y_24) (lv' := [(3, .int y_24), (0, .ref h0), (1, .int a1), (2, .int (nI q))]) hx hb dX4_fewest_56 hl (k := 3) rfl (by rw [ey_24]; rfl) (by decide) rfl (fun ls hl => ?_)
                obtain rfl : y_24 = nI (j + 1) := ey_24.trans (nI_1 j)
                have en_25 : (nI (j + 1)).toInt = ((j + 1 : Nat) : Int) := pz_ti (by omega)
                refine lv_goto (tgt := 4) hx hb dX4_fewest_59 (by decide) ?_
                exact ih_B4 _ (by omega) (j + 1) (nI q) _ _ ls rfl (by omega) (Or.inr ⟨_, by omega, rfl⟩) hW hS (lv_sub hl [1, 2, 3, 0] rfl)
              · skip
                have i_23 : x_19.toInt < x_22.toInt := by have h9 := pz_nge c_23; exact h9
                refine lv_iload_n hx hb dX4_fewest_54 rfl (lv_at hl 3 rfl) ?_
                refine lv_istore_n (lv' := [(2, .int (nI j)), (0, .ref h0), (1, .int a1), (3, .int (nI j))]) hx hb dX4_fewest_55 rfl hl (by decide) rfl (fun ls hl => ?_)
                obtain ⟨y_26, ey_26⟩ : ∃ y : Int32, y = (nI j) + 1 := ⟨_, rfl⟩
                refine lv_iinc (v := y_26) (lv' := [(3, .int y_26), (2, .int (nI j)), (0, .ref h0), (1, .int a1)]) hx hb dX4_fewest_56 hl (k := 3) rfl (by rw [ey_26]; rfl) (by decide) rfl (fun ls hl => ?_)
                obtain rfl : y_26 = nI (j + 1) := ey_26.trans (nI_1 j)
                have en_27 : (nI (j + 1)).toInt = ((j + 1 : Nat) : Int) := pz_ti (by omega)
                refine lv_goto (tgt := 4) hx hb dX4_fewest_59 (by decide) ?_
                exact ih_B4 _ (by omega) (j + 1) (nI j) _ _ ls rfl (by omega) (Or.inr ⟨_, by omega, rfl⟩) hW hS (lv_sub hl [2, 3, 1, 0] rfl)
  exact loop_B4 _ 0 (-1) _ _ ls rfl (by omega) (Or.inl ⟨rfl, fun s h => absurd h (Nat.not_lt_zero s)⟩) hW hS (lv_sub hl [2, 3, 1, 0] rfl)

abbrev B_q_X4_onRing (dC : Nat → ClassId) (dI : Nat → Nat → Nat) (h0 : Nat) (R : Nat → Nat) (A : Nat → Prop) (V : Nat → Int32) (G : Nat → Nat → Int32) (ns : Nat) (a1 : Int32) (a2 : Int32) : Option Value → Heap → Prop := fun v H => ∃ (r : Int32) (q : Nat), v = some (.int r) ∧ (q < ns ∧ r = nI q) ∧ Mw dC dI h0 R A V G H
set_option maxHeartbeats 8000000 in
set_option maxRecDepth 20000 in
theorem q_X4_onRing (l : Launch) (dC : Nat → ClassId) (dI : Nat → Nat → Nat) (h0 : Nat) (R : Nat → Nat) (A : Nat → Prop) (V : Nat → Int32) (G : Nat → Nat → Int32) (ns : Nat) (a1 : Int32) (a2 : Int32) (hV2 : V 2 = nI ns) (hns : ns ≤ 8) (hbit : ∃ s, s < ns ∧ gBit a1 s) : Met l yX4_onRing (cws yX4_onRing cX4_onRing 8 (some .int)) { frames := 1, cells := 0, slots := 0, locals := 21 } (va_Pc [.ref h0, .int a1, .int a2] (fun U => Kt dC dI U ∧ Mw dC dI h0 R A V G U.heap)) (Qg (B_q_X4_onRing dC dI h0 R A V G ns a1 a2) A) 0 0 A := by
  refine m_start (KK := Kt dC dI) (Pw := Mw dC dI h0 R A V G) (by decide) (Nat.le_of_ble_eq_true rfl) ?_
  intro p e s m below meth c ls S hr hlocks hin hK hW hS hl
  obtain ⟨hx, hb, hml, hown, hts⟩ := id S
  have hl : lv_has ls 8 [(0, .ref h0), (1, .int a1), (2, .int a2)] := hl
  have en_s : (nI ns).toInt = ((ns : Nat) : Int) := pz_ti (by omega)
  refine lv_iconst (v := (-1)) hx hb dX4_onRing_0 (by decide) ?_
  refine lv_istore_n (lv' := [(3, .int (-1)), (0, .ref h0), (1, .int a1), (2, .int a2)]) hx hb dX4_onRing_1 rfl hl (by decide) rfl (fun ls hl => ?_)
  refine lv_ldc hx hb hown (hts _ iw_829) dX4_onRing_2 ?_
  refine lv_istore (lv' := [(4, .int 65536), (3, .int (-1)), (0, .ref h0), (1, .int a1), (2, .int a2)]) hx hb dX4_onRing_4 hl (by decide) rfl (fun ls hl => ?_)
  refine lv_iconst (v := 0) hx hb dX4_onRing_6 (by decide) ?_
  refine lv_istore (lv' := [(5, .int 0), (4, .int 65536), (3, .int (-1)), (0, .ref h0), (1, .int a1), (2, .int a2)]) hx hb dX4_onRing_7 hl (by decide) rfl (fun ls hl => ?_)
  have loop_B9 : ∀ (k9 : Nat) (j : Nat) (b3 : Int32) (l4 : Int32) (H : Heap) (locs : List Loc) (ls : Array Slot), ns - j = k9 → (j ≤ ns) → ((b3 = -1 ∧ l4 = 65536 ∧ ∀ s, s < j → ¬ gBit a1 s) ∨ ∃ q, q < ns ∧ b3 = nI q) → Mw dC dI h0 R A V G H → va_S A s.heap H locs → lv_has ls 8 [(0, .ref h0), (1, .int a1), (2, .int a2), (3, .int b3), (4, .int l4), (5, .int (nI j))] → W p l e { frames := 1, cells := 0, slots := 0, locals := 21 } s m ([.ref h0, .int a1, .int a2] : List Value).toArray below meth c H locs 0 0 (MQ below (Qg (B_q_X4_onRing dC dI h0 R A V G ns a1 a2) A) ([.ref h0, .int a1, .int a2] : List Value).toArray s 0 0 A) (F0 m 9 ls []) := by
    intro k9
    induction k9 using Nat.strongRecOn with
    | ind k9 ih_B9 =>
      intro j b3 l4 H locs ls hm_B9 hle_j hf hW hS hl
      have en_j : (nI j).toInt = ((j : Nat) : Int) := pz_ti (by omega)
      refine lv_iload hx hb dX4_onRing_9 (lv_at hl 5 rfl) ?_
      refine lv_aload_n hx hb dX4_onRing_11 rfl (lv_at hl 0 rfl) ?_
      refine M_g2 S hK hW dX4_onRing_12 (fun x_1 hx_1 => ?_)
      obtain rfl : x_1 = nI ns := hx_1.trans hV2
      refine lv_icmp_ge (tgt := 83) hx hb dX4_onRing_15 (by decide) (fun c_2 => ?_) (fun c_2 => ?_)
      · skip
        have i_2 : (nI j).toInt ≥ (nI ns).toInt := by have h9 := pz_ge c_2; exact h9
        refine lv_iload_n hx hb dX4_onRing_83 rfl (lv_at hl 3 rfl) ?_
        exact r_i (v := b3) hx hb hr hlocks hS dX4_onRing_84 ((hf.elim (fun ⟨h1, h2, h3⟩ => (by obtain ⟨s9, h8, h9⟩ := hbit; exact absurd h9 (h3 s9 (by omega)))) (fun ⟨q, hq, e9⟩ => ⟨_, q, rfl, ⟨hq, e9⟩, hW⟩)))
      · skip
        have i_2 : (nI j).toInt < (nI ns).toInt := by have h9 := pz_nge c_2; exact h9
        refine lv_iconst (v := 0) hx hb dX4_onRing_18 (by decide) ?_
        refine lv_istore (lv' := [(6, .int 0), (0, .ref h0), (1, .int a1), (2, .int a2), (3, .int b3), (4, .int l4), (5, .int (nI j))]) hx hb dX4_onRing_19 hl (by decide) rfl (fun ls hl => ?_)
        have loop_B21 : ∀ (k9 : Nat) (i : Nat) (c3 : Int32) (d4 : Int32) (H : Heap) (locs : List Loc) (ls : Array Slot), 4 - i = k9 → (i ≤ 4) → ((c3 = -1 ∧ d4 = 65536 ∧ (∀ s, s < j → ¬ gBit a1 s) ∧ (i = 0 ∨ ¬ gBit a1 j)) ∨ ∃ q, q < ns ∧ c3 = nI q) → Mw dC dI h0 R A V G H → va_S A s.heap H locs → lv_has ls 8 [(0, .ref h0), (1, .int a1), (2, .int a2), (3, .int c3), (4, .int d4), (5, .int (nI j)), (6, .int (nI i))] → W p l e { frames := 1, cells := 0, slots := 0, locals := 21 } s m ([.ref h0, .int a1, .int a2] : List Value).toArray below meth c H locs 0 0 (MQ below (Qg (B_q_X4_onRing dC dI h0 R A V G ns a1 a2) A) ([.ref h0, .int a1, .int a2] : List Value).toArray s 0 0 A) (F0 m 21 ls []) := by
          intro k9
          induction k9 using Nat.strongRecOn with
          | ind k9 ih_B21 =>
            intro i c3 d4 H locs ls hm_B21 hle_i hf2 hW hS hl
            have en_i : (nI i).toInt = ((i : Nat) : Int) := pz_ti (by omega)
            refine lv_iload hx hb dX4_onRing_21 (lv_at hl 6 rfl) ?_
            refine lv_iconst (v := 4) hx hb dX4_onRing_23 (by decide) ?_
            refine lv_icmp_ge (tgt := 77) hx hb dX4_onRing_24 (by decide) (fun c_3 => ?_) (fun c_3 => ?_)
            · skip
              have i_3 : (nI i).toInt ≥ 4 := by have h9 := pz_ge c_3; exact h9
              obtain ⟨y_4, ey_4⟩ : ∃ y : Int32, y = (nI j) + 1 := ⟨_, rfl⟩
              refine lv_iinc (v := y_4) (lv' := [(5, .int y_4), (0, .ref h0), (1, .int a1), (2, .int a2), (3, .int c3), (4, .int d4), (6, .int (nI i))]) hx hb dX4_onRing_77 hl (k := 5) rfl (by rw [ey_4]; rfl) (by decide) rfl (fun ls hl => ?_)
              obtain rfl : y_4 = nI (j + 1) := ey_4.trans (nI_1 j)
              have en_5 : (nI (j + 1)).toInt = ((j + 1 : Nat) : Int) := pz_ti (by omega)
              refine lv_goto (tgt := 9) hx hb dX4_onRing_80 (by decide) ?_
              exact ih_B9 _ (by clear hf2 hf; omega) (j + 1) c3 d4 _ _ ls rfl (by omega) (hf2.elim (fun ⟨h1, h2, h3, h4⟩ => Or.inl ⟨h1, h2, fun s9 h9 => (Nat.lt_succ_iff_lt_or_eq.mp h9).elim (h3 s9) (fun e9 => by rw [e9]; exact (h4.resolve_left (by omega)))⟩) Or.inr) hW hS (lv_sub hl [1, 2, 3, 4, 5, 0] rfl)
            · skip
              have i_3 : (nI i).toInt < 4 := by have h9 := pz_nge c_3; exact h9
              refine lv_iload_n hx hb dX4_onRing_27 rfl (lv_at hl 1 rfl) ?_
              refine lv_iload hx hb dX4_onRing_28 (lv_at hl 5 rfl) ?_
              refine lv_ishr hx hb dX4_onRing_30 ?_
              refine lv_iconst (v := 1) hx hb dX4_onRing_31 (by decide) ?_
              refine lv_iand hx hb dX4_onRing_32 ?_
              refine lv_iconst (v := 1) hx hb dX4_onRing_33 (by decide) ?_
              refine lv_icmp_ne (tgt := 77) hx hb dX4_onRing_34 (by decide) (fun c_6 => ?_) (fun c_6 => ?_)
              · skip
                have i_6 : ¬ ((a1 >>> ((nI j) &&& 31)) &&& 1).toInt = 1 := by have h9 := pz_neq c_6; exact h9
                obtain ⟨y_7, ey_7⟩ : ∃ y : Int32, y = (nI j) + 1 := ⟨_, rfl⟩
                refine lv_iinc (v := y_7) (lv' := [(5, .int y_7), (0, .ref h0), (1, .int a1), (2, .int a2), (3, .int c3), (4, .int d4), (6, .int (nI i))]) hx hb dX4_onRing_77 hl (k := 5) rfl (by rw [ey_7]; rfl) (by decide) rfl (fun ls hl => ?_)
                obtain rfl : y_7 = nI (j + 1) := ey_7.trans (nI_1 j)
                have en_8 : (nI (j + 1)).toInt = ((j + 1 : Nat) : Int) := pz_ti (by omega)
                refine lv_goto (tgt := 9) hx hb dX4_onRing_80 (by decide) ?_
                exact ih_B9 _ (by clear hf2 hf; omega) (j + 1) c3 d4 _ _ ls rfl (by omega) (hf2.elim (fun ⟨h1, h2, h3, h4⟩ => Or.inl ⟨h1, h2, fun s9 h9 => (Nat.lt_succ_iff_lt_or_eq.mp h9).elim (h3 s9) (fun e9 => by rw [e9]; exact (fun h9 => c_6 h9))⟩) Or.inr) hW hS (lv_sub hl [1, 2, 3, 4, 5, 0] rfl)
              · skip
                have i_6 : ((a1 >>> ((nI j) &&& 31)) &&& 1).toInt = 1 := by have h9 := pz_eq c_6; exact h9
                refine lv_iload hx hb dX4_onRing_37 (lv_at hl 5 rfl) ?_
                refine lv_iload hx hb dX4_onRing_39 (lv_at hl 6 rfl) ?_
                refine c_s (n := 2) (As := [.int (nI j), .int (nI i)]) (rest := []) S (q_X4_markOf l A (Mw dC dI h0 R A V G) (nI j) (nI i)) iw_856 iw_854 iw_855 iw_61 (by decide +kernel) rfl ⟨rfl, rfl, Nat.le_of_ble_eq_true rfl, Nat.le_of_ble_eq_true rfl⟩ (fun _ _ _ _ _ => trivial) (fun _ _ _ => trivial) hW hl.1 rfl (Nat.le_of_ble_eq_true rfl) dX4_onRing_41 ⟨Nat.le_refl _, Nat.le_refl _⟩ hS (fun _ h9 => h9) (fun v9 H locs hB hz9 hk9 hS => ?_)
                refine W.widen (k := 0) (n := 0) (Nat.le_refl 0) (Nat.le_refl 0) ?_
                obtain ⟨r_9, rfl, hr_9, hW⟩ := hB
                refine W.eq (g2 := F0 m 44 ls [.int r_9]) rfl ?_
                refine lv_iload_n hx hb dX4_onRing_44 rfl (lv_at hl 2 rfl) ?_
                refine lv_isub hx hb dX4_onRing_45 ?_
                refine lv_topi (fun x_10 _ => ?_)
                refine lv_ldc hx hb hown (hts _ iw_829) dX4_onRing_46 ?_
                refine lv_iadd hx hb dX4_onRing_48 ?_
                refine lv_topi (fun x_11 _ => ?_)
                refine lv_ldc hx hb hown (hts _ iw_829) dX4_onRing_49 ?_
                refine lv_irem hx hb dX4_onRing_51 (by decide) ?_
                refine lv_istore (lv' := [(7, .int (x_11 - x_11 / 65536 * 65536)), (0, .ref h0), (1, .int a1), (2, .int a2), (3, .int c3), (4, .int d4), (5, .int (nI j)), (6, .int (nI i))]) hx hb dX4_onRing_52 hl (by decide) rfl (fun ls hl => ?_)
                refine lv_iload hx hb dX4_onRing_54 (lv_at hl 0 rfl) ?_
                refine lv_iload hx hb dX4_onRing_56 (lv_at hl 5 rfl) ?_
                refine lv_icmp_lt (tgt := 64) hx hb dX4_onRing_58 (by decide) (fun c_12 => ?_) (fun c_12 => ?_)
                · skip
                  have i_12 : (x_11 - x_11 / 65536 * 65536).toInt < d4.toInt := by have h9 := pz_lt c_12; exact h9
                  refine lv_iload hx hb dX4_onRing_64 (lv_at hl 0 rfl) ?_
                  refine lv_istore (lv' := [(4, .int (x_11 - x_11 / 65536 * 65536)), (7, .int (x_11 - x_11 / 65536 * 65536)), (0, .ref h0), (1, .int a1), (2, .int a2), (3, .int c3), (5, .int (nI j)), (6, .int (nI i))]) hx hb dX4_onRing_66 hl (by decide) rfl (fun ls hl => ?_)
                  refine lv_iload hx hb dX4_onRing_68 (lv_at hl 6 rfl) ?_
                  refine lv_istore_n (lv' := [(3, .int (nI j)), (4, .int (x_11 - x_11 / 65536 * 65536)), (7, .int (x_11 - x_11 / 65536 * 65536)), (0, .ref h0), (1, .int a1), (2, .int a2), (5, .int (nI j)), (6, .int (nI i))]) hx hb dX4_onRing_70 rfl hl (by decide) rfl (fun ls hl => ?_)
                  obtain ⟨y_13, ey_13⟩ : ∃ y : Int32, y = (nI i) + 1 := ⟨_, rfl⟩
                  refine lv_iinc (v := y_13) (lv' := [(6, .int y_13), (3, .int (nI j)), (4, .int (x_11 - x_11 / 65536 * 65536)), (7, .int (x_11 - x_11 / 65536 * 65536)), (0, .ref h0), (1, .int a1), (2, .int a2), (5, .int (nI j))]) hx hb dX4_onRing_71 hl (k := 7) rfl (by rw [ey_13]; rfl) (by decide) rfl (fun ls hl => ?_)
                  obtain rfl : y_13 = nI (i + 1) := ey_13.trans (nI_1 i)
                  have en_14 : (nI (i + 1)).toInt = ((i + 1 : Nat) : Int) := pz_ti (by omega)
                  refine lv_goto (tgt := 21) hx hb dX4_onRing_74 (by decide) ?_
                  exact ih_B21 _ (by clear hf2 hf; omega) (i + 1) (nI j) (x_11 - x_11 / 65536 * 65536) _ _ ls rfl (by omega) (Or.inr ⟨_, by omega, rfl⟩) hW hS (lv_sub hl [4, 5, 6, 1, 2, 7, 0] rfl)
                · skip
                  have i_12 : (x_11 - x_11 / 65536 * 65536).toInt ≥ d4.toInt := by have h9 := pz_nlt c_12; exact h9
                  refine lv_goto (tgt := 71) hx hb dX4_onRing_61 (by decide) ?_
                  obtain ⟨y_15, ey_15⟩ : ∃ y : Int32, y = (nI i) + 1 := ⟨_, rfl⟩
                  refine lv_iinc (v := y_15) (lv' := [(6, .int y_15), (7, .int (x_11 - x_11 / 65536 * 65536)), (0, .ref h0), (1, .int a1), (2, .int a2), (3, .int c3), (4, .int d4), (5, .int (nI j))]) hx hb dX4_onRing_71 hl (k := 7) rfl (by rw [ey_15]; rfl) (by decide) rfl (fun ls hl => ?_)
                  obtain rfl : y_15 = nI (i + 1) := ey_15.trans (nI_1 i)
                  have en_16 : (nI (i + 1)).toInt = ((i + 1 : Nat) : Int) := pz_ti (by omega)
                  refine lv_goto (tgt := 21) hx hb dX4_onRing_74 (by decide) ?_
                  exact ih_B21 _ (by clear hf2 hf; omega) (i + 1) c3 d4 _ _ ls rfl (by omega) (hf2.elim (fun ⟨h1, h2, h3, h4⟩ => (by exfalso; subst h2; have h8 : (65536 : Int32).toInt = 65536 := (by decide); have h7 := irem_lt x_11; omega)) Or.inr) hW hS (lv_sub hl [2, 3, 4, 5, 6, 7, 0] rfl)
        exact loop_B21 _ 0 b3 l4 _ _ ls rfl (by omega) (hf.elim (fun h9 => Or.inl ⟨h9.1, h9.2.1, h9.2.2, Or.inl rfl⟩) Or.inr) hW hS (lv_sub hl [1, 2, 3, 4, 5, 6, 0] rfl)
  exact loop_B9 _ 0 (-1) 65536 _ _ ls rfl (by omega) (Or.inl ⟨rfl, rfl, fun s h => absurd h (Nat.not_lt_zero s)⟩) hW hS (lv_sub hl [3, 4, 5, 2, 1, 0] rfl)

abbrev B_q_X4_near (dC : Nat → ClassId) (dI : Nat → Nat → Nat) (h0 : Nat) (R : Nat → Nat) (A : Nat → Prop) (V : Nat → Int32) (G : Nat → Nat → Int32) (ns : Nat) (a1 : Int32) (a2 : Int32) : Option Value → Heap → Prop := fun v H => ∃ (r : Int32) (q : Nat), v = some (.int r) ∧ (q < ns ∧ r = nI q) ∧ Mw dC dI h0 R A V G H
set_option maxHeartbeats 8000000 in
set_option maxRecDepth 20000 in
theorem q_X4_near (l : Launch) (dC : Nat → ClassId) (dI : Nat → Nat → Nat) (h0 : Nat) (R : Nat → Nat) (A : Nat → Prop) (V : Nat → Int32) (G : Nat → Nat → Int32) (ns : Nat) (a1 : Int32) (a2 : Int32) (hV2 : V 2 = nI ns) (hns : ns ≤ 8) (hbit : ∃ s, s < ns ∧ gBit a1 s) : Met l yX4_near (cws yX4_near cX4_near 5 (some .int)) { frames := 1, cells := 0, slots := 0, locals := 23 } (va_Pc [.ref h0, .int a1, .int a2] (fun U => Kt dC dI U ∧ Mw dC dI h0 R A V G U.heap)) (Qg (B_q_X4_near dC dI h0 R A V G ns a1 a2) A) 0 0 A := by
  refine m_start (KK := Kt dC dI) (Pw := Mw dC dI h0 R A V G) (by decide) (Nat.le_of_ble_eq_true rfl) ?_
  intro p e s m below meth c ls S hr hlocks hin hK hW hS hl
  obtain ⟨hx, hb, hml, hown, hts⟩ := id S
  have hl : lv_has ls 5 [(0, .ref h0), (1, .int a1), (2, .int a2)] := hl
  have en_s : (nI ns).toInt = ((ns : Nat) : Int) := pz_ti (by omega)
  refine lv_iconst (v := 0) hx hb dX4_near_0 (by decide) ?_
  refine lv_istore_n (lv' := [(3, .int 0), (0, .ref h0), (1, .int a1), (2, .int a2)]) hx hb dX4_near_1 rfl hl (by decide) rfl (fun ls hl => ?_)
  refine lv_iconst (v := 0) hx hb dX4_near_2 (by decide) ?_
  refine lv_istore (lv' := [(4, .int 0), (3, .int 0), (0, .ref h0), (1, .int a1), (2, .int a2)]) hx hb dX4_near_3 hl (by decide) rfl (fun ls hl => ?_)
  have loop_B5 : ∀ (k9 : Nat) (j : Nat) (b3 : Int32) (H : Heap) (locs : List Loc) (ls : Array Slot), ns - j = k9 → (j ≤ ns) → (gMay b3 j) → Mw dC dI h0 R A V G H → va_S A s.heap H locs → lv_has ls 5 [(0, .ref h0), (1, .int a1), (2, .int a2), (3, .int b3), (4, .int (nI j))] → W p l e { frames := 1, cells := 0, slots := 0, locals := 23 } s m ([.ref h0, .int a1, .int a2] : List Value).toArray below meth c H locs 0 0 (MQ below (Qg (B_q_X4_near dC dI h0 R A V G ns a1 a2) A) ([.ref h0, .int a1, .int a2] : List Value).toArray s 0 0 A) (F0 m 5 ls []) := by
    intro k9
    induction k9 using Nat.strongRecOn with
    | ind k9 ih_B5 =>
      intro j b3 H locs ls hm_B5 hle_j hg hW hS hl
      have en_j : (nI j).toInt = ((j : Nat) : Int) := pz_ti (by omega)
      refine lv_iload hx hb dX4_near_5 (lv_at hl 4 rfl) ?_
      refine lv_aload_n hx hb dX4_near_7 rfl (lv_at hl 0 rfl) ?_
      refine M_g2 S hK hW dX4_near_8 (fun x_1 hx_1 => ?_)
      obtain rfl : x_1 = nI ns := hx_1.trans hV2
      refine lv_icmp_ge (tgt := 50) hx hb dX4_near_11 (by decide) (fun c_2 => ?_) (fun c_2 => ?_)
      · skip
        have i_2 : (nI j).toInt ≥ (nI ns).toInt := by have h9 := pz_ge c_2; exact h9
        have hg9 : gMay b3 ns := by rw [show ns = j by omega]; exact hg
        refine lv_aload_n hx hb dX4_near_50 rfl (lv_at hl 0 rfl) ?_
        refine lv_iload_n hx hb dX4_near_51 rfl (lv_at hl 3 rfl) ?_
        refine lv_if_eq (tgt := 59) hx hb dX4_near_52 (by decide) (fun c_3 => ?_) (fun c_3 => ?_)
        · skip
          have i_3 : b3.toInt = 0 := by have h9 := pz_eq c_3; exact h9
          refine lv_iload_n hx hb dX4_near_59 rfl (lv_at hl 1 rfl) ?_
          refine c_v (n := 1) (As := [.int a1]) (rest := []) S (q_X4_fewest l dC dI h0 R A V G ns a1 hV2 (by omega) hbit) iw_849 iw_846 iw_848 iw_39 iw_61 (by decide +kernel) rfl ⟨rfl, rfl, Nat.le_of_ble_eq_true rfl, Nat.le_of_ble_eq_true rfl⟩ Kt.blind (M_recv hK hW) hK.at hW hl.1 rfl (Nat.le_of_ble_eq_true rfl) dX4_near_60 ⟨Nat.le_refl _, Nat.le_refl _⟩ hS (fun _ h9 => h9) (fun v9 H locs hB hz9 hk9 hS => ?_)
          refine W.widen (k := 0) (n := 0) (Nat.le_refl 0) (Nat.le_refl 0) ?_
          obtain ⟨r_4, q_4, rfl, ⟨hq_4, rfl⟩, hW⟩ := hB
          refine W.eq (g2 := F0 m 63 ls [.int (nI q_4)]) rfl ?_
          have en_5 : (nI q_4).toInt = ((q_4 : Nat) : Int) := pz_ti (by omega)
          exact r_i (v := (nI q_4)) hx hb hr hlocks hS dX4_near_63 (⟨_, _, rfl, ⟨by omega, rfl⟩, hW⟩)
        · skip
          have i_3 : ¬ b3.toInt = 0 := by have h9 := pz_neq c_3; exact h9
          refine lv_iload_n hx hb dX4_near_55 rfl (lv_at hl 3 rfl) ?_
          refine lv_goto (tgt := 60) hx hb dX4_near_56 (by decide) ?_
          refine c_v (n := 1) (As := [.int b3]) (rest := []) S (q_X4_fewest l dC dI h0 R A V G ns b3 hV2 (by omega) (hg9.resolve_left c_3)) iw_849 iw_846 iw_848 iw_39 iw_61 (by decide +kernel) rfl ⟨rfl, rfl, Nat.le_of_ble_eq_true rfl, Nat.le_of_ble_eq_true rfl⟩ Kt.blind (M_recv hK hW) hK.at hW hl.1 rfl (Nat.le_of_ble_eq_true rfl) dX4_near_60 ⟨Nat.le_refl _, Nat.le_refl _⟩ hS (fun _ h9 => h9) (fun v9 H locs hB hz9 hk9 hS => ?_)
          refine W.widen (k := 0) (n := 0) (Nat.le_refl 0) (Nat.le_refl 0) ?_
          obtain ⟨r_6, q_6, rfl, ⟨hq_6, rfl⟩, hW⟩ := hB
          refine W.eq (g2 := F0 m 63 ls [.int (nI q_6)]) rfl ?_
          have en_7 : (nI q_6).toInt = ((q_6 : Nat) : Int) := pz_ti (by omega)
          exact r_i (v := (nI q_6)) hx hb hr hlocks hS dX4_near_63 (⟨_, _, rfl, ⟨by omega, rfl⟩, hW⟩)
      · skip
        have i_2 : (nI j).toInt < (nI ns).toInt := by have h9 := pz_nge c_2; exact h9
        refine lv_iload_n hx hb dX4_near_14 rfl (lv_at hl 1 rfl) ?_
        refine lv_iload hx hb dX4_near_15 (lv_at hl 4 rfl) ?_
        refine lv_ishr hx hb dX4_near_17 ?_
        refine lv_iconst (v := 1) hx hb dX4_near_18 (by decide) ?_
        refine lv_iand hx hb dX4_near_19 ?_
        refine lv_iconst (v := 1) hx hb dX4_near_20 (by decide) ?_
        refine lv_icmp_ne (tgt := 44) hx hb dX4_near_21 (by decide) (fun c_8 => ?_) (fun c_8 => ?_)
        · skip
          have i_8 : ¬ ((a1 >>> ((nI j) &&& 31)) &&& 1).toInt = 1 := by have h9 := pz_neq c_8; exact h9
          obtain ⟨y_9, ey_9⟩ : ∃ y : Int32, y = (nI j) + 1 := ⟨_, rfl⟩
          refine lv_iinc (v := y_9) (lv' := [(4, .int y_9), (0, .ref h0), (1, .int a1), (2, .int a2), (3, .int b3)]) hx hb dX4_near_44 hl (k := 4) rfl (by rw [ey_9]; rfl) (by decide) rfl (fun ls hl => ?_)
          obtain rfl : y_9 = nI (j + 1) := ey_9.trans (nI_1 j)
          have en_10 : (nI (j + 1)).toInt = ((j + 1 : Nat) : Int) := pz_ti (by omega)
          refine lv_goto (tgt := 5) hx hb dX4_near_47 (by decide) ?_
          exact ih_B5 _ (by omega) (j + 1) b3 _ _ ls rfl (by omega) (gMay_up hg) hW hS (lv_sub hl [1, 2, 3, 4, 0] rfl)
        · skip
          have i_8 : ((a1 >>> ((nI j) &&& 31)) &&& 1).toInt = 1 := by have h9 := pz_eq c_8; exact h9
          refine lv_aload_n hx hb dX4_near_24 rfl (lv_at hl 0 rfl) ?_
          refine M_g12 S hK hW dX4_near_25 ?_
          refine lv_iload hx hb dX4_near_28 (lv_at hl 4 rfl) ?_
          refine mw_ld S hK hW 12 rfl rfl (pz_vi (n := mN 12) (by rw [show mN 12 = 8 from rfl]; omega) (by decide)) dX4_near_30 (fun x_11 hx_11 => ?_)
          refine lv_iload_n hx hb dX4_near_31 rfl (lv_at hl 2 rfl) ?_
          refine lv_iconst (v := 4) hx hb dX4_near_32 (by decide) ?_
          refine lv_irem hx hb dX4_near_33 (by decide) ?_
          refine lv_topi (fun x_12 _ => ?_)
          refine lv_icmp_ne (tgt := 44) hx hb dX4_near_34 (by decide) (fun c_13 => ?_) (fun c_13 => ?_)
          · skip
            have i_13 : ¬ x_11.toInt = x_12.toInt := by have h9 := pz_neq c_13; exact h9
            obtain ⟨y_14, ey_14⟩ : ∃ y : Int32, y = (nI j) + 1 := ⟨_, rfl⟩
            refine lv_iinc (v := y_14) (lv' := [(4, .int y_14), (0, .ref h0), (1, .int a1), (2, .int a2), (3, .int b3)]) hx hb dX4_near_44 hl (k := 4) rfl (by rw [ey_14]; rfl) (by decide) rfl (fun ls hl => ?_)
            obtain rfl : y_14 = nI (j + 1) := ey_14.trans (nI_1 j)
            have en_15 : (nI (j + 1)).toInt = ((j + 1 : Nat) : Int) := pz_ti (by omega)
            refine lv_goto (tgt := 5) hx hb dX4_near_47 (by decide) ?_
            exact ih_B5 _ (by omega) (j + 1) b3 _ _ ls rfl (by omega) (gMay_up hg) hW hS (lv_sub hl [1, 2, 3, 4, 0] rfl)
          · skip
            have i_13 : x_11.toInt = x_12.toInt := by have h9 := pz_eq c_13; exact h9
            refine lv_iload_n hx hb dX4_near_37 rfl (lv_at hl 3 rfl) ?_
            refine lv_iconst (v := 1) hx hb dX4_near_38 (by decide) ?_
            refine lv_iload hx hb dX4_near_39 (lv_at hl 4 rfl) ?_
            refine lv_ishl hx hb dX4_near_41 ?_
            refine lv_ior hx hb dX4_near_42 ?_
            refine lv_istore_n (lv' := [(3, .int (b3 ||| (1 <<< ((nI j) &&& 31)))), (0, .ref h0), (1, .int a1), (2, .int a2), (4, .int (nI j))]) hx hb dX4_near_43 rfl hl (by decide) rfl (fun ls hl => ?_)
            obtain ⟨y_16, ey_16⟩ : ∃ y : Int32, y = (nI j) + 1 := ⟨_, rfl⟩
            refine lv_iinc (v := y_16) (lv' := [(4, .int y_16), (3, .int (b3 ||| (1 <<< ((nI j) &&& 31)))), (0, .ref h0), (1, .int a1), (2, .int a2)]) hx hb dX4_near_44 hl (k := 4) rfl (by rw [ey_16]; rfl) (by decide) rfl (fun ls hl => ?_)
            obtain rfl : y_16 = nI (j + 1) := ey_16.trans (nI_1 j)
            have en_17 : (nI (j + 1)).toInt = ((j + 1 : Nat) : Int) := pz_ti (by omega)
            refine lv_goto (tgt := 5) hx hb dX4_near_47 (by decide) ?_
            exact ih_B5 _ (by omega) (j + 1) (b3 ||| (1 <<< ((nI j) &&& 31))) _ _ ls rfl (by omega) (gMay_or (by omega)) hW hS (lv_sub hl [2, 3, 4, 1, 0] rfl)
  exact loop_B5 _ 0 0 _ _ ls rfl (by omega) (gMay_0 0) hW hS (lv_sub hl [2, 3, 4, 1, 0] rfl)

abbrev B_q_X4_byTurns (dC : Nat → ClassId) (dI : Nat → Nat → Nat) (h0 : Nat) (R : Nat → Nat) (A : Nat → Prop) (V : Nat → Int32) (G : Nat → Nat → Int32) (ns : Nat) (a1 : Int32) (a2 : Int32) : Option Value → Heap → Prop := fun v H => ∃ (r : Int32) (q : Nat), v = some (.int r) ∧ (q < ns ∧ r = nI q) ∧ Mw dC dI h0 R A V G H
set_option maxHeartbeats 8000000 in
set_option maxRecDepth 20000 in
theorem q_X4_byTurns (l : Launch) (dC : Nat → ClassId) (dI : Nat → Nat → Nat) (h0 : Nat) (R : Nat → Nat) (A : Nat → Prop) (V : Nat → Int32) (G : Nat → Nat → Int32) (ns : Nat) (a1 : Int32) (a2 : Int32) (hV2 : V 2 = nI ns) (hns : ns ≤ 8) (hbit : ∃ s, s < ns ∧ gBit a1 s) : Met l yX4_byTurns (cws yX4_byTurns cX4_byTurns 6 (some .int)) { frames := 0, cells := 0, slots := 0, locals := 0 } (va_Pc [.ref h0, .int a1, .int a2] (fun U => Kt dC dI U ∧ Mw dC dI h0 R A V G U.heap)) (Qg (B_q_X4_byTurns dC dI h0 R A V G ns a1 a2) A) 0 0 A := by
  refine m_start (KK := Kt dC dI) (Pw := Mw dC dI h0 R A V G) (by decide) (Nat.le_of_ble_eq_true rfl) ?_
  intro p e s m below meth c ls S hr hlocks hin hK hW hS hl
  obtain ⟨hx, hb, hml, hown, hts⟩ := id S
  have hl : lv_has ls 6 [(0, .ref h0), (1, .int a1), (2, .int a2)] := hl
  have en_s : (nI ns).toInt = ((ns : Nat) : Int) := pz_ti (by omega)
  refine lv_iconst (v := (-1)) hx hb dX4_byTurns_0 (by decide) ?_
  refine lv_istore_n (lv' := [(3, .int (-1)), (0, .ref h0), (1, .int a1), (2, .int a2)]) hx hb dX4_byTurns_1 rfl hl (by decide) rfl (fun ls hl => ?_)
  refine lv_iconst (v := 0) hx hb dX4_byTurns_2 (by decide) ?_
  refine lv_istore (lv' := [(4, .int 0), (3, .int (-1)), (0, .ref h0), (1, .int a1), (2, .int a2)]) hx hb dX4_byTurns_3 hl (by decide) rfl (fun ls hl => ?_)
  refine lv_iconst (v := 0) hx hb dX4_byTurns_5 (by decide) ?_
  refine lv_istore (lv' := [(5, .int 0), (4, .int 0), (3, .int (-1)), (0, .ref h0), (1, .int a1), (2, .int a2)]) hx hb dX4_byTurns_6 hl (by decide) rfl (fun ls hl => ?_)
  have loop_B8 : ∀ (k9 : Nat) (j : Nat) (b3 : Int32) (l4 : Int32) (H : Heap) (locs : List Loc) (ls : Array Slot), ns - j = k9 → (j ≤ ns) → (((b3 = -1 ∧ ∀ s, s < j → ¬ gBit a1 s) ∨ ∃ q, q < ns ∧ b3 = nI q)) → Mw dC dI h0 R A V G H → va_S A s.heap H locs → lv_has ls 6 [(0, .ref h0), (1, .int a1), (2, .int a2), (3, .int b3), (4, .int l4), (5, .int (nI j))] → W p l e { frames := 0, cells := 0, slots := 0, locals := 0 } s m ([.ref h0, .int a1, .int a2] : List Value).toArray below meth c H locs 0 0 (MQ below (Qg (B_q_X4_byTurns dC dI h0 R A V G ns a1 a2) A) ([.ref h0, .int a1, .int a2] : List Value).toArray s 0 0 A) (F0 m 8 ls []) := by
    intro k9
    induction k9 using Nat.strongRecOn with
    | ind k9 ih_B8 =>
      intro j b3 l4 H locs ls hm_B8 hle_j hf hW hS hl
      have en_j : (nI j).toInt = ((j : Nat) : Int) := pz_ti (by omega)
      rcases hf with ⟨rfl, hnb⟩ | ⟨q, hq, rfl⟩
      · skip
        refine lv_iload hx hb dX4_byTurns_8 (lv_at hl 5 rfl) ?_
        refine lv_aload_n hx hb dX4_byTurns_10 rfl (lv_at hl 0 rfl) ?_
        refine M_g2 S hK hW dX4_byTurns_11 (fun x_1 hx_1 => ?_)
        obtain rfl : x_1 = nI ns := hx_1.trans hV2
        refine lv_icmp_ge (tgt := 85) hx hb dX4_byTurns_14 (by decide) (fun c_2 => ?_) (fun c_2 => ?_)
        · skip
          have i_2 : (nI j).toInt ≥ (nI ns).toInt := by have h9 := pz_ge c_2; exact h9
          exfalso
          obtain ⟨s9, h1, h2⟩ := hbit
          exact absurd h2 (hnb s9 (by omega))
        · skip
          have i_2 : (nI j).toInt < (nI ns).toInt := by have h9 := pz_nge c_2; exact h9
          refine lv_iload_n hx hb dX4_byTurns_17 rfl (lv_at hl 1 rfl) ?_
          refine lv_iload hx hb dX4_byTurns_18 (lv_at hl 5 rfl) ?_
          refine lv_ishr hx hb dX4_byTurns_20 ?_
          refine lv_iconst (v := 1) hx hb dX4_byTurns_21 (by decide) ?_
          refine lv_iand hx hb dX4_byTurns_22 ?_
          refine lv_if_ne (tgt := 29) hx hb dX4_byTurns_23 (by decide) (fun c_3 => ?_) (fun c_3 => ?_)
          · skip
            have i_3 : ¬ ((a1 >>> ((nI j) &&& 31)) &&& 1).toInt = 0 := by have h9 := pz_neq c_3; exact h9
            refine lv_iload hx hb dX4_byTurns_29 (lv_at hl 4 rfl) ?_
            refine lv_aload_n hx hb dX4_byTurns_31 rfl (lv_at hl 0 rfl) ?_
            refine M_g11 S hK hW dX4_byTurns_32 ?_
            refine lv_iload hx hb dX4_byTurns_35 (lv_at hl 5 rfl) ?_
            refine mw_ld S hK hW 11 rfl rfl (pz_vi (n := mN 11) (by rw [show mN 11 = 8 from rfl]; omega) (by decide)) dX4_byTurns_37 (fun x_4 hx_4 => ?_)
            refine lv_iadd hx hb dX4_byTurns_38 ?_
            refine lv_topi (fun x_5 _ => ?_)
            refine lv_istore (lv' := [(4, .int x_5), (0, .ref h0), (1, .int a1), (2, .int a2), (3, .int (-1)), (5, .int (nI j))]) hx hb dX4_byTurns_39 hl (by decide) rfl (fun ls hl => ?_)
            refine lv_iload_n hx hb dX4_byTurns_41 rfl (lv_at hl 4 rfl) ?_
            refine lv_if_lt (tgt := 76) hx hb dX4_byTurns_42 (by decide) (fun c_6 => ?_) (fun c_6 => absurd (by decide) c_6)
            refine lv_iload hx hb dX4_byTurns_76 (lv_at hl 5 rfl) ?_
            refine lv_istore_n (lv' := [(3, .int (nI j)), (4, .int x_5), (0, .ref h0), (1, .int a1), (2, .int a2), (5, .int (nI j))]) hx hb dX4_byTurns_78 rfl hl (by decide) rfl (fun ls hl => ?_)
            obtain ⟨y_7, ey_7⟩ : ∃ y : Int32, y = (nI j) + 1 := ⟨_, rfl⟩
            refine lv_iinc (v := y_7) (lv' := [(5, .int y_7), (3, .int (nI j)), (4, .int x_5), (0, .ref h0), (1, .int a1), (2, .int a2)]) hx hb dX4_byTurns_79 hl (k := 5) rfl (by rw [ey_7]; rfl) (by decide) rfl (fun ls hl => ?_)
            obtain rfl : y_7 = nI (j + 1) := ey_7.trans (nI_1 j)
            have en_8 : (nI (j + 1)).toInt = ((j + 1 : Nat) : Int) := pz_ti (by omega)
            refine lv_goto (tgt := 8) hx hb dX4_byTurns_82 (by decide) ?_
            exact ih_B8 _ (by omega) (j + 1) (nI j) x_5 _ _ ls rfl (by omega) (Or.inr ⟨_, by omega, rfl⟩) hW hS (lv_sub hl [3, 4, 5, 1, 2, 0] rfl)
          · skip
            have i_3 : ((a1 >>> ((nI j) &&& 31)) &&& 1).toInt = 0 := by have h9 := pz_eq c_3; exact h9
            refine lv_goto (tgt := 79) hx hb dX4_byTurns_26 (by decide) ?_
            obtain ⟨y_9, ey_9⟩ : ∃ y : Int32, y = (nI j) + 1 := ⟨_, rfl⟩
            refine lv_iinc (v := y_9) (lv' := [(5, .int y_9), (0, .ref h0), (1, .int a1), (2, .int a2), (3, .int (-1)), (4, .int l4)]) hx hb dX4_byTurns_79 hl (k := 5) rfl (by rw [ey_9]; rfl) (by decide) rfl (fun ls hl => ?_)
            obtain rfl : y_9 = nI (j + 1) := ey_9.trans (nI_1 j)
            have en_10 : (nI (j + 1)).toInt = ((j + 1 : Nat) : Int) := pz_ti (by omega)
            refine lv_goto (tgt := 8) hx hb dX4_byTurns_82 (by decide) ?_
            exact ih_B8 _ (by omega) (j + 1) (-1) l4 _ _ ls rfl (by omega) (gF_skip hnb (fun h9 => by rw [gBit, c_3] at h9; exact absurd h9 (by decide))) hW hS (lv_sub hl [1, 2, 3, 4, 5, 0] rfl)
      · skip
        have en_q : (nI q).toInt = ((q : Nat) : Int) := pz_ti (by omega)
        refine lv_iload hx hb dX4_byTurns_8 (lv_at hl 5 rfl) ?_
        refine lv_aload_n hx hb dX4_byTurns_10 rfl (lv_at hl 0 rfl) ?_
        refine M_g2 S hK hW dX4_byTurns_11 (fun x_11 hx_11 => ?_)
        obtain rfl : x_11 = nI ns := hx_11.trans hV2
        refine lv_icmp_ge (tgt := 85) hx hb dX4_byTurns_14 (by decide) (fun c_12 => ?_) (fun c_12 => ?_)
        · skip
          have i_12 : (nI j).toInt ≥ (nI ns).toInt := by have h9 := pz_ge c_12; exact h9
          refine lv_iconst (v := 0) hx hb dX4_byTurns_85 (by decide) ?_
          refine lv_istore (lv' := [(5, .int 0), (0, .ref h0), (1, .int a1), (2, .int a2), (3, .int (nI q)), (4, .int l4)]) hx hb dX4_byTurns_86 hl (by decide) rfl (fun ls hl => ?_)
          have loop_B88 : ∀ (k9 : Nat) (i : Nat) (H : Heap) (locs : List Loc) (ls : Array Slot), ns - i = k9 → (i ≤ ns) → Mw dC dI h0 R A V G H → va_S A s.heap H locs → lv_has ls 6 [(0, .ref h0), (1, .int a1), (2, .int a2), (3, .int (nI q)), (4, .int l4), (5, .int (nI i))] → W p l e { frames := 0, cells := 0, slots := 0, locals := 0 } s m ([.ref h0, .int a1, .int a2] : List Value).toArray below meth c H locs 0 0 (MQ below (Qg (B_q_X4_byTurns dC dI h0 R A V G ns a1 a2) A) ([.ref h0, .int a1, .int a2] : List Value).toArray s 0 0 A) (F0 m 88 ls []) := by
            intro k9
            induction k9 using Nat.strongRecOn with
            | ind k9 ih_B88 =>
              intro i H locs ls hm_B88 hle_i hW hS hl
              have en_i : (nI i).toInt = ((i : Nat) : Int) := pz_ti (by omega)
              refine lv_iload hx hb dX4_byTurns_88 (lv_at hl 5 rfl) ?_
              refine lv_aload_n hx hb dX4_byTurns_90 rfl (lv_at hl 0 rfl) ?_
              refine M_g2 S hK hW dX4_byTurns_91 (fun x_13 hx_13 => ?_)
              obtain rfl : x_13 = nI ns := hx_13.trans hV2
              refine lv_icmp_ge (tgt := 138) hx hb dX4_byTurns_94 (by decide) (fun c_14 => ?_) (fun c_14 => ?_)
              · skip
                have i_14 : (nI i).toInt ≥ (nI ns).toInt := by have h9 := pz_ge c_14; exact h9
                refine lv_iload_n hx hb dX4_byTurns_138 rfl (lv_at hl 2 rfl) ?_
                refine lv_if_eq (tgt := 153) hx hb dX4_byTurns_139 (by decide) (fun c_15 => ?_) (fun c_15 => ?_)
                · skip
                  have i_15 : a2.toInt = 0 := by have h9 := pz_eq c_15; exact h9
                  refine lv_iload_n hx hb dX4_byTurns_153 rfl (lv_at hl 3 rfl) ?_
                  exact r_i (v := (nI q)) hx hb hr hlocks hS dX4_byTurns_154 (⟨_, _, rfl, ⟨by omega, rfl⟩, hW⟩)
                · skip
                  have i_15 : ¬ a2.toInt = 0 := by have h9 := pz_neq c_15; exact h9
                  refine lv_aload_n hx hb dX4_byTurns_142 rfl (lv_at hl 0 rfl) ?_
                  refine M_g26 S hK hW dX4_byTurns_143 ?_
                  refine lv_iload_n hx hb dX4_byTurns_146 rfl (lv_at hl 3 rfl) ?_
                  refine lv_dup2_11 hx hb dX4_byTurns_147 rfl rfl ?_
                  refine mw_ld S hK hW 26 rfl rfl (pz_vi (n := mN 26) (by rw [show mN 26 = 8 from rfl]; omega) (by decide)) dX4_byTurns_148 (fun x_16 hx_16 => ?_)
                  refine lv_iload hx hb dX4_byTurns_149 (lv_at hl 4 rfl) ?_
                  refine lv_isub hx hb dX4_byTurns_151 ?_
                  refine lv_topi (fun x_17 _ => ?_)
                  refine mw_su S hK hW hS 26 rfl rfl rfl (pz_vi (n := mN 26) (by rw [show mN 26 = 8 from rfl]; omega) (by decide)) dX4_byTurns_152 (fun H locs hW hS => ?_)
                  refine lv_iload_n hx hb dX4_byTurns_153 rfl (lv_at hl 3 rfl) ?_
                  exact r_i (v := (nI q)) hx hb hr hlocks hS dX4_byTurns_154 (⟨_, _, rfl, ⟨by omega, rfl⟩, hW⟩)
              · skip
                have i_14 : (nI i).toInt < (nI ns).toInt := by have h9 := pz_nge c_14; exact h9
                refine lv_iload_n hx hb dX4_byTurns_97 rfl (lv_at hl 2 rfl) ?_
                refine lv_if_eq (tgt := 138) hx hb dX4_byTurns_98 (by decide) (fun c_18 => ?_) (fun c_18 => ?_)
                · skip
                  have i_18 : a2.toInt = 0 := by have h9 := pz_eq c_18; exact h9
                  refine lv_iload_n hx hb dX4_byTurns_138 rfl (lv_at hl 2 rfl) ?_
                  refine lv_if_eq (tgt := 153) hx hb dX4_byTurns_139 (by decide) (fun c_19 => ?_) (fun c_19 => ?_)
                  · skip
                    have i_19 : a2.toInt = 0 := by have h9 := pz_eq c_19; exact h9
                    refine lv_iload_n hx hb dX4_byTurns_153 rfl (lv_at hl 3 rfl) ?_
                    exact r_i (v := (nI q)) hx hb hr hlocks hS dX4_byTurns_154 (⟨_, _, rfl, ⟨by omega, rfl⟩, hW⟩)
                  · skip
                    have i_19 : ¬ a2.toInt = 0 := by have h9 := pz_neq c_19; exact h9
                    refine lv_aload_n hx hb dX4_byTurns_142 rfl (lv_at hl 0 rfl) ?_
                    refine M_g26 S hK hW dX4_byTurns_143 ?_
                    refine lv_iload_n hx hb dX4_byTurns_146 rfl (lv_at hl 3 rfl) ?_
                    refine lv_dup2_11 hx hb dX4_byTurns_147 rfl rfl ?_
                    refine mw_ld S hK hW 26 rfl rfl (pz_vi (n := mN 26) (by rw [show mN 26 = 8 from rfl]; omega) (by decide)) dX4_byTurns_148 (fun x_20 hx_20 => ?_)
                    refine lv_iload hx hb dX4_byTurns_149 (lv_at hl 4 rfl) ?_
                    refine lv_isub hx hb dX4_byTurns_151 ?_
                    refine lv_topi (fun x_21 _ => ?_)
                    refine mw_su S hK hW hS 26 rfl rfl rfl (pz_vi (n := mN 26) (by rw [show mN 26 = 8 from rfl]; omega) (by decide)) dX4_byTurns_152 (fun H locs hW hS => ?_)
                    refine lv_iload_n hx hb dX4_byTurns_153 rfl (lv_at hl 3 rfl) ?_
                    exact r_i (v := (nI q)) hx hb hr hlocks hS dX4_byTurns_154 (⟨_, _, rfl, ⟨by omega, rfl⟩, hW⟩)
                · skip
                  have i_18 : ¬ a2.toInt = 0 := by have h9 := pz_neq c_18; exact h9
                  refine lv_aload_n hx hb dX4_byTurns_101 rfl (lv_at hl 0 rfl) ?_
                  refine M_g26 S hK hW dX4_byTurns_102 ?_
                  refine lv_iload hx hb dX4_byTurns_105 (lv_at hl 5 rfl) ?_
                  refine lv_dup2_11 hx hb dX4_byTurns_107 rfl rfl ?_
                  refine mw_ld S hK hW 26 rfl rfl (pz_vi (n := mN 26) (by rw [show mN 26 = 8 from rfl]; omega) (by decide)) dX4_byTurns_108 (fun x_22 hx_22 => ?_)
                  refine lv_iload_n hx hb dX4_byTurns_109 rfl (lv_at hl 1 rfl) ?_
                  refine lv_iload hx hb dX4_byTurns_110 (lv_at hl 5 rfl) ?_
                  refine lv_ishr hx hb dX4_byTurns_112 ?_
                  refine lv_iconst (v := 1) hx hb dX4_byTurns_113 (by decide) ?_
                  refine lv_iand hx hb dX4_byTurns_114 ?_
                  refine lv_iconst (v := 1) hx hb dX4_byTurns_115 (by decide) ?_
                  refine lv_icmp_ne (tgt := 129) hx hb dX4_byTurns_116 (by decide) (fun c_23 => ?_) (fun c_23 => ?_)
                  · skip
                    have i_23 : ¬ ((a1 >>> ((nI i) &&& 31)) &&& 1).toInt = 1 := by have h9 := pz_neq c_23; exact h9
                    refine lv_iconst (v := 0) hx hb dX4_byTurns_129 (by decide) ?_
                    refine lv_iadd hx hb dX4_byTurns_130 ?_
                    refine lv_topi (fun x_24 _ => ?_)
                    refine mw_su S hK hW hS 26 rfl rfl rfl (pz_vi (n := mN 26) (by rw [show mN 26 = 8 from rfl]; omega) (by decide)) dX4_byTurns_131 (fun H locs hW hS => ?_)
                    obtain ⟨y_25, ey_25⟩ : ∃ y : Int32, y = (nI i) + 1 := ⟨_, rfl⟩
                    refine lv_iinc (v := y_25) (lv' := [(5, .int y_25), (0, .ref h0), (1, .int a1), (2, .int a2), (3, .int (nI q)), (4, .int l4)]) hx hb dX4_byTurns_132 hl (k := 5) rfl (by rw [ey_25]; rfl) (by decide) rfl (fun ls hl => ?_)
                    obtain rfl : y_25 = nI (i + 1) := ey_25.trans (nI_1 i)
                    have en_26 : (nI (i + 1)).toInt = ((i + 1 : Nat) : Int) := pz_ti (by omega)
                    refine lv_goto (tgt := 88) hx hb dX4_byTurns_135 (by decide) ?_
                    exact ih_B88 _ (by omega) (i + 1) _ _ ls rfl (by omega) hW hS (lv_sub hl [1, 2, 3, 4, 5, 0] rfl)
                  · skip
                    have i_23 : ((a1 >>> ((nI i) &&& 31)) &&& 1).toInt = 1 := by have h9 := pz_eq c_23; exact h9
                    refine lv_aload_n hx hb dX4_byTurns_119 rfl (lv_at hl 0 rfl) ?_
                    refine M_g11 S hK hW dX4_byTurns_120 ?_
                    refine lv_iload hx hb dX4_byTurns_123 (lv_at hl 5 rfl) ?_
                    refine mw_ld S hK hW 11 rfl rfl (pz_vi (n := mN 11) (by rw [show mN 11 = 8 from rfl]; omega) (by decide)) dX4_byTurns_125 (fun x_27 hx_27 => ?_)
                    refine lv_goto (tgt := 130) hx hb dX4_byTurns_126 (by decide) ?_
                    refine lv_iadd hx hb dX4_byTurns_130 ?_
                    refine lv_topi (fun x_28 _ => ?_)
                    refine mw_su S hK hW hS 26 rfl rfl rfl (pz_vi (n := mN 26) (by rw [show mN 26 = 8 from rfl]; omega) (by decide)) dX4_byTurns_131 (fun H locs hW hS => ?_)
                    obtain ⟨y_29, ey_29⟩ : ∃ y : Int32, y = (nI i) + 1 := ⟨_, rfl⟩
                    refine lv_iinc (v := y_29) (lv' := [(5, .int y_29), (0, .ref h0), (1, .int a1), (2, .int a2), (3, .int (nI q)), (4, .int l4)]) hx hb dX4_byTurns_132 hl (k := 5) rfl (by rw [ey_29]; rfl) (by decide) rfl (fun ls hl => ?_)
                    obtain rfl : y_29 = nI (i + 1) := ey_29.trans (nI_1 i)
                    have en_30 : (nI (i + 1)).toInt = ((i + 1 : Nat) : Int) := pz_ti (by omega)
                    refine lv_goto (tgt := 88) hx hb dX4_byTurns_135 (by decide) ?_
                    exact ih_B88 _ (by omega) (i + 1) _ _ ls rfl (by omega) hW hS (lv_sub hl [1, 2, 3, 4, 5, 0] rfl)
          exact loop_B88 _ 0 _ _ ls rfl (by omega) hW hS (lv_sub hl [1, 2, 3, 4, 5, 0] rfl)
        · skip
          have i_12 : (nI j).toInt < (nI ns).toInt := by have h9 := pz_nge c_12; exact h9
          refine lv_iload_n hx hb dX4_byTurns_17 rfl (lv_at hl 1 rfl) ?_
          refine lv_iload hx hb dX4_byTurns_18 (lv_at hl 5 rfl) ?_
          refine lv_ishr hx hb dX4_byTurns_20 ?_
          refine lv_iconst (v := 1) hx hb dX4_byTurns_21 (by decide) ?_
          refine lv_iand hx hb dX4_byTurns_22 ?_
          refine lv_if_ne (tgt := 29) hx hb dX4_byTurns_23 (by decide) (fun c_31 => ?_) (fun c_31 => ?_)
          · skip
            have i_31 : ¬ ((a1 >>> ((nI j) &&& 31)) &&& 1).toInt = 0 := by have h9 := pz_neq c_31; exact h9
            refine lv_iload hx hb dX4_byTurns_29 (lv_at hl 4 rfl) ?_
            refine lv_aload_n hx hb dX4_byTurns_31 rfl (lv_at hl 0 rfl) ?_
            refine M_g11 S hK hW dX4_byTurns_32 ?_
            refine lv_iload hx hb dX4_byTurns_35 (lv_at hl 5 rfl) ?_
            refine mw_ld S hK hW 11 rfl rfl (pz_vi (n := mN 11) (by rw [show mN 11 = 8 from rfl]; omega) (by decide)) dX4_byTurns_37 (fun x_32 hx_32 => ?_)
            refine lv_iadd hx hb dX4_byTurns_38 ?_
            refine lv_topi (fun x_33 _ => ?_)
            refine lv_istore (lv' := [(4, .int x_33), (0, .ref h0), (1, .int a1), (2, .int a2), (3, .int (nI q)), (5, .int (nI j))]) hx hb dX4_byTurns_39 hl (by decide) rfl (fun ls hl => ?_)
            refine lv_iload_n hx hb dX4_byTurns_41 rfl (lv_at hl 4 rfl) ?_
            refine lv_if_lt (tgt := 76) hx hb dX4_byTurns_42 (by decide) (fun c_34 => ?_) (fun c_34 => ?_)
            · skip
              have i_34 : (nI q).toInt < 0 := by have h9 := pz_lt c_34; exact h9
              refine lv_iload hx hb dX4_byTurns_76 (lv_at hl 5 rfl) ?_
              refine lv_istore_n (lv' := [(3, .int (nI j)), (4, .int x_33), (0, .ref h0), (1, .int a1), (2, .int a2), (5, .int (nI j))]) hx hb dX4_byTurns_78 rfl hl (by decide) rfl (fun ls hl => ?_)
              obtain ⟨y_35, ey_35⟩ : ∃ y : Int32, y = (nI j) + 1 := ⟨_, rfl⟩
              refine lv_iinc (v := y_35) (lv' := [(5, .int y_35), (3, .int (nI j)), (4, .int x_33), (0, .ref h0), (1, .int a1), (2, .int a2)]) hx hb dX4_byTurns_79 hl (k := 5) rfl (by rw [ey_35]; rfl) (by decide) rfl (fun ls hl => ?_)
              obtain rfl : y_35 = nI (j + 1) := ey_35.trans (nI_1 j)
              have en_36 : (nI (j + 1)).toInt = ((j + 1 : Nat) : Int) := pz_ti (by omega)
              refine lv_goto (tgt := 8) hx hb dX4_byTurns_82 (by decide) ?_
              exact ih_B8 _ (by omega) (j + 1) (nI j) x_33 _ _ ls rfl (by omega) (Or.inr ⟨_, by omega, rfl⟩) hW hS (lv_sub hl [3, 4, 5, 1, 2, 0] rfl)
            · skip
              have i_34 : (nI q).toInt ≥ 0 := by have h9 := pz_nlt c_34; exact h9
              refine lv_aload_n hx hb dX4_byTurns_45 rfl (lv_at hl 1 rfl) ?_
              refine M_g26 S hK hW dX4_byTurns_46 ?_
              refine lv_iload hx hb dX4_byTurns_49 (lv_at hl 5 rfl) ?_
              refine mw_ld S hK hW 26 rfl rfl (pz_vi (n := mN 26) (by rw [show mN 26 = 8 from rfl]; omega) (by decide)) dX4_byTurns_51 (fun x_37 hx_37 => ?_)
              refine lv_aload_n hx hb dX4_byTurns_52 rfl (lv_at hl 1 rfl) ?_
              refine M_g11 S hK hW dX4_byTurns_53 ?_
              refine lv_iload hx hb dX4_byTurns_56 (lv_at hl 5 rfl) ?_
              refine mw_ld S hK hW 11 rfl rfl (pz_vi (n := mN 11) (by rw [show mN 11 = 8 from rfl]; omega) (by decide)) dX4_byTurns_58 (fun x_38 hx_38 => ?_)
              refine lv_iadd hx hb dX4_byTurns_59 ?_
              refine lv_topi (fun x_39 _ => ?_)
              refine lv_aload_n hx hb dX4_byTurns_60 rfl (lv_at hl 1 rfl) ?_
              refine M_g26 S hK hW dX4_byTurns_61 ?_
              refine lv_iload_n hx hb dX4_byTurns_64 rfl (lv_at hl 4 rfl) ?_
              refine mw_ld S hK hW 26 rfl rfl (pz_vi (n := mN 26) (by rw [show mN 26 = 8 from rfl]; omega) (by decide)) dX4_byTurns_65 (fun x_40 hx_40 => ?_)
              refine lv_aload_n hx hb dX4_byTurns_66 rfl (lv_at hl 1 rfl) ?_
              refine M_g11 S hK hW dX4_byTurns_67 ?_
              refine lv_iload_n hx hb dX4_byTurns_70 rfl (lv_at hl 4 rfl) ?_
              refine mw_ld S hK hW 11 rfl rfl (pz_vi (n := mN 11) (by rw [show mN 11 = 8 from rfl]; omega) (by decide)) dX4_byTurns_71 (fun x_41 hx_41 => ?_)
              refine lv_iadd hx hb dX4_byTurns_72 ?_
              refine lv_topi (fun x_42 _ => ?_)
              refine lv_icmp_le (tgt := 79) hx hb dX4_byTurns_73 (by decide) (fun c_43 => ?_) (fun c_43 => ?_)
              · skip
                have i_43 : x_39.toInt ≤ x_42.toInt := by have h9 := pz_le c_43; exact h9
                obtain ⟨y_44, ey_44⟩ : ∃ y : Int32, y = (nI j) + 1 := ⟨_, rfl⟩
                refine lv_iinc (v := y_44) (lv' := [(5, .int y_44), (4, .int x_33), (0, .ref h0), (1, .int a1), (2, .int a2), (3, .int (nI q))]) hx hb dX4_byTurns_79 hl (k := 5) rfl (by rw [ey_44]; rfl) (by decide) rfl (fun ls hl => ?_)
                obtain rfl : y_44 = nI (j + 1) := ey_44.trans (nI_1 j)
                have en_45 : (nI (j + 1)).toInt = ((j + 1 : Nat) : Int) := pz_ti (by omega)
                refine lv_goto (tgt := 8) hx hb dX4_byTurns_82 (by decide) ?_
                exact ih_B8 _ (by omega) (j + 1) (nI q) x_33 _ _ ls rfl (by omega) (Or.inr ⟨_, by omega, rfl⟩) hW hS (lv_sub hl [2, 3, 4, 5, 1, 0] rfl)
              · skip
                have i_43 : x_39.toInt > x_42.toInt := by have h9 := pz_nle c_43; exact h9
                refine lv_iload hx hb dX4_byTurns_76 (lv_at hl 5 rfl) ?_
                refine lv_istore_n (lv' := [(3, .int (nI j)), (4, .int x_33), (0, .ref h0), (1, .int a1), (2, .int a2), (5, .int (nI j))]) hx hb dX4_byTurns_78 rfl hl (by decide) rfl (fun ls hl => ?_)
                obtain ⟨y_46, ey_46⟩ : ∃ y : Int32, y = (nI j) + 1 := ⟨_, rfl⟩
                refine lv_iinc (v := y_46) (lv' := [(5, .int y_46), (3, .int (nI j)), (4, .int x_33), (0, .ref h0), (1, .int a1), (2, .int a2)]) hx hb dX4_byTurns_79 hl (k := 5) rfl (by rw [ey_46]; rfl) (by decide) rfl (fun ls hl => ?_)
                obtain rfl : y_46 = nI (j + 1) := ey_46.trans (nI_1 j)
                have en_47 : (nI (j + 1)).toInt = ((j + 1 : Nat) : Int) := pz_ti (by omega)
                refine lv_goto (tgt := 8) hx hb dX4_byTurns_82 (by decide) ?_
                exact ih_B8 _ (by omega) (j + 1) (nI j) x_33 _ _ ls rfl (by omega) (Or.inr ⟨_, by omega, rfl⟩) hW hS (lv_sub hl [3, 4, 5, 1, 2, 0] rfl)
          · skip
            have i_31 : ((a1 >>> ((nI j) &&& 31)) &&& 1).toInt = 0 := by have h9 := pz_eq c_31; exact h9
            refine lv_goto (tgt := 79) hx hb dX4_byTurns_26 (by decide) ?_
            obtain ⟨y_48, ey_48⟩ : ∃ y : Int32, y = (nI j) + 1 := ⟨_, rfl⟩
            refine lv_iinc (v := y_48) (lv' := [(5, .int y_48), (0, .ref h0), (1, .int a1), (2, .int a2), (3, .int (nI q)), (4, .int l4)]) hx hb dX4_byTurns_79 hl (k := 5) rfl (by rw [ey_48]; rfl) (by decide) rfl (fun ls hl => ?_)
            obtain rfl : y_48 = nI (j + 1) := ey_48.trans (nI_1 j)
            have en_49 : (nI (j + 1)).toInt = ((j + 1 : Nat) : Int) := pz_ti (by omega)
            refine lv_goto (tgt := 8) hx hb dX4_byTurns_82 (by decide) ?_
            exact ih_B8 _ (by omega) (j + 1) (nI q) l4 _ _ ls rfl (by omega) (Or.inr ⟨_, by omega, rfl⟩) hW hS (lv_sub hl [1, 2, 3, 4, 5, 0] rfl)
  exact loop_B8 _ 0 (-1) 0 _ _ ls rfl (by omega) (Or.inl ⟨rfl, fun s h => absurd h (Nat.not_lt_zero s)⟩) hW hS (lv_sub hl [3, 4, 5, 2, 1, 0] rfl)

abbrev B_q_X4_picked (dC : Nat → ClassId) (dI : Nat → Nat → Nat) (h0 : Nat) (R : Nat → Nat) (A : Nat → Prop) (V : Nat → Int32) (G : Nat → Nat → Int32) (ns : Nat) (a1 : Int32) (a2 : Int32) (a3 : Int32) : Option Value → Heap → Prop := fun v H => ∃ (r : Int32) (q : Nat), v = some (.int r) ∧ (q < ns ∧ r = nI q) ∧ Mw dC dI h0 R A V G H
set_option maxHeartbeats 8000000 in
set_option maxRecDepth 20000 in
theorem q_X4_picked (l : Launch) (dC : Nat → ClassId) (dI : Nat → Nat → Nat) (h0 : Nat) (R : Nat → Nat) (A : Nat → Prop) (V : Nat → Int32) (G : Nat → Nat → Int32) (ns : Nat) (a1 : Int32) (a2 : Int32) (a3 : Int32) (hV2 : V 2 = nI ns) (hns : ns ≤ 8) (hbit : ∃ s, s < ns ∧ gBit a1 s) : Met l yX4_picked (cws yX4_picked cX4_picked 4 (some .int)) { frames := 2, cells := 0, slots := 0, locals := 48 } (va_Pc [.ref h0, .int a1, .int a2, .int a3] (fun U => Kt dC dI U ∧ Mw dC dI h0 R A V G U.heap)) (Qg (B_q_X4_picked dC dI h0 R A V G ns a1 a2 a3) A) 0 0 A := by
  refine m_start (KK := Kt dC dI) (Pw := Mw dC dI h0 R A V G) (by decide) (Nat.le_of_ble_eq_true rfl) ?_
  intro p e s m below meth c ls S hr hlocks hin hK hW hS hl
  obtain ⟨hx, hb, hml, hown, hts⟩ := id S
  have hl : lv_has ls 4 [(0, .ref h0), (1, .int a1), (2, .int a2), (3, .int a3)] := hl
  have en_s : (nI ns).toInt = ((ns : Nat) : Int) := pz_ti (by omega)
  refine lv_aload_n hx hb dX4_picked_0 rfl (lv_at hl 0 rfl) ?_
  refine M_g4 S hK hW dX4_picked_1 (fun x_1 hx_1 => ?_)
  by_cases t_2 : x_1.toInt < 0 ∨ 2 < x_1.toInt
  · skip
    refine lv_tableOut (tgt := 52) hx hb dX4_picked_4 t_2 (by decide) ?_
    refine lv_aload_n hx hb dX4_picked_52 rfl (lv_at hl 0 rfl) ?_
    refine lv_iload_n hx hb dX4_picked_53 rfl (lv_at hl 1 rfl) ?_
    refine lv_iload_n hx hb dX4_picked_54 rfl (lv_at hl 2 rfl) ?_
    refine c_v (n := 2) (As := [.int a1, .int a2]) (rest := []) S (q_X4_near l dC dI h0 R A V G ns a1 a2 hV2 (by omega) hbit) iw_861 iw_858 iw_860 iw_41 iw_61 (by decide +kernel) rfl ⟨rfl, rfl, Nat.le_of_ble_eq_true rfl, Nat.le_of_ble_eq_true rfl⟩ Kt.blind (M_recv hK hW) hK.at hW hl.1 rfl (Nat.le_of_ble_eq_true rfl) dX4_picked_55 ⟨Nat.le_refl _, Nat.le_refl _⟩ hS (fun _ h9 => h9) (fun v9 H locs hB hz9 hk9 hS => ?_)
    refine W.widen (k := 0) (n := 0) (Nat.le_refl 0) (Nat.le_refl 0) ?_
    obtain ⟨r_3, q_3, rfl, ⟨hq_3, rfl⟩, hW⟩ := hB
    refine W.eq (g2 := F0 m 58 ls [.int (nI q_3)]) rfl ?_
    have en_4 : (nI q_3).toInt = ((q_3 : Nat) : Int) := pz_ti (by omega)
    exact r_i (v := (nI q_3)) hx hb hr hlocks hS dX4_picked_58 (⟨_, _, rfl, ⟨by omega, rfl⟩, hW⟩)
  · skip
    obtain ⟨j_2, hj_2, ej_2⟩ := pz_of (x := x_1) (n := 3) (by omega) (by omega)
    have oj_2 : j_2 = 0 ∨ j_2 = 1 ∨ j_2 = 2 := by omega
    rcases oj_2 with h9 | h9 | h9
    · skip
      have e9 : x_1 = 0 := by rw [ej_2, h9]; rfl
      subst e9
      refine lv_tableIn (off := 28) (tgt := 32) hx hb dX4_picked_4 (by decide) (by decide) (by decide) (by decide) ?_
      refine lv_aload_n hx hb dX4_picked_32 rfl (lv_at hl 0 rfl) ?_
      refine lv_iload_n hx hb dX4_picked_33 rfl (lv_at hl 1 rfl) ?_
      refine lv_iload_n hx hb dX4_picked_34 rfl (lv_at hl 3 rfl) ?_
      refine c_v (n := 2) (As := [.int a1, .int a3]) (rest := []) S (q_X4_byTurns l dC dI h0 R A V G ns a1 a3 hV2 (by omega) hbit) iw_845 iw_842 iw_844 iw_38 iw_61 (by decide +kernel) rfl ⟨rfl, rfl, Nat.le_of_ble_eq_true rfl, Nat.le_of_ble_eq_true rfl⟩ Kt.blind (M_recv hK hW) hK.at hW hl.1 rfl (Nat.le_of_ble_eq_true rfl) dX4_picked_35 ⟨Nat.le_refl _, Nat.le_refl _⟩ hS (fun _ h9 => h9) (fun v9 H locs hB hz9 hk9 hS => ?_)
      refine W.widen (k := 0) (n := 0) (Nat.le_refl 0) (Nat.le_refl 0) ?_
      obtain ⟨r_5, q_5, rfl, ⟨hq_5, rfl⟩, hW⟩ := hB
      refine W.eq (g2 := F0 m 38 ls [.int (nI q_5)]) rfl ?_
      have en_6 : (nI q_5).toInt = ((q_5 : Nat) : Int) := pz_ti (by omega)
      exact r_i (v := (nI q_5)) hx hb hr hlocks hS dX4_picked_38 (⟨_, _, rfl, ⟨by omega, rfl⟩, hW⟩)
    · skip
      have e9 : x_1 = 1 := by rw [ej_2, h9]; rfl
      subst e9
      refine lv_tableIn (off := 35) (tgt := 39) hx hb dX4_picked_4 (by decide) (by decide) (by decide) (by decide) ?_
      refine lv_aload_n hx hb dX4_picked_39 rfl (lv_at hl 0 rfl) ?_
      refine lv_iload_n hx hb dX4_picked_40 rfl (lv_at hl 1 rfl) ?_
      refine c_v (n := 1) (As := [.int a1]) (rest := []) S (q_X4_fewest l dC dI h0 R A V G ns a1 hV2 (by omega) hbit) iw_849 iw_846 iw_848 iw_39 iw_61 (by decide +kernel) rfl ⟨rfl, rfl, Nat.le_of_ble_eq_true rfl, Nat.le_of_ble_eq_true rfl⟩ Kt.blind (M_recv hK hW) hK.at hW hl.1 rfl (Nat.le_of_ble_eq_true rfl) dX4_picked_41 ⟨Nat.le_refl _, Nat.le_refl _⟩ hS (fun _ h9 => h9) (fun v9 H locs hB hz9 hk9 hS => ?_)
      refine W.widen (k := 0) (n := 0) (Nat.le_refl 0) (Nat.le_refl 0) ?_
      obtain ⟨r_7, q_7, rfl, ⟨hq_7, rfl⟩, hW⟩ := hB
      refine W.eq (g2 := F0 m 44 ls [.int (nI q_7)]) rfl ?_
      have en_8 : (nI q_7).toInt = ((q_7 : Nat) : Int) := pz_ti (by omega)
      exact r_i (v := (nI q_7)) hx hb hr hlocks hS dX4_picked_44 (⟨_, _, rfl, ⟨by omega, rfl⟩, hW⟩)
    · skip
      have e9 : x_1 = 2 := by rw [ej_2, h9]; rfl
      subst e9
      refine lv_tableIn (off := 41) (tgt := 45) hx hb dX4_picked_4 (by decide) (by decide) (by decide) (by decide) ?_
      refine lv_aload_n hx hb dX4_picked_45 rfl (lv_at hl 0 rfl) ?_
      refine lv_iload_n hx hb dX4_picked_46 rfl (lv_at hl 1 rfl) ?_
      refine lv_iload_n hx hb dX4_picked_47 rfl (lv_at hl 2 rfl) ?_
      refine c_v (n := 2) (As := [.int a1, .int a2]) (rest := []) S (q_X4_onRing l dC dI h0 R A V G ns a1 a2 hV2 (by omega) hbit) iw_853 iw_850 iw_852 iw_40 iw_61 (by decide +kernel) rfl ⟨rfl, rfl, Nat.le_of_ble_eq_true rfl, Nat.le_of_ble_eq_true rfl⟩ Kt.blind (M_recv hK hW) hK.at hW hl.1 rfl (Nat.le_of_ble_eq_true rfl) dX4_picked_48 ⟨Nat.le_refl _, Nat.le_refl _⟩ hS (fun _ h9 => h9) (fun v9 H locs hB hz9 hk9 hS => ?_)
      refine W.widen (k := 0) (n := 0) (Nat.le_refl 0) (Nat.le_refl 0) ?_
      obtain ⟨r_9, q_9, rfl, ⟨hq_9, rfl⟩, hW⟩ := hB
      refine W.eq (g2 := F0 m 51 ls [.int (nI q_9)]) rfl ?_
      have en_10 : (nI q_9).toInt = ((q_9 : Nat) : Int) := pz_ti (by omega)
      exact r_i (v := (nI q_9)) hx hb hr hlocks hS dX4_picked_51 (⟨_, _, rfl, ⟨by omega, rfl⟩, hW⟩)

abbrev B_q_X4_ask (dC : Nat → ClassId) (dI : Nat → Nat → Nat) (h0 : Nat) (R : Nat → Nat) (A : Nat → Prop) (V : Nat → Int32) (G : Nat → Nat → Int32) (cj : Nat) (sj : Nat) (nq : Nat) : Option Value → Heap → Prop := fun v H => ∃ G1 : Nat → Nat → Int32, v = none ∧ G1 37 = upd (G 37) (2 * cj + nq) (nI sj) ∧ G1 31 = upd (G 31) cj (nI (nq + 1)) ∧ G1 30 = upd (G 30) cj 1 ∧ (∀ j, j ≠ 37 → j ≠ 31 → j ≠ 30 → G1 j = G j) ∧ Mw dC dI h0 R A V G1 H
set_option maxHeartbeats 8000000 in
set_option maxRecDepth 20000 in
theorem q_X4_ask (l : Launch) (dC : Nat → ClassId) (dI : Nat → Nat → Nat) (h0 : Nat) (R : Nat → Nat) (A : Nat → Prop) (V : Nat → Int32) (G : Nat → Nat → Int32) (cj : Nat) (sj : Nat) (nq : Nat) (hcj : cj < 200) (hsj : sj < 8) (hnq : nq ≤ 1) (hka : G 31 cj = nI nq) : Met l yX4_ask (cws yX4_ask cX4_ask 4 none) { frames := 0, cells := 0, slots := 0, locals := 0 } (va_Pc [.ref h0, .int (nI cj), .int (nI sj)] (fun U => Kt dC dI U ∧ Mw dC dI h0 R A V G U.heap)) (Qg (B_q_X4_ask dC dI h0 R A V G cj sj nq) A) 0 0 A := by
  refine m_start (KK := Kt dC dI) (Pw := Mw dC dI h0 R A V G) (by decide) (Nat.le_of_ble_eq_true rfl) ?_
  intro p e s m below meth c ls S hr hlocks hin hK hW hS hl
  obtain ⟨hx, hb, hml, hown, hts⟩ := id S
  have hl : lv_has ls 4 [(0, .ref h0), (1, .int (nI cj)), (2, .int (nI sj))] := hl
  refine lv_aload_n hx hb dX4_ask_0 rfl (lv_at hl 0 rfl) ?_
  refine M_g19 S hK hW dX4_ask_1 ?_
  refine lv_iload_n hx hb dX4_ask_4 rfl (lv_at hl 2 rfl) ?_
  refine lv_dup2_11 hx hb dX4_ask_5 rfl rfl ?_
  refine mw_ld S hK hW 19 rfl rfl (pz_vi (n := mN 19) (by rw [show mN 19 = 8 from rfl]; omega) (by decide)) dX4_ask_6 (fun x_1 hx_1 => ?_)
  refine lv_iconst (v := 1) hx hb dX4_ask_7 (by decide) ?_
  refine lv_iadd hx hb dX4_ask_8 ?_
  refine lv_topi (fun x_2 _ => ?_)
  refine mw_su S hK hW hS 19 rfl rfl rfl (pz_vi (n := mN 19) (by rw [show mN 19 = 8 from rfl]; omega) (by decide)) dX4_ask_9 (fun H locs hW hS => ?_)
  refine lv_aload_n hx hb dX4_ask_10 rfl (lv_at hl 0 rfl) ?_
  refine lv_dup hx hb dX4_ask_11 rfl ?_
  refine M_g8 S hK hW dX4_ask_12 (fun x_3 => ?_)
  refine lv_iconst (v := 1) hx hb dX4_ask_15 (by decide) ?_
  refine lv_iadd hx hb dX4_ask_16 ?_
  refine lv_topi (fun x_4 _ => ?_)
  refine M_p8 S hK hW hS dX4_ask_17 (fun H locs hW hS => ?_)
  refine lv_aload_n hx hb dX4_ask_20 rfl (lv_at hl 0 rfl) ?_
  refine M_g18 S hK hW dX4_ask_21 ?_
  refine lv_iload_n hx hb dX4_ask_24 rfl (lv_at hl 2 rfl) ?_
  refine lv_dup2_11 hx hb dX4_ask_25 rfl rfl ?_
  refine mw_ld S hK hW 18 rfl rfl (pz_vi (n := mN 18) (by rw [show mN 18 = 8 from rfl]; omega) (by decide)) dX4_ask_26 (fun x_5 hx_5 => ?_)
  refine lv_iconst (v := 1) hx hb dX4_ask_27 (by decide) ?_
  refine lv_iadd hx hb dX4_ask_28 ?_
  refine lv_topi (fun x_6 _ => ?_)
  refine mw_su S hK hW hS 18 rfl rfl rfl (pz_vi (n := mN 18) (by rw [show mN 18 = 8 from rfl]; omega) (by decide)) dX4_ask_29 (fun H locs hW hS => ?_)
  refine lv_iconst (v := 2) hx hb dX4_ask_30 (by decide) ?_
  refine lv_iload_n hx hb dX4_ask_31 rfl (lv_at hl 1 rfl) ?_
  refine lv_imul hx hb dX4_ask_32 ?_
  refine lv_topi (fun x_7 ex_7 => ?_)
  obtain rfl : x_7 = nI (2 * cj) := ex_7.trans (pk_mul 2 cj)
  have en_8 : (nI (2 * cj)).toInt = ((2 * cj : Nat) : Int) := pz_ti (by omega)
  refine lv_aload_n hx hb dX4_ask_33 rfl (lv_at hl 0 rfl) ?_
  refine M_g31 S hK hW dX4_ask_34 ?_
  refine lv_iload_n hx hb dX4_ask_37 rfl (lv_at hl 1 rfl) ?_
  refine mw_ld S hK hW 31 rfl rfl (pz_vi (n := mN 31) (by rw [show mN 31 = 200 from rfl]; omega) (by decide)) dX4_ask_38 (fun x_9 hx_9 => ?_)
  replace hx_9 : x_9 = G 31 cj := (hx_9 rfl).trans (congrArg _ (pz_cl (by omega)))
  obtain rfl : x_9 = nI nq := hx_9.trans ((congrFun rfl cj).trans hka)
  refine lv_iadd hx hb dX4_ask_39 ?_
  refine lv_topi (fun x_10 ex_10 => ?_)
  obtain rfl : x_10 = nI ((2 * cj) + nq) := ex_10.trans (nI_add (2 * cj) nq)
  have en_11 : (nI ((2 * cj) + nq)).toInt = (((2 * cj) + nq : Nat) : Int) := pz_ti (by omega)
  refine lv_istore_n (lv' := [(3, .int (nI ((2 * cj) + nq))), (0, .ref h0), (1, .int (nI cj)), (2, .int (nI sj))]) hx hb dX4_ask_40 rfl hl (by decide) rfl (fun ls hl => ?_)
  refine lv_aload_n hx hb dX4_ask_41 rfl (lv_at hl 1 rfl) ?_
  refine M_g37 S hK hW dX4_ask_42 ?_
  refine lv_iload_n hx hb dX4_ask_45 rfl (lv_at hl 0 rfl) ?_
  refine lv_iload_n hx hb dX4_ask_46 rfl (lv_at hl 3 rfl) ?_
  refine mw_st S hK hW hS 37 rfl rfl (pz_vi (n := mN 37) (by rw [show mN 37 = 400 from rfl]; omega) (by decide)) dX4_ask_47 (fun H locs G_12 g1_12 g2_12 hW hS => ?_)
  rw [pz_cl (by omega)] at g1_12
  refine lv_aload_n hx hb dX4_ask_48 rfl (lv_at hl 1 rfl) ?_
  refine M_g38 S hK hW dX4_ask_49 ?_
  refine lv_iload_n hx hb dX4_ask_52 rfl (lv_at hl 0 rfl) ?_
  refine lv_aload_n hx hb dX4_ask_53 rfl (lv_at hl 1 rfl) ?_
  refine M_g1 S hK hW dX4_ask_54 (fun x_13 => ?_)
  refine mw_su S hK hW hS 38 rfl rfl rfl (pz_vi (n := mN 38) (by rw [show mN 38 = 400 from rfl]; omega) (by decide)) dX4_ask_57 (fun H locs hW hS => ?_)
  refine lv_aload_n hx hb dX4_ask_58 rfl (lv_at hl 1 rfl) ?_
  refine M_g39 S hK hW dX4_ask_59 ?_
  refine lv_iload_n hx hb dX4_ask_62 rfl (lv_at hl 0 rfl) ?_
  refine lv_aload_n hx hb dX4_ask_63 rfl (lv_at hl 1 rfl) ?_
  refine M_g16 S hK hW dX4_ask_64 ?_
  refine lv_iload_n hx hb dX4_ask_67 rfl (lv_at hl 3 rfl) ?_
  refine mw_ld S hK hW 16 rfl rfl (pz_vi (n := mN 16) (by rw [show mN 16 = 8 from rfl]; omega) (by decide)) dX4_ask_68 (fun x_14 hx_14 => ?_)
  refine lv_iconst (v := 1) hx hb dX4_ask_69 (by decide) ?_
  refine lv_icmp_ne (tgt := 78) hx hb dX4_ask_70 (by decide) (fun c_15 => ?_) (fun c_15 => ?_)
  · skip
    have i_15 : ¬ x_14.toInt = 1 := by have h9 := pz_neq c_15; exact h9
    refine lv_aload_n hx hb dX4_ask_78 rfl (lv_at hl 1 rfl) ?_
    refine M_g1 S hK hW dX4_ask_79 (fun x_16 => ?_)
    refine lv_aload_n hx hb dX4_ask_82 rfl (lv_at hl 1 rfl) ?_
    refine M_g14 S hK hW dX4_ask_83 ?_
    refine lv_iload_n hx hb dX4_ask_86 rfl (lv_at hl 3 rfl) ?_
    refine mw_ld S hK hW 14 rfl rfl (pz_vi (n := mN 14) (by rw [show mN 14 = 8 from rfl]; omega) (by decide)) dX4_ask_87 (fun x_17 hx_17 => ?_)
    refine lv_iadd hx hb dX4_ask_88 ?_
    refine lv_topi (fun x_18 _ => ?_)
    refine mw_su S hK hW hS 39 rfl rfl rfl (pz_vi (n := mN 39) (by rw [show mN 39 = 400 from rfl]; omega) (by decide)) dX4_ask_89 (fun H locs hW hS => ?_)
    refine lv_aload_n hx hb dX4_ask_90 rfl (lv_at hl 1 rfl) ?_
    refine M_g40 S hK hW dX4_ask_91 ?_
    refine lv_iload_n hx hb dX4_ask_94 rfl (lv_at hl 0 rfl) ?_
    refine lv_aload_n hx hb dX4_ask_95 rfl (lv_at hl 1 rfl) ?_
    obtain ⟨f_19, hf_19, -⟩ := hW.2.2 15 rfl
    refine M_g15 S hK hW dX4_ask_96 ?_
    refine lv_iload_n hx hb dX4_ask_99 rfl (lv_at hl 3 rfl) ?_
    refine x_iald (n := mN 15) (f := f_19) hx hb hK hf_19 (pz_vi (n := mN 15) (by rw [show mN 15 = 8 from rfl]; omega) (by decide)) dX4_ask_100 ?_
    refine lv_if_le (tgt := 124) hx hb dX4_ask_101 (by decide) (fun c_21 => ?_) (fun c_21 => ?_)
    · skip
      have i_21 : (f_19 (nI sj).toNatClampNeg).toInt ≤ 0 := by have h9 := pz_le c_21; exact h9
      refine lv_iconst (v := 0) hx hb dX4_ask_124 (by decide) ?_
      refine mw_sz S hK hW hS 40 rfl rfl rfl (pz_vi (n := mN 40) (by rw [show mN 40 = 400 from rfl]; omega) (by decide)) dX4_ask_125 (fun H locs hW hS => ?_)
      refine lv_aload_n hx hb dX4_ask_126 rfl (lv_at hl 1 rfl) ?_
      refine M_g31 S hK hW dX4_ask_127 ?_
      refine lv_iload_n hx hb dX4_ask_130 rfl (lv_at hl 2 rfl) ?_
      refine lv_dup2_11 hx hb dX4_ask_131 rfl rfl ?_
      refine mw_ld S hK hW 31 rfl rfl (pz_vi (n := mN 31) (by rw [show mN 31 = 200 from rfl]; omega) (by decide)) dX4_ask_132 (fun x_22 hx_22 => ?_)
      replace hx_22 : x_22 = G_12 31 cj := (hx_22 rfl).trans (congrArg _ (pz_cl (by omega)))
      obtain rfl : x_22 = nI nq := hx_22.trans ((congrFun (g2_12 31 (by decide)) cj).trans hka)
      refine lv_iconst (v := 1) hx hb dX4_ask_133 (by decide) ?_
      refine lv_iadd hx hb dX4_ask_134 ?_
      refine lv_topi (fun x_23 ex_23 => ?_)
      obtain rfl : x_23 = nI (nq + 1) := ex_23.trans (nI_add nq 1)
      have en_24 : (nI (nq + 1)).toInt = ((nq + 1 : Nat) : Int) := pz_ti (by omega)
      refine mw_st S hK hW hS 31 rfl rfl (pz_vi (n := mN 31) (by rw [show mN 31 = 200 from rfl]; omega) (by decide)) dX4_ask_135 (fun H locs G_25 g1_25 g2_25 hW hS => ?_)
      rw [pz_cl (by omega)] at g1_25
      refine lv_aload_n hx hb dX4_ask_136 rfl (lv_at hl 1 rfl) ?_
      refine M_g32 S hK hW dX4_ask_137 ?_
      refine lv_iload_n hx hb dX4_ask_140 rfl (lv_at hl 2 rfl) ?_
      refine lv_dup2_11 hx hb dX4_ask_141 rfl rfl ?_
      refine mw_ld S hK hW 32 rfl rfl (pz_vi (n := mN 32) (by rw [show mN 32 = 200 from rfl]; omega) (by decide)) dX4_ask_142 (fun x_26 hx_26 => ?_)
      refine lv_iconst (v := 1) hx hb dX4_ask_143 (by decide) ?_
      refine lv_iload_n hx hb dX4_ask_144 rfl (lv_at hl 3 rfl) ?_
      refine lv_ishl hx hb dX4_ask_145 ?_
      refine lv_topi (fun x_27 _ => ?_)
      refine lv_ior hx hb dX4_ask_146 ?_
      refine lv_topi (fun x_28 _ => ?_)
      refine mw_su S hK hW hS 32 rfl rfl rfl (pz_vi (n := mN 32) (by rw [show mN 32 = 200 from rfl]; omega) (by decide)) dX4_ask_147 (fun H locs hW hS => ?_)
      refine lv_aload_n hx hb dX4_ask_148 rfl (lv_at hl 1 rfl) ?_
      refine M_g30 S hK hW dX4_ask_149 ?_
      refine lv_iload_n hx hb dX4_ask_152 rfl (lv_at hl 2 rfl) ?_
      refine lv_iconst (v := 1) hx hb dX4_ask_153 (by decide) ?_
      refine mw_st S hK hW hS 30 rfl rfl (pz_vi (n := mN 30) (by rw [show mN 30 = 200 from rfl]; omega) (by decide)) dX4_ask_154 (fun H locs G_29 g1_29 g2_29 hW hS => ?_)
      rw [pz_cl (by omega)] at g1_29
      exact r_v hx hb hr hlocks hS dX4_ask_155 (⟨_, rfl, (g2_29 37 (by decide)).trans ((g2_25 37 (by decide)).trans g1_12), by rw [g2_29 31 (by decide), g1_25, g2_12 31 (by decide)], by rw [g1_29, g2_25 30 (by decide), g2_12 30 (by decide)], fun j h1 h2 h3 => by rw [g2_29 j h3, g2_25 j h2, g2_12 j h1], hW⟩)
    · skip
      have i_21 : (f_19 (nI sj).toNatClampNeg).toInt > 0 := by have h9 := pz_nle c_21; exact h9
      refine lv_aload_n hx hb dX4_ask_104 rfl (lv_at hl 1 rfl) ?_
      refine M_g19 S hK hW dX4_ask_105 ?_
      refine lv_iload_n hx hb dX4_ask_108 rfl (lv_at hl 3 rfl) ?_
      refine mw_ld S hK hW 19 rfl rfl (pz_vi (n := mN 19) (by rw [show mN 19 = 8 from rfl]; omega) (by decide)) dX4_ask_109 (fun x_30 hx_30 => ?_)
      refine lv_aload_n hx hb dX4_ask_110 rfl (lv_at hl 1 rfl) ?_
      refine M_g15 S hK hW dX4_ask_111 ?_
      refine lv_iload_n hx hb dX4_ask_114 rfl (lv_at hl 3 rfl) ?_
      refine x_iald (n := mN 15) (f := f_19) hx hb hK hf_19 (pz_vi (n := mN 15) (by rw [show mN 15 = 8 from rfl]; omega) (by decide)) dX4_ask_115 ?_
      refine lv_irem hx hb dX4_ask_116 (pz_posne c_21) ?_
      refine lv_topi (fun x_32 _ => ?_)
      refine lv_if_ne (tgt := 124) hx hb dX4_ask_117 (by decide) (fun c_33 => ?_) (fun c_33 => ?_)
      · skip
        have i_33 : ¬ x_32.toInt = 0 := by have h9 := pz_neq c_33; exact h9
        refine lv_iconst (v := 0) hx hb dX4_ask_124 (by decide) ?_
        refine mw_sz S hK hW hS 40 rfl rfl rfl (pz_vi (n := mN 40) (by rw [show mN 40 = 400 from rfl]; omega) (by decide)) dX4_ask_125 (fun H locs hW hS => ?_)
        refine lv_aload_n hx hb dX4_ask_126 rfl (lv_at hl 1 rfl) ?_
        refine M_g31 S hK hW dX4_ask_127 ?_
        refine lv_iload_n hx hb dX4_ask_130 rfl (lv_at hl 2 rfl) ?_
        refine lv_dup2_11 hx hb dX4_ask_131 rfl rfl ?_
        refine mw_ld S hK hW 31 rfl rfl (pz_vi (n := mN 31) (by rw [show mN 31 = 200 from rfl]; omega) (by decide)) dX4_ask_132 (fun x_34 hx_34 => ?_)
        replace hx_34 : x_34 = G_12 31 cj := (hx_34 rfl).trans (congrArg _ (pz_cl (by omega)))
        obtain rfl : x_34 = nI nq := hx_34.trans ((congrFun (g2_12 31 (by decide)) cj).trans hka)
        refine lv_iconst (v := 1) hx hb dX4_ask_133 (by decide) ?_
        refine lv_iadd hx hb dX4_ask_134 ?_
        refine lv_topi (fun x_35 ex_35 => ?_)
        obtain rfl : x_35 = nI (nq + 1) := ex_35.trans (nI_add nq 1)
        have en_36 : (nI (nq + 1)).toInt = ((nq + 1 : Nat) : Int) := pz_ti (by omega)
        refine mw_st S hK hW hS 31 rfl rfl (pz_vi (n := mN 31) (by rw [show mN 31 = 200 from rfl]; omega) (by decide)) dX4_ask_135 (fun H locs G_37 g1_37 g2_37 hW hS => ?_)
        rw [pz_cl (by omega)] at g1_37
        refine lv_aload_n hx hb dX4_ask_136 rfl (lv_at hl 1 rfl) ?_
        refine M_g32 S hK hW dX4_ask_137 ?_
        refine lv_iload_n hx hb dX4_ask_140 rfl (lv_at hl 2 rfl) ?_
        refine lv_dup2_11 hx hb dX4_ask_141 rfl rfl ?_
        refine mw_ld S hK hW 32 rfl rfl (pz_vi (n := mN 32) (by rw [show mN 32 = 200 from rfl]; omega) (by decide)) dX4_ask_142 (fun x_38 hx_38 => ?_)
        refine lv_iconst (v := 1) hx hb dX4_ask_143 (by decide) ?_
        refine lv_iload_n hx hb dX4_ask_144 rfl (lv_at hl 3 rfl) ?_
        refine lv_ishl hx hb dX4_ask_145 ?_
        refine lv_topi (fun x_39 _ => ?_)
        refine lv_ior hx hb dX4_ask_146 ?_
        refine lv_topi (fun x_40 _ => ?_)
        refine mw_su S hK hW hS 32 rfl rfl rfl (pz_vi (n := mN 32) (by rw [show mN 32 = 200 from rfl]; omega) (by decide)) dX4_ask_147 (fun H locs hW hS => ?_)
        refine lv_aload_n hx hb dX4_ask_148 rfl (lv_at hl 1 rfl) ?_
        refine M_g30 S hK hW dX4_ask_149 ?_
        refine lv_iload_n hx hb dX4_ask_152 rfl (lv_at hl 2 rfl) ?_
        refine lv_iconst (v := 1) hx hb dX4_ask_153 (by decide) ?_
        refine mw_st S hK hW hS 30 rfl rfl (pz_vi (n := mN 30) (by rw [show mN 30 = 200 from rfl]; omega) (by decide)) dX4_ask_154 (fun H locs G_41 g1_41 g2_41 hW hS => ?_)
        rw [pz_cl (by omega)] at g1_41
        exact r_v hx hb hr hlocks hS dX4_ask_155 (⟨_, rfl, (g2_41 37 (by decide)).trans ((g2_37 37 (by decide)).trans g1_12), by rw [g2_41 31 (by decide), g1_37, g2_12 31 (by decide)], by rw [g1_41, g2_37 30 (by decide), g2_12 30 (by decide)], fun j h1 h2 h3 => by rw [g2_41 j h3, g2_37 j h2, g2_12 j h1], hW⟩)
      · skip
        have i_33 : x_32.toInt = 0 := by have h9 := pz_eq c_33; exact h9
        refine lv_iconst (v := 1) hx hb dX4_ask_120 (by decide) ?_
        refine lv_goto (tgt := 125) hx hb dX4_ask_121 (by decide) ?_
        refine mw_sz S hK hW hS 40 rfl rfl rfl (pz_vi (n := mN 40) (by rw [show mN 40 = 400 from rfl]; omega) (by decide)) dX4_ask_125 (fun H locs hW hS => ?_)
        refine lv_aload_n hx hb dX4_ask_126 rfl (lv_at hl 1 rfl) ?_
        refine M_g31 S hK hW dX4_ask_127 ?_
        refine lv_iload_n hx hb dX4_ask_130 rfl (lv_at hl 2 rfl) ?_
        refine lv_dup2_11 hx hb dX4_ask_131 rfl rfl ?_
        refine mw_ld S hK hW 31 rfl rfl (pz_vi (n := mN 31) (by rw [show mN 31 = 200 from rfl]; omega) (by decide)) dX4_ask_132 (fun x_42 hx_42 => ?_)
        replace hx_42 : x_42 = G_12 31 cj := (hx_42 rfl).trans (congrArg _ (pz_cl (by omega)))
        obtain rfl : x_42 = nI nq := hx_42.trans ((congrFun (g2_12 31 (by decide)) cj).trans hka)
        refine lv_iconst (v := 1) hx hb dX4_ask_133 (by decide) ?_
        refine lv_iadd hx hb dX4_ask_134 ?_
        refine lv_topi (fun x_43 ex_43 => ?_)
        obtain rfl : x_43 = nI (nq + 1) := ex_43.trans (nI_add nq 1)
        have en_44 : (nI (nq + 1)).toInt = ((nq + 1 : Nat) : Int) := pz_ti (by omega)
        refine mw_st S hK hW hS 31 rfl rfl (pz_vi (n := mN 31) (by rw [show mN 31 = 200 from rfl]; omega) (by decide)) dX4_ask_135 (fun H locs G_45 g1_45 g2_45 hW hS => ?_)
        rw [pz_cl (by omega)] at g1_45
        refine lv_aload_n hx hb dX4_ask_136 rfl (lv_at hl 1 rfl) ?_
        refine M_g32 S hK hW dX4_ask_137 ?_
        refine lv_iload_n hx hb dX4_ask_140 rfl (lv_at hl 2 rfl) ?_
        refine lv_dup2_11 hx hb dX4_ask_141 rfl rfl ?_
        refine mw_ld S hK hW 32 rfl rfl (pz_vi (n := mN 32) (by rw [show mN 32 = 200 from rfl]; omega) (by decide)) dX4_ask_142 (fun x_46 hx_46 => ?_)
        refine lv_iconst (v := 1) hx hb dX4_ask_143 (by decide) ?_
        refine lv_iload_n hx hb dX4_ask_144 rfl (lv_at hl 3 rfl) ?_
        refine lv_ishl hx hb dX4_ask_145 ?_
        refine lv_topi (fun x_47 _ => ?_)
        refine lv_ior hx hb dX4_ask_146 ?_
        refine lv_topi (fun x_48 _ => ?_)
        refine mw_su S hK hW hS 32 rfl rfl rfl (pz_vi (n := mN 32) (by rw [show mN 32 = 200 from rfl]; omega) (by decide)) dX4_ask_147 (fun H locs hW hS => ?_)
        refine lv_aload_n hx hb dX4_ask_148 rfl (lv_at hl 1 rfl) ?_
        refine M_g30 S hK hW dX4_ask_149 ?_
        refine lv_iload_n hx hb dX4_ask_152 rfl (lv_at hl 2 rfl) ?_
        refine lv_iconst (v := 1) hx hb dX4_ask_153 (by decide) ?_
        refine mw_st S hK hW hS 30 rfl rfl (pz_vi (n := mN 30) (by rw [show mN 30 = 200 from rfl]; omega) (by decide)) dX4_ask_154 (fun H locs G_49 g1_49 g2_49 hW hS => ?_)
        rw [pz_cl (by omega)] at g1_49
        exact r_v hx hb hr hlocks hS dX4_ask_155 (⟨_, rfl, (g2_49 37 (by decide)).trans ((g2_45 37 (by decide)).trans g1_12), by rw [g2_49 31 (by decide), g1_45, g2_12 31 (by decide)], by rw [g1_49, g2_45 30 (by decide), g2_12 30 (by decide)], fun j h1 h2 h3 => by rw [g2_49 j h3, g2_45 j h2, g2_12 j h1], hW⟩)
  · skip
    have i_15 : x_14.toInt = 1 := by have h9 := pz_eq c_15; exact h9
    refine lv_ldc hx hb hown (hts _ iw_866) dX4_ask_73 ?_
    refine lv_goto (tgt := 89) hx hb dX4_ask_75 (by decide) ?_
    refine mw_su S hK hW hS 39 rfl rfl rfl (pz_vi (n := mN 39) (by rw [show mN 39 = 400 from rfl]; omega) (by decide)) dX4_ask_89 (fun H locs hW hS => ?_)
    refine lv_aload_n hx hb dX4_ask_90 rfl (lv_at hl 1 rfl) ?_
    refine M_g40 S hK hW dX4_ask_91 ?_
    refine lv_iload_n hx hb dX4_ask_94 rfl (lv_at hl 0 rfl) ?_
    refine lv_aload_n hx hb dX4_ask_95 rfl (lv_at hl 1 rfl) ?_
    obtain ⟨f_50, hf_50, -⟩ := hW.2.2 15 rfl
    refine M_g15 S hK hW dX4_ask_96 ?_
    refine lv_iload_n hx hb dX4_ask_99 rfl (lv_at hl 3 rfl) ?_
    refine x_iald (n := mN 15) (f := f_50) hx hb hK hf_50 (pz_vi (n := mN 15) (by rw [show mN 15 = 8 from rfl]; omega) (by decide)) dX4_ask_100 ?_
    refine lv_if_le (tgt := 124) hx hb dX4_ask_101 (by decide) (fun c_52 => ?_) (fun c_52 => ?_)
    · skip
      have i_52 : (f_50 (nI sj).toNatClampNeg).toInt ≤ 0 := by have h9 := pz_le c_52; exact h9
      refine lv_iconst (v := 0) hx hb dX4_ask_124 (by decide) ?_
      refine mw_sz S hK hW hS 40 rfl rfl rfl (pz_vi (n := mN 40) (by rw [show mN 40 = 400 from rfl]; omega) (by decide)) dX4_ask_125 (fun H locs hW hS => ?_)
      refine lv_aload_n hx hb dX4_ask_126 rfl (lv_at hl 1 rfl) ?_
      refine M_g31 S hK hW dX4_ask_127 ?_
      refine lv_iload_n hx hb dX4_ask_130 rfl (lv_at hl 2 rfl) ?_
      refine lv_dup2_11 hx hb dX4_ask_131 rfl rfl ?_
      refine mw_ld S hK hW 31 rfl rfl (pz_vi (n := mN 31) (by rw [show mN 31 = 200 from rfl]; omega) (by decide)) dX4_ask_132 (fun x_53 hx_53 => ?_)
      replace hx_53 : x_53 = G_12 31 cj := (hx_53 rfl).trans (congrArg _ (pz_cl (by omega)))
      obtain rfl : x_53 = nI nq := hx_53.trans ((congrFun (g2_12 31 (by decide)) cj).trans hka)
      refine lv_iconst (v := 1) hx hb dX4_ask_133 (by decide) ?_
      refine lv_iadd hx hb dX4_ask_134 ?_
      refine lv_topi (fun x_54 ex_54 => ?_)
      obtain rfl : x_54 = nI (nq + 1) := ex_54.trans (nI_add nq 1)
      have en_55 : (nI (nq + 1)).toInt = ((nq + 1 : Nat) : Int) := pz_ti (by omega)
      refine mw_st S hK hW hS 31 rfl rfl (pz_vi (n := mN 31) (by rw [show mN 31 = 200 from rfl]; omega) (by decide)) dX4_ask_135 (fun H locs G_56 g1_56 g2_56 hW hS => ?_)
      rw [pz_cl (by omega)] at g1_56
      refine lv_aload_n hx hb dX4_ask_136 rfl (lv_at hl 1 rfl) ?_
      refine M_g32 S hK hW dX4_ask_137 ?_
      refine lv_iload_n hx hb dX4_ask_140 rfl (lv_at hl 2 rfl) ?_
      refine lv_dup2_11 hx hb dX4_ask_141 rfl rfl ?_
      refine mw_ld S hK hW 32 rfl rfl (pz_vi (n := mN 32) (by rw [show mN 32 = 200 from rfl]; omega) (by decide)) dX4_ask_142 (fun x_57 hx_57 => ?_)
      refine lv_iconst (v := 1) hx hb dX4_ask_143 (by decide) ?_
      refine lv_iload_n hx hb dX4_ask_144 rfl (lv_at hl 3 rfl) ?_
      refine lv_ishl hx hb dX4_ask_145 ?_
      refine lv_topi (fun x_58 _ => ?_)
      refine lv_ior hx hb dX4_ask_146 ?_
      refine lv_topi (fun x_59 _ => ?_)
      refine mw_su S hK hW hS 32 rfl rfl rfl (pz_vi (n := mN 32) (by rw [show mN 32 = 200 from rfl]; omega) (by decide)) dX4_ask_147 (fun H locs hW hS => ?_)
      refine lv_aload_n hx hb dX4_ask_148 rfl (lv_at hl 1 rfl) ?_
      refine M_g30 S hK hW dX4_ask_149 ?_
      refine lv_iload_n hx hb dX4_ask_152 rfl (lv_at hl 2 rfl) ?_
      refine lv_iconst (v := 1) hx hb dX4_ask_153 (by decide) ?_
      refine mw_st S hK hW hS 30 rfl rfl (pz_vi (n := mN 30) (by rw [show mN 30 = 200 from rfl]; omega) (by decide)) dX4_ask_154 (fun H locs G_60 g1_60 g2_60 hW hS => ?_)
      rw [pz_cl (by omega)] at g1_60
      exact r_v hx hb hr hlocks hS dX4_ask_155 (⟨_, rfl, (g2_60 37 (by decide)).trans ((g2_56 37 (by decide)).trans g1_12), by rw [g2_60 31 (by decide), g1_56, g2_12 31 (by decide)], by rw [g1_60, g2_56 30 (by decide), g2_12 30 (by decide)], fun j h1 h2 h3 => by rw [g2_60 j h3, g2_56 j h2, g2_12 j h1], hW⟩)
    · skip
      have i_52 : (f_50 (nI sj).toNatClampNeg).toInt > 0 := by have h9 := pz_nle c_52; exact h9
      refine lv_aload_n hx hb dX4_ask_104 rfl (lv_at hl 1 rfl) ?_
      refine M_g19 S hK hW dX4_ask_105 ?_
      refine lv_iload_n hx hb dX4_ask_108 rfl (lv_at hl 3 rfl) ?_
      refine mw_ld S hK hW 19 rfl rfl (pz_vi (n := mN 19) (by rw [show mN 19 = 8 from rfl]; omega) (by decide)) dX4_ask_109 (fun x_61 hx_61 => ?_)
      refine lv_aload_n hx hb dX4_ask_110 rfl (lv_at hl 1 rfl) ?_
      refine M_g15 S hK hW dX4_ask_111 ?_
      refine lv_iload_n hx hb dX4_ask_114 rfl (lv_at hl 3 rfl) ?_
      refine x_iald (n := mN 15) (f := f_50) hx hb hK hf_50 (pz_vi (n := mN 15) (by rw [show mN 15 = 8 from rfl]; omega) (by decide)) dX4_ask_115 ?_
      refine lv_irem hx hb dX4_ask_116 (pz_posne c_52) ?_
      refine lv_topi (fun x_63 _ => ?_)
      refine lv_if_ne (tgt := 124) hx hb dX4_ask_117 (by decide) (fun c_64 => ?_) (fun c_64 => ?_)
      · skip
        have i_64 : ¬ x_63.toInt = 0 := by have h9 := pz_neq c_64; exact h9
        refine lv_iconst (v := 0) hx hb dX4_ask_124 (by decide) ?_
        refine mw_sz S hK hW hS 40 rfl rfl rfl (pz_vi (n := mN 40) (by rw [show mN 40 = 400 from rfl]; omega) (by decide)) dX4_ask_125 (fun H locs hW hS => ?_)
        refine lv_aload_n hx hb dX4_ask_126 rfl (lv_at hl 1 rfl) ?_
        refine M_g31 S hK hW dX4_ask_127 ?_
        refine lv_iload_n hx hb dX4_ask_130 rfl (lv_at hl 2 rfl) ?_
        refine lv_dup2_11 hx hb dX4_ask_131 rfl rfl ?_
        refine mw_ld S hK hW 31 rfl rfl (pz_vi (n := mN 31) (by rw [show mN 31 = 200 from rfl]; omega) (by decide)) dX4_ask_132 (fun x_65 hx_65 => ?_)
        replace hx_65 : x_65 = G_12 31 cj := (hx_65 rfl).trans (congrArg _ (pz_cl (by omega)))
        obtain rfl : x_65 = nI nq := hx_65.trans ((congrFun (g2_12 31 (by decide)) cj).trans hka)
        refine lv_iconst (v := 1) hx hb dX4_ask_133 (by decide) ?_
        refine lv_iadd hx hb dX4_ask_134 ?_
        refine lv_topi (fun x_66 ex_66 => ?_)
        obtain rfl : x_66 = nI (nq + 1) := ex_66.trans (nI_add nq 1)
        have en_67 : (nI (nq + 1)).toInt = ((nq + 1 : Nat) : Int) := pz_ti (by omega)
        refine mw_st S hK hW hS 31 rfl rfl (pz_vi (n := mN 31) (by rw [show mN 31 = 200 from rfl]; omega) (by decide)) dX4_ask_135 (fun H locs G_68 g1_68 g2_68 hW hS => ?_)
        rw [pz_cl (by omega)] at g1_68
        refine lv_aload_n hx hb dX4_ask_136 rfl (lv_at hl 1 rfl) ?_
        refine M_g32 S hK hW dX4_ask_137 ?_
        refine lv_iload_n hx hb dX4_ask_140 rfl (lv_at hl 2 rfl) ?_
        refine lv_dup2_11 hx hb dX4_ask_141 rfl rfl ?_
        refine mw_ld S hK hW 32 rfl rfl (pz_vi (n := mN 32) (by rw [show mN 32 = 200 from rfl]; omega) (by decide)) dX4_ask_142 (fun x_69 hx_69 => ?_)
        refine lv_iconst (v := 1) hx hb dX4_ask_143 (by decide) ?_
        refine lv_iload_n hx hb dX4_ask_144 rfl (lv_at hl 3 rfl) ?_
        refine lv_ishl hx hb dX4_ask_145 ?_
        refine lv_topi (fun x_70 _ => ?_)
        refine lv_ior hx hb dX4_ask_146 ?_
        refine lv_topi (fun x_71 _ => ?_)
        refine mw_su S hK hW hS 32 rfl rfl rfl (pz_vi (n := mN 32) (by rw [show mN 32 = 200 from rfl]; omega) (by decide)) dX4_ask_147 (fun H locs hW hS => ?_)
        refine lv_aload_n hx hb dX4_ask_148 rfl (lv_at hl 1 rfl) ?_
        refine M_g30 S hK hW dX4_ask_149 ?_
        refine lv_iload_n hx hb dX4_ask_152 rfl (lv_at hl 2 rfl) ?_
        refine lv_iconst (v := 1) hx hb dX4_ask_153 (by decide) ?_
        refine mw_st S hK hW hS 30 rfl rfl (pz_vi (n := mN 30) (by rw [show mN 30 = 200 from rfl]; omega) (by decide)) dX4_ask_154 (fun H locs G_72 g1_72 g2_72 hW hS => ?_)
        rw [pz_cl (by omega)] at g1_72
        exact r_v hx hb hr hlocks hS dX4_ask_155 (⟨_, rfl, (g2_72 37 (by decide)).trans ((g2_68 37 (by decide)).trans g1_12), by rw [g2_72 31 (by decide), g1_68, g2_12 31 (by decide)], by rw [g1_72, g2_68 30 (by decide), g2_12 30 (by decide)], fun j h1 h2 h3 => by rw [g2_72 j h3, g2_68 j h2, g2_12 j h1], hW⟩)
      · skip
        have i_64 : x_63.toInt = 0 := by have h9 := pz_eq c_64; exact h9
        refine lv_iconst (v := 1) hx hb dX4_ask_120 (by decide) ?_
        refine lv_goto (tgt := 125) hx hb dX4_ask_121 (by decide) ?_
        refine mw_sz S hK hW hS 40 rfl rfl rfl (pz_vi (n := mN 40) (by rw [show mN 40 = 400 from rfl]; omega) (by decide)) dX4_ask_125 (fun H locs hW hS => ?_)
        refine lv_aload_n hx hb dX4_ask_126 rfl (lv_at hl 1 rfl) ?_
        refine M_g31 S hK hW dX4_ask_127 ?_
        refine lv_iload_n hx hb dX4_ask_130 rfl (lv_at hl 2 rfl) ?_
        refine lv_dup2_11 hx hb dX4_ask_131 rfl rfl ?_
        refine mw_ld S hK hW 31 rfl rfl (pz_vi (n := mN 31) (by rw [show mN 31 = 200 from rfl]; omega) (by decide)) dX4_ask_132 (fun x_73 hx_73 => ?_)
        replace hx_73 : x_73 = G_12 31 cj := (hx_73 rfl).trans (congrArg _ (pz_cl (by omega)))
        obtain rfl : x_73 = nI nq := hx_73.trans ((congrFun (g2_12 31 (by decide)) cj).trans hka)
        refine lv_iconst (v := 1) hx hb dX4_ask_133 (by decide) ?_
        refine lv_iadd hx hb dX4_ask_134 ?_
        refine lv_topi (fun x_74 ex_74 => ?_)
        obtain rfl : x_74 = nI (nq + 1) := ex_74.trans (nI_add nq 1)
        have en_75 : (nI (nq + 1)).toInt = ((nq + 1 : Nat) : Int) := pz_ti (by omega)
        refine mw_st S hK hW hS 31 rfl rfl (pz_vi (n := mN 31) (by rw [show mN 31 = 200 from rfl]; omega) (by decide)) dX4_ask_135 (fun H locs G_76 g1_76 g2_76 hW hS => ?_)
        rw [pz_cl (by omega)] at g1_76
        refine lv_aload_n hx hb dX4_ask_136 rfl (lv_at hl 1 rfl) ?_
        refine M_g32 S hK hW dX4_ask_137 ?_
        refine lv_iload_n hx hb dX4_ask_140 rfl (lv_at hl 2 rfl) ?_
        refine lv_dup2_11 hx hb dX4_ask_141 rfl rfl ?_
        refine mw_ld S hK hW 32 rfl rfl (pz_vi (n := mN 32) (by rw [show mN 32 = 200 from rfl]; omega) (by decide)) dX4_ask_142 (fun x_77 hx_77 => ?_)
        refine lv_iconst (v := 1) hx hb dX4_ask_143 (by decide) ?_
        refine lv_iload_n hx hb dX4_ask_144 rfl (lv_at hl 3 rfl) ?_
        refine lv_ishl hx hb dX4_ask_145 ?_
        refine lv_topi (fun x_78 _ => ?_)
        refine lv_ior hx hb dX4_ask_146 ?_
        refine lv_topi (fun x_79 _ => ?_)
        refine mw_su S hK hW hS 32 rfl rfl rfl (pz_vi (n := mN 32) (by rw [show mN 32 = 200 from rfl]; omega) (by decide)) dX4_ask_147 (fun H locs hW hS => ?_)
        refine lv_aload_n hx hb dX4_ask_148 rfl (lv_at hl 1 rfl) ?_
        refine M_g30 S hK hW dX4_ask_149 ?_
        refine lv_iload_n hx hb dX4_ask_152 rfl (lv_at hl 2 rfl) ?_
        refine lv_iconst (v := 1) hx hb dX4_ask_153 (by decide) ?_
        refine mw_st S hK hW hS 30 rfl rfl (pz_vi (n := mN 30) (by rw [show mN 30 = 200 from rfl]; omega) (by decide)) dX4_ask_154 (fun H locs G_80 g1_80 g2_80 hW hS => ?_)
        rw [pz_cl (by omega)] at g1_80
        exact r_v hx hb hr hlocks hS dX4_ask_155 (⟨_, rfl, (g2_80 37 (by decide)).trans ((g2_76 37 (by decide)).trans g1_12), by rw [g2_80 31 (by decide), g1_76, g2_12 31 (by decide)], by rw [g1_80, g2_76 30 (by decide), g2_12 30 (by decide)], fun j h1 h2 h3 => by rw [g2_80 j h3, g2_76 j h2, g2_12 j h1], hW⟩)

abbrev B_q_X4_asksFor (dC : Nat → ClassId) (dI : Nat → Nat → Nat) (h0 : Nat) (R : Nat → Nat) (A : Nat → Prop) (V : Nat → Int32) (G : Nat → Nat → Int32) (ns : Nat) (cj : Nat) : Option Value → Heap → Prop := fun v H => ∃ (r : Int32) (G1 : Nat → Nat → Int32), v = some (.int r) ∧ AskR cj G G1 ∧ Mw dC dI h0 R A V G1 H
set_option maxHeartbeats 8000000 in
set_option maxRecDepth 20000 in
theorem q_X4_asksFor (l : Launch) (dC : Nat → ClassId) (dI : Nat → Nat → Nat) (h0 : Nat) (R : Nat → Nat) (A : Nat → Prop) (V : Nat → Int32) (G : Nat → Nat → Int32) (ns : Nat) (cj : Nat) (hV2 : V 2 = nI ns) (hns : ns ≤ 8) (hcj : cj < 200) (h31 : G 31 cj = 0) (h37 : I37 G) : Met l yX4_asksFor (cws yX4_asksFor cX4_asksFor 3 (some .boolean)) { frames := 3, cells := 0, slots := 0, locals := 71 } (va_Pc [.ref h0, .int (nI cj)] (fun U => Kt dC dI U ∧ Mw dC dI h0 R A V G U.heap)) (Qg (B_q_X4_asksFor dC dI h0 R A V G ns cj) A) 0 0 A := by
  refine m_start (KK := Kt dC dI) (Pw := Mw dC dI h0 R A V G) (by decide) (Nat.le_of_ble_eq_true rfl) ?_
  intro p e s m below meth c ls S hr hlocks hin hK hW hS hl
  obtain ⟨hx, hb, hml, hown, hts⟩ := id S
  have hl : lv_has ls 3 [(0, .ref h0), (1, .int (nI cj))] := hl
  have en_s : (nI ns).toInt = ((ns : Nat) : Int) := pz_ti (by omega)
  refine lv_aload_n hx hb dX4_asksFor_0 rfl (lv_at hl 0 rfl) ?_
  refine lv_aload_n hx hb dX4_asksFor_1 rfl (lv_at hl 0 rfl) ?_
  refine M_g32 S hK hW dX4_asksFor_2 ?_
  refine lv_iload_n hx hb dX4_asksFor_5 rfl (lv_at hl 1 rfl) ?_
  refine mw_ld S hK hW 32 rfl rfl (pz_vi (n := mN 32) (by rw [show mN 32 = 200 from rfl]; omega) (by decide)) dX4_asksFor_6 (fun x_1 hx_1 => ?_)
  refine c_v (n := 1) (As := [.int x_1]) (rest := []) S (q_X4_mays l dC dI h0 R A V G ns x_1 hV2 (by omega)) iw_837 iw_834 iw_836 iw_36 iw_61 (by decide +kernel) rfl ⟨rfl, rfl, Nat.le_of_ble_eq_true rfl, Nat.le_of_ble_eq_true rfl⟩ Kt.blind (M_recv hK hW) hK.at hW hl.1 rfl (Nat.le_of_ble_eq_true rfl) dX4_asksFor_7 ⟨Nat.le_refl _, Nat.le_refl _⟩ hS (fun _ h9 => h9) (fun v9 H locs hB hz9 hk9 hS => ?_)
  refine W.widen (k := 0) (n := 0) (Nat.le_refl 0) (Nat.le_refl 0) ?_
  obtain ⟨r_2, rfl, hm_2, hW⟩ := hB
  refine W.eq (g2 := F0 m 10 ls [.int r_2]) rfl ?_
  refine lv_istore_n (lv' := [(2, .int r_2), (0, .ref h0), (1, .int (nI cj))]) hx hb dX4_asksFor_10 rfl hl (by decide) rfl (fun ls hl => ?_)
  refine lv_iload_n hx hb dX4_asksFor_11 rfl (lv_at hl 0 rfl) ?_
  refine lv_if_ne (tgt := 17) hx hb dX4_asksFor_12 (by decide) (fun c_3 => ?_) (fun c_3 => ?_)
  · skip
    have i_3 : ¬ r_2.toInt = 0 := by have h9 := pz_neq c_3; exact h9
    refine lv_aload_n hx hb dX4_asksFor_17 rfl (lv_at hl 1 rfl) ?_
    refine lv_iload_n hx hb dX4_asksFor_18 rfl (lv_at hl 2 rfl) ?_
    refine lv_aload_n hx hb dX4_asksFor_19 rfl (lv_at hl 1 rfl) ?_
    refine lv_iload_n hx hb dX4_asksFor_20 rfl (lv_at hl 0 rfl) ?_
    refine lv_aload_n hx hb dX4_asksFor_21 rfl (lv_at hl 1 rfl) ?_
    refine M_g27 S hK hW dX4_asksFor_22 ?_
    refine lv_iload_n hx hb dX4_asksFor_25 rfl (lv_at hl 2 rfl) ?_
    refine mw_ld S hK hW 27 rfl rfl (pz_vi (n := mN 27) (by rw [show mN 27 = 200 from rfl]; omega) (by decide)) dX4_asksFor_26 (fun x_4 hx_4 => ?_)
    refine lv_iconst (v := 1) hx hb dX4_asksFor_27 (by decide) ?_
    refine c_v (n := 3) (As := [.int r_2, .int x_4, .int 1]) (rest := [.int (nI cj), .ref h0]) S (q_X4_picked l dC dI h0 R A V G ns r_2 x_4 1 hV2 (by omega) (hm_2.resolve_left c_3)) iw_841 iw_838 iw_840 iw_37 iw_61 (by decide +kernel) rfl ⟨rfl, rfl, Nat.le_of_ble_eq_true rfl, Nat.le_of_ble_eq_true rfl⟩ Kt.blind (M_recv hK hW) hK.at hW hl.1 rfl (Nat.le_of_ble_eq_true rfl) dX4_asksFor_28 ⟨Nat.le_refl _, Nat.le_refl _⟩ hS (fun _ h9 => h9) (fun v9 H locs hB hz9 hk9 hS => ?_)
    refine W.widen (k := 0) (n := 0) (Nat.le_refl 0) (Nat.le_refl 0) ?_
    obtain ⟨r_5, q_5, rfl, ⟨hq_5, rfl⟩, hW⟩ := hB
    refine W.eq (g2 := F0 m 31 ls [.int (nI q_5), .int (nI cj), .ref h0]) rfl ?_
    have en_6 : (nI q_5).toInt = ((q_5 : Nat) : Int) := pz_ti (by omega)
    refine c_v (n := 2) (As := [.int (nI cj), .int (nI q_5)]) (rest := []) S (q_X4_ask l dC dI h0 R A V G cj q_5 0 (by omega) (by omega) (by omega) h31) iw_865 iw_862 iw_864 iw_42 iw_61 (by decide +kernel) rfl ⟨rfl, rfl, Nat.le_of_ble_eq_true rfl, Nat.le_of_ble_eq_true rfl⟩ Kt.blind (M_recv hK hW) hK.at hW hl.1 rfl (Nat.le_of_ble_eq_true rfl) dX4_asksFor_31 ⟨Nat.le_refl _, Nat.le_refl _⟩ hS (fun _ h9 => h9) (fun v9 H locs hB hz9 hk9 hS => ?_)
    refine W.widen (k := 0) (n := 0) (Nat.le_refl 0) (Nat.le_refl 0) ?_
    obtain ⟨G_7, rfl, k37_7, k31_7, k30_7, ko_7, hW⟩ := hB
    refine W.eq (g2 := F0 m 34 ls []) rfl ?_
    refine lv_iconst (v := 1) hx hb dX4_asksFor_34 (by decide) ?_
    exact r_z (v := 1) hx hb hr rfl hlocks hS dX4_asksFor_35 (⟨_, _, rfl, AskR.of h37 (by omega) (by decide) k37_7 k31_7 k30_7 ko_7, hW⟩)
  · skip
    have i_3 : r_2.toInt = 0 := by have h9 := pz_eq c_3; exact h9
    refine lv_iconst (v := 0) hx hb dX4_asksFor_15 (by decide) ?_
    exact r_z (v := 0) hx hb hr rfl hlocks hS dX4_asksFor_16 (⟨_, _, rfl, AskR.rf h31 h37, hW⟩)

abbrev B_q_X4_call (dC : Nat → ClassId) (dI : Nat → Nat → Nat) (h0 : Nat) (R : Nat → Nat) (A : Nat → Prop) (V : Nat → Int32) (G : Nat → Nat → Int32) (ns : Nat) (nc : Nat) (dr : Nat → Prop) (a1 : Int32) (a2 : Int32) (a3 : Int32) (a4 : Int32) : Option Value → Heap → Prop := fun v H => ∃ (r : Int32) (V1 : Nat → Int32) (G1 : Nat → Nat → Int32), v = some (.int r) ∧ ((badC nc a1 a2 a3 = some r ∧ MI ns nc dr V1 G1) ∨ (badC nc a1 a2 a3 = none ∧ r = nI nc ∧ MI ns (nc + 1) dr V1 G1)) ∧ KV V V1 ∧ Mw dC dI h0 R A V1 G1 H
set_option maxHeartbeats 8000000 in
set_option maxRecDepth 20000 in
theorem q_X4_call (l : Launch) (dC : Nat → ClassId) (dI : Nat → Nat → Nat) (h0 : Nat) (R : Nat → Nat) (A : Nat → Prop) (V : Nat → Int32) (G : Nat → Nat → Int32) (ns : Nat) (nc : Nat) (dr : Nat → Prop) (a1 : Int32) (a2 : Int32) (a3 : Int32) (a4 : Int32) (hM : MI ns nc dr V G) : Met l yX4_call (cws yX4_call cX4_call 7 (some .int)) { frames := 4, cells := 0, slots := 0, locals := 93 } (va_Pc [.ref h0, .int a1, .int a2, .int a3, .int a4] (fun U => Kt dC dI U ∧ Mw dC dI h0 R A V G U.heap)) (Qg (B_q_X4_call dC dI h0 R A V G ns nc dr a1 a2 a3 a4) A) 0 0 A := by
  refine m_start (KK := Kt dC dI) (Pw := Mw dC dI h0 R A V G) (by decide) (Nat.le_of_ble_eq_true rfl) ?_
  intro p e s m below meth c ls S hr hlocks hin hK hW hS hl
  obtain ⟨hx, hb, hml, hown, hts⟩ := id S
  have hl : lv_has ls 7 [(0, .ref h0), (1, .int a1), (2, .int a2), (3, .int a3), (4, .int a4)] := hl
  obtain ⟨⟨hV2, hns⟩, ⟨hV3, hnc⟩, h31, h37, hQ, hZ, hD⟩ := id hM
  have en_s : (nI ns).toInt = ((ns : Nat) : Int) := pz_ti (by omega)
  have en_c : (nI nc).toInt = ((nc : Nat) : Int) := pz_ti (by omega)
  refine lv_iload_n hx hb dX4_call_0 rfl (lv_at hl 1 rfl) ?_
  refine lv_if_lt (tgt := 13) hx hb dX4_call_1 (by decide) (fun c_1 => ?_) (fun c_1 => ?_)
  · skip
    have i_1 : a1.toInt < 0 := by have h9 := pz_lt c_1; exact h9
    refine lv_aload_n hx hb dX4_call_13 rfl (lv_at hl 0 rfl) ?_
    refine lv_bipush (v := (-4)) hx hb dX4_call_14 (by decide) ?_
    refine c_v (n := 1) (As := [.int (-4)]) (rest := []) S (q_X4_refuse l dC dI h0 R A V G (-4) (by unfold vp_in; decide)) iw_787 iw_784 iw_786 iw_33 iw_61 (by decide +kernel) rfl ⟨rfl, rfl, Nat.le_of_ble_eq_true rfl, Nat.le_of_ble_eq_true rfl⟩ Kt.blind (M_recv hK hW) hK.at hW hl.1 rfl (Nat.le_of_ble_eq_true rfl) dX4_call_16 ⟨Nat.le_refl _, Nat.le_refl _⟩ hS (fun _ h9 => h9) (fun v9 H locs hB hz9 hk9 hS => ?_)
    refine W.widen (k := 0) (n := 0) (Nat.le_refl 0) (Nat.le_refl 0) ?_
    obtain ⟨_, rfl, rfl, hW⟩ := hB
    refine W.eq (g2 := F0 m 19 ls [.int (-4)]) rfl ?_
    exact r_i (v := (-4)) hx hb hr hlocks hS dX4_call_19 (⟨_, _, _, rfl, Or.inl ⟨by unfold badC; (repeat' split) <;> first | rfl | (exfalso; omega), hM⟩, KV.rf, hW⟩)
  · skip
    have i_1 : a1.toInt ≥ 0 := by have h9 := pz_nlt c_1; exact h9
    refine lv_iload_n hx hb dX4_call_4 rfl (lv_at hl 2 rfl) ?_
    refine lv_if_lt (tgt := 13) hx hb dX4_call_5 (by decide) (fun c_3 => ?_) (fun c_3 => ?_)
    · skip
      have i_3 : a2.toInt < 0 := by have h9 := pz_lt c_3; exact h9
      refine lv_aload_n hx hb dX4_call_13 rfl (lv_at hl 0 rfl) ?_
      refine lv_bipush (v := (-4)) hx hb dX4_call_14 (by decide) ?_
      refine c_v (n := 1) (As := [.int (-4)]) (rest := []) S (q_X4_refuse l dC dI h0 R A V G (-4) (by unfold vp_in; decide)) iw_787 iw_784 iw_786 iw_33 iw_61 (by decide +kernel) rfl ⟨rfl, rfl, Nat.le_of_ble_eq_true rfl, Nat.le_of_ble_eq_true rfl⟩ Kt.blind (M_recv hK hW) hK.at hW hl.1 rfl (Nat.le_of_ble_eq_true rfl) dX4_call_16 ⟨Nat.le_refl _, Nat.le_refl _⟩ hS (fun _ h9 => h9) (fun v9 H locs hB hz9 hk9 hS => ?_)
      refine W.widen (k := 0) (n := 0) (Nat.le_refl 0) (Nat.le_refl 0) ?_
      obtain ⟨_, rfl, rfl, hW⟩ := hB
      refine W.eq (g2 := F0 m 19 ls [.int (-4)]) rfl ?_
      exact r_i (v := (-4)) hx hb hr hlocks hS dX4_call_19 (⟨_, _, _, rfl, Or.inl ⟨by unfold badC; (repeat' split) <;> first | rfl | (exfalso; omega), hM⟩, KV.rf, hW⟩)
    · skip
      have i_3 : a2.toInt ≥ 0 := by have h9 := pz_nlt c_3; exact h9
      refine lv_iload_n hx hb dX4_call_8 rfl (lv_at hl 3 rfl) ?_
      refine lv_iconst (v := 1) hx hb dX4_call_9 (by decide) ?_
      refine lv_icmp_ge (tgt := 20) hx hb dX4_call_10 (by decide) (fun c_5 => ?_) (fun c_5 => ?_)
      · skip
        have i_5 : a3.toInt ≥ 1 := by have h9 := pz_ge c_5; exact h9
        refine lv_iload_n hx hb dX4_call_20 rfl (lv_at hl 1 rfl) ?_
        refine lv_ldc hx hb hown (hts _ iw_829) dX4_call_21 ?_
        refine lv_icmp_ge (tgt := 48) hx hb dX4_call_23 (by decide) (fun c_6 => ?_) (fun c_6 => ?_)
        · skip
          have i_6 : a1.toInt ≥ 65536 := by have h9 := pz_ge c_6; exact h9
          refine lv_aload_n hx hb dX4_call_48 rfl (lv_at hl 0 rfl) ?_
          refine lv_bipush (v := (-6)) hx hb dX4_call_49 (by decide) ?_
          refine c_v (n := 1) (As := [.int (-6)]) (rest := []) S (q_X4_refuse l dC dI h0 R A V G (-6) (by unfold vp_in; decide)) iw_787 iw_784 iw_786 iw_33 iw_61 (by decide +kernel) rfl ⟨rfl, rfl, Nat.le_of_ble_eq_true rfl, Nat.le_of_ble_eq_true rfl⟩ Kt.blind (M_recv hK hW) hK.at hW hl.1 rfl (Nat.le_of_ble_eq_true rfl) dX4_call_51 ⟨Nat.le_refl _, Nat.le_refl _⟩ hS (fun _ h9 => h9) (fun v9 H locs hB hz9 hk9 hS => ?_)
          refine W.widen (k := 0) (n := 0) (Nat.le_refl 0) (Nat.le_refl 0) ?_
          obtain ⟨_, rfl, rfl, hW⟩ := hB
          refine W.eq (g2 := F0 m 54 ls [.int (-6)]) rfl ?_
          exact r_i (v := (-6)) hx hb hr hlocks hS dX4_call_54 (⟨_, _, _, rfl, Or.inl ⟨by unfold badC; (repeat' split) <;> first | rfl | (exfalso; omega), hM⟩, KV.rf, hW⟩)
        · skip
          have i_6 : a1.toInt < 65536 := by have h9 := pz_nge c_6; exact h9
          refine lv_iload_n hx hb dX4_call_26 rfl (lv_at hl 2 rfl) ?_
          refine lv_iconst (v := 3) hx hb dX4_call_27 (by decide) ?_
          refine lv_icmp_gt (tgt := 48) hx hb dX4_call_28 (by decide) (fun c_8 => ?_) (fun c_8 => ?_)
          · skip
            have i_8 : a2.toInt > 3 := by have h9 := pz_gt c_8; exact h9
            refine lv_aload_n hx hb dX4_call_48 rfl (lv_at hl 0 rfl) ?_
            refine lv_bipush (v := (-6)) hx hb dX4_call_49 (by decide) ?_
            refine c_v (n := 1) (As := [.int (-6)]) (rest := []) S (q_X4_refuse l dC dI h0 R A V G (-6) (by unfold vp_in; decide)) iw_787 iw_784 iw_786 iw_33 iw_61 (by decide +kernel) rfl ⟨rfl, rfl, Nat.le_of_ble_eq_true rfl, Nat.le_of_ble_eq_true rfl⟩ Kt.blind (M_recv hK hW) hK.at hW hl.1 rfl (Nat.le_of_ble_eq_true rfl) dX4_call_51 ⟨Nat.le_refl _, Nat.le_refl _⟩ hS (fun _ h9 => h9) (fun v9 H locs hB hz9 hk9 hS => ?_)
            refine W.widen (k := 0) (n := 0) (Nat.le_refl 0) (Nat.le_refl 0) ?_
            obtain ⟨_, rfl, rfl, hW⟩ := hB
            refine W.eq (g2 := F0 m 54 ls [.int (-6)]) rfl ?_
            exact r_i (v := (-6)) hx hb hr hlocks hS dX4_call_54 (⟨_, _, _, rfl, Or.inl ⟨by unfold badC; (repeat' split) <;> first | rfl | (exfalso; omega), hM⟩, KV.rf, hW⟩)
          · skip
            have i_8 : a2.toInt ≤ 3 := by have h9 := pz_ngt c_8; exact h9
            refine lv_iload_n hx hb dX4_call_31 rfl (lv_at hl 3 rfl) ?_
            refine lv_sipush (v := 2000) hx hb dX4_call_32 (by decide) ?_
            refine lv_icmp_gt (tgt := 48) hx hb dX4_call_35 (by decide) (fun c_10 => ?_) (fun c_10 => ?_)
            · skip
              have i_10 : a3.toInt > 2000 := by have h9 := pz_gt c_10; exact h9
              refine lv_aload_n hx hb dX4_call_48 rfl (lv_at hl 0 rfl) ?_
              refine lv_bipush (v := (-6)) hx hb dX4_call_49 (by decide) ?_
              refine c_v (n := 1) (As := [.int (-6)]) (rest := []) S (q_X4_refuse l dC dI h0 R A V G (-6) (by unfold vp_in; decide)) iw_787 iw_784 iw_786 iw_33 iw_61 (by decide +kernel) rfl ⟨rfl, rfl, Nat.le_of_ble_eq_true rfl, Nat.le_of_ble_eq_true rfl⟩ Kt.blind (M_recv hK hW) hK.at hW hl.1 rfl (Nat.le_of_ble_eq_true rfl) dX4_call_51 ⟨Nat.le_refl _, Nat.le_refl _⟩ hS (fun _ h9 => h9) (fun v9 H locs hB hz9 hk9 hS => ?_)
              refine W.widen (k := 0) (n := 0) (Nat.le_refl 0) (Nat.le_refl 0) ?_
              obtain ⟨_, rfl, rfl, hW⟩ := hB
              refine W.eq (g2 := F0 m 54 ls [.int (-6)]) rfl ?_
              exact r_i (v := (-6)) hx hb hr hlocks hS dX4_call_54 (⟨_, _, _, rfl, Or.inl ⟨by unfold badC; (repeat' split) <;> first | rfl | (exfalso; omega), hM⟩, KV.rf, hW⟩)
            · skip
              have i_10 : a3.toInt ≤ 2000 := by have h9 := pz_ngt c_10; exact h9
              refine lv_aload_n hx hb dX4_call_38 rfl (lv_at hl 0 rfl) ?_
              refine M_g3 S hK hW dX4_call_39 (fun x_12 hx_12 => ?_)
              obtain rfl : x_12 = nI nc := hx_12.trans hV3
              refine lv_sipush (v := 200) hx hb dX4_call_42 (by decide) ?_
              refine lv_icmp_ne (tgt := 55) hx hb dX4_call_45 (by decide) (fun c_13 => ?_) (fun c_13 => ?_)
              · skip
                have i_13 : ¬ (nI nc).toInt = 200 := by have h9 := pz_neq c_13; exact h9
                refine lv_aload_n hx hb dX4_call_55 rfl (lv_at hl 0 rfl) ?_
                refine M_g3 S hK hW dX4_call_56 (fun x_14 hx_14 => ?_)
                obtain rfl : x_14 = nI nc := hx_14.trans hV3
                refine lv_istore (lv' := [(5, .int (nI nc)), (0, .ref h0), (1, .int a1), (2, .int a2), (3, .int a3), (4, .int a4)]) hx hb dX4_call_59 hl (by decide) rfl (fun ls hl => ?_)
                refine lv_aload_n hx hb dX4_call_61 rfl (lv_at hl 1 rfl) ?_
                refine lv_dup hx hb dX4_call_62 rfl ?_
                refine M_g3 S hK hW dX4_call_63 (fun x_15 hx_15 => ?_)
                obtain rfl : x_15 = nI nc := hx_15.trans hV3
                refine lv_iconst (v := 1) hx hb dX4_call_66 (by decide) ?_
                refine lv_iadd hx hb dX4_call_67 ?_
                refine lv_topi (fun x_16 ex_16 => ?_)
                obtain rfl : x_16 = nI (nc + 1) := ex_16.trans (nI_add nc 1)
                have en_17 : (nI (nc + 1)).toInt = ((nc + 1 : Nat) : Int) := pz_ti (by omega)
                refine M_p3 S hK hW hS dX4_call_68 (fun H locs V_18 v1_18 v2_18 hW hS => ?_)
                have hV2 : V_18 2 = nI ns := (v2_18 2 (by decide)).trans hV2
                have hV3 : V_18 3 = nI (nc + 1) := v1_18
                refine lv_aload_n hx hb dX4_call_71 rfl (lv_at hl 1 rfl) ?_
                refine M_g27 S hK hW dX4_call_72 ?_
                refine lv_iload hx hb dX4_call_75 (lv_at hl 0 rfl) ?_
                refine lv_iload_n hx hb dX4_call_77 rfl (lv_at hl 2 rfl) ?_
                refine mw_su S hK hW hS 27 rfl rfl rfl (pz_vi (n := mN 27) (by rw [show mN 27 = 200 from rfl]; omega) (by decide)) dX4_call_78 (fun H locs hW hS => ?_)
                refine lv_aload_n hx hb dX4_call_79 rfl (lv_at hl 1 rfl) ?_
                refine M_g28 S hK hW dX4_call_80 ?_
                refine lv_iload hx hb dX4_call_83 (lv_at hl 0 rfl) ?_
                refine lv_iload_n hx hb dX4_call_85 rfl (lv_at hl 3 rfl) ?_
                refine mw_su S hK hW hS 28 rfl rfl rfl (pz_vi (n := mN 28) (by rw [show mN 28 = 200 from rfl]; omega) (by decide)) dX4_call_86 (fun H locs hW hS => ?_)
                refine lv_aload_n hx hb dX4_call_87 rfl (lv_at hl 1 rfl) ?_
                refine M_g29 S hK hW dX4_call_88 ?_
                refine lv_iload hx hb dX4_call_91 (lv_at hl 0 rfl) ?_
                refine lv_aload_n hx hb dX4_call_93 rfl (lv_at hl 1 rfl) ?_
                refine M_g1 S hK hW dX4_call_94 (fun x_19 => ?_)
                refine lv_iload_n hx hb dX4_call_97 rfl (lv_at hl 4 rfl) ?_
                refine lv_iadd hx hb dX4_call_98 ?_
                refine lv_topi (fun x_20 _ => ?_)
                refine mw_su S hK hW hS 29 rfl rfl rfl (pz_vi (n := mN 29) (by rw [show mN 29 = 200 from rfl]; omega) (by decide)) dX4_call_99 (fun H locs hW hS => ?_)
                refine lv_aload_n hx hb dX4_call_100 rfl (lv_at hl 1 rfl) ?_
                refine M_g36 S hK hW dX4_call_101 ?_
                refine lv_iload hx hb dX4_call_104 (lv_at hl 0 rfl) ?_
                refine lv_iload hx hb dX4_call_106 (lv_at hl 5 rfl) ?_
                refine mw_sz S hK hW hS 36 rfl rfl rfl (pz_vi (n := mN 36) (by rw [show mN 36 = 200 from rfl]; omega) (by decide)) dX4_call_108 (fun H locs hW hS => ?_)
                refine lv_aload_n hx hb dX4_call_109 rfl (lv_at hl 1 rfl) ?_
                refine M_g33 S hK hW dX4_call_110 ?_
                refine lv_iload hx hb dX4_call_113 (lv_at hl 0 rfl) ?_
                refine lv_aload_n hx hb dX4_call_115 rfl (lv_at hl 1 rfl) ?_
                refine M_g1 S hK hW dX4_call_116 (fun x_21 => ?_)
                refine mw_su S hK hW hS 33 rfl rfl rfl (pz_vi (n := mN 33) (by rw [show mN 33 = 200 from rfl]; omega) (by decide)) dX4_call_119 (fun H locs hW hS => ?_)
                refine lv_aload_n hx hb dX4_call_120 rfl (lv_at hl 1 rfl) ?_
                refine M_g34 S hK hW dX4_call_121 ?_
                refine lv_iload hx hb dX4_call_124 (lv_at hl 0 rfl) ?_
                refine lv_bipush (v := (-9)) hx hb dX4_call_126 (by decide) ?_
                refine mw_su S hK hW hS 34 rfl rfl rfl (pz_vi (n := mN 34) (by rw [show mN 34 = 200 from rfl]; omega) (by decide)) dX4_call_128 (fun H locs hW hS => ?_)
                refine lv_aload_n hx hb dX4_call_129 rfl (lv_at hl 1 rfl) ?_
                refine M_g35 S hK hW dX4_call_130 ?_
                refine lv_iload hx hb dX4_call_133 (lv_at hl 0 rfl) ?_
                refine lv_bipush (v := (-9)) hx hb dX4_call_135 (by decide) ?_
                refine mw_su S hK hW hS 35 rfl rfl rfl (pz_vi (n := mN 35) (by rw [show mN 35 = 200 from rfl]; omega) (by decide)) dX4_call_137 (fun H locs hW hS => ?_)
                refine lv_aload_n hx hb dX4_call_138 rfl (lv_at hl 1 rfl) ?_
                refine lv_iload hx hb dX4_call_139 (lv_at hl 0 rfl) ?_
                refine c_v (n := 1) (As := [.int (nI nc)]) (rest := []) S (q_X4_asksFor l dC dI h0 R A V_18 G ns nc hV2 (by omega) (by omega) (hM.a0 (by omega)) h37) iw_833 iw_830 iw_832 iw_35 iw_61 (by decide +kernel) rfl ⟨rfl, rfl, Nat.le_of_ble_eq_true rfl, Nat.le_of_ble_eq_true rfl⟩ Kt.blind (M_recv hK hW) hK.at hW hl.1 rfl (Nat.le_of_ble_eq_true rfl) dX4_call_141 ⟨Nat.le_refl _, Nat.le_refl _⟩ hS (fun _ h9 => h9) (fun v9 H locs hB hz9 hk9 hS => ?_)
                refine W.widen (k := 0) (n := 0) (Nat.le_refl 0) (Nat.le_refl 0) ?_
                obtain ⟨r_22, G_22, rfl, ha_22, hW⟩ := hB
                refine W.eq (g2 := F0 m 144 ls [.int r_22]) rfl ?_
                refine lv_istore (lv' := [(6, .int r_22), (5, .int (nI nc)), (0, .ref h0), (1, .int a1), (2, .int a2), (3, .int a3), (4, .int a4)]) hx hb dX4_call_144 hl (by decide) rfl (fun ls hl => ?_)
                refine lv_iload hx hb dX4_call_146 (lv_at hl 1 rfl) ?_
                exact r_i (v := (nI nc)) hx hb hr hlocks hS dX4_call_148 (⟨_, _, _, rfl, Or.inr ⟨by unfold badC; (repeat' split) <;> first | rfl | (exfalso; omega), rfl, (hM.more (by omega) (v2_18 2 (by decide)) v1_18).ask (by omega) ha_22⟩, fun j h1 h2 => v2_18 j (by omega), hW⟩)
              · skip
                have i_13 : (nI nc).toInt = 200 := by have h9 := pz_eq c_13; exact h9
                refine lv_aload_n hx hb dX4_call_48 rfl (lv_at hl 0 rfl) ?_
                refine lv_bipush (v := (-6)) hx hb dX4_call_49 (by decide) ?_
                refine c_v (n := 1) (As := [.int (-6)]) (rest := []) S (q_X4_refuse l dC dI h0 R A V G (-6) (by unfold vp_in; decide)) iw_787 iw_784 iw_786 iw_33 iw_61 (by decide +kernel) rfl ⟨rfl, rfl, Nat.le_of_ble_eq_true rfl, Nat.le_of_ble_eq_true rfl⟩ Kt.blind (M_recv hK hW) hK.at hW hl.1 rfl (Nat.le_of_ble_eq_true rfl) dX4_call_51 ⟨Nat.le_refl _, Nat.le_refl _⟩ hS (fun _ h9 => h9) (fun v9 H locs hB hz9 hk9 hS => ?_)
                refine W.widen (k := 0) (n := 0) (Nat.le_refl 0) (Nat.le_refl 0) ?_
                obtain ⟨_, rfl, rfl, hW⟩ := hB
                refine W.eq (g2 := F0 m 54 ls [.int (-6)]) rfl ?_
                exact r_i (v := (-6)) hx hb hr hlocks hS dX4_call_54 (⟨_, _, _, rfl, Or.inl ⟨by unfold badC; (repeat' split) <;> first | rfl | (exfalso; omega), hM⟩, KV.rf, hW⟩)
      · skip
        have i_5 : a3.toInt < 1 := by have h9 := pz_nge c_5; exact h9
        refine lv_aload_n hx hb dX4_call_13 rfl (lv_at hl 0 rfl) ?_
        refine lv_bipush (v := (-4)) hx hb dX4_call_14 (by decide) ?_
        refine c_v (n := 1) (As := [.int (-4)]) (rest := []) S (q_X4_refuse l dC dI h0 R A V G (-4) (by unfold vp_in; decide)) iw_787 iw_784 iw_786 iw_33 iw_61 (by decide +kernel) rfl ⟨rfl, rfl, Nat.le_of_ble_eq_true rfl, Nat.le_of_ble_eq_true rfl⟩ Kt.blind (M_recv hK hW) hK.at hW hl.1 rfl (Nat.le_of_ble_eq_true rfl) dX4_call_16 ⟨Nat.le_refl _, Nat.le_refl _⟩ hS (fun _ h9 => h9) (fun v9 H locs hB hz9 hk9 hS => ?_)
        refine W.widen (k := 0) (n := 0) (Nat.le_refl 0) (Nat.le_refl 0) ?_
        obtain ⟨_, rfl, rfl, hW⟩ := hB
        refine W.eq (g2 := F0 m 19 ls [.int (-4)]) rfl ?_
        exact r_i (v := (-4)) hx hb hr hlocks hS dX4_call_19 (⟨_, _, _, rfl, Or.inl ⟨by unfold badC; (repeat' split) <;> first | rfl | (exfalso; omega), hM⟩, KV.rf, hW⟩)

abbrev B_q_X4_failure (dC : Nat → ClassId) (dI : Nat → Nat → Nat) (h0 : Nat) (R : Nat → Nat) (A : Nat → Prop) (V : Nat → Int32) (G : Nat → Nat → Int32) (ns : Nat) (sj : Nat) : Option Value → Heap → Prop := fun v H => ∃ G1 : Nat → Nat → Int32, v = none ∧ (∀ j, j ≠ 17 → G1 j = G j) ∧ (∀ k, gDr (G1 17 k) ↔ gDr (G 17 k)) ∧ Mw dC dI h0 R A V G1 H
set_option maxHeartbeats 8000000 in
set_option maxRecDepth 20000 in
theorem q_X4_failure (l : Launch) (dC : Nat → ClassId) (dI : Nat → Nat → Nat) (h0 : Nat) (R : Nat → Nat) (A : Nat → Prop) (V : Nat → Int32) (G : Nat → Nat → Int32) (ns : Nat) (sj : Nat) (hV2 : V 2 = nI ns) (hns : ns ≤ 8) (hsj : sj < 8) : Met l yX4_failure (cws yX4_failure cX4_failure 3 none) { frames := 1, cells := 0, slots := 0, locals := 23 } (va_Pc [.ref h0, .int (nI sj)] (fun U => Kt dC dI U ∧ Mw dC dI h0 R A V G U.heap)) (Qg (B_q_X4_failure dC dI h0 R A V G ns sj) A) 0 0 A := by
  refine m_start (KK := Kt dC dI) (Pw := Mw dC dI h0 R A V G) (by decide) (Nat.le_of_ble_eq_true rfl) ?_
  intro p e s m below meth c ls S hr hlocks hin hK hW hS hl
  obtain ⟨hx, hb, hml, hown, hts⟩ := id S
  have hl : lv_has ls 3 [(0, .ref h0), (1, .int (nI sj))] := hl
  have en_s : (nI ns).toInt = ((ns : Nat) : Int) := pz_ti (by omega)
  refine lv_aload_n hx hb dX4_failure_0 rfl (lv_at hl 0 rfl) ?_
  refine M_g21 S hK hW dX4_failure_1 ?_
  refine lv_iload_n hx hb dX4_failure_4 rfl (lv_at hl 1 rfl) ?_
  refine lv_dup2_11 hx hb dX4_failure_5 rfl rfl ?_
  refine mw_ld S hK hW 21 rfl rfl (pz_vi (n := mN 21) (by rw [show mN 21 = 8 from rfl]; omega) (by decide)) dX4_failure_6 (fun x_1 hx_1 => ?_)
  refine lv_iconst (v := 1) hx hb dX4_failure_7 (by decide) ?_
  refine lv_iadd hx hb dX4_failure_8 ?_
  refine lv_topi (fun x_2 _ => ?_)
  refine mw_su S hK hW hS 21 rfl rfl rfl (pz_vi (n := mN 21) (by rw [show mN 21 = 8 from rfl]; omega) (by decide)) dX4_failure_9 (fun H locs hW hS => ?_)
  refine lv_aload_n hx hb dX4_failure_10 rfl (lv_at hl 0 rfl) ?_
  refine M_g22 S hK hW dX4_failure_11 ?_
  refine lv_iload_n hx hb dX4_failure_14 rfl (lv_at hl 1 rfl) ?_
  refine lv_dup2_11 hx hb dX4_failure_15 rfl rfl ?_
  refine mw_ld S hK hW 22 rfl rfl (pz_vi (n := mN 22) (by rw [show mN 22 = 8 from rfl]; omega) (by decide)) dX4_failure_16 (fun x_3 hx_3 => ?_)
  refine lv_iconst (v := 1) hx hb dX4_failure_17 (by decide) ?_
  refine lv_iadd hx hb dX4_failure_18 ?_
  refine lv_topi (fun x_4 _ => ?_)
  refine mw_su S hK hW hS 22 rfl rfl rfl (pz_vi (n := mN 22) (by rw [show mN 22 = 8 from rfl]; omega) (by decide)) dX4_failure_19 (fun H locs hW hS => ?_)
  refine lv_aload_n hx hb dX4_failure_20 rfl (lv_at hl 0 rfl) ?_
  refine M_g17 S hK hW dX4_failure_21 ?_
  refine lv_iload_n hx hb dX4_failure_24 rfl (lv_at hl 1 rfl) ?_
  refine mw_ld S hK hW 17 rfl rfl (pz_vi (n := mN 17) (by rw [show mN 17 = 8 from rfl]; omega) (by decide)) dX4_failure_25 (fun x_5 hx_5 => ?_)
  replace hx_5 : x_5 = G 17 sj := (hx_5 rfl).trans (congrArg _ (pz_cl (by omega)))
  refine lv_iconst (v := 2) hx hb dX4_failure_26 (by decide) ?_
  refine lv_icmp_eq (tgt := 52) hx hb dX4_failure_27 (by decide) (fun c_6 => ?_) (fun c_6 => ?_)
  · skip
    have i_6 : x_5.toInt = 2 := by have h9 := pz_eq c_6; exact h9
    have hnd : ¬ gDr (G 17 sj) := gDr_n (Or.inr (Or.inr (hx_5.symm.trans c_6)))
    refine lv_iconst (v := 1) hx hb dX4_failure_52 (by decide) ?_
    refine lv_goto (tgt := 57) hx hb dX4_failure_53 (by decide) ?_
    refine lv_istore_n (lv' := [(2, .int 1), (0, .ref h0), (1, .int (nI sj))]) hx hb dX4_failure_57 rfl hl (by decide) rfl (fun ls hl => ?_)
    refine lv_iload_n hx hb dX4_failure_58 rfl (lv_at hl 0 rfl) ?_
    refine lv_if_ne (tgt := 63) hx hb dX4_failure_59 (by decide) (fun c_7 => ?_) (fun c_7 => absurd c_7 (by decide))
    refine lv_aload_n hx hb dX4_failure_63 rfl (lv_at hl 1 rfl) ?_
    refine M_g22 S hK hW dX4_failure_64 ?_
    refine lv_iload_n hx hb dX4_failure_67 rfl (lv_at hl 2 rfl) ?_
    refine lv_iconst (v := 0) hx hb dX4_failure_68 (by decide) ?_
    refine mw_su S hK hW hS 22 rfl rfl rfl (pz_vi (n := mN 22) (by rw [show mN 22 = 8 from rfl]; omega) (by decide)) dX4_failure_69 (fun H locs hW hS => ?_)
    refine lv_aload_n hx hb dX4_failure_70 rfl (lv_at hl 1 rfl) ?_
    refine lv_iconst (v := 0) hx hb dX4_failure_71 (by decide) ?_
    refine c_v (n := 1) (As := [.int 0]) (rest := []) S (q_X4_outsNow l dC dI h0 R A V G ns 0 hV2 (by omega)) iw_906 iw_903 iw_905 iw_50 iw_61 (by decide +kernel) rfl ⟨rfl, rfl, Nat.le_of_ble_eq_true rfl, Nat.le_of_ble_eq_true rfl⟩ Kt.blind (M_recv hK hW) hK.at hW hl.1 rfl (Nat.le_of_ble_eq_true rfl) dX4_failure_72 ⟨Nat.le_refl _, Nat.le_refl _⟩ hS (fun _ h9 => h9) (fun v9 H locs hB hz9 hk9 hS => ?_)
    refine W.widen (k := 0) (n := 0) (Nat.le_refl 0) (Nat.le_refl 0) ?_
    obtain ⟨r_8, rfl, hW⟩ := hB
    refine W.eq (g2 := F0 m 75 ls [.int r_8]) rfl ?_
    refine lv_iconst (v := 1) hx hb dX4_failure_75 (by decide) ?_
    refine lv_iadd hx hb dX4_failure_76 ?_
    refine lv_topi (fun x_9 _ => ?_)
    refine lv_aload_n hx hb dX4_failure_77 rfl (lv_at hl 1 rfl) ?_
    refine lv_iconst (v := 1) hx hb dX4_failure_78 (by decide) ?_
    refine c_v (n := 1) (As := [.int 1]) (rest := [.int x_9]) S (q_X4_outsNow l dC dI h0 R A V G ns 1 hV2 (by omega)) iw_906 iw_903 iw_905 iw_50 iw_61 (by decide +kernel) rfl ⟨rfl, rfl, Nat.le_of_ble_eq_true rfl, Nat.le_of_ble_eq_true rfl⟩ Kt.blind (M_recv hK hW) hK.at hW hl.1 rfl (Nat.le_of_ble_eq_true rfl) dX4_failure_79 ⟨Nat.le_refl _, Nat.le_refl _⟩ hS (fun _ h9 => h9) (fun v9 H locs hB hz9 hk9 hS => ?_)
    refine W.widen (k := 0) (n := 0) (Nat.le_refl 0) (Nat.le_refl 0) ?_
    obtain ⟨r_10, rfl, hW⟩ := hB
    refine W.eq (g2 := F0 m 82 ls [.int r_10, .int x_9]) rfl ?_
    refine lv_iconst (v := 2) hx hb dX4_failure_82 (by decide) ?_
    refine lv_idiv hx hb dX4_failure_83 (by decide) ?_
    refine lv_topi (fun x_11 _ => ?_)
    refine lv_icmp_le (tgt := 95) hx hb dX4_failure_84 (by decide) (fun c_12 => ?_) (fun c_12 => ?_)
    · skip
      have i_12 : x_9.toInt ≤ x_11.toInt := by have h9 := pz_le c_12; exact h9
      refine lv_aload_n hx hb dX4_failure_95 rfl (lv_at hl 1 rfl) ?_
      refine M_g17 S hK hW dX4_failure_96 ?_
      refine lv_iload_n hx hb dX4_failure_99 rfl (lv_at hl 2 rfl) ?_
      refine lv_iconst (v := 1) hx hb dX4_failure_100 (by decide) ?_
      refine mw_st S hK hW hS 17 rfl rfl (pz_vi (n := mN 17) (by rw [show mN 17 = 8 from rfl]; omega) (by decide)) dX4_failure_101 (fun H locs G_13 g1_13 g2_13 hW hS => ?_)
      rw [pz_cl (by omega)] at g1_13
      refine lv_aload_n hx hb dX4_failure_102 rfl (lv_at hl 1 rfl) ?_
      refine M_g23 S hK hW dX4_failure_103 ?_
      refine lv_iload_n hx hb dX4_failure_106 rfl (lv_at hl 2 rfl) ?_
      refine lv_aload_n hx hb dX4_failure_107 rfl (lv_at hl 1 rfl) ?_
      refine M_g1 S hK hW dX4_failure_108 (fun x_14 => ?_)
      refine lv_aload_n hx hb dX4_failure_111 rfl (lv_at hl 1 rfl) ?_
      refine M_g24 S hK hW dX4_failure_112 ?_
      refine lv_iload_n hx hb dX4_failure_115 rfl (lv_at hl 2 rfl) ?_
      refine mw_ld S hK hW 24 rfl rfl (pz_vi (n := mN 24) (by rw [show mN 24 = 8 from rfl]; omega) (by decide)) dX4_failure_116 (fun x_15 hx_15 => ?_)
      refine lv_iadd hx hb dX4_failure_117 ?_
      refine lv_topi (fun x_16 _ => ?_)
      refine mw_su S hK hW hS 23 rfl rfl rfl (pz_vi (n := mN 23) (by rw [show mN 23 = 8 from rfl]; omega) (by decide)) dX4_failure_118 (fun H locs hW hS => ?_)
      refine lv_aload_n hx hb dX4_failure_119 rfl (lv_at hl 1 rfl) ?_
      refine M_g24 S hK hW dX4_failure_120 ?_
      refine lv_iload_n hx hb dX4_failure_123 rfl (lv_at hl 2 rfl) ?_
      refine lv_sipush (v := 320) hx hb dX4_failure_124 (by decide) ?_
      refine lv_iconst (v := 2) hx hb dX4_failure_127 (by decide) ?_
      refine lv_aload_n hx hb dX4_failure_128 rfl (lv_at hl 1 rfl) ?_
      refine M_g24 S hK hW dX4_failure_129 ?_
      refine lv_iload_n hx hb dX4_failure_132 rfl (lv_at hl 2 rfl) ?_
      refine mw_ld S hK hW 24 rfl rfl (pz_vi (n := mN 24) (by rw [show mN 24 = 8 from rfl]; omega) (by decide)) dX4_failure_133 (fun x_17 hx_17 => ?_)
      refine lv_imul hx hb dX4_failure_134 ?_
      refine lv_topi (fun x_18 _ => ?_)
      refine va_mmin hx hb (hml.trans hl.1.symm) hown (hts _ iw_907) (hts _ iw_275) (hts _ iw_64) (hts _ iw_276) (Nat.le_of_ble_eq_true rfl) (Nat.le_of_ble_eq_true rfl) (Nat.le_of_ble_eq_true rfl) (Nat.le_of_ble_eq_true rfl) dX4_failure_135 ?_
      refine lv_topi (fun x_19 _ => ?_)
      refine mw_su S hK hW hS 24 rfl rfl rfl (pz_vi (n := mN 24) (by rw [show mN 24 = 8 from rfl]; omega) (by decide)) dX4_failure_138 (fun H locs hW hS => ?_)
      refine lv_aload_n hx hb dX4_failure_139 rfl (lv_at hl 1 rfl) ?_
      refine M_g25 S hK hW dX4_failure_140 ?_
      refine lv_iload_n hx hb dX4_failure_143 rfl (lv_at hl 2 rfl) ?_
      refine lv_dup2_11 hx hb dX4_failure_144 rfl rfl ?_
      refine mw_ld S hK hW 25 rfl rfl (pz_vi (n := mN 25) (by rw [show mN 25 = 8 from rfl]; omega) (by decide)) dX4_failure_145 (fun x_20 hx_20 => ?_)
      refine lv_iconst (v := 1) hx hb dX4_failure_146 (by decide) ?_
      refine lv_iadd hx hb dX4_failure_147 ?_
      refine lv_topi (fun x_21 _ => ?_)
      refine mw_su S hK hW hS 25 rfl rfl rfl (pz_vi (n := mN 25) (by rw [show mN 25 = 8 from rfl]; omega) (by decide)) dX4_failure_148 (fun H locs hW hS => ?_)
      exact r_v hx hb hr hlocks hS dX4_failure_149 (⟨_, rfl, g2_13, fun k => by rw [g1_13]; exact gDr_upd hnd (gDr_n (by decide)) k, hW⟩)
    · skip
      have i_12 : x_9.toInt > x_11.toInt := by have h9 := pz_nle c_12; exact h9
      refine lv_aload_n hx hb dX4_failure_87 rfl (lv_at hl 1 rfl) ?_
      refine M_g17 S hK hW dX4_failure_88 ?_
      refine lv_iload_n hx hb dX4_failure_91 rfl (lv_at hl 2 rfl) ?_
      refine lv_iconst (v := 0) hx hb dX4_failure_92 (by decide) ?_
      refine mw_st S hK hW hS 17 rfl rfl (pz_vi (n := mN 17) (by rw [show mN 17 = 8 from rfl]; omega) (by decide)) dX4_failure_93 (fun H locs G_22 g1_22 g2_22 hW hS => ?_)
      rw [pz_cl (by omega)] at g1_22
      exact r_v hx hb hr hlocks hS dX4_failure_94 (⟨_, rfl, g2_22, fun k => by rw [g1_22]; exact gDr_upd hnd (gDr_n (by decide)) k, hW⟩)
  · skip
    have i_6 : ¬ x_5.toInt = 2 := by have h9 := pz_neq c_6; exact h9
    refine lv_aload_n hx hb dX4_failure_30 rfl (lv_at hl 0 rfl) ?_
    refine M_g17 S hK hW dX4_failure_31 ?_
    refine lv_iload_n hx hb dX4_failure_34 rfl (lv_at hl 1 rfl) ?_
    refine mw_ld S hK hW 17 rfl rfl (pz_vi (n := mN 17) (by rw [show mN 17 = 8 from rfl]; omega) (by decide)) dX4_failure_35 (fun x_23 hx_23 => ?_)
    replace hx_23 : x_23 = G 17 sj := (hx_23 rfl).trans (congrArg _ (pz_cl (by omega)))
    refine lv_if_ne (tgt := 56) hx hb dX4_failure_36 (by decide) (fun c_24 => ?_) (fun c_24 => ?_)
    · skip
      have i_24 : ¬ x_23.toInt = 0 := by have h9 := pz_neq c_24; exact h9
      refine lv_iconst (v := 0) hx hb dX4_failure_56 (by decide) ?_
      refine lv_istore_n (lv' := [(2, .int 0), (0, .ref h0), (1, .int (nI sj))]) hx hb dX4_failure_57 rfl hl (by decide) rfl (fun ls hl => ?_)
      refine lv_iload_n hx hb dX4_failure_58 rfl (lv_at hl 0 rfl) ?_
      refine lv_if_ne (tgt := 63) hx hb dX4_failure_59 (by decide) (fun c_25 => absurd c_25 (by decide)) (fun c_25 => ?_)
      exact r_v hx hb hr hlocks hS dX4_failure_62 (⟨_, rfl, fun _ _ => rfl, fun _ => Iff.rfl, hW⟩)
    · skip
      have i_24 : x_23.toInt = 0 := by have h9 := pz_eq c_24; exact h9
      have hnd : ¬ gDr (G 17 sj) := gDr_n (Or.inl (hx_23.symm.trans c_24))
      refine lv_aload_n hx hb dX4_failure_39 rfl (lv_at hl 0 rfl) ?_
      refine M_g22 S hK hW dX4_failure_40 ?_
      refine lv_iload_n hx hb dX4_failure_43 rfl (lv_at hl 1 rfl) ?_
      refine mw_ld S hK hW 22 rfl rfl (pz_vi (n := mN 22) (by rw [show mN 22 = 8 from rfl]; omega) (by decide)) dX4_failure_44 (fun x_26 hx_26 => ?_)
      refine lv_aload_n hx hb dX4_failure_45 rfl (lv_at hl 0 rfl) ?_
      refine M_g5 S hK hW dX4_failure_46 (fun x_27 hx_27 => ?_)
      refine lv_icmp_lt (tgt := 56) hx hb dX4_failure_49 (by decide) (fun c_28 => ?_) (fun c_28 => ?_)
      · skip
        have i_28 : x_26.toInt < x_27.toInt := by have h9 := pz_lt c_28; exact h9
        refine lv_iconst (v := 0) hx hb dX4_failure_56 (by decide) ?_
        refine lv_istore_n (lv' := [(2, .int 0), (0, .ref h0), (1, .int (nI sj))]) hx hb dX4_failure_57 rfl hl (by decide) rfl (fun ls hl => ?_)
        refine lv_iload_n hx hb dX4_failure_58 rfl (lv_at hl 0 rfl) ?_
        refine lv_if_ne (tgt := 63) hx hb dX4_failure_59 (by decide) (fun c_29 => absurd c_29 (by decide)) (fun c_29 => ?_)
        exact r_v hx hb hr hlocks hS dX4_failure_62 (⟨_, rfl, fun _ _ => rfl, fun _ => Iff.rfl, hW⟩)
      · skip
        have i_28 : x_26.toInt ≥ x_27.toInt := by have h9 := pz_nlt c_28; exact h9
        refine lv_iconst (v := 1) hx hb dX4_failure_52 (by decide) ?_
        refine lv_goto (tgt := 57) hx hb dX4_failure_53 (by decide) ?_
        refine lv_istore_n (lv' := [(2, .int 1), (0, .ref h0), (1, .int (nI sj))]) hx hb dX4_failure_57 rfl hl (by decide) rfl (fun ls hl => ?_)
        refine lv_iload_n hx hb dX4_failure_58 rfl (lv_at hl 0 rfl) ?_
        refine lv_if_ne (tgt := 63) hx hb dX4_failure_59 (by decide) (fun c_30 => ?_) (fun c_30 => absurd c_30 (by decide))
        refine lv_aload_n hx hb dX4_failure_63 rfl (lv_at hl 1 rfl) ?_
        refine M_g22 S hK hW dX4_failure_64 ?_
        refine lv_iload_n hx hb dX4_failure_67 rfl (lv_at hl 2 rfl) ?_
        refine lv_iconst (v := 0) hx hb dX4_failure_68 (by decide) ?_
        refine mw_su S hK hW hS 22 rfl rfl rfl (pz_vi (n := mN 22) (by rw [show mN 22 = 8 from rfl]; omega) (by decide)) dX4_failure_69 (fun H locs hW hS => ?_)
        refine lv_aload_n hx hb dX4_failure_70 rfl (lv_at hl 1 rfl) ?_
        refine lv_iconst (v := 0) hx hb dX4_failure_71 (by decide) ?_
        refine c_v (n := 1) (As := [.int 0]) (rest := []) S (q_X4_outsNow l dC dI h0 R A V G ns 0 hV2 (by omega)) iw_906 iw_903 iw_905 iw_50 iw_61 (by decide +kernel) rfl ⟨rfl, rfl, Nat.le_of_ble_eq_true rfl, Nat.le_of_ble_eq_true rfl⟩ Kt.blind (M_recv hK hW) hK.at hW hl.1 rfl (Nat.le_of_ble_eq_true rfl) dX4_failure_72 ⟨Nat.le_refl _, Nat.le_refl _⟩ hS (fun _ h9 => h9) (fun v9 H locs hB hz9 hk9 hS => ?_)
        refine W.widen (k := 0) (n := 0) (Nat.le_refl 0) (Nat.le_refl 0) ?_
        obtain ⟨r_31, rfl, hW⟩ := hB
        refine W.eq (g2 := F0 m 75 ls [.int r_31]) rfl ?_
        refine lv_iconst (v := 1) hx hb dX4_failure_75 (by decide) ?_
        refine lv_iadd hx hb dX4_failure_76 ?_
        refine lv_topi (fun x_32 _ => ?_)
        refine lv_aload_n hx hb dX4_failure_77 rfl (lv_at hl 1 rfl) ?_
        refine lv_iconst (v := 1) hx hb dX4_failure_78 (by decide) ?_
        refine c_v (n := 1) (As := [.int 1]) (rest := [.int x_32]) S (q_X4_outsNow l dC dI h0 R A V G ns 1 hV2 (by omega)) iw_906 iw_903 iw_905 iw_50 iw_61 (by decide +kernel) rfl ⟨rfl, rfl, Nat.le_of_ble_eq_true rfl, Nat.le_of_ble_eq_true rfl⟩ Kt.blind (M_recv hK hW) hK.at hW hl.1 rfl (Nat.le_of_ble_eq_true rfl) dX4_failure_79 ⟨Nat.le_refl _, Nat.le_refl _⟩ hS (fun _ h9 => h9) (fun v9 H locs hB hz9 hk9 hS => ?_)
        refine W.widen (k := 0) (n := 0) (Nat.le_refl 0) (Nat.le_refl 0) ?_
        obtain ⟨r_33, rfl, hW⟩ := hB
        refine W.eq (g2 := F0 m 82 ls [.int r_33, .int x_32]) rfl ?_
        refine lv_iconst (v := 2) hx hb dX4_failure_82 (by decide) ?_
        refine lv_idiv hx hb dX4_failure_83 (by decide) ?_
        refine lv_topi (fun x_34 _ => ?_)
        refine lv_icmp_le (tgt := 95) hx hb dX4_failure_84 (by decide) (fun c_35 => ?_) (fun c_35 => ?_)
        · skip
          have i_35 : x_32.toInt ≤ x_34.toInt := by have h9 := pz_le c_35; exact h9
          refine lv_aload_n hx hb dX4_failure_95 rfl (lv_at hl 1 rfl) ?_
          refine M_g17 S hK hW dX4_failure_96 ?_
          refine lv_iload_n hx hb dX4_failure_99 rfl (lv_at hl 2 rfl) ?_
          refine lv_iconst (v := 1) hx hb dX4_failure_100 (by decide) ?_
          refine mw_st S hK hW hS 17 rfl rfl (pz_vi (n := mN 17) (by rw [show mN 17 = 8 from rfl]; omega) (by decide)) dX4_failure_101 (fun H locs G_36 g1_36 g2_36 hW hS => ?_)
          rw [pz_cl (by omega)] at g1_36
          refine lv_aload_n hx hb dX4_failure_102 rfl (lv_at hl 1 rfl) ?_
          refine M_g23 S hK hW dX4_failure_103 ?_
          refine lv_iload_n hx hb dX4_failure_106 rfl (lv_at hl 2 rfl) ?_
          refine lv_aload_n hx hb dX4_failure_107 rfl (lv_at hl 1 rfl) ?_
          refine M_g1 S hK hW dX4_failure_108 (fun x_37 => ?_)
          refine lv_aload_n hx hb dX4_failure_111 rfl (lv_at hl 1 rfl) ?_
          refine M_g24 S hK hW dX4_failure_112 ?_
          refine lv_iload_n hx hb dX4_failure_115 rfl (lv_at hl 2 rfl) ?_
          refine mw_ld S hK hW 24 rfl rfl (pz_vi (n := mN 24) (by rw [show mN 24 = 8 from rfl]; omega) (by decide)) dX4_failure_116 (fun x_38 hx_38 => ?_)
          refine lv_iadd hx hb dX4_failure_117 ?_
          refine lv_topi (fun x_39 _ => ?_)
          refine mw_su S hK hW hS 23 rfl rfl rfl (pz_vi (n := mN 23) (by rw [show mN 23 = 8 from rfl]; omega) (by decide)) dX4_failure_118 (fun H locs hW hS => ?_)
          refine lv_aload_n hx hb dX4_failure_119 rfl (lv_at hl 1 rfl) ?_
          refine M_g24 S hK hW dX4_failure_120 ?_
          refine lv_iload_n hx hb dX4_failure_123 rfl (lv_at hl 2 rfl) ?_
          refine lv_sipush (v := 320) hx hb dX4_failure_124 (by decide) ?_
          refine lv_iconst (v := 2) hx hb dX4_failure_127 (by decide) ?_
          refine lv_aload_n hx hb dX4_failure_128 rfl (lv_at hl 1 rfl) ?_
          refine M_g24 S hK hW dX4_failure_129 ?_
          refine lv_iload_n hx hb dX4_failure_132 rfl (lv_at hl 2 rfl) ?_
          refine mw_ld S hK hW 24 rfl rfl (pz_vi (n := mN 24) (by rw [show mN 24 = 8 from rfl]; omega) (by decide)) dX4_failure_133 (fun x_40 hx_40 => ?_)
          refine lv_imul hx hb dX4_failure_134 ?_
          refine lv_topi (fun x_41 _ => ?_)
          refine va_mmin hx hb (hml.trans hl.1.symm) hown (hts _ iw_907) (hts _ iw_275) (hts _ iw_64) (hts _ iw_276) (Nat.le_of_ble_eq_true rfl) (Nat.le_of_ble_eq_true rfl) (Nat.le_of_ble_eq_true rfl) (Nat.le_of_ble_eq_true rfl) dX4_failure_135 ?_
          refine lv_topi (fun x_42 _ => ?_)
          refine mw_su S hK hW hS 24 rfl rfl rfl (pz_vi (n := mN 24) (by rw [show mN 24 = 8 from rfl]; omega) (by decide)) dX4_failure_138 (fun H locs hW hS => ?_)
          refine lv_aload_n hx hb dX4_failure_139 rfl (lv_at hl 1 rfl) ?_
          refine M_g25 S hK hW dX4_failure_140 ?_
          refine lv_iload_n hx hb dX4_failure_143 rfl (lv_at hl 2 rfl) ?_
          refine lv_dup2_11 hx hb dX4_failure_144 rfl rfl ?_
          refine mw_ld S hK hW 25 rfl rfl (pz_vi (n := mN 25) (by rw [show mN 25 = 8 from rfl]; omega) (by decide)) dX4_failure_145 (fun x_43 hx_43 => ?_)
          refine lv_iconst (v := 1) hx hb dX4_failure_146 (by decide) ?_
          refine lv_iadd hx hb dX4_failure_147 ?_
          refine lv_topi (fun x_44 _ => ?_)
          refine mw_su S hK hW hS 25 rfl rfl rfl (pz_vi (n := mN 25) (by rw [show mN 25 = 8 from rfl]; omega) (by decide)) dX4_failure_148 (fun H locs hW hS => ?_)
          exact r_v hx hb hr hlocks hS dX4_failure_149 (⟨_, rfl, g2_36, fun k => by rw [g1_36]; exact gDr_upd hnd (gDr_n (by decide)) k, hW⟩)
        · skip
          have i_35 : x_32.toInt > x_34.toInt := by have h9 := pz_nle c_35; exact h9
          refine lv_aload_n hx hb dX4_failure_87 rfl (lv_at hl 1 rfl) ?_
          refine M_g17 S hK hW dX4_failure_88 ?_
          refine lv_iload_n hx hb dX4_failure_91 rfl (lv_at hl 2 rfl) ?_
          refine lv_iconst (v := 0) hx hb dX4_failure_92 (by decide) ?_
          refine mw_st S hK hW hS 17 rfl rfl (pz_vi (n := mN 17) (by rw [show mN 17 = 8 from rfl]; omega) (by decide)) dX4_failure_93 (fun H locs G_45 g1_45 g2_45 hW hS => ?_)
          rw [pz_cl (by omega)] at g1_45
          exact r_v hx hb hr hlocks hS dX4_failure_94 (⟨_, rfl, g2_45, fun k => by rw [g1_45]; exact gDr_upd hnd (gDr_n (by decide)) k, hW⟩)

abbrev B_q_X4_answer (dC : Nat → ClassId) (dI : Nat → Nat → Nat) (h0 : Nat) (R : Nat → Nat) (A : Nat → Prop) (V : Nat → Int32) (G : Nat → Nat → Int32) (sj : Nat) : Option Value → Heap → Prop := fun v H => ∃ G1 : Nat → Nat → Int32, v = none ∧ (∀ j, j ≠ 17 → G1 j = G j) ∧ (∀ k, gDr (G1 17 k) ↔ gDr (G 17 k)) ∧ Mw dC dI h0 R A V G1 H
set_option maxHeartbeats 8000000 in
set_option maxRecDepth 20000 in
theorem q_X4_answer (l : Launch) (dC : Nat → ClassId) (dI : Nat → Nat → Nat) (h0 : Nat) (R : Nat → Nat) (A : Nat → Prop) (V : Nat → Int32) (G : Nat → Nat → Int32) (sj : Nat) (hsj : sj < 8) : Met l yX4_answer (cws yX4_answer cX4_answer 2 none) { frames := 0, cells := 0, slots := 0, locals := 0 } (va_Pc [.ref h0, .int (nI sj)] (fun U => Kt dC dI U ∧ Mw dC dI h0 R A V G U.heap)) (Qg (B_q_X4_answer dC dI h0 R A V G sj) A) 0 0 A := by
  refine m_start (KK := Kt dC dI) (Pw := Mw dC dI h0 R A V G) (by decide) (Nat.le_of_ble_eq_true rfl) ?_
  intro p e s m below meth c ls S hr hlocks hin hK hW hS hl
  obtain ⟨hx, hb, hml, hown, hts⟩ := id S
  have hl : lv_has ls 2 [(0, .ref h0), (1, .int (nI sj))] := hl
  refine lv_aload_n hx hb dX4_answer_0 rfl (lv_at hl 0 rfl) ?_
  refine M_g20 S hK hW dX4_answer_1 ?_
  refine lv_iload_n hx hb dX4_answer_4 rfl (lv_at hl 1 rfl) ?_
  refine lv_dup2_11 hx hb dX4_answer_5 rfl rfl ?_
  refine mw_ld S hK hW 20 rfl rfl (pz_vi (n := mN 20) (by rw [show mN 20 = 8 from rfl]; omega) (by decide)) dX4_answer_6 (fun x_1 hx_1 => ?_)
  refine lv_iconst (v := 1) hx hb dX4_answer_7 (by decide) ?_
  refine lv_iadd hx hb dX4_answer_8 ?_
  refine lv_topi (fun x_2 _ => ?_)
  refine mw_su S hK hW hS 20 rfl rfl rfl (pz_vi (n := mN 20) (by rw [show mN 20 = 8 from rfl]; omega) (by decide)) dX4_answer_9 (fun H locs hW hS => ?_)
  refine lv_aload_n hx hb dX4_answer_10 rfl (lv_at hl 0 rfl) ?_
  refine M_g22 S hK hW dX4_answer_11 ?_
  refine lv_iload_n hx hb dX4_answer_14 rfl (lv_at hl 1 rfl) ?_
  refine lv_iconst (v := 0) hx hb dX4_answer_15 (by decide) ?_
  refine mw_su S hK hW hS 22 rfl rfl rfl (pz_vi (n := mN 22) (by rw [show mN 22 = 8 from rfl]; omega) (by decide)) dX4_answer_16 (fun H locs hW hS => ?_)
  refine lv_aload_n hx hb dX4_answer_17 rfl (lv_at hl 0 rfl) ?_
  refine M_g24 S hK hW dX4_answer_18 ?_
  refine lv_iload_n hx hb dX4_answer_21 rfl (lv_at hl 1 rfl) ?_
  refine lv_bipush (v := 10) hx hb dX4_answer_22 (by decide) ?_
  refine mw_su S hK hW hS 24 rfl rfl rfl (pz_vi (n := mN 24) (by rw [show mN 24 = 8 from rfl]; omega) (by decide)) dX4_answer_24 (fun H locs hW hS => ?_)
  refine lv_aload_n hx hb dX4_answer_25 rfl (lv_at hl 0 rfl) ?_
  refine M_g17 S hK hW dX4_answer_26 ?_
  refine lv_iload_n hx hb dX4_answer_29 rfl (lv_at hl 1 rfl) ?_
  refine mw_ld S hK hW 17 rfl rfl (pz_vi (n := mN 17) (by rw [show mN 17 = 8 from rfl]; omega) (by decide)) dX4_answer_30 (fun x_3 hx_3 => ?_)
  replace hx_3 : x_3 = G 17 sj := (hx_3 rfl).trans (congrArg _ (pz_cl (by omega)))
  refine lv_iconst (v := 2) hx hb dX4_answer_31 (by decide) ?_
  refine lv_icmp_ne (tgt := 42) hx hb dX4_answer_32 (by decide) (fun c_4 => ?_) (fun c_4 => ?_)
  · skip
    have i_4 : ¬ x_3.toInt = 2 := by have h9 := pz_neq c_4; exact h9
    exact r_v hx hb hr hlocks hS dX4_answer_42 (⟨_, rfl, fun _ _ => rfl, fun _ => Iff.rfl, hW⟩)
  · skip
    have i_4 : x_3.toInt = 2 := by have h9 := pz_eq c_4; exact h9
    have hnd : ¬ gDr (G 17 sj) := gDr_n (Or.inr (Or.inr (hx_3.symm.trans c_4)))
    refine lv_aload_n hx hb dX4_answer_35 rfl (lv_at hl 0 rfl) ?_
    refine M_g17 S hK hW dX4_answer_36 ?_
    refine lv_iload_n hx hb dX4_answer_39 rfl (lv_at hl 1 rfl) ?_
    refine lv_iconst (v := 0) hx hb dX4_answer_40 (by decide) ?_
    refine mw_st S hK hW hS 17 rfl rfl (pz_vi (n := mN 17) (by rw [show mN 17 = 8 from rfl]; omega) (by decide)) dX4_answer_41 (fun H locs G_5 g1_5 g2_5 hW hS => ?_)
    rw [pz_cl (by omega)] at g1_5
    exact r_v hx hb hr hlocks hS dX4_answer_42 (⟨_, rfl, g2_5, fun k => by rw [g1_5]; exact gDr_upd hnd (gDr_n (by decide)) k, hW⟩)

abbrev B_q_X4_takes (dC : Nat → ClassId) (dI : Nat → Nat → Nat) (h0 : Nat) (R : Nat → Nat) (A : Nat → Prop) (V : Nat → Int32) (G : Nat → Nat → Int32) (cj : Nat) (ij : Nat) (nq : Nat) : Option Value → Heap → Prop := fun v H => ∃ G1 : Nat → Nat → Int32, v = none ∧ G1 31 = upd (G 31) cj (nI (nq - 1)) ∧ I37 G1 ∧ (∀ j, j ≠ 31 → j ≠ 37 → G1 j = G j) ∧ Mw dC dI h0 R A V G1 H
set_option maxHeartbeats 8000000 in
set_option maxRecDepth 20000 in
theorem q_X4_takes (l : Launch) (dC : Nat → ClassId) (dI : Nat → Nat → Nat) (h0 : Nat) (R : Nat → Nat) (A : Nat → Prop) (V : Nat → Int32) (G : Nat → Nat → Int32) (cj : Nat) (ij : Nat) (nq : Nat) (hcj : cj < 200) (hij : ij < nq) (hnq : nq ≤ 2) (hka : G 31 cj = nI nq) (h37 : I37 G) : Met l yX4_takes (cws yX4_takes cX4_takes 4 none) { frames := 0, cells := 0, slots := 0, locals := 0 } (va_Pc [.ref h0, .int (nI cj), .int (nI ij)] (fun U => Kt dC dI U ∧ Mw dC dI h0 R A V G U.heap)) (Qg (B_q_X4_takes dC dI h0 R A V G cj ij nq) A) 0 0 A := by
  refine m_start (KK := Kt dC dI) (Pw := Mw dC dI h0 R A V G) (by decide) (Nat.le_of_ble_eq_true rfl) ?_
  intro p e s m below meth c ls S hr hlocks hin hK hW hS hl
  obtain ⟨hx, hb, hml, hown, hts⟩ := id S
  have hl : lv_has ls 4 [(0, .ref h0), (1, .int (nI cj)), (2, .int (nI ij))] := hl
  have en_i : (nI ij).toInt = ((ij : Nat) : Int) := pz_ti (by omega)
  refine lv_aload_n hx hb dX4_takes_0 rfl (lv_at hl 0 rfl) ?_
  refine M_g18 S hK hW dX4_takes_1 ?_
  refine lv_aload_n hx hb dX4_takes_4 rfl (lv_at hl 0 rfl) ?_
  refine M_g37 S hK hW dX4_takes_5 ?_
  refine lv_iconst (v := 2) hx hb dX4_takes_8 (by decide) ?_
  refine lv_iload_n hx hb dX4_takes_9 rfl (lv_at hl 1 rfl) ?_
  refine lv_imul hx hb dX4_takes_10 ?_
  refine lv_topi (fun x_1 ex_1 => ?_)
  obtain rfl : x_1 = nI (2 * cj) := ex_1.trans (pk_mul 2 cj)
  have en_2 : (nI (2 * cj)).toInt = ((2 * cj : Nat) : Int) := pz_ti (by omega)
  refine lv_iload_n hx hb dX4_takes_11 rfl (lv_at hl 2 rfl) ?_
  refine lv_iadd hx hb dX4_takes_12 ?_
  refine lv_topi (fun x_3 ex_3 => ?_)
  obtain rfl : x_3 = nI ((2 * cj) + ij) := ex_3.trans (nI_add (2 * cj) ij)
  have en_4 : (nI ((2 * cj) + ij)).toInt = (((2 * cj) + ij : Nat) : Int) := pz_ti (by omega)
  refine mw_ld S hK hW 37 rfl rfl (pz_vi (n := mN 37) (by rw [show mN 37 = 400 from rfl]; omega) (by decide)) dX4_takes_13 (fun x_5 hx_5 => ?_)
  replace hx_5 : x_5 = G 37 ((2 * cj) + ij) := (hx_5 rfl).trans (congrArg _ (pz_cl (by omega)))
  obtain ⟨k_6, hk_6, ek_6⟩ := h37 (((2 * cj) + ij)) (by omega)
  obtain rfl : x_5 = nI k_6 := hx_5.trans (ek_6)
  have en_7 : (nI k_6).toInt = ((k_6 : Nat) : Int) := pz_ti (by omega)
  refine lv_dup2_11 hx hb dX4_takes_14 rfl rfl ?_
  refine mw_ld S hK hW 18 rfl rfl (pz_vi (n := mN 18) (by rw [show mN 18 = 8 from rfl]; omega) (by decide)) dX4_takes_15 (fun x_8 hx_8 => ?_)
  refine lv_iconst (v := 1) hx hb dX4_takes_16 (by decide) ?_
  refine lv_isub hx hb dX4_takes_17 ?_
  refine lv_topi (fun x_9 _ => ?_)
  refine mw_su S hK hW hS 18 rfl rfl rfl (pz_vi (n := mN 18) (by rw [show mN 18 = 8 from rfl]; omega) (by decide)) dX4_takes_18 (fun H locs hW hS => ?_)
  refine lv_aload_n hx hb dX4_takes_19 rfl (lv_at hl 0 rfl) ?_
  refine M_g31 S hK hW dX4_takes_20 ?_
  refine lv_iload_n hx hb dX4_takes_23 rfl (lv_at hl 1 rfl) ?_
  refine lv_dup2_11 hx hb dX4_takes_24 rfl rfl ?_
  refine mw_ld S hK hW 31 rfl rfl (pz_vi (n := mN 31) (by rw [show mN 31 = 200 from rfl]; omega) (by decide)) dX4_takes_25 (fun x_10 hx_10 => ?_)
  replace hx_10 : x_10 = G 31 cj := (hx_10 rfl).trans (congrArg _ (pz_cl (by omega)))
  obtain rfl : x_10 = nI nq := hx_10.trans hka
  refine lv_iconst (v := 1) hx hb dX4_takes_26 (by decide) ?_
  refine lv_isub hx hb dX4_takes_27 ?_
  refine lv_topi (fun x_11 ex_11 => ?_)
  obtain rfl : x_11 = nI (nq - 1) := ex_11.trans (pk_sub (a := nq) (b := 1) (by omega))
  have en_12 : (nI (nq - 1)).toInt = ((nq - 1 : Nat) : Int) := pz_ti (by omega)
  refine mw_st S hK hW hS 31 rfl rfl (pz_vi (n := mN 31) (by rw [show mN 31 = 200 from rfl]; omega) (by decide)) dX4_takes_28 (fun H locs G_13 g1_13 g2_13 hW hS => ?_)
  rw [pz_cl (by omega)] at g1_13
  refine lv_iload_n hx hb dX4_takes_29 rfl (lv_at hl 2 rfl) ?_
  refine lv_iconst (v := 1) hx hb dX4_takes_30 (by decide) ?_
  refine lv_icmp_eq (tgt := 43) hx hb dX4_takes_31 (by decide) (fun c_14 => ?_) (fun c_14 => ?_)
  · skip
    have i_14 : (nI ij).toInt = 1 := by have h9 := pz_eq c_14; exact h9
    exact r_v hx hb hr hlocks hS dX4_takes_43 (⟨_, rfl, g1_13, h37.same (g2_13 37 (by decide)), fun j h1 h2 => g2_13 j h1, hW⟩)
  · skip
    have i_14 : ¬ (nI ij).toInt = 1 := by have h9 := pz_neq c_14; exact h9
    refine lv_aload_n hx hb dX4_takes_34 rfl (lv_at hl 0 rfl) ?_
    refine M_g31 S hK hW dX4_takes_35 ?_
    refine lv_iload_n hx hb dX4_takes_38 rfl (lv_at hl 1 rfl) ?_
    refine mw_ld S hK hW 31 rfl rfl (pz_vi (n := mN 31) (by rw [show mN 31 = 200 from rfl]; omega) (by decide)) dX4_takes_39 (fun x_15 hx_15 => ?_)
    replace hx_15 : x_15 = G_13 31 cj := (hx_15 rfl).trans (congrArg _ (pz_cl (by omega)))
    refine lv_if_ne (tgt := 44) hx hb dX4_takes_40 (by decide) (fun c_16 => ?_) (fun c_16 => ?_)
    · skip
      have i_16 : ¬ x_15.toInt = 0 := by have h9 := pz_neq c_16; exact h9
      refine lv_iconst (v := 2) hx hb dX4_takes_44 (by decide) ?_
      refine lv_iload_n hx hb dX4_takes_45 rfl (lv_at hl 1 rfl) ?_
      refine lv_imul hx hb dX4_takes_46 ?_
      refine lv_topi (fun x_17 ex_17 => ?_)
      obtain rfl : x_17 = nI (2 * cj) := ex_17.trans (pk_mul 2 cj)
      have en_18 : (nI (2 * cj)).toInt = ((2 * cj : Nat) : Int) := pz_ti (by omega)
      refine lv_istore_n (lv' := [(3, .int (nI (2 * cj))), (0, .ref h0), (1, .int (nI cj)), (2, .int (nI ij))]) hx hb dX4_takes_47 rfl hl (by decide) rfl (fun ls hl => ?_)
      refine lv_aload_n hx hb dX4_takes_48 rfl (lv_at hl 1 rfl) ?_
      refine M_g37 S hK hW dX4_takes_49 ?_
      refine lv_iload_n hx hb dX4_takes_52 rfl (lv_at hl 0 rfl) ?_
      refine lv_aload_n hx hb dX4_takes_53 rfl (lv_at hl 1 rfl) ?_
      refine M_g37 S hK hW dX4_takes_54 ?_
      refine lv_iload_n hx hb dX4_takes_57 rfl (lv_at hl 0 rfl) ?_
      refine lv_iconst (v := 1) hx hb dX4_takes_58 (by decide) ?_
      refine lv_iadd hx hb dX4_takes_59 ?_
      refine lv_topi (fun x_19 ex_19 => ?_)
      obtain rfl : x_19 = nI ((2 * cj) + 1) := ex_19.trans (nI_add (2 * cj) 1)
      have en_20 : (nI ((2 * cj) + 1)).toInt = (((2 * cj) + 1 : Nat) : Int) := pz_ti (by omega)
      refine mw_ld S hK hW 37 rfl rfl (pz_vi (n := mN 37) (by rw [show mN 37 = 400 from rfl]; omega) (by decide)) dX4_takes_60 (fun x_21 hx_21 => ?_)
      replace hx_21 : x_21 = G_13 37 ((2 * cj) + 1) := (hx_21 rfl).trans (congrArg _ (pz_cl (by omega)))
      obtain ⟨k_22, hk_22, ek_22⟩ := h37 (((2 * cj) + 1)) (by omega)
      obtain rfl : x_21 = nI k_22 := hx_21.trans ((congrFun (g2_13 37 (by decide)) _).trans ek_22)
      have en_23 : (nI k_22).toInt = ((k_22 : Nat) : Int) := pz_ti (by omega)
      refine mw_st S hK hW hS 37 rfl rfl (pz_vi (n := mN 37) (by rw [show mN 37 = 400 from rfl]; omega) (by decide)) dX4_takes_61 (fun H locs G_24 g1_24 g2_24 hW hS => ?_)
      rw [pz_cl (by omega)] at g1_24
      refine lv_aload_n hx hb dX4_takes_62 rfl (lv_at hl 1 rfl) ?_
      refine M_g38 S hK hW dX4_takes_63 ?_
      refine lv_iload_n hx hb dX4_takes_66 rfl (lv_at hl 0 rfl) ?_
      refine lv_aload_n hx hb dX4_takes_67 rfl (lv_at hl 1 rfl) ?_
      refine M_g38 S hK hW dX4_takes_68 ?_
      refine lv_iload_n hx hb dX4_takes_71 rfl (lv_at hl 0 rfl) ?_
      refine lv_iconst (v := 1) hx hb dX4_takes_72 (by decide) ?_
      refine lv_iadd hx hb dX4_takes_73 ?_
      refine lv_topi (fun x_25 ex_25 => ?_)
      obtain rfl : x_25 = nI ((2 * cj) + 1) := ex_25.trans (nI_add (2 * cj) 1)
      have en_26 : (nI ((2 * cj) + 1)).toInt = (((2 * cj) + 1 : Nat) : Int) := pz_ti (by omega)
      refine mw_ld S hK hW 38 rfl rfl (pz_vi (n := mN 38) (by rw [show mN 38 = 400 from rfl]; omega) (by decide)) dX4_takes_74 (fun x_27 hx_27 => ?_)
      refine mw_su S hK hW hS 38 rfl rfl rfl (pz_vi (n := mN 38) (by rw [show mN 38 = 400 from rfl]; omega) (by decide)) dX4_takes_75 (fun H locs hW hS => ?_)
      refine lv_aload_n hx hb dX4_takes_76 rfl (lv_at hl 1 rfl) ?_
      refine M_g39 S hK hW dX4_takes_77 ?_
      refine lv_iload_n hx hb dX4_takes_80 rfl (lv_at hl 0 rfl) ?_
      refine lv_aload_n hx hb dX4_takes_81 rfl (lv_at hl 1 rfl) ?_
      refine M_g39 S hK hW dX4_takes_82 ?_
      refine lv_iload_n hx hb dX4_takes_85 rfl (lv_at hl 0 rfl) ?_
      refine lv_iconst (v := 1) hx hb dX4_takes_86 (by decide) ?_
      refine lv_iadd hx hb dX4_takes_87 ?_
      refine lv_topi (fun x_28 ex_28 => ?_)
      obtain rfl : x_28 = nI ((2 * cj) + 1) := ex_28.trans (nI_add (2 * cj) 1)
      have en_29 : (nI ((2 * cj) + 1)).toInt = (((2 * cj) + 1 : Nat) : Int) := pz_ti (by omega)
      refine mw_ld S hK hW 39 rfl rfl (pz_vi (n := mN 39) (by rw [show mN 39 = 400 from rfl]; omega) (by decide)) dX4_takes_88 (fun x_30 hx_30 => ?_)
      refine mw_su S hK hW hS 39 rfl rfl rfl (pz_vi (n := mN 39) (by rw [show mN 39 = 400 from rfl]; omega) (by decide)) dX4_takes_89 (fun H locs hW hS => ?_)
      refine lv_aload_n hx hb dX4_takes_90 rfl (lv_at hl 1 rfl) ?_
      refine M_g40 S hK hW dX4_takes_91 ?_
      refine lv_iload_n hx hb dX4_takes_94 rfl (lv_at hl 0 rfl) ?_
      refine lv_aload_n hx hb dX4_takes_95 rfl (lv_at hl 1 rfl) ?_
      refine M_g40 S hK hW dX4_takes_96 ?_
      refine lv_iload_n hx hb dX4_takes_99 rfl (lv_at hl 0 rfl) ?_
      refine lv_iconst (v := 1) hx hb dX4_takes_100 (by decide) ?_
      refine lv_iadd hx hb dX4_takes_101 ?_
      refine lv_topi (fun x_31 ex_31 => ?_)
      obtain rfl : x_31 = nI ((2 * cj) + 1) := ex_31.trans (nI_add (2 * cj) 1)
      have en_32 : (nI ((2 * cj) + 1)).toInt = (((2 * cj) + 1 : Nat) : Int) := pz_ti (by omega)
      refine mw_lz S hK hW 40 rfl rfl (pz_vi (n := mN 40) (by rw [show mN 40 = 400 from rfl]; omega) (by decide)) dX4_takes_102 (fun x_33 => ?_)
      refine mw_sz S hK hW hS 40 rfl rfl rfl (pz_vi (n := mN 40) (by rw [show mN 40 = 400 from rfl]; omega) (by decide)) dX4_takes_103 (fun H locs hW hS => ?_)
      exact r_v hx hb hr hlocks hS dX4_takes_104 (⟨_, rfl, (g2_24 31 (by decide)).trans g1_13, (h37.same (g2_13 37 (by decide))).up hk_22 g1_24, fun j h1 h2 => (g2_24 j h2).trans (g2_13 j h1), hW⟩)
    · skip
      have i_16 : x_15.toInt = 0 := by have h9 := pz_eq c_16; exact h9
      exact r_v hx hb hr hlocks hS dX4_takes_43 (⟨_, rfl, g1_13, h37.same (g2_13 37 (by decide)), fun j h1 h2 => g2_13 j h1, hW⟩)

abbrev B_q_X4_ends (dC : Nat → ClassId) (dI : Nat → Nat → Nat) (h0 : Nat) (R : Nat → Nat) (A : Nat → Prop) (V : Nat → Int32) (G : Nat → Nat → Int32) (cj : Nat) (hw : Int32) : Option Value → Heap → Prop := fun v H => ∃ G1 : Nat → Nat → Int32, v = none ∧ EndR cj hw G G1 ∧ Mw dC dI h0 R A V G1 H
set_option maxHeartbeats 8000000 in
set_option maxRecDepth 20000 in
theorem q_X4_ends (l : Launch) (dC : Nat → ClassId) (dI : Nat → Nat → Nat) (h0 : Nat) (R : Nat → Nat) (A : Nat → Prop) (V : Nat → Int32) (G : Nat → Nat → Int32) (cj : Nat) (hw : Int32) (hcj : cj < 200) (h31 : I31 G) (h37 : I37 G) : Met l yX4_ends (cws yX4_ends cX4_ends 3 none) { frames := 1, cells := 0, slots := 0, locals := 23 } (va_Pc [.ref h0, .int (nI cj), .int hw] (fun U => Kt dC dI U ∧ Mw dC dI h0 R A V G U.heap)) (Qg (B_q_X4_ends dC dI h0 R A V G cj hw) A) 0 0 A := by
  refine m_start (KK := Kt dC dI) (Pw := Mw dC dI h0 R A V G) (by decide) (Nat.le_of_ble_eq_true rfl) ?_
  intro p e s m below meth c ls S hr hlocks hin hK hW hS hl
  obtain ⟨hx, hb, hml, hown, hts⟩ := id S
  have hl : lv_has ls 3 [(0, .ref h0), (1, .int (nI cj)), (2, .int hw)] := hl
  obtain ⟨n0, hn0, en0⟩ := h31 cj hcj
  have loop_B0 : ∀ (k9 : Nat) (n : Nat) (G7 : Nat → Nat → Int32) (H : Heap) (locs : List Loc) (ls : Array Slot), n = k9 → (n ≤ 2) → (G7 31 cj = nI n) → (∀ j, j ≠ cj → G7 31 j = G 31 j) → (I37 G7) → (∀ j, j ≠ 31 → j ≠ 37 → G7 j = G j) → Mw dC dI h0 R A V G7 H → va_S A s.heap H locs → lv_has ls 3 [(0, .ref h0), (1, .int (nI cj)), (2, .int hw)] → W p l e { frames := 1, cells := 0, slots := 0, locals := 23 } s m ([.ref h0, .int (nI cj), .int hw] : List Value).toArray below meth c H locs 0 0 (MQ below (Qg (B_q_X4_ends dC dI h0 R A V G cj hw) A) ([.ref h0, .int (nI cj), .int hw] : List Value).toArray s 0 0 A) (F0 m 0 ls []) := by
    intro k9
    induction k9 using Nat.strongRecOn with
    | ind k9 ih_B0 =>
      intro n G7 H locs ls hm_B0 hle hn ho31 h37 ho hW hS hl
      have en_n : (nI n).toInt = ((n : Nat) : Int) := pz_ti (by omega)
      refine lv_aload_n hx hb dX4_ends_0 rfl (lv_at hl 0 rfl) ?_
      refine M_g31 S hK hW dX4_ends_1 ?_
      refine lv_iload_n hx hb dX4_ends_4 rfl (lv_at hl 1 rfl) ?_
      refine mw_ld S hK hW 31 rfl rfl (pz_vi (n := mN 31) (by rw [show mN 31 = 200 from rfl]; omega) (by decide)) dX4_ends_5 (fun x_1 hx_1 => ?_)
      replace hx_1 : x_1 = G7 31 cj := (hx_1 rfl).trans (congrArg _ (pz_cl (by omega)))
      obtain rfl : x_1 = nI n := hx_1.trans hn
      refine lv_if_le (tgt := 18) hx hb dX4_ends_6 (by decide) (fun c_2 => ?_) (fun c_2 => ?_)
      · skip
        have i_2 : (nI n).toInt ≤ 0 := by have h9 := pz_le c_2; exact h9
        refine lv_aload_n hx hb dX4_ends_18 rfl (lv_at hl 0 rfl) ?_
        refine M_g30 S hK hW dX4_ends_19 ?_
        refine lv_iload_n hx hb dX4_ends_22 rfl (lv_at hl 1 rfl) ?_
        refine lv_iload_n hx hb dX4_ends_23 rfl (lv_at hl 2 rfl) ?_
        refine mw_st S hK hW hS 30 rfl rfl (pz_vi (n := mN 30) (by rw [show mN 30 = 200 from rfl]; omega) (by decide)) dX4_ends_24 (fun H locs G_3 g1_3 g2_3 hW hS => ?_)
        rw [pz_cl (by omega)] at g1_3
        refine lv_aload_n hx hb dX4_ends_25 rfl (lv_at hl 0 rfl) ?_
        refine M_g34 S hK hW dX4_ends_26 ?_
        refine lv_iload_n hx hb dX4_ends_29 rfl (lv_at hl 1 rfl) ?_
        refine lv_aload_n hx hb dX4_ends_30 rfl (lv_at hl 0 rfl) ?_
        refine M_g1 S hK hW dX4_ends_31 (fun x_4 => ?_)
        refine mw_su S hK hW hS 34 rfl rfl rfl (pz_vi (n := mN 34) (by rw [show mN 34 = 200 from rfl]; omega) (by decide)) dX4_ends_34 (fun H locs hW hS => ?_)
        exact r_v hx hb hr hlocks hS dX4_ends_35 (⟨_, rfl, ⟨by rw [g2_3 31 (by decide), hn, show n = 0 by omega]; rfl, fun j hj => by rw [g2_3 31 (by decide)]; exact ho31 j hj, by rw [g1_3, ho 30 (by decide) (by decide)], h37.same (g2_3 37 (by decide)), fun j h1 h2 h3 => (g2_3 j h1).trans (ho j h2 h3)⟩, hW⟩)
      · skip
        have i_2 : (nI n).toInt > 0 := by have h9 := pz_nle c_2; exact h9
        refine lv_aload_n hx hb dX4_ends_9 rfl (lv_at hl 0 rfl) ?_
        refine lv_iload_n hx hb dX4_ends_10 rfl (lv_at hl 1 rfl) ?_
        refine lv_iconst (v := 0) hx hb dX4_ends_11 (by decide) ?_
        refine c_v (n := 2) (As := [.int (nI cj), .int 0]) (rest := []) S (q_X4_takes l dC dI h0 R A V G7 cj 0 n hcj (by omega) hle hn h37) iw_882 iw_879 iw_881 iw_45 iw_61 (by decide +kernel) rfl ⟨rfl, rfl, Nat.le_of_ble_eq_true rfl, Nat.le_of_ble_eq_true rfl⟩ Kt.blind (M_recv hK hW) hK.at hW hl.1 rfl (Nat.le_of_ble_eq_true rfl) dX4_ends_12 ⟨Nat.le_refl _, Nat.le_refl _⟩ hS (fun _ h9 => h9) (fun v9 H locs hB hz9 hk9 hS => ?_)
        refine W.widen (k := 0) (n := 0) (Nat.le_refl 0) (Nat.le_refl 0) ?_
        obtain ⟨G_5, rfl, t31_5, t37_5, to_5, hW⟩ := hB
        refine W.eq (g2 := F0 m 15 ls []) rfl ?_
        refine lv_goto (tgt := 0) hx hb dX4_ends_15 (by decide) ?_
        exact ih_B0 _ (by omega) (n - 1) G_5 _ _ ls rfl (by omega) (by rw [t31_5]; exact pk_us) (fun j hj => by rw [t31_5, pk_un hj]; exact ho31 j hj) (t37_5) (fun j h1 h2 => (to_5 j h1 h2).trans (ho j h1 h2)) hW hS (lv_sub hl [0, 1, 2] rfl)
  exact loop_B0 _ n0 G _ _ ls rfl (hn0) (en0) (fun _ _ => rfl) (h37) (fun _ _ _ => rfl) hW hS (lv_sub hl [0, 1, 2] rfl)

abbrev B_q_X4_off (dC : Nat → ClassId) (dI : Nat → Nat → Nat) (h0 : Nat) (R : Nat → Nat) (A : Nat → Prop) (V : Nat → Int32) (G : Nat → Nat → Int32) (ns : Nat) (nc : Nat) (dr : Nat → Prop) (a1 : Int32) : Option Value → Heap → Prop := fun v H => ∃ (r : Int32) (V1 : Nat → Int32) (G1 : Nat → Nat → Int32), v = some (.int r) ∧ MI ns nc dr V1 G1 ∧ KV V V1 ∧ Mw dC dI h0 R A V1 G1 H
set_option maxHeartbeats 8000000 in
set_option maxRecDepth 20000 in
theorem q_X4_off (l : Launch) (dC : Nat → ClassId) (dI : Nat → Nat → Nat) (h0 : Nat) (R : Nat → Nat) (A : Nat → Prop) (V : Nat → Int32) (G : Nat → Nat → Int32) (ns : Nat) (nc : Nat) (dr : Nat → Prop) (a1 : Int32) (hM : MI ns nc dr V G) : Met l yX4_off (cws yX4_off cX4_off 2 (some .int)) { frames := 2, cells := 0, slots := 0, locals := 45 } (va_Pc [.ref h0, .int a1] (fun U => Kt dC dI U ∧ Mw dC dI h0 R A V G U.heap)) (Qg (B_q_X4_off dC dI h0 R A V G ns nc dr a1) A) 0 0 A := by
  refine m_start (KK := Kt dC dI) (Pw := Mw dC dI h0 R A V G) (by decide) (Nat.le_of_ble_eq_true rfl) ?_
  intro p e s m below meth c ls S hr hlocks hin hK hW hS hl
  obtain ⟨hx, hb, hml, hown, hts⟩ := id S
  have hl : lv_has ls 2 [(0, .ref h0), (1, .int a1)] := hl
  obtain ⟨⟨hV2, hns⟩, ⟨hV3, hnc⟩, h31, h37, hQ, hZ, hD⟩ := id hM
  have en_s : (nI ns).toInt = ((ns : Nat) : Int) := pz_ti (by omega)
  have en_c : (nI nc).toInt = ((nc : Nat) : Int) := pz_ti (by omega)
  refine lv_aload_n hx hb dX4_off_0 rfl (lv_at hl 0 rfl) ?_
  refine lv_iload_n hx hb dX4_off_1 rfl (lv_at hl 1 rfl) ?_
  refine c_v (n := 1) (As := [.int a1]) (rest := []) S (q_X4_isCall l dC dI h0 R A V G nc a1 hV3 (by omega)) iw_874 iw_871 iw_873 iw_43 iw_61 (by decide +kernel) rfl ⟨rfl, rfl, Nat.le_of_ble_eq_true rfl, Nat.le_of_ble_eq_true rfl⟩ Kt.blind (M_recv hK hW) hK.at hW hl.1 rfl (Nat.le_of_ble_eq_true rfl) dX4_off_2 ⟨Nat.le_refl _, Nat.le_refl _⟩ hS (fun _ h9 => h9) (fun v9 H locs hB hz9 hk9 hS => ?_)
  refine W.widen (k := 0) (n := 0) (Nat.le_refl 0) (Nat.le_refl 0) ?_
  obtain ⟨r_1, rfl, hr_1, hW⟩ := hB
  refine W.eq (g2 := F0 m 5 ls [.int r_1]) rfl ?_
  rcases hr_1 with ⟨ha_1, hb_1, rfl⟩ | ⟨ha_1, rfl⟩
  · skip
    obtain ⟨j_1, hj_1, ej_1⟩ := pz_of ha_1 hb_1
    subst ej_1
    have en_2 : (nI j_1).toInt = ((j_1 : Nat) : Int) := pz_ti (by omega)
    refine lv_if_ne (tgt := 14) hx hb dX4_off_5 (by decide) (fun c_3 => ?_) (fun c_3 => absurd c_3 (by decide))
    refine lv_aload_n hx hb dX4_off_14 rfl (lv_at hl 0 rfl) ?_
    refine M_g30 S hK hW dX4_off_15 ?_
    refine lv_iload_n hx hb dX4_off_18 rfl (lv_at hl 1 rfl) ?_
    refine mw_ld S hK hW 30 rfl rfl (pz_vi (n := mN 30) (by rw [show mN 30 = 200 from rfl]; omega) (by decide)) dX4_off_19 (fun x_4 hx_4 => ?_)
    replace hx_4 : x_4 = G 30 j_1 := (hx_4 rfl).trans (congrArg _ (pz_cl (by omega)))
    refine lv_iconst (v := 1) hx hb dX4_off_20 (by decide) ?_
    refine lv_icmp_le (tgt := 31) hx hb dX4_off_21 (by decide) (fun c_5 => ?_) (fun c_5 => ?_)
    · skip
      have i_5 : x_4.toInt ≤ 1 := by have h9 := pz_le c_5; exact h9
      refine lv_aload_n hx hb dX4_off_31 rfl (lv_at hl 0 rfl) ?_
      refine lv_iload_n hx hb dX4_off_32 rfl (lv_at hl 1 rfl) ?_
      refine lv_iconst (v := 4) hx hb dX4_off_33 (by decide) ?_
      refine c_v (n := 2) (As := [.int (nI j_1), .int 4]) (rest := []) S (q_X4_ends l dC dI h0 R A V G j_1 4 (by omega) h31 h37) iw_878 iw_875 iw_877 iw_44 iw_61 (by decide +kernel) rfl ⟨rfl, rfl, Nat.le_of_ble_eq_true rfl, Nat.le_of_ble_eq_true rfl⟩ Kt.blind (M_recv hK hW) hK.at hW hl.1 rfl (Nat.le_of_ble_eq_true rfl) dX4_off_34 ⟨Nat.le_refl _, Nat.le_refl _⟩ hS (fun _ h9 => h9) (fun v9 H locs hB hz9 hk9 hS => ?_)
      refine W.widen (k := 0) (n := 0) (Nat.le_refl 0) (Nat.le_refl 0) ?_
      obtain ⟨G_6, rfl, er_6, hW⟩ := hB
      refine W.eq (g2 := F0 m 37 ls []) rfl ?_
      refine lv_iconst (v := 1) hx hb dX4_off_37 (by decide) ?_
      exact r_i (v := 1) hx hb hr hlocks hS dX4_off_38 (⟨_, _, _, rfl, hM.ends (by omega) er_6, KV.rf, hW⟩)
    · skip
      have i_5 : x_4.toInt > 1 := by have h9 := pz_nle c_5; exact h9
      refine lv_aload_n hx hb dX4_off_24 rfl (lv_at hl 0 rfl) ?_
      refine lv_bipush (v := (-3)) hx hb dX4_off_25 (by decide) ?_
      refine c_v (n := 1) (As := [.int (-3)]) (rest := []) S (q_X4_refuse l dC dI h0 R A V G (-3) (by unfold vp_in; decide)) iw_787 iw_784 iw_786 iw_33 iw_61 (by decide +kernel) rfl ⟨rfl, rfl, Nat.le_of_ble_eq_true rfl, Nat.le_of_ble_eq_true rfl⟩ Kt.blind (M_recv hK hW) hK.at hW hl.1 rfl (Nat.le_of_ble_eq_true rfl) dX4_off_27 ⟨Nat.le_refl _, Nat.le_refl _⟩ hS (fun _ h9 => h9) (fun v9 H locs hB hz9 hk9 hS => ?_)
      refine W.widen (k := 0) (n := 0) (Nat.le_refl 0) (Nat.le_refl 0) ?_
      obtain ⟨_, rfl, rfl, hW⟩ := hB
      refine W.eq (g2 := F0 m 30 ls [.int (-3)]) rfl ?_
      exact r_i (v := (-3)) hx hb hr hlocks hS dX4_off_30 (⟨_, _, _, rfl, hM, KV.rf, hW⟩)
  · skip
    refine lv_if_ne (tgt := 14) hx hb dX4_off_5 (by decide) (fun c_8 => absurd c_8 (by decide)) (fun c_8 => ?_)
    refine lv_aload_n hx hb dX4_off_8 rfl (lv_at hl 0 rfl) ?_
    refine lv_iconst (v := (-1)) hx hb dX4_off_9 (by decide) ?_
    refine c_v (n := 1) (As := [.int (-1)]) (rest := []) S (q_X4_refuse l dC dI h0 R A V G (-1) (by unfold vp_in; decide)) iw_787 iw_784 iw_786 iw_33 iw_61 (by decide +kernel) rfl ⟨rfl, rfl, Nat.le_of_ble_eq_true rfl, Nat.le_of_ble_eq_true rfl⟩ Kt.blind (M_recv hK hW) hK.at hW hl.1 rfl (Nat.le_of_ble_eq_true rfl) dX4_off_10 ⟨Nat.le_refl _, Nat.le_refl _⟩ hS (fun _ h9 => h9) (fun v9 H locs hB hz9 hk9 hS => ?_)
    refine W.widen (k := 0) (n := 0) (Nat.le_refl 0) (Nat.le_refl 0) ?_
    obtain ⟨_, rfl, rfl, hW⟩ := hB
    refine W.eq (g2 := F0 m 13 ls [.int (-1)]) rfl ?_
    exact r_i (v := (-1)) hx hb hr hlocks hS dX4_off_13 (⟨_, _, _, rfl, hM, KV.rf, hW⟩)

abbrev B_q_X4_comesBack (dC : Nat → ClassId) (dI : Nat → Nat → Nat) (h0 : Nat) (R : Nat → Nat) (A : Nat → Prop) (V : Nat → Int32) (G : Nat → Nat → Int32) (ns : Nat) (nc : Nat) (dr : Nat → Prop) (cj : Nat) : Option Value → Heap → Prop := fun v H => ∃ (r : Int32) (V1 : Nat → Int32) (G1 : Nat → Nat → Int32), v = some (.int r) ∧ MI ns nc dr V1 G1 ∧ KV V V1 ∧ Mw dC dI h0 R A V1 G1 H
set_option maxHeartbeats 8000000 in
set_option maxRecDepth 20000 in
theorem q_X4_comesBack (l : Launch) (dC : Nat → ClassId) (dI : Nat → Nat → Nat) (h0 : Nat) (R : Nat → Nat) (A : Nat → Prop) (V : Nat → Int32) (G : Nat → Nat → Int32) (ns : Nat) (nc : Nat) (dr : Nat → Prop) (cj : Nat) (hM : MI ns nc dr V G) (hcn : cj < nc) : Met l yX4_comesBack (cws yX4_comesBack cX4_comesBack 5 (some .boolean)) { frames := 2, cells := 0, slots := 0, locals := 45 } (va_Pc [.ref h0, .int (nI cj)] (fun U => Kt dC dI U ∧ Mw dC dI h0 R A V G U.heap)) (Qg (B_q_X4_comesBack dC dI h0 R A V G ns nc dr cj) A) 0 0 A := by
  refine m_start (KK := Kt dC dI) (Pw := Mw dC dI h0 R A V G) (by decide) (Nat.le_of_ble_eq_true rfl) ?_
  intro p e s m below meth c ls S hr hlocks hin hK hW hS hl
  obtain ⟨hx, hb, hml, hown, hts⟩ := id S
  have hl : lv_has ls 5 [(0, .ref h0), (1, .int (nI cj))] := hl
  obtain ⟨⟨hV2, hns⟩, ⟨hV3, hnc⟩, h31, h37, hQ, hZ, hD⟩ := id hM
  have en_s : (nI ns).toInt = ((ns : Nat) : Int) := pz_ti (by omega)
  have en_c : (nI nc).toInt = ((nc : Nat) : Int) := pz_ti (by omega)
  obtain ⟨n0, hn0, en0⟩ := h31 cj (by omega)
  refine lv_iconst (v := 0) hx hb dX4_comesBack_0 (by decide) ?_
  refine lv_istore_n (lv' := [(2, .int 0), (0, .ref h0), (1, .int (nI cj))]) hx hb dX4_comesBack_1 rfl hl (by decide) rfl (fun ls hl => ?_)
  have loop_B2 : ∀ (k9 : Nat) (i : Nat) (n : Nat) (G7 : Nat → Nat → Int32) (H : Heap) (locs : List Loc) (ls : Array Slot), n - i = k9 → (n ≤ 2) → (i ≤ n) → (G7 31 cj = nI n) → (MI ns nc dr V G7) → Mw dC dI h0 R A V G7 H → va_S A s.heap H locs → lv_has ls 5 [(0, .ref h0), (1, .int (nI cj)), (2, .int (nI i))] → W p l e { frames := 2, cells := 0, slots := 0, locals := 45 } s m ([.ref h0, .int (nI cj)] : List Value).toArray below meth c H locs 0 0 (MQ below (Qg (B_q_X4_comesBack dC dI h0 R A V G ns nc dr cj) A) ([.ref h0, .int (nI cj)] : List Value).toArray s 0 0 A) (F0 m 2 ls []) := by
    intro k9
    induction k9 using Nat.strongRecOn with
    | ind k9 ih_B2 =>
      intro i n G7 H locs ls hm_B2 hle hin hn hM7 hW hS hl
      have en_n : (nI n).toInt = ((n : Nat) : Int) := pz_ti (by omega)
      have en_i : (nI i).toInt = ((i : Nat) : Int) := pz_ti (by omega)
      obtain ⟨-, -, h31, h37, hQ, hZ, hD⟩ := id hM7
      refine lv_iload_n hx hb dX4_comesBack_2 rfl (lv_at hl 2 rfl) ?_
      refine lv_aload_n hx hb dX4_comesBack_3 rfl (lv_at hl 0 rfl) ?_
      refine M_g31 S hK hW dX4_comesBack_4 ?_
      refine lv_iload_n hx hb dX4_comesBack_7 rfl (lv_at hl 1 rfl) ?_
      refine mw_ld S hK hW 31 rfl rfl (pz_vi (n := mN 31) (by rw [show mN 31 = 200 from rfl]; omega) (by decide)) dX4_comesBack_8 (fun x_1 hx_1 => ?_)
      replace hx_1 : x_1 = G7 31 cj := (hx_1 rfl).trans (congrArg _ (pz_cl (by omega)))
      obtain rfl : x_1 = nI n := hx_1.trans hn
      refine lv_icmp_ge (tgt := 91) hx hb dX4_comesBack_9 (by decide) (fun c_2 => ?_) (fun c_2 => ?_)
      · skip
        have i_2 : (nI i).toInt ≥ (nI n).toInt := by have h9 := pz_ge c_2; exact h9
        refine lv_aload_n hx hb dX4_comesBack_91 rfl (lv_at hl 0 rfl) ?_
        refine M_g31 S hK hW dX4_comesBack_92 ?_
        refine lv_iload_n hx hb dX4_comesBack_95 rfl (lv_at hl 1 rfl) ?_
        refine mw_ld S hK hW 31 rfl rfl (pz_vi (n := mN 31) (by rw [show mN 31 = 200 from rfl]; omega) (by decide)) dX4_comesBack_96 (fun x_3 hx_3 => ?_)
        replace hx_3 : x_3 = G7 31 cj := (hx_3 rfl).trans (congrArg _ (pz_cl (by omega)))
        obtain rfl : x_3 = nI n := hx_3.trans hn
        refine lv_if_le (tgt := 102) hx hb dX4_comesBack_97 (by decide) (fun c_4 => ?_) (fun c_4 => ?_)
        · skip
          have i_4 : (nI n).toInt ≤ 0 := by have h9 := pz_le c_4; exact h9
          refine lv_aload_n hx hb dX4_comesBack_102 rfl (lv_at hl 0 rfl) ?_
          refine M_g36 S hK hW dX4_comesBack_103 ?_
          refine lv_iload_n hx hb dX4_comesBack_106 rfl (lv_at hl 1 rfl) ?_
          refine mw_lz S hK hW 36 rfl rfl (pz_vi (n := mN 36) (by rw [show mN 36 = 200 from rfl]; omega) (by decide)) dX4_comesBack_107 (fun x_5 => ?_)
          refine lv_if_eq (tgt := 164) hx hb dX4_comesBack_108 (by decide) (fun c_6 => ?_) (fun c_6 => ?_)
          · skip
            have i_6 : x_5.toInt = 0 := by have h9 := pz_eq c_6; exact h9
            refine lv_aload_n hx hb dX4_comesBack_164 rfl (lv_at hl 0 rfl) ?_
            refine lv_iload_n hx hb dX4_comesBack_165 rfl (lv_at hl 1 rfl) ?_
            refine lv_iconst (v := 3) hx hb dX4_comesBack_166 (by decide) ?_
            refine c_v (n := 2) (As := [.int (nI cj), .int 3]) (rest := []) S (q_X4_ends l dC dI h0 R A V G7 cj 3 (by omega) hM7.2.2.1 hM7.2.2.2.1) iw_878 iw_875 iw_877 iw_44 iw_61 (by decide +kernel) rfl ⟨rfl, rfl, Nat.le_of_ble_eq_true rfl, Nat.le_of_ble_eq_true rfl⟩ Kt.blind (M_recv hK hW) hK.at hW hl.1 rfl (Nat.le_of_ble_eq_true rfl) dX4_comesBack_167 ⟨Nat.le_refl _, Nat.le_refl _⟩ hS (fun _ h9 => h9) (fun v9 H locs hB hz9 hk9 hS => ?_)
            refine W.widen (k := 0) (n := 0) (Nat.le_refl 0) (Nat.le_refl 0) ?_
            obtain ⟨G_7, rfl, er_7, hW⟩ := hB
            refine W.eq (g2 := F0 m 170 ls []) rfl ?_
            have hM_7 : MI ns nc dr V G_7 := hM7.ends (by omega) er_7
            refine lv_iconst (v := 1) hx hb dX4_comesBack_170 (by decide) ?_
            exact r_z (v := 1) hx hb hr rfl hlocks hS dX4_comesBack_171 (⟨_, _, _, rfl, hM_7, KV.rf, hW⟩)
          · skip
            have i_6 : ¬ x_5.toInt = 0 := by have h9 := pz_neq c_6; exact h9
            refine lv_aload_n hx hb dX4_comesBack_111 rfl (lv_at hl 0 rfl) ?_
            refine M_g1 S hK hW dX4_comesBack_112 (fun x_8 => ?_)
            refine lv_aload_n hx hb dX4_comesBack_115 rfl (lv_at hl 0 rfl) ?_
            refine M_g29 S hK hW dX4_comesBack_116 ?_
            refine lv_iload_n hx hb dX4_comesBack_119 rfl (lv_at hl 1 rfl) ?_
            refine mw_ld S hK hW 29 rfl rfl (pz_vi (n := mN 29) (by rw [show mN 29 = 200 from rfl]; omega) (by decide)) dX4_comesBack_120 (fun x_9 hx_9 => ?_)
            refine lv_icmp_ge (tgt := 164) hx hb dX4_comesBack_121 (by decide) (fun c_10 => ?_) (fun c_10 => ?_)
            · skip
              have i_10 : x_8.toInt ≥ x_9.toInt := by have h9 := pz_ge c_10; exact h9
              refine lv_aload_n hx hb dX4_comesBack_164 rfl (lv_at hl 0 rfl) ?_
              refine lv_iload_n hx hb dX4_comesBack_165 rfl (lv_at hl 1 rfl) ?_
              refine lv_iconst (v := 3) hx hb dX4_comesBack_166 (by decide) ?_
              refine c_v (n := 2) (As := [.int (nI cj), .int 3]) (rest := []) S (q_X4_ends l dC dI h0 R A V G7 cj 3 (by omega) hM7.2.2.1 hM7.2.2.2.1) iw_878 iw_875 iw_877 iw_44 iw_61 (by decide +kernel) rfl ⟨rfl, rfl, Nat.le_of_ble_eq_true rfl, Nat.le_of_ble_eq_true rfl⟩ Kt.blind (M_recv hK hW) hK.at hW hl.1 rfl (Nat.le_of_ble_eq_true rfl) dX4_comesBack_167 ⟨Nat.le_refl _, Nat.le_refl _⟩ hS (fun _ h9 => h9) (fun v9 H locs hB hz9 hk9 hS => ?_)
              refine W.widen (k := 0) (n := 0) (Nat.le_refl 0) (Nat.le_refl 0) ?_
              obtain ⟨G_11, rfl, er_11, hW⟩ := hB
              refine W.eq (g2 := F0 m 170 ls []) rfl ?_
              have hM_11 : MI ns nc dr V G_11 := hM7.ends (by omega) er_11
              refine lv_iconst (v := 1) hx hb dX4_comesBack_170 (by decide) ?_
              exact r_z (v := 1) hx hb hr rfl hlocks hS dX4_comesBack_171 (⟨_, _, _, rfl, hM_11, KV.rf, hW⟩)
            · skip
              have i_10 : x_8.toInt < x_9.toInt := by have h9 := pz_nge c_10; exact h9
              refine lv_bipush (v := 100) hx hb dX4_comesBack_124 (by decide) ?_
              refine lv_aload_n hx hb dX4_comesBack_126 rfl (lv_at hl 0 rfl) ?_
              refine M_g9 S hK hW dX4_comesBack_127 (fun x_12 => ?_)
              refine lv_iconst (v := 1) hx hb dX4_comesBack_130 (by decide) ?_
              refine lv_iadd hx hb dX4_comesBack_131 ?_
              refine lv_topi (fun x_13 _ => ?_)
              refine lv_imul hx hb dX4_comesBack_132 ?_
              refine lv_topi (fun x_14 _ => ?_)
              refine lv_aload_n hx hb dX4_comesBack_133 rfl (lv_at hl 0 rfl) ?_
              refine M_g6 S hK hW dX4_comesBack_134 (fun x_15 hx_15 => ?_)
              refine lv_aload_n hx hb dX4_comesBack_137 rfl (lv_at hl 0 rfl) ?_
              refine M_g3 S hK hW dX4_comesBack_138 (fun x_16 hx_16 => ?_)
              obtain rfl : x_16 = nI nc := hx_16.trans hV3
              refine lv_imul hx hb dX4_comesBack_141 ?_
              refine lv_topi (fun x_17 _ => ?_)
              refine lv_icmp_gt (tgt := 164) hx hb dX4_comesBack_142 (by decide) (fun c_18 => ?_) (fun c_18 => ?_)
              · skip
                have i_18 : x_14.toInt > x_17.toInt := by have h9 := pz_gt c_18; exact h9
                refine lv_aload_n hx hb dX4_comesBack_164 rfl (lv_at hl 0 rfl) ?_
                refine lv_iload_n hx hb dX4_comesBack_165 rfl (lv_at hl 1 rfl) ?_
                refine lv_iconst (v := 3) hx hb dX4_comesBack_166 (by decide) ?_
                refine c_v (n := 2) (As := [.int (nI cj), .int 3]) (rest := []) S (q_X4_ends l dC dI h0 R A V G7 cj 3 (by omega) hM7.2.2.1 hM7.2.2.2.1) iw_878 iw_875 iw_877 iw_44 iw_61 (by decide +kernel) rfl ⟨rfl, rfl, Nat.le_of_ble_eq_true rfl, Nat.le_of_ble_eq_true rfl⟩ Kt.blind (M_recv hK hW) hK.at hW hl.1 rfl (Nat.le_of_ble_eq_true rfl) dX4_comesBack_167 ⟨Nat.le_refl _, Nat.le_refl _⟩ hS (fun _ h9 => h9) (fun v9 H locs hB hz9 hk9 hS => ?_)
                refine W.widen (k := 0) (n := 0) (Nat.le_refl 0) (Nat.le_refl 0) ?_
                obtain ⟨G_19, rfl, er_19, hW⟩ := hB
                refine W.eq (g2 := F0 m 170 ls []) rfl ?_
                have hM_19 : MI ns nc dr V G_19 := hM7.ends (by omega) er_19
                refine lv_iconst (v := 1) hx hb dX4_comesBack_170 (by decide) ?_
                exact r_z (v := 1) hx hb hr rfl hlocks hS dX4_comesBack_171 (⟨_, _, _, rfl, hM_19, KV.rf, hW⟩)
              · skip
                have i_18 : x_14.toInt ≤ x_17.toInt := by have h9 := pz_ngt c_18; exact h9
                refine lv_aload_n hx hb dX4_comesBack_145 rfl (lv_at hl 0 rfl) ?_
                refine lv_dup hx hb dX4_comesBack_146 rfl ?_
                refine M_g9 S hK hW dX4_comesBack_147 (fun x_20 => ?_)
                refine lv_iconst (v := 1) hx hb dX4_comesBack_150 (by decide) ?_
                refine lv_iadd hx hb dX4_comesBack_151 ?_
                refine lv_topi (fun x_21 _ => ?_)
                refine M_p9 S hK hW hS dX4_comesBack_152 (fun H locs hW hS => ?_)
                refine lv_aload_n hx hb dX4_comesBack_155 rfl (lv_at hl 0 rfl) ?_
                refine M_g30 S hK hW dX4_comesBack_156 ?_
                refine lv_iload_n hx hb dX4_comesBack_159 rfl (lv_at hl 1 rfl) ?_
                refine lv_iconst (v := 0) hx hb dX4_comesBack_160 (by decide) ?_
                refine mw_st S hK hW hS 30 rfl rfl (pz_vi (n := mN 30) (by rw [show mN 30 = 200 from rfl]; omega) (by decide)) dX4_comesBack_161 (fun H locs G_22 g1_22 g2_22 hW hS => ?_)
                rw [pz_cl (by omega)] at g1_22
                have hM_22 : MI ns nc dr V G_22 := hM7.one (c := cj) (by omega) (fun j hj => by rw [g1_22]; exact pk_un hj) (fun j hj => by rw [g2_22 31 (by decide)]) ⟨0, by decide, by rw [g2_22 31 (by decide), hn, show n = 0 by omega]⟩ (fun _ => by rw [g2_22 31 (by decide), hn, show n = 0 by omega]; rfl) (h37.same (g2_22 37 (by decide))) (g2_22 17 (by decide))
                refine lv_iconst (v := 0) hx hb dX4_comesBack_162 (by decide) ?_
                exact r_z (v := 0) hx hb hr rfl hlocks hS dX4_comesBack_163 (⟨_, _, _, rfl, hM_22, KV.rf, hW⟩)
        · skip
          have i_4 : (nI n).toInt > 0 := by have h9 := pz_nle c_4; exact h9
          refine lv_iconst (v := 0) hx hb dX4_comesBack_100 (by decide) ?_
          exact r_z (v := 0) hx hb hr rfl hlocks hS dX4_comesBack_101 (⟨_, _, _, rfl, hM7, KV.rf, hW⟩)
      · skip
        have i_2 : (nI i).toInt < (nI n).toInt := by have h9 := pz_nge c_2; exact h9
        refine lv_iconst (v := 2) hx hb dX4_comesBack_12 (by decide) ?_
        refine lv_iload_n hx hb dX4_comesBack_13 rfl (lv_at hl 1 rfl) ?_
        refine lv_imul hx hb dX4_comesBack_14 ?_
        refine lv_topi (fun x_23 ex_23 => ?_)
        obtain rfl : x_23 = nI (2 * cj) := ex_23.trans (pk_mul 2 cj)
        have en_24 : (nI (2 * cj)).toInt = ((2 * cj : Nat) : Int) := pz_ti (by omega)
        refine lv_iload_n hx hb dX4_comesBack_15 rfl (lv_at hl 2 rfl) ?_
        refine lv_iadd hx hb dX4_comesBack_16 ?_
        refine lv_topi (fun x_25 ex_25 => ?_)
        obtain rfl : x_25 = nI ((2 * cj) + i) := ex_25.trans (nI_add (2 * cj) i)
        have en_26 : (nI ((2 * cj) + i)).toInt = (((2 * cj) + i : Nat) : Int) := pz_ti (by omega)
        refine lv_istore_n (lv' := [(3, .int (nI ((2 * cj) + i))), (0, .ref h0), (1, .int (nI cj)), (2, .int (nI i))]) hx hb dX4_comesBack_17 rfl hl (by decide) rfl (fun ls hl => ?_)
        refine lv_aload_n hx hb dX4_comesBack_18 rfl (lv_at hl 1 rfl) ?_
        refine M_g37 S hK hW dX4_comesBack_19 ?_
        refine lv_iload_n hx hb dX4_comesBack_22 rfl (lv_at hl 0 rfl) ?_
        refine mw_ld S hK hW 37 rfl rfl (pz_vi (n := mN 37) (by rw [show mN 37 = 400 from rfl]; omega) (by decide)) dX4_comesBack_23 (fun x_27 hx_27 => ?_)
        replace hx_27 : x_27 = G7 37 ((2 * cj) + i) := (hx_27 rfl).trans (congrArg _ (pz_cl (by omega)))
        obtain ⟨k_28, hk_28, ek_28⟩ := h37 (((2 * cj) + i)) (by omega)
        obtain rfl : x_27 = nI k_28 := hx_27.trans ek_28
        have en_29 : (nI k_28).toInt = ((k_28 : Nat) : Int) := pz_ti (by omega)
        refine lv_istore (lv' := [(4, .int (nI k_28)), (3, .int (nI ((2 * cj) + i))), (0, .ref h0), (1, .int (nI cj)), (2, .int (nI i))]) hx hb dX4_comesBack_24 hl (by decide) rfl (fun ls hl => ?_)
        refine lv_aload_n hx hb dX4_comesBack_26 rfl (lv_at hl 2 rfl) ?_
        refine M_g39 S hK hW dX4_comesBack_27 ?_
        refine lv_iload_n hx hb dX4_comesBack_30 rfl (lv_at hl 1 rfl) ?_
        refine mw_ld S hK hW 39 rfl rfl (pz_vi (n := mN 39) (by rw [show mN 39 = 400 from rfl]; omega) (by decide)) dX4_comesBack_31 (fun x_30 hx_30 => ?_)
        refine lv_aload_n hx hb dX4_comesBack_32 rfl (lv_at hl 2 rfl) ?_
        refine M_g1 S hK hW dX4_comesBack_33 (fun x_31 => ?_)
        refine lv_icmp_le (tgt := 45) hx hb dX4_comesBack_36 (by decide) (fun c_32 => ?_) (fun c_32 => ?_)
        · skip
          have i_32 : x_30.toInt ≤ x_31.toInt := by have h9 := pz_le c_32; exact h9
          refine lv_aload_n hx hb dX4_comesBack_45 rfl (lv_at hl 2 rfl) ?_
          refine M_g40 S hK hW dX4_comesBack_46 ?_
          refine lv_iload_n hx hb dX4_comesBack_49 rfl (lv_at hl 1 rfl) ?_
          refine mw_lz S hK hW 40 rfl rfl (pz_vi (n := mN 40) (by rw [show mN 40 = 400 from rfl]; omega) (by decide)) dX4_comesBack_50 (fun x_33 => ?_)
          refine lv_if_ne (tgt := 76) hx hb dX4_comesBack_51 (by decide) (fun c_34 => ?_) (fun c_34 => ?_)
          · skip
            have i_34 : ¬ x_33.toInt = 0 := by have h9 := pz_neq c_34; exact h9
            refine lv_aload_n hx hb dX4_comesBack_76 rfl (lv_at hl 2 rfl) ?_
            refine lv_iload_n hx hb dX4_comesBack_77 rfl (lv_at hl 3 rfl) ?_
            refine lv_iload_n hx hb dX4_comesBack_78 rfl (lv_at hl 4 rfl) ?_
            refine c_v (n := 2) (As := [.int (nI cj), .int (nI i)]) (rest := []) S (q_X4_takes l dC dI h0 R A V G7 cj i n (by omega) (by omega) hle hn h37) iw_882 iw_879 iw_881 iw_45 iw_61 (by decide +kernel) rfl ⟨rfl, rfl, Nat.le_of_ble_eq_true rfl, Nat.le_of_ble_eq_true rfl⟩ Kt.blind (M_recv hK hW) hK.at hW hl.1 rfl (Nat.le_of_ble_eq_true rfl) dX4_comesBack_79 ⟨Nat.le_refl _, Nat.le_refl _⟩ hS (fun _ h9 => h9) (fun v9 H locs hB hz9 hk9 hS => ?_)
            refine W.widen (k := 0) (n := 0) (Nat.le_refl 0) (Nat.le_refl 0) ?_
            obtain ⟨G_35, rfl, t31_35, t37_35, to_35, hW⟩ := hB
            refine W.eq (g2 := F0 m 82 ls []) rfl ?_
            have hM_35 : MI ns nc dr V G_35 := hM7.takes (by omega) (by omega) hle hn t31_35 t37_35 to_35
            have hn_35 : G_35 31 cj = nI (n - 1) := by rw [t31_35]; exact pk_us
            refine lv_aload_n hx hb dX4_comesBack_82 rfl (lv_at hl 2 rfl) ?_
            refine lv_iload hx hb dX4_comesBack_83 (lv_at hl 0 rfl) ?_
            refine c_v (n := 1) (As := [.int (nI k_28)]) (rest := []) S (q_X4_failure l dC dI h0 R A V G_35 ns k_28 hV2 (by omega) (by omega)) iw_902 iw_899 iw_901 iw_49 iw_61 (by decide +kernel) rfl ⟨rfl, rfl, Nat.le_of_ble_eq_true rfl, Nat.le_of_ble_eq_true rfl⟩ Kt.blind (M_recv hK hW) hK.at hW hl.1 rfl (Nat.le_of_ble_eq_true rfl) dX4_comesBack_85 ⟨Nat.le_refl _, Nat.le_refl _⟩ hS (fun _ h9 => h9) (fun v9 H locs hB hz9 hk9 hS => ?_)
            refine W.widen (k := 0) (n := 0) (Nat.le_refl 0) (Nat.le_refl 0) ?_
            obtain ⟨G_36, rfl, h1_36, h2_36, hW⟩ := hB
            refine W.eq (g2 := F0 m 88 ls []) rfl ?_
            have hM_36 : MI ns nc dr V G_36 := hM_35.h h1_36 h2_36
            have hn_36 : G_36 31 cj = nI (n - 1) := by rw [h1_36 31 (by decide)]; exact hn_35
            refine lv_goto (tgt := 2) hx hb dX4_comesBack_88 (by decide) ?_
            exact ih_B2 _ (by omega) i (n - 1) G_36 _ _ ls rfl (by omega) (by omega) (hn_36) (hM_36) hW hS (lv_sub hl [2, 3, 4] rfl)
          · skip
            have i_34 : x_33.toInt = 0 := by have h9 := pz_eq c_34; exact h9
            refine lv_aload_n hx hb dX4_comesBack_54 rfl (lv_at hl 2 rfl) ?_
            refine lv_iload hx hb dX4_comesBack_55 (lv_at hl 0 rfl) ?_
            refine c_v (n := 1) (As := [.int (nI k_28)]) (rest := []) S (q_X4_answer l dC dI h0 R A V G7 k_28 (by omega)) iw_898 iw_895 iw_897 iw_48 iw_61 (by decide +kernel) rfl ⟨rfl, rfl, Nat.le_of_ble_eq_true rfl, Nat.le_of_ble_eq_true rfl⟩ Kt.blind (M_recv hK hW) hK.at hW hl.1 rfl (Nat.le_of_ble_eq_true rfl) dX4_comesBack_57 ⟨Nat.le_refl _, Nat.le_refl _⟩ hS (fun _ h9 => h9) (fun v9 H locs hB hz9 hk9 hS => ?_)
            refine W.widen (k := 0) (n := 0) (Nat.le_refl 0) (Nat.le_refl 0) ?_
            obtain ⟨G_37, rfl, h1_37, h2_37, hW⟩ := hB
            refine W.eq (g2 := F0 m 60 ls []) rfl ?_
            have hM_37 : MI ns nc dr V G_37 := hM7.h h1_37 h2_37
            refine lv_aload_n hx hb dX4_comesBack_60 rfl (lv_at hl 2 rfl) ?_
            refine lv_iload_n hx hb dX4_comesBack_61 rfl (lv_at hl 3 rfl) ?_
            refine lv_iconst (v := 2) hx hb dX4_comesBack_62 (by decide) ?_
            refine c_v (n := 2) (As := [.int (nI cj), .int 2]) (rest := []) S (q_X4_ends l dC dI h0 R A V G_37 cj 2 (by omega) hM_37.2.2.1 hM_37.2.2.2.1) iw_878 iw_875 iw_877 iw_44 iw_61 (by decide +kernel) rfl ⟨rfl, rfl, Nat.le_of_ble_eq_true rfl, Nat.le_of_ble_eq_true rfl⟩ Kt.blind (M_recv hK hW) hK.at hW hl.1 rfl (Nat.le_of_ble_eq_true rfl) dX4_comesBack_63 ⟨Nat.le_refl _, Nat.le_refl _⟩ hS (fun _ h9 => h9) (fun v9 H locs hB hz9 hk9 hS => ?_)
            refine W.widen (k := 0) (n := 0) (Nat.le_refl 0) (Nat.le_refl 0) ?_
            obtain ⟨G_38, rfl, er_38, hW⟩ := hB
            refine W.eq (g2 := F0 m 66 ls []) rfl ?_
            have hM_38 : MI ns nc dr V G_38 := hM_37.ends (by omega) er_38
            refine lv_aload_n hx hb dX4_comesBack_66 rfl (lv_at hl 2 rfl) ?_
            refine M_g35 S hK hW dX4_comesBack_67 ?_
            refine lv_iload_n hx hb dX4_comesBack_70 rfl (lv_at hl 3 rfl) ?_
            refine lv_iload hx hb dX4_comesBack_71 (lv_at hl 0 rfl) ?_
            refine mw_su S hK hW hS 35 rfl rfl rfl (pz_vi (n := mN 35) (by rw [show mN 35 = 200 from rfl]; omega) (by decide)) dX4_comesBack_73 (fun H locs hW hS => ?_)
            refine lv_iconst (v := 1) hx hb dX4_comesBack_74 (by decide) ?_
            exact r_z (v := 1) hx hb hr rfl hlocks hS dX4_comesBack_75 (⟨_, _, _, rfl, hM_38, KV.rf, hW⟩)
        · skip
          have i_32 : x_30.toInt > x_31.toInt := by have h9 := pz_nle c_32; exact h9
          obtain ⟨y_39, ey_39⟩ : ∃ y : Int32, y = (nI i) + 1 := ⟨_, rfl⟩
          refine lv_iinc (v := y_39) (lv' := [(2, .int y_39), (4, .int (nI k_28)), (3, .int (nI ((2 * cj) + i))), (0, .ref h0), (1, .int (nI cj))]) hx hb dX4_comesBack_39 hl (k := 4) rfl (by rw [ey_39]; rfl) (by decide) rfl (fun ls hl => ?_)
          obtain rfl : y_39 = nI (i + 1) := ey_39.trans (nI_1 i)
          have en_40 : (nI (i + 1)).toInt = ((i + 1 : Nat) : Int) := pz_ti (by omega)
          refine lv_goto (tgt := 2) hx hb dX4_comesBack_42 (by decide) ?_
          exact ih_B2 _ (by omega) (i + 1) n G7 _ _ ls rfl (hle) (by omega) (hn) (hM7) hW hS (lv_sub hl [3, 4, 0] rfl)
  exact loop_B2 _ 0 n0 G _ _ ls rfl (hn0) (by omega) (en0) (hM) hW hS (lv_sub hl [1, 2, 0] rfl)

abbrev B_q_X4_isDue (dC : Nat → ClassId) (dI : Nat → Nat → Nat) (h0 : Nat) (R : Nat → Nat) (A : Nat → Prop) (V : Nat → Int32) (G : Nat → Nat → Int32) (ns : Nat) (nc : Nat) (dr : Nat → Prop) (cj : Nat) : Option Value → Heap → Prop := fun v H => ∃ (r : Int32) (V1 : Nat → Int32) (G1 : Nat → Nat → Int32), v = some (.int r) ∧ MI ns nc dr V1 G1 ∧ KV V V1 ∧ Mw dC dI h0 R A V1 G1 H
set_option maxHeartbeats 8000000 in
set_option maxRecDepth 20000 in
theorem q_X4_isDue (l : Launch) (dC : Nat → ClassId) (dI : Nat → Nat → Nat) (h0 : Nat) (R : Nat → Nat) (A : Nat → Prop) (V : Nat → Int32) (G : Nat → Nat → Int32) (ns : Nat) (nc : Nat) (dr : Nat → Prop) (cj : Nat) (hM : MI ns nc dr V G) (hcn : cj < nc) : Met l yX4_isDue (cws yX4_isDue cX4_isDue 4 (some .boolean)) { frames := 2, cells := 0, slots := 0, locals := 45 } (va_Pc [.ref h0, .int (nI cj)] (fun U => Kt dC dI U ∧ Mw dC dI h0 R A V G U.heap)) (Qg (B_q_X4_isDue dC dI h0 R A V G ns nc dr cj) A) 0 0 A := by
  refine m_start (KK := Kt dC dI) (Pw := Mw dC dI h0 R A V G) (by decide) (Nat.le_of_ble_eq_true rfl) ?_
  intro p e s m below meth c ls S hr hlocks hin hK hW hS hl
  obtain ⟨hx, hb, hml, hown, hts⟩ := id S
  have hl : lv_has ls 4 [(0, .ref h0), (1, .int (nI cj))] := hl
  obtain ⟨⟨hV2, hns⟩, ⟨hV3, hnc⟩, h31, h37, hQ, hZ, hD⟩ := id hM
  have en_s : (nI ns).toInt = ((ns : Nat) : Int) := pz_ti (by omega)
  have en_c : (nI nc).toInt = ((nc : Nat) : Int) := pz_ti (by omega)
  obtain ⟨n0, hn0, en0⟩ := h31 cj (by omega)
  refine lv_aload_n hx hb dX4_isDue_0 rfl (lv_at hl 0 rfl) ?_
  refine M_g29 S hK hW dX4_isDue_1 ?_
  refine lv_iload_n hx hb dX4_isDue_4 rfl (lv_at hl 1 rfl) ?_
  refine mw_ld S hK hW 29 rfl rfl (pz_vi (n := mN 29) (by rw [show mN 29 = 200 from rfl]; omega) (by decide)) dX4_isDue_5 (fun x_1 hx_1 => ?_)
  refine lv_aload_n hx hb dX4_isDue_6 rfl (lv_at hl 0 rfl) ?_
  refine M_g1 S hK hW dX4_isDue_7 (fun x_2 => ?_)
  refine lv_icmp_ne (tgt := 23) hx hb dX4_isDue_10 (by decide) (fun c_3 => ?_) (fun c_3 => ?_)
  · skip
    have i_3 : ¬ x_1.toInt = x_2.toInt := by have h9 := pz_neq c_3; exact h9
    refine lv_iconst (v := 0) hx hb dX4_isDue_23 (by decide) ?_
    exact r_z (v := 0) hx hb hr rfl hlocks hS dX4_isDue_24 (⟨_, _, _, rfl, hM, KV.rf, hW⟩)
  · skip
    have i_3 : x_1.toInt = x_2.toInt := by have h9 := pz_eq c_3; exact h9
    refine lv_aload_n hx hb dX4_isDue_13 rfl (lv_at hl 0 rfl) ?_
    refine M_g30 S hK hW dX4_isDue_14 ?_
    refine lv_iload_n hx hb dX4_isDue_17 rfl (lv_at hl 1 rfl) ?_
    refine mw_ld S hK hW 30 rfl rfl (pz_vi (n := mN 30) (by rw [show mN 30 = 200 from rfl]; omega) (by decide)) dX4_isDue_18 (fun x_4 hx_4 => ?_)
    replace hx_4 : x_4 = G 30 cj := (hx_4 rfl).trans (congrArg _ (pz_cl (by omega)))
    refine lv_iconst (v := 1) hx hb dX4_isDue_19 (by decide) ?_
    refine lv_icmp_le (tgt := 25) hx hb dX4_isDue_20 (by decide) (fun c_5 => ?_) (fun c_5 => ?_)
    · skip
      have i_5 : x_4.toInt ≤ 1 := by have h9 := pz_le c_5; exact h9
      refine lv_aload_n hx hb dX4_isDue_25 rfl (lv_at hl 0 rfl) ?_
      refine M_g30 S hK hW dX4_isDue_26 ?_
      refine lv_iload_n hx hb dX4_isDue_29 rfl (lv_at hl 1 rfl) ?_
      refine mw_ld S hK hW 30 rfl rfl (pz_vi (n := mN 30) (by rw [show mN 30 = 200 from rfl]; omega) (by decide)) dX4_isDue_30 (fun x_6 hx_6 => ?_)
      replace hx_6 : x_6 = G 30 cj := (hx_6 rfl).trans (congrArg _ (pz_cl (by omega)))
      refine lv_iconst (v := 1) hx hb dX4_isDue_31 (by decide) ?_
      refine lv_icmp_ne (tgt := 39) hx hb dX4_isDue_32 (by decide) (fun c_7 => ?_) (fun c_7 => ?_)
      · skip
        have i_7 : ¬ x_6.toInt = 1 := by have h9 := pz_neq c_7; exact h9
        refine lv_iconst (v := 0) hx hb dX4_isDue_39 (by decide) ?_
        refine lv_istore_n (lv' := [(2, .int 0), (0, .ref h0), (1, .int (nI cj))]) hx hb dX4_isDue_40 rfl hl (by decide) rfl (fun ls hl => ?_)
        have loop_B41 : ∀ (k9 : Nat) (n : Nat) (w2 : Int32) (G7 : Nat → Nat → Int32) (H : Heap) (locs : List Loc) (ls : Array Slot), n = k9 → (n ≤ 2) → (G7 31 cj = nI n) → (MI ns nc dr V G7) → Mw dC dI h0 R A V G7 H → va_S A s.heap H locs → lv_has ls 4 [(0, .ref h0), (1, .int (nI cj)), (2, .int w2)] → W p l e { frames := 2, cells := 0, slots := 0, locals := 45 } s m ([.ref h0, .int (nI cj)] : List Value).toArray below meth c H locs 0 0 (MQ below (Qg (B_q_X4_isDue dC dI h0 R A V G ns nc dr cj) A) ([.ref h0, .int (nI cj)] : List Value).toArray s 0 0 A) (F0 m 41 ls []) := by
          intro k9
          induction k9 using Nat.strongRecOn with
          | ind k9 ih_B41 =>
            intro n w2 G7 H locs ls hm_B41 hle hn hM7 hW hS hl
            have en_n : (nI n).toInt = ((n : Nat) : Int) := pz_ti (by omega)
            obtain ⟨-, -, h31, h37, hQ, hZ, hD⟩ := id hM7
            refine lv_aload_n hx hb dX4_isDue_41 rfl (lv_at hl 0 rfl) ?_
            refine M_g31 S hK hW dX4_isDue_42 ?_
            refine lv_iload_n hx hb dX4_isDue_45 rfl (lv_at hl 1 rfl) ?_
            refine mw_ld S hK hW 31 rfl rfl (pz_vi (n := mN 31) (by rw [show mN 31 = 200 from rfl]; omega) (by decide)) dX4_isDue_46 (fun x_8 hx_8 => ?_)
            replace hx_8 : x_8 = G7 31 cj := (hx_8 rfl).trans (congrArg _ (pz_cl (by omega)))
            obtain rfl : x_8 = nI n := hx_8.trans hn
            refine lv_if_le (tgt := 73) hx hb dX4_isDue_47 (by decide) (fun c_9 => ?_) (fun c_9 => ?_)
            · skip
              have i_9 : (nI n).toInt ≤ 0 := by have h9 := pz_le c_9; exact h9
              refine lv_aload_n hx hb dX4_isDue_73 rfl (lv_at hl 0 rfl) ?_
              refine lv_iload_n hx hb dX4_isDue_74 rfl (lv_at hl 1 rfl) ?_
              refine lv_iload_n hx hb dX4_isDue_75 rfl (lv_at hl 2 rfl) ?_
              refine lv_if_eq (tgt := 83) hx hb dX4_isDue_76 (by decide) (fun c_10 => ?_) (fun c_10 => ?_)
              · skip
                have i_10 : w2.toInt = 0 := by have h9 := pz_eq c_10; exact h9
                refine lv_iconst (v := 4) hx hb dX4_isDue_83 (by decide) ?_
                refine c_v (n := 2) (As := [.int (nI cj), .int 4]) (rest := []) S (q_X4_ends l dC dI h0 R A V G7 cj 4 (by omega) hM7.2.2.1 hM7.2.2.2.1) iw_878 iw_875 iw_877 iw_44 iw_61 (by decide +kernel) rfl ⟨rfl, rfl, Nat.le_of_ble_eq_true rfl, Nat.le_of_ble_eq_true rfl⟩ Kt.blind (M_recv hK hW) hK.at hW hl.1 rfl (Nat.le_of_ble_eq_true rfl) dX4_isDue_84 ⟨Nat.le_refl _, Nat.le_refl _⟩ hS (fun _ h9 => h9) (fun v9 H locs hB hz9 hk9 hS => ?_)
                refine W.widen (k := 0) (n := 0) (Nat.le_refl 0) (Nat.le_refl 0) ?_
                obtain ⟨G_11, rfl, er_11, hW⟩ := hB
                refine W.eq (g2 := F0 m 87 ls []) rfl ?_
                have hM_11 : MI ns nc dr V G_11 := hM7.ends (by omega) er_11
                refine lv_iconst (v := 1) hx hb dX4_isDue_87 (by decide) ?_
                exact r_z (v := 1) hx hb hr rfl hlocks hS dX4_isDue_88 (⟨_, _, _, rfl, hM_11, KV.rf, hW⟩)
              · skip
                have i_10 : ¬ w2.toInt = 0 := by have h9 := pz_neq c_10; exact h9
                refine lv_iconst (v := 3) hx hb dX4_isDue_79 (by decide) ?_
                refine lv_goto (tgt := 84) hx hb dX4_isDue_80 (by decide) ?_
                refine c_v (n := 2) (As := [.int (nI cj), .int 3]) (rest := []) S (q_X4_ends l dC dI h0 R A V G7 cj 3 (by omega) hM7.2.2.1 hM7.2.2.2.1) iw_878 iw_875 iw_877 iw_44 iw_61 (by decide +kernel) rfl ⟨rfl, rfl, Nat.le_of_ble_eq_true rfl, Nat.le_of_ble_eq_true rfl⟩ Kt.blind (M_recv hK hW) hK.at hW hl.1 rfl (Nat.le_of_ble_eq_true rfl) dX4_isDue_84 ⟨Nat.le_refl _, Nat.le_refl _⟩ hS (fun _ h9 => h9) (fun v9 H locs hB hz9 hk9 hS => ?_)
                refine W.widen (k := 0) (n := 0) (Nat.le_refl 0) (Nat.le_refl 0) ?_
                obtain ⟨G_12, rfl, er_12, hW⟩ := hB
                refine W.eq (g2 := F0 m 87 ls []) rfl ?_
                have hM_12 : MI ns nc dr V G_12 := hM7.ends (by omega) er_12
                refine lv_iconst (v := 1) hx hb dX4_isDue_87 (by decide) ?_
                exact r_z (v := 1) hx hb hr rfl hlocks hS dX4_isDue_88 (⟨_, _, _, rfl, hM_12, KV.rf, hW⟩)
            · skip
              have i_9 : (nI n).toInt > 0 := by have h9 := pz_nle c_9; exact h9
              refine lv_aload_n hx hb dX4_isDue_50 rfl (lv_at hl 0 rfl) ?_
              refine M_g37 S hK hW dX4_isDue_51 ?_
              refine lv_iconst (v := 2) hx hb dX4_isDue_54 (by decide) ?_
              refine lv_iload_n hx hb dX4_isDue_55 rfl (lv_at hl 1 rfl) ?_
              refine lv_imul hx hb dX4_isDue_56 ?_
              refine lv_topi (fun x_13 ex_13 => ?_)
              obtain rfl : x_13 = nI (2 * cj) := ex_13.trans (pk_mul 2 cj)
              have en_14 : (nI (2 * cj)).toInt = ((2 * cj : Nat) : Int) := pz_ti (by omega)
              refine mw_ld S hK hW 37 rfl rfl (pz_vi (n := mN 37) (by rw [show mN 37 = 400 from rfl]; omega) (by decide)) dX4_isDue_57 (fun x_15 hx_15 => ?_)
              replace hx_15 : x_15 = G7 37 (2 * cj) := (hx_15 rfl).trans (congrArg _ (pz_cl (by omega)))
              obtain ⟨k_16, hk_16, ek_16⟩ := h37 ((2 * cj)) (by omega)
              obtain rfl : x_15 = nI k_16 := hx_15.trans ek_16
              have en_17 : (nI k_16).toInt = ((k_16 : Nat) : Int) := pz_ti (by omega)
              refine lv_istore_n (lv' := [(3, .int (nI k_16)), (0, .ref h0), (1, .int (nI cj)), (2, .int w2)]) hx hb dX4_isDue_58 rfl hl (by decide) rfl (fun ls hl => ?_)
              refine lv_aload_n hx hb dX4_isDue_59 rfl (lv_at hl 1 rfl) ?_
              refine lv_iload_n hx hb dX4_isDue_60 rfl (lv_at hl 2 rfl) ?_
              refine lv_iconst (v := 0) hx hb dX4_isDue_61 (by decide) ?_
              refine c_v (n := 2) (As := [.int (nI cj), .int 0]) (rest := []) S (q_X4_takes l dC dI h0 R A V G7 cj 0 n (by omega) (by omega) hle hn h37) iw_882 iw_879 iw_881 iw_45 iw_61 (by decide +kernel) rfl ⟨rfl, rfl, Nat.le_of_ble_eq_true rfl, Nat.le_of_ble_eq_true rfl⟩ Kt.blind (M_recv hK hW) hK.at hW hl.1 rfl (Nat.le_of_ble_eq_true rfl) dX4_isDue_62 ⟨Nat.le_refl _, Nat.le_refl _⟩ hS (fun _ h9 => h9) (fun v9 H locs hB hz9 hk9 hS => ?_)
              refine W.widen (k := 0) (n := 0) (Nat.le_refl 0) (Nat.le_refl 0) ?_
              obtain ⟨G_18, rfl, t31_18, t37_18, to_18, hW⟩ := hB
              refine W.eq (g2 := F0 m 65 ls []) rfl ?_
              have hM_18 : MI ns nc dr V G_18 := hM7.takes (by omega) (by omega) hle hn t31_18 t37_18 to_18
              have hn_18 : G_18 31 cj = nI (n - 1) := by rw [t31_18]; exact pk_us
              refine lv_aload_n hx hb dX4_isDue_65 rfl (lv_at hl 1 rfl) ?_
              refine lv_iload_n hx hb dX4_isDue_66 rfl (lv_at hl 0 rfl) ?_
              refine c_v (n := 1) (As := [.int (nI k_16)]) (rest := []) S (q_X4_failure l dC dI h0 R A V G_18 ns k_16 hV2 (by omega) (by omega)) iw_902 iw_899 iw_901 iw_49 iw_61 (by decide +kernel) rfl ⟨rfl, rfl, Nat.le_of_ble_eq_true rfl, Nat.le_of_ble_eq_true rfl⟩ Kt.blind (M_recv hK hW) hK.at hW hl.1 rfl (Nat.le_of_ble_eq_true rfl) dX4_isDue_67 ⟨Nat.le_refl _, Nat.le_refl _⟩ hS (fun _ h9 => h9) (fun v9 H locs hB hz9 hk9 hS => ?_)
              refine W.widen (k := 0) (n := 0) (Nat.le_refl 0) (Nat.le_refl 0) ?_
              obtain ⟨G_19, rfl, h1_19, h2_19, hW⟩ := hB
              refine W.eq (g2 := F0 m 70 ls []) rfl ?_
              have hM_19 : MI ns nc dr V G_19 := hM_18.h h1_19 h2_19
              have hn_19 : G_19 31 cj = nI (n - 1) := by rw [h1_19 31 (by decide)]; exact hn_18
              refine lv_goto (tgt := 41) hx hb dX4_isDue_70 (by decide) ?_
              exact ih_B41 _ (by omega) (n - 1) w2 G_19 _ _ ls rfl (by omega) (hn_19) (hM_19) hW hS (lv_sub hl [1, 2, 3] rfl)
        exact loop_B41 _ n0 0 G _ _ ls rfl (hn0) (en0) (hM) hW hS (lv_sub hl [1, 2, 0] rfl)
      · skip
        have i_7 : x_6.toInt = 1 := by have h9 := pz_eq c_7; exact h9
        refine lv_iconst (v := 1) hx hb dX4_isDue_35 (by decide) ?_
        refine lv_goto (tgt := 40) hx hb dX4_isDue_36 (by decide) ?_
        refine lv_istore_n (lv' := [(2, .int 1), (0, .ref h0), (1, .int (nI cj))]) hx hb dX4_isDue_40 rfl hl (by decide) rfl (fun ls hl => ?_)
        have loop_B41 : ∀ (k9 : Nat) (n : Nat) (w2 : Int32) (G7 : Nat → Nat → Int32) (H : Heap) (locs : List Loc) (ls : Array Slot), n = k9 → (n ≤ 2) → (G7 31 cj = nI n) → (MI ns nc dr V G7) → Mw dC dI h0 R A V G7 H → va_S A s.heap H locs → lv_has ls 4 [(0, .ref h0), (1, .int (nI cj)), (2, .int w2)] → W p l e { frames := 2, cells := 0, slots := 0, locals := 45 } s m ([.ref h0, .int (nI cj)] : List Value).toArray below meth c H locs 0 0 (MQ below (Qg (B_q_X4_isDue dC dI h0 R A V G ns nc dr cj) A) ([.ref h0, .int (nI cj)] : List Value).toArray s 0 0 A) (F0 m 41 ls []) := by
          intro k9
          induction k9 using Nat.strongRecOn with
          | ind k9 ih_B41 =>
            intro n w2 G7 H locs ls hm_B41 hle hn hM7 hW hS hl
            have en_n : (nI n).toInt = ((n : Nat) : Int) := pz_ti (by omega)
            obtain ⟨-, -, h31, h37, hQ, hZ, hD⟩ := id hM7
            refine lv_aload_n hx hb dX4_isDue_41 rfl (lv_at hl 0 rfl) ?_
            refine M_g31 S hK hW dX4_isDue_42 ?_
            refine lv_iload_n hx hb dX4_isDue_45 rfl (lv_at hl 1 rfl) ?_
            refine mw_ld S hK hW 31 rfl rfl (pz_vi (n := mN 31) (by rw [show mN 31 = 200 from rfl]; omega) (by decide)) dX4_isDue_46 (fun x_20 hx_20 => ?_)
            replace hx_20 : x_20 = G7 31 cj := (hx_20 rfl).trans (congrArg _ (pz_cl (by omega)))
            obtain rfl : x_20 = nI n := hx_20.trans hn
            refine lv_if_le (tgt := 73) hx hb dX4_isDue_47 (by decide) (fun c_21 => ?_) (fun c_21 => ?_)
            · skip
              have i_21 : (nI n).toInt ≤ 0 := by have h9 := pz_le c_21; exact h9
              refine lv_aload_n hx hb dX4_isDue_73 rfl (lv_at hl 0 rfl) ?_
              refine lv_iload_n hx hb dX4_isDue_74 rfl (lv_at hl 1 rfl) ?_
              refine lv_iload_n hx hb dX4_isDue_75 rfl (lv_at hl 2 rfl) ?_
              refine lv_if_eq (tgt := 83) hx hb dX4_isDue_76 (by decide) (fun c_22 => ?_) (fun c_22 => ?_)
              · skip
                have i_22 : w2.toInt = 0 := by have h9 := pz_eq c_22; exact h9
                refine lv_iconst (v := 4) hx hb dX4_isDue_83 (by decide) ?_
                refine c_v (n := 2) (As := [.int (nI cj), .int 4]) (rest := []) S (q_X4_ends l dC dI h0 R A V G7 cj 4 (by omega) hM7.2.2.1 hM7.2.2.2.1) iw_878 iw_875 iw_877 iw_44 iw_61 (by decide +kernel) rfl ⟨rfl, rfl, Nat.le_of_ble_eq_true rfl, Nat.le_of_ble_eq_true rfl⟩ Kt.blind (M_recv hK hW) hK.at hW hl.1 rfl (Nat.le_of_ble_eq_true rfl) dX4_isDue_84 ⟨Nat.le_refl _, Nat.le_refl _⟩ hS (fun _ h9 => h9) (fun v9 H locs hB hz9 hk9 hS => ?_)
                refine W.widen (k := 0) (n := 0) (Nat.le_refl 0) (Nat.le_refl 0) ?_
                obtain ⟨G_23, rfl, er_23, hW⟩ := hB
                refine W.eq (g2 := F0 m 87 ls []) rfl ?_
                have hM_23 : MI ns nc dr V G_23 := hM7.ends (by omega) er_23
                refine lv_iconst (v := 1) hx hb dX4_isDue_87 (by decide) ?_
                exact r_z (v := 1) hx hb hr rfl hlocks hS dX4_isDue_88 (⟨_, _, _, rfl, hM_23, KV.rf, hW⟩)
              · skip
                have i_22 : ¬ w2.toInt = 0 := by have h9 := pz_neq c_22; exact h9
                refine lv_iconst (v := 3) hx hb dX4_isDue_79 (by decide) ?_
                refine lv_goto (tgt := 84) hx hb dX4_isDue_80 (by decide) ?_
                refine c_v (n := 2) (As := [.int (nI cj), .int 3]) (rest := []) S (q_X4_ends l dC dI h0 R A V G7 cj 3 (by omega) hM7.2.2.1 hM7.2.2.2.1) iw_878 iw_875 iw_877 iw_44 iw_61 (by decide +kernel) rfl ⟨rfl, rfl, Nat.le_of_ble_eq_true rfl, Nat.le_of_ble_eq_true rfl⟩ Kt.blind (M_recv hK hW) hK.at hW hl.1 rfl (Nat.le_of_ble_eq_true rfl) dX4_isDue_84 ⟨Nat.le_refl _, Nat.le_refl _⟩ hS (fun _ h9 => h9) (fun v9 H locs hB hz9 hk9 hS => ?_)
                refine W.widen (k := 0) (n := 0) (Nat.le_refl 0) (Nat.le_refl 0) ?_
                obtain ⟨G_24, rfl, er_24, hW⟩ := hB
                refine W.eq (g2 := F0 m 87 ls []) rfl ?_
                have hM_24 : MI ns nc dr V G_24 := hM7.ends (by omega) er_24
                refine lv_iconst (v := 1) hx hb dX4_isDue_87 (by decide) ?_
                exact r_z (v := 1) hx hb hr rfl hlocks hS dX4_isDue_88 (⟨_, _, _, rfl, hM_24, KV.rf, hW⟩)
            · skip
              have i_21 : (nI n).toInt > 0 := by have h9 := pz_nle c_21; exact h9
              refine lv_aload_n hx hb dX4_isDue_50 rfl (lv_at hl 0 rfl) ?_
              refine M_g37 S hK hW dX4_isDue_51 ?_
              refine lv_iconst (v := 2) hx hb dX4_isDue_54 (by decide) ?_
              refine lv_iload_n hx hb dX4_isDue_55 rfl (lv_at hl 1 rfl) ?_
              refine lv_imul hx hb dX4_isDue_56 ?_
              refine lv_topi (fun x_25 ex_25 => ?_)
              obtain rfl : x_25 = nI (2 * cj) := ex_25.trans (pk_mul 2 cj)
              have en_26 : (nI (2 * cj)).toInt = ((2 * cj : Nat) : Int) := pz_ti (by omega)
              refine mw_ld S hK hW 37 rfl rfl (pz_vi (n := mN 37) (by rw [show mN 37 = 400 from rfl]; omega) (by decide)) dX4_isDue_57 (fun x_27 hx_27 => ?_)
              replace hx_27 : x_27 = G7 37 (2 * cj) := (hx_27 rfl).trans (congrArg _ (pz_cl (by omega)))
              obtain ⟨k_28, hk_28, ek_28⟩ := h37 ((2 * cj)) (by omega)
              obtain rfl : x_27 = nI k_28 := hx_27.trans ek_28
              have en_29 : (nI k_28).toInt = ((k_28 : Nat) : Int) := pz_ti (by omega)
              refine lv_istore_n (lv' := [(3, .int (nI k_28)), (0, .ref h0), (1, .int (nI cj)), (2, .int w2)]) hx hb dX4_isDue_58 rfl hl (by decide) rfl (fun ls hl => ?_)
              refine lv_aload_n hx hb dX4_isDue_59 rfl (lv_at hl 1 rfl) ?_
              refine lv_iload_n hx hb dX4_isDue_60 rfl (lv_at hl 2 rfl) ?_
              refine lv_iconst (v := 0) hx hb dX4_isDue_61 (by decide) ?_
              refine c_v (n := 2) (As := [.int (nI cj), .int 0]) (rest := []) S (q_X4_takes l dC dI h0 R A V G7 cj 0 n (by omega) (by omega) hle hn h37) iw_882 iw_879 iw_881 iw_45 iw_61 (by decide +kernel) rfl ⟨rfl, rfl, Nat.le_of_ble_eq_true rfl, Nat.le_of_ble_eq_true rfl⟩ Kt.blind (M_recv hK hW) hK.at hW hl.1 rfl (Nat.le_of_ble_eq_true rfl) dX4_isDue_62 ⟨Nat.le_refl _, Nat.le_refl _⟩ hS (fun _ h9 => h9) (fun v9 H locs hB hz9 hk9 hS => ?_)
              refine W.widen (k := 0) (n := 0) (Nat.le_refl 0) (Nat.le_refl 0) ?_
              obtain ⟨G_30, rfl, t31_30, t37_30, to_30, hW⟩ := hB
              refine W.eq (g2 := F0 m 65 ls []) rfl ?_
              have hM_30 : MI ns nc dr V G_30 := hM7.takes (by omega) (by omega) hle hn t31_30 t37_30 to_30
              have hn_30 : G_30 31 cj = nI (n - 1) := by rw [t31_30]; exact pk_us
              refine lv_aload_n hx hb dX4_isDue_65 rfl (lv_at hl 1 rfl) ?_
              refine lv_iload_n hx hb dX4_isDue_66 rfl (lv_at hl 0 rfl) ?_
              refine c_v (n := 1) (As := [.int (nI k_28)]) (rest := []) S (q_X4_failure l dC dI h0 R A V G_30 ns k_28 hV2 (by omega) (by omega)) iw_902 iw_899 iw_901 iw_49 iw_61 (by decide +kernel) rfl ⟨rfl, rfl, Nat.le_of_ble_eq_true rfl, Nat.le_of_ble_eq_true rfl⟩ Kt.blind (M_recv hK hW) hK.at hW hl.1 rfl (Nat.le_of_ble_eq_true rfl) dX4_isDue_67 ⟨Nat.le_refl _, Nat.le_refl _⟩ hS (fun _ h9 => h9) (fun v9 H locs hB hz9 hk9 hS => ?_)
              refine W.widen (k := 0) (n := 0) (Nat.le_refl 0) (Nat.le_refl 0) ?_
              obtain ⟨G_31, rfl, h1_31, h2_31, hW⟩ := hB
              refine W.eq (g2 := F0 m 70 ls []) rfl ?_
              have hM_31 : MI ns nc dr V G_31 := hM_30.h h1_31 h2_31
              have hn_31 : G_31 31 cj = nI (n - 1) := by rw [h1_31 31 (by decide)]; exact hn_30
              refine lv_goto (tgt := 41) hx hb dX4_isDue_70 (by decide) ?_
              exact ih_B41 _ (by omega) (n - 1) w2 G_31 _ _ ls rfl (by omega) (hn_31) (hM_31) hW hS (lv_sub hl [1, 2, 3] rfl)
        exact loop_B41 _ n0 1 G _ _ ls rfl (hn0) (en0) (hM) hW hS (lv_sub hl [1, 2, 0] rfl)
    · skip
      have i_5 : x_4.toInt > 1 := by have h9 := pz_nle c_5; exact h9
      refine lv_iconst (v := 0) hx hb dX4_isDue_23 (by decide) ?_
      exact r_z (v := 0) hx hb hr rfl hlocks hS dX4_isDue_24 (⟨_, _, _, rfl, hM, KV.rf, hW⟩)
