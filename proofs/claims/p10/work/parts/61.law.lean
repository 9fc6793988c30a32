/-! THE CLAIM OUT OF ONE WALK OF THE LAW'S BODY. Your part is whole_start (and what it stands on); all else here is the same for every law, but numbers. -/
def R_law : String := "FrontDoorLaw"
def lw_P (b : Addr) (xs : List Int32) (args : Array Value) (s : State) : Prop := args = #[.ref b] ∧ s.IntsAt b xs ∧ xs.length ≤ 3072 ∧ (Jvm.Cond.and given_1 narrow_1).before args s = true
def lw_Q (_ : Array Value) (s : State) (o : Outcome) (t : State) : Prop := o = .returned (some (.int 1)) ∧ Framed s o t [] 600000 7302250
def lw_Z (below : List Frame) (a : Array Value) (s : State) : State → Prop := fun t => ∃ o, t.status = .running ∧ Ended t below o ∧ lw_Q a s o t
/-- the law's own end, with 1 on the stack, nothing written that was there before, its room as the claim has it -/
theorem lw_ret {p : Program} {l : Launch} {e : Env} {s : State} {m : MethodId} {below : List Frame} {meth : Method} {c : Code} {b : Nat} (hx : p.tables.exec = Jvm.exec) (hb : c.code = code) (hr : meth.sig.returnType = ret) (hlocks : meth.locks = false) {pc : Nat} {H : Heap} {ls : Array Slot} (hdg : decode code pc = .ok (.ireturn, 1)) : W p l e room_1 s m #[Value.ref b] below meth c H [] 600000 7302250 (lw_Z below #[Value.ref b] s) (F0 m pc ls [.int 1]) := by
  intro T hT X
  obtain ⟨fs, hret, hrun, hended, hW, hframe⟩ := X.leave (v := some (.int 1)) (hlocks := hlocks) (fun h => by rw [hr] at h; cases h)
  have hmeth' : T.vm.method? m = some meth := X.method'
  refine ⟨T.setFrames fs, ?_, .returned (some (.int 1)), hrun, hended, rfl, ⟨_, rfl⟩, hW, hframe⟩
  jvm_step X.here [X.here.top, hx, hb, hdg, hmeth', hr, ret, narrow_b1]
  (try refine ⟨rfl, ?_⟩); (try refine ⟨rfl, ?_⟩)
  first | (intro acts; rw [hret _ acts rfl rfl rfl]) | rw [hret _ _ rfl rfl rfl]
  exact Steps.refl _
/-- what holds at the law's entry: the machine, the code, the tables' words (any of lw_tbl by 'hts w (by decide +kernel)'), the script of L ints xs at the cell b, what the Statement gives of the start (any of its parts by flat_of_before) -/
def lw_At (p : Program) (s : State) (m : MethodId) (meth : Method) (c : Code) (b L : Nat) (xs : Nat → Int32) : Prop :=
  p.tables.exec = Jvm.exec ∧ c.code = code ∧ meth.sig.returnType = ret ∧ c.maxLocals = 4 ∧ s.vm.findClass R_law = some m.cls ∧ (∀ w ∈ lw_tbl, w.before #[Value.ref b] s = true) ∧ va_X b L xs s s.heap ∧ b < s.heap.size ∧ meth.locks = false ∧ (Jvm.Cond.and given_1 narrow_1).before #[Value.ref b] s = true
theorem pz_c18 {x : Int32} (h : ¬ (x.toInt < 0 ∨ 17 < x.toInt)) : x = 0 ∨ x = 1 ∨ x = 2 ∨ x = 3 ∨ x = 4 ∨ x = 5 ∨ x = 6 ∨ x = 7 ∨ x = 8 ∨ x = 9 ∨ x = 10 ∨ x = 11 ∨ x = 12 ∨ x = 13 ∨ x = 14 ∨ x = 15 ∨ x = 16 ∨ x = 17 := by
  have h0 : ¬ x < 0 := fun q => h (Or.inl (pz_lt q))
  obtain ⟨j, hj, e⟩ := nI_of h0
  have e2 : x.toInt = (j : Int) := by rw [e]; exact nI_toInt hj
  subst e
  have hh : ∀ j : Nat, j < 18 → (nI j = 0 ∨ nI j = 1 ∨ nI j = 2 ∨ nI j = 3 ∨ nI j = 4 ∨ nI j = 5 ∨ nI j = 6 ∨ nI j = 7 ∨ nI j = 8 ∨ nI j = 9 ∨ nI j = 10 ∨ nI j = 11 ∨ nI j = 12 ∨ nI j = 13 ∨ nI j = 14 ∨ nI j = 15 ∨ nI j = 16 ∨ nI j = 17) := by decide +kernel
  exact hh j (by omega)
theorem lw_end {L j : Nat} {x : Int32} (hL : L ≤ 3072) (hj : j ≤ L) (e : x = Int32.ofNat L - 6) : (x < nI j → L < j + 6) ∧ (¬ x < nI j → j + 6 ≤ L) := by
  have h1 : (Int32.ofNat L).toInt = (L : Int) := nI_toInt (n := L) (by omega)
  have h2 : x.toInt = (L : Int) - 6 := by
    rw [e, Int32.toInt_sub, h1, show (6 : Int32).toInt = 6 from by decide]
    exact bm32 (by omega) (by omega)
  have h3 : (nI j).toInt = (j : Int) := nI_toInt (by omega)
  refine ⟨fun q => ?_, fun q => ?_⟩
  · have := pz_lt q; omega
  · have := pz_nlt q; omega
section B61
variable {p : Program} {e : Env} {s : State} {m : MethodId} {below : List Frame} {meth : Method} {c : Code} {b L : Nat} {xs : Nat → Int32} {dC : Nat → ClassId} {dI : Nat → Nat → Nat} {z mi : Nat} {A A3 A4 : Nat → Prop} {cp h3 h4 : Nat} {la Rr : Nat → Nat}
set_option maxHeartbeats 8000000 in
/-- the law's loop -/
theorem law_loop (l : Launch) (C : LCx p s m c b L xs dC dI z mi cp A A3 A4) (hA2 : ∀ q, A q → s.heap.size ≤ q) (hr : meth.sig.returnType = ret) (hlocks : meth.locks = false) : ∀ (k9 j : Nat) (H : Heap) (locs : List Loc) (ls : Array Slot), j ≤ L → L < j + k9 → LRel dC dI z A3 A4 s.heap.size cp h3 la h4 Rr H → va_S A s.heap H locs → lv_has ls 4 [(3, .int (nI j)), (2, .ref h4), (1, .ref h3), (0, .ref b)] → W p l e room_1 s m #[Value.ref b] below meth c H locs (cp - s.heap.size) (610 * (cp - s.heap.size)) (lw_Z below #[Value.ref b] s) (F0 m 18 ls []) := by
  intro k9
  induction k9 with
  | zero => intro j H locs ls h1 h2; omega
  | succ k9 ih =>
    intro j H locs ls hjL hk hR hS hl
    obtain ⟨S, ⟨hX, hbl, hbA, hL⟩, hK, hdis, hcp⟩ := id C
    obtain ⟨hx, hb, hml, hown, hts⟩ := id S
    refine lv_iload_n hx hb dL_law_18 rfl (lv_at hl 0 rfl) ?_
    refine lv_aload_n hx hb dL_law_19 rfl (lv_at hl 3 rfl) ?_
    refine va_slen hx hb hX hbl hbA hS dL_law_20 ?_
    refine lv_bipush (v := 6) hx hb dL_law_21 (by decide) ?_
    refine lv_isub hx hb dL_law_23 ?_
    refine lv_topi (fun x6 e6 => ?_)
    have hend := lw_end hL hjL e6
    refine lv_icmp_gt (tgt := 676) hx hb dL_law_24 (by decide) (fun c9 => ?_) (fun c9 => ?_)
    · refine lv_iconst (v := 1) hx hb dL_law_676 (by decide) ?_
      refine va_forget (fun q hq => hA2 _ (hS.2.2 q hq)) ?_
      refine W.widen (k := 600000) (n := 7302250) (by omega) (by omega) ?_
      exact lw_ret hx hb hr hlocks dL_law_677
    · have hj6 : j + 6 ≤ L := hend.2 c9
      have tail : ∀ (H1 : Heap) (locs1 : List Loc), LRel dC dI z A3 A4 s.heap.size cp h3 la h4 Rr H1 → va_S A s.heap H1 locs1 → W p l e room_1 s m #[Value.ref b] below meth c H1 locs1 (cp - s.heap.size) (610 * (cp - s.heap.size)) (lw_Z below #[Value.ref b] s) (F0 m 670 ls []) := by
        intro H1 locs1 hR1 hS1
        refine lv_iinc (v := nI (j + 6)) (lv' := [(3, .int (nI (j + 6))), (2, .ref h4), (1, .ref h3), (0, .ref b)]) hx hb dL_law_670 hl (k := 0) rfl (by rw [show Int32.ofInt 6 = nI 6 from by decide +kernel]; exact nI_add j 6) (by decide) rfl (fun ls2 hl2 => ?_)
        refine lv_goto (tgt := 18) hx hb dL_law_673 (by decide) ?_
        exact ih (j + 6) H1 locs1 ls2 hj6 (by omega) hR1 hS1 hl2
      refine lv_aload_n hx hb dL_law_27 rfl (lv_at hl 3 rfl) ?_
      refine lv_iload_n hx hb dL_law_28 rfl (lv_at hl 0 rfl) ?_
      refine va_sld hx hb hX hbl hbA hS (i := nI j) (vp_in_nI (by omega) (by omega)) dL_law_29 ?_
      refine lv_bipush (v := 31) hx hb dL_law_30 (by decide) ?_
      refine lv_iand hx hb dL_law_32 ?_
      refine lv_topi (fun x7 e7 => ?_)
      by_cases t7 : x7.toInt < 0 ∨ 17 < x7.toInt
      · refine lv_tableOut (tgt := 670) hx hb dL_law_33 t7 (by decide) ?_
        exact tail H locs hR hS
      · rcases pz_c18 t7 with g7 | g7 | g7 | g7 | g7 | g7 | g7 | g7 | g7 | g7 | g7 | g7 | g7 | g7 | g7 | g7 | g7 | g7
        · subst g7
          refine lv_tableIn (off := 87) (tgt := 120) hx hb dL_law_33 (by decide) (by decide) (by decide) (by decide) ?_
          exact arm_server C hj6 hR hS hl tail
        · subst g7
          refine lv_tableIn (off := 150) (tgt := 183) hx hb dL_law_33 (by decide) (by decide) (by decide) (by decide) ?_
          exact arm_set C hj6 hR hS hl tail
        · subst g7
          refine lv_tableIn (off := 193) (tgt := 226) hx hb dL_law_33 (by decide) (by decide) (by decide) (by decide) ?_
          exact arm_drain C hj6 hR hS hl tail
        · subst g7
          refine lv_tableIn (off := 216) (tgt := 249) hx hb dL_law_33 (by decide) (by decide) (by decide) (by decide) ?_
          exact arm_back C hj6 hR hS hl tail
        · subst g7
          refine lv_tableIn (off := 239) (tgt := 272) hx hb dL_law_33 (by decide) (by decide) (by decide) (by decide) ?_
          exact arm_rule C hj6 hR hS hl tail
        · subst g7
          refine lv_tableIn (off := 262) (tgt := 295) hx hb dL_law_33 (by decide) (by decide) (by decide) (by decide) ?_
          exact arm_limit C hj6 hR hS hl tail
        · subst g7
          refine lv_tableIn (off := 285) (tgt := 318) hx hb dL_law_33 (by decide) (by decide) (by decide) (by decide) ?_
          exact arm_budget C hj6 hR hS hl tail
        · subst g7
          refine lv_tableIn (off := 308) (tgt := 341) hx hb dL_law_33 (by decide) (by decide) (by decide) (by decide) ?_
          exact arm_hedge C hj6 hR hS hl tail
        · subst g7
          refine lv_tableIn (off := 331) (tgt := 364) hx hb dL_law_33 (by decide) (by decide) (by decide) (by decide) ?_
          exact arm_call C hj6 hR hS hl tail
        · subst g7
          refine lv_tableIn (off := 400) (tgt := 433) hx hb dL_law_33 (by decide) (by decide) (by decide) (by decide) ?_
          exact arm_off C hj6 hR hS hl tail
        · subst g7
          refine lv_tableIn (off := 423) (tgt := 456) hx hb dL_law_33 (by decide) (by decide) (by decide) (by decide) ?_
          exact arm_ticks C hj6 hR hS hl tail
        · subst g7
          refine lv_tableIn (off := 446) (tgt := 479) hx hb dL_law_33 (by decide) (by decide) (by decide) (by decide) ?_
          exact arm_pick C hj6 hR hS hl tail
        · subst g7
          refine lv_tableIn (off := 469) (tgt := 502) hx hb dL_law_33 (by decide) (by decide) (by decide) (by decide) ?_
          exact arm_callOf C hj6 hR hS hl tail
        · subst g7
          refine lv_tableIn (off := 502) (tgt := 535) hx hb dL_law_33 (by decide) (by decide) (by decide) (by decide) ?_
          exact arm_serverOf C hj6 hR hS hl tail
        · subst g7
          refine lv_tableIn (off := 535) (tgt := 568) hx hb dL_law_33 (by decide) (by decide) (by decide) (by decide) ?_
          exact arm_mark C hj6 hR hS hl tail
        · subst g7
          refine lv_tableIn (off := 568) (tgt := 601) hx hb dL_law_33 (by decide) (by decide) (by decide) (by decide) ?_
          exact arm_queue C hj6 hR hS hl tail
        · subst g7
          refine lv_tableIn (off := 591) (tgt := 624) hx hb dL_law_33 (by decide) (by decide) (by decide) (by decide) ?_
          exact arm_share C hj6 hR hS hl tail
        · subst g7
          refine lv_tableIn (off := 614) (tgt := 647) hx hb dL_law_33 (by decide) (by decide) (by decide) (by decide) ?_
          exact arm_count C hj6 hR hS hl tail
end B61
section B61b
variable {dC : Nat → ClassId} {dI : Nat → Nat → Nat} {z : Nat} {A : Nat → Prop} {bs cp h0 sz rs : Nat} {H H1 : Heap}
theorem Cw.start (hh : A h0) (hla : ∀ i, i < 5 → A (sz + i)) (ho : oat dC dI h0 4 (eD (fun i => sz + i) iD0) H) (hJ : J3 dC dI z sz 4 H) (hi : iat dC dI (sz + 4) 6 7 (fun _ => 0) H) (hz : Sz bs H) (hs : H.size + rs ≤ cp) (hA : ∀ y, H.size ≤ y → A y) : Cw dC dI z A bs cp h0 (fun i => sz + i) (fun _ => 0) (fun _ => 0) 0 0 (fun _ => False) iD0 (fun _ => False) (fun _ => 0) 0 0 rs H := by
  have h0n : ∀ i, nL4 0 0 0 0 i = 0 := fun i => by unfold nL4; split <;> rfl
  refine ⟨⟨fun i j _ _ h => Nat.add_left_cancel h, fun _ => z, fun _ _ _ _ _ _ => rfl, fun i hi4 => ?_⟩, ⟨hh, hla 4 (by decide), ⟨iD0, ho, fun _ _ _ => rfl⟩, fun _ => 0, hi⟩, fun k h => absurd h (Nat.not_lt_zero _), fun k h => absurd h (Nat.not_lt_zero _), fun r h => h.elim, ⟨hz, hs, hA⟩, by decide, by decide, Nat.le_refl _, 0, by decide, ?_, by decide⟩
  · rw [h0n i]
    exact ⟨hla i (by omega), by decide, 0, by rw [nI_0]; exact hJ i hi4, Or.inl ⟨rfl, rfl⟩⟩
  · rw [nI_0]; rfl
theorem MI_start : MI 0 0 (fun _ => False) (fun k => if k = 5 then 3 else if k = 6 then 20 else 0) (fun _ _ => 0) :=
  ⟨⟨nI_0.symm, by decide⟩, ⟨nI_0.symm, by decide⟩, fun _ _ => ⟨0, by decide, nI_0.symm⟩, fun _ _ => ⟨0, by decide, nI_0.symm⟩, fun _ _ _ => rfl, fun _ _ _ => rfl, fun _ _ => ⟨fun h => h.elim, fun h => absurd h (gDr_n (Or.inl rfl))⟩⟩
theorem kx_ok : ∀ i, i < 32 → mAr (kx i) = true ∧ mN (kx i) ≤ 610 ∧ kx i - 10 = i := by decide
theorem Sz.rows {Rr : Nat → Nat} {A9 : Nat → Prop} {V : Nat → Int32} {G : Nat → Nat → Int32} {mc ms : Nat} (h : Sz bs H) (hk : Szk H H1 mc ms) (hM : Mw dC dI h0 Rr A9 V G H1) (hR : ∀ k, Rr k = H.size + (k - 10)) (hz : H1.size = H.size + 32) : Sz bs H1 := by
  intro x c hx hc
  have hl : x < H1.size := (Array.getElem?_eq_some_iff.mp hc).1
  rcases Nat.lt_or_ge x H.size with q | q
  · obtain ⟨c1, e1, e2⟩ := hk.1 x H[x] (by simp [q])
    have e3 : c1 = c := Option.some.inj (e1.symm.trans hc)
    rw [← e3, e2]
    exact h x _ hx (by simp [q])
  · obtain ⟨g1, g2, g3⟩ := kx_ok (x - H.size) (by omega)
    obtain ⟨f, hf, -⟩ := hM.2.2 _ g1
    have e4 : Rr (kx (x - H.size)) = x := by rw [hR, g3]; omega
    rw [e4] at hf
    have e5 : c = vp_cell (dC (mC (kx (x - H.size)))) (mN (kx (x - H.size)), .inl f) := Option.some.inj (hc.symm.trans hf)
    rw [e5]
    show (arrV _ _ _).slots.size ≤ 610
    rw [arrV_size]
    exact g2
end B61b
set_option maxHeartbeats 8000000 in
set_option maxRecDepth 20000 in
/-- THE LAW, from its entry -/
theorem whole_start {p : Program} {e : Env} {s : State} {m : MethodId} {below : List Frame} {meth : Method} {c : Code} (l : Launch) {b L : Nat} {xs : Nat → Int32} (hL : L ≤ 3072) (C0 : lw_At p s m meth c b L xs) : W p l e room_1 s m #[Value.ref b] below meth c s.heap [] 0 0 (lw_Z below #[Value.ref b] s) (entryFrame m ([Value.ref b] : List Value).toArray 4) := by
  obtain ⟨hx, hb, hr, hml, hown, hts0, hX, hbl, hlocks, hgv⟩ := id C0
  have hown : s.vm.findClass RL = some m.cls := hown
  have hts : ∀ w ∈ tb, w.before #[Value.ref b] s = true := fun w h => hts0 w (tb_lw h)
  have hAn : ∀ a : Nat, a < s.heap.size → ¬ (fun q => s.heap.size ≤ q) a := fun a h h2 => absurd h2 (Nat.not_le.mpr h)
  have hs := flat_of_before _ hgv
  have hz1 : (Cond.arrayOf (.static "java/util/ArrayList" "DEFAULTCAPACITY_EMPTY_ELEMENTDATA" "[Ljava/lang/Object;") (.object "java/lang/Object")).before #[Value.ref b] s = true := hs _ (by decide +kernel)
  have hz2 : (Cond.eq (.length (.static "java/util/ArrayList" "DEFAULTCAPACITY_EMPTY_ELEMENTDATA" "[Ljava/lang/Object;")) (.int 0)).before #[Value.ref b] s = true := hs _ (by decide +kernel)
  have hz9 : (Cond.isRef (.mirror "[Ljava/lang/Object;")).before #[Value.ref b] s = true := hs _ (by decide +kernel)
  obtain ⟨z, hz3, hz4⟩ := va_Tof (N := 0) (f := fun _ => .null) (A := fun q => s.heap.size ≤ q) (by decide) hz1 (va_eqt hz2) (fun j h => absurd h (Nat.not_lt_zero j)) hAn
  obtain ⟨mi, hmi⟩ := va_Mi.of hz9
  have hZ : pzS z (fun q => s.heap.size ≤ q) s s.heap := ⟨va_Zref (hts0 (.laysStatic "java/util/ArrayList" "DEFAULTCAPACITY_EMPTY_ELEMENTDATA" "[Ljava/lang/Object;") (by decide +kernel)) (hts0 (.initialized "java/util/ArrayList") (by decide +kernel)) hz3 hAn, hz4, va_AO.of (hts0 (.arrayOver (.object "java/lang/Object")) (by decide +kernel)), va_Nw.of rfl (hts0 (.castable "FrontDoor$Server" "java/lang/Object") (by decide +kernel)), va_Nw.of rfl (hts0 (.castable "FrontDoor$Call" "java/lang/Object") (by decide +kernel))⟩
  have hDc : va_Dc s := va_Dc.of (hts0 (.declares ⟨"java/lang/Object", "getClass", "()Ljava/lang/Class;"⟩) (by decide +kernel))
  obtain ⟨c0, iS0, hKn0⟩ := u_known (C := RJx4a65c) (T := TJx4a65c) (N := 3) (n := 3) hts inJx4a65c (hts _ iw_80)
  obtain ⟨c1, iS1, hKn1⟩ := u_known (C := RX0) (T := TX0) (N := 4) (n := 4) hts inX0 (hts _ iw_449)
  obtain ⟨c2, iS2, hKn2⟩ := u_known (C := RX1) (T := TX1) (N := 12) (n := 12) hts inX1 (hts _ iw_352)
  obtain ⟨c3, iS3, hKn3⟩ := u_known (C := RX2) (T := TX2) (N := 17) (n := 17) hts inX2 (hts _ iw_159)
  obtain ⟨c4, iS4, hKn4⟩ := u_known (C := RX3) (T := TX3) (N := 13) (n := 13) hts inX3 (hts _ iw_72)
  obtain ⟨c5, iS5, hKn5⟩ := u_known (C := RX4) (T := TX4) (N := 43) (n := 43) hts inX4 (hts _ iw_641)
  obtain ⟨c6, k6, p6, f6, g6, h6⟩ := Cond.arrayClass_spec (hts _ iw_145)
  obtain ⟨c7, k7, p7, f7, g7, h7⟩ := Cond.arrayClass_spec (hts _ iw_776)
  obtain ⟨p8, c8, k8, f8, -, g8, h8, j8⟩ := Cond.arrayOver_spec hZ.2.2.1
  obtain ⟨dC, dI, hKt⟩ : ∃ (dC : Nat → ClassId) (dI : Nat → Nat → Nat), Kt dC dI s := by
    refine ⟨fun k => if k = 0 then c0 else if k = 1 then c1 else if k = 2 then c2 else if k = 3 then c3 else if k = 4 then c4 else if k = 5 then c5 else if k = 6 then c6 else if k = 7 then c7 else c8, fun k => if k = 0 then iS0 else if k = 1 then iS1 else if k = 2 then iS2 else if k = 3 then iS3 else if k = 4 then iS4 else iS5, ?_, ?_⟩
    · intro k q hq
      match k, hq with
      | 0, hq => cases hq; exact hKn0
      | 1, hq => cases hq; exact hKn1
      | 2, hq => cases hq; exact hKn2
      | 3, hq => cases hq; exact hKn3
      | 4, hq => cases hq; exact hKn4
      | 5, hq => cases hq; exact hKn5
      | k + 6, hq => simp [vwCl] at hq
    · intro k q hq
      match k, hq with
      | 0, hq => cases hq; exact ⟨fun n9 z9 => ⟨fun k h => (by cases h), k6, g6, p6, h6⟩, f6⟩
      | 1, hq => cases hq; exact ⟨fun n9 z9 => ⟨fun k h => (by cases h), k7, g7, p7, h7⟩, f7⟩
      | 2, hq => cases hq; exact ⟨fun n9 z9 => ⟨fun k h => (by cases h), k8, g8, p8, h8⟩, k8, p8, g8, h8, f8, j8⟩
      | k + 3, hq => simp at hq
  obtain ⟨A, hAe⟩ : ∃ A : Nat → Prop, A = (fun q => s.heap.size ≤ q) := ⟨_, rfl⟩
  have hA : ∀ q : Nat, s.heap.size ≤ q → A q := fun q h => by rw [hAe]; exact h
  have hA2 : ∀ q : Nat, A q → s.heap.size ≤ q := fun q h => by rw [hAe] at h; exact h
  rw [← hAe] at hZ
  clear hAe hAn
  have hbA : ¬ A b := fun h => absurd (hA2 b h) (Nat.not_le.mpr hbl)
  have hK : KZ dC dI z mi A s := ⟨hKt, hZ, hmi, hDc⟩
  have S : CallFix p m c cL_law 4 s #[Value.ref b] tb RL := ⟨hx, hb, hml, hown, hts⟩
  have hS : va_S A s.heap s.heap [] := va_S.rf
  have hl := lv_entry ([.ref b]) (n := 4) (Nat.le_of_ble_eq_true rfl)
  rw [lg_entry_eq]
  generalize (lg_sl ([.ref b]) ++ List.replicate (4 - (lg_sl ([.ref b])).length) Slot.unset).toArray = ls at hl ⊢
  have hl : lv_has ls 4 [(0, .ref b)] := hl
  have hz0 : Sz s.heap.size s.heap := fun x c9 h9 h8 => absurd (Array.getElem?_eq_some_iff.mp h8).1 (by omega)
  generalize hS0 : s.heap.size = S0 at *
  refine x_new (own := RL) (C := RX3) (T := TX3) (N := 13) (ci := 4) (fs := [.null, .null, .null, .null, .null, .int 0, .int 0, .int 0, .int 0, .int 0, .int 0, .int 0, .int 0]) hx hb hts inX3 tyX3 tyX3_ok hown (hts _ iw_71) (hts _ iw_72) (hts _ iw_57) hKt hS rfl (fun j hj => match j, hj with | 0, _ => rfl | 1, _ => rfl | 2, _ => rfl | 3, _ => rfl | 4, _ => rfl | 5, _ => rfl | 6, _ => rfl | 7, _ => rfl | 8, _ => rfl | 9, _ => rfl | 10, _ => rfl | 11, _ => rfl | 12, _ => rfl | z9 + 13, h9 => absurd h9 (by omega)) (Nat.le_of_ble_eq_true rfl) (Nat.le_of_ble_eq_true rfl) dL_law_0 (fun H ho hz hf hc hS => ?_)
  rw [hS0] at ho hz hf hc ⊢
  have hzH : Sz S0 H := hz0.fresh (by rw [hS0]; exact hz) (by rw [hS0]; exact hf) (by rw [hS0]; exact hc) (by decide)
  refine lv_dup hx hb dL_law_3 rfl ?_
  have hq3 := Met.sized (KK := KZ dC dI z mi (fun y => y = S0 ∨ S0 + 1 ≤ y)) (Pw := fun H9 => H9.size = S0 + 1 ∧ oat dC dI S0 4 [.null, .null, .null, .null, .null, .int 0, .int 0, .int 0, .int 0, .int 0, .int 0, .int 0, .int 0] H9) H (q_X3_init l dC dI z mi S0 (S0 + 1))
  refine c_i (A1 := fun y => y = S0 ∨ S0 + 1 ≤ y) (KK := KZ dC dI z mi (fun y => y = S0 ∨ S0 + 1 ≤ y)) (Pw := fun H9 => H9 = H ∧ H9.size = S0 + 1 ∧ oat dC dI S0 4 [.null, .null, .null, .null, .null, .int 0, .int 0, .int 0, .int 0, .int 0, .int 0, .int 0, .int 0] H9) (n := 0) (mc := 5) (ms := 19) (rm := { frames := 4, cells := 5, slots := 19, locals := 72 }) (As := []) (rest := [.ref S0]) S hq3 iw_75 iw_73 iw_74 iw_57 rfl (by decide +kernel) rfl ⟨rfl, rfl, Nat.le_of_ble_eq_true rfl, Nat.le_of_ble_eq_true rfl⟩ KZ.blind (hK.at hS (fun y9 h9 => hA y9 (by omega))) ⟨rfl, hz, ho⟩ hl.1 rfl (Nat.le_of_ble_eq_true rfl) dL_law_4 ⟨Nat.le_of_ble_eq_true rfl, Nat.le_of_ble_eq_true rfl⟩ hS (fun y9 h9 => hA y9 (by omega)) (fun v9 H1 locs hB hz9 hk9 hS => ?_)
  obtain ⟨⟨rfl, ho, hJ, hi, hz1⟩, hk⟩ := hB
  have hzH1 : Sz S0 H1 := hzH.of hk.1 (Nat.le_trans hk.2.2 (by decide))
  refine W.eq (g2 := F0 m 7 ls [.ref S0]) rfl ?_
  refine lv_astore_n (lv' := [(1, .ref S0), (0, .ref b)]) hx hb dL_law_7 rfl hl (by decide) rfl (fun ls hl => ?_)
  refine x_new (own := RL) (C := RX4) (T := TX4) (N := 43) (ci := 5) (fs := fM0) hx hb hts inX4 tyX4 tyX4_ok hown (hts _ iw_640) (hts _ iw_641) (hts _ iw_61) hKt hS rfl (fun j hj => match j, hj with | 0, _ => rfl | 1, _ => rfl | 2, _ => rfl | 3, _ => rfl | 4, _ => rfl | 5, _ => rfl | 6, _ => rfl | 7, _ => rfl | 8, _ => rfl | 9, _ => rfl | 10, _ => rfl | 11, _ => rfl | 12, _ => rfl | 13, _ => rfl | 14, _ => rfl | 15, _ => rfl | 16, _ => rfl | 17, _ => rfl | 18, _ => rfl | 19, _ => rfl | 20, _ => rfl | 21, _ => rfl | 22, _ => rfl | 23, _ => rfl | 24, _ => rfl | 25, _ => rfl | 26, _ => rfl | 27, _ => rfl | 28, _ => rfl | 29, _ => rfl | 30, _ => rfl | 31, _ => rfl | 32, _ => rfl | 33, _ => rfl | 34, _ => rfl | 35, _ => rfl | 36, _ => rfl | 37, _ => rfl | 38, _ => rfl | 39, _ => rfl | 40, _ => rfl | 41, _ => rfl | 42, _ => rfl | z9 + 43, h9 => absurd h9 (by omega)) (Nat.le_of_ble_eq_true rfl) (Nat.le_of_ble_eq_true rfl) dL_law_8 (fun H2 ho4 hz2 hf2 hc2 hS => ?_)
  have hzH2 : Sz S0 H2 := hzH1.fresh hz2 hf2 hc2 (by decide)
  rw [hz1] at ho4 hz2 hf2 ⊢
  have ho2 : oat dC dI S0 4 (eD (fun i => S0 + 1 + i) iD0) H2 := va_at.kept ho (hf2 S0 (by omega))
  have hJ2 : J3 dC dI z (S0 + 1) 4 H2 := hJ.keep (fun y9 h8 h9 => hf2 y9 (by omega))
  have hi2 : iat dC dI (S0 + 1 + 4) 6 7 (fun _ => 0) H2 := va_at.kept hi (hf2 _ (by omega))
  refine lv_dup hx hb dL_law_11 rfl ?_
  have hq4 := Met.sized (KK := Kt dC dI) (Pw := fun H9 => H9.size = S0 + 1 + 5 + 1 ∧ oat dC dI (S0 + 1 + 5) 5 fM0 H9) H2 (q_X4_init l dC dI (fun y => S0 + 1 + 5 ≤ y) (S0 + 1 + 5) (S0 + 1 + 5 + 1) (Nat.le_refl _) (fun y9 h9 => Nat.le_of_succ_le h9))
  refine c_i (A1 := fun y => y = S0 + 1 + 5) (KK := Kt dC dI) (Pw := fun H9 => H9 = H2 ∧ H9.size = S0 + 1 + 5 + 1 ∧ oat dC dI (S0 + 1 + 5) 5 fM0 H9) (n := 0) (mc := 32) (ms := 3935) (rm := { frames := 1, cells := 32, slots := 3935, locals := 12 }) (As := []) (rest := [.ref (S0 + 1 + 5)]) S hq4 iw_644 iw_642 iw_643 iw_61 rfl (by decide +kernel) rfl ⟨rfl, rfl, Nat.le_of_ble_eq_true rfl, Nat.le_of_ble_eq_true rfl⟩ Kt.blind (fun U _ h9 => va_K.moved h9.alike hKt) ⟨rfl, hz2, ho4⟩ hl.1 rfl (Nat.le_of_ble_eq_true rfl) dL_law_12 ⟨Nat.le_of_ble_eq_true rfl, Nat.le_of_ble_eq_true rfl⟩ hS (fun y9 h9 => hA y9 (by omega)) (fun v9 H3 locs hB hz9 hk9 hS => ?_)
  obtain ⟨⟨rfl, hM, hz3⟩, hk⟩ := hB
  have hzH3 : Sz S0 H3 := hzH2.rows hk hM (fun k9 => by rw [hz2]) (by omega)
  have ho3 : oat dC dI S0 4 (eD (fun i => S0 + 1 + i) iD0) H3 := va_at.kept ho2 (hk9 S0 (by omega) (by omega))
  have hJ3 : J3 dC dI z (S0 + 1) 4 H3 := hJ2.keep (fun y9 h8 h9 => hk9 y9 (by omega) (by omega))
  have hi3 : iat dC dI (S0 + 1 + 4) 6 7 (fun _ => 0) H3 := va_at.kept hi2 (hk9 _ (by omega) (by omega))
  have hW : Cw dC dI z (fun q => (S0 ≤ q ∧ q < S0 + 6) ∨ S0 + 39 ≤ q) S0 (S0 + 2655) S0 (fun i => S0 + 1 + i) (fun _ => 0) (fun _ => 0) 0 0 (fun _ => False) iD0 (fun _ => False) (fun _ => 0) 0 0 2616 H3 := Cw.start (Or.inl (by omega)) (fun i h9 => Or.inl (by omega)) ho3 hJ3 hi3 hzH3 (by omega) (fun y9 h9 => Or.inr (by omega))
  have hM4 := hM.sub (A1 := fun q => S0 + 6 ≤ q ∧ q < S0 + 39) (by omega) (fun k9 h9 => by have g1 := mAr_ge h9; show S0 + 6 ≤ S0 + 1 + 5 + 1 + (k9 - 10) ∧ S0 + 1 + 5 + 1 + (k9 - 10) < S0 + 39; omega)
  have hag : agn iD0 = 0 := agn_of (X := iD0) (a := 0) (by rw [nI_0]; rfl) (by decide)
  have hR : LRel dC dI z (fun q => (S0 ≤ q ∧ q < S0 + 6) ∨ S0 + 39 ≤ q) (fun q => S0 + 6 ≤ q ∧ q < S0 + 39) S0 (S0 + 2655) S0 (fun i => S0 + 1 + i) (S0 + 1 + 5) (fun k => S0 + 1 + 5 + 1 + (k - 10)) H3 := ⟨fun _ => 0, fun _ => 0, 0, 0, fun _ => False, iD0, fun _ => False, fun _ => 0, 0, 0, 2616, _, _, hW, hM4, MI_start, by rw [hag]; decide, by decide, fun _ h => h.elim, rfl, rfl, rfl, rfl⟩
  refine W.eq (g2 := F0 m 15 ls [.ref (S0 + 1 + 5)]) rfl ?_
  refine lv_astore_n (lv' := [(2, .ref (S0 + 1 + 5)), (1, .ref S0), (0, .ref b)]) hx hb dL_law_15 rfl hl (by decide) rfl (fun ls hl => ?_)
  refine lv_iconst (v := nI 0) hx hb dL_law_16 (by decide) ?_
  refine lv_istore_n (lv' := [(3, .int (nI 0)), (2, .ref (S0 + 1 + 5)), (1, .ref S0), (0, .ref b)]) hx hb dL_law_17 rfl hl (by decide) rfl (fun ls hl => ?_)
  subst hS0
  refine W.to9 (cp := s.heap.size + 2655) (sz := s.heap.size) rfl (Nat.le_refl _) hS hzH3 (by omega) ?_
  exact law_loop l (A3 := fun q => (s.heap.size ≤ q ∧ q < s.heap.size + 6) ∨ s.heap.size + 39 ≤ q) (A4 := fun q => s.heap.size + 6 ≤ q ∧ q < s.heap.size + 39) ⟨S, ⟨hX, hbl, hbA, hL⟩, hK, ⟨fun q h => hA q (by omega), fun q h => hA q (by omega), fun q h1 h2 => by omega⟩, rfl⟩ hA2 hr hlocks (L + 1) 0 H3 locs ls (Nat.zero_le _) (by omega) hR hS hl
set_option maxHeartbeats 4000000 in
theorem lw_walk (l : Launch) (b : Addr) (xs : List Int32) : MetFree l x (headSpec (Jvm.Cond.code x code maxLocals ret :: tables_1) room_1) (lw_P b xs) (fun _ _ _ _ _ => True) lw_Q := by
  refine MetFree.of_bodyS (code := code) (maxLocals := maxLocals) (ret := ret) (by decide) ?_ ?_
  · intro args s m h hn
    obtain ⟨meth, c, h1, h2, h3, h4, h5, h6, -, -⟩ := Cond.code_spec hn (atoms_spec (ws := Jvm.Cond.code x code maxLocals ret :: tables_1) h _ List.mem_cons_self)
    exact ⟨meth, c, h1, h2, h3, h4, h5, h6⟩
  · intro p e s m args below meth c s₁ B hml0 hP _
    obtain ⟨rfl, hx, hbd, hgv⟩ := hP
    obtain ⟨scr, harrAt, hlist, hof, hsmall⟩ := hx
    obtain ⟨hcb, hkn, -, -⟩ := State.arrayAt?_spec harrAt
    have hown : s.vm.findClass R_law = some m.cls := findClass_of_methodNamed B.named
    have hts0 : ∀ c ∈ (Jvm.Cond.code x code maxLocals ret :: tables_1), c.before #[Value.ref b] s = true := atoms_spec (ws := Jvm.Cond.code x code maxLocals ret :: tables_1) B.pre
    have hts : ∀ w ∈ lw_tbl, w.before #[Value.ref b] s = true := k2_hts_sels lw_privs (fun w hw => hts0 w (List.mem_cons_of_mem _ hw)) lw_privs_ok
    have hml : c.maxLocals = 4 := B.maxLocals_eq (hts0 _ List.mem_cons_self)
    have X₀ : Stand p l e room_1 s m #[Value.ref b] below meth c s₁ [] 0 0 := Stand.of_body B
    have hh0 : s₁.heap = s.heap := by rw [B.state]; rfl
    have hsz : scr.slots.size = xs.length := by rw [← Array.length_toList, hlist, List.length_map]
    have hval : ∀ j : Nat, j < xs.length → scr.slots[j]? = some (.int (xs.getD j 0)) := fun j hj => by
      rw [← Array.getElem?_toList, hlist]
      simp [hj]
    have hbl : b < s.heap.size := (Array.getElem?_eq_some_iff.mp hcb).1
    have hX : va_X b xs.length (fun j => xs.getD j 0) s s.heap := ⟨scr, hcb, hof, hkn, hsz, hval⟩
    have K : W p l e room_1 s m #[Value.ref b] below meth c s₁.heap [] 0 0 (lw_Z below #[Value.ref b] s) (entryFrame m ([Value.ref b] : List Value).toArray 4) := by
      rw [hh0]
      exact whole_start l hbd ⟨B.exec, B.bytes, B.returns, hml, hown, hts, hX, hbl, B.notSynchronized, hgv⟩
    obtain ⟨t, a1, o, b1, b2, b3⟩ := K s₁ rfl X₀
    exact ⟨t, o, a1, b1, b2, b3⟩
theorem lw_pre_spec {args : Array Value} {s : State} (h : (Jvm.Cond.and given_1 narrow_1).before args s = true) (hr : rest_1_c.before args s = true) : ∃ (b : Addr) (xs : List Int32), lw_P b xs args s := by
  have hs := flat_of_before _ h
  have hq := flat_of_before _ hr
  have hc : (Cond.count 1).before args s = true := hs _ (by decide +kernel)
  have harr : (Cond.arrayOf (.arg 0) .int).before args s = true := hs _ (by decide +kernel)
  have hle : (Cond.le (.length (.arg 0)) (.int 3072)).before args s = true := hs _ (by decide +kernel)
  have hlen : (Cond.isInt (.length (.arg 0))).before args s = true := hq _ (by decide +kernel)
  have hall : (Cond.all (.arg 0) (.isInt (.elem (.arg 0) (.index 0)))).before args s = true := hq _ (by decide +kernel)
  obtain ⟨b, xs, hb, hx⟩ := State.ints_of_pre rfl harr hlen hall
  have hsm : xs.length < 2 ^ 31 := hx.choose_spec.2.2.2
  have hev : (Term.length (.arg 0)).eval args s none [] s = some (.int xs.length.toInt32) := hx.length_eval hb
  have hv := Cond.le_ints hev (show (Term.int 3072).eval args s none [] s = some (.int 3072) from rfl)
  have hd : xs.length.toInt32 ≤ 3072 := by
    simpa [Cond.before, Cond.holds, hv] using hle
  have hN : xs.length ≤ 3072 := (Int32.ofNat_le_ofNat hsm (by decide)).mp (show Int32.ofNat xs.length ≤ Int32.ofNat 3072 from hd)
  exact ⟨b, xs, Cond.one_arg hc (show args[0]? = some (.ref b) from hb), hx, hN, h⟩
theorem lw_comes (l : Launch) : Comes l x (Jvm.Cond.code x code maxLocals ret :: tables_1) room_1 (fun tb e args s => Calls_1 tb e args s ∧ rest_1 tb e args s ∧ Pre_1 tb e args s)
    (fun _ _ args s o t => lw_Q args s o t) := by
  intro p e ha hc hk s m args below hf hfit hheap happ hpre
  obtain ⟨b, xs, hP⟩ := lw_pre_spec hpre.2.2 hpre.2.1
  obtain ⟨k, o, h1, h2, h3, hQ⟩ := lw_walk l b xs p e ha hc hk s m args below hf ((Spec.applies_iff_loose hf).mp happ).1 hP trivial
  exact ⟨k, o, h1, h2, h3, hQ⟩
theorem lw_frame {s t : State} {o : Outcome} {args : Array Value} (h : Framed s o t [] 600000 7302250) :
    Framed s o t (fieldLocs frame_1_writes args s ++ arrayLocs frame_1_arrays args s ++ staticLocs frame_1_statics s) 600000 7302250 := h
theorem lw_limb (L : Cond) (hL : ∀ (args : Array Value) (s t : State), L.after args s (.returned (some (.int 1))) t = true) :
    ArmFor flags0 classFile x code maxLocals ret World_1 tables_1 room_1 Calls_1 rest_1 Pre_1
      (fun tb e a s o t => postC L tb e a s o t ∧ Framed s o t (fieldLocs frame_1_writes a s ++ arrayLocs frame_1_arrays a s ++ staticLocs frame_1_statics s) 600000 7302250) := by
  intro l _ _ _ p e ha hc hk s m args below hf hfit hheap happ hpre
  obtain ⟨k, o, h1, h2, h3, rfl, hF⟩ := lw_comes l p e ha hc hk s m args below hf hfit hheap happ hpre
  exact ⟨k, _, h1, h2, h3, hL args s _, lw_frame hF⟩
theorem i_vc : Claimed_1_1 ∧ Claimed_1_2 := ⟨lw_limb limb_1_1 (fun args s t => by simp [limb_1_1, Cond.after, Cond.holds, Cond.value]), lw_limb limb_1_2 (fun args s t => Cond.after_iff.mpr (by
  first | (rw [show limb_1_2 = Cond.eq .result (.int 1) from rfl, Cond.eq_ints (x := 1) (y := 1) rfl rfl]; simp; done) | (simp [limb_1_2, Cond.value, Term.eval]; done)))⟩
