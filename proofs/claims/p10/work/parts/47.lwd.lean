theorem nL4_ne2 {ns nc nl nl1 nq j : Nat} (h : j ≠ 2) (h4 : j < 4) : nL4 ns nc nl1 nq j = nL4 ns nc nl nq j := by
  rcases (show j = 0 ∨ j = 1 ∨ j = 3 by omega) with rfl | rfl | rfl <;> rfl
theorem nL4_ne3 {ns nc nl nq nq1 j : Nat} (h : j ≠ 3) (h4 : j < 4) : nL4 ns nc nl nq1 j = nL4 ns nc nl nq j := by
  rcases (show j = 0 ∨ j = 1 ∨ j = 2 by omega) with rfl | rfl | rfl <;> rfl
/-! the class's world when a list has changed -/
section B47
variable {dC : Nat → ClassId} {dI : Nat → Nat → Nat} {z : Nat} {A : Nat → Prop} {bs cp h0 : Nat} {la sA cA : Nat → Nat} {ns nc : Nat} {dr : Nat → Prop} {X : Nat → Int32} {P : Nat → Prop} {tr : Nat → Int32} {nl nq rs : Nat} {H H1 : Heap}
theorem Li.lt {q eE n : Nat} {ok : Nat → Nat → Prop} (h : Li dC dI z A q eE n ok H) (hz : z < H.size) : q < H.size ∧ eE < H.size := by
  obtain ⟨-, -, m0, ho, hc⟩ := h
  refine ⟨va_at.lt ho, ?_⟩
  rcases hc with ⟨h1, -⟩ | ⟨-, -, cap, f, hq, -⟩
  · rw [h1]; exact hz
  · exact va_at.lt hq
theorem Li.mono {q eE n : Nat} {ok ok' : Nat → Nat → Prop} (h : Li dC dI z A q eE n ok H) (hm : ∀ t r, t < n → ok t r → ok' t r) : Li dC dI z A q eE n ok' H := by
  obtain ⟨a, b, m0, ho, hc⟩ := h
  exact ⟨a, b, m0, ho, hc.imp id (fun ⟨g1, g2, cap, f, g3, g4, g5, g6⟩ => ⟨g1, g2, cap, f, g3, g4, g5, fun t ht => by
    obtain ⟨r, h1, h2⟩ := g6 t ht
    exact ⟨r, h1, hm t r ht h2⟩⟩)⟩
theorem Lw.upd {n n' : Nat → Nat} {ok ok' : Nat → Nat → Nat → Prop} (hcl : ∀ i, i < 9 → ∀ j, j < 9 → dC i = dC j → i = j) (hinj : ∀ i j, i < 4 → j < 4 → la i = la j → i = j) {E : Nat → Nat} (hE : ∀ i j, i < 4 → j < 4 → i ≠ j → E i = E j → E i = z) (hL : ∀ i, i < 4 → Li dC dI z A (la i) (E i) (n i) (ok i) H) (hz : z < H.size) (hnz : ¬ A z) {i : Nat} (hi : i < 4) {e1 : Nat} (hnew : Li dC dI z A (la i) e1 (n' i) (ok' i) H1) (he : e1 = E i ∨ H.size ≤ e1) (hk : ∀ y : Nat, y < H.size → ¬ AL (la i) (E i) z H.size y → H1[y]? = H[y]?) (hn : ∀ j, j ≠ i → j < 4 → n' j = n j) (hok : ∀ j, j ≠ i → j < 4 → ∀ t r, ok j t r → ok' j t r) : Lw dC dI z A la n' ok' H1 := by
  refine ⟨hinj, va_up E i e1, fun a b ha hb hab h9 => ?_, fun j hj => ?_⟩
  · by_cases qa : a = i
    · subst qa
      rw [vu_s, vu_n (fun q => hab q.symm)] at h9
      rw [vu_s]
      rcases he with h | h
      · rw [h]; exact hE a b ha hb hab (h.symm.trans h9)
      · have := (hL b hb).lt hz
        omega
    · by_cases qb : b = i
      · subst qb
        rw [vu_n qa, vu_s] at h9
        rw [vu_n qa]
        rcases he with h | h
        · exact hE a b ha hb hab (h9.trans h)
        · have := (hL a ha).lt hz
          omega
      · rw [vu_n qa, vu_n qb] at h9
        rw [vu_n qa]
        exact hE a b ha hb hab h9
  · by_cases q : j = i
    · subst q; rw [vu_s]; exact hnew
    · rw [vu_n q, hn j q hj]
      have hLj := hL j hj
      refine (Li.kept hLj (hk _ (hLj.lt hz).1 ?_) (fun hA hc => hk _ (hLj.lt hz).2 ?_)).mono (fun t r _ h => hok j q hj t r h)
      · rintro (h | ⟨h, h2⟩ | h)
        · exact q (hinj j i hj hi h)
        · obtain ⟨-, -, m0, ho, hc⟩ := hL i hi
          rcases hc with ⟨h3, -⟩ | ⟨-, -, cap, f, hq, -⟩
          · exact h2 h3
          · exact cls_ne hcl hLj.q.2 (qat_cls hq) (by decide) (by decide) (by decide) h
        · have := (hLj.lt hz).1
          omega
      · rintro (h | ⟨h, h2⟩ | h)
        · exact cls_ne hcl hc (hL i hi).q.2 (by decide) (by decide) (by decide) h
        · have h3 := hE j i hj hi q h
          exact hnz (h3 ▸ hA)
        · have := (hLj.lt hz).2
          omega
theorem Kp.al {q eE n : Nat} {ok : Nat → Nat → Prop} (hcl : ∀ i, i < 9 → ∀ j, j < 9 → dC i = dC j → i = j) (hLi : Li dC dI z A q eE n ok H) (hk : ∀ y : Nat, y < H.size → ¬ AL q eE z H.size y → H1[y]? = H[y]?) : Kp dC (fun i => i ≠ 0 ∧ i ≠ 8) A H H1 := by
  intro y i hi hS hA hc
  have hl : y < H.size := by
    obtain ⟨cell, h1, -⟩ := hc
    exact (Array.getElem?_eq_some_iff.mp h1).1
  refine hk y hl ?_
  rintro (h | ⟨h, h2⟩ | h)
  · exact cls_ne hcl hc hLi.q.2 hi (by decide) hS.1 h
  · obtain ⟨-, -, m0, ho, hc2⟩ := hLi
    rcases hc2 with ⟨h3, -⟩ | ⟨-, -, cap, f, hq, -⟩
    · exact h2 h3
    · exact cls_ne hcl hc (qat_cls hq) hi (by decide) hS.2 h
  · omega
/-- list i is another one; all else is as it was -/
theorem Cw.list {s : State} (hK : Kt dC dI s) (h : Cw dC dI z A bs cp h0 la sA cA ns nc dr X P tr nl nq rs H) {E : Nat → Nat} (hE : ∀ i j, i < 4 → j < 4 → i ≠ j → E i = E j → E i = z) (hL : ∀ i, i < 4 → Li dC dI z A (la i) (E i) (nL4 ns nc nl nq i) (okL sA cA nc i) H) (hz : z < H.size) (hnz : ¬ A z) {i : Nat} (hi : i < 4) {nl1 nq1 rs1 e1 : Nat} (hnew : Li dC dI z A (la i) e1 (nL4 ns nc nl1 nq1 i) (okL sA cA nc i) H1) (he : e1 = E i ∨ H.size ≤ e1) (hk : ∀ y : Nat, y < H.size → ¬ AL (la i) (E i) z H.size y → H1[y]? = H[y]?) (hn : ∀ j, j ≠ i → j < 4 → nL4 ns nc nl1 nq1 j = nL4 ns nc nl nq j) (hs : Sz bs H1 ∧ H1.size + rs1 ≤ cp ∧ ∀ y, H1.size ≤ y → A y) (hb : Bds ns nc nl1 nq1 X) : Cw dC dI z A bs cp h0 la sA cA ns nc dr X P tr nl1 nq1 rs1 H1 := by
  obtain ⟨a, b, c, d, e, -, -⟩ := h
  have kp := Kp.al hK.inj (hL i hi) hk
  exact ⟨Lw.upd hK.inj a.1 hE hL hz hnz hi hnew he hk hn (fun _ _ _ _ _ h => h), b.kept kp (by decide) (by decide), c.kept kp (by decide), d.kept kp (by decide), e.kept kp (by decide), hs, hb⟩
end B47
section B47b
variable {p : Program} {l : Launch} {e : Env} {R : Room} {s : State} {m : MethodId} {args : Array Value} {below : List Frame} {meth : Method} {c : Code} {H : Heap} {locs : List Loc} {cells slots : Nat} {Q : State → Prop}
variable {cc : ByteArray} {pc nL : Nat} {ls : Array Slot} {rest : List Value}
variable {dC : Nat → ClassId} {dI : Nat → Nat → Nat} {z mi : Nat} {A : Nat → Prop} {bs cp h0 : Nat} {la sA cA : Nat → Nat} {ns nc : Nat} {dr : Nat → Prop} {X : Nat → Int32} {P : Nat → Prop} {tr : Nat → Int32} {nl nq rs : Nat}
theorem KZ.zz (hKZ : KZ dC dI z mi A s) (hS : va_S A s.heap H locs) : z < H.size ∧ ¬ A z := by
  obtain ⟨cz, hcz, -, -, -, -, -, hnz⟩ := id hKZ.2.1.2.1
  have h1 : z < s.heap.size := (Array.getElem?_eq_some_iff.mp hcz).1
  exact ⟨Nat.lt_of_lt_of_le h1 hS.1, hnz⟩
/-- a CALL may stand in a row -/
theorem Cw.elC (hKZ : KZ dC dI z mi A s) (hW : Cw dC dI z A bs cp h0 la sA cA ns nc dr X P tr nl nq rs H) {i : Nat} {eE n : Nat} {ok : Nat → Nat → Prop} (hLi : Li dC dI z A (la i) eE n ok H) : ∀ r, (∃ k, k < nc ∧ r = cA k) → pzE r (AL (la i) eE z H.size) s H := by
  rintro r ⟨k, hk, rfl⟩
  refine ⟨"FrontDoor$Call", hKZ.2.1.2.2.2.2, C_recv hKZ.1 hW hk, ?_⟩
  obtain ⟨h1, y, a, b, h2, -⟩ := hW.2.2.2.1 k hk
  rintro (h | ⟨h, h3⟩ | h)
  · exact cls_ne hKZ.1.inj (oat_cls h2) hLi.q.2 (by decide) (by decide) (by decide) h
  · obtain ⟨-, -, m0, ho, hc⟩ := hLi
    rcases hc with ⟨h4, -⟩ | ⟨-, -, cap, f, hq, -⟩
    · exact h3 h4
    · exact cls_ne hKZ.1.inj (oat_cls h2) (qat_cls hq) (by decide) (by decide) (by decide) h
  · have := va_at.lt h2
    have h5 : cA k < H.size := this
    omega
theorem L_rem2 {t : Nat} (S : CallFix p m c cc nL s args tb RX3) (hKZ : KZ dC dI z mi A s) (hW : Cw dC dI z A bs cp h0 la sA cA ns nc dr X P tr nl nq rs H) (hS : va_S A s.heap H locs) (ht : t < nl) (hsz : ls.size = nL) (hw : (rest.map fun v => v.category).sum ≤ 8) (hdg : decode cc pc = .ok (.invokevirtual 223, 3)) (hR : 4 ≤ R.frames ∧ 120 ≤ R.locals) (hf : cells ≤ R.cells ∧ slots ≤ R.slots) (kk : ∀ (H1 : Heap) (locs1 : List Loc) (r : Nat), Cw dC dI z A bs cp h0 la sA cA ns nc dr X P tr (nl - 1) nq rs H1 → va_S A s.heap H1 locs1 → W p l e R s m args below meth c H1 locs1 cells slots Q (F0 m (pc + 3) ls (.ref r :: rest))) : W p l e R s m args below meth c H locs cells slots Q (F0 m pc ls (.int (nI t) :: .ref (la 2) :: rest)) := by
  obtain ⟨hinj, E, hE, hL⟩ := id hW.1
  obtain ⟨hz, hnz⟩ := hKZ.zz hS
  have hLi : Li dC dI z A (la 2) (E 2) nl (fun _ r => ∃ k, k < nc ∧ r = cA k) H := hL 2 (by decide)
  obtain ⟨s1, s2, s3⟩ := hW.2.2.2.2.2.1
  refine L_remM S hKZ hS s3 hLi ht (Cw.elC hKZ hW hLi) s1 hsz hw hdg hR hf (fun H1 locs1 r hN hk9 hz9 hz1 hs1 hS1 => kk H1 locs1 r ?_ hS1)
  obtain ⟨b1, b2, b3, ag, b4, b5, b6⟩ := hW.2.2.2.2.2.2
  exact Cw.list hKZ.1 hW hE hL hz hnz (i := 2) (by decide) hN (Or.inl rfl) hk9 (fun j hj hj4 => nL4_ne2 hj hj4) ⟨hz1, by omega, fun y hy => s3 y (by omega)⟩ ⟨b1, b2, by omega, ag, b4, b5, by omega⟩
theorem L_rem3 {t : Nat} (S : CallFix p m c cc nL s args tb RX3) (hKZ : KZ dC dI z mi A s) (hW : Cw dC dI z A bs cp h0 la sA cA ns nc dr X P tr nl nq rs H) (hS : va_S A s.heap H locs) (ht : t < nq) (hsz : ls.size = nL) (hw : (rest.map fun v => v.category).sum ≤ 8) (hdg : decode cc pc = .ok (.invokevirtual 223, 3)) (hR : 4 ≤ R.frames ∧ 120 ≤ R.locals) (hf : cells ≤ R.cells ∧ slots ≤ R.slots) (kk : ∀ (H1 : Heap) (locs1 : List Loc) (r : Nat), Cw dC dI z A bs cp h0 la sA cA ns nc dr X P tr nl (nq - 1) rs H1 → va_S A s.heap H1 locs1 → W p l e R s m args below meth c H1 locs1 cells slots Q (F0 m (pc + 3) ls (.ref r :: rest))) : W p l e R s m args below meth c H locs cells slots Q (F0 m pc ls (.int (nI t) :: .ref (la 3) :: rest)) := by
  obtain ⟨hinj, E, hE, hL⟩ := id hW.1
  obtain ⟨hz, hnz⟩ := hKZ.zz hS
  have hLi : Li dC dI z A (la 3) (E 3) nq (fun _ r => ∃ k, k < nc ∧ r = cA k) H := hL 3 (by decide)
  obtain ⟨s1, s2, s3⟩ := hW.2.2.2.2.2.1
  refine L_remM S hKZ hS s3 hLi ht (Cw.elC hKZ hW hLi) s1 hsz hw hdg hR hf (fun H1 locs1 r hN hk9 hz9 hz1 hs1 hS1 => kk H1 locs1 r ?_ hS1)
  obtain ⟨b1, b2, b3, ag, b4, b5, b6⟩ := hW.2.2.2.2.2.2
  exact Cw.list hKZ.1 hW hE hL hz hnz (i := 3) (by decide) hN (Or.inl rfl) hk9 (fun j hj hj4 => nL4_ne3 hj hj4) ⟨hz1, by omega, fun y hy => s3 y (by omega)⟩ ⟨b1, b2, by omega, ag, b4, b5, by omega⟩
theorem L_ins3 {t k : Nat} (S : CallFix p m c cc nL s args tb RX3) (hKZ : KZ dC dI z mi A s) (hW : Cw dC dI z A bs cp h0 la sA cA ns nc dr X P tr nl nq rs H) (hS : va_S A s.heap H locs) (hk : k < nc) (ht : t ≤ nq) (hq : ∃ ag, ag ≤ 200 ∧ X 10 = nI ag ∧ nq < nc + ag) (hrs : 1 ≤ rs) (hsz : ls.size = nL) (hw : (rest.map fun v => v.category).sum ≤ 8) (hdg : decode cc pc = .ok (.invokevirtual 220, 3)) (hR : 7 ≤ R.frames ∧ 200 ≤ R.locals) (hf : cells + 1 ≤ R.cells ∧ slots + 610 ≤ R.slots) (kk : ∀ (H1 : Heap) (locs1 : List Loc), Cw dC dI z A bs cp h0 la sA cA ns nc dr X P tr nl (nq + 1) (rs - 1) H1 → va_S A s.heap H1 locs1 → W p l e R s m args below meth c H1 locs1 (cells + 1) (slots + 610) Q (F0 m (pc + 3) ls rest)) : W p l e R s m args below meth c H locs cells slots Q (F0 m pc ls (.ref (cA k) :: .int (nI t) :: .ref (la 3) :: rest)) := by
  obtain ⟨hinj, E, hE, hL⟩ := id hW.1
  obtain ⟨hz, hnz⟩ := hKZ.zz hS
  have hLi : Li dC dI z A (la 3) (E 3) nq (fun _ r => ∃ k, k < nc ∧ r = cA k) H := hL 3 (by decide)
  obtain ⟨s1, s2, s3⟩ := hW.2.2.2.2.2.1
  obtain ⟨b1, b2, b3, -⟩ := hW.2.2.2.2.2.2
  obtain ⟨ag, b4, b5, b6⟩ := hq
  refine L_insM S hKZ hS s3 hLi (by omega) ht (Cw.elC hKZ hW hLi) (Cw.elC hKZ hW hLi _ ⟨k, hk, rfl⟩) ⟨k, hk, rfl⟩ s1 hsz hw hdg hR hf (fun H1 locs1 e1 hN he hk9 hz9 hz1 hs1 hS1 => kk H1 locs1 ?_ hS1)
  exact Cw.list hKZ.1 hW hE hL hz hnz (i := 3) (by decide) hN he hk9 (fun j hj hj4 => nL4_ne3 hj hj4) ⟨hz1, by omega, fun y hy => s3 y (by omega)⟩ ⟨b1, b2, b3, ag, b4, b5, by omega⟩
theorem L_add2 {k : Nat} (S : CallFix p m c cc nL s args tb RX3) (hKZ : KZ dC dI z mi A s) (hW : Cw dC dI z A bs cp h0 la sA cA ns nc dr X P tr nl nq rs H) (hS : va_S A s.heap H locs) (hk : k < nc) (hl2 : nl < nc) (hrs : 1 ≤ rs) (hsz : ls.size = nL) (hw : (rest.map fun v => v.category).sum ≤ 8) (hdg : decode cc pc = .ok (.invokevirtual 52, 3)) (hR : 7 ≤ R.frames ∧ 200 ≤ R.locals) (hf : cells + 1 ≤ R.cells ∧ slots + 610 ≤ R.slots) (kk : ∀ (H1 : Heap) (locs1 : List Loc), Cw dC dI z A bs cp h0 la sA cA ns nc dr X P tr (nl + 1) nq (rs - 1) H1 → va_S A s.heap H1 locs1 → W p l e R s m args below meth c H1 locs1 (cells + 1) (slots + 610) Q (F0 m (pc + 3) ls (.int 1 :: rest))) : W p l e R s m args below meth c H locs cells slots Q (F0 m pc ls (.ref (cA k) :: .ref (la 2) :: rest)) := by
  obtain ⟨hinj, E, hE, hL⟩ := id hW.1
  obtain ⟨hz, hnz⟩ := hKZ.zz hS
  have hLi : Li dC dI z A (la 2) (E 2) nl (fun _ r => ∃ k, k < nc ∧ r = cA k) H := hL 2 (by decide)
  obtain ⟨s1, s2, s3⟩ := hW.2.2.2.2.2.1
  obtain ⟨b1, b2, b3, ag, b4, b5, b6⟩ := hW.2.2.2.2.2.2
  refine L_addM S hKZ hS s3 hLi (by omega) (fun _ r _ h => Cw.elC hKZ hW hLi r h) (Cw.elC hKZ hW hLi _ ⟨k, hk, rfl⟩) s1 hsz hw hdg hR hf (fun H1 locs1 e1 hN he hk9 hz9 hz1 hs1 hS1 => kk H1 locs1 ?_ hS1)
  exact Cw.list hKZ.1 hW hE hL hz hnz (i := 2) (by decide) (hN.mono (ok' := okL sA cA nc 2) (fun t r _ h => h.elim (fun q => q.2) (fun q => ⟨k, hk, q.2⟩))) he hk9 (fun j hj hj4 => nL4_ne2 hj hj4) ⟨hz1, by omega, fun y hy => s3 y (by omega)⟩ ⟨b1, b2, by omega, ag, b4, b5, b6⟩
end B47b
theorem pz_km {k : Nat} (h : k < 2147483647) : (nI k - 1).toInt = ((k : Nat) : Int) - 1 := by
  rw [Int32.toInt_sub, pz_ti (by omega)]
  have e1 : (1 : Int32).toInt = 1 := by decide
  rw [e1]
  exact bm32 (by omega) (by omega)
theorem pz_pm (x : Int32) : x + (-1) = x - 1 := (Int32.sub_eq_add_neg x 1).symm
