/-! the class: its cells -/
def eS (x : Nat → Int32) : List Value := [.int (x 0), .int (x 1), .int (x 2), .int (x 3), .int (x 4), .int (x 5), .int (x 6), .int (x 7), .int (x 8), .int (x 9), .int (x 10), .int (x 11), .int (x 12), .int (x 13), .int (x 14), .int (x 15), .int (x 16)]
def eC (y : Nat → Int32) (p q : Option Nat) : List Value := [.int (y 0), .int (y 1), .int (y 2), .int (y 3), .int (y 4), .int (y 5), .int (y 6), .int (y 7), .int (y 8), .int (y 9), va_rf p, va_rf q]
def eA (r : Nat) (w : Nat → Int32) : List Value := [.ref r, .int (w 1), .int (w 2), .int (w 3)]
def eD (la : Nat → Nat) (I : Nat → Int32) : List Value := [.ref (la 0), .ref (la 1), .ref (la 2), .ref (la 3), .ref (la 4), .int (I 5), .int (I 6), .int (I 7), .int (I 8), .int (I 9), .int (I 10), .int (I 11), .int (I 12)]
def nL4 (ns nc nl nq : Nat) (i : Nat) : Nat := match i with
  | 0 => ns
  | 1 => nc
  | 2 => nl
  | _ => nq
def okL (sA cA : Nat → Nat) (nc : Nat) (i t r : Nat) : Prop := match i with
  | 0 => r = sA t
  | 1 => r = cA t
  | _ => ∃ c, c < nc ∧ r = cA c
/-- a list: its object, its row (or the library's empty one) -/
def Li (dC : Nat → ClassId) (dI : Nat → Nat → Nat) (z : Nat) (A : Nat → Prop) (q e n : Nat) (ok : Nat → Nat → Prop) (H : Heap) : Prop :=
  A q ∧ n ≤ 400 ∧ ∃ m : Int32, oat dC dI q 0 [.int m, .ref e, .int (nI n)] H ∧ ((e = z ∧ n = 0) ∨ (A e ∧ e ≠ z ∧ ∃ (cap : Nat) (f : Nat → Option Nat), qat dC dI e cap f H ∧ n ≤ cap ∧ (0 < cap ∧ cap ≤ 610) ∧ ∀ t, t < n → ∃ r, f t = some r ∧ ok t r))
def Lw (dC : Nat → ClassId) (dI : Nat → Nat → Nat) (z : Nat) (A : Nat → Prop) (la : Nat → Nat) (n : Nat → Nat) (ok : Nat → Nat → Nat → Prop) (H : Heap) : Prop :=
  (∀ i j, i < 4 → j < 4 → la i = la j → i = j) ∧ ∃ E : Nat → Nat, (∀ i j, i < 4 → j < 4 → i ≠ j → E i = E j → E i = z) ∧ ∀ i, i < 4 → Li dC dI z A (la i) (E i) (n i) (ok i) H
def Srv (dC : Nat → ClassId) (dI : Nat → Nat → Nat) (A : Nat → Prop) (sA : Nat → Nat) (ns : Nat) (dr : Nat → Prop) (H : Heap) : Prop := ∀ k, k < ns → A (sA k) ∧ ∃ x : Nat → Int32, oat dC dI (sA k) 3 (eS x) H ∧ x 0 = nI k ∧ (dr k ↔ gDr (x 7))
def Cal (dC : Nat → ClassId) (dI : Nat → Nat → Nat) (A : Nat → Prop) (cA : Nat → Nat) (nc : Nat) (tr : Nat → Int32) (P : Nat → Prop) (H : Heap) : Prop := ∀ c, c < nc → A (cA c) ∧ ∃ (y : Nat → Int32) (p q : Option Nat), oat dC dI (cA c) 2 (eC y p q) H ∧ (y 0 = nI c ∧ y 7 = tr c) ∧ (∀ r, p = some r → P r) ∧ ∀ r, q = some r → P r
def Ask (dC : Nat → ClassId) (dI : Nat → Nat → Nat) (A : Nat → Prop) (sA : Nat → Nat) (ns : Nat) (P : Nat → Prop) (H : Heap) : Prop := ∀ r, P r → A r ∧ ∃ (w : Nat → Int32) (k : Nat), k < ns ∧ oat dC dI r 1 (eA (sA k) w) H
def Dor (dC : Nat → ClassId) (dI : Nat → Nat → Nat) (A : Nat → Prop) (h0 : Nat) (la : Nat → Nat) (X : Nat → Int32) (H : Heap) : Prop := A h0 ∧ A (la 4) ∧ (∃ I : Nat → Int32, oat dC dI h0 4 (eD la I) H ∧ ∀ k, 6 ≤ k → k ≤ 10 → I k = X k) ∧ ∃ f : Nat → Int32, iat dC dI (la 4) 6 7 f H
def Bds (ns nc nl nq : Nat) (X : Nat → Int32) : Prop := ns ≤ 8 ∧ nc ≤ 200 ∧ nl ≤ nc ∧ ∃ ag, ag ≤ 200 ∧ X 10 = nI ag ∧ nq ≤ nc + ag
def Cw (dC : Nat → ClassId) (dI : Nat → Nat → Nat) (z : Nat) (A : Nat → Prop) (bs cp h0 : Nat) (la sA cA : Nat → Nat) (ns nc : Nat) (dr : Nat → Prop) (X : Nat → Int32) (P : Nat → Prop) (tr : Nat → Int32) (nl nq rs : Nat) (H : Heap) : Prop :=
  Lw dC dI z A la (nL4 ns nc nl nq) (okL sA cA nc) H ∧ Dor dC dI A h0 la X H ∧ Srv dC dI A sA ns dr H ∧ Cal dC dI A cA nc tr P H ∧ Ask dC dI A sA ns P H ∧ (Sz bs H ∧ H.size + rs ≤ cp ∧ ∀ y, H.size ≤ y → A y) ∧ Bds ns nc nl nq X
/-! a heap where cells of some classes are as they were -/
def Kp (dC : Nat → ClassId) (S : Nat → Prop) (A : Nat → Prop) (H H1 : Heap) : Prop := ∀ q i, i < 9 → S i → A q → (∃ cell : Cell, H[q]? = some cell ∧ cell.cls = dC i) → H1[q]? = H[q]?
theorem Kp.one {dC : Nat → ClassId} {A : Nat → Prop} {H H1 : Heap} {a j : Nat} (hinj : ∀ i, i < 9 → ∀ j, j < 9 → dC i = dC j → i = j) (hO : One a H H1) (hj : j < 9) (ha : ∃ cell : Cell, H[a]? = some cell ∧ cell.cls = dC j) : Kp dC (fun i => i ≠ j) A H H1 := fun q i hi hS _ hc => hO.2.1 q (cls_ne hinj hc ha hi hj hS)
theorem Kp.all {dC : Nat → ClassId} {A : Nat → Prop} {H H1 : Heap} (h : ∀ q, A q → H1[q]? = H[q]?) : Kp dC (fun _ => True) A H H1 := fun q _ _ _ hA _ => h q hA
section B40
variable {dC : Nat → ClassId} {dI : Nat → Nat → Nat} {z : Nat} {A : Nat → Prop} {bs cp h0 : Nat} {la sA cA : Nat → Nat} {ns nc : Nat} {dr : Nat → Prop} {X : Nat → Int32} {P : Nat → Prop} {tr : Nat → Int32} {nl nq rs : Nat} {H H1 : Heap} {S : Nat → Prop}
theorem Li.kept {q e n : Nat} {ok : Nat → Nat → Prop} (h : Li dC dI z A q e n ok H) (h1 : H1[q]? = H[q]?) (h2 : A e → (∃ cell : Cell, H[e]? = some cell ∧ cell.cls = dC 8) → H1[e]? = H[e]?) : Li dC dI z A q e n ok H1 := by
  obtain ⟨a, b, m, ho, hc⟩ := h
  exact ⟨a, b, m, va_at.kept ho h1, hc.imp id (fun ⟨g1, g2, cap, f, g3, g4⟩ => ⟨g1, g2, cap, f, va_at.kept g3 (h2 g1 (qat_cls g3)), g4⟩)⟩
theorem Li.q {q e n : Nat} {ok : Nat → Nat → Prop} (h : Li dC dI z A q e n ok H) : A q ∧ ∃ cell : Cell, H[q]? = some cell ∧ cell.cls = dC 0 := by
  obtain ⟨a, b, m, ho, hc⟩ := h
  exact ⟨a, oat_cls ho⟩
theorem Lw.kept {n : Nat → Nat} {ok : Nat → Nat → Nat → Prop} (h : Lw dC dI z A la n ok H) (hk : Kp dC S A H H1) (s0 : S 0) (s8 : S 8) : Lw dC dI z A la n ok H1 := by
  obtain ⟨a, E, b, c⟩ := h
  refine ⟨a, E, b, fun i hi => (c i hi).kept (hk _ 0 (by decide) s0 (c i hi).q.1 (c i hi).q.2) (fun hA hc => hk _ 8 (by decide) s8 hA hc)⟩
theorem Dor.kept (h : Dor dC dI A h0 la X H) (hk : Kp dC S A H H1) (s4 : S 4) (s6 : S 6) : Dor dC dI A h0 la X H1 := by
  obtain ⟨a, b, ⟨I, c, d⟩, f, e⟩ := h
  exact ⟨a, b, ⟨I, va_at.kept c (hk _ 4 (by decide) s4 a (oat_cls c)), d⟩, f, va_at.kept e (hk _ 6 (by decide) s6 b (iat_cls e))⟩
theorem Srv.kept (h : Srv dC dI A sA ns dr H) (hk : Kp dC S A H H1) (s3 : S 3) : Srv dC dI A sA ns dr H1 := fun k hl => by
  obtain ⟨a, x, b, c⟩ := h k hl
  exact ⟨a, x, va_at.kept b (hk _ 3 (by decide) s3 a (oat_cls b)), c⟩
theorem Cal.kept (h : Cal dC dI A cA nc tr P H) (hk : Kp dC S A H H1) (s2 : S 2) : Cal dC dI A cA nc tr P H1 := fun k hl => by
  obtain ⟨a, y, p, q, b, c⟩ := h k hl
  exact ⟨a, y, p, q, va_at.kept b (hk _ 2 (by decide) s2 a (oat_cls b)), c⟩
theorem Ask.kept (h : Ask dC dI A sA ns P H) (hk : Kp dC S A H H1) (s1 : S 1) : Ask dC dI A sA ns P H1 := fun k hl => by
  obtain ⟨a, w, j, hj, b⟩ := h k hl
  exact ⟨a, w, j, hj, va_at.kept b (hk _ 1 (by decide) s1 a (oat_cls b))⟩
theorem Sz.one {b a : Nat} (h : Sz b H) (hO : One a H H1) : Sz b H1 := fun x c hx hc => by
  have e := hO.2.2 x
  unfold szq at e
  rw [hc] at e
  cases hh : H[x]? with
  | none => rw [hh] at e; cases e
  | some c0 =>
    rw [hh] at e
    have e2 : c.slots.size = c0.slots.size := Option.some.inj e
    rw [e2]
    exact h x c0 hx hh
theorem Srv.inj (h : Srv dC dI A sA ns dr H) (hns : ns ≤ 8) {i j : Nat} (hi : i < ns) (hj : j < ns) (e : sA i = sA j) : i = j := by
  obtain ⟨-, x, hx, hx0, -⟩ := h i hi
  obtain ⟨-, y, hy, hy0, -⟩ := h j hj
  rw [e] at hx
  obtain ⟨r1, g1, c1, g2, -, -, g3⟩ := hx
  obtain ⟨r2, k1, c2, k2, -, -, k3⟩ := hy
  have e1 : c1 = c2 := Option.some.inj (g2.symm.trans k2)
  have e2 : r1 = r2 := Option.some.inj (g1.symm.trans k1)
  subst e1; subst e2
  have er : r1 = (RX2, TX2, 17) := (Option.some.inj g1).symm
  subst er
  have h1 := (g3 0 (by decide)).symm.trans (k3 0 (by decide))
  have h2 : Value.int (x 0) = Value.int (y 0) := Option.some.inj h1
  have h3 : x 0 = y 0 := Value.int.inj h2
  rw [hx0, hy0] at h3
  exact (nI_eq (by omega) (by omega)).mp h3
theorem Cal.inj (h : Cal dC dI A cA nc tr P H) (hnc : nc ≤ 200) {i j : Nat} (hi : i < nc) (hj : j < nc) (e : cA i = cA j) : i = j := by
  obtain ⟨-, x, p1, q1, hx, ⟨hx0, -⟩, -⟩ := h i hi
  obtain ⟨-, y, p2, q2, hy, ⟨hy0, -⟩, -⟩ := h j hj
  rw [e] at hx
  obtain ⟨r1, g1, c1, g2, -, -, g3⟩ := hx
  obtain ⟨r2, k1, c2, k2, -, -, k3⟩ := hy
  have e1 : c1 = c2 := Option.some.inj (g2.symm.trans k2)
  have e2 : r1 = r2 := Option.some.inj (g1.symm.trans k1)
  subst e1; subst e2
  have er : r1 = (RX1, TX1, 12) := (Option.some.inj g1).symm
  subst er
  have h1 := (g3 0 (by decide)).symm.trans (k3 0 (by decide))
  have h2 : Value.int (x 0) = Value.int (y 0) := Option.some.inj h1
  have h3 : x 0 = y 0 := Value.int.inj h2
  rw [hx0, hy0] at h3
  exact (nI_eq (by omega) (by omega)).mp h3
/-- a SERVER has changed -/
theorem Cw.srv {s : State} (hK : Kt dC dI s) (h : Cw dC dI z A bs cp h0 la sA cA ns nc dr X P tr nl nq rs H) {k : Nat} (hk : k < ns) (hO : One (sA k) H H1) {x : Nat → Int32} (ho : oat dC dI (sA k) 3 (eS x) H1) (hx : x 0 = nI k) {dr1 : Nat → Prop} (hd : dr1 k ↔ gDr (x 7)) (hd2 : ∀ j, j ≠ k → (dr1 j ↔ dr j)) : Cw dC dI z A bs cp h0 la sA cA ns nc dr1 X P tr nl nq rs H1 := by
  obtain ⟨a, b, c, d, e, ⟨f, g⟩, i⟩ := h
  obtain ⟨c1, x0, c2, c3⟩ := c k hk
  have kp := Kp.one (A := A) hK.inj hO (by decide) (oat_cls c2)
  refine ⟨a.kept kp (by decide) (by decide), b.kept kp (by decide) (by decide), fun j hj => ?_, d.kept kp (by decide), e.kept kp (by decide), ⟨f.one hO, by rw [hO.1]; exact g⟩, i⟩
  by_cases q : j = k
  · subst q; exact ⟨c1, x, ho, hx, hd⟩
  · obtain ⟨g1, y, g2, g3, g4⟩ := c j hj
    exact ⟨g1, y, hO.oat g2 (fun z9 => q (Srv.inj c i.1 hj hk z9)), g3, (hd2 j q).trans g4⟩
/-- a CALL has changed -/
theorem Cw.cal {s : State} (hK : Kt dC dI s) (h : Cw dC dI z A bs cp h0 la sA cA ns nc dr X P tr nl nq rs H) {k : Nat} (hk : k < nc) (hO : One (cA k) H H1) {y : Nat → Int32} {p q : Option Nat} (ho : oat dC dI (cA k) 2 (eC y p q) H1) (hy : y 0 = nI k) {tr1 : Nat → Int32} (ht : y 7 = tr1 k) (ht2 : ∀ j, j ≠ k → tr1 j = tr j) (hp : ∀ r, p = some r → P r) (hq : ∀ r, q = some r → P r) : Cw dC dI z A bs cp h0 la sA cA ns nc dr X P tr1 nl nq rs H1 := by
  obtain ⟨a, b, c, d, e, ⟨f, g⟩, i⟩ := h
  obtain ⟨c1, y0, p0, q0, c2, c3⟩ := d k hk
  have kp := Kp.one (A := A) hK.inj hO (by decide) (oat_cls c2)
  refine ⟨a.kept kp (by decide) (by decide), b.kept kp (by decide) (by decide), c.kept kp (by decide), fun j hj => ?_, e.kept kp (by decide), ⟨f.one hO, by rw [hO.1]; exact g⟩, i⟩
  by_cases q9 : j = k
  · subst q9; exact ⟨c1, y, p, q, ho, ⟨hy, ht⟩, hp, hq⟩
  · obtain ⟨g1, y1, p1, q1, g2, ⟨g3, g4⟩, g5⟩ := d j hj
    exact ⟨g1, y1, p1, q1, hO.oat g2 (fun z9 => q9 (Cal.inj d i.2.1 hj hk z9)), ⟨g3, g4.trans (ht2 j q9).symm⟩, g5⟩
/-- the door's own numbers have changed -/
theorem Cw.dor {s : State} (hK : Kt dC dI s) (h : Cw dC dI z A bs cp h0 la sA cA ns nc dr X P tr nl nq rs H) (hO : One h0 H H1) {I : Nat → Int32} (ho : oat dC dI h0 4 (eD la I) H1) {X1 : Nat → Int32} (hX : ∀ k, 6 ≤ k → k ≤ 10 → I k = X1 k) (hb : Bds ns nc nl nq X1) : Cw dC dI z A bs cp h0 la sA cA ns nc dr X1 P tr nl nq rs H1 := by
  obtain ⟨a, ⟨b1, b2, ⟨I0, b3, b4⟩, f0, b5⟩, c, d, e, ⟨f, g⟩, i⟩ := h
  have kp := Kp.one (A := A) hK.inj hO (by decide) (oat_cls b3)
  exact ⟨a.kept kp (by decide) (by decide), ⟨b1, b2, ⟨I, ho, hX⟩, f0, va_at.kept b5 (kp _ 6 (by decide) (by decide) b2 (iat_cls b5))⟩, c.kept kp (by decide), d.kept kp (by decide), e.kept kp (by decide), ⟨f.one hO, by rw [hO.1]; exact g⟩, hb⟩
/-- a count of REFUSALS has changed -/
theorem Cw.ref {s : State} (hK : Kt dC dI s) (h : Cw dC dI z A bs cp h0 la sA cA ns nc dr X P tr nl nq rs H) (hO : One (la 4) H H1) {f1 : Nat → Int32} (ho : iat dC dI (la 4) 6 7 f1 H1) : Cw dC dI z A bs cp h0 la sA cA ns nc dr X P tr nl nq rs H1 := by
  obtain ⟨a, ⟨b1, b2, ⟨I0, b3, b4⟩, f0, b5⟩, c, d, e, ⟨f, g⟩, i⟩ := h
  have kp := Kp.one (A := A) hK.inj hO (by decide) (iat_cls b5)
  exact ⟨a.kept kp (by decide) (by decide), ⟨b1, b2, ⟨I0, va_at.kept b3 (kp _ 4 (by decide) (by decide) b1 (oat_cls b3)), b4⟩, f1, ho⟩, c.kept kp (by decide), d.kept kp (by decide), e.kept kp (by decide), ⟨f.one hO, by rw [hO.1]; exact g⟩, i⟩
/-- what is outside has changed alone -/
theorem Cw.kept (h : Cw dC dI z A bs cp h0 la sA cA ns nc dr X P tr nl nq rs H) (hk : ∀ q, A q → H1[q]? = H[q]?) (hs : Sz bs H1 ∧ H1.size + rs ≤ cp ∧ ∀ y, H1.size ≤ y → A y) : Cw dC dI z A bs cp h0 la sA cA ns nc dr X P tr nl nq rs H1 := by
  obtain ⟨a, b, c, d, e, -, i⟩ := h
  have kp := Kp.all (dC := dC) hk
  exact ⟨a.kept kp trivial trivial, b.kept kp trivial trivial, c.kept kp trivial, d.kept kp trivial, e.kept kp trivial, hs, i⟩
end B40
