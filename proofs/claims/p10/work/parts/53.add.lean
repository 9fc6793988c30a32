theorem smc_new {t1 t : Nat → Int32} {n : Nat} (h : ∀ i, i ≠ n → t1 i = t i) : smc t1 (n + 1) ≤ smc t n + 8 := by
  show smc t1 n + clr (t1 n) 8 ≤ smc t n + 8
  have h1 := clr_8 (t1 n) 8
  have h2 := smc_eq (t1 := t1) (t2 := t) n (fun k hk => h k (by omega))
  omega
section B53
variable {p : Program} {l : Launch} {e : Env} {R : Room} {s : State} {m : MethodId} {args : Array Value} {below : List Frame} {meth : Method} {c : Code} {H : Heap} {locs : List Loc} {cells slots : Nat} {Q : State → Prop}
variable {cc : ByteArray} {pc nL : Nat} {ls : Array Slot} {rest : List Value} {H0 H1 : Heap}
variable {dC : Nat → ClassId} {dI : Nat → Nat → Nat} {z mi : Nat} {A : Nat → Prop} {bs cp h0 : Nat} {la sA cA : Nat → Nat} {ns nc : Nat} {dr : Nat → Prop} {X : Nat → Int32} {P : Nat → Prop} {tr : Nat → Int32} {nl nq rs : Nat}
theorem L_sizeX (S : CallFix p m c cc nL s args tb RX3) (hKZ : KZ dC dI z mi A s) (hW : Cw dC dI z A bs cp h0 la sA cA ns nc dr X P tr nl nq rs H) (hS : va_S A H0 H locs) {i : Nat} (hi : i < 4) (hsz : ls.size = nL) (hw : (rest.map fun v => v.category).sum ≤ 8) (hdg : decode cc pc = .ok (.invokevirtual 43, 3)) (hR : 1 ≤ R.frames ∧ 20 ≤ R.locals) (hf : cells ≤ R.cells ∧ slots ≤ R.slots) (kk : ∀ (locs1 : List Loc), va_S A H0 H locs1 → W p l e R s m args below meth c H locs1 cells slots Q (F0 m (pc + 3) ls (.int (nI (nL4 ns nc nl nq i)) :: rest))) : W p l e R s m args below meth c H locs cells slots Q (F0 m (pc) ls (.ref (la i) :: rest)) :=
  c_v (KK := Kt dC dI) (Pw := fun H9 => H9 = H) (n := 0) (As := []) (rest := rest) S (q_size l dC dI A (fun H9 => H9 = H) (la i) (nL4 ns nc nl nq i) (fun H9 h9 => by
    obtain ⟨E, -, h2⟩ := hW.1.2
    obtain ⟨-, -, m9, g, -⟩ := h2 i hi
    exact ⟨m9, _, by rw [show H9 = H from h9]; exact g⟩)) iw_157 iw_154 iw_155 iw_156 iw_60 (by decide +kernel) rfl ⟨rfl, rfl, hR.1, hR.2⟩ Kt.blind (L_recv hKZ.1 hW hi) hKZ.1.at rfl hsz rfl hw hdg hf hS (fun _ h => h) (fun v9 H1 locs1 hB _ _ hS1 => by
    obtain ⟨rfl, h9⟩ := hB
    have h8 : H1 = H := h9
    subst h8
    exact kk locs1 hS1)
/-- an object of the class's own may stand in a row -/
theorem el_ob {ci q eE n r : Nat} {C : String} {fs : List Value} {ok : Nat → Nat → Prop} (hK : Kt dC dI s) (hn : va_Nw (.castable C "java/lang/Object") s) (hc : ci < 9) (h0 : ci ≠ 0) (h8 : ci ≠ 8) (hname : s.vm.findClass C = some (dC ci)) (ho : oat dC dI r ci fs H) (hLi : Li dC dI z A q eE n ok H) : pzE r (AL q eE z H.size) s H := by
  obtain ⟨r9, g1, cell, g2, g3, g4, g5⟩ := id ho
  refine ⟨C, hn, ⟨cell, g2, by rw [g4]; rfl, by rw [g3]; exact hname⟩, ?_⟩
  rintro (h | ⟨h, h3⟩ | h)
  · exact cls_ne hK.inj (oat_cls ho) hLi.q.2 hc (by decide) h0 h
  · obtain ⟨-, -, m0, ho9, hc9⟩ := hLi
    rcases hc9 with ⟨h4, -⟩ | ⟨-, -, cap, f, hq, -⟩
    · exact h3 h4
    · exact cls_ne hK.inj (oat_cls ho) (qat_cls hq) hc (by decide) h8 h
  · have h5 : r < H.size := va_at.lt ho
    omega
/-- one CALL more -/
theorem Cw.addC (hK : Kt dC dI s) (h : Cw dC dI z A bs cp h0 la sA cA ns nc dr X P tr nl nq rs H) {E : Nat → Nat} (hE : ∀ i j, i < 4 → j < 4 → i ≠ j → E i = E j → E i = z) (hL : ∀ i, i < 4 → Li dC dI z A (la i) (E i) (nL4 ns nc nl nq i) (okL sA cA nc i) H) (hz : z < H.size) (hnz : ¬ A z) {rs1 e1 q : Nat} {y : Nat → Int32} (hnc : nc < 200) (hq : A q) (ho : oat dC dI q 2 (eC y none none) H) (hy : y 0 = nI nc) (hnew : Li dC dI z A (la 1) e1 (nc + 1) (fun t r => (t < nc ∧ r = cA t) ∨ (t = nc ∧ r = q)) H1) (he : e1 = E 1 ∨ H.size ≤ e1) (hk : ∀ y : Nat, y < H.size → ¬ AL (la 1) (E 1) z H.size y → H1[y]? = H[y]?) (hs : Sz bs H1 ∧ H1.size + rs1 ≤ cp ∧ ∀ y, H1.size ≤ y → A y) : Cw dC dI z A bs cp h0 la sA (va_up cA nc q) ns (nc + 1) dr X P (va_up tr nc (y 7)) nl nq rs1 H1 := by
  obtain ⟨a, b, c, d, e, -, b1, b2, b3, ag, b4, b5, b6⟩ := h
  have kp := Kp.al hK.inj (hL 1 (by decide)) hk
  refine ⟨Lw.upd (n' := nL4 ns (nc + 1) nl nq) (ok' := okL sA (va_up cA nc q) (nc + 1)) hK.inj a.1 hE hL hz hnz (i := 1) (by decide) (hnew.mono (fun t r _ h => ?_)) he hk (fun j hj h4 => ?_) (fun j hj h4 t r h => ?_), b.kept kp (by decide) (by decide), c.kept kp (by decide), fun k hk9 => ?_, e.kept kp (by decide), hs, ⟨b1, by omega, by omega, ag, b4, b5, by omega⟩⟩
  · show r = va_up cA nc q t
    rcases h with ⟨h1, h2⟩ | ⟨h1, h2⟩
    · rw [vu_n (show t ≠ nc by omega)]; exact h2
    · rw [h1, vu_s]; exact h2
  · rcases (show j = 0 ∨ j = 2 ∨ j = 3 by omega) with rfl | rfl | rfl <;> rfl
  · rcases (show j = 0 ∨ j = 2 ∨ j = 3 by omega) with rfl | rfl | rfl
    · exact h
    · obtain ⟨c9, h1, h2⟩ := h
      exact ⟨c9, by omega, by rw [vu_n (show c9 ≠ nc by omega)]; exact h2⟩
    · obtain ⟨c9, h1, h2⟩ := h
      exact ⟨c9, by omega, by rw [vu_n (show c9 ≠ nc by omega)]; exact h2⟩
  · rcases Nat.lt_succ_iff_lt_or_eq.mp hk9 with g | g
    · have e1 : va_up cA nc q k = cA k := vu_n (by omega)
      have e2 : va_up tr nc (y 7) k = tr k := vu_n (by omega)
      rw [e1, e2]
      exact (d.kept kp (by decide)) k g
    · have e1 : va_up cA nc q k = q := by rw [g, vu_s]
      have e2 : va_up tr nc (y 7) k = y 7 := by rw [g, vu_s]
      rw [e1, e2]
      exact ⟨hq, y, none, none, va_at.kept ho (kp q 2 (by decide) (by decide) hq (oat_cls ho)), ⟨by rw [g]; exact hy, rfl⟩, fun r h => (by cases h), fun r h => (by cases h)⟩
/-- one SERVER more -/
theorem Cw.addS (hK : Kt dC dI s) (h : Cw dC dI z A bs cp h0 la sA cA ns nc dr X P tr nl nq rs H) {E : Nat → Nat} (hE : ∀ i j, i < 4 → j < 4 → i ≠ j → E i = E j → E i = z) (hL : ∀ i, i < 4 → Li dC dI z A (la i) (E i) (nL4 ns nc nl nq i) (okL sA cA nc i) H) (hz : z < H.size) (hnz : ¬ A z) {rs1 e1 q : Nat} {x : Nat → Int32} (hns : ns < 8) (hq : A q) (ho : oat dC dI q 3 (eS x) H) (hx : x 0 = nI ns) (hd : dr ns ↔ gDr (x 7)) (hnew : Li dC dI z A (la 0) e1 (ns + 1) (fun t r => (t < ns ∧ r = sA t) ∨ (t = ns ∧ r = q)) H1) (he : e1 = E 0 ∨ H.size ≤ e1) (hk : ∀ y : Nat, y < H.size → ¬ AL (la 0) (E 0) z H.size y → H1[y]? = H[y]?) (hs : Sz bs H1 ∧ H1.size + rs1 ≤ cp ∧ ∀ y, H1.size ≤ y → A y) : Cw dC dI z A bs cp h0 la (va_up sA ns q) cA (ns + 1) nc dr X P tr nl nq rs1 H1 := by
  obtain ⟨a, b, c, d, e, -, b1, b2, b3, b4⟩ := h
  have kp := Kp.al hK.inj (hL 0 (by decide)) hk
  refine ⟨Lw.upd (n' := nL4 (ns + 1) nc nl nq) (ok' := okL (va_up sA ns q) cA nc) hK.inj a.1 hE hL hz hnz (i := 0) (by decide) (hnew.mono (fun t r _ h => ?_)) he hk (fun j hj h4 => ?_) (fun j hj h4 t r h => ?_), b.kept kp (by decide) (by decide), fun k hk9 => ?_, d.kept kp (by decide), fun r hr => ?_, hs, ⟨by omega, b2, b3, b4⟩⟩
  · show r = va_up sA ns q t
    rcases h with ⟨h1, h2⟩ | ⟨h1, h2⟩
    · rw [vu_n (show t ≠ ns by omega)]; exact h2
    · rw [h1, vu_s]; exact h2
  · rcases (show j = 1 ∨ j = 2 ∨ j = 3 by omega) with rfl | rfl | rfl <;> rfl
  · rcases (show j = 1 ∨ j = 2 ∨ j = 3 by omega) with rfl | rfl | rfl <;> exact h
  · rcases Nat.lt_succ_iff_lt_or_eq.mp hk9 with g | g
    · have e1 : va_up sA ns q k = sA k := vu_n (by omega)
      rw [e1]
      exact (c.kept kp (by decide)) k g
    · have e1 : va_up sA ns q k = q := by rw [g, vu_s]
      rw [e1]
      exact ⟨hq, x, va_at.kept ho (kp q 3 (by decide) (by decide) hq (oat_cls ho)), by rw [g]; exact hx, by rw [g]; exact hd⟩
  · obtain ⟨g1, w, k, g2, g3⟩ := (e.kept kp (by decide)) r hr
    have e1 : va_up sA ns q k = sA k := vu_n (by omega)
    exact ⟨g1, w, k, by omega, by rw [e1]; exact g3⟩
theorem L_add1 {q : Nat} {y : Nat → Int32} (S : CallFix p m c cc nL s args tb RX3) (hKZ : KZ dC dI z mi A s) (hW : Cw dC dI z A bs cp h0 la sA cA ns nc dr X P tr nl nq rs H) (hS : va_S A s.heap H locs) (hlt : nc < 200) (hq : A q) (ho : oat dC dI q 2 (eC y none none) H) (hy : y 0 = nI nc) (hrs : 1 ≤ rs) (hsz : ls.size = nL) (hw : (rest.map fun v => v.category).sum ≤ 8) (hdg : decode cc pc = .ok (.invokevirtual 52, 3)) (hR : 7 ≤ R.frames ∧ 200 ≤ R.locals) (hf : cells + 1 ≤ R.cells ∧ slots + 610 ≤ R.slots) (kk : ∀ (H1 : Heap) (locs1 : List Loc), Cw dC dI z A bs cp h0 la sA (va_up cA nc q) ns (nc + 1) dr X P (va_up tr nc (y 7)) nl nq (rs - 1) H1 → va_S A s.heap H1 locs1 → W p l e R s m args below meth c H1 locs1 (cells + 1) (slots + 610) Q (F0 m (pc + 3) ls (.int 1 :: rest))) : W p l e R s m args below meth c H locs cells slots Q (F0 m pc ls (.ref q :: .ref (la 1) :: rest)) := by
  obtain ⟨hinj, E, hE, hL⟩ := id hW.1
  obtain ⟨hz, hnz⟩ := hKZ.zz hS
  have hLi : Li dC dI z A (la 1) (E 1) nc (fun t r => r = cA t) H := hL 1 (by decide)
  obtain ⟨s1, s2, s3⟩ := hW.2.2.2.2.2.1
  obtain ⟨b1, b2, b3, ag, b4, b5, b6⟩ := hW.2.2.2.2.2.2
  refine L_addM S hKZ hS s3 hLi (by omega) (fun t r ht h => ?_) (el_ob hKZ.1 hKZ.2.1.2.2.2.2 (by decide) (by decide) (by decide) (hKZ.1.name 2 (by decide)) ho hLi) s1 hsz hw hdg hR hf (fun H1 locs1 e1 hN he hk9 hz9 hz1 hs1 hS1 => kk H1 locs1 ?_ hS1)
  · obtain ⟨-, y9, a9, b9, h2, -⟩ := hW.2.2.2.1 t ht
    rw [show r = cA t from h]
    exact el_ob hKZ.1 hKZ.2.1.2.2.2.2 (by decide) (by decide) (by decide) (hKZ.1.name 2 (by decide)) h2 hLi
  · exact Cw.addC hKZ.1 hW hE hL hz hnz hlt hq ho hy hN he hk9 ⟨hz1, by omega, fun y hy => s3 y (by omega)⟩
theorem L_add0 {q : Nat} {y : Nat → Int32} (S : CallFix p m c cc nL s args tb RX3) (hKZ : KZ dC dI z mi A s) (hW : Cw dC dI z A bs cp h0 la sA cA ns nc dr X P tr nl nq rs H) (hS : va_S A s.heap H locs) (hlt : ns < 8) (hq : A q) (ho : oat dC dI q 3 (eS y) H) (hy : y 0 = nI ns) (hd : dr ns ↔ gDr (y 7)) (hrs : 1 ≤ rs) (hsz : ls.size = nL) (hw : (rest.map fun v => v.category).sum ≤ 8) (hdg : decode cc pc = .ok (.invokevirtual 52, 3)) (hR : 7 ≤ R.frames ∧ 200 ≤ R.locals) (hf : cells + 1 ≤ R.cells ∧ slots + 610 ≤ R.slots) (kk : ∀ (H1 : Heap) (locs1 : List Loc), Cw dC dI z A bs cp h0 la (va_up sA ns q) cA (ns + 1) nc dr X P tr nl nq (rs - 1) H1 → va_S A s.heap H1 locs1 → W p l e R s m args below meth c H1 locs1 (cells + 1) (slots + 610) Q (F0 m (pc + 3) ls (.int 1 :: rest))) : W p l e R s m args below meth c H locs cells slots Q (F0 m pc ls (.ref q :: .ref (la 0) :: rest)) := by
  obtain ⟨hinj, E, hE, hL⟩ := id hW.1
  obtain ⟨hz, hnz⟩ := hKZ.zz hS
  have hLi : Li dC dI z A (la 0) (E 0) ns (fun t r => r = sA t) H := hL 0 (by decide)
  obtain ⟨s1, s2, s3⟩ := hW.2.2.2.2.2.1
  obtain ⟨b1, b2, b3, ag, b4, b5, b6⟩ := hW.2.2.2.2.2.2
  refine L_addM S hKZ hS s3 hLi (by omega) (fun t r ht h => ?_) (el_ob hKZ.1 hKZ.2.1.2.2.2.1 (by decide) (by decide) (by decide) (hKZ.1.name 3 (by decide)) ho hLi) s1 hsz hw hdg hR hf (fun H1 locs1 e1 hN he hk9 hz9 hz1 hs1 hS1 => kk H1 locs1 ?_ hS1)
  · obtain ⟨-, y9, h2, -⟩ := hW.2.2.1 t ht
    rw [show r = sA t from h]
    exact el_ob hKZ.1 hKZ.2.1.2.2.2.1 (by decide) (by decide) (by decide) (hKZ.1.name 3 (by decide)) h2 hLi
  · exact Cw.addS hKZ.1 hW hE hL hz hnz hlt hq ho hy hd hN he hk9 ⟨hz1, by omega, fun y hy => s3 y (by omega)⟩
end B53
