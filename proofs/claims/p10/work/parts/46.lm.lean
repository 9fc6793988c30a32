def AL (q e z sz : Nat) (y : Nat) : Prop := y = q ∨ (y = e ∧ e ≠ z) ∨ sz ≤ y
theorem KZ.kl {dC : Nat → ClassId} {dI : Nat → Nat → Nat} {z mi n x : Nat} {A A1 : Nat → Prop} {f : Nat → Option Nat} {s : State} {H : Heap} {locs : List Loc} (hKZ : KZ dC dI z mi A s) (hS : va_S A s.heap H locs) (hF : ∀ q, A1 q → A q) (hel : ∀ t, t < n → ∀ r, f t = some r → pzE r A1 s H) (hx : pzE x A1 s H) : ∀ U : State, U.heap = H → s.WarmedH U.vm → KL dC dI z mi A1 n f x U := fun U hU hW =>
  ⟨va_K.moved hW.alike hKZ.1, pz_Zat hKZ.2.1 hS hF hU hW, ⟨hKZ.2.2.1.moved hW.alike, hKZ.2.2.2.moved hW.alike⟩, fun t ht r hr => pz_Eat (hel t ht r hr) (fun _ h => h) hU hW, pz_Eat hx (fun _ h => h) hU hW⟩
section B46
variable {p : Program} {l : Launch} {e : Env} {R : Room} {s : State} {m : MethodId} {args : Array Value} {below : List Frame} {meth : Method} {c : Code} {H : Heap} {locs : List Loc} {cells slots : Nat} {Q : State → Prop}
variable {cc : ByteArray} {pc nL : Nat} {ls : Array Slot} {rest : List Value}
variable {dC : Nat → ClassId} {dI : Nat → Nat → Nat} {z mi : Nat} {A : Nat → Prop} {bs cp h0 : Nat} {la sA cA : Nat → Nat} {ns nc : Nat} {dr : Nat → Prop} {X : Nat → Int32} {P : Nat → Prop} {tr : Nat → Int32} {nl nq rs : Nat}
theorem L_addM {q eE n x : Nat} {ok : Nat → Nat → Prop} (S : CallFix p m c cc nL s args tb RX3) (hKZ : KZ dC dI z mi A s) (hS : va_S A s.heap H locs) (hA : ∀ y, H.size ≤ y → A y) (hLi : Li dC dI z A q eE n ok H) (hn : n < 400) (hel : ∀ t r, t < n → ok t r → pzE r (AL q eE z H.size) s H) (hx : pzE x (AL q eE z H.size) s H) (hSz : Sz bs H) (hsz : ls.size = nL) (hw : (rest.map fun v => v.category).sum ≤ 8) (hdg : decode cc pc = .ok (.invokevirtual 52, 3)) (hR : 7 ≤ R.frames ∧ 200 ≤ R.locals) (hf : cells + 1 ≤ R.cells ∧ slots + 610 ≤ R.slots) (kk : ∀ (H1 : Heap) (locs1 : List Loc) (e1 : Nat), Li dC dI z A q e1 (n + 1) (fun t r => (t < n ∧ ok t r) ∨ (t = n ∧ r = x)) H1 → (e1 = eE ∨ H.size ≤ e1) → (∀ y : Nat, y < H.size → ¬ AL q eE z H.size y → H1[y]? = H[y]?) → H.size ≤ H1.size → Sz bs H1 → H1.size ≤ H.size + 1 → va_S A s.heap H1 locs1 → W p l e R s m args below meth c H1 locs1 (cells + 1) (slots + 610) Q (F0 m (pc + 3) ls (.int 1 :: rest))) : W p l e R s m args below meth c H locs cells slots Q (F0 m pc ls (.ref x :: .ref q :: rest)) := by
  obtain ⟨hAq, hn4, m0, ho, hc⟩ := id hLi
  obtain ⟨cz, hcz, -, -, -, -, -, hnz⟩ := id hKZ.2.1.2.1
  have hrecv : ∃ cell : Cell, H[q]? = some cell ∧ cell.vm.isStatics = false ∧ s.vm.findClass RJx4a65c = some cell.cls := by
    obtain ⟨r9, g1, cell, g2, g3, g4, g5⟩ := ho
    exact ⟨cell, g2, by rw [g4]; rfl, by rw [g3]; exact hKZ.1.name 0 (by decide)⟩
  have hF : ∀ y, AL q eE z H.size y → A y := by
    rintro y (h | ⟨h, h2⟩ | h)
    · rw [h]; exact hAq
    · rcases hc with ⟨h3, -⟩ | ⟨h3, -⟩
      · exact absurd h3 h2
      · rw [h]; exact h3
    · exact hA y h
  rcases hc with ⟨he, hn0⟩ | ⟨hAe, hez, cap, f, hq, hcap, hc6, hf9⟩
  · subst hn0
    have ho : oat dC dI q 0 [.int m0, .ref z, .int (nI 0)] H := he ▸ ho
    refine c_v (KK := KL dC dI z mi (AL q eE z H.size) 0 (fun _ => none) x) (Pw := fun H9 => H9.size = H.size ∧ va_P (dC, dI) vwCl [(q, .inr (0, [.int m0, .ref z, .int (nI 0)]))] H9 ∧ va_D (AL q eE z H.size) [(q, .inr (0, [.int m0, .ref z, .int (nI 0)]))] ∧ Sz bs H9) (n := 1) (As := [.ref x]) (rest := rest) S (q_add_z l dC dI z mi (AL q eE z H.size) 0 (fun _ => none) x q z H.size m0 bs (fun y h => Or.inr (Or.inr h))) iw_232 iw_229 iw_230 iw_231 iw_60 (by decide +kernel) rfl ⟨rfl, rfl, Nat.le_trans (by decide) hR.1, Nat.le_trans (by decide) hR.2⟩ KL.blind hrecv (hKZ.kl hS hF (fun t ht => absurd ht (Nat.not_lt_zero t)) hx) ⟨rfl, va_P1 ho, va_D1 (Or.inl rfl), hSz⟩ hsz rfl hw hdg hf hS hF (fun v9 H1 locs1 hB hz9 hk9 hS1 => ?_)
    obtain ⟨r, cp1, g, m1, rfl, hc1, hc2, hg, hgx, hP1, hD1, hSz1, hsz1⟩ := hB
    have hr := hD1.2 1 _ rfl
    have hrq : r ≠ q := fun h9 => absurd (hD1.1 1 0 _ _ rfl rfl h9) (by decide)
    refine kk H1 locs1 r ⟨hAq, by omega, m1, hP1 0 _ rfl, Or.inr ⟨hF r hr, fun h9 => hnz (h9 ▸ hF r hr), cp1, g, hP1 1 _ rfl, by omega, ⟨by omega, hc2⟩, fun t ht => ?_⟩⟩ (hr.elim (fun h9 => absurd h9 hrq) (fun h9 => h9.imp (fun h8 => h8.1) id)) hk9 hz9 hSz1 hsz1 hS1
    rcases Nat.lt_succ_iff_lt_or_eq.mp ht with h9 | h9
    · exact absurd h9 (Nat.not_lt_zero t)
    · exact ⟨x, by rw [h9]; exact hgx, Or.inr ⟨h9, rfl⟩⟩
  · rcases Nat.lt_or_ge n cap with hlt | hge
    · refine c_v (KK := KL dC dI z mi (AL q eE z H.size) n f x) (Pw := fun H9 => H9.size = H.size ∧ va_P (dC, dI) vwCl [(q, .inr (0, [.int m0, .ref eE, .int (nI n)])), (eE, .inl (dC 8, cap, .inr (.inr (.inr (.inr f)))))] H9 ∧ va_D (AL q eE z H.size) [(q, .inr (0, [.int m0, .ref eE, .int (nI n)])), (eE, .inl (dC 8, cap, .inr (.inr (.inr (.inr f)))))] ∧ Sz bs H9) (n := 1) (As := [.ref x]) (rest := rest) S (q_add_n l dC dI z mi (AL q eE z H.size) n f x q eE H.size m0 cap bs (fun y h => Or.inr (Or.inr h)) (by omega) hc6.2) iw_232 iw_229 iw_230 iw_231 iw_60 (by decide +kernel) rfl ⟨rfl, rfl, Nat.le_trans (by decide) hR.1, Nat.le_trans (by decide) hR.2⟩ KL.blind hrecv (hKZ.kl hS hF (fun t ht r hr => by obtain ⟨r9, h8, h7⟩ := hf9 t ht; cases h8.symm.trans hr; exact hel t _ ht h7) hx) ⟨rfl, va_P2 ho hq, va_D2 (Or.inl rfl) (Or.inr (Or.inl ⟨rfl, hez⟩)) (cls_ne hKZ.1.inj (oat_cls ho) (qat_cls hq) (by decide) (by decide) (by decide)), hSz⟩ hsz rfl hw hdg hf hS hF (fun v9 H1 locs1 hB hz9 hk9 hS1 => ?_)
      obtain ⟨r, cp1, g, m1, rfl, hc1, hc2, hg, hgx, hP1, hD1, hSz1, hsz1⟩ := hB
      have hr := hD1.2 1 _ rfl
      have hrq : r ≠ q := fun h9 => absurd (hD1.1 1 0 _ _ rfl rfl h9) (by decide)
      refine kk H1 locs1 r ⟨hAq, by omega, m1, hP1 0 _ rfl, Or.inr ⟨hF r hr, fun h9 => hnz (h9 ▸ hF r hr), cp1, g, hP1 1 _ rfl, by omega, ⟨by omega, hc2⟩, fun t ht => ?_⟩⟩ (hr.elim (fun h9 => absurd h9 hrq) (fun h9 => h9.imp (fun h8 => h8.1) id)) hk9 hz9 hSz1 hsz1 hS1
      rcases Nat.lt_succ_iff_lt_or_eq.mp ht with h9 | h9
      · obtain ⟨r9, h8, h7⟩ := hf9 t h9
        exact ⟨r9, (hg t h9).trans h8, Or.inl ⟨h9, h7⟩⟩
      · exact ⟨x, by rw [h9]; exact hgx, Or.inr ⟨h9, rfl⟩⟩
    · have hce : cap = n := by omega
      have hq : qat dC dI eE n f H := hce ▸ hq
      refine c_v (KK := KL dC dI z mi (AL q eE z H.size) n f x) (Pw := fun H9 => H9.size = H.size ∧ va_P (dC, dI) vwCl [(q, .inr (0, [.int m0, .ref eE, .int (nI n)])), (eE, .inl (dC 8, n, .inr (.inr (.inr (.inr f)))))] H9 ∧ va_D (AL q eE z H.size) [(q, .inr (0, [.int m0, .ref eE, .int (nI n)])), (eE, .inl (dC 8, n, .inr (.inr (.inr (.inr f)))))] ∧ Sz bs H9) (n := 1) (As := [.ref x]) (rest := rest) S (q_add_o l dC dI z mi (AL q eE z H.size) n f x q eE H.size m0 bs (fun y h => Or.inr (Or.inr h)) (by omega) (by omega)) iw_232 iw_229 iw_230 iw_231 iw_60 (by decide +kernel) rfl ⟨rfl, rfl, Nat.le_trans (by decide) hR.1, Nat.le_trans (by decide) hR.2⟩ KL.blind hrecv (hKZ.kl hS hF (fun t ht r hr => by obtain ⟨r9, h8, h7⟩ := hf9 t ht; cases h8.symm.trans hr; exact hel t _ ht h7) hx) ⟨rfl, va_P2 ho hq, va_D2 (Or.inl rfl) (Or.inr (Or.inl ⟨rfl, hez⟩)) (cls_ne hKZ.1.inj (oat_cls ho) (qat_cls hq) (by decide) (by decide) (by decide)), hSz⟩ hsz rfl hw hdg hf hS hF (fun v9 H1 locs1 hB hz9 hk9 hS1 => ?_)
      obtain ⟨r, cp1, g, m1, rfl, hc1, hc2, hg, hgx, hP1, hD1, hSz1, hsz1⟩ := hB
      have hr := hD1.2 1 _ rfl
      have hrq : r ≠ q := fun h9 => absurd (hD1.1 1 0 _ _ rfl rfl h9) (by decide)
      refine kk H1 locs1 r ⟨hAq, by omega, m1, hP1 0 _ rfl, Or.inr ⟨hF r hr, fun h9 => hnz (h9 ▸ hF r hr), cp1, g, hP1 1 _ rfl, by omega, ⟨by omega, hc2⟩, fun t ht => ?_⟩⟩ (hr.elim (fun h9 => absurd h9 hrq) (fun h9 => h9.imp (fun h8 => h8.1) id)) hk9 hz9 hSz1 hsz1 hS1
      rcases Nat.lt_succ_iff_lt_or_eq.mp ht with h9 | h9
      · obtain ⟨r9, h8, h7⟩ := hf9 t h9
        exact ⟨r9, (hg t h9).trans h8, Or.inl ⟨h9, h7⟩⟩
      · exact ⟨x, by rw [h9]; exact hgx, Or.inr ⟨h9, rfl⟩⟩
theorem L_insM {q eE n x t : Nat} {ok : Nat → Prop} (S : CallFix p m c cc nL s args tb RX3) (hKZ : KZ dC dI z mi A s) (hS : va_S A s.heap H locs) (hA : ∀ y, H.size ≤ y → A y) (hLi : Li dC dI z A q eE n (fun _ r => ok r) H) (hn : n < 400) (ht : t ≤ n) (hel : ∀ r, ok r → pzE r (AL q eE z H.size) s H) (hx : pzE x (AL q eE z H.size) s H) (hok : ok x) (hSz : Sz bs H) (hsz : ls.size = nL) (hw : (rest.map fun v => v.category).sum ≤ 8) (hdg : decode cc pc = .ok (.invokevirtual 220, 3)) (hR : 7 ≤ R.frames ∧ 200 ≤ R.locals) (hf : cells + 1 ≤ R.cells ∧ slots + 610 ≤ R.slots) (kk : ∀ (H1 : Heap) (locs1 : List Loc) (e1 : Nat), Li dC dI z A q e1 (n + 1) (fun _ r => ok r) H1 → (e1 = eE ∨ H.size ≤ e1) → (∀ y : Nat, y < H.size → ¬ AL q eE z H.size y → H1[y]? = H[y]?) → H.size ≤ H1.size → Sz bs H1 → H1.size ≤ H.size + 1 → va_S A s.heap H1 locs1 → W p l e R s m args below meth c H1 locs1 (cells + 1) (slots + 610) Q (F0 m (pc + 3) ls (rest))) : W p l e R s m args below meth c H locs cells slots Q (F0 m pc ls (.ref x :: .int (nI t) :: .ref q :: rest)) := by
  obtain ⟨hAq, hn4, m0, ho, hc⟩ := id hLi
  obtain ⟨cz, hcz, -, -, -, -, -, hnz⟩ := id hKZ.2.1.2.1
  have hrecv : ∃ cell : Cell, H[q]? = some cell ∧ cell.vm.isStatics = false ∧ s.vm.findClass RJx4a65c = some cell.cls := by
    obtain ⟨r9, g1, cell, g2, g3, g4, g5⟩ := ho
    exact ⟨cell, g2, by rw [g4]; rfl, by rw [g3]; exact hKZ.1.name 0 (by decide)⟩
  have hF : ∀ y, AL q eE z H.size y → A y := by
    rintro y (h | ⟨h, h2⟩ | h)
    · rw [h]; exact hAq
    · rcases hc with ⟨h3, -⟩ | ⟨h3, -⟩
      · exact absurd h3 h2
      · rw [h]; exact h3
    · exact hA y h
  rcases hc with ⟨he, hn0⟩ | ⟨hAe, hez, cap, f, hq, hcap, hc6, hf9⟩
  · subst hn0
    have ho : oat dC dI q 0 [.int m0, .ref z, .int (nI 0)] H := he ▸ ho
    refine c_v (KK := KL dC dI z mi (AL q eE z H.size) 0 (fun _ => none) x) (Pw := fun H9 => H9.size = H.size ∧ va_P (dC, dI) vwCl [(q, .inr (0, [.int m0, .ref z, .int (nI 0)]))] H9 ∧ va_D (AL q eE z H.size) [(q, .inr (0, [.int m0, .ref z, .int (nI 0)]))] ∧ Sz bs H9) (n := 2) (As := [.int (nI t), .ref x]) (rest := rest) S (q_ins_z l dC dI z mi (AL q eE z H.size) 0 (fun _ => none) x q z H.size m0 t bs (fun y h => Or.inr (Or.inr h)) (by omega)) iw_487 iw_484 iw_485 iw_486 iw_60 (by decide +kernel) rfl ⟨rfl, rfl, Nat.le_trans (by decide) hR.1, Nat.le_trans (by decide) hR.2⟩ KL.blind hrecv (hKZ.kl hS hF (fun t ht => absurd ht (Nat.not_lt_zero t)) hx) ⟨rfl, va_P1 ho, va_D1 (Or.inl rfl), hSz⟩ hsz rfl hw hdg hf hS hF (fun v9 H1 locs1 hB hz9 hk9 hS1 => ?_)
    obtain ⟨r, cp1, g, m1, rfl, hc1, hc2, ga, gx, gb, hP1, hD1, hSz1, hsz1⟩ := hB
    have hr := hD1.2 1 _ rfl
    have hrq : r ≠ q := fun h9 => absurd (hD1.1 1 0 _ _ rfl rfl h9) (by decide)
    refine kk H1 locs1 r ⟨hAq, by omega, m1, hP1 0 _ rfl, Or.inr ⟨hF r hr, fun h9 => hnz (h9 ▸ hF r hr), cp1, g, hP1 1 _ rfl, by omega, ⟨by omega, hc2⟩, fun j hj => ?_⟩⟩ (hr.elim (fun h9 => absurd h9 hrq) (fun h9 => h9.imp (fun h8 => h8.1) id)) hk9 hz9 hSz1 hsz1 hS1
    rcases Nat.lt_trichotomy j t with h9 | h9 | h9
    · omega
    · exact ⟨x, by rw [h9]; exact gx, hok⟩
    · omega
  · rcases Nat.lt_or_ge n cap with hlt | hge
    · refine c_v (KK := KL dC dI z mi (AL q eE z H.size) n f x) (Pw := fun H9 => H9.size = H.size ∧ va_P (dC, dI) vwCl [(q, .inr (0, [.int m0, .ref eE, .int (nI n)])), (eE, .inl (dC 8, cap, .inr (.inr (.inr (.inr f)))))] H9 ∧ va_D (AL q eE z H.size) [(q, .inr (0, [.int m0, .ref eE, .int (nI n)])), (eE, .inl (dC 8, cap, .inr (.inr (.inr (.inr f)))))] ∧ Sz bs H9) (n := 2) (As := [.int (nI t), .ref x]) (rest := rest) S (q_ins_n l dC dI z mi (AL q eE z H.size) n f x q eE H.size m0 cap t bs (fun y h => Or.inr (Or.inr h)) (by omega) hc6.2 (by omega)) iw_487 iw_484 iw_485 iw_486 iw_60 (by decide +kernel) rfl ⟨rfl, rfl, Nat.le_trans (by decide) hR.1, Nat.le_trans (by decide) hR.2⟩ KL.blind hrecv (hKZ.kl hS hF (fun t ht r hr => by obtain ⟨r9, h8, h7⟩ := hf9 t ht; cases h8.symm.trans hr; exact hel _ h7) hx) ⟨rfl, va_P2 ho hq, va_D2 (Or.inl rfl) (Or.inr (Or.inl ⟨rfl, hez⟩)) (cls_ne hKZ.1.inj (oat_cls ho) (qat_cls hq) (by decide) (by decide) (by decide)), hSz⟩ hsz rfl hw hdg hf hS hF (fun v9 H1 locs1 hB hz9 hk9 hS1 => ?_)
      obtain ⟨r, cp1, g, m1, rfl, hc1, hc2, ga, gx, gb, hP1, hD1, hSz1, hsz1⟩ := hB
      have hr := hD1.2 1 _ rfl
      have hrq : r ≠ q := fun h9 => absurd (hD1.1 1 0 _ _ rfl rfl h9) (by decide)
      refine kk H1 locs1 r ⟨hAq, by omega, m1, hP1 0 _ rfl, Or.inr ⟨hF r hr, fun h9 => hnz (h9 ▸ hF r hr), cp1, g, hP1 1 _ rfl, by omega, ⟨by omega, hc2⟩, fun j hj => ?_⟩⟩ (hr.elim (fun h9 => absurd h9 hrq) (fun h9 => h9.imp (fun h8 => h8.1) id)) hk9 hz9 hSz1 hsz1 hS1
      rcases Nat.lt_trichotomy j t with h9 | h9 | h9
      · obtain ⟨r9, h8, h7⟩ := hf9 j (by omega)
        exact ⟨r9, (ga j h9).trans h8, h7⟩
      · exact ⟨x, by rw [h9]; exact gx, hok⟩
      · obtain ⟨r9, h8, h7⟩ := hf9 (j - 1) (by omega)
        exact ⟨r9, (gb j h9 (by omega)).trans h8, h7⟩
    · have hce : cap = n := by omega
      have hq : qat dC dI eE n f H := hce ▸ hq
      refine c_v (KK := KL dC dI z mi (AL q eE z H.size) n f x) (Pw := fun H9 => H9.size = H.size ∧ va_P (dC, dI) vwCl [(q, .inr (0, [.int m0, .ref eE, .int (nI n)])), (eE, .inl (dC 8, n, .inr (.inr (.inr (.inr f)))))] H9 ∧ va_D (AL q eE z H.size) [(q, .inr (0, [.int m0, .ref eE, .int (nI n)])), (eE, .inl (dC 8, n, .inr (.inr (.inr (.inr f)))))] ∧ Sz bs H9) (n := 2) (As := [.int (nI t), .ref x]) (rest := rest) S (q_ins_o l dC dI z mi (AL q eE z H.size) n f x q eE H.size m0 t bs (fun y h => Or.inr (Or.inr h)) (by omega) (by omega) (by omega)) iw_487 iw_484 iw_485 iw_486 iw_60 (by decide +kernel) rfl ⟨rfl, rfl, Nat.le_trans (by decide) hR.1, Nat.le_trans (by decide) hR.2⟩ KL.blind hrecv (hKZ.kl hS hF (fun t ht r hr => by obtain ⟨r9, h8, h7⟩ := hf9 t ht; cases h8.symm.trans hr; exact hel _ h7) hx) ⟨rfl, va_P2 ho hq, va_D2 (Or.inl rfl) (Or.inr (Or.inl ⟨rfl, hez⟩)) (cls_ne hKZ.1.inj (oat_cls ho) (qat_cls hq) (by decide) (by decide) (by decide)), hSz⟩ hsz rfl hw hdg hf hS hF (fun v9 H1 locs1 hB hz9 hk9 hS1 => ?_)
      obtain ⟨r, cp1, g, m1, rfl, hc1, hc2, ga, gx, gb, hP1, hD1, hSz1, hsz1⟩ := hB
      have hr := hD1.2 1 _ rfl
      have hrq : r ≠ q := fun h9 => absurd (hD1.1 1 0 _ _ rfl rfl h9) (by decide)
      refine kk H1 locs1 r ⟨hAq, by omega, m1, hP1 0 _ rfl, Or.inr ⟨hF r hr, fun h9 => hnz (h9 ▸ hF r hr), cp1, g, hP1 1 _ rfl, by omega, ⟨by omega, hc2⟩, fun j hj => ?_⟩⟩ (hr.elim (fun h9 => absurd h9 hrq) (fun h9 => h9.imp (fun h8 => h8.1) id)) hk9 hz9 hSz1 hsz1 hS1
      rcases Nat.lt_trichotomy j t with h9 | h9 | h9
      · obtain ⟨r9, h8, h7⟩ := hf9 j (by omega)
        exact ⟨r9, (ga j h9).trans h8, h7⟩
      · exact ⟨x, by rw [h9]; exact gx, hok⟩
      · obtain ⟨r9, h8, h7⟩ := hf9 (j - 1) (by omega)
        exact ⟨r9, (gb j h9 (by omega)).trans h8, h7⟩
theorem L_remM {q eE n t : Nat} {ok : Nat → Prop} (S : CallFix p m c cc nL s args tb RX3) (hKZ : KZ dC dI z mi A s) (hS : va_S A s.heap H locs) (hA : ∀ y, H.size ≤ y → A y) (hLi : Li dC dI z A q eE n (fun _ r => ok r) H) (ht : t < n) (hel : ∀ r, ok r → pzE r (AL q eE z H.size) s H) (hSz : Sz bs H) (hsz : ls.size = nL) (hw : (rest.map fun v => v.category).sum ≤ 8) (hdg : decode cc pc = .ok (.invokevirtual 223, 3)) (hR : 4 ≤ R.frames ∧ 120 ≤ R.locals) (hf : cells ≤ R.cells ∧ slots ≤ R.slots) (kk : ∀ (H1 : Heap) (locs1 : List Loc) (r : Nat), Li dC dI z A q eE (n - 1) (fun _ r => ok r) H1 → (∀ y : Nat, y < H.size → ¬ AL q eE z H.size y → H1[y]? = H[y]?) → H.size ≤ H1.size → Sz bs H1 → H1.size ≤ H.size → va_S A s.heap H1 locs1 → W p l e R s m args below meth c H1 locs1 (cells) (slots) Q (F0 m (pc + 3) ls (.ref r :: rest))) : W p l e R s m args below meth c H locs cells slots Q (F0 m pc ls (.int (nI t) :: .ref q :: rest)) := by
  obtain ⟨hAq, hn4, m0, ho, hc⟩ := id hLi
  obtain ⟨cz, hcz, -, -, -, -, -, hnz⟩ := id hKZ.2.1.2.1
  have hrecv : ∃ cell : Cell, H[q]? = some cell ∧ cell.vm.isStatics = false ∧ s.vm.findClass RJx4a65c = some cell.cls := by
    obtain ⟨r9, g1, cell, g2, g3, g4, g5⟩ := ho
    exact ⟨cell, g2, by rw [g4]; rfl, by rw [g3]; exact hKZ.1.name 0 (by decide)⟩
  have hF : ∀ y, AL q eE z H.size y → A y := by
    rintro y (h | ⟨h, h2⟩ | h)
    · rw [h]; exact hAq
    · rcases hc with ⟨h3, -⟩ | ⟨h3, -⟩
      · exact absurd h3 h2
      · rw [h]; exact h3
    · exact hA y h
  rcases hc with ⟨he, hn0⟩ | ⟨hAe, hez, cap, f, hq, hcap, hc6, hf9⟩
  · omega
  · obtain ⟨r0, hr0, hok0⟩ := hf9 t ht
    refine c_v (KK := KL dC dI z mi (AL q eE z H.size) n f r0) (Pw := fun H9 => H9.size = H.size ∧ va_P (dC, dI) vwCl [(q, .inr (0, [.int m0, .ref eE, .int (nI n)])), (eE, .inl (dC 8, cap, .inr (.inr (.inr (.inr f)))))] H9 ∧ va_D (AL q eE z H.size) [(q, .inr (0, [.int m0, .ref eE, .int (nI n)])), (eE, .inl (dC 8, cap, .inr (.inr (.inr (.inr f)))))] ∧ Sz bs H9) (n := 1) (As := [.int (nI t)]) (rest := rest) S (q_rem l dC dI z mi (AL q eE z H.size) n f r0 q eE H.size m0 cap t r0 bs ht hcap hc6.2 hr0) iw_512 iw_509 iw_510 iw_511 iw_60 (by decide +kernel) rfl ⟨rfl, rfl, Nat.le_trans (by decide) hR.1, Nat.le_trans (by decide) hR.2⟩ KL.blind hrecv (hKZ.kl hS hF (fun t ht r hr => by obtain ⟨r9, h8, h7⟩ := hf9 t ht; cases h8.symm.trans hr; exact hel _ h7) (hel r0 hok0)) ⟨rfl, va_P2 ho hq, va_D2 (Or.inl rfl) (Or.inr (Or.inl ⟨rfl, hez⟩)) (cls_ne hKZ.1.inj (oat_cls ho) (qat_cls hq) (by decide) (by decide) (by decide)), hSz⟩ hsz rfl hw hdg hf hS hF (fun v9 H1 locs1 hB hz9 hk9 hS1 => ?_)
    obtain ⟨g, m1, rfl, ga, gb, hP1, hD1, hSz1, hsz1⟩ := hB
    refine kk H1 locs1 r0 ⟨hAq, by omega, m1, hP1 0 _ rfl, Or.inr ⟨hAe, hez, cap, g, hP1 1 _ rfl, by omega, hc6, fun j hj => ?_⟩⟩ hk9 hz9 hSz1 hsz1 hS1
    rcases Nat.lt_or_ge j t with h9 | h9
    · obtain ⟨r9, h8, h7⟩ := hf9 j (by omega)
      exact ⟨r9, (ga j h9).trans h8, h7⟩
    · obtain ⟨r9, h8, h7⟩ := hf9 (j + 1) (by omega)
      exact ⟨r9, (gb j h9 hj).trans h8, h7⟩
end B46
