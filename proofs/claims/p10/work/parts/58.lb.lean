/-! the law: calls of both sides -/
def Szk (H t : Heap) (mc ms : Nat) : Prop := (∀ (x : Nat) (c0 : Cell), H[x]? = some c0 → ∃ c1 : Cell, t[x]? = some c1 ∧ c1.slots.size = c0.slots.size) ∧ t.size ≤ H.size + mc ∧ sls t H.size ≤ ms
theorem Met.sized {l : Launch} {y : MethodName} {ws : List Cond} {rm : Room} {av : List Value} {KK : State → Prop} {Pw : Heap → Prop} {B : Option Value → Heap → Prop} {A : Nat → Prop} {mc ms : Nat} (H : Heap) (h : Met l y ws rm (va_Pc av (fun U => KK U ∧ Pw U.heap)) (Qg B A) mc ms A) : Met l y ws rm (va_Pc av (fun U => KK U ∧ (fun H9 => H9 = H ∧ Pw H9) U.heap)) (Qg (fun v t => B v t ∧ Szk H t mc ms) A) mc ms A := by
  refine MetFree.mono h (fun a s q => ⟨q.1, q.2.1, q.2.2.2⟩) (fun _ _ _ _ _ q => q) (fun a s o t hP hQ => ?_)
  obtain ⟨⟨⟨v, hv, hB⟩, hF⟩, L, hE, hL⟩ := hQ
  refine ⟨⟨⟨v, hv, hB, ?_⟩, hF⟩, L, hE, hL⟩
  obtain ⟨-, -, h1, h2, h3, h4, h5, h6⟩ := hE
  have hH : s.heap = H := hP.2.2.1
  rw [← hH]
  exact ⟨fun x c0 hc => by obtain ⟨c1, a1, a2, a3, -⟩ := h6 x c0 hc; exact ⟨c1, a1, a3⟩, h3, h5⟩
theorem Mw.sub {dC : Nat → ClassId} {dI : Nat → Nat → Nat} {h0 : Nat} {R : Nat → Nat} {A A1 : Nat → Prop} {V : Nat → Int32} {G : Nat → Nat → Int32} {H : Heap} (h : Mw dC dI h0 R A V G H) (h1 : A1 h0) (h2 : ∀ k, mAr k = true → A1 (R k)) : Mw dC dI h0 R A1 V G H := ⟨⟨h1, h2, h.1.2.2⟩, h.2⟩
theorem Mw.lt {dC : Nat → ClassId} {dI : Nat → Nat → Nat} {h0 : Nat} {R : Nat → Nat} {A : Nat → Prop} {V : Nat → Int32} {G : Nat → Nat → Int32} {H : Heap} (h : Mw dC dI h0 R A V G H) {H1 : Heap} (hk : ∀ q : Nat, q < H.size → A q → H1[q]? = H[q]?) : Mw dC dI h0 R A V G H1 := by
  obtain ⟨h1, ⟨I, hI, hV⟩, h3⟩ := h
  refine ⟨h1, ⟨I, va_at.kept hI (hk _ (va_at.lt hI) h1.1), hV⟩, fun k hq => ?_⟩
  obtain ⟨f, hf, hg⟩ := h3 k hq
  exact ⟨f, va_at.kept hf (hk _ (va_at.lt hf) (h1.2.1 k hq)), hg⟩
section B58
variable {p : Program} {l : Launch} {e : Env} {R : Room} {s : State} {m : MethodId} {args : Array Value} {below : List Frame} {meth : Method} {c : Code} {H : Heap} {locs : List Loc} {cells slots : Nat} {Q : State → Prop}
variable {cc : ByteArray} {pc nL : Nat} {ls : Array Slot} {rest st0 : List Value} {dC : Nat → ClassId} {dI : Nat → Nat → Nat} {z mi : Nat} {A A3 A4 : Nat → Prop} {cp h3 h4 : Nat} {la sA cA Rr : Nat → Nat} {ns nc : Nat} {dr : Nat → Prop} {X : Nat → Int32} {P : Nat → Prop} {tr : Nat → Int32} {nl nq rs : Nat} {V : Nat → Int32} {G : Nat → Nat → Int32}
variable {y : MethodName} {bytes : ByteArray} {maxL index n mc ms : Nat} {rm : Room} {Pw : Heap → Prop} {B : Option Value → Heap → Prop} {As : List Value}
/-- a call of the class -/
theorem l_x (S : CallFix p m c cc nL s args tb RL) (hM : Met l y (cws y bytes maxL (some .int)) rm (va_Pc (.ref h3 :: As) (fun U => KZ dC dI z mi A3 U ∧ Pw U.heap)) (Qg B A3) mc ms A3)
    (w1 : Cond.code y bytes maxL (some .int) ∈ tb) (w2 : Cond.methodLink RL index y ∈ tb) (w3 : Cond.instanceMethod y ∈ tb) (w4 : Cond.selects RX3 y y ∈ tb)
    (hd : y.cls = RX3 ∧ y.cls ≠ "java/lang/invoke/MethodHandle" ∧ y.cls ≠ "java/lang/invoke/VarHandle" ∧ (parseMethodDescriptor y.desc).map (fun d => d.parameters.length) = some n) (hn : As.length = n)
    (hR : rm.cells = mc ∧ rm.slots = ms ∧ rm.frames + 1 ≤ R.frames ∧ 8 + (maxL + 11) + rm.locals ≤ R.locals) (hK : KZ dC dI z mi A s) (hp : Pw H) (hW : Cw dC dI z A3 s.heap.size cp h3 la sA cA ns nc dr X P tr nl nq rs H)
    (hsz : ls.size = nL) (hst : st0 = As.reverse ++ .ref h3 :: rest) (hw : (rest.map fun v => v.category).sum ≤ 8) (hdg : decode cc pc = .ok (.invokevirtual index, 3))
    (hS : va_S A s.heap H locs) (hA3 : ∀ q, A3 q → A q) (hmc : mc = 0 ∨ mc = cp - H.size) (hms : ms = 610 * mc) (hcpR : cp - s.heap.size ≤ R.cells ∧ 610 * (cp - s.heap.size) ≤ R.slots)
    (hm : Mw dC dI h4 Rr A4 V G H) (hdis : ∀ q, A4 q → ¬ A3 q)
    (kk : ∀ (v : Option Value) (H1 : Heap) (locs1 : List Loc), B v H1 → Mw dC dI h4 Rr A4 V G H1 → va_S A s.heap H1 locs1 → W p l e R s m args below meth c H1 locs1 (cp - s.heap.size) (610 * (cp - s.heap.size)) Q (F0 m (pc + 3) ls (v.toList ++ rest))) : W p l e R s m args below meth c H locs cells slots Q (F0 m pc ls st0) := by
  have h1 := hS.1
  have h2 := hW.2.2.2.2.2.1.2.1
  refine W.ti9 (sz := s.heap.size) rfl (Nat.le_refl _) hS hW.2.2.2.2.2.1.1 ?_
  refine c_v (C := RX3) (KK := KZ dC dI z mi A3) (Pw := Pw) (rest := rest) (As := As) (n := n) S hM w1 w2 w3 w4 iw_57 hd hn hR KZ.blind (D_recv hK.1 hW) (hK.at hS hA3) hp hsz hst hw hdg ⟨by omega, by omega⟩ hS hA3 (fun v H1 locs1 hB hz9 hk9 hS1 => ?_)
  refine W.widen (k := cp - s.heap.size) (n := 610 * (cp - s.heap.size)) (by omega) (by omega) ?_
  exact kk v H1 locs1 hB (hm.lt (fun q h8 h9 => hk9 q h8 (hdis q h9))) hS1
/-- a call of the reference -/
theorem l_m (S : CallFix p m c cc nL s args tb RL) (hM : Met l y (cws y bytes maxL (some .int)) rm (va_Pc (.ref h4 :: As) (fun U => Kt dC dI U ∧ Mw dC dI h4 Rr A4 V G U.heap)) (Qg B A4) 0 0 A4)
    (w1 : Cond.code y bytes maxL (some .int) ∈ tb) (w2 : Cond.methodLink RL index y ∈ tb) (w3 : Cond.instanceMethod y ∈ tb) (w4 : Cond.selects RX4 y y ∈ tb)
    (hd : y.cls = RX4 ∧ y.cls ≠ "java/lang/invoke/MethodHandle" ∧ y.cls ≠ "java/lang/invoke/VarHandle" ∧ (parseMethodDescriptor y.desc).map (fun d => d.parameters.length) = some n) (hn : As.length = n)
    (hR : rm.cells = 0 ∧ rm.slots = 0 ∧ rm.frames + 1 ≤ R.frames ∧ 8 + (maxL + 11) + rm.locals ≤ R.locals) (hK : KZ dC dI z mi A s) (hm : Mw dC dI h4 Rr A4 V G H) (hW : Cw dC dI z A3 s.heap.size cp h3 la sA cA ns nc dr X P tr nl nq rs H)
    (hsz : ls.size = nL) (hst : st0 = As.reverse ++ .ref h4 :: rest) (hw : (rest.map fun v => v.category).sum ≤ 8) (hdg : decode cc pc = .ok (.invokevirtual index, 3))
    (hS : va_S A s.heap H locs) (hA4 : ∀ q, A4 q → A q) (hcpR : cp - s.heap.size ≤ R.cells ∧ 610 * (cp - s.heap.size) ≤ R.slots) (hdis : ∀ q, A4 q → ¬ A3 q)
    (kk : ∀ (v : Option Value) (H1 : Heap) (locs1 : List Loc), B v H1 → Cw dC dI z A3 s.heap.size cp h3 la sA cA ns nc dr X P tr nl nq rs H1 → va_S A s.heap H1 locs1 → W p l e R s m args below meth c H1 locs1 (cp - s.heap.size) (610 * (cp - s.heap.size)) Q (F0 m (pc + 3) ls (v.toList ++ rest))) : W p l e R s m args below meth c H locs cells slots Q (F0 m pc ls st0) := by
  have h1 := hS.1
  have h2 := hW.2.2.2.2.2.1.2.1
  refine W.ti9 (sz := s.heap.size) rfl (Nat.le_refl _) hS hW.2.2.2.2.2.1.1 ?_
  refine c_v (C := RX4) (KK := Kt dC dI) (Pw := fun H9 => H9 = H ∧ Mw dC dI h4 Rr A4 V G H9) (rest := rest) (As := As) (n := n) S (Met.sized H hM) w1 w2 w3 w4 iw_61 hd hn hR Kt.blind (M_recv hK.1 hm) (fun U _ h9 => va_K.moved h9.alike hK.1) ⟨rfl, hm⟩ hsz hst hw hdg ⟨by omega, by omega⟩ hS hA4 (fun v H1 locs1 hB hz9 hk9 hS1 => ?_)
  obtain ⟨hB, k1, k2, k3⟩ := hB
  have e1 : H1.size = H.size := by omega
  refine W.widen (k := cp - s.heap.size) (n := 610 * (cp - s.heap.size)) (by omega) (by omega) ?_
  refine kk v H1 locs1 hB (hW.kept (fun q hq => ?_) ⟨hW.2.2.2.2.2.1.1.of k1 (by omega), by omega, fun y9 h9 => hW.2.2.2.2.2.1.2.2 y9 (by omega)⟩) hS1
  rcases Nat.lt_or_ge q H.size with g | g
  · exact hk9 q g (fun h9 => hdis q h9 hq)
  · rw [Array.getElem?_eq_none (by omega), Array.getElem?_eq_none (by omega)]
/-- a number of the script, onto the stack -/
theorem l_arg {b L : Nat} {xs : Nat → Int32} {j k : Nat} {kn : Int} (hx : p.tables.exec = Jvm.exec) (hb : c.code = cc) (hX : va_X b L xs s s.heap) (hbl : b < s.heap.size) (hbA : ¬ A b) (hS : va_S A s.heap H locs) (hL : L ≤ 3072) (hj : j + k < L) (hl : lv_has ls 4 [(3, .int (nI j)), (2, .ref h4), (1, .ref h3), (0, .ref b)]) (hk : Int32.ofInt kn = nI k)
    (d1 : decode cc pc = .ok (.aload_n 0, 1)) (d2 : decode cc (pc + 1) = .ok (.iload_n 3, 1)) (d3 : decode cc (pc + 2) = .ok (.iconst kn, 1)) (d4 : decode cc (pc + 3) = .ok (.iadd, 1)) (d5 : decode cc (pc + 4) = .ok (.iaload, 1))
    (kk : W p l e R s m args below meth c H locs cells slots Q (F0 m (pc + 5) ls (.int (xs (j + k)) :: rest))) : W p l e R s m args below meth c H locs cells slots Q (F0 m pc ls rest) := by
  refine lv_aload_n hx hb d1 rfl (lv_at hl 3 rfl) ?_
  refine lv_iload_n hx hb d2 rfl (lv_at hl 0 rfl) ?_
  refine lv_iconst (v := nI k) hx hb d3 hk ?_
  refine lv_iadd hx hb d4 ?_
  rw [nI_add]
  refine va_sld hx hb hX hbl hbA hS (i := nI (j + k)) (vp_in_nI hj (by omega)) d5 ?_
  rw [nI_clamp (by omega)]
  exact kk
end B58
/-- what holds of both sides between two calls of the law -/
def LRel (dC : Nat → ClassId) (dI : Nat → Nat → Nat) (z : Nat) (A3 A4 : Nat → Prop) (bs cp h3 : Nat) (la : Nat → Nat) (h4 : Nat) (Rr : Nat → Nat) (H : Heap) : Prop := ∃ (sA cA : Nat → Nat) (ns nc : Nat) (dr : Nat → Prop) (X : Nat → Int32) (P : Nat → Prop) (tr : Nat → Int32) (nl nq rs : Nat) (V : Nat → Int32) (G : Nat → Nat → Int32),
  Cw dC dI z A3 bs cp h3 la sA cA ns nc dr X P tr nl nq rs H ∧ Mw dC dI h4 Rr A4 V G H ∧ MI ns nc dr V G ∧ smc tr nc + (200 - agn X) + (2 * (8 - ns) + 12 * (200 - nc)) ≤ rs ∧ (0 ≤ (X 8).toInt ∧ (X 8).toInt ≤ 100) ∧ (∀ k, dr k → k < ns) ∧ V 4 = X 6 ∧ V 5 = X 7 ∧ V 6 = X 8 ∧ V 7 = X 9
def LCx (p : Program) (s : State) (m : MethodId) (c : Code) (b L : Nat) (xs : Nat → Int32) (dC : Nat → ClassId) (dI : Nat → Nat → Nat) (z mi cp : Nat) (A A3 A4 : Nat → Prop) : Prop := CallFix p m c cL_law 4 s #[Value.ref b] tb RL ∧ (va_X b L xs s s.heap ∧ b < s.heap.size ∧ ¬ A b ∧ L ≤ 3072) ∧ KZ dC dI z mi A s ∧ ((∀ q, A3 q → A q) ∧ (∀ q, A4 q → A q) ∧ ∀ q, A4 q → ¬ A3 q) ∧ cp = s.heap.size + 2655
theorem badS_lt {ns : Nat} {a b c d e : Int32} (h : badS ns a b c d e = none) : ns < 8 := by
  unfold badS at h
  split at h
  · cases h
  · split at h
    · cases h
    · split at h
      · cases h
      · omega
theorem badN_in {n : Int32} {lo hi : Int} (h : badN n lo hi = none) : lo ≤ n.toInt ∧ n.toInt ≤ hi := by
  unfold badN at h
  split at h
  · cases h
  · split at h
    · cases h
    · omega
theorem MI.dr {ns nc : Nat} {dr dr1 : Nat → Prop} {V : Nat → Int32} {G G1 : Nat → Nat → Int32} (h : MI ns nc dr V G) (h1 : ∀ i, i ≠ 17 → G1 i = G i) (h2 : ∀ k, k < 8 → (dr1 k ↔ gDr (G1 17 k))) : MI ns nc dr1 V G1 := by
  obtain ⟨a, b, d, e, f, g, i⟩ := h
  refine ⟨a, b, ?_, ?_, ?_, ?_, h2⟩
  · unfold I31; rw [h1 31 (by decide)]; exact d
  · unfold I37; rw [h1 37 (by decide)]; exact e
  · unfold IQ; rw [h1 31 (by decide), h1 30 (by decide)]; exact f
  · unfold IZ; rw [h1 30 (by decide)]; exact g
theorem out_in {a : Int32} {ns j : Nat} (h : a.toInt < 0 ∨ (ns : Int) ≤ a.toInt) (hj : j < ns) (hn : ns ≤ 8) (e : a = nI j) : False := by
  have h1 : a.toInt = (j : Int) := by rw [e]; exact nI_toInt (by omega)
  omega
theorem rel_drain {ns nc : Nat} {dr dr1 : Nat → Prop} {V : Nat → Int32} {G G1 : Nat → Nat → Int32} {a1 r r2 : Int32} (hI : MI ns nc dr V G) (hdr : ∀ k, dr k → k < ns)
    (h3 : ((a1.toInt < 0 ∨ (ns : Int) ≤ a1.toInt) ∧ r = -1 ∧ ∀ k, dr1 k ↔ dr k) ∨ ∃ j, j < ns ∧ a1 = nI j ∧ ((dr j ∧ r = -3 ∧ ∀ k, dr1 k ↔ dr k) ∨ (¬ dr j ∧ ∀ k, dr1 k ↔ (k = j ∨ dr k))))
    (h4 : ((a1.toInt < 0 ∨ (ns : Int) ≤ a1.toInt) ∧ r2 = -1 ∧ G1 = G) ∨ ∃ j, j < ns ∧ a1 = nI j ∧ ((gDr (G 17 j) ∧ r2 = -3 ∧ G1 = G) ∨ (¬ gDr (G 17 j) ∧ (∃ x, G1 17 = upd (G 17) j x ∧ gDr x) ∧ ∀ i, i ≠ 17 → G1 i = G i))) : MI ns nc dr1 V G1 ∧ ∀ k, dr1 k → k < ns := by
  have hn : ns ≤ 8 := hI.1.2
  have hD : ID dr G := hI.2.2.2.2.2.2
  rcases h3 with ⟨o3, -, e3⟩ | ⟨j, hj, ea, h3⟩
  · rcases h4 with ⟨-, -, e4⟩ | ⟨i, hi, eb, -⟩
    · subst e4
      exact ⟨hI.dr (fun _ _ => rfl) (fun k hk => (e3 k).trans (hD k hk)), fun k h => hdr k ((e3 k).mp h)⟩
    · exact (out_in o3 hi hn eb).elim
  · rcases h4 with ⟨o4, -, -⟩ | ⟨i, hi, eb, h4⟩
    · exact (out_in o4 hj hn ea).elim
    · have eji : j = i := (nI_eq (by omega) (by omega)).mp (ea.symm.trans eb)
      subst eji
      rcases h3 with ⟨g3, -, e3⟩ | ⟨g3, e3⟩
      · rcases h4 with ⟨g4, -, e4⟩ | ⟨g4, -, -⟩
        · subst e4
          exact ⟨hI.dr (fun _ _ => rfl) (fun k hk => (e3 k).trans (hD k hk)), fun k h => hdr k ((e3 k).mp h)⟩
        · exact (g4 ((hD j (by omega)).mp g3)).elim
      · rcases h4 with ⟨g4, -, -⟩ | ⟨g4, ⟨x, ex, gx⟩, e4⟩
        · exact (g3 ((hD j (by omega)).mpr g4)).elim
        · refine ⟨hI.dr e4 (fun k hk => ?_), fun k h => ?_⟩
          · rw [e3 k, ex]
            by_cases q : k = j
            · subst q; rw [pk_us]; exact ⟨fun _ => gx, fun _ => Or.inl rfl⟩
            · rw [pk_un q]; exact ⟨fun h => h.elim (fun h => absurd h q) (fun h => (hD k hk).mp h), fun h => Or.inr ((hD k hk).mpr h)⟩
          · rcases (e3 k).mp h with h | h
            · omega
            · exact hdr k h
theorem rel_back {ns nc : Nat} {dr dr1 : Nat → Prop} {V : Nat → Int32} {G G1 : Nat → Nat → Int32} {a1 r r2 : Int32} (hI : MI ns nc dr V G) (hdr : ∀ k, dr k → k < ns)
    (h3 : ((a1.toInt < 0 ∨ (ns : Int) ≤ a1.toInt) ∧ r = -1 ∧ ∀ k, dr1 k ↔ dr k) ∨ ∃ j, j < ns ∧ a1 = nI j ∧ ((¬ dr j ∧ r = -3 ∧ ∀ k, dr1 k ↔ dr k) ∨ (dr j ∧ r = 1 ∧ ∀ k, dr1 k ↔ (k ≠ j ∧ dr k))))
    (h4 : ((a1.toInt < 0 ∨ (ns : Int) ≤ a1.toInt) ∧ r2 = -1 ∧ G1 = G) ∨ ∃ j, j < ns ∧ a1 = nI j ∧ ((¬ gDr (G 17 j) ∧ r2 = -3 ∧ G1 = G) ∨ (gDr (G 17 j) ∧ r2 = 1 ∧ G1 17 = upd (G 17) j 2 ∧ ∀ i, i ≠ 17 → G1 i = G i))) : r = r2 ∧ MI ns nc dr1 V G1 ∧ ∀ k, dr1 k → k < ns := by
  have hn : ns ≤ 8 := hI.1.2
  have hD : ID dr G := hI.2.2.2.2.2.2
  rcases h3 with ⟨o3, r3, e3⟩ | ⟨j, hj, ea, h3⟩
  · rcases h4 with ⟨-, r4, e4⟩ | ⟨i, hi, eb, -⟩
    · subst e4
      exact ⟨r3.trans r4.symm, hI.dr (fun _ _ => rfl) (fun k hk => (e3 k).trans (hD k hk)), fun k h => hdr k ((e3 k).mp h)⟩
    · exact (out_in o3 hi hn eb).elim
  · rcases h4 with ⟨o4, -, -⟩ | ⟨i, hi, eb, h4⟩
    · exact (out_in o4 hj hn ea).elim
    · have eji : j = i := (nI_eq (by omega) (by omega)).mp (ea.symm.trans eb)
      subst eji
      rcases h3 with ⟨g3, r3, e3⟩ | ⟨g3, r3, e3⟩
      · rcases h4 with ⟨g4, r4, e4⟩ | ⟨g4, -, -, -⟩
        · subst e4
          exact ⟨r3.trans r4.symm, hI.dr (fun _ _ => rfl) (fun k hk => (e3 k).trans (hD k hk)), fun k h => hdr k ((e3 k).mp h)⟩
        · exact (g3 ((hD j (by omega)).mpr g4)).elim
      · rcases h4 with ⟨g4, -, -⟩ | ⟨g4, r4, ex, e4⟩
        · exact (g4 ((hD j (by omega)).mp g3)).elim
        · refine ⟨r3.trans r4.symm, hI.dr e4 (fun k hk => ?_), fun k h => hdr k ((e3 k).mp h).2⟩
          rw [e3 k, ex]
          by_cases q : k = j
          · subst q; rw [pk_us]; exact ⟨fun h => absurd rfl h.1, fun h => absurd h (gDr_n (Or.inr (Or.inr rfl)))⟩
          · rw [pk_un q]; exact ⟨fun h => (hD k hk).mp h.2, fun h => ⟨q, (hD k hk).mpr h⟩⟩
