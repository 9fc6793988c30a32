/-! plain facts -/
theorem pz_lt {x y : Int32} (h : x < y) : x.toInt < y.toInt := Int32.lt_iff_toInt_lt.mp h
theorem pz_nlt {x y : Int32} (h : ¬ x < y) : y.toInt ≤ x.toInt := Int.not_lt.mp (fun q => h (Int32.lt_iff_toInt_lt.mpr q))
theorem pz_le {x y : Int32} (h : x ≤ y) : x.toInt ≤ y.toInt := Int32.le_iff_toInt_le.mp h
theorem pz_nle {x y : Int32} (h : ¬ x ≤ y) : y.toInt < x.toInt := Int.not_le.mp (fun q => h (Int32.le_iff_toInt_le.mpr q))
theorem pz_ge {x y : Int32} (h : y ≤ x) : y.toInt ≤ x.toInt := pz_le h
theorem pz_nge {x y : Int32} (h : ¬ y ≤ x) : x.toInt < y.toInt := pz_nle h
theorem pz_gt {x y : Int32} (h : y < x) : y.toInt < x.toInt := pz_lt h
theorem pz_ngt {x y : Int32} (h : ¬ y < x) : x.toInt ≤ y.toInt := pz_nlt h
theorem pz_eq {x y : Int32} (h : x = y) : x.toInt = y.toInt := congrArg Int32.toInt h
theorem pz_neq {x y : Int32} (h : ¬ x = y) : ¬ x.toInt = y.toInt := fun q => h (Int32.toInt_inj.mp q)
theorem pz_nne {x y : Int32} (h : ¬ ¬ x = y) : x.toInt = y.toInt := congrArg Int32.toInt (Classical.not_not.mp h)
theorem pz_of {x : Int32} {n : Nat} (h : 0 ≤ x.toInt) (h2 : x.toInt < (n : Int)) : ∃ j : Nat, j < n ∧ x = nI j := by
  have h0 : ¬ x < 0 := fun q => by
    have h9 := pz_lt q
    have h8 : (0 : Int32).toInt = 0 := by decide
    omega
  obtain ⟨j, hj, e⟩ := nI_of h0
  refine ⟨j, ?_, e⟩
  have e2 : x.toInt = (j : Int) := by rw [e]; exact nI_toInt hj
  omega
theorem pz_cl {j : Nat} (h : j < 2147483648) : (nI j).toNatClampNeg = j := nI_clamp (by omega)
theorem pz_ti {j : Nat} (h : j < 2147483648) : (nI j).toInt = (j : Int) := nI_toInt (by omega)
theorem pz_vi {j n : Nat} (h : j < n) (hn : n < 2147483648) : vp_in (nI j) n := vp_in_nI h (by omega)
/-! the tables -/
abbrev Kt (dC : Nat → ClassId) (dI : Nat → Nat → Nat) (U : State) : Prop := va_K (dC, dI) vwCl [(dC 6, .int), (dC 7, .boolean), (dC 8, .object "java/lang/Object")] U
def kNm : Nat → String := fun k => match k with
  | 0 => RJx4a65c
  | 1 => RX0
  | 2 => RX1
  | 3 => RX2
  | 4 => RX3
  | 5 => RX4
  | 6 => "[" ++ (FieldType.int).toString
  | 7 => "[" ++ (FieldType.boolean).toString
  | _ => "[" ++ (FieldType.object "java/lang/Object").toString
theorem kNm_inj : ∀ i, i < 9 → ∀ j, j < 9 → kNm i = kNm j → i = j := by decide +kernel
theorem Kt.name {dC : Nat → ClassId} {dI : Nat → Nat → Nat} {U : State} (h : Kt dC dI U) : ∀ i, i < 9 → U.vm.findClass (kNm i) = some (dC i) := by
  intro i hi
  match i, hi with
  | 0, _ => exact (h.1 0 _ rfl).2.1
  | 1, _ => exact (h.1 1 _ rfl).2.1
  | 2, _ => exact (h.1 2 _ rfl).2.1
  | 3, _ => exact (h.1 3 _ rfl).2.1
  | 4, _ => exact (h.1 4 _ rfl).2.1
  | 5, _ => exact (h.1 5 _ rfl).2.1
  | 6, _ => exact (h.2 0 _ rfl).2
  | 7, _ => exact (h.2 1 _ rfl).2
  | 8, _ => obtain ⟨-, kA, comp, h1, h2, h3, h4⟩ := h.2 2 _ rfl; exact h4
  | n + 9, hi => omega
theorem Kt.inj {dC : Nat → ClassId} {dI : Nat → Nat → Nat} {U : State} (h : Kt dC dI U) : ∀ i, i < 9 → ∀ j, j < 9 → dC i = dC j → i = j := by
  intro i hi j hj e
  obtain ⟨k1, a1, b1⟩ := Vm.findClass_spec (h.name i hi)
  obtain ⟨k2, a2, b2⟩ := Vm.findClass_spec (h.name j hj)
  rw [e] at a1
  have e2 : k1 = k2 := Option.some.inj (a1.symm.trans a2)
  exact kNm_inj i hi j hj (by rw [← b1, ← b2, e2])
/-! cells by themselves -/
abbrev oat (dC : Nat → ClassId) (dI : Nat → Nat → Nat) (a ci : Nat) (fs : List Value) (H : Heap) : Prop := va_at (dC, dI) vwCl (a, .inr (ci, fs)) H
abbrev iat (dC : Nat → ClassId) (dI : Nat → Nat → Nat) (a ci n : Nat) (f : Nat → Int32) (H : Heap) : Prop := va_at (dC, dI) vwCl (a, .inl (dC ci, n, .inl f)) H
abbrev qat (dC : Nat → ClassId) (dI : Nat → Nat → Nat) (a n : Nat) (f : Nat → Option Nat) (H : Heap) : Prop := va_at (dC, dI) vwCl (a, .inl (dC 8, n, .inr (.inr (.inr (.inr f))))) H
theorem oat_cls {dC : Nat → ClassId} {dI : Nat → Nat → Nat} {a ci : Nat} {fs : List Value} {H : Heap} (h : oat dC dI a ci fs H) : ∃ cell : Cell, H[a]? = some cell ∧ cell.cls = dC ci := by
  obtain ⟨r, h1, cell, h2, h3, -⟩ := h
  exact ⟨cell, h2, h3⟩
theorem iat_cls {dC : Nat → ClassId} {dI : Nat → Nat → Nat} {a ci n : Nat} {f : Nat → Int32} {H : Heap} (h : iat dC dI a ci n f H) : ∃ cell : Cell, H[a]? = some cell ∧ cell.cls = dC ci := ⟨_, h, rfl⟩
theorem qat_cls {dC : Nat → ClassId} {dI : Nat → Nat → Nat} {a n : Nat} {f : Nat → Option Nat} {H : Heap} (h : qat dC dI a n f H) : ∃ cell : Cell, H[a]? = some cell ∧ cell.cls = dC 8 := ⟨_, h, rfl⟩
theorem cls_ne {dC : Nat → ClassId} {a b i j : Nat} {H : Heap} (hinj : ∀ i, i < 9 → ∀ j, j < 9 → dC i = dC j → i = j) (h1 : ∃ cell : Cell, H[a]? = some cell ∧ cell.cls = dC i) (h2 : ∃ cell : Cell, H[b]? = some cell ∧ cell.cls = dC j) (hi : i < 9) (hj : j < 9) (hij : i ≠ j) : a ≠ b := by
  intro e
  subst e
  obtain ⟨c1, a1, b1⟩ := h1
  obtain ⟨c2, a2, b2⟩ := h2
  have e2 : c1 = c2 := Option.some.inj (a1.symm.trans a2)
  subst e2
  exact hij (hinj i hi j hj (b1.symm.trans b2))
def szq (H : Heap) (q : Nat) : Option Nat := (H[q]?).map (fun c => c.slots.size)
/-- one cell alone has changed -/
def One (a : Nat) (H H1 : Heap) : Prop := H1.size = H.size ∧ (∀ q : Nat, q ≠ a → H1[q]? = H[q]?) ∧ ∀ q : Nat, szq H1 q = szq H q
theorem One.oat {dC : Nat → ClassId} {dI : Nat → Nat → Nat} {a q ci : Nat} {fs : List Value} {H H1 : Heap} (h : One a H H1) (ho : oat dC dI q ci fs H) (hq : q ≠ a) : oat dC dI q ci fs H1 := va_at.kept ho (h.2.1 q hq)
theorem One.iat {dC : Nat → ClassId} {dI : Nat → Nat → Nat} {a q ci n : Nat} {f : Nat → Int32} {H H1 : Heap} (h : One a H H1) (ho : iat dC dI q ci n f H) (hq : q ≠ a) : iat dC dI q ci n f H1 := va_at.kept ho (h.2.1 q hq)
theorem One.qat {dC : Nat → ClassId} {dI : Nat → Nat → Nat} {a q n : Nat} {f : Nat → Option Nat} {H H1 : Heap} (h : One a H H1) (ho : qat dC dI q n f H) (hq : q ≠ a) : qat dC dI q n f H1 := va_at.kept ho (h.2.1 q hq)
theorem One.of {a i : Nat} {v : Value} {cell : Cell} {H H1 : Heap} (hc : H[a]? = some cell) (e1 : H1[a]? = some (cell.setSlot i v)) (e2 : H1.size = H.size) (e3 : ∀ q : Nat, q ≠ a → H1[q]? = H[q]?) : One a H H1 := by
  refine ⟨e2, e3, fun q => ?_⟩
  by_cases hq : q = a
  · subst hq
    unfold szq
    rw [e1, hc]
    simp [Cell.setSlot]
  · unfold szq
    rw [e3 q hq]
section B10
variable {p : Program} {l : Launch} {e : Env} {R : Room} {s : State} {m : MethodId} {args : Array Value} {below : List Frame} {meth : Method} {c : Code} {H : Heap} {locs : List Loc} {cells slots : Nat} {Q : State → Prop}
def sls (H : Heap) (n : Nat) : Nat := ((H.toList.drop n).map (fun c => c.slots.size)).sum
/-- the counters of what is new, read off the heap itself -/
theorem W.tight {g : JFrame} (k n : Nat) (h1 : H.size ≤ s.heap.size + k) (h2 : sls H s.heap.size ≤ n) (kk : W p l e R s m args below meth c H locs k n Q g) : W p l e R s m args below meth c H locs cells slots Q g := by
  intro T hT X
  have hs : s.sameButNew (T.setVm s.vm) locs k n := by
    obtain ⟨a1, a2, a3, a4, a5, a6⟩ := X.same
    exact ⟨a1, a2, by show T.heap.size ≤ _; rw [hT]; exact h1, a4, by show sls T.heap _ ≤ n; rw [hT]; exact h2, a6⟩
  exact kk T hT { X with same := hs }
variable {cc : ByteArray} {pc : Nat} {ls : Array Slot} {rest : List Value} {dC : Nat → ClassId} {dI : Nat → Nat → Nat} {A : Nat → Prop} {a : Nat} {H0 : Heap} {Ts : List Cond}
theorem x_get (hx : p.tables.exec = Jvm.exec) (hb : c.code = cc) {own ref C : String} {T : u_T} {N ci index : Nat} (hts : ∀ w ∈ Ts, w.before args s = true) (hin : ∀ w ∈ u_ws C T N, w ∈ Ts) (hown : s.vm.findClass own = some m.cls) (hK : Kt dC dI s) {fs : List Value} (ho : oat dC dI a ci fs H) (hc : vwCl[ci]? = some (C, T, N)) (k : Nat) (hk : k < N) (hlink : (Cond.fieldLink own index ref (T k).2.1 (T k).2.2.1).before args s = true) (hsame : ∀ x, s.fieldFound? (T k).1 (T k).2.1 (T k).2.2.1 = some x → s.fieldFound? ref (T k).2.1 (T k).2.2.1 = some x) {v : Value} (hv : fs[k]? = some v) (hdg : decode cc pc = .ok (.getfield index, 3))
    (kk : W p l e R s m args below meth c H locs cells slots Q (F0 m (pc + 3) ls (v :: rest))) : W p l e R s m args below meth c H locs cells slots Q (F0 m pc ls (.ref a :: rest)) :=
  va_get (D := (dC, dI)) (cl := vwCl) (ws := [(a, .inr (ci, fs))]) (ci := ci) (v := v) (C := C) (T := T) (N := N) hx hb hts hin hown hK (fun j q h => by
    match j, h with
    | 0, h => cases h; exact ho
    | n + 1, h => simp at h) 0 rfl hc k hk hlink hsame hv hdg kk
theorem x_put (hx : p.tables.exec = Jvm.exec) (hb : c.code = cc) {own ref C : String} {T : u_T} {N ci index : Nat} (hts : ∀ w ∈ Ts, w.before args s = true) (hin : ∀ w ∈ u_ws C T N, w ∈ Ts) (ty0 : Nat → FieldType) (hty : ∀ k, k < N → parseFieldDescriptor (T k).2.2.1 = some (ty0 k)) (hnm : ∀ a, a < N → ∀ b, b < N → a ≠ b → (T a).2.1 ≠ (T b).2.1) (hown : s.vm.findClass own = some m.cls) (hK : Kt dC dI s) (hS0 : va_S A H0 H locs) (hA : A a) {fs : List Value} (ho : oat dC dI a ci fs H) (hc : vwCl[ci]? = some (C, T, N)) (k : Nat) (hk : k < N) (hlink : (Cond.fieldLink own index ref (T k).2.1 (T k).2.2.1).before args s = true) (hsame : ∀ x, s.fieldFound? (T k).1 (T k).2.1 (T k).2.2.1 = some x → s.fieldFound? ref (T k).2.1 (T k).2.2.1 = some x) (hfin : (T k).2.2.2 = false) {ty : FieldType} {v : Value} (hd : parseFieldDescriptor (T k).2.2.1 = some ty) (hn : narrow ty v = v) (hfit : fits ty v = true) (hl : k < fs.length)
    (hdg : decode cc pc = .ok (.putfield index, 3)) (kk : ∀ (H1 : Heap) (locs1 : List Loc), oat dC dI a ci (fs.set k v) H1 → One a H H1 → va_S A H0 H1 locs1 → W p l e R s m args below meth c H1 locs1 cells slots Q (F0 m (pc + 3) ls rest)) : W p l e R s m args below meth c H locs cells slots Q (F0 m pc ls (v :: .ref a :: rest)) := by
  have hap := va_apart (own := own) hts hin ty0 hty hnm hK hc
  obtain ⟨r, h1, cell, q1, q2, q3, q4⟩ := ho
  have hr : r = (C, T, N) := Option.some.inj (h1.symm.trans hc)
  subst hr
  obtain ⟨hS, hfc, kC, hkC, hkind⟩ := hK.1 ci _ hc
  obtain ⟨cf, kf, fi, f, hi, hsl⟩ := hS k hk
  have hlay := hts _ (hin _ (u_in_lay hk))
  unfold u_lay at hlay
  rw [if_neg (by rw [hfin]; decide)] at hlay
  have hst := (u_facts hfc hkC (u_lays hts hin hk) hi).1
  have h6 := u_store hfc hkC hkind hlay hi hd hn hfit
  refine W.putK hx hb (f := f) ⟨hown, hlink, ⟨_, _, _, hsame _ hi⟩, hst⟩ (by rw [q2]; exact h6) q1 q3 (by rw [hsl]; exact k2_hasslot (q4 k hk)) rfl rfl hdg fun H' e1 e2 e3 => ?_
  have hO := One.of q1 e1 e2 e3
  rw [hsl] at e1 ⊢
  exact kk H' _ ⟨_, hc, t_OB.to (V := updV (vp_V fs) k v) ⟨_, e1, q2, q3, t_set q4 hap hk v⟩ (fun j _ => vp_updV_set hl v j)⟩ hO (hS0.put e2 e3 hA)
theorem x_iald (hx : p.tables.exec = Jvm.exec) (hb : c.code = cc) (hK : Kt dC dI s) {n : Nat} {f : Nat → Int32} (ho : iat dC dI a 6 n f H) {i : Int32} (hin : vp_in i n) (hdg : decode cc pc = .ok (.iaload, 1))
    (kk : W p l e R s m args below meth c H locs cells slots Q (F0 m (pc + 1) ls (.int (f i.toNatClampNeg) :: rest))) : W p l e R s m args below meth c H locs cells slots Q (F0 m pc ls (.int i :: .ref a :: rest)) :=
  va_iald (D := (dC, dI)) (cl := vwCl) (ws := [(a, .inl (dC 6, n, .inl f))]) hx hb hK (fun j q h => by
    match j, h with
    | 0, h => cases h; exact ho
    | n + 1, h => simp at h) 0 0 rfl rfl hin hdg kk
theorem x_zald (hx : p.tables.exec = Jvm.exec) (hb : c.code = cc) (hK : Kt dC dI s) {n : Nat} {f : Nat → Int32} (ho : iat dC dI a 7 n f H) {i : Int32} (hin : vp_in i n) (hdg : decode cc pc = .ok (.baload, 1))
    (kk : W p l e R s m args below meth c H locs cells slots Q (F0 m (pc + 1) ls (.int (f i.toNatClampNeg) :: rest))) : W p l e R s m args below meth c H locs cells slots Q (F0 m pc ls (.int i :: .ref a :: rest)) :=
  va_zald (D := (dC, dI)) (cl := vwCl) (ws := [(a, .inl (dC 7, n, .inl f))]) hx hb hK (fun j q h => by
    match j, h with
    | 0, h => cases h; exact ho
    | n + 1, h => simp at h) 0 1 rfl rfl hin hdg kk
theorem x_iast (hx : p.tables.exec = Jvm.exec) (hb : c.code = cc) (hK : Kt dC dI s) (hS : va_S A H0 H locs) (hA : A a) {n : Nat} {f : Nat → Int32} (ho : iat dC dI a 6 n f H) {i x : Int32} (hin : vp_in i n) (hdg : decode cc pc = .ok (.iastore, 1))
    (kk : ∀ (H1 : Heap) (locs1 : List Loc), iat dC dI a 6 n (upd f i.toNatClampNeg x) H1 → One a H H1 → va_S A H0 H1 locs1 → W p l e R s m args below meth c H1 locs1 cells slots Q (F0 m (pc + 1) ls rest)) : W p l e R s m args below meth c H locs cells slots Q (F0 m pc ls (.int x :: .int i :: .ref a :: rest)) := by
  refine W.iast hx hb ho ((hK.2 0 _ rfl).1 n (fun j => .int (f j))) (fun q => by cases q) (by show ¬ (i < 0 ∨ (arrV _ _ _).slots.size ≤ _); rw [arrV_size]; exact hin) rfl rfl hdg fun H1 e z oq => ?_
  refine kk H1 _ ?_ (One.of ho e z oq) (hS.put z oq hA)
  show H1[a]? = some (vp_cell _ _)
  rw [e]
  rw [vp_cell_i, vp_cell_i, arrV_store]
  congr 2
  funext q
  by_cases hq : q = i.toNatClampNeg
  · subst hq
    simp [updV, upd]
  · simp [updV, upd, hq]
theorem x_zast (hx : p.tables.exec = Jvm.exec) (hb : c.code = cc) (hK : Kt dC dI s) (hS : va_S A H0 H locs) (hA : A a) {n : Nat} {f : Nat → Int32} (ho : iat dC dI a 7 n f H) {i x : Int32} (hin : vp_in i n) (hdg : decode cc pc = .ok (.bastore, 1))
    (kk : ∀ (H1 : Heap) (locs1 : List Loc), iat dC dI a 7 n (upd f i.toNatClampNeg (vp_nar .boolean x)) H1 → One a H H1 → va_S A H0 H1 locs1 → W p l e R s m args below meth c H1 locs1 cells slots Q (F0 m (pc + 1) ls rest)) : W p l e R s m args below meth c H locs cells slots Q (F0 m pc ls (.int x :: .int i :: .ref a :: rest)) := by
  refine W.zast hx hb ho ((hK.2 1 _ rfl).1 n (fun j => .int (f j))) (fun q => by cases q) (by show ¬ (i < 0 ∨ (arrV _ _ _).slots.size ≤ _); rw [arrV_size]; exact hin) rfl rfl hdg fun H1 e z oq => ?_
  refine kk H1 _ ?_ (One.of ho e z oq) (hS.put z oq hA)
  show H1[a]? = some (vp_cell _ _)
  rw [e]
  rw [vp_cell_i, vp_cell_i, arrV_store]
  congr 2
  funext q
  by_cases hq : q = i.toNatClampNeg
  · subst hq
    simp [updV, upd, vp_nar]
    try rfl
  · simp [updV, upd, hq]
end B10
