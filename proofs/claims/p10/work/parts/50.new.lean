section B49
variable {p : Program} {l : Launch} {e : Env} {R : Room} {s : State} {m : MethodId} {args : Array Value} {below : List Frame} {meth : Method} {c : Code} {H : Heap} {locs : List Loc} {cells slots : Nat} {Q : State → Prop}
variable {cc : ByteArray} {pc : Nat} {ls : Array Slot} {rest : List Value} {dC : Nat → ClassId} {dI : Nat → Nat → Nat} {A : Nat → Prop} {H0 : Heap} {Ts : List Cond}
/-- a new object: the heap's last cell, all else as it was -/
theorem x_new {own C : String} {T : u_T} {N ci index : Nat} (hx : p.tables.exec = Jvm.exec) (hb : c.code = cc) (hts : ∀ w ∈ Ts, w.before args s = true) (hin : ∀ w ∈ u_ws C T N, w ∈ Ts) (ty : Nat → FieldType) (hty : ∀ k, k < N → parseFieldDescriptor (T k).2.2.1 = some (ty k)) (hown : s.vm.findClass own = some m.cls) (hcl : (Cond.classLink own index C).before args s = true) (hinst : (Cond.instantiable C N).before args s = true) (hini : (Cond.initialized C).before args s = true)
    (hK : Kt dC dI s) (hS : va_S A H0 H locs) (hc : vwCl[ci]? = some (C, T, N)) {fs : List Value} (hfs : ∀ j, j < N → defaultValue (ty j) = vp_V fs j) (hcells : cells + 1 ≤ R.cells) (hslots : slots + N ≤ R.slots) (hdg : decode cc pc = .ok (.new index, 3))
    (kk : ∀ H1 : Heap, oat dC dI H.size ci fs H1 → H1.size = H.size + 1 → (∀ y : Nat, y < H.size → H1[y]? = H[y]?) → (∀ c9 : Cell, H1[H.size]? = some c9 → c9.slots.size = N) → va_S A H0 H1 locs → W p l e R s m args below meth c H1 locs (cells + 1) (slots + N) Q (F0 m (pc + 3) ls (.ref H.size :: rest))) : W p l e R s m args below meth c H locs cells slots Q (F0 m pc ls rest) := by
  have hKn := hK.1 ci _ hc
  refine W.newc hx hb hown hcl hinst hini rfl hdg hcells hslots fun cC kC h1 h2 h3 h4 => ?_
  cases hKn.2.1.symm.trans h1
  have e1 : (H.push { cls := dC ci, slots := kC.instanceTypes.map defaultValue, vm := .none })[H.size]? = some (blank (dC ci) kC) := by simp [blank]
  have z1 : (H.push { cls := dC ci, slots := kC.instanceTypes.map defaultValue, vm := .none } : Heap).size = H.size + 1 := by simp
  have o1 : ∀ y : Nat, y < H.size → (H.push { cls := dC ci, slots := kC.instanceTypes.map defaultValue, vm := .none } : Heap)[y]? = H[y]? := fun y hy => by
    rw [Array.getElem?_push, if_neg (Nat.ne_of_lt hy)]
  refine kk _ ⟨_, hc, (u_born ty hts hin hKn h2 e1 hty).to hfs⟩ z1 o1 (fun c9 h9 => ?_) ⟨Nat.le_trans hS.1 (Nat.le_trans (Nat.le_succ _) (Nat.le_of_eq z1.symm)), fun x h1 h2 => (o1 x (Nat.lt_of_lt_of_le h1 hS.1)).trans (hS.2.1 x h1 h2), hS.2.2⟩
  cases e1.symm.trans h9
  show (kC.instanceTypes.map defaultValue).size = N
  rw [Array.size_map]
  exact h4
end B49
section B49b
variable {dC : Nat → ClassId} {dI : Nat → Nat → Nat} {z : Nat} {A : Nat → Prop} {bs cp h0 : Nat} {la sA cA : Nat → Nat} {ns nc : Nat} {dr : Nat → Prop} {X : Nat → Int32} {P : Nat → Prop} {tr : Nat → Int32} {nl nq rs : Nat} {H H1 : Heap}
theorem Cw.kp (h : Cw dC dI z A bs cp h0 la sA cA ns nc dr X P tr nl nq rs H) (kp : Kp dC (fun _ => True) A H H1) {rs1 : Nat} (hs : Sz bs H1 ∧ H1.size + rs1 ≤ cp ∧ ∀ y, H1.size ≤ y → A y) : Cw dC dI z A bs cp h0 la sA cA ns nc dr X P tr nl nq rs1 H1 := by
  obtain ⟨a, b, c, d, e, -, i⟩ := h
  exact ⟨a.kept kp trivial trivial, b.kept kp trivial trivial, c.kept kp trivial, d.kept kp trivial, e.kept kp trivial, hs, i⟩
theorem Kp.fresh (h : ∀ y : Nat, y < H.size → H1[y]? = H[y]?) : Kp dC (fun _ => True) A H H1 := fun y _ _ _ _ hc => by
  obtain ⟨cell, h1, -⟩ := hc
  exact h y (Array.getElem?_eq_some_iff.mp h1).1
theorem Sz.fresh {b N : Nat} (h : Sz b H) (hz : H1.size = H.size + 1) (ho : ∀ y : Nat, y < H.size → H1[y]? = H[y]?) (hc : ∀ c9 : Cell, H1[H.size]? = some c9 → c9.slots.size = N) (hN : N ≤ 610) : Sz b H1 := fun x c9 hx h9 => by
  have hl : x < H1.size := (Array.getElem?_eq_some_iff.mp h9).1
  rcases Nat.lt_or_ge x H.size with q | q
  · rw [ho x q] at h9; exact h x c9 hx h9
  · have e : x = H.size := by omega
    rw [e] at h9
    rw [hc c9 h9]
    exact hN
end B49b
