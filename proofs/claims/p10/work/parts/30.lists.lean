/-! what the lists of the library stand on -/
/-- the empty row of ArrayList, and what the rows of objects need -/
def pzS (z : Nat) (A : Nat → Prop) (U : State) (H : Heap) : Prop := va_Z "java/util/ArrayList" "DEFAULTCAPACITY_EMPTY_ELEMENTDATA" "[Ljava/lang/Object;" (.ref z) A U H ∧ va_T (.object "java/lang/Object") z 0 (fun _ => .null) A U H ∧ va_AO "java/lang/Object" U ∧ va_Nw (.castable "FrontDoor$Server" "java/lang/Object") U ∧ va_Nw (.castable "FrontDoor$Call" "java/lang/Object") U
/-- an object that is put into a row -/
def pzE (q : Nat) (A : Nat → Prop) (U : State) (H : Heap) : Prop := ∃ C : String, va_Nw (.castable C "java/lang/Object") U ∧ (∃ cell : Cell, H[q]? = some cell ∧ cell.vm.isStatics = false ∧ U.vm.findClass C = some cell.cls) ∧ ¬ A q
theorem pz_Ssame {z : Nat} {A : Nat → Prop} {u U : State} (hvm : u.vm = U.vm) {H : Heap} (h : pzS z A u H) : pzS z A U H := by
  have ha : u.vm.Alike U.vm := by rw [hvm]; exact Vm.Alike.refl _
  exact ⟨h.1.moved ha, h.2.1.moved ha, h.2.2.1.moved ha, va_Nw.same rfl hvm h.2.2.2.1, va_Nw.same rfl hvm h.2.2.2.2⟩
theorem pz_Esame {q : Nat} {A : Nat → Prop} {u U : State} (hvm : u.vm = U.vm) {H : Heap} (h : pzE q A u H) : pzE q A U H := by
  obtain ⟨C, h1, h2, h3⟩ := h
  exact ⟨C, va_Nw.same rfl hvm h1, by rw [← hvm]; exact h2, h3⟩
theorem pz_Zat {z : Nat} {A A1 : Nat → Prop} {s U : State} {H : Heap} {locs : List Loc} (hZ : pzS z A s s.heap) (hS : va_S A s.heap H locs) (hF : ∀ q, A1 q → A q) (hU : U.heap = H) (hW : s.WarmedH U.vm) : pzS z A1 U U.heap := by
  rw [hU]
  exact ⟨((hZ.1.kept hS.2.1).narrow hF).moved hW.alike, ((hZ.2.1.kept hS.2.1).narrow hF).moved hW.alike, hZ.2.2.1.moved hW.alike, va_Nw.warmC hW hZ.2.2.2.1, va_Nw.warmC hW hZ.2.2.2.2⟩
theorem pz_Ekept {q : Nat} {A : Nat → Prop} {s : State} {H : Heap} {locs : List Loc} (hE : pzE q A s s.heap) (hS : va_S A s.heap H locs) : pzE q A s H := by
  obtain ⟨C, h1, ⟨cell, h2, h3⟩, h4⟩ := hE
  have hl : q < s.heap.size := (Array.getElem?_eq_some_iff.mp h2).1
  exact ⟨C, h1, ⟨cell, by rw [hS.2.1 q hl h4]; exact h2, h3⟩, h4⟩
theorem pz_Eat {q : Nat} {A A1 : Nat → Prop} {s U : State} {H : Heap} (hE : pzE q A s H) (hF : ∀ q, A1 q → A q) (hU : U.heap = H) (hW : s.WarmedH U.vm) : pzE q A1 U U.heap := by
  obtain ⟨C, h1, ⟨cell, h2, h3, h5⟩, h4⟩ := hE
  rw [hU]
  exact ⟨C, va_Nw.warmC hW h1, ⟨cell, h2, h3, by rw [hW.alike.findClass]; exact h5⟩, fun h => h4 (hF q h)⟩
theorem pzE.at {q : Nat} {A : Nat → Prop} {s : State} {H : Heap} (hE : pzE q A s H) : va_Any "java/lang/Object" s H q := by
  obtain ⟨C, h1, ⟨cell, h2, h3, h5⟩, h4⟩ := hE
  obtain ⟨kC, hkC, -⟩ := Vm.findClass_spec h5
  exact ⟨cell, h2, h3, ⟨kC, hkC⟩, fun comp h => vb_asgC h1 comp _ h h5⟩
def KL (dC : Nat → ClassId) (dI : Nat → Nat → Nat) (z mi : Nat) (A : Nat → Prop) (n : Nat) (f : Nat → Option Nat) (x : Nat) (U : State) : Prop := Kt dC dI U ∧ pzS z A U U.heap ∧ (va_Mi "[Ljava/lang/Object;" mi U ∧ va_Dc U) ∧ (∀ t, t < n → ∀ r, f t = some r → pzE r A U U.heap) ∧ pzE x A U U.heap
theorem KL.blind {dC : Nat → ClassId} {dI : Nat → Nat → Nat} {z mi n x : Nat} {A : Nat → Prop} {f : Nat → Option Nat} : Blind (KL dC dI z mi A n f x) := fun U U2 h1 h2 h => by
  obtain ⟨a, b, c, d, e⟩ := h
  unfold KL
  rw [h1]
  exact ⟨Kt.blind U U2 h1 h2 a, pz_Ssame h2.symm b, ⟨c.1.moved (by rw [h2]; exact Vm.Alike.refl _), c.2.moved (by rw [h2]; exact Vm.Alike.refl _)⟩, fun t ht r hr => pz_Esame h2.symm (d t ht r hr), pz_Esame h2.symm e⟩
theorem KL.at {dC : Nat → ClassId} {dI : Nat → Nat → Nat} {z mi n x : Nat} {A : Nat → Prop} {f : Nat → Option Nat} {s : State} {H : Heap} {locs : List Loc} (h : KL dC dI z mi A n f x s) (hS : va_S A s.heap H locs) : ∀ U : State, U.heap = H → s.WarmedH U.vm → KL dC dI z mi A n f x U := fun U hU hW =>
  ⟨va_K.moved hW.alike h.1, pz_Zat h.2.1 hS (fun _ q => q) hU hW, ⟨h.2.2.1.1.moved hW.alike, h.2.2.1.2.moved hW.alike⟩, fun t ht r hr => pz_Eat (pz_Ekept (h.2.2.2.1 t ht r hr) hS) (fun _ q => q) hU hW, pz_Eat (pz_Ekept h.2.2.2.2 hS) (fun _ q => q) hU hW⟩
theorem Kt.nq {dC : Nat → ClassId} {dI : Nat → Nat → Nat} {s : State} {cA : ClassId} (h : Kt dC dI s) (h2 : va_K (dC, dI) vwCl ([(dC 6, .int), (dC 7, .boolean), (dC 8, .object "java/lang/Object")] ++ [(cA, .object "java/lang/Object")]) s) : cA = dC 8 := by
  obtain ⟨-, kA, comp, h1, h3, h4, h5⟩ := h2.2 3 _ rfl
  exact Option.some.inj (h5.symm.trans (h.name 8 (by decide)))
section B30
variable {p : Program} {l : Launch} {e : Env} {R : Room} {s : State} {m : MethodId} {args : Array Value} {below : List Frame} {meth : Method} {c : Code} {H : Heap} {locs : List Loc} {cells slots : Nat} {Q : State → Prop}
/-- what the frame says of the cells that were there -/
theorem W.learn {g : JFrame} (kk : (∀ (x : Nat) (c0 : Cell), s.heap[x]? = some c0 → ∃ c1 : Cell, H[x]? = some c1 ∧ c1.slots.size = c0.slots.size) → H.size ≤ s.heap.size + cells → sls H s.heap.size ≤ slots → W p l e R s m args below meth c H locs cells slots Q g) : W p l e R s m args below meth c H locs cells slots Q g := by
  intro T hT X
  obtain ⟨a1, a2, a3, a4, a5, a6⟩ := X.same
  refine kk (fun x c0 h => ?_) (by rw [← hT]; exact a3) (by rw [← hT]; exact a5) T hT X
  obtain ⟨c1, h1, h2, h3, -⟩ := a6 x c0 h
  exact ⟨c1, by rw [← hT]; exact h1, h3⟩
end B30
/-- every cell from b on has at most 610 slots -/
def Sz (b : Nat) (H : Heap) : Prop := ∀ (x : Nat) (c : Cell), b ≤ x → H[x]? = some c → c.slots.size ≤ 610
theorem le_sum9 : ∀ {l : List Nat} {a : Nat}, a ∈ l → a ≤ l.sum
  | [], a, h => absurd h List.not_mem_nil
  | b :: l, a, h => by
    rw [List.sum_cons]
    rcases List.mem_cons.mp h with e | e
    · omega
    · have := le_sum9 e; omega
theorem sls_one {H : Heap} {n x : Nat} {c : Cell} (hx : n ≤ x) (h : H[x]? = some c) : c.slots.size ≤ sls H n := by
  unfold sls
  have h1 : c ∈ H.toList.drop n := by
    rw [List.mem_iff_getElem?]
    exact ⟨x - n, by rw [List.getElem?_drop, show n + (x - n) = x by omega, Array.getElem?_toList]; exact h⟩
  have h2 : c.slots.size ∈ (H.toList.drop n).map (fun c => c.slots.size) := List.mem_map.mpr ⟨c, h1, rfl⟩
  exact le_sum9 h2
theorem Sz.of {b : Nat} {H0 H : Heap} (h : Sz b H0) (h1 : ∀ (x : Nat) (c0 : Cell), H0[x]? = some c0 → ∃ c1 : Cell, H[x]? = some c1 ∧ c1.slots.size = c0.slots.size) (h2 : sls H H0.size ≤ 610) : Sz b H := by
  intro x c hx hc
  rcases Nat.lt_or_ge x H0.size with q | q
  · obtain ⟨c1, e1, e2⟩ := h1 x H0[x] (by simp [q])
    have e3 : c1 = c := Option.some.inj (e1.symm.trans hc)
    rw [← e3, e2]
    exact h x _ hx (by simp [q])
  · exact Nat.le_trans (sls_one q hc) h2
theorem pz_max {b d : Nat} (hb : b < 2147483648) (hd : d < 2147483648) : (if nI b < nI d then nI d else nI b) = nI (max b d) := by
  by_cases h : b < d
  · rw [if_pos ((nI_ltI (by omega) (by omega)).mpr h), Nat.max_eq_right (by omega)]
  · rw [if_neg (fun q => h ((nI_ltI (by omega) (by omega)).mp q)), Nat.max_eq_left (by omega)]
theorem pz_min {x y : Nat} (hx : x < 2147483648) (hy : y < 2147483648) : (if nI y < nI x then nI y else nI x) = nI (min x y) := by
  by_cases h : y < x
  · rw [if_pos ((nI_ltI (by omega) (by omega)).mpr h), Nat.min_eq_right (by omega)]
  · rw [if_neg (fun q => h ((nI_ltI (by omega) (by omega)).mp q)), Nat.min_eq_left (by omega)]
theorem pz_shr1 {n : Nat} (h : n < 2147483648) : nI n >>> ((1 : Int32) &&& 31) = nI (n / 2) := pk_shrN (n := n) (by omega) _ 1 (by decide)
theorem va_P2 {dC : Nat → ClassId} {dI : Nat → Nat → Nat} {q e : Nat} {x y : va_E} {H : Heap} (h1 : va_at (dC, dI) vwCl (q, x) H) (h2 : va_at (dC, dI) vwCl (e, y) H) : va_P (dC, dI) vwCl [(q, x), (e, y)] H := fun j r h => by
  match j, h with
  | 0, h => cases h; exact h1
  | 1, h => cases h; exact h2
  | n + 2, h => simp at h
theorem va_P1 {dC : Nat → ClassId} {dI : Nat → Nat → Nat} {q : Nat} {x : va_E} {H : Heap} (h1 : va_at (dC, dI) vwCl (q, x) H) : va_P (dC, dI) vwCl [(q, x)] H := fun j r h => by
  match j, h with
  | 0, h => cases h; exact h1
  | n + 1, h => simp at h
theorem va_D2 {A : Nat → Prop} {q e : Nat} {x y : va_E} (h1 : A q) (h2 : A e) (hne : q ≠ e) : va_D A [(q, x), (e, y)] := by
  refine ⟨fun i j p r hi hj hpr => ?_, fun k r h => ?_⟩
  · match i, j, hi, hj with
    | 0, 0, _, _ => rfl
    | 1, 1, _, _ => rfl
    | 0, 1, hi, hj => cases hi; cases hj; exact absurd hpr hne
    | 1, 0, hi, hj => cases hi; cases hj; exact absurd hpr.symm hne
    | i + 2, _, hi, _ => simp at hi
    | 0, j + 2, _, hj => simp at hj
    | 1, j + 2, _, hj => simp at hj
  · match k, h with
    | 0, h => cases h; exact h1
    | 1, h => cases h; exact h2
    | k + 2, h => simp at h
theorem va_D1 {A : Nat → Prop} {q : Nat} {x : va_E} (h1 : A q) : va_D A [(q, x)] := by
  refine ⟨fun i j p r hi hj hpr => ?_, fun k r h => ?_⟩
  · match i, j, hi, hj with
    | 0, 0, _, _ => rfl
    | i + 1, _, hi, _ => simp at hi
    | 0, j + 1, _, hj => simp at hj
  · match k, h with
    | 0, h => cases h; exact h1
    | k + 1, h => simp at h
theorem vu_s {α : Type} {f : Nat → α} {k : Nat} {v : α} : va_up f k v k = v := if_pos rfl
theorem vu_n {α : Type} {f : Nat → α} {k j : Nat} {v : α} (h : j ≠ k) : va_up f k v j = f j := if_neg h
