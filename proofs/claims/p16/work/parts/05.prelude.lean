/-! plain facts -/
theorem pz_lt {x y : Int32} (h : x < y) : x.toInt < y.toInt := Int32.lt_iff_toInt_lt.mp h
theorem pz_nlt {x y : Int32} (h : ¬ x < y) : y.toInt ≤ x.toInt := Int.not_lt.mp (fun q => h (Int32.lt_iff_toInt_lt.mpr q))
theorem pz_le {x y : Int32} (h : x ≤ y) : x.toInt ≤ y.toInt := Int32.le_iff_toInt_le.mp h
theorem pz_nle {x y : Int32} (h : ¬ x ≤ y) : y.toInt < x.toInt := Int.not_le.mp (fun q => h (Int32.le_iff_toInt_le.mpr q))
theorem pz_ge {x y : Int32} (h : y ≤ x) : y.toInt ≤ x.toInt := pz_le h
theorem pz_nge {x y : Int32} (h : ¬ y ≤ x) : x.toInt < y.toInt := pz_nle h
theorem pz_gt {x y : Int32} (h : y < x) : y.toInt < x.toInt := pz_lt h
theorem pz_ngt {x y : Int32} (h : ¬ y < x) : x.toInt ≤ y.toInt := pz_nlt h
theorem pz_eq {x y : Int32} (h : x = y) : x.toInt = y.toInt := congrArg Int32.toInt h
theorem pz_neq {x y : Int32} (h : ¬ x = y) : ¬ x.toInt = y.toInt := fun q => h (Int32.toInt_inj.mp q)
theorem pz_nne {x y : Int32} (h : ¬ ¬ x = y) : x.toInt = y.toInt := congrArg Int32.toInt (Classical.not_not.mp h)
theorem pz_id {a : Prop} (h : a) : a := h
theorem pz_case {x : Int32} {n : Nat} (h : ¬ (x.toInt < 0 ∨ (n : Int) < x.toInt)) (hn : n < 2 ^ 31) : ∃ j : Nat, j ≤ n ∧ x = nI j := by
  have h0 : ¬ x < 0 := fun q => h (Or.inl (pz_lt q))
  obtain ⟨j, hj, e⟩ := nI_of h0
  refine ⟨j, ?_, e⟩
  have e2 : x.toInt = (j : Int) := by rw [e]; exact nI_toInt hj
  omega
theorem pz_nI {x : Int32} {n : Nat} (h : 0 ≤ x.toInt) (h2 : x.toInt ≤ (n : Int)) (hn : n < 2 ^ 31 := by decide) : ∃ N : Nat, N ≤ n ∧ x = nI N := pz_case (fun q => by omega) hn
theorem pz_cases18 {x : Int32} (h : ¬ (x.toInt < 0 ∨ 17 < x.toInt)) : x = 0 ∨ x = 1 ∨ x = 2 ∨ x = 3 ∨ x = 4 ∨ x = 5 ∨ x = 6 ∨ x = 7 ∨ x = 8 ∨ x = 9 ∨ x = 10 ∨ x = 11 ∨ x = 12 ∨ x = 13 ∨ x = 14 ∨ x = 15 ∨ x = 16 ∨ x = 17 := by
  obtain ⟨j, hj, e⟩ := pz_case (n := 17) h (by decide)
  subst e
  have hh : ∀ j : Nat, j < 18 → (nI j = 0 ∨ nI j = 1 ∨ nI j = 2 ∨ nI j = 3 ∨ nI j = 4 ∨ nI j = 5 ∨ nI j = 6 ∨ nI j = 7 ∨ nI j = 8 ∨ nI j = 9 ∨ nI j = 10 ∨ nI j = 11 ∨ nI j = 12 ∨ nI j = 13 ∨ nI j = 14 ∨ nI j = 15 ∨ nI j = 16 ∨ nI j = 17) := by decide +kernel
  exact hh j (by omega)
theorem pz_in10 {x y : Int32} (e : y = x - 10) (h1 : 11 ≤ x.toInt) (h2 : x.toInt ≤ 16) : vp_in y 7 := by
  have h0 : ¬ x < 0 := fun q => by have := pz_lt q; have h9 : (0 : Int32).toInt = 0 := by decide
                                   omega
  obtain ⟨j, hj, ej⟩ := nI_of h0
  have e2 : x.toInt = (j : Int) := by rw [ej]; exact nI_toInt hj
  have e3 : y = nI (j - 10) := by rw [e, ej]; exact pk_sub (a := j) (b := 10) (by omega)
  rw [e3]
  exact vp_in_nI (by omega) (by decide)
/-! the world at a method's beginning -/
def pzPre (D : va_G) (cl : List vw_C) (W : va_W) (tys : List (ClassId × FieldType)) (sz : Nat) (U : State) : Prop := U.heap.size = sz ∧ va_P D cl W U.heap ∧ va_K D cl tys U ∧ va_D (fun _ => True) W
/-- the empty row of ArrayList, and what the rows of objects need -/
def pzS (z : Nat) (A : Nat → Prop) (U : State) (H : Heap) : Prop := va_Z "java/util/ArrayList" "DEFAULTCAPACITY_EMPTY_ELEMENTDATA" "[Ljava/lang/Object;" (.ref z) A U H ∧ va_T (.object "java/lang/Object") z 0 (fun _ => .null) A U H ∧ va_AO "java/lang/Object" U ∧ va_Nw (.castable "FrontDoor$Server" "java/lang/Object") U ∧ va_Nw (.castable "FrontDoor$Call" "java/lang/Object") U
/-- an object that is put into a row -/
def pzE (q : Nat) (A : Nat → Prop) (U : State) (H : Heap) : Prop := ∃ C : String, va_Nw (.castable C "java/lang/Object") U ∧ (∃ cell : Cell, H[q]? = some cell ∧ cell.vm.isStatics = false ∧ U.vm.findClass C = some cell.cls) ∧ ¬ A q
def pzPreZ (D : va_G) (cl : List vw_C) (W : va_W) (tys : List (ClassId × FieldType)) (sz z : Nat) (U : State) : Prop := pzPre D cl W tys sz U ∧ pzS z (va_A W sz) U U.heap
def pzPreE (D : va_G) (cl : List vw_C) (W : va_W) (tys : List (ClassId × FieldType)) (sz z q : Nat) (U : State) : Prop := pzPre D cl W tys sz U ∧ pzS z (va_A W sz) U U.heap ∧ pzE q (va_A W sz) U U.heap
theorem pz_blind {av : List Value} {D : va_G} {cl : List vw_C} {W : va_W} {tys : List (ClassId × FieldType)} {sz : Nat} : FrameBlind (va_Pc av (pzPre D cl W tys sz)) := fun a U g mk q => by
  obtain ⟨q0, q1, qP, qK, qD⟩ := q
  exact ⟨q0, q1, qP, va_K.moved (u := U) (U := U.calling g mk a) (Vm.Alike.refl U.vm) qK, qD⟩
theorem pz_Ssame {z : Nat} {A : Nat → Prop} {u U : State} (hvm : u.vm = U.vm) {H : Heap} (h : pzS z A u H) : pzS z A U H := by
  have ha : u.vm.Alike U.vm := by rw [hvm]; exact Vm.Alike.refl _
  exact ⟨h.1.moved ha, h.2.1.moved ha, h.2.2.1.moved ha, va_Nw.same rfl hvm h.2.2.2.1, va_Nw.same rfl hvm h.2.2.2.2⟩
theorem pz_Esame {q : Nat} {A : Nat → Prop} {u U : State} (hvm : u.vm = U.vm) {H : Heap} (h : pzE q A u H) : pzE q A U H := by
  obtain ⟨C, h1, h2, h3⟩ := h
  exact ⟨C, va_Nw.same rfl hvm h1, by rw [← hvm]; exact h2, h3⟩
theorem pz_blindZ {av : List Value} {D : va_G} {cl : List vw_C} {W : va_W} {tys : List (ClassId × FieldType)} {sz z : Nat} : FrameBlind (va_Pc av (pzPreZ D cl W tys sz z)) := fun a U g mk q => by
  obtain ⟨q0, ⟨q1, qP, qK, qD⟩, qZ⟩ := q
  exact ⟨q0, ⟨q1, qP, va_K.moved (u := U) (U := U.calling g mk a) (Vm.Alike.refl U.vm) qK, qD⟩, pz_Ssame (u := U) (U := U.calling g mk a) rfl qZ⟩
theorem pz_blindE {av : List Value} {D : va_G} {cl : List vw_C} {W : va_W} {tys : List (ClassId × FieldType)} {sz z x : Nat} : FrameBlind (va_Pc av (pzPreE D cl W tys sz z x)) := fun a U g mk q => by
  obtain ⟨q0, ⟨q1, qP, qK, qD⟩, qZ, qE⟩ := q
  exact ⟨q0, ⟨q1, qP, va_K.moved (u := U) (U := U.calling g mk a) (Vm.Alike.refl U.vm) qK, qD⟩, pz_Ssame (u := U) (U := U.calling g mk a) rfl qZ, pz_Esame (u := U) (U := U.calling g mk a) rfl qE⟩
theorem pz_at {D : va_G} {cl : List vw_C} {W : va_W} {tys : List (ClassId × FieldType)} {H : Heap} {B : Nat → Prop} {s U : State} (hP : va_P D cl W H) (hK : va_K D cl tys s) (hD : va_D B W) (hU : U.heap = H) (hW : s.WarmedH U.vm) : pzPre D cl W tys H.size U := ⟨by rw [hU], by rw [hU]; exact hP, va_K.moved hW.alike hK, hD.weaken (fun _ _ _ _ => trivial)⟩
theorem pz_f {A0 : Nat → Prop} {H0 H : Heap} {locs : List Loc} (hA : ∀ q : Nat, H0.size ≤ q → A0 q) (hS : va_S A0 H0 H locs) : ∀ q, va_A [] H.size q → A0 q := by
  intro q h
  rcases h with ⟨k, e, h⟩ | h
  · simp at h
  · exact hA q (Nat.le_trans hS.1 h)
theorem pz_keep {D : va_G} {cl : List vw_C} {W : va_W} {H H1 : Heap} (hP : va_P D cl W H) (hk : ∀ q : Nat, q < H.size → ¬ va_A [] H.size q → H1[q]? = H[q]?) : va_P D cl W H1 := by
  refine hP.kept (fun k q h => ?_)
  have hl := (hP k q h).lt
  refine hk q.1 hl (fun h9 => ?_)
  rcases h9 with ⟨k, e, h⟩ | h
  · simp at h
  · exact absurd h (Nat.not_le.mpr hl)
theorem pz_nilP {D : va_G} {cl : List vw_C} {H : Heap} : va_P D cl [] H := fun k q h => by simp at h
theorem pz_nilD {A : Nat → Prop} : va_D A [] := ⟨fun i j p q h => by simp at h, fun k q h => by simp at h⟩
theorem pz_Zat {z : Nat} {A : Nat → Prop} {s U : State} {H : Heap} {locs : List Loc} {W : va_W} (hZ : pzS z A s s.heap) (hS : va_S A s.heap H locs) (hF : ∀ q, va_A W H.size q → A q) (hU : U.heap = H) (hW : s.WarmedH U.vm) : pzS z (va_A W H.size) U U.heap := by
  rw [hU]
  exact ⟨((hZ.1.kept hS.2.1).narrow hF).moved hW.alike, ((hZ.2.1.kept hS.2.1).narrow hF).moved hW.alike, hZ.2.2.1.moved hW.alike, va_Nw.warmC hW hZ.2.2.2.1, va_Nw.warmC hW hZ.2.2.2.2⟩
theorem pz_Ekept {q : Nat} {A : Nat → Prop} {s : State} {H : Heap} {locs : List Loc} (hE : pzE q A s s.heap) (hS : va_S A s.heap H locs) : pzE q A s H := by
  obtain ⟨C, h1, ⟨cell, h2, h3⟩, h4⟩ := hE
  have hl : q < s.heap.size := (Array.getElem?_eq_some_iff.mp h2).1
  exact ⟨C, h1, ⟨cell, by rw [hS.2.1 q hl h4]; exact h2, h3⟩, h4⟩
theorem pz_Eat {q : Nat} {A : Nat → Prop} {s U : State} {H : Heap} {locs : List Loc} {W : va_W} (hE : pzE q A s s.heap) (hS : va_S A s.heap H locs) (hF : ∀ q, va_A W H.size q → A q) (hU : U.heap = H) (hW : s.WarmedH U.vm) : pzE q (va_A W H.size) U U.heap := by
  obtain ⟨C, h1, ⟨cell, h2, h3, h5⟩, h4⟩ := pz_Ekept hE hS
  rw [hU]
  exact ⟨C, va_Nw.warmC hW h1, ⟨cell, h2, h3, by rw [hW.alike.findClass]; exact h5⟩, fun h => h4 (hF q h)⟩
theorem pzE.at {q : Nat} {A : Nat → Prop} {s : State} {H : Heap} {locs : List Loc} (hE : pzE q A s s.heap) (hS : va_S A s.heap H locs) : va_Any "java/lang/Object" s H q := by
  obtain ⟨C, h1, ⟨cell, h2, h3, h5⟩, h4⟩ := pz_Ekept hE hS
  obtain ⟨kC, hkC, -⟩ := Vm.findClass_spec h5
  exact ⟨cell, h2, h3, ⟨kC, hkC⟩, fun comp h => vb_asgC h1 comp _ h h5⟩
theorem pz_rAny {D : va_G} {cl : List vw_C} {W : va_W} {tys : List (ClassId × FieldType)} {H : Heap} {s : State} {a q0 ci : Nat} {fs : List Value} {r : vw_C} (hK : va_K D cl tys s) (hP : va_P D cl W H) (he : W[q0]? = some (a, .inr (ci, fs))) (hc : cl[ci]? = some r) (hca : va_Nw (.castable r.1 "java/lang/Object") s) : pzE a (fun _ => False) s H := by
  obtain ⟨cell, h1, h2, h3⟩ := va_recv hK hP hc he
  exact ⟨r.1, hca, ⟨cell, h1, h2, h3⟩, fun h => h⟩
theorem pz_notA {D : va_G} {cl : List vw_C} {W wc : va_W} {B : Nat → Prop} {H : Heap} {a : Nat} {x : va_E} (hP : va_P D cl W H) (hD : va_D B W) (q0 : Nat) (is : List Nat) (he : W[q0]? = some (a, x)) (hC : is.map (fun i => W[i]?) = wc.map some) (hn : q0 ∉ is) : ¬ va_A wc H.size a := by
  rintro (⟨k, e, h⟩ | h)
  · have hk : k < wc.length := by
      rcases Nat.lt_or_ge k wc.length with q | q
      · exact q
      · rw [List.getElem?_eq_none q] at h; cases h
    have hl : is.length = wc.length := by have := congrArg List.length hC; simpa using this
    have h1 : (wc.map some)[k]? = some (some (a, e)) := by rw [List.getElem?_map, h]; rfl
    rw [← hC, List.getElem?_map] at h1
    cases hi : is[k]? with
    | none => rw [hi] at h1; cases h1
    | some i =>
      rw [hi] at h1
      have h2 : W[i]? = some (a, e) := by simpa using h1
      have h3 := hD.1 i q0 _ _ h2 he rfl
      exact hn (h3 ▸ List.mem_of_getElem? hi)
  · exact absurd h (Nat.not_le.mpr (hP q0 _ he).lt)
theorem pz_Enew {q : Nat} {W : va_W} {s U : State} {H : Heap} (hE : pzE q (fun _ => False) s H) (hn : ¬ va_A W H.size q) (hU : U.heap = H) (hW : s.WarmedH U.vm) : pzE q (va_A W H.size) U U.heap := by
  obtain ⟨C, h1, ⟨cell, h2, h3, h5⟩, -⟩ := hE
  rw [hU]
  exact ⟨C, va_Nw.warmC hW h1, ⟨cell, h2, h3, by rw [hW.alike.findClass]; exact h5⟩, hn⟩
