theorem pz_ixof {x : Int32} {n : Nat} (h : 0 ≤ x.toInt) (h2 : x.toInt < (nI n).toInt) (hn : n < 2 ^ 31) : ∃ j : Nat, j < n ∧ x = nI j := by
  have h0 : ¬ x < 0 := fun q => by
    have h8 := pz_lt q
    have h9 : (0 : Int32).toInt = 0 := by decide
    omega
  obtain ⟨j, hj, e⟩ := nI_of h0
  refine ⟨j, ?_, e⟩
  have e2 : x.toInt = (j : Int) := by rw [e]; exact nI_toInt hj
  have e3 := nI_toInt hn
  omega
theorem pz_cases16 {x : Int32} (h : ¬ (x.toInt < 0 ∨ 15 < x.toInt)) : x = 0 ∨ x = 1 ∨ x = 2 ∨ x = 3 ∨ x = 4 ∨ x = 5 ∨ x = 6 ∨ x = 7 ∨ x = 8 ∨ x = 9 ∨ x = 10 ∨ x = 11 ∨ x = 12 ∨ x = 13 ∨ x = 14 ∨ x = 15 := by
  obtain ⟨j, hj, e⟩ := pz_case (n := 15) h (by decide)
  subst e
  have hh : ∀ j : Nat, j < 16 → (nI j = 0 ∨ nI j = 1 ∨ nI j = 2 ∨ nI j = 3 ∨ nI j = 4 ∨ nI j = 5 ∨ nI j = 6 ∨ nI j = 7 ∨ nI j = 8 ∨ nI j = 9 ∨ nI j = 10 ∨ nI j = 11 ∨ nI j = 12 ∨ nI j = 13 ∨ nI j = 14 ∨ nI j = 15) := by decide +kernel
  exact hh j (by omega)
theorem pz_cases11 {x : Int32} (h : ¬ (x.toInt < 0 ∨ 10 < x.toInt)) : x = 0 ∨ x = 1 ∨ x = 2 ∨ x = 3 ∨ x = 4 ∨ x = 5 ∨ x = 6 ∨ x = 7 ∨ x = 8 ∨ x = 9 ∨ x = 10 := by
  obtain ⟨j, hj, e⟩ := pz_case (n := 10) h (by decide)
  subst e
  have hh : ∀ j : Nat, j < 11 → (nI j = 0 ∨ nI j = 1 ∨ nI j = 2 ∨ nI j = 3 ∨ nI j = 4 ∨ nI j = 5 ∨ nI j = 6 ∨ nI j = 7 ∨ nI j = 8 ∨ nI j = 9 ∨ nI j = 10) := by decide +kernel
  exact hh j (by omega)
def gMark (s m : Int32) : Int32 := 40503 * (4 * s + m + 1) - 40503 * (4 * s + m + 1) / 65536 * 65536
def exMark (ns : Nat) (s m : Int32) : Int32 := if s.toInt < 0 ∨ (nI ns).toInt ≤ s.toInt then -1 else if m.toInt < 0 ∨ 4 ≤ m.toInt then -2 else gMark s m
/-! the reference in any state: its ints I (by the places of its fields), its rows F (by the places of their fields) -/
abbrev gFs (R : Nat → Nat) (I : Nat → Int32) : List Value := [.ref (R 0), .int (I 1), .int (I 2), .int (I 3), .int (I 4), .int (I 5), .int (I 6), .int (I 7), .int (I 8), .int (I 9), .int (I 10), .ref (R 11), .ref (R 12), .ref (R 13), .ref (R 14), .ref (R 15), .ref (R 16), .ref (R 17), .ref (R 18), .ref (R 19), .ref (R 20), .ref (R 21), .ref (R 22), .ref (R 23), .ref (R 24), .ref (R 25), .ref (R 26), .ref (R 27), .ref (R 28), .ref (R 29), .ref (R 30), .ref (R 31), .ref (R 32), .ref (R 33), .ref (R 34), .ref (R 35), .ref (R 36), .ref (R 37), .ref (R 38), .ref (R 39), .ref (R 40), .ref (R 41), .int (I 42)]
abbrev gRow (R : Nat → Nat) (C : Nat → ClassId) (F : Nat → Nat → Int32) (n k : Nat) : Nat × va_E := (R k, .inl (C k, n, .inl (F k)))
abbrev gW (h0 : Nat) (R : Nat → Nat) (C : Nat → ClassId) (I : Nat → Int32) (F : Nat → Nat → Int32) : va_W := [(h0, .inr (5, gFs R I)), gRow R C F 7 0, gRow R C F 8 11, gRow R C F 8 12, gRow R C F 8 13, gRow R C F 8 14, gRow R C F 8 15, gRow R C F 8 16, gRow R C F 8 17, gRow R C F 8 18, gRow R C F 8 19, gRow R C F 8 20, gRow R C F 8 21, gRow R C F 8 22, gRow R C F 8 23, gRow R C F 8 24, gRow R C F 8 25, gRow R C F 8 26, gRow R C F 200 27, gRow R C F 200 28, gRow R C F 200 29, gRow R C F 200 30, gRow R C F 200 31, gRow R C F 200 32, gRow R C F 200 33, gRow R C F 200 34, gRow R C F 200 35, gRow R C F 200 36, gRow R C F 400 37, gRow R C F 400 38, gRow R C F 400 39, gRow R C F 400 40, gRow R C F 200 41]
abbrev gT (C : Nat → ClassId) : List (ClassId × FieldType) := [(C 0, .int), (C 11, .int), (C 12, .int), (C 13, .int), (C 14, .int), (C 15, .int), (C 16, .int), (C 17, .int), (C 18, .int), (C 19, .int), (C 20, .int), (C 21, .int), (C 22, .int), (C 23, .int), (C 24, .int), (C 25, .int), (C 26, .int), (C 27, .int), (C 28, .int), (C 29, .int), (C 30, .int), (C 31, .int), (C 32, .int), (C 33, .int), (C 34, .int), (C 35, .int), (C 36, .boolean), (C 37, .int), (C 38, .int), (C 39, .int), (C 40, .boolean), (C 41, .int)]
theorem gI_1 (h0 : Nat) (R : Nat → Nat) (C : Nat → ClassId) (I : Nat → Int32) (F : Nat → Nat → Int32) (v : Int32) : (gW h0 R C I F).set 0 (h0, .inr (5, (gFs R I).set 1 (.int v))) = gW h0 R C (va_up I 1 v) F := rfl
theorem gI_2 (h0 : Nat) (R : Nat → Nat) (C : Nat → ClassId) (I : Nat → Int32) (F : Nat → Nat → Int32) (v : Int32) : (gW h0 R C I F).set 0 (h0, .inr (5, (gFs R I).set 2 (.int v))) = gW h0 R C (va_up I 2 v) F := rfl
theorem gI_3 (h0 : Nat) (R : Nat → Nat) (C : Nat → ClassId) (I : Nat → Int32) (F : Nat → Nat → Int32) (v : Int32) : (gW h0 R C I F).set 0 (h0, .inr (5, (gFs R I).set 3 (.int v))) = gW h0 R C (va_up I 3 v) F := rfl
theorem gI_4 (h0 : Nat) (R : Nat → Nat) (C : Nat → ClassId) (I : Nat → Int32) (F : Nat → Nat → Int32) (v : Int32) : (gW h0 R C I F).set 0 (h0, .inr (5, (gFs R I).set 4 (.int v))) = gW h0 R C (va_up I 4 v) F := rfl
theorem gI_5 (h0 : Nat) (R : Nat → Nat) (C : Nat → ClassId) (I : Nat → Int32) (F : Nat → Nat → Int32) (v : Int32) : (gW h0 R C I F).set 0 (h0, .inr (5, (gFs R I).set 5 (.int v))) = gW h0 R C (va_up I 5 v) F := rfl
theorem gI_6 (h0 : Nat) (R : Nat → Nat) (C : Nat → ClassId) (I : Nat → Int32) (F : Nat → Nat → Int32) (v : Int32) : (gW h0 R C I F).set 0 (h0, .inr (5, (gFs R I).set 6 (.int v))) = gW h0 R C (va_up I 6 v) F := rfl
theorem gI_7 (h0 : Nat) (R : Nat → Nat) (C : Nat → ClassId) (I : Nat → Int32) (F : Nat → Nat → Int32) (v : Int32) : (gW h0 R C I F).set 0 (h0, .inr (5, (gFs R I).set 7 (.int v))) = gW h0 R C (va_up I 7 v) F := rfl
theorem gI_8 (h0 : Nat) (R : Nat → Nat) (C : Nat → ClassId) (I : Nat → Int32) (F : Nat → Nat → Int32) (v : Int32) : (gW h0 R C I F).set 0 (h0, .inr (5, (gFs R I).set 8 (.int v))) = gW h0 R C (va_up I 8 v) F := rfl
theorem gI_9 (h0 : Nat) (R : Nat → Nat) (C : Nat → ClassId) (I : Nat → Int32) (F : Nat → Nat → Int32) (v : Int32) : (gW h0 R C I F).set 0 (h0, .inr (5, (gFs R I).set 9 (.int v))) = gW h0 R C (va_up I 9 v) F := rfl
theorem gI_10 (h0 : Nat) (R : Nat → Nat) (C : Nat → ClassId) (I : Nat → Int32) (F : Nat → Nat → Int32) (v : Int32) : (gW h0 R C I F).set 0 (h0, .inr (5, (gFs R I).set 10 (.int v))) = gW h0 R C (va_up I 10 v) F := rfl
theorem gI_42 (h0 : Nat) (R : Nat → Nat) (C : Nat → ClassId) (I : Nat → Int32) (F : Nat → Nat → Int32) (v : Int32) : (gW h0 R C I F).set 0 (h0, .inr (5, (gFs R I).set 42 (.int v))) = gW h0 R C (va_up I 42 v) F := rfl
theorem gF_0 (h0 : Nat) (R : Nat → Nat) (C : Nat → ClassId) (I : Nat → Int32) (F : Nat → Nat → Int32) (f : Nat → Int32) : (gW h0 R C I F).set 1 (R 0, .inl (C 0, 7, .inl f)) = gW h0 R C I (va_up F 0 f) := rfl
theorem gF_11 (h0 : Nat) (R : Nat → Nat) (C : Nat → ClassId) (I : Nat → Int32) (F : Nat → Nat → Int32) (f : Nat → Int32) : (gW h0 R C I F).set 2 (R 11, .inl (C 11, 8, .inl f)) = gW h0 R C I (va_up F 11 f) := rfl
theorem gF_12 (h0 : Nat) (R : Nat → Nat) (C : Nat → ClassId) (I : Nat → Int32) (F : Nat → Nat → Int32) (f : Nat → Int32) : (gW h0 R C I F).set 3 (R 12, .inl (C 12, 8, .inl f)) = gW h0 R C I (va_up F 12 f) := rfl
theorem gF_13 (h0 : Nat) (R : Nat → Nat) (C : Nat → ClassId) (I : Nat → Int32) (F : Nat → Nat → Int32) (f : Nat → Int32) : (gW h0 R C I F).set 4 (R 13, .inl (C 13, 8, .inl f)) = gW h0 R C I (va_up F 13 f) := rfl
theorem gF_14 (h0 : Nat) (R : Nat → Nat) (C : Nat → ClassId) (I : Nat → Int32) (F : Nat → Nat → Int32) (f : Nat → Int32) : (gW h0 R C I F).set 5 (R 14, .inl (C 14, 8, .inl f)) = gW h0 R C I (va_up F 14 f) := rfl
theorem gF_15 (h0 : Nat) (R : Nat → Nat) (C : Nat → ClassId) (I : Nat → Int32) (F : Nat → Nat → Int32) (f : Nat → Int32) : (gW h0 R C I F).set 6 (R 15, .inl (C 15, 8, .inl f)) = gW h0 R C I (va_up F 15 f) := rfl
theorem gF_16 (h0 : Nat) (R : Nat → Nat) (C : Nat → ClassId) (I : Nat → Int32) (F : Nat → Nat → Int32) (f : Nat → Int32) : (gW h0 R C I F).set 7 (R 16, .inl (C 16, 8, .inl f)) = gW h0 R C I (va_up F 16 f) := rfl
theorem gF_17 (h0 : Nat) (R : Nat → Nat) (C : Nat → ClassId) (I : Nat → Int32) (F : Nat → Nat → Int32) (f : Nat → Int32) : (gW h0 R C I F).set 8 (R 17, .inl (C 17, 8, .inl f)) = gW h0 R C I (va_up F 17 f) := rfl
theorem gF_18 (h0 : Nat) (R : Nat → Nat) (C : Nat → ClassId) (I : Nat → Int32) (F : Nat → Nat → Int32) (f : Nat → Int32) : (gW h0 R C I F).set 9 (R 18, .inl (C 18, 8, .inl f)) = gW h0 R C I (va_up F 18 f) := rfl
theorem gF_19 (h0 : Nat) (R : Nat → Nat) (C : Nat → ClassId) (I : Nat → Int32) (F : Nat → Nat → Int32) (f : Nat → Int32) : (gW h0 R C I F).set 10 (R 19, .inl (C 19, 8, .inl f)) = gW h0 R C I (va_up F 19 f) := rfl
theorem gF_20 (h0 : Nat) (R : Nat → Nat) (C : Nat → ClassId) (I : Nat → Int32) (F : Nat → Nat → Int32) (f : Nat → Int32) : (gW h0 R C I F).set 11 (R 20, .inl (C 20, 8, .inl f)) = gW h0 R C I (va_up F 20 f) := rfl
theorem gF_21 (h0 : Nat) (R : Nat → Nat) (C : Nat → ClassId) (I : Nat → Int32) (F : Nat → Nat → Int32) (f : Nat → Int32) : (gW h0 R C I F).set 12 (R 21, .inl (C 21, 8, .inl f)) = gW h0 R C I (va_up F 21 f) := rfl
theorem gF_22 (h0 : Nat) (R : Nat → Nat) (C : Nat → ClassId) (I : Nat → Int32) (F : Nat → Nat → Int32) (f : Nat → Int32) : (gW h0 R C I F).set 13 (R 22, .inl (C 22, 8, .inl f)) = gW h0 R C I (va_up F 22 f) := rfl
theorem gF_23 (h0 : Nat) (R : Nat → Nat) (C : Nat → ClassId) (I : Nat → Int32) (F : Nat → Nat → Int32) (f : Nat → Int32) : (gW h0 R C I F).set 14 (R 23, .inl (C 23, 8, .inl f)) = gW h0 R C I (va_up F 23 f) := rfl
theorem gF_24 (h0 : Nat) (R : Nat → Nat) (C : Nat → ClassId) (I : Nat → Int32) (F : Nat → Nat → Int32) (f : Nat → Int32) : (gW h0 R C I F).set 15 (R 24, .inl (C 24, 8, .inl f)) = gW h0 R C I (va_up F 24 f) := rfl
theorem gF_25 (h0 : Nat) (R : Nat → Nat) (C : Nat → ClassId) (I : Nat → Int32) (F : Nat → Nat → Int32) (f : Nat → Int32) : (gW h0 R C I F).set 16 (R 25, .inl (C 25, 8, .inl f)) = gW h0 R C I (va_up F 25 f) := rfl
theorem gF_26 (h0 : Nat) (R : Nat → Nat) (C : Nat → ClassId) (I : Nat → Int32) (F : Nat → Nat → Int32) (f : Nat → Int32) : (gW h0 R C I F).set 17 (R 26, .inl (C 26, 8, .inl f)) = gW h0 R C I (va_up F 26 f) := rfl
theorem gF_27 (h0 : Nat) (R : Nat → Nat) (C : Nat → ClassId) (I : Nat → Int32) (F : Nat → Nat → Int32) (f : Nat → Int32) : (gW h0 R C I F).set 18 (R 27, .inl (C 27, 200, .inl f)) = gW h0 R C I (va_up F 27 f) := rfl
theorem gF_28 (h0 : Nat) (R : Nat → Nat) (C : Nat → ClassId) (I : Nat → Int32) (F : Nat → Nat → Int32) (f : Nat → Int32) : (gW h0 R C I F).set 19 (R 28, .inl (C 28, 200, .inl f)) = gW h0 R C I (va_up F 28 f) := rfl
theorem gF_29 (h0 : Nat) (R : Nat → Nat) (C : Nat → ClassId) (I : Nat → Int32) (F : Nat → Nat → Int32) (f : Nat → Int32) : (gW h0 R C I F).set 20 (R 29, .inl (C 29, 200, .inl f)) = gW h0 R C I (va_up F 29 f) := rfl
theorem gF_30 (h0 : Nat) (R : Nat → Nat) (C : Nat → ClassId) (I : Nat → Int32) (F : Nat → Nat → Int32) (f : Nat → Int32) : (gW h0 R C I F).set 21 (R 30, .inl (C 30, 200, .inl f)) = gW h0 R C I (va_up F 30 f) := rfl
theorem gF_31 (h0 : Nat) (R : Nat → Nat) (C : Nat → ClassId) (I : Nat → Int32) (F : Nat → Nat → Int32) (f : Nat → Int32) : (gW h0 R C I F).set 22 (R 31, .inl (C 31, 200, .inl f)) = gW h0 R C I (va_up F 31 f) := rfl
theorem gF_32 (h0 : Nat) (R : Nat → Nat) (C : Nat → ClassId) (I : Nat → Int32) (F : Nat → Nat → Int32) (f : Nat → Int32) : (gW h0 R C I F).set 23 (R 32, .inl (C 32, 200, .inl f)) = gW h0 R C I (va_up F 32 f) := rfl
theorem gF_33 (h0 : Nat) (R : Nat → Nat) (C : Nat → ClassId) (I : Nat → Int32) (F : Nat → Nat → Int32) (f : Nat → Int32) : (gW h0 R C I F).set 24 (R 33, .inl (C 33, 200, .inl f)) = gW h0 R C I (va_up F 33 f) := rfl
theorem gF_34 (h0 : Nat) (R : Nat → Nat) (C : Nat → ClassId) (I : Nat → Int32) (F : Nat → Nat → Int32) (f : Nat → Int32) : (gW h0 R C I F).set 25 (R 34, .inl (C 34, 200, .inl f)) = gW h0 R C I (va_up F 34 f) := rfl
theorem gF_35 (h0 : Nat) (R : Nat → Nat) (C : Nat → ClassId) (I : Nat → Int32) (F : Nat → Nat → Int32) (f : Nat → Int32) : (gW h0 R C I F).set 26 (R 35, .inl (C 35, 200, .inl f)) = gW h0 R C I (va_up F 35 f) := rfl
theorem gF_36 (h0 : Nat) (R : Nat → Nat) (C : Nat → ClassId) (I : Nat → Int32) (F : Nat → Nat → Int32) (f : Nat → Int32) : (gW h0 R C I F).set 27 (R 36, .inl (C 36, 200, .inl f)) = gW h0 R C I (va_up F 36 f) := rfl
theorem gF_37 (h0 : Nat) (R : Nat → Nat) (C : Nat → ClassId) (I : Nat → Int32) (F : Nat → Nat → Int32) (f : Nat → Int32) : (gW h0 R C I F).set 28 (R 37, .inl (C 37, 400, .inl f)) = gW h0 R C I (va_up F 37 f) := rfl
theorem gF_38 (h0 : Nat) (R : Nat → Nat) (C : Nat → ClassId) (I : Nat → Int32) (F : Nat → Nat → Int32) (f : Nat → Int32) : (gW h0 R C I F).set 29 (R 38, .inl (C 38, 400, .inl f)) = gW h0 R C I (va_up F 38 f) := rfl
theorem gF_39 (h0 : Nat) (R : Nat → Nat) (C : Nat → ClassId) (I : Nat → Int32) (F : Nat → Nat → Int32) (f : Nat → Int32) : (gW h0 R C I F).set 30 (R 39, .inl (C 39, 400, .inl f)) = gW h0 R C I (va_up F 39 f) := rfl
theorem gF_40 (h0 : Nat) (R : Nat → Nat) (C : Nat → ClassId) (I : Nat → Int32) (F : Nat → Nat → Int32) (f : Nat → Int32) : (gW h0 R C I F).set 31 (R 40, .inl (C 40, 400, .inl f)) = gW h0 R C I (va_up F 40 f) := rfl
theorem gF_41 (h0 : Nat) (R : Nat → Nat) (C : Nat → ClassId) (I : Nat → Int32) (F : Nat → Nat → Int32) (f : Nat → Int32) : (gW h0 R C I F).set 32 (R 41, .inl (C 41, 200, .inl f)) = gW h0 R C I (va_up F 41 f) := rfl
