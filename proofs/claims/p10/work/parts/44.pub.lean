theorem up_ag {I X : Nat → Int32} {j : Nat} {v : Int32} (h : ∀ k, 6 ≤ k → k ≤ 10 → I k = X k) : ∀ k, 6 ≤ k → k ≤ 10 → va_up I j v k = va_up X j v k := fun k h1 h2 => by
  unfold va_up
  split
  · rfl
  · exact h k h1 h2
theorem Bds.up {ns nc nl nq : Nat} {X : Nat → Int32} {j : Nat} {v : Int32} (h : Bds ns nc nl nq X) (hj : j ≠ 10) : Bds ns nc nl nq (va_up X j v) := by
  obtain ⟨a, b, c, ag, d, e, f⟩ := h
  exact ⟨a, b, c, ag, d, (vu_n (fun q => hj q.symm)).trans e, f⟩
theorem plM_gMk : ∀ j, j < 8 → ∀ m, m < 4 → plM j (nI m) = gMk (nI j) (nI m) := by decide +kernel
theorem plM_ex {ns j : Nat} {a2 : Int32} (hj : j < ns) (hns : ns ≤ 8) (h1 : 0 ≤ a2.toInt) (h2 : a2.toInt < 4) : plM j a2 = exMark ns (nI j) a2 := by
  obtain ⟨m, hm, rfl⟩ := pz_of (n := 4) h1 h2
  rw [plM_gMk j (by omega) m hm]
  have e1 : (nI j).toInt = (j : Int) := pz_ti (by omega)
  have e2 : (nI m).toInt = (m : Int) := pz_ti (by omega)
  unfold exMark
  rw [if_neg (by omega), if_neg (by omega)]
