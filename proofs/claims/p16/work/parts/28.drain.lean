/-- drained: DRAINING or GONE -/
def gDr (x : Int32) : Prop := x = 3 ∨ x = 4
theorem gd_0 : ¬ gDr 0 := by unfold gDr; decide
theorem gd_n2 {x : Int32} (h : x = 2) : ¬ gDr x := by rw [h]; unfold gDr; decide
theorem gd_upd {f : Nat → Int32} {j : Nat} {v : Int32} (h : ¬ gDr (f j)) (hv : ¬ gDr v) : ∀ s, gDr (upd f j v s) ↔ gDr (f s) := by
  intro s
  by_cases e : s = j
  · subst e
    rw [pk_us]
    exact ⟨fun q => absurd q hv, fun q => absurd q h⟩
  · rw [pk_un e]
