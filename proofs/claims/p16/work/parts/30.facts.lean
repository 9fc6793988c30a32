theorem pz_posne {x : Int32} (c : ¬ x ≤ 0) : ¬ x = 0 := fun h => c (by rw [h]; decide)
theorem gk_at {f : Nat → Int32} {j : Nat} {v : Int32} (h : f j = v) (hj : j < 2 ^ 31) : f (Int32.toNatClampNeg (nI j)) = v := by rw [nI_clamp hj]; exact h
theorem gk_eq {f : Nat → Int32} {j : Nat} {v : Int32} (hj : j < 2 ^ 31) : upd f (Int32.toNatClampNeg (nI j)) v = upd f j v := by rw [nI_clamp hj]
