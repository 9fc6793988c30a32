theorem pz_aI (n : Nat) : ∀ cA : ClassId, vp_cell cA (n, .inl (fun _ => 0)) = arrV cA n (fun _ => defaultValue .int) := fun _ => rfl
theorem pz_aZ (n : Nat) : ∀ cA : ClassId, vp_cell cA (n, .inl (fun _ => 0)) = arrV cA n (fun _ => defaultValue .boolean) := fun _ => rfl
theorem pz_bI7 : 7 * componentBytes .int ≤ 536870912 := by decide +kernel
theorem pz_bI8 : 8 * componentBytes .int ≤ 536870912 := by decide +kernel
theorem pz_bI200 : 200 * componentBytes .int ≤ 536870912 := by decide +kernel
theorem pz_bI400 : 400 * componentBytes .int ≤ 536870912 := by decide +kernel
theorem pz_bZ200 : 200 * componentBytes .boolean ≤ 536870912 := by decide +kernel
theorem pz_bZ400 : 400 * componentBytes .boolean ≤ 536870912 := by decide +kernel
theorem pz_n7 : ¬ (7 : Int32) < 0 := by decide +kernel
theorem pz_n8 : ¬ (8 : Int32) < 0 := by decide +kernel
theorem pz_n200 : ¬ (200 : Int32) < 0 := by decide +kernel
theorem pz_n400 : ¬ (400 : Int32) < 0 := by decide +kernel
theorem pz_c7 : (7 : Int32).toNatClampNeg = 7 := by decide +kernel
theorem pz_c8 : (8 : Int32).toNatClampNeg = 8 := by decide +kernel
theorem pz_c200 : (200 : Int32).toNatClampNeg = 200 := by decide +kernel
theorem pz_c400 : (400 : Int32).toNatClampNeg = 400 := by decide +kernel
