def gBit (b : Int32) (s : Nat) : Prop := (b >>> (nI s &&& 31)) &&& 1 = 1
theorem gb_k0 (b : BitVec 32) : ((b ||| (1#32 <<< 0)).sshiftRight 0) &&& 1#32 = 1#32 := by
  apply BitVec.eq_of_getLsbD_eq
  intro i hi
  rw [BitVec.getLsbD_and, BitVec.getLsbD_sshiftRight]
  cases i with
  | zero => simp
  | succ n => simp
theorem gb_or0 (b : Int32) : gBit (b ||| ((1 : Int32) <<< (nI 0 &&& 31))) 0 := by
  unfold gBit
  apply Int32.toBitVec_inj.mp
  have e : (nI 0 &&& 31) = 0 := by decide
  rw [e]
  simp only [Int32.toBitVec_and, Int32.toBitVec_shiftRight, Int32.toBitVec_or, Int32.toBitVec_shiftLeft]
  have e2 : ((0 : Int32).toBitVec.smod 32) = 0#32 := by decide
  rw [e2]
  exact gb_k0 b.toBitVec
theorem gb_k1 (b : BitVec 32) : ((b ||| (1#32 <<< 1)).sshiftRight 1) &&& 1#32 = 1#32 := by
  apply BitVec.eq_of_getLsbD_eq
  intro i hi
  rw [BitVec.getLsbD_and, BitVec.getLsbD_sshiftRight]
  cases i with
  | zero => simp
  | succ n => simp
theorem gb_or1 (b : Int32) : gBit (b ||| ((1 : Int32) <<< (nI 1 &&& 31))) 1 := by
  unfold gBit
  apply Int32.toBitVec_inj.mp
  have e : (nI 1 &&& 31) = 1 := by decide
  rw [e]
  simp only [Int32.toBitVec_and, Int32.toBitVec_shiftRight, Int32.toBitVec_or, Int32.toBitVec_shiftLeft]
  have e2 : ((1 : Int32).toBitVec.smod 32) = 1#32 := by decide
  rw [e2]
  exact gb_k1 b.toBitVec
theorem gb_k2 (b : BitVec 32) : ((b ||| (1#32 <<< 2)).sshiftRight 2) &&& 1#32 = 1#32 := by
  apply BitVec.eq_of_getLsbD_eq
  intro i hi
  rw [BitVec.getLsbD_and, BitVec.getLsbD_sshiftRight]
  cases i with
  | zero => simp
  | succ n => simp
theorem gb_or2 (b : Int32) : gBit (b ||| ((1 : Int32) <<< (nI 2 &&& 31))) 2 := by
  unfold gBit
  apply Int32.toBitVec_inj.mp
  have e : (nI 2 &&& 31) = 2 := by decide
  rw [e]
  simp only [Int32.toBitVec_and, Int32.toBitVec_shiftRight, Int32.toBitVec_or, Int32.toBitVec_shiftLeft]
  have e2 : ((2 : Int32).toBitVec.smod 32) = 2#32 := by decide
  rw [e2]
  exact gb_k2 b.toBitVec
theorem gb_k3 (b : BitVec 32) : ((b ||| (1#32 <<< 3)).sshiftRight 3) &&& 1#32 = 1#32 := by
  apply BitVec.eq_of_getLsbD_eq
  intro i hi
  rw [BitVec.getLsbD_and, BitVec.getLsbD_sshiftRight]
  cases i with
  | zero => simp
  | succ n => simp
theorem gb_or3 (b : Int32) : gBit (b ||| ((1 : Int32) <<< (nI 3 &&& 31))) 3 := by
  unfold gBit
  apply Int32.toBitVec_inj.mp
  have e : (nI 3 &&& 31) = 3 := by decide
  rw [e]
  simp only [Int32.toBitVec_and, Int32.toBitVec_shiftRight, Int32.toBitVec_or, Int32.toBitVec_shiftLeft]
  have e2 : ((3 : Int32).toBitVec.smod 32) = 3#32 := by decide
  rw [e2]
  exact gb_k3 b.toBitVec
theorem gb_k4 (b : BitVec 32) : ((b ||| (1#32 <<< 4)).sshiftRight 4) &&& 1#32 = 1#32 := by
  apply BitVec.eq_of_getLsbD_eq
  intro i hi
  rw [BitVec.getLsbD_and, BitVec.getLsbD_sshiftRight]
  cases i with
  | zero => simp
  | succ n => simp
theorem gb_or4 (b : Int32) : gBit (b ||| ((1 : Int32) <<< (nI 4 &&& 31))) 4 := by
  unfold gBit
  apply Int32.toBitVec_inj.mp
  have e : (nI 4 &&& 31) = 4 := by decide
  rw [e]
  simp only [Int32.toBitVec_and, Int32.toBitVec_shiftRight, Int32.toBitVec_or, Int32.toBitVec_shiftLeft]
  have e2 : ((4 : Int32).toBitVec.smod 32) = 4#32 := by decide
  rw [e2]
  exact gb_k4 b.toBitVec
theorem gb_k5 (b : BitVec 32) : ((b ||| (1#32 <<< 5)).sshiftRight 5) &&& 1#32 = 1#32 := by
  apply BitVec.eq_of_getLsbD_eq
  intro i hi
  rw [BitVec.getLsbD_and, BitVec.getLsbD_sshiftRight]
  cases i with
  | zero => simp
  | succ n => simp
theorem gb_or5 (b : Int32) : gBit (b ||| ((1 : Int32) <<< (nI 5 &&& 31))) 5 := by
  unfold gBit
  apply Int32.toBitVec_inj.mp
  have e : (nI 5 &&& 31) = 5 := by decide
  rw [e]
  simp only [Int32.toBitVec_and, Int32.toBitVec_shiftRight, Int32.toBitVec_or, Int32.toBitVec_shiftLeft]
  have e2 : ((5 : Int32).toBitVec.smod 32) = 5#32 := by decide
  rw [e2]
  exact gb_k5 b.toBitVec
theorem gb_k6 (b : BitVec 32) : ((b ||| (1#32 <<< 6)).sshiftRight 6) &&& 1#32 = 1#32 := by
  apply BitVec.eq_of_getLsbD_eq
  intro i hi
  rw [BitVec.getLsbD_and, BitVec.getLsbD_sshiftRight]
  cases i with
  | zero => simp
  | succ n => simp
theorem gb_or6 (b : Int32) : gBit (b ||| ((1 : Int32) <<< (nI 6 &&& 31))) 6 := by
  unfold gBit
  apply Int32.toBitVec_inj.mp
  have e : (nI 6 &&& 31) = 6 := by decide
  rw [e]
  simp only [Int32.toBitVec_and, Int32.toBitVec_shiftRight, Int32.toBitVec_or, Int32.toBitVec_shiftLeft]
  have e2 : ((6 : Int32).toBitVec.smod 32) = 6#32 := by decide
  rw [e2]
  exact gb_k6 b.toBitVec
theorem gb_k7 (b : BitVec 32) : ((b ||| (1#32 <<< 7)).sshiftRight 7) &&& 1#32 = 1#32 := by
  apply BitVec.eq_of_getLsbD_eq
  intro i hi
  rw [BitVec.getLsbD_and, BitVec.getLsbD_sshiftRight]
  cases i with
  | zero => simp
  | succ n => simp
theorem gb_or7 (b : Int32) : gBit (b ||| ((1 : Int32) <<< (nI 7 &&& 31))) 7 := by
  unfold gBit
  apply Int32.toBitVec_inj.mp
  have e : (nI 7 &&& 31) = 7 := by decide
  rw [e]
  simp only [Int32.toBitVec_and, Int32.toBitVec_shiftRight, Int32.toBitVec_or, Int32.toBitVec_shiftLeft]
  have e2 : ((7 : Int32).toBitVec.smod 32) = 7#32 := by decide
  rw [e2]
  exact gb_k7 b.toBitVec
theorem gBit_or (b : Int32) (j : Nat) (h : j < 8) : gBit (b ||| ((1 : Int32) <<< (nI j &&& 31))) j := by
  rcases (show j = 0 ∨ j = 1 ∨ j = 2 ∨ j = 3 ∨ j = 4 ∨ j = 5 ∨ j = 6 ∨ j = 7 by omega) with rfl | rfl | rfl | rfl | rfl | rfl | rfl | rfl
  · exact gb_or0 b
  · exact gb_or1 b
  · exact gb_or2 b
  · exact gb_or3 b
  · exact gb_or4 b
  · exact gb_or5 b
  · exact gb_or6 b
  · exact gb_or7 b
/-- either no bit, or one of a place below n -/
def gMay (b : Int32) (n : Nat) : Prop := b = 0 ∨ ∃ s, s < n ∧ gBit b s
theorem gMay_0 (n : Nat) : gMay 0 n := Or.inl rfl
theorem gMay_up {b : Int32} {j : Nat} (h : gMay b j) : gMay b (j + 1) := h.elim Or.inl (fun ⟨s, h1, h2⟩ => Or.inr ⟨s, by omega, h2⟩)
theorem gMay_or {b : Int32} {j : Nat} (h : j < 8) : gMay (b ||| ((1 : Int32) <<< (nI j &&& 31))) (j + 1) := Or.inr ⟨j, by omega, gBit_or b j h⟩
theorem gF_skip {a b : Int32} {j ns : Nat} (h : ∀ s, s < j → ¬ gBit a s) (hj : ¬ gBit a j) (hb : b = -1 := by rfl) : (b = -1 ∧ ∀ s, s < j + 1 → ¬ gBit a s) ∨ ∃ q, q < ns ∧ b = nI q := by
  refine Or.inl ⟨hb, fun s hs => ?_⟩
  rcases Nat.lt_succ_iff_lt_or_eq.mp hs with h1 | h1
  · exact h s h1
  · rw [h1]; exact hj
