def gBit (b : Int32) (s : Nat) : Prop := (b >>> (nI s &&& 31)) &&& 1 = 1
theorem gb_k0 (b : BitVec 32) : ((b ||| (1#32 <<< 0)).sshiftRight 0) &&& 1#32 = 1#32 := by
  apply BitVec.eq_of_getLsbD_eq
  intro i hi
  rw [BitVec.getLsbD_and, BitVec.getLsbD_sshiftRight]
  cases i with
  | zero => simp
  | succ n => simp
theorem gb_or0 (b : Int32) : gBit (b ||| ((1 : Int32) <<< (nI 0 &&& 31))) 0 := by
  unfold gBit
  apply Int32.toBitVec_inj.mp
  have e : (nI 0 &&& 31) = 0 := by decide
  rw [e]
  simp only [Int32.toBitVec_and, Int32.toBitVec_shiftRight, Int32.toBitVec_or, Int32.toBitVec_shiftLeft]
  have e2 : ((0 : Int32).toBitVec.smod 32) = 0#32 := by decide
  rw [e2]
  exact gb_k0 b.toBitVec
theorem gb_k1 (b : BitVec 32) : ((b ||| (1#32 <<< 1)).sshiftRight 1) &&& 1#32 = 1#32 := by
  apply BitVec.eq_of_getLsbD_eq
  intro i hi
  rw [BitVec.getLsbD_and, BitVec.getLsbD_sshiftRight]
  cases i with
  | zero => simp
  | succ n => simp
theorem gb_or1 (b : Int32) : gBit (b ||| ((1 : Int32) <<< (nI 1 &&& 31))) 1 := by
  unfold gBit
  apply Int32.toBitVec_inj.mp
  have e : (nI 1 &&& 31) = 1 := by decide
  rw [e]
  simp only [Int32.toBitVec_and, Int32.toBitVec_shiftRight, Int32.toBitVec_or, Int32.toBitVec_shiftLeft]
  have e2 : ((1 : Int32).toBitVec.smod 32) = 1#32 := by decide
  rw [e2]
  exact gb_k1 b.toBitVec
theorem gb_k2 (b : BitVec 32) : ((b ||| (1#32 <<< 2)).sshiftRight 2) &&& 1#32 = 1#32 := by
  apply BitVec.eq_of_getLsbD_eq
  intro i hi
  rw [BitVec.getLsbD_and, BitVec.getLsbD_sshiftRight]
  cases i with
  | zero => simp
  | succ n => simp
theorem gb_or2 (b : Int32) : gBit (b ||| ((1 : Int32) <<< (nI 2 &&& 31))) 2 := by
  unfold gBit
  apply Int32.toBitVec_inj.mp
  have e : (nI 2 &&& 31) = 2 := by decide
  rw [e]
  simp only [Int32.toBitVec_and, Int32.toBitVec_shiftRight, Int32.toBitVec_or, Int32.toBitVec_shiftLeft]
  have e2 : ((2 : Int32).toBitVec.smod 32) = 2#32 := by decide
  rw [e2]
  exact gb_k2 b.toBitVec
theorem gb_k3 (b : BitVec 32) : ((b ||| (1#32 <<< 3)).sshiftRight 3) &&& 1#32 = 1#32 := by
  apply BitVec.eq_of_getLsbD_eq
  intro i hi
  rw [BitVec.getLsbD_and, BitVec.getLsbD_sshiftRight]
  cases i with
  | zero => simp
  | succ n => simp
theorem gb_or3 (b : Int32) : gBit (b ||| ((1 : Int32) <<< (nI 3 &&& 31))) 3 := by
  unfold gBit
  apply Int32.toBitVec_inj.mp
  have e : (nI 3 &&& 31) = 3 := by decide
  rw [e]
  simp only [Int32.toBitVec_and, Int32.toBitVec_shiftRight, Int32.toBitVec_or, Int32.toBitVec_shiftLeft]
  have e2 : ((3 : Int32).toBitVec.smod 32) = 3#32 := by decide
  rw [e2]
  exact gb_k3 b.toBitVec
theorem gb_k4 (b : BitVec 32) : ((b ||| (1#32 <<< 4)).sshiftRight 4) &&& 1#32 = 1#32 := by
  apply BitVec.eq_of_getLsbD_eq
  intro i hi
  rw [BitVec.getLsbD_and, BitVec.getLsbD_sshiftRight]
  cases i with
  | zero => simp
  | succ n => simp
theorem gb_or4 (b : Int32) : gBit (b ||| ((1 : Int32) <<< (nI 4 &&& 31))) 4 := by
  unfold gBit
  apply Int32.toBitVec_inj.mp
  have e : (nI 4 &&& 31) = 4 := by decide
  rw [e]
  simp only [Int32.toBitVec_and, Int32.toBitVec_shiftRight, Int32.toBitVec_or, Int32.toBitVec_shiftLeft]
  have e2 : ((4 : Int32).toBitVec.smod 32) = 4#32 := by decide
  rw [e2]
  exact gb_k4 b.toBitVec
theorem gb_k5 (b : BitVec 32) : ((b ||| (1#32 <<< 5)).sshiftRight 5) &&& 1#32 = 1#32 := by
  apply BitVec.eq_of_getLsbD_eq
  intro i hi
  rw [BitVec.getLsbD_and, BitVec.getLsbD_sshiftRight]
  cases i with
  | zero => simp
  | succ n => simp
theorem gb_or5 (b : Int32) : gBit (b ||| ((1 : Int32) <<< (nI 5 &&& 31))) 5 := by
  unfold gBit
  apply Int32.toBitVec_inj.mp
  have e : (nI 5 &&& 31) = 5 := by decide
  rw [e]
  simp only [Int32.toBitVec_and, Int32.toBitVec_shiftRight, Int32.toBitVec_or, Int32.toBitVec_shiftLeft]
  have e2 : ((5 : Int32).toBitVec.smod 32) = 5#32 := by decide
  rw [e2]
  exact gb_k5 b.toBitVec
theorem gb_k6 (b : BitVec 32) : ((b ||| (1#32 <<< 6)).sshiftRight 6) &&& 1#32 = 1#32 := by
  apply BitVec.eq_of_getLsbD_eq
  intro i hi
  rw [BitVec.getLsbD_and, BitVec.getLsbD_sshiftRight]
  cases i with
  | zero => simp
  | succ n => simp
theorem gb_or6 (b : Int32) : gBit (b ||| ((1 : Int32) <<< (nI 6 &&& 31))) 6 := by
  unfold gBit
  apply Int32.toBitVec_inj.mp
  have e : (nI 6 &&& 31) = 6 := by decide
  rw [e]
  simp only [Int32.toBitVec_and, Int32.toBitVec_shiftRight, Int32.toBitVec_or, Int32.toBitVec_shiftLeft]
  have e2 : ((6 : Int32).toBitVec.smod 32) = 6#32 := by decide
  rw [e2]
  exact gb_k6 b.toBitVec
theorem gb_k7 (b : BitVec 32) : ((b ||| (1#32 <<< 7)).sshiftRight 7) &&& 1#32 = 1#32 := by
  apply BitVec.eq_of_getLsbD_eq
  intro i hi
  rw [BitVec.getLsbD_and, BitVec.getLsbD_sshiftRight]
  cases i with
  | zero => simp
  | succ n => simp
theorem gb_or7 (b : Int32) : gBit (b ||| ((1 : Int32) <<< (nI 7 &&& 31))) 7 := by
  unfold gBit
  apply Int32.toBitVec_inj.mp
  have e : (nI 7 &&& 31) = 7 := by decide
  rw [e]
  simp only [Int32.toBitVec_and, Int32.toBitVec_shiftRight, Int32.toBitVec_or, Int32.toBitVec_shiftLeft]
  have e2 : ((7 : Int32).toBitVec.smod 32) = 7#32 := by decide
  rw [e2]
  exact gb_k7 b.toBitVec
theorem gBit_or (b : Int32) (j : Nat) (h : j < 8) : gBit (b ||| ((1 : Int32) <<< (nI j &&& 31))) j := by
  rcases (show j = 0 ∨ j = 1 ∨ j = 2 ∨ j = 3 ∨ j = 4 ∨ j = 5 ∨ j = 6 ∨ j = 7 by omega) with rfl | rfl | rfl | rfl | rfl | rfl | rfl | rfl
  · exact gb_or0 b
  · exact gb_or1 b
  · exact gb_or2 b
  · exact gb_or3 b
  · exact gb_or4 b
  · exact gb_or5 b
  · exact gb_or6 b
  · exact gb_or7 b
/-- either no bit, or one of a place below n -/
def gMay (b : Int32) (n : Nat) : Prop := b = 0 ∨ ∃ s, s < n ∧ gBit b s
theorem gMay_0 (n : Nat) : gMay 0 n := Or.inl rfl
theorem gMay_up {b : Int32} {j : Nat} (h : gMay b j) : gMay b (j + 1) := h.elim Or.inl (fun ⟨s, h1, h2⟩ => Or.inr ⟨s, by omega, h2⟩)
theorem gMay_or {b : Int32} {j : Nat} (h : j < 8) : gMay (b ||| ((1 : Int32) <<< (nI j &&& 31))) (j + 1) := Or.inr ⟨j, by omega, gBit_or b j h⟩
theorem gF_skip {a b : Int32} {j ns : Nat} (h : ∀ s, s < j → ¬ gBit a s) (hj : ¬ gBit a j) (hb : b = -1 := by rfl) : (b = -1 ∧ ∀ s, s < j + 1 → ¬ gBit a s) ∨ ∃ q, q < ns ∧ b = nI q := by
  refine Or.inl ⟨hb, fun s hs => ?_⟩
  rcases Nat.lt_succ_iff_lt_or_eq.mp hs with h1 | h1
  · exact h s h1
  · rw [h1]; exact hj
/-- drained: DRAINING or GONE -/
def gDr (x : Int32) : Prop := x = 3 ∨ x = 4
/-- what is asked of the reference's rows -/
def I31 (G : Nat → Nat → Int32) : Prop := ∀ c, c < 200 → ∃ n, n ≤ 2 ∧ G 31 c = nI n
def I37 (G : Nat → Nat → Int32) : Prop := ∀ x, x < 400 → ∃ k, k < 8 ∧ G 37 x = nI k
def IQ (G : Nat → Nat → Int32) : Prop := ∀ c, c < 200 → G 30 c = 0 → G 31 c = 0
def IZ (nc : Nat) (G : Nat → Nat → Int32) : Prop := ∀ c, nc ≤ c → c < 200 → G 30 c = 0
def ID (dr : Nat → Prop) (G : Nat → Nat → Int32) : Prop := ∀ k, k < 8 → (dr k ↔ gDr (G 17 k))
/-- the document's refusals, as both sides have them -/
def badS (ns : Nat) (w z r p b : Int32) : Option Int32 := if z.toInt < 0 ∨ 4 ≤ z.toInt then some (-1) else if w.toInt < 1 ∨ r.toInt < 1 ∨ p.toInt < 1 ∨ b.toInt < 0 then some (-4) else if 100 < w.toInt ∨ 20 < r.toInt ∨ 200 < p.toInt ∨ 20 < b.toInt ∨ 8 ≤ ns then some (-6) else none
def badR (r : Int32) : Option Int32 := if r.toInt < 0 ∨ 3 < r.toInt then some (-1) else none
def badN (n : Int32) (lo hi : Int) : Option Int32 := if n.toInt < lo then some (-4) else if hi < n.toInt then some (-6) else none
def badC (nc : Nat) (k g n : Int32) : Option Int32 := if k.toInt < 0 ∨ g.toInt < 0 ∨ n.toInt < 1 then some (-4) else if 65535 < k.toInt ∨ 3 < g.toInt ∨ 2000 < n.toInt ∨ 200 ≤ nc then some (-6) else none
def gMk (s m : Int32) : Int32 := (40503 * (((4 * s) + m) + 1)) - (40503 * (((4 * s) + m) + 1)) / 65536 * 65536
def exMark (ns : Nat) (s m : Int32) : Int32 := if s.toInt < 0 ∨ (ns : Int) ≤ s.toInt then -1 else if m.toInt < 0 ∨ 4 ≤ m.toInt then -2 else gMk s m
theorem pz_posne {x : Int32} (h : ¬ x ≤ 0) : x ≠ 0 := fun e => h (by rw [e]; decide)
section B21
variable {p : Program} {l : Launch} {e : Env} {Rm : Room} {s : State} {m : MethodId} {args : Array Value} {below : List Frame} {meth : Method} {c : Code} {H : Heap} {locs : List Loc} {cells slots : Nat} {Q : State → Prop}
variable {cc : ByteArray} {pc nL : Nat} {ls : Array Slot} {rest : List Value} {dC : Nat → ClassId} {dI : Nat → Nat → Nat} {h0 : Nat} {R : Nat → Nat}
theorem mw_gI {index : Nat} (S : CallFix p m c cc nL s args tb RX4) (hK : Kt dC dI s) {I : Nat → Int32} (hI : oat dC dI h0 5 (eM R I) H) (k : Nat) (hk : k < 43) (hv : ∀ I : Nat → Int32, (eM R I)[k]? = some (.int (I k))) (hl : Cond.fieldLink RX4 index "FrontDoorModel" (TX4 k).2.1 (TX4 k).2.2.1 ∈ tb) (hn : (TX4 k).1 = "FrontDoorModel") (hdg : decode cc pc = .ok (.getfield index, 3))
    (kk : W p l e Rm s m args below meth c H locs cells slots Q (F0 m (pc + 3) ls (.int (I k) :: rest))) : W p l e Rm s m args below meth c H locs cells slots Q (F0 m pc ls (.ref h0 :: rest)) := by
  obtain ⟨hx, hb, hml, hown, hts⟩ := S
  exact x_get (C := RX4) (T := TX4) (N := 43) (ci := 5) hx hb hts inX4 hown hK hI rfl k hk (hts _ hl) (fun x h => by rw [hn] at h; exact h) (hv I) hdg kk
end B21
theorem ID.keep {dr : Nat → Prop} {G G1 : Nat → Nat → Int32} (h : ID dr G) (h2 : ∀ k, gDr (G1 17 k) ↔ gDr (G 17 k)) : ID dr G1 := fun k hk => (h k hk).trans (h2 k).symm
theorem gDr_upd {f : Nat → Int32} {j : Nat} {v : Int32} (h : ¬ gDr (f j)) (hv : ¬ gDr v) : ∀ s, gDr (upd f j v s) ↔ gDr (f s) := by
  intro s
  by_cases e : s = j
  · subst e
    rw [pk_us]
    exact ⟨fun q => absurd q hv, fun q => absurd q h⟩
  · rw [pk_un e]
theorem gDr_n {x : Int32} (h : x = 0 ∨ x = 1 ∨ x = 2) : ¬ gDr x := by
  unfold gDr
  rcases h with h | h | h <;> rw [h] <;> decide
theorem bm32 {z : Int} (h1 : -2147483648 ≤ z) (h2 : z < 2147483648) : z.bmod (2 ^ 32) = z := by
  rw [Int.bmod_eq_of_le (by omega) (by omega)]
theorem rg32 (x : Int32) : -2147483648 ≤ x.toInt ∧ x.toInt < 2147483648 := by
  have h1 := Int32.le_toInt x
  have h2 := Int32.toInt_lt x
  omega
theorem irem_lt (x : Int32) : (x - x / 65536 * 65536).toInt < 65536 := by
  have hr := rg32 x
  have e0 : (65536 : Int32).toInt = 65536 := by decide
  have ht : (0 ≤ x.toInt ∧ x.toInt.tdiv 65536 = x.toInt / 65536) ∨ (x.toInt < 0 ∧ x.toInt.tdiv 65536 = -((-x.toInt) / 65536)) := by
    rcases Int.lt_or_le x.toInt 0 with h | h
    · refine Or.inr ⟨h, ?_⟩
      have e1 : x.toInt = -(-x.toInt) := by omega
      have e2 : (-(-x.toInt)).tdiv 65536 = -((-x.toInt).tdiv 65536) := Int.neg_tdiv (-x.toInt) 65536
      rw [← e1] at e2
      rw [e2, Int.tdiv_eq_ediv_of_nonneg (by omega)]
    · exact Or.inl ⟨h, Int.tdiv_eq_ediv_of_nonneg h⟩
  have hd : (x / 65536).toInt = x.toInt.tdiv 65536 := by
    rw [Int32.toInt_div, e0]
    exact bm32 (by omega) (by omega)
  have hm : (x / 65536 * 65536).toInt = x.toInt.tdiv 65536 * 65536 := by
    rw [Int32.toInt_mul, hd, e0]
    exact bm32 (by omega) (by omega)
  rw [Int32.toInt_sub, hm]
  rw [bm32 (by omega) (by omega)]
  omega
theorem gDr_upd2 {f : Nat → Int32} {j : Nat} {v : Int32} (h : gDr (f j)) (hv : gDr v) : ∀ s, gDr (upd f j v s) ↔ gDr (f s) := by
  intro s
  by_cases e : s = j
  · subst e
    rw [pk_us]
    exact ⟨fun _ => h, fun _ => hv⟩
  · rw [pk_un e]
def MI (ns nc : Nat) (dr : Nat → Prop) (V : Nat → Int32) (G : Nat → Nat → Int32) : Prop := (V 2 = nI ns ∧ ns ≤ 8) ∧ (V 3 = nI nc ∧ nc ≤ 200) ∧ I31 G ∧ I37 G ∧ IQ G ∧ IZ nc G ∧ ID dr G
def KV (V V1 : Nat → Int32) : Prop := ∀ j, 4 ≤ j → j ≤ 7 → V1 j = V j
theorem KV.rf {V : Nat → Int32} : KV V V := fun _ _ _ => rfl
theorem KV.tr {V V1 V2 : Nat → Int32} (h : KV V V1) (h2 : KV V1 V2) : KV V V2 := fun j a b => (h2 j a b).trans (h j a b)
theorem MI.V {ns nc : Nat} {dr : Nat → Prop} {V V1 : Nat → Int32} {G : Nat → Nat → Int32} (h : MI ns nc dr V G) (h2 : V1 2 = V 2) (h3 : V1 3 = V 3) : MI ns nc dr V1 G := ⟨⟨h2.trans h.1.1, h.1.2⟩, ⟨h3.trans h.2.1.1, h.2.1.2⟩, h.2.2⟩
/-- one CALL's rows have changed -/
theorem MI.one {ns nc : Nat} {dr : Nat → Prop} {V : Nat → Int32} {G G1 : Nat → Nat → Int32} (h : MI ns nc dr V G) {c : Nat} (hc : c < nc) (h30 : ∀ j, j ≠ c → G1 30 j = G 30 j) (h31 : ∀ j, j ≠ c → G1 31 j = G 31 j) (hn : ∃ n, n ≤ 2 ∧ G1 31 c = nI n) (hq : G1 30 c = 0 → G1 31 c = 0) (h37 : I37 G1) (h17 : G1 17 = G 17) : MI ns nc dr V G1 := by
  obtain ⟨a, b, d, e, f, g, i⟩ := h
  refine ⟨a, b, fun j hj => ?_, h37, fun j hj hz => ?_, fun j h1 h2 => ?_, fun k hk => by rw [h17]; exact i k hk⟩
  · by_cases q : j = c
    · subst q; exact hn
    · rw [h31 j q]; exact d j hj
  · by_cases q : j = c
    · subst q; exact hq hz
    · rw [h31 j q]; rw [h30 j q] at hz; exact f j hj hz
  · rw [h30 j (by omega)]; exact g j h1 h2
theorem MI.h {ns nc : Nat} {dr : Nat → Prop} {V : Nat → Int32} {G G1 : Nat → Nat → Int32} (h : MI ns nc dr V G) (h1 : ∀ j, j ≠ 17 → G1 j = G j) (h2 : ∀ k, gDr (G1 17 k) ↔ gDr (G 17 k)) : MI ns nc dr V G1 := by
  obtain ⟨a, b, d, e, f, g, i⟩ := h
  refine ⟨a, b, ?_, ?_, ?_, ?_, i.keep h2⟩
  · unfold I31; rw [h1 31 (by decide)]; exact d
  · unfold I37; rw [h1 37 (by decide)]; exact e
  · unfold IQ; rw [h1 31 (by decide), h1 30 (by decide)]; exact f
  · unfold IZ; rw [h1 30 (by decide)]; exact g
theorem MI.q {ns nc : Nat} {dr : Nat → Prop} {V : Nat → Int32} {G G1 : Nat → Nat → Int32} (h : MI ns nc dr V G) (h1 : ∀ j, j ≠ 41 → G1 j = G j) : MI ns nc dr V G1 := by
  obtain ⟨a, b, d, e, f, g, i⟩ := h
  refine ⟨a, b, ?_, ?_, ?_, ?_, i.keep (fun k => by rw [h1 17 (by decide)])⟩
  · unfold I31; rw [h1 31 (by decide)]; exact d
  · unfold I37; rw [h1 37 (by decide)]; exact e
  · unfold IQ; rw [h1 31 (by decide), h1 30 (by decide)]; exact f
  · unfold IZ; rw [h1 30 (by decide)]; exact g
/-- what asking does to the rows -/
def AskR (c : Nat) (G G1 : Nat → Nat → Int32) : Prop := (∀ j, j ≠ c → G1 30 j = G 30 j) ∧ (∀ j, j ≠ c → G1 31 j = G 31 j) ∧ (∃ n, n ≤ 2 ∧ G1 31 c = nI n) ∧ (G1 30 c = 0 → G1 31 c = 0) ∧ I37 G1 ∧ G1 17 = G 17 ∧ G1 41 = G 41
theorem AskR.rf {c : Nat} {G : Nat → Nat → Int32} (h : G 31 c = 0) (h37 : I37 G) : AskR c G G := ⟨fun _ _ => rfl, fun _ _ => rfl, ⟨0, by decide, h⟩, fun _ => h, h37, rfl, rfl⟩
theorem I37.up {G G1 : Nat → Nat → Int32} (h : I37 G) {i k : Nat} (hk : k < 8) (e : G1 37 = upd (G 37) i (nI k)) : I37 G1 := by
  intro x hx
  rw [e]
  by_cases q : x = i
  · subst q; exact ⟨k, hk, pk_us⟩
  · rw [pk_un q]; exact h x hx
theorem I37.same {G G1 : Nat → Nat → Int32} (h : I37 G) (e : G1 37 = G 37) : I37 G1 := by unfold I37; rw [e]; exact h
theorem AskR.of {c s n : Nat} {G G1 : Nat → Nat → Int32} (h37 : I37 G) (hs : s < 8) (hn : n ≤ 1) (e37 : G1 37 = upd (G 37) (2 * c + n) (nI s)) (e31 : G1 31 = upd (G 31) c (nI (n + 1))) (e30 : G1 30 = upd (G 30) c 1) (eo : ∀ j, j ≠ 37 → j ≠ 31 → j ≠ 30 → G1 j = G j) : AskR c G G1 := by
  refine ⟨fun j hj => by rw [e30]; exact pk_un hj, fun j hj => by rw [e31]; exact pk_un hj, ⟨n + 1, by omega, by rw [e31]; exact pk_us⟩, fun h => ?_, h37.up hs e37, eo 17 (by decide) (by decide) (by decide), eo 41 (by decide) (by decide) (by decide)⟩
  rw [e30, pk_us] at h
  exact absurd h (by decide)
theorem MI.ask {ns nc : Nat} {dr : Nat → Prop} {V : Nat → Int32} {G G1 : Nat → Nat → Int32} (h : MI ns nc dr V G) {c : Nat} (hc : c < nc) (r : AskR c G G1) : MI ns nc dr V G1 := h.one hc r.1 r.2.1 r.2.2.1 r.2.2.2.1 r.2.2.2.2.1 r.2.2.2.2.2.1
theorem MI.more {ns nc : Nat} {dr : Nat → Prop} {V V1 : Nat → Int32} {G : Nat → Nat → Int32} (h : MI ns nc dr V G) (hc : nc < 200) (h2 : V1 2 = V 2) (h3 : V1 3 = nI (nc + 1)) : MI ns (nc + 1) dr V1 G := by
  obtain ⟨a, b, d, e, f, g, i⟩ := h
  exact ⟨⟨h2.trans a.1, a.2⟩, ⟨h3, by omega⟩, d, e, f, fun j h1 h2 => g j (by omega) h2, i⟩
theorem MI.a0 {ns nc : Nat} {dr : Nat → Prop} {V : Nat → Int32} {G : Nat → Nat → Int32} (h : MI ns nc dr V G) (hc : nc < 200) : G 31 nc = 0 := h.2.2.2.2.1 nc hc (h.2.2.2.2.2.1 nc (Nat.le_refl _) hc)
/-- an ASKING is taken away -/
theorem MI.takes {ns nc : Nat} {dr : Nat → Prop} {V : Nat → Int32} {G G1 : Nat → Nat → Int32} (h : MI ns nc dr V G) {c n : Nat} (hc : c < nc) (hn0 : 0 < n) (hn : n ≤ 2) (hk : G 31 c = nI n) (e31 : G1 31 = upd (G 31) c (nI (n - 1))) (h37 : I37 G1) (eo : ∀ j, j ≠ 31 → j ≠ 37 → G1 j = G j) : MI ns nc dr V G1 := by
  refine h.one hc (fun j hj => by rw [eo 30 (by decide) (by decide)]) (fun j hj => by rw [e31]; exact pk_un hj) ⟨n - 1, by omega, by rw [e31]; exact pk_us⟩ (fun hz => ?_) h37 (eo 17 (by decide) (by decide))
  rw [eo 30 (by decide) (by decide)] at hz
  have h9 := h.2.2.2.2.1 c (by have := h.2.1.2; omega) hz
  rw [hk] at h9
  exact absurd h9 (nI_ne0 hn0 (by omega))
def EndR (c : Nat) (how : Int32) (G G1 : Nat → Nat → Int32) : Prop := G1 31 c = 0 ∧ (∀ j, j ≠ c → G1 31 j = G 31 j) ∧ G1 30 = upd (G 30) c how ∧ I37 G1 ∧ ∀ j, j ≠ 30 → j ≠ 31 → j ≠ 37 → G1 j = G j
theorem MI.ends {ns nc : Nat} {dr : Nat → Prop} {V : Nat → Int32} {G G1 : Nat → Nat → Int32} (h : MI ns nc dr V G) {c : Nat} {how : Int32} (hc : c < nc) (r : EndR c how G G1) : MI ns nc dr V G1 :=
  h.one hc (fun j hj => by rw [r.2.2.1]; exact pk_un hj) r.2.1 ⟨0, by decide, r.1⟩ (fun _ => r.1) r.2.2.2.1 (r.2.2.2.2 17 (by decide) (by decide) (by decide))
/-- THE QUEUE's places: CALLS below n that are QUEUED, no one twice; the place h is left out -/
def Qh (j n h : Nat) (st qu : Nat → Int32) : Prop := (∀ t, t < n → t ≠ h → ∃ a, a < j ∧ qu t = nI a ∧ st a = 0) ∧ ∀ t u, t < n → u < n → t ≠ h → u ≠ h → t ≠ u → qu t ≠ qu u
def Qf (j n : Nat) (st qu : Nat → Int32) : Prop := (∀ t, t < n → ∃ a, a < j ∧ qu t = nI a ∧ st a = 0) ∧ ∀ t u, t < n → u < n → t ≠ u → qu t ≠ qu u
theorem Qf.hole {j n : Nat} {st qu : Nat → Int32} (h : Qf j n st qu) : Qh j (n + 1) n st qu := ⟨fun t h1 h2 => h.1 t (by omega), fun t u h1 h2 h3 h4 h5 => h.2 t u (by omega) (by omega) h5⟩
theorem Qh.shift {j n k : Nat} {st qu q2 : Nat → Int32} (h : Qh j n k st qu) (hk0 : 0 < k) (hk : k < n) (e : q2 = upd qu k (qu (k - 1))) : Qh j n (k - 1) st q2 := by
  subst e
  refine ⟨fun t h1 h2 => ?_, fun t u h1 h2 h3 h4 h5 => ?_⟩
  · by_cases q : t = k
    · subst q; rw [pk_us]; exact h.1 (t - 1) (by omega) (by omega)
    · rw [pk_un q]; exact h.1 t h1 q
  · by_cases q : t = k
    · subst q
      rw [pk_us, pk_un (fun z => h5 z.symm)]
      exact h.2 (t - 1) u (by omega) h2 (by omega) (fun z => h5 z.symm) (fun z => h4 z.symm)
    · by_cases q2 : u = k
      · subst q2
        rw [pk_us, pk_un q]
        exact h.2 t (u - 1) h1 (by omega) q (by omega) h3
      · rw [pk_un q, pk_un q2]
        exact h.2 t u h1 h2 q q2 h5
theorem Qh.put {j n k : Nat} {st qu q2 : Nat → Int32} (h : Qh j n k st qu) (hj : j < 200) (hk : k < n) (hs : st j = 0) (e : q2 = upd qu k (nI j)) : Qf (j + 1) n st q2 := by
  subst e
  have hne : ∀ t, t < n → t ≠ k → qu t ≠ nI j := fun t h1 h2 => by
    obtain ⟨a, h3, h4, -⟩ := h.1 t h1 h2
    rw [h4]
    exact fun z => absurd ((nI_eq (by omega) (by omega)).mp z) (by omega)
  refine ⟨fun t h1 => ?_, fun t u h1 h2 h5 => ?_⟩
  · by_cases q : t = k
    · subst q; exact ⟨j, by omega, pk_us, hs⟩
    · rw [pk_un q]
      obtain ⟨a, h3, h4⟩ := h.1 t h1 q
      exact ⟨a, by omega, h4⟩
  · by_cases q : t = k
    · subst q
      rw [pk_us, pk_un (fun z => h5 z.symm)]
      exact fun z => hne u h2 (fun z2 => h5 z2.symm) z.symm
    · by_cases q2 : u = k
      · subst q2; rw [pk_us, pk_un q]; exact hne t h1 q
      · rw [pk_un q, pk_un q2]; exact h.2 t u h1 h2 q q2 h5
theorem Qf.up {j n : Nat} {st qu : Nat → Int32} (h : Qf j n st qu) : Qf (j + 1) n st qu := ⟨fun t h1 => by obtain ⟨a, h2, h3⟩ := h.1 t h1; exact ⟨a, by omega, h3⟩, h.2⟩
theorem Qf.zero {j : Nat} {st qu : Nat → Int32} : Qf j 0 st qu := ⟨fun t h => absurd h (Nat.not_lt_zero t), fun t u h => absurd h (Nat.not_lt_zero t)⟩
/-- THE QUEUE from the place j on -/
def Qr (nc j n : Nat) (st qu : Nat → Int32) : Prop := (∀ t, j ≤ t → t < n → ∃ a, a < nc ∧ qu t = nI a ∧ st a = 0) ∧ ∀ t u, t < n → u < n → t ≠ u → qu t ≠ qu u
theorem Qr.next {nc j n a : Nat} {st st2 qu : Nat → Int32} (h : Qr nc j n st qu) (hj : j < n) (ha : qu j = nI a) (e : ∀ x, x ≠ a → st2 x = st x) : Qr nc (j + 1) n st2 qu := by
  refine ⟨fun t h1 h2 => ?_, h.2⟩
  obtain ⟨b, h3, h4, h5⟩ := h.1 t (by omega) h2
  refine ⟨b, h3, h4, ?_⟩
  rw [e b (fun z => ?_)]
  · exact h5
  · subst z
    exact h.2 t j h2 hj (by omega) (h4.trans ha.symm)
