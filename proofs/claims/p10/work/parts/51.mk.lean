theorem bit_key (X Y : BitVec 32) (n : Nat) (h : ((X ||| Y).sshiftRight n) &&& 1#32 = 0#32) : (X.sshiftRight n) &&& 1#32 = 0#32 := by
  apply BitVec.eq_of_getLsbD_eq
  intro i hi
  have h1 := congrArg (fun b => b.getLsbD i) h
  simp only [BitVec.getLsbD_and, BitVec.getLsbD_sshiftRight] at h1 ⊢
  by_cases hn : n + i < 32
  · simp [hn, hi] at h1 ⊢
    intro h2
    cases i with
    | zero => simp_all
    | succ i => simp_all
  · simp [hn, hi] at h1 ⊢
    intro h2
    cases i with
    | zero => simp_all
    | succ i => simp_all
theorem bit_mono (x y s : Int32) (h : ((x ||| y) >>> s) &&& 1 = 0) : (x >>> s) &&& 1 = 0 := by
  apply Int32.toBitVec_inj.mp
  have h2 := Int32.toBitVec_inj.mpr h
  simp only [Int32.toBitVec_and, Int32.toBitVec_shiftRight, Int32.toBitVec_or] at h2 ⊢
  exact bit_key x.toBitVec y.toBitVec _ h2
def bz (x : Int32) (k : Nat) : Nat := if (x >>> (nI k &&& 31)) &&& 1 = 0 then 1 else 0
def clr (x : Int32) : Nat → Nat
  | 0 => 0
  | n + 1 => clr x n + bz x n
theorem bz_or (x y : Int32) (k : Nat) : bz (x ||| y) k ≤ bz x k := by
  unfold bz
  split
  · next h => rw [if_pos (bit_mono x y _ h)]; exact Nat.le_refl _
  · exact Nat.zero_le _
theorem clr_or (x y : Int32) : ∀ n, clr (x ||| y) n ≤ clr x n
  | 0 => Nat.le_refl _
  | n + 1 => Nat.add_le_add (clr_or x y n) (bz_or x y n)
theorem clr_lt {x y : Int32} {j : Nat} (h1 : bz x j = 1) (h2 : bz (x ||| y) j = 0) : ∀ n, j < n → clr (x ||| y) n + 1 ≤ clr x n
  | 0, h => absurd h (Nat.not_lt_zero _)
  | n + 1, h => by
    show clr (x ||| y) n + bz (x ||| y) n + 1 ≤ clr x n + bz x n
    have a := clr_or x y n
    have b := bz_or x y n
    rcases Nat.lt_succ_iff_lt_or_eq.mp h with q | q
    · have := clr_lt h1 h2 n q; omega
    · subst q; omega
def smc (tr : Nat → Int32) : Nat → Nat
  | 0 => 0
  | n + 1 => smc tr n + clr (tr n) 8
theorem smc_eq {t1 t2 : Nat → Int32} : ∀ n, (∀ k, k < n → t1 k = t2 k) → smc t1 n = smc t2 n
  | 0, _ => rfl
  | n + 1, h => by
    show smc t1 n + clr (t1 n) 8 = smc t2 n + clr (t2 n) 8
    rw [smc_eq n (fun k hk => h k (by omega)), h n (by omega)]
theorem smc_ge {tr : Nat → Int32} {k : Nat} : ∀ n, k < n → clr (tr k) 8 ≤ smc tr n
  | 0, h => absurd h (Nat.not_lt_zero _)
  | n + 1, h => by
    show clr (tr k) 8 ≤ smc tr n + clr (tr n) 8
    rcases Nat.lt_succ_iff_lt_or_eq.mp h with q | q
    · have := smc_ge (tr := tr) n q; omega
    · subst q; omega
theorem smc_lt {t1 t2 : Nat → Int32} {k : Nat} (h : clr (t1 k) 8 + 1 ≤ clr (t2 k) 8) (ho : ∀ i, i ≠ k → t1 i = t2 i) : ∀ n, k < n → smc t1 n + 1 ≤ smc t2 n
  | 0, hk => absurd hk (Nat.not_lt_zero _)
  | n + 1, hk => by
    show smc t1 n + clr (t1 n) 8 + 1 ≤ smc t2 n + clr (t2 n) 8
    rcases Nat.lt_succ_iff_lt_or_eq.mp hk with q | q
    · have := smc_lt h ho n q; rw [ho n (by omega)]; omega
    · subst q; rw [smc_eq k (fun i hi => ho i (by omega))]; omega
theorem clr_8 : ∀ (x : Int32) n, clr x n ≤ n
  | _, 0 => Nat.le_refl _
  | x, n + 1 => by
    show clr x n + bz x n ≤ n + 1
    have := clr_8 x n
    unfold bz
    split <;> omega
def agn (X : Nat → Int32) : Nat := (X 10).toInt.toNat
theorem sum_le9 : ∀ (l : List Nat), (∀ a ∈ l, a ≤ 610) → l.sum ≤ 610 * l.length
  | [], _ => Nat.zero_le _
  | b :: l, h => by
    rw [List.sum_cons, List.length_cons]
    have h1 := h b (by simp)
    have h2 := sum_le9 l (fun a ha => h a (by simp [ha]))
    omega
theorem bz_1 {x : Int32} {k : Nat} (h : (x >>> (nI k &&& 31)) &&& 1 = 0) : bz x k = 1 := by
  unfold bz
  rw [if_pos h]
theorem bz_set (x : Int32) {j : Nat} (h : j < 8) : bz (x ||| ((1 : Int32) <<< (nI j &&& 31))) j = 0 := by
  have h1 : _ = _ := gBit_or x j h
  unfold bz
  rw [if_neg (fun q => absurd (h1.symm.trans q) (by decide))]
theorem smc_set {tr : Nat → Int32} {k j n : Nat} (hk : k < n) (hj : j < 8) (h : (tr k >>> (nI j &&& 31)) &&& 1 = 0) : smc (va_up tr k (tr k ||| ((1 : Int32) <<< (nI j &&& 31)))) n + 1 ≤ smc tr n :=
  smc_lt (k := k) (by rw [show va_up tr k (tr k ||| ((1 : Int32) <<< (nI j &&& 31))) k = _ from vu_s]; exact clr_lt (bz_1 h) (bz_set _ hj) 8 hj) (fun i hi => vu_n hi) n hk
theorem agn_of {X : Nat → Int32} {a : Nat} (h : X 10 = nI a) (ha : a ≤ 200) : agn X = a := by
  unfold agn
  rw [h, pz_ti (by omega)]
  rfl
theorem agn_eq {X X1 : Nat → Int32} (h : X1 10 = X 10) : agn X1 = agn X := by
  unfold agn
  rw [h]
theorem sls_le {H : Heap} {b n : Nat} (h : Sz b H) (hb : b ≤ n) : sls H n ≤ 610 * (H.size - n) := by
  unfold sls
  have h1 := sum_le9 ((H.toList.drop n).map (fun c => c.slots.size)) (fun a ha => by
    obtain ⟨c, hc, rfl⟩ := List.mem_map.mp ha
    obtain ⟨i, hi⟩ := List.mem_iff_getElem?.mp hc
    rw [List.getElem?_drop, Array.getElem?_toList] at hi
    exact h (n + i) c (by omega) hi)
  rw [List.length_map, List.length_drop, Array.length_toList] at h1
  exact h1
theorem rm_ok {n sz cp : Nat} (h1 : sz ≤ n) (h2 : n ≤ cp) : n - sz + (cp - n) ≤ cp - sz ∧ 610 * (n - sz) + 610 * (cp - n) ≤ 610 * (cp - sz) := ⟨by omega, by omega⟩
theorem rm_one {n sz cp : Nat} (h1 : sz ≤ n) (h2 : n + 1 ≤ cp) : n - sz + 1 ≤ cp - sz ∧ 610 * (n - sz) + 610 ≤ 610 * (cp - sz) := ⟨by omega, by omega⟩
section B51
variable {p : Program} {l : Launch} {e : Env} {R : Room} {s : State} {m : MethodId} {args : Array Value} {below : List Frame} {meth : Method} {c : Code} {H : Heap} {locs : List Loc} {cells slots : Nat} {Q : State → Prop}
variable {cc : ByteArray} {pc nL : Nat} {ls : Array Slot} {rest : List Value} {dC : Nat → ClassId} {dI : Nat → Nat → Nat} {z : Nat} {A : Nat → Prop} {bs cp h0 : Nat} {la sA cA : Nat → Nat} {ns nc : Nat} {dr : Nat → Prop} {X : Nat → Int32} {P : Nat → Prop} {tr : Nat → Int32} {nl nq rs sz : Nat} {H0 H1 : Heap}
/-- the counters: exactly what is new -/
theorem W.ti9 {g : JFrame} (hsz : s.heap.size = sz) (hbs : bs ≤ sz) (hS : va_S A s.heap H locs) (hz : Sz bs H) (kk : W p l e R s m args below meth c H locs (H.size - sz) (610 * (H.size - sz)) Q g) : W p l e R s m args below meth c H locs cells slots Q g := by
  have h1 := hS.1
  refine W.tight _ _ (by omega) ?_ kk
  have h2 := sls_le hz (n := s.heap.size) (by omega)
  rw [hsz] at h2
  rw [hsz]
  exact h2
/-- the counters: all that may become new -/
theorem W.to9 {g : JFrame} (hsz : s.heap.size = sz) (hbs : bs ≤ sz) (hS : va_S A s.heap H locs) (hz : Sz bs H) (hc : H.size ≤ cp) (kk : W p l e R s m args below meth c H locs (cp - sz) (610 * (cp - sz)) Q g) : W p l e R s m args below meth c H locs cells slots Q g := by
  have h1 := hS.1
  refine W.tight _ _ (by omega) ?_ kk
  have h2 := sls_le hz (n := s.heap.size) (by omega)
  rw [hsz] at h2
  rw [hsz]
  omega
theorem W.ti {g : JFrame} (hsz : s.heap.size = sz) (hbs : bs ≤ sz) (hS : va_S A s.heap H locs) (hW : Cw dC dI z A bs cp h0 la sA cA ns nc dr X P tr nl nq rs H) (kk : W p l e R s m args below meth c H locs (H.size - sz) (610 * (H.size - sz)) Q g) : W p l e R s m args below meth c H locs cells slots Q g := W.ti9 hsz hbs hS hW.2.2.2.2.2.1.1 kk
theorem W.to {g : JFrame} (hsz : s.heap.size = sz) (hbs : bs ≤ sz) (hS : va_S A s.heap H locs) (hW : Cw dC dI z A bs cp h0 la sA cA ns nc dr X P tr nl nq rs H) (kk : W p l e R s m args below meth c H locs (cp - sz) (610 * (cp - sz)) Q g) : W p l e R s m args below meth c H locs cells slots Q g := W.to9 hsz hbs hS hW.2.2.2.2.2.1.1 (by have h9 := hW.2.2.2.2.2.1.2.1; omega) kk
theorem Cw.rok (hsz : s.heap.size = sz) (hS : va_S A s.heap H locs) (hW : Cw dC dI z A bs cp h0 la sA cA ns nc dr X P tr nl nq rs H) : H.size - sz + (cp - H.size) ≤ cp - sz ∧ 610 * (H.size - sz) + 610 * (cp - H.size) ≤ 610 * (cp - sz) := rm_ok (by have h9 := hS.1; omega) (by have h9 := hW.2.2.2.2.2.1.2.1; omega)
theorem Cw.rone (hsz : s.heap.size = sz) (hS : va_S A s.heap H locs) (hW : Cw dC dI z A bs cp h0 la sA cA ns nc dr X P tr nl nq rs H) (h1 : 1 ≤ rs) : H.size - sz + 1 ≤ cp - sz ∧ 610 * (H.size - sz) + 610 ≤ 610 * (cp - sz) := rm_one (by have h9 := hS.1; omega) (by have h9 := hW.2.2.2.2.2.1.2.1; omega)
/-- a new ASKING -/
theorem Cw.asking {q k : Nat} {w : Nat → Int32} (hW : Cw dC dI z A bs cp h0 la sA cA ns nc dr X P tr nl nq rs H) (hk : k < ns) (hrs : 1 ≤ rs) (hq : q = H.size) (hf : ∀ y : Nat, y < H.size → H1[y]? = H[y]?) (hz : H1.size = H.size + 1) (hs : Sz bs H1) (ho : oat dC dI q 1 (eA (sA k) w) H1) : Cw dC dI z A bs cp h0 la sA cA ns nc dr X (fun r => P r ∨ r = q) tr nl nq (rs - 1) H1 := by
  obtain ⟨a, b, c, d, e, ⟨f1, f2, f3⟩, i⟩ := hW.kp (Kp.fresh hf) (rs1 := rs - 1) ⟨hs, by have h9 := hW.2.2.2.2.2.1.2.1; omega, fun y hy => hW.2.2.2.2.2.1.2.2 y (by omega)⟩
  refine ⟨a, b, c, fun k9 h9 => ?_, fun r hr => ?_, ⟨f1, f2, f3⟩, i⟩
  · obtain ⟨g1, y, p9, q9, g2, g3, g4, g5⟩ := d k9 h9
    exact ⟨g1, y, p9, q9, g2, g3, fun r h => Or.inl (g4 r h), fun r h => Or.inl (g5 r h)⟩
  · rcases hr with hr | rfl
    · exact e r hr
    · exact ⟨hW.2.2.2.2.2.1.2.2 r (by omega), w, k, hk, ho⟩
theorem A_get0x {own : String} {index r b : Nat} {w : Nat → Int32} (S : CallFix p m c cc nL s args tb own) (hK : Kt dC dI s) (h2 : oat dC dI r 1 (eA b w) H) (hl : Cond.fieldLink own index "FrontDoor$Asking" (TX0 0).2.1 (TX0 0).2.2.1 ∈ tb) (hn : (TX0 0).1 = "FrontDoor$Asking") (hdg : decode cc pc = .ok (.getfield index, 3)) (kk : W p l e R s m args below meth c H locs cells slots Q (F0 m (pc + 3) ls (.ref b :: rest))) : W p l e R s m args below meth c H locs cells slots Q (F0 m (pc) ls (.ref r :: rest)) :=
  x_get (C := RX0) (T := TX0) (N := 4) (ci := 1) S.1 S.2.1 S.2.2.2.2 inX0 S.2.2.2.1 hK h2 rfl 0 (by decide) (S.2.2.2.2 _ hl) (fun x h => by rw [hn] at h; exact h) (rfl) hdg kk
theorem C_put10x {own : String} {index k : Nat} {o : Option Nat} (S : CallFix p m c cc nL s args tb own) (hK : Kt dC dI s) (hW : Cw dC dI z A bs cp h0 la sA cA ns nc dr X P tr nl nq rs H) (hS : va_S A H0 H locs) (hk : k < nc) (hl : Cond.fieldLink own index "FrontDoor$Call" (TX1 10).2.1 (TX1 10).2.2.1 ∈ tb) (hn : (TX1 10).1 = "FrontDoor$Call") (hdg : decode cc pc = .ok (.putfield index, 3)) (hok : ∀ r, o = some r → P r) (kk : ∀ (H1 : Heap) (locs1 : List Loc), One (cA k) H H1 → Cw dC dI z A bs cp h0 la sA cA ns nc dr X P tr nl nq rs H1 → va_S A H0 H1 locs1 → W p l e R s m args below meth c H1 locs1 cells slots Q (F0 m (pc + 3) ls (rest))) : W p l e R s m args below meth c H locs cells slots Q (F0 m (pc) ls (va_rf o :: .ref (cA k) :: rest)) := by
  obtain ⟨h1, y, a, b, h2, ⟨h3, h4⟩, h5⟩ := hW.2.2.2.1 k hk
  refine x_put (C := RX1) (T := TX1) (N := 12) (ci := 2) (ty := .object "FrontDoor$Asking") S.1 S.2.1 S.2.2.2.2 inX1 tyX1 tyX1_ok nmX1 S.2.2.2.1 hK hS h1 h2 rfl 10 (by decide) (S.2.2.2.2 _ hl) (fun x h => by rw [hn] at h; exact h) rfl (by decide +kernel) (by cases o <;> rfl) (by cases o <;> rfl) (Nat.le_of_ble_eq_true rfl) hdg (fun H1 locs1 ho hO hS1 => ?_)
  exact kk H1 locs1 hO (hW.cal (y := y) (tr1 := tr) hK hk hO (show oat dC dI (cA k) 2 (eC y o b) H1 from ho) h3 h4 (fun _ _ => rfl) hok h5.2) hS1
theorem C_put11x {own : String} {index k : Nat} {o : Option Nat} (S : CallFix p m c cc nL s args tb own) (hK : Kt dC dI s) (hW : Cw dC dI z A bs cp h0 la sA cA ns nc dr X P tr nl nq rs H) (hS : va_S A H0 H locs) (hk : k < nc) (hl : Cond.fieldLink own index "FrontDoor$Call" (TX1 11).2.1 (TX1 11).2.2.1 ∈ tb) (hn : (TX1 11).1 = "FrontDoor$Call") (hdg : decode cc pc = .ok (.putfield index, 3)) (hok : ∀ r, o = some r → P r) (kk : ∀ (H1 : Heap) (locs1 : List Loc), One (cA k) H H1 → Cw dC dI z A bs cp h0 la sA cA ns nc dr X P tr nl nq rs H1 → va_S A H0 H1 locs1 → W p l e R s m args below meth c H1 locs1 cells slots Q (F0 m (pc + 3) ls (rest))) : W p l e R s m args below meth c H locs cells slots Q (F0 m (pc) ls (va_rf o :: .ref (cA k) :: rest)) := by
  obtain ⟨h1, y, a, b, h2, ⟨h3, h4⟩, h5⟩ := hW.2.2.2.1 k hk
  refine x_put (C := RX1) (T := TX1) (N := 12) (ci := 2) (ty := .object "FrontDoor$Asking") S.1 S.2.1 S.2.2.2.2 inX1 tyX1 tyX1_ok nmX1 S.2.2.2.1 hK hS h1 h2 rfl 11 (by decide) (S.2.2.2.2 _ hl) (fun x h => by rw [hn] at h; exact h) rfl (by decide +kernel) (by cases o <;> rfl) (by cases o <;> rfl) (Nat.le_of_ble_eq_true rfl) hdg (fun H1 locs1 ho hO hS1 => ?_)
  exact kk H1 locs1 hO (hW.cal (y := y) (tr1 := tr) hK hk hO (show oat dC dI (cA k) 2 (eC y a o) H1 from ho) h3 h4 (fun _ _ => rfl) h5.1 hok) hS1
/-- an ASKING is no CALL -/
theorem Cw.one0 {k r b : Nat} {w : Nat → Int32} (hK : Kt dC dI s) (hW : Cw dC dI z A bs cp h0 la sA cA ns nc dr X P tr nl nq rs H) (hk : k < nc) (hO : One (cA k) H H1) (h2 : oat dC dI r 1 (eA b w) H) : oat dC dI r 1 (eA b w) H1 := by
  obtain ⟨g1, y, p9, q9, g2, -⟩ := hW.2.2.2.1 k hk
  exact hO.oat h2 (cls_ne hK.inj (oat_cls h2) (oat_cls g2) (by decide) (by decide) (by decide))
end B51
