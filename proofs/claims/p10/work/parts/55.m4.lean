theorem pz_n7 : ¬ (7 : Int32) < 0 := by decide +kernel
theorem pz_n8 : ¬ (8 : Int32) < 0 := by decide +kernel
theorem pz_n200 : ¬ (200 : Int32) < 0 := by decide +kernel
theorem pz_n400 : ¬ (400 : Int32) < 0 := by decide +kernel
theorem pz_c7 : (7 : Int32).toNatClampNeg = 7 := by decide +kernel
theorem pz_c8 : (8 : Int32).toNatClampNeg = 8 := by decide +kernel
theorem pz_c200 : (200 : Int32).toNatClampNeg = 200 := by decide +kernel
theorem pz_c400 : (400 : Int32).toNatClampNeg = 400 := by decide +kernel
def kx (i : Nat) : Nat := if i = 0 then 0 else i + 10
/-- the rows made so far -/
def Jn (dC : Nat → ClassId) (dI : Nat → Nat → Nat) (sz n : Nat) (H : Heap) : Prop := ∀ i, i < n → iat dC dI (sz + i) (mC (kx i)) (mN (kx i)) (fun _ => 0) H
theorem Jn.push {dC : Nat → ClassId} {dI : Nat → Nat → Nat} {sz n c N : Nat} {H H1 : Heap} (h : Jn dC dI sz n H) (hz : H.size = sz + n) (ho : ∀ y : Nat, y < H.size → H1[y]? = H[y]?) (hc : mC (kx n) = c) (hN : mN (kx n) = N) (hi : iat dC dI (sz + n) c N (fun _ => 0) H1) : Jn dC dI sz (n + 1) H1 := fun i hl => by
  rcases Nat.lt_succ_iff_lt_or_eq.mp hl with g | g
  · exact va_at.kept (h i g) (ho _ (by omega))
  · rw [g, hc, hN]; exact hi
theorem Jn.keep {dC : Nat → ClassId} {dI : Nat → Nat → Nat} {sz n h0 : Nat} {H H1 : Heap} (h : Jn dC dI sz n H) (hz : H.size = sz + n) (h00 : h0 < sz) (ho : ∀ y : Nat, y < H.size → ¬ y = h0 → H1[y]? = H[y]?) : Jn dC dI sz n H1 := fun i hl => va_at.kept (h i hl) (ho _ (by omega) (by omega))
theorem mAr_ge {k : Nat} (h : mAr k = true) : k = 0 ∨ (11 ≤ k ∧ k ≤ 41) := by
  unfold mAr at h
  simp at h
  omega
theorem mAr_jn {dC : Nat → ClassId} {dI : Nat → Nat → Nat} {sz k : Nat} {H : Heap} (h : mAr k = true) (hJ : Jn dC dI sz 32 H) : iat dC dI (sz + (k - 10)) (mC k) (mN k) (fun _ => 0) H := by
  have h1 := mAr_ge h
  have h2 := hJ (k - 10) (by omega)
  have h3 : kx (k - 10) = k := by unfold kx; split <;> omega
  rw [h3] at h2
  exact h2
section B55
variable {p : Program} {l : Launch} {e : Env} {R : Room} {s : State} {m : MethodId} {args : Array Value} {below : List Frame} {meth : Method} {c : Code} {H : Heap} {locs : List Loc} {slots : Nat} {Q : State → Prop}
variable {cc : ByteArray} {pc nL : Nat} {ls : Array Slot} {dC : Nat → ClassId} {dI : Nat → Nat → Nat} {h0 : Nat}
theorem m4_arr {fs : List Value} {k n N index ci : Nat} {atype : ArrayType} {ty : FieldType} {i : Int32} (S : CallFix p m c cc nL s args tb RX4) (hK : Kt dC dI s) (hin : meth.name = "<init>") (h00 : h0 < s.heap.size) (ho : oat dC dI h0 5 fs H) (hJ : Jn dC dI s.heap.size n H) (hz : H.size = s.heap.size + n) (hS : va_S (fun y => y = h0) s.heap H locs)
    (harr : (Cond.arrayClass (newarray.typeOf atype)).before args s = true) (hd1 : decode cc pc = .ok (.newarray atype, 2)) (hd2 : decode cc (pc + 2) = .ok (.putfield index, 3)) (hn : ¬ i < 0) (hN : i.toNatClampNeg = N) (hby : N * componentBytes (newarray.typeOf atype) ≤ 536870912) (hci : ci < 9) (hnm : "[" ++ (newarray.typeOf atype).toString = kNm ci) (hcell : ∀ cA : ClassId, vp_cell cA (N, .inl (fun _ => 0)) = arrV cA N (fun _ => defaultValue (newarray.typeOf atype))) (hc : mC (kx n) = ci) (hNk : mN (kx n) = N)
    (hk : k < 43) (hlk : Cond.fieldLink RX4 index "FrontDoorModel" (TX4 k).2.1 (TX4 k).2.2.1 ∈ tb) (hw : (TX4 k).1 = "FrontDoorModel") (hfin : (TX4 k).2.2.2 = true) (hd : parseFieldDescriptor (TX4 k).2.2.1 = some ty) (hnw : ∀ q : Nat, narrow ty (.ref q) = .ref q) (hft : ∀ q : Nat, fits ty (.ref q) = true) (hl : k < fs.length) (hR : n + 1 ≤ R.cells ∧ slots + N ≤ R.slots)
    (kk : ∀ (H1 : Heap) (locs1 : List Loc), oat dC dI h0 5 (fs.set k (.ref (s.heap.size + n))) H1 → Jn dC dI s.heap.size (n + 1) H1 → H1.size = s.heap.size + (n + 1) → va_S (fun y => y = h0) s.heap H1 locs1 → W p l e R s m args below meth c H1 locs1 (n + 1) (slots + N) Q (F0 m (pc + 5) ls [])) : W p l e R s m args below meth c H locs n slots Q (F0 m pc ls [.int i, .ref h0]) := by
  refine va_newaK S.1 S.2.1 harr rfl hd1 rfl hn hN hby hR.1 hR.2 hz (fun H1 cA e1 z1 o1 _ hNm => ?_)
  rw [hnm] at hNm
  obtain rfl : cA = dC ci := Option.some.inj (hNm.symm.trans (hK.name ci hci))
  have hJ1 := hJ.push (H1 := H1) (c := ci) (N := N) hz (fun y9 h9 => o1 y9 (by omega)) hc hNk (show iat dC dI (s.heap.size + n) ci N (fun _ => 0) H1 from e1.trans (congrArg some (hcell _).symm))
  have ho1 : oat dC dI h0 5 fs H1 := va_at.kept ho (o1 h0 (by omega))
  have hS1 : va_S (fun y => y = h0) s.heap H1 locs := ⟨by omega, fun x9 h8 h9 => (o1 x9 (by omega)).trans (hS.2.1 x9 h8 h9), hS.2.2⟩
  refine W.eq (g2 := F0 m (pc + 2) ls [.ref (s.heap.size + n), .ref h0]) rfl ?_
  refine va_putF (D := (dC, dI)) (ws := [(h0, .inr (5, fs))]) (A := fun y => y = h0) (ci := 5) (v := .ref (s.heap.size + n)) (ty := ty) (C := RX4) (T := TX4) (N := 43) S.1 S.2.1 S.2.2.2.2 inX4 tyX4 tyX4_ok nmX4 S.2.2.2.1 hK (va_P1 ho1) (va_D1 rfl) ⟨Nat.le_refl _, fun _ _ _ => rfl, hS1.2.2⟩ 0 rfl rfl k hk (S.2.2.2.2 _ hlk) (fun x h => by rw [hw] at h; exact h) hfin hin hw hd (hnw _) (hft _) hl hd2 (fun H2 locs2 hP _ hS2 => ?_)
  refine W.learn (fun _ lr2 _ => ?_)
  refine kk H2 locs2 (hP 0 _ rfl) (hJ1.keep (by omega) h00 (fun y9 h8 h9 => hS2.2.1 y9 h8 h9)) (by have h9 := hS2.1; omega) ⟨Nat.le_trans hS1.1 hS2.1, fun x9 h8 h9 => (hS2.2.1 x9 (Nat.lt_of_lt_of_le h8 hS1.1) h9).trans (hS1.2.1 x9 h8 h9), hS2.2.2⟩
end B55
