theorem x_putF {p : Program} {l : Launch} {e : Env} {R : Room} {s : State} {m : MethodId} {args : Array Value} {below : List Frame} {meth : Method} {c : Code} {H : Heap} {locs : List Loc} {cells slots : Nat} {Q : State → Prop} {cc : ByteArray} {pc : Nat} {ls : Array Slot} {rest : List Value} {dC : Nat → ClassId} {dI : Nat → Nat → Nat} {A : Nat → Prop} {a : Nat} {H0 : Heap} {Ts : List Cond} (hx : p.tables.exec = Jvm.exec) (hb : c.code = cc) {own ref C : String} {T : u_T} {N ci index : Nat} (hts : ∀ w ∈ Ts, w.before args s = true) (hin : ∀ w ∈ u_ws C T N, w ∈ Ts) (ty0 : Nat → FieldType) (hty : ∀ k, k < N → parseFieldDescriptor (T k).2.2.1 = some (ty0 k)) (hnm : ∀ a, a < N → ∀ b, b < N → a ≠ b → (T a).2.1 ≠ (T b).2.1) (hown : s.vm.findClass own = some m.cls) (hK : Kt dC dI s) (hS0 : va_S A H0 H locs) (hA : A a) {fs : List Value} (ho : oat dC dI a ci fs H) (hc : vwCl[ci]? = some (C, T, N)) (k : Nat) (hk : k < N) (hlink : (Cond.fieldLink own index ref (T k).2.1 (T k).2.2.1).before args s = true) (hsame : ∀ x, s.fieldFound? (T k).1 (T k).2.1 (T k).2.2.1 = some x → s.fieldFound? ref (T k).2.1 (T k).2.2.1 = some x) (hfin : (T k).2.2.2 = true) (hin2 : meth.name = "<init>") (hdecl : (T k).1 = own) {ty : FieldType} {v : Value} (hd : parseFieldDescriptor (T k).2.2.1 = some ty) (hn : narrow ty v = v) (hfit : fits ty v = true) (hl : k < fs.length)
    (hdg : decode cc pc = .ok (.putfield index, 3)) (kk : ∀ (H1 : Heap) (locs1 : List Loc), oat dC dI a ci (fs.set k v) H1 → One a H H1 → va_S A H0 H1 locs1 → W p l e R s m args below meth c H1 locs1 cells slots Q (F0 m (pc + 3) ls rest)) : W p l e R s m args below meth c H locs cells slots Q (F0 m pc ls (v :: .ref a :: rest)) := by
  have hap := va_apart (own := own) hts hin ty0 hty hnm hK hc
  obtain ⟨r, h1, cell, q1, q2, q3, q4⟩ := ho
  have hr : r = (C, T, N) := Option.some.inj (h1.symm.trans hc)
  subst hr
  obtain ⟨hS, hfc, kC, hkC, hkind⟩ := hK.1 ci _ hc
  obtain ⟨cf, kf, fi, f, hi, hsl⟩ := hS k hk
  have hlay := hts _ (hin _ (u_in_lay hk))
  unfold u_lay at hlay
  rw [if_pos hfin] at hlay
  have hst := (u_facts hfc hkC (u_lays hts hin hk) hi).1
  have hcf : m.cls = cf := by
    obtain ⟨_, _, c', _, _, _, -, -, hf', -, -, -, hown2, -⟩ := Cond.laysFinal_spec hlay
    have e1 : c' = cf := by have := hi.symm.trans hf'; simp at this; exact this.1.symm
    rw [hdecl] at hown2
    rw [← e1]; exact Option.some.inj (hown.symm.trans hown2)
  have h6 := u_fits hfc hkC hkind (Or.inr hlay) hi hd hn hfit
  refine W.putFinK hx hb hown hlink (hsame _ hi) hst hcf hin2 (by rw [q2]; exact h6) q1 q3 (by rw [hsl]; exact k2_hasslot (q4 k hk)) rfl rfl hdg fun H' e1 e2 e3 => ?_
  have hO := One.of q1 e1 e2 e3
  rw [hsl] at e1 ⊢
  exact kk H' _ ⟨_, hc, t_OB.to (V := updV (vp_V fs) k v) ⟨_, e1, q2, q3, t_set q4 hap hk v⟩ (fun j _ => vp_updV_set hl v j)⟩ hO (hS0.put e2 e3 hA)
set_option maxHeartbeats 4000000 in
theorem q_Jxa1e45_init (l : Launch) (dC : Nat → ClassId) (dI : Nat → Nat → Nat) (q : Nat) : Met l yJxa1e45_init_da8c8 (cws yJxa1e45_init_da8c8 cJxa1e45_init_da8c8 1 none) { frames := 1, cells := 0, slots := 0, locals := 12 } (va_Pc [.ref q] (fun U => Kt dC dI U ∧ (fun _ : Heap => True) U.heap)) (Qg (fun v _ => v = none) (fun _ => False)) 0 0 (fun _ => False) := by
  refine m_start (KK := Kt dC dI) (Pw := fun _ : Heap => True) (by decide) (Nat.le_of_ble_eq_true rfl) ?_
  intro p e s m below meth c ls S hr hlocks hin hK hW hS hl
  obtain ⟨hx, hb, hml, hown, hts⟩ := id S
  have hl : lv_has ls 1 [(0, .ref q)] := hl
  refine lv_aload_n hx hb dJxa1e45_init_da8c8_0 rfl (lv_at hl 0 rfl) ?_
  refine W.objInit hx hb hown (hts _ iw_90) (hts _ iw_77) (hts _ iw_78) rfl (by rw [hml]; exact hl.1) rfl dJxa1e45_init_da8c8_1 (Nat.le_of_ble_eq_true rfl) (Nat.le_of_ble_eq_true rfl) ?_
  refine W.eq (g2 := F0 m 4 ls []) rfl ?_
  exact r_v hx hb hr hlocks hS dJxa1e45_init_da8c8_4 rfl
set_option maxHeartbeats 4000000 in
theorem q_Jxc12de_init (l : Launch) (dC : Nat → ClassId) (dI : Nat → Nat → Nat) (q sz : Nat) : Met l yJxc12de_init_da8c8 (cws yJxc12de_init_da8c8 cJxc12de_init_da8c8 1 none) { frames := 2, cells := 0, slots := 0, locals := 32 } (va_Pc [.ref q] (fun U => Kt dC dI U ∧ (fun H => H.size = sz ∧ oat dC dI q 0 [.int 0, .null, .int 0] H) U.heap)) (Qg (fun v H => v = none ∧ oat dC dI q 0 [.int 0, .null, .int 0] H ∧ H.size ≤ sz + 0) (fun y => y = q)) 0 0 (fun y => y = q) := by
  refine m_start (KK := Kt dC dI) (Pw := fun H => H.size = sz ∧ oat dC dI q 0 [.int 0, .null, .int 0] H) (by decide) (Nat.le_of_ble_eq_true rfl) ?_
  intro p e s m below meth c ls S hr hlocks hin hK hW hS hl
  obtain ⟨hx, hb, hml, hown, hts⟩ := id S
  obtain ⟨hsz, ho⟩ := hW
  subst hsz
  have hq : q < s.heap.size := va_at.lt ho
  have hl : lv_has ls 1 [(0, .ref q)] := hl
  refine lv_aload_n hx hb dJxc12de_init_da8c8_0 rfl (lv_at hl 0 rfl) ?_
  refine c_i (KK := Kt dC dI) (Pw := fun _ : Heap => True) (n := 0) (As := []) (rest := []) S (q_Jxa1e45_init l dC dI q) iw_89 iw_87 iw_88 iw_58 rfl (by decide +kernel) rfl ⟨rfl, rfl, Nat.le_of_ble_eq_true rfl, Nat.le_of_ble_eq_true rfl⟩ Kt.blind (fun U _ h9 => va_K.moved h9.alike hK) trivial hl.1 rfl (Nat.le_of_ble_eq_true rfl) dJxc12de_init_da8c8_1 ⟨Nat.le_of_ble_eq_true rfl, Nat.le_of_ble_eq_true rfl⟩ hS (fun y9 h9 => h9.elim) (fun v9 H locs hB hz9 hk9 hS => ?_)
  cases hB
  have ho : oat dC dI q 0 [.int 0, .null, .int 0] H := va_at.kept ho (hk9 q hq (fun h => h))
  refine W.eq (g2 := F0 m 4 ls []) rfl ?_
  refine lv_aload_n hx hb dJxc12de_init_da8c8_4 rfl (lv_at hl 0 rfl) ?_
  refine lv_iconst (v := 0) hx hb dJxc12de_init_da8c8_5 (by decide) ?_
  refine x_put (C := RJx4a65c) (T := TJx4a65c) (N := 3) (ci := 0) (ty := .int) hx hb hts inJx4a65c tyJx4a65c tyJx4a65c_ok nmJx4a65c hown hK hS rfl ho rfl 0 (by decide) (hts _ iw_95) (fun _ h9 => h9) rfl (by decide +kernel) rfl rfl (Nat.le_of_ble_eq_true rfl) dJxc12de_init_da8c8_6 (fun H locs ho hO hS => ?_)
  refine W.learn (fun lr1 lr2 lr3 => ?_)
  exact r_v hx hb hr hlocks hS dJxc12de_init_da8c8_9 ⟨rfl, ho, lr2⟩
set_option maxHeartbeats 4000000 in
theorem q_Jx4a65c_init (l : Launch) (dC : Nat → ClassId) (dI : Nat → Nat → Nat) (z mi q sz : Nat) : Met l yJx4a65c_init_da8c8 (cws yJx4a65c_init_da8c8 cJx4a65c_init_da8c8 1 none) { frames := 3, cells := 0, slots := 0, locals := 52 } (va_Pc [.ref q] (fun U => KZ dC dI z mi (fun y => y = q) U ∧ (fun H => H.size = sz ∧ oat dC dI q 0 [.int 0, .null, .int 0] H) U.heap)) (Qg (fun v H => v = none ∧ oat dC dI q 0 [.int 0, .ref z, .int 0] H ∧ H.size ≤ sz + 0) (fun y => y = q)) 0 0 (fun y => y = q) := by
  refine m_start (KK := KZ dC dI z mi (fun y => y = q)) (Pw := fun H => H.size = sz ∧ oat dC dI q 0 [.int 0, .null, .int 0] H) (by decide) (Nat.le_of_ble_eq_true rfl) ?_
  intro p e s m below meth c ls S hr hlocks hin hK hW hS hl
  obtain ⟨hx, hb, hml, hown, hts⟩ := id S
  obtain ⟨hsz, ho⟩ := hW
  subst hsz
  have hq : q < s.heap.size := va_at.lt ho
  have hl : lv_has ls 1 [(0, .ref q)] := hl
  refine lv_aload_n hx hb dJx4a65c_init_da8c8_0 rfl (lv_at hl 0 rfl) ?_
  refine c_i (KK := Kt dC dI) (Pw := fun H => H.size = s.heap.size ∧ oat dC dI q 0 [.int 0, .null, .int 0] H) (n := 0) (As := []) (rest := []) S (q_Jxc12de_init l dC dI q s.heap.size) iw_86 iw_84 iw_85 iw_59 rfl (by decide +kernel) rfl ⟨rfl, rfl, Nat.le_of_ble_eq_true rfl, Nat.le_of_ble_eq_true rfl⟩ Kt.blind (fun U _ h9 => va_K.moved h9.alike hK.1) ⟨rfl, ho⟩ hl.1 rfl (Nat.le_of_ble_eq_true rfl) dJx4a65c_init_da8c8_1 ⟨Nat.le_of_ble_eq_true rfl, Nat.le_of_ble_eq_true rfl⟩ hS (fun y9 h9 => h9) (fun v9 H locs hB hz9 hk9 hS => ?_)
  obtain ⟨rfl, ho, -⟩ := hB
  refine W.eq (g2 := F0 m 4 ls []) rfl ?_
  refine lv_aload_n hx hb dJx4a65c_init_da8c8_4 rfl (lv_at hl 0 rfl) ?_
  refine va_gets hx hb hK.2.1.1 hS hown (hts _ iw_91) (fun _ h9 => h9) dJx4a65c_init_da8c8_5 ?_
  refine x_put (C := RJx4a65c) (T := TJx4a65c) (N := 3) (ci := 0) (ty := .array (.object "java/lang/Object")) hx hb hts inJx4a65c tyJx4a65c tyJx4a65c_ok nmJx4a65c hown hK.1 hS rfl ho rfl 1 (by decide) (hts _ iw_93) (fun _ h9 => h9) rfl (by decide +kernel) rfl rfl (Nat.le_of_ble_eq_true rfl) dJx4a65c_init_da8c8_8 (fun H locs ho hO hS => ?_)
  refine W.learn (fun lr1 lr2 lr3 => ?_)
  exact r_v hx hb hr hlocks hS dJx4a65c_init_da8c8_11 ⟨rfl, ho, lr2⟩
/-- the lists made so far -/
def J3 (dC : Nat → ClassId) (dI : Nat → Nat → Nat) (z sz n : Nat) (H : Heap) : Prop := ∀ i, i < n → oat dC dI (sz + i) 0 [.int 0, .ref z, .int 0] H
theorem J3.keep {dC : Nat → ClassId} {dI : Nat → Nat → Nat} {z sz n : Nat} {H H1 : Heap} (h : J3 dC dI z sz n H) (ho : ∀ y : Nat, sz ≤ y → y < sz + n → H1[y]? = H[y]?) : J3 dC dI z sz n H1 := fun i hl => va_at.kept (h i hl) (ho _ (by omega) (by omega))
theorem J3.push {dC : Nat → ClassId} {dI : Nat → Nat → Nat} {z sz n : Nat} {H1 : Heap} (h : J3 dC dI z sz n H1) (ho : oat dC dI (sz + n) 0 [.int 0, .ref z, .int 0] H1) : J3 dC dI z sz (n + 1) H1 := fun i hl => by
  rcases Nat.lt_succ_iff_lt_or_eq.mp hl with g | g
  · exact h i g
  · rw [g]; exact ho
section B57
variable {p : Program} {l : Launch} {e : Env} {R : Room} {s : State} {m : MethodId} {args : Array Value} {below : List Frame} {meth : Method} {c : Code} {H : Heap} {locs : List Loc} {sl : Nat} {Q : State → Prop}
variable {cc : ByteArray} {pc nL : Nat} {ls : Array Slot} {dC : Nat → ClassId} {dI : Nat → Nat → Nat} {z mi h0 : Nat}
set_option maxHeartbeats 4000000 in
theorem m3_list {fs : List Value} {k n index : Nat} {ty : FieldType} (S : CallFix p m c cc nL s args tb RX3) (hls : ls.size = nL) (hK : KZ dC dI z mi (fun y => y = h0 ∨ s.heap.size ≤ y) s) (hin : meth.name = "<init>") (h00 : h0 < s.heap.size) (ho : oat dC dI h0 4 fs H) (hJ : J3 dC dI z s.heap.size n H) (hz : H.size = s.heap.size + n) (hS : va_S (fun y => y = h0 ∨ s.heap.size ≤ y) s.heap H locs)
    (hd1 : decode cc pc = .ok (.new 7, 3)) (hd2 : decode cc (pc + 3) = .ok (.dup, 1)) (hd3 : decode cc (pc + 4) = .ok (.invokespecial 9, 3)) (hd4 : decode cc (pc + 7) = .ok (.putfield index, 3))
    (hk : k < 13) (hlk : Cond.fieldLink RX3 index "FrontDoor" (TX3 k).2.1 (TX3 k).2.2.1 ∈ tb) (hw : (TX3 k).1 = "FrontDoor") (hfin : (TX3 k).2.2.2 = true) (hd : parseFieldDescriptor (TX3 k).2.2.1 = some ty) (hnw : ∀ q : Nat, narrow ty (.ref q) = .ref q) (hft : ∀ q : Nat, fits ty (.ref q) = true) (hl : k < fs.length) (hR : n + 1 ≤ R.cells ∧ sl + 3 ≤ R.slots ∧ 4 ≤ R.frames ∧ 72 ≤ R.locals)
    (kk : ∀ (H1 : Heap) (locs1 : List Loc), oat dC dI h0 4 (fs.set k (.ref (s.heap.size + n))) H1 → J3 dC dI z s.heap.size (n + 1) H1 → H1.size = s.heap.size + (n + 1) → va_S (fun y => y = h0 ∨ s.heap.size ≤ y) s.heap H1 locs1 → W p l e R s m args below meth c H1 locs1 (n + 1) (sl + 3) Q (F0 m (pc + 10) ls [])) : W p l e R s m args below meth c H locs n sl Q (F0 m pc ls [.ref h0]) := by
  obtain ⟨hR1, hR2, hR3, hR4⟩ := hR
  refine x_new (own := RX3) (C := RJx4a65c) (T := TJx4a65c) (N := 3) (ci := 0) (fs := [.int 0, .null, .int 0]) S.1 S.2.1 S.2.2.2.2 inJx4a65c tyJx4a65c tyJx4a65c_ok S.2.2.2.1 (S.2.2.2.2 _ iw_79) (S.2.2.2.2 _ iw_80) (S.2.2.2.2 _ iw_60) hK.1 hS rfl (by intro j9 hj9; match j9, hj9 with | 0, _ => rfl | 1, _ => rfl | 2, _ => rfl) hR1 hR2 hd1 (fun Hn hon hzn hfn hcn hSn => ?_)
  rw [hz] at hon hzn hfn ⊢
  refine lv_dup S.1 S.2.1 hd2 rfl ?_
  refine W.eq (g2 := F0 m (pc + 4) ls [.ref (s.heap.size + n), .ref (s.heap.size + n), .ref h0]) rfl ?_
  refine c_i (KK := KZ dC dI z mi (fun y => y = s.heap.size + n)) (Pw := fun H9 => H9.size = Hn.size ∧ oat dC dI (s.heap.size + n) 0 [.int 0, .null, .int 0] H9) (n := 0) (As := []) (rest := [.ref (s.heap.size + n), .ref h0]) S (q_Jx4a65c_init l dC dI z mi (s.heap.size + n) Hn.size) iw_83 iw_81 iw_82 iw_60 rfl (by decide +kernel) rfl ⟨rfl, rfl, hR3, hR4⟩ KZ.blind (hK.at hSn (fun y9 h9 => Or.inr (by omega))) ⟨rfl, hon⟩ hls rfl (Nat.le_of_ble_eq_true rfl) hd3 ⟨hR1, hR2⟩ hSn (fun y9 h9 => Or.inr (by omega)) (fun v9 H1 locs1 hB hz9 hk9 hS1 => ?_)
  obtain ⟨rfl, hol, hz1⟩ := hB
  have ho1 : oat dC dI h0 4 fs H1 := va_at.kept ho ((hk9 h0 (by omega) (by omega)).trans (hfn h0 (by omega)))
  have hJ1 : J3 dC dI z s.heap.size (n + 1) H1 := (hJ.keep (fun y9 h8 h9 => (hk9 y9 (by omega) (by omega)).trans (hfn y9 (by omega)))).push hol
  refine W.eq (g2 := F0 m (pc + 7) ls [.ref (s.heap.size + n), .ref h0]) rfl ?_
  refine x_putF (C := RX3) (T := TX3) (N := 13) (ci := 4) (ty := ty) S.1 S.2.1 S.2.2.2.2 inX3 tyX3 tyX3_ok nmX3 S.2.2.2.1 hK.1 hS1 (Or.inl rfl) ho1 rfl k hk (S.2.2.2.2 _ hlk) (fun x h => by rw [hw] at h; exact h) hfin hin hw hd (hnw _) (hft _) hl hd4 (fun H2 locs2 ho2 hO2 hS2 => ?_)
  exact kk H2 locs2 ho2 (hJ1.keep (fun y9 h8 h9 => hO2.2.1 y9 (by omega))) (by have h9 := hO2.1; omega) hS2
end B57
def iD0 : Nat → Int32 := fun k => if k = 7 then 3 else if k = 8 then 20 else 0
abbrev B_q_X3_init (dC : Nat → ClassId) (dI : Nat → Nat → Nat) (z h0 sz : Nat) : Option Value → Heap → Prop := fun v H => v = none ∧ oat dC dI h0 4 (eD (fun i => sz + i) iD0) H ∧ J3 dC dI z sz 4 H ∧ iat dC dI (sz + 4) 6 7 (fun _ => 0) H ∧ H.size = sz + 5
set_option maxHeartbeats 8000000 in
theorem q_X3_init (l : Launch) (dC : Nat → ClassId) (dI : Nat → Nat → Nat) (z mi h0 sz : Nat) : Met l yX3_init (cws yX3_init cX3_init 1 none) { frames := 4, cells := 5, slots := 19, locals := 72 } (va_Pc [.ref h0] (fun U => KZ dC dI z mi (fun y => y = h0 ∨ sz ≤ y) U ∧ (fun H => H.size = sz ∧ oat dC dI h0 4 [.null, .null, .null, .null, .null, .int 0, .int 0, .int 0, .int 0, .int 0, .int 0, .int 0, .int 0] H) U.heap)) (Qg (B_q_X3_init dC dI z h0 sz) (fun y => y = h0 ∨ sz ≤ y)) 5 19 (fun y => y = h0 ∨ sz ≤ y) := by
  refine m_start (l := l) (y := yX3_init) (cc := cX3_init) (maxL := 1) (mc := 5) (ms := 19) (ret := none) (av := [.ref h0]) (B := B_q_X3_init dC dI z h0 sz) (A := (fun y => y = h0 ∨ sz ≤ y)) (KK := KZ dC dI z mi (fun y => y = h0 ∨ sz ≤ y)) (Pw := (fun H => H.size = sz ∧ oat dC dI h0 4 [.null, .null, .null, .null, .null, .int 0, .int 0, .int 0, .int 0, .int 0, .int 0, .int 0, .int 0] H)) (by decide) (Nat.le_of_ble_eq_true rfl) ?_
  intro p e s m below meth c ls S hr hlocks hin hK hW hS hl
  obtain ⟨hx, hb, hml, hown, hts⟩ := id S
  obtain ⟨hsz, ho⟩ := hW
  subst hsz
  have h00 : h0 < s.heap.size := va_at.lt ho
  have hz : s.heap.size = s.heap.size + 0 := rfl
  have hJ : J3 dC dI z s.heap.size 0 s.heap := fun _ h9 => absurd h9 (Nat.not_lt_zero _)
  have hl : lv_has ls 1 [(0, .ref h0)] := hl
  refine lv_aload_n hx hb dX3_init_0 rfl (lv_at hl 0 rfl) ?_
  refine W.objInit hx hb hown (hts _ iw_76) (hts _ iw_77) (hts _ iw_78) rfl (by rw [hml]; exact hl.1) rfl dX3_init_1 (Nat.le_of_ble_eq_true rfl) (Nat.le_of_ble_eq_true rfl) ?_
  refine W.eq (g2 := F0 m 4 ls []) rfl ?_
  refine lv_aload_n hx hb dX3_init_4 rfl (lv_at hl 0 rfl) ?_
  refine m3_list (k := 0) (n := 0) (sl := 0) (ty := .object "java/util/ArrayList") S hl.1 hK hin h00 ho hJ hz hS dX3_init_5 dX3_init_8 dX3_init_9 dX3_init_12 (by decide) iw_105 rfl rfl (by decide +kernel) (fun _ => rfl) (fun _ => rfl) (Nat.le_of_ble_eq_true rfl) ⟨Nat.le_of_ble_eq_true rfl, Nat.le_of_ble_eq_true rfl, Nat.le_of_ble_eq_true rfl, Nat.le_of_ble_eq_true rfl⟩ (fun H locs ho hJ hz hS => ?_)
  have ho : oat dC dI h0 4 [.ref (s.heap.size + 0), .null, .null, .null, .null, .int 0, .int 0, .int 0, .int 0, .int 0, .int 0, .int 0, .int 0] H := ho
  refine W.widen (k := 1) (n := 3) (Nat.le_refl _) (Nat.le_refl _) ?_
  refine lv_aload_n hx hb dX3_init_15 rfl (lv_at hl 0 rfl) ?_
  refine m3_list (k := 1) (n := 1) (sl := 3) (ty := .object "java/util/ArrayList") S hl.1 hK hin h00 ho hJ hz hS dX3_init_16 dX3_init_19 dX3_init_20 dX3_init_23 (by decide) iw_106 rfl rfl (by decide +kernel) (fun _ => rfl) (fun _ => rfl) (Nat.le_of_ble_eq_true rfl) ⟨Nat.le_of_ble_eq_true rfl, Nat.le_of_ble_eq_true rfl, Nat.le_of_ble_eq_true rfl, Nat.le_of_ble_eq_true rfl⟩ (fun H locs ho hJ hz hS => ?_)
  have ho : oat dC dI h0 4 [.ref (s.heap.size + 0), .ref (s.heap.size + 1), .null, .null, .null, .int 0, .int 0, .int 0, .int 0, .int 0, .int 0, .int 0, .int 0] H := ho
  refine W.widen (k := 2) (n := 6) (Nat.le_refl _) (Nat.le_refl _) ?_
  refine lv_aload_n hx hb dX3_init_26 rfl (lv_at hl 0 rfl) ?_
  refine m3_list (k := 2) (n := 2) (sl := 6) (ty := .object "java/util/ArrayList") S hl.1 hK hin h00 ho hJ hz hS dX3_init_27 dX3_init_30 dX3_init_31 dX3_init_34 (by decide) iw_107 rfl rfl (by decide +kernel) (fun _ => rfl) (fun _ => rfl) (Nat.le_of_ble_eq_true rfl) ⟨Nat.le_of_ble_eq_true rfl, Nat.le_of_ble_eq_true rfl, Nat.le_of_ble_eq_true rfl, Nat.le_of_ble_eq_true rfl⟩ (fun H locs ho hJ hz hS => ?_)
  have ho : oat dC dI h0 4 [.ref (s.heap.size + 0), .ref (s.heap.size + 1), .ref (s.heap.size + 2), .null, .null, .int 0, .int 0, .int 0, .int 0, .int 0, .int 0, .int 0, .int 0] H := ho
  refine W.widen (k := 3) (n := 9) (Nat.le_refl _) (Nat.le_refl _) ?_
  refine lv_aload_n hx hb dX3_init_37 rfl (lv_at hl 0 rfl) ?_
  refine m3_list (k := 3) (n := 3) (sl := 9) (ty := .object "java/util/ArrayList") S hl.1 hK hin h00 ho hJ hz hS dX3_init_38 dX3_init_41 dX3_init_42 dX3_init_45 (by decide) iw_108 rfl rfl (by decide +kernel) (fun _ => rfl) (fun _ => rfl) (Nat.le_of_ble_eq_true rfl) ⟨Nat.le_of_ble_eq_true rfl, Nat.le_of_ble_eq_true rfl, Nat.le_of_ble_eq_true rfl, Nat.le_of_ble_eq_true rfl⟩ (fun H locs ho hJ hz hS => ?_)
  have ho : oat dC dI h0 4 [.ref (s.heap.size + 0), .ref (s.heap.size + 1), .ref (s.heap.size + 2), .ref (s.heap.size + 3), .null, .int 0, .int 0, .int 0, .int 0, .int 0, .int 0, .int 0, .int 0] H := ho
  refine W.widen (k := 4) (n := 12) (Nat.le_refl _) (Nat.le_refl _) ?_
  refine lv_aload_n hx hb dX3_init_48 rfl (lv_at hl 0 rfl) ?_
  refine lv_bipush (v := 7) hx hb dX3_init_49 (by decide) ?_
  refine va_newaK (atype := .int) (N := 7) (rest := [.ref h0]) hx hb (hts _ iw_145) rfl dX3_init_51 rfl pz_n7 pz_c7 (by decide +kernel) (Nat.le_of_ble_eq_true rfl) (Nat.le_of_ble_eq_true rfl) hz (fun H1 cA e1 z1 o1 _ hNm => ?_)
  rw [show "[" ++ (newarray.typeOf ArrayType.int).toString = kNm 6 from by decide +kernel] at hNm
  obtain rfl : cA = dC 6 := Option.some.inj (hNm.symm.trans (hK.1.name 6 (by decide)))
  have hcl9 : ∀ cA : ClassId, vp_cell cA (7, .inl (fun _ => 0)) = arrV cA 7 (fun _ => defaultValue (newarray.typeOf ArrayType.int)) := fun _ => rfl
  have hi : iat dC dI (s.heap.size + 4) 6 7 (fun _ => 0) H1 := e1.trans (congrArg some (hcl9 _).symm)
  replace ho := va_at.kept ho (o1 h0 (by omega))
  replace hJ := hJ.keep (fun y9 h8 h9 => o1 y9 (by omega))
  have hS : va_S (fun y => y = h0 ∨ s.heap.size ≤ y) s.heap H1 locs := ⟨by omega, fun x9 h8 h9 => (o1 x9 (by omega)).trans (hS.2.1 x9 h8 h9), hS.2.2⟩
  refine W.eq (g2 := F0 m 53 ls [.ref (s.heap.size + 4), .ref h0]) rfl ?_
  refine x_putF (C := RX3) (T := TX3) (N := 13) (ci := 4) (ty := .array .int) hx hb hts inX3 tyX3 tyX3_ok nmX3 hown hK.1 hS (Or.inl rfl) ho rfl 4 (by decide) (hts _ iw_109) (fun _ h9 => h9) rfl hin rfl (by decide +kernel) rfl rfl (Nat.le_of_ble_eq_true rfl) dX3_init_53 (fun H locs ho hO hS => ?_)
  replace hi := hO.iat hi (by omega)
  replace hJ := hJ.keep (fun y9 h8 h9 => hO.2.1 y9 (by omega))
  have hz : H.size = s.heap.size + 5 := hO.1.trans z1
  have ho : oat dC dI h0 4 [.ref (s.heap.size + 0), .ref (s.heap.size + 1), .ref (s.heap.size + 2), .ref (s.heap.size + 3), .ref (s.heap.size + 4), .int 0, .int 0, .int 0, .int 0, .int 0, .int 0, .int 0, .int 0] H := ho
  refine W.widen (k := 5) (n := 19) (Nat.le_refl _) (Nat.le_refl _) ?_
  refine lv_aload_n hx hb dX3_init_56 rfl (lv_at hl 0 rfl) ?_
  refine lv_iconst (v := 0) hx hb dX3_init_57 (by decide) ?_
  refine x_put (C := RX3) (T := TX3) (N := 13) (ci := 4) (ty := .int) hx hb hts inX3 tyX3 tyX3_ok nmX3 hown hK.1 hS (Or.inl rfl) ho rfl 6 (by decide) (hts _ iw_111) (fun _ h9 => h9) rfl (by decide +kernel) rfl rfl (Nat.le_of_ble_eq_true rfl) dX3_init_58 (fun H locs ho hO hS => ?_)
  have ho : oat dC dI h0 4 [.ref (s.heap.size + 0), .ref (s.heap.size + 1), .ref (s.heap.size + 2), .ref (s.heap.size + 3), .ref (s.heap.size + 4), .int 0, .int 0, .int 0, .int 0, .int 0, .int 0, .int 0, .int 0] H := ho
  replace hi := hO.iat hi (by omega)
  replace hJ := hJ.keep (fun y9 h8 h9 => hO.2.1 y9 (by omega))
  replace hz := hO.1.trans hz
  refine lv_aload_n hx hb dX3_init_61 rfl (lv_at hl 0 rfl) ?_
  refine lv_iconst (v := 3) hx hb dX3_init_62 (by decide) ?_
  refine x_put (C := RX3) (T := TX3) (N := 13) (ci := 4) (ty := .int) hx hb hts inX3 tyX3 tyX3_ok nmX3 hown hK.1 hS (Or.inl rfl) ho rfl 7 (by decide) (hts _ iw_112) (fun _ h9 => h9) rfl (by decide +kernel) rfl rfl (Nat.le_of_ble_eq_true rfl) dX3_init_63 (fun H locs ho hO hS => ?_)
  have ho : oat dC dI h0 4 [.ref (s.heap.size + 0), .ref (s.heap.size + 1), .ref (s.heap.size + 2), .ref (s.heap.size + 3), .ref (s.heap.size + 4), .int 0, .int 0, .int 3, .int 0, .int 0, .int 0, .int 0, .int 0] H := ho
  replace hi := hO.iat hi (by omega)
  replace hJ := hJ.keep (fun y9 h8 h9 => hO.2.1 y9 (by omega))
  replace hz := hO.1.trans hz
  refine lv_aload_n hx hb dX3_init_66 rfl (lv_at hl 0 rfl) ?_
  refine lv_bipush (v := 20) hx hb dX3_init_67 (by decide) ?_
  refine x_put (C := RX3) (T := TX3) (N := 13) (ci := 4) (ty := .int) hx hb hts inX3 tyX3 tyX3_ok nmX3 hown hK.1 hS (Or.inl rfl) ho rfl 8 (by decide) (hts _ iw_113) (fun _ h9 => h9) rfl (by decide +kernel) rfl rfl (Nat.le_of_ble_eq_true rfl) dX3_init_69 (fun H locs ho hO hS => ?_)
  have ho : oat dC dI h0 4 [.ref (s.heap.size + 0), .ref (s.heap.size + 1), .ref (s.heap.size + 2), .ref (s.heap.size + 3), .ref (s.heap.size + 4), .int 0, .int 0, .int 3, .int 20, .int 0, .int 0, .int 0, .int 0] H := ho
  replace hi := hO.iat hi (by omega)
  replace hJ := hJ.keep (fun y9 h8 h9 => hO.2.1 y9 (by omega))
  replace hz := hO.1.trans hz
  exact r_v hx hb hr hlocks hS dX3_init_72 ⟨rfl, ho, hJ, hi, hz⟩
