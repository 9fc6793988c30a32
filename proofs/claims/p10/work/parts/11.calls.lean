/-! contracts and calls in one form -/
def Qg (B : Option Value → Heap → Prop) (A : Nat → Prop) : Array Value → State → Outcome → State → Prop := fun _ st oc t => (∃ v : Option Value, oc = .returned v ∧ B v t.heap) ∧ va_F A st t
section B11
variable {p : Program} {l : Launch} {e : Env} {R : Room} {s : State} {m : MethodId} {args : Array Value} {below : List Frame} {meth : Method} {c : Code} {H : Heap} {locs : List Loc} {cells slots : Nat} {Q : State → Prop}
variable {cc : ByteArray} {pc : Nat} {ls : Array Slot} {rest st0 : List Value} {A A0 A1 : Nat → Prop} {H0 : Heap} {B : Option Value → Heap → Prop}
theorem r_i {v : Int32} (hx : p.tables.exec = Jvm.exec) (hb : c.code = cc) (hr : meth.sig.returnType = some .int) (hlocks : meth.locks = false) (hS : va_S A s.heap H locs) (hdg : decode cc pc = .ok (.ireturn, 1)) (hB : B (some (.int v)) H) : W p l e R s m args below meth c H locs cells slots (MQ below (Qg B A) args s cells slots A) (F0 m pc ls [.int v]) :=
  W.iret hx hb hr (fun t ht hW => ⟨⟨_, rfl, by rw [ht]; exact hB⟩, hS.F ht⟩) hS.2.2 hdg hlocks
theorem r_z {v : Int32} (hx : p.tables.exec = Jvm.exec) (hb : c.code = cc) (hr : meth.sig.returnType = some .boolean) (hn : narrow .boolean (.int v) = .int v) (hlocks : meth.locks = false) (hS : va_S A s.heap H locs) (hdg : decode cc pc = .ok (.ireturn, 1)) (hB : B (some (.int v)) H) : W p l e R s m args below meth c H locs cells slots (MQ below (Qg B A) args s cells slots A) (F0 m pc ls [.int v]) :=
  W.zret hx hb hr hn (fun t ht hW => ⟨⟨_, rfl, by rw [ht]; exact hB⟩, hS.F ht⟩) hS.2.2 hdg hlocks
theorem r_v (hx : p.tables.exec = Jvm.exec) (hb : c.code = cc) (hr : meth.sig.returnType = none) (hlocks : meth.locks = false) (hS : va_S A s.heap H locs) (hdg : decode cc pc = .ok (.return_, 1)) (hB : B none H) : W p l e R s m args below meth c H locs cells slots (MQ below (Qg B A) args s cells slots A) (F0 m pc ls []) :=
  W.vret hx hb hr (fun t ht hW => ⟨⟨_, rfl, by rw [ht]; exact hB⟩, hS.F ht⟩) hS.2.2 hdg hlocks
theorem r_a {o : Option Nat} {rt : FieldType} (hx : p.tables.exec = Jvm.exec) (hb : c.code = cc) (hr : meth.sig.returnType = some rt) (hrt : (∃ n, rt = .object n) ∨ ∃ t, rt = .array t) (hlocks : meth.locks = false) (hS : va_S A s.heap H locs) (hdg : decode cc pc = .ok (.areturn, 1)) (hB : B (some (va_rf o)) H) : W p l e R s m args below meth c H locs cells slots (MQ below (Qg B A) args s cells slots A) (F0 m pc ls [va_rf o]) :=
  W.aret hx hb hr hrt (by cases o with | none => exact Or.inl rfl | some a => exact Or.inr ⟨a, rfl⟩) (fun t ht hW => ⟨⟨_, rfl, by rw [ht]; exact hB⟩, hS.F ht⟩) hS.2.2 hdg hlocks
variable {y : MethodName} {bytes : ByteArray} {maxL nL mc ms index n : Nat} {ret : Option FieldType} {rm : Room} {KK : State → Prop} {Pw : Heap → Prop} {own C : String} {b : Addr} {As : List Value} {av : List Value}
theorem g_call (hr : va_Run p l e R s m args below meth c H locs cells slots mc ms (F0 m pc ls st0) rest (Qg B A1 args) A1) (hS : va_S A0 H0 H locs) (hA : ∀ q, A1 q → A0 q)
    (kk : ∀ (v : Option Value) (H1 : Heap) (locs1 : List Loc), B v H1 → H.size ≤ H1.size → (∀ q : Nat, q < H.size → ¬ A1 q → H1[q]? = H[q]?) → va_S A0 H0 H1 locs1 → W p l e R s m args below meth c H1 locs1 (cells + mc) (slots + ms) Q (F0 m (pc + 3) ls (v.toList ++ rest))) : W p l e R s m args below meth c H locs cells slots Q (F0 m pc ls st0) := by
  intro T hT X
  obtain ⟨v, st₀, t, T', L, h0, X', hL, e1, e2, ⟨⟨v', hv, hb⟩, hz, hk⟩, st⟩ := hr T hT X
  cases hv
  rw [h0] at hz hk
  obtain ⟨t2, a1, b1⟩ := kk v T'.heap (locs ++ L) (by rw [e1]; exact hb) (by rw [e1]; exact hz) (fun q h1 h2 => by rw [e1]; exact hk q h1 h2)
    ⟨Nat.le_trans hS.1 (by rw [e1]; exact hz), fun q h1 h2 => by rw [e1, hk q (Nat.lt_of_lt_of_le h1 hS.1) (fun z => h2 (hA q z))]; exact hS.2.1 q h1 h2, fun q hq => by
      rcases List.mem_append.mp hq with h | h
      · exact hS.2.2 q h
      · exact hA _ (hL q h)⟩ T' rfl X'
  exact ⟨t2, st t2 a1, b1⟩
abbrev cws (y : MethodName) (bytes : ByteArray) (maxL : Nat) (ret : Option FieldType) : List Cond := Cond.code y bytes maxL ret :: tb
theorem cws_good (h : Cond.code y bytes maxL ret ∈ tb) : GoodIn tb (cws y bytes maxL ret) := fun w hw => by
  rcases List.mem_cons.mp hw with e | e
  · subst e; exact tb_good _ h
  · exact tb_good _ e
theorem cws_app {ws : List Cond} (hl : ∀ w ∈ ws, w ∈ tb) {ws2 : List Cond} (h : GoodIn tb ws2) : GoodIn tb (ws ++ ws2) := fun w hw => by
  rcases List.mem_append.mp hw with e | e
  · exact tb_good _ (hl w e)
  · exact h w e
abbrev Blind (KK : State → Prop) : Prop := ∀ U U' : State, U'.heap = U.heap → U'.vm = U.vm → KK U → KK U'
theorem g_blind (h : Blind KK) : FrameBlind (va_Pc av (fun U => KK U ∧ Pw U.heap)) := fun a U g mk q => ⟨q.1, h U (U.calling g mk a) rfl rfl q.2.1, q.2.2⟩
theorem c_v (S : CallFix p m c cc nL s args tb own) (hM : Met l y (cws y bytes maxL ret) rm (va_Pc (.ref b :: As) (fun U => KK U ∧ Pw U.heap)) (Qg B A1) mc ms A1)
    (w1 : Cond.code y bytes maxL ret ∈ tb) (w2 : Cond.methodLink own index y ∈ tb) (w3 : Cond.instanceMethod y ∈ tb) (w4 : Cond.selects C y y ∈ tb) (w5 : Cond.initialized C ∈ tb)
    (hd : y.cls = C ∧ y.cls ≠ "java/lang/invoke/MethodHandle" ∧ y.cls ≠ "java/lang/invoke/VarHandle" ∧ (parseMethodDescriptor y.desc).map (fun d => d.parameters.length) = some n) (hn : As.length = n)
    (hR : rm.cells = mc ∧ rm.slots = ms ∧ rm.frames + 1 ≤ R.frames ∧ 8 + (maxL + 11) + rm.locals ≤ R.locals) (hbl : Blind KK)
    (hrecv : ∃ cell : Cell, H[b]? = some cell ∧ cell.vm.isStatics = false ∧ s.vm.findClass C = some cell.cls) (hk : ∀ U : State, U.heap = H → s.WarmedH U.vm → KK U) (hp : Pw H)
    (hsz : ls.size = nL) (hst : st0 = As.reverse ++ .ref b :: rest) (hw : (rest.map fun v => v.category).sum ≤ 8) (hdg : decode cc pc = .ok (.invokevirtual index, 3)) (hf : cells + mc ≤ R.cells ∧ slots + ms ≤ R.slots)
    (hS : va_S A0 H0 H locs) (hA : ∀ q, A1 q → A0 q)
    (kk : ∀ (v : Option Value) (H1 : Heap) (locs1 : List Loc), B v H1 → H.size ≤ H1.size → (∀ q : Nat, q < H.size → ¬ A1 q → H1[q]? = H[q]?) → va_S A0 H0 H1 locs1 → W p l e R s m args below meth c H1 locs1 (cells + mc) (slots + ms) Q (F0 m (pc + 3) ls (v.toList ++ rest))) : W p l e R s m args below meth c H locs cells slots Q (F0 m pc ls st0) :=
  g_call (B := B) (va_runV (As := As) (rest := rest) S hM (cwV n S.2.2.2.2 (cws_app (ws := [.methodLink own index y, .instanceMethod y, .selects C y y, .initialized C]) (fun w h => by simp at h; rcases h with h | h | h | h <;> subst h <;> assumption) (cws_good w1)) rfl hR.1 hR.2.1 hd hR.2.2) ⟨g_blind hbl, hrecv, fun U hU hW => ⟨rfl, hk U hU hW, by rw [hU]; exact hp⟩⟩ rfl hn hsz hst (by show 2 * 0 + _ ≤ 8; omega) hdg hf) hS hA kk
theorem c_s (S : CallFix p m c cc nL s args tb own) (hM : Met l y (cws y bytes maxL ret) rm (va_Pc As (fun U => KK U ∧ Pw U.heap)) (Qg B A1) mc ms A1)
    (w1 : Cond.code y bytes maxL ret ∈ tb) (w2 : Cond.methodLink own index y ∈ tb) (w3 : Cond.static y ∈ tb) (w5 : Cond.initialized y.cls ∈ tb)
    (hd : y.cls ≠ "java/lang/invoke/MethodHandle" ∧ y.cls ≠ "java/lang/invoke/VarHandle" ∧ (parseMethodDescriptor y.desc).map (fun d => d.parameters.length) = some n) (hn : As.length = n)
    (hR : rm.cells = mc ∧ rm.slots = ms ∧ rm.frames + 1 ≤ R.frames ∧ 8 + (maxL + 11) + rm.locals ≤ R.locals) (hbl : Blind KK)
    (hk : ∀ U : State, U.heap = H → s.WarmedH U.vm → KK U) (hp : Pw H)
    (hsz : ls.size = nL) (hst : st0 = As.reverse ++ rest) (hw : (rest.map fun v => v.category).sum ≤ 8) (hdg : decode cc pc = .ok (.invokestatic index, 3)) (hf : cells + mc ≤ R.cells ∧ slots + ms ≤ R.slots)
    (hS : va_S A0 H0 H locs) (hA : ∀ q, A1 q → A0 q)
    (kk : ∀ (v : Option Value) (H1 : Heap) (locs1 : List Loc), B v H1 → H.size ≤ H1.size → (∀ q : Nat, q < H.size → ¬ A1 q → H1[q]? = H[q]?) → va_S A0 H0 H1 locs1 → W p l e R s m args below meth c H1 locs1 (cells + mc) (slots + ms) Q (F0 m (pc + 3) ls (v.toList ++ rest))) : W p l e R s m args below meth c H locs cells slots Q (F0 m pc ls st0) :=
  g_call (B := B) (va_runS (As := As) (rest := rest) S hM (va_cwS n S.2.2.2.2 (cws_app (ws := [.methodLink own index y, .static y, .initialized y.cls]) (fun w h => by simp at h; rcases h with h | h | h <;> subst h <;> assumption) (cws_good w1)) rfl hR.1 hR.2.1 hd hR.2.2) ⟨g_blind hbl, fun U hU hW => ⟨rfl, hk U hU hW, by rw [hU]; exact hp⟩⟩ rfl hn hsz hst (by show 2 * 0 + _ ≤ 8; omega) hdg hf) hS hA kk
theorem c_i (S : CallFix p m c cc nL s args tb own) (hM : Met l y (cws y bytes maxL none) rm (va_Pc (.ref b :: As) (fun U => KK U ∧ Pw U.heap)) (Qg B A1) mc ms A1)
    (w1 : Cond.code y bytes maxL none ∈ tb) (w2 : Cond.methodLink own index y ∈ tb) (w3 : Cond.instanceMethod y ∈ tb) (w5 : Cond.initialized y.cls ∈ tb) (hy1 : y.name = "<init>")
    (hd : y.cls ≠ "java/lang/invoke/MethodHandle" ∧ y.cls ≠ "java/lang/invoke/VarHandle" ∧ (parseMethodDescriptor y.desc).map (fun d => d.parameters.length) = some n) (hn : As.length = n)
    (hR : rm.cells = mc ∧ rm.slots = ms ∧ rm.frames + 1 ≤ R.frames ∧ 8 + (maxL + 11) + rm.locals ≤ R.locals) (hbl : Blind KK)
    (hk : ∀ U : State, U.heap = H → s.WarmedH U.vm → KK U) (hp : Pw H)
    (hsz : ls.size = nL) (hst : st0 = As.reverse ++ .ref b :: rest) (hw : (rest.map fun v => v.category).sum ≤ 8) (hdg : decode cc pc = .ok (.invokespecial index, 3)) (hf : cells + mc ≤ R.cells ∧ slots + ms ≤ R.slots)
    (hS : va_S A0 H0 H locs) (hA : ∀ q, A1 q → A0 q)
    (kk : ∀ (v : Option Value) (H1 : Heap) (locs1 : List Loc), B v H1 → H.size ≤ H1.size → (∀ q : Nat, q < H.size → ¬ A1 q → H1[q]? = H[q]?) → va_S A0 H0 H1 locs1 → W p l e R s m args below meth c H1 locs1 (cells + mc) (slots + ms) Q (F0 m (pc + 3) ls (v.toList ++ rest))) : W p l e R s m args below meth c H locs cells slots Q (F0 m pc ls st0) :=
  g_call (B := B) (va_runI (As := As) (rest := rest) S hM (cwI n S.2.2.2.2 (cws_good w1) rfl hR.1 hR.2.1 (S.2.2.2.2 _ w5) (S.2.2.2.2 _ w2) (S.2.2.2.2 _ w3) hy1 hd hR.2.2) ⟨g_blind hbl, fun U hU hW => ⟨rfl, hk U hU hW, by rw [hU]; exact hp⟩⟩ rfl hn hsz hst (by show 2 * 0 + _ ≤ 8; omega) hdg hf) hS hA kk
end B11
/-- a method, from its entry -/
theorem m_start {l : Launch} {y : MethodName} {cc : ByteArray} {maxL mc ms : Nat} {ret : Option FieldType} {rm : Room} {av : List Value} {KK : State → Prop} {Pw : Heap → Prop} {B : Option Value → Heap → Prop} {A : Nat → Prop} (hy : plainName y.cls = true) (hn : (lg_sl av).length ≤ maxL)
    (body : ∀ (p : Program) (e : Env) (s : State) (m : MethodId) (below : List Frame) (meth : Method) (c : Code) (ls : Array Slot), CallFix p m c cc maxL s av.toArray tb y.cls → meth.sig.returnType = ret → meth.locks = false → meth.name = y.name → KK s → Pw s.heap → va_S A s.heap s.heap [] → lv_has ls maxL (lv_args 0 av) →
      W p l e rm s m av.toArray below meth c s.heap [] 0 0 (MQ below (Qg B A) av.toArray s mc ms A) (F0 m 0 ls [])) : Met l y (cws y cc maxL ret) rm (va_Pc av (fun U => KK U ∧ Pw U.heap)) (Qg B A) mc ms A := by
  refine Met.ofW (cc := cc) (maxL := maxL) (ret := ret) hy rfl ?_
  intro p e s m args below meth c s₁ B hml hv
  obtain ⟨rfl, hK, hP⟩ := hv
  have hts := atoms_spec (ws := cws y cc maxL ret) B.pre
  have hl := lv_entry av (n := maxL) hn
  rw [lg_entry_eq]
  exact body p e s m below meth c _ ⟨B.exec, B.bytes, hml, findClass_of_methodNamed B.named, fun w h => hts w (List.mem_cons_of_mem _ h)⟩ B.returns B.notSynchronized (name_of_methodNamed B.named B.method).1 hK hP va_S.rf hl
