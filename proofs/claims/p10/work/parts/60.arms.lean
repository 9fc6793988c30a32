section B60
variable {p : Program} {l : Launch} {e : Env} {s : State} {m : MethodId} {below : List Frame} {meth : Method} {c : Code} {H : Heap} {locs : List Loc} {Q : State → Prop}
variable {ls : Array Slot} {b L : Nat} {xs : Nat → Int32} {j : Nat} {dC : Nat → ClassId} {dI : Nat → Nat → Nat} {z mi : Nat} {A A3 A4 : Nat → Prop} {cp h3 h4 : Nat} {la Rr : Nat → Nat}
set_option maxHeartbeats 4000000 in
theorem arm_server (C : LCx p s m c b L xs dC dI z mi cp A A3 A4) (hj : j + 6 ≤ L) (hR : LRel dC dI z A3 A4 s.heap.size cp h3 la h4 Rr H) (hS : va_S A s.heap H locs) (hl : lv_has ls 4 [(3, .int (nI j)), (2, .ref h4), (1, .ref h3), (0, .ref b)]) (kk : ∀ (H1 : Heap) (locs1 : List Loc), LRel dC dI z A3 A4 s.heap.size cp h3 la h4 Rr H1 → va_S A s.heap H1 locs1 → W p l e room_1 s m #[Value.ref b] below meth c H1 locs1 (cp - s.heap.size) (610 * (cp - s.heap.size)) Q (F0 m 670 ls [])) : W p l e room_1 s m #[Value.ref b] below meth c H locs (cp - s.heap.size) (610 * (cp - s.heap.size)) Q (F0 m 120 ls []) := by
  obtain ⟨S, ⟨hX, hbl, hbA, hL⟩, hK, ⟨hA3, hA4, hdis⟩, hcp⟩ := C
  obtain ⟨hx, hb, hml, hown, hts⟩ := id S
  obtain ⟨sA, cA, ns, nc, dr, X, P, tr, nl, nq, rs, V, G, hW, hM, hI, hnd, hb8, hdr, hv4, hv5, hv6, hv7⟩ := hR
  refine lv_aload_n hx hb dL_law_120 rfl (lv_at hl 2 rfl) ?_
  refine l_arg (k := 1) hx hb hX hbl hbA hS hL (by omega) hl (by decide +kernel) dL_law_121 dL_law_122 dL_law_123 dL_law_124 dL_law_125 ?_
  refine l_arg (k := 2) hx hb hX hbl hbA hS hL (by omega) hl (by decide +kernel) dL_law_126 dL_law_127 dL_law_128 dL_law_129 dL_law_130 ?_
  refine l_arg (k := 3) hx hb hX hbl hbA hS hL (by omega) hl (by decide +kernel) dL_law_131 dL_law_132 dL_law_133 dL_law_134 dL_law_135 ?_
  refine l_arg (k := 4) hx hb hX hbl hbA hS hL (by omega) hl (by decide +kernel) dL_law_136 dL_law_137 dL_law_138 dL_law_139 dL_law_140 ?_
  refine l_arg (k := 5) hx hb hX hbl hbA hS hL (by omega) hl (by decide +kernel) dL_law_141 dL_law_142 dL_law_143 dL_law_144 dL_law_145 ?_
  refine l_x (As := [.int (xs (j + 1)), .int (xs (j + 2)), .int (xs (j + 3)), .int (xs (j + 4)), .int (xs (j + 5))]) (rest := []) (n := 5) (Pw := (fun H9 => H9.size = H.size ∧ Cw dC dI z A3 s.heap.size cp h3 la sA cA ns nc dr X P tr nl nq rs H9)) S (q_X3_server l dC dI z mi A3 s.heap.size cp h3 la sA cA ns nc dr X P tr nl nq rs H.size (xs (j + 1)) (xs (j + 2)) (xs (j + 3)) (xs (j + 4)) (xs (j + 5)) hS.1 (fun h9 => Nat.lt_irrefl _ (hdr _ h9)) hnd) iw_149 iw_146 iw_147 iw_148 (by decide +kernel) rfl ⟨rfl, rfl, Nat.le_of_ble_eq_true rfl, Nat.le_of_ble_eq_true rfl⟩ hK ⟨rfl, hW⟩ hW hl.1 rfl (Nat.le_of_ble_eq_true rfl) dL_law_146 hS hA3 (Or.inr rfl) rfl ⟨by subst hcp; show _ ≤ 600000; omega, by subst hcp; show _ ≤ 7302250; omega⟩ hM hdis (fun v9 H locs hB hM hS => ?_)
  obtain ⟨r, sA1, ns1, rs1, rfl, h3f, hnd1, hW⟩ := hB
  refine W.eq (g2 := F0 m 149 ls [.int r]) rfl ?_
  refine lv_pop hx hb dL_law_149 rfl ?_
  refine lv_aload_n hx hb dL_law_150 rfl (lv_at hl 1 rfl) ?_
  refine l_arg (k := 1) hx hb hX hbl hbA hS hL (by omega) hl (by decide +kernel) dL_law_151 dL_law_152 dL_law_153 dL_law_154 dL_law_155 ?_
  refine l_arg (k := 2) hx hb hX hbl hbA hS hL (by omega) hl (by decide +kernel) dL_law_156 dL_law_157 dL_law_158 dL_law_159 dL_law_160 ?_
  refine l_arg (k := 3) hx hb hX hbl hbA hS hL (by omega) hl (by decide +kernel) dL_law_161 dL_law_162 dL_law_163 dL_law_164 dL_law_165 ?_
  refine l_arg (k := 4) hx hb hX hbl hbA hS hL (by omega) hl (by decide +kernel) dL_law_166 dL_law_167 dL_law_168 dL_law_169 dL_law_170 ?_
  refine l_arg (k := 5) hx hb hX hbl hbA hS hL (by omega) hl (by decide +kernel) dL_law_171 dL_law_172 dL_law_173 dL_law_174 dL_law_175 ?_
  refine l_m (As := [.int (xs (j + 1)), .int (xs (j + 2)), .int (xs (j + 3)), .int (xs (j + 4)), .int (xs (j + 5))]) (rest := []) (n := 5) S (q_X4_server l dC dI h4 Rr A4 V G ns (xs (j + 1)) (xs (j + 2)) (xs (j + 3)) (xs (j + 4)) (xs (j + 5)) hI.1.1 hI.1.2) iw_780 iw_777 iw_778 iw_779 (by decide +kernel) rfl ⟨rfl, rfl, Nat.le_of_ble_eq_true rfl, Nat.le_of_ble_eq_true rfl⟩ hK hM hW hl.1 rfl (Nat.le_of_ble_eq_true rfl) dL_law_176 hS hA4 ⟨by subst hcp; show _ ≤ 600000; omega, by subst hcp; show _ ≤ 7302250; omega⟩ hdis (fun v9 H locs hB hW hS => ?_)
  obtain ⟨r2, V1, rfl, h4f, hM⟩ := hB
  refine W.eq (g2 := F0 m 179 ls [.int r2]) rfl ?_
  have hE : r = r2 ∧ LRel dC dI z A3 A4 s.heap.size cp h3 la h4 Rr H := by
    rcases h3f with ⟨e1, en⟩ | ⟨e1, er, en⟩
    · rw [en] at hW hnd1
      rcases h4f with ⟨e2, hV⟩ | ⟨e2, -, -, -⟩
      · exact ⟨Option.some.inj (e1.symm.trans e2), ⟨sA1, cA, ns, nc, dr, X, P, tr, nl, nq, rs1, V1, G, hW, hM, hI.V (hV 2) (hV 3), hnd1, hb8, hdr, ((hV 4).trans hv4), ((hV 5).trans hv5), ((hV 6).trans hv6), ((hV 7).trans hv7)⟩⟩
      · rw [e1] at e2; cases e2
    · rw [en] at hW hnd1
      rcases h4f with ⟨e2, -⟩ | ⟨e2, er2, g3, g4⟩
      · rw [e1] at e2; cases e2
      · exact ⟨er.trans er2.symm, ⟨sA1, cA, ns + 1, nc, dr, X, P, tr, nl, nq, rs1, V1, G, hW, hM, ⟨⟨g3, badS_lt e1⟩, ⟨(g4 3 (by decide)).trans hI.2.1.1, hI.2.1.2⟩, hI.2.2⟩, hnd1, hb8, (fun k9 h9 => Nat.lt_succ_of_lt (hdr k9 h9)), ((g4 4 (by decide)).trans hv4), ((g4 5 (by decide)).trans hv5), ((g4 6 (by decide)).trans hv6), ((g4 7 (by decide)).trans hv7)⟩⟩
  refine lv_pop hx hb dL_law_179 rfl ?_
  refine lv_goto (tgt := 670) hx hb dL_law_180 (by decide) ?_
  exact kk H locs hE.2 hS
set_option maxHeartbeats 4000000 in
theorem arm_set (C : LCx p s m c b L xs dC dI z mi cp A A3 A4) (hj : j + 6 ≤ L) (hR : LRel dC dI z A3 A4 s.heap.size cp h3 la h4 Rr H) (hS : va_S A s.heap H locs) (hl : lv_has ls 4 [(3, .int (nI j)), (2, .ref h4), (1, .ref h3), (0, .ref b)]) (kk : ∀ (H1 : Heap) (locs1 : List Loc), LRel dC dI z A3 A4 s.heap.size cp h3 la h4 Rr H1 → va_S A s.heap H1 locs1 → W p l e room_1 s m #[Value.ref b] below meth c H1 locs1 (cp - s.heap.size) (610 * (cp - s.heap.size)) Q (F0 m 670 ls [])) : W p l e room_1 s m #[Value.ref b] below meth c H locs (cp - s.heap.size) (610 * (cp - s.heap.size)) Q (F0 m 183 ls []) := by
  obtain ⟨S, ⟨hX, hbl, hbA, hL⟩, hK, ⟨hA3, hA4, hdis⟩, hcp⟩ := C
  obtain ⟨hx, hb, hml, hown, hts⟩ := id S
  obtain ⟨sA, cA, ns, nc, dr, X, P, tr, nl, nq, rs, V, G, hW, hM, hI, hnd, hb8, hdr, hv4, hv5, hv6, hv7⟩ := hR
  refine lv_aload_n hx hb dL_law_183 rfl (lv_at hl 2 rfl) ?_
  refine l_arg (k := 1) hx hb hX hbl hbA hS hL (by omega) hl (by decide +kernel) dL_law_184 dL_law_185 dL_law_186 dL_law_187 dL_law_188 ?_
  refine l_arg (k := 2) hx hb hX hbl hbA hS hL (by omega) hl (by decide +kernel) dL_law_189 dL_law_190 dL_law_191 dL_law_192 dL_law_193 ?_
  refine l_arg (k := 3) hx hb hX hbl hbA hS hL (by omega) hl (by decide +kernel) dL_law_194 dL_law_195 dL_law_196 dL_law_197 dL_law_198 ?_
  refine l_x (As := [.int (xs (j + 1)), .int (xs (j + 2)), .int (xs (j + 3))]) (rest := []) (n := 3) (Pw := (Cw dC dI z A3 s.heap.size cp h3 la sA cA ns nc dr X P tr nl nq rs)) S (q_X3_set l dC dI z mi A3 s.heap.size cp h3 la sA cA ns nc dr X P tr nl nq rs (xs (j + 1)) (xs (j + 2)) (xs (j + 3))) iw_285 iw_282 iw_283 iw_284 (by decide +kernel) rfl ⟨rfl, rfl, Nat.le_of_ble_eq_true rfl, Nat.le_of_ble_eq_true rfl⟩ hK hW hW hl.1 rfl (Nat.le_of_ble_eq_true rfl) dL_law_199 hS hA3 (Or.inl rfl) rfl ⟨by subst hcp; show _ ≤ 600000; omega, by subst hcp; show _ ≤ 7302250; omega⟩ hM hdis (fun v9 H locs hB hM hS => ?_)
  obtain ⟨r, rfl, hW⟩ := hB
  refine W.eq (g2 := F0 m 202 ls [.int r]) rfl ?_
  refine lv_pop hx hb dL_law_202 rfl ?_
  refine lv_aload_n hx hb dL_law_203 rfl (lv_at hl 1 rfl) ?_
  refine l_arg (k := 1) hx hb hX hbl hbA hS hL (by omega) hl (by decide +kernel) dL_law_204 dL_law_205 dL_law_206 dL_law_207 dL_law_208 ?_
  refine l_arg (k := 2) hx hb hX hbl hbA hS hL (by omega) hl (by decide +kernel) dL_law_209 dL_law_210 dL_law_211 dL_law_212 dL_law_213 ?_
  refine l_arg (k := 3) hx hb hX hbl hbA hS hL (by omega) hl (by decide +kernel) dL_law_214 dL_law_215 dL_law_216 dL_law_217 dL_law_218 ?_
  refine l_m (As := [.int (xs (j + 1)), .int (xs (j + 2)), .int (xs (j + 3))]) (rest := []) (n := 3) S (q_X4_set l dC dI h4 Rr A4 V G ns (xs (j + 1)) (xs (j + 2)) (xs (j + 3)) hI.1.1 hI.1.2) iw_791 iw_788 iw_789 iw_790 (by decide +kernel) rfl ⟨rfl, rfl, Nat.le_of_ble_eq_true rfl, Nat.le_of_ble_eq_true rfl⟩ hK hM hW hl.1 rfl (Nat.le_of_ble_eq_true rfl) dL_law_219 hS hA4 ⟨by subst hcp; show _ ≤ 600000; omega, by subst hcp; show _ ≤ 7302250; omega⟩ hdis (fun v9 H locs hB hW hS => ?_)
  obtain ⟨r2, rfl, hM⟩ := hB
  refine W.eq (g2 := F0 m 222 ls [.int r2]) rfl ?_
  have hE : LRel dC dI z A3 A4 s.heap.size cp h3 la h4 Rr H := by
    exact ⟨sA, cA, ns, nc, dr, X, P, tr, nl, nq, rs, V, G, hW, hM, hI, hnd, hb8, hdr, hv4, hv5, hv6, hv7⟩
  refine lv_pop hx hb dL_law_222 rfl ?_
  refine lv_goto (tgt := 670) hx hb dL_law_223 (by decide) ?_
  exact kk H locs hE hS
set_option maxHeartbeats 4000000 in
theorem arm_drain (C : LCx p s m c b L xs dC dI z mi cp A A3 A4) (hj : j + 6 ≤ L) (hR : LRel dC dI z A3 A4 s.heap.size cp h3 la h4 Rr H) (hS : va_S A s.heap H locs) (hl : lv_has ls 4 [(3, .int (nI j)), (2, .ref h4), (1, .ref h3), (0, .ref b)]) (kk : ∀ (H1 : Heap) (locs1 : List Loc), LRel dC dI z A3 A4 s.heap.size cp h3 la h4 Rr H1 → va_S A s.heap H1 locs1 → W p l e room_1 s m #[Value.ref b] below meth c H1 locs1 (cp - s.heap.size) (610 * (cp - s.heap.size)) Q (F0 m 670 ls [])) : W p l e room_1 s m #[Value.ref b] below meth c H locs (cp - s.heap.size) (610 * (cp - s.heap.size)) Q (F0 m 226 ls []) := by
  obtain ⟨S, ⟨hX, hbl, hbA, hL⟩, hK, ⟨hA3, hA4, hdis⟩, hcp⟩ := C
  obtain ⟨hx, hb, hml, hown, hts⟩ := id S
  obtain ⟨sA, cA, ns, nc, dr, X, P, tr, nl, nq, rs, V, G, hW, hM, hI, hnd, hb8, hdr, hv4, hv5, hv6, hv7⟩ := hR
  refine lv_aload_n hx hb dL_law_226 rfl (lv_at hl 2 rfl) ?_
  refine l_arg (k := 1) hx hb hX hbl hbA hS hL (by omega) hl (by decide +kernel) dL_law_227 dL_law_228 dL_law_229 dL_law_230 dL_law_231 ?_
  refine l_x (As := [.int (xs (j + 1))]) (rest := []) (n := 1) (Pw := (Cw dC dI z A3 s.heap.size cp h3 la sA cA ns nc dr X P tr nl nq rs)) S (q_X3_drain l dC dI z mi A3 s.heap.size cp h3 la sA cA ns nc dr X P tr nl nq rs (xs (j + 1))) iw_325 iw_322 iw_323 iw_324 (by decide +kernel) rfl ⟨rfl, rfl, Nat.le_of_ble_eq_true rfl, Nat.le_of_ble_eq_true rfl⟩ hK hW hW hl.1 rfl (Nat.le_of_ble_eq_true rfl) dL_law_232 hS hA3 (Or.inl rfl) rfl ⟨by subst hcp; show _ ≤ 600000; omega, by subst hcp; show _ ≤ 7302250; omega⟩ hM hdis (fun v9 H locs hB hM hS => ?_)
  obtain ⟨r, dr1, rfl, h3f, hW⟩ := hB
  refine W.eq (g2 := F0 m 235 ls [.int r]) rfl ?_
  refine lv_pop hx hb dL_law_235 rfl ?_
  refine lv_aload_n hx hb dL_law_236 rfl (lv_at hl 1 rfl) ?_
  refine l_arg (k := 1) hx hb hX hbl hbA hS hL (by omega) hl (by decide +kernel) dL_law_237 dL_law_238 dL_law_239 dL_law_240 dL_law_241 ?_
  refine l_m (As := [.int (xs (j + 1))]) (rest := []) (n := 1) S (q_X4_drain l dC dI h4 Rr A4 V G ns (xs (j + 1)) hI.1.1 hI.1.2) iw_804 iw_801 iw_802 iw_803 (by decide +kernel) rfl ⟨rfl, rfl, Nat.le_of_ble_eq_true rfl, Nat.le_of_ble_eq_true rfl⟩ hK hM hW hl.1 rfl (Nat.le_of_ble_eq_true rfl) dL_law_242 hS hA4 ⟨by subst hcp; show _ ≤ 600000; omega, by subst hcp; show _ ≤ 7302250; omega⟩ hdis (fun v9 H locs hB hW hS => ?_)
  obtain ⟨r2, G1, rfl, h4f, hM⟩ := hB
  refine W.eq (g2 := F0 m 245 ls [.int r2]) rfl ?_
  have hE : LRel dC dI z A3 A4 s.heap.size cp h3 la h4 Rr H := by
    obtain ⟨hI1, hdr1⟩ := rel_drain hI hdr h3f h4f
    exact ⟨sA, cA, ns, nc, dr1, X, P, tr, nl, nq, rs, V, G1, hW, hM, hI1, hnd, hb8, hdr1, hv4, hv5, hv6, hv7⟩
  refine lv_pop hx hb dL_law_245 rfl ?_
  refine lv_goto (tgt := 670) hx hb dL_law_246 (by decide) ?_
  exact kk H locs hE hS
set_option maxHeartbeats 4000000 in
theorem arm_back (C : LCx p s m c b L xs dC dI z mi cp A A3 A4) (hj : j + 6 ≤ L) (hR : LRel dC dI z A3 A4 s.heap.size cp h3 la h4 Rr H) (hS : va_S A s.heap H locs) (hl : lv_has ls 4 [(3, .int (nI j)), (2, .ref h4), (1, .ref h3), (0, .ref b)]) (kk : ∀ (H1 : Heap) (locs1 : List Loc), LRel dC dI z A3 A4 s.heap.size cp h3 la h4 Rr H1 → va_S A s.heap H1 locs1 → W p l e room_1 s m #[Value.ref b] below meth c H1 locs1 (cp - s.heap.size) (610 * (cp - s.heap.size)) Q (F0 m 670 ls [])) : W p l e room_1 s m #[Value.ref b] below meth c H locs (cp - s.heap.size) (610 * (cp - s.heap.size)) Q (F0 m 249 ls []) := by
  obtain ⟨S, ⟨hX, hbl, hbA, hL⟩, hK, ⟨hA3, hA4, hdis⟩, hcp⟩ := C
  obtain ⟨hx, hb, hml, hown, hts⟩ := id S
  obtain ⟨sA, cA, ns, nc, dr, X, P, tr, nl, nq, rs, V, G, hW, hM, hI, hnd, hb8, hdr, hv4, hv5, hv6, hv7⟩ := hR
  refine lv_aload_n hx hb dL_law_249 rfl (lv_at hl 2 rfl) ?_
  refine l_arg (k := 1) hx hb hX hbl hbA hS hL (by omega) hl (by decide +kernel) dL_law_250 dL_law_251 dL_law_252 dL_law_253 dL_law_254 ?_
  refine l_x (As := [.int (xs (j + 1))]) (rest := []) (n := 1) (Pw := (Cw dC dI z A3 s.heap.size cp h3 la sA cA ns nc dr X P tr nl nq rs)) S (q_X3_back l dC dI z mi A3 s.heap.size cp h3 la sA cA ns nc dr X P tr nl nq rs (xs (j + 1))) iw_329 iw_326 iw_327 iw_328 (by decide +kernel) rfl ⟨rfl, rfl, Nat.le_of_ble_eq_true rfl, Nat.le_of_ble_eq_true rfl⟩ hK hW hW hl.1 rfl (Nat.le_of_ble_eq_true rfl) dL_law_255 hS hA3 (Or.inl rfl) rfl ⟨by subst hcp; show _ ≤ 600000; omega, by subst hcp; show _ ≤ 7302250; omega⟩ hM hdis (fun v9 H locs hB hM hS => ?_)
  obtain ⟨r, dr1, rfl, h3f, hW⟩ := hB
  refine W.eq (g2 := F0 m 258 ls [.int r]) rfl ?_
  refine lv_pop hx hb dL_law_258 rfl ?_
  refine lv_aload_n hx hb dL_law_259 rfl (lv_at hl 1 rfl) ?_
  refine l_arg (k := 1) hx hb hX hbl hbA hS hL (by omega) hl (by decide +kernel) dL_law_260 dL_law_261 dL_law_262 dL_law_263 dL_law_264 ?_
  refine l_m (As := [.int (xs (j + 1))]) (rest := []) (n := 1) S (q_X4_back l dC dI h4 Rr A4 V G ns (xs (j + 1)) hI.1.1 hI.1.2) iw_808 iw_805 iw_806 iw_807 (by decide +kernel) rfl ⟨rfl, rfl, Nat.le_of_ble_eq_true rfl, Nat.le_of_ble_eq_true rfl⟩ hK hM hW hl.1 rfl (Nat.le_of_ble_eq_true rfl) dL_law_265 hS hA4 ⟨by subst hcp; show _ ≤ 600000; omega, by subst hcp; show _ ≤ 7302250; omega⟩ hdis (fun v9 H locs hB hW hS => ?_)
  obtain ⟨r2, G1, rfl, h4f, hM⟩ := hB
  refine W.eq (g2 := F0 m 268 ls [.int r2]) rfl ?_
  have hE : r = r2 ∧ LRel dC dI z A3 A4 s.heap.size cp h3 la h4 Rr H := by
    obtain ⟨er, hI1, hdr1⟩ := rel_back hI hdr h3f h4f
    exact ⟨er, ⟨sA, cA, ns, nc, dr1, X, P, tr, nl, nq, rs, V, G1, hW, hM, hI1, hnd, hb8, hdr1, hv4, hv5, hv6, hv7⟩⟩
  refine lv_pop hx hb dL_law_268 rfl ?_
  refine lv_goto (tgt := 670) hx hb dL_law_269 (by decide) ?_
  exact kk H locs hE.2 hS
set_option maxHeartbeats 4000000 in
theorem arm_rule (C : LCx p s m c b L xs dC dI z mi cp A A3 A4) (hj : j + 6 ≤ L) (hR : LRel dC dI z A3 A4 s.heap.size cp h3 la h4 Rr H) (hS : va_S A s.heap H locs) (hl : lv_has ls 4 [(3, .int (nI j)), (2, .ref h4), (1, .ref h3), (0, .ref b)]) (kk : ∀ (H1 : Heap) (locs1 : List Loc), LRel dC dI z A3 A4 s.heap.size cp h3 la h4 Rr H1 → va_S A s.heap H1 locs1 → W p l e room_1 s m #[Value.ref b] below meth c H1 locs1 (cp - s.heap.size) (610 * (cp - s.heap.size)) Q (F0 m 670 ls [])) : W p l e room_1 s m #[Value.ref b] below meth c H locs (cp - s.heap.size) (610 * (cp - s.heap.size)) Q (F0 m 272 ls []) := by
  obtain ⟨S, ⟨hX, hbl, hbA, hL⟩, hK, ⟨hA3, hA4, hdis⟩, hcp⟩ := C
  obtain ⟨hx, hb, hml, hown, hts⟩ := id S
  obtain ⟨sA, cA, ns, nc, dr, X, P, tr, nl, nq, rs, V, G, hW, hM, hI, hnd, hb8, hdr, hv4, hv5, hv6, hv7⟩ := hR
  refine lv_aload_n hx hb dL_law_272 rfl (lv_at hl 2 rfl) ?_
  refine l_arg (k := 1) hx hb hX hbl hbA hS hL (by omega) hl (by decide +kernel) dL_law_273 dL_law_274 dL_law_275 dL_law_276 dL_law_277 ?_
  refine l_x (As := [.int (xs (j + 1))]) (rest := []) (n := 1) (Pw := (Cw dC dI z A3 s.heap.size cp h3 la sA cA ns nc dr X P tr nl nq rs)) S (q_X3_rule l dC dI z mi A3 s.heap.size cp h3 la sA cA ns nc dr X P tr nl nq rs (xs (j + 1))) iw_333 iw_330 iw_331 iw_332 (by decide +kernel) rfl ⟨rfl, rfl, Nat.le_of_ble_eq_true rfl, Nat.le_of_ble_eq_true rfl⟩ hK hW hW hl.1 rfl (Nat.le_of_ble_eq_true rfl) dL_law_278 hS hA3 (Or.inl rfl) rfl ⟨by subst hcp; show _ ≤ 600000; omega, by subst hcp; show _ ≤ 7302250; omega⟩ hM hdis (fun v9 H locs hB hM hS => ?_)
  obtain ⟨r, X1, rfl, h3f, hW⟩ := hB
  refine W.eq (g2 := F0 m 281 ls [.int r]) rfl ?_
  refine lv_pop hx hb dL_law_281 rfl ?_
  refine lv_aload_n hx hb dL_law_282 rfl (lv_at hl 1 rfl) ?_
  refine l_arg (k := 1) hx hb hX hbl hbA hS hL (by omega) hl (by decide +kernel) dL_law_283 dL_law_284 dL_law_285 dL_law_286 dL_law_287 ?_
  refine l_m (As := [.int (xs (j + 1))]) (rest := []) (n := 1) S (q_X4_rule l dC dI h4 Rr A4 V G  (xs (j + 1)) ) iw_812 iw_809 iw_810 iw_811 (by decide +kernel) rfl ⟨rfl, rfl, Nat.le_of_ble_eq_true rfl, Nat.le_of_ble_eq_true rfl⟩ hK hM hW hl.1 rfl (Nat.le_of_ble_eq_true rfl) dL_law_288 hS hA4 ⟨by subst hcp; show _ ≤ 600000; omega, by subst hcp; show _ ≤ 7302250; omega⟩ hdis (fun v9 H locs hB hW hS => ?_)
  obtain ⟨r2, V1, rfl, h4f, hM⟩ := hB
  refine W.eq (g2 := F0 m 291 ls [.int r2]) rfl ?_
  have hE : r = r2 ∧ LRel dC dI z A3 A4 s.heap.size cp h3 la h4 Rr H := by
    rcases h3f with ⟨e1, hX⟩ | ⟨e1, er, g1, g2⟩
    · rcases h4f with ⟨e2, hV⟩ | ⟨e2, -, -, -⟩
      · exact ⟨Option.some.inj (e1.symm.trans e2), ⟨sA, cA, ns, nc, dr, X1, P, tr, nl, nq, rs, V1, G, hW, hM, hI.V (hV 2) (hV 3), (by rw [agn_eq (hX 10)]; exact hnd), (by rw [hX 8]; exact hb8), hdr, ((hV 4).trans (hv4.trans (hX 6).symm)), ((hV 5).trans (hv5.trans (hX 7).symm)), ((hV 6).trans (hv6.trans (hX 8).symm)), ((hV 7).trans (hv7.trans (hX 9).symm))⟩⟩
      · rw [e1] at e2; cases e2
    · rcases h4f with ⟨e2, -⟩ | ⟨e2, er2, g3, g4⟩
      · rw [e1] at e2; cases e2
      · exact ⟨er.trans (hv4.symm.trans er2.symm), ⟨sA, cA, ns, nc, dr, X1, P, tr, nl, nq, rs, V1, G, hW, hM, hI.V (g4 2 (by decide)) (g4 3 (by decide)), (by rw [agn_eq (g2 10 (by decide))]; exact hnd), (by rw [g2 8 (by decide)]; exact hb8), hdr, (g3.trans g1.symm), ((g4 5 (by decide)).trans (hv5.trans (g2 7 (by decide)).symm)), ((g4 6 (by decide)).trans (hv6.trans (g2 8 (by decide)).symm)), ((g4 7 (by decide)).trans (hv7.trans (g2 9 (by decide)).symm))⟩⟩
  refine lv_pop hx hb dL_law_291 rfl ?_
  refine lv_goto (tgt := 670) hx hb dL_law_292 (by decide) ?_
  exact kk H locs hE.2 hS
set_option maxHeartbeats 4000000 in
theorem arm_limit (C : LCx p s m c b L xs dC dI z mi cp A A3 A4) (hj : j + 6 ≤ L) (hR : LRel dC dI z A3 A4 s.heap.size cp h3 la h4 Rr H) (hS : va_S A s.heap H locs) (hl : lv_has ls 4 [(3, .int (nI j)), (2, .ref h4), (1, .ref h3), (0, .ref b)]) (kk : ∀ (H1 : Heap) (locs1 : List Loc), LRel dC dI z A3 A4 s.heap.size cp h3 la h4 Rr H1 → va_S A s.heap H1 locs1 → W p l e room_1 s m #[Value.ref b] below meth c H1 locs1 (cp - s.heap.size) (610 * (cp - s.heap.size)) Q (F0 m 670 ls [])) : W p l e room_1 s m #[Value.ref b] below meth c H locs (cp - s.heap.size) (610 * (cp - s.heap.size)) Q (F0 m 295 ls []) := by
  obtain ⟨S, ⟨hX, hbl, hbA, hL⟩, hK, ⟨hA3, hA4, hdis⟩, hcp⟩ := C
  obtain ⟨hx, hb, hml, hown, hts⟩ := id S
  obtain ⟨sA, cA, ns, nc, dr, X, P, tr, nl, nq, rs, V, G, hW, hM, hI, hnd, hb8, hdr, hv4, hv5, hv6, hv7⟩ := hR
  refine lv_aload_n hx hb dL_law_295 rfl (lv_at hl 2 rfl) ?_
  refine l_arg (k := 1) hx hb hX hbl hbA hS hL (by omega) hl (by decide +kernel) dL_law_296 dL_law_297 dL_law_298 dL_law_299 dL_law_300 ?_
  refine l_x (As := [.int (xs (j + 1))]) (rest := []) (n := 1) (Pw := (Cw dC dI z A3 s.heap.size cp h3 la sA cA ns nc dr X P tr nl nq rs)) S (q_X3_limit l dC dI z mi A3 s.heap.size cp h3 la sA cA ns nc dr X P tr nl nq rs (xs (j + 1))) iw_337 iw_334 iw_335 iw_336 (by decide +kernel) rfl ⟨rfl, rfl, Nat.le_of_ble_eq_true rfl, Nat.le_of_ble_eq_true rfl⟩ hK hW hW hl.1 rfl (Nat.le_of_ble_eq_true rfl) dL_law_301 hS hA3 (Or.inl rfl) rfl ⟨by subst hcp; show _ ≤ 600000; omega, by subst hcp; show _ ≤ 7302250; omega⟩ hM hdis (fun v9 H locs hB hM hS => ?_)
  obtain ⟨r, X1, rfl, h3f, hW⟩ := hB
  refine W.eq (g2 := F0 m 304 ls [.int r]) rfl ?_
  refine lv_pop hx hb dL_law_304 rfl ?_
  refine lv_aload_n hx hb dL_law_305 rfl (lv_at hl 1 rfl) ?_
  refine l_arg (k := 1) hx hb hX hbl hbA hS hL (by omega) hl (by decide +kernel) dL_law_306 dL_law_307 dL_law_308 dL_law_309 dL_law_310 ?_
  refine l_m (As := [.int (xs (j + 1))]) (rest := []) (n := 1) S (q_X4_limit l dC dI h4 Rr A4 V G  (xs (j + 1)) ) iw_816 iw_813 iw_814 iw_815 (by decide +kernel) rfl ⟨rfl, rfl, Nat.le_of_ble_eq_true rfl, Nat.le_of_ble_eq_true rfl⟩ hK hM hW hl.1 rfl (Nat.le_of_ble_eq_true rfl) dL_law_311 hS hA4 ⟨by subst hcp; show _ ≤ 600000; omega, by subst hcp; show _ ≤ 7302250; omega⟩ hdis (fun v9 H locs hB hW hS => ?_)
  obtain ⟨r2, V1, rfl, h4f, hM⟩ := hB
  refine W.eq (g2 := F0 m 314 ls [.int r2]) rfl ?_
  have hE : r = r2 ∧ LRel dC dI z A3 A4 s.heap.size cp h3 la h4 Rr H := by
    rcases h3f with ⟨e1, hX⟩ | ⟨e1, er, g1, g2⟩
    · rcases h4f with ⟨e2, hV⟩ | ⟨e2, -, -, -⟩
      · exact ⟨Option.some.inj (e1.symm.trans e2), ⟨sA, cA, ns, nc, dr, X1, P, tr, nl, nq, rs, V1, G, hW, hM, hI.V (hV 2) (hV 3), (by rw [agn_eq (hX 10)]; exact hnd), (by rw [hX 8]; exact hb8), hdr, ((hV 4).trans (hv4.trans (hX 6).symm)), ((hV 5).trans (hv5.trans (hX 7).symm)), ((hV 6).trans (hv6.trans (hX 8).symm)), ((hV 7).trans (hv7.trans (hX 9).symm))⟩⟩
      · rw [e1] at e2; cases e2
    · rcases h4f with ⟨e2, -⟩ | ⟨e2, er2, g3, g4⟩
      · rw [e1] at e2; cases e2
      · exact ⟨er.trans (hv5.symm.trans er2.symm), ⟨sA, cA, ns, nc, dr, X1, P, tr, nl, nq, rs, V1, G, hW, hM, hI.V (g4 2 (by decide)) (g4 3 (by decide)), (by rw [agn_eq (g2 10 (by decide))]; exact hnd), (by rw [g2 8 (by decide)]; exact hb8), hdr, ((g4 4 (by decide)).trans (hv4.trans (g2 6 (by decide)).symm)), (g3.trans g1.symm), ((g4 6 (by decide)).trans (hv6.trans (g2 8 (by decide)).symm)), ((g4 7 (by decide)).trans (hv7.trans (g2 9 (by decide)).symm))⟩⟩
  refine lv_pop hx hb dL_law_314 rfl ?_
  refine lv_goto (tgt := 670) hx hb dL_law_315 (by decide) ?_
  exact kk H locs hE.2 hS
set_option maxHeartbeats 4000000 in
theorem arm_budget (C : LCx p s m c b L xs dC dI z mi cp A A3 A4) (hj : j + 6 ≤ L) (hR : LRel dC dI z A3 A4 s.heap.size cp h3 la h4 Rr H) (hS : va_S A s.heap H locs) (hl : lv_has ls 4 [(3, .int (nI j)), (2, .ref h4), (1, .ref h3), (0, .ref b)]) (kk : ∀ (H1 : Heap) (locs1 : List Loc), LRel dC dI z A3 A4 s.heap.size cp h3 la h4 Rr H1 → va_S A s.heap H1 locs1 → W p l e room_1 s m #[Value.ref b] below meth c H1 locs1 (cp - s.heap.size) (610 * (cp - s.heap.size)) Q (F0 m 670 ls [])) : W p l e room_1 s m #[Value.ref b] below meth c H locs (cp - s.heap.size) (610 * (cp - s.heap.size)) Q (F0 m 318 ls []) := by
  obtain ⟨S, ⟨hX, hbl, hbA, hL⟩, hK, ⟨hA3, hA4, hdis⟩, hcp⟩ := C
  obtain ⟨hx, hb, hml, hown, hts⟩ := id S
  obtain ⟨sA, cA, ns, nc, dr, X, P, tr, nl, nq, rs, V, G, hW, hM, hI, hnd, hb8, hdr, hv4, hv5, hv6, hv7⟩ := hR
  refine lv_aload_n hx hb dL_law_318 rfl (lv_at hl 2 rfl) ?_
  refine l_arg (k := 1) hx hb hX hbl hbA hS hL (by omega) hl (by decide +kernel) dL_law_319 dL_law_320 dL_law_321 dL_law_322 dL_law_323 ?_
  refine l_x (As := [.int (xs (j + 1))]) (rest := []) (n := 1) (Pw := (Cw dC dI z A3 s.heap.size cp h3 la sA cA ns nc dr X P tr nl nq rs)) S (q_X3_budget l dC dI z mi A3 s.heap.size cp h3 la sA cA ns nc dr X P tr nl nq rs (xs (j + 1))) iw_341 iw_338 iw_339 iw_340 (by decide +kernel) rfl ⟨rfl, rfl, Nat.le_of_ble_eq_true rfl, Nat.le_of_ble_eq_true rfl⟩ hK hW hW hl.1 rfl (Nat.le_of_ble_eq_true rfl) dL_law_324 hS hA3 (Or.inl rfl) rfl ⟨by subst hcp; show _ ≤ 600000; omega, by subst hcp; show _ ≤ 7302250; omega⟩ hM hdis (fun v9 H locs hB hM hS => ?_)
  obtain ⟨r, X1, rfl, h3f, hW⟩ := hB
  refine W.eq (g2 := F0 m 327 ls [.int r]) rfl ?_
  refine lv_pop hx hb dL_law_327 rfl ?_
  refine lv_aload_n hx hb dL_law_328 rfl (lv_at hl 1 rfl) ?_
  refine l_arg (k := 1) hx hb hX hbl hbA hS hL (by omega) hl (by decide +kernel) dL_law_329 dL_law_330 dL_law_331 dL_law_332 dL_law_333 ?_
  refine l_m (As := [.int (xs (j + 1))]) (rest := []) (n := 1) S (q_X4_budget l dC dI h4 Rr A4 V G  (xs (j + 1)) ) iw_820 iw_817 iw_818 iw_819 (by decide +kernel) rfl ⟨rfl, rfl, Nat.le_of_ble_eq_true rfl, Nat.le_of_ble_eq_true rfl⟩ hK hM hW hl.1 rfl (Nat.le_of_ble_eq_true rfl) dL_law_334 hS hA4 ⟨by subst hcp; show _ ≤ 600000; omega, by subst hcp; show _ ≤ 7302250; omega⟩ hdis (fun v9 H locs hB hW hS => ?_)
  obtain ⟨r2, V1, rfl, h4f, hM⟩ := hB
  refine W.eq (g2 := F0 m 337 ls [.int r2]) rfl ?_
  have hE : r = r2 ∧ LRel dC dI z A3 A4 s.heap.size cp h3 la h4 Rr H := by
    rcases h3f with ⟨e1, hX⟩ | ⟨e1, er, g1, g2⟩
    · rcases h4f with ⟨e2, hV⟩ | ⟨e2, -, -, -⟩
      · exact ⟨Option.some.inj (e1.symm.trans e2), ⟨sA, cA, ns, nc, dr, X1, P, tr, nl, nq, rs, V1, G, hW, hM, hI.V (hV 2) (hV 3), (by rw [agn_eq (hX 10)]; exact hnd), (by rw [hX 8]; exact hb8), hdr, ((hV 4).trans (hv4.trans (hX 6).symm)), ((hV 5).trans (hv5.trans (hX 7).symm)), ((hV 6).trans (hv6.trans (hX 8).symm)), ((hV 7).trans (hv7.trans (hX 9).symm))⟩⟩
      · rw [e1] at e2; cases e2
    · rcases h4f with ⟨e2, -⟩ | ⟨e2, er2, g3, g4⟩
      · rw [e1] at e2; cases e2
      · exact ⟨er.trans (hv6.symm.trans er2.symm), ⟨sA, cA, ns, nc, dr, X1, P, tr, nl, nq, rs, V1, G, hW, hM, hI.V (g4 2 (by decide)) (g4 3 (by decide)), (by rw [agn_eq (g2 10 (by decide))]; exact hnd), (by rw [g1]; exact badN_in e1), hdr, ((g4 4 (by decide)).trans (hv4.trans (g2 6 (by decide)).symm)), ((g4 5 (by decide)).trans (hv5.trans (g2 7 (by decide)).symm)), (g3.trans g1.symm), ((g4 7 (by decide)).trans (hv7.trans (g2 9 (by decide)).symm))⟩⟩
  refine lv_pop hx hb dL_law_337 rfl ?_
  refine lv_goto (tgt := 670) hx hb dL_law_338 (by decide) ?_
  exact kk H locs hE.2 hS
set_option maxHeartbeats 4000000 in
theorem arm_hedge (C : LCx p s m c b L xs dC dI z mi cp A A3 A4) (hj : j + 6 ≤ L) (hR : LRel dC dI z A3 A4 s.heap.size cp h3 la h4 Rr H) (hS : va_S A s.heap H locs) (hl : lv_has ls 4 [(3, .int (nI j)), (2, .ref h4), (1, .ref h3), (0, .ref b)]) (kk : ∀ (H1 : Heap) (locs1 : List Loc), LRel dC dI z A3 A4 s.heap.size cp h3 la h4 Rr H1 → va_S A s.heap H1 locs1 → W p l e room_1 s m #[Value.ref b] below meth c H1 locs1 (cp - s.heap.size) (610 * (cp - s.heap.size)) Q (F0 m 670 ls [])) : W p l e room_1 s m #[Value.ref b] below meth c H locs (cp - s.heap.size) (610 * (cp - s.heap.size)) Q (F0 m 341 ls []) := by
  obtain ⟨S, ⟨hX, hbl, hbA, hL⟩, hK, ⟨hA3, hA4, hdis⟩, hcp⟩ := C
  obtain ⟨hx, hb, hml, hown, hts⟩ := id S
  obtain ⟨sA, cA, ns, nc, dr, X, P, tr, nl, nq, rs, V, G, hW, hM, hI, hnd, hb8, hdr, hv4, hv5, hv6, hv7⟩ := hR
  refine lv_aload_n hx hb dL_law_341 rfl (lv_at hl 2 rfl) ?_
  refine l_arg (k := 1) hx hb hX hbl hbA hS hL (by omega) hl (by decide +kernel) dL_law_342 dL_law_343 dL_law_344 dL_law_345 dL_law_346 ?_
  refine l_x (As := [.int (xs (j + 1))]) (rest := []) (n := 1) (Pw := (Cw dC dI z A3 s.heap.size cp h3 la sA cA ns nc dr X P tr nl nq rs)) S (q_X3_hedge l dC dI z mi A3 s.heap.size cp h3 la sA cA ns nc dr X P tr nl nq rs (xs (j + 1))) iw_345 iw_342 iw_343 iw_344 (by decide +kernel) rfl ⟨rfl, rfl, Nat.le_of_ble_eq_true rfl, Nat.le_of_ble_eq_true rfl⟩ hK hW hW hl.1 rfl (Nat.le_of_ble_eq_true rfl) dL_law_347 hS hA3 (Or.inl rfl) rfl ⟨by subst hcp; show _ ≤ 600000; omega, by subst hcp; show _ ≤ 7302250; omega⟩ hM hdis (fun v9 H locs hB hM hS => ?_)
  obtain ⟨r, X1, rfl, h3f, hW⟩ := hB
  refine W.eq (g2 := F0 m 350 ls [.int r]) rfl ?_
  refine lv_pop hx hb dL_law_350 rfl ?_
  refine lv_aload_n hx hb dL_law_351 rfl (lv_at hl 1 rfl) ?_
  refine l_arg (k := 1) hx hb hX hbl hbA hS hL (by omega) hl (by decide +kernel) dL_law_352 dL_law_353 dL_law_354 dL_law_355 dL_law_356 ?_
  refine l_m (As := [.int (xs (j + 1))]) (rest := []) (n := 1) S (q_X4_hedge l dC dI h4 Rr A4 V G  (xs (j + 1)) ) iw_824 iw_821 iw_822 iw_823 (by decide +kernel) rfl ⟨rfl, rfl, Nat.le_of_ble_eq_true rfl, Nat.le_of_ble_eq_true rfl⟩ hK hM hW hl.1 rfl (Nat.le_of_ble_eq_true rfl) dL_law_357 hS hA4 ⟨by subst hcp; show _ ≤ 600000; omega, by subst hcp; show _ ≤ 7302250; omega⟩ hdis (fun v9 H locs hB hW hS => ?_)
  obtain ⟨r2, V1, rfl, h4f, hM⟩ := hB
  refine W.eq (g2 := F0 m 360 ls [.int r2]) rfl ?_
  have hE : r = r2 ∧ LRel dC dI z A3 A4 s.heap.size cp h3 la h4 Rr H := by
    rcases h3f with ⟨e1, hX⟩ | ⟨e1, er, g1, g2⟩
    · rcases h4f with ⟨e2, hV⟩ | ⟨e2, -, -, -⟩
      · exact ⟨Option.some.inj (e1.symm.trans e2), ⟨sA, cA, ns, nc, dr, X1, P, tr, nl, nq, rs, V1, G, hW, hM, hI.V (hV 2) (hV 3), (by rw [agn_eq (hX 10)]; exact hnd), (by rw [hX 8]; exact hb8), hdr, ((hV 4).trans (hv4.trans (hX 6).symm)), ((hV 5).trans (hv5.trans (hX 7).symm)), ((hV 6).trans (hv6.trans (hX 8).symm)), ((hV 7).trans (hv7.trans (hX 9).symm))⟩⟩
      · rw [e1] at e2; cases e2
    · rcases h4f with ⟨e2, -⟩ | ⟨e2, er2, g3, g4⟩
      · rw [e1] at e2; cases e2
      · exact ⟨er.trans (hv7.symm.trans er2.symm), ⟨sA, cA, ns, nc, dr, X1, P, tr, nl, nq, rs, V1, G, hW, hM, hI.V (g4 2 (by decide)) (g4 3 (by decide)), (by rw [agn_eq (g2 10 (by decide))]; exact hnd), (by rw [g2 8 (by decide)]; exact hb8), hdr, ((g4 4 (by decide)).trans (hv4.trans (g2 6 (by decide)).symm)), ((g4 5 (by decide)).trans (hv5.trans (g2 7 (by decide)).symm)), ((g4 6 (by decide)).trans (hv6.trans (g2 8 (by decide)).symm)), (g3.trans g1.symm)⟩⟩
  refine lv_pop hx hb dL_law_360 rfl ?_
  refine lv_goto (tgt := 670) hx hb dL_law_361 (by decide) ?_
  exact kk H locs hE.2 hS
set_option maxHeartbeats 4000000 in
theorem arm_call (C : LCx p s m c b L xs dC dI z mi cp A A3 A4) (hj : j + 6 ≤ L) (hR : LRel dC dI z A3 A4 s.heap.size cp h3 la h4 Rr H) (hS : va_S A s.heap H locs) (hl : lv_has ls 4 [(3, .int (nI j)), (2, .ref h4), (1, .ref h3), (0, .ref b)]) (kk : ∀ (H1 : Heap) (locs1 : List Loc), LRel dC dI z A3 A4 s.heap.size cp h3 la h4 Rr H1 → va_S A s.heap H1 locs1 → W p l e room_1 s m #[Value.ref b] below meth c H1 locs1 (cp - s.heap.size) (610 * (cp - s.heap.size)) Q (F0 m 670 ls [])) : W p l e room_1 s m #[Value.ref b] below meth c H locs (cp - s.heap.size) (610 * (cp - s.heap.size)) Q (F0 m 364 ls []) := by
  obtain ⟨S, ⟨hX, hbl, hbA, hL⟩, hK, ⟨hA3, hA4, hdis⟩, hcp⟩ := C
  obtain ⟨hx, hb, hml, hown, hts⟩ := id S
  obtain ⟨sA, cA, ns, nc, dr, X, P, tr, nl, nq, rs, V, G, hW, hM, hI, hnd, hb8, hdr, hv4, hv5, hv6, hv7⟩ := hR
  by_cases hq : xs (j + 4) = 0
  · refine lv_aload_n hx hb dL_law_364 rfl (lv_at hl 2 rfl) ?_
    refine l_arg (k := 1) hx hb hX hbl hbA hS hL (by omega) hl (by decide +kernel) dL_law_365 dL_law_366 dL_law_367 dL_law_368 dL_law_369 ?_
    refine l_arg (k := 2) hx hb hX hbl hbA hS hL (by omega) hl (by decide +kernel) dL_law_370 dL_law_371 dL_law_372 dL_law_373 dL_law_374 ?_
    refine l_arg (k := 3) hx hb hX hbl hbA hS hL (by omega) hl (by decide +kernel) dL_law_375 dL_law_376 dL_law_377 dL_law_378 dL_law_379 ?_
    refine l_arg (k := 4) hx hb hX hbl hbA hS hL (by omega) hl (by decide +kernel) dL_law_380 dL_law_381 dL_law_382 dL_law_383 dL_law_384 ?_
    refine lv_if_eq (tgt := 392) hx hb dL_law_385 (by decide) (fun _ => ?_) (fun c9 => absurd hq c9)
    refine lv_iconst (v := 0) hx hb dL_law_392 (by decide) ?_
    refine l_x (As := [.int (xs (j + 1)), .int (xs (j + 2)), .int (xs (j + 3)), .int 0]) (rest := []) (n := 4) (Pw := (fun H9 => H9.size = H.size ∧ Cw dC dI z A3 s.heap.size cp h3 la sA cA ns nc dr X P tr nl nq rs H9)) S (q_X3_call l dC dI z mi A3 s.heap.size cp h3 la sA cA ns nc dr X P tr nl nq rs H.size (xs (j + 1)) (xs (j + 2)) (xs (j + 3)) 0 hS.1 (Or.inl rfl) hnd) iw_349 iw_346 iw_347 iw_348 (by decide +kernel) rfl ⟨rfl, rfl, Nat.le_of_ble_eq_true rfl, Nat.le_of_ble_eq_true rfl⟩ hK ⟨rfl, hW⟩ hW hl.1 rfl (Nat.le_of_ble_eq_true rfl) dL_law_393 hS hA3 (Or.inr rfl) rfl ⟨by subst hcp; show _ ≤ 600000; omega, by subst hcp; show _ ≤ 7302250; omega⟩ hM hdis (fun v9 H locs hB hM hS => ?_)
    obtain ⟨r, cA1, nc1, P1, tr1, nl1, nq1, rs1, rfl, h3f, hnd1, hW⟩ := hB
    refine W.eq (g2 := F0 m 396 ls [.int r]) rfl ?_
    refine lv_aload_n hx hb dL_law_396 rfl (lv_at hl 1 rfl) ?_
    refine l_arg (k := 1) hx hb hX hbl hbA hS hL (by omega) hl (by decide +kernel) dL_law_397 dL_law_398 dL_law_399 dL_law_400 dL_law_401 ?_
    refine l_arg (k := 2) hx hb hX hbl hbA hS hL (by omega) hl (by decide +kernel) dL_law_402 dL_law_403 dL_law_404 dL_law_405 dL_law_406 ?_
    refine l_arg (k := 3) hx hb hX hbl hbA hS hL (by omega) hl (by decide +kernel) dL_law_407 dL_law_408 dL_law_409 dL_law_410 dL_law_411 ?_
    refine l_arg (k := 4) hx hb hX hbl hbA hS hL (by omega) hl (by decide +kernel) dL_law_412 dL_law_413 dL_law_414 dL_law_415 dL_law_416 ?_
    refine lv_if_eq (tgt := 424) hx hb dL_law_417 (by decide) (fun _ => ?_) (fun c9 => absurd hq c9)
    refine lv_iconst (v := 0) hx hb dL_law_424 (by decide) ?_
    refine l_m (As := [.int (xs (j + 1)), .int (xs (j + 2)), .int (xs (j + 3)), .int 0]) (rest := [.int r]) (n := 4) S (q_X4_call l dC dI h4 Rr A4 V G ns nc dr (xs (j + 1)) (xs (j + 2)) (xs (j + 3)) 0 hI) iw_828 iw_825 iw_826 iw_827 (by decide +kernel) rfl ⟨rfl, rfl, Nat.le_of_ble_eq_true rfl, Nat.le_of_ble_eq_true rfl⟩ hK hM hW hl.1 rfl (Nat.le_of_ble_eq_true rfl) dL_law_425 hS hA4 ⟨by subst hcp; show _ ≤ 600000; omega, by subst hcp; show _ ≤ 7302250; omega⟩ hdis (fun v9 H locs hB hW hS => ?_)
    obtain ⟨r2, V1, G1, rfl, h4f, hKV, hM⟩ := hB
    refine W.eq (g2 := F0 m 428 ls [.int r2, .int r]) rfl ?_
    have hE : r = r2 ∧ LRel dC dI z A3 A4 s.heap.size cp h3 la h4 Rr H := by
      rcases h3f with ⟨e1, en⟩ | ⟨e1, er, en⟩
      · rw [en] at hW hnd1
        rcases h4f with ⟨e2, hI1⟩ | ⟨e2, -, -⟩
        · exact ⟨Option.some.inj (e1.symm.trans e2), ⟨sA, cA1, ns, nc, dr, X, P1, tr1, nl1, nq1, rs1, V1, G1, hW, hM, hI1, hnd1, hb8, hdr, (hKV 4 (by decide) (by decide)).trans hv4, (hKV 5 (by decide) (by decide)).trans hv5, (hKV 6 (by decide) (by decide)).trans hv6, (hKV 7 (by decide) (by decide)).trans hv7⟩⟩
        · rw [e1] at e2; cases e2
      · rw [en] at hW hnd1
        rcases h4f with ⟨e2, -⟩ | ⟨e2, er2, hI1⟩
        · rw [e1] at e2; cases e2
        · exact ⟨er.trans er2.symm, ⟨sA, cA1, ns, nc + 1, dr, X, P1, tr1, nl1, nq1, rs1, V1, G1, hW, hM, hI1, hnd1, hb8, hdr, (hKV 4 (by decide) (by decide)).trans hv4, (hKV 5 (by decide) (by decide)).trans hv5, (hKV 6 (by decide) (by decide)).trans hv6, (hKV 7 (by decide) (by decide)).trans hv7⟩⟩
    refine lv_icmp_eq (tgt := 670) hx hb dL_law_428 (by decide) (fun _ => ?_) (fun c9 => absurd hE.1 c9)
    exact kk H locs hE.2 hS
  · refine lv_aload_n hx hb dL_law_364 rfl (lv_at hl 2 rfl) ?_
    refine l_arg (k := 1) hx hb hX hbl hbA hS hL (by omega) hl (by decide +kernel) dL_law_365 dL_law_366 dL_law_367 dL_law_368 dL_law_369 ?_
    refine l_arg (k := 2) hx hb hX hbl hbA hS hL (by omega) hl (by decide +kernel) dL_law_370 dL_law_371 dL_law_372 dL_law_373 dL_law_374 ?_
    refine l_arg (k := 3) hx hb hX hbl hbA hS hL (by omega) hl (by decide +kernel) dL_law_375 dL_law_376 dL_law_377 dL_law_378 dL_law_379 ?_
    refine l_arg (k := 4) hx hb hX hbl hbA hS hL (by omega) hl (by decide +kernel) dL_law_380 dL_law_381 dL_law_382 dL_law_383 dL_law_384 ?_
    refine lv_if_eq (tgt := 392) hx hb dL_law_385 (by decide) (fun c9 => absurd c9 hq) (fun _ => ?_)
    refine lv_iconst (v := 1) hx hb dL_law_388 (by decide) ?_
    refine lv_goto (tgt := 393) hx hb dL_law_389 (by decide) ?_
    refine l_x (As := [.int (xs (j + 1)), .int (xs (j + 2)), .int (xs (j + 3)), .int 1]) (rest := []) (n := 4) (Pw := (fun H9 => H9.size = H.size ∧ Cw dC dI z A3 s.heap.size cp h3 la sA cA ns nc dr X P tr nl nq rs H9)) S (q_X3_call l dC dI z mi A3 s.heap.size cp h3 la sA cA ns nc dr X P tr nl nq rs H.size (xs (j + 1)) (xs (j + 2)) (xs (j + 3)) 1 hS.1 (Or.inr rfl) hnd) iw_349 iw_346 iw_347 iw_348 (by decide +kernel) rfl ⟨rfl, rfl, Nat.le_of_ble_eq_true rfl, Nat.le_of_ble_eq_true rfl⟩ hK ⟨rfl, hW⟩ hW hl.1 rfl (Nat.le_of_ble_eq_true rfl) dL_law_393 hS hA3 (Or.inr rfl) rfl ⟨by subst hcp; show _ ≤ 600000; omega, by subst hcp; show _ ≤ 7302250; omega⟩ hM hdis (fun v9 H locs hB hM hS => ?_)
    obtain ⟨r, cA1, nc1, P1, tr1, nl1, nq1, rs1, rfl, h3f, hnd1, hW⟩ := hB
    refine W.eq (g2 := F0 m 396 ls [.int r]) rfl ?_
    refine lv_aload_n hx hb dL_law_396 rfl (lv_at hl 1 rfl) ?_
    refine l_arg (k := 1) hx hb hX hbl hbA hS hL (by omega) hl (by decide +kernel) dL_law_397 dL_law_398 dL_law_399 dL_law_400 dL_law_401 ?_
    refine l_arg (k := 2) hx hb hX hbl hbA hS hL (by omega) hl (by decide +kernel) dL_law_402 dL_law_403 dL_law_404 dL_law_405 dL_law_406 ?_
    refine l_arg (k := 3) hx hb hX hbl hbA hS hL (by omega) hl (by decide +kernel) dL_law_407 dL_law_408 dL_law_409 dL_law_410 dL_law_411 ?_
    refine l_arg (k := 4) hx hb hX hbl hbA hS hL (by omega) hl (by decide +kernel) dL_law_412 dL_law_413 dL_law_414 dL_law_415 dL_law_416 ?_
    refine lv_if_eq (tgt := 424) hx hb dL_law_417 (by decide) (fun c9 => absurd c9 hq) (fun _ => ?_)
    refine lv_iconst (v := 1) hx hb dL_law_420 (by decide) ?_
    refine lv_goto (tgt := 425) hx hb dL_law_421 (by decide) ?_
    refine l_m (As := [.int (xs (j + 1)), .int (xs (j + 2)), .int (xs (j + 3)), .int 1]) (rest := [.int r]) (n := 4) S (q_X4_call l dC dI h4 Rr A4 V G ns nc dr (xs (j + 1)) (xs (j + 2)) (xs (j + 3)) 1 hI) iw_828 iw_825 iw_826 iw_827 (by decide +kernel) rfl ⟨rfl, rfl, Nat.le_of_ble_eq_true rfl, Nat.le_of_ble_eq_true rfl⟩ hK hM hW hl.1 rfl (Nat.le_of_ble_eq_true rfl) dL_law_425 hS hA4 ⟨by subst hcp; show _ ≤ 600000; omega, by subst hcp; show _ ≤ 7302250; omega⟩ hdis (fun v9 H locs hB hW hS => ?_)
    obtain ⟨r2, V1, G1, rfl, h4f, hKV, hM⟩ := hB
    refine W.eq (g2 := F0 m 428 ls [.int r2, .int r]) rfl ?_
    have hE : r = r2 ∧ LRel dC dI z A3 A4 s.heap.size cp h3 la h4 Rr H := by
      rcases h3f with ⟨e1, en⟩ | ⟨e1, er, en⟩
      · rw [en] at hW hnd1
        rcases h4f with ⟨e2, hI1⟩ | ⟨e2, -, -⟩
        · exact ⟨Option.some.inj (e1.symm.trans e2), ⟨sA, cA1, ns, nc, dr, X, P1, tr1, nl1, nq1, rs1, V1, G1, hW, hM, hI1, hnd1, hb8, hdr, (hKV 4 (by decide) (by decide)).trans hv4, (hKV 5 (by decide) (by decide)).trans hv5, (hKV 6 (by decide) (by decide)).trans hv6, (hKV 7 (by decide) (by decide)).trans hv7⟩⟩
        · rw [e1] at e2; cases e2
      · rw [en] at hW hnd1
        rcases h4f with ⟨e2, -⟩ | ⟨e2, er2, hI1⟩
        · rw [e1] at e2; cases e2
        · exact ⟨er.trans er2.symm, ⟨sA, cA1, ns, nc + 1, dr, X, P1, tr1, nl1, nq1, rs1, V1, G1, hW, hM, hI1, hnd1, hb8, hdr, (hKV 4 (by decide) (by decide)).trans hv4, (hKV 5 (by decide) (by decide)).trans hv5, (hKV 6 (by decide) (by decide)).trans hv6, (hKV 7 (by decide) (by decide)).trans hv7⟩⟩
    refine lv_icmp_eq (tgt := 670) hx hb dL_law_428 (by decide) (fun _ => ?_) (fun c9 => absurd hE.1 c9)
    exact kk H locs hE.2 hS
set_option maxHeartbeats 4000000 in
theorem arm_off (C : LCx p s m c b L xs dC dI z mi cp A A3 A4) (hj : j + 6 ≤ L) (hR : LRel dC dI z A3 A4 s.heap.size cp h3 la h4 Rr H) (hS : va_S A s.heap H locs) (hl : lv_has ls 4 [(3, .int (nI j)), (2, .ref h4), (1, .ref h3), (0, .ref b)]) (kk : ∀ (H1 : Heap) (locs1 : List Loc), LRel dC dI z A3 A4 s.heap.size cp h3 la h4 Rr H1 → va_S A s.heap H1 locs1 → W p l e room_1 s m #[Value.ref b] below meth c H1 locs1 (cp - s.heap.size) (610 * (cp - s.heap.size)) Q (F0 m 670 ls [])) : W p l e room_1 s m #[Value.ref b] below meth c H locs (cp - s.heap.size) (610 * (cp - s.heap.size)) Q (F0 m 433 ls []) := by
  obtain ⟨S, ⟨hX, hbl, hbA, hL⟩, hK, ⟨hA3, hA4, hdis⟩, hcp⟩ := C
  obtain ⟨hx, hb, hml, hown, hts⟩ := id S
  obtain ⟨sA, cA, ns, nc, dr, X, P, tr, nl, nq, rs, V, G, hW, hM, hI, hnd, hb8, hdr, hv4, hv5, hv6, hv7⟩ := hR
  refine lv_aload_n hx hb dL_law_433 rfl (lv_at hl 2 rfl) ?_
  refine l_arg (k := 1) hx hb hX hbl hbA hS hL (by omega) hl (by decide +kernel) dL_law_434 dL_law_435 dL_law_436 dL_law_437 dL_law_438 ?_
  refine l_x (As := [.int (xs (j + 1))]) (rest := []) (n := 1) (Pw := (Cw dC dI z A3 s.heap.size cp h3 la sA cA ns nc dr X P tr nl nq rs)) S (q_X3_off l dC dI z mi A3 s.heap.size cp h3 la sA cA ns nc dr X P tr nl nq rs (xs (j + 1))) iw_496 iw_493 iw_494 iw_495 (by decide +kernel) rfl ⟨rfl, rfl, Nat.le_of_ble_eq_true rfl, Nat.le_of_ble_eq_true rfl⟩ hK hW hW hl.1 rfl (Nat.le_of_ble_eq_true rfl) dL_law_439 hS hA3 (Or.inl rfl) rfl ⟨by subst hcp; show _ ≤ 600000; omega, by subst hcp; show _ ≤ 7302250; omega⟩ hM hdis (fun v9 H locs hB hM hS => ?_)
  obtain ⟨r, nl1, nq1, rfl, hW⟩ := hB
  refine W.eq (g2 := F0 m 442 ls [.int r]) rfl ?_
  refine lv_pop hx hb dL_law_442 rfl ?_
  refine lv_aload_n hx hb dL_law_443 rfl (lv_at hl 1 rfl) ?_
  refine l_arg (k := 1) hx hb hX hbl hbA hS hL (by omega) hl (by decide +kernel) dL_law_444 dL_law_445 dL_law_446 dL_law_447 dL_law_448 ?_
  refine l_m (As := [.int (xs (j + 1))]) (rest := []) (n := 1) S (q_X4_off l dC dI h4 Rr A4 V G ns nc dr (xs (j + 1)) hI) iw_870 iw_867 iw_868 iw_869 (by decide +kernel) rfl ⟨rfl, rfl, Nat.le_of_ble_eq_true rfl, Nat.le_of_ble_eq_true rfl⟩ hK hM hW hl.1 rfl (Nat.le_of_ble_eq_true rfl) dL_law_449 hS hA4 ⟨by subst hcp; show _ ≤ 600000; omega, by subst hcp; show _ ≤ 7302250; omega⟩ hdis (fun v9 H locs hB hW hS => ?_)
  obtain ⟨r2, V1, G1, rfl, hI1, hKV, hM⟩ := hB
  refine W.eq (g2 := F0 m 452 ls [.int r2]) rfl ?_
  have hE : LRel dC dI z A3 A4 s.heap.size cp h3 la h4 Rr H := by
    exact ⟨sA, cA, ns, nc, dr, X, P, tr, nl1, nq1, rs, V1, G1, hW, hM, hI1, hnd, hb8, hdr, (hKV 4 (by decide) (by decide)).trans hv4, (hKV 5 (by decide) (by decide)).trans hv5, (hKV 6 (by decide) (by decide)).trans hv6, (hKV 7 (by decide) (by decide)).trans hv7⟩
  refine lv_pop hx hb dL_law_452 rfl ?_
  refine lv_goto (tgt := 670) hx hb dL_law_453 (by decide) ?_
  exact kk H locs hE hS
set_option maxHeartbeats 4000000 in
theorem arm_ticks (C : LCx p s m c b L xs dC dI z mi cp A A3 A4) (hj : j + 6 ≤ L) (hR : LRel dC dI z A3 A4 s.heap.size cp h3 la h4 Rr H) (hS : va_S A s.heap H locs) (hl : lv_has ls 4 [(3, .int (nI j)), (2, .ref h4), (1, .ref h3), (0, .ref b)]) (kk : ∀ (H1 : Heap) (locs1 : List Loc), LRel dC dI z A3 A4 s.heap.size cp h3 la h4 Rr H1 → va_S A s.heap H1 locs1 → W p l e room_1 s m #[Value.ref b] below meth c H1 locs1 (cp - s.heap.size) (610 * (cp - s.heap.size)) Q (F0 m 670 ls [])) : W p l e room_1 s m #[Value.ref b] below meth c H locs (cp - s.heap.size) (610 * (cp - s.heap.size)) Q (F0 m 456 ls []) := by
  obtain ⟨S, ⟨hX, hbl, hbA, hL⟩, hK, ⟨hA3, hA4, hdis⟩, hcp⟩ := C
  obtain ⟨hx, hb, hml, hown, hts⟩ := id S
  obtain ⟨sA, cA, ns, nc, dr, X, P, tr, nl, nq, rs, V, G, hW, hM, hI, hnd, hb8, hdr, hv4, hv5, hv6, hv7⟩ := hR
  refine lv_aload_n hx hb dL_law_456 rfl (lv_at hl 2 rfl) ?_
  refine l_arg (k := 1) hx hb hX hbl hbA hS hL (by omega) hl (by decide +kernel) dL_law_457 dL_law_458 dL_law_459 dL_law_460 dL_law_461 ?_
  refine l_x (As := [.int (xs (j + 1))]) (rest := []) (n := 1) (Pw := (fun H9 => H9.size = H.size ∧ Cw dC dI z A3 s.heap.size cp h3 la sA cA ns nc dr X P tr nl nq rs H9)) S (q_X3_ticks l dC dI z mi A3 s.heap.size cp h3 la sA cA ns nc dr X P tr nl nq rs H.size (xs (j + 1)) (2 * (8 - ns) + 12 * (200 - nc)) hS.1 hb8 hnd) iw_536 iw_533 iw_534 iw_535 (by decide +kernel) rfl ⟨rfl, rfl, Nat.le_of_ble_eq_true rfl, Nat.le_of_ble_eq_true rfl⟩ hK ⟨rfl, hW⟩ hW hl.1 rfl (Nat.le_of_ble_eq_true rfl) dL_law_462 hS hA3 (Or.inr rfl) rfl ⟨by subst hcp; show _ ≤ 600000; omega, by subst hcp; show _ ≤ 7302250; omega⟩ hM hdis (fun v9 H locs hB hM hS => ?_)
  obtain ⟨r, X1, P1, tr1, nl1, nq1, rs1, rfl, hX1, hnd1, hW⟩ := hB
  refine W.eq (g2 := F0 m 465 ls [.int r]) rfl ?_
  refine lv_pop hx hb dL_law_465 rfl ?_
  refine lv_aload_n hx hb dL_law_466 rfl (lv_at hl 1 rfl) ?_
  refine l_arg (k := 1) hx hb hX hbl hbA hS hL (by omega) hl (by decide +kernel) dL_law_467 dL_law_468 dL_law_469 dL_law_470 dL_law_471 ?_
  refine l_m (As := [.int (xs (j + 1))]) (rest := []) (n := 1) S (q_X4_ticks l dC dI h4 Rr A4 V G ns nc dr (xs (j + 1)) hI) iw_886 iw_883 iw_884 iw_885 (by decide +kernel) rfl ⟨rfl, rfl, Nat.le_of_ble_eq_true rfl, Nat.le_of_ble_eq_true rfl⟩ hK hM hW hl.1 rfl (Nat.le_of_ble_eq_true rfl) dL_law_472 hS hA4 ⟨by subst hcp; show _ ≤ 600000; omega, by subst hcp; show _ ≤ 7302250; omega⟩ hdis (fun v9 H locs hB hW hS => ?_)
  obtain ⟨r2, V1, G1, rfl, hI1, hKV, hM⟩ := hB
  refine W.eq (g2 := F0 m 475 ls [.int r2]) rfl ?_
  have hE : LRel dC dI z A3 A4 s.heap.size cp h3 la h4 Rr H := by
    exact ⟨sA, cA, ns, nc, dr, X1, P1, tr1, nl1, nq1, rs1, V1, G1, hW, hM, hI1, hnd1, (by rw [hX1 8 (by decide)]; exact hb8), hdr, ((hKV 4 (by decide) (by decide)).trans (hv4.trans (hX1 6 (by decide)).symm)), ((hKV 5 (by decide) (by decide)).trans (hv5.trans (hX1 7 (by decide)).symm)), ((hKV 6 (by decide) (by decide)).trans (hv6.trans (hX1 8 (by decide)).symm)), ((hKV 7 (by decide) (by decide)).trans (hv7.trans (hX1 9 (by decide)).symm))⟩
  refine lv_pop hx hb dL_law_475 rfl ?_
  refine lv_goto (tgt := 670) hx hb dL_law_476 (by decide) ?_
  exact kk H locs hE hS
set_option maxHeartbeats 4000000 in
theorem arm_pick (C : LCx p s m c b L xs dC dI z mi cp A A3 A4) (hj : j + 6 ≤ L) (hR : LRel dC dI z A3 A4 s.heap.size cp h3 la h4 Rr H) (hS : va_S A s.heap H locs) (hl : lv_has ls 4 [(3, .int (nI j)), (2, .ref h4), (1, .ref h3), (0, .ref b)]) (kk : ∀ (H1 : Heap) (locs1 : List Loc), LRel dC dI z A3 A4 s.heap.size cp h3 la h4 Rr H1 → va_S A s.heap H1 locs1 → W p l e room_1 s m #[Value.ref b] below meth c H1 locs1 (cp - s.heap.size) (610 * (cp - s.heap.size)) Q (F0 m 670 ls [])) : W p l e room_1 s m #[Value.ref b] below meth c H locs (cp - s.heap.size) (610 * (cp - s.heap.size)) Q (F0 m 479 ls []) := by
  obtain ⟨S, ⟨hX, hbl, hbA, hL⟩, hK, ⟨hA3, hA4, hdis⟩, hcp⟩ := C
  obtain ⟨hx, hb, hml, hown, hts⟩ := id S
  obtain ⟨sA, cA, ns, nc, dr, X, P, tr, nl, nq, rs, V, G, hW, hM, hI, hnd, hb8, hdr, hv4, hv5, hv6, hv7⟩ := hR
  refine lv_aload_n hx hb dL_law_479 rfl (lv_at hl 2 rfl) ?_
  refine l_arg (k := 1) hx hb hX hbl hbA hS hL (by omega) hl (by decide +kernel) dL_law_480 dL_law_481 dL_law_482 dL_law_483 dL_law_484 ?_
  refine l_x (As := [.int (xs (j + 1))]) (rest := []) (n := 1) (Pw := (Cw dC dI z A3 s.heap.size cp h3 la sA cA ns nc dr X P tr nl nq rs)) S (q_X3_pick l dC dI z mi A3 s.heap.size cp h3 la sA cA ns nc dr X P tr nl nq rs (xs (j + 1))) iw_597 iw_594 iw_595 iw_596 (by decide +kernel) rfl ⟨rfl, rfl, Nat.le_of_ble_eq_true rfl, Nat.le_of_ble_eq_true rfl⟩ hK hW hW hl.1 rfl (Nat.le_of_ble_eq_true rfl) dL_law_485 hS hA3 (Or.inl rfl) rfl ⟨by subst hcp; show _ ≤ 600000; omega, by subst hcp; show _ ≤ 7302250; omega⟩ hM hdis (fun v9 H locs hB hM hS => ?_)
  obtain ⟨r, rfl, hW⟩ := hB
  refine W.eq (g2 := F0 m 488 ls [.int r]) rfl ?_
  refine lv_pop hx hb dL_law_488 rfl ?_
  refine lv_aload_n hx hb dL_law_489 rfl (lv_at hl 1 rfl) ?_
  refine l_arg (k := 1) hx hb hX hbl hbA hS hL (by omega) hl (by decide +kernel) dL_law_490 dL_law_491 dL_law_492 dL_law_493 dL_law_494 ?_
  refine l_m (As := [.int (xs (j + 1))]) (rest := []) (n := 1) S (q_X4_pick l dC dI h4 Rr A4 V G ns (xs (j + 1)) hI.1.1 hI.1.2) iw_927 iw_924 iw_925 iw_926 (by decide +kernel) rfl ⟨rfl, rfl, Nat.le_of_ble_eq_true rfl, Nat.le_of_ble_eq_true rfl⟩ hK hM hW hl.1 rfl (Nat.le_of_ble_eq_true rfl) dL_law_495 hS hA4 ⟨by subst hcp; show _ ≤ 600000; omega, by subst hcp; show _ ≤ 7302250; omega⟩ hdis (fun v9 H locs hB hW hS => ?_)
  obtain ⟨r2, rfl, hM⟩ := hB
  refine W.eq (g2 := F0 m 498 ls [.int r2]) rfl ?_
  have hE : LRel dC dI z A3 A4 s.heap.size cp h3 la h4 Rr H := by
    exact ⟨sA, cA, ns, nc, dr, X, P, tr, nl, nq, rs, V, G, hW, hM, hI, hnd, hb8, hdr, hv4, hv5, hv6, hv7⟩
  refine lv_pop hx hb dL_law_498 rfl ?_
  refine lv_goto (tgt := 670) hx hb dL_law_499 (by decide) ?_
  exact kk H locs hE hS
set_option maxHeartbeats 4000000 in
theorem arm_callOf (C : LCx p s m c b L xs dC dI z mi cp A A3 A4) (hj : j + 6 ≤ L) (hR : LRel dC dI z A3 A4 s.heap.size cp h3 la h4 Rr H) (hS : va_S A s.heap H locs) (hl : lv_has ls 4 [(3, .int (nI j)), (2, .ref h4), (1, .ref h3), (0, .ref b)]) (kk : ∀ (H1 : Heap) (locs1 : List Loc), LRel dC dI z A3 A4 s.heap.size cp h3 la h4 Rr H1 → va_S A s.heap H1 locs1 → W p l e room_1 s m #[Value.ref b] below meth c H1 locs1 (cp - s.heap.size) (610 * (cp - s.heap.size)) Q (F0 m 670 ls [])) : W p l e room_1 s m #[Value.ref b] below meth c H locs (cp - s.heap.size) (610 * (cp - s.heap.size)) Q (F0 m 502 ls []) := by
  obtain ⟨S, ⟨hX, hbl, hbA, hL⟩, hK, ⟨hA3, hA4, hdis⟩, hcp⟩ := C
  obtain ⟨hx, hb, hml, hown, hts⟩ := id S
  obtain ⟨sA, cA, ns, nc, dr, X, P, tr, nl, nq, rs, V, G, hW, hM, hI, hnd, hb8, hdr, hv4, hv5, hv6, hv7⟩ := hR
  refine lv_aload_n hx hb dL_law_502 rfl (lv_at hl 2 rfl) ?_
  refine l_arg (k := 1) hx hb hX hbl hbA hS hL (by omega) hl (by decide +kernel) dL_law_503 dL_law_504 dL_law_505 dL_law_506 dL_law_507 ?_
  refine l_arg (k := 2) hx hb hX hbl hbA hS hL (by omega) hl (by decide +kernel) dL_law_508 dL_law_509 dL_law_510 dL_law_511 dL_law_512 ?_
  refine l_x (As := [.int (xs (j + 1)), .int (xs (j + 2))]) (rest := []) (n := 2) (Pw := (Cw dC dI z A3 s.heap.size cp h3 la sA cA ns nc dr X P tr nl nq rs)) S (q_X3_callOf l dC dI z mi A3 s.heap.size cp h3 la sA cA ns nc dr X P tr nl nq rs (xs (j + 1)) (xs (j + 2))) iw_601 iw_598 iw_599 iw_600 (by decide +kernel) rfl ⟨rfl, rfl, Nat.le_of_ble_eq_true rfl, Nat.le_of_ble_eq_true rfl⟩ hK hW hW hl.1 rfl (Nat.le_of_ble_eq_true rfl) dL_law_513 hS hA3 (Or.inl rfl) rfl ⟨by subst hcp; show _ ≤ 600000; omega, by subst hcp; show _ ≤ 7302250; omega⟩ hM hdis (fun v9 H locs hB hM hS => ?_)
  obtain ⟨r, rfl, hW⟩ := hB
  refine W.eq (g2 := F0 m 516 ls [.int r]) rfl ?_
  refine lv_pop hx hb dL_law_516 rfl ?_
  refine lv_aload_n hx hb dL_law_517 rfl (lv_at hl 1 rfl) ?_
  refine l_arg (k := 1) hx hb hX hbl hbA hS hL (by omega) hl (by decide +kernel) dL_law_518 dL_law_519 dL_law_520 dL_law_521 dL_law_522 ?_
  refine l_arg (k := 2) hx hb hX hbl hbA hS hL (by omega) hl (by decide +kernel) dL_law_523 dL_law_524 dL_law_525 dL_law_526 dL_law_527 ?_
  refine l_m (As := [.int (xs (j + 1)), .int (xs (j + 2))]) (rest := []) (n := 2) S (q_X4_callOf l dC dI h4 Rr A4 V G nc (xs (j + 1)) (xs (j + 2)) hI.2.1.1 hI.2.1.2) iw_931 iw_928 iw_929 iw_930 (by decide +kernel) rfl ⟨rfl, rfl, Nat.le_of_ble_eq_true rfl, Nat.le_of_ble_eq_true rfl⟩ hK hM hW hl.1 rfl (Nat.le_of_ble_eq_true rfl) dL_law_528 hS hA4 ⟨by subst hcp; show _ ≤ 600000; omega, by subst hcp; show _ ≤ 7302250; omega⟩ hdis (fun v9 H locs hB hW hS => ?_)
  obtain ⟨r2, rfl, hM⟩ := hB
  refine W.eq (g2 := F0 m 531 ls [.int r2]) rfl ?_
  have hE : LRel dC dI z A3 A4 s.heap.size cp h3 la h4 Rr H := by
    exact ⟨sA, cA, ns, nc, dr, X, P, tr, nl, nq, rs, V, G, hW, hM, hI, hnd, hb8, hdr, hv4, hv5, hv6, hv7⟩
  refine lv_pop hx hb dL_law_531 rfl ?_
  refine lv_goto (tgt := 670) hx hb dL_law_532 (by decide) ?_
  exact kk H locs hE hS
set_option maxHeartbeats 4000000 in
theorem arm_serverOf (C : LCx p s m c b L xs dC dI z mi cp A A3 A4) (hj : j + 6 ≤ L) (hR : LRel dC dI z A3 A4 s.heap.size cp h3 la h4 Rr H) (hS : va_S A s.heap H locs) (hl : lv_has ls 4 [(3, .int (nI j)), (2, .ref h4), (1, .ref h3), (0, .ref b)]) (kk : ∀ (H1 : Heap) (locs1 : List Loc), LRel dC dI z A3 A4 s.heap.size cp h3 la h4 Rr H1 → va_S A s.heap H1 locs1 → W p l e room_1 s m #[Value.ref b] below meth c H1 locs1 (cp - s.heap.size) (610 * (cp - s.heap.size)) Q (F0 m 670 ls [])) : W p l e room_1 s m #[Value.ref b] below meth c H locs (cp - s.heap.size) (610 * (cp - s.heap.size)) Q (F0 m 535 ls []) := by
  obtain ⟨S, ⟨hX, hbl, hbA, hL⟩, hK, ⟨hA3, hA4, hdis⟩, hcp⟩ := C
  obtain ⟨hx, hb, hml, hown, hts⟩ := id S
  obtain ⟨sA, cA, ns, nc, dr, X, P, tr, nl, nq, rs, V, G, hW, hM, hI, hnd, hb8, hdr, hv4, hv5, hv6, hv7⟩ := hR
  refine lv_aload_n hx hb dL_law_535 rfl (lv_at hl 2 rfl) ?_
  refine l_arg (k := 1) hx hb hX hbl hbA hS hL (by omega) hl (by decide +kernel) dL_law_536 dL_law_537 dL_law_538 dL_law_539 dL_law_540 ?_
  refine l_arg (k := 2) hx hb hX hbl hbA hS hL (by omega) hl (by decide +kernel) dL_law_541 dL_law_542 dL_law_543 dL_law_544 dL_law_545 ?_
  refine l_x (As := [.int (xs (j + 1)), .int (xs (j + 2))]) (rest := []) (n := 2) (Pw := (Cw dC dI z A3 s.heap.size cp h3 la sA cA ns nc dr X P tr nl nq rs)) S (q_X3_serverOf l dC dI z mi A3 s.heap.size cp h3 la sA cA ns nc dr X P tr nl nq rs (xs (j + 1)) (xs (j + 2))) iw_609 iw_606 iw_607 iw_608 (by decide +kernel) rfl ⟨rfl, rfl, Nat.le_of_ble_eq_true rfl, Nat.le_of_ble_eq_true rfl⟩ hK hW hW hl.1 rfl (Nat.le_of_ble_eq_true rfl) dL_law_546 hS hA3 (Or.inl rfl) rfl ⟨by subst hcp; show _ ≤ 600000; omega, by subst hcp; show _ ≤ 7302250; omega⟩ hM hdis (fun v9 H locs hB hM hS => ?_)
  obtain ⟨r, rfl, hW⟩ := hB
  refine W.eq (g2 := F0 m 549 ls [.int r]) rfl ?_
  refine lv_pop hx hb dL_law_549 rfl ?_
  refine lv_aload_n hx hb dL_law_550 rfl (lv_at hl 1 rfl) ?_
  refine l_arg (k := 1) hx hb hX hbl hbA hS hL (by omega) hl (by decide +kernel) dL_law_551 dL_law_552 dL_law_553 dL_law_554 dL_law_555 ?_
  refine l_arg (k := 2) hx hb hX hbl hbA hS hL (by omega) hl (by decide +kernel) dL_law_556 dL_law_557 dL_law_558 dL_law_559 dL_law_560 ?_
  refine l_m (As := [.int (xs (j + 1)), .int (xs (j + 2))]) (rest := []) (n := 2) S (q_X4_serverOf l dC dI h4 Rr A4 V G ns (xs (j + 1)) (xs (j + 2)) hI.1.1 hI.1.2) iw_799 iw_932 iw_797 iw_798 (by decide +kernel) rfl ⟨rfl, rfl, Nat.le_of_ble_eq_true rfl, Nat.le_of_ble_eq_true rfl⟩ hK hM hW hl.1 rfl (Nat.le_of_ble_eq_true rfl) dL_law_561 hS hA4 ⟨by subst hcp; show _ ≤ 600000; omega, by subst hcp; show _ ≤ 7302250; omega⟩ hdis (fun v9 H locs hB hW hS => ?_)
  obtain ⟨r2, rfl, hM⟩ := hB
  refine W.eq (g2 := F0 m 564 ls [.int r2]) rfl ?_
  have hE : LRel dC dI z A3 A4 s.heap.size cp h3 la h4 Rr H := by
    exact ⟨sA, cA, ns, nc, dr, X, P, tr, nl, nq, rs, V, G, hW, hM, hI, hnd, hb8, hdr, hv4, hv5, hv6, hv7⟩
  refine lv_pop hx hb dL_law_564 rfl ?_
  refine lv_goto (tgt := 670) hx hb dL_law_565 (by decide) ?_
  exact kk H locs hE hS
set_option maxHeartbeats 4000000 in
theorem arm_mark (C : LCx p s m c b L xs dC dI z mi cp A A3 A4) (hj : j + 6 ≤ L) (hR : LRel dC dI z A3 A4 s.heap.size cp h3 la h4 Rr H) (hS : va_S A s.heap H locs) (hl : lv_has ls 4 [(3, .int (nI j)), (2, .ref h4), (1, .ref h3), (0, .ref b)]) (kk : ∀ (H1 : Heap) (locs1 : List Loc), LRel dC dI z A3 A4 s.heap.size cp h3 la h4 Rr H1 → va_S A s.heap H1 locs1 → W p l e room_1 s m #[Value.ref b] below meth c H1 locs1 (cp - s.heap.size) (610 * (cp - s.heap.size)) Q (F0 m 670 ls [])) : W p l e room_1 s m #[Value.ref b] below meth c H locs (cp - s.heap.size) (610 * (cp - s.heap.size)) Q (F0 m 568 ls []) := by
  obtain ⟨S, ⟨hX, hbl, hbA, hL⟩, hK, ⟨hA3, hA4, hdis⟩, hcp⟩ := C
  obtain ⟨hx, hb, hml, hown, hts⟩ := id S
  obtain ⟨sA, cA, ns, nc, dr, X, P, tr, nl, nq, rs, V, G, hW, hM, hI, hnd, hb8, hdr, hv4, hv5, hv6, hv7⟩ := hR
  refine lv_aload_n hx hb dL_law_568 rfl (lv_at hl 2 rfl) ?_
  refine l_arg (k := 1) hx hb hX hbl hbA hS hL (by omega) hl (by decide +kernel) dL_law_569 dL_law_570 dL_law_571 dL_law_572 dL_law_573 ?_
  refine l_arg (k := 2) hx hb hX hbl hbA hS hL (by omega) hl (by decide +kernel) dL_law_574 dL_law_575 dL_law_576 dL_law_577 dL_law_578 ?_
  refine l_x (As := [.int (xs (j + 1)), .int (xs (j + 2))]) (rest := []) (n := 2) (Pw := (Cw dC dI z A3 s.heap.size cp h3 la sA cA ns nc dr X P tr nl nq rs)) S (q_X3_mark l dC dI z mi A3 s.heap.size cp h3 la sA cA ns nc dr X P tr nl nq rs (xs (j + 1)) (xs (j + 2))) iw_614 iw_611 iw_612 iw_613 (by decide +kernel) rfl ⟨rfl, rfl, Nat.le_of_ble_eq_true rfl, Nat.le_of_ble_eq_true rfl⟩ hK hW hW hl.1 rfl (Nat.le_of_ble_eq_true rfl) dL_law_579 hS hA3 (Or.inl rfl) rfl ⟨by subst hcp; show _ ≤ 600000; omega, by subst hcp; show _ ≤ 7302250; omega⟩ hM hdis (fun v9 H locs hB hM hS => ?_)
  obtain ⟨r, rfl, e1, hW⟩ := hB
  refine W.eq (g2 := F0 m 582 ls [.int r]) rfl ?_
  refine lv_pop hx hb dL_law_582 rfl ?_
  refine lv_aload_n hx hb dL_law_583 rfl (lv_at hl 1 rfl) ?_
  refine l_arg (k := 1) hx hb hX hbl hbA hS hL (by omega) hl (by decide +kernel) dL_law_584 dL_law_585 dL_law_586 dL_law_587 dL_law_588 ?_
  refine l_arg (k := 2) hx hb hX hbl hbA hS hL (by omega) hl (by decide +kernel) dL_law_589 dL_law_590 dL_law_591 dL_law_592 dL_law_593 ?_
  refine l_m (As := [.int (xs (j + 1)), .int (xs (j + 2))]) (rest := []) (n := 2) S (q_X4_mark l dC dI h4 Rr A4 V G ns (xs (j + 1)) (xs (j + 2)) hI.1.1 hI.1.2) iw_936 iw_933 iw_934 iw_935 (by decide +kernel) rfl ⟨rfl, rfl, Nat.le_of_ble_eq_true rfl, Nat.le_of_ble_eq_true rfl⟩ hK hM hW hl.1 rfl (Nat.le_of_ble_eq_true rfl) dL_law_594 hS hA4 ⟨by subst hcp; show _ ≤ 600000; omega, by subst hcp; show _ ≤ 7302250; omega⟩ hdis (fun v9 H locs hB hW hS => ?_)
  obtain ⟨r2, rfl, e2, hM⟩ := hB
  refine W.eq (g2 := F0 m 597 ls [.int r2]) rfl ?_
  have hE : r = r2 ∧ LRel dC dI z A3 A4 s.heap.size cp h3 la h4 Rr H := by
    exact ⟨e1.trans e2.symm, ⟨sA, cA, ns, nc, dr, X, P, tr, nl, nq, rs, V, G, hW, hM, hI, hnd, hb8, hdr, hv4, hv5, hv6, hv7⟩⟩
  refine lv_pop hx hb dL_law_597 rfl ?_
  refine lv_goto (tgt := 670) hx hb dL_law_598 (by decide) ?_
  exact kk H locs hE.2 hS
set_option maxHeartbeats 4000000 in
theorem arm_queue (C : LCx p s m c b L xs dC dI z mi cp A A3 A4) (hj : j + 6 ≤ L) (hR : LRel dC dI z A3 A4 s.heap.size cp h3 la h4 Rr H) (hS : va_S A s.heap H locs) (hl : lv_has ls 4 [(3, .int (nI j)), (2, .ref h4), (1, .ref h3), (0, .ref b)]) (kk : ∀ (H1 : Heap) (locs1 : List Loc), LRel dC dI z A3 A4 s.heap.size cp h3 la h4 Rr H1 → va_S A s.heap H1 locs1 → W p l e room_1 s m #[Value.ref b] below meth c H1 locs1 (cp - s.heap.size) (610 * (cp - s.heap.size)) Q (F0 m 670 ls [])) : W p l e room_1 s m #[Value.ref b] below meth c H locs (cp - s.heap.size) (610 * (cp - s.heap.size)) Q (F0 m 601 ls []) := by
  obtain ⟨S, ⟨hX, hbl, hbA, hL⟩, hK, ⟨hA3, hA4, hdis⟩, hcp⟩ := C
  obtain ⟨hx, hb, hml, hown, hts⟩ := id S
  obtain ⟨sA, cA, ns, nc, dr, X, P, tr, nl, nq, rs, V, G, hW, hM, hI, hnd, hb8, hdr, hv4, hv5, hv6, hv7⟩ := hR
  refine lv_aload_n hx hb dL_law_601 rfl (lv_at hl 2 rfl) ?_
  refine l_arg (k := 1) hx hb hX hbl hbA hS hL (by omega) hl (by decide +kernel) dL_law_602 dL_law_603 dL_law_604 dL_law_605 dL_law_606 ?_
  refine l_x (As := [.int (xs (j + 1))]) (rest := []) (n := 1) (Pw := (Cw dC dI z A3 s.heap.size cp h3 la sA cA ns nc dr X P tr nl nq rs)) S (q_X3_queue l dC dI z mi A3 s.heap.size cp h3 la sA cA ns nc dr X P tr nl nq rs (xs (j + 1))) iw_619 iw_616 iw_617 iw_618 (by decide +kernel) rfl ⟨rfl, rfl, Nat.le_of_ble_eq_true rfl, Nat.le_of_ble_eq_true rfl⟩ hK hW hW hl.1 rfl (Nat.le_of_ble_eq_true rfl) dL_law_607 hS hA3 (Or.inl rfl) rfl ⟨by subst hcp; show _ ≤ 600000; omega, by subst hcp; show _ ≤ 7302250; omega⟩ hM hdis (fun v9 H locs hB hM hS => ?_)
  obtain ⟨r, rfl, hW⟩ := hB
  refine W.eq (g2 := F0 m 610 ls [.int r]) rfl ?_
  refine lv_pop hx hb dL_law_610 rfl ?_
  refine lv_aload_n hx hb dL_law_611 rfl (lv_at hl 1 rfl) ?_
  refine l_arg (k := 1) hx hb hX hbl hbA hS hL (by omega) hl (by decide +kernel) dL_law_612 dL_law_613 dL_law_614 dL_law_615 dL_law_616 ?_
  refine l_m (As := [.int (xs (j + 1))]) (rest := []) (n := 1) S (q_X4_queue l dC dI h4 Rr A4 V G ns nc dr (xs (j + 1)) hI) iw_940 iw_937 iw_938 iw_939 (by decide +kernel) rfl ⟨rfl, rfl, Nat.le_of_ble_eq_true rfl, Nat.le_of_ble_eq_true rfl⟩ hK hM hW hl.1 rfl (Nat.le_of_ble_eq_true rfl) dL_law_617 hS hA4 ⟨by subst hcp; show _ ≤ 600000; omega, by subst hcp; show _ ≤ 7302250; omega⟩ hdis (fun v9 H locs hB hW hS => ?_)
  obtain ⟨r2, V1, G1, rfl, hI1, hKV, hM⟩ := hB
  refine W.eq (g2 := F0 m 620 ls [.int r2]) rfl ?_
  have hE : LRel dC dI z A3 A4 s.heap.size cp h3 la h4 Rr H := by
    exact ⟨sA, cA, ns, nc, dr, X, P, tr, nl, nq, rs, V1, G1, hW, hM, hI1, hnd, hb8, hdr, (hKV 4 (by decide) (by decide)).trans hv4, (hKV 5 (by decide) (by decide)).trans hv5, (hKV 6 (by decide) (by decide)).trans hv6, (hKV 7 (by decide) (by decide)).trans hv7⟩
  refine lv_pop hx hb dL_law_620 rfl ?_
  refine lv_goto (tgt := 670) hx hb dL_law_621 (by decide) ?_
  exact kk H locs hE hS
set_option maxHeartbeats 4000000 in
theorem arm_share (C : LCx p s m c b L xs dC dI z mi cp A A3 A4) (hj : j + 6 ≤ L) (hR : LRel dC dI z A3 A4 s.heap.size cp h3 la h4 Rr H) (hS : va_S A s.heap H locs) (hl : lv_has ls 4 [(3, .int (nI j)), (2, .ref h4), (1, .ref h3), (0, .ref b)]) (kk : ∀ (H1 : Heap) (locs1 : List Loc), LRel dC dI z A3 A4 s.heap.size cp h3 la h4 Rr H1 → va_S A s.heap H1 locs1 → W p l e room_1 s m #[Value.ref b] below meth c H1 locs1 (cp - s.heap.size) (610 * (cp - s.heap.size)) Q (F0 m 670 ls [])) : W p l e room_1 s m #[Value.ref b] below meth c H locs (cp - s.heap.size) (610 * (cp - s.heap.size)) Q (F0 m 624 ls []) := by
  obtain ⟨S, ⟨hX, hbl, hbA, hL⟩, hK, ⟨hA3, hA4, hdis⟩, hcp⟩ := C
  obtain ⟨hx, hb, hml, hown, hts⟩ := id S
  obtain ⟨sA, cA, ns, nc, dr, X, P, tr, nl, nq, rs, V, G, hW, hM, hI, hnd, hb8, hdr, hv4, hv5, hv6, hv7⟩ := hR
  refine lv_aload_n hx hb dL_law_624 rfl (lv_at hl 2 rfl) ?_
  refine l_arg (k := 1) hx hb hX hbl hbA hS hL (by omega) hl (by decide +kernel) dL_law_625 dL_law_626 dL_law_627 dL_law_628 dL_law_629 ?_
  refine l_x (As := [.int (xs (j + 1))]) (rest := []) (n := 1) (Pw := (Cw dC dI z A3 s.heap.size cp h3 la sA cA ns nc dr X P tr nl nq rs)) S (q_X3_share l dC dI z mi A3 s.heap.size cp h3 la sA cA ns nc dr X P tr nl nq rs (xs (j + 1))) iw_623 iw_620 iw_621 iw_622 (by decide +kernel) rfl ⟨rfl, rfl, Nat.le_of_ble_eq_true rfl, Nat.le_of_ble_eq_true rfl⟩ hK hW hW hl.1 rfl (Nat.le_of_ble_eq_true rfl) dL_law_630 hS hA3 (Or.inl rfl) rfl ⟨by subst hcp; show _ ≤ 600000; omega, by subst hcp; show _ ≤ 7302250; omega⟩ hM hdis (fun v9 H locs hB hM hS => ?_)
  obtain ⟨r, rfl, hW⟩ := hB
  refine W.eq (g2 := F0 m 633 ls [.int r]) rfl ?_
  refine lv_pop hx hb dL_law_633 rfl ?_
  refine lv_aload_n hx hb dL_law_634 rfl (lv_at hl 1 rfl) ?_
  refine l_arg (k := 1) hx hb hX hbl hbA hS hL (by omega) hl (by decide +kernel) dL_law_635 dL_law_636 dL_law_637 dL_law_638 dL_law_639 ?_
  refine l_m (As := [.int (xs (j + 1))]) (rest := []) (n := 1) S (q_X4_share l dC dI h4 Rr A4 V G ns (xs (j + 1)) hI.1.1 hI.1.2) iw_944 iw_941 iw_942 iw_943 (by decide +kernel) rfl ⟨rfl, rfl, Nat.le_of_ble_eq_true rfl, Nat.le_of_ble_eq_true rfl⟩ hK hM hW hl.1 rfl (Nat.le_of_ble_eq_true rfl) dL_law_640 hS hA4 ⟨by subst hcp; show _ ≤ 600000; omega, by subst hcp; show _ ≤ 7302250; omega⟩ hdis (fun v9 H locs hB hW hS => ?_)
  obtain ⟨r2, rfl, hM⟩ := hB
  refine W.eq (g2 := F0 m 643 ls [.int r2]) rfl ?_
  have hE : LRel dC dI z A3 A4 s.heap.size cp h3 la h4 Rr H := by
    exact ⟨sA, cA, ns, nc, dr, X, P, tr, nl, nq, rs, V, G, hW, hM, hI, hnd, hb8, hdr, hv4, hv5, hv6, hv7⟩
  refine lv_pop hx hb dL_law_643 rfl ?_
  refine lv_goto (tgt := 670) hx hb dL_law_644 (by decide) ?_
  exact kk H locs hE hS
set_option maxHeartbeats 4000000 in
theorem arm_count (C : LCx p s m c b L xs dC dI z mi cp A A3 A4) (hj : j + 6 ≤ L) (hR : LRel dC dI z A3 A4 s.heap.size cp h3 la h4 Rr H) (hS : va_S A s.heap H locs) (hl : lv_has ls 4 [(3, .int (nI j)), (2, .ref h4), (1, .ref h3), (0, .ref b)]) (kk : ∀ (H1 : Heap) (locs1 : List Loc), LRel dC dI z A3 A4 s.heap.size cp h3 la h4 Rr H1 → va_S A s.heap H1 locs1 → W p l e room_1 s m #[Value.ref b] below meth c H1 locs1 (cp - s.heap.size) (610 * (cp - s.heap.size)) Q (F0 m 670 ls [])) : W p l e room_1 s m #[Value.ref b] below meth c H locs (cp - s.heap.size) (610 * (cp - s.heap.size)) Q (F0 m 647 ls []) := by
  obtain ⟨S, ⟨hX, hbl, hbA, hL⟩, hK, ⟨hA3, hA4, hdis⟩, hcp⟩ := C
  obtain ⟨hx, hb, hml, hown, hts⟩ := id S
  obtain ⟨sA, cA, ns, nc, dr, X, P, tr, nl, nq, rs, V, G, hW, hM, hI, hnd, hb8, hdr, hv4, hv5, hv6, hv7⟩ := hR
  refine lv_aload_n hx hb dL_law_647 rfl (lv_at hl 2 rfl) ?_
  refine l_arg (k := 1) hx hb hX hbl hbA hS hL (by omega) hl (by decide +kernel) dL_law_648 dL_law_649 dL_law_650 dL_law_651 dL_law_652 ?_
  refine l_x (As := [.int (xs (j + 1))]) (rest := []) (n := 1) (Pw := (Cw dC dI z A3 s.heap.size cp h3 la sA cA ns nc dr X P tr nl nq rs)) S (q_X3_count l dC dI z mi A3 s.heap.size cp h3 la sA cA ns nc dr X P tr nl nq rs (xs (j + 1))) iw_631 iw_628 iw_629 iw_630 (by decide +kernel) rfl ⟨rfl, rfl, Nat.le_of_ble_eq_true rfl, Nat.le_of_ble_eq_true rfl⟩ hK hW hW hl.1 rfl (Nat.le_of_ble_eq_true rfl) dL_law_653 hS hA3 (Or.inl rfl) rfl ⟨by subst hcp; show _ ≤ 600000; omega, by subst hcp; show _ ≤ 7302250; omega⟩ hM hdis (fun v9 H locs hB hM hS => ?_)
  obtain ⟨r, rfl, hW⟩ := hB
  refine W.eq (g2 := F0 m 656 ls [.int r]) rfl ?_
  refine lv_pop hx hb dL_law_656 rfl ?_
  refine lv_aload_n hx hb dL_law_657 rfl (lv_at hl 1 rfl) ?_
  refine l_arg (k := 1) hx hb hX hbl hbA hS hL (by omega) hl (by decide +kernel) dL_law_658 dL_law_659 dL_law_660 dL_law_661 dL_law_662 ?_
  refine l_m (As := [.int (xs (j + 1))]) (rest := []) (n := 1) S (q_X4_count l dC dI h4 Rr A4 V G ns nc (xs (j + 1)) hI.1.1 hI.1.2 hI.2.1.1 hI.2.1.2) iw_948 iw_945 iw_946 iw_947 (by decide +kernel) rfl ⟨rfl, rfl, Nat.le_of_ble_eq_true rfl, Nat.le_of_ble_eq_true rfl⟩ hK hM hW hl.1 rfl (Nat.le_of_ble_eq_true rfl) dL_law_663 hS hA4 ⟨by subst hcp; show _ ≤ 600000; omega, by subst hcp; show _ ≤ 7302250; omega⟩ hdis (fun v9 H locs hB hW hS => ?_)
  obtain ⟨r2, rfl, hM⟩ := hB
  refine W.eq (g2 := F0 m 666 ls [.int r2]) rfl ?_
  have hE : LRel dC dI z A3 A4 s.heap.size cp h3 la h4 Rr H := by
    exact ⟨sA, cA, ns, nc, dr, X, P, tr, nl, nq, rs, V, G, hW, hM, hI, hnd, hb8, hdr, hv4, hv5, hv6, hv7⟩
  refine lv_pop hx hb dL_law_666 rfl ?_
  refine lv_goto (tgt := 670) hx hb dL_law_667 (by decide) ?_
  exact kk H locs hE hS
end B60
