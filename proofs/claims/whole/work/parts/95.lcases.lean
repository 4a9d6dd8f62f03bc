/-! the law: its calls, one by one -/
def lwJ (N : fl_M) (W9 : Nat → Nat → Int32) (n d c : Nat) : Prop := J N W9 n d c n n n n ∧ SV (N.1 39) ∧ 1 ≤ d ∧ d ≤ 5 ∧ c ≤ 16
set_option maxHeartbeats 4000000 in
set_option maxRecDepth 100000 in
theorem lw_c0 {p : Program} (l : Launch) {e : Env} {s : State} {m : MethodId} {below : List Frame} {meth : Method} {c : Code} {H : Heap} {locs : List Loc} {cells slots : Nat} {Q : State → Prop} {ls : Array Slot} {b L i : Nat} {xs : Nat → Int32} {D : va_G} {cA : Nat → ClassId} {st ad ad' : Nat → Nat} {N : fl_M} {W9 : Nat → Nat → Int32} {n d c0 : Nat} (C0 : lw_At p s m meth c b L xs) (hL : L ≤ 2561) (E : lwV s D cA st ad ad') (hik : i + 4 < L) (hl : lv_has ls 4 [(0, .ref b), (1, .ref (ad 0)), (2, .ref (ad' 0)), (3, .int (nI i))]) (h : lwM s D cA ad ad' (XX (V N W9)) N H locs) (j : lwJ N W9 n d c0) (hn : n + 100 < 2 ^ 31) (hc : cells ≤ 600000) (hsl : slots ≤ 7302250)
    (kk : ∀ (N : fl_M) (W9 : Nat → Nat → Int32) (n' c0 : Nat) (H : Heap) (locs : List Loc), lwM s D cA ad ad' (XX (V N W9)) N H locs → lwJ N W9 n' d c0 → n' ≤ n + 100 → W p l e room_1 s m #[Value.ref b] below meth c H locs cells slots Q (F0 m 893 ls [])) : W p l e room_1 s m #[Value.ref b] below meth c H locs cells slots Q (F0 m 132 ls []) := by
  obtain ⟨hx, hb, hr, hml, hown, hts0, hX, hbl, hlocks, hgv⟩ := C0
  obtain ⟨hJ, hSV, h1, h5, hc16⟩ := j
  have hg : ∀ w ∈ gw, w.before #[Value.ref b] s = true := fun w hw => hts0 w (List.mem_filter.mp hw).1
  have hts : ∀ w ∈ (Cond.initialized "FarLink") :: gw, w.before #[Value.ref b] s = true := List.forall_mem_cons.mpr ⟨hg _ tw_1, hg⟩
  refine lv_aload_n hx hb d_LW_law_132 rfl (lv_at hl 1 rfl) ?_
  refine lw_arg (k := 1) hx hb hX hbl h.2.2 hL hl (by omega) (by decide) d_LW_law_133 d_LW_law_134 d_LW_law_135 d_LW_law_136 d_LW_law_137 ?_
  refine lw_arg (k := 2) hx hb hX hbl h.2.2 hL hl (by omega) (by decide) d_LW_law_138 d_LW_law_139 d_LW_law_140 d_LW_law_141 d_LW_law_142 ?_
  refine lw_arg (k := 3) hx hb hX hbl h.2.2 hL hl (by omega) (by decide) d_LW_law_143 d_LW_law_144 d_LW_law_145 d_LW_law_146 d_LW_law_147 ?_
  refine lw_xi E (va_runV (As := [.int (xs (i + 1)), .int (xs (i + 2)), .int (xs (i + 3))]) (rest := []) ⟨hx, hb, hml, hown, hts⟩ (c_FL_write l E.2.2.2.1 (XX (V N W9)) (xs (i + 1)) (xs (i + 2)) (xs (i + 3))) (kv_FL_write hts (hg _ tw_301) ⟨Nat.le_of_ble_eq_true rfl, Nat.le_of_ble_eq_true rfl⟩) (lw_preX E h) rfl rfl hl.1 rfl (lv_room (Nat.le_of_ble_eq_true rfl)) d_LW_law_148 ⟨hc, hsl⟩) h (fun H locs h => ?_)
  refine lv_aload_n hx hb d_LW_law_151 rfl (lv_at hl 2 rfl) ?_
  refine lw_arg (k := 1) hx hb hX hbl h.2.2 hL hl (by omega) (by decide) d_LW_law_152 d_LW_law_153 d_LW_law_154 d_LW_law_155 d_LW_law_156 ?_
  refine lw_arg (k := 2) hx hb hX hbl h.2.2 hL hl (by omega) (by decide) d_LW_law_157 d_LW_law_158 d_LW_law_159 d_LW_law_160 d_LW_law_161 ?_
  refine lw_arg (k := 3) hx hb hX hbl h.2.2 hL hl (by omega) (by decide) d_LW_law_162 d_LW_law_163 d_LW_law_164 d_LW_law_165 d_LW_law_166 ?_
  refine lw_yi E (va_runV (As := [.int (xs (i + 1)), .int (xs (i + 2)), .int (xs (i + 3))]) (rest := [.int _]) ⟨hx, hb, hml, hown, hts⟩ (c_MD_write l E.2.2.2.2.1 N (xs (i + 1)) (xs (i + 2)) (xs (i + 3))) (kv_MD_write hts (hg _ tw_986) ⟨Nat.le_of_ble_eq_true rfl, Nat.le_of_ble_eq_true rfl⟩) (lw_preY E h) rfl rfl hl.1 rfl (lv_room (Nat.le_of_ble_eq_true rfl)) d_LW_law_167 ⟨hc, hsl⟩) h (fun H locs h => ?_)
  obtain ⟨q1, q2, q3, q4⟩ := m_write N W9 hJ (xs (i + 1)) (xs (i + 2)) (xs (i + 3))
  rw [q2] at h
  refine lv_icmp_eq (tgt := 893) hx hb d_LW_law_170 (by decide) (fun _ => ?_) (fun h9 => absurd q1 h9)
  exact kk _ W9 n c0 H locs h ⟨q3, by rw [q4]; exact hSV, h1, h5, hc16⟩ (by omega)
set_option maxHeartbeats 4000000 in
set_option maxRecDepth 100000 in
theorem lw_c1 {p : Program} (l : Launch) {e : Env} {s : State} {m : MethodId} {below : List Frame} {meth : Method} {c : Code} {H : Heap} {locs : List Loc} {cells slots : Nat} {Q : State → Prop} {ls : Array Slot} {b L i : Nat} {xs : Nat → Int32} {D : va_G} {cA : Nat → ClassId} {st ad ad' : Nat → Nat} {N : fl_M} {W9 : Nat → Nat → Int32} {n d c0 : Nat} (C0 : lw_At p s m meth c b L xs) (hL : L ≤ 2561) (E : lwV s D cA st ad ad') (hik : i + 4 < L) (hl : lv_has ls 4 [(0, .ref b), (1, .ref (ad 0)), (2, .ref (ad' 0)), (3, .int (nI i))]) (h : lwM s D cA ad ad' (XX (V N W9)) N H locs) (j : lwJ N W9 n d c0) (hn : n + 100 < 2 ^ 31) (hc : cells ≤ 600000) (hsl : slots ≤ 7302250)
    (kk : ∀ (N : fl_M) (W9 : Nat → Nat → Int32) (n' c0 : Nat) (H : Heap) (locs : List Loc), lwM s D cA ad ad' (XX (V N W9)) N H locs → lwJ N W9 n' d c0 → n' ≤ n + 100 → W p l e room_1 s m #[Value.ref b] below meth c H locs cells slots Q (F0 m 893 ls [])) : W p l e room_1 s m #[Value.ref b] below meth c H locs cells slots Q (F0 m 175 ls []) := by
  obtain ⟨hx, hb, hr, hml, hown, hts0, hX, hbl, hlocks, hgv⟩ := C0
  obtain ⟨hJ, hSV, h1, h5, hc16⟩ := j
  have hg : ∀ w ∈ gw, w.before #[Value.ref b] s = true := fun w hw => hts0 w (List.mem_filter.mp hw).1
  have hts : ∀ w ∈ (Cond.initialized "FarLink") :: gw, w.before #[Value.ref b] s = true := List.forall_mem_cons.mpr ⟨hg _ tw_1, hg⟩
  refine lv_aload_n hx hb d_LW_law_175 rfl (lv_at hl 1 rfl) ?_
  refine lw_arg (k := 1) hx hb hX hbl h.2.2 hL hl (by omega) (by decide) d_LW_law_176 d_LW_law_177 d_LW_law_178 d_LW_law_179 d_LW_law_180 ?_
  refine lw_arg (k := 2) hx hb hX hbl h.2.2 hL hl (by omega) (by decide) d_LW_law_181 d_LW_law_182 d_LW_law_183 d_LW_law_184 d_LW_law_185 ?_
  refine lw_arg (k := 3) hx hb hX hbl h.2.2 hL hl (by omega) (by decide) d_LW_law_186 d_LW_law_187 d_LW_law_188 d_LW_law_189 d_LW_law_190 ?_
  refine lw_arg (k := 4) hx hb hX hbl h.2.2 hL hl (by omega) (by decide) d_LW_law_191 d_LW_law_192 d_LW_law_193 d_LW_law_194 d_LW_law_195 ?_
  refine lw_zb (pb := 203) (pd := 204) hx hb d_LW_law_196 (by decide) d_LW_law_199 d_LW_law_200 (by decide) d_LW_law_203 rfl ?_
  refine lw_xi E (va_runV (As := [.int (xs (i + 1)), .int (xs (i + 2)), .int (xs (i + 3)), .int (zb (xs (i + 4)))]) (rest := []) ⟨hx, hb, hml, hown, hts⟩ (c_FL_put l E.2.2.2.1 (XX (V N W9)) (xs (i + 1)) (xs (i + 2)) (xs (i + 3)) (zb (xs (i + 4))) ((pj_cn hc16 hJ).1.1) (zb_z _)) (kv_FL_put hts (hg _ tw_308) ⟨Nat.le_of_ble_eq_true rfl, Nat.le_of_ble_eq_true rfl⟩) (lw_preX E h) rfl rfl hl.1 rfl (lv_room (Nat.le_of_ble_eq_true rfl)) d_LW_law_204 ⟨hc, hsl⟩) h (fun H locs h => ?_)
  refine lv_aload_n hx hb d_LW_law_207 rfl (lv_at hl 2 rfl) ?_
  refine lw_arg (k := 1) hx hb hX hbl h.2.2 hL hl (by omega) (by decide) d_LW_law_208 d_LW_law_209 d_LW_law_210 d_LW_law_211 d_LW_law_212 ?_
  refine lw_arg (k := 2) hx hb hX hbl h.2.2 hL hl (by omega) (by decide) d_LW_law_213 d_LW_law_214 d_LW_law_215 d_LW_law_216 d_LW_law_217 ?_
  refine lw_arg (k := 3) hx hb hX hbl h.2.2 hL hl (by omega) (by decide) d_LW_law_218 d_LW_law_219 d_LW_law_220 d_LW_law_221 d_LW_law_222 ?_
  refine lw_arg (k := 4) hx hb hX hbl h.2.2 hL hl (by omega) (by decide) d_LW_law_223 d_LW_law_224 d_LW_law_225 d_LW_law_226 d_LW_law_227 ?_
  refine lw_zb (pb := 235) (pd := 236) hx hb d_LW_law_228 (by decide) d_LW_law_231 d_LW_law_232 (by decide) d_LW_law_235 rfl ?_
  refine lw_yi E (va_runV (As := [.int (xs (i + 1)), .int (xs (i + 2)), .int (xs (i + 3)), .int (zb (xs (i + 4)))]) (rest := [.int _]) ⟨hx, hb, hml, hown, hts⟩ (c_MD_put l E.2.2.2.2.1 N (xs (i + 1)) (xs (i + 2)) (xs (i + 3)) (zb (xs (i + 4))) ((pj_cn hc16 hJ).2.1) ((pj_cn hc16 hJ).2.2) (zb_z _)) (kv_MD_put hts (hg _ tw_993) ⟨Nat.le_of_ble_eq_true rfl, Nat.le_of_ble_eq_true rfl⟩) (lw_preY E h) rfl rfl hl.1 rfl (lv_room (Nat.le_of_ble_eq_true rfl)) d_LW_law_236 ⟨hc, hsl⟩) h (fun H locs h => ?_)
  obtain ⟨W8, c8, q0, q1, q2, q3, q4⟩ := m_put N W9 hc16 hJ (xs (i + 1)) (xs (i + 2)) (xs (i + 3)) (zb (xs (i + 4)))
  rw [q2] at h
  refine lv_icmp_eq (tgt := 893) hx hb d_LW_law_239 (by decide) (fun _ => ?_) (fun h9 => absurd q1 h9)
  exact kk _ W8 n c8 H locs h ⟨q3, by rw [q4]; exact hSV, h1, h5, q0⟩ (by omega)
set_option maxHeartbeats 4000000 in
set_option maxRecDepth 100000 in
theorem lw_c2 {p : Program} (l : Launch) {e : Env} {s : State} {m : MethodId} {below : List Frame} {meth : Method} {c : Code} {H : Heap} {locs : List Loc} {cells slots : Nat} {Q : State → Prop} {ls : Array Slot} {b L i : Nat} {xs : Nat → Int32} {D : va_G} {cA : Nat → ClassId} {st ad ad' : Nat → Nat} {N : fl_M} {W9 : Nat → Nat → Int32} {n d c0 : Nat} (C0 : lw_At p s m meth c b L xs) (hL : L ≤ 2561) (E : lwV s D cA st ad ad') (hik : i + 4 < L) (hl : lv_has ls 4 [(0, .ref b), (1, .ref (ad 0)), (2, .ref (ad' 0)), (3, .int (nI i))]) (h : lwM s D cA ad ad' (XX (V N W9)) N H locs) (j : lwJ N W9 n d c0) (hn : n + 100 < 2 ^ 31) (hc : cells ≤ 600000) (hsl : slots ≤ 7302250)
    (kk : ∀ (N : fl_M) (W9 : Nat → Nat → Int32) (n' c0 : Nat) (H : Heap) (locs : List Loc), lwM s D cA ad ad' (XX (V N W9)) N H locs → lwJ N W9 n' d c0 → n' ≤ n + 100 → W p l e room_1 s m #[Value.ref b] below meth c H locs cells slots Q (F0 m 893 ls [])) : W p l e room_1 s m #[Value.ref b] below meth c H locs cells slots Q (F0 m 244 ls []) := by
  obtain ⟨hx, hb, hr, hml, hown, hts0, hX, hbl, hlocks, hgv⟩ := C0
  obtain ⟨hJ, hSV, h1, h5, hc16⟩ := j
  have hg : ∀ w ∈ gw, w.before #[Value.ref b] s = true := fun w hw => hts0 w (List.mem_filter.mp hw).1
  have hts : ∀ w ∈ (Cond.initialized "FarLink") :: gw, w.before #[Value.ref b] s = true := List.forall_mem_cons.mpr ⟨hg _ tw_1, hg⟩
  refine lv_aload_n hx hb d_LW_law_244 rfl (lv_at hl 1 rfl) ?_
  refine lw_arg (k := 1) hx hb hX hbl h.2.2 hL hl (by omega) (by decide) d_LW_law_245 d_LW_law_246 d_LW_law_247 d_LW_law_248 d_LW_law_249 ?_
  refine lw_xi E (va_runV (As := [.int (xs (i + 1))]) (rest := []) ⟨hx, hb, hml, hown, hts⟩ (c_FL_cancel l E.2.2.2.1 (XX (V N W9)) (xs (i + 1)) ((pj_cn hc16 hJ).1.1) ((pj_cn hc16 hJ).1.2)) (kv_FL_cancel hts (hg _ tw_327) ⟨Nat.le_of_ble_eq_true rfl, Nat.le_of_ble_eq_true rfl⟩) (lw_preX E h) rfl rfl hl.1 rfl (lv_room (Nat.le_of_ble_eq_true rfl)) d_LW_law_250 ⟨hc, hsl⟩) h (fun H locs h => ?_)
  refine lv_aload_n hx hb d_LW_law_253 rfl (lv_at hl 2 rfl) ?_
  refine lw_arg (k := 1) hx hb hX hbl h.2.2 hL hl (by omega) (by decide) d_LW_law_254 d_LW_law_255 d_LW_law_256 d_LW_law_257 d_LW_law_258 ?_
  refine lw_yi E (va_runV (As := [.int (xs (i + 1))]) (rest := [.int _]) ⟨hx, hb, hml, hown, hts⟩ (c_MD_cancel l E.2.2.2.2.1 N (xs (i + 1)) ((pj_cn hc16 hJ).2.1) ((pj_cn hc16 hJ).2.2)) (kv_MD_cancel hts (hg _ tw_999) ⟨Nat.le_of_ble_eq_true rfl, Nat.le_of_ble_eq_true rfl⟩) (lw_preY E h) rfl rfl hl.1 rfl (lv_room (Nat.le_of_ble_eq_true rfl)) d_LW_law_259 ⟨hc, hsl⟩) h (fun H locs h => ?_)
  obtain ⟨q1, q2, q3, q4⟩ := m_cancel N W9 hc16 hJ (xs (i + 1))
  rw [q2] at h
  refine lv_icmp_eq (tgt := 893) hx hb d_LW_law_262 (by decide) (fun _ => ?_) (fun h9 => absurd q1 h9)
  exact kk _ W9 n c0 H locs h ⟨q3, by rw [q4]; exact hSV, h1, h5, hc16⟩ (by omega)
set_option maxHeartbeats 4000000 in
set_option maxRecDepth 100000 in
theorem lw_c3 {p : Program} (l : Launch) {e : Env} {s : State} {m : MethodId} {below : List Frame} {meth : Method} {c : Code} {H : Heap} {locs : List Loc} {cells slots : Nat} {Q : State → Prop} {ls : Array Slot} {b L i : Nat} {xs : Nat → Int32} {D : va_G} {cA : Nat → ClassId} {st ad ad' : Nat → Nat} {N : fl_M} {W9 : Nat → Nat → Int32} {n d c0 : Nat} (C0 : lw_At p s m meth c b L xs) (hL : L ≤ 2561) (E : lwV s D cA st ad ad') (hik : i + 4 < L) (hl : lv_has ls 4 [(0, .ref b), (1, .ref (ad 0)), (2, .ref (ad' 0)), (3, .int (nI i))]) (h : lwM s D cA ad ad' (XX (V N W9)) N H locs) (j : lwJ N W9 n d c0) (hn : n + 100 < 2 ^ 31) (hc : cells ≤ 600000) (hsl : slots ≤ 7302250)
    (kk : ∀ (N : fl_M) (W9 : Nat → Nat → Int32) (n' c0 : Nat) (H : Heap) (locs : List Loc), lwM s D cA ad ad' (XX (V N W9)) N H locs → lwJ N W9 n' d c0 → n' ≤ n + 100 → W p l e room_1 s m #[Value.ref b] below meth c H locs cells slots Q (F0 m 893 ls [])) : W p l e room_1 s m #[Value.ref b] below meth c H locs cells slots Q (F0 m 267 ls []) := by
  obtain ⟨hx, hb, hr, hml, hown, hts0, hX, hbl, hlocks, hgv⟩ := C0
  obtain ⟨hJ, hSV, h1, h5, hc16⟩ := j
  have hg : ∀ w ∈ gw, w.before #[Value.ref b] s = true := fun w hw => hts0 w (List.mem_filter.mp hw).1
  have hts : ∀ w ∈ (Cond.initialized "FarLink") :: gw, w.before #[Value.ref b] s = true := List.forall_mem_cons.mpr ⟨hg _ tw_1, hg⟩
  refine lv_aload_n hx hb d_LW_law_267 rfl (lv_at hl 1 rfl) ?_
  refine lw_arg (k := 1) hx hb hX hbl h.2.2 hL hl (by omega) (by decide) d_LW_law_268 d_LW_law_269 d_LW_law_270 d_LW_law_271 d_LW_law_272 ?_
  refine lw_arg (k := 2) hx hb hX hbl h.2.2 hL hl (by omega) (by decide) d_LW_law_273 d_LW_law_274 d_LW_law_275 d_LW_law_276 d_LW_law_277 ?_
  refine lw_zb (pb := 285) (pd := 286) hx hb d_LW_law_278 (by decide) d_LW_law_281 d_LW_law_282 (by decide) d_LW_law_285 rfl ?_
  refine lw_xi E (va_runV (As := [.int (xs (i + 1)), .int (zb (xs (i + 2)))]) (rest := []) ⟨hx, hb, hml, hown, hts⟩ (c_FL_suspend l E.2.2.2.1 (XX (V N W9)) (xs (i + 1)) (zb (xs (i + 2))) ((pj_cn hc16 hJ).1.1) ((pj_cn hc16 hJ).1.2) (zb_z _)) (kv_FL_suspend hts (hg _ tw_341) ⟨Nat.le_of_ble_eq_true rfl, Nat.le_of_ble_eq_true rfl⟩) (lw_preX E h) rfl rfl hl.1 rfl (lv_room (Nat.le_of_ble_eq_true rfl)) d_LW_law_286 ⟨hc, hsl⟩) h (fun H locs h => ?_)
  refine lv_aload_n hx hb d_LW_law_289 rfl (lv_at hl 2 rfl) ?_
  refine lw_arg (k := 1) hx hb hX hbl h.2.2 hL hl (by omega) (by decide) d_LW_law_290 d_LW_law_291 d_LW_law_292 d_LW_law_293 d_LW_law_294 ?_
  refine lw_arg (k := 2) hx hb hX hbl h.2.2 hL hl (by omega) (by decide) d_LW_law_295 d_LW_law_296 d_LW_law_297 d_LW_law_298 d_LW_law_299 ?_
  refine lw_zb (pb := 307) (pd := 308) hx hb d_LW_law_300 (by decide) d_LW_law_303 d_LW_law_304 (by decide) d_LW_law_307 rfl ?_
  refine lw_yi E (va_runV (As := [.int (xs (i + 1)), .int (zb (xs (i + 2)))]) (rest := [.int _]) ⟨hx, hb, hml, hown, hts⟩ (c_MD_suspend l E.2.2.2.2.1 N (xs (i + 1)) (zb (xs (i + 2))) ((pj_cn hc16 hJ).2.1) ((pj_cn hc16 hJ).2.2) (zb_z _)) (kv_MD_suspend hts (hg _ tw_1011) ⟨Nat.le_of_ble_eq_true rfl, Nat.le_of_ble_eq_true rfl⟩) (lw_preY E h) rfl rfl hl.1 rfl (lv_room (Nat.le_of_ble_eq_true rfl)) d_LW_law_308 ⟨hc, hsl⟩) h (fun H locs h => ?_)
  obtain ⟨q1, q2, q3, q4⟩ := m_suspend N W9 hc16 hJ (xs (i + 1)) (zb (xs (i + 2)))
  rw [q2] at h
  refine lv_icmp_eq (tgt := 893) hx hb d_LW_law_311 (by decide) (fun _ => ?_) (fun h9 => absurd q1 h9)
  exact kk _ W9 n c0 H locs h ⟨q3, by rw [q4]; exact hSV, h1, h5, hc16⟩ (by omega)
set_option maxHeartbeats 4000000 in
set_option maxRecDepth 100000 in
theorem lw_c4 {p : Program} (l : Launch) {e : Env} {s : State} {m : MethodId} {below : List Frame} {meth : Method} {c : Code} {H : Heap} {locs : List Loc} {cells slots : Nat} {Q : State → Prop} {ls : Array Slot} {b L i : Nat} {xs : Nat → Int32} {D : va_G} {cA : Nat → ClassId} {st ad ad' : Nat → Nat} {N : fl_M} {W9 : Nat → Nat → Int32} {n d c0 : Nat} (C0 : lw_At p s m meth c b L xs) (hL : L ≤ 2561) (E : lwV s D cA st ad ad') (hik : i + 4 < L) (hl : lv_has ls 4 [(0, .ref b), (1, .ref (ad 0)), (2, .ref (ad' 0)), (3, .int (nI i))]) (h : lwM s D cA ad ad' (XX (V N W9)) N H locs) (j : lwJ N W9 n d c0) (hn : n + 100 < 2 ^ 31) (hc : cells ≤ 600000) (hsl : slots ≤ 7302250)
    (kk : ∀ (N : fl_M) (W9 : Nat → Nat → Int32) (n' c0 : Nat) (H : Heap) (locs : List Loc), lwM s D cA ad ad' (XX (V N W9)) N H locs → lwJ N W9 n' d c0 → n' ≤ n + 100 → W p l e room_1 s m #[Value.ref b] below meth c H locs cells slots Q (F0 m 893 ls [])) : W p l e room_1 s m #[Value.ref b] below meth c H locs cells slots Q (F0 m 316 ls []) := by
  obtain ⟨hx, hb, hr, hml, hown, hts0, hX, hbl, hlocks, hgv⟩ := C0
  obtain ⟨hJ, hSV, h1, h5, hc16⟩ := j
  have hg : ∀ w ∈ gw, w.before #[Value.ref b] s = true := fun w hw => hts0 w (List.mem_filter.mp hw).1
  have hts : ∀ w ∈ (Cond.initialized "FarLink") :: gw, w.before #[Value.ref b] s = true := List.forall_mem_cons.mpr ⟨hg _ tw_1, hg⟩
  refine lv_aload_n hx hb d_LW_law_316 rfl (lv_at hl 1 rfl) ?_
  refine lw_arg (k := 1) hx hb hX hbl h.2.2 hL hl (by omega) (by decide) d_LW_law_317 d_LW_law_318 d_LW_law_319 d_LW_law_320 d_LW_law_321 ?_
  refine lw_zb (pb := 329) (pd := 330) hx hb d_LW_law_322 (by decide) d_LW_law_325 d_LW_law_326 (by decide) d_LW_law_329 rfl ?_
  refine lw_arg (k := 2) hx hb hX hbl h.2.2 hL hl (by omega) (by decide) d_LW_law_330 d_LW_law_331 d_LW_law_332 d_LW_law_333 d_LW_law_334 ?_
  refine lv_i2l hx hb d_LW_law_335 rfl ?_
  refine lv_bipush (v := 32) hx hb d_LW_law_336 (by decide) ?_
  refine lv_lshl (v := j_lshl ((xs (i + 2)).toInt64) 32) hx hb d_LW_law_338 rfl ?_
  refine lw_arg (k := 3) hx hb hX hbl h.2.2 hL hl (by omega) (by decide) d_LW_law_339 d_LW_law_340 d_LW_law_341 d_LW_law_342 d_LW_law_343 ?_
  refine lv_i2l hx hb d_LW_law_344 rfl ?_
  refine lv_ldc2 (v := 4294967295) hx hb hown (hg _ tw_1179) d_LW_law_345 ?_
  refine lv_land hx hb d_LW_law_348 ?_
  refine lv_lor hx hb d_LW_law_349 ?_
  refine lw_xv E (va_runV (As := [.int (zb (xs (i + 1))), .long ((j_lshl ((xs (i + 2)).toInt64) 32) ||| (((xs (i + 3)).toInt64) &&& 4294967295))]) (rest := []) ⟨hx, hb, hml, hown, hts⟩ (c_FL_noise l E.2.2.2.1 (XX (V N W9)) (zb (xs (i + 1))) ((j_lshl ((xs (i + 2)).toInt64) 32) ||| (((xs (i + 3)).toInt64) &&& 4294967295))) (kv_FL_noise hts (hg _ tw_349) ⟨Nat.le_of_ble_eq_true rfl, Nat.le_of_ble_eq_true rfl⟩) (lw_preX E h) rfl rfl hl.1 rfl (lv_room (Nat.le_of_ble_eq_true rfl)) d_LW_law_350 ⟨hc, hsl⟩) h (fun H locs h => ?_)
  refine lv_aload_n hx hb d_LW_law_353 rfl (lv_at hl 2 rfl) ?_
  refine lw_arg (k := 1) hx hb hX hbl h.2.2 hL hl (by omega) (by decide) d_LW_law_354 d_LW_law_355 d_LW_law_356 d_LW_law_357 d_LW_law_358 ?_
  refine lw_zb (pb := 366) (pd := 367) hx hb d_LW_law_359 (by decide) d_LW_law_362 d_LW_law_363 (by decide) d_LW_law_366 rfl ?_
  refine lw_arg (k := 2) hx hb hX hbl h.2.2 hL hl (by omega) (by decide) d_LW_law_367 d_LW_law_368 d_LW_law_369 d_LW_law_370 d_LW_law_371 ?_
  refine lv_i2l hx hb d_LW_law_372 rfl ?_
  refine lv_bipush (v := 32) hx hb d_LW_law_373 (by decide) ?_
  refine lv_lshl (v := j_lshl ((xs (i + 2)).toInt64) 32) hx hb d_LW_law_375 rfl ?_
  refine lw_arg (k := 3) hx hb hX hbl h.2.2 hL hl (by omega) (by decide) d_LW_law_376 d_LW_law_377 d_LW_law_378 d_LW_law_379 d_LW_law_380 ?_
  refine lv_i2l hx hb d_LW_law_381 rfl ?_
  refine lv_ldc2 (v := 4294967295) hx hb hown (hg _ tw_1179) d_LW_law_382 ?_
  refine lv_land hx hb d_LW_law_385 ?_
  refine lv_lor hx hb d_LW_law_386 ?_
  refine lw_yv E (va_runV (As := [.int (zb (xs (i + 1))), .long ((j_lshl ((xs (i + 2)).toInt64) 32) ||| (((xs (i + 3)).toInt64) &&& 4294967295))]) (rest := []) ⟨hx, hb, hml, hown, hts⟩ (c_MD_noise l E.2.2.2.2.1 N (zb (xs (i + 1))) ((j_lshl ((xs (i + 2)).toInt64) 32) ||| (((xs (i + 3)).toInt64) &&& 4294967295))) (kv_MD_noise hts (hg _ tw_1015) ⟨Nat.le_of_ble_eq_true rfl, Nat.le_of_ble_eq_true rfl⟩) (lw_preY E h) rfl rfl hl.1 rfl (lv_room (Nat.le_of_ble_eq_true rfl)) d_LW_law_387 ⟨hc, hsl⟩) h (fun H locs h => ?_)
  obtain ⟨q2, q3, q4⟩ := m_noise N W9 hJ (zb (xs (i + 1))) ((j_lshl ((xs (i + 2)).toInt64) 32) ||| (((xs (i + 3)).toInt64) &&& 4294967295))
  rw [q2] at h
  refine lv_goto (tgt := 893) hx hb d_LW_law_390 (by decide) ?_
  exact kk _ W9 n c0 H locs h ⟨q3, by rw [q4]; exact hSV, h1, h5, hc16⟩ (by omega)
set_option maxHeartbeats 4000000 in
set_option maxRecDepth 100000 in
theorem lw_c5 {p : Program} (l : Launch) {e : Env} {s : State} {m : MethodId} {below : List Frame} {meth : Method} {c : Code} {H : Heap} {locs : List Loc} {cells slots : Nat} {Q : State → Prop} {ls : Array Slot} {b L i : Nat} {xs : Nat → Int32} {D : va_G} {cA : Nat → ClassId} {st ad ad' : Nat → Nat} {N : fl_M} {W9 : Nat → Nat → Int32} {n d c0 : Nat} (C0 : lw_At p s m meth c b L xs) (hL : L ≤ 2561) (E : lwV s D cA st ad ad') (hik : i + 4 < L) (hl : lv_has ls 4 [(0, .ref b), (1, .ref (ad 0)), (2, .ref (ad' 0)), (3, .int (nI i))]) (h : lwM s D cA ad ad' (XX (V N W9)) N H locs) (j : lwJ N W9 n d c0) (hn : n + 100 < 2 ^ 31) (hc : cells ≤ 600000) (hsl : slots ≤ 7302250)
    (kk : ∀ (N : fl_M) (W9 : Nat → Nat → Int32) (n' c0 : Nat) (H : Heap) (locs : List Loc), lwM s D cA ad ad' (XX (V N W9)) N H locs → lwJ N W9 n' d c0 → n' ≤ n + 100 → W p l e room_1 s m #[Value.ref b] below meth c H locs cells slots Q (F0 m 893 ls [])) : W p l e room_1 s m #[Value.ref b] below meth c H locs cells slots Q (F0 m 393 ls []) := by
  obtain ⟨hx, hb, hr, hml, hown, hts0, hX, hbl, hlocks, hgv⟩ := C0
  obtain ⟨hJ, hSV, h1, h5, hc16⟩ := j
  have hg : ∀ w ∈ gw, w.before #[Value.ref b] s = true := fun w hw => hts0 w (List.mem_filter.mp hw).1
  have hts : ∀ w ∈ (Cond.initialized "FarLink") :: gw, w.before #[Value.ref b] s = true := List.forall_mem_cons.mpr ⟨hg _ tw_1, hg⟩
  refine lv_aload_n hx hb d_LW_law_393 rfl (lv_at hl 1 rfl) ?_
  refine lw_arg (k := 1) hx hb hX hbl h.2.2 hL hl (by omega) (by decide) d_LW_law_394 d_LW_law_395 d_LW_law_396 d_LW_law_397 d_LW_law_398 ?_
  refine lw_zb (pb := 406) (pd := 407) hx hb d_LW_law_399 (by decide) d_LW_law_402 d_LW_law_403 (by decide) d_LW_law_406 rfl ?_
  refine lw_arg (k := 2) hx hb hX hbl h.2.2 hL hl (by omega) (by decide) d_LW_law_407 d_LW_law_408 d_LW_law_409 d_LW_law_410 d_LW_law_411 ?_
  refine lw_xi E (va_runV (As := [.int (zb (xs (i + 1))), .int (xs (i + 2))]) (rest := []) ⟨hx, hb, hml, hown, hts⟩ (c_FL_outage l E.2.2.2.1 (XX (V N W9)) (zb (xs (i + 1))) (xs (i + 2))) (kv_FL_outage hts (hg _ tw_363) ⟨Nat.le_of_ble_eq_true rfl, Nat.le_of_ble_eq_true rfl⟩) (lw_preX E h) rfl rfl hl.1 rfl (lv_room (Nat.le_of_ble_eq_true rfl)) d_LW_law_412 ⟨hc, hsl⟩) h (fun H locs h => ?_)
  refine lv_aload_n hx hb d_LW_law_415 rfl (lv_at hl 2 rfl) ?_
  refine lw_arg (k := 1) hx hb hX hbl h.2.2 hL hl (by omega) (by decide) d_LW_law_416 d_LW_law_417 d_LW_law_418 d_LW_law_419 d_LW_law_420 ?_
  refine lw_zb (pb := 428) (pd := 429) hx hb d_LW_law_421 (by decide) d_LW_law_424 d_LW_law_425 (by decide) d_LW_law_428 rfl ?_
  refine lw_arg (k := 2) hx hb hX hbl h.2.2 hL hl (by omega) (by decide) d_LW_law_429 d_LW_law_430 d_LW_law_431 d_LW_law_432 d_LW_law_433 ?_
  refine lw_yi E (va_runV (As := [.int (zb (xs (i + 1))), .int (xs (i + 2))]) (rest := [.int _]) ⟨hx, hb, hml, hown, hts⟩ (c_MD_outage l E.2.2.2.2.1 N (zb (xs (i + 1))) (xs (i + 2))) (kv_MD_outage hts (hg _ tw_1019) ⟨Nat.le_of_ble_eq_true rfl, Nat.le_of_ble_eq_true rfl⟩) (lw_preY E h) rfl rfl hl.1 rfl (lv_room (Nat.le_of_ble_eq_true rfl)) d_LW_law_434 ⟨hc, hsl⟩) h (fun H locs h => ?_)
  obtain ⟨q1, q2, q3, q4⟩ := m_outage N W9 hJ (zb (xs (i + 1))) (xs (i + 2))
  rw [q2] at h
  refine lv_icmp_eq (tgt := 893) hx hb d_LW_law_437 (by decide) (fun _ => ?_) (fun h9 => absurd q1 h9)
  exact kk _ W9 n c0 H locs h ⟨q3, by rw [q4]; exact hSV, h1, h5, hc16⟩ (by omega)
set_option maxHeartbeats 4000000 in
set_option maxRecDepth 100000 in
theorem lw_c6 {p : Program} (l : Launch) {e : Env} {s : State} {m : MethodId} {below : List Frame} {meth : Method} {c : Code} {H : Heap} {locs : List Loc} {cells slots : Nat} {Q : State → Prop} {ls : Array Slot} {b L i : Nat} {xs : Nat → Int32} {D : va_G} {cA : Nat → ClassId} {st ad ad' : Nat → Nat} {N : fl_M} {W9 : Nat → Nat → Int32} {n d c0 : Nat} (C0 : lw_At p s m meth c b L xs) (hL : L ≤ 2561) (E : lwV s D cA st ad ad') (hik : i + 4 < L) (hl : lv_has ls 4 [(0, .ref b), (1, .ref (ad 0)), (2, .ref (ad' 0)), (3, .int (nI i))]) (h : lwM s D cA ad ad' (XX (V N W9)) N H locs) (j : lwJ N W9 n d c0) (hn : n + 100 < 2 ^ 31) (hc : cells ≤ 600000) (hsl : slots ≤ 7302250)
    (kk : ∀ (N : fl_M) (W9 : Nat → Nat → Int32) (n' c0 : Nat) (H : Heap) (locs : List Loc), lwM s D cA ad ad' (XX (V N W9)) N H locs → lwJ N W9 n' d c0 → n' ≤ n + 100 → W p l e room_1 s m #[Value.ref b] below meth c H locs cells slots Q (F0 m 893 ls [])) : W p l e room_1 s m #[Value.ref b] below meth c H locs cells slots Q (F0 m 442 ls []) := by
  obtain ⟨hx, hb, hr, hml, hown, hts0, hX, hbl, hlocks, hgv⟩ := C0
  obtain ⟨hJ, hSV, h1, h5, hc16⟩ := j
  have hg : ∀ w ∈ gw, w.before #[Value.ref b] s = true := fun w hw => hts0 w (List.mem_filter.mp hw).1
  have hts : ∀ w ∈ (Cond.initialized "FarLink") :: gw, w.before #[Value.ref b] s = true := List.forall_mem_cons.mpr ⟨hg _ tw_1, hg⟩
  refine lv_aload_n hx hb d_LW_law_442 rfl (lv_at hl 1 rfl) ?_
  refine lw_arg (k := 1) hx hb hX hbl h.2.2 hL hl (by omega) (by decide) d_LW_law_443 d_LW_law_444 d_LW_law_445 d_LW_law_446 d_LW_law_447 ?_
  refine lw_xi E (va_runV (As := [.int (xs (i + 1))]) (rest := []) ⟨hx, hb, hml, hown, hts⟩ (c_FL_run2 l E.2.2.2.1 (XX (V N W9)) (xs (i + 1)) (xX_0 hn hJ _) (xX_t h1 h5 hc16) (xX_c hc16)) (kv_FL_run hts (hg _ tw_367) ⟨Nat.le_of_ble_eq_true rfl, Nat.le_of_ble_eq_true rfl⟩) (lw_preX E h) rfl rfl hl.1 rfl (lv_room (Nat.le_of_ble_eq_true rfl)) d_LW_law_448 ⟨hc, hsl⟩) h (fun H locs h => ?_)
  refine lv_aload_n hx hb d_LW_law_451 rfl (lv_at hl 2 rfl) ?_
  refine lw_arg (k := 1) hx hb hX hbl h.2.2 hL hl (by omega) (by decide) d_LW_law_452 d_LW_law_453 d_LW_law_454 d_LW_law_455 d_LW_law_456 ?_
  refine lw_yi E (va_runV (As := [.int (xs (i + 1))]) (rest := [.int _]) ⟨hx, hb, hml, hown, hts⟩ (c_MD_run2 l E.2.2.2.2.1 N (xs (i + 1)) (yX_0 hn hJ _) (yX_t h1 h5 hc16)) (kv_MD_run hts (hg _ tw_1023) ⟨Nat.le_of_ble_eq_true rfl, Nat.le_of_ble_eq_true rfl⟩) (lw_preY E h) rfl rfl hl.1 rfl (lv_room (Nat.le_of_ble_eq_true rfl)) d_LW_law_457 ⟨hc, hsl⟩) h (fun H locs h => ?_)
  obtain ⟨n8, q0, q1, q2, q3, q4⟩ := m_run N W9 h1 h5 hc16 hn hJ hSV (xs (i + 1))
  rw [q2] at h
  refine lv_icmp_eq (tgt := 893) hx hb d_LW_law_460 (by decide) (fun _ => ?_) (fun h9 => absurd q1 h9)
  exact kk _ W9 n8 c0 H locs h ⟨q3, q4, h1, h5, hc16⟩ q0
set_option maxHeartbeats 4000000 in
set_option maxRecDepth 100000 in
theorem lw_c7 {p : Program} (l : Launch) {e : Env} {s : State} {m : MethodId} {below : List Frame} {meth : Method} {c : Code} {H : Heap} {locs : List Loc} {cells slots : Nat} {Q : State → Prop} {ls : Array Slot} {b L i : Nat} {xs : Nat → Int32} {D : va_G} {cA : Nat → ClassId} {st ad ad' : Nat → Nat} {N : fl_M} {W9 : Nat → Nat → Int32} {n d c0 : Nat} (C0 : lw_At p s m meth c b L xs) (hL : L ≤ 2561) (E : lwV s D cA st ad ad') (hik : i + 4 < L) (hl : lv_has ls 4 [(0, .ref b), (1, .ref (ad 0)), (2, .ref (ad' 0)), (3, .int (nI i))]) (h : lwM s D cA ad ad' (XX (V N W9)) N H locs) (j : lwJ N W9 n d c0) (hn : n + 100 < 2 ^ 31) (hc : cells ≤ 600000) (hsl : slots ≤ 7302250)
    (kk : ∀ (N : fl_M) (W9 : Nat → Nat → Int32) (n' c0 : Nat) (H : Heap) (locs : List Loc), lwM s D cA ad ad' (XX (V N W9)) N H locs → lwJ N W9 n' d c0 → n' ≤ n + 100 → W p l e room_1 s m #[Value.ref b] below meth c H locs cells slots Q (F0 m 893 ls [])) : W p l e room_1 s m #[Value.ref b] below meth c H locs cells slots Q (F0 m 465 ls []) := by
  obtain ⟨hx, hb, hr, hml, hown, hts0, hX, hbl, hlocks, hgv⟩ := C0
  obtain ⟨hJ, hSV, h1, h5, hc16⟩ := j
  have hg : ∀ w ∈ gw, w.before #[Value.ref b] s = true := fun w hw => hts0 w (List.mem_filter.mp hw).1
  have hts : ∀ w ∈ (Cond.initialized "FarLink") :: gw, w.before #[Value.ref b] s = true := List.forall_mem_cons.mpr ⟨hg _ tw_1, hg⟩
  refine lv_aload_n hx hb d_LW_law_465 rfl (lv_at hl 1 rfl) ?_
  refine lw_xi E (va_runV (As := []) (rest := []) ⟨hx, hb, hml, hown, hts⟩ (c_FL_time l E.2.2.2.1 (XX (V N W9))) (kv_FL_time hts (hg _ tw_686) ⟨Nat.le_of_ble_eq_true rfl, Nat.le_of_ble_eq_true rfl⟩) (lw_preX E h) rfl rfl hl.1 rfl (lv_room (Nat.le_of_ble_eq_true rfl)) d_LW_law_466 ⟨hc, hsl⟩) h (fun H locs h => ?_)
  refine lv_aload_n hx hb d_LW_law_469 rfl (lv_at hl 2 rfl) ?_
  refine lw_yi E (va_runV (As := []) (rest := [.int _]) ⟨hx, hb, hml, hown, hts⟩ (c_MD_time l E.2.2.2.2.1 N) (kv_MD_time hts (hg _ tw_1138) ⟨Nat.le_of_ble_eq_true rfl, Nat.le_of_ble_eq_true rfl⟩) (lw_preY E h) rfl rfl hl.1 rfl (lv_room (Nat.le_of_ble_eq_true rfl)) d_LW_law_470 ⟨hc, hsl⟩) h (fun H locs h => ?_)
  have q1 := q_time N W9
  refine lv_icmp_eq (tgt := 893) hx hb d_LW_law_473 (by decide) (fun _ => ?_) (fun h9 => absurd q1 h9)
  exact kk N W9 n c0 H locs h ⟨hJ, hSV, h1, h5, hc16⟩ (by omega)
set_option maxHeartbeats 4000000 in
set_option maxRecDepth 100000 in
theorem lw_c8 {p : Program} (l : Launch) {e : Env} {s : State} {m : MethodId} {below : List Frame} {meth : Method} {c : Code} {H : Heap} {locs : List Loc} {cells slots : Nat} {Q : State → Prop} {ls : Array Slot} {b L i : Nat} {xs : Nat → Int32} {D : va_G} {cA : Nat → ClassId} {st ad ad' : Nat → Nat} {N : fl_M} {W9 : Nat → Nat → Int32} {n d c0 : Nat} (C0 : lw_At p s m meth c b L xs) (hL : L ≤ 2561) (E : lwV s D cA st ad ad') (hik : i + 4 < L) (hl : lv_has ls 4 [(0, .ref b), (1, .ref (ad 0)), (2, .ref (ad' 0)), (3, .int (nI i))]) (h : lwM s D cA ad ad' (XX (V N W9)) N H locs) (j : lwJ N W9 n d c0) (hn : n + 100 < 2 ^ 31) (hc : cells ≤ 600000) (hsl : slots ≤ 7302250)
    (kk : ∀ (N : fl_M) (W9 : Nat → Nat → Int32) (n' c0 : Nat) (H : Heap) (locs : List Loc), lwM s D cA ad ad' (XX (V N W9)) N H locs → lwJ N W9 n' d c0 → n' ≤ n + 100 → W p l e room_1 s m #[Value.ref b] below meth c H locs cells slots Q (F0 m 893 ls [])) : W p l e room_1 s m #[Value.ref b] below meth c H locs cells slots Q (F0 m 478 ls []) := by
  obtain ⟨hx, hb, hr, hml, hown, hts0, hX, hbl, hlocks, hgv⟩ := C0
  obtain ⟨hJ, hSV, h1, h5, hc16⟩ := j
  have hg : ∀ w ∈ gw, w.before #[Value.ref b] s = true := fun w hw => hts0 w (List.mem_filter.mp hw).1
  have hts : ∀ w ∈ (Cond.initialized "FarLink") :: gw, w.before #[Value.ref b] s = true := List.forall_mem_cons.mpr ⟨hg _ tw_1, hg⟩
  refine lv_aload_n hx hb d_LW_law_478 rfl (lv_at hl 1 rfl) ?_
  refine lw_arg (k := 1) hx hb hX hbl h.2.2 hL hl (by omega) (by decide) d_LW_law_479 d_LW_law_480 d_LW_law_481 d_LW_law_482 d_LW_law_483 ?_
  refine lw_zb (pb := 491) (pd := 492) hx hb d_LW_law_484 (by decide) d_LW_law_487 d_LW_law_488 (by decide) d_LW_law_491 rfl ?_
  refine lw_arg (k := 2) hx hb hX hbl h.2.2 hL hl (by omega) (by decide) d_LW_law_492 d_LW_law_493 d_LW_law_494 d_LW_law_495 d_LW_law_496 ?_
  refine lw_xi E (va_runV (As := [.int (zb (xs (i + 1))), .int (xs (i + 2))]) (rest := []) ⟨hx, hb, hml, hown, hts⟩ (c_FL_outcome l E.2.2.2.1 (XX (V N W9)) (zb (xs (i + 1))) (xs (i + 2)) ((pj_cn hc16 hJ).1.1) ((pj_cn hc16 hJ).1.2)) (kv_FL_outcome hts (hg _ tw_690) ⟨Nat.le_of_ble_eq_true rfl, Nat.le_of_ble_eq_true rfl⟩) (lw_preX E h) rfl rfl hl.1 rfl (lv_room (Nat.le_of_ble_eq_true rfl)) d_LW_law_497 ⟨hc, hsl⟩) h (fun H locs h => ?_)
  refine lv_aload_n hx hb d_LW_law_500 rfl (lv_at hl 2 rfl) ?_
  refine lw_arg (k := 1) hx hb hX hbl h.2.2 hL hl (by omega) (by decide) d_LW_law_501 d_LW_law_502 d_LW_law_503 d_LW_law_504 d_LW_law_505 ?_
  refine lw_zb (pb := 513) (pd := 514) hx hb d_LW_law_506 (by decide) d_LW_law_509 d_LW_law_510 (by decide) d_LW_law_513 rfl ?_
  refine lw_arg (k := 2) hx hb hX hbl h.2.2 hL hl (by omega) (by decide) d_LW_law_514 d_LW_law_515 d_LW_law_516 d_LW_law_517 d_LW_law_518 ?_
  refine lw_yi E (va_runV (As := [.int (zb (xs (i + 1))), .int (xs (i + 2))]) (rest := [.int _]) ⟨hx, hb, hml, hown, hts⟩ (c_MD_outcome l E.2.2.2.2.1 N (zb (xs (i + 1))) (xs (i + 2)) ((pj_cn hc16 hJ).2.1) ((pj_cn hc16 hJ).2.2)) (kv_MD_outcome hts (hg _ tw_1142) ⟨Nat.le_of_ble_eq_true rfl, Nat.le_of_ble_eq_true rfl⟩) (lw_preY E h) rfl rfl hl.1 rfl (lv_room (Nat.le_of_ble_eq_true rfl)) d_LW_law_519 ⟨hc, hsl⟩) h (fun H locs h => ?_)
  have q1 := q_outcome N W9 hJ.2.2.2.2.1 hc16 hJ.2.2.2.2.2.1 (zb (xs (i + 1))) (xs (i + 2))
  refine lv_icmp_eq (tgt := 893) hx hb d_LW_law_522 (by decide) (fun _ => ?_) (fun h9 => absurd q1 h9)
  exact kk N W9 n c0 H locs h ⟨hJ, hSV, h1, h5, hc16⟩ (by omega)
set_option maxHeartbeats 4000000 in
set_option maxRecDepth 100000 in
theorem lw_c9 {p : Program} (l : Launch) {e : Env} {s : State} {m : MethodId} {below : List Frame} {meth : Method} {c : Code} {H : Heap} {locs : List Loc} {cells slots : Nat} {Q : State → Prop} {ls : Array Slot} {b L i : Nat} {xs : Nat → Int32} {D : va_G} {cA : Nat → ClassId} {st ad ad' : Nat → Nat} {N : fl_M} {W9 : Nat → Nat → Int32} {n d c0 : Nat} (C0 : lw_At p s m meth c b L xs) (hL : L ≤ 2561) (E : lwV s D cA st ad ad') (hik : i + 4 < L) (hl : lv_has ls 4 [(0, .ref b), (1, .ref (ad 0)), (2, .ref (ad' 0)), (3, .int (nI i))]) (h : lwM s D cA ad ad' (XX (V N W9)) N H locs) (j : lwJ N W9 n d c0) (hn : n + 100 < 2 ^ 31) (hc : cells ≤ 600000) (hsl : slots ≤ 7302250)
    (kk : ∀ (N : fl_M) (W9 : Nat → Nat → Int32) (n' c0 : Nat) (H : Heap) (locs : List Loc), lwM s D cA ad ad' (XX (V N W9)) N H locs → lwJ N W9 n' d c0 → n' ≤ n + 100 → W p l e room_1 s m #[Value.ref b] below meth c H locs cells slots Q (F0 m 893 ls [])) : W p l e room_1 s m #[Value.ref b] below meth c H locs cells slots Q (F0 m 527 ls []) := by
  obtain ⟨hx, hb, hr, hml, hown, hts0, hX, hbl, hlocks, hgv⟩ := C0
  obtain ⟨hJ, hSV, h1, h5, hc16⟩ := j
  have hg : ∀ w ∈ gw, w.before #[Value.ref b] s = true := fun w hw => hts0 w (List.mem_filter.mp hw).1
  have hts : ∀ w ∈ (Cond.initialized "FarLink") :: gw, w.before #[Value.ref b] s = true := List.forall_mem_cons.mpr ⟨hg _ tw_1, hg⟩
  refine lv_aload_n hx hb d_LW_law_527 rfl (lv_at hl 1 rfl) ?_
  refine lw_arg (k := 1) hx hb hX hbl h.2.2 hL hl (by omega) (by decide) d_LW_law_528 d_LW_law_529 d_LW_law_530 d_LW_law_531 d_LW_law_532 ?_
  refine lw_arg (k := 2) hx hb hX hbl h.2.2 hL hl (by omega) (by decide) d_LW_law_533 d_LW_law_534 d_LW_law_535 d_LW_law_536 d_LW_law_537 ?_
  refine lw_xi E (va_runV (As := [.int (xs (i + 1)), .int (xs (i + 2))]) (rest := []) ⟨hx, hb, hml, hown, hts⟩ (c_FL_taken l E.2.2.2.1 (XX (V N W9)) (xs (i + 1)) (xs (i + 2))) (kv_FL_taken hts (hg _ tw_702) ⟨Nat.le_of_ble_eq_true rfl, Nat.le_of_ble_eq_true rfl⟩) (lw_preX E h) rfl rfl hl.1 rfl (lv_room (Nat.le_of_ble_eq_true rfl)) d_LW_law_538 ⟨hc, hsl⟩) h (fun H locs h => ?_)
  refine lv_aload_n hx hb d_LW_law_541 rfl (lv_at hl 2 rfl) ?_
  refine lw_arg (k := 1) hx hb hX hbl h.2.2 hL hl (by omega) (by decide) d_LW_law_542 d_LW_law_543 d_LW_law_544 d_LW_law_545 d_LW_law_546 ?_
  refine lw_arg (k := 2) hx hb hX hbl h.2.2 hL hl (by omega) (by decide) d_LW_law_547 d_LW_law_548 d_LW_law_549 d_LW_law_550 d_LW_law_551 ?_
  refine lw_yi E (va_runV (As := [.int (xs (i + 1)), .int (xs (i + 2))]) (rest := [.int _]) ⟨hx, hb, hml, hown, hts⟩ (c_MD_taken l E.2.2.2.2.1 N (xs (i + 1)) (xs (i + 2))) (kv_MD_taken hts (hg _ tw_1146) ⟨Nat.le_of_ble_eq_true rfl, Nat.le_of_ble_eq_true rfl⟩) (lw_preY E h) rfl rfl hl.1 rfl (lv_room (Nat.le_of_ble_eq_true rfl)) d_LW_law_552 ⟨hc, hsl⟩) h (fun H locs h => ?_)
  have q1 := q_taken N W9 (xs (i + 1)) (xs (i + 2))
  refine lv_icmp_eq (tgt := 893) hx hb d_LW_law_555 (by decide) (fun _ => ?_) (fun h9 => absurd q1 h9)
  exact kk N W9 n c0 H locs h ⟨hJ, hSV, h1, h5, hc16⟩ (by omega)
set_option maxHeartbeats 4000000 in
set_option maxRecDepth 100000 in
theorem lw_c10 {p : Program} (l : Launch) {e : Env} {s : State} {m : MethodId} {below : List Frame} {meth : Method} {c : Code} {H : Heap} {locs : List Loc} {cells slots : Nat} {Q : State → Prop} {ls : Array Slot} {b L i : Nat} {xs : Nat → Int32} {D : va_G} {cA : Nat → ClassId} {st ad ad' : Nat → Nat} {N : fl_M} {W9 : Nat → Nat → Int32} {n d c0 : Nat} (C0 : lw_At p s m meth c b L xs) (hL : L ≤ 2561) (E : lwV s D cA st ad ad') (hik : i + 4 < L) (hl : lv_has ls 4 [(0, .ref b), (1, .ref (ad 0)), (2, .ref (ad' 0)), (3, .int (nI i))]) (h : lwM s D cA ad ad' (XX (V N W9)) N H locs) (j : lwJ N W9 n d c0) (hn : n + 100 < 2 ^ 31) (hc : cells ≤ 600000) (hsl : slots ≤ 7302250)
    (kk : ∀ (N : fl_M) (W9 : Nat → Nat → Int32) (n' c0 : Nat) (H : Heap) (locs : List Loc), lwM s D cA ad ad' (XX (V N W9)) N H locs → lwJ N W9 n' d c0 → n' ≤ n + 100 → W p l e room_1 s m #[Value.ref b] below meth c H locs cells slots Q (F0 m 893 ls [])) : W p l e room_1 s m #[Value.ref b] below meth c H locs cells slots Q (F0 m 560 ls []) := by
  obtain ⟨hx, hb, hr, hml, hown, hts0, hX, hbl, hlocks, hgv⟩ := C0
  obtain ⟨hJ, hSV, h1, h5, hc16⟩ := j
  have hg : ∀ w ∈ gw, w.before #[Value.ref b] s = true := fun w hw => hts0 w (List.mem_filter.mp hw).1
  have hts : ∀ w ∈ (Cond.initialized "FarLink") :: gw, w.before #[Value.ref b] s = true := List.forall_mem_cons.mpr ⟨hg _ tw_1, hg⟩
  refine lv_aload_n hx hb d_LW_law_560 rfl (lv_at hl 1 rfl) ?_
  refine lw_arg (k := 1) hx hb hX hbl h.2.2 hL hl (by omega) (by decide) d_LW_law_561 d_LW_law_562 d_LW_law_563 d_LW_law_564 d_LW_law_565 ?_
  refine lw_xi E (va_runV (As := [.int (xs (i + 1))]) (rest := []) ⟨hx, hb, hml, hown, hts⟩ (c_FL_missing l E.2.2.2.1 (XX (V N W9)) (xs (i + 1))) (kv_FL_missing hts (hg _ tw_706) ⟨Nat.le_of_ble_eq_true rfl, Nat.le_of_ble_eq_true rfl⟩) (lw_preX E h) rfl rfl hl.1 rfl (lv_room (Nat.le_of_ble_eq_true rfl)) d_LW_law_566 ⟨hc, hsl⟩) h (fun H locs h => ?_)
  refine lv_aload_n hx hb d_LW_law_569 rfl (lv_at hl 2 rfl) ?_
  refine lw_arg (k := 1) hx hb hX hbl h.2.2 hL hl (by omega) (by decide) d_LW_law_570 d_LW_law_571 d_LW_law_572 d_LW_law_573 d_LW_law_574 ?_
  refine lw_yi E (va_runV (As := [.int (xs (i + 1))]) (rest := [.int _]) ⟨hx, hb, hml, hown, hts⟩ (c_MD_missing l E.2.2.2.2.1 N (xs (i + 1))) (kv_MD_missing hts (hg _ tw_1150) ⟨Nat.le_of_ble_eq_true rfl, Nat.le_of_ble_eq_true rfl⟩) (lw_preY E h) rfl rfl hl.1 rfl (lv_room (Nat.le_of_ble_eq_true rfl)) d_LW_law_575 ⟨hc, hsl⟩) h (fun H locs h => ?_)
  have q1 := q_missing N W9 (xs (i + 1))
  refine lv_icmp_eq (tgt := 893) hx hb d_LW_law_578 (by decide) (fun _ => ?_) (fun h9 => absurd q1 h9)
  exact kk N W9 n c0 H locs h ⟨hJ, hSV, h1, h5, hc16⟩ (by omega)
set_option maxHeartbeats 4000000 in
set_option maxRecDepth 100000 in
theorem lw_c11 {p : Program} (l : Launch) {e : Env} {s : State} {m : MethodId} {below : List Frame} {meth : Method} {c : Code} {H : Heap} {locs : List Loc} {cells slots : Nat} {Q : State → Prop} {ls : Array Slot} {b L i : Nat} {xs : Nat → Int32} {D : va_G} {cA : Nat → ClassId} {st ad ad' : Nat → Nat} {N : fl_M} {W9 : Nat → Nat → Int32} {n d c0 : Nat} (C0 : lw_At p s m meth c b L xs) (hL : L ≤ 2561) (E : lwV s D cA st ad ad') (hik : i + 4 < L) (hl : lv_has ls 4 [(0, .ref b), (1, .ref (ad 0)), (2, .ref (ad' 0)), (3, .int (nI i))]) (h : lwM s D cA ad ad' (XX (V N W9)) N H locs) (j : lwJ N W9 n d c0) (hn : n + 100 < 2 ^ 31) (hc : cells ≤ 600000) (hsl : slots ≤ 7302250)
    (kk : ∀ (N : fl_M) (W9 : Nat → Nat → Int32) (n' c0 : Nat) (H : Heap) (locs : List Loc), lwM s D cA ad ad' (XX (V N W9)) N H locs → lwJ N W9 n' d c0 → n' ≤ n + 100 → W p l e room_1 s m #[Value.ref b] below meth c H locs cells slots Q (F0 m 893 ls [])) : W p l e room_1 s m #[Value.ref b] below meth c H locs cells slots Q (F0 m 583 ls []) := by
  obtain ⟨hx, hb, hr, hml, hown, hts0, hX, hbl, hlocks, hgv⟩ := C0
  obtain ⟨hJ, hSV, h1, h5, hc16⟩ := j
  have hg : ∀ w ∈ gw, w.before #[Value.ref b] s = true := fun w hw => hts0 w (List.mem_filter.mp hw).1
  have hts : ∀ w ∈ (Cond.initialized "FarLink") :: gw, w.before #[Value.ref b] s = true := List.forall_mem_cons.mpr ⟨hg _ tw_1, hg⟩
  refine lv_aload_n hx hb d_LW_law_583 rfl (lv_at hl 1 rfl) ?_
  refine lw_arg (k := 1) hx hb hX hbl h.2.2 hL hl (by omega) (by decide) d_LW_law_584 d_LW_law_585 d_LW_law_586 d_LW_law_587 d_LW_law_588 ?_
  refine lw_arg (k := 2) hx hb hX hbl h.2.2 hL hl (by omega) (by decide) d_LW_law_589 d_LW_law_590 d_LW_law_591 d_LW_law_592 d_LW_law_593 ?_
  refine lw_xi E (va_runV (As := [.int (xs (i + 1)), .int (xs (i + 2))]) (rest := []) ⟨hx, hb, hml, hown, hts⟩ (c_FL_stored l E.2.2.2.1 (XX (V N W9)) (xs (i + 1)) (xs (i + 2)) ((pj_sl hSV).1)) (kv_FL_stored hts (hg _ tw_711) ⟨Nat.le_of_ble_eq_true rfl, Nat.le_of_ble_eq_true rfl⟩) (lw_preX E h) rfl rfl hl.1 rfl (lv_room (Nat.le_of_ble_eq_true rfl)) d_LW_law_594 ⟨hc, hsl⟩) h (fun H locs h => ?_)
  refine lv_aload_n hx hb d_LW_law_597 rfl (lv_at hl 2 rfl) ?_
  refine lw_arg (k := 1) hx hb hX hbl h.2.2 hL hl (by omega) (by decide) d_LW_law_598 d_LW_law_599 d_LW_law_600 d_LW_law_601 d_LW_law_602 ?_
  refine lw_arg (k := 2) hx hb hX hbl h.2.2 hL hl (by omega) (by decide) d_LW_law_603 d_LW_law_604 d_LW_law_605 d_LW_law_606 d_LW_law_607 ?_
  refine lw_yi E (va_runV (As := [.int (xs (i + 1)), .int (xs (i + 2))]) (rest := [.int _]) ⟨hx, hb, hml, hown, hts⟩ (c_MD_stored l E.2.2.2.2.1 N (xs (i + 1)) (xs (i + 2)) ((pj_sl (W := W9) hSV).2)) (kv_MD_stored hts (hg _ tw_1155) ⟨Nat.le_of_ble_eq_true rfl, Nat.le_of_ble_eq_true rfl⟩) (lw_preY E h) rfl rfl hl.1 rfl (lv_room (Nat.le_of_ble_eq_true rfl)) d_LW_law_608 ⟨hc, hsl⟩) h (fun H locs h => ?_)
  have q1 := q_stored N W9 hSV (xs (i + 1)) (xs (i + 2))
  refine lv_icmp_eq (tgt := 893) hx hb d_LW_law_611 (by decide) (fun _ => ?_) (fun h9 => absurd q1 h9)
  exact kk N W9 n c0 H locs h ⟨hJ, hSV, h1, h5, hc16⟩ (by omega)
set_option maxHeartbeats 4000000 in
set_option maxRecDepth 100000 in
theorem lw_c12 {p : Program} (l : Launch) {e : Env} {s : State} {m : MethodId} {below : List Frame} {meth : Method} {c : Code} {H : Heap} {locs : List Loc} {cells slots : Nat} {Q : State → Prop} {ls : Array Slot} {b L i : Nat} {xs : Nat → Int32} {D : va_G} {cA : Nat → ClassId} {st ad ad' : Nat → Nat} {N : fl_M} {W9 : Nat → Nat → Int32} {n d c0 : Nat} (C0 : lw_At p s m meth c b L xs) (hL : L ≤ 2561) (E : lwV s D cA st ad ad') (hik : i + 4 < L) (hl : lv_has ls 4 [(0, .ref b), (1, .ref (ad 0)), (2, .ref (ad' 0)), (3, .int (nI i))]) (h : lwM s D cA ad ad' (XX (V N W9)) N H locs) (j : lwJ N W9 n d c0) (hn : n + 100 < 2 ^ 31) (hc : cells ≤ 600000) (hsl : slots ≤ 7302250)
    (kk : ∀ (N : fl_M) (W9 : Nat → Nat → Int32) (n' c0 : Nat) (H : Heap) (locs : List Loc), lwM s D cA ad ad' (XX (V N W9)) N H locs → lwJ N W9 n' d c0 → n' ≤ n + 100 → W p l e room_1 s m #[Value.ref b] below meth c H locs cells slots Q (F0 m 893 ls [])) : W p l e room_1 s m #[Value.ref b] below meth c H locs cells slots Q (F0 m 616 ls []) := by
  obtain ⟨hx, hb, hr, hml, hown, hts0, hX, hbl, hlocks, hgv⟩ := C0
  obtain ⟨hJ, hSV, h1, h5, hc16⟩ := j
  have hg : ∀ w ∈ gw, w.before #[Value.ref b] s = true := fun w hw => hts0 w (List.mem_filter.mp hw).1
  have hts : ∀ w ∈ (Cond.initialized "FarLink") :: gw, w.before #[Value.ref b] s = true := List.forall_mem_cons.mpr ⟨hg _ tw_1, hg⟩
  refine lv_aload_n hx hb d_LW_law_616 rfl (lv_at hl 1 rfl) ?_
  refine lw_xi E (va_runV (As := []) (rest := []) ⟨hx, hb, hml, hown, hts⟩ (c_FL_report l E.2.2.2.1 (XX (V N W9))) (kv_FL_report hts (hg _ tw_720) ⟨Nat.le_of_ble_eq_true rfl, Nat.le_of_ble_eq_true rfl⟩) (lw_preX E h) rfl rfl hl.1 rfl (lv_room (Nat.le_of_ble_eq_true rfl)) d_LW_law_617 ⟨hc, hsl⟩) h (fun H locs h => ?_)
  refine lv_aload_n hx hb d_LW_law_620 rfl (lv_at hl 2 rfl) ?_
  refine lw_yi E (va_runV (As := []) (rest := [.int _]) ⟨hx, hb, hml, hown, hts⟩ (c_MD_report l E.2.2.2.2.1 N) (kv_MD_report hts (hg _ tw_1159) ⟨Nat.le_of_ble_eq_true rfl, Nat.le_of_ble_eq_true rfl⟩) (lw_preY E h) rfl rfl hl.1 rfl (lv_room (Nat.le_of_ble_eq_true rfl)) d_LW_law_621 ⟨hc, hsl⟩) h (fun H locs h => ?_)
  have q1 := q_report N W9
  refine lv_icmp_eq (tgt := 893) hx hb d_LW_law_624 (by decide) (fun _ => ?_) (fun h9 => absurd q1 h9)
  exact kk N W9 n c0 H locs h ⟨hJ, hSV, h1, h5, hc16⟩ (by omega)
set_option maxHeartbeats 4000000 in
set_option maxRecDepth 100000 in
theorem lw_c13 {p : Program} (l : Launch) {e : Env} {s : State} {m : MethodId} {below : List Frame} {meth : Method} {c : Code} {H : Heap} {locs : List Loc} {cells slots : Nat} {Q : State → Prop} {ls : Array Slot} {b L i : Nat} {xs : Nat → Int32} {D : va_G} {cA : Nat → ClassId} {st ad ad' : Nat → Nat} {N : fl_M} {W9 : Nat → Nat → Int32} {n d c0 : Nat} (C0 : lw_At p s m meth c b L xs) (hL : L ≤ 2561) (E : lwV s D cA st ad ad') (hik : i + 4 < L) (hl : lv_has ls 4 [(0, .ref b), (1, .ref (ad 0)), (2, .ref (ad' 0)), (3, .int (nI i))]) (h : lwM s D cA ad ad' (XX (V N W9)) N H locs) (j : lwJ N W9 n d c0) (hn : n + 100 < 2 ^ 31) (hc : cells ≤ 600000) (hsl : slots ≤ 7302250)
    (kk : ∀ (N : fl_M) (W9 : Nat → Nat → Int32) (n' c0 : Nat) (H : Heap) (locs : List Loc), lwM s D cA ad ad' (XX (V N W9)) N H locs → lwJ N W9 n' d c0 → n' ≤ n + 100 → W p l e room_1 s m #[Value.ref b] below meth c H locs cells slots Q (F0 m 893 ls [])) : W p l e room_1 s m #[Value.ref b] below meth c H locs cells slots Q (F0 m 629 ls []) := by
  obtain ⟨hx, hb, hr, hml, hown, hts0, hX, hbl, hlocks, hgv⟩ := C0
  obtain ⟨hJ, hSV, h1, h5, hc16⟩ := j
  have hg : ∀ w ∈ gw, w.before #[Value.ref b] s = true := fun w hw => hts0 w (List.mem_filter.mp hw).1
  have hts : ∀ w ∈ (Cond.initialized "FarLink") :: gw, w.before #[Value.ref b] s = true := List.forall_mem_cons.mpr ⟨hg _ tw_1, hg⟩
  refine lv_aload_n hx hb d_LW_law_629 rfl (lv_at hl 1 rfl) ?_
  refine lw_xi E (va_runV (As := []) (rest := []) ⟨hx, hb, hml, hown, hts⟩ (c_FL_window l E.2.2.2.1 (XX (V N W9)) ((pj_op hJ).1)) (kv_FL_window hts (hg _ tw_725) ⟨Nat.le_of_ble_eq_true rfl, Nat.le_of_ble_eq_true rfl⟩) (lw_preX E h) rfl rfl hl.1 rfl (lv_room (Nat.le_of_ble_eq_true rfl)) d_LW_law_630 ⟨hc, hsl⟩) h (fun H locs h => ?_)
  refine lv_aload_n hx hb d_LW_law_633 rfl (lv_at hl 2 rfl) ?_
  refine lw_yi E (va_runV (As := []) (rest := [.int _]) ⟨hx, hb, hml, hown, hts⟩ (c_MD_window l E.2.2.2.2.1 N ((pj_op hJ).2.1) ((pj_op hJ).2.2)) (kv_MD_window hts (hg _ tw_1163) ⟨Nat.le_of_ble_eq_true rfl, Nat.le_of_ble_eq_true rfl⟩) (lw_preY E h) rfl rfl hl.1 rfl (lv_room (Nat.le_of_ble_eq_true rfl)) d_LW_law_634 ⟨hc, hsl⟩) h (fun H locs h => ?_)
  have q1 := q_window N W9
  refine lv_icmp_eq (tgt := 893) hx hb d_LW_law_637 (by decide) (fun _ => ?_) (fun h9 => absurd q1 h9)
  exact kk N W9 n c0 H locs h ⟨hJ, hSV, h1, h5, hc16⟩ (by omega)
set_option maxHeartbeats 4000000 in
set_option maxRecDepth 100000 in
theorem lw_c14 {p : Program} (l : Launch) {e : Env} {s : State} {m : MethodId} {below : List Frame} {meth : Method} {c : Code} {H : Heap} {locs : List Loc} {cells slots : Nat} {Q : State → Prop} {ls : Array Slot} {b L i : Nat} {xs : Nat → Int32} {D : va_G} {cA : Nat → ClassId} {st ad ad' : Nat → Nat} {N : fl_M} {W9 : Nat → Nat → Int32} {n d c0 : Nat} (C0 : lw_At p s m meth c b L xs) (hL : L ≤ 2561) (E : lwV s D cA st ad ad') (hik : i + 4 < L) (hl : lv_has ls 4 [(0, .ref b), (1, .ref (ad 0)), (2, .ref (ad' 0)), (3, .int (nI i))]) (h : lwM s D cA ad ad' (XX (V N W9)) N H locs) (j : lwJ N W9 n d c0) (hn : n + 100 < 2 ^ 31) (hc : cells ≤ 600000) (hsl : slots ≤ 7302250)
    (kk : ∀ (N : fl_M) (W9 : Nat → Nat → Int32) (n' c0 : Nat) (H : Heap) (locs : List Loc), lwM s D cA ad ad' (XX (V N W9)) N H locs → lwJ N W9 n' d c0 → n' ≤ n + 100 → W p l e room_1 s m #[Value.ref b] below meth c H locs cells slots Q (F0 m 893 ls [])) : W p l e room_1 s m #[Value.ref b] below meth c H locs cells slots Q (F0 m 642 ls []) := by
  obtain ⟨hx, hb, hr, hml, hown, hts0, hX, hbl, hlocks, hgv⟩ := C0
  obtain ⟨hJ, hSV, h1, h5, hc16⟩ := j
  have hg : ∀ w ∈ gw, w.before #[Value.ref b] s = true := fun w hw => hts0 w (List.mem_filter.mp hw).1
  have hts : ∀ w ∈ (Cond.initialized "FarLink") :: gw, w.before #[Value.ref b] s = true := List.forall_mem_cons.mpr ⟨hg _ tw_1, hg⟩
  refine lv_aload_n hx hb d_LW_law_642 rfl (lv_at hl 1 rfl) ?_
  refine lw_xi E (va_runV (As := []) (rest := []) ⟨hx, hb, hml, hown, hts⟩ (c_FL_alerts l E.2.2.2.1 (XX (V N W9))) (kv_FL_alerts hts (hg _ tw_737) ⟨Nat.le_of_ble_eq_true rfl, Nat.le_of_ble_eq_true rfl⟩) (lw_preX E h) rfl rfl hl.1 rfl (lv_room (Nat.le_of_ble_eq_true rfl)) d_LW_law_643 ⟨hc, hsl⟩) h (fun H locs h => ?_)
  refine lv_aload_n hx hb d_LW_law_646 rfl (lv_at hl 2 rfl) ?_
  refine lw_yi E (va_runV (As := []) (rest := [.int _]) ⟨hx, hb, hml, hown, hts⟩ (c_MD_alerts l E.2.2.2.2.1 N) (kv_MD_alerts hts (hg _ tw_1167) ⟨Nat.le_of_ble_eq_true rfl, Nat.le_of_ble_eq_true rfl⟩) (lw_preY E h) rfl rfl hl.1 rfl (lv_room (Nat.le_of_ble_eq_true rfl)) d_LW_law_647 ⟨hc, hsl⟩) h (fun H locs h => ?_)
  have q1 := q_alerts N W9
  refine lv_icmp_eq (tgt := 893) hx hb d_LW_law_650 (by decide) (fun _ => ?_) (fun h9 => absurd q1 h9)
  exact kk N W9 n c0 H locs h ⟨hJ, hSV, h1, h5, hc16⟩ (by omega)
set_option maxHeartbeats 4000000 in
set_option maxRecDepth 100000 in
theorem lw_c15 {p : Program} (l : Launch) {e : Env} {s : State} {m : MethodId} {below : List Frame} {meth : Method} {c : Code} {H : Heap} {locs : List Loc} {cells slots : Nat} {Q : State → Prop} {ls : Array Slot} {b L i : Nat} {xs : Nat → Int32} {D : va_G} {cA : Nat → ClassId} {st ad ad' : Nat → Nat} {N : fl_M} {W9 : Nat → Nat → Int32} {n d c0 : Nat} (C0 : lw_At p s m meth c b L xs) (hL : L ≤ 2561) (E : lwV s D cA st ad ad') (hik : i + 4 < L) (hl : lv_has ls 4 [(0, .ref b), (1, .ref (ad 0)), (2, .ref (ad' 0)), (3, .int (nI i))]) (h : lwM s D cA ad ad' (XX (V N W9)) N H locs) (j : lwJ N W9 n d c0) (hn : n + 100 < 2 ^ 31) (hc : cells ≤ 600000) (hsl : slots ≤ 7302250)
    (kk : ∀ (N : fl_M) (W9 : Nat → Nat → Int32) (n' c0 : Nat) (H : Heap) (locs : List Loc), lwM s D cA ad ad' (XX (V N W9)) N H locs → lwJ N W9 n' d c0 → n' ≤ n + 100 → W p l e room_1 s m #[Value.ref b] below meth c H locs cells slots Q (F0 m 893 ls [])) : W p l e room_1 s m #[Value.ref b] below meth c H locs cells slots Q (F0 m 655 ls []) := by
  obtain ⟨hx, hb, hr, hml, hown, hts0, hX, hbl, hlocks, hgv⟩ := C0
  obtain ⟨hJ, hSV, h1, h5, hc16⟩ := j
  have hg : ∀ w ∈ gw, w.before #[Value.ref b] s = true := fun w hw => hts0 w (List.mem_filter.mp hw).1
  have hts : ∀ w ∈ (Cond.initialized "FarLink") :: gw, w.before #[Value.ref b] s = true := List.forall_mem_cons.mpr ⟨hg _ tw_1, hg⟩
  refine lv_aload_n hx hb d_LW_law_655 rfl (lv_at hl 1 rfl) ?_
  refine lw_arg (k := 1) hx hb hX hbl h.2.2 hL hl (by omega) (by decide) d_LW_law_656 d_LW_law_657 d_LW_law_658 d_LW_law_659 d_LW_law_660 ?_
  refine lw_zb (pb := 668) (pd := 669) hx hb d_LW_law_661 (by decide) d_LW_law_664 d_LW_law_665 (by decide) d_LW_law_668 rfl ?_
  refine lw_xi E (va_runV (As := [.int (zb (xs (i + 1)))]) (rest := []) ⟨hx, hb, hml, hown, hts⟩ (c_FL_sent l E.2.2.2.1 (XX (V N W9)) (zb (xs (i + 1)))) (kv_FL_sent hts (hg _ tw_741) ⟨Nat.le_of_ble_eq_true rfl, Nat.le_of_ble_eq_true rfl⟩) (lw_preX E h) rfl rfl hl.1 rfl (lv_room (Nat.le_of_ble_eq_true rfl)) d_LW_law_669 ⟨hc, hsl⟩) h (fun H locs h => ?_)
  refine lv_aload_n hx hb d_LW_law_672 rfl (lv_at hl 2 rfl) ?_
  refine lw_arg (k := 1) hx hb hX hbl h.2.2 hL hl (by omega) (by decide) d_LW_law_673 d_LW_law_674 d_LW_law_675 d_LW_law_676 d_LW_law_677 ?_
  refine lw_zb (pb := 685) (pd := 686) hx hb d_LW_law_678 (by decide) d_LW_law_681 d_LW_law_682 (by decide) d_LW_law_685 rfl ?_
  refine lw_yi E (va_runV (As := [.int (zb (xs (i + 1)))]) (rest := [.int _]) ⟨hx, hb, hml, hown, hts⟩ (c_MD_sent l E.2.2.2.2.1 N (zb (xs (i + 1)))) (kv_MD_sent hts (hg _ tw_1171) ⟨Nat.le_of_ble_eq_true rfl, Nat.le_of_ble_eq_true rfl⟩) (lw_preY E h) rfl rfl hl.1 rfl (lv_room (Nat.le_of_ble_eq_true rfl)) d_LW_law_686 ⟨hc, hsl⟩) h (fun H locs h => ?_)
  have q1 := q_sent N W9 (zb (xs (i + 1)))
  refine lv_icmp_eq (tgt := 893) hx hb d_LW_law_689 (by decide) (fun _ => ?_) (fun h9 => absurd q1 h9)
  exact kk N W9 n c0 H locs h ⟨hJ, hSV, h1, h5, hc16⟩ (by omega)
set_option maxHeartbeats 4000000 in
set_option maxRecDepth 100000 in
theorem lw_c16 {p : Program} (l : Launch) {e : Env} {s : State} {m : MethodId} {below : List Frame} {meth : Method} {c : Code} {H : Heap} {locs : List Loc} {cells slots : Nat} {Q : State → Prop} {ls : Array Slot} {b L i : Nat} {xs : Nat → Int32} {D : va_G} {cA : Nat → ClassId} {st ad ad' : Nat → Nat} {N : fl_M} {W9 : Nat → Nat → Int32} {n d c0 : Nat} (C0 : lw_At p s m meth c b L xs) (hL : L ≤ 2561) (E : lwV s D cA st ad ad') (hik : i + 4 < L) (hl : lv_has ls 4 [(0, .ref b), (1, .ref (ad 0)), (2, .ref (ad' 0)), (3, .int (nI i))]) (h : lwM s D cA ad ad' (XX (V N W9)) N H locs) (j : lwJ N W9 n d c0) (hn : n + 100 < 2 ^ 31) (hc : cells ≤ 600000) (hsl : slots ≤ 7302250)
    (kk : ∀ (N : fl_M) (W9 : Nat → Nat → Int32) (n' c0 : Nat) (H : Heap) (locs : List Loc), lwM s D cA ad ad' (XX (V N W9)) N H locs → lwJ N W9 n' d c0 → n' ≤ n + 100 → W p l e room_1 s m #[Value.ref b] below meth c H locs cells slots Q (F0 m 893 ls [])) : W p l e room_1 s m #[Value.ref b] below meth c H locs cells slots Q (F0 m 694 ls []) := by
  obtain ⟨hx, hb, hr, hml, hown, hts0, hX, hbl, hlocks, hgv⟩ := C0
  obtain ⟨hJ, hSV, h1, h5, hc16⟩ := j
  have hg : ∀ w ∈ gw, w.before #[Value.ref b] s = true := fun w hw => hts0 w (List.mem_filter.mp hw).1
  have hts : ∀ w ∈ (Cond.initialized "FarLink") :: gw, w.before #[Value.ref b] s = true := List.forall_mem_cons.mpr ⟨hg _ tw_1, hg⟩
  refine lv_aload_n hx hb d_LW_law_694 rfl (lv_at hl 1 rfl) ?_
  refine lw_arg (k := 1) hx hb hX hbl h.2.2 hL hl (by omega) (by decide) d_LW_law_695 d_LW_law_696 d_LW_law_697 d_LW_law_698 d_LW_law_699 ?_
  refine lw_zb (pb := 707) (pd := 708) hx hb d_LW_law_700 (by decide) d_LW_law_703 d_LW_law_704 (by decide) d_LW_law_707 rfl ?_
  refine lw_xi E (va_runV (As := [.int (zb (xs (i + 1)))]) (rest := []) ⟨hx, hb, hml, hown, hts⟩ (c_FL_faults l E.2.2.2.1 (XX (V N W9)) (zb (xs (i + 1)))) (kv_FL_faults hts (hg _ tw_745) ⟨Nat.le_of_ble_eq_true rfl, Nat.le_of_ble_eq_true rfl⟩) (lw_preX E h) rfl rfl hl.1 rfl (lv_room (Nat.le_of_ble_eq_true rfl)) d_LW_law_708 ⟨hc, hsl⟩) h (fun H locs h => ?_)
  refine lv_aload_n hx hb d_LW_law_711 rfl (lv_at hl 2 rfl) ?_
  refine lw_arg (k := 1) hx hb hX hbl h.2.2 hL hl (by omega) (by decide) d_LW_law_712 d_LW_law_713 d_LW_law_714 d_LW_law_715 d_LW_law_716 ?_
  refine lw_zb (pb := 724) (pd := 725) hx hb d_LW_law_717 (by decide) d_LW_law_720 d_LW_law_721 (by decide) d_LW_law_724 rfl ?_
  refine lw_yi E (va_runV (As := [.int (zb (xs (i + 1)))]) (rest := [.int _]) ⟨hx, hb, hml, hown, hts⟩ (c_MD_faults l E.2.2.2.2.1 N (zb (xs (i + 1)))) (kv_MD_faults hts (hg _ tw_1175) ⟨Nat.le_of_ble_eq_true rfl, Nat.le_of_ble_eq_true rfl⟩) (lw_preY E h) rfl rfl hl.1 rfl (lv_room (Nat.le_of_ble_eq_true rfl)) d_LW_law_725 ⟨hc, hsl⟩) h (fun H locs h => ?_)
  have q1 := q_faults N W9 (zb (xs (i + 1)))
  refine lv_icmp_eq (tgt := 893) hx hb d_LW_law_728 (by decide) (fun _ => ?_) (fun h9 => absurd q1 h9)
  exact kk N W9 n c0 H locs h ⟨hJ, hSV, h1, h5, hc16⟩ (by omega)
set_option maxHeartbeats 4000000 in
set_option maxRecDepth 100000 in
theorem lw_c17 {p : Program} (l : Launch) {e : Env} {s : State} {m : MethodId} {below : List Frame} {meth : Method} {c : Code} {H : Heap} {locs : List Loc} {cells slots : Nat} {Q : State → Prop} {ls : Array Slot} {b L i : Nat} {xs : Nat → Int32} {D : va_G} {cA : Nat → ClassId} {st ad ad' : Nat → Nat} {N : fl_M} {W9 : Nat → Nat → Int32} {n d c0 : Nat} (C0 : lw_At p s m meth c b L xs) (hL : L ≤ 2561) (E : lwV s D cA st ad ad') (hik : i + 4 < L) (hl : lv_has ls 4 [(0, .ref b), (1, .ref (ad 0)), (2, .ref (ad' 0)), (3, .int (nI i))]) (h : lwM s D cA ad ad' (XX (V N W9)) N H locs) (j : lwJ N W9 n d c0) (hn : n + 100 < 2 ^ 31) (hc : cells ≤ 600000) (hsl : slots ≤ 7302250)
    (kk : ∀ (N : fl_M) (W9 : Nat → Nat → Int32) (n' c0 : Nat) (H : Heap) (locs : List Loc), lwM s D cA ad ad' (XX (V N W9)) N H locs → lwJ N W9 n' d c0 → n' ≤ n + 100 → W p l e room_1 s m #[Value.ref b] below meth c H locs cells slots Q (F0 m 893 ls [])) : W p l e room_1 s m #[Value.ref b] below meth c H locs cells slots Q (F0 m 733 ls []) := by
  obtain ⟨hx, hb, hr, hml, hown, hts0, hX, hbl, hlocks, hgv⟩ := C0
  obtain ⟨hJ, hSV, h1, h5, hc16⟩ := j
  have hg : ∀ w ∈ gw, w.before #[Value.ref b] s = true := fun w hw => hts0 w (List.mem_filter.mp hw).1
  have hts : ∀ w ∈ (Cond.initialized "FarLink") :: gw, w.before #[Value.ref b] s = true := List.forall_mem_cons.mpr ⟨hg _ tw_1, hg⟩
  refine lv_aload_n hx hb d_LW_law_733 rfl (lv_at hl 1 rfl) ?_
  refine lw_arg (k := 1) hx hb hX hbl h.2.2 hL hl (by omega) (by decide) d_LW_law_734 d_LW_law_735 d_LW_law_736 d_LW_law_737 d_LW_law_738 ?_
  refine lw_zb (pb := 746) (pd := 747) hx hb d_LW_law_739 (by decide) d_LW_law_742 d_LW_law_743 (by decide) d_LW_law_746 rfl ?_
  refine lw_arg (k := 2) hx hb hX hbl h.2.2 hL hl (by omega) (by decide) d_LW_law_747 d_LW_law_748 d_LW_law_749 d_LW_law_750 d_LW_law_751 ?_
  refine lv_i2l hx hb d_LW_law_752 rfl ?_
  refine lv_bipush (v := 32) hx hb d_LW_law_753 (by decide) ?_
  refine lv_lshl (v := j_lshl ((xs (i + 2)).toInt64) 32) hx hb d_LW_law_755 rfl ?_
  refine lw_arg (k := 3) hx hb hX hbl h.2.2 hL hl (by omega) (by decide) d_LW_law_756 d_LW_law_757 d_LW_law_758 d_LW_law_759 d_LW_law_760 ?_
  refine lv_i2l hx hb d_LW_law_761 rfl ?_
  refine lv_ldc2 (v := 4294967295) hx hb hown (hg _ tw_1179) d_LW_law_762 ?_
  refine lv_land hx hb d_LW_law_765 ?_
  refine lv_lor hx hb d_LW_law_766 ?_
  refine lw_xl E (va_runV (As := [.int (zb (xs (i + 1))), .long ((j_lshl ((xs (i + 2)).toInt64) 32) ||| (((xs (i + 3)).toInt64) &&& 4294967295))]) (rest := []) ⟨hx, hb, hml, hown, hts⟩ (c_FL_encode l E.2.2.2.1 (XX (V N W9)) (zb (xs (i + 1))) ((j_lshl ((xs (i + 2)).toInt64) 32) ||| (((xs (i + 3)).toInt64) &&& 4294967295))) (kv_FL_encode hts (hg _ tw_750) ⟨Nat.le_of_ble_eq_true rfl, Nat.le_of_ble_eq_true rfl⟩) (lw_preX E h) rfl rfl hl.1 rfl (lv_room (Nat.le_of_ble_eq_true rfl)) d_LW_law_767 ⟨hc, hsl⟩) h (fun H locs h => ?_)
  refine lv_aload_n hx hb d_LW_law_770 rfl (lv_at hl 2 rfl) ?_
  refine lw_arg (k := 1) hx hb hX hbl h.2.2 hL hl (by omega) (by decide) d_LW_law_771 d_LW_law_772 d_LW_law_773 d_LW_law_774 d_LW_law_775 ?_
  refine lw_zb (pb := 783) (pd := 784) hx hb d_LW_law_776 (by decide) d_LW_law_779 d_LW_law_780 (by decide) d_LW_law_783 rfl ?_
  refine lw_arg (k := 2) hx hb hX hbl h.2.2 hL hl (by omega) (by decide) d_LW_law_784 d_LW_law_785 d_LW_law_786 d_LW_law_787 d_LW_law_788 ?_
  refine lv_i2l hx hb d_LW_law_789 rfl ?_
  refine lv_bipush (v := 32) hx hb d_LW_law_790 (by decide) ?_
  refine lv_lshl (v := j_lshl ((xs (i + 2)).toInt64) 32) hx hb d_LW_law_792 rfl ?_
  refine lw_arg (k := 3) hx hb hX hbl h.2.2 hL hl (by omega) (by decide) d_LW_law_793 d_LW_law_794 d_LW_law_795 d_LW_law_796 d_LW_law_797 ?_
  refine lv_i2l hx hb d_LW_law_798 rfl ?_
  refine lv_ldc2 (v := 4294967295) hx hb hown (hg _ tw_1179) d_LW_law_799 ?_
  refine lv_land hx hb d_LW_law_802 ?_
  refine lv_lor hx hb d_LW_law_803 ?_
  refine lw_yl E (va_runV (As := [.int (zb (xs (i + 1))), .long ((j_lshl ((xs (i + 2)).toInt64) 32) ||| (((xs (i + 3)).toInt64) &&& 4294967295))]) (rest := [.long _]) ⟨hx, hb, hml, hown, hts⟩ (c_MD_encode l E.2.2.2.2.1 N (zb (xs (i + 1))) ((j_lshl ((xs (i + 2)).toInt64) 32) ||| (((xs (i + 3)).toInt64) &&& 4294967295))) (kv_MD_encode hts (hg _ tw_953) ⟨Nat.le_of_ble_eq_true rfl, Nat.le_of_ble_eq_true rfl⟩) (lw_preY E h) rfl rfl hl.1 rfl (lv_room (Nat.le_of_ble_eq_true rfl)) d_LW_law_804 ⟨hc, hsl⟩) h (fun H locs h => ?_)
  have q1 := q_encode N hJ.2.2.2.1 (zb (xs (i + 1))) ((j_lshl ((xs (i + 2)).toInt64) 32) ||| (((xs (i + 3)).toInt64) &&& 4294967295))
  refine W.lcmp hx hb d_LW_law_807 ?_
  refine lv_if_eq (tgt := 893) hx hb d_LW_law_808 (by decide) (fun _ => ?_) (fun h9 => absurd (lw_cmp q1) h9)
  exact kk N W9 n c0 H locs h ⟨hJ, hSV, h1, h5, hc16⟩ (by omega)
set_option maxHeartbeats 4000000 in
set_option maxRecDepth 100000 in
theorem lw_c18 {p : Program} (l : Launch) {e : Env} {s : State} {m : MethodId} {below : List Frame} {meth : Method} {c : Code} {H : Heap} {locs : List Loc} {cells slots : Nat} {Q : State → Prop} {ls : Array Slot} {b L i : Nat} {xs : Nat → Int32} {D : va_G} {cA : Nat → ClassId} {st ad ad' : Nat → Nat} {N : fl_M} {W9 : Nat → Nat → Int32} {n d c0 : Nat} (C0 : lw_At p s m meth c b L xs) (hL : L ≤ 2561) (E : lwV s D cA st ad ad') (hik : i + 4 < L) (hl : lv_has ls 4 [(0, .ref b), (1, .ref (ad 0)), (2, .ref (ad' 0)), (3, .int (nI i))]) (h : lwM s D cA ad ad' (XX (V N W9)) N H locs) (j : lwJ N W9 n d c0) (hn : n + 100 < 2 ^ 31) (hc : cells ≤ 600000) (hsl : slots ≤ 7302250)
    (kk : ∀ (N : fl_M) (W9 : Nat → Nat → Int32) (n' c0 : Nat) (H : Heap) (locs : List Loc), lwM s D cA ad ad' (XX (V N W9)) N H locs → lwJ N W9 n' d c0 → n' ≤ n + 100 → W p l e room_1 s m #[Value.ref b] below meth c H locs cells slots Q (F0 m 893 ls [])) : W p l e room_1 s m #[Value.ref b] below meth c H locs cells slots Q (F0 m 813 ls []) := by
  obtain ⟨hx, hb, hr, hml, hown, hts0, hX, hbl, hlocks, hgv⟩ := C0
  obtain ⟨hJ, hSV, h1, h5, hc16⟩ := j
  have hg : ∀ w ∈ gw, w.before #[Value.ref b] s = true := fun w hw => hts0 w (List.mem_filter.mp hw).1
  have hts : ∀ w ∈ (Cond.initialized "FarLink") :: gw, w.before #[Value.ref b] s = true := List.forall_mem_cons.mpr ⟨hg _ tw_1, hg⟩
  refine lv_aload_n hx hb d_LW_law_813 rfl (lv_at hl 1 rfl) ?_
  refine lw_arg (k := 1) hx hb hX hbl h.2.2 hL hl (by omega) (by decide) d_LW_law_814 d_LW_law_815 d_LW_law_816 d_LW_law_817 d_LW_law_818 ?_
  refine lw_zb (pb := 826) (pd := 827) hx hb d_LW_law_819 (by decide) d_LW_law_822 d_LW_law_823 (by decide) d_LW_law_826 rfl ?_
  refine lw_arg (k := 2) hx hb hX hbl h.2.2 hL hl (by omega) (by decide) d_LW_law_827 d_LW_law_828 d_LW_law_829 d_LW_law_830 d_LW_law_831 ?_
  refine lv_i2l hx hb d_LW_law_832 rfl ?_
  refine lv_bipush (v := 32) hx hb d_LW_law_833 (by decide) ?_
  refine lv_lshl (v := j_lshl ((xs (i + 2)).toInt64) 32) hx hb d_LW_law_835 rfl ?_
  refine lw_arg (k := 3) hx hb hX hbl h.2.2 hL hl (by omega) (by decide) d_LW_law_836 d_LW_law_837 d_LW_law_838 d_LW_law_839 d_LW_law_840 ?_
  refine lv_i2l hx hb d_LW_law_841 rfl ?_
  refine lv_ldc2 (v := 4294967295) hx hb hown (hg _ tw_1179) d_LW_law_842 ?_
  refine lv_land hx hb d_LW_law_845 ?_
  refine lv_lor hx hb d_LW_law_846 ?_
  refine lw_xl E (va_runV (As := [.int (zb (xs (i + 1))), .long ((j_lshl ((xs (i + 2)).toInt64) 32) ||| (((xs (i + 3)).toInt64) &&& 4294967295))]) (rest := []) ⟨hx, hb, hml, hown, hts⟩ (c_FL_decode l E.2.2.2.1 (XX (V N W9)) (zb (xs (i + 1))) ((j_lshl ((xs (i + 2)).toInt64) 32) ||| (((xs (i + 3)).toInt64) &&& 4294967295))) (kv_FL_decode hts (hg _ tw_756) ⟨Nat.le_of_ble_eq_true rfl, Nat.le_of_ble_eq_true rfl⟩) (lw_preX E h) rfl rfl hl.1 rfl (lv_room (Nat.le_of_ble_eq_true rfl)) d_LW_law_847 ⟨hc, hsl⟩) h (fun H locs h => ?_)
  refine lv_aload_n hx hb d_LW_law_850 rfl (lv_at hl 2 rfl) ?_
  refine lw_arg (k := 1) hx hb hX hbl h.2.2 hL hl (by omega) (by decide) d_LW_law_851 d_LW_law_852 d_LW_law_853 d_LW_law_854 d_LW_law_855 ?_
  refine lw_zb (pb := 863) (pd := 864) hx hb d_LW_law_856 (by decide) d_LW_law_859 d_LW_law_860 (by decide) d_LW_law_863 rfl ?_
  refine lw_arg (k := 2) hx hb hX hbl h.2.2 hL hl (by omega) (by decide) d_LW_law_864 d_LW_law_865 d_LW_law_866 d_LW_law_867 d_LW_law_868 ?_
  refine lv_i2l hx hb d_LW_law_869 rfl ?_
  refine lv_bipush (v := 32) hx hb d_LW_law_870 (by decide) ?_
  refine lv_lshl (v := j_lshl ((xs (i + 2)).toInt64) 32) hx hb d_LW_law_872 rfl ?_
  refine lw_arg (k := 3) hx hb hX hbl h.2.2 hL hl (by omega) (by decide) d_LW_law_873 d_LW_law_874 d_LW_law_875 d_LW_law_876 d_LW_law_877 ?_
  refine lv_i2l hx hb d_LW_law_878 rfl ?_
  refine lv_ldc2 (v := 4294967295) hx hb hown (hg _ tw_1179) d_LW_law_879 ?_
  refine lv_land hx hb d_LW_law_882 ?_
  refine lv_lor hx hb d_LW_law_883 ?_
  refine lw_yl E (va_runV (As := [.int (zb (xs (i + 1))), .long ((j_lshl ((xs (i + 2)).toInt64) 32) ||| (((xs (i + 3)).toInt64) &&& 4294967295))]) (rest := [.long _]) ⟨hx, hb, hml, hown, hts⟩ (c_MD_decode l E.2.2.2.2.1 N (zb (xs (i + 1))) ((j_lshl ((xs (i + 2)).toInt64) 32) ||| (((xs (i + 3)).toInt64) &&& 4294967295))) (kv_MD_decode hts (hg _ tw_964) ⟨Nat.le_of_ble_eq_true rfl, Nat.le_of_ble_eq_true rfl⟩) (lw_preY E h) rfl rfl hl.1 rfl (lv_room (Nat.le_of_ble_eq_true rfl)) d_LW_law_884 ⟨hc, hsl⟩) h (fun H locs h => ?_)
  have q1 := q_decode (zb (xs (i + 1))) ((j_lshl ((xs (i + 2)).toInt64) 32) ||| (((xs (i + 3)).toInt64) &&& 4294967295))
  refine W.lcmp hx hb d_LW_law_887 ?_
  refine lv_if_eq (tgt := 893) hx hb d_LW_law_888 (by decide) (fun _ => ?_) (fun h9 => absurd (lw_cmp q1) h9)
  exact kk N W9 n c0 H locs h ⟨hJ, hSV, h1, h5, hc16⟩ (by omega)
