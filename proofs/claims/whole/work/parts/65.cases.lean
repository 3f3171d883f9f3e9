/-! THE LAW'S CASES -/
set_option maxRecDepth 100000 in
set_option maxHeartbeats 4000000 in
theorem lc_point {p : Program} {l : Launch} {e : Env} {s : State} {m : MethodId} {args : Array Value} {below : List Frame} {meth : Method} {c : Code} {E : ewE} {A : Nat → Prop} {cells slots : Nat} {Q : State → Prop} {b N : Nat} {xs : Nat → Int32} (hC : jC p e room_1 s m args meth c E A code 9 "EmbossPressLaw" (some .boolean)) (hfl : l.stackTraces = false) (hX : lwX s E A b N xs) {M : ewM} (h : Rl M) (i : Int) (hi : 0 ≤ i ∧ i + 5 < N) (hc1 : cells + 1 ≤ 601024 ∧ slots + 6 ≤ 7293034)
    (kb : ∀ T : ewM, Rl T → jJ p l e room_1 s m args below meth c E A 9 (cells + 1) (slots + 6) Q 1704 [(0, vR E 300), (1, vR E 77), (2, vR E 88), (3, vR E 97), (4, vI i)] [] T) : jJ p l e room_1 s m args below meth c E A 9 cells slots Q 164 [(0, vR E 300), (1, vR E 77), (2, vR E 88), (3, vR E 97), (4, vI i)] [] M := by
  have hN := hX.2.2.2.2
  refine jw_aload_n hC dL_law_164 1 rfl rfl ?_
  refine jw_aload_n hC dL_law_165 0 rfl rfl ?_
  refine jw_iload hC dL_law_166 4 rfl ?_
  refine jw_iconst hC dL_law_168 ?_
  refine jw_iadd hC dL_law_169 ?_
  refine jw_sld hC hX (by omega) (by omega) dL_law_170 ?_
  refine jw_aload_n hC dL_law_171 0 rfl rfl ?_
  refine jw_iload hC dL_law_172 4 rfl ?_
  refine jw_iconst hC dL_law_174 ?_
  refine jw_iadd hC dL_law_175 ?_
  refine jw_sld hC hX (by omega) (by omega) dL_law_176 ?_
  refine jw_aload_n hC dL_law_177 0 rfl rfl ?_
  refine jw_iload hC dL_law_178 4 rfl ?_
  refine jw_iconst hC dL_law_180 ?_
  refine jw_iadd hC dL_law_181 ?_
  refine jw_sld hC hX (by omega) (by omega) dL_law_182 ?_
  refine jw_aload_n hC dL_law_183 0 rfl rfl ?_
  refine jw_iload hC dL_law_184 4 rfl ?_
  refine jw_iconst hC dL_law_186 ?_
  refine jw_iadd hC dL_law_187 ?_
  refine jw_sld hC hX (by omega) (by omega) dL_law_188 ?_
  refine jw_aload_n hC dL_law_189 3 rfl rfl ?_
  refine jx_callSH (post := hp_point M (sx xs (i + 1)) (sx xs (i + 2)) (sx xs (i + 3)) (sx xs (i + 4))) hC (h_point l hfl E M h.2.1.1 h.2.1.2.1 (sx xs (i + 1)) (sx_1 _ _) (sx_2 _ _) (sx xs (i + 2)) (sx_1 _ _) (sx_2 _ _) (sx xs (i + 3)) (sx_1 _ _) (sx_2 _ _) (sx xs (i + 4)) (sx_1 _ _) (sx_2 _ _)) sH_point dL_law_190 rfl rfl ⟨Nat.le_of_ble_eq_true rfl, Nat.le_of_ble_eq_true rfl⟩ ⟨hc1.1, hc1.2⟩ (Nat.le_of_ble_eq_true rfl) (fun v5 M5 g5 => ?_)
  obtain ⟨kk, rfl, hkk, hct⟩ := m_point l E (sx xs (i + 1)) (sx_1 _ _) (sx_2 _ _) (sx xs (i + 2)) (sx_1 _ _) (sx_2 _ _) (sx xs (i + 3)) (sx_1 _ _) (sx_2 _ _) (sx xs (i + 4)) (sx_1 _ _) (sx_2 _ _) h g5
  refine jw_istore (L' := [(5, _), (0, _), (1, _), (2, _), (3, _), (4, _)]) hC dL_law_193 (by decide) rfl ?_
  refine jw_aload_n hC dL_law_195 3 rfl rfl ?_
  refine jw_aload_n hC dL_law_196 1 rfl rfl ?_
  refine jw_iload hC dL_law_197 5 rfl ?_
  refine jw_iconst hC dL_law_199 ?_
  refine jw_iadd hC dL_law_200 ?_
  refine jw_sld hC hX (by omega) (by omega) dL_law_201 ?_
  refine jw_aload_n hC dL_law_202 1 rfl rfl ?_
  refine jw_iload hC dL_law_203 5 rfl ?_
  refine jw_iconst hC dL_law_205 ?_
  refine jw_iadd hC dL_law_206 ?_
  refine jw_sld hC hX (by omega) (by omega) dL_law_207 ?_
  refine jw_aload_n hC dL_law_208 1 rfl rfl ?_
  refine jw_iload hC dL_law_209 5 rfl ?_
  refine jw_iconst hC dL_law_211 ?_
  refine jw_iadd hC dL_law_212 ?_
  refine jw_sld hC hX (by omega) (by omega) dL_law_213 ?_
  refine jw_aload_n hC dL_law_214 1 rfl rfl ?_
  refine jw_iload hC dL_law_215 5 rfl ?_
  refine jw_iconst hC dL_law_217 ?_
  refine jw_iadd hC dL_law_218 ?_
  refine jw_sld hC hX (by omega) (by omega) dL_law_219 ?_
  refine jw_callV hC hct sV_L_90 ewF_m0.o dL_law_220 rfl rfl ⟨Nat.le_of_ble_eq_true rfl, Nat.le_of_ble_eq_true rfl⟩ ⟨hc1.1, hc1.2⟩ (Nat.le_of_ble_eq_true rfl) (fun v6 T g6 => ?_)
  obtain ⟨r, rfl, hth, hRl, hw⟩ := g6
  have wb1 := wr_b1 r
  have wb2 := wr_b2 r
  rw [show vpush (some (vI r)) [] = [vI (wr r)] from by rw [vI_wr]; rfl]
  refine jw_istore (L' := [(6, _), (5, _), (0, _), (1, _), (2, _), (3, _), (4, _)]) hC dL_law_223 (by decide) rfl ?_
  refine jw_aload_n hC dL_law_225 4 rfl rfl ?_
  refine jw_callV hC (c_X5_thrown l E T) sV_L_91 ewF_m0.o dL_law_226 rfl rfl ⟨Nat.le_of_ble_eq_true rfl, Nat.le_of_ble_eq_true rfl⟩ ⟨hc1.1, hc1.2⟩ (Nat.le_of_ble_eq_true rfl) (fun v7 T7 g7 => ?_)
  obtain ⟨rfl, rfl⟩ := g7
  rw [hth]
  refine jw_iload hC dL_law_229 1 rfl ?_
  refine jw_icmp_eq (tgt := 236) hC dL_law_231 (by decide) (by omega) (by omega) (by omega) (by omega) (fun _ => ?_) (fun hne => absurd rfl hne)
  refine jw_iload hC dL_law_236 1 rfl ?_
  refine jw_if_ne (tgt := 253) hC dL_law_238 (by decide) (by omega) (by omega) (fun hk0 => ?_) (fun hk0 => ?_)
  · refine jw_goto (tgt := 1704) hC dL_law_253 (by decide) ?_
    exact jw_loc (L' := [(0, _), (1, _), (2, _), (3, _), (4, _)]) [2, 3, 4, 5, 6] rfl (kb T hRl)
  · skip
    have hw := hw (by omega)
    refine jw_aload_n hC dL_law_241 5 rfl rfl ?_
    refine jw_iconst hC dL_law_242 ?_
    refine jw_lald97 hC dL_law_243 ?_
    rw [hw]
    refine jw_iload hC dL_law_244 0 rfl ?_
    refine jw_i2l hC dL_law_246 wb1 wb2 ?_
    refine jw_lcmp hC dL_law_247 (by omega) (by omega) (by omega) (by omega) ?_
    refine jw_if_eq (tgt := 253) hC dL_law_248 (by decide) lcm_b1 lcm_b2 (fun _ => ?_) (fun hne => absurd rfl (mt lcm_eq.mpr hne))
    refine jw_goto (tgt := 1704) hC dL_law_253 (by decide) ?_
    exact jw_loc (L' := [(0, _), (1, _), (2, _), (3, _), (4, _)]) [2, 3, 4, 5, 6] rfl (kb T hRl)
set_option maxRecDepth 100000 in
set_option maxHeartbeats 4000000 in
theorem lc_cast {p : Program} {l : Launch} {e : Env} {s : State} {m : MethodId} {args : Array Value} {below : List Frame} {meth : Method} {c : Code} {E : ewE} {A : Nat → Prop} {cells slots : Nat} {Q : State → Prop} {b N : Nat} {xs : Nat → Int32} (hC : jC p e room_1 s m args meth c E A code 9 "EmbossPressLaw" (some .boolean)) (hfl : l.stackTraces = false) (hX : lwX s E A b N xs) {M : ewM} (h : Rl M) (i : Int) (hi : 0 ≤ i ∧ i + 5 < N) (hc1 : cells + 1 ≤ 601024 ∧ slots + 6 ≤ 7293034)
    (kb : ∀ T : ewM, Rl T → jJ p l e room_1 s m args below meth c E A 9 (cells + 1) (slots + 6) Q 1704 [(0, vR E 300), (1, vR E 77), (2, vR E 88), (3, vR E 97), (4, vI i)] [] T) : jJ p l e room_1 s m args below meth c E A 9 cells slots Q 256 [(0, vR E 300), (1, vR E 77), (2, vR E 88), (3, vR E 97), (4, vI i)] [] M := by
  have hN := hX.2.2.2.2
  refine jw_aload_n hC dL_law_256 1 rfl rfl ?_
  refine jw_aload_n hC dL_law_257 0 rfl rfl ?_
  refine jw_iload hC dL_law_258 4 rfl ?_
  refine jw_iconst hC dL_law_260 ?_
  refine jw_iadd hC dL_law_261 ?_
  refine jw_sld hC hX (by omega) (by omega) dL_law_262 ?_
  refine jw_aload_n hC dL_law_263 0 rfl rfl ?_
  refine jw_iload hC dL_law_264 4 rfl ?_
  refine jw_iconst hC dL_law_266 ?_
  refine jw_iadd hC dL_law_267 ?_
  refine jw_sld hC hX (by omega) (by omega) dL_law_268 ?_
  refine jw_aload_n hC dL_law_269 0 rfl rfl ?_
  refine jw_iload hC dL_law_270 4 rfl ?_
  refine jw_iconst hC dL_law_272 ?_
  refine jw_iadd hC dL_law_273 ?_
  refine jw_sld hC hX (by omega) (by omega) dL_law_274 ?_
  refine jw_aload_n hC dL_law_275 3 rfl rfl ?_
  refine jx_callSH (post := hp_cast M (sx xs (i + 1)) (sx xs (i + 2)) (sx xs (i + 3))) hC (h_cast l hfl E M (Rl_st0 h) h.2.1.1 h.2.1.2.1 (sx xs (i + 1)) (sx_1 _ _) (sx_2 _ _) (sx xs (i + 2)) (sx_1 _ _) (sx_2 _ _) (sx xs (i + 3)) (sx_1 _ _) (sx_2 _ _)) sH_cast dL_law_276 rfl rfl ⟨Nat.le_of_ble_eq_true rfl, Nat.le_of_ble_eq_true rfl⟩ ⟨hc1.1, hc1.2⟩ (Nat.le_of_ble_eq_true rfl) (fun v5 M5 g5 => ?_)
  obtain ⟨kk, rfl, hkk, hct⟩ := m_cast l E (sx xs (i + 1)) (sx_1 _ _) (sx_2 _ _) (sx xs (i + 2)) (sx_1 _ _) (sx_2 _ _) (sx xs (i + 3)) (sx_1 _ _) (sx_2 _ _) h g5
  refine jw_istore (L' := [(5, _), (0, _), (1, _), (2, _), (3, _), (4, _)]) hC dL_law_279 (by decide) rfl ?_
  refine jw_aload_n hC dL_law_281 3 rfl rfl ?_
  refine jw_aload_n hC dL_law_282 1 rfl rfl ?_
  refine jw_iload hC dL_law_283 5 rfl ?_
  refine jw_iconst hC dL_law_285 ?_
  refine jw_iadd hC dL_law_286 ?_
  refine jw_sld hC hX (by omega) (by omega) dL_law_287 ?_
  refine jw_aload_n hC dL_law_288 1 rfl rfl ?_
  refine jw_iload hC dL_law_289 5 rfl ?_
  refine jw_iconst hC dL_law_291 ?_
  refine jw_iadd hC dL_law_292 ?_
  refine jw_sld hC hX (by omega) (by omega) dL_law_293 ?_
  refine jw_aload_n hC dL_law_294 1 rfl rfl ?_
  refine jw_iload hC dL_law_295 5 rfl ?_
  refine jw_iconst hC dL_law_297 ?_
  refine jw_iadd hC dL_law_298 ?_
  refine jw_sld hC hX (by omega) (by omega) dL_law_299 ?_
  refine jw_callV hC hct sV_L_97 ewF_m0.o dL_law_300 rfl rfl ⟨Nat.le_of_ble_eq_true rfl, Nat.le_of_ble_eq_true rfl⟩ ⟨hc1.1, hc1.2⟩ (Nat.le_of_ble_eq_true rfl) (fun v6 T g6 => ?_)
  obtain ⟨r, rfl, hth, hRl, hw⟩ := g6
  have wb1 := wr_b1 r
  have wb2 := wr_b2 r
  rw [show vpush (some (vI r)) [] = [vI (wr r)] from by rw [vI_wr]; rfl]
  refine jw_istore (L' := [(6, _), (5, _), (0, _), (1, _), (2, _), (3, _), (4, _)]) hC dL_law_303 (by decide) rfl ?_
  refine jw_aload_n hC dL_law_305 4 rfl rfl ?_
  refine jw_callV hC (c_X5_thrown l E T) sV_L_91 ewF_m0.o dL_law_306 rfl rfl ⟨Nat.le_of_ble_eq_true rfl, Nat.le_of_ble_eq_true rfl⟩ ⟨hc1.1, hc1.2⟩ (Nat.le_of_ble_eq_true rfl) (fun v7 T7 g7 => ?_)
  obtain ⟨rfl, rfl⟩ := g7
  rw [hth]
  refine jw_iload hC dL_law_309 1 rfl ?_
  refine jw_icmp_eq (tgt := 316) hC dL_law_311 (by decide) (by omega) (by omega) (by omega) (by omega) (fun _ => ?_) (fun hne => absurd rfl hne)
  refine jw_iload hC dL_law_316 1 rfl ?_
  refine jw_if_ne (tgt := 333) hC dL_law_318 (by decide) (by omega) (by omega) (fun hk0 => ?_) (fun hk0 => ?_)
  · refine jw_goto (tgt := 1704) hC dL_law_333 (by decide) ?_
    exact jw_loc (L' := [(0, _), (1, _), (2, _), (3, _), (4, _)]) [2, 3, 4, 5, 6] rfl (kb T hRl)
  · skip
    have hw := hw (by omega)
    refine jw_aload_n hC dL_law_321 5 rfl rfl ?_
    refine jw_iconst hC dL_law_322 ?_
    refine jw_lald97 hC dL_law_323 ?_
    rw [hw]
    refine jw_iload hC dL_law_324 0 rfl ?_
    refine jw_i2l hC dL_law_326 wb1 wb2 ?_
    refine jw_lcmp hC dL_law_327 (by omega) (by omega) (by omega) (by omega) ?_
    refine jw_if_eq (tgt := 333) hC dL_law_328 (by decide) lcm_b1 lcm_b2 (fun _ => ?_) (fun hne => absurd rfl (mt lcm_eq.mpr hne))
    refine jw_goto (tgt := 1704) hC dL_law_333 (by decide) ?_
    exact jw_loc (L' := [(0, _), (1, _), (2, _), (3, _), (4, _)]) [2, 3, 4, 5, 6] rfl (kb T hRl)
set_option maxRecDepth 100000 in
set_option maxHeartbeats 4000000 in
theorem lc_sheet {p : Program} {l : Launch} {e : Env} {s : State} {m : MethodId} {args : Array Value} {below : List Frame} {meth : Method} {c : Code} {E : ewE} {A : Nat → Prop} {cells slots : Nat} {Q : State → Prop} {b N : Nat} {xs : Nat → Int32} (hC : jC p e room_1 s m args meth c E A code 9 "EmbossPressLaw" (some .boolean)) (hfl : l.stackTraces = false) (hX : lwX s E A b N xs) {M : ewM} (h : Rl M) (i : Int) (hi : 0 ≤ i ∧ i + 5 < N) (hc1 : cells + 1 ≤ 601024 ∧ slots + 6 ≤ 7293034)
    (kb : ∀ T : ewM, Rl T → jJ p l e room_1 s m args below meth c E A 9 (cells + 1) (slots + 6) Q 1704 [(0, vR E 300), (1, vR E 77), (2, vR E 88), (3, vR E 97), (4, vI i)] [] T) : jJ p l e room_1 s m args below meth c E A 9 cells slots Q 336 [(0, vR E 300), (1, vR E 77), (2, vR E 88), (3, vR E 97), (4, vI i)] [] M := by
  have hN := hX.2.2.2.2
  refine jw_aload_n hC dL_law_336 1 rfl rfl ?_
  refine jw_callV hC (c_X4_sheet l E M (Rl_st0 h) h.2.1.1 h.2.1.2.1) sV_L_98 ewF_x4.o dL_law_337 rfl rfl ⟨Nat.le_of_ble_eq_true rfl, Nat.le_of_ble_eq_true rfl⟩ ⟨Nat.le_of_succ_le hc1.1, Nat.le_trans (Nat.le_add_right _ _) hc1.2⟩ (Nat.le_of_ble_eq_true rfl) (fun v5 M5 g5 => ?_)
  obtain ⟨z, rfl, hct⟩ := n_sheet l E h g5
  have wb1 := wr_b1 z
  have wb2 := wr_b2 z
  rw [show vpush (some (vI z)) [] = [vI (wr z)] from by rw [vI_wr]; rfl]
  refine jw_aload_n hC dL_law_340 2 rfl rfl ?_
  refine jw_callV hC hct sV_L_101 ewF_m0.o dL_law_341 rfl rfl ⟨Nat.le_of_ble_eq_true rfl, Nat.le_of_ble_eq_true rfl⟩ ⟨Nat.le_of_succ_le hc1.1, Nat.le_trans (Nat.le_add_right _ _) hc1.2⟩ (Nat.le_of_ble_eq_true rfl) (fun v6 T g6 => ?_)
  obtain ⟨r, rfl, hr, hRl⟩ := g6
  rw [show vpush (some (vI r)) [vI (wr z)] = [vI (wr z), vI (wr z)] from by rw [← hr, vI_wr]; rfl]
  refine jw_icmp_eq (tgt := 1704) hC dL_law_344 (by decide) (by omega) (by omega) (by omega) (by omega) (fun _ => ?_) (fun hne => absurd rfl hne)
  refine jw_widen (k := cells + 1) (n := slots + 6) (Nat.le_add_right _ _) (Nat.le_add_right _ _) ?_
  exact kb T hRl
set_option maxRecDepth 100000 in
set_option maxHeartbeats 4000000 in
theorem lc_pin {p : Program} {l : Launch} {e : Env} {s : State} {m : MethodId} {args : Array Value} {below : List Frame} {meth : Method} {c : Code} {E : ewE} {A : Nat → Prop} {cells slots : Nat} {Q : State → Prop} {b N : Nat} {xs : Nat → Int32} (hC : jC p e room_1 s m args meth c E A code 9 "EmbossPressLaw" (some .boolean)) (hfl : l.stackTraces = false) (hX : lwX s E A b N xs) {M : ewM} (h : Rl M) (i : Int) (hi : 0 ≤ i ∧ i + 5 < N) (hc1 : cells + 1 ≤ 601024 ∧ slots + 6 ≤ 7293034)
    (kb : ∀ T : ewM, Rl T → jJ p l e room_1 s m args below meth c E A 9 (cells + 1) (slots + 6) Q 1704 [(0, vR E 300), (1, vR E 77), (2, vR E 88), (3, vR E 97), (4, vI i)] [] T) : jJ p l e room_1 s m args below meth c E A 9 cells slots Q 349 [(0, vR E 300), (1, vR E 77), (2, vR E 88), (3, vR E 97), (4, vI i)] [] M := by
  have hN := hX.2.2.2.2
  refine jw_aload_n hC dL_law_349 1 rfl rfl ?_
  refine jw_callV hC (c_X4_pin l E M h.2.1.1 h.2.1.2.1) sV_L_102 ewF_x4.o dL_law_350 rfl rfl ⟨Nat.le_of_ble_eq_true rfl, Nat.le_of_ble_eq_true rfl⟩ ⟨Nat.le_of_succ_le hc1.1, Nat.le_trans (Nat.le_add_right _ _) hc1.2⟩ (Nat.le_of_ble_eq_true rfl) (fun v5 M5 g5 => ?_)
  obtain ⟨z, rfl, hct⟩ := n_pin l E h g5
  have wb1 := wr_b1 z
  have wb2 := wr_b2 z
  rw [show vpush (some (vI z)) [] = [vI (wr z)] from by rw [vI_wr]; rfl]
  refine jw_aload_n hC dL_law_353 2 rfl rfl ?_
  refine jw_callV hC hct sV_L_105 ewF_m0.o dL_law_354 rfl rfl ⟨Nat.le_of_ble_eq_true rfl, Nat.le_of_ble_eq_true rfl⟩ ⟨Nat.le_of_succ_le hc1.1, Nat.le_trans (Nat.le_add_right _ _) hc1.2⟩ (Nat.le_of_ble_eq_true rfl) (fun v6 T g6 => ?_)
  obtain ⟨r, rfl, hr, hRl⟩ := g6
  rw [show vpush (some (vI r)) [vI (wr z)] = [vI (wr z), vI (wr z)] from by rw [← hr, vI_wr]; rfl]
  refine jw_icmp_eq (tgt := 1704) hC dL_law_357 (by decide) (by omega) (by omega) (by omega) (by omega) (fun _ => ?_) (fun hne => absurd rfl hne)
  refine jw_widen (k := cells + 1) (n := slots + 6) (Nat.le_add_right _ _) (Nat.le_add_right _ _) ?_
  exact kb T hRl
set_option maxRecDepth 100000 in
set_option maxHeartbeats 4000000 in
theorem lc_foil {p : Program} {l : Launch} {e : Env} {s : State} {m : MethodId} {args : Array Value} {below : List Frame} {meth : Method} {c : Code} {E : ewE} {A : Nat → Prop} {cells slots : Nat} {Q : State → Prop} {b N : Nat} {xs : Nat → Int32} (hC : jC p e room_1 s m args meth c E A code 9 "EmbossPressLaw" (some .boolean)) (hfl : l.stackTraces = false) (hX : lwX s E A b N xs) {M : ewM} (h : Rl M) (i : Int) (hi : 0 ≤ i ∧ i + 5 < N) (hc1 : cells + 1 ≤ 601024 ∧ slots + 6 ≤ 7293034)
    (kb : ∀ T : ewM, Rl T → jJ p l e room_1 s m args below meth c E A 9 (cells + 1) (slots + 6) Q 1704 [(0, vR E 300), (1, vR E 77), (2, vR E 88), (3, vR E 97), (4, vI i)] [] T) : jJ p l e room_1 s m args below meth c E A 9 cells slots Q 362 [(0, vR E 300), (1, vR E 77), (2, vR E 88), (3, vR E 97), (4, vI i)] [] M := by
  have hN := hX.2.2.2.2
  refine jw_aload_n hC dL_law_362 1 rfl rfl ?_
  refine jw_aload_n hC dL_law_363 0 rfl rfl ?_
  refine jw_iload hC dL_law_364 4 rfl ?_
  refine jw_iconst hC dL_law_366 ?_
  refine jw_iadd hC dL_law_367 ?_
  refine jw_sld hC hX (by omega) (by omega) dL_law_368 ?_
  refine jw_aload_n hC dL_law_369 0 rfl rfl ?_
  refine jw_iload hC dL_law_370 4 rfl ?_
  refine jw_iconst hC dL_law_372 ?_
  refine jw_iadd hC dL_law_373 ?_
  refine jw_sld hC hX (by omega) (by omega) dL_law_374 ?_
  refine jw_aload_n hC dL_law_375 0 rfl rfl ?_
  refine jw_iload hC dL_law_376 4 rfl ?_
  refine jw_iconst hC dL_law_378 ?_
  refine jw_iadd hC dL_law_379 ?_
  refine jw_sld hC hX (by omega) (by omega) dL_law_380 ?_
  refine jw_aload_n hC dL_law_381 0 rfl rfl ?_
  refine jw_iload hC dL_law_382 4 rfl ?_
  refine jw_iconst hC dL_law_384 ?_
  refine jw_iadd hC dL_law_385 ?_
  refine jw_sld hC hX (by omega) (by omega) dL_law_386 ?_
  refine jw_aload_n hC dL_law_387 0 rfl rfl ?_
  refine jw_iload hC dL_law_388 4 rfl ?_
  refine jw_iconst hC dL_law_390 ?_
  refine jw_iadd hC dL_law_391 ?_
  refine jw_sld hC hX (by omega) (by omega) dL_law_392 ?_
  refine jw_aload_n hC dL_law_393 3 rfl rfl ?_
  refine jx_callSH (post := hp_foil M (sx xs (i + 1)) (sx xs (i + 2)) (sx xs (i + 3)) (sx xs (i + 4)) (sx xs (i + 5))) hC (h_foil l hfl E M h.2.1.1 h.2.1.2.1 (sx xs (i + 1)) (sx_1 _ _) (sx_2 _ _) (sx xs (i + 2)) (sx_1 _ _) (sx_2 _ _) (sx xs (i + 3)) (sx_1 _ _) (sx_2 _ _) (sx xs (i + 4)) (sx_1 _ _) (sx_2 _ _) (sx xs (i + 5)) (sx_1 _ _) (sx_2 _ _)) sH_foil dL_law_394 rfl rfl ⟨Nat.le_of_ble_eq_true rfl, Nat.le_of_ble_eq_true rfl⟩ ⟨hc1.1, hc1.2⟩ (Nat.le_of_ble_eq_true rfl) (fun v5 M5 g5 => ?_)
  obtain ⟨kk, rfl, hkk, hct⟩ := m_foil l E (sx xs (i + 1)) (sx_1 _ _) (sx_2 _ _) (sx xs (i + 2)) (sx_1 _ _) (sx_2 _ _) (sx xs (i + 3)) (sx_1 _ _) (sx_2 _ _) (sx xs (i + 4)) (sx_1 _ _) (sx_2 _ _) (sx xs (i + 5)) (sx_1 _ _) (sx_2 _ _) h g5
  refine jw_istore (L' := [(5, _), (0, _), (1, _), (2, _), (3, _), (4, _)]) hC dL_law_397 (by decide) rfl ?_
  refine jw_aload_n hC dL_law_399 3 rfl rfl ?_
  refine jw_aload_n hC dL_law_400 1 rfl rfl ?_
  refine jw_iload hC dL_law_401 5 rfl ?_
  refine jw_iconst hC dL_law_403 ?_
  refine jw_iadd hC dL_law_404 ?_
  refine jw_sld hC hX (by omega) (by omega) dL_law_405 ?_
  refine jw_aload_n hC dL_law_406 1 rfl rfl ?_
  refine jw_iload hC dL_law_407 5 rfl ?_
  refine jw_iconst hC dL_law_409 ?_
  refine jw_iadd hC dL_law_410 ?_
  refine jw_sld hC hX (by omega) (by omega) dL_law_411 ?_
  refine jw_aload_n hC dL_law_412 1 rfl rfl ?_
  refine jw_iload hC dL_law_413 5 rfl ?_
  refine jw_iconst hC dL_law_415 ?_
  refine jw_iadd hC dL_law_416 ?_
  refine jw_sld hC hX (by omega) (by omega) dL_law_417 ?_
  refine jw_aload_n hC dL_law_418 1 rfl rfl ?_
  refine jw_iload hC dL_law_419 5 rfl ?_
  refine jw_iconst hC dL_law_421 ?_
  refine jw_iadd hC dL_law_422 ?_
  refine jw_sld hC hX (by omega) (by omega) dL_law_423 ?_
  refine jw_aload_n hC dL_law_424 1 rfl rfl ?_
  refine jw_iload hC dL_law_425 5 rfl ?_
  refine jw_iconst hC dL_law_427 ?_
  refine jw_iadd hC dL_law_428 ?_
  refine jw_sld hC hX (by omega) (by omega) dL_law_429 ?_
  refine jw_callV hC hct sV_L_109 ewF_m0.o dL_law_430 rfl rfl ⟨Nat.le_of_ble_eq_true rfl, Nat.le_of_ble_eq_true rfl⟩ ⟨hc1.1, hc1.2⟩ (Nat.le_of_ble_eq_true rfl) (fun v6 T g6 => ?_)
  obtain ⟨r, rfl, hth, hRl, hw⟩ := g6
  have wb1 := wr_b1 r
  have wb2 := wr_b2 r
  rw [show vpush (some (vI r)) [] = [vI (wr r)] from by rw [vI_wr]; rfl]
  refine jw_istore (L' := [(6, _), (5, _), (0, _), (1, _), (2, _), (3, _), (4, _)]) hC dL_law_433 (by decide) rfl ?_
  refine jw_aload_n hC dL_law_435 4 rfl rfl ?_
  refine jw_callV hC (c_X5_thrown l E T) sV_L_91 ewF_m0.o dL_law_436 rfl rfl ⟨Nat.le_of_ble_eq_true rfl, Nat.le_of_ble_eq_true rfl⟩ ⟨hc1.1, hc1.2⟩ (Nat.le_of_ble_eq_true rfl) (fun v7 T7 g7 => ?_)
  obtain ⟨rfl, rfl⟩ := g7
  rw [hth]
  refine jw_iload hC dL_law_439 1 rfl ?_
  refine jw_icmp_eq (tgt := 446) hC dL_law_441 (by decide) (by omega) (by omega) (by omega) (by omega) (fun _ => ?_) (fun hne => absurd rfl hne)
  refine jw_iload hC dL_law_446 1 rfl ?_
  refine jw_if_ne (tgt := 463) hC dL_law_448 (by decide) (by omega) (by omega) (fun hk0 => ?_) (fun hk0 => ?_)
  · refine jw_goto (tgt := 1704) hC dL_law_463 (by decide) ?_
    exact jw_loc (L' := [(0, _), (1, _), (2, _), (3, _), (4, _)]) [2, 3, 4, 5, 6] rfl (kb T hRl)
  · skip
    have hw := hw (by omega)
    refine jw_aload_n hC dL_law_451 5 rfl rfl ?_
    refine jw_iconst hC dL_law_452 ?_
    refine jw_lald97 hC dL_law_453 ?_
    rw [hw]
    refine jw_iload hC dL_law_454 0 rfl ?_
    refine jw_i2l hC dL_law_456 wb1 wb2 ?_
    refine jw_lcmp hC dL_law_457 (by omega) (by omega) (by omega) (by omega) ?_
    refine jw_if_eq (tgt := 463) hC dL_law_458 (by decide) lcm_b1 lcm_b2 (fun _ => ?_) (fun hne => absurd rfl (mt lcm_eq.mpr hne))
    refine jw_goto (tgt := 1704) hC dL_law_463 (by decide) ?_
    exact jw_loc (L' := [(0, _), (1, _), (2, _), (3, _), (4, _)]) [2, 3, 4, 5, 6] rfl (kb T hRl)
set_option maxRecDepth 100000 in
set_option maxHeartbeats 4000000 in
theorem lc_press {p : Program} {l : Launch} {e : Env} {s : State} {m : MethodId} {args : Array Value} {below : List Frame} {meth : Method} {c : Code} {E : ewE} {A : Nat → Prop} {cells slots : Nat} {Q : State → Prop} {b N : Nat} {xs : Nat → Int32} (hC : jC p e room_1 s m args meth c E A code 9 "EmbossPressLaw" (some .boolean)) (hfl : l.stackTraces = false) (hX : lwX s E A b N xs) {M : ewM} (h : Rl M) (i : Int) (hi : 0 ≤ i ∧ i + 5 < N) (hc1 : cells + 1 ≤ 601024 ∧ slots + 6 ≤ 7293034)
    (kb : ∀ T : ewM, Rl T → jJ p l e room_1 s m args below meth c E A 9 (cells + 1) (slots + 6) Q 1704 [(0, vR E 300), (1, vR E 77), (2, vR E 88), (3, vR E 97), (4, vI i)] [] T) : jJ p l e room_1 s m args below meth c E A 9 cells slots Q 466 [(0, vR E 300), (1, vR E 77), (2, vR E 88), (3, vR E 97), (4, vI i)] [] M := by
  have hN := hX.2.2.2.2
  refine jw_aload_n hC dL_law_466 1 rfl rfl ?_
  refine jw_aload_n hC dL_law_467 0 rfl rfl ?_
  refine jw_iload hC dL_law_468 4 rfl ?_
  refine jw_iconst hC dL_law_470 ?_
  refine jw_iadd hC dL_law_471 ?_
  refine jw_sld hC hX (by omega) (by omega) dL_law_472 ?_
  refine jw_aload_n hC dL_law_473 0 rfl rfl ?_
  refine jw_iload hC dL_law_474 4 rfl ?_
  refine jw_iconst hC dL_law_476 ?_
  refine jw_iadd hC dL_law_477 ?_
  refine jw_sld hC hX (by omega) (by omega) dL_law_478 ?_
  refine jw_aload_n hC dL_law_479 0 rfl rfl ?_
  refine jw_iload hC dL_law_480 4 rfl ?_
  refine jw_iconst hC dL_law_482 ?_
  refine jw_iadd hC dL_law_483 ?_
  refine jw_sld hC hX (by omega) (by omega) dL_law_484 ?_
  refine jw_aload_n hC dL_law_485 0 rfl rfl ?_
  refine jw_iload hC dL_law_486 4 rfl ?_
  refine jw_iconst hC dL_law_488 ?_
  refine jw_iadd hC dL_law_489 ?_
  refine jw_sld hC hX (by omega) (by omega) dL_law_490 ?_
  refine jw_aload_n hC dL_law_491 3 rfl rfl ?_
  refine jx_callSH (post := hp_press M (sx xs (i + 1)) (sx xs (i + 2)) (sx xs (i + 3)) (sx xs (i + 4))) hC (h_press l hfl E M (Rl_st0 h) h.2.1.1 h.2.1.2.1 (sx xs (i + 1)) (sx_1 _ _) (sx_2 _ _) (sx xs (i + 2)) (sx_1 _ _) (sx_2 _ _) (sx xs (i + 3)) (sx_1 _ _) (sx_2 _ _) (sx xs (i + 4)) (sx_1 _ _) (sx_2 _ _)) sH_press dL_law_492 rfl rfl ⟨Nat.le_of_ble_eq_true rfl, Nat.le_of_ble_eq_true rfl⟩ ⟨hc1.1, hc1.2⟩ (Nat.le_of_ble_eq_true rfl) (fun v5 M5 g5 => ?_)
  obtain ⟨kk, rfl, hkk, hct⟩ := m_press l E (sx xs (i + 1)) (sx_1 _ _) (sx_2 _ _) (sx xs (i + 2)) (sx_1 _ _) (sx_2 _ _) (sx xs (i + 3)) (sx_1 _ _) (sx_2 _ _) (sx xs (i + 4)) (sx_1 _ _) (sx_2 _ _) h g5
  refine jw_istore (L' := [(5, _), (0, _), (1, _), (2, _), (3, _), (4, _)]) hC dL_law_495 (by decide) rfl ?_
  refine jw_aload_n hC dL_law_497 3 rfl rfl ?_
  refine jw_aload_n hC dL_law_498 1 rfl rfl ?_
  refine jw_iload hC dL_law_499 5 rfl ?_
  refine jw_iconst hC dL_law_501 ?_
  refine jw_iadd hC dL_law_502 ?_
  refine jw_sld hC hX (by omega) (by omega) dL_law_503 ?_
  refine jw_aload_n hC dL_law_504 1 rfl rfl ?_
  refine jw_iload hC dL_law_505 5 rfl ?_
  refine jw_iconst hC dL_law_507 ?_
  refine jw_iadd hC dL_law_508 ?_
  refine jw_sld hC hX (by omega) (by omega) dL_law_509 ?_
  refine jw_aload_n hC dL_law_510 1 rfl rfl ?_
  refine jw_iload hC dL_law_511 5 rfl ?_
  refine jw_iconst hC dL_law_513 ?_
  refine jw_iadd hC dL_law_514 ?_
  refine jw_sld hC hX (by omega) (by omega) dL_law_515 ?_
  refine jw_aload_n hC dL_law_516 1 rfl rfl ?_
  refine jw_iload hC dL_law_517 5 rfl ?_
  refine jw_iconst hC dL_law_519 ?_
  refine jw_iadd hC dL_law_520 ?_
  refine jw_sld hC hX (by omega) (by omega) dL_law_521 ?_
  refine jw_callV hC hct sV_L_112 ewF_m0.o dL_law_522 rfl rfl ⟨Nat.le_of_ble_eq_true rfl, Nat.le_of_ble_eq_true rfl⟩ ⟨hc1.1, hc1.2⟩ (Nat.le_of_ble_eq_true rfl) (fun v6 T g6 => ?_)
  obtain ⟨r, rfl, hth, hRl, hw⟩ := g6
  have wb1 := wr_b1 r
  have wb2 := wr_b2 r
  rw [show vpush (some (vI r)) [] = [vI (wr r)] from by rw [vI_wr]; rfl]
  refine jw_istore (L' := [(6, _), (5, _), (0, _), (1, _), (2, _), (3, _), (4, _)]) hC dL_law_525 (by decide) rfl ?_
  refine jw_aload_n hC dL_law_527 4 rfl rfl ?_
  refine jw_callV hC (c_X5_thrown l E T) sV_L_91 ewF_m0.o dL_law_528 rfl rfl ⟨Nat.le_of_ble_eq_true rfl, Nat.le_of_ble_eq_true rfl⟩ ⟨hc1.1, hc1.2⟩ (Nat.le_of_ble_eq_true rfl) (fun v7 T7 g7 => ?_)
  obtain ⟨rfl, rfl⟩ := g7
  rw [hth]
  refine jw_iload hC dL_law_531 1 rfl ?_
  refine jw_icmp_eq (tgt := 538) hC dL_law_533 (by decide) (by omega) (by omega) (by omega) (by omega) (fun _ => ?_) (fun hne => absurd rfl hne)
  refine jw_iload hC dL_law_538 1 rfl ?_
  refine jw_if_ne (tgt := 555) hC dL_law_540 (by decide) (by omega) (by omega) (fun hk0 => ?_) (fun hk0 => ?_)
  · refine jw_goto (tgt := 1704) hC dL_law_555 (by decide) ?_
    exact jw_loc (L' := [(0, _), (1, _), (2, _), (3, _), (4, _)]) [2, 3, 4, 5, 6] rfl (kb T hRl)
  · skip
    have hw := hw (by omega)
    refine jw_aload_n hC dL_law_543 5 rfl rfl ?_
    refine jw_iconst hC dL_law_544 ?_
    refine jw_lald97 hC dL_law_545 ?_
    rw [hw]
    refine jw_iload hC dL_law_546 0 rfl ?_
    refine jw_i2l hC dL_law_548 wb1 wb2 ?_
    refine jw_lcmp hC dL_law_549 (by omega) (by omega) (by omega) (by omega) ?_
    refine jw_if_eq (tgt := 555) hC dL_law_550 (by decide) lcm_b1 lcm_b2 (fun _ => ?_) (fun hne => absurd rfl (mt lcm_eq.mpr hne))
    refine jw_goto (tgt := 1704) hC dL_law_555 (by decide) ?_
    exact jw_loc (L' := [(0, _), (1, _), (2, _), (3, _), (4, _)]) [2, 3, 4, 5, 6] rfl (kb T hRl)
set_option maxRecDepth 100000 in
set_option maxHeartbeats 4000000 in
theorem lc_fold {p : Program} {l : Launch} {e : Env} {s : State} {m : MethodId} {args : Array Value} {below : List Frame} {meth : Method} {c : Code} {E : ewE} {A : Nat → Prop} {cells slots : Nat} {Q : State → Prop} {b N : Nat} {xs : Nat → Int32} (hC : jC p e room_1 s m args meth c E A code 9 "EmbossPressLaw" (some .boolean)) (hfl : l.stackTraces = false) (hX : lwX s E A b N xs) {M : ewM} (h : Rl M) (i : Int) (hi : 0 ≤ i ∧ i + 5 < N) (hc1 : cells + 1 ≤ 601024 ∧ slots + 6 ≤ 7293034)
    (kb : ∀ T : ewM, Rl T → jJ p l e room_1 s m args below meth c E A 9 (cells + 1) (slots + 6) Q 1704 [(0, vR E 300), (1, vR E 77), (2, vR E 88), (3, vR E 97), (4, vI i)] [] T) : jJ p l e room_1 s m args below meth c E A 9 cells slots Q 558 [(0, vR E 300), (1, vR E 77), (2, vR E 88), (3, vR E 97), (4, vI i)] [] M := by
  have hN := hX.2.2.2.2
  refine jw_aload_n hC dL_law_558 1 rfl rfl ?_
  refine jw_aload_n hC dL_law_559 0 rfl rfl ?_
  refine jw_iload hC dL_law_560 4 rfl ?_
  refine jw_iconst hC dL_law_562 ?_
  refine jw_iadd hC dL_law_563 ?_
  refine jw_sld hC hX (by omega) (by omega) dL_law_564 ?_
  refine jw_aload_n hC dL_law_565 3 rfl rfl ?_
  refine jx_callSH (post := hp_fold M (sx xs (i + 1))) hC (h_fold l hfl E M (Rl_st0 h) h.2.1.1 h.2.1.2.1 (sx xs (i + 1)) (sx_1 _ _) (sx_2 _ _)) sH_fold dL_law_566 rfl rfl ⟨Nat.le_of_ble_eq_true rfl, Nat.le_of_ble_eq_true rfl⟩ ⟨hc1.1, hc1.2⟩ (Nat.le_of_ble_eq_true rfl) (fun v5 M5 g5 => ?_)
  obtain ⟨kk, rfl, hkk, hct⟩ := m_fold l E (sx xs (i + 1)) (sx_1 _ _) (sx_2 _ _) h g5
  refine jw_istore (L' := [(5, _), (0, _), (1, _), (2, _), (3, _), (4, _)]) hC dL_law_569 (by decide) rfl ?_
  refine jw_aload_n hC dL_law_571 3 rfl rfl ?_
  refine jw_aload_n hC dL_law_572 1 rfl rfl ?_
  refine jw_iload hC dL_law_573 5 rfl ?_
  refine jw_iconst hC dL_law_575 ?_
  refine jw_iadd hC dL_law_576 ?_
  refine jw_sld hC hX (by omega) (by omega) dL_law_577 ?_
  refine jw_callV hC hct sV_L_116 ewF_m0.o dL_law_578 rfl rfl ⟨Nat.le_of_ble_eq_true rfl, Nat.le_of_ble_eq_true rfl⟩ ⟨hc1.1, hc1.2⟩ (Nat.le_of_ble_eq_true rfl) (fun v6 T g6 => ?_)
  obtain ⟨r, rfl, hth, hRl, hw⟩ := g6
  have wb1 := wr_b1 r
  have wb2 := wr_b2 r
  rw [show vpush (some (vI r)) [] = [vI (wr r)] from by rw [vI_wr]; rfl]
  refine jw_istore (L' := [(6, _), (5, _), (0, _), (1, _), (2, _), (3, _), (4, _)]) hC dL_law_581 (by decide) rfl ?_
  refine jw_aload_n hC dL_law_583 4 rfl rfl ?_
  refine jw_callV hC (c_X5_thrown l E T) sV_L_91 ewF_m0.o dL_law_584 rfl rfl ⟨Nat.le_of_ble_eq_true rfl, Nat.le_of_ble_eq_true rfl⟩ ⟨hc1.1, hc1.2⟩ (Nat.le_of_ble_eq_true rfl) (fun v7 T7 g7 => ?_)
  obtain ⟨rfl, rfl⟩ := g7
  rw [hth]
  refine jw_iload hC dL_law_587 1 rfl ?_
  refine jw_icmp_eq (tgt := 594) hC dL_law_589 (by decide) (by omega) (by omega) (by omega) (by omega) (fun _ => ?_) (fun hne => absurd rfl hne)
  refine jw_iload hC dL_law_594 1 rfl ?_
  refine jw_if_ne (tgt := 611) hC dL_law_596 (by decide) (by omega) (by omega) (fun hk0 => ?_) (fun hk0 => ?_)
  · refine jw_goto (tgt := 1704) hC dL_law_611 (by decide) ?_
    exact jw_loc (L' := [(0, _), (1, _), (2, _), (3, _), (4, _)]) [2, 3, 4, 5, 6] rfl (kb T hRl)
  · skip
    have hw := hw (by omega)
    refine jw_aload_n hC dL_law_599 5 rfl rfl ?_
    refine jw_iconst hC dL_law_600 ?_
    refine jw_lald97 hC dL_law_601 ?_
    rw [hw]
    refine jw_iload hC dL_law_602 0 rfl ?_
    refine jw_i2l hC dL_law_604 wb1 wb2 ?_
    refine jw_lcmp hC dL_law_605 (by omega) (by omega) (by omega) (by omega) ?_
    refine jw_if_eq (tgt := 611) hC dL_law_606 (by decide) lcm_b1 lcm_b2 (fun _ => ?_) (fun hne => absurd rfl (mt lcm_eq.mpr hne))
    refine jw_goto (tgt := 1704) hC dL_law_611 (by decide) ?_
    exact jw_loc (L' := [(0, _), (1, _), (2, _), (3, _), (4, _)]) [2, 3, 4, 5, 6] rfl (kb T hRl)
set_option maxRecDepth 100000 in
set_option maxHeartbeats 4000000 in
theorem lc_set {p : Program} {l : Launch} {e : Env} {s : State} {m : MethodId} {args : Array Value} {below : List Frame} {meth : Method} {c : Code} {E : ewE} {A : Nat → Prop} {cells slots : Nat} {Q : State → Prop} {b N : Nat} {xs : Nat → Int32} (hC : jC p e room_1 s m args meth c E A code 9 "EmbossPressLaw" (some .boolean)) (hfl : l.stackTraces = false) (hX : lwX s E A b N xs) {M : ewM} (h : Rl M) (i : Int) (hi : 0 ≤ i ∧ i + 5 < N) (hc1 : cells + 1 ≤ 601024 ∧ slots + 6 ≤ 7293034)
    (kb : ∀ T : ewM, Rl T → jJ p l e room_1 s m args below meth c E A 9 (cells + 1) (slots + 6) Q 1704 [(0, vR E 300), (1, vR E 77), (2, vR E 88), (3, vR E 97), (4, vI i)] [] T) : jJ p l e room_1 s m args below meth c E A 9 cells slots Q 614 [(0, vR E 300), (1, vR E 77), (2, vR E 88), (3, vR E 97), (4, vI i)] [] M := by
  have hN := hX.2.2.2.2
  refine jw_aload_n hC dL_law_614 1 rfl rfl ?_
  refine jw_aload_n hC dL_law_615 0 rfl rfl ?_
  refine jw_iload hC dL_law_616 4 rfl ?_
  refine jw_iconst hC dL_law_618 ?_
  refine jw_iadd hC dL_law_619 ?_
  refine jw_sld hC hX (by omega) (by omega) dL_law_620 ?_
  refine jw_aload_n hC dL_law_621 0 rfl rfl ?_
  refine jw_iload hC dL_law_622 4 rfl ?_
  refine jw_iconst hC dL_law_624 ?_
  refine jw_iadd hC dL_law_625 ?_
  refine jw_sld hC hX (by omega) (by omega) dL_law_626 ?_
  refine jw_aload_n hC dL_law_627 3 rfl rfl ?_
  refine jx_callSH (post := hp_set M (sx xs (i + 1)) (sx xs (i + 2))) hC (h_set l hfl E M h.2.1.1 h.2.1.2.1 (sx xs (i + 1)) (sx_1 _ _) (sx_2 _ _) (sx xs (i + 2)) (sx_1 _ _) (sx_2 _ _)) sH_set dL_law_628 rfl rfl ⟨Nat.le_of_ble_eq_true rfl, Nat.le_of_ble_eq_true rfl⟩ ⟨hc1.1, hc1.2⟩ (Nat.le_of_ble_eq_true rfl) (fun v5 M5 g5 => ?_)
  obtain ⟨kk, rfl, hkk, hct⟩ := m_set l E (sx xs (i + 1)) (sx_1 _ _) (sx_2 _ _) (sx xs (i + 2)) (sx_1 _ _) (sx_2 _ _) h g5
  refine jw_istore (L' := [(5, _), (0, _), (1, _), (2, _), (3, _), (4, _)]) hC dL_law_631 (by decide) rfl ?_
  refine jw_aload_n hC dL_law_633 3 rfl rfl ?_
  refine jw_aload_n hC dL_law_634 1 rfl rfl ?_
  refine jw_iload hC dL_law_635 5 rfl ?_
  refine jw_iconst hC dL_law_637 ?_
  refine jw_iadd hC dL_law_638 ?_
  refine jw_sld hC hX (by omega) (by omega) dL_law_639 ?_
  refine jw_aload_n hC dL_law_640 1 rfl rfl ?_
  refine jw_iload hC dL_law_641 5 rfl ?_
  refine jw_iconst hC dL_law_643 ?_
  refine jw_iadd hC dL_law_644 ?_
  refine jw_sld hC hX (by omega) (by omega) dL_law_645 ?_
  refine jw_callV hC hct sV_L_120 ewF_m0.o dL_law_646 rfl rfl ⟨Nat.le_of_ble_eq_true rfl, Nat.le_of_ble_eq_true rfl⟩ ⟨hc1.1, hc1.2⟩ (Nat.le_of_ble_eq_true rfl) (fun v6 T g6 => ?_)
  obtain ⟨r, rfl, hth, hRl, hw⟩ := g6
  have wb1 := wr_b1 r
  have wb2 := wr_b2 r
  rw [show vpush (some (vI r)) [] = [vI (wr r)] from by rw [vI_wr]; rfl]
  refine jw_istore (L' := [(6, _), (5, _), (0, _), (1, _), (2, _), (3, _), (4, _)]) hC dL_law_649 (by decide) rfl ?_
  refine jw_aload_n hC dL_law_651 4 rfl rfl ?_
  refine jw_callV hC (c_X5_thrown l E T) sV_L_91 ewF_m0.o dL_law_652 rfl rfl ⟨Nat.le_of_ble_eq_true rfl, Nat.le_of_ble_eq_true rfl⟩ ⟨hc1.1, hc1.2⟩ (Nat.le_of_ble_eq_true rfl) (fun v7 T7 g7 => ?_)
  obtain ⟨rfl, rfl⟩ := g7
  rw [hth]
  refine jw_iload hC dL_law_655 1 rfl ?_
  refine jw_icmp_eq (tgt := 662) hC dL_law_657 (by decide) (by omega) (by omega) (by omega) (by omega) (fun _ => ?_) (fun hne => absurd rfl hne)
  refine jw_iload hC dL_law_662 1 rfl ?_
  refine jw_if_ne (tgt := 679) hC dL_law_664 (by decide) (by omega) (by omega) (fun hk0 => ?_) (fun hk0 => ?_)
  · refine jw_goto (tgt := 1704) hC dL_law_679 (by decide) ?_
    exact jw_loc (L' := [(0, _), (1, _), (2, _), (3, _), (4, _)]) [2, 3, 4, 5, 6] rfl (kb T hRl)
  · skip
    have hw := hw (by omega)
    refine jw_aload_n hC dL_law_667 5 rfl rfl ?_
    refine jw_iconst hC dL_law_668 ?_
    refine jw_lald97 hC dL_law_669 ?_
    rw [hw]
    refine jw_iload hC dL_law_670 0 rfl ?_
    refine jw_i2l hC dL_law_672 wb1 wb2 ?_
    refine jw_lcmp hC dL_law_673 (by omega) (by omega) (by omega) (by omega) ?_
    refine jw_if_eq (tgt := 679) hC dL_law_674 (by decide) lcm_b1 lcm_b2 (fun _ => ?_) (fun hne => absurd rfl (mt lcm_eq.mpr hne))
    refine jw_goto (tgt := 1704) hC dL_law_679 (by decide) ?_
    exact jw_loc (L' := [(0, _), (1, _), (2, _), (3, _), (4, _)]) [2, 3, 4, 5, 6] rfl (kb T hRl)
set_option maxRecDepth 100000 in
set_option maxHeartbeats 4000000 in
theorem lc_append {p : Program} {l : Launch} {e : Env} {s : State} {m : MethodId} {args : Array Value} {below : List Frame} {meth : Method} {c : Code} {E : ewE} {A : Nat → Prop} {cells slots : Nat} {Q : State → Prop} {b N : Nat} {xs : Nat → Int32} (hC : jC p e room_1 s m args meth c E A code 9 "EmbossPressLaw" (some .boolean)) (hfl : l.stackTraces = false) (hX : lwX s E A b N xs) {M : ewM} (h : Rl M) (i : Int) (hi : 0 ≤ i ∧ i + 5 < N) (hc1 : cells + 1 ≤ 601024 ∧ slots + 6 ≤ 7293034)
    (kb : ∀ T : ewM, Rl T → jJ p l e room_1 s m args below meth c E A 9 (cells + 1) (slots + 6) Q 1704 [(0, vR E 300), (1, vR E 77), (2, vR E 88), (3, vR E 97), (4, vI i)] [] T) : jJ p l e room_1 s m args below meth c E A 9 cells slots Q 682 [(0, vR E 300), (1, vR E 77), (2, vR E 88), (3, vR E 97), (4, vI i)] [] M := by
  have hN := hX.2.2.2.2
  refine jw_aload_n hC dL_law_682 1 rfl rfl ?_
  refine jw_aload_n hC dL_law_683 0 rfl rfl ?_
  refine jw_iload hC dL_law_684 4 rfl ?_
  refine jw_iconst hC dL_law_686 ?_
  refine jw_iadd hC dL_law_687 ?_
  refine jw_sld hC hX (by omega) (by omega) dL_law_688 ?_
  refine jw_aload_n hC dL_law_689 3 rfl rfl ?_
  refine jx_callSH (post := hp_append M (sx xs (i + 1))) hC (h_append l hfl E M h.2.2.2.1 (sx xs (i + 1)) (sx_1 _ _) (sx_2 _ _)) sH_append dL_law_690 rfl rfl ⟨Nat.le_of_ble_eq_true rfl, Nat.le_of_ble_eq_true rfl⟩ ⟨hc1.1, hc1.2⟩ (Nat.le_of_ble_eq_true rfl) (fun v5 M5 g5 => ?_)
  obtain ⟨kk, rfl, hkk, hct⟩ := m_append l E (sx xs (i + 1)) (sx_1 _ _) (sx_2 _ _) h g5
  refine jw_istore (L' := [(5, _), (0, _), (1, _), (2, _), (3, _), (4, _)]) hC dL_law_693 (by decide) rfl ?_
  refine jw_aload_n hC dL_law_695 3 rfl rfl ?_
  refine jw_aload_n hC dL_law_696 1 rfl rfl ?_
  refine jw_iload hC dL_law_697 5 rfl ?_
  refine jw_iconst hC dL_law_699 ?_
  refine jw_iadd hC dL_law_700 ?_
  refine jw_sld hC hX (by omega) (by omega) dL_law_701 ?_
  refine jw_callV hC hct sV_L_123 ewF_m0.o dL_law_702 rfl rfl ⟨Nat.le_of_ble_eq_true rfl, Nat.le_of_ble_eq_true rfl⟩ ⟨hc1.1, hc1.2⟩ (Nat.le_of_ble_eq_true rfl) (fun v6 T g6 => ?_)
  obtain ⟨r, rfl, hth, hRl, hw⟩ := g6
  have wb1 := wr_b1 r
  have wb2 := wr_b2 r
  rw [show vpush (some (vI r)) [] = [vI (wr r)] from by rw [vI_wr]; rfl]
  refine jw_istore (L' := [(6, _), (5, _), (0, _), (1, _), (2, _), (3, _), (4, _)]) hC dL_law_705 (by decide) rfl ?_
  refine jw_aload_n hC dL_law_707 4 rfl rfl ?_
  refine jw_callV hC (c_X5_thrown l E T) sV_L_91 ewF_m0.o dL_law_708 rfl rfl ⟨Nat.le_of_ble_eq_true rfl, Nat.le_of_ble_eq_true rfl⟩ ⟨hc1.1, hc1.2⟩ (Nat.le_of_ble_eq_true rfl) (fun v7 T7 g7 => ?_)
  obtain ⟨rfl, rfl⟩ := g7
  rw [hth]
  refine jw_iload hC dL_law_711 1 rfl ?_
  refine jw_icmp_eq (tgt := 718) hC dL_law_713 (by decide) (by omega) (by omega) (by omega) (by omega) (fun _ => ?_) (fun hne => absurd rfl hne)
  refine jw_iload hC dL_law_718 1 rfl ?_
  refine jw_if_ne (tgt := 735) hC dL_law_720 (by decide) (by omega) (by omega) (fun hk0 => ?_) (fun hk0 => ?_)
  · refine jw_goto (tgt := 1704) hC dL_law_735 (by decide) ?_
    exact jw_loc (L' := [(0, _), (1, _), (2, _), (3, _), (4, _)]) [2, 3, 4, 5, 6] rfl (kb T hRl)
  · skip
    have hw := hw (by omega)
    refine jw_aload_n hC dL_law_723 5 rfl rfl ?_
    refine jw_iconst hC dL_law_724 ?_
    refine jw_lald97 hC dL_law_725 ?_
    rw [hw]
    refine jw_iload hC dL_law_726 0 rfl ?_
    refine jw_i2l hC dL_law_728 wb1 wb2 ?_
    refine jw_lcmp hC dL_law_729 (by omega) (by omega) (by omega) (by omega) ?_
    refine jw_if_eq (tgt := 735) hC dL_law_730 (by decide) lcm_b1 lcm_b2 (fun _ => ?_) (fun hne => absurd rfl (mt lcm_eq.mpr hne))
    refine jw_goto (tgt := 1704) hC dL_law_735 (by decide) ?_
    exact jw_loc (L' := [(0, _), (1, _), (2, _), (3, _), (4, _)]) [2, 3, 4, 5, 6] rfl (kb T hRl)
set_option maxRecDepth 100000 in
set_option maxHeartbeats 4000000 in
theorem lc_clearBuffer {p : Program} {l : Launch} {e : Env} {s : State} {m : MethodId} {args : Array Value} {below : List Frame} {meth : Method} {c : Code} {E : ewE} {A : Nat → Prop} {cells slots : Nat} {Q : State → Prop} {b N : Nat} {xs : Nat → Int32} (hC : jC p e room_1 s m args meth c E A code 9 "EmbossPressLaw" (some .boolean)) (hfl : l.stackTraces = false) (hX : lwX s E A b N xs) {M : ewM} (h : Rl M) (i : Int) (hi : 0 ≤ i ∧ i + 5 < N) (hc1 : cells + 1 ≤ 601024 ∧ slots + 6 ≤ 7293034)
    (kb : ∀ T : ewM, Rl T → jJ p l e room_1 s m args below meth c E A 9 (cells + 1) (slots + 6) Q 1704 [(0, vR E 300), (1, vR E 77), (2, vR E 88), (3, vR E 97), (4, vI i)] [] T) : jJ p l e room_1 s m args below meth c E A 9 cells slots Q 738 [(0, vR E 300), (1, vR E 77), (2, vR E 88), (3, vR E 97), (4, vI i)] [] M := by
  have hN := hX.2.2.2.2
  refine jw_aload_n hC dL_law_738 1 rfl rfl ?_
  refine jw_callV hC (c_X4_clearBuffer l E M h.2.2.2.1) sV_L_124 ewF_x4.o dL_law_739 rfl rfl ⟨Nat.le_of_ble_eq_true rfl, Nat.le_of_ble_eq_true rfl⟩ ⟨Nat.le_of_succ_le hc1.1, Nat.le_trans (Nat.le_add_right _ _) hc1.2⟩ (Nat.le_of_ble_eq_true rfl) (fun v5 M5 g5 => ?_)
  obtain ⟨z, rfl, hct⟩ := n_clear l E h g5
  have wb1 := wr_b1 z
  have wb2 := wr_b2 z
  rw [show vpush (some (vI z)) [] = [vI (wr z)] from by rw [vI_wr]; rfl]
  refine jw_aload_n hC dL_law_742 2 rfl rfl ?_
  refine jw_callV hC hct sV_L_127 ewF_m0.o dL_law_743 rfl rfl ⟨Nat.le_of_ble_eq_true rfl, Nat.le_of_ble_eq_true rfl⟩ ⟨Nat.le_of_succ_le hc1.1, Nat.le_trans (Nat.le_add_right _ _) hc1.2⟩ (Nat.le_of_ble_eq_true rfl) (fun v6 T g6 => ?_)
  obtain ⟨r, rfl, hr, hRl⟩ := g6
  rw [show vpush (some (vI r)) [vI (wr z)] = [vI (wr z), vI (wr z)] from by rw [← hr, vI_wr]; rfl]
  refine jw_icmp_eq (tgt := 1704) hC dL_law_746 (by decide) (by omega) (by omega) (by omega) (by omega) (fun _ => ?_) (fun hne => absurd rfl hne)
  refine jw_widen (k := cells + 1) (n := slots + 6) (Nat.le_add_right _ _) (Nat.le_add_right _ _) ?_
  exact kb T hRl
set_option maxRecDepth 100000 in
set_option maxHeartbeats 4000000 in
theorem lc_firstError {p : Program} {l : Launch} {e : Env} {s : State} {m : MethodId} {args : Array Value} {below : List Frame} {meth : Method} {c : Code} {E : ewE} {A : Nat → Prop} {cells slots : Nat} {Q : State → Prop} {b N : Nat} {xs : Nat → Int32} (hC : jC p e room_1 s m args meth c E A code 9 "EmbossPressLaw" (some .boolean)) (hfl : l.stackTraces = false) (hX : lwX s E A b N xs) {M : ewM} (h : Rl M) (i : Int) (hi : 0 ≤ i ∧ i + 5 < N) (hc1 : cells + 1 ≤ 601024 ∧ slots + 6 ≤ 7293034)
    (kb : ∀ T : ewM, Rl T → jJ p l e room_1 s m args below meth c E A 9 (cells + 1) (slots + 6) Q 1704 [(0, vR E 300), (1, vR E 77), (2, vR E 88), (3, vR E 97), (4, vI i)] [] T) : jJ p l e room_1 s m args below meth c E A 9 cells slots Q 751 [(0, vR E 300), (1, vR E 77), (2, vR E 88), (3, vR E 97), (4, vI i)] [] M := by
  have hN := hX.2.2.2.2
  refine jw_aload_n hC dL_law_751 1 rfl rfl ?_
  refine jw_callV hC (c_X4_firstError l E M h.2.2.2.1) sV_L_128 ewF_x4.o dL_law_752 rfl rfl ⟨Nat.le_of_ble_eq_true rfl, Nat.le_of_ble_eq_true rfl⟩ ⟨Nat.le_of_succ_le hc1.1, Nat.le_trans (Nat.le_add_right _ _) hc1.2⟩ (Nat.le_of_ble_eq_true rfl) (fun v5 M5 g5 => ?_)
  obtain ⟨z, rfl, hct⟩ := n_first l E h g5
  have wb1 := wr_b1 z
  have wb2 := wr_b2 z
  rw [show vpush (some (vI z)) [] = [vI (wr z)] from by rw [vI_wr]; rfl]
  refine jw_aload_n hC dL_law_755 2 rfl rfl ?_
  refine jw_callV hC hct sV_L_131 ewF_m0.o dL_law_756 rfl rfl ⟨Nat.le_of_ble_eq_true rfl, Nat.le_of_ble_eq_true rfl⟩ ⟨Nat.le_of_succ_le hc1.1, Nat.le_trans (Nat.le_add_right _ _) hc1.2⟩ (Nat.le_of_ble_eq_true rfl) (fun v6 T g6 => ?_)
  obtain ⟨r, rfl, hr, hRl⟩ := g6
  rw [show vpush (some (vI r)) [vI (wr z)] = [vI (wr z), vI (wr z)] from by rw [← hr, vI_wr]; rfl]
  refine jw_icmp_eq (tgt := 1704) hC dL_law_759 (by decide) (by omega) (by omega) (by omega) (by omega) (fun _ => ?_) (fun hne => absurd rfl hne)
  refine jw_widen (k := cells + 1) (n := slots + 6) (Nat.le_add_right _ _) (Nat.le_add_right _ _) ?_
  exact kb T hRl
set_option maxRecDepth 100000 in
set_option maxHeartbeats 4000000 in
theorem lc_load {p : Program} {l : Launch} {e : Env} {s : State} {m : MethodId} {args : Array Value} {below : List Frame} {meth : Method} {c : Code} {E : ewE} {A : Nat → Prop} {cells slots : Nat} {Q : State → Prop} {b N : Nat} {xs : Nat → Int32} (hC : jC p e room_1 s m args meth c E A code 9 "EmbossPressLaw" (some .boolean)) (hfl : l.stackTraces = false) (hX : lwX s E A b N xs) {M : ewM} (h : Rl M) (i : Int) (hi : 0 ≤ i ∧ i + 5 < N) (hc1 : cells + 1 ≤ 601024 ∧ slots + 6 ≤ 7293034)
    (kb : ∀ T : ewM, Rl T → jJ p l e room_1 s m args below meth c E A 9 (cells + 1) (slots + 6) Q 1704 [(0, vR E 300), (1, vR E 77), (2, vR E 88), (3, vR E 97), (4, vI i)] [] T) : jJ p l e room_1 s m args below meth c E A 9 cells slots Q 764 [(0, vR E 300), (1, vR E 77), (2, vR E 88), (3, vR E 97), (4, vI i)] [] M := by
  have hN := hX.2.2.2.2
  refine jw_aload_n hC dL_law_764 1 rfl rfl ?_
  refine jw_aload_n hC dL_law_765 0 rfl rfl ?_
  refine jw_iload hC dL_law_766 4 rfl ?_
  refine jw_iconst hC dL_law_768 ?_
  refine jw_iadd hC dL_law_769 ?_
  refine jw_sld hC hX (by omega) (by omega) dL_law_770 ?_
  refine jw_aload_n hC dL_law_771 3 rfl rfl ?_
  refine jx_callSH (post := hp_load M (sx xs (i + 1))) hC (h_load l hfl E M h.2.1.1 h.2.1.2.1 h.2.2.2.1 (sx xs (i + 1)) (sx_1 _ _) (sx_2 _ _)) sH_load dL_law_772 rfl rfl ⟨Nat.le_of_ble_eq_true rfl, Nat.le_of_ble_eq_true rfl⟩ ⟨hc1.1, hc1.2⟩ (Nat.le_of_ble_eq_true rfl) (fun v5 M5 g5 => ?_)
  obtain ⟨kk, rfl, hkk, hct⟩ := m_load l E (sx xs (i + 1)) (sx_1 _ _) (sx_2 _ _) h g5
  refine jw_istore (L' := [(5, _), (0, _), (1, _), (2, _), (3, _), (4, _)]) hC dL_law_775 (by decide) rfl ?_
  refine jw_aload_n hC dL_law_777 3 rfl rfl ?_
  refine jw_aload_n hC dL_law_778 1 rfl rfl ?_
  refine jw_iload hC dL_law_779 5 rfl ?_
  refine jw_iconst hC dL_law_781 ?_
  refine jw_iadd hC dL_law_782 ?_
  refine jw_sld hC hX (by omega) (by omega) dL_law_783 ?_
  refine jw_callV hC hct sV_L_134 ewF_m0.o dL_law_784 rfl rfl ⟨Nat.le_of_ble_eq_true rfl, Nat.le_of_ble_eq_true rfl⟩ ⟨hc1.1, hc1.2⟩ (Nat.le_of_ble_eq_true rfl) (fun v6 T g6 => ?_)
  obtain ⟨r, rfl, hth, hRl, hw⟩ := g6
  have wb1 := wr_b1 r
  have wb2 := wr_b2 r
  rw [show vpush (some (vI r)) [] = [vI (wr r)] from by rw [vI_wr]; rfl]
  refine jw_istore (L' := [(6, _), (5, _), (0, _), (1, _), (2, _), (3, _), (4, _)]) hC dL_law_787 (by decide) rfl ?_
  refine jw_aload_n hC dL_law_789 4 rfl rfl ?_
  refine jw_callV hC (c_X5_thrown l E T) sV_L_91 ewF_m0.o dL_law_790 rfl rfl ⟨Nat.le_of_ble_eq_true rfl, Nat.le_of_ble_eq_true rfl⟩ ⟨hc1.1, hc1.2⟩ (Nat.le_of_ble_eq_true rfl) (fun v7 T7 g7 => ?_)
  obtain ⟨rfl, rfl⟩ := g7
  rw [hth]
  refine jw_iload hC dL_law_793 1 rfl ?_
  refine jw_icmp_eq (tgt := 800) hC dL_law_795 (by decide) (by omega) (by omega) (by omega) (by omega) (fun _ => ?_) (fun hne => absurd rfl hne)
  refine jw_iload hC dL_law_800 1 rfl ?_
  refine jw_if_ne (tgt := 817) hC dL_law_802 (by decide) (by omega) (by omega) (fun hk0 => ?_) (fun hk0 => ?_)
  · refine jw_goto (tgt := 1704) hC dL_law_817 (by decide) ?_
    exact jw_loc (L' := [(0, _), (1, _), (2, _), (3, _), (4, _)]) [2, 3, 4, 5, 6] rfl (kb T hRl)
  · skip
    have hw := hw (by omega)
    refine jw_aload_n hC dL_law_805 5 rfl rfl ?_
    refine jw_iconst hC dL_law_806 ?_
    refine jw_lald97 hC dL_law_807 ?_
    rw [hw]
    refine jw_iload hC dL_law_808 0 rfl ?_
    refine jw_i2l hC dL_law_810 wb1 wb2 ?_
    refine jw_lcmp hC dL_law_811 (by omega) (by omega) (by omega) (by omega) ?_
    refine jw_if_eq (tgt := 817) hC dL_law_812 (by decide) lcm_b1 lcm_b2 (fun _ => ?_) (fun hne => absurd rfl (mt lcm_eq.mpr hne))
    refine jw_goto (tgt := 1704) hC dL_law_817 (by decide) ?_
    exact jw_loc (L' := [(0, _), (1, _), (2, _), (3, _), (4, _)]) [2, 3, 4, 5, 6] rfl (kb T hRl)
set_option maxRecDepth 100000 in
set_option maxHeartbeats 4000000 in
theorem lc_keep {p : Program} {l : Launch} {e : Env} {s : State} {m : MethodId} {args : Array Value} {below : List Frame} {meth : Method} {c : Code} {E : ewE} {A : Nat → Prop} {cells slots : Nat} {Q : State → Prop} {b N : Nat} {xs : Nat → Int32} (hC : jC p e room_1 s m args meth c E A code 9 "EmbossPressLaw" (some .boolean)) (hfl : l.stackTraces = false) (hX : lwX s E A b N xs) {M : ewM} (h : Rl M) (i : Int) (hi : 0 ≤ i ∧ i + 5 < N) (hc1 : cells + 1 ≤ 601024 ∧ slots + 6 ≤ 7293034)
    (kb : ∀ T : ewM, Rl T → jJ p l e room_1 s m args below meth c E A 9 (cells + 1) (slots + 6) Q 1704 [(0, vR E 300), (1, vR E 77), (2, vR E 88), (3, vR E 97), (4, vI i)] [] T) : jJ p l e room_1 s m args below meth c E A 9 cells slots Q 820 [(0, vR E 300), (1, vR E 77), (2, vR E 88), (3, vR E 97), (4, vI i)] [] M := by
  have hN := hX.2.2.2.2
  refine jw_aload_n hC dL_law_820 1 rfl rfl ?_
  refine jw_aload_n hC dL_law_821 0 rfl rfl ?_
  refine jw_iload hC dL_law_822 4 rfl ?_
  refine jw_iconst hC dL_law_824 ?_
  refine jw_iadd hC dL_law_825 ?_
  refine jw_sld hC hX (by omega) (by omega) dL_law_826 ?_
  refine jw_aload_n hC dL_law_827 3 rfl rfl ?_
  refine jx_callSH (post := hp_keep M (sx xs (i + 1))) hC (h_keep l hfl E M (sx xs (i + 1)) (sx_1 _ _) (sx_2 _ _)) sH_keep dL_law_828 rfl rfl ⟨Nat.le_of_ble_eq_true rfl, Nat.le_of_ble_eq_true rfl⟩ ⟨hc1.1, hc1.2⟩ (Nat.le_of_ble_eq_true rfl) (fun v5 M5 g5 => ?_)
  obtain ⟨kk, rfl, hkk, hct⟩ := m_keep l E (sx xs (i + 1)) (sx_1 _ _) (sx_2 _ _) h g5
  refine jw_istore (L' := [(5, _), (0, _), (1, _), (2, _), (3, _), (4, _)]) hC dL_law_831 (by decide) rfl ?_
  refine jw_aload_n hC dL_law_833 3 rfl rfl ?_
  refine jw_aload_n hC dL_law_834 1 rfl rfl ?_
  refine jw_iload hC dL_law_835 5 rfl ?_
  refine jw_iconst hC dL_law_837 ?_
  refine jw_iadd hC dL_law_838 ?_
  refine jw_sld hC hX (by omega) (by omega) dL_law_839 ?_
  refine jw_callV hC hct sV_L_137 ewF_m0.o dL_law_840 rfl rfl ⟨Nat.le_of_ble_eq_true rfl, Nat.le_of_ble_eq_true rfl⟩ ⟨hc1.1, hc1.2⟩ (Nat.le_of_ble_eq_true rfl) (fun v6 T g6 => ?_)
  obtain ⟨r, rfl, hth, hRl, hw⟩ := g6
  have wb1 := wr_b1 r
  have wb2 := wr_b2 r
  rw [show vpush (some (vI r)) [] = [vI (wr r)] from by rw [vI_wr]; rfl]
  refine jw_istore (L' := [(6, _), (5, _), (0, _), (1, _), (2, _), (3, _), (4, _)]) hC dL_law_843 (by decide) rfl ?_
  refine jw_aload_n hC dL_law_845 4 rfl rfl ?_
  refine jw_callV hC (c_X5_thrown l E T) sV_L_91 ewF_m0.o dL_law_846 rfl rfl ⟨Nat.le_of_ble_eq_true rfl, Nat.le_of_ble_eq_true rfl⟩ ⟨hc1.1, hc1.2⟩ (Nat.le_of_ble_eq_true rfl) (fun v7 T7 g7 => ?_)
  obtain ⟨rfl, rfl⟩ := g7
  rw [hth]
  refine jw_iload hC dL_law_849 1 rfl ?_
  refine jw_icmp_eq (tgt := 856) hC dL_law_851 (by decide) (by omega) (by omega) (by omega) (by omega) (fun _ => ?_) (fun hne => absurd rfl hne)
  refine jw_iload hC dL_law_856 1 rfl ?_
  refine jw_if_ne (tgt := 873) hC dL_law_858 (by decide) (by omega) (by omega) (fun hk0 => ?_) (fun hk0 => ?_)
  · refine jw_goto (tgt := 1704) hC dL_law_873 (by decide) ?_
    exact jw_loc (L' := [(0, _), (1, _), (2, _), (3, _), (4, _)]) [2, 3, 4, 5, 6] rfl (kb T hRl)
  · skip
    have hw := hw (by omega)
    refine jw_aload_n hC dL_law_861 5 rfl rfl ?_
    refine jw_iconst hC dL_law_862 ?_
    refine jw_lald97 hC dL_law_863 ?_
    rw [hw]
    refine jw_iload hC dL_law_864 0 rfl ?_
    refine jw_i2l hC dL_law_866 wb1 wb2 ?_
    refine jw_lcmp hC dL_law_867 (by omega) (by omega) (by omega) (by omega) ?_
    refine jw_if_eq (tgt := 873) hC dL_law_868 (by decide) lcm_b1 lcm_b2 (fun _ => ?_) (fun hne => absurd rfl (mt lcm_eq.mpr hne))
    refine jw_goto (tgt := 1704) hC dL_law_873 (by decide) ?_
    exact jw_loc (L' := [(0, _), (1, _), (2, _), (3, _), (4, _)]) [2, 3, 4, 5, 6] rfl (kb T hRl)
set_option maxRecDepth 100000 in
set_option maxHeartbeats 4000000 in
theorem lc_goBack {p : Program} {l : Launch} {e : Env} {s : State} {m : MethodId} {args : Array Value} {below : List Frame} {meth : Method} {c : Code} {E : ewE} {A : Nat → Prop} {cells slots : Nat} {Q : State → Prop} {b N : Nat} {xs : Nat → Int32} (hC : jC p e room_1 s m args meth c E A code 9 "EmbossPressLaw" (some .boolean)) (hfl : l.stackTraces = false) (hX : lwX s E A b N xs) {M : ewM} (h : Rl M) (i : Int) (hi : 0 ≤ i ∧ i + 5 < N) (hc1 : cells + 1 ≤ 601024 ∧ slots + 6 ≤ 7293034)
    (kb : ∀ T : ewM, Rl T → jJ p l e room_1 s m args below meth c E A 9 (cells + 1) (slots + 6) Q 1704 [(0, vR E 300), (1, vR E 77), (2, vR E 88), (3, vR E 97), (4, vI i)] [] T) : jJ p l e room_1 s m args below meth c E A 9 cells slots Q 876 [(0, vR E 300), (1, vR E 77), (2, vR E 88), (3, vR E 97), (4, vI i)] [] M := by
  have hN := hX.2.2.2.2
  refine jw_aload_n hC dL_law_876 1 rfl rfl ?_
  refine jw_aload_n hC dL_law_877 0 rfl rfl ?_
  refine jw_iload hC dL_law_878 4 rfl ?_
  refine jw_iconst hC dL_law_880 ?_
  refine jw_iadd hC dL_law_881 ?_
  refine jw_sld hC hX (by omega) (by omega) dL_law_882 ?_
  refine jw_aload_n hC dL_law_883 3 rfl rfl ?_
  refine jx_callSH (post := hp_goBack M (sx xs (i + 1))) hC (h_goBack l hfl E M h.2.1.1 h.2.1.2.1 (sx xs (i + 1)) (sx_1 _ _) (sx_2 _ _)) sH_goBack dL_law_884 rfl rfl ⟨Nat.le_of_ble_eq_true rfl, Nat.le_of_ble_eq_true rfl⟩ ⟨hc1.1, hc1.2⟩ (Nat.le_of_ble_eq_true rfl) (fun v5 M5 g5 => ?_)
  obtain ⟨kk, rfl, hkk, hct⟩ := m_goBack l E (sx xs (i + 1)) (sx_1 _ _) (sx_2 _ _) h g5
  refine jw_istore (L' := [(5, _), (0, _), (1, _), (2, _), (3, _), (4, _)]) hC dL_law_887 (by decide) rfl ?_
  refine jw_aload_n hC dL_law_889 3 rfl rfl ?_
  refine jw_aload_n hC dL_law_890 1 rfl rfl ?_
  refine jw_iload hC dL_law_891 5 rfl ?_
  refine jw_iconst hC dL_law_893 ?_
  refine jw_iadd hC dL_law_894 ?_
  refine jw_sld hC hX (by omega) (by omega) dL_law_895 ?_
  refine jw_callV hC hct sV_L_140 ewF_m0.o dL_law_896 rfl rfl ⟨Nat.le_of_ble_eq_true rfl, Nat.le_of_ble_eq_true rfl⟩ ⟨hc1.1, hc1.2⟩ (Nat.le_of_ble_eq_true rfl) (fun v6 T g6 => ?_)
  obtain ⟨r, rfl, hth, hRl, hw⟩ := g6
  have wb1 := wr_b1 r
  have wb2 := wr_b2 r
  rw [show vpush (some (vI r)) [] = [vI (wr r)] from by rw [vI_wr]; rfl]
  refine jw_istore (L' := [(6, _), (5, _), (0, _), (1, _), (2, _), (3, _), (4, _)]) hC dL_law_899 (by decide) rfl ?_
  refine jw_aload_n hC dL_law_901 4 rfl rfl ?_
  refine jw_callV hC (c_X5_thrown l E T) sV_L_91 ewF_m0.o dL_law_902 rfl rfl ⟨Nat.le_of_ble_eq_true rfl, Nat.le_of_ble_eq_true rfl⟩ ⟨hc1.1, hc1.2⟩ (Nat.le_of_ble_eq_true rfl) (fun v7 T7 g7 => ?_)
  obtain ⟨rfl, rfl⟩ := g7
  rw [hth]
  refine jw_iload hC dL_law_905 1 rfl ?_
  refine jw_icmp_eq (tgt := 912) hC dL_law_907 (by decide) (by omega) (by omega) (by omega) (by omega) (fun _ => ?_) (fun hne => absurd rfl hne)
  refine jw_iload hC dL_law_912 1 rfl ?_
  refine jw_if_ne (tgt := 929) hC dL_law_914 (by decide) (by omega) (by omega) (fun hk0 => ?_) (fun hk0 => ?_)
  · refine jw_goto (tgt := 1704) hC dL_law_929 (by decide) ?_
    exact jw_loc (L' := [(0, _), (1, _), (2, _), (3, _), (4, _)]) [2, 3, 4, 5, 6] rfl (kb T hRl)
  · skip
    have hw := hw (by omega)
    refine jw_aload_n hC dL_law_917 5 rfl rfl ?_
    refine jw_iconst hC dL_law_918 ?_
    refine jw_lald97 hC dL_law_919 ?_
    rw [hw]
    refine jw_iload hC dL_law_920 0 rfl ?_
    refine jw_i2l hC dL_law_922 wb1 wb2 ?_
    refine jw_lcmp hC dL_law_923 (by omega) (by omega) (by omega) (by omega) ?_
    refine jw_if_eq (tgt := 929) hC dL_law_924 (by decide) lcm_b1 lcm_b2 (fun _ => ?_) (fun hne => absurd rfl (mt lcm_eq.mpr hne))
    refine jw_goto (tgt := 1704) hC dL_law_929 (by decide) ?_
    exact jw_loc (L' := [(0, _), (1, _), (2, _), (3, _), (4, _)]) [2, 3, 4, 5, 6] rfl (kb T hRl)
set_option maxRecDepth 100000 in
set_option maxHeartbeats 4000000 in
theorem lc_undo {p : Program} {l : Launch} {e : Env} {s : State} {m : MethodId} {args : Array Value} {below : List Frame} {meth : Method} {c : Code} {E : ewE} {A : Nat → Prop} {cells slots : Nat} {Q : State → Prop} {b N : Nat} {xs : Nat → Int32} (hC : jC p e room_1 s m args meth c E A code 9 "EmbossPressLaw" (some .boolean)) (hfl : l.stackTraces = false) (hX : lwX s E A b N xs) {M : ewM} (h : Rl M) (i : Int) (hi : 0 ≤ i ∧ i + 5 < N) (hc1 : cells + 1 ≤ 601024 ∧ slots + 6 ≤ 7293034)
    (kb : ∀ T : ewM, Rl T → jJ p l e room_1 s m args below meth c E A 9 (cells + 1) (slots + 6) Q 1704 [(0, vR E 300), (1, vR E 77), (2, vR E 88), (3, vR E 97), (4, vI i)] [] T) : jJ p l e room_1 s m args below meth c E A 9 cells slots Q 932 [(0, vR E 300), (1, vR E 77), (2, vR E 88), (3, vR E 97), (4, vI i)] [] M := by
  have hN := hX.2.2.2.2
  refine jw_aload_n hC dL_law_932 1 rfl rfl ?_
  refine jw_aload_n hC dL_law_933 3 rfl rfl ?_
  refine jx_callSH (post := hp_undo M) hC (h_undo l hfl E M h.2.1.1 h.2.1.2.1) sH_undo dL_law_934 rfl rfl ⟨Nat.le_of_ble_eq_true rfl, Nat.le_of_ble_eq_true rfl⟩ ⟨hc1.1, hc1.2⟩ (Nat.le_of_ble_eq_true rfl) (fun v5 M5 g5 => ?_)
  obtain ⟨kk, rfl, hkk, hct⟩ := m_undo l E h g5
  refine jw_istore (L' := [(5, _), (0, _), (1, _), (2, _), (3, _), (4, _)]) hC dL_law_937 (by decide) rfl ?_
  refine jw_aload_n hC dL_law_939 3 rfl rfl ?_
  refine jw_callV hC hct sV_L_144 ewF_m0.o dL_law_940 rfl rfl ⟨Nat.le_of_ble_eq_true rfl, Nat.le_of_ble_eq_true rfl⟩ ⟨hc1.1, hc1.2⟩ (Nat.le_of_ble_eq_true rfl) (fun v6 T g6 => ?_)
  obtain ⟨r, rfl, hth, hRl, hw⟩ := g6
  have wb1 := wr_b1 r
  have wb2 := wr_b2 r
  rw [show vpush (some (vI r)) [] = [vI (wr r)] from by rw [vI_wr]; rfl]
  refine jw_istore (L' := [(6, _), (5, _), (0, _), (1, _), (2, _), (3, _), (4, _)]) hC dL_law_943 (by decide) rfl ?_
  refine jw_aload_n hC dL_law_945 4 rfl rfl ?_
  refine jw_callV hC (c_X5_thrown l E T) sV_L_91 ewF_m0.o dL_law_946 rfl rfl ⟨Nat.le_of_ble_eq_true rfl, Nat.le_of_ble_eq_true rfl⟩ ⟨hc1.1, hc1.2⟩ (Nat.le_of_ble_eq_true rfl) (fun v7 T7 g7 => ?_)
  obtain ⟨rfl, rfl⟩ := g7
  rw [hth]
  refine jw_iload hC dL_law_949 1 rfl ?_
  refine jw_icmp_eq (tgt := 956) hC dL_law_951 (by decide) (by omega) (by omega) (by omega) (by omega) (fun _ => ?_) (fun hne => absurd rfl hne)
  refine jw_iload hC dL_law_956 1 rfl ?_
  refine jw_if_ne (tgt := 973) hC dL_law_958 (by decide) (by omega) (by omega) (fun hk0 => ?_) (fun hk0 => ?_)
  · refine jw_goto (tgt := 1704) hC dL_law_973 (by decide) ?_
    exact jw_loc (L' := [(0, _), (1, _), (2, _), (3, _), (4, _)]) [2, 3, 4, 5, 6] rfl (kb T hRl)
  · skip
    have hw := hw (by omega)
    refine jw_aload_n hC dL_law_961 5 rfl rfl ?_
    refine jw_iconst hC dL_law_962 ?_
    refine jw_lald97 hC dL_law_963 ?_
    rw [hw]
    refine jw_iload hC dL_law_964 0 rfl ?_
    refine jw_i2l hC dL_law_966 wb1 wb2 ?_
    refine jw_lcmp hC dL_law_967 (by omega) (by omega) (by omega) (by omega) ?_
    refine jw_if_eq (tgt := 973) hC dL_law_968 (by decide) lcm_b1 lcm_b2 (fun _ => ?_) (fun hne => absurd rfl (mt lcm_eq.mpr hne))
    refine jw_goto (tgt := 1704) hC dL_law_973 (by decide) ?_
    exact jw_loc (L' := [(0, _), (1, _), (2, _), (3, _), (4, _)]) [2, 3, 4, 5, 6] rfl (kb T hRl)
set_option maxRecDepth 100000 in
set_option maxHeartbeats 4000000 in
theorem lc_dieOf {p : Program} {l : Launch} {e : Env} {s : State} {m : MethodId} {args : Array Value} {below : List Frame} {meth : Method} {c : Code} {E : ewE} {A : Nat → Prop} {cells slots : Nat} {Q : State → Prop} {b N : Nat} {xs : Nat → Int32} (hC : jC p e room_1 s m args meth c E A code 9 "EmbossPressLaw" (some .boolean)) (hfl : l.stackTraces = false) (hX : lwX s E A b N xs) {M : ewM} (h : Rl M) (i : Int) (hi : 0 ≤ i ∧ i + 5 < N) (hc1 : cells + 1 ≤ 601024 ∧ slots + 6 ≤ 7293034)
    (kb : ∀ T : ewM, Rl T → jJ p l e room_1 s m args below meth c E A 9 (cells + 1) (slots + 6) Q 1704 [(0, vR E 300), (1, vR E 77), (2, vR E 88), (3, vR E 97), (4, vI i)] [] T) : jJ p l e room_1 s m args below meth c E A 9 cells slots Q 976 [(0, vR E 300), (1, vR E 77), (2, vR E 88), (3, vR E 97), (4, vI i)] [] M := by
  have hN := hX.2.2.2.2
  refine jw_aload_n hC dL_law_976 1 rfl rfl ?_
  refine jw_aload_n hC dL_law_977 0 rfl rfl ?_
  refine jw_iload hC dL_law_978 4 rfl ?_
  refine jw_iconst hC dL_law_980 ?_
  refine jw_iadd hC dL_law_981 ?_
  refine jw_sld hC hX (by omega) (by omega) dL_law_982 ?_
  refine jw_aload_n hC dL_law_983 0 rfl rfl ?_
  refine jw_iload hC dL_law_984 4 rfl ?_
  refine jw_iconst hC dL_law_986 ?_
  refine jw_iadd hC dL_law_987 ?_
  refine jw_sld hC hX (by omega) (by omega) dL_law_988 ?_
  refine jw_aload_n hC dL_law_989 0 rfl rfl ?_
  refine jw_iload hC dL_law_990 4 rfl ?_
  refine jw_iconst hC dL_law_992 ?_
  refine jw_iadd hC dL_law_993 ?_
  refine jw_sld hC hX (by omega) (by omega) dL_law_994 ?_
  refine jw_aload_n hC dL_law_995 0 rfl rfl ?_
  refine jw_iload hC dL_law_996 4 rfl ?_
  refine jw_iconst hC dL_law_998 ?_
  refine jw_iadd hC dL_law_999 ?_
  refine jw_sld hC hX (by omega) (by omega) dL_law_1000 ?_
  refine jw_aload_n hC dL_law_1001 3 rfl rfl ?_
  refine jx_callSH (post := hp_dieOf M (sx xs (i + 1)) (sx xs (i + 2)) (sx xs (i + 3)) (sx xs (i + 4))) hC (h_dieOf l hfl E M (sx xs (i + 1)) (sx_1 _ _) (sx_2 _ _) (sx xs (i + 2)) (sx_1 _ _) (sx_2 _ _) (sx xs (i + 3)) (sx_1 _ _) (sx_2 _ _) (sx xs (i + 4)) (sx_1 _ _) (sx_2 _ _)) sH_dieOf dL_law_1002 rfl rfl ⟨Nat.le_of_ble_eq_true rfl, Nat.le_of_ble_eq_true rfl⟩ ⟨hc1.1, hc1.2⟩ (Nat.le_of_ble_eq_true rfl) (fun v5 M5 g5 => ?_)
  obtain ⟨kk, rfl, hkk, hct⟩ := m_dieOf l E (sx xs (i + 1)) (sx_1 _ _) (sx_2 _ _) (sx xs (i + 2)) (sx_1 _ _) (sx_2 _ _) (sx xs (i + 3)) (sx_1 _ _) (sx_2 _ _) (sx xs (i + 4)) (sx_1 _ _) (sx_2 _ _) h g5
  refine jw_istore (L' := [(5, _), (0, _), (1, _), (2, _), (3, _), (4, _)]) hC dL_law_1005 (by decide) rfl ?_
  refine jw_aload_n hC dL_law_1007 3 rfl rfl ?_
  refine jw_aload_n hC dL_law_1008 1 rfl rfl ?_
  refine jw_iload hC dL_law_1009 5 rfl ?_
  refine jw_iconst hC dL_law_1011 ?_
  refine jw_iadd hC dL_law_1012 ?_
  refine jw_sld hC hX (by omega) (by omega) dL_law_1013 ?_
  refine jw_aload_n hC dL_law_1014 1 rfl rfl ?_
  refine jw_iload hC dL_law_1015 5 rfl ?_
  refine jw_iconst hC dL_law_1017 ?_
  refine jw_iadd hC dL_law_1018 ?_
  refine jw_sld hC hX (by omega) (by omega) dL_law_1019 ?_
  refine jw_aload_n hC dL_law_1020 1 rfl rfl ?_
  refine jw_iload hC dL_law_1021 5 rfl ?_
  refine jw_iconst hC dL_law_1023 ?_
  refine jw_iadd hC dL_law_1024 ?_
  refine jw_sld hC hX (by omega) (by omega) dL_law_1025 ?_
  refine jw_aload_n hC dL_law_1026 1 rfl rfl ?_
  refine jw_iload hC dL_law_1027 5 rfl ?_
  refine jw_iconst hC dL_law_1029 ?_
  refine jw_iadd hC dL_law_1030 ?_
  refine jw_sld hC hX (by omega) (by omega) dL_law_1031 ?_
  refine jw_callV hC hct sV_L_147 ewF_m0.o dL_law_1032 rfl rfl ⟨Nat.le_of_ble_eq_true rfl, Nat.le_of_ble_eq_true rfl⟩ ⟨hc1.1, hc1.2⟩ (Nat.le_of_ble_eq_true rfl) (fun v6 T g6 => ?_)
  obtain ⟨r, rfl, hth, hRl, hw⟩ := g6
  have wb1 := wr_b1 r
  have wb2 := wr_b2 r
  rw [show vpush (some (vI r)) [] = [vI (wr r)] from by rw [vI_wr]; rfl]
  refine jw_istore (L' := [(6, _), (5, _), (0, _), (1, _), (2, _), (3, _), (4, _)]) hC dL_law_1035 (by decide) rfl ?_
  refine jw_aload_n hC dL_law_1037 4 rfl rfl ?_
  refine jw_callV hC (c_X5_thrown l E T) sV_L_91 ewF_m0.o dL_law_1038 rfl rfl ⟨Nat.le_of_ble_eq_true rfl, Nat.le_of_ble_eq_true rfl⟩ ⟨hc1.1, hc1.2⟩ (Nat.le_of_ble_eq_true rfl) (fun v7 T7 g7 => ?_)
  obtain ⟨rfl, rfl⟩ := g7
  rw [hth]
  refine jw_iload hC dL_law_1041 1 rfl ?_
  refine jw_icmp_eq (tgt := 1048) hC dL_law_1043 (by decide) (by omega) (by omega) (by omega) (by omega) (fun _ => ?_) (fun hne => absurd rfl hne)
  refine jw_iload hC dL_law_1048 1 rfl ?_
  refine jw_if_ne (tgt := 1065) hC dL_law_1050 (by decide) (by omega) (by omega) (fun hk0 => ?_) (fun hk0 => ?_)
  · refine jw_goto (tgt := 1704) hC dL_law_1065 (by decide) ?_
    exact jw_loc (L' := [(0, _), (1, _), (2, _), (3, _), (4, _)]) [2, 3, 4, 5, 6] rfl (kb T hRl)
  · skip
    have hw := hw (by omega)
    refine jw_aload_n hC dL_law_1053 5 rfl rfl ?_
    refine jw_iconst hC dL_law_1054 ?_
    refine jw_lald97 hC dL_law_1055 ?_
    rw [hw]
    refine jw_iload hC dL_law_1056 0 rfl ?_
    refine jw_i2l hC dL_law_1058 wb1 wb2 ?_
    refine jw_lcmp hC dL_law_1059 (by omega) (by omega) (by omega) (by omega) ?_
    refine jw_if_eq (tgt := 1065) hC dL_law_1060 (by decide) lcm_b1 lcm_b2 (fun _ => ?_) (fun hne => absurd rfl (mt lcm_eq.mpr hne))
    refine jw_goto (tgt := 1704) hC dL_law_1065 (by decide) ?_
    exact jw_loc (L' := [(0, _), (1, _), (2, _), (3, _), (4, _)]) [2, 3, 4, 5, 6] rfl (kb T hRl)
set_option maxRecDepth 100000 in
set_option maxHeartbeats 4000000 in
theorem lc_place {p : Program} {l : Launch} {e : Env} {s : State} {m : MethodId} {args : Array Value} {below : List Frame} {meth : Method} {c : Code} {E : ewE} {A : Nat → Prop} {cells slots : Nat} {Q : State → Prop} {b N : Nat} {xs : Nat → Int32} (hC : jC p e room_1 s m args meth c E A code 9 "EmbossPressLaw" (some .boolean)) (hfl : l.stackTraces = false) (hX : lwX s E A b N xs) {M : ewM} (h : Rl M) (i : Int) (hi : 0 ≤ i ∧ i + 5 < N) (hc1 : cells + 1 ≤ 601024 ∧ slots + 6 ≤ 7293034)
    (kb : ∀ T : ewM, Rl T → jJ p l e room_1 s m args below meth c E A 9 (cells + 1) (slots + 6) Q 1704 [(0, vR E 300), (1, vR E 77), (2, vR E 88), (3, vR E 97), (4, vI i)] [] T) : jJ p l e room_1 s m args below meth c E A 9 cells slots Q 1068 [(0, vR E 300), (1, vR E 77), (2, vR E 88), (3, vR E 97), (4, vI i)] [] M := by
  have hN := hX.2.2.2.2
  refine jw_aload_n hC dL_law_1068 1 rfl rfl ?_
  refine jw_aload_n hC dL_law_1069 0 rfl rfl ?_
  refine jw_iload hC dL_law_1070 4 rfl ?_
  refine jw_iconst hC dL_law_1072 ?_
  refine jw_iadd hC dL_law_1073 ?_
  refine jw_sld hC hX (by omega) (by omega) dL_law_1074 ?_
  refine jw_aload_n hC dL_law_1075 0 rfl rfl ?_
  refine jw_iload hC dL_law_1076 4 rfl ?_
  refine jw_iconst hC dL_law_1078 ?_
  refine jw_iadd hC dL_law_1079 ?_
  refine jw_sld hC hX (by omega) (by omega) dL_law_1080 ?_
  refine jw_aload_n hC dL_law_1081 0 rfl rfl ?_
  refine jw_iload hC dL_law_1082 4 rfl ?_
  refine jw_iconst hC dL_law_1084 ?_
  refine jw_iadd hC dL_law_1085 ?_
  refine jw_sld hC hX (by omega) (by omega) dL_law_1086 ?_
  refine jw_aload_n hC dL_law_1087 3 rfl rfl ?_
  refine jx_callSH (post := hp_place M (sx xs (i + 1)) (sx xs (i + 2)) (sx xs (i + 3))) hC (h_place l hfl E M (Rl_st0 h) (sx xs (i + 1)) (sx_1 _ _) (sx_2 _ _) (sx xs (i + 2)) (sx_1 _ _) (sx_2 _ _) (sx xs (i + 3)) (sx_1 _ _) (sx_2 _ _)) sH_place dL_law_1088 rfl rfl ⟨Nat.le_of_ble_eq_true rfl, Nat.le_of_ble_eq_true rfl⟩ ⟨hc1.1, hc1.2⟩ (Nat.le_of_ble_eq_true rfl) (fun v5 M5 g5 => ?_)
  obtain ⟨kk, rfl, hkk, hct⟩ := m_place l E (sx xs (i + 1)) (sx_1 _ _) (sx_2 _ _) (sx xs (i + 2)) (sx_1 _ _) (sx_2 _ _) (sx xs (i + 3)) (sx_1 _ _) (sx_2 _ _) h g5
  refine jw_istore (L' := [(5, _), (0, _), (1, _), (2, _), (3, _), (4, _)]) hC dL_law_1091 (by decide) rfl ?_
  refine jw_aload_n hC dL_law_1093 3 rfl rfl ?_
  refine jw_aload_n hC dL_law_1094 1 rfl rfl ?_
  refine jw_iload hC dL_law_1095 5 rfl ?_
  refine jw_iconst hC dL_law_1097 ?_
  refine jw_iadd hC dL_law_1098 ?_
  refine jw_sld hC hX (by omega) (by omega) dL_law_1099 ?_
  refine jw_aload_n hC dL_law_1100 1 rfl rfl ?_
  refine jw_iload hC dL_law_1101 5 rfl ?_
  refine jw_iconst hC dL_law_1103 ?_
  refine jw_iadd hC dL_law_1104 ?_
  refine jw_sld hC hX (by omega) (by omega) dL_law_1105 ?_
  refine jw_aload_n hC dL_law_1106 1 rfl rfl ?_
  refine jw_iload hC dL_law_1107 5 rfl ?_
  refine jw_iconst hC dL_law_1109 ?_
  refine jw_iadd hC dL_law_1110 ?_
  refine jw_sld hC hX (by omega) (by omega) dL_law_1111 ?_
  refine jw_callV hC hct sV_L_150 ewF_m0.o dL_law_1112 rfl rfl ⟨Nat.le_of_ble_eq_true rfl, Nat.le_of_ble_eq_true rfl⟩ ⟨hc1.1, hc1.2⟩ (Nat.le_of_ble_eq_true rfl) (fun v6 T g6 => ?_)
  obtain ⟨r, rfl, hth, hRl, hw⟩ := g6
  have wb1 := wr_b1 r
  have wb2 := wr_b2 r
  rw [show vpush (some (vI r)) [] = [vI (wr r)] from by rw [vI_wr]; rfl]
  refine jw_istore (L' := [(6, _), (5, _), (0, _), (1, _), (2, _), (3, _), (4, _)]) hC dL_law_1115 (by decide) rfl ?_
  refine jw_aload_n hC dL_law_1117 4 rfl rfl ?_
  refine jw_callV hC (c_X5_thrown l E T) sV_L_91 ewF_m0.o dL_law_1118 rfl rfl ⟨Nat.le_of_ble_eq_true rfl, Nat.le_of_ble_eq_true rfl⟩ ⟨hc1.1, hc1.2⟩ (Nat.le_of_ble_eq_true rfl) (fun v7 T7 g7 => ?_)
  obtain ⟨rfl, rfl⟩ := g7
  rw [hth]
  refine jw_iload hC dL_law_1121 1 rfl ?_
  refine jw_icmp_eq (tgt := 1128) hC dL_law_1123 (by decide) (by omega) (by omega) (by omega) (by omega) (fun _ => ?_) (fun hne => absurd rfl hne)
  refine jw_iload hC dL_law_1128 1 rfl ?_
  refine jw_if_ne (tgt := 1145) hC dL_law_1130 (by decide) (by omega) (by omega) (fun hk0 => ?_) (fun hk0 => ?_)
  · refine jw_goto (tgt := 1704) hC dL_law_1145 (by decide) ?_
    exact jw_loc (L' := [(0, _), (1, _), (2, _), (3, _), (4, _)]) [2, 3, 4, 5, 6] rfl (kb T hRl)
  · skip
    have hw := hw (by omega)
    refine jw_aload_n hC dL_law_1133 5 rfl rfl ?_
    refine jw_iconst hC dL_law_1134 ?_
    refine jw_lald97 hC dL_law_1135 ?_
    rw [hw]
    refine jw_iload hC dL_law_1136 0 rfl ?_
    refine jw_i2l hC dL_law_1138 wb1 wb2 ?_
    refine jw_lcmp hC dL_law_1139 (by omega) (by omega) (by omega) (by omega) ?_
    refine jw_if_eq (tgt := 1145) hC dL_law_1140 (by decide) lcm_b1 lcm_b2 (fun _ => ?_) (fun hne => absurd rfl (mt lcm_eq.mpr hne))
    refine jw_goto (tgt := 1704) hC dL_law_1145 (by decide) ?_
    exact jw_loc (L' := [(0, _), (1, _), (2, _), (3, _), (4, _)]) [2, 3, 4, 5, 6] rfl (kb T hRl)
set_option maxRecDepth 100000 in
set_option maxHeartbeats 4000000 in
theorem lc_count {p : Program} {l : Launch} {e : Env} {s : State} {m : MethodId} {args : Array Value} {below : List Frame} {meth : Method} {c : Code} {E : ewE} {A : Nat → Prop} {cells slots : Nat} {Q : State → Prop} {b N : Nat} {xs : Nat → Int32} (hC : jC p e room_1 s m args meth c E A code 9 "EmbossPressLaw" (some .boolean)) (hfl : l.stackTraces = false) (hX : lwX s E A b N xs) {M : ewM} (h : Rl M) (i : Int) (hi : 0 ≤ i ∧ i + 5 < N) (hc1 : cells + 1 ≤ 601024 ∧ slots + 6 ≤ 7293034)
    (kb : ∀ T : ewM, Rl T → jJ p l e room_1 s m args below meth c E A 9 (cells + 1) (slots + 6) Q 1704 [(0, vR E 300), (1, vR E 77), (2, vR E 88), (3, vR E 97), (4, vI i)] [] T) : jJ p l e room_1 s m args below meth c E A 9 cells slots Q 1148 [(0, vR E 300), (1, vR E 77), (2, vR E 88), (3, vR E 97), (4, vI i)] [] M := by
  have hN := hX.2.2.2.2
  refine jw_aload_n hC dL_law_1148 1 rfl rfl ?_
  refine jw_aload_n hC dL_law_1149 0 rfl rfl ?_
  refine jw_iload hC dL_law_1150 4 rfl ?_
  refine jw_iconst hC dL_law_1152 ?_
  refine jw_iadd hC dL_law_1153 ?_
  refine jw_sld hC hX (by omega) (by omega) dL_law_1154 ?_
  refine jw_aload_n hC dL_law_1155 3 rfl rfl ?_
  refine jx_callSH (post := hp_count M (sx xs (i + 1))) hC (h_count l hfl E M (Rl_st0 h) (sx xs (i + 1)) (sx_1 _ _) (sx_2 _ _)) sH_count dL_law_1156 rfl rfl ⟨Nat.le_of_ble_eq_true rfl, Nat.le_of_ble_eq_true rfl⟩ ⟨hc1.1, hc1.2⟩ (Nat.le_of_ble_eq_true rfl) (fun v5 M5 g5 => ?_)
  obtain ⟨kk, rfl, hkk, hct⟩ := m_count l E (sx xs (i + 1)) (sx_1 _ _) (sx_2 _ _) h g5
  refine jw_istore (L' := [(5, _), (0, _), (1, _), (2, _), (3, _), (4, _)]) hC dL_law_1159 (by decide) rfl ?_
  refine jw_aload_n hC dL_law_1161 3 rfl rfl ?_
  refine jw_aload_n hC dL_law_1162 1 rfl rfl ?_
  refine jw_iload hC dL_law_1163 5 rfl ?_
  refine jw_iconst hC dL_law_1165 ?_
  refine jw_iadd hC dL_law_1166 ?_
  refine jw_sld hC hX (by omega) (by omega) dL_law_1167 ?_
  refine jw_callV hC hct sV_L_153 ewF_m0.o dL_law_1168 rfl rfl ⟨Nat.le_of_ble_eq_true rfl, Nat.le_of_ble_eq_true rfl⟩ ⟨hc1.1, hc1.2⟩ (Nat.le_of_ble_eq_true rfl) (fun v6 T g6 => ?_)
  obtain ⟨r, rfl, hth, hRl, hw⟩ := g6
  have wb1 := wr_b1 r
  have wb2 := wr_b2 r
  rw [show vpush (some (vI r)) [] = [vI (wr r)] from by rw [vI_wr]; rfl]
  refine jw_istore (L' := [(6, _), (5, _), (0, _), (1, _), (2, _), (3, _), (4, _)]) hC dL_law_1171 (by decide) rfl ?_
  refine jw_aload_n hC dL_law_1173 4 rfl rfl ?_
  refine jw_callV hC (c_X5_thrown l E T) sV_L_91 ewF_m0.o dL_law_1174 rfl rfl ⟨Nat.le_of_ble_eq_true rfl, Nat.le_of_ble_eq_true rfl⟩ ⟨hc1.1, hc1.2⟩ (Nat.le_of_ble_eq_true rfl) (fun v7 T7 g7 => ?_)
  obtain ⟨rfl, rfl⟩ := g7
  rw [hth]
  refine jw_iload hC dL_law_1177 1 rfl ?_
  refine jw_icmp_eq (tgt := 1184) hC dL_law_1179 (by decide) (by omega) (by omega) (by omega) (by omega) (fun _ => ?_) (fun hne => absurd rfl hne)
  refine jw_iload hC dL_law_1184 1 rfl ?_
  refine jw_if_ne (tgt := 1201) hC dL_law_1186 (by decide) (by omega) (by omega) (fun hk0 => ?_) (fun hk0 => ?_)
  · refine jw_goto (tgt := 1704) hC dL_law_1201 (by decide) ?_
    exact jw_loc (L' := [(0, _), (1, _), (2, _), (3, _), (4, _)]) [2, 3, 4, 5, 6] rfl (kb T hRl)
  · skip
    have hw := hw (by omega)
    refine jw_aload_n hC dL_law_1189 5 rfl rfl ?_
    refine jw_iconst hC dL_law_1190 ?_
    refine jw_lald97 hC dL_law_1191 ?_
    rw [hw]
    refine jw_iload hC dL_law_1192 0 rfl ?_
    refine jw_i2l hC dL_law_1194 wb1 wb2 ?_
    refine jw_lcmp hC dL_law_1195 (by omega) (by omega) (by omega) (by omega) ?_
    refine jw_if_eq (tgt := 1201) hC dL_law_1196 (by decide) lcm_b1 lcm_b2 (fun _ => ?_) (fun hne => absurd rfl (mt lcm_eq.mpr hne))
    refine jw_goto (tgt := 1704) hC dL_law_1201 (by decide) ?_
    exact jw_loc (L' := [(0, _), (1, _), (2, _), (3, _), (4, _)]) [2, 3, 4, 5, 6] rfl (kb T hRl)
set_option maxRecDepth 100000 in
set_option maxHeartbeats 4000000 in
theorem lc_setting {p : Program} {l : Launch} {e : Env} {s : State} {m : MethodId} {args : Array Value} {below : List Frame} {meth : Method} {c : Code} {E : ewE} {A : Nat → Prop} {cells slots : Nat} {Q : State → Prop} {b N : Nat} {xs : Nat → Int32} (hC : jC p e room_1 s m args meth c E A code 9 "EmbossPressLaw" (some .boolean)) (hfl : l.stackTraces = false) (hX : lwX s E A b N xs) {M : ewM} (h : Rl M) (i : Int) (hi : 0 ≤ i ∧ i + 5 < N) (hc1 : cells + 1 ≤ 601024 ∧ slots + 6 ≤ 7293034)
    (kb : ∀ T : ewM, Rl T → jJ p l e room_1 s m args below meth c E A 9 (cells + 1) (slots + 6) Q 1704 [(0, vR E 300), (1, vR E 77), (2, vR E 88), (3, vR E 97), (4, vI i)] [] T) : jJ p l e room_1 s m args below meth c E A 9 cells slots Q 1204 [(0, vR E 300), (1, vR E 77), (2, vR E 88), (3, vR E 97), (4, vI i)] [] M := by
  have hN := hX.2.2.2.2
  refine jw_aload_n hC dL_law_1204 1 rfl rfl ?_
  refine jw_aload_n hC dL_law_1205 0 rfl rfl ?_
  refine jw_iload hC dL_law_1206 4 rfl ?_
  refine jw_iconst hC dL_law_1208 ?_
  refine jw_iadd hC dL_law_1209 ?_
  refine jw_sld hC hX (by omega) (by omega) dL_law_1210 ?_
  refine jw_aload_n hC dL_law_1211 3 rfl rfl ?_
  refine jx_callSH (post := hp_setting M (sx xs (i + 1))) hC (h_setting l hfl E M (sx xs (i + 1)) (sx_1 _ _) (sx_2 _ _)) sH_setting dL_law_1212 rfl rfl ⟨Nat.le_of_ble_eq_true rfl, Nat.le_of_ble_eq_true rfl⟩ ⟨hc1.1, hc1.2⟩ (Nat.le_of_ble_eq_true rfl) (fun v5 M5 g5 => ?_)
  obtain ⟨kk, rfl, hkk, hct⟩ := m_setting l E (sx xs (i + 1)) (sx_1 _ _) (sx_2 _ _) h g5
  refine jw_istore (L' := [(5, _), (0, _), (1, _), (2, _), (3, _), (4, _)]) hC dL_law_1215 (by decide) rfl ?_
  refine jw_aload_n hC dL_law_1217 3 rfl rfl ?_
  refine jw_aload_n hC dL_law_1218 1 rfl rfl ?_
  refine jw_iload hC dL_law_1219 5 rfl ?_
  refine jw_iconst hC dL_law_1221 ?_
  refine jw_iadd hC dL_law_1222 ?_
  refine jw_sld hC hX (by omega) (by omega) dL_law_1223 ?_
  refine jw_callV hC hct sV_L_156 ewF_m0.o dL_law_1224 rfl rfl ⟨Nat.le_of_ble_eq_true rfl, Nat.le_of_ble_eq_true rfl⟩ ⟨hc1.1, hc1.2⟩ (Nat.le_of_ble_eq_true rfl) (fun v6 T g6 => ?_)
  obtain ⟨r, rfl, hth, hRl, hw⟩ := g6
  have wb1 := wr_b1 r
  have wb2 := wr_b2 r
  rw [show vpush (some (vI r)) [] = [vI (wr r)] from by rw [vI_wr]; rfl]
  refine jw_istore (L' := [(6, _), (5, _), (0, _), (1, _), (2, _), (3, _), (4, _)]) hC dL_law_1227 (by decide) rfl ?_
  refine jw_aload_n hC dL_law_1229 4 rfl rfl ?_
  refine jw_callV hC (c_X5_thrown l E T) sV_L_91 ewF_m0.o dL_law_1230 rfl rfl ⟨Nat.le_of_ble_eq_true rfl, Nat.le_of_ble_eq_true rfl⟩ ⟨hc1.1, hc1.2⟩ (Nat.le_of_ble_eq_true rfl) (fun v7 T7 g7 => ?_)
  obtain ⟨rfl, rfl⟩ := g7
  rw [hth]
  refine jw_iload hC dL_law_1233 1 rfl ?_
  refine jw_icmp_eq (tgt := 1240) hC dL_law_1235 (by decide) (by omega) (by omega) (by omega) (by omega) (fun _ => ?_) (fun hne => absurd rfl hne)
  refine jw_iload hC dL_law_1240 1 rfl ?_
  refine jw_if_ne (tgt := 1257) hC dL_law_1242 (by decide) (by omega) (by omega) (fun hk0 => ?_) (fun hk0 => ?_)
  · refine jw_goto (tgt := 1704) hC dL_law_1257 (by decide) ?_
    exact jw_loc (L' := [(0, _), (1, _), (2, _), (3, _), (4, _)]) [2, 3, 4, 5, 6] rfl (kb T hRl)
  · skip
    have hw := hw (by omega)
    refine jw_aload_n hC dL_law_1245 5 rfl rfl ?_
    refine jw_iconst hC dL_law_1246 ?_
    refine jw_lald97 hC dL_law_1247 ?_
    rw [hw]
    refine jw_iload hC dL_law_1248 0 rfl ?_
    refine jw_i2l hC dL_law_1250 wb1 wb2 ?_
    refine jw_lcmp hC dL_law_1251 (by omega) (by omega) (by omega) (by omega) ?_
    refine jw_if_eq (tgt := 1257) hC dL_law_1252 (by decide) lcm_b1 lcm_b2 (fun _ => ?_) (fun hne => absurd rfl (mt lcm_eq.mpr hne))
    refine jw_goto (tgt := 1704) hC dL_law_1257 (by decide) ?_
    exact jw_loc (L' := [(0, _), (1, _), (2, _), (3, _), (4, _)]) [2, 3, 4, 5, 6] rfl (kb T hRl)
set_option maxRecDepth 100000 in
set_option maxHeartbeats 4000000 in
theorem lc_ifPressed {p : Program} {l : Launch} {e : Env} {s : State} {m : MethodId} {args : Array Value} {below : List Frame} {meth : Method} {c : Code} {E : ewE} {A : Nat → Prop} {cells slots : Nat} {Q : State → Prop} {b N : Nat} {xs : Nat → Int32} (hC : jC p e room_1 s m args meth c E A code 9 "EmbossPressLaw" (some .boolean)) (hfl : l.stackTraces = false) (hX : lwX s E A b N xs) {M : ewM} (h : Rl M) (i : Int) (hi : 0 ≤ i ∧ i + 5 < N) (hc1 : cells + 1 ≤ 601024 ∧ slots + 6 ≤ 7293034)
    (kb : ∀ T : ewM, Rl T → jJ p l e room_1 s m args below meth c E A 9 (cells + 1) (slots + 6) Q 1704 [(0, vR E 300), (1, vR E 77), (2, vR E 88), (3, vR E 97), (4, vI i)] [] T) : jJ p l e room_1 s m args below meth c E A 9 cells slots Q 1260 [(0, vR E 300), (1, vR E 77), (2, vR E 88), (3, vR E 97), (4, vI i)] [] M := by
  have hN := hX.2.2.2.2
  refine jw_aload_n hC dL_law_1260 1 rfl rfl ?_
  refine jw_aload_n hC dL_law_1261 0 rfl rfl ?_
  refine jw_iload hC dL_law_1262 4 rfl ?_
  refine jw_iconst hC dL_law_1264 ?_
  refine jw_iadd hC dL_law_1265 ?_
  refine jw_sld hC hX (by omega) (by omega) dL_law_1266 ?_
  refine jw_aload_n hC dL_law_1267 0 rfl rfl ?_
  refine jw_iload hC dL_law_1268 4 rfl ?_
  refine jw_iconst hC dL_law_1270 ?_
  refine jw_iadd hC dL_law_1271 ?_
  refine jw_sld hC hX (by omega) (by omega) dL_law_1272 ?_
  refine jw_aload_n hC dL_law_1273 0 rfl rfl ?_
  refine jw_iload hC dL_law_1274 4 rfl ?_
  refine jw_iconst hC dL_law_1276 ?_
  refine jw_iadd hC dL_law_1277 ?_
  refine jw_sld hC hX (by omega) (by omega) dL_law_1278 ?_
  refine jw_aload_n hC dL_law_1279 0 rfl rfl ?_
  refine jw_iload hC dL_law_1280 4 rfl ?_
  refine jw_iconst hC dL_law_1282 ?_
  refine jw_iadd hC dL_law_1283 ?_
  refine jw_sld hC hX (by omega) (by omega) dL_law_1284 ?_
  refine jw_aload_n hC dL_law_1285 3 rfl rfl ?_
  refine jx_callSH (post := hp_ifPressed M (sx xs (i + 1)) (sx xs (i + 2)) (sx xs (i + 3)) (sx xs (i + 4))) hC (h_ifPressed l hfl E M (Rl_st0 h) (sx xs (i + 1)) (sx_1 _ _) (sx_2 _ _) (sx xs (i + 2)) (sx_1 _ _) (sx_2 _ _) (sx xs (i + 3)) (sx_1 _ _) (sx_2 _ _) (sx xs (i + 4)) (sx_1 _ _) (sx_2 _ _)) sH_ifPressed dL_law_1286 rfl rfl ⟨Nat.le_of_ble_eq_true rfl, Nat.le_of_ble_eq_true rfl⟩ ⟨hc1.1, hc1.2⟩ (Nat.le_of_ble_eq_true rfl) (fun v5 M5 g5 => ?_)
  obtain ⟨kk, rfl, hkk, hct⟩ := m_ifPressed l E (sx xs (i + 1)) (sx_1 _ _) (sx_2 _ _) (sx xs (i + 2)) (sx_1 _ _) (sx_2 _ _) (sx xs (i + 3)) (sx_1 _ _) (sx_2 _ _) (sx xs (i + 4)) (sx_1 _ _) (sx_2 _ _) h g5
  refine jw_istore (L' := [(5, _), (0, _), (1, _), (2, _), (3, _), (4, _)]) hC dL_law_1289 (by decide) rfl ?_
  refine jw_aload_n hC dL_law_1291 3 rfl rfl ?_
  refine jw_aload_n hC dL_law_1292 1 rfl rfl ?_
  refine jw_iload hC dL_law_1293 5 rfl ?_
  refine jw_iconst hC dL_law_1295 ?_
  refine jw_iadd hC dL_law_1296 ?_
  refine jw_sld hC hX (by omega) (by omega) dL_law_1297 ?_
  refine jw_aload_n hC dL_law_1298 1 rfl rfl ?_
  refine jw_iload hC dL_law_1299 5 rfl ?_
  refine jw_iconst hC dL_law_1301 ?_
  refine jw_iadd hC dL_law_1302 ?_
  refine jw_sld hC hX (by omega) (by omega) dL_law_1303 ?_
  refine jw_aload_n hC dL_law_1304 1 rfl rfl ?_
  refine jw_iload hC dL_law_1305 5 rfl ?_
  refine jw_iconst hC dL_law_1307 ?_
  refine jw_iadd hC dL_law_1308 ?_
  refine jw_sld hC hX (by omega) (by omega) dL_law_1309 ?_
  refine jw_aload_n hC dL_law_1310 1 rfl rfl ?_
  refine jw_iload hC dL_law_1311 5 rfl ?_
  refine jw_iconst hC dL_law_1313 ?_
  refine jw_iadd hC dL_law_1314 ?_
  refine jw_sld hC hX (by omega) (by omega) dL_law_1315 ?_
  refine jw_callV hC hct sV_L_159 ewF_m0.o dL_law_1316 rfl rfl ⟨Nat.le_of_ble_eq_true rfl, Nat.le_of_ble_eq_true rfl⟩ ⟨hc1.1, hc1.2⟩ (Nat.le_of_ble_eq_true rfl) (fun v6 T g6 => ?_)
  obtain ⟨r, rfl, hth, hRl, hw⟩ := g6
  have wb1 := wr_b1 r
  have wb2 := wr_b2 r
  rw [show vpush (some (vI r)) [] = [vI (wr r)] from by rw [vI_wr]; rfl]
  refine jw_istore (L' := [(6, _), (5, _), (0, _), (1, _), (2, _), (3, _), (4, _)]) hC dL_law_1319 (by decide) rfl ?_
  refine jw_aload_n hC dL_law_1321 4 rfl rfl ?_
  refine jw_callV hC (c_X5_thrown l E T) sV_L_91 ewF_m0.o dL_law_1322 rfl rfl ⟨Nat.le_of_ble_eq_true rfl, Nat.le_of_ble_eq_true rfl⟩ ⟨hc1.1, hc1.2⟩ (Nat.le_of_ble_eq_true rfl) (fun v7 T7 g7 => ?_)
  obtain ⟨rfl, rfl⟩ := g7
  rw [hth]
  refine jw_iload hC dL_law_1325 1 rfl ?_
  refine jw_icmp_eq (tgt := 1332) hC dL_law_1327 (by decide) (by omega) (by omega) (by omega) (by omega) (fun _ => ?_) (fun hne => absurd rfl hne)
  refine jw_iload hC dL_law_1332 1 rfl ?_
  refine jw_if_ne (tgt := 1349) hC dL_law_1334 (by decide) (by omega) (by omega) (fun hk0 => ?_) (fun hk0 => ?_)
  · refine jw_goto (tgt := 1704) hC dL_law_1349 (by decide) ?_
    exact jw_loc (L' := [(0, _), (1, _), (2, _), (3, _), (4, _)]) [2, 3, 4, 5, 6] rfl (kb T hRl)
  · skip
    have hw := hw (by omega)
    refine jw_aload_n hC dL_law_1337 5 rfl rfl ?_
    refine jw_iconst hC dL_law_1338 ?_
    refine jw_lald97 hC dL_law_1339 ?_
    rw [hw]
    refine jw_iload hC dL_law_1340 0 rfl ?_
    refine jw_i2l hC dL_law_1342 wb1 wb2 ?_
    refine jw_lcmp hC dL_law_1343 (by omega) (by omega) (by omega) (by omega) ?_
    refine jw_if_eq (tgt := 1349) hC dL_law_1344 (by decide) lcm_b1 lcm_b2 (fun _ => ?_) (fun hne => absurd rfl (mt lcm_eq.mpr hne))
    refine jw_goto (tgt := 1704) hC dL_law_1349 (by decide) ?_
    exact jw_loc (L' := [(0, _), (1, _), (2, _), (3, _), (4, _)]) [2, 3, 4, 5, 6] rfl (kb T hRl)
set_option maxRecDepth 100000 in
set_option maxHeartbeats 4000000 in
theorem lc_gentlest {p : Program} {l : Launch} {e : Env} {s : State} {m : MethodId} {args : Array Value} {below : List Frame} {meth : Method} {c : Code} {E : ewE} {A : Nat → Prop} {cells slots : Nat} {Q : State → Prop} {b N : Nat} {xs : Nat → Int32} (hC : jC p e room_1 s m args meth c E A code 9 "EmbossPressLaw" (some .boolean)) (hfl : l.stackTraces = false) (hX : lwX s E A b N xs) {M : ewM} (h : Rl M) (i : Int) (hi : 0 ≤ i ∧ i + 5 < N) (hc1 : cells + 1 ≤ 601024 ∧ slots + 6 ≤ 7293034)
    (kb : ∀ T : ewM, Rl T → jJ p l e room_1 s m args below meth c E A 9 (cells + 1) (slots + 6) Q 1704 [(0, vR E 300), (1, vR E 77), (2, vR E 88), (3, vR E 97), (4, vI i)] [] T) : jJ p l e room_1 s m args below meth c E A 9 cells slots Q 1352 [(0, vR E 300), (1, vR E 77), (2, vR E 88), (3, vR E 97), (4, vI i)] [] M := by
  have hN := hX.2.2.2.2
  refine jw_aload_n hC dL_law_1352 1 rfl rfl ?_
  refine jw_aload_n hC dL_law_1353 0 rfl rfl ?_
  refine jw_iload hC dL_law_1354 4 rfl ?_
  refine jw_iconst hC dL_law_1356 ?_
  refine jw_iadd hC dL_law_1357 ?_
  refine jw_sld hC hX (by omega) (by omega) dL_law_1358 ?_
  refine jw_aload_n hC dL_law_1359 0 rfl rfl ?_
  refine jw_iload hC dL_law_1360 4 rfl ?_
  refine jw_iconst hC dL_law_1362 ?_
  refine jw_iadd hC dL_law_1363 ?_
  refine jw_sld hC hX (by omega) (by omega) dL_law_1364 ?_
  refine jw_aload_n hC dL_law_1365 3 rfl rfl ?_
  refine jx_callSH (post := hp_gentlest M (sx xs (i + 1)) (sx xs (i + 2))) hC (h_gentlest l hfl E M (Rl_st0 h) (sx xs (i + 1)) (sx_1 _ _) (sx_2 _ _) (sx xs (i + 2)) (sx_1 _ _) (sx_2 _ _)) sH_gentlest dL_law_1366 rfl rfl ⟨Nat.le_of_ble_eq_true rfl, Nat.le_of_ble_eq_true rfl⟩ ⟨hc1.1, hc1.2⟩ (Nat.le_of_ble_eq_true rfl) (fun v5 M5 g5 => ?_)
  obtain ⟨kk, rfl, hkk, hct⟩ := m_gentlest l E (sx xs (i + 1)) (sx_1 _ _) (sx_2 _ _) (sx xs (i + 2)) (sx_1 _ _) (sx_2 _ _) h g5
  refine jw_istore (L' := [(5, _), (0, _), (1, _), (2, _), (3, _), (4, _)]) hC dL_law_1369 (by decide) rfl ?_
  refine jw_aload_n hC dL_law_1371 3 rfl rfl ?_
  refine jw_aload_n hC dL_law_1372 1 rfl rfl ?_
  refine jw_iload hC dL_law_1373 5 rfl ?_
  refine jw_iconst hC dL_law_1375 ?_
  refine jw_iadd hC dL_law_1376 ?_
  refine jw_sld hC hX (by omega) (by omega) dL_law_1377 ?_
  refine jw_aload_n hC dL_law_1378 1 rfl rfl ?_
  refine jw_iload hC dL_law_1379 5 rfl ?_
  refine jw_iconst hC dL_law_1381 ?_
  refine jw_iadd hC dL_law_1382 ?_
  refine jw_sld hC hX (by omega) (by omega) dL_law_1383 ?_
  refine jw_callV hC hct sV_L_162 ewF_m0.o dL_law_1384 rfl rfl ⟨Nat.le_of_ble_eq_true rfl, Nat.le_of_ble_eq_true rfl⟩ ⟨hc1.1, hc1.2⟩ (Nat.le_of_ble_eq_true rfl) (fun v6 T g6 => ?_)
  obtain ⟨r, rfl, hth, hRl, hw⟩ := g6
  have wb1 := wr_b1 r
  have wb2 := wr_b2 r
  rw [show vpush (some (vI r)) [] = [vI (wr r)] from by rw [vI_wr]; rfl]
  refine jw_istore (L' := [(6, _), (5, _), (0, _), (1, _), (2, _), (3, _), (4, _)]) hC dL_law_1387 (by decide) rfl ?_
  refine jw_aload_n hC dL_law_1389 4 rfl rfl ?_
  refine jw_callV hC (c_X5_thrown l E T) sV_L_91 ewF_m0.o dL_law_1390 rfl rfl ⟨Nat.le_of_ble_eq_true rfl, Nat.le_of_ble_eq_true rfl⟩ ⟨hc1.1, hc1.2⟩ (Nat.le_of_ble_eq_true rfl) (fun v7 T7 g7 => ?_)
  obtain ⟨rfl, rfl⟩ := g7
  rw [hth]
  refine jw_iload hC dL_law_1393 1 rfl ?_
  refine jw_icmp_eq (tgt := 1400) hC dL_law_1395 (by decide) (by omega) (by omega) (by omega) (by omega) (fun _ => ?_) (fun hne => absurd rfl hne)
  refine jw_iload hC dL_law_1400 1 rfl ?_
  refine jw_if_ne (tgt := 1417) hC dL_law_1402 (by decide) (by omega) (by omega) (fun hk0 => ?_) (fun hk0 => ?_)
  · refine jw_goto (tgt := 1704) hC dL_law_1417 (by decide) ?_
    exact jw_loc (L' := [(0, _), (1, _), (2, _), (3, _), (4, _)]) [2, 3, 4, 5, 6] rfl (kb T hRl)
  · skip
    have hw := hw (by omega)
    refine jw_aload_n hC dL_law_1405 5 rfl rfl ?_
    refine jw_iconst hC dL_law_1406 ?_
    refine jw_lald97 hC dL_law_1407 ?_
    rw [hw]
    refine jw_iload hC dL_law_1408 0 rfl ?_
    refine jw_i2l hC dL_law_1410 wb1 wb2 ?_
    refine jw_lcmp hC dL_law_1411 (by omega) (by omega) (by omega) (by omega) ?_
    refine jw_if_eq (tgt := 1417) hC dL_law_1412 (by decide) lcm_b1 lcm_b2 (fun _ => ?_) (fun hne => absurd rfl (mt lcm_eq.mpr hne))
    refine jw_goto (tgt := 1704) hC dL_law_1417 (by decide) ?_
    exact jw_loc (L' := [(0, _), (1, _), (2, _), (3, _), (4, _)]) [2, 3, 4, 5, 6] rfl (kb T hRl)
set_option maxRecDepth 100000 in
set_option maxHeartbeats 4000000 in
theorem lc_ifFolded {p : Program} {l : Launch} {e : Env} {s : State} {m : MethodId} {args : Array Value} {below : List Frame} {meth : Method} {c : Code} {E : ewE} {A : Nat → Prop} {cells slots : Nat} {Q : State → Prop} {b N : Nat} {xs : Nat → Int32} (hC : jC p e room_1 s m args meth c E A code 9 "EmbossPressLaw" (some .boolean)) (hfl : l.stackTraces = false) (hX : lwX s E A b N xs) {M : ewM} (h : Rl M) (i : Int) (hi : 0 ≤ i ∧ i + 5 < N) (hc1 : cells + 1 ≤ 601024 ∧ slots + 6 ≤ 7293034)
    (kb : ∀ T : ewM, Rl T → jJ p l e room_1 s m args below meth c E A 9 (cells + 1) (slots + 6) Q 1704 [(0, vR E 300), (1, vR E 77), (2, vR E 88), (3, vR E 97), (4, vI i)] [] T) : jJ p l e room_1 s m args below meth c E A 9 cells slots Q 1420 [(0, vR E 300), (1, vR E 77), (2, vR E 88), (3, vR E 97), (4, vI i)] [] M := by
  have hN := hX.2.2.2.2
  refine jw_aload_n hC dL_law_1420 1 rfl rfl ?_
  refine jw_aload_n hC dL_law_1421 0 rfl rfl ?_
  refine jw_iload hC dL_law_1422 4 rfl ?_
  refine jw_iconst hC dL_law_1424 ?_
  refine jw_iadd hC dL_law_1425 ?_
  refine jw_sld hC hX (by omega) (by omega) dL_law_1426 ?_
  refine jw_aload_n hC dL_law_1427 3 rfl rfl ?_
  refine jx_callSH (post := hp_ifFolded M (sx xs (i + 1))) hC (h_ifFolded l hfl E M (Rl_st0 h) (sx xs (i + 1)) (sx_1 _ _) (sx_2 _ _)) sH_ifFolded dL_law_1428 rfl rfl ⟨Nat.le_of_ble_eq_true rfl, Nat.le_of_ble_eq_true rfl⟩ ⟨hc1.1, hc1.2⟩ (Nat.le_of_ble_eq_true rfl) (fun v5 M5 g5 => ?_)
  obtain ⟨kk, rfl, hkk, hct⟩ := m_ifFolded l E (sx xs (i + 1)) (sx_1 _ _) (sx_2 _ _) h g5
  refine jw_istore (L' := [(5, _), (0, _), (1, _), (2, _), (3, _), (4, _)]) hC dL_law_1431 (by decide) rfl ?_
  refine jw_aload_n hC dL_law_1433 3 rfl rfl ?_
  refine jw_aload_n hC dL_law_1434 1 rfl rfl ?_
  refine jw_iload hC dL_law_1435 5 rfl ?_
  refine jw_iconst hC dL_law_1437 ?_
  refine jw_iadd hC dL_law_1438 ?_
  refine jw_sld hC hX (by omega) (by omega) dL_law_1439 ?_
  refine jw_callV hC hct sV_L_165 ewF_m0.o dL_law_1440 rfl rfl ⟨Nat.le_of_ble_eq_true rfl, Nat.le_of_ble_eq_true rfl⟩ ⟨hc1.1, hc1.2⟩ (Nat.le_of_ble_eq_true rfl) (fun v6 T g6 => ?_)
  obtain ⟨r, rfl, hth, hRl, hw⟩ := g6
  have wb1 := wr_b1 r
  have wb2 := wr_b2 r
  rw [show vpush (some (vI r)) [] = [vI (wr r)] from by rw [vI_wr]; rfl]
  refine jw_istore (L' := [(6, _), (5, _), (0, _), (1, _), (2, _), (3, _), (4, _)]) hC dL_law_1443 (by decide) rfl ?_
  refine jw_aload_n hC dL_law_1445 4 rfl rfl ?_
  refine jw_callV hC (c_X5_thrown l E T) sV_L_91 ewF_m0.o dL_law_1446 rfl rfl ⟨Nat.le_of_ble_eq_true rfl, Nat.le_of_ble_eq_true rfl⟩ ⟨hc1.1, hc1.2⟩ (Nat.le_of_ble_eq_true rfl) (fun v7 T7 g7 => ?_)
  obtain ⟨rfl, rfl⟩ := g7
  rw [hth]
  refine jw_iload hC dL_law_1449 1 rfl ?_
  refine jw_icmp_eq (tgt := 1456) hC dL_law_1451 (by decide) (by omega) (by omega) (by omega) (by omega) (fun _ => ?_) (fun hne => absurd rfl hne)
  refine jw_iload hC dL_law_1456 1 rfl ?_
  refine jw_if_ne (tgt := 1473) hC dL_law_1458 (by decide) (by omega) (by omega) (fun hk0 => ?_) (fun hk0 => ?_)
  · refine jw_goto (tgt := 1704) hC dL_law_1473 (by decide) ?_
    exact jw_loc (L' := [(0, _), (1, _), (2, _), (3, _), (4, _)]) [2, 3, 4, 5, 6] rfl (kb T hRl)
  · skip
    have hw := hw (by omega)
    refine jw_aload_n hC dL_law_1461 5 rfl rfl ?_
    refine jw_iconst hC dL_law_1462 ?_
    refine jw_lald97 hC dL_law_1463 ?_
    rw [hw]
    refine jw_iload hC dL_law_1464 0 rfl ?_
    refine jw_i2l hC dL_law_1466 wb1 wb2 ?_
    refine jw_lcmp hC dL_law_1467 (by omega) (by omega) (by omega) (by omega) ?_
    refine jw_if_eq (tgt := 1473) hC dL_law_1468 (by decide) lcm_b1 lcm_b2 (fun _ => ?_) (fun hne => absurd rfl (mt lcm_eq.mpr hne))
    refine jw_goto (tgt := 1704) hC dL_law_1473 (by decide) ?_
    exact jw_loc (L' := [(0, _), (1, _), (2, _), (3, _), (4, _)]) [2, 3, 4, 5, 6] rfl (kb T hRl)
set_option maxRecDepth 100000 in
set_option maxHeartbeats 4000000 in
theorem lc_bestFold {p : Program} {l : Launch} {e : Env} {s : State} {m : MethodId} {args : Array Value} {below : List Frame} {meth : Method} {c : Code} {E : ewE} {A : Nat → Prop} {cells slots : Nat} {Q : State → Prop} {b N : Nat} {xs : Nat → Int32} (hC : jC p e room_1 s m args meth c E A code 9 "EmbossPressLaw" (some .boolean)) (hfl : l.stackTraces = false) (hX : lwX s E A b N xs) {M : ewM} (h : Rl M) (i : Int) (hi : 0 ≤ i ∧ i + 5 < N) (hc1 : cells + 1 ≤ 601024 ∧ slots + 6 ≤ 7293034)
    (kb : ∀ T : ewM, Rl T → jJ p l e room_1 s m args below meth c E A 9 (cells + 1) (slots + 6) Q 1704 [(0, vR E 300), (1, vR E 77), (2, vR E 88), (3, vR E 97), (4, vI i)] [] T) : jJ p l e room_1 s m args below meth c E A 9 cells slots Q 1476 [(0, vR E 300), (1, vR E 77), (2, vR E 88), (3, vR E 97), (4, vI i)] [] M := by
  have hN := hX.2.2.2.2
  refine jw_aload_n hC dL_law_1476 1 rfl rfl ?_
  refine jw_callV hC (c_X4_bestFold l E M (Rl_st0 h)) sV_L_166 ewF_x4.o dL_law_1477 rfl rfl ⟨Nat.le_of_ble_eq_true rfl, Nat.le_of_ble_eq_true rfl⟩ ⟨Nat.le_of_succ_le hc1.1, Nat.le_trans (Nat.le_add_right _ _) hc1.2⟩ (Nat.le_of_ble_eq_true rfl) (fun v5 M5 g5 => ?_)
  obtain ⟨z, rfl, hct⟩ := n_best l E h g5
  have wb1 := wr_b1 z
  have wb2 := wr_b2 z
  rw [show vpush (some (vI z)) [] = [vI (wr z)] from by rw [vI_wr]; rfl]
  refine jw_aload_n hC dL_law_1480 2 rfl rfl ?_
  refine jw_callV hC hct sV_L_169 ewF_m0.o dL_law_1481 rfl rfl ⟨Nat.le_of_ble_eq_true rfl, Nat.le_of_ble_eq_true rfl⟩ ⟨Nat.le_of_succ_le hc1.1, Nat.le_trans (Nat.le_add_right _ _) hc1.2⟩ (Nat.le_of_ble_eq_true rfl) (fun v6 T g6 => ?_)
  obtain ⟨r, rfl, hr, hRl⟩ := g6
  rw [show vpush (some (vI r)) [vI (wr z)] = [vI (wr z), vI (wr z)] from by rw [← hr, vI_wr]; rfl]
  refine jw_icmp_eq (tgt := 1704) hC dL_law_1484 (by decide) (by omega) (by omega) (by omega) (by omega) (fun _ => ?_) (fun hne => absurd rfl hne)
  refine jw_widen (k := cells + 1) (n := slots + 6) (Nat.le_add_right _ _) (Nat.le_add_right _ _) ?_
  exact kb T hRl
set_option maxRecDepth 100000 in
set_option maxHeartbeats 4000000 in
theorem lc_alike {p : Program} {l : Launch} {e : Env} {s : State} {m : MethodId} {args : Array Value} {below : List Frame} {meth : Method} {c : Code} {E : ewE} {A : Nat → Prop} {cells slots : Nat} {Q : State → Prop} {b N : Nat} {xs : Nat → Int32} (hC : jC p e room_1 s m args meth c E A code 9 "EmbossPressLaw" (some .boolean)) (hfl : l.stackTraces = false) (hX : lwX s E A b N xs) {M : ewM} (h : Rl M) (i : Int) (hi : 0 ≤ i ∧ i + 5 < N) (hc1 : cells + 1 ≤ 601024 ∧ slots + 6 ≤ 7293034)
    (kb : ∀ T : ewM, Rl T → jJ p l e room_1 s m args below meth c E A 9 (cells + 1) (slots + 6) Q 1704 [(0, vR E 300), (1, vR E 77), (2, vR E 88), (3, vR E 97), (4, vI i)] [] T) : jJ p l e room_1 s m args below meth c E A 9 cells slots Q 1489 [(0, vR E 300), (1, vR E 77), (2, vR E 88), (3, vR E 97), (4, vI i)] [] M := by
  have hN := hX.2.2.2.2
  refine jw_aload_n hC dL_law_1489 1 rfl rfl ?_
  refine jw_aload_n hC dL_law_1490 0 rfl rfl ?_
  refine jw_iload hC dL_law_1491 4 rfl ?_
  refine jw_iconst hC dL_law_1493 ?_
  refine jw_iadd hC dL_law_1494 ?_
  refine jw_sld hC hX (by omega) (by omega) dL_law_1495 ?_
  refine jw_aload_n hC dL_law_1496 0 rfl rfl ?_
  refine jw_iload hC dL_law_1497 4 rfl ?_
  refine jw_iconst hC dL_law_1499 ?_
  refine jw_iadd hC dL_law_1500 ?_
  refine jw_sld hC hX (by omega) (by omega) dL_law_1501 ?_
  refine jw_aload_n hC dL_law_1502 3 rfl rfl ?_
  refine jx_callSH (post := hp_alike M (sx xs (i + 1)) (sx xs (i + 2))) hC (h_alike l hfl E M (Rl_st0 h) (sx xs (i + 1)) (sx_1 _ _) (sx_2 _ _) (sx xs (i + 2)) (sx_1 _ _) (sx_2 _ _)) sH_alike dL_law_1503 rfl rfl ⟨Nat.le_of_ble_eq_true rfl, Nat.le_of_ble_eq_true rfl⟩ ⟨hc1.1, hc1.2⟩ (Nat.le_of_ble_eq_true rfl) (fun v5 M5 g5 => ?_)
  obtain ⟨kk, rfl, hkk, hct⟩ := m_alike l E (sx xs (i + 1)) (sx_1 _ _) (sx_2 _ _) (sx xs (i + 2)) (sx_1 _ _) (sx_2 _ _) h g5
  refine jw_istore (L' := [(5, _), (0, _), (1, _), (2, _), (3, _), (4, _)]) hC dL_law_1506 (by decide) rfl ?_
  refine jw_aload_n hC dL_law_1508 3 rfl rfl ?_
  refine jw_aload_n hC dL_law_1509 1 rfl rfl ?_
  refine jw_iload hC dL_law_1510 5 rfl ?_
  refine jw_iconst hC dL_law_1512 ?_
  refine jw_iadd hC dL_law_1513 ?_
  refine jw_sld hC hX (by omega) (by omega) dL_law_1514 ?_
  refine jw_aload_n hC dL_law_1515 1 rfl rfl ?_
  refine jw_iload hC dL_law_1516 5 rfl ?_
  refine jw_iconst hC dL_law_1518 ?_
  refine jw_iadd hC dL_law_1519 ?_
  refine jw_sld hC hX (by omega) (by omega) dL_law_1520 ?_
  refine jw_callV hC hct sV_L_172 ewF_m0.o dL_law_1521 rfl rfl ⟨Nat.le_of_ble_eq_true rfl, Nat.le_of_ble_eq_true rfl⟩ ⟨hc1.1, hc1.2⟩ (Nat.le_of_ble_eq_true rfl) (fun v6 T g6 => ?_)
  obtain ⟨r, rfl, hth, hRl, hw⟩ := g6
  have wb1 := wr_b1 r
  have wb2 := wr_b2 r
  rw [show vpush (some (vI r)) [] = [vI (wr r)] from by rw [vI_wr]; rfl]
  refine jw_istore (L' := [(6, _), (5, _), (0, _), (1, _), (2, _), (3, _), (4, _)]) hC dL_law_1524 (by decide) rfl ?_
  refine jw_aload_n hC dL_law_1526 4 rfl rfl ?_
  refine jw_callV hC (c_X5_thrown l E T) sV_L_91 ewF_m0.o dL_law_1527 rfl rfl ⟨Nat.le_of_ble_eq_true rfl, Nat.le_of_ble_eq_true rfl⟩ ⟨hc1.1, hc1.2⟩ (Nat.le_of_ble_eq_true rfl) (fun v7 T7 g7 => ?_)
  obtain ⟨rfl, rfl⟩ := g7
  rw [hth]
  refine jw_iload hC dL_law_1530 1 rfl ?_
  refine jw_icmp_eq (tgt := 1537) hC dL_law_1532 (by decide) (by omega) (by omega) (by omega) (by omega) (fun _ => ?_) (fun hne => absurd rfl hne)
  refine jw_iload hC dL_law_1537 1 rfl ?_
  refine jw_if_ne (tgt := 1554) hC dL_law_1539 (by decide) (by omega) (by omega) (fun hk0 => ?_) (fun hk0 => ?_)
  · refine jw_goto (tgt := 1704) hC dL_law_1554 (by decide) ?_
    exact jw_loc (L' := [(0, _), (1, _), (2, _), (3, _), (4, _)]) [2, 3, 4, 5, 6] rfl (kb T hRl)
  · skip
    have hw := hw (by omega)
    refine jw_aload_n hC dL_law_1542 5 rfl rfl ?_
    refine jw_iconst hC dL_law_1543 ?_
    refine jw_lald97 hC dL_law_1544 ?_
    rw [hw]
    refine jw_iload hC dL_law_1545 0 rfl ?_
    refine jw_i2l hC dL_law_1547 wb1 wb2 ?_
    refine jw_lcmp hC dL_law_1548 (by omega) (by omega) (by omega) (by omega) ?_
    refine jw_if_eq (tgt := 1554) hC dL_law_1549 (by decide) lcm_b1 lcm_b2 (fun _ => ?_) (fun hne => absurd rfl (mt lcm_eq.mpr hne))
    refine jw_goto (tgt := 1704) hC dL_law_1554 (by decide) ?_
    exact jw_loc (L' := [(0, _), (1, _), (2, _), (3, _), (4, _)]) [2, 3, 4, 5, 6] rfl (kb T hRl)
set_option maxRecDepth 100000 in
set_option maxHeartbeats 4000000 in
theorem lc_needed {p : Program} {l : Launch} {e : Env} {s : State} {m : MethodId} {args : Array Value} {below : List Frame} {meth : Method} {c : Code} {E : ewE} {A : Nat → Prop} {cells slots : Nat} {Q : State → Prop} {b N : Nat} {xs : Nat → Int32} (hC : jC p e room_1 s m args meth c E A code 9 "EmbossPressLaw" (some .boolean)) (hfl : l.stackTraces = false) (hX : lwX s E A b N xs) {M : ewM} (h : Rl M) (i : Int) (hi : 0 ≤ i ∧ i + 5 < N) (hc1 : cells + 1 ≤ 601024 ∧ slots + 6 ≤ 7293034)
    (kb : ∀ T : ewM, Rl T → jJ p l e room_1 s m args below meth c E A 9 (cells + 1) (slots + 6) Q 1704 [(0, vR E 300), (1, vR E 77), (2, vR E 88), (3, vR E 97), (4, vI i)] [] T) : jJ p l e room_1 s m args below meth c E A 9 cells slots Q 1557 [(0, vR E 300), (1, vR E 77), (2, vR E 88), (3, vR E 97), (4, vI i)] [] M := by
  have hN := hX.2.2.2.2
  refine jw_aload_n hC dL_law_1557 1 rfl rfl ?_
  refine jw_aload_n hC dL_law_1558 0 rfl rfl ?_
  refine jw_iload hC dL_law_1559 4 rfl ?_
  refine jw_iconst hC dL_law_1561 ?_
  refine jw_iadd hC dL_law_1562 ?_
  refine jw_sld hC hX (by omega) (by omega) dL_law_1563 ?_
  refine jw_aload_n hC dL_law_1564 0 rfl rfl ?_
  refine jw_iload hC dL_law_1565 4 rfl ?_
  refine jw_iconst hC dL_law_1567 ?_
  refine jw_iadd hC dL_law_1568 ?_
  refine jw_sld hC hX (by omega) (by omega) dL_law_1569 ?_
  refine jw_aload_n hC dL_law_1570 0 rfl rfl ?_
  refine jw_iload hC dL_law_1571 4 rfl ?_
  refine jw_iconst hC dL_law_1573 ?_
  refine jw_iadd hC dL_law_1574 ?_
  refine jw_sld hC hX (by omega) (by omega) dL_law_1575 ?_
  refine jw_aload_n hC dL_law_1576 0 rfl rfl ?_
  refine jw_iload hC dL_law_1577 4 rfl ?_
  refine jw_iconst hC dL_law_1579 ?_
  refine jw_iadd hC dL_law_1580 ?_
  refine jw_sld hC hX (by omega) (by omega) dL_law_1581 ?_
  refine jw_aload_n hC dL_law_1582 3 rfl rfl ?_
  refine jx_callSH (post := hp_needed M (sx xs (i + 1)) (sx xs (i + 2)) (sx xs (i + 3)) (sx xs (i + 4))) hC (h_needed l hfl E M (Rl_st0 h) (sx xs (i + 1)) (sx_1 _ _) (sx_2 _ _) (sx xs (i + 2)) (sx_1 _ _) (sx_2 _ _) (sx xs (i + 3)) (sx_1 _ _) (sx_2 _ _) (sx xs (i + 4)) (sx_1 _ _) (sx_2 _ _)) sH_needed dL_law_1583 rfl rfl ⟨Nat.le_of_ble_eq_true rfl, Nat.le_of_ble_eq_true rfl⟩ ⟨hc1.1, hc1.2⟩ (Nat.le_of_ble_eq_true rfl) (fun v5 M5 g5 => ?_)
  obtain ⟨kk, rfl, hkk, hct⟩ := m_needed l E (sx xs (i + 1)) (sx_1 _ _) (sx_2 _ _) (sx xs (i + 2)) (sx_1 _ _) (sx_2 _ _) (sx xs (i + 3)) (sx_1 _ _) (sx_2 _ _) (sx xs (i + 4)) (sx_1 _ _) (sx_2 _ _) h g5
  refine jw_istore (L' := [(5, _), (0, _), (1, _), (2, _), (3, _), (4, _)]) hC dL_law_1586 (by decide) rfl ?_
  refine jw_aload_n hC dL_law_1588 3 rfl rfl ?_
  refine jw_aload_n hC dL_law_1589 1 rfl rfl ?_
  refine jw_iload hC dL_law_1590 5 rfl ?_
  refine jw_iconst hC dL_law_1592 ?_
  refine jw_iadd hC dL_law_1593 ?_
  refine jw_sld hC hX (by omega) (by omega) dL_law_1594 ?_
  refine jw_aload_n hC dL_law_1595 1 rfl rfl ?_
  refine jw_iload hC dL_law_1596 5 rfl ?_
  refine jw_iconst hC dL_law_1598 ?_
  refine jw_iadd hC dL_law_1599 ?_
  refine jw_sld hC hX (by omega) (by omega) dL_law_1600 ?_
  refine jw_aload_n hC dL_law_1601 1 rfl rfl ?_
  refine jw_iload hC dL_law_1602 5 rfl ?_
  refine jw_iconst hC dL_law_1604 ?_
  refine jw_iadd hC dL_law_1605 ?_
  refine jw_sld hC hX (by omega) (by omega) dL_law_1606 ?_
  refine jw_aload_n hC dL_law_1607 1 rfl rfl ?_
  refine jw_iload hC dL_law_1608 5 rfl ?_
  refine jw_iconst hC dL_law_1610 ?_
  refine jw_iadd hC dL_law_1611 ?_
  refine jw_sld hC hX (by omega) (by omega) dL_law_1612 ?_
  refine jw_callV hC hct sV_L_175 ewF_m0.o dL_law_1613 rfl rfl ⟨Nat.le_of_ble_eq_true rfl, Nat.le_of_ble_eq_true rfl⟩ ⟨hc1.1, hc1.2⟩ (Nat.le_of_ble_eq_true rfl) (fun v6 T g6 => ?_)
  obtain ⟨r, rfl, hth, hRl, hw⟩ := g6
  have wb1 := wr_b1 r
  have wb2 := wr_b2 r
  rw [show vpush (some (vI r)) [] = [vI (wr r)] from by rw [vI_wr]; rfl]
  refine jw_istore (L' := [(6, _), (5, _), (0, _), (1, _), (2, _), (3, _), (4, _)]) hC dL_law_1616 (by decide) rfl ?_
  refine jw_aload_n hC dL_law_1618 4 rfl rfl ?_
  refine jw_callV hC (c_X5_thrown l E T) sV_L_91 ewF_m0.o dL_law_1619 rfl rfl ⟨Nat.le_of_ble_eq_true rfl, Nat.le_of_ble_eq_true rfl⟩ ⟨hc1.1, hc1.2⟩ (Nat.le_of_ble_eq_true rfl) (fun v7 T7 g7 => ?_)
  obtain ⟨rfl, rfl⟩ := g7
  rw [hth]
  refine jw_iload hC dL_law_1622 1 rfl ?_
  refine jw_icmp_eq (tgt := 1629) hC dL_law_1624 (by decide) (by omega) (by omega) (by omega) (by omega) (fun _ => ?_) (fun hne => absurd rfl hne)
  refine jw_iload hC dL_law_1629 1 rfl ?_
  refine jw_if_ne (tgt := 1646) hC dL_law_1631 (by decide) (by omega) (by omega) (fun hk0 => ?_) (fun hk0 => ?_)
  · refine jw_goto (tgt := 1704) hC dL_law_1646 (by decide) ?_
    exact jw_loc (L' := [(0, _), (1, _), (2, _), (3, _), (4, _)]) [2, 3, 4, 5, 6] rfl (kb T hRl)
  · skip
    have hw := hw (by omega)
    refine jw_aload_n hC dL_law_1634 5 rfl rfl ?_
    refine jw_iconst hC dL_law_1635 ?_
    refine jw_lald97 hC dL_law_1636 ?_
    rw [hw]
    refine jw_iload hC dL_law_1637 0 rfl ?_
    refine jw_i2l hC dL_law_1639 wb1 wb2 ?_
    refine jw_lcmp hC dL_law_1640 (by omega) (by omega) (by omega) (by omega) ?_
    refine jw_if_eq (tgt := 1646) hC dL_law_1641 (by decide) lcm_b1 lcm_b2 (fun _ => ?_) (fun hne => absurd rfl (mt lcm_eq.mpr hne))
    refine jw_goto (tgt := 1704) hC dL_law_1646 (by decide) ?_
    exact jw_loc (L' := [(0, _), (1, _), (2, _), (3, _), (4, _)]) [2, 3, 4, 5, 6] rfl (kb T hRl)
set_option maxRecDepth 100000 in
set_option maxHeartbeats 4000000 in
theorem lc_wholeShare {p : Program} {l : Launch} {e : Env} {s : State} {m : MethodId} {args : Array Value} {below : List Frame} {meth : Method} {c : Code} {E : ewE} {A : Nat → Prop} {cells slots : Nat} {Q : State → Prop} {b N : Nat} {xs : Nat → Int32} (hC : jC p e room_1 s m args meth c E A code 9 "EmbossPressLaw" (some .boolean)) (hfl : l.stackTraces = false) (hX : lwX s E A b N xs) {M : ewM} (h : Rl M) (i : Int) (hi : 0 ≤ i ∧ i + 5 < N) (hc1 : cells + 1 ≤ 601024 ∧ slots + 6 ≤ 7293034)
    (kb : ∀ T : ewM, Rl T → jJ p l e room_1 s m args below meth c E A 9 (cells + 1) (slots + 6) Q 1704 [(0, vR E 300), (1, vR E 77), (2, vR E 88), (3, vR E 97), (4, vI i)] [] T) : jJ p l e room_1 s m args below meth c E A 9 cells slots Q 1649 [(0, vR E 300), (1, vR E 77), (2, vR E 88), (3, vR E 97), (4, vI i)] [] M := by
  have hN := hX.2.2.2.2
  refine jw_aload_n hC dL_law_1649 1 rfl rfl ?_
  refine jw_callV hC (c_X4_wholeShare l E M (Rl_st0 h)) sV_L_176 ewF_x4.o dL_law_1650 rfl rfl ⟨Nat.le_of_ble_eq_true rfl, Nat.le_of_ble_eq_true rfl⟩ ⟨Nat.le_of_succ_le hc1.1, Nat.le_trans (Nat.le_add_right _ _) hc1.2⟩ (Nat.le_of_ble_eq_true rfl) (fun v5 M5 g5 => ?_)
  obtain ⟨n, hn, rfl, hct⟩ := n_share l E h g5
  refine jw_dstore (L' := [(5, _), (0, _), (1, _), (2, _), (3, _), (4, _)]) hC dL_law_1653 (by decide) rfl ?_
  refine jw_aload_n hC dL_law_1655 3 rfl rfl ?_
  refine jw_callV hC hct sV_L_180 ewF_m0.o dL_law_1656 rfl rfl ⟨Nat.le_of_ble_eq_true rfl, Nat.le_of_ble_eq_true rfl⟩ ⟨Nat.le_of_succ_le hc1.1, Nat.le_trans (Nat.le_add_right _ _) hc1.2⟩ (Nat.le_of_ble_eq_true rfl) (fun v6 T g6 => ?_)
  obtain ⟨rfl, hRl⟩ := g6
  refine jw_dstore (L' := [(7, _), (5, _), (0, _), (1, _), (2, _), (3, _), (4, _)]) hC dL_law_1659 (by decide) rfl ?_
  refine jw_dload hC 1 rfl dL_law_1661 ?_
  refine jw_dload hC 0 rfl dL_law_1663 ?_
  have hd := f_all_n hn.1 hn.2
  simp only [f_all, Bool.and_eq_true, decide_eq_true_eq] at hd
  refine jw_dcmp (n := 0) hC (by rw [← hd.2.1]; exact (Int32.ofInt_toInt _).symm) dL_law_1665 ?_
  refine jw_if_eq (tgt := 1687) hC dL_law_1666 (by decide) (by decide) (by decide) (fun _ => ?_) (fun hne => absurd rfl hne)
  refine jw_goto (tgt := 1704) hC dL_law_1687 (by decide) ?_
  refine jw_widen (k := cells + 1) (n := slots + 6) (Nat.le_add_right _ _) (Nat.le_add_right _ _) ?_
  exact jw_loc (L' := [(0, _), (1, _), (2, _), (3, _), (4, _)]) [2, 3, 4, 5, 6] rfl (kb T hRl)
set_option maxRecDepth 100000 in
set_option maxHeartbeats 4000000 in
theorem lc_digest {p : Program} {l : Launch} {e : Env} {s : State} {m : MethodId} {args : Array Value} {below : List Frame} {meth : Method} {c : Code} {E : ewE} {A : Nat → Prop} {cells slots : Nat} {Q : State → Prop} {b N : Nat} {xs : Nat → Int32} (hC : jC p e room_1 s m args meth c E A code 9 "EmbossPressLaw" (some .boolean)) (hfl : l.stackTraces = false) (hX : lwX s E A b N xs) {M : ewM} (h : Rl M) (i : Int) (hi : 0 ≤ i ∧ i + 5 < N) (hc1 : cells + 1 ≤ 601024 ∧ slots + 6 ≤ 7293034)
    (kb : ∀ T : ewM, Rl T → jJ p l e room_1 s m args below meth c E A 9 (cells + 1) (slots + 6) Q 1704 [(0, vR E 300), (1, vR E 77), (2, vR E 88), (3, vR E 97), (4, vI i)] [] T) : jJ p l e room_1 s m args below meth c E A 9 cells slots Q 1690 [(0, vR E 300), (1, vR E 77), (2, vR E 88), (3, vR E 97), (4, vI i)] [] M := by
  have hN := hX.2.2.2.2
  refine jw_aload_n hC dL_law_1690 1 rfl rfl ?_
  refine jw_callV hC (c_X4_digest l E M (Rl_st0 h) h.2.2.2.1 (by rw [h.2.2.1.1]; exact h.2.2.1.2.1)) sV_L_181 ewF_x4.o dL_law_1691 rfl rfl ⟨Nat.le_of_ble_eq_true rfl, Nat.le_of_ble_eq_true rfl⟩ ⟨Nat.le_of_succ_le hc1.1, Nat.le_trans (Nat.le_add_right _ _) hc1.2⟩ (Nat.le_of_ble_eq_true rfl) (fun v5 M5 g5 => ?_)
  obtain ⟨z, rfl, hct⟩ := n_dig l E h g5
  rw [show vpush (some (vJ z)) [] = [vJ (Int64.ofInt z).toInt] from by unfold vJ; rw [Int64.ofInt_toInt]; rfl]
  refine jw_aload_n hC dL_law_1694 2 rfl rfl ?_
  refine jw_callV hC hct sV_L_185 ewF_m0.o dL_law_1695 rfl rfl ⟨Nat.le_of_ble_eq_true rfl, Nat.le_of_ble_eq_true rfl⟩ ⟨Nat.le_of_succ_le hc1.1, Nat.le_trans (Nat.le_add_right _ _) hc1.2⟩ (Nat.le_of_ble_eq_true rfl) (fun v6 T g6 => ?_)
  obtain ⟨rfl, hRl⟩ := g6
  rw [show vpush (some (vJ z)) [vJ (Int64.ofInt z).toInt] = [vJ (Int64.ofInt z).toInt, vJ (Int64.ofInt z).toInt] from by unfold vJ; rw [Int64.ofInt_toInt]; rfl]
  have lb1 := Int64.le_toInt (Int64.ofInt z)
  have lb2 := Int64.toInt_lt (Int64.ofInt z)
  refine jw_lcmp hC dL_law_1698 (by omega) (by omega) (by omega) (by omega) ?_
  refine jw_if_eq (tgt := 1704) hC dL_law_1699 (by decide) lcm_b1 lcm_b2 (fun _ => ?_) (fun hne => absurd rfl (mt lcm_eq.mpr hne))
  refine jw_widen (k := cells + 1) (n := slots + 6) (Nat.le_add_right _ _) (Nat.le_add_right _ _) ?_
  exact kb T hRl
