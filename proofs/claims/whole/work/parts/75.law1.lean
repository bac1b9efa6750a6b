/-! ===== the law: one call of each, side by side ===== -/
abbrev M_L (nm : String) : zM := (RL, ⟨RL, nm, "([I)Z"⟩, cL_law, 4, some .boolean, 63)
abbrev lvL (n : Nat) : List (Nat × Value) := [(0, .ref 1002), (1, .ref 0), (2, .ref 41), (3, .int (nI n))]
theorem s_arg {Z : zS} {nm : String} {d : Nat} {Q : List Value → zW → Prop} {N pc n : Nat} {st : List Value} {w : zW} (k : Nat) {i : Int} (h0 : decode cL_law pc = .ok (.aload_n 0, 1)) (h1 : decode cL_law (pc + 1) = .ok (.iload_n 3, 1)) (h2 : decode cL_law (pc + 2) = .ok (.iconst i, 1)) (hi : Int32.ofInt i = nI k) (h3 : decode cL_law (pc + 3) = .ok (.iadd, 1)) (h4 : decode cL_law (pc + 4) = .ok (.iaload, 1)) (hk : n + k < Z.1) (hL : Z.1 ≤ 3072) (kk : zG Z (M_L nm) d Q N (pc + 5) (lvL n) (.int (Z.2 (n + k)) :: st) w) : zG Z (M_L nm) d Q N pc (lvL n) st w := by
  refine s_aload_n (x := 1002) h0 rfl ?_
  refine s_iload_n (x := nI n) h1 rfl ?_
  refine s_iconst (v := nI k) h2 hi ?_
  refine s_iadd h3 ?_
  rw [nI_add]
  exact s_rald (v := Z.2 (n + k)) 2 h4 rfl (by decide) (zrd (n := Z.1) hk (show Z.1 < 2 ^ 31 by omega)) (by show Z.2 (nI (n + k)).toNatClampNeg = _; rw [nI_clamp (by omega)]) kk
set_option maxHeartbeats 4000000 in
set_option maxRecDepth 100000 in
theorem o_corner {Z : zS} {nm : String} {Q : List Value → zW → Prop} {n : Nat} {w : zW} (hL : Z.1 ≤ 3072) (hn : n + 6 ≤ Z.1) (h : INV w) (K : ∀ w2, INV w2 → zG Z (M_L nm) 10 Q 0 1187 (lvL n) [] w2) : zG Z (M_L nm) 10 Q 0 188 (lvL n) [] w := by
  obtain ⟨fs0, hf0⟩ := INV_0 h
  obtain ⟨r, w1, w2, fs, hx, hy, hf, hI⟩ := P_corner (Z := Z) h (Z.2 (n + 1)) (Z.2 (n + 2))
  refine s_aload_n dL_law_188 rfl ?_
  refine s_arg 1 dL_law_189 dL_law_190 dL_law_191 rfl dL_law_192 dL_law_193 (by omega) hL ?_
  refine s_arg 2 dL_law_194 dL_law_195 dL_law_196 rfl dL_law_197 dL_law_198 (by omega) hL ?_
  refine s_cv1 dL_law_199 g_L_13 hx hf0 rfl rfl rfl rfl (Nat.le_of_ble_eq_true rfl) (Nat.le_of_ble_eq_true rfl) rfl ?_
  refine s_aload_n dL_law_202 rfl ?_
  refine s_arg 1 dL_law_203 dL_law_204 dL_law_205 rfl dL_law_206 dL_law_207 (by omega) hL ?_
  refine s_arg 2 dL_law_208 dL_law_209 dL_law_210 rfl dL_law_211 dL_law_212 (by omega) hL ?_
  refine s_cv1 dL_law_213 g_L_17 hy hf rfl rfl rfl rfl (Nat.le_of_ble_eq_true rfl) (Nat.le_of_ble_eq_true rfl) rfl ?_
  exact s_icmp_eq (tgt := 1187) dL_law_216 (by decide) (fun _ => K _ hI) (fun z => absurd rfl z)
set_option maxHeartbeats 4000000 in
set_option maxRecDepth 100000 in
theorem o_code {Z : zS} {nm : String} {Q : List Value → zW → Prop} {n : Nat} {w : zW} (hL : Z.1 ≤ 3072) (hn : n + 6 ≤ Z.1) (h : INV w) (K : ∀ w2, INV w2 → zG Z (M_L nm) 10 Q 0 1187 (lvL n) [] w2) : zG Z (M_L nm) 10 Q 0 221 (lvL n) [] w := by
  obtain ⟨fs0, hf0⟩ := INV_0 h
  obtain ⟨r, w1, w2, fs, hx, hy, hf, hI⟩ := P_code (Z := Z) h (Z.2 (n + 1))
  refine s_aload_n dL_law_221 rfl ?_
  refine s_arg 1 dL_law_222 dL_law_223 dL_law_224 rfl dL_law_225 dL_law_226 (by omega) hL ?_
  refine s_cv1 dL_law_227 g_L_18 hx hf0 rfl rfl rfl rfl (Nat.le_of_ble_eq_true rfl) (Nat.le_of_ble_eq_true rfl) rfl ?_
  refine s_aload_n dL_law_230 rfl ?_
  refine s_arg 1 dL_law_231 dL_law_232 dL_law_233 rfl dL_law_234 dL_law_235 (by omega) hL ?_
  refine s_cv1 dL_law_236 g_L_22 hy hf rfl rfl rfl rfl (Nat.le_of_ble_eq_true rfl) (Nat.le_of_ble_eq_true rfl) rfl ?_
  exact s_icmp_eq (tgt := 1187) dL_law_239 (by decide) (fun _ => K _ hI) (fun z => absurd rfl z)
set_option maxHeartbeats 4000000 in
set_option maxRecDepth 100000 in
theorem o_move {Z : zS} {nm : String} {Q : List Value → zW → Prop} {n : Nat} {w : zW} (hL : Z.1 ≤ 3072) (hn : n + 6 ≤ Z.1) (h : INV w) (K : ∀ w2, INV w2 → zG Z (M_L nm) 10 Q 0 1187 (lvL n) [] w2) : zG Z (M_L nm) 10 Q 0 244 (lvL n) [] w := by
  obtain ⟨fs0, hf0⟩ := INV_0 h
  obtain ⟨r, w1, w2, fs, hx, hy, hf, hI⟩ := P_move (Z := Z) h (Z.2 (n + 1))
  refine s_aload_n dL_law_244 rfl ?_
  refine s_arg 1 dL_law_245 dL_law_246 dL_law_247 rfl dL_law_248 dL_law_249 (by omega) hL ?_
  refine s_cv1 dL_law_250 g_L_23 hx hf0 rfl rfl rfl rfl (Nat.le_of_ble_eq_true rfl) (Nat.le_of_ble_eq_true rfl) rfl ?_
  refine s_aload_n dL_law_253 rfl ?_
  refine s_arg 1 dL_law_254 dL_law_255 dL_law_256 rfl dL_law_257 dL_law_258 (by omega) hL ?_
  refine s_cv1 dL_law_259 g_L_26 hy hf rfl rfl rfl rfl (Nat.le_of_ble_eq_true rfl) (Nat.le_of_ble_eq_true rfl) rfl ?_
  exact s_icmp_eq (tgt := 1187) dL_law_262 (by decide) (fun _ => K _ hI) (fun z => absurd rfl z)
set_option maxHeartbeats 4000000 in
set_option maxRecDepth 100000 in
theorem o_becomes {Z : zS} {nm : String} {Q : List Value → zW → Prop} {n : Nat} {w : zW} (hL : Z.1 ≤ 3072) (hn : n + 6 ≤ Z.1) (h : INV w) (K : ∀ w2, INV w2 → zG Z (M_L nm) 10 Q 0 1187 (lvL n) [] w2) : zG Z (M_L nm) 10 Q 0 267 (lvL n) [] w := by
  obtain ⟨fs0, hf0⟩ := INV_0 h
  obtain ⟨r, w1, w2, fs, hx, hy, hf, hI⟩ := P_becomes (Z := Z) h (Z.2 (n + 1))
  refine s_aload_n dL_law_267 rfl ?_
  refine s_arg 1 dL_law_268 dL_law_269 dL_law_270 rfl dL_law_271 dL_law_272 (by omega) hL ?_
  refine s_cv1 dL_law_273 g_L_27 hx hf0 rfl rfl rfl rfl (Nat.le_of_ble_eq_true rfl) (Nat.le_of_ble_eq_true rfl) rfl ?_
  refine s_aload_n dL_law_276 rfl ?_
  refine s_arg 1 dL_law_277 dL_law_278 dL_law_279 rfl dL_law_280 dL_law_281 (by omega) hL ?_
  refine s_cv1 dL_law_282 g_L_30 hy hf rfl rfl rfl rfl (Nat.le_of_ble_eq_true rfl) (Nat.le_of_ble_eq_true rfl) rfl ?_
  exact s_icmp_eq (tgt := 1187) dL_law_285 (by decide) (fun _ => K _ hI) (fun z => absurd rfl z)
set_option maxHeartbeats 4000000 in
set_option maxRecDepth 100000 in
theorem o_keep {Z : zS} {nm : String} {Q : List Value → zW → Prop} {n : Nat} {w : zW} (hL : Z.1 ≤ 3072) (hn : n + 6 ≤ Z.1) (h : INV w) (K : ∀ w2, INV w2 → zG Z (M_L nm) 10 Q 0 1187 (lvL n) [] w2) : zG Z (M_L nm) 10 Q 0 290 (lvL n) [] w := by
  obtain ⟨fs0, hf0⟩ := INV_0 h
  obtain ⟨r, w1, w2, fs, hx, hy, hf, hI⟩ := P_keep (Z := Z) h 
  refine s_aload_n dL_law_290 rfl ?_
  refine s_cv1 dL_law_291 g_L_31 hx hf0 rfl rfl rfl rfl (Nat.le_of_ble_eq_true rfl) (Nat.le_of_ble_eq_true rfl) rfl ?_
  refine s_aload_n dL_law_294 rfl ?_
  refine s_cv1 dL_law_295 g_L_35 hy hf rfl rfl rfl rfl (Nat.le_of_ble_eq_true rfl) (Nat.le_of_ble_eq_true rfl) rfl ?_
  exact s_icmp_eq (tgt := 1187) dL_law_298 (by decide) (fun _ => K _ hI) (fun z => absurd rfl z)
set_option maxHeartbeats 4000000 in
set_option maxRecDepth 100000 in
theorem o_feed {Z : zS} {nm : String} {Q : List Value → zW → Prop} {n : Nat} {w : zW} (hL : Z.1 ≤ 3072) (hn : n + 6 ≤ Z.1) (h : INV w) (K : ∀ w2, INV w2 → zG Z (M_L nm) 10 Q 0 1187 (lvL n) [] w2) : zG Z (M_L nm) 10 Q 0 303 (lvL n) [] w := by
  obtain ⟨fs0, hf0⟩ := INV_0 h
  obtain ⟨r, w1, w2, fs, hx, hy, hf, hI⟩ := P_feed (Z := Z) h (Z.2 (n + 1))
  refine s_aload_n dL_law_303 rfl ?_
  refine s_arg 1 dL_law_304 dL_law_305 dL_law_306 rfl dL_law_307 dL_law_308 (by omega) hL ?_
  refine s_cv1 dL_law_309 g_L_36 hx hf0 rfl rfl rfl rfl (Nat.le_of_ble_eq_true rfl) (Nat.le_of_ble_eq_true rfl) rfl ?_
  refine s_aload_n dL_law_312 rfl ?_
  refine s_arg 1 dL_law_313 dL_law_314 dL_law_315 rfl dL_law_316 dL_law_317 (by omega) hL ?_
  refine s_cv1 dL_law_318 g_L_39 hy hf rfl rfl rfl rfl (Nat.le_of_ble_eq_true rfl) (Nat.le_of_ble_eq_true rfl) rfl ?_
  exact s_icmp_eq (tgt := 1187) dL_law_321 (by decide) (fun _ => K _ hI) (fun z => absurd rfl z)
set_option maxHeartbeats 4000000 in
set_option maxRecDepth 100000 in
theorem o_read {Z : zS} {nm : String} {Q : List Value → zW → Prop} {n : Nat} {w : zW} (hL : Z.1 ≤ 3072) (hn : n + 6 ≤ Z.1) (h : INV w) (K : ∀ w2, INV w2 → zG Z (M_L nm) 10 Q 0 1187 (lvL n) [] w2) : zG Z (M_L nm) 10 Q 0 326 (lvL n) [] w := by
  obtain ⟨fs0, hf0⟩ := INV_0 h
  obtain ⟨r, w1, w2, fs, hx, hy, hf, hI⟩ := P_read (Z := Z) h 
  refine s_aload_n dL_law_326 rfl ?_
  refine s_cv1 dL_law_327 g_L_40 hx hf0 rfl rfl rfl rfl (Nat.le_of_ble_eq_true rfl) (Nat.le_of_ble_eq_true rfl) rfl ?_
  refine s_aload_n dL_law_330 rfl ?_
  refine s_cv1 dL_law_331 g_L_43 hy hf rfl rfl rfl rfl (Nat.le_of_ble_eq_true rfl) (Nat.le_of_ble_eq_true rfl) rfl ?_
  exact s_icmp_eq (tgt := 1187) dL_law_334 (by decide) (fun _ => K _ hI) (fun z => absurd rfl z)
set_option maxHeartbeats 4000000 in
set_option maxRecDepth 100000 in
theorem o_told {Z : zS} {nm : String} {Q : List Value → zW → Prop} {n : Nat} {w : zW} (hL : Z.1 ≤ 3072) (hn : n + 6 ≤ Z.1) (h : INV w) (K : ∀ w2, INV w2 → zG Z (M_L nm) 10 Q 0 1187 (lvL n) [] w2) : zG Z (M_L nm) 10 Q 0 339 (lvL n) [] w := by
  obtain ⟨fs0, hf0⟩ := INV_0 h
  obtain ⟨r, w1, w2, fs, hx, hy, hf, hI⟩ := P_told (Z := Z) h (Z.2 (n + 1))
  refine s_aload_n dL_law_339 rfl ?_
  refine s_arg 1 dL_law_340 dL_law_341 dL_law_342 rfl dL_law_343 dL_law_344 (by omega) hL ?_
  refine s_cv1 dL_law_345 g_L_44 hx hf0 rfl rfl rfl rfl (Nat.le_of_ble_eq_true rfl) (Nat.le_of_ble_eq_true rfl) rfl ?_
  refine s_aload_n dL_law_348 rfl ?_
  refine s_arg 1 dL_law_349 dL_law_350 dL_law_351 rfl dL_law_352 dL_law_353 (by omega) hL ?_
  refine s_cv1 dL_law_354 g_L_47 hy hf rfl rfl rfl rfl (Nat.le_of_ble_eq_true rfl) (Nat.le_of_ble_eq_true rfl) rfl ?_
  exact s_icmp_eq (tgt := 1187) dL_law_357 (by decide) (fun _ => K _ hI) (fun z => absurd rfl z)
set_option maxHeartbeats 4000000 in
set_option maxRecDepth 100000 in
theorem o_carried {Z : zS} {nm : String} {Q : List Value → zW → Prop} {n : Nat} {w : zW} (hL : Z.1 ≤ 3072) (hn : n + 6 ≤ Z.1) (h : INV w) (K : ∀ w2, INV w2 → zG Z (M_L nm) 10 Q 0 1187 (lvL n) [] w2) : zG Z (M_L nm) 10 Q 0 362 (lvL n) [] w := by
  obtain ⟨fs0, hf0⟩ := INV_0 h
  obtain ⟨r, w1, w2, fs, hx, hy, hf, hI⟩ := P_carried (Z := Z) h (Z.2 (n + 1)) (Z.2 (n + 2))
  refine s_aload_n dL_law_362 rfl ?_
  refine s_arg 1 dL_law_363 dL_law_364 dL_law_365 rfl dL_law_366 dL_law_367 (by omega) hL ?_
  refine s_arg 2 dL_law_368 dL_law_369 dL_law_370 rfl dL_law_371 dL_law_372 (by omega) hL ?_
  refine s_cv1 dL_law_373 g_L_48 hx hf0 rfl rfl rfl rfl (Nat.le_of_ble_eq_true rfl) (Nat.le_of_ble_eq_true rfl) rfl ?_
  refine s_aload_n dL_law_376 rfl ?_
  refine s_arg 1 dL_law_377 dL_law_378 dL_law_379 rfl dL_law_380 dL_law_381 (by omega) hL ?_
  refine s_arg 2 dL_law_382 dL_law_383 dL_law_384 rfl dL_law_385 dL_law_386 (by omega) hL ?_
  refine s_cv1 dL_law_387 g_L_51 hy hf rfl rfl rfl rfl (Nat.le_of_ble_eq_true rfl) (Nat.le_of_ble_eq_true rfl) rfl ?_
  exact s_icmp_eq (tgt := 1187) dL_law_390 (by decide) (fun _ => K _ hI) (fun z => absurd rfl z)
set_option maxHeartbeats 4000000 in
set_option maxRecDepth 100000 in
theorem o_imaged {Z : zS} {nm : String} {Q : List Value → zW → Prop} {n : Nat} {w : zW} (hL : Z.1 ≤ 3072) (hn : n + 6 ≤ Z.1) (h : INV w) (K : ∀ w2, INV w2 → zG Z (M_L nm) 10 Q 0 1187 (lvL n) [] w2) : zG Z (M_L nm) 10 Q 0 395 (lvL n) [] w := by
  obtain ⟨fs0, hf0⟩ := INV_0 h
  obtain ⟨r, w1, w2, fs, hx, hy, hf, hI⟩ := P_imaged (Z := Z) h (Z.2 (n + 1))
  refine s_aload_n dL_law_395 rfl ?_
  refine s_arg 1 dL_law_396 dL_law_397 dL_law_398 rfl dL_law_399 dL_law_400 (by omega) hL ?_
  refine s_cv1 dL_law_401 g_L_52 hx hf0 rfl rfl rfl rfl (Nat.le_of_ble_eq_true rfl) (Nat.le_of_ble_eq_true rfl) rfl ?_
  refine s_aload_n dL_law_404 rfl ?_
  refine s_arg 1 dL_law_405 dL_law_406 dL_law_407 rfl dL_law_408 dL_law_409 (by omega) hL ?_
  refine s_cv1 dL_law_410 g_L_55 hy hf rfl rfl rfl rfl (Nat.le_of_ble_eq_true rfl) (Nat.le_of_ble_eq_true rfl) rfl ?_
  exact s_icmp_eq (tgt := 1187) dL_law_413 (by decide) (fun _ => K _ hI) (fun z => absurd rfl z)
set_option maxHeartbeats 4000000 in
set_option maxRecDepth 100000 in
theorem o_form {Z : zS} {nm : String} {Q : List Value → zW → Prop} {n : Nat} {w : zW} (hL : Z.1 ≤ 3072) (hn : n + 6 ≤ Z.1) (h : INV w) (K : ∀ w2, INV w2 → zG Z (M_L nm) 10 Q 0 1187 (lvL n) [] w2) : zG Z (M_L nm) 10 Q 0 418 (lvL n) [] w := by
  obtain ⟨fs0, hf0⟩ := INV_0 h
  obtain ⟨r, w1, w2, fs, hx, hy, hf, hI⟩ := P_form (Z := Z) h (Z.2 (n + 1))
  refine s_aload_n dL_law_418 rfl ?_
  refine s_arg 1 dL_law_419 dL_law_420 dL_law_421 rfl dL_law_422 dL_law_423 (by omega) hL ?_
  refine s_cv1 dL_law_424 g_L_56 hx hf0 rfl rfl rfl rfl (Nat.le_of_ble_eq_true rfl) (Nat.le_of_ble_eq_true rfl) rfl ?_
  refine s_aload_n dL_law_427 rfl ?_
  refine s_arg 1 dL_law_428 dL_law_429 dL_law_430 rfl dL_law_431 dL_law_432 (by omega) hL ?_
  refine s_cv1 dL_law_433 g_L_59 hy hf rfl rfl rfl rfl (Nat.le_of_ble_eq_true rfl) (Nat.le_of_ble_eq_true rfl) rfl ?_
  exact s_icmp_eq (tgt := 1187) dL_law_436 (by decide) (fun _ => K _ hI) (fun z => absurd rfl z)
set_option maxHeartbeats 4000000 in
set_option maxRecDepth 100000 in
theorem o_classes {Z : zS} {nm : String} {Q : List Value → zW → Prop} {n : Nat} {w : zW} (hL : Z.1 ≤ 3072) (hn : n + 6 ≤ Z.1) (h : INV w) (K : ∀ w2, INV w2 → zG Z (M_L nm) 10 Q 0 1187 (lvL n) [] w2) : zG Z (M_L nm) 10 Q 0 441 (lvL n) [] w := by
  obtain ⟨fs0, hf0⟩ := INV_0 h
  obtain ⟨r, w1, w2, fs, hx, hy, hf, hI⟩ := P_classes (Z := Z) h (Z.2 (n + 1))
  refine s_aload_n dL_law_441 rfl ?_
  refine s_arg 1 dL_law_442 dL_law_443 dL_law_444 rfl dL_law_445 dL_law_446 (by omega) hL ?_
  refine s_cv1 dL_law_447 g_L_60 hx hf0 rfl rfl rfl rfl (Nat.le_of_ble_eq_true rfl) (Nat.le_of_ble_eq_true rfl) rfl ?_
  refine s_aload_n dL_law_450 rfl ?_
  refine s_arg 1 dL_law_451 dL_law_452 dL_law_453 rfl dL_law_454 dL_law_455 (by omega) hL ?_
  refine s_cv1 dL_law_456 g_L_63 hy hf rfl rfl rfl rfl (Nat.le_of_ble_eq_true rfl) (Nat.le_of_ble_eq_true rfl) rfl ?_
  exact s_icmp_eq (tgt := 1187) dL_law_459 (by decide) (fun _ => K _ hI) (fun z => absurd rfl z)
set_option maxHeartbeats 4000000 in
set_option maxRecDepth 100000 in
theorem o_weighs {Z : zS} {nm : String} {Q : List Value → zW → Prop} {n : Nat} {w : zW} (hL : Z.1 ≤ 3072) (hn : n + 6 ≤ Z.1) (h : INV w) (K : ∀ w2, INV w2 → zG Z (M_L nm) 10 Q 0 1187 (lvL n) [] w2) : zG Z (M_L nm) 10 Q 0 464 (lvL n) [] w := by
  obtain ⟨fs0, hf0⟩ := INV_0 h
  obtain ⟨r, w1, w2, fs, hx, hy, hf, hI⟩ := P_weighs (Z := Z) h (Z.2 (n + 1)) (Z.2 (n + 2)) (Z.2 (n + 3)) (Z.2 (n + 4))
  refine s_aload_n dL_law_464 rfl ?_
  refine s_arg 1 dL_law_465 dL_law_466 dL_law_467 rfl dL_law_468 dL_law_469 (by omega) hL ?_
  refine s_arg 2 dL_law_470 dL_law_471 dL_law_472 rfl dL_law_473 dL_law_474 (by omega) hL ?_
  refine s_arg 3 dL_law_475 dL_law_476 dL_law_477 rfl dL_law_478 dL_law_479 (by omega) hL ?_
  refine s_arg 4 dL_law_480 dL_law_481 dL_law_482 rfl dL_law_483 dL_law_484 (by omega) hL ?_
  refine s_cv1 dL_law_485 g_L_64 hx hf0 rfl rfl rfl rfl (Nat.le_of_ble_eq_true rfl) (Nat.le_of_ble_eq_true rfl) rfl ?_
  refine s_aload_n dL_law_488 rfl ?_
  refine s_arg 1 dL_law_489 dL_law_490 dL_law_491 rfl dL_law_492 dL_law_493 (by omega) hL ?_
  refine s_arg 2 dL_law_494 dL_law_495 dL_law_496 rfl dL_law_497 dL_law_498 (by omega) hL ?_
  refine s_arg 3 dL_law_499 dL_law_500 dL_law_501 rfl dL_law_502 dL_law_503 (by omega) hL ?_
  refine s_arg 4 dL_law_504 dL_law_505 dL_law_506 rfl dL_law_507 dL_law_508 (by omega) hL ?_
  refine s_cv1 dL_law_509 g_L_68 hy hf rfl rfl rfl rfl (Nat.le_of_ble_eq_true rfl) (Nat.le_of_ble_eq_true rfl) rfl ?_
  exact s_icmp_eq (tgt := 1187) dL_law_512 (by decide) (fun _ => K _ hI) (fun z => absurd rfl z)
set_option maxHeartbeats 4000000 in
set_option maxRecDepth 100000 in
theorem o_face {Z : zS} {nm : String} {Q : List Value → zW → Prop} {n : Nat} {w : zW} (hL : Z.1 ≤ 3072) (hn : n + 6 ≤ Z.1) (h : INV w) (K : ∀ w2, INV w2 → zG Z (M_L nm) 10 Q 0 1187 (lvL n) [] w2) : zG Z (M_L nm) 10 Q 0 517 (lvL n) [] w := by
  obtain ⟨fs0, hf0⟩ := INV_0 h
  obtain ⟨r, w1, w2, fs, hx, hy, hf, hI⟩ := P_face (Z := Z) h (Z.2 (n + 1))
  refine s_aload_n dL_law_517 rfl ?_
  refine s_arg 1 dL_law_518 dL_law_519 dL_law_520 rfl dL_law_521 dL_law_522 (by omega) hL ?_
  refine s_cv1 dL_law_523 g_L_69 hx hf0 rfl rfl rfl rfl (Nat.le_of_ble_eq_true rfl) (Nat.le_of_ble_eq_true rfl) rfl ?_
  refine s_aload_n dL_law_526 rfl ?_
  refine s_arg 1 dL_law_527 dL_law_528 dL_law_529 rfl dL_law_530 dL_law_531 (by omega) hL ?_
  refine s_cv1 dL_law_532 g_L_72 hy hf rfl rfl rfl rfl (Nat.le_of_ble_eq_true rfl) (Nat.le_of_ble_eq_true rfl) rfl ?_
  exact s_icmp_eq (tgt := 1187) dL_law_535 (by decide) (fun _ => K _ hI) (fun z => absurd rfl z)
set_option maxHeartbeats 4000000 in
set_option maxRecDepth 100000 in
theorem o_edge {Z : zS} {nm : String} {Q : List Value → zW → Prop} {n : Nat} {w : zW} (hL : Z.1 ≤ 3072) (hn : n + 6 ≤ Z.1) (h : INV w) (K : ∀ w2, INV w2 → zG Z (M_L nm) 10 Q 0 1187 (lvL n) [] w2) : zG Z (M_L nm) 10 Q 0 540 (lvL n) [] w := by
  obtain ⟨fs0, hf0⟩ := INV_0 h
  obtain ⟨r, w1, w2, fs, hx, hy, hf, hI⟩ := P_edge (Z := Z) h (Z.2 (n + 1)) (Z.2 (n + 2))
  refine s_aload_n dL_law_540 rfl ?_
  refine s_arg 1 dL_law_541 dL_law_542 dL_law_543 rfl dL_law_544 dL_law_545 (by omega) hL ?_
  refine s_arg 2 dL_law_546 dL_law_547 dL_law_548 rfl dL_law_549 dL_law_550 (by omega) hL ?_
  refine s_cv1 dL_law_551 g_L_73 hx hf0 rfl rfl rfl rfl (Nat.le_of_ble_eq_true rfl) (Nat.le_of_ble_eq_true rfl) rfl ?_
  refine s_aload_n dL_law_554 rfl ?_
  refine s_arg 1 dL_law_555 dL_law_556 dL_law_557 rfl dL_law_558 dL_law_559 (by omega) hL ?_
  refine s_arg 2 dL_law_560 dL_law_561 dL_law_562 rfl dL_law_563 dL_law_564 (by omega) hL ?_
  refine s_cv1 dL_law_565 g_L_76 hy hf rfl rfl rfl rfl (Nat.le_of_ble_eq_true rfl) (Nat.le_of_ble_eq_true rfl) rfl ?_
  exact s_icmp_eq (tgt := 1187) dL_law_568 (by decide) (fun _ => K _ hI) (fun z => absurd rfl z)
set_option maxHeartbeats 4000000 in
set_option maxRecDepth 100000 in
theorem o_points {Z : zS} {nm : String} {Q : List Value → zW → Prop} {n : Nat} {w : zW} (hL : Z.1 ≤ 3072) (hn : n + 6 ≤ Z.1) (h : INV w) (K : ∀ w2, INV w2 → zG Z (M_L nm) 10 Q 0 1187 (lvL n) [] w2) : zG Z (M_L nm) 10 Q 0 573 (lvL n) [] w := by
  obtain ⟨fs0, hf0⟩ := INV_0 h
  obtain ⟨r, w1, w2, fs, hx, hy, hf, hI⟩ := P_points (Z := Z) h (Z.2 (n + 1))
  refine s_aload_n dL_law_573 rfl ?_
  refine s_arg 1 dL_law_574 dL_law_575 dL_law_576 rfl dL_law_577 dL_law_578 (by omega) hL ?_
  refine s_cv1 dL_law_579 g_L_77 hx hf0 rfl rfl rfl rfl (Nat.le_of_ble_eq_true rfl) (Nat.le_of_ble_eq_true rfl) rfl ?_
  refine s_aload_n dL_law_582 rfl ?_
  refine s_arg 1 dL_law_583 dL_law_584 dL_law_585 rfl dL_law_586 dL_law_587 (by omega) hL ?_
  refine s_cv1 dL_law_588 g_L_80 hy hf rfl rfl rfl rfl (Nat.le_of_ble_eq_true rfl) (Nat.le_of_ble_eq_true rfl) rfl ?_
  exact s_icmp_eq (tgt := 1187) dL_law_591 (by decide) (fun _ => K _ hI) (fun z => absurd rfl z)
set_option maxHeartbeats 4000000 in
set_option maxRecDepth 100000 in
theorem o_holds {Z : zS} {nm : String} {Q : List Value → zW → Prop} {n : Nat} {w : zW} (hL : Z.1 ≤ 3072) (hn : n + 6 ≤ Z.1) (h : INV w) (K : ∀ w2, INV w2 → zG Z (M_L nm) 10 Q 0 1187 (lvL n) [] w2) : zG Z (M_L nm) 10 Q 0 596 (lvL n) [] w := by
  obtain ⟨fs0, hf0⟩ := INV_0 h
  obtain ⟨r, w1, w2, fs, hx, hy, hf, hI⟩ := P_holds (Z := Z) h (Z.2 (n + 1)) (Z.2 (n + 2)) (Z.2 (n + 3)) (Z.2 (n + 4))
  refine s_aload_n dL_law_596 rfl ?_
  refine s_arg 1 dL_law_597 dL_law_598 dL_law_599 rfl dL_law_600 dL_law_601 (by omega) hL ?_
  refine s_arg 2 dL_law_602 dL_law_603 dL_law_604 rfl dL_law_605 dL_law_606 (by omega) hL ?_
  refine s_arg 3 dL_law_607 dL_law_608 dL_law_609 rfl dL_law_610 dL_law_611 (by omega) hL ?_
  refine s_arg 4 dL_law_612 dL_law_613 dL_law_614 rfl dL_law_615 dL_law_616 (by omega) hL ?_
  refine s_cv1 dL_law_617 g_L_81 hx hf0 rfl rfl rfl rfl (Nat.le_of_ble_eq_true rfl) (Nat.le_of_ble_eq_true rfl) rfl ?_
  refine s_aload_n dL_law_620 rfl ?_
  refine s_arg 1 dL_law_621 dL_law_622 dL_law_623 rfl dL_law_624 dL_law_625 (by omega) hL ?_
  refine s_arg 2 dL_law_626 dL_law_627 dL_law_628 rfl dL_law_629 dL_law_630 (by omega) hL ?_
  refine s_arg 3 dL_law_631 dL_law_632 dL_law_633 rfl dL_law_634 dL_law_635 (by omega) hL ?_
  refine s_arg 4 dL_law_636 dL_law_637 dL_law_638 rfl dL_law_639 dL_law_640 (by omega) hL ?_
  refine s_cv1 dL_law_641 g_L_84 hy hf rfl rfl rfl rfl (Nat.le_of_ble_eq_true rfl) (Nat.le_of_ble_eq_true rfl) rfl ?_
  exact s_icmp_eq (tgt := 1187) dL_law_644 (by decide) (fun _ => K _ hI) (fun z => absurd rfl z)
set_option maxHeartbeats 4000000 in
set_option maxRecDepth 100000 in
theorem o_floats {Z : zS} {nm : String} {Q : List Value → zW → Prop} {n : Nat} {w : zW} (hL : Z.1 ≤ 3072) (hn : n + 6 ≤ Z.1) (h : INV w) (K : ∀ w2, INV w2 → zG Z (M_L nm) 10 Q 0 1187 (lvL n) [] w2) : zG Z (M_L nm) 10 Q 0 649 (lvL n) [] w := by
  obtain ⟨fs0, hf0⟩ := INV_0 h
  obtain ⟨r, w1, w2, fs, hx, hy, hf, hI⟩ := P_floats (Z := Z) h (Z.2 (n + 1))
  refine s_aload_n dL_law_649 rfl ?_
  refine s_arg 1 dL_law_650 dL_law_651 dL_law_652 rfl dL_law_653 dL_law_654 (by omega) hL ?_
  refine s_cv1 dL_law_655 g_L_85 hx hf0 rfl rfl rfl rfl (Nat.le_of_ble_eq_true rfl) (Nat.le_of_ble_eq_true rfl) rfl ?_
  refine s_aload_n dL_law_658 rfl ?_
  refine s_arg 1 dL_law_659 dL_law_660 dL_law_661 rfl dL_law_662 dL_law_663 (by omega) hL ?_
  refine s_cv1 dL_law_664 g_L_88 hy hf rfl rfl rfl rfl (Nat.le_of_ble_eq_true rfl) (Nat.le_of_ble_eq_true rfl) rfl ?_
  exact s_icmp_eq (tgt := 1187) dL_law_667 (by decide) (fun _ => K _ hI) (fun z => absurd rfl z)
set_option maxHeartbeats 4000000 in
set_option maxRecDepth 100000 in
theorem o_spread {Z : zS} {nm : String} {Q : List Value → zW → Prop} {n : Nat} {w : zW} (hL : Z.1 ≤ 3072) (hn : n + 6 ≤ Z.1) (h : INV w) (K : ∀ w2, INV w2 → zG Z (M_L nm) 10 Q 0 1187 (lvL n) [] w2) : zG Z (M_L nm) 10 Q 0 672 (lvL n) [] w := by
  obtain ⟨fs0, hf0⟩ := INV_0 h
  obtain ⟨r, w1, w2, fs, hx, hy, hf, hI⟩ := P_spread (Z := Z) h 
  refine s_aload_n dL_law_672 rfl ?_
  refine s_cv1 dL_law_673 g_L_89 hx hf0 rfl rfl rfl rfl (Nat.le_of_ble_eq_true rfl) (Nat.le_of_ble_eq_true rfl) rfl ?_
  refine s_aload_n dL_law_676 rfl ?_
  refine s_cv1 dL_law_677 g_L_93 hy hf rfl rfl rfl rfl (Nat.le_of_ble_eq_true rfl) (Nat.le_of_ble_eq_true rfl) rfl ?_
  refine s_lcmp dL_law_680 ?_
  exact s_if_eq (tgt := 1187) dL_law_681 (by decide) (fun _ => K _ hI) (fun z => absurd (zlcmpE.mpr rfl) z)
set_option maxHeartbeats 4000000 in
set_option maxRecDepth 100000 in
theorem o_see {Z : zS} {nm : String} {Q : List Value → zW → Prop} {n : Nat} {w : zW} (hL : Z.1 ≤ 3072) (hn : n + 6 ≤ Z.1) (h : INV w) (K : ∀ w2, INV w2 → zG Z (M_L nm) 10 Q 0 1187 (lvL n) [] w2) : zG Z (M_L nm) 10 Q 0 686 (lvL n) [] w := by
  obtain ⟨fs0, hf0⟩ := INV_0 h
  obtain ⟨r, w1, w2, fs, hx, hy, hf, hI⟩ := P_see (Z := Z) h (Z.2 (n + 1)) (Z.2 (n + 2))
  refine s_aload_n dL_law_686 rfl ?_
  refine s_arg 1 dL_law_687 dL_law_688 dL_law_689 rfl dL_law_690 dL_law_691 (by omega) hL ?_
  refine s_arg 2 dL_law_692 dL_law_693 dL_law_694 rfl dL_law_695 dL_law_696 (by omega) hL ?_
  refine s_cv1 dL_law_697 g_L_94 hx hf0 rfl rfl rfl rfl (Nat.le_of_ble_eq_true rfl) (Nat.le_of_ble_eq_true rfl) rfl ?_
  refine s_aload_n dL_law_700 rfl ?_
  refine s_arg 1 dL_law_701 dL_law_702 dL_law_703 rfl dL_law_704 dL_law_705 (by omega) hL ?_
  refine s_arg 2 dL_law_706 dL_law_707 dL_law_708 rfl dL_law_709 dL_law_710 (by omega) hL ?_
  refine s_cv1 dL_law_711 g_L_97 hy hf rfl rfl rfl rfl (Nat.le_of_ble_eq_true rfl) (Nat.le_of_ble_eq_true rfl) rfl ?_
  exact s_icmp_eq (tgt := 1187) dL_law_714 (by decide) (fun _ => K _ hI) (fun z => absurd rfl z)
set_option maxHeartbeats 4000000 in
set_option maxRecDepth 100000 in
theorem o_fits {Z : zS} {nm : String} {Q : List Value → zW → Prop} {n : Nat} {w : zW} (hL : Z.1 ≤ 3072) (hn : n + 6 ≤ Z.1) (h : INV w) (K : ∀ w2, INV w2 → zG Z (M_L nm) 10 Q 0 1187 (lvL n) [] w2) : zG Z (M_L nm) 10 Q 0 719 (lvL n) [] w := by
  obtain ⟨fs0, hf0⟩ := INV_0 h
  obtain ⟨r, w1, w2, fs, hx, hy, hf, hI⟩ := P_fits (Z := Z) h 
  refine s_aload_n dL_law_719 rfl ?_
  refine s_cv1 dL_law_720 g_L_98 hx hf0 rfl rfl rfl rfl (Nat.le_of_ble_eq_true rfl) (Nat.le_of_ble_eq_true rfl) rfl ?_
  refine s_aload_n dL_law_723 rfl ?_
  refine s_cv1 dL_law_724 g_L_101 hy hf rfl rfl rfl rfl (Nat.le_of_ble_eq_true rfl) (Nat.le_of_ble_eq_true rfl) rfl ?_
  exact s_icmp_eq (tgt := 1187) dL_law_727 (by decide) (fun _ => K _ hI) (fun z => absurd rfl z)
set_option maxHeartbeats 4000000 in
set_option maxRecDepth 100000 in
theorem o_odds {Z : zS} {nm : String} {Q : List Value → zW → Prop} {n : Nat} {w : zW} (hL : Z.1 ≤ 3072) (hn : n + 6 ≤ Z.1) (h : INV w) (K : ∀ w2, INV w2 → zG Z (M_L nm) 10 Q 0 1187 (lvL n) [] w2) : zG Z (M_L nm) 10 Q 0 732 (lvL n) [] w := by
  obtain ⟨fs0, hf0⟩ := INV_0 h
  obtain ⟨r, w1, w2, fs, hx, hy, hf, hI⟩ := P_odds (Z := Z) h (Z.2 (n + 1)) (Z.2 (n + 2))
  refine s_aload_n dL_law_732 rfl ?_
  refine s_arg 1 dL_law_733 dL_law_734 dL_law_735 rfl dL_law_736 dL_law_737 (by omega) hL ?_
  refine s_arg 2 dL_law_738 dL_law_739 dL_law_740 rfl dL_law_741 dL_law_742 (by omega) hL ?_
  refine s_cv1 dL_law_743 g_L_102 hx hf0 rfl rfl rfl rfl (Nat.le_of_ble_eq_true rfl) (Nat.le_of_ble_eq_true rfl) rfl ?_
  refine s_aload_n dL_law_746 rfl ?_
  refine s_arg 1 dL_law_747 dL_law_748 dL_law_749 rfl dL_law_750 dL_law_751 (by omega) hL ?_
  refine s_arg 2 dL_law_752 dL_law_753 dL_law_754 rfl dL_law_755 dL_law_756 (by omega) hL ?_
  refine s_cv1 dL_law_757 g_L_106 hy hf rfl rfl rfl rfl (Nat.le_of_ble_eq_true rfl) (Nat.le_of_ble_eq_true rfl) rfl ?_
  refine s_lcmp dL_law_760 ?_
  exact s_if_eq (tgt := 1187) dL_law_761 (by decide) (fun _ => K _ hI) (fun z => absurd (zlcmpE.mpr rfl) z)
set_option maxHeartbeats 4000000 in
set_option maxRecDepth 100000 in
theorem o_mean {Z : zS} {nm : String} {Q : List Value → zW → Prop} {n : Nat} {w : zW} (hL : Z.1 ≤ 3072) (hn : n + 6 ≤ Z.1) (h : INV w) (K : ∀ w2, INV w2 → zG Z (M_L nm) 10 Q 0 1187 (lvL n) [] w2) : zG Z (M_L nm) 10 Q 0 766 (lvL n) [] w := by
  obtain ⟨fs0, hf0⟩ := INV_0 h
  obtain ⟨r, w1, w2, fs, hx, hy, hf, hI⟩ := P_mean (Z := Z) h (Z.2 (n + 1))
  refine s_aload_n dL_law_766 rfl ?_
  refine s_arg 1 dL_law_767 dL_law_768 dL_law_769 rfl dL_law_770 dL_law_771 (by omega) hL ?_
  refine s_cv1 dL_law_772 g_L_107 hx hf0 rfl rfl rfl rfl (Nat.le_of_ble_eq_true rfl) (Nat.le_of_ble_eq_true rfl) rfl ?_
  refine s_aload_n dL_law_775 rfl ?_
  refine s_arg 1 dL_law_776 dL_law_777 dL_law_778 rfl dL_law_779 dL_law_780 (by omega) hL ?_
  refine s_cv1 dL_law_781 g_L_111 hy hf rfl rfl rfl rfl (Nat.le_of_ble_eq_true rfl) (Nat.le_of_ble_eq_true rfl) rfl ?_
  refine s_lcmp dL_law_784 ?_
  exact s_if_eq (tgt := 1187) dL_law_785 (by decide) (fun _ => K _ hI) (fun z => absurd (zlcmpE.mpr rfl) z)
set_option maxHeartbeats 4000000 in
set_option maxRecDepth 100000 in
theorem o_event {Z : zS} {nm : String} {Q : List Value → zW → Prop} {n : Nat} {w : zW} (hL : Z.1 ≤ 3072) (hn : n + 6 ≤ Z.1) (h : INV w) (K : ∀ w2, INV w2 → zG Z (M_L nm) 10 Q 0 1187 (lvL n) [] w2) : zG Z (M_L nm) 10 Q 0 790 (lvL n) [] w := by
  obtain ⟨fs0, hf0⟩ := INV_0 h
  obtain ⟨r, w1, w2, fs, hx, hy, hf, hI⟩ := P_event (Z := Z) h (Z.2 (n + 1)) (Z.2 (n + 2))
  refine s_aload_n dL_law_790 rfl ?_
  refine s_arg 1 dL_law_791 dL_law_792 dL_law_793 rfl dL_law_794 dL_law_795 (by omega) hL ?_
  refine s_arg 2 dL_law_796 dL_law_797 dL_law_798 rfl dL_law_799 dL_law_800 (by omega) hL ?_
  refine s_cv1 dL_law_801 g_L_112 hx hf0 rfl rfl rfl rfl (Nat.le_of_ble_eq_true rfl) (Nat.le_of_ble_eq_true rfl) rfl ?_
  refine s_aload_n dL_law_804 rfl ?_
  refine s_arg 1 dL_law_805 dL_law_806 dL_law_807 rfl dL_law_808 dL_law_809 (by omega) hL ?_
  refine s_arg 2 dL_law_810 dL_law_811 dL_law_812 rfl dL_law_813 dL_law_814 (by omega) hL ?_
  refine s_cv1 dL_law_815 g_L_115 hy hf rfl rfl rfl rfl (Nat.le_of_ble_eq_true rfl) (Nat.le_of_ble_eq_true rfl) rfl ?_
  exact s_icmp_eq (tgt := 1187) dL_law_818 (by decide) (fun _ => K _ hI) (fun z => absurd rfl z)
set_option maxHeartbeats 4000000 in
set_option maxRecDepth 100000 in
theorem o_after {Z : zS} {nm : String} {Q : List Value → zW → Prop} {n : Nat} {w : zW} (hL : Z.1 ≤ 3072) (hn : n + 6 ≤ Z.1) (h : INV w) (K : ∀ w2, INV w2 → zG Z (M_L nm) 10 Q 0 1187 (lvL n) [] w2) : zG Z (M_L nm) 10 Q 0 823 (lvL n) [] w := by
  obtain ⟨fs0, hf0⟩ := INV_0 h
  obtain ⟨r, w1, w2, fs, hx, hy, hf, hI⟩ := P_after (Z := Z) h (Z.2 (n + 1))
  refine s_aload_n dL_law_823 rfl ?_
  refine s_arg 1 dL_law_824 dL_law_825 dL_law_826 rfl dL_law_827 dL_law_828 (by omega) hL ?_
  refine s_cv1 dL_law_829 g_L_116 hx hf0 rfl rfl rfl rfl (Nat.le_of_ble_eq_true rfl) (Nat.le_of_ble_eq_true rfl) rfl ?_
  refine s_aload_n dL_law_832 rfl ?_
  refine s_arg 1 dL_law_833 dL_law_834 dL_law_835 rfl dL_law_836 dL_law_837 (by omega) hL ?_
  refine s_cv1 dL_law_838 g_L_119 hy hf rfl rfl rfl rfl (Nat.le_of_ble_eq_true rfl) (Nat.le_of_ble_eq_true rfl) rfl ?_
  exact s_icmp_eq (tgt := 1187) dL_law_841 (by decide) (fun _ => K _ hI) (fun z => absurd rfl z)
set_option maxHeartbeats 4000000 in
set_option maxRecDepth 100000 in
theorem o_book {Z : zS} {nm : String} {Q : List Value → zW → Prop} {n : Nat} {w : zW} (hL : Z.1 ≤ 3072) (hn : n + 6 ≤ Z.1) (h : INV w) (K : ∀ w2, INV w2 → zG Z (M_L nm) 10 Q 0 1187 (lvL n) [] w2) : zG Z (M_L nm) 10 Q 0 846 (lvL n) [] w := by
  obtain ⟨fs0, hf0⟩ := INV_0 h
  obtain ⟨r, w1, w2, fs, hx, hy, hf, hI⟩ := P_book (Z := Z) h (Z.2 (n + 1)) (Z.2 (n + 2))
  refine s_aload_n dL_law_846 rfl ?_
  refine s_arg 1 dL_law_847 dL_law_848 dL_law_849 rfl dL_law_850 dL_law_851 (by omega) hL ?_
  refine s_arg 2 dL_law_852 dL_law_853 dL_law_854 rfl dL_law_855 dL_law_856 (by omega) hL ?_
  refine s_cv1 dL_law_857 g_L_120 hx hf0 rfl rfl rfl rfl (Nat.le_of_ble_eq_true rfl) (Nat.le_of_ble_eq_true rfl) rfl ?_
  refine s_aload_n dL_law_860 rfl ?_
  refine s_arg 1 dL_law_861 dL_law_862 dL_law_863 rfl dL_law_864 dL_law_865 (by omega) hL ?_
  refine s_arg 2 dL_law_866 dL_law_867 dL_law_868 rfl dL_law_869 dL_law_870 (by omega) hL ?_
  refine s_cv1 dL_law_871 g_L_123 hy hf rfl rfl rfl rfl (Nat.le_of_ble_eq_true rfl) (Nat.le_of_ble_eq_true rfl) rfl ?_
  exact s_icmp_eq (tgt := 1187) dL_law_874 (by decide) (fun _ => K _ hI) (fun z => absurd rfl z)
set_option maxHeartbeats 4000000 in
set_option maxRecDepth 100000 in
theorem o_looked {Z : zS} {nm : String} {Q : List Value → zW → Prop} {n : Nat} {w : zW} (hL : Z.1 ≤ 3072) (hn : n + 6 ≤ Z.1) (h : INV w) (K : ∀ w2, INV w2 → zG Z (M_L nm) 10 Q 0 1187 (lvL n) [] w2) : zG Z (M_L nm) 10 Q 0 879 (lvL n) [] w := by
  obtain ⟨fs0, hf0⟩ := INV_0 h
  obtain ⟨r, w1, w2, fs, hx, hy, hf, hI⟩ := P_looked (Z := Z) h 
  refine s_aload_n dL_law_879 rfl ?_
  refine s_cv1 dL_law_880 g_L_124 hx hf0 rfl rfl rfl rfl (Nat.le_of_ble_eq_true rfl) (Nat.le_of_ble_eq_true rfl) rfl ?_
  refine s_aload_n dL_law_883 rfl ?_
  refine s_cv1 dL_law_884 g_L_127 hy hf rfl rfl rfl rfl (Nat.le_of_ble_eq_true rfl) (Nat.le_of_ble_eq_true rfl) rfl ?_
  exact s_icmp_eq (tgt := 1187) dL_law_887 (by decide) (fun _ => K _ hI) (fun z => absurd rfl z)
set_option maxHeartbeats 4000000 in
set_option maxRecDepth 100000 in
theorem o_judge {Z : zS} {nm : String} {Q : List Value → zW → Prop} {n : Nat} {w : zW} (hL : Z.1 ≤ 3072) (hn : n + 6 ≤ Z.1) (h : INV w) (K : ∀ w2, INV w2 → zG Z (M_L nm) 10 Q 0 1187 (lvL n) [] w2) : zG Z (M_L nm) 10 Q 0 892 (lvL n) [] w := by
  obtain ⟨fs0, hf0⟩ := INV_0 h
  obtain ⟨r, w1, w2, fs, hx, hy, hf, hI⟩ := P_judge (Z := Z) h (Z.2 (n + 1)) (Z.2 (n + 2))
  refine s_aload_n dL_law_892 rfl ?_
  refine s_arg 1 dL_law_893 dL_law_894 dL_law_895 rfl dL_law_896 dL_law_897 (by omega) hL ?_
  refine s_arg 2 dL_law_898 dL_law_899 dL_law_900 rfl dL_law_901 dL_law_902 (by omega) hL ?_
  refine s_cv1 dL_law_903 g_L_128 hx hf0 rfl rfl rfl rfl (Nat.le_of_ble_eq_true rfl) (Nat.le_of_ble_eq_true rfl) rfl ?_
  refine s_aload_n dL_law_906 rfl ?_
  refine s_arg 1 dL_law_907 dL_law_908 dL_law_909 rfl dL_law_910 dL_law_911 (by omega) hL ?_
  refine s_arg 2 dL_law_912 dL_law_913 dL_law_914 rfl dL_law_915 dL_law_916 (by omega) hL ?_
  refine s_cv1 dL_law_917 g_L_131 hy hf rfl rfl rfl rfl (Nat.le_of_ble_eq_true rfl) (Nat.le_of_ble_eq_true rfl) rfl ?_
  exact s_icmp_eq (tgt := 1187) dL_law_920 (by decide) (fun _ => K _ hI) (fun z => absurd rfl z)
set_option maxHeartbeats 4000000 in
set_option maxRecDepth 100000 in
theorem o_image {Z : zS} {nm : String} {Q : List Value → zW → Prop} {n : Nat} {w : zW} (hL : Z.1 ≤ 3072) (hn : n + 6 ≤ Z.1) (h : INV w) (K : ∀ w2, INV w2 → zG Z (M_L nm) 10 Q 0 1187 (lvL n) [] w2) : zG Z (M_L nm) 10 Q 0 925 (lvL n) [] w := by
  obtain ⟨fs0, hf0⟩ := INV_0 h
  obtain ⟨r, w1, w2, fs, hx, hy, hf, hI⟩ := P_image (Z := Z) h 
  refine s_aload_n dL_law_925 rfl ?_
  refine s_cv1 dL_law_926 g_L_132 hx hf0 rfl rfl rfl rfl (Nat.le_of_ble_eq_true rfl) (Nat.le_of_ble_eq_true rfl) rfl ?_
  refine s_aload_n dL_law_929 rfl ?_
  refine s_cv1 dL_law_930 g_L_135 hy hf rfl rfl rfl rfl (Nat.le_of_ble_eq_true rfl) (Nat.le_of_ble_eq_true rfl) rfl ?_
  exact s_icmp_eq (tgt := 1187) dL_law_933 (by decide) (fun _ => K _ hI) (fun z => absurd rfl z)
set_option maxHeartbeats 4000000 in
set_option maxRecDepth 100000 in
theorem o_undo {Z : zS} {nm : String} {Q : List Value → zW → Prop} {n : Nat} {w : zW} (hL : Z.1 ≤ 3072) (hn : n + 6 ≤ Z.1) (h : INV w) (K : ∀ w2, INV w2 → zG Z (M_L nm) 10 Q 0 1187 (lvL n) [] w2) : zG Z (M_L nm) 10 Q 0 938 (lvL n) [] w := by
  obtain ⟨fs0, hf0⟩ := INV_0 h
  obtain ⟨r, w1, w2, fs, hx, hy, hf, hI⟩ := P_undo (Z := Z) h 
  refine s_aload_n dL_law_938 rfl ?_
  refine s_cv1 dL_law_939 g_L_136 hx hf0 rfl rfl rfl rfl (Nat.le_of_ble_eq_true rfl) (Nat.le_of_ble_eq_true rfl) rfl ?_
  refine s_aload_n dL_law_942 rfl ?_
  refine s_cv1 dL_law_943 g_L_139 hy hf rfl rfl rfl rfl (Nat.le_of_ble_eq_true rfl) (Nat.le_of_ble_eq_true rfl) rfl ?_
  exact s_icmp_eq (tgt := 1187) dL_law_946 (by decide) (fun _ => K _ hI) (fun z => absurd rfl z)
set_option maxHeartbeats 4000000 in
set_option maxRecDepth 100000 in
theorem o_count {Z : zS} {nm : String} {Q : List Value → zW → Prop} {n : Nat} {w : zW} (hL : Z.1 ≤ 3072) (hn : n + 6 ≤ Z.1) (h : INV w) (K : ∀ w2, INV w2 → zG Z (M_L nm) 10 Q 0 1187 (lvL n) [] w2) : zG Z (M_L nm) 10 Q 0 951 (lvL n) [] w := by
  obtain ⟨fs0, hf0⟩ := INV_0 h
  obtain ⟨r, w1, w2, fs, hx, hy, hf, hI⟩ := P_count (Z := Z) h (Z.2 (n + 1))
  refine s_aload_n dL_law_951 rfl ?_
  refine s_arg 1 dL_law_952 dL_law_953 dL_law_954 rfl dL_law_955 dL_law_956 (by omega) hL ?_
  refine s_cv1 dL_law_957 g_L_140 hx hf0 rfl rfl rfl rfl (Nat.le_of_ble_eq_true rfl) (Nat.le_of_ble_eq_true rfl) rfl ?_
  refine s_aload_n dL_law_960 rfl ?_
  refine s_arg 1 dL_law_961 dL_law_962 dL_law_963 rfl dL_law_964 dL_law_965 (by omega) hL ?_
  refine s_cv1 dL_law_966 g_L_143 hy hf rfl rfl rfl rfl (Nat.le_of_ble_eq_true rfl) (Nat.le_of_ble_eq_true rfl) rfl ?_
  exact s_icmp_eq (tgt := 1187) dL_law_969 (by decide) (fun _ => K _ hI) (fun z => absurd rfl z)
set_option maxHeartbeats 4000000 in
set_option maxRecDepth 100000 in
theorem o_tape {Z : zS} {nm : String} {Q : List Value → zW → Prop} {n : Nat} {w : zW} (hL : Z.1 ≤ 3072) (hn : n + 6 ≤ Z.1) (h : INV w) (K : ∀ w2, INV w2 → zG Z (M_L nm) 10 Q 0 1187 (lvL n) [] w2) : zG Z (M_L nm) 10 Q 0 974 (lvL n) [] w := by
  obtain ⟨fs0, hf0⟩ := INV_0 h
  obtain ⟨r, w1, w2, fs, hx, hy, hf, hI⟩ := P_tape (Z := Z) h (Z.2 (n + 1)) (Z.2 (n + 2)) (Z.2 (n + 3))
  refine s_aload_n dL_law_974 rfl ?_
  refine s_arg 1 dL_law_975 dL_law_976 dL_law_977 rfl dL_law_978 dL_law_979 (by omega) hL ?_
  refine s_arg 2 dL_law_980 dL_law_981 dL_law_982 rfl dL_law_983 dL_law_984 (by omega) hL ?_
  refine s_arg 3 dL_law_985 dL_law_986 dL_law_987 rfl dL_law_988 dL_law_989 (by omega) hL ?_
  refine s_cv1 dL_law_990 g_L_144 hx hf0 rfl rfl rfl rfl (Nat.le_of_ble_eq_true rfl) (Nat.le_of_ble_eq_true rfl) rfl ?_
  refine s_aload_n dL_law_993 rfl ?_
  refine s_arg 1 dL_law_994 dL_law_995 dL_law_996 rfl dL_law_997 dL_law_998 (by omega) hL ?_
  refine s_arg 2 dL_law_999 dL_law_1000 dL_law_1001 rfl dL_law_1002 dL_law_1003 (by omega) hL ?_
  refine s_arg 3 dL_law_1004 dL_law_1005 dL_law_1006 rfl dL_law_1007 dL_law_1008 (by omega) hL ?_
  refine s_cv1 dL_law_1009 g_L_148 hy hf rfl rfl rfl rfl (Nat.le_of_ble_eq_true rfl) (Nat.le_of_ble_eq_true rfl) rfl ?_
  exact s_icmp_eq (tgt := 1187) dL_law_1012 (by decide) (fun _ => K _ hI) (fun z => absurd rfl z)
set_option maxHeartbeats 4000000 in
set_option maxRecDepth 100000 in
theorem o_item {Z : zS} {nm : String} {Q : List Value → zW → Prop} {n : Nat} {w : zW} (hL : Z.1 ≤ 3072) (hn : n + 6 ≤ Z.1) (h : INV w) (K : ∀ w2, INV w2 → zG Z (M_L nm) 10 Q 0 1187 (lvL n) [] w2) : zG Z (M_L nm) 10 Q 0 1017 (lvL n) [] w := by
  obtain ⟨fs0, hf0⟩ := INV_0 h
  obtain ⟨r, w1, w2, fs, hx, hy, hf, hI⟩ := P_item (Z := Z) h (Z.2 (n + 1)) (Z.2 (n + 2)) ((Z.2 (n + 3)).toInt64 <<< ((32 : Int32).toInt64 &&& 63) ||| (Z.2 (n + 4)).toInt64 &&& 4294967295)
  refine s_aload_n dL_law_1017 rfl ?_
  refine s_arg 1 dL_law_1018 dL_law_1019 dL_law_1020 rfl dL_law_1021 dL_law_1022 (by omega) hL ?_
  refine s_arg 2 dL_law_1023 dL_law_1024 dL_law_1025 rfl dL_law_1026 dL_law_1027 (by omega) hL ?_
  refine s_arg 3 dL_law_1028 dL_law_1029 dL_law_1030 rfl dL_law_1031 dL_law_1032 (by omega) hL ?_
  refine s_i2l dL_law_1033 rfl ?_
  refine s_bipush (v := 32) dL_law_1034 rfl ?_
  refine s_lshl dL_law_1036 rfl ?_
  refine s_arg 4 dL_law_1037 dL_law_1038 dL_law_1039 rfl dL_law_1040 dL_law_1041 (by omega) hL ?_
  refine s_i2l dL_law_1042 rfl ?_
  refine s_ldc2 (v := (4294967295)) dL_law_1043 (show Cond.constantLong RL 149 4294967295 ∈ zGW from (zin 1065 (by decide +kernel) (by decide +kernel))) ?_
  refine s_land dL_law_1046 ?_
  refine s_lor dL_law_1047 ?_
  refine s_cv1 dL_law_1048 g_L_151 hx hf0 rfl rfl rfl rfl (Nat.le_of_ble_eq_true rfl) (Nat.le_of_ble_eq_true rfl) rfl ?_
  refine s_aload_n dL_law_1051 rfl ?_
  refine s_arg 1 dL_law_1052 dL_law_1053 dL_law_1054 rfl dL_law_1055 dL_law_1056 (by omega) hL ?_
  refine s_arg 2 dL_law_1057 dL_law_1058 dL_law_1059 rfl dL_law_1060 dL_law_1061 (by omega) hL ?_
  refine s_arg 3 dL_law_1062 dL_law_1063 dL_law_1064 rfl dL_law_1065 dL_law_1066 (by omega) hL ?_
  refine s_i2l dL_law_1067 rfl ?_
  refine s_bipush (v := 32) dL_law_1068 rfl ?_
  refine s_lshl dL_law_1070 rfl ?_
  refine s_arg 4 dL_law_1071 dL_law_1072 dL_law_1073 rfl dL_law_1074 dL_law_1075 (by omega) hL ?_
  refine s_i2l dL_law_1076 rfl ?_
  refine s_ldc2 (v := (4294967295)) dL_law_1077 (show Cond.constantLong RL 149 4294967295 ∈ zGW from (zin 1065 (by decide +kernel) (by decide +kernel))) ?_
  refine s_land dL_law_1080 ?_
  refine s_lor dL_law_1081 ?_
  refine s_cv1 dL_law_1082 g_L_155 hy hf rfl rfl rfl rfl (Nat.le_of_ble_eq_true rfl) (Nat.le_of_ble_eq_true rfl) rfl ?_
  exact s_icmp_eq (tgt := 1187) dL_law_1085 (by decide) (fun _ => K _ hI) (fun z => absurd rfl z)
set_option maxHeartbeats 4000000 in
set_option maxRecDepth 100000 in
theorem o_peek {Z : zS} {nm : String} {Q : List Value → zW → Prop} {n : Nat} {w : zW} (hL : Z.1 ≤ 3072) (hn : n + 6 ≤ Z.1) (h : INV w) (K : ∀ w2, INV w2 → zG Z (M_L nm) 10 Q 0 1187 (lvL n) [] w2) : zG Z (M_L nm) 10 Q 0 1090 (lvL n) [] w := by
  obtain ⟨fs0, hf0⟩ := INV_0 h
  obtain ⟨r, w1, w2, fs, hx, hy, hf, hI⟩ := P_peek (Z := Z) h (Z.2 (n + 1)) (Z.2 (n + 2))
  refine s_aload_n dL_law_1090 rfl ?_
  refine s_arg 1 dL_law_1091 dL_law_1092 dL_law_1093 rfl dL_law_1094 dL_law_1095 (by omega) hL ?_
  refine s_arg 2 dL_law_1096 dL_law_1097 dL_law_1098 rfl dL_law_1099 dL_law_1100 (by omega) hL ?_
  refine s_cv1 dL_law_1101 g_L_156 hx hf0 rfl rfl rfl rfl (Nat.le_of_ble_eq_true rfl) (Nat.le_of_ble_eq_true rfl) rfl ?_
  refine s_aload_n dL_law_1104 rfl ?_
  refine s_arg 1 dL_law_1105 dL_law_1106 dL_law_1107 rfl dL_law_1108 dL_law_1109 (by omega) hL ?_
  refine s_arg 2 dL_law_1110 dL_law_1111 dL_law_1112 rfl dL_law_1113 dL_law_1114 (by omega) hL ?_
  refine s_cv1 dL_law_1115 g_L_159 hy hf rfl rfl rfl rfl (Nat.le_of_ble_eq_true rfl) (Nat.le_of_ble_eq_true rfl) rfl ?_
  refine s_lcmp dL_law_1118 ?_
  exact s_if_eq (tgt := 1187) dL_law_1119 (by decide) (fun _ => K _ hI) (fun z => absurd (zlcmpE.mpr rfl) z)
set_option maxHeartbeats 4000000 in
set_option maxRecDepth 100000 in
theorem o_shift {Z : zS} {nm : String} {Q : List Value → zW → Prop} {n : Nat} {w : zW} (hL : Z.1 ≤ 3072) (hn : n + 6 ≤ Z.1) (h : INV w) (K : ∀ w2, INV w2 → zG Z (M_L nm) 10 Q 0 1187 (lvL n) [] w2) : zG Z (M_L nm) 10 Q 0 1124 (lvL n) [] w := by
  obtain ⟨fs0, hf0⟩ := INV_0 h
  obtain ⟨r, w1, w2, fs, hx, hy, hf, hI⟩ := P_shift (Z := Z) h (Z.2 (n + 1)) (Z.2 (n + 2)) (Z.2 (n + 3)) (Z.2 (n + 4)) (Z.2 (n + 5))
  refine s_aload_n dL_law_1124 rfl ?_
  refine s_arg 1 dL_law_1125 dL_law_1126 dL_law_1127 rfl dL_law_1128 dL_law_1129 (by omega) hL ?_
  refine s_arg 2 dL_law_1130 dL_law_1131 dL_law_1132 rfl dL_law_1133 dL_law_1134 (by omega) hL ?_
  refine s_arg 3 dL_law_1135 dL_law_1136 dL_law_1137 rfl dL_law_1138 dL_law_1139 (by omega) hL ?_
  refine s_arg 4 dL_law_1140 dL_law_1141 dL_law_1142 rfl dL_law_1143 dL_law_1144 (by omega) hL ?_
  refine s_arg 5 dL_law_1145 dL_law_1146 dL_law_1147 rfl dL_law_1148 dL_law_1149 (by omega) hL ?_
  refine s_cv1 dL_law_1150 g_L_160 hx hf0 rfl rfl rfl rfl (Nat.le_of_ble_eq_true rfl) (Nat.le_of_ble_eq_true rfl) rfl ?_
  refine s_aload_n dL_law_1153 rfl ?_
  refine s_arg 1 dL_law_1154 dL_law_1155 dL_law_1156 rfl dL_law_1157 dL_law_1158 (by omega) hL ?_
  refine s_arg 2 dL_law_1159 dL_law_1160 dL_law_1161 rfl dL_law_1162 dL_law_1163 (by omega) hL ?_
  refine s_arg 3 dL_law_1164 dL_law_1165 dL_law_1166 rfl dL_law_1167 dL_law_1168 (by omega) hL ?_
  refine s_arg 4 dL_law_1169 dL_law_1170 dL_law_1171 rfl dL_law_1172 dL_law_1173 (by omega) hL ?_
  refine s_arg 5 dL_law_1174 dL_law_1175 dL_law_1176 rfl dL_law_1177 dL_law_1178 (by omega) hL ?_
  refine s_cv1 dL_law_1179 g_L_164 hy hf rfl rfl rfl rfl (Nat.le_of_ble_eq_true rfl) (Nat.le_of_ble_eq_true rfl) rfl ?_
  exact s_icmp_eq (tgt := 1187) dL_law_1182 (by decide) (fun _ => K _ hI) (fun z => absurd rfl z)
