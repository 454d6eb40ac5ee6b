/-! THE LAW, call by call -/
set_option maxRecDepth 100000 in
set_option maxHeartbeats 600000 in
/-- letters -/
theorem lz_letters {p : Program} {l : Launch} {e : Env} {s : State} {m : MethodId} {below : List Frame} {meth : Method} {c : Code} {b L : Nat} {xs : Nat → Int32} {G : zw_G} {i n : Nat} {M : zw_M} {σ : zZ} (C0 : lz_K p s m meth c b L xs G) (h5 : i + 5 ≤ L) (hB : zB M σ n) (h512 : n ≤ 512) (next : ∀ (M1 : zw_M) (σ1 : zZ), zB M1 σ1 (n + 1) → lz_X p l e s m below meth c b G i 921 [] M1) : lz_X p l e s m below meth c b G i 152 [] M := by
  obtain ⟨hC, hJ, hok, hn⟩ := id hB
  obtain ⟨w, hw, ew⟩ := lz_ln ((zn_I (xs (i + 1)).toInt).toInt64 <<< ((32 : Int32).toInt64 &&& 63) ||| ((zn_I (xs (i + 2)).toInt).toInt64 &&& 4294967295))
  refine lz_ref1 C0 dL_law_152 ?_
  refine lz_arg C0 1 dL_law_153 dL_law_154 dL_law_155 dL_law_156 dL_law_157 (by omega) ?_
  refine lz_i2l C0 dL_law_158 ?_
  refine lz_bipush C0 (v := 32) dL_law_159 rfl ?_
  refine lz_lshl C0 dL_law_161 ?_
  refine lz_arg C0 2 dL_law_162 dL_law_163 dL_law_164 dL_law_165 dL_law_166 (by omega) ?_
  refine lz_i2l C0 dL_law_167 ?_
  refine lz_ldc2 C0 dL_law_168 kL_13 ?_
  refine lz_land C0 dL_law_171 ?_
  refine lz_lor C0 dL_law_172 ?_
  rw [ew]
  refine lz_callV C0 (y1 := iX10_letters) dL_law_173 (List.mem_of_getElem? (i := 367) (by decide +kernel)) vX10_letters rc_0 (mX10_letters (d := 0) hC hw) (Nat.le_of_ble_eq_true rfl) rfl rfl (Nat.le_of_ble_eq_true rfl) ?_
  intro v M1 he
  obtain ⟨rfl, hf, hC1⟩ := he
  have hJ1 := zJ_x hf hJ
  refine lz_ref2 C0 dL_law_176 ?_
  refine lz_arg C0 1 dL_law_177 dL_law_178 dL_law_179 dL_law_180 dL_law_181 (by omega) ?_
  refine lz_i2l C0 dL_law_182 ?_
  refine lz_bipush C0 (v := 32) dL_law_183 rfl ?_
  refine lz_lshl C0 dL_law_185 ?_
  refine lz_arg C0 2 dL_law_186 dL_law_187 dL_law_188 dL_law_189 dL_law_190 (by omega) ?_
  refine lz_i2l C0 dL_law_191 ?_
  refine lz_ldc2 C0 dL_law_192 kL_13 ?_
  refine lz_land C0 dL_law_195 ?_
  refine lz_lor C0 dL_law_196 ?_
  rw [ew]
  refine lz_callV C0 (y1 := iX11_letters) dL_law_197 (List.mem_of_getElem? (i := 1079) (by decide +kernel)) vX11_letters rc_33 (mX11_letters (d := 0) hJ1 hw) (Nat.le_of_ble_eq_true rfl) rfl rfl (Nat.le_of_ble_eq_true rfl) ?_
  intro v M2 he
  obtain ⟨rfl, hf2, hJ2⟩ := he
  refine lz_eq (st := []) C0 (tgt := 921) dL_law_200 (by decide) ?_
  exact next M2 (zk_lettersS σ w) ⟨zC_x hf2 hC1, hJ2, zok_letters hok, Nat.le_succ_of_le hn⟩
set_option maxRecDepth 100000 in
set_option maxHeartbeats 600000 in
/-- blank -/
theorem lz_blank {p : Program} {l : Launch} {e : Env} {s : State} {m : MethodId} {below : List Frame} {meth : Method} {c : Code} {b L : Nat} {xs : Nat → Int32} {G : zw_G} {i n : Nat} {M : zw_M} {σ : zZ} (C0 : lz_K p s m meth c b L xs G) (h5 : i + 5 ≤ L) (hB : zB M σ n) (h512 : n ≤ 512) (next : ∀ (M1 : zw_M) (σ1 : zZ), zB M1 σ1 (n + 1) → lz_X p l e s m below meth c b G i 921 [] M1) : lz_X p l e s m below meth c b G i 205 [] M := by
  obtain ⟨hC, hJ, hok, hn⟩ := id hB
  refine lz_ref1 C0 dL_law_205 ?_
  refine lz_callV C0 (y1 := iX10_blank) dL_law_206 (List.mem_of_getElem? (i := 382) (by decide +kernel)) vX10_blank rc_0 (mX10_blank (d := 0) hC) (Nat.le_of_ble_eq_true rfl) rfl rfl (Nat.le_of_ble_eq_true rfl) ?_
  intro v M1 he
  obtain ⟨rfl, hf, hC1⟩ := he
  have hJ1 := zJ_x hf hJ
  refine lz_ref2 C0 dL_law_209 ?_
  refine lz_callV C0 (y1 := iX11_blank) dL_law_210 (List.mem_of_getElem? (i := 1084) (by decide +kernel)) vX11_blank rc_33 (mX11_blank (d := 0) hJ1) (Nat.le_of_ble_eq_true rfl) rfl rfl (Nat.le_of_ble_eq_true rfl) ?_
  intro v M2 he
  obtain ⟨rfl, hf2, hJ2⟩ := he
  refine lz_eq (st := []) C0 (tgt := 921) dL_law_213 (by decide) ?_
  exact next M2 (zk_blankS σ) ⟨zC_x hf2 hC1, hJ2, zok_blank hok, Nat.le_succ_of_le hn⟩
set_option maxRecDepth 100000 in
set_option maxHeartbeats 600000 in
/-- fault -/
theorem lz_fault {p : Program} {l : Launch} {e : Env} {s : State} {m : MethodId} {below : List Frame} {meth : Method} {c : Code} {b L : Nat} {xs : Nat → Int32} {G : zw_G} {i n : Nat} {M : zw_M} {σ : zZ} (C0 : lz_K p s m meth c b L xs G) (h5 : i + 5 ≤ L) (hB : zB M σ n) (h512 : n ≤ 512) (next : ∀ (M1 : zw_M) (σ1 : zZ), zB M1 σ1 (n + 1) → lz_X p l e s m below meth c b G i 921 [] M1) : lz_X p l e s m below meth c b G i 218 [] M := by
  obtain ⟨hC, hJ, hok, hn⟩ := id hB
  refine lz_ref1 C0 dL_law_218 ?_
  refine lz_arg C0 1 dL_law_219 dL_law_220 dL_law_221 dL_law_222 dL_law_223 (by omega) ?_
  refine lz_callV C0 (y1 := iX10_fault) dL_law_224 (List.mem_of_getElem? (i := 394) (by decide +kernel)) vX10_fault rc_0 (mX10_fault (d := 0) hC (zn_rng (xs (i + 1)))) (Nat.le_of_ble_eq_true rfl) rfl rfl (Nat.le_of_ble_eq_true rfl) ?_
  intro v M1 he
  obtain ⟨rfl, hf, hC1⟩ := he
  have hJ1 := zJ_x hf hJ
  refine lz_ref2 C0 dL_law_227 ?_
  refine lz_arg C0 1 dL_law_228 dL_law_229 dL_law_230 dL_law_231 dL_law_232 (by omega) ?_
  refine lz_callV C0 (y1 := iX11_fault) dL_law_233 (List.mem_of_getElem? (i := 1088) (by decide +kernel)) vX11_fault rc_33 (mX11_fault (d := 0) hJ1 (zn_rng (xs (i + 1)))) (Nat.le_of_ble_eq_true rfl) rfl rfl (Nat.le_of_ble_eq_true rfl) ?_
  intro v M2 he
  obtain ⟨rfl, hf2, hJ2⟩ := he
  refine lz_eq (st := []) C0 (tgt := 921) dL_law_236 (by decide) ?_
  exact next M2 (σ) ⟨zC_x hf2 hC1, hJ2, hok, Nat.le_succ_of_le hn⟩
set_option maxRecDepth 100000 in
set_option maxHeartbeats 600000 in
/-- plan -/
theorem lz_plan {p : Program} {l : Launch} {e : Env} {s : State} {m : MethodId} {below : List Frame} {meth : Method} {c : Code} {b L : Nat} {xs : Nat → Int32} {G : zw_G} {i n : Nat} {M : zw_M} {σ : zZ} (C0 : lz_K p s m meth c b L xs G) (h5 : i + 5 ≤ L) (hB : zB M σ n) (h512 : n ≤ 512) (next : ∀ (M1 : zw_M) (σ1 : zZ), zB M1 σ1 (n + 1) → lz_X p l e s m below meth c b G i 921 [] M1) : lz_X p l e s m below meth c b G i 241 [] M := by
  obtain ⟨hC, hJ, hok, hn⟩ := id hB
  refine lz_ref1 C0 dL_law_241 ?_
  refine lz_callV C0 (y1 := iX10_plan) dL_law_242 (List.mem_of_getElem? (i := 424) (by decide +kernel)) vX10_plan rc_0 (mX10_plan (d := 0) hC) (Nat.le_of_ble_eq_true rfl) rfl rfl (Nat.le_of_ble_eq_true rfl) ?_
  intro v M1 he
  obtain ⟨rfl, hf, hC1⟩ := he
  have hJ1 := zJ_x hf hJ
  refine lz_ref2 C0 dL_law_245 ?_
  refine lz_callV C0 (y1 := iX11_plan) dL_law_246 (List.mem_of_getElem? (i := 1106) (by decide +kernel)) vX11_plan rc_33 (mX11_plan (d := 0) hJ1) (Nat.le_of_ble_eq_true rfl) rfl rfl (Nat.le_of_ble_eq_true rfl) ?_
  intro v M2 he
  obtain ⟨rfl, hf2, hJ2⟩ := he
  refine lz_eq (st := []) C0 (tgt := 921) dL_law_249 (by decide) ?_
  exact next M2 (zk_planS σ) ⟨zC_x hf2 hC1, hJ2, zok_plan hok, Nat.le_trans zn_plan (Nat.succ_le_succ hn)⟩
set_option maxRecDepth 100000 in
set_option maxHeartbeats 600000 in
/-- square -/
theorem lz_square {p : Program} {l : Launch} {e : Env} {s : State} {m : MethodId} {below : List Frame} {meth : Method} {c : Code} {b L : Nat} {xs : Nat → Int32} {G : zw_G} {i n : Nat} {M : zw_M} {σ : zZ} (C0 : lz_K p s m meth c b L xs G) (h5 : i + 5 ≤ L) (hB : zB M σ n) (h512 : n ≤ 512) (next : ∀ (M1 : zw_M) (σ1 : zZ), zB M1 σ1 (n + 1) → lz_X p l e s m below meth c b G i 921 [] M1) : lz_X p l e s m below meth c b G i 254 [] M := by
  obtain ⟨hC, hJ, hok, hn⟩ := id hB
  refine lz_ref1 C0 dL_law_254 ?_
  refine lz_arg C0 1 dL_law_255 dL_law_256 dL_law_257 dL_law_258 dL_law_259 (by omega) ?_
  refine lz_arg C0 2 dL_law_260 dL_law_261 dL_law_262 dL_law_263 dL_law_264 (by omega) ?_
  refine lz_callV C0 (y1 := iX10_square) dL_law_265 (List.mem_of_getElem? (i := 462) (by decide +kernel)) vX10_square rc_0 (mX10_square (d := 0) hC (zn_rng (xs (i + 1))) (zn_rng (xs (i + 2)))) (Nat.le_of_ble_eq_true rfl) rfl rfl (Nat.le_of_ble_eq_true rfl) ?_
  intro v M1 he
  obtain ⟨rfl, hf, hC1⟩ := he
  have hJ1 := zJ_x hf hJ
  refine lz_ref2 C0 dL_law_268 ?_
  refine lz_arg C0 1 dL_law_269 dL_law_270 dL_law_271 dL_law_272 dL_law_273 (by omega) ?_
  refine lz_arg C0 2 dL_law_274 dL_law_275 dL_law_276 dL_law_277 dL_law_278 (by omega) ?_
  refine lz_callV C0 (y1 := iX11_square) dL_law_279 (List.mem_of_getElem? (i := 1110) (by decide +kernel)) vX11_square rc_33 (mX11_square (d := 0) hJ1 (zn_rng (xs (i + 1))) (zn_rng (xs (i + 2)))) (Nat.le_of_ble_eq_true rfl) rfl rfl (Nat.le_of_ble_eq_true rfl) ?_
  intro v M2 he
  obtain ⟨rfl, hf2, hJ2⟩ := he
  refine lz_eq (st := []) C0 (tgt := 921) dL_law_282 (by decide) ?_
  exact next M2 (σ) ⟨zC_x hf2 hC1, hJ2, hok, Nat.le_succ_of_le hn⟩
set_option maxRecDepth 100000 in
set_option maxHeartbeats 600000 in
/-- thing -/
theorem lz_thing {p : Program} {l : Launch} {e : Env} {s : State} {m : MethodId} {below : List Frame} {meth : Method} {c : Code} {b L : Nat} {xs : Nat → Int32} {G : zw_G} {i n : Nat} {M : zw_M} {σ : zZ} (C0 : lz_K p s m meth c b L xs G) (h5 : i + 5 ≤ L) (hB : zB M σ n) (h512 : n ≤ 512) (next : ∀ (M1 : zw_M) (σ1 : zZ), zB M1 σ1 (n + 1) → lz_X p l e s m below meth c b G i 921 [] M1) : lz_X p l e s m below meth c b G i 287 [] M := by
  obtain ⟨hC, hJ, hok, hn⟩ := id hB
  refine lz_ref1 C0 dL_law_287 ?_
  refine lz_arg C0 1 dL_law_288 dL_law_289 dL_law_290 dL_law_291 dL_law_292 (by omega) ?_
  refine lz_arg C0 2 dL_law_293 dL_law_294 dL_law_295 dL_law_296 dL_law_297 (by omega) ?_
  refine lz_arg C0 3 dL_law_298 dL_law_299 dL_law_300 dL_law_301 dL_law_302 (by omega) ?_
  refine lz_callV C0 (y1 := iX10_thing) dL_law_303 (List.mem_of_getElem? (i := 485) (by decide +kernel)) vX10_thing rc_0 (mX10_thing (d := 0) hC (zn_rng (xs (i + 1))) (zn_rng (xs (i + 2))) (zn_rng (xs (i + 3)))) (Nat.le_of_ble_eq_true rfl) rfl rfl (Nat.le_of_ble_eq_true rfl) ?_
  intro v M1 he
  obtain ⟨rfl, hf, hC1⟩ := he
  have hJ1 := zJ_x hf hJ
  refine lz_ref2 C0 dL_law_306 ?_
  refine lz_arg C0 1 dL_law_307 dL_law_308 dL_law_309 dL_law_310 dL_law_311 (by omega) ?_
  refine lz_arg C0 2 dL_law_312 dL_law_313 dL_law_314 dL_law_315 dL_law_316 (by omega) ?_
  refine lz_arg C0 3 dL_law_317 dL_law_318 dL_law_319 dL_law_320 dL_law_321 (by omega) ?_
  refine lz_callV C0 (y1 := iX11_thing) dL_law_322 (List.mem_of_getElem? (i := 1128) (by decide +kernel)) vX11_thing rc_33 (mX11_thing (d := 0) hJ1 (zn_rng (xs (i + 1))) (zn_rng (xs (i + 2))) (zn_rng (xs (i + 3)))) (Nat.le_of_ble_eq_true rfl) rfl rfl (Nat.le_of_ble_eq_true rfl) ?_
  intro v M2 he
  obtain ⟨rfl, hf2, hJ2⟩ := he
  refine lz_eq (st := []) C0 (tgt := 921) dL_law_325 (by decide) ?_
  exact next M2 (zk_thingS σ ((xs (i + 1)).toInt) ((xs (i + 2)).toInt) ((xs (i + 3)).toInt)) ⟨zC_x hf2 hC1, hJ2, zok_thing hok, Nat.le_trans (Nat.le_of_eq zn_thing) (Nat.le_succ_of_le hn)⟩
set_option maxRecDepth 100000 in
set_option maxHeartbeats 600000 in
/-- about -/
theorem lz_about {p : Program} {l : Launch} {e : Env} {s : State} {m : MethodId} {below : List Frame} {meth : Method} {c : Code} {b L : Nat} {xs : Nat → Int32} {G : zw_G} {i n : Nat} {M : zw_M} {σ : zZ} (C0 : lz_K p s m meth c b L xs G) (h5 : i + 5 ≤ L) (hB : zB M σ n) (h512 : n ≤ 512) (next : ∀ (M1 : zw_M) (σ1 : zZ), zB M1 σ1 (n + 1) → lz_X p l e s m below meth c b G i 921 [] M1) : lz_X p l e s m below meth c b G i 330 [] M := by
  obtain ⟨hC, hJ, hok, hn⟩ := id hB
  refine lz_ref1 C0 dL_law_330 ?_
  refine lz_arg C0 1 dL_law_331 dL_law_332 dL_law_333 dL_law_334 dL_law_335 (by omega) ?_
  refine lz_arg C0 2 dL_law_336 dL_law_337 dL_law_338 dL_law_339 dL_law_340 (by omega) ?_
  refine lz_callV C0 (y1 := iX10_about) dL_law_341 (List.mem_of_getElem? (i := 514) (by decide +kernel)) vX10_about rc_0 (mX10_about (d := 0) hC (zn_rng (xs (i + 1))) (zn_rng (xs (i + 2)))) (Nat.le_of_ble_eq_true rfl) rfl rfl (Nat.le_of_ble_eq_true rfl) ?_
  intro v M1 he
  obtain ⟨rfl, hf, hC1⟩ := he
  have hJ1 := zJ_x hf hJ
  refine lz_ref2 C0 dL_law_344 ?_
  refine lz_arg C0 1 dL_law_345 dL_law_346 dL_law_347 dL_law_348 dL_law_349 (by omega) ?_
  refine lz_arg C0 2 dL_law_350 dL_law_351 dL_law_352 dL_law_353 dL_law_354 (by omega) ?_
  refine lz_callV C0 (y1 := iX11_about) dL_law_355 (List.mem_of_getElem? (i := 1132) (by decide +kernel)) vX11_about rc_33 (mX11_about (d := 0) hJ1 (zn_rng (xs (i + 1))) (zn_rng (xs (i + 2)))) (Nat.le_of_ble_eq_true rfl) rfl rfl (Nat.le_of_ble_eq_true rfl) ?_
  intro v M2 he
  obtain ⟨rfl, hf2, hJ2⟩ := he
  refine lz_eq (st := []) C0 (tgt := 921) dL_law_358 (by decide) ?_
  exact next M2 (σ) ⟨zC_x hf2 hC1, hJ2, hok, Nat.le_succ_of_le hn⟩
set_option maxRecDepth 100000 in
set_option maxHeartbeats 600000 in
/-- as -/
theorem lz_as {p : Program} {l : Launch} {e : Env} {s : State} {m : MethodId} {below : List Frame} {meth : Method} {c : Code} {b L : Nat} {xs : Nat → Int32} {G : zw_G} {i n : Nat} {M : zw_M} {σ : zZ} (C0 : lz_K p s m meth c b L xs G) (h5 : i + 5 ≤ L) (hB : zB M σ n) (h512 : n ≤ 512) (next : ∀ (M1 : zw_M) (σ1 : zZ), zB M1 σ1 (n + 1) → lz_X p l e s m below meth c b G i 921 [] M1) : lz_X p l e s m below meth c b G i 363 [] M := by
  obtain ⟨hC, hJ, hok, hn⟩ := id hB
  refine lz_ref1 C0 dL_law_363 ?_
  refine lz_arg C0 1 dL_law_364 dL_law_365 dL_law_366 dL_law_367 dL_law_368 (by omega) ?_
  refine lz_arg C0 2 dL_law_369 dL_law_370 dL_law_371 dL_law_372 dL_law_373 (by omega) ?_
  refine lz_callV C0 (y1 := iX10_as) dL_law_374 (List.mem_of_getElem? (i := 538) (by decide +kernel)) vX10_as rc_0 (mX10_as (d := 0) hC (zn_rng (xs (i + 1))) (zn_rng (xs (i + 2)))) (Nat.le_of_ble_eq_true rfl) rfl rfl (Nat.le_of_ble_eq_true rfl) ?_
  intro v M1 he
  obtain ⟨rfl, hf, hC1⟩ := he
  have hJ1 := zJ_x hf hJ
  refine lz_ref2 C0 dL_law_377 ?_
  refine lz_arg C0 1 dL_law_378 dL_law_379 dL_law_380 dL_law_381 dL_law_382 (by omega) ?_
  refine lz_arg C0 2 dL_law_383 dL_law_384 dL_law_385 dL_law_386 dL_law_387 (by omega) ?_
  refine lz_callV C0 (y1 := iX11_as) dL_law_388 (List.mem_of_getElem? (i := 1144) (by decide +kernel)) vX11_as rc_33 (mX11_as (d := 0) hJ1 (zn_rng (xs (i + 1))) (zn_rng (xs (i + 2)))) (Nat.le_of_ble_eq_true rfl) rfl rfl (Nat.le_of_ble_eq_true rfl) ?_
  intro v M2 he
  obtain ⟨rfl, hf2, hJ2⟩ := he
  refine lz_eq (st := []) C0 (tgt := 921) dL_law_391 (by decide) ?_
  exact next M2 (σ) ⟨zC_x hf2 hC1, hJ2, hok, Nat.le_succ_of_le hn⟩
set_option maxRecDepth 100000 in
set_option maxHeartbeats 600000 in
/-- stand -/
theorem lz_stand {p : Program} {l : Launch} {e : Env} {s : State} {m : MethodId} {below : List Frame} {meth : Method} {c : Code} {b L : Nat} {xs : Nat → Int32} {G : zw_G} {i n : Nat} {M : zw_M} {σ : zZ} (C0 : lz_K p s m meth c b L xs G) (h5 : i + 5 ≤ L) (hB : zB M σ n) (h512 : n ≤ 512) (next : ∀ (M1 : zw_M) (σ1 : zZ), zB M1 σ1 (n + 1) → lz_X p l e s m below meth c b G i 921 [] M1) : lz_X p l e s m below meth c b G i 396 [] M := by
  obtain ⟨hC, hJ, hok, hn⟩ := id hB
  refine lz_ref1 C0 dL_law_396 ?_
  refine lz_arg C0 1 dL_law_397 dL_law_398 dL_law_399 dL_law_400 dL_law_401 (by omega) ?_
  refine lz_arg C0 2 dL_law_402 dL_law_403 dL_law_404 dL_law_405 dL_law_406 (by omega) ?_
  refine lz_arg C0 3 dL_law_407 dL_law_408 dL_law_409 dL_law_410 dL_law_411 (by omega) ?_
  refine lz_callV C0 (y1 := iX10_stand) dL_law_412 (List.mem_of_getElem? (i := 547) (by decide +kernel)) vX10_stand rc_0 (mX10_stand (d := 0) hC (zn_rng (xs (i + 1))) (zn_rng (xs (i + 2))) (zn_rng (xs (i + 3)))) (Nat.le_of_ble_eq_true rfl) rfl rfl (Nat.le_of_ble_eq_true rfl) ?_
  intro v M1 he
  obtain ⟨rfl, hf, hC1⟩ := he
  have hJ1 := zJ_x hf hJ
  refine lz_ref2 C0 dL_law_415 ?_
  refine lz_arg C0 1 dL_law_416 dL_law_417 dL_law_418 dL_law_419 dL_law_420 (by omega) ?_
  refine lz_arg C0 2 dL_law_421 dL_law_422 dL_law_423 dL_law_424 dL_law_425 (by omega) ?_
  refine lz_arg C0 3 dL_law_426 dL_law_427 dL_law_428 dL_law_429 dL_law_430 (by omega) ?_
  refine lz_callV C0 (y1 := iX11_stand) dL_law_431 (List.mem_of_getElem? (i := 1148) (by decide +kernel)) vX11_stand rc_33 (mX11_stand (d := 0) hJ1 (zn_rng (xs (i + 1))) (zn_rng (xs (i + 2))) (zn_rng (xs (i + 3)))) (Nat.le_of_ble_eq_true rfl) rfl rfl (Nat.le_of_ble_eq_true rfl) ?_
  intro v M2 he
  obtain ⟨rfl, hf2, hJ2⟩ := he
  refine lz_eq (st := []) C0 (tgt := 921) dL_law_434 (by decide) ?_
  exact next M2 (zk_standS σ ((xs (i + 1)).toInt) ((xs (i + 2)).toInt) ((xs (i + 3)).toInt)) ⟨zC_x hf2 hC1, hJ2, zok_stand hok, Nat.le_trans (Nat.le_of_eq zn_stand) (Nat.le_succ_of_le hn)⟩
set_option maxRecDepth 100000 in
set_option maxHeartbeats 600000 in
/-- put -/
theorem lz_put {p : Program} {l : Launch} {e : Env} {s : State} {m : MethodId} {below : List Frame} {meth : Method} {c : Code} {b L : Nat} {xs : Nat → Int32} {G : zw_G} {i n : Nat} {M : zw_M} {σ : zZ} (C0 : lz_K p s m meth c b L xs G) (h5 : i + 5 ≤ L) (hB : zB M σ n) (h512 : n ≤ 512) (next : ∀ (M1 : zw_M) (σ1 : zZ), zB M1 σ1 (n + 1) → lz_X p l e s m below meth c b G i 921 [] M1) : lz_X p l e s m below meth c b G i 439 [] M := by
  obtain ⟨hC, hJ, hok, hn⟩ := id hB
  refine lz_ref1 C0 dL_law_439 ?_
  refine lz_arg C0 1 dL_law_440 dL_law_441 dL_law_442 dL_law_443 dL_law_444 (by omega) ?_
  refine lz_arg C0 2 dL_law_445 dL_law_446 dL_law_447 dL_law_448 dL_law_449 (by omega) ?_
  refine lz_callV C0 (y1 := iX10_put) dL_law_450 (List.mem_of_getElem? (i := 553) (by decide +kernel)) vX10_put rc_0 (mX10_put (d := 0) hC (zn_rng (xs (i + 1))) (zn_rng (xs (i + 2)))) (Nat.le_of_ble_eq_true rfl) rfl rfl (Nat.le_of_ble_eq_true rfl) ?_
  intro v M1 he
  obtain ⟨rfl, hf, hC1⟩ := he
  have hJ1 := zJ_x hf hJ
  refine lz_ref2 C0 dL_law_453 ?_
  refine lz_arg C0 1 dL_law_454 dL_law_455 dL_law_456 dL_law_457 dL_law_458 (by omega) ?_
  refine lz_arg C0 2 dL_law_459 dL_law_460 dL_law_461 dL_law_462 dL_law_463 (by omega) ?_
  refine lz_callV C0 (y1 := iX11_put) dL_law_464 (List.mem_of_getElem? (i := 1159) (by decide +kernel)) vX11_put rc_33 (mX11_put (d := 0) hJ1 (zn_rng (xs (i + 1))) (zn_rng (xs (i + 2)))) (Nat.le_of_ble_eq_true rfl) rfl rfl (Nat.le_of_ble_eq_true rfl) ?_
  intro v M2 he
  obtain ⟨rfl, hf2, hJ2⟩ := he
  refine lz_eq (st := []) C0 (tgt := 921) dL_law_467 (by decide) ?_
  exact next M2 (zk_putS σ ((xs (i + 1)).toInt) ((xs (i + 2)).toInt)) ⟨zC_x hf2 hC1, hJ2, zok_put hok, Nat.le_trans (Nat.le_of_eq zn_put) (Nat.le_succ_of_le hn)⟩
set_option maxRecDepth 100000 in
set_option maxHeartbeats 600000 in
/-- trade -/
theorem lz_trade {p : Program} {l : Launch} {e : Env} {s : State} {m : MethodId} {below : List Frame} {meth : Method} {c : Code} {b L : Nat} {xs : Nat → Int32} {G : zw_G} {i n : Nat} {M : zw_M} {σ : zZ} (C0 : lz_K p s m meth c b L xs G) (h5 : i + 5 ≤ L) (hB : zB M σ n) (h512 : n ≤ 512) (next : ∀ (M1 : zw_M) (σ1 : zZ), zB M1 σ1 (n + 1) → lz_X p l e s m below meth c b G i 921 [] M1) : lz_X p l e s m below meth c b G i 472 [] M := by
  obtain ⟨hC, hJ, hok, hn⟩ := id hB
  refine lz_ref1 C0 dL_law_472 ?_
  refine lz_arg C0 1 dL_law_473 dL_law_474 dL_law_475 dL_law_476 dL_law_477 (by omega) ?_
  refine lz_arg C0 2 dL_law_478 dL_law_479 dL_law_480 dL_law_481 dL_law_482 (by omega) ?_
  refine lz_arg C0 3 dL_law_483 dL_law_484 dL_law_485 dL_law_486 dL_law_487 (by omega) ?_
  refine lz_callV C0 (y1 := iX10_trade) dL_law_488 (List.mem_of_getElem? (i := 558) (by decide +kernel)) vX10_trade rc_0 (mX10_trade (d := 0) hC (zn_rng (xs (i + 1))) (zn_rng (xs (i + 2))) (zn_rng (xs (i + 3)))) (Nat.le_of_ble_eq_true rfl) rfl rfl (Nat.le_of_ble_eq_true rfl) ?_
  intro v M1 he
  obtain ⟨rfl, hf, hC1⟩ := he
  have hJ1 := zJ_x hf hJ
  refine lz_ref2 C0 dL_law_491 ?_
  refine lz_arg C0 1 dL_law_492 dL_law_493 dL_law_494 dL_law_495 dL_law_496 (by omega) ?_
  refine lz_arg C0 2 dL_law_497 dL_law_498 dL_law_499 dL_law_500 dL_law_501 (by omega) ?_
  refine lz_arg C0 3 dL_law_502 dL_law_503 dL_law_504 dL_law_505 dL_law_506 (by omega) ?_
  refine lz_callV C0 (y1 := iX11_trade) dL_law_507 (List.mem_of_getElem? (i := 1167) (by decide +kernel)) vX11_trade rc_33 (mX11_trade (d := 0) hJ1 (zn_rng (xs (i + 1))) (zn_rng (xs (i + 2))) (zn_rng (xs (i + 3)))) (Nat.le_of_ble_eq_true rfl) rfl rfl (Nat.le_of_ble_eq_true rfl) ?_
  intro v M2 he
  obtain ⟨rfl, hf2, hJ2⟩ := he
  refine lz_eq (st := []) C0 (tgt := 921) dL_law_510 (by decide) ?_
  exact next M2 (zk_tradeS σ ((xs (i + 1)).toInt) ((xs (i + 2)).toInt) ((xs (i + 3)).toInt)) ⟨zC_x hf2 hC1, hJ2, zok_trade hok, Nat.le_trans (Nat.le_of_eq zn_trade) (Nat.le_succ_of_le hn)⟩
set_option maxRecDepth 100000 in
set_option maxHeartbeats 600000 in
/-- leans -/
theorem lz_leans {p : Program} {l : Launch} {e : Env} {s : State} {m : MethodId} {below : List Frame} {meth : Method} {c : Code} {b L : Nat} {xs : Nat → Int32} {G : zw_G} {i n : Nat} {M : zw_M} {σ : zZ} (C0 : lz_K p s m meth c b L xs G) (h5 : i + 5 ≤ L) (hB : zB M σ n) (h512 : n ≤ 512) (next : ∀ (M1 : zw_M) (σ1 : zZ), zB M1 σ1 (n + 1) → lz_X p l e s m below meth c b G i 921 [] M1) : lz_X p l e s m below meth c b G i 515 [] M := by
  obtain ⟨hC, hJ, hok, hn⟩ := id hB
  refine lz_ref1 C0 dL_law_515 ?_
  refine lz_arg C0 1 dL_law_516 dL_law_517 dL_law_518 dL_law_519 dL_law_520 (by omega) ?_
  refine lz_arg C0 2 dL_law_521 dL_law_522 dL_law_523 dL_law_524 dL_law_525 (by omega) ?_
  refine lz_callV C0 (y1 := iX10_leans) dL_law_526 (List.mem_of_getElem? (i := 562) (by decide +kernel)) vX10_leans rc_0 (mX10_leans (d := 0) hC (zn_rng (xs (i + 1))) (zn_rng (xs (i + 2)))) (Nat.le_of_ble_eq_true rfl) rfl rfl (Nat.le_of_ble_eq_true rfl) ?_
  intro v M1 he
  obtain ⟨rfl, hf, hC1⟩ := he
  have hJ1 := zJ_x hf hJ
  refine lz_ref2 C0 dL_law_529 ?_
  refine lz_arg C0 1 dL_law_530 dL_law_531 dL_law_532 dL_law_533 dL_law_534 (by omega) ?_
  refine lz_arg C0 2 dL_law_535 dL_law_536 dL_law_537 dL_law_538 dL_law_539 (by omega) ?_
  refine lz_callV C0 (y1 := iX11_leans) dL_law_540 (List.mem_of_getElem? (i := 1171) (by decide +kernel)) vX11_leans rc_33 (mX11_leans (d := 0) hJ1 (zn_rng (xs (i + 1))) (zn_rng (xs (i + 2)))) (Nat.le_of_ble_eq_true rfl) rfl rfl (Nat.le_of_ble_eq_true rfl) ?_
  intro v M2 he
  obtain ⟨rfl, hf2, hJ2⟩ := he
  refine lz_eq (st := []) C0 (tgt := 921) dL_law_543 (by decide) ?_
  exact next M2 (σ) ⟨zC_x hf2 hC1, hJ2, hok, Nat.le_succ_of_le hn⟩
set_option maxRecDepth 100000 in
set_option maxHeartbeats 600000 in
/-- dip -/
theorem lz_dip {p : Program} {l : Launch} {e : Env} {s : State} {m : MethodId} {below : List Frame} {meth : Method} {c : Code} {b L : Nat} {xs : Nat → Int32} {G : zw_G} {i n : Nat} {M : zw_M} {σ : zZ} (C0 : lz_K p s m meth c b L xs G) (h5 : i + 5 ≤ L) (hB : zB M σ n) (h512 : n ≤ 512) (next : ∀ (M1 : zw_M) (σ1 : zZ), zB M1 σ1 (n + 1) → lz_X p l e s m below meth c b G i 921 [] M1) : lz_X p l e s m below meth c b G i 548 [] M := by
  obtain ⟨hC, hJ, hok, hn⟩ := id hB
  refine lz_ref1 C0 dL_law_548 ?_
  refine lz_arg C0 1 dL_law_549 dL_law_550 dL_law_551 dL_law_552 dL_law_553 (by omega) ?_
  refine lz_arg C0 2 dL_law_554 dL_law_555 dL_law_556 dL_law_557 dL_law_558 (by omega) ?_
  refine lz_callV C0 (y1 := iX10_dip) dL_law_559 (List.mem_of_getElem? (i := 582) (by decide +kernel)) vX10_dip rc_0 (mX10_dip (d := 0) hC (zn_rng (xs (i + 1))) (zn_rng (xs (i + 2)))) (Nat.le_of_ble_eq_true rfl) rfl rfl (Nat.le_of_ble_eq_true rfl) ?_
  intro v M1 he
  obtain ⟨rfl, hf, hC1⟩ := he
  have hJ1 := zJ_x hf hJ
  refine lz_ref2 C0 dL_law_562 ?_
  refine lz_arg C0 1 dL_law_563 dL_law_564 dL_law_565 dL_law_566 dL_law_567 (by omega) ?_
  refine lz_arg C0 2 dL_law_568 dL_law_569 dL_law_570 dL_law_571 dL_law_572 (by omega) ?_
  refine lz_callV C0 (y1 := iX11_dip) dL_law_573 (List.mem_of_getElem? (i := 1179) (by decide +kernel)) vX11_dip rc_33 (mX11_dip (d := 0) hJ1 (zn_rng (xs (i + 1))) (zn_rng (xs (i + 2)))) (Nat.le_of_ble_eq_true rfl) rfl rfl (Nat.le_of_ble_eq_true rfl) ?_
  intro v M2 he
  obtain ⟨rfl, hf2, hJ2⟩ := he
  refine lz_eq (st := []) C0 (tgt := 921) dL_law_576 (by decide) ?_
  exact next M2 (σ) ⟨zC_x hf2 hC1, hJ2, hok, Nat.le_succ_of_le hn⟩
set_option maxRecDepth 100000 in
set_option maxHeartbeats 600000 in
/-- wet -/
theorem lz_wet {p : Program} {l : Launch} {e : Env} {s : State} {m : MethodId} {below : List Frame} {meth : Method} {c : Code} {b L : Nat} {xs : Nat → Int32} {G : zw_G} {i n : Nat} {M : zw_M} {σ : zZ} (C0 : lz_K p s m meth c b L xs G) (h5 : i + 5 ≤ L) (hB : zB M σ n) (h512 : n ≤ 512) (next : ∀ (M1 : zw_M) (σ1 : zZ), zB M1 σ1 (n + 1) → lz_X p l e s m below meth c b G i 921 [] M1) : lz_X p l e s m below meth c b G i 581 [] M := by
  obtain ⟨hC, hJ, hok, hn⟩ := id hB
  refine lz_ref1 C0 dL_law_581 ?_
  refine lz_arg C0 1 dL_law_582 dL_law_583 dL_law_584 dL_law_585 dL_law_586 (by omega) ?_
  refine lz_callV C0 (y1 := iX10_wet) dL_law_587 (List.mem_of_getElem? (i := 591) (by decide +kernel)) vX10_wet rc_0 (mX10_wet (d := 0) hC (zn_rng (xs (i + 1)))) (Nat.le_of_ble_eq_true rfl) rfl rfl (Nat.le_of_ble_eq_true rfl) ?_
  intro v M1 he
  obtain ⟨rfl, hf, hC1⟩ := he
  have hJ1 := zJ_x hf hJ
  refine lz_ref2 C0 dL_law_590 ?_
  refine lz_arg C0 1 dL_law_591 dL_law_592 dL_law_593 dL_law_594 dL_law_595 (by omega) ?_
  refine lz_callV C0 (y1 := iX11_wet) dL_law_596 (List.mem_of_getElem? (i := 1184) (by decide +kernel)) vX11_wet rc_33 (mX11_wet (d := 0) hJ1 (zn_rng (xs (i + 1)))) (Nat.le_of_ble_eq_true rfl) rfl rfl (Nat.le_of_ble_eq_true rfl) ?_
  intro v M2 he
  obtain ⟨rfl, hf2, hJ2⟩ := he
  refine lz_eq (st := []) C0 (tgt := 921) dL_law_599 (by decide) ?_
  exact next M2 (σ) ⟨zC_x hf2 hC1, hJ2, hok, Nat.le_succ_of_le hn⟩
set_option maxRecDepth 100000 in
set_option maxHeartbeats 600000 in
/-- trades -/
theorem lz_trades {p : Program} {l : Launch} {e : Env} {s : State} {m : MethodId} {below : List Frame} {meth : Method} {c : Code} {b L : Nat} {xs : Nat → Int32} {G : zw_G} {i n : Nat} {M : zw_M} {σ : zZ} (C0 : lz_K p s m meth c b L xs G) (h5 : i + 5 ≤ L) (hB : zB M σ n) (h512 : n ≤ 512) (next : ∀ (M1 : zw_M) (σ1 : zZ), zB M1 σ1 (n + 1) → lz_X p l e s m below meth c b G i 921 [] M1) : lz_X p l e s m below meth c b G i 604 [] M := by
  obtain ⟨hC, hJ, hok, hn⟩ := id hB
  refine lz_ref1 C0 dL_law_604 ?_
  refine lz_arg C0 1 dL_law_605 dL_law_606 dL_law_607 dL_law_608 dL_law_609 (by omega) ?_
  refine lz_arg C0 2 dL_law_610 dL_law_611 dL_law_612 dL_law_613 dL_law_614 (by omega) ?_
  refine lz_callV C0 (y1 := iX10_trades) dL_law_615 (List.mem_of_getElem? (i := 605) (by decide +kernel)) vX10_trades rc_0 (mX10_trades (d := 0) hC hok (zn_rng (xs (i + 1))) (zn_rng (xs (i + 2)))) (Nat.le_of_ble_eq_true rfl) rfl rfl (Nat.le_of_ble_eq_true rfl) ?_
  intro v M1 he
  obtain ⟨rfl, hf, hC1⟩ := he
  have hJ1 := zJ_x hf hJ
  refine lz_ref2 C0 dL_law_618 ?_
  refine lz_arg C0 1 dL_law_619 dL_law_620 dL_law_621 dL_law_622 dL_law_623 (by omega) ?_
  refine lz_arg C0 2 dL_law_624 dL_law_625 dL_law_626 dL_law_627 dL_law_628 (by omega) ?_
  refine lz_callV C0 (y1 := iX11_trades) dL_law_629 (List.mem_of_getElem? (i := 1192) (by decide +kernel)) vX11_trades rc_33 (mX11_trades (d := 0) hJ1 hok (zn_rng (xs (i + 1))) (zn_rng (xs (i + 2)))) (Nat.le_of_ble_eq_true rfl) rfl rfl (Nat.le_of_ble_eq_true rfl) ?_
  intro v M2 he
  obtain ⟨rfl, hf2, hJ2⟩ := he
  refine lz_eq (st := []) C0 (tgt := 921) dL_law_632 (by decide) ?_
  exact next M2 (zk_tradesS σ ((xs (i + 1)).toInt) ((xs (i + 2)).toInt)) ⟨zC_x hf2 hC1, hJ2, zok_trades hok, Nat.le_trans (Nat.le_of_eq zn_trades) (Nat.le_succ_of_le hn)⟩
set_option maxRecDepth 100000 in
set_option maxHeartbeats 600000 in
/-- counter -/
theorem lz_counter {p : Program} {l : Launch} {e : Env} {s : State} {m : MethodId} {below : List Frame} {meth : Method} {c : Code} {b L : Nat} {xs : Nat → Int32} {G : zw_G} {i n : Nat} {M : zw_M} {σ : zZ} (C0 : lz_K p s m meth c b L xs G) (h5 : i + 5 ≤ L) (hB : zB M σ n) (h512 : n ≤ 512) (next : ∀ (M1 : zw_M) (σ1 : zZ), zB M1 σ1 (n + 1) → lz_X p l e s m below meth c b G i 921 [] M1) : lz_X p l e s m below meth c b G i 637 [] M := by
  obtain ⟨hC, hJ, hok, hn⟩ := id hB
  refine lz_ref1 C0 dL_law_637 ?_
  refine lz_arg C0 1 dL_law_638 dL_law_639 dL_law_640 dL_law_641 dL_law_642 (by omega) ?_
  refine lz_arg C0 2 dL_law_643 dL_law_644 dL_law_645 dL_law_646 dL_law_647 (by omega) ?_
  refine lz_arg C0 3 dL_law_648 dL_law_649 dL_law_650 dL_law_651 dL_law_652 (by omega) ?_
  refine lz_callV C0 (y1 := iX10_counter) dL_law_653 (List.mem_of_getElem? (i := 673) (by decide +kernel)) vX10_counter rc_0 (mX10_counter (d := 0) hC (zn_rng (xs (i + 1))) (zn_rng (xs (i + 2))) (zn_rng (xs (i + 3)))) (Nat.le_of_ble_eq_true rfl) rfl rfl (Nat.le_of_ble_eq_true rfl) ?_
  intro v M1 he
  obtain ⟨rfl, hf, hC1⟩ := he
  have hJ1 := zJ_x hf hJ
  refine lz_ref2 C0 dL_law_656 ?_
  refine lz_arg C0 1 dL_law_657 dL_law_658 dL_law_659 dL_law_660 dL_law_661 (by omega) ?_
  refine lz_arg C0 2 dL_law_662 dL_law_663 dL_law_664 dL_law_665 dL_law_666 (by omega) ?_
  refine lz_arg C0 3 dL_law_667 dL_law_668 dL_law_669 dL_law_670 dL_law_671 (by omega) ?_
  refine lz_callV C0 (y1 := iX11_counter) dL_law_672 (List.mem_of_getElem? (i := 1224) (by decide +kernel)) vX11_counter rc_33 (mX11_counter (d := 0) hJ1 (zn_rng (xs (i + 1))) (zn_rng (xs (i + 2))) (zn_rng (xs (i + 3)))) (Nat.le_of_ble_eq_true rfl) rfl rfl (Nat.le_of_ble_eq_true rfl) ?_
  intro v M2 he
  obtain ⟨rfl, hf2, hJ2⟩ := he
  refine lz_eq (st := []) C0 (tgt := 921) dL_law_675 (by decide) ?_
  exact next M2 (σ) ⟨zC_x hf2 hC1, hJ2, hok, Nat.le_succ_of_le hn⟩
set_option maxRecDepth 100000 in
set_option maxHeartbeats 600000 in
/-- stones -/
theorem lz_stones {p : Program} {l : Launch} {e : Env} {s : State} {m : MethodId} {below : List Frame} {meth : Method} {c : Code} {b L : Nat} {xs : Nat → Int32} {G : zw_G} {i n : Nat} {M : zw_M} {σ : zZ} (C0 : lz_K p s m meth c b L xs G) (h5 : i + 5 ≤ L) (hB : zB M σ n) (h512 : n ≤ 512) (next : ∀ (M1 : zw_M) (σ1 : zZ), zB M1 σ1 (n + 1) → lz_X p l e s m below meth c b G i 921 [] M1) : lz_X p l e s m below meth c b G i 680 [] M := by
  obtain ⟨hC, hJ, hok, hn⟩ := id hB
  refine lz_ref1 C0 dL_law_680 ?_
  refine lz_arg C0 1 dL_law_681 dL_law_682 dL_law_683 dL_law_684 dL_law_685 (by omega) ?_
  refine lz_callV C0 (y1 := iX10_stones) dL_law_686 (List.mem_of_getElem? (i := 727) (by decide +kernel)) vX10_stones rc_0 (mX10_stones (d := 0) hC hok (zn_rng (xs (i + 1)))) (Nat.le_of_ble_eq_true rfl) rfl rfl (Nat.le_of_ble_eq_true rfl) ?_
  intro v M1 he
  obtain ⟨rfl, hf, hC1⟩ := he
  have hJ1 := zJ_x hf hJ
  refine lz_ref2 C0 dL_law_689 ?_
  refine lz_arg C0 1 dL_law_690 dL_law_691 dL_law_692 dL_law_693 dL_law_694 (by omega) ?_
  refine lz_callV C0 (y1 := iX11_stones) dL_law_695 (List.mem_of_getElem? (i := 1240) (by decide +kernel)) vX11_stones rc_33 (mX11_stones (d := 0) hJ1 hok (zn_rng (xs (i + 1)))) (Nat.le_of_ble_eq_true rfl) rfl rfl (Nat.le_of_ble_eq_true rfl) ?_
  intro v M2 he
  obtain ⟨rfl, hf2, hJ2⟩ := he
  refine lz_eq (st := []) C0 (tgt := 921) dL_law_698 (by decide) ?_
  exact next M2 (zk_stonesS σ ((xs (i + 1)).toInt)) ⟨zC_x hf2 hC1, hJ2, zok_stones hok, Nat.le_trans (Nat.le_of_eq zn_stones) (Nat.le_succ_of_le hn)⟩
set_option maxRecDepth 100000 in
set_option maxHeartbeats 600000 in
/-- site -/
theorem lz_site {p : Program} {l : Launch} {e : Env} {s : State} {m : MethodId} {below : List Frame} {meth : Method} {c : Code} {b L : Nat} {xs : Nat → Int32} {G : zw_G} {i n : Nat} {M : zw_M} {σ : zZ} (C0 : lz_K p s m meth c b L xs G) (h5 : i + 5 ≤ L) (hB : zB M σ n) (h512 : n ≤ 512) (next : ∀ (M1 : zw_M) (σ1 : zZ), zB M1 σ1 (n + 1) → lz_X p l e s m below meth c b G i 921 [] M1) : lz_X p l e s m below meth c b G i 703 [] M := by
  obtain ⟨hC, hJ, hok, hn⟩ := id hB
  refine lz_ref1 C0 dL_law_703 ?_
  refine lz_arg C0 1 dL_law_704 dL_law_705 dL_law_706 dL_law_707 dL_law_708 (by omega) ?_
  refine lz_callV C0 (y1 := iX10_site) dL_law_709 (List.mem_of_getElem? (i := 783) (by decide +kernel)) vX10_site rc_0 (mX10_site (d := 0) hC (zn_rng (xs (i + 1)))) (Nat.le_of_ble_eq_true rfl) rfl rfl (Nat.le_of_ble_eq_true rfl) ?_
  intro v M1 he
  obtain ⟨rfl, hf, hC1⟩ := he
  have hJ1 := zJ_x hf hJ
  refine lz_ref2 C0 dL_law_712 ?_
  refine lz_arg C0 1 dL_law_713 dL_law_714 dL_law_715 dL_law_716 dL_law_717 (by omega) ?_
  refine lz_callV C0 (y1 := iX11_site) dL_law_718 (List.mem_of_getElem? (i := 1260) (by decide +kernel)) vX11_site rc_33 (mX11_site (d := 0) hJ1 (zn_rng (xs (i + 1)))) (Nat.le_of_ble_eq_true rfl) rfl rfl (Nat.le_of_ble_eq_true rfl) ?_
  intro v M2 he
  obtain ⟨rfl, hf2, hJ2⟩ := he
  refine lz_eq (st := []) C0 (tgt := 921) dL_law_721 (by decide) ?_
  exact next M2 (σ) ⟨zC_x hf2 hC1, hJ2, hok, Nat.le_succ_of_le hn⟩
set_option maxRecDepth 100000 in
set_option maxHeartbeats 600000 in
/-- late -/
theorem lz_late {p : Program} {l : Launch} {e : Env} {s : State} {m : MethodId} {below : List Frame} {meth : Method} {c : Code} {b L : Nat} {xs : Nat → Int32} {G : zw_G} {i n : Nat} {M : zw_M} {σ : zZ} (C0 : lz_K p s m meth c b L xs G) (h5 : i + 5 ≤ L) (hB : zB M σ n) (h512 : n ≤ 512) (next : ∀ (M1 : zw_M) (σ1 : zZ), zB M1 σ1 (n + 1) → lz_X p l e s m below meth c b G i 921 [] M1) : lz_X p l e s m below meth c b G i 726 [] M := by
  obtain ⟨hC, hJ, hok, hn⟩ := id hB
  refine lz_ref1 C0 dL_law_726 ?_
  refine lz_arg C0 1 dL_law_727 dL_law_728 dL_law_729 dL_law_730 dL_law_731 (by omega) ?_
  refine lz_arg C0 2 dL_law_732 dL_law_733 dL_law_734 dL_law_735 dL_law_736 (by omega) ?_
  refine lz_arg C0 3 dL_law_737 dL_law_738 dL_law_739 dL_law_740 dL_law_741 (by omega) ?_
  refine lz_callV C0 (y1 := iX10_late) dL_law_742 (List.mem_of_getElem? (i := 798) (by decide +kernel)) vX10_late rc_0 (mX10_late (d := 0) hC (zn_rng (xs (i + 1))) (zn_rng (xs (i + 2))) (zn_rng (xs (i + 3)))) (Nat.le_of_ble_eq_true rfl) rfl rfl (Nat.le_of_ble_eq_true rfl) ?_
  intro v M1 he
  obtain ⟨rfl, hf, hC1⟩ := he
  have hJ1 := zJ_x hf hJ
  refine lz_ref2 C0 dL_law_745 ?_
  refine lz_arg C0 1 dL_law_746 dL_law_747 dL_law_748 dL_law_749 dL_law_750 (by omega) ?_
  refine lz_arg C0 2 dL_law_751 dL_law_752 dL_law_753 dL_law_754 dL_law_755 (by omega) ?_
  refine lz_arg C0 3 dL_law_756 dL_law_757 dL_law_758 dL_law_759 dL_law_760 (by omega) ?_
  refine lz_callV C0 (y1 := iX11_late) dL_law_761 (List.mem_of_getElem? (i := 1272) (by decide +kernel)) vX11_late rc_33 (mX11_late (d := 0) hJ1 (zn_rng (xs (i + 1))) (zn_rng (xs (i + 2))) (zn_rng (xs (i + 3)))) (Nat.le_of_ble_eq_true rfl) rfl rfl (Nat.le_of_ble_eq_true rfl) ?_
  intro v M2 he
  obtain ⟨rfl, hf2, hJ2⟩ := he
  refine lz_eq (st := []) C0 (tgt := 921) dL_law_764 (by decide) ?_
  exact next M2 (σ) ⟨zC_x hf2 hC1, hJ2, hok, Nat.le_succ_of_le hn⟩
set_option maxRecDepth 100000 in
set_option maxHeartbeats 600000 in
/-- storm -/
theorem lz_storm {p : Program} {l : Launch} {e : Env} {s : State} {m : MethodId} {below : List Frame} {meth : Method} {c : Code} {b L : Nat} {xs : Nat → Int32} {G : zw_G} {i n : Nat} {M : zw_M} {σ : zZ} (C0 : lz_K p s m meth c b L xs G) (h5 : i + 5 ≤ L) (hB : zB M σ n) (h512 : n ≤ 512) (next : ∀ (M1 : zw_M) (σ1 : zZ), zB M1 σ1 (n + 1) → lz_X p l e s m below meth c b G i 921 [] M1) : lz_X p l e s m below meth c b G i 769 [] M := by
  obtain ⟨hC, hJ, hok, hn⟩ := id hB
  refine lz_ref1 C0 dL_law_769 ?_
  refine lz_arg C0 1 dL_law_770 dL_law_771 dL_law_772 dL_law_773 dL_law_774 (by omega) ?_
  refine lz_callV C0 (y1 := iX10_storm) dL_law_775 (List.mem_of_getElem? (i := 830) (by decide +kernel)) vX10_storm rc_0 (mX10_storm (d := 0) hC (zn_rng (xs (i + 1)))) (Nat.le_of_ble_eq_true rfl) rfl rfl (Nat.le_of_ble_eq_true rfl) ?_
  intro v M1 he
  obtain ⟨rfl, hf, hC1⟩ := he
  have hJ1 := zJ_x hf hJ
  refine lz_ref2 C0 dL_law_778 ?_
  refine lz_arg C0 1 dL_law_779 dL_law_780 dL_law_781 dL_law_782 dL_law_783 (by omega) ?_
  refine lz_callV C0 (y1 := iX11_storm) dL_law_784 (List.mem_of_getElem? (i := 1283) (by decide +kernel)) vX11_storm rc_33 (mX11_storm (d := 0) hJ1 (zn_rng (xs (i + 1)))) (Nat.le_of_ble_eq_true rfl) rfl rfl (Nat.le_of_ble_eq_true rfl) ?_
  intro v M2 he
  obtain ⟨rfl, hf2, hJ2⟩ := he
  refine lz_eq (st := []) C0 (tgt := 921) dL_law_787 (by decide) ?_
  exact next M2 (σ) ⟨zC_x hf2 hC1, hJ2, hok, Nat.le_succ_of_le hn⟩
set_option maxRecDepth 100000 in
set_option maxHeartbeats 600000 in
/-- moss -/
theorem lz_moss {p : Program} {l : Launch} {e : Env} {s : State} {m : MethodId} {below : List Frame} {meth : Method} {c : Code} {b L : Nat} {xs : Nat → Int32} {G : zw_G} {i n : Nat} {M : zw_M} {σ : zZ} (C0 : lz_K p s m meth c b L xs G) (h5 : i + 5 ≤ L) (hB : zB M σ n) (h512 : n ≤ 512) (next : ∀ (M1 : zw_M) (σ1 : zZ), zB M1 σ1 (n + 1) → lz_X p l e s m below meth c b G i 921 [] M1) : lz_X p l e s m below meth c b G i 792 [] M := by
  obtain ⟨hC, hJ, hok, hn⟩ := id hB
  refine lz_ref1 C0 dL_law_792 ?_
  refine lz_callV C0 (y1 := iX10_moss) dL_law_793 (List.mem_of_getElem? (i := 863) (by decide +kernel)) vX10_moss rc_0 (mX10_moss (d := 0) hC) (Nat.le_of_ble_eq_true rfl) rfl rfl (Nat.le_of_ble_eq_true rfl) ?_
  intro v M1 he
  obtain ⟨rfl, hf, hC1⟩ := he
  have hJ1 := zJ_x hf hJ
  refine lz_ref2 C0 dL_law_796 ?_
  refine lz_callV C0 (y1 := iX11_moss) dL_law_797 (List.mem_of_getElem? (i := 1303) (by decide +kernel)) vX11_moss rc_33 (mX11_moss (d := 0) hJ1 hok) (Nat.le_of_ble_eq_true rfl) rfl rfl (Nat.le_of_ble_eq_true rfl) ?_
  intro v M2 he
  obtain ⟨rfl, hf2, hJ2⟩ := he
  refine lz_eq (st := []) C0 (tgt := 921) dL_law_800 (by decide) ?_
  exact next M2 (σ) ⟨zC_x hf2 hC1, hJ2, hok, Nat.le_succ_of_le hn⟩
set_option maxRecDepth 100000 in
set_option maxHeartbeats 600000 in
/-- cows -/
theorem lz_cows {p : Program} {l : Launch} {e : Env} {s : State} {m : MethodId} {below : List Frame} {meth : Method} {c : Code} {b L : Nat} {xs : Nat → Int32} {G : zw_G} {i n : Nat} {M : zw_M} {σ : zZ} (C0 : lz_K p s m meth c b L xs G) (h5 : i + 5 ≤ L) (hB : zB M σ n) (h512 : n ≤ 512) (next : ∀ (M1 : zw_M) (σ1 : zZ), zB M1 σ1 (n + 1) → lz_X p l e s m below meth c b G i 921 [] M1) : lz_X p l e s m below meth c b G i 805 [] M := by
  obtain ⟨hC, hJ, hok, hn⟩ := id hB
  refine lz_ref1 C0 dL_law_805 ?_
  refine lz_arg C0 1 dL_law_806 dL_law_807 dL_law_808 dL_law_809 dL_law_810 (by omega) ?_
  refine lz_arg C0 2 dL_law_811 dL_law_812 dL_law_813 dL_law_814 dL_law_815 (by omega) ?_
  refine lz_arg C0 3 dL_law_816 dL_law_817 dL_law_818 dL_law_819 dL_law_820 (by omega) ?_
  refine lz_arg C0 4 dL_law_821 dL_law_822 dL_law_823 dL_law_824 dL_law_825 (by omega) ?_
  refine lz_callV C0 (y1 := iX10_cows) dL_law_826 (List.mem_of_getElem? (i := 871) (by decide +kernel)) vX10_cows rc_0 (mX10_cows (d := 0) hC (zn_rng (xs (i + 1))) (zn_rng (xs (i + 2))) (zn_rng (xs (i + 3))) (zn_rng (xs (i + 4)))) (Nat.le_of_ble_eq_true rfl) rfl rfl (Nat.le_of_ble_eq_true rfl) ?_
  intro v M1 he
  obtain ⟨rfl, hf, hC1⟩ := he
  have hJ1 := zJ_x hf hJ
  refine lz_ref2 C0 dL_law_829 ?_
  refine lz_arg C0 1 dL_law_830 dL_law_831 dL_law_832 dL_law_833 dL_law_834 (by omega) ?_
  refine lz_arg C0 2 dL_law_835 dL_law_836 dL_law_837 dL_law_838 dL_law_839 (by omega) ?_
  refine lz_arg C0 3 dL_law_840 dL_law_841 dL_law_842 dL_law_843 dL_law_844 (by omega) ?_
  refine lz_arg C0 4 dL_law_845 dL_law_846 dL_law_847 dL_law_848 dL_law_849 (by omega) ?_
  refine lz_callV C0 (y1 := iX11_cows) dL_law_850 (List.mem_of_getElem? (i := 1311) (by decide +kernel)) vX11_cows rc_33 (mX11_cows (d := 0) hJ1 (zn_rng (xs (i + 1))) (zn_rng (xs (i + 2))) (zn_rng (xs (i + 3))) (zn_rng (xs (i + 4)))) (Nat.le_of_ble_eq_true rfl) rfl rfl (Nat.le_of_ble_eq_true rfl) ?_
  intro v M2 he
  obtain ⟨rfl, hf2, hJ2⟩ := he
  refine lz_eq (st := []) C0 (tgt := 921) dL_law_853 (by decide) ?_
  exact next M2 (σ) ⟨zC_x hf2 hC1, hJ2, hok, Nat.le_succ_of_le hn⟩
set_option maxRecDepth 100000 in
set_option maxHeartbeats 600000 in
/-- image -/
theorem lz_image {p : Program} {l : Launch} {e : Env} {s : State} {m : MethodId} {below : List Frame} {meth : Method} {c : Code} {b L : Nat} {xs : Nat → Int32} {G : zw_G} {i n : Nat} {M : zw_M} {σ : zZ} (C0 : lz_K p s m meth c b L xs G) (h5 : i + 5 ≤ L) (hB : zB M σ n) (h512 : n ≤ 512) (next : ∀ (M1 : zw_M) (σ1 : zZ), zB M1 σ1 (n + 1) → lz_X p l e s m below meth c b G i 921 [] M1) : lz_X p l e s m below meth c b G i 858 [] M := by
  obtain ⟨hC, hJ, hok, hn⟩ := id hB
  refine lz_ref1 C0 dL_law_858 ?_
  refine lz_callV C0 (y1 := iX10_image) dL_law_859 (List.mem_of_getElem? (i := 902) (by decide +kernel)) vX10_image rc_0 (mX10_image (d := 0) hC) (Nat.le_of_ble_eq_true rfl) rfl rfl (Nat.le_of_ble_eq_true rfl) ?_
  intro v M1 he
  obtain ⟨rfl, hf, hC1⟩ := he
  have hJ1 := zJ_x hf hJ
  refine lz_ref2 C0 dL_law_862 ?_
  refine lz_callV C0 (y1 := iX11_image) dL_law_863 (List.mem_of_getElem? (i := 1331) (by decide +kernel)) vX11_image rc_33 (mX11_image (d := 0) hJ1) (Nat.le_of_ble_eq_true rfl) rfl rfl (Nat.le_of_ble_eq_true rfl) ?_
  intro v M2 he
  obtain ⟨rfl, hf2, hJ2⟩ := he
  refine lz_eq (st := []) C0 (tgt := 921) dL_law_866 (by decide) ?_
  exact next M2 (zk_imageS σ) ⟨zC_x hf2 hC1, hJ2, zok_image hok hC, Nat.le_trans (Nat.le_of_eq zn_image) (Nat.le_succ_of_le hn)⟩
set_option maxRecDepth 100000 in
set_option maxHeartbeats 600000 in
/-- restore -/
theorem lz_restore {p : Program} {l : Launch} {e : Env} {s : State} {m : MethodId} {below : List Frame} {meth : Method} {c : Code} {b L : Nat} {xs : Nat → Int32} {G : zw_G} {i n : Nat} {M : zw_M} {σ : zZ} (C0 : lz_K p s m meth c b L xs G) (h5 : i + 5 ≤ L) (hB : zB M σ n) (h512 : n ≤ 512) (next : ∀ (M1 : zw_M) (σ1 : zZ), zB M1 σ1 (n + 1) → lz_X p l e s m below meth c b G i 921 [] M1) : lz_X p l e s m below meth c b G i 871 [] M := by
  obtain ⟨hC, hJ, hok, hn⟩ := id hB
  refine lz_ref1 C0 dL_law_871 ?_
  refine lz_callV C0 (y1 := iX10_restore) dL_law_872 (List.mem_of_getElem? (i := 912) (by decide +kernel)) vX10_restore rc_0 (mX10_restore (d := 0) hC hok) (Nat.le_of_ble_eq_true rfl) rfl rfl (Nat.le_of_ble_eq_true rfl) ?_
  intro v M1 he
  obtain ⟨rfl, hf, hC1⟩ := he
  have hJ1 := zJ_x hf hJ
  refine lz_ref2 C0 dL_law_875 ?_
  refine lz_callV C0 (y1 := iX11_restore) dL_law_876 (List.mem_of_getElem? (i := 1335) (by decide +kernel)) vX11_restore rc_33 (mX11_restore (d := 0) hJ1 hok (by have h9 : σ.2.2.2.1.1 ≤ n := hn; omega)) (Nat.le_of_ble_eq_true rfl) rfl rfl (Nat.le_of_ble_eq_true rfl) ?_
  intro v M2 he
  obtain ⟨rfl, hf2, hJ2⟩ := he
  refine lz_eq (st := []) C0 (tgt := 921) dL_law_879 (by decide) ?_
  exact next M2 (zk_restoreS σ) ⟨zC_x hf2 hC1, hJ2, zok_restore hok, Nat.le_trans (Nat.le_of_eq zn_restore) (Nat.le_succ_of_le hn)⟩
set_option maxRecDepth 100000 in
set_option maxHeartbeats 600000 in
/-- count -/
theorem lz_count {p : Program} {l : Launch} {e : Env} {s : State} {m : MethodId} {below : List Frame} {meth : Method} {c : Code} {b L : Nat} {xs : Nat → Int32} {G : zw_G} {i n : Nat} {M : zw_M} {σ : zZ} (C0 : lz_K p s m meth c b L xs G) (h5 : i + 5 ≤ L) (hB : zB M σ n) (h512 : n ≤ 512) (next : ∀ (M1 : zw_M) (σ1 : zZ), zB M1 σ1 (n + 1) → lz_X p l e s m below meth c b G i 921 [] M1) : lz_X p l e s m below meth c b G i 884 [] M := by
  obtain ⟨hC, hJ, hok, hn⟩ := id hB
  refine lz_ref1 C0 dL_law_884 ?_
  refine lz_arg C0 1 dL_law_885 dL_law_886 dL_law_887 dL_law_888 dL_law_889 (by omega) ?_
  refine lz_callV C0 (y1 := iX10_count) dL_law_890 (List.mem_of_getElem? (i := 924) (by decide +kernel)) vX10_count rc_0 (mX10_count (d := 0) hC (zn_rng (xs (i + 1)))) (Nat.le_of_ble_eq_true rfl) rfl rfl (Nat.le_of_ble_eq_true rfl) ?_
  intro v M1 he
  obtain ⟨rfl, rfl⟩ := he
  have hC1 := hC
  have hJ1 := hJ
  refine lz_ref2 C0 dL_law_893 ?_
  refine lz_arg C0 1 dL_law_894 dL_law_895 dL_law_896 dL_law_897 dL_law_898 (by omega) ?_
  refine lz_callV C0 (y1 := iX11_count) dL_law_899 (List.mem_of_getElem? (i := 1339) (by decide +kernel)) vX11_count rc_33 (mX11_count (d := 0) hJ1 (zn_rng (xs (i + 1)))) (Nat.le_of_ble_eq_true rfl) rfl rfl (Nat.le_of_ble_eq_true rfl) ?_
  intro v M2 he
  obtain ⟨rfl, rfl⟩ := he
  refine lz_eq (st := []) C0 (tgt := 921) dL_law_902 (by decide) ?_
  exact next _ σ ⟨hC1, hJ1, hok, Nat.le_succ_of_le hn⟩
set_option maxRecDepth 100000 in
set_option maxHeartbeats 600000 in
/-- digest -/
theorem lz_digest {p : Program} {l : Launch} {e : Env} {s : State} {m : MethodId} {below : List Frame} {meth : Method} {c : Code} {b L : Nat} {xs : Nat → Int32} {G : zw_G} {i n : Nat} {M : zw_M} {σ : zZ} (C0 : lz_K p s m meth c b L xs G) (h5 : i + 5 ≤ L) (hB : zB M σ n) (h512 : n ≤ 512) (next : ∀ (M1 : zw_M) (σ1 : zZ), zB M1 σ1 (n + 1) → lz_X p l e s m below meth c b G i 921 [] M1) : lz_X p l e s m below meth c b G i 907 [] M := by
  obtain ⟨hC, hJ, hok, hn⟩ := id hB
  refine lz_ref1 C0 dL_law_907 ?_
  refine lz_callV C0 (y1 := iX10_digest) dL_law_908 (List.mem_of_getElem? (i := 932) (by decide +kernel)) vX10_digest rc_0 (mX10_digest (d := 0) hC) (Nat.le_of_ble_eq_true rfl) rfl rfl (Nat.le_of_ble_eq_true rfl) ?_
  intro v M1 he
  obtain ⟨rfl, hf, hC1⟩ := he
  have hJ1 := zJ_x hf hJ
  refine lz_ref2 C0 dL_law_911 ?_
  refine lz_callV C0 (y1 := iX11_digest) dL_law_912 (List.mem_of_getElem? (i := 1351) (by decide +kernel)) vX11_digest rc_33 (mX11_digest (d := 0) hJ1 hok) (Nat.le_of_ble_eq_true rfl) rfl rfl (Nat.le_of_ble_eq_true rfl) ?_
  intro v M2 he
  obtain ⟨rfl, hf2, hJ2⟩ := he
  refine lz_lcmp (st := []) C0 (tgt := 921) dL_law_915 dL_law_916 (by decide) ?_
  exact next M2 (σ) ⟨zC_x hf2 hC1, hJ2, hok, Nat.le_succ_of_le hn⟩
set_option maxRecDepth 100000 in
set_option maxHeartbeats 600000 in
/-- THE LAW'S LOOP -/
theorem lz_loop {p : Program} {l : Launch} {e : Env} {s : State} {m : MethodId} {below : List Frame} {meth : Method} {c : Code} {b L : Nat} {xs : Nat → Int32} {G : zw_G} (C0 : lz_K p s m meth c b L xs G) : ∀ j : Nat, j ≤ L / 5 → ∀ (M : zw_M) (σ : zZ), zB M σ j → lz_X p l e s m below meth c b G (5 * j) 18 [] M := by
  have hL := C0.2.2.2.2.2
  refine zw_loop (L / 5) (P := fun j => ∀ (M : zw_M) (σ : zZ), zB M σ j → lz_X p l e s m below meth c b G (5 * j) 18 [] M) (fun j hj ih M σ hB => ?_)
  refine lz_head C0 (fun h5 => ?_) (by omega)
  have next : ∀ (M1 : zw_M) (σ1 : zZ), zB M1 σ1 (j + 1) → lz_X p l e s m below meth c b G (5 * j) 921 [] M1 := fun M1 σ1 h => lz_next C0 (by
    have h9 := ih (by omega) M1 σ1 h
    rw [Nat.mul_succ] at h9
    exact h9)
  refine lz_arg0 C0 dL_law_26 dL_law_27 dL_law_28 (by omega) ?_
  refine lz_bipush C0 (v := 31) dL_law_29 rfl ?_
  refine lz_iand C0 dL_law_31 ?_
  obtain ⟨k, hk, ek⟩ := lz_31 (xs (5 * j))
  rw [ek]
  have ekt : (zn_I (k : Int)).toInt = (k : Int) := zn_toInt ⟨by omega, by omega⟩
  rcases (show k = 0 ∨ k = 1 ∨ k = 2 ∨ k = 3 ∨ k = 4 ∨ k = 5 ∨ k = 6 ∨ k = 7 ∨ k = 8 ∨ k = 9 ∨ k = 10 ∨ k = 11 ∨ k = 12 ∨ k = 13 ∨ k = 14 ∨ k = 15 ∨ k = 16 ∨ k = 17 ∨ k = 18 ∨ k = 19 ∨ k = 20 ∨ k = 21 ∨ k = 22 ∨ k = 23 ∨ k = 24 ∨ k = 25 ∨ 25 < k by omega) with h | h | h | h | h | h | h | h | h | h | h | h | h | h | h | h | h | h | h | h | h | h | h | h | h | h | h
  · exact lz_tin C0 (z := 0) (tgt := 152) dL_law_32 (ekt.trans (by omega)) (by decide) (by decide) rfl (by decide) (lz_letters C0 h5 hB (by omega) next)
  · exact lz_tin C0 (z := 1) (tgt := 205) dL_law_32 (ekt.trans (by omega)) (by decide) (by decide) rfl (by decide) (lz_blank C0 h5 hB (by omega) next)
  · exact lz_tin C0 (z := 2) (tgt := 218) dL_law_32 (ekt.trans (by omega)) (by decide) (by decide) rfl (by decide) (lz_fault C0 h5 hB (by omega) next)
  · exact lz_tin C0 (z := 3) (tgt := 241) dL_law_32 (ekt.trans (by omega)) (by decide) (by decide) rfl (by decide) (lz_plan C0 h5 hB (by omega) next)
  · exact lz_tin C0 (z := 4) (tgt := 254) dL_law_32 (ekt.trans (by omega)) (by decide) (by decide) rfl (by decide) (lz_square C0 h5 hB (by omega) next)
  · exact lz_tin C0 (z := 5) (tgt := 287) dL_law_32 (ekt.trans (by omega)) (by decide) (by decide) rfl (by decide) (lz_thing C0 h5 hB (by omega) next)
  · exact lz_tin C0 (z := 6) (tgt := 330) dL_law_32 (ekt.trans (by omega)) (by decide) (by decide) rfl (by decide) (lz_about C0 h5 hB (by omega) next)
  · exact lz_tin C0 (z := 7) (tgt := 363) dL_law_32 (ekt.trans (by omega)) (by decide) (by decide) rfl (by decide) (lz_as C0 h5 hB (by omega) next)
  · exact lz_tin C0 (z := 8) (tgt := 396) dL_law_32 (ekt.trans (by omega)) (by decide) (by decide) rfl (by decide) (lz_stand C0 h5 hB (by omega) next)
  · exact lz_tin C0 (z := 9) (tgt := 439) dL_law_32 (ekt.trans (by omega)) (by decide) (by decide) rfl (by decide) (lz_put C0 h5 hB (by omega) next)
  · exact lz_tin C0 (z := 10) (tgt := 472) dL_law_32 (ekt.trans (by omega)) (by decide) (by decide) rfl (by decide) (lz_trade C0 h5 hB (by omega) next)
  · exact lz_tin C0 (z := 11) (tgt := 515) dL_law_32 (ekt.trans (by omega)) (by decide) (by decide) rfl (by decide) (lz_leans C0 h5 hB (by omega) next)
  · exact lz_tin C0 (z := 12) (tgt := 548) dL_law_32 (ekt.trans (by omega)) (by decide) (by decide) rfl (by decide) (lz_dip C0 h5 hB (by omega) next)
  · exact lz_tin C0 (z := 13) (tgt := 581) dL_law_32 (ekt.trans (by omega)) (by decide) (by decide) rfl (by decide) (lz_wet C0 h5 hB (by omega) next)
  · exact lz_tin C0 (z := 14) (tgt := 604) dL_law_32 (ekt.trans (by omega)) (by decide) (by decide) rfl (by decide) (lz_trades C0 h5 hB (by omega) next)
  · exact lz_tin C0 (z := 15) (tgt := 637) dL_law_32 (ekt.trans (by omega)) (by decide) (by decide) rfl (by decide) (lz_counter C0 h5 hB (by omega) next)
  · exact lz_tin C0 (z := 16) (tgt := 680) dL_law_32 (ekt.trans (by omega)) (by decide) (by decide) rfl (by decide) (lz_stones C0 h5 hB (by omega) next)
  · exact lz_tin C0 (z := 17) (tgt := 703) dL_law_32 (ekt.trans (by omega)) (by decide) (by decide) rfl (by decide) (lz_site C0 h5 hB (by omega) next)
  · exact lz_tin C0 (z := 18) (tgt := 726) dL_law_32 (ekt.trans (by omega)) (by decide) (by decide) rfl (by decide) (lz_late C0 h5 hB (by omega) next)
  · exact lz_tin C0 (z := 19) (tgt := 769) dL_law_32 (ekt.trans (by omega)) (by decide) (by decide) rfl (by decide) (lz_storm C0 h5 hB (by omega) next)
  · exact lz_tin C0 (z := 20) (tgt := 792) dL_law_32 (ekt.trans (by omega)) (by decide) (by decide) rfl (by decide) (lz_moss C0 h5 hB (by omega) next)
  · exact lz_tin C0 (z := 21) (tgt := 805) dL_law_32 (ekt.trans (by omega)) (by decide) (by decide) rfl (by decide) (lz_cows C0 h5 hB (by omega) next)
  · exact lz_tin C0 (z := 22) (tgt := 858) dL_law_32 (ekt.trans (by omega)) (by decide) (by decide) rfl (by decide) (lz_image C0 h5 hB (by omega) next)
  · exact lz_tin C0 (z := 23) (tgt := 871) dL_law_32 (ekt.trans (by omega)) (by decide) (by decide) rfl (by decide) (lz_restore C0 h5 hB (by omega) next)
  · exact lz_tin C0 (z := 24) (tgt := 884) dL_law_32 (ekt.trans (by omega)) (by decide) (by decide) rfl (by decide) (lz_count C0 h5 hB (by omega) next)
  · exact lz_tin C0 (z := 25) (tgt := 907) dL_law_32 (ekt.trans (by omega)) (by decide) (by decide) rfl (by decide) (lz_digest C0 h5 hB (by omega) next)
  · exact lz_tout C0 (tgt := 921) dL_law_32 (by rw [ekt]; omega) (by decide) (next M σ ⟨hB.1, hB.2.1, hB.2.2.1, Nat.le_succ_of_le hB.2.2.2⟩)
