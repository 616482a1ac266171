theorem w_law_coins {X : Nat × (Nat → Int32)} {M : ng_M} {i : Int32} (h : ng_inv M) (h6 : ng_six X i) (kk : ∀ M2 : ng_M, ng_inv M2 → ng_Go X mi_L_law 61 1407 [some (.ref 1007), some (.ref 0), some (.ref 73), some (.int i)] [] M2 ng_F1) : ng_Go X mi_L_law 61 196 [some (.ref 1007), some (.ref 0), some (.ref 73), some (.int i)] [] M ng_F1 := by
  obtain ⟨g0, g1, g2, g3, g4, g5⟩ := h6
  refine ng_aload_1 dL_law_196 ?_
  refine ng_aload_0 dL_law_197 ?_
  refine ng_iload_3 dL_law_198 ?_
  refine ng_iconst_1 dL_law_199 ?_
  refine ng_iadd dL_law_200 ?_
  refine ng_kld (k := 7) dL_law_201 rfl (by assumption) ?_
  refine ng_aload_0 dL_law_202 ?_
  refine ng_iload_3 dL_law_203 ?_
  refine ng_iconst_2 dL_law_204 ?_
  refine ng_iadd dL_law_205 ?_
  refine ng_kld (k := 7) dL_law_206 rfl (by assumption) ?_
  refine ng_callV_2i (y2 := mi_X8_coins) dL_law_207 lk_L_13 ms_X8_coins my_X8_coins (by first | exact ⟨_, rfl⟩ | assumption | exact ng_fld_obj (f := 0) (by assumption)) mc_X8 (by first | decide | exact Nat.le_of_ble_eq_true rfl) (pr_coins h) (by decide) (fun v M1 h1 => ?_)
  refine ng_aload_2 dL_law_210 ?_
  refine ng_aload_0 dL_law_211 ?_
  refine ng_iload_3 dL_law_212 ?_
  refine ng_iconst_1 dL_law_213 ?_
  refine ng_iadd dL_law_214 ?_
  refine ng_kld (k := 7) dL_law_215 rfl (by assumption) ?_
  refine ng_aload_0 dL_law_216 ?_
  refine ng_iload_3 dL_law_217 ?_
  refine ng_iconst_2 dL_law_218 ?_
  refine ng_iadd dL_law_219 ?_
  refine ng_kld (k := 7) dL_law_220 rfl (by assumption) ?_
  refine ng_callV_2i (y2 := mi_X9_coins) dL_law_221 lk_L_17 ms_X9_coins my_X9_coins (by first | exact ⟨_, rfl⟩ | assumption | exact ng_fld_obj (f := 0) (by assumption)) mc_X9 (by first | decide | exact Nat.le_of_ble_eq_true rfl) (h1) (by decide) (fun v2 M2 h2 => ?_)
  refine ng_icmp_eq 1407 dL_law_224 (by decide +kernel) (fun h224 => ?_) (fun h224 => ?_)
  · exact kk M2 h2.2
  · exact absurd h2.1.symm h224
theorem w_law_set {X : Nat × (Nat → Int32)} {M : ng_M} {i : Int32} (h : ng_inv M) (h6 : ng_six X i) (kk : ∀ M2 : ng_M, ng_inv M2 → ng_Go X mi_L_law 61 1407 [some (.ref 1007), some (.ref 0), some (.ref 73), some (.int i)] [] M2 ng_F1) : ng_Go X mi_L_law 61 229 [some (.ref 1007), some (.ref 0), some (.ref 73), some (.int i)] [] M ng_F1 := by
  obtain ⟨g0, g1, g2, g3, g4, g5⟩ := h6
  refine ng_aload_1 dL_law_229 ?_
  refine ng_aload_0 dL_law_230 ?_
  refine ng_iload_3 dL_law_231 ?_
  refine ng_iconst_1 dL_law_232 ?_
  refine ng_iadd dL_law_233 ?_
  refine ng_kld (k := 7) dL_law_234 rfl (by assumption) ?_
  refine ng_aload_0 dL_law_235 ?_
  refine ng_iload_3 dL_law_236 ?_
  refine ng_iconst_2 dL_law_237 ?_
  refine ng_iadd dL_law_238 ?_
  refine ng_kld (k := 7) dL_law_239 rfl (by assumption) ?_
  refine ng_callV_2i (y2 := mi_X8_set) dL_law_240 lk_L_18 ms_X8_set my_X8_set (by first | exact ⟨_, rfl⟩ | assumption | exact ng_fld_obj (f := 0) (by assumption)) mc_X8 (by first | decide | exact Nat.le_of_ble_eq_true rfl) (pr_set h) (by decide) (fun v M1 h1 => ?_)
  refine ng_aload_2 dL_law_243 ?_
  refine ng_aload_0 dL_law_244 ?_
  refine ng_iload_3 dL_law_245 ?_
  refine ng_iconst_1 dL_law_246 ?_
  refine ng_iadd dL_law_247 ?_
  refine ng_kld (k := 7) dL_law_248 rfl (by assumption) ?_
  refine ng_aload_0 dL_law_249 ?_
  refine ng_iload_3 dL_law_250 ?_
  refine ng_iconst_2 dL_law_251 ?_
  refine ng_iadd dL_law_252 ?_
  refine ng_kld (k := 7) dL_law_253 rfl (by assumption) ?_
  refine ng_callV_2i (y2 := mi_X9_set) dL_law_254 lk_L_21 ms_X9_set my_X9_set (by first | exact ⟨_, rfl⟩ | assumption | exact ng_fld_obj (f := 0) (by assumption)) mc_X9 (by first | decide | exact Nat.le_of_ble_eq_true rfl) (h1) (by decide) (fun v2 M2 h2 => ?_)
  refine ng_icmp_eq 1407 dL_law_257 (by decide +kernel) (fun h257 => ?_) (fun h257 => ?_)
  · exact kk M2 h2.2
  · exact absurd h2.1.symm h257
theorem w_law_buyer {X : Nat × (Nat → Int32)} {M : ng_M} {i : Int32} (h : ng_inv M) (h6 : ng_six X i) (kk : ∀ M2 : ng_M, ng_inv M2 → ng_Go X mi_L_law 61 1407 [some (.ref 1007), some (.ref 0), some (.ref 73), some (.int i)] [] M2 ng_F1) : ng_Go X mi_L_law 61 262 [some (.ref 1007), some (.ref 0), some (.ref 73), some (.int i)] [] M ng_F1 := by
  obtain ⟨g0, g1, g2, g3, g4, g5⟩ := h6
  refine ng_aload_1 dL_law_262 ?_
  refine ng_aload_0 dL_law_263 ?_
  refine ng_iload_3 dL_law_264 ?_
  refine ng_iconst_1 dL_law_265 ?_
  refine ng_iadd dL_law_266 ?_
  refine ng_kld (k := 7) dL_law_267 rfl (by assumption) ?_
  refine ng_aload_0 dL_law_268 ?_
  refine ng_iload_3 dL_law_269 ?_
  refine ng_iconst_2 dL_law_270 ?_
  refine ng_iadd dL_law_271 ?_
  refine ng_kld (k := 7) dL_law_272 rfl (by assumption) ?_
  refine ng_aload_0 dL_law_273 ?_
  refine ng_iload_3 dL_law_274 ?_
  refine ng_iconst_3 dL_law_275 ?_
  refine ng_iadd dL_law_276 ?_
  refine ng_kld (k := 7) dL_law_277 rfl (by assumption) ?_
  refine ng_callV_3i (y2 := mi_X8_buyer) dL_law_278 lk_L_22 ms_X8_buyer my_X8_buyer (by first | exact ⟨_, rfl⟩ | assumption | exact ng_fld_obj (f := 0) (by assumption)) mc_X8 (by first | decide | exact Nat.le_of_ble_eq_true rfl) (pr_buyer h) (by decide) (fun v M1 h1 => ?_)
  refine ng_aload_2 dL_law_281 ?_
  refine ng_aload_0 dL_law_282 ?_
  refine ng_iload_3 dL_law_283 ?_
  refine ng_iconst_1 dL_law_284 ?_
  refine ng_iadd dL_law_285 ?_
  refine ng_kld (k := 7) dL_law_286 rfl (by assumption) ?_
  refine ng_aload_0 dL_law_287 ?_
  refine ng_iload_3 dL_law_288 ?_
  refine ng_iconst_2 dL_law_289 ?_
  refine ng_iadd dL_law_290 ?_
  refine ng_kld (k := 7) dL_law_291 rfl (by assumption) ?_
  refine ng_aload_0 dL_law_292 ?_
  refine ng_iload_3 dL_law_293 ?_
  refine ng_iconst_3 dL_law_294 ?_
  refine ng_iadd dL_law_295 ?_
  refine ng_kld (k := 7) dL_law_296 rfl (by assumption) ?_
  refine ng_callV_3i (y2 := mi_X9_buyer) dL_law_297 lk_L_26 ms_X9_buyer my_X9_buyer (by first | exact ⟨_, rfl⟩ | assumption | exact ng_fld_obj (f := 0) (by assumption)) mc_X9 (by first | decide | exact Nat.le_of_ble_eq_true rfl) (h1) (by decide) (fun v2 M2 h2 => ?_)
  refine ng_icmp_eq 1407 dL_law_300 (by decide +kernel) (fun h300 => ?_) (fun h300 => ?_)
  · exact kk M2 h2.2
  · exact absurd h2.1.symm h300
theorem w_law_ofBuyer {X : Nat × (Nat → Int32)} {M : ng_M} {i : Int32} (h : ng_inv M) (h6 : ng_six X i) (kk : ∀ M2 : ng_M, ng_inv M2 → ng_Go X mi_L_law 61 1407 [some (.ref 1007), some (.ref 0), some (.ref 73), some (.int i)] [] M2 ng_F1) : ng_Go X mi_L_law 61 305 [some (.ref 1007), some (.ref 0), some (.ref 73), some (.int i)] [] M ng_F1 := by
  obtain ⟨g0, g1, g2, g3, g4, g5⟩ := h6
  refine ng_aload_1 dL_law_305 ?_
  refine ng_aload_0 dL_law_306 ?_
  refine ng_iload_3 dL_law_307 ?_
  refine ng_iconst_1 dL_law_308 ?_
  refine ng_iadd dL_law_309 ?_
  refine ng_kld (k := 7) dL_law_310 rfl (by assumption) ?_
  refine ng_aload_0 dL_law_311 ?_
  refine ng_iload_3 dL_law_312 ?_
  refine ng_iconst_2 dL_law_313 ?_
  refine ng_iadd dL_law_314 ?_
  refine ng_kld (k := 7) dL_law_315 rfl (by assumption) ?_
  refine ng_callV_2i (y2 := mi_X8_ofBuyer) dL_law_316 lk_L_27 ms_X8_ofBuyer my_X8_ofBuyer (by first | exact ⟨_, rfl⟩ | assumption | exact ng_fld_obj (f := 0) (by assumption)) mc_X8 (by first | decide | exact Nat.le_of_ble_eq_true rfl) (pr_ofBuyer h) (by decide) (fun v M1 h1 => ?_)
  refine ng_aload_2 dL_law_319 ?_
  refine ng_aload_0 dL_law_320 ?_
  refine ng_iload_3 dL_law_321 ?_
  refine ng_iconst_1 dL_law_322 ?_
  refine ng_iadd dL_law_323 ?_
  refine ng_kld (k := 7) dL_law_324 rfl (by assumption) ?_
  refine ng_aload_0 dL_law_325 ?_
  refine ng_iload_3 dL_law_326 ?_
  refine ng_iconst_2 dL_law_327 ?_
  refine ng_iadd dL_law_328 ?_
  refine ng_kld (k := 7) dL_law_329 rfl (by assumption) ?_
  refine ng_callV_2i (y2 := mi_X9_ofBuyer) dL_law_330 lk_L_30 ms_X9_ofBuyer my_X9_ofBuyer (by first | exact ⟨_, rfl⟩ | assumption | exact ng_fld_obj (f := 0) (by assumption)) mc_X9 (by first | decide | exact Nat.le_of_ble_eq_true rfl) (h1) (by decide) (fun v2 M2 h2 => ?_)
  refine ng_icmp_eq 1407 dL_law_333 (by decide +kernel) (fun h333 => ?_) (fun h333 => ?_)
  · exact kk M2 h2.2
  · exact absurd h2.1.symm h333
theorem w_law_as {X : Nat × (Nat → Int32)} {M : ng_M} {i : Int32} (h : ng_inv M) (h6 : ng_six X i) (kk : ∀ M2 : ng_M, ng_inv M2 → ng_Go X mi_L_law 61 1407 [some (.ref 1007), some (.ref 0), some (.ref 73), some (.int i)] [] M2 ng_F1) : ng_Go X mi_L_law 61 338 [some (.ref 1007), some (.ref 0), some (.ref 73), some (.int i)] [] M ng_F1 := by
  obtain ⟨g0, g1, g2, g3, g4, g5⟩ := h6
  refine ng_aload_1 dL_law_338 ?_
  refine ng_aload_0 dL_law_339 ?_
  refine ng_iload_3 dL_law_340 ?_
  refine ng_iconst_1 dL_law_341 ?_
  refine ng_iadd dL_law_342 ?_
  refine ng_kld (k := 7) dL_law_343 rfl (by assumption) ?_
  refine ng_aload_0 dL_law_344 ?_
  refine ng_iload_3 dL_law_345 ?_
  refine ng_iconst_2 dL_law_346 ?_
  refine ng_iadd dL_law_347 ?_
  refine ng_kld (k := 7) dL_law_348 rfl (by assumption) ?_
  refine ng_callV_2i (y2 := mi_X8_as) dL_law_349 lk_L_31 ms_X8_as my_X8_as (by first | exact ⟨_, rfl⟩ | assumption | exact ng_fld_obj (f := 0) (by assumption)) mc_X8 (by first | decide | exact Nat.le_of_ble_eq_true rfl) (pr_as h) (by decide) (fun v M1 h1 => ?_)
  refine ng_aload_2 dL_law_352 ?_
  refine ng_aload_0 dL_law_353 ?_
  refine ng_iload_3 dL_law_354 ?_
  refine ng_iconst_1 dL_law_355 ?_
  refine ng_iadd dL_law_356 ?_
  refine ng_kld (k := 7) dL_law_357 rfl (by assumption) ?_
  refine ng_aload_0 dL_law_358 ?_
  refine ng_iload_3 dL_law_359 ?_
  refine ng_iconst_2 dL_law_360 ?_
  refine ng_iadd dL_law_361 ?_
  refine ng_kld (k := 7) dL_law_362 rfl (by assumption) ?_
  refine ng_callV_2i (y2 := mi_X9_as) dL_law_363 lk_L_34 ms_X9_as my_X9_as (by first | exact ⟨_, rfl⟩ | assumption | exact ng_fld_obj (f := 0) (by assumption)) mc_X9 (by first | decide | exact Nat.le_of_ble_eq_true rfl) (h1) (by decide) (fun v2 M2 h2 => ?_)
  refine ng_icmp_eq 1407 dL_law_366 (by decide +kernel) (fun h366 => ?_) (fun h366 => ?_)
  · exact kk M2 h2.2
  · exact absurd h2.1.symm h366
theorem w_law_has {X : Nat × (Nat → Int32)} {M : ng_M} {i : Int32} (h : ng_inv M) (h6 : ng_six X i) (kk : ∀ M2 : ng_M, ng_inv M2 → ng_Go X mi_L_law 61 1407 [some (.ref 1007), some (.ref 0), some (.ref 73), some (.int i)] [] M2 ng_F1) : ng_Go X mi_L_law 61 371 [some (.ref 1007), some (.ref 0), some (.ref 73), some (.int i)] [] M ng_F1 := by
  obtain ⟨g0, g1, g2, g3, g4, g5⟩ := h6
  refine ng_aload_1 dL_law_371 ?_
  refine ng_aload_0 dL_law_372 ?_
  refine ng_iload_3 dL_law_373 ?_
  refine ng_iconst_1 dL_law_374 ?_
  refine ng_iadd dL_law_375 ?_
  refine ng_kld (k := 7) dL_law_376 rfl (by assumption) ?_
  refine ng_aload_0 dL_law_377 ?_
  refine ng_iload_3 dL_law_378 ?_
  refine ng_iconst_2 dL_law_379 ?_
  refine ng_iadd dL_law_380 ?_
  refine ng_kld (k := 7) dL_law_381 rfl (by assumption) ?_
  refine ng_callV_2i (y2 := mi_X8_has) dL_law_382 lk_L_35 ms_X8_has my_X8_has (by first | exact ⟨_, rfl⟩ | assumption | exact ng_fld_obj (f := 0) (by assumption)) mc_X8 (by first | decide | exact Nat.le_of_ble_eq_true rfl) (pr_has h) (by decide) (fun v M1 h1 => ?_)
  refine ng_aload_2 dL_law_385 ?_
  refine ng_aload_0 dL_law_386 ?_
  refine ng_iload_3 dL_law_387 ?_
  refine ng_iconst_1 dL_law_388 ?_
  refine ng_iadd dL_law_389 ?_
  refine ng_kld (k := 7) dL_law_390 rfl (by assumption) ?_
  refine ng_aload_0 dL_law_391 ?_
  refine ng_iload_3 dL_law_392 ?_
  refine ng_iconst_2 dL_law_393 ?_
  refine ng_iadd dL_law_394 ?_
  refine ng_kld (k := 7) dL_law_395 rfl (by assumption) ?_
  refine ng_callV_2i (y2 := mi_X9_has) dL_law_396 lk_L_38 ms_X9_has my_X9_has (by first | exact ⟨_, rfl⟩ | assumption | exact ng_fld_obj (f := 0) (by assumption)) mc_X9 (by first | decide | exact Nat.le_of_ble_eq_true rfl) (h1) (by decide) (fun v2 M2 h2 => ?_)
  refine ng_icmp_eq 1407 dL_law_399 (by decide +kernel) (fun h399 => ?_) (fun h399 => ?_)
  · exact kk M2 h2.2
  · exact absurd h2.1.symm h399
theorem w_law_buyers {X : Nat × (Nat → Int32)} {M : ng_M} {i : Int32} (h : ng_inv M) (h6 : ng_six X i) (kk : ∀ M2 : ng_M, ng_inv M2 → ng_Go X mi_L_law 61 1407 [some (.ref 1007), some (.ref 0), some (.ref 73), some (.int i)] [] M2 ng_F1) : ng_Go X mi_L_law 61 404 [some (.ref 1007), some (.ref 0), some (.ref 73), some (.int i)] [] M ng_F1 := by
  obtain ⟨g0, g1, g2, g3, g4, g5⟩ := h6
  refine ng_aload_1 dL_law_404 ?_
  refine ng_aload_0 dL_law_405 ?_
  refine ng_iload_3 dL_law_406 ?_
  refine ng_iconst_1 dL_law_407 ?_
  refine ng_iadd dL_law_408 ?_
  refine ng_kld (k := 7) dL_law_409 rfl (by assumption) ?_
  refine ng_callV_1i (y2 := mi_X8_buyers) dL_law_410 lk_L_39 ms_X8_buyers my_X8_buyers (by first | exact ⟨_, rfl⟩ | assumption | exact ng_fld_obj (f := 0) (by assumption)) mc_X8 (by first | decide | exact Nat.le_of_ble_eq_true rfl) (pr_buyers h) (by decide) (fun v M1 h1 => ?_)
  refine ng_aload_2 dL_law_413 ?_
  refine ng_aload_0 dL_law_414 ?_
  refine ng_iload_3 dL_law_415 ?_
  refine ng_iconst_1 dL_law_416 ?_
  refine ng_iadd dL_law_417 ?_
  refine ng_kld (k := 7) dL_law_418 rfl (by assumption) ?_
  refine ng_callV_1i (y2 := mi_X9_buyers) dL_law_419 lk_L_43 ms_X9_buyers my_X9_buyers (by first | exact ⟨_, rfl⟩ | assumption | exact ng_fld_obj (f := 0) (by assumption)) mc_X9 (by first | decide | exact Nat.le_of_ble_eq_true rfl) (h1) (by decide) (fun v2 M2 h2 => ?_)
  refine ng_icmp_eq 1407 dL_law_422 (by decide +kernel) (fun h422 => ?_) (fun h422 => ?_)
  · exact kk M2 h2.2
  · exact absurd h2.1.symm h422
theorem w_law_at {X : Nat × (Nat → Int32)} {M : ng_M} {i : Int32} (h : ng_inv M) (h6 : ng_six X i) (kk : ∀ M2 : ng_M, ng_inv M2 → ng_Go X mi_L_law 61 1407 [some (.ref 1007), some (.ref 0), some (.ref 73), some (.int i)] [] M2 ng_F1) : ng_Go X mi_L_law 61 427 [some (.ref 1007), some (.ref 0), some (.ref 73), some (.int i)] [] M ng_F1 := by
  obtain ⟨g0, g1, g2, g3, g4, g5⟩ := h6
  refine ng_aload_1 dL_law_427 ?_
  refine ng_aload_0 dL_law_428 ?_
  refine ng_iload_3 dL_law_429 ?_
  refine ng_iconst_1 dL_law_430 ?_
  refine ng_iadd dL_law_431 ?_
  refine ng_kld (k := 7) dL_law_432 rfl (by assumption) ?_
  refine ng_aload_0 dL_law_433 ?_
  refine ng_iload_3 dL_law_434 ?_
  refine ng_iconst_2 dL_law_435 ?_
  refine ng_iadd dL_law_436 ?_
  refine ng_kld (k := 7) dL_law_437 rfl (by assumption) ?_
  refine ng_aload_0 dL_law_438 ?_
  refine ng_iload_3 dL_law_439 ?_
  refine ng_iconst_3 dL_law_440 ?_
  refine ng_iadd dL_law_441 ?_
  refine ng_kld (k := 7) dL_law_442 rfl (by assumption) ?_
  refine ng_aload_0 dL_law_443 ?_
  refine ng_iload_3 dL_law_444 ?_
  refine ng_iconst_4 dL_law_445 ?_
  refine ng_iadd dL_law_446 ?_
  refine ng_kld (k := 7) dL_law_447 rfl (by assumption) ?_
  refine ng_callV_4i (y2 := mi_X8_at) dL_law_448 lk_L_44 ms_X8_at my_X8_at (by first | exact ⟨_, rfl⟩ | assumption | exact ng_fld_obj (f := 0) (by assumption)) mc_X8 (by first | decide | exact Nat.le_of_ble_eq_true rfl) (pr_at h) (by decide) (fun v M1 h1 => ?_)
  refine ng_aload_2 dL_law_451 ?_
  refine ng_aload_0 dL_law_452 ?_
  refine ng_iload_3 dL_law_453 ?_
  refine ng_iconst_1 dL_law_454 ?_
  refine ng_iadd dL_law_455 ?_
  refine ng_kld (k := 7) dL_law_456 rfl (by assumption) ?_
  refine ng_aload_0 dL_law_457 ?_
  refine ng_iload_3 dL_law_458 ?_
  refine ng_iconst_2 dL_law_459 ?_
  refine ng_iadd dL_law_460 ?_
  refine ng_kld (k := 7) dL_law_461 rfl (by assumption) ?_
  refine ng_aload_0 dL_law_462 ?_
  refine ng_iload_3 dL_law_463 ?_
  refine ng_iconst_3 dL_law_464 ?_
  refine ng_iadd dL_law_465 ?_
  refine ng_kld (k := 7) dL_law_466 rfl (by assumption) ?_
  refine ng_aload_0 dL_law_467 ?_
  refine ng_iload_3 dL_law_468 ?_
  refine ng_iconst_4 dL_law_469 ?_
  refine ng_iadd dL_law_470 ?_
  refine ng_kld (k := 7) dL_law_471 rfl (by assumption) ?_
  refine ng_callV_4i (y2 := mi_X9_at) dL_law_472 lk_L_48 ms_X9_at my_X9_at (by first | exact ⟨_, rfl⟩ | assumption | exact ng_fld_obj (f := 0) (by assumption)) mc_X9 (by first | decide | exact Nat.le_of_ble_eq_true rfl) (h1) (by decide) (fun v2 M2 h2 => ?_)
  refine ng_icmp_eq 1407 dL_law_475 (by decide +kernel) (fun h475 => ?_) (fun h475 => ?_)
  · exact kk M2 h2.2
  · exact absurd h2.1.symm h475
theorem w_law_feed {X : Nat × (Nat → Int32)} {M : ng_M} {i : Int32} (h : ng_inv M) (h6 : ng_six X i) (kk : ∀ M2 : ng_M, ng_inv M2 → ng_Go X mi_L_law 61 1407 [some (.ref 1007), some (.ref 0), some (.ref 73), some (.int i)] [] M2 ng_F1) : ng_Go X mi_L_law 61 480 [some (.ref 1007), some (.ref 0), some (.ref 73), some (.int i)] [] M ng_F1 := by
  obtain ⟨g0, g1, g2, g3, g4, g5⟩ := h6
  refine ng_aload_1 dL_law_480 ?_
  refine ng_aload_0 dL_law_481 ?_
  refine ng_iload_3 dL_law_482 ?_
  refine ng_iconst_1 dL_law_483 ?_
  refine ng_iadd dL_law_484 ?_
  refine ng_kld (k := 7) dL_law_485 rfl (by assumption) ?_
  refine ng_i2l dL_law_486 ?_
  refine ng_bipush (v := 32) dL_law_487 (by decide) ?_
  refine ng_lshl dL_law_489 ?_
  refine ng_aload_0 dL_law_490 ?_
  refine ng_iload_3 dL_law_491 ?_
  refine ng_iconst_2 dL_law_492 ?_
  refine ng_iadd dL_law_493 ?_
  refine ng_kld (k := 7) dL_law_494 rfl (by assumption) ?_
  refine ng_i2l dL_law_495 ?_
  refine ng_ldc2 dL_law_496 kc_L_49 ?_
  refine ng_land dL_law_499 ?_
  refine ng_lor dL_law_500 ?_
  refine ng_aload_0 dL_law_501 ?_
  refine ng_iload_3 dL_law_502 ?_
  refine ng_iconst_3 dL_law_503 ?_
  refine ng_iadd dL_law_504 ?_
  refine ng_kld (k := 7) dL_law_505 rfl (by assumption) ?_
  refine ng_callV_2i (y2 := mi_X8_feed) dL_law_506 lk_L_51 ms_X8_feed my_X8_feed (by first | exact ⟨_, rfl⟩ | assumption | exact ng_fld_obj (f := 0) (by assumption)) mc_X8 (by first | decide | exact Nat.le_of_ble_eq_true rfl) (pr_feed h) (by decide) (fun v M1 h1 => ?_)
  refine ng_aload_2 dL_law_509 ?_
  refine ng_aload_0 dL_law_510 ?_
  refine ng_iload_3 dL_law_511 ?_
  refine ng_iconst_1 dL_law_512 ?_
  refine ng_iadd dL_law_513 ?_
  refine ng_kld (k := 7) dL_law_514 rfl (by assumption) ?_
  refine ng_i2l dL_law_515 ?_
  refine ng_bipush (v := 32) dL_law_516 (by decide) ?_
  refine ng_lshl dL_law_518 ?_
  refine ng_aload_0 dL_law_519 ?_
  refine ng_iload_3 dL_law_520 ?_
  refine ng_iconst_2 dL_law_521 ?_
  refine ng_iadd dL_law_522 ?_
  refine ng_kld (k := 7) dL_law_523 rfl (by assumption) ?_
  refine ng_i2l dL_law_524 ?_
  refine ng_ldc2 dL_law_525 kc_L_49 ?_
  refine ng_land dL_law_528 ?_
  refine ng_lor dL_law_529 ?_
  refine ng_aload_0 dL_law_530 ?_
  refine ng_iload_3 dL_law_531 ?_
  refine ng_iconst_3 dL_law_532 ?_
  refine ng_iadd dL_law_533 ?_
  refine ng_kld (k := 7) dL_law_534 rfl (by assumption) ?_
  refine ng_callV_2i (y2 := mi_X9_feed) dL_law_535 lk_L_55 ms_X9_feed my_X9_feed (by first | exact ⟨_, rfl⟩ | assumption | exact ng_fld_obj (f := 0) (by assumption)) mc_X9 (by first | decide | exact Nat.le_of_ble_eq_true rfl) (h1) (by decide) (fun v2 M2 h2 => ?_)
  refine ng_icmp_eq 1407 dL_law_538 (by decide +kernel) (fun h538 => ?_) (fun h538 => ?_)
  · exact kk M2 h2.2
  · exact absurd h2.1.symm h538
theorem w_law_text {X : Nat × (Nat → Int32)} {M : ng_M} {i : Int32} (h : ng_inv M) (h6 : ng_six X i) (kk : ∀ M2 : ng_M, ng_inv M2 → ng_Go X mi_L_law 61 1407 [some (.ref 1007), some (.ref 0), some (.ref 73), some (.int i)] [] M2 ng_F1) : ng_Go X mi_L_law 61 543 [some (.ref 1007), some (.ref 0), some (.ref 73), some (.int i)] [] M ng_F1 := by
  obtain ⟨g0, g1, g2, g3, g4, g5⟩ := h6
  refine ng_aload_1 dL_law_543 ?_
  refine ng_aload_0 dL_law_544 ?_
  refine ng_iload_3 dL_law_545 ?_
  refine ng_iconst_1 dL_law_546 ?_
  refine ng_iadd dL_law_547 ?_
  refine ng_kld (k := 7) dL_law_548 rfl (by assumption) ?_
  refine ng_callV_1i (y2 := mi_X8_text) dL_law_549 lk_L_56 ms_X8_text my_X8_text (by first | exact ⟨_, rfl⟩ | assumption | exact ng_fld_obj (f := 0) (by assumption)) mc_X8 (by first | decide | exact Nat.le_of_ble_eq_true rfl) (pr_text h) (by decide) (fun v M1 h1 => ?_)
  refine ng_aload_2 dL_law_552 ?_
  refine ng_aload_0 dL_law_553 ?_
  refine ng_iload_3 dL_law_554 ?_
  refine ng_iconst_1 dL_law_555 ?_
  refine ng_iadd dL_law_556 ?_
  refine ng_kld (k := 7) dL_law_557 rfl (by assumption) ?_
  refine ng_callV_1i (y2 := mi_X9_text) dL_law_558 lk_L_59 ms_X9_text my_X9_text (by first | exact ⟨_, rfl⟩ | assumption | exact ng_fld_obj (f := 0) (by assumption)) mc_X9 (by first | decide | exact Nat.le_of_ble_eq_true rfl) (h1) (by decide) (fun v2 M2 h2 => ?_)
  refine ng_icmp_eq 1407 dL_law_561 (by decide +kernel) (fun h561 => ?_) (fun h561 => ?_)
  · exact kk M2 h2.2
  · exact absurd h2.1.symm h561
theorem w_law_law {X : Nat × (Nat → Int32)} {M : ng_M} {i : Int32} (h : ng_inv M) (h6 : ng_six X i) (kk : ∀ M2 : ng_M, ng_inv M2 → ng_Go X mi_L_law 61 1407 [some (.ref 1007), some (.ref 0), some (.ref 73), some (.int i)] [] M2 ng_F1) : ng_Go X mi_L_law 61 566 [some (.ref 1007), some (.ref 0), some (.ref 73), some (.int i)] [] M ng_F1 := by
  obtain ⟨g0, g1, g2, g3, g4, g5⟩ := h6
  refine ng_aload_1 dL_law_566 ?_
  refine ng_aload_0 dL_law_567 ?_
  refine ng_iload_3 dL_law_568 ?_
  refine ng_iconst_1 dL_law_569 ?_
  refine ng_iadd dL_law_570 ?_
  refine ng_kld (k := 7) dL_law_571 rfl (by assumption) ?_
  refine ng_aload_0 dL_law_572 ?_
  refine ng_iload_3 dL_law_573 ?_
  refine ng_iconst_2 dL_law_574 ?_
  refine ng_iadd dL_law_575 ?_
  refine ng_kld (k := 7) dL_law_576 rfl (by assumption) ?_
  refine ng_aload_0 dL_law_577 ?_
  refine ng_iload_3 dL_law_578 ?_
  refine ng_iconst_3 dL_law_579 ?_
  refine ng_iadd dL_law_580 ?_
  refine ng_kld (k := 7) dL_law_581 rfl (by assumption) ?_
  refine ng_aload_0 dL_law_582 ?_
  refine ng_iload_3 dL_law_583 ?_
  refine ng_iconst_4 dL_law_584 ?_
  refine ng_iadd dL_law_585 ?_
  refine ng_kld (k := 7) dL_law_586 rfl (by assumption) ?_
  refine ng_aload_0 dL_law_587 ?_
  refine ng_iload_3 dL_law_588 ?_
  refine ng_iconst_5 dL_law_589 ?_
  refine ng_iadd dL_law_590 ?_
  refine ng_kld (k := 7) dL_law_591 rfl (by assumption) ?_
  refine ng_callV_5i (y2 := mi_X8_law) dL_law_592 lk_L_60 ms_X8_law my_X8_law (by first | exact ⟨_, rfl⟩ | assumption | exact ng_fld_obj (f := 0) (by assumption)) mc_X8 (by first | decide | exact Nat.le_of_ble_eq_true rfl) (pr_law h) (by decide) (fun v M1 h1 => ?_)
  refine ng_aload_2 dL_law_595 ?_
  refine ng_aload_0 dL_law_596 ?_
  refine ng_iload_3 dL_law_597 ?_
  refine ng_iconst_1 dL_law_598 ?_
  refine ng_iadd dL_law_599 ?_
  refine ng_kld (k := 7) dL_law_600 rfl (by assumption) ?_
  refine ng_aload_0 dL_law_601 ?_
  refine ng_iload_3 dL_law_602 ?_
  refine ng_iconst_2 dL_law_603 ?_
  refine ng_iadd dL_law_604 ?_
  refine ng_kld (k := 7) dL_law_605 rfl (by assumption) ?_
  refine ng_aload_0 dL_law_606 ?_
  refine ng_iload_3 dL_law_607 ?_
  refine ng_iconst_3 dL_law_608 ?_
  refine ng_iadd dL_law_609 ?_
  refine ng_kld (k := 7) dL_law_610 rfl (by assumption) ?_
  refine ng_aload_0 dL_law_611 ?_
  refine ng_iload_3 dL_law_612 ?_
  refine ng_iconst_4 dL_law_613 ?_
  refine ng_iadd dL_law_614 ?_
  refine ng_kld (k := 7) dL_law_615 rfl (by assumption) ?_
  refine ng_aload_0 dL_law_616 ?_
  refine ng_iload_3 dL_law_617 ?_
  refine ng_iconst_5 dL_law_618 ?_
  refine ng_iadd dL_law_619 ?_
  refine ng_kld (k := 7) dL_law_620 rfl (by assumption) ?_
  refine ng_callV_5i (y2 := mi_X9_law) dL_law_621 lk_L_64 ms_X9_law my_X9_law (by first | exact ⟨_, rfl⟩ | assumption | exact ng_fld_obj (f := 0) (by assumption)) mc_X9 (by first | decide | exact Nat.le_of_ble_eq_true rfl) (h1) (by decide) (fun v2 M2 h2 => ?_)
  refine ng_icmp_eq 1407 dL_law_624 (by decide +kernel) (fun h624 => ?_) (fun h624 => ?_)
  · exact kk M2 h2.2
  · exact absurd h2.1.symm h624
theorem w_law_year {X : Nat × (Nat → Int32)} {M : ng_M} {i : Int32} (h : ng_inv M) (h6 : ng_six X i) (kk : ∀ M2 : ng_M, ng_inv M2 → ng_Go X mi_L_law 61 1407 [some (.ref 1007), some (.ref 0), some (.ref 73), some (.int i)] [] M2 ng_F1) : ng_Go X mi_L_law 61 629 [some (.ref 1007), some (.ref 0), some (.ref 73), some (.int i)] [] M ng_F1 := by
  obtain ⟨g0, g1, g2, g3, g4, g5⟩ := h6
  refine ng_aload_1 dL_law_629 ?_
  refine ng_aload_0 dL_law_630 ?_
  refine ng_iload_3 dL_law_631 ?_
  refine ng_iconst_1 dL_law_632 ?_
  refine ng_iadd dL_law_633 ?_
  refine ng_kld (k := 7) dL_law_634 rfl (by assumption) ?_
  refine ng_aload_0 dL_law_635 ?_
  refine ng_iload_3 dL_law_636 ?_
  refine ng_iconst_2 dL_law_637 ?_
  refine ng_iadd dL_law_638 ?_
  refine ng_kld (k := 7) dL_law_639 rfl (by assumption) ?_
  refine ng_callV_2i (y2 := mi_X8_year) dL_law_640 lk_L_65 ms_X8_year my_X8_year (by first | exact ⟨_, rfl⟩ | assumption | exact ng_fld_obj (f := 0) (by assumption)) mc_X8 (by first | decide | exact Nat.le_of_ble_eq_true rfl) (pr_year h) (by decide) (fun v M1 h1 => ?_)
  refine ng_aload_2 dL_law_643 ?_
  refine ng_aload_0 dL_law_644 ?_
  refine ng_iload_3 dL_law_645 ?_
  refine ng_iconst_1 dL_law_646 ?_
  refine ng_iadd dL_law_647 ?_
  refine ng_kld (k := 7) dL_law_648 rfl (by assumption) ?_
  refine ng_aload_0 dL_law_649 ?_
  refine ng_iload_3 dL_law_650 ?_
  refine ng_iconst_2 dL_law_651 ?_
  refine ng_iadd dL_law_652 ?_
  refine ng_kld (k := 7) dL_law_653 rfl (by assumption) ?_
  refine ng_callV_2i (y2 := mi_X9_year) dL_law_654 lk_L_68 ms_X9_year my_X9_year (by first | exact ⟨_, rfl⟩ | assumption | exact ng_fld_obj (f := 0) (by assumption)) mc_X9 (by first | decide | exact Nat.le_of_ble_eq_true rfl) (h1) (by decide) (fun v2 M2 h2 => ?_)
  refine ng_icmp_eq 1407 dL_law_657 (by decide +kernel) (fun h657 => ?_) (fun h657 => ?_)
  · exact kk M2 h2.2
  · exact absurd h2.1.symm h657
theorem w_law_give {X : Nat × (Nat → Int32)} {M : ng_M} {i : Int32} (h : ng_inv M) (h6 : ng_six X i) (kk : ∀ M2 : ng_M, ng_inv M2 → ng_Go X mi_L_law 61 1407 [some (.ref 1007), some (.ref 0), some (.ref 73), some (.int i)] [] M2 ng_F1) : ng_Go X mi_L_law 61 662 [some (.ref 1007), some (.ref 0), some (.ref 73), some (.int i)] [] M ng_F1 := by
  obtain ⟨g0, g1, g2, g3, g4, g5⟩ := h6
  refine ng_aload_1 dL_law_662 ?_
  refine ng_aload_0 dL_law_663 ?_
  refine ng_iload_3 dL_law_664 ?_
  refine ng_iconst_1 dL_law_665 ?_
  refine ng_iadd dL_law_666 ?_
  refine ng_kld (k := 7) dL_law_667 rfl (by assumption) ?_
  refine ng_callV_1i (y2 := mi_X8_give) dL_law_668 lk_L_69 ms_X8_give my_X8_give (by first | exact ⟨_, rfl⟩ | assumption | exact ng_fld_obj (f := 0) (by assumption)) mc_X8 (by first | decide | exact Nat.le_of_ble_eq_true rfl) (pr_give h) (by decide) (fun v M1 h1 => ?_)
  refine ng_aload_2 dL_law_671 ?_
  refine ng_aload_0 dL_law_672 ?_
  refine ng_iload_3 dL_law_673 ?_
  refine ng_iconst_1 dL_law_674 ?_
  refine ng_iadd dL_law_675 ?_
  refine ng_kld (k := 7) dL_law_676 rfl (by assumption) ?_
  refine ng_callV_1i (y2 := mi_X9_give) dL_law_677 lk_L_72 ms_X9_give my_X9_give (by first | exact ⟨_, rfl⟩ | assumption | exact ng_fld_obj (f := 0) (by assumption)) mc_X9 (by first | decide | exact Nat.le_of_ble_eq_true rfl) (h1) (by decide) (fun v2 M2 h2 => ?_)
  refine ng_icmp_eq 1407 dL_law_680 (by decide +kernel) (fun h680 => ?_) (fun h680 => ?_)
  · exact kk M2 h2.2
  · exact absurd h2.1.symm h680
theorem w_law_life {X : Nat × (Nat → Int32)} {M : ng_M} {i : Int32} (h : ng_inv M) (h6 : ng_six X i) (kk : ∀ M2 : ng_M, ng_inv M2 → ng_Go X mi_L_law 61 1407 [some (.ref 1007), some (.ref 0), some (.ref 73), some (.int i)] [] M2 ng_F1) : ng_Go X mi_L_law 61 685 [some (.ref 1007), some (.ref 0), some (.ref 73), some (.int i)] [] M ng_F1 := by
  obtain ⟨g0, g1, g2, g3, g4, g5⟩ := h6
  refine ng_aload_1 dL_law_685 ?_
  refine ng_aload_0 dL_law_686 ?_
  refine ng_iload_3 dL_law_687 ?_
  refine ng_iconst_1 dL_law_688 ?_
  refine ng_iadd dL_law_689 ?_
  refine ng_kld (k := 7) dL_law_690 rfl (by assumption) ?_
  refine ng_aload_0 dL_law_691 ?_
  refine ng_iload_3 dL_law_692 ?_
  refine ng_iconst_2 dL_law_693 ?_
  refine ng_iadd dL_law_694 ?_
  refine ng_kld (k := 7) dL_law_695 rfl (by assumption) ?_
  refine ng_callV_2i (y2 := mi_X8_life) dL_law_696 lk_L_73 ms_X8_life my_X8_life (by first | exact ⟨_, rfl⟩ | assumption | exact ng_fld_obj (f := 0) (by assumption)) mc_X8 (by first | decide | exact Nat.le_of_ble_eq_true rfl) (pr_life h) (by decide) (fun v M1 h1 => ?_)
  refine ng_aload_2 dL_law_699 ?_
  refine ng_aload_0 dL_law_700 ?_
  refine ng_iload_3 dL_law_701 ?_
  refine ng_iconst_1 dL_law_702 ?_
  refine ng_iadd dL_law_703 ?_
  refine ng_kld (k := 7) dL_law_704 rfl (by assumption) ?_
  refine ng_aload_0 dL_law_705 ?_
  refine ng_iload_3 dL_law_706 ?_
  refine ng_iconst_2 dL_law_707 ?_
  refine ng_iadd dL_law_708 ?_
  refine ng_kld (k := 7) dL_law_709 rfl (by assumption) ?_
  refine ng_callV_2i (y2 := mi_X9_life) dL_law_710 lk_L_76 ms_X9_life my_X9_life (by first | exact ⟨_, rfl⟩ | assumption | exact ng_fld_obj (f := 0) (by assumption)) mc_X9 (by first | decide | exact Nat.le_of_ble_eq_true rfl) (h1) (by decide) (fun v2 M2 h2 => ?_)
  refine ng_icmp_eq 1407 dL_law_713 (by decide +kernel) (fun h713 => ?_) (fun h713 => ?_)
  · exact kk M2 h2.2
  · exact absurd h2.1.symm h713
theorem w_law_then {X : Nat × (Nat → Int32)} {M : ng_M} {i : Int32} (h : ng_inv M) (h6 : ng_six X i) (kk : ∀ M2 : ng_M, ng_inv M2 → ng_Go X mi_L_law 61 1407 [some (.ref 1007), some (.ref 0), some (.ref 73), some (.int i)] [] M2 ng_F1) : ng_Go X mi_L_law 61 718 [some (.ref 1007), some (.ref 0), some (.ref 73), some (.int i)] [] M ng_F1 := by
  obtain ⟨g0, g1, g2, g3, g4, g5⟩ := h6
  refine ng_aload_1 dL_law_718 ?_
  refine ng_aload_0 dL_law_719 ?_
  refine ng_iload_3 dL_law_720 ?_
  refine ng_iconst_1 dL_law_721 ?_
  refine ng_iadd dL_law_722 ?_
  refine ng_kld (k := 7) dL_law_723 rfl (by assumption) ?_
  refine ng_aload_0 dL_law_724 ?_
  refine ng_iload_3 dL_law_725 ?_
  refine ng_iconst_2 dL_law_726 ?_
  refine ng_iadd dL_law_727 ?_
  refine ng_kld (k := 7) dL_law_728 rfl (by assumption) ?_
  refine ng_aload_0 dL_law_729 ?_
  refine ng_iload_3 dL_law_730 ?_
  refine ng_iconst_3 dL_law_731 ?_
  refine ng_iadd dL_law_732 ?_
  refine ng_kld (k := 7) dL_law_733 rfl (by assumption) ?_
  refine ng_callV_3i (y2 := mi_X8_then) dL_law_734 lk_L_77 ms_X8_then my_X8_then (by first | exact ⟨_, rfl⟩ | assumption | exact ng_fld_obj (f := 0) (by assumption)) mc_X8 (by first | decide | exact Nat.le_of_ble_eq_true rfl) (pr_then h) (by decide) (fun v M1 h1 => ?_)
  refine ng_aload_2 dL_law_737 ?_
  refine ng_aload_0 dL_law_738 ?_
  refine ng_iload_3 dL_law_739 ?_
  refine ng_iconst_1 dL_law_740 ?_
  refine ng_iadd dL_law_741 ?_
  refine ng_kld (k := 7) dL_law_742 rfl (by assumption) ?_
  refine ng_aload_0 dL_law_743 ?_
  refine ng_iload_3 dL_law_744 ?_
  refine ng_iconst_2 dL_law_745 ?_
  refine ng_iadd dL_law_746 ?_
  refine ng_kld (k := 7) dL_law_747 rfl (by assumption) ?_
  refine ng_aload_0 dL_law_748 ?_
  refine ng_iload_3 dL_law_749 ?_
  refine ng_iconst_3 dL_law_750 ?_
  refine ng_iadd dL_law_751 ?_
  refine ng_kld (k := 7) dL_law_752 rfl (by assumption) ?_
  refine ng_callV_3i (y2 := mi_X9_then) dL_law_753 lk_L_80 ms_X9_then my_X9_then (by first | exact ⟨_, rfl⟩ | assumption | exact ng_fld_obj (f := 0) (by assumption)) mc_X9 (by first | decide | exact Nat.le_of_ble_eq_true rfl) (h1) (by decide) (fun v2 M2 h2 => ?_)
  refine ng_icmp_eq 1407 dL_law_756 (by decide +kernel) (fun h756 => ?_) (fun h756 => ?_)
  · exact kk M2 h2.2
  · exact absurd h2.1.symm h756
theorem w_law_by {X : Nat × (Nat → Int32)} {M : ng_M} {i : Int32} (h : ng_inv M) (h6 : ng_six X i) (kk : ∀ M2 : ng_M, ng_inv M2 → ng_Go X mi_L_law 61 1407 [some (.ref 1007), some (.ref 0), some (.ref 73), some (.int i)] [] M2 ng_F1) : ng_Go X mi_L_law 61 761 [some (.ref 1007), some (.ref 0), some (.ref 73), some (.int i)] [] M ng_F1 := by
  obtain ⟨g0, g1, g2, g3, g4, g5⟩ := h6
  refine ng_aload_1 dL_law_761 ?_
  refine ng_aload_0 dL_law_762 ?_
  refine ng_iload_3 dL_law_763 ?_
  refine ng_iconst_1 dL_law_764 ?_
  refine ng_iadd dL_law_765 ?_
  refine ng_kld (k := 7) dL_law_766 rfl (by assumption) ?_
  refine ng_aload_0 dL_law_767 ?_
  refine ng_iload_3 dL_law_768 ?_
  refine ng_iconst_2 dL_law_769 ?_
  refine ng_iadd dL_law_770 ?_
  refine ng_kld (k := 7) dL_law_771 rfl (by assumption) ?_
  refine ng_callV_2i (y2 := mi_X8_by) dL_law_772 lk_L_81 ms_X8_by my_X8_by (by first | exact ⟨_, rfl⟩ | assumption | exact ng_fld_obj (f := 0) (by assumption)) mc_X8 (by first | decide | exact Nat.le_of_ble_eq_true rfl) (pr_by h) (by decide) (fun v M1 h1 => ?_)
  refine ng_aload_2 dL_law_775 ?_
  refine ng_aload_0 dL_law_776 ?_
  refine ng_iload_3 dL_law_777 ?_
  refine ng_iconst_1 dL_law_778 ?_
  refine ng_iadd dL_law_779 ?_
  refine ng_kld (k := 7) dL_law_780 rfl (by assumption) ?_
  refine ng_aload_0 dL_law_781 ?_
  refine ng_iload_3 dL_law_782 ?_
  refine ng_iconst_2 dL_law_783 ?_
  refine ng_iadd dL_law_784 ?_
  refine ng_kld (k := 7) dL_law_785 rfl (by assumption) ?_
  refine ng_callV_2i (y2 := mi_X9_by) dL_law_786 lk_L_84 ms_X9_by my_X9_by (by first | exact ⟨_, rfl⟩ | assumption | exact ng_fld_obj (f := 0) (by assumption)) mc_X9 (by first | decide | exact Nat.le_of_ble_eq_true rfl) (h1) (by decide) (fun v2 M2 h2 => ?_)
  refine ng_icmp_eq 1407 dL_law_789 (by decide +kernel) (fun h789 => ?_) (fun h789 => ?_)
  · exact kk M2 h2.2
  · exact absurd h2.1.symm h789
theorem w_law_best {X : Nat × (Nat → Int32)} {M : ng_M} {i : Int32} (h : ng_inv M) (h6 : ng_six X i) (kk : ∀ M2 : ng_M, ng_inv M2 → ng_Go X mi_L_law 61 1407 [some (.ref 1007), some (.ref 0), some (.ref 73), some (.int i)] [] M2 ng_F1) : ng_Go X mi_L_law 61 794 [some (.ref 1007), some (.ref 0), some (.ref 73), some (.int i)] [] M ng_F1 := by
  obtain ⟨g0, g1, g2, g3, g4, g5⟩ := h6
  refine ng_aload_1 dL_law_794 ?_
  refine ng_aload_0 dL_law_795 ?_
  refine ng_iload_3 dL_law_796 ?_
  refine ng_iconst_1 dL_law_797 ?_
  refine ng_iadd dL_law_798 ?_
  refine ng_kld (k := 7) dL_law_799 rfl (by assumption) ?_
  refine ng_aload_0 dL_law_800 ?_
  refine ng_iload_3 dL_law_801 ?_
  refine ng_iconst_2 dL_law_802 ?_
  refine ng_iadd dL_law_803 ?_
  refine ng_kld (k := 7) dL_law_804 rfl (by assumption) ?_
  refine ng_callV_2i (y2 := mi_X8_best) dL_law_805 lk_L_85 ms_X8_best my_X8_best (by first | exact ⟨_, rfl⟩ | assumption | exact ng_fld_obj (f := 0) (by assumption)) mc_X8 (by first | decide | exact Nat.le_of_ble_eq_true rfl) (pr_best h) (by decide) (fun v M1 h1 => ?_)
  refine ng_aload_2 dL_law_808 ?_
  refine ng_aload_0 dL_law_809 ?_
  refine ng_iload_3 dL_law_810 ?_
  refine ng_iconst_1 dL_law_811 ?_
  refine ng_iadd dL_law_812 ?_
  refine ng_kld (k := 7) dL_law_813 rfl (by assumption) ?_
  refine ng_aload_0 dL_law_814 ?_
  refine ng_iload_3 dL_law_815 ?_
  refine ng_iconst_2 dL_law_816 ?_
  refine ng_iadd dL_law_817 ?_
  refine ng_kld (k := 7) dL_law_818 rfl (by assumption) ?_
  refine ng_callV_2i (y2 := mi_X9_best) dL_law_819 lk_L_88 ms_X9_best my_X9_best (by first | exact ⟨_, rfl⟩ | assumption | exact ng_fld_obj (f := 0) (by assumption)) mc_X9 (by first | decide | exact Nat.le_of_ble_eq_true rfl) (h1) (by decide) (fun v2 M2 h2 => ?_)
  refine ng_icmp_eq 1407 dL_law_822 (by decide +kernel) (fun h822 => ?_) (fun h822 => ?_)
  · exact kk M2 h2.2
  · exact absurd h2.1.symm h822
theorem w_law_never {X : Nat × (Nat → Int32)} {M : ng_M} {i : Int32} (h : ng_inv M) (h6 : ng_six X i) (kk : ∀ M2 : ng_M, ng_inv M2 → ng_Go X mi_L_law 61 1407 [some (.ref 1007), some (.ref 0), some (.ref 73), some (.int i)] [] M2 ng_F1) : ng_Go X mi_L_law 61 827 [some (.ref 1007), some (.ref 0), some (.ref 73), some (.int i)] [] M ng_F1 := by
  obtain ⟨g0, g1, g2, g3, g4, g5⟩ := h6
  refine ng_aload_1 dL_law_827 ?_
  refine ng_aload_0 dL_law_828 ?_
  refine ng_iload_3 dL_law_829 ?_
  refine ng_iconst_1 dL_law_830 ?_
  refine ng_iadd dL_law_831 ?_
  refine ng_kld (k := 7) dL_law_832 rfl (by assumption) ?_
  refine ng_aload_0 dL_law_833 ?_
  refine ng_iload_3 dL_law_834 ?_
  refine ng_iconst_2 dL_law_835 ?_
  refine ng_iadd dL_law_836 ?_
  refine ng_kld (k := 7) dL_law_837 rfl (by assumption) ?_
  refine ng_callV_2i (y2 := mi_X8_never) dL_law_838 lk_L_89 ms_X8_never my_X8_never (by first | exact ⟨_, rfl⟩ | assumption | exact ng_fld_obj (f := 0) (by assumption)) mc_X8 (by first | decide | exact Nat.le_of_ble_eq_true rfl) (pr_never h) (by decide) (fun v M1 h1 => ?_)
  refine ng_aload_2 dL_law_841 ?_
  refine ng_aload_0 dL_law_842 ?_
  refine ng_iload_3 dL_law_843 ?_
  refine ng_iconst_1 dL_law_844 ?_
  refine ng_iadd dL_law_845 ?_
  refine ng_kld (k := 7) dL_law_846 rfl (by assumption) ?_
  refine ng_aload_0 dL_law_847 ?_
  refine ng_iload_3 dL_law_848 ?_
  refine ng_iconst_2 dL_law_849 ?_
  refine ng_iadd dL_law_850 ?_
  refine ng_kld (k := 7) dL_law_851 rfl (by assumption) ?_
  refine ng_callV_2i (y2 := mi_X9_never) dL_law_852 lk_L_92 ms_X9_never my_X9_never (by first | exact ⟨_, rfl⟩ | assumption | exact ng_fld_obj (f := 0) (by assumption)) mc_X9 (by first | decide | exact Nat.le_of_ble_eq_true rfl) (h1) (by decide) (fun v2 M2 h2 => ?_)
  refine ng_icmp_eq 1407 dL_law_855 (by decide +kernel) (fun h855 => ?_) (fun h855 => ?_)
  · exact kk M2 h2.2
  · exact absurd h2.1.symm h855
theorem w_law_costs {X : Nat × (Nat → Int32)} {M : ng_M} {i : Int32} (h : ng_inv M) (h6 : ng_six X i) (kk : ∀ M2 : ng_M, ng_inv M2 → ng_Go X mi_L_law 61 1407 [some (.ref 1007), some (.ref 0), some (.ref 73), some (.int i)] [] M2 ng_F1) : ng_Go X mi_L_law 61 860 [some (.ref 1007), some (.ref 0), some (.ref 73), some (.int i)] [] M ng_F1 := by
  obtain ⟨g0, g1, g2, g3, g4, g5⟩ := h6
  refine ng_aload_1 dL_law_860 ?_
  refine ng_aload_0 dL_law_861 ?_
  refine ng_iload_3 dL_law_862 ?_
  refine ng_iconst_1 dL_law_863 ?_
  refine ng_iadd dL_law_864 ?_
  refine ng_kld (k := 7) dL_law_865 rfl (by assumption) ?_
  refine ng_callV_1i (y2 := mi_X8_costs) dL_law_866 lk_L_93 ms_X8_costs my_X8_costs (by first | exact ⟨_, rfl⟩ | assumption | exact ng_fld_obj (f := 0) (by assumption)) mc_X8 (by first | decide | exact Nat.le_of_ble_eq_true rfl) (pr_costs h) (by decide) (fun v M1 h1 => ?_)
  refine ng_aload_2 dL_law_869 ?_
  refine ng_aload_0 dL_law_870 ?_
  refine ng_iload_3 dL_law_871 ?_
  refine ng_iconst_1 dL_law_872 ?_
  refine ng_iadd dL_law_873 ?_
  refine ng_kld (k := 7) dL_law_874 rfl (by assumption) ?_
  refine ng_callV_1i (y2 := mi_X9_costs) dL_law_875 lk_L_96 ms_X9_costs my_X9_costs (by first | exact ⟨_, rfl⟩ | assumption | exact ng_fld_obj (f := 0) (by assumption)) mc_X9 (by first | decide | exact Nat.le_of_ble_eq_true rfl) (h1) (by decide) (fun v2 M2 h2 => ?_)
  refine ng_icmp_eq 1407 dL_law_878 (by decide +kernel) (fun h878 => ?_) (fun h878 => ?_)
  · exact kk M2 h2.2
  · exact absurd h2.1.symm h878
theorem w_law_raise {X : Nat × (Nat → Int32)} {M : ng_M} {i : Int32} (h : ng_inv M) (h6 : ng_six X i) (kk : ∀ M2 : ng_M, ng_inv M2 → ng_Go X mi_L_law 61 1407 [some (.ref 1007), some (.ref 0), some (.ref 73), some (.int i)] [] M2 ng_F1) : ng_Go X mi_L_law 61 883 [some (.ref 1007), some (.ref 0), some (.ref 73), some (.int i)] [] M ng_F1 := by
  obtain ⟨g0, g1, g2, g3, g4, g5⟩ := h6
  refine ng_aload_1 dL_law_883 ?_
  refine ng_aload_0 dL_law_884 ?_
  refine ng_iload_3 dL_law_885 ?_
  refine ng_iconst_1 dL_law_886 ?_
  refine ng_iadd dL_law_887 ?_
  refine ng_kld (k := 7) dL_law_888 rfl (by assumption) ?_
  refine ng_callV_1i (y2 := mi_X8_raise) dL_law_889 lk_L_97 ms_X8_raise my_X8_raise (by first | exact ⟨_, rfl⟩ | assumption | exact ng_fld_obj (f := 0) (by assumption)) mc_X8 (by first | decide | exact Nat.le_of_ble_eq_true rfl) (pr_raise h) (by decide) (fun v M1 h1 => ?_)
  refine ng_aload_2 dL_law_892 ?_
  refine ng_aload_0 dL_law_893 ?_
  refine ng_iload_3 dL_law_894 ?_
  refine ng_iconst_1 dL_law_895 ?_
  refine ng_iadd dL_law_896 ?_
  refine ng_kld (k := 7) dL_law_897 rfl (by assumption) ?_
  refine ng_callV_1i (y2 := mi_X9_raise) dL_law_898 lk_L_100 ms_X9_raise my_X9_raise (by first | exact ⟨_, rfl⟩ | assumption | exact ng_fld_obj (f := 0) (by assumption)) mc_X9 (by first | decide | exact Nat.le_of_ble_eq_true rfl) (h1) (by decide) (fun v2 M2 h2 => ?_)
  refine ng_icmp_eq 1407 dL_law_901 (by decide +kernel) (fun h901 => ?_) (fun h901 => ?_)
  · exact kk M2 h2.2
  · exact absurd h2.1.symm h901
theorem w_law_back {X : Nat × (Nat → Int32)} {M : ng_M} {i : Int32} (h : ng_inv M) (h6 : ng_six X i) (kk : ∀ M2 : ng_M, ng_inv M2 → ng_Go X mi_L_law 61 1407 [some (.ref 1007), some (.ref 0), some (.ref 73), some (.int i)] [] M2 ng_F1) : ng_Go X mi_L_law 61 906 [some (.ref 1007), some (.ref 0), some (.ref 73), some (.int i)] [] M ng_F1 := by
  obtain ⟨g0, g1, g2, g3, g4, g5⟩ := h6
  refine ng_aload_1 dL_law_906 ?_
  refine ng_aload_0 dL_law_907 ?_
  refine ng_iload_3 dL_law_908 ?_
  refine ng_iconst_1 dL_law_909 ?_
  refine ng_iadd dL_law_910 ?_
  refine ng_kld (k := 7) dL_law_911 rfl (by assumption) ?_
  refine ng_aload_0 dL_law_912 ?_
  refine ng_iload_3 dL_law_913 ?_
  refine ng_iconst_2 dL_law_914 ?_
  refine ng_iadd dL_law_915 ?_
  refine ng_kld (k := 7) dL_law_916 rfl (by assumption) ?_
  refine ng_callV_2i (y2 := mi_X8_back) dL_law_917 lk_L_101 ms_X8_back my_X8_back (by first | exact ⟨_, rfl⟩ | assumption | exact ng_fld_obj (f := 0) (by assumption)) mc_X8 (by first | decide | exact Nat.le_of_ble_eq_true rfl) (pr_back h) (by decide) (fun v M1 h1 => ?_)
  refine ng_aload_2 dL_law_920 ?_
  refine ng_aload_0 dL_law_921 ?_
  refine ng_iload_3 dL_law_922 ?_
  refine ng_iconst_1 dL_law_923 ?_
  refine ng_iadd dL_law_924 ?_
  refine ng_kld (k := 7) dL_law_925 rfl (by assumption) ?_
  refine ng_aload_0 dL_law_926 ?_
  refine ng_iload_3 dL_law_927 ?_
  refine ng_iconst_2 dL_law_928 ?_
  refine ng_iadd dL_law_929 ?_
  refine ng_kld (k := 7) dL_law_930 rfl (by assumption) ?_
  refine ng_callV_2i (y2 := mi_X9_back) dL_law_931 lk_L_104 ms_X9_back my_X9_back (by first | exact ⟨_, rfl⟩ | assumption | exact ng_fld_obj (f := 0) (by assumption)) mc_X9 (by first | decide | exact Nat.le_of_ble_eq_true rfl) (h1) (by decide) (fun v2 M2 h2 => ?_)
  refine ng_icmp_eq 1407 dL_law_934 (by decide +kernel) (fun h934 => ?_) (fun h934 => ?_)
  · exact kk M2 h2.2
  · exact absurd h2.1.symm h934
theorem w_law_whom {X : Nat × (Nat → Int32)} {M : ng_M} {i : Int32} (h : ng_inv M) (h6 : ng_six X i) (kk : ∀ M2 : ng_M, ng_inv M2 → ng_Go X mi_L_law 61 1407 [some (.ref 1007), some (.ref 0), some (.ref 73), some (.int i)] [] M2 ng_F1) : ng_Go X mi_L_law 61 939 [some (.ref 1007), some (.ref 0), some (.ref 73), some (.int i)] [] M ng_F1 := by
  obtain ⟨g0, g1, g2, g3, g4, g5⟩ := h6
  refine ng_aload_1 dL_law_939 ?_
  refine ng_aload_0 dL_law_940 ?_
  refine ng_iload_3 dL_law_941 ?_
  refine ng_iconst_1 dL_law_942 ?_
  refine ng_iadd dL_law_943 ?_
  refine ng_kld (k := 7) dL_law_944 rfl (by assumption) ?_
  refine ng_aload_0 dL_law_945 ?_
  refine ng_iload_3 dL_law_946 ?_
  refine ng_iconst_2 dL_law_947 ?_
  refine ng_iadd dL_law_948 ?_
  refine ng_kld (k := 7) dL_law_949 rfl (by assumption) ?_
  refine ng_callV_2i (y2 := mi_X8_whom) dL_law_950 lk_L_105 ms_X8_whom my_X8_whom (by first | exact ⟨_, rfl⟩ | assumption | exact ng_fld_obj (f := 0) (by assumption)) mc_X8 (by first | decide | exact Nat.le_of_ble_eq_true rfl) (pr_whom h) (by decide) (fun v M1 h1 => ?_)
  refine ng_aload_2 dL_law_953 ?_
  refine ng_aload_0 dL_law_954 ?_
  refine ng_iload_3 dL_law_955 ?_
  refine ng_iconst_1 dL_law_956 ?_
  refine ng_iadd dL_law_957 ?_
  refine ng_kld (k := 7) dL_law_958 rfl (by assumption) ?_
  refine ng_aload_0 dL_law_959 ?_
  refine ng_iload_3 dL_law_960 ?_
  refine ng_iconst_2 dL_law_961 ?_
  refine ng_iadd dL_law_962 ?_
  refine ng_kld (k := 7) dL_law_963 rfl (by assumption) ?_
  refine ng_callV_2i (y2 := mi_X9_whom) dL_law_964 lk_L_108 ms_X9_whom my_X9_whom (by first | exact ⟨_, rfl⟩ | assumption | exact ng_fld_obj (f := 0) (by assumption)) mc_X9 (by first | decide | exact Nat.le_of_ble_eq_true rfl) (h1) (by decide) (fun v2 M2 h2 => ?_)
  refine ng_icmp_eq 1407 dL_law_967 (by decide +kernel) (fun h967 => ?_) (fun h967 => ?_)
  · exact kk M2 h2.2
  · exact absurd h2.1.symm h967
theorem w_law_more {X : Nat × (Nat → Int32)} {M : ng_M} {i : Int32} (h : ng_inv M) (h6 : ng_six X i) (kk : ∀ M2 : ng_M, ng_inv M2 → ng_Go X mi_L_law 61 1407 [some (.ref 1007), some (.ref 0), some (.ref 73), some (.int i)] [] M2 ng_F1) : ng_Go X mi_L_law 61 972 [some (.ref 1007), some (.ref 0), some (.ref 73), some (.int i)] [] M ng_F1 := by
  obtain ⟨g0, g1, g2, g3, g4, g5⟩ := h6
  refine ng_aload_1 dL_law_972 ?_
  refine ng_aload_0 dL_law_973 ?_
  refine ng_iload_3 dL_law_974 ?_
  refine ng_iconst_1 dL_law_975 ?_
  refine ng_iadd dL_law_976 ?_
  refine ng_kld (k := 7) dL_law_977 rfl (by assumption) ?_
  refine ng_aload_0 dL_law_978 ?_
  refine ng_iload_3 dL_law_979 ?_
  refine ng_iconst_2 dL_law_980 ?_
  refine ng_iadd dL_law_981 ?_
  refine ng_kld (k := 7) dL_law_982 rfl (by assumption) ?_
  refine ng_aload_0 dL_law_983 ?_
  refine ng_iload_3 dL_law_984 ?_
  refine ng_iconst_3 dL_law_985 ?_
  refine ng_iadd dL_law_986 ?_
  refine ng_kld (k := 7) dL_law_987 rfl (by assumption) ?_
  refine ng_callV_3i (y2 := mi_X8_more) dL_law_988 lk_L_109 ms_X8_more my_X8_more (by first | exact ⟨_, rfl⟩ | assumption | exact ng_fld_obj (f := 0) (by assumption)) mc_X8 (by first | decide | exact Nat.le_of_ble_eq_true rfl) (pr_more h) (by decide) (fun v M1 h1 => ?_)
  refine ng_aload_2 dL_law_991 ?_
  refine ng_aload_0 dL_law_992 ?_
  refine ng_iload_3 dL_law_993 ?_
  refine ng_iconst_1 dL_law_994 ?_
  refine ng_iadd dL_law_995 ?_
  refine ng_kld (k := 7) dL_law_996 rfl (by assumption) ?_
  refine ng_aload_0 dL_law_997 ?_
  refine ng_iload_3 dL_law_998 ?_
  refine ng_iconst_2 dL_law_999 ?_
  refine ng_iadd dL_law_1000 ?_
  refine ng_kld (k := 7) dL_law_1001 rfl (by assumption) ?_
  refine ng_aload_0 dL_law_1002 ?_
  refine ng_iload_3 dL_law_1003 ?_
  refine ng_iconst_3 dL_law_1004 ?_
  refine ng_iadd dL_law_1005 ?_
  refine ng_kld (k := 7) dL_law_1006 rfl (by assumption) ?_
  refine ng_callV_3i (y2 := mi_X9_more) dL_law_1007 lk_L_112 ms_X9_more my_X9_more (by first | exact ⟨_, rfl⟩ | assumption | exact ng_fld_obj (f := 0) (by assumption)) mc_X9 (by first | decide | exact Nat.le_of_ble_eq_true rfl) (h1) (by decide) (fun v2 M2 h2 => ?_)
  refine ng_icmp_eq 1407 dL_law_1010 (by decide +kernel) (fun h1010 => ?_) (fun h1010 => ?_)
  · exact kk M2 h2.2
  · exact absurd h2.1.symm h1010
theorem w_law_rests {X : Nat × (Nat → Int32)} {M : ng_M} {i : Int32} (h : ng_inv M) (h6 : ng_six X i) (kk : ∀ M2 : ng_M, ng_inv M2 → ng_Go X mi_L_law 61 1407 [some (.ref 1007), some (.ref 0), some (.ref 73), some (.int i)] [] M2 ng_F1) : ng_Go X mi_L_law 61 1015 [some (.ref 1007), some (.ref 0), some (.ref 73), some (.int i)] [] M ng_F1 := by
  obtain ⟨g0, g1, g2, g3, g4, g5⟩ := h6
  refine ng_aload_1 dL_law_1015 ?_
  refine ng_aload_0 dL_law_1016 ?_
  refine ng_iload_3 dL_law_1017 ?_
  refine ng_iconst_1 dL_law_1018 ?_
  refine ng_iadd dL_law_1019 ?_
  refine ng_kld (k := 7) dL_law_1020 rfl (by assumption) ?_
  refine ng_callV_1i (y2 := mi_X8_rests) dL_law_1021 lk_L_113 ms_X8_rests my_X8_rests (by first | exact ⟨_, rfl⟩ | assumption | exact ng_fld_obj (f := 0) (by assumption)) mc_X8 (by first | decide | exact Nat.le_of_ble_eq_true rfl) (pr_rests h) (by decide) (fun v M1 h1 => ?_)
  refine ng_aload_2 dL_law_1024 ?_
  refine ng_aload_0 dL_law_1025 ?_
  refine ng_iload_3 dL_law_1026 ?_
  refine ng_iconst_1 dL_law_1027 ?_
  refine ng_iadd dL_law_1028 ?_
  refine ng_kld (k := 7) dL_law_1029 rfl (by assumption) ?_
  refine ng_callV_1i (y2 := mi_X9_rests) dL_law_1030 lk_L_116 ms_X9_rests my_X9_rests (by first | exact ⟨_, rfl⟩ | assumption | exact ng_fld_obj (f := 0) (by assumption)) mc_X9 (by first | decide | exact Nat.le_of_ble_eq_true rfl) (h1) (by decide) (fun v2 M2 h2 => ?_)
  refine ng_icmp_eq 1407 dL_law_1033 (by decide +kernel) (fun h1033 => ?_) (fun h1033 => ?_)
  · exact kk M2 h2.2
  · exact absurd h2.1.symm h1033
theorem w_law_clear {X : Nat × (Nat → Int32)} {M : ng_M} {i : Int32} (h : ng_inv M) (h6 : ng_six X i) (kk : ∀ M2 : ng_M, ng_inv M2 → ng_Go X mi_L_law 61 1407 [some (.ref 1007), some (.ref 0), some (.ref 73), some (.int i)] [] M2 ng_F1) : ng_Go X mi_L_law 61 1038 [some (.ref 1007), some (.ref 0), some (.ref 73), some (.int i)] [] M ng_F1 := by
  obtain ⟨g0, g1, g2, g3, g4, g5⟩ := h6
  refine ng_aload_1 dL_law_1038 ?_
  refine ng_callV_0i (y2 := mi_X8_clear) dL_law_1039 lk_L_117 ms_X8_clear my_X8_clear (by first | exact ⟨_, rfl⟩ | assumption | exact ng_fld_obj (f := 0) (by assumption)) mc_X8 (by first | decide | exact Nat.le_of_ble_eq_true rfl) (pr_clear h) (by decide) (fun v M1 h1 => ?_)
  refine ng_aload_2 dL_law_1042 ?_
  refine ng_callV_0i (y2 := mi_X9_clear) dL_law_1043 lk_L_121 ms_X9_clear my_X9_clear (by first | exact ⟨_, rfl⟩ | assumption | exact ng_fld_obj (f := 0) (by assumption)) mc_X9 (by first | decide | exact Nat.le_of_ble_eq_true rfl) (h1) (by decide) (fun v2 M2 h2 => ?_)
  refine ng_icmp_eq 1407 dL_law_1046 (by decide +kernel) (fun h1046 => ?_) (fun h1046 => ?_)
  · exact kk M2 h2.2
  · exact absurd h2.1.symm h1046
theorem w_law_seed {X : Nat × (Nat → Int32)} {M : ng_M} {i : Int32} (h : ng_inv M) (h6 : ng_six X i) (kk : ∀ M2 : ng_M, ng_inv M2 → ng_Go X mi_L_law 61 1407 [some (.ref 1007), some (.ref 0), some (.ref 73), some (.int i)] [] M2 ng_F1) : ng_Go X mi_L_law 61 1051 [some (.ref 1007), some (.ref 0), some (.ref 73), some (.int i)] [] M ng_F1 := by
  obtain ⟨g0, g1, g2, g3, g4, g5⟩ := h6
  refine ng_aload_1 dL_law_1051 ?_
  refine ng_aload_0 dL_law_1052 ?_
  refine ng_iload_3 dL_law_1053 ?_
  refine ng_iconst_1 dL_law_1054 ?_
  refine ng_iadd dL_law_1055 ?_
  refine ng_kld (k := 7) dL_law_1056 rfl (by assumption) ?_
  refine ng_callV_1i (y2 := mi_X8_seed) dL_law_1057 lk_L_122 ms_X8_seed my_X8_seed (by first | exact ⟨_, rfl⟩ | assumption | exact ng_fld_obj (f := 0) (by assumption)) mc_X8 (by first | decide | exact Nat.le_of_ble_eq_true rfl) (pr_seed h) (by decide) (fun v M1 h1 => ?_)
  refine ng_aload_2 dL_law_1060 ?_
  refine ng_aload_0 dL_law_1061 ?_
  refine ng_iload_3 dL_law_1062 ?_
  refine ng_iconst_1 dL_law_1063 ?_
  refine ng_iadd dL_law_1064 ?_
  refine ng_kld (k := 7) dL_law_1065 rfl (by assumption) ?_
  refine ng_callV_1i (y2 := mi_X9_seed) dL_law_1066 lk_L_125 ms_X9_seed my_X9_seed (by first | exact ⟨_, rfl⟩ | assumption | exact ng_fld_obj (f := 0) (by assumption)) mc_X9 (by first | decide | exact Nat.le_of_ble_eq_true rfl) (h1) (by decide) (fun v2 M2 h2 => ?_)
  refine ng_icmp_eq 1407 dL_law_1069 (by decide +kernel) (fun h1069 => ?_) (fun h1069 => ?_)
  · exact kk M2 h2.2
  · exact absurd h2.1.symm h1069
theorem w_law_voice {X : Nat × (Nat → Int32)} {M : ng_M} {i : Int32} (h : ng_inv M) (h6 : ng_six X i) (kk : ∀ M2 : ng_M, ng_inv M2 → ng_Go X mi_L_law 61 1407 [some (.ref 1007), some (.ref 0), some (.ref 73), some (.int i)] [] M2 ng_F1) : ng_Go X mi_L_law 61 1074 [some (.ref 1007), some (.ref 0), some (.ref 73), some (.int i)] [] M ng_F1 := by
  obtain ⟨g0, g1, g2, g3, g4, g5⟩ := h6
  refine ng_aload_1 dL_law_1074 ?_
  refine ng_aload_0 dL_law_1075 ?_
  refine ng_iload_3 dL_law_1076 ?_
  refine ng_iconst_1 dL_law_1077 ?_
  refine ng_iadd dL_law_1078 ?_
  refine ng_kld (k := 7) dL_law_1079 rfl (by assumption) ?_
  refine ng_aload_0 dL_law_1080 ?_
  refine ng_iload_3 dL_law_1081 ?_
  refine ng_iconst_2 dL_law_1082 ?_
  refine ng_iadd dL_law_1083 ?_
  refine ng_kld (k := 7) dL_law_1084 rfl (by assumption) ?_
  refine ng_aload_0 dL_law_1085 ?_
  refine ng_iload_3 dL_law_1086 ?_
  refine ng_iconst_3 dL_law_1087 ?_
  refine ng_iadd dL_law_1088 ?_
  refine ng_kld (k := 7) dL_law_1089 rfl (by assumption) ?_
  refine ng_callV_3i (y2 := mi_X8_voice) dL_law_1090 lk_L_126 ms_X8_voice my_X8_voice (by first | exact ⟨_, rfl⟩ | assumption | exact ng_fld_obj (f := 0) (by assumption)) mc_X8 (by first | decide | exact Nat.le_of_ble_eq_true rfl) (pr_voice h) (by decide) (fun v M1 h1 => ?_)
  refine ng_aload_2 dL_law_1093 ?_
  refine ng_aload_0 dL_law_1094 ?_
  refine ng_iload_3 dL_law_1095 ?_
  refine ng_iconst_1 dL_law_1096 ?_
  refine ng_iadd dL_law_1097 ?_
  refine ng_kld (k := 7) dL_law_1098 rfl (by assumption) ?_
  refine ng_aload_0 dL_law_1099 ?_
  refine ng_iload_3 dL_law_1100 ?_
  refine ng_iconst_2 dL_law_1101 ?_
  refine ng_iadd dL_law_1102 ?_
  refine ng_kld (k := 7) dL_law_1103 rfl (by assumption) ?_
  refine ng_aload_0 dL_law_1104 ?_
  refine ng_iload_3 dL_law_1105 ?_
  refine ng_iconst_3 dL_law_1106 ?_
  refine ng_iadd dL_law_1107 ?_
  refine ng_kld (k := 7) dL_law_1108 rfl (by assumption) ?_
  refine ng_callV_3i (y2 := mi_X9_voice) dL_law_1109 lk_L_129 ms_X9_voice my_X9_voice (by first | exact ⟨_, rfl⟩ | assumption | exact ng_fld_obj (f := 0) (by assumption)) mc_X9 (by first | decide | exact Nat.le_of_ble_eq_true rfl) (h1) (by decide) (fun v2 M2 h2 => ?_)
  refine ng_icmp_eq 1407 dL_law_1112 (by decide +kernel) (fun h1112 => ?_) (fun h1112 => ?_)
  · exact kk M2 h2.2
  · exact absurd h2.1.symm h1112
theorem w_law_trace {X : Nat × (Nat → Int32)} {M : ng_M} {i : Int32} (h : ng_inv M) (h6 : ng_six X i) (kk : ∀ M2 : ng_M, ng_inv M2 → ng_Go X mi_L_law 61 1407 [some (.ref 1007), some (.ref 0), some (.ref 73), some (.int i)] [] M2 ng_F1) : ng_Go X mi_L_law 61 1117 [some (.ref 1007), some (.ref 0), some (.ref 73), some (.int i)] [] M ng_F1 := by
  obtain ⟨g0, g1, g2, g3, g4, g5⟩ := h6
  refine ng_aload_1 dL_law_1117 ?_
  refine ng_aload_0 dL_law_1118 ?_
  refine ng_iload_3 dL_law_1119 ?_
  refine ng_iconst_1 dL_law_1120 ?_
  refine ng_iadd dL_law_1121 ?_
  refine ng_kld (k := 7) dL_law_1122 rfl (by assumption) ?_
  refine ng_callV_1i (y2 := mi_X8_trace) dL_law_1123 lk_L_130 ms_X8_trace my_X8_trace (by first | exact ⟨_, rfl⟩ | assumption | exact ng_fld_obj (f := 0) (by assumption)) mc_X8 (by first | decide | exact Nat.le_of_ble_eq_true rfl) (pr_trace h) (by decide) (fun v M1 h1 => ?_)
  refine ng_aload_2 dL_law_1126 ?_
  refine ng_aload_0 dL_law_1127 ?_
  refine ng_iload_3 dL_law_1128 ?_
  refine ng_iconst_1 dL_law_1129 ?_
  refine ng_iadd dL_law_1130 ?_
  refine ng_kld (k := 7) dL_law_1131 rfl (by assumption) ?_
  refine ng_callV_1i (y2 := mi_X9_trace) dL_law_1132 lk_L_133 ms_X9_trace my_X9_trace (by first | exact ⟨_, rfl⟩ | assumption | exact ng_fld_obj (f := 0) (by assumption)) mc_X9 (by first | decide | exact Nat.le_of_ble_eq_true rfl) (h1) (by decide) (fun v2 M2 h2 => ?_)
  refine ng_icmp_eq 1407 dL_law_1135 (by decide +kernel) (fun h1135 => ?_) (fun h1135 => ?_)
  · exact kk M2 h2.2
  · exact absurd h2.1.symm h1135
theorem w_law_sheet {X : Nat × (Nat → Int32)} {M : ng_M} {i : Int32} (h : ng_inv M) (h6 : ng_six X i) (kk : ∀ M2 : ng_M, ng_inv M2 → ng_Go X mi_L_law 61 1407 [some (.ref 1007), some (.ref 0), some (.ref 73), some (.int i)] [] M2 ng_F1) : ng_Go X mi_L_law 61 1140 [some (.ref 1007), some (.ref 0), some (.ref 73), some (.int i)] [] M ng_F1 := by
  obtain ⟨g0, g1, g2, g3, g4, g5⟩ := h6
  refine ng_aload_1 dL_law_1140 ?_
  refine ng_aload_0 dL_law_1141 ?_
  refine ng_iload_3 dL_law_1142 ?_
  refine ng_iconst_1 dL_law_1143 ?_
  refine ng_iadd dL_law_1144 ?_
  refine ng_kld (k := 7) dL_law_1145 rfl (by assumption) ?_
  refine ng_aload_0 dL_law_1146 ?_
  refine ng_iload_3 dL_law_1147 ?_
  refine ng_iconst_2 dL_law_1148 ?_
  refine ng_iadd dL_law_1149 ?_
  refine ng_kld (k := 7) dL_law_1150 rfl (by assumption) ?_
  refine ng_aload_0 dL_law_1151 ?_
  refine ng_iload_3 dL_law_1152 ?_
  refine ng_iconst_3 dL_law_1153 ?_
  refine ng_iadd dL_law_1154 ?_
  refine ng_kld (k := 7) dL_law_1155 rfl (by assumption) ?_
  refine ng_callV_3i (y2 := mi_X8_sheet) dL_law_1156 lk_L_134 ms_X8_sheet my_X8_sheet (by first | exact ⟨_, rfl⟩ | assumption | exact ng_fld_obj (f := 0) (by assumption)) mc_X8 (by first | decide | exact Nat.le_of_ble_eq_true rfl) (pr_sheet h) (by decide) (fun v M1 h1 => ?_)
  refine ng_aload_2 dL_law_1159 ?_
  refine ng_aload_0 dL_law_1160 ?_
  refine ng_iload_3 dL_law_1161 ?_
  refine ng_iconst_1 dL_law_1162 ?_
  refine ng_iadd dL_law_1163 ?_
  refine ng_kld (k := 7) dL_law_1164 rfl (by assumption) ?_
  refine ng_aload_0 dL_law_1165 ?_
  refine ng_iload_3 dL_law_1166 ?_
  refine ng_iconst_2 dL_law_1167 ?_
  refine ng_iadd dL_law_1168 ?_
  refine ng_kld (k := 7) dL_law_1169 rfl (by assumption) ?_
  refine ng_aload_0 dL_law_1170 ?_
  refine ng_iload_3 dL_law_1171 ?_
  refine ng_iconst_3 dL_law_1172 ?_
  refine ng_iadd dL_law_1173 ?_
  refine ng_kld (k := 7) dL_law_1174 rfl (by assumption) ?_
  refine ng_callV_3i (y2 := mi_X9_sheet) dL_law_1175 lk_L_137 ms_X9_sheet my_X9_sheet (by first | exact ⟨_, rfl⟩ | assumption | exact ng_fld_obj (f := 0) (by assumption)) mc_X9 (by first | decide | exact Nat.le_of_ble_eq_true rfl) (h1) (by decide) (fun v2 M2 h2 => ?_)
  refine ng_icmp_eq 1407 dL_law_1178 (by decide +kernel) (fun h1178 => ?_) (fun h1178 => ?_)
  · exact kk M2 h2.2
  · exact absurd h2.1.symm h1178
theorem w_law_put {X : Nat × (Nat → Int32)} {M : ng_M} {i : Int32} (h : ng_inv M) (h6 : ng_six X i) (kk : ∀ M2 : ng_M, ng_inv M2 → ng_Go X mi_L_law 61 1407 [some (.ref 1007), some (.ref 0), some (.ref 73), some (.int i)] [] M2 ng_F1) : ng_Go X mi_L_law 61 1183 [some (.ref 1007), some (.ref 0), some (.ref 73), some (.int i)] [] M ng_F1 := by
  obtain ⟨g0, g1, g2, g3, g4, g5⟩ := h6
  refine ng_aload_1 dL_law_1183 ?_
  refine ng_aload_0 dL_law_1184 ?_
  refine ng_iload_3 dL_law_1185 ?_
  refine ng_iconst_1 dL_law_1186 ?_
  refine ng_iadd dL_law_1187 ?_
  refine ng_kld (k := 7) dL_law_1188 rfl (by assumption) ?_
  refine ng_aload_0 dL_law_1189 ?_
  refine ng_iload_3 dL_law_1190 ?_
  refine ng_iconst_2 dL_law_1191 ?_
  refine ng_iadd dL_law_1192 ?_
  refine ng_kld (k := 7) dL_law_1193 rfl (by assumption) ?_
  refine ng_aload_0 dL_law_1194 ?_
  refine ng_iload_3 dL_law_1195 ?_
  refine ng_iconst_3 dL_law_1196 ?_
  refine ng_iadd dL_law_1197 ?_
  refine ng_kld (k := 7) dL_law_1198 rfl (by assumption) ?_
  refine ng_callV_3i (y2 := mi_X8_put) dL_law_1199 lk_L_138 ms_X8_put my_X8_put (by first | exact ⟨_, rfl⟩ | assumption | exact ng_fld_obj (f := 0) (by assumption)) mc_X8 (by first | decide | exact Nat.le_of_ble_eq_true rfl) (pr_put h) (by decide) (fun v M1 h1 => ?_)
  refine ng_aload_2 dL_law_1202 ?_
  refine ng_aload_0 dL_law_1203 ?_
  refine ng_iload_3 dL_law_1204 ?_
  refine ng_iconst_1 dL_law_1205 ?_
  refine ng_iadd dL_law_1206 ?_
  refine ng_kld (k := 7) dL_law_1207 rfl (by assumption) ?_
  refine ng_aload_0 dL_law_1208 ?_
  refine ng_iload_3 dL_law_1209 ?_
  refine ng_iconst_2 dL_law_1210 ?_
  refine ng_iadd dL_law_1211 ?_
  refine ng_kld (k := 7) dL_law_1212 rfl (by assumption) ?_
  refine ng_aload_0 dL_law_1213 ?_
  refine ng_iload_3 dL_law_1214 ?_
  refine ng_iconst_3 dL_law_1215 ?_
  refine ng_iadd dL_law_1216 ?_
  refine ng_kld (k := 7) dL_law_1217 rfl (by assumption) ?_
  refine ng_callV_3i (y2 := mi_X9_put) dL_law_1218 lk_L_141 ms_X9_put my_X9_put (by first | exact ⟨_, rfl⟩ | assumption | exact ng_fld_obj (f := 0) (by assumption)) mc_X9 (by first | decide | exact Nat.le_of_ble_eq_true rfl) (h1) (by decide) (fun v2 M2 h2 => ?_)
  refine ng_icmp_eq 1407 dL_law_1221 (by decide +kernel) (fun h1221 => ?_) (fun h1221 => ?_)
  · exact kk M2 h2.2
  · exact absurd h2.1.symm h1221
theorem w_law_move {X : Nat × (Nat → Int32)} {M : ng_M} {i : Int32} (h : ng_inv M) (h6 : ng_six X i) (kk : ∀ M2 : ng_M, ng_inv M2 → ng_Go X mi_L_law 61 1407 [some (.ref 1007), some (.ref 0), some (.ref 73), some (.int i)] [] M2 ng_F1) : ng_Go X mi_L_law 61 1226 [some (.ref 1007), some (.ref 0), some (.ref 73), some (.int i)] [] M ng_F1 := by
  obtain ⟨g0, g1, g2, g3, g4, g5⟩ := h6
  refine ng_aload_1 dL_law_1226 ?_
  refine ng_aload_0 dL_law_1227 ?_
  refine ng_iload_3 dL_law_1228 ?_
  refine ng_iconst_1 dL_law_1229 ?_
  refine ng_iadd dL_law_1230 ?_
  refine ng_kld (k := 7) dL_law_1231 rfl (by assumption) ?_
  refine ng_aload_0 dL_law_1232 ?_
  refine ng_iload_3 dL_law_1233 ?_
  refine ng_iconst_2 dL_law_1234 ?_
  refine ng_iadd dL_law_1235 ?_
  refine ng_kld (k := 7) dL_law_1236 rfl (by assumption) ?_
  refine ng_aload_0 dL_law_1237 ?_
  refine ng_iload_3 dL_law_1238 ?_
  refine ng_iconst_3 dL_law_1239 ?_
  refine ng_iadd dL_law_1240 ?_
  refine ng_kld (k := 7) dL_law_1241 rfl (by assumption) ?_
  refine ng_aload_0 dL_law_1242 ?_
  refine ng_iload_3 dL_law_1243 ?_
  refine ng_iconst_4 dL_law_1244 ?_
  refine ng_iadd dL_law_1245 ?_
  refine ng_kld (k := 7) dL_law_1246 rfl (by assumption) ?_
  refine ng_aload_0 dL_law_1247 ?_
  refine ng_iload_3 dL_law_1248 ?_
  refine ng_iconst_5 dL_law_1249 ?_
  refine ng_iadd dL_law_1250 ?_
  refine ng_kld (k := 7) dL_law_1251 rfl (by assumption) ?_
  refine ng_callV_5i (y2 := mi_X8_move) dL_law_1252 lk_L_142 ms_X8_move my_X8_move (by first | exact ⟨_, rfl⟩ | assumption | exact ng_fld_obj (f := 0) (by assumption)) mc_X8 (by first | decide | exact Nat.le_of_ble_eq_true rfl) (pr_move h) (by decide) (fun v M1 h1 => ?_)
  refine ng_aload_2 dL_law_1255 ?_
  refine ng_aload_0 dL_law_1256 ?_
  refine ng_iload_3 dL_law_1257 ?_
  refine ng_iconst_1 dL_law_1258 ?_
  refine ng_iadd dL_law_1259 ?_
  refine ng_kld (k := 7) dL_law_1260 rfl (by assumption) ?_
  refine ng_aload_0 dL_law_1261 ?_
  refine ng_iload_3 dL_law_1262 ?_
  refine ng_iconst_2 dL_law_1263 ?_
  refine ng_iadd dL_law_1264 ?_
  refine ng_kld (k := 7) dL_law_1265 rfl (by assumption) ?_
  refine ng_aload_0 dL_law_1266 ?_
  refine ng_iload_3 dL_law_1267 ?_
  refine ng_iconst_3 dL_law_1268 ?_
  refine ng_iadd dL_law_1269 ?_
  refine ng_kld (k := 7) dL_law_1270 rfl (by assumption) ?_
  refine ng_aload_0 dL_law_1271 ?_
  refine ng_iload_3 dL_law_1272 ?_
  refine ng_iconst_4 dL_law_1273 ?_
  refine ng_iadd dL_law_1274 ?_
  refine ng_kld (k := 7) dL_law_1275 rfl (by assumption) ?_
  refine ng_aload_0 dL_law_1276 ?_
  refine ng_iload_3 dL_law_1277 ?_
  refine ng_iconst_5 dL_law_1278 ?_
  refine ng_iadd dL_law_1279 ?_
  refine ng_kld (k := 7) dL_law_1280 rfl (by assumption) ?_
  refine ng_callV_5i (y2 := mi_X9_move) dL_law_1281 lk_L_145 ms_X9_move my_X9_move (by first | exact ⟨_, rfl⟩ | assumption | exact ng_fld_obj (f := 0) (by assumption)) mc_X9 (by first | decide | exact Nat.le_of_ble_eq_true rfl) (h1) (by decide) (fun v2 M2 h2 => ?_)
  refine ng_icmp_eq 1407 dL_law_1284 (by decide +kernel) (fun h1284 => ?_) (fun h1284 => ?_)
  · exact kk M2 h2.2
  · exact absurd h2.1.symm h1284
theorem w_law_image {X : Nat × (Nat → Int32)} {M : ng_M} {i : Int32} (h : ng_inv M) (h6 : ng_six X i) (kk : ∀ M2 : ng_M, ng_inv M2 → ng_Go X mi_L_law 61 1407 [some (.ref 1007), some (.ref 0), some (.ref 73), some (.int i)] [] M2 ng_F1) : ng_Go X mi_L_law 61 1289 [some (.ref 1007), some (.ref 0), some (.ref 73), some (.int i)] [] M ng_F1 := by
  obtain ⟨g0, g1, g2, g3, g4, g5⟩ := h6
  refine ng_aload_1 dL_law_1289 ?_
  refine ng_callV_0i (y2 := mi_X8_image) dL_law_1290 lk_L_146 ms_X8_image my_X8_image (by first | exact ⟨_, rfl⟩ | assumption | exact ng_fld_obj (f := 0) (by assumption)) mc_X8 (by first | decide | exact Nat.le_of_ble_eq_true rfl) (pr_image h) (by decide) (fun v M1 h1 => ?_)
  refine ng_aload_2 dL_law_1293 ?_
  refine ng_callV_0i (y2 := mi_X9_image) dL_law_1294 lk_L_149 ms_X9_image my_X9_image (by first | exact ⟨_, rfl⟩ | assumption | exact ng_fld_obj (f := 0) (by assumption)) mc_X9 (by first | decide | exact Nat.le_of_ble_eq_true rfl) (h1) (by decide) (fun v2 M2 h2 => ?_)
  refine ng_icmp_eq 1407 dL_law_1297 (by decide +kernel) (fun h1297 => ?_) (fun h1297 => ?_)
  · exact kk M2 h2.2
  · exact absurd h2.1.symm h1297
theorem w_law_restore {X : Nat × (Nat → Int32)} {M : ng_M} {i : Int32} (h : ng_inv M) (h6 : ng_six X i) (kk : ∀ M2 : ng_M, ng_inv M2 → ng_Go X mi_L_law 61 1407 [some (.ref 1007), some (.ref 0), some (.ref 73), some (.int i)] [] M2 ng_F1) : ng_Go X mi_L_law 61 1302 [some (.ref 1007), some (.ref 0), some (.ref 73), some (.int i)] [] M ng_F1 := by
  obtain ⟨g0, g1, g2, g3, g4, g5⟩ := h6
  refine ng_aload_1 dL_law_1302 ?_
  refine ng_callV_0i (y2 := mi_X8_restore) dL_law_1303 lk_L_150 ms_X8_restore my_X8_restore (by first | exact ⟨_, rfl⟩ | assumption | exact ng_fld_obj (f := 0) (by assumption)) mc_X8 (by first | decide | exact Nat.le_of_ble_eq_true rfl) (pr_restore h) (by decide) (fun v M1 h1 => ?_)
  refine ng_aload_2 dL_law_1306 ?_
  refine ng_callV_0i (y2 := mi_X9_restore) dL_law_1307 lk_L_153 ms_X9_restore my_X9_restore (by first | exact ⟨_, rfl⟩ | assumption | exact ng_fld_obj (f := 0) (by assumption)) mc_X9 (by first | decide | exact Nat.le_of_ble_eq_true rfl) (h1) (by decide) (fun v2 M2 h2 => ?_)
  refine ng_icmp_eq 1407 dL_law_1310 (by decide +kernel) (fun h1310 => ?_) (fun h1310 => ?_)
  · exact kk M2 h2.2
  · exact absurd h2.1.symm h1310
theorem w_law_tell {X : Nat × (Nat → Int32)} {M : ng_M} {i : Int32} (h : ng_inv M) (h6 : ng_six X i) (kk : ∀ M2 : ng_M, ng_inv M2 → ng_Go X mi_L_law 61 1407 [some (.ref 1007), some (.ref 0), some (.ref 73), some (.int i)] [] M2 ng_F1) : ng_Go X mi_L_law 61 1315 [some (.ref 1007), some (.ref 0), some (.ref 73), some (.int i)] [] M ng_F1 := by
  obtain ⟨g0, g1, g2, g3, g4, g5⟩ := h6
  refine ng_aload_1 dL_law_1315 ?_
  refine ng_aload_0 dL_law_1316 ?_
  refine ng_iload_3 dL_law_1317 ?_
  refine ng_iconst_1 dL_law_1318 ?_
  refine ng_iadd dL_law_1319 ?_
  refine ng_kld (k := 7) dL_law_1320 rfl (by assumption) ?_
  refine ng_callV_1i (y2 := mi_X8_tell) dL_law_1321 lk_L_154 ms_X8_tell my_X8_tell (by first | exact ⟨_, rfl⟩ | assumption | exact ng_fld_obj (f := 0) (by assumption)) mc_X8 (by first | decide | exact Nat.le_of_ble_eq_true rfl) (pr_tell h) (by decide) (fun v M1 h1 => ?_)
  refine ng_aload_2 dL_law_1324 ?_
  refine ng_aload_0 dL_law_1325 ?_
  refine ng_iload_3 dL_law_1326 ?_
  refine ng_iconst_1 dL_law_1327 ?_
  refine ng_iadd dL_law_1328 ?_
  refine ng_kld (k := 7) dL_law_1329 rfl (by assumption) ?_
  refine ng_callV_1i (y2 := mi_X9_tell) dL_law_1330 lk_L_157 ms_X9_tell my_X9_tell (by first | exact ⟨_, rfl⟩ | assumption | exact ng_fld_obj (f := 0) (by assumption)) mc_X9 (by first | decide | exact Nat.le_of_ble_eq_true rfl) (h1) (by decide) (fun v2 M2 h2 => ?_)
  refine ng_icmp_eq 1407 dL_law_1333 (by decide +kernel) (fun h1333 => ?_) (fun h1333 => ?_)
  · exact kk M2 h2.2
  · exact absurd h2.1.symm h1333
theorem w_law_check {X : Nat × (Nat → Int32)} {M : ng_M} {i : Int32} (h : ng_inv M) (h6 : ng_six X i) (kk : ∀ M2 : ng_M, ng_inv M2 → ng_Go X mi_L_law 61 1407 [some (.ref 1007), some (.ref 0), some (.ref 73), some (.int i)] [] M2 ng_F1) : ng_Go X mi_L_law 61 1338 [some (.ref 1007), some (.ref 0), some (.ref 73), some (.int i)] [] M ng_F1 := by
  obtain ⟨g0, g1, g2, g3, g4, g5⟩ := h6
  refine ng_aload_1 dL_law_1338 ?_
  refine ng_aload_0 dL_law_1339 ?_
  refine ng_iload_3 dL_law_1340 ?_
  refine ng_iconst_1 dL_law_1341 ?_
  refine ng_iadd dL_law_1342 ?_
  refine ng_kld (k := 7) dL_law_1343 rfl (by assumption) ?_
  refine ng_callV_1i (y2 := mi_X8_check) dL_law_1344 lk_L_158 ms_X8_check my_X8_check (by first | exact ⟨_, rfl⟩ | assumption | exact ng_fld_obj (f := 0) (by assumption)) mc_X8 (by first | decide | exact Nat.le_of_ble_eq_true rfl) (pr_check h) (by decide) (fun v M1 h1 => ?_)
  refine ng_aload_2 dL_law_1347 ?_
  refine ng_aload_0 dL_law_1348 ?_
  refine ng_iload_3 dL_law_1349 ?_
  refine ng_iconst_1 dL_law_1350 ?_
  refine ng_iadd dL_law_1351 ?_
  refine ng_kld (k := 7) dL_law_1352 rfl (by assumption) ?_
  refine ng_callV_1i (y2 := mi_X9_check) dL_law_1353 lk_L_161 ms_X9_check my_X9_check (by first | exact ⟨_, rfl⟩ | assumption | exact ng_fld_obj (f := 0) (by assumption)) mc_X9 (by first | decide | exact Nat.le_of_ble_eq_true rfl) (h1) (by decide) (fun v2 M2 h2 => ?_)
  refine ng_icmp_eq 1407 dL_law_1356 (by decide +kernel) (fun h1356 => ?_) (fun h1356 => ?_)
  · exact kk M2 h2.2
  · exact absurd h2.1.symm h1356
theorem w_law_count {X : Nat × (Nat → Int32)} {M : ng_M} {i : Int32} (h : ng_inv M) (h6 : ng_six X i) (kk : ∀ M2 : ng_M, ng_inv M2 → ng_Go X mi_L_law 61 1407 [some (.ref 1007), some (.ref 0), some (.ref 73), some (.int i)] [] M2 ng_F1) : ng_Go X mi_L_law 61 1361 [some (.ref 1007), some (.ref 0), some (.ref 73), some (.int i)] [] M ng_F1 := by
  obtain ⟨g0, g1, g2, g3, g4, g5⟩ := h6
  refine ng_aload_1 dL_law_1361 ?_
  refine ng_aload_0 dL_law_1362 ?_
  refine ng_iload_3 dL_law_1363 ?_
  refine ng_iconst_1 dL_law_1364 ?_
  refine ng_iadd dL_law_1365 ?_
  refine ng_kld (k := 7) dL_law_1366 rfl (by assumption) ?_
  refine ng_callV_1i (y2 := mi_X8_count) dL_law_1367 lk_L_162 ms_X8_count my_X8_count (by first | exact ⟨_, rfl⟩ | assumption | exact ng_fld_obj (f := 0) (by assumption)) mc_X8 (by first | decide | exact Nat.le_of_ble_eq_true rfl) (pr_count h) (by decide) (fun v M1 h1 => ?_)
  refine ng_aload_2 dL_law_1370 ?_
  refine ng_aload_0 dL_law_1371 ?_
  refine ng_iload_3 dL_law_1372 ?_
  refine ng_iconst_1 dL_law_1373 ?_
  refine ng_iadd dL_law_1374 ?_
  refine ng_kld (k := 7) dL_law_1375 rfl (by assumption) ?_
  refine ng_callV_1i (y2 := mi_X9_count) dL_law_1376 lk_L_165 ms_X9_count my_X9_count (by first | exact ⟨_, rfl⟩ | assumption | exact ng_fld_obj (f := 0) (by assumption)) mc_X9 (by first | decide | exact Nat.le_of_ble_eq_true rfl) (h1) (by decide) (fun v2 M2 h2 => ?_)
  refine ng_icmp_eq 1407 dL_law_1379 (by decide +kernel) (fun h1379 => ?_) (fun h1379 => ?_)
  · exact kk M2 h2.2
  · exact absurd h2.1.symm h1379
theorem w_law_told {X : Nat × (Nat → Int32)} {M : ng_M} {i : Int32} (h : ng_inv M) (h6 : ng_six X i) (kk : ∀ M2 : ng_M, ng_inv M2 → ng_Go X mi_L_law 61 1407 [some (.ref 1007), some (.ref 0), some (.ref 73), some (.int i)] [] M2 ng_F1) : ng_Go X mi_L_law 61 1384 [some (.ref 1007), some (.ref 0), some (.ref 73), some (.int i)] [] M ng_F1 := by
  obtain ⟨g0, g1, g2, g3, g4, g5⟩ := h6
  refine ng_aload_1 dL_law_1384 ?_
  refine ng_aload_0 dL_law_1385 ?_
  refine ng_iload_3 dL_law_1386 ?_
  refine ng_iconst_1 dL_law_1387 ?_
  refine ng_iadd dL_law_1388 ?_
  refine ng_kld (k := 7) dL_law_1389 rfl (by assumption) ?_
  refine ng_callV_1i (y2 := mi_X8_told) dL_law_1390 lk_L_166 ms_X8_told my_X8_told (by first | exact ⟨_, rfl⟩ | assumption | exact ng_fld_obj (f := 0) (by assumption)) mc_X8 (by first | decide | exact Nat.le_of_ble_eq_true rfl) (pr_told h) (by decide) (fun v M1 h1 => ?_)
  refine ng_aload_2 dL_law_1393 ?_
  refine ng_aload_0 dL_law_1394 ?_
  refine ng_iload_3 dL_law_1395 ?_
  refine ng_iconst_1 dL_law_1396 ?_
  refine ng_iadd dL_law_1397 ?_
  refine ng_kld (k := 7) dL_law_1398 rfl (by assumption) ?_
  refine ng_callV_1i (y2 := mi_X9_told) dL_law_1399 lk_L_169 ms_X9_told my_X9_told (by first | exact ⟨_, rfl⟩ | assumption | exact ng_fld_obj (f := 0) (by assumption)) mc_X9 (by first | decide | exact Nat.le_of_ble_eq_true rfl) (h1) (by decide) (fun v2 M2 h2 => ?_)
  refine ng_icmp_eq 1407 dL_law_1402 (by decide +kernel) (fun h1402 => ?_) (fun h1402 => ?_)
  · exact kk M2 h2.2
  · exact absurd h2.1.symm h1402
