theorem w_law_coins {X : Nat × (Nat → Int32)} {M : ng_M} {i : Int32} (h : ng_inv M) (h6 : ng_six X i) (kk : ∀ M2 : ng_M, ng_inv M2 → ng_Go X mi_L_law 61 1407 [some (.ref 1007), some (.ref 0), some (.ref 73), some (.int i)] [] M2 ng_F1) : ng_Go X mi_L_law 61 196 [some (.ref 1007), some (.ref 0), some (.ref 73), some (.int i)] [] M ng_F1 := by
  obtain ⟨g0, g1, g2, g3, g4, g5⟩ := h6
  refine ng_aload_1 dL_law_196 ?_
  refine ng_aload_0 dL_law_197 ?_
  refine ng_iload_3 dL_law_198 ?_
  refine ng_iconst_1 dL_law_199 ?_
  refine ng_iadd dL_law_200 ?_
  refine ng_kld (k := 7) dL_law_201 rfl (by assumption) ?_
  refine ng_aload_0 dL_law_202 ?_
  refine ng_iload_3 dL_law_203 ?_
  refine ng_iconst_2 dL_law_204 ?_
  refine ng_iadd dL_law_205 ?_
  refine ng_kld (k := 7) dL_law_206 rfl (by assumption) ?_
  refine ng_callV_2i (y2 := mi_X8_coins) dL_law_207 lk_L_13 ms_X8_coins my_X8_coins (by first | exact ⟨_, rfl⟩ | assumption | exact ng_fld_obj (f := 0) (by assumption)) mc_X8 (by first | decide | exact Nat.le_of_ble_eq_true rfl) (pr_coins h) (by decide) (fun v M1 h1 => ?_)
  refine ng_aload_2 dL_law_210 ?_
  refine ng_aload_0 dL_law_211 ?_
  refine ng_iload_3 dL_law_212 ?_
  refine ng_iconst_1 dL_law_213 ?_
  refine ng_iadd dL_law_214 ?_
  refine ng_kld (k := 7) dL_law_215 rfl (by assumption) ?_
  refine ng_aload_0 dL_law_216 ?_
  refine ng_iload_3 dL_law_217 ?_
  refine ng_iconst_2 dL_law_218 ?_
  refine ng_iadd dL_law_219 ?_
  refine ng_kld (k := 7) dL_law_220 rfl (by assumption) ?_
  refine ng_callV_2i (y2 := mi_X9_coins) dL_law_221 lk_L_17 ms_X9_coins my_X9_coins (by first | exact ⟨_, rfl⟩ | assumption | exact ng_fld_obj (f := 0) (by assumption)) mc_X9 (by first | decide | exact Nat.le_of_ble_eq_true rfl) (h1) (by decide) (fun v2 M2 h2 => ?_)
  refine ng_icmp_eq 1407 dL_law_224 (by decide +kernel) (fun h224 => ?_) (fun h224 => ?_)
  · exact kk M2 h2.2
  · exact absurd h2.1.symm h224
theorem w_law_set {X : Nat × (Nat → Int32)} {M : ng_M} {i : Int32} (h : ng_inv M) (h6 : ng_six X i) (kk : ∀ M2 : ng_M, ng_inv M2 → ng_Go X mi_L_law 61 1407 [some (.ref 1007), some (.ref 0), some (.ref 73), some (.int i)] [] M2 ng_F1) : ng_Go X mi_L_law 61 229 [some (.ref 1007), some (.ref 0), some (.ref 73), some (.int i)] [] M ng_F1 := by
  obtain ⟨g0, g1, g2, g3, g4, g5⟩ := h6
  refine ng_aload_1 dL_law_229 ?_
  refine ng_aload_0 dL_law_230 ?_
  refine ng_iload_3 dL_law_231 ?_
  refine ng_iconst_1 dL_law_232 ?_
  refine ng_iadd dL_law_233 ?_
  refine ng_kld (k := 7) dL_law_234 rfl (by assumption) ?_
  refine ng_aload_0 dL_law_235 ?_
  refine ng_iload_3 dL_law_236 ?_
  refine ng_iconst_2 dL_law_237 ?_
  refine ng_iadd dL_law_238 ?_
  refine ng_kld (k := 7) dL_law_239 rfl (by assumption) ?_
  refine ng_callV_2i (y2 := mi_X8_set) dL_law_240 lk_L_18 ms_X8_set my_X8_set (by first | exact ⟨_, rfl⟩ | assumption | exact ng_fld_obj (f := 0) (by assumption)) mc_X8 (by first | decide | exact Nat.le_of_ble_eq_true rfl) (pr_set h) (by decide) (fun v M1 h1 => ?_)
  refine ng_aload_2 dL_law_243 ?_
  refine ng_aload_0 dL_law_244 ?_
  refine ng_iload_3 dL_law_245 ?_
  refine ng_iconst_1 dL_law_246 ?_
  refine ng_iadd dL_law_247 ?_
  refine ng_kld (k := 7) dL_law_248 rfl (by assumption) ?_
  refine ng_aload_0 dL_law_249 ?_
  refine ng_iload_3 dL_law_250 ?_
  refine ng_iconst_2 dL_law_251 ?_
  refine ng_iadd dL_law_252 ?_
  refine ng_kld (k := 7) dL_law_253 rfl (by assumption) ?_
  refine ng_callV_2i (y2 := mi_X9_set) dL_law_254 lk_L_21 ms_X9_set my_X9_set (by first | exact ⟨_, rfl⟩ | assumption | exact ng_fld_obj (f := 0) (by assumption)) mc_X9 (by first | decide | exact Nat.le_of_ble_eq_true rfl) (h1) (by decide) (fun v2 M2 h2 => ?_)
  refine ng_icmp_eq 1407 dL_law_257 (by decide +kernel) (fun h257 => ?_) (fun h257 => ?_)
  · exact kk M2 h2.2
  · exact absurd h2.1.symm h257
theorem w_law_buyer {X : Nat × (Nat → Int32)} {M : ng_M} {i : Int32} (h : ng_inv M) (h6 : ng_six X i) (kk : ∀ M2 : ng_M, ng_inv M2 → ng_Go X mi_L_law 61 1407 [some (.ref 1007), some (.ref 0), some (.ref 73), some (.int i)] [] M2 ng_F1) : ng_Go X mi_L_law 61 262 [some (.ref 1007), some (.ref 0), some (.ref 73), some (.int i)] [] M ng_F1 := by
  obtain ⟨g0, g1, g2, g3, g4, g5⟩ := h6
  refine ng_aload_1 dL_law_262 ?_
  refine ng_aload_0 dL_law_263 ?_
  refine ng_iload_3 dL_law_264 ?_
  refine ng_iconst_1 dL_law_265 ?_
  refine ng_iadd dL_law_266 ?_
  refine ng_kld (k := 7) dL_law_267 rfl (by assumption) ?_
  refine ng_aload_0 dL_law_268 ?_
  refine ng_iload_3 dL_law_269 ?_
  refine ng_iconst_2 dL_law_270 ?_
  refine ng_iadd dL_law_271 ?_
  refine ng_kld (k := 7) dL_law_272 rfl (by assumption) ?_
  refine ng_aload_0 dL_law_273 ?_
  refine ng_iload_3 dL_law_274 ?_
  refine ng_iconst_3 dL_law_275 ?_
  refine ng_iadd dL_law_276 ?_
  refine ng_kld (k := 7) dL_law_277 rfl (by assumption) ?_
  refine ng_callV_3i (y2 := mi_X8_buyer) dL_law_278 lk_L_22 ms_X8_buyer my_X8_buyer (by first | exact ⟨_, rfl⟩ | assumption | exact ng_fld_obj (f := 0) (by assumption)) mc_X8 (by first | decide | exact Nat.le_of_ble_eq_true rfl) (pr_buyer h) (by decide) (fun v M1 h1 => ?_)
  refine ng_aload_2 dL_law_281 ?_
  refine ng_aload_0 dL_law_282 ?_
  refine ng_iload_3 dL_law_283 ?_
  refine ng_iconst_1 dL_law_284 ?_
  refine ng_iadd dL_law_285 ?_
  refine ng_kld (k := 7) dL_law_286 rfl (by assumption) ?_
  refine ng_aload_0 dL_law_287 ?_
  refine ng_iload_3 dL_law_288 ?_
  refine ng_iconst_2 dL_law_289 ?_
  refine ng_iadd dL_law_290 ?_
  refine ng_kld (k := 7) dL_law_291 rfl (by assumption) ?_
  refine ng_aload_0 dL_law_292 ?_
  refine ng_iload_3 dL_law_293 ?_
  refine ng_iconst_3 dL_law_294 ?_
  refine ng_iadd dL_law_295 ?_
  refine ng_kld (k := 7) dL_law_296 rfl (by assumption) ?_
  refine ng_callV_3i (y2 := mi_X9_buyer) dL_law_297 lk_L_26 ms_X9_buyer my_X9_buyer (by first | exact ⟨_, rfl⟩ | assumption | exact ng_fld_obj (f := 0) (by assumption)) mc_X9 (by first | decide | exact Nat.le_of_ble_eq_true rfl) (h1) (by decide) (fun v2 M2 h2 => ?_)
  refine ng_icmp_eq 1407 dL_law_300 (by decide +kernel) (fun h300 => ?_) (fun h300 => ?_)
  · exact kk M2 h2.2
  · exact absurd h2.1.symm h300
theorem w_law_ofBuyer {X : Nat × (Nat → Int32)} {M : ng_M} {i : Int32} (h : ng_inv M) (h6 : ng_six X i) (kk : ∀ M2 : ng_M, ng_inv M2 → ng_Go X mi_L_law 61 1407 [some (.ref 1007), some (.ref 0), some (.ref 73), some (.int i)] [] M2 ng_F1) : ng_Go X mi_L_law 61 305 [some (.ref 1007), some (.ref 0), some (.ref 73), some (.int i)] [] M ng_F1 := by
  obtain ⟨g0, g1, g2, g3, g4, g5⟩ := h6
  refine ng_aload_1 dL_law_305 ?_
  refine ng_aload_0 dL_law_306 ?_
  refine ng_iload_3 dL_law_307 ?_
  refine ng_iconst_1 dL_law_308 ?_
  refine ng_iadd dL_law_309 ?_
  refine ng_kld (k := 7) dL_law_310 rfl (by assumption) ?_
  refine ng_aload_0 dL_law_311 ?_
  refine ng_iload_3 dL_law_312 ?_
  refine ng_iconst_2 dL_law_313 ?_
  refine ng_iadd dL_law_314 ?_
  refine ng_kld (k := 7) dL_law_315 rfl (by assumption) ?_
  refine ng_callV_2i (y2 := mi_X8_ofBuyer) dL_law_316 lk_L_27 ms_X8_ofBuyer my_X8_ofBuyer (by first | exact ⟨_, rfl⟩ | assumption | exact ng_fld_obj (f := 0) (by assumption)) mc_X8 (by first | decide | exact Nat.le_of_ble_eq_true rfl) (pr_ofBuyer h) (by decide) (fun v M1 h1 => ?_)
  refine ng_aload_2 dL_law_319 ?_
  refine ng_aload_0 dL_law_320 ?_
  refine ng_iload_3 dL_law_321 ?_
  refine ng_iconst_1 dL_law_322 ?_
  refine ng_iadd dL_law_323 ?_
  refine ng_kld (k := 7) dL_law_324 rfl (by assumption) ?_
  refine ng_aload_0 dL_law_325 ?_
  refine ng_iload_3 dL_law_326 ?_
  refine ng_iconst_2 dL_law_327 ?_
  refine ng_iadd dL_law_328 ?_
  refine ng_kld (k := 7) dL_law_329 rfl (by assumption) ?_
  refine ng_callV_2i (y2 := mi_X9_ofBuyer) dL_law_330 lk_L_30 ms_X9_ofBuyer my_X9_ofBuyer (by first | exact ⟨_, rfl⟩ | assumption | exact ng_fld_obj (f := 0) (by assumption)) mc_X9 (by first | decide | exact Nat.le_of_ble_eq_true rfl) (h1) (by decide) (fun v2 M2 h2 => ?_)
  refine ng_icmp_eq 1407 dL_law_333 (by decide +kernel) (fun h333 => ?_) (fun h333 => ?_)
  · exact kk M2 h2.2
  · exact absurd h2.1.symm h333
theorem w_law_as {X : Nat × (Nat → Int32)} {M : ng_M} {i : Int32} (h : ng_inv M) (h6 : ng_six X i) (kk : ∀ M2 : ng_M, ng_inv M2 → ng_Go X mi_L_law 61 1407 [some (.ref 1007), some (.ref 0), some (.ref 73), some (.int i)] [] M2 ng_F1) : ng_Go X mi_L_law 61 338 [some (.ref 1007), some (.ref 0), some (.ref 73), some (.int i)] [] M ng_F1 := by
  obtain ⟨g0, g1, g2, g3, g4, g5⟩ := h6
  refine ng_aload_1 dL_law_338 ?_
  refine ng_aload_0 dL_law_339 ?_
  refine ng_iload_3 dL_law_340 ?_
  refine ng_iconst_1 dL_law_341 ?_
  refine ng_iadd dL_law_342 ?_
  refine ng_kld (k := 7) dL_law_343 rfl (by assumption) ?_
  refine ng_aload_0 dL_law_344 ?_
  refine ng_iload_3 dL_law_345 ?_
  refine ng_iconst_2 dL_law_346 ?_
  refine ng_iadd dL_law_347 ?_
  refine ng_kld (k := 7) dL_law_348 rfl (by assumption) ?_
  refine ng_callV_2i (y2 := mi_X8_as) dL_law_349 lk_L_31 ms_X8_as my_X8_as (by first | exact ⟨_, rfl⟩ | assumption | exact ng_fld_obj (f := 0) (by assumption)) mc_X8 (by first | decide | exact Nat.le_of_ble_eq_true rfl) (pr_as h) (by decide) (fun v M1 h1 => ?_)
  refine ng_aload_2 dL_law_352 ?_
  refine ng_aload_0 dL_law_353 ?_
  refine ng_iload_3 dL_law_354 ?_
  refine ng_iconst_1 dL_law_355 ?_
  refine ng_iadd dL_law_356 ?_
  refine ng_kld (k := 7) dL_law_357 rfl (by assumption) ?_
  refine ng_aload_0 dL_law_358 ?_
  refine ng_iload_3 dL_law_359 ?_
  refine ng_iconst_2 dL_law_360 ?_
  refine ng_iadd dL_law_361 ?_
  refine ng_kld (k := 7) dL_law_362 rfl (by assumption) ?_
  refine ng_callV_2i (y2 := mi_X9_as) dL_law_363 lk_L_34 ms_X9_as my_X9_as (by first | exact ⟨_, rfl⟩ | assumption | exact ng_fld_obj (f := 0) (by assumption)) mc_X9 (by first | decide | exact Nat.le_of_ble_eq_true rfl) (h1) (by decide) (fun v2 M2 h2 => ?_)
  refine ng_icmp_eq 1407 dL_law_366 (by decide +kernel) (fun h366 => ?_) (fun h366 => ?_)
  · exact kk M2 h2.2
  · exact absurd h2.1.symm h366
theorem w_law_has {X : Nat × (Nat → Int32)} {M : ng_M} {i : Int32} (h : ng_inv M) (h6 : ng_six X i) (kk : ∀ M2 : ng_M, ng_inv M2 → ng_Go X mi_L_law 61 1407 [some (.ref 1007), some (.ref 0), some (.ref 73), some (.int i)] [] M2 ng_F1) : ng_Go X mi_L_law 61 371 [some (.ref 1007), some (.ref 0), some (.ref 73), some (.int i)] [] M ng_F1 := by
  obtain ⟨g0, g1, g2, g3, g4, g5⟩ := h6
  refine ng_aload_1 dL_law_371 ?_
  refine ng_aload_0 dL_law_372 ?_
  refine ng_iload_3 dL_law_373 ?_
  refine ng_iconst_1 dL_law_374 ?_
  refine ng_iadd dL_law_375 ?_
  refine ng_kld (k := 7) dL_law_376 rfl (by assumption) ?_
  refine ng_aload_0 dL_law_377 ?_
  refine ng_iload_3 dL_law_378 ?_
  refine ng_iconst_2 dL_law_379 ?_
  refine ng_iadd dL_law_380 ?_
  refine ng_kld (k := 7) dL_law_381 rfl (by assumption) ?_
  refine ng_callV_2i (y2 := mi_X8_has) dL_law_382 lk_L_35 ms_X8_has my_X8_has (by first | exact ⟨_, rfl⟩ | assumption | exact ng_fld_obj (f := 0) (by assumption)) mc_X8 (by first | decide | exact Nat.le_of_ble_eq_true rfl) (pr_has h) (by decide) (fun v M1 h1 => ?_)
  refine ng_aload_2 dL_law_385 ?_
  refine ng_aload_0 dL_law_386 ?_
  refine ng_iload_3 dL_law_387 ?_
  refine ng_iconst_1 dL_law_388 ?_
  refine ng_iadd dL_law_389 ?_
  refine ng_kld (k := 7) dL_law_390 rfl (by assumption) ?_
  refine ng_aload_0 dL_law_391 ?_
  refine ng_iload_3 dL_law_392 ?_
  refine ng_iconst_2 dL_law_393 ?_
  refine ng_iadd dL_law_394 ?_
  refine ng_kld (k := 7) dL_law_395 rfl (by assumption) ?_
  refine ng_callV_2i (y2 := mi_X9_has) dL_law_396 lk_L_38 ms_X9_has my_X9_has (by first | exact ⟨_, rfl⟩ | assumption | exact ng_fld_obj (f := 0) (by assumption)) mc_X9 (by first | decide | exact Nat.le_of_ble_eq_true rfl) (h1) (by decide) (fun v2 M2 h2 => ?_)
  refine ng_icmp_eq 1407 dL_law_399 (by decide +kernel) (fun h399 => ?_) (fun h399 => ?_)
  · exact kk M2 h2.2
  · exact absurd h2.1.symm h399
theorem w_law_buyers {X : Nat × (Nat → Int32)} {M : ng_M} {i : Int32} (h : ng_inv M) (h6 : ng_six X i) (kk : ∀ M2 : ng_M, ng_inv M2 → ng_Go X mi_L_law 61 1407 [some (.ref 1007), some (.ref 0), some (.ref 73), some (.int i)] [] M2 ng_F1) : ng_Go X mi_L_law 61 404 [some (.ref 1007), some (.ref 0), some (.ref 73), some (.int i)] [] M ng_F1 := by
  obtain ⟨g0, g1, g2, g3, g4, g5⟩ := h6
  refine ng_aload_1 dL_law_404 ?_
  refine ng_aload_0 dL_law_405 ?_
  refine ng_iload_3 dL_law_406 ?_
  refine ng_iconst_1 dL_law_407 ?_
  refine ng_iadd dL_law_408 ?_
  refine ng_kld (k := 7) dL_law_409 rfl (by assumption) ?_
  refine ng_callV_1i (y2 := mi_X8_buyers) dL_law_410 lk_L_39 ms_X8_buyers my_X8_buyers (by first | exact ⟨_, rfl⟩ | assumption | exact ng_fld_obj (f := 0) (by assumption)) mc_X8 (by first | decide | exact Nat.le_of_ble_eq_true rfl) (pr_buyers h) (by decide) (fun v M1 h1 => ?_)
  refine ng_aload_2 dL_law_413 ?_
  refine ng_aload_0 dL_law_414 ?_
  refine ng_iload_3 dL_law_415 ?_
  refine ng_iconst_1 dL_law_416 ?_
  refine ng_iadd dL_law_417 ?_
  refine ng_kld (k := 7) dL_law_418 rfl (by assumption) ?_
  refine ng_callV_1i (y2 := mi_X9_buyers) dL_law_419 lk_L_43 ms_X9_buyers my_X9_buyers (by first | exact ⟨_, rfl⟩ | assumption | exact ng_fld_obj (f := 0) (by assumption)) mc_X9 (by first | decide | exact Nat.le_of_ble_eq_true rfl) (h1) (by decide) (fun v2 M2 h2 => ?_)
  refine ng_icmp_eq 1407 dL_law_422 (by decide +kernel) (fun h422 => ?_) (fun h422 => ?_)
  · exact kk M2 h2.2
  · exact absurd h2.1.symm h422
theorem w_law_at {X : Nat × (Nat → Int32)} {M : ng_M} {i : Int32} (h : ng_inv M) (h6 : ng_six X i) (kk : ∀ M2 : ng_M, ng_inv M2 → ng_Go X mi_L_law 61 1407 [some (.ref 1007), some (.ref 0), some (.ref 73), some (.int i)] [] M2 ng_F1) : ng_Go X mi_L_law 61 427 [some (.ref 1007), some (.ref 0), some (.ref 73), some (.int i)] [] M ng_F1 := by
  obtain ⟨g0, g1, g2, g3, g4, g5⟩ := h6
  refine ng_aload_1 dL_law_427 ?_
  refine ng_aload_0 dL_law_428 ?_
  refine ng_iload_3 dL_law_429 ?_
  refine ng_iconst_1 dL_law_430 ?_
  refine ng_iadd dL_law_431 ?_
  refine ng_kld (k := 7) dL_law_432 rfl (by assumption) ?_
  refine ng_aload_0 dL_law_433 ?_
  refine ng_iload_3 dL_law_434 ?_
  refine ng_iconst_2 dL_law_435 ?_
  refine ng_iadd dL_law_436 ?_
  refine ng_kld (k := 7) dL_law_437 rfl (by assumption) ?_
  refine ng_aload_0 dL_law_438 ?_
  refine ng_iload_3 dL_law_439 ?_
  refine ng_iconst_3 dL_law_440 ?_
  refine ng_iadd dL_law_441 ?_
  refine ng_kld (k := 7) dL_law_442 rfl (by assumption) ?_
  refine ng_aload_0 dL_law_443 ?_
  refine ng_iload_3 dL_law_444 ?_
  refine ng_iconst_4 dL_law_445 ?_
  refine ng_iadd dL_law_446 ?_
  refine ng_kld (k := 7) dL_law_447 rfl (by assumption) ?_
  refine ng_callV_4i (y2 := mi_X8_at) dL_law_448 lk_L_44 ms_X8_at my_X8_at (by first | exact ⟨_, rfl⟩ | assumption | exact ng_fld_obj (f := 0) (by assumption)) mc_X8 (by first | decide | exact Nat.le_of_ble_eq_true rfl) (pr_at h) (by decide) (fun v M1 h1 => ?_)
  refine ng_aload_2 dL_law_451 ?_
  refine ng_aload_0 dL_law_452 ?_
  refine ng_iload_3 dL_law_453 ?_
  refine ng_iconst_1 dL_law_454 ?_
  refine ng_iadd dL_law_455 ?_
  refine ng_kld (k := 7) dL_law_456 rfl (by assumption) ?_
  refine ng_aload_0 dL_law_457 ?_
  refine ng_iload_3 dL_law_458 ?_
  refine ng_iconst_2 dL_law_459 ?_
  refine ng_iadd dL_law_460 ?_
  refine ng_kld (k := 7) dL_law_461 rfl (by assumption) ?_
  refine ng_aload_0 dL_law_462 ?_
  refine ng_iload_3 dL_law_463 ?_
  refine ng_iconst_3 dL_law_464 ?_
  refine ng_iadd dL_law_465 ?_
  refine ng_kld (k := 7) dL_law_466 rfl (by assumption) ?_
  refine ng_aload_0 dL_law_467 ?_
  refine ng_iload_3 dL_law_468 ?_
  refine ng_iconst_4 dL_law_469 ?_
  refine ng_iadd dL_law_470 ?_
  refine ng_kld (k := 7) dL_law_471 rfl (by assumption) ?_
  refine ng_callV_4i (y2 := mi_X9_at) dL_law_472 lk_L_48 ms_X9_at my_X9_at (by first | exact ⟨_, rfl⟩ | assumption | exact ng_fld_obj (f := 0) (by assumption)) mc_X9 (by first | decide | exact Nat.le_of_ble_eq_true rfl) (h1) (by decide) (fun v2 M2 h2 => ?_)
  refine ng_icmp_eq 1407 dL_law_475 (by decide +kernel) (fun h475 => ?_) (fun h475 => ?_)
  · exact kk M2 h2.2
  · exact absurd h2.1.symm h475
theorem w_law_feed {X : Nat × (Nat → Int32)} {M : ng_M} {i : Int32} (h : ng_inv M) (h6 : ng_six X i) (kk : ∀ M2 : ng_M, ng_inv M2 → ng_Go X mi_L_law 61 1407 [some (.ref 1007), some (.ref 0), some (.ref 73), some (.int i)] [] M2 ng_F1) : ng_Go X mi_L_law 61 480 [some (.ref 1007), some (.ref 0), some (.ref 73), some (.int i)] [] M ng_F1 := by
  obtain ⟨g0, g1, g2, g3, g4, g5⟩ := h6
  refine ng_aload_1 dL_law_480 ?_
  refine ng_aload_0 dL_law_481 ?_
  refine ng_iload_3 dL_law_482 ?_
  refine ng_iconst_1 dL_law_483 ?_
  refine ng_iadd dL_law_484 ?_
  refine ng_kld (k := 7) dL_law_485 rfl (by assumption) ?_
  refine ng_i2l dL_law_486 ?_
  refine ng_bipush (v := 32) dL_law_487 (by decide) ?_
  refine ng_lshl dL_law_489 ?_
  refine ng_aload_0 dL_law_490 ?_
  refine ng_iload_3 dL_law_491 ?_
  refine ng_iconst_2 dL_law_492 ?_
  refine ng_iadd dL_law_493 ?_
  refine ng_kld (k := 7) dL_law_494 rfl (by assumption) ?_
  refine ng_i2l dL_law_495 ?_
  refine ng_ldc2 dL_law_496 kc_L_49 ?_
  refine ng_land dL_law_499 ?_
  refine ng_lor dL_law_500 ?_
  refine ng_aload_0 dL_law_501 ?_
  refine ng_iload_3 dL_law_502 ?_
  refine ng_iconst_3 dL_law_503 ?_
  refine ng_iadd dL_law_504 ?_
  refine ng_kld (k := 7) dL_law_505 rfl (by assumption) ?_
  refine ng_callV_2i (y2 := mi_X8_feed) dL_law_506 lk_L_51 ms_X8_feed my_X8_feed (by first | exact ⟨_, rfl⟩ | assumption | exact ng_fld_obj (f := 0) (by assumption)) mc_X8 (by first | decide | exact Nat.le_of_ble_eq_true rfl) (pr_feed h) (by decide) (fun v M1 h1 => ?_)
  refine ng_aload_2 dL_law_509 ?_
  refine ng_aload_0 dL_law_510 ?_
  refine ng_iload_3 dL_law_511 ?_
  refine ng_iconst_1 dL_law_512 ?_
  refine ng_iadd dL_law_513 ?_
  refine ng_kld (k := 7) dL_law_514 rfl (by assumption) ?_
  refine ng_i2l dL_law_515 ?_
  refine ng_bipush (v := 32) dL_law_516 (by decide) ?_
  refine ng_lshl dL_law_518 ?_
  refine ng_aload_0 dL_law_519 ?_
  refine ng_iload_3 dL_law_520 ?_
  refine ng_iconst_2 dL_law_521 ?_
  refine ng_iadd dL_law_522 ?_
  refine ng_kld (k := 7) dL_law_523 rfl (by assumption) ?_
  refine ng_i2l dL_law_524 ?_
  refine ng_ldc2 dL_law_525 kc_L_49 ?_
  refine ng_land dL_law_528 ?_
  refine ng_lor dL_law_529 ?_
  refine ng_aload_0 dL_law_530 ?_
  refine ng_iload_3 dL_law_531 ?_
  refine ng_iconst_3 dL_law_532 ?_
  refine ng_iadd dL_law_533 ?_
  refine ng_kld (k := 7) dL_law_534 rfl (by assumption) ?_
  refine ng_callV_2i (y2 := mi_X9_feed) dL_law_535 lk_L_55 ms_X9_feed my_X9_feed (by first | exact ⟨_, rfl⟩ | assumption | exact ng_fld_obj (f := 0) (by assumption)) mc_X9 (by first | decide | exact Nat.le_of_ble_eq_true rfl) (h1) (by decide) (fun v2 M2 h2 => ?_)
  refine ng_icmp_eq 1407 dL_law_538 (by decide +kernel) (fun h538 => ?_) (fun h538 => ?_)
  · exact kk M2 h2.2
  · exact absurd h2.1.symm h538
