/-! THE LAW'S CASES -/
theorem lc_feed {E : gE} {κ : Kp} {xa : Nat → Nat → Nat} {ma : Nat → Nat} {X : XS} {M : MS} {b L : Nat} {xs : Nat → Int32} {i : Int} (F : Fx E κ cL_law "PatchesSameAgeLaw" 4 9) (hX : ScrX E b L xs) (hL : L ≤ 2560) (hi : 0 ≤ i ∧ i + 5 ≤ (L : Int)) (h : relT X M) (K : ∀ (X2 : XS) (M2 : MS), relT X2 M2 → G E (xw κ xa X2 ++ mw κ ma M2) [(3, .int (iI i)), (2, .ref (ma 100)), (1, .ref (xa 18 100)), (0, .ref b)] 1392 []) : G E (xw κ xa X ++ mw κ ma M) [(3, .int (iI i)), (2, .ref (ma 100)), (1, .ref (xa 18 100)), (0, .ref b)] 232 [] := by
  have hL2 : L ≤ 2147483647 := by omega
  refine g_aload_n F 2 dL_law_232 rfl ?_
  refine g_aload_n F 3 dL_law_233 rfl ?_
  refine g_iload_n F 0 dL_law_234 rfl ?_
  refine g_iconst F dL_law_235 ?_
  refine g_iadd F dL_law_236 ?_
  refine g_sld F hX hL2 (by omega) dL_law_237 ?_
  refine f_callI_L F (stk := [.int (iI (scI xs (i + 1))), .ref (xa 18 100)]) (st := []) (k_X5_feed κ xa X (scI xs (i + 1)) (scI_in _ _) (rel_hX h)) cal_X5_feed lm_L_13 81 rfl rfl rfl rfl (by decide) rfl (Nat.le_of_ble_eq_true rfl) dL_law_238 (fun r1 u1 hr1 => ?_)
  refine g_aload_n F 1 dL_law_241 rfl ?_
  refine g_aload_n F 3 dL_law_242 rfl ?_
  refine g_iload_n F 0 dL_law_243 rfl ?_
  refine g_iconst F dL_law_244 ?_
  refine g_iadd F dL_law_245 ?_
  refine g_sld F hX hL2 (by omega) dL_law_246 ?_
  refine f_callI_R F (stk := [.int (iI (scI xs (i + 1))), .ref (ma 100), .int r1]) (st := [.int r1]) (k_X6_feed κ ma M (scI xs (i + 1)) (scI_in _ _) (rel_hM h)) cal_X6_feed lm_L_17 0 rfl rfl rfl rfl (by decide) rfl (Nat.le_of_ble_eq_true rfl) dL_law_247 (fun r2 u2 hr2 => ?_)
  obtain ⟨e, X2, M2, e1, e2, hT⟩ := opl_s h (eff_feed h.1 _) (by rw [h.1.2.2.1.2.1]) hr1 hr2
  subst e e1 e2
  exact g_icmp_same F 1392 dL_law_250 (by decide) (K X2 M2 hT)
theorem lc_trousers {E : gE} {κ : Kp} {xa : Nat → Nat → Nat} {ma : Nat → Nat} {X : XS} {M : MS} {b L : Nat} {xs : Nat → Int32} {i : Int} (F : Fx E κ cL_law "PatchesSameAgeLaw" 4 9) (hX : ScrX E b L xs) (hL : L ≤ 2560) (hi : 0 ≤ i ∧ i + 5 ≤ (L : Int)) (h : relT X M) (K : ∀ (X2 : XS) (M2 : MS), relT X2 M2 → G E (xw κ xa X2 ++ mw κ ma M2) [(3, .int (iI i)), (2, .ref (ma 100)), (1, .ref (xa 18 100)), (0, .ref b)] 1392 []) : G E (xw κ xa X ++ mw κ ma M) [(3, .int (iI i)), (2, .ref (ma 100)), (1, .ref (xa 18 100)), (0, .ref b)] 255 [] := by
  have hL2 : L ≤ 2147483647 := by omega
  refine g_aload_n F 2 dL_law_255 rfl ?_
  refine f_callI_L F (stk := [.ref (xa 18 100)]) (st := []) (k_X5_trousers κ xa X (rel_hX h) (rel_lX h) (rel_tX h) (rel_rX h) (rel_bX h)) cal_X5_trousers lm_L_18 81 rfl rfl rfl rfl (by decide) rfl (Nat.le_of_ble_eq_true rfl) dL_law_256 (fun r1 u1 hr1 => ?_)
  refine g_aload_n F 1 dL_law_259 rfl ?_
  refine f_callI_R F (stk := [.ref (ma 100), .int r1]) (st := [.int r1]) (k_X6_trousers κ ma M (rel_hM h) (rel_lM h) (rel_tM h)) cal_X6_trousers lm_L_22 0 rfl rfl rfl rfl (by decide) rfl (Nat.le_of_ble_eq_true rfl) dL_law_260 (fun r2 u2 hr2 => ?_)
  obtain ⟨e, X2, M2, e1, e2, hT⟩ := opl_trou h hr1 hr2
  subst e e1 e2
  exact g_icmp_same F 1392 dL_law_263 (by decide) (K X2 M2 hT)
theorem lc_cellOf {E : gE} {κ : Kp} {xa : Nat → Nat → Nat} {ma : Nat → Nat} {X : XS} {M : MS} {b L : Nat} {xs : Nat → Int32} {i : Int} (F : Fx E κ cL_law "PatchesSameAgeLaw" 4 9) (hX : ScrX E b L xs) (hL : L ≤ 2560) (hi : 0 ≤ i ∧ i + 5 ≤ (L : Int)) (h : relT X M) (K : ∀ (X2 : XS) (M2 : MS), relT X2 M2 → G E (xw κ xa X2 ++ mw κ ma M2) [(3, .int (iI i)), (2, .ref (ma 100)), (1, .ref (xa 18 100)), (0, .ref b)] 1392 []) : G E (xw κ xa X ++ mw κ ma M) [(3, .int (iI i)), (2, .ref (ma 100)), (1, .ref (xa 18 100)), (0, .ref b)] 268 [] := by
  have hL2 : L ≤ 2147483647 := by omega
  refine g_aload_n F 2 dL_law_268 rfl ?_
  refine g_aload_n F 3 dL_law_269 rfl ?_
  refine g_iload_n F 0 dL_law_270 rfl ?_
  refine g_iconst F dL_law_271 ?_
  refine g_iadd F dL_law_272 ?_
  refine g_sld F hX hL2 (by omega) dL_law_273 ?_
  refine g_aload_n F 3 dL_law_274 rfl ?_
  refine g_iload_n F 0 dL_law_275 rfl ?_
  refine g_iconst F dL_law_276 ?_
  refine g_iadd F dL_law_277 ?_
  refine g_sld F hX hL2 (by omega) dL_law_278 ?_
  refine f_callI_L F (stk := [.int (iI (scI xs (i + 2))), .int (iI (scI xs (i + 1))), .ref (xa 18 100)]) (st := []) (k_X5_cellOf κ xa X (scI xs (i + 1)) (scI xs (i + 2)) (scI_in _ _) (scI_in _ _) (rel_okX h) (rel_yX h)) cal_X5_cellOf lm_L_23 81 rfl rfl rfl rfl (by decide) rfl (Nat.le_of_ble_eq_true rfl) dL_law_279 (fun r1 u1 hr1 => ?_)
  refine g_aload_n F 1 dL_law_282 rfl ?_
  refine g_aload_n F 3 dL_law_283 rfl ?_
  refine g_iload_n F 0 dL_law_284 rfl ?_
  refine g_iconst F dL_law_285 ?_
  refine g_iadd F dL_law_286 ?_
  refine g_sld F hX hL2 (by omega) dL_law_287 ?_
  refine g_aload_n F 3 dL_law_288 rfl ?_
  refine g_iload_n F 0 dL_law_289 rfl ?_
  refine g_iconst F dL_law_290 ?_
  refine g_iadd F dL_law_291 ?_
  refine g_sld F hX hL2 (by omega) dL_law_292 ?_
  refine f_callI_R F (stk := [.int (iI (scI xs (i + 2))), .int (iI (scI xs (i + 1))), .ref (ma 100), .int r1]) (st := [.int r1]) (k_X6_cellOf κ ma M (scI xs (i + 1)) (scI xs (i + 2)) (scI_in _ _) (scI_in _ _) (rel_okM h) (rel_yM h)) cal_X6_cellOf lm_L_27 0 rfl rfl rfl rfl (by decide) rfl (Nat.le_of_ble_eq_true rfl) dL_law_293 (fun r2 u2 hr2 => ?_)
  obtain ⟨e, X2, M2, e1, e2, hT⟩ := opl_q h (by rw [rel_cl0 h]) hr1 hr2
  subst e e1 e2
  exact g_icmp_same F 1392 dL_law_296 (by decide) (K X2 M2 hT)
theorem lc_pieceOf {E : gE} {κ : Kp} {xa : Nat → Nat → Nat} {ma : Nat → Nat} {X : XS} {M : MS} {b L : Nat} {xs : Nat → Int32} {i : Int} (F : Fx E κ cL_law "PatchesSameAgeLaw" 4 9) (hX : ScrX E b L xs) (hL : L ≤ 2560) (hi : 0 ≤ i ∧ i + 5 ≤ (L : Int)) (h : relT X M) (K : ∀ (X2 : XS) (M2 : MS), relT X2 M2 → G E (xw κ xa X2 ++ mw κ ma M2) [(3, .int (iI i)), (2, .ref (ma 100)), (1, .ref (xa 18 100)), (0, .ref b)] 1392 []) : G E (xw κ xa X ++ mw κ ma M) [(3, .int (iI i)), (2, .ref (ma 100)), (1, .ref (xa 18 100)), (0, .ref b)] 301 [] := by
  have hL2 : L ≤ 2147483647 := by omega
  refine g_aload_n F 2 dL_law_301 rfl ?_
  refine g_aload_n F 3 dL_law_302 rfl ?_
  refine g_iload_n F 0 dL_law_303 rfl ?_
  refine g_iconst F dL_law_304 ?_
  refine g_iadd F dL_law_305 ?_
  refine g_sld F hX hL2 (by omega) dL_law_306 ?_
  refine g_aload_n F 3 dL_law_307 rfl ?_
  refine g_iload_n F 0 dL_law_308 rfl ?_
  refine g_iconst F dL_law_309 ?_
  refine g_iadd F dL_law_310 ?_
  refine g_sld F hX hL2 (by omega) dL_law_311 ?_
  refine f_callI_L F (stk := [.int (iI (scI xs (i + 2))), .int (iI (scI xs (i + 1))), .ref (xa 18 100)]) (st := []) (k_X5_pieceOf κ xa X (scI xs (i + 1)) (scI xs (i + 2)) (scI_in _ _) (scI_in _ _) (rel_rX h)) cal_X5_pieceOf lm_L_28 81 rfl rfl rfl rfl (by decide) rfl (Nat.le_of_ble_eq_true rfl) dL_law_312 (fun r1 u1 hr1 => ?_)
  refine g_aload_n F 1 dL_law_315 rfl ?_
  refine g_aload_n F 3 dL_law_316 rfl ?_
  refine g_iload_n F 0 dL_law_317 rfl ?_
  refine g_iconst F dL_law_318 ?_
  refine g_iadd F dL_law_319 ?_
  refine g_sld F hX hL2 (by omega) dL_law_320 ?_
  refine g_aload_n F 3 dL_law_321 rfl ?_
  refine g_iload_n F 0 dL_law_322 rfl ?_
  refine g_iconst F dL_law_323 ?_
  refine g_iadd F dL_law_324 ?_
  refine g_sld F hX hL2 (by omega) dL_law_325 ?_
  refine f_callI_R F (stk := [.int (iI (scI xs (i + 2))), .int (iI (scI xs (i + 1))), .ref (ma 100), .int r1]) (st := [.int r1]) (k_X6_pieceOf κ ma M (scI xs (i + 1)) (scI xs (i + 2)) (scI_in _ _) (scI_in _ _) (rel_rM h)) cal_X6_pieceOf lm_L_31 0 rfl rfl rfl rfl (by decide) rfl (Nat.le_of_ble_eq_true rfl) dL_law_326 (fun r2 u2 hr2 => ?_)
  obtain ⟨e, X2, M2, e1, e2, hT⟩ := opl_q h (by rw [rel_p9 h, rel_p6 h, rel_p7 h, rel_p8 h, rel_p5 h]) hr1 hr2
  subst e e1 e2
  exact g_icmp_same F 1392 dL_law_329 (by decide) (K X2 M2 hT)
theorem lc_piece {E : gE} {κ : Kp} {xa : Nat → Nat → Nat} {ma : Nat → Nat} {X : XS} {M : MS} {b L : Nat} {xs : Nat → Int32} {i : Int} (F : Fx E κ cL_law "PatchesSameAgeLaw" 4 9) (hX : ScrX E b L xs) (hL : L ≤ 2560) (hi : 0 ≤ i ∧ i + 5 ≤ (L : Int)) (h : relT X M) (K : ∀ (X2 : XS) (M2 : MS), relT X2 M2 → G E (xw κ xa X2 ++ mw κ ma M2) [(3, .int (iI i)), (2, .ref (ma 100)), (1, .ref (xa 18 100)), (0, .ref b)] 1392 []) : G E (xw κ xa X ++ mw κ ma M) [(3, .int (iI i)), (2, .ref (ma 100)), (1, .ref (xa 18 100)), (0, .ref b)] 334 [] := by
  have hL2 : L ≤ 2147483647 := by omega
  refine g_aload_n F 2 dL_law_334 rfl ?_
  refine g_aload_n F 3 dL_law_335 rfl ?_
  refine g_iload_n F 0 dL_law_336 rfl ?_
  refine g_iconst F dL_law_337 ?_
  refine g_iadd F dL_law_338 ?_
  refine g_sld F hX hL2 (by omega) dL_law_339 ?_
  refine g_aload_n F 3 dL_law_340 rfl ?_
  refine g_iload_n F 0 dL_law_341 rfl ?_
  refine g_iconst F dL_law_342 ?_
  refine g_iadd F dL_law_343 ?_
  refine g_sld F hX hL2 (by omega) dL_law_344 ?_
  refine g_aload_n F 3 dL_law_345 rfl ?_
  refine g_iload_n F 0 dL_law_346 rfl ?_
  refine g_iconst F dL_law_347 ?_
  refine g_iadd F dL_law_348 ?_
  refine g_sld F hX hL2 (by omega) dL_law_349 ?_
  refine f_callI_L F (stk := [.int (iI (scI xs (i + 3))), .int (iI (scI xs (i + 2))), .int (iI (scI xs (i + 1))), .ref (xa 18 100)]) (st := []) (k_X5_piece κ xa X (scI xs (i + 1)) (scI xs (i + 2)) (scI xs (i + 3)) (scI_in _ _) (scI_in _ _) (scI_in _ _) (rel_nnX h)) cal_X5_piece lm_L_32 81 rfl rfl rfl rfl (by decide) rfl (Nat.le_of_ble_eq_true rfl) dL_law_350 (fun r1 u1 hr1 => ?_)
  refine g_aload_n F 1 dL_law_353 rfl ?_
  refine g_aload_n F 3 dL_law_354 rfl ?_
  refine g_iload_n F 0 dL_law_355 rfl ?_
  refine g_iconst F dL_law_356 ?_
  refine g_iadd F dL_law_357 ?_
  refine g_sld F hX hL2 (by omega) dL_law_358 ?_
  refine g_aload_n F 3 dL_law_359 rfl ?_
  refine g_iload_n F 0 dL_law_360 rfl ?_
  refine g_iconst F dL_law_361 ?_
  refine g_iadd F dL_law_362 ?_
  refine g_sld F hX hL2 (by omega) dL_law_363 ?_
  refine g_aload_n F 3 dL_law_364 rfl ?_
  refine g_iload_n F 0 dL_law_365 rfl ?_
  refine g_iconst F dL_law_366 ?_
  refine g_iadd F dL_law_367 ?_
  refine g_sld F hX hL2 (by omega) dL_law_368 ?_
  refine f_callI_R F (stk := [.int (iI (scI xs (i + 3))), .int (iI (scI xs (i + 2))), .int (iI (scI xs (i + 1))), .ref (ma 100), .int r1]) (st := [.int r1]) (k_X6_piece κ ma M (scI xs (i + 1)) (scI xs (i + 2)) (scI xs (i + 3)) (scI_in _ _) (scI_in _ _) (scI_in _ _) (rel_nnM h)) cal_X6_piece lm_L_36 0 rfl rfl rfl rfl (by decide) rfl (Nat.le_of_ble_eq_true rfl) dL_law_369 (fun r2 u2 hr2 => ?_)
  obtain ⟨e, X2, M2, e1, e2, hT⟩ := opl_s h (eff_piece h.1 _ _ _) (by rw [rel_p5 h]) hr1 hr2
  subst e e1 e2
  exact g_icmp_same F 1392 dL_law_372 (by decide) (K X2 M2 hT)
theorem lc_cell {E : gE} {κ : Kp} {xa : Nat → Nat → Nat} {ma : Nat → Nat} {X : XS} {M : MS} {b L : Nat} {xs : Nat → Int32} {i : Int} (F : Fx E κ cL_law "PatchesSameAgeLaw" 4 9) (hX : ScrX E b L xs) (hL : L ≤ 2560) (hi : 0 ≤ i ∧ i + 5 ≤ (L : Int)) (h : relT X M) (K : ∀ (X2 : XS) (M2 : MS), relT X2 M2 → G E (xw κ xa X2 ++ mw κ ma M2) [(3, .int (iI i)), (2, .ref (ma 100)), (1, .ref (xa 18 100)), (0, .ref b)] 1392 []) : G E (xw κ xa X ++ mw κ ma M) [(3, .int (iI i)), (2, .ref (ma 100)), (1, .ref (xa 18 100)), (0, .ref b)] 377 [] := by
  have hL2 : L ≤ 2147483647 := by omega
  refine g_aload_n F 2 dL_law_377 rfl ?_
  refine g_aload_n F 3 dL_law_378 rfl ?_
  refine g_iload_n F 0 dL_law_379 rfl ?_
  refine g_iconst F dL_law_380 ?_
  refine g_iadd F dL_law_381 ?_
  refine g_sld F hX hL2 (by omega) dL_law_382 ?_
  refine g_aload_n F 3 dL_law_383 rfl ?_
  refine g_iload_n F 0 dL_law_384 rfl ?_
  refine g_iconst F dL_law_385 ?_
  refine g_iadd F dL_law_386 ?_
  refine g_sld F hX hL2 (by omega) dL_law_387 ?_
  refine g_aload_n F 3 dL_law_388 rfl ?_
  refine g_iload_n F 0 dL_law_389 rfl ?_
  refine g_iconst F dL_law_390 ?_
  refine g_iadd F dL_law_391 ?_
  refine g_sld F hX hL2 (by omega) dL_law_392 ?_
  refine g_aload_n F 3 dL_law_393 rfl ?_
  refine g_iload_n F 0 dL_law_394 rfl ?_
  refine g_iconst F dL_law_395 ?_
  refine g_iadd F dL_law_396 ?_
  refine g_sld F hX hL2 (by omega) dL_law_397 ?_
  refine f_callI_L F (stk := [.int (iI (scI xs (i + 4))), .int (iI (scI xs (i + 3))), .int (iI (scI xs (i + 2))), .int (iI (scI xs (i + 1))), .ref (xa 18 100)]) (st := []) (k_X5_cell κ xa X (scI xs (i + 1)) (scI xs (i + 2)) (scI xs (i + 3)) (scI xs (i + 4)) (scI_in _ _) (scI_in _ _) (scI_in _ _) (scI_in _ _) (rel_okX h) (rel_15X h)) cal_X5_cell lm_L_37 81 rfl rfl rfl rfl (by decide) rfl (Nat.le_of_ble_eq_true rfl) dL_law_398 (fun r1 u1 hr1 => ?_)
  refine g_aload_n F 1 dL_law_401 rfl ?_
  refine g_aload_n F 3 dL_law_402 rfl ?_
  refine g_iload_n F 0 dL_law_403 rfl ?_
  refine g_iconst F dL_law_404 ?_
  refine g_iadd F dL_law_405 ?_
  refine g_sld F hX hL2 (by omega) dL_law_406 ?_
  refine g_aload_n F 3 dL_law_407 rfl ?_
  refine g_iload_n F 0 dL_law_408 rfl ?_
  refine g_iconst F dL_law_409 ?_
  refine g_iadd F dL_law_410 ?_
  refine g_sld F hX hL2 (by omega) dL_law_411 ?_
  refine g_aload_n F 3 dL_law_412 rfl ?_
  refine g_iload_n F 0 dL_law_413 rfl ?_
  refine g_iconst F dL_law_414 ?_
  refine g_iadd F dL_law_415 ?_
  refine g_sld F hX hL2 (by omega) dL_law_416 ?_
  refine g_aload_n F 3 dL_law_417 rfl ?_
  refine g_iload_n F 0 dL_law_418 rfl ?_
  refine g_iconst F dL_law_419 ?_
  refine g_iadd F dL_law_420 ?_
  refine g_sld F hX hL2 (by omega) dL_law_421 ?_
  refine f_callI_R F (stk := [.int (iI (scI xs (i + 4))), .int (iI (scI xs (i + 3))), .int (iI (scI xs (i + 2))), .int (iI (scI xs (i + 1))), .ref (ma 100), .int r1]) (st := [.int r1]) (k_X6_cell κ ma M (scI xs (i + 1)) (scI xs (i + 2)) (scI xs (i + 3)) (scI xs (i + 4)) (scI_in _ _) (scI_in _ _) (scI_in _ _) (scI_in _ _) (rel_okM h) (rel_28M h)) cal_X6_cell lm_L_41 0 rfl rfl rfl rfl (by decide) rfl (Nat.le_of_ble_eq_true rfl) dL_law_422 (fun r2 u2 hr2 => ?_)
  obtain ⟨e, X2, M2, e1, e2, hT⟩ := opl_s h (eff_cell h.1 _ _ _ _) (by rw [relU_a h.1]) hr1 hr2
  subst e e1 e2
  exact g_icmp_same F 1392 dL_law_425 (by decide) (K X2 M2 hT)
theorem lc_puts {E : gE} {κ : Kp} {xa : Nat → Nat → Nat} {ma : Nat → Nat} {X : XS} {M : MS} {b L : Nat} {xs : Nat → Int32} {i : Int} (F : Fx E κ cL_law "PatchesSameAgeLaw" 4 9) (hX : ScrX E b L xs) (hL : L ≤ 2560) (hi : 0 ≤ i ∧ i + 5 ≤ (L : Int)) (h : relT X M) (K : ∀ (X2 : XS) (M2 : MS), relT X2 M2 → G E (xw κ xa X2 ++ mw κ ma M2) [(3, .int (iI i)), (2, .ref (ma 100)), (1, .ref (xa 18 100)), (0, .ref b)] 1392 []) : G E (xw κ xa X ++ mw κ ma M) [(3, .int (iI i)), (2, .ref (ma 100)), (1, .ref (xa 18 100)), (0, .ref b)] 430 [] := by
  have hL2 : L ≤ 2147483647 := by omega
  refine g_aload_n F 2 dL_law_430 rfl ?_
  refine g_aload_n F 3 dL_law_431 rfl ?_
  refine g_iload_n F 0 dL_law_432 rfl ?_
  refine g_iconst F dL_law_433 ?_
  refine g_iadd F dL_law_434 ?_
  refine g_sld F hX hL2 (by omega) dL_law_435 ?_
  refine g_aload_n F 3 dL_law_436 rfl ?_
  refine g_iload_n F 0 dL_law_437 rfl ?_
  refine g_iconst F dL_law_438 ?_
  refine g_iadd F dL_law_439 ?_
  refine g_sld F hX hL2 (by omega) dL_law_440 ?_
  refine f_callI_L F (stk := [.int (iI (scI xs (i + 2))), .int (iI (scI xs (i + 1))), .ref (xa 18 100)]) (st := []) (k_X5_puts κ xa X (scI xs (i + 1)) (scI xs (i + 2)) (scI_in _ _) (scI_in _ _) (rel_okX h) (rel_rX h) (rel_15X h)) cal_X5_puts lm_L_42 81 rfl rfl rfl rfl (by decide) rfl (Nat.le_of_ble_eq_true rfl) dL_law_441 (fun r1 u1 hr1 => ?_)
  refine g_aload_n F 1 dL_law_444 rfl ?_
  refine g_aload_n F 3 dL_law_445 rfl ?_
  refine g_iload_n F 0 dL_law_446 rfl ?_
  refine g_iconst F dL_law_447 ?_
  refine g_iadd F dL_law_448 ?_
  refine g_sld F hX hL2 (by omega) dL_law_449 ?_
  refine g_aload_n F 3 dL_law_450 rfl ?_
  refine g_iload_n F 0 dL_law_451 rfl ?_
  refine g_iconst F dL_law_452 ?_
  refine g_iadd F dL_law_453 ?_
  refine g_sld F hX hL2 (by omega) dL_law_454 ?_
  refine f_callI_R F (stk := [.int (iI (scI xs (i + 2))), .int (iI (scI xs (i + 1))), .ref (ma 100), .int r1]) (st := [.int r1]) (k_X6_puts κ ma M (scI xs (i + 1)) (scI xs (i + 2)) (scI_in _ _) (scI_in _ _) (rel_okM h) (rel_rM h) (rel_28M h)) cal_X6_puts lm_L_45 0 rfl rfl rfl rfl (by decide) rfl (Nat.le_of_ble_eq_true rfl) dL_law_455 (fun r2 u2 hr2 => ?_)
  obtain ⟨e, X2, M2, e1, e2, hT⟩ := opl_puts h (by rw [rel_cl0 h, rel_p9 h, rel_p6 h, rel_p7 h, rel_p8 h, rel_p5 h]) hr1 hr2
  subst e e1 e2
  exact g_icmp_same F 1392 dL_law_458 (by decide) (K X2 M2 hT)
theorem lc_wears {E : gE} {κ : Kp} {xa : Nat → Nat → Nat} {ma : Nat → Nat} {X : XS} {M : MS} {b L : Nat} {xs : Nat → Int32} {i : Int} (F : Fx E κ cL_law "PatchesSameAgeLaw" 4 9) (hX : ScrX E b L xs) (hL : L ≤ 2560) (hi : 0 ≤ i ∧ i + 5 ≤ (L : Int)) (h : relT X M) (K : ∀ (X2 : XS) (M2 : MS), relT X2 M2 → G E (xw κ xa X2 ++ mw κ ma M2) [(3, .int (iI i)), (2, .ref (ma 100)), (1, .ref (xa 18 100)), (0, .ref b)] 1392 []) : G E (xw κ xa X ++ mw κ ma M) [(3, .int (iI i)), (2, .ref (ma 100)), (1, .ref (xa 18 100)), (0, .ref b)] 463 [] := by
  have hL2 : L ≤ 2147483647 := by omega
  refine g_aload_n F 2 dL_law_463 rfl ?_
  refine g_aload_n F 3 dL_law_464 rfl ?_
  refine g_iload_n F 0 dL_law_465 rfl ?_
  refine g_iconst F dL_law_466 ?_
  refine g_iadd F dL_law_467 ?_
  refine g_sld F hX hL2 (by omega) dL_law_468 ?_
  refine g_aload_n F 3 dL_law_469 rfl ?_
  refine g_iload_n F 0 dL_law_470 rfl ?_
  refine g_iconst F dL_law_471 ?_
  refine g_iadd F dL_law_472 ?_
  refine g_sld F hX hL2 (by omega) dL_law_473 ?_
  refine f_callI_L F (stk := [.int (iI (scI xs (i + 2))), .int (iI (scI xs (i + 1))), .ref (xa 18 100)]) (st := []) (k_X5_wears κ xa X (scI xs (i + 1)) (scI xs (i + 2)) (scI_in _ _) (scI_in _ _) (rel_okX h) (rel_15X h)) cal_X5_wears lm_L_46 81 rfl rfl rfl rfl (by decide) rfl (Nat.le_of_ble_eq_true rfl) dL_law_474 (fun r1 u1 hr1 => ?_)
  refine g_aload_n F 1 dL_law_477 rfl ?_
  refine g_aload_n F 3 dL_law_478 rfl ?_
  refine g_iload_n F 0 dL_law_479 rfl ?_
  refine g_iconst F dL_law_480 ?_
  refine g_iadd F dL_law_481 ?_
  refine g_sld F hX hL2 (by omega) dL_law_482 ?_
  refine g_aload_n F 3 dL_law_483 rfl ?_
  refine g_iload_n F 0 dL_law_484 rfl ?_
  refine g_iconst F dL_law_485 ?_
  refine g_iadd F dL_law_486 ?_
  refine g_sld F hX hL2 (by omega) dL_law_487 ?_
  refine f_callI_R F (stk := [.int (iI (scI xs (i + 2))), .int (iI (scI xs (i + 1))), .ref (ma 100), .int r1]) (st := [.int r1]) (k_X6_wears κ ma M (scI xs (i + 1)) (scI xs (i + 2)) (scI_in _ _) (scI_in _ _) (rel_okM h) (rel_28M h)) cal_X6_wears lm_L_49 0 rfl rfl rfl rfl (by decide) rfl (Nat.le_of_ble_eq_true rfl) dL_law_488 (fun r2 u2 hr2 => ?_)
  obtain ⟨e, X2, M2, e1, e2, hT⟩ := opl_s h (eff_wears h.1 _ _) (by rw [relU_w h.1]) hr1 hr2
  subst e e1 e2
  exact g_icmp_same F 1392 dL_law_491 (by decide) (K X2 M2 hT)
theorem lc_years {E : gE} {κ : Kp} {xa : Nat → Nat → Nat} {ma : Nat → Nat} {X : XS} {M : MS} {b L : Nat} {xs : Nat → Int32} {i : Int} (F : Fx E κ cL_law "PatchesSameAgeLaw" 4 9) (hX : ScrX E b L xs) (hL : L ≤ 2560) (hi : 0 ≤ i ∧ i + 5 ≤ (L : Int)) (h : relT X M) (K : ∀ (X2 : XS) (M2 : MS), relT X2 M2 → G E (xw κ xa X2 ++ mw κ ma M2) [(3, .int (iI i)), (2, .ref (ma 100)), (1, .ref (xa 18 100)), (0, .ref b)] 1392 []) : G E (xw κ xa X ++ mw κ ma M) [(3, .int (iI i)), (2, .ref (ma 100)), (1, .ref (xa 18 100)), (0, .ref b)] 496 [] := by
  have hL2 : L ≤ 2147483647 := by omega
  refine g_aload_n F 2 dL_law_496 rfl ?_
  refine g_aload_n F 3 dL_law_497 rfl ?_
  refine g_iload_n F 0 dL_law_498 rfl ?_
  refine g_iconst F dL_law_499 ?_
  refine g_iadd F dL_law_500 ?_
  refine g_sld F hX hL2 (by omega) dL_law_501 ?_
  refine f_callI_L F (stk := [.int (iI (scI xs (i + 1))), .ref (xa 18 100)]) (st := []) (k_X5_years κ xa X (scI xs (i + 1)) (scI_in _ _) (rel_okX h) (rel_yX h) (rel_15X h)) cal_X5_years lm_L_50 81 rfl rfl rfl rfl (by decide) rfl (Nat.le_of_ble_eq_true rfl) dL_law_502 (fun r1 u1 hr1 => ?_)
  refine g_aload_n F 1 dL_law_505 rfl ?_
  refine g_aload_n F 3 dL_law_506 rfl ?_
  refine g_iload_n F 0 dL_law_507 rfl ?_
  refine g_iconst F dL_law_508 ?_
  refine g_iadd F dL_law_509 ?_
  refine g_sld F hX hL2 (by omega) dL_law_510 ?_
  refine f_callI_R F (stk := [.int (iI (scI xs (i + 1))), .ref (ma 100), .int r1]) (st := [.int r1]) (k_X6_years κ ma M (scI xs (i + 1)) (scI_in _ _) (rel_okM h) (rel_yM h) (rel_28M h)) cal_X6_years lm_L_53 0 rfl rfl rfl rfl (by decide) rfl (Nat.le_of_ble_eq_true rfl) dL_law_511 (fun r2 u2 hr2 => ?_)
  obtain ⟨e, X2, M2, e1, e2, hT⟩ := opl_s h (eff_years h.1 _) (by rw [rel_cl0 h]) hr1 hr2
  subst e e1 e2
  exact g_icmp_same F 1392 dL_law_514 (by decide) (K X2 M2 hT)
theorem lc_back {E : gE} {κ : Kp} {xa : Nat → Nat → Nat} {ma : Nat → Nat} {X : XS} {M : MS} {b L : Nat} {xs : Nat → Int32} {i : Int} (F : Fx E κ cL_law "PatchesSameAgeLaw" 4 9) (hX : ScrX E b L xs) (hL : L ≤ 2560) (hi : 0 ≤ i ∧ i + 5 ≤ (L : Int)) (h : relT X M) (K : ∀ (X2 : XS) (M2 : MS), relT X2 M2 → G E (xw κ xa X2 ++ mw κ ma M2) [(3, .int (iI i)), (2, .ref (ma 100)), (1, .ref (xa 18 100)), (0, .ref b)] 1392 []) : G E (xw κ xa X ++ mw κ ma M) [(3, .int (iI i)), (2, .ref (ma 100)), (1, .ref (xa 18 100)), (0, .ref b)] 519 [] := by
  have hL2 : L ≤ 2147483647 := by omega
  obtain ⟨S, hS, hN⟩ := back_S h.1
  refine g_aload_n F 2 dL_law_519 rfl ?_
  refine f_callI_L F (stk := [.ref (xa 18 100)]) (st := []) (k_X5_back κ xa X (rel_15X h)) cal_X5_back lm_L_54 81 rfl rfl rfl rfl (by decide) rfl (Nat.le_of_ble_eq_true rfl) dL_law_520 (fun r1 u1 hr1 => ?_)
  refine g_aload_n F 1 dL_law_523 rfl ?_
  refine f_callI_R F (stk := [.ref (ma 100), .int r1]) (st := [.int r1]) (k_X6_back κ ma M S (rel_28M h) hS) cal_X6_back lm_L_57 0 rfl rfl rfl rfl (by decide) rfl (Nat.le_of_ble_eq_true rfl) dL_law_524 (fun r2 u2 hr2 => ?_)
  obtain ⟨e, X2, M2, e1, e2, hT⟩ := opl_s h hN (by rw [rel_28 h]) hr1 hr2
  subst e e1 e2
  exact g_icmp_same F 1392 dL_law_527 (by decide) (K X2 M2 hT)
theorem lc_behind {E : gE} {κ : Kp} {xa : Nat → Nat → Nat} {ma : Nat → Nat} {X : XS} {M : MS} {b L : Nat} {xs : Nat → Int32} {i : Int} (F : Fx E κ cL_law "PatchesSameAgeLaw" 4 9) (hX : ScrX E b L xs) (hL : L ≤ 2560) (hi : 0 ≤ i ∧ i + 5 ≤ (L : Int)) (h : relT X M) (K : ∀ (X2 : XS) (M2 : MS), relT X2 M2 → G E (xw κ xa X2 ++ mw κ ma M2) [(3, .int (iI i)), (2, .ref (ma 100)), (1, .ref (xa 18 100)), (0, .ref b)] 1392 []) : G E (xw κ xa X ++ mw κ ma M) [(3, .int (iI i)), (2, .ref (ma 100)), (1, .ref (xa 18 100)), (0, .ref b)] 532 [] := by
  have hL2 : L ≤ 2147483647 := by omega
  refine g_aload_n F 2 dL_law_532 rfl ?_
  refine g_aload_n F 3 dL_law_533 rfl ?_
  refine g_iload_n F 0 dL_law_534 rfl ?_
  refine g_iconst F dL_law_535 ?_
  refine g_iadd F dL_law_536 ?_
  refine g_sld F hX hL2 (by omega) dL_law_537 ?_
  refine g_aload_n F 3 dL_law_538 rfl ?_
  refine g_iload_n F 0 dL_law_539 rfl ?_
  refine g_iconst F dL_law_540 ?_
  refine g_iadd F dL_law_541 ?_
  refine g_sld F hX hL2 (by omega) dL_law_542 ?_
  refine g_aload_n F 3 dL_law_543 rfl ?_
  refine g_iload_n F 0 dL_law_544 rfl ?_
  refine g_iconst F dL_law_545 ?_
  refine g_iadd F dL_law_546 ?_
  refine g_sld F hX hL2 (by omega) dL_law_547 ?_
  refine f_callI_L F (stk := [.int (iI (scI xs (i + 3))), .int (iI (scI xs (i + 2))), .int (iI (scI xs (i + 1))), .ref (xa 18 100)]) (st := []) (k_X5_behind κ xa X (scI xs (i + 1)) (scI xs (i + 2)) (scI xs (i + 3)) (scI_in _ _) (scI_in _ _) (scI_in _ _) (rel_okX h) (rel_yX h)) cal_X5_behind lm_L_58 81 rfl rfl rfl rfl (by decide) rfl (Nat.le_of_ble_eq_true rfl) dL_law_548 (fun r1 u1 hr1 => ?_)
  refine g_aload_n F 1 dL_law_551 rfl ?_
  refine g_aload_n F 3 dL_law_552 rfl ?_
  refine g_iload_n F 0 dL_law_553 rfl ?_
  refine g_iconst F dL_law_554 ?_
  refine g_iadd F dL_law_555 ?_
  refine g_sld F hX hL2 (by omega) dL_law_556 ?_
  refine g_aload_n F 3 dL_law_557 rfl ?_
  refine g_iload_n F 0 dL_law_558 rfl ?_
  refine g_iconst F dL_law_559 ?_
  refine g_iadd F dL_law_560 ?_
  refine g_sld F hX hL2 (by omega) dL_law_561 ?_
  refine g_aload_n F 3 dL_law_562 rfl ?_
  refine g_iload_n F 0 dL_law_563 rfl ?_
  refine g_iconst F dL_law_564 ?_
  refine g_iadd F dL_law_565 ?_
  refine g_sld F hX hL2 (by omega) dL_law_566 ?_
  refine f_callI_R F (stk := [.int (iI (scI xs (i + 3))), .int (iI (scI xs (i + 2))), .int (iI (scI xs (i + 1))), .ref (ma 100), .int r1]) (st := [.int r1]) (k_X6_behind κ ma M (scI xs (i + 1)) (scI xs (i + 2)) (scI xs (i + 3)) (scI_in _ _) (scI_in _ _) (scI_in _ _) (rel_okM h) (rel_yM h)) cal_X6_behind lm_L_61 0 rfl rfl rfl rfl (by decide) rfl (Nat.le_of_ble_eq_true rfl) dL_law_567 (fun r2 u2 hr2 => ?_)
  obtain ⟨e, X2, M2, e1, e2, hT⟩ := opl_q h (by rw [rel_cl0 h]) hr1 hr2
  subst e e1 e2
  exact g_icmp_same F 1392 dL_law_570 (by decide) (K X2 M2 hT)
theorem lc_all {E : gE} {κ : Kp} {xa : Nat → Nat → Nat} {ma : Nat → Nat} {X : XS} {M : MS} {b L : Nat} {xs : Nat → Int32} {i : Int} (F : Fx E κ cL_law "PatchesSameAgeLaw" 4 9) (hX : ScrX E b L xs) (hL : L ≤ 2560) (hi : 0 ≤ i ∧ i + 5 ≤ (L : Int)) (h : relT X M) (K : ∀ (X2 : XS) (M2 : MS), relT X2 M2 → G E (xw κ xa X2 ++ mw κ ma M2) [(3, .int (iI i)), (2, .ref (ma 100)), (1, .ref (xa 18 100)), (0, .ref b)] 1392 []) : G E (xw κ xa X ++ mw κ ma M) [(3, .int (iI i)), (2, .ref (ma 100)), (1, .ref (xa 18 100)), (0, .ref b)] 575 [] := by
  have hL2 : L ≤ 2147483647 := by omega
  refine g_aload_n F 2 dL_law_575 rfl ?_
  refine g_aload_n F 3 dL_law_576 rfl ?_
  refine g_iload_n F 0 dL_law_577 rfl ?_
  refine g_iconst F dL_law_578 ?_
  refine g_iadd F dL_law_579 ?_
  refine g_sld F hX hL2 (by omega) dL_law_580 ?_
  refine g_aload_n F 3 dL_law_581 rfl ?_
  refine g_iload_n F 0 dL_law_582 rfl ?_
  refine g_iconst F dL_law_583 ?_
  refine g_iadd F dL_law_584 ?_
  refine g_sld F hX hL2 (by omega) dL_law_585 ?_
  refine f_callI_L F (stk := [.int (iI (scI xs (i + 2))), .int (iI (scI xs (i + 1))), .ref (xa 18 100)]) (st := []) (k_X5_all κ xa X (scI xs (i + 1)) (scI xs (i + 2)) (scI_in _ _) (scI_in _ _) (rel_okX h) (rel_yX h)) cal_X5_all lm_L_62 81 rfl rfl rfl rfl (by decide) rfl (Nat.le_of_ble_eq_true rfl) dL_law_586 (fun r1 u1 hr1 => ?_)
  refine g_aload_n F 1 dL_law_589 rfl ?_
  refine g_aload_n F 3 dL_law_590 rfl ?_
  refine g_iload_n F 0 dL_law_591 rfl ?_
  refine g_iconst F dL_law_592 ?_
  refine g_iadd F dL_law_593 ?_
  refine g_sld F hX hL2 (by omega) dL_law_594 ?_
  refine g_aload_n F 3 dL_law_595 rfl ?_
  refine g_iload_n F 0 dL_law_596 rfl ?_
  refine g_iconst F dL_law_597 ?_
  refine g_iadd F dL_law_598 ?_
  refine g_sld F hX hL2 (by omega) dL_law_599 ?_
  refine f_callI_R F (stk := [.int (iI (scI xs (i + 2))), .int (iI (scI xs (i + 1))), .ref (ma 100), .int r1]) (st := [.int r1]) (k_X6_all κ ma M (scI xs (i + 1)) (scI xs (i + 2)) (scI_in _ _) (scI_in _ _) (rel_okM h) (rel_yM h)) cal_X6_all lm_L_65 0 rfl rfl rfl rfl (by decide) rfl (Nat.le_of_ble_eq_true rfl) dL_law_600 (fun r2 u2 hr2 => ?_)
  obtain ⟨e, X2, M2, e1, e2, hT⟩ := opl_q h (by rw [rel_cl0 h]) hr1 hr2
  subst e e1 e2
  exact g_icmp_same F 1392 dL_law_603 (by decide) (K X2 M2 hT)
theorem lc_holes {E : gE} {κ : Kp} {xa : Nat → Nat → Nat} {ma : Nat → Nat} {X : XS} {M : MS} {b L : Nat} {xs : Nat → Int32} {i : Int} (F : Fx E κ cL_law "PatchesSameAgeLaw" 4 9) (hX : ScrX E b L xs) (hL : L ≤ 2560) (hi : 0 ≤ i ∧ i + 5 ≤ (L : Int)) (h : relT X M) (K : ∀ (X2 : XS) (M2 : MS), relT X2 M2 → G E (xw κ xa X2 ++ mw κ ma M2) [(3, .int (iI i)), (2, .ref (ma 100)), (1, .ref (xa 18 100)), (0, .ref b)] 1392 []) : G E (xw κ xa X ++ mw κ ma M) [(3, .int (iI i)), (2, .ref (ma 100)), (1, .ref (xa 18 100)), (0, .ref b)] 608 [] := by
  have hL2 : L ≤ 2147483647 := by omega
  refine g_aload_n F 2 dL_law_608 rfl ?_
  refine g_aload_n F 3 dL_law_609 rfl ?_
  refine g_iload_n F 0 dL_law_610 rfl ?_
  refine g_iconst F dL_law_611 ?_
  refine g_iadd F dL_law_612 ?_
  refine g_sld F hX hL2 (by omega) dL_law_613 ?_
  refine f_callI_L F (stk := [.int (iI (scI xs (i + 1))), .ref (xa 18 100)]) (st := []) (k_X5_holes κ xa X (scI xs (i + 1)) (scI_in _ _) (rel_okX h) (rel_yX h)) cal_X5_holes lm_L_66 81 rfl rfl rfl rfl (by decide) rfl (Nat.le_of_ble_eq_true rfl) dL_law_614 (fun r1 u1 hr1 => ?_)
  refine g_aload_n F 1 dL_law_617 rfl ?_
  refine g_aload_n F 3 dL_law_618 rfl ?_
  refine g_iload_n F 0 dL_law_619 rfl ?_
  refine g_iconst F dL_law_620 ?_
  refine g_iadd F dL_law_621 ?_
  refine g_sld F hX hL2 (by omega) dL_law_622 ?_
  refine f_callI_R F (stk := [.int (iI (scI xs (i + 1))), .ref (ma 100), .int r1]) (st := [.int r1]) (k_X6_holes κ ma M (scI xs (i + 1)) (scI_in _ _) (rel_okM h) (rel_yM h)) cal_X6_holes lm_L_69 0 rfl rfl rfl rfl (by decide) rfl (Nat.le_of_ble_eq_true rfl) dL_law_623 (fun r2 u2 hr2 => ?_)
  obtain ⟨e, X2, M2, e1, e2, hT⟩ := opl_q h (by rw [rel_cl0 h]) hr1 hr2
  subst e e1 e2
  exact g_icmp_same F 1392 dL_law_626 (by decide) (K X2 M2 hT)
theorem lc_lasts {E : gE} {κ : Kp} {xa : Nat → Nat → Nat} {ma : Nat → Nat} {X : XS} {M : MS} {b L : Nat} {xs : Nat → Int32} {i : Int} (F : Fx E κ cL_law "PatchesSameAgeLaw" 4 9) (hX : ScrX E b L xs) (hL : L ≤ 2560) (hi : 0 ≤ i ∧ i + 5 ≤ (L : Int)) (h : relT X M) (K : ∀ (X2 : XS) (M2 : MS), relT X2 M2 → G E (xw κ xa X2 ++ mw κ ma M2) [(3, .int (iI i)), (2, .ref (ma 100)), (1, .ref (xa 18 100)), (0, .ref b)] 1392 []) : G E (xw κ xa X ++ mw κ ma M) [(3, .int (iI i)), (2, .ref (ma 100)), (1, .ref (xa 18 100)), (0, .ref b)] 631 [] := by
  have hL2 : L ≤ 2147483647 := by omega
  refine g_aload_n F 2 dL_law_631 rfl ?_
  refine g_aload_n F 3 dL_law_632 rfl ?_
  refine g_iload_n F 0 dL_law_633 rfl ?_
  refine g_iconst F dL_law_634 ?_
  refine g_iadd F dL_law_635 ?_
  refine g_sld F hX hL2 (by omega) dL_law_636 ?_
  refine f_callI_L F (stk := [.int (iI (scI xs (i + 1))), .ref (xa 18 100)]) (st := []) (k_X5_lasts κ xa X (scI xs (i + 1)) (scI_in _ _) (rel_okX h) (rel_yX h)) cal_X5_lasts lm_L_70 81 rfl rfl rfl rfl (by decide) rfl (Nat.le_of_ble_eq_true rfl) dL_law_637 (fun r1 u1 hr1 => ?_)
  refine g_aload_n F 1 dL_law_640 rfl ?_
  refine g_aload_n F 3 dL_law_641 rfl ?_
  refine g_iload_n F 0 dL_law_642 rfl ?_
  refine g_iconst F dL_law_643 ?_
  refine g_iadd F dL_law_644 ?_
  refine g_sld F hX hL2 (by omega) dL_law_645 ?_
  refine f_callI_R F (stk := [.int (iI (scI xs (i + 1))), .ref (ma 100), .int r1]) (st := [.int r1]) (k_X6_lasts κ ma M (scI xs (i + 1)) (scI_in _ _) (rel_okM h) (rel_yM h)) cal_X6_lasts lm_L_73 0 rfl rfl rfl rfl (by decide) rfl (Nat.le_of_ble_eq_true rfl) dL_law_646 (fun r2 u2 hr2 => ?_)
  obtain ⟨e, X2, M2, e1, e2, hT⟩ := opl_q h (by rw [rel_cl0 h]) hr1 hr2
  subst e e1 e2
  exact g_icmp_same F 1392 dL_law_649 (by decide) (K X2 M2 hT)
theorem lc_fits {E : gE} {κ : Kp} {xa : Nat → Nat → Nat} {ma : Nat → Nat} {X : XS} {M : MS} {b L : Nat} {xs : Nat → Int32} {i : Int} (F : Fx E κ cL_law "PatchesSameAgeLaw" 4 9) (hX : ScrX E b L xs) (hL : L ≤ 2560) (hi : 0 ≤ i ∧ i + 5 ≤ (L : Int)) (h : relT X M) (K : ∀ (X2 : XS) (M2 : MS), relT X2 M2 → G E (xw κ xa X2 ++ mw κ ma M2) [(3, .int (iI i)), (2, .ref (ma 100)), (1, .ref (xa 18 100)), (0, .ref b)] 1392 []) : G E (xw κ xa X ++ mw κ ma M) [(3, .int (iI i)), (2, .ref (ma 100)), (1, .ref (xa 18 100)), (0, .ref b)] 654 [] := by
  have hL2 : L ≤ 2147483647 := by omega
  refine g_aload_n F 2 dL_law_654 rfl ?_
  refine g_aload_n F 3 dL_law_655 rfl ?_
  refine g_iload_n F 0 dL_law_656 rfl ?_
  refine g_iconst F dL_law_657 ?_
  refine g_iadd F dL_law_658 ?_
  refine g_sld F hX hL2 (by omega) dL_law_659 ?_
  refine g_aload_n F 3 dL_law_660 rfl ?_
  refine g_iload_n F 0 dL_law_661 rfl ?_
  refine g_iconst F dL_law_662 ?_
  refine g_iadd F dL_law_663 ?_
  refine g_sld F hX hL2 (by omega) dL_law_664 ?_
  refine f_callI_L F (stk := [.int (iI (scI xs (i + 2))), .int (iI (scI xs (i + 1))), .ref (xa 18 100)]) (st := []) (k_X5_fits κ xa X (scI xs (i + 1)) (scI xs (i + 2)) (scI_in _ _) (scI_in _ _) (rel_okX h) (rel_yX h) (rel_rX h)) cal_X5_fits lm_L_74 81 rfl rfl rfl rfl (by decide) rfl (Nat.le_of_ble_eq_true rfl) dL_law_665 (fun r1 u1 hr1 => ?_)
  refine g_aload_n F 1 dL_law_668 rfl ?_
  refine g_aload_n F 3 dL_law_669 rfl ?_
  refine g_iload_n F 0 dL_law_670 rfl ?_
  refine g_iconst F dL_law_671 ?_
  refine g_iadd F dL_law_672 ?_
  refine g_sld F hX hL2 (by omega) dL_law_673 ?_
  refine g_aload_n F 3 dL_law_674 rfl ?_
  refine g_iload_n F 0 dL_law_675 rfl ?_
  refine g_iconst F dL_law_676 ?_
  refine g_iadd F dL_law_677 ?_
  refine g_sld F hX hL2 (by omega) dL_law_678 ?_
  refine f_callI_R F (stk := [.int (iI (scI xs (i + 2))), .int (iI (scI xs (i + 1))), .ref (ma 100), .int r1]) (st := [.int r1]) (k_X6_fits κ ma M (scI xs (i + 1)) (scI xs (i + 2)) (scI_in _ _) (scI_in _ _) (rel_okM h) (rel_yM h) (rel_rM h)) cal_X6_fits lm_L_77 0 rfl rfl rfl rfl (by decide) rfl (Nat.le_of_ble_eq_true rfl) dL_law_679 (fun r2 u2 hr2 => ?_)
  obtain ⟨e, X2, M2, e1, e2, hT⟩ := opl_q h (by rw [rel_cl0 h, rel_p9 h, rel_p6 h, rel_p7 h, rel_p8 h, rel_p5 h]) hr1 hr2
  subst e e1 e2
  exact g_icmp_same F 1392 dL_law_682 (by decide) (K X2 M2 hT)
theorem lc_bestPiece {E : gE} {κ : Kp} {xa : Nat → Nat → Nat} {ma : Nat → Nat} {X : XS} {M : MS} {b L : Nat} {xs : Nat → Int32} {i : Int} (F : Fx E κ cL_law "PatchesSameAgeLaw" 4 9) (hX : ScrX E b L xs) (hL : L ≤ 2560) (hi : 0 ≤ i ∧ i + 5 ≤ (L : Int)) (h : relT X M) (K : ∀ (X2 : XS) (M2 : MS), relT X2 M2 → G E (xw κ xa X2 ++ mw κ ma M2) [(3, .int (iI i)), (2, .ref (ma 100)), (1, .ref (xa 18 100)), (0, .ref b)] 1392 []) : G E (xw κ xa X ++ mw κ ma M) [(3, .int (iI i)), (2, .ref (ma 100)), (1, .ref (xa 18 100)), (0, .ref b)] 687 [] := by
  have hL2 : L ≤ 2147483647 := by omega
  refine g_aload_n F 2 dL_law_687 rfl ?_
  refine g_aload_n F 3 dL_law_688 rfl ?_
  refine g_iload_n F 0 dL_law_689 rfl ?_
  refine g_iconst F dL_law_690 ?_
  refine g_iadd F dL_law_691 ?_
  refine g_sld F hX hL2 (by omega) dL_law_692 ?_
  refine f_callI_L F (stk := [.int (iI (scI xs (i + 1))), .ref (xa 18 100)]) (st := []) (k_X5_bestPiece κ xa X (scI xs (i + 1)) (scI_in _ _) (rel_okX h) (rel_yX h) (rel_rX h)) cal_X5_bestPiece lm_L_78 81 rfl rfl rfl rfl (by decide) rfl (Nat.le_of_ble_eq_true rfl) dL_law_693 (fun r1 u1 hr1 => ?_)
  refine g_aload_n F 1 dL_law_696 rfl ?_
  refine g_aload_n F 3 dL_law_697 rfl ?_
  refine g_iload_n F 0 dL_law_698 rfl ?_
  refine g_iconst F dL_law_699 ?_
  refine g_iadd F dL_law_700 ?_
  refine g_sld F hX hL2 (by omega) dL_law_701 ?_
  refine f_callI_R F (stk := [.int (iI (scI xs (i + 1))), .ref (ma 100), .int r1]) (st := [.int r1]) (k_X6_bestPiece κ ma M (scI xs (i + 1)) (scI_in _ _) (rel_okM h) (rel_yM h) (rel_rM h)) cal_X6_bestPiece lm_L_81 0 rfl rfl rfl rfl (by decide) rfl (Nat.le_of_ble_eq_true rfl) dL_law_702 (fun r2 u2 hr2 => ?_)
  obtain ⟨e, X2, M2, e1, e2, hT⟩ := opl_q h (by rw [rel_cl0 h, rel_p9 h, rel_p6 h, rel_p7 h, rel_p8 h, rel_p5 h]) hr1 hr2
  subst e e1 e2
  exact g_icmp_same F 1392 dL_law_705 (by decide) (K X2 M2 hT)
theorem lc_mend {E : gE} {κ : Kp} {xa : Nat → Nat → Nat} {ma : Nat → Nat} {X : XS} {M : MS} {b L : Nat} {xs : Nat → Int32} {i : Int} (F : Fx E κ cL_law "PatchesSameAgeLaw" 4 9) (hX : ScrX E b L xs) (hL : L ≤ 2560) (hi : 0 ≤ i ∧ i + 5 ≤ (L : Int)) (h : relT X M) (K : ∀ (X2 : XS) (M2 : MS), relT X2 M2 → G E (xw κ xa X2 ++ mw κ ma M2) [(3, .int (iI i)), (2, .ref (ma 100)), (1, .ref (xa 18 100)), (0, .ref b)] 1392 []) : G E (xw κ xa X ++ mw κ ma M) [(3, .int (iI i)), (2, .ref (ma 100)), (1, .ref (xa 18 100)), (0, .ref b)] 710 [] := by
  have hL2 : L ≤ 2147483647 := by omega
  refine g_aload_n F 2 dL_law_710 rfl ?_
  refine f_callI_L F (stk := [.ref (xa 18 100)]) (st := []) (k_X5_mend κ xa X (rel_okX h) (rel_rX h)) cal_X5_mend lm_L_82 81 rfl rfl rfl rfl (by decide) rfl (Nat.le_of_ble_eq_true rfl) dL_law_711 (fun r1 u1 hr1 => ?_)
  refine g_aload_n F 1 dL_law_714 rfl ?_
  refine f_callI_R F (stk := [.ref (ma 100), .int r1]) (st := [.int r1]) (k_X6_mend κ ma M (rel_okM h) (rel_rM h)) cal_X6_mend lm_L_85 0 rfl rfl rfl rfl (by decide) rfl (Nat.le_of_ble_eq_true rfl) dL_law_715 (fun r2 u2 hr2 => ?_)
  obtain ⟨e, X2, M2, e1, e2, hT⟩ := opl_q h (by rw [rel_cl0 h, rel_p9 h, rel_p5 h]; exact (mend_eq _ (rel_nnM h) ⟨pcnt_bd _, pcnt_le (hbits_in _).1 (hbits_in _).2⟩).symm) hr1 hr2
  subst e e1 e2
  exact g_icmp_same F 1392 dL_law_718 (by decide) (K X2 M2 hT)
theorem lc_keep {E : gE} {κ : Kp} {xa : Nat → Nat → Nat} {ma : Nat → Nat} {X : XS} {M : MS} {b L : Nat} {xs : Nat → Int32} {i : Int} (F : Fx E κ cL_law "PatchesSameAgeLaw" 4 9) (hX : ScrX E b L xs) (hL : L ≤ 2560) (hi : 0 ≤ i ∧ i + 5 ≤ (L : Int)) (h : relT X M) (K : ∀ (X2 : XS) (M2 : MS), relT X2 M2 → G E (xw κ xa X2 ++ mw κ ma M2) [(3, .int (iI i)), (2, .ref (ma 100)), (1, .ref (xa 18 100)), (0, .ref b)] 1392 []) : G E (xw κ xa X ++ mw κ ma M) [(3, .int (iI i)), (2, .ref (ma 100)), (1, .ref (xa 18 100)), (0, .ref b)] 723 [] := by
  have hL2 : L ≤ 2147483647 := by omega
  refine g_aload_n F 2 dL_law_723 rfl ?_
  refine f_callI_L F (stk := [.ref (xa 18 100)]) (st := []) (k_X5_keep κ xa X (rel_okX h) (rel_yX h) (rel_rX h)) cal_X5_keep lm_L_86 81 rfl rfl rfl rfl (by decide) rfl (Nat.le_of_ble_eq_true rfl) dL_law_724 (fun r1 u1 hr1 => ?_)
  refine g_aload_n F 1 dL_law_727 rfl ?_
  refine f_callI_R F (stk := [.ref (ma 100), .int r1]) (st := [.int r1]) (k_X6_keep κ ma M (rel_okM h) (rel_yM h) (rel_rM h)) cal_X6_keep lm_L_89 0 rfl rfl rfl rfl (by decide) rfl (Nat.le_of_ble_eq_true rfl) dL_law_728 (fun r2 u2 hr2 => ?_)
  obtain ⟨e, X2, M2, e1, e2, hT⟩ := opl_q h (by rw [rel_cl0 h, rel_p9 h, rel_p6 h, rel_p7 h, rel_p8 h, rel_p5 h]) hr1 hr2
  subst e e1 e2
  exact g_icmp_same F 1392 dL_law_731 (by decide) (K X2 M2 hT)
theorem lc_placed {E : gE} {κ : Kp} {xa : Nat → Nat → Nat} {ma : Nat → Nat} {X : XS} {M : MS} {b L : Nat} {xs : Nat → Int32} {i : Int} (F : Fx E κ cL_law "PatchesSameAgeLaw" 4 9) (hX : ScrX E b L xs) (hL : L ≤ 2560) (hi : 0 ≤ i ∧ i + 5 ≤ (L : Int)) (h : relT X M) (K : ∀ (X2 : XS) (M2 : MS), relT X2 M2 → G E (xw κ xa X2 ++ mw κ ma M2) [(3, .int (iI i)), (2, .ref (ma 100)), (1, .ref (xa 18 100)), (0, .ref b)] 1392 []) : G E (xw κ xa X ++ mw κ ma M) [(3, .int (iI i)), (2, .ref (ma 100)), (1, .ref (xa 18 100)), (0, .ref b)] 736 [] := by
  have hL2 : L ≤ 2147483647 := by omega
  refine g_aload_n F 2 dL_law_736 rfl ?_
  refine g_aload_n F 3 dL_law_737 rfl ?_
  refine g_iload_n F 0 dL_law_738 rfl ?_
  refine g_iconst F dL_law_739 ?_
  refine g_iadd F dL_law_740 ?_
  refine g_sld F hX hL2 (by omega) dL_law_741 ?_
  refine f_callI_L F (stk := [.int (iI (scI xs (i + 1))), .ref (xa 18 100)]) (st := []) (k_X5_placed κ xa X (scI xs (i + 1)) (scI_in _ _) (rel_okX h) (rel_yX h) (rel_rX h) (rel_bX h)) cal_X5_placed lm_L_90 81 rfl rfl rfl rfl (by decide) rfl (Nat.le_of_ble_eq_true rfl) dL_law_742 (fun r1 u1 hr1 => ?_)
  refine g_aload_n F 1 dL_law_745 rfl ?_
  refine g_aload_n F 3 dL_law_746 rfl ?_
  refine g_iload_n F 0 dL_law_747 rfl ?_
  refine g_iconst F dL_law_748 ?_
  refine g_iadd F dL_law_749 ?_
  refine g_sld F hX hL2 (by omega) dL_law_750 ?_
  refine f_callI_R F (stk := [.int (iI (scI xs (i + 1))), .ref (ma 100), .int r1]) (st := [.int r1]) (k_X6_placed κ ma M (scI xs (i + 1)) (scI_in _ _) (rel_okM h) (rel_yM h) (rel_rM h)) cal_X6_placed lm_L_93 0 rfl rfl rfl rfl (by decide) rfl (Nat.le_of_ble_eq_true rfl) dL_law_751 (fun r2 u2 hr2 => ?_)
  obtain ⟨e, X2, M2, e1, e2, hT⟩ := opl_q h (by rw [rel_cl0 h, rel_p9 h, rel_p6 h, rel_p7 h, rel_p8 h, rel_p5 h]) hr1 hr2
  subst e e1 e2
  exact g_icmp_same F 1392 dL_law_754 (by decide) (K X2 M2 hT)
theorem lc_when {E : gE} {κ : Kp} {xa : Nat → Nat → Nat} {ma : Nat → Nat} {X : XS} {M : MS} {b L : Nat} {xs : Nat → Int32} {i : Int} (F : Fx E κ cL_law "PatchesSameAgeLaw" 4 9) (hX : ScrX E b L xs) (hL : L ≤ 2560) (hi : 0 ≤ i ∧ i + 5 ≤ (L : Int)) (h : relT X M) (K : ∀ (X2 : XS) (M2 : MS), relT X2 M2 → G E (xw κ xa X2 ++ mw κ ma M2) [(3, .int (iI i)), (2, .ref (ma 100)), (1, .ref (xa 18 100)), (0, .ref b)] 1392 []) : G E (xw κ xa X ++ mw κ ma M) [(3, .int (iI i)), (2, .ref (ma 100)), (1, .ref (xa 18 100)), (0, .ref b)] 759 [] := by
  have hL2 : L ≤ 2147483647 := by omega
  refine g_aload_n F 2 dL_law_759 rfl ?_
  refine g_aload_n F 3 dL_law_760 rfl ?_
  refine g_iload_n F 0 dL_law_761 rfl ?_
  refine g_iconst F dL_law_762 ?_
  refine g_iadd F dL_law_763 ?_
  refine g_sld F hX hL2 (by omega) dL_law_764 ?_
  refine g_aload_n F 3 dL_law_765 rfl ?_
  refine g_iload_n F 0 dL_law_766 rfl ?_
  refine g_iconst F dL_law_767 ?_
  refine g_iadd F dL_law_768 ?_
  refine g_sld F hX hL2 (by omega) dL_law_769 ?_
  refine f_callI_L F (stk := [.int (iI (scI xs (i + 2))), .int (iI (scI xs (i + 1))), .ref (xa 18 100)]) (st := []) (k_X5_when κ xa X (scI xs (i + 1)) (scI xs (i + 2)) (scI_in _ _) (scI_in _ _) (rel_okX h) (rel_yX h) (rel_rX h)) cal_X5_when lm_L_94 81 rfl rfl rfl rfl (by decide) rfl (Nat.le_of_ble_eq_true rfl) dL_law_770 (fun r1 u1 hr1 => ?_)
  refine g_aload_n F 1 dL_law_773 rfl ?_
  refine g_aload_n F 3 dL_law_774 rfl ?_
  refine g_iload_n F 0 dL_law_775 rfl ?_
  refine g_iconst F dL_law_776 ?_
  refine g_iadd F dL_law_777 ?_
  refine g_sld F hX hL2 (by omega) dL_law_778 ?_
  refine g_aload_n F 3 dL_law_779 rfl ?_
  refine g_iload_n F 0 dL_law_780 rfl ?_
  refine g_iconst F dL_law_781 ?_
  refine g_iadd F dL_law_782 ?_
  refine g_sld F hX hL2 (by omega) dL_law_783 ?_
  refine f_callI_R F (stk := [.int (iI (scI xs (i + 2))), .int (iI (scI xs (i + 1))), .ref (ma 100), .int r1]) (st := [.int r1]) (k_X6_when κ ma M (scI xs (i + 1)) (scI xs (i + 2)) (scI_in _ _) (scI_in _ _) (rel_okM h) (rel_yM h) (rel_rM h)) cal_X6_when lm_L_97 0 rfl rfl rfl rfl (by decide) rfl (Nat.le_of_ble_eq_true rfl) dL_law_784 (fun r2 u2 hr2 => ?_)
  obtain ⟨e, X2, M2, e1, e2, hT⟩ := opl_q h (by rw [rel_cl0 h, rel_p9 h, rel_p6 h, rel_p7 h, rel_p8 h, rel_p5 h]) hr1 hr2
  subst e e1 e2
  exact g_icmp_same F 1392 dL_law_787 (by decide) (K X2 M2 hT)
theorem lc_turns {E : gE} {κ : Kp} {xa : Nat → Nat → Nat} {ma : Nat → Nat} {X : XS} {M : MS} {b L : Nat} {xs : Nat → Int32} {i : Int} (F : Fx E κ cL_law "PatchesSameAgeLaw" 4 9) (hX : ScrX E b L xs) (hL : L ≤ 2560) (hi : 0 ≤ i ∧ i + 5 ≤ (L : Int)) (h : relT X M) (K : ∀ (X2 : XS) (M2 : MS), relT X2 M2 → G E (xw κ xa X2 ++ mw κ ma M2) [(3, .int (iI i)), (2, .ref (ma 100)), (1, .ref (xa 18 100)), (0, .ref b)] 1392 []) : G E (xw κ xa X ++ mw κ ma M) [(3, .int (iI i)), (2, .ref (ma 100)), (1, .ref (xa 18 100)), (0, .ref b)] 792 [] := by
  have hL2 : L ≤ 2147483647 := by omega
  refine g_aload_n F 2 dL_law_792 rfl ?_
  refine g_aload_n F 3 dL_law_793 rfl ?_
  refine g_iload_n F 0 dL_law_794 rfl ?_
  refine g_iconst F dL_law_795 ?_
  refine g_iadd F dL_law_796 ?_
  refine g_sld F hX hL2 (by omega) dL_law_797 ?_
  refine f_callI_L F (stk := [.int (iI (scI xs (i + 1))), .ref (xa 18 100)]) (st := []) (k_X5_turns κ xa X (scI xs (i + 1)) (scI_in _ _) (rel_okX h) (rel_yX h) (rel_rX h) (rel_bX h)) cal_X5_turns lm_L_98 81 rfl rfl rfl rfl (by decide) rfl (Nat.le_of_ble_eq_true rfl) dL_law_798 (fun r1 u1 hr1 => ?_)
  refine g_aload_n F 1 dL_law_801 rfl ?_
  refine g_aload_n F 3 dL_law_802 rfl ?_
  refine g_iload_n F 0 dL_law_803 rfl ?_
  refine g_iconst F dL_law_804 ?_
  refine g_iadd F dL_law_805 ?_
  refine g_sld F hX hL2 (by omega) dL_law_806 ?_
  refine f_callI_R F (stk := [.int (iI (scI xs (i + 1))), .ref (ma 100), .int r1]) (st := [.int r1]) (k_X6_turns κ ma M (scI xs (i + 1)) (scI_in _ _) (rel_okM h) (rel_yM h) (rel_rM h)) cal_X6_turns lm_L_101 0 rfl rfl rfl rfl (by decide) rfl (Nat.le_of_ble_eq_true rfl) dL_law_807 (fun r2 u2 hr2 => ?_)
  obtain ⟨e, X2, M2, e1, e2, hT⟩ := opl_q h (by rw [rel_cl0 h, rel_p9 h, rel_p6 h, rel_p7 h, rel_p8 h, rel_p5 h]) hr1 hr2
  subst e e1 e2
  exact g_icmp_same F 1392 dL_law_810 (by decide) (K X2 M2 hT)
theorem lc_whose {E : gE} {κ : Kp} {xa : Nat → Nat → Nat} {ma : Nat → Nat} {X : XS} {M : MS} {b L : Nat} {xs : Nat → Int32} {i : Int} (F : Fx E κ cL_law "PatchesSameAgeLaw" 4 9) (hX : ScrX E b L xs) (hL : L ≤ 2560) (hi : 0 ≤ i ∧ i + 5 ≤ (L : Int)) (h : relT X M) (K : ∀ (X2 : XS) (M2 : MS), relT X2 M2 → G E (xw κ xa X2 ++ mw κ ma M2) [(3, .int (iI i)), (2, .ref (ma 100)), (1, .ref (xa 18 100)), (0, .ref b)] 1392 []) : G E (xw κ xa X ++ mw κ ma M) [(3, .int (iI i)), (2, .ref (ma 100)), (1, .ref (xa 18 100)), (0, .ref b)] 815 [] := by
  have hL2 : L ≤ 2147483647 := by omega
  refine g_aload_n F 2 dL_law_815 rfl ?_
  refine g_aload_n F 3 dL_law_816 rfl ?_
  refine g_iload_n F 0 dL_law_817 rfl ?_
  refine g_iconst F dL_law_818 ?_
  refine g_iadd F dL_law_819 ?_
  refine g_sld F hX hL2 (by omega) dL_law_820 ?_
  refine g_aload_n F 3 dL_law_821 rfl ?_
  refine g_iload_n F 0 dL_law_822 rfl ?_
  refine g_iconst F dL_law_823 ?_
  refine g_iadd F dL_law_824 ?_
  refine g_sld F hX hL2 (by omega) dL_law_825 ?_
  refine f_callI_L F (stk := [.int (iI (scI xs (i + 2))), .int (iI (scI xs (i + 1))), .ref (xa 18 100)]) (st := []) (k_X5_whose κ xa X (scI xs (i + 1)) (scI xs (i + 2)) (scI_in _ _) (scI_in _ _) (rel_okX h) (rel_yX h) ⟨rel_nX h, fun j j0 j1 => rel_roX h j j0 (by have := rel_nX h; omega)⟩) cal_X5_whose lm_L_102 81 rfl rfl rfl rfl (by decide) rfl (Nat.le_of_ble_eq_true rfl) dL_law_826 (fun r1 u1 hr1 => ?_)
  refine g_aload_n F 1 dL_law_829 rfl ?_
  refine g_aload_n F 3 dL_law_830 rfl ?_
  refine g_iload_n F 0 dL_law_831 rfl ?_
  refine g_iconst F dL_law_832 ?_
  refine g_iadd F dL_law_833 ?_
  refine g_sld F hX hL2 (by omega) dL_law_834 ?_
  refine g_aload_n F 3 dL_law_835 rfl ?_
  refine g_iload_n F 0 dL_law_836 rfl ?_
  refine g_iconst F dL_law_837 ?_
  refine g_iadd F dL_law_838 ?_
  refine g_sld F hX hL2 (by omega) dL_law_839 ?_
  refine f_callI_R F (stk := [.int (iI (scI xs (i + 2))), .int (iI (scI xs (i + 1))), .ref (ma 100), .int r1]) (st := [.int r1]) (k_X6_whose κ ma M (scI xs (i + 1)) (scI xs (i + 2)) (scI_in _ _) (scI_in _ _) (rel_okM h) (rel_yM h) (rel_nM h) (rel_roM h)) cal_X6_whose lm_L_105 0 rfl rfl rfl rfl (by decide) rfl (Nat.le_of_ble_eq_true rfl) dL_law_840 (fun r2 u2 hr2 => ?_)
  obtain ⟨e, X2, M2, e1, e2, hT⟩ := opl_q h (by rw [rel_cl0 h, h.1.2.2.2.1.1, h.1.2.2.2.1.2.1]) hr1 hr2
  subst e e1 e2
  exact g_icmp_same F 1392 dL_law_843 (by decide) (K X2 M2 hT)
theorem lc_islands {E : gE} {κ : Kp} {xa : Nat → Nat → Nat} {ma : Nat → Nat} {X : XS} {M : MS} {b L : Nat} {xs : Nat → Int32} {i : Int} (F : Fx E κ cL_law "PatchesSameAgeLaw" 4 9) (hX : ScrX E b L xs) (hL : L ≤ 2560) (hi : 0 ≤ i ∧ i + 5 ≤ (L : Int)) (h : relT X M) (K : ∀ (X2 : XS) (M2 : MS), relT X2 M2 → G E (xw κ xa X2 ++ mw κ ma M2) [(3, .int (iI i)), (2, .ref (ma 100)), (1, .ref (xa 18 100)), (0, .ref b)] 1392 []) : G E (xw κ xa X ++ mw κ ma M) [(3, .int (iI i)), (2, .ref (ma 100)), (1, .ref (xa 18 100)), (0, .ref b)] 848 [] := by
  have hL2 : L ≤ 2147483647 := by omega
  refine g_aload_n F 2 dL_law_848 rfl ?_
  refine g_aload_n F 3 dL_law_849 rfl ?_
  refine g_iload_n F 0 dL_law_850 rfl ?_
  refine g_iconst F dL_law_851 ?_
  refine g_iadd F dL_law_852 ?_
  refine g_sld F hX hL2 (by omega) dL_law_853 ?_
  refine g_aload_n F 3 dL_law_854 rfl ?_
  refine g_iload_n F 0 dL_law_855 rfl ?_
  refine g_iconst F dL_law_856 ?_
  refine g_iadd F dL_law_857 ?_
  refine g_sld F hX hL2 (by omega) dL_law_858 ?_
  refine f_callI_L F (stk := [.int (iI (scI xs (i + 2))), .int (iI (scI xs (i + 1))), .ref (xa 18 100)]) (st := []) (k_X5_islands κ xa X (scI xs (i + 1)) (scI xs (i + 2)) (scI_in _ _) (scI_in _ _) (rel_okX h)) cal_X5_islands lm_L_106 81 rfl rfl rfl rfl (by decide) rfl (Nat.le_of_ble_eq_true rfl) dL_law_859 (fun r1 u1 hr1 => ?_)
  refine g_aload_n F 1 dL_law_862 rfl ?_
  refine g_aload_n F 3 dL_law_863 rfl ?_
  refine g_iload_n F 0 dL_law_864 rfl ?_
  refine g_iconst F dL_law_865 ?_
  refine g_iadd F dL_law_866 ?_
  refine g_sld F hX hL2 (by omega) dL_law_867 ?_
  refine g_aload_n F 3 dL_law_868 rfl ?_
  refine g_iload_n F 0 dL_law_869 rfl ?_
  refine g_iconst F dL_law_870 ?_
  refine g_iadd F dL_law_871 ?_
  refine g_sld F hX hL2 (by omega) dL_law_872 ?_
  refine f_callI_R F (stk := [.int (iI (scI xs (i + 2))), .int (iI (scI xs (i + 1))), .ref (ma 100), .int r1]) (st := [.int r1]) (k_X6_islands κ ma M (scI xs (i + 1)) (scI xs (i + 2)) (scI_in _ _) (scI_in _ _) (rel_okM h)) cal_X6_islands lm_L_109 0 rfl rfl rfl rfl (by decide) rfl (Nat.le_of_ble_eq_true rfl) dL_law_873 (fun r2 u2 hr2 => ?_)
  obtain ⟨e, X2, M2, e1, e2, hT⟩ := opl_q h (by rw [relU_a h.1]) hr1 hr2
  subst e e1 e2
  exact g_icmp_same F 1392 dL_law_876 (by decide) (K X2 M2 hT)
