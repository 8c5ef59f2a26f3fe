/-- what a case owes -/
def l_K (x : e_T) (k : Nat) (g : Nat → Int64) : Prop := ∀ (N D T : St) (im : Bool) (Z : Nat → Sh) (be : Nat → Int32) (M : MX), lwR N T im Z be M → e_E x 1734 (l_ls k) [] (lC N D T im Z be g N M)
set_option maxHeartbeats 1000000 in
theorem lw_string {x : e_T} {n : Nat} {w se sp hr lt hd sc : Int32} {so fi wo : Nat → Int32} {D T : St} {im : Bool} {Z : Nat → Sh} {be : Nat → Int32} {g : Nat → Int64} {I : Nat → Int32} {A : Nat → Nat → Int32} {B : Nat → Nat → Int64} {K : Value} {L k : Nat} {xs : Nat → Int32} (X : e_X x RL cL_law 18) (hSc : l_S x L xs) (hL : L ≤ 3072) (hk : 6 * k + 6 ≤ L) (hR : lwR (n, w, se, sp, hr, lt, hd, sc, so, fi, wo) T im Z be (I, A, B, K)) (kk : l_K x k g) : e_E x 220 (l_ls k) [] (lC (n, w, se, sp, hr, lt, hd, sc, so, fi, wo) D T im Z be g (n, w, se, sp, hr, lt, hd, sc, so, fi, wo) (I, A, B, K)) := by
  have hG := hR.1
  have hM := hR.2.1
  have hRS := hR.2.2.1
  have hZ := RS_ok hRS
  have h0 := hR.2.2.2.1
  refine ei_aload_n X dL_law_220 rfl rfl ?_
  refine l_arg 1 X hSc hL hk (by decide) (by decide +kernel) dL_law_221 dL_law_222 dL_law_224 dL_law_225 dL_law_226 rfl rfl ?_
  refine l_callF X ml_RL_21 dL_law_227 (ct_X9_string _ _ _ _ _ _ _ _ _ _ _ _ _ _ _ _ (xs (6 * k + 1)) hG hZ h0) rfl rfl (by decide) (by decide) (Nat.le_of_ble_eq_true rfl) (fun D2 be2 hb2 => ?_)
  refine ei_aload_n X dL_law_230 rfl rfl ?_
  refine l_arg 1 X hSc hL hk (by decide) (by decide +kernel) dL_law_231 dL_law_232 dL_law_234 dL_law_235 dL_law_236 rfl rfl ?_
  refine l_callMP X ml_RL_25 dL_law_237 (ct_X10_string _ _ _ _ _ _ _ _ _ _ _ _ _ _ _ _ (xs (6 * k + 1)) hG hM hRS) rfl rfl rfl rfl (by decide) (by decide) (Nat.le_of_ble_eq_true rfl) (fun M2 hk2 => ?_)
  refine l_eqI (tgt := 1734) X dL_law_240 (by decide) ?_
  exact kk _ _ _ _ _ _ _ (hR.k (gd_string hZ _ hG) hb2 hk2)
set_option maxHeartbeats 1000000 in
theorem lw_bulb {x : e_T} {n : Nat} {w se sp hr lt hd sc : Int32} {so fi wo : Nat → Int32} {D T : St} {im : Bool} {Z : Nat → Sh} {be : Nat → Int32} {g : Nat → Int64} {I : Nat → Int32} {A : Nat → Nat → Int32} {B : Nat → Nat → Int64} {K : Value} {L k : Nat} {xs : Nat → Int32} (X : e_X x RL cL_law 18) (hSc : l_S x L xs) (hL : L ≤ 3072) (hk : 6 * k + 6 ≤ L) (hR : lwR (n, w, se, sp, hr, lt, hd, sc, so, fi, wo) T im Z be (I, A, B, K)) (kk : l_K x k g) : e_E x 245 (l_ls k) [] (lC (n, w, se, sp, hr, lt, hd, sc, so, fi, wo) D T im Z be g (n, w, se, sp, hr, lt, hd, sc, so, fi, wo) (I, A, B, K)) := by
  have hG := hR.1
  have hM := hR.2.1
  have hRS := hR.2.2.1
  have hZ := RS_ok hRS
  have h0 := hR.2.2.2.1
  refine ei_aload_n X dL_law_245 rfl rfl ?_
  refine l_arg 1 X hSc hL hk (by decide) (by decide +kernel) dL_law_246 dL_law_247 dL_law_249 dL_law_250 dL_law_251 rfl rfl ?_
  refine l_arg 2 X hSc hL hk (by decide) (by decide +kernel) dL_law_252 dL_law_253 dL_law_255 dL_law_256 dL_law_257 rfl rfl ?_
  refine l_callF X ml_RL_26 dL_law_258 (ct_X9_bulb _ _ _ _ _ _ _ _ _ _ _ _ _ _ _ _ (xs (6 * k + 1)) (xs (6 * k + 2)) hG h0) rfl rfl (by decide) (by decide) (Nat.le_of_ble_eq_true rfl) (fun D2 be2 hb2 => ?_)
  refine ei_aload_n X dL_law_261 rfl rfl ?_
  refine l_arg 1 X hSc hL hk (by decide) (by decide +kernel) dL_law_262 dL_law_263 dL_law_265 dL_law_266 dL_law_267 rfl rfl ?_
  refine l_arg 2 X hSc hL hk (by decide) (by decide +kernel) dL_law_268 dL_law_269 dL_law_271 dL_law_272 dL_law_273 rfl rfl ?_
  refine l_callMP X ml_RL_30 dL_law_274 (ct_X10_bulb _ _ _ _ _ _ _ _ _ _ _ _ _ _ _ (xs (6 * k + 1)) (xs (6 * k + 2)) hG) rfl rfl rfl rfl (by decide) (by decide) (Nat.le_of_ble_eq_true rfl) (fun M2 hk2 => ?_)
  refine l_eqI (tgt := 1734) X dL_law_277 (by decide) ?_
  exact kk _ _ _ _ _ _ _ (hR.k hG hb2 hk2)
set_option maxHeartbeats 1000000 in
theorem lw_hangs {x : e_T} {n : Nat} {w se sp hr lt hd sc : Int32} {so fi wo : Nat → Int32} {D T : St} {im : Bool} {Z : Nat → Sh} {be : Nat → Int32} {g : Nat → Int64} {I : Nat → Int32} {A : Nat → Nat → Int32} {B : Nat → Nat → Int64} {K : Value} {L k : Nat} {xs : Nat → Int32} (X : e_X x RL cL_law 18) (hSc : l_S x L xs) (hL : L ≤ 3072) (hk : 6 * k + 6 ≤ L) (hR : lwR (n, w, se, sp, hr, lt, hd, sc, so, fi, wo) T im Z be (I, A, B, K)) (kk : l_K x k g) : e_E x 282 (l_ls k) [] (lC (n, w, se, sp, hr, lt, hd, sc, so, fi, wo) D T im Z be g (n, w, se, sp, hr, lt, hd, sc, so, fi, wo) (I, A, B, K)) := by
  have hG := hR.1
  have hM := hR.2.1
  have hRS := hR.2.2.1
  have hZ := RS_ok hRS
  have h0 := hR.2.2.2.1
  refine ei_aload_n X dL_law_282 rfl rfl ?_
  refine l_arg 1 X hSc hL hk (by decide) (by decide +kernel) dL_law_283 dL_law_284 dL_law_286 dL_law_287 dL_law_288 rfl rfl ?_
  refine l_callF X ml_RL_31 dL_law_289 (ct_X9_hangs _ _ _ _ _ _ _ _ _ _ _ _ _ _ _ _ (xs (6 * k + 1)) hG hZ h0) rfl rfl (by decide) (by decide) (Nat.le_of_ble_eq_true rfl) (fun D2 be2 hb2 => ?_)
  refine ei_aload_n X dL_law_292 rfl rfl ?_
  refine l_arg 1 X hSc hL hk (by decide) (by decide +kernel) dL_law_293 dL_law_294 dL_law_296 dL_law_297 dL_law_298 rfl rfl ?_
  refine l_callMP X ml_RL_34 dL_law_299 (ct_X10_hangs _ _ _ _ _ _ _ _ _ _ _ _ _ _ _ _ (xs (6 * k + 1)) hG hRS) rfl rfl rfl rfl (by decide) (by decide) (Nat.le_of_ble_eq_true rfl) (fun M2 hk2 => ?_)
  refine l_eqI (tgt := 1734) X dL_law_302 (by decide) ?_
  exact kk _ _ _ _ _ _ _ (hR.k (gd_hangs hZ _ hG) hb2 hk2)
set_option maxHeartbeats 1000000 in
theorem lw_wears {x : e_T} {n : Nat} {w se sp hr lt hd sc : Int32} {so fi wo : Nat → Int32} {D T : St} {im : Bool} {Z : Nat → Sh} {be : Nat → Int32} {g : Nat → Int64} {I : Nat → Int32} {A : Nat → Nat → Int32} {B : Nat → Nat → Int64} {K : Value} {L k : Nat} {xs : Nat → Int32} (X : e_X x RL cL_law 18) (hSc : l_S x L xs) (hL : L ≤ 3072) (hk : 6 * k + 6 ≤ L) (hR : lwR (n, w, se, sp, hr, lt, hd, sc, so, fi, wo) T im Z be (I, A, B, K)) (kk : l_K x k g) : e_E x 307 (l_ls k) [] (lC (n, w, se, sp, hr, lt, hd, sc, so, fi, wo) D T im Z be g (n, w, se, sp, hr, lt, hd, sc, so, fi, wo) (I, A, B, K)) := by
  have hG := hR.1
  have hM := hR.2.1
  have hRS := hR.2.2.1
  have hZ := RS_ok hRS
  have h0 := hR.2.2.2.1
  refine ei_aload_n X dL_law_307 rfl rfl ?_
  refine l_arg 1 X hSc hL hk (by decide) (by decide +kernel) dL_law_308 dL_law_309 dL_law_311 dL_law_312 dL_law_313 rfl rfl ?_
  refine l_arg 2 X hSc hL hk (by decide) (by decide +kernel) dL_law_314 dL_law_315 dL_law_317 dL_law_318 dL_law_319 rfl rfl ?_
  refine l_callF X ml_RL_35 dL_law_320 (ct_X9_wears _ _ _ _ _ _ _ _ _ _ _ _ _ _ _ _ (xs (6 * k + 1)) (xs (6 * k + 2)) hG h0) rfl rfl (by decide) (by decide) (Nat.le_of_ble_eq_true rfl) (fun D2 be2 hb2 => ?_)
  refine ei_aload_n X dL_law_323 rfl rfl ?_
  refine l_arg 1 X hSc hL hk (by decide) (by decide +kernel) dL_law_324 dL_law_325 dL_law_327 dL_law_328 dL_law_329 rfl rfl ?_
  refine l_arg 2 X hSc hL hk (by decide) (by decide +kernel) dL_law_330 dL_law_331 dL_law_333 dL_law_334 dL_law_335 rfl rfl ?_
  refine l_callMP X ml_RL_38 dL_law_336 (ct_X10_wears _ _ _ _ _ _ _ _ _ _ _ _ _ _ _ (xs (6 * k + 1)) (xs (6 * k + 2)) hG) rfl rfl rfl rfl (by decide) (by decide) (Nat.le_of_ble_eq_true rfl) (fun M2 hk2 => ?_)
  refine l_eqI (tgt := 1734) X dL_law_339 (by decide) ?_
  exact kk _ _ _ _ _ _ _ (hR.k (gd_wears _ _ _ _ _ _ _ _ _ _ _ _ _ hG) hb2 hk2)
set_option maxHeartbeats 1000000 in
theorem lw_breaks {x : e_T} {n : Nat} {w se sp hr lt hd sc : Int32} {so fi wo : Nat → Int32} {D T : St} {im : Bool} {Z : Nat → Sh} {be : Nat → Int32} {g : Nat → Int64} {I : Nat → Int32} {A : Nat → Nat → Int32} {B : Nat → Nat → Int64} {K : Value} {L k : Nat} {xs : Nat → Int32} (X : e_X x RL cL_law 18) (hSc : l_S x L xs) (hL : L ≤ 3072) (hk : 6 * k + 6 ≤ L) (hR : lwR (n, w, se, sp, hr, lt, hd, sc, so, fi, wo) T im Z be (I, A, B, K)) (kk : l_K x k g) : e_E x 344 (l_ls k) [] (lC (n, w, se, sp, hr, lt, hd, sc, so, fi, wo) D T im Z be g (n, w, se, sp, hr, lt, hd, sc, so, fi, wo) (I, A, B, K)) := by
  have hG := hR.1
  have hM := hR.2.1
  have hRS := hR.2.2.1
  have hZ := RS_ok hRS
  have h0 := hR.2.2.2.1
  refine ei_aload_n X dL_law_344 rfl rfl ?_
  refine l_arg 1 X hSc hL hk (by decide) (by decide +kernel) dL_law_345 dL_law_346 dL_law_348 dL_law_349 dL_law_350 rfl rfl ?_
  refine l_callF X ml_RL_39 dL_law_351 (ct_X9_breaks _ _ _ _ _ _ _ _ _ _ _ _ _ _ _ _ (xs (6 * k + 1)) hG h0) rfl rfl (by decide) (by decide) (Nat.le_of_ble_eq_true rfl) (fun D2 be2 hb2 => ?_)
  refine ei_aload_n X dL_law_354 rfl rfl ?_
  refine l_arg 1 X hSc hL hk (by decide) (by decide +kernel) dL_law_355 dL_law_356 dL_law_358 dL_law_359 dL_law_360 rfl rfl ?_
  refine l_callMP X ml_RL_42 dL_law_361 (ct_X10_breaks _ _ _ _ _ _ _ _ _ _ _ _ _ _ _ (xs (6 * k + 1)) hG) rfl rfl rfl rfl (by decide) (by decide) (Nat.le_of_ble_eq_true rfl) (fun M2 hk2 => ?_)
  refine l_eqI (tgt := 1734) X dL_law_364 (by decide) ?_
  exact kk _ _ _ _ _ _ _ (hR.k (gd_breaks _ _ _ _ _ _ _ _ _ _ _ _ hG) hb2 hk2)
set_option maxHeartbeats 1000000 in
theorem lw_spares {x : e_T} {n : Nat} {w se sp hr lt hd sc : Int32} {so fi wo : Nat → Int32} {D T : St} {im : Bool} {Z : Nat → Sh} {be : Nat → Int32} {g : Nat → Int64} {I : Nat → Int32} {A : Nat → Nat → Int32} {B : Nat → Nat → Int64} {K : Value} {L k : Nat} {xs : Nat → Int32} (X : e_X x RL cL_law 18) (hSc : l_S x L xs) (hL : L ≤ 3072) (hk : 6 * k + 6 ≤ L) (hR : lwR (n, w, se, sp, hr, lt, hd, sc, so, fi, wo) T im Z be (I, A, B, K)) (kk : l_K x k g) : e_E x 369 (l_ls k) [] (lC (n, w, se, sp, hr, lt, hd, sc, so, fi, wo) D T im Z be g (n, w, se, sp, hr, lt, hd, sc, so, fi, wo) (I, A, B, K)) := by
  have hG := hR.1
  have hM := hR.2.1
  have hRS := hR.2.2.1
  have hZ := RS_ok hRS
  have h0 := hR.2.2.2.1
  refine ei_aload_n X dL_law_369 rfl rfl ?_
  refine l_arg 1 X hSc hL hk (by decide) (by decide +kernel) dL_law_370 dL_law_371 dL_law_373 dL_law_374 dL_law_375 rfl rfl ?_
  refine l_callF X ml_RL_43 dL_law_376 (ct_X9_spares _ _ _ _ _ _ _ _ _ _ _ _ _ _ _ _ (xs (6 * k + 1)) h0) rfl rfl (by decide) (by decide) (Nat.le_of_ble_eq_true rfl) (fun D2 be2 hb2 => ?_)
  refine ei_aload_n X dL_law_379 rfl rfl ?_
  refine l_arg 1 X hSc hL hk (by decide) (by decide +kernel) dL_law_380 dL_law_381 dL_law_383 dL_law_384 dL_law_385 rfl rfl ?_
  refine l_callMP X ml_RL_46 dL_law_386 (ct_X10_spares _ _ _ _ _ _ _ _ _ _ _ _ _ _ _ (xs (6 * k + 1))) rfl rfl rfl rfl (by decide) (by decide) (Nat.le_of_ble_eq_true rfl) (fun M2 hk2 => ?_)
  refine l_eqI (tgt := 1734) X dL_law_389 (by decide) ?_
  exact kk _ _ _ _ _ _ _ (hR.k (gd_spares _ _ _ _ _ _ _ _ _ _ _ _ hG) hb2 hk2)
set_option maxHeartbeats 1000000 in
theorem lw_twist {x : e_T} {n : Nat} {w se sp hr lt hd sc : Int32} {so fi wo : Nat → Int32} {D T : St} {im : Bool} {Z : Nat → Sh} {be : Nat → Int32} {g : Nat → Int64} {I : Nat → Int32} {A : Nat → Nat → Int32} {B : Nat → Nat → Int64} {K : Value} {L k : Nat} {xs : Nat → Int32} (X : e_X x RL cL_law 18) (hSc : l_S x L xs) (hL : L ≤ 3072) (hk : 6 * k + 6 ≤ L) (hR : lwR (n, w, se, sp, hr, lt, hd, sc, so, fi, wo) T im Z be (I, A, B, K)) (kk : l_K x k g) : e_E x 394 (l_ls k) [] (lC (n, w, se, sp, hr, lt, hd, sc, so, fi, wo) D T im Z be g (n, w, se, sp, hr, lt, hd, sc, so, fi, wo) (I, A, B, K)) := by
  have hG := hR.1
  have hM := hR.2.1
  have hRS := hR.2.2.1
  have hZ := RS_ok hRS
  have h0 := hR.2.2.2.1
  refine ei_aload_n X dL_law_394 rfl rfl ?_
  refine l_arg 1 X hSc hL hk (by decide) (by decide +kernel) dL_law_395 dL_law_396 dL_law_398 dL_law_399 dL_law_400 rfl rfl ?_
  refine l_callF X ml_RL_47 dL_law_401 (ct_X9_twist _ _ _ _ _ _ _ _ _ _ _ _ _ _ _ _ (xs (6 * k + 1)) hG h0) rfl rfl (by decide) (by decide) (Nat.le_of_ble_eq_true rfl) (fun D2 be2 hb2 => ?_)
  refine ei_aload_n X dL_law_404 rfl rfl ?_
  refine l_arg 1 X hSc hL hk (by decide) (by decide +kernel) dL_law_405 dL_law_406 dL_law_408 dL_law_409 dL_law_410 rfl rfl ?_
  refine l_callMP X ml_RL_50 dL_law_411 (ct_X10_twist _ _ _ _ _ _ _ _ _ _ _ _ _ _ _ (xs (6 * k + 1)) hG) rfl rfl rfl rfl (by decide) (by decide) (Nat.le_of_ble_eq_true rfl) (fun M2 hk2 => ?_)
  refine l_eqI (tgt := 1734) X dL_law_414 (by decide) ?_
  exact kk _ _ _ _ _ _ _ (hR.k (gd_twist _ hG) hb2 hk2)
set_option maxHeartbeats 1000000 in
theorem lw_use {x : e_T} {n : Nat} {w se sp hr lt hd sc : Int32} {so fi wo : Nat → Int32} {D T : St} {im : Bool} {Z : Nat → Sh} {be : Nat → Int32} {g : Nat → Int64} {I : Nat → Int32} {A : Nat → Nat → Int32} {B : Nat → Nat → Int64} {K : Value} {L k : Nat} {xs : Nat → Int32} (X : e_X x RL cL_law 18) (hSc : l_S x L xs) (hL : L ≤ 3072) (hk : 6 * k + 6 ≤ L) (hR : lwR (n, w, se, sp, hr, lt, hd, sc, so, fi, wo) T im Z be (I, A, B, K)) (kk : l_K x k g) : e_E x 419 (l_ls k) [] (lC (n, w, se, sp, hr, lt, hd, sc, so, fi, wo) D T im Z be g (n, w, se, sp, hr, lt, hd, sc, so, fi, wo) (I, A, B, K)) := by
  have hG := hR.1
  have hM := hR.2.1
  have hRS := hR.2.2.1
  have hZ := RS_ok hRS
  have h0 := hR.2.2.2.1
  refine ei_aload_n X dL_law_419 rfl rfl ?_
  refine l_arg 1 X hSc hL hk (by decide) (by decide +kernel) dL_law_420 dL_law_421 dL_law_423 dL_law_424 dL_law_425 rfl rfl ?_
  refine l_arg 2 X hSc hL hk (by decide) (by decide +kernel) dL_law_426 dL_law_427 dL_law_429 dL_law_430 dL_law_431 rfl rfl ?_
  refine l_arg 3 X hSc hL hk (by decide) (by decide +kernel) dL_law_432 dL_law_433 dL_law_435 dL_law_436 dL_law_437 rfl rfl ?_
  refine l_callF X ml_RL_51 dL_law_438 (ct_X9_use _ _ _ _ _ _ _ _ _ _ _ _ _ _ _ _ (xs (6 * k + 1)) (xs (6 * k + 2)) (xs (6 * k + 3)) hG h0) rfl rfl (by decide) (by decide) (Nat.le_of_ble_eq_true rfl) (fun D2 be2 hb2 => ?_)
  refine ei_aload_n X dL_law_441 rfl rfl ?_
  refine l_arg 1 X hSc hL hk (by decide) (by decide +kernel) dL_law_442 dL_law_443 dL_law_445 dL_law_446 dL_law_447 rfl rfl ?_
  refine l_arg 2 X hSc hL hk (by decide) (by decide +kernel) dL_law_448 dL_law_449 dL_law_451 dL_law_452 dL_law_453 rfl rfl ?_
  refine l_arg 3 X hSc hL hk (by decide) (by decide +kernel) dL_law_454 dL_law_455 dL_law_457 dL_law_458 dL_law_459 rfl rfl ?_
  refine l_callMP X ml_RL_55 dL_law_460 (ct_X10_use _ _ _ _ _ _ _ _ _ _ _ _ _ _ _ (xs (6 * k + 1)) (xs (6 * k + 2)) (xs (6 * k + 3)) hG) rfl rfl rfl rfl (by decide) (by decide) (Nat.le_of_ble_eq_true rfl) (fun M2 hk2 => ?_)
  refine l_eqI (tgt := 1734) X dL_law_463 (by decide) ?_
  exact kk _ _ _ _ _ _ _ (hR.k (gd_use _ _ _ hG) hb2 hk2)
set_option maxHeartbeats 1000000 in
theorem lw_hours {x : e_T} {n : Nat} {w se sp hr lt hd sc : Int32} {so fi wo : Nat → Int32} {D T : St} {im : Bool} {Z : Nat → Sh} {be : Nat → Int32} {g : Nat → Int64} {I : Nat → Int32} {A : Nat → Nat → Int32} {B : Nat → Nat → Int64} {K : Value} {L k : Nat} {xs : Nat → Int32} (X : e_X x RL cL_law 18) (hSc : l_S x L xs) (hL : L ≤ 3072) (hk : 6 * k + 6 ≤ L) (hR : lwR (n, w, se, sp, hr, lt, hd, sc, so, fi, wo) T im Z be (I, A, B, K)) (kk : l_K x k g) : e_E x 468 (l_ls k) [] (lC (n, w, se, sp, hr, lt, hd, sc, so, fi, wo) D T im Z be g (n, w, se, sp, hr, lt, hd, sc, so, fi, wo) (I, A, B, K)) := by
  have hG := hR.1
  have hM := hR.2.1
  have hRS := hR.2.2.1
  have hZ := RS_ok hRS
  have h0 := hR.2.2.2.1
  refine ei_aload_n X dL_law_468 rfl rfl ?_
  refine l_arg 1 X hSc hL hk (by decide) (by decide +kernel) dL_law_469 dL_law_470 dL_law_472 dL_law_473 dL_law_474 rfl rfl ?_
  refine l_callF X ml_RL_56 dL_law_475 (ct_X9_hours _ _ _ _ _ _ _ _ _ _ _ _ _ _ _ _ (xs (6 * k + 1)) hG h0) rfl rfl (by decide) (by decide) (Nat.le_of_ble_eq_true rfl) (fun D2 be2 hb2 => ?_)
  refine ei_aload_n X dL_law_478 rfl rfl ?_
  refine l_arg 1 X hSc hL hk (by decide) (by decide +kernel) dL_law_479 dL_law_480 dL_law_482 dL_law_483 dL_law_484 rfl rfl ?_
  refine l_callMP X ml_RL_59 dL_law_485 (ct_X10_hours _ _ _ _ _ _ _ _ _ _ _ _ _ _ _ (xs (6 * k + 1)) hG hM) rfl rfl rfl rfl (by decide) (by decide) (Nat.le_of_ble_eq_true rfl) (fun M2 hk2 => ?_)
  refine l_eqI (tgt := 1734) X dL_law_488 (by decide) ?_
  exact kk _ _ _ _ _ _ _ (hR.k (gd_hours _ hG) hb2 hk2)
set_option maxHeartbeats 1000000 in
theorem lw_then {x : e_T} {n : Nat} {w se sp hr lt hd sc : Int32} {so fi wo : Nat → Int32} {D T : St} {im : Bool} {Z : Nat → Sh} {be : Nat → Int32} {g : Nat → Int64} {I : Nat → Int32} {A : Nat → Nat → Int32} {B : Nat → Nat → Int64} {K : Value} {L k : Nat} {xs : Nat → Int32} (X : e_X x RL cL_law 18) (hSc : l_S x L xs) (hL : L ≤ 3072) (hk : 6 * k + 6 ≤ L) (hR : lwR (n, w, se, sp, hr, lt, hd, sc, so, fi, wo) T im Z be (I, A, B, K)) (kk : l_K x k g) : e_E x 493 (l_ls k) [] (lC (n, w, se, sp, hr, lt, hd, sc, so, fi, wo) D T im Z be g (n, w, se, sp, hr, lt, hd, sc, so, fi, wo) (I, A, B, K)) := by
  have hG := hR.1
  have hM := hR.2.1
  have hRS := hR.2.2.1
  have hZ := RS_ok hRS
  have h0 := hR.2.2.2.1
  refine ei_aload_n X dL_law_493 rfl rfl ?_
  refine l_arg 1 X hSc hL hk (by decide) (by decide +kernel) dL_law_494 dL_law_495 dL_law_497 dL_law_498 dL_law_499 rfl rfl ?_
  refine l_arg 2 X hSc hL hk (by decide) (by decide +kernel) dL_law_500 dL_law_501 dL_law_503 dL_law_504 dL_law_505 rfl rfl ?_
  refine l_callF X ml_RL_60 dL_law_506 (ct_X9_then _ _ _ _ _ _ _ _ _ _ _ _ _ _ _ _ (xs (6 * k + 1)) (xs (6 * k + 2)) hG h0) rfl rfl (by decide) (by decide) (Nat.le_of_ble_eq_true rfl) (fun D2 be2 hb2 => ?_)
  refine ei_aload_n X dL_law_509 rfl rfl ?_
  refine l_arg 1 X hSc hL hk (by decide) (by decide +kernel) dL_law_510 dL_law_511 dL_law_513 dL_law_514 dL_law_515 rfl rfl ?_
  refine l_arg 2 X hSc hL hk (by decide) (by decide +kernel) dL_law_516 dL_law_517 dL_law_519 dL_law_520 dL_law_521 rfl rfl ?_
  refine l_callMP X ml_RL_63 dL_law_522 (ct_X10_then _ _ _ _ _ _ _ _ _ _ _ _ _ _ _ (xs (6 * k + 1)) (xs (6 * k + 2)) hG hM) rfl rfl rfl rfl (by decide) (by decide) (Nat.le_of_ble_eq_true rfl) (fun M2 hk2 => ?_)
  refine l_eqI (tgt := 1734) X dL_law_525 (by decide) ?_
  exact kk _ _ _ _ _ _ _ (hR.k hG hb2 hk2)
set_option maxHeartbeats 1000000 in
theorem lw_wornThen {x : e_T} {n : Nat} {w se sp hr lt hd sc : Int32} {so fi wo : Nat → Int32} {D T : St} {im : Bool} {Z : Nat → Sh} {be : Nat → Int32} {g : Nat → Int64} {I : Nat → Int32} {A : Nat → Nat → Int32} {B : Nat → Nat → Int64} {K : Value} {L k : Nat} {xs : Nat → Int32} (X : e_X x RL cL_law 18) (hSc : l_S x L xs) (hL : L ≤ 3072) (hk : 6 * k + 6 ≤ L) (hR : lwR (n, w, se, sp, hr, lt, hd, sc, so, fi, wo) T im Z be (I, A, B, K)) (kk : l_K x k g) : e_E x 530 (l_ls k) [] (lC (n, w, se, sp, hr, lt, hd, sc, so, fi, wo) D T im Z be g (n, w, se, sp, hr, lt, hd, sc, so, fi, wo) (I, A, B, K)) := by
  have hG := hR.1
  have hM := hR.2.1
  have hRS := hR.2.2.1
  have hZ := RS_ok hRS
  have h0 := hR.2.2.2.1
  refine ei_aload_n X dL_law_530 rfl rfl ?_
  refine l_arg 1 X hSc hL hk (by decide) (by decide +kernel) dL_law_531 dL_law_532 dL_law_534 dL_law_535 dL_law_536 rfl rfl ?_
  refine l_arg 2 X hSc hL hk (by decide) (by decide +kernel) dL_law_537 dL_law_538 dL_law_540 dL_law_541 dL_law_542 rfl rfl ?_
  refine l_callF X ml_RL_64 dL_law_543 (ct_X9_wornThen _ _ _ _ _ _ _ _ _ _ _ _ _ _ _ _ (xs (6 * k + 1)) (xs (6 * k + 2)) hG h0) rfl rfl (by decide) (by decide) (Nat.le_of_ble_eq_true rfl) (fun D2 be2 hb2 => ?_)
  refine ei_aload_n X dL_law_546 rfl rfl ?_
  refine l_arg 1 X hSc hL hk (by decide) (by decide +kernel) dL_law_547 dL_law_548 dL_law_550 dL_law_551 dL_law_552 rfl rfl ?_
  refine l_arg 2 X hSc hL hk (by decide) (by decide +kernel) dL_law_553 dL_law_554 dL_law_556 dL_law_557 dL_law_558 rfl rfl ?_
  refine l_callMP X ml_RL_67 dL_law_559 (ct_X10_wornThen _ _ _ _ _ _ _ _ _ _ _ _ _ _ _ (xs (6 * k + 1)) (xs (6 * k + 2)) hG hM) rfl rfl rfl rfl (by decide) (by decide) (Nat.le_of_ble_eq_true rfl) (fun M2 hk2 => ?_)
  refine l_eqI (tgt := 1734) X dL_law_562 (by decide) ?_
  exact kk _ _ _ _ _ _ _ (hR.k hG hb2 hk2)
set_option maxHeartbeats 1000000 in
theorem lw_goes {x : e_T} {n : Nat} {w se sp hr lt hd sc : Int32} {so fi wo : Nat → Int32} {D T : St} {im : Bool} {Z : Nat → Sh} {be : Nat → Int32} {g : Nat → Int64} {I : Nat → Int32} {A : Nat → Nat → Int32} {B : Nat → Nat → Int64} {K : Value} {L k : Nat} {xs : Nat → Int32} (X : e_X x RL cL_law 18) (hSc : l_S x L xs) (hL : L ≤ 3072) (hk : 6 * k + 6 ≤ L) (hR : lwR (n, w, se, sp, hr, lt, hd, sc, so, fi, wo) T im Z be (I, A, B, K)) (kk : l_K x k g) : e_E x 567 (l_ls k) [] (lC (n, w, se, sp, hr, lt, hd, sc, so, fi, wo) D T im Z be g (n, w, se, sp, hr, lt, hd, sc, so, fi, wo) (I, A, B, K)) := by
  have hG := hR.1
  have hM := hR.2.1
  have hRS := hR.2.2.1
  have hZ := RS_ok hRS
  have h0 := hR.2.2.2.1
  refine ei_aload_n X dL_law_567 rfl rfl ?_
  refine l_arg 1 X hSc hL hk (by decide) (by decide +kernel) dL_law_568 dL_law_569 dL_law_571 dL_law_572 dL_law_573 rfl rfl ?_
  refine l_callF X ml_RL_68 dL_law_574 (ct_X9_goes _ _ _ _ _ _ _ _ _ _ _ _ _ _ _ _ (xs (6 * k + 1)) hG h0) rfl rfl (by decide) (by decide) (Nat.le_of_ble_eq_true rfl) (fun D2 be2 hb2 => ?_)
  refine ei_aload_n X dL_law_577 rfl rfl ?_
  refine l_arg 1 X hSc hL hk (by decide) (by decide +kernel) dL_law_578 dL_law_579 dL_law_581 dL_law_582 dL_law_583 rfl rfl ?_
  refine l_callMP X ml_RL_71 dL_law_584 (ct_X10_goes _ _ _ _ _ _ _ _ _ _ _ _ _ _ _ (xs (6 * k + 1)) hG hM) rfl rfl rfl rfl (by decide) (by decide) (Nat.le_of_ble_eq_true rfl) (fun M2 hk2 => ?_)
  refine l_eqI (tgt := 1734) X dL_law_587 (by decide) ?_
  exact kk _ _ _ _ _ _ _ (hR.k hG hb2 hk2)
set_option maxHeartbeats 1000000 in
theorem lw_dark {x : e_T} {n : Nat} {w se sp hr lt hd sc : Int32} {so fi wo : Nat → Int32} {D T : St} {im : Bool} {Z : Nat → Sh} {be : Nat → Int32} {g : Nat → Int64} {I : Nat → Int32} {A : Nat → Nat → Int32} {B : Nat → Nat → Int64} {K : Value} {L k : Nat} {xs : Nat → Int32} (X : e_X x RL cL_law 18) (hSc : l_S x L xs) (hL : L ≤ 3072) (hk : 6 * k + 6 ≤ L) (hR : lwR (n, w, se, sp, hr, lt, hd, sc, so, fi, wo) T im Z be (I, A, B, K)) (kk : l_K x k g) : e_E x 592 (l_ls k) [] (lC (n, w, se, sp, hr, lt, hd, sc, so, fi, wo) D T im Z be g (n, w, se, sp, hr, lt, hd, sc, so, fi, wo) (I, A, B, K)) := by
  have hG := hR.1
  have hM := hR.2.1
  have hRS := hR.2.2.1
  have hZ := RS_ok hRS
  have h0 := hR.2.2.2.1
  refine ei_aload_n X dL_law_592 rfl rfl ?_
  refine l_callF X ml_RL_72 dL_law_593 (ct_X9_dark _ _ _ _ _ _ _ _ _ _ _ _ _ _ _ _ hG h0) rfl rfl (by decide) (by decide) (Nat.le_of_ble_eq_true rfl) (fun D2 be2 hb2 => ?_)
  refine ei_aload_n X dL_law_596 rfl rfl ?_
  refine l_callMP X ml_RL_76 dL_law_597 (ct_X10_dark _ _ _ _ _ _ _ _ _ _ _ _ _ _ _ hG hM) rfl rfl rfl rfl (by decide) (by decide) (Nat.le_of_ble_eq_true rfl) (fun M2 hk2 => ?_)
  refine l_eqI (tgt := 1734) X dL_law_600 (by decide) ?_
  exact kk _ _ _ _ _ _ _ (hR.k hG hb2 hk2)
set_option maxHeartbeats 1000000 in
theorem lw_lights {x : e_T} {n : Nat} {w se sp hr lt hd sc : Int32} {so fi wo : Nat → Int32} {D T : St} {im : Bool} {Z : Nat → Sh} {be : Nat → Int32} {g : Nat → Int64} {I : Nat → Int32} {A : Nat → Nat → Int32} {B : Nat → Nat → Int64} {K : Value} {L k : Nat} {xs : Nat → Int32} (X : e_X x RL cL_law 18) (hSc : l_S x L xs) (hL : L ≤ 3072) (hk : 6 * k + 6 ≤ L) (hR : lwR (n, w, se, sp, hr, lt, hd, sc, so, fi, wo) T im Z be (I, A, B, K)) (kk : l_K x k g) : e_E x 605 (l_ls k) [] (lC (n, w, se, sp, hr, lt, hd, sc, so, fi, wo) D T im Z be g (n, w, se, sp, hr, lt, hd, sc, so, fi, wo) (I, A, B, K)) := by
  have hG := hR.1
  have hM := hR.2.1
  have hRS := hR.2.2.1
  have hZ := RS_ok hRS
  have h0 := hR.2.2.2.1
  refine ei_aload_n X dL_law_605 rfl rfl ?_
  refine l_arg 1 X hSc hL hk (by decide) (by decide +kernel) dL_law_606 dL_law_607 dL_law_609 dL_law_610 dL_law_611 rfl rfl ?_
  refine l_callF X ml_RL_77 dL_law_612 (ct_X9_lights _ _ _ _ _ _ _ _ _ _ _ _ _ _ _ _ (xs (6 * k + 1)) hG h0) rfl rfl (by decide) (by decide) (Nat.le_of_ble_eq_true rfl) (fun D2 be2 hb2 => ?_)
  refine ei_aload_n X dL_law_615 rfl rfl ?_
  refine l_arg 1 X hSc hL hk (by decide) (by decide +kernel) dL_law_616 dL_law_617 dL_law_619 dL_law_620 dL_law_621 rfl rfl ?_
  refine l_callMP X ml_RL_80 dL_law_622 (ct_X10_lights _ _ _ _ _ _ _ _ _ _ _ _ _ _ _ (xs (6 * k + 1)) hG hM) rfl rfl rfl rfl (by decide) (by decide) (Nat.le_of_ble_eq_true rfl) (fun M2 hk2 => ?_)
  refine l_eqI (tgt := 1734) X dL_law_625 (by decide) ?_
  exact kk _ _ _ _ _ _ _ (hR.k hG hb2 hk2)
set_option maxHeartbeats 1000000 in
theorem lw_tool {x : e_T} {n : Nat} {w se sp hr lt hd sc : Int32} {so fi wo : Nat → Int32} {D T : St} {im : Bool} {Z : Nat → Sh} {be : Nat → Int32} {g : Nat → Int64} {I : Nat → Int32} {A : Nat → Nat → Int32} {B : Nat → Nat → Int64} {K : Value} {L k : Nat} {xs : Nat → Int32} (X : e_X x RL cL_law 18) (hSc : l_S x L xs) (hL : L ≤ 3072) (hk : 6 * k + 6 ≤ L) (hR : lwR (n, w, se, sp, hr, lt, hd, sc, so, fi, wo) T im Z be (I, A, B, K)) (kk : l_K x k g) : e_E x 630 (l_ls k) [] (lC (n, w, se, sp, hr, lt, hd, sc, so, fi, wo) D T im Z be g (n, w, se, sp, hr, lt, hd, sc, so, fi, wo) (I, A, B, K)) := by
  have hG := hR.1
  have hM := hR.2.1
  have hRS := hR.2.2.1
  have hZ := RS_ok hRS
  have h0 := hR.2.2.2.1
  refine ei_aload_n X dL_law_630 rfl rfl ?_
  refine l_arg 1 X hSc hL hk (by decide) (by decide +kernel) dL_law_631 dL_law_632 dL_law_634 dL_law_635 dL_law_636 rfl rfl ?_
  refine l_arg 2 X hSc hL hk (by decide) (by decide +kernel) dL_law_637 dL_law_638 dL_law_640 dL_law_641 dL_law_642 rfl rfl ?_
  refine l_arg 3 X hSc hL hk (by decide) (by decide +kernel) dL_law_643 dL_law_644 dL_law_646 dL_law_647 dL_law_648 rfl rfl ?_
  refine l_arg 4 X hSc hL hk (by decide) (by decide +kernel) dL_law_649 dL_law_650 dL_law_652 dL_law_653 dL_law_654 rfl rfl ?_
  refine l_callF X ml_RL_81 dL_law_655 (ct_X9_tool _ _ _ _ _ _ _ _ _ _ _ _ _ _ _ _ (xs (6 * k + 1)) (xs (6 * k + 2)) (xs (6 * k + 3)) (xs (6 * k + 4)) hG h0) rfl rfl (by decide) (by decide) (Nat.le_of_ble_eq_true rfl) (fun D2 be2 hb2 => ?_)
  refine ei_aload_n X dL_law_658 rfl rfl ?_
  refine l_arg 1 X hSc hL hk (by decide) (by decide +kernel) dL_law_659 dL_law_660 dL_law_662 dL_law_663 dL_law_664 rfl rfl ?_
  refine l_arg 2 X hSc hL hk (by decide) (by decide +kernel) dL_law_665 dL_law_666 dL_law_668 dL_law_669 dL_law_670 rfl rfl ?_
  refine l_arg 3 X hSc hL hk (by decide) (by decide +kernel) dL_law_671 dL_law_672 dL_law_674 dL_law_675 dL_law_676 rfl rfl ?_
  refine l_arg 4 X hSc hL hk (by decide) (by decide +kernel) dL_law_677 dL_law_678 dL_law_680 dL_law_681 dL_law_682 rfl rfl ?_
  refine l_callMP X ml_RL_85 dL_law_683 (ct_X10_tool _ _ _ _ _ _ _ _ _ _ _ _ _ _ _ (xs (6 * k + 1)) (xs (6 * k + 2)) (xs (6 * k + 3)) (xs (6 * k + 4)) hG) rfl rfl rfl rfl (by decide) (by decide) (Nat.le_of_ble_eq_true rfl) (fun M2 hk2 => ?_)
  refine l_eqI (tgt := 1734) X dL_law_686 (by decide) ?_
  exact kk _ _ _ _ _ _ _ (hR.k hG hb2 hk2)
set_option maxHeartbeats 1000000 in
theorem lw_halves {x : e_T} {n : Nat} {w se sp hr lt hd sc : Int32} {so fi wo : Nat → Int32} {D T : St} {im : Bool} {Z : Nat → Sh} {be : Nat → Int32} {g : Nat → Int64} {I : Nat → Int32} {A : Nat → Nat → Int32} {B : Nat → Nat → Int64} {K : Value} {L k : Nat} {xs : Nat → Int32} (X : e_X x RL cL_law 18) (hSc : l_S x L xs) (hL : L ≤ 3072) (hk : 6 * k + 6 ≤ L) (hR : lwR (n, w, se, sp, hr, lt, hd, sc, so, fi, wo) T im Z be (I, A, B, K)) (kk : l_K x k g) : e_E x 691 (l_ls k) [] (lC (n, w, se, sp, hr, lt, hd, sc, so, fi, wo) D T im Z be g (n, w, se, sp, hr, lt, hd, sc, so, fi, wo) (I, A, B, K)) := by
  have hG := hR.1
  have hM := hR.2.1
  have hRS := hR.2.2.1
  have hZ := RS_ok hRS
  have h0 := hR.2.2.2.1
  refine ei_aload_n X dL_law_691 rfl rfl ?_
  refine l_arg 1 X hSc hL hk (by decide) (by decide +kernel) dL_law_692 dL_law_693 dL_law_695 dL_law_696 dL_law_697 rfl rfl ?_
  refine l_arg 2 X hSc hL hk (by decide) (by decide +kernel) dL_law_698 dL_law_699 dL_law_701 dL_law_702 dL_law_703 rfl rfl ?_
  refine l_arg 3 X hSc hL hk (by decide) (by decide +kernel) dL_law_704 dL_law_705 dL_law_707 dL_law_708 dL_law_709 rfl rfl ?_
  refine l_callF X ml_RL_86 dL_law_710 (ct_X9_halves _ _ _ _ _ _ _ _ _ _ _ _ _ _ _ _ (xs (6 * k + 1)) (xs (6 * k + 2)) (xs (6 * k + 3)) hG h0) rfl rfl (by decide) (by decide) (Nat.le_of_ble_eq_true rfl) (fun D2 be2 hb2 => ?_)
  refine ei_aload_n X dL_law_713 rfl rfl ?_
  refine l_arg 1 X hSc hL hk (by decide) (by decide +kernel) dL_law_714 dL_law_715 dL_law_717 dL_law_718 dL_law_719 rfl rfl ?_
  refine l_arg 2 X hSc hL hk (by decide) (by decide +kernel) dL_law_720 dL_law_721 dL_law_723 dL_law_724 dL_law_725 rfl rfl ?_
  refine l_arg 3 X hSc hL hk (by decide) (by decide +kernel) dL_law_726 dL_law_727 dL_law_729 dL_law_730 dL_law_731 rfl rfl ?_
  refine l_callMP X ml_RL_89 dL_law_732 (ct_X10_halves _ _ _ _ _ _ _ _ _ _ _ _ _ _ _ (xs (6 * k + 1)) (xs (6 * k + 2)) (xs (6 * k + 3)) hG) rfl rfl rfl rfl (by decide) (by decide) (Nat.le_of_ble_eq_true rfl) (fun M2 hk2 => ?_)
  refine l_eqI (tgt := 1734) X dL_law_735 (by decide) ?_
  exact kk _ _ _ _ _ _ _ (hR.k hG hb2 hk2)
set_option maxHeartbeats 1000000 in
theorem lw_mean {x : e_T} {n : Nat} {w se sp hr lt hd sc : Int32} {so fi wo : Nat → Int32} {D T : St} {im : Bool} {Z : Nat → Sh} {be : Nat → Int32} {g : Nat → Int64} {I : Nat → Int32} {A : Nat → Nat → Int32} {B : Nat → Nat → Int64} {K : Value} {L k : Nat} {xs : Nat → Int32} (X : e_X x RL cL_law 18) (hSc : l_S x L xs) (hL : L ≤ 3072) (hk : 6 * k + 6 ≤ L) (hR : lwR (n, w, se, sp, hr, lt, hd, sc, so, fi, wo) T im Z be (I, A, B, K)) (kk : l_K x k g) : e_E x 740 (l_ls k) [] (lC (n, w, se, sp, hr, lt, hd, sc, so, fi, wo) D T im Z be g (n, w, se, sp, hr, lt, hd, sc, so, fi, wo) (I, A, B, K)) := by
  have hG := hR.1
  have hM := hR.2.1
  have hRS := hR.2.2.1
  have hZ := RS_ok hRS
  have h0 := hR.2.2.2.1
  refine ei_aload_n X dL_law_740 rfl rfl ?_
  refine l_arg 1 X hSc hL hk (by decide) (by decide +kernel) dL_law_741 dL_law_742 dL_law_744 dL_law_745 dL_law_746 rfl rfl ?_
  refine l_arg 2 X hSc hL hk (by decide) (by decide +kernel) dL_law_747 dL_law_748 dL_law_750 dL_law_751 dL_law_752 rfl rfl ?_
  refine l_arg 3 X hSc hL hk (by decide) (by decide +kernel) dL_law_753 dL_law_754 dL_law_756 dL_law_757 dL_law_758 rfl rfl ?_
  refine l_callF X ml_RL_90 dL_law_759 (ct_X9_mean _ _ _ _ _ _ _ _ _ _ _ _ _ _ _ _ (xs (6 * k + 1)) (xs (6 * k + 2)) (xs (6 * k + 3)) hG h0) rfl rfl (by decide) (by decide) (Nat.le_of_ble_eq_true rfl) (fun D2 be2 hb2 => ?_)
  refine ei_aload_n X dL_law_762 rfl rfl ?_
  refine l_arg 1 X hSc hL hk (by decide) (by decide +kernel) dL_law_763 dL_law_764 dL_law_766 dL_law_767 dL_law_768 rfl rfl ?_
  refine l_arg 2 X hSc hL hk (by decide) (by decide +kernel) dL_law_769 dL_law_770 dL_law_772 dL_law_773 dL_law_774 rfl rfl ?_
  refine l_arg 3 X hSc hL hk (by decide) (by decide +kernel) dL_law_775 dL_law_776 dL_law_778 dL_law_779 dL_law_780 rfl rfl ?_
  refine l_callMP X ml_RL_94 dL_law_781 (ct_X10_mean _ _ _ _ _ _ _ _ _ _ _ _ _ _ _ (xs (6 * k + 1)) (xs (6 * k + 2)) (xs (6 * k + 3)) hG) rfl rfl rfl rfl (by decide) (by decide) (Nat.le_of_ble_eq_true rfl) (fun M2 hk2 => ?_)
  refine l_eqL (tgt := 1734) X dL_law_784 dL_law_785 (by decide) ?_
  exact kk _ _ _ _ _ _ _ (hR.k hG hb2 hk2)
set_option maxHeartbeats 1000000 in
theorem lw_order {x : e_T} {n : Nat} {w se sp hr lt hd sc : Int32} {so fi wo : Nat → Int32} {D T : St} {im : Bool} {Z : Nat → Sh} {be : Nat → Int32} {g : Nat → Int64} {I : Nat → Int32} {A : Nat → Nat → Int32} {B : Nat → Nat → Int64} {K : Value} {L k : Nat} {xs : Nat → Int32} (X : e_X x RL cL_law 18) (hSc : l_S x L xs) (hL : L ≤ 3072) (hk : 6 * k + 6 ≤ L) (hR : lwR (n, w, se, sp, hr, lt, hd, sc, so, fi, wo) T im Z be (I, A, B, K)) (kk : l_K x k g) : e_E x 790 (l_ls k) [] (lC (n, w, se, sp, hr, lt, hd, sc, so, fi, wo) D T im Z be g (n, w, se, sp, hr, lt, hd, sc, so, fi, wo) (I, A, B, K)) := by
  have hG := hR.1
  have hM := hR.2.1
  have hRS := hR.2.2.1
  have hZ := RS_ok hRS
  have h0 := hR.2.2.2.1
  refine ei_aload_n X dL_law_790 rfl rfl ?_
  refine l_arg 1 X hSc hL hk (by decide) (by decide +kernel) dL_law_791 dL_law_792 dL_law_794 dL_law_795 dL_law_796 rfl rfl ?_
  refine l_arg 2 X hSc hL hk (by decide) (by decide +kernel) dL_law_797 dL_law_798 dL_law_800 dL_law_801 dL_law_802 rfl rfl ?_
  refine l_callF X ml_RL_95 dL_law_803 (ct_X9_order _ _ _ _ _ _ _ _ _ _ _ _ _ _ _ _ (xs (6 * k + 1)) (xs (6 * k + 2)) hG h0) rfl rfl (by decide) (by decide) (Nat.le_of_ble_eq_true rfl) (fun D2 be2 hb2 => ?_)
  refine ei_aload_n X dL_law_806 rfl rfl ?_
  refine l_arg 1 X hSc hL hk (by decide) (by decide +kernel) dL_law_807 dL_law_808 dL_law_810 dL_law_811 dL_law_812 rfl rfl ?_
  refine l_arg 2 X hSc hL hk (by decide) (by decide +kernel) dL_law_813 dL_law_814 dL_law_816 dL_law_817 dL_law_818 rfl rfl ?_
  refine l_callMP X ml_RL_98 dL_law_819 (ct_X10_order _ _ _ _ _ _ _ _ _ _ _ _ _ _ _ (xs (6 * k + 1)) (xs (6 * k + 2)) hG) rfl rfl rfl rfl (by decide) (by decide) (Nat.le_of_ble_eq_true rfl) (fun M2 hk2 => ?_)
  refine l_eqI (tgt := 1734) X dL_law_822 (by decide) ?_
  exact kk _ _ _ _ _ _ _ (hR.k hG hb2 hk2)
set_option maxHeartbeats 1000000 in
theorem lw_suspects {x : e_T} {n : Nat} {w se sp hr lt hd sc : Int32} {so fi wo : Nat → Int32} {D T : St} {im : Bool} {Z : Nat → Sh} {be : Nat → Int32} {g : Nat → Int64} {I : Nat → Int32} {A : Nat → Nat → Int32} {B : Nat → Nat → Int64} {K : Value} {L k : Nat} {xs : Nat → Int32} (X : e_X x RL cL_law 18) (hSc : l_S x L xs) (hL : L ≤ 3072) (hk : 6 * k + 6 ≤ L) (hR : lwR (n, w, se, sp, hr, lt, hd, sc, so, fi, wo) T im Z be (I, A, B, K)) (kk : l_K x k g) : e_E x 827 (l_ls k) [] (lC (n, w, se, sp, hr, lt, hd, sc, so, fi, wo) D T im Z be g (n, w, se, sp, hr, lt, hd, sc, so, fi, wo) (I, A, B, K)) := by
  have hG := hR.1
  have hM := hR.2.1
  have hRS := hR.2.2.1
  have hZ := RS_ok hRS
  have h0 := hR.2.2.2.1
  refine ei_aload_n X dL_law_827 rfl rfl ?_
  refine l_arg 1 X hSc hL hk (by decide) (by decide +kernel) dL_law_828 dL_law_829 dL_law_831 dL_law_832 dL_law_833 rfl rfl ?_
  refine l_arg 2 X hSc hL hk (by decide) (by decide +kernel) dL_law_834 dL_law_835 dL_law_837 dL_law_838 dL_law_839 rfl rfl ?_
  refine l_callF X ml_RL_99 dL_law_840 (ct_X9_suspects _ _ _ _ _ _ _ _ _ _ _ _ _ _ _ _ (xs (6 * k + 1)) (xs (6 * k + 2)) hG hZ h0) rfl rfl (by decide) (by decide) (Nat.le_of_ble_eq_true rfl) (fun D2 be2 hb2 => ?_)
  refine ei_aload_n X dL_law_843 rfl rfl ?_
  refine l_arg 1 X hSc hL hk (by decide) (by decide +kernel) dL_law_844 dL_law_845 dL_law_847 dL_law_848 dL_law_849 rfl rfl ?_
  refine l_arg 2 X hSc hL hk (by decide) (by decide +kernel) dL_law_850 dL_law_851 dL_law_853 dL_law_854 dL_law_855 rfl rfl ?_
  refine l_callMP X ml_RL_102 dL_law_856 (ct_X10_suspects _ _ _ _ _ _ _ _ _ _ _ _ _ _ _ _ (xs (6 * k + 1)) (xs (6 * k + 2)) hRS hG.1) rfl rfl rfl rfl (by decide) (by decide) (Nat.le_of_ble_eq_true rfl) (fun M2 hk2 => ?_)
  refine l_eqI (tgt := 1734) X dL_law_859 (by decide) ?_
  exact kk _ _ _ _ _ _ _ (hR.k hG hb2 hk2)
set_option maxHeartbeats 1000000 in
theorem lw_buy {x : e_T} {n : Nat} {w se sp hr lt hd sc : Int32} {so fi wo : Nat → Int32} {D T : St} {im : Bool} {Z : Nat → Sh} {be : Nat → Int32} {g : Nat → Int64} {I : Nat → Int32} {A : Nat → Nat → Int32} {B : Nat → Nat → Int64} {K : Value} {L k : Nat} {xs : Nat → Int32} (X : e_X x RL cL_law 18) (hSc : l_S x L xs) (hL : L ≤ 3072) (hk : 6 * k + 6 ≤ L) (hR : lwR (n, w, se, sp, hr, lt, hd, sc, so, fi, wo) T im Z be (I, A, B, K)) (kk : l_K x k g) : e_E x 864 (l_ls k) [] (lC (n, w, se, sp, hr, lt, hd, sc, so, fi, wo) D T im Z be g (n, w, se, sp, hr, lt, hd, sc, so, fi, wo) (I, A, B, K)) := by
  have hG := hR.1
  have hM := hR.2.1
  have hRS := hR.2.2.1
  have hZ := RS_ok hRS
  have h0 := hR.2.2.2.1
  refine ei_aload_n X dL_law_864 rfl rfl ?_
  refine l_arg 1 X hSc hL hk (by decide) (by decide +kernel) dL_law_865 dL_law_866 dL_law_868 dL_law_869 dL_law_870 rfl rfl ?_
  refine l_callF X ml_RL_103 dL_law_871 (ct_X9_buy _ _ _ _ _ _ _ _ _ _ _ _ _ _ _ _ (xs (6 * k + 1)) hG h0) rfl rfl (by decide) (by decide) (Nat.le_of_ble_eq_true rfl) (fun D2 be2 hb2 => ?_)
  refine ei_aload_n X dL_law_874 rfl rfl ?_
  refine l_arg 1 X hSc hL hk (by decide) (by decide +kernel) dL_law_875 dL_law_876 dL_law_878 dL_law_879 dL_law_880 rfl rfl ?_
  refine l_callMP X ml_RL_106 dL_law_881 (ct_X10_buy _ _ _ _ _ _ _ _ _ _ _ _ _ _ _ (xs (6 * k + 1)) hG hM) rfl rfl rfl rfl (by decide) (by decide) (Nat.le_of_ble_eq_true rfl) (fun M2 hk2 => ?_)
  refine l_eqI (tgt := 1734) X dL_law_884 (by decide) ?_
  exact kk _ _ _ _ _ _ _ (hR.k hG hb2 hk2)
set_option maxHeartbeats 1000000 in
theorem lw_light {x : e_T} {n : Nat} {w se sp hr lt hd sc : Int32} {so fi wo : Nat → Int32} {D T : St} {im : Bool} {Z : Nat → Sh} {be : Nat → Int32} {g : Nat → Int64} {I : Nat → Int32} {A : Nat → Nat → Int32} {B : Nat → Nat → Int64} {K : Value} {L k : Nat} {xs : Nat → Int32} (X : e_X x RL cL_law 18) (hSc : l_S x L xs) (hL : L ≤ 3072) (hk : 6 * k + 6 ≤ L) (hR : lwR (n, w, se, sp, hr, lt, hd, sc, so, fi, wo) T im Z be (I, A, B, K)) (kk : l_K x k g) : e_E x 889 (l_ls k) [] (lC (n, w, se, sp, hr, lt, hd, sc, so, fi, wo) D T im Z be g (n, w, se, sp, hr, lt, hd, sc, so, fi, wo) (I, A, B, K)) := by
  have hG := hR.1
  have hM := hR.2.1
  have hRS := hR.2.2.1
  have hZ := RS_ok hRS
  have h0 := hR.2.2.2.1
  refine ei_aload_n X dL_law_889 rfl rfl ?_
  refine l_arg 1 X hSc hL hk (by decide) (by decide +kernel) dL_law_890 dL_law_891 dL_law_893 dL_law_894 dL_law_895 rfl rfl ?_
  refine l_arg 2 X hSc hL hk (by decide) (by decide +kernel) dL_law_896 dL_law_897 dL_law_899 dL_law_900 dL_law_901 rfl rfl ?_
  refine l_callF X ml_RL_107 dL_law_902 (ct_X9_light _ _ _ _ _ _ _ _ _ _ _ _ _ _ _ _ (xs (6 * k + 1)) (xs (6 * k + 2)) hG h0) rfl rfl (by decide) (by decide) (Nat.le_of_ble_eq_true rfl) (fun D2 be2 hb2 => ?_)
  refine ei_aload_n X dL_law_905 rfl rfl ?_
  refine l_arg 1 X hSc hL hk (by decide) (by decide +kernel) dL_law_906 dL_law_907 dL_law_909 dL_law_910 dL_law_911 rfl rfl ?_
  refine l_arg 2 X hSc hL hk (by decide) (by decide +kernel) dL_law_912 dL_law_913 dL_law_915 dL_law_916 dL_law_917 rfl rfl ?_
  refine l_callMP X ml_RL_110 dL_law_918 (ct_X10_light _ _ _ _ _ _ _ _ _ _ _ _ _ _ _ (xs (6 * k + 1)) (xs (6 * k + 2)) hG hM) rfl rfl rfl rfl (by decide) (by decide) (Nat.le_of_ble_eq_true rfl) (fun M2 hk2 => ?_)
  refine l_eqI (tgt := 1734) X dL_law_921 (by decide) ?_
  exact kk _ _ _ _ _ _ _ (hR.k hG hb2 hk2)
set_option maxHeartbeats 1000000 in
theorem lw_split {x : e_T} {n : Nat} {w se sp hr lt hd sc : Int32} {so fi wo : Nat → Int32} {D T : St} {im : Bool} {Z : Nat → Sh} {be : Nat → Int32} {g : Nat → Int64} {I : Nat → Int32} {A : Nat → Nat → Int32} {B : Nat → Nat → Int64} {K : Value} {L k : Nat} {xs : Nat → Int32} (X : e_X x RL cL_law 18) (hSc : l_S x L xs) (hL : L ≤ 3072) (hk : 6 * k + 6 ≤ L) (hR : lwR (n, w, se, sp, hr, lt, hd, sc, so, fi, wo) T im Z be (I, A, B, K)) (kk : l_K x k g) : e_E x 926 (l_ls k) [] (lC (n, w, se, sp, hr, lt, hd, sc, so, fi, wo) D T im Z be g (n, w, se, sp, hr, lt, hd, sc, so, fi, wo) (I, A, B, K)) := by
  have hG := hR.1
  have hM := hR.2.1
  have hRS := hR.2.2.1
  have hZ := RS_ok hRS
  have h0 := hR.2.2.2.1
  refine ei_aload_n X dL_law_926 rfl rfl ?_
  refine l_arg 1 X hSc hL hk (by decide) (by decide +kernel) dL_law_927 dL_law_928 dL_law_930 dL_law_931 dL_law_932 rfl rfl ?_
  refine l_arg 2 X hSc hL hk (by decide) (by decide +kernel) dL_law_933 dL_law_934 dL_law_936 dL_law_937 dL_law_938 rfl rfl ?_
  refine l_callF X ml_RL_111 dL_law_939 (ct_X9_split _ _ _ _ _ _ _ _ _ _ _ _ _ _ _ _ (xs (6 * k + 1)) (xs (6 * k + 2)) hG h0) rfl rfl (by decide) (by decide) (Nat.le_of_ble_eq_true rfl) (fun D2 be2 hb2 => ?_)
  refine ei_aload_n X dL_law_942 rfl rfl ?_
  refine l_arg 1 X hSc hL hk (by decide) (by decide +kernel) dL_law_943 dL_law_944 dL_law_946 dL_law_947 dL_law_948 rfl rfl ?_
  refine l_arg 2 X hSc hL hk (by decide) (by decide +kernel) dL_law_949 dL_law_950 dL_law_952 dL_law_953 dL_law_954 rfl rfl ?_
  refine l_callMP X ml_RL_114 dL_law_955 (ct_X10_split _ _ _ _ _ _ _ _ _ _ _ _ _ _ _ (xs (6 * k + 1)) (xs (6 * k + 2)) hG hM) rfl rfl rfl rfl (by decide) (by decide) (Nat.le_of_ble_eq_true rfl) (fun M2 hk2 => ?_)
  refine l_eqI (tgt := 1734) X dL_law_958 (by decide) ?_
  exact kk _ _ _ _ _ _ _ (hR.k hG hb2 hk2)
set_option maxHeartbeats 1000000 in
theorem lw_beat {x : e_T} {n : Nat} {w se sp hr lt hd sc : Int32} {so fi wo : Nat → Int32} {D T : St} {im : Bool} {Z : Nat → Sh} {be : Nat → Int32} {g : Nat → Int64} {I : Nat → Int32} {A : Nat → Nat → Int32} {B : Nat → Nat → Int64} {K : Value} {L k : Nat} {xs : Nat → Int32} (X : e_X x RL cL_law 18) (hSc : l_S x L xs) (hL : L ≤ 3072) (hk : 6 * k + 6 ≤ L) (hR : lwR (n, w, se, sp, hr, lt, hd, sc, so, fi, wo) T im Z be (I, A, B, K)) (kk : l_K x k g) : e_E x 963 (l_ls k) [] (lC (n, w, se, sp, hr, lt, hd, sc, so, fi, wo) D T im Z be g (n, w, se, sp, hr, lt, hd, sc, so, fi, wo) (I, A, B, K)) := by
  have hG := hR.1
  have hM := hR.2.1
  have hRS := hR.2.2.1
  have hZ := RS_ok hRS
  have h0 := hR.2.2.2.1
  refine ei_aload_n X dL_law_963 rfl rfl ?_
  refine l_arg 1 X hSc hL hk (by decide) (by decide +kernel) dL_law_964 dL_law_965 dL_law_967 dL_law_968 dL_law_969 rfl rfl ?_
  refine l_arg 2 X hSc hL hk (by decide) (by decide +kernel) dL_law_970 dL_law_971 dL_law_973 dL_law_974 dL_law_975 rfl rfl ?_
  refine l_arg 3 X hSc hL hk (by decide) (by decide +kernel) dL_law_976 dL_law_977 dL_law_979 dL_law_980 dL_law_981 rfl rfl ?_
  refine l_callF X ml_RL_115 dL_law_982 (ct_X9_beat _ _ _ _ _ _ _ _ _ _ _ _ _ _ _ _ (xs (6 * k + 1)) (xs (6 * k + 2)) (xs (6 * k + 3)) hG h0) rfl rfl (by decide) (by decide) (Nat.le_of_ble_eq_true rfl) (fun D2 be2 hb2 => ?_)
  refine ei_aload_n X dL_law_985 rfl rfl ?_
  refine l_arg 1 X hSc hL hk (by decide) (by decide +kernel) dL_law_986 dL_law_987 dL_law_989 dL_law_990 dL_law_991 rfl rfl ?_
  refine l_arg 2 X hSc hL hk (by decide) (by decide +kernel) dL_law_992 dL_law_993 dL_law_995 dL_law_996 dL_law_997 rfl rfl ?_
  refine l_arg 3 X hSc hL hk (by decide) (by decide +kernel) dL_law_998 dL_law_999 dL_law_1001 dL_law_1002 dL_law_1003 rfl rfl ?_
  refine l_callMP X ml_RL_118 dL_law_1004 (ct_X10_beat _ _ _ _ _ _ _ _ _ _ _ _ _ _ _ (xs (6 * k + 1)) (xs (6 * k + 2)) (xs (6 * k + 3)) hG hM) rfl rfl rfl rfl (by decide) (by decide) (Nat.le_of_ble_eq_true rfl) (fun M2 hk2 => ?_)
  refine l_eqI (tgt := 1734) X dL_law_1007 (by decide) ?_
  exact kk _ _ _ _ _ _ _ (hR.k hG hb2 hk2)
set_option maxHeartbeats 1000000 in
theorem lw_end {x : e_T} {n : Nat} {w se sp hr lt hd sc : Int32} {so fi wo : Nat → Int32} {D T : St} {im : Bool} {Z : Nat → Sh} {be : Nat → Int32} {g : Nat → Int64} {I : Nat → Int32} {A : Nat → Nat → Int32} {B : Nat → Nat → Int64} {K : Value} {L k : Nat} {xs : Nat → Int32} (X : e_X x RL cL_law 18) (hSc : l_S x L xs) (hL : L ≤ 3072) (hk : 6 * k + 6 ≤ L) (hR : lwR (n, w, se, sp, hr, lt, hd, sc, so, fi, wo) T im Z be (I, A, B, K)) (kk : l_K x k g) : e_E x 1012 (l_ls k) [] (lC (n, w, se, sp, hr, lt, hd, sc, so, fi, wo) D T im Z be g (n, w, se, sp, hr, lt, hd, sc, so, fi, wo) (I, A, B, K)) := by
  have hG := hR.1
  have hM := hR.2.1
  have hRS := hR.2.2.1
  have hZ := RS_ok hRS
  have h0 := hR.2.2.2.1
  refine ei_aload_n X dL_law_1012 rfl rfl ?_
  refine l_arg 1 X hSc hL hk (by decide) (by decide +kernel) dL_law_1013 dL_law_1014 dL_law_1016 dL_law_1017 dL_law_1018 rfl rfl ?_
  refine l_callF X ml_RL_119 dL_law_1019 (ct_X9_end _ _ _ _ _ _ _ _ _ _ _ _ _ _ _ _ (xs (6 * k + 1)) hG h0) rfl rfl (by decide) (by decide) (Nat.le_of_ble_eq_true rfl) (fun D2 be2 hb2 => ?_)
  refine ei_aload_n X dL_law_1022 rfl rfl ?_
  refine l_arg 1 X hSc hL hk (by decide) (by decide +kernel) dL_law_1023 dL_law_1024 dL_law_1026 dL_law_1027 dL_law_1028 rfl rfl ?_
  refine l_callMP X ml_RL_122 dL_law_1029 (ct_X10_end _ _ _ _ _ _ _ _ _ _ _ _ _ _ _ (xs (6 * k + 1)) hG) rfl rfl rfl rfl (by decide) (by decide) (Nat.le_of_ble_eq_true rfl) (fun M2 hk2 => ?_)
  refine l_eqI (tgt := 1734) X dL_law_1032 (by decide) ?_
  exact kk _ _ _ _ _ _ _ (hR.k hG hb2 hk2)
set_option maxHeartbeats 1000000 in
theorem lw_whatIs {x : e_T} {n : Nat} {w se sp hr lt hd sc : Int32} {so fi wo : Nat → Int32} {D T : St} {im : Bool} {Z : Nat → Sh} {be : Nat → Int32} {g : Nat → Int64} {I : Nat → Int32} {A : Nat → Nat → Int32} {B : Nat → Nat → Int64} {K : Value} {L k : Nat} {xs : Nat → Int32} (X : e_X x RL cL_law 18) (hSc : l_S x L xs) (hL : L ≤ 3072) (hk : 6 * k + 6 ≤ L) (hR : lwR (n, w, se, sp, hr, lt, hd, sc, so, fi, wo) T im Z be (I, A, B, K)) (kk : l_K x k g) : e_E x 1037 (l_ls k) [] (lC (n, w, se, sp, hr, lt, hd, sc, so, fi, wo) D T im Z be g (n, w, se, sp, hr, lt, hd, sc, so, fi, wo) (I, A, B, K)) := by
  have hG := hR.1
  have hM := hR.2.1
  have hRS := hR.2.2.1
  have hZ := RS_ok hRS
  have h0 := hR.2.2.2.1
  refine ei_aload_n X dL_law_1037 rfl rfl ?_
  refine l_arg 1 X hSc hL hk (by decide) (by decide +kernel) dL_law_1038 dL_law_1039 dL_law_1041 dL_law_1042 dL_law_1043 rfl rfl ?_
  refine l_arg 2 X hSc hL hk (by decide) (by decide +kernel) dL_law_1044 dL_law_1045 dL_law_1047 dL_law_1048 dL_law_1049 rfl rfl ?_
  refine l_arg 3 X hSc hL hk (by decide) (by decide +kernel) dL_law_1050 dL_law_1051 dL_law_1053 dL_law_1054 dL_law_1055 rfl rfl ?_
  refine l_callF X ml_RL_123 dL_law_1056 (ct_X9_whatIs _ _ _ _ _ _ _ _ _ _ _ _ _ _ _ _ (xs (6 * k + 1)) (xs (6 * k + 2)) (xs (6 * k + 3)) hG hZ h0) rfl rfl (by decide) (by decide) (Nat.le_of_ble_eq_true rfl) (fun D2 be2 hb2 => ?_)
  refine ei_aload_n X dL_law_1059 rfl rfl ?_
  refine l_arg 1 X hSc hL hk (by decide) (by decide +kernel) dL_law_1060 dL_law_1061 dL_law_1063 dL_law_1064 dL_law_1065 rfl rfl ?_
  refine l_arg 2 X hSc hL hk (by decide) (by decide +kernel) dL_law_1066 dL_law_1067 dL_law_1069 dL_law_1070 dL_law_1071 rfl rfl ?_
  refine l_arg 3 X hSc hL hk (by decide) (by decide +kernel) dL_law_1072 dL_law_1073 dL_law_1075 dL_law_1076 dL_law_1077 rfl rfl ?_
  refine l_callMP X ml_RL_126 dL_law_1078 (ct_X10_whatIs _ _ _ _ _ _ _ _ _ _ _ _ _ _ _ _ (xs (6 * k + 1)) (xs (6 * k + 2)) (xs (6 * k + 3)) hG hM hRS) rfl rfl rfl rfl (by decide) (by decide) (Nat.le_of_ble_eq_true rfl) (fun M2 hk2 => ?_)
  refine l_eqI (tgt := 1734) X dL_law_1081 (by decide) ?_
  exact kk _ _ _ _ _ _ _ (hR.k hG hb2 hk2)
set_option maxHeartbeats 1000000 in
theorem lw_wornFrom {x : e_T} {n : Nat} {w se sp hr lt hd sc : Int32} {so fi wo : Nat → Int32} {D T : St} {im : Bool} {Z : Nat → Sh} {be : Nat → Int32} {g : Nat → Int64} {I : Nat → Int32} {A : Nat → Nat → Int32} {B : Nat → Nat → Int64} {K : Value} {L k : Nat} {xs : Nat → Int32} (X : e_X x RL cL_law 18) (hSc : l_S x L xs) (hL : L ≤ 3072) (hk : 6 * k + 6 ≤ L) (hR : lwR (n, w, se, sp, hr, lt, hd, sc, so, fi, wo) T im Z be (I, A, B, K)) (kk : l_K x k g) : e_E x 1086 (l_ls k) [] (lC (n, w, se, sp, hr, lt, hd, sc, so, fi, wo) D T im Z be g (n, w, se, sp, hr, lt, hd, sc, so, fi, wo) (I, A, B, K)) := by
  have hG := hR.1
  have hM := hR.2.1
  have hRS := hR.2.2.1
  have hZ := RS_ok hRS
  have h0 := hR.2.2.2.1
  refine ei_aload_n X dL_law_1086 rfl rfl ?_
  refine l_arg 1 X hSc hL hk (by decide) (by decide +kernel) dL_law_1087 dL_law_1088 dL_law_1090 dL_law_1091 dL_law_1092 rfl rfl ?_
  refine l_arg 2 X hSc hL hk (by decide) (by decide +kernel) dL_law_1093 dL_law_1094 dL_law_1096 dL_law_1097 dL_law_1098 rfl rfl ?_
  refine l_arg 3 X hSc hL hk (by decide) (by decide +kernel) dL_law_1099 dL_law_1100 dL_law_1102 dL_law_1103 dL_law_1104 rfl rfl ?_
  refine l_callF X ml_RL_127 dL_law_1105 (ct_X9_wornFrom _ _ _ _ _ _ _ _ _ _ _ _ _ _ _ _ (xs (6 * k + 1)) (xs (6 * k + 2)) (xs (6 * k + 3)) hG hZ h0) rfl rfl (by decide) (by decide) (Nat.le_of_ble_eq_true rfl) (fun D2 be2 hb2 => ?_)
  refine ei_aload_n X dL_law_1108 rfl rfl ?_
  refine l_arg 1 X hSc hL hk (by decide) (by decide +kernel) dL_law_1109 dL_law_1110 dL_law_1112 dL_law_1113 dL_law_1114 rfl rfl ?_
  refine l_arg 2 X hSc hL hk (by decide) (by decide +kernel) dL_law_1115 dL_law_1116 dL_law_1118 dL_law_1119 dL_law_1120 rfl rfl ?_
  refine l_arg 3 X hSc hL hk (by decide) (by decide +kernel) dL_law_1121 dL_law_1122 dL_law_1124 dL_law_1125 dL_law_1126 rfl rfl ?_
  refine l_callMP X ml_RL_130 dL_law_1127 (ct_X10_wornFrom _ _ _ _ _ _ _ _ _ _ _ _ _ _ _ _ (xs (6 * k + 1)) (xs (6 * k + 2)) (xs (6 * k + 3)) hG hM hRS) rfl rfl rfl rfl (by decide) (by decide) (Nat.le_of_ble_eq_true rfl) (fun M2 hk2 => ?_)
  refine l_eqI (tgt := 1734) X dL_law_1130 (by decide) ?_
  exact kk _ _ _ _ _ _ _ (hR.k hG hb2 hk2)
set_option maxHeartbeats 1000000 in
theorem lw_frost {x : e_T} {n : Nat} {w se sp hr lt hd sc : Int32} {so fi wo : Nat → Int32} {D T : St} {im : Bool} {Z : Nat → Sh} {be : Nat → Int32} {g : Nat → Int64} {I : Nat → Int32} {A : Nat → Nat → Int32} {B : Nat → Nat → Int64} {K : Value} {L k : Nat} {xs : Nat → Int32} (X : e_X x RL cL_law 18) (hSc : l_S x L xs) (hL : L ≤ 3072) (hk : 6 * k + 6 ≤ L) (hR : lwR (n, w, se, sp, hr, lt, hd, sc, so, fi, wo) T im Z be (I, A, B, K)) (kk : l_K x k g) : e_E x 1135 (l_ls k) [] (lC (n, w, se, sp, hr, lt, hd, sc, so, fi, wo) D T im Z be g (n, w, se, sp, hr, lt, hd, sc, so, fi, wo) (I, A, B, K)) := by
  have hG := hR.1
  have hM := hR.2.1
  have hRS := hR.2.2.1
  have hZ := RS_ok hRS
  have h0 := hR.2.2.2.1
  refine ei_aload_n X dL_law_1135 rfl rfl ?_
  refine l_arg 1 X hSc hL hk (by decide) (by decide +kernel) dL_law_1136 dL_law_1137 dL_law_1139 dL_law_1140 dL_law_1141 rfl rfl ?_
  refine l_arg 2 X hSc hL hk (by decide) (by decide +kernel) dL_law_1142 dL_law_1143 dL_law_1145 dL_law_1146 dL_law_1147 rfl rfl ?_
  refine l_arg 3 X hSc hL hk (by decide) (by decide +kernel) dL_law_1148 dL_law_1149 dL_law_1151 dL_law_1152 dL_law_1153 rfl rfl ?_
  refine l_arg 4 X hSc hL hk (by decide) (by decide +kernel) dL_law_1154 dL_law_1155 dL_law_1157 dL_law_1158 dL_law_1159 rfl rfl ?_
  refine l_callF X ml_RL_131 dL_law_1160 (ct_X9_frost _ _ _ _ _ _ _ _ _ _ _ _ _ _ _ _ (xs (6 * k + 1)) (xs (6 * k + 2)) (xs (6 * k + 3)) (xs (6 * k + 4)) hG h0) rfl rfl (by decide) (by decide) (Nat.le_of_ble_eq_true rfl) (fun D2 be2 hb2 => ?_)
  refine ei_aload_n X dL_law_1163 rfl rfl ?_
  refine l_arg 1 X hSc hL hk (by decide) (by decide +kernel) dL_law_1164 dL_law_1165 dL_law_1167 dL_law_1168 dL_law_1169 rfl rfl ?_
  refine l_arg 2 X hSc hL hk (by decide) (by decide +kernel) dL_law_1170 dL_law_1171 dL_law_1173 dL_law_1174 dL_law_1175 rfl rfl ?_
  refine l_arg 3 X hSc hL hk (by decide) (by decide +kernel) dL_law_1176 dL_law_1177 dL_law_1179 dL_law_1180 dL_law_1181 rfl rfl ?_
  refine l_arg 4 X hSc hL hk (by decide) (by decide +kernel) dL_law_1182 dL_law_1183 dL_law_1185 dL_law_1186 dL_law_1187 rfl rfl ?_
  refine l_callMP X ml_RL_135 dL_law_1188 (ct_X10_frost _ _ _ _ _ _ _ _ _ _ _ _ _ _ _ (xs (6 * k + 1)) (xs (6 * k + 2)) (xs (6 * k + 3)) (xs (6 * k + 4)) hG hM) rfl rfl rfl rfl (by decide) (by decide) (Nat.le_of_ble_eq_true rfl) (fun M2 hk2 => ?_)
  refine l_eqL (tgt := 1734) X dL_law_1191 dL_law_1192 (by decide) ?_
  exact kk _ _ _ _ _ _ _ (hR.k hG hb2 hk2)
set_option maxHeartbeats 1000000 in
theorem lw_share {x : e_T} {n : Nat} {w se sp hr lt hd sc : Int32} {so fi wo : Nat → Int32} {D T : St} {im : Bool} {Z : Nat → Sh} {be : Nat → Int32} {g : Nat → Int64} {I : Nat → Int32} {A : Nat → Nat → Int32} {B : Nat → Nat → Int64} {K : Value} {L k : Nat} {xs : Nat → Int32} (X : e_X x RL cL_law 18) (hSc : l_S x L xs) (hL : L ≤ 3072) (hk : 6 * k + 6 ≤ L) (hR : lwR (n, w, se, sp, hr, lt, hd, sc, so, fi, wo) T im Z be (I, A, B, K)) (kk : l_K x k g) : e_E x 1197 (l_ls k) [] (lC (n, w, se, sp, hr, lt, hd, sc, so, fi, wo) D T im Z be g (n, w, se, sp, hr, lt, hd, sc, so, fi, wo) (I, A, B, K)) := by
  have hG := hR.1
  have hM := hR.2.1
  have hRS := hR.2.2.1
  have hZ := RS_ok hRS
  have h0 := hR.2.2.2.1
  refine ei_aload_n X dL_law_1197 rfl rfl ?_
  refine l_arg 1 X hSc hL hk (by decide) (by decide +kernel) dL_law_1198 dL_law_1199 dL_law_1201 dL_law_1202 dL_law_1203 rfl rfl ?_
  refine l_arg 2 X hSc hL hk (by decide) (by decide +kernel) dL_law_1204 dL_law_1205 dL_law_1207 dL_law_1208 dL_law_1209 rfl rfl ?_
  refine l_callF X ml_RL_136 dL_law_1210 (ct_X9_share _ _ _ _ _ _ _ _ _ _ _ _ _ _ _ _ (xs (6 * k + 1)) (xs (6 * k + 2)) hG h0) rfl rfl (by decide) (by decide) (Nat.le_of_ble_eq_true rfl) (fun D2 be2 hb2 => ?_)
  refine ei_aload_n X dL_law_1213 rfl rfl ?_
  refine l_arg 1 X hSc hL hk (by decide) (by decide +kernel) dL_law_1214 dL_law_1215 dL_law_1217 dL_law_1218 dL_law_1219 rfl rfl ?_
  refine l_arg 2 X hSc hL hk (by decide) (by decide +kernel) dL_law_1220 dL_law_1221 dL_law_1223 dL_law_1224 dL_law_1225 rfl rfl ?_
  refine l_callMP X ml_RL_139 dL_law_1226 (ct_X10_share _ _ _ _ _ _ _ _ _ _ _ _ _ _ _ (xs (6 * k + 1)) (xs (6 * k + 2)) hG) rfl rfl rfl rfl (by decide) (by decide) (Nat.le_of_ble_eq_true rfl) (fun M2 hk2 => ?_)
  refine l_eqL (tgt := 1734) X dL_law_1229 dL_law_1230 (by decide) ?_
  exact kk _ _ _ _ _ _ _ (hR.k hG hb2 hk2)
set_option maxHeartbeats 1000000 in
theorem lw_forged {x : e_T} {n : Nat} {w se sp hr lt hd sc : Int32} {so fi wo : Nat → Int32} {D T : St} {im : Bool} {Z : Nat → Sh} {be : Nat → Int32} {g : Nat → Int64} {I : Nat → Int32} {A : Nat → Nat → Int32} {B : Nat → Nat → Int64} {K : Value} {L k : Nat} {xs : Nat → Int32} (X : e_X x RL cL_law 18) (hSc : l_S x L xs) (hL : L ≤ 3072) (hk : 6 * k + 6 ≤ L) (hR : lwR (n, w, se, sp, hr, lt, hd, sc, so, fi, wo) T im Z be (I, A, B, K)) (kk : l_K x k g) : e_E x 1235 (l_ls k) [] (lC (n, w, se, sp, hr, lt, hd, sc, so, fi, wo) D T im Z be g (n, w, se, sp, hr, lt, hd, sc, so, fi, wo) (I, A, B, K)) := by
  have hG := hR.1
  have hM := hR.2.1
  have hRS := hR.2.2.1
  have hZ := RS_ok hRS
  have h0 := hR.2.2.2.1
  refine ei_aload_n X dL_law_1235 rfl rfl ?_
  refine l_arg 1 X hSc hL hk (by decide) (by decide +kernel) dL_law_1236 dL_law_1237 dL_law_1239 dL_law_1240 dL_law_1241 rfl rfl ?_
  refine l_callF X ml_RL_140 dL_law_1242 (ct_X9_forged _ _ _ _ _ _ _ _ _ _ _ _ _ _ _ _ (xs (6 * k + 1)) hG hZ h0) rfl rfl (by decide) (by decide) (Nat.le_of_ble_eq_true rfl) (fun D2 be2 hb2 => ?_)
  refine ei_aload_n X dL_law_1245 rfl rfl ?_
  refine l_arg 1 X hSc hL hk (by decide) (by decide +kernel) dL_law_1246 dL_law_1247 dL_law_1249 dL_law_1250 dL_law_1251 rfl rfl ?_
  refine l_callMP X ml_RL_143 dL_law_1252 (ct_X10_forged _ _ _ _ _ _ _ _ _ _ _ _ _ _ _ _ (xs (6 * k + 1)) hRS hG) rfl rfl rfl rfl (by decide) (by decide) (Nat.le_of_ble_eq_true rfl) (fun M2 hk2 => ?_)
  refine l_eqI (tgt := 1734) X dL_law_1255 (by decide) ?_
  exact kk _ _ _ _ _ _ _ (hR.k hG hb2 hk2)
set_option maxHeartbeats 1000000 in
theorem lw_judge {x : e_T} {n : Nat} {w se sp hr lt hd sc : Int32} {so fi wo : Nat → Int32} {D T : St} {im : Bool} {Z : Nat → Sh} {be : Nat → Int32} {g : Nat → Int64} {I : Nat → Int32} {A : Nat → Nat → Int32} {B : Nat → Nat → Int64} {K : Value} {L k : Nat} {xs : Nat → Int32} (X : e_X x RL cL_law 18) (hSc : l_S x L xs) (hL : L ≤ 3072) (hk : 6 * k + 6 ≤ L) (hR : lwR (n, w, se, sp, hr, lt, hd, sc, so, fi, wo) T im Z be (I, A, B, K)) (kk : l_K x k g) : e_E x 1260 (l_ls k) [] (lC (n, w, se, sp, hr, lt, hd, sc, so, fi, wo) D T im Z be g (n, w, se, sp, hr, lt, hd, sc, so, fi, wo) (I, A, B, K)) := by
  have hG := hR.1
  have hM := hR.2.1
  have hRS := hR.2.2.1
  have hZ := RS_ok hRS
  have h0 := hR.2.2.2.1
  refine ei_aload_n X dL_law_1260 rfl rfl ?_
  refine l_arg 1 X hSc hL hk (by decide) (by decide +kernel) dL_law_1261 dL_law_1262 dL_law_1264 dL_law_1265 dL_law_1266 rfl rfl ?_
  refine l_callF X ml_RL_144 dL_law_1267 (ct_X9_judge _ _ _ _ _ _ _ _ _ _ _ _ _ _ _ _ (xs (6 * k + 1)) hG hZ h0) rfl rfl (by decide) (by decide) (Nat.le_of_ble_eq_true rfl) (fun D2 be2 hb2 => ?_)
  refine ei_aload_n X dL_law_1270 rfl rfl ?_
  refine l_arg 1 X hSc hL hk (by decide) (by decide +kernel) dL_law_1271 dL_law_1272 dL_law_1274 dL_law_1275 dL_law_1276 rfl rfl ?_
  refine l_callMP X ml_RL_147 dL_law_1277 (ct_X10_judge _ _ _ _ _ _ _ _ _ _ _ _ _ _ _ _ (xs (6 * k + 1)) hG hM hRS) rfl rfl rfl rfl (by decide) (by decide) (Nat.le_of_ble_eq_true rfl) (fun M2 hk2 => ?_)
  refine l_eqI (tgt := 1734) X dL_law_1280 (by decide) ?_
  exact kk _ _ _ _ _ _ _ (hR.k hG hb2 hk2)
set_option maxHeartbeats 1000000 in
theorem lw_winters {x : e_T} {n : Nat} {w se sp hr lt hd sc : Int32} {so fi wo : Nat → Int32} {D T : St} {im : Bool} {Z : Nat → Sh} {be : Nat → Int32} {g : Nat → Int64} {I : Nat → Int32} {A : Nat → Nat → Int32} {B : Nat → Nat → Int64} {K : Value} {L k : Nat} {xs : Nat → Int32} (X : e_X x RL cL_law 18) (hSc : l_S x L xs) (hL : L ≤ 3072) (hk : 6 * k + 6 ≤ L) (hR : lwR (n, w, se, sp, hr, lt, hd, sc, so, fi, wo) T im Z be (I, A, B, K)) (kk : l_K x k g) : e_E x 1285 (l_ls k) [] (lC (n, w, se, sp, hr, lt, hd, sc, so, fi, wo) D T im Z be g (n, w, se, sp, hr, lt, hd, sc, so, fi, wo) (I, A, B, K)) := by
  have hG := hR.1
  have hM := hR.2.1
  have hRS := hR.2.2.1
  have hZ := RS_ok hRS
  have h0 := hR.2.2.2.1
  refine ei_aload_n X dL_law_1285 rfl rfl ?_
  refine l_arg 1 X hSc hL hk (by decide) (by decide +kernel) dL_law_1286 dL_law_1287 dL_law_1289 dL_law_1290 dL_law_1291 rfl rfl ?_
  refine l_arg 2 X hSc hL hk (by decide) (by decide +kernel) dL_law_1292 dL_law_1293 dL_law_1295 dL_law_1296 dL_law_1297 rfl rfl ?_
  refine l_arg 3 X hSc hL hk (by decide) (by decide +kernel) dL_law_1298 dL_law_1299 dL_law_1301 dL_law_1302 dL_law_1303 rfl rfl ?_
  refine l_callF X ml_RL_148 dL_law_1304 (ct_X9_winters _ _ _ _ _ _ _ _ _ _ _ _ _ _ _ _ (xs (6 * k + 1)) (xs (6 * k + 2)) (xs (6 * k + 3)) hG h0) rfl rfl (by decide) (by decide) (Nat.le_of_ble_eq_true rfl) (fun D2 be2 hb2 => ?_)
  refine ei_aload_n X dL_law_1307 rfl rfl ?_
  refine l_arg 1 X hSc hL hk (by decide) (by decide +kernel) dL_law_1308 dL_law_1309 dL_law_1311 dL_law_1312 dL_law_1313 rfl rfl ?_
  refine l_arg 2 X hSc hL hk (by decide) (by decide +kernel) dL_law_1314 dL_law_1315 dL_law_1317 dL_law_1318 dL_law_1319 rfl rfl ?_
  refine l_arg 3 X hSc hL hk (by decide) (by decide +kernel) dL_law_1320 dL_law_1321 dL_law_1323 dL_law_1324 dL_law_1325 rfl rfl ?_
  refine l_callMP X ml_RL_151 dL_law_1326 (ct_X10_winters _ _ _ _ _ _ _ _ _ _ _ _ _ _ _ (xs (6 * k + 1)) (xs (6 * k + 2)) (xs (6 * k + 3)) hG hM) rfl rfl rfl rfl (by decide) (by decide) (Nat.le_of_ble_eq_true rfl) (fun M2 hk2 => ?_)
  refine l_eqI (tgt := 1734) X dL_law_1329 (by decide) ?_
  exact kk _ _ _ _ _ _ _ (hR.k hG hb2 hk2)
set_option maxHeartbeats 1000000 in
theorem lw_count {x : e_T} {n : Nat} {w se sp hr lt hd sc : Int32} {so fi wo : Nat → Int32} {D T : St} {im : Bool} {Z : Nat → Sh} {be : Nat → Int32} {g : Nat → Int64} {I : Nat → Int32} {A : Nat → Nat → Int32} {B : Nat → Nat → Int64} {K : Value} {L k : Nat} {xs : Nat → Int32} (X : e_X x RL cL_law 18) (hSc : l_S x L xs) (hL : L ≤ 3072) (hk : 6 * k + 6 ≤ L) (hR : lwR (n, w, se, sp, hr, lt, hd, sc, so, fi, wo) T im Z be (I, A, B, K)) (kk : l_K x k g) : e_E x 1360 (l_ls k) [] (lC (n, w, se, sp, hr, lt, hd, sc, so, fi, wo) D T im Z be g (n, w, se, sp, hr, lt, hd, sc, so, fi, wo) (I, A, B, K)) := by
  have hG := hR.1
  have hM := hR.2.1
  have hRS := hR.2.2.1
  have hZ := RS_ok hRS
  have h0 := hR.2.2.2.1
  refine ei_aload_n X dL_law_1360 rfl rfl ?_
  refine l_arg 1 X hSc hL hk (by decide) (by decide +kernel) dL_law_1361 dL_law_1362 dL_law_1364 dL_law_1365 dL_law_1366 rfl rfl ?_
  refine l_callF X ml_RL_160 dL_law_1367 (ct_X9_count _ _ _ _ _ _ _ _ _ _ _ _ _ _ _ _ (xs (6 * k + 1)) h0) rfl rfl (by decide) (by decide) (Nat.le_of_ble_eq_true rfl) (fun D2 be2 hb2 => ?_)
  refine ei_aload_n X dL_law_1370 rfl rfl ?_
  refine l_arg 1 X hSc hL hk (by decide) (by decide +kernel) dL_law_1371 dL_law_1372 dL_law_1374 dL_law_1375 dL_law_1376 rfl rfl ?_
  refine l_callMP X ml_RL_163 dL_law_1377 (ct_X10_count _ _ _ _ _ _ _ _ _ _ _ _ _ _ _ (xs (6 * k + 1))) rfl rfl rfl rfl (by decide) (by decide) (Nat.le_of_ble_eq_true rfl) (fun M2 hk2 => ?_)
  refine l_eqI (tgt := 1734) X dL_law_1380 (by decide) ?_
  exact kk _ _ _ _ _ _ _ (hR.k hG hb2 hk2)
set_option maxHeartbeats 1000000 in
theorem lw_keep {x : e_T} {n : Nat} {w se sp hr lt hd sc : Int32} {so fi wo : Nat → Int32} {D T : St} {im : Bool} {Z : Nat → Sh} {be : Nat → Int32} {g : Nat → Int64} {I : Nat → Int32} {A : Nat → Nat → Int32} {B : Nat → Nat → Int64} {K : Value} {L k : Nat} {xs : Nat → Int32} (X : e_X x RL cL_law 18) (hSc : l_S x L xs) (hL : L ≤ 3072) (hk : 6 * k + 6 ≤ L) (hR : lwR (n, w, se, sp, hr, lt, hd, sc, so, fi, wo) T im Z be (I, A, B, K)) (kk : l_K x k g) : e_E x 1385 (l_ls k) [] (lC (n, w, se, sp, hr, lt, hd, sc, so, fi, wo) D T im Z be g (n, w, se, sp, hr, lt, hd, sc, so, fi, wo) (I, A, B, K)) := by
  have hG := hR.1
  have hM := hR.2.1
  have hRS := hR.2.2.1
  have hZ := RS_ok hRS
  have h0 := hR.2.2.2.1
  refine ei_aload_n X dL_law_1385 rfl rfl ?_
  refine l_arg 1 X hSc hL hk (by decide) (by decide +kernel) dL_law_1386 dL_law_1387 dL_law_1389 dL_law_1390 dL_law_1391 rfl rfl ?_
  refine l_arg 2 X hSc hL hk (by decide) (by decide +kernel) dL_law_1392 dL_law_1393 dL_law_1395 dL_law_1396 dL_law_1397 rfl rfl ?_
  refine l_arg 3 X hSc hL hk (by decide) (by decide +kernel) dL_law_1398 dL_law_1399 dL_law_1401 dL_law_1402 dL_law_1403 rfl rfl ?_
  refine l_arg 4 X hSc hL hk (by decide) (by decide +kernel) dL_law_1404 dL_law_1405 dL_law_1407 dL_law_1408 dL_law_1409 rfl rfl ?_
  refine l_callF X ml_RL_164 dL_law_1410 (ct_X9_keep _ _ _ _ _ _ _ _ _ _ _ _ _ _ _ _ (xs (6 * k + 1)) (xs (6 * k + 2)) (xs (6 * k + 3)) (xs (6 * k + 4)) h0) rfl rfl (by decide) (by decide) (Nat.le_of_ble_eq_true rfl) (fun D2 be2 hb2 => ?_)
  refine ei_aload_n X dL_law_1413 rfl rfl ?_
  refine l_arg 1 X hSc hL hk (by decide) (by decide +kernel) dL_law_1414 dL_law_1415 dL_law_1417 dL_law_1418 dL_law_1419 rfl rfl ?_
  refine l_arg 2 X hSc hL hk (by decide) (by decide +kernel) dL_law_1420 dL_law_1421 dL_law_1423 dL_law_1424 dL_law_1425 rfl rfl ?_
  refine l_arg 3 X hSc hL hk (by decide) (by decide +kernel) dL_law_1426 dL_law_1427 dL_law_1429 dL_law_1430 dL_law_1431 rfl rfl ?_
  refine l_arg 4 X hSc hL hk (by decide) (by decide +kernel) dL_law_1432 dL_law_1433 dL_law_1435 dL_law_1436 dL_law_1437 rfl rfl ?_
  refine l_callMZ X ml_RL_167 dL_law_1438 (ct_X10_keep _ _ _ _ _ _ _ _ _ _ _ _ _ _ _ _ (xs (6 * k + 1)) (xs (6 * k + 2)) (xs (6 * k + 3)) (xs (6 * k + 4)) hRS) rfl rfl rfl rfl (by decide) (by decide) (Nat.le_of_ble_eq_true rfl) (fun M2 hk2 hr2 => ?_)
  refine l_eqI (tgt := 1734) X dL_law_1441 (by decide) ?_
  exact kk _ _ _ _ _ _ _ (hR.z hb2 hk2 hr2)
set_option maxHeartbeats 1000000 in
theorem lw_row {x : e_T} {n : Nat} {w se sp hr lt hd sc : Int32} {so fi wo : Nat → Int32} {D T : St} {im : Bool} {Z : Nat → Sh} {be : Nat → Int32} {g : Nat → Int64} {I : Nat → Int32} {A : Nat → Nat → Int32} {B : Nat → Nat → Int64} {K : Value} {L k : Nat} {xs : Nat → Int32} (X : e_X x RL cL_law 18) (hSc : l_S x L xs) (hL : L ≤ 3072) (hk : 6 * k + 6 ≤ L) (hR : lwR (n, w, se, sp, hr, lt, hd, sc, so, fi, wo) T im Z be (I, A, B, K)) (kk : l_K x k g) : e_E x 1446 (l_ls k) [] (lC (n, w, se, sp, hr, lt, hd, sc, so, fi, wo) D T im Z be g (n, w, se, sp, hr, lt, hd, sc, so, fi, wo) (I, A, B, K)) := by
  have hG := hR.1
  have hM := hR.2.1
  have hRS := hR.2.2.1
  have hZ := RS_ok hRS
  have h0 := hR.2.2.2.1
  refine ei_aload_n X dL_law_1446 rfl rfl ?_
  refine l_arg 1 X hSc hL hk (by decide) (by decide +kernel) dL_law_1447 dL_law_1448 dL_law_1450 dL_law_1451 dL_law_1452 rfl rfl ?_
  refine l_arg 2 X hSc hL hk (by decide) (by decide +kernel) dL_law_1453 dL_law_1454 dL_law_1456 dL_law_1457 dL_law_1458 rfl rfl ?_
  refine l_arg 3 X hSc hL hk (by decide) (by decide +kernel) dL_law_1459 dL_law_1460 dL_law_1462 dL_law_1463 dL_law_1464 rfl rfl ?_
  refine l_callF X ml_RL_168 dL_law_1465 (ct_X9_row _ _ _ _ _ _ _ _ _ _ _ _ _ _ _ _ (xs (6 * k + 1)) (xs (6 * k + 2)) (xs (6 * k + 3)) h0) rfl rfl (by decide) (by decide) (Nat.le_of_ble_eq_true rfl) (fun D2 be2 hb2 => ?_)
  refine ei_aload_n X dL_law_1468 rfl rfl ?_
  refine l_arg 1 X hSc hL hk (by decide) (by decide +kernel) dL_law_1469 dL_law_1470 dL_law_1472 dL_law_1473 dL_law_1474 rfl rfl ?_
  refine l_arg 2 X hSc hL hk (by decide) (by decide +kernel) dL_law_1475 dL_law_1476 dL_law_1478 dL_law_1479 dL_law_1480 rfl rfl ?_
  refine l_arg 3 X hSc hL hk (by decide) (by decide +kernel) dL_law_1481 dL_law_1482 dL_law_1484 dL_law_1485 dL_law_1486 rfl rfl ?_
  refine l_callMZ X ml_RL_171 dL_law_1487 (ct_X10_row _ _ _ _ _ _ _ _ _ _ _ _ _ _ _ _ (xs (6 * k + 1)) (xs (6 * k + 2)) (xs (6 * k + 3)) hRS) rfl rfl rfl rfl (by decide) (by decide) (Nat.le_of_ble_eq_true rfl) (fun M2 hk2 hr2 => ?_)
  refine l_eqI (tgt := 1734) X dL_law_1490 (by decide) ?_
  exact kk _ _ _ _ _ _ _ (hR.z hb2 hk2 hr2)
set_option maxHeartbeats 1000000 in
theorem lw_put {x : e_T} {n : Nat} {w se sp hr lt hd sc : Int32} {so fi wo : Nat → Int32} {D T : St} {im : Bool} {Z : Nat → Sh} {be : Nat → Int32} {g : Nat → Int64} {I : Nat → Int32} {A : Nat → Nat → Int32} {B : Nat → Nat → Int64} {K : Value} {L k : Nat} {xs : Nat → Int32} (X : e_X x RL cL_law 18) (hSc : l_S x L xs) (hL : L ≤ 3072) (hk : 6 * k + 6 ≤ L) (hR : lwR (n, w, se, sp, hr, lt, hd, sc, so, fi, wo) T im Z be (I, A, B, K)) (kk : l_K x k g) : e_E x 1495 (l_ls k) [] (lC (n, w, se, sp, hr, lt, hd, sc, so, fi, wo) D T im Z be g (n, w, se, sp, hr, lt, hd, sc, so, fi, wo) (I, A, B, K)) := by
  have hG := hR.1
  have hM := hR.2.1
  have hRS := hR.2.2.1
  have hZ := RS_ok hRS
  have h0 := hR.2.2.2.1
  refine ei_aload_n X dL_law_1495 rfl rfl ?_
  refine l_arg 1 X hSc hL hk (by decide) (by decide +kernel) dL_law_1496 dL_law_1497 dL_law_1499 dL_law_1500 dL_law_1501 rfl rfl ?_
  refine l_arg 2 X hSc hL hk (by decide) (by decide +kernel) dL_law_1502 dL_law_1503 dL_law_1505 dL_law_1506 dL_law_1507 rfl rfl ?_
  refine l_arg 3 X hSc hL hk (by decide) (by decide +kernel) dL_law_1508 dL_law_1509 dL_law_1511 dL_law_1512 dL_law_1513 rfl rfl ?_
  refine l_callF X ml_RL_172 dL_law_1514 (ct_X9_put _ _ _ _ _ _ _ _ _ _ _ _ _ _ _ _ (xs (6 * k + 1)) (xs (6 * k + 2)) (xs (6 * k + 3)) hZ h0) rfl rfl (by decide) (by decide) (Nat.le_of_ble_eq_true rfl) (fun D2 be2 hb2 => ?_)
  refine ei_aload_n X dL_law_1517 rfl rfl ?_
  refine l_arg 1 X hSc hL hk (by decide) (by decide +kernel) dL_law_1518 dL_law_1519 dL_law_1521 dL_law_1522 dL_law_1523 rfl rfl ?_
  refine l_arg 2 X hSc hL hk (by decide) (by decide +kernel) dL_law_1524 dL_law_1525 dL_law_1527 dL_law_1528 dL_law_1529 rfl rfl ?_
  refine l_arg 3 X hSc hL hk (by decide) (by decide +kernel) dL_law_1530 dL_law_1531 dL_law_1533 dL_law_1534 dL_law_1535 rfl rfl ?_
  refine l_callMZ X ml_RL_175 dL_law_1536 (ct_X10_put _ _ _ _ _ _ _ _ _ _ _ _ _ _ _ _ (xs (6 * k + 1)) (xs (6 * k + 2)) (xs (6 * k + 3)) hRS) rfl rfl rfl rfl (by decide) (by decide) (Nat.le_of_ble_eq_true rfl) (fun M2 hk2 hr2 => ?_)
  refine l_eqI (tgt := 1734) X dL_law_1539 (by decide) ?_
  exact kk _ _ _ _ _ _ _ (hR.z hb2 hk2 hr2)
set_option maxHeartbeats 1000000 in
theorem lw_copy {x : e_T} {n : Nat} {w se sp hr lt hd sc : Int32} {so fi wo : Nat → Int32} {D T : St} {im : Bool} {Z : Nat → Sh} {be : Nat → Int32} {g : Nat → Int64} {I : Nat → Int32} {A : Nat → Nat → Int32} {B : Nat → Nat → Int64} {K : Value} {L k : Nat} {xs : Nat → Int32} (X : e_X x RL cL_law 18) (hSc : l_S x L xs) (hL : L ≤ 3072) (hk : 6 * k + 6 ≤ L) (hR : lwR (n, w, se, sp, hr, lt, hd, sc, so, fi, wo) T im Z be (I, A, B, K)) (kk : l_K x k g) : e_E x 1611 (l_ls k) [] (lC (n, w, se, sp, hr, lt, hd, sc, so, fi, wo) D T im Z be g (n, w, se, sp, hr, lt, hd, sc, so, fi, wo) (I, A, B, K)) := by
  have hG := hR.1
  have hM := hR.2.1
  have hRS := hR.2.2.1
  have hZ := RS_ok hRS
  have h0 := hR.2.2.2.1
  refine ei_aload_n X dL_law_1611 rfl rfl ?_
  refine l_arg 1 X hSc hL hk (by decide) (by decide +kernel) dL_law_1612 dL_law_1613 dL_law_1615 dL_law_1616 dL_law_1617 rfl rfl ?_
  refine l_arg 2 X hSc hL hk (by decide) (by decide +kernel) dL_law_1618 dL_law_1619 dL_law_1621 dL_law_1622 dL_law_1623 rfl rfl ?_
  refine l_arg 3 X hSc hL hk (by decide) (by decide +kernel) dL_law_1624 dL_law_1625 dL_law_1627 dL_law_1628 dL_law_1629 rfl rfl ?_
  refine l_arg 4 X hSc hL hk (by decide) (by decide +kernel) dL_law_1630 dL_law_1631 dL_law_1633 dL_law_1634 dL_law_1635 rfl rfl ?_
  refine l_arg 5 X hSc hL hk (by decide) (by decide +kernel) dL_law_1636 dL_law_1637 dL_law_1639 dL_law_1640 dL_law_1641 rfl rfl ?_
  refine l_callF X ml_RL_185 dL_law_1642 (ct_X9_copy _ _ _ _ _ _ _ _ _ _ _ _ _ _ _ _ (xs (6 * k + 1)) (xs (6 * k + 2)) (xs (6 * k + 3)) (xs (6 * k + 4)) (xs (6 * k + 5)) hZ h0) rfl rfl (by decide) (by decide) (Nat.le_of_ble_eq_true rfl) (fun D2 be2 hb2 => ?_)
  refine ei_aload_n X dL_law_1645 rfl rfl ?_
  refine l_arg 1 X hSc hL hk (by decide) (by decide +kernel) dL_law_1646 dL_law_1647 dL_law_1649 dL_law_1650 dL_law_1651 rfl rfl ?_
  refine l_arg 2 X hSc hL hk (by decide) (by decide +kernel) dL_law_1652 dL_law_1653 dL_law_1655 dL_law_1656 dL_law_1657 rfl rfl ?_
  refine l_arg 3 X hSc hL hk (by decide) (by decide +kernel) dL_law_1658 dL_law_1659 dL_law_1661 dL_law_1662 dL_law_1663 rfl rfl ?_
  refine l_arg 4 X hSc hL hk (by decide) (by decide +kernel) dL_law_1664 dL_law_1665 dL_law_1667 dL_law_1668 dL_law_1669 rfl rfl ?_
  refine l_arg 5 X hSc hL hk (by decide) (by decide +kernel) dL_law_1670 dL_law_1671 dL_law_1673 dL_law_1674 dL_law_1675 rfl rfl ?_
  refine l_callMZ X ml_RL_189 dL_law_1676 (ct_X10_copy _ _ _ _ _ _ _ _ _ _ _ _ _ _ _ _ (xs (6 * k + 1)) (xs (6 * k + 2)) (xs (6 * k + 3)) (xs (6 * k + 4)) (xs (6 * k + 5)) hRS) rfl rfl rfl rfl (by decide) (by decide) (Nat.le_of_ble_eq_true rfl) (fun M2 hk2 hr2 => ?_)
  refine l_eqI (tgt := 1734) X dL_law_1679 (by decide) ?_
  exact kk _ _ _ _ _ _ _ (hR.z hb2 hk2 hr2)
set_option maxHeartbeats 1000000 in
theorem lw_cost {x : e_T} {n : Nat} {w se sp hr lt hd sc : Int32} {so fi wo : Nat → Int32} {D T : St} {im : Bool} {Z : Nat → Sh} {be : Nat → Int32} {g : Nat → Int64} {I : Nat → Int32} {A : Nat → Nat → Int32} {B : Nat → Nat → Int64} {K : Value} {L k : Nat} {xs : Nat → Int32} (X : e_X x RL cL_law 18) (hSc : l_S x L xs) (hL : L ≤ 3072) (hk : 6 * k + 6 ≤ L) (hR : lwR (n, w, se, sp, hr, lt, hd, sc, so, fi, wo) T im Z be (I, A, B, K)) (kk : l_K x k g) : e_E x 1684 (l_ls k) [] (lC (n, w, se, sp, hr, lt, hd, sc, so, fi, wo) D T im Z be g (n, w, se, sp, hr, lt, hd, sc, so, fi, wo) (I, A, B, K)) := by
  have hG := hR.1
  have hM := hR.2.1
  have hRS := hR.2.2.1
  have hZ := RS_ok hRS
  have h0 := hR.2.2.2.1
  refine ei_aload_n X dL_law_1684 rfl rfl ?_
  refine l_arg 1 X hSc hL hk (by decide) (by decide +kernel) dL_law_1685 dL_law_1686 dL_law_1688 dL_law_1689 dL_law_1690 rfl rfl ?_
  refine l_callF X ml_RL_190 dL_law_1691 (ct_X9_cost _ _ _ _ _ _ _ _ _ _ _ _ _ _ _ _ (xs (6 * k + 1)) hZ h0) rfl rfl (by decide) (by decide) (Nat.le_of_ble_eq_true rfl) (fun D2 be2 hb2 => ?_)
  refine ei_aload_n X dL_law_1694 rfl rfl ?_
  refine l_arg 1 X hSc hL hk (by decide) (by decide +kernel) dL_law_1695 dL_law_1696 dL_law_1698 dL_law_1699 dL_law_1700 rfl rfl ?_
  refine l_callMP X ml_RL_193 dL_law_1701 (ct_X10_cost _ _ _ _ _ _ _ _ _ _ _ _ _ _ _ _ (xs (6 * k + 1)) hRS) rfl rfl rfl rfl (by decide) (by decide) (Nat.le_of_ble_eq_true rfl) (fun M2 hk2 => ?_)
  refine l_eqI (tgt := 1734) X dL_law_1704 (by decide) ?_
  exact kk _ _ _ _ _ _ _ (hR.k hG hb2 hk2)
set_option maxHeartbeats 1000000 in
theorem lw_toss {x : e_T} {n : Nat} {w se sp hr lt hd sc : Int32} {so fi wo : Nat → Int32} {D T : St} {im : Bool} {Z : Nat → Sh} {be : Nat → Int32} {g : Nat → Int64} {I : Nat → Int32} {A : Nat → Nat → Int32} {B : Nat → Nat → Int64} {K : Value} {L k : Nat} {xs : Nat → Int32} (X : e_X x RL cL_law 18) (hSc : l_S x L xs) (hL : L ≤ 3072) (hk : 6 * k + 6 ≤ L) (hR : lwR (n, w, se, sp, hr, lt, hd, sc, so, fi, wo) T im Z be (I, A, B, K)) (kk : l_K x k g) : e_E x 1709 (l_ls k) [] (lC (n, w, se, sp, hr, lt, hd, sc, so, fi, wo) D T im Z be g (n, w, se, sp, hr, lt, hd, sc, so, fi, wo) (I, A, B, K)) := by
  have hG := hR.1
  have hM := hR.2.1
  have hRS := hR.2.2.1
  have hZ := RS_ok hRS
  have h0 := hR.2.2.2.1
  refine ei_aload_n X dL_law_1709 rfl rfl ?_
  refine l_arg 1 X hSc hL hk (by decide) (by decide +kernel) dL_law_1710 dL_law_1711 dL_law_1713 dL_law_1714 dL_law_1715 rfl rfl ?_
  refine l_callF X ml_RL_194 dL_law_1716 (ct_X9_toss _ _ _ _ _ _ _ _ _ _ _ _ _ _ _ _ (xs (6 * k + 1)) hZ h0) rfl rfl (by decide) (by decide) (Nat.le_of_ble_eq_true rfl) (fun D2 be2 hb2 => ?_)
  refine ei_aload_n X dL_law_1719 rfl rfl ?_
  refine l_arg 1 X hSc hL hk (by decide) (by decide +kernel) dL_law_1720 dL_law_1721 dL_law_1723 dL_law_1724 dL_law_1725 rfl rfl ?_
  refine l_callMP X ml_RL_197 dL_law_1726 (ct_X10_toss _ _ _ _ _ _ _ _ _ _ _ _ _ _ _ _ (xs (6 * k + 1)) hRS) rfl rfl rfl rfl (by decide) (by decide) (Nat.le_of_ble_eq_true rfl) (fun M2 hk2 => ?_)
  refine l_eqI (tgt := 1734) X dL_law_1729 (by decide) ?_
  exact kk _ _ _ _ _ _ _ (hR.k hG hb2 hk2)
