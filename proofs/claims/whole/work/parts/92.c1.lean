theorem lc_dial : LC 252 := by
  intro p l e s m below meth c b L xs D t sa sv nm Q a am wc wm H locs ls i cells slots cx hX hbl hL hi hI hw hl hc1 hc2 kk
  have hx := cx.1
  have hb := cx.2.1
  obtain ⟨f0, g0⟩ := hI.c0
  obtain ⟨f1, g1⟩ := hI.m0
  obtain ⟨r, wm2, Qv, m1, m2, h9⟩ := si_dial (l := l) (D := D) hI (xs (i + 1)) (xs (i + 2)) (xs (i + 3)) (xs (i + 4))
  refine lv_aload_n hx hb dL_252 rfl (lv_at hl 1 rfl) ?_
  refine pushA (j := 1) cx hX hbl (Nat.not_le.mpr hbl) hw.2.2 hl hL (by omega) (by decide) (by decide) dL_253 dL_254 dL_255 dL_256 dL_257 ?_
  refine pushA (j := 2) cx hX hbl (Nat.not_le.mpr hbl) hw.2.2 hl hL (by omega) (by decide) (by decide) dL_258 dL_259 dL_260 dL_261 dL_262 ?_
  refine pushA (j := 3) cx hX hbl (Nat.not_le.mpr hbl) hw.2.2 hl hL (by omega) (by decide) (by decide) dL_263 dL_264 dL_265 dL_266 dL_267 ?_
  refine pushA (j := 4) cx hX hbl (Nat.not_le.mpr hbl) hw.2.2 hl hL (by omega) (by decide) (by decide) dL_268 dL_269 dL_270 dL_271 dL_272 ?_
  refine calL (As := [.int (xs (i + 1)), .int (xs (i + 2)), .int (xs (i + 3)), .int (xs (i + 4))]) (rest := []) cx hw hl.1 m1 nE0 (fun _ _ _ => trivial) q_346 k_X11_dial rfl g0 rfl dL_273 rfl (Nat.le_of_ble_eq_true rfl) ⟨(Nat.le_of_ble_eq_true rfl), (Nat.le_of_ble_eq_true rfl)⟩ ⟨by show cells + 0 ≤ 629818; omega, by show slots + 0 ≤ 7212793; omega⟩ (fun v wc2 H locs hq hw => ?_)
  obtain ⟨rfl, hI2⟩ := h9 v wc2 hq
  refine lv_aload_n hx hb dL_276 rfl (lv_at hl 2 rfl) ?_
  refine pushA (j := 1) cx hX hbl (Nat.not_le.mpr hbl) hw.2.2 hl hL (by omega) (by decide) (by decide) dL_277 dL_278 dL_279 dL_280 dL_281 ?_
  refine pushA (j := 2) cx hX hbl (Nat.not_le.mpr hbl) hw.2.2 hl hL (by omega) (by decide) (by decide) dL_282 dL_283 dL_284 dL_285 dL_286 ?_
  refine pushA (j := 3) cx hX hbl (Nat.not_le.mpr hbl) hw.2.2 hl hL (by omega) (by decide) (by decide) dL_287 dL_288 dL_289 dL_290 dL_291 ?_
  refine pushA (j := 4) cx hX hbl (Nat.not_le.mpr hbl) hw.2.2 hl hL (by omega) (by decide) (by decide) dL_292 dL_293 dL_294 dL_295 dL_296 ?_
  refine calR (As := [.int (xs (i + 1)), .int (xs (i + 2)), .int (xs (i + 3)), .int (xs (i + 4))]) (rest := [.int r]) cx hw hl.1 m2 q_1278 k_X12_dial rfl g1 rfl dL_297 rfl (Nat.le_of_ble_eq_true rfl) ⟨(Nat.le_of_ble_eq_true rfl), (Nat.le_of_ble_eq_true rfl)⟩ ⟨by show cells + 0 ≤ 629818; omega, by show slots + 0 ≤ 7212793; omega⟩ (fun H locs hw => ?_)
  refine lv_icmp_eq (tgt := 1735) hx hb dL_300 (by decide +kernel) (fun hc => ?_) (fun hc => absurd rfl hc)
  refine W.widen (k := cells + 6) (n := slots + 247) (by omega) (by omega) ?_
  exact kk _ _ H locs hI2 hw
theorem lc_dialOf : LC 305 := by
  intro p l e s m below meth c b L xs D t sa sv nm Q a am wc wm H locs ls i cells slots cx hX hbl hL hi hI hw hl hc1 hc2 kk
  have hx := cx.1
  have hb := cx.2.1
  obtain ⟨f0, g0⟩ := hI.c0
  obtain ⟨f1, g1⟩ := hI.m0
  obtain ⟨r, wm2, Qv, m1, m2, h9⟩ := si_dialOf (l := l) (D := D) hI (xs (i + 1)) (xs (i + 2))
  refine lv_aload_n hx hb dL_305 rfl (lv_at hl 1 rfl) ?_
  refine pushA (j := 1) cx hX hbl (Nat.not_le.mpr hbl) hw.2.2 hl hL (by omega) (by decide) (by decide) dL_306 dL_307 dL_308 dL_309 dL_310 ?_
  refine pushA (j := 2) cx hX hbl (Nat.not_le.mpr hbl) hw.2.2 hl hL (by omega) (by decide) (by decide) dL_311 dL_312 dL_313 dL_314 dL_315 ?_
  refine calL (As := [.int (xs (i + 1)), .int (xs (i + 2))]) (rest := []) cx hw hl.1 m1 nE0 (fun _ _ _ => trivial) q_360 k_X11_dialOf rfl g0 rfl dL_316 rfl (Nat.le_of_ble_eq_true rfl) ⟨(Nat.le_of_ble_eq_true rfl), (Nat.le_of_ble_eq_true rfl)⟩ ⟨by show cells + 0 ≤ 629818; omega, by show slots + 0 ≤ 7212793; omega⟩ (fun v wc2 H locs hq hw => ?_)
  obtain ⟨rfl, hI2⟩ := h9 v wc2 hq
  refine lv_aload_n hx hb dL_319 rfl (lv_at hl 2 rfl) ?_
  refine pushA (j := 1) cx hX hbl (Nat.not_le.mpr hbl) hw.2.2 hl hL (by omega) (by decide) (by decide) dL_320 dL_321 dL_322 dL_323 dL_324 ?_
  refine pushA (j := 2) cx hX hbl (Nat.not_le.mpr hbl) hw.2.2 hl hL (by omega) (by decide) (by decide) dL_325 dL_326 dL_327 dL_328 dL_329 ?_
  refine calR (As := [.int (xs (i + 1)), .int (xs (i + 2))]) (rest := [.int r]) cx hw hl.1 m2 q_1292 k_X12_dialOf rfl g1 rfl dL_330 rfl (Nat.le_of_ble_eq_true rfl) ⟨(Nat.le_of_ble_eq_true rfl), (Nat.le_of_ble_eq_true rfl)⟩ ⟨by show cells + 0 ≤ 629818; omega, by show slots + 0 ≤ 7212793; omega⟩ (fun H locs hw => ?_)
  refine lv_icmp_eq (tgt := 1735) hx hb dL_333 (by decide +kernel) (fun hc => ?_) (fun hc => absurd rfl hc)
  refine W.widen (k := cells + 6) (n := slots + 247) (by omega) (by omega) ?_
  exact kk _ _ H locs hI2 hw
theorem lc_change : LC 338 := by
  intro p l e s m below meth c b L xs D t sa sv nm Q a am wc wm H locs ls i cells slots cx hX hbl hL hi hI hw hl hc1 hc2 kk
  have hx := cx.1
  have hb := cx.2.1
  obtain ⟨f0, g0⟩ := hI.c0
  obtain ⟨f1, g1⟩ := hI.m0
  obtain ⟨r, wm2, Qv, m1, m2, h9⟩ := si_change (l := l) (D := D) hI (xs (i + 1)) (xs (i + 2)) (xs (i + 3))
  refine lv_aload_n hx hb dL_338 rfl (lv_at hl 1 rfl) ?_
  refine pushA (j := 1) cx hX hbl (Nat.not_le.mpr hbl) hw.2.2 hl hL (by omega) (by decide) (by decide) dL_339 dL_340 dL_341 dL_342 dL_343 ?_
  refine pushA (j := 2) cx hX hbl (Nat.not_le.mpr hbl) hw.2.2 hl hL (by omega) (by decide) (by decide) dL_344 dL_345 dL_346 dL_347 dL_348 ?_
  refine pushA (j := 3) cx hX hbl (Nat.not_le.mpr hbl) hw.2.2 hl hL (by omega) (by decide) (by decide) dL_349 dL_350 dL_351 dL_352 dL_353 ?_
  refine calL (As := [.int (xs (i + 1)), .int (xs (i + 2)), .int (xs (i + 3))]) (rest := []) cx hw hl.1 m1 nE0 (fun _ _ _ => trivial) q_464 k_X11_change rfl g0 rfl dL_354 rfl (Nat.le_of_ble_eq_true rfl) ⟨(Nat.le_of_ble_eq_true rfl), (Nat.le_of_ble_eq_true rfl)⟩ ⟨by show cells + 0 ≤ 629818; omega, by show slots + 0 ≤ 7212793; omega⟩ (fun v wc2 H locs hq hw => ?_)
  obtain ⟨rfl, hI2⟩ := h9 v wc2 hq
  refine lv_aload_n hx hb dL_357 rfl (lv_at hl 2 rfl) ?_
  refine pushA (j := 1) cx hX hbl (Nat.not_le.mpr hbl) hw.2.2 hl hL (by omega) (by decide) (by decide) dL_358 dL_359 dL_360 dL_361 dL_362 ?_
  refine pushA (j := 2) cx hX hbl (Nat.not_le.mpr hbl) hw.2.2 hl hL (by omega) (by decide) (by decide) dL_363 dL_364 dL_365 dL_366 dL_367 ?_
  refine pushA (j := 3) cx hX hbl (Nat.not_le.mpr hbl) hw.2.2 hl hL (by omega) (by decide) (by decide) dL_368 dL_369 dL_370 dL_371 dL_372 ?_
  refine calR (As := [.int (xs (i + 1)), .int (xs (i + 2)), .int (xs (i + 3))]) (rest := [.int r]) cx hw hl.1 m2 q_1359 k_X12_change rfl g1 rfl dL_373 rfl (Nat.le_of_ble_eq_true rfl) ⟨(Nat.le_of_ble_eq_true rfl), (Nat.le_of_ble_eq_true rfl)⟩ ⟨by show cells + 0 ≤ 629818; omega, by show slots + 0 ≤ 7212793; omega⟩ (fun H locs hw => ?_)
  refine lv_icmp_eq (tgt := 1735) hx hb dL_376 (by decide +kernel) (fun hc => ?_) (fun hc => absurd rfl hc)
  refine W.widen (k := cells + 6) (n := slots + 247) (by omega) (by omega) ?_
  exact kk _ _ H locs hI2 hw
theorem lc_remake : LC 381 := by
  intro p l e s m below meth c b L xs D t sa sv nm Q a am wc wm H locs ls i cells slots cx hX hbl hL hi hI hw hl hc1 hc2 kk
  have hx := cx.1
  have hb := cx.2.1
  obtain ⟨f0, g0⟩ := hI.c0
  obtain ⟨f1, g1⟩ := hI.m0
  obtain ⟨r, wm2, Qv, m1, m2, h9⟩ := si_remake (l := l) (D := D) hI (xs (i + 1)) (xs (i + 2))
  refine lv_aload_n hx hb dL_381 rfl (lv_at hl 1 rfl) ?_
  refine pushA (j := 1) cx hX hbl (Nat.not_le.mpr hbl) hw.2.2 hl hL (by omega) (by decide) (by decide) dL_382 dL_383 dL_384 dL_385 dL_386 ?_
  refine pushA (j := 2) cx hX hbl (Nat.not_le.mpr hbl) hw.2.2 hl hL (by omega) (by decide) (by decide) dL_387 dL_388 dL_389 dL_390 dL_391 ?_
  refine calL (As := [.int (xs (i + 1)), .int (xs (i + 2))]) (rest := []) cx hw hl.1 m1 nE0 (fun _ _ _ => trivial) q_471 k_X11_remake rfl g0 rfl dL_392 rfl (Nat.le_of_ble_eq_true rfl) ⟨(Nat.le_of_ble_eq_true rfl), (Nat.le_of_ble_eq_true rfl)⟩ ⟨by show cells + 0 ≤ 629818; omega, by show slots + 0 ≤ 7212793; omega⟩ (fun v wc2 H locs hq hw => ?_)
  obtain ⟨rfl, hI2⟩ := h9 v wc2 hq
  refine lv_aload_n hx hb dL_395 rfl (lv_at hl 2 rfl) ?_
  refine pushA (j := 1) cx hX hbl (Nat.not_le.mpr hbl) hw.2.2 hl hL (by omega) (by decide) (by decide) dL_396 dL_397 dL_398 dL_399 dL_400 ?_
  refine pushA (j := 2) cx hX hbl (Nat.not_le.mpr hbl) hw.2.2 hl hL (by omega) (by decide) (by decide) dL_401 dL_402 dL_403 dL_404 dL_405 ?_
  refine calR (As := [.int (xs (i + 1)), .int (xs (i + 2))]) (rest := [.int r]) cx hw hl.1 m2 q_1367 k_X12_remake rfl g1 rfl dL_406 rfl (Nat.le_of_ble_eq_true rfl) ⟨(Nat.le_of_ble_eq_true rfl), (Nat.le_of_ble_eq_true rfl)⟩ ⟨by show cells + 0 ≤ 629818; omega, by show slots + 0 ≤ 7212793; omega⟩ (fun H locs hw => ?_)
  refine lv_icmp_eq (tgt := 1735) hx hb dL_409 (by decide +kernel) (fun hc => ?_) (fun hc => absurd rfl hc)
  refine W.widen (k := cells + 6) (n := slots + 247) (by omega) (by omega) ?_
  exact kk _ _ H locs hI2 hw
theorem lc_sky : LC 414 := by
  intro p l e s m below meth c b L xs D t sa sv nm Q a am wc wm H locs ls i cells slots cx hX hbl hL hi hI hw hl hc1 hc2 kk
  have hx := cx.1
  have hb := cx.2.1
  obtain ⟨f0, g0⟩ := hI.c0
  obtain ⟨f1, g1⟩ := hI.m0
  obtain ⟨r, wm2, Qv, m1, m2, h9⟩ := si_sky (l := l) (D := D) hI (xs (i + 1)) (xs (i + 2))
  refine lv_aload_n hx hb dL_414 rfl (lv_at hl 1 rfl) ?_
  refine pushA (j := 1) cx hX hbl (Nat.not_le.mpr hbl) hw.2.2 hl hL (by omega) (by decide) (by decide) dL_415 dL_416 dL_417 dL_418 dL_419 ?_
  refine pushA (j := 2) cx hX hbl (Nat.not_le.mpr hbl) hw.2.2 hl hL (by omega) (by decide) (by decide) dL_420 dL_421 dL_422 dL_423 dL_424 ?_
  refine calL (As := [.int (xs (i + 1)), .int (xs (i + 2))]) (rest := []) cx hw hl.1 m1 nE0 (fun _ _ _ => trivial) q_475 k_X11_sky rfl g0 rfl dL_425 rfl (Nat.le_of_ble_eq_true rfl) ⟨(Nat.le_of_ble_eq_true rfl), (Nat.le_of_ble_eq_true rfl)⟩ ⟨by show cells + 0 ≤ 629818; omega, by show slots + 0 ≤ 7212793; omega⟩ (fun v wc2 H locs hq hw => ?_)
  obtain ⟨rfl, hI2⟩ := h9 v wc2 hq
  refine lv_aload_n hx hb dL_428 rfl (lv_at hl 2 rfl) ?_
  refine pushA (j := 1) cx hX hbl (Nat.not_le.mpr hbl) hw.2.2 hl hL (by omega) (by decide) (by decide) dL_429 dL_430 dL_431 dL_432 dL_433 ?_
  refine pushA (j := 2) cx hX hbl (Nat.not_le.mpr hbl) hw.2.2 hl hL (by omega) (by decide) (by decide) dL_434 dL_435 dL_436 dL_437 dL_438 ?_
  refine calR (As := [.int (xs (i + 1)), .int (xs (i + 2))]) (rest := [.int r]) cx hw hl.1 m2 q_1371 k_X12_sky rfl g1 rfl dL_439 rfl (Nat.le_of_ble_eq_true rfl) ⟨(Nat.le_of_ble_eq_true rfl), (Nat.le_of_ble_eq_true rfl)⟩ ⟨by show cells + 0 ≤ 629818; omega, by show slots + 0 ≤ 7212793; omega⟩ (fun H locs hw => ?_)
  refine lv_icmp_eq (tgt := 1735) hx hb dL_442 (by decide +kernel) (fun hc => ?_) (fun hc => absurd rfl hc)
  refine W.widen (k := cells + 6) (n := slots + 247) (by omega) (by omega) ?_
  exact kk _ _ H locs hI2 hw
theorem lc_spot : LC 447 := by
  intro p l e s m below meth c b L xs D t sa sv nm Q a am wc wm H locs ls i cells slots cx hX hbl hL hi hI hw hl hc1 hc2 kk
  have hx := cx.1
  have hb := cx.2.1
  obtain ⟨f0, g0⟩ := hI.c0
  obtain ⟨f1, g1⟩ := hI.m0
  obtain ⟨r, wm2, Qv, m1, m2, h9⟩ := si_spot (l := l) (D := D) hI (xs (i + 1)) (xs (i + 2)) (xs (i + 3))
  refine lv_aload_n hx hb dL_447 rfl (lv_at hl 1 rfl) ?_
  refine pushA (j := 1) cx hX hbl (Nat.not_le.mpr hbl) hw.2.2 hl hL (by omega) (by decide) (by decide) dL_448 dL_449 dL_450 dL_451 dL_452 ?_
  refine pushA (j := 2) cx hX hbl (Nat.not_le.mpr hbl) hw.2.2 hl hL (by omega) (by decide) (by decide) dL_453 dL_454 dL_455 dL_456 dL_457 ?_
  refine pushA (j := 3) cx hX hbl (Nat.not_le.mpr hbl) hw.2.2 hl hL (by omega) (by decide) (by decide) dL_458 dL_459 dL_460 dL_461 dL_462 ?_
  refine calL (As := [.int (xs (i + 1)), .int (xs (i + 2)), .int (xs (i + 3))]) (rest := []) cx hw hl.1 m1 nE0 (fun _ _ _ => trivial) q_479 k_X11_spot rfl g0 rfl dL_463 rfl (Nat.le_of_ble_eq_true rfl) ⟨(Nat.le_of_ble_eq_true rfl), (Nat.le_of_ble_eq_true rfl)⟩ ⟨by show cells + 0 ≤ 629818; omega, by show slots + 0 ≤ 7212793; omega⟩ (fun v wc2 H locs hq hw => ?_)
  obtain ⟨rfl, hI2⟩ := h9 v wc2 hq
  refine lv_aload_n hx hb dL_466 rfl (lv_at hl 2 rfl) ?_
  refine pushA (j := 1) cx hX hbl (Nat.not_le.mpr hbl) hw.2.2 hl hL (by omega) (by decide) (by decide) dL_467 dL_468 dL_469 dL_470 dL_471 ?_
  refine pushA (j := 2) cx hX hbl (Nat.not_le.mpr hbl) hw.2.2 hl hL (by omega) (by decide) (by decide) dL_472 dL_473 dL_474 dL_475 dL_476 ?_
  refine pushA (j := 3) cx hX hbl (Nat.not_le.mpr hbl) hw.2.2 hl hL (by omega) (by decide) (by decide) dL_477 dL_478 dL_479 dL_480 dL_481 ?_
  refine calR (As := [.int (xs (i + 1)), .int (xs (i + 2)), .int (xs (i + 3))]) (rest := [.int r]) cx hw hl.1 m2 q_1375 k_X12_spot rfl g1 rfl dL_482 rfl (Nat.le_of_ble_eq_true rfl) ⟨(Nat.le_of_ble_eq_true rfl), (Nat.le_of_ble_eq_true rfl)⟩ ⟨by show cells + 0 ≤ 629818; omega, by show slots + 0 ≤ 7212793; omega⟩ (fun H locs hw => ?_)
  refine lv_icmp_eq (tgt := 1735) hx hb dL_485 (by decide +kernel) (fun hc => ?_) (fun hc => absurd rfl hc)
  refine W.widen (k := cells + 6) (n := slots + 247) (by omega) (by omega) ?_
  exact kk _ _ H locs hI2 hw
theorem lc_spotOf : LC 490 := by
  intro p l e s m below meth c b L xs D t sa sv nm Q a am wc wm H locs ls i cells slots cx hX hbl hL hi hI hw hl hc1 hc2 kk
  have hx := cx.1
  have hb := cx.2.1
  obtain ⟨f0, g0⟩ := hI.c0
  obtain ⟨f1, g1⟩ := hI.m0
  obtain ⟨r, wm2, Qv, m1, m2, h9⟩ := si_spotOf (l := l) (D := D) hI (xs (i + 1)) (xs (i + 2))
  refine lv_aload_n hx hb dL_490 rfl (lv_at hl 1 rfl) ?_
  refine pushA (j := 1) cx hX hbl (Nat.not_le.mpr hbl) hw.2.2 hl hL (by omega) (by decide) (by decide) dL_491 dL_492 dL_493 dL_494 dL_495 ?_
  refine pushA (j := 2) cx hX hbl (Nat.not_le.mpr hbl) hw.2.2 hl hL (by omega) (by decide) (by decide) dL_496 dL_497 dL_498 dL_499 dL_500 ?_
  refine calL (As := [.int (xs (i + 1)), .int (xs (i + 2))]) (rest := []) cx hw hl.1 m1 nE0 (fun _ _ _ => trivial) q_483 k_X11_spotOf rfl g0 rfl dL_501 rfl (Nat.le_of_ble_eq_true rfl) ⟨(Nat.le_of_ble_eq_true rfl), (Nat.le_of_ble_eq_true rfl)⟩ ⟨by show cells + 0 ≤ 629818; omega, by show slots + 0 ≤ 7212793; omega⟩ (fun v wc2 H locs hq hw => ?_)
  obtain ⟨rfl, hI2⟩ := h9 v wc2 hq
  refine lv_aload_n hx hb dL_504 rfl (lv_at hl 2 rfl) ?_
  refine pushA (j := 1) cx hX hbl (Nat.not_le.mpr hbl) hw.2.2 hl hL (by omega) (by decide) (by decide) dL_505 dL_506 dL_507 dL_508 dL_509 ?_
  refine pushA (j := 2) cx hX hbl (Nat.not_le.mpr hbl) hw.2.2 hl hL (by omega) (by decide) (by decide) dL_510 dL_511 dL_512 dL_513 dL_514 ?_
  refine calR (As := [.int (xs (i + 1)), .int (xs (i + 2))]) (rest := [.int r]) cx hw hl.1 m2 q_1379 k_X12_spotOf rfl g1 rfl dL_515 rfl (Nat.le_of_ble_eq_true rfl) ⟨(Nat.le_of_ble_eq_true rfl), (Nat.le_of_ble_eq_true rfl)⟩ ⟨by show cells + 0 ≤ 629818; omega, by show slots + 0 ≤ 7212793; omega⟩ (fun H locs hw => ?_)
  refine lv_icmp_eq (tgt := 1735) hx hb dL_518 (by decide +kernel) (fun hc => ?_) (fun hc => absurd rfl hc)
  refine W.widen (k := cells + 6) (n := slots + 247) (by omega) (by omega) ?_
  exact kk _ _ H locs hI2 hw
theorem lc_ends : LC 523 := by
  intro p l e s m below meth c b L xs D t sa sv nm Q a am wc wm H locs ls i cells slots cx hX hbl hL hi hI hw hl hc1 hc2 kk
  have hx := cx.1
  have hb := cx.2.1
  obtain ⟨f0, g0⟩ := hI.c0
  obtain ⟨f1, g1⟩ := hI.m0
  obtain ⟨r, wm2, Qv, m1, m2, h9⟩ := si_ends (l := l) (D := D) hI (xs (i + 1))
  refine lv_aload_n hx hb dL_523 rfl (lv_at hl 1 rfl) ?_
  refine pushA (j := 1) cx hX hbl (Nat.not_le.mpr hbl) hw.2.2 hl hL (by omega) (by decide) (by decide) dL_524 dL_525 dL_526 dL_527 dL_528 ?_
  refine calL (As := [.int (xs (i + 1))]) (rest := []) cx hw hl.1 m1 nE0 (fun _ _ _ => trivial) q_488 k_X11_ends rfl g0 rfl dL_529 rfl (Nat.le_of_ble_eq_true rfl) ⟨(Nat.le_of_ble_eq_true rfl), (Nat.le_of_ble_eq_true rfl)⟩ ⟨by show cells + 0 ≤ 629818; omega, by show slots + 0 ≤ 7212793; omega⟩ (fun v wc2 H locs hq hw => ?_)
  obtain ⟨rfl, hI2⟩ := h9 v wc2 hq
  refine lv_aload_n hx hb dL_532 rfl (lv_at hl 2 rfl) ?_
  refine pushA (j := 1) cx hX hbl (Nat.not_le.mpr hbl) hw.2.2 hl hL (by omega) (by decide) (by decide) dL_533 dL_534 dL_535 dL_536 dL_537 ?_
  refine calR (As := [.int (xs (i + 1))]) (rest := [.int r]) cx hw hl.1 m2 q_1383 k_X12_ends rfl g1 rfl dL_538 rfl (Nat.le_of_ble_eq_true rfl) ⟨(Nat.le_of_ble_eq_true rfl), (Nat.le_of_ble_eq_true rfl)⟩ ⟨by show cells + 0 ≤ 629818; omega, by show slots + 0 ≤ 7212793; omega⟩ (fun H locs hw => ?_)
  refine lv_icmp_eq (tgt := 1735) hx hb dL_541 (by decide +kernel) (fun hc => ?_) (fun hc => absurd rfl hc)
  refine W.widen (k := cells + 6) (n := slots + 247) (by omega) (by omega) ?_
  exact kk _ _ H locs hI2 hw
theorem lc_anew : LC 546 := by
  intro p l e s m below meth c b L xs D t sa sv nm Q a am wc wm H locs ls i cells slots cx hX hbl hL hi hI hw hl hc1 hc2 kk
  have hx := cx.1
  have hb := cx.2.1
  obtain ⟨f0, g0⟩ := hI.c0
  obtain ⟨f1, g1⟩ := hI.m0
  obtain ⟨r, wm2, Qv, m1, m2, h9⟩ := si_anew (l := l) (D := D) hI
  refine lv_aload_n hx hb dL_546 rfl (lv_at hl 1 rfl) ?_
  refine calL (As := []) (rest := []) cx hw hl.1 m1 nE0 (fun _ _ _ => trivial) q_492 k_X11_anew rfl g0 rfl dL_547 rfl (Nat.le_of_ble_eq_true rfl) ⟨(Nat.le_of_ble_eq_true rfl), (Nat.le_of_ble_eq_true rfl)⟩ ⟨by show cells + 0 ≤ 629818; omega, by show slots + 0 ≤ 7212793; omega⟩ (fun v wc2 H locs hq hw => ?_)
  obtain ⟨rfl, hI2⟩ := h9 v wc2 hq
  refine lv_aload_n hx hb dL_550 rfl (lv_at hl 2 rfl) ?_
  refine calR (As := []) (rest := [.int r]) cx hw hl.1 m2 q_1387 k_X12_anew rfl g1 rfl dL_551 rfl (Nat.le_of_ble_eq_true rfl) ⟨(Nat.le_of_ble_eq_true rfl), (Nat.le_of_ble_eq_true rfl)⟩ ⟨by show cells + 0 ≤ 629818; omega, by show slots + 0 ≤ 7212793; omega⟩ (fun H locs hw => ?_)
  refine lv_icmp_eq (tgt := 1735) hx hb dL_554 (by decide +kernel) (fun hc => ?_) (fun hc => absurd rfl hc)
  refine W.widen (k := cells + 6) (n := slots + 247) (by omega) (by omega) ?_
  exact kk _ _ H locs hI2 hw
theorem lc_state : LC 559 := by
  intro p l e s m below meth c b L xs D t sa sv nm Q a am wc wm H locs ls i cells slots cx hX hbl hL hi hI hw hl hc1 hc2 kk
  have hx := cx.1
  have hb := cx.2.1
  obtain ⟨f0, g0⟩ := hI.c0
  obtain ⟨f1, g1⟩ := hI.m0
  obtain ⟨r, wm2, Qv, m1, m2, h9⟩ := si_state (l := l) (D := D) hI (xs (i + 1))
  refine lv_aload_n hx hb dL_559 rfl (lv_at hl 1 rfl) ?_
  refine pushA (j := 1) cx hX hbl (Nat.not_le.mpr hbl) hw.2.2 hl hL (by omega) (by decide) (by decide) dL_560 dL_561 dL_562 dL_563 dL_564 ?_
  refine calL (As := [.int (xs (i + 1))]) (rest := []) cx hw hl.1 m1 nE0 (fun _ _ _ => trivial) q_496 k_X11_state rfl g0 rfl dL_565 rfl (Nat.le_of_ble_eq_true rfl) ⟨(Nat.le_of_ble_eq_true rfl), (Nat.le_of_ble_eq_true rfl)⟩ ⟨by show cells + 0 ≤ 629818; omega, by show slots + 0 ≤ 7212793; omega⟩ (fun v wc2 H locs hq hw => ?_)
  obtain ⟨rfl, hI2⟩ := h9 v wc2 hq
  refine lv_aload_n hx hb dL_568 rfl (lv_at hl 2 rfl) ?_
  refine pushA (j := 1) cx hX hbl (Nat.not_le.mpr hbl) hw.2.2 hl hL (by omega) (by decide) (by decide) dL_569 dL_570 dL_571 dL_572 dL_573 ?_
  refine calR (As := [.int (xs (i + 1))]) (rest := [.int r]) cx hw hl.1 m2 q_1391 k_X12_state rfl g1 rfl dL_574 rfl (Nat.le_of_ble_eq_true rfl) ⟨(Nat.le_of_ble_eq_true rfl), (Nat.le_of_ble_eq_true rfl)⟩ ⟨by show cells + 0 ≤ 629818; omega, by show slots + 0 ≤ 7212793; omega⟩ (fun H locs hw => ?_)
  refine lv_icmp_eq (tgt := 1735) hx hb dL_577 (by decide +kernel) (fun hc => ?_) (fun hc => absurd rfl hc)
  refine W.widen (k := cells + 6) (n := slots + 247) (by omega) (by omega) ?_
  exact kk _ _ H locs hI2 hw
theorem lc_feed : LC 582 := by
  intro p l e s m below meth c b L xs D t sa sv nm Q a am wc wm H locs ls i cells slots cx hX hbl hL hi hI hw hl hc1 hc2 kk
  have hx := cx.1
  have hb := cx.2.1
  obtain ⟨f0, g0⟩ := hI.c0
  obtain ⟨f1, g1⟩ := hI.m0
  obtain ⟨r, wm2, Qv, m1, m2, h9⟩ := si_feed (l := l) (D := D) hI ((((xs (i + 1)).toInt64 <<< ((32 : Int32).toInt64 &&& 63)) ||| ((xs (i + 2)).toInt64 &&& (4294967295 : Int64)))) (xs (i + 3))
  refine lv_aload_n hx hb dL_582 rfl (lv_at hl 1 rfl) ?_
  refine pushA (j := 1) cx hX hbl (Nat.not_le.mpr hbl) hw.2.2 hl hL (by omega) (by decide) (by decide) dL_583 dL_584 dL_585 dL_586 dL_587 ?_
  refine lv_i2l hx hb dL_588 rfl ?_
  refine lv_bipush (v := 32) hx hb dL_589 (by decide) ?_
  refine lv_lshl hx hb dL_591 rfl ?_
  refine pushA (j := 2) cx hX hbl (Nat.not_le.mpr hbl) hw.2.2 hl hL (by omega) (by decide) (by decide) dL_592 dL_593 dL_594 dL_595 dL_596 ?_
  refine lv_i2l hx hb dL_597 rfl ?_
  refine lv_ldc2 (own := RL) (v := 4294967295) hx hb cx.2.2.2.1 (cx.2.2.2.2.1 _ q_1718) dL_598 ?_
  refine lv_land hx hb dL_601 ?_
  refine lv_lor hx hb dL_602 ?_
  refine pushA (j := 3) cx hX hbl (Nat.not_le.mpr hbl) hw.2.2 hl hL (by omega) (by decide) (by decide) dL_603 dL_604 dL_605 dL_606 dL_607 ?_
  refine calL (As := [.long ((((xs (i + 1)).toInt64 <<< ((32 : Int32).toInt64 &&& 63)) ||| ((xs (i + 2)).toInt64 &&& (4294967295 : Int64)))), .int (xs (i + 3))]) (rest := []) cx hw hl.1 m1 nE0 (fun _ _ _ => trivial) q_520 k_X11_feed rfl g0 rfl dL_608 rfl (Nat.le_of_ble_eq_true rfl) ⟨(Nat.le_of_ble_eq_true rfl), (Nat.le_of_ble_eq_true rfl)⟩ ⟨by show cells + 0 ≤ 629818; omega, by show slots + 0 ≤ 7212793; omega⟩ (fun v wc2 H locs hq hw => ?_)
  obtain ⟨rfl, hI2⟩ := h9 v wc2 hq
  refine lv_aload_n hx hb dL_611 rfl (lv_at hl 2 rfl) ?_
  refine pushA (j := 1) cx hX hbl (Nat.not_le.mpr hbl) hw.2.2 hl hL (by omega) (by decide) (by decide) dL_612 dL_613 dL_614 dL_615 dL_616 ?_
  refine lv_i2l hx hb dL_617 rfl ?_
  refine lv_bipush (v := 32) hx hb dL_618 (by decide) ?_
  refine lv_lshl hx hb dL_620 rfl ?_
  refine pushA (j := 2) cx hX hbl (Nat.not_le.mpr hbl) hw.2.2 hl hL (by omega) (by decide) (by decide) dL_621 dL_622 dL_623 dL_624 dL_625 ?_
  refine lv_i2l hx hb dL_626 rfl ?_
  refine lv_ldc2 (own := RL) (v := 4294967295) hx hb cx.2.2.2.1 (cx.2.2.2.2.1 _ q_1718) dL_627 ?_
  refine lv_land hx hb dL_630 ?_
  refine lv_lor hx hb dL_631 ?_
  refine pushA (j := 3) cx hX hbl (Nat.not_le.mpr hbl) hw.2.2 hl hL (by omega) (by decide) (by decide) dL_632 dL_633 dL_634 dL_635 dL_636 ?_
  refine calR (As := [.long ((((xs (i + 1)).toInt64 <<< ((32 : Int32).toInt64 &&& 63)) ||| ((xs (i + 2)).toInt64 &&& (4294967295 : Int64)))), .int (xs (i + 3))]) (rest := [.int r]) cx hw hl.1 m2 q_1210 k_X12_feed rfl g1 rfl dL_637 rfl (Nat.le_of_ble_eq_true rfl) ⟨(Nat.le_of_ble_eq_true rfl), (Nat.le_of_ble_eq_true rfl)⟩ ⟨by show cells + 0 ≤ 629818; omega, by show slots + 0 ≤ 7212793; omega⟩ (fun H locs hw => ?_)
  refine lv_icmp_eq (tgt := 1735) hx hb dL_640 (by decide +kernel) (fun hc => ?_) (fun hc => absurd rfl hc)
  refine W.widen (k := cells + 6) (n := slots + 247) (by omega) (by omega) ?_
  exact kk _ _ H locs hI2 hw
theorem lc_rules : LC 645 := by
  intro p l e s m below meth c b L xs D t sa sv nm Q a am wc wm H locs ls i cells slots cx hX hbl hL hi hI hw hl hc1 hc2 kk
  have hx := cx.1
  have hb := cx.2.1
  obtain ⟨f0, g0⟩ := hI.c0
  obtain ⟨f1, g1⟩ := hI.m0
  obtain ⟨r, wm2, Qv, m1, m2, h9⟩ := si_rules (l := l) (D := D) (sa := sa) (sv := sv) hI
  refine lv_aload_n hx hb dL_645 rfl (lv_at hl 1 rfl) ?_
  refine calL (As := []) (rest := []) cx hw hl.1 m1 nEW (fun U hU hW => EW.to cx.2.2.2.2.2.2.2.1 hw.2.2 (freeZ cx hw.left) hU hW) q_528 k_X11_rules rfl g0 rfl dL_646 rfl (Nat.le_of_ble_eq_true rfl) ⟨(Nat.le_of_ble_eq_true rfl), (Nat.le_of_ble_eq_true rfl)⟩ ⟨by show cells + 6 ≤ 629818; omega, by show slots + 247 ≤ 7212793; omega⟩ (fun v wc2 H locs hq hw => ?_)
  obtain ⟨rfl, hI2⟩ := h9 v wc2 hq
  refine lv_aload_n hx hb dL_649 rfl (lv_at hl 2 rfl) ?_
  refine calR (As := []) (rest := [.int r]) cx hw hl.1 m2 q_1218 k_X12_rules rfl g1 rfl dL_650 rfl (Nat.le_of_ble_eq_true rfl) ⟨(Nat.le_of_ble_eq_true rfl), (Nat.le_of_ble_eq_true rfl)⟩ ⟨by show cells + 6 ≤ 629818; omega, by show slots + 247 ≤ 7212793; omega⟩ (fun H locs hw => ?_)
  refine lv_icmp_eq (tgt := 1735) hx hb dL_653 (by decide +kernel) (fun hc => ?_) (fun hc => absurd rfl hc)
  refine W.widen (k := cells + 6) (n := slots + 247) (by omega) (by omega) ?_
  exact kk _ _ H locs hI2 hw
theorem lc_chime : LC 658 := by
  intro p l e s m below meth c b L xs D t sa sv nm Q a am wc wm H locs ls i cells slots cx hX hbl hL hi hI hw hl hc1 hc2 kk
  have hx := cx.1
  have hb := cx.2.1
  obtain ⟨f0, g0⟩ := hI.c0
  obtain ⟨f1, g1⟩ := hI.m0
  obtain ⟨r, wm2, Qv, m1, m2, h9⟩ := si_chime (l := l) (D := D) hI
  refine lv_aload_n hx hb dL_658 rfl (lv_at hl 1 rfl) ?_
  refine calL (As := []) (rest := []) cx hw hl.1 m1 nE0 (fun _ _ _ => trivial) q_667 k_X11_chime rfl g0 rfl dL_659 rfl (Nat.le_of_ble_eq_true rfl) ⟨(Nat.le_of_ble_eq_true rfl), (Nat.le_of_ble_eq_true rfl)⟩ ⟨by show cells + 0 ≤ 629818; omega, by show slots + 0 ≤ 7212793; omega⟩ (fun v wc2 H locs hq hw => ?_)
  obtain ⟨rfl, hI2⟩ := h9 v wc2 hq
  refine lv_aload_n hx hb dL_662 rfl (lv_at hl 2 rfl) ?_
  refine calR (As := []) (rest := [.int r]) cx hw hl.1 m2 q_1414 k_X12_chime rfl g1 rfl dL_663 rfl (Nat.le_of_ble_eq_true rfl) ⟨(Nat.le_of_ble_eq_true rfl), (Nat.le_of_ble_eq_true rfl)⟩ ⟨by show cells + 0 ≤ 629818; omega, by show slots + 0 ≤ 7212793; omega⟩ (fun H locs hw => ?_)
  refine lv_icmp_eq (tgt := 1735) hx hb dL_666 (by decide +kernel) (fun hc => ?_) (fun hc => absurd rfl hc)
  refine W.widen (k := cells + 6) (n := slots + 247) (by omega) (by omega) ?_
  exact kk _ _ H locs hI2 hw
theorem lc_on : LC 671 := by
  intro p l e s m below meth c b L xs D t sa sv nm Q a am wc wm H locs ls i cells slots cx hX hbl hL hi hI hw hl hc1 hc2 kk
  have hx := cx.1
  have hb := cx.2.1
  obtain ⟨f0, g0⟩ := hI.c0
  obtain ⟨f1, g1⟩ := hI.m0
  obtain ⟨r, wm2, Qv, m1, m2, h9⟩ := si_on (l := l) (D := D) hI (xs (i + 1))
  refine lv_aload_n hx hb dL_671 rfl (lv_at hl 1 rfl) ?_
  refine pushA (j := 1) cx hX hbl (Nat.not_le.mpr hbl) hw.2.2 hl hL (by omega) (by decide) (by decide) dL_672 dL_673 dL_674 dL_675 dL_676 ?_
  refine calL (As := [.int (xs (i + 1))]) (rest := []) cx hw hl.1 m1 nE0 (fun _ _ _ => trivial) q_698 k_X11_on rfl g0 rfl dL_677 rfl (Nat.le_of_ble_eq_true rfl) ⟨(Nat.le_of_ble_eq_true rfl), (Nat.le_of_ble_eq_true rfl)⟩ ⟨by show cells + 0 ≤ 629818; omega, by show slots + 0 ≤ 7212793; omega⟩ (fun v wc2 H locs hq hw => ?_)
  obtain ⟨rfl, hI2⟩ := h9 v wc2 hq
  refine lv_aload_n hx hb dL_680 rfl (lv_at hl 2 rfl) ?_
  refine pushA (j := 1) cx hX hbl (Nat.not_le.mpr hbl) hw.2.2 hl hL (by omega) (by decide) (by decide) dL_681 dL_682 dL_683 dL_684 dL_685 ?_
  refine calR (As := [.int (xs (i + 1))]) (rest := [.int r]) cx hw hl.1 m2 q_1441 k_X12_on rfl g1 rfl dL_686 rfl (Nat.le_of_ble_eq_true rfl) ⟨(Nat.le_of_ble_eq_true rfl), (Nat.le_of_ble_eq_true rfl)⟩ ⟨by show cells + 0 ≤ 629818; omega, by show slots + 0 ≤ 7212793; omega⟩ (fun H locs hw => ?_)
  refine lv_icmp_eq (tgt := 1735) hx hb dL_689 (by decide +kernel) (fun hc => ?_) (fun hc => absurd rfl hc)
  refine W.widen (k := cells + 6) (n := slots + 247) (by omega) (by omega) ?_
  exact kk _ _ H locs hI2 hw
theorem lc_when : LC 694 := by
  intro p l e s m below meth c b L xs D t sa sv nm Q a am wc wm H locs ls i cells slots cx hX hbl hL hi hI hw hl hc1 hc2 kk
  have hx := cx.1
  have hb := cx.2.1
  obtain ⟨f0, g0⟩ := hI.c0
  obtain ⟨f1, g1⟩ := hI.m0
  obtain ⟨r, wm2, Qv, m1, m2, h9⟩ := si_when (l := l) (D := D) hI (xs (i + 1))
  refine lv_aload_n hx hb dL_694 rfl (lv_at hl 1 rfl) ?_
  refine pushA (j := 1) cx hX hbl (Nat.not_le.mpr hbl) hw.2.2 hl hL (by omega) (by decide) (by decide) dL_695 dL_696 dL_697 dL_698 dL_699 ?_
  refine calL (As := [.int (xs (i + 1))]) (rest := []) cx hw hl.1 m1 nE0 (fun _ _ _ => trivial) q_707 k_X11_when rfl g0 rfl dL_700 rfl (Nat.le_of_ble_eq_true rfl) ⟨(Nat.le_of_ble_eq_true rfl), (Nat.le_of_ble_eq_true rfl)⟩ ⟨by show cells + 0 ≤ 629818; omega, by show slots + 0 ≤ 7212793; omega⟩ (fun v wc2 H locs hq hw => ?_)
  obtain ⟨rfl, hI2⟩ := h9 v wc2 hq
  refine lv_aload_n hx hb dL_703 rfl (lv_at hl 2 rfl) ?_
  refine pushA (j := 1) cx hX hbl (Nat.not_le.mpr hbl) hw.2.2 hl hL (by omega) (by decide) (by decide) dL_704 dL_705 dL_706 dL_707 dL_708 ?_
  refine calR (As := [.int (xs (i + 1))]) (rest := [.int r]) cx hw hl.1 m2 q_1457 k_X12_when rfl g1 rfl dL_709 rfl (Nat.le_of_ble_eq_true rfl) ⟨(Nat.le_of_ble_eq_true rfl), (Nat.le_of_ble_eq_true rfl)⟩ ⟨by show cells + 0 ≤ 629818; omega, by show slots + 0 ≤ 7212793; omega⟩ (fun H locs hw => ?_)
  refine lv_icmp_eq (tgt := 1735) hx hb dL_712 (by decide +kernel) (fun hc => ?_) (fun hc => absurd rfl hc)
  refine W.widen (k := cells + 6) (n := slots + 247) (by omega) (by omega) ?_
  exact kk _ _ H locs hI2 hw
theorem lc_prideFor : LC 717 := by
  intro p l e s m below meth c b L xs D t sa sv nm Q a am wc wm H locs ls i cells slots cx hX hbl hL hi hI hw hl hc1 hc2 kk
  have hx := cx.1
  have hb := cx.2.1
  obtain ⟨f0, g0⟩ := hI.c0
  obtain ⟨f1, g1⟩ := hI.m0
  obtain ⟨r, wm2, Qv, m1, m2, h9⟩ := si_prideFor (l := l) (D := D) hI (xs (i + 1))
  refine lv_aload_n hx hb dL_717 rfl (lv_at hl 1 rfl) ?_
  refine pushA (j := 1) cx hX hbl (Nat.not_le.mpr hbl) hw.2.2 hl hL (by omega) (by decide) (by decide) dL_718 dL_719 dL_720 dL_721 dL_722 ?_
  refine calL (As := [.int (xs (i + 1))]) (rest := []) cx hw hl.1 m1 nE0 (fun _ _ _ => trivial) q_712 k_X11_prideFor rfl g0 rfl dL_723 rfl (Nat.le_of_ble_eq_true rfl) ⟨(Nat.le_of_ble_eq_true rfl), (Nat.le_of_ble_eq_true rfl)⟩ ⟨by show cells + 0 ≤ 629818; omega, by show slots + 0 ≤ 7212793; omega⟩ (fun v wc2 H locs hq hw => ?_)
  obtain ⟨rfl, hI2⟩ := h9 v wc2 hq
  refine lv_aload_n hx hb dL_726 rfl (lv_at hl 2 rfl) ?_
  refine pushA (j := 1) cx hX hbl (Nat.not_le.mpr hbl) hw.2.2 hl hL (by omega) (by decide) (by decide) dL_727 dL_728 dL_729 dL_730 dL_731 ?_
  refine calR (As := [.int (xs (i + 1))]) (rest := [.int r]) cx hw hl.1 m2 q_1461 k_X12_prideFor rfl g1 rfl dL_732 rfl (Nat.le_of_ble_eq_true rfl) ⟨(Nat.le_of_ble_eq_true rfl), (Nat.le_of_ble_eq_true rfl)⟩ ⟨by show cells + 0 ≤ 629818; omega, by show slots + 0 ≤ 7212793; omega⟩ (fun H locs hw => ?_)
  refine lv_icmp_eq (tgt := 1735) hx hb dL_735 (by decide +kernel) (fun hc => ?_) (fun hc => absurd rfl hc)
  refine W.widen (k := cells + 6) (n := slots + 247) (by omega) (by omega) ?_
  exact kk _ _ H locs hI2 hw
theorem lc_spotFor : LC 740 := by
  intro p l e s m below meth c b L xs D t sa sv nm Q a am wc wm H locs ls i cells slots cx hX hbl hL hi hI hw hl hc1 hc2 kk
  have hx := cx.1
  have hb := cx.2.1
  obtain ⟨f0, g0⟩ := hI.c0
  obtain ⟨f1, g1⟩ := hI.m0
  obtain ⟨r, wm2, Qv, m1, m2, h9⟩ := si_spotFor (l := l) (D := D) hI (xs (i + 1))
  refine lv_aload_n hx hb dL_740 rfl (lv_at hl 1 rfl) ?_
  refine pushA (j := 1) cx hX hbl (Nat.not_le.mpr hbl) hw.2.2 hl hL (by omega) (by decide) (by decide) dL_741 dL_742 dL_743 dL_744 dL_745 ?_
  refine calL (As := [.int (xs (i + 1))]) (rest := []) cx hw hl.1 m1 nE0 (fun _ _ _ => trivial) q_728 k_X11_spotFor rfl g0 rfl dL_746 rfl (Nat.le_of_ble_eq_true rfl) ⟨(Nat.le_of_ble_eq_true rfl), (Nat.le_of_ble_eq_true rfl)⟩ ⟨by show cells + 0 ≤ 629818; omega, by show slots + 0 ≤ 7212793; omega⟩ (fun v wc2 H locs hq hw => ?_)
  obtain ⟨rfl, hI2⟩ := h9 v wc2 hq
  refine lv_aload_n hx hb dL_749 rfl (lv_at hl 2 rfl) ?_
  refine pushA (j := 1) cx hX hbl (Nat.not_le.mpr hbl) hw.2.2 hl hL (by omega) (by decide) (by decide) dL_750 dL_751 dL_752 dL_753 dL_754 ?_
  refine calR (As := [.int (xs (i + 1))]) (rest := [.int r]) cx hw hl.1 m2 q_1469 k_X12_spotFor rfl g1 rfl dL_755 rfl (Nat.le_of_ble_eq_true rfl) ⟨(Nat.le_of_ble_eq_true rfl), (Nat.le_of_ble_eq_true rfl)⟩ ⟨by show cells + 0 ≤ 629818; omega, by show slots + 0 ≤ 7212793; omega⟩ (fun H locs hw => ?_)
  refine lv_icmp_eq (tgt := 1735) hx hb dL_758 (by decide +kernel) (fun hc => ?_) (fun hc => absurd rfl hc)
  refine W.widen (k := cells + 6) (n := slots + 247) (by omega) (by omega) ?_
  exact kk _ _ H locs hI2 hw
