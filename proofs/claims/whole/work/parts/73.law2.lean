section ZLc
variable {E : zE} {b L : Nat} {xs : Nat → Int32} {i : Nat} {M : zMem}
theorem lc_0 (hL : L ≤ 3072) (h6 : i + 6 ≤ L) (hs : zStep E zm_X6_row zm_X7_row [.int (xs (i + 1)), .int (xs (i + 2)), .int (xs (i + 3))] M) (kk : ∀ M2, zInv M2 → zL E b L xs i 1348 [] M2) : zL E b L xs i 196 [] M := by
  obtain ⟨d1, d2, rv, M1, M2, h1, h2, hx, hm, hi⟩ := hs
  refine zl_aload1 (n := 197) dL_law_196 rfl ?_
  refine zl_arg (j := 1) (n := 202) (by decide) dL_law_197 dL_law_198 dL_law_199 dL_law_200 dL_law_201 rfl (by omega) hL ?_
  refine zl_arg (j := 2) (n := 207) (by decide) dL_law_202 dL_law_203 dL_law_204 dL_law_205 dL_law_206 rfl (by omega) hL ?_
  refine zl_arg (j := 3) (n := 212) (by decide) dL_law_207 dL_law_208 dL_law_209 dL_law_210 dL_law_211 rfl (by omega) hL ?_
  refine zl_call (mj := zm_X6_row) (a := 145) (av := [.int (xs (i + 1)), .int (xs (i + 2)), .int (xs (i + 3))]) (st := []) (n := 215) dL_law_212 rfl zl_L_13 zy_X6_row (zrc_X6 _ _) h1 (Nat.le_of_ble_eq_true rfl) hx ?_
  refine zl_aload2 (n := 216) dL_law_215 rfl ?_
  refine zl_arg (j := 1) (n := 221) (by decide) dL_law_216 dL_law_217 dL_law_218 dL_law_219 dL_law_220 rfl (by omega) hL ?_
  refine zl_arg (j := 2) (n := 226) (by decide) dL_law_221 dL_law_222 dL_law_223 dL_law_224 dL_law_225 rfl (by omega) hL ?_
  refine zl_arg (j := 3) (n := 231) (by decide) dL_law_226 dL_law_227 dL_law_228 dL_law_229 dL_law_230 rfl (by omega) hL ?_
  refine zl_call (mj := zm_X7_row) (a := 165) (av := [.int (xs (i + 1)), .int (xs (i + 2)), .int (xs (i + 3))]) (st := [.int rv]) (n := 234) dL_law_231 rfl zl_L_17 zy_X7_row (zrc_X7 _ _) h2 (Nat.le_of_ble_eq_true rfl) hm ?_
  exact zl_eq dL_law_234 (tgt := 1348) (by decide) (kk M2 hi)
theorem lc_1 (hL : L ≤ 3072) (h6 : i + 6 ≤ L) (hs : zStep E zm_X6_set zm_X7_set [.int (xs (i + 1)), .int (xs (i + 2)), .int (xs (i + 3))] M) (kk : ∀ M2, zInv M2 → zL E b L xs i 1348 [] M2) : zL E b L xs i 239 [] M := by
  obtain ⟨d1, d2, rv, M1, M2, h1, h2, hx, hm, hi⟩ := hs
  refine zl_aload1 (n := 240) dL_law_239 rfl ?_
  refine zl_arg (j := 1) (n := 245) (by decide) dL_law_240 dL_law_241 dL_law_242 dL_law_243 dL_law_244 rfl (by omega) hL ?_
  refine zl_arg (j := 2) (n := 250) (by decide) dL_law_245 dL_law_246 dL_law_247 dL_law_248 dL_law_249 rfl (by omega) hL ?_
  refine zl_arg (j := 3) (n := 255) (by decide) dL_law_250 dL_law_251 dL_law_252 dL_law_253 dL_law_254 rfl (by omega) hL ?_
  refine zl_call (mj := zm_X6_set) (a := 145) (av := [.int (xs (i + 1)), .int (xs (i + 2)), .int (xs (i + 3))]) (st := []) (n := 258) dL_law_255 rfl zl_L_18 zy_X6_set (zrc_X6 _ _) h1 (Nat.le_of_ble_eq_true rfl) hx ?_
  refine zl_aload2 (n := 259) dL_law_258 rfl ?_
  refine zl_arg (j := 1) (n := 264) (by decide) dL_law_259 dL_law_260 dL_law_261 dL_law_262 dL_law_263 rfl (by omega) hL ?_
  refine zl_arg (j := 2) (n := 269) (by decide) dL_law_264 dL_law_265 dL_law_266 dL_law_267 dL_law_268 rfl (by omega) hL ?_
  refine zl_arg (j := 3) (n := 274) (by decide) dL_law_269 dL_law_270 dL_law_271 dL_law_272 dL_law_273 rfl (by omega) hL ?_
  refine zl_call (mj := zm_X7_set) (a := 165) (av := [.int (xs (i + 1)), .int (xs (i + 2)), .int (xs (i + 3))]) (st := [.int rv]) (n := 277) dL_law_274 rfl zl_L_21 zy_X7_set (zrc_X7 _ _) h2 (Nat.le_of_ble_eq_true rfl) hm ?_
  exact zl_eq dL_law_277 (tgt := 1348) (by decide) (kk M2 hi)
theorem lc_2 (hL : L ≤ 3072) (h6 : i + 6 ≤ L) (hs : zStep E zm_X6_copy zm_X7_copy [.int (xs (i + 1)), .int (xs (i + 2)), .int (xs (i + 3)), .int (xs (i + 4)), .int (xs (i + 5))] M) (kk : ∀ M2, zInv M2 → zL E b L xs i 1348 [] M2) : zL E b L xs i 282 [] M := by
  obtain ⟨d1, d2, rv, M1, M2, h1, h2, hx, hm, hi⟩ := hs
  refine zl_aload1 (n := 283) dL_law_282 rfl ?_
  refine zl_arg (j := 1) (n := 288) (by decide) dL_law_283 dL_law_284 dL_law_285 dL_law_286 dL_law_287 rfl (by omega) hL ?_
  refine zl_arg (j := 2) (n := 293) (by decide) dL_law_288 dL_law_289 dL_law_290 dL_law_291 dL_law_292 rfl (by omega) hL ?_
  refine zl_arg (j := 3) (n := 298) (by decide) dL_law_293 dL_law_294 dL_law_295 dL_law_296 dL_law_297 rfl (by omega) hL ?_
  refine zl_arg (j := 4) (n := 303) (by decide) dL_law_298 dL_law_299 dL_law_300 dL_law_301 dL_law_302 rfl (by omega) hL ?_
  refine zl_arg (j := 5) (n := 308) (by decide) dL_law_303 dL_law_304 dL_law_305 dL_law_306 dL_law_307 rfl (by omega) hL ?_
  refine zl_call (mj := zm_X6_copy) (a := 145) (av := [.int (xs (i + 1)), .int (xs (i + 2)), .int (xs (i + 3)), .int (xs (i + 4)), .int (xs (i + 5))]) (st := []) (n := 311) dL_law_308 rfl zl_L_22 zy_X6_copy (zrc_X6 _ _) h1 (Nat.le_of_ble_eq_true rfl) hx ?_
  refine zl_aload2 (n := 312) dL_law_311 rfl ?_
  refine zl_arg (j := 1) (n := 317) (by decide) dL_law_312 dL_law_313 dL_law_314 dL_law_315 dL_law_316 rfl (by omega) hL ?_
  refine zl_arg (j := 2) (n := 322) (by decide) dL_law_317 dL_law_318 dL_law_319 dL_law_320 dL_law_321 rfl (by omega) hL ?_
  refine zl_arg (j := 3) (n := 327) (by decide) dL_law_322 dL_law_323 dL_law_324 dL_law_325 dL_law_326 rfl (by omega) hL ?_
  refine zl_arg (j := 4) (n := 332) (by decide) dL_law_327 dL_law_328 dL_law_329 dL_law_330 dL_law_331 rfl (by omega) hL ?_
  refine zl_arg (j := 5) (n := 337) (by decide) dL_law_332 dL_law_333 dL_law_334 dL_law_335 dL_law_336 rfl (by omega) hL ?_
  refine zl_call (mj := zm_X7_copy) (a := 165) (av := [.int (xs (i + 1)), .int (xs (i + 2)), .int (xs (i + 3)), .int (xs (i + 4)), .int (xs (i + 5))]) (st := [.int rv]) (n := 340) dL_law_337 rfl zl_L_26 zy_X7_copy (zrc_X7 _ _) h2 (Nat.le_of_ble_eq_true rfl) hm ?_
  exact zl_eq dL_law_340 (tgt := 1348) (by decide) (kk M2 hi)
theorem lc_3 (hL : L ≤ 3072) (h6 : i + 6 ≤ L) (hs : zStep E zm_X6_drop zm_X7_drop [.int (xs (i + 1))] M) (kk : ∀ M2, zInv M2 → zL E b L xs i 1348 [] M2) : zL E b L xs i 345 [] M := by
  obtain ⟨d1, d2, rv, M1, M2, h1, h2, hx, hm, hi⟩ := hs
  refine zl_aload1 (n := 346) dL_law_345 rfl ?_
  refine zl_arg (j := 1) (n := 351) (by decide) dL_law_346 dL_law_347 dL_law_348 dL_law_349 dL_law_350 rfl (by omega) hL ?_
  refine zl_call (mj := zm_X6_drop) (a := 145) (av := [.int (xs (i + 1))]) (st := []) (n := 354) dL_law_351 rfl zl_L_27 zy_X6_drop (zrc_X6 _ _) h1 (Nat.le_of_ble_eq_true rfl) hx ?_
  refine zl_aload2 (n := 355) dL_law_354 rfl ?_
  refine zl_arg (j := 1) (n := 360) (by decide) dL_law_355 dL_law_356 dL_law_357 dL_law_358 dL_law_359 rfl (by omega) hL ?_
  refine zl_call (mj := zm_X7_drop) (a := 165) (av := [.int (xs (i + 1))]) (st := [.int rv]) (n := 363) dL_law_360 rfl zl_L_31 zy_X7_drop (zrc_X7 _ _) h2 (Nat.le_of_ble_eq_true rfl) hm ?_
  exact zl_eq dL_law_363 (tgt := 1348) (by decide) (kk M2 hi)
theorem lc_4 (hL : L ≤ 3072) (h6 : i + 6 ≤ L) (hs : zStep E zm_X6_feed zm_X7_feed [.int (xs (i + 1))] M) (kk : ∀ M2, zInv M2 → zL E b L xs i 1348 [] M2) : zL E b L xs i 368 [] M := by
  obtain ⟨d1, d2, rv, M1, M2, h1, h2, hx, hm, hi⟩ := hs
  refine zl_aload1 (n := 369) dL_law_368 rfl ?_
  refine zl_arg (j := 1) (n := 374) (by decide) dL_law_369 dL_law_370 dL_law_371 dL_law_372 dL_law_373 rfl (by omega) hL ?_
  refine zl_call (mj := zm_X6_feed) (a := 145) (av := [.int (xs (i + 1))]) (st := []) (n := 377) dL_law_374 rfl zl_L_32 zy_X6_feed (zrc_X6 _ _) h1 (Nat.le_of_ble_eq_true rfl) hx ?_
  refine zl_aload2 (n := 378) dL_law_377 rfl ?_
  refine zl_arg (j := 1) (n := 383) (by decide) dL_law_378 dL_law_379 dL_law_380 dL_law_381 dL_law_382 rfl (by omega) hL ?_
  refine zl_call (mj := zm_X7_feed) (a := 165) (av := [.int (xs (i + 1))]) (st := [.int rv]) (n := 386) dL_law_383 rfl zl_L_35 zy_X7_feed (zrc_X7 _ _) h2 (Nat.le_of_ble_eq_true rfl) hm ?_
  exact zl_eq dL_law_386 (tgt := 1348) (by decide) (kk M2 hi)
theorem lc_5 (hL : L ≤ 3072) (h6 : i + 6 ≤ L) (hs : zStep E zm_X6_square zm_X7_square [] M) (kk : ∀ M2, zInv M2 → zL E b L xs i 1348 [] M2) : zL E b L xs i 391 [] M := by
  obtain ⟨d1, d2, rv, M1, M2, h1, h2, hx, hm, hi⟩ := hs
  refine zl_aload1 (n := 392) dL_law_391 rfl ?_
  refine zl_call (mj := zm_X6_square) (a := 145) (av := []) (st := []) (n := 395) dL_law_392 rfl zl_L_36 zy_X6_square (zrc_X6 _ _) h1 (Nat.le_of_ble_eq_true rfl) hx ?_
  refine zl_aload2 (n := 396) dL_law_395 rfl ?_
  refine zl_call (mj := zm_X7_square) (a := 165) (av := []) (st := [.int rv]) (n := 399) dL_law_396 rfl zl_L_40 zy_X7_square (zrc_X7 _ _) h2 (Nat.le_of_ble_eq_true rfl) hm ?_
  exact zl_eq dL_law_399 (tgt := 1348) (by decide) (kk M2 hi)
theorem lc_6 (hL : L ≤ 3072) (h6 : i + 6 ≤ L) (hs : zStep E zm_X6_fault zm_X7_fault [] M) (kk : ∀ M2, zInv M2 → zL E b L xs i 1348 [] M2) : zL E b L xs i 404 [] M := by
  obtain ⟨d1, d2, rv, M1, M2, h1, h2, hx, hm, hi⟩ := hs
  refine zl_aload1 (n := 405) dL_law_404 rfl ?_
  refine zl_call (mj := zm_X6_fault) (a := 145) (av := []) (st := []) (n := 408) dL_law_405 rfl zl_L_41 zy_X6_fault (zrc_X6 _ _) h1 (Nat.le_of_ble_eq_true rfl) hx ?_
  refine zl_aload2 (n := 409) dL_law_408 rfl ?_
  refine zl_call (mj := zm_X7_fault) (a := 165) (av := []) (st := [.int rv]) (n := 412) dL_law_409 rfl zl_L_44 zy_X7_fault (zrc_X7 _ _) h2 (Nat.le_of_ble_eq_true rfl) hm ?_
  exact zl_eq dL_law_412 (tgt := 1348) (by decide) (kk M2 hi)
theorem lc_7 (hL : L ≤ 3072) (h6 : i + 6 ≤ L) (hs : zStep E zm_X6_undo zm_X7_undo [] M) (kk : ∀ M2, zInv M2 → zL E b L xs i 1348 [] M2) : zL E b L xs i 417 [] M := by
  obtain ⟨d1, d2, rv, M1, M2, h1, h2, hx, hm, hi⟩ := hs
  refine zl_aload1 (n := 418) dL_law_417 rfl ?_
  refine zl_call (mj := zm_X6_undo) (a := 145) (av := []) (st := []) (n := 421) dL_law_418 rfl zl_L_45 zy_X6_undo (zrc_X6 _ _) h1 (Nat.le_of_ble_eq_true rfl) hx ?_
  refine zl_aload2 (n := 422) dL_law_421 rfl ?_
  refine zl_call (mj := zm_X7_undo) (a := 165) (av := []) (st := [.int rv]) (n := 425) dL_law_422 rfl zl_L_48 zy_X7_undo (zrc_X7 _ _) h2 (Nat.le_of_ble_eq_true rfl) hm ?_
  exact zl_eq dL_law_425 (tgt := 1348) (by decide) (kk M2 hi)
theorem lc_8 (hL : L ≤ 3072) (h6 : i + 6 ≤ L) (hs : zStep E zm_X6_noons zm_X7_noons [.int (xs (i + 1))] M) (kk : ∀ M2, zInv M2 → zL E b L xs i 1348 [] M2) : zL E b L xs i 430 [] M := by
  obtain ⟨d1, d2, rv, M1, M2, h1, h2, hx, hm, hi⟩ := hs
  refine zl_aload1 (n := 431) dL_law_430 rfl ?_
  refine zl_arg (j := 1) (n := 436) (by decide) dL_law_431 dL_law_432 dL_law_433 dL_law_434 dL_law_435 rfl (by omega) hL ?_
  refine zl_call (mj := zm_X6_noons) (a := 145) (av := [.int (xs (i + 1))]) (st := []) (n := 439) dL_law_436 rfl zl_L_49 zy_X6_noons (zrc_X6 _ _) h1 (Nat.le_of_ble_eq_true rfl) hx ?_
  refine zl_aload2 (n := 440) dL_law_439 rfl ?_
  refine zl_arg (j := 1) (n := 445) (by decide) dL_law_440 dL_law_441 dL_law_442 dL_law_443 dL_law_444 rfl (by omega) hL ?_
  refine zl_call (mj := zm_X7_noons) (a := 165) (av := [.int (xs (i + 1))]) (st := [.int rv]) (n := 448) dL_law_445 rfl zl_L_52 zy_X7_noons (zrc_X7 _ _) h2 (Nat.le_of_ble_eq_true rfl) hm ?_
  exact zl_eq dL_law_448 (tgt := 1348) (by decide) (kk M2 hi)
theorem lc_9 (hL : L ≤ 3072) (h6 : i + 6 ≤ L) (hs : zStep E zm_X6_move zm_X7_move [.int (xs (i + 1)), .int (xs (i + 2))] M) (kk : ∀ M2, zInv M2 → zL E b L xs i 1348 [] M2) : zL E b L xs i 453 [] M := by
  obtain ⟨d1, d2, rv, M1, M2, h1, h2, hx, hm, hi⟩ := hs
  refine zl_aload1 (n := 454) dL_law_453 rfl ?_
  refine zl_arg (j := 1) (n := 459) (by decide) dL_law_454 dL_law_455 dL_law_456 dL_law_457 dL_law_458 rfl (by omega) hL ?_
  refine zl_arg (j := 2) (n := 464) (by decide) dL_law_459 dL_law_460 dL_law_461 dL_law_462 dL_law_463 rfl (by omega) hL ?_
  refine zl_call (mj := zm_X6_move) (a := 145) (av := [.int (xs (i + 1)), .int (xs (i + 2))]) (st := []) (n := 467) dL_law_464 rfl zl_L_53 zy_X6_move (zrc_X6 _ _) h1 (Nat.le_of_ble_eq_true rfl) hx ?_
  refine zl_aload2 (n := 468) dL_law_467 rfl ?_
  refine zl_arg (j := 1) (n := 473) (by decide) dL_law_468 dL_law_469 dL_law_470 dL_law_471 dL_law_472 rfl (by omega) hL ?_
  refine zl_arg (j := 2) (n := 478) (by decide) dL_law_473 dL_law_474 dL_law_475 dL_law_476 dL_law_477 rfl (by omega) hL ?_
  refine zl_call (mj := zm_X7_move) (a := 165) (av := [.int (xs (i + 1)), .int (xs (i + 2))]) (st := [.int rv]) (n := 481) dL_law_478 rfl zl_L_57 zy_X7_move (zrc_X7 _ _) h2 (Nat.le_of_ble_eq_true rfl) hm ?_
  exact zl_eq dL_law_481 (tgt := 1348) (by decide) (kk M2 hi)
theorem lc_10 (hL : L ≤ 3072) (h6 : i + 6 ≤ L) (hs : zStep E zm_X6_write zm_X7_write [.int (xs (i + 1)), .int (xs (i + 2))] M) (kk : ∀ M2, zInv M2 → zL E b L xs i 1348 [] M2) : zL E b L xs i 486 [] M := by
  obtain ⟨d1, d2, rv, M1, M2, h1, h2, hx, hm, hi⟩ := hs
  refine zl_aload1 (n := 487) dL_law_486 rfl ?_
  refine zl_arg (j := 1) (n := 492) (by decide) dL_law_487 dL_law_488 dL_law_489 dL_law_490 dL_law_491 rfl (by omega) hL ?_
  refine zl_arg (j := 2) (n := 497) (by decide) dL_law_492 dL_law_493 dL_law_494 dL_law_495 dL_law_496 rfl (by omega) hL ?_
  refine zl_call (mj := zm_X6_write) (a := 145) (av := [.int (xs (i + 1)), .int (xs (i + 2))]) (st := []) (n := 500) dL_law_497 rfl zl_L_58 zy_X6_write (zrc_X6 _ _) h1 (Nat.le_of_ble_eq_true rfl) hx ?_
  refine zl_aload2 (n := 501) dL_law_500 rfl ?_
  refine zl_arg (j := 1) (n := 506) (by decide) dL_law_501 dL_law_502 dL_law_503 dL_law_504 dL_law_505 rfl (by omega) hL ?_
  refine zl_arg (j := 2) (n := 511) (by decide) dL_law_506 dL_law_507 dL_law_508 dL_law_509 dL_law_510 rfl (by omega) hL ?_
  refine zl_call (mj := zm_X7_write) (a := 165) (av := [.int (xs (i + 1)), .int (xs (i + 2))]) (st := [.int rv]) (n := 514) dL_law_511 rfl zl_L_61 zy_X7_write (zrc_X7 _ _) h2 (Nat.le_of_ble_eq_true rfl) hm ?_
  exact zl_eq dL_law_514 (tgt := 1348) (by decide) (kk M2 hi)
theorem lc_11 (hL : L ≤ 3072) (h6 : i + 6 ≤ L) (hs : zStep E zm_X6_hide zm_X7_hide [.int (xs (i + 1))] M) (kk : ∀ M2, zInv M2 → zL E b L xs i 1348 [] M2) : zL E b L xs i 519 [] M := by
  obtain ⟨d1, d2, rv, M1, M2, h1, h2, hx, hm, hi⟩ := hs
  refine zl_aload1 (n := 520) dL_law_519 rfl ?_
  refine zl_arg (j := 1) (n := 525) (by decide) dL_law_520 dL_law_521 dL_law_522 dL_law_523 dL_law_524 rfl (by omega) hL ?_
  refine zl_call (mj := zm_X6_hide) (a := 145) (av := [.int (xs (i + 1))]) (st := []) (n := 528) dL_law_525 rfl zl_L_62 zy_X6_hide (zrc_X6 _ _) h1 (Nat.le_of_ble_eq_true rfl) hx ?_
  refine zl_aload2 (n := 529) dL_law_528 rfl ?_
  refine zl_arg (j := 1) (n := 534) (by decide) dL_law_529 dL_law_530 dL_law_531 dL_law_532 dL_law_533 rfl (by omega) hL ?_
  refine zl_call (mj := zm_X7_hide) (a := 165) (av := [.int (xs (i + 1))]) (st := [.int rv]) (n := 537) dL_law_534 rfl zl_L_65 zy_X7_hide (zrc_X7 _ _) h2 (Nat.le_of_ble_eq_true rfl) hm ?_
  exact zl_eq dL_law_537 (tgt := 1348) (by decide) (kk M2 hi)
theorem lc_12 (hL : L ≤ 3072) (h6 : i + 6 ≤ L) (hs : zStep E zm_X6_clock zm_X7_clock [.int (xs (i + 1))] M) (kk : ∀ M2, zInv M2 → zL E b L xs i 1348 [] M2) : zL E b L xs i 542 [] M := by
  obtain ⟨d1, d2, rv, M1, M2, h1, h2, hx, hm, hi⟩ := hs
  refine zl_aload1 (n := 543) dL_law_542 rfl ?_
  refine zl_arg (j := 1) (n := 548) (by decide) dL_law_543 dL_law_544 dL_law_545 dL_law_546 dL_law_547 rfl (by omega) hL ?_
  refine zl_call (mj := zm_X6_clock) (a := 145) (av := [.int (xs (i + 1))]) (st := []) (n := 551) dL_law_548 rfl zl_L_66 zy_X6_clock (zrc_X6 _ _) h1 (Nat.le_of_ble_eq_true rfl) hx ?_
  refine zl_aload2 (n := 552) dL_law_551 rfl ?_
  refine zl_arg (j := 1) (n := 557) (by decide) dL_law_552 dL_law_553 dL_law_554 dL_law_555 dL_law_556 rfl (by omega) hL ?_
  refine zl_call (mj := zm_X7_clock) (a := 165) (av := [.int (xs (i + 1))]) (st := [.int rv]) (n := 560) dL_law_557 rfl zl_L_69 zy_X7_clock (zrc_X7 _ _) h2 (Nat.le_of_ble_eq_true rfl) hm ?_
  exact zl_eq dL_law_560 (tgt := 1348) (by decide) (kk M2 hi)
theorem lc_13 (hL : L ≤ 3072) (h6 : i + 6 ≤ L) (hs : zStep E zm_X6_paper zm_X7_paper [.int (xs (i + 1)), .int (xs (i + 2))] M) (kk : ∀ M2, zInv M2 → zL E b L xs i 1348 [] M2) : zL E b L xs i 565 [] M := by
  obtain ⟨d1, d2, rv, M1, M2, h1, h2, hx, hm, hi⟩ := hs
  refine zl_aload1 (n := 566) dL_law_565 rfl ?_
  refine zl_arg (j := 1) (n := 571) (by decide) dL_law_566 dL_law_567 dL_law_568 dL_law_569 dL_law_570 rfl (by omega) hL ?_
  refine zl_arg (j := 2) (n := 576) (by decide) dL_law_571 dL_law_572 dL_law_573 dL_law_574 dL_law_575 rfl (by omega) hL ?_
  refine zl_call (mj := zm_X6_paper) (a := 145) (av := [.int (xs (i + 1)), .int (xs (i + 2))]) (st := []) (n := 579) dL_law_576 rfl zl_L_70 zy_X6_paper (zrc_X6 _ _) h1 (Nat.le_of_ble_eq_true rfl) hx ?_
  refine zl_aload2 (n := 580) dL_law_579 rfl ?_
  refine zl_arg (j := 1) (n := 585) (by decide) dL_law_580 dL_law_581 dL_law_582 dL_law_583 dL_law_584 rfl (by omega) hL ?_
  refine zl_arg (j := 2) (n := 590) (by decide) dL_law_585 dL_law_586 dL_law_587 dL_law_588 dL_law_589 rfl (by omega) hL ?_
  refine zl_call (mj := zm_X7_paper) (a := 165) (av := [.int (xs (i + 1)), .int (xs (i + 2))]) (st := [.int rv]) (n := 593) dL_law_590 rfl zl_L_73 zy_X7_paper (zrc_X7 _ _) h2 (Nat.le_of_ble_eq_true rfl) hm ?_
  exact zl_eq dL_law_593 (tgt := 1348) (by decide) (kk M2 hi)
theorem lc_14 (hL : L ≤ 3072) (h6 : i + 6 ≤ L) (hs : zStep E zm_X6_stand zm_X7_stand [.int (xs (i + 1))] M) (kk : ∀ M2, zInv M2 → zL E b L xs i 1348 [] M2) : zL E b L xs i 598 [] M := by
  obtain ⟨d1, d2, rv, M1, M2, h1, h2, hx, hm, hi⟩ := hs
  refine zl_aload1 (n := 599) dL_law_598 rfl ?_
  refine zl_arg (j := 1) (n := 604) (by decide) dL_law_599 dL_law_600 dL_law_601 dL_law_602 dL_law_603 rfl (by omega) hL ?_
  refine zl_call (mj := zm_X6_stand) (a := 145) (av := [.int (xs (i + 1))]) (st := []) (n := 607) dL_law_604 rfl zl_L_74 zy_X6_stand (zrc_X6 _ _) h1 (Nat.le_of_ble_eq_true rfl) hx ?_
  refine zl_aload2 (n := 608) dL_law_607 rfl ?_
  refine zl_arg (j := 1) (n := 613) (by decide) dL_law_608 dL_law_609 dL_law_610 dL_law_611 dL_law_612 rfl (by omega) hL ?_
  refine zl_call (mj := zm_X7_stand) (a := 165) (av := [.int (xs (i + 1))]) (st := [.int rv]) (n := 616) dL_law_613 rfl zl_L_77 zy_X7_stand (zrc_X7 _ _) h2 (Nat.le_of_ble_eq_true rfl) hm ?_
  exact zl_eq dL_law_616 (tgt := 1348) (by decide) (kk M2 hi)
theorem lc_15 (hL : L ≤ 3072) (h6 : i + 6 ≤ L) (hs : zStep E zm_X6_ahead zm_X7_ahead [.int (xs (i + 1)), .int (xs (i + 2)), .int (xs (i + 3))] M) (kk : ∀ M2, zInv M2 → zL E b L xs i 1348 [] M2) : zL E b L xs i 621 [] M := by
  obtain ⟨d1, d2, rv, M1, M2, h1, h2, hx, hm, hi⟩ := hs
  refine zl_aload1 (n := 622) dL_law_621 rfl ?_
  refine zl_arg (j := 1) (n := 627) (by decide) dL_law_622 dL_law_623 dL_law_624 dL_law_625 dL_law_626 rfl (by omega) hL ?_
  refine zl_arg (j := 2) (n := 632) (by decide) dL_law_627 dL_law_628 dL_law_629 dL_law_630 dL_law_631 rfl (by omega) hL ?_
  refine zl_arg (j := 3) (n := 637) (by decide) dL_law_632 dL_law_633 dL_law_634 dL_law_635 dL_law_636 rfl (by omega) hL ?_
  refine zl_call (mj := zm_X6_ahead) (a := 145) (av := [.int (xs (i + 1)), .int (xs (i + 2)), .int (xs (i + 3))]) (st := []) (n := 640) dL_law_637 rfl zl_L_78 zy_X6_ahead (zrc_X6 _ _) h1 (Nat.le_of_ble_eq_true rfl) hx ?_
  refine zl_aload2 (n := 641) dL_law_640 rfl ?_
  refine zl_arg (j := 1) (n := 646) (by decide) dL_law_641 dL_law_642 dL_law_643 dL_law_644 dL_law_645 rfl (by omega) hL ?_
  refine zl_arg (j := 2) (n := 651) (by decide) dL_law_646 dL_law_647 dL_law_648 dL_law_649 dL_law_650 rfl (by omega) hL ?_
  refine zl_arg (j := 3) (n := 656) (by decide) dL_law_651 dL_law_652 dL_law_653 dL_law_654 dL_law_655 rfl (by omega) hL ?_
  refine zl_call (mj := zm_X7_ahead) (a := 165) (av := [.int (xs (i + 1)), .int (xs (i + 2)), .int (xs (i + 3))]) (st := [.int rv]) (n := 659) dL_law_656 rfl zl_L_81 zy_X7_ahead (zrc_X7 _ _) h2 (Nat.le_of_ble_eq_true rfl) hm ?_
  exact zl_eq dL_law_659 (tgt := 1348) (by decide) (kk M2 hi)
theorem lc_16 (hL : L ≤ 3072) (h6 : i + 6 ≤ L) (hs : zStep E zm_X6_bitten zm_X7_bitten [.int (xs (i + 1)), .int (xs (i + 2))] M) (kk : ∀ M2, zInv M2 → zL E b L xs i 1348 [] M2) : zL E b L xs i 664 [] M := by
  obtain ⟨d1, d2, rv, M1, M2, h1, h2, hx, hm, hi⟩ := hs
  refine zl_aload1 (n := 665) dL_law_664 rfl ?_
  refine zl_arg (j := 1) (n := 670) (by decide) dL_law_665 dL_law_666 dL_law_667 dL_law_668 dL_law_669 rfl (by omega) hL ?_
  refine zl_arg (j := 2) (n := 675) (by decide) dL_law_670 dL_law_671 dL_law_672 dL_law_673 dL_law_674 rfl (by omega) hL ?_
  refine zl_call (mj := zm_X6_bitten) (a := 145) (av := [.int (xs (i + 1)), .int (xs (i + 2))]) (st := []) (n := 678) dL_law_675 rfl zl_L_82 zy_X6_bitten (zrc_X6 _ _) h1 (Nat.le_of_ble_eq_true rfl) hx ?_
  refine zl_aload2 (n := 679) dL_law_678 rfl ?_
  refine zl_arg (j := 1) (n := 684) (by decide) dL_law_679 dL_law_680 dL_law_681 dL_law_682 dL_law_683 rfl (by omega) hL ?_
  refine zl_arg (j := 2) (n := 689) (by decide) dL_law_684 dL_law_685 dL_law_686 dL_law_687 dL_law_688 rfl (by omega) hL ?_
  refine zl_call (mj := zm_X7_bitten) (a := 165) (av := [.int (xs (i + 1)), .int (xs (i + 2))]) (st := [.int rv]) (n := 692) dL_law_689 rfl zl_L_85 zy_X7_bitten (zrc_X7 _ _) h2 (Nat.le_of_ble_eq_true rfl) hm ?_
  exact zl_eq dL_law_692 (tgt := 1348) (by decide) (kk M2 hi)
theorem lc_17 (hL : L ≤ 3072) (h6 : i + 6 ≤ L) (hs : zStep E zm_X6_left zm_X7_left [.int (xs (i + 1)), .int (xs (i + 2))] M) (kk : ∀ M2, zInv M2 → zL E b L xs i 1348 [] M2) : zL E b L xs i 697 [] M := by
  obtain ⟨d1, d2, rv, M1, M2, h1, h2, hx, hm, hi⟩ := hs
  refine zl_aload1 (n := 698) dL_law_697 rfl ?_
  refine zl_arg (j := 1) (n := 703) (by decide) dL_law_698 dL_law_699 dL_law_700 dL_law_701 dL_law_702 rfl (by omega) hL ?_
  refine zl_arg (j := 2) (n := 708) (by decide) dL_law_703 dL_law_704 dL_law_705 dL_law_706 dL_law_707 rfl (by omega) hL ?_
  refine zl_call (mj := zm_X6_left) (a := 145) (av := [.int (xs (i + 1)), .int (xs (i + 2))]) (st := []) (n := 711) dL_law_708 rfl zl_L_86 zy_X6_left (zrc_X6 _ _) h1 (Nat.le_of_ble_eq_true rfl) hx ?_
  refine zl_aload2 (n := 712) dL_law_711 rfl ?_
  refine zl_arg (j := 1) (n := 717) (by decide) dL_law_712 dL_law_713 dL_law_714 dL_law_715 dL_law_716 rfl (by omega) hL ?_
  refine zl_arg (j := 2) (n := 722) (by decide) dL_law_717 dL_law_718 dL_law_719 dL_law_720 dL_law_721 rfl (by omega) hL ?_
  refine zl_call (mj := zm_X7_left) (a := 165) (av := [.int (xs (i + 1)), .int (xs (i + 2))]) (st := [.int rv]) (n := 725) dL_law_722 rfl zl_L_89 zy_X7_left (zrc_X7 _ _) h2 (Nat.le_of_ble_eq_true rfl) hm ?_
  exact zl_eq dL_law_725 (tgt := 1348) (by decide) (kk M2 hi)
theorem lc_18 (hL : L ≤ 3072) (h6 : i + 6 ≤ L) (hs : zStep E zm_X6_when zm_X7_when [.int (xs (i + 1)), .int (xs (i + 2))] M) (kk : ∀ M2, zInv M2 → zL E b L xs i 1348 [] M2) : zL E b L xs i 730 [] M := by
  obtain ⟨d1, d2, rv, M1, M2, h1, h2, hx, hm, hi⟩ := hs
  refine zl_aload1 (n := 731) dL_law_730 rfl ?_
  refine zl_arg (j := 1) (n := 736) (by decide) dL_law_731 dL_law_732 dL_law_733 dL_law_734 dL_law_735 rfl (by omega) hL ?_
  refine zl_arg (j := 2) (n := 741) (by decide) dL_law_736 dL_law_737 dL_law_738 dL_law_739 dL_law_740 rfl (by omega) hL ?_
  refine zl_call (mj := zm_X6_when) (a := 145) (av := [.int (xs (i + 1)), .int (xs (i + 2))]) (st := []) (n := 744) dL_law_741 rfl zl_L_90 zy_X6_when (zrc_X6 _ _) h1 (Nat.le_of_ble_eq_true rfl) hx ?_
  refine zl_aload2 (n := 745) dL_law_744 rfl ?_
  refine zl_arg (j := 1) (n := 750) (by decide) dL_law_745 dL_law_746 dL_law_747 dL_law_748 dL_law_749 rfl (by omega) hL ?_
  refine zl_arg (j := 2) (n := 755) (by decide) dL_law_750 dL_law_751 dL_law_752 dL_law_753 dL_law_754 rfl (by omega) hL ?_
  refine zl_call (mj := zm_X7_when) (a := 165) (av := [.int (xs (i + 1)), .int (xs (i + 2))]) (st := [.int rv]) (n := 758) dL_law_755 rfl zl_L_93 zy_X7_when (zrc_X7 _ _) h2 (Nat.le_of_ble_eq_true rfl) hm ?_
  exact zl_eq dL_law_758 (tgt := 1348) (by decide) (kk M2 hi)
theorem lc_19 (hL : L ≤ 3072) (h6 : i + 6 ≤ L) (hs : zStep E zm_X6_over zm_X7_over [] M) (kk : ∀ M2, zInv M2 → zL E b L xs i 1348 [] M2) : zL E b L xs i 763 [] M := by
  obtain ⟨d1, d2, rv, M1, M2, h1, h2, hx, hm, hi⟩ := hs
  refine zl_aload1 (n := 764) dL_law_763 rfl ?_
  refine zl_call (mj := zm_X6_over) (a := 145) (av := []) (st := []) (n := 767) dL_law_764 rfl zl_L_94 zy_X6_over (zrc_X6 _ _) h1 (Nat.le_of_ble_eq_true rfl) hx ?_
  refine zl_aload2 (n := 768) dL_law_767 rfl ?_
  refine zl_call (mj := zm_X7_over) (a := 165) (av := []) (st := [.int rv]) (n := 771) dL_law_768 rfl zl_L_97 zy_X7_over (zrc_X7 _ _) h2 (Nat.le_of_ble_eq_true rfl) hm ?_
  exact zl_eq dL_law_771 (tgt := 1348) (by decide) (kk M2 hi)
theorem lc_20 (hL : L ≤ 3072) (h6 : i + 6 ≤ L) (hs : zStep E zm_X6_spot zm_X7_spot [.int (xs (i + 1)), .int (xs (i + 2)), .int (xs (i + 3))] M) (kk : ∀ M2, zInv M2 → zL E b L xs i 1348 [] M2) : zL E b L xs i 776 [] M := by
  obtain ⟨d1, d2, rv, M1, M2, h1, h2, hx, hm, hi⟩ := hs
  refine zl_aload1 (n := 777) dL_law_776 rfl ?_
  refine zl_arg (j := 1) (n := 782) (by decide) dL_law_777 dL_law_778 dL_law_779 dL_law_780 dL_law_781 rfl (by omega) hL ?_
  refine zl_arg (j := 2) (n := 787) (by decide) dL_law_782 dL_law_783 dL_law_784 dL_law_785 dL_law_786 rfl (by omega) hL ?_
  refine zl_arg (j := 3) (n := 792) (by decide) dL_law_787 dL_law_788 dL_law_789 dL_law_790 dL_law_791 rfl (by omega) hL ?_
  refine zl_call (mj := zm_X6_spot) (a := 145) (av := [.int (xs (i + 1)), .int (xs (i + 2)), .int (xs (i + 3))]) (st := []) (n := 795) dL_law_792 rfl zl_L_98 zy_X6_spot (zrc_X6 _ _) h1 (Nat.le_of_ble_eq_true rfl) hx ?_
  refine zl_aload2 (n := 796) dL_law_795 rfl ?_
  refine zl_arg (j := 1) (n := 801) (by decide) dL_law_796 dL_law_797 dL_law_798 dL_law_799 dL_law_800 rfl (by omega) hL ?_
  refine zl_arg (j := 2) (n := 806) (by decide) dL_law_801 dL_law_802 dL_law_803 dL_law_804 dL_law_805 rfl (by omega) hL ?_
  refine zl_arg (j := 3) (n := 811) (by decide) dL_law_806 dL_law_807 dL_law_808 dL_law_809 dL_law_810 rfl (by omega) hL ?_
  refine zl_call (mj := zm_X7_spot) (a := 165) (av := [.int (xs (i + 1)), .int (xs (i + 2)), .int (xs (i + 3))]) (st := [.int rv]) (n := 814) dL_law_811 rfl zl_L_101 zy_X7_spot (zrc_X7 _ _) h2 (Nat.le_of_ble_eq_true rfl) hm ?_
  exact zl_eq dL_law_814 (tgt := 1348) (by decide) (kk M2 hi)
theorem lc_21 (hL : L ≤ 3072) (h6 : i + 6 ≤ L) (hs : zStep E zm_X6_decoy zm_X7_decoy [.int (xs (i + 1)), .int (xs (i + 2)), .int (xs (i + 3))] M) (kk : ∀ M2, zInv M2 → zL E b L xs i 1348 [] M2) : zL E b L xs i 819 [] M := by
  obtain ⟨d1, d2, rv, M1, M2, h1, h2, hx, hm, hi⟩ := hs
  refine zl_aload1 (n := 820) dL_law_819 rfl ?_
  refine zl_arg (j := 1) (n := 825) (by decide) dL_law_820 dL_law_821 dL_law_822 dL_law_823 dL_law_824 rfl (by omega) hL ?_
  refine zl_arg (j := 2) (n := 830) (by decide) dL_law_825 dL_law_826 dL_law_827 dL_law_828 dL_law_829 rfl (by omega) hL ?_
  refine zl_arg (j := 3) (n := 835) (by decide) dL_law_830 dL_law_831 dL_law_832 dL_law_833 dL_law_834 rfl (by omega) hL ?_
  refine zl_call (mj := zm_X6_decoy) (a := 145) (av := [.int (xs (i + 1)), .int (xs (i + 2)), .int (xs (i + 3))]) (st := []) (n := 838) dL_law_835 rfl zl_L_102 zy_X6_decoy (zrc_X6 _ _) h1 (Nat.le_of_ble_eq_true rfl) hx ?_
  refine zl_aload2 (n := 839) dL_law_838 rfl ?_
  refine zl_arg (j := 1) (n := 844) (by decide) dL_law_839 dL_law_840 dL_law_841 dL_law_842 dL_law_843 rfl (by omega) hL ?_
  refine zl_arg (j := 2) (n := 849) (by decide) dL_law_844 dL_law_845 dL_law_846 dL_law_847 dL_law_848 rfl (by omega) hL ?_
  refine zl_arg (j := 3) (n := 854) (by decide) dL_law_849 dL_law_850 dL_law_851 dL_law_852 dL_law_853 rfl (by omega) hL ?_
  refine zl_call (mj := zm_X7_decoy) (a := 165) (av := [.int (xs (i + 1)), .int (xs (i + 2)), .int (xs (i + 3))]) (st := [.int rv]) (n := 857) dL_law_854 rfl zl_L_105 zy_X7_decoy (zrc_X7 _ _) h2 (Nat.le_of_ble_eq_true rfl) hm ?_
  exact zl_eq dL_law_857 (tgt := 1348) (by decide) (kk M2 hi)
theorem lc_22 (hL : L ≤ 3072) (h6 : i + 6 ≤ L) (hs : zStep E zm_X6_hides zm_X7_hides [.int (xs (i + 1)), .int (xs (i + 2))] M) (kk : ∀ M2, zInv M2 → zL E b L xs i 1348 [] M2) : zL E b L xs i 862 [] M := by
  obtain ⟨d1, d2, rv, M1, M2, h1, h2, hx, hm, hi⟩ := hs
  refine zl_aload1 (n := 863) dL_law_862 rfl ?_
  refine zl_arg (j := 1) (n := 868) (by decide) dL_law_863 dL_law_864 dL_law_865 dL_law_866 dL_law_867 rfl (by omega) hL ?_
  refine zl_arg (j := 2) (n := 873) (by decide) dL_law_868 dL_law_869 dL_law_870 dL_law_871 dL_law_872 rfl (by omega) hL ?_
  refine zl_call (mj := zm_X6_hides) (a := 145) (av := [.int (xs (i + 1)), .int (xs (i + 2))]) (st := []) (n := 876) dL_law_873 rfl zl_L_106 zy_X6_hides (zrc_X6 _ _) h1 (Nat.le_of_ble_eq_true rfl) hx ?_
  refine zl_aload2 (n := 877) dL_law_876 rfl ?_
  refine zl_arg (j := 1) (n := 882) (by decide) dL_law_877 dL_law_878 dL_law_879 dL_law_880 dL_law_881 rfl (by omega) hL ?_
  refine zl_arg (j := 2) (n := 887) (by decide) dL_law_882 dL_law_883 dL_law_884 dL_law_885 dL_law_886 rfl (by omega) hL ?_
  refine zl_call (mj := zm_X7_hides) (a := 165) (av := [.int (xs (i + 1)), .int (xs (i + 2))]) (st := [.int rv]) (n := 890) dL_law_887 rfl zl_L_109 zy_X7_hides (zrc_X7 _ _) h2 (Nat.le_of_ble_eq_true rfl) hm ?_
  exact zl_eq dL_law_890 (tgt := 1348) (by decide) (kk M2 hi)
theorem lc_23 (hL : L ≤ 3072) (h6 : i + 6 ≤ L) (hs : zStep E zm_X6_sets zm_X7_sets [.int (xs (i + 1)), .int (xs (i + 2))] M) (kk : ∀ M2, zInv M2 → zL E b L xs i 1348 [] M2) : zL E b L xs i 895 [] M := by
  obtain ⟨d1, d2, rv, M1, M2, h1, h2, hx, hm, hi⟩ := hs
  refine zl_aload1 (n := 896) dL_law_895 rfl ?_
  refine zl_arg (j := 1) (n := 901) (by decide) dL_law_896 dL_law_897 dL_law_898 dL_law_899 dL_law_900 rfl (by omega) hL ?_
  refine zl_arg (j := 2) (n := 906) (by decide) dL_law_901 dL_law_902 dL_law_903 dL_law_904 dL_law_905 rfl (by omega) hL ?_
  refine zl_call (mj := zm_X6_sets) (a := 145) (av := [.int (xs (i + 1)), .int (xs (i + 2))]) (st := []) (n := 909) dL_law_906 rfl zl_L_110 zy_X6_sets (zrc_X6 _ _) h1 (Nat.le_of_ble_eq_true rfl) hx ?_
  refine zl_aload2 (n := 910) dL_law_909 rfl ?_
  refine zl_arg (j := 1) (n := 915) (by decide) dL_law_910 dL_law_911 dL_law_912 dL_law_913 dL_law_914 rfl (by omega) hL ?_
  refine zl_arg (j := 2) (n := 920) (by decide) dL_law_915 dL_law_916 dL_law_917 dL_law_918 dL_law_919 rfl (by omega) hL ?_
  refine zl_call (mj := zm_X7_sets) (a := 165) (av := [.int (xs (i + 1)), .int (xs (i + 2))]) (st := [.int rv]) (n := 923) dL_law_920 rfl zl_L_113 zy_X7_sets (zrc_X7 _ _) h2 (Nat.le_of_ble_eq_true rfl) hm ?_
  exact zl_eq dL_law_923 (tgt := 1348) (by decide) (kk M2 hi)
theorem lc_24 (hL : L ≤ 3072) (h6 : i + 6 ≤ L) (hs : zStep E zm_X6_share zm_X7_share [.int (xs (i + 1)), .int (xs (i + 2))] M) (kk : ∀ M2, zInv M2 → zL E b L xs i 1348 [] M2) : zL E b L xs i 928 [] M := by
  obtain ⟨d1, d2, rv, M1, M2, h1, h2, hx, hm, hi⟩ := hs
  refine zl_aload1 (n := 929) dL_law_928 rfl ?_
  refine zl_arg (j := 1) (n := 934) (by decide) dL_law_929 dL_law_930 dL_law_931 dL_law_932 dL_law_933 rfl (by omega) hL ?_
  refine zl_arg (j := 2) (n := 939) (by decide) dL_law_934 dL_law_935 dL_law_936 dL_law_937 dL_law_938 rfl (by omega) hL ?_
  refine zl_call (mj := zm_X6_share) (a := 145) (av := [.int (xs (i + 1)), .int (xs (i + 2))]) (st := []) (n := 942) dL_law_939 rfl zl_L_114 zy_X6_share (zrc_X6 _ _) h1 (Nat.le_of_ble_eq_true rfl) hx ?_
  refine zl_aload2 (n := 943) dL_law_942 rfl ?_
  refine zl_arg (j := 1) (n := 948) (by decide) dL_law_943 dL_law_944 dL_law_945 dL_law_946 dL_law_947 rfl (by omega) hL ?_
  refine zl_arg (j := 2) (n := 953) (by decide) dL_law_948 dL_law_949 dL_law_950 dL_law_951 dL_law_952 rfl (by omega) hL ?_
  refine zl_call (mj := zm_X7_share) (a := 165) (av := [.int (xs (i + 1)), .int (xs (i + 2))]) (st := [.int rv]) (n := 956) dL_law_953 rfl zl_L_117 zy_X7_share (zrc_X7 _ _) h2 (Nat.le_of_ble_eq_true rfl) hm ?_
  exact zl_eq dL_law_956 (tgt := 1348) (by decide) (kk M2 hi)
theorem lc_25 (hL : L ≤ 3072) (h6 : i + 6 ≤ L) (hs : zStep E zm_X6_byTurns zm_X7_byTurns [.int (xs (i + 1)), .int (xs (i + 2))] M) (kk : ∀ M2, zInv M2 → zL E b L xs i 1348 [] M2) : zL E b L xs i 961 [] M := by
  obtain ⟨d1, d2, rv, M1, M2, h1, h2, hx, hm, hi⟩ := hs
  refine zl_aload1 (n := 962) dL_law_961 rfl ?_
  refine zl_arg (j := 1) (n := 967) (by decide) dL_law_962 dL_law_963 dL_law_964 dL_law_965 dL_law_966 rfl (by omega) hL ?_
  refine zl_arg (j := 2) (n := 972) (by decide) dL_law_967 dL_law_968 dL_law_969 dL_law_970 dL_law_971 rfl (by omega) hL ?_
  refine zl_call (mj := zm_X6_byTurns) (a := 145) (av := [.int (xs (i + 1)), .int (xs (i + 2))]) (st := []) (n := 975) dL_law_972 rfl zl_L_118 zy_X6_byTurns (zrc_X6 _ _) h1 (Nat.le_of_ble_eq_true rfl) hx ?_
  refine zl_aload2 (n := 976) dL_law_975 rfl ?_
  refine zl_arg (j := 1) (n := 981) (by decide) dL_law_976 dL_law_977 dL_law_978 dL_law_979 dL_law_980 rfl (by omega) hL ?_
  refine zl_arg (j := 2) (n := 986) (by decide) dL_law_981 dL_law_982 dL_law_983 dL_law_984 dL_law_985 rfl (by omega) hL ?_
  refine zl_call (mj := zm_X7_byTurns) (a := 165) (av := [.int (xs (i + 1)), .int (xs (i + 2))]) (st := [.int rv]) (n := 989) dL_law_986 rfl zl_L_121 zy_X7_byTurns (zrc_X7 _ _) h2 (Nat.le_of_ble_eq_true rfl) hm ?_
  exact zl_eq dL_law_989 (tgt := 1348) (by decide) (kk M2 hi)
theorem lc_26 (hL : L ≤ 3072) (h6 : i + 6 ≤ L) (hs : zStep E zm_X6_who zm_X7_who [.int (xs (i + 1)), .int (xs (i + 2)), .int (xs (i + 3)), .int (xs (i + 4)), .int (xs (i + 5))] M) (kk : ∀ M2, zInv M2 → zL E b L xs i 1348 [] M2) : zL E b L xs i 994 [] M := by
  obtain ⟨d1, d2, rv, M1, M2, h1, h2, hx, hm, hi⟩ := hs
  refine zl_aload1 (n := 995) dL_law_994 rfl ?_
  refine zl_arg (j := 1) (n := 1000) (by decide) dL_law_995 dL_law_996 dL_law_997 dL_law_998 dL_law_999 rfl (by omega) hL ?_
  refine zl_arg (j := 2) (n := 1005) (by decide) dL_law_1000 dL_law_1001 dL_law_1002 dL_law_1003 dL_law_1004 rfl (by omega) hL ?_
  refine zl_arg (j := 3) (n := 1010) (by decide) dL_law_1005 dL_law_1006 dL_law_1007 dL_law_1008 dL_law_1009 rfl (by omega) hL ?_
  refine zl_arg (j := 4) (n := 1015) (by decide) dL_law_1010 dL_law_1011 dL_law_1012 dL_law_1013 dL_law_1014 rfl (by omega) hL ?_
  refine zl_arg (j := 5) (n := 1020) (by decide) dL_law_1015 dL_law_1016 dL_law_1017 dL_law_1018 dL_law_1019 rfl (by omega) hL ?_
  refine zl_call (mj := zm_X6_who) (a := 145) (av := [.int (xs (i + 1)), .int (xs (i + 2)), .int (xs (i + 3)), .int (xs (i + 4)), .int (xs (i + 5))]) (st := []) (n := 1023) dL_law_1020 rfl zl_L_122 zy_X6_who (zrc_X6 _ _) h1 (Nat.le_of_ble_eq_true rfl) hx ?_
  refine zl_aload2 (n := 1024) dL_law_1023 rfl ?_
  refine zl_arg (j := 1) (n := 1029) (by decide) dL_law_1024 dL_law_1025 dL_law_1026 dL_law_1027 dL_law_1028 rfl (by omega) hL ?_
  refine zl_arg (j := 2) (n := 1034) (by decide) dL_law_1029 dL_law_1030 dL_law_1031 dL_law_1032 dL_law_1033 rfl (by omega) hL ?_
  refine zl_arg (j := 3) (n := 1039) (by decide) dL_law_1034 dL_law_1035 dL_law_1036 dL_law_1037 dL_law_1038 rfl (by omega) hL ?_
  refine zl_arg (j := 4) (n := 1044) (by decide) dL_law_1039 dL_law_1040 dL_law_1041 dL_law_1042 dL_law_1043 rfl (by omega) hL ?_
  refine zl_arg (j := 5) (n := 1049) (by decide) dL_law_1044 dL_law_1045 dL_law_1046 dL_law_1047 dL_law_1048 rfl (by omega) hL ?_
  refine zl_call (mj := zm_X7_who) (a := 165) (av := [.int (xs (i + 1)), .int (xs (i + 2)), .int (xs (i + 3)), .int (xs (i + 4)), .int (xs (i + 5))]) (st := [.int rv]) (n := 1052) dL_law_1049 rfl zl_L_125 zy_X7_who (zrc_X7 _ _) h2 (Nat.le_of_ble_eq_true rfl) hm ?_
  exact zl_eq dL_law_1052 (tgt := 1348) (by decide) (kk M2 hi)
theorem lc_27 (hL : L ≤ 3072) (h6 : i + 6 ≤ L) (hs : zStepL E zm_X6_rain zm_X7_rain [.int (xs (i + 1)), .int (xs (i + 2)), .int (xs (i + 3)), .int (xs (i + 4))] M) (kk : ∀ M2, zInv M2 → zL E b L xs i 1348 [] M2) : zL E b L xs i 1057 [] M := by
  obtain ⟨d1, d2, rv, M1, M2, h1, h2, hx, hm, hi⟩ := hs
  refine zl_aload1 (n := 1058) dL_law_1057 rfl ?_
  refine zl_arg (j := 1) (n := 1063) (by decide) dL_law_1058 dL_law_1059 dL_law_1060 dL_law_1061 dL_law_1062 rfl (by omega) hL ?_
  refine zl_arg (j := 2) (n := 1068) (by decide) dL_law_1063 dL_law_1064 dL_law_1065 dL_law_1066 dL_law_1067 rfl (by omega) hL ?_
  refine zl_arg (j := 3) (n := 1073) (by decide) dL_law_1068 dL_law_1069 dL_law_1070 dL_law_1071 dL_law_1072 rfl (by omega) hL ?_
  refine zl_arg (j := 4) (n := 1078) (by decide) dL_law_1073 dL_law_1074 dL_law_1075 dL_law_1076 dL_law_1077 rfl (by omega) hL ?_
  refine zl_call (mj := zm_X6_rain) (a := 145) (av := [.int (xs (i + 1)), .int (xs (i + 2)), .int (xs (i + 3)), .int (xs (i + 4))]) (st := []) (n := 1081) dL_law_1078 rfl zl_L_126 zy_X6_rain (zrc_X6 _ _) h1 (Nat.le_of_ble_eq_true rfl) hx ?_
  refine zl_aload2 (n := 1082) dL_law_1081 rfl ?_
  refine zl_arg (j := 1) (n := 1087) (by decide) dL_law_1082 dL_law_1083 dL_law_1084 dL_law_1085 dL_law_1086 rfl (by omega) hL ?_
  refine zl_arg (j := 2) (n := 1092) (by decide) dL_law_1087 dL_law_1088 dL_law_1089 dL_law_1090 dL_law_1091 rfl (by omega) hL ?_
  refine zl_arg (j := 3) (n := 1097) (by decide) dL_law_1092 dL_law_1093 dL_law_1094 dL_law_1095 dL_law_1096 rfl (by omega) hL ?_
  refine zl_arg (j := 4) (n := 1102) (by decide) dL_law_1097 dL_law_1098 dL_law_1099 dL_law_1100 dL_law_1101 rfl (by omega) hL ?_
  refine zl_call (mj := zm_X7_rain) (a := 165) (av := [.int (xs (i + 1)), .int (xs (i + 2)), .int (xs (i + 3)), .int (xs (i + 4))]) (st := [.long rv]) (n := 1105) dL_law_1102 rfl zl_L_130 zy_X7_rain (zrc_X7 _ _) h2 (Nat.le_of_ble_eq_true rfl) hm ?_
  exact zl_leq dL_law_1105 dL_law_1106 (tgt := 1348) (by decide) (kk M2 hi)
theorem lc_28 (hL : L ≤ 3072) (h6 : i + 6 ≤ L) (hs : zStep E zm_X6_drawn zm_X7_drawn [.int (xs (i + 1)), .int (xs (i + 2)), .int (xs (i + 3))] M) (kk : ∀ M2, zInv M2 → zL E b L xs i 1348 [] M2) : zL E b L xs i 1111 [] M := by
  obtain ⟨d1, d2, rv, M1, M2, h1, h2, hx, hm, hi⟩ := hs
  refine zl_aload1 (n := 1112) dL_law_1111 rfl ?_
  refine zl_arg (j := 1) (n := 1117) (by decide) dL_law_1112 dL_law_1113 dL_law_1114 dL_law_1115 dL_law_1116 rfl (by omega) hL ?_
  refine zl_arg (j := 2) (n := 1122) (by decide) dL_law_1117 dL_law_1118 dL_law_1119 dL_law_1120 dL_law_1121 rfl (by omega) hL ?_
  refine zl_arg (j := 3) (n := 1127) (by decide) dL_law_1122 dL_law_1123 dL_law_1124 dL_law_1125 dL_law_1126 rfl (by omega) hL ?_
  refine zl_call (mj := zm_X6_drawn) (a := 145) (av := [.int (xs (i + 1)), .int (xs (i + 2)), .int (xs (i + 3))]) (st := []) (n := 1130) dL_law_1127 rfl zl_L_131 zy_X6_drawn (zrc_X6 _ _) h1 (Nat.le_of_ble_eq_true rfl) hx ?_
  refine zl_aload2 (n := 1131) dL_law_1130 rfl ?_
  refine zl_arg (j := 1) (n := 1136) (by decide) dL_law_1131 dL_law_1132 dL_law_1133 dL_law_1134 dL_law_1135 rfl (by omega) hL ?_
  refine zl_arg (j := 2) (n := 1141) (by decide) dL_law_1136 dL_law_1137 dL_law_1138 dL_law_1139 dL_law_1140 rfl (by omega) hL ?_
  refine zl_arg (j := 3) (n := 1146) (by decide) dL_law_1141 dL_law_1142 dL_law_1143 dL_law_1144 dL_law_1145 rfl (by omega) hL ?_
  refine zl_call (mj := zm_X7_drawn) (a := 165) (av := [.int (xs (i + 1)), .int (xs (i + 2)), .int (xs (i + 3))]) (st := [.int rv]) (n := 1149) dL_law_1146 rfl zl_L_134 zy_X7_drawn (zrc_X7 _ _) h2 (Nat.le_of_ble_eq_true rfl) hm ?_
  exact zl_eq dL_law_1149 (tgt := 1348) (by decide) (kk M2 hi)
theorem lc_29 (hL : L ≤ 3072) (h6 : i + 6 ≤ L) (hs : zStep E zm_X6_image zm_X7_image [.int (xs (i + 1))] M) (kk : ∀ M2, zInv M2 → zL E b L xs i 1348 [] M2) : zL E b L xs i 1154 [] M := by
  obtain ⟨d1, d2, rv, M1, M2, h1, h2, hx, hm, hi⟩ := hs
  refine zl_aload1 (n := 1155) dL_law_1154 rfl ?_
  refine zl_arg (j := 1) (n := 1160) (by decide) dL_law_1155 dL_law_1156 dL_law_1157 dL_law_1158 dL_law_1159 rfl (by omega) hL ?_
  refine zl_call (mj := zm_X6_image) (a := 145) (av := [.int (xs (i + 1))]) (st := []) (n := 1163) dL_law_1160 rfl zl_L_135 zy_X6_image (zrc_X6 _ _) h1 (Nat.le_of_ble_eq_true rfl) hx ?_
  refine zl_aload2 (n := 1164) dL_law_1163 rfl ?_
  refine zl_arg (j := 1) (n := 1169) (by decide) dL_law_1164 dL_law_1165 dL_law_1166 dL_law_1167 dL_law_1168 rfl (by omega) hL ?_
  refine zl_call (mj := zm_X7_image) (a := 165) (av := [.int (xs (i + 1))]) (st := [.int rv]) (n := 1172) dL_law_1169 rfl zl_L_138 zy_X7_image (zrc_X7 _ _) h2 (Nat.le_of_ble_eq_true rfl) hm ?_
  exact zl_eq dL_law_1172 (tgt := 1348) (by decide) (kk M2 hi)
theorem lc_30 (hL : L ≤ 3072) (h6 : i + 6 ≤ L) (hs : zStep E zm_X6_restore zm_X7_restore [.int (xs (i + 1))] M) (kk : ∀ M2, zInv M2 → zL E b L xs i 1348 [] M2) : zL E b L xs i 1177 [] M := by
  obtain ⟨d1, d2, rv, M1, M2, h1, h2, hx, hm, hi⟩ := hs
  refine zl_aload1 (n := 1178) dL_law_1177 rfl ?_
  refine zl_arg (j := 1) (n := 1183) (by decide) dL_law_1178 dL_law_1179 dL_law_1180 dL_law_1181 dL_law_1182 rfl (by omega) hL ?_
  refine zl_call (mj := zm_X6_restore) (a := 145) (av := [.int (xs (i + 1))]) (st := []) (n := 1186) dL_law_1183 rfl zl_L_139 zy_X6_restore (zrc_X6 _ _) h1 (Nat.le_of_ble_eq_true rfl) hx ?_
  refine zl_aload2 (n := 1187) dL_law_1186 rfl ?_
  refine zl_arg (j := 1) (n := 1192) (by decide) dL_law_1187 dL_law_1188 dL_law_1189 dL_law_1190 dL_law_1191 rfl (by omega) hL ?_
  refine zl_call (mj := zm_X7_restore) (a := 165) (av := [.int (xs (i + 1))]) (st := [.int rv]) (n := 1195) dL_law_1192 rfl zl_L_142 zy_X7_restore (zrc_X7 _ _) h2 (Nat.le_of_ble_eq_true rfl) hm ?_
  exact zl_eq dL_law_1195 (tgt := 1348) (by decide) (kk M2 hi)
theorem lc_31 (hL : L ≤ 3072) (h6 : i + 6 ≤ L) (hs : zStep E zm_X6_kind zm_X7_kind [.int (xs (i + 1))] M) (kk : ∀ M2, zInv M2 → zL E b L xs i 1348 [] M2) : zL E b L xs i 1200 [] M := by
  obtain ⟨d1, d2, rv, M1, M2, h1, h2, hx, hm, hi⟩ := hs
  refine zl_aload1 (n := 1201) dL_law_1200 rfl ?_
  refine zl_arg (j := 1) (n := 1206) (by decide) dL_law_1201 dL_law_1202 dL_law_1203 dL_law_1204 dL_law_1205 rfl (by omega) hL ?_
  refine zl_call (mj := zm_X6_kind) (a := 145) (av := [.int (xs (i + 1))]) (st := []) (n := 1209) dL_law_1206 rfl zl_L_143 zy_X6_kind (zrc_X6 _ _) h1 (Nat.le_of_ble_eq_true rfl) hx ?_
  refine zl_aload2 (n := 1210) dL_law_1209 rfl ?_
  refine zl_arg (j := 1) (n := 1215) (by decide) dL_law_1210 dL_law_1211 dL_law_1212 dL_law_1213 dL_law_1214 rfl (by omega) hL ?_
  refine zl_call (mj := zm_X7_kind) (a := 165) (av := [.int (xs (i + 1))]) (st := [.int rv]) (n := 1218) dL_law_1215 rfl zl_L_146 zy_X7_kind (zrc_X7 _ _) h2 (Nat.le_of_ble_eq_true rfl) hm ?_
  exact zl_eq dL_law_1218 (tgt := 1348) (by decide) (kk M2 hi)
theorem lc_32 (hL : L ≤ 3072) (h6 : i + 6 ≤ L) (hs : zStep E zm_X6_as zm_X7_as [.int (xs (i + 1)), .int (xs (i + 2))] M) (kk : ∀ M2, zInv M2 → zL E b L xs i 1348 [] M2) : zL E b L xs i 1223 [] M := by
  obtain ⟨d1, d2, rv, M1, M2, h1, h2, hx, hm, hi⟩ := hs
  refine zl_aload1 (n := 1224) dL_law_1223 rfl ?_
  refine zl_arg (j := 1) (n := 1229) (by decide) dL_law_1224 dL_law_1225 dL_law_1226 dL_law_1227 dL_law_1228 rfl (by omega) hL ?_
  refine zl_arg (j := 2) (n := 1234) (by decide) dL_law_1229 dL_law_1230 dL_law_1231 dL_law_1232 dL_law_1233 rfl (by omega) hL ?_
  refine zl_call (mj := zm_X6_as) (a := 145) (av := [.int (xs (i + 1)), .int (xs (i + 2))]) (st := []) (n := 1237) dL_law_1234 rfl zl_L_147 zy_X6_as (zrc_X6 _ _) h1 (Nat.le_of_ble_eq_true rfl) hx ?_
  refine zl_aload2 (n := 1238) dL_law_1237 rfl ?_
  refine zl_arg (j := 1) (n := 1243) (by decide) dL_law_1238 dL_law_1239 dL_law_1240 dL_law_1241 dL_law_1242 rfl (by omega) hL ?_
  refine zl_arg (j := 2) (n := 1248) (by decide) dL_law_1243 dL_law_1244 dL_law_1245 dL_law_1246 dL_law_1247 rfl (by omega) hL ?_
  refine zl_call (mj := zm_X7_as) (a := 165) (av := [.int (xs (i + 1)), .int (xs (i + 2))]) (st := [.int rv]) (n := 1251) dL_law_1248 rfl zl_L_150 zy_X7_as (zrc_X7 _ _) h2 (Nat.le_of_ble_eq_true rfl) hm ?_
  exact zl_eq dL_law_1251 (tgt := 1348) (by decide) (kk M2 hi)
theorem lc_33 (hL : L ≤ 3072) (h6 : i + 6 ≤ L) (hs : zStep E zm_X6_ask zm_X7_ask [.int (xs (i + 1)), .int (xs (i + 2))] M) (kk : ∀ M2, zInv M2 → zL E b L xs i 1348 [] M2) : zL E b L xs i 1256 [] M := by
  obtain ⟨d1, d2, rv, M1, M2, h1, h2, hx, hm, hi⟩ := hs
  refine zl_aload1 (n := 1257) dL_law_1256 rfl ?_
  refine zl_arg (j := 1) (n := 1262) (by decide) dL_law_1257 dL_law_1258 dL_law_1259 dL_law_1260 dL_law_1261 rfl (by omega) hL ?_
  refine zl_arg (j := 2) (n := 1267) (by decide) dL_law_1262 dL_law_1263 dL_law_1264 dL_law_1265 dL_law_1266 rfl (by omega) hL ?_
  refine zl_call (mj := zm_X6_ask) (a := 145) (av := [.int (xs (i + 1)), .int (xs (i + 2))]) (st := []) (n := 1270) dL_law_1267 rfl zl_L_151 zy_X6_ask (zrc_X6 _ _) h1 (Nat.le_of_ble_eq_true rfl) hx ?_
  refine zl_aload2 (n := 1271) dL_law_1270 rfl ?_
  refine zl_arg (j := 1) (n := 1276) (by decide) dL_law_1271 dL_law_1272 dL_law_1273 dL_law_1274 dL_law_1275 rfl (by omega) hL ?_
  refine zl_arg (j := 2) (n := 1281) (by decide) dL_law_1276 dL_law_1277 dL_law_1278 dL_law_1279 dL_law_1280 rfl (by omega) hL ?_
  refine zl_call (mj := zm_X7_ask) (a := 165) (av := [.int (xs (i + 1)), .int (xs (i + 2))]) (st := [.int rv]) (n := 1284) dL_law_1281 rfl zl_L_154 zy_X7_ask (zrc_X7 _ _) h2 (Nat.le_of_ble_eq_true rfl) hm ?_
  exact zl_eq dL_law_1284 (tgt := 1348) (by decide) (kk M2 hi)
theorem lc_34 (hL : L ≤ 3072) (h6 : i + 6 ≤ L) (hs : zStep E zm_X6_trace zm_X7_trace [.int (xs (i + 1))] M) (kk : ∀ M2, zInv M2 → zL E b L xs i 1348 [] M2) : zL E b L xs i 1289 [] M := by
  obtain ⟨d1, d2, rv, M1, M2, h1, h2, hx, hm, hi⟩ := hs
  refine zl_aload1 (n := 1290) dL_law_1289 rfl ?_
  refine zl_arg (j := 1) (n := 1295) (by decide) dL_law_1290 dL_law_1291 dL_law_1292 dL_law_1293 dL_law_1294 rfl (by omega) hL ?_
  refine zl_call (mj := zm_X6_trace) (a := 145) (av := [.int (xs (i + 1))]) (st := []) (n := 1298) dL_law_1295 rfl zl_L_155 zy_X6_trace (zrc_X6 _ _) h1 (Nat.le_of_ble_eq_true rfl) hx ?_
  refine zl_aload2 (n := 1299) dL_law_1298 rfl ?_
  refine zl_arg (j := 1) (n := 1304) (by decide) dL_law_1299 dL_law_1300 dL_law_1301 dL_law_1302 dL_law_1303 rfl (by omega) hL ?_
  refine zl_call (mj := zm_X7_trace) (a := 165) (av := [.int (xs (i + 1))]) (st := [.int rv]) (n := 1307) dL_law_1304 rfl zl_L_158 zy_X7_trace (zrc_X7 _ _) h2 (Nat.le_of_ble_eq_true rfl) hm ?_
  exact zl_eq dL_law_1307 (tgt := 1348) (by decide) (kk M2 hi)
theorem lc_35 (hL : L ≤ 3072) (h6 : i + 6 ≤ L) (hs : zStep E zm_X6_count zm_X7_count [.int (xs (i + 1))] M) (kk : ∀ M2, zInv M2 → zL E b L xs i 1348 [] M2) : zL E b L xs i 1312 [] M := by
  obtain ⟨d1, d2, rv, M1, M2, h1, h2, hx, hm, hi⟩ := hs
  refine zl_aload1 (n := 1313) dL_law_1312 rfl ?_
  refine zl_arg (j := 1) (n := 1318) (by decide) dL_law_1313 dL_law_1314 dL_law_1315 dL_law_1316 dL_law_1317 rfl (by omega) hL ?_
  refine zl_call (mj := zm_X6_count) (a := 145) (av := [.int (xs (i + 1))]) (st := []) (n := 1321) dL_law_1318 rfl zl_L_159 zy_X6_count (zrc_X6 _ _) h1 (Nat.le_of_ble_eq_true rfl) hx ?_
  refine zl_aload2 (n := 1322) dL_law_1321 rfl ?_
  refine zl_arg (j := 1) (n := 1327) (by decide) dL_law_1322 dL_law_1323 dL_law_1324 dL_law_1325 dL_law_1326 rfl (by omega) hL ?_
  refine zl_call (mj := zm_X7_count) (a := 165) (av := [.int (xs (i + 1))]) (st := [.int rv]) (n := 1330) dL_law_1327 rfl zl_L_162 zy_X7_count (zrc_X7 _ _) h2 (Nat.le_of_ble_eq_true rfl) hm ?_
  exact zl_eq dL_law_1330 (tgt := 1348) (by decide) (kk M2 hi)
theorem lc_36 (hL : L ≤ 3072) (h6 : i + 6 ≤ L) (hs : zStep E zm_X6_status zm_X7_status [] M) (kk : ∀ M2, zInv M2 → zL E b L xs i 1348 [] M2) : zL E b L xs i 1335 [] M := by
  obtain ⟨d1, d2, rv, M1, M2, h1, h2, hx, hm, hi⟩ := hs
  refine zl_aload1 (n := 1336) dL_law_1335 rfl ?_
  refine zl_call (mj := zm_X6_status) (a := 145) (av := []) (st := []) (n := 1339) dL_law_1336 rfl zl_L_163 zy_X6_status (zrc_X6 _ _) h1 (Nat.le_of_ble_eq_true rfl) hx ?_
  refine zl_aload2 (n := 1340) dL_law_1339 rfl ?_
  refine zl_call (mj := zm_X7_status) (a := 165) (av := []) (st := [.int rv]) (n := 1343) dL_law_1340 rfl zl_L_166 zy_X7_status (zrc_X7 _ _) h2 (Nat.le_of_ble_eq_true rfl) hm ?_
  exact zl_eq dL_law_1343 (tgt := 1348) (by decide) (kk M2 hi)
theorem zl_tableIn {j : Nat} {off : Int} {tgt : Nat} {dflt lo hi : Int} {offs : Array Int} {len pc : Nat} {st : List Value} (hd : decode code pc = .ok (.tableswitch dflt lo hi offs, len)) (h1 : ¬ (nI j).toInt < lo) (h2 : ¬ hi < (nI j).toInt) (ho : offs[((nI j).toInt - lo).toNat]? = some off) (ht : (pc : Int) + off = (tgt : Int)) (k : zL E b L xs i tgt st M) : zL E b L xs i pc (.int (nI j) :: st) M := by
  intro p e s m below meth c H ls X hP hS hl
  exact lv_tableIn X.1.1 X.1.2.1 hd h1 h2 ho ht (k p e s m below meth c H ls X hP hS hl)
theorem zl_tableOut {x : Int32} {tgt : Nat} {dflt lo hi : Int} {offs : Array Int} {len pc : Nat} {st : List Value} (hd : decode code pc = .ok (.tableswitch dflt lo hi offs, len)) (h : x.toInt < lo ∨ hi < x.toInt) (ht : (pc : Int) + dflt = (tgt : Int)) (k : zL E b L xs i tgt st M) : zL E b L xs i pc (.int x :: st) M := by
  intro p e s m below meth c H ls X hP hS hl
  exact lv_tableOut X.1.1 X.1.2.1 hd h ht (k p e s m below meth c H ls X hP hS hl)
theorem zl_next (hi : i ≤ 3072) (k : zL E b L xs (i + 6) 18 [] M) : zL E b L xs i 1348 [] M := by
  intro p e s m below meth c H ls X hP hS hl
  obtain ⟨kk, hkk⟩ := List.getElem?_of_mem (zll_of [some (.ref b), some (.ref (zad E 145)), some (.ref (zad E 165)), some (.int (nI i))] 0 3 (.int (nI i)) rfl)
  refine lv_iinc X.1.1 X.1.2.1 dL_law_1348 hl.has (k := kk) (x := nI i) (v := nI (i + 6)) (by rw [hkk]) (by rw [← nI_add]; rfl) (by decide) rfl (fun ls2 h2 => ?_)
  refine lv_goto (tgt := 18) X.1.1 X.1.2.1 dL_law_1351 (by decide) ?_
  exact k p e s m below meth c H ls2 X hP hS (zlo_store1 rfl h2)
theorem zl_head (hL : L ≤ 3072) (hi : i ≤ 4000) (k : i + 6 ≤ L → zL E b L xs i 27 [] M) : zL E b L xs i 18 [] M := by
  intro p e s m below meth c H ls X hP hS hl
  obtain ⟨⟨x1, x2, x3, x4, x5, x6, x7, x8, x9, x10⟩, hW, hA⟩ := id X
  refine lv_iload_n x1 x2 dL_law_18 rfl (hl.2.2 3 _ rfl) ?_
  refine lv_aload_n x1 x2 dL_law_19 rfl (hl.2.2 0 _ rfl) ?_
  refine va_slen x1 x2 x7 x8 (A := fun q => s.heap.size ≤ q) (Nat.not_le.mpr x8) hS dL_law_20 ?_
  refine lv_bipush (v := nI 6) x1 x2 dL_law_21 (by decide) ?_
  refine lv_isub x1 x2 dL_law_23 ?_
  refine lv_icmp_gt (tgt := 1354) x1 x2 dL_law_24 (by decide) (fun q => ?_) (fun q => ?_)
  · refine lv_iconst (v := 1) x1 x2 dL_law_1354 (by decide) ?_
    refine W.widen (k := 600000) (n := 7302250) (Nat.le_of_ble_eq_true rfl) (Nat.le_of_ble_eq_true rfl) ?_
    exact lw_ret x1 x2 x3 x9 dL_law_1355
  · refine k ?_ p e s m below meth c H ls X hP hS hl
    have q2 : ¬ (nI L - nI 6).toInt < (nI i).toInt := fun z => q (Int32.lt_iff_toInt_lt.mpr z)
    rw [pk_sub_toInt (by omega) (by omega), nI_toInt (by omega)] at q2
    omega
theorem zl_sw (hL : L ≤ 3072) (h6 : i + 6 ≤ L) (k : ∀ j, j < 64 → zL E b L xs i 33 [.int (nI j)] M) : zL E b L xs i 27 [] M := by
  intro p e s m below meth c H ls X hP hS hl
  obtain ⟨⟨x1, x2, x3, x4, x5, x6, x7, x8, x9, x10⟩, hW, hA⟩ := id X
  refine lv_aload_n x1 x2 dL_law_27 rfl (hl.2.2 0 _ rfl) ?_
  refine lv_iload_n x1 x2 dL_law_28 rfl (hl.2.2 3 _ rfl) ?_
  refine va_sld x1 x2 x7 x8 (A := fun q => s.heap.size ≤ q) (Nat.not_le.mpr x8) hS (vp_in_nI (by omega) (by omega)) dL_law_29 ?_
  refine lv_bipush (v := nI 63) x1 x2 dL_law_30 (by decide) ?_
  refine lv_iand x1 x2 dL_law_32 ?_
  obtain ⟨j, hj, ej⟩ := pk_andE (xs (nI i).toNatClampNeg) (m := nI 63) 6 (by decide)
  rw [ej]
  exact k j hj p e s m below meth c H ls X hP hS hl
set_option maxHeartbeats 2000000 in
/-- THE LAW'S LOOP -/
theorem law_loop (hL : L ≤ 3072) : ∀ (n i : Nat) (M : zMem), L < i + n → i ≤ 3078 → zInv M → zL E b L xs i 18 [] M
  | 0, i, M, hn, hi, h => zl_head hL (by omega) (fun q => absurd q (by omega))
  | n + 1, i, (Q, Z), hn, hi, h => by
    refine zl_head hL (by omega) (fun h6 => ?_)
    have kk : ∀ M2, zInv M2 → zL E b L xs i 1348 [] M2 := fun M2 h2 => zl_next (by omega) (law_loop hL n (i + 6) M2 (by omega) (by omega) h2)
    refine zl_sw hL h6 (fun j hj => ?_)
    by_cases hj2 : 37 ≤ j
    · refine zl_tableOut (tgt := 1348) dL_law_33 (Or.inr ?_) (by decide) (kk _ h)
      rw [nI_toInt (by omega)]
      omega
    rcases (show j = 0 ∨ j = 1 ∨ j = 2 ∨ j = 3 ∨ j = 4 ∨ j = 5 ∨ j = 6 ∨ j = 7 ∨ j = 8 ∨ j = 9 ∨ j = 10 ∨ j = 11 ∨ j = 12 ∨ j = 13 ∨ j = 14 ∨ j = 15 ∨ j = 16 ∨ j = 17 ∨ j = 18 ∨ j = 19 ∨ j = 20 ∨ j = 21 ∨ j = 22 ∨ j = 23 ∨ j = 24 ∨ j = 25 ∨ j = 26 ∨ j = 27 ∨ j = 28 ∨ j = 29 ∨ j = 30 ∨ j = 31 ∨ j = 32 ∨ j = 33 ∨ j = 34 ∨ j = 35 ∨ j = 36 by omega) with rfl | rfl | rfl | rfl | rfl | rfl | rfl | rfl | rfl | rfl | rfl | rfl | rfl | rfl | rfl | rfl | rfl | rfl | rfl | rfl | rfl | rfl | rfl | rfl | rfl | rfl | rfl | rfl | rfl | rfl | rfl | rfl | rfl | rfl | rfl | rfl | rfl
    · exact zl_tableIn (off := 163) (tgt := 196) dL_law_33 (by decide) (by decide) (by decide) (by decide) (lc_0 hL h6 (s_row h) kk)
    · exact zl_tableIn (off := 206) (tgt := 239) dL_law_33 (by decide) (by decide) (by decide) (by decide) (lc_1 hL h6 (s_set h) kk)
    · exact zl_tableIn (off := 249) (tgt := 282) dL_law_33 (by decide) (by decide) (by decide) (by decide) (lc_2 hL h6 (s_copy h) kk)
    · exact zl_tableIn (off := 312) (tgt := 345) dL_law_33 (by decide) (by decide) (by decide) (by decide) (lc_3 hL h6 (s_drop h) kk)
    · exact zl_tableIn (off := 335) (tgt := 368) dL_law_33 (by decide) (by decide) (by decide) (by decide) (lc_4 hL h6 (s_feed h) kk)
    · exact zl_tableIn (off := 358) (tgt := 391) dL_law_33 (by decide) (by decide) (by decide) (by decide) (lc_5 hL h6 (s_square h) kk)
    · exact zl_tableIn (off := 371) (tgt := 404) dL_law_33 (by decide) (by decide) (by decide) (by decide) (lc_6 hL h6 (s_fault h) kk)
    · exact zl_tableIn (off := 384) (tgt := 417) dL_law_33 (by decide) (by decide) (by decide) (by decide) (lc_7 hL h6 (s_undo h) kk)
    · exact zl_tableIn (off := 397) (tgt := 430) dL_law_33 (by decide) (by decide) (by decide) (by decide) (lc_8 hL h6 (s_noons h) kk)
    · exact zl_tableIn (off := 420) (tgt := 453) dL_law_33 (by decide) (by decide) (by decide) (by decide) (lc_9 hL h6 (s_move h) kk)
    · exact zl_tableIn (off := 453) (tgt := 486) dL_law_33 (by decide) (by decide) (by decide) (by decide) (lc_10 hL h6 (s_write h) kk)
    · exact zl_tableIn (off := 486) (tgt := 519) dL_law_33 (by decide) (by decide) (by decide) (by decide) (lc_11 hL h6 (s_hide h) kk)
    · exact zl_tableIn (off := 509) (tgt := 542) dL_law_33 (by decide) (by decide) (by decide) (by decide) (lc_12 hL h6 (s_clock h) kk)
    · exact zl_tableIn (off := 532) (tgt := 565) dL_law_33 (by decide) (by decide) (by decide) (by decide) (lc_13 hL h6 (s_paper h) kk)
    · exact zl_tableIn (off := 565) (tgt := 598) dL_law_33 (by decide) (by decide) (by decide) (by decide) (lc_14 hL h6 (s_stand h) kk)
    · exact zl_tableIn (off := 588) (tgt := 621) dL_law_33 (by decide) (by decide) (by decide) (by decide) (lc_15 hL h6 (s_ahead h) kk)
    · exact zl_tableIn (off := 631) (tgt := 664) dL_law_33 (by decide) (by decide) (by decide) (by decide) (lc_16 hL h6 (s_bitten h) kk)
    · exact zl_tableIn (off := 664) (tgt := 697) dL_law_33 (by decide) (by decide) (by decide) (by decide) (lc_17 hL h6 (s_left h) kk)
    · exact zl_tableIn (off := 697) (tgt := 730) dL_law_33 (by decide) (by decide) (by decide) (by decide) (lc_18 hL h6 (s_when h) kk)
    · exact zl_tableIn (off := 730) (tgt := 763) dL_law_33 (by decide) (by decide) (by decide) (by decide) (lc_19 hL h6 (s_over h) kk)
    · exact zl_tableIn (off := 743) (tgt := 776) dL_law_33 (by decide) (by decide) (by decide) (by decide) (lc_20 hL h6 (s_spot h) kk)
    · exact zl_tableIn (off := 786) (tgt := 819) dL_law_33 (by decide) (by decide) (by decide) (by decide) (lc_21 hL h6 (s_decoy h) kk)
    · exact zl_tableIn (off := 829) (tgt := 862) dL_law_33 (by decide) (by decide) (by decide) (by decide) (lc_22 hL h6 (s_hides h) kk)
    · exact zl_tableIn (off := 862) (tgt := 895) dL_law_33 (by decide) (by decide) (by decide) (by decide) (lc_23 hL h6 (s_sets h) kk)
    · exact zl_tableIn (off := 895) (tgt := 928) dL_law_33 (by decide) (by decide) (by decide) (by decide) (lc_24 hL h6 (s_share h) kk)
    · exact zl_tableIn (off := 928) (tgt := 961) dL_law_33 (by decide) (by decide) (by decide) (by decide) (lc_25 hL h6 (s_turns h) kk)
    · exact zl_tableIn (off := 961) (tgt := 994) dL_law_33 (by decide) (by decide) (by decide) (by decide) (lc_26 hL h6 (s_who h) kk)
    · exact zl_tableIn (off := 1024) (tgt := 1057) dL_law_33 (by decide) (by decide) (by decide) (by decide) (lc_27 hL h6 (s_rain h) kk)
    · exact zl_tableIn (off := 1078) (tgt := 1111) dL_law_33 (by decide) (by decide) (by decide) (by decide) (lc_28 hL h6 (s_drawn h) kk)
    · exact zl_tableIn (off := 1121) (tgt := 1154) dL_law_33 (by decide) (by decide) (by decide) (by decide) (lc_29 hL h6 (s_image h) kk)
    · exact zl_tableIn (off := 1144) (tgt := 1177) dL_law_33 (by decide) (by decide) (by decide) (by decide) (lc_30 hL h6 (s_restore h) kk)
    · exact zl_tableIn (off := 1167) (tgt := 1200) dL_law_33 (by decide) (by decide) (by decide) (by decide) (lc_31 hL h6 (s_kind h) kk)
    · exact zl_tableIn (off := 1190) (tgt := 1223) dL_law_33 (by decide) (by decide) (by decide) (by decide) (lc_32 hL h6 (s_as h) kk)
    · exact zl_tableIn (off := 1223) (tgt := 1256) dL_law_33 (by decide) (by decide) (by decide) (by decide) (lc_33 hL h6 (s_ask h) kk)
    · exact zl_tableIn (off := 1256) (tgt := 1289) dL_law_33 (by decide) (by decide) (by decide) (by decide) (lc_34 hL h6 (s_trace h) kk)
    · exact zl_tableIn (off := 1279) (tgt := 1312) dL_law_33 (by decide) (by decide) (by decide) (by decide) (lc_35 hL h6 (s_count h) kk)
    · exact zl_tableIn (off := 1302) (tgt := 1335) dL_law_33 (by decide) (by decide) (by decide) (by decide) (lc_36 hL h6 (s_status h) kk)
end ZLc
