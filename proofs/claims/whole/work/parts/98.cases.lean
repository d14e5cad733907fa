/-! the law: its cases -/
section LCASES
variable {l : Launch} {γ : Lg} {ad1 ad2 : Nat → Nat} {b L j : Nat} {xs : Nat → Int32} {A : Ab} {s t : Nat → Nat → Int32} {g h : Nat}
def Nxt (l : Launch) (γ : Lg) (ad1 ad2 : Nat → Nat) (b j : Nat) : Prop := ∀ (A : Ab) (s t : Nat → Nat → Int32) (g h : Nat), OK A → CC s A → MM t A → LW l γ ad1 ad2 b 2063 (nI j) [] (s, rC g h) (t, rM)
theorem lc_0 (hc : LC l γ ad1 ad2 b L xs) (hj : j + 6 < L) (hA : OK A) (hcc : CC s A) (hmm : MM t A) (kk : Nxt l γ ad1 ad2 b j) : LW l γ ad1 ad2 b 220 (nI j) [] (s, rC g h) (t, rM) := by
  obtain ⟨r, s2, t2, g2, h2, A2, f1, f2, o1, o2, o3⟩ := call_feed (xs (j + 1)) (xs (j + 2)) (xs (j + 3)) (xs (j + 4)) (xs (j + 5)) A s t g h hA hcc hmm
  refine l_aload1 hc dL_law_220 ?_
  refine l_arg (j := j) (k := 1) (n := 1) hc (by decide) rfl (by omega) dL_law_221 dL_law_222 dL_law_223 dL_law_224 dL_law_225 ?_
  refine l_arg (j := j) (k := 2) (n := 2) hc (by decide) rfl (by omega) dL_law_226 dL_law_227 dL_law_228 dL_law_229 dL_law_230 ?_
  refine l_arg (j := j) (k := 3) (n := 3) hc (by decide) rfl (by omega) dL_law_231 dL_law_232 dL_law_233 dL_law_234 dL_law_235 ?_
  refine l_arg (j := j) (k := 4) (n := 4) hc (by decide) rfl (by omega) dL_law_236 dL_law_237 dL_law_238 dL_law_239 dL_law_240 ?_
  refine l_arg (j := j) (k := 5) (n := 5) hc (by decide) rfl (by omega) dL_law_241 dL_law_242 dL_law_243 dL_law_244 dL_law_245 ?_
  refine l_callC hc (As := [.int (xs (j + 1)), .int (xs (j + 2)), .int (xs (j + 3)), .int (xs (j + 4)), .int (xs (j + 5))]) mv_X6_feed ml_L_13 (c_X6_feed f1) rfl rfl rfl ⟨by decide, by decide, by decide⟩ rfl (Nat.le_of_ble_eq_true rfl) dL_law_246 ?_
  refine l_aload2 hc dL_law_249 ?_
  refine l_arg (j := j) (k := 1) (n := 1) hc (by decide) rfl (by omega) dL_law_250 dL_law_251 dL_law_252 dL_law_253 dL_law_254 ?_
  refine l_arg (j := j) (k := 2) (n := 2) hc (by decide) rfl (by omega) dL_law_255 dL_law_256 dL_law_257 dL_law_258 dL_law_259 ?_
  refine l_arg (j := j) (k := 3) (n := 3) hc (by decide) rfl (by omega) dL_law_260 dL_law_261 dL_law_262 dL_law_263 dL_law_264 ?_
  refine l_arg (j := j) (k := 4) (n := 4) hc (by decide) rfl (by omega) dL_law_265 dL_law_266 dL_law_267 dL_law_268 dL_law_269 ?_
  refine l_arg (j := j) (k := 5) (n := 5) hc (by decide) rfl (by omega) dL_law_270 dL_law_271 dL_law_272 dL_law_273 dL_law_274 ?_
  refine l_callM hc (As := [.int (xs (j + 1)), .int (xs (j + 2)), .int (xs (j + 3)), .int (xs (j + 4)), .int (xs (j + 5))]) mv_X7_feed ml_L_17 (c_X7_feed f2) rfl rfl rfl ⟨by decide, by decide, by decide⟩ rfl (Nat.le_of_ble_eq_true rfl) dL_law_275 ?_
  exact l_same hc dL_law_278 (by decide) (kk A2 s2 t2 g2 h2 o1 o2 o3)
theorem lc_1 (hc : LC l γ ad1 ad2 b L xs) (hj : j + 6 < L) (hA : OK A) (hcc : CC s A) (hmm : MM t A) (kk : Nxt l γ ad1 ad2 b j) : LW l γ ad1 ad2 b 283 (nI j) [] (s, rC g h) (t, rM) := by
  obtain ⟨r, s2, t2, g2, h2, A2, f1, f2, o1, o2, o3⟩ := call_net (xs (j + 1)) (xs (j + 2)) A s t g h hA hcc hmm
  refine l_aload1 hc dL_law_283 ?_
  refine l_arg (j := j) (k := 1) (n := 1) hc (by decide) rfl (by omega) dL_law_284 dL_law_285 dL_law_286 dL_law_287 dL_law_288 ?_
  refine l_arg (j := j) (k := 2) (n := 2) hc (by decide) rfl (by omega) dL_law_289 dL_law_290 dL_law_291 dL_law_292 dL_law_293 ?_
  refine l_callC hc (As := [.int (xs (j + 1)), .int (xs (j + 2))]) mv_X6_net ml_L_18 (c_X6_net f1) rfl rfl rfl ⟨by decide, by decide, by decide⟩ rfl (Nat.le_of_ble_eq_true rfl) dL_law_294 ?_
  refine l_aload2 hc dL_law_297 ?_
  refine l_arg (j := j) (k := 1) (n := 1) hc (by decide) rfl (by omega) dL_law_298 dL_law_299 dL_law_300 dL_law_301 dL_law_302 ?_
  refine l_arg (j := j) (k := 2) (n := 2) hc (by decide) rfl (by omega) dL_law_303 dL_law_304 dL_law_305 dL_law_306 dL_law_307 ?_
  refine l_callM hc (As := [.int (xs (j + 1)), .int (xs (j + 2))]) mv_X7_net ml_L_22 (c_X7_net f2) rfl rfl rfl ⟨by decide, by decide, by decide⟩ rfl (Nat.le_of_ble_eq_true rfl) dL_law_308 ?_
  exact l_same hc dL_law_311 (by decide) (kk A2 s2 t2 g2 h2 o1 o2 o3)
theorem lc_2 (hc : LC l γ ad1 ad2 b L xs) (hj : j + 6 < L) (hA : OK A) (hcc : CC s A) (hmm : MM t A) (kk : Nxt l γ ad1 ad2 b j) : LW l γ ad1 ad2 b 316 (nI j) [] (s, rC g h) (t, rM) := by
  obtain ⟨r, s2, t2, g2, h2, A2, f1, f2, o1, o2, o3⟩ := call_put (xs (j + 1)) (xs (j + 2)) A s t g h hA hcc hmm
  refine l_aload1 hc dL_law_316 ?_
  refine l_arg (j := j) (k := 1) (n := 1) hc (by decide) rfl (by omega) dL_law_317 dL_law_318 dL_law_319 dL_law_320 dL_law_321 ?_
  refine l_arg (j := j) (k := 2) (n := 2) hc (by decide) rfl (by omega) dL_law_322 dL_law_323 dL_law_324 dL_law_325 dL_law_326 ?_
  refine l_callC hc (As := [.int (xs (j + 1)), .int (xs (j + 2))]) mv_X6_put ml_L_23 (c_X6_put f1) rfl rfl rfl ⟨by decide, by decide, by decide⟩ rfl (Nat.le_of_ble_eq_true rfl) dL_law_327 ?_
  refine l_aload2 hc dL_law_330 ?_
  refine l_arg (j := j) (k := 1) (n := 1) hc (by decide) rfl (by omega) dL_law_331 dL_law_332 dL_law_333 dL_law_334 dL_law_335 ?_
  refine l_arg (j := j) (k := 2) (n := 2) hc (by decide) rfl (by omega) dL_law_336 dL_law_337 dL_law_338 dL_law_339 dL_law_340 ?_
  refine l_callM hc (As := [.int (xs (j + 1)), .int (xs (j + 2))]) mv_X7_put ml_L_27 (c_X7_put f2) rfl rfl rfl ⟨by decide, by decide, by decide⟩ rfl (Nat.le_of_ble_eq_true rfl) dL_law_341 ?_
  exact l_same hc dL_law_344 (by decide) (kk A2 s2 t2 g2 h2 o1 o2 o3)
theorem lc_3 (hc : LC l γ ad1 ad2 b L xs) (hj : j + 6 < L) (hA : OK A) (hcc : CC s A) (hmm : MM t A) (kk : Nxt l γ ad1 ad2 b j) : LW l γ ad1 ad2 b 349 (nI j) [] (s, rC g h) (t, rM) := by
  obtain ⟨r, s2, t2, g2, h2, A2, f1, f2, o1, o2, o3⟩ := call_take (xs (j + 1)) A s t g h hA hcc hmm
  refine l_aload1 hc dL_law_349 ?_
  refine l_arg (j := j) (k := 1) (n := 1) hc (by decide) rfl (by omega) dL_law_350 dL_law_351 dL_law_352 dL_law_353 dL_law_354 ?_
  refine l_callC hc (As := [.int (xs (j + 1))]) mv_X6_take ml_L_28 (c_X6_take f1) rfl rfl rfl ⟨by decide, by decide, by decide⟩ rfl (Nat.le_of_ble_eq_true rfl) dL_law_355 ?_
  refine l_aload2 hc dL_law_358 ?_
  refine l_arg (j := j) (k := 1) (n := 1) hc (by decide) rfl (by omega) dL_law_359 dL_law_360 dL_law_361 dL_law_362 dL_law_363 ?_
  refine l_callM hc (As := [.int (xs (j + 1))]) mv_X7_take ml_L_32 (c_X7_take f2) rfl rfl rfl ⟨by decide, by decide, by decide⟩ rfl (Nat.le_of_ble_eq_true rfl) dL_law_364 ?_
  exact l_same hc dL_law_367 (by decide) (kk A2 s2 t2 g2 h2 o1 o2 o3)
theorem lc_4 (hc : LC l γ ad1 ad2 b L xs) (hj : j + 6 < L) (hA : OK A) (hcc : CC s A) (hmm : MM t A) (kk : Nxt l γ ad1 ad2 b j) : LW l γ ad1 ad2 b 372 (nI j) [] (s, rC g h) (t, rM) := by
  obtain ⟨r, s2, t2, g2, h2, A2, f1, f2, o1, o2, o3⟩ := call_line (xs (j + 1)) (xs (j + 2)) (xs (j + 3)) (!decide (xs (j + 4) = 0)) A s t g h hA hcc hmm
  refine l_aload1 hc dL_law_372 ?_
  refine l_arg (j := j) (k := 1) (n := 1) hc (by decide) rfl (by omega) dL_law_373 dL_law_374 dL_law_375 dL_law_376 dL_law_377 ?_
  refine l_arg (j := j) (k := 2) (n := 2) hc (by decide) rfl (by omega) dL_law_378 dL_law_379 dL_law_380 dL_law_381 dL_law_382 ?_
  refine l_arg (j := j) (k := 3) (n := 3) hc (by decide) rfl (by omega) dL_law_383 dL_law_384 dL_law_385 dL_law_386 dL_law_387 ?_
  refine l_arg (j := j) (k := 4) (n := 4) hc (by decide) rfl (by omega) dL_law_388 dL_law_389 dL_law_390 dL_law_391 dL_law_392 ?_
  refine l_bool hc dL_law_393 dL_law_396 dL_law_397 dL_law_400 ?_
  refine l_callC hc (As := [.int (xs (j + 1)), .int (xs (j + 2)), .int (xs (j + 3)), .int (bI (!decide (xs (j + 4) = 0)))]) mv_X6_line ml_L_33 (c_X6_line f1) rfl rfl rfl ⟨by decide, by decide, by decide⟩ rfl (Nat.le_of_ble_eq_true rfl) dL_law_401 ?_
  refine l_aload2 hc dL_law_404 ?_
  refine l_arg (j := j) (k := 1) (n := 1) hc (by decide) rfl (by omega) dL_law_405 dL_law_406 dL_law_407 dL_law_408 dL_law_409 ?_
  refine l_arg (j := j) (k := 2) (n := 2) hc (by decide) rfl (by omega) dL_law_410 dL_law_411 dL_law_412 dL_law_413 dL_law_414 ?_
  refine l_arg (j := j) (k := 3) (n := 3) hc (by decide) rfl (by omega) dL_law_415 dL_law_416 dL_law_417 dL_law_418 dL_law_419 ?_
  refine l_arg (j := j) (k := 4) (n := 4) hc (by decide) rfl (by omega) dL_law_420 dL_law_421 dL_law_422 dL_law_423 dL_law_424 ?_
  refine l_bool hc dL_law_425 dL_law_428 dL_law_429 dL_law_432 ?_
  refine l_callM hc (As := [.int (xs (j + 1)), .int (xs (j + 2)), .int (xs (j + 3)), .int (bI (!decide (xs (j + 4) = 0)))]) mv_X7_line ml_L_37 (c_X7_line f2) rfl rfl rfl ⟨by decide, by decide, by decide⟩ rfl (Nat.le_of_ble_eq_true rfl) dL_law_433 ?_
  exact l_same hc dL_law_436 (by decide) (kk A2 s2 t2 g2 h2 o1 o2 o3)
theorem lc_5 (hc : LC l γ ad1 ad2 b L xs) (hj : j + 6 < L) (hA : OK A) (hcc : CC s A) (hmm : MM t A) (kk : Nxt l γ ad1 ad2 b j) : LW l γ ad1 ad2 b 441 (nI j) [] (s, rC g h) (t, rM) := by
  obtain ⟨r, s2, t2, g2, h2, A2, f1, f2, o1, o2, o3⟩ := call_told (xs (j + 1)) (xs (j + 2)) A s t g h hA hcc hmm
  refine l_aload1 hc dL_law_441 ?_
  refine l_arg (j := j) (k := 1) (n := 1) hc (by decide) rfl (by omega) dL_law_442 dL_law_443 dL_law_444 dL_law_445 dL_law_446 ?_
  refine l_arg (j := j) (k := 2) (n := 2) hc (by decide) rfl (by omega) dL_law_447 dL_law_448 dL_law_449 dL_law_450 dL_law_451 ?_
  refine l_callC hc (As := [.int (xs (j + 1)), .int (xs (j + 2))]) mv_X6_told ml_L_38 (c_X6_told f1) rfl rfl rfl ⟨by decide, by decide, by decide⟩ rfl (Nat.le_of_ble_eq_true rfl) dL_law_452 ?_
  refine l_aload2 hc dL_law_455 ?_
  refine l_arg (j := j) (k := 1) (n := 1) hc (by decide) rfl (by omega) dL_law_456 dL_law_457 dL_law_458 dL_law_459 dL_law_460 ?_
  refine l_arg (j := j) (k := 2) (n := 2) hc (by decide) rfl (by omega) dL_law_461 dL_law_462 dL_law_463 dL_law_464 dL_law_465 ?_
  refine l_callM hc (As := [.int (xs (j + 1)), .int (xs (j + 2))]) mv_X7_told ml_L_41 (c_X7_told f2) rfl rfl rfl ⟨by decide, by decide, by decide⟩ rfl (Nat.le_of_ble_eq_true rfl) dL_law_466 ?_
  exact l_same hc dL_law_469 (by decide) (kk A2 s2 t2 g2 h2 o1 o2 o3)
theorem lc_6 (hc : LC l γ ad1 ad2 b L xs) (hj : j + 6 < L) (hA : OK A) (hcc : CC s A) (hmm : MM t A) (kk : Nxt l γ ad1 ad2 b j) : LW l γ ad1 ad2 b 474 (nI j) [] (s, rC g h) (t, rM) := by
  obtain ⟨r, s2, t2, g2, h2, A2, f1, f2, o1, o2, o3⟩ := call_row (xs (j + 1)) (xs (j + 2)) (!decide (xs (j + 3) = 0)) A s t g h hA hcc hmm
  refine l_aload1 hc dL_law_474 ?_
  refine l_arg (j := j) (k := 1) (n := 1) hc (by decide) rfl (by omega) dL_law_475 dL_law_476 dL_law_477 dL_law_478 dL_law_479 ?_
  refine l_arg (j := j) (k := 2) (n := 2) hc (by decide) rfl (by omega) dL_law_480 dL_law_481 dL_law_482 dL_law_483 dL_law_484 ?_
  refine l_arg (j := j) (k := 3) (n := 3) hc (by decide) rfl (by omega) dL_law_485 dL_law_486 dL_law_487 dL_law_488 dL_law_489 ?_
  refine l_bool hc dL_law_490 dL_law_493 dL_law_494 dL_law_497 ?_
  refine l_callC hc (As := [.int (xs (j + 1)), .int (xs (j + 2)), .int (bI (!decide (xs (j + 3) = 0)))]) mv_X6_row ml_L_42 (c_X6_row f1) rfl rfl rfl ⟨by decide, by decide, by decide⟩ rfl (Nat.le_of_ble_eq_true rfl) dL_law_498 ?_
  refine l_aload2 hc dL_law_501 ?_
  refine l_arg (j := j) (k := 1) (n := 1) hc (by decide) rfl (by omega) dL_law_502 dL_law_503 dL_law_504 dL_law_505 dL_law_506 ?_
  refine l_arg (j := j) (k := 2) (n := 2) hc (by decide) rfl (by omega) dL_law_507 dL_law_508 dL_law_509 dL_law_510 dL_law_511 ?_
  refine l_arg (j := j) (k := 3) (n := 3) hc (by decide) rfl (by omega) dL_law_512 dL_law_513 dL_law_514 dL_law_515 dL_law_516 ?_
  refine l_bool hc dL_law_517 dL_law_520 dL_law_521 dL_law_524 ?_
  refine l_callM hc (As := [.int (xs (j + 1)), .int (xs (j + 2)), .int (bI (!decide (xs (j + 3) = 0)))]) mv_X7_row ml_L_46 (c_X7_row f2) rfl rfl rfl ⟨by decide, by decide, by decide⟩ rfl (Nat.le_of_ble_eq_true rfl) dL_law_525 ?_
  exact l_same hc dL_law_528 (by decide) (kk A2 s2 t2 g2 h2 o1 o2 o3)
theorem lc_7 (hc : LC l γ ad1 ad2 b L xs) (hj : j + 6 < L) (hA : OK A) (hcc : CC s A) (hmm : MM t A) (kk : Nxt l γ ad1 ad2 b j) : LW l γ ad1 ad2 b 533 (nI j) [] (s, rC g h) (t, rM) := by
  obtain ⟨r, s2, t2, g2, h2, A2, f1, f2, o1, o2, o3⟩ := call_reach (xs (j + 1)) (xs (j + 2)) A s t g h hA hcc hmm
  refine l_aload1 hc dL_law_533 ?_
  refine l_arg (j := j) (k := 1) (n := 1) hc (by decide) rfl (by omega) dL_law_534 dL_law_535 dL_law_536 dL_law_537 dL_law_538 ?_
  refine l_arg (j := j) (k := 2) (n := 2) hc (by decide) rfl (by omega) dL_law_539 dL_law_540 dL_law_541 dL_law_542 dL_law_543 ?_
  refine l_callC hc (As := [.int (xs (j + 1)), .int (xs (j + 2))]) mv_X6_reach ml_L_47 (c_X6_reach f1) rfl rfl rfl ⟨by decide, by decide, by decide⟩ rfl (Nat.le_of_ble_eq_true rfl) dL_law_544 ?_
  refine l_aload2 hc dL_law_547 ?_
  refine l_arg (j := j) (k := 1) (n := 1) hc (by decide) rfl (by omega) dL_law_548 dL_law_549 dL_law_550 dL_law_551 dL_law_552 ?_
  refine l_arg (j := j) (k := 2) (n := 2) hc (by decide) rfl (by omega) dL_law_553 dL_law_554 dL_law_555 dL_law_556 dL_law_557 ?_
  refine l_callM hc (As := [.int (xs (j + 1)), .int (xs (j + 2))]) mv_X7_reach ml_L_50 (c_X7_reach f2) rfl rfl rfl ⟨by decide, by decide, by decide⟩ rfl (Nat.le_of_ble_eq_true rfl) dL_law_558 ?_
  exact l_same hc dL_law_561 (by decide) (kk A2 s2 t2 g2 h2 o1 o2 o3)
theorem lc_8 (hc : LC l γ ad1 ad2 b L xs) (hj : j + 6 < L) (hA : OK A) (hcc : CC s A) (hmm : MM t A) (kk : Nxt l γ ad1 ad2 b j) : LW l γ ad1 ad2 b 566 (nI j) [] (s, rC g h) (t, rM) := by
  obtain ⟨r, s2, t2, g2, h2, A2, f1, f2, o1, o2, o3⟩ := call_make (xs (j + 1)) (xs (j + 2)) (xs (j + 3)) (xs (j + 4)) A s t g h hA hcc hmm
  refine l_aload1 hc dL_law_566 ?_
  refine l_arg (j := j) (k := 1) (n := 1) hc (by decide) rfl (by omega) dL_law_567 dL_law_568 dL_law_569 dL_law_570 dL_law_571 ?_
  refine l_arg (j := j) (k := 2) (n := 2) hc (by decide) rfl (by omega) dL_law_572 dL_law_573 dL_law_574 dL_law_575 dL_law_576 ?_
  refine l_arg (j := j) (k := 3) (n := 3) hc (by decide) rfl (by omega) dL_law_577 dL_law_578 dL_law_579 dL_law_580 dL_law_581 ?_
  refine l_arg (j := j) (k := 4) (n := 4) hc (by decide) rfl (by omega) dL_law_582 dL_law_583 dL_law_584 dL_law_585 dL_law_586 ?_
  refine l_callC hc (As := [.int (xs (j + 1)), .int (xs (j + 2)), .int (xs (j + 3)), .int (xs (j + 4))]) mv_X6_make ml_L_51 (c_X6_make f1) rfl rfl rfl ⟨by decide, by decide, by decide⟩ rfl (Nat.le_of_ble_eq_true rfl) dL_law_587 ?_
  refine l_aload2 hc dL_law_590 ?_
  refine l_arg (j := j) (k := 1) (n := 1) hc (by decide) rfl (by omega) dL_law_591 dL_law_592 dL_law_593 dL_law_594 dL_law_595 ?_
  refine l_arg (j := j) (k := 2) (n := 2) hc (by decide) rfl (by omega) dL_law_596 dL_law_597 dL_law_598 dL_law_599 dL_law_600 ?_
  refine l_arg (j := j) (k := 3) (n := 3) hc (by decide) rfl (by omega) dL_law_601 dL_law_602 dL_law_603 dL_law_604 dL_law_605 ?_
  refine l_arg (j := j) (k := 4) (n := 4) hc (by decide) rfl (by omega) dL_law_606 dL_law_607 dL_law_608 dL_law_609 dL_law_610 ?_
  refine l_callM hc (As := [.int (xs (j + 1)), .int (xs (j + 2)), .int (xs (j + 3)), .int (xs (j + 4))]) mv_X7_make ml_L_55 (c_X7_make f2) rfl rfl rfl ⟨by decide, by decide, by decide⟩ rfl (Nat.le_of_ble_eq_true rfl) dL_law_611 ?_
  exact l_same hc dL_law_614 (by decide) (kk A2 s2 t2 g2 h2 o1 o2 o3)
theorem lc_9 (hc : LC l γ ad1 ad2 b L xs) (hj : j + 6 < L) (hA : OK A) (hcc : CC s A) (hmm : MM t A) (kk : Nxt l γ ad1 ad2 b j) : LW l γ ad1 ad2 b 619 (nI j) [] (s, rC g h) (t, rM) := by
  obtain ⟨r, s2, t2, g2, h2, A2, f1, f2, o1, o2, o3⟩ := call_change (xs (j + 1)) (xs (j + 2)) A s t g h hA hcc hmm
  refine l_aload1 hc dL_law_619 ?_
  refine l_arg (j := j) (k := 1) (n := 1) hc (by decide) rfl (by omega) dL_law_620 dL_law_621 dL_law_622 dL_law_623 dL_law_624 ?_
  refine l_arg (j := j) (k := 2) (n := 2) hc (by decide) rfl (by omega) dL_law_625 dL_law_626 dL_law_627 dL_law_628 dL_law_629 ?_
  refine l_callC hc (As := [.int (xs (j + 1)), .int (xs (j + 2))]) mv_X6_change ml_L_56 (c_X6_change f1) rfl rfl rfl ⟨by decide, by decide, by decide⟩ rfl (Nat.le_of_ble_eq_true rfl) dL_law_630 ?_
  refine l_aload2 hc dL_law_633 ?_
  refine l_arg (j := j) (k := 1) (n := 1) hc (by decide) rfl (by omega) dL_law_634 dL_law_635 dL_law_636 dL_law_637 dL_law_638 ?_
  refine l_arg (j := j) (k := 2) (n := 2) hc (by decide) rfl (by omega) dL_law_639 dL_law_640 dL_law_641 dL_law_642 dL_law_643 ?_
  refine l_callM hc (As := [.int (xs (j + 1)), .int (xs (j + 2))]) mv_X7_change ml_L_59 (c_X7_change f2) rfl rfl rfl ⟨by decide, by decide, by decide⟩ rfl (Nat.le_of_ble_eq_true rfl) dL_law_644 ?_
  exact l_same hc dL_law_647 (by decide) (kk A2 s2 t2 g2 h2 o1 o2 o3)
theorem lc_10 (hc : LC l γ ad1 ad2 b L xs) (hj : j + 6 < L) (hA : OK A) (hcc : CC s A) (hmm : MM t A) (kk : Nxt l γ ad1 ad2 b j) : LW l γ ad1 ad2 b 652 (nI j) [] (s, rC g h) (t, rM) := by
  obtain ⟨r, s2, t2, g2, h2, A2, f1, f2, o1, o2, o3⟩ := call_part (xs (j + 1)) (xs (j + 2)) (xs (j + 3)) A s t g h hA hcc hmm
  refine l_aload1 hc dL_law_652 ?_
  refine l_arg (j := j) (k := 1) (n := 1) hc (by decide) rfl (by omega) dL_law_653 dL_law_654 dL_law_655 dL_law_656 dL_law_657 ?_
  refine l_arg (j := j) (k := 2) (n := 2) hc (by decide) rfl (by omega) dL_law_658 dL_law_659 dL_law_660 dL_law_661 dL_law_662 ?_
  refine l_arg (j := j) (k := 3) (n := 3) hc (by decide) rfl (by omega) dL_law_663 dL_law_664 dL_law_665 dL_law_666 dL_law_667 ?_
  refine l_callC hc (As := [.int (xs (j + 1)), .int (xs (j + 2)), .int (xs (j + 3))]) mv_X6_part ml_L_60 (c_X6_part f1) rfl rfl rfl ⟨by decide, by decide, by decide⟩ rfl (Nat.le_of_ble_eq_true rfl) dL_law_668 ?_
  refine l_aload2 hc dL_law_671 ?_
  refine l_arg (j := j) (k := 1) (n := 1) hc (by decide) rfl (by omega) dL_law_672 dL_law_673 dL_law_674 dL_law_675 dL_law_676 ?_
  refine l_arg (j := j) (k := 2) (n := 2) hc (by decide) rfl (by omega) dL_law_677 dL_law_678 dL_law_679 dL_law_680 dL_law_681 ?_
  refine l_arg (j := j) (k := 3) (n := 3) hc (by decide) rfl (by omega) dL_law_682 dL_law_683 dL_law_684 dL_law_685 dL_law_686 ?_
  refine l_callM hc (As := [.int (xs (j + 1)), .int (xs (j + 2)), .int (xs (j + 3))]) mv_X7_part ml_L_64 (c_X7_part f2) rfl rfl rfl ⟨by decide, by decide, by decide⟩ rfl (Nat.le_of_ble_eq_true rfl) dL_law_687 ?_
  exact l_same hc dL_law_690 (by decide) (kk A2 s2 t2 g2 h2 o1 o2 o3)
theorem lc_11 (hc : LC l γ ad1 ad2 b L xs) (hj : j + 6 < L) (hA : OK A) (hcc : CC s A) (hmm : MM t A) (kk : Nxt l γ ad1 ad2 b j) : LW l γ ad1 ad2 b 695 (nI j) [] (s, rC g h) (t, rM) := by
  obtain ⟨r, s2, t2, g2, h2, A2, f1, f2, o1, o2, o3⟩ := call_drawn (xs (j + 1)) (xs (j + 2)) (xs (j + 3)) (xs (j + 4)) A s t g h hA hcc hmm
  refine l_aload1 hc dL_law_695 ?_
  refine l_arg (j := j) (k := 1) (n := 1) hc (by decide) rfl (by omega) dL_law_696 dL_law_697 dL_law_698 dL_law_699 dL_law_700 ?_
  refine l_arg (j := j) (k := 2) (n := 2) hc (by decide) rfl (by omega) dL_law_701 dL_law_702 dL_law_703 dL_law_704 dL_law_705 ?_
  refine l_arg (j := j) (k := 3) (n := 3) hc (by decide) rfl (by omega) dL_law_706 dL_law_707 dL_law_708 dL_law_709 dL_law_710 ?_
  refine l_arg (j := j) (k := 4) (n := 4) hc (by decide) rfl (by omega) dL_law_711 dL_law_712 dL_law_713 dL_law_714 dL_law_715 ?_
  refine l_callC hc (As := [.int (xs (j + 1)), .int (xs (j + 2)), .int (xs (j + 3)), .int (xs (j + 4))]) mv_X6_drawn ml_L_65 (c_X6_drawn f1) rfl rfl rfl ⟨by decide, by decide, by decide⟩ rfl (Nat.le_of_ble_eq_true rfl) dL_law_716 ?_
  refine l_aload2 hc dL_law_719 ?_
  refine l_arg (j := j) (k := 1) (n := 1) hc (by decide) rfl (by omega) dL_law_720 dL_law_721 dL_law_722 dL_law_723 dL_law_724 ?_
  refine l_arg (j := j) (k := 2) (n := 2) hc (by decide) rfl (by omega) dL_law_725 dL_law_726 dL_law_727 dL_law_728 dL_law_729 ?_
  refine l_arg (j := j) (k := 3) (n := 3) hc (by decide) rfl (by omega) dL_law_730 dL_law_731 dL_law_732 dL_law_733 dL_law_734 ?_
  refine l_arg (j := j) (k := 4) (n := 4) hc (by decide) rfl (by omega) dL_law_735 dL_law_736 dL_law_737 dL_law_738 dL_law_739 ?_
  refine l_callM hc (As := [.int (xs (j + 1)), .int (xs (j + 2)), .int (xs (j + 3)), .int (xs (j + 4))]) mv_X7_drawn ml_L_68 (c_X7_drawn f2) rfl rfl rfl ⟨by decide, by decide, by decide⟩ rfl (Nat.le_of_ble_eq_true rfl) dL_law_740 ?_
  exact l_same hc dL_law_743 (by decide) (kk A2 s2 t2 g2 h2 o1 o2 o3)
theorem lc_12 (hc : LC l γ ad1 ad2 b L xs) (hj : j + 6 < L) (hA : OK A) (hcc : CC s A) (hmm : MM t A) (kk : Nxt l γ ad1 ad2 b j) : LW l γ ad1 ad2 b 748 (nI j) [] (s, rC g h) (t, rM) := by
  obtain ⟨r, s2, t2, g2, h2, A2, f1, f2, o1, o2, o3⟩ := call_list (xs (j + 1)) (xs (j + 2)) A s t g h hA hcc hmm
  refine l_aload1 hc dL_law_748 ?_
  refine l_arg (j := j) (k := 1) (n := 1) hc (by decide) rfl (by omega) dL_law_749 dL_law_750 dL_law_751 dL_law_752 dL_law_753 ?_
  refine l_arg (j := j) (k := 2) (n := 2) hc (by decide) rfl (by omega) dL_law_754 dL_law_755 dL_law_756 dL_law_757 dL_law_758 ?_
  refine l_callC hc (As := [.int (xs (j + 1)), .int (xs (j + 2))]) mv_X6_list ml_L_69 (c_X6_list f1) rfl rfl rfl ⟨by decide, by decide, by decide⟩ rfl (Nat.le_of_ble_eq_true rfl) dL_law_759 ?_
  refine l_aload2 hc dL_law_762 ?_
  refine l_arg (j := j) (k := 1) (n := 1) hc (by decide) rfl (by omega) dL_law_763 dL_law_764 dL_law_765 dL_law_766 dL_law_767 ?_
  refine l_arg (j := j) (k := 2) (n := 2) hc (by decide) rfl (by omega) dL_law_768 dL_law_769 dL_law_770 dL_law_771 dL_law_772 ?_
  refine l_callM hc (As := [.int (xs (j + 1)), .int (xs (j + 2))]) mv_X7_list ml_L_72 (c_X7_list f2) rfl rfl rfl ⟨by decide, by decide, by decide⟩ rfl (Nat.le_of_ble_eq_true rfl) dL_law_773 ?_
  exact l_same hc dL_law_776 (by decide) (kk A2 s2 t2 g2 h2 o1 o2 o3)
theorem lc_13 (hc : LC l γ ad1 ad2 b L xs) (hj : j + 6 < L) (hA : OK A) (hcc : CC s A) (hmm : MM t A) (kk : Nxt l γ ad1 ad2 b j) : LW l γ ad1 ad2 b 781 (nI j) [] (s, rC g h) (t, rM) := by
  obtain ⟨r, s2, t2, g2, h2, A2, f1, f2, o1, o2, o3⟩ := call_free  A s t g h hA hcc hmm
  refine l_aload1 hc dL_law_781 ?_
  refine l_callC hc (As := []) mv_X6_free ml_L_73 (c_X6_free f1) rfl rfl rfl ⟨by decide, by decide, by decide⟩ rfl (Nat.le_of_ble_eq_true rfl) dL_law_782 ?_
  refine l_aload2 hc dL_law_785 ?_
  refine l_callM hc (As := []) mv_X7_free ml_L_77 (c_X7_free f2) rfl rfl rfl ⟨by decide, by decide, by decide⟩ rfl (Nat.le_of_ble_eq_true rfl) dL_law_786 ?_
  exact l_same hc dL_law_789 (by decide) (kk A2 s2 t2 g2 h2 o1 o2 o3)
theorem lc_14 (hc : LC l γ ad1 ad2 b L xs) (hj : j + 6 < L) (hA : OK A) (hcc : CC s A) (hmm : MM t A) (kk : Nxt l γ ad1 ad2 b j) : LW l γ ad1 ad2 b 794 (nI j) [] (s, rC g h) (t, rM) := by
  obtain ⟨r, s2, t2, g2, h2, A2, f1, f2, o1, o2, o3⟩ := call_maps (xs (j + 1)) (xs (j + 2)) (xs (j + 3)) A s t g h hA hcc hmm
  refine l_aload1 hc dL_law_794 ?_
  refine l_arg (j := j) (k := 1) (n := 1) hc (by decide) rfl (by omega) dL_law_795 dL_law_796 dL_law_797 dL_law_798 dL_law_799 ?_
  refine l_arg (j := j) (k := 2) (n := 2) hc (by decide) rfl (by omega) dL_law_800 dL_law_801 dL_law_802 dL_law_803 dL_law_804 ?_
  refine l_arg (j := j) (k := 3) (n := 3) hc (by decide) rfl (by omega) dL_law_805 dL_law_806 dL_law_807 dL_law_808 dL_law_809 ?_
  refine l_callC hc (As := [.int (xs (j + 1)), .int (xs (j + 2)), .int (xs (j + 3))]) mv_X6_maps ml_L_78 (c_X6_maps f1) rfl rfl rfl ⟨by decide, by decide, by decide⟩ rfl (Nat.le_of_ble_eq_true rfl) dL_law_810 ?_
  refine l_aload2 hc dL_law_813 ?_
  refine l_arg (j := j) (k := 1) (n := 1) hc (by decide) rfl (by omega) dL_law_814 dL_law_815 dL_law_816 dL_law_817 dL_law_818 ?_
  refine l_arg (j := j) (k := 2) (n := 2) hc (by decide) rfl (by omega) dL_law_819 dL_law_820 dL_law_821 dL_law_822 dL_law_823 ?_
  refine l_arg (j := j) (k := 3) (n := 3) hc (by decide) rfl (by omega) dL_law_824 dL_law_825 dL_law_826 dL_law_827 dL_law_828 ?_
  refine l_callM hc (As := [.int (xs (j + 1)), .int (xs (j + 2)), .int (xs (j + 3))]) mv_X7_maps ml_L_81 (c_X7_maps f2) rfl rfl rfl ⟨by decide, by decide, by decide⟩ rfl (Nat.le_of_ble_eq_true rfl) dL_law_829 ?_
  exact l_same hc dL_law_832 (by decide) (kk A2 s2 t2 g2 h2 o1 o2 o3)
theorem lc_15 (hc : LC l γ ad1 ad2 b L xs) (hj : j + 6 < L) (hA : OK A) (hcc : CC s A) (hmm : MM t A) (kk : Nxt l γ ad1 ad2 b j) : LW l γ ad1 ad2 b 837 (nI j) [] (s, rC g h) (t, rM) := by
  obtain ⟨r, s2, t2, g2, h2, A2, f1, f2, o1, o2, o3⟩ := call_map (xs (j + 1)) (xs (j + 2)) (xs (j + 3)) (xs (j + 4)) A s t g h hA hcc hmm
  refine l_aload1 hc dL_law_837 ?_
  refine l_arg (j := j) (k := 1) (n := 1) hc (by decide) rfl (by omega) dL_law_838 dL_law_839 dL_law_840 dL_law_841 dL_law_842 ?_
  refine l_arg (j := j) (k := 2) (n := 2) hc (by decide) rfl (by omega) dL_law_843 dL_law_844 dL_law_845 dL_law_846 dL_law_847 ?_
  refine l_arg (j := j) (k := 3) (n := 3) hc (by decide) rfl (by omega) dL_law_848 dL_law_849 dL_law_850 dL_law_851 dL_law_852 ?_
  refine l_arg (j := j) (k := 4) (n := 4) hc (by decide) rfl (by omega) dL_law_853 dL_law_854 dL_law_855 dL_law_856 dL_law_857 ?_
  refine l_callC hc (As := [.int (xs (j + 1)), .int (xs (j + 2)), .int (xs (j + 3)), .int (xs (j + 4))]) mv_X6_map ml_L_82 (c_X6_map f1) rfl rfl rfl ⟨by decide, by decide, by decide⟩ rfl (Nat.le_of_ble_eq_true rfl) dL_law_858 ?_
  refine l_aload2 hc dL_law_861 ?_
  refine l_arg (j := j) (k := 1) (n := 1) hc (by decide) rfl (by omega) dL_law_862 dL_law_863 dL_law_864 dL_law_865 dL_law_866 ?_
  refine l_arg (j := j) (k := 2) (n := 2) hc (by decide) rfl (by omega) dL_law_867 dL_law_868 dL_law_869 dL_law_870 dL_law_871 ?_
  refine l_arg (j := j) (k := 3) (n := 3) hc (by decide) rfl (by omega) dL_law_872 dL_law_873 dL_law_874 dL_law_875 dL_law_876 ?_
  refine l_arg (j := j) (k := 4) (n := 4) hc (by decide) rfl (by omega) dL_law_877 dL_law_878 dL_law_879 dL_law_880 dL_law_881 ?_
  refine l_callM hc (As := [.int (xs (j + 1)), .int (xs (j + 2)), .int (xs (j + 3)), .int (xs (j + 4))]) mv_X7_map ml_L_85 (c_X7_map f2) rfl rfl rfl ⟨by decide, by decide, by decide⟩ rfl (Nat.le_of_ble_eq_true rfl) dL_law_882 ?_
  exact l_same hc dL_law_885 (by decide) (kk A2 s2 t2 g2 h2 o1 o2 o3)
theorem lc_16 (hc : LC l γ ad1 ad2 b L xs) (hj : j + 6 < L) (hA : OK A) (hcc : CC s A) (hmm : MM t A) (kk : Nxt l γ ad1 ad2 b j) : LW l γ ad1 ad2 b 890 (nI j) [] (s, rC g h) (t, rM) := by
  obtain ⟨r, s2, t2, g2, h2, A2, f1, f2, o1, o2, o3⟩ := call_becomes (xs (j + 1)) (xs (j + 2)) (xs (j + 3)) (xs (j + 4)) A s t g h hA hcc hmm
  refine l_aload1 hc dL_law_890 ?_
  refine l_arg (j := j) (k := 1) (n := 1) hc (by decide) rfl (by omega) dL_law_891 dL_law_892 dL_law_893 dL_law_894 dL_law_895 ?_
  refine l_arg (j := j) (k := 2) (n := 2) hc (by decide) rfl (by omega) dL_law_896 dL_law_897 dL_law_898 dL_law_899 dL_law_900 ?_
  refine l_arg (j := j) (k := 3) (n := 3) hc (by decide) rfl (by omega) dL_law_901 dL_law_902 dL_law_903 dL_law_904 dL_law_905 ?_
  refine l_arg (j := j) (k := 4) (n := 4) hc (by decide) rfl (by omega) dL_law_906 dL_law_907 dL_law_908 dL_law_909 dL_law_910 ?_
  refine l_callC hc (As := [.int (xs (j + 1)), .int (xs (j + 2)), .int (xs (j + 3)), .int (xs (j + 4))]) mv_X6_becomes ml_L_86 (c_X6_becomes f1) rfl rfl rfl ⟨by decide, by decide, by decide⟩ rfl (Nat.le_of_ble_eq_true rfl) dL_law_911 ?_
  refine l_aload2 hc dL_law_914 ?_
  refine l_arg (j := j) (k := 1) (n := 1) hc (by decide) rfl (by omega) dL_law_915 dL_law_916 dL_law_917 dL_law_918 dL_law_919 ?_
  refine l_arg (j := j) (k := 2) (n := 2) hc (by decide) rfl (by omega) dL_law_920 dL_law_921 dL_law_922 dL_law_923 dL_law_924 ?_
  refine l_arg (j := j) (k := 3) (n := 3) hc (by decide) rfl (by omega) dL_law_925 dL_law_926 dL_law_927 dL_law_928 dL_law_929 ?_
  refine l_arg (j := j) (k := 4) (n := 4) hc (by decide) rfl (by omega) dL_law_930 dL_law_931 dL_law_932 dL_law_933 dL_law_934 ?_
  refine l_callM hc (As := [.int (xs (j + 1)), .int (xs (j + 2)), .int (xs (j + 3)), .int (xs (j + 4))]) mv_X7_becomes ml_L_89 (c_X7_becomes f2) rfl rfl rfl ⟨by decide, by decide, by decide⟩ rfl (Nat.le_of_ble_eq_true rfl) dL_law_935 ?_
  exact l_same hc dL_law_938 (by decide) (kk A2 s2 t2 g2 h2 o1 o2 o3)
theorem lc_17 (hc : LC l γ ad1 ad2 b L xs) (hj : j + 6 < L) (hA : OK A) (hcc : CC s A) (hmm : MM t A) (kk : Nxt l γ ad1 ad2 b j) : LW l γ ad1 ad2 b 943 (nI j) [] (s, rC g h) (t, rM) := by
  obtain ⟨r, s2, t2, g2, h2, A2, f1, f2, o1, o2, o3⟩ := call_left (xs (j + 1)) (xs (j + 2)) (xs (j + 3)) A s t g h hA hcc hmm
  refine l_aload1 hc dL_law_943 ?_
  refine l_arg (j := j) (k := 1) (n := 1) hc (by decide) rfl (by omega) dL_law_944 dL_law_945 dL_law_946 dL_law_947 dL_law_948 ?_
  refine l_arg (j := j) (k := 2) (n := 2) hc (by decide) rfl (by omega) dL_law_949 dL_law_950 dL_law_951 dL_law_952 dL_law_953 ?_
  refine l_arg (j := j) (k := 3) (n := 3) hc (by decide) rfl (by omega) dL_law_954 dL_law_955 dL_law_956 dL_law_957 dL_law_958 ?_
  refine l_callC hc (As := [.int (xs (j + 1)), .int (xs (j + 2)), .int (xs (j + 3))]) mv_X6_left ml_L_90 (c_X6_left f1) rfl rfl rfl ⟨by decide, by decide, by decide⟩ rfl (Nat.le_of_ble_eq_true rfl) dL_law_959 ?_
  refine l_aload2 hc dL_law_962 ?_
  refine l_arg (j := j) (k := 1) (n := 1) hc (by decide) rfl (by omega) dL_law_963 dL_law_964 dL_law_965 dL_law_966 dL_law_967 ?_
  refine l_arg (j := j) (k := 2) (n := 2) hc (by decide) rfl (by omega) dL_law_968 dL_law_969 dL_law_970 dL_law_971 dL_law_972 ?_
  refine l_arg (j := j) (k := 3) (n := 3) hc (by decide) rfl (by omega) dL_law_973 dL_law_974 dL_law_975 dL_law_976 dL_law_977 ?_
  refine l_callM hc (As := [.int (xs (j + 1)), .int (xs (j + 2)), .int (xs (j + 3))]) mv_X7_left ml_L_93 (c_X7_left f2) rfl rfl rfl ⟨by decide, by decide, by decide⟩ rfl (Nat.le_of_ble_eq_true rfl) dL_law_978 ?_
  exact l_same hc dL_law_981 (by decide) (kk A2 s2 t2 g2 h2 o1 o2 o3)
theorem lc_18 (hc : LC l γ ad1 ad2 b L xs) (hj : j + 6 < L) (hA : OK A) (hcc : CC s A) (hmm : MM t A) (kk : Nxt l γ ad1 ad2 b j) : LW l γ ad1 ad2 b 986 (nI j) [] (s, rC g h) (t, rM) := by
  obtain ⟨r, s2, t2, g2, h2, A2, f1, f2, o1, o2, o3⟩ := call_fits (xs (j + 1)) (xs (j + 2)) A s t g h hA hcc hmm
  refine l_aload1 hc dL_law_986 ?_
  refine l_arg (j := j) (k := 1) (n := 1) hc (by decide) rfl (by omega) dL_law_987 dL_law_988 dL_law_989 dL_law_990 dL_law_991 ?_
  refine l_arg (j := j) (k := 2) (n := 2) hc (by decide) rfl (by omega) dL_law_992 dL_law_993 dL_law_994 dL_law_995 dL_law_996 ?_
  refine l_callC hc (As := [.int (xs (j + 1)), .int (xs (j + 2))]) mv_X6_fits ml_L_94 (c_X6_fits f1) rfl rfl rfl ⟨by decide, by decide, by decide⟩ rfl (Nat.le_of_ble_eq_true rfl) dL_law_997 ?_
  refine l_aload2 hc dL_law_1000 ?_
  refine l_arg (j := j) (k := 1) (n := 1) hc (by decide) rfl (by omega) dL_law_1001 dL_law_1002 dL_law_1003 dL_law_1004 dL_law_1005 ?_
  refine l_arg (j := j) (k := 2) (n := 2) hc (by decide) rfl (by omega) dL_law_1006 dL_law_1007 dL_law_1008 dL_law_1009 dL_law_1010 ?_
  refine l_callM hc (As := [.int (xs (j + 1)), .int (xs (j + 2))]) mv_X7_fits ml_L_97 (c_X7_fits f2) rfl rfl rfl ⟨by decide, by decide, by decide⟩ rfl (Nat.le_of_ble_eq_true rfl) dL_law_1011 ?_
  exact l_same hc dL_law_1014 (by decide) (kk A2 s2 t2 g2 h2 o1 o2 o3)
theorem lc_19 (hc : LC l γ ad1 ad2 b L xs) (hj : j + 6 < L) (hA : OK A) (hcc : CC s A) (hmm : MM t A) (kk : Nxt l γ ad1 ad2 b j) : LW l γ ad1 ad2 b 1019 (nI j) [] (s, rC g h) (t, rM) := by
  obtain ⟨r, s2, t2, g2, h2, A2, f1, f2, o1, o2, o3⟩ := call_search (xs (j + 1)) (xs (j + 2)) A s t g h hA hcc hmm
  refine l_aload1 hc dL_law_1019 ?_
  refine l_arg (j := j) (k := 1) (n := 1) hc (by decide) rfl (by omega) dL_law_1020 dL_law_1021 dL_law_1022 dL_law_1023 dL_law_1024 ?_
  refine l_arg (j := j) (k := 2) (n := 2) hc (by decide) rfl (by omega) dL_law_1025 dL_law_1026 dL_law_1027 dL_law_1028 dL_law_1029 ?_
  refine l_callC hc (As := [.int (xs (j + 1)), .int (xs (j + 2))]) mv_X6_search ml_L_98 (c_X6_search f1) rfl rfl rfl ⟨by decide, by decide, by decide⟩ rfl (Nat.le_of_ble_eq_true rfl) dL_law_1030 ?_
  refine l_aload2 hc dL_law_1033 ?_
  refine l_arg (j := j) (k := 1) (n := 1) hc (by decide) rfl (by omega) dL_law_1034 dL_law_1035 dL_law_1036 dL_law_1037 dL_law_1038 ?_
  refine l_arg (j := j) (k := 2) (n := 2) hc (by decide) rfl (by omega) dL_law_1039 dL_law_1040 dL_law_1041 dL_law_1042 dL_law_1043 ?_
  refine l_callM hc (As := [.int (xs (j + 1)), .int (xs (j + 2))]) mv_X7_search ml_L_101 (c_X7_search f2) rfl rfl rfl ⟨by decide, by decide, by decide⟩ rfl (Nat.le_of_ble_eq_true rfl) dL_law_1044 ?_
  exact l_same hc dL_law_1047 (by decide) (kk A2 s2 t2 g2 h2 o1 o2 o3)
theorem lc_20 (hc : LC l γ ad1 ad2 b L xs) (hj : j + 6 < L) (hA : OK A) (hcc : CC s A) (hmm : MM t A) (kk : Nxt l γ ad1 ad2 b j) : LW l γ ad1 ad2 b 1052 (nI j) [] (s, rC g h) (t, rM) := by
  obtain ⟨r, s2, t2, g2, h2, A2, f1, f2, o1, o2, o3⟩ := call_tighten (xs (j + 1)) (xs (j + 2)) A s t g h hA hcc hmm
  refine l_aload1 hc dL_law_1052 ?_
  refine l_arg (j := j) (k := 1) (n := 1) hc (by decide) rfl (by omega) dL_law_1053 dL_law_1054 dL_law_1055 dL_law_1056 dL_law_1057 ?_
  refine l_arg (j := j) (k := 2) (n := 2) hc (by decide) rfl (by omega) dL_law_1058 dL_law_1059 dL_law_1060 dL_law_1061 dL_law_1062 ?_
  refine l_callC hc (As := [.int (xs (j + 1)), .int (xs (j + 2))]) mv_X6_tighten ml_L_102 (c_X6_tighten f1) rfl rfl rfl ⟨by decide, by decide, by decide⟩ rfl (Nat.le_of_ble_eq_true rfl) dL_law_1063 ?_
  refine l_aload2 hc dL_law_1066 ?_
  refine l_arg (j := j) (k := 1) (n := 1) hc (by decide) rfl (by omega) dL_law_1067 dL_law_1068 dL_law_1069 dL_law_1070 dL_law_1071 ?_
  refine l_arg (j := j) (k := 2) (n := 2) hc (by decide) rfl (by omega) dL_law_1072 dL_law_1073 dL_law_1074 dL_law_1075 dL_law_1076 ?_
  refine l_callM hc (As := [.int (xs (j + 1)), .int (xs (j + 2))]) mv_X7_tighten ml_L_105 (c_X7_tighten f2) rfl rfl rfl ⟨by decide, by decide, by decide⟩ rfl (Nat.le_of_ble_eq_true rfl) dL_law_1077 ?_
  exact l_same hc dL_law_1080 (by decide) (kk A2 s2 t2 g2 h2 o1 o2 o3)
theorem lc_21 (hc : LC l γ ad1 ad2 b L xs) (hj : j + 6 < L) (hA : OK A) (hcc : CC s A) (hmm : MM t A) (kk : Nxt l γ ad1 ad2 b j) : LW l γ ad1 ad2 b 1085 (nI j) [] (s, rC g h) (t, rM) := by
  obtain ⟨r, s2, t2, g2, h2, A2, f1, f2, o1, o2, o3⟩ := call_image (xs (j + 1)) (xs (j + 2)) (!decide (xs (j + 3) = 0)) (xs (j + 4)) A s t g h hA hcc hmm
  refine l_aload1 hc dL_law_1085 ?_
  refine l_arg (j := j) (k := 1) (n := 1) hc (by decide) rfl (by omega) dL_law_1086 dL_law_1087 dL_law_1088 dL_law_1089 dL_law_1090 ?_
  refine l_arg (j := j) (k := 2) (n := 2) hc (by decide) rfl (by omega) dL_law_1091 dL_law_1092 dL_law_1093 dL_law_1094 dL_law_1095 ?_
  refine l_arg (j := j) (k := 3) (n := 3) hc (by decide) rfl (by omega) dL_law_1096 dL_law_1097 dL_law_1098 dL_law_1099 dL_law_1100 ?_
  refine l_bool hc dL_law_1101 dL_law_1104 dL_law_1105 dL_law_1108 ?_
  refine l_arg (j := j) (k := 4) (n := 4) hc (by decide) rfl (by omega) dL_law_1109 dL_law_1110 dL_law_1111 dL_law_1112 dL_law_1113 ?_
  refine l_callC hc (As := [.int (xs (j + 1)), .int (xs (j + 2)), .int (bI (!decide (xs (j + 3) = 0))), .int (xs (j + 4))]) mv_X6_image ml_L_106 (c_X6_image f1) rfl rfl rfl ⟨by decide, by decide, by decide⟩ rfl (Nat.le_of_ble_eq_true rfl) dL_law_1114 ?_
  refine l_aload2 hc dL_law_1117 ?_
  refine l_arg (j := j) (k := 1) (n := 1) hc (by decide) rfl (by omega) dL_law_1118 dL_law_1119 dL_law_1120 dL_law_1121 dL_law_1122 ?_
  refine l_arg (j := j) (k := 2) (n := 2) hc (by decide) rfl (by omega) dL_law_1123 dL_law_1124 dL_law_1125 dL_law_1126 dL_law_1127 ?_
  refine l_arg (j := j) (k := 3) (n := 3) hc (by decide) rfl (by omega) dL_law_1128 dL_law_1129 dL_law_1130 dL_law_1131 dL_law_1132 ?_
  refine l_bool hc dL_law_1133 dL_law_1136 dL_law_1137 dL_law_1140 ?_
  refine l_arg (j := j) (k := 4) (n := 4) hc (by decide) rfl (by omega) dL_law_1141 dL_law_1142 dL_law_1143 dL_law_1144 dL_law_1145 ?_
  refine l_callM hc (As := [.int (xs (j + 1)), .int (xs (j + 2)), .int (bI (!decide (xs (j + 3) = 0))), .int (xs (j + 4))]) mv_X7_image ml_L_110 (c_X7_image f2) rfl rfl rfl ⟨by decide, by decide, by decide⟩ rfl (Nat.le_of_ble_eq_true rfl) dL_law_1146 ?_
  exact l_same hc dL_law_1149 (by decide) (kk A2 s2 t2 g2 h2 o1 o2 o3)
theorem lc_22 (hc : LC l γ ad1 ad2 b L xs) (hj : j + 6 < L) (hA : OK A) (hcc : CC s A) (hmm : MM t A) (kk : Nxt l γ ad1 ad2 b j) : LW l γ ad1 ad2 b 1154 (nI j) [] (s, rC g h) (t, rM) := by
  obtain ⟨r, s2, t2, g2, h2, A2, f1, f2, o1, o2, o3⟩ := call_weigh (xs (j + 1)) (xs (j + 2)) A s t g h hA hcc hmm
  refine l_aload1 hc dL_law_1154 ?_
  refine l_arg (j := j) (k := 1) (n := 1) hc (by decide) rfl (by omega) dL_law_1155 dL_law_1156 dL_law_1157 dL_law_1158 dL_law_1159 ?_
  refine l_arg (j := j) (k := 2) (n := 2) hc (by decide) rfl (by omega) dL_law_1160 dL_law_1161 dL_law_1162 dL_law_1163 dL_law_1164 ?_
  refine l_callC hc (As := [.int (xs (j + 1)), .int (xs (j + 2))]) mv_X6_weigh ml_L_111 (c_X6_weigh f1) rfl rfl rfl ⟨by decide, by decide, by decide⟩ rfl (Nat.le_of_ble_eq_true rfl) dL_law_1165 ?_
  refine l_aload2 hc dL_law_1168 ?_
  refine l_arg (j := j) (k := 1) (n := 1) hc (by decide) rfl (by omega) dL_law_1169 dL_law_1170 dL_law_1171 dL_law_1172 dL_law_1173 ?_
  refine l_arg (j := j) (k := 2) (n := 2) hc (by decide) rfl (by omega) dL_law_1174 dL_law_1175 dL_law_1176 dL_law_1177 dL_law_1178 ?_
  refine l_callM hc (As := [.int (xs (j + 1)), .int (xs (j + 2))]) mv_X7_weigh ml_L_114 (c_X7_weigh f2) rfl rfl rfl ⟨by decide, by decide, by decide⟩ rfl (Nat.le_of_ble_eq_true rfl) dL_law_1179 ?_
  exact l_same hc dL_law_1182 (by decide) (kk A2 s2 t2 g2 h2 o1 o2 o3)
theorem lc_23 (hc : LC l γ ad1 ad2 b L xs) (hj : j + 6 < L) (hA : OK A) (hcc : CC s A) (hmm : MM t A) (kk : Nxt l γ ad1 ad2 b j) : LW l γ ad1 ad2 b 1187 (nI j) [] (s, rC g h) (t, rM) := by
  obtain ⟨r, s2, t2, g2, h2, A2, f1, f2, o1, o2, o3⟩ := call_cheapest (xs (j + 1)) (xs (j + 2)) (!decide (xs (j + 3) = 0)) (xs (j + 4)) A s t g h hA hcc hmm
  refine l_aload1 hc dL_law_1187 ?_
  refine l_arg (j := j) (k := 1) (n := 1) hc (by decide) rfl (by omega) dL_law_1188 dL_law_1189 dL_law_1190 dL_law_1191 dL_law_1192 ?_
  refine l_arg (j := j) (k := 2) (n := 2) hc (by decide) rfl (by omega) dL_law_1193 dL_law_1194 dL_law_1195 dL_law_1196 dL_law_1197 ?_
  refine l_arg (j := j) (k := 3) (n := 3) hc (by decide) rfl (by omega) dL_law_1198 dL_law_1199 dL_law_1200 dL_law_1201 dL_law_1202 ?_
  refine l_bool hc dL_law_1203 dL_law_1206 dL_law_1207 dL_law_1210 ?_
  refine l_arg (j := j) (k := 4) (n := 4) hc (by decide) rfl (by omega) dL_law_1211 dL_law_1212 dL_law_1213 dL_law_1214 dL_law_1215 ?_
  refine l_callC hc (As := [.int (xs (j + 1)), .int (xs (j + 2)), .int (bI (!decide (xs (j + 3) = 0))), .int (xs (j + 4))]) mv_X6_cheapest ml_L_115 (c_X6_cheapest f1) rfl rfl rfl ⟨by decide, by decide, by decide⟩ rfl (Nat.le_of_ble_eq_true rfl) dL_law_1216 ?_
  refine l_aload2 hc dL_law_1219 ?_
  refine l_arg (j := j) (k := 1) (n := 1) hc (by decide) rfl (by omega) dL_law_1220 dL_law_1221 dL_law_1222 dL_law_1223 dL_law_1224 ?_
  refine l_arg (j := j) (k := 2) (n := 2) hc (by decide) rfl (by omega) dL_law_1225 dL_law_1226 dL_law_1227 dL_law_1228 dL_law_1229 ?_
  refine l_arg (j := j) (k := 3) (n := 3) hc (by decide) rfl (by omega) dL_law_1230 dL_law_1231 dL_law_1232 dL_law_1233 dL_law_1234 ?_
  refine l_bool hc dL_law_1235 dL_law_1238 dL_law_1239 dL_law_1242 ?_
  refine l_arg (j := j) (k := 4) (n := 4) hc (by decide) rfl (by omega) dL_law_1243 dL_law_1244 dL_law_1245 dL_law_1246 dL_law_1247 ?_
  refine l_callM hc (As := [.int (xs (j + 1)), .int (xs (j + 2)), .int (bI (!decide (xs (j + 3) = 0))), .int (xs (j + 4))]) mv_X7_cheapest ml_L_118 (c_X7_cheapest f2) rfl rfl rfl ⟨by decide, by decide, by decide⟩ rfl (Nat.le_of_ble_eq_true rfl) dL_law_1248 ?_
  exact l_same hc dL_law_1251 (by decide) (kk A2 s2 t2 g2 h2 o1 o2 o3)
theorem lc_24 (hc : LC l γ ad1 ad2 b L xs) (hj : j + 6 < L) (hA : OK A) (hcc : CC s A) (hmm : MM t A) (kk : Nxt l γ ad1 ad2 b j) : LW l γ ad1 ad2 b 1256 (nI j) [] (s, rC g h) (t, rM) := by
  obtain ⟨r, s2, t2, g2, h2, A2, f1, f2, o1, o2, o3⟩ := call_behind (xs (j + 1)) (xs (j + 2)) (xs (j + 3)) (xs (j + 4)) (xs (j + 5)) A s t g h hA hcc hmm
  refine l_aload1 hc dL_law_1256 ?_
  refine l_arg (j := j) (k := 1) (n := 1) hc (by decide) rfl (by omega) dL_law_1257 dL_law_1258 dL_law_1259 dL_law_1260 dL_law_1261 ?_
  refine l_arg (j := j) (k := 2) (n := 2) hc (by decide) rfl (by omega) dL_law_1262 dL_law_1263 dL_law_1264 dL_law_1265 dL_law_1266 ?_
  refine l_arg (j := j) (k := 3) (n := 3) hc (by decide) rfl (by omega) dL_law_1267 dL_law_1268 dL_law_1269 dL_law_1270 dL_law_1271 ?_
  refine l_arg (j := j) (k := 4) (n := 4) hc (by decide) rfl (by omega) dL_law_1272 dL_law_1273 dL_law_1274 dL_law_1275 dL_law_1276 ?_
  refine l_arg (j := j) (k := 5) (n := 5) hc (by decide) rfl (by omega) dL_law_1277 dL_law_1278 dL_law_1279 dL_law_1280 dL_law_1281 ?_
  refine l_callC hc (As := [.int (xs (j + 1)), .int (xs (j + 2)), .int (xs (j + 3)), .int (xs (j + 4)), .int (xs (j + 5))]) mv_X6_behind ml_L_119 (c_X6_behind f1) rfl rfl rfl ⟨by decide, by decide, by decide⟩ rfl (Nat.le_of_ble_eq_true rfl) dL_law_1282 ?_
  refine l_aload2 hc dL_law_1285 ?_
  refine l_arg (j := j) (k := 1) (n := 1) hc (by decide) rfl (by omega) dL_law_1286 dL_law_1287 dL_law_1288 dL_law_1289 dL_law_1290 ?_
  refine l_arg (j := j) (k := 2) (n := 2) hc (by decide) rfl (by omega) dL_law_1291 dL_law_1292 dL_law_1293 dL_law_1294 dL_law_1295 ?_
  refine l_arg (j := j) (k := 3) (n := 3) hc (by decide) rfl (by omega) dL_law_1296 dL_law_1297 dL_law_1298 dL_law_1299 dL_law_1300 ?_
  refine l_arg (j := j) (k := 4) (n := 4) hc (by decide) rfl (by omega) dL_law_1301 dL_law_1302 dL_law_1303 dL_law_1304 dL_law_1305 ?_
  refine l_arg (j := j) (k := 5) (n := 5) hc (by decide) rfl (by omega) dL_law_1306 dL_law_1307 dL_law_1308 dL_law_1309 dL_law_1310 ?_
  refine l_callM hc (As := [.int (xs (j + 1)), .int (xs (j + 2)), .int (xs (j + 3)), .int (xs (j + 4)), .int (xs (j + 5))]) mv_X7_behind ml_L_122 (c_X7_behind f2) rfl rfl rfl ⟨by decide, by decide, by decide⟩ rfl (Nat.le_of_ble_eq_true rfl) dL_law_1311 ?_
  exact l_same hc dL_law_1314 (by decide) (kk A2 s2 t2 g2 h2 o1 o2 o3)
theorem lc_25 (hc : LC l γ ad1 ad2 b L xs) (hj : j + 6 < L) (hA : OK A) (hcc : CC s A) (hmm : MM t A) (kk : Nxt l γ ad1 ad2 b j) : LW l γ ad1 ad2 b 1319 (nI j) [] (s, rC g h) (t, rM) := by
  obtain ⟨r, s2, t2, g2, h2, A2, f1, f2, o1, o2, o3⟩ := call_core (xs (j + 1)) (xs (j + 2)) A s t g h hA hcc hmm
  refine l_aload1 hc dL_law_1319 ?_
  refine l_arg (j := j) (k := 1) (n := 1) hc (by decide) rfl (by omega) dL_law_1320 dL_law_1321 dL_law_1322 dL_law_1323 dL_law_1324 ?_
  refine l_arg (j := j) (k := 2) (n := 2) hc (by decide) rfl (by omega) dL_law_1325 dL_law_1326 dL_law_1327 dL_law_1328 dL_law_1329 ?_
  refine l_callC hc (As := [.int (xs (j + 1)), .int (xs (j + 2))]) mv_X6_core ml_L_123 (c_X6_core f1) rfl rfl rfl ⟨by decide, by decide, by decide⟩ rfl (Nat.le_of_ble_eq_true rfl) dL_law_1330 ?_
  refine l_aload2 hc dL_law_1333 ?_
  refine l_arg (j := j) (k := 1) (n := 1) hc (by decide) rfl (by omega) dL_law_1334 dL_law_1335 dL_law_1336 dL_law_1337 dL_law_1338 ?_
  refine l_arg (j := j) (k := 2) (n := 2) hc (by decide) rfl (by omega) dL_law_1339 dL_law_1340 dL_law_1341 dL_law_1342 dL_law_1343 ?_
  refine l_callM hc (As := [.int (xs (j + 1)), .int (xs (j + 2))]) mv_X7_core ml_L_126 (c_X7_core f2) rfl rfl rfl ⟨by decide, by decide, by decide⟩ rfl (Nat.le_of_ble_eq_true rfl) dL_law_1344 ?_
  exact l_same hc dL_law_1347 (by decide) (kk A2 s2 t2 g2 h2 o1 o2 o3)
theorem lc_26 (hc : LC l γ ad1 ad2 b L xs) (hj : j + 6 < L) (hA : OK A) (hcc : CC s A) (hmm : MM t A) (kk : Nxt l γ ad1 ad2 b j) : LW l γ ad1 ad2 b 1352 (nI j) [] (s, rC g h) (t, rM) := by
  obtain ⟨r, s2, t2, g2, h2, A2, f1, f2, o1, o2, o3⟩ := call_retraction (xs (j + 1)) (xs (j + 2)) (xs (j + 3)) A s t g h hA hcc hmm
  refine l_aload1 hc dL_law_1352 ?_
  refine l_arg (j := j) (k := 1) (n := 1) hc (by decide) rfl (by omega) dL_law_1353 dL_law_1354 dL_law_1355 dL_law_1356 dL_law_1357 ?_
  refine l_arg (j := j) (k := 2) (n := 2) hc (by decide) rfl (by omega) dL_law_1358 dL_law_1359 dL_law_1360 dL_law_1361 dL_law_1362 ?_
  refine l_arg (j := j) (k := 3) (n := 3) hc (by decide) rfl (by omega) dL_law_1363 dL_law_1364 dL_law_1365 dL_law_1366 dL_law_1367 ?_
  refine l_callC hc (As := [.int (xs (j + 1)), .int (xs (j + 2)), .int (xs (j + 3))]) mv_X6_retraction ml_L_127 (c_X6_retraction f1) rfl rfl rfl ⟨by decide, by decide, by decide⟩ rfl (Nat.le_of_ble_eq_true rfl) dL_law_1368 ?_
  refine l_aload2 hc dL_law_1371 ?_
  refine l_arg (j := j) (k := 1) (n := 1) hc (by decide) rfl (by omega) dL_law_1372 dL_law_1373 dL_law_1374 dL_law_1375 dL_law_1376 ?_
  refine l_arg (j := j) (k := 2) (n := 2) hc (by decide) rfl (by omega) dL_law_1377 dL_law_1378 dL_law_1379 dL_law_1380 dL_law_1381 ?_
  refine l_arg (j := j) (k := 3) (n := 3) hc (by decide) rfl (by omega) dL_law_1382 dL_law_1383 dL_law_1384 dL_law_1385 dL_law_1386 ?_
  refine l_callM hc (As := [.int (xs (j + 1)), .int (xs (j + 2)), .int (xs (j + 3))]) mv_X7_retraction ml_L_130 (c_X7_retraction f2) rfl rfl rfl ⟨by decide, by decide, by decide⟩ rfl (Nat.le_of_ble_eq_true rfl) dL_law_1387 ?_
  exact l_same hc dL_law_1390 (by decide) (kk A2 s2 t2 g2 h2 o1 o2 o3)
theorem lc_27 (hc : LC l γ ad1 ad2 b L xs) (hj : j + 6 < L) (hA : OK A) (hcc : CC s A) (hmm : MM t A) (kk : Nxt l γ ad1 ad2 b j) : LW l γ ad1 ad2 b 1395 (nI j) [] (s, rC g h) (t, rM) := by
  obtain ⟨r, s2, t2, g2, h2, A2, f1, f2, o1, o2, o3⟩ := call_steps (xs (j + 1)) (xs (j + 2)) (xs (j + 3)) (xs (j + 4)) A s t g h hA hcc hmm
  refine l_aload1 hc dL_law_1395 ?_
  refine l_arg (j := j) (k := 1) (n := 1) hc (by decide) rfl (by omega) dL_law_1396 dL_law_1397 dL_law_1398 dL_law_1399 dL_law_1400 ?_
  refine l_arg (j := j) (k := 2) (n := 2) hc (by decide) rfl (by omega) dL_law_1401 dL_law_1402 dL_law_1403 dL_law_1404 dL_law_1405 ?_
  refine l_arg (j := j) (k := 3) (n := 3) hc (by decide) rfl (by omega) dL_law_1406 dL_law_1407 dL_law_1408 dL_law_1409 dL_law_1410 ?_
  refine l_arg (j := j) (k := 4) (n := 4) hc (by decide) rfl (by omega) dL_law_1411 dL_law_1412 dL_law_1413 dL_law_1414 dL_law_1415 ?_
  refine l_callC hc (As := [.int (xs (j + 1)), .int (xs (j + 2)), .int (xs (j + 3)), .int (xs (j + 4))]) mv_X6_steps ml_L_131 (c_X6_steps f1) rfl rfl rfl ⟨by decide, by decide, by decide⟩ rfl (Nat.le_of_ble_eq_true rfl) dL_law_1416 ?_
  refine l_aload2 hc dL_law_1419 ?_
  refine l_arg (j := j) (k := 1) (n := 1) hc (by decide) rfl (by omega) dL_law_1420 dL_law_1421 dL_law_1422 dL_law_1423 dL_law_1424 ?_
  refine l_arg (j := j) (k := 2) (n := 2) hc (by decide) rfl (by omega) dL_law_1425 dL_law_1426 dL_law_1427 dL_law_1428 dL_law_1429 ?_
  refine l_arg (j := j) (k := 3) (n := 3) hc (by decide) rfl (by omega) dL_law_1430 dL_law_1431 dL_law_1432 dL_law_1433 dL_law_1434 ?_
  refine l_arg (j := j) (k := 4) (n := 4) hc (by decide) rfl (by omega) dL_law_1435 dL_law_1436 dL_law_1437 dL_law_1438 dL_law_1439 ?_
  refine l_callM hc (As := [.int (xs (j + 1)), .int (xs (j + 2)), .int (xs (j + 3)), .int (xs (j + 4))]) mv_X7_steps ml_L_134 (c_X7_steps f2) rfl rfl rfl ⟨by decide, by decide, by decide⟩ rfl (Nat.le_of_ble_eq_true rfl) dL_law_1440 ?_
  exact l_same hc dL_law_1443 (by decide) (kk A2 s2 t2 g2 h2 o1 o2 o3)
theorem lc_28 (hc : LC l γ ad1 ad2 b L xs) (hj : j + 6 < L) (hA : OK A) (hcc : CC s A) (hmm : MM t A) (kk : Nxt l γ ad1 ad2 b j) : LW l γ ad1 ad2 b 1448 (nI j) [] (s, rC g h) (t, rM) := by
  obtain ⟨r, s2, t2, g2, h2, A2, f1, f2, o1, o2, o3⟩ := call_crowds (xs (j + 1)) (xs (j + 2)) (xs (j + 3)) A s t g h hA hcc hmm
  refine l_aload1 hc dL_law_1448 ?_
  refine l_arg (j := j) (k := 1) (n := 1) hc (by decide) rfl (by omega) dL_law_1449 dL_law_1450 dL_law_1451 dL_law_1452 dL_law_1453 ?_
  refine l_arg (j := j) (k := 2) (n := 2) hc (by decide) rfl (by omega) dL_law_1454 dL_law_1455 dL_law_1456 dL_law_1457 dL_law_1458 ?_
  refine l_arg (j := j) (k := 3) (n := 3) hc (by decide) rfl (by omega) dL_law_1459 dL_law_1460 dL_law_1461 dL_law_1462 dL_law_1463 ?_
  refine l_callC hc (As := [.int (xs (j + 1)), .int (xs (j + 2)), .int (xs (j + 3))]) mv_X6_crowds ml_L_135 (c_X6_crowds f1) rfl rfl rfl ⟨by decide, by decide, by decide⟩ rfl (Nat.le_of_ble_eq_true rfl) dL_law_1464 ?_
  refine l_aload2 hc dL_law_1467 ?_
  refine l_arg (j := j) (k := 1) (n := 1) hc (by decide) rfl (by omega) dL_law_1468 dL_law_1469 dL_law_1470 dL_law_1471 dL_law_1472 ?_
  refine l_arg (j := j) (k := 2) (n := 2) hc (by decide) rfl (by omega) dL_law_1473 dL_law_1474 dL_law_1475 dL_law_1476 dL_law_1477 ?_
  refine l_arg (j := j) (k := 3) (n := 3) hc (by decide) rfl (by omega) dL_law_1478 dL_law_1479 dL_law_1480 dL_law_1481 dL_law_1482 ?_
  refine l_callM hc (As := [.int (xs (j + 1)), .int (xs (j + 2)), .int (xs (j + 3))]) mv_X7_crowds ml_L_138 (c_X7_crowds f2) rfl rfl rfl ⟨by decide, by decide, by decide⟩ rfl (Nat.le_of_ble_eq_true rfl) dL_law_1483 ?_
  exact l_same hc dL_law_1486 (by decide) (kk A2 s2 t2 g2 h2 o1 o2 o3)
theorem lc_29 (hc : LC l γ ad1 ad2 b L xs) (hj : j + 6 < L) (hA : OK A) (hcc : CC s A) (hmm : MM t A) (kk : Nxt l γ ad1 ad2 b j) : LW l γ ad1 ad2 b 1491 (nI j) [] (s, rC g h) (t, rM) := by
  obtain ⟨r, s2, t2, g2, h2, A2, f1, f2, o1, o2, o3⟩ := call_operations (xs (j + 1)) (xs (j + 2)) A s t g h hA hcc hmm
  refine l_aload1 hc dL_law_1491 ?_
  refine l_arg (j := j) (k := 1) (n := 1) hc (by decide) rfl (by omega) dL_law_1492 dL_law_1493 dL_law_1494 dL_law_1495 dL_law_1496 ?_
  refine l_arg (j := j) (k := 2) (n := 2) hc (by decide) rfl (by omega) dL_law_1497 dL_law_1498 dL_law_1499 dL_law_1500 dL_law_1501 ?_
  refine l_callC hc (As := [.int (xs (j + 1)), .int (xs (j + 2))]) mv_X6_operations ml_L_139 (c_X6_operations f1) rfl rfl rfl ⟨by decide, by decide, by decide⟩ rfl (Nat.le_of_ble_eq_true rfl) dL_law_1502 ?_
  refine l_aload2 hc dL_law_1505 ?_
  refine l_arg (j := j) (k := 1) (n := 1) hc (by decide) rfl (by omega) dL_law_1506 dL_law_1507 dL_law_1508 dL_law_1509 dL_law_1510 ?_
  refine l_arg (j := j) (k := 2) (n := 2) hc (by decide) rfl (by omega) dL_law_1511 dL_law_1512 dL_law_1513 dL_law_1514 dL_law_1515 ?_
  refine l_callM hc (As := [.int (xs (j + 1)), .int (xs (j + 2))]) mv_X7_operations ml_L_142 (c_X7_operations f2) rfl rfl rfl ⟨by decide, by decide, by decide⟩ rfl (Nat.le_of_ble_eq_true rfl) dL_law_1516 ?_
  exact l_same hc dL_law_1519 (by decide) (kk A2 s2 t2 g2 h2 o1 o2 o3)
theorem lc_30 (hc : LC l γ ad1 ad2 b L xs) (hj : j + 6 < L) (hA : OK A) (hcc : CC s A) (hmm : MM t A) (kk : Nxt l γ ad1 ad2 b j) : LW l γ ad1 ad2 b 1524 (nI j) [] (s, rC g h) (t, rM) := by
  obtain ⟨r, s2, t2, g2, h2, A2, f1, f2, o1, o2, o3⟩ := call_operation (xs (j + 1)) (xs (j + 2)) (xs (j + 3)) (xs (j + 4)) (xs (j + 5)) (xs (j + 6)) A s t g h hA hcc hmm
  refine l_aload1 hc dL_law_1524 ?_
  refine l_arg (j := j) (k := 1) (n := 1) hc (by decide) rfl (by omega) dL_law_1525 dL_law_1526 dL_law_1527 dL_law_1528 dL_law_1529 ?_
  refine l_arg (j := j) (k := 2) (n := 2) hc (by decide) rfl (by omega) dL_law_1530 dL_law_1531 dL_law_1532 dL_law_1533 dL_law_1534 ?_
  refine l_arg (j := j) (k := 3) (n := 3) hc (by decide) rfl (by omega) dL_law_1535 dL_law_1536 dL_law_1537 dL_law_1538 dL_law_1539 ?_
  refine l_arg (j := j) (k := 4) (n := 4) hc (by decide) rfl (by omega) dL_law_1540 dL_law_1541 dL_law_1542 dL_law_1543 dL_law_1544 ?_
  refine l_arg (j := j) (k := 5) (n := 5) hc (by decide) rfl (by omega) dL_law_1545 dL_law_1546 dL_law_1547 dL_law_1548 dL_law_1549 ?_
  refine l_arg6 (j := j) (k := 6) (n := 6) hc (by decide) rfl (by omega) dL_law_1550 dL_law_1551 dL_law_1552 dL_law_1554 dL_law_1555 ?_
  refine l_callC hc (As := [.int (xs (j + 1)), .int (xs (j + 2)), .int (xs (j + 3)), .int (xs (j + 4)), .int (xs (j + 5)), .int (xs (j + 6))]) mv_X6_operation ml_L_143 (c_X6_operation f1) rfl rfl rfl ⟨by decide, by decide, by decide⟩ rfl (Nat.le_of_ble_eq_true rfl) dL_law_1556 ?_
  refine l_aload2 hc dL_law_1559 ?_
  refine l_arg (j := j) (k := 1) (n := 1) hc (by decide) rfl (by omega) dL_law_1560 dL_law_1561 dL_law_1562 dL_law_1563 dL_law_1564 ?_
  refine l_arg (j := j) (k := 2) (n := 2) hc (by decide) rfl (by omega) dL_law_1565 dL_law_1566 dL_law_1567 dL_law_1568 dL_law_1569 ?_
  refine l_arg (j := j) (k := 3) (n := 3) hc (by decide) rfl (by omega) dL_law_1570 dL_law_1571 dL_law_1572 dL_law_1573 dL_law_1574 ?_
  refine l_arg (j := j) (k := 4) (n := 4) hc (by decide) rfl (by omega) dL_law_1575 dL_law_1576 dL_law_1577 dL_law_1578 dL_law_1579 ?_
  refine l_arg (j := j) (k := 5) (n := 5) hc (by decide) rfl (by omega) dL_law_1580 dL_law_1581 dL_law_1582 dL_law_1583 dL_law_1584 ?_
  refine l_arg6 (j := j) (k := 6) (n := 6) hc (by decide) rfl (by omega) dL_law_1585 dL_law_1586 dL_law_1587 dL_law_1589 dL_law_1590 ?_
  refine l_callM hc (As := [.int (xs (j + 1)), .int (xs (j + 2)), .int (xs (j + 3)), .int (xs (j + 4)), .int (xs (j + 5)), .int (xs (j + 6))]) mv_X7_operation ml_L_147 (c_X7_operation f2) rfl rfl rfl ⟨by decide, by decide, by decide⟩ rfl (Nat.le_of_ble_eq_true rfl) dL_law_1591 ?_
  exact l_same hc dL_law_1594 (by decide) (kk A2 s2 t2 g2 h2 o1 o2 o3)
theorem lc_31 (hc : LC l γ ad1 ad2 b L xs) (hj : j + 6 < L) (hA : OK A) (hcc : CC s A) (hmm : MM t A) (kk : Nxt l γ ad1 ad2 b j) : LW l γ ad1 ad2 b 1599 (nI j) [] (s, rC g h) (t, rM) := by
  obtain ⟨r, s2, t2, g2, h2, A2, f1, f2, o1, o2, o3⟩ := call_duality (xs (j + 1)) (xs (j + 2)) (xs (j + 3)) (!decide (xs (j + 4) = 0)) A s t g h hA hcc hmm
  refine l_aload1 hc dL_law_1599 ?_
  refine l_arg (j := j) (k := 1) (n := 1) hc (by decide) rfl (by omega) dL_law_1600 dL_law_1601 dL_law_1602 dL_law_1603 dL_law_1604 ?_
  refine l_arg (j := j) (k := 2) (n := 2) hc (by decide) rfl (by omega) dL_law_1605 dL_law_1606 dL_law_1607 dL_law_1608 dL_law_1609 ?_
  refine l_arg (j := j) (k := 3) (n := 3) hc (by decide) rfl (by omega) dL_law_1610 dL_law_1611 dL_law_1612 dL_law_1613 dL_law_1614 ?_
  refine l_arg (j := j) (k := 4) (n := 4) hc (by decide) rfl (by omega) dL_law_1615 dL_law_1616 dL_law_1617 dL_law_1618 dL_law_1619 ?_
  refine l_bool hc dL_law_1620 dL_law_1623 dL_law_1624 dL_law_1627 ?_
  refine l_callC hc (As := [.int (xs (j + 1)), .int (xs (j + 2)), .int (xs (j + 3)), .int (bI (!decide (xs (j + 4) = 0)))]) mv_X6_duality ml_L_148 (c_X6_duality f1) rfl rfl rfl ⟨by decide, by decide, by decide⟩ rfl (Nat.le_of_ble_eq_true rfl) dL_law_1628 ?_
  refine l_aload2 hc dL_law_1631 ?_
  refine l_arg (j := j) (k := 1) (n := 1) hc (by decide) rfl (by omega) dL_law_1632 dL_law_1633 dL_law_1634 dL_law_1635 dL_law_1636 ?_
  refine l_arg (j := j) (k := 2) (n := 2) hc (by decide) rfl (by omega) dL_law_1637 dL_law_1638 dL_law_1639 dL_law_1640 dL_law_1641 ?_
  refine l_arg (j := j) (k := 3) (n := 3) hc (by decide) rfl (by omega) dL_law_1642 dL_law_1643 dL_law_1644 dL_law_1645 dL_law_1646 ?_
  refine l_arg (j := j) (k := 4) (n := 4) hc (by decide) rfl (by omega) dL_law_1647 dL_law_1648 dL_law_1649 dL_law_1650 dL_law_1651 ?_
  refine l_bool hc dL_law_1652 dL_law_1655 dL_law_1656 dL_law_1659 ?_
  refine l_callM hc (As := [.int (xs (j + 1)), .int (xs (j + 2)), .int (xs (j + 3)), .int (bI (!decide (xs (j + 4) = 0)))]) mv_X7_duality ml_L_152 (c_X7_duality f2) rfl rfl rfl ⟨by decide, by decide, by decide⟩ rfl (Nat.le_of_ble_eq_true rfl) dL_law_1660 ?_
  exact l_same hc dL_law_1663 (by decide) (kk A2 s2 t2 g2 h2 o1 o2 o3)
theorem lc_32 (hc : LC l γ ad1 ad2 b L xs) (hj : j + 6 < L) (hA : OK A) (hcc : CC s A) (hmm : MM t A) (kk : Nxt l γ ad1 ad2 b j) : LW l γ ad1 ad2 b 1668 (nI j) [] (s, rC g h) (t, rM) := by
  obtain ⟨r, s2, t2, g2, h2, A2, f1, f2, o1, o2, o3⟩ := call_colours (xs (j + 1)) (xs (j + 2)) A s t g h hA hcc hmm
  refine l_aload1 hc dL_law_1668 ?_
  refine l_arg (j := j) (k := 1) (n := 1) hc (by decide) rfl (by omega) dL_law_1669 dL_law_1670 dL_law_1671 dL_law_1672 dL_law_1673 ?_
  refine l_arg (j := j) (k := 2) (n := 2) hc (by decide) rfl (by omega) dL_law_1674 dL_law_1675 dL_law_1676 dL_law_1677 dL_law_1678 ?_
  refine l_callC hc (As := [.int (xs (j + 1)), .int (xs (j + 2))]) mv_X6_colours ml_L_153 (c_X6_colours f1) rfl rfl rfl ⟨by decide, by decide, by decide⟩ rfl (Nat.le_of_ble_eq_true rfl) dL_law_1679 ?_
  refine l_aload2 hc dL_law_1682 ?_
  refine l_arg (j := j) (k := 1) (n := 1) hc (by decide) rfl (by omega) dL_law_1683 dL_law_1684 dL_law_1685 dL_law_1686 dL_law_1687 ?_
  refine l_arg (j := j) (k := 2) (n := 2) hc (by decide) rfl (by omega) dL_law_1688 dL_law_1689 dL_law_1690 dL_law_1691 dL_law_1692 ?_
  refine l_callM hc (As := [.int (xs (j + 1)), .int (xs (j + 2))]) mv_X7_colours ml_L_156 (c_X7_colours f2) rfl rfl rfl ⟨by decide, by decide, by decide⟩ rfl (Nat.le_of_ble_eq_true rfl) dL_law_1693 ?_
  exact l_same hc dL_law_1696 (by decide) (kk A2 s2 t2 g2 h2 o1 o2 o3)
theorem lc_33 (hc : LC l γ ad1 ad2 b L xs) (hj : j + 6 < L) (hA : OK A) (hcc : CC s A) (hmm : MM t A) (kk : Nxt l γ ad1 ad2 b j) : LW l γ ad1 ad2 b 1701 (nI j) [] (s, rC g h) (t, rM) := by
  obtain ⟨r, s2, t2, g2, h2, A2, f1, f2, o1, o2, o3⟩ := call_levels (xs (j + 1)) A s t g h hA hcc hmm
  refine l_aload1 hc dL_law_1701 ?_
  refine l_arg (j := j) (k := 1) (n := 1) hc (by decide) rfl (by omega) dL_law_1702 dL_law_1703 dL_law_1704 dL_law_1705 dL_law_1706 ?_
  refine l_callC hc (As := [.int (xs (j + 1))]) mv_X6_levels ml_L_157 (c_X6_levels f1) rfl rfl rfl ⟨by decide, by decide, by decide⟩ rfl (Nat.le_of_ble_eq_true rfl) dL_law_1707 ?_
  refine l_aload2 hc dL_law_1710 ?_
  refine l_arg (j := j) (k := 1) (n := 1) hc (by decide) rfl (by omega) dL_law_1711 dL_law_1712 dL_law_1713 dL_law_1714 dL_law_1715 ?_
  refine l_callM hc (As := [.int (xs (j + 1))]) mv_X7_levels ml_L_160 (c_X7_levels f2) rfl rfl rfl ⟨by decide, by decide, by decide⟩ rfl (Nat.le_of_ble_eq_true rfl) dL_law_1716 ?_
  exact l_same hc dL_law_1719 (by decide) (kk A2 s2 t2 g2 h2 o1 o2 o3)
theorem lc_34 (hc : LC l γ ad1 ad2 b L xs) (hj : j + 6 < L) (hA : OK A) (hcc : CC s A) (hmm : MM t A) (kk : Nxt l γ ad1 ad2 b j) : LW l γ ad1 ad2 b 1724 (nI j) [] (s, rC g h) (t, rM) := by
  obtain ⟨r, s2, t2, g2, h2, A2, f1, f2, o1, o2, o3⟩ := call_folded (xs (j + 1)) (xs (j + 2)) A s t g h hA hcc hmm
  refine l_aload1 hc dL_law_1724 ?_
  refine l_arg (j := j) (k := 1) (n := 1) hc (by decide) rfl (by omega) dL_law_1725 dL_law_1726 dL_law_1727 dL_law_1728 dL_law_1729 ?_
  refine l_arg (j := j) (k := 2) (n := 2) hc (by decide) rfl (by omega) dL_law_1730 dL_law_1731 dL_law_1732 dL_law_1733 dL_law_1734 ?_
  refine l_callC hc (As := [.int (xs (j + 1)), .int (xs (j + 2))]) mv_X6_folded ml_L_161 (c_X6_folded f1) rfl rfl rfl ⟨by decide, by decide, by decide⟩ rfl (Nat.le_of_ble_eq_true rfl) dL_law_1735 ?_
  refine l_aload2 hc dL_law_1738 ?_
  refine l_arg (j := j) (k := 1) (n := 1) hc (by decide) rfl (by omega) dL_law_1739 dL_law_1740 dL_law_1741 dL_law_1742 dL_law_1743 ?_
  refine l_arg (j := j) (k := 2) (n := 2) hc (by decide) rfl (by omega) dL_law_1744 dL_law_1745 dL_law_1746 dL_law_1747 dL_law_1748 ?_
  refine l_callM hc (As := [.int (xs (j + 1)), .int (xs (j + 2))]) mv_X7_folded ml_L_164 (c_X7_folded f2) rfl rfl rfl ⟨by decide, by decide, by decide⟩ rfl (Nat.le_of_ble_eq_true rfl) dL_law_1749 ?_
  exact l_same hc dL_law_1752 (by decide) (kk A2 s2 t2 g2 h2 o1 o2 o3)
theorem lc_35 (hc : LC l γ ad1 ad2 b L xs) (hj : j + 6 < L) (hA : OK A) (hcc : CC s A) (hmm : MM t A) (kk : Nxt l γ ad1 ad2 b j) : LW l γ ad1 ad2 b 1757 (nI j) [] (s, rC g h) (t, rM) := by
  obtain ⟨r, s2, t2, g2, h2, A2, f1, f2, o1, o2, o3⟩ := call_orbit (xs (j + 1)) (xs (j + 2)) A s t g h hA hcc hmm
  refine l_aload1 hc dL_law_1757 ?_
  refine l_arg (j := j) (k := 1) (n := 1) hc (by decide) rfl (by omega) dL_law_1758 dL_law_1759 dL_law_1760 dL_law_1761 dL_law_1762 ?_
  refine l_arg (j := j) (k := 2) (n := 2) hc (by decide) rfl (by omega) dL_law_1763 dL_law_1764 dL_law_1765 dL_law_1766 dL_law_1767 ?_
  refine l_callC hc (As := [.int (xs (j + 1)), .int (xs (j + 2))]) mv_X6_orbit ml_L_165 (c_X6_orbit f1) rfl rfl rfl ⟨by decide, by decide, by decide⟩ rfl (Nat.le_of_ble_eq_true rfl) dL_law_1768 ?_
  refine l_aload2 hc dL_law_1771 ?_
  refine l_arg (j := j) (k := 1) (n := 1) hc (by decide) rfl (by omega) dL_law_1772 dL_law_1773 dL_law_1774 dL_law_1775 dL_law_1776 ?_
  refine l_arg (j := j) (k := 2) (n := 2) hc (by decide) rfl (by omega) dL_law_1777 dL_law_1778 dL_law_1779 dL_law_1780 dL_law_1781 ?_
  refine l_callM hc (As := [.int (xs (j + 1)), .int (xs (j + 2))]) mv_X7_orbit ml_L_168 (c_X7_orbit f2) rfl rfl rfl ⟨by decide, by decide, by decide⟩ rfl (Nat.le_of_ble_eq_true rfl) dL_law_1782 ?_
  exact l_same hc dL_law_1785 (by decide) (kk A2 s2 t2 g2 h2 o1 o2 o3)
theorem lc_36 (hc : LC l γ ad1 ad2 b L xs) (hj : j + 6 < L) (hA : OK A) (hcc : CC s A) (hmm : MM t A) (kk : Nxt l γ ad1 ad2 b j) : LW l γ ad1 ad2 b 1790 (nI j) [] (s, rC g h) (t, rM) := by
  obtain ⟨r, s2, t2, g2, h2, A2, f1, f2, o1, o2, o3⟩ := call_between (xs (j + 1)) (xs (j + 2)) (xs (j + 3)) (!decide (xs (j + 4) = 0)) A s t g h hA hcc hmm
  refine l_aload1 hc dL_law_1790 ?_
  refine l_arg (j := j) (k := 1) (n := 1) hc (by decide) rfl (by omega) dL_law_1791 dL_law_1792 dL_law_1793 dL_law_1794 dL_law_1795 ?_
  refine l_arg (j := j) (k := 2) (n := 2) hc (by decide) rfl (by omega) dL_law_1796 dL_law_1797 dL_law_1798 dL_law_1799 dL_law_1800 ?_
  refine l_arg (j := j) (k := 3) (n := 3) hc (by decide) rfl (by omega) dL_law_1801 dL_law_1802 dL_law_1803 dL_law_1804 dL_law_1805 ?_
  refine l_arg (j := j) (k := 4) (n := 4) hc (by decide) rfl (by omega) dL_law_1806 dL_law_1807 dL_law_1808 dL_law_1809 dL_law_1810 ?_
  refine l_bool hc dL_law_1811 dL_law_1814 dL_law_1815 dL_law_1818 ?_
  refine l_callC hc (As := [.int (xs (j + 1)), .int (xs (j + 2)), .int (xs (j + 3)), .int (bI (!decide (xs (j + 4) = 0)))]) mv_X6_between ml_L_169 (c_X6_between f1) rfl rfl rfl ⟨by decide, by decide, by decide⟩ rfl (Nat.le_of_ble_eq_true rfl) dL_law_1819 ?_
  refine l_aload2 hc dL_law_1822 ?_
  refine l_arg (j := j) (k := 1) (n := 1) hc (by decide) rfl (by omega) dL_law_1823 dL_law_1824 dL_law_1825 dL_law_1826 dL_law_1827 ?_
  refine l_arg (j := j) (k := 2) (n := 2) hc (by decide) rfl (by omega) dL_law_1828 dL_law_1829 dL_law_1830 dL_law_1831 dL_law_1832 ?_
  refine l_arg (j := j) (k := 3) (n := 3) hc (by decide) rfl (by omega) dL_law_1833 dL_law_1834 dL_law_1835 dL_law_1836 dL_law_1837 ?_
  refine l_arg (j := j) (k := 4) (n := 4) hc (by decide) rfl (by omega) dL_law_1838 dL_law_1839 dL_law_1840 dL_law_1841 dL_law_1842 ?_
  refine l_bool hc dL_law_1843 dL_law_1846 dL_law_1847 dL_law_1850 ?_
  refine l_callM hc (As := [.int (xs (j + 1)), .int (xs (j + 2)), .int (xs (j + 3)), .int (bI (!decide (xs (j + 4) = 0)))]) mv_X7_between ml_L_172 (c_X7_between f2) rfl rfl rfl ⟨by decide, by decide, by decide⟩ rfl (Nat.le_of_ble_eq_true rfl) dL_law_1851 ?_
  exact l_same hc dL_law_1854 (by decide) (kk A2 s2 t2 g2 h2 o1 o2 o3)
theorem lc_37 (hc : LC l γ ad1 ad2 b L xs) (hj : j + 6 < L) (hA : OK A) (hcc : CC s A) (hmm : MM t A) (kk : Nxt l γ ad1 ad2 b j) : LW l γ ad1 ad2 b 1859 (nI j) [] (s, rC g h) (t, rM) := by
  obtain ⟨r, s2, t2, g2, h2, A2, f1, f2, o1, o2, o3⟩ := call_unlike (xs (j + 1)) (xs (j + 2)) (xs (j + 3)) (!decide (xs (j + 4) = 0)) A s t g h hA hcc hmm
  refine l_aload1 hc dL_law_1859 ?_
  refine l_arg (j := j) (k := 1) (n := 1) hc (by decide) rfl (by omega) dL_law_1860 dL_law_1861 dL_law_1862 dL_law_1863 dL_law_1864 ?_
  refine l_arg (j := j) (k := 2) (n := 2) hc (by decide) rfl (by omega) dL_law_1865 dL_law_1866 dL_law_1867 dL_law_1868 dL_law_1869 ?_
  refine l_arg (j := j) (k := 3) (n := 3) hc (by decide) rfl (by omega) dL_law_1870 dL_law_1871 dL_law_1872 dL_law_1873 dL_law_1874 ?_
  refine l_arg (j := j) (k := 4) (n := 4) hc (by decide) rfl (by omega) dL_law_1875 dL_law_1876 dL_law_1877 dL_law_1878 dL_law_1879 ?_
  refine l_bool hc dL_law_1880 dL_law_1883 dL_law_1884 dL_law_1887 ?_
  refine l_callC hc (As := [.int (xs (j + 1)), .int (xs (j + 2)), .int (xs (j + 3)), .int (bI (!decide (xs (j + 4) = 0)))]) mv_X6_unlike ml_L_173 (c_X6_unlike f1) rfl rfl rfl ⟨by decide, by decide, by decide⟩ rfl (Nat.le_of_ble_eq_true rfl) dL_law_1888 ?_
  refine l_aload2 hc dL_law_1891 ?_
  refine l_arg (j := j) (k := 1) (n := 1) hc (by decide) rfl (by omega) dL_law_1892 dL_law_1893 dL_law_1894 dL_law_1895 dL_law_1896 ?_
  refine l_arg (j := j) (k := 2) (n := 2) hc (by decide) rfl (by omega) dL_law_1897 dL_law_1898 dL_law_1899 dL_law_1900 dL_law_1901 ?_
  refine l_arg (j := j) (k := 3) (n := 3) hc (by decide) rfl (by omega) dL_law_1902 dL_law_1903 dL_law_1904 dL_law_1905 dL_law_1906 ?_
  refine l_arg (j := j) (k := 4) (n := 4) hc (by decide) rfl (by omega) dL_law_1907 dL_law_1908 dL_law_1909 dL_law_1910 dL_law_1911 ?_
  refine l_bool hc dL_law_1912 dL_law_1915 dL_law_1916 dL_law_1919 ?_
  refine l_callM hc (As := [.int (xs (j + 1)), .int (xs (j + 2)), .int (xs (j + 3)), .int (bI (!decide (xs (j + 4) = 0)))]) mv_X7_unlike ml_L_176 (c_X7_unlike f2) rfl rfl rfl ⟨by decide, by decide, by decide⟩ rfl (Nat.le_of_ble_eq_true rfl) dL_law_1920 ?_
  exact l_same hc dL_law_1923 (by decide) (kk A2 s2 t2 g2 h2 o1 o2 o3)
theorem lc_38 (hc : LC l γ ad1 ad2 b L xs) (hj : j + 6 < L) (hA : OK A) (hcc : CC s A) (hmm : MM t A) (kk : Nxt l γ ad1 ad2 b j) : LW l γ ad1 ad2 b 1928 (nI j) [] (s, rC g h) (t, rM) := by
  obtain ⟨r, s2, t2, g2, h2, A2, f1, f2, o1, o2, o3⟩ := call_ways (xs (j + 1)) (xs (j + 2)) (xs (j + 3)) (xs (j + 4)) A s t g h hA hcc hmm
  refine l_aload1 hc dL_law_1928 ?_
  refine l_arg (j := j) (k := 1) (n := 1) hc (by decide) rfl (by omega) dL_law_1929 dL_law_1930 dL_law_1931 dL_law_1932 dL_law_1933 ?_
  refine l_arg (j := j) (k := 2) (n := 2) hc (by decide) rfl (by omega) dL_law_1934 dL_law_1935 dL_law_1936 dL_law_1937 dL_law_1938 ?_
  refine l_arg (j := j) (k := 3) (n := 3) hc (by decide) rfl (by omega) dL_law_1939 dL_law_1940 dL_law_1941 dL_law_1942 dL_law_1943 ?_
  refine l_arg (j := j) (k := 4) (n := 4) hc (by decide) rfl (by omega) dL_law_1944 dL_law_1945 dL_law_1946 dL_law_1947 dL_law_1948 ?_
  refine l_callC hc (As := [.int (xs (j + 1)), .int (xs (j + 2)), .int (xs (j + 3)), .int (xs (j + 4))]) mv_X6_ways ml_L_177 (c_X6_ways f1) rfl rfl rfl ⟨by decide, by decide, by decide⟩ rfl (Nat.le_of_ble_eq_true rfl) dL_law_1949 ?_
  refine l_aload2 hc dL_law_1952 ?_
  refine l_arg (j := j) (k := 1) (n := 1) hc (by decide) rfl (by omega) dL_law_1953 dL_law_1954 dL_law_1955 dL_law_1956 dL_law_1957 ?_
  refine l_arg (j := j) (k := 2) (n := 2) hc (by decide) rfl (by omega) dL_law_1958 dL_law_1959 dL_law_1960 dL_law_1961 dL_law_1962 ?_
  refine l_arg (j := j) (k := 3) (n := 3) hc (by decide) rfl (by omega) dL_law_1963 dL_law_1964 dL_law_1965 dL_law_1966 dL_law_1967 ?_
  refine l_arg (j := j) (k := 4) (n := 4) hc (by decide) rfl (by omega) dL_law_1968 dL_law_1969 dL_law_1970 dL_law_1971 dL_law_1972 ?_
  refine l_callM hc (As := [.int (xs (j + 1)), .int (xs (j + 2)), .int (xs (j + 3)), .int (xs (j + 4))]) mv_X7_ways ml_L_180 (c_X7_ways f2) rfl rfl rfl ⟨by decide, by decide, by decide⟩ rfl (Nat.le_of_ble_eq_true rfl) dL_law_1973 ?_
  exact l_same hc dL_law_1976 (by decide) (kk A2 s2 t2 g2 h2 o1 o2 o3)
theorem lc_39 (hc : LC l γ ad1 ad2 b L xs) (hj : j + 6 < L) (hA : OK A) (hcc : CC s A) (hmm : MM t A) (kk : Nxt l γ ad1 ad2 b j) : LW l γ ad1 ad2 b 1981 (nI j) [] (s, rC g h) (t, rM) := by
  obtain ⟨r, s2, t2, g2, h2, A2, f1, f2, o1, o2, o3⟩ := call_letter (xs (j + 1)) (xs (j + 2)) A s t g h hA hcc hmm
  refine l_aload1 hc dL_law_1981 ?_
  refine l_arg (j := j) (k := 1) (n := 1) hc (by decide) rfl (by omega) dL_law_1982 dL_law_1983 dL_law_1984 dL_law_1985 dL_law_1986 ?_
  refine l_arg (j := j) (k := 2) (n := 2) hc (by decide) rfl (by omega) dL_law_1987 dL_law_1988 dL_law_1989 dL_law_1990 dL_law_1991 ?_
  refine l_callC hc (As := [.int (xs (j + 1)), .int (xs (j + 2))]) mv_X6_letter ml_L_181 (c_X6_letter f1) rfl rfl rfl ⟨by decide, by decide, by decide⟩ rfl (Nat.le_of_ble_eq_true rfl) dL_law_1992 ?_
  refine l_aload2 hc dL_law_1995 ?_
  refine l_arg (j := j) (k := 1) (n := 1) hc (by decide) rfl (by omega) dL_law_1996 dL_law_1997 dL_law_1998 dL_law_1999 dL_law_2000 ?_
  refine l_arg (j := j) (k := 2) (n := 2) hc (by decide) rfl (by omega) dL_law_2001 dL_law_2002 dL_law_2003 dL_law_2004 dL_law_2005 ?_
  refine l_callM hc (As := [.int (xs (j + 1)), .int (xs (j + 2))]) mv_X7_letter ml_L_184 (c_X7_letter f2) rfl rfl rfl ⟨by decide, by decide, by decide⟩ rfl (Nat.le_of_ble_eq_true rfl) dL_law_2006 ?_
  exact l_same hc dL_law_2009 (by decide) (kk A2 s2 t2 g2 h2 o1 o2 o3)
theorem lc_40 (hc : LC l γ ad1 ad2 b L xs) (hj : j + 6 < L) (hA : OK A) (hcc : CC s A) (hmm : MM t A) (kk : Nxt l γ ad1 ad2 b j) : LW l γ ad1 ad2 b 2014 (nI j) [] (s, rC g h) (t, rM) := by
  obtain ⟨r, s2, t2, g2, h2, A2, f1, f2, o1, o2, o3⟩ := call_count (xs (j + 1)) A s t g h hA hcc hmm
  refine l_aload1 hc dL_law_2014 ?_
  refine l_arg (j := j) (k := 1) (n := 1) hc (by decide) rfl (by omega) dL_law_2015 dL_law_2016 dL_law_2017 dL_law_2018 dL_law_2019 ?_
  refine l_callC hc (As := [.int (xs (j + 1))]) mv_X6_count ml_L_185 (c_X6_count f1) rfl rfl rfl ⟨by decide, by decide, by decide⟩ rfl (Nat.le_of_ble_eq_true rfl) dL_law_2020 ?_
  refine l_aload2 hc dL_law_2023 ?_
  refine l_arg (j := j) (k := 1) (n := 1) hc (by decide) rfl (by omega) dL_law_2024 dL_law_2025 dL_law_2026 dL_law_2027 dL_law_2028 ?_
  refine l_callM hc (As := [.int (xs (j + 1))]) mv_X7_count ml_L_188 (c_X7_count f2) rfl rfl rfl ⟨by decide, by decide, by decide⟩ rfl (Nat.le_of_ble_eq_true rfl) dL_law_2029 ?_
  exact l_same hc dL_law_2032 (by decide) (kk A2 s2 t2 g2 h2 o1 o2 o3)
theorem lc_41 (hc : LC l γ ad1 ad2 b L xs) (hj : j + 6 < L) (hA : OK A) (hcc : CC s A) (hmm : MM t A) (kk : Nxt l γ ad1 ad2 b j) : LW l γ ad1 ad2 b 2037 (nI j) [] (s, rC g h) (t, rM) := by
  obtain ⟨r, s2, t2, g2, h2, A2, f1, f2, o1, o2, o3⟩ := call_keep  A s t g h hA hcc hmm
  refine l_aload1 hc dL_law_2037 ?_
  refine l_callC hc (As := []) mv_X6_keep ml_L_189 (c_X6_keep f1) rfl rfl rfl ⟨by decide, by decide, by decide⟩ rfl (Nat.le_of_ble_eq_true rfl) dL_law_2038 ?_
  refine l_aload2 hc dL_law_2041 ?_
  refine l_callM hc (As := []) mv_X7_keep ml_L_192 (c_X7_keep f2) rfl rfl rfl ⟨by decide, by decide, by decide⟩ rfl (Nat.le_of_ble_eq_true rfl) dL_law_2042 ?_
  exact l_same hc dL_law_2045 (by decide) (kk A2 s2 t2 g2 h2 o1 o2 o3)
theorem lc_42 (hc : LC l γ ad1 ad2 b L xs) (hj : j + 6 < L) (hA : OK A) (hcc : CC s A) (hmm : MM t A) (kk : Nxt l γ ad1 ad2 b j) : LW l γ ad1 ad2 b 2050 (nI j) [] (s, rC g h) (t, rM) := by
  obtain ⟨r, s2, t2, g2, h2, A2, f1, f2, o1, o2, o3⟩ := call_undo  A s t g h hA hcc hmm
  refine l_aload1 hc dL_law_2050 ?_
  refine l_callC hc (As := []) mv_X6_undo ml_L_193 (c_X6_undo f1) rfl rfl rfl ⟨by decide, by decide, by decide⟩ rfl (Nat.le_of_ble_eq_true rfl) dL_law_2051 ?_
  refine l_aload2 hc dL_law_2054 ?_
  refine l_callM hc (As := []) mv_X7_undo ml_L_196 (c_X7_undo f2) rfl rfl rfl ⟨by decide, by decide, by decide⟩ rfl (Nat.le_of_ble_eq_true rfl) dL_law_2055 ?_
  exact l_same hc dL_law_2058 (by decide) (kk A2 s2 t2 g2 h2 o1 o2 o3)
end LCASES
