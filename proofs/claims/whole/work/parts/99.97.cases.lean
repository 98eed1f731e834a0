/-! the law's cases (by program, wip/gen2/law97.py) -/
section LC
variable {s0 : State} {a0 : Array Value} {D : va_G} {t : Nat → ClassId} {K : xKt} {L : Nat} {xs : Nat → Int32} {i : Nat} {a5 a6 : Option Value} {I : Nat → Nat → Int32} {J : Nat → Nat → Int64} {P : Nat → Nat → Nat}
theorem lc_0 (C : xC s0 a0 D t) (hK : xW K (xEx EWd false 30) false (some (L, xs)) yL_law cL_law) (hi : i + 6 ≤ L) (hL : L ≤ 3072) (hX : RX I P) (kk : ∀ (I2 : Nat → Nat → Int32) (J2 : Nat → Nat → Int64) (P2 : Nat → Nat → Nat), RX I2 P2 → K 1417 (lwl i a5 a6) [] (SH, I2, J2, P2)) : K 204 (lwl i a5 a6) [] (SH, I, J, P) := by
  obtain ⟨q, I1, J1, P1, I2, J2, h1, h2, h3⟩ := Cl.int C (feed_Cl (xs (i + 1)) (xs (i + 2)) (xs (i + 3)) (xs (i + 4)) (xs (i + 5))) (ty := .int) (fun z => by cases z) (by decide +kernel) (by decide +kernel) (J := J) hX
  refine g_aload_n hK dL_law_204 rfl ?_
  refine g_arg hK hi hL 1 dL_law_205 dL_law_206 dL_law_208 dL_law_209 dL_law_210 (by decide) (by decide) ?_
  refine g_arg hK hi hL 2 dL_law_211 dL_law_212 dL_law_214 dL_law_215 dL_law_216 (by decide) (by decide) ?_
  refine g_arg hK hi hL 3 dL_law_217 dL_law_218 dL_law_220 dL_law_221 dL_law_222 (by decide) (by decide) ?_
  refine g_arg hK hi hL 4 dL_law_223 dL_law_224 dL_law_226 dL_law_227 dL_law_228 (by decide) (by decide) ?_
  refine g_arg hK hi hL 5 dL_law_229 dL_law_230 dL_law_232 dL_law_233 dL_law_234 (by decide) (by decide) ?_
  refine g_cV5i hK dL_law_235 vlL_21 sh_0 (by simp [Value.category]) h1 rfl ?_
  refine g_aload_n hK dL_law_238 rfl ?_
  refine g_arg hK hi hL 1 dL_law_239 dL_law_240 dL_law_242 dL_law_243 dL_law_244 (by decide) (by decide) ?_
  refine g_arg hK hi hL 2 dL_law_245 dL_law_246 dL_law_248 dL_law_249 dL_law_250 (by decide) (by decide) ?_
  refine g_arg hK hi hL 3 dL_law_251 dL_law_252 dL_law_254 dL_law_255 dL_law_256 (by decide) (by decide) ?_
  refine g_arg hK hi hL 4 dL_law_257 dL_law_258 dL_law_260 dL_law_261 dL_law_262 (by decide) (by decide) ?_
  refine g_arg hK hi hL 5 dL_law_263 dL_law_264 dL_law_266 dL_law_267 dL_law_268 (by decide) (by decide) ?_
  refine g_cV5i hK dL_law_269 vlL_25 sh_347 (by simp [Value.category]) h2 rfl ?_
  exact g_ic_eq hK 1417 dL_law_272 (by decide) (fun _ => kk _ _ _ h3) (fun h => absurd rfl h)
theorem lc_1 (C : xC s0 a0 D t) (hK : xW K (xEx EWd false 30) false (some (L, xs)) yL_law cL_law) (hi : i + 6 ≤ L) (hL : L ≤ 3072) (hX : RX I P) (kk : ∀ (I2 : Nat → Nat → Int32) (J2 : Nat → Nat → Int64) (P2 : Nat → Nat → Nat), RX I2 P2 → K 1417 (lwl i a5 a6) [] (SH, I2, J2, P2)) : K 277 (lwl i a5 a6) [] (SH, I, J, P) := by
  obtain ⟨q, I1, J1, P1, I2, J2, h1, h2, h3⟩ := Cl.int C (text_Cl EWd_E (xs (i + 1))) (ty := .int) (fun z => by cases z) (by decide +kernel) (by decide +kernel) (J := J) hX
  refine g_aload_n hK dL_law_277 rfl ?_
  refine g_arg hK hi hL 1 dL_law_278 dL_law_279 dL_law_281 dL_law_282 dL_law_283 (by decide) (by decide) ?_
  refine g_cV1i hK dL_law_284 vlL_26 sh_0 (by simp [Value.category]) h1 rfl ?_
  refine g_aload_n hK dL_law_287 rfl ?_
  refine g_arg hK hi hL 1 dL_law_288 dL_law_289 dL_law_291 dL_law_292 dL_law_293 (by decide) (by decide) ?_
  refine g_cV1i hK dL_law_294 vlL_30 sh_347 (by simp [Value.category]) h2 rfl ?_
  exact g_ic_eq hK 1417 dL_law_297 (by decide) (fun _ => kk _ _ _ h3) (fun h => absurd rfl h)
theorem lc_2 (C : xC s0 a0 D t) (hK : xW K (xEx EWd false 30) false (some (L, xs)) yL_law cL_law) (hi : i + 6 ≤ L) (hL : L ≤ 3072) (hX : RX I P) (kk : ∀ (I2 : Nat → Nat → Int32) (J2 : Nat → Nat → Int64) (P2 : Nat → Nat → Nat), RX I2 P2 → K 1417 (lwl i a5 a6) [] (SH, I2, J2, P2)) : K 302 (lwl i a5 a6) [] (SH, I, J, P) := by
  obtain ⟨q, I1, J1, P1, I2, J2, h1, h2, h3⟩ := Cl.int C (fault_Cl (xs (i + 1))) (ty := .int) (fun z => by cases z) (by decide +kernel) (by decide +kernel) (J := J) hX
  refine g_aload_n hK dL_law_302 rfl ?_
  refine g_arg hK hi hL 1 dL_law_303 dL_law_304 dL_law_306 dL_law_307 dL_law_308 (by decide) (by decide) ?_
  refine g_cV1i hK dL_law_309 vlL_31 sh_0 (by simp [Value.category]) h1 rfl ?_
  refine g_aload_n hK dL_law_312 rfl ?_
  refine g_arg hK hi hL 1 dL_law_313 dL_law_314 dL_law_316 dL_law_317 dL_law_318 (by decide) (by decide) ?_
  refine g_cV1i hK dL_law_319 vlL_34 sh_347 (by simp [Value.category]) h2 rfl ?_
  exact g_ic_eq hK 1417 dL_law_322 (by decide) (fun _ => kk _ _ _ h3) (fun h => absurd rfl h)
theorem lc_3 (C : xC s0 a0 D t) (hK : xW K (xEx EWd false 30) false (some (L, xs)) yL_law cL_law) (hi : i + 6 ≤ L) (hL : L ≤ 3072) (hX : RX I P) (kk : ∀ (I2 : Nat → Nat → Int32) (J2 : Nat → Nat → Int64) (P2 : Nat → Nat → Nat), RX I2 P2 → K 1417 (lwl i a5 a6) [] (SH, I2, J2, P2)) : K 327 (lwl i a5 a6) [] (SH, I, J, P) := by
  obtain ⟨q, I1, J1, P1, I2, J2, h1, h2, h3⟩ := Cl.int C (named_Cl (xs (i + 1))) (ty := .int) (fun z => by cases z) (by decide +kernel) (by decide +kernel) (J := J) hX
  refine g_aload_n hK dL_law_327 rfl ?_
  refine g_arg hK hi hL 1 dL_law_328 dL_law_329 dL_law_331 dL_law_332 dL_law_333 (by decide) (by decide) ?_
  refine g_cV1i hK dL_law_334 vlL_35 sh_0 (by simp [Value.category]) h1 rfl ?_
  refine g_aload_n hK dL_law_337 rfl ?_
  refine g_arg hK hi hL 1 dL_law_338 dL_law_339 dL_law_341 dL_law_342 dL_law_343 (by decide) (by decide) ?_
  refine g_cV1i hK dL_law_344 vlL_38 sh_347 (by simp [Value.category]) h2 rfl ?_
  exact g_ic_eq hK 1417 dL_law_347 (by decide) (fun _ => kk _ _ _ h3) (fun h => absurd rfl h)
theorem lc_5 (C : xC s0 a0 D t) (hK : xW K (xEx EWd false 30) false (some (L, xs)) yL_law cL_law) (hi : i + 6 ≤ L) (hL : L ≤ 3072) (hX : RX I P) (kk : ∀ (I2 : Nat → Nat → Int32) (J2 : Nat → Nat → Int64) (P2 : Nat → Nat → Nat), RX I2 P2 → K 1417 (lwl i a5 a6) [] (SH, I2, J2, P2)) : K 420 (lwl i a5 a6) [] (SH, I, J, P) := by
  obtain ⟨q, I1, J1, P1, I2, J2, h1, h2, h3⟩ := Cl.int C (strand_Cl (xs (i + 1)) (xs (i + 2))) (ty := .int) (fun z => by cases z) (by decide +kernel) (by decide +kernel) (J := J) hX
  refine g_aload_n hK dL_law_420 rfl ?_
  refine g_arg hK hi hL 1 dL_law_421 dL_law_422 dL_law_424 dL_law_425 dL_law_426 (by decide) (by decide) ?_
  refine g_arg hK hi hL 2 dL_law_427 dL_law_428 dL_law_430 dL_law_431 dL_law_432 (by decide) (by decide) ?_
  refine g_cV2i hK dL_law_433 vlL_49 sh_0 (by simp [Value.category]) h1 rfl ?_
  refine g_aload_n hK dL_law_436 rfl ?_
  refine g_arg hK hi hL 1 dL_law_437 dL_law_438 dL_law_440 dL_law_441 dL_law_442 (by decide) (by decide) ?_
  refine g_arg hK hi hL 2 dL_law_443 dL_law_444 dL_law_446 dL_law_447 dL_law_448 (by decide) (by decide) ?_
  refine g_cV2i hK dL_law_449 vlL_52 sh_347 (by simp [Value.category]) h2 rfl ?_
  exact g_ic_eq hK 1417 dL_law_452 (by decide) (fun _ => kk _ _ _ h3) (fun h => absurd rfl h)
theorem lc_6 (C : xC s0 a0 D t) (hK : xW K (xEx EWd false 30) false (some (L, xs)) yL_law cL_law) (hi : i + 6 ≤ L) (hL : L ≤ 3072) (hX : RX I P) (kk : ∀ (I2 : Nat → Nat → Int32) (J2 : Nat → Nat → Int64) (P2 : Nat → Nat → Nat), RX I2 P2 → K 1417 (lwl i a5 a6) [] (SH, I2, J2, P2)) : K 457 (lwl i a5 a6) [] (SH, I, J, P) := by
  obtain ⟨q, I1, J1, P1, I2, J2, h1, h2, h3⟩ := Cl.int C (crossing_Cl (xs (i + 1)) (xs (i + 2))) (ty := .int) (fun z => by cases z) (by decide +kernel) (by decide +kernel) (J := J) hX
  refine g_aload_n hK dL_law_457 rfl ?_
  refine g_arg hK hi hL 1 dL_law_458 dL_law_459 dL_law_461 dL_law_462 dL_law_463 (by decide) (by decide) ?_
  refine g_arg hK hi hL 2 dL_law_464 dL_law_465 dL_law_467 dL_law_468 dL_law_469 (by decide) (by decide) ?_
  refine g_cV2i hK dL_law_470 vlL_53 sh_0 (by simp [Value.category]) h1 rfl ?_
  refine g_aload_n hK dL_law_473 rfl ?_
  refine g_arg hK hi hL 1 dL_law_474 dL_law_475 dL_law_477 dL_law_478 dL_law_479 (by decide) (by decide) ?_
  refine g_arg hK hi hL 2 dL_law_480 dL_law_481 dL_law_483 dL_law_484 dL_law_485 (by decide) (by decide) ?_
  refine g_cV2i hK dL_law_486 vlL_56 sh_347 (by simp [Value.category]) h2 rfl ?_
  exact g_ic_eq hK 1417 dL_law_489 (by decide) (fun _ => kk _ _ _ h3) (fun h => absurd rfl h)
theorem lc_7 (C : xC s0 a0 D t) (hK : xW K (xEx EWd false 30) false (some (L, xs)) yL_law cL_law) (hi : i + 6 ≤ L) (hL : L ≤ 3072) (hX : RX I P) (kk : ∀ (I2 : Nat → Nat → Int32) (J2 : Nat → Nat → Int64) (P2 : Nat → Nat → Nat), RX I2 P2 → K 1417 (lwl i a5 a6) [] (SH, I2, J2, P2)) : K 494 (lwl i a5 a6) [] (SH, I, J, P) := by
  obtain ⟨q, I1, J1, P1, I2, J2, h1, h2, h3⟩ := law_ClL (E := EWd) (ex := false) (xs (i + 1)) (xs (i + 2)) (J := J) hX
  refine g_aload_n hK dL_law_494 rfl ?_
  refine g_arg hK hi hL 1 dL_law_495 dL_law_496 dL_law_498 dL_law_499 dL_law_500 (by decide) (by decide) ?_
  refine g_arg hK hi hL 2 dL_law_501 dL_law_502 dL_law_504 dL_law_505 dL_law_506 (by decide) (by decide) ?_
  refine g_cV2l hK dL_law_507 vlL_57 sh_0 (by simp [Value.category]) h1 rfl ?_
  refine g_aload_n hK dL_law_510 rfl ?_
  refine g_arg hK hi hL 1 dL_law_511 dL_law_512 dL_law_514 dL_law_515 dL_law_516 (by decide) (by decide) ?_
  refine g_arg hK hi hL 2 dL_law_517 dL_law_518 dL_law_520 dL_law_521 dL_law_522 (by decide) (by decide) ?_
  refine g_cV2l hK dL_law_523 vlL_61 sh_347 (by simp [Value.category]) h2 rfl ?_
  refine g_lcmp hK dL_law_526 ?_
  exact g_if_eq hK 1417 dL_law_527 (by decide) (fun _ => kk _ _ _ h3) (fun h => absurd (lcmp_e q) h)
theorem lc_8 (C : xC s0 a0 D t) (hK : xW K (xEx EWd false 30) false (some (L, xs)) yL_law cL_law) (hi : i + 6 ≤ L) (hL : L ≤ 3072) (hX : RX I P) (kk : ∀ (I2 : Nat → Nat → Int32) (J2 : Nat → Nat → Int64) (P2 : Nat → Nat → Nat), RX I2 P2 → K 1417 (lwl i a5 a6) [] (SH, I2, J2, P2)) : K 532 (lwl i a5 a6) [] (SH, I, J, P) := by
  obtain ⟨q, I1, J1, P1, I2, J2, h1, h2, h3⟩ := Cl.int C (bears_Cl ) (ty := .int) (fun z => by cases z) (by decide +kernel) (by decide +kernel) (J := J) hX
  refine g_aload_n hK dL_law_532 rfl ?_
  refine g_cV0i hK dL_law_533 vlL_62 sh_0 (by simp [Value.category]) h1 rfl ?_
  refine g_aload_n hK dL_law_536 rfl ?_
  refine g_cV0i hK dL_law_537 vlL_65 sh_347 (by simp [Value.category]) h2 rfl ?_
  exact g_ic_eq hK 1417 dL_law_540 (by decide) (fun _ => kk _ _ _ h3) (fun h => absurd rfl h)
theorem lc_9 (C : xC s0 a0 D t) (hK : xW K (xEx EWd false 30) false (some (L, xs)) yL_law cL_law) (hi : i + 6 ≤ L) (hL : L ≤ 3072) (hX : RX I P) (kk : ∀ (I2 : Nat → Nat → Int32) (J2 : Nat → Nat → Int64) (P2 : Nat → Nat → Nat), RX I2 P2 → K 1417 (lwl i a5 a6) [] (SH, I2, J2, P2)) : K 545 (lwl i a5 a6) [] (SH, I, J, P) := by
  obtain ⟨q, I1, J1, P1, I2, J2, h1, h2, h3⟩ := Cl.int C (sag_Cl (xs (i + 1))) (ty := .int) (fun z => by cases z) (by decide +kernel) (by decide +kernel) (J := J) hX
  refine g_aload_n hK dL_law_545 rfl ?_
  refine g_arg hK hi hL 1 dL_law_546 dL_law_547 dL_law_549 dL_law_550 dL_law_551 (by decide) (by decide) ?_
  refine g_cV1i hK dL_law_552 vlL_66 sh_0 (by simp [Value.category]) h1 rfl ?_
  refine g_aload_n hK dL_law_555 rfl ?_
  refine g_arg hK hi hL 1 dL_law_556 dL_law_557 dL_law_559 dL_law_560 dL_law_561 (by decide) (by decide) ?_
  refine g_cV1i hK dL_law_562 vlL_69 sh_347 (by simp [Value.category]) h2 rfl ?_
  exact g_ic_eq hK 1417 dL_law_565 (by decide) (fun _ => kk _ _ _ h3) (fun h => absurd rfl h)
theorem lc_10 (C : xC s0 a0 D t) (hK : xW K (xEx EWd false 30) false (some (L, xs)) yL_law cL_law) (hi : i + 6 ≤ L) (hL : L ≤ 3072) (hX : RX I P) (kk : ∀ (I2 : Nat → Nat → Int32) (J2 : Nat → Nat → Int64) (P2 : Nat → Nat → Nat), RX I2 P2 → K 1417 (lwl i a5 a6) [] (SH, I2, J2, P2)) : K 570 (lwl i a5 a6) [] (SH, I, J, P) := by
  obtain ⟨q, I1, J1, P1, I2, J2, h1, h2, h3⟩ := Cl.int C (tie_Cl (xs (i + 1)) (xs (i + 2)) (xs (i + 3)) (xs (i + 4))) (ty := .int) (fun z => by cases z) (by decide +kernel) (by decide +kernel) (J := J) hX
  refine g_aload_n hK dL_law_570 rfl ?_
  refine g_arg hK hi hL 1 dL_law_571 dL_law_572 dL_law_574 dL_law_575 dL_law_576 (by decide) (by decide) ?_
  refine g_arg hK hi hL 2 dL_law_577 dL_law_578 dL_law_580 dL_law_581 dL_law_582 (by decide) (by decide) ?_
  refine g_arg hK hi hL 3 dL_law_583 dL_law_584 dL_law_586 dL_law_587 dL_law_588 (by decide) (by decide) ?_
  refine g_arg hK hi hL 4 dL_law_589 dL_law_590 dL_law_592 dL_law_593 dL_law_594 (by decide) (by decide) ?_
  refine g_cV4i hK dL_law_595 vlL_70 sh_0 (by simp [Value.category]) h1 rfl ?_
  refine g_aload_n hK dL_law_598 rfl ?_
  refine g_arg hK hi hL 1 dL_law_599 dL_law_600 dL_law_602 dL_law_603 dL_law_604 (by decide) (by decide) ?_
  refine g_arg hK hi hL 2 dL_law_605 dL_law_606 dL_law_608 dL_law_609 dL_law_610 (by decide) (by decide) ?_
  refine g_arg hK hi hL 3 dL_law_611 dL_law_612 dL_law_614 dL_law_615 dL_law_616 (by decide) (by decide) ?_
  refine g_arg hK hi hL 4 dL_law_617 dL_law_618 dL_law_620 dL_law_621 dL_law_622 (by decide) (by decide) ?_
  refine g_cV4i hK dL_law_623 vlL_74 sh_347 (by simp [Value.category]) h2 rfl ?_
  exact g_ic_eq hK 1417 dL_law_626 (by decide) (fun _ => kk _ _ _ h3) (fun h => absurd rfl h)
theorem lc_11 (C : xC s0 a0 D t) (hK : xW K (xEx EWd false 30) false (some (L, xs)) yL_law cL_law) (hi : i + 6 ≤ L) (hL : L ≤ 3072) (hX : RX I P) (kk : ∀ (I2 : Nat → Nat → Int32) (J2 : Nat → Nat → Int64) (P2 : Nat → Nat → Nat), RX I2 P2 → K 1417 (lwl i a5 a6) [] (SH, I2, J2, P2)) : K 631 (lwl i a5 a6) [] (SH, I, J, P) := by
  obtain ⟨q, I1, J1, P1, I2, J2, h1, h2, h3⟩ := Cl.int C (forgive_Cl (xs (i + 1))) (ty := .boolean) (fun z => by cases z) (by decide +kernel) (by decide +kernel) (J := J) hX
  refine g_aload_n hK dL_law_631 rfl ?_
  refine g_arg hK hi hL 1 dL_law_632 dL_law_633 dL_law_635 dL_law_636 dL_law_637 (by decide) (by decide) ?_
  refine g_cV1i hK dL_law_638 vlL_75 sh_0 (by simp [Value.category]) h1 rfl ?_
  refine g_aload_n hK dL_law_641 rfl ?_
  refine g_arg hK hi hL 1 dL_law_642 dL_law_643 dL_law_645 dL_law_646 dL_law_647 (by decide) (by decide) ?_
  refine g_cV1i hK dL_law_648 vlL_79 sh_347 (by simp [Value.category]) h2 rfl ?_
  exact g_ic_eq hK 1417 dL_law_651 (by decide) (fun _ => kk _ _ _ h3) (fun h => absurd rfl h)
theorem lc_12 (C : xC s0 a0 D t) (hK : xW K (xEx EWd false 30) false (some (L, xs)) yL_law cL_law) (hi : i + 6 ≤ L) (hL : L ≤ 3072) (hX : RX I P) (kk : ∀ (I2 : Nat → Nat → Int32) (J2 : Nat → Nat → Int64) (P2 : Nat → Nat → Nat), RX I2 P2 → K 1417 (lwl i a5 a6) [] (SH, I2, J2, P2)) : K 656 (lwl i a5 a6) [] (SH, I, J, P) := by
  obtain ⟨q, I1, J1, P1, I2, J2, h1, h2, h3⟩ := Cl.int C (pay_Cl (xs (i + 1))) (ty := .boolean) (fun z => by cases z) (by decide +kernel) (by decide +kernel) (J := J) hX
  refine g_aload_n hK dL_law_656 rfl ?_
  refine g_arg hK hi hL 1 dL_law_657 dL_law_658 dL_law_660 dL_law_661 dL_law_662 (by decide) (by decide) ?_
  refine g_cV1i hK dL_law_663 vlL_80 sh_0 (by simp [Value.category]) h1 rfl ?_
  refine g_aload_n hK dL_law_666 rfl ?_
  refine g_arg hK hi hL 1 dL_law_667 dL_law_668 dL_law_670 dL_law_671 dL_law_672 (by decide) (by decide) ?_
  refine g_cV1i hK dL_law_673 vlL_83 sh_347 (by simp [Value.category]) h2 rfl ?_
  exact g_ic_eq hK 1417 dL_law_676 (by decide) (fun _ => kk _ _ _ h3) (fun h => absurd rfl h)
theorem lc_13 (C : xC s0 a0 D t) (hK : xW K (xEx EWd false 30) false (some (L, xs)) yL_law cL_law) (hi : i + 6 ≤ L) (hL : L ≤ 3072) (hX : RX I P) (kk : ∀ (I2 : Nat → Nat → Int32) (J2 : Nat → Nat → Int64) (P2 : Nat → Nat → Nat), RX I2 P2 → K 1417 (lwl i a5 a6) [] (SH, I2, J2, P2)) : K 681 (lwl i a5 a6) [] (SH, I, J, P) := by
  obtain ⟨q, I1, J1, P1, I2, J2, h1, h2, h3⟩ := Cl.int C (twist_Cl (xs (i + 1)) (xs (i + 2))) (ty := .boolean) (fun z => by cases z) (by decide +kernel) (by decide +kernel) (J := J) hX
  refine g_aload_n hK dL_law_681 rfl ?_
  refine g_arg hK hi hL 1 dL_law_682 dL_law_683 dL_law_685 dL_law_686 dL_law_687 (by decide) (by decide) ?_
  refine g_arg hK hi hL 2 dL_law_688 dL_law_689 dL_law_691 dL_law_692 dL_law_693 (by decide) (by decide) ?_
  refine g_cV2i hK dL_law_694 vlL_84 sh_0 (by simp [Value.category]) h1 rfl ?_
  refine g_aload_n hK dL_law_697 rfl ?_
  refine g_arg hK hi hL 1 dL_law_698 dL_law_699 dL_law_701 dL_law_702 dL_law_703 (by decide) (by decide) ?_
  refine g_arg hK hi hL 2 dL_law_704 dL_law_705 dL_law_707 dL_law_708 dL_law_709 (by decide) (by decide) ?_
  refine g_cV2i hK dL_law_710 vlL_88 sh_347 (by simp [Value.category]) h2 rfl ?_
  exact g_ic_eq hK 1417 dL_law_713 (by decide) (fun _ => kk _ _ _ h3) (fun h => absurd rfl h)
theorem lc_14 (C : xC s0 a0 D t) (hK : xW K (xEx EWd false 30) false (some (L, xs)) yL_law cL_law) (hi : i + 6 ≤ L) (hL : L ≤ 3072) (hX : RX I P) (kk : ∀ (I2 : Nat → Nat → Int32) (J2 : Nat → Nat → Int64) (P2 : Nat → Nat → Nat), RX I2 P2 → K 1417 (lwl i a5 a6) [] (SH, I2, J2, P2)) : K 718 (lwl i a5 a6) [] (SH, I, J, P) := by
  obtain ⟨q, I1, J1, P1, I2, J2, h1, h2, h3⟩ := Cl.int C (cross_Cl (xs (i + 1)) (xs (i + 2))) (ty := .int) (fun z => by cases z) (by decide +kernel) (by decide +kernel) (J := J) hX
  refine g_aload_n hK dL_law_718 rfl ?_
  refine g_arg hK hi hL 1 dL_law_719 dL_law_720 dL_law_722 dL_law_723 dL_law_724 (by decide) (by decide) ?_
  refine g_arg hK hi hL 2 dL_law_725 dL_law_726 dL_law_728 dL_law_729 dL_law_730 (by decide) (by decide) ?_
  refine g_cV2i hK dL_law_731 vlL_89 sh_0 (by simp [Value.category]) h1 rfl ?_
  refine g_aload_n hK dL_law_734 rfl ?_
  refine g_arg hK hi hL 1 dL_law_735 dL_law_736 dL_law_738 dL_law_739 dL_law_740 (by decide) (by decide) ?_
  refine g_arg hK hi hL 2 dL_law_741 dL_law_742 dL_law_744 dL_law_745 dL_law_746 (by decide) (by decide) ?_
  refine g_cV2i hK dL_law_747 vlL_92 sh_347 (by simp [Value.category]) h2 rfl ?_
  exact g_ic_eq hK 1417 dL_law_750 (by decide) (fun _ => kk _ _ _ h3) (fun h => absurd rfl h)
theorem lc_15 (C : xC s0 a0 D t) (hK : xW K (xEx EWd false 30) false (some (L, xs)) yL_law cL_law) (hi : i + 6 ≤ L) (hL : L ≤ 3072) (hX : RX I P) (kk : ∀ (I2 : Nat → Nat → Int32) (J2 : Nat → Nat → Int64) (P2 : Nat → Nat → Nat), RX I2 P2 → K 1417 (lwl i a5 a6) [] (SH, I2, J2, P2)) : K 755 (lwl i a5 a6) [] (SH, I, J, P) := by
  obtain ⟨q, I1, J1, P1, I2, J2, h1, h2, h3⟩ := Cl.int C (years_Cl (xs (i + 1))) (ty := .int) (fun z => by cases z) (by decide +kernel) (by decide +kernel) (J := J) hX
  refine g_aload_n hK dL_law_755 rfl ?_
  refine g_arg hK hi hL 1 dL_law_756 dL_law_757 dL_law_759 dL_law_760 dL_law_761 (by decide) (by decide) ?_
  refine g_cV1i hK dL_law_762 vlL_93 sh_0 (by simp [Value.category]) h1 rfl ?_
  refine g_aload_n hK dL_law_765 rfl ?_
  refine g_arg hK hi hL 1 dL_law_766 dL_law_767 dL_law_769 dL_law_770 dL_law_771 (by decide) (by decide) ?_
  refine g_cV1i hK dL_law_772 vlL_96 sh_347 (by simp [Value.category]) h2 rfl ?_
  exact g_ic_eq hK 1417 dL_law_775 (by decide) (fun _ => kk _ _ _ h3) (fun h => absurd rfl h)
theorem lc_16 (C : xC s0 a0 D t) (hK : xW K (xEx EWd false 30) false (some (L, xs)) yL_law cL_law) (hi : i + 6 ≤ L) (hL : L ≤ 3072) (hX : RX I P) (kk : ∀ (I2 : Nat → Nat → Int32) (J2 : Nat → Nat → Int64) (P2 : Nat → Nat → Nat), RX I2 P2 → K 1417 (lwl i a5 a6) [] (SH, I2, J2, P2)) : K 780 (lwl i a5 a6) [] (SH, I, J, P) := by
  obtain ⟨q, I1, J1, P1, I2, J2, h1, h2, h3⟩ := Cl.int C (order_Cl (xs (i + 1)) (xs (i + 2)) (xs (i + 3))) (ty := .int) (fun z => by cases z) (by decide +kernel) (by decide +kernel) (J := J) hX
  refine g_aload_n hK dL_law_780 rfl ?_
  refine g_arg hK hi hL 1 dL_law_781 dL_law_782 dL_law_784 dL_law_785 dL_law_786 (by decide) (by decide) ?_
  refine g_arg hK hi hL 2 dL_law_787 dL_law_788 dL_law_790 dL_law_791 dL_law_792 (by decide) (by decide) ?_
  refine g_arg hK hi hL 3 dL_law_793 dL_law_794 dL_law_796 dL_law_797 dL_law_798 (by decide) (by decide) ?_
  refine g_cV3i hK dL_law_799 vlL_97 sh_0 (by simp [Value.category]) h1 rfl ?_
  refine g_aload_n hK dL_law_802 rfl ?_
  refine g_arg hK hi hL 1 dL_law_803 dL_law_804 dL_law_806 dL_law_807 dL_law_808 (by decide) (by decide) ?_
  refine g_arg hK hi hL 2 dL_law_809 dL_law_810 dL_law_812 dL_law_813 dL_law_814 (by decide) (by decide) ?_
  refine g_arg hK hi hL 3 dL_law_815 dL_law_816 dL_law_818 dL_law_819 dL_law_820 (by decide) (by decide) ?_
  refine g_cV3i hK dL_law_821 vlL_101 sh_347 (by simp [Value.category]) h2 rfl ?_
  exact g_ic_eq hK 1417 dL_law_824 (by decide) (fun _ => kk _ _ _ h3) (fun h => absurd rfl h)
theorem lc_17 (C : xC s0 a0 D t) (hK : xW K (xEx EWd false 30) false (some (L, xs)) yL_law cL_law) (hi : i + 6 ≤ L) (hL : L ≤ 3072) (hX : RX I P) (kk : ∀ (I2 : Nat → Nat → Int32) (J2 : Nat → Nat → Int64) (P2 : Nat → Nat → Nat), RX I2 P2 → K 1417 (lwl i a5 a6) [] (SH, I2, J2, P2)) : K 829 (lwl i a5 a6) [] (SH, I, J, P) := by
  obtain ⟨q, I1, J1, P1, I2, J2, h1, h2, h3⟩ := Cl.int C (drop_Cl (xs (i + 1))) (ty := .int) (fun z => by cases z) (by decide +kernel) (by decide +kernel) (J := J) hX
  refine g_aload_n hK dL_law_829 rfl ?_
  refine g_arg hK hi hL 1 dL_law_830 dL_law_831 dL_law_833 dL_law_834 dL_law_835 (by decide) (by decide) ?_
  refine g_cV1i hK dL_law_836 vlL_102 sh_0 (by simp [Value.category]) h1 rfl ?_
  refine g_aload_n hK dL_law_839 rfl ?_
  refine g_arg hK hi hL 1 dL_law_840 dL_law_841 dL_law_843 dL_law_844 dL_law_845 (by decide) (by decide) ?_
  refine g_cV1i hK dL_law_846 vlL_105 sh_347 (by simp [Value.category]) h2 rfl ?_
  exact g_ic_eq hK 1417 dL_law_849 (by decide) (fun _ => kk _ _ _ h3) (fun h => absurd rfl h)
theorem lc_18 (C : xC s0 a0 D t) (hK : xW K (xEx EWd false 30) false (some (L, xs)) yL_law cL_law) (hi : i + 6 ≤ L) (hL : L ≤ 3072) (hX : RX I P) (kk : ∀ (I2 : Nat → Nat → Int32) (J2 : Nat → Nat → Int64) (P2 : Nat → Nat → Nat), RX I2 P2 → K 1417 (lwl i a5 a6) [] (SH, I2, J2, P2)) : K 854 (lwl i a5 a6) [] (SH, I, J, P) := by
  obtain ⟨q, I1, J1, P1, I2, J2, h1, h2, h3⟩ := Cl.int C (loan_Cl (xs (i + 1))) (ty := .int) (fun z => by cases z) (by decide +kernel) (by decide +kernel) (J := J) hX
  refine g_aload_n hK dL_law_854 rfl ?_
  refine g_arg hK hi hL 1 dL_law_855 dL_law_856 dL_law_858 dL_law_859 dL_law_860 (by decide) (by decide) ?_
  refine g_cV1i hK dL_law_861 vlL_106 sh_0 (by simp [Value.category]) h1 rfl ?_
  refine g_aload_n hK dL_law_864 rfl ?_
  refine g_arg hK hi hL 1 dL_law_865 dL_law_866 dL_law_868 dL_law_869 dL_law_870 (by decide) (by decide) ?_
  refine g_cV1i hK dL_law_871 vlL_109 sh_347 (by simp [Value.category]) h2 rfl ?_
  exact g_ic_eq hK 1417 dL_law_874 (by decide) (fun _ => kk _ _ _ h3) (fun h => absurd rfl h)
theorem lc_19 (C : xC s0 a0 D t) (hK : xW K (xEx EWd false 30) false (some (L, xs)) yL_law cL_law) (hi : i + 6 ≤ L) (hL : L ≤ 3072) (hX : RX I P) (kk : ∀ (I2 : Nat → Nat → Int32) (J2 : Nat → Nat → Int64) (P2 : Nat → Nat → Nat), RX I2 P2 → K 1417 (lwl i a5 a6) [] (SH, I2, J2, P2)) : K 879 (lwl i a5 a6) [] (SH, I, J, P) := by
  obtain ⟨q, I1, J1, P1, I2, J2, h1, h2, h3⟩ := Cl.int C (strike_Cl (xs (i + 1)) (xs (i + 2))) (ty := .int) (fun z => by cases z) (by decide +kernel) (by decide +kernel) (J := J) hX
  refine g_aload_n hK dL_law_879 rfl ?_
  refine g_arg hK hi hL 1 dL_law_880 dL_law_881 dL_law_883 dL_law_884 dL_law_885 (by decide) (by decide) ?_
  refine g_arg hK hi hL 2 dL_law_886 dL_law_887 dL_law_889 dL_law_890 dL_law_891 (by decide) (by decide) ?_
  refine g_cV2i hK dL_law_892 vlL_110 sh_0 (by simp [Value.category]) h1 rfl ?_
  refine g_aload_n hK dL_law_895 rfl ?_
  refine g_arg hK hi hL 1 dL_law_896 dL_law_897 dL_law_899 dL_law_900 dL_law_901 (by decide) (by decide) ?_
  refine g_arg hK hi hL 2 dL_law_902 dL_law_903 dL_law_905 dL_law_906 dL_law_907 (by decide) (by decide) ?_
  refine g_cV2i hK dL_law_908 vlL_113 sh_347 (by simp [Value.category]) h2 rfl ?_
  exact g_ic_eq hK 1417 dL_law_911 (by decide) (fun _ => kk _ _ _ h3) (fun h => absurd rfl h)
theorem lc_20 (C : xC s0 a0 D t) (hK : xW K (xEx EWd false 30) false (some (L, xs)) yL_law cL_law) (hi : i + 6 ≤ L) (hL : L ≤ 3072) (hX : RX I P) (kk : ∀ (I2 : Nat → Nat → Int32) (J2 : Nat → Nat → Int64) (P2 : Nat → Nat → Nat), RX I2 P2 → K 1417 (lwl i a5 a6) [] (SH, I2, J2, P2)) : K 916 (lwl i a5 a6) [] (SH, I, J, P) := by
  obtain ⟨q, I1, J1, P1, I2, J2, h1, h2, h3⟩ := Cl.int C (twists_Cl (xs (i + 1))) (ty := .int) (fun z => by cases z) (by decide +kernel) (by decide +kernel) (J := J) hX
  refine g_aload_n hK dL_law_916 rfl ?_
  refine g_arg hK hi hL 1 dL_law_917 dL_law_918 dL_law_920 dL_law_921 dL_law_922 (by decide) (by decide) ?_
  refine g_cV1i hK dL_law_923 vlL_114 sh_0 (by simp [Value.category]) h1 rfl ?_
  refine g_aload_n hK dL_law_926 rfl ?_
  refine g_arg hK hi hL 1 dL_law_927 dL_law_928 dL_law_930 dL_law_931 dL_law_932 (by decide) (by decide) ?_
  refine g_cV1i hK dL_law_933 vlL_117 sh_347 (by simp [Value.category]) h2 rfl ?_
  exact g_ic_eq hK 1417 dL_law_936 (by decide) (fun _ => kk _ _ _ h3) (fun h => absurd rfl h)
theorem lc_21 (C : xC s0 a0 D t) (hK : xW K (xEx EWd false 30) false (some (L, xs)) yL_law cL_law) (hi : i + 6 ≤ L) (hL : L ≤ 3072) (hX : RX I P) (kk : ∀ (I2 : Nat → Nat → Int32) (J2 : Nat → Nat → Int64) (P2 : Nat → Nat → Nat), RX I2 P2 → K 1417 (lwl i a5 a6) [] (SH, I2, J2, P2)) : K 941 (lwl i a5 a6) [] (SH, I, J, P) := by
  obtain ⟨q, I1, J1, P1, I2, J2, h1, h2, h3⟩ := Cl.int C (partner_Cl (xs (i + 1)) (xs (i + 2))) (ty := .int) (fun z => by cases z) (by decide +kernel) (by decide +kernel) (J := J) hX
  refine g_aload_n hK dL_law_941 rfl ?_
  refine g_arg hK hi hL 1 dL_law_942 dL_law_943 dL_law_945 dL_law_946 dL_law_947 (by decide) (by decide) ?_
  refine g_arg hK hi hL 2 dL_law_948 dL_law_949 dL_law_951 dL_law_952 dL_law_953 (by decide) (by decide) ?_
  refine g_cV2i hK dL_law_954 vlL_118 sh_0 (by simp [Value.category]) h1 rfl ?_
  refine g_aload_n hK dL_law_957 rfl ?_
  refine g_arg hK hi hL 1 dL_law_958 dL_law_959 dL_law_961 dL_law_962 dL_law_963 (by decide) (by decide) ?_
  refine g_arg hK hi hL 2 dL_law_964 dL_law_965 dL_law_967 dL_law_968 dL_law_969 (by decide) (by decide) ?_
  refine g_cV2i hK dL_law_970 vlL_121 sh_347 (by simp [Value.category]) h2 rfl ?_
  exact g_ic_eq hK 1417 dL_law_973 (by decide) (fun _ => kk _ _ _ h3) (fun h => absurd rfl h)
theorem lc_22 (C : xC s0 a0 D t) (hK : xW K (xEx EWd false 30) false (some (L, xs)) yL_law cL_law) (hi : i + 6 ≤ L) (hL : L ≤ 3072) (hX : RX I P) (kk : ∀ (I2 : Nat → Nat → Int32) (J2 : Nat → Nat → Int64) (P2 : Nat → Nat → Nat), RX I2 P2 → K 1417 (lwl i a5 a6) [] (SH, I2, J2, P2)) : K 978 (lwl i a5 a6) [] (SH, I, J, P) := by
  obtain ⟨q, I1, J1, P1, I2, J2, h1, h2, h3⟩ := Cl.int C (life_Cl (xs (i + 1))) (ty := .int) (fun z => by cases z) (by decide +kernel) (by decide +kernel) (J := J) hX
  refine g_aload_n hK dL_law_978 rfl ?_
  refine g_arg hK hi hL 1 dL_law_979 dL_law_980 dL_law_982 dL_law_983 dL_law_984 (by decide) (by decide) ?_
  refine g_cV1i hK dL_law_985 vlL_122 sh_0 (by simp [Value.category]) h1 rfl ?_
  refine g_aload_n hK dL_law_988 rfl ?_
  refine g_arg hK hi hL 1 dL_law_989 dL_law_990 dL_law_992 dL_law_993 dL_law_994 (by decide) (by decide) ?_
  refine g_cV1i hK dL_law_995 vlL_125 sh_347 (by simp [Value.category]) h2 rfl ?_
  exact g_ic_eq hK 1417 dL_law_998 (by decide) (fun _ => kk _ _ _ h3) (fun h => absurd rfl h)
theorem lc_23 (C : xC s0 a0 D t) (hK : xW K (xEx EWd false 30) false (some (L, xs)) yL_law cL_law) (hi : i + 6 ≤ L) (hL : L ≤ 3072) (hX : RX I P) (kk : ∀ (I2 : Nat → Nat → Int32) (J2 : Nat → Nat → Int64) (P2 : Nat → Nat → Nat), RX I2 P2 → K 1417 (lwl i a5 a6) [] (SH, I2, J2, P2)) : K 1003 (lwl i a5 a6) [] (SH, I, J, P) := by
  obtain ⟨q, I1, J1, P1, I2, J2, h1, h2, h3⟩ := Cl.int C (ahead_Cl (xs (i + 1))) (ty := .int) (fun z => by cases z) (by decide +kernel) (by decide +kernel) (J := J) hX
  refine g_aload_n hK dL_law_1003 rfl ?_
  refine g_arg hK hi hL 1 dL_law_1004 dL_law_1005 dL_law_1007 dL_law_1008 dL_law_1009 (by decide) (by decide) ?_
  refine g_cV1i hK dL_law_1010 vlL_126 sh_0 (by simp [Value.category]) h1 rfl ?_
  refine g_aload_n hK dL_law_1013 rfl ?_
  refine g_arg hK hi hL 1 dL_law_1014 dL_law_1015 dL_law_1017 dL_law_1018 dL_law_1019 (by decide) (by decide) ?_
  refine g_cV1i hK dL_law_1020 vlL_129 sh_347 (by simp [Value.category]) h2 rfl ?_
  exact g_ic_eq hK 1417 dL_law_1023 (by decide) (fun _ => kk _ _ _ h3) (fun h => absurd rfl h)
theorem lc_24 (C : xC s0 a0 D t) (hK : xW K (xEx EWd false 30) false (some (L, xs)) yL_law cL_law) (hi : i + 6 ≤ L) (hL : L ≤ 3072) (hX : RX I P) (kk : ∀ (I2 : Nat → Nat → Int32) (J2 : Nat → Nat → Int64) (P2 : Nat → Nat → Nat), RX I2 P2 → K 1417 (lwl i a5 a6) [] (SH, I2, J2, P2)) : K 1028 (lwl i a5 a6) [] (SH, I, J, P) := by
  obtain ⟨q, I1, J1, P1, I2, J2, h1, h2, h3⟩ := Cl.int C (see_Cl (xs (i + 1)) (xs (i + 2)) (xs (i + 3)) (if xs (i + 4) = 0 then 0 else 1)) (ty := .int) (fun z => by cases z) (by decide +kernel) (by decide +kernel) (J := J) hX
  refine g_aload_n hK dL_law_1028 rfl ?_
  refine g_arg hK hi hL 1 dL_law_1029 dL_law_1030 dL_law_1032 dL_law_1033 dL_law_1034 (by decide) (by decide) ?_
  refine g_arg hK hi hL 2 dL_law_1035 dL_law_1036 dL_law_1038 dL_law_1039 dL_law_1040 (by decide) (by decide) ?_
  refine g_arg hK hi hL 3 dL_law_1041 dL_law_1042 dL_law_1044 dL_law_1045 dL_law_1046 (by decide) (by decide) ?_
  refine g_arg hK hi hL 4 dL_law_1047 dL_law_1048 dL_law_1050 dL_law_1051 dL_law_1052 (by decide) (by decide) ?_
  have m0 : K 1061 (lwl i a5 a6) (.int (if xs (i + 4) = 0 then 0 else 1) :: .int (xs (i + 3)) :: .int (xs (i + 2)) :: .int (xs (i + 1)) :: .ref 0 :: []) (SH, I, J, P) → K 1053 (lwl i a5 a6) (.int (xs (i + 4)) :: .int (xs (i + 3)) :: .int (xs (i + 2)) :: .int (xs (i + 1)) :: .ref 0 :: []) (SH, I, J, P) := fun z => by
    refine g_if_eq hK 1060 dL_law_1053 (by decide) (fun e => ?_) (fun e => ?_)
    · rw [if_pos e] at z; exact g_iconst hK (v := 0) dL_law_1060 (by decide) z
    · rw [if_neg e] at z; exact g_iconst hK (v := 1) dL_law_1056 (by decide) (g_goto hK 1061 dL_law_1057 (by decide) z)
  refine m0 ?_
  refine g_cV4i hK dL_law_1061 vlL_130 sh_0 (by simp [Value.category]) h1 rfl ?_
  refine g_aload_n hK dL_law_1064 rfl ?_
  refine g_arg hK hi hL 1 dL_law_1065 dL_law_1066 dL_law_1068 dL_law_1069 dL_law_1070 (by decide) (by decide) ?_
  refine g_arg hK hi hL 2 dL_law_1071 dL_law_1072 dL_law_1074 dL_law_1075 dL_law_1076 (by decide) (by decide) ?_
  refine g_arg hK hi hL 3 dL_law_1077 dL_law_1078 dL_law_1080 dL_law_1081 dL_law_1082 (by decide) (by decide) ?_
  refine g_arg hK hi hL 4 dL_law_1083 dL_law_1084 dL_law_1086 dL_law_1087 dL_law_1088 (by decide) (by decide) ?_
  have m1 : K 1097 (lwl i a5 a6) (.int (if xs (i + 4) = 0 then 0 else 1) :: .int (xs (i + 3)) :: .int (xs (i + 2)) :: .int (xs (i + 1)) :: .ref 347 :: [.int q]) (SH, I1, J1, P1) → K 1089 (lwl i a5 a6) (.int (xs (i + 4)) :: .int (xs (i + 3)) :: .int (xs (i + 2)) :: .int (xs (i + 1)) :: .ref 347 :: [.int q]) (SH, I1, J1, P1) := fun z => by
    refine g_if_eq hK 1096 dL_law_1089 (by decide) (fun e => ?_) (fun e => ?_)
    · rw [if_pos e] at z; exact g_iconst hK (v := 0) dL_law_1096 (by decide) z
    · rw [if_neg e] at z; exact g_iconst hK (v := 1) dL_law_1092 (by decide) (g_goto hK 1097 dL_law_1093 (by decide) z)
  refine m1 ?_
  refine g_cV4i hK dL_law_1097 vlL_134 sh_347 (by simp [Value.category]) h2 rfl ?_
  exact g_ic_eq hK 1417 dL_law_1100 (by decide) (fun _ => kk _ _ _ h3) (fun h => absurd rfl h)
theorem lc_25 (C : xC s0 a0 D t) (hK : xW K (xEx EWd false 30) false (some (L, xs)) yL_law cL_law) (hi : i + 6 ≤ L) (hL : L ≤ 3072) (hX : RX I P) (kk : ∀ (I2 : Nat → Nat → Int32) (J2 : Nat → Nat → Int64) (P2 : Nat → Nat → Nat), RX I2 P2 → K 1417 (lwl i a5 a6) [] (SH, I2, J2, P2)) : K 1105 (lwl i a5 a6) [] (SH, I, J, P) := by
  obtain ⟨q, I1, J1, P1, I2, J2, h1, h2, h3⟩ := Cl.int C (strikes_Cl (xs (i + 1))) (ty := .int) (fun z => by cases z) (by decide +kernel) (by decide +kernel) (J := J) hX
  refine g_aload_n hK dL_law_1105 rfl ?_
  refine g_arg hK hi hL 1 dL_law_1106 dL_law_1107 dL_law_1109 dL_law_1110 dL_law_1111 (by decide) (by decide) ?_
  refine g_cV1i hK dL_law_1112 vlL_135 sh_0 (by simp [Value.category]) h1 rfl ?_
  refine g_aload_n hK dL_law_1115 rfl ?_
  refine g_arg hK hi hL 1 dL_law_1116 dL_law_1117 dL_law_1119 dL_law_1120 dL_law_1121 (by decide) (by decide) ?_
  refine g_cV1i hK dL_law_1122 vlL_138 sh_347 (by simp [Value.category]) h2 rfl ?_
  exact g_ic_eq hK 1417 dL_law_1125 (by decide) (fun _ => kk _ _ _ h3) (fun h => absurd rfl h)
theorem lc_26 (C : xC s0 a0 D t) (hK : xW K (xEx EWd false 30) false (some (L, xs)) yL_law cL_law) (hi : i + 6 ≤ L) (hL : L ≤ 3072) (hX : RX I P) (kk : ∀ (I2 : Nat → Nat → Int32) (J2 : Nat → Nat → Int64) (P2 : Nat → Nat → Nat), RX I2 P2 → K 1417 (lwl i a5 a6) [] (SH, I2, J2, P2)) : K 1130 (lwl i a5 a6) [] (SH, I, J, P) := by
  obtain ⟨q, I1, J1, P1, I2, J2, h1, h2, h3⟩ := Cl.int C (known_Cl (xs (i + 1))) (ty := .boolean) (fun z => by cases z) (by decide +kernel) (by decide +kernel) (J := J) hX
  refine g_aload_n hK dL_law_1130 rfl ?_
  refine g_arg hK hi hL 1 dL_law_1131 dL_law_1132 dL_law_1134 dL_law_1135 dL_law_1136 (by decide) (by decide) ?_
  refine g_cV1i hK dL_law_1137 vlL_139 sh_0 (by simp [Value.category]) h1 rfl ?_
  refine g_aload_n hK dL_law_1140 rfl ?_
  refine g_arg hK hi hL 1 dL_law_1141 dL_law_1142 dL_law_1144 dL_law_1145 dL_law_1146 (by decide) (by decide) ?_
  refine g_cV1i hK dL_law_1147 vlL_142 sh_347 (by simp [Value.category]) h2 rfl ?_
  exact g_ic_eq hK 1417 dL_law_1150 (by decide) (fun _ => kk _ _ _ h3) (fun h => absurd rfl h)
theorem lc_27 (C : xC s0 a0 D t) (hK : xW K (xEx EWd false 30) false (some (L, xs)) yL_law cL_law) (hi : i + 6 ≤ L) (hL : L ≤ 3072) (hX : RX I P) (kk : ∀ (I2 : Nat → Nat → Int32) (J2 : Nat → Nat → Int64) (P2 : Nat → Nat → Nat), RX I2 P2 → K 1417 (lwl i a5 a6) [] (SH, I2, J2, P2)) : K 1155 (lwl i a5 a6) [] (SH, I, J, P) := by
  obtain ⟨q, I1, J1, P1, I2, J2, h1, h2, h3⟩ := Cl.int C (painted_Cl ) (ty := .int) (fun z => by cases z) (by decide +kernel) (by decide +kernel) (J := J) hX
  refine g_aload_n hK dL_law_1155 rfl ?_
  refine g_cV0i hK dL_law_1156 vlL_143 sh_0 (by simp [Value.category]) h1 rfl ?_
  refine g_aload_n hK dL_law_1159 rfl ?_
  refine g_cV0i hK dL_law_1160 vlL_146 sh_347 (by simp [Value.category]) h2 rfl ?_
  exact g_ic_eq hK 1417 dL_law_1163 (by decide) (fun _ => kk _ _ _ h3) (fun h => absurd rfl h)
theorem lc_28 (C : xC s0 a0 D t) (hK : xW K (xEx EWd false 30) false (some (L, xs)) yL_law cL_law) (hi : i + 6 ≤ L) (hL : L ≤ 3072) (hX : RX I P) (kk : ∀ (I2 : Nat → Nat → Int32) (J2 : Nat → Nat → Int64) (P2 : Nat → Nat → Nat), RX I2 P2 → K 1417 (lwl i a5 a6) [] (SH, I2, J2, P2)) : K 1168 (lwl i a5 a6) [] (SH, I, J, P) := by
  obtain ⟨q, I1, J1, P1, I2, J2, h1, h2, h3⟩ := Cl.int C (tells_Cl (xs (i + 1))) (ty := .int) (fun z => by cases z) (by decide +kernel) (by decide +kernel) (J := J) hX
  refine g_aload_n hK dL_law_1168 rfl ?_
  refine g_arg hK hi hL 1 dL_law_1169 dL_law_1170 dL_law_1172 dL_law_1173 dL_law_1174 (by decide) (by decide) ?_
  refine g_cV1i hK dL_law_1175 vlL_147 sh_0 (by simp [Value.category]) h1 rfl ?_
  refine g_aload_n hK dL_law_1178 rfl ?_
  refine g_arg hK hi hL 1 dL_law_1179 dL_law_1180 dL_law_1182 dL_law_1183 dL_law_1184 (by decide) (by decide) ?_
  refine g_cV1i hK dL_law_1185 vlL_150 sh_347 (by simp [Value.category]) h2 rfl ?_
  exact g_ic_eq hK 1417 dL_law_1188 (by decide) (fun _ => kk _ _ _ h3) (fun h => absurd rfl h)
theorem lc_29 (C : xC s0 a0 D t) (hK : xW K (xEx EWd false 30) false (some (L, xs)) yL_law cL_law) (hi : i + 6 ≤ L) (hL : L ≤ 3072) (hX : RX I P) (kk : ∀ (I2 : Nat → Nat → Int32) (J2 : Nat → Nat → Int64) (P2 : Nat → Nat → Nat), RX I2 P2 → K 1417 (lwl i a5 a6) [] (SH, I2, J2, P2)) : K 1193 (lwl i a5 a6) [] (SH, I, J, P) := by
  obtain ⟨q, I1, J1, P1, I2, J2, h1, h2, h3⟩ := Cl.int C (rests_Cl (xs (i + 1))) (ty := .int) (fun z => by cases z) (by decide +kernel) (by decide +kernel) (J := J) hX
  refine g_aload_n hK dL_law_1193 rfl ?_
  refine g_arg hK hi hL 1 dL_law_1194 dL_law_1195 dL_law_1197 dL_law_1198 dL_law_1199 (by decide) (by decide) ?_
  refine g_cV1i hK dL_law_1200 vlL_151 sh_0 (by simp [Value.category]) h1 rfl ?_
  refine g_aload_n hK dL_law_1203 rfl ?_
  refine g_arg hK hi hL 1 dL_law_1204 dL_law_1205 dL_law_1207 dL_law_1208 dL_law_1209 (by decide) (by decide) ?_
  refine g_cV1i hK dL_law_1210 vlL_154 sh_347 (by simp [Value.category]) h2 rfl ?_
  exact g_ic_eq hK 1417 dL_law_1213 (by decide) (fun _ => kk _ _ _ h3) (fun h => absurd rfl h)
theorem lc_30 (C : xC s0 a0 D t) (hK : xW K (xEx EWd false 30) false (some (L, xs)) yL_law cL_law) (hi : i + 6 ≤ L) (hL : L ≤ 3072) (hX : RX I P) (kk : ∀ (I2 : Nat → Nat → Int32) (J2 : Nat → Nat → Int64) (P2 : Nat → Nat → Nat), RX I2 P2 → K 1417 (lwl i a5 a6) [] (SH, I2, J2, P2)) : K 1218 (lwl i a5 a6) [] (SH, I, J, P) := by
  obtain ⟨q, I1, J1, P1, I2, J2, h1, h2, h3⟩ := Cl.int C (rest_Cl (xs (i + 1)) (xs (i + 2))) (ty := .int) (fun z => by cases z) (by decide +kernel) (by decide +kernel) (J := J) hX
  refine g_aload_n hK dL_law_1218 rfl ?_
  refine g_arg hK hi hL 1 dL_law_1219 dL_law_1220 dL_law_1222 dL_law_1223 dL_law_1224 (by decide) (by decide) ?_
  refine g_arg hK hi hL 2 dL_law_1225 dL_law_1226 dL_law_1228 dL_law_1229 dL_law_1230 (by decide) (by decide) ?_
  refine g_cV2i hK dL_law_1231 vlL_155 sh_0 (by simp [Value.category]) h1 rfl ?_
  refine g_aload_n hK dL_law_1234 rfl ?_
  refine g_arg hK hi hL 1 dL_law_1235 dL_law_1236 dL_law_1238 dL_law_1239 dL_law_1240 (by decide) (by decide) ?_
  refine g_arg hK hi hL 2 dL_law_1241 dL_law_1242 dL_law_1244 dL_law_1245 dL_law_1246 (by decide) (by decide) ?_
  refine g_cV2i hK dL_law_1247 vlL_158 sh_347 (by simp [Value.category]) h2 rfl ?_
  exact g_ic_eq hK 1417 dL_law_1250 (by decide) (fun _ => kk _ _ _ h3) (fun h => absurd rfl h)
theorem lc_31 (C : xC s0 a0 D t) (hK : xW K (xEx EWd false 30) false (some (L, xs)) yL_law cL_law) (hi : i + 6 ≤ L) (hL : L ≤ 3072) (hX : RX I P) (kk : ∀ (I2 : Nat → Nat → Int32) (J2 : Nat → Nat → Int64) (P2 : Nat → Nat → Nat), RX I2 P2 → K 1417 (lwl i a5 a6) [] (SH, I2, J2, P2)) : K 1255 (lwl i a5 a6) [] (SH, I, J, P) := by
  obtain ⟨q, I1, J1, P1, I2, J2, h1, h2, h3⟩ := Cl.int C (chance_Cl (xs (i + 1)) (xs (i + 2)) (xs (i + 3))) (ty := .int) (fun z => by cases z) (by decide +kernel) (by decide +kernel) (J := J) hX
  refine g_aload_n hK dL_law_1255 rfl ?_
  refine g_arg hK hi hL 1 dL_law_1256 dL_law_1257 dL_law_1259 dL_law_1260 dL_law_1261 (by decide) (by decide) ?_
  refine g_arg hK hi hL 2 dL_law_1262 dL_law_1263 dL_law_1265 dL_law_1266 dL_law_1267 (by decide) (by decide) ?_
  refine g_arg hK hi hL 3 dL_law_1268 dL_law_1269 dL_law_1271 dL_law_1272 dL_law_1273 (by decide) (by decide) ?_
  refine g_cV3i hK dL_law_1274 vlL_159 sh_0 (by simp [Value.category]) h1 rfl ?_
  refine g_aload_n hK dL_law_1277 rfl ?_
  refine g_arg hK hi hL 1 dL_law_1278 dL_law_1279 dL_law_1281 dL_law_1282 dL_law_1283 (by decide) (by decide) ?_
  refine g_arg hK hi hL 2 dL_law_1284 dL_law_1285 dL_law_1287 dL_law_1288 dL_law_1289 (by decide) (by decide) ?_
  refine g_arg hK hi hL 3 dL_law_1290 dL_law_1291 dL_law_1293 dL_law_1294 dL_law_1295 (by decide) (by decide) ?_
  refine g_cV3i hK dL_law_1296 vlL_162 sh_347 (by simp [Value.category]) h2 rfl ?_
  exact g_ic_eq hK 1417 dL_law_1299 (by decide) (fun _ => kk _ _ _ h3) (fun h => absurd rfl h)
theorem lc_32 (C : xC s0 a0 D t) (hK : xW K (xEx EWd false 30) false (some (L, xs)) yL_law cL_law) (hi : i + 6 ≤ L) (hL : L ≤ 3072) (hX : RX I P) (kk : ∀ (I2 : Nat → Nat → Int32) (J2 : Nat → Nat → Int64) (P2 : Nat → Nat → Nat), RX I2 P2 → K 1417 (lwl i a5 a6) [] (SH, I2, J2, P2)) : K 1304 (lwl i a5 a6) [] (SH, I, J, P) := by
  obtain ⟨q, I1, J1, P1, I2, J2, h1, h2, h3⟩ := Cl.int C (tried_Cl (xs (i + 1)) (xs (i + 2)) (xs (i + 3))) (ty := .int) (fun z => by cases z) (by decide +kernel) (by decide +kernel) (J := J) hX
  refine g_aload_n hK dL_law_1304 rfl ?_
  refine g_arg hK hi hL 1 dL_law_1305 dL_law_1306 dL_law_1308 dL_law_1309 dL_law_1310 (by decide) (by decide) ?_
  refine g_arg hK hi hL 2 dL_law_1311 dL_law_1312 dL_law_1314 dL_law_1315 dL_law_1316 (by decide) (by decide) ?_
  refine g_arg hK hi hL 3 dL_law_1317 dL_law_1318 dL_law_1320 dL_law_1321 dL_law_1322 (by decide) (by decide) ?_
  refine g_cV3i hK dL_law_1323 vlL_163 sh_0 (by simp [Value.category]) h1 rfl ?_
  refine g_aload_n hK dL_law_1326 rfl ?_
  refine g_arg hK hi hL 1 dL_law_1327 dL_law_1328 dL_law_1330 dL_law_1331 dL_law_1332 (by decide) (by decide) ?_
  refine g_arg hK hi hL 2 dL_law_1333 dL_law_1334 dL_law_1336 dL_law_1337 dL_law_1338 (by decide) (by decide) ?_
  refine g_arg hK hi hL 3 dL_law_1339 dL_law_1340 dL_law_1342 dL_law_1343 dL_law_1344 (by decide) (by decide) ?_
  refine g_cV3i hK dL_law_1345 vlL_166 sh_347 (by simp [Value.category]) h2 rfl ?_
  exact g_ic_eq hK 1417 dL_law_1348 (by decide) (fun _ => kk _ _ _ h3) (fun h => absurd rfl h)
theorem lc_33 (C : xC s0 a0 D t) (hK : xW K (xEx EWd false 30) false (some (L, xs)) yL_law cL_law) (hi : i + 6 ≤ L) (hL : L ≤ 3072) (hX : RX I P) (kk : ∀ (I2 : Nat → Nat → Int32) (J2 : Nat → Nat → Int64) (P2 : Nat → Nat → Nat), RX I2 P2 → K 1417 (lwl i a5 a6) [] (SH, I2, J2, P2)) : K 1353 (lwl i a5 a6) [] (SH, I, J, P) := by
  obtain ⟨q, I1, J1, P1, I2, J2, h1, h2, h3⟩ := Cl.int C (undo_Cl ) (ty := .int) (fun z => by cases z) (by decide +kernel) (by decide +kernel) (J := J) hX
  refine g_aload_n hK dL_law_1353 rfl ?_
  refine g_cV0i hK dL_law_1354 vlL_167 sh_0 (by simp [Value.category]) h1 rfl ?_
  refine g_aload_n hK dL_law_1357 rfl ?_
  refine g_cV0i hK dL_law_1358 vlL_170 sh_347 (by simp [Value.category]) h2 rfl ?_
  exact g_ic_eq hK 1417 dL_law_1361 (by decide) (fun _ => kk _ _ _ h3) (fun h => absurd rfl h)
theorem lc_34 (C : xC s0 a0 D t) (hK : xW K (xEx EWd false 30) false (some (L, xs)) yL_law cL_law) (hi : i + 6 ≤ L) (hL : L ≤ 3072) (hX : RX I P) (kk : ∀ (I2 : Nat → Nat → Int32) (J2 : Nat → Nat → Int64) (P2 : Nat → Nat → Nat), RX I2 P2 → K 1417 (lwl i a5 a6) [] (SH, I2, J2, P2)) : K 1366 (lwl i a5 a6) [] (SH, I, J, P) := by
  obtain ⟨q, I1, J1, P1, I2, J2, h1, h2, h3⟩ := Cl.int C (keep_Cl ) (ty := .int) (fun z => by cases z) (by decide +kernel) (by decide +kernel) (J := J) hX
  refine g_aload_n hK dL_law_1366 rfl ?_
  refine g_cV0i hK dL_law_1367 vlL_171 sh_0 (by simp [Value.category]) h1 rfl ?_
  refine g_aload_n hK dL_law_1370 rfl ?_
  refine g_cV0i hK dL_law_1371 vlL_174 sh_347 (by simp [Value.category]) h2 rfl ?_
  exact g_ic_eq hK 1417 dL_law_1374 (by decide) (fun _ => kk _ _ _ h3) (fun h => absurd rfl h)
theorem lc_35 (C : xC s0 a0 D t) (hK : xW K (xEx EWd false 30) false (some (L, xs)) yL_law cL_law) (hi : i + 6 ≤ L) (hL : L ≤ 3072) (hX : RX I P) (kk : ∀ (I2 : Nat → Nat → Int32) (J2 : Nat → Nat → Int64) (P2 : Nat → Nat → Nat), RX I2 P2 → K 1417 (lwl i a5 a6) [] (SH, I2, J2, P2)) : K 1379 (lwl i a5 a6) [] (SH, I, J, P) := by
  obtain ⟨q, I1, J1, P1, I2, J2, h1, h2, h3⟩ := Cl.int C (back_Cl ) (ty := .int) (fun z => by cases z) (by decide +kernel) (by decide +kernel) (J := J) hX
  refine g_aload_n hK dL_law_1379 rfl ?_
  refine g_cV0i hK dL_law_1380 vlL_175 sh_0 (by simp [Value.category]) h1 rfl ?_
  refine g_aload_n hK dL_law_1383 rfl ?_
  refine g_cV0i hK dL_law_1384 vlL_178 sh_347 (by simp [Value.category]) h2 rfl ?_
  exact g_ic_eq hK 1417 dL_law_1387 (by decide) (fun _ => kk _ _ _ h3) (fun h => absurd rfl h)
theorem lc_36 (C : xC s0 a0 D t) (hK : xW K (xEx EWd false 30) false (some (L, xs)) yL_law cL_law) (hi : i + 6 ≤ L) (hL : L ≤ 3072) (hX : RX I P) (kk : ∀ (I2 : Nat → Nat → Int32) (J2 : Nat → Nat → Int64) (P2 : Nat → Nat → Nat), RX I2 P2 → K 1417 (lwl i a5 a6) [] (SH, I2, J2, P2)) : K 1392 (lwl i a5 a6) [] (SH, I, J, P) := by
  obtain ⟨q, I1, J1, P1, I2, J2, h1, h2, h3⟩ := Cl.int C (count_Cl (xs (i + 1))) (ty := .int) (fun z => by cases z) (by decide +kernel) (by decide +kernel) (J := J) hX
  refine g_aload_n hK dL_law_1392 rfl ?_
  refine g_arg hK hi hL 1 dL_law_1393 dL_law_1394 dL_law_1396 dL_law_1397 dL_law_1398 (by decide) (by decide) ?_
  refine g_cV1i hK dL_law_1399 vlL_179 sh_0 (by simp [Value.category]) h1 rfl ?_
  refine g_aload_n hK dL_law_1402 rfl ?_
  refine g_arg hK hi hL 1 dL_law_1403 dL_law_1404 dL_law_1406 dL_law_1407 dL_law_1408 (by decide) (by decide) ?_
  refine g_cV1i hK dL_law_1409 vlL_182 sh_347 (by simp [Value.category]) h2 rfl ?_
  exact g_ic_eq hK 1417 dL_law_1412 (by decide) (fun _ => kk _ _ _ h3) (fun h => absurd rfl h)
end LC
