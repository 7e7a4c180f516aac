/-! the law's cases -/
def lsI (i : Nat) : aLs := [none, some (.ref 0), some (.ref 36), some (.int (nI i))]
section CASE
variable {len : Nat} {xs : Nat → Int32} {k n pc i : Nat} {st : List (Option Value)} {S : aS}
theorem ExL.arg {j : Nat} {z : Int} (hl : len ≤ 3072) (hi : i + j < len) (d1 : decode code pc = .ok (.aload_n 0, 1)) (d2 : decode code (pc + 1) = .ok (.iload_n 3, 1)) (d3 : decode code (pc + 2) = .ok (.iconst z, 1)) (hz : Int32.ofInt z = nI j) (d4 : decode code (pc + 3) = .ok (.iadd, 1)) (d5 : decode code (pc + 4) = .ok (.iaload, 1)) (kk : ExL len xs k n (pc + 5) (lsI i) (some (.int (xs (i + j))) :: st) S) : ExL len xs k n pc (lsI i) st S := by
  refine ExL.aload0 d1 rfl ?_
  refine ExL.iload_n (i := 3) d2 rfl rfl ?_
  refine ExL.iconst d3 hz ?_
  refine ExL.iadd d4 ?_
  rw [nI_add]
  exact ExL.iald d5 (vp_in_nI hi (by omega)) (nI_clamp (by omega)) kk
theorem ExL.pair {N K : Nat} {I : aI} {L : aL} {mx mm : aM} {idx1 idx2 np pc2 : Nat} {off : Int} {av : List Value} (h2 : Two N K I L mx mm av) (hd1 : decode code pc = .ok (.invokevirtual idx1, 3)) (hc1 : aCv R_law idx1 9 mx np) (hlen : av.length = np) (hk : k ≤ 600000) (hn : n ≤ 7302250)
    (mid : ∀ (v : Int32) (S : aS), ExL len xs k n pc2 (lsI i) ((av.reverse ++ [Value.ref 36, Value.int v]).map some) S → ExL len xs k n (pc + 3) (lsI i) [some (Value.int v)] S)
    (hd2 : decode code pc2 = .ok (.invokevirtual idx2, 3)) (hc2 : aCv R_law idx2 10 mm np) (hd3 : decode code (pc2 + 3) = .ok (.if_icmp .eq off, 3)) (ht : ((pc2 + 3 : Nat) : Int) + off = ((1106 : Nat) : Int))
    (kk : ∀ I' L', Rel N (K + 1) I' L' → ExL len xs k n 1106 (lsI i) [] (St N I' L')) : ExL len xs k n pc (lsI i) ((av.reverse ++ [Value.ref 0]).map some) (St N I L) := by
  obtain ⟨v, hrun⟩ := h2
  refine ExL.callV (As := av) (rest := []) hd1 hc1 hrun (sh0 N) rfl hlen (by decide) hk hn (by decide) (Or.inl ?_) ?_
  · rintro r S' ⟨-, I1, L1, rfl, -⟩; rfl
  rintro r S' ⟨rfl, I1, L1, rfl, hrun2⟩ - -
  refine mid v _ ?_
  refine ExL.callV (As := av) (rest := [.int v]) hd2 hc2 hrun2 rfl rfl hlen (by decide) hk hn (Nat.le_of_ble_eq_true rfl) (Or.inl ?_) ?_
  · rintro r S' ⟨-, I2, L2, rfl, -⟩; rfl
  rintro r S' ⟨rfl, I2, L2, rfl, hR⟩ - -
  exact ExL.icmp_eq hd3 ht (fun _ => kk I2 L2 hR) (fun q => absurd rfl q)
theorem lw_c0 {N K : Nat} {I : aI} {L : aL} (hR : Rel N K I L) (hK : K ≤ 1000000) (hl : len ≤ 3072) (hi : i + 5 < len) (hk : k ≤ 600000) (hn : n ≤ 7302250) (kk : ∀ I' L', Rel N (K + 1) I' L' → ExL len xs k n 1106 (lsI i) [] (St N I' L')) : ExL len xs k n 184 (lsI i) [] (St N I L) := by
  refine ExL.aload_n (pc := 184) (i := 1) dL_184 rfl rfl ?_
  refine ExL.arg (pc := 185) (j := 1) hl (by omega) dL_185 dL_186 dL_187 rfl dL_188 dL_189 ?_
  refine ExL.arg (pc := 190) (j := 2) hl (by omega) dL_190 dL_191 dL_192 rfl dL_193 dL_194 ?_
  refine ExL.arg (pc := 195) (j := 3) hl (by omega) dL_195 dL_196 dL_197 rfl dL_198 dL_199 ?_
  refine ExL.arg (pc := 200) (j := 4) hl (by omega) dL_200 dL_201 dL_202 rfl dL_203 dL_204 ?_
  refine ExL.arg (pc := 205) (j := 5) hl (by omega) dL_205 dL_206 dL_207 rfl dL_208 dL_209 ?_
  refine ExL.pair (pc := 210) (pc2 := 239) (av := [.int (xs (i + 1)), .int (xs (i + 2)), .int (xs (i + 3)), .int (xs (i + 4)), .int (xs (i + 5))]) (tw_feed hR) dL_210 cL_13 rfl hk hn (fun v S h => ?_) dL_239 cL_17 dL_242 (by decide) kk
  refine ExL.aload_n (pc := 213) (i := 2) dL_213 rfl rfl ?_
  refine ExL.arg (pc := 214) (j := 1) hl (by omega) dL_214 dL_215 dL_216 rfl dL_217 dL_218 ?_
  refine ExL.arg (pc := 219) (j := 2) hl (by omega) dL_219 dL_220 dL_221 rfl dL_222 dL_223 ?_
  refine ExL.arg (pc := 224) (j := 3) hl (by omega) dL_224 dL_225 dL_226 rfl dL_227 dL_228 ?_
  refine ExL.arg (pc := 229) (j := 4) hl (by omega) dL_229 dL_230 dL_231 rfl dL_232 dL_233 ?_
  refine ExL.arg (pc := 234) (j := 5) hl (by omega) dL_234 dL_235 dL_236 rfl dL_237 dL_238 ?_
  exact h
theorem lw_c1 {N K : Nat} {I : aI} {L : aL} (hR : Rel N K I L) (hK : K ≤ 1000000) (hl : len ≤ 3072) (hi : i + 5 < len) (hk : k ≤ 600000) (hn : n ≤ 7302250) (kk : ∀ I' L', Rel N (K + 1) I' L' → ExL len xs k n 1106 (lsI i) [] (St N I' L')) : ExL len xs k n 247 (lsI i) [] (St N I L) := by
  refine ExL.aload_n (pc := 247) (i := 1) dL_247 rfl rfl ?_
  refine ExL.arg (pc := 248) (j := 1) hl (by omega) dL_248 dL_249 dL_250 rfl dL_251 dL_252 ?_
  refine ExL.pair (pc := 253) (pc2 := 262) (av := [.int (xs (i + 1))]) (tw_end hR) dL_253 cL_18 rfl hk hn (fun v S h => ?_) dL_262 cL_22 dL_265 (by decide) kk
  refine ExL.aload_n (pc := 256) (i := 2) dL_256 rfl rfl ?_
  refine ExL.arg (pc := 257) (j := 1) hl (by omega) dL_257 dL_258 dL_259 rfl dL_260 dL_261 ?_
  exact h
theorem lw_c3 {N K : Nat} {I : aI} {L : aL} (hR : Rel N K I L) (hK : K ≤ 1000000) (hl : len ≤ 3072) (hi : i + 5 < len) (hk : k ≤ 600000) (hn : n ≤ 7302250) (kk : ∀ I' L', Rel N (K + 1) I' L' → ExL len xs k n 1106 (lsI i) [] (St N I' L')) : ExL len xs k n 283 (lsI i) [] (St N I L) := by
  refine ExL.aload_n (pc := 283) (i := 1) dL_283 rfl rfl ?_
  refine ExL.arg (pc := 284) (j := 1) hl (by omega) dL_284 dL_285 dL_286 rfl dL_287 dL_288 ?_
  refine ExL.pair (pc := 289) (pc2 := 298) (av := [.int (xs (i + 1))]) (tw_fault hR) dL_289 cL_28 rfl hk hn (fun v S h => ?_) dL_298 cL_32 dL_301 (by decide) kk
  refine ExL.aload_n (pc := 292) (i := 2) dL_292 rfl rfl ?_
  refine ExL.arg (pc := 293) (j := 1) hl (by omega) dL_293 dL_294 dL_295 rfl dL_296 dL_297 ?_
  exact h
theorem lw_c4 {N K : Nat} {I : aI} {L : aL} (hR : Rel N K I L) (hK : K ≤ 1000000) (hl : len ≤ 3072) (hi : i + 5 < len) (hk : k ≤ 600000) (hn : n ≤ 7302250) (kk : ∀ I' L', Rel N (K + 1) I' L' → ExL len xs k n 1106 (lsI i) [] (St N I' L')) : ExL len xs k n 306 (lsI i) [] (St N I L) := by
  refine ExL.aload_n (pc := 306) (i := 1) dL_306 rfl rfl ?_
  refine ExL.arg (pc := 307) (j := 1) hl (by omega) dL_307 dL_308 dL_309 rfl dL_310 dL_311 ?_
  refine ExL.pair (pc := 312) (pc2 := 321) (av := [.int (xs (i + 1))]) (tw_has hR) dL_312 cL_33 rfl hk hn (fun v S h => ?_) dL_321 cL_36 dL_324 (by decide) kk
  refine ExL.aload_n (pc := 315) (i := 2) dL_315 rfl rfl ?_
  refine ExL.arg (pc := 316) (j := 1) hl (by omega) dL_316 dL_317 dL_318 rfl dL_319 dL_320 ?_
  exact h
theorem lw_c5 {N K : Nat} {I : aI} {L : aL} (hR : Rel N K I L) (hK : K ≤ 1000000) (hl : len ≤ 3072) (hi : i + 5 < len) (hk : k ≤ 600000) (hn : n ≤ 7302250) (kk : ∀ I' L', Rel N (K + 1) I' L' → ExL len xs k n 1106 (lsI i) [] (St N I' L')) : ExL len xs k n 329 (lsI i) [] (St N I L) := by
  refine ExL.aload_n (pc := 329) (i := 1) dL_329 rfl rfl ?_
  refine ExL.arg (pc := 330) (j := 1) hl (by omega) dL_330 dL_331 dL_332 rfl dL_333 dL_334 ?_
  refine ExL.arg (pc := 335) (j := 2) hl (by omega) dL_335 dL_336 dL_337 rfl dL_338 dL_339 ?_
  refine ExL.arg (pc := 340) (j := 3) hl (by omega) dL_340 dL_341 dL_342 rfl dL_343 dL_344 ?_
  refine ExL.pair (pc := 345) (pc2 := 364) (av := [.int (xs (i + 1)), .int (xs (i + 2)), .int (xs (i + 3))]) (tw_letter hR) dL_345 cL_37 rfl hk hn (fun v S h => ?_) dL_364 cL_41 dL_367 (by decide) kk
  refine ExL.aload_n (pc := 348) (i := 2) dL_348 rfl rfl ?_
  refine ExL.arg (pc := 349) (j := 1) hl (by omega) dL_349 dL_350 dL_351 rfl dL_352 dL_353 ?_
  refine ExL.arg (pc := 354) (j := 2) hl (by omega) dL_354 dL_355 dL_356 rfl dL_357 dL_358 ?_
  refine ExL.arg (pc := 359) (j := 3) hl (by omega) dL_359 dL_360 dL_361 rfl dL_362 dL_363 ?_
  exact h
theorem lw_c6 {N K : Nat} {I : aI} {L : aL} (hR : Rel N K I L) (hK : K ≤ 1000000) (hl : len ≤ 3072) (hi : i + 5 < len) (hk : k ≤ 600000) (hn : n ≤ 7302250) (kk : ∀ I' L', Rel N (K + 1) I' L' → ExL len xs k n 1106 (lsI i) [] (St N I' L')) : ExL len xs k n 372 (lsI i) [] (St N I L) := by
  refine ExL.aload_n (pc := 372) (i := 1) dL_372 rfl rfl ?_
  refine ExL.arg (pc := 373) (j := 1) hl (by omega) dL_373 dL_374 dL_375 rfl dL_376 dL_377 ?_
  refine ExL.arg (pc := 378) (j := 2) hl (by omega) dL_378 dL_379 dL_380 rfl dL_381 dL_382 ?_
  refine ExL.pair (pc := 383) (pc2 := 397) (av := [.int (xs (i + 1)), .int (xs (i + 2))]) (tw_board hR) dL_383 cL_42 rfl hk hn (fun v S h => ?_) dL_397 cL_46 dL_400 (by decide) kk
  refine ExL.aload_n (pc := 386) (i := 2) dL_386 rfl rfl ?_
  refine ExL.arg (pc := 387) (j := 1) hl (by omega) dL_387 dL_388 dL_389 rfl dL_390 dL_391 ?_
  refine ExL.arg (pc := 392) (j := 2) hl (by omega) dL_392 dL_393 dL_394 rfl dL_395 dL_396 ?_
  exact h
theorem lw_c7 {N K : Nat} {I : aI} {L : aL} (hR : Rel N K I L) (hK : K ≤ 1000000) (hl : len ≤ 3072) (hi : i + 5 < len) (hk : k ≤ 600000) (hn : n ≤ 7302250) (kk : ∀ I' L', Rel N (K + 1) I' L' → ExL len xs k n 1106 (lsI i) [] (St N I' L')) : ExL len xs k n 405 (lsI i) [] (St N I L) := by
  refine ExL.aload_n (pc := 405) (i := 1) dL_405 rfl rfl ?_
  refine ExL.arg (pc := 406) (j := 1) hl (by omega) dL_406 dL_407 dL_408 rfl dL_409 dL_410 ?_
  refine ExL.arg (pc := 411) (j := 2) hl (by omega) dL_411 dL_412 dL_413 rfl dL_414 dL_415 ?_
  refine ExL.pair (pc := 416) (pc2 := 430) (av := [.int (xs (i + 1)), .int (xs (i + 2))]) (tw_stain hR) dL_416 cL_47 rfl hk hn (fun v S h => ?_) dL_430 cL_50 dL_433 (by decide) kk
  refine ExL.aload_n (pc := 419) (i := 2) dL_419 rfl rfl ?_
  refine ExL.arg (pc := 420) (j := 1) hl (by omega) dL_420 dL_421 dL_422 rfl dL_423 dL_424 ?_
  refine ExL.arg (pc := 425) (j := 2) hl (by omega) dL_425 dL_426 dL_427 rfl dL_428 dL_429 ?_
  exact h
theorem lw_c8 {N K : Nat} {I : aI} {L : aL} (hR : Rel N K I L) (hK : K ≤ 1000000) (hl : len ≤ 3072) (hi : i + 5 < len) (hk : k ≤ 600000) (hn : n ≤ 7302250) (kk : ∀ I' L', Rel N (K + 1) I' L' → ExL len xs k n 1106 (lsI i) [] (St N I' L')) : ExL len xs k n 438 (lsI i) [] (St N I L) := by
  refine ExL.aload_n (pc := 438) (i := 1) dL_438 rfl rfl ?_
  refine ExL.arg (pc := 439) (j := 1) hl (by omega) dL_439 dL_440 dL_441 rfl dL_442 dL_443 ?_
  refine ExL.arg (pc := 444) (j := 2) hl (by omega) dL_444 dL_445 dL_446 rfl dL_447 dL_448 ?_
  refine ExL.pair (pc := 449) (pc2 := 463) (av := [.int (xs (i + 1)), .int (xs (i + 2))]) (tw_hearer hR) dL_449 cL_51 rfl hk hn (fun v S h => ?_) dL_463 cL_54 dL_466 (by decide) kk
  refine ExL.aload_n (pc := 452) (i := 2) dL_452 rfl rfl ?_
  refine ExL.arg (pc := 453) (j := 1) hl (by omega) dL_453 dL_454 dL_455 rfl dL_456 dL_457 ?_
  refine ExL.arg (pc := 458) (j := 2) hl (by omega) dL_458 dL_459 dL_460 rfl dL_461 dL_462 ?_
  exact h
theorem lw_c9 {N K : Nat} {I : aI} {L : aL} (hR : Rel N K I L) (hK : K ≤ 1000000) (hl : len ≤ 3072) (hi : i + 5 < len) (hk : k ≤ 600000) (hn : n ≤ 7302250) (kk : ∀ I' L', Rel N (K + 1) I' L' → ExL len xs k n 1106 (lsI i) [] (St N I' L')) : ExL len xs k n 471 (lsI i) [] (St N I L) := by
  refine ExL.aload_n (pc := 471) (i := 1) dL_471 rfl rfl ?_
  refine ExL.arg (pc := 472) (j := 1) hl (by omega) dL_472 dL_473 dL_474 rfl dL_475 dL_476 ?_
  refine ExL.arg (pc := 477) (j := 2) hl (by omega) dL_477 dL_478 dL_479 rfl dL_480 dL_481 ?_
  refine ExL.arg (pc := 482) (j := 3) hl (by omega) dL_482 dL_483 dL_484 rfl dL_485 dL_486 ?_
  refine ExL.pair (pc := 487) (pc2 := 506) (av := [.int (xs (i + 1)), .int (xs (i + 2)), .int (xs (i + 3))]) (tw_strokes hR) dL_487 cL_55 rfl hk hn (fun v S h => ?_) dL_506 cL_58 dL_509 (by decide) kk
  refine ExL.aload_n (pc := 490) (i := 2) dL_490 rfl rfl ?_
  refine ExL.arg (pc := 491) (j := 1) hl (by omega) dL_491 dL_492 dL_493 rfl dL_494 dL_495 ?_
  refine ExL.arg (pc := 496) (j := 2) hl (by omega) dL_496 dL_497 dL_498 rfl dL_499 dL_500 ?_
  refine ExL.arg (pc := 501) (j := 3) hl (by omega) dL_501 dL_502 dL_503 rfl dL_504 dL_505 ?_
  exact h
theorem lw_c10 {N K : Nat} {I : aI} {L : aL} (hR : Rel N K I L) (hK : K ≤ 1000000) (hl : len ≤ 3072) (hi : i + 5 < len) (hk : k ≤ 600000) (hn : n ≤ 7302250) (kk : ∀ I' L', Rel N (K + 1) I' L' → ExL len xs k n 1106 (lsI i) [] (St N I' L')) : ExL len xs k n 514 (lsI i) [] (St N I L) := by
  refine ExL.aload_n (pc := 514) (i := 1) dL_514 rfl rfl ?_
  refine ExL.arg (pc := 515) (j := 1) hl (by omega) dL_515 dL_516 dL_517 rfl dL_518 dL_519 ?_
  refine ExL.arg (pc := 520) (j := 2) hl (by omega) dL_520 dL_521 dL_522 rfl dL_523 dL_524 ?_
  refine ExL.arg (pc := 525) (j := 3) hl (by omega) dL_525 dL_526 dL_527 rfl dL_528 dL_529 ?_
  refine ExL.pair (pc := 530) (pc2 := 549) (av := [.int (xs (i + 1)), .int (xs (i + 2)), .int (xs (i + 3))]) (tw_needed hR) dL_530 cL_59 rfl hk hn (fun v S h => ?_) dL_549 cL_62 dL_552 (by decide) kk
  refine ExL.aload_n (pc := 533) (i := 2) dL_533 rfl rfl ?_
  refine ExL.arg (pc := 534) (j := 1) hl (by omega) dL_534 dL_535 dL_536 rfl dL_537 dL_538 ?_
  refine ExL.arg (pc := 539) (j := 2) hl (by omega) dL_539 dL_540 dL_541 rfl dL_542 dL_543 ?_
  refine ExL.arg (pc := 544) (j := 3) hl (by omega) dL_544 dL_545 dL_546 rfl dL_547 dL_548 ?_
  exact h
theorem lw_c11 {N K : Nat} {I : aI} {L : aL} (hR : Rel N K I L) (hK : K ≤ 1000000) (hl : len ≤ 3072) (hi : i + 5 < len) (hk : k ≤ 600000) (hn : n ≤ 7302250) (kk : ∀ I' L', Rel N (K + 1) I' L' → ExL len xs k n 1106 (lsI i) [] (St N I' L')) : ExL len xs k n 557 (lsI i) [] (St N I L) := by
  refine ExL.aload_n (pc := 557) (i := 1) dL_557 rfl rfl ?_
  refine ExL.arg (pc := 558) (j := 1) hl (by omega) dL_558 dL_559 dL_560 rfl dL_561 dL_562 ?_
  refine ExL.pair (pc := 563) (pc2 := 572) (av := [.int (xs (i + 1))]) (tw_best hR) dL_563 cL_63 rfl hk hn (fun v S h => ?_) dL_572 cL_66 dL_575 (by decide) kk
  refine ExL.aload_n (pc := 566) (i := 2) dL_566 rfl rfl ?_
  refine ExL.arg (pc := 567) (j := 1) hl (by omega) dL_567 dL_568 dL_569 rfl dL_570 dL_571 ?_
  exact h
theorem lw_c12 {N K : Nat} {I : aI} {L : aL} (hR : Rel N K I L) (hK : K ≤ 1000000) (hl : len ≤ 3072) (hi : i + 5 < len) (hk : k ≤ 600000) (hn : n ≤ 7302250) (kk : ∀ I' L', Rel N (K + 1) I' L' → ExL len xs k n 1106 (lsI i) [] (St N I' L')) : ExL len xs k n 580 (lsI i) [] (St N I L) := by
  refine ExL.aload_n (pc := 580) (i := 1) dL_580 rfl rfl ?_
  refine ExL.arg (pc := 581) (j := 1) hl (by omega) dL_581 dL_582 dL_583 rfl dL_584 dL_585 ?_
  refine ExL.pair (pc := 586) (pc2 := 595) (av := [.int (xs (i + 1))]) (tw_match hR) dL_586 cL_67 rfl hk hn (fun v S h => ?_) dL_595 cL_70 dL_598 (by decide) kk
  refine ExL.aload_n (pc := 589) (i := 2) dL_589 rfl rfl ?_
  refine ExL.arg (pc := 590) (j := 1) hl (by omega) dL_590 dL_591 dL_592 rfl dL_593 dL_594 ?_
  exact h
theorem lw_c13 {N K : Nat} {I : aI} {L : aL} (hR : Rel N K I L) (hK : K ≤ 1000000) (hl : len ≤ 3072) (hi : i + 5 < len) (hk : k ≤ 600000) (hn : n ≤ 7302250) (kk : ∀ I' L', Rel N (K + 1) I' L' → ExL len xs k n 1106 (lsI i) [] (St N I' L')) : ExL len xs k n 603 (lsI i) [] (St N I L) := by
  refine ExL.aload_n (pc := 603) (i := 1) dL_603 rfl rfl ?_
  refine ExL.arg (pc := 604) (j := 1) hl (by omega) dL_604 dL_605 dL_606 rfl dL_607 dL_608 ?_
  refine ExL.arg (pc := 609) (j := 2) hl (by omega) dL_609 dL_610 dL_611 rfl dL_612 dL_613 ?_
  refine ExL.pair (pc := 614) (pc2 := 628) (av := [.int (xs (i + 1)), .int (xs (i + 2))]) (tw_heads hR) dL_614 cL_71 rfl hk hn (fun v S h => ?_) dL_628 cL_74 dL_631 (by decide) kk
  refine ExL.aload_n (pc := 617) (i := 2) dL_617 rfl rfl ?_
  refine ExL.arg (pc := 618) (j := 1) hl (by omega) dL_618 dL_619 dL_620 rfl dL_621 dL_622 ?_
  refine ExL.arg (pc := 623) (j := 2) hl (by omega) dL_623 dL_624 dL_625 rfl dL_626 dL_627 ?_
  exact h
theorem lw_c14 {N K : Nat} {I : aI} {L : aL} (hR : Rel N K I L) (hK : K ≤ 1000000) (hl : len ≤ 3072) (hi : i + 5 < len) (hk : k ≤ 600000) (hn : n ≤ 7302250) (kk : ∀ I' L', Rel N (K + 1) I' L' → ExL len xs k n 1106 (lsI i) [] (St N I' L')) : ExL len xs k n 636 (lsI i) [] (St N I L) := by
  refine ExL.aload_n (pc := 636) (i := 1) dL_636 rfl rfl ?_
  refine ExL.arg (pc := 637) (j := 1) hl (by omega) dL_637 dL_638 dL_639 rfl dL_640 dL_641 ?_
  refine ExL.arg (pc := 642) (j := 2) hl (by omega) dL_642 dL_643 dL_644 rfl dL_645 dL_646 ?_
  refine ExL.pair (pc := 647) (pc2 := 661) (av := [.int (xs (i + 1)), .int (xs (i + 2))]) (tw_later hR) dL_647 cL_75 rfl hk hn (fun v S h => ?_) dL_661 cL_78 dL_664 (by decide) kk
  refine ExL.aload_n (pc := 650) (i := 2) dL_650 rfl rfl ?_
  refine ExL.arg (pc := 651) (j := 1) hl (by omega) dL_651 dL_652 dL_653 rfl dL_654 dL_655 ?_
  refine ExL.arg (pc := 656) (j := 2) hl (by omega) dL_656 dL_657 dL_658 rfl dL_659 dL_660 ?_
  exact h
theorem lw_c15 {N K : Nat} {I : aI} {L : aL} (hR : Rel N K I L) (hK : K ≤ 1000000) (hl : len ≤ 3072) (hi : i + 5 < len) (hk : k ≤ 600000) (hn : n ≤ 7302250) (kk : ∀ I' L', Rel N (K + 1) I' L' → ExL len xs k n 1106 (lsI i) [] (St N I' L')) : ExL len xs k n 669 (lsI i) [] (St N I L) := by
  refine ExL.aload_n (pc := 669) (i := 1) dL_669 rfl rfl ?_
  refine ExL.arg (pc := 670) (j := 1) hl (by omega) dL_670 dL_671 dL_672 rfl dL_673 dL_674 ?_
  refine ExL.arg (pc := 675) (j := 2) hl (by omega) dL_675 dL_676 dL_677 rfl dL_678 dL_679 ?_
  refine ExL.pair (pc := 680) (pc2 := 694) (av := [.int (xs (i + 1)), .int (xs (i + 2))]) (tw_worn hR) dL_680 cL_79 rfl hk hn (fun v S h => ?_) dL_694 cL_82 dL_697 (by decide) kk
  refine ExL.aload_n (pc := 683) (i := 2) dL_683 rfl rfl ?_
  refine ExL.arg (pc := 684) (j := 1) hl (by omega) dL_684 dL_685 dL_686 rfl dL_687 dL_688 ?_
  refine ExL.arg (pc := 689) (j := 2) hl (by omega) dL_689 dL_690 dL_691 rfl dL_692 dL_693 ?_
  exact h
theorem lw_c16 {N K : Nat} {I : aI} {L : aL} (hR : Rel N K I L) (hK : K ≤ 1000000) (hl : len ≤ 3072) (hi : i + 5 < len) (hk : k ≤ 600000) (hn : n ≤ 7302250) (kk : ∀ I' L', Rel N (K + 1) I' L' → ExL len xs k n 1106 (lsI i) [] (St N I' L')) : ExL len xs k n 702 (lsI i) [] (St N I L) := by
  refine ExL.aload_n (pc := 702) (i := 1) dL_702 rfl rfl ?_
  refine ExL.arg (pc := 703) (j := 1) hl (by omega) dL_703 dL_704 dL_705 rfl dL_706 dL_707 ?_
  refine ExL.pair (pc := 708) (pc2 := 717) (av := [.int (xs (i + 1))]) (tw_saved hR) dL_708 cL_83 rfl hk hn (fun v S h => ?_) dL_717 cL_86 dL_720 (by decide) kk
  refine ExL.aload_n (pc := 711) (i := 2) dL_711 rfl rfl ?_
  refine ExL.arg (pc := 712) (j := 1) hl (by omega) dL_712 dL_713 dL_714 rfl dL_715 dL_716 ?_
  exact h
theorem lw_c17 {N K : Nat} {I : aI} {L : aL} (hR : Rel N K I L) (hK : K ≤ 1000000) (hl : len ≤ 3072) (hi : i + 5 < len) (hk : k ≤ 600000) (hn : n ≤ 7302250) (kk : ∀ I' L', Rel N (K + 1) I' L' → ExL len xs k n 1106 (lsI i) [] (St N I' L')) : ExL len xs k n 725 (lsI i) [] (St N I L) := by
  refine ExL.aload_n (pc := 725) (i := 1) dL_725 rfl rfl ?_
  refine ExL.pair (pc := 726) (pc2 := 730) (av := []) (tw_clean hR) dL_726 cL_87 rfl hk hn (fun v S h => ?_) dL_730 cL_90 dL_733 (by decide) kk
  refine ExL.aload_n (pc := 729) (i := 2) dL_729 rfl rfl ?_
  exact h
theorem lw_c18 {N K : Nat} {I : aI} {L : aL} (hR : Rel N K I L) (hK : K ≤ 1000000) (hl : len ≤ 3072) (hi : i + 5 < len) (hk : k ≤ 600000) (hn : n ≤ 7302250) (kk : ∀ I' L', Rel N (K + 1) I' L' → ExL len xs k n 1106 (lsI i) [] (St N I' L')) : ExL len xs k n 738 (lsI i) [] (St N I L) := by
  refine ExL.aload_n (pc := 738) (i := 1) dL_738 rfl rfl ?_
  refine ExL.pair (pc := 739) (pc2 := 743) (av := []) (tw_see hR) dL_739 cL_91 rfl hk hn (fun v S h => ?_) dL_743 cL_94 dL_746 (by decide) kk
  refine ExL.aload_n (pc := 742) (i := 2) dL_742 rfl rfl ?_
  exact h
theorem lw_c19 {N K : Nat} {I : aI} {L : aL} (hR : Rel N K I L) (hK : K ≤ 1000000) (hl : len ≤ 3072) (hi : i + 5 < len) (hk : k ≤ 600000) (hn : n ≤ 7302250) (kk : ∀ I' L', Rel N (K + 1) I' L' → ExL len xs k n 1106 (lsI i) [] (St N I' L')) : ExL len xs k n 751 (lsI i) [] (St N I L) := by
  refine ExL.aload_n (pc := 751) (i := 1) dL_751 rfl rfl ?_
  refine ExL.pair (pc := 752) (pc2 := 756) (av := []) (tw_which hR) dL_752 cL_95 rfl hk hn (fun v S h => ?_) dL_756 cL_98 dL_759 (by decide) kk
  refine ExL.aload_n (pc := 755) (i := 2) dL_755 rfl rfl ?_
  exact h
theorem lw_c20 {N K : Nat} {I : aI} {L : aL} (hR : Rel N K I L) (hK : K ≤ 1000000) (hl : len ≤ 3072) (hi : i + 5 < len) (hk : k ≤ 600000) (hn : n ≤ 7302250) (kk : ∀ I' L', Rel N (K + 1) I' L' → ExL len xs k n 1106 (lsI i) [] (St N I' L')) : ExL len xs k n 764 (lsI i) [] (St N I L) := by
  refine ExL.aload_n (pc := 764) (i := 1) dL_764 rfl rfl ?_
  refine ExL.arg (pc := 765) (j := 1) hl (by omega) dL_765 dL_766 dL_767 rfl dL_768 dL_769 ?_
  refine ExL.arg (pc := 770) (j := 2) hl (by omega) dL_770 dL_771 dL_772 rfl dL_773 dL_774 ?_
  refine ExL.pair (pc := 775) (pc2 := 789) (av := [.int (xs (i + 1)), .int (xs (i + 2))]) (tw_tells hR) dL_775 cL_99 rfl hk hn (fun v S h => ?_) dL_789 cL_102 dL_792 (by decide) kk
  refine ExL.aload_n (pc := 778) (i := 2) dL_778 rfl rfl ?_
  refine ExL.arg (pc := 779) (j := 1) hl (by omega) dL_779 dL_780 dL_781 rfl dL_782 dL_783 ?_
  refine ExL.arg (pc := 784) (j := 2) hl (by omega) dL_784 dL_785 dL_786 rfl dL_787 dL_788 ?_
  exact h
theorem lw_c21 {N K : Nat} {I : aI} {L : aL} (hR : Rel N K I L) (hK : K ≤ 1000000) (hl : len ≤ 3072) (hi : i + 5 < len) (hk : k ≤ 600000) (hn : n ≤ 7302250) (kk : ∀ I' L', Rel N (K + 1) I' L' → ExL len xs k n 1106 (lsI i) [] (St N I' L')) : ExL len xs k n 797 (lsI i) [] (St N I L) := by
  refine ExL.aload_n (pc := 797) (i := 1) dL_797 rfl rfl ?_
  refine ExL.arg (pc := 798) (j := 1) hl (by omega) dL_798 dL_799 dL_800 rfl dL_801 dL_802 ?_
  refine ExL.pair (pc := 803) (pc2 := 812) (av := [.int (xs (i + 1))]) (tw_weeks hK hR) dL_803 cL_103 rfl hk hn (fun v S h => ?_) dL_812 cL_106 dL_815 (by decide) kk
  refine ExL.aload_n (pc := 806) (i := 2) dL_806 rfl rfl ?_
  refine ExL.arg (pc := 807) (j := 1) hl (by omega) dL_807 dL_808 dL_809 rfl dL_810 dL_811 ?_
  exact h
theorem lw_c22 {N K : Nat} {I : aI} {L : aL} (hR : Rel N K I L) (hK : K ≤ 1000000) (hl : len ≤ 3072) (hi : i + 5 < len) (hk : k ≤ 600000) (hn : n ≤ 7302250) (kk : ∀ I' L', Rel N (K + 1) I' L' → ExL len xs k n 1106 (lsI i) [] (St N I' L')) : ExL len xs k n 820 (lsI i) [] (St N I L) := by
  refine ExL.aload_n (pc := 820) (i := 1) dL_820 rfl rfl ?_
  refine ExL.arg (pc := 821) (j := 1) hl (by omega) dL_821 dL_822 dL_823 rfl dL_824 dL_825 ?_
  refine ExL.pair (pc := 826) (pc2 := 835) (av := [.int (xs (i + 1))]) (tw_chance hK hR) dL_826 cL_107 rfl hk hn (fun v S h => ?_) dL_835 cL_110 dL_838 (by decide) kk
  refine ExL.aload_n (pc := 829) (i := 2) dL_829 rfl rfl ?_
  refine ExL.arg (pc := 830) (j := 1) hl (by omega) dL_830 dL_831 dL_832 rfl dL_833 dL_834 ?_
  exact h
theorem lw_c23 {N K : Nat} {I : aI} {L : aL} (hR : Rel N K I L) (hK : K ≤ 1000000) (hl : len ≤ 3072) (hi : i + 5 < len) (hk : k ≤ 600000) (hn : n ≤ 7302250) (kk : ∀ I' L', Rel N (K + 1) I' L' → ExL len xs k n 1106 (lsI i) [] (St N I' L')) : ExL len xs k n 843 (lsI i) [] (St N I L) := by
  refine ExL.aload_n (pc := 843) (i := 1) dL_843 rfl rfl ?_
  refine ExL.arg (pc := 844) (j := 1) hl (by omega) dL_844 dL_845 dL_846 rfl dL_847 dL_848 ?_
  refine ExL.arg (pc := 849) (j := 2) hl (by omega) dL_849 dL_850 dL_851 rfl dL_852 dL_853 ?_
  refine ExL.arg (pc := 854) (j := 3) hl (by omega) dL_854 dL_855 dL_856 rfl dL_857 dL_858 ?_
  refine ExL.pair (pc := 859) (pc2 := 878) (av := [.int (xs (i + 1)), .int (xs (i + 2)), .int (xs (i + 3))]) (tw_sermon hK hR) dL_859 cL_111 rfl hk hn (fun v S h => ?_) dL_878 cL_114 dL_881 (by decide) kk
  refine ExL.aload_n (pc := 862) (i := 2) dL_862 rfl rfl ?_
  refine ExL.arg (pc := 863) (j := 1) hl (by omega) dL_863 dL_864 dL_865 rfl dL_866 dL_867 ?_
  refine ExL.arg (pc := 868) (j := 2) hl (by omega) dL_868 dL_869 dL_870 rfl dL_871 dL_872 ?_
  refine ExL.arg (pc := 873) (j := 3) hl (by omega) dL_873 dL_874 dL_875 rfl dL_876 dL_877 ?_
  exact h
theorem lw_c24 {N K : Nat} {I : aI} {L : aL} (hR : Rel N K I L) (hK : K ≤ 1000000) (hl : len ≤ 3072) (hi : i + 5 < len) (hk : k ≤ 600000) (hn : n ≤ 7302250) (kk : ∀ I' L', Rel N (K + 1) I' L' → ExL len xs k n 1106 (lsI i) [] (St N I' L')) : ExL len xs k n 886 (lsI i) [] (St N I L) := by
  refine ExL.aload_n (pc := 886) (i := 1) dL_886 rfl rfl ?_
  refine ExL.arg (pc := 887) (j := 1) hl (by omega) dL_887 dL_888 dL_889 rfl dL_890 dL_891 ?_
  refine ExL.arg (pc := 892) (j := 2) hl (by omega) dL_892 dL_893 dL_894 rfl dL_895 dL_896 ?_
  refine ExL.pair (pc := 897) (pc2 := 911) (av := [.int (xs (i + 1)), .int (xs (i + 2))]) (tw_soil hR) dL_897 cL_115 rfl hk hn (fun v S h => ?_) dL_911 cL_118 dL_914 (by decide) kk
  refine ExL.aload_n (pc := 900) (i := 2) dL_900 rfl rfl ?_
  refine ExL.arg (pc := 901) (j := 1) hl (by omega) dL_901 dL_902 dL_903 rfl dL_904 dL_905 ?_
  refine ExL.arg (pc := 906) (j := 2) hl (by omega) dL_906 dL_907 dL_908 rfl dL_909 dL_910 ?_
  exact h
theorem lw_c25 {N K : Nat} {I : aI} {L : aL} (hR : Rel N K I L) (hK : K ≤ 1000000) (hl : len ≤ 3072) (hi : i + 5 < len) (hk : k ≤ 600000) (hn : n ≤ 7302250) (kk : ∀ I' L', Rel N (K + 1) I' L' → ExL len xs k n 1106 (lsI i) [] (St N I' L')) : ExL len xs k n 919 (lsI i) [] (St N I L) := by
  refine ExL.aload_n (pc := 919) (i := 1) dL_919 rfl rfl ?_
  refine ExL.arg (pc := 920) (j := 1) hl (by omega) dL_920 dL_921 dL_922 rfl dL_923 dL_924 ?_
  refine ExL.pair (pc := 925) (pc2 := 934) (av := [.int (xs (i + 1))]) (tw_mend hR) dL_925 cL_119 rfl hk hn (fun v S h => ?_) dL_934 cL_122 dL_937 (by decide) kk
  refine ExL.aload_n (pc := 928) (i := 2) dL_928 rfl rfl ?_
  refine ExL.arg (pc := 929) (j := 1) hl (by omega) dL_929 dL_930 dL_931 rfl dL_932 dL_933 ?_
  exact h
theorem lw_c26 {N K : Nat} {I : aI} {L : aL} (hR : Rel N K I L) (hK : K ≤ 1000000) (hl : len ≤ 3072) (hi : i + 5 < len) (hk : k ≤ 600000) (hn : n ≤ 7302250) (kk : ∀ I' L', Rel N (K + 1) I' L' → ExL len xs k n 1106 (lsI i) [] (St N I' L')) : ExL len xs k n 942 (lsI i) [] (St N I L) := by
  refine ExL.aload_n (pc := 942) (i := 1) dL_942 rfl rfl ?_
  refine ExL.arg (pc := 943) (j := 1) hl (by omega) dL_943 dL_944 dL_945 rfl dL_946 dL_947 ?_
  refine ExL.pair (pc := 948) (pc2 := 957) (av := [.int (xs (i + 1))]) (tw_pour hR) dL_948 cL_123 rfl hk hn (fun v S h => ?_) dL_957 cL_126 dL_960 (by decide) kk
  refine ExL.aload_n (pc := 951) (i := 2) dL_951 rfl rfl ?_
  refine ExL.arg (pc := 952) (j := 1) hl (by omega) dL_952 dL_953 dL_954 rfl dL_955 dL_956 ?_
  exact h
theorem lw_c27 {N K : Nat} {I : aI} {L : aL} (hR : Rel N K I L) (hK : K ≤ 1000000) (hl : len ≤ 3072) (hi : i + 5 < len) (hk : k ≤ 600000) (hn : n ≤ 7302250) (kk : ∀ I' L', Rel N (K + 1) I' L' → ExL len xs k n 1106 (lsI i) [] (St N I' L')) : ExL len xs k n 965 (lsI i) [] (St N I L) := by
  refine ExL.aload_n (pc := 965) (i := 1) dL_965 rfl rfl ?_
  refine ExL.pair (pc := 966) (pc2 := 970) (av := []) (tw_undo hR) dL_966 cL_127 rfl hk hn (fun v S h => ?_) dL_970 cL_131 dL_973 (by decide) kk
  refine ExL.aload_n (pc := 969) (i := 2) dL_969 rfl rfl ?_
  exact h
theorem lw_c28 {N K : Nat} {I : aI} {L : aL} (hR : Rel N K I L) (hK : K ≤ 1000000) (hl : len ≤ 3072) (hi : i + 5 < len) (hk : k ≤ 600000) (hn : n ≤ 7302250) (kk : ∀ I' L', Rel N (K + 1) I' L' → ExL len xs k n 1106 (lsI i) [] (St N I' L')) : ExL len xs k n 978 (lsI i) [] (St N I L) := by
  refine ExL.aload_n (pc := 978) (i := 1) dL_978 rfl rfl ?_
  refine ExL.arg (pc := 979) (j := 1) hl (by omega) dL_979 dL_980 dL_981 rfl dL_982 dL_983 ?_
  refine ExL.pair (pc := 984) (pc2 := 993) (av := [.int (xs (i + 1))]) (tw_seed hR) dL_984 cL_132 rfl hk hn (fun v S h => ?_) dL_993 cL_135 dL_996 (by decide) kk
  refine ExL.aload_n (pc := 987) (i := 2) dL_987 rfl rfl ?_
  refine ExL.arg (pc := 988) (j := 1) hl (by omega) dL_988 dL_989 dL_990 rfl dL_991 dL_992 ?_
  exact h
theorem lw_c29 {N K : Nat} {I : aI} {L : aL} (hR : Rel N K I L) (hK : K ≤ 1000000) (hl : len ≤ 3072) (hi : i + 5 < len) (hk : k ≤ 600000) (hn : n ≤ 7302250) (kk : ∀ I' L', Rel N (K + 1) I' L' → ExL len xs k n 1106 (lsI i) [] (St N I' L')) : ExL len xs k n 1001 (lsI i) [] (St N I L) := by
  refine ExL.aload_n (pc := 1001) (i := 1) dL_1001 rfl rfl ?_
  refine ExL.arg (pc := 1002) (j := 1) hl (by omega) dL_1002 dL_1003 dL_1004 rfl dL_1005 dL_1006 ?_
  refine ExL.arg (pc := 1007) (j := 2) hl (by omega) dL_1007 dL_1008 dL_1009 rfl dL_1010 dL_1011 ?_
  refine ExL.pair (pc := 1012) (pc2 := 1026) (av := [.int (xs (i + 1)), .int (xs (i + 2))]) (tw_kept hR) dL_1012 cL_136 rfl hk hn (fun v S h => ?_) dL_1026 cL_139 dL_1029 (by decide) kk
  refine ExL.aload_n (pc := 1015) (i := 2) dL_1015 rfl rfl ?_
  refine ExL.arg (pc := 1016) (j := 1) hl (by omega) dL_1016 dL_1017 dL_1018 rfl dL_1019 dL_1020 ?_
  refine ExL.arg (pc := 1021) (j := 2) hl (by omega) dL_1021 dL_1022 dL_1023 rfl dL_1024 dL_1025 ?_
  exact h
theorem lw_c30 {N K : Nat} {I : aI} {L : aL} (hR : Rel N K I L) (hK : K ≤ 1000000) (hl : len ≤ 3072) (hi : i + 5 < len) (hk : k ≤ 600000) (hn : n ≤ 7302250) (kk : ∀ I' L', Rel N (K + 1) I' L' → ExL len xs k n 1106 (lsI i) [] (St N I' L')) : ExL len xs k n 1034 (lsI i) [] (St N I L) := by
  refine ExL.aload_n (pc := 1034) (i := 1) dL_1034 rfl rfl ?_
  refine ExL.pair (pc := 1035) (pc2 := 1039) (av := []) (tw_image hR) dL_1035 cL_140 rfl hk hn (fun v S h => ?_) dL_1039 cL_143 dL_1042 (by decide) kk
  refine ExL.aload_n (pc := 1038) (i := 2) dL_1038 rfl rfl ?_
  exact h
theorem lw_c31 {N K : Nat} {I : aI} {L : aL} (hR : Rel N K I L) (hK : K ≤ 1000000) (hl : len ≤ 3072) (hi : i + 5 < len) (hk : k ≤ 600000) (hn : n ≤ 7302250) (kk : ∀ I' L', Rel N (K + 1) I' L' → ExL len xs k n 1106 (lsI i) [] (St N I' L')) : ExL len xs k n 1047 (lsI i) [] (St N I L) := by
  refine ExL.aload_n (pc := 1047) (i := 1) dL_1047 rfl rfl ?_
  refine ExL.arg (pc := 1048) (j := 1) hl (by omega) dL_1048 dL_1049 dL_1050 rfl dL_1051 dL_1052 ?_
  refine ExL.pair (pc := 1053) (pc2 := 1062) (av := [.int (xs (i + 1))]) (tw_octet hR) dL_1053 cL_144 rfl hk hn (fun v S h => ?_) dL_1062 cL_147 dL_1065 (by decide) kk
  refine ExL.aload_n (pc := 1056) (i := 2) dL_1056 rfl rfl ?_
  refine ExL.arg (pc := 1057) (j := 1) hl (by omega) dL_1057 dL_1058 dL_1059 rfl dL_1060 dL_1061 ?_
  exact h
theorem lw_c32 {N K : Nat} {I : aI} {L : aL} (hR : Rel N K I L) (hK : K ≤ 1000000) (hl : len ≤ 3072) (hi : i + 5 < len) (hk : k ≤ 600000) (hn : n ≤ 7302250) (kk : ∀ I' L', Rel N (K + 1) I' L' → ExL len xs k n 1106 (lsI i) [] (St N I' L')) : ExL len xs k n 1070 (lsI i) [] (St N I L) := by
  refine ExL.aload_n (pc := 1070) (i := 1) dL_1070 rfl rfl ?_
  refine ExL.pair (pc := 1071) (pc2 := 1075) (av := []) (tw_on hR) dL_1071 cL_148 rfl hk hn (fun v S h => ?_) dL_1075 cL_151 dL_1078 (by decide) kk
  refine ExL.aload_n (pc := 1074) (i := 2) dL_1074 rfl rfl ?_
  exact h
theorem lw_c33 {N K : Nat} {I : aI} {L : aL} (hR : Rel N K I L) (hK : K ≤ 1000000) (hl : len ≤ 3072) (hi : i + 5 < len) (hk : k ≤ 600000) (hn : n ≤ 7302250) (kk : ∀ I' L', Rel N (K + 1) I' L' → ExL len xs k n 1106 (lsI i) [] (St N I' L')) : ExL len xs k n 1083 (lsI i) [] (St N I L) := by
  refine ExL.aload_n (pc := 1083) (i := 1) dL_1083 rfl rfl ?_
  refine ExL.arg (pc := 1084) (j := 1) hl (by omega) dL_1084 dL_1085 dL_1086 rfl dL_1087 dL_1088 ?_
  refine ExL.pair (pc := 1089) (pc2 := 1098) (av := [.int (xs (i + 1))]) (tw_status hR) dL_1089 cL_152 rfl hk hn (fun v S h => ?_) dL_1098 cL_155 dL_1101 (by decide) kk
  refine ExL.aload_n (pc := 1092) (i := 2) dL_1092 rfl rfl ?_
  refine ExL.arg (pc := 1093) (j := 1) hl (by omega) dL_1093 dL_1094 dL_1095 rfl dL_1096 dL_1097 ?_
  exact h
end CASE
