theorem isNm_no {sc : Nat} {t : Tk} {c : Cd} (h : ∀ q, 1 ≤ q → q < 12 → isW (nmOf q) (.ok (t, c)) = false) : isNm sc (.ok (t, c)) = false := by
  show (decide (t.1 = 2) && mayW (ownW t.2.2.1) sc) = false
  by_cases h2 : t.1 = 2
  · rw [decide_eq_true h2, Bool.true_and]
    have hn : ∀ q, 1 ≤ q → q < 12 → ¬ ownW t.2.2.1 = nI (nmOf q) := fun q q1 q2 e => (of_decide_eq_false (h q q1 q2)) ⟨h2, e⟩
    unfold mayW
    rw [if_neg, if_neg, if_neg]
    · rintro (e | e | e)
      · exact hn 9 (by decide) (by decide) e
      · exact hn 10 (by decide) (by decide) e
      · exact hn 11 (by decide) (by decide) e
    · rintro (e | e)
      · exact hn 7 (by decide) (by decide) e
      · exact hn 8 (by decide) (by decide) e
    · rintro (e | e | e | e | e | e)
      · exact hn 1 (by decide) (by decide) e
      · exact hn 2 (by decide) (by decide) e
      · exact hn 3 (by decide) (by decide) e
      · exact hn 4 (by decide) (by decide) e
      · exact hn 5 (by decide) (by decide) e
      · exact hn 6 (by decide) (by decide) e
  · rw [decide_eq_false h2]; rfl
set_option maxRecDepth 20000 in
theorem tm_o313 {N n b w : Nat} {tb : Nat → Nat} {I J : aI} {L M : aL} {f : Fr} {fs : List Fr} {o : Nat} {t : Tk} {c : Cd} {C : Cf} {x1 x2 : Int32} (W : Wk tb n b w I L J M (f :: fs) o t c) (hb : b < 2) (hw : w < 5) (hc : t.1 ≠ 1 → c.length < 1600) (hC : C = (if isK 3 (.ok (t, c) : Er) = true then (true, f :: fs, o, nx tb n (adS (0, numR (.ok (t, c))) (.ok (t, c)))) else if isNm (9 + w) (.ok (t, c)) = true then (true, f :: fs, o, nx tb n (adS (1, ownR (.ok (t, c))) (.ok (t, c)))) else (true, f :: fs, o, stp 1 (.ok (t, c))) : Cf)) : Ex 3 0 0 mX10_operand 0 0 313 [some (.ref 36), some (.int x1), some (.int x2), none] [] (St N J M) (RX N (fun x I2 L2 => ∃ v : Bool, x = some (.int (bI v)) ∧ RdF b I L I2 L2 ∧ ReC tb n b I2 L2 C v)) := by
  have k3 := W.2.2.2.1.k3 (k := 2) (by decide)
  refine Ex.aload_n (pc := 313) dX10_operand_313 rfl rfl ?_
  refine Ex.getI (pc := 314) dX10_operand_314 fX10_20 (sh36 _) ?_
  refine Ex.iconst (pc := 317) (v := 2) dX10_operand_317 rfl ?_
  refine Ex.icmp_ne (pc := 318) (tgt := 325) dX10_operand_318 (by decide) (fun c318 => ?_) (fun c318 => ?_)
  · skip
    refine Ex.aload_n (pc := 325) dX10_operand_325 rfl rfl ?_
    refine Ex.ldc2 (pc := 326) dX10_operand_326 kv_X10_252 ?_
    refine Ex.callV (pc := 329) (As := [.long _]) (rest := []) dX10_operand_329 cX10_328 (tm_wW W.2.2.2.1 (k := 1) (by decide) (by decide) c) (sh36 _) rfl rfl (by decide) (Nat.le_refl _) (Nat.le_refl _) (Nat.le_of_ble_eq_true rfl) (Or.inl (fun r S' h => by obtain ⟨_, h⟩ := h; subst h; rfl)) (fun r S' hq _ _ => ?_)
    obtain ⟨rfl, rfl⟩ := hq
    refine Ex.if_eq (pc := 332) (tgt := 339) dX10_operand_332 (by decide) (fun c332 => ?_) (fun c332 => ?_)
    · skip
      refine Ex.aload_n (pc := 339) dX10_operand_339 rfl rfl ?_
      refine Ex.ldc2 (pc := 340) dX10_operand_340 kv_X10_254 ?_
      refine Ex.callV (pc := 343) (As := [.long _]) (rest := []) dX10_operand_343 cX10_328 (tm_wW W.2.2.2.1 (k := 2) (by decide) (by decide) c) (sh36 _) rfl rfl (by decide) (Nat.le_refl _) (Nat.le_refl _) (Nat.le_of_ble_eq_true rfl) (Or.inl (fun r S' h => by obtain ⟨_, h⟩ := h; subst h; rfl)) (fun r S' hq _ _ => ?_)
      obtain ⟨rfl, rfl⟩ := hq
      refine Ex.if_eq (pc := 346) (tgt := 353) dX10_operand_346 (by decide) (fun c346 => ?_) (fun c346 => ?_)
      · skip
        refine Ex.aload_n (pc := 353) dX10_operand_353 rfl rfl ?_
        refine Ex.ldc2 (pc := 354) dX10_operand_354 kv_X10_258 ?_
        refine Ex.callV (pc := 357) (As := [.long _]) (rest := []) dX10_operand_357 cX10_328 (tm_wW W.2.2.2.1 (k := 4) (by decide) (by decide) c) (sh36 _) rfl rfl (by decide) (Nat.le_refl _) (Nat.le_refl _) (Nat.le_of_ble_eq_true rfl) (Or.inl (fun r S' h => by obtain ⟨_, h⟩ := h; subst h; rfl)) (fun r S' hq _ _ => ?_)
        obtain ⟨rfl, rfl⟩ := hq
        refine Ex.if_eq (pc := 360) (tgt := 367) dX10_operand_360 (by decide) (fun c360 => ?_) (fun c360 => ?_)
        · skip
          refine Ex.aload_n (pc := 367) dX10_operand_367 rfl rfl ?_
          refine Ex.ldc2 (pc := 368) dX10_operand_368 kv_X10_260 ?_
          refine Ex.callV (pc := 371) (As := [.long _]) (rest := []) dX10_operand_371 cX10_328 (tm_wW W.2.2.2.1 (k := 5) (by decide) (by decide) c) (sh36 _) rfl rfl (by decide) (Nat.le_refl _) (Nat.le_refl _) (Nat.le_of_ble_eq_true rfl) (Or.inl (fun r S' h => by obtain ⟨_, h⟩ := h; subst h; rfl)) (fun r S' hq _ _ => ?_)
          obtain ⟨rfl, rfl⟩ := hq
          refine Ex.if_eq (pc := 374) (tgt := 381) dX10_operand_374 (by decide) (fun c374 => ?_) (fun c374 => ?_)
          · skip
            refine Ex.aload_n (pc := 381) dX10_operand_381 rfl rfl ?_
            refine Ex.ldc2 (pc := 382) dX10_operand_382 kv_X10_278 ?_
            refine Ex.callV (pc := 385) (As := [.long _]) (rest := []) dX10_operand_385 cX10_328 (tm_wW W.2.2.2.1 (k := 14) (by decide) (by decide) c) (sh36 _) rfl rfl (by decide) (Nat.le_refl _) (Nat.le_refl _) (Nat.le_of_ble_eq_true rfl) (Or.inl (fun r S' h => by obtain ⟨_, h⟩ := h; subst h; rfl)) (fun r S' hq _ _ => ?_)
            obtain ⟨rfl, rfl⟩ := hq
            refine Ex.if_eq (pc := 388) (tgt := 395) dX10_operand_388 (by decide) (fun c388 => ?_) (fun c388 => ?_)
            · skip
              refine Ex.aload_n (pc := 395) dX10_operand_395 rfl rfl ?_
              refine Ex.ldc2 (pc := 396) dX10_operand_396 kv_X10_282 ?_
              refine Ex.callV (pc := 399) (As := [.long _]) (rest := []) dX10_operand_399 cX10_328 (tm_wW W.2.2.2.1 (k := 16) (by decide) (by decide) c) (sh36 _) rfl rfl (by decide) (Nat.le_refl _) (Nat.le_refl _) (Nat.le_of_ble_eq_true rfl) (Or.inl (fun r S' h => by obtain ⟨_, h⟩ := h; subst h; rfl)) (fun r S' hq _ _ => ?_)
              obtain ⟨rfl, rfl⟩ := hq
              refine Ex.if_eq (pc := 402) (tgt := 410) dX10_operand_402 (by decide) (fun c402 => ?_) (fun c402 => ?_)
              · skip
                refine Ex.aload_n (pc := 410) dX10_operand_410 rfl rfl ?_
                refine Ex.ldc2 (pc := 411) dX10_operand_411 kv_X10_284 ?_
                refine Ex.callV (pc := 414) (As := [.long _]) (rest := []) dX10_operand_414 cX10_328 (tm_wW W.2.2.2.1 (k := 17) (by decide) (by decide) c) (sh36 _) rfl rfl (by decide) (Nat.le_refl _) (Nat.le_refl _) (Nat.le_of_ble_eq_true rfl) (Or.inl (fun r S' h => by obtain ⟨_, h⟩ := h; subst h; rfl)) (fun r S' hq _ _ => ?_)
                obtain ⟨rfl, rfl⟩ := hq
                refine Ex.if_eq (pc := 417) (tgt := 425) dX10_operand_417 (by decide) (fun c417 => ?_) (fun c417 => ?_)
                · skip
                  refine Ex.aload_n (pc := 425) dX10_operand_425 rfl rfl ?_
                  refine Ex.ldc2 (pc := 426) dX10_operand_426 kv_X10_286 ?_
                  refine Ex.callV (pc := 429) (As := [.long _]) (rest := []) dX10_operand_429 cX10_328 (tm_wW W.2.2.2.1 (k := 18) (by decide) (by decide) c) (sh36 _) rfl rfl (by decide) (Nat.le_refl _) (Nat.le_refl _) (Nat.le_of_ble_eq_true rfl) (Or.inl (fun r S' h => by obtain ⟨_, h⟩ := h; subst h; rfl)) (fun r S' hq _ _ => ?_)
                  obtain ⟨rfl, rfl⟩ := hq
                  refine Ex.if_eq (pc := 432) (tgt := 440) dX10_operand_432 (by decide) (fun c432 => ?_) (fun c432 => ?_)
                  · skip
                    refine Ex.aload_n (pc := 440) dX10_operand_440 rfl rfl ?_
                    refine Ex.ldc2 (pc := 441) dX10_operand_441 kv_X10_264 ?_
                    refine Ex.callV (pc := 444) (As := [.long _]) (rest := []) dX10_operand_444 cX10_328 (tm_wW W.2.2.2.1 (k := 7) (by decide) (by decide) c) (sh36 _) rfl rfl (by decide) (Nat.le_refl _) (Nat.le_refl _) (Nat.le_of_ble_eq_true rfl) (Or.inl (fun r S' h => by obtain ⟨_, h⟩ := h; subst h; rfl)) (fun r S' hq _ _ => ?_)
                    obtain ⟨rfl, rfl⟩ := hq
                    refine Ex.if_eq (pc := 447) (tgt := 455) dX10_operand_447 (by decide) (fun c447 => ?_) (fun c447 => ?_)
                    · skip
                      refine Ex.aload_n (pc := 455) dX10_operand_455 rfl rfl ?_
                      refine Ex.ldc2 (pc := 456) dX10_operand_456 kv_X10_266 ?_
                      refine Ex.callV (pc := 459) (As := [.long _]) (rest := []) dX10_operand_459 cX10_328 (tm_wW W.2.2.2.1 (k := 8) (by decide) (by decide) c) (sh36 _) rfl rfl (by decide) (Nat.le_refl _) (Nat.le_refl _) (Nat.le_of_ble_eq_true rfl) (Or.inl (fun r S' h => by obtain ⟨_, h⟩ := h; subst h; rfl)) (fun r S' hq _ _ => ?_)
                      obtain ⟨rfl, rfl⟩ := hq
                      refine Ex.if_eq (pc := 462) (tgt := 470) dX10_operand_462 (by decide) (fun c462 => ?_) (fun c462 => ?_)
                      · skip
                        refine Ex.aload_n (pc := 470) dX10_operand_470 rfl rfl ?_
                        refine Ex.ldc2 (pc := 471) dX10_operand_471 kv_X10_288 ?_
                        refine Ex.callV (pc := 474) (As := [.long _]) (rest := []) dX10_operand_474 cX10_328 (tm_wW W.2.2.2.1 (k := 19) (by decide) (by decide) c) (sh36 _) rfl rfl (by decide) (Nat.le_refl _) (Nat.le_refl _) (Nat.le_of_ble_eq_true rfl) (Or.inl (fun r S' h => by obtain ⟨_, h⟩ := h; subst h; rfl)) (fun r S' hq _ _ => ?_)
                        obtain ⟨rfl, rfl⟩ := hq
                        refine Ex.if_eq (pc := 477) (tgt := 485) dX10_operand_477 (by decide) (fun c477 => ?_) (fun c477 => ?_)
                        · skip
                          refine Ex.iconst (pc := 485) (v := (-1)) dX10_operand_485 rfl ?_
                          refine Ex.istore_n (pc := 486) (ls' := [some (.ref 36), some (.int _), some (.int _), some (.int (-1))]) dX10_operand_486 rfl (by decide) rfl rfl ?_
                          have h3 : isK 3 (.ok (t, c) : Er) = false := decide_eq_false (fun e => c318 (k3.mpr e))
                          rw [if_neg (by rw [h3]; decide)] at hC
                          have hn : isNm (9 + w) (.ok (t, c)) = false := isNm_no (fun q q1 q2 => by
                            have hq : q = 1 ∨ q = 2 ∨ q = 3 ∨ q = 4 ∨ q = 5 ∨ q = 6 ∨ q = 7 ∨ q = 8 ∨ q = 9 ∨ q = 10 ∨ q = 11 := by omega
                            rcases hq with rfl | rfl | rfl | rfl | rfl | rfl | rfl | rfl | rfl | rfl | rfl
                            · exact bI_0 c332
                            · exact bI_0 c346
                            · exact bI_0 c360
                            · exact bI_0 c374
                            · exact bI_0 c388
                            · exact bI_0 c402
                            · exact bI_0 c417
                            · exact bI_0 c432
                            · exact bI_0 c447
                            · exact bI_0 c462
                            · exact bI_0 c477)
                          rw [if_neg (by rw [hn]; decide)] at hC
                          refine Ex.iload_n (pc := 487) dX10_operand_487 rfl rfl ?_
                          refine Ex.bipush (pc := 488) (v := 7) dX10_operand_488 rfl ?_
                          refine Ex.icmp_lt (pc := 490) (tgt := 535) dX10_operand_490 (by decide) (fun _ => ?_) (fun c490 => absurd (by decide) c490)
                          refine Ex.iload_n (pc := 535) dX10_operand_535 rfl rfl ?_
                          refine Ex.iconst (pc := 536) (v := (-1)) dX10_operand_536 rfl ?_
                          refine Ex.icmp_ne (pc := 537) (tgt := 549) dX10_operand_537 (by decide) (fun c537 => absurd (by decide) c537) (fun _ => ?_)
                          exact tm_o540 W hC
                        · skip
                          refine Ex.bipush (pc := 480) (v := 11) dX10_operand_480 rfl ?_
                          refine Ex.goto (pc := 482) (tgt := 486) dX10_operand_482 (by decide) ?_
                          refine Ex.istore_n (pc := 486) (ls' := [some (.ref 36), some (.int _), some (.int _), some (.int 11)]) dX10_operand_486 rfl (by decide) rfl rfl ?_
                          have h3 : isK 3 (.ok (t, c) : Er) = false := decide_eq_false (fun e => c318 (k3.mpr e))
                          rw [if_neg (by rw [h3]; decide)] at hC
                          have hk := bI_1 c477
                          have h2k : t.1 = 2 := (of_decide_eq_true hk).1
                          rw [(isW_x hk).2.1, show ownR (.ok (t, c)) = 19 from own_n hk (by decide)] at hC
                          exact tm_o487 (q := 11) W hb hw (hc (by omega)) (by decide) (by decide) (by rw [hC]; show _ = (true, f :: fs, o, if mayW (nI 19) (9 + w) = true then _ else _); split <;> rfl)
                      · skip
                        refine Ex.bipush (pc := 465) (v := 10) dX10_operand_465 rfl ?_
                        refine Ex.goto (pc := 467) (tgt := 486) dX10_operand_467 (by decide) ?_
                        refine Ex.istore_n (pc := 486) (ls' := [some (.ref 36), some (.int _), some (.int _), some (.int 10)]) dX10_operand_486 rfl (by decide) rfl rfl ?_
                        have h3 : isK 3 (.ok (t, c) : Er) = false := decide_eq_false (fun e => c318 (k3.mpr e))
                        rw [if_neg (by rw [h3]; decide)] at hC
                        have hk := bI_1 c462
                        have h2k : t.1 = 2 := (of_decide_eq_true hk).1
                        rw [(isW_x hk).2.1, show ownR (.ok (t, c)) = 8 from own_n hk (by decide)] at hC
                        exact tm_o487 (q := 10) W hb hw (hc (by omega)) (by decide) (by decide) (by rw [hC]; show _ = (true, f :: fs, o, if mayW (nI 8) (9 + w) = true then _ else _); split <;> rfl)
                    · skip
                      refine Ex.bipush (pc := 450) (v := 9) dX10_operand_450 rfl ?_
                      refine Ex.goto (pc := 452) (tgt := 486) dX10_operand_452 (by decide) ?_
                      refine Ex.istore_n (pc := 486) (ls' := [some (.ref 36), some (.int _), some (.int _), some (.int 9)]) dX10_operand_486 rfl (by decide) rfl rfl ?_
                      have h3 : isK 3 (.ok (t, c) : Er) = false := decide_eq_false (fun e => c318 (k3.mpr e))
                      rw [if_neg (by rw [h3]; decide)] at hC
                      have hk := bI_1 c447
                      have h2k : t.1 = 2 := (of_decide_eq_true hk).1
                      rw [(isW_x hk).2.1, show ownR (.ok (t, c)) = 7 from own_n hk (by decide)] at hC
                      exact tm_o487 (q := 9) W hb hw (hc (by omega)) (by decide) (by decide) (by rw [hC]; show _ = (true, f :: fs, o, if mayW (nI 7) (9 + w) = true then _ else _); split <;> rfl)
                  · skip
                    refine Ex.bipush (pc := 435) (v := 8) dX10_operand_435 rfl ?_
                    refine Ex.goto (pc := 437) (tgt := 486) dX10_operand_437 (by decide) ?_
                    refine Ex.istore_n (pc := 486) (ls' := [some (.ref 36), some (.int _), some (.int _), some (.int 8)]) dX10_operand_486 rfl (by decide) rfl rfl ?_
                    have h3 : isK 3 (.ok (t, c) : Er) = false := decide_eq_false (fun e => c318 (k3.mpr e))
                    rw [if_neg (by rw [h3]; decide)] at hC
                    have hk := bI_1 c432
                    have h2k : t.1 = 2 := (of_decide_eq_true hk).1
                    rw [(isW_x hk).2.1, show ownR (.ok (t, c)) = 18 from own_n hk (by decide)] at hC
                    exact tm_o487 (q := 8) W hb hw (hc (by omega)) (by decide) (by decide) (by rw [hC]; show _ = (true, f :: fs, o, if mayW (nI 18) (9 + w) = true then _ else _); split <;> rfl)
                · skip
                  refine Ex.bipush (pc := 420) (v := 7) dX10_operand_420 rfl ?_
                  refine Ex.goto (pc := 422) (tgt := 486) dX10_operand_422 (by decide) ?_
                  refine Ex.istore_n (pc := 486) (ls' := [some (.ref 36), some (.int _), some (.int _), some (.int 7)]) dX10_operand_486 rfl (by decide) rfl rfl ?_
                  have h3 : isK 3 (.ok (t, c) : Er) = false := decide_eq_false (fun e => c318 (k3.mpr e))
                  rw [if_neg (by rw [h3]; decide)] at hC
                  have hk := bI_1 c417
                  have h2k : t.1 = 2 := (of_decide_eq_true hk).1
                  rw [(isW_x hk).2.1, show ownR (.ok (t, c)) = 17 from own_n hk (by decide)] at hC
                  exact tm_o487 (q := 7) W hb hw (hc (by omega)) (by decide) (by decide) (by rw [hC]; show _ = (true, f :: fs, o, if mayW (nI 17) (9 + w) = true then _ else _); split <;> rfl)
              · skip
                refine Ex.bipush (pc := 405) (v := 6) dX10_operand_405 rfl ?_
                refine Ex.goto (pc := 407) (tgt := 486) dX10_operand_407 (by decide) ?_
                refine Ex.istore_n (pc := 486) (ls' := [some (.ref 36), some (.int _), some (.int _), some (.int 6)]) dX10_operand_486 rfl (by decide) rfl rfl ?_
                have h3 : isK 3 (.ok (t, c) : Er) = false := decide_eq_false (fun e => c318 (k3.mpr e))
                rw [if_neg (by rw [h3]; decide)] at hC
                have hk := bI_1 c402
                have h2k : t.1 = 2 := (of_decide_eq_true hk).1
                rw [(isW_x hk).2.1, show ownR (.ok (t, c)) = 16 from own_n hk (by decide)] at hC
                exact tm_o487 (q := 6) W hb hw (hc (by omega)) (by decide) (by decide) (by rw [hC]; show _ = (true, f :: fs, o, if mayW (nI 16) (9 + w) = true then _ else _); split <;> rfl)
            · skip
              refine Ex.iconst (pc := 391) (v := 5) dX10_operand_391 rfl ?_
              refine Ex.goto (pc := 392) (tgt := 486) dX10_operand_392 (by decide) ?_
              refine Ex.istore_n (pc := 486) (ls' := [some (.ref 36), some (.int _), some (.int _), some (.int 5)]) dX10_operand_486 rfl (by decide) rfl rfl ?_
              have h3 : isK 3 (.ok (t, c) : Er) = false := decide_eq_false (fun e => c318 (k3.mpr e))
              rw [if_neg (by rw [h3]; decide)] at hC
              have hk := bI_1 c388
              have h2k : t.1 = 2 := (of_decide_eq_true hk).1
              rw [(isW_x hk).2.1, show ownR (.ok (t, c)) = 14 from own_n hk (by decide)] at hC
              exact tm_o487 (q := 5) W hb hw (hc (by omega)) (by decide) (by decide) (by rw [hC]; show _ = (true, f :: fs, o, if mayW (nI 14) (9 + w) = true then _ else _); split <;> rfl)
          · skip
            refine Ex.iconst (pc := 377) (v := 4) dX10_operand_377 rfl ?_
            refine Ex.goto (pc := 378) (tgt := 486) dX10_operand_378 (by decide) ?_
            refine Ex.istore_n (pc := 486) (ls' := [some (.ref 36), some (.int _), some (.int _), some (.int 4)]) dX10_operand_486 rfl (by decide) rfl rfl ?_
            have h3 : isK 3 (.ok (t, c) : Er) = false := decide_eq_false (fun e => c318 (k3.mpr e))
            rw [if_neg (by rw [h3]; decide)] at hC
            have hk := bI_1 c374
            have h2k : t.1 = 2 := (of_decide_eq_true hk).1
            rw [(isW_x hk).2.1, show ownR (.ok (t, c)) = 5 from own_n hk (by decide)] at hC
            exact tm_o487 (q := 4) W hb hw (hc (by omega)) (by decide) (by decide) (by rw [hC]; show _ = (true, f :: fs, o, if mayW (nI 5) (9 + w) = true then _ else _); split <;> rfl)
        · skip
          refine Ex.iconst (pc := 363) (v := 3) dX10_operand_363 rfl ?_
          refine Ex.goto (pc := 364) (tgt := 486) dX10_operand_364 (by decide) ?_
          refine Ex.istore_n (pc := 486) (ls' := [some (.ref 36), some (.int _), some (.int _), some (.int 3)]) dX10_operand_486 rfl (by decide) rfl rfl ?_
          have h3 : isK 3 (.ok (t, c) : Er) = false := decide_eq_false (fun e => c318 (k3.mpr e))
          rw [if_neg (by rw [h3]; decide)] at hC
          have hk := bI_1 c360
          have h2k : t.1 = 2 := (of_decide_eq_true hk).1
          rw [(isW_x hk).2.1, show ownR (.ok (t, c)) = 4 from own_n hk (by decide)] at hC
          exact tm_o487 (q := 3) W hb hw (hc (by omega)) (by decide) (by decide) (by rw [hC]; show _ = (true, f :: fs, o, if mayW (nI 4) (9 + w) = true then _ else _); split <;> rfl)
      · skip
        refine Ex.iconst (pc := 349) (v := 2) dX10_operand_349 rfl ?_
        refine Ex.goto (pc := 350) (tgt := 486) dX10_operand_350 (by decide) ?_
        refine Ex.istore_n (pc := 486) (ls' := [some (.ref 36), some (.int _), some (.int _), some (.int 2)]) dX10_operand_486 rfl (by decide) rfl rfl ?_
        have h3 : isK 3 (.ok (t, c) : Er) = false := decide_eq_false (fun e => c318 (k3.mpr e))
        rw [if_neg (by rw [h3]; decide)] at hC
        have hk := bI_1 c346
        have h2k : t.1 = 2 := (of_decide_eq_true hk).1
        rw [(isW_x hk).2.1, show ownR (.ok (t, c)) = 2 from own_n hk (by decide)] at hC
        exact tm_o487 (q := 2) W hb hw (hc (by omega)) (by decide) (by decide) (by rw [hC]; show _ = (true, f :: fs, o, if mayW (nI 2) (9 + w) = true then _ else _); split <;> rfl)
    · skip
      refine Ex.iconst (pc := 335) (v := 1) dX10_operand_335 rfl ?_
      refine Ex.goto (pc := 336) (tgt := 486) dX10_operand_336 (by decide) ?_
      refine Ex.istore_n (pc := 486) (ls' := [some (.ref 36), some (.int _), some (.int _), some (.int 1)]) dX10_operand_486 rfl (by decide) rfl rfl ?_
      have h3 : isK 3 (.ok (t, c) : Er) = false := decide_eq_false (fun e => c318 (k3.mpr e))
      rw [if_neg (by rw [h3]; decide)] at hC
      have hk := bI_1 c332
      have h2k : t.1 = 2 := (of_decide_eq_true hk).1
      rw [(isW_x hk).2.1, show ownR (.ok (t, c)) = 1 from own_n hk (by decide)] at hC
      exact tm_o487 (q := 1) W hb hw (hc (by omega)) (by decide) (by decide) (by rw [hC]; show _ = (true, f :: fs, o, if mayW (nI 1) (9 + w) = true then _ else _); split <;> rfl)
  · skip
    refine Ex.iconst (pc := 321) (v := 0) dX10_operand_321 rfl ?_
    refine Ex.goto (pc := 322) (tgt := 486) dX10_operand_322 (by decide) ?_
    refine Ex.istore_n (pc := 486) (ls' := [some (.ref 36), some (.int _), some (.int _), some (.int 0)]) dX10_operand_486 rfl (by decide) rfl rfl ?_
    have h3 : t.1 = 3 := k3.mp c318
    rw [if_pos (show isK 3 (.ok (t, c) : Er) = true from decide_eq_true h3)] at hC
    have hv := W.2.2.2.1.2.1.2.2.2.2.2 (Or.inl h3)
    refine Ex.iload_n (pc := 487) dX10_operand_487 rfl rfl ?_
    refine Ex.bipush (pc := 488) (v := 7) dX10_operand_488 rfl ?_
    refine Ex.icmp_lt (pc := 490) (tgt := 535) dX10_operand_490 (by decide) (fun _ => ?_) (fun c490 => absurd (by decide) c490)
    refine Ex.iload_n (pc := 535) dX10_operand_535 rfl rfl ?_
    refine Ex.iconst (pc := 536) (v := (-1)) dX10_operand_536 rfl ?_
    refine Ex.icmp_ne (pc := 537) (tgt := 549) dX10_operand_537 (by decide) (fun _ => ?_) (fun c537 => absurd c537 (by decide))
    refine Ex.aload_n (pc := 549) dX10_operand_549 rfl rfl ?_
    refine Ex.getI (pc := 550) dX10_operand_550 fX10_36 (sh36 _) ?_
    refine Ex.if_le (pc := 553) (tgt := 558) dX10_operand_553 (by decide) (fun _ => ?_) (fun c553 => absurd (by rw [W.2.2.2.1.1]; decide) c553)
    exact tm_o558 W hb (hc (by omega)) (s := (0, t.2.1)) (Or.inl ⟨rfl, rfl, hv⟩) hC
set_option maxRecDepth 20000 in
theorem tm_o250 {N n b w : Nat} {tb : Nat → Nat} {I J : aI} {L M : aL} {f : Fr} {fs : List Fr} {o : Nat} {t : Tk} {c : Cd} {C : Cf} {x1 x2 : Int32} {p : Nat} (W : Wk tb n b w I L J M (f :: fs) o t c) (hb : b < 2) (hw : w < 5) (hc : t.1 ≠ 1 → c.length < 1600) (ho : o ≤ 7) (hd : fs.length < 19) (hp : p = 7 ∨ p = 8 ∨ p = 15) (hC : C = (if isS 40 (nx tb n (.ok (t, c))) = true then opnF tb n (if p = 15 then 6 else 3) p (f :: fs) o (nx tb n (.ok (t, c))) else (false, f :: fs, o, stp 1 (nx tb n (.ok (t, c)))))) : Ex 3 0 0 mX10_operand 0 0 250 [some (.ref 36), some (.int x1), some (.int x2), some (.int (nI (sN p)))] [] (St N J M) (RX N (fun x I2 L2 => ∃ v : Bool, x = some (.int (bI v)) ∧ RdF b I L I2 L2 ∧ ReC tb n b I2 L2 C v)) := by
  have h44 : nI (sN p) = 44 ↔ p = 15 := by rcases hp with rfl | rfl | rfl <;> decide
  refine Ex.aload_n (pc := 250) dX10_operand_250 rfl rfl ?_
  refine Ex.callV (pc := 251) (As := []) (rest := []) dX10_operand_251 cX10_247 (Wk.nx W) (sh36 _) rfl rfl (by decide) (Nat.le_refl _) (Nat.le_refl _) (Nat.le_of_ble_eq_true rfl) (Or.inl (fun r S' h => by obtain ⟨_, _, h, _⟩ := h; subst h; rfl)) (fun r S' hq _ _ => ?_)
  obtain ⟨I3, L3, rfl, rfl, g3, m3, z3, f3, k3⟩ := hq
  refine Ex.aload_n (pc := 254) dX10_operand_254 rfl rfl ?_
  refine Ex.callV (pc := 255) (As := []) (rest := []) dX10_operand_255 cX10_241 (tm_lexR (tb := tb) W.2.1.2.2 m3) (sh36 _) rfl rfl (by decide) (Nat.le_refl _) (Nat.le_refl _) (Nat.le_of_ble_eq_true rfl) (Or.inl (fun r S' h => by obtain ⟨_, _, h, _⟩ := h; subst h; rfl)) (fun r S' hq _ _ => ?_)
  obtain ⟨I4, L4, rfl, rfl, g4, m4⟩ := hq
  rcases hx : nx tb n (.ok (t, c)) with e | ⟨t2, c2⟩
  · rw [hx] at m4
    have hE : C.2.2.2 = .error e := by rw [hC, hx]; rfl
    refine Ex.aload_n (pc := 258) dX10_operand_258 rfl rfl ?_
    refine Ex.bipush (pc := 259) (v := 40) dX10_operand_259 rfl ?_
    refine Ex.callV (pc := 261) (As := [.int 40]) (rest := []) dX10_operand_261 cX10_244 (tm_isSign) (sh36 _) rfl rfl (by decide) (Nat.le_refl _) (Nat.le_refl _) (Nat.le_of_ble_eq_true rfl) (Or.inl (fun r S' h => by obtain ⟨_, h⟩ := h; subst h; rfl)) (fun r S' hq _ _ => ?_)
    obtain ⟨rfl, rfl⟩ := hq
    refine Ex.if_ne (pc := 264) (tgt := 276) dX10_operand_264 (by decide) (fun c264 => ?_) (fun c264 => ?_)
    · skip
      refine Ex.aload_n (pc := 276) dX10_operand_276 rfl rfl ?_
      refine Ex.iload_n (pc := 277) dX10_operand_277 rfl rfl ?_
      refine Ex.bipush (pc := 278) (v := 44) dX10_operand_278 rfl ?_
      refine Ex.icmp_ne (pc := 280) (tgt := 288) dX10_operand_280 (by decide) (fun c280 => ?_) (fun c280 => ?_)
      · skip
        refine Ex.iconst (pc := 288) (v := 3) dX10_operand_288 rfl ?_
        refine Ex.callV (pc := 289) (As := [.int 3]) (rest := []) dX10_operand_289 cX10_335 (tm_opnE m4) (sh36 _) rfl rfl (by decide) (Nat.le_refl _) (Nat.le_refl _) (Nat.le_of_ble_eq_true rfl) (Or.inl (fun r S' h => by obtain ⟨_, _, h, _⟩ := h; subst h; rfl)) (fun r S' hq _ _ => ?_)
        obtain ⟨I6, L6, rfl, rfl, g6, m6⟩ := hq
        refine Ex.aload_n (pc := 292) dX10_operand_292 rfl rfl ?_
        refine Ex.getI (pc := 293) dX10_operand_293 fX10_36 (sh36 _) ?_
        refine Ex.if_ne (pc := 296) (tgt := 311) dX10_operand_296 (by decide) (fun _ => ?_) (fun c296 => absurd c296 m6.bad)
        refine Ex.iconst (pc := 311) (v := 0) dX10_operand_311 rfl ?_
        refine Ex.iret (pc := 312) rfl rfl rfl dX10_operand_312 (Nat.le_refl _) (Nat.le_refl _) ?_
        exact ⟨_, _, rfl, false, rfl, g3.tr (MkG.rd (g4.tr g6)), ReC.e hE ⟨e, rfl⟩ m6.t⟩
      · skip
        refine Ex.bipush (pc := 283) (v := 6) dX10_operand_283 rfl ?_
        refine Ex.goto (pc := 285) (tgt := 289) dX10_operand_285 (by decide) ?_
        refine Ex.callV (pc := 289) (As := [.int 6]) (rest := []) dX10_operand_289 cX10_335 (tm_opnE m4) (sh36 _) rfl rfl (by decide) (Nat.le_refl _) (Nat.le_refl _) (Nat.le_of_ble_eq_true rfl) (Or.inl (fun r S' h => by obtain ⟨_, _, h, _⟩ := h; subst h; rfl)) (fun r S' hq _ _ => ?_)
        obtain ⟨I6, L6, rfl, rfl, g6, m6⟩ := hq
        refine Ex.aload_n (pc := 292) dX10_operand_292 rfl rfl ?_
        refine Ex.getI (pc := 293) dX10_operand_293 fX10_36 (sh36 _) ?_
        refine Ex.if_ne (pc := 296) (tgt := 311) dX10_operand_296 (by decide) (fun _ => ?_) (fun c296 => absurd c296 m6.bad)
        refine Ex.iconst (pc := 311) (v := 0) dX10_operand_311 rfl ?_
        refine Ex.iret (pc := 312) rfl rfl rfl dX10_operand_312 (Nat.le_refl _) (Nat.le_refl _) ?_
        exact ⟨_, _, rfl, false, rfl, g3.tr (MkG.rd (g4.tr g6)), ReC.e hE ⟨e, rfl⟩ m6.t⟩
    · skip
      refine Ex.aload_n (pc := 267) dX10_operand_267 rfl rfl ?_
      refine Ex.iconst (pc := 268) (v := 1) dX10_operand_268 rfl ?_
      refine Ex.aload_n (pc := 269) dX10_operand_269 rfl rfl ?_
      refine Ex.getI (pc := 270) dX10_operand_270 fX10_23 (sh36 _) ?_
      refine Ex.callV (pc := 273) (As := [.int 1, .int _]) (rest := []) dX10_operand_273 cX10_230 (tm_stp (r := .error e) (k := 1) m4 (by decide) (by decide) (fun t c q => by cases q)) (sh36 _) rfl rfl (by decide) (Nat.le_refl _) (Nat.le_refl _) (Nat.le_of_ble_eq_true rfl) (Or.inl (fun r S' h => by obtain ⟨_, _, h, _⟩ := h; subst h; rfl)) (fun r S' hq _ _ => ?_)
      obtain ⟨I5, L5, rfl, rfl, g5, m5⟩ := hq
      refine Ex.aload_n (pc := 276) dX10_operand_276 rfl rfl ?_
      refine Ex.iload_n (pc := 277) dX10_operand_277 rfl rfl ?_
      refine Ex.bipush (pc := 278) (v := 44) dX10_operand_278 rfl ?_
      refine Ex.icmp_ne (pc := 280) (tgt := 288) dX10_operand_280 (by decide) (fun c280 => ?_) (fun c280 => ?_)
      · skip
        refine Ex.iconst (pc := 288) (v := 3) dX10_operand_288 rfl ?_
        refine Ex.callV (pc := 289) (As := [.int 3]) (rest := []) dX10_operand_289 cX10_335 (tm_opnE m5) (sh36 _) rfl rfl (by decide) (Nat.le_refl _) (Nat.le_refl _) (Nat.le_of_ble_eq_true rfl) (Or.inl (fun r S' h => by obtain ⟨_, _, h, _⟩ := h; subst h; rfl)) (fun r S' hq _ _ => ?_)
        obtain ⟨I6, L6, rfl, rfl, g6, m6⟩ := hq
        refine Ex.aload_n (pc := 292) dX10_operand_292 rfl rfl ?_
        refine Ex.getI (pc := 293) dX10_operand_293 fX10_36 (sh36 _) ?_
        refine Ex.if_ne (pc := 296) (tgt := 311) dX10_operand_296 (by decide) (fun _ => ?_) (fun c296 => absurd c296 m6.bad)
        refine Ex.iconst (pc := 311) (v := 0) dX10_operand_311 rfl ?_
        refine Ex.iret (pc := 312) rfl rfl rfl dX10_operand_312 (Nat.le_refl _) (Nat.le_refl _) ?_
        exact ⟨_, _, rfl, false, rfl, g3.tr (MkG.rd ((g4.tr g5).tr g6)), ReC.e hE ⟨e, rfl⟩ m6.t⟩
      · skip
        refine Ex.bipush (pc := 283) (v := 6) dX10_operand_283 rfl ?_
        refine Ex.goto (pc := 285) (tgt := 289) dX10_operand_285 (by decide) ?_
        refine Ex.callV (pc := 289) (As := [.int 6]) (rest := []) dX10_operand_289 cX10_335 (tm_opnE m5) (sh36 _) rfl rfl (by decide) (Nat.le_refl _) (Nat.le_refl _) (Nat.le_of_ble_eq_true rfl) (Or.inl (fun r S' h => by obtain ⟨_, _, h, _⟩ := h; subst h; rfl)) (fun r S' hq _ _ => ?_)
        obtain ⟨I6, L6, rfl, rfl, g6, m6⟩ := hq
        refine Ex.aload_n (pc := 292) dX10_operand_292 rfl rfl ?_
        refine Ex.getI (pc := 293) dX10_operand_293 fX10_36 (sh36 _) ?_
        refine Ex.if_ne (pc := 296) (tgt := 311) dX10_operand_296 (by decide) (fun _ => ?_) (fun c296 => absurd c296 m6.bad)
        refine Ex.iconst (pc := 311) (v := 0) dX10_operand_311 rfl ?_
        refine Ex.iret (pc := 312) rfl rfl rfl dX10_operand_312 (Nat.le_refl _) (Nat.le_refl _) ?_
        exact ⟨_, _, rfl, false, rfl, g3.tr (MkG.rd ((g4.tr g5).tr g6)), ReC.e hE ⟨e, rfl⟩ m6.t⟩
  · rw [hx] at m4
    have hc2 := nx_c hx
    have m4 : RMo tb n I4 L4 t2 := m4
    have W4 : Wk tb n b w I L I4 L4 (f :: fs) o t2 c2 := ⟨g3.tr g4.rd, (W.2.1.g k3).g g4, ⟨by rw [g4.2.1 33 (by decide), k3.2.1 33 (by decide)]; exact W.2.2.1.1, by rw [g4.2.1 34 (by decide), k3.2.1 34 (by decide)]; exact W.2.2.1.2⟩, m4, by rw [hc2]; exact f3.g g4⟩
    refine Ex.aload_n (pc := 258) dX10_operand_258 rfl rfl ?_
    refine Ex.bipush (pc := 259) (v := 40) dX10_operand_259 rfl ?_
    refine Ex.callV (pc := 261) (As := [.int 40]) (rest := []) dX10_operand_261 cX10_244 (tm_sW m4 (k := 40) (by decide) c2) (sh36 _) rfl rfl (by decide) (Nat.le_refl _) (Nat.le_refl _) (Nat.le_of_ble_eq_true rfl) (Or.inl (fun r S' h => by obtain ⟨_, h⟩ := h; subst h; rfl)) (fun r S' hq _ _ => ?_)
    obtain ⟨rfl, rfl⟩ := hq
    refine Ex.if_ne (pc := 264) (tgt := 276) dX10_operand_264 (by decide) (fun c264 => ?_) (fun c264 => ?_)
    · skip
      refine Ex.aload_n (pc := 276) dX10_operand_276 rfl rfl ?_
      refine Ex.iload_n (pc := 277) dX10_operand_277 rfl rfl ?_
      refine Ex.bipush (pc := 278) (v := 44) dX10_operand_278 rfl ?_
      refine Ex.icmp_ne (pc := 280) (tgt := 288) dX10_operand_280 (by decide) (fun c280 => ?_) (fun c280 => ?_)
      · skip
        refine Ex.iconst (pc := 288) (v := 3) dX10_operand_288 rfl ?_
        refine Ex.callV (pc := 289) (As := [.int 3]) (rest := []) dX10_operand_289 cX10_335 (tm_opnO (k := 3) W4 ho (by show fs.length + 1 < 20; omega)) (sh36 _) rfl rfl (by decide) (Nat.le_refl _) (Nat.le_refl _) (Nat.le_of_ble_eq_true rfl) (Or.inl (fun r S' h => by obtain ⟨_, _, h, _⟩ := h; subst h; rfl)) (fun r S' hq _ _ => ?_)
        obtain ⟨I6, L6, rfl, rfl, g6, m6⟩ := hq
        have hs := bI_1 c264
        rw [if_pos (by rw [hx]; exact hs)] at hC
        rw [if_neg (fun z => c280 (h44.mpr z))] at hC
        unfold opnF at hC
        rcases m6 with ⟨h7, m6⟩ | ⟨h7, m6, z6, K, fK, eK⟩
        · skip
          refine Ex.aload_n (pc := 292) dX10_operand_292 rfl rfl ?_
          refine Ex.getI (pc := 293) dX10_operand_293 fX10_36 (sh36 _) ?_
          refine Ex.if_ne (pc := 296) (tgt := 311) dX10_operand_296 (by decide) (fun _ => ?_) (fun c296 => absurd c296 (RMs.bad (e := (5, t2.2.2.2.1)) m6))
          refine Ex.iconst (pc := 311) (v := 0) dX10_operand_311 rfl ?_
          refine Ex.iret (pc := 312) rfl rfl rfl dX10_operand_312 (Nat.le_refl _) (Nat.le_refl _) ?_
          rw [if_pos h7, hx] at hC
          exact ⟨_, _, rfl, false, rfl, g6, ReC.e (r := stp 5 (.ok (t2, c2))) (by rw [hC]) (stp_r _) m6.t⟩
        · skip
          have e40 : I6 36 40 - 1 = nI (fs.length + 1) := by
            rw [eK]; unfold puM; rw [mf_s, show (1 : Int32) = nI 1 from rfl]; exact pk_sub (a := fs.length + 1 + 1) (by omega)
          refine Ex.aload_n (pc := 292) dX10_operand_292 rfl rfl ?_
          refine Ex.getI (pc := 293) dX10_operand_293 fX10_36 (sh36 _) ?_
          refine Ex.if_ne (pc := 296) (tgt := 311) dX10_operand_296 (by decide) (fun c296 => absurd z6 c296) (fun _ => ?_)
          refine Ex.aload_n (pc := 299) dX10_operand_299 rfl rfl ?_
          refine Ex.getR (pc := 300) dX10_operand_300 fX10_128 (sh36 _) r36_38 ?_
          refine Ex.aload_n (pc := 303) dX10_operand_303 rfl rfl ?_
          refine Ex.getI (pc := 304) dX10_operand_304 fX10_134 (sh36 _) ?_
          refine Ex.iconst (pc := 307) (v := 1) dX10_operand_307 rfl ?_
          refine Ex.isub (pc := 308) dX10_operand_308 ?_
          refine Ex.iload_n (pc := 309) dX10_operand_309 rfl rfl ?_
          refine Ex.iast (pc := 310) (j := fs.length + 1) dX10_operand_310 (sh59 _) (by rw [e40]; exact vp_in_nI (by omega) (by decide)) (by rw [e40]; exact nI_clamp (by omega)) ?_
          refine Ex.iconst (pc := 311) (v := 0) dX10_operand_311 rfl ?_
          refine Ex.iret (pc := 312) rfl rfl rfl dX10_operand_312 (Nat.le_refl _) (Nat.le_refl _) ?_
          rw [if_neg (by omega), hx] at hC
          subst hC
          refine ⟨_, _, rfl, false, rfl, g6.tr (UF.rd (uf_a (by decide))), m6.u (b := b) (uf_a (by decide)), fun t3 c3 q => ⟨rfl, ?_⟩⟩
          rw [nx_c q]
          refine FrM.pu fK (fun a ha => ?_) (fun j hj => ?_) (fun _ => ?_)
          · rw [va_up_n ha, eK]
          · have hj : j < fs.length + 1 := hj
            rw [va_up_s, upd_n (by omega), eK]; unfold puM; rw [mf_o (by decide), va_up_n (by decide), va_up_n (by decide), va_up_n (by decide), va_up_n (by decide)]
          · rw [va_up_s]; exact upd_s
      · skip
        refine Ex.bipush (pc := 283) (v := 6) dX10_operand_283 rfl ?_
        refine Ex.goto (pc := 285) (tgt := 289) dX10_operand_285 (by decide) ?_
        refine Ex.callV (pc := 289) (As := [.int 6]) (rest := []) dX10_operand_289 cX10_335 (tm_opnO (k := 6) W4 ho (by show fs.length + 1 < 20; omega)) (sh36 _) rfl rfl (by decide) (Nat.le_refl _) (Nat.le_refl _) (Nat.le_of_ble_eq_true rfl) (Or.inl (fun r S' h => by obtain ⟨_, _, h, _⟩ := h; subst h; rfl)) (fun r S' hq _ _ => ?_)
        obtain ⟨I6, L6, rfl, rfl, g6, m6⟩ := hq
        have hs := bI_1 c264
        rw [if_pos (by rw [hx]; exact hs)] at hC
        rw [if_pos (h44.mp c280)] at hC
        unfold opnF at hC
        rcases m6 with ⟨h7, m6⟩ | ⟨h7, m6, z6, K, fK, eK⟩
        · skip
          refine Ex.aload_n (pc := 292) dX10_operand_292 rfl rfl ?_
          refine Ex.getI (pc := 293) dX10_operand_293 fX10_36 (sh36 _) ?_
          refine Ex.if_ne (pc := 296) (tgt := 311) dX10_operand_296 (by decide) (fun _ => ?_) (fun c296 => absurd c296 (RMs.bad (e := (5, t2.2.2.2.1)) m6))
          refine Ex.iconst (pc := 311) (v := 0) dX10_operand_311 rfl ?_
          refine Ex.iret (pc := 312) rfl rfl rfl dX10_operand_312 (Nat.le_refl _) (Nat.le_refl _) ?_
          rw [if_pos h7, hx] at hC
          exact ⟨_, _, rfl, false, rfl, g6, ReC.e (r := stp 5 (.ok (t2, c2))) (by rw [hC]) (stp_r _) m6.t⟩
        · skip
          have e40 : I6 36 40 - 1 = nI (fs.length + 1) := by
            rw [eK]; unfold puM; rw [mf_s, show (1 : Int32) = nI 1 from rfl]; exact pk_sub (a := fs.length + 1 + 1) (by omega)
          refine Ex.aload_n (pc := 292) dX10_operand_292 rfl rfl ?_
          refine Ex.getI (pc := 293) dX10_operand_293 fX10_36 (sh36 _) ?_
          refine Ex.if_ne (pc := 296) (tgt := 311) dX10_operand_296 (by decide) (fun c296 => absurd z6 c296) (fun _ => ?_)
          refine Ex.aload_n (pc := 299) dX10_operand_299 rfl rfl ?_
          refine Ex.getR (pc := 300) dX10_operand_300 fX10_128 (sh36 _) r36_38 ?_
          refine Ex.aload_n (pc := 303) dX10_operand_303 rfl rfl ?_
          refine Ex.getI (pc := 304) dX10_operand_304 fX10_134 (sh36 _) ?_
          refine Ex.iconst (pc := 307) (v := 1) dX10_operand_307 rfl ?_
          refine Ex.isub (pc := 308) dX10_operand_308 ?_
          refine Ex.iload_n (pc := 309) dX10_operand_309 rfl rfl ?_
          refine Ex.iast (pc := 310) (j := fs.length + 1) dX10_operand_310 (sh59 _) (by rw [e40]; exact vp_in_nI (by omega) (by decide)) (by rw [e40]; exact nI_clamp (by omega)) ?_
          refine Ex.iconst (pc := 311) (v := 0) dX10_operand_311 rfl ?_
          refine Ex.iret (pc := 312) rfl rfl rfl dX10_operand_312 (Nat.le_refl _) (Nat.le_refl _) ?_
          rw [if_neg (by omega), hx] at hC
          subst hC
          refine ⟨_, _, rfl, false, rfl, g6.tr (UF.rd (uf_a (by decide))), m6.u (b := b) (uf_a (by decide)), fun t3 c3 q => ⟨rfl, ?_⟩⟩
          rw [nx_c q]
          refine FrM.pu fK (fun a ha => ?_) (fun j hj => ?_) (fun _ => ?_)
          · rw [va_up_n ha, eK]
          · have hj : j < fs.length + 1 := hj
            rw [va_up_s, upd_n (by omega), eK]; unfold puM; rw [mf_o (by decide), va_up_n (by decide), va_up_n (by decide), va_up_n (by decide), va_up_n (by decide)]
          · rw [va_up_s]; exact upd_s
    · skip
      refine Ex.aload_n (pc := 267) dX10_operand_267 rfl rfl ?_
      refine Ex.iconst (pc := 268) (v := 1) dX10_operand_268 rfl ?_
      refine Ex.aload_n (pc := 269) dX10_operand_269 rfl rfl ?_
      refine Ex.getI (pc := 270) dX10_operand_270 fX10_23 (sh36 _) ?_
      refine Ex.callV (pc := 273) (As := [.int 1, .int _]) (rest := []) dX10_operand_273 cX10_230 (tm_stp (r := .ok (t2, c2)) (k := 1) m4 (by decide) (by decide) (RMs.at (r := .ok (t2, c2)) m4)) (sh36 _) rfl rfl (by decide) (Nat.le_refl _) (Nat.le_refl _) (Nat.le_of_ble_eq_true rfl) (Or.inl (fun r S' h => by obtain ⟨_, _, h, _⟩ := h; subst h; rfl)) (fun r S' hq _ _ => ?_)
      obtain ⟨I5, L5, rfl, rfl, g5, m5⟩ := hq
      refine Ex.aload_n (pc := 276) dX10_operand_276 rfl rfl ?_
      refine Ex.iload_n (pc := 277) dX10_operand_277 rfl rfl ?_
      refine Ex.bipush (pc := 278) (v := 44) dX10_operand_278 rfl ?_
      refine Ex.icmp_ne (pc := 280) (tgt := 288) dX10_operand_280 (by decide) (fun c280 => ?_) (fun c280 => ?_)
      · skip
        refine Ex.iconst (pc := 288) (v := 3) dX10_operand_288 rfl ?_
        refine Ex.callV (pc := 289) (As := [.int 3]) (rest := []) dX10_operand_289 cX10_335 (tm_opnE (e := (1, t2.2.2.2.1)) m5) (sh36 _) rfl rfl (by decide) (Nat.le_refl _) (Nat.le_refl _) (Nat.le_of_ble_eq_true rfl) (Or.inl (fun r S' h => by obtain ⟨_, _, h, _⟩ := h; subst h; rfl)) (fun r S' hq _ _ => ?_)
        obtain ⟨I6, L6, rfl, rfl, g6, m6⟩ := hq
        refine Ex.aload_n (pc := 292) dX10_operand_292 rfl rfl ?_
        refine Ex.getI (pc := 293) dX10_operand_293 fX10_36 (sh36 _) ?_
        refine Ex.if_ne (pc := 296) (tgt := 311) dX10_operand_296 (by decide) (fun _ => ?_) (fun c296 => absurd c296 (RMs.bad (e := (1, t2.2.2.2.1)) m6))
        refine Ex.iconst (pc := 311) (v := 0) dX10_operand_311 rfl ?_
        refine Ex.iret (pc := 312) rfl rfl rfl dX10_operand_312 (Nat.le_refl _) (Nat.le_refl _) ?_
        have hs := bI_0 c264
        rw [if_neg (by rw [hx, hs]; decide), hx] at hC
        exact ⟨_, _, rfl, false, rfl, W4.1.tr (MkG.rd (g5.tr g6)), ReC.e (r := stp 1 (.ok (t2, c2))) (by rw [hC]) (stp_r _) m6.t⟩
      · skip
        refine Ex.bipush (pc := 283) (v := 6) dX10_operand_283 rfl ?_
        refine Ex.goto (pc := 285) (tgt := 289) dX10_operand_285 (by decide) ?_
        refine Ex.callV (pc := 289) (As := [.int 6]) (rest := []) dX10_operand_289 cX10_335 (tm_opnE (e := (1, t2.2.2.2.1)) m5) (sh36 _) rfl rfl (by decide) (Nat.le_refl _) (Nat.le_refl _) (Nat.le_of_ble_eq_true rfl) (Or.inl (fun r S' h => by obtain ⟨_, _, h, _⟩ := h; subst h; rfl)) (fun r S' hq _ _ => ?_)
        obtain ⟨I6, L6, rfl, rfl, g6, m6⟩ := hq
        refine Ex.aload_n (pc := 292) dX10_operand_292 rfl rfl ?_
        refine Ex.getI (pc := 293) dX10_operand_293 fX10_36 (sh36 _) ?_
        refine Ex.if_ne (pc := 296) (tgt := 311) dX10_operand_296 (by decide) (fun _ => ?_) (fun c296 => absurd c296 (RMs.bad (e := (1, t2.2.2.2.1)) m6))
        refine Ex.iconst (pc := 311) (v := 0) dX10_operand_311 rfl ?_
        refine Ex.iret (pc := 312) rfl rfl rfl dX10_operand_312 (Nat.le_refl _) (Nat.le_refl _) ?_
        have hs := bI_0 c264
        rw [if_neg (by rw [hx, hs]; decide), hx] at hC
        exact ⟨_, _, rfl, false, rfl, W4.1.tr (MkG.rd (g5.tr g6)), ReC.e (r := stp 1 (.ok (t2, c2))) (by rw [hC]) (stp_r _) m6.t⟩
