set_option maxRecDepth 20000 in
theorem tm_g422E {N n b : Nat} {tb : Nat → Nat} {I J : aI} {L M : aL} {C : Cf} {e : Nat × Nat} {k : Nat} {x1 x3 : Int32} (hR : RdF b I L J M) (h : RMs tb n J M (.error e)) (hC : C.2.2.2 = .error e) : Ex 3 0 0 mX10_goesOn 0 0 422 [some (.ref 36), some (.int x1), some (.int (nI k)), some (.int x3), none] [] (St N J M) (RX N (fun x I2 L2 => ∃ v : Bool, x = some (.int (bI v)) ∧ RdF b I L I2 L2 ∧ ReG tb n b I2 L2 C v)) := by
  have hbd := h.bad
  have hle : ¬ J 36 8 ≤ 0 := fun z => hbd (Int32.le_antisymm z (Int32.not_lt.mp h.t.n8))
  have hle2 : ∀ {J : aI} {M : aL}, RMs tb n J M (.error e) → ¬ J 36 8 ≤ 0 := fun {J M} q z => q.bad (Int32.le_antisymm z (Int32.not_lt.mp q.t.n8))
  refine Ex.iload_n (pc := 422) dX10_goesOn_422 rfl rfl ?_
  refine Ex.iconst (pc := 423) (v := 2) dX10_goesOn_423 rfl ?_
  refine Ex.icmp_ge (pc := 424) (tgt := 441) dX10_goesOn_424 (by decide) (fun c424 => ?_) (fun c424 => ?_)
  · skip
    refine Ex.iload_n (pc := 441) dX10_goesOn_441 rfl rfl ?_
    refine Ex.iconst (pc := 442) (v := 3) dX10_goesOn_442 rfl ?_
    refine Ex.icmp_eq (pc := 443) (tgt := 452) dX10_goesOn_443 (by decide) (fun c443 => ?_) (fun c443 => ?_)
    · skip
      refine Ex.aload_n (pc := 452) dX10_goesOn_452 rfl rfl ?_
      refine Ex.bipush (pc := 453) (v := 44) dX10_goesOn_453 rfl ?_
      refine Ex.callV (pc := 455) (As := [.int 44]) (rest := []) dX10_goesOn_455 cX10_244 (tm_isSign) (sh36 _) rfl rfl (by decide) (Nat.le_refl _) (Nat.le_refl _) (Nat.le_of_ble_eq_true rfl) (Or.inl (fun r S' h => by obtain ⟨_, h⟩ := h; subst h; rfl)) (fun r S' hq _ _ => ?_)
      obtain ⟨rfl, rfl⟩ := hq
      refine Ex.if_ne (pc := 458) (tgt := 470) dX10_goesOn_458 (by decide) (fun c458 => ?_) (fun c458 => ?_)
      · skip
        refine Ex.aload_n (pc := 470) dX10_goesOn_470 rfl rfl ?_
        refine Ex.getI (pc := 471) dX10_goesOn_471 fX10_36 (sh36 _) ?_
        refine Ex.if_le (pc := 474) (tgt := 479) dX10_goesOn_474 (by decide) (fun c474 => absurd c474 hle) (fun _ => ?_)
        refine Ex.iconst (pc := 477) (v := 0) dX10_goesOn_477 rfl ?_
        refine Ex.iret (pc := 478) rfl rfl rfl dX10_goesOn_478 (Nat.le_refl _) (Nat.le_refl _) ?_
        exact ⟨_, _, rfl, false, rfl, hR, ReG.e hC ⟨e, rfl⟩ h⟩
      · skip
        refine Ex.aload_n (pc := 461) dX10_goesOn_461 rfl rfl ?_
        refine Ex.iconst (pc := 462) (v := 1) dX10_goesOn_462 rfl ?_
        refine Ex.aload_n (pc := 463) dX10_goesOn_463 rfl rfl ?_
        refine Ex.getI (pc := 464) dX10_goesOn_464 fX10_23 (sh36 _) ?_
        refine Ex.callV (pc := 467) (As := [.int 1, .int _]) (rest := []) dX10_goesOn_467 cX10_230 (tm_stp (r := .error e) (k := 1) h (by decide) (by decide) (fun t c q => by cases q)) (sh36 _) rfl rfl (by decide) (Nat.le_refl _) (Nat.le_refl _) (Nat.le_of_ble_eq_true rfl) (Or.inl (fun r S' h => by obtain ⟨_, _, h, _⟩ := h; subst h; rfl)) (fun r S' hq _ _ => ?_)
        obtain ⟨I5, L5, rfl, rfl, g5, m5⟩ := hq
        refine Ex.aload_n (pc := 470) dX10_goesOn_470 rfl rfl ?_
        refine Ex.getI (pc := 471) dX10_goesOn_471 fX10_36 (sh36 _) ?_
        refine Ex.if_le (pc := 474) (tgt := 479) dX10_goesOn_474 (by decide) (fun c474 => absurd c474 (hle2 m5)) (fun _ => ?_)
        refine Ex.iconst (pc := 477) (v := 0) dX10_goesOn_477 rfl ?_
        refine Ex.iret (pc := 478) rfl rfl rfl dX10_goesOn_478 (Nat.le_refl _) (Nat.le_refl _) ?_
        exact ⟨_, _, rfl, false, rfl, hR.tr g5.rd, ReG.e hC ⟨e, rfl⟩ m5⟩
    · skip
      refine Ex.iload_n (pc := 446) dX10_goesOn_446 rfl rfl ?_
      refine Ex.bipush (pc := 447) (v := 6) dX10_goesOn_447 rfl ?_
      refine Ex.icmp_ne (pc := 449) (tgt := 518) dX10_goesOn_449 (by decide) (fun c449 => ?_) (fun c449 => ?_)
      · skip
        refine Ex.aload_n (pc := 518) dX10_goesOn_518 rfl rfl ?_
        refine Ex.iload_n (pc := 519) dX10_goesOn_519 rfl rfl ?_
        refine Ex.iconst (pc := 520) (v := 5) dX10_goesOn_520 rfl ?_
        refine Ex.icmp_ne (pc := 521) (tgt := 529) dX10_goesOn_521 (by decide) (fun c521 => ?_) (fun c521 => ?_)
        · skip
          refine Ex.bipush (pc := 529) (v := 41) dX10_goesOn_529 rfl ?_
          refine Ex.callV (pc := 531) (As := [.int 41]) (rest := []) dX10_goesOn_531 cX10_244 (tm_isSign) (sh36 _) rfl rfl (by decide) (Nat.le_refl _) (Nat.le_refl _) (Nat.le_of_ble_eq_true rfl) (Or.inl (fun r S' h => by obtain ⟨_, h⟩ := h; subst h; rfl)) (fun r S' hq _ _ => ?_)
          obtain ⟨rfl, rfl⟩ := hq
          refine Ex.if_ne (pc := 534) (tgt := 546) dX10_goesOn_534 (by decide) (fun c534 => ?_) (fun c534 => ?_)
          · skip
            refine Ex.aload_n (pc := 546) dX10_goesOn_546 rfl rfl ?_
            refine Ex.getI (pc := 547) dX10_goesOn_547 fX10_36 (sh36 _) ?_
            refine Ex.if_le (pc := 550) (tgt := 555) dX10_goesOn_550 (by decide) (fun c550 => absurd c550 hle) (fun _ => ?_)
            refine Ex.iconst (pc := 553) (v := 0) dX10_goesOn_553 rfl ?_
            refine Ex.iret (pc := 554) rfl rfl rfl dX10_goesOn_554 (Nat.le_refl _) (Nat.le_refl _) ?_
            exact ⟨_, _, rfl, false, rfl, hR, ReG.e hC ⟨e, rfl⟩ h⟩
          · skip
            refine Ex.aload_n (pc := 537) dX10_goesOn_537 rfl rfl ?_
            refine Ex.iconst (pc := 538) (v := 1) dX10_goesOn_538 rfl ?_
            refine Ex.aload_n (pc := 539) dX10_goesOn_539 rfl rfl ?_
            refine Ex.getI (pc := 540) dX10_goesOn_540 fX10_23 (sh36 _) ?_
            refine Ex.callV (pc := 543) (As := [.int 1, .int _]) (rest := []) dX10_goesOn_543 cX10_230 (tm_stp (r := .error e) (k := 1) h (by decide) (by decide) (fun t c q => by cases q)) (sh36 _) rfl rfl (by decide) (Nat.le_refl _) (Nat.le_refl _) (Nat.le_of_ble_eq_true rfl) (Or.inl (fun r S' h => by obtain ⟨_, _, h, _⟩ := h; subst h; rfl)) (fun r S' hq _ _ => ?_)
            obtain ⟨I5, L5, rfl, rfl, g5, m5⟩ := hq
            refine Ex.aload_n (pc := 546) dX10_goesOn_546 rfl rfl ?_
            refine Ex.getI (pc := 547) dX10_goesOn_547 fX10_36 (sh36 _) ?_
            refine Ex.if_le (pc := 550) (tgt := 555) dX10_goesOn_550 (by decide) (fun c550 => absurd c550 (hle2 m5)) (fun _ => ?_)
            refine Ex.iconst (pc := 553) (v := 0) dX10_goesOn_553 rfl ?_
            refine Ex.iret (pc := 554) rfl rfl rfl dX10_goesOn_554 (Nat.le_refl _) (Nat.le_refl _) ?_
            exact ⟨_, _, rfl, false, rfl, hR.tr g5.rd, ReG.e hC ⟨e, rfl⟩ m5⟩
        · skip
          refine Ex.bipush (pc := 524) (v := 93) dX10_goesOn_524 rfl ?_
          refine Ex.goto (pc := 526) (tgt := 531) dX10_goesOn_526 (by decide) ?_
          refine Ex.callV (pc := 531) (As := [.int 93]) (rest := []) dX10_goesOn_531 cX10_244 (tm_isSign) (sh36 _) rfl rfl (by decide) (Nat.le_refl _) (Nat.le_refl _) (Nat.le_of_ble_eq_true rfl) (Or.inl (fun r S' h => by obtain ⟨_, h⟩ := h; subst h; rfl)) (fun r S' hq _ _ => ?_)
          obtain ⟨rfl, rfl⟩ := hq
          refine Ex.if_ne (pc := 534) (tgt := 546) dX10_goesOn_534 (by decide) (fun c534 => ?_) (fun c534 => ?_)
          · skip
            refine Ex.aload_n (pc := 546) dX10_goesOn_546 rfl rfl ?_
            refine Ex.getI (pc := 547) dX10_goesOn_547 fX10_36 (sh36 _) ?_
            refine Ex.if_le (pc := 550) (tgt := 555) dX10_goesOn_550 (by decide) (fun c550 => absurd c550 hle) (fun _ => ?_)
            refine Ex.iconst (pc := 553) (v := 0) dX10_goesOn_553 rfl ?_
            refine Ex.iret (pc := 554) rfl rfl rfl dX10_goesOn_554 (Nat.le_refl _) (Nat.le_refl _) ?_
            exact ⟨_, _, rfl, false, rfl, hR, ReG.e hC ⟨e, rfl⟩ h⟩
          · skip
            refine Ex.aload_n (pc := 537) dX10_goesOn_537 rfl rfl ?_
            refine Ex.iconst (pc := 538) (v := 1) dX10_goesOn_538 rfl ?_
            refine Ex.aload_n (pc := 539) dX10_goesOn_539 rfl rfl ?_
            refine Ex.getI (pc := 540) dX10_goesOn_540 fX10_23 (sh36 _) ?_
            refine Ex.callV (pc := 543) (As := [.int 1, .int _]) (rest := []) dX10_goesOn_543 cX10_230 (tm_stp (r := .error e) (k := 1) h (by decide) (by decide) (fun t c q => by cases q)) (sh36 _) rfl rfl (by decide) (Nat.le_refl _) (Nat.le_refl _) (Nat.le_of_ble_eq_true rfl) (Or.inl (fun r S' h => by obtain ⟨_, _, h, _⟩ := h; subst h; rfl)) (fun r S' hq _ _ => ?_)
            obtain ⟨I5, L5, rfl, rfl, g5, m5⟩ := hq
            refine Ex.aload_n (pc := 546) dX10_goesOn_546 rfl rfl ?_
            refine Ex.getI (pc := 547) dX10_goesOn_547 fX10_36 (sh36 _) ?_
            refine Ex.if_le (pc := 550) (tgt := 555) dX10_goesOn_550 (by decide) (fun c550 => absurd c550 (hle2 m5)) (fun _ => ?_)
            refine Ex.iconst (pc := 553) (v := 0) dX10_goesOn_553 rfl ?_
            refine Ex.iret (pc := 554) rfl rfl rfl dX10_goesOn_554 (Nat.le_refl _) (Nat.le_refl _) ?_
            exact ⟨_, _, rfl, false, rfl, hR.tr g5.rd, ReG.e hC ⟨e, rfl⟩ m5⟩
      · skip
        refine Ex.aload_n (pc := 452) dX10_goesOn_452 rfl rfl ?_
        refine Ex.bipush (pc := 453) (v := 44) dX10_goesOn_453 rfl ?_
        refine Ex.callV (pc := 455) (As := [.int 44]) (rest := []) dX10_goesOn_455 cX10_244 (tm_isSign) (sh36 _) rfl rfl (by decide) (Nat.le_refl _) (Nat.le_refl _) (Nat.le_of_ble_eq_true rfl) (Or.inl (fun r S' h => by obtain ⟨_, h⟩ := h; subst h; rfl)) (fun r S' hq _ _ => ?_)
        obtain ⟨rfl, rfl⟩ := hq
        refine Ex.if_ne (pc := 458) (tgt := 470) dX10_goesOn_458 (by decide) (fun c458 => ?_) (fun c458 => ?_)
        · skip
          refine Ex.aload_n (pc := 470) dX10_goesOn_470 rfl rfl ?_
          refine Ex.getI (pc := 471) dX10_goesOn_471 fX10_36 (sh36 _) ?_
          refine Ex.if_le (pc := 474) (tgt := 479) dX10_goesOn_474 (by decide) (fun c474 => absurd c474 hle) (fun _ => ?_)
          refine Ex.iconst (pc := 477) (v := 0) dX10_goesOn_477 rfl ?_
          refine Ex.iret (pc := 478) rfl rfl rfl dX10_goesOn_478 (Nat.le_refl _) (Nat.le_refl _) ?_
          exact ⟨_, _, rfl, false, rfl, hR, ReG.e hC ⟨e, rfl⟩ h⟩
        · skip
          refine Ex.aload_n (pc := 461) dX10_goesOn_461 rfl rfl ?_
          refine Ex.iconst (pc := 462) (v := 1) dX10_goesOn_462 rfl ?_
          refine Ex.aload_n (pc := 463) dX10_goesOn_463 rfl rfl ?_
          refine Ex.getI (pc := 464) dX10_goesOn_464 fX10_23 (sh36 _) ?_
          refine Ex.callV (pc := 467) (As := [.int 1, .int _]) (rest := []) dX10_goesOn_467 cX10_230 (tm_stp (r := .error e) (k := 1) h (by decide) (by decide) (fun t c q => by cases q)) (sh36 _) rfl rfl (by decide) (Nat.le_refl _) (Nat.le_refl _) (Nat.le_of_ble_eq_true rfl) (Or.inl (fun r S' h => by obtain ⟨_, _, h, _⟩ := h; subst h; rfl)) (fun r S' hq _ _ => ?_)
          obtain ⟨I5, L5, rfl, rfl, g5, m5⟩ := hq
          refine Ex.aload_n (pc := 470) dX10_goesOn_470 rfl rfl ?_
          refine Ex.getI (pc := 471) dX10_goesOn_471 fX10_36 (sh36 _) ?_
          refine Ex.if_le (pc := 474) (tgt := 479) dX10_goesOn_474 (by decide) (fun c474 => absurd c474 (hle2 m5)) (fun _ => ?_)
          refine Ex.iconst (pc := 477) (v := 0) dX10_goesOn_477 rfl ?_
          refine Ex.iret (pc := 478) rfl rfl rfl dX10_goesOn_478 (Nat.le_refl _) (Nat.le_refl _) ?_
          exact ⟨_, _, rfl, false, rfl, hR.tr g5.rd, ReG.e hC ⟨e, rfl⟩ m5⟩
  · skip
    refine Ex.aload_n (pc := 427) dX10_goesOn_427 rfl rfl ?_
    refine Ex.getI (pc := 428) dX10_goesOn_428 fX10_36 (sh36 _) ?_
    refine Ex.if_ne (pc := 431) (tgt := 439) dX10_goesOn_431 (by decide) (fun _ => ?_) (fun c431 => absurd c431 hbd)
    refine Ex.iconst (pc := 439) (v := 0) dX10_goesOn_439 rfl ?_
    refine Ex.iret (pc := 440) rfl rfl rfl dX10_goesOn_440 (Nat.le_refl _) (Nat.le_refl _) ?_
    exact ⟨_, _, rfl, false, rfl, hR, ReG.e hC ⟨e, rfl⟩ h⟩
set_option maxRecDepth 20000 in
theorem tm_g518 {N n b w : Nat} {tb : Nat → Nat} {I J : aI} {L M : aL} {f : Fr} {fs : List Fr} {o : Nat} {t : Tk} {c : Cd} {C : Cf} (W : Wk tb n b w I L J M (f :: fs) o t c) (hb : b < 2) (hi : IvO n true (f :: fs) o t c) (h44 : J 36 44 = 1) (hk : f.k = 2 ∨ f.k = 4 ∨ f.k = 5) (hC : C = (if isS (if f.k = 5 then 93 else 41) (.ok (t, c) : Er) = true then (true, (if f.k = 5 then ph2 fs else fs), o - cd14 (tk 1 f.ω) - 1, nx tb n (if f.k = 4 then adS (f.pr, 0) (adL (tk 1 f.ω) (.ok (t, c) : Er)) else adL (tk 1 f.ω) (.ok (t, c) : Er))) else (true, f :: fs, o, stp 1 (.ok (t, c) : Er)) : Cf)) : Ex 3 0 0 mX10_goesOn 0 0 518 [some (.ref 36), some (.int (nI fs.length)), some (.int (nI f.k)), some (.int (bI (tst f.k))), none] [] (St N J M) (RX N (fun x I2 L2 => ∃ v : Bool, x = some (.int (bI v)) ∧ RdF b I L I2 L2 ∧ ReG tb n b I2 L2 C v)) := by
  obtain ⟨v1, v2, v3, v4⟩ := hi.bd (by simp)
  have v1 : fs.length + 1 ≤ 8 := v1
  have hF : FsK (f :: fs) := hi.2.2.1
  have hk6 := hF.1.2.2.2.2.1
  have m0 : RMs tb n J M (.ok (t, c)) := W.2.2.2.1
  have hdl : ∀ m, opN ((⟨f.k, f.ph, f.bg, f.pr, dr m f.ω⟩ : Fr) :: fs) < 500 := fun m => by
    have := tk_len m f.ω
    have e : opN (f :: fs) = opN fs + f.ω.length := rfl
    show opN fs + (dr m f.ω).length < 500
    omega
  have kI : ∀ k, k < 1000 → (nI f.k = nI k ↔ f.k = k) := fun k hk => nI_iff (by omega) hk
  have p57 : J 57 fs.length = nI f.ph := W.2.2.2.2.2.2.2.2.2.1
  have hp2 := hF.1.2.2.2.1
  have pI : ∀ k, k < 1000 → (J 57 fs.length = nI k ↔ f.ph = k) := fun k hk => by rw [p57]; exact nI_iff (by omega) hk
  have hne : fs ≠ [] := fun z => by have := hF.2.1 z; omega
  obtain ⟨g, gs, rfl⟩ : ∃ g gs, fs = g :: gs := by
    cases fs with
    | nil => exact absurd rfl hne
    | cons g gs => exact ⟨g, gs, rfl⟩
  have v1 : gs.length + 1 + 1 ≤ 8 := v1
  have h5 : nI f.k = 5 ↔ f.k = 5 := kI 5 (by decide)
  have h4 : nI f.k = 4 ↔ f.k = 4 := kI 4 (by decide)
  have l3 : dr 1 f.ω = [] := (tk_1 f.ω).2
  have l4 : tk 1 f.ω = f.ω := (tk_1 f.ω).1
  have cq : ∀ k, (if f.k = 5 then 93 else 41) = k → isS k (.ok (t, c)) = isS (if f.k = 5 then 93 else 41) (.ok (t, c)) := fun k h => by rw [h]
  refine Ex.aload_n (pc := 518) dX10_goesOn_518 rfl rfl ?_
  refine Ex.iload_n (pc := 519) dX10_goesOn_519 rfl rfl ?_
  refine Ex.iconst (pc := 520) (v := 5) dX10_goesOn_520 rfl ?_
  refine Ex.icmp_ne (pc := 521) (tgt := 529) dX10_goesOn_521 (by decide) (fun c521 => ?_) (fun c521 => ?_)
  · skip
    refine Ex.bipush (pc := 529) (v := 41) dX10_goesOn_529 rfl ?_
    refine Ex.callV (pc := 531) (As := [.int 41]) (rest := []) dX10_goesOn_531 cX10_244 (tm_sW W.2.2.2.1 (k := 41) (by decide) c) (sh36 _) rfl rfl (by decide) (Nat.le_refl _) (Nat.le_refl _) (Nat.le_of_ble_eq_true rfl) (Or.inl (fun r S' h => by obtain ⟨_, h⟩ := h; subst h; rfl)) (fun r S' hq _ _ => ?_)
    obtain ⟨rfl, rfl⟩ := hq
    refine Ex.if_ne (pc := 534) (tgt := 546) dX10_goesOn_534 (by decide) (fun c534 => ?_) (fun c534 => ?_)
    · skip
      refine Ex.aload_n (pc := 546) dX10_goesOn_546 rfl rfl ?_
      refine Ex.getI (pc := 547) dX10_goesOn_547 fX10_36 (sh36 _) ?_
      refine Ex.if_le (pc := 550) (tgt := 555) dX10_goesOn_550 (by decide) (fun _ => ?_) (fun c550 => absurd (by rw [W.2.2.2.1.1]; decide) c550)
      have e5 : (if f.k = 5 then 93 else 41) = 41 := if_neg (fun z => c521 (h5.mpr z))
      have n5 : ¬ f.k = 5 := fun z => c521 (h5.mpr z)
      have hs : isS (if f.k = 5 then 93 else 41) (.ok (t, c)) = true := by rw [e5]; exact bI_1 c534
      rw [if_pos hs, l4] at hC
      have ck : t.1 ≠ 1 := by have := (of_decide_eq_true hs).1; omega
      refine Ex.aload_n (pc := 555) dX10_goesOn_555 rfl rfl ?_
      refine Ex.iconst (pc := 556) (v := 1) dX10_goesOn_556 rfl ?_
      refine Ex.callV (pc := 557) (As := [.int 1]) (rest := []) dX10_goesOn_557 cX10_338 (tm_jnW (m := 1) hb (by decide) W hi) (sh36 _) rfl rfl (by decide) (Nat.le_refl _) (Nat.le_refl _) (Nat.le_of_ble_eq_true rfl) (Or.inl (fun r S' h => by obtain ⟨_, _, h, _⟩ := h; subst h; rfl)) (fun r S' hq _ _ => ?_)
      obtain ⟨I7, L7, rfl, rfl, o7, W7⟩ := hq
      rw [l3, l4] at W7
      have e40 : I7 36 40 - 1 = nI (gs.length + 1) := by
        rw [W7.2.2.2.2.2.1, show (1 : Int32) = nI 1 from rfl]; exact pk_sub (a := gs.length + 1 + 1) (by omega)
      refine Ex.aload_n (pc := 560) dX10_goesOn_560 rfl rfl ?_
      refine Ex.dup (pc := 561) dX10_goesOn_561 rfl ?_
      refine Ex.getI (pc := 562) dX10_goesOn_562 fX10_134 (sh36 _) ?_
      refine Ex.iconst (pc := 565) (v := 1) dX10_goesOn_565 rfl ?_
      refine Ex.isub (pc := 566) dX10_goesOn_566 ?_
      refine Ex.putI (pc := 567) dX10_goesOn_567 fX10_134 (sh36 _) (Or.inl rfl) ⟨rfl, rfl⟩ ?_
      refine Ex.mm (S' := St N (mf I7 40 (nI (gs.length + 1))) L7) (by rw [e40]; rfl) ?_
      have W8 : Wk tb n b w I L (mf I7 40 (nI (gs.length + 1))) L7 (g :: gs) (o - cd14 f.ω) t (c ++ f.ω.map (fun x => (x, 0))) := W7.u (uf_m (by decide)) (W7.2.2.2.2.pop rfl)
      have q8 : mf I7 40 (nI (gs.length + 1)) 36 44 = 1 := by rw [mf_n (by decide), o7]; exact h44
      have p8 : f.k = 4 → mf I7 40 (nI (gs.length + 1)) 59 (gs.length + 1) = nI (sN f.pr) := fun z => by
        rw [mf_o (by decide)]
        exact W7.2.2.2.2.2.2.2.2.2.2.2.1 (by show prF f.k = 1; rw [z]; rfl)
      generalize mf I7 40 (nI (gs.length + 1)) = J8 at W8 q8 p8 ⊢
      have i5 : o + 1 = (f :: g :: gs).length + cdN (f :: g :: gs) := (hi.2.2.2.2 (by simp)).1
      have i6 : cdN (f :: g :: gs) = cdN (g :: gs) + cd14 f.ω := rfl
      have i7 : (f :: g :: gs).length = gs.length + 1 + 1 := rfl
      have e41 : J8 36 41 - 1 = nI (o - cd14 f.ω - 1) := by
        rw [W8.2.2.2.2.2.2.1, show (1 : Int32) = nI 1 from rfl]; exact pk_sub (by omega)
      refine Ex.aload_n (pc := 570) dX10_goesOn_570 rfl rfl ?_
      refine Ex.dup (pc := 571) dX10_goesOn_571 rfl ?_
      refine Ex.getI (pc := 572) dX10_goesOn_572 fX10_137 (sh36 _) ?_
      refine Ex.iconst (pc := 575) (v := 1) dX10_goesOn_575 rfl ?_
      refine Ex.isub (pc := 576) dX10_goesOn_576 ?_
      refine Ex.putI (pc := 577) dX10_goesOn_577 fX10_137 (sh36 _) (Or.inl rfl) ⟨rfl, rfl⟩ ?_
      refine Ex.mm (S' := St N (mf J8 41 (nI (o - cd14 f.ω - 1))) L7) (by rw [e41]; rfl) ?_
      have W9 : Wk tb n b w I L (mf J8 41 (nI (o - cd14 f.ω - 1))) L7 (g :: gs) (o - cd14 f.ω - 1) t (c ++ f.ω.map (fun x => (x, 0))) := W8.u (uf_m (by decide)) (W8.2.2.2.2.o _)
      have q9 : mf J8 41 (nI (o - cd14 f.ω - 1)) 36 44 = 1 := by rw [mf_n (by decide)]; exact q8
      have p9 : f.k = 4 → mf J8 41 (nI (o - cd14 f.ω - 1)) 59 (gs.length + 1) = nI (sN f.pr) := fun z => by rw [mf_o (by decide)]; exact p8 z
      generalize mf J8 41 (nI (o - cd14 f.ω - 1)) = J9 at W9 q9 p9 ⊢
      have hcl : (c ++ f.ω.map (fun x => (x, 0))).length + prF f.k ≤ t.2.2.2.1 := by
        rw [List.length_append, List.length_map]
        have b4 : c.length + opN (f :: g :: gs) + prN (f :: g :: gs) ≤ t.2.2.2.1 := hi.2.1
        have e1 : opN (f :: g :: gs) = opN (g :: gs) + f.ω.length := rfl
        have e3 : prN (f :: g :: gs) = prN (g :: gs) + prF f.k := rfl
        omega
      have hst := hi.1.2.2.2.2.1 ck
      have hen := hi.1.2.2.2.1
      have hn16 := W.2.1.2.2
      refine Ex.iload_n (pc := 580) dX10_goesOn_580 rfl rfl ?_
      refine Ex.iconst (pc := 581) (v := 4) dX10_goesOn_581 rfl ?_
      refine Ex.icmp_ne (pc := 582) (tgt := 596) dX10_goesOn_582 (by decide) (fun c582 => ?_) (fun c582 => ?_)
      · skip
        refine Ex.iload_n (pc := 596) dX10_goesOn_596 rfl rfl ?_
        refine Ex.iconst (pc := 597) (v := 5) dX10_goesOn_597 rfl ?_
        refine Ex.icmp_ne (pc := 598) (tgt := 613) dX10_goesOn_598 (by decide) (fun _ => ?_) (fun c598 => absurd c598 c521)
        refine Ex.aload_n (pc := 613) dX10_goesOn_613 rfl rfl ?_
        refine Ex.callV (pc := 614) (As := []) (rest := []) dX10_goesOn_614 cX10_247 (Wk.nx W9) (sh36 _) rfl rfl (by decide) (Nat.le_refl _) (Nat.le_refl _) (Nat.le_of_ble_eq_true rfl) (Or.inl (fun r S' h => by obtain ⟨_, _, h, _⟩ := h; subst h; rfl)) (fun r S' hq _ _ => ?_)
        obtain ⟨I3, L3, rfl, rfl, g3, m3, z3, f3, k3⟩ := hq
        refine Ex.iconst (pc := 617) (v := 1) dX10_goesOn_617 rfl ?_
        refine Ex.iret (pc := 618) rfl rfl rfl dX10_goesOn_618 (Nat.le_refl _) (Nat.le_refl _) ?_
        rw [if_neg n5, if_neg (fun z => c582 (h4.mpr z))] at hC
        subst hC
        exact ⟨_, _, rfl, true, rfl, g3, ReG.n (c := c ++ f.ω.map (fun x => (x, 0))) m3 (by rw [k3.2.1 44 (by decide)]; exact q9) f3⟩
      · skip
        have y4 : f.k = 4 := h4.mp c582
        have hce : (c ++ f.ω.map (fun x => (x, 0))).length + 1 ≤ t.2.2.2.1 := by rw [y4] at hcl; exact hcl
        refine Ex.aload_n (pc := 585) dX10_goesOn_585 rfl rfl ?_
        refine Ex.aload_n (pc := 586) dX10_goesOn_586 rfl rfl ?_
        refine Ex.getR (pc := 587) dX10_goesOn_587 fX10_128 (sh36 _) r36_38 ?_
        refine Ex.iload_n (pc := 590) dX10_goesOn_590 rfl rfl ?_
        refine Ex.iald (pc := 591) (j := gs.length + 1) dX10_goesOn_591 (sh59 _) (vp_in_nI (show gs.length + 1 < 20 by omega) (by decide)) (nI_clamp (by omega)) ?_
        rw [p9 y4]
        refine Ex.iconst (pc := 592) (v := 0) dX10_goesOn_592 rfl ?_
        refine Ex.callV (pc := 593) (As := [.int _, .int 0]) (rest := []) dX10_goesOn_593 cX10_319 (tm_add (c := (c ++ f.ω.map (fun x => (x, 0))).length) hb (by omega) W9.2.2.1.1 W9.2.2.2.2.1.1) (sh36 _) rfl rfl (by decide) (Nat.le_refl _) (Nat.le_refl _) (Nat.le_of_ble_eq_true rfl) (Or.inl (fun r S' h => by obtain ⟨_, h⟩ := h; subst h; rfl)) (fun r S' hq _ _ => ?_)
        obtain ⟨rfl, rfl⟩ := hq
        have hpr := hF.1.2.2.2.2.2 (show prF f.k = 1 by rw [y4]; rfl)
        have WA : Wk tb n b w I L (adM2 J9 b (c ++ f.ω.map (fun x => (x, 0))).length (nI (sN f.pr)) 0) L7 (g :: gs) (o - cd14 f.ω - 1) t ((c ++ f.ω.map (fun x => (x, 0))) ++ [(f.pr, 0)]) := W9.u (uf_ad (by omega)) (W9.2.2.2.2.add (s := (f.pr, 0)) (Or.inr (Or.inr (Or.inr ⟨hpr.1, hpr.2, rfl⟩))))
        have qA : adM2 J9 b (c ++ f.ω.map (fun x => (x, 0))).length (nI (sN f.pr)) 0 36 44 = 1 := by rw [ad_f (by decide)]; exact q9
        generalize adM2 J9 b (c ++ f.ω.map (fun x => (x, 0))).length (nI (sN f.pr)) 0 = JA at WA qA ⊢
        refine Ex.iload_n (pc := 596) dX10_goesOn_596 rfl rfl ?_
        refine Ex.iconst (pc := 597) (v := 5) dX10_goesOn_597 rfl ?_
        refine Ex.icmp_ne (pc := 598) (tgt := 613) dX10_goesOn_598 (by decide) (fun _ => ?_) (fun c598 => absurd c598 (fun z => by have := h5.mp z; have := h4.mp c582; omega))
        refine Ex.aload_n (pc := 613) dX10_goesOn_613 rfl rfl ?_
        refine Ex.callV (pc := 614) (As := []) (rest := []) dX10_goesOn_614 cX10_247 (Wk.nx WA) (sh36 _) rfl rfl (by decide) (Nat.le_refl _) (Nat.le_refl _) (Nat.le_of_ble_eq_true rfl) (Or.inl (fun r S' h => by obtain ⟨_, _, h, _⟩ := h; subst h; rfl)) (fun r S' hq _ _ => ?_)
        obtain ⟨I3, L3, rfl, rfl, g3, m3, z3, f3, k3⟩ := hq
        refine Ex.iconst (pc := 617) (v := 1) dX10_goesOn_617 rfl ?_
        refine Ex.iret (pc := 618) rfl rfl rfl dX10_goesOn_618 (Nat.le_refl _) (Nat.le_refl _) ?_
        rw [if_neg n5, if_pos y4] at hC
        subst hC
        exact ⟨_, _, rfl, true, rfl, g3, ReG.n (c := (c ++ f.ω.map (fun x => (x, 0))) ++ [(f.pr, 0)]) m3 (by rw [k3.2.1 44 (by decide)]; exact qA) f3⟩
    · skip
      refine Ex.aload_n (pc := 537) dX10_goesOn_537 rfl rfl ?_
      refine Ex.iconst (pc := 538) (v := 1) dX10_goesOn_538 rfl ?_
      refine Ex.aload_n (pc := 539) dX10_goesOn_539 rfl rfl ?_
      refine Ex.getI (pc := 540) dX10_goesOn_540 fX10_23 (sh36 _) ?_
      refine Ex.callV (pc := 543) (As := [.int 1, .int _]) (rest := []) dX10_goesOn_543 cX10_230 (tm_stp (r := .ok (t, c)) (k := 1) m0 (by decide) (by decide) m0.at) (sh36 _) rfl rfl (by decide) (Nat.le_refl _) (Nat.le_refl _) (Nat.le_of_ble_eq_true rfl) (Or.inl (fun r S' h => by obtain ⟨_, _, h, _⟩ := h; subst h; rfl)) (fun r S' hq _ _ => ?_)
      obtain ⟨I2, L2, rfl, rfl, g2, m2⟩ := hq
      have hbad : ¬ I2 36 8 = 0 := fun z => RMs.bad (e := (1, t.2.2.2.1)) m2 z
      have hb2 : ¬ I2 36 8 ≤ 0 := fun z => hbad (Int32.le_antisymm z (Int32.not_lt.mp m2.t.n8))
      refine Ex.aload_n (pc := 546) dX10_goesOn_546 rfl rfl ?_
      refine Ex.getI (pc := 547) dX10_goesOn_547 fX10_36 (sh36 _) ?_
      refine Ex.if_le (pc := 550) (tgt := 555) dX10_goesOn_550 (by decide) (fun c550 => absurd c550 hb2) (fun _ => ?_)
      refine Ex.iconst (pc := 553) (v := 0) dX10_goesOn_553 rfl ?_
      refine Ex.iret (pc := 554) rfl rfl rfl dX10_goesOn_554 (Nat.le_refl _) (Nat.le_refl _) ?_
      have e5 : (if f.k = 5 then 93 else 41) = 41 := if_neg (fun z => c521 (h5.mpr z))
      have n5 : ¬ f.k = 5 := fun z => c521 (h5.mpr z)
      rw [if_neg (by rw [e5, bI_0 c534]; decide)] at hC
      exact ⟨_, _, rfl, false, rfl, W.1.tr g2.rd, ReG.e (r := stp 1 (.ok (t, c))) (by rw [hC]) (stp_r _) m2⟩
  · skip
    refine Ex.bipush (pc := 524) (v := 93) dX10_goesOn_524 rfl ?_
    refine Ex.goto (pc := 526) (tgt := 531) dX10_goesOn_526 (by decide) ?_
    refine Ex.callV (pc := 531) (As := [.int 93]) (rest := []) dX10_goesOn_531 cX10_244 (tm_sW W.2.2.2.1 (k := 93) (by decide) c) (sh36 _) rfl rfl (by decide) (Nat.le_refl _) (Nat.le_refl _) (Nat.le_of_ble_eq_true rfl) (Or.inl (fun r S' h => by obtain ⟨_, h⟩ := h; subst h; rfl)) (fun r S' hq _ _ => ?_)
    obtain ⟨rfl, rfl⟩ := hq
    refine Ex.if_ne (pc := 534) (tgt := 546) dX10_goesOn_534 (by decide) (fun c534 => ?_) (fun c534 => ?_)
    · skip
      refine Ex.aload_n (pc := 546) dX10_goesOn_546 rfl rfl ?_
      refine Ex.getI (pc := 547) dX10_goesOn_547 fX10_36 (sh36 _) ?_
      refine Ex.if_le (pc := 550) (tgt := 555) dX10_goesOn_550 (by decide) (fun _ => ?_) (fun c550 => absurd (by rw [W.2.2.2.1.1]; decide) c550)
      have e5 : (if f.k = 5 then 93 else 41) = 93 := if_pos (h5.mp c521)
      have y5 : f.k = 5 := h5.mp c521
      have hs : isS (if f.k = 5 then 93 else 41) (.ok (t, c)) = true := by rw [e5]; exact bI_1 c534
      rw [if_pos hs, l4] at hC
      have ck : t.1 ≠ 1 := by have := (of_decide_eq_true hs).1; omega
      refine Ex.aload_n (pc := 555) dX10_goesOn_555 rfl rfl ?_
      refine Ex.iconst (pc := 556) (v := 1) dX10_goesOn_556 rfl ?_
      refine Ex.callV (pc := 557) (As := [.int 1]) (rest := []) dX10_goesOn_557 cX10_338 (tm_jnW (m := 1) hb (by decide) W hi) (sh36 _) rfl rfl (by decide) (Nat.le_refl _) (Nat.le_refl _) (Nat.le_of_ble_eq_true rfl) (Or.inl (fun r S' h => by obtain ⟨_, _, h, _⟩ := h; subst h; rfl)) (fun r S' hq _ _ => ?_)
      obtain ⟨I7, L7, rfl, rfl, o7, W7⟩ := hq
      rw [l3, l4] at W7
      have e40 : I7 36 40 - 1 = nI (gs.length + 1) := by
        rw [W7.2.2.2.2.2.1, show (1 : Int32) = nI 1 from rfl]; exact pk_sub (a := gs.length + 1 + 1) (by omega)
      refine Ex.aload_n (pc := 560) dX10_goesOn_560 rfl rfl ?_
      refine Ex.dup (pc := 561) dX10_goesOn_561 rfl ?_
      refine Ex.getI (pc := 562) dX10_goesOn_562 fX10_134 (sh36 _) ?_
      refine Ex.iconst (pc := 565) (v := 1) dX10_goesOn_565 rfl ?_
      refine Ex.isub (pc := 566) dX10_goesOn_566 ?_
      refine Ex.putI (pc := 567) dX10_goesOn_567 fX10_134 (sh36 _) (Or.inl rfl) ⟨rfl, rfl⟩ ?_
      refine Ex.mm (S' := St N (mf I7 40 (nI (gs.length + 1))) L7) (by rw [e40]; rfl) ?_
      have W8 : Wk tb n b w I L (mf I7 40 (nI (gs.length + 1))) L7 (g :: gs) (o - cd14 f.ω) t (c ++ f.ω.map (fun x => (x, 0))) := W7.u (uf_m (by decide)) (W7.2.2.2.2.pop rfl)
      have q8 : mf I7 40 (nI (gs.length + 1)) 36 44 = 1 := by rw [mf_n (by decide), o7]; exact h44
      have p8 : f.k = 4 → mf I7 40 (nI (gs.length + 1)) 59 (gs.length + 1) = nI (sN f.pr) := fun z => by
        rw [mf_o (by decide)]
        exact W7.2.2.2.2.2.2.2.2.2.2.2.1 (by show prF f.k = 1; rw [z]; rfl)
      generalize mf I7 40 (nI (gs.length + 1)) = J8 at W8 q8 p8 ⊢
      have i5 : o + 1 = (f :: g :: gs).length + cdN (f :: g :: gs) := (hi.2.2.2.2 (by simp)).1
      have i6 : cdN (f :: g :: gs) = cdN (g :: gs) + cd14 f.ω := rfl
      have i7 : (f :: g :: gs).length = gs.length + 1 + 1 := rfl
      have e41 : J8 36 41 - 1 = nI (o - cd14 f.ω - 1) := by
        rw [W8.2.2.2.2.2.2.1, show (1 : Int32) = nI 1 from rfl]; exact pk_sub (by omega)
      refine Ex.aload_n (pc := 570) dX10_goesOn_570 rfl rfl ?_
      refine Ex.dup (pc := 571) dX10_goesOn_571 rfl ?_
      refine Ex.getI (pc := 572) dX10_goesOn_572 fX10_137 (sh36 _) ?_
      refine Ex.iconst (pc := 575) (v := 1) dX10_goesOn_575 rfl ?_
      refine Ex.isub (pc := 576) dX10_goesOn_576 ?_
      refine Ex.putI (pc := 577) dX10_goesOn_577 fX10_137 (sh36 _) (Or.inl rfl) ⟨rfl, rfl⟩ ?_
      refine Ex.mm (S' := St N (mf J8 41 (nI (o - cd14 f.ω - 1))) L7) (by rw [e41]; rfl) ?_
      have W9 : Wk tb n b w I L (mf J8 41 (nI (o - cd14 f.ω - 1))) L7 (g :: gs) (o - cd14 f.ω - 1) t (c ++ f.ω.map (fun x => (x, 0))) := W8.u (uf_m (by decide)) (W8.2.2.2.2.o _)
      have q9 : mf J8 41 (nI (o - cd14 f.ω - 1)) 36 44 = 1 := by rw [mf_n (by decide)]; exact q8
      have p9 : f.k = 4 → mf J8 41 (nI (o - cd14 f.ω - 1)) 59 (gs.length + 1) = nI (sN f.pr) := fun z => by rw [mf_o (by decide)]; exact p8 z
      generalize mf J8 41 (nI (o - cd14 f.ω - 1)) = J9 at W9 q9 p9 ⊢
      have hcl : (c ++ f.ω.map (fun x => (x, 0))).length + prF f.k ≤ t.2.2.2.1 := by
        rw [List.length_append, List.length_map]
        have b4 : c.length + opN (f :: g :: gs) + prN (f :: g :: gs) ≤ t.2.2.2.1 := hi.2.1
        have e1 : opN (f :: g :: gs) = opN (g :: gs) + f.ω.length := rfl
        have e3 : prN (f :: g :: gs) = prN (g :: gs) + prF f.k := rfl
        omega
      have hst := hi.1.2.2.2.2.1 ck
      have hen := hi.1.2.2.2.1
      have hn16 := W.2.1.2.2
      refine Ex.iload_n (pc := 580) dX10_goesOn_580 rfl rfl ?_
      refine Ex.iconst (pc := 581) (v := 4) dX10_goesOn_581 rfl ?_
      refine Ex.icmp_ne (pc := 582) (tgt := 596) dX10_goesOn_582 (by decide) (fun _ => ?_) (fun c582 => absurd c582 (fun z => by have := h4.mp z; have := h5.mp c521; omega))
      refine Ex.iload_n (pc := 596) dX10_goesOn_596 rfl rfl ?_
      refine Ex.iconst (pc := 597) (v := 5) dX10_goesOn_597 rfl ?_
      refine Ex.icmp_ne (pc := 598) (tgt := 613) dX10_goesOn_598 (by decide) (fun c598 => absurd c521 c598) (fun _ => ?_)
      have e40b : J9 36 40 - 1 = nI gs.length := by
        rw [W9.2.2.2.2.2.1, show (1 : Int32) = nI 1 from rfl]; exact pk_sub (a := gs.length + 1) (by omega)
      refine Ex.aload_n (pc := 601) dX10_goesOn_601 rfl rfl ?_
      refine Ex.getR (pc := 602) dX10_goesOn_602 fX10_121 (sh36 _) r36_36 ?_
      refine Ex.aload_n (pc := 605) dX10_goesOn_605 rfl rfl ?_
      refine Ex.getI (pc := 606) dX10_goesOn_606 fX10_134 (sh36 _) ?_
      refine Ex.iconst (pc := 609) (v := 1) dX10_goesOn_609 rfl ?_
      refine Ex.isub (pc := 610) dX10_goesOn_610 ?_
      refine Ex.iconst (pc := 611) (v := 2) dX10_goesOn_611 rfl ?_
      refine Ex.iast (pc := 612) (j := gs.length) dX10_goesOn_612 (sh57 _) (by rw [e40b]; exact vp_in_nI (show gs.length < 20 by omega) (by decide)) (by rw [e40b]; exact nI_clamp (by omega)) ?_
      refine Ex.mm (S' := St N (va_up J9 57 (upd (J9 57) gs.length (nI 2))) L7) rfl ?_
      have WB : Wk tb n b w I L (va_up J9 57 (upd (J9 57) gs.length (nI 2))) L7 (⟨g.k, 2, g.bg, g.pr, g.ω⟩ :: gs) (o - cd14 f.ω - 1) t (c ++ f.ω.map (fun x => (x, 0))) := W9.u (uf_a (by decide)) (W9.2.2.2.2.ph 2)
      have qB : va_up J9 57 (upd (J9 57) gs.length (nI 2)) 36 44 = 1 := by rw [va_up_n (by decide)]; exact q9
      refine Ex.aload_n (pc := 613) dX10_goesOn_613 rfl rfl ?_
      refine Ex.callV (pc := 614) (As := []) (rest := []) dX10_goesOn_614 cX10_247 (Wk.nx WB) (sh36 _) rfl rfl (by decide) (Nat.le_refl _) (Nat.le_refl _) (Nat.le_of_ble_eq_true rfl) (Or.inl (fun r S' h => by obtain ⟨_, _, h, _⟩ := h; subst h; rfl)) (fun r S' hq _ _ => ?_)
      obtain ⟨I3, L3, rfl, rfl, g3, m3, z3, f3, k3⟩ := hq
      refine Ex.iconst (pc := 617) (v := 1) dX10_goesOn_617 rfl ?_
      refine Ex.iret (pc := 618) rfl rfl rfl dX10_goesOn_618 (Nat.le_refl _) (Nat.le_refl _) ?_
      have n4 : ¬ f.k = 4 := by omega
      rw [if_pos y5, if_neg n4] at hC
      subst hC
      exact ⟨_, _, rfl, true, rfl, g3, ReG.n (c := c ++ f.ω.map (fun x => (x, 0))) m3 (by rw [k3.2.1 44 (by decide)]; exact qB) f3⟩
    · skip
      refine Ex.aload_n (pc := 537) dX10_goesOn_537 rfl rfl ?_
      refine Ex.iconst (pc := 538) (v := 1) dX10_goesOn_538 rfl ?_
      refine Ex.aload_n (pc := 539) dX10_goesOn_539 rfl rfl ?_
      refine Ex.getI (pc := 540) dX10_goesOn_540 fX10_23 (sh36 _) ?_
      refine Ex.callV (pc := 543) (As := [.int 1, .int _]) (rest := []) dX10_goesOn_543 cX10_230 (tm_stp (r := .ok (t, c)) (k := 1) m0 (by decide) (by decide) m0.at) (sh36 _) rfl rfl (by decide) (Nat.le_refl _) (Nat.le_refl _) (Nat.le_of_ble_eq_true rfl) (Or.inl (fun r S' h => by obtain ⟨_, _, h, _⟩ := h; subst h; rfl)) (fun r S' hq _ _ => ?_)
      obtain ⟨I2, L2, rfl, rfl, g2, m2⟩ := hq
      have hbad : ¬ I2 36 8 = 0 := fun z => RMs.bad (e := (1, t.2.2.2.1)) m2 z
      have hb2 : ¬ I2 36 8 ≤ 0 := fun z => hbad (Int32.le_antisymm z (Int32.not_lt.mp m2.t.n8))
      refine Ex.aload_n (pc := 546) dX10_goesOn_546 rfl rfl ?_
      refine Ex.getI (pc := 547) dX10_goesOn_547 fX10_36 (sh36 _) ?_
      refine Ex.if_le (pc := 550) (tgt := 555) dX10_goesOn_550 (by decide) (fun c550 => absurd c550 hb2) (fun _ => ?_)
      refine Ex.iconst (pc := 553) (v := 0) dX10_goesOn_553 rfl ?_
      refine Ex.iret (pc := 554) rfl rfl rfl dX10_goesOn_554 (Nat.le_refl _) (Nat.le_refl _) ?_
      have e5 : (if f.k = 5 then 93 else 41) = 93 := if_pos (h5.mp c521)
      have y5 : f.k = 5 := h5.mp c521
      rw [if_neg (by rw [e5, bI_0 c534]; decide)] at hC
      exact ⟨_, _, rfl, false, rfl, W.1.tr g2.rd, ReG.e (r := stp 1 (.ok (t, c))) (by rw [hC]) (stp_r _) m2⟩
