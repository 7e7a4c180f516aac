set_option maxRecDepth 20000 in
theorem tm_g452 {N n b w : Nat} {tb : Nat → Nat} {I J : aI} {L M : aL} {f : Fr} {fs : List Fr} {o : Nat} {t : Tk} {c : Cd} {C : Cf} (W : Wk tb n b w I L J M (f :: fs) o t c) (hb : b < 2) (hi : IvO n true (f :: fs) o t c) (h44 : J 36 44 = 1) (hk : f.k = 3 ∨ f.k = 6) (hC : C = (if isS 44 (.ok (t, c) : Er) = true then (false, (⟨if f.k = 3 then 4 else 3, 0, f.bg, f.pr, dr 1 f.ω⟩ : Fr) :: fs, o - cd14 (tk 1 f.ω), nx tb n (adL (tk 1 f.ω) (.ok (t, c) : Er))) else (true, f :: fs, o, stp 1 (.ok (t, c) : Er)) : Cf)) : Ex 3 0 0 mX10_goesOn 0 0 452 [some (.ref 36), some (.int (nI fs.length)), some (.int (nI f.k)), some (.int (bI (tst f.k))), none] [] (St N J M) (RX N (fun x I2 L2 => ∃ v : Bool, x = some (.int (bI v)) ∧ RdF b I L I2 L2 ∧ ReG tb n b I2 L2 C v)) := by
  obtain ⟨v1, v2, v3, v4⟩ := hi.bd (by simp)
  have v1 : fs.length + 1 ≤ 8 := v1
  have hF : FsK (f :: fs) := hi.2.2.1
  have hk6 := hF.1.2.2.2.2.1
  have m0 : RMs tb n J M (.ok (t, c)) := W.2.2.2.1
  have hdl : ∀ m, opN ((⟨f.k, f.ph, f.bg, f.pr, dr m f.ω⟩ : Fr) :: fs) < 500 := fun m => by
    have := tk_len m f.ω
    have e : opN (f :: fs) = opN fs + f.ω.length := rfl
    show opN fs + (dr m f.ω).length < 500
    omega
  have kI : ∀ k, k < 1000 → (nI f.k = nI k ↔ f.k = k) := fun k hk => nI_iff (by omega) hk
  have p57 : J 57 fs.length = nI f.ph := W.2.2.2.2.2.2.2.2.2.1
  have hp2 := hF.1.2.2.2.1
  have pI : ∀ k, k < 1000 → (J 57 fs.length = nI k ↔ f.ph = k) := fun k hk => by rw [p57]; exact nI_iff (by omega) hk
  have h3 : nI f.k = 3 ↔ f.k = 3 := kI 3 (by decide)
  have hp1 : prF f.k = 1 := by rcases hk with z | z <;> (rw [z]; rfl)
  refine Ex.aload_n (pc := 452) dX10_goesOn_452 rfl rfl ?_
  refine Ex.bipush (pc := 453) (v := 44) dX10_goesOn_453 rfl ?_
  refine Ex.callV (pc := 455) (As := [.int 44]) (rest := []) dX10_goesOn_455 cX10_244 (tm_sW W.2.2.2.1 (k := 44) (by decide) c) (sh36 _) rfl rfl (by decide) (Nat.le_refl _) (Nat.le_refl _) (Nat.le_of_ble_eq_true rfl) (Or.inl (fun r S' h => by obtain ⟨_, h⟩ := h; subst h; rfl)) (fun r S' hq _ _ => ?_)
  obtain ⟨rfl, rfl⟩ := hq
  refine Ex.if_ne (pc := 458) (tgt := 470) dX10_goesOn_458 (by decide) (fun c458 => ?_) (fun c458 => ?_)
  · skip
    refine Ex.aload_n (pc := 470) dX10_goesOn_470 rfl rfl ?_
    refine Ex.getI (pc := 471) dX10_goesOn_471 fX10_36 (sh36 _) ?_
    refine Ex.if_le (pc := 474) (tgt := 479) dX10_goesOn_474 (by decide) (fun _ => ?_) (fun c474 => absurd (by rw [W.2.2.2.1.1]; decide) c474)
    refine Ex.aload_n (pc := 479) dX10_goesOn_479 rfl rfl ?_
    refine Ex.iconst (pc := 480) (v := 1) dX10_goesOn_480 rfl ?_
    refine Ex.callV (pc := 481) (As := [.int 1]) (rest := []) dX10_goesOn_481 cX10_338 (tm_jnW (m := 1) hb (by decide) W hi) (sh36 _) rfl rfl (by decide) (Nat.le_refl _) (Nat.le_refl _) (Nat.le_of_ble_eq_true rfl) (Or.inl (fun r S' h => by obtain ⟨_, _, h, _⟩ := h; subst h; rfl)) (fun r S' hq _ _ => ?_)
    obtain ⟨I7, L7, rfl, rfl, o7, W7⟩ := hq
    refine Ex.aload_n (pc := 484) dX10_goesOn_484 rfl rfl ?_
    refine Ex.getR (pc := 485) dX10_goesOn_485 fX10_118 (sh36 _) r36_35 ?_
    refine Ex.iload_n (pc := 488) dX10_goesOn_488 rfl rfl ?_
    refine Ex.iload_n (pc := 489) dX10_goesOn_489 rfl rfl ?_
    refine Ex.iconst (pc := 490) (v := 3) dX10_goesOn_490 rfl ?_
    refine Ex.icmp_ne (pc := 491) (tgt := 498) dX10_goesOn_491 (by decide) (fun c491 => ?_) (fun c491 => ?_)
    · skip
      refine Ex.iconst (pc := 498) (v := 3) dX10_goesOn_498 rfl ?_
      refine Ex.iast (pc := 499) (j := fs.length) dX10_goesOn_499 (sh56 _) (vp_in_nI (by omega) (by decide)) (nI_clamp (by omega)) ?_
      refine Ex.mm (S' := St N (va_up I7 56 (upd (I7 56) fs.length (nI 3))) L7) rfl ?_
      have W8 : Wk tb n b w I L (va_up I7 56 (upd (I7 56) fs.length (nI 3))) L7 (⟨3, f.ph, f.bg, f.pr, dr 1 f.ω⟩ :: fs) (o - cd14 (tk 1 f.ω)) t (c ++ (tk 1 f.ω).map (fun x => (x, 0))) := W7.u (uf_a (by decide)) (W7.2.2.2.2.k 3 hp1)
      generalize va_up I7 56 (upd (I7 56) fs.length (nI 3)) = J8 at W8 ⊢
      refine Ex.aload_n (pc := 500) dX10_goesOn_500 rfl rfl ?_
      refine Ex.getR (pc := 501) dX10_goesOn_501 fX10_121 (sh36 _) r36_36 ?_
      refine Ex.iload_n (pc := 504) dX10_goesOn_504 rfl rfl ?_
      refine Ex.iconst (pc := 505) (v := 0) dX10_goesOn_505 rfl ?_
      refine Ex.iast (pc := 506) (j := fs.length) dX10_goesOn_506 (sh57 _) (vp_in_nI (by omega) (by decide)) (nI_clamp (by omega)) ?_
      refine Ex.mm (S' := St N (va_up J8 57 (upd (J8 57) fs.length (nI 0))) L7) rfl ?_
      have W9 : Wk tb n b w I L (va_up J8 57 (upd (J8 57) fs.length (nI 0))) L7 (⟨3, 0, f.bg, f.pr, dr 1 f.ω⟩ :: fs) (o - cd14 (tk 1 f.ω)) t (c ++ (tk 1 f.ω).map (fun x => (x, 0))) := W8.u (uf_a (by decide)) (W8.2.2.2.2.ph 0)
      refine Ex.aload_n (pc := 507) dX10_goesOn_507 rfl rfl ?_
      refine Ex.callV (pc := 508) (As := []) (rest := []) dX10_goesOn_508 cX10_247 (Wk.nx W9) (sh36 _) rfl rfl (by decide) (Nat.le_refl _) (Nat.le_refl _) (Nat.le_of_ble_eq_true rfl) (Or.inl (fun r S' h => by obtain ⟨_, _, h, _⟩ := h; subst h; rfl)) (fun r S' hq _ _ => ?_)
      obtain ⟨I3, L3, rfl, rfl, g3, m3, z3, f3, k3⟩ := hq
      refine Ex.aload_n (pc := 511) dX10_goesOn_511 rfl rfl ?_
      refine Ex.iconst (pc := 512) (v := 0) dX10_goesOn_512 rfl ?_
      refine Ex.putI (pc := 513) dX10_goesOn_513 fX10_146 (sh36 _) (Or.inl rfl) ⟨rfl, rfl⟩ ?_
      refine Ex.mm (S' := St N (mf I3 44 0) L3) rfl ?_
      refine Ex.iconst (pc := 516) (v := 1) dX10_goesOn_516 rfl ?_
      refine Ex.iret (pc := 517) rfl rfl rfl dX10_goesOn_517 (Nat.le_refl _) (Nat.le_refl _) ?_
      rw [if_pos (bI_1 c458)] at hC
      rw [if_neg (fun z => c491 (h3.mpr z))] at hC
      subst hC
      exact ⟨_, _, rfl, true, rfl, g3.tr (UF.rd (uf_m (by decide))), ReG.n (c := c ++ (tk 1 f.ω).map (fun x => (x, 0))) (m3.u (b := b) (uf_m (by decide))) mf_s (f3.nop 0)⟩
    · skip
      refine Ex.iconst (pc := 494) (v := 4) dX10_goesOn_494 rfl ?_
      refine Ex.goto (pc := 495) (tgt := 499) dX10_goesOn_495 (by decide) ?_
      refine Ex.iast (pc := 499) (j := fs.length) dX10_goesOn_499 (sh56 _) (vp_in_nI (by omega) (by decide)) (nI_clamp (by omega)) ?_
      refine Ex.mm (S' := St N (va_up I7 56 (upd (I7 56) fs.length (nI 4))) L7) rfl ?_
      have W8 : Wk tb n b w I L (va_up I7 56 (upd (I7 56) fs.length (nI 4))) L7 (⟨4, f.ph, f.bg, f.pr, dr 1 f.ω⟩ :: fs) (o - cd14 (tk 1 f.ω)) t (c ++ (tk 1 f.ω).map (fun x => (x, 0))) := W7.u (uf_a (by decide)) (W7.2.2.2.2.k 4 hp1)
      generalize va_up I7 56 (upd (I7 56) fs.length (nI 4)) = J8 at W8 ⊢
      refine Ex.aload_n (pc := 500) dX10_goesOn_500 rfl rfl ?_
      refine Ex.getR (pc := 501) dX10_goesOn_501 fX10_121 (sh36 _) r36_36 ?_
      refine Ex.iload_n (pc := 504) dX10_goesOn_504 rfl rfl ?_
      refine Ex.iconst (pc := 505) (v := 0) dX10_goesOn_505 rfl ?_
      refine Ex.iast (pc := 506) (j := fs.length) dX10_goesOn_506 (sh57 _) (vp_in_nI (by omega) (by decide)) (nI_clamp (by omega)) ?_
      refine Ex.mm (S' := St N (va_up J8 57 (upd (J8 57) fs.length (nI 0))) L7) rfl ?_
      have W9 : Wk tb n b w I L (va_up J8 57 (upd (J8 57) fs.length (nI 0))) L7 (⟨4, 0, f.bg, f.pr, dr 1 f.ω⟩ :: fs) (o - cd14 (tk 1 f.ω)) t (c ++ (tk 1 f.ω).map (fun x => (x, 0))) := W8.u (uf_a (by decide)) (W8.2.2.2.2.ph 0)
      refine Ex.aload_n (pc := 507) dX10_goesOn_507 rfl rfl ?_
      refine Ex.callV (pc := 508) (As := []) (rest := []) dX10_goesOn_508 cX10_247 (Wk.nx W9) (sh36 _) rfl rfl (by decide) (Nat.le_refl _) (Nat.le_refl _) (Nat.le_of_ble_eq_true rfl) (Or.inl (fun r S' h => by obtain ⟨_, _, h, _⟩ := h; subst h; rfl)) (fun r S' hq _ _ => ?_)
      obtain ⟨I3, L3, rfl, rfl, g3, m3, z3, f3, k3⟩ := hq
      refine Ex.aload_n (pc := 511) dX10_goesOn_511 rfl rfl ?_
      refine Ex.iconst (pc := 512) (v := 0) dX10_goesOn_512 rfl ?_
      refine Ex.putI (pc := 513) dX10_goesOn_513 fX10_146 (sh36 _) (Or.inl rfl) ⟨rfl, rfl⟩ ?_
      refine Ex.mm (S' := St N (mf I3 44 0) L3) rfl ?_
      refine Ex.iconst (pc := 516) (v := 1) dX10_goesOn_516 rfl ?_
      refine Ex.iret (pc := 517) rfl rfl rfl dX10_goesOn_517 (Nat.le_refl _) (Nat.le_refl _) ?_
      rw [if_pos (bI_1 c458)] at hC
      rw [if_pos (h3.mp c491)] at hC
      subst hC
      exact ⟨_, _, rfl, true, rfl, g3.tr (UF.rd (uf_m (by decide))), ReG.n (c := c ++ (tk 1 f.ω).map (fun x => (x, 0))) (m3.u (b := b) (uf_m (by decide))) mf_s (f3.nop 0)⟩
  · skip
    refine Ex.aload_n (pc := 461) dX10_goesOn_461 rfl rfl ?_
    refine Ex.iconst (pc := 462) (v := 1) dX10_goesOn_462 rfl ?_
    refine Ex.aload_n (pc := 463) dX10_goesOn_463 rfl rfl ?_
    refine Ex.getI (pc := 464) dX10_goesOn_464 fX10_23 (sh36 _) ?_
    refine Ex.callV (pc := 467) (As := [.int 1, .int _]) (rest := []) dX10_goesOn_467 cX10_230 (tm_stp (r := .ok (t, c)) (k := 1) m0 (by decide) (by decide) m0.at) (sh36 _) rfl rfl (by decide) (Nat.le_refl _) (Nat.le_refl _) (Nat.le_of_ble_eq_true rfl) (Or.inl (fun r S' h => by obtain ⟨_, _, h, _⟩ := h; subst h; rfl)) (fun r S' hq _ _ => ?_)
    obtain ⟨I2, L2, rfl, rfl, g2, m2⟩ := hq
    have hbad : ¬ I2 36 8 = 0 := fun z => RMs.bad (e := (1, t.2.2.2.1)) m2 z
    have hb2 : ¬ I2 36 8 ≤ 0 := fun z => hbad (Int32.le_antisymm z (Int32.not_lt.mp m2.t.n8))
    refine Ex.aload_n (pc := 470) dX10_goesOn_470 rfl rfl ?_
    refine Ex.getI (pc := 471) dX10_goesOn_471 fX10_36 (sh36 _) ?_
    refine Ex.if_le (pc := 474) (tgt := 479) dX10_goesOn_474 (by decide) (fun c474 => absurd c474 hb2) (fun _ => ?_)
    refine Ex.iconst (pc := 477) (v := 0) dX10_goesOn_477 rfl ?_
    refine Ex.iret (pc := 478) rfl rfl rfl dX10_goesOn_478 (Nat.le_refl _) (Nat.le_refl _) ?_
    rw [if_neg (by rw [bI_0 c458]; decide)] at hC
    exact ⟨_, _, rfl, false, rfl, W.1.tr g2.rd, ReG.e (r := stp 1 (.ok (t, c))) (by rw [hC]) (stp_r _) m2⟩
set_option maxRecDepth 20000 in
theorem tm_g422 {N n b w : Nat} {tb : Nat → Nat} {I J : aI} {L M : aL} {f : Fr} {fs : List Fr} {o : Nat} {t : Tk} {c : Cd} {C : Cf} (W : Wk tb n b w I L J M (f :: fs) o t c) (hb : b < 2) (hi : IvO n true (f :: fs) o t c) (h44 : J 36 44 = 1) (hC : C = (if f.k < 2 then (true, [], o - cd14 (tk 1 f.ω), adL (tk 1 f.ω) (.ok (t, c) : Er)) else if f.k = 3 ∨ f.k = 6 then (if isS 44 (.ok (t, c) : Er) = true then (false, (⟨if f.k = 3 then 4 else 3, 0, f.bg, f.pr, dr 1 f.ω⟩ : Fr) :: fs, o - cd14 (tk 1 f.ω), nx tb n (adL (tk 1 f.ω) (.ok (t, c) : Er))) else (true, f :: fs, o, stp 1 (.ok (t, c) : Er)) : Cf) else (if isS (if f.k = 5 then 93 else 41) (.ok (t, c) : Er) = true then (true, (if f.k = 5 then ph2 fs else fs), o - cd14 (tk 1 f.ω) - 1, nx tb n (if f.k = 4 then adS (f.pr, 0) (adL (tk 1 f.ω) (.ok (t, c) : Er)) else adL (tk 1 f.ω) (.ok (t, c) : Er))) else (true, f :: fs, o, stp 1 (.ok (t, c) : Er)) : Cf) : Cf)) : Ex 3 0 0 mX10_goesOn 0 0 422 [some (.ref 36), some (.int (nI fs.length)), some (.int (nI f.k)), some (.int (bI (tst f.k))), none] [] (St N J M) (RX N (fun x I2 L2 => ∃ v : Bool, x = some (.int (bI v)) ∧ RdF b I L I2 L2 ∧ ReG tb n b I2 L2 C v)) := by
  obtain ⟨v1, v2, v3, v4⟩ := hi.bd (by simp)
  have v1 : fs.length + 1 ≤ 8 := v1
  have hF : FsK (f :: fs) := hi.2.2.1
  have hk6 := hF.1.2.2.2.2.1
  have m0 : RMs tb n J M (.ok (t, c)) := W.2.2.2.1
  have hdl : ∀ m, opN ((⟨f.k, f.ph, f.bg, f.pr, dr m f.ω⟩ : Fr) :: fs) < 500 := fun m => by
    have := tk_len m f.ω
    have e : opN (f :: fs) = opN fs + f.ω.length := rfl
    show opN fs + (dr m f.ω).length < 500
    omega
  have kI : ∀ k, k < 1000 → (nI f.k = nI k ↔ f.k = k) := fun k hk => nI_iff (by omega) hk
  have p57 : J 57 fs.length = nI f.ph := W.2.2.2.2.2.2.2.2.2.1
  have hp2 := hF.1.2.2.2.1
  have pI : ∀ k, k < 1000 → (J 57 fs.length = nI k ↔ f.ph = k) := fun k hk => by rw [p57]; exact nI_iff (by omega) hk
  have h2 : 2 ≤ nI f.k ↔ ¬ f.k < 2 := by
    rw [show (2 : Int32) = nI 2 from rfl, ← Int32.not_lt, nI_ltI (by omega) (by omega)]
  have h3 : nI f.k = 3 ↔ f.k = 3 := kI 3 (by decide)
  have h6 : nI f.k = 6 ↔ f.k = 6 := kI 6 (by decide)
  refine Ex.iload_n (pc := 422) dX10_goesOn_422 rfl rfl ?_
  refine Ex.iconst (pc := 423) (v := 2) dX10_goesOn_423 rfl ?_
  refine Ex.icmp_ge (pc := 424) (tgt := 441) dX10_goesOn_424 (by decide) (fun c424 => ?_) (fun c424 => ?_)
  · skip
    refine Ex.iload_n (pc := 441) dX10_goesOn_441 rfl rfl ?_
    refine Ex.iconst (pc := 442) (v := 3) dX10_goesOn_442 rfl ?_
    refine Ex.icmp_eq (pc := 443) (tgt := 452) dX10_goesOn_443 (by decide) (fun c443 => ?_) (fun c443 => ?_)
    · skip
      rw [if_neg (h2.mp c424), if_pos (Or.inl (h3.mp c443))] at hC
      exact tm_g452 W hb hi h44 (Or.inl (h3.mp c443)) hC
    · skip
      refine Ex.iload_n (pc := 446) dX10_goesOn_446 rfl rfl ?_
      refine Ex.bipush (pc := 447) (v := 6) dX10_goesOn_447 rfl ?_
      refine Ex.icmp_ne (pc := 449) (tgt := 518) dX10_goesOn_449 (by decide) (fun c449 => ?_) (fun c449 => ?_)
      · skip
        have n3 : ¬ f.k = 3 := fun z => c443 (h3.mpr z)
        have n6 : ¬ f.k = 6 := fun z => c449 (h6.mpr z)
        have n2 := h2.mp c424
        rw [if_neg n2, if_neg (fun z => by omega)] at hC
        exact tm_g518 W hb hi h44 (by omega) hC
      · skip
        rw [if_neg (h2.mp c424), if_pos (Or.inr (h6.mp c449))] at hC
        exact tm_g452 W hb hi h44 (Or.inr (h6.mp c449)) hC
  · skip
    refine Ex.aload_n (pc := 427) dX10_goesOn_427 rfl rfl ?_
    refine Ex.getI (pc := 428) dX10_goesOn_428 fX10_36 (sh36 _) ?_
    refine Ex.if_ne (pc := 431) (tgt := 439) dX10_goesOn_431 (by decide) (fun c431 => absurd W.2.2.2.1.1 c431) (fun _ => ?_)
    refine Ex.aload_n (pc := 434) dX10_goesOn_434 rfl rfl ?_
    refine Ex.iconst (pc := 435) (v := 1) dX10_goesOn_435 rfl ?_
    refine Ex.callV (pc := 436) (As := [.int 1]) (rest := []) dX10_goesOn_436 cX10_338 (tm_jnW (m := 1) hb (by decide) W hi) (sh36 _) rfl rfl (by decide) (Nat.le_refl _) (Nat.le_refl _) (Nat.le_of_ble_eq_true rfl) (Or.inl (fun r S' h => by obtain ⟨_, _, h, _⟩ := h; subst h; rfl)) (fun r S' hq _ _ => ?_)
    obtain ⟨I7, L7, rfl, rfl, o7, W7⟩ := hq
    refine Ex.iconst (pc := 439) (v := 0) dX10_goesOn_439 rfl ?_
    refine Ex.iret (pc := 440) rfl rfl rfl dX10_goesOn_440 (Nat.le_refl _) (Nat.le_refl _) ?_
    have k2 : f.k < 2 := Classical.byContradiction (fun z => c424 (h2.mpr z))
    rw [if_pos k2] at hC
    subst hC
    refine ⟨_, _, rfl, false, rfl, W7.1, W7.2.2.2.1, fun e q => (by cases q), fun t2 c2 q => ⟨fun z => absurd rfl z, fun _ => ⟨rfl, ?_⟩⟩⟩
    cases q
    exact W7.2.2.2.2.1
set_option maxRecDepth 20000 in
theorem tm_g400 {N n b w : Nat} {tb : Nat → Nat} {I J : aI} {L M : aL} {f : Fr} {fs : List Fr} {o : Nat} {t : Tk} {c : Cd} {C : Cf} (W : Wk tb n b w I L J M (f :: fs) o t c) (hb : b < 2) (hi : IvO n true (f :: fs) o t c) (h44 : J 36 44 = 1) (hC : C = (if (tst f.k && decide (f.ph = 0)) = true then (true, f :: fs, o, stp 1 (.ok (t, c) : Er)) else (if f.k < 2 then (true, [], o - cd14 (tk 1 f.ω), adL (tk 1 f.ω) (.ok (t, c) : Er)) else if f.k = 3 ∨ f.k = 6 then (if isS 44 (.ok (t, c) : Er) = true then (false, (⟨if f.k = 3 then 4 else 3, 0, f.bg, f.pr, dr 1 f.ω⟩ : Fr) :: fs, o - cd14 (tk 1 f.ω), nx tb n (adL (tk 1 f.ω) (.ok (t, c) : Er))) else (true, f :: fs, o, stp 1 (.ok (t, c) : Er)) : Cf) else (if isS (if f.k = 5 then 93 else 41) (.ok (t, c) : Er) = true then (true, (if f.k = 5 then ph2 fs else fs), o - cd14 (tk 1 f.ω) - 1, nx tb n (if f.k = 4 then adS (f.pr, 0) (adL (tk 1 f.ω) (.ok (t, c) : Er)) else adL (tk 1 f.ω) (.ok (t, c) : Er))) else (true, f :: fs, o, stp 1 (.ok (t, c) : Er)) : Cf) : Cf) : Cf)) : Ex 3 0 0 mX10_goesOn 0 0 400 [some (.ref 36), some (.int (nI fs.length)), some (.int (nI f.k)), some (.int (bI (tst f.k))), none] [] (St N J M) (RX N (fun x I2 L2 => ∃ v : Bool, x = some (.int (bI v)) ∧ RdF b I L I2 L2 ∧ ReG tb n b I2 L2 C v)) := by
  obtain ⟨v1, v2, v3, v4⟩ := hi.bd (by simp)
  have v1 : fs.length + 1 ≤ 8 := v1
  have hF : FsK (f :: fs) := hi.2.2.1
  have hk6 := hF.1.2.2.2.2.1
  have m0 : RMs tb n J M (.ok (t, c)) := W.2.2.2.1
  have hdl : ∀ m, opN ((⟨f.k, f.ph, f.bg, f.pr, dr m f.ω⟩ : Fr) :: fs) < 500 := fun m => by
    have := tk_len m f.ω
    have e : opN (f :: fs) = opN fs + f.ω.length := rfl
    show opN fs + (dr m f.ω).length < 500
    omega
  have kI : ∀ k, k < 1000 → (nI f.k = nI k ↔ f.k = k) := fun k hk => nI_iff (by omega) hk
  have p57 : J 57 fs.length = nI f.ph := W.2.2.2.2.2.2.2.2.2.1
  have hp2 := hF.1.2.2.2.1
  have pI : ∀ k, k < 1000 → (J 57 fs.length = nI k ↔ f.ph = k) := fun k hk => by rw [p57]; exact nI_iff (by omega) hk
  have h0 := pI 0 (by decide)
  refine Ex.iload_n (pc := 400) dX10_goesOn_400 rfl rfl ?_
  refine Ex.if_eq (pc := 401) (tgt := 422) dX10_goesOn_401 (by decide) (fun c401 => ?_) (fun c401 => ?_)
  · skip
    rw [if_neg (by rw [bI_0 c401]; simp)] at hC
    exact tm_g422 W hb hi h44 hC
  · skip
    refine Ex.aload_n (pc := 404) dX10_goesOn_404 rfl rfl ?_
    refine Ex.getR (pc := 405) dX10_goesOn_405 fX10_121 (sh36 _) r36_36 ?_
    refine Ex.iload_n (pc := 408) dX10_goesOn_408 rfl rfl ?_
    refine Ex.iald (pc := 409) (j := fs.length) dX10_goesOn_409 (sh57 _) (vp_in_nI (by omega) (by decide)) (nI_clamp (by omega)) ?_
    refine Ex.if_ne (pc := 410) (tgt := 422) dX10_goesOn_410 (by decide) (fun c410 => ?_) (fun c410 => ?_)
    · skip
      rw [if_neg (by rw [decide_eq_false (fun z => c410 (h0.mpr z)), Bool.and_false]; decide)] at hC
      exact tm_g422 W hb hi h44 hC
    · skip
      refine Ex.aload_n (pc := 413) dX10_goesOn_413 rfl rfl ?_
      refine Ex.iconst (pc := 414) (v := 1) dX10_goesOn_414 rfl ?_
      refine Ex.aload_n (pc := 415) dX10_goesOn_415 rfl rfl ?_
      refine Ex.getI (pc := 416) dX10_goesOn_416 fX10_23 (sh36 _) ?_
      refine Ex.callV (pc := 419) (As := [.int 1, .int _]) (rest := []) dX10_goesOn_419 cX10_230 (tm_stp (r := .ok (t, c)) (k := 1) m0 (by decide) (by decide) m0.at) (sh36 _) rfl rfl (by decide) (Nat.le_refl _) (Nat.le_refl _) (Nat.le_of_ble_eq_true rfl) (Or.inl (fun r S' h => by obtain ⟨_, _, h, _⟩ := h; subst h; rfl)) (fun r S' hq _ _ => ?_)
      obtain ⟨I2, L2, rfl, rfl, g2, m2⟩ := hq
      have hbad : ¬ I2 36 8 = 0 := fun z => RMs.bad (e := (1, t.2.2.2.1)) m2 z
      have hb2 : ¬ I2 36 8 ≤ 0 := fun z => hbad (Int32.le_antisymm z (Int32.not_lt.mp m2.t.n8))
      rw [if_pos (by rw [bI_1 c401, decide_eq_true (h0.mp c410)]; rfl)] at hC
      exact tm_g422E (e := (1, t.2.2.2.1)) (W.1.tr g2.rd) m2 (by rw [hC]; rfl)
set_option maxRecDepth 20000 in
theorem tm_g285 {N n b w : Nat} {tb : Nat → Nat} {I J : aI} {L M : aL} {f : Fr} {fs : List Fr} {o : Nat} {t : Tk} {c : Cd} {C : Cf} (W : Wk tb n b w I L J M (f :: fs) o t c) (hb : b < 2) (hi : IvO n true (f :: fs) o t c) (h44 : J 36 44 = 1) (hC : C = (if (tst f.k && (isW 22 (.ok (t, c) : Er) || isW 21 (.ok (t, c) : Er))) = true then (if f.ph = 0 then (true, f :: fs, o, stp 1 (.ok (t, c) : Er)) else (false, (⟨f.k, 0, true, f.pr, (if isW 22 (.ok (t, c) : Er) = true then 13 else 12) :: dr (if isW 22 (.ok (t, c) : Er) = true then 2 else 1) f.ω⟩ : Fr) :: fs, o - cd14 (tk (if isW 22 (.ok (t, c) : Er) = true then 2 else 1) f.ω), nx tb n (adL (tk (if isW 22 (.ok (t, c) : Er) = true then 2 else 1) f.ω) (.ok (t, c) : Er)))) else (if (tst f.k && decide (f.ph = 0)) = true then (true, f :: fs, o, stp 1 (.ok (t, c) : Er)) else (if f.k < 2 then (true, [], o - cd14 (tk 1 f.ω), adL (tk 1 f.ω) (.ok (t, c) : Er)) else if f.k = 3 ∨ f.k = 6 then (if isS 44 (.ok (t, c) : Er) = true then (false, (⟨if f.k = 3 then 4 else 3, 0, f.bg, f.pr, dr 1 f.ω⟩ : Fr) :: fs, o - cd14 (tk 1 f.ω), nx tb n (adL (tk 1 f.ω) (.ok (t, c) : Er))) else (true, f :: fs, o, stp 1 (.ok (t, c) : Er)) : Cf) else (if isS (if f.k = 5 then 93 else 41) (.ok (t, c) : Er) = true then (true, (if f.k = 5 then ph2 fs else fs), o - cd14 (tk 1 f.ω) - 1, nx tb n (if f.k = 4 then adS (f.pr, 0) (adL (tk 1 f.ω) (.ok (t, c) : Er)) else adL (tk 1 f.ω) (.ok (t, c) : Er))) else (true, f :: fs, o, stp 1 (.ok (t, c) : Er)) : Cf) : Cf) : Cf) : Cf)) : Ex 3 0 0 mX10_goesOn 0 0 285 [some (.ref 36), some (.int (nI fs.length)), some (.int (nI f.k)), some (.int (bI (tst f.k))), none] [] (St N J M) (RX N (fun x I2 L2 => ∃ v : Bool, x = some (.int (bI v)) ∧ RdF b I L I2 L2 ∧ ReG tb n b I2 L2 C v)) := by
  obtain ⟨v1, v2, v3, v4⟩ := hi.bd (by simp)
  have v1 : fs.length + 1 ≤ 8 := v1
  have hF : FsK (f :: fs) := hi.2.2.1
  have hk6 := hF.1.2.2.2.2.1
  have m0 : RMs tb n J M (.ok (t, c)) := W.2.2.2.1
  have hdl : ∀ m, opN ((⟨f.k, f.ph, f.bg, f.pr, dr m f.ω⟩ : Fr) :: fs) < 500 := fun m => by
    have := tk_len m f.ω
    have e : opN (f :: fs) = opN fs + f.ω.length := rfl
    show opN fs + (dr m f.ω).length < 500
    omega
  have kI : ∀ k, k < 1000 → (nI f.k = nI k ↔ f.k = k) := fun k hk => nI_iff (by omega) hk
  have p57 : J 57 fs.length = nI f.ph := W.2.2.2.2.2.2.2.2.2.1
  have hp2 := hF.1.2.2.2.1
  have pI : ∀ k, k < 1000 → (J 57 fs.length = nI k ↔ f.ph = k) := fun k hk => by rw [p57]; exact nI_iff (by omega) hk
  have h0 := pI 0 (by decide)
  refine Ex.iload_n (pc := 285) dX10_goesOn_285 rfl rfl ?_
  refine Ex.if_eq (pc := 286) (tgt := 400) dX10_goesOn_286 (by decide) (fun c286 => ?_) (fun c286 => ?_)
  · skip
    rw [if_neg (by rw [bI_0 c286, Bool.false_and]; decide)] at hC
    exact tm_g400 W hb hi h44 hC
  · skip
    refine Ex.aload_n (pc := 289) dX10_goesOn_289 rfl rfl ?_
    refine Ex.ldc2 (pc := 290) dX10_goesOn_290 kv_X10_294 ?_
    refine Ex.callV (pc := 293) (As := [.long _]) (rest := []) dX10_goesOn_293 cX10_328 (tm_wW W.2.2.2.1 (k := 22) (by decide) (by decide) c) (sh36 _) rfl rfl (by decide) (Nat.le_refl _) (Nat.le_refl _) (Nat.le_of_ble_eq_true rfl) (Or.inl (fun r S' h => by obtain ⟨_, h⟩ := h; subst h; rfl)) (fun r S' hq _ _ => ?_)
    obtain ⟨rfl, rfl⟩ := hq
    refine Ex.if_ne (pc := 296) (tgt := 309) dX10_goesOn_296 (by decide) (fun c296 => ?_) (fun c296 => ?_)
    · skip
      refine Ex.aload_n (pc := 309) dX10_goesOn_309 rfl rfl ?_
      refine Ex.getR (pc := 310) dX10_goesOn_310 fX10_121 (sh36 _) r36_36 ?_
      refine Ex.iload_n (pc := 313) dX10_goesOn_313 rfl rfl ?_
      refine Ex.iald (pc := 314) (j := fs.length) dX10_goesOn_314 (sh57 _) (vp_in_nI (by omega) (by decide)) (nI_clamp (by omega)) ?_
      refine Ex.if_ne (pc := 315) (tgt := 327) dX10_goesOn_315 (by decide) (fun c315 => ?_) (fun c315 => ?_)
      · skip
        refine Ex.aload_n (pc := 327) dX10_goesOn_327 rfl rfl ?_
        refine Ex.getI (pc := 328) dX10_goesOn_328 fX10_36 (sh36 _) ?_
        refine Ex.if_le (pc := 331) (tgt := 336) dX10_goesOn_331 (by decide) (fun _ => ?_) (fun c331 => absurd (by rw [W.2.2.2.1.1]; decide) c331)
        refine Ex.aload_n (pc := 336) dX10_goesOn_336 rfl rfl ?_
        refine Ex.ldc2 (pc := 337) dX10_goesOn_337 kv_X10_294 ?_
        refine Ex.callV (pc := 340) (As := [.long _]) (rest := []) dX10_goesOn_340 cX10_328 (tm_wW W.2.2.2.1 (k := 22) (by decide) (by decide) c) (sh36 _) rfl rfl (by decide) (Nat.le_refl _) (Nat.le_refl _) (Nat.le_of_ble_eq_true rfl) (Or.inl (fun r S' h => by obtain ⟨_, h⟩ := h; subst h; rfl)) (fun r S' hq _ _ => ?_)
        obtain ⟨rfl, rfl⟩ := hq
        refine Ex.istore (pc := 343) (ls' := [some (.ref 36), some (.int _), some (.int _), some (.int _), some (.int _)]) dX10_goesOn_343 (by decide) rfl rfl ?_
        refine Ex.aload_n (pc := 345) dX10_goesOn_345 rfl rfl ?_
        refine Ex.iload (pc := 346) dX10_goesOn_346 rfl ?_
        refine Ex.if_eq (pc := 348) (tgt := 355) dX10_goesOn_348 (by decide) (fun c348 => absurd c348 c296) (fun _ => ?_)
        refine Ex.iconst (pc := 351) (v := 2) dX10_goesOn_351 rfl ?_
        refine Ex.goto (pc := 352) (tgt := 356) dX10_goesOn_352 (by decide) ?_
        refine Ex.callV (pc := 356) (As := [.int 2]) (rest := []) dX10_goesOn_356 cX10_338 (tm_jnW (m := 2) hb (by decide) W hi) (sh36 _) rfl rfl (by decide) (Nat.le_refl _) (Nat.le_refl _) (Nat.le_of_ble_eq_true rfl) (Or.inl (fun r S' h => by obtain ⟨_, _, h, _⟩ := h; subst h; rfl)) (fun r S' hq _ _ => ?_)
        obtain ⟨I7, L7, rfl, rfl, o7, W7⟩ := hq
        refine Ex.aload_n (pc := 359) dX10_goesOn_359 rfl rfl ?_
        refine Ex.iload (pc := 360) dX10_goesOn_360 rfl ?_
        refine Ex.if_eq (pc := 362) (tgt := 370) dX10_goesOn_362 (by decide) (fun c362 => absurd c362 c296) (fun _ => ?_)
        refine Ex.bipush (pc := 365) (v := 41) dX10_goesOn_365 rfl ?_
        refine Ex.goto (pc := 367) (tgt := 372) dX10_goesOn_367 (by decide) ?_
        refine Ex.callV (pc := 372) (As := [.int 41]) (rest := []) dX10_goesOn_372 cX10_332 (tm_holds (m := opN ((⟨f.k, f.ph, f.bg, f.pr, dr 2 f.ω⟩ : Fr) :: fs)) (hdl 2) W7.2.2.2.2.2.2.2.1) (sh36 _) rfl rfl (by decide) (Nat.le_refl _) (Nat.le_refl _) (Nat.le_of_ble_eq_true rfl) (Or.inl (fun r S' h => by obtain ⟨_, h⟩ := h; subst h; rfl)) (fun r S' hq _ _ => ?_)
        obtain ⟨rfl, rfl⟩ := hq
        have W8 : Wk tb n b w I L (hbM I7 (opN ((⟨f.k, f.ph, f.bg, f.pr, dr 2 f.ω⟩ : Fr) :: fs)) (nI (sN 13))) L7 (⟨f.k, f.ph, f.bg, f.pr, 13 :: dr 2 f.ω⟩ :: fs) (o - cd14 (tk 2 f.ω)) t (c ++ (tk 2 f.ω).map (fun x => (x, 0))) := W7.u uf_hb (W7.2.2.2.2.push 13)
        refine Ex.mm (S' := St N (hbM I7 (opN ((⟨f.k, f.ph, f.bg, f.pr, dr 2 f.ω⟩ : Fr) :: fs)) (nI (sN 13))) L7) rfl ?_
        generalize hbM I7 (opN ((⟨f.k, f.ph, f.bg, f.pr, dr 2 f.ω⟩ : Fr) :: fs)) (nI (sN 13)) = J8 at W8 ⊢
        refine Ex.aload_n (pc := 375) dX10_goesOn_375 rfl rfl ?_
        refine Ex.getR (pc := 376) dX10_goesOn_376 fX10_121 (sh36 _) r36_36 ?_
        refine Ex.iload_n (pc := 379) dX10_goesOn_379 rfl rfl ?_
        refine Ex.iconst (pc := 380) (v := 0) dX10_goesOn_380 rfl ?_
        refine Ex.iast (pc := 381) (j := fs.length) dX10_goesOn_381 (sh57 _) (vp_in_nI (by omega) (by decide)) (nI_clamp (by omega)) ?_
        refine Ex.mm (S' := St N (va_up J8 57 (upd (J8 57) fs.length (nI 0))) L7) rfl ?_
        have W9 : Wk tb n b w I L (va_up J8 57 (upd (J8 57) fs.length (nI 0))) L7 (⟨f.k, 0, f.bg, f.pr, 13 :: dr 2 f.ω⟩ :: fs) (o - cd14 (tk 2 f.ω)) t (c ++ (tk 2 f.ω).map (fun x => (x, 0))) := W8.u (uf_a (by decide)) (W8.2.2.2.2.ph 0)
        generalize va_up J8 57 (upd (J8 57) fs.length (nI 0)) = J9 at W9 ⊢
        refine Ex.aload_n (pc := 382) dX10_goesOn_382 rfl rfl ?_
        refine Ex.getR (pc := 383) dX10_goesOn_383 fX10_124 (sh36 _) r36_37 ?_
        refine Ex.iload_n (pc := 386) dX10_goesOn_386 rfl rfl ?_
        refine Ex.iconst (pc := 387) (v := 1) dX10_goesOn_387 rfl ?_
        refine Ex.zast (pc := 388) (j := fs.length) dX10_goesOn_388 (sh58 _) (vp_in_nI (by omega) (by decide)) (nI_clamp (by omega)) ?_
        refine Ex.mm (S' := St N (va_up J9 58 (upd (J9 58) fs.length (bI true))) L7) rfl ?_
        have WA : Wk tb n b w I L (va_up J9 58 (upd (J9 58) fs.length (bI true))) L7 (⟨f.k, 0, true, f.pr, 13 :: dr 2 f.ω⟩ :: fs) (o - cd14 (tk 2 f.ω)) t (c ++ (tk 2 f.ω).map (fun x => (x, 0))) := W9.u (uf_a (by decide)) (W9.2.2.2.2.bg true)
        refine Ex.aload_n (pc := 389) dX10_goesOn_389 rfl rfl ?_
        refine Ex.callV (pc := 390) (As := []) (rest := []) dX10_goesOn_390 cX10_247 (Wk.nx WA) (sh36 _) rfl rfl (by decide) (Nat.le_refl _) (Nat.le_refl _) (Nat.le_of_ble_eq_true rfl) (Or.inl (fun r S' h => by obtain ⟨_, _, h, _⟩ := h; subst h; rfl)) (fun r S' hq _ _ => ?_)
        obtain ⟨I3, L3, rfl, rfl, g3, m3, z3, f3, k3⟩ := hq
        refine Ex.aload_n (pc := 393) dX10_goesOn_393 rfl rfl ?_
        refine Ex.iconst (pc := 394) (v := 0) dX10_goesOn_394 rfl ?_
        refine Ex.putI (pc := 395) dX10_goesOn_395 fX10_146 (sh36 _) (Or.inl rfl) ⟨rfl, rfl⟩ ?_
        refine Ex.mm (S' := St N (mf I3 44 0) L3) rfl ?_
        refine Ex.iconst (pc := 398) (v := 1) dX10_goesOn_398 rfl ?_
        refine Ex.iret (pc := 399) rfl rfl rfl dX10_goesOn_399 (Nat.le_refl _) (Nat.le_refl _) ?_
        have a22 := bI_1 c296
        rw [a22] at hC
        rw [if_pos (by rw [bI_1 c286]; rfl)] at hC
        rw [if_neg (fun z => c315 (h0.mpr z))] at hC
        rw [if_pos rfl, if_pos rfl] at hC
        subst hC
        exact ⟨_, _, rfl, true, rfl, g3.tr (UF.rd (uf_m (by decide))), ReG.n (c := c ++ (tk 2 f.ω).map (fun x => (x, 0))) (m3.u (b := b) (uf_m (by decide))) mf_s (f3.nop 0)⟩
      · skip
        refine Ex.aload_n (pc := 318) dX10_goesOn_318 rfl rfl ?_
        refine Ex.iconst (pc := 319) (v := 1) dX10_goesOn_319 rfl ?_
        refine Ex.aload_n (pc := 320) dX10_goesOn_320 rfl rfl ?_
        refine Ex.getI (pc := 321) dX10_goesOn_321 fX10_23 (sh36 _) ?_
        refine Ex.callV (pc := 324) (As := [.int 1, .int _]) (rest := []) dX10_goesOn_324 cX10_230 (tm_stp (r := .ok (t, c)) (k := 1) m0 (by decide) (by decide) m0.at) (sh36 _) rfl rfl (by decide) (Nat.le_refl _) (Nat.le_refl _) (Nat.le_of_ble_eq_true rfl) (Or.inl (fun r S' h => by obtain ⟨_, _, h, _⟩ := h; subst h; rfl)) (fun r S' hq _ _ => ?_)
        obtain ⟨I2, L2, rfl, rfl, g2, m2⟩ := hq
        have hbad : ¬ I2 36 8 = 0 := fun z => RMs.bad (e := (1, t.2.2.2.1)) m2 z
        have hb2 : ¬ I2 36 8 ≤ 0 := fun z => hbad (Int32.le_antisymm z (Int32.not_lt.mp m2.t.n8))
        refine Ex.aload_n (pc := 327) dX10_goesOn_327 rfl rfl ?_
        refine Ex.getI (pc := 328) dX10_goesOn_328 fX10_36 (sh36 _) ?_
        refine Ex.if_le (pc := 331) (tgt := 336) dX10_goesOn_331 (by decide) (fun c331 => absurd c331 hb2) (fun _ => ?_)
        refine Ex.iconst (pc := 334) (v := 0) dX10_goesOn_334 rfl ?_
        refine Ex.iret (pc := 335) rfl rfl rfl dX10_goesOn_335 (Nat.le_refl _) (Nat.le_refl _) ?_
        have a22 := bI_1 c296
        rw [a22] at hC
        rw [if_pos (by rw [bI_1 c286]; rfl)] at hC
        rw [if_pos (h0.mp c315)] at hC
        exact ⟨_, _, rfl, false, rfl, W.1.tr g2.rd, ReG.e (r := stp 1 (.ok (t, c))) (by rw [hC]) (stp_r _) m2⟩
    · skip
      refine Ex.aload_n (pc := 299) dX10_goesOn_299 rfl rfl ?_
      refine Ex.ldc2 (pc := 300) dX10_goesOn_300 kv_X10_292 ?_
      refine Ex.callV (pc := 303) (As := [.long _]) (rest := []) dX10_goesOn_303 cX10_328 (tm_wW W.2.2.2.1 (k := 21) (by decide) (by decide) c) (sh36 _) rfl rfl (by decide) (Nat.le_refl _) (Nat.le_refl _) (Nat.le_of_ble_eq_true rfl) (Or.inl (fun r S' h => by obtain ⟨_, h⟩ := h; subst h; rfl)) (fun r S' hq _ _ => ?_)
      obtain ⟨rfl, rfl⟩ := hq
      refine Ex.if_eq (pc := 306) (tgt := 400) dX10_goesOn_306 (by decide) (fun c306 => ?_) (fun c306 => ?_)
      · skip
        rw [if_neg (by rw [bI_0 c296, bI_0 c306, Bool.or_false, Bool.and_false]; decide)] at hC
        exact tm_g400 W hb hi h44 hC
      · skip
        refine Ex.aload_n (pc := 309) dX10_goesOn_309 rfl rfl ?_
        refine Ex.getR (pc := 310) dX10_goesOn_310 fX10_121 (sh36 _) r36_36 ?_
        refine Ex.iload_n (pc := 313) dX10_goesOn_313 rfl rfl ?_
        refine Ex.iald (pc := 314) (j := fs.length) dX10_goesOn_314 (sh57 _) (vp_in_nI (by omega) (by decide)) (nI_clamp (by omega)) ?_
        refine Ex.if_ne (pc := 315) (tgt := 327) dX10_goesOn_315 (by decide) (fun c315 => ?_) (fun c315 => ?_)
        · skip
          refine Ex.aload_n (pc := 327) dX10_goesOn_327 rfl rfl ?_
          refine Ex.getI (pc := 328) dX10_goesOn_328 fX10_36 (sh36 _) ?_
          refine Ex.if_le (pc := 331) (tgt := 336) dX10_goesOn_331 (by decide) (fun _ => ?_) (fun c331 => absurd (by rw [W.2.2.2.1.1]; decide) c331)
          refine Ex.aload_n (pc := 336) dX10_goesOn_336 rfl rfl ?_
          refine Ex.ldc2 (pc := 337) dX10_goesOn_337 kv_X10_294 ?_
          refine Ex.callV (pc := 340) (As := [.long _]) (rest := []) dX10_goesOn_340 cX10_328 (tm_wW W.2.2.2.1 (k := 22) (by decide) (by decide) c) (sh36 _) rfl rfl (by decide) (Nat.le_refl _) (Nat.le_refl _) (Nat.le_of_ble_eq_true rfl) (Or.inl (fun r S' h => by obtain ⟨_, h⟩ := h; subst h; rfl)) (fun r S' hq _ _ => ?_)
          obtain ⟨rfl, rfl⟩ := hq
          refine Ex.istore (pc := 343) (ls' := [some (.ref 36), some (.int _), some (.int _), some (.int _), some (.int _)]) dX10_goesOn_343 (by decide) rfl rfl ?_
          refine Ex.aload_n (pc := 345) dX10_goesOn_345 rfl rfl ?_
          refine Ex.iload (pc := 346) dX10_goesOn_346 rfl ?_
          refine Ex.if_eq (pc := 348) (tgt := 355) dX10_goesOn_348 (by decide) (fun _ => ?_) (fun c348 => absurd c296 c348)
          refine Ex.iconst (pc := 355) (v := 1) dX10_goesOn_355 rfl ?_
          refine Ex.callV (pc := 356) (As := [.int 1]) (rest := []) dX10_goesOn_356 cX10_338 (tm_jnW (m := 1) hb (by decide) W hi) (sh36 _) rfl rfl (by decide) (Nat.le_refl _) (Nat.le_refl _) (Nat.le_of_ble_eq_true rfl) (Or.inl (fun r S' h => by obtain ⟨_, _, h, _⟩ := h; subst h; rfl)) (fun r S' hq _ _ => ?_)
          obtain ⟨I7, L7, rfl, rfl, o7, W7⟩ := hq
          refine Ex.aload_n (pc := 359) dX10_goesOn_359 rfl rfl ?_
          refine Ex.iload (pc := 360) dX10_goesOn_360 rfl ?_
          refine Ex.if_eq (pc := 362) (tgt := 370) dX10_goesOn_362 (by decide) (fun _ => ?_) (fun c362 => absurd c296 c362)
          refine Ex.bipush (pc := 370) (v := 42) dX10_goesOn_370 rfl ?_
          refine Ex.callV (pc := 372) (As := [.int 42]) (rest := []) dX10_goesOn_372 cX10_332 (tm_holds (m := opN ((⟨f.k, f.ph, f.bg, f.pr, dr 1 f.ω⟩ : Fr) :: fs)) (hdl 1) W7.2.2.2.2.2.2.2.1) (sh36 _) rfl rfl (by decide) (Nat.le_refl _) (Nat.le_refl _) (Nat.le_of_ble_eq_true rfl) (Or.inl (fun r S' h => by obtain ⟨_, h⟩ := h; subst h; rfl)) (fun r S' hq _ _ => ?_)
          obtain ⟨rfl, rfl⟩ := hq
          have W8 : Wk tb n b w I L (hbM I7 (opN ((⟨f.k, f.ph, f.bg, f.pr, dr 1 f.ω⟩ : Fr) :: fs)) (nI (sN 12))) L7 (⟨f.k, f.ph, f.bg, f.pr, 12 :: dr 1 f.ω⟩ :: fs) (o - cd14 (tk 1 f.ω)) t (c ++ (tk 1 f.ω).map (fun x => (x, 0))) := W7.u uf_hb (W7.2.2.2.2.push 12)
          refine Ex.mm (S' := St N (hbM I7 (opN ((⟨f.k, f.ph, f.bg, f.pr, dr 1 f.ω⟩ : Fr) :: fs)) (nI (sN 12))) L7) rfl ?_
          generalize hbM I7 (opN ((⟨f.k, f.ph, f.bg, f.pr, dr 1 f.ω⟩ : Fr) :: fs)) (nI (sN 12)) = J8 at W8 ⊢
          refine Ex.aload_n (pc := 375) dX10_goesOn_375 rfl rfl ?_
          refine Ex.getR (pc := 376) dX10_goesOn_376 fX10_121 (sh36 _) r36_36 ?_
          refine Ex.iload_n (pc := 379) dX10_goesOn_379 rfl rfl ?_
          refine Ex.iconst (pc := 380) (v := 0) dX10_goesOn_380 rfl ?_
          refine Ex.iast (pc := 381) (j := fs.length) dX10_goesOn_381 (sh57 _) (vp_in_nI (by omega) (by decide)) (nI_clamp (by omega)) ?_
          refine Ex.mm (S' := St N (va_up J8 57 (upd (J8 57) fs.length (nI 0))) L7) rfl ?_
          have W9 : Wk tb n b w I L (va_up J8 57 (upd (J8 57) fs.length (nI 0))) L7 (⟨f.k, 0, f.bg, f.pr, 12 :: dr 1 f.ω⟩ :: fs) (o - cd14 (tk 1 f.ω)) t (c ++ (tk 1 f.ω).map (fun x => (x, 0))) := W8.u (uf_a (by decide)) (W8.2.2.2.2.ph 0)
          generalize va_up J8 57 (upd (J8 57) fs.length (nI 0)) = J9 at W9 ⊢
          refine Ex.aload_n (pc := 382) dX10_goesOn_382 rfl rfl ?_
          refine Ex.getR (pc := 383) dX10_goesOn_383 fX10_124 (sh36 _) r36_37 ?_
          refine Ex.iload_n (pc := 386) dX10_goesOn_386 rfl rfl ?_
          refine Ex.iconst (pc := 387) (v := 1) dX10_goesOn_387 rfl ?_
          refine Ex.zast (pc := 388) (j := fs.length) dX10_goesOn_388 (sh58 _) (vp_in_nI (by omega) (by decide)) (nI_clamp (by omega)) ?_
          refine Ex.mm (S' := St N (va_up J9 58 (upd (J9 58) fs.length (bI true))) L7) rfl ?_
          have WA : Wk tb n b w I L (va_up J9 58 (upd (J9 58) fs.length (bI true))) L7 (⟨f.k, 0, true, f.pr, 12 :: dr 1 f.ω⟩ :: fs) (o - cd14 (tk 1 f.ω)) t (c ++ (tk 1 f.ω).map (fun x => (x, 0))) := W9.u (uf_a (by decide)) (W9.2.2.2.2.bg true)
          refine Ex.aload_n (pc := 389) dX10_goesOn_389 rfl rfl ?_
          refine Ex.callV (pc := 390) (As := []) (rest := []) dX10_goesOn_390 cX10_247 (Wk.nx WA) (sh36 _) rfl rfl (by decide) (Nat.le_refl _) (Nat.le_refl _) (Nat.le_of_ble_eq_true rfl) (Or.inl (fun r S' h => by obtain ⟨_, _, h, _⟩ := h; subst h; rfl)) (fun r S' hq _ _ => ?_)
          obtain ⟨I3, L3, rfl, rfl, g3, m3, z3, f3, k3⟩ := hq
          refine Ex.aload_n (pc := 393) dX10_goesOn_393 rfl rfl ?_
          refine Ex.iconst (pc := 394) (v := 0) dX10_goesOn_394 rfl ?_
          refine Ex.putI (pc := 395) dX10_goesOn_395 fX10_146 (sh36 _) (Or.inl rfl) ⟨rfl, rfl⟩ ?_
          refine Ex.mm (S' := St N (mf I3 44 0) L3) rfl ?_
          refine Ex.iconst (pc := 398) (v := 1) dX10_goesOn_398 rfl ?_
          refine Ex.iret (pc := 399) rfl rfl rfl dX10_goesOn_399 (Nat.le_refl _) (Nat.le_refl _) ?_
          have a22 := bI_0 c296
          have a21 := bI_1 c306
          rw [a22, a21] at hC
          rw [if_pos (by rw [bI_1 c286]; rfl)] at hC
          rw [if_neg (fun z => c315 (h0.mpr z))] at hC
          rw [if_neg (show ¬ (false = true) by decide), if_neg (show ¬ (false = true) by decide)] at hC
          subst hC
          exact ⟨_, _, rfl, true, rfl, g3.tr (UF.rd (uf_m (by decide))), ReG.n (c := c ++ (tk 1 f.ω).map (fun x => (x, 0))) (m3.u (b := b) (uf_m (by decide))) mf_s (f3.nop 0)⟩
        · skip
          refine Ex.aload_n (pc := 318) dX10_goesOn_318 rfl rfl ?_
          refine Ex.iconst (pc := 319) (v := 1) dX10_goesOn_319 rfl ?_
          refine Ex.aload_n (pc := 320) dX10_goesOn_320 rfl rfl ?_
          refine Ex.getI (pc := 321) dX10_goesOn_321 fX10_23 (sh36 _) ?_
          refine Ex.callV (pc := 324) (As := [.int 1, .int _]) (rest := []) dX10_goesOn_324 cX10_230 (tm_stp (r := .ok (t, c)) (k := 1) m0 (by decide) (by decide) m0.at) (sh36 _) rfl rfl (by decide) (Nat.le_refl _) (Nat.le_refl _) (Nat.le_of_ble_eq_true rfl) (Or.inl (fun r S' h => by obtain ⟨_, _, h, _⟩ := h; subst h; rfl)) (fun r S' hq _ _ => ?_)
          obtain ⟨I2, L2, rfl, rfl, g2, m2⟩ := hq
          have hbad : ¬ I2 36 8 = 0 := fun z => RMs.bad (e := (1, t.2.2.2.1)) m2 z
          have hb2 : ¬ I2 36 8 ≤ 0 := fun z => hbad (Int32.le_antisymm z (Int32.not_lt.mp m2.t.n8))
          refine Ex.aload_n (pc := 327) dX10_goesOn_327 rfl rfl ?_
          refine Ex.getI (pc := 328) dX10_goesOn_328 fX10_36 (sh36 _) ?_
          refine Ex.if_le (pc := 331) (tgt := 336) dX10_goesOn_331 (by decide) (fun c331 => absurd c331 hb2) (fun _ => ?_)
          refine Ex.iconst (pc := 334) (v := 0) dX10_goesOn_334 rfl ?_
          refine Ex.iret (pc := 335) rfl rfl rfl dX10_goesOn_335 (Nat.le_refl _) (Nat.le_refl _) ?_
          have a22 := bI_0 c296
          have a21 := bI_1 c306
          rw [a22, a21] at hC
          rw [if_pos (by rw [bI_1 c286]; rfl)] at hC
          rw [if_pos (h0.mp c315)] at hC
          exact ⟨_, _, rfl, false, rfl, W.1.tr g2.rd, ReG.e (r := stp 1 (.ok (t, c))) (by rw [hC]) (stp_r _) m2⟩
set_option maxRecDepth 20000 in
theorem tm_g188 {N n b w : Nat} {tb : Nat → Nat} {I J : aI} {L M : aL} {f : Fr} {fs : List Fr} {o : Nat} {t : Tk} {c : Cd} {C : Cf} (W : Wk tb n b w I L J M (f :: fs) o t c) (hb : b < 2) (hi : IvO n true (f :: fs) o t c) (h44 : J 36 44 = 1) (hC : C = (if (tst f.k && (decide (f.ph = 0) && isCm (.ok (t, c) : Er))) = true then (false, (⟨f.k, 1, f.bg, f.pr, opC (.ok (t, c) : Er) :: dr 5 f.ω⟩ : Fr) :: fs, o - cd14 (tk 5 f.ω), nx tb n (adL (tk 5 f.ω) (.ok (t, c) : Er))) else (if (tst f.k && (isW 22 (.ok (t, c) : Er) || isW 21 (.ok (t, c) : Er))) = true then (if f.ph = 0 then (true, f :: fs, o, stp 1 (.ok (t, c) : Er)) else (false, (⟨f.k, 0, true, f.pr, (if isW 22 (.ok (t, c) : Er) = true then 13 else 12) :: dr (if isW 22 (.ok (t, c) : Er) = true then 2 else 1) f.ω⟩ : Fr) :: fs, o - cd14 (tk (if isW 22 (.ok (t, c) : Er) = true then 2 else 1) f.ω), nx tb n (adL (tk (if isW 22 (.ok (t, c) : Er) = true then 2 else 1) f.ω) (.ok (t, c) : Er)))) else (if (tst f.k && decide (f.ph = 0)) = true then (true, f :: fs, o, stp 1 (.ok (t, c) : Er)) else (if f.k < 2 then (true, [], o - cd14 (tk 1 f.ω), adL (tk 1 f.ω) (.ok (t, c) : Er)) else if f.k = 3 ∨ f.k = 6 then (if isS 44 (.ok (t, c) : Er) = true then (false, (⟨if f.k = 3 then 4 else 3, 0, f.bg, f.pr, dr 1 f.ω⟩ : Fr) :: fs, o - cd14 (tk 1 f.ω), nx tb n (adL (tk 1 f.ω) (.ok (t, c) : Er))) else (true, f :: fs, o, stp 1 (.ok (t, c) : Er)) : Cf) else (if isS (if f.k = 5 then 93 else 41) (.ok (t, c) : Er) = true then (true, (if f.k = 5 then ph2 fs else fs), o - cd14 (tk 1 f.ω) - 1, nx tb n (if f.k = 4 then adS (f.pr, 0) (adL (tk 1 f.ω) (.ok (t, c) : Er)) else adL (tk 1 f.ω) (.ok (t, c) : Er))) else (true, f :: fs, o, stp 1 (.ok (t, c) : Er)) : Cf) : Cf) : Cf) : Cf) : Cf)) : Ex 3 0 0 mX10_goesOn 0 0 188 [some (.ref 36), some (.int (nI fs.length)), some (.int (nI f.k)), some (.int (bI (tst f.k))), none] [] (St N J M) (RX N (fun x I2 L2 => ∃ v : Bool, x = some (.int (bI v)) ∧ RdF b I L I2 L2 ∧ ReG tb n b I2 L2 C v)) := by
  obtain ⟨v1, v2, v3, v4⟩ := hi.bd (by simp)
  have v1 : fs.length + 1 ≤ 8 := v1
  have hF : FsK (f :: fs) := hi.2.2.1
  have hk6 := hF.1.2.2.2.2.1
  have m0 : RMs tb n J M (.ok (t, c)) := W.2.2.2.1
  have hdl : ∀ m, opN ((⟨f.k, f.ph, f.bg, f.pr, dr m f.ω⟩ : Fr) :: fs) < 500 := fun m => by
    have := tk_len m f.ω
    have e : opN (f :: fs) = opN fs + f.ω.length := rfl
    show opN fs + (dr m f.ω).length < 500
    omega
  have kI : ∀ k, k < 1000 → (nI f.k = nI k ↔ f.k = k) := fun k hk => nI_iff (by omega) hk
  have p57 : J 57 fs.length = nI f.ph := W.2.2.2.2.2.2.2.2.2.1
  have hp2 := hF.1.2.2.2.1
  have pI : ∀ k, k < 1000 → (J 57 fs.length = nI k ↔ f.ph = k) := fun k hk => by rw [p57]; exact nI_iff (by omega) hk
  have h0 := pI 0 (by decide)
  refine Ex.iload_n (pc := 188) dX10_goesOn_188 rfl rfl ?_
  refine Ex.if_eq (pc := 189) (tgt := 285) dX10_goesOn_189 (by decide) (fun c189 => ?_) (fun c189 => ?_)
  · skip
    rw [if_neg (by rw [bI_0 c189, Bool.false_and]; decide)] at hC
    exact tm_g285 W hb hi h44 hC
  · skip
    refine Ex.aload_n (pc := 192) dX10_goesOn_192 rfl rfl ?_
    refine Ex.getR (pc := 193) dX10_goesOn_193 fX10_121 (sh36 _) r36_36 ?_
    refine Ex.iload_n (pc := 196) dX10_goesOn_196 rfl rfl ?_
    refine Ex.iald (pc := 197) (j := fs.length) dX10_goesOn_197 (sh57 _) (vp_in_nI (by omega) (by decide)) (nI_clamp (by omega)) ?_
    refine Ex.if_ne (pc := 198) (tgt := 285) dX10_goesOn_198 (by decide) (fun c198 => ?_) (fun c198 => ?_)
    · skip
      rw [if_neg (by rw [decide_eq_false (fun z => c198 (h0.mpr z)), Bool.false_and, Bool.and_false]; decide)] at hC
      exact tm_g285 W hb hi h44 hC
    · skip
      refine Ex.aload_n (pc := 201) dX10_goesOn_201 rfl rfl ?_
      refine Ex.bipush (pc := 202) (v := 60) dX10_goesOn_202 rfl ?_
      refine Ex.callV (pc := 204) (As := [.int 60]) (rest := []) dX10_goesOn_204 cX10_244 (tm_sW W.2.2.2.1 (k := 60) (by decide) c) (sh36 _) rfl rfl (by decide) (Nat.le_refl _) (Nat.le_refl _) (Nat.le_of_ble_eq_true rfl) (Or.inl (fun r S' h => by obtain ⟨_, h⟩ := h; subst h; rfl)) (fun r S' hq _ _ => ?_)
      obtain ⟨rfl, rfl⟩ := hq
      refine Ex.if_ne (pc := 207) (tgt := 228) dX10_goesOn_207 (by decide) (fun c207 => ?_) (fun c207 => ?_)
      · skip
        refine Ex.aload_n (pc := 228) dX10_goesOn_228 rfl rfl ?_
        refine Ex.iconst (pc := 229) (v := 5) dX10_goesOn_229 rfl ?_
        refine Ex.callV (pc := 230) (As := [.int 5]) (rest := []) dX10_goesOn_230 cX10_338 (tm_jnW (m := 5) hb (by decide) W hi) (sh36 _) rfl rfl (by decide) (Nat.le_refl _) (Nat.le_refl _) (Nat.le_of_ble_eq_true rfl) (Or.inl (fun r S' h => by obtain ⟨_, _, h, _⟩ := h; subst h; rfl)) (fun r S' hq _ _ => ?_)
        obtain ⟨I7, L7, rfl, rfl, o7, W7⟩ := hq
        refine Ex.aload_n (pc := 233) dX10_goesOn_233 rfl rfl ?_
        refine Ex.aload_n (pc := 234) dX10_goesOn_234 rfl rfl ?_
        refine Ex.bipush (pc := 235) (v := 60) dX10_goesOn_235 rfl ?_
        refine Ex.callV (pc := 237) (As := [.int 60]) (rest := [.ref 36]) dX10_goesOn_237 cX10_244 (tm_sW W7.2.2.2.1 (k := 60) (by decide) c) (sh36 _) rfl rfl (by decide) (Nat.le_refl _) (Nat.le_refl _) (Nat.le_of_ble_eq_true rfl) (Or.inl (fun r S' h => by obtain ⟨_, h⟩ := h; subst h; rfl)) (fun r S' hq _ _ => ?_)
        obtain ⟨rfl, rfl⟩ := hq
        refine Ex.if_eq (pc := 240) (tgt := 248) dX10_goesOn_240 (by decide) (fun c240 => absurd c240 c207) (fun _ => ?_)
        refine Ex.bipush (pc := 243) (v := 38) dX10_goesOn_243 rfl ?_
        refine Ex.goto (pc := 245) (tgt := 264) dX10_goesOn_245 (by decide) ?_
        refine Ex.callV (pc := 264) (As := [.int 38]) (rest := []) dX10_goesOn_264 cX10_332 (tm_holds (m := opN ((⟨f.k, f.ph, f.bg, f.pr, dr 5 f.ω⟩ : Fr) :: fs)) (hdl 5) W7.2.2.2.2.2.2.2.1) (sh36 _) rfl rfl (by decide) (Nat.le_refl _) (Nat.le_refl _) (Nat.le_of_ble_eq_true rfl) (Or.inl (fun r S' h => by obtain ⟨_, h⟩ := h; subst h; rfl)) (fun r S' hq _ _ => ?_)
        obtain ⟨rfl, rfl⟩ := hq
        have W8 : Wk tb n b w I L (hbM I7 (opN ((⟨f.k, f.ph, f.bg, f.pr, dr 5 f.ω⟩ : Fr) :: fs)) (nI (sN 9))) L7 (⟨f.k, f.ph, f.bg, f.pr, 9 :: dr 5 f.ω⟩ :: fs) (o - cd14 (tk 5 f.ω)) t (c ++ (tk 5 f.ω).map (fun x => (x, 0))) := W7.u uf_hb (W7.2.2.2.2.push 9)
        refine Ex.mm (S' := St N (hbM I7 (opN ((⟨f.k, f.ph, f.bg, f.pr, dr 5 f.ω⟩ : Fr) :: fs)) (nI (sN 9))) L7) rfl ?_
        generalize hbM I7 (opN ((⟨f.k, f.ph, f.bg, f.pr, dr 5 f.ω⟩ : Fr) :: fs)) (nI (sN 9)) = J8 at W8 ⊢
        refine Ex.aload_n (pc := 267) dX10_goesOn_267 rfl rfl ?_
        refine Ex.getR (pc := 268) dX10_goesOn_268 fX10_121 (sh36 _) r36_36 ?_
        refine Ex.iload_n (pc := 271) dX10_goesOn_271 rfl rfl ?_
        refine Ex.iconst (pc := 272) (v := 1) dX10_goesOn_272 rfl ?_
        refine Ex.iast (pc := 273) (j := fs.length) dX10_goesOn_273 (sh57 _) (vp_in_nI (by omega) (by decide)) (nI_clamp (by omega)) ?_
        refine Ex.mm (S' := St N (va_up J8 57 (upd (J8 57) fs.length (nI 1))) L7) rfl ?_
        have W9 : Wk tb n b w I L (va_up J8 57 (upd (J8 57) fs.length (nI 1))) L7 (⟨f.k, 1, f.bg, f.pr, 9 :: dr 5 f.ω⟩ :: fs) (o - cd14 (tk 5 f.ω)) t (c ++ (tk 5 f.ω).map (fun x => (x, 0))) := W8.u (uf_a (by decide)) (W8.2.2.2.2.ph 1)
        refine Ex.aload_n (pc := 274) dX10_goesOn_274 rfl rfl ?_
        refine Ex.callV (pc := 275) (As := []) (rest := []) dX10_goesOn_275 cX10_247 (Wk.nx W9) (sh36 _) rfl rfl (by decide) (Nat.le_refl _) (Nat.le_refl _) (Nat.le_of_ble_eq_true rfl) (Or.inl (fun r S' h => by obtain ⟨_, _, h, _⟩ := h; subst h; rfl)) (fun r S' hq _ _ => ?_)
        obtain ⟨I3, L3, rfl, rfl, g3, m3, z3, f3, k3⟩ := hq
        refine Ex.aload_n (pc := 278) dX10_goesOn_278 rfl rfl ?_
        refine Ex.iconst (pc := 279) (v := 0) dX10_goesOn_279 rfl ?_
        refine Ex.putI (pc := 280) dX10_goesOn_280 fX10_146 (sh36 _) (Or.inl rfl) ⟨rfl, rfl⟩ ?_
        refine Ex.mm (S' := St N (mf I3 44 0) L3) rfl ?_
        refine Ex.iconst (pc := 283) (v := 1) dX10_goesOn_283 rfl ?_
        refine Ex.iret (pc := 284) rfl rfl rfl dX10_goesOn_284 (Nat.le_refl _) (Nat.le_refl _) ?_
        have q1 := bI_1 c207
        have hcm : isCm (.ok (t, c)) = true := by unfold isCm; rw [q1]; rfl
        have hop : opC (.ok (t, c)) = 9 := by unfold opC; rw [q1]; rfl
        rw [if_pos (by rw [bI_1 c189, decide_eq_true (h0.mp c198), hcm]; rfl), hop] at hC
        subst hC
        exact ⟨_, _, rfl, true, rfl, g3.tr (UF.rd (uf_m (by decide))), ReG.n (c := c ++ (tk 5 f.ω).map (fun x => (x, 0))) (m3.u (b := b) (uf_m (by decide))) mf_s (f3.nop 0)⟩
      · skip
        refine Ex.aload_n (pc := 210) dX10_goesOn_210 rfl rfl ?_
        refine Ex.bipush (pc := 211) (v := 62) dX10_goesOn_211 rfl ?_
        refine Ex.callV (pc := 213) (As := [.int 62]) (rest := []) dX10_goesOn_213 cX10_244 (tm_sW W.2.2.2.1 (k := 62) (by decide) c) (sh36 _) rfl rfl (by decide) (Nat.le_refl _) (Nat.le_refl _) (Nat.le_of_ble_eq_true rfl) (Or.inl (fun r S' h => by obtain ⟨_, h⟩ := h; subst h; rfl)) (fun r S' hq _ _ => ?_)
        obtain ⟨rfl, rfl⟩ := hq
        refine Ex.if_ne (pc := 216) (tgt := 228) dX10_goesOn_216 (by decide) (fun c216 => ?_) (fun c216 => ?_)
        · skip
          refine Ex.aload_n (pc := 228) dX10_goesOn_228 rfl rfl ?_
          refine Ex.iconst (pc := 229) (v := 5) dX10_goesOn_229 rfl ?_
          refine Ex.callV (pc := 230) (As := [.int 5]) (rest := []) dX10_goesOn_230 cX10_338 (tm_jnW (m := 5) hb (by decide) W hi) (sh36 _) rfl rfl (by decide) (Nat.le_refl _) (Nat.le_refl _) (Nat.le_of_ble_eq_true rfl) (Or.inl (fun r S' h => by obtain ⟨_, _, h, _⟩ := h; subst h; rfl)) (fun r S' hq _ _ => ?_)
          obtain ⟨I7, L7, rfl, rfl, o7, W7⟩ := hq
          refine Ex.aload_n (pc := 233) dX10_goesOn_233 rfl rfl ?_
          refine Ex.aload_n (pc := 234) dX10_goesOn_234 rfl rfl ?_
          refine Ex.bipush (pc := 235) (v := 60) dX10_goesOn_235 rfl ?_
          refine Ex.callV (pc := 237) (As := [.int 60]) (rest := [.ref 36]) dX10_goesOn_237 cX10_244 (tm_sW W7.2.2.2.1 (k := 60) (by decide) c) (sh36 _) rfl rfl (by decide) (Nat.le_refl _) (Nat.le_refl _) (Nat.le_of_ble_eq_true rfl) (Or.inl (fun r S' h => by obtain ⟨_, h⟩ := h; subst h; rfl)) (fun r S' hq _ _ => ?_)
          obtain ⟨rfl, rfl⟩ := hq
          refine Ex.if_eq (pc := 240) (tgt := 248) dX10_goesOn_240 (by decide) (fun _ => ?_) (fun c240 => absurd c207 c240)
          refine Ex.aload_n (pc := 248) dX10_goesOn_248 rfl rfl ?_
          refine Ex.bipush (pc := 249) (v := 62) dX10_goesOn_249 rfl ?_
          refine Ex.callV (pc := 251) (As := [.int 62]) (rest := [.ref 36]) dX10_goesOn_251 cX10_244 (tm_sW W7.2.2.2.1 (k := 62) (by decide) c) (sh36 _) rfl rfl (by decide) (Nat.le_refl _) (Nat.le_refl _) (Nat.le_of_ble_eq_true rfl) (Or.inl (fun r S' h => by obtain ⟨_, h⟩ := h; subst h; rfl)) (fun r S' hq _ _ => ?_)
          obtain ⟨rfl, rfl⟩ := hq
          refine Ex.if_eq (pc := 254) (tgt := 262) dX10_goesOn_254 (by decide) (fun c254 => absurd c254 c216) (fun _ => ?_)
          refine Ex.bipush (pc := 257) (v := 39) dX10_goesOn_257 rfl ?_
          refine Ex.goto (pc := 259) (tgt := 264) dX10_goesOn_259 (by decide) ?_
          refine Ex.callV (pc := 264) (As := [.int 39]) (rest := []) dX10_goesOn_264 cX10_332 (tm_holds (m := opN ((⟨f.k, f.ph, f.bg, f.pr, dr 5 f.ω⟩ : Fr) :: fs)) (hdl 5) W7.2.2.2.2.2.2.2.1) (sh36 _) rfl rfl (by decide) (Nat.le_refl _) (Nat.le_refl _) (Nat.le_of_ble_eq_true rfl) (Or.inl (fun r S' h => by obtain ⟨_, h⟩ := h; subst h; rfl)) (fun r S' hq _ _ => ?_)
          obtain ⟨rfl, rfl⟩ := hq
          have W8 : Wk tb n b w I L (hbM I7 (opN ((⟨f.k, f.ph, f.bg, f.pr, dr 5 f.ω⟩ : Fr) :: fs)) (nI (sN 10))) L7 (⟨f.k, f.ph, f.bg, f.pr, 10 :: dr 5 f.ω⟩ :: fs) (o - cd14 (tk 5 f.ω)) t (c ++ (tk 5 f.ω).map (fun x => (x, 0))) := W7.u uf_hb (W7.2.2.2.2.push 10)
          refine Ex.mm (S' := St N (hbM I7 (opN ((⟨f.k, f.ph, f.bg, f.pr, dr 5 f.ω⟩ : Fr) :: fs)) (nI (sN 10))) L7) rfl ?_
          generalize hbM I7 (opN ((⟨f.k, f.ph, f.bg, f.pr, dr 5 f.ω⟩ : Fr) :: fs)) (nI (sN 10)) = J8 at W8 ⊢
          refine Ex.aload_n (pc := 267) dX10_goesOn_267 rfl rfl ?_
          refine Ex.getR (pc := 268) dX10_goesOn_268 fX10_121 (sh36 _) r36_36 ?_
          refine Ex.iload_n (pc := 271) dX10_goesOn_271 rfl rfl ?_
          refine Ex.iconst (pc := 272) (v := 1) dX10_goesOn_272 rfl ?_
          refine Ex.iast (pc := 273) (j := fs.length) dX10_goesOn_273 (sh57 _) (vp_in_nI (by omega) (by decide)) (nI_clamp (by omega)) ?_
          refine Ex.mm (S' := St N (va_up J8 57 (upd (J8 57) fs.length (nI 1))) L7) rfl ?_
          have W9 : Wk tb n b w I L (va_up J8 57 (upd (J8 57) fs.length (nI 1))) L7 (⟨f.k, 1, f.bg, f.pr, 10 :: dr 5 f.ω⟩ :: fs) (o - cd14 (tk 5 f.ω)) t (c ++ (tk 5 f.ω).map (fun x => (x, 0))) := W8.u (uf_a (by decide)) (W8.2.2.2.2.ph 1)
          refine Ex.aload_n (pc := 274) dX10_goesOn_274 rfl rfl ?_
          refine Ex.callV (pc := 275) (As := []) (rest := []) dX10_goesOn_275 cX10_247 (Wk.nx W9) (sh36 _) rfl rfl (by decide) (Nat.le_refl _) (Nat.le_refl _) (Nat.le_of_ble_eq_true rfl) (Or.inl (fun r S' h => by obtain ⟨_, _, h, _⟩ := h; subst h; rfl)) (fun r S' hq _ _ => ?_)
          obtain ⟨I3, L3, rfl, rfl, g3, m3, z3, f3, k3⟩ := hq
          refine Ex.aload_n (pc := 278) dX10_goesOn_278 rfl rfl ?_
          refine Ex.iconst (pc := 279) (v := 0) dX10_goesOn_279 rfl ?_
          refine Ex.putI (pc := 280) dX10_goesOn_280 fX10_146 (sh36 _) (Or.inl rfl) ⟨rfl, rfl⟩ ?_
          refine Ex.mm (S' := St N (mf I3 44 0) L3) rfl ?_
          refine Ex.iconst (pc := 283) (v := 1) dX10_goesOn_283 rfl ?_
          refine Ex.iret (pc := 284) rfl rfl rfl dX10_goesOn_284 (Nat.le_refl _) (Nat.le_refl _) ?_
          have q1 := bI_0 c207
          have q2 := bI_1 c216
          have hcm : isCm (.ok (t, c)) = true := by unfold isCm; rw [q1, q2]; rfl
          have hop : opC (.ok (t, c)) = 10 := by unfold opC; rw [q1, q2]; rfl
          rw [if_pos (by rw [bI_1 c189, decide_eq_true (h0.mp c198), hcm]; rfl), hop] at hC
          subst hC
          exact ⟨_, _, rfl, true, rfl, g3.tr (UF.rd (uf_m (by decide))), ReG.n (c := c ++ (tk 5 f.ω).map (fun x => (x, 0))) (m3.u (b := b) (uf_m (by decide))) mf_s (f3.nop 0)⟩
        · skip
          refine Ex.aload_n (pc := 219) dX10_goesOn_219 rfl rfl ?_
          refine Ex.bipush (pc := 220) (v := 61) dX10_goesOn_220 rfl ?_
          refine Ex.callV (pc := 222) (As := [.int 61]) (rest := []) dX10_goesOn_222 cX10_244 (tm_sW W.2.2.2.1 (k := 61) (by decide) c) (sh36 _) rfl rfl (by decide) (Nat.le_refl _) (Nat.le_refl _) (Nat.le_of_ble_eq_true rfl) (Or.inl (fun r S' h => by obtain ⟨_, h⟩ := h; subst h; rfl)) (fun r S' hq _ _ => ?_)
          obtain ⟨rfl, rfl⟩ := hq
          refine Ex.if_eq (pc := 225) (tgt := 285) dX10_goesOn_225 (by decide) (fun c225 => ?_) (fun c225 => ?_)
          · skip
            have hcm : isCm (.ok (t, c)) = false := by unfold isCm; rw [bI_0 c207, bI_0 c216, bI_0 c225]; rfl
            rw [if_neg (by rw [hcm, Bool.and_false, Bool.and_false]; decide)] at hC
            exact tm_g285 W hb hi h44 hC
          · skip
            refine Ex.aload_n (pc := 228) dX10_goesOn_228 rfl rfl ?_
            refine Ex.iconst (pc := 229) (v := 5) dX10_goesOn_229 rfl ?_
            refine Ex.callV (pc := 230) (As := [.int 5]) (rest := []) dX10_goesOn_230 cX10_338 (tm_jnW (m := 5) hb (by decide) W hi) (sh36 _) rfl rfl (by decide) (Nat.le_refl _) (Nat.le_refl _) (Nat.le_of_ble_eq_true rfl) (Or.inl (fun r S' h => by obtain ⟨_, _, h, _⟩ := h; subst h; rfl)) (fun r S' hq _ _ => ?_)
            obtain ⟨I7, L7, rfl, rfl, o7, W7⟩ := hq
            refine Ex.aload_n (pc := 233) dX10_goesOn_233 rfl rfl ?_
            refine Ex.aload_n (pc := 234) dX10_goesOn_234 rfl rfl ?_
            refine Ex.bipush (pc := 235) (v := 60) dX10_goesOn_235 rfl ?_
            refine Ex.callV (pc := 237) (As := [.int 60]) (rest := [.ref 36]) dX10_goesOn_237 cX10_244 (tm_sW W7.2.2.2.1 (k := 60) (by decide) c) (sh36 _) rfl rfl (by decide) (Nat.le_refl _) (Nat.le_refl _) (Nat.le_of_ble_eq_true rfl) (Or.inl (fun r S' h => by obtain ⟨_, h⟩ := h; subst h; rfl)) (fun r S' hq _ _ => ?_)
            obtain ⟨rfl, rfl⟩ := hq
            refine Ex.if_eq (pc := 240) (tgt := 248) dX10_goesOn_240 (by decide) (fun _ => ?_) (fun c240 => absurd c207 c240)
            refine Ex.aload_n (pc := 248) dX10_goesOn_248 rfl rfl ?_
            refine Ex.bipush (pc := 249) (v := 62) dX10_goesOn_249 rfl ?_
            refine Ex.callV (pc := 251) (As := [.int 62]) (rest := [.ref 36]) dX10_goesOn_251 cX10_244 (tm_sW W7.2.2.2.1 (k := 62) (by decide) c) (sh36 _) rfl rfl (by decide) (Nat.le_refl _) (Nat.le_refl _) (Nat.le_of_ble_eq_true rfl) (Or.inl (fun r S' h => by obtain ⟨_, h⟩ := h; subst h; rfl)) (fun r S' hq _ _ => ?_)
            obtain ⟨rfl, rfl⟩ := hq
            refine Ex.if_eq (pc := 254) (tgt := 262) dX10_goesOn_254 (by decide) (fun _ => ?_) (fun c254 => absurd c216 c254)
            refine Ex.bipush (pc := 262) (v := 40) dX10_goesOn_262 rfl ?_
            refine Ex.callV (pc := 264) (As := [.int 40]) (rest := []) dX10_goesOn_264 cX10_332 (tm_holds (m := opN ((⟨f.k, f.ph, f.bg, f.pr, dr 5 f.ω⟩ : Fr) :: fs)) (hdl 5) W7.2.2.2.2.2.2.2.1) (sh36 _) rfl rfl (by decide) (Nat.le_refl _) (Nat.le_refl _) (Nat.le_of_ble_eq_true rfl) (Or.inl (fun r S' h => by obtain ⟨_, h⟩ := h; subst h; rfl)) (fun r S' hq _ _ => ?_)
            obtain ⟨rfl, rfl⟩ := hq
            have W8 : Wk tb n b w I L (hbM I7 (opN ((⟨f.k, f.ph, f.bg, f.pr, dr 5 f.ω⟩ : Fr) :: fs)) (nI (sN 11))) L7 (⟨f.k, f.ph, f.bg, f.pr, 11 :: dr 5 f.ω⟩ :: fs) (o - cd14 (tk 5 f.ω)) t (c ++ (tk 5 f.ω).map (fun x => (x, 0))) := W7.u uf_hb (W7.2.2.2.2.push 11)
            refine Ex.mm (S' := St N (hbM I7 (opN ((⟨f.k, f.ph, f.bg, f.pr, dr 5 f.ω⟩ : Fr) :: fs)) (nI (sN 11))) L7) rfl ?_
            generalize hbM I7 (opN ((⟨f.k, f.ph, f.bg, f.pr, dr 5 f.ω⟩ : Fr) :: fs)) (nI (sN 11)) = J8 at W8 ⊢
            refine Ex.aload_n (pc := 267) dX10_goesOn_267 rfl rfl ?_
            refine Ex.getR (pc := 268) dX10_goesOn_268 fX10_121 (sh36 _) r36_36 ?_
            refine Ex.iload_n (pc := 271) dX10_goesOn_271 rfl rfl ?_
            refine Ex.iconst (pc := 272) (v := 1) dX10_goesOn_272 rfl ?_
            refine Ex.iast (pc := 273) (j := fs.length) dX10_goesOn_273 (sh57 _) (vp_in_nI (by omega) (by decide)) (nI_clamp (by omega)) ?_
            refine Ex.mm (S' := St N (va_up J8 57 (upd (J8 57) fs.length (nI 1))) L7) rfl ?_
            have W9 : Wk tb n b w I L (va_up J8 57 (upd (J8 57) fs.length (nI 1))) L7 (⟨f.k, 1, f.bg, f.pr, 11 :: dr 5 f.ω⟩ :: fs) (o - cd14 (tk 5 f.ω)) t (c ++ (tk 5 f.ω).map (fun x => (x, 0))) := W8.u (uf_a (by decide)) (W8.2.2.2.2.ph 1)
            refine Ex.aload_n (pc := 274) dX10_goesOn_274 rfl rfl ?_
            refine Ex.callV (pc := 275) (As := []) (rest := []) dX10_goesOn_275 cX10_247 (Wk.nx W9) (sh36 _) rfl rfl (by decide) (Nat.le_refl _) (Nat.le_refl _) (Nat.le_of_ble_eq_true rfl) (Or.inl (fun r S' h => by obtain ⟨_, _, h, _⟩ := h; subst h; rfl)) (fun r S' hq _ _ => ?_)
            obtain ⟨I3, L3, rfl, rfl, g3, m3, z3, f3, k3⟩ := hq
            refine Ex.aload_n (pc := 278) dX10_goesOn_278 rfl rfl ?_
            refine Ex.iconst (pc := 279) (v := 0) dX10_goesOn_279 rfl ?_
            refine Ex.putI (pc := 280) dX10_goesOn_280 fX10_146 (sh36 _) (Or.inl rfl) ⟨rfl, rfl⟩ ?_
            refine Ex.mm (S' := St N (mf I3 44 0) L3) rfl ?_
            refine Ex.iconst (pc := 283) (v := 1) dX10_goesOn_283 rfl ?_
            refine Ex.iret (pc := 284) rfl rfl rfl dX10_goesOn_284 (Nat.le_refl _) (Nat.le_refl _) ?_
            have q1 := bI_0 c207
            have q2 := bI_0 c216
            have q3 := bI_1 c225
            have hcm : isCm (.ok (t, c)) = true := by unfold isCm; rw [q1, q2, q3]; rfl
            have hop : opC (.ok (t, c)) = 11 := by unfold opC; rw [q1, q2]; rfl
            rw [if_pos (by rw [bI_1 c189, decide_eq_true (h0.mp c198), hcm]; rfl), hop] at hC
            subst hC
            exact ⟨_, _, rfl, true, rfl, g3.tr (UF.rd (uf_m (by decide))), ReG.n (c := c ++ (tk 5 f.ω).map (fun x => (x, 0))) (m3.u (b := b) (uf_m (by decide))) mf_s (f3.nop 0)⟩
