theorem ReC.e {tb : Nat → Nat} {n b : Nat} {I2 : aI} {L2 : aL} {C : Cf} {v : Bool} {r : Er} (hC : C.2.2.2 = r) (hr : ∃ e, r = .error e) (h : RMt tb n I2 L2 r) : ReC tb n b I2 L2 C v := by
  refine ⟨by rw [hC]; exact h, fun t c q => ?_⟩
  obtain ⟨e, he⟩ := hr
  rw [hC, he] at q; cases q
theorem ReC.n {tb : Nat → Nat} {n b : Nat} {I2 : aI} {L2 : aL} {v : Bool} {fs : List Fr} {o : Nat} {t : Tk} {c : Cd} (h : RMt tb n I2 L2 (nx tb n (.ok (t, c)))) (hf : FrM b I2 fs o c) : ReC tb n b I2 L2 (v, fs, o, nx tb n (.ok (t, c))) v := ⟨h, fun t2 c2 q => ⟨rfl, by rw [nx_c q]; exact hf⟩⟩
theorem own_n {t : Tk} {c : Cd} {k : Nat} (h : isW k (.ok (t, c)) = true) (hk : k < 27) : ownN t.2.2.1 = k := by
  have h := (of_decide_eq_true h).2
  rcases own_c t.2.2.1 with q | q
  · rw [q.1] at h
    have := congrArg Int32.toInt h
    rw [nI_toInt (by omega)] at this
    have e : (-1 : Int32).toInt = -1 := rfl
    omega
  · rw [q.2] at h
    have := congrArg Int32.toInt h
    rw [nI_toInt (by omega), nI_toInt (by omega)] at this
    omega
theorem may_q : ∀ q, q < 12 → 1 ≤ q → ∀ w, w < 5 → mayW (nI (nmOf q)) (9 + w) = decide (q < 7 ∨ (q ≤ 8 ∧ (w = 0 ∨ w = 1)) ∨ (9 ≤ q ∧ (w = 2 ∨ w = 3))) := by decide +kernel
theorem nI_iff {a b : Nat} (ha : a < 1000) (hb : b < 1000) : nI a = nI b ↔ a = b := ⟨fun h => by
  have := congrArg Int32.toInt h
  rw [nI_toInt (by omega), nI_toInt (by omega)] at this
  omega, fun h => by rw [h]⟩
set_option maxRecDepth 20000 in
theorem tm_o558 {N n b w : Nat} {tb : Nat → Nat} {I J : aI} {L M : aL} {f : Fr} {fs : List Fr} {o : Nat} {t : Tk} {c : Cd} {C : Cf} {x1 x2 : Int32} {s : Nat × Nat} {x : Int32} (W : Wk tb n b w I L J M (f :: fs) o t c) (hb : b < 2) (hc : c.length < 1600) (hs : CdR s.1 s.2 x (J 36 6)) (hC : C = (true, f :: fs, o, nx tb n (adS s (.ok (t, c))))) : Ex 3 0 0 mX10_operand 0 0 558 [some (.ref 36), some (.int x1), some (.int x2), some (.int x)] [] (St N J M) (RX N (fun x I2 L2 => ∃ v : Bool, x = some (.int (bI v)) ∧ RdF b I L I2 L2 ∧ ReC tb n b I2 L2 C v)) := by
  subst hC
  have W2 : Wk tb n b w I L (adM2 J b c.length x (J 36 6)) M (f :: fs) o t (c ++ [s]) := W.u (uf_ad hc) (W.2.2.2.2.add hs)
  refine Ex.aload_n (pc := 558) dX10_operand_558 rfl rfl ?_
  refine Ex.iload_n (pc := 559) dX10_operand_559 rfl rfl ?_
  refine Ex.aload_n (pc := 560) dX10_operand_560 rfl rfl ?_
  refine Ex.getI (pc := 561) dX10_operand_561 fX10_29 (sh36 _) ?_
  refine Ex.callV (pc := 564) (As := [.int _, .int _]) (rest := []) dX10_operand_564 cX10_319 (tm_add (c := c.length) hb hc W.2.2.1.1 W.2.2.2.2.1.1) (sh36 _) rfl rfl (by decide) (Nat.le_refl _) (Nat.le_refl _) (Nat.le_of_ble_eq_true rfl) (Or.inl (fun r S' h => by obtain ⟨_, h⟩ := h; subst h; rfl)) (fun r S' hq _ _ => ?_)
  obtain ⟨rfl, rfl⟩ := hq
  refine Ex.aload_n (pc := 567) dX10_operand_567 rfl rfl ?_
  refine Ex.callV (pc := 568) (As := []) (rest := []) dX10_operand_568 cX10_247 (Wk.nx W2) (sh36 _) rfl rfl (by decide) (Nat.le_refl _) (Nat.le_refl _) (Nat.le_of_ble_eq_true rfl) (Or.inl (fun r S' h => by obtain ⟨_, _, h, _⟩ := h; subst h; rfl)) (fun r S' hq _ _ => ?_)
  obtain ⟨I3, L3, rfl, rfl, g3, m3, z3, f3, k3⟩ := hq
  refine Ex.iconst (pc := 571) (v := 1) dX10_operand_571 rfl ?_
  refine Ex.iret (pc := 572) rfl rfl rfl dX10_operand_572 (Nat.le_refl _) (Nat.le_refl _) ?_
  exact ⟨_, _, rfl, true, rfl, g3, ReC.n m3 f3⟩
set_option maxRecDepth 20000 in
theorem tm_o540 {N n b w : Nat} {tb : Nat → Nat} {I J : aI} {L M : aL} {f : Fr} {fs : List Fr} {o : Nat} {t : Tk} {c : Cd} {C : Cf} {x1 x2 : Int32} {x3 : Int32} {fs2 : List Fr} {bb : Bool} (W : Wk tb n b w I L J M (f :: fs) o t c) (hC : C = (bb, fs2, o, stp 1 (.ok (t, c)))) : Ex 3 0 0 mX10_operand 0 0 540 [some (.ref 36), some (.int x1), some (.int x2), some (.int x3)] [] (St N J M) (RX N (fun x I2 L2 => ∃ v : Bool, x = some (.int (bI v)) ∧ RdF b I L I2 L2 ∧ ReC tb n b I2 L2 C v)) := by
  subst hC
  have m0 : RMs tb n J M (.ok (t, c)) := W.2.2.2.1
  refine Ex.aload_n (pc := 540) dX10_operand_540 rfl rfl ?_
  refine Ex.iconst (pc := 541) (v := 1) dX10_operand_541 rfl ?_
  refine Ex.aload_n (pc := 542) dX10_operand_542 rfl rfl ?_
  refine Ex.getI (pc := 543) dX10_operand_543 fX10_23 (sh36 _) ?_
  refine Ex.callV (pc := 546) (As := [.int 1, .int _]) (rest := []) dX10_operand_546 cX10_230 (tm_stp (r := .ok (t, c)) (k := 1) m0 (by decide) (by decide) m0.at) (sh36 _) rfl rfl (by decide) (Nat.le_refl _) (Nat.le_refl _) (Nat.le_of_ble_eq_true rfl) (Or.inl (fun r S' h => by obtain ⟨_, _, h, _⟩ := h; subst h; rfl)) (fun r S' hq _ _ => ?_)
  obtain ⟨I2, L2, rfl, rfl, g2, m2⟩ := hq
  have hbad : ¬ I2 36 8 = 0 := fun z => RMs.bad (e := (1, t.2.2.2.1)) m2 z
  have hb2 : ¬ I2 36 8 ≤ 0 := fun z => hbad (Int32.le_antisymm z (Int32.not_lt.mp m2.t.n8))
  refine Ex.aload_n (pc := 549) dX10_operand_549 rfl rfl ?_
  refine Ex.getI (pc := 550) dX10_operand_550 fX10_36 (sh36 _) ?_
  refine Ex.if_le (pc := 553) (tgt := 558) dX10_operand_553 (by decide) (fun c553 => absurd c553 hb2) (fun _ => ?_)
  refine Ex.iconst (pc := 556) (v := 1) dX10_operand_556 rfl ?_
  refine Ex.iret (pc := 557) rfl rfl rfl dX10_operand_557 (Nat.le_refl _) (Nat.le_refl _) ?_
  exact ⟨_, _, rfl, true, rfl, W.1.tr g2.rd, ReC.e (r := stp 1 (.ok (t, c))) rfl (stp_r _) m2.t⟩
set_option maxRecDepth 20000 in
theorem tm_o487 {N n b w : Nat} {tb : Nat → Nat} {I J : aI} {L M : aL} {f : Fr} {fs : List Fr} {o : Nat} {t : Tk} {c : Cd} {C : Cf} {x1 x2 : Int32} {q : Nat} (W : Wk tb n b w I L J M (f :: fs) o t c) (hb : b < 2) (hw : w < 5) (hc : c.length < 1600) (hq1 : 1 ≤ q) (hq2 : q < 12) (hC : C = (true, f :: fs, o, if mayW (nI (nmOf q)) (9 + w) = true then nx tb n (adS (1, nmOf q) (.ok (t, c))) else stp 1 (.ok (t, c)))) : Ex 3 0 0 mX10_operand 0 0 487 [some (.ref 36), some (.int x1), some (.int x2), some (.int (nI q))] [] (St N J M) (RX N (fun x I2 L2 => ∃ v : Bool, x = some (.int (bI v)) ∧ RdF b I L I2 L2 ∧ ReC tb n b I2 L2 C v)) := by
  rw [may_q q hq2 hq1 w hw] at hC
  have h34 := W.2.2.1.2
  have h490 : (nI q < 7) ↔ q < 7 := by rw [show (7 : Int32) = nI 7 from rfl, nI_ltI (by omega) (by omega)]
  have h496 : (8 < nI q) ↔ 8 < q := by rw [show (8 : Int32) = nI 8 from rfl, nI_ltI (by omega) (by omega)]
  have hl : ∀ k, k < 5 → (J 36 34 = nI k ↔ w = k) := fun k hk => by rw [h34]; exact nI_iff (by omega) (by omega)
  have hm1 : ¬ nI q = -1 := fun z => by
    have := congrArg Int32.toInt z
    rw [nI_toInt (by omega)] at this
    have e : (-1 : Int32).toInt = -1 := rfl
    omega
  have yes : (q < 7 ∨ (q ≤ 8 ∧ (w = 0 ∨ w = 1)) ∨ (9 ≤ q ∧ (w = 2 ∨ w = 3))) → Ex 3 0 0 mX10_operand 0 0 558 [some (.ref 36), some (.int x1), some (.int x2), some (.int (nI q))] [] (St N J M) (RX N (fun x I2 L2 => ∃ v : Bool, x = some (.int (bI v)) ∧ RdF b I L I2 L2 ∧ ReC tb n b I2 L2 C v)) := fun z => by
    rw [if_pos (decide_eq_true z)] at hC
    exact tm_o558 W hb hc (s := (1, nmOf q)) (Or.inr (Or.inr (Or.inl ⟨rfl, q, hq1, by omega, rfl, rfl⟩))) hC
  have no : ¬ (q < 7 ∨ (q ≤ 8 ∧ (w = 0 ∨ w = 1)) ∨ (9 ≤ q ∧ (w = 2 ∨ w = 3))) → Ex 3 0 0 mX10_operand 0 0 540 [some (.ref 36), some (.int x1), some (.int x2), some (.int (-1))] [] (St N J M) (RX N (fun x I2 L2 => ∃ v : Bool, x = some (.int (bI v)) ∧ RdF b I L I2 L2 ∧ ReC tb n b I2 L2 C v)) := fun z => by
    rw [if_neg (fun y => z (of_decide_eq_true y))] at hC
    exact tm_o540 W hC
  refine Ex.iload_n (pc := 487) dX10_operand_487 rfl rfl ?_
  refine Ex.bipush (pc := 488) (v := 7) dX10_operand_488 rfl ?_
  refine Ex.icmp_lt (pc := 490) (tgt := 535) dX10_operand_490 (by decide) (fun c490 => ?_) (fun c490 => ?_)
  · skip
    refine Ex.iload_n (pc := 535) dX10_operand_535 rfl rfl ?_
    refine Ex.iconst (pc := 536) (v := (-1)) dX10_operand_536 rfl ?_
    refine Ex.icmp_ne (pc := 537) (tgt := 549) dX10_operand_537 (by decide) (fun _ => ?_) (fun c537 => absurd c537 hm1)
    refine Ex.aload_n (pc := 549) dX10_operand_549 rfl rfl ?_
    refine Ex.getI (pc := 550) dX10_operand_550 fX10_36 (sh36 _) ?_
    refine Ex.if_le (pc := 553) (tgt := 558) dX10_operand_553 (by decide) (fun _ => ?_) (fun c553 => absurd (by rw [W.2.2.2.1.1]; decide) c553)
    have z1 := h490.mp c490
    exact yes (by omega)
  · skip
    refine Ex.iload_n (pc := 493) dX10_operand_493 rfl rfl ?_
    refine Ex.bipush (pc := 494) (v := 8) dX10_operand_494 rfl ?_
    refine Ex.icmp_gt (pc := 496) (tgt := 517) dX10_operand_496 (by decide) (fun c496 => ?_) (fun c496 => ?_)
    · skip
      refine Ex.aload_n (pc := 517) dX10_operand_517 rfl rfl ?_
      refine Ex.getI (pc := 518) dX10_operand_518 fX10_115 (sh36 _) ?_
      refine Ex.iconst (pc := 521) (v := 2) dX10_operand_521 rfl ?_
      refine Ex.icmp_eq (pc := 522) (tgt := 535) dX10_operand_522 (by decide) (fun c522 => ?_) (fun c522 => ?_)
      · skip
        refine Ex.iload_n (pc := 535) dX10_operand_535 rfl rfl ?_
        refine Ex.iconst (pc := 536) (v := (-1)) dX10_operand_536 rfl ?_
        refine Ex.icmp_ne (pc := 537) (tgt := 549) dX10_operand_537 (by decide) (fun _ => ?_) (fun c537 => absurd c537 hm1)
        refine Ex.aload_n (pc := 549) dX10_operand_549 rfl rfl ?_
        refine Ex.getI (pc := 550) dX10_operand_550 fX10_36 (sh36 _) ?_
        refine Ex.if_le (pc := 553) (tgt := 558) dX10_operand_553 (by decide) (fun _ => ?_) (fun c553 => absurd (by rw [W.2.2.2.1.1]; decide) c553)
        have z1 := (not_congr h490).mp c490
        have z2 := h496.mp c496
        have y522 := (hl 2 (by decide)).mp c522
        exact yes (by omega)
      · skip
        refine Ex.aload_n (pc := 525) dX10_operand_525 rfl rfl ?_
        refine Ex.getI (pc := 526) dX10_operand_526 fX10_115 (sh36 _) ?_
        refine Ex.iconst (pc := 529) (v := 3) dX10_operand_529 rfl ?_
        refine Ex.icmp_eq (pc := 530) (tgt := 535) dX10_operand_530 (by decide) (fun c530 => ?_) (fun c530 => ?_)
        · skip
          refine Ex.iload_n (pc := 535) dX10_operand_535 rfl rfl ?_
          refine Ex.iconst (pc := 536) (v := (-1)) dX10_operand_536 rfl ?_
          refine Ex.icmp_ne (pc := 537) (tgt := 549) dX10_operand_537 (by decide) (fun _ => ?_) (fun c537 => absurd c537 hm1)
          refine Ex.aload_n (pc := 549) dX10_operand_549 rfl rfl ?_
          refine Ex.getI (pc := 550) dX10_operand_550 fX10_36 (sh36 _) ?_
          refine Ex.if_le (pc := 553) (tgt := 558) dX10_operand_553 (by decide) (fun _ => ?_) (fun c553 => absurd (by rw [W.2.2.2.1.1]; decide) c553)
          have z1 := (not_congr h490).mp c490
          have z2 := h496.mp c496
          have y522 := (not_congr (hl 2 (by decide))).mp c522
          have y530 := (hl 3 (by decide)).mp c530
          exact yes (by omega)
        · skip
          refine Ex.iconst (pc := 533) (v := (-1)) dX10_operand_533 rfl ?_
          refine Ex.istore_n (pc := 534) (ls' := [some (.ref 36), some (.int _), some (.int _), some (.int (-1))]) dX10_operand_534 rfl (by decide) rfl rfl ?_
          refine Ex.iload_n (pc := 535) dX10_operand_535 rfl rfl ?_
          refine Ex.iconst (pc := 536) (v := (-1)) dX10_operand_536 rfl ?_
          refine Ex.icmp_ne (pc := 537) (tgt := 549) dX10_operand_537 (by decide) (fun c537 => absurd (by decide) c537) (fun _ => ?_)
          have z1 := (not_congr h490).mp c490
          have z2 := h496.mp c496
          have y522 := (not_congr (hl 2 (by decide))).mp c522
          have y530 := (not_congr (hl 3 (by decide))).mp c530
          exact no (by omega)
    · skip
      refine Ex.aload_n (pc := 499) dX10_operand_499 rfl rfl ?_
      refine Ex.getI (pc := 500) dX10_operand_500 fX10_115 (sh36 _) ?_
      refine Ex.if_eq (pc := 503) (tgt := 535) dX10_operand_503 (by decide) (fun c503 => ?_) (fun c503 => ?_)
      · skip
        refine Ex.iload_n (pc := 535) dX10_operand_535 rfl rfl ?_
        refine Ex.iconst (pc := 536) (v := (-1)) dX10_operand_536 rfl ?_
        refine Ex.icmp_ne (pc := 537) (tgt := 549) dX10_operand_537 (by decide) (fun _ => ?_) (fun c537 => absurd c537 hm1)
        refine Ex.aload_n (pc := 549) dX10_operand_549 rfl rfl ?_
        refine Ex.getI (pc := 550) dX10_operand_550 fX10_36 (sh36 _) ?_
        refine Ex.if_le (pc := 553) (tgt := 558) dX10_operand_553 (by decide) (fun _ => ?_) (fun c553 => absurd (by rw [W.2.2.2.1.1]; decide) c553)
        have z1 := (not_congr h490).mp c490
        have z2 := (not_congr h496).mp c496
        have y503 := (hl 0 (by decide)).mp c503
        exact yes (by omega)
      · skip
        refine Ex.aload_n (pc := 506) dX10_operand_506 rfl rfl ?_
        refine Ex.getI (pc := 507) dX10_operand_507 fX10_115 (sh36 _) ?_
        refine Ex.iconst (pc := 510) (v := 1) dX10_operand_510 rfl ?_
        refine Ex.icmp_eq (pc := 511) (tgt := 535) dX10_operand_511 (by decide) (fun c511 => ?_) (fun c511 => ?_)
        · skip
          refine Ex.iload_n (pc := 535) dX10_operand_535 rfl rfl ?_
          refine Ex.iconst (pc := 536) (v := (-1)) dX10_operand_536 rfl ?_
          refine Ex.icmp_ne (pc := 537) (tgt := 549) dX10_operand_537 (by decide) (fun _ => ?_) (fun c537 => absurd c537 hm1)
          refine Ex.aload_n (pc := 549) dX10_operand_549 rfl rfl ?_
          refine Ex.getI (pc := 550) dX10_operand_550 fX10_36 (sh36 _) ?_
          refine Ex.if_le (pc := 553) (tgt := 558) dX10_operand_553 (by decide) (fun _ => ?_) (fun c553 => absurd (by rw [W.2.2.2.1.1]; decide) c553)
          have z1 := (not_congr h490).mp c490
          have z2 := (not_congr h496).mp c496
          have y503 := (not_congr (hl 0 (by decide))).mp c503
          have y511 := (hl 1 (by decide)).mp c511
          exact yes (by omega)
        · skip
          refine Ex.goto (pc := 514) (tgt := 533) dX10_operand_514 (by decide) ?_
          refine Ex.iconst (pc := 533) (v := (-1)) dX10_operand_533 rfl ?_
          refine Ex.istore_n (pc := 534) (ls' := [some (.ref 36), some (.int _), some (.int _), some (.int (-1))]) dX10_operand_534 rfl (by decide) rfl rfl ?_
          refine Ex.iload_n (pc := 535) dX10_operand_535 rfl rfl ?_
          refine Ex.iconst (pc := 536) (v := (-1)) dX10_operand_536 rfl ?_
          refine Ex.icmp_ne (pc := 537) (tgt := 549) dX10_operand_537 (by decide) (fun c537 => absurd (by decide) c537) (fun _ => ?_)
          have z1 := (not_congr h490).mp c490
          have z2 := (not_congr h496).mp c496
          have y503 := (not_congr (hl 0 (by decide))).mp c503
          have y511 := (not_congr (hl 1 (by decide))).mp c511
          exact no (by omega)
