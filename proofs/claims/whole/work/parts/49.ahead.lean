set_option maxRecDepth 20000 in
theorem tm_isAhead {N : Nat} {I : aI} {L : aL} {w : Nat} {n l : Int32} (hw : I 63 0 = nI w) (hw9 : w ≤ 999) (hl : l = 0 ∨ l = 1) : Run 1 0 0 mX10_isAhead [.ref 36, .int n, .int l, .int 40] (St N I L) (RI (bI (decide (¬ n < l) && cpB n (nI w))) (St N I L)) := by
  refine Run.of (ls := [some (.ref 36), some (.int _), some (.int _), some (.int _)]) (by decide) (Nat.le_of_ble_eq_true rfl) rfl ?_
  have hpos : ¬ n < l → ¬ n < 0 := fun h q => h (by rcases hl with rfl | rfl; exact q; rw [Int32.lt_iff_toInt_lt] at q ⊢; show n.toInt < (1 : Int); have : n.toInt < (0 : Int) := q; omega)
  refine Ex.iload_n (pc := 0) dX10_isAhead_0 rfl rfl ?_
  refine Ex.iload_n (pc := 1) dX10_isAhead_1 rfl rfl ?_
  refine Ex.iload_n (pc := 2) dX10_isAhead_2 rfl rfl ?_
  refine Ex.callS (pc := 3) (As := [.int _, .int _, .int _]) (rest := []) dX10_isAhead_3 cX10_312 tm_is rfl rfl (by decide) (Nat.le_refl _) (Nat.le_refl _) (Nat.le_of_ble_eq_true rfl) (Or.inl (fun r S' h => by obtain ⟨_, h⟩ := h; subst h; rfl)) (fun r S' hq _ _ => ?_)
  obtain ⟨rfl, rfl⟩ := hq
  refine Ex.if_eq (pc := 6) (tgt := 27) dX10_isAhead_6 (by decide) (fun c6 => ?_) (fun c6 => ?_)
  · skip
    refine Ex.iconst (pc := 27) (v := 0) dX10_isAhead_27 rfl ?_
    refine Ex.iret (pc := 28) rfl rfl rfl dX10_isAhead_28 (Nat.le_refl _) (Nat.le_refl _) ?_
    have hf := of_decide_eq_false (bI_0 c6)
    refine ⟨?_, rfl⟩
    rw [show (decide (¬ n < l) && cpB n (nI w)) = false from ?_]
    · rfl
    · rw [Bool.and_eq_false_iff]; by_cases q : n < l
      · exact Or.inl (decide_eq_false (fun h => h q))
      · exact Or.inr (decide_eq_false (fun h => hf ⟨q, h.2.1⟩))
  · skip
    refine Ex.aload_n (pc := 9) dX10_isAhead_9 rfl rfl ?_
    refine Ex.getR (pc := 10) dX10_isAhead_10 fX10_153 (sh36 _) r36_46 ?_
    refine Ex.iconst (pc := 13) (v := 0) dX10_isAhead_13 rfl ?_
    refine Ex.iald (pc := 14) (j := 0) dX10_isAhead_14 (sh63 _) (by unfold vp_in; decide) (by decide) ?_
    refine Ex.sipush (pc := 15) (v := 999) dX10_isAhead_15 rfl ?_
    refine Ex.iload_n (pc := 18) dX10_isAhead_18 rfl rfl ?_
    refine Ex.isub (pc := 19) dX10_isAhead_19 ?_
    refine Ex.icmp_gt (pc := 20) (tgt := 27) dX10_isAhead_20 (by decide) (fun c20 => ?_) (fun c20 => ?_)
    · skip
      refine Ex.iconst (pc := 27) (v := 0) dX10_isAhead_27 rfl ?_
      refine Ex.iret (pc := 28) rfl rfl rfl dX10_isAhead_28 (Nat.le_refl _) (Nat.le_refl _) ?_
      have hf := of_decide_eq_true (bI_1 c6)
      obtain ⟨j, hj, rfl⟩ := nI_of2 (n := 40) (by decide) (hpos hf.1) (Int32.not_lt.mp hf.2)
      rw [hw, show (999 : Int32) - nI j = nI (999 - j) from pk_sub (a := 999) (by omega)] at c20
      rw [nI_ltI (by omega) (by omega)] at c20
      refine ⟨?_, rfl⟩
      rw [show (decide (¬ nI j < l) && cpB (nI j) (nI w)) = false from ?_]
      · rfl
      · rw [Bool.and_eq_false_iff]; refine Or.inr (decide_eq_false (fun h => h.2.2 ?_))
        rw [show (999 : Int32) - nI w = nI (999 - w) from pk_sub (a := 999) (by omega), nI_ltI (by omega) (by omega)]; omega
    · skip
      refine Ex.iconst (pc := 23) (v := 1) dX10_isAhead_23 rfl ?_
      refine Ex.goto (pc := 24) (tgt := 28) dX10_isAhead_24 (by decide) ?_
      refine Ex.iret (pc := 28) rfl rfl rfl dX10_isAhead_28 (Nat.le_refl _) (Nat.le_refl _) ?_
      have hf := of_decide_eq_true (bI_1 c6)
      obtain ⟨j, hj, rfl⟩ := nI_of2 (n := 40) (by decide) (hpos hf.1) (Int32.not_lt.mp hf.2)
      rw [hw, show (999 : Int32) - nI j = nI (999 - j) from pk_sub (a := 999) (by omega)] at c20
      rw [nI_ltI (by omega) (by omega)] at c20
      refine ⟨?_, rfl⟩
      rw [show (decide (¬ nI j < l) && cpB (nI j) (nI w)) = true from ?_]
      · rfl
      · rw [Bool.and_eq_true]; refine ⟨decide_eq_true hf.1, decide_eq_true ⟨hpos hf.1, hf.2, ?_⟩⟩
        rw [show (999 : Int32) - nI w = nI (999 - w) from pk_sub (a := 999) (by omega), nI_ltI (by omega) (by omega)]; omega
set_option maxRecDepth 20000 in
theorem tm_tries {N : Nat} {I : aI} {L : aL} {p : aP} {bk nb ns nh : Nat} {f5 f6 : Nat → Int32} {x : aX} {rs : List aRow} (hR : RS I bk nb ns nh p f5 f6 x rs) {n w : Nat} (hn : n ≤ 40) (hw : x.1 = nI w) (hwn : w + n ≤ 999) : Run 7 0 0 mX10_tries [.ref 36, .int (nI n)] (St N I L) (RX N (fun o I2 L2 => o = none ∧ QF I I2 ∧ SmL [70] L L2 ∧ XR I2 1 nb ns (aheadX p f5 f6 nb ns nh n x))) := by
  refine Run.of (ls := [some (.ref 36), some (.int _), none]) (by decide) (Nat.le_of_ble_eq_true rfl) rfl ?_
  obtain ⟨hP, hX, hK, hG, hrb⟩ := id hR
  obtain ⟨⟨h1, h2, hnb, hns, hnh, hcb, hcs, hch⟩, -⟩ := id hP
  have hah := hG.ahead (p := p) (f5 := f5) (f6 := f6) hnh hw
  refine Ex.aload_n (pc := 0) dX10_tries_0 rfl rfl ?_
  refine Ex.iconst (pc := 1) (v := 1) dX10_tries_1 rfl ?_
  refine Ex.iconst (pc := 2) (v := 0) dX10_tries_2 rfl ?_
  refine Ex.callV (pc := 3) (As := [.int 1, .int 0]) (rest := []) dX10_tries_3 cX10_405 (tm_copies (to := 1) (fr := 0) (by decide) (by decide) (by decide) hnb hns hX hK) (sh36 _) rfl rfl (by decide) (Nat.le_refl _) (Nat.le_refl _) (Nat.le_of_ble_eq_true rfl) (Or.inl (fun r S' h => by obtain ⟨_, _, h, _⟩ := h; subst h; rfl)) (fun r S' hq _ _ => ?_)
  obtain ⟨I1, rfl, rfl, hS1, hF1, hX1, hK1⟩ := hq
  have hP1 : RefP I1 bk nb ns nh p f5 f6 := hP.sm hS1 (by decide)
  refine Ex.iconst (pc := 6) (v := 0) dX10_tries_6 rfl ?_
  refine Ex.istore_n (pc := 7) (ls' := [some (.ref 36), some (.int _), some (.int 0)]) dX10_tries_7 rfl (by decide) rfl rfl ?_
  refine forUp (σ := aI × aL) (P := fun k q => Ex 7 0 0 mX10_tries 0 0 8 [some (.ref 36), some (.int (nI n)), some (.int (nI k))] [] (St N q.1 q.2) _) (Inv := fun k q => Sm [63, 64, 65, 66, 67, 68, 69, 71] I q.1 ∧ SmL [70] L q.2 ∧ SlF 1 I q.1 ∧ XR q.1 1 nb ns (aheadX p f5 f6 nb ns nh k x) ∧ ∃ r, KR q.1 1 r) n ?_ ?_ 0 (I1, L) (Nat.zero_le _) ⟨hS1.tr Sm.rf (l2 := []) (by decide) (by decide), SmL.rf, hF1, hX1, _, hK1⟩
  · rintro ⟨I2, L2⟩ ⟨hS, hSL, hF, hX2, -⟩
    refine Ex.iload_n (pc := 8) dX10_tries_8 rfl rfl ?_
    refine Ex.iload_n (pc := 9) dX10_tries_9 rfl rfl ?_
    refine Ex.icmp_ge (pc := 10) (tgt := 26) dX10_tries_10 (by decide) (fun _ => ?_) (fun c10 => absurd (nI_le (Nat.le_refl _) (by omega)) c10)
    refine Ex.vret (pc := 26) rfl dX10_tries_26 (Nat.le_refl _) (Nat.le_refl _) ?_
    exact ⟨_, _, rfl, rfl, ⟨hS.tr Sm.rf (l2 := []) (by decide) (by decide), hF⟩, hSL, hX2⟩
  · rintro k ⟨I2, L2⟩ hk ⟨hS, hSL, hF, hX2, r, hK2⟩ ih
    dsimp only at *
    have hP2 : RefP I2 bk nb ns nh p f5 f6 := hP.sm hS (by decide)
    obtain ⟨hG2, hw2⟩ := hah k (by omega)
    refine Ex.iload_n (pc := 8) dX10_tries_8 rfl rfl ?_
    refine Ex.iload_n (pc := 9) dX10_tries_9 rfl rfl ?_
    refine Ex.icmp_ge (pc := 10) (tgt := 26) dX10_tries_10 (by decide) (fun c10 => absurd c10 (nI_ge hk (by omega))) (fun _ => ?_)
    refine Ex.aload_n (pc := 13) dX10_tries_13 rfl rfl ?_
    refine Ex.iconst (pc := 14) (v := 1) dX10_tries_14 rfl ?_
    refine Ex.iconst (pc := 15) (v := 0) dX10_tries_15 rfl ?_
    refine Ex.callV (pc := 16) (As := [.int 1, .int 0]) (rest := []) dX10_tries_16 cX10_502 (tm_passes (dr := false) hP2 hX2 (by decide) hG2.1 hK2 hrb ⟨w + k, by omega, hw2⟩) (sh36 _) rfl rfl (by decide) (Nat.le_refl _) (Nat.le_refl _) (Nat.le_of_ble_eq_true rfl) (Or.inl (fun r S' h => by obtain ⟨_, _, h, _⟩ := h; subst h; rfl)) (fun r S' hq _ _ => ?_)
    obtain ⟨I3, L3, rfl, rfl, hS3, hSL3, hF3, hX3, hK3⟩ := hq
    refine Ex.pop (pc := 19) dX10_tries_19 rfl ?_
    refine Ex.iinc (pc := 20) (ls' := [some (.ref 36), some (.int _), some (.int _)]) dX10_tries_20 rfl rfl (by decide) rfl rfl ?_
    refine Ex.goto (pc := 23) (tgt := 8) dX10_tries_23 (by decide) ?_
    rw [show nI k + Int32.ofInt 1 = nI (k + 1) from nI_1 k]
    exact ih (I3, L3) ⟨hS.tr hS3 (by decide) (by decide), hSL.tr hSL3 (by decide) (by decide), hF.tr hF3, hX3, _, hK3⟩
theorem cp0 (n wk : Int32) : (decide (¬ n < 0) && cpB n wk) = cpB n wk := by
  cases h : cpB n wk with
  | false => exact Bool.and_false _
  | true =>
    rw [Bool.and_true]
    exact decide_eq_true (of_decide_eq_true h).1
set_option maxRecDepth 20000 in
theorem tm_later {N : Nat} {I : aI} {L : aL} {p : aP} {bk nb ns nh : Nat} {f5 f6 : Nat → Int32} {x : aX} {rs : List aRow} (hR : RS I bk nb ns nh p f5 f6 x rs) {w n : Int32} : Run 8 0 0 mX10_later [.ref 36, .int w, .int n] (St N I L) (RX N (fun o I2 L2 => o = some (.int (if inR w ns = false then -1 else if cpB n x.1 = false then -1 else (aheadX p f5 f6 nb ns nh n.toNatClampNeg x).2.2.2.2 w.toNatClampNeg)) ∧ QF I I2 ∧ SmL [70] L L2)) := by
  refine Run.of (ls := [some (.ref 36), some (.int _), some (.int _)]) (by decide) (Nat.le_of_ble_eq_true rfl) rfl ?_
  obtain ⟨hP, hX, hK, hG, hrb⟩ := id hR
  obtain ⟨⟨h1, h2, hnb, hns, hnh, hcb, hcs, hch⟩, -⟩ := id hP
  obtain ⟨w0, hw9, hw0⟩ := hG.2.2.2.1
  have hw63 : I 63 0 = nI w0 := by rw [hX.1, hw0]
  rw [hw0]
  refine Ex.aload_n (pc := 0) dX10_later_0 rfl rfl ?_
  refine Ex.iload_n (pc := 1) dX10_later_1 rfl rfl ?_
  refine Ex.callV (pc := 2) (As := [.int _]) (rest := []) dX10_later_2 cX10_473 (tm_isStain hP.1) (sh36 _) rfl rfl (by decide) (Nat.le_refl _) (Nat.le_refl _) (Nat.le_of_ble_eq_true rfl) (Or.inl (fun r S' h => by obtain ⟨_, h⟩ := h; subst h; rfl)) (fun r S' hq _ _ => ?_)
  obtain ⟨rfl, rfl⟩ := hq
  refine Ex.if_eq (pc := 5) (tgt := 19) dX10_later_5 (by decide) (fun c5 => ?_) (fun c5 => ?_)
  · skip
    refine Ex.iconst (pc := 19) (v := (-1)) dX10_later_19 rfl ?_
    refine Ex.iret (pc := 20) rfl rfl rfl dX10_later_20 (Nat.le_refl _) (Nat.le_refl _) ?_
    refine ⟨_, _, rfl, ?_, QF.rf, SmL.rf⟩
    rw [bI_0 c5]
    rfl
  · skip
    refine Ex.aload_n (pc := 8) dX10_later_8 rfl rfl ?_
    refine Ex.iload_n (pc := 9) dX10_later_9 rfl rfl ?_
    refine Ex.iconst (pc := 10) (v := 0) dX10_later_10 rfl ?_
    refine Ex.bipush (pc := 11) (v := 40) dX10_later_11 rfl ?_
    refine Ex.callV (pc := 13) (As := [.int _, .int 0, .int 40]) (rest := []) dX10_later_13 cX10_506 (tm_isAhead hw63 hw9 (Or.inl rfl)) (sh36 _) rfl rfl (by decide) (Nat.le_refl _) (Nat.le_refl _) (Nat.le_of_ble_eq_true rfl) (Or.inl (fun r S' h => by obtain ⟨_, h⟩ := h; subst h; rfl)) (fun r S' hq _ _ => ?_)
    obtain ⟨rfl, rfl⟩ := hq
    refine Ex.if_ne (pc := 16) (tgt := 21) dX10_later_16 (by decide) (fun c16 => ?_) (fun c16 => ?_)
    · skip
      obtain ⟨j, hj, rfl⟩ := inR_of (bI_1 c5) (by omega)
      have hcp := bI_1 c16
      rw [show (decide (¬ n < 0) && cpB n (nI w0)) = cpB n (nI w0) from cp0 n _] at hcp
      have hc2 := of_decide_eq_true hcp
      obtain ⟨n, hn, rfl⟩ := nI_of2 (n := 40) (by decide) hc2.1 (Int32.not_lt.mp hc2.2.1)
      have hwn : w0 + n ≤ 999 := by
        have h3 := hc2.2.2
        rw [show (999 : Int32) - nI w0 = nI (999 - w0) from pk_sub (a := 999) (by omega), nI_ltI (by omega) (by omega)] at h3
        omega
      refine Ex.aload_n (pc := 21) dX10_later_21 rfl rfl ?_
      refine Ex.iload_n (pc := 22) dX10_later_22 rfl rfl ?_
      refine Ex.callV (pc := 23) (As := [.int _]) (rest := []) dX10_later_23 cX10_509 (tm_tries hR hn hw0 hwn) (sh36 _) rfl rfl (by decide) (Nat.le_refl _) (Nat.le_refl _) (Nat.le_of_ble_eq_true rfl) (Or.inl (fun r S' h => by obtain ⟨_, _, h, _⟩ := h; subst h; rfl)) (fun r S' hq _ _ => ?_)
      obtain ⟨I2, L2, rfl, rfl, hQ2, hSL2, hX2⟩ := hq
      refine Ex.aload_n (pc := 26) dX10_later_26 rfl rfl ?_
      refine Ex.getR (pc := 27) dX10_later_27 fX10_162 (sh36 _) r36_49 ?_
      refine Ex.bipush (pc := 30) (v := 6) dX10_later_30 rfl ?_
      refine Ex.iload_n (pc := 32) dX10_later_32 rfl rfl ?_
      refine Ex.iadd (pc := 33) dX10_later_33 ?_
      refine Ex.iald (pc := 34) (j := 6 + j) dX10_later_34 (sh66 _) (ixA (x := 6) (a := 6) (j := j) rfl (by omega) (by decide)).1 (ixA2 (x := 6) (a := 6) (j := j) rfl (by omega)) ?_
      refine Ex.iret (pc := 35) rfl rfl rfl dX10_later_35 (Nat.le_refl _) (Nat.le_refl _) ?_
      refine ⟨_, _, rfl, ?_, hQ2, hSL2⟩
      rw [show 6 + j = 6 * 1 + j by omega, hX2.2.2.2.2 j hj, bI_1 c5, hcp, if_neg (show ¬ true = false by decide), if_neg (show ¬ true = false by decide), nI_clamp (by omega), nI_clamp (by omega)]
    · skip
      refine Ex.iconst (pc := 19) (v := (-1)) dX10_later_19 rfl ?_
      refine Ex.iret (pc := 20) rfl rfl rfl dX10_later_20 (Nat.le_refl _) (Nat.le_refl _) ?_
      refine ⟨_, _, rfl, ?_, QF.rf, SmL.rf⟩
      have hcp := bI_0 c16
      rw [show (decide (¬ n < 0) && cpB n (nI w0)) = cpB n (nI w0) from cp0 n _] at hcp
      rw [bI_1 c5, hcp, if_neg (show ¬ true = false by decide), if_pos rfl]
set_option maxRecDepth 20000 in
theorem tm_worn {N : Nat} {I : aI} {L : aL} {p : aP} {bk nb ns nh : Nat} {f5 f6 : Nat → Int32} {x : aX} {rs : List aRow} (hR : RS I bk nb ns nh p f5 f6 x rs) {w n : Int32} : Run 8 0 0 mX10_worn [.ref 36, .int w, .int n] (St N I L) (RX N (fun o I2 L2 => o = some (.int (if inR w nb = false then -1 else if cpB n x.1 = false then -1 else (aheadX p f5 f6 nb ns nh n.toNatClampNeg x).2.2.2.1 w.toNatClampNeg)) ∧ QF I I2 ∧ SmL [70] L L2)) := by
  refine Run.of (ls := [some (.ref 36), some (.int _), some (.int _)]) (by decide) (Nat.le_of_ble_eq_true rfl) rfl ?_
  obtain ⟨hP, hX, hK, hG, hrb⟩ := id hR
  obtain ⟨⟨h1, h2, hnb, hns, hnh, hcb, hcs, hch⟩, -⟩ := id hP
  obtain ⟨w0, hw9, hw0⟩ := hG.2.2.2.1
  have hw63 : I 63 0 = nI w0 := by rw [hX.1, hw0]
  rw [hw0]
  refine Ex.aload_n (pc := 0) dX10_worn_0 rfl rfl ?_
  refine Ex.iload_n (pc := 1) dX10_worn_1 rfl rfl ?_
  refine Ex.callV (pc := 2) (As := [.int _]) (rest := []) dX10_worn_2 cX10_470 (tm_isBoard hP.1) (sh36 _) rfl rfl (by decide) (Nat.le_refl _) (Nat.le_refl _) (Nat.le_of_ble_eq_true rfl) (Or.inl (fun r S' h => by obtain ⟨_, h⟩ := h; subst h; rfl)) (fun r S' hq _ _ => ?_)
  obtain ⟨rfl, rfl⟩ := hq
  refine Ex.if_eq (pc := 5) (tgt := 19) dX10_worn_5 (by decide) (fun c5 => ?_) (fun c5 => ?_)
  · skip
    refine Ex.iconst (pc := 19) (v := (-1)) dX10_worn_19 rfl ?_
    refine Ex.iret (pc := 20) rfl rfl rfl dX10_worn_20 (Nat.le_refl _) (Nat.le_refl _) ?_
    refine ⟨_, _, rfl, ?_, QF.rf, SmL.rf⟩
    rw [bI_0 c5]
    rfl
  · skip
    refine Ex.aload_n (pc := 8) dX10_worn_8 rfl rfl ?_
    refine Ex.iload_n (pc := 9) dX10_worn_9 rfl rfl ?_
    refine Ex.iconst (pc := 10) (v := 0) dX10_worn_10 rfl ?_
    refine Ex.bipush (pc := 11) (v := 40) dX10_worn_11 rfl ?_
    refine Ex.callV (pc := 13) (As := [.int _, .int 0, .int 40]) (rest := []) dX10_worn_13 cX10_506 (tm_isAhead hw63 hw9 (Or.inl rfl)) (sh36 _) rfl rfl (by decide) (Nat.le_refl _) (Nat.le_refl _) (Nat.le_of_ble_eq_true rfl) (Or.inl (fun r S' h => by obtain ⟨_, h⟩ := h; subst h; rfl)) (fun r S' hq _ _ => ?_)
    obtain ⟨rfl, rfl⟩ := hq
    refine Ex.if_ne (pc := 16) (tgt := 21) dX10_worn_16 (by decide) (fun c16 => ?_) (fun c16 => ?_)
    · skip
      obtain ⟨j, hj, rfl⟩ := inR_of (bI_1 c5) (by omega)
      have hcp := bI_1 c16
      rw [show (decide (¬ n < 0) && cpB n (nI w0)) = cpB n (nI w0) from cp0 n _] at hcp
      have hc2 := of_decide_eq_true hcp
      obtain ⟨n, hn, rfl⟩ := nI_of2 (n := 40) (by decide) hc2.1 (Int32.not_lt.mp hc2.2.1)
      have hwn : w0 + n ≤ 999 := by
        have h3 := hc2.2.2
        rw [show (999 : Int32) - nI w0 = nI (999 - w0) from pk_sub (a := 999) (by omega), nI_ltI (by omega) (by omega)] at h3
        omega
      refine Ex.aload_n (pc := 21) dX10_worn_21 rfl rfl ?_
      refine Ex.iload_n (pc := 22) dX10_worn_22 rfl rfl ?_
      refine Ex.callV (pc := 23) (As := [.int _]) (rest := []) dX10_worn_23 cX10_509 (tm_tries hR hn hw0 hwn) (sh36 _) rfl rfl (by decide) (Nat.le_refl _) (Nat.le_refl _) (Nat.le_of_ble_eq_true rfl) (Or.inl (fun r S' h => by obtain ⟨_, _, h, _⟩ := h; subst h; rfl)) (fun r S' hq _ _ => ?_)
      obtain ⟨I2, L2, rfl, rfl, hQ2, hSL2, hX2⟩ := hq
      refine Ex.aload_n (pc := 26) dX10_worn_26 rfl rfl ?_
      refine Ex.getR (pc := 27) dX10_worn_27 fX10_159 (sh36 _) r36_48 ?_
      refine Ex.iconst (pc := 30) (v := 5) dX10_worn_30 rfl ?_
      refine Ex.iload_n (pc := 31) dX10_worn_31 rfl rfl ?_
      refine Ex.iadd (pc := 32) dX10_worn_32 ?_
      refine Ex.iald (pc := 33) (j := 5 + j) dX10_worn_33 (sh65 _) (ixA (x := 5) (a := 5) (j := j) rfl (by omega) (by decide)).1 (ixA2 (x := 5) (a := 5) (j := j) rfl (by omega)) ?_
      refine Ex.iret (pc := 34) rfl rfl rfl dX10_worn_34 (Nat.le_refl _) (Nat.le_refl _) ?_
      refine ⟨_, _, rfl, ?_, hQ2, hSL2⟩
      rw [show 5 + j = 5 * 1 + j by omega, hX2.2.2.2.1 j hj, bI_1 c5, hcp, if_neg (show ¬ true = false by decide), if_neg (show ¬ true = false by decide), nI_clamp (by omega), nI_clamp (by omega)]
    · skip
      refine Ex.iconst (pc := 19) (v := (-1)) dX10_worn_19 rfl ?_
      refine Ex.iret (pc := 20) rfl rfl rfl dX10_worn_20 (Nat.le_refl _) (Nat.le_refl _) ?_
      refine ⟨_, _, rfl, ?_, QF.rf, SmL.rf⟩
      have hcp := bI_0 c16
      rw [show (decide (¬ n < 0) && cpB n (nI w0)) = cpB n (nI w0) from cp0 n _] at hcp
      rw [bI_1 c5, hcp, if_neg (show ¬ true = false by decide), if_pos rfl]
set_option maxRecDepth 20000 in
theorem tm_saved {N : Nat} {I : aI} {L : aL} {p : aP} {bk nb ns nh : Nat} {f5 f6 : Nat → Int32} {x : aX} {rs : List aRow} (hR : RS I bk nb ns nh p f5 f6 x rs) {n : Int32} : Run 8 0 0 mX10_saved [.ref 36, .int n] (St N I L) (RX N (fun o I2 L2 => o = some (.int (if cpB n x.1 = false then -1 else (aheadX p f5 f6 nb ns nh n.toNatClampNeg x).2.2.1)) ∧ QF I I2 ∧ SmL [70] L L2)) := by
  refine Run.of (ls := [some (.ref 36), some (.int _)]) (by decide) (Nat.le_of_ble_eq_true rfl) rfl ?_
  obtain ⟨hP, hX, hK, hG, hrb⟩ := id hR
  obtain ⟨⟨h1, h2, hnb, hns, hnh, hcb, hcs, hch⟩, -⟩ := id hP
  obtain ⟨w0, hw9, hw0⟩ := hG.2.2.2.1
  have hw63 : I 63 0 = nI w0 := by rw [hX.1, hw0]
  rw [hw0]
  refine Ex.aload_n (pc := 0) dX10_saved_0 rfl rfl ?_
  refine Ex.iload_n (pc := 1) dX10_saved_1 rfl rfl ?_
  refine Ex.iconst (pc := 2) (v := 0) dX10_saved_2 rfl ?_
  refine Ex.bipush (pc := 3) (v := 40) dX10_saved_3 rfl ?_
  refine Ex.callV (pc := 5) (As := [.int _, .int 0, .int 40]) (rest := []) dX10_saved_5 cX10_506 (tm_isAhead hw63 hw9 (Or.inl rfl)) (sh36 _) rfl rfl (by decide) (Nat.le_refl _) (Nat.le_refl _) (Nat.le_of_ble_eq_true rfl) (Or.inl (fun r S' h => by obtain ⟨_, h⟩ := h; subst h; rfl)) (fun r S' hq _ _ => ?_)
  obtain ⟨rfl, rfl⟩ := hq
  refine Ex.if_ne (pc := 8) (tgt := 13) dX10_saved_8 (by decide) (fun c8 => ?_) (fun c8 => ?_)
  · skip
    have hcp := bI_1 c8
    rw [show (decide (¬ n < 0) && cpB n (nI w0)) = cpB n (nI w0) from cp0 n _] at hcp
    have hc2 := of_decide_eq_true hcp
    obtain ⟨n, hn, rfl⟩ := nI_of2 (n := 40) (by decide) hc2.1 (Int32.not_lt.mp hc2.2.1)
    have hwn : w0 + n ≤ 999 := by
      have h3 := hc2.2.2
      rw [show (999 : Int32) - nI w0 = nI (999 - w0) from pk_sub (a := 999) (by omega), nI_ltI (by omega) (by omega)] at h3
      omega
    refine Ex.aload_n (pc := 13) dX10_saved_13 rfl rfl ?_
    refine Ex.iload_n (pc := 14) dX10_saved_14 rfl rfl ?_
    refine Ex.callV (pc := 15) (As := [.int _]) (rest := []) dX10_saved_15 cX10_509 (tm_tries hR hn hw0 hwn) (sh36 _) rfl rfl (by decide) (Nat.le_refl _) (Nat.le_refl _) (Nat.le_of_ble_eq_true rfl) (Or.inl (fun r S' h => by obtain ⟨_, _, h, _⟩ := h; subst h; rfl)) (fun r S' hq _ _ => ?_)
    obtain ⟨I2, L2, rfl, rfl, hQ2, hSL2, hX2⟩ := hq
    refine Ex.aload_n (pc := 18) dX10_saved_18 rfl rfl ?_
    refine Ex.getR (pc := 19) dX10_saved_19 fX10_165 (sh36 _) r36_50 ?_
    refine Ex.iconst (pc := 22) (v := 1) dX10_saved_22 rfl ?_
    refine Ex.iald (pc := 23) (j := 1) dX10_saved_23 (sh67 _) (by unfold vp_in; decide) (by decide) ?_
    refine Ex.iret (pc := 24) rfl rfl rfl dX10_saved_24 (Nat.le_refl _) (Nat.le_refl _) ?_
    refine ⟨_, _, rfl, ?_, hQ2, hSL2⟩
    rw [hX2.2.2.1, hcp, if_neg (show ¬ true = false by decide), nI_clamp (by omega)]
  · skip
    refine Ex.iconst (pc := 11) (v := (-1)) dX10_saved_11 rfl ?_
    refine Ex.iret (pc := 12) rfl rfl rfl dX10_saved_12 (Nat.le_refl _) (Nat.le_refl _) ?_
    refine ⟨_, _, rfl, ?_, QF.rf, SmL.rf⟩
    have hcp := bI_0 c8
    rw [show (decide (¬ n < 0) && cpB n (nI w0)) = cpB n (nI w0) from cp0 n _] at hcp
    rw [hcp, if_pos rfl]
theorem dp_cnt {f : Nat → Int32} {ns : Nat} (h9 : ∀ j, le99 (f j)) : ∀ k, (dpF f k = none ↔ cntPos f k = 0)
  | 0 => by simp [dpF, cntPos]
  | k + 1 => by
    have ih := dp_cnt (ns := ns) h9 k
    have hk := sN99 (h9 k)
    rw [dpF_step]
    simp only [cntPos]
    cases hd : dpF f k with
    | none =>
      have h0 := ih.mp hd
      rw [h0]
      by_cases e : f k ≤ 0
      · rw [if_pos (show f k ≤ dpM f none from e), if_pos e]; simp
      · rw [if_neg (show ¬ f k ≤ dpM f none from e), if_neg e]; simp
    | some b =>
      have h0 : ¬ cntPos f k = 0 := fun q => by rw [ih.mpr q] at hd; cases hd
      constructor
      · intro q
        by_cases e : f k ≤ dpM f (some b)
        · rw [if_pos e] at q; cases q
        · rw [if_neg e] at q; cases q
      · intro q; omega
theorem cntPos_z {f : Nat → Int32} {ns : Nat} (hz : ∀ j, ns ≤ j → f j = 0) : ∀ d, cntPos f (ns + d) = cntPos f ns
  | 0 => rfl
  | d + 1 => by
    show cntPos f (ns + d) + (if f (ns + d) ≤ 0 then 0 else 1) = _
    rw [cntPos_z hz d, hz (ns + d) (by omega), if_pos (by decide), Nat.add_zero]
set_option maxRecDepth 20000 in
theorem tm_clean {N : Nat} {I : aI} {L : aL} {p : aP} {bk nb ns nh : Nat} {f5 f6 : Nat → Int32} {x : aX} {rs : List aRow} (hR : RS I bk nb ns nh p f5 f6 x rs) : Run 7 0 0 mX10_clean [.ref 36] (St N I L) (RX N (fun o I2 L2 => o = some (.int (clnF p f5 f6 nb ns nh x.1 x 41 0)) ∧ QF I I2 ∧ SmL [70] L L2)) := by
  refine Run.of (ls := [some (.ref 36), none]) (by decide) (Nat.le_of_ble_eq_true rfl) rfl ?_
  obtain ⟨hP, hX, hK, hG, hrb⟩ := id hR
  obtain ⟨⟨h1, h2, hnb, hns, hnh, hcb, hcs, hch⟩, -⟩ := id hP
  obtain ⟨w0, hw9, hw0⟩ := hG.2.2.2.1
  have hah := hG.ahead (p := p) (f5 := f5) (f6 := f6) hnh hw0
  rw [hw0]
  refine Ex.aload_n (pc := 0) dX10_clean_0 rfl rfl ?_
  refine Ex.iconst (pc := 1) (v := 1) dX10_clean_1 rfl ?_
  refine Ex.iconst (pc := 2) (v := 0) dX10_clean_2 rfl ?_
  refine Ex.callV (pc := 3) (As := [.int 1, .int 0]) (rest := []) dX10_clean_3 cX10_405 (tm_copies (to := 1) (fr := 0) (by decide) (by decide) (by decide) hnb hns hX hK) (sh36 _) rfl rfl (by decide) (Nat.le_refl _) (Nat.le_refl _) (Nat.le_of_ble_eq_true rfl) (Or.inl (fun r S' h => by obtain ⟨_, _, h, _⟩ := h; subst h; rfl)) (fun r S' hq _ _ => ?_)
  obtain ⟨I1, rfl, rfl, hS1, hF1, hX1, hK1⟩ := hq
  have hP1 : RefP I1 bk nb ns nh p f5 f6 := hP.sm hS1 (by decide)
  refine Ex.iconst (pc := 6) (v := 0) dX10_clean_6 rfl ?_
  refine Ex.istore_n (pc := 7) (ls' := [some (.ref 36), some (.int 0)]) dX10_clean_7 rfl (by decide) rfl rfl ?_
  refine forUp (σ := aI × aL) (P := fun k q => Ex 7 0 0 mX10_clean 0 0 8 [some (.ref 36), some (.int (nI k))] [] (St N q.1 q.2) _) (Inv := fun k q => Sm [63, 64, 65, 66, 67, 68, 69, 71] I q.1 ∧ SmL [70] L q.2 ∧ SlF 1 I q.1 ∧ w0 + k ≤ 1000 ∧ (w0 + k ≤ 999 → XR q.1 1 nb ns (aheadX p f5 f6 nb ns nh k x) ∧ ∃ r, KR q.1 1 r) ∧ clnF p f5 f6 nb ns nh (nI w0) x 41 0 = clnF p f5 f6 nb ns nh (nI w0) x (41 - k) k) 41 ?_ ?_ 0 (I1, L) (Nat.zero_le _) ⟨hS1.tr Sm.rf (l2 := []) (by decide) (by decide), SmL.rf, hF1, by omega, fun _ => ⟨hX1, _, hK1⟩, rfl⟩
  · rintro ⟨I2, L2⟩ ⟨hS, hSL, hF, hk9, hx, hcl⟩
    dsimp only at *
    have hw63 : I2 63 0 = nI w0 := by rw [(hF.1 0 (by decide)).1, hX.1, hw0]
    refine Ex.aload_n (pc := 8) dX10_clean_8 rfl rfl ?_
    refine Ex.iload_n (pc := 9) dX10_clean_9 rfl rfl ?_
    refine Ex.iconst (pc := 10) (v := 0) dX10_clean_10 rfl ?_
    refine Ex.bipush (pc := 11) (v := 40) dX10_clean_11 rfl ?_
    refine Ex.callV (pc := 13) (As := [.int _, .int 0, .int 40]) (rest := []) dX10_clean_13 cX10_506 (tm_isAhead hw63 hw9 (Or.inl rfl)) (sh36 _) rfl rfl (by decide) (Nat.le_refl _) (Nat.le_refl _) (Nat.le_of_ble_eq_true rfl) (Or.inl (fun r S' h => by obtain ⟨_, h⟩ := h; subst h; rfl)) (fun r S' hq _ _ => ?_)
    obtain ⟨rfl, rfl⟩ := hq
    refine Ex.if_eq (pc := 16) (tgt := 43) dX10_clean_16 (by decide) (fun _ => ?_) (fun c16 => absurd (by rw [cp0, show cpB (nI 41) (nI w0) = false from decide_eq_false (fun h => h.2.1 (by decide))]; rfl) c16)
    refine Ex.iconst (pc := 43) (v := (-1)) dX10_clean_43 rfl ?_
    refine Ex.iret (pc := 44) rfl rfl rfl dX10_clean_44 (Nat.le_refl _) (Nat.le_refl _) ?_
    exact ⟨_, _, rfl, by rw [hcl]; rfl, ⟨hS.tr Sm.rf (l2 := []) (by decide) (by decide), hF⟩, hSL⟩
  · rintro k ⟨I2, L2⟩ hk ⟨hS, hSL, hF, hk9, hx, hcl⟩ ih
    dsimp only at *
    have hw63 : I2 63 0 = nI w0 := by rw [(hF.1 0 (by decide)).1, hX.1, hw0]
    obtain ⟨m, hm⟩ : ∃ m, 41 - k = m + 1 := ⟨41 - k - 1, by omega⟩
    rw [hm] at hcl
    rw [show 41 - (k + 1) = m by omega] at ih
    have hcl := hcl.trans (show clnF p f5 f6 nb ns nh (nI w0) x (m + 1) k = (if cpB (nI k) (nI w0) = false then -1 else if cntPos (aheadX p f5 f6 nb ns nh k x).2.2.2.2 6 = 0 then nI k else clnF p f5 f6 nb ns nh (nI w0) x m (k + 1)) from rfl)
    have hcpk : cpB (nI k) (nI w0) = decide (w0 + k ≤ 999) := by
      unfold cpB
      refine decide_eq_decide.mpr ?_
      rw [show (999 : Int32) - nI w0 = nI (999 - w0) from pk_sub (a := 999) (by omega), nI_ltI (by omega) (by omega)]
      exact ⟨fun h => by omega, fun h => ⟨nI_pos (by omega), nI_nlt (a := 40) (by omega) (by decide), by omega⟩⟩
    have k30 : w0 + k ≤ 999 → XR I2 1 nb ns (aheadX p f5 f6 nb ns nh k x) → ∀ r, KR I2 1 r → XG nb ns (aheadX p f5 f6 nb ns nh k x) → (aheadX p f5 f6 nb ns nh k x).1 = nI (w0 + k) → RefP I2 bk nb ns nh p f5 f6 → clnF p f5 f6 nb ns nh (nI w0) x 41 0 = clnF p f5 f6 nb ns nh (nI w0) x m (k + 1) → Ex 7 0 0 mX10_clean 0 0 30 [some (.ref 36), some (.int (nI k))] [] (St N I2 L2) (RX N (fun o I2 L2 => o = some (.int (clnF p f5 f6 nb ns nh (nI w0) x 41 0)) ∧ QF I I2 ∧ SmL [70] L L2)) := by
      intro hwk hX2 r hK2 hG2 hw2 hP2 hcl
      refine Ex.aload_n (pc := 30) dX10_clean_30 rfl rfl ?_
      refine Ex.iconst (pc := 31) (v := 1) dX10_clean_31 rfl ?_
      refine Ex.iconst (pc := 32) (v := 0) dX10_clean_32 rfl ?_
      refine Ex.callV (pc := 33) (As := [.int 1, .int 0]) (rest := []) dX10_clean_33 cX10_502 (tm_passesW (dr := false) hP2 hX2 (by decide) hG2.1 hK2 hrb ⟨w0 + k, by omega, hw2⟩) (sh36 _) rfl rfl (by decide) (Nat.le_refl _) (Nat.le_refl _) (Nat.le_of_ble_eq_true rfl) (Or.inl (fun r S' h => by obtain ⟨_, _, h, _⟩ := h; subst h; rfl)) (fun r S' hq _ _ => ?_)
      obtain ⟨I3, L3, rfl, rfl, hS3, hSL3, hF3, hX3, hK3⟩ := hq
      refine Ex.pop (pc := 36) dX10_clean_36 rfl ?_
      refine Ex.iinc (pc := 37) (ls' := [some (.ref 36), some (.int _)]) dX10_clean_37 rfl rfl (by decide) rfl rfl ?_
      refine Ex.goto (pc := 40) (tgt := 8) dX10_clean_40 (by decide) ?_
      rw [show nI k + Int32.ofInt 1 = nI (k + 1) from nI_1 k]
      exact ih (I3, L3) ⟨hS.tr hS3 (by decide) (by decide), hSL.tr hSL3 (by decide) (by decide), hF.tr hF3, by omega, fun h => ⟨hX3 (by intro q; rw [hw2] at q; have := (nI_eq (by omega) (by omega)).mp (show nI (w0 + k) = nI 999 from q); omega), _, hK3⟩, hcl⟩
    refine Ex.aload_n (pc := 8) dX10_clean_8 rfl rfl ?_
    refine Ex.iload_n (pc := 9) dX10_clean_9 rfl rfl ?_
    refine Ex.iconst (pc := 10) (v := 0) dX10_clean_10 rfl ?_
    refine Ex.bipush (pc := 11) (v := 40) dX10_clean_11 rfl ?_
    refine Ex.callV (pc := 13) (As := [.int _, .int 0, .int 40]) (rest := []) dX10_clean_13 cX10_506 (tm_isAhead hw63 hw9 (Or.inl rfl)) (sh36 _) rfl rfl (by decide) (Nat.le_refl _) (Nat.le_refl _) (Nat.le_of_ble_eq_true rfl) (Or.inl (fun r S' h => by obtain ⟨_, h⟩ := h; subst h; rfl)) (fun r S' hq _ _ => ?_)
    obtain ⟨rfl, rfl⟩ := hq
    refine Ex.if_eq (pc := 16) (tgt := 43) dX10_clean_16 (by decide) (fun c16 => ?_) (fun c16 => ?_)
    · skip
      refine Ex.iconst (pc := 43) (v := (-1)) dX10_clean_43 rfl ?_
      refine Ex.iret (pc := 44) rfl rfl rfl dX10_clean_44 (Nat.le_refl _) (Nat.le_refl _) ?_
      have hcp : cpB (nI k) (nI w0) = false := by rw [← cp0]; exact bI_0 c16
      rw [if_pos hcp] at hcl
      exact ⟨_, _, rfl, by rw [hcl], ⟨hS.tr Sm.rf (l2 := []) (by decide) (by decide), hF⟩, hSL⟩
    · skip
      have hcp : cpB (nI k) (nI w0) = true := by rw [← cp0]; exact bI_1 c16
      have hwk : w0 + k ≤ 999 := of_decide_eq_true (by rw [← hcpk]; exact hcp)
      obtain ⟨hX2, r, hK2⟩ := hx hwk
      obtain ⟨hG2, hw2⟩ := hah k hwk
      have hP2 : RefP I2 bk nb ns nh p f5 f6 := hP.sm hS (by decide)
      rw [if_neg (show ¬ cpB (nI k) (nI w0) = false by rw [hcp]; decide)] at hcl
      have hdc := dp_cnt (ns := ns) hG2.1.2 ns
      have hcz : cntPos (aheadX p f5 f6 nb ns nh k x).2.2.2.2 6 = cntPos (aheadX p f5 f6 nb ns nh k x).2.2.2.2 ns := by
        obtain ⟨d, hd⟩ : ∃ d, 6 = ns + d := ⟨6 - ns, by omega⟩
        rw [hd]; exact cntPos_z hG2.2.2.1 d
      rw [hcz] at hcl
      refine Ex.aload_n (pc := 19) dX10_clean_19 rfl rfl ?_
      refine Ex.iconst (pc := 20) (v := 1) dX10_clean_20 rfl ?_
      refine Ex.callV (pc := 21) (As := [.int 1]) (rest := []) dX10_clean_21 cX10_456 (tm_deepest hP2.1 hX2 (by decide)) (sh36 _) rfl rfl (by decide) (Nat.le_refl _) (Nat.le_refl _) (Nat.le_of_ble_eq_true rfl) (Or.inl (fun r S' h => by obtain ⟨_, h⟩ := h; subst h; rfl)) (fun r S' hq _ _ => ?_)
      obtain ⟨rfl, rfl⟩ := hq
      refine Ex.iconst (pc := 24) (v := (-1)) dX10_clean_24 rfl ?_
      refine Ex.icmp_ne (pc := 25) (tgt := 30) dX10_clean_25 (by decide) (fun c25 => ?_) (fun c25 => ?_)
      · skip
        have hdn : ¬ dpF (aheadX p f5 f6 nb ns nh k x).2.2.2.2 ns = none := fun q => c25 (by rw [q]; rfl)
        rw [if_neg (fun q => hdn (hdc.mpr q))] at hcl
        exact k30 hwk hX2 r hK2 hG2 hw2 hP2 hcl
      · skip
        refine Ex.iload_n (pc := 28) dX10_clean_28 rfl rfl ?_
        refine Ex.iret (pc := 29) rfl rfl rfl dX10_clean_29 (Nat.le_refl _) (Nat.le_refl _) ?_
        have hdn : dpF (aheadX p f5 f6 nb ns nh k x).2.2.2.2 ns = none := by
          cases hd : dpF (aheadX p f5 f6 nb ns nh k x).2.2.2.2 ns with
          | none => rfl
          | some b => rw [hd] at c25; exact absurd (show nI b < 0 from by rw [show nI b = -1 from c25]; decide) (nI_pos (by have := dpF_lt _ _ _ hd; omega))
        rw [if_pos (hdc.mp hdn)] at hcl
        exact ⟨_, _, rfl, by rw [hcl], ⟨hS.tr Sm.rf (l2 := []) (by decide) (by decide), hF⟩, hSL⟩
