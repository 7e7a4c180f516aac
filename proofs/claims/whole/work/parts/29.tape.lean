def shf : Nat → Int32
  | 0 => 24
  | 1 => 16
  | 2 => 8
  | 3 => 0
  | _ => -8
theorem shf_s : ∀ k, k < 4 → shf k + Int32.ofInt (-8) = shf (k + 1) ∧ ¬ shf k < 0 := by decide +kernel
/-- byte i of a number, the highest first -/
def bt4 (v : Int32) (i : Nat) : Int32 := (v >>> (shf i &&& 31)).toInt8.toInt32

set_option maxRecDepth 20000 in
theorem t_putFour {N : Nat} {I : aI} {L : aL} {t : Nat} {v : Int32} (ht : I 0 1 = nI t) (h16 : t + 4 ≤ 1600) : Run 0 0 0 mX9_putFour [.ref 0, .int v] (St N I L) (RP none N L (fun I2 => Sm [0, 1] I I2 ∧ (∀ j, j ≠ 1 → I2 0 j = I 0 j) ∧ I2 0 1 = nI (t + 4) ∧ (∀ i, i < t → I2 1 i = I 1 i) ∧ ∀ i, i < 4 → I2 1 (t + i) = bt4 v i)) := by
  refine Run.of (ls := [some (.ref 0), some (.int _), none]) (by decide) (Nat.le_of_ble_eq_true rfl) rfl ?_
  refine Ex.bipush (pc := 0) (v := 24) dX9_putFour_0 rfl ?_
  refine Ex.istore_n (pc := 2) (ls' := [some (.ref 0), some (.int _), some (.int 24)]) dX9_putFour_2 rfl (by decide) rfl rfl ?_
  refine forUp (σ := aI) (P := fun k I2 => Ex 0 0 0 mX9_putFour 0 0 3 [some (.ref 0), some (.int v), some (.int (shf k))] [] (St N I2 L) _) (Inv := fun k I2 => Sm [0, 1] I I2 ∧ (∀ j, j ≠ 1 → I2 0 j = I 0 j) ∧ I2 0 1 = nI (t + k) ∧ (∀ i, i < t → I2 1 i = I 1 i) ∧ ∀ i, i < k → I2 1 (t + i) = bt4 v i) 4 ?_ ?_ 0 _ (Nat.zero_le _) ⟨Sm.rf, fun _ _ => rfl, ht, fun _ _ => rfl, fun _ h => absurd h (Nat.not_lt_zero _)⟩
  · rintro I2 hI2
    refine Ex.iload_n (pc := 3) dX9_putFour_3 rfl rfl ?_
    refine Ex.if_lt (pc := 4) (tgt := 46) dX9_putFour_4 (by decide) (fun _ => ?_) (fun c4 => absurd (by decide) c4)
    refine Ex.vret (pc := 46) rfl dX9_putFour_46 (Nat.le_refl _) (Nat.le_refl _) ?_
    exact ⟨_, rfl, rfl, hI2⟩
  · rintro k I2 hk ⟨hS, h0, h1, hl, hb⟩ ih
    refine Ex.iload_n (pc := 3) dX9_putFour_3 rfl rfl ?_
    refine Ex.if_lt (pc := 4) (tgt := 46) dX9_putFour_4 (by decide) (fun c4 => absurd c4 (shf_s k hk).2) (fun _ => ?_)
    refine Ex.aload_n (pc := 7) dX9_putFour_7 rfl rfl ?_
    refine Ex.getI (pc := 8) dX9_putFour_8 fX9_13 (sh0 _) ?_
    refine Ex.sipush (pc := 11) (v := 1600) dX9_putFour_11 rfl ?_
    refine Ex.icmp_ge (pc := 14) (tgt := 46) dX9_putFour_14 (by decide) (fun c14 => absurd c14 (by rw [h1]; exact nI_ge (b := 1600) (by omega) (by decide))) (fun _ => ?_)
    refine Ex.aload_n (pc := 17) dX9_putFour_17 rfl rfl ?_
    refine Ex.getR (pc := 18) dX9_putFour_18 fX9_9 (sh0 _) r0_0 ?_
    refine Ex.aload_n (pc := 21) dX9_putFour_21 rfl rfl ?_
    refine Ex.getI (pc := 22) dX9_putFour_22 fX9_13 (sh0 _) ?_
    refine Ex.iload_n (pc := 25) dX9_putFour_25 rfl rfl ?_
    refine Ex.iload_n (pc := 26) dX9_putFour_26 rfl rfl ?_
    refine Ex.ishr (pc := 27) dX9_putFour_27 ?_
    refine Ex.i2b (pc := 28) dX9_putFour_28 ?_
    refine Ex.bast (pc := 29) (j := t + k) dX9_putFour_29 (sh1 _) (by rw [h1]; exact vp_in_nI (by omega) (by decide)) (by rw [h1]; exact nI_clamp (by omega)) ?_
    refine Ex.aload_n (pc := 30) dX9_putFour_30 rfl rfl ?_
    refine Ex.dup (pc := 31) dX9_putFour_31 rfl ?_
    refine Ex.getI (pc := 32) dX9_putFour_32 fX9_13 (sh0 _) ?_
    refine Ex.iconst (pc := 35) (v := 1) dX9_putFour_35 rfl ?_
    refine Ex.iadd (pc := 36) dX9_putFour_36 ?_
    refine Ex.putI (pc := 37) dX9_putFour_37 fX9_13 (sh0 _) (Or.inl rfl) ⟨rfl, rfl⟩ ?_
    refine Ex.iinc (pc := 40) (ls' := [some (.ref 0), some (.int _), some (.int _)]) dX9_putFour_40 rfl rfl (by decide) rfl rfl ?_
    refine Ex.goto (pc := 43) (tgt := 3) dX9_putFour_43 (by decide) ?_
    rw [(shf_s k hk).1]
    refine ih _ ⟨(hS.up (by decide)).up (by decide), ?_, ?_, ?_, ?_⟩
    · intro j hj; rw [va_up_s, upd_n hj, va_up_n (by decide)]; exact h0 j hj
    · rw [va_up_s, upd_s, va_up_n (by decide), h1]; exact nI_1 _
    · intro i hi; rw [va_up_n (by decide), va_up_s, upd_n (by omega)]; exact hl i hi
    · intro i hi
      rw [va_up_n (by decide), va_up_s]
      by_cases e : i = k
      · rw [e, upd_s, pk_vb]; rfl
      · rw [upd_n (by omega)]; exact hb i (by omega)
set_option maxRecDepth 20000 in
theorem t_feed0 {N : Nat} {I : aI} {L : aL} {a b c d e : Int32} (h : ¬ I 0 1 ≤ 1580) : Run 1 0 0 mX9_feed [.ref 0, .int a, .int b, .int c, .int d, .int e] (St N I L) (RI (-1) (St N (refI I 0) L)) := by
  refine Run.of (ls := [some (.ref 0), some (.int _), some (.int _), some (.int _), some (.int _), some (.int _)]) (by decide) (Nat.le_of_ble_eq_true rfl) rfl ?_
  refine Ex.aload_n (pc := 0) dX9_feed_0 rfl rfl ?_
  refine Ex.getI (pc := 1) dX9_feed_1 fX9_13 (sh0 _) ?_
  refine Ex.sipush (pc := 4) (v := 1580) dX9_feed_4 rfl ?_
  refine Ex.icmp_le (pc := 7) (tgt := 16) dX9_feed_7 (by decide) (fun c7 => absurd c7 h) (fun _ => ?_)
  refine Ex.aload_n (pc := 10) dX9_feed_10 rfl rfl ?_
  refine Ex.iconst (pc := 11) (v := 0) dX9_feed_11 rfl ?_
  refine Ex.callV (pc := 12) (As := [.int 0]) (rest := []) dX9_feed_12 cX9_102 (t_refuse (k := 0) (by decide)) (sh0 _) rfl rfl (by decide) (Nat.le_refl _) (Nat.le_refl _) (Nat.le_of_ble_eq_true rfl) (Or.inl (fun r S' h => by obtain ⟨_, h⟩ := h; subst h; rfl)) (fun r S' hq _ _ => ?_)
  obtain ⟨rfl, rfl⟩ := hq
  refine Ex.iret (pc := 15) rfl rfl rfl dX9_feed_15 (Nat.le_refl _) (Nat.le_refl _) ?_
  exact ⟨rfl, rfl⟩
def fd5 (a b c d e : Int32) (i : Nat) : Int32 := if i < 4 then bt4 a i else if i < 8 then bt4 b (i - 4) else if i < 12 then bt4 c (i - 8) else if i < 16 then bt4 d (i - 12) else bt4 e (i - 16)
set_option maxRecDepth 20000 in
theorem t_feed1 {N : Nat} {I : aI} {L : aL} {t : Nat} {a b c d e : Int32} (ht : I 0 1 = nI t) (h16 : t + 20 ≤ 1600) : Run 1 0 0 mX9_feed [.ref 0, .int a, .int b, .int c, .int d, .int e] (St N I L) (RP (some (.int (nI (t + 20)))) N L (fun I2 => Sm [0, 1] I I2 ∧ (∀ j, j ≠ 1 → I2 0 j = I 0 j) ∧ I2 0 1 = nI (t + 20) ∧ (∀ i, i < t → I2 1 i = I 1 i) ∧ ∀ i, i < 20 → I2 1 (t + i) = fd5 a b c d e i)) := by
  refine Run.of (ls := [some (.ref 0), some (.int _), some (.int _), some (.int _), some (.int _), some (.int _)]) (by decide) (Nat.le_of_ble_eq_true rfl) rfl ?_
  refine Ex.aload_n (pc := 0) dX9_feed_0 rfl rfl ?_
  refine Ex.getI (pc := 1) dX9_feed_1 fX9_13 (sh0 _) ?_
  refine Ex.sipush (pc := 4) (v := 1580) dX9_feed_4 rfl ?_
  refine Ex.icmp_le (pc := 7) (tgt := 16) dX9_feed_7 (by decide) (fun _ => ?_) (fun c7 => absurd (by rw [ht]; exact nI_le (b := 1580) (by omega) (by decide)) c7)
  refine Ex.aload_n (pc := 16) dX9_feed_16 rfl rfl ?_
  refine Ex.iload_n (pc := 17) dX9_feed_17 rfl rfl ?_
  refine Ex.callV (pc := 18) (As := [.int _]) (rest := []) dX9_feed_18 cX9_106 (t_putFour (t := t + 0) ht (by omega)) (sh0 _) rfl rfl (by decide) (Nat.le_refl _) (Nat.le_refl _) (Nat.le_of_ble_eq_true rfl) (Or.inl (fun r S' h => by obtain ⟨_, _, h, _⟩ := h; subst h; rfl)) (fun r S' hq _ _ => ?_)
  obtain ⟨J0, rfl, rfl, hS0, h00, h10, hl0, hb0⟩ := hq
  refine Ex.aload_n (pc := 21) dX9_feed_21 rfl rfl ?_
  refine Ex.iload_n (pc := 22) dX9_feed_22 rfl rfl ?_
  refine Ex.callV (pc := 23) (As := [.int _]) (rest := []) dX9_feed_23 cX9_106 (t_putFour (t := t + 4) h10 (by omega)) (sh0 _) rfl rfl (by decide) (Nat.le_refl _) (Nat.le_refl _) (Nat.le_of_ble_eq_true rfl) (Or.inl (fun r S' h => by obtain ⟨_, _, h, _⟩ := h; subst h; rfl)) (fun r S' hq _ _ => ?_)
  obtain ⟨J1, rfl, rfl, hS1, h01, h11, hl1, hb1⟩ := hq
  refine Ex.aload_n (pc := 26) dX9_feed_26 rfl rfl ?_
  refine Ex.iload_n (pc := 27) dX9_feed_27 rfl rfl ?_
  refine Ex.callV (pc := 28) (As := [.int _]) (rest := []) dX9_feed_28 cX9_106 (t_putFour (t := t + 8) h11 (by omega)) (sh0 _) rfl rfl (by decide) (Nat.le_refl _) (Nat.le_refl _) (Nat.le_of_ble_eq_true rfl) (Or.inl (fun r S' h => by obtain ⟨_, _, h, _⟩ := h; subst h; rfl)) (fun r S' hq _ _ => ?_)
  obtain ⟨J2, rfl, rfl, hS2, h02, h12, hl2, hb2⟩ := hq
  refine Ex.aload_n (pc := 31) dX9_feed_31 rfl rfl ?_
  refine Ex.iload (pc := 32) dX9_feed_32 rfl ?_
  refine Ex.callV (pc := 34) (As := [.int _]) (rest := []) dX9_feed_34 cX9_106 (t_putFour (t := t + 12) h12 (by omega)) (sh0 _) rfl rfl (by decide) (Nat.le_refl _) (Nat.le_refl _) (Nat.le_of_ble_eq_true rfl) (Or.inl (fun r S' h => by obtain ⟨_, _, h, _⟩ := h; subst h; rfl)) (fun r S' hq _ _ => ?_)
  obtain ⟨J3, rfl, rfl, hS3, h03, h13, hl3, hb3⟩ := hq
  refine Ex.aload_n (pc := 37) dX9_feed_37 rfl rfl ?_
  refine Ex.iload (pc := 38) dX9_feed_38 rfl ?_
  refine Ex.callV (pc := 40) (As := [.int _]) (rest := []) dX9_feed_40 cX9_106 (t_putFour (t := t + 16) h13 (by omega)) (sh0 _) rfl rfl (by decide) (Nat.le_refl _) (Nat.le_refl _) (Nat.le_of_ble_eq_true rfl) (Or.inl (fun r S' h => by obtain ⟨_, _, h, _⟩ := h; subst h; rfl)) (fun r S' hq _ _ => ?_)
  obtain ⟨J4, rfl, rfl, hS4, h04, h14, hl4, hb4⟩ := hq
  refine Ex.aload_n (pc := 43) dX9_feed_43 rfl rfl ?_
  refine Ex.getI (pc := 44) dX9_feed_44 fX9_13 (sh0 _) ?_
  refine Ex.iret (pc := 47) rfl rfl rfl dX9_feed_47 (Nat.le_refl _) (Nat.le_refl _) ?_
  refine ⟨_, by rw [h14], rfl, ?_, ?_, h14, ?_, ?_⟩
  · exact (((hS0.tr hS1 (l := [0, 1]) (by decide) (by decide)).tr hS2 (l := [0, 1]) (by decide) (by decide)).tr hS3 (l := [0, 1]) (by decide) (by decide)).tr hS4 (by decide) (by decide)
  · intro j hj; rw [h04 j hj, h03 j hj, h02 j hj, h01 j hj, h00 j hj]
  · intro i hi; rw [hl4 i (by omega), hl3 i (by omega), hl2 i (by omega), hl1 i (by omega), hl0 i (by omega)]
  · intro i hi
    unfold fd5
    by_cases g0 : i < 4
    · rw [if_pos g0, hl4 _ (by omega), hl3 _ (by omega), hl2 _ (by omega), hl1 _ (by omega)]; exact hb0 i g0
    · rw [if_neg g0]
      by_cases g1 : i < 8
      · rw [if_pos g1, hl4 _ (by omega), hl3 _ (by omega), hl2 _ (by omega), show t + i = t + 4 + (i - 4) by omega]; exact hb1 _ (by omega)
      · rw [if_neg g1]
        by_cases g2 : i < 12
        · rw [if_pos g2, hl4 _ (by omega), hl3 _ (by omega), show t + i = t + 8 + (i - 8) by omega]; exact hb2 _ (by omega)
        · rw [if_neg g2]
          by_cases g3 : i < 16
          · rw [if_pos g3, hl4 _ (by omega), show t + i = t + 12 + (i - 12) by omega]; exact hb3 _ (by omega)
          · rw [if_neg g3, show t + i = t + 16 + (i - 16) by omega]; exact hb4 _ (by omega)
set_option maxRecDepth 20000 in
theorem t_end0 {N : Nat} {I : aI} {L : aL} {w : Int32} (h : w < 0 ∨ ¬ w ≤ I 0 1) : Run 1 0 0 mX9_end [.ref 0, .int w] (St N I L) (RI 0 (St N (refI I 0) L)) := by
  refine Run.of (ls := [some (.ref 0), some (.int _)]) (by decide) (Nat.le_of_ble_eq_true rfl) rfl ?_
  refine Ex.iload_n (pc := 0) dX9_end_0 rfl rfl ?_
  refine Ex.if_lt (pc := 1) (tgt := 12) dX9_end_1 (by decide) (fun c1 => ?_) (fun c1 => ?_)
  · skip
    refine Ex.aload_n (pc := 12) dX9_end_12 rfl rfl ?_
    refine Ex.iconst (pc := 13) (v := 0) dX9_end_13 rfl ?_
    refine Ex.callV (pc := 14) (As := [.int 0]) (rest := []) dX9_end_14 cX9_109 (t_deny (k := 0) (by decide)) (sh0 _) rfl rfl (by decide) (Nat.le_refl _) (Nat.le_refl _) (Nat.le_of_ble_eq_true rfl) (Or.inl (fun r S' h => by obtain ⟨_, h⟩ := h; subst h; rfl)) (fun r S' hq _ _ => ?_)
    obtain ⟨rfl, rfl⟩ := hq
    refine Ex.iret (pc := 17) rfl rfl rfl dX9_end_17 (Nat.le_refl _) (Nat.le_refl _) ?_
    exact ⟨rfl, rfl⟩
  · skip
    refine Ex.iload_n (pc := 4) dX9_end_4 rfl rfl ?_
    refine Ex.aload_n (pc := 5) dX9_end_5 rfl rfl ?_
    refine Ex.getI (pc := 6) dX9_end_6 fX9_13 (sh0 _) ?_
    refine Ex.icmp_le (pc := 9) (tgt := 18) dX9_end_9 (by decide) (fun c9 => ?_) (fun c9 => ?_)
    · skip
      exact absurd h (fun q => q.elim c1 (fun q2 => q2 c9))
    · skip
      refine Ex.aload_n (pc := 12) dX9_end_12 rfl rfl ?_
      refine Ex.iconst (pc := 13) (v := 0) dX9_end_13 rfl ?_
      refine Ex.callV (pc := 14) (As := [.int 0]) (rest := []) dX9_end_14 cX9_109 (t_deny (k := 0) (by decide)) (sh0 _) rfl rfl (by decide) (Nat.le_refl _) (Nat.le_refl _) (Nat.le_of_ble_eq_true rfl) (Or.inl (fun r S' h => by obtain ⟨_, h⟩ := h; subst h; rfl)) (fun r S' hq _ _ => ?_)
      obtain ⟨rfl, rfl⟩ := hq
      refine Ex.iret (pc := 17) rfl rfl rfl dX9_end_17 (Nat.le_refl _) (Nat.le_refl _) ?_
      exact ⟨rfl, rfl⟩
set_option maxRecDepth 20000 in
theorem t_end1 {N : Nat} {I : aI} {L : aL} {w : Int32} (h1 : ¬ w < 0) (h2 : w ≤ I 0 1) : Run 1 0 0 mX9_end [.ref 0, .int w] (St N I L) (RI 1 (St N (va_up I 0 (upd (I 0) 1 w)) L)) := by
  refine Run.of (ls := [some (.ref 0), some (.int _)]) (by decide) (Nat.le_of_ble_eq_true rfl) rfl ?_
  refine Ex.iload_n (pc := 0) dX9_end_0 rfl rfl ?_
  refine Ex.if_lt (pc := 1) (tgt := 12) dX9_end_1 (by decide) (fun c1 => absurd c1 h1) (fun _ => ?_)
  refine Ex.iload_n (pc := 4) dX9_end_4 rfl rfl ?_
  refine Ex.aload_n (pc := 5) dX9_end_5 rfl rfl ?_
  refine Ex.getI (pc := 6) dX9_end_6 fX9_13 (sh0 _) ?_
  refine Ex.icmp_le (pc := 9) (tgt := 18) dX9_end_9 (by decide) (fun _ => ?_) (fun c9 => absurd h2 c9)
  refine Ex.aload_n (pc := 18) dX9_end_18 rfl rfl ?_
  refine Ex.iload_n (pc := 19) dX9_end_19 rfl rfl ?_
  refine Ex.putI (pc := 20) dX9_end_20 fX9_13 (sh0 _) (Or.inl rfl) ⟨rfl, rfl⟩ ?_
  refine Ex.iconst (pc := 23) (v := 1) dX9_end_23 rfl ?_
  refine Ex.iret (pc := 24) rfl rfl rfl dX9_end_24 (Nat.le_refl _) (Nat.le_refl _) ?_
  exact ⟨rfl, rfl⟩
set_option maxRecDepth 20000 in
theorem t_octet {N : Nat} {I : aI} {L : aL} {n : Nat} {w : Int32} (hn : I 0 15 = nI n) (h21 : n ≤ 21) : Run 0 0 0 mX9_octet [.ref 0, .int w] (St N I L) (RI (if inR w n = true then I 34 w.toNatClampNeg else -1) (St N I L)) := by
  refine Run.of (ls := [some (.ref 0), some (.int _)]) (by decide) (Nat.le_of_ble_eq_true rfl) rfl ?_
  refine Ex.iload_n (pc := 0) dX9_octet_0 rfl rfl ?_
  refine Ex.if_lt (pc := 1) (tgt := 21) dX9_octet_1 (by decide) (fun c1 => ?_) (fun c1 => ?_)
  · skip
    refine Ex.iconst (pc := 21) (v := (-1)) dX9_octet_21 rfl ?_
    refine Ex.iret (pc := 22) rfl rfl rfl dX9_octet_22 (Nat.le_refl _) (Nat.le_refl _) ?_
    refine ⟨congrArg (fun z => some (Value.int z)) ?_, rfl⟩
    rw [if_neg (show ¬ inR w n = true from by simp [inR, c1])]
  · skip
    refine Ex.iload_n (pc := 4) dX9_octet_4 rfl rfl ?_
    refine Ex.aload_n (pc := 5) dX9_octet_5 rfl rfl ?_
    refine Ex.getI (pc := 6) dX9_octet_6 fX9_96 (sh0 _) ?_
    refine Ex.icmp_ge (pc := 9) (tgt := 21) dX9_octet_9 (by decide) (fun c9 => ?_) (fun c9 => ?_)
    · skip
      refine Ex.iconst (pc := 21) (v := (-1)) dX9_octet_21 rfl ?_
      refine Ex.iret (pc := 22) rfl rfl rfl dX9_octet_22 (Nat.le_refl _) (Nat.le_refl _) ?_
      refine ⟨congrArg (fun z => some (Value.int z)) ?_, rfl⟩
      rw [hn] at c9
      rw [if_neg (show ¬ inR w n = true from by simp [inR, c9])]
    · skip
      rw [hn] at c9
      have hin : inR w n = true := by simp only [inR]; exact decide_eq_true ⟨c1, c9⟩
      obtain ⟨j, hj, rfl⟩ := inR_of hin (by omega)
      refine Ex.aload_n (pc := 12) dX9_octet_12 rfl rfl ?_
      refine Ex.getR (pc := 13) dX9_octet_13 fX9_92 (sh0 _) r0_14 ?_
      refine Ex.iload_n (pc := 16) dX9_octet_16 rfl rfl ?_
      refine Ex.iald (pc := 17) (j := j) dX9_octet_17 (sh34 _) (vp_in_nI (by omega) (by decide)) (ixN2 (by omega)) ?_
      refine Ex.goto (pc := 18) (tgt := 22) dX9_octet_18 (by decide) ?_
      refine Ex.iret (pc := 22) rfl rfl rfl dX9_octet_22 (Nat.le_refl _) (Nat.le_refl _) ?_
      refine ⟨congrArg (fun z => some (Value.int z)) ?_, rfl⟩
      rw [if_pos hin, nI_clamp (by omega)]
set_option maxRecDepth 20000 in
theorem t_tapeByte {N : Nat} {I : aI} {L : aL} {j : Nat} (hj : j < 1600) : Run 0 0 0 mX9_tapeByte [.ref 0, .int (nI j)] (St N I L) (RI (I 1 j &&& 255) (St N I L)) := by
  refine Run.of (ls := [some (.ref 0), some (.int _)]) (by decide) (Nat.le_of_ble_eq_true rfl) rfl ?_
  refine Ex.iload_n (pc := 0) dX9_tapeByte_0 rfl rfl ?_
  refine Ex.if_lt (pc := 1) (tgt := 24) dX9_tapeByte_1 (by decide) (fun c1 => absurd c1 (nI_pos (by omega))) (fun _ => ?_)
  refine Ex.iload_n (pc := 4) dX9_tapeByte_4 rfl rfl ?_
  refine Ex.sipush (pc := 5) (v := 1600) dX9_tapeByte_5 rfl ?_
  refine Ex.icmp_ge (pc := 8) (tgt := 24) dX9_tapeByte_8 (by decide) (fun c8 => absurd c8 (nI_ge (b := 1600) hj (by decide))) (fun _ => ?_)
  refine Ex.aload_n (pc := 11) dX9_tapeByte_11 rfl rfl ?_
  refine Ex.getR (pc := 12) dX9_tapeByte_12 fX9_9 (sh0 _) r0_0 ?_
  refine Ex.iload_n (pc := 15) dX9_tapeByte_15 rfl rfl ?_
  refine Ex.bald (pc := 16) (j := j) dX9_tapeByte_16 (sh1 _) (vp_in_nI hj (by decide)) (ixN2 (by omega)) ?_
  refine Ex.sipush (pc := 17) (v := 255) dX9_tapeByte_17 rfl ?_
  refine Ex.iand (pc := 20) dX9_tapeByte_20 ?_
  refine Ex.goto (pc := 21) (tgt := 25) dX9_tapeByte_21 (by decide) ?_
  refine Ex.iret (pc := 25) rfl rfl rfl dX9_tapeByte_25 (Nat.le_refl _) (Nat.le_refl _) ?_
  exact ⟨rfl, rfl⟩
def cntZ (f : Nat → Int32) : Nat → Nat
  | 0 => 0
  | k + 1 => cntZ f k + (if f k = 0 then 1 else 0)
set_option maxRecDepth 20000 in
theorem t_bareBoards {N : Nat} {I : aI} {L : aL} {nb : Nat} (hc : I 3 0 = nI nb) (hb : nb ≤ 5) : Run 0 0 0 mX9_bareBoards [.ref 0] (St N I L) (RI (nI (cntZ (I 11) nb)) (St N I L)) := by
  refine Run.of (ls := [some (.ref 0), none, none]) (by decide) (Nat.le_of_ble_eq_true rfl) rfl ?_
  refine Ex.iconst (pc := 0) (v := 0) dX9_bareBoards_0 rfl ?_
  refine Ex.istore_n (pc := 1) (ls' := [some (.ref 0), some (.int 0), none]) dX9_bareBoards_1 rfl (by decide) rfl rfl ?_
  refine Ex.iconst (pc := 2) (v := 0) dX9_bareBoards_2 rfl ?_
  refine Ex.istore_n (pc := 3) (ls' := [some (.ref 0), some (.int 0), some (.int 0)]) dX9_bareBoards_3 rfl (by decide) rfl rfl ?_
  refine forUp (σ := Unit) (P := fun k _ => Ex 0 0 0 mX9_bareBoards 0 0 4 [some (.ref 0), some (.int (nI (cntZ (I 11) k))), some (.int (nI k))] [] (St N I L) _) (Inv := fun _ _ => True) nb ?_ ?_ 0 () (Nat.zero_le _) trivial
  · rintro - -
    refine Ex.iload_n (pc := 4) dX9_bareBoards_4 rfl rfl ?_
    refine Ex.aload_n (pc := 5) dX9_bareBoards_5 rfl rfl ?_
    refine Ex.getR (pc := 6) dX9_bareBoards_6 fX9_22 (sh0 _) r0_2 ?_
    refine Ex.getR (pc := 9) dX9_bareBoards_9 fX9_144 (sh2 _) r2_0 ?_
    refine Ex.iconst (pc := 12) (v := 0) dX9_bareBoards_12 rfl ?_
    refine Ex.iald (pc := 13) (j := 0) dX9_bareBoards_13 (sh3 _) (by unfold vp_in; decide) (by decide) ?_
    refine Ex.icmp_ge (pc := 14) (tgt := 38) dX9_bareBoards_14 (by decide) (fun _ => ?_) (fun c14 => absurd (by rw [hc]; exact nI_le (Nat.le_refl nb) (by omega)) c14)
    refine Ex.iload_n (pc := 38) dX9_bareBoards_38 rfl rfl ?_
    refine Ex.iret (pc := 39) rfl rfl rfl dX9_bareBoards_39 (Nat.le_refl _) (Nat.le_refl _) ?_
    exact ⟨rfl, rfl⟩
  · rintro k - hk - ih
    refine Ex.iload_n (pc := 4) dX9_bareBoards_4 rfl rfl ?_
    refine Ex.aload_n (pc := 5) dX9_bareBoards_5 rfl rfl ?_
    refine Ex.getR (pc := 6) dX9_bareBoards_6 fX9_22 (sh0 _) r0_2 ?_
    refine Ex.getR (pc := 9) dX9_bareBoards_9 fX9_144 (sh2 _) r2_0 ?_
    refine Ex.iconst (pc := 12) (v := 0) dX9_bareBoards_12 rfl ?_
    refine Ex.iald (pc := 13) (j := 0) dX9_bareBoards_13 (sh3 _) (by unfold vp_in; decide) (by decide) ?_
    refine Ex.icmp_ge (pc := 14) (tgt := 38) dX9_bareBoards_14 (by decide) (fun c14 => absurd c14 (by rw [hc]; exact nI_ge hk (by omega))) (fun _ => ?_)
    refine Ex.aload_n (pc := 17) dX9_bareBoards_17 rfl rfl ?_
    refine Ex.getR (pc := 18) dX9_bareBoards_18 fX9_35 (sh0 _) r0_5 ?_
    refine Ex.getR (pc := 21) dX9_bareBoards_21 fX9_179 (sh10 _) r10_4 ?_
    refine Ex.iload_n (pc := 24) dX9_bareBoards_24 rfl rfl ?_
    refine Ex.iald (pc := 25) (j := k) dX9_bareBoards_25 (sh11 _) (vp_in_nI (by omega) (by decide)) (ixN2 (by omega)) ?_
    refine Ex.if_ne (pc := 26) (tgt := 32) dX9_bareBoards_26 (by decide) (fun c26 => ?_) (fun c26 => ?_)
    · skip
      refine Ex.iinc (pc := 32) (ls' := [some (.ref 0), some (.int _), some (.int _)]) dX9_bareBoards_32 rfl rfl (by decide) rfl rfl ?_
      refine Ex.goto (pc := 35) (tgt := 4) dX9_bareBoards_35 (by decide) ?_
      rw [show nI k + Int32.ofInt 1 = nI (k + 1) from nI_1 k]
      refine Ex.le (ls' := [some (.ref 0), some (.int (nI (cntZ (I 11) (k + 1)))), some (.int (nI (k + 1)))]) ⟨rfl, ?_, rfl, trivial⟩ (ih () trivial)
      refine congrArg Value.int ?_
      simp only [cntZ]
      rw [if_neg c26, Nat.add_zero]
    · skip
      refine Ex.iinc (pc := 29) (ls' := [some (.ref 0), some (.int _), some (.int _)]) dX9_bareBoards_29 rfl rfl (by decide) rfl rfl ?_
      refine Ex.iinc (pc := 32) (ls' := [some (.ref 0), some (.int _), some (.int _)]) dX9_bareBoards_32 rfl rfl (by decide) rfl rfl ?_
      refine Ex.goto (pc := 35) (tgt := 4) dX9_bareBoards_35 (by decide) ?_
      rw [show nI k + Int32.ofInt 1 = nI (k + 1) from nI_1 k]
      refine Ex.le (ls' := [some (.ref 0), some (.int (nI (cntZ (I 11) (k + 1)))), some (.int (nI (k + 1)))]) ⟨rfl, ?_, rfl, trivial⟩ (ih () trivial)
      refine congrArg Value.int ?_
      simp only [cntZ]
      rw [if_pos c26]; exact (nI_1 _).symm
def us32 (x y : Int32) : Int32 := (x.toUInt32 >>> (y.toUInt32 &&& Int32.toUInt32 31)).toInt32
def bc1 (x : Int32) : Int32 := x - (us32 x 1 &&& 1431655765)
def bc2 (x : Int32) : Int32 := (x &&& 858993459) + (us32 x 2 &&& 858993459)
def bc3 (x : Int32) : Int32 := x + us32 x 4 &&& 252645135
def bc4 (x : Int32) : Int32 := x + us32 x 8
def bc5 (x : Int32) : Int32 := x + us32 x 16
def bitC (x : Int32) : Int32 := bc5 (bc4 (bc3 (bc2 (bc1 x)))) &&& 63
set_option maxRecDepth 20000 in
theorem t_bitCount {S : aS} {x : Int32} : Run 0 0 0 mJ6_bitCount_0f7a4 [.int x] S (RI (bitC x) S) := by
  refine Run.of (ls := [some (.int _)]) (by decide +kernel) (Nat.le_of_ble_eq_true rfl) rfl ?_
  refine Ex.iload_n (pc := 0) dJ6_bitCount_0f7a4_0 rfl rfl ?_
  refine Ex.iload_n (pc := 1) dJ6_bitCount_0f7a4_1 rfl rfl ?_
  refine Ex.iconst (pc := 2) (v := 1) dJ6_bitCount_0f7a4_2 rfl ?_
  refine Ex.iushr (pc := 3) dJ6_bitCount_0f7a4_3 ?_
  refine Ex.ldcw (pc := 4) dJ6_bitCount_0f7a4_4 kv_J6_265 ?_
  refine Ex.iand (pc := 7) dJ6_bitCount_0f7a4_7 ?_
  refine Ex.isub (pc := 8) dJ6_bitCount_0f7a4_8 ?_
  refine Ex.istore_n (pc := 9) (ls' := [some (.int _)]) dJ6_bitCount_0f7a4_9 rfl (by decide) rfl rfl ?_
  refine Ex.iload_n (pc := 10) dJ6_bitCount_0f7a4_10 rfl rfl ?_
  refine Ex.ldcw (pc := 11) dJ6_bitCount_0f7a4_11 kv_J6_266 ?_
  refine Ex.iand (pc := 14) dJ6_bitCount_0f7a4_14 ?_
  refine Ex.iload_n (pc := 15) dJ6_bitCount_0f7a4_15 rfl rfl ?_
  refine Ex.iconst (pc := 16) (v := 2) dJ6_bitCount_0f7a4_16 rfl ?_
  refine Ex.iushr (pc := 17) dJ6_bitCount_0f7a4_17 ?_
  refine Ex.ldcw (pc := 18) dJ6_bitCount_0f7a4_18 kv_J6_266 ?_
  refine Ex.iand (pc := 21) dJ6_bitCount_0f7a4_21 ?_
  refine Ex.iadd (pc := 22) dJ6_bitCount_0f7a4_22 ?_
  refine Ex.istore_n (pc := 23) (ls' := [some (.int _)]) dJ6_bitCount_0f7a4_23 rfl (by decide) rfl rfl ?_
  refine Ex.iload_n (pc := 24) dJ6_bitCount_0f7a4_24 rfl rfl ?_
  refine Ex.iload_n (pc := 25) dJ6_bitCount_0f7a4_25 rfl rfl ?_
  refine Ex.iconst (pc := 26) (v := 4) dJ6_bitCount_0f7a4_26 rfl ?_
  refine Ex.iushr (pc := 27) dJ6_bitCount_0f7a4_27 ?_
  refine Ex.iadd (pc := 28) dJ6_bitCount_0f7a4_28 ?_
  refine Ex.ldcw (pc := 29) dJ6_bitCount_0f7a4_29 kv_J6_267 ?_
  refine Ex.iand (pc := 32) dJ6_bitCount_0f7a4_32 ?_
  refine Ex.istore_n (pc := 33) (ls' := [some (.int _)]) dJ6_bitCount_0f7a4_33 rfl (by decide) rfl rfl ?_
  refine Ex.iload_n (pc := 34) dJ6_bitCount_0f7a4_34 rfl rfl ?_
  refine Ex.iload_n (pc := 35) dJ6_bitCount_0f7a4_35 rfl rfl ?_
  refine Ex.bipush (pc := 36) (v := 8) dJ6_bitCount_0f7a4_36 rfl ?_
  refine Ex.iushr (pc := 38) dJ6_bitCount_0f7a4_38 ?_
  refine Ex.iadd (pc := 39) dJ6_bitCount_0f7a4_39 ?_
  refine Ex.istore_n (pc := 40) (ls' := [some (.int _)]) dJ6_bitCount_0f7a4_40 rfl (by decide) rfl rfl ?_
  refine Ex.iload_n (pc := 41) dJ6_bitCount_0f7a4_41 rfl rfl ?_
  refine Ex.iload_n (pc := 42) dJ6_bitCount_0f7a4_42 rfl rfl ?_
  refine Ex.bipush (pc := 43) (v := 16) dJ6_bitCount_0f7a4_43 rfl ?_
  refine Ex.iushr (pc := 45) dJ6_bitCount_0f7a4_45 ?_
  refine Ex.iadd (pc := 46) dJ6_bitCount_0f7a4_46 ?_
  refine Ex.istore_n (pc := 47) (ls' := [some (.int _)]) dJ6_bitCount_0f7a4_47 rfl (by decide) rfl rfl ?_
  refine Ex.iload_n (pc := 48) dJ6_bitCount_0f7a4_48 rfl rfl ?_
  refine Ex.bipush (pc := 49) (v := 63) dJ6_bitCount_0f7a4_49 rfl ?_
  refine Ex.iand (pc := 51) dJ6_bitCount_0f7a4_51 ?_
  refine Ex.iret (pc := 52) rfl rfl rfl dJ6_bitCount_0f7a4_52 (Nat.le_refl _) (Nat.le_refl _) ?_
  exact ⟨rfl, rfl⟩
set_option maxRecDepth 20000 in
theorem t_has {N : Nat} {I : aI} {L : aL} {nb ns nh : Nat} {w : Int32} (hc : CntOk I nb ns nh) : Run 2 0 0 mX9_has [.ref 0, .int w] (St N I L) (RI (if w = 0 then I 3 0 else if w = 1 then I 3 1 else if w = 2 then I 3 2 else if w = 3 then I 10 0 else if w = 4 then I 10 1 else if w = 5 then nI (cntPos (I 12) 6) else if w = 6 then nI (cntZ (I 11) nb) else if w = 7 then bitC (I 10 2) else if w = 8 then (if I 10 3 < 40 then I 10 3 else 40) else if w = 9 then I 23 0 else if w = 10 then I 19 1 else if w = 11 then (L 0 13).toInt32 else -1) (St N I L)) := by
  refine Run.of (ls := [some (.ref 0), some (.int _)]) (by decide) (Nat.le_of_ble_eq_true rfl) rfl ?_
  refine Ex.iload_n (pc := 0) dX9_has_0 rfl rfl ?_
  by_cases c1_0 : w = 0
  · refine Ex.tableIn (pc := 1) (tgt := 64) (off := 63) dX9_has_1 (by rw [c1_0]; decide) (by rw [c1_0]; decide) (by rw [c1_0]; decide) (by decide) ?_
    refine Ex.aload_n (pc := 64) dX9_has_64 rfl rfl ?_
    refine Ex.getR (pc := 65) dX9_has_65 fX9_22 (sh0 _) r0_2 ?_
    refine Ex.getR (pc := 68) dX9_has_68 fX9_144 (sh2 _) r2_0 ?_
    refine Ex.iconst (pc := 71) (v := 0) dX9_has_71 rfl ?_
    refine Ex.iald (pc := 72) (j := 0) dX9_has_72 (sh3 _) (by unfold vp_in; decide) (by decide) ?_
    refine Ex.iret (pc := 73) rfl rfl rfl dX9_has_73 (Nat.le_refl _) (Nat.le_refl _) ?_
    exact ⟨by simp [*], rfl⟩
  by_cases c1_1 : w = 1
  · refine Ex.tableIn (pc := 1) (tgt := 74) (off := 73) dX9_has_1 (by rw [c1_1]; decide) (by rw [c1_1]; decide) (by rw [c1_1]; decide) (by decide) ?_
    refine Ex.aload_n (pc := 74) dX9_has_74 rfl rfl ?_
    refine Ex.getR (pc := 75) dX9_has_75 fX9_22 (sh0 _) r0_2 ?_
    refine Ex.getR (pc := 78) dX9_has_78 fX9_144 (sh2 _) r2_0 ?_
    refine Ex.iconst (pc := 81) (v := 1) dX9_has_81 rfl ?_
    refine Ex.iald (pc := 82) (j := 1) dX9_has_82 (sh3 _) (by unfold vp_in; decide) (by decide) ?_
    refine Ex.iret (pc := 83) rfl rfl rfl dX9_has_83 (Nat.le_refl _) (Nat.le_refl _) ?_
    exact ⟨by simp [*], rfl⟩
  by_cases c1_2 : w = 2
  · refine Ex.tableIn (pc := 1) (tgt := 84) (off := 83) dX9_has_1 (by rw [c1_2]; decide) (by rw [c1_2]; decide) (by rw [c1_2]; decide) (by decide) ?_
    refine Ex.aload_n (pc := 84) dX9_has_84 rfl rfl ?_
    refine Ex.getR (pc := 85) dX9_has_85 fX9_22 (sh0 _) r0_2 ?_
    refine Ex.getR (pc := 88) dX9_has_88 fX9_144 (sh2 _) r2_0 ?_
    refine Ex.iconst (pc := 91) (v := 2) dX9_has_91 rfl ?_
    refine Ex.iald (pc := 92) (j := 2) dX9_has_92 (sh3 _) (by unfold vp_in; decide) (by decide) ?_
    refine Ex.iret (pc := 93) rfl rfl rfl dX9_has_93 (Nat.le_refl _) (Nat.le_refl _) ?_
    exact ⟨by simp [*], rfl⟩
  by_cases c1_3 : w = 3
  · refine Ex.tableIn (pc := 1) (tgt := 94) (off := 93) dX9_has_1 (by rw [c1_3]; decide) (by rw [c1_3]; decide) (by rw [c1_3]; decide) (by decide) ?_
    refine Ex.aload_n (pc := 94) dX9_has_94 rfl rfl ?_
    refine Ex.getR (pc := 95) dX9_has_95 fX9_35 (sh0 _) r0_5 ?_
    refine Ex.getI (pc := 98) dX9_has_98 fX9_147 (sh10 _) ?_
    refine Ex.iret (pc := 101) rfl rfl rfl dX9_has_101 (Nat.le_refl _) (Nat.le_refl _) ?_
    exact ⟨by simp [*], rfl⟩
  by_cases c1_4 : w = 4
  · refine Ex.tableIn (pc := 1) (tgt := 102) (off := 101) dX9_has_1 (by rw [c1_4]; decide) (by rw [c1_4]; decide) (by rw [c1_4]; decide) (by decide) ?_
    refine Ex.aload_n (pc := 102) dX9_has_102 rfl rfl ?_
    refine Ex.getR (pc := 103) dX9_has_103 fX9_35 (sh0 _) r0_5 ?_
    refine Ex.getI (pc := 106) dX9_has_106 fX9_150 (sh10 _) ?_
    refine Ex.iret (pc := 109) rfl rfl rfl dX9_has_109 (Nat.le_refl _) (Nat.le_refl _) ?_
    exact ⟨by simp [*], rfl⟩
  by_cases c1_5 : w = 5
  · refine Ex.tableIn (pc := 1) (tgt := 110) (off := 109) dX9_has_1 (by rw [c1_5]; decide) (by rw [c1_5]; decide) (by rw [c1_5]; decide) (by decide) ?_
    refine Ex.aload_n (pc := 110) dX9_has_110 rfl rfl ?_
    refine Ex.getR (pc := 111) dX9_has_111 fX9_35 (sh0 _) r0_5 ?_
    refine Ex.callV (pc := 114) (As := []) (rest := []) dX9_has_114 cX9_153 t_stainsLeft10 (sh10 _) rfl rfl (by decide) (Nat.le_refl _) (Nat.le_refl _) (Nat.le_of_ble_eq_true rfl) (Or.inl (fun r S' h => by obtain ⟨_, h⟩ := h; subst h; rfl)) (fun r S' hq _ _ => ?_)
    obtain ⟨rfl, rfl⟩ := hq
    refine Ex.iret (pc := 117) rfl rfl rfl dX9_has_117 (Nat.le_refl _) (Nat.le_refl _) ?_
    exact ⟨by simp [*], rfl⟩
  by_cases c1_6 : w = 6
  · refine Ex.tableIn (pc := 1) (tgt := 118) (off := 117) dX9_has_1 (by rw [c1_6]; decide) (by rw [c1_6]; decide) (by rw [c1_6]; decide) (by decide) ?_
    refine Ex.aload_n (pc := 118) dX9_has_118 rfl rfl ?_
    refine Ex.callV (pc := 119) (As := []) (rest := []) dX9_has_119 cX9_157 (t_bareBoards (nb := nb) hc.1 hc.2.1) (sh0 _) rfl rfl (by decide) (Nat.le_refl _) (Nat.le_refl _) (Nat.le_of_ble_eq_true rfl) (Or.inl (fun r S' h => by obtain ⟨_, h⟩ := h; subst h; rfl)) (fun r S' hq _ _ => ?_)
    obtain ⟨rfl, rfl⟩ := hq
    refine Ex.iret (pc := 122) rfl rfl rfl dX9_has_122 (Nat.le_refl _) (Nat.le_refl _) ?_
    exact ⟨by simp [*], rfl⟩
  by_cases c1_7 : w = 7
  · refine Ex.tableIn (pc := 1) (tgt := 123) (off := 122) dX9_has_1 (by rw [c1_7]; decide) (by rw [c1_7]; decide) (by rw [c1_7]; decide) (by decide) ?_
    refine Ex.aload_n (pc := 123) dX9_has_123 rfl rfl ?_
    refine Ex.getR (pc := 124) dX9_has_124 fX9_35 (sh0 _) r0_5 ?_
    refine Ex.getI (pc := 127) dX9_has_127 fX9_160 (sh10 _) ?_
    refine Ex.callS (pc := 130) (As := [.int _]) (rest := []) dX9_has_130 cX9_163 t_bitCount rfl rfl (by decide) (Nat.le_refl _) (Nat.le_refl _) (Nat.le_of_ble_eq_true rfl) (Or.inl (fun r S' h => by obtain ⟨_, h⟩ := h; subst h; rfl)) (fun r S' hq _ _ => ?_)
    obtain ⟨rfl, rfl⟩ := hq
    refine Ex.iret (pc := 133) rfl rfl rfl dX9_has_133 (Nat.le_refl _) (Nat.le_refl _) ?_
    exact ⟨by simp [*], rfl⟩
  by_cases c1_8 : w = 8
  · refine Ex.tableIn (pc := 1) (tgt := 134) (off := 133) dX9_has_1 (by rw [c1_8]; decide) (by rw [c1_8]; decide) (by rw [c1_8]; decide) (by decide) ?_
    refine Ex.bipush (pc := 134) (v := 40) dX9_has_134 rfl ?_
    refine Ex.aload_n (pc := 136) dX9_has_136 rfl rfl ?_
    refine Ex.getR (pc := 137) dX9_has_137 fX9_35 (sh0 _) r0_5 ?_
    refine Ex.getI (pc := 140) dX9_has_140 fX9_168 (sh10 _) ?_
    refine Ex.min (pc := 143) dX9_has_143 kl_X9_171 (by decide) (Nat.le_of_ble_eq_true rfl) (Nat.le_refl _) (Nat.le_refl _) ?_
    refine Ex.iret (pc := 146) rfl rfl rfl dX9_has_146 (Nat.le_refl _) (Nat.le_refl _) ?_
    exact ⟨by simp [*], rfl⟩
  by_cases c1_9 : w = 9
  · refine Ex.tableIn (pc := 1) (tgt := 147) (off := 146) dX9_has_1 (by rw [c1_9]; decide) (by rw [c1_9]; decide) (by rw [c1_9]; decide) (by decide) ?_
    refine Ex.aload_n (pc := 147) dX9_has_147 rfl rfl ?_
    refine Ex.getR (pc := 148) dX9_has_148 fX9_70 (sh0 _) r0_10 ?_
    refine Ex.getI (pc := 151) dX9_has_151 fX9_135 (sh23 _) ?_
    refine Ex.iret (pc := 154) rfl rfl rfl dX9_has_154 (Nat.le_refl _) (Nat.le_refl _) ?_
    exact ⟨by simp [*], rfl⟩
  by_cases c1_10 : w = 10
  · refine Ex.tableIn (pc := 1) (tgt := 155) (off := 154) dX9_has_1 (by rw [c1_10]; decide) (by rw [c1_10]; decide) (by rw [c1_10]; decide) (by decide) ?_
    refine Ex.aload_n (pc := 155) dX9_has_155 rfl rfl ?_
    refine Ex.getR (pc := 156) dX9_has_156 fX9_54 (sh0 _) r0_8 ?_
    refine Ex.getI (pc := 159) dX9_has_159 fX9_177 (sh19 _) ?_
    refine Ex.iret (pc := 162) rfl rfl rfl dX9_has_162 (Nat.le_refl _) (Nat.le_refl _) ?_
    exact ⟨by simp [*], rfl⟩
  by_cases c1_11 : w = 11
  · refine Ex.tableIn (pc := 1) (tgt := 163) (off := 162) dX9_has_1 (by rw [c1_11]; decide) (by rw [c1_11]; decide) (by rw [c1_11]; decide) (by decide) ?_
    refine Ex.aload_n (pc := 163) dX9_has_163 rfl rfl ?_
    refine Ex.getL (pc := 164) dX9_has_164 fX9_88 (sh0 _) ?_
    refine Ex.l2i (pc := 167) dX9_has_167 ?_
    refine Ex.iret (pc := 168) rfl rfl rfl dX9_has_168 (Nat.le_refl _) (Nat.le_refl _) ?_
    exact ⟨by simp [*], rfl⟩
  refine Ex.tableOut (pc := 1) (tgt := 169) dX9_has_1 (by have h0 := toInt_ne (z := 0) c1_0 (by decide); have h1 := toInt_ne (z := 1) c1_1 (by decide); have h2 := toInt_ne (z := 2) c1_2 (by decide); have h3 := toInt_ne (z := 3) c1_3 (by decide); have h4 := toInt_ne (z := 4) c1_4 (by decide); have h5 := toInt_ne (z := 5) c1_5 (by decide); have h6 := toInt_ne (z := 6) c1_6 (by decide); have h7 := toInt_ne (z := 7) c1_7 (by decide); have h8 := toInt_ne (z := 8) c1_8 (by decide); have h9 := toInt_ne (z := 9) c1_9 (by decide); have h10 := toInt_ne (z := 10) c1_10 (by decide); have h11 := toInt_ne (z := 11) c1_11 (by decide); omega) (by decide) ?_
  refine Ex.iconst (pc := 169) (v := (-1)) dX9_has_169 rfl ?_
  refine Ex.iret (pc := 170) rfl rfl rfl dX9_has_170 (Nat.le_refl _) (Nat.le_refl _) ?_
  exact ⟨by simp [*], rfl⟩
set_option maxRecDepth 20000 in
theorem t_letter {N : Nat} {I : aI} {L : aL} {nb ns nh : Nat} {w v u : Int32} (hc : CntOk I nb ns nh) : Run 1 0 0 mX9_letter [.ref 0, .int w, .int v, .int u] (St N I L) (RI (if inR w 3 = false then -1 else if inR u 6 = false then -1 else if inR v (if w = 0 then nb else if w = 1 then ns else nh) = false then -1 else I 4 (6 * w.toNatClampNeg + v.toNatClampNeg) >>> (5 * (5 - u) &&& 31) &&& 31) (St N I L)) := by
  refine Run.of (ls := [some (.ref 0), some (.int _), some (.int _), some (.int _)]) (by decide) (Nat.le_of_ble_eq_true rfl) rfl ?_
  obtain ⟨hc0, hb5, hc1, hs6, hc2, hh6, hrib⟩ := id hc
  refine Ex.iload_n (pc := 0) dX9_letter_0 rfl rfl ?_
  refine Ex.if_lt (pc := 1) (tgt := 31) dX9_letter_1 (by decide) (fun c1 => ?_) (fun c1 => ?_)
  · skip
    refine Ex.iconst (pc := 31) (v := (-1)) dX9_letter_31 rfl ?_
    refine Ex.iret (pc := 32) rfl rfl rfl dX9_letter_32 (Nat.le_refl _) (Nat.le_refl _) ?_
    refine ⟨congrArg (fun z => some (Value.int z)) ?_, rfl⟩
    rw [if_pos (show inR w 3 = false from by simp [inR, c1])]
  · skip
    refine Ex.iload_n (pc := 4) dX9_letter_4 rfl rfl ?_
    refine Ex.iconst (pc := 5) (v := 3) dX9_letter_5 rfl ?_
    refine Ex.icmp_ge (pc := 6) (tgt := 31) dX9_letter_6 (by decide) (fun c6 => ?_) (fun c6 => ?_)
    · skip
      refine Ex.iconst (pc := 31) (v := (-1)) dX9_letter_31 rfl ?_
      refine Ex.iret (pc := 32) rfl rfl rfl dX9_letter_32 (Nat.le_refl _) (Nat.le_refl _) ?_
      refine ⟨congrArg (fun z => some (Value.int z)) ?_, rfl⟩
      rw [if_pos (show inR w 3 = false from by simp only [inR]; exact decide_eq_false (fun q => q.2 c6))]
    · skip
      refine Ex.iload_n (pc := 9) dX9_letter_9 rfl rfl ?_
      refine Ex.if_lt (pc := 10) (tgt := 31) dX9_letter_10 (by decide) (fun c10 => ?_) (fun c10 => ?_)
      · skip
        refine Ex.iconst (pc := 31) (v := (-1)) dX9_letter_31 rfl ?_
        refine Ex.iret (pc := 32) rfl rfl rfl dX9_letter_32 (Nat.le_refl _) (Nat.le_refl _) ?_
        refine ⟨congrArg (fun z => some (Value.int z)) ?_, rfl⟩
        rw [if_neg (show ¬ inR w 3 = false from by rw [show inR w 3 = true from by simp only [inR]; exact decide_eq_true ⟨c1, c6⟩]; decide), if_pos (show inR u 6 = false from by simp [inR, c10])]
      · skip
        refine Ex.iload_n (pc := 13) dX9_letter_13 rfl rfl ?_
        refine Ex.bipush (pc := 14) (v := 6) dX9_letter_14 rfl ?_
        refine Ex.icmp_ge (pc := 16) (tgt := 31) dX9_letter_16 (by decide) (fun c16 => ?_) (fun c16 => ?_)
        · skip
          refine Ex.iconst (pc := 31) (v := (-1)) dX9_letter_31 rfl ?_
          refine Ex.iret (pc := 32) rfl rfl rfl dX9_letter_32 (Nat.le_refl _) (Nat.le_refl _) ?_
          refine ⟨congrArg (fun z => some (Value.int z)) ?_, rfl⟩
          rw [if_neg (show ¬ inR w 3 = false from by rw [show inR w 3 = true from by simp only [inR]; exact decide_eq_true ⟨c1, c6⟩]; decide), if_pos (show inR u 6 = false from by simp only [inR]; exact decide_eq_false (fun q => q.2 c16))]
        · skip
          have hw3 : inR w 3 = true := by simp only [inR]; exact decide_eq_true ⟨c1, c6⟩
          have hu6 : inR u 6 = true := by simp only [inR]; exact decide_eq_true ⟨c10, c16⟩
          obtain ⟨q, hq3, rfl⟩ := inR_of hw3 (by decide)
          obtain ⟨m, hm, hm6, hme⟩ : ∃ m, I 3 q = nI m ∧ m ≤ 6 ∧ (if nI q = 0 then nb else if nI q = 1 then ns else nh) = m := by
            rcases (show q = 0 ∨ q = 1 ∨ q = 2 by omega) with rfl | rfl | rfl
            · exact ⟨nb, hc0, by omega, rfl⟩
            · exact ⟨ns, hc1, hs6, rfl⟩
            · exact ⟨nh, hc2, hh6, rfl⟩
          rw [hme]
          refine Ex.aload_n (pc := 19) dX9_letter_19 rfl rfl ?_
          refine Ex.getR (pc := 20) dX9_letter_20 fX9_22 (sh0 _) r0_2 ?_
          refine Ex.iload_n (pc := 23) dX9_letter_23 rfl rfl ?_
          refine Ex.iload_n (pc := 24) dX9_letter_24 rfl rfl ?_
          refine Ex.callV (pc := 25) (As := [.int _, .int _]) (rest := []) dX9_letter_25 cX9_182 (t_holdsB (s := q) (n := m) hq3 hm) (sh2 _) rfl rfl (by decide) (Nat.le_refl _) (Nat.le_refl _) (Nat.le_of_ble_eq_true rfl) (Or.inl (fun r S' h => by obtain ⟨_, h⟩ := h; subst h; rfl)) (fun r S' hq _ _ => ?_)
          obtain ⟨rfl, rfl⟩ := hq
          refine Ex.if_ne (pc := 28) (tgt := 33) dX9_letter_28 (by decide) (fun c28 => ?_) (fun c28 => ?_)
          · skip
            have hin := bI_1 c28
            obtain ⟨j, hj, rfl⟩ := inR_of hin (by omega)
            refine Ex.aload_n (pc := 33) dX9_letter_33 rfl rfl ?_
            refine Ex.getR (pc := 34) dX9_letter_34 fX9_22 (sh0 _) r0_2 ?_
            refine Ex.getR (pc := 37) dX9_letter_37 fX9_186 (sh2 _) r2_1 ?_
            refine Ex.iload_n (pc := 40) dX9_letter_40 rfl rfl ?_
            refine Ex.bipush (pc := 41) (v := 6) dX9_letter_41 rfl ?_
            refine Ex.imul (pc := 43) dX9_letter_43 ?_
            refine Ex.iload_n (pc := 44) dX9_letter_44 rfl rfl ?_
            refine Ex.iadd (pc := 45) dX9_letter_45 ?_
            refine Ex.iald (pc := 46) (j := 6 * q + j) dX9_letter_46 (sh4 _) (by rw [show nI q * 6 + nI j = nI (6 * q + j) from by rw [show nI q * 6 = nI (q * 6) from pk_mul q 6, nI_add, Nat.mul_comm]]; exact vp_in_nI (by omega) (by decide)) (by rw [show nI q * 6 + nI j = nI (6 * q + j) from by rw [show nI q * 6 = nI (q * 6) from pk_mul q 6, nI_add, Nat.mul_comm]]; exact nI_clamp (by omega)) ?_
            refine Ex.iconst (pc := 47) (v := 5) dX9_letter_47 rfl ?_
            refine Ex.iconst (pc := 48) (v := 5) dX9_letter_48 rfl ?_
            refine Ex.iload_n (pc := 49) dX9_letter_49 rfl rfl ?_
            refine Ex.isub (pc := 50) dX9_letter_50 ?_
            refine Ex.imul (pc := 51) dX9_letter_51 ?_
            refine Ex.ishr (pc := 52) dX9_letter_52 ?_
            refine Ex.bipush (pc := 53) (v := 31) dX9_letter_53 rfl ?_
            refine Ex.iand (pc := 55) dX9_letter_55 ?_
            refine Ex.iret (pc := 56) rfl rfl rfl dX9_letter_56 (Nat.le_refl _) (Nat.le_refl _) ?_
            refine ⟨congrArg (fun z => some (Value.int z)) ?_, rfl⟩
            rw [if_neg (by rw [hw3]; decide), if_neg (by rw [hu6]; decide), if_neg (by rw [hin]; decide), nI_clamp (by omega), nI_clamp (by omega)]
          · skip
            refine Ex.iconst (pc := 31) (v := (-1)) dX9_letter_31 rfl ?_
            refine Ex.iret (pc := 32) rfl rfl rfl dX9_letter_32 (Nat.le_refl _) (Nat.le_refl _) ?_
            refine ⟨congrArg (fun z => some (Value.int z)) ?_, rfl⟩
            rw [if_neg (by rw [hw3]; decide), if_neg (by rw [hu6]; decide), if_pos (bI_0 c28)]
