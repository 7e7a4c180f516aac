theorem i8_255 (x : Int32) : x.toInt8.toInt32 &&& 255 = x &&& 255 := by
  apply i32_ext
  intro i hi
  rw [Int32.toBitVec_and, Int32.toBitVec_and, BitVec.getLsbD_and, BitVec.getLsbD_and]
  by_cases h : i < 8
  · simp only [Int8.toBitVec_toInt32, Int32.toBitVec_toInt8, BitVec.getLsbD_signExtend, h, hi, decide_true, Bool.true_and, if_true]
  · rw [show (255 : Int32).toBitVec.getLsbD i = false from ?_, Bool.and_false, Bool.and_false]
    have : ∀ j, j < 32 → ¬ j < 8 → (255 : Int32).toBitVec.getLsbD j = false := by decide
    exact this i hi h
def bm4 (v : Int32) (i : Nat) : Int32 := v >>> (shf i &&& 31) &&& 255
theorem bm_bt (v : Int32) (i : Nat) : bt4 v i &&& 255 = bm4 v i := i8_255 _
def fe5 (a b c d e : Int32) (i : Nat) : Int32 := if i < 4 then bm4 a i else if i < 8 then bm4 b (i - 4) else if i < 12 then bm4 c (i - 8) else if i < 16 then bm4 d (i - 12) else bm4 e (i - 16)
theorem fe_fd (a b c d e : Int32) (i : Nat) : fd5 a b c d e i &&& 255 = fe5 a b c d e i := by
  unfold fd5 fe5
  split
  · exact bm_bt _ _
  · split
    · exact bm_bt _ _
    · split
      · exact bm_bt _ _
      · split
        · exact bm_bt _ _
        · exact bm_bt _ _
theorem and255 (x : Int32) : ∃ q, q < 256 ∧ x &&& 255 = nI q := pk_andE x 8 (by decide)
set_option maxRecDepth 20000 in
theorem tm_put {N : Nat} {I : aI} {L : aL} {t : Nat} {v : Int32} (ht : I 36 1 = nI t) (h16 : t + 4 ≤ 1600) : Run 0 0 0 mX10_put [.ref 36, .int v] (St N I L) (RP none N L (fun I2 => Sm [36, 37] I I2 ∧ (∀ j, j ≠ 1 → I2 36 j = I 36 j) ∧ I2 36 1 = nI (t + 4) ∧ (∀ i, i < t → I2 37 i = I 37 i) ∧ ∀ i, i < 4 → I2 37 (t + i) = bm4 v i)) := by
  refine Run.of (ls := [some (.ref 36), some (.int _), none]) (by decide) (Nat.le_of_ble_eq_true rfl) rfl ?_
  refine Ex.bipush (pc := 0) (v := 24) dX10_put_0 rfl ?_
  refine Ex.istore_n (pc := 2) (ls' := [some (.ref 36), some (.int _), some (.int 24)]) dX10_put_2 rfl (by decide) rfl rfl ?_
  refine forUp (σ := aI) (P := fun k I2 => Ex 0 0 0 mX10_put 0 0 3 [some (.ref 36), some (.int v), some (.int (shf k))] [] (St N I2 L) _) (Inv := fun k I2 => Sm [36, 37] I I2 ∧ (∀ j, j ≠ 1 → I2 36 j = I 36 j) ∧ I2 36 1 = nI (t + k) ∧ (∀ i, i < t → I2 37 i = I 37 i) ∧ ∀ i, i < k → I2 37 (t + i) = bm4 v i) 4 ?_ ?_ 0 _ (Nat.zero_le _) ⟨Sm.rf, fun _ _ => rfl, ht, fun _ _ => rfl, fun _ h => absurd h (Nat.not_lt_zero _)⟩
  · rintro I2 hI2
    refine Ex.iload_n (pc := 3) dX10_put_3 rfl rfl ?_
    refine Ex.if_lt (pc := 4) (tgt := 39) dX10_put_4 (by decide) (fun _ => ?_) (fun c4 => absurd (by decide) c4)
    refine Ex.vret (pc := 39) rfl dX10_put_39 (Nat.le_refl _) (Nat.le_refl _) ?_
    exact ⟨_, rfl, rfl, hI2⟩
  · rintro k I2 hk ⟨hS, h0, h1, hl, hb⟩ ih
    refine Ex.iload_n (pc := 3) dX10_put_3 rfl rfl ?_
    refine Ex.if_lt (pc := 4) (tgt := 39) dX10_put_4 (by decide) (fun c4 => absurd c4 (shf_s k hk).2) (fun _ => ?_)
    refine Ex.aload_n (pc := 7) dX10_put_7 rfl rfl ?_
    refine Ex.getR (pc := 8) dX10_put_8 fX10_7 (sh36 _) r36_0 ?_
    refine Ex.aload_n (pc := 11) dX10_put_11 rfl rfl ?_
    refine Ex.getI (pc := 12) dX10_put_12 fX10_13 (sh36 _) ?_
    refine Ex.iload_n (pc := 15) dX10_put_15 rfl rfl ?_
    refine Ex.iload_n (pc := 16) dX10_put_16 rfl rfl ?_
    refine Ex.ishr (pc := 17) dX10_put_17 ?_
    refine Ex.sipush (pc := 18) (v := 255) dX10_put_18 rfl ?_
    refine Ex.iand (pc := 21) dX10_put_21 ?_
    refine Ex.iast (pc := 22) (j := t + k) dX10_put_22 (sh37 _) (by rw [h1]; exact vp_in_nI (by omega) (by decide)) (by rw [h1]; exact nI_clamp (by omega)) ?_
    refine Ex.aload_n (pc := 23) dX10_put_23 rfl rfl ?_
    refine Ex.dup (pc := 24) dX10_put_24 rfl ?_
    refine Ex.getI (pc := 25) dX10_put_25 fX10_13 (sh36 _) ?_
    refine Ex.iconst (pc := 28) (v := 1) dX10_put_28 rfl ?_
    refine Ex.iadd (pc := 29) dX10_put_29 ?_
    refine Ex.putI (pc := 30) dX10_put_30 fX10_13 (sh36 _) (Or.inl rfl) ⟨rfl, rfl⟩ ?_
    refine Ex.iinc (pc := 33) (ls' := [some (.ref 36), some (.int _), some (.int _)]) dX10_put_33 rfl rfl (by decide) rfl rfl ?_
    refine Ex.goto (pc := 36) (tgt := 3) dX10_put_36 (by decide) ?_
    rw [(shf_s k hk).1]
    refine ih _ ⟨(hS.up (by decide)).up (by decide), ?_, ?_, ?_, ?_⟩
    · intro j hj; rw [va_up_s, upd_n hj, va_up_n (by decide)]; exact h0 j hj
    · rw [va_up_s, upd_s, va_up_n (by decide), h1]; exact nI_1 _
    · intro i hi; rw [va_up_n (by decide), va_up_s, upd_n (by omega)]; exact hl i hi
    · intro i hi
      rw [va_up_n (by decide), va_up_s]
      by_cases e : i = k
      · rw [e, upd_s]; rfl
      · rw [upd_n (by omega)]; exact hb i (by omega)
set_option maxRecDepth 20000 in
theorem tm_feed0 {N : Nat} {I : aI} {L : aL} {a b c d e : Int32} {t : Nat} (ht : I 36 1 = nI t) (h16 : t ≤ 1600) (h : ¬ t ≤ 1580) : Run 1 0 0 mX10_feed [.ref 36, .int a, .int b, .int c, .int d, .int e] (St N I L) (RI (-1) (St N (refM I 0) L)) := by
  refine Run.of (ls := [some (.ref 36), some (.int _), some (.int _), some (.int _), some (.int _), some (.int _)]) (by decide) (Nat.le_of_ble_eq_true rfl) rfl ?_
  refine Ex.aload_n (pc := 0) dX10_feed_0 rfl rfl ?_
  refine Ex.getI (pc := 1) dX10_feed_1 fX10_13 (sh36 _) ?_
  refine Ex.bipush (pc := 4) (v := 20) dX10_feed_4 rfl ?_
  refine Ex.iadd (pc := 6) dX10_feed_6 ?_
  refine Ex.sipush (pc := 7) (v := 1600) dX10_feed_7 rfl ?_
  rw [ht, show nI t + 20 = nI (t + 20) from nI_add t 20]
  refine Ex.icmp_le (pc := 10) (tgt := 19) dX10_feed_10 (by decide) (fun c10 => absurd c10 (nI_ge (a := 1600) (by omega) (by omega))) (fun _ => ?_)
  refine Ex.aload_n (pc := 13) dX10_feed_13 rfl rfl ?_
  refine Ex.iconst (pc := 14) (v := 0) dX10_feed_14 rfl ?_
  refine Ex.callV (pc := 15) (As := [.int 0]) (rest := []) dX10_feed_15 cX10_222 (tm_refuses (k := 0) (by decide)) (sh36 _) rfl rfl (by decide) (Nat.le_refl _) (Nat.le_refl _) (Nat.le_of_ble_eq_true rfl) (Or.inl (fun r S' h => by obtain ⟨_, h⟩ := h; subst h; rfl)) (fun r S' hq _ _ => ?_)
  obtain ⟨rfl, rfl⟩ := hq
  refine Ex.iret (pc := 18) rfl rfl rfl dX10_feed_18 (Nat.le_refl _) (Nat.le_refl _) ?_
  exact ⟨rfl, rfl⟩
set_option maxRecDepth 20000 in
theorem tm_feed1 {N : Nat} {I : aI} {L : aL} {t : Nat} {a b c d e : Int32} (ht : I 36 1 = nI t) (h16 : t + 20 ≤ 1600) : Run 1 0 0 mX10_feed [.ref 36, .int a, .int b, .int c, .int d, .int e] (St N I L) (RP (some (.int (nI (t + 20)))) N L (fun I2 => Sm [36, 37] I I2 ∧ (∀ j, j ≠ 1 → I2 36 j = I 36 j) ∧ I2 36 1 = nI (t + 20) ∧ (∀ i, i < t → I2 37 i = I 37 i) ∧ ∀ i, i < 20 → I2 37 (t + i) = fe5 a b c d e i)) := by
  refine Run.of (ls := [some (.ref 36), some (.int _), some (.int _), some (.int _), some (.int _), some (.int _)]) (by decide) (Nat.le_of_ble_eq_true rfl) rfl ?_
  refine Ex.aload_n (pc := 0) dX10_feed_0 rfl rfl ?_
  refine Ex.getI (pc := 1) dX10_feed_1 fX10_13 (sh36 _) ?_
  refine Ex.bipush (pc := 4) (v := 20) dX10_feed_4 rfl ?_
  refine Ex.iadd (pc := 6) dX10_feed_6 ?_
  refine Ex.sipush (pc := 7) (v := 1600) dX10_feed_7 rfl ?_
  rw [ht, show nI t + 20 = nI (t + 20) from nI_add t 20]
  refine Ex.icmp_le (pc := 10) (tgt := 19) dX10_feed_10 (by decide) (fun _ => ?_) (fun c10 => absurd (nI_le (b := 1600) (by omega) (by decide)) c10)
  refine Ex.aload_n (pc := 19) dX10_feed_19 rfl rfl ?_
  refine Ex.iload_n (pc := 20) dX10_feed_20 rfl rfl ?_
  refine Ex.callV (pc := 21) (As := [.int _]) (rest := []) dX10_feed_21 cX10_226 (tm_put (t := t + 0) ht (by omega)) (sh36 _) rfl rfl (by decide) (Nat.le_refl _) (Nat.le_refl _) (Nat.le_of_ble_eq_true rfl) (Or.inl (fun r S' h => by obtain ⟨_, _, h, _⟩ := h; subst h; rfl)) (fun r S' hq _ _ => ?_)
  obtain ⟨J0, rfl, rfl, hS0, h00, h10, hl0, hb0⟩ := hq
  refine Ex.aload_n (pc := 24) dX10_feed_24 rfl rfl ?_
  refine Ex.iload_n (pc := 25) dX10_feed_25 rfl rfl ?_
  refine Ex.callV (pc := 26) (As := [.int _]) (rest := []) dX10_feed_26 cX10_226 (tm_put (t := t + 4) h10 (by omega)) (sh36 _) rfl rfl (by decide) (Nat.le_refl _) (Nat.le_refl _) (Nat.le_of_ble_eq_true rfl) (Or.inl (fun r S' h => by obtain ⟨_, _, h, _⟩ := h; subst h; rfl)) (fun r S' hq _ _ => ?_)
  obtain ⟨J1, rfl, rfl, hS1, h01, h11, hl1, hb1⟩ := hq
  refine Ex.aload_n (pc := 29) dX10_feed_29 rfl rfl ?_
  refine Ex.iload_n (pc := 30) dX10_feed_30 rfl rfl ?_
  refine Ex.callV (pc := 31) (As := [.int _]) (rest := []) dX10_feed_31 cX10_226 (tm_put (t := t + 8) h11 (by omega)) (sh36 _) rfl rfl (by decide) (Nat.le_refl _) (Nat.le_refl _) (Nat.le_of_ble_eq_true rfl) (Or.inl (fun r S' h => by obtain ⟨_, _, h, _⟩ := h; subst h; rfl)) (fun r S' hq _ _ => ?_)
  obtain ⟨J2, rfl, rfl, hS2, h02, h12, hl2, hb2⟩ := hq
  refine Ex.aload_n (pc := 34) dX10_feed_34 rfl rfl ?_
  refine Ex.iload (pc := 35) dX10_feed_35 rfl ?_
  refine Ex.callV (pc := 37) (As := [.int _]) (rest := []) dX10_feed_37 cX10_226 (tm_put (t := t + 12) h12 (by omega)) (sh36 _) rfl rfl (by decide) (Nat.le_refl _) (Nat.le_refl _) (Nat.le_of_ble_eq_true rfl) (Or.inl (fun r S' h => by obtain ⟨_, _, h, _⟩ := h; subst h; rfl)) (fun r S' hq _ _ => ?_)
  obtain ⟨J3, rfl, rfl, hS3, h03, h13, hl3, hb3⟩ := hq
  refine Ex.aload_n (pc := 40) dX10_feed_40 rfl rfl ?_
  refine Ex.iload (pc := 41) dX10_feed_41 rfl ?_
  refine Ex.callV (pc := 43) (As := [.int _]) (rest := []) dX10_feed_43 cX10_226 (tm_put (t := t + 16) h13 (by omega)) (sh36 _) rfl rfl (by decide) (Nat.le_refl _) (Nat.le_refl _) (Nat.le_of_ble_eq_true rfl) (Or.inl (fun r S' h => by obtain ⟨_, _, h, _⟩ := h; subst h; rfl)) (fun r S' hq _ _ => ?_)
  obtain ⟨J4, rfl, rfl, hS4, h04, h14, hl4, hb4⟩ := hq
  refine Ex.aload_n (pc := 46) dX10_feed_46 rfl rfl ?_
  refine Ex.getI (pc := 47) dX10_feed_47 fX10_13 (sh36 _) ?_
  refine Ex.iret (pc := 50) rfl rfl rfl dX10_feed_50 (Nat.le_refl _) (Nat.le_refl _) ?_
  refine ⟨_, by rw [h14], rfl, ?_, ?_, h14, ?_, ?_⟩
  · exact (((hS0.tr hS1 (l := [36, 37]) (by decide) (by decide)).tr hS2 (l := [36, 37]) (by decide) (by decide)).tr hS3 (l := [36, 37]) (by decide) (by decide)).tr hS4 (by decide) (by decide)
  · intro j hj; rw [h04 j hj, h03 j hj, h02 j hj, h01 j hj, h00 j hj]
  · intro i hi; rw [hl4 i (by omega), hl3 i (by omega), hl2 i (by omega), hl1 i (by omega), hl0 i (by omega)]
  · intro i hi
    unfold fe5
    by_cases g0 : i < 4
    · rw [if_pos g0, hl4 _ (by omega), hl3 _ (by omega), hl2 _ (by omega), hl1 _ (by omega)]; exact hb0 i g0
    · rw [if_neg g0]
      by_cases g1 : i < 8
      · rw [if_pos g1, hl4 _ (by omega), hl3 _ (by omega), hl2 _ (by omega), show t + i = t + 4 + (i - 4) by omega]; exact hb1 _ (by omega)
      · rw [if_neg g1]
        by_cases g2 : i < 12
        · rw [if_pos g2, hl4 _ (by omega), hl3 _ (by omega), show t + i = t + 8 + (i - 8) by omega]; exact hb2 _ (by omega)
        · rw [if_neg g2]
          by_cases g3 : i < 16
          · rw [if_pos g3, hl4 _ (by omega), show t + i = t + 12 + (i - 12) by omega]; exact hb3 _ (by omega)
          · rw [if_neg g3, show t + i = t + 16 + (i - 16) by omega]; exact hb4 _ (by omega)
set_option maxRecDepth 20000 in
theorem tm_end0 {N : Nat} {I : aI} {L : aL} {w : Int32} (h : w < 0 ∨ ¬ w ≤ I 36 1) : Run 1 0 0 mX10_end [.ref 36, .int w] (St N I L) (RI 0 (St N (refM I 0) L)) := by
  refine Run.of (ls := [some (.ref 36), some (.int _)]) (by decide) (Nat.le_of_ble_eq_true rfl) rfl ?_
  refine Ex.iload_n (pc := 0) dX10_end_0 rfl rfl ?_
  refine Ex.if_lt (pc := 1) (tgt := 12) dX10_end_1 (by decide) (fun c1 => ?_) (fun c1 => ?_)
  · skip
    refine Ex.aload_n (pc := 12) dX10_end_12 rfl rfl ?_
    refine Ex.iconst (pc := 13) (v := 0) dX10_end_13 rfl ?_
    refine Ex.callV (pc := 14) (As := [.int 0]) (rest := []) dX10_end_14 cX10_222 (tm_refuses (k := 0) (by decide)) (sh36 _) rfl rfl (by decide) (Nat.le_refl _) (Nat.le_refl _) (Nat.le_of_ble_eq_true rfl) (Or.inl (fun r S' h => by obtain ⟨_, h⟩ := h; subst h; rfl)) (fun r S' hq _ _ => ?_)
    obtain ⟨rfl, rfl⟩ := hq
    refine Ex.if_lt (pc := 17) (tgt := 24) dX10_end_17 (by decide) (fun _ => ?_) (fun c17 => absurd (by decide) c17)
    refine Ex.iconst (pc := 24) (v := 0) dX10_end_24 rfl ?_
    refine Ex.iret (pc := 25) rfl rfl rfl dX10_end_25 (Nat.le_refl _) (Nat.le_refl _) ?_
    exact ⟨rfl, rfl⟩
  · skip
    refine Ex.iload_n (pc := 4) dX10_end_4 rfl rfl ?_
    refine Ex.aload_n (pc := 5) dX10_end_5 rfl rfl ?_
    refine Ex.getI (pc := 6) dX10_end_6 fX10_13 (sh36 _) ?_
    refine Ex.icmp_le (pc := 9) (tgt := 26) dX10_end_9 (by decide) (fun c9 => ?_) (fun c9 => ?_)
    · skip
      exact absurd h (fun q => q.elim c1 (fun q2 => q2 c9))
    · skip
      refine Ex.aload_n (pc := 12) dX10_end_12 rfl rfl ?_
      refine Ex.iconst (pc := 13) (v := 0) dX10_end_13 rfl ?_
      refine Ex.callV (pc := 14) (As := [.int 0]) (rest := []) dX10_end_14 cX10_222 (tm_refuses (k := 0) (by decide)) (sh36 _) rfl rfl (by decide) (Nat.le_refl _) (Nat.le_refl _) (Nat.le_of_ble_eq_true rfl) (Or.inl (fun r S' h => by obtain ⟨_, h⟩ := h; subst h; rfl)) (fun r S' hq _ _ => ?_)
      obtain ⟨rfl, rfl⟩ := hq
      refine Ex.if_lt (pc := 17) (tgt := 24) dX10_end_17 (by decide) (fun _ => ?_) (fun c17 => absurd (by decide) c17)
      refine Ex.iconst (pc := 24) (v := 0) dX10_end_24 rfl ?_
      refine Ex.iret (pc := 25) rfl rfl rfl dX10_end_25 (Nat.le_refl _) (Nat.le_refl _) ?_
      exact ⟨rfl, rfl⟩
set_option maxRecDepth 20000 in
theorem tm_end1 {N : Nat} {I : aI} {L : aL} {w : Int32} (h1 : ¬ w < 0) (h2 : w ≤ I 36 1) : Run 1 0 0 mX10_end [.ref 36, .int w] (St N I L) (RI 1 (St N (va_up I 36 (upd (I 36) 1 w)) L)) := by
  refine Run.of (ls := [some (.ref 36), some (.int _)]) (by decide) (Nat.le_of_ble_eq_true rfl) rfl ?_
  refine Ex.iload_n (pc := 0) dX10_end_0 rfl rfl ?_
  refine Ex.if_lt (pc := 1) (tgt := 12) dX10_end_1 (by decide) (fun c1 => absurd c1 h1) (fun _ => ?_)
  refine Ex.iload_n (pc := 4) dX10_end_4 rfl rfl ?_
  refine Ex.aload_n (pc := 5) dX10_end_5 rfl rfl ?_
  refine Ex.getI (pc := 6) dX10_end_6 fX10_13 (sh36 _) ?_
  refine Ex.icmp_le (pc := 9) (tgt := 26) dX10_end_9 (by decide) (fun _ => ?_) (fun c9 => absurd h2 c9)
  refine Ex.aload_n (pc := 26) dX10_end_26 rfl rfl ?_
  refine Ex.iload_n (pc := 27) dX10_end_27 rfl rfl ?_
  refine Ex.putI (pc := 28) dX10_end_28 fX10_13 (sh36 _) (Or.inl rfl) ⟨rfl, rfl⟩ ?_
  refine Ex.iconst (pc := 31) (v := 1) dX10_end_31 rfl ?_
  refine Ex.iret (pc := 32) rfl rfl rfl dX10_end_32 (Nat.le_refl _) (Nat.le_refl _) ?_
  exact ⟨rfl, rfl⟩
set_option maxRecDepth 20000 in
theorem tm_writes {N : Nat} {I : aI} {L : aL} {n : Nat} {v u : Int32} (hn : I 36 68 = nI n) (h : n < 40) (hv : v &&& 255 = u) : Run 0 0 0 mX10_writes [.ref 36, .int v] (St N I L) (RP none N L (fun I2 => Sm [36, 80] I I2 ∧ (∀ j, j ≠ 68 → I2 36 j = I 36 j) ∧ I2 36 68 = nI (n + 1) ∧ I2 80 = upd (I 80) n u)) := by
  refine Run.of (ls := [some (.ref 36), some (.int _)]) (by decide) (Nat.le_of_ble_eq_true rfl) rfl ?_
  refine Ex.aload_n (pc := 0) dX10_writes_0 rfl rfl ?_
  refine Ex.getR (pc := 1) dX10_writes_1 fX10_216 (sh36 _) r36_67 ?_
  refine Ex.aload_n (pc := 4) dX10_writes_4 rfl rfl ?_
  refine Ex.getI (pc := 5) dX10_writes_5 fX10_219 (sh36 _) ?_
  refine Ex.iload_n (pc := 8) dX10_writes_8 rfl rfl ?_
  refine Ex.sipush (pc := 9) (v := 255) dX10_writes_9 rfl ?_
  refine Ex.iand (pc := 12) dX10_writes_12 ?_
  refine Ex.iast (pc := 13) (j := n) dX10_writes_13 (sh80 _) (by rw [hn]; exact vp_in_nI h (by decide)) (by rw [hn]; exact nI_clamp (by omega)) ?_
  refine Ex.aload_n (pc := 14) dX10_writes_14 rfl rfl ?_
  refine Ex.dup (pc := 15) dX10_writes_15 rfl ?_
  refine Ex.getI (pc := 16) dX10_writes_16 fX10_219 (sh36 _) ?_
  refine Ex.iconst (pc := 19) (v := 1) dX10_writes_19 rfl ?_
  refine Ex.iadd (pc := 20) dX10_writes_20 ?_
  refine Ex.putI (pc := 21) dX10_writes_21 fX10_219 (sh36 _) (Or.inl rfl) ⟨rfl, rfl⟩ ?_
  refine Ex.vret (pc := 24) rfl dX10_writes_24 (Nat.le_refl _) (Nat.le_refl _) ?_
  refine ⟨_, rfl, rfl, (Sm.rf.up (by decide)).up (by decide), ?_, ?_, ?_⟩
  · intro j hj; rw [va_up_s, upd_n hj, va_up_n (by decide)]
  · rw [va_up_s, upd_s, va_up_n (by decide), hn]; exact nI_1 n
  · rw [va_up_n (by decide), va_up_s, hv]
theorem le99_255 {d : Int32} (h : le99 d) : d &&& 255 = d := by
  obtain ⟨n, hn, rfl⟩ := h
  rw [pk_andN (by omega) 8 (by decide), Nat.mod_eq_of_lt (by omega)]
theorem nI255 {n : Nat} (h : n < 256) : nI n &&& 255 = nI n := by rw [pk_andN (by omega) 8 (by decide), Nat.mod_eq_of_lt (by omega)]
theorem ck_rng {f : Nat → Int32} : ∀ n, (∀ i, i < n → ∃ q, q < 256 ∧ f i = nI q) → ∃ c, c < 251 ∧ ckF f n = nI c
  | 0, _ => ⟨211, by decide, rfl⟩
  | n + 1, h => by
    obtain ⟨c, hc, e⟩ := ck_rng n (fun i hi => h i (by omega))
    obtain ⟨q, hq, e2⟩ := h n (by omega)
    refine ⟨(5 * c + q) % 251, Nat.mod_lt _ (by decide), ?_⟩
    show 5 * ckF f n + f n - (5 * ckF f n + f n) / 251 * 251 = _
    rw [e, e2, show (5 : Int32) * nI c = nI (5 * c) from pk_mul 5 c, nI_add]
    exact pk_rem (d := 251) (by omega) (by decide) (by decide)
theorem bit01 {b : Int32} {k : Nat} : bI (hb1 b k) = b >>> (nI k &&& 31) &&& 1 := by
  unfold hb1
  obtain ⟨j, hj, e⟩ := pk_andE (b >>> (nI k &&& 31)) (m := 1) 1 (by decide)
  rw [e]
  rcases (show j = 0 ∨ j = 1 by omega) with rfl | rfl
  · rfl
  · rfl
theorem imB_b {x : aX} {nb ns : Nat} (h : XG nb ns x) : ∀ i, ∃ q, q < 256 ∧ imB x nb ns i = nI q := by
  obtain ⟨⟨b1, b2⟩, -, -, ⟨w, hw, e⟩, ⟨q, hq, eq⟩, -⟩ := h
  intro i
  unfold imB
  split
  · exact ⟨w / 256, by omega, by rw [e]; exact pk_div (d := 256) (by omega) (by decide) (by decide)⟩
  · split
    · exact ⟨w % 256, by omega, by rw [e]; exact pk_rem (d := 256) (by omega) (by decide) (by decide)⟩
    · split
      · exact ⟨q, by omega, eq⟩
      · split
        · obtain ⟨m, hm, e⟩ := b1 (i - 3); exact ⟨m, by omega, e⟩
        · split
          · obtain ⟨m, hm, e⟩ := b2 (i - 3 - nb); exact ⟨m, by omega, e⟩
          · obtain ⟨j, hj, e⟩ := pk_andE (x.2.2.1 >>> (nI (i - 3 - nb - ns) &&& 31)) (m := 1) 1 (by decide)
            exact ⟨j, by omega, e⟩
set_option maxRecDepth 20000 in
theorem tm_image {N : Nat} {I : aI} {L : aL} {p : aP} {bk nb ns nh : Nat} {f5 f6 : Nat → Int32} {x : aX} {rs : List aRow} (hR : RS I bk nb ns nh p f5 f6 x rs) : Run 1 0 0 mX10_image [.ref 36] (St N I L) (RP (some (.int (nI (3 + nb + ns + nh + 1)))) N L (fun I2 => Sm [36, 80] I I2 ∧ (∀ j, j ≠ 68 → I2 36 j = I 36 j) ∧ I2 36 68 = nI (3 + nb + ns + nh + 1) ∧ (∀ i, i < (3 + nb + ns + nh) → I2 80 i = (imB x nb ns) i) ∧ I2 80 (3 + nb + ns + nh) = ckF (imB x nb ns) (3 + nb + ns + nh))) := by
  refine Run.of (ls := [some (.ref 36), none, none]) (by decide) (Nat.le_of_ble_eq_true rfl) rfl ?_
  obtain ⟨hP, hX, hK, hG, hrb⟩ := id hR
  obtain ⟨⟨h1, h2, hnb, hns, hnh, hcb, hcs, hch⟩, -⟩ := id hP
  obtain ⟨x1, x2, x3, x4, x5⟩ := id hX
  obtain ⟨w0, hw9, hw0⟩ := hG.2.2.2.1
  have hFb := imB_b hG
  have fr : ∀ I2 : aI, Sm [36, 80] I I2 → (∀ j, j ≠ 68 → I2 36 j = I 36 j) → RefB I2 bk nb ns nh := fun I2 hS h => hP.1.sm hS (h 13 (by decide)) (by decide) (by decide) (by decide)
  have b0 : nI w0 >>> ((8 : Int32) &&& 31) &&& 255 = (imB x nb ns) 0 := by
    rw [pk_shrN (by omega) _ 8 (by decide), nI255 (by omega)]
    show _ = x.1 / 256
    rw [hw0]; exact (pk_div (d := 256) (by omega) (by decide) (by decide)).symm
  have b1 : nI w0 &&& 255 = (imB x nb ns) 1 := by
    rw [pk_andN (by omega) 8 (by decide)]
    show _ = x.1 - x.1 / 256 * 256
    rw [hw0]; exact (pk_rem (d := 256) (by omega) (by decide) (by decide)).symm
  have b2 : x.2.1 &&& 255 = (imB x nb ns) 2 := le99_255 hG.2.2.2.2.1
  have bz : ∀ k, k < nb → x.2.2.2.1 k &&& 255 = (imB x nb ns) (3 + k) := fun k hk => by
    rw [le99_255 (hG.1.1 k)]
    unfold imB
    rw [if_neg (by omega), if_neg (by omega), if_neg (by omega), if_pos (by omega), show 3 + k - 3 = k by omega]
  have bd : ∀ k, k < ns → x.2.2.2.2 k &&& 255 = (imB x nb ns) (3 + nb + k) := fun k hk => by
    rw [le99_255 (hG.1.2 k)]
    unfold imB
    rw [if_neg (by omega), if_neg (by omega), if_neg (by omega), if_neg (by omega), if_pos (by omega), show 3 + nb + k - 3 - nb = k by omega]
  have bh : ∀ k, bI (hb1 x.2.2.1 k) &&& 255 = (imB x nb ns) (3 + nb + ns + k) := fun k => by
    rw [show bI (hb1 x.2.2.1 k) &&& 255 = bI (hb1 x.2.2.1 k) from by cases hb1 x.2.2.1 k <;> rfl, bit01]
    unfold imB
    rw [if_neg (by omega), if_neg (by omega), if_neg (by omega), if_neg (by omega), if_neg (by omega), show 3 + nb + ns + k - 3 - nb - ns = k by omega]
  refine Ex.aload_n (pc := 0) dX10_image_0 rfl rfl ?_
  refine Ex.iconst (pc := 1) (v := 0) dX10_image_1 rfl ?_
  refine Ex.putI (pc := 2) dX10_image_2 fX10_219 (sh36 _) (Or.inl rfl) ⟨rfl, rfl⟩ ?_
  refine Ex.aload_n (pc := 5) dX10_image_5 rfl rfl ?_
  refine Ex.aload_n (pc := 6) dX10_image_6 rfl rfl ?_
  refine Ex.getR (pc := 7) dX10_image_7 fX10_153 (sh36 _) r36_46 ?_
  refine Ex.iconst (pc := 10) (v := 0) dX10_image_10 rfl ?_
  refine Ex.iald (pc := 11) (j := 0) dX10_image_11 (sh63 _) (by unfold vp_in; decide) (by decide) ?_
  rw [va_up_n (show (63 : Nat) ≠ 36 by decide), x1, hw0]
  refine Ex.bipush (pc := 12) (v := 8) dX10_image_12 rfl ?_
  refine Ex.ishr (pc := 14) dX10_image_14 ?_
  refine Ex.callV (pc := 15) (As := [.int _]) (rest := []) dX10_image_15 cX10_533 (tm_writes (n := 0) (u := (imB x nb ns) 0) (by rw [va_up_s, upd_s]; rfl) (by decide) b0) (sh36 _) rfl rfl (by decide) (Nat.le_refl _) (Nat.le_refl _) (Nat.le_of_ble_eq_true rfl) (Or.inl (fun r S' h => by obtain ⟨_, _, h, _⟩ := h; subst h; rfl)) (fun r S' hq _ _ => ?_)
  obtain ⟨I1, rfl, rfl, s1, a1, c1, d1⟩ := hq
  refine Ex.aload_n (pc := 18) dX10_image_18 rfl rfl ?_
  refine Ex.aload_n (pc := 19) dX10_image_19 rfl rfl ?_
  refine Ex.getR (pc := 20) dX10_image_20 fX10_153 (sh36 _) r36_46 ?_
  refine Ex.iconst (pc := 23) (v := 0) dX10_image_23 rfl ?_
  refine Ex.iald (pc := 24) (j := 0) dX10_image_24 (sh63 _) (by unfold vp_in; decide) (by decide) ?_
  rw [s1 63 (by decide), va_up_n (show (63 : Nat) ≠ 36 by decide), x1, hw0]
  refine Ex.callV (pc := 25) (As := [.int _]) (rest := []) dX10_image_25 cX10_533 (tm_writes (n := 1) (u := (imB x nb ns) 1) c1 (by decide) b1) (sh36 _) rfl rfl (by decide) (Nat.le_refl _) (Nat.le_refl _) (Nat.le_of_ble_eq_true rfl) (Or.inl (fun r S' h => by obtain ⟨_, _, h, _⟩ := h; subst h; rfl)) (fun r S' hq _ _ => ?_)
  obtain ⟨I2, rfl, rfl, s2, a2, c2, d2⟩ := hq
  refine Ex.aload_n (pc := 28) dX10_image_28 rfl rfl ?_
  refine Ex.aload_n (pc := 29) dX10_image_29 rfl rfl ?_
  refine Ex.getR (pc := 30) dX10_image_30 fX10_156 (sh36 _) r36_47 ?_
  refine Ex.iconst (pc := 33) (v := 0) dX10_image_33 rfl ?_
  refine Ex.iald (pc := 34) (j := 0) dX10_image_34 (sh64 _) (by unfold vp_in; decide) (by decide) ?_
  rw [s2 64 (by decide), s1 64 (by decide), va_up_n (show (64 : Nat) ≠ 36 by decide), x2]
  refine Ex.callV (pc := 35) (As := [.int _]) (rest := []) dX10_image_35 cX10_533 (tm_writes (n := 2) (u := (imB x nb ns) 2) c2 (by decide) b2) (sh36 _) rfl rfl (by decide) (Nat.le_refl _) (Nat.le_refl _) (Nat.le_of_ble_eq_true rfl) (Or.inl (fun r S' h => by obtain ⟨_, _, h, _⟩ := h; subst h; rfl)) (fun r S' hq _ _ => ?_)
  obtain ⟨I3, rfl, rfl, s3, a3, c3, d3⟩ := hq
  refine Ex.iconst (pc := 38) (v := 0) dX10_image_38 rfl ?_
  refine Ex.istore_n (pc := 39) (ls' := [some (.ref 36), some (.int 0), none]) dX10_image_39 rfl (by decide) rfl rfl ?_
  refine Ex.le (ls' := [some (.ref 36), some (.int 0), none]) ⟨rfl, rfl, trivial⟩ ?_
  refine forUp (σ := aI) (P := fun k I2 => Ex 1 0 0 mX10_image 0 0 40 [some (.ref 36), some (.int (nI k)), none] [] (St N I2 L) _) (Inv := fun k I2 => Sm [36, 80] I I2 ∧ (∀ j, j ≠ 68 → I2 36 j = I 36 j) ∧ I2 36 68 = nI (3 + k) ∧ ∀ i, i < 3 + k → I2 80 i = (imB x nb ns) i) nb ?_ ?_ 0 _ (Nat.zero_le _) ⟨?_, ?_, c3, ?_⟩
  · rintro I2 ⟨hS, h36, h68, hr⟩
    obtain ⟨-, hb2, -, -, -, e38, e41, e44⟩ := id (fr I2 hS h36)
    refine Ex.iload_n (pc := 40) dX10_image_40 rfl rfl ?_
    refine Ex.aload_n (pc := 41) dX10_image_41 rfl rfl ?_
    refine Ex.getR (pc := 42) dX10_image_42 fX10_54 (sh36 _) r36_14 ?_
    refine Ex.aload_n (pc := 45) dX10_image_45 rfl rfl ?_
    refine Ex.getI (pc := 46) dX10_image_46 fX10_51 (sh36 _) ?_
    refine Ex.iald (pc := 49) (j := bk) dX10_image_49 (sh38 _) (ixX hb2 h1 (by decide)) (ixX2 hb2 (by omega)) ?_
    rw [e38]
    refine Ex.icmp_ge (pc := 50) (tgt := 69) dX10_image_50 (by decide) (fun _ => ?_) (fun c50 => absurd (nI_le (Nat.le_refl _) (by omega)) c50)
    refine Ex.iconst (pc := 69) (v := 0) dX10_image_69 rfl ?_
    refine Ex.istore_n (pc := 70) (ls' := [some (.ref 36), some (.int 0), none]) dX10_image_70 rfl (by decide) rfl rfl ?_
    refine forUp (σ := aI) (P := fun k I2 => Ex 1 0 0 mX10_image 0 0 71 [some (.ref 36), some (.int (nI k)), none] [] (St N I2 L) _) (Inv := fun k I2 => Sm [36, 80] I I2 ∧ (∀ j, j ≠ 68 → I2 36 j = I 36 j) ∧ I2 36 68 = nI (3 + nb + k) ∧ ∀ i, i < 3 + nb + k → I2 80 i = (imB x nb ns) i) ns ?_ ?_ 0 _ (Nat.zero_le _) ⟨hS, h36, h68, hr⟩
    · rintro I2 ⟨hS, h36, h68, hr⟩
      obtain ⟨-, hb2, -, -, -, e38, e41, e44⟩ := id (fr I2 hS h36)
      refine Ex.iload_n (pc := 71) dX10_image_71 rfl rfl ?_
      refine Ex.aload_n (pc := 72) dX10_image_72 rfl rfl ?_
      refine Ex.getR (pc := 73) dX10_image_73 fX10_63 (sh36 _) r36_17 ?_
      refine Ex.aload_n (pc := 76) dX10_image_76 rfl rfl ?_
      refine Ex.getI (pc := 77) dX10_image_77 fX10_51 (sh36 _) ?_
      refine Ex.iald (pc := 80) (j := bk) dX10_image_80 (sh41 _) (ixX hb2 h1 (by decide)) (ixX2 hb2 (by omega)) ?_
      rw [e41]
      refine Ex.icmp_ge (pc := 81) (tgt := 100) dX10_image_81 (by decide) (fun _ => ?_) (fun c81 => absurd (nI_le (Nat.le_refl _) (by omega)) c81)
      refine Ex.iconst (pc := 100) (v := 0) dX10_image_100 rfl ?_
      refine Ex.istore_n (pc := 101) (ls' := [some (.ref 36), some (.int 0), none]) dX10_image_101 rfl (by decide) rfl rfl ?_
      refine forUp (σ := aI) (P := fun k I2 => Ex 1 0 0 mX10_image 0 0 102 [some (.ref 36), some (.int (nI k)), none] [] (St N I2 L) _) (Inv := fun k I2 => Sm [36, 80] I I2 ∧ (∀ j, j ≠ 68 → I2 36 j = I 36 j) ∧ I2 36 68 = nI (3 + nb + ns + k) ∧ ∀ i, i < 3 + nb + ns + k → I2 80 i = (imB x nb ns) i) nh ?_ ?_ 0 _ (Nat.zero_le _) ⟨hS, h36, h68, hr⟩
      · rintro I2 ⟨hS, h36, h68, hr⟩
        obtain ⟨-, hb2, -, -, -, e38, e41, e44⟩ := id (fr I2 hS h36)
        refine Ex.iload_n (pc := 102) dX10_image_102 rfl rfl ?_
        refine Ex.aload_n (pc := 103) dX10_image_103 rfl rfl ?_
        refine Ex.getR (pc := 104) dX10_image_104 fX10_72 (sh36 _) r36_20 ?_
        refine Ex.aload_n (pc := 107) dX10_image_107 rfl rfl ?_
        refine Ex.getI (pc := 108) dX10_image_108 fX10_51 (sh36 _) ?_
        refine Ex.iald (pc := 111) (j := bk) dX10_image_111 (sh44 _) (ixX hb2 h1 (by decide)) (ixX2 hb2 (by omega)) ?_
        rw [e44]
        refine Ex.icmp_ge (pc := 112) (tgt := 143) dX10_image_112 (by decide) (fun _ => ?_) (fun c112 => absurd (nI_le (Nat.le_refl _) (by omega)) c112)
        refine Ex.sipush (pc := 143) (v := 211) dX10_image_143 rfl ?_
        refine Ex.istore_n (pc := 146) (ls' := [some (.ref 36), some (.int 211), none]) dX10_image_146 rfl (by decide) rfl rfl ?_
        refine Ex.iconst (pc := 147) (v := 0) dX10_image_147 rfl ?_
        refine Ex.istore_n (pc := 148) (ls' := [some (.ref 36), some (.int 211), some (.int 0)]) dX10_image_148 rfl (by decide) rfl rfl ?_
        refine forUp (σ := Unit) (P := fun k _ => Ex 1 0 0 mX10_image 0 0 149 [some (.ref 36), some (.int (ckF (imB x nb ns) k)), some (.int (nI k))] [] (St N I2 L) _) (Inv := fun _ _ => True) (3 + nb + ns + nh) ?_ ?_ 0 () (Nat.zero_le _) trivial
        · rintro - -
          obtain ⟨c, hc, ec⟩ := ck_rng (3 + nb + ns + nh) (fun i _ => hFb i)
          refine Ex.iload_n (pc := 149) dX10_image_149 rfl rfl ?_
          refine Ex.aload_n (pc := 150) dX10_image_150 rfl rfl ?_
          refine Ex.getI (pc := 151) dX10_image_151 fX10_219 (sh36 _) ?_
          refine Ex.icmp_ge (pc := 154) (tgt := 178) dX10_image_154 (by decide) (fun _ => ?_) (fun c154 => absurd (by rw [h68]; exact nI_le (Nat.le_refl _) (by omega)) c154)
          refine Ex.aload_n (pc := 178) dX10_image_178 rfl rfl ?_
          refine Ex.iload_n (pc := 179) dX10_image_179 rfl rfl ?_
          refine Ex.callV (pc := 180) (As := [.int _]) (rest := []) dX10_image_180 cX10_533 (tm_writes (n := (3 + nb + ns + nh)) (u := ckF (imB x nb ns) (3 + nb + ns + nh)) h68 (by omega) (by rw [ec]; exact nI255 (by omega))) (sh36 _) rfl rfl (by decide) (Nat.le_refl _) (Nat.le_refl _) (Nat.le_of_ble_eq_true rfl) (Or.inl (fun r S' h => by obtain ⟨_, _, h, _⟩ := h; subst h; rfl)) (fun r S' hq _ _ => ?_)
          obtain ⟨I3, rfl, rfl, s3, a3, c3, d3⟩ := hq
          refine Ex.aload_n (pc := 183) dX10_image_183 rfl rfl ?_
          refine Ex.getI (pc := 184) dX10_image_184 fX10_219 (sh36 _) ?_
          refine Ex.iret (pc := 187) rfl rfl rfl dX10_image_187 (Nat.le_refl _) (Nat.le_refl _) ?_
          refine ⟨_, by rw [c3], rfl, hS.tr s3 (by decide) (by decide), fun j hj => (a3 j hj).trans (h36 j hj), c3, ?_, ?_⟩
          · intro i hi; rw [d3, upd_n (by omega)]; exact hr i hi
          · rw [d3, upd_s]
        · rintro k - hk - ih
          refine Ex.iload_n (pc := 149) dX10_image_149 rfl rfl ?_
          refine Ex.aload_n (pc := 150) dX10_image_150 rfl rfl ?_
          refine Ex.getI (pc := 151) dX10_image_151 fX10_219 (sh36 _) ?_
          refine Ex.icmp_ge (pc := 154) (tgt := 178) dX10_image_154 (by decide) (fun c154 => absurd c154 (by rw [h68]; exact nI_ge hk (by omega))) (fun _ => ?_)
          refine Ex.iconst (pc := 157) (v := 5) dX10_image_157 rfl ?_
          refine Ex.iload_n (pc := 158) dX10_image_158 rfl rfl ?_
          refine Ex.imul (pc := 159) dX10_image_159 ?_
          refine Ex.aload_n (pc := 160) dX10_image_160 rfl rfl ?_
          refine Ex.getR (pc := 161) dX10_image_161 fX10_216 (sh36 _) r36_67 ?_
          refine Ex.iload_n (pc := 164) dX10_image_164 rfl rfl ?_
          refine Ex.iald (pc := 165) (j := k) dX10_image_165 (sh80 _) (vp_in_nI (by omega) (by decide)) (ixN2 (by omega)) ?_
          refine Ex.iadd (pc := 166) dX10_image_166 ?_
          refine Ex.sipush (pc := 167) (v := 251) dX10_image_167 rfl ?_
          refine Ex.irem (pc := 170) dX10_image_170 (by decide) ?_
          refine Ex.istore_n (pc := 171) (ls' := [some (.ref 36), some (.int _), some (.int _)]) dX10_image_171 rfl (by decide) rfl rfl ?_
          refine Ex.iinc (pc := 172) (ls' := [some (.ref 36), some (.int _), some (.int _)]) dX10_image_172 rfl rfl (by decide) rfl rfl ?_
          refine Ex.goto (pc := 175) (tgt := 149) dX10_image_175 (by decide) ?_
          rw [show nI k + Int32.ofInt 1 = nI (k + 1) from nI_1 k]
          refine Ex.le (ls' := [some (.ref 36), some (.int (ckF (imB x nb ns) (k + 1))), some (.int (nI (k + 1)))]) ⟨rfl, ?_, rfl, trivial⟩ (ih () trivial)
          rw [hr k hk]; rfl
      · rintro k I2 hk ⟨hS, h36, h68, hr⟩ ih
        obtain ⟨-, hb2, -, -, -, e38, e41, e44⟩ := id (fr I2 hS h36)
        refine Ex.iload_n (pc := 102) dX10_image_102 rfl rfl ?_
        refine Ex.aload_n (pc := 103) dX10_image_103 rfl rfl ?_
        refine Ex.getR (pc := 104) dX10_image_104 fX10_72 (sh36 _) r36_20 ?_
        refine Ex.aload_n (pc := 107) dX10_image_107 rfl rfl ?_
        refine Ex.getI (pc := 108) dX10_image_108 fX10_51 (sh36 _) ?_
        refine Ex.iald (pc := 111) (j := bk) dX10_image_111 (sh44 _) (ixX hb2 h1 (by decide)) (ixX2 hb2 (by omega)) ?_
        rw [e44]
        refine Ex.icmp_ge (pc := 112) (tgt := 143) dX10_image_112 (by decide) (fun c112 => absurd c112 (nI_ge hk (by omega))) (fun _ => ?_)
        refine Ex.aload_n (pc := 115) dX10_image_115 rfl rfl ?_
        refine Ex.aload_n (pc := 116) dX10_image_116 rfl rfl ?_
        refine Ex.getR (pc := 117) dX10_image_117 fX10_165 (sh36 _) r36_50 ?_
        refine Ex.iconst (pc := 120) (v := 0) dX10_image_120 rfl ?_
        refine Ex.iald (pc := 121) (j := 0) dX10_image_121 (sh67 _) (by unfold vp_in; decide) (by decide) ?_
        rw [hS 67 (by decide), x3]
        refine Ex.iload_n (pc := 122) dX10_image_122 rfl rfl ?_
        refine Ex.callS (pc := 123) (As := [.int _, .int _]) (rest := [.ref 36]) dX10_image_123 cX10_445 tm_has2 rfl rfl (by decide) (Nat.le_refl _) (Nat.le_refl _) (Nat.le_of_ble_eq_true rfl) (Or.inl (fun r S' h => by obtain ⟨_, h⟩ := h; subst h; rfl)) (fun r S' hq _ _ => ?_)
        obtain ⟨rfl, rfl⟩ := hq
        refine Ex.if_eq (pc := 126) (tgt := 133) dX10_image_126 (by decide) (fun c126 => ?_) (fun c126 => ?_)
        · skip
          refine Ex.iconst (pc := 133) (v := 0) dX10_image_133 rfl ?_
          refine Ex.callV (pc := 134) (As := [.int 0]) (rest := []) dX10_image_134 cX10_533 (tm_writes (n := 3 + nb + ns + k) (u := (imB x nb ns) (3 + nb + ns + k)) h68 (by omega) (by rw [← bh k, bI_0 c126]; rfl)) (sh36 _) rfl rfl (by decide) (Nat.le_refl _) (Nat.le_refl _) (Nat.le_of_ble_eq_true rfl) (Or.inl (fun r S' h => by obtain ⟨_, _, h, _⟩ := h; subst h; rfl)) (fun r S' hq _ _ => ?_)
          obtain ⟨I3, rfl, rfl, s3, a3, c3, d3⟩ := hq
          refine Ex.iinc (pc := 137) (ls' := [some (.ref 36), some (.int _), none]) dX10_image_137 rfl rfl (by decide) rfl rfl ?_
          refine Ex.goto (pc := 140) (tgt := 102) dX10_image_140 (by decide) ?_
          rw [show nI k + Int32.ofInt 1 = nI (k + 1) from nI_1 k]
          refine ih I3 ⟨hS.tr s3 (by decide) (by decide), fun j hj => (a3 j hj).trans (h36 j hj), c3, ?_⟩
          rw [d3]
          exact rows_up (m := 3 + nb + ns + k) hr rfl
        · skip
          refine Ex.iconst (pc := 129) (v := 1) dX10_image_129 rfl ?_
          refine Ex.goto (pc := 130) (tgt := 134) dX10_image_130 (by decide) ?_
          refine Ex.callV (pc := 134) (As := [.int 1]) (rest := []) dX10_image_134 cX10_533 (tm_writes (n := 3 + nb + ns + k) (u := (imB x nb ns) (3 + nb + ns + k)) h68 (by omega) (by rw [← bh k, bI_1 c126]; rfl)) (sh36 _) rfl rfl (by decide) (Nat.le_refl _) (Nat.le_refl _) (Nat.le_of_ble_eq_true rfl) (Or.inl (fun r S' h => by obtain ⟨_, _, h, _⟩ := h; subst h; rfl)) (fun r S' hq _ _ => ?_)
          obtain ⟨I3, rfl, rfl, s3, a3, c3, d3⟩ := hq
          refine Ex.iinc (pc := 137) (ls' := [some (.ref 36), some (.int _), none]) dX10_image_137 rfl rfl (by decide) rfl rfl ?_
          refine Ex.goto (pc := 140) (tgt := 102) dX10_image_140 (by decide) ?_
          rw [show nI k + Int32.ofInt 1 = nI (k + 1) from nI_1 k]
          refine ih I3 ⟨hS.tr s3 (by decide) (by decide), fun j hj => (a3 j hj).trans (h36 j hj), c3, ?_⟩
          rw [d3]
          exact rows_up (m := 3 + nb + ns + k) hr rfl
    · rintro k I2 hk ⟨hS, h36, h68, hr⟩ ih
      obtain ⟨-, hb2, -, -, -, e38, e41, e44⟩ := id (fr I2 hS h36)
      refine Ex.iload_n (pc := 71) dX10_image_71 rfl rfl ?_
      refine Ex.aload_n (pc := 72) dX10_image_72 rfl rfl ?_
      refine Ex.getR (pc := 73) dX10_image_73 fX10_63 (sh36 _) r36_17 ?_
      refine Ex.aload_n (pc := 76) dX10_image_76 rfl rfl ?_
      refine Ex.getI (pc := 77) dX10_image_77 fX10_51 (sh36 _) ?_
      refine Ex.iald (pc := 80) (j := bk) dX10_image_80 (sh41 _) (ixX hb2 h1 (by decide)) (ixX2 hb2 (by omega)) ?_
      rw [e41]
      refine Ex.icmp_ge (pc := 81) (tgt := 100) dX10_image_81 (by decide) (fun c81 => absurd c81 (nI_ge hk (by omega))) (fun _ => ?_)
      refine Ex.aload_n (pc := 84) dX10_image_84 rfl rfl ?_
      refine Ex.aload_n (pc := 85) dX10_image_85 rfl rfl ?_
      refine Ex.getR (pc := 86) dX10_image_86 fX10_162 (sh36 _) r36_49 ?_
      refine Ex.iload_n (pc := 89) dX10_image_89 rfl rfl ?_
      refine Ex.iald (pc := 90) (j := k) dX10_image_90 (sh66 _) (vp_in_nI (by omega) (by decide)) (ixN2 (by omega)) ?_
      rw [hS 66 (by decide), show I 66 k = x.2.2.2.2 k from by have := x5 k hk; rw [show 6 * 0 + k = k by omega] at this; exact this]
      refine Ex.callV (pc := 91) (As := [.int _]) (rest := []) dX10_image_91 cX10_533 (tm_writes (n := 3 + nb + k) (u := (imB x nb ns) (3 + nb + k)) h68 (by omega) (bd k hk)) (sh36 _) rfl rfl (by decide) (Nat.le_refl _) (Nat.le_refl _) (Nat.le_of_ble_eq_true rfl) (Or.inl (fun r S' h => by obtain ⟨_, _, h, _⟩ := h; subst h; rfl)) (fun r S' hq _ _ => ?_)
      obtain ⟨I3, rfl, rfl, s3, a3, c3, d3⟩ := hq
      refine Ex.iinc (pc := 94) (ls' := [some (.ref 36), some (.int _), none]) dX10_image_94 rfl rfl (by decide) rfl rfl ?_
      refine Ex.goto (pc := 97) (tgt := 71) dX10_image_97 (by decide) ?_
      rw [show nI k + Int32.ofInt 1 = nI (k + 1) from nI_1 k]
      refine ih I3 ⟨hS.tr s3 (by decide) (by decide), fun j hj => (a3 j hj).trans (h36 j hj), c3, ?_⟩
      rw [d3]
      exact rows_up (m := 3 + nb + k) hr rfl
  · rintro k I2 hk ⟨hS, h36, h68, hr⟩ ih
    obtain ⟨-, hb2, -, -, -, e38, e41, e44⟩ := id (fr I2 hS h36)
    refine Ex.iload_n (pc := 40) dX10_image_40 rfl rfl ?_
    refine Ex.aload_n (pc := 41) dX10_image_41 rfl rfl ?_
    refine Ex.getR (pc := 42) dX10_image_42 fX10_54 (sh36 _) r36_14 ?_
    refine Ex.aload_n (pc := 45) dX10_image_45 rfl rfl ?_
    refine Ex.getI (pc := 46) dX10_image_46 fX10_51 (sh36 _) ?_
    refine Ex.iald (pc := 49) (j := bk) dX10_image_49 (sh38 _) (ixX hb2 h1 (by decide)) (ixX2 hb2 (by omega)) ?_
    rw [e38]
    refine Ex.icmp_ge (pc := 50) (tgt := 69) dX10_image_50 (by decide) (fun c50 => absurd c50 (nI_ge hk (by omega))) (fun _ => ?_)
    refine Ex.aload_n (pc := 53) dX10_image_53 rfl rfl ?_
    refine Ex.aload_n (pc := 54) dX10_image_54 rfl rfl ?_
    refine Ex.getR (pc := 55) dX10_image_55 fX10_159 (sh36 _) r36_48 ?_
    refine Ex.iload_n (pc := 58) dX10_image_58 rfl rfl ?_
    refine Ex.iald (pc := 59) (j := k) dX10_image_59 (sh65 _) (vp_in_nI (by omega) (by decide)) (ixN2 (by omega)) ?_
    rw [hS 65 (by decide), show I 65 k = x.2.2.2.1 k from by have := x4 k hk; rw [show 5 * 0 + k = k by omega] at this; exact this]
    refine Ex.callV (pc := 60) (As := [.int _]) (rest := []) dX10_image_60 cX10_533 (tm_writes (n := 3 + k) (u := (imB x nb ns) (3 + k)) h68 (by omega) (bz k hk)) (sh36 _) rfl rfl (by decide) (Nat.le_refl _) (Nat.le_refl _) (Nat.le_of_ble_eq_true rfl) (Or.inl (fun r S' h => by obtain ⟨_, _, h, _⟩ := h; subst h; rfl)) (fun r S' hq _ _ => ?_)
    obtain ⟨I3, rfl, rfl, s3, a3, c3, d3⟩ := hq
    refine Ex.iinc (pc := 63) (ls' := [some (.ref 36), some (.int _), none]) dX10_image_63 rfl rfl (by decide) rfl rfl ?_
    refine Ex.goto (pc := 66) (tgt := 40) dX10_image_66 (by decide) ?_
    rw [show nI k + Int32.ofInt 1 = nI (k + 1) from nI_1 k]
    refine ih I3 ⟨hS.tr s3 (by decide) (by decide), fun j hj => (a3 j hj).trans (h36 j hj), c3, ?_⟩
    rw [d3]
    exact rows_up (m := 3 + k) hr rfl
  · exact (((Sm.rf.up (by decide) : Sm [36, 80] I _).tr s1 (l := [36, 80]) (by decide) (by decide)).tr s2 (l := [36, 80]) (by decide) (by decide)).tr s3 (by decide) (by decide)
  · intro j hj; rw [a3 j hj, a2 j hj, a1 j hj, va_up_s, upd_n hj]
  · intro i hi
    rw [d3]
    refine rows_up (m := 2) ?_ rfl i (by omega)
    rw [d2]
    refine rows_up (m := 1) ?_ rfl
    rw [d1]
    exact rows_up (m := 0) (fun i hi => absurd hi (Nat.not_lt_zero _)) rfl
