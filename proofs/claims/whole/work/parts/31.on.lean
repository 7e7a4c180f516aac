set_option maxRecDepth 20000 in
theorem t_beginX {N : Nat} {I : aI} {L : aL} : Run 1 0 0 mX8_begin [.ref 10, .ref 2] (St N I L) (RP none N L (fun I2 => Sm [10, 11, 12] I I2 ∧ I2 10 0 = 0 ∧ I2 10 1 = I 2 4 ∧ I2 10 2 = 0 ∧ I2 10 3 = 0 ∧ (∀ j, j < 5 → I2 11 j = I 6 j) ∧ (∀ j, 5 ≤ j → I2 11 j = I 11 j) ∧ (∀ j, j < 6 → I2 12 j = I 5 (6 + j)) ∧ ∀ j, 6 ≤ j → I2 12 j = I 12 j)) := by
  refine Run.of (ls := [some (.ref 10), some (.ref 2), none]) (by decide) (Nat.le_of_ble_eq_true rfl) rfl ?_
  refine Ex.aload_n (pc := 0) dX8_begin_0 rfl rfl ?_
  refine Ex.iconst (pc := 1) (v := 0) dX8_begin_1 rfl ?_
  refine Ex.putI (pc := 2) dX8_begin_2 fX8_9 (sh10 _) (Or.inl rfl) ⟨rfl, rfl⟩ ?_
  refine Ex.aload_n (pc := 5) dX8_begin_5 rfl rfl ?_
  refine Ex.aload_n (pc := 6) dX8_begin_6 rfl rfl ?_
  refine Ex.getI (pc := 7) dX8_begin_7 fX8_31 (sh2 _) ?_
  refine Ex.putI (pc := 10) dX8_begin_10 fX8_15 (sh10 _) (Or.inl rfl) ⟨rfl, rfl⟩ ?_
  refine Ex.aload_n (pc := 13) dX8_begin_13 rfl rfl ?_
  refine Ex.iconst (pc := 14) (v := 0) dX8_begin_14 rfl ?_
  refine Ex.putI (pc := 15) dX8_begin_15 fX8_18 (sh10 _) (Or.inl rfl) ⟨rfl, rfl⟩ ?_
  refine Ex.aload_n (pc := 18) dX8_begin_18 rfl rfl ?_
  refine Ex.iconst (pc := 19) (v := 0) dX8_begin_19 rfl ?_
  refine Ex.putI (pc := 20) dX8_begin_20 fX8_21 (sh10 _) (Or.inl rfl) ⟨rfl, rfl⟩ ?_
  refine Ex.iconst (pc := 23) (v := 0) dX8_begin_23 rfl ?_
  refine Ex.istore_n (pc := 24) (ls' := [some (.ref 10), some (.ref 2), some (.int 0)]) dX8_begin_24 rfl (by decide) rfl rfl ?_
  refine forUp (σ := aI) (P := fun k I2 => Ex 1 0 0 mX8_begin 0 0 25 [some (.ref 10), some (.ref 2), some (.int (nI k))] [] (St N I2 L) _) (Inv := fun k I2 => Sm [10, 11] I I2 ∧ I2 10 0 = 0 ∧ I2 10 1 = I 2 4 ∧ I2 10 2 = 0 ∧ I2 10 3 = 0 ∧ (∀ j, j < k → I2 11 j = I 6 j) ∧ ∀ j, 5 ≤ j → I2 11 j = I 11 j) 5 ?_ ?_ 0 _ (by decide) ⟨?_, ?_, ?_, ?_, ?_, fun _ h => absurd h (Nat.not_lt_zero _), ?_⟩
  · rintro I1 ⟨hS, h0, h1, h2, h3, hz, hz5⟩
    refine Ex.iload_n (pc := 25) dX8_begin_25 rfl rfl ?_
    refine Ex.iconst (pc := 26) (v := 5) dX8_begin_26 rfl ?_
    refine Ex.icmp_ge (pc := 27) (tgt := 47) dX8_begin_27 (by decide) (fun _ => ?_) (fun c27 => absurd (by decide) c27)
    refine Ex.iconst (pc := 47) (v := 0) dX8_begin_47 rfl ?_
    refine Ex.istore_n (pc := 48) (ls' := [some (.ref 10), some (.ref 2), some (.int 0)]) dX8_begin_48 rfl (by decide) rfl rfl ?_
    refine forUp (σ := aI) (P := fun k I2 => Ex 1 0 0 mX8_begin 0 0 49 [some (.ref 10), some (.ref 2), some (.int (nI k))] [] (St N I2 L) _) (Inv := fun k I2 => Sm [10, 11, 12] I I2 ∧ I2 10 0 = 0 ∧ I2 10 1 = I 2 4 ∧ I2 10 2 = 0 ∧ I2 10 3 = 0 ∧ (∀ j, j < 5 → I2 11 j = I 6 j) ∧ (∀ j, 5 ≤ j → I2 11 j = I 11 j) ∧ (∀ j, j < k → I2 12 j = I 5 (6 + j)) ∧ ∀ j, 6 ≤ j → I2 12 j = I 12 j) 6 ?_ ?_ 0 _ (by decide) ⟨hS.tr Sm.rf (by decide) (l2 := []) (by decide), h0, h1, h2, h3, hz, hz5, fun _ h => absurd h (Nat.not_lt_zero _), fun j _ => by rw [hS 12 (by decide)]⟩
    · intro I2 hI2
      refine Ex.iload_n (pc := 49) dX8_begin_49 rfl rfl ?_
      refine Ex.bipush (pc := 50) (v := 6) dX8_begin_50 rfl ?_
      refine Ex.icmp_ge (pc := 52) (tgt := 72) dX8_begin_52 (by decide) (fun _ => ?_) (fun c52 => absurd (by decide) c52)
      refine Ex.vret (pc := 72) rfl dX8_begin_72 (Nat.le_refl _) (Nat.le_refl _) ?_
      exact ⟨_, rfl, rfl, hI2⟩
    · rintro k I2 hk ⟨hS2, g0, g1, g2, g3, gz, gz5, gd, gd6⟩ ih
      refine Ex.iload_n (pc := 49) dX8_begin_49 rfl rfl ?_
      refine Ex.bipush (pc := 50) (v := 6) dX8_begin_50 rfl ?_
      refine Ex.icmp_ge (pc := 52) (tgt := 72) dX8_begin_52 (by decide) (fun c52 => absurd c52 (nI_ge (b := 6) hk (by decide))) (fun _ => ?_)
      refine Ex.aload_n (pc := 55) dX8_begin_55 rfl rfl ?_
      refine Ex.getR (pc := 56) dX8_begin_56 fX8_28 (sh10 _) r10_5 ?_
      refine Ex.iload_n (pc := 59) dX8_begin_59 rfl rfl ?_
      refine Ex.aload_n (pc := 60) dX8_begin_60 rfl rfl ?_
      refine Ex.iload_n (pc := 61) dX8_begin_61 rfl rfl ?_
      refine Ex.callV (pc := 62) (As := [.int _]) (rest := [.int _, .ref 12]) dX8_begin_62 cX8_38 (t_deepTold (j := k) (by omega)) (sh2 _) rfl rfl (by decide) (Nat.le_refl _) (Nat.le_refl _) (Nat.le_of_ble_eq_true rfl) (Or.inl (fun r S' h => by obtain ⟨_, h⟩ := h; subst h; rfl)) (fun r S' hq _ _ => ?_)
      obtain ⟨rfl, rfl⟩ := hq
      refine Ex.iast (pc := 65) (j := k) dX8_begin_65 (sh12 _) (vp_in_nI hk (by decide)) (ixN2 (by omega)) ?_
      refine Ex.iinc (pc := 66) (ls' := [some (.ref 10), some (.ref 2), some (.int _)]) dX8_begin_66 rfl rfl (by decide) rfl rfl ?_
      refine Ex.goto (pc := 69) (tgt := 49) dX8_begin_69 (by decide) ?_
      rw [show nI k + Int32.ofInt 1 = nI (k + 1) from nI_1 k]
      refine ih _ ⟨hS2.up (by decide), ?_, ?_, ?_, ?_, ?_, ?_, ?_, ?_⟩
      all_goals first | (rw [va_up_n (by decide)]; assumption) | skip
      · intro j hj
        rw [va_up_s]
        by_cases e : j = k
        · rw [e, upd_s, hS2 5 (by decide)]
        · rw [upd_n e]; exact gd j (by omega)
      · intro j hj; rw [va_up_s, upd_n (by omega)]; exact gd6 j hj
  · rintro k I2 hk ⟨hS2, g0, g1, g2, g3, gz, gz5⟩ ih
    refine Ex.iload_n (pc := 25) dX8_begin_25 rfl rfl ?_
    refine Ex.iconst (pc := 26) (v := 5) dX8_begin_26 rfl ?_
    refine Ex.icmp_ge (pc := 27) (tgt := 47) dX8_begin_27 (by decide) (fun c27 => absurd c27 (nI_ge (b := 5) hk (by decide))) (fun _ => ?_)
    refine Ex.aload_n (pc := 30) dX8_begin_30 rfl rfl ?_
    refine Ex.getR (pc := 31) dX8_begin_31 fX8_24 (sh10 _) r10_4 ?_
    refine Ex.iload_n (pc := 34) dX8_begin_34 rfl rfl ?_
    refine Ex.aload_n (pc := 35) dX8_begin_35 rfl rfl ?_
    refine Ex.iload_n (pc := 36) dX8_begin_36 rfl rfl ?_
    refine Ex.callV (pc := 37) (As := [.int _]) (rest := [.int _, .ref 11]) dX8_begin_37 cX8_34 (t_zincTold (j := k) (by omega)) (sh2 _) rfl rfl (by decide) (Nat.le_refl _) (Nat.le_refl _) (Nat.le_of_ble_eq_true rfl) (Or.inl (fun r S' h => by obtain ⟨_, h⟩ := h; subst h; rfl)) (fun r S' hq _ _ => ?_)
    obtain ⟨rfl, rfl⟩ := hq
    refine Ex.iast (pc := 40) (j := k) dX8_begin_40 (sh11 _) (vp_in_nI hk (by decide)) (ixN2 (by omega)) ?_
    refine Ex.iinc (pc := 41) (ls' := [some (.ref 10), some (.ref 2), some (.int _)]) dX8_begin_41 rfl rfl (by decide) rfl rfl ?_
    refine Ex.goto (pc := 44) (tgt := 25) dX8_begin_44 (by decide) ?_
    rw [show nI k + Int32.ofInt 1 = nI (k + 1) from nI_1 k]
    refine ih _ ⟨hS2.up (by decide), ?_, ?_, ?_, ?_, ?_, ?_⟩
    all_goals first | (rw [va_up_n (by decide)]; assumption) | skip
    · intro j hj
      rw [va_up_s]
      by_cases e : j = k
      · rw [e, upd_s, hS2 6 (by decide), Nat.zero_add]
      · rw [upd_n e]; exact gz j (by omega)
    · intro j hj; rw [va_up_s, upd_n (by omega)]; exact gz5 j hj
  · exact (((Sm.rf.up (by decide)).up (by decide)).up (by decide)).up (by decide)
  · simp [va_up, upd]
  · simp [va_up, upd]
  · simp [va_up, upd]
  · simp [va_up, upd]
  · intro j hj; simp [va_up]
set_option maxRecDepth 20000 in
theorem t_on0 {N : Nat} {I : aI} {L : aL} {nb ns nh : Nat} (hc : CntOk I nb ns nh) {t : Nat} (ht : I 0 1 = nI t) (h16 : t ≤ 1600) (hno : isIm (tbF I) (I 6) nb ns nh t = false) : Run 3 0 0 mX9_on [.ref 0] (St N I L) (RI 0 (St N (refI (va_up I 0 (upd (I 0) 1 0)) 5) L)) := by
  refine Run.of (ls := [some (.ref 0), none, none, none]) (by decide) (Nat.le_of_ble_eq_true rfl) rfl ?_
  refine Ex.aload_n (pc := 0) dX9_on_0 rfl rfl ?_
  refine Ex.getI (pc := 1) dX9_on_1 fX9_13 (sh0 _) ?_
  refine Ex.istore_n (pc := 4) (ls' := [some (.ref 0), some (.int _), none, none]) dX9_on_4 rfl (by decide) rfl rfl ?_
  rw [ht]
  refine Ex.aload_n (pc := 5) dX9_on_5 rfl rfl ?_
  refine Ex.iconst (pc := 6) (v := 0) dX9_on_6 rfl ?_
  refine Ex.putI (pc := 7) dX9_on_7 fX9_13 (sh0 _) (Or.inl rfl) ⟨rfl, rfl⟩ ?_
  refine Ex.aload_n (pc := 10) dX9_on_10 rfl rfl ?_
  refine Ex.iload_n (pc := 11) dX9_on_11 rfl rfl ?_
  refine Ex.callV (pc := 12) (As := [.int _]) (rest := []) dX9_on_12 cX9_327 (t_isImage (hc.sm (l := [0]) (Sm.rf.up (by decide)) (by decide) (by decide)) h16) (sh0 _) rfl rfl (by decide) (Nat.le_refl _) (Nat.le_refl _) (Nat.le_of_ble_eq_true rfl) (Or.inl (fun r S' h => by obtain ⟨_, h⟩ := h; subst h; rfl)) (fun r S' hq _ _ => ?_)
  obtain ⟨rfl, rfl⟩ := hq
  have e0 : tbF (va_up I 0 (upd (I 0) 1 0)) = tbF I := by unfold tbF; rw [va_up_n (by decide)]
  rw [e0, va_up_n (by decide), hno]
  refine Ex.if_ne (pc := 15) (tgt := 24) dX9_on_15 (by decide) (fun c15 => absurd rfl c15) (fun _ => ?_)
  refine Ex.aload_n (pc := 18) dX9_on_18 rfl rfl ?_
  refine Ex.iconst (pc := 19) (v := 5) dX9_on_19 rfl ?_
  refine Ex.callV (pc := 20) (As := [.int 5]) (rest := []) dX9_on_20 cX9_109 (t_deny (k := 5) (by decide)) (sh0 _) rfl rfl (by decide) (Nat.le_refl _) (Nat.le_refl _) (Nat.le_of_ble_eq_true rfl) (Or.inl (fun r S' h => by obtain ⟨_, h⟩ := h; subst h; rfl)) (fun r S' hq _ _ => ?_)
  obtain ⟨rfl, rfl⟩ := hq
  refine Ex.iret (pc := 23) rfl rfl rfl dX9_on_23 (Nat.le_refl _) (Nat.le_refl _) ?_
  exact ⟨rfl, rfl⟩
/-- who is saved by the bytes of an image -/
def svF (tb : Nat → Int32) (o : Nat) : Nat → Int32
  | 0 => 0
  | k + 1 => svF tb o k ||| tb (o + k) <<< (nI k &&& 31)
/-- what an image tells -/
def onX (tb f5 f6 : Nat → Int32) (nb ns nh : Nat) : aX := (tb 0 * 256 + tb 1, tb 2, svF tb (3 + nb + ns) nh, fun j => if j < nb then tb (3 + j) else if j < 5 then f6 j else 0, fun j => if j < ns then tb (3 + nb + j) else if j < 6 then f5 (6 + j) else 0)

set_option maxRecDepth 20000 in
theorem t_on1 {N : Nat} {I : aI} {L : aL} {nb ns nh : Nat} (hc : CntOk I nb ns nh) {t : Nat} (ht : I 0 1 = nI t) (h16 : t ≤ 1600) (hyes : isIm (tbF I) (I 6) nb ns nh t = true) (hx : XOk (xOf I 10)) : Run 3 0 0 mX9_on [.ref 0] (St N I L) (RP (some (.int 1)) N L (fun I2 => Sm [0, 10, 11, 12, 19, 26, 30] I I2 ∧ (∀ j, j ≠ 1 → I2 0 j = I 0 j) ∧ I2 0 1 = 0 ∧ xOf I2 10 = onX (tbF I) (I 5) (I 6) nb ns nh ∧ I2 10 3 = 0 ∧ I2 19 = upd (I 19) 1 0 ∧ I2 26 = upd (I 26) 0 0 ∧ I2 30 = upd (I 30) 0 (-1))) := by
  refine Run.of (ls := [some (.ref 0), none, none, none]) (by decide) (Nat.le_of_ble_eq_true rfl) rfl ?_
  obtain ⟨hc0, hb5, hc1, hs6, hc2, hh6, hrib⟩ := id hc
  refine Ex.aload_n (pc := 0) dX9_on_0 rfl rfl ?_
  refine Ex.getI (pc := 1) dX9_on_1 fX9_13 (sh0 _) ?_
  refine Ex.istore_n (pc := 4) (ls' := [some (.ref 0), some (.int _), none, none]) dX9_on_4 rfl (by decide) rfl rfl ?_
  rw [ht]
  refine Ex.aload_n (pc := 5) dX9_on_5 rfl rfl ?_
  refine Ex.iconst (pc := 6) (v := 0) dX9_on_6 rfl ?_
  refine Ex.putI (pc := 7) dX9_on_7 fX9_13 (sh0 _) (Or.inl rfl) ⟨rfl, rfl⟩ ?_
  refine Ex.aload_n (pc := 10) dX9_on_10 rfl rfl ?_
  refine Ex.iload_n (pc := 11) dX9_on_11 rfl rfl ?_
  refine Ex.callV (pc := 12) (As := [.int _]) (rest := []) dX9_on_12 cX9_327 (t_isImage (hc.sm (l := [0]) (Sm.rf.up (by decide)) (by decide) (by decide)) h16) (sh0 _) rfl rfl (by decide) (Nat.le_refl _) (Nat.le_refl _) (Nat.le_of_ble_eq_true rfl) (Or.inl (fun r S' h => by obtain ⟨_, h⟩ := h; subst h; rfl)) (fun r S' hq _ _ => ?_)
  obtain ⟨rfl, rfl⟩ := hq
  have e0 : tbF (va_up I 0 (upd (I 0) 1 0)) = tbF I := by unfold tbF; rw [va_up_n (by decide)]
  rw [e0, va_up_n (by decide), hyes]
  have htt : t ≤ 1600 := h16
  refine Ex.if_ne (pc := 15) (tgt := 24) dX9_on_15 (by decide) (fun _ => ?_) (fun c15 => absurd c15 (by decide))
  refine Ex.aload_n (pc := 24) dX9_on_24 rfl rfl ?_
  refine Ex.getR (pc := 25) dX9_on_25 fX9_35 (sh0 _) r0_5 ?_
  refine Ex.aload_n (pc := 28) dX9_on_28 rfl rfl ?_
  refine Ex.getR (pc := 29) dX9_on_29 fX9_22 (sh0 _) r0_2 ?_
  refine Ex.callV (pc := 32) (As := [.ref 2]) (rest := []) dX9_on_32 cX9_129 t_beginX (sh10 _) rfl rfl (by decide) (Nat.le_refl _) (Nat.le_refl _) (Nat.le_of_ble_eq_true rfl) (Or.inl (fun r S' h => by obtain ⟨_, _, h, _⟩ := h; subst h; rfl)) (fun r S' hq _ _ => ?_)
  obtain ⟨I3, rfl, rfl, hS3, b0, b1, b2, b3, bz, bz5, bd, bd6⟩ := hq
  have e1 : I3 1 = I 1 := by rw [hS3 1 (by decide), va_up_n (by decide)]
  refine Ex.aload_n (pc := 35) dX9_on_35 rfl rfl ?_
  refine Ex.getR (pc := 36) dX9_on_36 fX9_35 (sh0 _) r0_5 ?_
  refine Ex.aload_n (pc := 39) dX9_on_39 rfl rfl ?_
  refine Ex.iconst (pc := 40) (v := 0) dX9_on_40 rfl ?_
  refine Ex.callV (pc := 41) (As := [.int 0]) (rest := [.ref 10]) dX9_on_41 cX9_330 (t_tapeByte (j := 0) (by decide)) (sh0 _) rfl rfl (by decide) (Nat.le_refl _) (Nat.le_refl _) (Nat.le_of_ble_eq_true rfl) (Or.inl (fun r S' h => by obtain ⟨_, h⟩ := h; subst h; rfl)) (fun r S' hq _ _ => ?_)
  obtain ⟨rfl, rfl⟩ := hq
  refine Ex.sipush (pc := 44) (v := 256) dX9_on_44 rfl ?_
  refine Ex.imul (pc := 47) dX9_on_47 ?_
  refine Ex.aload_n (pc := 48) dX9_on_48 rfl rfl ?_
  refine Ex.iconst (pc := 49) (v := 1) dX9_on_49 rfl ?_
  refine Ex.callV (pc := 50) (As := [.int 1]) (rest := [.int _, .ref 10]) dX9_on_50 cX9_330 (t_tapeByte (j := 1) (by decide)) (sh0 _) rfl rfl (by decide) (Nat.le_refl _) (Nat.le_refl _) (Nat.le_of_ble_eq_true rfl) (Or.inl (fun r S' h => by obtain ⟨_, h⟩ := h; subst h; rfl)) (fun r S' hq _ _ => ?_)
  obtain ⟨rfl, rfl⟩ := hq
  refine Ex.iadd (pc := 53) dX9_on_53 ?_
  refine Ex.putI (pc := 54) dX9_on_54 fX9_147 (sh10 _) (Or.inl rfl) ⟨rfl, rfl⟩ ?_
  refine Ex.aload_n (pc := 57) dX9_on_57 rfl rfl ?_
  refine Ex.getR (pc := 58) dX9_on_58 fX9_35 (sh0 _) r0_5 ?_
  refine Ex.aload_n (pc := 61) dX9_on_61 rfl rfl ?_
  refine Ex.iconst (pc := 62) (v := 2) dX9_on_62 rfl ?_
  refine Ex.callV (pc := 63) (As := [.int 2]) (rest := [.ref 10]) dX9_on_63 cX9_330 (t_tapeByte (j := 2) (by decide)) (sh0 _) rfl rfl (by decide) (Nat.le_refl _) (Nat.le_refl _) (Nat.le_of_ble_eq_true rfl) (Or.inl (fun r S' h => by obtain ⟨_, h⟩ := h; subst h; rfl)) (fun r S' hq _ _ => ?_)
  obtain ⟨rfl, rfl⟩ := hq
  refine Ex.putI (pc := 66) dX9_on_66 fX9_150 (sh10 _) (Or.inl rfl) ⟨rfl, rfl⟩ ?_
  refine Ex.iconst (pc := 69) (v := 3) dX9_on_69 rfl ?_
  refine Ex.istore_n (pc := 70) (ls' := [some (.ref 0), some (.int _), some (.int 3), none]) dX9_on_70 rfl (by decide) rfl rfl ?_
  refine Ex.iconst (pc := 71) (v := 0) dX9_on_71 rfl ?_
  refine Ex.istore_n (pc := 72) (ls' := [some (.ref 0), some (.int _), some (.int 3), some (.int 0)]) dX9_on_72 rfl (by decide) rfl rfl ?_
  refine Ex.le (ls' := [some (.ref 0), none, some (.int (nI (3 + 0))), some (.int (nI 0))]) ⟨rfl, rfl, rfl, trivial⟩ ?_
  refine forUp (σ := aI) (P := fun k I2 => Ex 3 0 0 mX9_on 0 0 73 [some (.ref 0), none, some (.int (nI (3 + k))), some (.int (nI k))] [] (St N I2 L) _) (Inv := fun k I2 => (Sm [0, 10, 11, 12] I I2 ∧ I2 0 = upd (I 0) 1 0 ∧ I2 10 0 = tbF I 0 * 256 + tbF I 1 ∧ I2 10 1 = tbF I 2 ∧ I2 10 3 = 0) ∧ I2 10 2 = 0 ∧ (∀ j, I2 11 j = if j < k then tbF I (3 + j) else if j < 5 then I 6 j else 0) ∧ (∀ j, I2 12 j = if j < 0 then tbF I (3 + nb + j) else if j < 6 then I 5 (6 + j) else 0)) nb ?_ ?_ 0 _ (Nat.zero_le _) ?init
  · rintro I2 ⟨⟨hS, e0, w0, w1, w3⟩, w2, hz, hd⟩
    refine Ex.iload_n (pc := 73) dX9_on_73 rfl rfl ?_
    refine Ex.aload_n (pc := 74) dX9_on_74 rfl rfl ?_
    refine Ex.getR (pc := 75) dX9_on_75 fX9_22 (sh0 _) r0_2 ?_
    refine Ex.getR (pc := 78) dX9_on_78 fX9_144 (sh2 _) r2_0 ?_
    refine Ex.iconst (pc := 81) (v := 0) dX9_on_81 rfl ?_
    refine Ex.iald (pc := 82) (j := 0) dX9_on_82 (sh3 _) (by unfold vp_in; decide) (by decide) ?_
    refine Ex.icmp_ge (pc := 83) (tgt := 109) dX9_on_83 (by decide) (fun _ => ?_) (fun c83 => absurd (by rw [hS 3 (by decide), hc0]; exact nI_le (Nat.le_refl nb) (by omega)) c83)
    refine Ex.iconst (pc := 109) (v := 0) dX9_on_109 rfl ?_
    refine Ex.istore_n (pc := 110) (ls' := [some (.ref 0), none, some (.int _), some (.int 0)]) dX9_on_110 rfl (by decide) rfl rfl ?_
    refine Ex.le (ls' := [some (.ref 0), none, some (.int (nI (3 + nb + 0))), some (.int (nI 0))]) ⟨rfl, rfl, rfl, trivial⟩ ?_
    refine forUp (σ := aI) (P := fun k I2 => Ex 3 0 0 mX9_on 0 0 111 [some (.ref 0), none, some (.int (nI (3 + nb + k))), some (.int (nI k))] [] (St N I2 L) _) (Inv := fun k I2 => (Sm [0, 10, 11, 12] I I2 ∧ I2 0 = upd (I 0) 1 0 ∧ I2 10 0 = tbF I 0 * 256 + tbF I 1 ∧ I2 10 1 = tbF I 2 ∧ I2 10 3 = 0) ∧ I2 10 2 = 0 ∧ (∀ j, I2 11 j = if j < nb then tbF I (3 + j) else if j < 5 then I 6 j else 0) ∧ (∀ j, I2 12 j = if j < k then tbF I (3 + nb + j) else if j < 6 then I 5 (6 + j) else 0)) ns ?_ ?_ 0 _ (Nat.zero_le _) ⟨⟨hS, e0, w0, w1, w3⟩, w2, hz, hd⟩
    · rintro I2 ⟨⟨hS, e0, w0, w1, w3⟩, w2, hz, hd⟩
      refine Ex.iload_n (pc := 111) dX9_on_111 rfl rfl ?_
      refine Ex.aload_n (pc := 112) dX9_on_112 rfl rfl ?_
      refine Ex.getR (pc := 113) dX9_on_113 fX9_22 (sh0 _) r0_2 ?_
      refine Ex.getR (pc := 116) dX9_on_116 fX9_144 (sh2 _) r2_0 ?_
      refine Ex.iconst (pc := 119) (v := 1) dX9_on_119 rfl ?_
      refine Ex.iald (pc := 120) (j := 1) dX9_on_120 (sh3 _) (by unfold vp_in; decide) (by decide) ?_
      refine Ex.icmp_ge (pc := 121) (tgt := 147) dX9_on_121 (by decide) (fun _ => ?_) (fun c121 => absurd (by rw [hS 3 (by decide), hc1]; exact nI_le (Nat.le_refl ns) (by omega)) c121)
      refine Ex.iconst (pc := 147) (v := 0) dX9_on_147 rfl ?_
      refine Ex.istore_n (pc := 148) (ls' := [some (.ref 0), none, some (.int _), some (.int 0)]) dX9_on_148 rfl (by decide) rfl rfl ?_
      refine Ex.le (ls' := [some (.ref 0), none, some (.int (nI (3 + nb + ns + 0))), some (.int (nI 0))]) ⟨rfl, rfl, rfl, trivial⟩ ?_
      refine forUp (σ := aI) (P := fun k I2 => Ex 3 0 0 mX9_on 0 0 149 [some (.ref 0), none, some (.int (nI (3 + nb + ns + k))), some (.int (nI k))] [] (St N I2 L) _) (Inv := fun k I2 => (Sm [0, 10, 11, 12] I I2 ∧ I2 0 = upd (I 0) 1 0 ∧ I2 10 0 = tbF I 0 * 256 + tbF I 1 ∧ I2 10 1 = tbF I 2 ∧ I2 10 3 = 0) ∧ I2 10 2 = svF (tbF I) (3 + nb + ns) k ∧ (∀ j, I2 11 j = if j < nb then tbF I (3 + j) else if j < 5 then I 6 j else 0) ∧ (∀ j, I2 12 j = if j < ns then tbF I (3 + nb + j) else if j < 6 then I 5 (6 + j) else 0)) nh ?_ ?_ 0 _ (Nat.zero_le _) ⟨⟨hS, e0, w0, w1, w3⟩, w2, hz, hd⟩
      · rintro I2 ⟨⟨hS, e0, w0, w1, w3⟩, w2, hz, hd⟩
        refine Ex.iload_n (pc := 149) dX9_on_149 rfl rfl ?_
        refine Ex.aload_n (pc := 150) dX9_on_150 rfl rfl ?_
        refine Ex.getR (pc := 151) dX9_on_151 fX9_22 (sh0 _) r0_2 ?_
        refine Ex.getR (pc := 154) dX9_on_154 fX9_144 (sh2 _) r2_0 ?_
        refine Ex.iconst (pc := 157) (v := 2) dX9_on_157 rfl ?_
        refine Ex.iald (pc := 158) (j := 2) dX9_on_158 (sh3 _) (by unfold vp_in; decide) (by decide) ?_
        refine Ex.icmp_ge (pc := 159) (tgt := 190) dX9_on_159 (by decide) (fun _ => ?_) (fun c159 => absurd (by rw [hS 3 (by decide), hc2]; exact nI_le (Nat.le_refl nh) (by omega)) c159)
        refine Ex.aload_n (pc := 190) dX9_on_190 rfl rfl ?_
        refine Ex.getR (pc := 191) dX9_on_191 fX9_54 (sh0 _) r0_8 ?_
        refine Ex.callV (pc := 194) (As := []) (rest := []) dX9_on_194 cX9_132 t_forget (sh19 _) rfl rfl (by decide) (Nat.le_refl _) (Nat.le_refl _) (Nat.le_of_ble_eq_true rfl) (Or.inl (fun r S' h => by obtain ⟨_, h⟩ := h; subst h; rfl)) (fun r S' hq _ _ => ?_)
        obtain ⟨rfl, rfl⟩ := hq
        refine Ex.aload_n (pc := 197) dX9_on_197 rfl rfl ?_
        refine Ex.callV (pc := 198) (As := []) (rest := []) dX9_on_198 cX9_138 t_forgetAnswers (sh0 _) rfl rfl (by decide) (Nat.le_refl _) (Nat.le_refl _) (Nat.le_of_ble_eq_true rfl) (Or.inl (fun r S' h => by obtain ⟨_, h⟩ := h; subst h; rfl)) (fun r S' hq _ _ => ?_)
        obtain ⟨rfl, rfl⟩ := hq
        refine Ex.iconst (pc := 201) (v := 1) dX9_on_201 rfl ?_
        refine Ex.iret (pc := 202) rfl rfl rfl dX9_on_202 (Nat.le_refl _) (Nat.le_refl _) ?_
        refine ⟨_, rfl, rfl, ?_, ?_, ?_, ?_, ?_, ?_, ?_, ?_⟩
        · unfold forgI; exact (((hS.tr Sm.rf (l := [0, 10, 11, 12, 19, 26, 30]) (l2 := []) (by decide) (by decide)).up (by decide)).up (by decide)).up (by decide)
        · intro j hj; unfold forgI; rw [va_up_n (by decide), va_up_n (by decide), va_up_n (by decide), e0, upd_n hj]
        · unfold forgI; rw [va_up_n (by decide), va_up_n (by decide), va_up_n (by decide), e0, upd_s]
        · unfold forgI xOf onX
          simp only [va_up_n (show (10 : Nat) ≠ 30 by decide), va_up_n (show (10 : Nat) ≠ 26 by decide), va_up_n (show (10 : Nat) ≠ 19 by decide), va_up_n (show (11 : Nat) ≠ 30 by decide), va_up_n (show (11 : Nat) ≠ 26 by decide), va_up_n (show (11 : Nat) ≠ 19 by decide), va_up_n (show (12 : Nat) ≠ 30 by decide), va_up_n (show (12 : Nat) ≠ 26 by decide), va_up_n (show (12 : Nat) ≠ 19 by decide)]
          rw [w0, w1, w2, show I2 11 = _ from funext hz, show I2 12 = _ from funext hd]
        · unfold forgI; rw [va_up_n (by decide), va_up_n (by decide), va_up_n (by decide)]; exact w3
        · unfold forgI; rw [va_up_n (by decide), va_up_n (by decide), va_up_s, hS 19 (by decide)]
        · unfold forgI; rw [va_up_n (by decide), va_up_s, va_up_n (by decide), hS 26 (by decide)]
        · unfold forgI; rw [va_up_s, va_up_n (by decide), hS 30 (by decide)]
      · rintro k I2 hk ⟨⟨hS, e0, w0, w1, w3⟩, w2, hz, hd⟩ ih
        have et : ∀ i, I2 1 i &&& 255 = tbF I i := fun i => by rw [hS 1 (by decide)]; rfl
        refine Ex.iload_n (pc := 149) dX9_on_149 rfl rfl ?_
        refine Ex.aload_n (pc := 150) dX9_on_150 rfl rfl ?_
        refine Ex.getR (pc := 151) dX9_on_151 fX9_22 (sh0 _) r0_2 ?_
        refine Ex.getR (pc := 154) dX9_on_154 fX9_144 (sh2 _) r2_0 ?_
        refine Ex.iconst (pc := 157) (v := 2) dX9_on_157 rfl ?_
        refine Ex.iald (pc := 158) (j := 2) dX9_on_158 (sh3 _) (by unfold vp_in; decide) (by decide) ?_
        refine Ex.icmp_ge (pc := 159) (tgt := 190) dX9_on_159 (by decide) (fun c159 => absurd c159 (by rw [hS 3 (by decide), hc2]; exact nI_ge hk (by omega))) (fun _ => ?_)
        refine Ex.aload_n (pc := 162) dX9_on_162 rfl rfl ?_
        refine Ex.getR (pc := 163) dX9_on_163 fX9_35 (sh0 _) r0_5 ?_
        refine Ex.dup (pc := 166) dX9_on_166 rfl ?_
        refine Ex.getI (pc := 167) dX9_on_167 fX9_160 (sh10 _) ?_
        refine Ex.aload_n (pc := 170) dX9_on_170 rfl rfl ?_
        refine Ex.iload_n (pc := 171) dX9_on_171 rfl rfl ?_
        refine Ex.iinc (pc := 172) (ls' := [some (.ref 0), none, some (.int _), some (.int _)]) dX9_on_172 rfl rfl (by decide) rfl rfl ?_
        refine Ex.callV (pc := 175) (As := [.int _]) (rest := [.int _, .ref 10]) dX9_on_175 cX9_330 (t_tapeByte (j := 3 + nb + ns + k) (by omega)) (sh0 _) rfl rfl (by decide) (Nat.le_refl _) (Nat.le_refl _) (Nat.le_of_ble_eq_true rfl) (Or.inl (fun r S' h => by obtain ⟨_, h⟩ := h; subst h; rfl)) (fun r S' hq _ _ => ?_)
        obtain ⟨rfl, rfl⟩ := hq
        refine Ex.iload_n (pc := 178) dX9_on_178 rfl rfl ?_
        refine Ex.ishl (pc := 179) dX9_on_179 ?_
        refine Ex.ior (pc := 180) dX9_on_180 ?_
        refine Ex.putI (pc := 181) dX9_on_181 fX9_160 (sh10 _) (Or.inl rfl) ⟨rfl, rfl⟩ ?_
        refine Ex.iinc (pc := 184) (ls' := [some (.ref 0), none, some (.int _), some (.int _)]) dX9_on_184 rfl rfl (by decide) rfl rfl ?_
        refine Ex.goto (pc := 187) (tgt := 149) dX9_on_187 (by decide) ?_
        rw [show nI k + Int32.ofInt 1 = nI (k + 1) from nI_1 k, show nI (3 + nb + ns + k) + Int32.ofInt 1 = nI (3 + nb + ns + (k + 1)) from nI_1 _]
        refine ih _ ⟨⟨hS.up (by decide), ?_, ?_, ?_, ?_⟩, ?_, ?_, ?_⟩
        · rw [va_up_n (by decide)]; exact e0
        · rw [va_up_s, upd_n (by decide)]; exact w0
        · rw [va_up_s, upd_n (by decide)]; exact w1
        · rw [va_up_s, upd_n (by decide)]; exact w3
        · rw [va_up_s, upd_s, w2, et]; rfl
        · rw [va_up_n (by decide)]; exact hz
        · rw [va_up_n (by decide)]; exact hd
    · rintro k I2 hk ⟨⟨hS, e0, w0, w1, w3⟩, w2, hz, hd⟩ ih
      have et : ∀ i, I2 1 i &&& 255 = tbF I i := fun i => by rw [hS 1 (by decide)]; rfl
      refine Ex.iload_n (pc := 111) dX9_on_111 rfl rfl ?_
      refine Ex.aload_n (pc := 112) dX9_on_112 rfl rfl ?_
      refine Ex.getR (pc := 113) dX9_on_113 fX9_22 (sh0 _) r0_2 ?_
      refine Ex.getR (pc := 116) dX9_on_116 fX9_144 (sh2 _) r2_0 ?_
      refine Ex.iconst (pc := 119) (v := 1) dX9_on_119 rfl ?_
      refine Ex.iald (pc := 120) (j := 1) dX9_on_120 (sh3 _) (by unfold vp_in; decide) (by decide) ?_
      refine Ex.icmp_ge (pc := 121) (tgt := 147) dX9_on_121 (by decide) (fun c121 => absurd c121 (by rw [hS 3 (by decide), hc1]; exact nI_ge hk (by omega))) (fun _ => ?_)
      refine Ex.aload_n (pc := 124) dX9_on_124 rfl rfl ?_
      refine Ex.getR (pc := 125) dX9_on_125 fX9_35 (sh0 _) r0_5 ?_
      refine Ex.getR (pc := 128) dX9_on_128 fX9_192 (sh10 _) r10_5 ?_
      refine Ex.iload_n (pc := 131) dX9_on_131 rfl rfl ?_
      refine Ex.aload_n (pc := 132) dX9_on_132 rfl rfl ?_
      refine Ex.iload_n (pc := 133) dX9_on_133 rfl rfl ?_
      refine Ex.iinc (pc := 134) (ls' := [some (.ref 0), none, some (.int _), some (.int _)]) dX9_on_134 rfl rfl (by decide) rfl rfl ?_
      refine Ex.callV (pc := 137) (As := [.int _]) (rest := [.int _, .ref 12]) dX9_on_137 cX9_330 (t_tapeByte (j := 3 + nb + k) (by omega)) (sh0 _) rfl rfl (by decide) (Nat.le_refl _) (Nat.le_refl _) (Nat.le_of_ble_eq_true rfl) (Or.inl (fun r S' h => by obtain ⟨_, h⟩ := h; subst h; rfl)) (fun r S' hq _ _ => ?_)
      obtain ⟨rfl, rfl⟩ := hq
      refine Ex.iast (pc := 140) (j := k) dX9_on_140 (sh12 _) (vp_in_nI (by omega) (by decide)) (ixN2 (by omega)) ?_
      refine Ex.iinc (pc := 141) (ls' := [some (.ref 0), none, some (.int _), some (.int _)]) dX9_on_141 rfl rfl (by decide) rfl rfl ?_
      refine Ex.goto (pc := 144) (tgt := 111) dX9_on_144 (by decide) ?_
      rw [show nI k + Int32.ofInt 1 = nI (k + 1) from nI_1 k, show nI (3 + nb + k) + Int32.ofInt 1 = nI (3 + nb + (k + 1)) from nI_1 _]
      refine ih _ ⟨⟨hS.up (by decide), ?_, ?_, ?_, ?_⟩, ?_, ?_, ?_⟩
      · rw [va_up_n (by decide)]; exact e0
      · rw [va_up_n (by decide)]; exact w0
      · rw [va_up_n (by decide)]; exact w1
      · rw [va_up_n (by decide)]; exact w3
      · rw [va_up_n (by decide)]; exact w2
      · rw [va_up_n (by decide)]; exact hz
      · intro j; rw [va_up_s]
        by_cases e : j = k
        · rw [e, upd_s, et, if_pos (by omega)]
        · rw [upd_n e, hd j]
          by_cases q : j < k
          · rw [if_pos q, if_pos (show j < k + 1 by omega)]
          · rw [if_neg q, if_neg (show ¬ j < k + 1 by omega)]
  · rintro k I2 hk ⟨⟨hS, e0, w0, w1, w3⟩, w2, hz, hd⟩ ih
    have et : ∀ i, I2 1 i &&& 255 = tbF I i := fun i => by rw [hS 1 (by decide)]; rfl
    refine Ex.iload_n (pc := 73) dX9_on_73 rfl rfl ?_
    refine Ex.aload_n (pc := 74) dX9_on_74 rfl rfl ?_
    refine Ex.getR (pc := 75) dX9_on_75 fX9_22 (sh0 _) r0_2 ?_
    refine Ex.getR (pc := 78) dX9_on_78 fX9_144 (sh2 _) r2_0 ?_
    refine Ex.iconst (pc := 81) (v := 0) dX9_on_81 rfl ?_
    refine Ex.iald (pc := 82) (j := 0) dX9_on_82 (sh3 _) (by unfold vp_in; decide) (by decide) ?_
    refine Ex.icmp_ge (pc := 83) (tgt := 109) dX9_on_83 (by decide) (fun c83 => absurd c83 (by rw [hS 3 (by decide), hc0]; exact nI_ge hk (by omega))) (fun _ => ?_)
    refine Ex.aload_n (pc := 86) dX9_on_86 rfl rfl ?_
    refine Ex.getR (pc := 87) dX9_on_87 fX9_35 (sh0 _) r0_5 ?_
    refine Ex.getR (pc := 90) dX9_on_90 fX9_179 (sh10 _) r10_4 ?_
    refine Ex.iload_n (pc := 93) dX9_on_93 rfl rfl ?_
    refine Ex.aload_n (pc := 94) dX9_on_94 rfl rfl ?_
    refine Ex.iload_n (pc := 95) dX9_on_95 rfl rfl ?_
    refine Ex.iinc (pc := 96) (ls' := [some (.ref 0), none, some (.int _), some (.int _)]) dX9_on_96 rfl rfl (by decide) rfl rfl ?_
    refine Ex.callV (pc := 99) (As := [.int _]) (rest := [.int _, .ref 11]) dX9_on_99 cX9_330 (t_tapeByte (j := 3 + k) (by omega)) (sh0 _) rfl rfl (by decide) (Nat.le_refl _) (Nat.le_refl _) (Nat.le_of_ble_eq_true rfl) (Or.inl (fun r S' h => by obtain ⟨_, h⟩ := h; subst h; rfl)) (fun r S' hq _ _ => ?_)
    obtain ⟨rfl, rfl⟩ := hq
    refine Ex.iast (pc := 102) (j := k) dX9_on_102 (sh11 _) (vp_in_nI (by omega) (by decide)) (ixN2 (by omega)) ?_
    refine Ex.iinc (pc := 103) (ls' := [some (.ref 0), none, some (.int _), some (.int _)]) dX9_on_103 rfl rfl (by decide) rfl rfl ?_
    refine Ex.goto (pc := 106) (tgt := 73) dX9_on_106 (by decide) ?_
    rw [show nI k + Int32.ofInt 1 = nI (k + 1) from nI_1 k, show nI (3 + k) + Int32.ofInt 1 = nI (3 + (k + 1)) from nI_1 _]
    refine ih _ ⟨⟨hS.up (by decide), ?_, ?_, ?_, ?_⟩, ?_, ?_, ?_⟩
    · rw [va_up_n (by decide)]; exact e0
    · rw [va_up_n (by decide)]; exact w0
    · rw [va_up_n (by decide)]; exact w1
    · rw [va_up_n (by decide)]; exact w3
    · rw [va_up_n (by decide)]; exact w2
    · intro j; rw [va_up_s]
      by_cases e : j = k
      · rw [e, upd_s, et, if_pos (by omega)]
      · rw [upd_n e, hz j]
        by_cases q : j < k
        · rw [if_pos q, if_pos (show j < k + 1 by omega)]
        · rw [if_neg q, if_neg (show ¬ j < k + 1 by omega)]
    · rw [va_up_n (by decide)]; exact hd
  case init =>
    have s1 : Sm [0, 10, 11, 12] I I3 := (Sm.rf.up (by decide) : Sm [0] I (va_up I 0 (upd (I 0) 1 0))).tr hS3 (by decide) (by decide)
    refine ⟨⟨(s1.up (by decide)).up (by decide), ?_, ?_, ?_, ?_⟩, ?_, ?_, ?_⟩
    · rw [va_up_n (by decide), va_up_n (by decide), hS3 0 (by decide), va_up_s]
    · rw [va_up_s, upd_n (by decide), va_up_s, upd_s, e1]; rfl
    · rw [va_up_s, upd_s, va_up_n (by decide), e1]; rfl
    · rw [va_up_s, upd_n (by decide), va_up_s, upd_n (by decide)]; exact b3
    · rw [va_up_s, upd_n (by decide), va_up_s, upd_n (by decide)]; exact b2
    · intro j
      rw [va_up_n (by decide), va_up_n (by decide), if_neg (by omega)]
      by_cases q : j < 5
      · rw [if_pos q, bz j q, va_up_n (by decide)]
      · rw [if_neg q, bz5 j (by omega), va_up_n (by decide)]; exact hx.1 j (by omega)
    · intro j
      rw [va_up_n (by decide), va_up_n (by decide), if_neg (by omega)]
      by_cases q : j < 6
      · rw [if_pos q, bd j q, va_up_n (by decide)]
      · rw [if_neg q, bd6 j (by omega), va_up_n (by decide)]; exact hx.2 j (by omega)
