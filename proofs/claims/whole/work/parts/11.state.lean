set_option maxRecDepth 20000 in
theorem t_begin {N : Nat} {I : aI} {L : aL} : Run 1 0 0 mX8_begin [.ref 10, .ref 2] (St N I L) (RP none N L (fun I2 => Sm [10, 11, 12] I I2 ∧ I2 10 0 = 0 ∧ I2 10 1 = I 2 4 ∧ I2 10 2 = 0 ∧ I2 10 3 = 0 ∧ (∀ j, j < 5 → I2 11 j = I 6 j) ∧ ∀ j, j < 6 → I2 12 j = I 5 (6 + j))) := by
  refine Run.of (ls := [some (.ref 10), some (.ref 2), none]) (by decide) (Nat.le_of_ble_eq_true rfl) rfl ?_
  refine Ex.aload_n (pc := 0) dX8_begin_0 rfl rfl ?_
  refine Ex.iconst (pc := 1) (v := 0) dX8_begin_1 rfl ?_
  refine Ex.putI (pc := 2) dX8_begin_2 fX8_9 (sh10 _) (Or.inl rfl) ⟨rfl, rfl⟩ ?_
  refine Ex.aload_n (pc := 5) dX8_begin_5 rfl rfl ?_
  refine Ex.aload_n (pc := 6) dX8_begin_6 rfl rfl ?_
  refine Ex.getI (pc := 7) dX8_begin_7 fX8_31 (sh2 _) ?_
  refine Ex.putI (pc := 10) dX8_begin_10 fX8_15 (sh10 _) (Or.inl rfl) ⟨rfl, rfl⟩ ?_
  refine Ex.aload_n (pc := 13) dX8_begin_13 rfl rfl ?_
  refine Ex.iconst (pc := 14) (v := 0) dX8_begin_14 rfl ?_
  refine Ex.putI (pc := 15) dX8_begin_15 fX8_18 (sh10 _) (Or.inl rfl) ⟨rfl, rfl⟩ ?_
  refine Ex.aload_n (pc := 18) dX8_begin_18 rfl rfl ?_
  refine Ex.iconst (pc := 19) (v := 0) dX8_begin_19 rfl ?_
  refine Ex.putI (pc := 20) dX8_begin_20 fX8_21 (sh10 _) (Or.inl rfl) ⟨rfl, rfl⟩ ?_
  refine Ex.iconst (pc := 23) (v := 0) dX8_begin_23 rfl ?_
  refine Ex.istore_n (pc := 24) (ls' := [some (.ref 10), some (.ref 2), some (.int 0)]) dX8_begin_24 rfl (by decide) rfl rfl ?_
  refine forUp (σ := aI) (P := fun k I2 => Ex 1 0 0 mX8_begin 0 0 25 [some (.ref 10), some (.ref 2), some (.int (nI k))] [] (St N I2 L) _) (Inv := fun k I2 => Sm [10, 11] I I2 ∧ I2 10 0 = 0 ∧ I2 10 1 = I 2 4 ∧ I2 10 2 = 0 ∧ I2 10 3 = 0 ∧ ∀ j, j < k → I2 11 j = I 6 j) 5 ?_ ?_ 0 _ (by decide) ⟨?_, ?_, ?_, ?_, ?_, fun _ h => absurd h (Nat.not_lt_zero _)⟩
  · rintro I1 ⟨hS, h0, h1, h2, h3, hz⟩
    refine Ex.iload_n (pc := 25) dX8_begin_25 rfl rfl ?_
    refine Ex.iconst (pc := 26) (v := 5) dX8_begin_26 rfl ?_
    refine Ex.icmp_ge (pc := 27) (tgt := 47) dX8_begin_27 (by decide) (fun _ => ?_) (fun c27 => absurd (by decide) c27)
    refine Ex.iconst (pc := 47) (v := 0) dX8_begin_47 rfl ?_
    refine Ex.istore_n (pc := 48) (ls' := [some (.ref 10), some (.ref 2), some (.int 0)]) dX8_begin_48 rfl (by decide) rfl rfl ?_
    refine forUp (σ := aI) (P := fun k I2 => Ex 1 0 0 mX8_begin 0 0 49 [some (.ref 10), some (.ref 2), some (.int (nI k))] [] (St N I2 L) _) (Inv := fun k I2 => Sm [10, 11, 12] I I2 ∧ I2 10 0 = 0 ∧ I2 10 1 = I 2 4 ∧ I2 10 2 = 0 ∧ I2 10 3 = 0 ∧ (∀ j, j < 5 → I2 11 j = I 6 j) ∧ ∀ j, j < k → I2 12 j = I 5 (6 + j)) 6 ?_ ?_ 0 _ (by decide) ⟨hS.tr Sm.rf (by decide) (l2 := []) (by decide), h0, h1, h2, h3, hz, fun _ h => absurd h (Nat.not_lt_zero _)⟩
    · intro I2 hI2
      refine Ex.iload_n (pc := 49) dX8_begin_49 rfl rfl ?_
      refine Ex.bipush (pc := 50) (v := 6) dX8_begin_50 rfl ?_
      refine Ex.icmp_ge (pc := 52) (tgt := 72) dX8_begin_52 (by decide) (fun _ => ?_) (fun c52 => absurd (by decide) c52)
      refine Ex.vret (pc := 72) rfl dX8_begin_72 (Nat.le_refl _) (Nat.le_refl _) ?_
      exact ⟨_, rfl, rfl, hI2⟩
    · rintro k I2 hk ⟨hS2, g0, g1, g2, g3, gz, gd⟩ ih
      refine Ex.iload_n (pc := 49) dX8_begin_49 rfl rfl ?_
      refine Ex.bipush (pc := 50) (v := 6) dX8_begin_50 rfl ?_
      refine Ex.icmp_ge (pc := 52) (tgt := 72) dX8_begin_52 (by decide) (fun c52 => absurd c52 (nI_ge (b := 6) hk (by decide))) (fun _ => ?_)
      refine Ex.aload_n (pc := 55) dX8_begin_55 rfl rfl ?_
      refine Ex.getR (pc := 56) dX8_begin_56 fX8_28 (sh10 _) r10_5 ?_
      refine Ex.iload_n (pc := 59) dX8_begin_59 rfl rfl ?_
      refine Ex.aload_n (pc := 60) dX8_begin_60 rfl rfl ?_
      refine Ex.iload_n (pc := 61) dX8_begin_61 rfl rfl ?_
      refine Ex.callV (pc := 62) (As := [.int _]) (rest := [.int _, .ref 12]) dX8_begin_62 cX8_38 (t_deepTold (j := k) (by omega)) (sh2 _) rfl rfl (by decide) (Nat.le_refl _) (Nat.le_refl _) (Nat.le_of_ble_eq_true rfl) (Or.inl (fun r S' h => by obtain ⟨_, h⟩ := h; subst h; rfl)) (fun r S' hq _ _ => ?_)
      obtain ⟨rfl, rfl⟩ := hq
      refine Ex.iast (pc := 65) (j := k) dX8_begin_65 (sh12 _) (vp_in_nI hk (by decide)) (ixN2 (by omega)) ?_
      refine Ex.iinc (pc := 66) (ls' := [some (.ref 10), some (.ref 2), some (.int _)]) dX8_begin_66 rfl rfl (by decide) rfl rfl ?_
      refine Ex.goto (pc := 69) (tgt := 49) dX8_begin_69 (by decide) ?_
      rw [show nI k + Int32.ofInt 1 = nI (k + 1) from nI_1 k]
      refine ih _ ⟨hS2.up (by decide), ?_, ?_, ?_, ?_, ?_, ?_⟩
      all_goals first | (rw [va_up_n (by decide)]; assumption) | skip
      intro j hj
      rw [va_up_s]
      by_cases e : j = k
      · rw [e, upd_s, hS2 5 (by decide)]
      · rw [upd_n e]; exact gd j (by omega)
  · rintro k I2 hk ⟨hS2, g0, g1, g2, g3, gz⟩ ih
    refine Ex.iload_n (pc := 25) dX8_begin_25 rfl rfl ?_
    refine Ex.iconst (pc := 26) (v := 5) dX8_begin_26 rfl ?_
    refine Ex.icmp_ge (pc := 27) (tgt := 47) dX8_begin_27 (by decide) (fun c27 => absurd c27 (nI_ge (b := 5) hk (by decide))) (fun _ => ?_)
    refine Ex.aload_n (pc := 30) dX8_begin_30 rfl rfl ?_
    refine Ex.getR (pc := 31) dX8_begin_31 fX8_24 (sh10 _) r10_4 ?_
    refine Ex.iload_n (pc := 34) dX8_begin_34 rfl rfl ?_
    refine Ex.aload_n (pc := 35) dX8_begin_35 rfl rfl ?_
    refine Ex.iload_n (pc := 36) dX8_begin_36 rfl rfl ?_
    refine Ex.callV (pc := 37) (As := [.int _]) (rest := [.int _, .ref 11]) dX8_begin_37 cX8_34 (t_zincTold (j := k) (by omega)) (sh2 _) rfl rfl (by decide) (Nat.le_refl _) (Nat.le_refl _) (Nat.le_of_ble_eq_true rfl) (Or.inl (fun r S' h => by obtain ⟨_, h⟩ := h; subst h; rfl)) (fun r S' hq _ _ => ?_)
    obtain ⟨rfl, rfl⟩ := hq
    refine Ex.iast (pc := 40) (j := k) dX8_begin_40 (sh11 _) (vp_in_nI hk (by decide)) (ixN2 (by omega)) ?_
    refine Ex.iinc (pc := 41) (ls' := [some (.ref 10), some (.ref 2), some (.int _)]) dX8_begin_41 rfl rfl (by decide) rfl rfl ?_
    refine Ex.goto (pc := 44) (tgt := 25) dX8_begin_44 (by decide) ?_
    rw [show nI k + Int32.ofInt 1 = nI (k + 1) from nI_1 k]
    refine ih _ ⟨hS2.up (by decide), ?_, ?_, ?_, ?_, ?_⟩
    all_goals first | (rw [va_up_n (by decide)]; assumption) | skip
    intro j hj
    rw [va_up_s]
    by_cases e : j = k
    · rw [e, upd_s, hS2 6 (by decide), Nat.zero_add]
    · rw [upd_n e]; exact gz j (by omega)
  all_goals first | (exact ((((Sm.rf.up (by decide)).up (by decide)).up (by decide)).up (by decide))) | simp [va_up, upd]
