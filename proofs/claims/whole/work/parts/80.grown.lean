/-! what chapel calls behind the Parser, over the grown memory: the plan is the cell 82 -/
def RR3 : aR := va_up (va_up RR2 0 (va_up (RR2 0) 2 (some 82))) 16 (va_up (RR2 16) 0 (some 82))
abbrev St3 (N M : Nat) (I : aI) (L : aL) : aS := (SH2 N M, I, L, RR3)
def RP3 (x : Option Value) (N M : Nat) (L : aL) (P : aI → Prop) : aQ := fun r S' => ∃ I' : aI, r = x ∧ S' = St3 N M I' L ∧ P I'
theorem s3_0 (N M : Nat) : (SH2 N M)[0]? = some (9, 0) := rfl
theorem s3_10 (N M : Nat) : (SH2 N M)[10]? = some (8, 0) := rfl
theorem s3_11 (N M : Nat) : (SH2 N M)[11]? = some (11, 5) := rfl
theorem s3_12 (N M : Nat) : (SH2 N M)[12]? = some (11, 6) := rfl
theorem s3_16 (N M : Nat) : (SH2 N M)[16]? = some (6, 0) := rfl
theorem s3_19 (N M : Nat) : (SH2 N M)[19]? = some (0, 0) := rfl
theorem s3_23 (N M : Nat) : (SH2 N M)[23]? = some (7, 0) := rfl
theorem s3_26 (N M : Nat) : (SH2 N M)[26]? = some (3, 0) := rfl
theorem s3_30 (N M : Nat) : (SH2 N M)[30]? = some (1, 0) := rfl
theorem s3_35 (N M : Nat) : (SH2 N M)[35]? = some (11, 6) := rfl
theorem s3_81 (N M : Nat) : (SH2 N M)[81]? = some (4, 0) := rfl
theorem s3_82 (N M : Nat) : (SH2 N M)[82]? = some (5, 0) := rfl
theorem s3_83 (N M : Nat) : (SH2 N M)[83]? = some (11, 3) := rfl
theorem s3_84 (N M : Nat) : (SH2 N M)[84]? = some (11, 18) := rfl
theorem s3_85 (N M : Nat) : (SH2 N M)[85]? = some (11, 18) := rfl
theorem s3_86 (N M : Nat) : (SH2 N M)[86]? = some (11, 18) := rfl
theorem s3_87 (N M : Nat) : (SH2 N M)[87]? = some (11, 5) := rfl
theorem s3_88 (N M : Nat) : (SH2 N M)[88]? = some (11, 5) := rfl
theorem s3_89 (N M : Nat) : (SH2 N M)[89]? = some (11, M) := rfl
theorem r3_0_2 : RR3 0 2 = some 82 := rfl
theorem r3_0_5 : RR3 0 5 = some 10 := rfl
theorem r3_0_7 : RR3 0 7 = some 16 := rfl
theorem r3_0_8 : RR3 0 8 = some 19 := rfl
theorem r3_0_10 : RR3 0 10 = some 23 := rfl
theorem r3_0_11 : RR3 0 11 = some 26 := rfl
theorem r3_0_12 : RR3 0 12 = some 30 := rfl
theorem r3_0_16 : RR3 0 16 = some 35 := rfl
theorem r3_10_4 : RR3 10 4 = some 11 := rfl
theorem r3_10_5 : RR3 10 5 = some 12 := rfl
theorem r3_16_0 : RR3 16 0 = some 82 := rfl
theorem r3_82_0 : RR3 82 0 = some 83 := rfl
theorem r3_82_1 : RR3 82 1 = some 84 := rfl
theorem r3_82_2 : RR3 82 2 = some 85 := rfl
theorem r3_82_3 : RR3 82 3 = some 86 := rfl
theorem r3_82_7 : RR3 82 7 = some 89 := rfl
theorem r3_82_9 : RR3 82 9 = some 87 := rfl
theorem r3_82_10 : RR3 82 10 = some 88 := rfl
theorem r3_81_2 : RR3 81 2 = some 82 := rfl
theorem r2b_0_0 : RR2 0 0 = some 1 := rfl
theorem r2b_0_2 : RR2 0 2 = some 2 := rfl
theorem r2b_0_16 : RR2 0 16 = some 35 := rfl
theorem r2b_0_7 : RR2 0 7 = some 16 := rfl
set_option maxRecDepth 20000 in
theorem t3_zincTold {N M : Nat} {I : aI} {L : aL} {j : Nat} (hj : j < 6) : Run 0 0 0 mX5_zincTold [.ref 82, .int (nI j)] (St3 N M I L) (RI (I 86 (0 + j)) (St3 N M I L)) := by
  refine Run.of (ls := [some (.ref 82), some (.int _)]) (by decide) (Nat.le_of_ble_eq_true rfl) rfl ?_
  refine Ex.aload_n (pc := 0) dX5_zincTold_0 rfl rfl ?_
  refine Ex.getR (pc := 1) dX5_zincTold_1 fX5_21 (s3_82 _ _) r3_82_3 ?_
  refine Ex.iconst (pc := 4) (v := 0) dX5_zincTold_4 rfl ?_
  refine Ex.iload_n (pc := 5) dX5_zincTold_5 rfl rfl ?_
  refine Ex.iadd (pc := 6) dX5_zincTold_6 ?_
  refine Ex.iald (pc := 7) (j := 0 + j) dX5_zincTold_7 (s3_86 _ _) (ixA (a := 0) rfl (by omega) (by decide)).1 (ixA2 (a := 0) rfl (by omega)) ?_
  refine Ex.iret (pc := 8) rfl rfl rfl dX5_zincTold_8 (Nat.le_refl _) (Nat.le_refl _) ?_
  exact ⟨rfl, rfl⟩
set_option maxRecDepth 20000 in
theorem t3_deepTold {N M : Nat} {I : aI} {L : aL} {j : Nat} (hj : j < 6) : Run 0 0 0 mX5_deepTold [.ref 82, .int (nI j)] (St3 N M I L) (RI (I 85 (6 + j)) (St3 N M I L)) := by
  refine Run.of (ls := [some (.ref 82), some (.int _)]) (by decide) (Nat.le_of_ble_eq_true rfl) rfl ?_
  refine Ex.aload_n (pc := 0) dX5_deepTold_0 rfl rfl ?_
  refine Ex.getR (pc := 1) dX5_deepTold_1 fX5_18 (s3_82 _ _) r3_82_2 ?_
  refine Ex.bipush (pc := 4) (v := 6) dX5_deepTold_4 rfl ?_
  refine Ex.iload_n (pc := 6) dX5_deepTold_6 rfl rfl ?_
  refine Ex.iadd (pc := 7) dX5_deepTold_7 ?_
  refine Ex.iald (pc := 8) (j := 6 + j) dX5_deepTold_8 (s3_85 _ _) (ixA (a := 6) rfl (by omega) (by decide)).1 (ixA2 (a := 6) rfl (by omega)) ?_
  refine Ex.iret (pc := 9) rfl rfl rfl dX5_deepTold_9 (Nat.le_refl _) (Nat.le_refl _) ?_
  exact ⟨rfl, rfl⟩
set_option maxRecDepth 20000 in
theorem t3_begin {N M : Nat} {I : aI} {L : aL} : Run 1 0 0 mX8_begin [.ref 10, .ref 82] (St3 N M I L) (RP3 none N M L (fun I2 => Sm [10, 11, 12] I I2 ∧ I2 10 0 = 0 ∧ I2 10 1 = I 82 4 ∧ I2 10 2 = 0 ∧ I2 10 3 = 0 ∧ (∀ j, j < 5 → I2 11 j = I 86 j) ∧ ∀ j, j < 6 → I2 12 j = I 85 (6 + j))) := by
  refine Run.of (ls := [some (.ref 10), some (.ref 82), none]) (by decide) (Nat.le_of_ble_eq_true rfl) rfl ?_
  refine Ex.aload_n (pc := 0) dX8_begin_0 rfl rfl ?_
  refine Ex.iconst (pc := 1) (v := 0) dX8_begin_1 rfl ?_
  refine Ex.putI (pc := 2) dX8_begin_2 fX8_9 (s3_10 _ _) (Or.inl rfl) ⟨rfl, rfl⟩ ?_
  refine Ex.aload_n (pc := 5) dX8_begin_5 rfl rfl ?_
  refine Ex.aload_n (pc := 6) dX8_begin_6 rfl rfl ?_
  refine Ex.getI (pc := 7) dX8_begin_7 fX8_31 (s3_82 _ _) ?_
  refine Ex.putI (pc := 10) dX8_begin_10 fX8_15 (s3_10 _ _) (Or.inl rfl) ⟨rfl, rfl⟩ ?_
  refine Ex.aload_n (pc := 13) dX8_begin_13 rfl rfl ?_
  refine Ex.iconst (pc := 14) (v := 0) dX8_begin_14 rfl ?_
  refine Ex.putI (pc := 15) dX8_begin_15 fX8_18 (s3_10 _ _) (Or.inl rfl) ⟨rfl, rfl⟩ ?_
  refine Ex.aload_n (pc := 18) dX8_begin_18 rfl rfl ?_
  refine Ex.iconst (pc := 19) (v := 0) dX8_begin_19 rfl ?_
  refine Ex.putI (pc := 20) dX8_begin_20 fX8_21 (s3_10 _ _) (Or.inl rfl) ⟨rfl, rfl⟩ ?_
  refine Ex.iconst (pc := 23) (v := 0) dX8_begin_23 rfl ?_
  refine Ex.istore_n (pc := 24) (ls' := [some (.ref 10), some (.ref 82), some (.int 0)]) dX8_begin_24 rfl (by decide) rfl rfl ?_
  refine forUp (σ := aI) (P := fun k I2 => Ex 1 0 0 mX8_begin 0 0 25 [some (.ref 10), some (.ref 82), some (.int (nI k))] [] (St3 N M I2 L) _) (Inv := fun k I2 => Sm [10, 11] I I2 ∧ I2 10 0 = 0 ∧ I2 10 1 = I 82 4 ∧ I2 10 2 = 0 ∧ I2 10 3 = 0 ∧ ∀ j, j < k → I2 11 j = I 86 j) 5 ?_ ?_ 0 _ (by decide) ⟨?_, ?_, ?_, ?_, ?_, fun _ h => absurd h (Nat.not_lt_zero _)⟩
  · rintro I1 ⟨hS, h0, h1, h2, h3, hz⟩
    refine Ex.iload_n (pc := 25) dX8_begin_25 rfl rfl ?_
    refine Ex.iconst (pc := 26) (v := 5) dX8_begin_26 rfl ?_
    refine Ex.icmp_ge (pc := 27) (tgt := 47) dX8_begin_27 (by decide) (fun _ => ?_) (fun c27 => absurd (by decide) c27)
    refine Ex.iconst (pc := 47) (v := 0) dX8_begin_47 rfl ?_
    refine Ex.istore_n (pc := 48) (ls' := [some (.ref 10), some (.ref 82), some (.int 0)]) dX8_begin_48 rfl (by decide) rfl rfl ?_
    refine forUp (σ := aI) (P := fun k I2 => Ex 1 0 0 mX8_begin 0 0 49 [some (.ref 10), some (.ref 82), some (.int (nI k))] [] (St3 N M I2 L) _) (Inv := fun k I2 => Sm [10, 11, 12] I I2 ∧ I2 10 0 = 0 ∧ I2 10 1 = I 82 4 ∧ I2 10 2 = 0 ∧ I2 10 3 = 0 ∧ (∀ j, j < 5 → I2 11 j = I 86 j) ∧ ∀ j, j < k → I2 12 j = I 85 (6 + j)) 6 ?_ ?_ 0 _ (by decide) ⟨hS.tr Sm.rf (by decide) (l2 := []) (by decide), h0, h1, h2, h3, hz, fun _ h => absurd h (Nat.not_lt_zero _)⟩
    · intro I2 hI2
      refine Ex.iload_n (pc := 49) dX8_begin_49 rfl rfl ?_
      refine Ex.bipush (pc := 50) (v := 6) dX8_begin_50 rfl ?_
      refine Ex.icmp_ge (pc := 52) (tgt := 72) dX8_begin_52 (by decide) (fun _ => ?_) (fun c52 => absurd (by decide) c52)
      refine Ex.vret (pc := 72) rfl dX8_begin_72 (Nat.le_refl _) (Nat.le_refl _) ?_
      exact ⟨_, rfl, rfl, hI2⟩
    · rintro k I2 hk ⟨hS2, g0, g1, g2, g3, gz, gd⟩ ih
      refine Ex.iload_n (pc := 49) dX8_begin_49 rfl rfl ?_
      refine Ex.bipush (pc := 50) (v := 6) dX8_begin_50 rfl ?_
      refine Ex.icmp_ge (pc := 52) (tgt := 72) dX8_begin_52 (by decide) (fun c52 => absurd c52 (nI_ge (b := 6) hk (by decide))) (fun _ => ?_)
      refine Ex.aload_n (pc := 55) dX8_begin_55 rfl rfl ?_
      refine Ex.getR (pc := 56) dX8_begin_56 fX8_28 (s3_10 _ _) r3_10_5 ?_
      refine Ex.iload_n (pc := 59) dX8_begin_59 rfl rfl ?_
      refine Ex.aload_n (pc := 60) dX8_begin_60 rfl rfl ?_
      refine Ex.iload_n (pc := 61) dX8_begin_61 rfl rfl ?_
      refine Ex.callV (pc := 62) (As := [.int _]) (rest := [.int _, .ref 12]) dX8_begin_62 cX8_38 (t3_deepTold (j := k) (by omega)) (s3_82 _ _) rfl rfl (by decide) (Nat.le_refl _) (Nat.le_refl _) (Nat.le_of_ble_eq_true rfl) (Or.inl (fun r S' h => by obtain ⟨_, h⟩ := h; subst h; rfl)) (fun r S' hq _ _ => ?_)
      obtain ⟨rfl, rfl⟩ := hq
      refine Ex.iast (pc := 65) (j := k) dX8_begin_65 (s3_12 _ _) (vp_in_nI hk (by decide)) (ixN2 (by omega)) ?_
      refine Ex.iinc (pc := 66) (ls' := [some (.ref 10), some (.ref 82), some (.int _)]) dX8_begin_66 rfl rfl (by decide) rfl rfl ?_
      refine Ex.goto (pc := 69) (tgt := 49) dX8_begin_69 (by decide) ?_
      rw [show nI k + Int32.ofInt 1 = nI (k + 1) from nI_1 k]
      refine ih _ ⟨hS2.up (by decide), ?_, ?_, ?_, ?_, ?_, ?_⟩
      all_goals first | (rw [va_up_n (by decide)]; assumption) | skip
      intro j hj
      rw [va_up_s]
      by_cases e : j = k
      · rw [e, upd_s, hS2 85 (by decide)]
      · rw [upd_n e]; exact gd j (by omega)
  · rintro k I2 hk ⟨hS2, g0, g1, g2, g3, gz⟩ ih
    refine Ex.iload_n (pc := 25) dX8_begin_25 rfl rfl ?_
    refine Ex.iconst (pc := 26) (v := 5) dX8_begin_26 rfl ?_
    refine Ex.icmp_ge (pc := 27) (tgt := 47) dX8_begin_27 (by decide) (fun c27 => absurd c27 (nI_ge (b := 5) hk (by decide))) (fun _ => ?_)
    refine Ex.aload_n (pc := 30) dX8_begin_30 rfl rfl ?_
    refine Ex.getR (pc := 31) dX8_begin_31 fX8_24 (s3_10 _ _) r3_10_4 ?_
    refine Ex.iload_n (pc := 34) dX8_begin_34 rfl rfl ?_
    refine Ex.aload_n (pc := 35) dX8_begin_35 rfl rfl ?_
    refine Ex.iload_n (pc := 36) dX8_begin_36 rfl rfl ?_
    refine Ex.callV (pc := 37) (As := [.int _]) (rest := [.int _, .ref 11]) dX8_begin_37 cX8_34 (t3_zincTold (j := k) (by omega)) (s3_82 _ _) rfl rfl (by decide) (Nat.le_refl _) (Nat.le_refl _) (Nat.le_of_ble_eq_true rfl) (Or.inl (fun r S' h => by obtain ⟨_, h⟩ := h; subst h; rfl)) (fun r S' hq _ _ => ?_)
    obtain ⟨rfl, rfl⟩ := hq
    refine Ex.iast (pc := 40) (j := k) dX8_begin_40 (s3_11 _ _) (vp_in_nI hk (by decide)) (ixN2 (by omega)) ?_
    refine Ex.iinc (pc := 41) (ls' := [some (.ref 10), some (.ref 82), some (.int _)]) dX8_begin_41 rfl rfl (by decide) rfl rfl ?_
    refine Ex.goto (pc := 44) (tgt := 25) dX8_begin_44 (by decide) ?_
    rw [show nI k + Int32.ofInt 1 = nI (k + 1) from nI_1 k]
    refine ih _ ⟨hS2.up (by decide), ?_, ?_, ?_, ?_, ?_⟩
    all_goals first | (rw [va_up_n (by decide)]; assumption) | skip
    intro j hj
    rw [va_up_s]
    by_cases e : j = k
    · rw [e, upd_s, hS2 86 (by decide), Nat.zero_add]
    · rw [upd_n e]; exact gz j (by omega)
  all_goals first | (exact ((((Sm.rf.up (by decide)).up (by decide)).up (by decide)).up (by decide))) | simp [va_up, upd]
set_option maxRecDepth 20000 in
theorem t3_forget {N M : Nat} {I : aI} {L : aL} : Run 0 0 0 mX0_forget [.ref 19] (St3 N M I L) (RV (St3 N M (va_up I 19 (upd (I 19) 1 0)) L)) := by
  refine Run.of (ls := [some (.ref 19)]) (by decide) (Nat.le_of_ble_eq_true rfl) rfl ?_
  refine Ex.aload_n (pc := 0) dX0_forget_0 rfl rfl ?_
  refine Ex.iconst (pc := 1) (v := 0) dX0_forget_1 rfl ?_
  refine Ex.putI (pc := 2) dX0_forget_2 fX0_17 (s3_19 _ _) (Or.inl rfl) ⟨rfl, rfl⟩ ?_
  refine Ex.vret (pc := 5) rfl dX0_forget_5 (Nat.le_refl _) (Nat.le_refl _) ?_
  exact ⟨rfl, rfl⟩
set_option maxRecDepth 20000 in
theorem t3_forgetAnswers {N M : Nat} {I : aI} {L : aL} : Run 0 0 0 mX9_forgetAnswers [.ref 0] (St3 N M I L) (RV (St3 N M (forgI I) L)) := by
  refine Run.of (ls := [some (.ref 0)]) (by decide) (Nat.le_of_ble_eq_true rfl) rfl ?_
  refine Ex.aload_n (pc := 0) dX9_forgetAnswers_0 rfl rfl ?_
  refine Ex.getR (pc := 1) dX9_forgetAnswers_1 fX9_77 (s3_0 _ _) r3_0_11 ?_
  refine Ex.iconst (pc := 4) (v := 0) dX9_forgetAnswers_4 rfl ?_
  refine Ex.putI (pc := 5) dX9_forgetAnswers_5 fX9_225 (s3_26 _ _) (Or.inl rfl) ⟨rfl, rfl⟩ ?_
  refine Ex.aload_n (pc := 8) dX9_forgetAnswers_8 rfl rfl ?_
  refine Ex.getR (pc := 9) dX9_forgetAnswers_9 fX9_84 (s3_0 _ _) r3_0_12 ?_
  refine Ex.iconst (pc := 12) (v := (-1)) dX9_forgetAnswers_12 rfl ?_
  refine Ex.putI (pc := 13) dX9_forgetAnswers_13 fX9_238 (s3_30 _ _) (Or.inl rfl) ⟨rfl, rfl⟩ ?_
  refine Ex.vret (pc := 16) rfl dX9_forgetAnswers_16 (Nat.le_refl _) (Nat.le_refl _) ?_
  exact ⟨rfl, by simp only [forgI]; rw [va_up_n (show (30 : Nat) ≠ 26 by decide)]⟩
set_option maxRecDepth 20000 in
theorem t2_refuse {N M : Nat} {I : aI} {L : aL} {k : Nat} (hk : k < 6) : Run 0 0 0 mX9_refuse [.ref 0, .int (nI k)] (St2 N M I L) (RI (-1) (St2 N M (refI I k) L)) := by
  refine Run.of (ls := [some (.ref 0), some (.int _)]) (by decide) (Nat.le_of_ble_eq_true rfl) rfl ?_
  refine Ex.aload_n (pc := 0) dX9_refuse_0 rfl rfl ?_
  refine Ex.getR (pc := 1) dX9_refuse_1 fX9_99 (s3_0 _ _) r2b_0_16 ?_
  refine Ex.iload_n (pc := 4) dX9_refuse_4 rfl rfl ?_
  refine Ex.dup2 (pc := 5) dX9_refuse_5 rfl rfl ?_
  refine Ex.iald (pc := 6) (j := k) dX9_refuse_6 (s3_35 _ _) (vp_in_nI hk (by decide)) (ixN2 (by omega)) ?_
  refine Ex.iconst (pc := 7) (v := 1) dX9_refuse_7 rfl ?_
  refine Ex.iadd (pc := 8) dX9_refuse_8 ?_
  refine Ex.iast (pc := 9) (j := k) dX9_refuse_9 (s3_35 _ _) (vp_in_nI hk (by decide)) (ixN2 (by omega)) ?_
  refine Ex.iconst (pc := 10) (v := (-1)) dX9_refuse_10 rfl ?_
  refine Ex.iret (pc := 11) rfl rfl rfl dX9_refuse_11 (Nat.le_refl _) (Nat.le_refl _) ?_
  exact ⟨rfl, rfl⟩
