def hdG (p : aP) (f5 f6 : Nat → Int32) (x : aX) (b : Nat) (g : aHe) : aHe := goF (lookV p f5 f6 x b) x.2.2.2.2 7 0 0 (x.2.2.2.1 b) 0 (0, 0, g.2.2.1, g.2.2.2)
def hdV (g : aHe) (v : Int32) : Int32 := if v = 0 then g.1 else if v = 1 then g.2.1 else if g.1 ≤ v - 2 then -1 else g.2.2.1 (v - 2).toNatClampNeg
set_option maxRecDepth 20000 in
theorem t_hsolve {N : Nat} {I : aI} {L : aL} {p : aP} {b : Nat} (hp : PlanG N I p) (hb : b < 5) : Run 12 0 0 mX1_solve [.ref 30, .int (nI b)] (St N I L) (RP none N L (fun I2 => Sm [16, 17, 18, 30, 31, 32, 33] I I2 ∧ I2 30 0 = nI b ∧ heOf I2 = hdG p (I 5) (I 6) (xOf I 10) b (heOf I))) := by
  refine Run.of (ls := [some (.ref 30), some (.int _), none]) (by decide) (Nat.le_of_ble_eq_true rfl) rfl ?_
  refine Ex.aload_n (pc := 0) dX1_solve_0 rfl rfl ?_
  refine Ex.iload_n (pc := 1) dX1_solve_1 rfl rfl ?_
  refine Ex.putI (pc := 2) dX1_solve_2 fX1_9 (sh30 _) (Or.inl rfl) ⟨rfl, rfl⟩ ?_
  refine Ex.aload_n (pc := 5) dX1_solve_5 rfl rfl ?_
  refine Ex.iconst (pc := 6) (v := 0) dX1_solve_6 rfl ?_
  refine Ex.putI (pc := 7) dX1_solve_7 fX1_15 (sh30 _) (Or.inl rfl) ⟨rfl, rfl⟩ ?_
  refine Ex.aload_n (pc := 10) dX1_solve_10 rfl rfl ?_
  refine Ex.iconst (pc := 11) (v := 0) dX1_solve_11 rfl ?_
  refine Ex.putI (pc := 12) dX1_solve_12 fX1_18 (sh30 _) (Or.inl rfl) ⟨rfl, rfl⟩ ?_
  refine Ex.iconst (pc := 15) (v := 0) dX1_solve_15 rfl ?_
  refine Ex.istore_n (pc := 16) (ls' := [some (.ref 30), some (.int _), some (.int 0)]) dX1_solve_16 rfl (by decide) rfl rfl ?_
  refine Ex.le (ls' := [some (.ref 30), some (.int (nI b)), some (.int (nI 0))]) ⟨rfl, rfl, rfl, trivial⟩ ?_
  refine forUp (σ := aI) (P := fun k I2 => Ex 12 0 0 mX1_solve 0 0 17 [some (.ref 30), some (.int (nI b)), some (.int (nI k))] [] (St N I2 L) _) (Inv := fun k I2 => Sm [30, 33] I I2 ∧ I2 30 0 = nI b ∧ I2 30 1 = 0 ∧ I2 30 2 = 0 ∧ ∀ j, j < k → I2 33 j = -1) 600 ?_ ?_ 0 _ (Nat.zero_le _) ⟨((Sm.rf.up (by decide)).up (by decide)).up (by decide), by simp [va_up, upd], by simp [va_up, upd], by simp [va_up, upd], fun _ h => absurd h (Nat.not_lt_zero _)⟩
  · rintro I2 ⟨hS, h0, h1, h2, hk⟩
    have hV : lookV p (I2 5) (I2 6) (xOf I2 10) b = lookV p (I 5) (I 6) (xOf I 10) b := look_sm hS (by decide) (by decide) (by decide) (by decide) (by decide)
    refine Ex.iload_n (pc := 17) dX1_solve_17 rfl rfl ?_
    refine Ex.aload_n (pc := 18) dX1_solve_18 rfl rfl ?_
    refine Ex.getR (pc := 19) dX1_solve_19 fX1_28 (sh30 _) r30_5 ?_
    refine Ex.alen (pc := 22) (t := 0) dX1_solve_22 (sh33 _) (by decide) ?_
    refine Ex.icmp_ge (pc := 23) (tgt := 39) dX1_solve_23 (by decide) (fun _ => ?_) (fun c23 => absurd (show Int32.ofNat 600 ≤ nI 600 from by decide) c23)
    refine Ex.aload_n (pc := 39) dX1_solve_39 rfl rfl ?_
    refine Ex.iconst (pc := 40) (v := 0) dX1_solve_40 rfl ?_
    refine Ex.iconst (pc := 41) (v := 0) dX1_solve_41 rfl ?_
    refine Ex.aload_n (pc := 42) dX1_solve_42 rfl rfl ?_
    refine Ex.getR (pc := 43) dX1_solve_43 fX1_35 (sh30 _) r30_7 ?_
    refine Ex.getR (pc := 46) dX1_solve_46 fX1_39 (sh10 _) r10_4 ?_
    refine Ex.iload_n (pc := 49) dX1_solve_49 rfl rfl ?_
    refine Ex.iald (pc := 50) (j := b) dX1_solve_50 (sh11 _) (vp_in_nI hb (by decide)) (ixN2 (by omega)) ?_
    rw [hS 11 (by decide)]
    refine Ex.iconst (pc := 51) (v := 0) dX1_solve_51 rfl ?_
    refine Ex.callV (pc := 52) (As := [.int 0, .int 0, .int _, .int 0]) (rest := []) dX1_solve_52 cX1_44 (t_goOn (p := p) (b := b) hb 7 0 0 (I 11 b) 0 I2 (hp.sm hS (by decide) (by decide) (by decide) (by decide)) h0 (fun s z h3 h4 h5 => Or.inl (hk _ (by omega))) rfl (by decide)) (sh30 _) rfl rfl (by decide) (Nat.le_refl _) (Nat.le_refl _) (Nat.le_of_ble_eq_true rfl) (Or.inl (fun r S' h => by obtain ⟨_, _, h, _⟩ := h; subst h; rfl)) (fun r S' hq _ _ => ?_)
    obtain ⟨I3, rfl, rfl, hI3⟩ := hq
    rw [hV] at hI3
    refine Ex.vret (pc := 55) rfl dX1_solve_55 (Nat.le_refl _) (Nat.le_refl _) ?_
    refine ⟨_, rfl, rfl, hS.tr hI3.1 (by decide) (by decide), hI3.2.1.trans h0, ?_⟩
    rw [hI3.of]
    unfold hdG
    rw [hS 12 (by decide)]
    have e0 : heOf I2 = (0, 0, (heOf I).2.2.1, (heOf I).2.2.2) := by unfold heOf; rw [h1, h2, hS 31 (by decide), hS 32 (by decide)]
    rw [e0]
    rfl
  · rintro k I2 hk6 ⟨hS, h0, h1, h2, hk⟩ ih
    refine Ex.iload_n (pc := 17) dX1_solve_17 rfl rfl ?_
    refine Ex.aload_n (pc := 18) dX1_solve_18 rfl rfl ?_
    refine Ex.getR (pc := 19) dX1_solve_19 fX1_28 (sh30 _) r30_5 ?_
    refine Ex.alen (pc := 22) (t := 0) dX1_solve_22 (sh33 _) (by decide) ?_
    refine Ex.icmp_ge (pc := 23) (tgt := 39) dX1_solve_23 (by decide) (fun c23 => absurd c23 (show ¬ nI 600 ≤ nI k from nI_ge (b := 600) hk6 (by decide))) (fun _ => ?_)
    refine Ex.aload_n (pc := 26) dX1_solve_26 rfl rfl ?_
    refine Ex.getR (pc := 27) dX1_solve_27 fX1_28 (sh30 _) r30_5 ?_
    refine Ex.iload_n (pc := 30) dX1_solve_30 rfl rfl ?_
    refine Ex.iconst (pc := 31) (v := (-1)) dX1_solve_31 rfl ?_
    refine Ex.iast (pc := 32) (j := k) dX1_solve_32 (sh33 _) (vp_in_nI hk6 (by decide)) (ixN2 (by omega)) ?_
    refine Ex.iinc (pc := 33) (ls' := [some (.ref 30), some (.int _), some (.int _)]) dX1_solve_33 rfl rfl (by decide) rfl rfl ?_
    refine Ex.goto (pc := 36) (tgt := 17) dX1_solve_36 (by decide) ?_
    rw [show nI k + Int32.ofInt 1 = nI (k + 1) from nI_1 k]
    refine ih _ ⟨hS.up (by decide), ?_, ?_, ?_, ?_⟩
    · rw [va_up_n (by decide)]; exact h0
    · rw [va_up_n (by decide)]; exact h1
    · rw [va_up_n (by decide)]; exact h2
    · rw [va_up_s]; exact rows_up (g := fun _ => -1) hk rfl
set_option maxRecDepth 20000 in
theorem t_heads0 {N : Nat} {I : aI} {L : aL} {p : aP} {nb ns nh : Nat} (hp : PlanG N I p) (hc : CntOk I nb ns nh) {w v : Int32} (hbad : ¬ (inR w nb = true ∧ 0 ≤ v)) : Run 1 0 0 mX9_heads [.ref 0, .int w, .int v] (St N I L) (RI (-1) (St N I L)) := by
  refine Run.of (ls := [some (.ref 0), some (.int _), some (.int _)]) (by decide) (Nat.le_of_ble_eq_true rfl) rfl ?_
  obtain ⟨hc0, hb5, hc1, hs6, hc2, hh6, hrib⟩ := id hc
  refine Ex.aload_n (pc := 0) dX9_heads_0 rfl rfl ?_
  refine Ex.getR (pc := 1) dX9_heads_1 fX9_22 (sh0 _) r0_2 ?_
  refine Ex.iconst (pc := 4) (v := 0) dX9_heads_4 rfl ?_
  refine Ex.iload_n (pc := 5) dX9_heads_5 rfl rfl ?_
  refine Ex.callV (pc := 6) (As := [.int 0, .int _]) (rest := []) dX9_heads_6 cX9_182 (t_holdsB (s := 0) (n := nb) (by decide) hc0) (sh2 _) rfl rfl (by decide) (Nat.le_refl _) (Nat.le_refl _) (Nat.le_of_ble_eq_true rfl) (Or.inl (fun r S' h => by obtain ⟨_, h⟩ := h; subst h; rfl)) (fun r S' hq _ _ => ?_)
  obtain ⟨rfl, rfl⟩ := hq
  refine Ex.if_eq (pc := 9) (tgt := 16) dX9_heads_9 (by decide) (fun c9 => ?_) (fun c9 => ?_)
  · skip
    refine Ex.iconst (pc := 16) (v := (-1)) dX9_heads_16 rfl ?_
    refine Ex.iret (pc := 17) rfl rfl rfl dX9_heads_17 (Nat.le_refl _) (Nat.le_refl _) ?_
    exact ⟨rfl, rfl⟩
  · skip
    refine Ex.iload_n (pc := 12) dX9_heads_12 rfl rfl ?_
    refine Ex.if_ge (pc := 13) (tgt := 18) dX9_heads_13 (by decide) (fun c13 => ?_) (fun c13 => ?_)
    · skip
      exact absurd ⟨bI_1 c9, c13⟩ hbad
    · skip
      refine Ex.iconst (pc := 16) (v := (-1)) dX9_heads_16 rfl ?_
      refine Ex.iret (pc := 17) rfl rfl rfl dX9_heads_17 (Nat.le_refl _) (Nat.le_refl _) ?_
      exact ⟨rfl, rfl⟩
set_option maxRecDepth 20000 in
theorem t_headss {N : Nat} {I : aI} {L : aL} {p : aP} {nb ns nh : Nat} (hp : PlanG N I p) (hc : CntOk I nb ns nh) {b : Nat} {v : Int32} (hb : b < nb) (hv : 0 ≤ v) (hne : ¬ I 30 0 = nI b) (hm6 : ∃ q, q ≤ 6 ∧ (hdG p (I 5) (I 6) (xOf I 10) b (heOf I)).1 = nI q) : Run 13 0 0 mX9_heads [.ref 0, .int (nI b), .int v] (St N I L) (RP (some (.int (hdV (hdG p (I 5) (I 6) (xOf I 10) b (heOf I)) v))) N L (fun I2 => Sm [16, 17, 18, 30, 31, 32, 33] I I2 ∧ I2 30 0 = nI b ∧ heOf I2 = (hdG p (I 5) (I 6) (xOf I 10) b (heOf I)))) := by
  refine Run.of (ls := [some (.ref 0), some (.int _), some (.int _)]) (by decide) (Nat.le_of_ble_eq_true rfl) rfl ?_
  obtain ⟨hc0, hb5, hc1, hs6, hc2, hh6, hrib⟩ := id hc
  obtain ⟨q6, hq6, hq6e⟩ := hm6
  refine Ex.aload_n (pc := 0) dX9_heads_0 rfl rfl ?_
  refine Ex.getR (pc := 1) dX9_heads_1 fX9_22 (sh0 _) r0_2 ?_
  refine Ex.iconst (pc := 4) (v := 0) dX9_heads_4 rfl ?_
  refine Ex.iload_n (pc := 5) dX9_heads_5 rfl rfl ?_
  refine Ex.callV (pc := 6) (As := [.int 0, .int _]) (rest := []) dX9_heads_6 cX9_182 (t_holdsB (s := 0) (n := nb) (by decide) hc0) (sh2 _) rfl rfl (by decide) (Nat.le_refl _) (Nat.le_refl _) (Nat.le_of_ble_eq_true rfl) (Or.inl (fun r S' h => by obtain ⟨_, h⟩ := h; subst h; rfl)) (fun r S' hq _ _ => ?_)
  obtain ⟨rfl, rfl⟩ := hq
  rw [inR_nI hb (by omega)]
  refine Ex.if_eq (pc := 9) (tgt := 16) dX9_heads_9 (by decide) (fun c9 => absurd c9 (by decide)) (fun _ => ?_)
  refine Ex.iload_n (pc := 12) dX9_heads_12 rfl rfl ?_
  refine Ex.if_ge (pc := 13) (tgt := 18) dX9_heads_13 (by decide) (fun _ => ?_) (fun c13 => absurd hv c13)
  refine Ex.aload_n (pc := 18) dX9_heads_18 rfl rfl ?_
  refine Ex.getR (pc := 19) dX9_heads_19 fX9_84 (sh0 _) r0_12 ?_
  refine Ex.getI (pc := 22) dX9_heads_22 fX9_238 (sh30 _) ?_
  refine Ex.iload_n (pc := 25) dX9_heads_25 rfl rfl ?_
  refine Ex.icmp_eq (pc := 26) (tgt := 37) dX9_heads_26 (by decide) (fun c26 => absurd c26 hne) (fun _ => ?_)
  refine Ex.aload_n (pc := 29) dX9_heads_29 rfl rfl ?_
  refine Ex.getR (pc := 30) dX9_heads_30 fX9_84 (sh0 _) r0_12 ?_
  refine Ex.iload_n (pc := 33) dX9_heads_33 rfl rfl ?_
  refine Ex.callV (pc := 34) (As := [.int _]) (rest := []) dX9_heads_34 cX9_241 (t_hsolve hp (by omega)) (sh30 _) rfl rfl (by decide) (Nat.le_refl _) (Nat.le_refl _) (Nat.le_of_ble_eq_true rfl) (Or.inl (fun r S' h => by obtain ⟨_, _, h, _⟩ := h; subst h; rfl)) (fun r S' hq _ _ => ?_)
  obtain ⟨I3, rfl, rfl, hS3, h303, hg3⟩ := hq
  refine Ex.iload_n (pc := 37) dX9_heads_37 rfl rfl ?_
  refine Ex.if_ne (pc := 38) (tgt := 49) dX9_heads_38 (by decide) (fun c38 => ?_) (fun c38 => ?_)
  · skip
    refine Ex.iload_n (pc := 49) dX9_heads_49 rfl rfl ?_
    refine Ex.iconst (pc := 50) (v := 1) dX9_heads_50 rfl ?_
    refine Ex.icmp_ne (pc := 51) (tgt := 62) dX9_heads_51 (by decide) (fun c51 => ?_) (fun c51 => ?_)
    · skip
      refine Ex.iload_n (pc := 62) dX9_heads_62 rfl rfl ?_
      refine Ex.iconst (pc := 63) (v := 2) dX9_heads_63 rfl ?_
      refine Ex.isub (pc := 64) dX9_heads_64 ?_
      refine Ex.aload_n (pc := 65) dX9_heads_65 rfl rfl ?_
      refine Ex.getR (pc := 66) dX9_heads_66 fX9_84 (sh0 _) r0_12 ?_
      refine Ex.getI (pc := 69) dX9_heads_69 fX9_243 (sh30 _) ?_
      refine Ex.icmp_ge (pc := 72) (tgt := 89) dX9_heads_72 (by decide) (fun c72 => ?_) (fun c72 => ?_)
      · skip
        refine Ex.iconst (pc := 89) (v := (-1)) dX9_heads_89 rfl ?_
        refine Ex.iret (pc := 90) rfl rfl rfl dX9_heads_90 (Nat.le_refl _) (Nat.le_refl _) ?_
        refine ⟨_, congrArg (fun z => some (Value.int z)) ?_, rfl, hS3, h303, hg3⟩
        rw [← hg3]
        unfold hdV
        rw [if_neg c38, if_neg c51, if_pos (show (heOf I3).1 ≤ v - 2 from c72)]
      · skip
        refine Ex.aload_n (pc := 75) dX9_heads_75 rfl rfl ?_
        refine Ex.getR (pc := 76) dX9_heads_76 fX9_84 (sh0 _) r0_12 ?_
        refine Ex.getR (pc := 79) dX9_heads_79 fX9_247 (sh30 _) r30_3 ?_
        refine Ex.iload_n (pc := 82) dX9_heads_82 rfl rfl ?_
        refine Ex.iconst (pc := 83) (v := 2) dX9_heads_83 rfl ?_
        refine Ex.isub (pc := 84) dX9_heads_84 ?_
        refine Ex.iald (pc := 85) dX9_heads_85 (sh31 _) (by
        have hmost : I3 30 1 = nI q6 := by rw [← hq6e, ← hg3]; rfl
        have c72 := c72
        rw [hmost] at c72
        obtain ⟨j, hj, e⟩ := nI_of (x := v) (fun q => absurd hv (Int32.not_le.mpr q))
        have hj2 : 2 ≤ j := by
          rcases (show j = 0 ∨ j = 1 ∨ 2 ≤ j by omega) with q | q | q
          · exact absurd (by rw [e, q]; rfl) c38
          · exact absurd (by rw [e, q]; rfl) c51
          · exact q
        rw [e, show nI j - 2 = nI (j - 2) from pk_sub (b := 2) hj2] at c72 ⊢
        have : j - 2 < q6 := by
          rcases Nat.lt_or_ge (j - 2) q6 with q | q
          · exact q
          · exact absurd (nI_le q (by omega)) c72
        exact vp_in_nI (by omega) (by decide)) rfl ?_
        refine Ex.goto (pc := 86) (tgt := 90) dX9_heads_86 (by decide) ?_
        refine Ex.iret (pc := 90) rfl rfl rfl dX9_heads_90 (Nat.le_refl _) (Nat.le_refl _) ?_
        refine ⟨_, congrArg (fun z => some (Value.int z)) ?_, rfl, hS3, h303, hg3⟩
        rw [← hg3]
        unfold hdV
        rw [if_neg c38, if_neg c51, if_neg (show ¬ (heOf I3).1 ≤ v - 2 from c72)]; rfl
    · skip
      refine Ex.aload_n (pc := 54) dX9_heads_54 rfl rfl ?_
      refine Ex.getR (pc := 55) dX9_heads_55 fX9_84 (sh0 _) r0_12 ?_
      refine Ex.getI (pc := 58) dX9_heads_58 fX9_246 (sh30 _) ?_
      refine Ex.iret (pc := 61) rfl rfl rfl dX9_heads_61 (Nat.le_refl _) (Nat.le_refl _) ?_
      refine ⟨_, congrArg (fun z => some (Value.int z)) ?_, rfl, hS3, h303, hg3⟩
      rw [← hg3]
      unfold hdV
      rw [if_neg c38, if_pos c51]; rfl
  · skip
    refine Ex.aload_n (pc := 41) dX9_heads_41 rfl rfl ?_
    refine Ex.getR (pc := 42) dX9_heads_42 fX9_84 (sh0 _) r0_12 ?_
    refine Ex.getI (pc := 45) dX9_heads_45 fX9_243 (sh30 _) ?_
    refine Ex.iret (pc := 48) rfl rfl rfl dX9_heads_48 (Nat.le_refl _) (Nat.le_refl _) ?_
    refine ⟨_, congrArg (fun z => some (Value.int z)) ?_, rfl, hS3, h303, hg3⟩
    rw [← hg3]
    unfold hdV
    rw [if_pos c38]; rfl
set_option maxRecDepth 20000 in
theorem t_headsk {N : Nat} {I : aI} {L : aL} {p : aP} {nb ns nh : Nat} (hp : PlanG N I p) (hc : CntOk I nb ns nh) {b : Nat} {v : Int32} (hb : b < nb) (hv : 0 ≤ v) (heq : I 30 0 = nI b) (hm6 : ∃ q, q ≤ 6 ∧ (heOf I).1 = nI q) : Run 13 0 0 mX9_heads [.ref 0, .int (nI b), .int v] (St N I L) (RP (some (.int (hdV (heOf I) v))) N L (fun I2 => Sm [16, 17, 18, 30, 31, 32, 33] I I2 ∧ I2 30 0 = nI b ∧ heOf I2 = (heOf I))) := by
  refine Run.of (ls := [some (.ref 0), some (.int _), some (.int _)]) (by decide) (Nat.le_of_ble_eq_true rfl) rfl ?_
  obtain ⟨hc0, hb5, hc1, hs6, hc2, hh6, hrib⟩ := id hc
  obtain ⟨q6, hq6, hq6e⟩ := hm6
  refine Ex.aload_n (pc := 0) dX9_heads_0 rfl rfl ?_
  refine Ex.getR (pc := 1) dX9_heads_1 fX9_22 (sh0 _) r0_2 ?_
  refine Ex.iconst (pc := 4) (v := 0) dX9_heads_4 rfl ?_
  refine Ex.iload_n (pc := 5) dX9_heads_5 rfl rfl ?_
  refine Ex.callV (pc := 6) (As := [.int 0, .int _]) (rest := []) dX9_heads_6 cX9_182 (t_holdsB (s := 0) (n := nb) (by decide) hc0) (sh2 _) rfl rfl (by decide) (Nat.le_refl _) (Nat.le_refl _) (Nat.le_of_ble_eq_true rfl) (Or.inl (fun r S' h => by obtain ⟨_, h⟩ := h; subst h; rfl)) (fun r S' hq _ _ => ?_)
  obtain ⟨rfl, rfl⟩ := hq
  rw [inR_nI hb (by omega)]
  refine Ex.if_eq (pc := 9) (tgt := 16) dX9_heads_9 (by decide) (fun c9 => absurd c9 (by decide)) (fun _ => ?_)
  refine Ex.iload_n (pc := 12) dX9_heads_12 rfl rfl ?_
  refine Ex.if_ge (pc := 13) (tgt := 18) dX9_heads_13 (by decide) (fun _ => ?_) (fun c13 => absurd hv c13)
  refine Ex.aload_n (pc := 18) dX9_heads_18 rfl rfl ?_
  refine Ex.getR (pc := 19) dX9_heads_19 fX9_84 (sh0 _) r0_12 ?_
  refine Ex.getI (pc := 22) dX9_heads_22 fX9_238 (sh30 _) ?_
  refine Ex.iload_n (pc := 25) dX9_heads_25 rfl rfl ?_
  refine Ex.icmp_eq (pc := 26) (tgt := 37) dX9_heads_26 (by decide) (fun _ => ?_) (fun c26 => absurd heq c26)
  refine Ex.iload_n (pc := 37) dX9_heads_37 rfl rfl ?_
  refine Ex.if_ne (pc := 38) (tgt := 49) dX9_heads_38 (by decide) (fun c38 => ?_) (fun c38 => ?_)
  · skip
    refine Ex.iload_n (pc := 49) dX9_heads_49 rfl rfl ?_
    refine Ex.iconst (pc := 50) (v := 1) dX9_heads_50 rfl ?_
    refine Ex.icmp_ne (pc := 51) (tgt := 62) dX9_heads_51 (by decide) (fun c51 => ?_) (fun c51 => ?_)
    · skip
      refine Ex.iload_n (pc := 62) dX9_heads_62 rfl rfl ?_
      refine Ex.iconst (pc := 63) (v := 2) dX9_heads_63 rfl ?_
      refine Ex.isub (pc := 64) dX9_heads_64 ?_
      refine Ex.aload_n (pc := 65) dX9_heads_65 rfl rfl ?_
      refine Ex.getR (pc := 66) dX9_heads_66 fX9_84 (sh0 _) r0_12 ?_
      refine Ex.getI (pc := 69) dX9_heads_69 fX9_243 (sh30 _) ?_
      refine Ex.icmp_ge (pc := 72) (tgt := 89) dX9_heads_72 (by decide) (fun c72 => ?_) (fun c72 => ?_)
      · skip
        refine Ex.iconst (pc := 89) (v := (-1)) dX9_heads_89 rfl ?_
        refine Ex.iret (pc := 90) rfl rfl rfl dX9_heads_90 (Nat.le_refl _) (Nat.le_refl _) ?_
        refine ⟨_, congrArg (fun z => some (Value.int z)) ?_, rfl, Sm.rf, heq, rfl⟩
        unfold hdV
        rw [if_neg c38, if_neg c51, if_pos (show (heOf I).1 ≤ v - 2 from c72)]
      · skip
        refine Ex.aload_n (pc := 75) dX9_heads_75 rfl rfl ?_
        refine Ex.getR (pc := 76) dX9_heads_76 fX9_84 (sh0 _) r0_12 ?_
        refine Ex.getR (pc := 79) dX9_heads_79 fX9_247 (sh30 _) r30_3 ?_
        refine Ex.iload_n (pc := 82) dX9_heads_82 rfl rfl ?_
        refine Ex.iconst (pc := 83) (v := 2) dX9_heads_83 rfl ?_
        refine Ex.isub (pc := 84) dX9_heads_84 ?_
        refine Ex.iald (pc := 85) dX9_heads_85 (sh31 _) (by
        have hmost : I 30 1 = nI q6 := hq6e
        have c72 := c72
        rw [hmost] at c72
        obtain ⟨j, hj, e⟩ := nI_of (x := v) (fun q => absurd hv (Int32.not_le.mpr q))
        have hj2 : 2 ≤ j := by
          rcases (show j = 0 ∨ j = 1 ∨ 2 ≤ j by omega) with q | q | q
          · exact absurd (by rw [e, q]; rfl) c38
          · exact absurd (by rw [e, q]; rfl) c51
          · exact q
        rw [e, show nI j - 2 = nI (j - 2) from pk_sub (b := 2) hj2] at c72 ⊢
        have : j - 2 < q6 := by
          rcases Nat.lt_or_ge (j - 2) q6 with q | q
          · exact q
          · exact absurd (nI_le q (by omega)) c72
        exact vp_in_nI (by omega) (by decide)) rfl ?_
        refine Ex.goto (pc := 86) (tgt := 90) dX9_heads_86 (by decide) ?_
        refine Ex.iret (pc := 90) rfl rfl rfl dX9_heads_90 (Nat.le_refl _) (Nat.le_refl _) ?_
        refine ⟨_, congrArg (fun z => some (Value.int z)) ?_, rfl, Sm.rf, heq, rfl⟩
        unfold hdV
        rw [if_neg c38, if_neg c51, if_neg (show ¬ (heOf I).1 ≤ v - 2 from c72)]; rfl
    · skip
      refine Ex.aload_n (pc := 54) dX9_heads_54 rfl rfl ?_
      refine Ex.getR (pc := 55) dX9_heads_55 fX9_84 (sh0 _) r0_12 ?_
      refine Ex.getI (pc := 58) dX9_heads_58 fX9_246 (sh30 _) ?_
      refine Ex.iret (pc := 61) rfl rfl rfl dX9_heads_61 (Nat.le_refl _) (Nat.le_refl _) ?_
      refine ⟨_, congrArg (fun z => some (Value.int z)) ?_, rfl, Sm.rf, heq, rfl⟩
      unfold hdV
      rw [if_neg c38, if_pos c51]; rfl
  · skip
    refine Ex.aload_n (pc := 41) dX9_heads_41 rfl rfl ?_
    refine Ex.getR (pc := 42) dX9_heads_42 fX9_84 (sh0 _) r0_12 ?_
    refine Ex.getI (pc := 45) dX9_heads_45 fX9_243 (sh30 _) ?_
    refine Ex.iret (pc := 48) rfl rfl rfl dX9_heads_48 (Nat.le_refl _) (Nat.le_refl _) ?_
    refine ⟨_, congrArg (fun z => some (Value.int z)) ?_, rfl, Sm.rf, heq, rfl⟩
    unfold hdV
    rw [if_pos c38]; rfl
