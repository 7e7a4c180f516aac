/-- fewest strokes so far, the best row, the row that is tried -/
abbrev aSe : Type := Int32 × (Nat → Int32) × (Nat → Int32)
def seatF (sf dp : Nat → Int32) (nb ns : Nat) : Nat → Nat → Int32 → Int32 → aSe → aSe
  | 0, _, _, _, g => g
  | m + 1, st, tk, sm, g =>
    if ¬ g.1 = -1 ∧ ¬ sm < g.1 then g
    else if ns ≤ st then (sm, va_cpy g.2.2 g.2.1 0 0 6, g.2.2)
    else if dp st = 0 then seatF sf dp nb ns m (st + 1) tk sm (g.1, g.2.1, upd g.2.2 st (-1))
    else (List.range nb).foldl (fun g b => if ¬ tk >>> (nI b &&& 31) &&& 1 = 0 then g else if sf (st * 5 + b) = -1 then g else seatF sf dp nb ns m (st + 1) (tk ||| 1 <<< (nI b &&& 31)) (sm + sf (st * 5 + b)) (g.1, g.2.1, upd g.2.2 st (nI b))) g
/-- the finder's three cells hold g -/
def SeR (I I2 : aI) (g : aSe) : Prop := Sm [26, 27, 28] I I2 ∧ (∀ j, j ≠ 1 → I2 26 j = I 26 j) ∧ I2 26 1 = g.1 ∧ I2 27 = g.2.1 ∧ I2 28 = g.2.2
def seOf (I : aI) : aSe := (I 26 1, I 27, I 28)
theorem SeR.rf {I : aI} : SeR I I (seOf I) := ⟨Sm.rf, fun _ _ => rfl, rfl, rfl, rfl⟩
theorem SeR.of {I I2 : aI} {g : aSe} (h : SeR I I2 g) : seOf I2 = g := by
  obtain ⟨-, -, h1, h2, h3⟩ := h
  unfold seOf
  rw [h1, h2, h3]
theorem SeR.tr {I I1 I2 : aI} {g g2 : aSe} (h : SeR I I1 g) (h2 : SeR I1 I2 g2) : SeR I I2 g2 := ⟨h.1.tr h2.1 (by decide) (by decide), fun j hj => (h2.2.1 j hj).trans (h.2.1 j hj), h2.2.2⟩
theorem SeR.try {I I1 : aI} {g : aSe} {i : Nat} {v : Int32} (h : SeR I I1 g) : SeR I (va_up I1 28 (upd (I1 28) i v)) (g.1, g.2.1, upd g.2.2 i v) := by
  obtain ⟨a, b, c, d, e⟩ := h
  exact ⟨a.up (by decide), fun j hj => by rw [va_up_n (by decide)]; exact b j hj, by rw [va_up_n (by decide)]; exact c, by rw [va_up_n (by decide)]; exact d, by rw [va_up_s, e]⟩

set_option maxRecDepth 20000 in
theorem t_seat {N : Nat} {L : aL} {nb ns nh : Nat} : ∀ (m st : Nat) (tk sm : Int32) (I : aI), CntOk I nb ns nh → st + m = 7 → st ≤ 6 → Run m 0 0 mX3_seat [.ref 26, .int (nI st), .int tk, .int sm] (St N I L) (RP none N L (fun I2 => SeR I I2 (seatF (I 29) (I 12) nb ns m st tk sm (seOf I)))) := by
  intro m
  induction m with
  | zero => intro st tk sm I hc hm h6; exact absurd hm (by omega)
  | succ m ih =>
    intro st tk sm I hc hm h6
    obtain ⟨hc0, hb5, hc1, hs6, hc2, hh6, hrib⟩ := id hc
    refine Run.of (ls := [some (.ref 26), some (.int _), some (.int _), some (.int _), none, none]) (by decide) (Nat.le_of_ble_eq_true rfl) rfl ?_
    have hfu : seatF (I 29) (I 12) nb ns (m + 1) st tk sm (seOf I) = (if ¬ I 26 1 = -1 ∧ ¬ sm < I 26 1 then seOf I
    else if ns ≤ st then (sm, va_cpy (I 28) (I 27) 0 0 6, I 28)
    else if I 12 st = 0 then seatF (I 29) (I 12) nb ns m (st + 1) tk sm (I 26 1, I 27, upd (I 28) st (-1))
    else (List.range nb).foldl (fun g b => if ¬ tk >>> (nI b &&& 31) &&& 1 = 0 then g else if I 29 (st * 5 + b) = -1 then g else seatF (I 29) (I 12) nb ns m (st + 1) (tk ||| 1 <<< (nI b &&& 31)) (sm + I 29 (st * 5 + b)) (g.1, g.2.1, upd g.2.2 st (nI b))) (seOf I)) := rfl
    rw [hfu]
    clear hfu
    by_cases hA : ¬ I 26 1 = -1 ∧ ¬ sm < I 26 1
    · rw [if_pos hA]
      refine Ex.aload_n (pc := 0) dX3_seat_0 rfl rfl ?_
      refine Ex.getI (pc := 1) dX3_seat_1 fX3_15 (sh26 _) ?_
      refine Ex.iconst (pc := 4) (v := (-1)) dX3_seat_4 rfl ?_
      refine Ex.icmp_eq (pc := 5) (tgt := 17) dX3_seat_5 (by decide) (fun c5 => absurd c5 hA.1) (fun _ => ?_)
      refine Ex.iload_n (pc := 8) dX3_seat_8 rfl rfl ?_
      refine Ex.aload_n (pc := 9) dX3_seat_9 rfl rfl ?_
      refine Ex.getI (pc := 10) dX3_seat_10 fX3_15 (sh26 _) ?_
      refine Ex.icmp_lt (pc := 13) (tgt := 17) dX3_seat_13 (by decide) (fun c13 => absurd c13 hA.2) (fun _ => ?_)
      refine Ex.vret (pc := 16) rfl dX3_seat_16 (Nat.le_refl _) (Nat.le_refl _) ?_
      exact ⟨_, rfl, rfl, SeR.rf⟩
    · rw [if_neg hA]
      have h17 : ∀ Q, Ex (m + 1) 0 0 mX3_seat 0 0 17 [some (.ref 26), some (.int (nI st)), some (.int tk), some (.int sm), none, none] [] (St N I L) Q → Ex (m + 1) 0 0 mX3_seat 0 0 0 [some (.ref 26), some (.int (nI st)), some (.int tk), some (.int sm), none, none] [] (St N I L) Q := by
        intro Q hQ
        refine Ex.aload_n (pc := 0) dX3_seat_0 rfl rfl ?_
        refine Ex.getI (pc := 1) dX3_seat_1 fX3_15 (sh26 _) ?_
        refine Ex.iconst (pc := 4) (v := (-1)) dX3_seat_4 rfl ?_
        refine Ex.icmp_eq (pc := 5) (tgt := 17) dX3_seat_5 (by decide) (fun c5 => ?_) (fun c5 => ?_)
        · skip
          exact hQ
        · skip
          refine Ex.iload_n (pc := 8) dX3_seat_8 rfl rfl ?_
          refine Ex.aload_n (pc := 9) dX3_seat_9 rfl rfl ?_
          refine Ex.getI (pc := 10) dX3_seat_10 fX3_15 (sh26 _) ?_
          refine Ex.icmp_lt (pc := 13) (tgt := 17) dX3_seat_13 (by decide) (fun c13 => ?_) (fun c13 => ?_)
          · skip
            exact hQ
          · skip
            refine Ex.vret (pc := 16) rfl dX3_seat_16 (Nat.le_refl _) (Nat.le_refl _) ?_
            exact absurd ⟨c5, c13⟩ hA
      refine h17 _ ?_
      clear h17
      by_cases hB : ns ≤ st
      · rw [if_pos hB]
        refine Ex.iload_n (pc := 17) dX3_seat_17 rfl rfl ?_
        refine Ex.aload_n (pc := 18) dX3_seat_18 rfl rfl ?_
        refine Ex.getR (pc := 19) dX3_seat_19 fX3_29 (sh26 _) r26_5 ?_
        refine Ex.getR (pc := 22) dX3_seat_22 fX3_37 (sh16 _) r16_0 ?_
        refine Ex.getR (pc := 25) dX3_seat_25 fX3_43 (sh2 _) r2_0 ?_
        refine Ex.iconst (pc := 28) (v := 1) dX3_seat_28 rfl ?_
        refine Ex.iald (pc := 29) (j := 1) dX3_seat_29 (sh3 _) (by unfold vp_in; decide) (by decide) ?_
        refine Ex.icmp_ge (pc := 30) (tgt := 39) dX3_seat_30 (by decide) (fun _ => ?_) (fun c30 => absurd (by rw [hc1]; exact nI_le hB (by omega)) c30)
        refine Ex.aload_n (pc := 39) dX3_seat_39 rfl rfl ?_
        refine Ex.iload_n (pc := 40) dX3_seat_40 rfl rfl ?_
        refine Ex.putI (pc := 41) dX3_seat_41 fX3_15 (sh26 _) (Or.inl rfl) ⟨rfl, rfl⟩ ?_
        refine Ex.aload_n (pc := 44) dX3_seat_44 rfl rfl ?_
        refine Ex.getR (pc := 45) dX3_seat_45 fX3_23 (sh26 _) r26_3 ?_
        refine Ex.iconst (pc := 48) (v := 0) dX3_seat_48 rfl ?_
        refine Ex.aload_n (pc := 49) dX3_seat_49 rfl rfl ?_
        refine Ex.getR (pc := 50) dX3_seat_50 fX3_19 (sh26 _) r26_2 ?_
        refine Ex.iconst (pc := 53) (v := 0) dX3_seat_53 rfl ?_
        refine Ex.bipush (pc := 54) (v := 6) dX3_seat_54 rfl ?_
        refine Ex.copyI (pc := 56) dX3_seat_56 kl_X3_62 (sh28 _) (sh27 _) (by decide) (by decide) (by decide) (by decide) (by decide) (Nat.succ_le_succ (Nat.zero_le _)) (Nat.le_of_ble_eq_true rfl) ?_
        refine Ex.vret (pc := 59) rfl dX3_seat_59 (Nat.le_refl _) (Nat.le_refl _) ?_
        refine ⟨_, rfl, rfl, ?_, ?_, ?_, ?_, ?_⟩
        · exact (Sm.rf.up (by decide)).up (by decide)
        · intro j hj; rw [va_up_n (by decide), va_up_s, upd_n hj]
        · rw [va_up_n (by decide), va_up_s, upd_s]
        · rw [va_up_s, va_up_n (by decide), va_up_n (by decide)]; rfl
        · rw [va_up_n (by decide), va_up_n (by decide)]
      · rw [if_neg hB]
        by_cases hC : I 12 st = 0
        · rw [if_pos hC]
          refine Ex.iload_n (pc := 17) dX3_seat_17 rfl rfl ?_
          refine Ex.aload_n (pc := 18) dX3_seat_18 rfl rfl ?_
          refine Ex.getR (pc := 19) dX3_seat_19 fX3_29 (sh26 _) r26_5 ?_
          refine Ex.getR (pc := 22) dX3_seat_22 fX3_37 (sh16 _) r16_0 ?_
          refine Ex.getR (pc := 25) dX3_seat_25 fX3_43 (sh2 _) r2_0 ?_
          refine Ex.iconst (pc := 28) (v := 1) dX3_seat_28 rfl ?_
          refine Ex.iald (pc := 29) (j := 1) dX3_seat_29 (sh3 _) (by unfold vp_in; decide) (by decide) ?_
          refine Ex.icmp_ge (pc := 30) (tgt := 39) dX3_seat_30 (by decide) (fun c30 => absurd c30 (by rw [hc1]; exact nI_ge (by omega) (by omega))) (fun _ => ?_)
          refine Ex.iload_n (pc := 33) dX3_seat_33 rfl rfl ?_
          refine Ex.bipush (pc := 34) (v := 6) dX3_seat_34 rfl ?_
          refine Ex.icmp_lt (pc := 36) (tgt := 60) dX3_seat_36 (by decide) (fun _ => ?_) (fun c36 => absurd (nI_lt (b := 6) (by omega) (by decide)) c36)
          refine Ex.aload_n (pc := 60) dX3_seat_60 rfl rfl ?_
          refine Ex.getR (pc := 61) dX3_seat_61 fX3_33 (sh26 _) r26_6 ?_
          refine Ex.getR (pc := 64) dX3_seat_64 fX3_68 (sh10 _) r10_5 ?_
          refine Ex.iload_n (pc := 67) dX3_seat_67 rfl rfl ?_
          refine Ex.iald (pc := 68) (j := st) dX3_seat_68 (sh12 _) (vp_in_nI (by omega) (by decide)) (ixN2 (by omega)) ?_
          refine Ex.if_ne (pc := 69) (tgt := 89) dX3_seat_69 (by decide) (fun c69 => absurd hC c69) (fun _ => ?_)
          refine Ex.aload_n (pc := 72) dX3_seat_72 rfl rfl ?_
          refine Ex.getR (pc := 73) dX3_seat_73 fX3_23 (sh26 _) r26_3 ?_
          refine Ex.iload_n (pc := 76) dX3_seat_76 rfl rfl ?_
          refine Ex.iconst (pc := 77) (v := (-1)) dX3_seat_77 rfl ?_
          refine Ex.iast (pc := 78) (j := st) dX3_seat_78 (sh28 _) (vp_in_nI (by omega) (by decide)) (ixN2 (by omega)) ?_
          refine Ex.aload_n (pc := 79) dX3_seat_79 rfl rfl ?_
          refine Ex.iload_n (pc := 80) dX3_seat_80 rfl rfl ?_
          refine Ex.iconst (pc := 81) (v := 1) dX3_seat_81 rfl ?_
          refine Ex.iadd (pc := 82) dX3_seat_82 ?_
          refine Ex.iload_n (pc := 83) dX3_seat_83 rfl rfl ?_
          refine Ex.iload_n (pc := 84) dX3_seat_84 rfl rfl ?_
          rw [show nI st + 1 = nI (st + 1) from nI_1 st]
          refine Ex.callV (pc := 85) (As := [.int _, .int _, .int _]) (rest := []) dX3_seat_85 cX3_58 (ih (st + 1) tk sm _ (hc.sm (l := [28]) (Sm.rf.up (by decide)) (by decide) (by decide)) (by omega) (by omega)) (sh26 _) rfl rfl (Nat.le_refl _) (Nat.le_refl _) (Nat.le_refl _) (Nat.le_of_ble_eq_true rfl) (Or.inl (fun r S' h => by obtain ⟨_, _, h, _⟩ := h; subst h; rfl)) (fun r S' hq _ _ => ?_)
          obtain ⟨I3, rfl, rfl, hI3⟩ := hq
          refine Ex.vret (pc := 88) rfl dX3_seat_88 (Nat.le_refl _) (Nat.le_refl _) ?_
          refine ⟨_, rfl, rfl, ?_⟩
          have h1 := (SeR.rf (I := I)).try (i := st) (v := -1)
          have h2 := h1.tr hI3
          rw [h1.of, va_up_n (show (29 : Nat) ≠ 28 by decide), va_up_n (show (12 : Nat) ≠ 28 by decide)] at h2
          exact h2
        · rw [if_neg hC]
          refine Ex.iload_n (pc := 17) dX3_seat_17 rfl rfl ?_
          refine Ex.aload_n (pc := 18) dX3_seat_18 rfl rfl ?_
          refine Ex.getR (pc := 19) dX3_seat_19 fX3_29 (sh26 _) r26_5 ?_
          refine Ex.getR (pc := 22) dX3_seat_22 fX3_37 (sh16 _) r16_0 ?_
          refine Ex.getR (pc := 25) dX3_seat_25 fX3_43 (sh2 _) r2_0 ?_
          refine Ex.iconst (pc := 28) (v := 1) dX3_seat_28 rfl ?_
          refine Ex.iald (pc := 29) (j := 1) dX3_seat_29 (sh3 _) (by unfold vp_in; decide) (by decide) ?_
          refine Ex.icmp_ge (pc := 30) (tgt := 39) dX3_seat_30 (by decide) (fun c30 => absurd c30 (by rw [hc1]; exact nI_ge (by omega) (by omega))) (fun _ => ?_)
          refine Ex.iload_n (pc := 33) dX3_seat_33 rfl rfl ?_
          refine Ex.bipush (pc := 34) (v := 6) dX3_seat_34 rfl ?_
          refine Ex.icmp_lt (pc := 36) (tgt := 60) dX3_seat_36 (by decide) (fun _ => ?_) (fun c36 => absurd (nI_lt (b := 6) (by omega) (by decide)) c36)
          refine Ex.aload_n (pc := 60) dX3_seat_60 rfl rfl ?_
          refine Ex.getR (pc := 61) dX3_seat_61 fX3_33 (sh26 _) r26_6 ?_
          refine Ex.getR (pc := 64) dX3_seat_64 fX3_68 (sh10 _) r10_5 ?_
          refine Ex.iload_n (pc := 67) dX3_seat_67 rfl rfl ?_
          refine Ex.iald (pc := 68) (j := st) dX3_seat_68 (sh12 _) (vp_in_nI (by omega) (by decide)) (ixN2 (by omega)) ?_
          refine Ex.if_ne (pc := 69) (tgt := 89) dX3_seat_69 (by decide) (fun _ => ?_) (fun c69 => absurd c69 hC)
          refine Ex.iconst (pc := 89) (v := 0) dX3_seat_89 rfl ?_
          refine Ex.istore (pc := 90) (ls' := [some (.ref 26), some (.int _), some (.int _), some (.int _), some (.int 0), none]) dX3_seat_90 (by decide) rfl rfl ?_
          refine Ex.le (ls' := [some (.ref 26), some (.int (nI st)), some (.int tk), some (.int sm), some (.int (nI 0)), none]) ⟨rfl, rfl, rfl, rfl, rfl, trivial⟩ ?_
          refine forUp (σ := aI) (P := fun k I2 => Ex (m + 1) 0 0 mX3_seat 0 0 92 [some (.ref 26), some (.int (nI st)), some (.int tk), some (.int sm), some (.int (nI k)), none] [] (St N I2 L) _) (Inv := fun k I2 => SeR I I2 ((List.range k).foldl (fun g b => if ¬ tk >>> (nI b &&& 31) &&& 1 = 0 then g else if I 29 (st * 5 + b) = -1 then g else seatF (I 29) (I 12) nb ns m (st + 1) (tk ||| 1 <<< (nI b &&& 31)) (sm + I 29 (st * 5 + b)) (g.1, g.2.1, upd g.2.2 st (nI b))) (seOf I))) nb ?_ ?_ 0 _ (Nat.zero_le _) SeR.rf
          · rintro I2 hI2
            refine Ex.iload (pc := 92) dX3_seat_92 rfl ?_
            refine Ex.aload_n (pc := 94) dX3_seat_94 rfl rfl ?_
            refine Ex.getR (pc := 95) dX3_seat_95 fX3_29 (sh26 _) r26_5 ?_
            refine Ex.getR (pc := 98) dX3_seat_98 fX3_37 (sh16 _) r16_0 ?_
            refine Ex.getR (pc := 101) dX3_seat_101 fX3_43 (sh2 _) r2_0 ?_
            refine Ex.iconst (pc := 104) (v := 0) dX3_seat_104 rfl ?_
            refine Ex.iald (pc := 105) (j := 0) dX3_seat_105 (sh3 _) (by unfold vp_in; decide) (by decide) ?_
            refine Ex.icmp_ge (pc := 106) (tgt := 168) dX3_seat_106 (by decide) (fun _ => ?_) (fun c106 => absurd (by rw [hI2.1 3 (by decide), hc0]; exact nI_le (Nat.le_refl nb) (by omega)) c106)
            refine Ex.vret (pc := 168) rfl dX3_seat_168 (Nat.le_refl _) (Nat.le_refl _) ?_
            exact ⟨_, rfl, rfl, hI2⟩
          · rintro k I2 hk hI2 ih2
            have hfold : (List.range (k + 1)).foldl (fun g b => if ¬ tk >>> (nI b &&& 31) &&& 1 = 0 then g else if I 29 (st * 5 + b) = -1 then g else seatF (I 29) (I 12) nb ns m (st + 1) (tk ||| 1 <<< (nI b &&& 31)) (sm + I 29 (st * 5 + b)) (g.1, g.2.1, upd g.2.2 st (nI b))) (seOf I) = (fun g b => if ¬ tk >>> (nI b &&& 31) &&& 1 = 0 then g else if I 29 (st * 5 + b) = -1 then g else seatF (I 29) (I 12) nb ns m (st + 1) (tk ||| 1 <<< (nI b &&& 31)) (sm + I 29 (st * 5 + b)) (g.1, g.2.1, upd g.2.2 st (nI b))) ((List.range k).foldl (fun g b => if ¬ tk >>> (nI b &&& 31) &&& 1 = 0 then g else if I 29 (st * 5 + b) = -1 then g else seatF (I 29) (I 12) nb ns m (st + 1) (tk ||| 1 <<< (nI b &&& 31)) (sm + I 29 (st * 5 + b)) (g.1, g.2.1, upd g.2.2 st (nI b))) (seOf I)) k := by rw [List.range_succ, List.foldl_append]; rfl
            rw [hfold] at ih2
            have hc2b := hc.sm hI2.1 (by decide) (by decide)
            have e29 : I2 29 = I 29 := hI2.1 29 (by decide)
            have e12 : I2 12 = I 12 := hI2.1 12 (by decide)
            generalize (List.range k).foldl (fun g b => if ¬ tk >>> (nI b &&& 31) &&& 1 = 0 then g else if I 29 (st * 5 + b) = -1 then g else seatF (I 29) (I 12) nb ns m (st + 1) (tk ||| 1 <<< (nI b &&& 31)) (sm + I 29 (st * 5 + b)) (g.1, g.2.1, upd g.2.2 st (nI b))) (seOf I) = g at *
            refine Ex.iload (pc := 92) dX3_seat_92 rfl ?_
            refine Ex.aload_n (pc := 94) dX3_seat_94 rfl rfl ?_
            refine Ex.getR (pc := 95) dX3_seat_95 fX3_29 (sh26 _) r26_5 ?_
            refine Ex.getR (pc := 98) dX3_seat_98 fX3_37 (sh16 _) r16_0 ?_
            refine Ex.getR (pc := 101) dX3_seat_101 fX3_43 (sh2 _) r2_0 ?_
            refine Ex.iconst (pc := 104) (v := 0) dX3_seat_104 rfl ?_
            refine Ex.iald (pc := 105) (j := 0) dX3_seat_105 (sh3 _) (by unfold vp_in; decide) (by decide) ?_
            refine Ex.icmp_ge (pc := 106) (tgt := 168) dX3_seat_106 (by decide) (fun c106 => absurd c106 (by rw [hI2.1 3 (by decide), hc0]; exact nI_ge hk (by omega))) (fun _ => ?_)
            refine Ex.aload_n (pc := 109) dX3_seat_109 rfl rfl ?_
            refine Ex.getR (pc := 110) dX3_seat_110 fX3_26 (sh26 _) r26_4 ?_
            refine Ex.iload_n (pc := 113) dX3_seat_113 rfl rfl ?_
            refine Ex.iconst (pc := 114) (v := 5) dX3_seat_114 rfl ?_
            refine Ex.imul (pc := 115) dX3_seat_115 ?_
            refine Ex.iload (pc := 116) dX3_seat_116 rfl ?_
            refine Ex.iadd (pc := 118) dX3_seat_118 ?_
            refine Ex.iald (pc := 119) (j := st * 5 + k) dX3_seat_119 (sh29 _) (by rw [show nI st * 5 + nI k = nI (st * 5 + k) from by rw [show nI st * 5 = nI (st * 5) from pk_mul st 5, nI_add]]; exact vp_in_nI (by omega) (by decide)) (by rw [show nI st * 5 + nI k = nI (st * 5 + k) from by rw [show nI st * 5 = nI (st * 5) from pk_mul st 5, nI_add]]; exact nI_clamp (by omega)) ?_
            refine Ex.istore (pc := 120) (ls' := [some (.ref 26), some (.int _), some (.int _), some (.int _), some (.int _), some (.int _)]) dX3_seat_120 (by decide) rfl rfl ?_
            refine Ex.iload_n (pc := 122) dX3_seat_122 rfl rfl ?_
            refine Ex.iload (pc := 123) dX3_seat_123 rfl ?_
            refine Ex.ishr (pc := 125) dX3_seat_125 ?_
            refine Ex.iconst (pc := 126) (v := 1) dX3_seat_126 rfl ?_
            refine Ex.iand (pc := 127) dX3_seat_127 ?_
            refine Ex.if_ne (pc := 128) (tgt := 162) dX3_seat_128 (by decide) (fun c128 => ?_) (fun c128 => ?_)
            · skip
              refine Ex.iinc (pc := 162) (ls' := [some (.ref 26), some (.int _), some (.int _), some (.int _), some (.int _), some (.int _)]) dX3_seat_162 rfl rfl (by decide) rfl rfl ?_
              refine Ex.goto (pc := 165) (tgt := 92) dX3_seat_165 (by decide) ?_
              rw [show nI k + Int32.ofInt 1 = nI (k + 1) from nI_1 k]
              refine Ex.le (ls' := [some (.ref 26), some (.int (nI st)), some (.int tk), some (.int sm), some (.int (nI (k + 1))), none]) ⟨rfl, rfl, rfl, rfl, rfl, trivial⟩ (ih2 _ ?_)
              dsimp only
              rw [if_pos c128]; exact hI2
            · skip
              refine Ex.iload (pc := 131) dX3_seat_131 rfl ?_
              refine Ex.iconst (pc := 133) (v := (-1)) dX3_seat_133 rfl ?_
              refine Ex.icmp_eq (pc := 134) (tgt := 162) dX3_seat_134 (by decide) (fun c134 => ?_) (fun c134 => ?_)
              · skip
                refine Ex.iinc (pc := 162) (ls' := [some (.ref 26), some (.int _), some (.int _), some (.int _), some (.int _), some (.int _)]) dX3_seat_162 rfl rfl (by decide) rfl rfl ?_
                refine Ex.goto (pc := 165) (tgt := 92) dX3_seat_165 (by decide) ?_
                rw [show nI k + Int32.ofInt 1 = nI (k + 1) from nI_1 k]
                refine Ex.le (ls' := [some (.ref 26), some (.int (nI st)), some (.int tk), some (.int sm), some (.int (nI (k + 1))), none]) ⟨rfl, rfl, rfl, rfl, rfl, trivial⟩ (ih2 _ ?_)
                rw [e29] at c134
                dsimp only
                rw [if_neg (show ¬ ¬ tk >>> (nI k &&& 31) &&& 1 = 0 from fun q => q c128), if_pos c134]; exact hI2
              · skip
                refine Ex.aload_n (pc := 137) dX3_seat_137 rfl rfl ?_
                refine Ex.getR (pc := 138) dX3_seat_138 fX3_23 (sh26 _) r26_3 ?_
                refine Ex.iload_n (pc := 141) dX3_seat_141 rfl rfl ?_
                refine Ex.iload (pc := 142) dX3_seat_142 rfl ?_
                refine Ex.iast (pc := 144) (j := st) dX3_seat_144 (sh28 _) (vp_in_nI (by omega) (by decide)) (ixN2 (by omega)) ?_
                refine Ex.aload_n (pc := 145) dX3_seat_145 rfl rfl ?_
                refine Ex.iload_n (pc := 146) dX3_seat_146 rfl rfl ?_
                refine Ex.iconst (pc := 147) (v := 1) dX3_seat_147 rfl ?_
                refine Ex.iadd (pc := 148) dX3_seat_148 ?_
                refine Ex.iload_n (pc := 149) dX3_seat_149 rfl rfl ?_
                refine Ex.iconst (pc := 150) (v := 1) dX3_seat_150 rfl ?_
                refine Ex.iload (pc := 151) dX3_seat_151 rfl ?_
                refine Ex.ishl (pc := 153) dX3_seat_153 ?_
                refine Ex.ior (pc := 154) dX3_seat_154 ?_
                refine Ex.iload_n (pc := 155) dX3_seat_155 rfl rfl ?_
                refine Ex.iload (pc := 156) dX3_seat_156 rfl ?_
                refine Ex.iadd (pc := 158) dX3_seat_158 ?_
                rw [show nI st + 1 = nI (st + 1) from nI_1 st]
                refine Ex.callV (pc := 159) (As := [.int _, .int _, .int _]) (rest := []) dX3_seat_159 cX3_58 (ih (st + 1) _ _ _ (hc2b.sm (l := [28]) (Sm.rf.up (by decide)) (by decide) (by decide)) (by omega) (by omega)) (sh26 _) rfl rfl (Nat.le_refl _) (Nat.le_refl _) (Nat.le_refl _) (Nat.le_of_ble_eq_true rfl) (Or.inl (fun r S' h => by obtain ⟨_, _, h, _⟩ := h; subst h; rfl)) (fun r S' hq _ _ => ?_)
                obtain ⟨I3, rfl, rfl, hI3⟩ := hq
                rw [e29] at hI3
                refine Ex.iinc (pc := 162) (ls' := [some (.ref 26), some (.int _), some (.int _), some (.int _), some (.int _), some (.int _)]) dX3_seat_162 rfl rfl (by decide) rfl rfl ?_
                refine Ex.goto (pc := 165) (tgt := 92) dX3_seat_165 (by decide) ?_
                rw [show nI k + Int32.ofInt 1 = nI (k + 1) from nI_1 k]
                refine Ex.le (ls' := [some (.ref 26), some (.int (nI st)), some (.int tk), some (.int sm), some (.int (nI (k + 1))), none]) ⟨rfl, rfl, rfl, rfl, rfl, trivial⟩ (ih2 _ ?_)
                rw [e29] at c134
                dsimp only
                rw [if_neg (show ¬ ¬ tk >>> (nI k &&& 31) &&& 1 = 0 from fun q => q c128), if_neg c134]
                have h1 := hI2.try (i := st) (v := nI k)
                have h2 := h1.tr hI3
                rw [h1.of, va_up_n (show (29 : Nat) ≠ 28 by decide), va_up_n (show (12 : Nat) ≠ 28 by decide), e29, e12] at h2
                exact h2
