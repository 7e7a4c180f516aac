theorem foldl_c {α β : Type} {f f' : α → β → α} : ∀ (l : List β) (g : α), (∀ b ∈ l, ∀ g, f g b = f' g b) → l.foldl f g = l.foldl f' g
  | [], _, _ => rfl
  | b :: l, g, h => by
    simp only [List.foldl_cons]
    rw [h b List.mem_cons_self, foldl_c l _ (fun c hc g => h c (List.mem_cons_of_mem _ hc) g)]
theorem seatF_c {sf sg dp : Nat → Int32} {nb ns : Nat} (h : ∀ st b, st < ns → b < nb → sf (st * 5 + b) = sg (st * 5 + b)) : ∀ m st tk sm g, seatF sf dp nb ns m st tk sm g = seatF sg dp nb ns m st tk sm g
  | 0, _, _, _, _ => rfl
  | m + 1, st, tk, sm, g => by
    simp only [seatF]
    by_cases hB : ns ≤ st
    · simp only [hB, if_true]
    · simp only [hB, if_false]
      rw [seatF_c h m]
      rw [foldl_c (List.range nb) g (fun b hb g => ?_)]
      have hb := List.mem_range.mp hb
      rw [h st b (by omega) hb, seatF_c h m]
/-- the strokes that are safe, -1 where they aren't -/
def sfV (t : aT) : Int32 := if t.2.1 = 0 then (if t.1 ≤ 0 then -1 else t.2.2.1) else -1
def sfR (p : aP) (f5 f6 : Nat → Int32) (x : aX) : Nat → Int32 := fun i => sfV (rubX p f5 f6 x (i % 5) (i / 5) 99)
def mtG (p : aP) (f5 f6 : Nat → Int32) (nb ns : Nat) (x : aX) (g : aSe) : aSe := seatF (sfR p f5 f6 x) x.2.2.2.2 nb ns 7 0 0 0 (-1, g.2.1, g.2.2)

set_option maxRecDepth 20000 in
theorem t_msolve {N : Nat} {I : aI} {L : aL} {p : aP} {nb ns nh : Nat} (hp : PlanG N I p) (hc : CntOk I nb ns nh) : Run 8 0 0 mX3_solve [.ref 26] (St N I L) (RP none N L (fun I2 => Sm [16, 17, 18, 26, 27, 28, 29] I I2 ∧ I2 26 0 = 1 ∧ seOf I2 = mtG p (I 5) (I 6) nb ns (xOf I 10) (seOf I))) := by
  refine Run.of (ls := [some (.ref 26), none, none, none]) (by decide) (Nat.le_of_ble_eq_true rfl) rfl ?_
  obtain ⟨hc0, hb5, hc1, hs6, hc2, hh6, hrib⟩ := id hc
  refine Ex.iconst (pc := 0) (v := 0) dX3_solve_0 rfl ?_
  refine Ex.istore_n (pc := 1) (ls' := [some (.ref 26), some (.int 0), none, none]) dX3_solve_1 rfl (by decide) rfl rfl ?_
  refine Ex.le (ls' := [some (.ref 26), some (.int (nI 0)), none, none]) ⟨rfl, rfl, trivial⟩ ?_
  refine forUp (σ := aI) (P := fun k I2 => Ex 8 0 0 mX3_solve 0 0 2 [some (.ref 26), some (.int (nI k)), none, none] [] (St N I2 L) _) (Inv := fun k I2 => Sm [16, 17, 18, 29] I I2 ∧ ∀ s b, s < k → b < nb → I2 29 (s * 5 + b) = sfV (rubX p (I 5) (I 6) (xOf I 10) b s 99)) ns ?_ ?_ 0 _ (Nat.zero_le _) ⟨Sm.rf, fun _ _ h => absurd h (Nat.not_lt_zero _)⟩
  · rintro I2 ⟨hS, hsf⟩
    refine Ex.iload_n (pc := 2) dX3_solve_2 rfl rfl ?_
    refine Ex.aload_n (pc := 3) dX3_solve_3 rfl rfl ?_
    refine Ex.getR (pc := 4) dX3_solve_4 fX3_29 (sh26 _) r26_5 ?_
    refine Ex.getR (pc := 7) dX3_solve_7 fX3_37 (sh16 _) r16_0 ?_
    refine Ex.getR (pc := 10) dX3_solve_10 fX3_43 (sh2 _) r2_0 ?_
    refine Ex.iconst (pc := 13) (v := 1) dX3_solve_13 rfl ?_
    refine Ex.iald (pc := 14) (j := 1) dX3_solve_14 (sh3 _) (by unfold vp_in; decide) (by decide) ?_
    refine Ex.icmp_ge (pc := 15) (tgt := 105) dX3_solve_15 (by decide) (fun _ => ?_) (fun c15 => absurd (by rw [hS 3 (by decide), hc1]; exact nI_le (Nat.le_refl ns) (by omega)) c15)
    refine Ex.aload_n (pc := 105) dX3_solve_105 rfl rfl ?_
    refine Ex.iconst (pc := 106) (v := (-1)) dX3_solve_106 rfl ?_
    refine Ex.putI (pc := 107) dX3_solve_107 fX3_15 (sh26 _) (Or.inl rfl) ⟨rfl, rfl⟩ ?_
    refine Ex.aload_n (pc := 110) dX3_solve_110 rfl rfl ?_
    refine Ex.iconst (pc := 111) (v := 0) dX3_solve_111 rfl ?_
    refine Ex.iconst (pc := 112) (v := 0) dX3_solve_112 rfl ?_
    refine Ex.iconst (pc := 113) (v := 0) dX3_solve_113 rfl ?_
    refine Ex.callV (pc := 114) (As := [.int 0, .int 0, .int 0]) (rest := []) dX3_solve_114 cX3_58 (t_seat (nb := nb) (ns := ns) (nh := nh) 7 0 0 0 _ (hc.sm (hS.tr Sm.rf (l := [16, 17, 18, 26, 29]) (l2 := []) (by decide) (by decide) |>.up (by decide)) (by decide) (by decide)) rfl (by decide)) (sh26 _) rfl rfl (by decide) (Nat.le_refl _) (Nat.le_refl _) (Nat.le_of_ble_eq_true rfl) (Or.inl (fun r S' h => by obtain ⟨_, _, h, _⟩ := h; subst h; rfl)) (fun r S' hq _ _ => ?_)
    obtain ⟨I3, rfl, rfl, hI3⟩ := hq
    refine Ex.aload_n (pc := 117) dX3_solve_117 rfl rfl ?_
    refine Ex.iconst (pc := 118) (v := 1) dX3_solve_118 rfl ?_
    refine Ex.putI (pc := 119) dX3_solve_119 fX3_9 (sh26 _) (Or.inl rfl) ⟨rfl, rfl⟩ ?_
    refine Ex.vret (pc := 122) rfl dX3_solve_122 (Nat.le_refl _) (Nat.le_refl _) ?_
    obtain ⟨a, b, c, d, e⟩ := hI3
    have hst : Sm [16, 17, 18, 26, 27, 28, 29] I I3 := (((hS.tr Sm.rf (l := [16, 17, 18, 26, 27, 28, 29]) (l2 := []) (by decide) (by decide)).up (a := 26) (f := upd (I2 26) 1 (-1)) (by decide))).tr a (by decide) (by decide)
    refine ⟨_, rfl, rfl, hst.up (by decide), by rw [va_up_s, upd_s], ?_⟩
    unfold mtG
    have hcg := seatF_c (sf := va_up I2 26 (upd (I2 26) 1 (-1)) 29) (sg := sfR p (I 5) (I 6) (xOf I 10)) (dp := I 12) (nb := nb) (ns := ns) (fun s b hs hb => by rw [va_up_n (by decide), hsf s b hs hb]; unfold sfR; rw [show (s * 5 + b) % 5 = b by omega, show (s * 5 + b) / 5 = s by omega])
    have e0 : seOf (va_up I2 26 (upd (I2 26) 1 (-1))) = (-1, (seOf I).2.1, (seOf I).2.2) := by unfold seOf; rw [va_up_s, upd_s, va_up_n (by decide), va_up_n (by decide), hS 27 (by decide), hS 28 (by decide)]
    rw [va_up_n (show (12 : Nat) ≠ 26 by decide), hS 12 (by decide), e0, hcg] at c d e
    have hx : (xOf I 10).2.2.2.2 = I 12 := rfl
    rw [hx]
    unfold seOf
    rw [va_up_s, upd_n (by decide), va_up_n (by decide), va_up_n (by decide), c, d, e]
    rfl
  · rintro st I1 hst ⟨hS1, hsf1⟩ ih
    refine Ex.iload_n (pc := 2) dX3_solve_2 rfl rfl ?_
    refine Ex.aload_n (pc := 3) dX3_solve_3 rfl rfl ?_
    refine Ex.getR (pc := 4) dX3_solve_4 fX3_29 (sh26 _) r26_5 ?_
    refine Ex.getR (pc := 7) dX3_solve_7 fX3_37 (sh16 _) r16_0 ?_
    refine Ex.getR (pc := 10) dX3_solve_10 fX3_43 (sh2 _) r2_0 ?_
    refine Ex.iconst (pc := 13) (v := 1) dX3_solve_13 rfl ?_
    refine Ex.iald (pc := 14) (j := 1) dX3_solve_14 (sh3 _) (by unfold vp_in; decide) (by decide) ?_
    refine Ex.icmp_ge (pc := 15) (tgt := 105) dX3_solve_15 (by decide) (fun c15 => absurd c15 (by rw [hS1 3 (by decide), hc1]; exact nI_ge hst (by omega))) (fun _ => ?_)
    refine Ex.iconst (pc := 18) (v := 0) dX3_solve_18 rfl ?_
    refine Ex.istore_n (pc := 19) (ls' := [some (.ref 26), some (.int _), some (.int 0), none]) dX3_solve_19 rfl (by decide) rfl rfl ?_
    refine Ex.le (ls' := [some (.ref 26), some (.int (nI st)), some (.int (nI 0)), none]) ⟨rfl, rfl, rfl, trivial⟩ ?_
    refine forUp (σ := aI) (P := fun k I2 => Ex 8 0 0 mX3_solve 0 0 20 [some (.ref 26), some (.int (nI st)), some (.int (nI k)), none] [] (St N I2 L) _) (Inv := fun k I2 => Sm [16, 17, 18, 29] I I2 ∧ (∀ s b, s < st → b < nb → I2 29 (s * 5 + b) = sfV (rubX p (I 5) (I 6) (xOf I 10) b s 99)) ∧ ∀ b, b < k → I2 29 (st * 5 + b) = sfV (rubX p (I 5) (I 6) (xOf I 10) b st 99)) nb ?_ ?_ 0 _ (Nat.zero_le _) ⟨hS1, hsf1, fun _ h => absurd h (Nat.not_lt_zero _)⟩
    · rintro I2 ⟨hS, hsf, hrow⟩
      refine Ex.iload_n (pc := 20) dX3_solve_20 rfl rfl ?_
      refine Ex.aload_n (pc := 21) dX3_solve_21 rfl rfl ?_
      refine Ex.getR (pc := 22) dX3_solve_22 fX3_29 (sh26 _) r26_5 ?_
      refine Ex.getR (pc := 25) dX3_solve_25 fX3_37 (sh16 _) r16_0 ?_
      refine Ex.getR (pc := 28) dX3_solve_28 fX3_43 (sh2 _) r2_0 ?_
      refine Ex.iconst (pc := 31) (v := 0) dX3_solve_31 rfl ?_
      refine Ex.iald (pc := 32) (j := 0) dX3_solve_32 (sh3 _) (by unfold vp_in; decide) (by decide) ?_
      refine Ex.icmp_ge (pc := 33) (tgt := 99) dX3_solve_33 (by decide) (fun _ => ?_) (fun c33 => absurd (by rw [hS 3 (by decide), hc0]; exact nI_le (Nat.le_refl nb) (by omega)) c33)
      refine Ex.iinc (pc := 99) (ls' := [some (.ref 26), some (.int _), some (.int _), none]) dX3_solve_99 rfl rfl (by decide) rfl rfl ?_
      refine Ex.goto (pc := 102) (tgt := 2) dX3_solve_102 (by decide) ?_
      rw [show nI st + Int32.ofInt 1 = nI (st + 1) from nI_1 st]
      refine Ex.le (ls' := [some (.ref 26), some (.int (nI (st + 1))), none, none]) ⟨rfl, rfl, trivial⟩ (ih _ ⟨hS, fun s b hs hb => ?_⟩)
      by_cases e : s = st
      · subst e; exact hrow b hb
      · exact hsf s b (by omega) hb
    · rintro k I2 hk ⟨hS, hsf, hrow⟩ ih2
      refine Ex.iload_n (pc := 20) dX3_solve_20 rfl rfl ?_
      refine Ex.aload_n (pc := 21) dX3_solve_21 rfl rfl ?_
      refine Ex.getR (pc := 22) dX3_solve_22 fX3_29 (sh26 _) r26_5 ?_
      refine Ex.getR (pc := 25) dX3_solve_25 fX3_37 (sh16 _) r16_0 ?_
      refine Ex.getR (pc := 28) dX3_solve_28 fX3_43 (sh2 _) r2_0 ?_
      refine Ex.iconst (pc := 31) (v := 0) dX3_solve_31 rfl ?_
      refine Ex.iald (pc := 32) (j := 0) dX3_solve_32 (sh3 _) (by unfold vp_in; decide) (by decide) ?_
      refine Ex.icmp_ge (pc := 33) (tgt := 99) dX3_solve_33 (by decide) (fun c33 => absurd c33 (by rw [hS 3 (by decide), hc0]; exact nI_ge hk (by omega))) (fun _ => ?_)
      refine Ex.aload_n (pc := 36) dX3_solve_36 rfl rfl ?_
      refine Ex.getR (pc := 37) dX3_solve_37 fX3_29 (sh26 _) r26_5 ?_
      refine Ex.aload_n (pc := 40) dX3_solve_40 rfl rfl ?_
      refine Ex.getR (pc := 41) dX3_solve_41 fX3_33 (sh26 _) r26_6 ?_
      refine Ex.iload_n (pc := 44) dX3_solve_44 rfl rfl ?_
      refine Ex.iload_n (pc := 45) dX3_solve_45 rfl rfl ?_
      refine Ex.callV (pc := 46) (As := [.ref 10, .int _, .int _]) (rest := []) dX3_solve_46 cX3_48 (t_bringOut10 (p := p) (b := k) (s := st) (hp.sm hS (by decide) (by decide) (by decide) (by decide)) (by omega) (by omega)) (sh16 _) rfl rfl (by decide) (Nat.le_refl _) (Nat.le_refl _) (Nat.le_of_ble_eq_true rfl) (Or.inl (fun r S' h => by obtain ⟨_, _, h, _⟩ := h; subst h; rfl)) (fun r S' hq _ _ => ?_)
      obtain ⟨I4, rfl, rfl, hS4, hr4⟩ := hq
      have hT : rubA p I2 10 k st 99 = rubX p (I 5) (I 6) (xOf I 10) k st 99 := rubX_sm hS (by decide) (by decide) (by decide) (by decide) (by decide)
      rw [hT] at hr4 ⊢
      have z5 : I4 16 5 = (rubX p (I 5) (I 6) (xOf I 10) k st 99).1 := by rw [← hr4]; rfl
      have z7 : I4 16 7 = (rubX p (I 5) (I 6) (xOf I 10) k st 99).2.2.1 := by rw [← hr4]; rfl
      generalize hTe : rubX p (I 5) (I 6) (xOf I 10) k st 99 = T at *
      refine Ex.if_eq (pc := 49) (tgt := 66) dX3_solve_49 (by decide) (fun c49 => ?_) (fun c49 => ?_)
      · skip
        refine Ex.iconst (pc := 66) (v := 0) dX3_solve_66 rfl ?_
        refine Ex.istore_n (pc := 67) (ls' := [some (.ref 26), some (.int _), some (.int _), some (.int 0)]) dX3_solve_67 rfl (by decide) rfl rfl ?_
        refine Ex.aload_n (pc := 68) dX3_solve_68 rfl rfl ?_
        refine Ex.getR (pc := 69) dX3_solve_69 fX3_26 (sh26 _) r26_4 ?_
        refine Ex.iload_n (pc := 72) dX3_solve_72 rfl rfl ?_
        refine Ex.iconst (pc := 73) (v := 5) dX3_solve_73 rfl ?_
        refine Ex.imul (pc := 74) dX3_solve_74 ?_
        refine Ex.iload_n (pc := 75) dX3_solve_75 rfl rfl ?_
        refine Ex.iadd (pc := 76) dX3_solve_76 ?_
        refine Ex.iload_n (pc := 77) dX3_solve_77 rfl rfl ?_
        refine Ex.if_eq (pc := 78) (tgt := 91) dX3_solve_78 (by decide) (fun _ => ?_) (fun c78 => absurd rfl c78)
        refine Ex.iconst (pc := 91) (v := (-1)) dX3_solve_91 rfl ?_
        refine Ex.iast (pc := 92) (j := st * 5 + k) dX3_solve_92 (sh29 _) (by rw [show nI st * 5 + nI k = nI (st * 5 + k) from by rw [show nI st * 5 = nI (st * 5) from pk_mul st 5, nI_add]]; exact vp_in_nI (by omega) (by decide)) (by rw [show nI st * 5 + nI k = nI (st * 5 + k) from by rw [show nI st * 5 = nI (st * 5) from pk_mul st 5, nI_add]]; exact nI_clamp (by omega)) ?_
        refine Ex.iinc (pc := 93) (ls' := [some (.ref 26), some (.int _), some (.int _), some (.int 0)]) dX3_solve_93 rfl rfl (by decide) rfl rfl ?_
        refine Ex.goto (pc := 96) (tgt := 20) dX3_solve_96 (by decide) ?_
        have hv : (-1 : Int32) = sfV T := by unfold sfV; rw [if_neg (fun q => absurd (show (1 : Int32) = 0 from by rw [if_pos q] at c49; exact c49) (by decide))]
        rw [show nI k + Int32.ofInt 1 = nI (k + 1) from nI_1 k]
        refine Ex.le (ls' := [some (.ref 26), some (.int (nI st)), some (.int (nI (k + 1))), none]) ⟨rfl, rfl, rfl, trivial⟩ (ih2 _ ⟨(hS.tr hS4 (l := [16, 17, 18, 29]) (by decide) (by decide)).up (by decide), ?_, ?_⟩)
        · intro s b hs hb; rw [va_up_s, upd_n (by omega), hS4 29 (by decide)]; exact hsf s b hs hb
        · intro b hb; rw [va_up_s]
          by_cases e : b = k
          · rw [e, upd_s, hv, hTe]
          · rw [upd_n (by omega), hS4 29 (by decide)]; exact hrow b (by omega)
      · skip
        refine Ex.aload_n (pc := 52) dX3_solve_52 rfl rfl ?_
        refine Ex.getR (pc := 53) dX3_solve_53 fX3_29 (sh26 _) r26_5 ?_
        refine Ex.getI (pc := 56) dX3_solve_56 fX3_52 (sh16 _) ?_
        refine Ex.if_le (pc := 59) (tgt := 66) dX3_solve_59 (by decide) (fun c59 => ?_) (fun c59 => ?_)
        · skip
          refine Ex.iconst (pc := 66) (v := 0) dX3_solve_66 rfl ?_
          refine Ex.istore_n (pc := 67) (ls' := [some (.ref 26), some (.int _), some (.int _), some (.int 0)]) dX3_solve_67 rfl (by decide) rfl rfl ?_
          refine Ex.aload_n (pc := 68) dX3_solve_68 rfl rfl ?_
          refine Ex.getR (pc := 69) dX3_solve_69 fX3_26 (sh26 _) r26_4 ?_
          refine Ex.iload_n (pc := 72) dX3_solve_72 rfl rfl ?_
          refine Ex.iconst (pc := 73) (v := 5) dX3_solve_73 rfl ?_
          refine Ex.imul (pc := 74) dX3_solve_74 ?_
          refine Ex.iload_n (pc := 75) dX3_solve_75 rfl rfl ?_
          refine Ex.iadd (pc := 76) dX3_solve_76 ?_
          refine Ex.iload_n (pc := 77) dX3_solve_77 rfl rfl ?_
          refine Ex.if_eq (pc := 78) (tgt := 91) dX3_solve_78 (by decide) (fun _ => ?_) (fun c78 => absurd rfl c78)
          refine Ex.iconst (pc := 91) (v := (-1)) dX3_solve_91 rfl ?_
          refine Ex.iast (pc := 92) (j := st * 5 + k) dX3_solve_92 (sh29 _) (by rw [show nI st * 5 + nI k = nI (st * 5 + k) from by rw [show nI st * 5 = nI (st * 5) from pk_mul st 5, nI_add]]; exact vp_in_nI (by omega) (by decide)) (by rw [show nI st * 5 + nI k = nI (st * 5 + k) from by rw [show nI st * 5 = nI (st * 5) from pk_mul st 5, nI_add]]; exact nI_clamp (by omega)) ?_
          refine Ex.iinc (pc := 93) (ls' := [some (.ref 26), some (.int _), some (.int _), some (.int 0)]) dX3_solve_93 rfl rfl (by decide) rfl rfl ?_
          refine Ex.goto (pc := 96) (tgt := 20) dX3_solve_96 (by decide) ?_
          have hv : (-1 : Int32) = sfV T := by rw [z5] at c59; unfold sfV; split <;> simp [c59]
          rw [show nI k + Int32.ofInt 1 = nI (k + 1) from nI_1 k]
          refine Ex.le (ls' := [some (.ref 26), some (.int (nI st)), some (.int (nI (k + 1))), none]) ⟨rfl, rfl, rfl, trivial⟩ (ih2 _ ⟨(hS.tr hS4 (l := [16, 17, 18, 29]) (by decide) (by decide)).up (by decide), ?_, ?_⟩)
          · intro s b hs hb; rw [va_up_s, upd_n (by omega), hS4 29 (by decide)]; exact hsf s b hs hb
          · intro b hb; rw [va_up_s]
            by_cases e : b = k
            · rw [e, upd_s, hv, hTe]
            · rw [upd_n (by omega), hS4 29 (by decide)]; exact hrow b (by omega)
        · skip
          refine Ex.iconst (pc := 62) (v := 1) dX3_solve_62 rfl ?_
          refine Ex.goto (pc := 63) (tgt := 67) dX3_solve_63 (by decide) ?_
          refine Ex.istore_n (pc := 67) (ls' := [some (.ref 26), some (.int _), some (.int _), some (.int 1)]) dX3_solve_67 rfl (by decide) rfl rfl ?_
          refine Ex.aload_n (pc := 68) dX3_solve_68 rfl rfl ?_
          refine Ex.getR (pc := 69) dX3_solve_69 fX3_26 (sh26 _) r26_4 ?_
          refine Ex.iload_n (pc := 72) dX3_solve_72 rfl rfl ?_
          refine Ex.iconst (pc := 73) (v := 5) dX3_solve_73 rfl ?_
          refine Ex.imul (pc := 74) dX3_solve_74 ?_
          refine Ex.iload_n (pc := 75) dX3_solve_75 rfl rfl ?_
          refine Ex.iadd (pc := 76) dX3_solve_76 ?_
          refine Ex.iload_n (pc := 77) dX3_solve_77 rfl rfl ?_
          refine Ex.if_eq (pc := 78) (tgt := 91) dX3_solve_78 (by decide) (fun c78 => absurd c78 (by decide)) (fun _ => ?_)
          refine Ex.aload_n (pc := 81) dX3_solve_81 rfl rfl ?_
          refine Ex.getR (pc := 82) dX3_solve_82 fX3_29 (sh26 _) r26_5 ?_
          refine Ex.getI (pc := 85) dX3_solve_85 fX3_55 (sh16 _) ?_
          refine Ex.goto (pc := 88) (tgt := 92) dX3_solve_88 (by decide) ?_
          refine Ex.iast (pc := 92) (j := st * 5 + k) dX3_solve_92 (sh29 _) (by rw [show nI st * 5 + nI k = nI (st * 5 + k) from by rw [show nI st * 5 = nI (st * 5) from pk_mul st 5, nI_add]]; exact vp_in_nI (by omega) (by decide)) (by rw [show nI st * 5 + nI k = nI (st * 5 + k) from by rw [show nI st * 5 = nI (st * 5) from pk_mul st 5, nI_add]]; exact nI_clamp (by omega)) ?_
          refine Ex.iinc (pc := 93) (ls' := [some (.ref 26), some (.int _), some (.int _), some (.int 1)]) dX3_solve_93 rfl rfl (by decide) rfl rfl ?_
          refine Ex.goto (pc := 96) (tgt := 20) dX3_solve_96 (by decide) ?_
          have hv : I4 16 7 = sfV T := by rw [z5] at c59; unfold sfV; rw [if_pos (show T.2.1 = 0 from Classical.byContradiction (fun q => c49 (by rw [if_neg q]))), if_neg c59]; exact z7
          rw [show nI k + Int32.ofInt 1 = nI (k + 1) from nI_1 k]
          refine Ex.le (ls' := [some (.ref 26), some (.int (nI st)), some (.int (nI (k + 1))), none]) ⟨rfl, rfl, rfl, trivial⟩ (ih2 _ ⟨(hS.tr hS4 (l := [16, 17, 18, 29]) (by decide) (by decide)).up (by decide), ?_, ?_⟩)
          · intro s b hs hb; rw [va_up_s, upd_n (by omega), hS4 29 (by decide)]; exact hsf s b hs hb
          · intro b hb; rw [va_up_s]
            by_cases e : b = k
            · rw [e, upd_s, hv, hTe]
            · rw [upd_n (by omega), hS4 29 (by decide)]; exact hrow b (by omega)
def mtV (g : aSe) (w : Int32) : Int32 := if g.1 = -1 then -1 else if w = -1 then g.1 else g.2.1 w.toNatClampNeg
set_option maxRecDepth 20000 in
theorem t_match0 {N : Nat} {I : aI} {L : aL} {p : aP} {nb ns nh : Nat} (hp : PlanG N I p) (hc : CntOk I nb ns nh) {w : Int32} (h1 : ¬ w = -1) (h2 : inR w ns = false) : Run 1 0 0 mX9_match [.ref 0, .int w] (St N I L) (RI (-1) (St N I L)) := by
  refine Run.of (ls := [some (.ref 0), some (.int _)]) (by decide) (Nat.le_of_ble_eq_true rfl) rfl ?_
  obtain ⟨hc0, hb5, hc1, hs6, hc2, hh6, hrib⟩ := id hc
  refine Ex.iload_n (pc := 0) dX9_match_0 rfl rfl ?_
  refine Ex.iconst (pc := 1) (v := (-1)) dX9_match_1 rfl ?_
  refine Ex.icmp_eq (pc := 2) (tgt := 19) dX9_match_2 (by decide) (fun c2 => absurd c2 h1) (fun _ => ?_)
  refine Ex.aload_n (pc := 5) dX9_match_5 rfl rfl ?_
  refine Ex.getR (pc := 6) dX9_match_6 fX9_22 (sh0 _) r0_2 ?_
  refine Ex.iconst (pc := 9) (v := 1) dX9_match_9 rfl ?_
  refine Ex.iload_n (pc := 10) dX9_match_10 rfl rfl ?_
  refine Ex.callV (pc := 11) (As := [.int 1, .int _]) (rest := []) dX9_match_11 cX9_182 (t_holdsB (s := 1) (n := ns) (by decide) hc1) (sh2 _) rfl rfl (by decide) (Nat.le_refl _) (Nat.le_refl _) (Nat.le_of_ble_eq_true rfl) (Or.inl (fun r S' h => by obtain ⟨_, h⟩ := h; subst h; rfl)) (fun r S' hq _ _ => ?_)
  obtain ⟨rfl, rfl⟩ := hq
  refine Ex.if_ne (pc := 14) (tgt := 19) dX9_match_14 (by decide) (fun c14 => absurd (by rw [h2]; rfl) c14) (fun _ => ?_)
  refine Ex.iconst (pc := 17) (v := (-1)) dX9_match_17 rfl ?_
  refine Ex.iret (pc := 18) rfl rfl rfl dX9_match_18 (Nat.le_refl _) (Nat.le_refl _) ?_
  exact ⟨rfl, rfl⟩
set_option maxRecDepth 20000 in
theorem t_matchs {N : Nat} {I : aI} {L : aL} {p : aP} {nb ns nh : Nat} (hp : PlanG N I p) (hc : CntOk I nb ns nh) {w : Int32} (hw : w = -1 ∨ inR w ns = true) (hf : I 26 0 = 0) : Run 9 0 0 mX9_match [.ref 0, .int w] (St N I L) (RP (some (.int (mtV (mtG p (I 5) (I 6) nb ns (xOf I 10) (seOf I)) w))) N L (fun I2 => Sm [16, 17, 18, 26, 27, 28, 29] I I2 ∧ I2 26 0 = 1 ∧ seOf I2 = (mtG p (I 5) (I 6) nb ns (xOf I 10) (seOf I)))) := by
  refine Run.of (ls := [some (.ref 0), some (.int _)]) (by decide) (Nat.le_of_ble_eq_true rfl) rfl ?_
  obtain ⟨hc0, hb5, hc1, hs6, hc2, hh6, hrib⟩ := id hc
  refine Ex.iload_n (pc := 0) dX9_match_0 rfl rfl ?_
  refine Ex.iconst (pc := 1) (v := (-1)) dX9_match_1 rfl ?_
  refine Ex.icmp_eq (pc := 2) (tgt := 19) dX9_match_2 (by decide) (fun c2 => ?_) (fun c2 => ?_)
  · skip
    refine Ex.aload_n (pc := 19) dX9_match_19 rfl rfl ?_
    refine Ex.getR (pc := 20) dX9_match_20 fX9_77 (sh0 _) r0_11 ?_
    refine Ex.getI (pc := 23) dX9_match_23 fX9_225 (sh26 _) ?_
    refine Ex.if_ne (pc := 26) (tgt := 36) dX9_match_26 (by decide) (fun c26 => absurd hf c26) (fun _ => ?_)
    refine Ex.aload_n (pc := 29) dX9_match_29 rfl rfl ?_
    refine Ex.getR (pc := 30) dX9_match_30 fX9_77 (sh0 _) r0_11 ?_
    refine Ex.callV (pc := 33) (As := []) (rest := []) dX9_match_33 cX9_229 (t_msolve hp hc) (sh26 _) rfl rfl (by decide) (Nat.le_refl _) (Nat.le_refl _) (Nat.le_of_ble_eq_true rfl) (Or.inl (fun r S' h => by obtain ⟨_, _, h, _⟩ := h; subst h; rfl)) (fun r S' hq _ _ => ?_)
    obtain ⟨I3, rfl, rfl, hS3, h30, hg3⟩ := hq
    refine Ex.aload_n (pc := 36) dX9_match_36 rfl rfl ?_
    refine Ex.getR (pc := 37) dX9_match_37 fX9_77 (sh0 _) r0_11 ?_
    refine Ex.getI (pc := 40) dX9_match_40 fX9_232 (sh26 _) ?_
    refine Ex.iconst (pc := 43) (v := (-1)) dX9_match_43 rfl ?_
    refine Ex.icmp_ne (pc := 44) (tgt := 49) dX9_match_44 (by decide) (fun c44 => ?_) (fun c44 => ?_)
    · skip
      refine Ex.iload_n (pc := 49) dX9_match_49 rfl rfl ?_
      refine Ex.iconst (pc := 50) (v := (-1)) dX9_match_50 rfl ?_
      refine Ex.icmp_ne (pc := 51) (tgt := 64) dX9_match_51 (by decide) (fun c51 => ?_) (fun c51 => ?_)
      · skip
        obtain ⟨j, hj, rfl⟩ : ∃ j, j < ns ∧ w = nI j := by
          rcases hw with q | q
          · exact absurd q c51
          · exact inR_of q (by omega)
        refine Ex.aload_n (pc := 64) dX9_match_64 rfl rfl ?_
        refine Ex.getR (pc := 65) dX9_match_65 fX9_77 (sh0 _) r0_11 ?_
        refine Ex.getR (pc := 68) dX9_match_68 fX9_235 (sh26 _) r26_2 ?_
        refine Ex.iload_n (pc := 71) dX9_match_71 rfl rfl ?_
        refine Ex.iald (pc := 72) (j := j) dX9_match_72 (sh27 _) (vp_in_nI (by omega) (by decide)) (ixN2 (by omega)) ?_
        refine Ex.iret (pc := 73) rfl rfl rfl dX9_match_73 (Nat.le_refl _) (Nat.le_refl _) ?_
        refine ⟨_, congrArg (fun z => some (Value.int z)) ?_, rfl, hS3, h30, hg3⟩
        rw [← hg3]
        unfold mtV
        rw [if_neg (show ¬ (seOf I3).1 = -1 from c44), if_neg c51, nI_clamp (by omega)]; rfl
      · skip
        refine Ex.aload_n (pc := 54) dX9_match_54 rfl rfl ?_
        refine Ex.getR (pc := 55) dX9_match_55 fX9_77 (sh0 _) r0_11 ?_
        refine Ex.getI (pc := 58) dX9_match_58 fX9_232 (sh26 _) ?_
        refine Ex.goto (pc := 61) (tgt := 73) dX9_match_61 (by decide) ?_
        refine Ex.iret (pc := 73) rfl rfl rfl dX9_match_73 (Nat.le_refl _) (Nat.le_refl _) ?_
        refine ⟨_, congrArg (fun z => some (Value.int z)) ?_, rfl, hS3, h30, hg3⟩
        rw [← hg3]
        unfold mtV
        rw [if_neg (show ¬ (seOf I3).1 = -1 from c44), if_pos c51]; rfl
    · skip
      refine Ex.iconst (pc := 47) (v := (-1)) dX9_match_47 rfl ?_
      refine Ex.iret (pc := 48) rfl rfl rfl dX9_match_48 (Nat.le_refl _) (Nat.le_refl _) ?_
      refine ⟨_, congrArg (fun z => some (Value.int z)) ?_, rfl, hS3, h30, hg3⟩
      rw [← hg3]
      unfold mtV
      rw [if_pos (show (seOf I3).1 = -1 from c44)]
  · skip
    refine Ex.aload_n (pc := 5) dX9_match_5 rfl rfl ?_
    refine Ex.getR (pc := 6) dX9_match_6 fX9_22 (sh0 _) r0_2 ?_
    refine Ex.iconst (pc := 9) (v := 1) dX9_match_9 rfl ?_
    refine Ex.iload_n (pc := 10) dX9_match_10 rfl rfl ?_
    refine Ex.callV (pc := 11) (As := [.int 1, .int _]) (rest := []) dX9_match_11 cX9_182 (t_holdsB (s := 1) (n := ns) (by decide) hc1) (sh2 _) rfl rfl (by decide) (Nat.le_refl _) (Nat.le_refl _) (Nat.le_of_ble_eq_true rfl) (Or.inl (fun r S' h => by obtain ⟨_, h⟩ := h; subst h; rfl)) (fun r S' hq _ _ => ?_)
    obtain ⟨rfl, rfl⟩ := hq
    refine Ex.if_ne (pc := 14) (tgt := 19) dX9_match_14 (by decide) (fun _ => ?_) (fun c14 => absurd c14 (by rw [hw.resolve_left c2]; decide))
    refine Ex.aload_n (pc := 19) dX9_match_19 rfl rfl ?_
    refine Ex.getR (pc := 20) dX9_match_20 fX9_77 (sh0 _) r0_11 ?_
    refine Ex.getI (pc := 23) dX9_match_23 fX9_225 (sh26 _) ?_
    refine Ex.if_ne (pc := 26) (tgt := 36) dX9_match_26 (by decide) (fun c26 => absurd hf c26) (fun _ => ?_)
    refine Ex.aload_n (pc := 29) dX9_match_29 rfl rfl ?_
    refine Ex.getR (pc := 30) dX9_match_30 fX9_77 (sh0 _) r0_11 ?_
    refine Ex.callV (pc := 33) (As := []) (rest := []) dX9_match_33 cX9_229 (t_msolve hp hc) (sh26 _) rfl rfl (by decide) (Nat.le_refl _) (Nat.le_refl _) (Nat.le_of_ble_eq_true rfl) (Or.inl (fun r S' h => by obtain ⟨_, _, h, _⟩ := h; subst h; rfl)) (fun r S' hq _ _ => ?_)
    obtain ⟨I3, rfl, rfl, hS3, h30, hg3⟩ := hq
    refine Ex.aload_n (pc := 36) dX9_match_36 rfl rfl ?_
    refine Ex.getR (pc := 37) dX9_match_37 fX9_77 (sh0 _) r0_11 ?_
    refine Ex.getI (pc := 40) dX9_match_40 fX9_232 (sh26 _) ?_
    refine Ex.iconst (pc := 43) (v := (-1)) dX9_match_43 rfl ?_
    refine Ex.icmp_ne (pc := 44) (tgt := 49) dX9_match_44 (by decide) (fun c44 => ?_) (fun c44 => ?_)
    · skip
      refine Ex.iload_n (pc := 49) dX9_match_49 rfl rfl ?_
      refine Ex.iconst (pc := 50) (v := (-1)) dX9_match_50 rfl ?_
      refine Ex.icmp_ne (pc := 51) (tgt := 64) dX9_match_51 (by decide) (fun c51 => ?_) (fun c51 => ?_)
      · skip
        obtain ⟨j, hj, rfl⟩ : ∃ j, j < ns ∧ w = nI j := by
          rcases hw with q | q
          · exact absurd q c51
          · exact inR_of q (by omega)
        refine Ex.aload_n (pc := 64) dX9_match_64 rfl rfl ?_
        refine Ex.getR (pc := 65) dX9_match_65 fX9_77 (sh0 _) r0_11 ?_
        refine Ex.getR (pc := 68) dX9_match_68 fX9_235 (sh26 _) r26_2 ?_
        refine Ex.iload_n (pc := 71) dX9_match_71 rfl rfl ?_
        refine Ex.iald (pc := 72) (j := j) dX9_match_72 (sh27 _) (vp_in_nI (by omega) (by decide)) (ixN2 (by omega)) ?_
        refine Ex.iret (pc := 73) rfl rfl rfl dX9_match_73 (Nat.le_refl _) (Nat.le_refl _) ?_
        refine ⟨_, congrArg (fun z => some (Value.int z)) ?_, rfl, hS3, h30, hg3⟩
        rw [← hg3]
        unfold mtV
        rw [if_neg (show ¬ (seOf I3).1 = -1 from c44), if_neg c51, nI_clamp (by omega)]; rfl
      · skip
        refine Ex.aload_n (pc := 54) dX9_match_54 rfl rfl ?_
        refine Ex.getR (pc := 55) dX9_match_55 fX9_77 (sh0 _) r0_11 ?_
        refine Ex.getI (pc := 58) dX9_match_58 fX9_232 (sh26 _) ?_
        refine Ex.goto (pc := 61) (tgt := 73) dX9_match_61 (by decide) ?_
        refine Ex.iret (pc := 73) rfl rfl rfl dX9_match_73 (Nat.le_refl _) (Nat.le_refl _) ?_
        refine ⟨_, congrArg (fun z => some (Value.int z)) ?_, rfl, hS3, h30, hg3⟩
        rw [← hg3]
        unfold mtV
        rw [if_neg (show ¬ (seOf I3).1 = -1 from c44), if_pos c51]; rfl
    · skip
      refine Ex.iconst (pc := 47) (v := (-1)) dX9_match_47 rfl ?_
      refine Ex.iret (pc := 48) rfl rfl rfl dX9_match_48 (Nat.le_refl _) (Nat.le_refl _) ?_
      refine ⟨_, congrArg (fun z => some (Value.int z)) ?_, rfl, hS3, h30, hg3⟩
      rw [← hg3]
      unfold mtV
      rw [if_pos (show (seOf I3).1 = -1 from c44)]
set_option maxRecDepth 20000 in
theorem t_matchk {N : Nat} {I : aI} {L : aL} {p : aP} {nb ns nh : Nat} (hp : PlanG N I p) (hc : CntOk I nb ns nh) {w : Int32} (hw : w = -1 ∨ inR w ns = true) (hf : I 26 0 = 1) : Run 9 0 0 mX9_match [.ref 0, .int w] (St N I L) (RP (some (.int (mtV (seOf I) w))) N L (fun I2 => Sm [16, 17, 18, 26, 27, 28, 29] I I2 ∧ I2 26 0 = 1 ∧ seOf I2 = (seOf I))) := by
  refine Run.of (ls := [some (.ref 0), some (.int _)]) (by decide) (Nat.le_of_ble_eq_true rfl) rfl ?_
  obtain ⟨hc0, hb5, hc1, hs6, hc2, hh6, hrib⟩ := id hc
  refine Ex.iload_n (pc := 0) dX9_match_0 rfl rfl ?_
  refine Ex.iconst (pc := 1) (v := (-1)) dX9_match_1 rfl ?_
  refine Ex.icmp_eq (pc := 2) (tgt := 19) dX9_match_2 (by decide) (fun c2 => ?_) (fun c2 => ?_)
  · skip
    refine Ex.aload_n (pc := 19) dX9_match_19 rfl rfl ?_
    refine Ex.getR (pc := 20) dX9_match_20 fX9_77 (sh0 _) r0_11 ?_
    refine Ex.getI (pc := 23) dX9_match_23 fX9_225 (sh26 _) ?_
    refine Ex.if_ne (pc := 26) (tgt := 36) dX9_match_26 (by decide) (fun _ => ?_) (fun c26 => absurd c26 (by rw [hf]; decide))
    refine Ex.aload_n (pc := 36) dX9_match_36 rfl rfl ?_
    refine Ex.getR (pc := 37) dX9_match_37 fX9_77 (sh0 _) r0_11 ?_
    refine Ex.getI (pc := 40) dX9_match_40 fX9_232 (sh26 _) ?_
    refine Ex.iconst (pc := 43) (v := (-1)) dX9_match_43 rfl ?_
    refine Ex.icmp_ne (pc := 44) (tgt := 49) dX9_match_44 (by decide) (fun c44 => ?_) (fun c44 => ?_)
    · skip
      refine Ex.iload_n (pc := 49) dX9_match_49 rfl rfl ?_
      refine Ex.iconst (pc := 50) (v := (-1)) dX9_match_50 rfl ?_
      refine Ex.icmp_ne (pc := 51) (tgt := 64) dX9_match_51 (by decide) (fun c51 => ?_) (fun c51 => ?_)
      · skip
        obtain ⟨j, hj, rfl⟩ : ∃ j, j < ns ∧ w = nI j := by
          rcases hw with q | q
          · exact absurd q c51
          · exact inR_of q (by omega)
        refine Ex.aload_n (pc := 64) dX9_match_64 rfl rfl ?_
        refine Ex.getR (pc := 65) dX9_match_65 fX9_77 (sh0 _) r0_11 ?_
        refine Ex.getR (pc := 68) dX9_match_68 fX9_235 (sh26 _) r26_2 ?_
        refine Ex.iload_n (pc := 71) dX9_match_71 rfl rfl ?_
        refine Ex.iald (pc := 72) (j := j) dX9_match_72 (sh27 _) (vp_in_nI (by omega) (by decide)) (ixN2 (by omega)) ?_
        refine Ex.iret (pc := 73) rfl rfl rfl dX9_match_73 (Nat.le_refl _) (Nat.le_refl _) ?_
        refine ⟨_, congrArg (fun z => some (Value.int z)) ?_, rfl, Sm.rf, hf, rfl⟩
        unfold mtV
        rw [if_neg (show ¬ (seOf I).1 = -1 from c44), if_neg c51, nI_clamp (by omega)]; rfl
      · skip
        refine Ex.aload_n (pc := 54) dX9_match_54 rfl rfl ?_
        refine Ex.getR (pc := 55) dX9_match_55 fX9_77 (sh0 _) r0_11 ?_
        refine Ex.getI (pc := 58) dX9_match_58 fX9_232 (sh26 _) ?_
        refine Ex.goto (pc := 61) (tgt := 73) dX9_match_61 (by decide) ?_
        refine Ex.iret (pc := 73) rfl rfl rfl dX9_match_73 (Nat.le_refl _) (Nat.le_refl _) ?_
        refine ⟨_, congrArg (fun z => some (Value.int z)) ?_, rfl, Sm.rf, hf, rfl⟩
        unfold mtV
        rw [if_neg (show ¬ (seOf I).1 = -1 from c44), if_pos c51]; rfl
    · skip
      refine Ex.iconst (pc := 47) (v := (-1)) dX9_match_47 rfl ?_
      refine Ex.iret (pc := 48) rfl rfl rfl dX9_match_48 (Nat.le_refl _) (Nat.le_refl _) ?_
      refine ⟨_, congrArg (fun z => some (Value.int z)) ?_, rfl, Sm.rf, hf, rfl⟩
      unfold mtV
      rw [if_pos (show (seOf I).1 = -1 from c44)]
  · skip
    refine Ex.aload_n (pc := 5) dX9_match_5 rfl rfl ?_
    refine Ex.getR (pc := 6) dX9_match_6 fX9_22 (sh0 _) r0_2 ?_
    refine Ex.iconst (pc := 9) (v := 1) dX9_match_9 rfl ?_
    refine Ex.iload_n (pc := 10) dX9_match_10 rfl rfl ?_
    refine Ex.callV (pc := 11) (As := [.int 1, .int _]) (rest := []) dX9_match_11 cX9_182 (t_holdsB (s := 1) (n := ns) (by decide) hc1) (sh2 _) rfl rfl (by decide) (Nat.le_refl _) (Nat.le_refl _) (Nat.le_of_ble_eq_true rfl) (Or.inl (fun r S' h => by obtain ⟨_, h⟩ := h; subst h; rfl)) (fun r S' hq _ _ => ?_)
    obtain ⟨rfl, rfl⟩ := hq
    refine Ex.if_ne (pc := 14) (tgt := 19) dX9_match_14 (by decide) (fun _ => ?_) (fun c14 => absurd c14 (by rw [hw.resolve_left c2]; decide))
    refine Ex.aload_n (pc := 19) dX9_match_19 rfl rfl ?_
    refine Ex.getR (pc := 20) dX9_match_20 fX9_77 (sh0 _) r0_11 ?_
    refine Ex.getI (pc := 23) dX9_match_23 fX9_225 (sh26 _) ?_
    refine Ex.if_ne (pc := 26) (tgt := 36) dX9_match_26 (by decide) (fun _ => ?_) (fun c26 => absurd c26 (by rw [hf]; decide))
    refine Ex.aload_n (pc := 36) dX9_match_36 rfl rfl ?_
    refine Ex.getR (pc := 37) dX9_match_37 fX9_77 (sh0 _) r0_11 ?_
    refine Ex.getI (pc := 40) dX9_match_40 fX9_232 (sh26 _) ?_
    refine Ex.iconst (pc := 43) (v := (-1)) dX9_match_43 rfl ?_
    refine Ex.icmp_ne (pc := 44) (tgt := 49) dX9_match_44 (by decide) (fun c44 => ?_) (fun c44 => ?_)
    · skip
      refine Ex.iload_n (pc := 49) dX9_match_49 rfl rfl ?_
      refine Ex.iconst (pc := 50) (v := (-1)) dX9_match_50 rfl ?_
      refine Ex.icmp_ne (pc := 51) (tgt := 64) dX9_match_51 (by decide) (fun c51 => ?_) (fun c51 => ?_)
      · skip
        obtain ⟨j, hj, rfl⟩ : ∃ j, j < ns ∧ w = nI j := by
          rcases hw with q | q
          · exact absurd q c51
          · exact inR_of q (by omega)
        refine Ex.aload_n (pc := 64) dX9_match_64 rfl rfl ?_
        refine Ex.getR (pc := 65) dX9_match_65 fX9_77 (sh0 _) r0_11 ?_
        refine Ex.getR (pc := 68) dX9_match_68 fX9_235 (sh26 _) r26_2 ?_
        refine Ex.iload_n (pc := 71) dX9_match_71 rfl rfl ?_
        refine Ex.iald (pc := 72) (j := j) dX9_match_72 (sh27 _) (vp_in_nI (by omega) (by decide)) (ixN2 (by omega)) ?_
        refine Ex.iret (pc := 73) rfl rfl rfl dX9_match_73 (Nat.le_refl _) (Nat.le_refl _) ?_
        refine ⟨_, congrArg (fun z => some (Value.int z)) ?_, rfl, Sm.rf, hf, rfl⟩
        unfold mtV
        rw [if_neg (show ¬ (seOf I).1 = -1 from c44), if_neg c51, nI_clamp (by omega)]; rfl
      · skip
        refine Ex.aload_n (pc := 54) dX9_match_54 rfl rfl ?_
        refine Ex.getR (pc := 55) dX9_match_55 fX9_77 (sh0 _) r0_11 ?_
        refine Ex.getI (pc := 58) dX9_match_58 fX9_232 (sh26 _) ?_
        refine Ex.goto (pc := 61) (tgt := 73) dX9_match_61 (by decide) ?_
        refine Ex.iret (pc := 73) rfl rfl rfl dX9_match_73 (Nat.le_refl _) (Nat.le_refl _) ?_
        refine ⟨_, congrArg (fun z => some (Value.int z)) ?_, rfl, Sm.rf, hf, rfl⟩
        unfold mtV
        rw [if_neg (show ¬ (seOf I).1 = -1 from c44), if_pos c51]; rfl
    · skip
      refine Ex.iconst (pc := 47) (v := (-1)) dX9_match_47 rfl ?_
      refine Ex.iret (pc := 48) rfl rfl rfl dX9_match_48 (Nat.le_refl _) (Nat.le_refl _) ?_
      refine ⟨_, congrArg (fun z => some (Value.int z)) ?_, rfl, Sm.rf, hf, rfl⟩
      unfold mtV
      rw [if_pos (show (seOf I).1 = -1 from c44)]
