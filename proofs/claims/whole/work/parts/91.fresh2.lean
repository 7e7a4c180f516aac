set_option maxRecDepth 20000 in
theorem tm_fresh {N n : Nat} {I : aI} {L : aL} {tb : Nat → Nat} {r : Er} (hB : MB tb n I) {b : Nat} {pl : Pl} (hb : b < 2) (h33 : I 36 33 = nI b) (hN : NmP I L b pl) (h : RMt tb n I L r) : Run 2 0 0 mX10_fresh [.ref 36] (St N I L) (RX N (fun x I2 L2 => ∃ v, x = some (.long v) ∧ MkG I L I2 L2 ∧ RMt tb n I2 L2 (tkN tb n pl r) ∧ ∀ s, tkN tb n pl r = .ok s → v = lN (n8 (letR r)))) := by
  refine Run.of (ls := [some (.ref 36), none, none]) (by decide) (Nat.le_of_ble_eq_true rfl) rfl ?_
  have hbad : ∀ (x1 : Option Value) (x2 : Option Value) (I2 : aI) (L2 : aL) (e : Nat × Nat), MkG I L I2 L2 → RMs tb n I2 L2 (.error e) → tkN tb n pl r = .error e → ∀ q, q < 4 → Ex 2 0 0 mX10_fresh 0 0 43 [some (.ref 36), some (.int (nI q)), none] [] (St N I2 L2) (RX N (fun x I2 L2 => ∃ v, x = some (.long v) ∧ MkG I L I2 L2 ∧ RMt tb n I2 L2 (tkN tb n pl r) ∧ ∀ s, tkN tb n pl r = .ok s → v = lN (n8 (letR r)))) := by
    intro x1 x2 I2 L2 e g2 m2 ht q hq
    have hb8 := m2.bad
    refine Ex.iload_n (pc := 43) dX10_fresh_43 rfl rfl ?_
    refine Ex.iconst (pc := 44) (v := 2) dX10_fresh_44 rfl ?_
    refine Ex.icmp_gt (pc := 45) (tgt := 83) dX10_fresh_45 (by decide) (fun c45 => ?_) (fun c45 => ?_)
    · skip
      refine Ex.aload_n (pc := 83) dX10_fresh_83 rfl rfl ?_
      refine Ex.getL (pc := 84) dX10_fresh_84 fX10_32 (sh36 _) ?_
      refine Ex.lstore_n (pc := 87) (ls' := [some (.ref 36), some (.long _), none]) dX10_fresh_87 rfl (by decide) rfl rfl ?_
      refine Ex.aload_n (pc := 88) dX10_fresh_88 rfl rfl ?_
      refine Ex.getI (pc := 89) dX10_fresh_89 fX10_36 (sh36 _) ?_
      refine Ex.if_ne (pc := 92) (tgt := 99) dX10_fresh_92 (by decide) (fun _ => ?_) (fun c92 => absurd c92 hb8)
      refine Ex.lload_n (pc := 99) dX10_fresh_99 rfl rfl ?_
      refine Ex.lret (pc := 100) rfl dX10_fresh_100 (Nat.le_refl _) (Nat.le_refl _) ?_
      rw [ht]
      exact ⟨_, _, rfl, _, rfl, g2, m2.t, fun s z => by cases z⟩
    · skip
      refine Ex.aload_n (pc := 48) dX10_fresh_48 rfl rfl ?_
      refine Ex.getI (pc := 49) dX10_fresh_49 fX10_36 (sh36 _) ?_
      refine Ex.if_ne (pc := 52) (tgt := 83) dX10_fresh_52 (by decide) (fun _ => ?_) (fun c52 => absurd c52 hb8)
      refine Ex.aload_n (pc := 83) dX10_fresh_83 rfl rfl ?_
      refine Ex.getL (pc := 84) dX10_fresh_84 fX10_32 (sh36 _) ?_
      refine Ex.lstore_n (pc := 87) (ls' := [some (.ref 36), some (.long _), none]) dX10_fresh_87 rfl (by decide) rfl rfl ?_
      refine Ex.aload_n (pc := 88) dX10_fresh_88 rfl rfl ?_
      refine Ex.getI (pc := 89) dX10_fresh_89 fX10_36 (sh36 _) ?_
      refine Ex.if_ne (pc := 92) (tgt := 99) dX10_fresh_92 (by decide) (fun _ => ?_) (fun c92 => absurd c92 hb8)
      refine Ex.lload_n (pc := 99) dX10_fresh_99 rfl rfl ?_
      refine Ex.lret (pc := 100) rfl dX10_fresh_100 (Nat.le_refl _) (Nat.le_refl _) ?_
      rw [ht]
      exact ⟨_, _, rfl, _, rfl, g2, m2.t, fun s z => by cases z⟩
  have kl : ∀ (I1 : aI) (L1 : aL) (t : Tk) (c : Cd), MkG I L I1 L1 → MB tb n I1 → RMo tb n I1 L1 t → r = .ok (t, c) → t.1 = 2 → ownW t.2.2.1 = -1 → L1 36 7 = lN (n8 t.2.2.1) → okN t.2.2.1 → ∀ f q, q + f = 3 → (∀ p j, p < q → j < pl.1 p → ¬ pl.2.1 p j = t.2.2.1) → Ex 2 0 0 mX10_fresh 0 0 43 [some (.ref 36), some (.int (nI q)), none] [] (St N I1 L1) (RX N (fun x I2 L2 => ∃ v, x = some (.long v) ∧ MkG I L I2 L2 ∧ RMt tb n I2 L2 (tkN tb n pl r) ∧ ∀ s, tkN tb n pl r = .ok s → v = lN (n8 (letR r)))) := by
    intro I1 L1 t c g1 b1 m1 hr h2 ho hw ok f
    have n1 := hN.g g1
    have h331 : I1 36 33 = nI b := by rw [g1.2.1 33 (by decide)]; exact h33
    have hbr : brB pl.1 (fun i => nI (n5 (pl.2.1 (i / 6) (i % 6)))) (nI (n5 t.2.2.1)) = true ↔ bnB pl t.2.2.1 := brB_n ok (fun q j hq hj => ⟨Nat.le_trans (n1 q hq).1 (by unfold wd; split <;> decide), ((n1 q hq).2.2 j hj).1⟩)
    subst hr
    have hm1 : RMs tb n I1 L1 (.ok (t, c)) := m1
    induction f with
    | zero =>
      intro q hq hno
      have hnb : ¬ bnB pl t.2.2.1 := fun ⟨p, j, hp, hj, e⟩ => hno p j (by omega) hj e
      have ht : tkN tb n pl (.ok (t, c)) = nx tb n (.ok (t, c)) := (if_pos ⟨h2, ho⟩).trans (if_neg (fun z => hnb (hbr.mp z)))
      have hq3 : q = 3 := by omega
      refine Ex.iload_n (pc := 43) dX10_fresh_43 rfl rfl ?_
      refine Ex.iconst (pc := 44) (v := 2) dX10_fresh_44 rfl ?_
      refine Ex.icmp_gt (pc := 45) (tgt := 83) dX10_fresh_45 (by decide) (fun _ => ?_) (fun c45 => absurd (by rw [hq3]; decide) c45)
      refine Ex.aload_n (pc := 83) dX10_fresh_83 rfl rfl ?_
      refine Ex.getL (pc := 84) dX10_fresh_84 fX10_32 (sh36 _) ?_
      refine Ex.lstore_n (pc := 87) (ls' := [some (.ref 36), some (.long _), none]) dX10_fresh_87 rfl (by decide) rfl rfl ?_
      refine Ex.aload_n (pc := 88) dX10_fresh_88 rfl rfl ?_
      refine Ex.getI (pc := 89) dX10_fresh_89 fX10_36 (sh36 _) ?_
      refine Ex.if_ne (pc := 92) (tgt := 99) dX10_fresh_92 (by decide) (fun c92 => absurd m1.1 c92) (fun _ => ?_)
      refine Ex.aload_n (pc := 95) dX10_fresh_95 rfl rfl ?_
      refine Ex.callV (pc := 96) (As := []) (rest := []) dX10_fresh_96 cX10_247 (tm_nx (c := c) b1 m1) (sh36 _) rfl rfl (by decide) (Nat.le_refl _) (Nat.le_refl _) (Nat.le_of_ble_eq_true rfl) (Or.inl (fun r S' h => by obtain ⟨_, _, h, _⟩ := h; subst h; rfl)) (fun r S' hq _ _ => ?_)
      obtain ⟨I3, L3, rfl, rfl, g3, m3⟩ := hq
      have g13 := g1.tr g3
      refine Ex.lload_n (pc := 99) dX10_fresh_99 rfl rfl ?_
      refine Ex.lret (pc := 100) rfl dX10_fresh_100 (Nat.le_refl _) (Nat.le_refl _) ?_
      rw [ht]
      refine ⟨_, _, rfl, _, rfl, g13, m3, fun s _ => ?_⟩
      exact hw
    | succ f ih =>
      intro q hq hno
      have hq3 : q < 3 := by omega
      refine Ex.iload_n (pc := 43) dX10_fresh_43 rfl rfl ?_
      refine Ex.iconst (pc := 44) (v := 2) dX10_fresh_44 rfl ?_
      refine Ex.icmp_gt (pc := 45) (tgt := 83) dX10_fresh_45 (by decide) (fun c45 => absurd c45 (by rw [show (2 : Int32) = nI 2 from rfl, nI_ltI (by decide) (by omega)]; omega)) (fun _ => ?_)
      refine Ex.aload_n (pc := 48) dX10_fresh_48 rfl rfl ?_
      refine Ex.getI (pc := 49) dX10_fresh_49 fX10_36 (sh36 _) ?_
      refine Ex.if_ne (pc := 52) (tgt := 83) dX10_fresh_52 (by decide) (fun c52 => absurd m1.1 c52) (fun _ => ?_)
      refine Ex.aload_n (pc := 55) dX10_fresh_55 rfl rfl ?_
      refine Ex.iload_n (pc := 56) dX10_fresh_56 rfl rfl ?_
      refine Ex.aload_n (pc := 57) dX10_fresh_57 rfl rfl ?_
      refine Ex.getL (pc := 58) dX10_fresh_58 fX10_32 (sh36 _) ?_
      refine Ex.callV (pc := 61) (As := [.int _, .long _]) (rest := []) dX10_fresh_61 cX10_350 (tm_named (q := q) (k := pl.1 q) hb hq3 h331 (n1 q hq3).2.1 (n1 q hq3).1) (sh36 _) rfl rfl (by decide) (Nat.le_refl _) (Nat.le_refl _) (Nat.le_of_ble_eq_true rfl) (Or.inl (fun r S' h => by obtain ⟨_, _, h, _⟩ := h; subst h; rfl)) (fun r S' hq _ _ => ?_)
      obtain ⟨_, _, rfl, rfl, rfl, hcase⟩ := hq
      rcases hcase with ⟨rfl, hno2⟩ | ⟨j, hj, rfl, e⟩
      · skip
        refine Ex.iconst (pc := 64) (v := (-1)) dX10_fresh_64 rfl ?_
        refine Ex.icmp_eq (pc := 65) (tgt := 77) dX10_fresh_65 (by decide) (fun _ => ?_) (fun c65 => absurd rfl c65)
        refine Ex.iinc (pc := 77) (ls' := [some (.ref 36), some (.int _), none]) dX10_fresh_77 rfl rfl (by decide) rfl rfl ?_
        refine Ex.goto (pc := 80) (tgt := 43) dX10_fresh_80 (by decide) ?_
        rw [show nI q + Int32.ofInt 1 = nI (q + 1) from nI_1 q]
        refine ih (q + 1) (by omega) ?_
        intro p j hp hj
        by_cases e : p = q
        · subst e; exact fun z => hno2 j hj (by rw [hw]; exact (n1.hit ok hq3 hj).mpr z)
        · exact hno p j (by omega) hj
      · skip
        have hbn : bnB pl t.2.2.1 := ⟨q, j, hq3, hj, (n1.hit ok hq3 hj).mp (by rw [← hw]; exact e)⟩
        have ht : tkN tb n pl (.ok (t, c)) = .error (2, t.2.2.2.1) := (if_pos ⟨h2, ho⟩).trans (if_pos (hbr.mpr hbn))
        have hj6 := Nat.le_trans (n1 q hq3).1 (show wd q ≤ 6 by unfold wd; split <;> decide)
        refine Ex.iconst (pc := 64) (v := (-1)) dX10_fresh_64 rfl ?_
        refine Ex.icmp_eq (pc := 65) (tgt := 77) dX10_fresh_65 (by decide) (fun c65 => absurd c65 (fun z => absurd (show nI j < 0 by rw [z]; decide) (nI_pos (by omega)))) (fun _ => ?_)
        refine Ex.aload_n (pc := 68) dX10_fresh_68 rfl rfl ?_
        refine Ex.iconst (pc := 69) (v := 2) dX10_fresh_69 rfl ?_
        refine Ex.aload_n (pc := 70) dX10_fresh_70 rfl rfl ?_
        refine Ex.getI (pc := 71) dX10_fresh_71 fX10_23 (sh36 _) ?_
        refine Ex.callV (pc := 74) (As := [.int 2, .int _]) (rest := []) dX10_fresh_74 cX10_230 (tm_stp (r := .ok (t, c)) (k := 2) m1 (by decide) (by decide) (RMs.at (r := .ok (t, c)) m1)) (sh36 _) rfl rfl (by decide) (Nat.le_refl _) (Nat.le_refl _) (Nat.le_of_ble_eq_true rfl) (Or.inl (fun r S' h => by obtain ⟨_, _, h, _⟩ := h; subst h; rfl)) (fun r S' hq _ _ => ?_)
        obtain ⟨I2, L2, rfl, rfl, g2, m2⟩ := hq
        have g12 := g1.tr g2
        refine Ex.iinc (pc := 77) (ls' := [some (.ref 36), some (.int _), none]) dX10_fresh_77 rfl rfl (by decide) rfl rfl ?_
        refine Ex.goto (pc := 80) (tgt := 43) dX10_fresh_80 (by decide) ?_
        rw [show nI q + Int32.ofInt 1 = nI (q + 1) from nI_1 q]
        exact hbad none none I2 L2 (2, t.2.2.2.1) g12 m2 ht (q + 1) (by omega)
  refine Ex.aload_n (pc := 0) dX10_fresh_0 rfl rfl ?_
  refine Ex.callV (pc := 1) (As := []) (rest := []) dX10_fresh_1 cX10_241 (tm_lexR (tb := tb) hB.2.2 h) (sh36 _) rfl rfl (by decide) (Nat.le_refl _) (Nat.le_refl _) (Nat.le_of_ble_eq_true rfl) (Or.inl (fun r S' h => by obtain ⟨_, _, h, _⟩ := h; subst h; rfl)) (fun r S' hq _ _ => ?_)
  obtain ⟨I1, L1, rfl, rfl, g1, m1⟩ := hq
  have b1 := hB.g g1
  refine Ex.aload_n (pc := 4) dX10_fresh_4 rfl rfl ?_
  refine Ex.getI (pc := 5) dX10_fresh_5 fX10_36 (sh36 _) ?_
  refine Ex.if_le (pc := 8) (tgt := 13) dX10_fresh_8 (by decide) (fun c8 => ?_) (fun c8 => ?_)
  · skip
    obtain ⟨t, c, hr⟩ : ∃ t c, r = .ok (t, c) := by
      cases hr : r with
      | error e => rw [hr] at m1; exact absurd (Int32.le_antisymm c8 (Int32.not_lt.mp m1.t.n8)) m1.bad
      | ok q => exact ⟨q.1, q.2, rfl⟩
    subst hr
    have m1 : RMo tb n I1 L1 t := m1
    refine Ex.aload_n (pc := 13) dX10_fresh_13 rfl rfl ?_
    refine Ex.getI (pc := 14) dX10_fresh_14 fX10_20 (sh36 _) ?_
    refine Ex.iconst (pc := 17) (v := 1) dX10_fresh_17 rfl ?_
    refine Ex.icmp_ne (pc := 18) (tgt := 32) dX10_fresh_18 (by decide) (fun c18 => ?_) (fun c18 => ?_)
    · skip
      refine Ex.aload_n (pc := 32) dX10_fresh_32 rfl rfl ?_
      refine Ex.iconst (pc := 33) (v := 1) dX10_fresh_33 rfl ?_
      refine Ex.aload_n (pc := 34) dX10_fresh_34 rfl rfl ?_
      refine Ex.getI (pc := 35) dX10_fresh_35 fX10_23 (sh36 _) ?_
      refine Ex.callV (pc := 38) (As := [.int 1, .int _]) (rest := []) dX10_fresh_38 cX10_230 (tm_stp (r := .ok (t, c)) (k := 1) m1 (by decide) (by decide) (RMs.at (r := .ok (t, c)) m1)) (sh36 _) rfl rfl (by decide) (Nat.le_refl _) (Nat.le_refl _) (Nat.le_of_ble_eq_true rfl) (Or.inl (fun r S' h => by obtain ⟨_, _, h, _⟩ := h; subst h; rfl)) (fun r S' hq _ _ => ?_)
      obtain ⟨I2, L2, rfl, rfl, g2, m2⟩ := hq
      have g12 := g1.tr g2
      refine Ex.iconst (pc := 41) (v := 0) dX10_fresh_41 rfl ?_
      refine Ex.istore_n (pc := 42) (ls' := [some (.ref 36), some (.int 0), none]) dX10_fresh_42 rfl (by decide) rfl rfl ?_
      have hnk : ¬ (t.1 = 2 ∧ ownW t.2.2.1 = -1) := fun q => c18 ((m1.k3 (k := 1) (by decide)).mpr q.1)
      refine Ex.le (ls' := [some (.ref 36), some (.int (nI 0)), none]) ⟨rfl, rfl, trivial⟩ ?_
      exact hbad none none I2 L2 (1, t.2.2.2.1) g12 m2 (if_neg hnk) 0 (by decide)
    · skip
      refine Ex.aload_n (pc := 21) dX10_fresh_21 rfl rfl ?_
      refine Ex.aload_n (pc := 22) dX10_fresh_22 rfl rfl ?_
      refine Ex.getL (pc := 23) dX10_fresh_23 fX10_32 (sh36 _) ?_
      refine Ex.callV (pc := 26) (As := [.long _]) (rest := []) dX10_fresh_26 cX10_347 (tm_isOwn) (sh36 _) rfl rfl (by decide) (Nat.le_refl _) (Nat.le_refl _) (Nat.le_of_ble_eq_true rfl) (Or.inl (fun r S' h => by obtain ⟨_, h⟩ := h; subst h; rfl)) (fun r S' hq _ _ => ?_)
      obtain ⟨rfl, rfl⟩ := hq
      refine Ex.if_eq (pc := 29) (tgt := 41) dX10_fresh_29 (by decide) (fun c29 => ?_) (fun c29 => ?_)
      · skip
        refine Ex.iconst (pc := 41) (v := 0) dX10_fresh_41 rfl ?_
        refine Ex.istore_n (pc := 42) (ls' := [some (.ref 36), some (.int 0), none]) dX10_fresh_42 rfl (by decide) rfl rfl ?_
        have h2 := (m1.k3 (k := 1) (by decide)).mp c18
        have hw := m1.2.1.2.2.2.2.1 h2
        have ok := m1.2.2.1.2.2.2.2.2.1 h2
        have ho : ownW t.2.2.1 = -1 := Classical.byContradiction fun q => absurd ((owL_own ok).mpr q) (by rw [← hw]; exact of_decide_eq_false (bI_0 c29))
        refine Ex.le (ls' := [some (.ref 36), some (.int (nI 0)), none]) ⟨rfl, rfl, trivial⟩ ?_
        exact kl I1 L1 t c g1 b1 m1 rfl h2 ho hw ok 3 0 rfl (fun q j hq => absurd hq (Nat.not_lt_zero _))
      · skip
        refine Ex.aload_n (pc := 32) dX10_fresh_32 rfl rfl ?_
        refine Ex.iconst (pc := 33) (v := 1) dX10_fresh_33 rfl ?_
        refine Ex.aload_n (pc := 34) dX10_fresh_34 rfl rfl ?_
        refine Ex.getI (pc := 35) dX10_fresh_35 fX10_23 (sh36 _) ?_
        refine Ex.callV (pc := 38) (As := [.int 1, .int _]) (rest := []) dX10_fresh_38 cX10_230 (tm_stp (r := .ok (t, c)) (k := 1) m1 (by decide) (by decide) (RMs.at (r := .ok (t, c)) m1)) (sh36 _) rfl rfl (by decide) (Nat.le_refl _) (Nat.le_refl _) (Nat.le_of_ble_eq_true rfl) (Or.inl (fun r S' h => by obtain ⟨_, _, h, _⟩ := h; subst h; rfl)) (fun r S' hq _ _ => ?_)
        obtain ⟨I2, L2, rfl, rfl, g2, m2⟩ := hq
        have g12 := g1.tr g2
        refine Ex.iconst (pc := 41) (v := 0) dX10_fresh_41 rfl ?_
        refine Ex.istore_n (pc := 42) (ls' := [some (.ref 36), some (.int 0), none]) dX10_fresh_42 rfl (by decide) rfl rfl ?_
        have h2 := (m1.k3 (k := 1) (by decide)).mp c18
        have hw := m1.2.1.2.2.2.2.1 h2
        have hnk : ¬ (t.1 = 2 ∧ ownW t.2.2.1 = -1) := fun q => (owL_own (m1.2.2.1.2.2.2.2.2.1 h2)).mp (by rw [← hw]; exact of_decide_eq_true (bI_1 c29)) q.2
        refine Ex.le (ls' := [some (.ref 36), some (.int (nI 0)), none]) ⟨rfl, rfl, trivial⟩ ?_
        exact hbad none none I2 L2 (1, t.2.2.2.1) g12 m2 (if_neg hnk) 0 (by decide)
  · skip
    refine Ex.lconst (pc := 11) (v := 0) dX10_fresh_11 rfl ?_
    refine Ex.lret (pc := 12) rfl dX10_fresh_12 (Nat.le_refl _) (Nat.le_refl _) ?_
    obtain ⟨e, hr⟩ : ∃ e, r = .error e := by
      cases hr : r with
      | error e => exact ⟨e, rfl⟩
      | ok q => rw [hr] at m1; obtain ⟨t, c⟩ := q; exact absurd (show I1 36 8 ≤ 0 by rw [(show RMo tb n I1 L1 t from m1).1]; decide) c8
    subst hr
    exact ⟨_, _, rfl, _, rfl, g1, m1.t, fun s z => by cases z⟩
