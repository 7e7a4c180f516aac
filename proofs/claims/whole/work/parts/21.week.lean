def bI (b : Bool) : Int32 := if b = true then 1 else 0
def CntOk (I : aI) (nb ns nh : Nat) : Prop := I 3 0 = nI nb ∧ nb ≤ 5 ∧ I 3 1 = nI ns ∧ ns ≤ 6 ∧ I 3 2 = nI nh ∧ nh ≤ 6 ∧ ∀ b, b < nb → ∃ r, r < 1000 ∧ I 5 b = nI r
theorem CntOk.sm {I I2 : aI} {nb ns nh : Nat} {l : List Nat} (h : CntOk I nb ns nh) (hS : Sm l I I2) (h3 : 3 ∉ l) (h5 : 5 ∉ l) : CntOk I2 nb ns nh := by
  obtain ⟨a1, a2, a3, a4, a5, a6, a7⟩ := h
  unfold CntOk
  rw [hS 3 h3, hS 5 h5]
  exact ⟨a1, a2, a3, a4, a5, a6, a7⟩
/-- the sermon of a week: board and stain -/
def serX (p : aP) (f5 f6 : Nat → Int32) (nb ns : Nat) (dr : Bool) (x : aX) : Option (Nat × Nat) :=
  if dr = true then none else match dpF x.2.2.2.2 ns with
    | none => none
    | some s => if nb = 0 then none else some (pickX p f5 f6 x s nb, s)
def serN (f5 : Nat → Int32) (b : Nat) : Nat := (f5 b).toNatClampNeg
def midX (p : aP) (f5 f6 : Nat → Int32) (nh : Nat) (x : aX) : Option (Nat × Nat) → aX
  | none => x
  | some (b, s) => preachX p f5 f6 nh x b s (serN f5 b)
def rowX (p : aP) (f5 f6 : Nat → Int32) (x : aX) : Option (Nat × Nat) → Nat → Int32
  | none => nrow x
  | some (b, s) => vrow f5 f6 x b s (rubX p f5 f6 x b s (serN f5 b))
def cameX (p : aP) (f5 f6 : Nat → Int32) (x : aX) : Option (Nat × Nat) → Int32
  | none => 0
  | some (b, s) => (rubX p f5 f6 x b s (serN f5 b)).2.2.2
def serB : Option (Nat × Nat) → Int32
  | none => -1
  | some (b, _) => nI b
def serS : Option (Nat × Nat) → Int32
  | none => -1
  | some (_, s) => nI s
def endX (p : aP) (f5 f6 : Nat → Int32) (nh : Nat) (x : aX) (se : Option (Nat × Nat)) : aX :=
  (if x.1 + 1 < 999 then x.1 + 1 else 999, x.2.1, (midX p f5 f6 nh x se).2.2.1 &&& (whoX p (rowX p f5 f6 x se) f5 f6 3 x.2.2.1 nh ^^^ (-1)), (midX p f5 f6 nh x se).2.2.2.1, (midX p f5 f6 nh x se).2.2.2.2)
def weekX (p : aP) (f5 f6 : Nat → Int32) (nb ns nh : Nat) (dr : Bool) (x : aX) : aX := endX p f5 f6 nh x (serX p f5 f6 nb ns dr x)

set_option maxRecDepth 20000 in
theorem t_passWeek10 {N : Nat} {I : aI} {L : aL} {p : aP} {nb ns nh : Nat} {dr : Bool} (hp : PlanG N I p) (hc : CntOk I nb ns nh) : Run 5 0 0 mX6_passWeek [.ref 16, .ref 10, .int (bI dr)] (St N I L) (RP none N L (fun I2 => Sm [10, 11, 12, 16, 17, 18] I I2 ∧ xOf I2 10 = weekX p (I 5) (I 6) nb ns nh dr (xOf I 10) ∧ I2 10 3 = I 10 3 ∧ I2 16 3 = serB (serX p (I 5) (I 6) nb ns dr (xOf I 10)) ∧ I2 16 4 = serS (serX p (I 5) (I 6) nb ns dr (xOf I 10)) ∧ I2 16 8 = cameX p (I 5) (I 6) (xOf I 10) (serX p (I 5) (I 6) nb ns dr (xOf I 10)))) := by
  refine Run.of (ls := [some (.ref 16), some (.ref 10), some (.int _), none, none, none]) (by decide) (Nat.le_of_ble_eq_true rfl) rfl ?_
  obtain ⟨hc0, hb5, hc1, hs6, hc2, hh6, hrib⟩ := hc
  rw [show weekX p (I 5) (I 6) nb ns nh dr (xOf I 10) = endX p (I 5) (I 6) nh (xOf I 10) (serX p (I 5) (I 6) nb ns dr (xOf I 10)) from rfl]
  cases dr with
  | true =>
    have hser : serX p (I 5) (I 6) nb ns true (xOf I 10) = none := by simp [serX]
    refine Ex.aload_n (pc := 0) dX6_passWeek_0 rfl rfl ?_
    refine Ex.getI (pc := 1) dX6_passWeek_1 fX6_82 (sh10 _) ?_
    refine Ex.istore_n (pc := 4) (ls' := [some (.ref 16), some (.ref 10), some (.int _), some (.int _), none, none]) dX6_passWeek_4 rfl (by decide) rfl rfl ?_
    refine Ex.iload_n (pc := 5) dX6_passWeek_5 rfl rfl ?_
    refine Ex.if_eq (pc := 6) (tgt := 13) dX6_passWeek_6 (by decide) (fun c6 => absurd c6 (show ¬ bI true = 0 from by decide)) (fun _ => ?_)
    refine Ex.iconst (pc := 9) (v := (-1)) dX6_passWeek_9 rfl ?_
    refine Ex.goto (pc := 10) (tgt := 18) dX6_passWeek_10 (by decide) ?_
    refine Ex.istore (pc := 18) (ls' := [some (.ref 16), some (.ref 10), some (.int _), some (.int _), some (.int (-1)), none]) dX6_passWeek_18 (by decide) rfl rfl ?_
    refine Ex.iload (pc := 20) dX6_passWeek_20 rfl ?_
    refine Ex.iconst (pc := 22) (v := (-1)) dX6_passWeek_22 rfl ?_
    refine Ex.icmp_eq (pc := 23) (tgt := 68) dX6_passWeek_23 (by decide) (fun _ => ?_) (fun c23 => absurd rfl c23)
    refine Ex.aload_n (pc := 68) dX6_passWeek_68 rfl rfl ?_
    refine Ex.aload_n (pc := 69) dX6_passWeek_69 rfl rfl ?_
    refine Ex.callV (pc := 70) (As := [.ref 10]) (rest := []) dX6_passWeek_70 cX6_103 t_rest10 (sh16 _) rfl rfl (by decide) (Nat.le_refl _) (Nat.le_refl _) (Nat.le_of_ble_eq_true rfl) (Or.inl (fun r S' h => by obtain ⟨_, _, h, _⟩ := h; subst h; rfl)) (fun r S' hq _ _ => ?_)
    obtain ⟨I3, rfl, rfl, hSa, hb3, hs3, hcm3, hrow3⟩ := hq
    have hS3 : Sm [10, 11, 12, 16, 17, 18] I I3 := hSa.tr Sm.rf (l2 := []) (by decide) (by decide)
    have hp3 := hp.sm hS3 (by decide) (by decide) (by decide) (by decide)
    have hh3 : I3 3 2 = nI nh := by rw [hS3 3 (by decide)]; exact hc2
    obtain ⟨se, hse⟩ : ∃ se : Option (Nat × Nat), se = none := ⟨_, rfl⟩
    rw [show (serX p (I 5) (I 6) nb ns true (xOf I 10)) = se from by rw [hse, hser]]
    have hx3 : xOf I3 10 = midX p (I 5) (I 6) nh (xOf I 10) se := by rw [hse]; simp only [xOf, midX]; rw [hSa 10 (by decide), hSa 11 (by decide), hSa 12 (by decide)]
    have hm0 : (midX p (I 5) (I 6) nh (xOf I 10) se).1 = I 10 0 := by rw [hse]; rfl
    have hm1 : (midX p (I 5) (I 6) nh (xOf I 10) se).2.1 = I 10 1 := by rw [hse]; rfl
    have h33 : I3 10 3 = I 10 3 := by rw [hSa 10 (by decide)]
    have hrow3 : ∀ j, alw 3 j → j ≠ 7 → j ≠ 8 → I3 17 j = rowX p (I 5) (I 6) (xOf I 10) se j := by rw [hse]; exact hrow3
    have hb3 : I3 16 3 = serB se := by rw [hse]; exact hb3
    have hs3 : I3 16 4 = serS se := by rw [hse]; exact hs3
    have hcm3 : I3 16 8 = cameX p (I 5) (I 6) (xOf I 10) se := by rw [hse]; exact hcm3
    refine Ex.aload_n (pc := 73) dX6_passWeek_73 rfl rfl ?_
    refine Ex.dup (pc := 74) dX6_passWeek_74 rfl ?_
    refine Ex.getI (pc := 75) dX6_passWeek_75 fX6_82 (sh10 _) ?_
    refine Ex.aload_n (pc := 78) dX6_passWeek_78 rfl rfl ?_
    refine Ex.bipush (pc := 79) (v := 12) dX6_passWeek_79 rfl ?_
    refine Ex.iload_n (pc := 81) dX6_passWeek_81 rfl rfl ?_
    refine Ex.callV (pc := 82) (As := [.int 12, .int _]) (rest := [.int _, .ref 10]) dX6_passWeek_82 cX6_85 (t_whoHolds (p := p) (r := 3) (nh := nh) hp3 (by decide) hh3 hh6) (sh16 _) rfl rfl (by decide) (Nat.le_refl _) (Nat.le_refl _) (Nat.le_of_ble_eq_true rfl) (Or.inl (fun r S' h => by obtain ⟨_, _, h, _⟩ := h; subst h; rfl)) (fun r S' hq _ _ => ?_)
    obtain ⟨I4, rfl, rfl, hS4, hj4⟩ := hq
    have hwho : whoF p (I3 17) 3 (fun k => I3 5 (12 + k)) (fun k => I3 6 (12 + k)) (I 10 2) nh = whoX p (rowX p (I 5) (I 6) (xOf I 10) se) (I 5) (I 6) 3 (I 10 2) nh := by
      rw [hS3 5 (by decide), hS3 6 (by decide)]
      exact whoF_congr hp.2 (by decide) _ _ _ (fun j hj h7 h8 => hrow3 j hj h7 h8) nh
    rw [hwho]
    have e4 : I4 10 = I3 10 := hS4 10 (by decide)
    refine Ex.iconst (pc := 85) (v := (-1)) dX6_passWeek_85 rfl ?_
    refine Ex.ixor (pc := 86) dX6_passWeek_86 ?_
    refine Ex.iand (pc := 87) dX6_passWeek_87 ?_
    refine Ex.putI (pc := 88) dX6_passWeek_88 fX6_82 (sh10 _) (Or.inl rfl) ⟨rfl, rfl⟩ ?_
    refine Ex.aload_n (pc := 91) dX6_passWeek_91 rfl rfl ?_
    refine Ex.sipush (pc := 92) (v := 999) dX6_passWeek_92 rfl ?_
    refine Ex.aload_n (pc := 95) dX6_passWeek_95 rfl rfl ?_
    refine Ex.getI (pc := 96) dX6_passWeek_96 fX6_59 (sh10 _) ?_
    refine Ex.iconst (pc := 99) (v := 1) dX6_passWeek_99 rfl ?_
    refine Ex.iadd (pc := 100) dX6_passWeek_100 ?_
    refine Ex.min (pc := 101) dX6_passWeek_101 kl_X6_71 (by decide) (Nat.le_of_ble_eq_true rfl) (Nat.le_refl _) (Nat.le_refl _) ?_
    refine Ex.putI (pc := 104) dX6_passWeek_104 fX6_59 (sh10 _) (Or.inl rfl) ⟨rfl, rfl⟩ ?_
    refine Ex.vret (pc := 107) rfl dX6_passWeek_107 (Nat.le_refl _) (Nat.le_refl _) ?_
    have ex : xOf I3 10 = midX p (I 5) (I 6) nh (xOf I 10) se := hx3
    have x0 : I3 10 0 = I 10 0 := by have := congrArg (fun t => t.1) ex; rw [hm0] at this; exact this
    have x1 : I3 10 1 = I 10 1 := by have := congrArg (fun t => t.2.1) ex; rw [hm1] at this; exact this
    have x2 : I3 10 2 = (midX p (I 5) (I 6) nh (xOf I 10) se).2.2.1 := congrArg (fun t => t.2.2.1) ex
    have x3 : I3 11 = (midX p (I 5) (I 6) nh (xOf I 10) se).2.2.2.1 := congrArg (fun t => t.2.2.2.1) ex
    have x4 : I3 12 = (midX p (I 5) (I 6) nh (xOf I 10) se).2.2.2.2 := congrArg (fun t => t.2.2.2.2) ex
    refine ⟨_, rfl, rfl, ?_, ?_, ?_, ?_, ?_, ?_⟩
    · exact ((hS3.tr hS4 (by decide) (by decide)).up (by decide)).up (by decide)
    · simp only [xOf, endX, va_up_s, bx_uu, va_up_n (show (11 : Nat) ≠ 10 by decide), va_up_n (show (12 : Nat) ≠ 10 by decide), upd_s, upd_n (show (0 : Nat) ≠ 2 by decide), upd_n (show (1 : Nat) ≠ 2 by decide), upd_n (show (1 : Nat) ≠ 0 by decide), upd_n (show (2 : Nat) ≠ 0 by decide), e4, hS4 11 (by decide), hS4 12 (by decide)]
      rw [x0, x1, x2, x3, x4]
      rfl
    · simp only [va_up_s, upd_n (show (3 : Nat) ≠ 0 by decide), upd_n (show (3 : Nat) ≠ 2 by decide), e4]
      exact h33
    · rw [va_up_n (by decide), va_up_n (by decide), hS4 16 (by decide)]; exact hb3
    · rw [va_up_n (by decide), va_up_n (by decide), hS4 16 (by decide)]; exact hs3
    · rw [va_up_n (by decide), va_up_n (by decide), hS4 16 (by decide)]; exact hcm3
  | false =>
    cases hd : dpF (I 12) ns with
    | none =>
      have hser : serX p (I 5) (I 6) nb ns false (xOf I 10) = none := by simp only [serX, xOf]; rw [hd]; rfl
      refine Ex.aload_n (pc := 0) dX6_passWeek_0 rfl rfl ?_
      refine Ex.getI (pc := 1) dX6_passWeek_1 fX6_82 (sh10 _) ?_
      refine Ex.istore_n (pc := 4) (ls' := [some (.ref 16), some (.ref 10), some (.int _), some (.int _), none, none]) dX6_passWeek_4 rfl (by decide) rfl rfl ?_
      refine Ex.iload_n (pc := 5) dX6_passWeek_5 rfl rfl ?_
      refine Ex.if_eq (pc := 6) (tgt := 13) dX6_passWeek_6 (by decide) (fun _ => ?_) (fun c6 => absurd (show bI false = 0 from by decide) c6)
      refine Ex.aload_n (pc := 13) dX6_passWeek_13 rfl rfl ?_
      refine Ex.aload_n (pc := 14) dX6_passWeek_14 rfl rfl ?_
      refine Ex.callV (pc := 15) (As := [.ref 10]) (rest := []) dX6_passWeek_15 cX6_88 (t_deepestOf10 (ns := ns) hc1 hs6) (sh16 _) rfl rfl (by decide) (Nat.le_refl _) (Nat.le_refl _) (Nat.le_of_ble_eq_true rfl) (Or.inl (fun r S' h => by obtain ⟨_, h⟩ := h; subst h; rfl)) (fun r S' hq _ _ => ?_)
      obtain ⟨rfl, rfl⟩ := hq
      rw [hd]
      refine Ex.istore (pc := 18) (ls' := [some (.ref 16), some (.ref 10), some (.int _), some (.int _), some (.int _), none]) dX6_passWeek_18 (by decide) rfl rfl ?_
      refine Ex.iload (pc := 20) dX6_passWeek_20 rfl ?_
      refine Ex.iconst (pc := 22) (v := (-1)) dX6_passWeek_22 rfl ?_
      refine Ex.icmp_eq (pc := 23) (tgt := 68) dX6_passWeek_23 (by decide) (fun _ => ?_) (fun c23 => absurd rfl c23)
      refine Ex.aload_n (pc := 68) dX6_passWeek_68 rfl rfl ?_
      refine Ex.aload_n (pc := 69) dX6_passWeek_69 rfl rfl ?_
      refine Ex.callV (pc := 70) (As := [.ref 10]) (rest := []) dX6_passWeek_70 cX6_103 t_rest10 (sh16 _) rfl rfl (by decide) (Nat.le_refl _) (Nat.le_refl _) (Nat.le_of_ble_eq_true rfl) (Or.inl (fun r S' h => by obtain ⟨_, _, h, _⟩ := h; subst h; rfl)) (fun r S' hq _ _ => ?_)
      obtain ⟨I3, rfl, rfl, hSa, hb3, hs3, hcm3, hrow3⟩ := hq
      have hS3 : Sm [10, 11, 12, 16, 17, 18] I I3 := hSa.tr Sm.rf (l2 := []) (by decide) (by decide)
      have hp3 := hp.sm hS3 (by decide) (by decide) (by decide) (by decide)
      have hh3 : I3 3 2 = nI nh := by rw [hS3 3 (by decide)]; exact hc2
      obtain ⟨se, hse⟩ : ∃ se : Option (Nat × Nat), se = none := ⟨_, rfl⟩
      rw [show (serX p (I 5) (I 6) nb ns false (xOf I 10)) = se from by rw [hse, hser]]
      have hx3 : xOf I3 10 = midX p (I 5) (I 6) nh (xOf I 10) se := by rw [hse]; simp only [xOf, midX]; rw [hSa 10 (by decide), hSa 11 (by decide), hSa 12 (by decide)]
      have hm0 : (midX p (I 5) (I 6) nh (xOf I 10) se).1 = I 10 0 := by rw [hse]; rfl
      have hm1 : (midX p (I 5) (I 6) nh (xOf I 10) se).2.1 = I 10 1 := by rw [hse]; rfl
      have h33 : I3 10 3 = I 10 3 := by rw [hSa 10 (by decide)]
      have hrow3 : ∀ j, alw 3 j → j ≠ 7 → j ≠ 8 → I3 17 j = rowX p (I 5) (I 6) (xOf I 10) se j := by rw [hse]; exact hrow3
      have hb3 : I3 16 3 = serB se := by rw [hse]; exact hb3
      have hs3 : I3 16 4 = serS se := by rw [hse]; exact hs3
      have hcm3 : I3 16 8 = cameX p (I 5) (I 6) (xOf I 10) se := by rw [hse]; exact hcm3
      refine Ex.aload_n (pc := 73) dX6_passWeek_73 rfl rfl ?_
      refine Ex.dup (pc := 74) dX6_passWeek_74 rfl ?_
      refine Ex.getI (pc := 75) dX6_passWeek_75 fX6_82 (sh10 _) ?_
      refine Ex.aload_n (pc := 78) dX6_passWeek_78 rfl rfl ?_
      refine Ex.bipush (pc := 79) (v := 12) dX6_passWeek_79 rfl ?_
      refine Ex.iload_n (pc := 81) dX6_passWeek_81 rfl rfl ?_
      refine Ex.callV (pc := 82) (As := [.int 12, .int _]) (rest := [.int _, .ref 10]) dX6_passWeek_82 cX6_85 (t_whoHolds (p := p) (r := 3) (nh := nh) hp3 (by decide) hh3 hh6) (sh16 _) rfl rfl (by decide) (Nat.le_refl _) (Nat.le_refl _) (Nat.le_of_ble_eq_true rfl) (Or.inl (fun r S' h => by obtain ⟨_, _, h, _⟩ := h; subst h; rfl)) (fun r S' hq _ _ => ?_)
      obtain ⟨I4, rfl, rfl, hS4, hj4⟩ := hq
      have hwho : whoF p (I3 17) 3 (fun k => I3 5 (12 + k)) (fun k => I3 6 (12 + k)) (I 10 2) nh = whoX p (rowX p (I 5) (I 6) (xOf I 10) se) (I 5) (I 6) 3 (I 10 2) nh := by
        rw [hS3 5 (by decide), hS3 6 (by decide)]
        exact whoF_congr hp.2 (by decide) _ _ _ (fun j hj h7 h8 => hrow3 j hj h7 h8) nh
      rw [hwho]
      have e4 : I4 10 = I3 10 := hS4 10 (by decide)
      refine Ex.iconst (pc := 85) (v := (-1)) dX6_passWeek_85 rfl ?_
      refine Ex.ixor (pc := 86) dX6_passWeek_86 ?_
      refine Ex.iand (pc := 87) dX6_passWeek_87 ?_
      refine Ex.putI (pc := 88) dX6_passWeek_88 fX6_82 (sh10 _) (Or.inl rfl) ⟨rfl, rfl⟩ ?_
      refine Ex.aload_n (pc := 91) dX6_passWeek_91 rfl rfl ?_
      refine Ex.sipush (pc := 92) (v := 999) dX6_passWeek_92 rfl ?_
      refine Ex.aload_n (pc := 95) dX6_passWeek_95 rfl rfl ?_
      refine Ex.getI (pc := 96) dX6_passWeek_96 fX6_59 (sh10 _) ?_
      refine Ex.iconst (pc := 99) (v := 1) dX6_passWeek_99 rfl ?_
      refine Ex.iadd (pc := 100) dX6_passWeek_100 ?_
      refine Ex.min (pc := 101) dX6_passWeek_101 kl_X6_71 (by decide) (Nat.le_of_ble_eq_true rfl) (Nat.le_refl _) (Nat.le_refl _) ?_
      refine Ex.putI (pc := 104) dX6_passWeek_104 fX6_59 (sh10 _) (Or.inl rfl) ⟨rfl, rfl⟩ ?_
      refine Ex.vret (pc := 107) rfl dX6_passWeek_107 (Nat.le_refl _) (Nat.le_refl _) ?_
      have ex : xOf I3 10 = midX p (I 5) (I 6) nh (xOf I 10) se := hx3
      have x0 : I3 10 0 = I 10 0 := by have := congrArg (fun t => t.1) ex; rw [hm0] at this; exact this
      have x1 : I3 10 1 = I 10 1 := by have := congrArg (fun t => t.2.1) ex; rw [hm1] at this; exact this
      have x2 : I3 10 2 = (midX p (I 5) (I 6) nh (xOf I 10) se).2.2.1 := congrArg (fun t => t.2.2.1) ex
      have x3 : I3 11 = (midX p (I 5) (I 6) nh (xOf I 10) se).2.2.2.1 := congrArg (fun t => t.2.2.2.1) ex
      have x4 : I3 12 = (midX p (I 5) (I 6) nh (xOf I 10) se).2.2.2.2 := congrArg (fun t => t.2.2.2.2) ex
      refine ⟨_, rfl, rfl, ?_, ?_, ?_, ?_, ?_, ?_⟩
      · exact ((hS3.tr hS4 (by decide) (by decide)).up (by decide)).up (by decide)
      · simp only [xOf, endX, va_up_s, bx_uu, va_up_n (show (11 : Nat) ≠ 10 by decide), va_up_n (show (12 : Nat) ≠ 10 by decide), upd_s, upd_n (show (0 : Nat) ≠ 2 by decide), upd_n (show (1 : Nat) ≠ 2 by decide), upd_n (show (1 : Nat) ≠ 0 by decide), upd_n (show (2 : Nat) ≠ 0 by decide), e4, hS4 11 (by decide), hS4 12 (by decide)]
        rw [x0, x1, x2, x3, x4]
        rfl
      · simp only [va_up_s, upd_n (show (3 : Nat) ≠ 0 by decide), upd_n (show (3 : Nat) ≠ 2 by decide), e4]
        exact h33
      · rw [va_up_n (by decide), va_up_n (by decide), hS4 16 (by decide)]; exact hb3
      · rw [va_up_n (by decide), va_up_n (by decide), hS4 16 (by decide)]; exact hs3
      · rw [va_up_n (by decide), va_up_n (by decide), hS4 16 (by decide)]; exact hcm3
    | some s =>
      have hsn := dpF_lt _ _ _ hd
      have hs1 : ¬ nI s = -1 := fun q => absurd (congrArg Int32.toInt q) (by rw [nI_toInt (by omega)]; show ¬ (s : Int) = -1; omega)
      by_cases hnb : nb = 0
      · have hser : serX p (I 5) (I 6) nb ns false (xOf I 10) = none := by simp only [serX, xOf]; rw [hd]; simp [hnb]
        refine Ex.aload_n (pc := 0) dX6_passWeek_0 rfl rfl ?_
        refine Ex.getI (pc := 1) dX6_passWeek_1 fX6_82 (sh10 _) ?_
        refine Ex.istore_n (pc := 4) (ls' := [some (.ref 16), some (.ref 10), some (.int _), some (.int _), none, none]) dX6_passWeek_4 rfl (by decide) rfl rfl ?_
        refine Ex.iload_n (pc := 5) dX6_passWeek_5 rfl rfl ?_
        refine Ex.if_eq (pc := 6) (tgt := 13) dX6_passWeek_6 (by decide) (fun _ => ?_) (fun c6 => absurd (show bI false = 0 from by decide) c6)
        refine Ex.aload_n (pc := 13) dX6_passWeek_13 rfl rfl ?_
        refine Ex.aload_n (pc := 14) dX6_passWeek_14 rfl rfl ?_
        refine Ex.callV (pc := 15) (As := [.ref 10]) (rest := []) dX6_passWeek_15 cX6_88 (t_deepestOf10 (ns := ns) hc1 hs6) (sh16 _) rfl rfl (by decide) (Nat.le_refl _) (Nat.le_refl _) (Nat.le_of_ble_eq_true rfl) (Or.inl (fun r S' h => by obtain ⟨_, h⟩ := h; subst h; rfl)) (fun r S' hq _ _ => ?_)
        obtain ⟨rfl, rfl⟩ := hq
        rw [hd]
        refine Ex.istore (pc := 18) (ls' := [some (.ref 16), some (.ref 10), some (.int _), some (.int _), some (.int _), none]) dX6_passWeek_18 (by decide) rfl rfl ?_
        refine Ex.iload (pc := 20) dX6_passWeek_20 rfl ?_
        refine Ex.iconst (pc := 22) (v := (-1)) dX6_passWeek_22 rfl ?_
        refine Ex.icmp_eq (pc := 23) (tgt := 68) dX6_passWeek_23 (by decide) (fun c23 => absurd c23 hs1) (fun _ => ?_)
        refine Ex.aload_n (pc := 26) dX6_passWeek_26 rfl rfl ?_
        refine Ex.getR (pc := 27) dX6_passWeek_27 fX6_37 (sh16 _) r16_0 ?_
        refine Ex.getR (pc := 30) dX6_passWeek_30 fX6_92 (sh2 _) r2_0 ?_
        refine Ex.iconst (pc := 33) (v := 0) dX6_passWeek_33 rfl ?_
        refine Ex.iald (pc := 34) (j := 0) dX6_passWeek_34 (sh3 _) (by unfold vp_in; decide) (by decide) ?_
        refine Ex.if_le (pc := 35) (tgt := 68) dX6_passWeek_35 (by decide) (fun _ => ?_) (fun c35 => absurd (by rw [hc0, hnb]; decide) c35)
        refine Ex.aload_n (pc := 68) dX6_passWeek_68 rfl rfl ?_
        refine Ex.aload_n (pc := 69) dX6_passWeek_69 rfl rfl ?_
        refine Ex.callV (pc := 70) (As := [.ref 10]) (rest := []) dX6_passWeek_70 cX6_103 t_rest10 (sh16 _) rfl rfl (by decide) (Nat.le_refl _) (Nat.le_refl _) (Nat.le_of_ble_eq_true rfl) (Or.inl (fun r S' h => by obtain ⟨_, _, h, _⟩ := h; subst h; rfl)) (fun r S' hq _ _ => ?_)
        obtain ⟨I3, rfl, rfl, hSa, hb3, hs3, hcm3, hrow3⟩ := hq
        have hS3 : Sm [10, 11, 12, 16, 17, 18] I I3 := hSa.tr Sm.rf (l2 := []) (by decide) (by decide)
        have hp3 := hp.sm hS3 (by decide) (by decide) (by decide) (by decide)
        have hh3 : I3 3 2 = nI nh := by rw [hS3 3 (by decide)]; exact hc2
        obtain ⟨se, hse⟩ : ∃ se : Option (Nat × Nat), se = none := ⟨_, rfl⟩
        rw [show (serX p (I 5) (I 6) nb ns false (xOf I 10)) = se from by rw [hse, hser]]
        have hx3 : xOf I3 10 = midX p (I 5) (I 6) nh (xOf I 10) se := by rw [hse]; simp only [xOf, midX]; rw [hSa 10 (by decide), hSa 11 (by decide), hSa 12 (by decide)]
        have hm0 : (midX p (I 5) (I 6) nh (xOf I 10) se).1 = I 10 0 := by rw [hse]; rfl
        have hm1 : (midX p (I 5) (I 6) nh (xOf I 10) se).2.1 = I 10 1 := by rw [hse]; rfl
        have h33 : I3 10 3 = I 10 3 := by rw [hSa 10 (by decide)]
        have hrow3 : ∀ j, alw 3 j → j ≠ 7 → j ≠ 8 → I3 17 j = rowX p (I 5) (I 6) (xOf I 10) se j := by rw [hse]; exact hrow3
        have hb3 : I3 16 3 = serB se := by rw [hse]; exact hb3
        have hs3 : I3 16 4 = serS se := by rw [hse]; exact hs3
        have hcm3 : I3 16 8 = cameX p (I 5) (I 6) (xOf I 10) se := by rw [hse]; exact hcm3
        refine Ex.aload_n (pc := 73) dX6_passWeek_73 rfl rfl ?_
        refine Ex.dup (pc := 74) dX6_passWeek_74 rfl ?_
        refine Ex.getI (pc := 75) dX6_passWeek_75 fX6_82 (sh10 _) ?_
        refine Ex.aload_n (pc := 78) dX6_passWeek_78 rfl rfl ?_
        refine Ex.bipush (pc := 79) (v := 12) dX6_passWeek_79 rfl ?_
        refine Ex.iload_n (pc := 81) dX6_passWeek_81 rfl rfl ?_
        refine Ex.callV (pc := 82) (As := [.int 12, .int _]) (rest := [.int _, .ref 10]) dX6_passWeek_82 cX6_85 (t_whoHolds (p := p) (r := 3) (nh := nh) hp3 (by decide) hh3 hh6) (sh16 _) rfl rfl (by decide) (Nat.le_refl _) (Nat.le_refl _) (Nat.le_of_ble_eq_true rfl) (Or.inl (fun r S' h => by obtain ⟨_, _, h, _⟩ := h; subst h; rfl)) (fun r S' hq _ _ => ?_)
        obtain ⟨I4, rfl, rfl, hS4, hj4⟩ := hq
        have hwho : whoF p (I3 17) 3 (fun k => I3 5 (12 + k)) (fun k => I3 6 (12 + k)) (I 10 2) nh = whoX p (rowX p (I 5) (I 6) (xOf I 10) se) (I 5) (I 6) 3 (I 10 2) nh := by
          rw [hS3 5 (by decide), hS3 6 (by decide)]
          exact whoF_congr hp.2 (by decide) _ _ _ (fun j hj h7 h8 => hrow3 j hj h7 h8) nh
        rw [hwho]
        have e4 : I4 10 = I3 10 := hS4 10 (by decide)
        refine Ex.iconst (pc := 85) (v := (-1)) dX6_passWeek_85 rfl ?_
        refine Ex.ixor (pc := 86) dX6_passWeek_86 ?_
        refine Ex.iand (pc := 87) dX6_passWeek_87 ?_
        refine Ex.putI (pc := 88) dX6_passWeek_88 fX6_82 (sh10 _) (Or.inl rfl) ⟨rfl, rfl⟩ ?_
        refine Ex.aload_n (pc := 91) dX6_passWeek_91 rfl rfl ?_
        refine Ex.sipush (pc := 92) (v := 999) dX6_passWeek_92 rfl ?_
        refine Ex.aload_n (pc := 95) dX6_passWeek_95 rfl rfl ?_
        refine Ex.getI (pc := 96) dX6_passWeek_96 fX6_59 (sh10 _) ?_
        refine Ex.iconst (pc := 99) (v := 1) dX6_passWeek_99 rfl ?_
        refine Ex.iadd (pc := 100) dX6_passWeek_100 ?_
        refine Ex.min (pc := 101) dX6_passWeek_101 kl_X6_71 (by decide) (Nat.le_of_ble_eq_true rfl) (Nat.le_refl _) (Nat.le_refl _) ?_
        refine Ex.putI (pc := 104) dX6_passWeek_104 fX6_59 (sh10 _) (Or.inl rfl) ⟨rfl, rfl⟩ ?_
        refine Ex.vret (pc := 107) rfl dX6_passWeek_107 (Nat.le_refl _) (Nat.le_refl _) ?_
        have ex : xOf I3 10 = midX p (I 5) (I 6) nh (xOf I 10) se := hx3
        have x0 : I3 10 0 = I 10 0 := by have := congrArg (fun t => t.1) ex; rw [hm0] at this; exact this
        have x1 : I3 10 1 = I 10 1 := by have := congrArg (fun t => t.2.1) ex; rw [hm1] at this; exact this
        have x2 : I3 10 2 = (midX p (I 5) (I 6) nh (xOf I 10) se).2.2.1 := congrArg (fun t => t.2.2.1) ex
        have x3 : I3 11 = (midX p (I 5) (I 6) nh (xOf I 10) se).2.2.2.1 := congrArg (fun t => t.2.2.2.1) ex
        have x4 : I3 12 = (midX p (I 5) (I 6) nh (xOf I 10) se).2.2.2.2 := congrArg (fun t => t.2.2.2.2) ex
        refine ⟨_, rfl, rfl, ?_, ?_, ?_, ?_, ?_, ?_⟩
        · exact ((hS3.tr hS4 (by decide) (by decide)).up (by decide)).up (by decide)
        · simp only [xOf, endX, va_up_s, bx_uu, va_up_n (show (11 : Nat) ≠ 10 by decide), va_up_n (show (12 : Nat) ≠ 10 by decide), upd_s, upd_n (show (0 : Nat) ≠ 2 by decide), upd_n (show (1 : Nat) ≠ 2 by decide), upd_n (show (1 : Nat) ≠ 0 by decide), upd_n (show (2 : Nat) ≠ 0 by decide), e4, hS4 11 (by decide), hS4 12 (by decide)]
          rw [x0, x1, x2, x3, x4]
          rfl
        · simp only [va_up_s, upd_n (show (3 : Nat) ≠ 0 by decide), upd_n (show (3 : Nat) ≠ 2 by decide), e4]
          exact h33
        · rw [va_up_n (by decide), va_up_n (by decide), hS4 16 (by decide)]; exact hb3
        · rw [va_up_n (by decide), va_up_n (by decide), hS4 16 (by decide)]; exact hs3
        · rw [va_up_n (by decide), va_up_n (by decide), hS4 16 (by decide)]; exact hcm3
      · have hser : serX p (I 5) (I 6) nb ns false (xOf I 10) = some (pickX p (I 5) (I 6) (xOf I 10) s nb, s) := by simp only [serX, xOf]; rw [hd]; simp [hnb]
        refine Ex.aload_n (pc := 0) dX6_passWeek_0 rfl rfl ?_
        refine Ex.getI (pc := 1) dX6_passWeek_1 fX6_82 (sh10 _) ?_
        refine Ex.istore_n (pc := 4) (ls' := [some (.ref 16), some (.ref 10), some (.int _), some (.int _), none, none]) dX6_passWeek_4 rfl (by decide) rfl rfl ?_
        refine Ex.iload_n (pc := 5) dX6_passWeek_5 rfl rfl ?_
        refine Ex.if_eq (pc := 6) (tgt := 13) dX6_passWeek_6 (by decide) (fun _ => ?_) (fun c6 => absurd (show bI false = 0 from by decide) c6)
        refine Ex.aload_n (pc := 13) dX6_passWeek_13 rfl rfl ?_
        refine Ex.aload_n (pc := 14) dX6_passWeek_14 rfl rfl ?_
        refine Ex.callV (pc := 15) (As := [.ref 10]) (rest := []) dX6_passWeek_15 cX6_88 (t_deepestOf10 (ns := ns) hc1 hs6) (sh16 _) rfl rfl (by decide) (Nat.le_refl _) (Nat.le_refl _) (Nat.le_of_ble_eq_true rfl) (Or.inl (fun r S' h => by obtain ⟨_, h⟩ := h; subst h; rfl)) (fun r S' hq _ _ => ?_)
        obtain ⟨rfl, rfl⟩ := hq
        rw [hd]
        refine Ex.istore (pc := 18) (ls' := [some (.ref 16), some (.ref 10), some (.int _), some (.int _), some (.int _), none]) dX6_passWeek_18 (by decide) rfl rfl ?_
        refine Ex.iload (pc := 20) dX6_passWeek_20 rfl ?_
        refine Ex.iconst (pc := 22) (v := (-1)) dX6_passWeek_22 rfl ?_
        refine Ex.icmp_eq (pc := 23) (tgt := 68) dX6_passWeek_23 (by decide) (fun c23 => absurd c23 hs1) (fun _ => ?_)
        refine Ex.aload_n (pc := 26) dX6_passWeek_26 rfl rfl ?_
        refine Ex.getR (pc := 27) dX6_passWeek_27 fX6_37 (sh16 _) r16_0 ?_
        refine Ex.getR (pc := 30) dX6_passWeek_30 fX6_92 (sh2 _) r2_0 ?_
        refine Ex.iconst (pc := 33) (v := 0) dX6_passWeek_33 rfl ?_
        refine Ex.iald (pc := 34) (j := 0) dX6_passWeek_34 (sh3 _) (by unfold vp_in; decide) (by decide) ?_
        refine Ex.if_le (pc := 35) (tgt := 68) dX6_passWeek_35 (by decide) (fun c35 => absurd c35 (by rw [hc0]; exact nI_nle (by omega) (by omega))) (fun _ => ?_)
        refine Ex.aload_n (pc := 38) dX6_passWeek_38 rfl rfl ?_
        refine Ex.aload_n (pc := 39) dX6_passWeek_39 rfl rfl ?_
        refine Ex.iload (pc := 40) dX6_passWeek_40 rfl ?_
        refine Ex.callV (pc := 42) (As := [.ref 10, .int _]) (rest := []) dX6_passWeek_42 cX6_95 (t_pickFor10 (p := p) (s := s) (nb := nb) hp (by omega) hc0 hb5) (sh16 _) rfl rfl (by decide) (Nat.le_refl _) (Nat.le_refl _) (Nat.le_of_ble_eq_true rfl) (Or.inl (fun r S' h => by obtain ⟨_, _, h, _⟩ := h; subst h; rfl)) (fun r S' hq _ _ => ?_)
        obtain ⟨I1, rfl, rfl, hS1⟩ := hq
        have hbk : pickX p (I 5) (I 6) (xOf I 10) s nb < nb := pkF_lt _ _ (by omega)
        generalize hbe : pickX p (I 5) (I 6) (xOf I 10) s nb = b at *
        obtain ⟨rb, hrb, hrbe⟩ := hrib b hbk
        have hp1 := hp.sm hS1 (by decide) (by decide) (by decide) (by decide)
        have hh1 : I1 3 2 = nI nh := by rw [hS1 3 (by decide)]; exact hc2
        refine Ex.istore (pc := 45) (ls' := [some (.ref 16), some (.ref 10), some (.int _), some (.int _), some (.int _), some (.int _)]) dX6_passWeek_45 (by decide) rfl rfl ?_
        refine Ex.aload_n (pc := 47) dX6_passWeek_47 rfl rfl ?_
        refine Ex.aload_n (pc := 48) dX6_passWeek_48 rfl rfl ?_
        refine Ex.iload (pc := 49) dX6_passWeek_49 rfl ?_
        refine Ex.iload (pc := 51) dX6_passWeek_51 rfl ?_
        refine Ex.aload_n (pc := 53) dX6_passWeek_53 rfl rfl ?_
        refine Ex.getR (pc := 54) dX6_passWeek_54 fX6_37 (sh16 _) r16_0 ?_
        refine Ex.iload (pc := 57) dX6_passWeek_57 rfl ?_
        refine Ex.callV (pc := 59) (As := [.int _]) (rest := [.int _, .int _, .ref 10, .ref 16]) dX6_passWeek_59 cX6_47 (t_ribs (j := b) (by omega)) (sh2 _) rfl rfl (by decide) (Nat.le_refl _) (Nat.le_refl _) (Nat.le_of_ble_eq_true rfl) (Or.inl (fun r S' h => by obtain ⟨_, h⟩ := h; subst h; rfl)) (fun r S' hq _ _ => ?_)
        obtain ⟨rfl, rfl⟩ := hq
        rw [show I1 5 (0 + b) = nI rb from by rw [Nat.zero_add, hS1 5 (by decide), hrbe]]
        refine Ex.callV (pc := 62) (As := [.ref 10, .int _, .int _, .int _]) (rest := []) dX6_passWeek_62 cX6_99 (t_preach10 (p := p) (b := b) (s := s) (n := rb) (nh := nh) hp1 (by omega) (by omega) hrb hh1 hh6) (sh16 _) rfl rfl (by decide) (Nat.le_refl _) (Nat.le_refl _) (Nat.le_of_ble_eq_true rfl) (Or.inl (fun r S' h => by obtain ⟨_, _, h, _⟩ := h; subst h; rfl)) (fun r S' hq _ _ => ?_)
        obtain ⟨I3, rfl, rfl, hSa, hxa, h3a, hta, hb3, hs3, hrow3⟩ := hq
        rw [hS1 5 (by decide), hS1 6 (by decide), show xOf I1 10 = (xOf I 10) from by simp only [xOf]; rw [hS1 10 (by decide), hS1 11 (by decide), hS1 12 (by decide)]] at hxa hta hrow3
        have hsn2 : serN (I 5) b = rb := by unfold serN; rw [hrbe]; exact nI_clamp (by omega)
        have hS3 : Sm [10, 11, 12, 16, 17, 18] I I3 := hS1.tr hSa (by decide) (by decide)
        have hp3 := hp.sm hS3 (by decide) (by decide) (by decide) (by decide)
        have hh3 : I3 3 2 = nI nh := by rw [hS3 3 (by decide)]; exact hc2
        obtain ⟨se, hse⟩ : ∃ se : Option (Nat × Nat), se = some (b, s) := ⟨_, rfl⟩
        rw [show (serX p (I 5) (I 6) nb ns false (xOf I 10)) = se from by rw [hse, hser]]
        have hx3 : xOf I3 10 = midX p (I 5) (I 6) nh (xOf I 10) se := by rw [hse]; simp only [midX]; rw [hsn2]; exact hxa
        have hm0 : (midX p (I 5) (I 6) nh (xOf I 10) se).1 = I 10 0 := by rw [hse]; rfl
        have hm1 : (midX p (I 5) (I 6) nh (xOf I 10) se).2.1 = I 10 1 := by rw [hse]; rfl
        have h33 : I3 10 3 = I 10 3 := by rw [h3a, hS1 10 (by decide)]
        have hrow3 : ∀ j, alw 3 j → j ≠ 7 → j ≠ 8 → I3 17 j = rowX p (I 5) (I 6) (xOf I 10) se j := by rw [hse]; simp only [rowX]; rw [hsn2]; exact hrow3
        have hb3 : I3 16 3 = serB se := by rw [hse]; exact hb3
        have hs3 : I3 16 4 = serS se := by rw [hse]; exact hs3
        have hcm3 : I3 16 8 = cameX p (I 5) (I 6) (xOf I 10) se := by rw [hse]; simp only [cameX]; rw [hsn2, ← hta]; rfl
        refine Ex.goto (pc := 65) (tgt := 73) dX6_passWeek_65 (by decide) ?_
        refine Ex.aload_n (pc := 73) dX6_passWeek_73 rfl rfl ?_
        refine Ex.dup (pc := 74) dX6_passWeek_74 rfl ?_
        refine Ex.getI (pc := 75) dX6_passWeek_75 fX6_82 (sh10 _) ?_
        refine Ex.aload_n (pc := 78) dX6_passWeek_78 rfl rfl ?_
        refine Ex.bipush (pc := 79) (v := 12) dX6_passWeek_79 rfl ?_
        refine Ex.iload_n (pc := 81) dX6_passWeek_81 rfl rfl ?_
        refine Ex.callV (pc := 82) (As := [.int 12, .int _]) (rest := [.int _, .ref 10]) dX6_passWeek_82 cX6_85 (t_whoHolds (p := p) (r := 3) (nh := nh) hp3 (by decide) hh3 hh6) (sh16 _) rfl rfl (by decide) (Nat.le_refl _) (Nat.le_refl _) (Nat.le_of_ble_eq_true rfl) (Or.inl (fun r S' h => by obtain ⟨_, _, h, _⟩ := h; subst h; rfl)) (fun r S' hq _ _ => ?_)
        obtain ⟨I4, rfl, rfl, hS4, hj4⟩ := hq
        have hwho : whoF p (I3 17) 3 (fun k => I3 5 (12 + k)) (fun k => I3 6 (12 + k)) (I 10 2) nh = whoX p (rowX p (I 5) (I 6) (xOf I 10) se) (I 5) (I 6) 3 (I 10 2) nh := by
          rw [hS3 5 (by decide), hS3 6 (by decide)]
          exact whoF_congr hp.2 (by decide) _ _ _ (fun j hj h7 h8 => hrow3 j hj h7 h8) nh
        rw [hwho]
        have e4 : I4 10 = I3 10 := hS4 10 (by decide)
        refine Ex.iconst (pc := 85) (v := (-1)) dX6_passWeek_85 rfl ?_
        refine Ex.ixor (pc := 86) dX6_passWeek_86 ?_
        refine Ex.iand (pc := 87) dX6_passWeek_87 ?_
        refine Ex.putI (pc := 88) dX6_passWeek_88 fX6_82 (sh10 _) (Or.inl rfl) ⟨rfl, rfl⟩ ?_
        refine Ex.aload_n (pc := 91) dX6_passWeek_91 rfl rfl ?_
        refine Ex.sipush (pc := 92) (v := 999) dX6_passWeek_92 rfl ?_
        refine Ex.aload_n (pc := 95) dX6_passWeek_95 rfl rfl ?_
        refine Ex.getI (pc := 96) dX6_passWeek_96 fX6_59 (sh10 _) ?_
        refine Ex.iconst (pc := 99) (v := 1) dX6_passWeek_99 rfl ?_
        refine Ex.iadd (pc := 100) dX6_passWeek_100 ?_
        refine Ex.min (pc := 101) dX6_passWeek_101 kl_X6_71 (by decide) (Nat.le_of_ble_eq_true rfl) (Nat.le_refl _) (Nat.le_refl _) ?_
        refine Ex.putI (pc := 104) dX6_passWeek_104 fX6_59 (sh10 _) (Or.inl rfl) ⟨rfl, rfl⟩ ?_
        refine Ex.vret (pc := 107) rfl dX6_passWeek_107 (Nat.le_refl _) (Nat.le_refl _) ?_
        have ex : xOf I3 10 = midX p (I 5) (I 6) nh (xOf I 10) se := hx3
        have x0 : I3 10 0 = I 10 0 := by have := congrArg (fun t => t.1) ex; rw [hm0] at this; exact this
        have x1 : I3 10 1 = I 10 1 := by have := congrArg (fun t => t.2.1) ex; rw [hm1] at this; exact this
        have x2 : I3 10 2 = (midX p (I 5) (I 6) nh (xOf I 10) se).2.2.1 := congrArg (fun t => t.2.2.1) ex
        have x3 : I3 11 = (midX p (I 5) (I 6) nh (xOf I 10) se).2.2.2.1 := congrArg (fun t => t.2.2.2.1) ex
        have x4 : I3 12 = (midX p (I 5) (I 6) nh (xOf I 10) se).2.2.2.2 := congrArg (fun t => t.2.2.2.2) ex
        refine ⟨_, rfl, rfl, ?_, ?_, ?_, ?_, ?_, ?_⟩
        · exact ((hS3.tr hS4 (by decide) (by decide)).up (by decide)).up (by decide)
        · simp only [xOf, endX, va_up_s, bx_uu, va_up_n (show (11 : Nat) ≠ 10 by decide), va_up_n (show (12 : Nat) ≠ 10 by decide), upd_s, upd_n (show (0 : Nat) ≠ 2 by decide), upd_n (show (1 : Nat) ≠ 2 by decide), upd_n (show (1 : Nat) ≠ 0 by decide), upd_n (show (2 : Nat) ≠ 0 by decide), e4, hS4 11 (by decide), hS4 12 (by decide)]
          rw [x0, x1, x2, x3, x4]
          rfl
        · simp only [va_up_s, upd_n (show (3 : Nat) ≠ 0 by decide), upd_n (show (3 : Nat) ≠ 2 by decide), e4]
          exact h33
        · rw [va_up_n (by decide), va_up_n (by decide), hS4 16 (by decide)]; exact hb3
        · rw [va_up_n (by decide), va_up_n (by decide), hS4 16 (by decide)]; exact hs3
        · rw [va_up_n (by decide), va_up_n (by decide), hS4 16 (by decide)]; exact hcm3
set_option maxRecDepth 20000 in
theorem t_passWeek13 {N : Nat} {I : aI} {L : aL} {p : aP} {nb ns nh : Nat} {dr : Bool} (hp : PlanG N I p) (hc : CntOk I nb ns nh) : Run 5 0 0 mX6_passWeek [.ref 16, .ref 13, .int (bI dr)] (St N I L) (RP none N L (fun I2 => Sm [13, 14, 15, 16, 17, 18] I I2 ∧ xOf I2 13 = weekX p (I 5) (I 6) nb ns nh dr (xOf I 13) ∧ I2 13 3 = I 13 3 ∧ I2 16 3 = serB (serX p (I 5) (I 6) nb ns dr (xOf I 13)) ∧ I2 16 4 = serS (serX p (I 5) (I 6) nb ns dr (xOf I 13)) ∧ I2 16 8 = cameX p (I 5) (I 6) (xOf I 13) (serX p (I 5) (I 6) nb ns dr (xOf I 13)))) := by
  refine Run.of (ls := [some (.ref 16), some (.ref 13), some (.int _), none, none, none]) (by decide) (Nat.le_of_ble_eq_true rfl) rfl ?_
  obtain ⟨hc0, hb5, hc1, hs6, hc2, hh6, hrib⟩ := hc
  rw [show weekX p (I 5) (I 6) nb ns nh dr (xOf I 13) = endX p (I 5) (I 6) nh (xOf I 13) (serX p (I 5) (I 6) nb ns dr (xOf I 13)) from rfl]
  cases dr with
  | true =>
    have hser : serX p (I 5) (I 6) nb ns true (xOf I 13) = none := by simp [serX]
    refine Ex.aload_n (pc := 0) dX6_passWeek_0 rfl rfl ?_
    refine Ex.getI (pc := 1) dX6_passWeek_1 fX6_82 (sh13 _) ?_
    refine Ex.istore_n (pc := 4) (ls' := [some (.ref 16), some (.ref 13), some (.int _), some (.int _), none, none]) dX6_passWeek_4 rfl (by decide) rfl rfl ?_
    refine Ex.iload_n (pc := 5) dX6_passWeek_5 rfl rfl ?_
    refine Ex.if_eq (pc := 6) (tgt := 13) dX6_passWeek_6 (by decide) (fun c6 => absurd c6 (show ¬ bI true = 0 from by decide)) (fun _ => ?_)
    refine Ex.iconst (pc := 9) (v := (-1)) dX6_passWeek_9 rfl ?_
    refine Ex.goto (pc := 10) (tgt := 18) dX6_passWeek_10 (by decide) ?_
    refine Ex.istore (pc := 18) (ls' := [some (.ref 16), some (.ref 13), some (.int _), some (.int _), some (.int (-1)), none]) dX6_passWeek_18 (by decide) rfl rfl ?_
    refine Ex.iload (pc := 20) dX6_passWeek_20 rfl ?_
    refine Ex.iconst (pc := 22) (v := (-1)) dX6_passWeek_22 rfl ?_
    refine Ex.icmp_eq (pc := 23) (tgt := 68) dX6_passWeek_23 (by decide) (fun _ => ?_) (fun c23 => absurd rfl c23)
    refine Ex.aload_n (pc := 68) dX6_passWeek_68 rfl rfl ?_
    refine Ex.aload_n (pc := 69) dX6_passWeek_69 rfl rfl ?_
    refine Ex.callV (pc := 70) (As := [.ref 13]) (rest := []) dX6_passWeek_70 cX6_103 t_rest13 (sh16 _) rfl rfl (by decide) (Nat.le_refl _) (Nat.le_refl _) (Nat.le_of_ble_eq_true rfl) (Or.inl (fun r S' h => by obtain ⟨_, _, h, _⟩ := h; subst h; rfl)) (fun r S' hq _ _ => ?_)
    obtain ⟨I3, rfl, rfl, hSa, hb3, hs3, hcm3, hrow3⟩ := hq
    have hS3 : Sm [13, 14, 15, 16, 17, 18] I I3 := hSa.tr Sm.rf (l2 := []) (by decide) (by decide)
    have hp3 := hp.sm hS3 (by decide) (by decide) (by decide) (by decide)
    have hh3 : I3 3 2 = nI nh := by rw [hS3 3 (by decide)]; exact hc2
    obtain ⟨se, hse⟩ : ∃ se : Option (Nat × Nat), se = none := ⟨_, rfl⟩
    rw [show (serX p (I 5) (I 6) nb ns true (xOf I 13)) = se from by rw [hse, hser]]
    have hx3 : xOf I3 13 = midX p (I 5) (I 6) nh (xOf I 13) se := by rw [hse]; simp only [xOf, midX]; rw [hSa 13 (by decide), hSa 14 (by decide), hSa 15 (by decide)]
    have hm0 : (midX p (I 5) (I 6) nh (xOf I 13) se).1 = I 13 0 := by rw [hse]; rfl
    have hm1 : (midX p (I 5) (I 6) nh (xOf I 13) se).2.1 = I 13 1 := by rw [hse]; rfl
    have h33 : I3 13 3 = I 13 3 := by rw [hSa 13 (by decide)]
    have hrow3 : ∀ j, alw 3 j → j ≠ 7 → j ≠ 8 → I3 17 j = rowX p (I 5) (I 6) (xOf I 13) se j := by rw [hse]; exact hrow3
    have hb3 : I3 16 3 = serB se := by rw [hse]; exact hb3
    have hs3 : I3 16 4 = serS se := by rw [hse]; exact hs3
    have hcm3 : I3 16 8 = cameX p (I 5) (I 6) (xOf I 13) se := by rw [hse]; exact hcm3
    refine Ex.aload_n (pc := 73) dX6_passWeek_73 rfl rfl ?_
    refine Ex.dup (pc := 74) dX6_passWeek_74 rfl ?_
    refine Ex.getI (pc := 75) dX6_passWeek_75 fX6_82 (sh13 _) ?_
    refine Ex.aload_n (pc := 78) dX6_passWeek_78 rfl rfl ?_
    refine Ex.bipush (pc := 79) (v := 12) dX6_passWeek_79 rfl ?_
    refine Ex.iload_n (pc := 81) dX6_passWeek_81 rfl rfl ?_
    refine Ex.callV (pc := 82) (As := [.int 12, .int _]) (rest := [.int _, .ref 13]) dX6_passWeek_82 cX6_85 (t_whoHolds (p := p) (r := 3) (nh := nh) hp3 (by decide) hh3 hh6) (sh16 _) rfl rfl (by decide) (Nat.le_refl _) (Nat.le_refl _) (Nat.le_of_ble_eq_true rfl) (Or.inl (fun r S' h => by obtain ⟨_, _, h, _⟩ := h; subst h; rfl)) (fun r S' hq _ _ => ?_)
    obtain ⟨I4, rfl, rfl, hS4, hj4⟩ := hq
    have hwho : whoF p (I3 17) 3 (fun k => I3 5 (12 + k)) (fun k => I3 6 (12 + k)) (I 13 2) nh = whoX p (rowX p (I 5) (I 6) (xOf I 13) se) (I 5) (I 6) 3 (I 13 2) nh := by
      rw [hS3 5 (by decide), hS3 6 (by decide)]
      exact whoF_congr hp.2 (by decide) _ _ _ (fun j hj h7 h8 => hrow3 j hj h7 h8) nh
    rw [hwho]
    have e4 : I4 13 = I3 13 := hS4 13 (by decide)
    refine Ex.iconst (pc := 85) (v := (-1)) dX6_passWeek_85 rfl ?_
    refine Ex.ixor (pc := 86) dX6_passWeek_86 ?_
    refine Ex.iand (pc := 87) dX6_passWeek_87 ?_
    refine Ex.putI (pc := 88) dX6_passWeek_88 fX6_82 (sh13 _) (Or.inl rfl) ⟨rfl, rfl⟩ ?_
    refine Ex.aload_n (pc := 91) dX6_passWeek_91 rfl rfl ?_
    refine Ex.sipush (pc := 92) (v := 999) dX6_passWeek_92 rfl ?_
    refine Ex.aload_n (pc := 95) dX6_passWeek_95 rfl rfl ?_
    refine Ex.getI (pc := 96) dX6_passWeek_96 fX6_59 (sh13 _) ?_
    refine Ex.iconst (pc := 99) (v := 1) dX6_passWeek_99 rfl ?_
    refine Ex.iadd (pc := 100) dX6_passWeek_100 ?_
    refine Ex.min (pc := 101) dX6_passWeek_101 kl_X6_71 (by decide) (Nat.le_of_ble_eq_true rfl) (Nat.le_refl _) (Nat.le_refl _) ?_
    refine Ex.putI (pc := 104) dX6_passWeek_104 fX6_59 (sh13 _) (Or.inl rfl) ⟨rfl, rfl⟩ ?_
    refine Ex.vret (pc := 107) rfl dX6_passWeek_107 (Nat.le_refl _) (Nat.le_refl _) ?_
    have ex : xOf I3 13 = midX p (I 5) (I 6) nh (xOf I 13) se := hx3
    have x0 : I3 13 0 = I 13 0 := by have := congrArg (fun t => t.1) ex; rw [hm0] at this; exact this
    have x1 : I3 13 1 = I 13 1 := by have := congrArg (fun t => t.2.1) ex; rw [hm1] at this; exact this
    have x2 : I3 13 2 = (midX p (I 5) (I 6) nh (xOf I 13) se).2.2.1 := congrArg (fun t => t.2.2.1) ex
    have x3 : I3 14 = (midX p (I 5) (I 6) nh (xOf I 13) se).2.2.2.1 := congrArg (fun t => t.2.2.2.1) ex
    have x4 : I3 15 = (midX p (I 5) (I 6) nh (xOf I 13) se).2.2.2.2 := congrArg (fun t => t.2.2.2.2) ex
    refine ⟨_, rfl, rfl, ?_, ?_, ?_, ?_, ?_, ?_⟩
    · exact ((hS3.tr hS4 (by decide) (by decide)).up (by decide)).up (by decide)
    · simp only [xOf, endX, va_up_s, bx_uu, va_up_n (show (14 : Nat) ≠ 13 by decide), va_up_n (show (15 : Nat) ≠ 13 by decide), upd_s, upd_n (show (0 : Nat) ≠ 2 by decide), upd_n (show (1 : Nat) ≠ 2 by decide), upd_n (show (1 : Nat) ≠ 0 by decide), upd_n (show (2 : Nat) ≠ 0 by decide), e4, hS4 14 (by decide), hS4 15 (by decide)]
      rw [x0, x1, x2, x3, x4]
      rfl
    · simp only [va_up_s, upd_n (show (3 : Nat) ≠ 0 by decide), upd_n (show (3 : Nat) ≠ 2 by decide), e4]
      exact h33
    · rw [va_up_n (by decide), va_up_n (by decide), hS4 16 (by decide)]; exact hb3
    · rw [va_up_n (by decide), va_up_n (by decide), hS4 16 (by decide)]; exact hs3
    · rw [va_up_n (by decide), va_up_n (by decide), hS4 16 (by decide)]; exact hcm3
  | false =>
    cases hd : dpF (I 15) ns with
    | none =>
      have hser : serX p (I 5) (I 6) nb ns false (xOf I 13) = none := by simp only [serX, xOf]; rw [hd]; rfl
      refine Ex.aload_n (pc := 0) dX6_passWeek_0 rfl rfl ?_
      refine Ex.getI (pc := 1) dX6_passWeek_1 fX6_82 (sh13 _) ?_
      refine Ex.istore_n (pc := 4) (ls' := [some (.ref 16), some (.ref 13), some (.int _), some (.int _), none, none]) dX6_passWeek_4 rfl (by decide) rfl rfl ?_
      refine Ex.iload_n (pc := 5) dX6_passWeek_5 rfl rfl ?_
      refine Ex.if_eq (pc := 6) (tgt := 13) dX6_passWeek_6 (by decide) (fun _ => ?_) (fun c6 => absurd (show bI false = 0 from by decide) c6)
      refine Ex.aload_n (pc := 13) dX6_passWeek_13 rfl rfl ?_
      refine Ex.aload_n (pc := 14) dX6_passWeek_14 rfl rfl ?_
      refine Ex.callV (pc := 15) (As := [.ref 13]) (rest := []) dX6_passWeek_15 cX6_88 (t_deepestOf13 (ns := ns) hc1 hs6) (sh16 _) rfl rfl (by decide) (Nat.le_refl _) (Nat.le_refl _) (Nat.le_of_ble_eq_true rfl) (Or.inl (fun r S' h => by obtain ⟨_, h⟩ := h; subst h; rfl)) (fun r S' hq _ _ => ?_)
      obtain ⟨rfl, rfl⟩ := hq
      rw [hd]
      refine Ex.istore (pc := 18) (ls' := [some (.ref 16), some (.ref 13), some (.int _), some (.int _), some (.int _), none]) dX6_passWeek_18 (by decide) rfl rfl ?_
      refine Ex.iload (pc := 20) dX6_passWeek_20 rfl ?_
      refine Ex.iconst (pc := 22) (v := (-1)) dX6_passWeek_22 rfl ?_
      refine Ex.icmp_eq (pc := 23) (tgt := 68) dX6_passWeek_23 (by decide) (fun _ => ?_) (fun c23 => absurd rfl c23)
      refine Ex.aload_n (pc := 68) dX6_passWeek_68 rfl rfl ?_
      refine Ex.aload_n (pc := 69) dX6_passWeek_69 rfl rfl ?_
      refine Ex.callV (pc := 70) (As := [.ref 13]) (rest := []) dX6_passWeek_70 cX6_103 t_rest13 (sh16 _) rfl rfl (by decide) (Nat.le_refl _) (Nat.le_refl _) (Nat.le_of_ble_eq_true rfl) (Or.inl (fun r S' h => by obtain ⟨_, _, h, _⟩ := h; subst h; rfl)) (fun r S' hq _ _ => ?_)
      obtain ⟨I3, rfl, rfl, hSa, hb3, hs3, hcm3, hrow3⟩ := hq
      have hS3 : Sm [13, 14, 15, 16, 17, 18] I I3 := hSa.tr Sm.rf (l2 := []) (by decide) (by decide)
      have hp3 := hp.sm hS3 (by decide) (by decide) (by decide) (by decide)
      have hh3 : I3 3 2 = nI nh := by rw [hS3 3 (by decide)]; exact hc2
      obtain ⟨se, hse⟩ : ∃ se : Option (Nat × Nat), se = none := ⟨_, rfl⟩
      rw [show (serX p (I 5) (I 6) nb ns false (xOf I 13)) = se from by rw [hse, hser]]
      have hx3 : xOf I3 13 = midX p (I 5) (I 6) nh (xOf I 13) se := by rw [hse]; simp only [xOf, midX]; rw [hSa 13 (by decide), hSa 14 (by decide), hSa 15 (by decide)]
      have hm0 : (midX p (I 5) (I 6) nh (xOf I 13) se).1 = I 13 0 := by rw [hse]; rfl
      have hm1 : (midX p (I 5) (I 6) nh (xOf I 13) se).2.1 = I 13 1 := by rw [hse]; rfl
      have h33 : I3 13 3 = I 13 3 := by rw [hSa 13 (by decide)]
      have hrow3 : ∀ j, alw 3 j → j ≠ 7 → j ≠ 8 → I3 17 j = rowX p (I 5) (I 6) (xOf I 13) se j := by rw [hse]; exact hrow3
      have hb3 : I3 16 3 = serB se := by rw [hse]; exact hb3
      have hs3 : I3 16 4 = serS se := by rw [hse]; exact hs3
      have hcm3 : I3 16 8 = cameX p (I 5) (I 6) (xOf I 13) se := by rw [hse]; exact hcm3
      refine Ex.aload_n (pc := 73) dX6_passWeek_73 rfl rfl ?_
      refine Ex.dup (pc := 74) dX6_passWeek_74 rfl ?_
      refine Ex.getI (pc := 75) dX6_passWeek_75 fX6_82 (sh13 _) ?_
      refine Ex.aload_n (pc := 78) dX6_passWeek_78 rfl rfl ?_
      refine Ex.bipush (pc := 79) (v := 12) dX6_passWeek_79 rfl ?_
      refine Ex.iload_n (pc := 81) dX6_passWeek_81 rfl rfl ?_
      refine Ex.callV (pc := 82) (As := [.int 12, .int _]) (rest := [.int _, .ref 13]) dX6_passWeek_82 cX6_85 (t_whoHolds (p := p) (r := 3) (nh := nh) hp3 (by decide) hh3 hh6) (sh16 _) rfl rfl (by decide) (Nat.le_refl _) (Nat.le_refl _) (Nat.le_of_ble_eq_true rfl) (Or.inl (fun r S' h => by obtain ⟨_, _, h, _⟩ := h; subst h; rfl)) (fun r S' hq _ _ => ?_)
      obtain ⟨I4, rfl, rfl, hS4, hj4⟩ := hq
      have hwho : whoF p (I3 17) 3 (fun k => I3 5 (12 + k)) (fun k => I3 6 (12 + k)) (I 13 2) nh = whoX p (rowX p (I 5) (I 6) (xOf I 13) se) (I 5) (I 6) 3 (I 13 2) nh := by
        rw [hS3 5 (by decide), hS3 6 (by decide)]
        exact whoF_congr hp.2 (by decide) _ _ _ (fun j hj h7 h8 => hrow3 j hj h7 h8) nh
      rw [hwho]
      have e4 : I4 13 = I3 13 := hS4 13 (by decide)
      refine Ex.iconst (pc := 85) (v := (-1)) dX6_passWeek_85 rfl ?_
      refine Ex.ixor (pc := 86) dX6_passWeek_86 ?_
      refine Ex.iand (pc := 87) dX6_passWeek_87 ?_
      refine Ex.putI (pc := 88) dX6_passWeek_88 fX6_82 (sh13 _) (Or.inl rfl) ⟨rfl, rfl⟩ ?_
      refine Ex.aload_n (pc := 91) dX6_passWeek_91 rfl rfl ?_
      refine Ex.sipush (pc := 92) (v := 999) dX6_passWeek_92 rfl ?_
      refine Ex.aload_n (pc := 95) dX6_passWeek_95 rfl rfl ?_
      refine Ex.getI (pc := 96) dX6_passWeek_96 fX6_59 (sh13 _) ?_
      refine Ex.iconst (pc := 99) (v := 1) dX6_passWeek_99 rfl ?_
      refine Ex.iadd (pc := 100) dX6_passWeek_100 ?_
      refine Ex.min (pc := 101) dX6_passWeek_101 kl_X6_71 (by decide) (Nat.le_of_ble_eq_true rfl) (Nat.le_refl _) (Nat.le_refl _) ?_
      refine Ex.putI (pc := 104) dX6_passWeek_104 fX6_59 (sh13 _) (Or.inl rfl) ⟨rfl, rfl⟩ ?_
      refine Ex.vret (pc := 107) rfl dX6_passWeek_107 (Nat.le_refl _) (Nat.le_refl _) ?_
      have ex : xOf I3 13 = midX p (I 5) (I 6) nh (xOf I 13) se := hx3
      have x0 : I3 13 0 = I 13 0 := by have := congrArg (fun t => t.1) ex; rw [hm0] at this; exact this
      have x1 : I3 13 1 = I 13 1 := by have := congrArg (fun t => t.2.1) ex; rw [hm1] at this; exact this
      have x2 : I3 13 2 = (midX p (I 5) (I 6) nh (xOf I 13) se).2.2.1 := congrArg (fun t => t.2.2.1) ex
      have x3 : I3 14 = (midX p (I 5) (I 6) nh (xOf I 13) se).2.2.2.1 := congrArg (fun t => t.2.2.2.1) ex
      have x4 : I3 15 = (midX p (I 5) (I 6) nh (xOf I 13) se).2.2.2.2 := congrArg (fun t => t.2.2.2.2) ex
      refine ⟨_, rfl, rfl, ?_, ?_, ?_, ?_, ?_, ?_⟩
      · exact ((hS3.tr hS4 (by decide) (by decide)).up (by decide)).up (by decide)
      · simp only [xOf, endX, va_up_s, bx_uu, va_up_n (show (14 : Nat) ≠ 13 by decide), va_up_n (show (15 : Nat) ≠ 13 by decide), upd_s, upd_n (show (0 : Nat) ≠ 2 by decide), upd_n (show (1 : Nat) ≠ 2 by decide), upd_n (show (1 : Nat) ≠ 0 by decide), upd_n (show (2 : Nat) ≠ 0 by decide), e4, hS4 14 (by decide), hS4 15 (by decide)]
        rw [x0, x1, x2, x3, x4]
        rfl
      · simp only [va_up_s, upd_n (show (3 : Nat) ≠ 0 by decide), upd_n (show (3 : Nat) ≠ 2 by decide), e4]
        exact h33
      · rw [va_up_n (by decide), va_up_n (by decide), hS4 16 (by decide)]; exact hb3
      · rw [va_up_n (by decide), va_up_n (by decide), hS4 16 (by decide)]; exact hs3
      · rw [va_up_n (by decide), va_up_n (by decide), hS4 16 (by decide)]; exact hcm3
    | some s =>
      have hsn := dpF_lt _ _ _ hd
      have hs1 : ¬ nI s = -1 := fun q => absurd (congrArg Int32.toInt q) (by rw [nI_toInt (by omega)]; show ¬ (s : Int) = -1; omega)
      by_cases hnb : nb = 0
      · have hser : serX p (I 5) (I 6) nb ns false (xOf I 13) = none := by simp only [serX, xOf]; rw [hd]; simp [hnb]
        refine Ex.aload_n (pc := 0) dX6_passWeek_0 rfl rfl ?_
        refine Ex.getI (pc := 1) dX6_passWeek_1 fX6_82 (sh13 _) ?_
        refine Ex.istore_n (pc := 4) (ls' := [some (.ref 16), some (.ref 13), some (.int _), some (.int _), none, none]) dX6_passWeek_4 rfl (by decide) rfl rfl ?_
        refine Ex.iload_n (pc := 5) dX6_passWeek_5 rfl rfl ?_
        refine Ex.if_eq (pc := 6) (tgt := 13) dX6_passWeek_6 (by decide) (fun _ => ?_) (fun c6 => absurd (show bI false = 0 from by decide) c6)
        refine Ex.aload_n (pc := 13) dX6_passWeek_13 rfl rfl ?_
        refine Ex.aload_n (pc := 14) dX6_passWeek_14 rfl rfl ?_
        refine Ex.callV (pc := 15) (As := [.ref 13]) (rest := []) dX6_passWeek_15 cX6_88 (t_deepestOf13 (ns := ns) hc1 hs6) (sh16 _) rfl rfl (by decide) (Nat.le_refl _) (Nat.le_refl _) (Nat.le_of_ble_eq_true rfl) (Or.inl (fun r S' h => by obtain ⟨_, h⟩ := h; subst h; rfl)) (fun r S' hq _ _ => ?_)
        obtain ⟨rfl, rfl⟩ := hq
        rw [hd]
        refine Ex.istore (pc := 18) (ls' := [some (.ref 16), some (.ref 13), some (.int _), some (.int _), some (.int _), none]) dX6_passWeek_18 (by decide) rfl rfl ?_
        refine Ex.iload (pc := 20) dX6_passWeek_20 rfl ?_
        refine Ex.iconst (pc := 22) (v := (-1)) dX6_passWeek_22 rfl ?_
        refine Ex.icmp_eq (pc := 23) (tgt := 68) dX6_passWeek_23 (by decide) (fun c23 => absurd c23 hs1) (fun _ => ?_)
        refine Ex.aload_n (pc := 26) dX6_passWeek_26 rfl rfl ?_
        refine Ex.getR (pc := 27) dX6_passWeek_27 fX6_37 (sh16 _) r16_0 ?_
        refine Ex.getR (pc := 30) dX6_passWeek_30 fX6_92 (sh2 _) r2_0 ?_
        refine Ex.iconst (pc := 33) (v := 0) dX6_passWeek_33 rfl ?_
        refine Ex.iald (pc := 34) (j := 0) dX6_passWeek_34 (sh3 _) (by unfold vp_in; decide) (by decide) ?_
        refine Ex.if_le (pc := 35) (tgt := 68) dX6_passWeek_35 (by decide) (fun _ => ?_) (fun c35 => absurd (by rw [hc0, hnb]; decide) c35)
        refine Ex.aload_n (pc := 68) dX6_passWeek_68 rfl rfl ?_
        refine Ex.aload_n (pc := 69) dX6_passWeek_69 rfl rfl ?_
        refine Ex.callV (pc := 70) (As := [.ref 13]) (rest := []) dX6_passWeek_70 cX6_103 t_rest13 (sh16 _) rfl rfl (by decide) (Nat.le_refl _) (Nat.le_refl _) (Nat.le_of_ble_eq_true rfl) (Or.inl (fun r S' h => by obtain ⟨_, _, h, _⟩ := h; subst h; rfl)) (fun r S' hq _ _ => ?_)
        obtain ⟨I3, rfl, rfl, hSa, hb3, hs3, hcm3, hrow3⟩ := hq
        have hS3 : Sm [13, 14, 15, 16, 17, 18] I I3 := hSa.tr Sm.rf (l2 := []) (by decide) (by decide)
        have hp3 := hp.sm hS3 (by decide) (by decide) (by decide) (by decide)
        have hh3 : I3 3 2 = nI nh := by rw [hS3 3 (by decide)]; exact hc2
        obtain ⟨se, hse⟩ : ∃ se : Option (Nat × Nat), se = none := ⟨_, rfl⟩
        rw [show (serX p (I 5) (I 6) nb ns false (xOf I 13)) = se from by rw [hse, hser]]
        have hx3 : xOf I3 13 = midX p (I 5) (I 6) nh (xOf I 13) se := by rw [hse]; simp only [xOf, midX]; rw [hSa 13 (by decide), hSa 14 (by decide), hSa 15 (by decide)]
        have hm0 : (midX p (I 5) (I 6) nh (xOf I 13) se).1 = I 13 0 := by rw [hse]; rfl
        have hm1 : (midX p (I 5) (I 6) nh (xOf I 13) se).2.1 = I 13 1 := by rw [hse]; rfl
        have h33 : I3 13 3 = I 13 3 := by rw [hSa 13 (by decide)]
        have hrow3 : ∀ j, alw 3 j → j ≠ 7 → j ≠ 8 → I3 17 j = rowX p (I 5) (I 6) (xOf I 13) se j := by rw [hse]; exact hrow3
        have hb3 : I3 16 3 = serB se := by rw [hse]; exact hb3
        have hs3 : I3 16 4 = serS se := by rw [hse]; exact hs3
        have hcm3 : I3 16 8 = cameX p (I 5) (I 6) (xOf I 13) se := by rw [hse]; exact hcm3
        refine Ex.aload_n (pc := 73) dX6_passWeek_73 rfl rfl ?_
        refine Ex.dup (pc := 74) dX6_passWeek_74 rfl ?_
        refine Ex.getI (pc := 75) dX6_passWeek_75 fX6_82 (sh13 _) ?_
        refine Ex.aload_n (pc := 78) dX6_passWeek_78 rfl rfl ?_
        refine Ex.bipush (pc := 79) (v := 12) dX6_passWeek_79 rfl ?_
        refine Ex.iload_n (pc := 81) dX6_passWeek_81 rfl rfl ?_
        refine Ex.callV (pc := 82) (As := [.int 12, .int _]) (rest := [.int _, .ref 13]) dX6_passWeek_82 cX6_85 (t_whoHolds (p := p) (r := 3) (nh := nh) hp3 (by decide) hh3 hh6) (sh16 _) rfl rfl (by decide) (Nat.le_refl _) (Nat.le_refl _) (Nat.le_of_ble_eq_true rfl) (Or.inl (fun r S' h => by obtain ⟨_, _, h, _⟩ := h; subst h; rfl)) (fun r S' hq _ _ => ?_)
        obtain ⟨I4, rfl, rfl, hS4, hj4⟩ := hq
        have hwho : whoF p (I3 17) 3 (fun k => I3 5 (12 + k)) (fun k => I3 6 (12 + k)) (I 13 2) nh = whoX p (rowX p (I 5) (I 6) (xOf I 13) se) (I 5) (I 6) 3 (I 13 2) nh := by
          rw [hS3 5 (by decide), hS3 6 (by decide)]
          exact whoF_congr hp.2 (by decide) _ _ _ (fun j hj h7 h8 => hrow3 j hj h7 h8) nh
        rw [hwho]
        have e4 : I4 13 = I3 13 := hS4 13 (by decide)
        refine Ex.iconst (pc := 85) (v := (-1)) dX6_passWeek_85 rfl ?_
        refine Ex.ixor (pc := 86) dX6_passWeek_86 ?_
        refine Ex.iand (pc := 87) dX6_passWeek_87 ?_
        refine Ex.putI (pc := 88) dX6_passWeek_88 fX6_82 (sh13 _) (Or.inl rfl) ⟨rfl, rfl⟩ ?_
        refine Ex.aload_n (pc := 91) dX6_passWeek_91 rfl rfl ?_
        refine Ex.sipush (pc := 92) (v := 999) dX6_passWeek_92 rfl ?_
        refine Ex.aload_n (pc := 95) dX6_passWeek_95 rfl rfl ?_
        refine Ex.getI (pc := 96) dX6_passWeek_96 fX6_59 (sh13 _) ?_
        refine Ex.iconst (pc := 99) (v := 1) dX6_passWeek_99 rfl ?_
        refine Ex.iadd (pc := 100) dX6_passWeek_100 ?_
        refine Ex.min (pc := 101) dX6_passWeek_101 kl_X6_71 (by decide) (Nat.le_of_ble_eq_true rfl) (Nat.le_refl _) (Nat.le_refl _) ?_
        refine Ex.putI (pc := 104) dX6_passWeek_104 fX6_59 (sh13 _) (Or.inl rfl) ⟨rfl, rfl⟩ ?_
        refine Ex.vret (pc := 107) rfl dX6_passWeek_107 (Nat.le_refl _) (Nat.le_refl _) ?_
        have ex : xOf I3 13 = midX p (I 5) (I 6) nh (xOf I 13) se := hx3
        have x0 : I3 13 0 = I 13 0 := by have := congrArg (fun t => t.1) ex; rw [hm0] at this; exact this
        have x1 : I3 13 1 = I 13 1 := by have := congrArg (fun t => t.2.1) ex; rw [hm1] at this; exact this
        have x2 : I3 13 2 = (midX p (I 5) (I 6) nh (xOf I 13) se).2.2.1 := congrArg (fun t => t.2.2.1) ex
        have x3 : I3 14 = (midX p (I 5) (I 6) nh (xOf I 13) se).2.2.2.1 := congrArg (fun t => t.2.2.2.1) ex
        have x4 : I3 15 = (midX p (I 5) (I 6) nh (xOf I 13) se).2.2.2.2 := congrArg (fun t => t.2.2.2.2) ex
        refine ⟨_, rfl, rfl, ?_, ?_, ?_, ?_, ?_, ?_⟩
        · exact ((hS3.tr hS4 (by decide) (by decide)).up (by decide)).up (by decide)
        · simp only [xOf, endX, va_up_s, bx_uu, va_up_n (show (14 : Nat) ≠ 13 by decide), va_up_n (show (15 : Nat) ≠ 13 by decide), upd_s, upd_n (show (0 : Nat) ≠ 2 by decide), upd_n (show (1 : Nat) ≠ 2 by decide), upd_n (show (1 : Nat) ≠ 0 by decide), upd_n (show (2 : Nat) ≠ 0 by decide), e4, hS4 14 (by decide), hS4 15 (by decide)]
          rw [x0, x1, x2, x3, x4]
          rfl
        · simp only [va_up_s, upd_n (show (3 : Nat) ≠ 0 by decide), upd_n (show (3 : Nat) ≠ 2 by decide), e4]
          exact h33
        · rw [va_up_n (by decide), va_up_n (by decide), hS4 16 (by decide)]; exact hb3
        · rw [va_up_n (by decide), va_up_n (by decide), hS4 16 (by decide)]; exact hs3
        · rw [va_up_n (by decide), va_up_n (by decide), hS4 16 (by decide)]; exact hcm3
      · have hser : serX p (I 5) (I 6) nb ns false (xOf I 13) = some (pickX p (I 5) (I 6) (xOf I 13) s nb, s) := by simp only [serX, xOf]; rw [hd]; simp [hnb]
        refine Ex.aload_n (pc := 0) dX6_passWeek_0 rfl rfl ?_
        refine Ex.getI (pc := 1) dX6_passWeek_1 fX6_82 (sh13 _) ?_
        refine Ex.istore_n (pc := 4) (ls' := [some (.ref 16), some (.ref 13), some (.int _), some (.int _), none, none]) dX6_passWeek_4 rfl (by decide) rfl rfl ?_
        refine Ex.iload_n (pc := 5) dX6_passWeek_5 rfl rfl ?_
        refine Ex.if_eq (pc := 6) (tgt := 13) dX6_passWeek_6 (by decide) (fun _ => ?_) (fun c6 => absurd (show bI false = 0 from by decide) c6)
        refine Ex.aload_n (pc := 13) dX6_passWeek_13 rfl rfl ?_
        refine Ex.aload_n (pc := 14) dX6_passWeek_14 rfl rfl ?_
        refine Ex.callV (pc := 15) (As := [.ref 13]) (rest := []) dX6_passWeek_15 cX6_88 (t_deepestOf13 (ns := ns) hc1 hs6) (sh16 _) rfl rfl (by decide) (Nat.le_refl _) (Nat.le_refl _) (Nat.le_of_ble_eq_true rfl) (Or.inl (fun r S' h => by obtain ⟨_, h⟩ := h; subst h; rfl)) (fun r S' hq _ _ => ?_)
        obtain ⟨rfl, rfl⟩ := hq
        rw [hd]
        refine Ex.istore (pc := 18) (ls' := [some (.ref 16), some (.ref 13), some (.int _), some (.int _), some (.int _), none]) dX6_passWeek_18 (by decide) rfl rfl ?_
        refine Ex.iload (pc := 20) dX6_passWeek_20 rfl ?_
        refine Ex.iconst (pc := 22) (v := (-1)) dX6_passWeek_22 rfl ?_
        refine Ex.icmp_eq (pc := 23) (tgt := 68) dX6_passWeek_23 (by decide) (fun c23 => absurd c23 hs1) (fun _ => ?_)
        refine Ex.aload_n (pc := 26) dX6_passWeek_26 rfl rfl ?_
        refine Ex.getR (pc := 27) dX6_passWeek_27 fX6_37 (sh16 _) r16_0 ?_
        refine Ex.getR (pc := 30) dX6_passWeek_30 fX6_92 (sh2 _) r2_0 ?_
        refine Ex.iconst (pc := 33) (v := 0) dX6_passWeek_33 rfl ?_
        refine Ex.iald (pc := 34) (j := 0) dX6_passWeek_34 (sh3 _) (by unfold vp_in; decide) (by decide) ?_
        refine Ex.if_le (pc := 35) (tgt := 68) dX6_passWeek_35 (by decide) (fun c35 => absurd c35 (by rw [hc0]; exact nI_nle (by omega) (by omega))) (fun _ => ?_)
        refine Ex.aload_n (pc := 38) dX6_passWeek_38 rfl rfl ?_
        refine Ex.aload_n (pc := 39) dX6_passWeek_39 rfl rfl ?_
        refine Ex.iload (pc := 40) dX6_passWeek_40 rfl ?_
        refine Ex.callV (pc := 42) (As := [.ref 13, .int _]) (rest := []) dX6_passWeek_42 cX6_95 (t_pickFor13 (p := p) (s := s) (nb := nb) hp (by omega) hc0 hb5) (sh16 _) rfl rfl (by decide) (Nat.le_refl _) (Nat.le_refl _) (Nat.le_of_ble_eq_true rfl) (Or.inl (fun r S' h => by obtain ⟨_, _, h, _⟩ := h; subst h; rfl)) (fun r S' hq _ _ => ?_)
        obtain ⟨I1, rfl, rfl, hS1⟩ := hq
        have hbk : pickX p (I 5) (I 6) (xOf I 13) s nb < nb := pkF_lt _ _ (by omega)
        generalize hbe : pickX p (I 5) (I 6) (xOf I 13) s nb = b at *
        obtain ⟨rb, hrb, hrbe⟩ := hrib b hbk
        have hp1 := hp.sm hS1 (by decide) (by decide) (by decide) (by decide)
        have hh1 : I1 3 2 = nI nh := by rw [hS1 3 (by decide)]; exact hc2
        refine Ex.istore (pc := 45) (ls' := [some (.ref 16), some (.ref 13), some (.int _), some (.int _), some (.int _), some (.int _)]) dX6_passWeek_45 (by decide) rfl rfl ?_
        refine Ex.aload_n (pc := 47) dX6_passWeek_47 rfl rfl ?_
        refine Ex.aload_n (pc := 48) dX6_passWeek_48 rfl rfl ?_
        refine Ex.iload (pc := 49) dX6_passWeek_49 rfl ?_
        refine Ex.iload (pc := 51) dX6_passWeek_51 rfl ?_
        refine Ex.aload_n (pc := 53) dX6_passWeek_53 rfl rfl ?_
        refine Ex.getR (pc := 54) dX6_passWeek_54 fX6_37 (sh16 _) r16_0 ?_
        refine Ex.iload (pc := 57) dX6_passWeek_57 rfl ?_
        refine Ex.callV (pc := 59) (As := [.int _]) (rest := [.int _, .int _, .ref 13, .ref 16]) dX6_passWeek_59 cX6_47 (t_ribs (j := b) (by omega)) (sh2 _) rfl rfl (by decide) (Nat.le_refl _) (Nat.le_refl _) (Nat.le_of_ble_eq_true rfl) (Or.inl (fun r S' h => by obtain ⟨_, h⟩ := h; subst h; rfl)) (fun r S' hq _ _ => ?_)
        obtain ⟨rfl, rfl⟩ := hq
        rw [show I1 5 (0 + b) = nI rb from by rw [Nat.zero_add, hS1 5 (by decide), hrbe]]
        refine Ex.callV (pc := 62) (As := [.ref 13, .int _, .int _, .int _]) (rest := []) dX6_passWeek_62 cX6_99 (t_preach13 (p := p) (b := b) (s := s) (n := rb) (nh := nh) hp1 (by omega) (by omega) hrb hh1 hh6) (sh16 _) rfl rfl (by decide) (Nat.le_refl _) (Nat.le_refl _) (Nat.le_of_ble_eq_true rfl) (Or.inl (fun r S' h => by obtain ⟨_, _, h, _⟩ := h; subst h; rfl)) (fun r S' hq _ _ => ?_)
        obtain ⟨I3, rfl, rfl, hSa, hxa, h3a, hta, hb3, hs3, hrow3⟩ := hq
        rw [hS1 5 (by decide), hS1 6 (by decide), show xOf I1 13 = (xOf I 13) from by simp only [xOf]; rw [hS1 13 (by decide), hS1 14 (by decide), hS1 15 (by decide)]] at hxa hta hrow3
        have hsn2 : serN (I 5) b = rb := by unfold serN; rw [hrbe]; exact nI_clamp (by omega)
        have hS3 : Sm [13, 14, 15, 16, 17, 18] I I3 := hS1.tr hSa (by decide) (by decide)
        have hp3 := hp.sm hS3 (by decide) (by decide) (by decide) (by decide)
        have hh3 : I3 3 2 = nI nh := by rw [hS3 3 (by decide)]; exact hc2
        obtain ⟨se, hse⟩ : ∃ se : Option (Nat × Nat), se = some (b, s) := ⟨_, rfl⟩
        rw [show (serX p (I 5) (I 6) nb ns false (xOf I 13)) = se from by rw [hse, hser]]
        have hx3 : xOf I3 13 = midX p (I 5) (I 6) nh (xOf I 13) se := by rw [hse]; simp only [midX]; rw [hsn2]; exact hxa
        have hm0 : (midX p (I 5) (I 6) nh (xOf I 13) se).1 = I 13 0 := by rw [hse]; rfl
        have hm1 : (midX p (I 5) (I 6) nh (xOf I 13) se).2.1 = I 13 1 := by rw [hse]; rfl
        have h33 : I3 13 3 = I 13 3 := by rw [h3a, hS1 13 (by decide)]
        have hrow3 : ∀ j, alw 3 j → j ≠ 7 → j ≠ 8 → I3 17 j = rowX p (I 5) (I 6) (xOf I 13) se j := by rw [hse]; simp only [rowX]; rw [hsn2]; exact hrow3
        have hb3 : I3 16 3 = serB se := by rw [hse]; exact hb3
        have hs3 : I3 16 4 = serS se := by rw [hse]; exact hs3
        have hcm3 : I3 16 8 = cameX p (I 5) (I 6) (xOf I 13) se := by rw [hse]; simp only [cameX]; rw [hsn2, ← hta]; rfl
        refine Ex.goto (pc := 65) (tgt := 73) dX6_passWeek_65 (by decide) ?_
        refine Ex.aload_n (pc := 73) dX6_passWeek_73 rfl rfl ?_
        refine Ex.dup (pc := 74) dX6_passWeek_74 rfl ?_
        refine Ex.getI (pc := 75) dX6_passWeek_75 fX6_82 (sh13 _) ?_
        refine Ex.aload_n (pc := 78) dX6_passWeek_78 rfl rfl ?_
        refine Ex.bipush (pc := 79) (v := 12) dX6_passWeek_79 rfl ?_
        refine Ex.iload_n (pc := 81) dX6_passWeek_81 rfl rfl ?_
        refine Ex.callV (pc := 82) (As := [.int 12, .int _]) (rest := [.int _, .ref 13]) dX6_passWeek_82 cX6_85 (t_whoHolds (p := p) (r := 3) (nh := nh) hp3 (by decide) hh3 hh6) (sh16 _) rfl rfl (by decide) (Nat.le_refl _) (Nat.le_refl _) (Nat.le_of_ble_eq_true rfl) (Or.inl (fun r S' h => by obtain ⟨_, _, h, _⟩ := h; subst h; rfl)) (fun r S' hq _ _ => ?_)
        obtain ⟨I4, rfl, rfl, hS4, hj4⟩ := hq
        have hwho : whoF p (I3 17) 3 (fun k => I3 5 (12 + k)) (fun k => I3 6 (12 + k)) (I 13 2) nh = whoX p (rowX p (I 5) (I 6) (xOf I 13) se) (I 5) (I 6) 3 (I 13 2) nh := by
          rw [hS3 5 (by decide), hS3 6 (by decide)]
          exact whoF_congr hp.2 (by decide) _ _ _ (fun j hj h7 h8 => hrow3 j hj h7 h8) nh
        rw [hwho]
        have e4 : I4 13 = I3 13 := hS4 13 (by decide)
        refine Ex.iconst (pc := 85) (v := (-1)) dX6_passWeek_85 rfl ?_
        refine Ex.ixor (pc := 86) dX6_passWeek_86 ?_
        refine Ex.iand (pc := 87) dX6_passWeek_87 ?_
        refine Ex.putI (pc := 88) dX6_passWeek_88 fX6_82 (sh13 _) (Or.inl rfl) ⟨rfl, rfl⟩ ?_
        refine Ex.aload_n (pc := 91) dX6_passWeek_91 rfl rfl ?_
        refine Ex.sipush (pc := 92) (v := 999) dX6_passWeek_92 rfl ?_
        refine Ex.aload_n (pc := 95) dX6_passWeek_95 rfl rfl ?_
        refine Ex.getI (pc := 96) dX6_passWeek_96 fX6_59 (sh13 _) ?_
        refine Ex.iconst (pc := 99) (v := 1) dX6_passWeek_99 rfl ?_
        refine Ex.iadd (pc := 100) dX6_passWeek_100 ?_
        refine Ex.min (pc := 101) dX6_passWeek_101 kl_X6_71 (by decide) (Nat.le_of_ble_eq_true rfl) (Nat.le_refl _) (Nat.le_refl _) ?_
        refine Ex.putI (pc := 104) dX6_passWeek_104 fX6_59 (sh13 _) (Or.inl rfl) ⟨rfl, rfl⟩ ?_
        refine Ex.vret (pc := 107) rfl dX6_passWeek_107 (Nat.le_refl _) (Nat.le_refl _) ?_
        have ex : xOf I3 13 = midX p (I 5) (I 6) nh (xOf I 13) se := hx3
        have x0 : I3 13 0 = I 13 0 := by have := congrArg (fun t => t.1) ex; rw [hm0] at this; exact this
        have x1 : I3 13 1 = I 13 1 := by have := congrArg (fun t => t.2.1) ex; rw [hm1] at this; exact this
        have x2 : I3 13 2 = (midX p (I 5) (I 6) nh (xOf I 13) se).2.2.1 := congrArg (fun t => t.2.2.1) ex
        have x3 : I3 14 = (midX p (I 5) (I 6) nh (xOf I 13) se).2.2.2.1 := congrArg (fun t => t.2.2.2.1) ex
        have x4 : I3 15 = (midX p (I 5) (I 6) nh (xOf I 13) se).2.2.2.2 := congrArg (fun t => t.2.2.2.2) ex
        refine ⟨_, rfl, rfl, ?_, ?_, ?_, ?_, ?_, ?_⟩
        · exact ((hS3.tr hS4 (by decide) (by decide)).up (by decide)).up (by decide)
        · simp only [xOf, endX, va_up_s, bx_uu, va_up_n (show (14 : Nat) ≠ 13 by decide), va_up_n (show (15 : Nat) ≠ 13 by decide), upd_s, upd_n (show (0 : Nat) ≠ 2 by decide), upd_n (show (1 : Nat) ≠ 2 by decide), upd_n (show (1 : Nat) ≠ 0 by decide), upd_n (show (2 : Nat) ≠ 0 by decide), e4, hS4 14 (by decide), hS4 15 (by decide)]
          rw [x0, x1, x2, x3, x4]
          rfl
        · simp only [va_up_s, upd_n (show (3 : Nat) ≠ 0 by decide), upd_n (show (3 : Nat) ≠ 2 by decide), e4]
          exact h33
        · rw [va_up_n (by decide), va_up_n (by decide), hS4 16 (by decide)]; exact hb3
        · rw [va_up_n (by decide), va_up_n (by decide), hS4 16 (by decide)]; exact hs3
        · rw [va_up_n (by decide), va_up_n (by decide), hS4 16 (by decide)]; exact hcm3
