/-! the reference's token, told by the class's: settled (RMs), or with a fault that it has seen and not told yet (RMt) -/
def TkA (tb : Nat → Nat) (n : Nat) (t : Tk) : Prop := (t.1 ≠ 1 → decide (t.1 = 2 ∨ t.1 = 3) = (isL (tb (t.2.2.2.2 - 1)) || isD (tb (t.2.2.2.2 - 1)))) ∧ (t.1 = 1 → t.2.2.2.2 = 0 ∨ n ≤ t.2.2.2.2)
theorem adj_eq {tb : Nat → Nat} {n : Nat} {t : Tk} (hW : TkW n t) (hA : TkA tb n t) : tokA tb n t.2.2.2.2 (sk tb n t.2.2.2.2) (adM tb (sk tb n t.2.2.2.2)) = tokF tb n t.2.2.2.2 (decide (t.1 = 2 ∨ t.1 = 3)) := by
  unfold tokF tokA
  have hsl := sk_le tb n t.2.2.2.2
  generalize sk tb n t.2.2.2.2 = s at *
  by_cases h1 : n ≤ s
  · rw [if_pos h1, if_pos h1]
  · rw [if_neg h1, if_neg h1]
    by_cases h2 : s = t.2.2.2.2
    · have e : adM tb s = decide (t.1 = 2 ∨ t.1 = 3) := by
        unfold adM
        by_cases h3 : t.1 = 1
        · rcases hA.2 h3 with q | q
          · rw [h2, q, decide_eq_false (Nat.lt_irrefl 0), decide_eq_false (by omega)]; rfl
          · omega
        · have := hW.2.2.2.2.1 h3
          rw [hA.1 h3, h2, decide_eq_true (by omega : 0 < t.2.2.2.2), Bool.true_and]
      rw [e]
    · rw [if_neg (fun q => h2 q.2.1), if_neg (fun q => h2 q.2.1)]
theorem tokS_A {tb : Nat → Nat} {n s : Nat} {t : Tk} (hs : s < n) (h : tokS tb n s = .ok t) : TkA tb n t := by
  unfold tokS at h
  by_cases hl : isL (tb s) = true
  · rw [if_pos hl] at h
    split at h
    · cases h
    · cases h
      refine ⟨fun _ => ?_, fun q => absurd (show (2 : Nat) = 1 from q) (by decide)⟩
      have hp : 1 ≤ (wdF tb n 6 s).length := (wdF_ok hs hl).1
      have := (wdF_at tb n 6 s ((wdF tb n 6 s).length - 1) (by omega)).2.1
      show decide ((2 : Nat) = 2 ∨ (2 : Nat) = 3) = (isL (tb (s + (wdF tb n 6 s).length - 1)) || isD (tb (s + (wdF tb n 6 s).length - 1)))
      rw [show s + (wdF tb n 6 s).length - 1 = s + ((wdF tb n 6 s).length - 1) by omega, this]
      rfl
  · rw [if_neg hl] at h
    have hl := Bool.eq_false_iff.mpr hl
    by_cases hd : isD (tb s) = true
    · rw [if_pos hd] at h
      split at h
      · cases h
      · cases h
        refine ⟨fun _ => ?_, fun q => absurd (show (3 : Nat) = 1 from q) (by decide)⟩
        have hp : 1 ≤ (nmF tb n 4 s).length := by simp only [nmF]; rw [if_pos ⟨hs, hd⟩]; simp
        have := (nmF_at tb n 4 s ((nmF tb n 4 s).length - 1) (by omega)).2.1
        show decide ((3 : Nat) = 2 ∨ (3 : Nat) = 3) = (isL (tb (s + (nmF tb n 4 s).length - 1)) || isD (tb (s + (nmF tb n 4 s).length - 1)))
        rw [show s + (nmF tb n 4 s).length - 1 = s + ((nmF tb n 4 s).length - 1) by omega, this, Bool.or_true]
        rfl
    · rw [if_neg hd] at h
      cases h
      refine ⟨fun _ => ?_, fun q => absurd (show (4 : Nat) = 1 from q) (by decide)⟩
      show decide ((4 : Nat) = 2 ∨ (4 : Nat) = 3) = (isL (tb (s + 1 - 1)) || isD (tb (s + 1 - 1)))
      rw [Nat.add_sub_cancel, hl, Bool.eq_false_iff.mpr hd]
      rfl
theorem tokF_A {tb : Nat → Nat} {n a : Nat} {adj : Bool} {t : Tk} (h : tokF tb n a adj = .ok t) : TkA tb n t := by
  unfold tokF tokA at h
  by_cases c : n ≤ sk tb n a
  · rw [if_pos c] at h
    cases h
    exact ⟨fun q => absurd rfl q, fun _ => Or.inr c⟩
  · rw [if_neg c] at h
    split at h
    · cases h
    · exact tokS_A (by omega) h
def MB (tb : Nat → Nat) (n : Nat) (I : aI) : Prop := TxM I tb n ∧ I 36 2 = nI n ∧ n ≤ 1600
def MkG (I : aI) (L : aL) (I2 : aI) (L2 : aL) : Prop := Sm [36] I I2 ∧ (∀ j, j ∉ [3, 4, 5, 6, 8, 9, 12] → I2 36 j = I 36 j) ∧ SmL [36] L L2 ∧ ∀ j, j ≠ 7 → L2 36 j = L 36 j
theorem MkG.rf {I : aI} {L : aL} : MkG I L I L := ⟨Sm.rf, fun _ _ => rfl, SmL.rf, fun _ _ => rfl⟩
theorem MkG.tr {I I1 I2 : aI} {L L1 L2 : aL} (h : MkG I L I1 L1) (g : MkG I1 L1 I2 L2) : MkG I L I2 L2 := ⟨h.1.tr g.1 (fun _ q => q) (fun _ q => q), fun j hj => (g.2.1 j hj).trans (h.2.1 j hj), h.2.2.1.tr g.2.2.1 (fun _ q => q) (fun _ q => q), fun j hj => (g.2.2.2 j hj).trans (h.2.2.2 j hj)⟩
theorem MkF.g {I I2 : aI} {L L2 : aL} (h : MkF I L I2 L2) : MkG I L I2 L2 := ⟨h.1, fun j hj => h.2.1 j (fun q => hj (by revert q; simp; omega)), h.2.2⟩
theorem MkG.m {I J : aI} {L M : aL} {j : Nat} {v : Int32} (h : MkG I L J M) (hj : j ∈ [3, 4, 5, 6, 8, 9, 12]) : MkG I L (mf J j v) M := ⟨h.1.tr mf_S (fun _ q => q) (fun _ q => q), fun i hi => by
    have e2 : i ≠ j := fun e => hi (by rw [e]; exact hj)
    rw [mf_n e2]; exact h.2.1 i hi, h.2.2⟩
theorem MB.g {tb : Nat → Nat} {n : Nat} {I I2 : aI} {L L2 : aL} (h : MB tb n I) (g : MkG I L I2 L2) : MB tb n I2 := ⟨h.1.sm g.1 (by decide), by rw [g.2.1 2 (by decide)]; exact h.2.1, h.2.2⟩
def RMo (tb : Nat → Nat) (n : Nat) (I : aI) (L : aL) (t : Tk) : Prop := I 36 8 = 0 ∧ TmE n I L (.ok t) ∧ TkW n t ∧ TkA tb n t ∧ I 36 9 = -1
def RMe (n : Nat) (I : aI) (e : Nat × Nat) : Prop := 1 ≤ e.1 ∧ e.1 ≤ 6 ∧ e.2 ≤ n ∧ I 36 8 = nI e.1 ∧ I 36 9 = nI e.2
def RMs (tb : Nat → Nat) (n : Nat) (I : aI) (L : aL) : Er → Prop
  | .ok (t, _) => RMo tb n I L t
  | .error e => RMe n I e
def RMt (tb : Nat → Nat) (n : Nat) (I : aI) (L : aL) : Er → Prop
  | .ok (t, _) => RMo tb n I L t
  | .error e => RMe n I e ∨ (I 36 8 = 0 ∧ e.1 = 1 ∧ e.2 < n ∧ I 36 12 = nI e.2 ∧ ¬ I 36 3 = 0)
theorem RMs.t {tb : Nat → Nat} {n : Nat} {I : aI} {L : aL} {r : Er} (h : RMs tb n I L r) : RMt tb n I L r := by
  cases r with
  | error e => exact Or.inl h
  | ok q => obtain ⟨t, c⟩ := q; exact h
theorem nn8 {k : Nat} (h : k ≤ 6) : ¬ nI k < 0 := nI_pos (by omega)
theorem RMt.n8 {tb : Nat → Nat} {n : Nat} {I : aI} {L : aL} {r : Er} (h : RMt tb n I L r) : ¬ I 36 8 < 0 := by
  cases r with
  | error e =>
    rcases (h : RMe n I e ∨ _) with q | q
    · rw [q.2.2.2.1]; exact nn8 q.2.1
    · rw [q.1]; decide
  | ok q => obtain ⟨t, c⟩ := q; rw [(h : RMo tb n I L t).1]; decide
theorem RMs.bad {tb : Nat → Nat} {n : Nat} {I : aI} {L : aL} {e : Nat × Nat} (h : RMs tb n I L (.error e)) : ¬ I 36 8 = 0 := by
  have h : RMe n I e := h
  rw [h.2.2.2.1]
  exact nI_ne0 (by have := h.1; omega) (by have := h.2.1; omega)
theorem tm_lexR {N n : Nat} {I : aI} {L : aL} {tb : Nat → Nat} {r : Er} (hn : n ≤ 1600) (h : RMt tb n I L r) : Run 1 0 0 mX10_lex [.ref 36] (St N I L) (RX N (fun x I2 L2 => x = none ∧ MkG I L I2 L2 ∧ RMs tb n I2 L2 r)) := by
  refine (tm_lex h.n8).imp ?_
  rintro x S' ⟨rfl, rfl⟩
  cases r with
  | ok q =>
    obtain ⟨t, c⟩ := q
    have h : RMo tb n I L t := h
    rw [if_pos h.2.1.1]
    exact ⟨I, L, rfl, rfl, MkG.rf, h⟩
  | error e =>
    rcases (h : RMe n I e ∨ _) with q | ⟨q1, q2, q3, q4, q5⟩
    · have hne : ¬ I 36 8 = 0 := RMs.bad (tb := tb) (L := L) q
      rw [if_neg hne]
      refine ⟨I, L, by split <;> rfl, rfl, MkG.rf, q⟩
    · rw [q4, if_neg (fun z => absurd (show nI e.2 < 0 by rw [z]; decide) (nI_pos (by omega))), if_pos q1]
      refine ⟨_, L, rfl, rfl, (MkG.rf.m (by decide)).m (by decide), ?_⟩
      exact ⟨by omega, by omega, by omega, by rw [mf_n (by decide), mf_s, q2]; rfl, by rw [mf_s]⟩
theorem tm_nx {N n : Nat} {I : aI} {L : aL} {tb : Nat → Nat} {t : Tk} {c : Cd} (hB : MB tb n I) (h : RMo tb n I L t) : Run 1 0 0 mX10_ahead [.ref 36] (St N I L) (RX N (fun x I2 L2 => x = none ∧ MkG I L I2 L2 ∧ RMt tb n I2 L2 (nx tb n (.ok (t, c))))) := by
  obtain ⟨h8, hE, hW, hA, h9⟩ := h
  refine (tm_ahead hB.1 hB.2.1 hB.2.2 hE.2.2.2.1 hW.2.2.2.1).imp ?_
  rintro x S' ⟨I2, L2, rfl, rfl, hF, hT⟩
  refine ⟨I2, L2, rfl, rfl, hF.g, ?_⟩
  rw [adj_eq hW hA] at hT
  have g8 : I2 36 8 = 0 := by rw [hF.2.1 8 (by decide)]; exact h8
  simp only [nx]
  cases ht : tokF tb n t.2.2.2.2 (decide (t.1 = 2 ∨ t.1 = 3)) with
  | error p =>
    rw [ht] at hT
    exact Or.inr ⟨g8, rfl, hT.2.1, hT.1, hT.2.2⟩
  | ok t2 =>
    rw [ht] at hT
    exact ⟨g8, hT, (tokF_ok (fun i hi => (hB.1 i hi).1) hW.2.2.2.1 ht).1, tokF_A ht, by rw [hF.2.1 9 (by decide)]; exact h9⟩
theorem tm_stp {N n k : Nat} {w : Int32} {I : aI} {L : aL} {tb : Nat → Nat} {r : Er} (h : RMs tb n I L r) (hk : 1 ≤ k) (hk6 : k ≤ 6) (hw : ∀ t c, r = .ok (t, c) → w = nI t.2.2.2.1) : Run 0 0 0 mX10_blame [.ref 36, .int (nI k), .int w] (St N I L) (RX N (fun x I2 L2 => x = none ∧ MkG I L I2 L2 ∧ RMs tb n I2 L2 (stp k r))) := by
  refine (tm_blame h.t.n8).imp ?_
  rintro x S' ⟨rfl, rfl⟩
  cases r with
  | error e =>
    rw [if_neg h.bad]
    exact ⟨I, L, rfl, rfl, MkG.rf, h⟩
  | ok q =>
    obtain ⟨t, c⟩ := q
    have h : RMo tb n I L t := h
    rw [if_pos h.1, hw t c rfl]
    refine ⟨_, L, rfl, rfl, (MkG.rf.m (by decide)).m (by decide), hk, hk6, ?_, ?_, ?_⟩
    · have a := h.2.2.1.2.2.1; have b := h.2.2.1.2.2.2.1; show t.2.2.2.1 ≤ n; omega
    · rw [mf_n (by decide), mf_s]
    · rw [mf_s]
theorem RMs.at {tb : Nat → Nat} {n : Nat} {I : aI} {L : aL} {r : Er} (h : RMs tb n I L r) : ∀ t c, r = .ok (t, c) → I 36 4 = nI t.2.2.2.1 := fun t c e => by
  subst e; exact (show RMo tb n I L t from h).2.1.2.2.1
theorem RMo.k3 {tb : Nat → Nat} {n k : Nat} {I : aI} {L : aL} {t : Tk} (h : RMo tb n I L t) (hk : k < 4) : I 36 3 = nI k ↔ t.1 = k + 1 := by
  have a := h.2.2.1.1
  have b := h.2.2.1.2.1
  rw [h.2.1.2.1, nI_eq (by omega) (by omega)]
  omega
set_option maxRecDepth 20000 in
theorem tm_must {N n : Nat} {I : aI} {L : aL} {tb : Nat → Nat} {r : Er} (hB : MB tb n I) {k : Nat} (hk : k < 256) (h : RMt tb n I L r) : Run 2 0 0 mX10_must [.ref 36, .int (nI k)] (St N I L) (RX N (fun x I2 L2 => x = none ∧ MkG I L I2 L2 ∧ RMt tb n I2 L2 (tkS tb n k r))) := by
  refine Run.of (ls := [some (.ref 36), some (.int _)]) (by decide) (Nat.le_of_ble_eq_true rfl) rfl ?_
  have cases1 : ∀ {I1 : aI} {L1 : aL}, RMs tb n I1 L1 r → (I1 36 8 = 0 → decide (I1 36 3 = 3 ∧ I1 36 6 = nI k) = isS k r) := by
    intro I1 L1 m1 h0
    cases r with
    | error e => exact absurd h0 m1.bad
    | ok q =>
      obtain ⟨t, c⟩ := q
      have m1 : RMo tb n I1 L1 t := m1
      have e3 := m1.k3 (k := 3) (by decide)
      refine decide_eq_decide.mpr ⟨fun q => ?_, fun q => ?_⟩
      · have h4 := e3.mp q.1
        have h6 := m1.2.1.2.2.2.2.2 (Or.inr h4)
        have hv := m1.2.2.1.2.2.2.2.2.2.2 h4
        exact ⟨h4, (nI_eq (by omega) (by omega)).mp (h6.symm.trans q.2)⟩
      · exact ⟨e3.mpr q.1, by rw [m1.2.1.2.2.2.2.2 (Or.inr q.1), q.2]⟩
  refine Ex.aload_n (pc := 0) dX10_must_0 rfl rfl ?_
  refine Ex.callV (pc := 1) (As := []) (rest := []) dX10_must_1 cX10_241 (tm_lexR (tb := tb) hB.2.2 h) (sh36 _) rfl rfl (by decide) (Nat.le_refl _) (Nat.le_refl _) (Nat.le_of_ble_eq_true rfl) (Or.inl (fun r S' h => by obtain ⟨_, _, h, _⟩ := h; subst h; rfl)) (fun r S' hq _ _ => ?_)
  obtain ⟨I1, L1, rfl, rfl, g1, m1⟩ := hq
  have b1 := hB.g g1
  refine Ex.aload_n (pc := 4) dX10_must_4 rfl rfl ?_
  refine Ex.iload_n (pc := 5) dX10_must_5 rfl rfl ?_
  refine Ex.callV (pc := 6) (As := [.int _]) (rest := []) dX10_must_6 cX10_244 (tm_isSign) (sh36 _) rfl rfl (by decide) (Nat.le_refl _) (Nat.le_refl _) (Nat.le_of_ble_eq_true rfl) (Or.inl (fun r S' h => by obtain ⟨_, h⟩ := h; subst h; rfl)) (fun r S' hq _ _ => ?_)
  obtain ⟨rfl, rfl⟩ := hq
  refine Ex.if_ne (pc := 9) (tgt := 21) dX10_must_9 (by decide) (fun c9 => ?_) (fun c9 => ?_)
  · skip
    refine Ex.aload_n (pc := 21) dX10_must_21 rfl rfl ?_
    refine Ex.getI (pc := 22) dX10_must_22 fX10_36 (sh36 _) ?_
    refine Ex.if_ne (pc := 25) (tgt := 32) dX10_must_25 (by decide) (fun c25 => ?_) (fun c25 => ?_)
    · skip
      refine Ex.vret (pc := 32) rfl dX10_must_32 (Nat.le_refl _) (Nat.le_refl _) ?_
      have hr : ∃ e, r = .error e := by
        cases hr : r with
        | error e => exact ⟨e, rfl⟩
        | ok q => rw [hr] at m1; obtain ⟨t, c⟩ := q; exact absurd (show RMo tb n I1 L1 t from m1).1 c25
      obtain ⟨e, rfl⟩ := hr
      exact ⟨_, _, rfl, rfl, g1, m1.t⟩
    · skip
      obtain ⟨t, c, hr⟩ : ∃ t c, r = .ok (t, c) := by
        cases hr : r with
        | error e => rw [hr] at m1; exact absurd c25 m1.bad
        | ok q => exact ⟨q.1, q.2, rfl⟩
      subst hr
      refine Ex.aload_n (pc := 28) dX10_must_28 rfl rfl ?_
      refine Ex.callV (pc := 29) (As := []) (rest := []) dX10_must_29 cX10_247 (tm_nx (c := c) b1 m1) (sh36 _) rfl rfl (by decide) (Nat.le_refl _) (Nat.le_refl _) (Nat.le_of_ble_eq_true rfl) (Or.inl (fun r S' h => by obtain ⟨_, _, h, _⟩ := h; subst h; rfl)) (fun r S' hq _ _ => ?_)
      obtain ⟨I3, L3, rfl, rfl, g3, m3⟩ := hq
      have g13 := g1.tr g3
      refine Ex.vret (pc := 32) rfl dX10_must_32 (Nat.le_refl _) (Nat.le_refl _) ?_
      have hS : isS k (.ok (t, c)) = true := by rw [← cases1 m1 c25]; exact bI_1 c9
      unfold tkS
      rw [if_pos hS]
      exact ⟨_, _, rfl, rfl, g13, m3⟩
  · skip
    refine Ex.aload_n (pc := 12) dX10_must_12 rfl rfl ?_
    refine Ex.iconst (pc := 13) (v := 1) dX10_must_13 rfl ?_
    refine Ex.aload_n (pc := 14) dX10_must_14 rfl rfl ?_
    refine Ex.getI (pc := 15) dX10_must_15 fX10_23 (sh36 _) ?_
    refine Ex.callV (pc := 18) (As := [.int 1, .int _]) (rest := []) dX10_must_18 cX10_230 (tm_stp (k := 1) m1 (by decide) (by decide) m1.at) (sh36 _) rfl rfl (by decide) (Nat.le_refl _) (Nat.le_refl _) (Nat.le_of_ble_eq_true rfl) (Or.inl (fun r S' h => by obtain ⟨_, _, h, _⟩ := h; subst h; rfl)) (fun r S' hq _ _ => ?_)
    obtain ⟨I2, L2, rfl, rfl, g2, m2⟩ := hq
    have g12 := g1.tr g2
    have hbad : ¬ I2 36 8 = 0 := by
      cases hr : r with
      | error e => rw [hr] at m2; exact RMs.bad (e := e) m2
      | ok q => rw [hr] at m2; obtain ⟨t, c⟩ := q; exact RMs.bad (e := (1, t.2.2.2.1)) m2
    refine Ex.aload_n (pc := 21) dX10_must_21 rfl rfl ?_
    refine Ex.getI (pc := 22) dX10_must_22 fX10_36 (sh36 _) ?_
    refine Ex.if_ne (pc := 25) (tgt := 32) dX10_must_25 (by decide) (fun _ => ?_) (fun c25 => absurd c25 hbad)
    refine Ex.vret (pc := 32) rfl dX10_must_32 (Nat.le_refl _) (Nat.le_refl _) ?_
    have hS : tkS tb n k r = stp 1 r := by
      cases hr : r with
      | error e => rfl
      | ok q =>
        rw [hr] at m1 cases1
        obtain ⟨t, c⟩ := q
        unfold tkS
        rw [if_neg (by rw [← cases1 m1 (show RMo tb n I1 L1 t from m1).1, bI_0 c9]; decide)]
    rw [hS]
    exact ⟨_, _, rfl, rfl, g12, m2.t⟩
