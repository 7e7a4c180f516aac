/-- a plan's sums: kinds and numbers of its steps, where each of the five begins and ends -/
abbrev aP : Type := (Nat → Nat) × (Nat → Nat) × (Nat → Nat) × (Nat → Nat)
def PlanOk (N : Nat) (I : aI) (p : aP) : Prop := N ≤ 1600 ∧ ∃ c, I 2 8 = nI c ∧ c ≤ N ∧ ∀ r, r < 5 → I 7 r = nI (p.2.2.1 r) ∧ I 8 r = nI (p.2.2.2 r) ∧ p.2.2.1 r ≤ p.2.2.2 r ∧ p.2.2.2 r ≤ c ∧ stepsOk I p.1 p.2.1 (p.2.2.1 r) (p.2.2.2 r) ∧ okAt p.1 (p.2.2.1 r) (p.2.2.2 r - p.2.2.1 r)
theorem PlanOk.sm {N : Nat} {I I2 : aI} {p : aP} {l : List Nat} (h : PlanOk N I p) (hS : Sm l I I2) (h2 : 2 ∉ l) (h7 : 7 ∉ l) (h8 : 8 ∉ l) (h9 : 9 ∉ l) : PlanOk N I2 p := by
  obtain ⟨h0, c, e1, e2, e3⟩ := h
  refine ⟨h0, c, by rw [hS 2 h2]; exact e1, e2, fun r hr => ?_⟩
  obtain ⟨g1, g2, g3, g4, g5, g6⟩ := e3 r hr
  refine ⟨by rw [hS 7 h7]; exact g1, by rw [hS 8 h8]; exact g2, g3, g4, fun t h1 h2 => ?_, g6⟩
  rw [hS 9 h9]
  exact g5 t h1 h2
theorem weigh_irr {k : Nat} (h1 : 7 ≤ k) (h2 : k < 16) (a b b' c c' : Int32) (hb : k ≠ 14 → b = b') (hc : k = 15 → c = c') : weighV (nI k) a b c = weighV (nI k) a b' c' := by
  have e7 : (nI k = 7) = (k = 7) := propext (show nI k = nI 7 ↔ k = 7 from nI_eq (by omega) (by omega))
  have e8 : (nI k = 8) = (k = 8) := propext (show nI k = nI 8 ↔ k = 8 from nI_eq (by omega) (by omega))
  have e9 : (nI k = 9) = (k = 9) := propext (show nI k = nI 9 ↔ k = 9 from nI_eq (by omega) (by omega))
  have e10 : (nI k = 10) = (k = 10) := propext (show nI k = nI 10 ↔ k = 10 from nI_eq (by omega) (by omega))
  have e11 : (nI k = 11) = (k = 11) := propext (show nI k = nI 11 ↔ k = 11 from nI_eq (by omega) (by omega))
  have e12 : (nI k = 12) = (k = 12) := propext (show nI k = nI 12 ↔ k = 12 from nI_eq (by omega) (by omega))
  have e13 : (nI k = 13) = (k = 13) := propext (show nI k = nI 13 ↔ k = 13 from nI_eq (by omega) (by omega))
  have e14 : (nI k = 14) = (k = 14) := propext (show nI k = nI 14 ↔ k = 14 from nI_eq (by omega) (by omega))
  simp only [weighV, e7, e8, e9, e10, e11, e12, e13, e14]
  by_cases q : k = 14
  · subst q; simp
  · rw [hb q]
    by_cases q2 : k = 15
    · rw [hc q2]
    · rcases (show k = 7 ∨ k = 8 ∨ k = 9 ∨ k = 10 ∨ k = 11 ∨ k = 12 ∨ k = 13 by omega) with rfl | rfl | rfl | rfl | rfl | rfl | rfl <;> simp
/-- what lies above the stack is never looked at -/
theorem gAt_irr (nm : Nat → Int32) (kd nu : Nat → Nat) (f : Nat) (g g' : Nat → Int32) : ∀ n, okAt kd f n → (∀ i, i < n → kd (f + i) < 16) → ∀ i, i < zAt kd f n → gAt nm kd nu f g n i = gAt nm kd nu f g' n i
  | 0, _, _, i, h => absurd h (Nat.not_lt_zero _)
  | n + 1, hok, hk, i, hi => by
    have ih := gAt_irr nm kd nu f g g' n (fun j hj => hok j (by omega)) (fun j hj => hk j (by omega))
    obtain ⟨h1, -⟩ := hok n (by omega)
    have h16 := hk n (by omega)
    simp only [zAt] at hi
    simp only [gAt, stG]
    generalize kd (f + n) = k at *
    generalize nu (f + n) = v at *
    generalize zAt kd f n = z at *
    by_cases e : i = z - nd k
    · rw [e, upd_s, upd_s]
      by_cases q1 : k ≤ 1
      · rw [if_pos q1, if_pos q1]
      · rw [if_neg q1, if_neg q1]
        have hnd : nd k = if k = 14 then 1 else if k = 15 then 3 else 2 := by unfold nd; rw [if_neg q1]
        have hp : z - nd k < z := by rw [hnd] at h1 ⊢; split <;> (try split) <;> simp_all <;> omega
        rw [ih _ hp]
        by_cases q2 : k ≤ 6
        · have h2 : nd k = 2 := by rw [hnd, if_neg (by omega), if_neg (by omega)]
          rw [if_pos q2, if_pos q2, ih (z - nd k + 1) (by omega)]
        · rw [if_neg q2, if_neg q2]
          refine weigh_irr (by omega) h16 _ _ _ _ _ (fun q => ?_) (fun q => ?_)
          · have h2 : 2 ≤ nd k := by rw [hnd, if_neg q]; split <;> omega
            exact ih _ (by omega)
          · have h2 : nd k = 3 := by rw [hnd, if_neg (by omega), if_pos q]
            exact ih _ (by omega)
    · rw [upd_n e, upd_n e]
      exact ih i (by omega)
/-- the value of the sum r; w0 if it isn't told -/
def evV (p : aP) (nm : Nat → Int32) (r : Nat) (w0 : Int32) : Int32 := if p.2.2.1 r = p.2.2.2 r then w0 else gAt nm p.1 p.2.1 (p.2.2.1 r) (fun _ => 0) (p.2.2.2 r - p.2.2.1 r) 0
theorem t_value {N : Nat} {I : aI} {L : aL} {p : aP} {r : Nat} {w0 : Int32} (hp : PlanOk N I p) (hr : r < 5) : Run 2 0 0 mX6_valueOf [.ref 16, .int (nI (9 + r)), .int w0] (St N I L) (RP (some (.int (evV p (I 17) r w0))) N L (fun I2 => Sm [18] I I2)) := by
  obtain ⟨hN, c, e1, e2, e3⟩ := hp
  obtain ⟨g1, g2, g3, g4, g5, g6⟩ := e3 r hr
  have h := t_valueOf (N := N) (I := I) (L := L) (w0 := w0) hr g1 g2 e1 g3 g4 e2 hN g5 g6
  refine h.imp ?_
  rintro x S' ⟨rfl, rfl⟩
  refine ⟨_, ?_, rfl, Sm.rf.up (by decide)⟩
  refine congrArg (fun z => some (Value.int z)) ?_
  unfold evV
  by_cases e : p.2.2.1 r = p.2.2.2 r
  · rw [if_pos e, if_pos e]
  · rw [if_neg e, if_neg e]
    exact gAt_irr _ _ _ _ _ _ _ g6 (fun i hi => (g5 _ (by omega) (by omega)).2.1) 0 (zAt_pos _ _ _ (by omega))
