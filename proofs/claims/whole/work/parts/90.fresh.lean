/-- the names that the reference has taken so far, told by the class's -/
def NmP (I : aI) (L : aL) (b : Nat) (pl : Pl) : Prop := ∀ q, q < 3 → pl.1 q ≤ wd q ∧ (if q = 0 then I 38 b else if q = 1 then I 41 b else I 44 b) = nI (pl.1 q) ∧ ∀ j, j < pl.1 q → okN (pl.2.1 q j) ∧ L (53 + q) (wd q * b + j) = lN (n8 (pl.2.1 q j))
theorem NmP.g {I I2 : aI} {L L2 : aL} {b : Nat} {pl : Pl} (h : NmP I L b pl) (g : MkG I L I2 L2) : NmP I2 L2 b pl := fun q hq => by
  rw [g.1 38 (by decide), g.1 41 (by decide), g.1 44 (by decide), g.2.2.1 (53 + q) (by simp; omega)]
  exact h q hq
theorem NmP.hit {I : aI} {L : aL} {b q j : Nat} {pl : Pl} {l : List Nat} (h : NmP I L b pl) (hl : okN l) (hq : q < 3) (hj : j < pl.1 q) : L (53 + q) (wd q * b + j) = lN (n8 l) ↔ pl.2.1 q j = l := by
  obtain ⟨ok, e⟩ := (h q hq).2.2 j hj
  have h1 := n8_lt2 ok
  have h2 := n8_lt2 hl
  rw [e, lN_in (by omega) (by omega)]
  exact ⟨n8_inj ok hl, fun q => by rw [q]⟩
def bnB (pl : Pl) (l : List Nat) : Prop := ∃ q j, q < 3 ∧ j < pl.1 q ∧ pl.2.1 q j = l
theorem brB_n {pl : Pl} {l : List Nat} (hl : okN l) (h : ∀ q j, q < 3 → j < pl.1 q → pl.1 q ≤ 6 ∧ okN (pl.2.1 q j)) : brB pl.1 (fun i => nI (n5 (pl.2.1 (i / 6) (i % 6)))) (nI (n5 l)) = true ↔ bnB pl l := by
  have e : ∀ q j, q < 3 → j < pl.1 q → (nI (n5 (pl.2.1 ((6 * q + j) / 6) ((6 * q + j) % 6))) = nI (n5 l) ↔ pl.2.1 q j = l) := fun q j hq hj => by
    obtain ⟨h6, ok⟩ := h q j hq hj
    have h1 := n5_lt ok
    have h2 := n5_lt hl
    rw [show (6 * q + j) / 6 = q by omega, show (6 * q + j) % 6 = j by omega, nI_eq (by omega) (by omega)]
    exact ⟨n5_inj ok hl, fun z => by rw [z]⟩
  unfold brB bnB
  refine ⟨fun z => ?_, fun ⟨q, j, hq, hj, z⟩ => any_range_t hq (any_range_t hj (decide_eq_true ((e q j hq hj).mpr z)))⟩
  obtain ⟨q, hq, z⟩ := List.any_eq_true.mp z
  obtain ⟨j, hj, z⟩ := List.any_eq_true.mp z
  have hq := List.mem_range.mp hq
  have hj := List.mem_range.mp hj
  exact ⟨q, j, hq, hj, (e q j hq hj).mp (of_decide_eq_true z)⟩
