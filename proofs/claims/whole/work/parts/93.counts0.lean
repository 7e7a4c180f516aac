theorem tm_nx8 {N n : Nat} {I : aI} {L : aL} {tb : Nat → Nat} {t : Tk} {c : Cd} (hB : MB tb n I) (h : RMo tb n I L t) : Run 1 0 0 mX10_ahead [.ref 36] (St N I L) (RX N (fun x I2 L2 => x = none ∧ MkG I L I2 L2 ∧ RMt tb n I2 L2 (nx tb n (.ok (t, c))) ∧ I2 36 8 = 0)) := by
  obtain ⟨h8, hE, hW, hA, h9⟩ := h
  refine (tm_ahead hB.1 hB.2.1 hB.2.2 hE.2.2.2.1 hW.2.2.2.1).imp ?_
  rintro x S' ⟨I2, L2, rfl, rfl, hF, hT⟩
  have g8 : I2 36 8 = 0 := by rw [hF.2.1 8 (by decide)]; exact h8
  refine ⟨I2, L2, rfl, rfl, hF.g, ?_, g8⟩
  rw [adj_eq hW hA] at hT
  simp only [nx]
  cases ht : tokF tb n t.2.2.2.2 (decide (t.1 = 2 ∨ t.1 = 3)) with
  | error p =>
    rw [ht] at hT
    exact Or.inr ⟨g8, rfl, hT.2.1, hT.1, hT.2.2⟩
  | ok t2 =>
    rw [ht] at hT
    exact ⟨g8, hT, (tokF_ok (fun i hi => (hB.1 i hi).1) hW.2.2.2.1 ht).1, tokF_A ht, by rw [hF.2.1 9 (by decide)]; exact h9⟩
set_option maxRecDepth 20000 in
theorem tm_counts0 {N n : Nat} {I : aI} {L : aL} {tb : Nat → Nat} {t : Tk} {c : Cd} (hB : MB tb n I) (h : RMo tb n I L t) : Run 2 0 0 mX10_counts [.ref 36, .int 0] (St N I L) (RX N (fun x I2 L2 => x = some (.int 1) ∧ MkG I L I2 L2 ∧ RMt tb n I2 L2 (nx tb n (.ok (t, c))) ∧ I2 36 8 = 0)) := by
  refine Run.of (ls := [some (.ref 36), some (.int _)]) (by decide) (Nat.le_of_ble_eq_true rfl) rfl ?_
  refine Ex.aload_n (pc := 0) dX10_counts_0 rfl rfl ?_
  refine Ex.getI (pc := 1) dX10_counts_1 fX10_36 (sh36 _) ?_
  refine Ex.if_ne (pc := 4) (tgt := 21) dX10_counts_4 (by decide) (fun c4 => absurd h.1 c4) (fun _ => ?_)
  refine Ex.iload_n (pc := 7) dX10_counts_7 rfl rfl ?_
  refine Ex.if_eq (pc := 8) (tgt := 21) dX10_counts_8 (by decide) (fun _ => ?_) (fun c8 => absurd (by decide) c8)
  refine Ex.aload_n (pc := 21) dX10_counts_21 rfl rfl ?_
  refine Ex.getI (pc := 22) dX10_counts_22 fX10_36 (sh36 _) ?_
  refine Ex.if_ne (pc := 25) (tgt := 32) dX10_counts_25 (by decide) (fun c25 => absurd h.1 c25) (fun _ => ?_)
  refine Ex.aload_n (pc := 28) dX10_counts_28 rfl rfl ?_
  refine Ex.callV (pc := 29) (As := []) (rest := []) dX10_counts_29 cX10_247 (tm_nx8 (c := c) hB h) (sh36 _) rfl rfl (by decide) (Nat.le_refl _) (Nat.le_refl _) (Nat.le_of_ble_eq_true rfl) (Or.inl (fun r S' h => by obtain ⟨_, _, h, _⟩ := h; subst h; rfl)) (fun r S' hq _ _ => ?_)
  obtain ⟨I3, L3, rfl, rfl, g3, m3, z3⟩ := hq
  refine Ex.aload_n (pc := 32) dX10_counts_32 rfl rfl ?_
  refine Ex.getI (pc := 33) dX10_counts_33 fX10_36 (sh36 _) ?_
  refine Ex.if_ne (pc := 36) (tgt := 43) dX10_counts_36 (by decide) (fun c36 => absurd z3 c36) (fun _ => ?_)
  refine Ex.iconst (pc := 39) (v := 1) dX10_counts_39 rfl ?_
  refine Ex.goto (pc := 40) (tgt := 44) dX10_counts_40 (by decide) ?_
  refine Ex.iret (pc := 44) rfl rfl rfl dX10_counts_44 (Nat.le_refl _) (Nat.le_refl _) ?_
  exact ⟨_, _, rfl, rfl, g3, m3, z3⟩
