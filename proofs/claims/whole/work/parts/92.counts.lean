theorem nx_8 {tb : Nat → Nat} {n : Nat} {I I2 : aI} {L L2 : aL} {t : Tk} {c : Cd} (h : RMo tb n I L t) (h8 : I2 36 8 = I 36 8) : I2 36 8 = 0 := by rw [h8]; exact h.1
set_option maxRecDepth 20000 in
theorem tm_counts1 {N n : Nat} {I : aI} {L : aL} {tb : Nat → Nat} {t : Tk} {c : Cd} (h : RMo tb n I L t) : Run 1 0 0 mX10_counts [.ref 36, .int 1] (St N I L) (RX N (fun x I2 L2 => x = some (.int 0) ∧ MkG I L I2 L2 ∧ RMs tb n I2 L2 (.error (6, t.2.2.2.1)))) := by
  refine Run.of (ls := [some (.ref 36), some (.int _)]) (by decide) (Nat.le_of_ble_eq_true rfl) rfl ?_
  refine Ex.aload_n (pc := 0) dX10_counts_0 rfl rfl ?_
  refine Ex.getI (pc := 1) dX10_counts_1 fX10_36 (sh36 _) ?_
  refine Ex.if_ne (pc := 4) (tgt := 21) dX10_counts_4 (by decide) (fun c4 => absurd h.1 c4) (fun _ => ?_)
  refine Ex.iload_n (pc := 7) dX10_counts_7 rfl rfl ?_
  refine Ex.if_eq (pc := 8) (tgt := 21) dX10_counts_8 (by decide) (fun c8 => absurd c8 (by decide)) (fun _ => ?_)
  refine Ex.aload_n (pc := 11) dX10_counts_11 rfl rfl ?_
  refine Ex.bipush (pc := 12) (v := 6) dX10_counts_12 rfl ?_
  refine Ex.aload_n (pc := 14) dX10_counts_14 rfl rfl ?_
  refine Ex.getI (pc := 15) dX10_counts_15 fX10_23 (sh36 _) ?_
  refine Ex.callV (pc := 18) (As := [.int 6, .int _]) (rest := []) dX10_counts_18 cX10_230 (tm_stp (r := .ok (t, c)) (k := 6) h (by decide) (by decide) (RMs.at (r := .ok (t, c)) h)) (sh36 _) rfl rfl (by decide) (Nat.le_refl _) (Nat.le_refl _) (Nat.le_of_ble_eq_true rfl) (Or.inl (fun r S' h => by obtain ⟨_, _, h, _⟩ := h; subst h; rfl)) (fun r S' hq _ _ => ?_)
  obtain ⟨I2, L2, rfl, rfl, g2, m2⟩ := hq
  have hbad : ¬ I2 36 8 = 0 := RMs.bad (e := (6, t.2.2.2.1)) m2
  refine Ex.aload_n (pc := 21) dX10_counts_21 rfl rfl ?_
  refine Ex.getI (pc := 22) dX10_counts_22 fX10_36 (sh36 _) ?_
  refine Ex.if_ne (pc := 25) (tgt := 32) dX10_counts_25 (by decide) (fun _ => ?_) (fun c25 => absurd c25 hbad)
  refine Ex.aload_n (pc := 32) dX10_counts_32 rfl rfl ?_
  refine Ex.getI (pc := 33) dX10_counts_33 fX10_36 (sh36 _) ?_
  refine Ex.if_ne (pc := 36) (tgt := 43) dX10_counts_36 (by decide) (fun _ => ?_) (fun c36 => absurd c36 hbad)
  refine Ex.iconst (pc := 43) (v := 0) dX10_counts_43 rfl ?_
  refine Ex.iret (pc := 44) rfl rfl rfl dX10_counts_44 (Nat.le_refl _) (Nat.le_refl _) ?_
  exact ⟨_, _, rfl, rfl, g2, m2⟩
