set_option maxRecDepth 20000 in
theorem tm_opnE {N n : Nat} {tb : Nat → Nat} {J : aI} {M : aL} {k : Int32} {e : Nat × Nat} (h : RMs tb n J M (.error e)) : Run 2 0 0 mX10_opens [.ref 36, .int k] (St N J M) (RX N (fun x J2 M2 => x = none ∧ MkG J M J2 M2 ∧ RMs tb n J2 M2 (.error e))) := by
  refine Run.of (ls := [some (.ref 36), some (.int _)]) (by decide) (Nat.le_of_ble_eq_true rfl) rfl ?_
  have hle : ∀ {J : aI} {M : aL}, RMs tb n J M (.error e) → ¬ J 36 8 ≤ 0 := fun {J M} q z => q.bad (Int32.le_antisymm z (Int32.not_lt.mp q.t.n8))
  refine Ex.aload_n (pc := 0) dX10_opens_0 rfl rfl ?_
  refine Ex.getI (pc := 1) dX10_opens_1 fX10_137 (sh36 _) ?_
  refine Ex.bipush (pc := 4) (v := 7) dX10_opens_4 rfl ?_
  refine Ex.icmp_ne (pc := 6) (tgt := 18) dX10_opens_6 (by decide) (fun c6 => ?_) (fun c6 => ?_)
  · skip
    refine Ex.aload_n (pc := 18) dX10_opens_18 rfl rfl ?_
    refine Ex.getI (pc := 19) dX10_opens_19 fX10_36 (sh36 _) ?_
    refine Ex.if_le (pc := 22) (tgt := 26) dX10_opens_22 (by decide) (fun c22 => absurd c22 (hle h)) (fun _ => ?_)
    refine Ex.vret (pc := 25) rfl dX10_opens_25 (Nat.le_refl _) (Nat.le_refl _) ?_
    exact ⟨_, _, rfl, rfl, MkG.rf, h⟩
  · skip
    refine Ex.aload_n (pc := 9) dX10_opens_9 rfl rfl ?_
    refine Ex.iconst (pc := 10) (v := 5) dX10_opens_10 rfl ?_
    refine Ex.aload_n (pc := 11) dX10_opens_11 rfl rfl ?_
    refine Ex.getI (pc := 12) dX10_opens_12 fX10_23 (sh36 _) ?_
    refine Ex.callV (pc := 15) (As := [.int 5, .int _]) (rest := []) dX10_opens_15 cX10_230 (tm_stp (r := .error e) (k := 5) (w := J 36 4) h (by decide) (by decide) (fun t c q => by cases q)) (sh36 _) rfl rfl (by decide) (Nat.le_refl _) (Nat.le_refl _) (Nat.le_of_ble_eq_true rfl) (Or.inl (fun r S' h => by obtain ⟨_, _, h, _⟩ := h; subst h; rfl)) (fun r S' hq _ _ => ?_)
    obtain ⟨I2, L2, rfl, rfl, g2, m2⟩ := hq
    refine Ex.aload_n (pc := 18) dX10_opens_18 rfl rfl ?_
    refine Ex.getI (pc := 19) dX10_opens_19 fX10_36 (sh36 _) ?_
    refine Ex.if_le (pc := 22) (tgt := 26) dX10_opens_22 (by decide) (fun c22 => absurd c22 (hle m2)) (fun _ => ?_)
    refine Ex.vret (pc := 25) rfl dX10_opens_25 (Nat.le_refl _) (Nat.le_refl _) ?_
    exact ⟨_, _, rfl, rfl, g2, m2⟩
set_option maxRecDepth 20000 in
theorem tm_opnO {N n b w : Nat} {tb : Nat → Nat} {I J : aI} {L M : aL} {fs : List Fr} {o : Nat} {t : Tk} {c : Cd} {k : Nat} (h : Wk tb n b w I L J M fs o t c) (ho : o ≤ 7) (hd : fs.length < 20) : Run 2 0 0 mX10_opens [.ref 36, .int (nI k)] (St N J M) (RX N (fun x J2 M2 => x = none ∧ RdF b I L J2 M2 ∧ ((7 ≤ o ∧ RMs tb n J2 M2 (stp 5 (.ok (t, c)))) ∨ (o < 7 ∧ RMt tb n J2 M2 (nx tb n (.ok (t, c))) ∧ J2 36 8 = 0 ∧ ∃ K, FrM b K fs (o + 1) c ∧ J2 = puM K fs.length (nI k))))) := by
  refine Run.of (ls := [some (.ref 36), some (.int _)]) (by decide) (Nat.le_of_ble_eq_true rfl) rfl ?_
  have m0 : RMs tb n J M (.ok (t, c)) := h.2.2.2.1
  have h41 := h.2.2.2.2.2.2.1
  refine Ex.aload_n (pc := 0) dX10_opens_0 rfl rfl ?_
  refine Ex.getI (pc := 1) dX10_opens_1 fX10_137 (sh36 _) ?_
  refine Ex.bipush (pc := 4) (v := 7) dX10_opens_4 rfl ?_
  refine Ex.icmp_ne (pc := 6) (tgt := 18) dX10_opens_6 (by decide) (fun c6 => ?_) (fun c6 => ?_)
  · skip
    refine Ex.aload_n (pc := 18) dX10_opens_18 rfl rfl ?_
    refine Ex.getI (pc := 19) dX10_opens_19 fX10_36 (sh36 _) ?_
    refine Ex.if_le (pc := 22) (tgt := 26) dX10_opens_22 (by decide) (fun _ => ?_) (fun c22 => absurd (by rw [h.2.2.2.1.1]; decide) c22)
    have h7 : o < 7 := by
      refine Nat.lt_of_le_of_ne ho (fun e => c6 ?_)
      rw [h41, e]; rfl
    refine Ex.aload_n (pc := 26) dX10_opens_26 rfl rfl ?_
    refine Ex.dup (pc := 27) dX10_opens_27 rfl ?_
    refine Ex.getI (pc := 28) dX10_opens_28 fX10_137 (sh36 _) ?_
    refine Ex.iconst (pc := 31) (v := 1) dX10_opens_31 rfl ?_
    refine Ex.iadd (pc := 32) dX10_opens_32 ?_
    refine Ex.putI (pc := 33) dX10_opens_33 fX10_137 (sh36 _) (Or.inl rfl) ⟨rfl, rfl⟩ ?_
    refine Ex.mm (S' := St N (mf J 41 (nI (o + 1))) M) ?_ ?_
    · rw [h41, show nI o + 1 = nI (o + 1) from nI_1 o]; rfl
    have W1 : Wk tb n b w I L (mf J 41 (nI (o + 1))) M fs (o + 1) t c := h.u (uf_m (by decide)) (h.2.2.2.2.o (o + 1))
    refine Ex.aload_n (pc := 36) dX10_opens_36 rfl rfl ?_
    refine Ex.callV (pc := 37) (As := []) (rest := []) dX10_opens_37 cX10_247 (Wk.nx W1) (sh36 _) rfl rfl (by decide) (Nat.le_refl _) (Nat.le_refl _) (Nat.le_of_ble_eq_true rfl) (Or.inl (fun r S' h => by obtain ⟨_, _, h, _⟩ := h; subst h; rfl)) (fun r S' hq _ _ => ?_)
    obtain ⟨I3, L3, rfl, rfl, g3, m3, z3, f3, _⟩ := hq
    refine Ex.aload_n (pc := 40) dX10_opens_40 rfl rfl ?_
    refine Ex.iload_n (pc := 41) dX10_opens_41 rfl rfl ?_
    refine Ex.callV (pc := 42) (As := [.int _]) (rest := []) dX10_opens_42 cX10_322 (tm_pushes (d := fs.length) hd f3.2.1) (sh36 _) rfl rfl (by decide) (Nat.le_refl _) (Nat.le_refl _) (Nat.le_of_ble_eq_true rfl) (Or.inl (fun r S' h => by obtain ⟨_, h⟩ := h; subst h; rfl)) (fun r S' hq _ _ => ?_)
    obtain ⟨rfl, rfl⟩ := hq
    refine Ex.vret (pc := 45) rfl dX10_opens_45 (Nat.le_refl _) (Nat.le_refl _) ?_
    refine ⟨_, _, rfl, rfl, g3.tr uf_pu.rd, Or.inr ⟨h7, m3.u (b := b) uf_pu, ?_, I3, f3, rfl⟩⟩
    rw [uf_pu (b := b).2.1 8 (by decide)]; exact z3
  · skip
    refine Ex.aload_n (pc := 9) dX10_opens_9 rfl rfl ?_
    refine Ex.iconst (pc := 10) (v := 5) dX10_opens_10 rfl ?_
    refine Ex.aload_n (pc := 11) dX10_opens_11 rfl rfl ?_
    refine Ex.getI (pc := 12) dX10_opens_12 fX10_23 (sh36 _) ?_
    refine Ex.callV (pc := 15) (As := [.int 5, .int _]) (rest := []) dX10_opens_15 cX10_230 (tm_stp (r := .ok (t, c)) (k := 5) m0 (by decide) (by decide) m0.at) (sh36 _) rfl rfl (by decide) (Nat.le_refl _) (Nat.le_refl _) (Nat.le_of_ble_eq_true rfl) (Or.inl (fun r S' h => by obtain ⟨_, _, h, _⟩ := h; subst h; rfl)) (fun r S' hq _ _ => ?_)
    obtain ⟨I2, L2, rfl, rfl, g2, m2⟩ := hq
    have hbad : ¬ I2 36 8 = 0 := fun z => RMs.bad (e := (5, t.2.2.2.1)) m2 z
    have hb2 : ¬ I2 36 8 ≤ 0 := fun z => hbad (Int32.le_antisymm z (Int32.not_lt.mp m2.t.n8))
    refine Ex.aload_n (pc := 18) dX10_opens_18 rfl rfl ?_
    refine Ex.getI (pc := 19) dX10_opens_19 fX10_36 (sh36 _) ?_
    refine Ex.if_le (pc := 22) (tgt := 26) dX10_opens_22 (by decide) (fun c22 => absurd c22 hb2) (fun _ => ?_)
    refine Ex.vret (pc := 25) rfl dX10_opens_25 (Nat.le_refl _) (Nat.le_refl _) ?_
    have h7 : o = 7 := by
      rw [h41] at c6
      have := congrArg Int32.toInt c6
      rw [nI_toInt (by omega), show (7 : Int32).toInt = 7 from rfl] at this
      omega
    exact ⟨_, _, rfl, rfl, h.1.tr g2.rd, Or.inl ⟨by omega, m2⟩⟩
