set_option maxRecDepth 20000 in
theorem tm_isWord {N : Nat} {I : aI} {L : aL} {v : Int64} : Run 0 0 0 mX10_isWord [.ref 36, .long v] (St N I L) (RI (bI (decide (I 36 3 = 1 ∧ L 36 7 = v))) (St N I L)) := by
  refine Run.of (ls := [some (.ref 36), some (.long _), none]) (by decide) (Nat.le_of_ble_eq_true rfl) rfl ?_
  refine Ex.aload_n (pc := 0) dX10_isWord_0 rfl rfl ?_
  refine Ex.getI (pc := 1) dX10_isWord_1 fX10_20 (sh36 _) ?_
  refine Ex.iconst (pc := 4) (v := 1) dX10_isWord_4 rfl ?_
  refine Ex.icmp_ne (pc := 5) (tgt := 21) dX10_isWord_5 (by decide) (fun c5 => ?_) (fun c5 => ?_)
  · skip
    refine Ex.iconst (pc := 21) (v := 0) dX10_isWord_21 rfl ?_
    refine Ex.iret (pc := 22) rfl rfl rfl dX10_isWord_22 (Nat.le_refl _) (Nat.le_refl _) ?_
    refine ⟨congrArg (fun z => some (Value.int z)) ?_, rfl⟩
    rw [decide_eq_false (fun q => c5 q.1)]; rfl
  · skip
    refine Ex.aload_n (pc := 8) dX10_isWord_8 rfl rfl ?_
    refine Ex.getL (pc := 9) dX10_isWord_9 fX10_32 (sh36 _) ?_
    refine Ex.lload_n (pc := 12) dX10_isWord_12 rfl rfl ?_
    refine Ex.lcmp (pc := 13) dX10_isWord_13 ?_
    refine Ex.if_ne (pc := 14) (tgt := 21) dX10_isWord_14 (by decide) (fun c14 => ?_) (fun c14 => ?_)
    · skip
      refine Ex.iconst (pc := 21) (v := 0) dX10_isWord_21 rfl ?_
      refine Ex.iret (pc := 22) rfl rfl rfl dX10_isWord_22 (Nat.le_refl _) (Nat.le_refl _) ?_
      refine ⟨congrArg (fun z => some (Value.int z)) ?_, rfl⟩
      rw [lg_cmp_eq] at c14
      rw [decide_eq_false (fun q => c14 q.2)]; rfl
    · skip
      refine Ex.iconst (pc := 17) (v := 1) dX10_isWord_17 rfl ?_
      refine Ex.goto (pc := 18) (tgt := 22) dX10_isWord_18 (by decide) ?_
      refine Ex.iret (pc := 22) rfl rfl rfl dX10_isWord_22 (Nat.le_refl _) (Nat.le_refl _) ?_
      refine ⟨congrArg (fun z => some (Value.int z)) ?_, rfl⟩
      rw [lg_cmp_eq] at c14
      rw [decide_eq_true ⟨c5, c14⟩]; rfl
theorem RMo.w {tb : Nat → Nat} {n k : Nat} {I : aI} {L : aL} {t : Tk} (h : RMo tb n I L t) (hk : k < 27) (c : Cd) : decide (I 36 3 = 1 ∧ L 36 7 = lN (n8 (OW k))) = isW k (.ok (t, c)) := by
  have e1 := h.k3 (k := 1) (by decide)
  refine decide_eq_decide.mpr ⟨fun q => ?_, fun q => ?_⟩
  · have h2 := e1.mp q.1
    have h7 := h.2.1.2.2.2.2.1 h2
    have ok := h.2.2.1.2.2.2.2.2.1 h2
    exact ⟨h2, (own_8 ok hk).mp (h7.symm.trans q.2)⟩
  · exact ⟨e1.mpr q.1, by rw [h.2.1.2.2.2.2.1 q.1]; exact (own_8 (h.2.2.1.2.2.2.2.2.1 q.1) hk).mpr q.2⟩
set_option maxRecDepth 20000 in
theorem tm_must_ {N n : Nat} {I : aI} {L : aL} {tb : Nat → Nat} {r : Er} (hB : MB tb n I) {k : Nat} (hk : k < 27) (h : RMt tb n I L r) : Run 2 0 0 mX10_must_ [.ref 36, .long (lN (n8 (OW k)))] (St N I L) (RX N (fun x I2 L2 => x = none ∧ MkG I L I2 L2 ∧ RMt tb n I2 L2 (tkO tb n k r))) := by
  refine Run.of (ls := [some (.ref 36), some (.long _), none]) (by decide) (Nat.le_of_ble_eq_true rfl) rfl ?_
  refine Ex.aload_n (pc := 0) dX10_must__0 rfl rfl ?_
  refine Ex.callV (pc := 1) (As := []) (rest := []) dX10_must__1 cX10_241 (tm_lexR (tb := tb) hB.2.2 h) (sh36 _) rfl rfl (by decide) (Nat.le_refl _) (Nat.le_refl _) (Nat.le_of_ble_eq_true rfl) (Or.inl (fun r S' h => by obtain ⟨_, _, h, _⟩ := h; subst h; rfl)) (fun r S' hq _ _ => ?_)
  obtain ⟨I1, L1, rfl, rfl, g1, m1⟩ := hq
  have b1 := hB.g g1
  refine Ex.aload_n (pc := 4) dX10_must__4 rfl rfl ?_
  refine Ex.getI (pc := 5) dX10_must__5 fX10_36 (sh36 _) ?_
  refine Ex.if_le (pc := 8) (tgt := 12) dX10_must__8 (by decide) (fun c8 => ?_) (fun c8 => ?_)
  · skip
    obtain ⟨t, c, hr⟩ : ∃ t c, r = .ok (t, c) := by
      cases hr : r with
      | error e => rw [hr] at m1; exact absurd (Int32.le_antisymm c8 (Int32.not_lt.mp m1.t.n8)) m1.bad
      | ok q => exact ⟨q.1, q.2, rfl⟩
    subst hr
    have m1 : RMo tb n I1 L1 t := m1
    refine Ex.aload_n (pc := 12) dX10_must__12 rfl rfl ?_
    refine Ex.lload_n (pc := 13) dX10_must__13 rfl rfl ?_
    refine Ex.callV (pc := 14) (As := [.long _]) (rest := []) dX10_must__14 cX10_328 (tm_isWord) (sh36 _) rfl rfl (by decide) (Nat.le_refl _) (Nat.le_refl _) (Nat.le_of_ble_eq_true rfl) (Or.inl (fun r S' h => by obtain ⟨_, h⟩ := h; subst h; rfl)) (fun r S' hq _ _ => ?_)
    obtain ⟨rfl, rfl⟩ := hq
    refine Ex.if_ne (pc := 17) (tgt := 29) dX10_must__17 (by decide) (fun c17 => ?_) (fun c17 => ?_)
    · skip
      refine Ex.aload_n (pc := 29) dX10_must__29 rfl rfl ?_
      refine Ex.getI (pc := 30) dX10_must__30 fX10_36 (sh36 _) ?_
      refine Ex.if_ne (pc := 33) (tgt := 40) dX10_must__33 (by decide) (fun c33 => absurd m1.1 c33) (fun _ => ?_)
      refine Ex.aload_n (pc := 36) dX10_must__36 rfl rfl ?_
      refine Ex.callV (pc := 37) (As := []) (rest := []) dX10_must__37 cX10_247 (tm_nx (c := c) b1 m1) (sh36 _) rfl rfl (by decide) (Nat.le_refl _) (Nat.le_refl _) (Nat.le_of_ble_eq_true rfl) (Or.inl (fun r S' h => by obtain ⟨_, _, h, _⟩ := h; subst h; rfl)) (fun r S' hq _ _ => ?_)
      obtain ⟨I3, L3, rfl, rfl, g3, m3⟩ := hq
      have g13 := g1.tr g3
      refine Ex.vret (pc := 40) rfl dX10_must__40 (Nat.le_refl _) (Nat.le_refl _) ?_
      unfold tkO
      rw [if_pos (by rw [← m1.w hk c]; exact bI_1 c17)]
      exact ⟨_, _, rfl, rfl, g13, m3⟩
    · skip
      refine Ex.aload_n (pc := 20) dX10_must__20 rfl rfl ?_
      refine Ex.iconst (pc := 21) (v := 1) dX10_must__21 rfl ?_
      refine Ex.aload_n (pc := 22) dX10_must__22 rfl rfl ?_
      refine Ex.getI (pc := 23) dX10_must__23 fX10_23 (sh36 _) ?_
      refine Ex.callV (pc := 26) (As := [.int 1, .int _]) (rest := []) dX10_must__26 cX10_230 (tm_stp (r := .ok (t, c)) (k := 1) m1 (by decide) (by decide) (RMs.at (r := .ok (t, c)) m1)) (sh36 _) rfl rfl (by decide) (Nat.le_refl _) (Nat.le_refl _) (Nat.le_of_ble_eq_true rfl) (Or.inl (fun r S' h => by obtain ⟨_, _, h, _⟩ := h; subst h; rfl)) (fun r S' hq _ _ => ?_)
      obtain ⟨I2, L2, rfl, rfl, g2, m2⟩ := hq
      have g12 := g1.tr g2
      have hbad : ¬ I2 36 8 = 0 := RMs.bad (e := (1, t.2.2.2.1)) m2
      refine Ex.aload_n (pc := 29) dX10_must__29 rfl rfl ?_
      refine Ex.getI (pc := 30) dX10_must__30 fX10_36 (sh36 _) ?_
      refine Ex.if_ne (pc := 33) (tgt := 40) dX10_must__33 (by decide) (fun _ => ?_) (fun c33 => absurd c33 hbad)
      refine Ex.vret (pc := 40) rfl dX10_must__40 (Nat.le_refl _) (Nat.le_refl _) ?_
      unfold tkO
      rw [if_neg (by rw [← m1.w hk c, bI_0 c17]; decide)]
      exact ⟨_, _, rfl, rfl, g12, m2.t⟩
  · skip
    refine Ex.vret (pc := 11) rfl dX10_must__11 (Nat.le_refl _) (Nat.le_refl _) ?_
    obtain ⟨e, hr⟩ : ∃ e, r = .error e := by
      cases hr : r with
      | error e => exact ⟨e, rfl⟩
      | ok q => rw [hr] at m1; obtain ⟨t, c⟩ := q; exact absurd (show I1 36 8 ≤ 0 by rw [(show RMo tb n I1 L1 t from m1).1]; decide) c8
    subst hr
    exact ⟨_, _, rfl, rfl, g1, m1.t⟩
set_option maxRecDepth 20000 in
theorem tm_number {N n : Nat} {I : aI} {L : aL} {tb : Nat → Nat} {r : Er} (hB : MB tb n I) {lo hi : Nat} (hlo : lo < 10000) (hhi : hi < 10000) (h : RMt tb n I L r) : Run 2 0 0 mX10_number [.ref 36, .int (nI lo), .int (nI hi)] (St N I L) (RX N (fun x I2 L2 => ∃ v, x = some (.int v) ∧ MkG I L I2 L2 ∧ RMt tb n I2 L2 (tkV tb n lo hi r) ∧ (∀ s, tkV tb n lo hi r = .ok s → v = nI (numR r)))) := by
  refine Run.of (ls := [some (.ref 36), some (.int _), some (.int _), none]) (by decide) (Nat.le_of_ble_eq_true rfl) rfl ?_
  refine Ex.aload_n (pc := 0) dX10_number_0 rfl rfl ?_
  refine Ex.callV (pc := 1) (As := []) (rest := []) dX10_number_1 cX10_241 (tm_lexR (tb := tb) hB.2.2 h) (sh36 _) rfl rfl (by decide) (Nat.le_refl _) (Nat.le_refl _) (Nat.le_of_ble_eq_true rfl) (Or.inl (fun r S' h => by obtain ⟨_, _, h, _⟩ := h; subst h; rfl)) (fun r S' hq _ _ => ?_)
  obtain ⟨I1, L1, rfl, rfl, g1, m1⟩ := hq
  have b1 := hB.g g1
  refine Ex.aload_n (pc := 4) dX10_number_4 rfl rfl ?_
  refine Ex.getI (pc := 5) dX10_number_5 fX10_36 (sh36 _) ?_
  refine Ex.if_le (pc := 8) (tgt := 13) dX10_number_8 (by decide) (fun c8 => ?_) (fun c8 => ?_)
  · skip
    obtain ⟨t, c, hr⟩ : ∃ t c, r = .ok (t, c) := by
      cases hr : r with
      | error e => rw [hr] at m1; exact absurd (Int32.le_antisymm c8 (Int32.not_lt.mp m1.t.n8)) m1.bad
      | ok q => exact ⟨q.1, q.2, rfl⟩
    subst hr
    have m1 : RMo tb n I1 L1 t := m1
    refine Ex.aload_n (pc := 13) dX10_number_13 rfl rfl ?_
    refine Ex.getI (pc := 14) dX10_number_14 fX10_20 (sh36 _) ?_
    refine Ex.iconst (pc := 17) (v := 2) dX10_number_17 rfl ?_
    refine Ex.icmp_eq (pc := 18) (tgt := 30) dX10_number_18 (by decide) (fun c18 => ?_) (fun c18 => ?_)
    · skip
      refine Ex.aload_n (pc := 30) dX10_number_30 rfl rfl ?_
      refine Ex.getI (pc := 31) dX10_number_31 fX10_36 (sh36 _) ?_
      refine Ex.if_ne (pc := 34) (tgt := 58) dX10_number_34 (by decide) (fun c34 => absurd m1.1 c34) (fun _ => ?_)
      refine Ex.aload_n (pc := 37) dX10_number_37 rfl rfl ?_
      refine Ex.getI (pc := 38) dX10_number_38 fX10_29 (sh36 _) ?_
      refine Ex.iload_n (pc := 41) dX10_number_41 rfl rfl ?_
      refine Ex.iload_n (pc := 42) dX10_number_42 rfl rfl ?_
      refine Ex.callS (pc := 43) (As := [.int _, .int _, .int _]) (rest := []) dX10_number_43 cX10_312 (tm_is) rfl rfl (by decide) (Nat.le_refl _) (Nat.le_refl _) (Nat.le_of_ble_eq_true rfl) (Or.inl (fun r S' h => by obtain ⟨_, h⟩ := h; subst h; rfl)) (fun r S' hq _ _ => ?_)
      obtain ⟨rfl, rfl⟩ := hq
      refine Ex.if_ne (pc := 46) (tgt := 58) dX10_number_46 (by decide) (fun c46 => ?_) (fun c46 => ?_)
      · skip
        refine Ex.aload_n (pc := 58) dX10_number_58 rfl rfl ?_
        refine Ex.getI (pc := 59) dX10_number_59 fX10_29 (sh36 _) ?_
        refine Ex.istore_n (pc := 62) (ls' := [some (.ref 36), some (.int _), some (.int _), some (.int _)]) dX10_number_62 rfl (by decide) rfl rfl ?_
        refine Ex.aload_n (pc := 63) dX10_number_63 rfl rfl ?_
        refine Ex.getI (pc := 64) dX10_number_64 fX10_36 (sh36 _) ?_
        refine Ex.if_ne (pc := 67) (tgt := 74) dX10_number_67 (by decide) (fun c67 => absurd m1.1 c67) (fun _ => ?_)
        refine Ex.aload_n (pc := 70) dX10_number_70 rfl rfl ?_
        refine Ex.callV (pc := 71) (As := []) (rest := []) dX10_number_71 cX10_247 (tm_nx (c := c) b1 m1) (sh36 _) rfl rfl (by decide) (Nat.le_refl _) (Nat.le_refl _) (Nat.le_of_ble_eq_true rfl) (Or.inl (fun r S' h => by obtain ⟨_, _, h, _⟩ := h; subst h; rfl)) (fun r S' hq _ _ => ?_)
        obtain ⟨I3, L3, rfl, rfl, g3, m3⟩ := hq
        have g13 := g1.tr g3
        refine Ex.iload_n (pc := 74) dX10_number_74 rfl rfl ?_
        refine Ex.iret (pc := 75) rfl rfl rfl dX10_number_75 (Nat.le_refl _) (Nat.le_refl _) ?_
        have h3 : t.1 = 3 := (m1.k3 (k := 2) (by decide)).mp c18
        have hk3 : isK 3 (.ok (t, c) : Er) = true := decide_eq_true h3
        have hv := m1.2.1.2.2.2.2.2 (Or.inl h3)
        have hv4 := m1.2.2.1.2.2.2.2.2.2.1 h3
        have hin : isB (I1 36 6) (nI lo) (nI hi) = true ↔ lo ≤ t.2.1 ∧ t.2.1 ≤ hi := by
          rw [hv]
          unfold isB
          rw [decide_eq_true_iff, nI_ltI (by omega) (by omega), nI_ltI (by omega) (by omega)]
          omega
        unfold tkV
        rw [if_pos hk3]
        have := hin.mp (bI_1 c46)
        rw [if_neg (show ¬ (numR (.ok (t, c)) < lo ∨ hi < numR (.ok (t, c))) from fun q => by have q : t.2.1 < lo ∨ hi < t.2.1 := q; omega)]
        exact ⟨_, _, rfl, _, rfl, g13, m3, fun _ _ => hv⟩
      · skip
        refine Ex.aload_n (pc := 49) dX10_number_49 rfl rfl ?_
        refine Ex.iconst (pc := 50) (v := 4) dX10_number_50 rfl ?_
        refine Ex.aload_n (pc := 51) dX10_number_51 rfl rfl ?_
        refine Ex.getI (pc := 52) dX10_number_52 fX10_23 (sh36 _) ?_
        refine Ex.callV (pc := 55) (As := [.int 4, .int _]) (rest := []) dX10_number_55 cX10_230 (tm_stp (r := .ok (t, c)) (k := 4) m1 (by decide) (by decide) (RMs.at (r := .ok (t, c)) m1)) (sh36 _) rfl rfl (by decide) (Nat.le_refl _) (Nat.le_refl _) (Nat.le_of_ble_eq_true rfl) (Or.inl (fun r S' h => by obtain ⟨_, _, h, _⟩ := h; subst h; rfl)) (fun r S' hq _ _ => ?_)
        obtain ⟨I2, L2, rfl, rfl, g2, m2⟩ := hq
        have g12 := g1.tr g2
        have hbad : ¬ I2 36 8 = 0 := RMs.bad (e := (4, t.2.2.2.1)) m2
        refine Ex.aload_n (pc := 58) dX10_number_58 rfl rfl ?_
        refine Ex.getI (pc := 59) dX10_number_59 fX10_29 (sh36 _) ?_
        refine Ex.istore_n (pc := 62) (ls' := [some (.ref 36), some (.int _), some (.int _), some (.int _)]) dX10_number_62 rfl (by decide) rfl rfl ?_
        refine Ex.aload_n (pc := 63) dX10_number_63 rfl rfl ?_
        refine Ex.getI (pc := 64) dX10_number_64 fX10_36 (sh36 _) ?_
        refine Ex.if_ne (pc := 67) (tgt := 74) dX10_number_67 (by decide) (fun _ => ?_) (fun c67 => absurd c67 hbad)
        refine Ex.iload_n (pc := 74) dX10_number_74 rfl rfl ?_
        refine Ex.iret (pc := 75) rfl rfl rfl dX10_number_75 (Nat.le_refl _) (Nat.le_refl _) ?_
        have h3 : t.1 = 3 := (m1.k3 (k := 2) (by decide)).mp c18
        have hk3 : isK 3 (.ok (t, c) : Er) = true := decide_eq_true h3
        have hv := m1.2.1.2.2.2.2.2 (Or.inl h3)
        have hv4 := m1.2.2.1.2.2.2.2.2.2.1 h3
        have hin : isB (I1 36 6) (nI lo) (nI hi) = true ↔ lo ≤ t.2.1 ∧ t.2.1 ≤ hi := by
          rw [hv]
          unfold isB
          rw [decide_eq_true_iff, nI_ltI (by omega) (by omega), nI_ltI (by omega) (by omega)]
          omega
        unfold tkV
        rw [if_pos hk3]
        have hno : ¬ (lo ≤ t.2.1 ∧ t.2.1 ≤ hi) := fun q => by rw [hin.mpr q] at c46; cases c46
        rw [if_pos (show numR (.ok (t, c)) < lo ∨ hi < numR (.ok (t, c)) from by show t.2.1 < lo ∨ hi < t.2.1; omega)]
        exact ⟨_, _, rfl, _, rfl, g12, m2.t, fun s q => by cases q⟩
    · skip
      refine Ex.aload_n (pc := 21) dX10_number_21 rfl rfl ?_
      refine Ex.iconst (pc := 22) (v := 1) dX10_number_22 rfl ?_
      refine Ex.aload_n (pc := 23) dX10_number_23 rfl rfl ?_
      refine Ex.getI (pc := 24) dX10_number_24 fX10_23 (sh36 _) ?_
      refine Ex.callV (pc := 27) (As := [.int 1, .int _]) (rest := []) dX10_number_27 cX10_230 (tm_stp (r := .ok (t, c)) (k := 1) m1 (by decide) (by decide) (RMs.at (r := .ok (t, c)) m1)) (sh36 _) rfl rfl (by decide) (Nat.le_refl _) (Nat.le_refl _) (Nat.le_of_ble_eq_true rfl) (Or.inl (fun r S' h => by obtain ⟨_, _, h, _⟩ := h; subst h; rfl)) (fun r S' hq _ _ => ?_)
      obtain ⟨I2, L2, rfl, rfl, g2, m2⟩ := hq
      have g12 := g1.tr g2
      have hbad : ¬ I2 36 8 = 0 := RMs.bad (e := (1, t.2.2.2.1)) m2
      refine Ex.aload_n (pc := 30) dX10_number_30 rfl rfl ?_
      refine Ex.getI (pc := 31) dX10_number_31 fX10_36 (sh36 _) ?_
      refine Ex.if_ne (pc := 34) (tgt := 58) dX10_number_34 (by decide) (fun _ => ?_) (fun c34 => absurd c34 hbad)
      refine Ex.aload_n (pc := 58) dX10_number_58 rfl rfl ?_
      refine Ex.getI (pc := 59) dX10_number_59 fX10_29 (sh36 _) ?_
      refine Ex.istore_n (pc := 62) (ls' := [some (.ref 36), some (.int _), some (.int _), some (.int _)]) dX10_number_62 rfl (by decide) rfl rfl ?_
      refine Ex.aload_n (pc := 63) dX10_number_63 rfl rfl ?_
      refine Ex.getI (pc := 64) dX10_number_64 fX10_36 (sh36 _) ?_
      refine Ex.if_ne (pc := 67) (tgt := 74) dX10_number_67 (by decide) (fun _ => ?_) (fun c67 => absurd c67 hbad)
      refine Ex.iload_n (pc := 74) dX10_number_74 rfl rfl ?_
      refine Ex.iret (pc := 75) rfl rfl rfl dX10_number_75 (Nat.le_refl _) (Nat.le_refl _) ?_
      have h3 : ¬ t.1 = 3 := fun e => c18 ((m1.k3 (k := 2) (by decide)).mpr e)
      unfold tkV
      have hk3 : isK 3 (.ok (t, c) : Er) = false := decide_eq_false h3
      rw [if_neg (by rw [hk3]; decide)]
      exact ⟨_, _, rfl, _, rfl, g12, m2.t, fun s q => by cases q⟩
  · skip
    refine Ex.iconst (pc := 11) (v := 0) dX10_number_11 rfl ?_
    refine Ex.iret (pc := 12) rfl rfl rfl dX10_number_12 (Nat.le_refl _) (Nat.le_refl _) ?_
    obtain ⟨e, hr⟩ : ∃ e, r = .error e := by
      cases hr : r with
      | error e => exact ⟨e, rfl⟩
      | ok q => rw [hr] at m1; obtain ⟨t, c⟩ := q; exact absurd (show I1 36 8 ≤ 0 by rw [(show RMo tb n I1 L1 t from m1).1]; decide) c8
    subst hr
    exact ⟨_, _, rfl, _, rfl, g1, m1.t, fun s q => by cases q⟩
