theorem opF_ne {tb : Nat → Nat} {n sc : Nat} (f : Fr) (fs : List Fr) (o : Nat) (r : Er) : (opF tb n sc f fs o r).2.1 ≠ [] := by
  unfold opF opnF
  (repeat' split) <;> simp
set_option maxRecDepth 20000 in
theorem tm_operandE {N n b : Nat} {tb : Nat → Nat} {I : aI} {L : aL} {e : Nat × Nat} (hn : n ≤ 1600) (h : RMt tb n I L (.error e)) : Run 3 0 0 mX10_operand [.ref 36] (St N I L) (RX N (fun x I2 L2 => x = some (.int 1) ∧ RdF b I L I2 L2 ∧ RMs tb n I2 L2 (.error e))) := by
  refine Run.of (ls := [some (.ref 36), none, none, none]) (by decide) (Nat.le_of_ble_eq_true rfl) rfl ?_
  refine Ex.aload_n (pc := 0) dX10_operand_0 rfl rfl ?_
  refine Ex.callV (pc := 1) (As := []) (rest := []) dX10_operand_1 cX10_241 (tm_lexR (tb := tb) hn h) (sh36 _) rfl rfl (by decide) (Nat.le_refl _) (Nat.le_refl _) (Nat.le_of_ble_eq_true rfl) (Or.inl (fun r S' h => by obtain ⟨_, _, h, _⟩ := h; subst h; rfl)) (fun r S' hq _ _ => ?_)
  obtain ⟨I1, L1, rfl, rfl, g1, m1⟩ := hq
  have hle : ¬ I1 36 8 ≤ 0 := fun z => m1.bad (Int32.le_antisymm z (Int32.not_lt.mp m1.t.n8))
  refine Ex.aload_n (pc := 4) dX10_operand_4 rfl rfl ?_
  refine Ex.getI (pc := 5) dX10_operand_5 fX10_36 (sh36 _) ?_
  refine Ex.if_le (pc := 8) (tgt := 13) dX10_operand_8 (by decide) (fun c8 => absurd c8 hle) (fun _ => ?_)
  refine Ex.iconst (pc := 11) (v := 1) dX10_operand_11 rfl ?_
  refine Ex.iret (pc := 12) rfl rfl rfl dX10_operand_12 (Nat.le_refl _) (Nat.le_refl _) ?_
  exact ⟨_, _, rfl, rfl, g1.rd, m1⟩
set_option maxRecDepth 20000 in
theorem tm_goesOnE {N n b : Nat} {tb : Nat → Nat} {I : aI} {L : aL} {e : Nat × Nat} (hn : n ≤ 1600) (h : RMt tb n I L (.error e)) : Run 3 0 0 mX10_goesOn [.ref 36] (St N I L) (RX N (fun x I2 L2 => x = some (.int 0) ∧ RdF b I L I2 L2 ∧ RMs tb n I2 L2 (.error e))) := by
  refine Run.of (ls := [some (.ref 36), none, none, none, none]) (by decide) (Nat.le_of_ble_eq_true rfl) rfl ?_
  refine Ex.aload_n (pc := 0) dX10_goesOn_0 rfl rfl ?_
  refine Ex.callV (pc := 1) (As := []) (rest := []) dX10_goesOn_1 cX10_241 (tm_lexR (tb := tb) hn h) (sh36 _) rfl rfl (by decide) (Nat.le_refl _) (Nat.le_refl _) (Nat.le_of_ble_eq_true rfl) (Or.inl (fun r S' h => by obtain ⟨_, _, h, _⟩ := h; subst h; rfl)) (fun r S' hq _ _ => ?_)
  obtain ⟨I1, L1, rfl, rfl, g1, m1⟩ := hq
  have hle : ¬ I1 36 8 ≤ 0 := fun z => m1.bad (Int32.le_antisymm z (Int32.not_lt.mp m1.t.n8))
  refine Ex.aload_n (pc := 4) dX10_goesOn_4 rfl rfl ?_
  refine Ex.getI (pc := 5) dX10_goesOn_5 fX10_36 (sh36 _) ?_
  refine Ex.if_le (pc := 8) (tgt := 13) dX10_goesOn_8 (by decide) (fun c8 => absurd c8 hle) (fun _ => ?_)
  refine Ex.iconst (pc := 11) (v := 0) dX10_goesOn_11 rfl ?_
  refine Ex.iret (pc := 12) rfl rfl rfl dX10_goesOn_12 (Nat.le_refl _) (Nat.le_refl _) ?_
  exact ⟨_, _, rfl, rfl, g1.rd, m1⟩
def LpP (N n b : Nat) (tb : Nat → Nat) (I : aI) (L : aL) (R : Er) (x1 : Int32) (C : Cf) : Prop := Iv n C → ∀ (J : aI) (M : aL) (v : Bool), RdF b I L J M → RMt tb n J M C.2.2.2 → (∀ e, C.2.2.2 = .error e → v = decide (J 36 8 = 0)) → (∀ t c, C.2.2.2 = .ok (t, c) → (C.2.1 ≠ [] → v = true ∧ J 36 44 = bI C.1 ∧ FrM b J C.2.1 C.2.2.1 c) ∧ (C.2.1 = [] → v = false ∧ CdM J b c)) → Ex 4 0 0 mX10_reads 0 0 43 [some (.ref 36), some (.int x1), some (.int (bI v))] [] (St N J M) (RX N (fun x I2 L2 => x = none ∧ RdF b I L I2 L2 ∧ RMs tb n I2 L2 R ∧ ∀ t c, R = .ok (t, c) → CdM I2 b c ∧ c.length ≤ t.2.2.2.1))
set_option maxRecDepth 20000 in
theorem tm_rd0 {N n b : Nat} {tb : Nat → Nat} {I : aI} {L : aL} {R : Er} {x1 : Int32} {J : aI} {M : aL} (hF : RdF b I L J M) (hM : RMs tb n J M R) (hP : ∀ t c, R = .ok (t, c) → CdM J b c ∧ c.length ≤ t.2.2.2.1) : Ex 4 0 0 mX10_reads 0 0 43 [some (.ref 36), some (.int x1), some (.int 0)] [] (St N J M) (RX N (fun x I2 L2 => x = none ∧ RdF b I L I2 L2 ∧ RMs tb n I2 L2 R ∧ ∀ t c, R = .ok (t, c) → CdM I2 b c ∧ c.length ≤ t.2.2.2.1)) := by
  refine Ex.iload_n (pc := 43) dX10_reads_43 rfl rfl ?_
  refine Ex.if_eq (pc := 44) (tgt := 90) dX10_reads_44 (by decide) (fun _ => ?_) (fun c44 => absurd rfl c44)
  refine Ex.vret (pc := 90) rfl dX10_reads_90 (Nat.le_refl _) (Nat.le_refl _) ?_
  exact ⟨_, _, rfl, rfl, hF, hM, hP⟩
set_option maxRecDepth 20000 in
theorem tm_rdE {N n b : Nat} {tb : Nat → Nat} {I : aI} {L : aL} {R : Er} {x1 : Int32} {J : aI} {M : aL} {v : Bool} {e : Nat × Nat} (hn : n ≤ 1600) (hR : R = .error e) (hF : RdF b I L J M) (hM : RMt tb n J M (.error e)) (hv : v = decide (J 36 8 = 0)) : Ex 4 0 0 mX10_reads 0 0 43 [some (.ref 36), some (.int x1), some (.int (bI v))] [] (St N J M) (RX N (fun x I2 L2 => x = none ∧ RdF b I L I2 L2 ∧ RMs tb n I2 L2 R ∧ ∀ t c, R = .ok (t, c) → CdM I2 b c ∧ c.length ≤ t.2.2.2.1)) := by
  have hP : ∀ {I2 : aI}, ∀ t c, R = .ok (t, c) → CdM I2 b c ∧ c.length ≤ t.2.2.2.1 := fun {I2} t c q => by rw [hR] at q; cases q
  by_cases h8 : J 36 8 = 0
  · have hv1 : v = true := hv.trans (decide_eq_true h8)
    subst hv1
    refine Ex.iload_n (pc := 43) dX10_reads_43 rfl rfl ?_
    refine Ex.if_eq (pc := 44) (tgt := 90) dX10_reads_44 (by decide) (fun c44 => absurd c44 (by decide)) (fun _ => ?_)
    refine Ex.aload_n (pc := 47) dX10_reads_47 rfl rfl ?_
    refine Ex.getI (pc := 48) dX10_reads_48 fX10_146 (sh36 _) ?_
    refine Ex.if_ne (pc := 51) (tgt := 65) dX10_reads_51 (by decide) (fun c51 => ?_) (fun c51 => ?_)
    · skip
      refine Ex.aload_n (pc := 65) dX10_reads_65 rfl rfl ?_
      refine Ex.callV (pc := 66) (As := []) (rest := []) dX10_reads_66 cX10_344 (tm_goesOnE (b := b) hn hM) (sh36 _) rfl rfl (by decide) (Nat.le_refl _) (Nat.le_refl _) (Nat.le_of_ble_eq_true rfl) (Or.inl (fun r S' h => by obtain ⟨_, _, h, _⟩ := h; subst h; rfl)) (fun r S' hq _ _ => ?_)
      obtain ⟨I2, L2, rfl, rfl, g2, m2⟩ := hq
      refine Ex.istore_n (pc := 69) (ls' := [some (.ref 36), some (.int _), some (.int _)]) dX10_reads_69 rfl (by decide) rfl rfl ?_
      refine Ex.iload_n (pc := 70) dX10_reads_70 rfl rfl ?_
      refine Ex.if_eq (pc := 71) (tgt := 85) dX10_reads_71 (by decide) (fun _ => ?_) (fun c71 => absurd rfl c71)
      refine Ex.iconst (pc := 85) (v := 0) dX10_reads_85 rfl ?_
      refine Ex.istore_n (pc := 86) (ls' := [some (.ref 36), some (.int _), some (.int 0)]) dX10_reads_86 rfl (by decide) rfl rfl ?_
      refine Ex.goto (pc := 87) (tgt := 43) dX10_reads_87 (by decide) ?_
      exact tm_rd0 (hF.tr g2) (by rw [hR]; exact m2) hP
    · skip
      refine Ex.aload_n (pc := 54) dX10_reads_54 rfl rfl ?_
      refine Ex.aload_n (pc := 55) dX10_reads_55 rfl rfl ?_
      refine Ex.callV (pc := 56) (As := []) (rest := [.ref 36]) dX10_reads_56 cX10_341 (tm_operandE (b := b) hn hM) (sh36 _) rfl rfl (by decide) (Nat.le_refl _) (Nat.le_refl _) (Nat.le_of_ble_eq_true rfl) (Or.inl (fun r S' h => by obtain ⟨_, _, h, _⟩ := h; subst h; rfl)) (fun r S' hq _ _ => ?_)
      obtain ⟨I2, L2, rfl, rfl, g2, m2⟩ := hq
      refine Ex.putI (pc := 59) dX10_reads_59 fX10_146 (sh36 _) (Or.inl rfl) ⟨rfl, rfl⟩ ?_
      refine Ex.mm (S' := St N (mf I2 44 1) L2) rfl ?_
      have m3 : RMs tb n (mf I2 44 1) L2 (.error e) := ⟨m2.1, m2.2.1, m2.2.2.1, by rw [mf_n (by decide)]; exact m2.2.2.2.1, by rw [mf_n (by decide)]; exact m2.2.2.2.2⟩
      refine Ex.goto (pc := 62) (tgt := 70) dX10_reads_62 (by decide) ?_
      refine Ex.iload_n (pc := 70) dX10_reads_70 rfl rfl ?_
      refine Ex.if_eq (pc := 71) (tgt := 85) dX10_reads_71 (by decide) (fun c71 => absurd c71 (by decide)) (fun _ => ?_)
      refine Ex.aload_n (pc := 74) dX10_reads_74 rfl rfl ?_
      refine Ex.getI (pc := 75) dX10_reads_75 fX10_36 (sh36 _) ?_
      refine Ex.if_ne (pc := 78) (tgt := 85) dX10_reads_78 (by decide) (fun _ => ?_) (fun c78 => absurd c78 m3.bad)
      refine Ex.iconst (pc := 85) (v := 0) dX10_reads_85 rfl ?_
      refine Ex.istore_n (pc := 86) (ls' := [some (.ref 36), some (.int _), some (.int 0)]) dX10_reads_86 rfl (by decide) rfl rfl ?_
      refine Ex.goto (pc := 87) (tgt := 43) dX10_reads_87 (by decide) ?_
      exact tm_rd0 (hF.tr (g2.tr (UF.rd (uf_m (by decide))))) (by rw [hR]; exact m3) hP
  · have hv0 : v = false := hv.trans (decide_eq_false h8)
    subst hv0
    refine tm_rd0 hF ?_ hP
    rw [hR]
    rcases hM with q | q
    · exact q
    · exact absurd q.1 h8
set_option maxRecDepth 20000 in
theorem tm_rdO {N n b : Nat} {tb : Nat → Nat} {I : aI} {L : aL} {R : Er} {x1 : Int32} {w : Nat} (hb : b < 2) (hw : w < 5) (hB : MB tb n I) (h33 : I 36 33 = nI b) (h34 : I 36 34 = nI w) (f : Fr) (fs : List Fr) (o : Nat) (r : Er) (h : LpP N n b tb I L R x1 (opF tb n (9 + w) f fs o r)) : LpP N n b tb I L R x1 (false, f :: fs, o, r) := by
  intro hi J M v hF hM he hO
  rcases r with e | ⟨t, c⟩
  · obtain ⟨b', fs', o', q⟩ := opF_e (tb := tb) (n := n) (sc := 9 + w) f fs o e
    rw [q] at h
    exact h (fun t c z => by cases z) J M v hF hM he (fun t c z => by cases z)
  have hiv := iv_op (sc := 9 + w) (fun i hi => (hB.1 i hi).1) hi
  obtain ⟨rfl, q44, hfr⟩ := (hO t c rfl).1 (by simp)
  have q44 : J 36 44 = 0 := q44
  have hfr : FrM b J (f :: fs) o c := hfr
  have hne := opF_ne (tb := tb) (n := n) (sc := 9 + w) f fs o (.ok (t, c))
  refine Ex.iload_n (pc := 43) dX10_reads_43 rfl rfl ?_
  refine Ex.if_eq (pc := 44) (tgt := 90) dX10_reads_44 (by decide) (fun c44 => absurd c44 (by decide)) (fun _ => ?_)
  refine Ex.aload_n (pc := 47) dX10_reads_47 rfl rfl ?_
  refine Ex.getI (pc := 48) dX10_reads_48 fX10_146 (sh36 _) ?_
  refine Ex.if_ne (pc := 51) (tgt := 65) dX10_reads_51 (by decide) (fun c51 => absurd q44 c51) (fun _ => ?_)
  refine Ex.aload_n (pc := 54) dX10_reads_54 rfl rfl ?_
  refine Ex.aload_n (pc := 55) dX10_reads_55 rfl rfl ?_
  refine Ex.callV (pc := 56) (As := []) (rest := [.ref 36]) dX10_reads_56 cX10_341 (tm_operand (f := f) (fs := fs) (o := o) (r := .ok (t, c)) hb hw (hB.r hF) (by rw [hF.2.1 33 (by decide)]; exact h33) (by rw [hF.2.1 34 (by decide)]; exact h34) ⟨hM, fun t2 c2 z => by cases z; exact hfr⟩ hi) (sh36 _) rfl rfl (by decide) (Nat.le_refl _) (Nat.le_refl _) (Nat.le_of_ble_eq_true rfl) (Or.inl (fun r S' h => by obtain ⟨_, _, h, _⟩ := h; subst h; rfl)) (fun r S' hq _ _ => ?_)
  obtain ⟨I2, L2, rfl, v2, rfl, g2, m2, k2⟩ := hq
  refine Ex.putI (pc := 59) dX10_reads_59 fX10_146 (sh36 _) (Or.inl rfl) (by cases v2 <;> exact ⟨rfl, rfl⟩) ?_
  refine Ex.mm (S' := St N (mf I2 44 (bI v2)) L2) (by cases v2 <;> rfl) ?_
  have u3 : UF b I2 (mf I2 44 (bI v2)) := uf_m (by decide)
  have e8 : mf I2 44 (bI v2) 36 8 = I2 36 8 := mf_n (by decide)
  refine Ex.goto (pc := 62) (tgt := 70) dX10_reads_62 (by decide) ?_
  refine Ex.iload_n (pc := 70) dX10_reads_70 rfl rfl ?_
  refine Ex.if_eq (pc := 71) (tgt := 85) dX10_reads_71 (by decide) (fun c71 => absurd c71 (by decide)) (fun _ => ?_)
  refine Ex.aload_n (pc := 74) dX10_reads_74 rfl rfl ?_
  refine Ex.getI (pc := 75) dX10_reads_75 fX10_36 (sh36 _) ?_
  refine Ex.if_ne (pc := 78) (tgt := 85) dX10_reads_78 (by decide) (fun c78 => ?_) (fun c78 => ?_)
  · skip
    refine Ex.iconst (pc := 85) (v := 0) dX10_reads_85 rfl ?_
    refine Ex.istore_n (pc := 86) (ls' := [some (.ref 36), some (.int _), some (.int 0)]) dX10_reads_86 rfl (by decide) rfl rfl ?_
    refine Ex.goto (pc := 87) (tgt := 43) dX10_reads_87 (by decide) ?_
    refine h hiv (mf I2 44 (bI v2)) L2 false (hF.tr (g2.tr u3.rd)) (m2.u u3) (fun e _ => ?_) (fun t2 c2 z => ⟨fun _ => ?_, fun z2 => absurd z2 hne⟩)
    · rw [decide_eq_false c78]
    · have m2 := m2
      rw [z] at m2
      exact absurd (e8.trans (show RMo tb n I2 L2 t2 from m2).1) c78
  · skip
    refine Ex.iconst (pc := 81) (v := 1) dX10_reads_81 rfl ?_
    refine Ex.goto (pc := 82) (tgt := 86) dX10_reads_82 (by decide) ?_
    refine Ex.istore_n (pc := 86) (ls' := [some (.ref 36), some (.int _), some (.int 1)]) dX10_reads_86 rfl (by decide) rfl rfl ?_
    refine Ex.goto (pc := 87) (tgt := 43) dX10_reads_87 (by decide) ?_
    refine h hiv (mf I2 44 (bI v2)) L2 true (hF.tr (g2.tr u3.rd)) (m2.u u3) (fun e _ => ?_) (fun t2 c2 z => ⟨fun _ => ?_, fun z2 => absurd z2 hne⟩)
    · rw [decide_eq_true c78]
    · obtain ⟨k3, k4⟩ := k2 t2 c2 z
      exact ⟨rfl, by rw [mf_s, k3], k4.nop _⟩
set_option maxRecDepth 20000 in
theorem tm_rdG {N n b : Nat} {tb : Nat → Nat} {I : aI} {L : aL} {R : Er} {x1 : Int32} {w : Nat} (hb : b < 2) (hB : MB tb n I) (h33 : I 36 33 = nI b) (h34 : I 36 34 = nI w) (f : Fr) (fs : List Fr) (o : Nat) (r : Er) (h : LpP N n b tb I L R x1 (gnF tb n f fs o r)) : LpP N n b tb I L R x1 (true, f :: fs, o, r) := by
  intro hi J M v hF hM he hO
  rcases r with e | ⟨t, c⟩
  · obtain ⟨b', fs', o', q⟩ := gnF_e (tb := tb) (n := n) f fs o e
    rw [q] at h
    exact h (fun t c z => by cases z) J M v hF hM he (fun t c z => by cases z)
  have hiv := iv_gn (fun i hi => (hB.1 i hi).1) hi
  obtain ⟨rfl, q44, hfr⟩ := (hO t c rfl).1 (by simp)
  have q44 : J 36 44 = 1 := q44
  have hfr : FrM b J (f :: fs) o c := hfr
  refine Ex.iload_n (pc := 43) dX10_reads_43 rfl rfl ?_
  refine Ex.if_eq (pc := 44) (tgt := 90) dX10_reads_44 (by decide) (fun c44 => absurd c44 (by decide)) (fun _ => ?_)
  refine Ex.aload_n (pc := 47) dX10_reads_47 rfl rfl ?_
  refine Ex.getI (pc := 48) dX10_reads_48 fX10_146 (sh36 _) ?_
  refine Ex.if_ne (pc := 51) (tgt := 65) dX10_reads_51 (by decide) (fun _ => ?_) (fun c51 => absurd c51 (by rw [q44]; decide))
  refine Ex.aload_n (pc := 65) dX10_reads_65 rfl rfl ?_
  refine Ex.callV (pc := 66) (As := []) (rest := []) dX10_reads_66 cX10_344 (tm_goesOn (w := w) (f := f) (fs := fs) (o := o) (r := .ok (t, c)) hb (hB.r hF) (by rw [hF.2.1 33 (by decide)]; exact h33) (by rw [hF.2.1 34 (by decide)]; exact h34) ⟨hM, fun t2 c2 z => by cases z; exact hfr⟩ hi (fun _ _ _ => q44)) (sh36 _) rfl rfl (by decide) (Nat.le_refl _) (Nat.le_refl _) (Nat.le_of_ble_eq_true rfl) (Or.inl (fun r S' h => by obtain ⟨_, _, h, _⟩ := h; subst h; rfl)) (fun r S' hq _ _ => ?_)
  obtain ⟨I2, L2, rfl, v2, rfl, g2, m2, e2, k2⟩ := hq
  refine Ex.istore_n (pc := 69) (ls' := [some (.ref 36), some (.int _), some (.int _)]) dX10_reads_69 rfl (by decide) rfl rfl ?_
  refine Ex.iload_n (pc := 70) dX10_reads_70 rfl rfl ?_
  refine Ex.if_eq (pc := 71) (tgt := 85) dX10_reads_71 (by decide) (fun c71 => ?_) (fun c71 => ?_)
  · skip
    refine Ex.iconst (pc := 85) (v := 0) dX10_reads_85 rfl ?_
    refine Ex.istore_n (pc := 86) (ls' := [some (.ref 36), some (.int _), some (.int 0)]) dX10_reads_86 rfl (by decide) rfl rfl ?_
    refine Ex.goto (pc := 87) (tgt := 43) dX10_reads_87 (by decide) ?_
    refine h hiv I2 L2 false (hF.tr g2) m2 (fun e z => ?_) (fun t2 c2 z => ?_)
    · have v0 := bI_0 c71
      rcases e2 e z with q | q
      · rw [v0] at q; cases q
      · rw [decide_eq_false q]
    · have v0 := bI_0 c71
      refine ⟨fun y => ?_, fun y => ⟨rfl, ((k2 t2 c2 z).2 y).2⟩⟩
      have := ((k2 t2 c2 z).1 y).1
      rw [v0] at this; cases this
  · skip
    refine Ex.aload_n (pc := 74) dX10_reads_74 rfl rfl ?_
    refine Ex.getI (pc := 75) dX10_reads_75 fX10_36 (sh36 _) ?_
    refine Ex.if_ne (pc := 78) (tgt := 85) dX10_reads_78 (by decide) (fun c78 => ?_) (fun c78 => ?_)
    · skip
      refine Ex.iconst (pc := 85) (v := 0) dX10_reads_85 rfl ?_
      refine Ex.istore_n (pc := 86) (ls' := [some (.ref 36), some (.int _), some (.int 0)]) dX10_reads_86 rfl (by decide) rfl rfl ?_
      refine Ex.goto (pc := 87) (tgt := 43) dX10_reads_87 (by decide) ?_
      refine h hiv I2 L2 false (hF.tr g2) m2 (fun e z => ?_) (fun t2 c2 z => ?_)
      · rw [decide_eq_false c78]
      · have m2 := m2
        rw [z] at m2
        exact absurd (show RMo tb n I2 L2 t2 from m2).1 c78
    · skip
      refine Ex.iconst (pc := 81) (v := 1) dX10_reads_81 rfl ?_
      refine Ex.goto (pc := 82) (tgt := 86) dX10_reads_82 (by decide) ?_
      refine Ex.istore_n (pc := 86) (ls' := [some (.ref 36), some (.int _), some (.int 1)]) dX10_reads_86 rfl (by decide) rfl rfl ?_
      refine Ex.goto (pc := 87) (tgt := 43) dX10_reads_87 (by decide) ?_
      refine h hiv I2 L2 true (hF.tr g2) m2 (fun e z => ?_) (fun t2 c2 z => ?_)
      · rw [decide_eq_true c78]
      · have v1 := bI_1 c71
        refine ⟨fun y => ⟨rfl, ((k2 t2 c2 z).1 y).2⟩, fun y => ?_⟩
        have := ((k2 t2 c2 z).2 y).1
        rw [v1] at this; cases this
set_option maxRecDepth 20000 in
theorem tm_reads {N n b w : Nat} {tb : Nat → Nat} {I : aI} {L : aL} {r : Er} {q : Bool} (hb : b < 2) (hw : w < 5) (hB : MB tb n I) (h33 : I 36 33 = nI b) (h34 : I 36 34 = nI w) (h8 : I 36 8 = 0) (hM : RMt tb n I L r) (hC : ∀ t c, r = .ok (t, c) → CdM I b c ∧ c.length ≤ t.2.2.2.1) : Run 4 0 0 mX10_reads [.ref 36, .int (bI q)] (St N I L) (RX N (fun x I2 L2 => x = none ∧ RdF b I L I2 L2 ∧ RMs tb n I2 L2 (if q = true then (lvl tb n (9 + w) 7).2.1 r else (lvl tb n (9 + w) 7).1 r) ∧ ∀ t c, (if q = true then (lvl tb n (9 + w) 7).2.1 r else (lvl tb n (9 + w) 7).1 r) = .ok (t, c) → CdM I2 b c ∧ c.length ≤ t.2.2.2.1)) := by
  refine Run.of (ls := [some (.ref 36), some (.int _), none]) (by decide) (Nat.le_of_ble_eq_true rfl) rfl ?_
  have hbt : ∀ i, i < n → tb i < 256 := fun i hi => (hB.1 i hi).1
  have hr : TkR n r := by
    rcases r with e | ⟨t, c⟩
    · trivial
    · exact (show RMo tb n I L t from hM).2.2.1
  obtain ⟨R, hR⟩ : ∃ R, R = (if q = true then (lvl tb n (9 + w) 7).2.1 r else (lvl tb n (9 + w) 7).1 r) := ⟨_, rfl⟩
  have hgo := go_rule (sc := 9 + w) hbt q 0 r hr
  rw [← hR] at hgo ⊢
  refine Ex.aload_n (pc := 0) dX10_reads_0 rfl rfl ?_
  refine Ex.getI (pc := 1) dX10_reads_1 fX10_36 (sh36 _) ?_
  refine Ex.if_le (pc := 4) (tgt := 8) dX10_reads_4 (by decide) (fun _ => ?_) (fun c4 => absurd (by rw [h8]; decide) c4)
  refine Ex.aload_n (pc := 8) dX10_reads_8 rfl rfl ?_
  refine Ex.iconst (pc := 9) (v := 0) dX10_reads_9 rfl ?_
  refine Ex.putI (pc := 10) dX10_reads_10 fX10_134 (sh36 _) (Or.inl rfl) ⟨rfl, rfl⟩ ?_
  refine Ex.aload_n (pc := 13) dX10_reads_13 rfl rfl ?_
  refine Ex.iconst (pc := 14) (v := 0) dX10_reads_14 rfl ?_
  refine Ex.putI (pc := 15) dX10_reads_15 fX10_137 (sh36 _) (Or.inl rfl) ⟨rfl, rfl⟩ ?_
  refine Ex.aload_n (pc := 18) dX10_reads_18 rfl rfl ?_
  refine Ex.iconst (pc := 19) (v := 0) dX10_reads_19 rfl ?_
  refine Ex.putI (pc := 20) dX10_reads_20 fX10_143 (sh36 _) (Or.inl rfl) ⟨rfl, rfl⟩ ?_
  refine Ex.aload_n (pc := 23) dX10_reads_23 rfl rfl ?_
  refine Ex.iconst (pc := 24) (v := 0) dX10_reads_24 rfl ?_
  refine Ex.putI (pc := 25) dX10_reads_25 fX10_146 (sh36 _) (Or.inl rfl) ⟨rfl, rfl⟩ ?_
  obtain ⟨J, hJ⟩ : ∃ J, J = mf (mf (mf (mf I 40 0) 41 0) 43 0) 44 0 := ⟨_, rfl⟩
  refine Ex.mm (S' := St N J L) (by rw [hJ]; rfl) ?_
  have uJ : UF b I J := by rw [hJ]; exact (((uf_m (by decide)).tr (uf_m (by decide))).tr (uf_m (by decide))).tr (uf_m (by decide))
  have j40 : J 36 40 = nI 0 := by rw [hJ, mf_n (by decide), mf_n (by decide), mf_n (by decide), mf_s]; rfl
  have j41 : J 36 41 = nI 0 := by rw [hJ, mf_n (by decide), mf_n (by decide), mf_s]; rfl
  have j43 : J 36 43 = nI 0 := by rw [hJ, mf_n (by decide), mf_s]; rfl
  have j44 : J 36 44 = 0 := by rw [hJ, mf_s]
  have jC : ∀ c, CdM I b c → CdM J b c := fun c h => by rw [hJ]; exact ⟨by rw [mf_n (by decide), mf_n (by decide), mf_n (by decide), mf_n (by decide)]; exact h.1, fun j s z => by rw [mf_o (by decide), mf_o (by decide), mf_o (by decide), mf_o (by decide), mf_o (by decide), mf_o (by decide), mf_o (by decide), mf_o (by decide)]; exact h.2 j s z⟩
  clear hJ
  refine Ex.aload_n (pc := 28) dX10_reads_28 rfl rfl ?_
  refine Ex.iload_n (pc := 29) dX10_reads_29 rfl rfl ?_
  refine Ex.if_eq (pc := 30) (tgt := 37) dX10_reads_30 (by decide) (fun c30 => ?_) (fun c30 => ?_)
  · skip
    refine Ex.iconst (pc := 37) (v := 0) dX10_reads_37 rfl ?_
    refine Ex.callV (pc := 38) (As := [.int 0]) (rest := []) dX10_reads_38 cX10_322 (tm_pushes (d := 0) (k := nI 0) (by decide) j40) (sh36 _) rfl rfl (by decide) (Nat.le_refl _) (Nat.le_refl _) (Nat.le_of_ble_eq_true rfl) (Or.inl (fun r S' h => by obtain ⟨_, h⟩ := h; subst h; rfl)) (fun r S' hq _ _ => ?_)
    obtain ⟨rfl, rfl⟩ := hq
    have hq0 := bI_0 c30
    refine Ex.mm (S' := St N (puM J 0 (nI (if q = true then 1 else 0))) L) (by rw [hq0]; rfl) ?_
    refine Ex.iconst (pc := 41) (v := 1) dX10_reads_41 rfl ?_
    refine Ex.istore_n (pc := 42) (ls' := [some (.ref 36), some (.int _), some (.int 1)]) dX10_reads_42 rfl (by decide) rfl rfl ?_
    skip
    refine hgo (LpP N n b tb I L R (bI q)) (fun b2 fs o e hRe _ J2 M2 v hF hM2 he _ => tm_rdE hB.2.2 hRe hF hM2 (he e rfl)) ?_ (fun f fs o r2 h => tm_rdO hb hw hB h33 h34 f fs o r2 h) (fun f fs o r2 h => tm_rdG hb hB h33 h34 f fs o r2 h) ?_ (puM J 0 (nI (if q = true then 1 else 0))) L true (uJ.tr uf_pu).rd (hM.u (uJ.tr uf_pu)) (fun e _ => ?_) (fun t c z => ⟨fun _ => ⟨rfl, ?_, ?_⟩, fun y => by cases y⟩)
    · intro o hi2 J2 M2 v hF hM2 he hO2
      rcases R with e | ⟨t, c⟩
      · exact tm_rdE hB.2.2 rfl hF hM2 (he e rfl)
      · obtain ⟨rfl, hcd⟩ := (hO2 t c rfl).2 rfl
        have hi3 := (hi2 t c rfl).2.1
        exact tm_rd0 hF hM2 (fun t2 c2 z => by cases z; exact ⟨hcd, by have hi3 : c.length + 0 + 0 ≤ t.2.2.2.1 := hi3; omega⟩)
    · intro t c z
      subst z
      have hcl := (hC t c rfl).2
      refine ⟨hr, by show c.length + (0 + 0) + (0 + prF (if q = true then 1 else 0)) ≤ t.2.2.2.1; rw [show prF (if q = true then 1 else 0) = 0 from by cases q <;> rfl]; omega, ⟨⟨⟨List.Pairwise.nil, fun x hx => by cases hx⟩, fun _ x hx => (by cases hx), fun _ _ x hx => (by cases hx), Nat.zero_le _, by show (if q = true then 1 else 0) ≤ 6; split <;> decide, fun y => absurd y (by cases q <;> decide)⟩, fun _ => (by show (if q = true then 1 else 0) < 2; split <;> decide), fun y => absurd rfl y, trivial, fun g hg => by cases hg⟩, fun y => (by cases y), fun _ => ⟨rfl, Nat.zero_le _⟩⟩
    · rw [show puM J 0 (nI (if q = true then 1 else 0)) 36 8 = 0 from by rw [uf_pu (b := b).2.1 8 (by decide), uJ.2.1 8 (by decide)]; exact h8]; rfl
    · show puM J 0 (nI (if q = true then 1 else 0)) 36 44 = 0
      unfold puM; rw [mf_n (by decide), va_up_n (by decide), va_up_n (by decide), va_up_n (by decide), va_up_n (by decide)]; exact j44
    · have z2 : r = .ok (t, c) := z
      refine FrM.pu (fs := []) (I := J) ⟨jC c (hC t c z2).1, j40, j41, j43, trivial⟩ (fun a _ => rfl) (fun j hj => absurd hj (Nat.not_lt_zero _)) (fun y => absurd y (by cases q <;> decide))
  · skip
    refine Ex.iconst (pc := 33) (v := 1) dX10_reads_33 rfl ?_
    refine Ex.goto (pc := 34) (tgt := 38) dX10_reads_34 (by decide) ?_
    refine Ex.callV (pc := 38) (As := [.int 1]) (rest := []) dX10_reads_38 cX10_322 (tm_pushes (d := 0) (k := nI 1) (by decide) j40) (sh36 _) rfl rfl (by decide) (Nat.le_refl _) (Nat.le_refl _) (Nat.le_of_ble_eq_true rfl) (Or.inl (fun r S' h => by obtain ⟨_, h⟩ := h; subst h; rfl)) (fun r S' hq _ _ => ?_)
    obtain ⟨rfl, rfl⟩ := hq
    have hq1 := bI_1 c30
    refine Ex.mm (S' := St N (puM J 0 (nI (if q = true then 1 else 0))) L) (by rw [hq1]; rfl) ?_
    refine Ex.iconst (pc := 41) (v := 1) dX10_reads_41 rfl ?_
    refine Ex.istore_n (pc := 42) (ls' := [some (.ref 36), some (.int _), some (.int 1)]) dX10_reads_42 rfl (by decide) rfl rfl ?_
    skip
    refine hgo (LpP N n b tb I L R (bI q)) (fun b2 fs o e hRe _ J2 M2 v hF hM2 he _ => tm_rdE hB.2.2 hRe hF hM2 (he e rfl)) ?_ (fun f fs o r2 h => tm_rdO hb hw hB h33 h34 f fs o r2 h) (fun f fs o r2 h => tm_rdG hb hB h33 h34 f fs o r2 h) ?_ (puM J 0 (nI (if q = true then 1 else 0))) L true (uJ.tr uf_pu).rd (hM.u (uJ.tr uf_pu)) (fun e _ => ?_) (fun t c z => ⟨fun _ => ⟨rfl, ?_, ?_⟩, fun y => by cases y⟩)
    · intro o hi2 J2 M2 v hF hM2 he hO2
      rcases R with e | ⟨t, c⟩
      · exact tm_rdE hB.2.2 rfl hF hM2 (he e rfl)
      · obtain ⟨rfl, hcd⟩ := (hO2 t c rfl).2 rfl
        have hi3 := (hi2 t c rfl).2.1
        exact tm_rd0 hF hM2 (fun t2 c2 z => by cases z; exact ⟨hcd, by have hi3 : c.length + 0 + 0 ≤ t.2.2.2.1 := hi3; omega⟩)
    · intro t c z
      subst z
      have hcl := (hC t c rfl).2
      refine ⟨hr, by show c.length + (0 + 0) + (0 + prF (if q = true then 1 else 0)) ≤ t.2.2.2.1; rw [show prF (if q = true then 1 else 0) = 0 from by cases q <;> rfl]; omega, ⟨⟨⟨List.Pairwise.nil, fun x hx => by cases hx⟩, fun _ x hx => (by cases hx), fun _ _ x hx => (by cases hx), Nat.zero_le _, by show (if q = true then 1 else 0) ≤ 6; split <;> decide, fun y => absurd y (by cases q <;> decide)⟩, fun _ => (by show (if q = true then 1 else 0) < 2; split <;> decide), fun y => absurd rfl y, trivial, fun g hg => by cases hg⟩, fun y => (by cases y), fun _ => ⟨rfl, Nat.zero_le _⟩⟩
    · rw [show puM J 0 (nI (if q = true then 1 else 0)) 36 8 = 0 from by rw [uf_pu (b := b).2.1 8 (by decide), uJ.2.1 8 (by decide)]; exact h8]; rfl
    · show puM J 0 (nI (if q = true then 1 else 0)) 36 44 = 0
      unfold puM; rw [mf_n (by decide), va_up_n (by decide), va_up_n (by decide), va_up_n (by decide), va_up_n (by decide)]; exact j44
    · have z2 : r = .ok (t, c) := z
      refine FrM.pu (fs := []) (I := J) ⟨jC c (hC t c z2).1, j40, j41, j43, trivial⟩ (fun a _ => rfl) (fun j hj => absurd hj (Nat.not_lt_zero _)) (fun y => absurd y (by cases q <;> decide))
