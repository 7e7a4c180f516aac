set_option maxRecDepth 20000 in
theorem tm_boarding {N n b : Nat} {tb : Nat → Nat} {I0 I : aI} {L0 L : aL} {t : Tk} {c : Cd} {pl : Pl} (hb : b < 2) (h : Ps tb n b I0 L0 I L (.ok (t, c)) pl) : Run 3 0 0 mX10_boarding [.ref 36] (St N I L) (RX N (fun x I2 L2 => x = none ∧ (fullB pl 0 = true → Ps tb n b I0 L0 I2 L2 (.error (6, t.2.2.2.1)) pl) ∧ (fullB pl 0 = false → Ps tb n b I0 L0 I2 L2 (thR tb n 0 1 9 pl (nx tb n (.ok (t, c)))).2.2 (plT pl 0 (letR (nx tb n (.ok (t, c)))) (numR (thR tb n 0 1 9 pl (nx tb n (.ok (t, c)))).1) (numR (thR tb n 0 1 9 pl (nx tb n (.ok (t, c)))).2.1))))) := by
  refine Run.of (ls := [some (.ref 36), none]) (by decide) (Nat.le_of_ble_eq_true rfl) rfl ?_
  obtain ⟨hO0, hB, h33, hM, hPC⟩ := h
  obtain ⟨hPl, hCd, hcl⟩ := hPC t c rfl
  have hM : RMo tb n I L t := hM
  have hbt : ∀ i, i < n → tb i < 256 := fun i hi => (hB.1 i hi).1
  obtain ⟨n1, n2, n3⟩ := hPl.1 0 (by decide)
  have n1 : pl.1 0 ≤ 5 := n1
  have n2 : I 38 b = nI (pl.1 0) := n2
  obtain ⟨k, hk⟩ : ∃ k, k = pl.1 0 := ⟨_, rfl⟩
  rw [← hk] at n1 n2
  have hfull : fullB pl 0 = decide (5 ≤ k) := by rw [hk]; rfl
  refine Ex.aload_n (pc := 0) dX10_boarding_0 rfl rfl ?_
  refine Ex.aload_n (pc := 1) dX10_boarding_1 rfl rfl ?_
  refine Ex.getR (pc := 2) dX10_boarding_2 fX10_54 (sh36 _) r36_14 ?_
  refine Ex.aload_n (pc := 5) dX10_boarding_5 rfl rfl ?_
  refine Ex.getI (pc := 6) dX10_boarding_6 fX10_112 (sh36 _) ?_
  refine Ex.iald (pc := 9) (j := b) dX10_boarding_9 (sh38 _) (by rw [h33]; exact vp_in_nI (by omega) (by decide)) (by rw [h33]; exact nI_clamp (by omega)) ?_
  refine Ex.iconst (pc := 10) (v := 5) dX10_boarding_10 rfl ?_
  refine Ex.icmp_ne (pc := 11) (tgt := 18) dX10_boarding_11 (by decide) (fun c11 => ?_) (fun c11 => ?_)
  · skip
    refine Ex.iconst (pc := 18) (v := 0) dX10_boarding_18 rfl ?_
    refine Ex.callV (pc := 19) (As := [.int 0]) (rest := []) dX10_boarding_19 cX10_354 (tm_counts0 (tb := tb) (n := n) (c := c) hB hM) (sh36 _) rfl rfl (by decide) (Nat.le_refl _) (Nat.le_refl _) (Nat.le_of_ble_eq_true rfl) (Or.inl (fun r S' h => by obtain ⟨_, _, h, _⟩ := h; subst h; rfl)) (fun r S' hq _ _ => ?_)
    obtain ⟨I3, L3, rfl, rfl, g3, m3, z3⟩ := hq
    refine Ex.if_ne (pc := 22) (tgt := 26) dX10_boarding_22 (by decide) (fun _ => ?_) (fun c22 => absurd c22 (by decide))
    have hkw : k < 5 := by
      refine Nat.lt_of_le_of_ne n1 (fun e => c11 ?_)
      rw [n2, e]; rfl
    have e333 : I3 36 33 = nI b := by rw [g3.2.1 33 (by decide)]; exact h33
    have e383 : I3 38 b = nI k := by rw [g3.1 38 (by decide)]; exact n2
    have ek : 5 * nI b + nI k = nI (5 * b + k) := by
      rcases (show b = 0 ∨ b = 1 by omega) with z | z <;> subst z
      · rw [Nat.mul_zero, Nat.zero_add, show (5 : Int32) * nI 0 = 0 from rfl, Int32.zero_add]
      · have hz : ∀ k, k < 5 → (5 : Int32) * nI 1 + nI k = nI (5 * 1 + k) := by decide +kernel
        exact hz k hkw
    refine Ex.iconst (pc := 26) (v := 5) dX10_boarding_26 rfl ?_
    refine Ex.aload_n (pc := 27) dX10_boarding_27 rfl rfl ?_
    refine Ex.getI (pc := 28) dX10_boarding_28 fX10_112 (sh36 _) ?_
    refine Ex.imul (pc := 31) dX10_boarding_31 ?_
    refine Ex.aload_n (pc := 32) dX10_boarding_32 rfl rfl ?_
    refine Ex.getR (pc := 33) dX10_boarding_33 fX10_54 (sh36 _) r36_14 ?_
    refine Ex.aload_n (pc := 36) dX10_boarding_36 rfl rfl ?_
    refine Ex.getI (pc := 37) dX10_boarding_37 fX10_112 (sh36 _) ?_
    refine Ex.iald (pc := 40) (j := b) dX10_boarding_40 (sh38 _) (by rw [e333]; exact vp_in_nI (by omega) (by decide)) (by rw [e333]; exact nI_clamp (by omega)) ?_
    refine Ex.iadd (pc := 41) dX10_boarding_41 ?_
    rw [e333, e383, ek]
    refine Ex.istore_n (pc := 42) (ls' := [some (.ref 36), some (.int _)]) dX10_boarding_42 rfl (by decide) rfl rfl ?_
    refine Ex.aload_n (pc := 43) dX10_boarding_43 rfl rfl ?_
    refine Ex.getR (pc := 44) dX10_boarding_44 fX10_99 (sh36 _) r36_29 ?_
    refine Ex.iload_n (pc := 47) dX10_boarding_47 rfl rfl ?_
    refine Ex.aload_n (pc := 48) dX10_boarding_48 rfl rfl ?_
    refine Ex.callV (pc := 49) (As := []) (rest := [.int _, .ref 53]) dX10_boarding_49 cX10_358 (tm_fresh (pl := pl) (hB.g g3) hb e333 (hPl.1.g g3) m3) (sh36 _) rfl rfl (by decide) (Nat.le_refl _) (Nat.le_refl _) (Nat.le_of_ble_eq_true rfl) (Or.inl (fun r S' h => by obtain ⟨_, _, h, _⟩ := h; subst h; rfl)) (fun r S' hq _ _ => ?_)
    obtain ⟨I4, L4, rfl, v4, rfl, g4, m4, hv4⟩ := hq
    refine Ex.last (pc := 52) (j := 5 * b + k) dX10_boarding_52 (sh53 _) (vp_in_nI (by omega) (by decide)) (nI_clamp (by omega)) ?_
    have m5 : RMt tb n I4 (va_up L4 53 (vp_updL (L4 53) (5 * b + k) v4)) (tkN tb n pl (nx tb n (.ok (t, c)))) := m4.c36 rfl (va_up_n (by decide))
    have b4 := (hB.g g3).g g4
    generalize hL5 : va_up L4 53 (vp_updL (L4 53) (5 * b + k) v4) = L5 at m5 ⊢
    refine Ex.aload_n (pc := 53) dX10_boarding_53 rfl rfl ?_
    refine Ex.ldc2 (pc := 54) dX10_boarding_54 kv_X10_252 ?_
    refine Ex.callV (pc := 57) (As := [.long _]) (rest := []) dX10_boarding_57 cX10_362 (tm_must_ (k := 1) b4 (by decide) m5) (sh36 _) rfl rfl (by decide) (Nat.le_refl _) (Nat.le_refl _) (Nat.le_of_ble_eq_true rfl) (Or.inl (fun r S' h => by obtain ⟨_, _, h, _⟩ := h; subst h; rfl)) (fun r S' hq _ _ => ?_)
    obtain ⟨I6, L6, rfl, rfl, g6, m6⟩ := hq
    have b6 := b4.g g6
    refine Ex.aload_n (pc := 60) dX10_boarding_60 rfl rfl ?_
    refine Ex.getR (pc := 61) dX10_boarding_61 fX10_57 (sh36 _) r36_15 ?_
    refine Ex.iload_n (pc := 64) dX10_boarding_64 rfl rfl ?_
    refine Ex.aload_n (pc := 65) dX10_boarding_65 rfl rfl ?_
    refine Ex.iconst (pc := 66) (v := 1) dX10_boarding_66 rfl ?_
    refine Ex.bipush (pc := 67) (v := 9) dX10_boarding_67 rfl ?_
    refine Ex.callV (pc := 69) (As := [.int 1, .int 9]) (rest := [.int _, .ref 39]) dX10_boarding_69 cX10_366 (tm_number (lo := 1) (hi := 9) b6 (by decide) (by decide) m6) (sh36 _) rfl rfl (by decide) (Nat.le_refl _) (Nat.le_refl _) (Nat.le_of_ble_eq_true rfl) (Or.inl (fun r S' h => by obtain ⟨_, _, h, _⟩ := h; subst h; rfl)) (fun r S' hq _ _ => ?_)
    obtain ⟨I7, L7, rfl, v7, rfl, g7, m7, hv7⟩ := hq
    have b7 := b6.g g7
    refine Ex.iast (pc := 72) (j := 5 * b + k) dX10_boarding_72 (sh39 _) (vp_in_nI (by omega) (by decide)) (nI_clamp (by omega)) ?_
    have m8 := m7.c36 (I2 := va_up I7 39 (upd (I7 39) (5 * b + k) v7)) (L2 := L7) (va_up_n (by decide)) rfl
    have b8 := b7.c (I2 := va_up I7 39 (upd (I7 39) (5 * b + k) v7)) (by rw [va_up_n (by decide)]) (va_up_n (by decide))
    generalize hI8 : va_up I7 39 (upd (I7 39) (5 * b + k) v7) = I8 at m8 b8 ⊢
    refine Ex.aload_n (pc := 73) dX10_boarding_73 rfl rfl ?_
    refine Ex.ldc2 (pc := 74) dX10_boarding_74 kv_X10_254 ?_
    refine Ex.callV (pc := 77) (As := [.long _]) (rest := []) dX10_boarding_77 cX10_362 (tm_must_ (k := 2) b8 (by decide) m8) (sh36 _) rfl rfl (by decide) (Nat.le_refl _) (Nat.le_refl _) (Nat.le_of_ble_eq_true rfl) (Or.inl (fun r S' h => by obtain ⟨_, _, h, _⟩ := h; subst h; rfl)) (fun r S' hq _ _ => ?_)
    obtain ⟨I9, L9, rfl, rfl, g9, m9⟩ := hq
    have b9 := b8.g g9
    refine Ex.aload_n (pc := 80) dX10_boarding_80 rfl rfl ?_
    refine Ex.getR (pc := 81) dX10_boarding_81 fX10_60 (sh36 _) r36_16 ?_
    refine Ex.iload_n (pc := 84) dX10_boarding_84 rfl rfl ?_
    refine Ex.aload_n (pc := 85) dX10_boarding_85 rfl rfl ?_
    refine Ex.iconst (pc := 86) (v := 1) dX10_boarding_86 rfl ?_
    refine Ex.bipush (pc := 87) (v := 99) dX10_boarding_87 rfl ?_
    refine Ex.callV (pc := 89) (As := [.int 1, .int 99]) (rest := [.int _, .ref 40]) dX10_boarding_89 cX10_366 (tm_number (lo := 1) (hi := 99) b9 (by decide) (by decide) m9) (sh36 _) rfl rfl (by decide) (Nat.le_refl _) (Nat.le_refl _) (Nat.le_of_ble_eq_true rfl) (Or.inl (fun r S' h => by obtain ⟨_, _, h, _⟩ := h; subst h; rfl)) (fun r S' hq _ _ => ?_)
    obtain ⟨IA, LA, rfl, vA, rfl, gA, mA, hvA⟩ := hq
    have bA := b9.g gA
    refine Ex.iast (pc := 92) (j := 5 * b + k) dX10_boarding_92 (sh40 _) (vp_in_nI (by omega) (by decide)) (nI_clamp (by omega)) ?_
    have mB := mA.c36 (I2 := va_up IA 40 (upd (IA 40) (5 * b + k) vA)) (L2 := LA) (va_up_n (by decide)) rfl
    have bB := bA.c (I2 := va_up IA 40 (upd (IA 40) (5 * b + k) vA)) (by rw [va_up_n (by decide)]) (va_up_n (by decide))
    have oB : Ob b I0 L0 (va_up IA 40 (upd (IA 40) (5 * b + k) vA)) LA := by
      have o5 : Ob b I0 L0 I4 L5 := by rw [← hL5]; exact ((hO0.tr g3.ob).tr g4.ob).tr (ob_l (q := 0) (by decide) (show k < 5 from hkw))
      have o8 : Ob b I0 L0 I8 L7 := by rw [← hI8]; exact ((o5.tr g6.ob).tr g7.ob).tr (ob_a (a := 39) (by decide) (by decide) (show k < 5 from hkw))
      exact ((o8.tr g9.ob).tr gA.ob).tr (ob_a (a := 40) (by decide) (by decide) (show k < 5 from hkw))
    have eB : va_up IA 40 (upd (IA 40) (5 * b + k) vA) 36 33 = nI b := by rw [oB.2.1 33 (by decide), ← hO0.2.1 33 (by decide)]; exact h33
    have cI : ∀ a, 37 < a → a < 56 → a ≠ 39 → IA a = I a := fun a a1 a2 a3 => by rw [gA.1 a (by simp; omega), g9.1 a (by simp; omega), ← hI8, va_up_n a3, g7.1 a (by simp; omega), g6.1 a (by simp; omega), g4.1 a (by simp; omega), g3.1 a (by simp; omega)]
    have cI9 : IA 39 = upd (I 39) (5 * b + k) v7 := by rw [gA.1 39 (by decide), g9.1 39 (by decide), ← hI8, va_up_s, g7.1 39 (by decide), g6.1 39 (by decide), g4.1 39 (by decide), g3.1 39 (by decide)]
    have cL : ∀ a, a ≠ 36 → a ≠ 53 → LA a = L a := fun a a1 a2 => by rw [gA.2.2.1 a (by simp; omega), g9.2.2.1 a (by simp; omega), g7.2.2.1 a (by simp; omega), g6.2.2.1 a (by simp; omega), ← hL5, va_up_n a2, g4.2.2.1 a (by simp; omega), g3.2.2.1 a (by simp; omega)]
    have cL3 : LA 53 = vp_updL (L 53) (5 * b + k) v4 := by rw [gA.2.2.1 53 (by decide), g9.2.2.1 53 (by decide), g7.2.2.1 53 (by decide), g6.2.2.1 53 (by decide), ← hL5, va_up_s, g4.2.2.1 53 (by decide), g3.2.2.1 53 (by decide)]
    have e38B : va_up IA 40 (upd (IA 40) (5 * b + k) vA) 38 b = nI k := by rw [va_up_n (by decide), cI 38 (by decide) (by decide) (by decide)]; exact n2
    refine Ex.aload_n (pc := 93) dX10_boarding_93 rfl rfl ?_
    refine Ex.getI (pc := 94) dX10_boarding_94 fX10_36 (sh36 _) ?_
    refine Ex.if_ne (pc := 97) (tgt := 113) dX10_boarding_97 (by decide) (fun c97 => ?_) (fun c97 => ?_)
    · skip
      refine Ex.vret (pc := 113) rfl dX10_boarding_113 (Nat.le_refl _) (Nat.le_refl _) ?_
      have hff : fullB pl 0 = false := by rw [hfull]; exact decide_eq_false (by omega)
      refine ⟨_, _, rfl, rfl, fun z => (by rw [hff] at z; cases z), fun _ => ⟨oB, bB, eB, mB, fun t2 c2 z => ?_⟩⟩
      have mB := mB
      have z : tkV tb n 1 99 (tkO tb n 2 (tkV tb n 1 9 (tkO tb n 1 (tkN tb n pl (nx tb n (.ok (t, c))))))) = .ok (t2, c2) := z
      rw [z] at mB
      exact absurd (show RMo tb n _ LA t2 from mB).1 c97
    · skip
      refine Ex.aload_n (pc := 100) dX10_boarding_100 rfl rfl ?_
      refine Ex.getR (pc := 101) dX10_boarding_101 fX10_54 (sh36 _) r36_14 ?_
      refine Ex.aload_n (pc := 104) dX10_boarding_104 rfl rfl ?_
      refine Ex.getI (pc := 105) dX10_boarding_105 fX10_112 (sh36 _) ?_
      refine Ex.dup2 (pc := 108) dX10_boarding_108 rfl rfl ?_
      refine Ex.iald (pc := 109) (j := b) dX10_boarding_109 (sh38 _) (by rw [eB]; exact vp_in_nI (by omega) (by decide)) (by rw [eB]; exact nI_clamp (by omega)) ?_
      refine Ex.iconst (pc := 110) (v := 1) dX10_boarding_110 rfl ?_
      refine Ex.iadd (pc := 111) dX10_boarding_111 ?_
      rw [e38B, show nI k + 1 = nI (k + 1) from nI_1 k]
      refine Ex.iast (pc := 112) (j := b) dX10_boarding_112 (sh38 _) (by rw [eB]; exact vp_in_nI (by omega) (by decide)) (by rw [eB]; exact nI_clamp (by omega)) ?_
      refine Ex.vret (pc := 113) rfl dX10_boarding_113 (Nat.le_refl _) (Nat.le_refl _) ?_
      have hff : fullB pl 0 = false := by rw [hfull]; exact decide_eq_false (by omega)
      refine ⟨_, _, rfl, rfl, fun z => (by rw [hff] at z; cases z), fun _ => ?_⟩
      skip
      refine ⟨oB.tr ?_, bB.c (by rw [va_up_n (by decide)]) (va_up_n (by decide)), by rw [va_up_n (by decide)]; exact eB, mB.c36 (va_up_n (by decide)) rfl, fun t2 c2 z => ?_⟩
      · have := ob_a (b := b) (a := 38) (i := 0) (I := va_up IA 40 (upd (IA 40) (5 * b + k) vA)) (L := LA) (v := nI (k + 1)) (by decide) (by decide) (by decide)
        rw [show wdA 38 * b + 0 = b by unfold wdA; simp] at this
        exact this
      have z : tkV tb n 1 99 (tkO tb n 2 (tkV tb n 1 9 (tkO tb n 1 (tkN tb n pl (nx tb n (.ok (t, c))))))) = .ok (t2, c2) := z
      have h2 := hvA _ z
      have z2 := tkV_ok z
      obtain ⟨t3, c3, z3, _⟩ := isK_ok z2.1
      have z4 := tkO_ok z3
      obtain ⟨t5, c5, z5, _⟩ := isW_ok z4.1
      have h1 := hv7 _ z5
      have z6 := tkV_ok z5
      obtain ⟨t6, c6, z7, _⟩ := isK_ok z6.1
      have z8 := tkO_ok z7
      obtain ⟨t9, c9, z9, _⟩ := isW_ok z8.1
      have h0 := hv4 _ z9
      have hsc := ((sc_nx hbt (.ok (t, c))).tr (sc_th (q := 0) (w := 1) (hi := 9) (pl := pl) hbt (nx tb n (.ok (t, c)))))
      have hcc := hsc.2 t c t2 c2 rfl z
      have had := hsc.1.2.2 t c t2 c2 rfl z hM.2.2.1
      subst hcc
      refine ⟨PlM.add (q := 0) (k := k) hPl hb (by decide) hk.symm hkw (letR_ok m3 z9) (fun a a1 a2 a3 a4 a5 => ?_) ?_ ?_ ?_ (fun p p1 p2 => cL _ (by omega) (by omega)) ?_, ⟨?_, fun j s hj => ?_⟩, by omega⟩
      · rw [va_up_n (by omega), va_up_n (by omega)]; exact cI a (by omega) (by omega) (by omega)
      · show va_up _ 38 _ 38 = upd (I 38) b (nI (k + 1))
        rw [va_up_s, va_up_n (by decide), cI 38 (by decide) (by decide) (by decide)]
      · show va_up _ 38 _ 39 = upd (I 39) (5 * b + k) _
        rw [va_up_n (by decide), va_up_n (by decide), cI9, h1]; rfl
      · show va_up _ 38 _ 40 = upd (I 40) (5 * b + k) _
        rw [va_up_n (by decide), va_up_s, cI 40 (by decide) (by decide) (by decide), h2]; rfl
      · show LA 53 = vp_updL (L 53) (5 * b + k) _
        rw [cL3, h0]
      · rw [va_up_n (by decide), va_up_n (by decide), gA.2.1 32 (by decide), g9.2.1 32 (by decide), ← hI8, va_up_n (by decide), g7.2.1 32 (by decide), g6.2.1 32 (by decide), g4.2.1 32 (by decide), g3.2.1 32 (by decide)]; exact hCd.1
      · rw [va_up_n (by decide), va_up_n (by decide), va_up_n (by decide), va_up_n (by decide), cI 51 (by decide) (by decide) (by decide), cI 52 (by decide) (by decide) (by decide)]; exact hCd.2 j s hj
  · skip
    refine Ex.iconst (pc := 14) (v := 1) dX10_boarding_14 rfl ?_
    refine Ex.goto (pc := 15) (tgt := 19) dX10_boarding_15 (by decide) ?_
    refine Ex.callV (pc := 19) (As := [.int 1]) (rest := []) dX10_boarding_19 cX10_354 (tm_counts1 (tb := tb) (n := n) (c := c) hM) (sh36 _) rfl rfl (by decide) (Nat.le_refl _) (Nat.le_refl _) (Nat.le_of_ble_eq_true rfl) (Or.inl (fun r S' h => by obtain ⟨_, _, h, _⟩ := h; subst h; rfl)) (fun r S' hq _ _ => ?_)
    obtain ⟨I3, L3, rfl, rfl, g3, m3⟩ := hq
    refine Ex.if_ne (pc := 22) (tgt := 26) dX10_boarding_22 (by decide) (fun c22 => absurd (by decide) c22) (fun _ => ?_)
    refine Ex.vret (pc := 25) rfl dX10_boarding_25 (Nat.le_refl _) (Nat.le_refl _) ?_
    have hk5 : k = 5 := by
      rw [n2] at c11
      exact (nI_iff (by omega) (by decide)).mp c11
    rw [hk5] at hfull
    refine ⟨_, _, rfl, rfl, fun _ => ⟨hO0.tr g3.ob, hB.g g3, by rw [g3.2.1 33 (by decide)]; exact h33, m3.t, fun t2 c2 z => by cases z⟩, fun z => by rw [hfull] at z; exact absurd z (by decide)⟩
set_option maxRecDepth 20000 in
theorem tm_staining {N n b : Nat} {tb : Nat → Nat} {I0 I : aI} {L0 L : aL} {t : Tk} {c : Cd} {pl : Pl} (hb : b < 2) (h : Ps tb n b I0 L0 I L (.ok (t, c)) pl) : Run 3 0 0 mX10_staining [.ref 36] (St N I L) (RX N (fun x I2 L2 => x = none ∧ (fullB pl 3 = true → Ps tb n b I0 L0 I2 L2 (.error (6, t.2.2.2.1)) pl) ∧ (fullB pl 3 = false → Ps tb n b I0 L0 I2 L2 (thR tb n 1 4 99 pl (nx tb n (.ok (t, c)))).2.2 (plT pl 1 (letR (nx tb n (.ok (t, c)))) (numR (thR tb n 1 4 99 pl (nx tb n (.ok (t, c)))).1) (numR (thR tb n 1 4 99 pl (nx tb n (.ok (t, c)))).2.1))))) := by
  refine Run.of (ls := [some (.ref 36), none]) (by decide) (Nat.le_of_ble_eq_true rfl) rfl ?_
  obtain ⟨hO0, hB, h33, hM, hPC⟩ := h
  obtain ⟨hPl, hCd, hcl⟩ := hPC t c rfl
  have hM : RMo tb n I L t := hM
  have hbt : ∀ i, i < n → tb i < 256 := fun i hi => (hB.1 i hi).1
  obtain ⟨n1, n2, n3⟩ := hPl.1 1 (by decide)
  have n1 : pl.1 1 ≤ 6 := n1
  have n2 : I 41 b = nI (pl.1 1) := n2
  obtain ⟨k, hk⟩ : ∃ k, k = pl.1 1 := ⟨_, rfl⟩
  rw [← hk] at n1 n2
  have hfull : fullB pl 3 = decide (6 ≤ k) := by rw [hk]; rfl
  refine Ex.aload_n (pc := 0) dX10_staining_0 rfl rfl ?_
  refine Ex.aload_n (pc := 1) dX10_staining_1 rfl rfl ?_
  refine Ex.getR (pc := 2) dX10_staining_2 fX10_63 (sh36 _) r36_17 ?_
  refine Ex.aload_n (pc := 5) dX10_staining_5 rfl rfl ?_
  refine Ex.getI (pc := 6) dX10_staining_6 fX10_112 (sh36 _) ?_
  refine Ex.iald (pc := 9) (j := b) dX10_staining_9 (sh41 _) (by rw [h33]; exact vp_in_nI (by omega) (by decide)) (by rw [h33]; exact nI_clamp (by omega)) ?_
  refine Ex.bipush (pc := 10) (v := 6) dX10_staining_10 rfl ?_
  refine Ex.icmp_ne (pc := 12) (tgt := 19) dX10_staining_12 (by decide) (fun c12 => ?_) (fun c12 => ?_)
  · skip
    refine Ex.iconst (pc := 19) (v := 0) dX10_staining_19 rfl ?_
    refine Ex.callV (pc := 20) (As := [.int 0]) (rest := []) dX10_staining_20 cX10_354 (tm_counts0 (tb := tb) (n := n) (c := c) hB hM) (sh36 _) rfl rfl (by decide) (Nat.le_refl _) (Nat.le_refl _) (Nat.le_of_ble_eq_true rfl) (Or.inl (fun r S' h => by obtain ⟨_, _, h, _⟩ := h; subst h; rfl)) (fun r S' hq _ _ => ?_)
    obtain ⟨I3, L3, rfl, rfl, g3, m3, z3⟩ := hq
    refine Ex.if_ne (pc := 23) (tgt := 27) dX10_staining_23 (by decide) (fun _ => ?_) (fun c23 => absurd c23 (by decide))
    have hkw : k < 6 := by
      refine Nat.lt_of_le_of_ne n1 (fun e => c12 ?_)
      rw [n2, e]; rfl
    have e333 : I3 36 33 = nI b := by rw [g3.2.1 33 (by decide)]; exact h33
    have e383 : I3 41 b = nI k := by rw [g3.1 41 (by decide)]; exact n2
    have ek : 6 * nI b + nI k = nI (6 * b + k) := by
      rcases (show b = 0 ∨ b = 1 by omega) with z | z <;> subst z
      · rw [Nat.mul_zero, Nat.zero_add, show (6 : Int32) * nI 0 = 0 from rfl, Int32.zero_add]
      · have hz : ∀ k, k < 6 → (6 : Int32) * nI 1 + nI k = nI (6 * 1 + k) := by decide +kernel
        exact hz k hkw
    refine Ex.bipush (pc := 27) (v := 6) dX10_staining_27 rfl ?_
    refine Ex.aload_n (pc := 29) dX10_staining_29 rfl rfl ?_
    refine Ex.getI (pc := 30) dX10_staining_30 fX10_112 (sh36 _) ?_
    refine Ex.imul (pc := 33) dX10_staining_33 ?_
    refine Ex.aload_n (pc := 34) dX10_staining_34 rfl rfl ?_
    refine Ex.getR (pc := 35) dX10_staining_35 fX10_63 (sh36 _) r36_17 ?_
    refine Ex.aload_n (pc := 38) dX10_staining_38 rfl rfl ?_
    refine Ex.getI (pc := 39) dX10_staining_39 fX10_112 (sh36 _) ?_
    refine Ex.iald (pc := 42) (j := b) dX10_staining_42 (sh41 _) (by rw [e333]; exact vp_in_nI (by omega) (by decide)) (by rw [e333]; exact nI_clamp (by omega)) ?_
    refine Ex.iadd (pc := 43) dX10_staining_43 ?_
    rw [e333, e383, ek]
    refine Ex.istore_n (pc := 44) (ls' := [some (.ref 36), some (.int _)]) dX10_staining_44 rfl (by decide) rfl rfl ?_
    refine Ex.aload_n (pc := 45) dX10_staining_45 rfl rfl ?_
    refine Ex.getR (pc := 46) dX10_staining_46 fX10_103 (sh36 _) r36_30 ?_
    refine Ex.iload_n (pc := 49) dX10_staining_49 rfl rfl ?_
    refine Ex.aload_n (pc := 50) dX10_staining_50 rfl rfl ?_
    refine Ex.callV (pc := 51) (As := []) (rest := [.int _, .ref 54]) dX10_staining_51 cX10_358 (tm_fresh (pl := pl) (hB.g g3) hb e333 (hPl.1.g g3) m3) (sh36 _) rfl rfl (by decide) (Nat.le_refl _) (Nat.le_refl _) (Nat.le_of_ble_eq_true rfl) (Or.inl (fun r S' h => by obtain ⟨_, _, h, _⟩ := h; subst h; rfl)) (fun r S' hq _ _ => ?_)
    obtain ⟨I4, L4, rfl, v4, rfl, g4, m4, hv4⟩ := hq
    refine Ex.last (pc := 54) (j := 6 * b + k) dX10_staining_54 (sh54 _) (vp_in_nI (by omega) (by decide)) (nI_clamp (by omega)) ?_
    have m5 : RMt tb n I4 (va_up L4 54 (vp_updL (L4 54) (6 * b + k) v4)) (tkN tb n pl (nx tb n (.ok (t, c)))) := m4.c36 rfl (va_up_n (by decide))
    have b4 := (hB.g g3).g g4
    generalize hL5 : va_up L4 54 (vp_updL (L4 54) (6 * b + k) v4) = L5 at m5 ⊢
    refine Ex.aload_n (pc := 55) dX10_staining_55 rfl rfl ?_
    refine Ex.ldc2 (pc := 56) dX10_staining_56 kv_X10_258 ?_
    refine Ex.callV (pc := 59) (As := [.long _]) (rest := []) dX10_staining_59 cX10_362 (tm_must_ (k := 4) b4 (by decide) m5) (sh36 _) rfl rfl (by decide) (Nat.le_refl _) (Nat.le_refl _) (Nat.le_of_ble_eq_true rfl) (Or.inl (fun r S' h => by obtain ⟨_, _, h, _⟩ := h; subst h; rfl)) (fun r S' hq _ _ => ?_)
    obtain ⟨I6, L6, rfl, rfl, g6, m6⟩ := hq
    have b6 := b4.g g6
    refine Ex.aload_n (pc := 62) dX10_staining_62 rfl rfl ?_
    refine Ex.getR (pc := 63) dX10_staining_63 fX10_66 (sh36 _) r36_18 ?_
    refine Ex.iload_n (pc := 66) dX10_staining_66 rfl rfl ?_
    refine Ex.aload_n (pc := 67) dX10_staining_67 rfl rfl ?_
    refine Ex.iconst (pc := 68) (v := 0) dX10_staining_68 rfl ?_
    refine Ex.bipush (pc := 69) (v := 99) dX10_staining_69 rfl ?_
    refine Ex.callV (pc := 71) (As := [.int 0, .int 99]) (rest := [.int _, .ref 42]) dX10_staining_71 cX10_366 (tm_number (lo := 0) (hi := 99) b6 (by decide) (by decide) m6) (sh36 _) rfl rfl (by decide) (Nat.le_refl _) (Nat.le_refl _) (Nat.le_of_ble_eq_true rfl) (Or.inl (fun r S' h => by obtain ⟨_, _, h, _⟩ := h; subst h; rfl)) (fun r S' hq _ _ => ?_)
    obtain ⟨I7, L7, rfl, v7, rfl, g7, m7, hv7⟩ := hq
    have b7 := b6.g g7
    refine Ex.iast (pc := 74) (j := 6 * b + k) dX10_staining_74 (sh42 _) (vp_in_nI (by omega) (by decide)) (nI_clamp (by omega)) ?_
    have m8 := m7.c36 (I2 := va_up I7 42 (upd (I7 42) (6 * b + k) v7)) (L2 := L7) (va_up_n (by decide)) rfl
    have b8 := b7.c (I2 := va_up I7 42 (upd (I7 42) (6 * b + k) v7)) (by rw [va_up_n (by decide)]) (va_up_n (by decide))
    generalize hI8 : va_up I7 42 (upd (I7 42) (6 * b + k) v7) = I8 at m8 b8 ⊢
    refine Ex.aload_n (pc := 75) dX10_staining_75 rfl rfl ?_
    refine Ex.ldc2 (pc := 76) dX10_staining_76 kv_X10_260 ?_
    refine Ex.callV (pc := 79) (As := [.long _]) (rest := []) dX10_staining_79 cX10_362 (tm_must_ (k := 5) b8 (by decide) m8) (sh36 _) rfl rfl (by decide) (Nat.le_refl _) (Nat.le_refl _) (Nat.le_of_ble_eq_true rfl) (Or.inl (fun r S' h => by obtain ⟨_, _, h, _⟩ := h; subst h; rfl)) (fun r S' hq _ _ => ?_)
    obtain ⟨I9, L9, rfl, rfl, g9, m9⟩ := hq
    have b9 := b8.g g9
    refine Ex.aload_n (pc := 82) dX10_staining_82 rfl rfl ?_
    refine Ex.getR (pc := 83) dX10_staining_83 fX10_69 (sh36 _) r36_19 ?_
    refine Ex.iload_n (pc := 86) dX10_staining_86 rfl rfl ?_
    refine Ex.aload_n (pc := 87) dX10_staining_87 rfl rfl ?_
    refine Ex.iconst (pc := 88) (v := 0) dX10_staining_88 rfl ?_
    refine Ex.bipush (pc := 89) (v := 9) dX10_staining_89 rfl ?_
    refine Ex.callV (pc := 91) (As := [.int 0, .int 9]) (rest := [.int _, .ref 43]) dX10_staining_91 cX10_366 (tm_number (lo := 0) (hi := 9) b9 (by decide) (by decide) m9) (sh36 _) rfl rfl (by decide) (Nat.le_refl _) (Nat.le_refl _) (Nat.le_of_ble_eq_true rfl) (Or.inl (fun r S' h => by obtain ⟨_, _, h, _⟩ := h; subst h; rfl)) (fun r S' hq _ _ => ?_)
    obtain ⟨IA, LA, rfl, vA, rfl, gA, mA, hvA⟩ := hq
    have bA := b9.g gA
    refine Ex.iast (pc := 94) (j := 6 * b + k) dX10_staining_94 (sh43 _) (vp_in_nI (by omega) (by decide)) (nI_clamp (by omega)) ?_
    have mB := mA.c36 (I2 := va_up IA 43 (upd (IA 43) (6 * b + k) vA)) (L2 := LA) (va_up_n (by decide)) rfl
    have bB := bA.c (I2 := va_up IA 43 (upd (IA 43) (6 * b + k) vA)) (by rw [va_up_n (by decide)]) (va_up_n (by decide))
    have oB : Ob b I0 L0 (va_up IA 43 (upd (IA 43) (6 * b + k) vA)) LA := by
      have o5 : Ob b I0 L0 I4 L5 := by rw [← hL5]; exact ((hO0.tr g3.ob).tr g4.ob).tr (ob_l (q := 1) (by decide) (show k < 6 from hkw))
      have o8 : Ob b I0 L0 I8 L7 := by rw [← hI8]; exact ((o5.tr g6.ob).tr g7.ob).tr (ob_a (a := 42) (by decide) (by decide) (show k < 6 from hkw))
      exact ((o8.tr g9.ob).tr gA.ob).tr (ob_a (a := 43) (by decide) (by decide) (show k < 6 from hkw))
    have eB : va_up IA 43 (upd (IA 43) (6 * b + k) vA) 36 33 = nI b := by rw [oB.2.1 33 (by decide), ← hO0.2.1 33 (by decide)]; exact h33
    have cI : ∀ a, 37 < a → a < 56 → a ≠ 42 → IA a = I a := fun a a1 a2 a3 => by rw [gA.1 a (by simp; omega), g9.1 a (by simp; omega), ← hI8, va_up_n a3, g7.1 a (by simp; omega), g6.1 a (by simp; omega), g4.1 a (by simp; omega), g3.1 a (by simp; omega)]
    have cI9 : IA 42 = upd (I 42) (6 * b + k) v7 := by rw [gA.1 42 (by decide), g9.1 42 (by decide), ← hI8, va_up_s, g7.1 42 (by decide), g6.1 42 (by decide), g4.1 42 (by decide), g3.1 42 (by decide)]
    have cL : ∀ a, a ≠ 36 → a ≠ 54 → LA a = L a := fun a a1 a2 => by rw [gA.2.2.1 a (by simp; omega), g9.2.2.1 a (by simp; omega), g7.2.2.1 a (by simp; omega), g6.2.2.1 a (by simp; omega), ← hL5, va_up_n a2, g4.2.2.1 a (by simp; omega), g3.2.2.1 a (by simp; omega)]
    have cL3 : LA 54 = vp_updL (L 54) (6 * b + k) v4 := by rw [gA.2.2.1 54 (by decide), g9.2.2.1 54 (by decide), g7.2.2.1 54 (by decide), g6.2.2.1 54 (by decide), ← hL5, va_up_s, g4.2.2.1 54 (by decide), g3.2.2.1 54 (by decide)]
    have e38B : va_up IA 43 (upd (IA 43) (6 * b + k) vA) 41 b = nI k := by rw [va_up_n (by decide), cI 41 (by decide) (by decide) (by decide)]; exact n2
    refine Ex.aload_n (pc := 95) dX10_staining_95 rfl rfl ?_
    refine Ex.getI (pc := 96) dX10_staining_96 fX10_36 (sh36 _) ?_
    refine Ex.if_ne (pc := 99) (tgt := 115) dX10_staining_99 (by decide) (fun c99 => ?_) (fun c99 => ?_)
    · skip
      refine Ex.vret (pc := 115) rfl dX10_staining_115 (Nat.le_refl _) (Nat.le_refl _) ?_
      have hff : fullB pl 3 = false := by rw [hfull]; exact decide_eq_false (by omega)
      refine ⟨_, _, rfl, rfl, fun z => (by rw [hff] at z; cases z), fun _ => ⟨oB, bB, eB, mB, fun t2 c2 z => ?_⟩⟩
      have mB := mB
      have z : tkV tb n 0 9 (tkO tb n 5 (tkV tb n 0 99 (tkO tb n 4 (tkN tb n pl (nx tb n (.ok (t, c))))))) = .ok (t2, c2) := z
      rw [z] at mB
      exact absurd (show RMo tb n _ LA t2 from mB).1 c99
    · skip
      refine Ex.aload_n (pc := 102) dX10_staining_102 rfl rfl ?_
      refine Ex.getR (pc := 103) dX10_staining_103 fX10_63 (sh36 _) r36_17 ?_
      refine Ex.aload_n (pc := 106) dX10_staining_106 rfl rfl ?_
      refine Ex.getI (pc := 107) dX10_staining_107 fX10_112 (sh36 _) ?_
      refine Ex.dup2 (pc := 110) dX10_staining_110 rfl rfl ?_
      refine Ex.iald (pc := 111) (j := b) dX10_staining_111 (sh41 _) (by rw [eB]; exact vp_in_nI (by omega) (by decide)) (by rw [eB]; exact nI_clamp (by omega)) ?_
      refine Ex.iconst (pc := 112) (v := 1) dX10_staining_112 rfl ?_
      refine Ex.iadd (pc := 113) dX10_staining_113 ?_
      rw [e38B, show nI k + 1 = nI (k + 1) from nI_1 k]
      refine Ex.iast (pc := 114) (j := b) dX10_staining_114 (sh41 _) (by rw [eB]; exact vp_in_nI (by omega) (by decide)) (by rw [eB]; exact nI_clamp (by omega)) ?_
      refine Ex.vret (pc := 115) rfl dX10_staining_115 (Nat.le_refl _) (Nat.le_refl _) ?_
      have hff : fullB pl 3 = false := by rw [hfull]; exact decide_eq_false (by omega)
      refine ⟨_, _, rfl, rfl, fun z => (by rw [hff] at z; cases z), fun _ => ?_⟩
      skip
      refine ⟨oB.tr ?_, bB.c (by rw [va_up_n (by decide)]) (va_up_n (by decide)), by rw [va_up_n (by decide)]; exact eB, mB.c36 (va_up_n (by decide)) rfl, fun t2 c2 z => ?_⟩
      · have := ob_a (b := b) (a := 41) (i := 0) (I := va_up IA 43 (upd (IA 43) (6 * b + k) vA)) (L := LA) (v := nI (k + 1)) (by decide) (by decide) (by decide)
        rw [show wdA 41 * b + 0 = b by unfold wdA; simp] at this
        exact this
      have z : tkV tb n 0 9 (tkO tb n 5 (tkV tb n 0 99 (tkO tb n 4 (tkN tb n pl (nx tb n (.ok (t, c))))))) = .ok (t2, c2) := z
      have h2 := hvA _ z
      have z2 := tkV_ok z
      obtain ⟨t3, c3, z3, _⟩ := isK_ok z2.1
      have z4 := tkO_ok z3
      obtain ⟨t5, c5, z5, _⟩ := isW_ok z4.1
      have h1 := hv7 _ z5
      have z6 := tkV_ok z5
      obtain ⟨t6, c6, z7, _⟩ := isK_ok z6.1
      have z8 := tkO_ok z7
      obtain ⟨t9, c9, z9, _⟩ := isW_ok z8.1
      have h0 := hv4 _ z9
      have hsc := ((sc_nx hbt (.ok (t, c))).tr (sc_th (q := 1) (w := 4) (hi := 99) (pl := pl) hbt (nx tb n (.ok (t, c)))))
      have hcc := hsc.2 t c t2 c2 rfl z
      have had := hsc.1.2.2 t c t2 c2 rfl z hM.2.2.1
      subst hcc
      refine ⟨PlM.add (q := 1) (k := k) hPl hb (by decide) hk.symm hkw (letR_ok m3 z9) (fun a a1 a2 a3 a4 a5 => ?_) ?_ ?_ ?_ (fun p p1 p2 => cL _ (by omega) (by omega)) ?_, ⟨?_, fun j s hj => ?_⟩, by omega⟩
      · rw [va_up_n (by omega), va_up_n (by omega)]; exact cI a (by omega) (by omega) (by omega)
      · show va_up _ 41 _ 41 = upd (I 41) b (nI (k + 1))
        rw [va_up_s, va_up_n (by decide), cI 41 (by decide) (by decide) (by decide)]
      · show va_up _ 41 _ 42 = upd (I 42) (6 * b + k) _
        rw [va_up_n (by decide), va_up_n (by decide), cI9, h1]; rfl
      · show va_up _ 41 _ 43 = upd (I 43) (6 * b + k) _
        rw [va_up_n (by decide), va_up_s, cI 43 (by decide) (by decide) (by decide), h2]; rfl
      · show LA 54 = vp_updL (L 54) (6 * b + k) _
        rw [cL3, h0]
      · rw [va_up_n (by decide), va_up_n (by decide), gA.2.1 32 (by decide), g9.2.1 32 (by decide), ← hI8, va_up_n (by decide), g7.2.1 32 (by decide), g6.2.1 32 (by decide), g4.2.1 32 (by decide), g3.2.1 32 (by decide)]; exact hCd.1
      · rw [va_up_n (by decide), va_up_n (by decide), va_up_n (by decide), va_up_n (by decide), cI 51 (by decide) (by decide) (by decide), cI 52 (by decide) (by decide) (by decide)]; exact hCd.2 j s hj
  · skip
    refine Ex.iconst (pc := 15) (v := 1) dX10_staining_15 rfl ?_
    refine Ex.goto (pc := 16) (tgt := 20) dX10_staining_16 (by decide) ?_
    refine Ex.callV (pc := 20) (As := [.int 1]) (rest := []) dX10_staining_20 cX10_354 (tm_counts1 (tb := tb) (n := n) (c := c) hM) (sh36 _) rfl rfl (by decide) (Nat.le_refl _) (Nat.le_refl _) (Nat.le_of_ble_eq_true rfl) (Or.inl (fun r S' h => by obtain ⟨_, _, h, _⟩ := h; subst h; rfl)) (fun r S' hq _ _ => ?_)
    obtain ⟨I3, L3, rfl, rfl, g3, m3⟩ := hq
    refine Ex.if_ne (pc := 23) (tgt := 27) dX10_staining_23 (by decide) (fun c23 => absurd (by decide) c23) (fun _ => ?_)
    refine Ex.vret (pc := 26) rfl dX10_staining_26 (Nat.le_refl _) (Nat.le_refl _) ?_
    have hk5 : k = 6 := by
      rw [n2] at c12
      exact (nI_iff (by omega) (by decide)).mp c12
    rw [hk5] at hfull
    refine ⟨_, _, rfl, rfl, fun _ => ⟨hO0.tr g3.ob, hB.g g3, by rw [g3.2.1 33 (by decide)]; exact h33, m3.t, fun t2 c2 z => by cases z⟩, fun z => by rw [hfull] at z; exact absurd z (by decide)⟩
set_option maxRecDepth 20000 in
theorem tm_hearing {N n b : Nat} {tb : Nat → Nat} {I0 I : aI} {L0 L : aL} {t : Tk} {c : Cd} {pl : Pl} (hb : b < 2) (h : Ps tb n b I0 L0 I L (.ok (t, c)) pl) : Run 3 0 0 mX10_hearing [.ref 36] (St N I L) (RX N (fun x I2 L2 => x = none ∧ (fullB pl 6 = true → Ps tb n b I0 L0 I2 L2 (.error (6, t.2.2.2.1)) pl) ∧ (fullB pl 6 = false → Ps tb n b I0 L0 I2 L2 (thR tb n 2 7 9 pl (nx tb n (.ok (t, c)))).2.2 (plT pl 2 (letR (nx tb n (.ok (t, c)))) (numR (thR tb n 2 7 9 pl (nx tb n (.ok (t, c)))).1) (numR (thR tb n 2 7 9 pl (nx tb n (.ok (t, c)))).2.1))))) := by
  refine Run.of (ls := [some (.ref 36), none]) (by decide) (Nat.le_of_ble_eq_true rfl) rfl ?_
  obtain ⟨hO0, hB, h33, hM, hPC⟩ := h
  obtain ⟨hPl, hCd, hcl⟩ := hPC t c rfl
  have hM : RMo tb n I L t := hM
  have hbt : ∀ i, i < n → tb i < 256 := fun i hi => (hB.1 i hi).1
  obtain ⟨n1, n2, n3⟩ := hPl.1 2 (by decide)
  have n1 : pl.1 2 ≤ 6 := n1
  have n2 : I 44 b = nI (pl.1 2) := n2
  obtain ⟨k, hk⟩ : ∃ k, k = pl.1 2 := ⟨_, rfl⟩
  rw [← hk] at n1 n2
  have hfull : fullB pl 6 = decide (6 ≤ k) := by rw [hk]; rfl
  refine Ex.aload_n (pc := 0) dX10_hearing_0 rfl rfl ?_
  refine Ex.aload_n (pc := 1) dX10_hearing_1 rfl rfl ?_
  refine Ex.getR (pc := 2) dX10_hearing_2 fX10_72 (sh36 _) r36_20 ?_
  refine Ex.aload_n (pc := 5) dX10_hearing_5 rfl rfl ?_
  refine Ex.getI (pc := 6) dX10_hearing_6 fX10_112 (sh36 _) ?_
  refine Ex.iald (pc := 9) (j := b) dX10_hearing_9 (sh44 _) (by rw [h33]; exact vp_in_nI (by omega) (by decide)) (by rw [h33]; exact nI_clamp (by omega)) ?_
  refine Ex.bipush (pc := 10) (v := 6) dX10_hearing_10 rfl ?_
  refine Ex.icmp_ne (pc := 12) (tgt := 19) dX10_hearing_12 (by decide) (fun c12 => ?_) (fun c12 => ?_)
  · skip
    refine Ex.iconst (pc := 19) (v := 0) dX10_hearing_19 rfl ?_
    refine Ex.callV (pc := 20) (As := [.int 0]) (rest := []) dX10_hearing_20 cX10_354 (tm_counts0 (tb := tb) (n := n) (c := c) hB hM) (sh36 _) rfl rfl (by decide) (Nat.le_refl _) (Nat.le_refl _) (Nat.le_of_ble_eq_true rfl) (Or.inl (fun r S' h => by obtain ⟨_, _, h, _⟩ := h; subst h; rfl)) (fun r S' hq _ _ => ?_)
    obtain ⟨I3, L3, rfl, rfl, g3, m3, z3⟩ := hq
    refine Ex.if_ne (pc := 23) (tgt := 27) dX10_hearing_23 (by decide) (fun _ => ?_) (fun c23 => absurd c23 (by decide))
    have hkw : k < 6 := by
      refine Nat.lt_of_le_of_ne n1 (fun e => c12 ?_)
      rw [n2, e]; rfl
    have e333 : I3 36 33 = nI b := by rw [g3.2.1 33 (by decide)]; exact h33
    have e383 : I3 44 b = nI k := by rw [g3.1 44 (by decide)]; exact n2
    have ek : 6 * nI b + nI k = nI (6 * b + k) := by
      rcases (show b = 0 ∨ b = 1 by omega) with z | z <;> subst z
      · rw [Nat.mul_zero, Nat.zero_add, show (6 : Int32) * nI 0 = 0 from rfl, Int32.zero_add]
      · have hz : ∀ k, k < 6 → (6 : Int32) * nI 1 + nI k = nI (6 * 1 + k) := by decide +kernel
        exact hz k hkw
    refine Ex.bipush (pc := 27) (v := 6) dX10_hearing_27 rfl ?_
    refine Ex.aload_n (pc := 29) dX10_hearing_29 rfl rfl ?_
    refine Ex.getI (pc := 30) dX10_hearing_30 fX10_112 (sh36 _) ?_
    refine Ex.imul (pc := 33) dX10_hearing_33 ?_
    refine Ex.aload_n (pc := 34) dX10_hearing_34 rfl rfl ?_
    refine Ex.getR (pc := 35) dX10_hearing_35 fX10_72 (sh36 _) r36_20 ?_
    refine Ex.aload_n (pc := 38) dX10_hearing_38 rfl rfl ?_
    refine Ex.getI (pc := 39) dX10_hearing_39 fX10_112 (sh36 _) ?_
    refine Ex.iald (pc := 42) (j := b) dX10_hearing_42 (sh44 _) (by rw [e333]; exact vp_in_nI (by omega) (by decide)) (by rw [e333]; exact nI_clamp (by omega)) ?_
    refine Ex.iadd (pc := 43) dX10_hearing_43 ?_
    rw [e333, e383, ek]
    refine Ex.istore_n (pc := 44) (ls' := [some (.ref 36), some (.int _)]) dX10_hearing_44 rfl (by decide) rfl rfl ?_
    refine Ex.aload_n (pc := 45) dX10_hearing_45 rfl rfl ?_
    refine Ex.getR (pc := 46) dX10_hearing_46 fX10_106 (sh36 _) r36_31 ?_
    refine Ex.iload_n (pc := 49) dX10_hearing_49 rfl rfl ?_
    refine Ex.aload_n (pc := 50) dX10_hearing_50 rfl rfl ?_
    refine Ex.callV (pc := 51) (As := []) (rest := [.int _, .ref 55]) dX10_hearing_51 cX10_358 (tm_fresh (pl := pl) (hB.g g3) hb e333 (hPl.1.g g3) m3) (sh36 _) rfl rfl (by decide) (Nat.le_refl _) (Nat.le_refl _) (Nat.le_of_ble_eq_true rfl) (Or.inl (fun r S' h => by obtain ⟨_, _, h, _⟩ := h; subst h; rfl)) (fun r S' hq _ _ => ?_)
    obtain ⟨I4, L4, rfl, v4, rfl, g4, m4, hv4⟩ := hq
    refine Ex.last (pc := 54) (j := 6 * b + k) dX10_hearing_54 (sh55 _) (vp_in_nI (by omega) (by decide)) (nI_clamp (by omega)) ?_
    have m5 : RMt tb n I4 (va_up L4 55 (vp_updL (L4 55) (6 * b + k) v4)) (tkN tb n pl (nx tb n (.ok (t, c)))) := m4.c36 rfl (va_up_n (by decide))
    have b4 := (hB.g g3).g g4
    generalize hL5 : va_up L4 55 (vp_updL (L4 55) (6 * b + k) v4) = L5 at m5 ⊢
    refine Ex.aload_n (pc := 55) dX10_hearing_55 rfl rfl ?_
    refine Ex.ldc2 (pc := 56) dX10_hearing_56 kv_X10_264 ?_
    refine Ex.callV (pc := 59) (As := [.long _]) (rest := []) dX10_hearing_59 cX10_362 (tm_must_ (k := 7) b4 (by decide) m5) (sh36 _) rfl rfl (by decide) (Nat.le_refl _) (Nat.le_refl _) (Nat.le_of_ble_eq_true rfl) (Or.inl (fun r S' h => by obtain ⟨_, _, h, _⟩ := h; subst h; rfl)) (fun r S' hq _ _ => ?_)
    obtain ⟨I6, L6, rfl, rfl, g6, m6⟩ := hq
    have b6 := b4.g g6
    refine Ex.aload_n (pc := 62) dX10_hearing_62 rfl rfl ?_
    refine Ex.getR (pc := 63) dX10_hearing_63 fX10_75 (sh36 _) r36_21 ?_
    refine Ex.iload_n (pc := 66) dX10_hearing_66 rfl rfl ?_
    refine Ex.aload_n (pc := 67) dX10_hearing_67 rfl rfl ?_
    refine Ex.iconst (pc := 68) (v := 0) dX10_hearing_68 rfl ?_
    refine Ex.bipush (pc := 69) (v := 9) dX10_hearing_69 rfl ?_
    refine Ex.callV (pc := 71) (As := [.int 0, .int 9]) (rest := [.int _, .ref 45]) dX10_hearing_71 cX10_366 (tm_number (lo := 0) (hi := 9) b6 (by decide) (by decide) m6) (sh36 _) rfl rfl (by decide) (Nat.le_refl _) (Nat.le_refl _) (Nat.le_of_ble_eq_true rfl) (Or.inl (fun r S' h => by obtain ⟨_, _, h, _⟩ := h; subst h; rfl)) (fun r S' hq _ _ => ?_)
    obtain ⟨I7, L7, rfl, v7, rfl, g7, m7, hv7⟩ := hq
    have b7 := b6.g g7
    refine Ex.iast (pc := 74) (j := 6 * b + k) dX10_hearing_74 (sh45 _) (vp_in_nI (by omega) (by decide)) (nI_clamp (by omega)) ?_
    have m8 := m7.c36 (I2 := va_up I7 45 (upd (I7 45) (6 * b + k) v7)) (L2 := L7) (va_up_n (by decide)) rfl
    have b8 := b7.c (I2 := va_up I7 45 (upd (I7 45) (6 * b + k) v7)) (by rw [va_up_n (by decide)]) (va_up_n (by decide))
    generalize hI8 : va_up I7 45 (upd (I7 45) (6 * b + k) v7) = I8 at m8 b8 ⊢
    refine Ex.aload_n (pc := 75) dX10_hearing_75 rfl rfl ?_
    refine Ex.ldc2 (pc := 76) dX10_hearing_76 kv_X10_266 ?_
    refine Ex.callV (pc := 79) (As := [.long _]) (rest := []) dX10_hearing_79 cX10_362 (tm_must_ (k := 8) b8 (by decide) m8) (sh36 _) rfl rfl (by decide) (Nat.le_refl _) (Nat.le_refl _) (Nat.le_of_ble_eq_true rfl) (Or.inl (fun r S' h => by obtain ⟨_, _, h, _⟩ := h; subst h; rfl)) (fun r S' hq _ _ => ?_)
    obtain ⟨I9, L9, rfl, rfl, g9, m9⟩ := hq
    have b9 := b8.g g9
    refine Ex.aload_n (pc := 82) dX10_hearing_82 rfl rfl ?_
    refine Ex.getR (pc := 83) dX10_hearing_83 fX10_78 (sh36 _) r36_22 ?_
    refine Ex.iload_n (pc := 86) dX10_hearing_86 rfl rfl ?_
    refine Ex.aload_n (pc := 87) dX10_hearing_87 rfl rfl ?_
    refine Ex.iconst (pc := 88) (v := 0) dX10_hearing_88 rfl ?_
    refine Ex.bipush (pc := 89) (v := 9) dX10_hearing_89 rfl ?_
    refine Ex.callV (pc := 91) (As := [.int 0, .int 9]) (rest := [.int _, .ref 46]) dX10_hearing_91 cX10_366 (tm_number (lo := 0) (hi := 9) b9 (by decide) (by decide) m9) (sh36 _) rfl rfl (by decide) (Nat.le_refl _) (Nat.le_refl _) (Nat.le_of_ble_eq_true rfl) (Or.inl (fun r S' h => by obtain ⟨_, _, h, _⟩ := h; subst h; rfl)) (fun r S' hq _ _ => ?_)
    obtain ⟨IA, LA, rfl, vA, rfl, gA, mA, hvA⟩ := hq
    have bA := b9.g gA
    refine Ex.iast (pc := 94) (j := 6 * b + k) dX10_hearing_94 (sh46 _) (vp_in_nI (by omega) (by decide)) (nI_clamp (by omega)) ?_
    have mB := mA.c36 (I2 := va_up IA 46 (upd (IA 46) (6 * b + k) vA)) (L2 := LA) (va_up_n (by decide)) rfl
    have bB := bA.c (I2 := va_up IA 46 (upd (IA 46) (6 * b + k) vA)) (by rw [va_up_n (by decide)]) (va_up_n (by decide))
    have oB : Ob b I0 L0 (va_up IA 46 (upd (IA 46) (6 * b + k) vA)) LA := by
      have o5 : Ob b I0 L0 I4 L5 := by rw [← hL5]; exact ((hO0.tr g3.ob).tr g4.ob).tr (ob_l (q := 2) (by decide) (show k < 6 from hkw))
      have o8 : Ob b I0 L0 I8 L7 := by rw [← hI8]; exact ((o5.tr g6.ob).tr g7.ob).tr (ob_a (a := 45) (by decide) (by decide) (show k < 6 from hkw))
      exact ((o8.tr g9.ob).tr gA.ob).tr (ob_a (a := 46) (by decide) (by decide) (show k < 6 from hkw))
    have eB : va_up IA 46 (upd (IA 46) (6 * b + k) vA) 36 33 = nI b := by rw [oB.2.1 33 (by decide), ← hO0.2.1 33 (by decide)]; exact h33
    have cI : ∀ a, 37 < a → a < 56 → a ≠ 45 → IA a = I a := fun a a1 a2 a3 => by rw [gA.1 a (by simp; omega), g9.1 a (by simp; omega), ← hI8, va_up_n a3, g7.1 a (by simp; omega), g6.1 a (by simp; omega), g4.1 a (by simp; omega), g3.1 a (by simp; omega)]
    have cI9 : IA 45 = upd (I 45) (6 * b + k) v7 := by rw [gA.1 45 (by decide), g9.1 45 (by decide), ← hI8, va_up_s, g7.1 45 (by decide), g6.1 45 (by decide), g4.1 45 (by decide), g3.1 45 (by decide)]
    have cL : ∀ a, a ≠ 36 → a ≠ 55 → LA a = L a := fun a a1 a2 => by rw [gA.2.2.1 a (by simp; omega), g9.2.2.1 a (by simp; omega), g7.2.2.1 a (by simp; omega), g6.2.2.1 a (by simp; omega), ← hL5, va_up_n a2, g4.2.2.1 a (by simp; omega), g3.2.2.1 a (by simp; omega)]
    have cL3 : LA 55 = vp_updL (L 55) (6 * b + k) v4 := by rw [gA.2.2.1 55 (by decide), g9.2.2.1 55 (by decide), g7.2.2.1 55 (by decide), g6.2.2.1 55 (by decide), ← hL5, va_up_s, g4.2.2.1 55 (by decide), g3.2.2.1 55 (by decide)]
    have e38B : va_up IA 46 (upd (IA 46) (6 * b + k) vA) 44 b = nI k := by rw [va_up_n (by decide), cI 44 (by decide) (by decide) (by decide)]; exact n2
    refine Ex.aload_n (pc := 95) dX10_hearing_95 rfl rfl ?_
    refine Ex.getI (pc := 96) dX10_hearing_96 fX10_36 (sh36 _) ?_
    refine Ex.if_ne (pc := 99) (tgt := 115) dX10_hearing_99 (by decide) (fun c99 => ?_) (fun c99 => ?_)
    · skip
      refine Ex.vret (pc := 115) rfl dX10_hearing_115 (Nat.le_refl _) (Nat.le_refl _) ?_
      have hff : fullB pl 6 = false := by rw [hfull]; exact decide_eq_false (by omega)
      refine ⟨_, _, rfl, rfl, fun z => (by rw [hff] at z; cases z), fun _ => ⟨oB, bB, eB, mB, fun t2 c2 z => ?_⟩⟩
      have mB := mB
      have z : tkV tb n 0 9 (tkO tb n 8 (tkV tb n 0 9 (tkO tb n 7 (tkN tb n pl (nx tb n (.ok (t, c))))))) = .ok (t2, c2) := z
      rw [z] at mB
      exact absurd (show RMo tb n _ LA t2 from mB).1 c99
    · skip
      refine Ex.aload_n (pc := 102) dX10_hearing_102 rfl rfl ?_
      refine Ex.getR (pc := 103) dX10_hearing_103 fX10_72 (sh36 _) r36_20 ?_
      refine Ex.aload_n (pc := 106) dX10_hearing_106 rfl rfl ?_
      refine Ex.getI (pc := 107) dX10_hearing_107 fX10_112 (sh36 _) ?_
      refine Ex.dup2 (pc := 110) dX10_hearing_110 rfl rfl ?_
      refine Ex.iald (pc := 111) (j := b) dX10_hearing_111 (sh44 _) (by rw [eB]; exact vp_in_nI (by omega) (by decide)) (by rw [eB]; exact nI_clamp (by omega)) ?_
      refine Ex.iconst (pc := 112) (v := 1) dX10_hearing_112 rfl ?_
      refine Ex.iadd (pc := 113) dX10_hearing_113 ?_
      rw [e38B, show nI k + 1 = nI (k + 1) from nI_1 k]
      refine Ex.iast (pc := 114) (j := b) dX10_hearing_114 (sh44 _) (by rw [eB]; exact vp_in_nI (by omega) (by decide)) (by rw [eB]; exact nI_clamp (by omega)) ?_
      refine Ex.vret (pc := 115) rfl dX10_hearing_115 (Nat.le_refl _) (Nat.le_refl _) ?_
      have hff : fullB pl 6 = false := by rw [hfull]; exact decide_eq_false (by omega)
      refine ⟨_, _, rfl, rfl, fun z => (by rw [hff] at z; cases z), fun _ => ?_⟩
      skip
      refine ⟨oB.tr ?_, bB.c (by rw [va_up_n (by decide)]) (va_up_n (by decide)), by rw [va_up_n (by decide)]; exact eB, mB.c36 (va_up_n (by decide)) rfl, fun t2 c2 z => ?_⟩
      · have := ob_a (b := b) (a := 44) (i := 0) (I := va_up IA 46 (upd (IA 46) (6 * b + k) vA)) (L := LA) (v := nI (k + 1)) (by decide) (by decide) (by decide)
        rw [show wdA 44 * b + 0 = b by unfold wdA; simp] at this
        exact this
      have z : tkV tb n 0 9 (tkO tb n 8 (tkV tb n 0 9 (tkO tb n 7 (tkN tb n pl (nx tb n (.ok (t, c))))))) = .ok (t2, c2) := z
      have h2 := hvA _ z
      have z2 := tkV_ok z
      obtain ⟨t3, c3, z3, _⟩ := isK_ok z2.1
      have z4 := tkO_ok z3
      obtain ⟨t5, c5, z5, _⟩ := isW_ok z4.1
      have h1 := hv7 _ z5
      have z6 := tkV_ok z5
      obtain ⟨t6, c6, z7, _⟩ := isK_ok z6.1
      have z8 := tkO_ok z7
      obtain ⟨t9, c9, z9, _⟩ := isW_ok z8.1
      have h0 := hv4 _ z9
      have hsc := ((sc_nx hbt (.ok (t, c))).tr (sc_th (q := 2) (w := 7) (hi := 9) (pl := pl) hbt (nx tb n (.ok (t, c)))))
      have hcc := hsc.2 t c t2 c2 rfl z
      have had := hsc.1.2.2 t c t2 c2 rfl z hM.2.2.1
      subst hcc
      refine ⟨PlM.add (q := 2) (k := k) hPl hb (by decide) hk.symm hkw (letR_ok m3 z9) (fun a a1 a2 a3 a4 a5 => ?_) ?_ ?_ ?_ (fun p p1 p2 => cL _ (by omega) (by omega)) ?_, ⟨?_, fun j s hj => ?_⟩, by omega⟩
      · rw [va_up_n (by omega), va_up_n (by omega)]; exact cI a (by omega) (by omega) (by omega)
      · show va_up _ 44 _ 44 = upd (I 44) b (nI (k + 1))
        rw [va_up_s, va_up_n (by decide), cI 44 (by decide) (by decide) (by decide)]
      · show va_up _ 44 _ 45 = upd (I 45) (6 * b + k) _
        rw [va_up_n (by decide), va_up_n (by decide), cI9, h1]; rfl
      · show va_up _ 44 _ 46 = upd (I 46) (6 * b + k) _
        rw [va_up_n (by decide), va_up_s, cI 46 (by decide) (by decide) (by decide), h2]; rfl
      · show LA 55 = vp_updL (L 55) (6 * b + k) _
        rw [cL3, h0]
      · rw [va_up_n (by decide), va_up_n (by decide), gA.2.1 32 (by decide), g9.2.1 32 (by decide), ← hI8, va_up_n (by decide), g7.2.1 32 (by decide), g6.2.1 32 (by decide), g4.2.1 32 (by decide), g3.2.1 32 (by decide)]; exact hCd.1
      · rw [va_up_n (by decide), va_up_n (by decide), va_up_n (by decide), va_up_n (by decide), cI 51 (by decide) (by decide) (by decide), cI 52 (by decide) (by decide) (by decide)]; exact hCd.2 j s hj
  · skip
    refine Ex.iconst (pc := 15) (v := 1) dX10_hearing_15 rfl ?_
    refine Ex.goto (pc := 16) (tgt := 20) dX10_hearing_16 (by decide) ?_
    refine Ex.callV (pc := 20) (As := [.int 1]) (rest := []) dX10_hearing_20 cX10_354 (tm_counts1 (tb := tb) (n := n) (c := c) hM) (sh36 _) rfl rfl (by decide) (Nat.le_refl _) (Nat.le_refl _) (Nat.le_of_ble_eq_true rfl) (Or.inl (fun r S' h => by obtain ⟨_, _, h, _⟩ := h; subst h; rfl)) (fun r S' hq _ _ => ?_)
    obtain ⟨I3, L3, rfl, rfl, g3, m3⟩ := hq
    refine Ex.if_ne (pc := 23) (tgt := 27) dX10_hearing_23 (by decide) (fun c23 => absurd (by decide) c23) (fun _ => ?_)
    refine Ex.vret (pc := 26) rfl dX10_hearing_26 (Nat.le_refl _) (Nat.le_refl _) ?_
    have hk5 : k = 6 := by
      rw [n2] at c12
      exact (nI_iff (by omega) (by decide)).mp c12
    rw [hk5] at hfull
    refine ⟨_, _, rfl, rfl, fun _ => ⟨hO0.tr g3.ob, hB.g g3, by rw [g3.2.1 33 (by decide)]; exact h33, m3.t, fun t2 c2 z => by cases z⟩, fun z => by rw [hfull] at z; exact absurd z (by decide)⟩
