theorem PlM.wtr {I I2 : aI} {L L2 : aL} {b m v : Nat} {pl : Pl} {q : Nat} (h : PlM I L b pl m) (hq : q = 47 ∨ q = 48) (hI : ∀ a, 38 ≤ a → a ≤ 50 → a ≠ q → I2 a = I a) (hv : I2 q b = nI v) (hL : ∀ p, p < 3 → L2 (53 + p) = L (53 + p)) : PlM I2 L2 b (if q = 47 then plW pl v else plD pl v) m := by
  have hN : NmP I2 L2 b pl := h.1.c (hI 38 (by omega) (by omega) (by omega)) (hI 41 (by omega) (by omega) (by omega)) (hI 44 (by omega) (by omega) (by omega)) hL
  have hT : ∀ q, q < 3 → ∀ j, j < pl.1 q → I2 (39 + 3 * q) (wd q * b + j) = nI (pl.2.2.1 q j) ∧ I2 (40 + 3 * q) (wd q * b + j) = nI (pl.2.2.2.1 q j) := fun p hp j hj => by
    rw [hI (39 + 3 * p) (by omega) (by omega) (by omega), hI (40 + 3 * p) (by omega) (by omega) (by omega)]; exact h.2.1 p hp j hj
  rcases hq with rfl | rfl
  · rw [if_pos rfl]
    exact ⟨hN, hT, hv, by rw [hI 48 (by omega) (by omega) (by omega)]; exact h.2.2.2.1, fun i hi => by rw [hI 49 (by omega) (by omega) (by omega), hI 50 (by omega) (by omega) (by omega)]; exact h.2.2.2.2 i hi⟩
  · rw [if_neg (by decide)]
    exact ⟨hN, hT, by rw [hI 47 (by omega) (by omega) (by omega)]; exact h.2.2.1, hv, fun i hi => by rw [hI 49 (by omega) (by omega) (by omega), hI 50 (by omega) (by omega) (by omega)]; exact h.2.2.2.2 i hi⟩
theorem PlM.ru {I I2 : aI} {L L2 : aL} {b m m2 w x y : Nat} {pl : Pl} (h : PlM I L b pl m) (hm : m ≤ m2) (hw : w < 5) (hxy : x < y) (hy : y ≤ m2) (hI : ∀ a, 38 ≤ a → a ≤ 48 → I2 a = I a) (h49 : I2 49 = upd (I 49) (5 * b + w) (nI x)) (h50 : I2 50 = upd (I 50) (5 * b + w) (nI y)) (hL : ∀ p, p < 3 → L2 (53 + p) = L (53 + p)) : PlM I2 L2 b (plU pl w x y) m2 := by
  have hN : NmP I2 L2 b pl := h.1.c (hI 38 (by omega) (by omega)) (hI 41 (by omega) (by omega)) (hI 44 (by omega) (by omega)) hL
  refine ⟨hN, fun p hp j hj => ?_, ?_, ?_, fun i hi => ?_⟩
  · rw [hI (39 + 3 * p) (by omega) (by omega), hI (40 + 3 * p) (by omega) (by omega)]; exact h.2.1 p hp j hj
  · rw [hI 47 (by omega) (by omega)]; exact h.2.2.1
  · rw [hI 48 (by omega) (by omega)]; exact h.2.2.2.1
  · show ((if i = w then x else pl.2.2.2.2.2.2.1 i) = (if i = w then y else pl.2.2.2.2.2.2.2 i) ∧ _) ∨ ((if i = w then x else pl.2.2.2.2.2.2.1 i) < (if i = w then y else pl.2.2.2.2.2.2.2 i) ∧ (if i = w then y else pl.2.2.2.2.2.2.2 i) ≤ m2 ∧ I2 49 (5 * b + i) = nI (if i = w then x else pl.2.2.2.2.2.2.1 i) ∧ I2 50 (5 * b + i) = nI (if i = w then y else pl.2.2.2.2.2.2.2 i))
    rw [h49, h50]
    by_cases e : i = w
    · subst e
      rw [if_pos rfl, if_pos rfl, upd_s, upd_s]
      exact Or.inr ⟨hxy, hy, rfl, rfl⟩
    · rw [if_neg e, if_neg e, upd_n (by omega), upd_n (by omega)]
      rcases h.2.2.2.2 i hi with q | q
      · exact Or.inl q
      · exact Or.inr ⟨q.1, by omega, q.2.2⟩
set_option maxRecDepth 20000 in
theorem tm_watering {N n b : Nat} {tb : Nat → Nat} {I0 I : aI} {L0 L : aL} {t : Tk} {c : Cd} {pl : Pl} (hb : b < 2) (h : Ps tb n b I0 L0 I L (.ok (t, c)) pl) : Run 3 0 0 mX10_watering [.ref 36] (St N I L) (RX N (fun x I2 L2 => x = none ∧ Ps tb n b I0 L0 I2 L2 (tkV tb n 0 99 (nx tb n (.ok (t, c)))) (plW pl (numR (nx tb n (.ok (t, c))))))) := by
  refine Run.of (ls := [some (.ref 36), none]) (by decide) (Nat.le_of_ble_eq_true rfl) rfl ?_
  obtain ⟨hO0, hB, h33, hM, hPC⟩ := h
  obtain ⟨hPl, hCd, hcl⟩ := hPC t c rfl
  have hM : RMo tb n I L t := hM
  have hbt : ∀ i, i < n → tb i < 256 := fun i hi => (hB.1 i hi).1
  refine Ex.aload_n (pc := 0) dX10_watering_0 rfl rfl ?_
  refine Ex.iconst (pc := 1) (v := 0) dX10_watering_1 rfl ?_
  refine Ex.callV (pc := 2) (As := [.int 0]) (rest := []) dX10_watering_2 cX10_354 (tm_counts0 (tb := tb) (n := n) (c := c) hB hM) (sh36 _) rfl rfl (by decide) (Nat.le_refl _) (Nat.le_refl _) (Nat.le_of_ble_eq_true rfl) (Or.inl (fun r S' h => by obtain ⟨_, _, h, _⟩ := h; subst h; rfl)) (fun r S' hq _ _ => ?_)
  obtain ⟨I3, L3, rfl, rfl, g3, m3, z3⟩ := hq
  have b3 := hB.g g3
  refine Ex.if_ne (pc := 5) (tgt := 9) dX10_watering_5 (by decide) (fun _ => ?_) (fun c5 => absurd c5 (by decide))
  refine Ex.aload_n (pc := 9) dX10_watering_9 rfl rfl ?_
  refine Ex.iconst (pc := 10) (v := 0) dX10_watering_10 rfl ?_
  refine Ex.bipush (pc := 11) (v := 99) dX10_watering_11 rfl ?_
  refine Ex.callV (pc := 13) (As := [.int 0, .int 99]) (rest := []) dX10_watering_13 cX10_366 (tm_number (lo := 0) (hi := 99) b3 (by decide) (by decide) m3) (sh36 _) rfl rfl (by decide) (Nat.le_refl _) (Nat.le_refl _) (Nat.le_of_ble_eq_true rfl) (Or.inl (fun r S' h => by obtain ⟨_, _, h, _⟩ := h; subst h; rfl)) (fun r S' hq _ _ => ?_)
  obtain ⟨I4, L4, rfl, v4, rfl, g4, m4, hv4⟩ := hq
  have b4 := b3.g g4
  have e33 : I4 36 33 = nI b := by rw [g4.2.1 33 (by decide), g3.2.1 33 (by decide)]; exact h33
  have o4 := (hO0.tr g3.ob).tr (MkG.ob (b := b) g4)
  refine Ex.istore_n (pc := 16) (ls' := [some (.ref 36), some (.int _)]) dX10_watering_16 rfl (by decide) rfl rfl ?_
  refine Ex.aload_n (pc := 17) dX10_watering_17 rfl rfl ?_
  refine Ex.getI (pc := 18) dX10_watering_18 fX10_36 (sh36 _) ?_
  refine Ex.if_ne (pc := 21) (tgt := 34) dX10_watering_21 (by decide) (fun c21 => ?_) (fun c21 => ?_)
  · skip
    refine Ex.vret (pc := 34) rfl dX10_watering_34 (Nat.le_refl _) (Nat.le_refl _) ?_
    refine ⟨_, _, rfl, rfl, o4, b4, e33, m4, fun t2 c2 z => ?_⟩
    rw [z] at m4
    exact absurd (show RMo tb n I4 L4 t2 from m4).1 c21
  · skip
    refine Ex.aload_n (pc := 24) dX10_watering_24 rfl rfl ?_
    refine Ex.getR (pc := 25) dX10_watering_25 fX10_81 (sh36 _) r36_23 ?_
    refine Ex.aload_n (pc := 28) dX10_watering_28 rfl rfl ?_
    refine Ex.getI (pc := 29) dX10_watering_29 fX10_112 (sh36 _) ?_
    refine Ex.iload_n (pc := 32) dX10_watering_32 rfl rfl ?_
    refine Ex.iast (pc := 33) (j := b) dX10_watering_33 (sh47 _) (by rw [e33]; exact vp_in_nI (by omega) (by decide)) (by rw [e33]; exact nI_clamp (by omega)) ?_
    refine Ex.vret (pc := 34) rfl dX10_watering_34 (Nat.le_refl _) (Nat.le_refl _) ?_
    refine ⟨_, _, rfl, rfl, o4.tr ?_, b4.c (by rw [va_up_n (by decide)]) (va_up_n (by decide)), by rw [va_up_n (by decide)]; exact e33, m4.c36 (va_up_n (by decide)) rfl, fun t2 c2 z => ?_⟩
    · have := ob_a (b := b) (a := 47) (i := 0) (I := I4) (L := L4) (v := v4) (by decide) (by decide) (by decide)
      rw [show wdA 47 * b + 0 = b by unfold wdA; simp] at this
      exact this
    have h4 := hv4 _ z
    have hsc := (sc_nx hbt (.ok (t, c))).tr (sc_tkV (lo := 0) (hi := 99) hbt (nx tb n (.ok (t, c))))
    have hcc := hsc.2 t c t2 c2 rfl z
    have had := hsc.1.2.2 t c t2 c2 rfl z hM.2.2.1
    subst hcc
    have cI : ∀ a, 37 < a → I4 a = I a := fun a a1 => by rw [g4.1 a (by simp; omega), g3.1 a (by simp; omega)]
    refine ⟨PlM.wtr (q := 47) hPl (by decide) (fun a a1 a2 a3 => by rw [va_up_n a3]; exact cI a (by omega)) (by rw [va_up_s, upd_s, h4]) (fun p _ => by rw [g4.2.2.1 (53 + p) (by simp; omega), g3.2.2.1 (53 + p) (by simp; omega)]), hCd.c (by rw [va_up_n (by decide), g4.2.1 32 (by decide), g3.2.1 32 (by decide)]) (by rw [va_up_n (by decide)]; exact cI 51 (by decide)) (by rw [va_up_n (by decide)]; exact cI 52 (by decide)), by omega⟩
set_option maxRecDepth 20000 in
theorem tm_drying {N n b : Nat} {tb : Nat → Nat} {I0 I : aI} {L0 L : aL} {t : Tk} {c : Cd} {pl : Pl} (hb : b < 2) (h : Ps tb n b I0 L0 I L (.ok (t, c)) pl) : Run 3 0 0 mX10_drying [.ref 36] (St N I L) (RX N (fun x I2 L2 => x = none ∧ Ps tb n b I0 L0 I2 L2 (tkV tb n 0 100 (nx tb n (.ok (t, c)))) (plD pl (numR (nx tb n (.ok (t, c))))))) := by
  refine Run.of (ls := [some (.ref 36), none]) (by decide) (Nat.le_of_ble_eq_true rfl) rfl ?_
  obtain ⟨hO0, hB, h33, hM, hPC⟩ := h
  obtain ⟨hPl, hCd, hcl⟩ := hPC t c rfl
  have hM : RMo tb n I L t := hM
  have hbt : ∀ i, i < n → tb i < 256 := fun i hi => (hB.1 i hi).1
  refine Ex.aload_n (pc := 0) dX10_drying_0 rfl rfl ?_
  refine Ex.iconst (pc := 1) (v := 0) dX10_drying_1 rfl ?_
  refine Ex.callV (pc := 2) (As := [.int 0]) (rest := []) dX10_drying_2 cX10_354 (tm_counts0 (tb := tb) (n := n) (c := c) hB hM) (sh36 _) rfl rfl (by decide) (Nat.le_refl _) (Nat.le_refl _) (Nat.le_of_ble_eq_true rfl) (Or.inl (fun r S' h => by obtain ⟨_, _, h, _⟩ := h; subst h; rfl)) (fun r S' hq _ _ => ?_)
  obtain ⟨I3, L3, rfl, rfl, g3, m3, z3⟩ := hq
  have b3 := hB.g g3
  refine Ex.if_ne (pc := 5) (tgt := 9) dX10_drying_5 (by decide) (fun _ => ?_) (fun c5 => absurd c5 (by decide))
  refine Ex.aload_n (pc := 9) dX10_drying_9 rfl rfl ?_
  refine Ex.iconst (pc := 10) (v := 0) dX10_drying_10 rfl ?_
  refine Ex.bipush (pc := 11) (v := 100) dX10_drying_11 rfl ?_
  refine Ex.callV (pc := 13) (As := [.int 0, .int 100]) (rest := []) dX10_drying_13 cX10_366 (tm_number (lo := 0) (hi := 100) b3 (by decide) (by decide) m3) (sh36 _) rfl rfl (by decide) (Nat.le_refl _) (Nat.le_refl _) (Nat.le_of_ble_eq_true rfl) (Or.inl (fun r S' h => by obtain ⟨_, _, h, _⟩ := h; subst h; rfl)) (fun r S' hq _ _ => ?_)
  obtain ⟨I4, L4, rfl, v4, rfl, g4, m4, hv4⟩ := hq
  have b4 := b3.g g4
  have e33 : I4 36 33 = nI b := by rw [g4.2.1 33 (by decide), g3.2.1 33 (by decide)]; exact h33
  have o4 := (hO0.tr g3.ob).tr (MkG.ob (b := b) g4)
  refine Ex.istore_n (pc := 16) (ls' := [some (.ref 36), some (.int _)]) dX10_drying_16 rfl (by decide) rfl rfl ?_
  refine Ex.aload_n (pc := 17) dX10_drying_17 rfl rfl ?_
  refine Ex.getI (pc := 18) dX10_drying_18 fX10_36 (sh36 _) ?_
  refine Ex.if_ne (pc := 21) (tgt := 34) dX10_drying_21 (by decide) (fun c21 => ?_) (fun c21 => ?_)
  · skip
    refine Ex.vret (pc := 34) rfl dX10_drying_34 (Nat.le_refl _) (Nat.le_refl _) ?_
    refine ⟨_, _, rfl, rfl, o4, b4, e33, m4, fun t2 c2 z => ?_⟩
    rw [z] at m4
    exact absurd (show RMo tb n I4 L4 t2 from m4).1 c21
  · skip
    refine Ex.aload_n (pc := 24) dX10_drying_24 rfl rfl ?_
    refine Ex.getR (pc := 25) dX10_drying_25 fX10_84 (sh36 _) r36_24 ?_
    refine Ex.aload_n (pc := 28) dX10_drying_28 rfl rfl ?_
    refine Ex.getI (pc := 29) dX10_drying_29 fX10_112 (sh36 _) ?_
    refine Ex.iload_n (pc := 32) dX10_drying_32 rfl rfl ?_
    refine Ex.iast (pc := 33) (j := b) dX10_drying_33 (sh48 _) (by rw [e33]; exact vp_in_nI (by omega) (by decide)) (by rw [e33]; exact nI_clamp (by omega)) ?_
    refine Ex.vret (pc := 34) rfl dX10_drying_34 (Nat.le_refl _) (Nat.le_refl _) ?_
    refine ⟨_, _, rfl, rfl, o4.tr ?_, b4.c (by rw [va_up_n (by decide)]) (va_up_n (by decide)), by rw [va_up_n (by decide)]; exact e33, m4.c36 (va_up_n (by decide)) rfl, fun t2 c2 z => ?_⟩
    · have := ob_a (b := b) (a := 48) (i := 0) (I := I4) (L := L4) (v := v4) (by decide) (by decide) (by decide)
      rw [show wdA 48 * b + 0 = b by unfold wdA; simp] at this
      exact this
    have h4 := hv4 _ z
    have hsc := (sc_nx hbt (.ok (t, c))).tr (sc_tkV (lo := 0) (hi := 100) hbt (nx tb n (.ok (t, c))))
    have hcc := hsc.2 t c t2 c2 rfl z
    have had := hsc.1.2.2 t c t2 c2 rfl z hM.2.2.1
    subst hcc
    have cI : ∀ a, 37 < a → I4 a = I a := fun a a1 => by rw [g4.1 a (by simp; omega), g3.1 a (by simp; omega)]
    refine ⟨PlM.wtr (q := 48) hPl (by decide) (fun a a1 a2 a3 => by rw [va_up_n a3]; exact cI a (by omega)) (by rw [va_up_s, upd_s, h4]) (fun p _ => by rw [g4.2.2.1 (53 + p) (by simp; omega), g3.2.2.1 (53 + p) (by simp; omega)]), hCd.c (by rw [va_up_n (by decide), g4.2.1 32 (by decide), g3.2.1 32 (by decide)]) (by rw [va_up_n (by decide)]; exact cI 51 (by decide)) (by rw [va_up_n (by decide)]; exact cI 52 (by decide)), by omega⟩
set_option maxRecDepth 20000 in
theorem tm_reading {N n b : Nat} {tb : Nat → Nat} {I0 I : aI} {L0 L : aL} {t : Tk} {c : Cd} {pl : Pl} {w : Nat} (hb : b < 2) (hw : w < 5) (h : Ps tb n b I0 L0 I L (.ok (t, c)) pl) : Run 5 0 0 mX10_reading [.ref 36, .int (nI w)] (St N I L) (RX N (fun x I2 L2 => x = none ∧ (fullB pl (9 + w) = true → Ps tb n b I0 L0 I2 L2 (.error (6, t.2.2.2.1)) pl) ∧ (fullB pl (9 + w) = false → Ps tb n b I0 L0 I2 L2 (ruF tb n (9 + w) (nx tb n (.ok (t, c)))) (plU pl w (lenR (nx tb n (.ok (t, c)))) (lenR (ruF tb n (9 + w) (nx tb n (.ok (t, c))))))))) := by
  refine Run.of (ls := [some (.ref 36), some (.int _), none]) (by decide) (Nat.le_of_ble_eq_true rfl) rfl ?_
  obtain ⟨hO0, hB, h33, hM, hPC⟩ := h
  obtain ⟨hPl, hCd, hcl⟩ := hPC t c rfl
  have hM : RMo tb n I L t := hM
  have hbt : ∀ i, i < n → tb i < 256 := fun i hi => (hB.1 i hi).1
  have hful : fullB pl (9 + w) = decide (pl.2.2.2.2.2.2.1 w < pl.2.2.2.2.2.2.2 w) := by
    unfold fullB
    rw [if_neg (by omega), if_neg (by omega), if_neg (by omega), if_neg (by omega), show 9 + w - 9 = w by omega]
  have ek : 5 * nI b + nI w = nI (5 * b + w) := by
    have hz : ∀ b, b < 2 → ∀ w, w < 5 → (5 : Int32) * nI b + nI w = nI (5 * b + w) := by decide +kernel
    exact hz b hb w hw
  have hne : I 49 (5 * b + w) = -1 ↔ fullB pl (9 + w) = false := by
    rw [hful]
    rcases hPl.2.2.2.2 w hw with q | q
    · exact ⟨fun _ => decide_eq_false (by omega), fun _ => q.2⟩
    · refine ⟨fun z => ?_, fun z => absurd q.1 (of_decide_eq_false z)⟩
      rw [q.2.2.1] at z
      have h1 : c.length ≤ 1600 := by have := hM.2.2.1.2.2.1; have := hM.2.2.1.2.2.2.1; have := hB.2.2; omega
      have := q.2.1
      exact absurd (show nI (pl.2.2.2.2.2.2.1 w) < 0 by rw [z]; decide) (nI_pos (by omega))
  have hl2 : nI w = 2 ↔ w = 2 := nI_iff (b := 2) (by omega) (by decide)
  have hl3 : nI w = 3 ↔ w = 3 := nI_iff (b := 3) (by omega) (by decide)
  have hcl16 : c.length ≤ 1600 := by have := hM.2.2.1.2.2.1; have := hM.2.2.1.2.2.2.1; have := hB.2.2; omega
  refine Ex.iconst (pc := 0) (v := 5) dX10_reading_0 rfl ?_
  refine Ex.aload_n (pc := 1) dX10_reading_1 rfl rfl ?_
  refine Ex.getI (pc := 2) dX10_reading_2 fX10_112 (sh36 _) ?_
  refine Ex.imul (pc := 5) dX10_reading_5 ?_
  refine Ex.iload_n (pc := 6) dX10_reading_6 rfl rfl ?_
  refine Ex.iadd (pc := 7) dX10_reading_7 ?_
  rw [h33, ek]
  refine Ex.istore_n (pc := 8) (ls' := [some (.ref 36), some (.int _), some (.int _)]) dX10_reading_8 rfl (by decide) rfl rfl ?_
  refine Ex.aload_n (pc := 9) dX10_reading_9 rfl rfl ?_
  refine Ex.aload_n (pc := 10) dX10_reading_10 rfl rfl ?_
  refine Ex.getR (pc := 11) dX10_reading_11 fX10_87 (sh36 _) r36_25 ?_
  refine Ex.iload_n (pc := 14) dX10_reading_14 rfl rfl ?_
  refine Ex.iald (pc := 15) (j := 5 * b + w) dX10_reading_15 (sh49 _) (vp_in_nI (by omega) (by decide)) (nI_clamp (by omega)) ?_
  refine Ex.iconst (pc := 16) (v := (-1)) dX10_reading_16 rfl ?_
  refine Ex.icmp_eq (pc := 17) (tgt := 24) dX10_reading_17 (by decide) (fun c17 => ?_) (fun c17 => ?_)
  · skip
    refine Ex.iconst (pc := 24) (v := 0) dX10_reading_24 rfl ?_
    refine Ex.callV (pc := 25) (As := [.int 0]) (rest := []) dX10_reading_25 cX10_354 (tm_counts0 (tb := tb) (n := n) (c := c) hB hM) (sh36 _) rfl rfl (by decide) (Nat.le_refl _) (Nat.le_refl _) (Nat.le_of_ble_eq_true rfl) (Or.inl (fun r S' h => by obtain ⟨_, _, h, _⟩ := h; subst h; rfl)) (fun r S' hq _ _ => ?_)
    obtain ⟨I3, L3, rfl, rfl, g3, m3, z3⟩ := hq
    refine Ex.if_ne (pc := 28) (tgt := 32) dX10_reading_28 (by decide) (fun _ => ?_) (fun c28 => absurd c28 (by decide))
    refine Ex.aload_n (pc := 32) dX10_reading_32 rfl rfl ?_
    refine Ex.iload_n (pc := 33) dX10_reading_33 rfl rfl ?_
    refine Ex.putI (pc := 34) dX10_reading_34 fX10_115 (sh36 _) (Or.inl rfl) ⟨rfl, rfl⟩ ?_
    refine Ex.aload_n (pc := 37) dX10_reading_37 rfl rfl ?_
    refine Ex.getR (pc := 38) dX10_reading_38 fX10_87 (sh36 _) r36_25 ?_
    refine Ex.iload_n (pc := 41) dX10_reading_41 rfl rfl ?_
    refine Ex.aload_n (pc := 42) dX10_reading_42 rfl rfl ?_
    refine Ex.getI (pc := 43) dX10_reading_43 fX10_109 (sh36 _) ?_
    refine Ex.iast (pc := 46) (j := 5 * b + w) dX10_reading_46 (sh49 _) (vp_in_nI (by omega) (by decide)) (nI_clamp (by omega)) ?_
    obtain ⟨J, hJ⟩ : ∃ J, J = va_up (mf I3 34 (nI w)) 49 (upd (I3 49) (5 * b + w) (nI c.length)) := ⟨_, rfl⟩
    have e32 : I3 36 32 = nI c.length := by rw [g3.2.1 32 (by decide)]; exact hCd.1
    refine Ex.mm (S' := St N J L3) (by rw [hJ, ← e32]; rfl) ?_
    have j36 : ∀ j, j ≠ 34 → J 36 j = I3 36 j := fun j hj => by rw [hJ, va_up_n (by decide), mf_n hj]
    have jo : ∀ a, a ≠ 36 → a ≠ 49 → J a = I3 a := fun a a1 a2 => by rw [hJ, va_up_n a2, mf_o a1]
    have j49 : J 49 = upd (I3 49) (5 * b + w) (nI c.length) := by rw [hJ, va_up_s]
    have j34 : J 36 34 = nI w := by rw [hJ, va_up_n (by decide), mf_s]
    have mJ : RMt tb n J L3 (nx tb n (.ok (t, c))) := by
      generalize (nx tb n (.ok (t, c))) = r1 at m3
      rcases r1 with e | ⟨t1, c1⟩
      · unfold RMt RMe at *; rw [j36 8 (by decide), j36 9 (by decide), j36 12 (by decide), j36 3 (by decide)]; exact m3
      · unfold RMt RMo TmE at *; rw [j36 8 (by decide), j36 12 (by decide), j36 3 (by decide), j36 4 (by decide), j36 5 (by decide), j36 6 (by decide), j36 9 (by decide)]; exact m3
    have bJ : MB tb n J := (hB.g g3).c (j36 2 (by decide)) (jo 37 (by decide) (by decide))
    have e33 : J 36 33 = nI b := by rw [j36 33 (by decide), g3.2.1 33 (by decide)]; exact h33
    have e8 : J 36 8 = 0 := by rw [j36 8 (by decide)]; exact z3
    have oJ : Ob b I0 L0 J L3 := by
      refine (hO0.tr g3.ob).tr ⟨fun a ha => jo a (by omega) (by omega), fun j hj => j36 j (fun e => hj (by rw [e]; decide)), fun a a1 a2 j hj => ?_, fun _ _ => rfl, fun _ _ => rfl, fun _ _ _ _ => rfl⟩
      by_cases e : a = 49
      · subst e; have hj : j < 5 * b ∨ 5 * b + 5 ≤ j := hj
        rw [j49, upd_n (by omega)]
      · rw [jo a (by omega) e]
    have hC3 : ∀ t2 c2, (nx tb n (.ok (t, c))) = .ok (t2, c2) → CdM J b c2 ∧ c2.length ≤ t2.2.2.2.1 := fun t2 c2 z => by
      have hsc := sc_nx hbt (.ok (t, c))
      have hcc := hsc.2 t c t2 c2 rfl z
      have had := hsc.1.2.2 t c t2 c2 rfl z hM.2.2.1
      subst hcc
      exact ⟨(hCd.g g3).c (j36 32 (by decide)) (jo 51 (by decide) (by decide)) (jo 52 (by decide) (by decide)), by omega⟩
    refine Ex.aload_n (pc := 47) dX10_reading_47 rfl rfl ?_
    refine Ex.iload_n (pc := 48) dX10_reading_48 rfl rfl ?_
    refine Ex.iconst (pc := 49) (v := 2) dX10_reading_49 rfl ?_
    refine Ex.icmp_eq (pc := 50) (tgt := 58) dX10_reading_50 (by decide) (fun c50 => ?_) (fun c50 => ?_)
    · skip
      refine Ex.iconst (pc := 58) (v := 1) dX10_reading_58 rfl ?_
      refine Ex.goto (pc := 59) (tgt := 63) dX10_reading_59 (by decide) ?_
      refine Ex.callV (pc := 63) (As := [.int 1]) (rest := []) dX10_reading_63 cX10_369 (tm_reads (w := w) (q := true) hb hw bJ e33 j34 e8 mJ hC3) (sh36 _) rfl rfl (by decide) (Nat.le_refl _) (Nat.le_refl _) (Nat.le_of_ble_eq_true rfl) (Or.inl (fun r S' h => by obtain ⟨_, _, h, _⟩ := h; subst h; rfl)) (fun r S' hq _ _ => ?_)
      obtain ⟨I5, L5, rfl, rfl, g5, m5, k5⟩ := hq
      refine Ex.aload_n (pc := 66) dX10_reading_66 rfl rfl ?_
      refine Ex.getR (pc := 67) dX10_reading_67 fX10_90 (sh36 _) r36_26 ?_
      refine Ex.iload_n (pc := 70) dX10_reading_70 rfl rfl ?_
      refine Ex.aload_n (pc := 71) dX10_reading_71 rfl rfl ?_
      refine Ex.getI (pc := 72) dX10_reading_72 fX10_109 (sh36 _) ?_
      refine Ex.iast (pc := 75) (j := 5 * b + w) dX10_reading_75 (sh50 _) (vp_in_nI (by omega) (by decide)) (nI_clamp (by omega)) ?_
      refine Ex.vret (pc := 76) rfl dX10_reading_76 (Nat.le_refl _) (Nat.le_refl _) ?_
      have hf0 := hne.mp c17
      have hru : (lvl tb n (9 + w) 7).2.1 (nx tb n (.ok (t, c))) = (ruF tb n (9 + w) (nx tb n (.ok (t, c)))) := by unfold ruF; rw [if_pos (by have := hl2.mp c50; omega)]
      rw [if_pos rfl, hru] at m5
      rw [if_pos rfl, hru] at k5
      refine ⟨_, _, rfl, rfl, fun z => (by rw [hf0] at z; cases z), fun _ => ?_⟩
      have o5 := oJ.tr g5.ob
      have ob2 := ob_a (b := b) (a := 50) (i := w) (I := I5) (L := L5) (v := I5 36 32) (by decide) (by decide) (show w < 5 from hw)
      refine ⟨o5.tr ob2, (bJ.r g5).c (by rw [va_up_n (by decide)]) (va_up_n (by decide)), by rw [va_up_n (by decide), g5.2.1 33 (by decide)]; exact e33, m5.t.c36 (va_up_n (by decide)) rfl, fun t2 c2 z => ?_⟩
      obtain ⟨kc, kl⟩ := k5 t2 c2 z
      obtain ⟨t1, c1, h1⟩ : ∃ t1 c1, (nx tb n (.ok (t, c))) = .ok (t1, c1) := by
        generalize (nx tb n (.ok (t, c))) = r1 at z
        rcases r1 with e | ⟨t1, c1⟩
        · rw [(ad_ru hbt _).2.1 e rfl] at z; cases z
        · exact ⟨t1, c1, rfl⟩
      have hc1 := nx_c h1
      rw [hc1] at h1
      have hgr := (gr_ru (tb := tb) (n := n) (k := 9 + w) _).2 t1 c t2 c2 h1 z
      have l1 : lenR (nx tb n (.ok (t, c))) = c.length := by rw [h1]; rfl
      have l2 : lenR (ruF tb n (9 + w) (nx tb n (.ok (t, c)))) = c2.length := by rw [z]; rfl
      rw [l1, l2]
      refine ⟨PlM.ru hPl (by omega) hw (by omega) (Nat.le_refl _) (fun a a1 a2 => ?_) ?_ ?_ (fun p p1 => ?_), kc.c (by rw [va_up_n (by decide)]) (va_up_n (by decide)) (va_up_n (by decide)), kl⟩
      · rw [va_up_n (by omega), g5.1 a (by simp; omega), jo a (by omega) (by omega), g3.1 a (by simp; omega)]
      · rw [va_up_n (by decide), g5.1 49 (by decide), j49, g3.1 49 (by decide)]
      · rw [va_up_s, g5.1 50 (by decide), jo 50 (by decide) (by decide), g3.1 50 (by decide), kc.1]
      · rw [g5.2.2.2.1 (53 + p) (by simp; omega), g3.2.2.1 (53 + p) (by simp; omega)]
    · skip
      refine Ex.iload_n (pc := 53) dX10_reading_53 rfl rfl ?_
      refine Ex.iconst (pc := 54) (v := 3) dX10_reading_54 rfl ?_
      refine Ex.icmp_ne (pc := 55) (tgt := 62) dX10_reading_55 (by decide) (fun c55 => ?_) (fun c55 => ?_)
      · skip
        refine Ex.iconst (pc := 62) (v := 0) dX10_reading_62 rfl ?_
        refine Ex.callV (pc := 63) (As := [.int 0]) (rest := []) dX10_reading_63 cX10_369 (tm_reads (w := w) (q := false) hb hw bJ e33 j34 e8 mJ hC3) (sh36 _) rfl rfl (by decide) (Nat.le_refl _) (Nat.le_refl _) (Nat.le_of_ble_eq_true rfl) (Or.inl (fun r S' h => by obtain ⟨_, _, h, _⟩ := h; subst h; rfl)) (fun r S' hq _ _ => ?_)
        obtain ⟨I5, L5, rfl, rfl, g5, m5, k5⟩ := hq
        refine Ex.aload_n (pc := 66) dX10_reading_66 rfl rfl ?_
        refine Ex.getR (pc := 67) dX10_reading_67 fX10_90 (sh36 _) r36_26 ?_
        refine Ex.iload_n (pc := 70) dX10_reading_70 rfl rfl ?_
        refine Ex.aload_n (pc := 71) dX10_reading_71 rfl rfl ?_
        refine Ex.getI (pc := 72) dX10_reading_72 fX10_109 (sh36 _) ?_
        refine Ex.iast (pc := 75) (j := 5 * b + w) dX10_reading_75 (sh50 _) (vp_in_nI (by omega) (by decide)) (nI_clamp (by omega)) ?_
        refine Ex.vret (pc := 76) rfl dX10_reading_76 (Nat.le_refl _) (Nat.le_refl _) ?_
        have hf0 := hne.mp c17
        have hru : (lvl tb n (9 + w) 7).1 (nx tb n (.ok (t, c))) = (ruF tb n (9 + w) (nx tb n (.ok (t, c)))) := by unfold ruF; rw [if_neg (by have := mt hl2.mpr c50; have := mt hl3.mpr c55; omega)]
        rw [if_neg (by decide), hru] at m5
        rw [if_neg (by decide), hru] at k5
        refine ⟨_, _, rfl, rfl, fun z => (by rw [hf0] at z; cases z), fun _ => ?_⟩
        have o5 := oJ.tr g5.ob
        have ob2 := ob_a (b := b) (a := 50) (i := w) (I := I5) (L := L5) (v := I5 36 32) (by decide) (by decide) (show w < 5 from hw)
        refine ⟨o5.tr ob2, (bJ.r g5).c (by rw [va_up_n (by decide)]) (va_up_n (by decide)), by rw [va_up_n (by decide), g5.2.1 33 (by decide)]; exact e33, m5.t.c36 (va_up_n (by decide)) rfl, fun t2 c2 z => ?_⟩
        obtain ⟨kc, kl⟩ := k5 t2 c2 z
        obtain ⟨t1, c1, h1⟩ : ∃ t1 c1, (nx tb n (.ok (t, c))) = .ok (t1, c1) := by
          generalize (nx tb n (.ok (t, c))) = r1 at z
          rcases r1 with e | ⟨t1, c1⟩
          · rw [(ad_ru hbt _).2.1 e rfl] at z; cases z
          · exact ⟨t1, c1, rfl⟩
        have hc1 := nx_c h1
        rw [hc1] at h1
        have hgr := (gr_ru (tb := tb) (n := n) (k := 9 + w) _).2 t1 c t2 c2 h1 z
        have l1 : lenR (nx tb n (.ok (t, c))) = c.length := by rw [h1]; rfl
        have l2 : lenR (ruF tb n (9 + w) (nx tb n (.ok (t, c)))) = c2.length := by rw [z]; rfl
        rw [l1, l2]
        refine ⟨PlM.ru hPl (by omega) hw (by omega) (Nat.le_refl _) (fun a a1 a2 => ?_) ?_ ?_ (fun p p1 => ?_), kc.c (by rw [va_up_n (by decide)]) (va_up_n (by decide)) (va_up_n (by decide)), kl⟩
        · rw [va_up_n (by omega), g5.1 a (by simp; omega), jo a (by omega) (by omega), g3.1 a (by simp; omega)]
        · rw [va_up_n (by decide), g5.1 49 (by decide), j49, g3.1 49 (by decide)]
        · rw [va_up_s, g5.1 50 (by decide), jo 50 (by decide) (by decide), g3.1 50 (by decide), kc.1]
        · rw [g5.2.2.2.1 (53 + p) (by simp; omega), g3.2.2.1 (53 + p) (by simp; omega)]
      · skip
        refine Ex.iconst (pc := 58) (v := 1) dX10_reading_58 rfl ?_
        refine Ex.goto (pc := 59) (tgt := 63) dX10_reading_59 (by decide) ?_
        refine Ex.callV (pc := 63) (As := [.int 1]) (rest := []) dX10_reading_63 cX10_369 (tm_reads (w := w) (q := true) hb hw bJ e33 j34 e8 mJ hC3) (sh36 _) rfl rfl (by decide) (Nat.le_refl _) (Nat.le_refl _) (Nat.le_of_ble_eq_true rfl) (Or.inl (fun r S' h => by obtain ⟨_, _, h, _⟩ := h; subst h; rfl)) (fun r S' hq _ _ => ?_)
        obtain ⟨I5, L5, rfl, rfl, g5, m5, k5⟩ := hq
        refine Ex.aload_n (pc := 66) dX10_reading_66 rfl rfl ?_
        refine Ex.getR (pc := 67) dX10_reading_67 fX10_90 (sh36 _) r36_26 ?_
        refine Ex.iload_n (pc := 70) dX10_reading_70 rfl rfl ?_
        refine Ex.aload_n (pc := 71) dX10_reading_71 rfl rfl ?_
        refine Ex.getI (pc := 72) dX10_reading_72 fX10_109 (sh36 _) ?_
        refine Ex.iast (pc := 75) (j := 5 * b + w) dX10_reading_75 (sh50 _) (vp_in_nI (by omega) (by decide)) (nI_clamp (by omega)) ?_
        refine Ex.vret (pc := 76) rfl dX10_reading_76 (Nat.le_refl _) (Nat.le_refl _) ?_
        have hf0 := hne.mp c17
        have hru : (lvl tb n (9 + w) 7).2.1 (nx tb n (.ok (t, c))) = (ruF tb n (9 + w) (nx tb n (.ok (t, c)))) := by unfold ruF; rw [if_pos (by have := hl3.mp c55; omega)]
        rw [if_pos rfl, hru] at m5
        rw [if_pos rfl, hru] at k5
        refine ⟨_, _, rfl, rfl, fun z => (by rw [hf0] at z; cases z), fun _ => ?_⟩
        have o5 := oJ.tr g5.ob
        have ob2 := ob_a (b := b) (a := 50) (i := w) (I := I5) (L := L5) (v := I5 36 32) (by decide) (by decide) (show w < 5 from hw)
        refine ⟨o5.tr ob2, (bJ.r g5).c (by rw [va_up_n (by decide)]) (va_up_n (by decide)), by rw [va_up_n (by decide), g5.2.1 33 (by decide)]; exact e33, m5.t.c36 (va_up_n (by decide)) rfl, fun t2 c2 z => ?_⟩
        obtain ⟨kc, kl⟩ := k5 t2 c2 z
        obtain ⟨t1, c1, h1⟩ : ∃ t1 c1, (nx tb n (.ok (t, c))) = .ok (t1, c1) := by
          generalize (nx tb n (.ok (t, c))) = r1 at z
          rcases r1 with e | ⟨t1, c1⟩
          · rw [(ad_ru hbt _).2.1 e rfl] at z; cases z
          · exact ⟨t1, c1, rfl⟩
        have hc1 := nx_c h1
        rw [hc1] at h1
        have hgr := (gr_ru (tb := tb) (n := n) (k := 9 + w) _).2 t1 c t2 c2 h1 z
        have l1 : lenR (nx tb n (.ok (t, c))) = c.length := by rw [h1]; rfl
        have l2 : lenR (ruF tb n (9 + w) (nx tb n (.ok (t, c)))) = c2.length := by rw [z]; rfl
        rw [l1, l2]
        refine ⟨PlM.ru hPl (by omega) hw (by omega) (Nat.le_refl _) (fun a a1 a2 => ?_) ?_ ?_ (fun p p1 => ?_), kc.c (by rw [va_up_n (by decide)]) (va_up_n (by decide)) (va_up_n (by decide)), kl⟩
        · rw [va_up_n (by omega), g5.1 a (by simp; omega), jo a (by omega) (by omega), g3.1 a (by simp; omega)]
        · rw [va_up_n (by decide), g5.1 49 (by decide), j49, g3.1 49 (by decide)]
        · rw [va_up_s, g5.1 50 (by decide), jo 50 (by decide) (by decide), g3.1 50 (by decide), kc.1]
        · rw [g5.2.2.2.1 (53 + p) (by simp; omega), g3.2.2.1 (53 + p) (by simp; omega)]
  · skip
    refine Ex.iconst (pc := 20) (v := 1) dX10_reading_20 rfl ?_
    refine Ex.goto (pc := 21) (tgt := 25) dX10_reading_21 (by decide) ?_
    refine Ex.callV (pc := 25) (As := [.int 1]) (rest := []) dX10_reading_25 cX10_354 (tm_counts1 (tb := tb) (n := n) (c := c) hM) (sh36 _) rfl rfl (by decide) (Nat.le_refl _) (Nat.le_refl _) (Nat.le_of_ble_eq_true rfl) (Or.inl (fun r S' h => by obtain ⟨_, _, h, _⟩ := h; subst h; rfl)) (fun r S' hq _ _ => ?_)
    obtain ⟨I3, L3, rfl, rfl, g3, m3⟩ := hq
    refine Ex.if_ne (pc := 28) (tgt := 32) dX10_reading_28 (by decide) (fun c28 => absurd (by decide) c28) (fun _ => ?_)
    refine Ex.vret (pc := 31) rfl dX10_reading_31 (Nat.le_refl _) (Nat.le_refl _) ?_
    have hf1 : fullB pl (9 + w) = true := by
      cases z : fullB pl (9 + w) with
      | true => rfl
      | false => exact absurd (hne.mpr z) c17
    exact ⟨_, _, rfl, rfl, fun _ => ⟨hO0.tr g3.ob, hB.g g3, by rw [g3.2.1 33 (by decide)]; exact h33, m3.t, fun t2 c2 z => by cases z⟩, fun z => by rw [hf1] at z; cases z⟩
