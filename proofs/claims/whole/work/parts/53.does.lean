theorem SlF.p66 {I : aI} {s ns : Nat} {d : Int32} (hs : s < ns) (hn : ns ≤ 6) : SlF 0 I (va_up I 66 (upd (I 66) s d)) :=
  ⟨fun j _ => ⟨by rw [va_up_n (by decide)], by rw [va_up_n (by decide)], by rw [va_up_n (by decide)], by rw [va_up_n (by decide)]⟩, fun j _ => by rw [va_up_n (by decide)], fun j h => by rw [va_up_s, upd_n (by omega)], fun j _ => by rw [va_up_n (by decide)]⟩
theorem SlF.p65 {I : aI} {s nb : Nat} {d : Int32} (hs : s < nb) (hn : nb ≤ 5) : SlF 0 I (va_up I 65 (upd (I 65) s d)) :=
  ⟨fun j _ => ⟨by rw [va_up_n (by decide)], by rw [va_up_n (by decide)], by rw [va_up_n (by decide)], by rw [va_up_n (by decide)]⟩, fun j h => by rw [va_up_s, upd_n (by omega)], fun j h => by rw [va_up_n (by decide)], fun j _ => by rw [va_up_n (by decide)]⟩
theorem SlF.p64 {I : aI} {d : Int32} : SlF 0 I (va_up I 64 (upd (I 64) 0 d)) :=
  ⟨fun j h => ⟨by rw [va_up_n (by decide)], by rw [va_up_s, upd_n h], by rw [va_up_n (by decide)], by rw [va_up_n (by decide)]⟩, fun j h => by rw [va_up_n (by decide)], fun j h => by rw [va_up_n (by decide)], fun j _ => by rw [va_up_n (by decide)]⟩
def okSerX (x : aX) (nb ns : Nat) (w v n : Int32) : Prop := (inR w nb && inR v ns) = true ∧ ¬ n < 1 ∧ ¬ 40 < n ∧ ¬ x.2.2.2.2 v.toNatClampNeg = 0
def okSoilX (x : aX) (ns : Nat) (w v : Int32) : Prop := inR w ns = true ∧ ¬ v < 1 ∧ ¬ 99 < v ∧ x.2.2.2.2 w.toNatClampNeg < 99
def okMendX (x : aX) (f6 : Nat → Int32) (nb : Nat) (w : Int32) : Prop := inR w nb = true ∧ ¬ x.2.2.2.1 w.toNatClampNeg = f6 w.toNatClampNeg
def okPourX (x : aX) (w : Int32) : Prop := ¬ w < 0 ∧ ¬ 99 < w ∧ ¬ w = x.2.1
theorem XR.up66 {I I2 : aI} {nb ns : Nat} {x : aX} {s : Nat} {d : Int32} {l : List Nat} (h : XR I 0 nb ns x) (hS : Sm l I I2) (hl : ∀ a ∈ l, a ≠ 63 ∧ a ≠ 64 ∧ a ≠ 65 ∧ a ≠ 67) (e66 : I2 66 = upd (I 66) s d) : XR I2 0 nb ns (x.1, x.2.1, x.2.2.1, x.2.2.2.1, upd x.2.2.2.2 s d) := by
  obtain ⟨x1, x2, x3, x4, x5⟩ := h
  refine ⟨by rw [hS 63 (fun q => (hl _ q).1 rfl), x1], by rw [hS 64 (fun q => (hl _ q).2.1 rfl), x2], by rw [hS 67 (fun q => (hl _ q).2.2.2 rfl), x3], fun b hb => by rw [hS 65 (fun q => (hl _ q).2.2.1 rfl), x4 b hb], fun s' hs' => ?_⟩
  have := x5 s' hs'
  rw [show 6 * 0 + s' = s' by omega] at this ⊢
  rw [e66]
  show upd (I 66) s d s' = upd x.2.2.2.2 s d s'
  by_cases e : s' = s
  · rw [e, upd_s, upd_s]
  · rw [upd_n e, upd_n e, this]
theorem XR.up65 {I I2 : aI} {nb ns : Nat} {x : aX} {s : Nat} {d : Int32} {l : List Nat} (h : XR I 0 nb ns x) (hS : Sm l I I2) (hl : ∀ a ∈ l, a ≠ 63 ∧ a ≠ 64 ∧ a ≠ 66 ∧ a ≠ 67) (e65 : I2 65 = upd (I 65) s d) : XR I2 0 nb ns (x.1, x.2.1, x.2.2.1, upd x.2.2.2.1 s d, x.2.2.2.2) := by
  obtain ⟨x1, x2, x3, x4, x5⟩ := h
  refine ⟨by rw [hS 63 (fun q => (hl _ q).1 rfl), x1], by rw [hS 64 (fun q => (hl _ q).2.1 rfl), x2], by rw [hS 67 (fun q => (hl _ q).2.2.2 rfl), x3], fun s' hs' => ?_, fun b hb => by rw [hS 66 (fun q => (hl _ q).2.2.1 rfl), x5 b hb]⟩
  have := x4 s' hs'
  rw [show 5 * 0 + s' = s' by omega] at this ⊢
  rw [e65]
  show upd (I 65) s d s' = upd x.2.2.2.1 s d s'
  by_cases e : s' = s
  · rw [e, upd_s, upd_s]
  · rw [upd_n e, upd_n e, this]
theorem le99_upd {f : Nat → Int32} {s : Nat} {d : Int32} (h : ∀ j, le99 (f j)) (hd : le99 d) : ∀ j, le99 (upd f s d j) := fun j => by
  by_cases e : j = s
  · rw [e, upd_s]; exact hd
  · rw [upd_n e]; exact h j
theorem zero_upd {f : Nat → Int32} {s n : Nat} {d : Int32} (hs : s < n) (h : ∀ j, n ≤ j → f j = 0) : ∀ j, n ≤ j → upd f s d j = 0 := fun j hj => by rw [upd_n (by omega)]; exact h j hj
theorem XG.soil {nb ns s : Nat} {x : aX} {d : Int32} (h : XG nb ns x) (hs : s < ns) (hd : le99 d) : XG nb ns (x.1, x.2.1, x.2.2.1, x.2.2.2.1, upd x.2.2.2.2 s d) := by
  obtain ⟨⟨b1, b2⟩, z1, z2, w, q, l⟩ := h
  exact ⟨⟨b1, le99_upd b2 hd⟩, z1, zero_upd hs z2, w, q, l⟩
theorem XG.mend {nb ns s : Nat} {x : aX} {d : Int32} (h : XG nb ns x) (hs : s < nb) (hd : le99 d) : XG nb ns (x.1, x.2.1, x.2.2.1, upd x.2.2.2.1 s d, x.2.2.2.2) := by
  obtain ⟨⟨b1, b2⟩, z1, z2, w, q, l⟩ := h
  exact ⟨⟨le99_upd b1 hd, b2⟩, zero_upd hs z1, z2, w, q, l⟩
theorem XG.pour {nb ns : Nat} {x : aX} {d : Int32} (h : XG nb ns x) (hd : le99 d) : XG nb ns (x.1, d, x.2.2.1, x.2.2.2.1, x.2.2.2.2) := by
  obtain ⟨⟨b1, b2⟩, z1, z2, w, q, l⟩ := h
  exact ⟨⟨b1, b2⟩, z1, z2, w, hd, l⟩
theorem isB_t {v l m : Int32} (h1 : ¬ v < l) (h2 : ¬ m < v) : isB v l m = true := decide_eq_true ⟨h1, h2⟩
theorem isB_iff {v l m : Int32} : isB v l m = true ↔ ¬ v < l ∧ ¬ m < v := decide_eq_true_iff
theorem soil_99 {d v : Int32} (hd : le99 d) (h1 : ¬ v < 1) (h2 : ¬ 99 < v) : le99 (if d + v < 99 then d + v else 99) ∧ (if 99 ≤ d + v then 99 else d + v) = (if d + v < 99 then d + v else 99) := by
  obtain ⟨a, ha, rfl⟩ := hd
  obtain ⟨b, hb, rfl⟩ := nI_of2 (n := 99) (x := v) (by decide) (fun q => h1 (by rw [Int32.lt_iff_toInt_lt] at q ⊢; have : v.toInt < (0 : Int) := q; show v.toInt < (1 : Int); omega)) (Int32.not_lt.mp h2)
  rw [nI_add]
  by_cases e : a + b < 99
  · rw [if_pos (show nI (a + b) < 99 from nI_lt (b := 99) e (by decide)), if_neg (show ¬ (99 : Int32) ≤ nI (a + b) from nI_ge (b := 99) e (by decide))]
    exact ⟨⟨a + b, by omega, rfl⟩, rfl⟩
  · rw [if_neg (show ¬ nI (a + b) < 99 from nI_nlt (b := 99) (by omega) (by omega)), if_pos (show (99 : Int32) ≤ nI (a + b) from nI_le (a := 99) (by omega) (by omega))]
    exact ⟨⟨99, by decide, rfl⟩, rfl⟩
set_option maxRecDepth 20000 in
theorem tm_sermon0 {N : Nat} {I : aI} {L : aL} {p : aP} {bk nb ns nh : Nat} {f5 f6 : Nat → Int32} {x : aX} {rs : List aRow} (hR : RS I bk nb ns nh p f5 f6 x rs) {w v n : Int32} (hbad : ¬ okSerX x nb ns w v n) : Run 2 0 0 mX10_sermon [.ref 36, .int w, .int v, .int n] (St N I L) (RI (-1) (St N (refM I 3) L)) := by
  refine Run.of (ls := [some (.ref 36), some (.int _), some (.int _), some (.int _)]) (by decide) (Nat.le_of_ble_eq_true rfl) rfl ?_
  obtain ⟨hP, hX, hK, hG, hrb⟩ := id hR
  obtain ⟨⟨h1, h2, hnb, hns, hnh, hcb, hcs, hch⟩, -⟩ := id hP
  obtain ⟨x1, x2, x3, x4, x5⟩ := id hX
  refine Ex.aload_n (pc := 0) dX10_sermon_0 rfl rfl ?_
  refine Ex.iload_n (pc := 1) dX10_sermon_1 rfl rfl ?_
  refine Ex.callV (pc := 2) (As := [.int _]) (rest := []) dX10_sermon_2 cX10_470 (tm_isBoard hP.1) (sh36 _) rfl rfl (by decide) (Nat.le_refl _) (Nat.le_refl _) (Nat.le_of_ble_eq_true rfl) (Or.inl (fun r S' h => by obtain ⟨_, h⟩ := h; subst h; rfl)) (fun r S' hq _ _ => ?_)
  obtain ⟨rfl, rfl⟩ := hq
  refine Ex.if_eq (pc := 5) (tgt := 35) dX10_sermon_5 (by decide) (fun c5 => ?_) (fun c5 => ?_)
  · skip
    refine Ex.aload_n (pc := 35) dX10_sermon_35 rfl rfl ?_
    refine Ex.iconst (pc := 36) (v := 3) dX10_sermon_36 rfl ?_
    refine Ex.callV (pc := 37) (As := [.int 3]) (rest := []) dX10_sermon_37 cX10_222 (tm_refuses (k := 3) (by decide)) (sh36 _) rfl rfl (by decide) (Nat.le_refl _) (Nat.le_refl _) (Nat.le_of_ble_eq_true rfl) (Or.inl (fun r S' h => by obtain ⟨_, h⟩ := h; subst h; rfl)) (fun r S' hq _ _ => ?_)
    obtain ⟨rfl, rfl⟩ := hq
    refine Ex.iret (pc := 40) rfl rfl rfl dX10_sermon_40 (Nat.le_refl _) (Nat.le_refl _) ?_
    exact ⟨rfl, rfl⟩
  · skip
    refine Ex.aload_n (pc := 8) dX10_sermon_8 rfl rfl ?_
    refine Ex.iload_n (pc := 9) dX10_sermon_9 rfl rfl ?_
    refine Ex.callV (pc := 10) (As := [.int _]) (rest := []) dX10_sermon_10 cX10_473 (tm_isStain hP.1) (sh36 _) rfl rfl (by decide) (Nat.le_refl _) (Nat.le_refl _) (Nat.le_of_ble_eq_true rfl) (Or.inl (fun r S' h => by obtain ⟨_, h⟩ := h; subst h; rfl)) (fun r S' hq _ _ => ?_)
    obtain ⟨rfl, rfl⟩ := hq
    refine Ex.if_eq (pc := 13) (tgt := 35) dX10_sermon_13 (by decide) (fun c13 => ?_) (fun c13 => ?_)
    · skip
      refine Ex.aload_n (pc := 35) dX10_sermon_35 rfl rfl ?_
      refine Ex.iconst (pc := 36) (v := 3) dX10_sermon_36 rfl ?_
      refine Ex.callV (pc := 37) (As := [.int 3]) (rest := []) dX10_sermon_37 cX10_222 (tm_refuses (k := 3) (by decide)) (sh36 _) rfl rfl (by decide) (Nat.le_refl _) (Nat.le_refl _) (Nat.le_of_ble_eq_true rfl) (Or.inl (fun r S' h => by obtain ⟨_, h⟩ := h; subst h; rfl)) (fun r S' hq _ _ => ?_)
      obtain ⟨rfl, rfl⟩ := hq
      refine Ex.iret (pc := 40) rfl rfl rfl dX10_sermon_40 (Nat.le_refl _) (Nat.le_refl _) ?_
      exact ⟨rfl, rfl⟩
    · skip
      have hi1 := bI_1 c5
      have hi2 := bI_1 c13
      obtain ⟨j, hj, rfl⟩ := inR_of hi1 (by omega)
      obtain ⟨i, hi, rfl⟩ := inR_of hi2 (by omega)
      refine Ex.iload_n (pc := 16) dX10_sermon_16 rfl rfl ?_
      refine Ex.iconst (pc := 17) (v := 1) dX10_sermon_17 rfl ?_
      refine Ex.bipush (pc := 18) (v := 40) dX10_sermon_18 rfl ?_
      refine Ex.callS (pc := 20) (As := [.int _, .int 1, .int 40]) (rest := []) dX10_sermon_20 cX10_312 tm_is rfl rfl (by decide) (Nat.le_refl _) (Nat.le_refl _) (Nat.le_of_ble_eq_true rfl) (Or.inl (fun r S' h => by obtain ⟨_, h⟩ := h; subst h; rfl)) (fun r S' hq _ _ => ?_)
      obtain ⟨rfl, rfl⟩ := hq
      refine Ex.if_eq (pc := 23) (tgt := 35) dX10_sermon_23 (by decide) (fun c23 => ?_) (fun c23 => ?_)
      · skip
        refine Ex.aload_n (pc := 35) dX10_sermon_35 rfl rfl ?_
        refine Ex.iconst (pc := 36) (v := 3) dX10_sermon_36 rfl ?_
        refine Ex.callV (pc := 37) (As := [.int 3]) (rest := []) dX10_sermon_37 cX10_222 (tm_refuses (k := 3) (by decide)) (sh36 _) rfl rfl (by decide) (Nat.le_refl _) (Nat.le_refl _) (Nat.le_of_ble_eq_true rfl) (Or.inl (fun r S' h => by obtain ⟨_, h⟩ := h; subst h; rfl)) (fun r S' hq _ _ => ?_)
        obtain ⟨rfl, rfl⟩ := hq
        refine Ex.iret (pc := 40) rfl rfl rfl dX10_sermon_40 (Nat.le_refl _) (Nat.le_refl _) ?_
        exact ⟨rfl, rfl⟩
      · skip
        refine Ex.aload_n (pc := 26) dX10_sermon_26 rfl rfl ?_
        refine Ex.getR (pc := 27) dX10_sermon_27 fX10_162 (sh36 _) r36_49 ?_
        refine Ex.iload_n (pc := 30) dX10_sermon_30 rfl rfl ?_
        refine Ex.iald (pc := 31) (j := i) dX10_sermon_31 (sh66 _) (vp_in_nI (by omega) (by decide)) (ixN2 (by omega)) ?_
        refine Ex.if_ne (pc := 32) (tgt := 41) dX10_sermon_32 (by decide) (fun c32 => ?_) (fun c32 => ?_)
        · skip
          have hv := isB_iff.mp (bI_1 c23)
          refine absurd ⟨by rw [hi1, hi2]; rfl, hv.1, hv.2, ?_⟩ hbad
          rw [nI_clamp (by omega)]
          have e := x5 i hi
          rw [show 6 * 0 + i = i by omega] at e
          rw [← e]; exact c32
        · skip
          refine Ex.aload_n (pc := 35) dX10_sermon_35 rfl rfl ?_
          refine Ex.iconst (pc := 36) (v := 3) dX10_sermon_36 rfl ?_
          refine Ex.callV (pc := 37) (As := [.int 3]) (rest := []) dX10_sermon_37 cX10_222 (tm_refuses (k := 3) (by decide)) (sh36 _) rfl rfl (by decide) (Nat.le_refl _) (Nat.le_refl _) (Nat.le_of_ble_eq_true rfl) (Or.inl (fun r S' h => by obtain ⟨_, h⟩ := h; subst h; rfl)) (fun r S' hq _ _ => ?_)
          obtain ⟨rfl, rfl⟩ := hq
          refine Ex.iret (pc := 40) rfl rfl rfl dX10_sermon_40 (Nat.le_refl _) (Nat.le_refl _) ?_
          exact ⟨rfl, rfl⟩
set_option maxRecDepth 20000 in
theorem tm_sermon1 {N : Nat} {I : aI} {L : aL} {p : aP} {bk nb ns nh : Nat} {f5 f6 : Nat → Int32} {x : aX} {ks : List aRow} (hR : RS I bk nb ns nh p f5 f6 x (l40 ks)) {uf : Nat} {ul : List (aX × List aRow)} (hU : UR I nb ns uf ul) {b s n : Nat} (hb : b < nb) (hs : s < ns) (hn1 : 1 ≤ n) (hn : n ≤ 40) (hd : ¬ x.2.2.2.2 s = 0) : Run 6 0 0 mX10_sermon [.ref 36, .int (nI b), .int (nI s), .int (nI n)] (St N I L) (RX N (fun o I2 L2 => o = some (.int ((rubX p f5 f6 x b s n).2.2.2)) ∧ Sm [36, 63, 64, 65, 66, 67, 68, 69, 71] I I2 ∧ SmL [70] L L2 ∧ (∀ j, j ≠ 53 → j ≠ 54 → I2 36 j = I 36 j) ∧ RS I2 bk nb ns nh p f5 f6 (preachX p f5 f6 nh x b s n) (l40 (ks ++ [(x.1, nI b, nI s, (rubX p f5 f6 x b s n).2.2.2)])) ∧ ∃ uf2, UR I2 nb ns uf2 (((x, l40 ks) :: ul).take 20))) := by
  refine Run.of (ls := [some (.ref 36), some (.int _), some (.int _), some (.int _)]) (by decide) (Nat.le_of_ble_eq_true rfl) rfl ?_
  obtain ⟨hP, hX, hK, hG, hrb⟩ := id hR
  obtain ⟨⟨h1, h2, hnb, hns, hnh, hcb, hcs, hch⟩, -⟩ := id hP
  obtain ⟨x1, x2, x3, x4, x5⟩ := id hX
  have e5 := x5 s hs
  rw [show 6 * 0 + s = s by omega] at e5
  refine Ex.aload_n (pc := 0) dX10_sermon_0 rfl rfl ?_
  refine Ex.iload_n (pc := 1) dX10_sermon_1 rfl rfl ?_
  refine Ex.callV (pc := 2) (As := [.int _]) (rest := []) dX10_sermon_2 cX10_470 (tm_isBoard hP.1) (sh36 _) rfl rfl (by decide) (Nat.le_refl _) (Nat.le_refl _) (Nat.le_of_ble_eq_true rfl) (Or.inl (fun r S' h => by obtain ⟨_, h⟩ := h; subst h; rfl)) (fun r S' hq _ _ => ?_)
  obtain ⟨rfl, rfl⟩ := hq
  rw [inR_nI hb (by omega)]
  refine Ex.if_eq (pc := 5) (tgt := 35) dX10_sermon_5 (by decide) (fun c5 => absurd c5 (by decide)) (fun _ => ?_)
  refine Ex.aload_n (pc := 8) dX10_sermon_8 rfl rfl ?_
  refine Ex.iload_n (pc := 9) dX10_sermon_9 rfl rfl ?_
  refine Ex.callV (pc := 10) (As := [.int _]) (rest := []) dX10_sermon_10 cX10_473 (tm_isStain hP.1) (sh36 _) rfl rfl (by decide) (Nat.le_refl _) (Nat.le_refl _) (Nat.le_of_ble_eq_true rfl) (Or.inl (fun r S' h => by obtain ⟨_, h⟩ := h; subst h; rfl)) (fun r S' hq _ _ => ?_)
  obtain ⟨rfl, rfl⟩ := hq
  rw [inR_nI hs (by omega)]
  refine Ex.if_eq (pc := 13) (tgt := 35) dX10_sermon_13 (by decide) (fun c13 => absurd c13 (by decide)) (fun _ => ?_)
  refine Ex.iload_n (pc := 16) dX10_sermon_16 rfl rfl ?_
  refine Ex.iconst (pc := 17) (v := 1) dX10_sermon_17 rfl ?_
  refine Ex.bipush (pc := 18) (v := 40) dX10_sermon_18 rfl ?_
  refine Ex.callS (pc := 20) (As := [.int _, .int 1, .int 40]) (rest := []) dX10_sermon_20 cX10_312 tm_is rfl rfl (by decide) (Nat.le_refl _) (Nat.le_refl _) (Nat.le_of_ble_eq_true rfl) (Or.inl (fun r S' h => by obtain ⟨_, h⟩ := h; subst h; rfl)) (fun r S' hq _ _ => ?_)
  obtain ⟨rfl, rfl⟩ := hq
  rw [show isB (nI n) 1 40 = true from isB_t (nI_nlt (b := 1) (by omega) (by omega)) (nI_nlt (a := 40) (by omega) (by decide))]
  refine Ex.if_eq (pc := 23) (tgt := 35) dX10_sermon_23 (by decide) (fun c23 => absurd c23 (by decide)) (fun _ => ?_)
  refine Ex.aload_n (pc := 26) dX10_sermon_26 rfl rfl ?_
  refine Ex.getR (pc := 27) dX10_sermon_27 fX10_162 (sh36 _) r36_49 ?_
  refine Ex.iload_n (pc := 30) dX10_sermon_30 rfl rfl ?_
  refine Ex.iald (pc := 31) (j := s) dX10_sermon_31 (sh66 _) (vp_in_nI (by omega) (by decide)) (ixN2 (by omega)) ?_
  refine Ex.if_ne (pc := 32) (tgt := 41) dX10_sermon_32 (by decide) (fun _ => ?_) (fun c32 => absurd c32 (by rw [e5]; exact hd))
  refine Ex.aload_n (pc := 41) dX10_sermon_41 rfl rfl ?_
  refine Ex.callV (pc := 42) (As := []) (rest := []) dX10_sermon_42 cX10_519 (tm_keeps hR hU) (sh36 _) rfl rfl (by decide) (Nat.le_refl _) (Nat.le_refl _) (Nat.le_of_ble_eq_true rfl) (Or.inl (fun r S' h => by obtain ⟨_, _, h, _⟩ := h; subst h; rfl)) (fun r S' hq _ _ => ?_)
  obtain ⟨I1, rfl, rfl, hS1, h361, hX1, hK1, uf1, hU1⟩ := hq
  have hP1 : RefP I1 bk nb ns nh p f5 f6 := hP.sm' hS1 (h361 13 (by decide) (by decide)) (by decide)
  refine Ex.aload_n (pc := 45) dX10_sermon_45 rfl rfl ?_
  refine Ex.iconst (pc := 46) (v := 0) dX10_sermon_46 rfl ?_
  refine Ex.iload_n (pc := 47) dX10_sermon_47 rfl rfl ?_
  refine Ex.iload_n (pc := 48) dX10_sermon_48 rfl rfl ?_
  refine Ex.iload_n (pc := 49) dX10_sermon_49 rfl rfl ?_
  refine Ex.callV (pc := 50) (As := [.int 0, .int _, .int _, .int _]) (rest := []) dX10_sermon_50 cX10_462 (tm_preaches (v := 0) (n := n) hP1 hX1 (by decide) hb hs (by omega) hG.1 hK1) (sh36 _) rfl rfl (by decide) (Nat.le_refl _) (Nat.le_refl _) (Nat.le_of_ble_eq_true rfl) (Or.inl (fun r S' h => by obtain ⟨_, _, h, _⟩ := h; subst h; rfl)) (fun r S' hq _ _ => ?_)
  obtain ⟨I3, L3, rfl, rfl, hS3, hSL3, hF3, hX3, hK3⟩ := hq
  have h363 : ∀ j, I3 36 j = I1 36 j := fun j => by rw [hS3 36 (by decide)]
  refine Ex.iret (pc := 53) rfl rfl rfl dX10_sermon_53 (Nat.le_refl _) (Nat.le_refl _) ?_
  rw [l40_add] at hK3
  exact ⟨_, _, rfl, rfl, hS1.tr hS3 (by decide) (by decide), hSL3, fun j a b => (h363 j).trans (h361 j a b), ⟨hP1.sm hS3 (by decide), hX3, hK3, hG.preach hb hs hnh, hrb⟩, uf1, hU1.fr hF3 (by decide) (h363 53) (h363 54) hnb hns⟩
set_option maxRecDepth 20000 in
theorem tm_soil0 {N : Nat} {I : aI} {L : aL} {p : aP} {bk nb ns nh : Nat} {f5 f6 : Nat → Int32} {x : aX} {rs : List aRow} (hR : RS I bk nb ns nh p f5 f6 x rs) {w v : Int32} (hbad : ¬ okSoilX x ns w v) : Run 2 0 0 mX10_soil [.ref 36, .int w, .int v] (St N I L) (RI (-1) (St N (refM I 3) L)) := by
  refine Run.of (ls := [some (.ref 36), some (.int _), some (.int _)]) (by decide) (Nat.le_of_ble_eq_true rfl) rfl ?_
  obtain ⟨hP, hX, hK, hG, hrb⟩ := id hR
  obtain ⟨⟨h1, h2, hnb, hns, hnh, hcb, hcs, hch⟩, -⟩ := id hP
  obtain ⟨x1, x2, x3, x4, x5⟩ := id hX
  refine Ex.aload_n (pc := 0) dX10_soil_0 rfl rfl ?_
  refine Ex.iload_n (pc := 1) dX10_soil_1 rfl rfl ?_
  refine Ex.callV (pc := 2) (As := [.int _]) (rest := []) dX10_soil_2 cX10_473 (tm_isStain hP.1) (sh36 _) rfl rfl (by decide) (Nat.le_refl _) (Nat.le_refl _) (Nat.le_of_ble_eq_true rfl) (Or.inl (fun r S' h => by obtain ⟨_, h⟩ := h; subst h; rfl)) (fun r S' hq _ _ => ?_)
  obtain ⟨rfl, rfl⟩ := hq
  refine Ex.if_eq (pc := 5) (tgt := 29) dX10_soil_5 (by decide) (fun c5 => ?_) (fun c5 => ?_)
  · skip
    refine Ex.aload_n (pc := 29) dX10_soil_29 rfl rfl ?_
    refine Ex.iconst (pc := 30) (v := 3) dX10_soil_30 rfl ?_
    refine Ex.callV (pc := 31) (As := [.int 3]) (rest := []) dX10_soil_31 cX10_222 (tm_refuses (k := 3) (by decide)) (sh36 _) rfl rfl (by decide) (Nat.le_refl _) (Nat.le_refl _) (Nat.le_of_ble_eq_true rfl) (Or.inl (fun r S' h => by obtain ⟨_, h⟩ := h; subst h; rfl)) (fun r S' hq _ _ => ?_)
    obtain ⟨rfl, rfl⟩ := hq
    refine Ex.iret (pc := 34) rfl rfl rfl dX10_soil_34 (Nat.le_refl _) (Nat.le_refl _) ?_
    exact ⟨rfl, rfl⟩
  · skip
    have hi1 := bI_1 c5
    obtain ⟨j, hj, rfl⟩ := inR_of hi1 (by omega)
    refine Ex.iload_n (pc := 8) dX10_soil_8 rfl rfl ?_
    refine Ex.iconst (pc := 9) (v := 1) dX10_soil_9 rfl ?_
    refine Ex.bipush (pc := 10) (v := 99) dX10_soil_10 rfl ?_
    refine Ex.callS (pc := 12) (As := [.int _, .int 1, .int 99]) (rest := []) dX10_soil_12 cX10_312 tm_is rfl rfl (by decide) (Nat.le_refl _) (Nat.le_refl _) (Nat.le_of_ble_eq_true rfl) (Or.inl (fun r S' h => by obtain ⟨_, h⟩ := h; subst h; rfl)) (fun r S' hq _ _ => ?_)
    obtain ⟨rfl, rfl⟩ := hq
    refine Ex.if_eq (pc := 15) (tgt := 29) dX10_soil_15 (by decide) (fun c15 => ?_) (fun c15 => ?_)
    · skip
      refine Ex.aload_n (pc := 29) dX10_soil_29 rfl rfl ?_
      refine Ex.iconst (pc := 30) (v := 3) dX10_soil_30 rfl ?_
      refine Ex.callV (pc := 31) (As := [.int 3]) (rest := []) dX10_soil_31 cX10_222 (tm_refuses (k := 3) (by decide)) (sh36 _) rfl rfl (by decide) (Nat.le_refl _) (Nat.le_refl _) (Nat.le_of_ble_eq_true rfl) (Or.inl (fun r S' h => by obtain ⟨_, h⟩ := h; subst h; rfl)) (fun r S' hq _ _ => ?_)
      obtain ⟨rfl, rfl⟩ := hq
      refine Ex.iret (pc := 34) rfl rfl rfl dX10_soil_34 (Nat.le_refl _) (Nat.le_refl _) ?_
      exact ⟨rfl, rfl⟩
    · skip
      refine Ex.aload_n (pc := 18) dX10_soil_18 rfl rfl ?_
      refine Ex.getR (pc := 19) dX10_soil_19 fX10_162 (sh36 _) r36_49 ?_
      refine Ex.iload_n (pc := 22) dX10_soil_22 rfl rfl ?_
      refine Ex.iald (pc := 23) (j := j) dX10_soil_23 (sh66 _) (vp_in_nI (by omega) (by decide)) (ixN2 (by omega)) ?_
      refine Ex.bipush (pc := 24) (v := 99) dX10_soil_24 rfl ?_
      refine Ex.icmp_ne (pc := 26) (tgt := 35) dX10_soil_26 (by decide) (fun c26 => ?_) (fun c26 => ?_)
      · skip
        have hv := isB_iff.mp (bI_1 c15)
        refine absurd ⟨hi1, hv.1, hv.2, ?_⟩ hbad
        rw [nI_clamp (by omega)]
        have e := x5 j hj
        rw [show 6 * 0 + j = j by omega] at e
        rw [← e]
        obtain ⟨q, hq, eq⟩ := hG.1.2 j
        rw [e, eq] at c26 ⊢
        refine nI_lt (b := 99) ?_ (by decide)
        rcases Nat.lt_or_ge q 99 with h | h
        · exact h
        · exact absurd (show nI q = 99 from by rw [show q = 99 by omega]; rfl) c26
      · skip
        refine Ex.aload_n (pc := 29) dX10_soil_29 rfl rfl ?_
        refine Ex.iconst (pc := 30) (v := 3) dX10_soil_30 rfl ?_
        refine Ex.callV (pc := 31) (As := [.int 3]) (rest := []) dX10_soil_31 cX10_222 (tm_refuses (k := 3) (by decide)) (sh36 _) rfl rfl (by decide) (Nat.le_refl _) (Nat.le_refl _) (Nat.le_of_ble_eq_true rfl) (Or.inl (fun r S' h => by obtain ⟨_, h⟩ := h; subst h; rfl)) (fun r S' hq _ _ => ?_)
        obtain ⟨rfl, rfl⟩ := hq
        refine Ex.iret (pc := 34) rfl rfl rfl dX10_soil_34 (Nat.le_refl _) (Nat.le_refl _) ?_
        exact ⟨rfl, rfl⟩
set_option maxRecDepth 20000 in
theorem tm_soil1 {N : Nat} {I : aI} {L : aL} {p : aP} {bk nb ns nh : Nat} {f5 f6 : Nat → Int32} {x : aX} {ks : List aRow} (hR : RS I bk nb ns nh p f5 f6 x (l40 ks)) {uf : Nat} {ul : List (aX × List aRow)} (hU : UR I nb ns uf ul) {s : Nat} {v : Int32} (hs : s < ns) (hv1 : ¬ v < 1) (hv2 : ¬ 99 < v) (hd : x.2.2.2.2 s < 99) : Run 3 0 0 mX10_soil [.ref 36, .int (nI s), .int v] (St N I L) (RX N (fun o I2 L2 => o = some (.int ((if x.2.2.2.2 s + v < 99 then x.2.2.2.2 s + v else 99))) ∧ Sm [36, 63, 64, 65, 66, 67, 68, 69, 71] I I2 ∧ SmL [70] L L2 ∧ (∀ j, j ≠ 53 → j ≠ 54 → I2 36 j = I 36 j) ∧ RS I2 bk nb ns nh p f5 f6 (x.1, x.2.1, x.2.2.1, x.2.2.2.1, upd x.2.2.2.2 s (if x.2.2.2.2 s + v < 99 then x.2.2.2.2 s + v else 99)) (l40 ks) ∧ ∃ uf2, UR I2 nb ns uf2 (((x, l40 ks) :: ul).take 20))) := by
  refine Run.of (ls := [some (.ref 36), some (.int _), some (.int _)]) (by decide) (Nat.le_of_ble_eq_true rfl) rfl ?_
  obtain ⟨hP, hX, hK, hG, hrb⟩ := id hR
  obtain ⟨⟨h1, h2, hnb, hns, hnh, hcb, hcs, hch⟩, -⟩ := id hP
  obtain ⟨x1, x2, x3, x4, x5⟩ := id hX
  have e5 := x5 s hs
  rw [show 6 * 0 + s = s by omega] at e5
  obtain ⟨h99, hite⟩ := soil_99 (hG.1.2 s) hv1 hv2
  generalize hgd : (if x.2.2.2.2 s + v < 99 then x.2.2.2.2 s + v else 99) = g at *
  refine Ex.aload_n (pc := 0) dX10_soil_0 rfl rfl ?_
  refine Ex.iload_n (pc := 1) dX10_soil_1 rfl rfl ?_
  refine Ex.callV (pc := 2) (As := [.int _]) (rest := []) dX10_soil_2 cX10_473 (tm_isStain hP.1) (sh36 _) rfl rfl (by decide) (Nat.le_refl _) (Nat.le_refl _) (Nat.le_of_ble_eq_true rfl) (Or.inl (fun r S' h => by obtain ⟨_, h⟩ := h; subst h; rfl)) (fun r S' hq _ _ => ?_)
  obtain ⟨rfl, rfl⟩ := hq
  rw [inR_nI hs (by omega)]
  refine Ex.if_eq (pc := 5) (tgt := 29) dX10_soil_5 (by decide) (fun c5 => absurd c5 (by decide)) (fun _ => ?_)
  refine Ex.iload_n (pc := 8) dX10_soil_8 rfl rfl ?_
  refine Ex.iconst (pc := 9) (v := 1) dX10_soil_9 rfl ?_
  refine Ex.bipush (pc := 10) (v := 99) dX10_soil_10 rfl ?_
  refine Ex.callS (pc := 12) (As := [.int _, .int 1, .int 99]) (rest := []) dX10_soil_12 cX10_312 tm_is rfl rfl (by decide) (Nat.le_refl _) (Nat.le_refl _) (Nat.le_of_ble_eq_true rfl) (Or.inl (fun r S' h => by obtain ⟨_, h⟩ := h; subst h; rfl)) (fun r S' hq _ _ => ?_)
  obtain ⟨rfl, rfl⟩ := hq
  rw [isB_t hv1 hv2]
  refine Ex.if_eq (pc := 15) (tgt := 29) dX10_soil_15 (by decide) (fun c15 => absurd c15 (by decide)) (fun _ => ?_)
  refine Ex.aload_n (pc := 18) dX10_soil_18 rfl rfl ?_
  refine Ex.getR (pc := 19) dX10_soil_19 fX10_162 (sh36 _) r36_49 ?_
  refine Ex.iload_n (pc := 22) dX10_soil_22 rfl rfl ?_
  refine Ex.iald (pc := 23) (j := s) dX10_soil_23 (sh66 _) (vp_in_nI (by omega) (by decide)) (ixN2 (by omega)) ?_
  refine Ex.bipush (pc := 24) (v := 99) dX10_soil_24 rfl ?_
  refine Ex.icmp_ne (pc := 26) (tgt := 35) dX10_soil_26 (by decide) (fun _ => ?_) (fun c26 => absurd c26 (by rw [e5]; intro q; rw [q] at hd; exact absurd hd (by decide)))
  refine Ex.aload_n (pc := 35) dX10_soil_35 rfl rfl ?_
  refine Ex.callV (pc := 36) (As := []) (rest := []) dX10_soil_36 cX10_519 (tm_keeps hR hU) (sh36 _) rfl rfl (by decide) (Nat.le_refl _) (Nat.le_refl _) (Nat.le_of_ble_eq_true rfl) (Or.inl (fun r S' h => by obtain ⟨_, _, h, _⟩ := h; subst h; rfl)) (fun r S' hq _ _ => ?_)
  obtain ⟨I1, rfl, rfl, hS1, h361, hX1, hK1, uf1, hU1⟩ := hq
  have hP1 : RefP I1 bk nb ns nh p f5 f6 := hP.sm' hS1 (h361 13 (by decide) (by decide)) (by decide)
  have f66 : I1 66 s = x.2.2.2.2 s := by have := hX1.2.2.2.2 s hs; rw [show 6 * 0 + s = s by omega] at this; exact this
  refine Ex.aload_n (pc := 39) dX10_soil_39 rfl rfl ?_
  refine Ex.getR (pc := 40) dX10_soil_40 fX10_162 (sh36 _) r36_49 ?_
  refine Ex.iload_n (pc := 43) dX10_soil_43 rfl rfl ?_
  refine Ex.aload_n (pc := 44) dX10_soil_44 rfl rfl ?_
  refine Ex.getR (pc := 45) dX10_soil_45 fX10_162 (sh36 _) r36_49 ?_
  refine Ex.iload_n (pc := 48) dX10_soil_48 rfl rfl ?_
  refine Ex.iald (pc := 49) (j := s) dX10_soil_49 (sh66 _) (vp_in_nI (by omega) (by decide)) (ixN2 (by omega)) ?_
  refine Ex.iload_n (pc := 50) dX10_soil_50 rfl rfl ?_
  refine Ex.iadd (pc := 51) dX10_soil_51 ?_
  refine Ex.bipush (pc := 52) (v := 99) dX10_soil_52 rfl ?_
  refine Ex.icmp_ge (pc := 54) (tgt := 68) dX10_soil_54 (by decide) (fun c54 => ?_) (fun c54 => ?_)
  · skip
    refine Ex.bipush (pc := 68) (v := 99) dX10_soil_68 rfl ?_
    refine Ex.iast (pc := 70) (j := s) dX10_soil_70 (sh66 _) (vp_in_nI (by omega) (by decide)) (ixN2 (by omega)) ?_
    rw [f66] at c54
    rw [if_pos c54] at hite
    refine Ex.mm (S' := St N (va_up I1 66 (upd (I1 66) s g)) L) (by first | rw [hite] | rw [f66, hite]) ?_
    have hSn : Sm [66] I1 (va_up I1 66 (upd (I1 66) s g)) := Sm.rf.up (by decide)
    have h363 : ∀ j, va_up I1 66 (upd (I1 66) s g) 36 j = I1 36 j := fun j => by rw [va_up_n (by decide)]
    refine Ex.aload_n (pc := 71) dX10_soil_71 rfl rfl ?_
    refine Ex.getR (pc := 72) dX10_soil_72 fX10_162 (sh36 _) r36_49 ?_
    refine Ex.iload_n (pc := 75) dX10_soil_75 rfl rfl ?_
    refine Ex.iald (pc := 76) (j := s) dX10_soil_76 (sh66 _) (vp_in_nI (by omega) (by decide)) (ixN2 (by omega)) ?_
    refine Ex.iret (pc := 77) rfl rfl rfl dX10_soil_77 (Nat.le_refl _) (Nat.le_refl _) ?_
    have hF3 : SlF 0 I1 (va_up I1 66 (upd (I1 66) s g)) := SlF.p66 hs hns
    refine ⟨_, _, rfl, by rw [va_up_s, upd_s], hS1.tr hSn (by decide) (by decide), SmL.rf, fun j a b => (h363 j).trans (h361 j a b), ⟨hP1.sm hSn (by decide), hX1.up66 hSn (by decide) (by rw [va_up_s]), hK1.sm hSn (by decide) (by decide), hG.soil hs h99, hrb⟩, uf1, hU1.fr hF3 (by decide) (h363 53) (h363 54) hnb hns⟩
  · skip
    refine Ex.aload_n (pc := 57) dX10_soil_57 rfl rfl ?_
    refine Ex.getR (pc := 58) dX10_soil_58 fX10_162 (sh36 _) r36_49 ?_
    refine Ex.iload_n (pc := 61) dX10_soil_61 rfl rfl ?_
    refine Ex.iald (pc := 62) (j := s) dX10_soil_62 (sh66 _) (vp_in_nI (by omega) (by decide)) (ixN2 (by omega)) ?_
    refine Ex.iload_n (pc := 63) dX10_soil_63 rfl rfl ?_
    refine Ex.iadd (pc := 64) dX10_soil_64 ?_
    refine Ex.goto (pc := 65) (tgt := 70) dX10_soil_65 (by decide) ?_
    refine Ex.iast (pc := 70) (j := s) dX10_soil_70 (sh66 _) (vp_in_nI (by omega) (by decide)) (ixN2 (by omega)) ?_
    rw [f66] at c54
    rw [if_neg c54] at hite
    refine Ex.mm (S' := St N (va_up I1 66 (upd (I1 66) s g)) L) (by first | rw [hite] | rw [f66, hite]) ?_
    have hSn : Sm [66] I1 (va_up I1 66 (upd (I1 66) s g)) := Sm.rf.up (by decide)
    have h363 : ∀ j, va_up I1 66 (upd (I1 66) s g) 36 j = I1 36 j := fun j => by rw [va_up_n (by decide)]
    refine Ex.aload_n (pc := 71) dX10_soil_71 rfl rfl ?_
    refine Ex.getR (pc := 72) dX10_soil_72 fX10_162 (sh36 _) r36_49 ?_
    refine Ex.iload_n (pc := 75) dX10_soil_75 rfl rfl ?_
    refine Ex.iald (pc := 76) (j := s) dX10_soil_76 (sh66 _) (vp_in_nI (by omega) (by decide)) (ixN2 (by omega)) ?_
    refine Ex.iret (pc := 77) rfl rfl rfl dX10_soil_77 (Nat.le_refl _) (Nat.le_refl _) ?_
    have hF3 : SlF 0 I1 (va_up I1 66 (upd (I1 66) s g)) := SlF.p66 hs hns
    refine ⟨_, _, rfl, by rw [va_up_s, upd_s], hS1.tr hSn (by decide) (by decide), SmL.rf, fun j a b => (h363 j).trans (h361 j a b), ⟨hP1.sm hSn (by decide), hX1.up66 hSn (by decide) (by rw [va_up_s]), hK1.sm hSn (by decide) (by decide), hG.soil hs h99, hrb⟩, uf1, hU1.fr hF3 (by decide) (h363 53) (h363 54) hnb hns⟩
set_option maxRecDepth 20000 in
theorem tm_mend0 {N : Nat} {I : aI} {L : aL} {p : aP} {bk nb ns nh : Nat} {f5 f6 : Nat → Int32} {x : aX} {rs : List aRow} (hR : RS I bk nb ns nh p f5 f6 x rs) {w : Int32} (hbad : ¬ okMendX x f6 nb w) : Run 2 0 0 mX10_mend [.ref 36, .int w] (St N I L) (RI 0 (St N (refM I 3) L)) := by
  refine Run.of (ls := [some (.ref 36), some (.int _)]) (by decide) (Nat.le_of_ble_eq_true rfl) rfl ?_
  obtain ⟨hP, hX, hK, hG, hrb⟩ := id hR
  obtain ⟨⟨h1, h2, hnb, hns, hnh, hcb, hcs, hch⟩, -⟩ := id hP
  obtain ⟨x1, x2, x3, x4, x5⟩ := id hX
  obtain ⟨-, -, -, hf1, hf2, hf3⟩ := id hP
  refine Ex.aload_n (pc := 0) dX10_mend_0 rfl rfl ?_
  refine Ex.iload_n (pc := 1) dX10_mend_1 rfl rfl ?_
  refine Ex.callV (pc := 2) (As := [.int _]) (rest := []) dX10_mend_2 cX10_470 (tm_isBoard hP.1) (sh36 _) rfl rfl (by decide) (Nat.le_refl _) (Nat.le_refl _) (Nat.le_of_ble_eq_true rfl) (Or.inl (fun r S' h => by obtain ⟨_, h⟩ := h; subst h; rfl)) (fun r S' hq _ _ => ?_)
  obtain ⟨rfl, rfl⟩ := hq
  refine Ex.if_eq (pc := 5) (tgt := 30) dX10_mend_5 (by decide) (fun c5 => ?_) (fun c5 => ?_)
  · skip
    refine Ex.aload_n (pc := 30) dX10_mend_30 rfl rfl ?_
    refine Ex.iconst (pc := 31) (v := 3) dX10_mend_31 rfl ?_
    refine Ex.callV (pc := 32) (As := [.int 3]) (rest := []) dX10_mend_32 cX10_222 (tm_refuses (k := 3) (by decide)) (sh36 _) rfl rfl (by decide) (Nat.le_refl _) (Nat.le_refl _) (Nat.le_of_ble_eq_true rfl) (Or.inl (fun r S' h => by obtain ⟨_, h⟩ := h; subst h; rfl)) (fun r S' hq _ _ => ?_)
    obtain ⟨rfl, rfl⟩ := hq
    refine Ex.if_lt (pc := 35) (tgt := 42) dX10_mend_35 (by decide) (fun _ => ?_) (fun c35 => absurd (by decide) c35)
    refine Ex.iconst (pc := 42) (v := 0) dX10_mend_42 rfl ?_
    refine Ex.iret (pc := 43) rfl rfl rfl dX10_mend_43 (Nat.le_refl _) (Nat.le_refl _) ?_
    exact ⟨rfl, rfl⟩
  · skip
    have hi1 := bI_1 c5
    obtain ⟨j, hj, rfl⟩ := inR_of hi1 (by omega)
    refine Ex.aload_n (pc := 8) dX10_mend_8 rfl rfl ?_
    refine Ex.getR (pc := 9) dX10_mend_9 fX10_159 (sh36 _) r36_48 ?_
    refine Ex.iload_n (pc := 12) dX10_mend_12 rfl rfl ?_
    refine Ex.iald (pc := 13) (j := j) dX10_mend_13 (sh65 _) (vp_in_nI (by omega) (by decide)) (ixN2 (by omega)) ?_
    refine Ex.aload_n (pc := 14) dX10_mend_14 rfl rfl ?_
    refine Ex.getR (pc := 15) dX10_mend_15 fX10_60 (sh36 _) r36_16 ?_
    refine Ex.iconst (pc := 18) (v := 5) dX10_mend_18 rfl ?_
    refine Ex.aload_n (pc := 19) dX10_mend_19 rfl rfl ?_
    refine Ex.getI (pc := 20) dX10_mend_20 fX10_51 (sh36 _) ?_
    refine Ex.imul (pc := 23) dX10_mend_23 ?_
    refine Ex.iload_n (pc := 24) dX10_mend_24 rfl rfl ?_
    refine Ex.iadd (pc := 25) dX10_mend_25 ?_
    refine Ex.iald (pc := 26) (j := 5 * bk + j) dX10_mend_26 (sh40 _) (ixE (c := 5) (a := bk) (b := j) h2 rfl (by omega) (by decide)) (ixE2 (c := 5) h2 rfl (by omega)) ?_
    refine Ex.icmp_ne (pc := 27) (tgt := 44) dX10_mend_27 (by decide) (fun c27 => ?_) (fun c27 => ?_)
    · skip
      refine absurd ⟨hi1, ?_⟩ hbad
      rw [nI_clamp (by omega)]
      have e := x4 j hj
      rw [show 5 * 0 + j = j by omega] at e
      rw [← e, ← (hf1 j hj).2]; exact c27
    · skip
      refine Ex.aload_n (pc := 30) dX10_mend_30 rfl rfl ?_
      refine Ex.iconst (pc := 31) (v := 3) dX10_mend_31 rfl ?_
      refine Ex.callV (pc := 32) (As := [.int 3]) (rest := []) dX10_mend_32 cX10_222 (tm_refuses (k := 3) (by decide)) (sh36 _) rfl rfl (by decide) (Nat.le_refl _) (Nat.le_refl _) (Nat.le_of_ble_eq_true rfl) (Or.inl (fun r S' h => by obtain ⟨_, h⟩ := h; subst h; rfl)) (fun r S' hq _ _ => ?_)
      obtain ⟨rfl, rfl⟩ := hq
      refine Ex.if_lt (pc := 35) (tgt := 42) dX10_mend_35 (by decide) (fun _ => ?_) (fun c35 => absurd (by decide) c35)
      refine Ex.iconst (pc := 42) (v := 0) dX10_mend_42 rfl ?_
      refine Ex.iret (pc := 43) rfl rfl rfl dX10_mend_43 (Nat.le_refl _) (Nat.le_refl _) ?_
      exact ⟨rfl, rfl⟩
set_option maxRecDepth 20000 in
theorem tm_mend1 {N : Nat} {I : aI} {L : aL} {p : aP} {bk nb ns nh : Nat} {f5 f6 : Nat → Int32} {x : aX} {ks : List aRow} (hR : RS I bk nb ns nh p f5 f6 x (l40 ks)) {uf : Nat} {ul : List (aX × List aRow)} (hU : UR I nb ns uf ul) {j : Nat} (hj : j < nb) (h6 : le99 (f6 j)) (hd : ¬ x.2.2.2.1 j = f6 j) : Run 3 0 0 mX10_mend [.ref 36, .int (nI j)] (St N I L) (RX N (fun o I2 L2 => o = some (.int (1)) ∧ Sm [36, 63, 64, 65, 66, 67, 68, 69, 71] I I2 ∧ SmL [70] L L2 ∧ (∀ j, j ≠ 53 → j ≠ 54 → I2 36 j = I 36 j) ∧ RS I2 bk nb ns nh p f5 f6 (x.1, x.2.1, x.2.2.1, upd x.2.2.2.1 j (f6 j), x.2.2.2.2) (l40 ks) ∧ ∃ uf2, UR I2 nb ns uf2 (((x, l40 ks) :: ul).take 20))) := by
  refine Run.of (ls := [some (.ref 36), some (.int _)]) (by decide) (Nat.le_of_ble_eq_true rfl) rfl ?_
  obtain ⟨hP, hX, hK, hG, hrb⟩ := id hR
  obtain ⟨⟨h1, h2, hnb, hns, hnh, hcb, hcs, hch⟩, -⟩ := id hP
  obtain ⟨x1, x2, x3, x4, x5⟩ := id hX
  obtain ⟨-, -, -, hf1, hf2, hf3⟩ := id hP
  have e4 := x4 j hj
  rw [show 5 * 0 + j = j by omega] at e4
  refine Ex.aload_n (pc := 0) dX10_mend_0 rfl rfl ?_
  refine Ex.iload_n (pc := 1) dX10_mend_1 rfl rfl ?_
  refine Ex.callV (pc := 2) (As := [.int _]) (rest := []) dX10_mend_2 cX10_470 (tm_isBoard hP.1) (sh36 _) rfl rfl (by decide) (Nat.le_refl _) (Nat.le_refl _) (Nat.le_of_ble_eq_true rfl) (Or.inl (fun r S' h => by obtain ⟨_, h⟩ := h; subst h; rfl)) (fun r S' hq _ _ => ?_)
  obtain ⟨rfl, rfl⟩ := hq
  rw [inR_nI hj (by omega)]
  refine Ex.if_eq (pc := 5) (tgt := 30) dX10_mend_5 (by decide) (fun c5 => absurd c5 (by decide)) (fun _ => ?_)
  refine Ex.aload_n (pc := 8) dX10_mend_8 rfl rfl ?_
  refine Ex.getR (pc := 9) dX10_mend_9 fX10_159 (sh36 _) r36_48 ?_
  refine Ex.iload_n (pc := 12) dX10_mend_12 rfl rfl ?_
  refine Ex.iald (pc := 13) (j := j) dX10_mend_13 (sh65 _) (vp_in_nI (by omega) (by decide)) (ixN2 (by omega)) ?_
  refine Ex.aload_n (pc := 14) dX10_mend_14 rfl rfl ?_
  refine Ex.getR (pc := 15) dX10_mend_15 fX10_60 (sh36 _) r36_16 ?_
  refine Ex.iconst (pc := 18) (v := 5) dX10_mend_18 rfl ?_
  refine Ex.aload_n (pc := 19) dX10_mend_19 rfl rfl ?_
  refine Ex.getI (pc := 20) dX10_mend_20 fX10_51 (sh36 _) ?_
  refine Ex.imul (pc := 23) dX10_mend_23 ?_
  refine Ex.iload_n (pc := 24) dX10_mend_24 rfl rfl ?_
  refine Ex.iadd (pc := 25) dX10_mend_25 ?_
  refine Ex.iald (pc := 26) (j := 5 * bk + j) dX10_mend_26 (sh40 _) (ixE (c := 5) (a := bk) (b := j) h2 rfl (by omega) (by decide)) (ixE2 (c := 5) h2 rfl (by omega)) ?_
  refine Ex.icmp_ne (pc := 27) (tgt := 44) dX10_mend_27 (by decide) (fun _ => ?_) (fun c27 => absurd c27 (by rw [e4, (hf1 j hj).2]; exact hd))
  refine Ex.aload_n (pc := 44) dX10_mend_44 rfl rfl ?_
  refine Ex.callV (pc := 45) (As := []) (rest := []) dX10_mend_45 cX10_519 (tm_keeps hR hU) (sh36 _) rfl rfl (by decide) (Nat.le_refl _) (Nat.le_refl _) (Nat.le_of_ble_eq_true rfl) (Or.inl (fun r S' h => by obtain ⟨_, _, h, _⟩ := h; subst h; rfl)) (fun r S' hq _ _ => ?_)
  obtain ⟨I1, rfl, rfl, hS1, h361, hX1, hK1, uf1, hU1⟩ := hq
  have hP1 : RefP I1 bk nb ns nh p f5 f6 := hP.sm' hS1 (h361 13 (by decide) (by decide)) (by decide)
  refine Ex.aload_n (pc := 48) dX10_mend_48 rfl rfl ?_
  refine Ex.getR (pc := 49) dX10_mend_49 fX10_159 (sh36 _) r36_48 ?_
  refine Ex.iload_n (pc := 52) dX10_mend_52 rfl rfl ?_
  refine Ex.aload_n (pc := 53) dX10_mend_53 rfl rfl ?_
  refine Ex.getR (pc := 54) dX10_mend_54 fX10_60 (sh36 _) r36_16 ?_
  refine Ex.iconst (pc := 57) (v := 5) dX10_mend_57 rfl ?_
  refine Ex.aload_n (pc := 58) dX10_mend_58 rfl rfl ?_
  refine Ex.getI (pc := 59) dX10_mend_59 fX10_51 (sh36 _) ?_
  refine Ex.imul (pc := 62) dX10_mend_62 ?_
  refine Ex.iload_n (pc := 63) dX10_mend_63 rfl rfl ?_
  refine Ex.iadd (pc := 64) dX10_mend_64 ?_
  refine Ex.iald (pc := 65) (j := 5 * bk + j) dX10_mend_65 (sh40 _) (ixE (c := 5) (a := bk) (b := j) hP1.1.2.1 rfl (by omega) (by decide)) (ixE2 (c := 5) hP1.1.2.1 rfl (by omega)) ?_
  rw [(hP1.2.2.2.1 j hj).2]
  refine Ex.iast (pc := 66) (j := j) dX10_mend_66 (sh65 _) (vp_in_nI (by omega) (by decide)) (ixN2 (by omega)) ?_
  have hSn : Sm [65] I1 (va_up I1 65 (upd (I1 65) j (f6 j))) := Sm.rf.up (by decide)
  have h363 : ∀ i, va_up I1 65 (upd (I1 65) j (f6 j)) 36 i = I1 36 i := fun i => by rw [va_up_n (by decide)]
  refine Ex.iconst (pc := 67) (v := 1) dX10_mend_67 rfl ?_
  refine Ex.iret (pc := 68) rfl rfl rfl dX10_mend_68 (Nat.le_refl _) (Nat.le_refl _) ?_
  have hF3 : SlF 0 I1 (va_up I1 65 (upd (I1 65) j (f6 j))) := SlF.p65 hj hnb
  exact ⟨_, _, rfl, rfl, hS1.tr hSn (by decide) (by decide), SmL.rf, fun i a b => (h363 i).trans (h361 i a b), ⟨hP1.sm hSn (by decide), hX1.up65 hSn (by decide) (by rw [va_up_s]), hK1.sm hSn (by decide) (by decide), hG.mend hj h6, hrb⟩, uf1, hU1.fr hF3 (by decide) (h363 53) (h363 54) hnb hns⟩
set_option maxRecDepth 20000 in
theorem tm_pour0 {N : Nat} {I : aI} {L : aL} {p : aP} {bk nb ns nh : Nat} {f5 f6 : Nat → Int32} {x : aX} {rs : List aRow} (hR : RS I bk nb ns nh p f5 f6 x rs) {w : Int32} (hbad : ¬ okPourX x w) : Run 2 0 0 mX10_pour [.ref 36, .int w] (St N I L) (RI 0 (St N (refM I 3) L)) := by
  refine Run.of (ls := [some (.ref 36), some (.int _)]) (by decide) (Nat.le_of_ble_eq_true rfl) rfl ?_
  obtain ⟨hP, hX, hK, hG, hrb⟩ := id hR
  obtain ⟨⟨h1, h2, hnb, hns, hnh, hcb, hcs, hch⟩, -⟩ := id hP
  obtain ⟨x1, x2, x3, x4, x5⟩ := id hX
  refine Ex.iload_n (pc := 0) dX10_pour_0 rfl rfl ?_
  refine Ex.iconst (pc := 1) (v := 0) dX10_pour_1 rfl ?_
  refine Ex.bipush (pc := 2) (v := 99) dX10_pour_2 rfl ?_
  refine Ex.callS (pc := 4) (As := [.int _, .int 0, .int 99]) (rest := []) dX10_pour_4 cX10_312 tm_is rfl rfl (by decide) (Nat.le_refl _) (Nat.le_refl _) (Nat.le_of_ble_eq_true rfl) (Or.inl (fun r S' h => by obtain ⟨_, h⟩ := h; subst h; rfl)) (fun r S' hq _ _ => ?_)
  obtain ⟨rfl, rfl⟩ := hq
  refine Ex.if_eq (pc := 7) (tgt := 20) dX10_pour_7 (by decide) (fun c7 => ?_) (fun c7 => ?_)
  · skip
    refine Ex.aload_n (pc := 20) dX10_pour_20 rfl rfl ?_
    refine Ex.iconst (pc := 21) (v := 3) dX10_pour_21 rfl ?_
    refine Ex.callV (pc := 22) (As := [.int 3]) (rest := []) dX10_pour_22 cX10_222 (tm_refuses (k := 3) (by decide)) (sh36 _) rfl rfl (by decide) (Nat.le_refl _) (Nat.le_refl _) (Nat.le_of_ble_eq_true rfl) (Or.inl (fun r S' h => by obtain ⟨_, h⟩ := h; subst h; rfl)) (fun r S' hq _ _ => ?_)
    obtain ⟨rfl, rfl⟩ := hq
    refine Ex.if_lt (pc := 25) (tgt := 32) dX10_pour_25 (by decide) (fun _ => ?_) (fun c25 => absurd (by decide) c25)
    refine Ex.iconst (pc := 32) (v := 0) dX10_pour_32 rfl ?_
    refine Ex.iret (pc := 33) rfl rfl rfl dX10_pour_33 (Nat.le_refl _) (Nat.le_refl _) ?_
    exact ⟨rfl, rfl⟩
  · skip
    refine Ex.aload_n (pc := 10) dX10_pour_10 rfl rfl ?_
    refine Ex.getR (pc := 11) dX10_pour_11 fX10_156 (sh36 _) r36_47 ?_
    refine Ex.iconst (pc := 14) (v := 0) dX10_pour_14 rfl ?_
    refine Ex.iald (pc := 15) (j := 0) dX10_pour_15 (sh64 _) (by unfold vp_in; decide) (by decide) ?_
    refine Ex.iload_n (pc := 16) dX10_pour_16 rfl rfl ?_
    refine Ex.icmp_ne (pc := 17) (tgt := 34) dX10_pour_17 (by decide) (fun c17 => ?_) (fun c17 => ?_)
    · skip
      have hv := isB_iff.mp (bI_1 c7)
      exact absurd ⟨hv.1, hv.2, fun q => c17 (by rw [x2, q])⟩ hbad
    · skip
      refine Ex.aload_n (pc := 20) dX10_pour_20 rfl rfl ?_
      refine Ex.iconst (pc := 21) (v := 3) dX10_pour_21 rfl ?_
      refine Ex.callV (pc := 22) (As := [.int 3]) (rest := []) dX10_pour_22 cX10_222 (tm_refuses (k := 3) (by decide)) (sh36 _) rfl rfl (by decide) (Nat.le_refl _) (Nat.le_refl _) (Nat.le_of_ble_eq_true rfl) (Or.inl (fun r S' h => by obtain ⟨_, h⟩ := h; subst h; rfl)) (fun r S' hq _ _ => ?_)
      obtain ⟨rfl, rfl⟩ := hq
      refine Ex.if_lt (pc := 25) (tgt := 32) dX10_pour_25 (by decide) (fun _ => ?_) (fun c25 => absurd (by decide) c25)
      refine Ex.iconst (pc := 32) (v := 0) dX10_pour_32 rfl ?_
      refine Ex.iret (pc := 33) rfl rfl rfl dX10_pour_33 (Nat.le_refl _) (Nat.le_refl _) ?_
      exact ⟨rfl, rfl⟩
set_option maxRecDepth 20000 in
theorem tm_pour1 {N : Nat} {I : aI} {L : aL} {p : aP} {bk nb ns nh : Nat} {f5 f6 : Nat → Int32} {x : aX} {ks : List aRow} (hR : RS I bk nb ns nh p f5 f6 x (l40 ks)) {uf : Nat} {ul : List (aX × List aRow)} (hU : UR I nb ns uf ul) {w : Int32} (hok : okPourX x w) : Run 3 0 0 mX10_pour [.ref 36, .int w] (St N I L) (RX N (fun o I2 L2 => o = some (.int (1)) ∧ Sm [36, 63, 64, 65, 66, 67, 68, 69, 71] I I2 ∧ SmL [70] L L2 ∧ (∀ j, j ≠ 53 → j ≠ 54 → I2 36 j = I 36 j) ∧ RS I2 bk nb ns nh p f5 f6 (x.1, w, x.2.2.1, x.2.2.2.1, x.2.2.2.2) (l40 ks) ∧ ∃ uf2, UR I2 nb ns uf2 (((x, l40 ks) :: ul).take 20))) := by
  refine Run.of (ls := [some (.ref 36), some (.int _)]) (by decide) (Nat.le_of_ble_eq_true rfl) rfl ?_
  obtain ⟨hP, hX, hK, hG, hrb⟩ := id hR
  obtain ⟨⟨h1, h2, hnb, hns, hnh, hcb, hcs, hch⟩, -⟩ := id hP
  obtain ⟨x1, x2, x3, x4, x5⟩ := id hX
  obtain ⟨o1, o2, o3⟩ := hok
  have h99 : le99 w := by obtain ⟨b, hb, e⟩ := nI_of2 (n := 99) (by decide) o1 (Int32.not_lt.mp o2); exact ⟨b, hb, e⟩
  refine Ex.iload_n (pc := 0) dX10_pour_0 rfl rfl ?_
  refine Ex.iconst (pc := 1) (v := 0) dX10_pour_1 rfl ?_
  refine Ex.bipush (pc := 2) (v := 99) dX10_pour_2 rfl ?_
  refine Ex.callS (pc := 4) (As := [.int _, .int 0, .int 99]) (rest := []) dX10_pour_4 cX10_312 tm_is rfl rfl (by decide) (Nat.le_refl _) (Nat.le_refl _) (Nat.le_of_ble_eq_true rfl) (Or.inl (fun r S' h => by obtain ⟨_, h⟩ := h; subst h; rfl)) (fun r S' hq _ _ => ?_)
  obtain ⟨rfl, rfl⟩ := hq
  rw [isB_t o1 o2]
  refine Ex.if_eq (pc := 7) (tgt := 20) dX10_pour_7 (by decide) (fun c7 => absurd c7 (by decide)) (fun _ => ?_)
  refine Ex.aload_n (pc := 10) dX10_pour_10 rfl rfl ?_
  refine Ex.getR (pc := 11) dX10_pour_11 fX10_156 (sh36 _) r36_47 ?_
  refine Ex.iconst (pc := 14) (v := 0) dX10_pour_14 rfl ?_
  refine Ex.iald (pc := 15) (j := 0) dX10_pour_15 (sh64 _) (by unfold vp_in; decide) (by decide) ?_
  refine Ex.iload_n (pc := 16) dX10_pour_16 rfl rfl ?_
  refine Ex.icmp_ne (pc := 17) (tgt := 34) dX10_pour_17 (by decide) (fun _ => ?_) (fun c17 => absurd c17 (by rw [x2]; exact fun q => o3 q.symm))
  refine Ex.aload_n (pc := 34) dX10_pour_34 rfl rfl ?_
  refine Ex.callV (pc := 35) (As := []) (rest := []) dX10_pour_35 cX10_519 (tm_keeps hR hU) (sh36 _) rfl rfl (by decide) (Nat.le_refl _) (Nat.le_refl _) (Nat.le_of_ble_eq_true rfl) (Or.inl (fun r S' h => by obtain ⟨_, _, h, _⟩ := h; subst h; rfl)) (fun r S' hq _ _ => ?_)
  obtain ⟨I1, rfl, rfl, hS1, h361, hX1, hK1, uf1, hU1⟩ := hq
  have hP1 : RefP I1 bk nb ns nh p f5 f6 := hP.sm' hS1 (h361 13 (by decide) (by decide)) (by decide)
  refine Ex.aload_n (pc := 38) dX10_pour_38 rfl rfl ?_
  refine Ex.getR (pc := 39) dX10_pour_39 fX10_156 (sh36 _) r36_47 ?_
  refine Ex.iconst (pc := 42) (v := 0) dX10_pour_42 rfl ?_
  refine Ex.iload_n (pc := 43) dX10_pour_43 rfl rfl ?_
  refine Ex.iast (pc := 44) (j := 0) dX10_pour_44 (sh64 _) (by unfold vp_in; decide) (by decide) ?_
  have hSn : Sm [64] I1 (va_up I1 64 (upd (I1 64) 0 w)) := Sm.rf.up (by decide)
  have h363 : ∀ i, va_up I1 64 (upd (I1 64) 0 w) 36 i = I1 36 i := fun i => by rw [va_up_n (by decide)]
  refine Ex.iconst (pc := 45) (v := 1) dX10_pour_45 rfl ?_
  refine Ex.iret (pc := 46) rfl rfl rfl dX10_pour_46 (Nat.le_refl _) (Nat.le_refl _) ?_
  have hF3 : SlF 0 I1 (va_up I1 64 (upd (I1 64) 0 w)) := SlF.p64
  obtain ⟨y1, y2, y3, y4, y5⟩ := id hX1
  refine ⟨_, _, rfl, rfl, hS1.tr hSn (by decide) (by decide), SmL.rf, fun i a b => (h363 i).trans (h361 i a b), ⟨hP1.sm hSn (by decide), ⟨?_, ?_, ?_, ?_, ?_⟩, hK1.sm hSn (by decide) (by decide), hG.pour h99, hrb⟩, uf1, hU1.fr hF3 (by decide) (h363 53) (h363 54) hnb hns⟩
  · rw [va_up_n (by decide), y1]
  · rw [va_up_s, upd_s]
  · rw [va_up_n (by decide), y3]
  · intro b hb; rw [va_up_n (by decide)]; exact y4 b hb
  · intro b hb; rw [va_up_n (by decide)]; exact y5 b hb
