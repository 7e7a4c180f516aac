theorem rel_chO {N K n : Nat} {tb : Nat → Nat} {I I' J I2 : aI} {L M L2 : aL} {p : aP} {nb ns nh bk b : Nat} {tk : Tk} {c : Cd} {pl : Pl} (g2 : G2 I L) (g4 : G4 I nb ns K) (hbk : bk < 2) (hb : b = 1 - bk) (hn : n ≤ 1600) (hV : PlV pl c)
    (i1 : ∀ a, a < 81 → a ∉ [0, 10, 11, 12, 19, 23, 26, 30] → I' a = I a) (i0 : I' 0 = upd (upd (upd (I 0) 1 0) 3 0) 4 (-1)) (ia : I' 10 0 = 0) (ib : I' 10 1 = nI pl.2.2.2.2.1) (ic : I' 10 2 = 0) (id' : I' 10 3 = 0) (ie : ∀ j, j < 5 → I' 11 j = I' 86 j) (if' : ∀ j, j < 6 → I' 12 j = I' 85 (6 + j)) (i19 : I' 19 = upd (I 19) 1 0) (i23 : I' 23 = upd (I 23) 0 0) (i26 : I' 26 = upd (I 26) 0 0) (i30 : I' 30 = upd (I 30) 0 (-1)) (hpo : PlO I' pl) (hpx : PxO n I' 0 false tk c)
    (jo : ∀ a, a ≠ 11 → a ≠ 12 → J a = I' (sg a)) (j11 : ∀ j, J 11 j = if j < 5 then I' 11 j else 0) (j12 : ∀ j, J 12 j = if j < 6 then I' 12 j else 0) (hM : ∀ a, a < 81 → ¬ (2 ≤ a ∧ a ≤ 9) → M a = L a)
    (hF : CmF b J M I2 L2) (m1 : I2 36 1 = 0) (m10 : I2 36 10 = 0) (m11 : I2 36 11 = -1) (m13 : I2 36 13 = nI b) (m54 : I2 36 54 = 0) (m62 : I2 36 62 = 0) (m6 : I2 62 = J 62) (m63 : I2 63 0 = 0) (m64 : I2 64 0 = I2 47 b) (m67 : I2 67 0 = 0) (m68 : I2 68 0 = 0) (m65 : ∀ k, k < 5 → I2 65 k = I2 40 (5 * b + k)) (m66 : ∀ k, k < 6 → I2 66 k = I2 42 (6 * b + k)) (hPM : PlM I2 L2 b pl c.length) (hCM : CdM I2 b c) (hc16 : c.length ≤ 1600) : Rel n (K + 1) I2 L2 := by
  obtain ⟨f1, f2, f3, f4, f5, f6⟩ := hF
  obtain ⟨hN1, ho4, ho5, hor⟩ := hpo
  obtain ⟨hx1, hx2, hx3, hx4, hx5⟩ := hpx
  obtain ⟨hv1, hv2, hv3, hv4⟩ := hV
  obtain ⟨hpm1, hpm2, hpm3, hpm4, hpm5⟩ := hPM
  obtain ⟨hpt, hpr⟩ := hv4.t
  have hcn : c.length ≤ n := by
    have hx4 : c.length + 0 ≤ tk.2.2.2.1 := hx4
    have := hx2.2.2.1; have := hx2.2.2.2.1; omega
  have sgl : ∀ a, ¬ (2 ≤ a ∧ a ≤ 9) → sg a = a := fun a h => by unfold sg; rw [if_neg h]
  have sgp : ∀ a, 2 ≤ a → a ≤ 9 → sg a = a + 80 := fun a x y => by unfold sg; rw [if_pos ⟨x, y⟩]
  have lo : ∀ a, a < 36 → a ∉ [0, 2, 3, 4, 5, 6, 7, 8, 9, 10, 11, 12, 19, 23, 26, 30] → I2 a = I a := fun a x y => by
    simp at y
    rw [f1 a (Or.inl x), jo a (by omega) (by omega), sgl a (by omega), i1 a (by omega) (by simp; omega)]
  have lp : ∀ a, a < 36 → a ∈ [0, 10, 19, 23, 26, 30] → I2 a = I' a := fun a x y => by
    simp at y
    rw [f1 a (Or.inl x), jo a (by omega) (by omega), sgl a (by omega)]
  have lq : ∀ a, 2 ≤ a → a ≤ 9 → I2 a = I' (a + 80) := fun a x y => by
    rw [f1 a (Or.inl (by omega)), jo a (by omega) (by omega), sgp a x y]
  have hi : ∀ a, 68 < a → a < 81 → I2 a = I a := fun a x y => by
    rw [f1 a (Or.inr (Or.inr x)), jo a (by omega) (by omega), sgl a (by omega), i1 a y (by simp; omega)]
  have e36 : J 36 = I 36 := by rw [jo 36 (by decide) (by decide), sgl 36 (by decide), i1 36 (by decide) (by decide)]
  have h36 : ∀ j, j ∈ [53, 68] → I2 36 j = I 36 j := fun j hj => by rw [f2 j (by simp at hj ⊢; omega), e36]
  have q0 := hv1 0 (by decide)
  have q1 := hv1 1 (by decide)
  have q2 := hv1 2 (by decide)
  have w0 : pl.1 0 ≤ 5 := q0.1
  have w1 : pl.1 1 ≤ 6 := q1.1
  have w2 : pl.1 2 ≤ 6 := q2.1
  have e3 := lq 3 (by decide) (by decide)
  have e4 := lq 4 (by decide) (by decide)
  have e5 := lq 5 (by decide) (by decide)
  have e6 := lq 6 (by decide) (by decide)
  have c5 : ∀ q j, q < 3 → j < pl.1 q → I2 5 (6 * q + j) = nI (pl.2.2.1 q j) ∧ I2 6 (6 * q + j) = nI (pl.2.2.2.1 q j) := fun q j hq hj => by
    rw [e5, e6]; exact ((hN1 q hq).2.2 j).1 hj |>.2.2
  have z5 : ∀ q j, q < 3 → pl.1 q ≤ j → j < 6 → I2 5 (6 * q + j) = 0 ∧ I2 6 (6 * q + j) = 0 := fun q j hq hj h6 => by
    rw [e5, e6]; exact ((hN1 q hq).2.2 j).2 hj h6
  have l99 : ∀ m : Nat, m ≤ 99 → le99 (nI m) := fun m hm => ⟨m, hm, rfl⟩
  have l0 : le99 (0 : Int32) := ⟨0, by omega, rfl⟩
  have x11 : ∀ j, I2 11 j = if j < pl.1 0 then nI (pl.2.2.2.1 0 j) else 0 := fun j => by
    rw [f1 11 (Or.inl (by decide)), j11 j]
    by_cases h5 : j < 5
    · rw [if_pos h5, ie j h5]
      have e : I' 86 j = I2 6 (6 * 0 + j) := by rw [e6, Nat.mul_zero, Nat.zero_add]
      rw [e]
      by_cases hj : j < pl.1 0
      · rw [if_pos hj]; exact (c5 0 j (by decide) hj).2
      · rw [if_neg hj]; exact (z5 0 j (by decide) (by omega) (by omega)).2
    · rw [if_neg h5, if_neg (by omega)]
  have x12 : ∀ j, I2 12 j = if j < pl.1 1 then nI (pl.2.2.1 1 j) else 0 := fun j => by
    rw [f1 12 (Or.inl (by decide)), j12 j]
    by_cases h5 : j < 6
    · rw [if_pos h5, if' j h5]
      have e : I' 85 (6 + j) = I2 5 (6 * 1 + j) := by rw [e5, Nat.mul_one]
      rw [e]
      by_cases hj : j < pl.1 1
      · rw [if_pos hj]; exact (c5 1 j (by decide) hj).1
      · rw [if_neg hj]; exact (z5 1 j (by decide) (by omega) h5).1
    · rw [if_neg h5, if_neg (by omega)]
  have x10 : I2 10 = I' 10 := lp 10 (by decide) (by decide)
  have hb2 : b < 2 := by omega
  obtain ⟨ks, lo0, nx, us, uf, ws, a1, a2, a3, a4, a5, a6, a7, a8, a9, b1, b2, b3⟩ := g4
  refine ⟨plP pl c, pl.1 0, pl.1 1, pl.1 2, b, G1.nil (by rw [lp 0 (by decide) (by decide), i0, upd_n (by decide), upd_n (by decide), upd_s]) m1, ?_, ?_, ?_, ⟨[], ⟨by rw [lp 23 (by decide) (by decide), i23, upd_s]; rfl, by decide, fun k b n l e => by cases e⟩, by rw [m62]; rfl, by decide, fun k b n l e => by cases e⟩, G6.no (by rw [lp 26 (by decide) (by decide), i26, upd_s]) (by rw [lp 30 (by decide) (by decide), i30, upd_s])⟩
  · obtain ⟨y1, y2, y3, ⟨m, y4, y5, y6⟩, n', z1, z2, z3, z4⟩ := g2
    have z0 : I2 0 = upd (upd (upd (I 0) 1 0) 3 0) 4 (-1) := by rw [lp 0 (by decide) (by decide), i0]
    refine ⟨by rw [z0, m10, upd_n (by decide), upd_s], by rw [z0, m11, upd_s], fun j hj => ?_, ⟨m, y4, by rw [f4 0 (Or.inl (by decide)), hM 0 (by decide) (by decide)]; exact y5, by rw [f5 55 (by decide), hM 36 (by decide) (by decide)]; exact y6⟩, n', z1, by rw [z0, upd_n (by decide), upd_n (by decide), upd_n (by decide)]; exact z2, by rw [h36 68 (by decide)]; exact z3, fun j hj => by rw [lo 34 (by decide) (by decide), hi 80 (by decide) (by decide)]; exact z4 j hj⟩
    rw [lo 35 (by decide) (by decide), m6, jo 62 (by decide) (by decide), sgl 62 (by decide), i1 62 (by decide) (by decide)]; exact y3 j hj
  · have e9 := lq 9 (by decide) (by decide)
    have hcd : ∀ t, t < c.length → ∃ s, c[t]? = some s ∧ c.getD t (0, 0) = s := fun t ht => ⟨c[t], List.getElem?_eq_getElem ht, by rw [List.getD_eq_getElem?_getD, List.getElem?_eq_getElem ht]; rfl⟩
    refine ⟨⟨⟨hn, c.length, by rw [lq 2 (by decide) (by decide)]; exact hx3, hcn, fun r hr => ⟨by rw [lq 7 (by decide) (by decide)]; exact (hor r hr).1, by rw [lq 8 (by decide) (by decide)]; exact (hor r hr).2.1, (hpr r hr).1, (hpr r hr).2.1, fun t t1 t2 => ?_, (hpt.2 r hr).1⟩⟩, hpt.1⟩, ⟨by rw [e3]; exact (hN1 0 (by decide)).1, w0, by rw [e3]; exact (hN1 1 (by decide)).1, w1, by rw [e3]; exact (hN1 2 (by decide)).1, w2, fun z hz => ⟨pl.2.2.1 0 z, by have := (q0.2 z hz).2.1; omega, ?_⟩⟩, ⟨⟨hb2, m13, w0, w1, w2, (hpm1 0 (by decide)).2.1, (hpm1 1 (by decide)).2.1, (hpm1 2 (by decide)).2.1⟩, fun r hr => ?_, hpt, fun z hz => ?_, fun z hz => ?_, fun z hz => ?_⟩, ⟨pl.2.1, fun q j hq hj => ?_, fun q j hq hj => ?_⟩, ?_, fun j hj => ?_, fun j h1 h2 => ?_, fun j h1 h2 => ?_⟩
    · obtain ⟨s1, s2, s3, s4⟩ := (hpr r hr).2.2 t t1 t2
      obtain ⟨s, u1, u2⟩ := hcd t s1
      refine ⟨?_, s2, s3, s4⟩
      rw [e9, (hx5 t s u1).1]
      show _ = nI ((c.getD t (0, 0)).1 * 16384 + (c.getD t (0, 0)).2)
      rw [u2]
    · have := (c5 0 z (by decide) hz).1
      rw [Nat.mul_zero, Nat.zero_add] at this; exact this
    · rcases hpm5 r hr with ⟨y1, y2⟩ | ⟨y1, y2, y3, y4⟩
      · exact Or.inl ⟨y1, y2⟩
      · refine Or.inr ⟨y1, Nat.le_trans y2 hc16, y3, y4, fun t t1 t2 => ?_⟩
        obtain ⟨s, u1, u2⟩ := hcd t ((hpr r hr).2.2 t t1 t2).1
        have := hCM.2 t s u1
        show CdR (c.getD t (0, 0)).1 (c.getD t (0, 0)).2 _ _
        rw [u2]; exact this
    · have y := hpm2 0 (by decide) z hz
      have v := c5 0 z (by decide) hz
      rw [Nat.mul_zero, Nat.zero_add] at v
      exact ⟨y.1.trans v.1.symm, y.2.trans v.2.symm⟩
    · have y := hpm2 1 (by decide) z hz
      have v := c5 1 z (by decide) hz
      exact ⟨y.1.trans v.1.symm, y.2.trans v.2.symm⟩
    · have y := hpm2 2 (by decide) z hz
      have v := c5 2 z (by decide) hz
      exact ⟨y.1.trans v.1.symm, y.2.trans v.2.symm⟩
    · have hj' : j < pl.1 q := by
        unfold cnR at hj
        rcases (show q = 0 ∨ q = 1 ∨ q = 2 by omega) with e | e | e <;> subst e <;> simpa using hj
      rw [e4]
      exact ⟨(((hN1 q hq).2.2 j).1 hj').1, (((hN1 q hq).2.2 j).1 hj').2.1⟩
    · have hj' : j < pl.1 q := by
        unfold cnR at hj
        rcases (show q = 0 ∨ q = 1 ∨ q = 2 by omega) with e | e | e <;> subst e <;> simpa using hj
      exact (hpm1 q hq).2.2 j hj'
    · rw [lq 2 (by decide) (by decide), hpm4]; exact ho5
    · have v := c5 0 j (by decide) hj
      rw [Nat.mul_zero, Nat.zero_add] at v
      rw [v.2]; exact l99 _ (q0.2 j hj).2.2
    · have v := z5 0 j (by decide) h1 (by omega)
      rw [Nat.mul_zero, Nat.zero_add] at v
      exact v.2
    · exact (z5 1 j (by decide) h1 h2).1
  · have key : ∀ i, i < 32 → ((0 : Int32)).toBitVec.getLsbD i = false := by decide
    refine ⟨[], 0, nx, [], uf, [], ⟨by rw [m63]; show _ = I2 10 0; rw [x10, ia], by rw [m64, hpm3]; show _ = I2 10 1; rw [x10, ib], by rw [m67]; show _ = I2 10 2; rw [x10, ic], fun z hz => ?_, fun z hz => ?_⟩, ⟨by rw [m68]; rfl, by decide, fun k r e => (by cases e)⟩, ⟨⟨fun j => ?_, fun j => ?_⟩, fun j hj => ?_, fun j hj => ?_, ⟨0, by omega, ?_⟩, ?_, fun i _ h2 => ?_⟩, by rw [xOf_c (lo 13 (by decide) (by decide)) (lo 14 (by decide) (by decide)) (lo 15 (by decide) (by decide))]; exact a4, ⟨by rw [x10, id']; rfl, by decide, by decide, fun i r _ e => (by cases e)⟩, ⟨?_, a6.2.1, by rw [lp 19 (by decide) (by decide), i19, upd_s]; rfl, by decide, fun k u e => (by cases e)⟩, ⟨a7.1, by rw [h36 53 (by decide)]; exact a7.2.1, by rw [m54]; rfl, by decide, fun k x rs e => (by cases e)⟩, ⟨rfl, fun k u w e => (by cases e)⟩, Or.inr rfl, fun w hw => (by cases hw), Nat.zero_le _, fun r hr => (by cases hr)⟩
    · show I2 65 (5 * 0 + z) = I2 11 z
      rw [Nat.mul_zero, Nat.zero_add, m65 z (by omega), x11 z, if_pos hz]
      exact (hpm2 0 (by decide) z hz).2
    · show I2 66 (6 * 0 + z) = I2 12 z
      rw [Nat.mul_zero, Nat.zero_add, m66 z (by omega), x12 z, if_pos hz]
      exact (hpm2 1 (by decide) z hz).1
    · show le99 (I2 11 j)
      rw [x11 j]
      split
      · next hj => exact l99 _ (q0.2 j hj).2.2
      · exact l0
    · show le99 (I2 12 j)
      rw [x12 j]
      split
      · next hj => exact l99 _ (q1.2 j hj).2.1
      · exact l0
    · show I2 11 j = 0
      rw [x11 j, if_neg (by omega)]
    · show I2 12 j = 0
      rw [x12 j, if_neg (by omega)]
    · show I2 10 0 = _
      rw [x10, ia]; rfl
    · show le99 (I2 10 1)
      rw [x10, ib]; exact l99 _ hv2
    · show (I2 10 2).toBitVec.getLsbD i = false
      rw [x10, ic]; exact key i h2
    · rw [lp 19 (by decide) (by decide), i19, upd_n (by decide)]; exact a6.1
