/-! the tape, the seed, the image -/
theorem rel_12 {N K : Nat} {I I2 : aI} {L L2 : aL} {p : aP} {nb ns nh bk : Nat} (g3 : G3 N I L p nb ns nh bk) (g4 : G4 I nb ns K) (g5 : G5 I nb) (g6 : G6 I p nb ns) (hc : ∀ a, a ∉ [0, 1, 34, 35, 36, 37, 62, 80] → I2 a = I a) (h36 : ∀ j, j ∉ [1, 10, 11, 68] → I2 36 j = I 36 j) (hL : ∀ q, q < 3 → L2 (53 + q) = L (53 + q)) (g1' : G1 I2) (g2' : G2 I2 L2) : Rel N (K + 1) I2 L2 := by
  have h13 : XOk (xOf I 13) := by obtain ⟨_, _, _, _, _, _, _, _, _, q, _⟩ := g4; exact q
  exact ⟨p, nb, ns, nh, bk, g1', g2', g3.c (fun j _ => by rw [hc 2 (by decide)]) (fun a a1 a2 => hc a (by simp; omega)) (h36 13 (by decide)) (fun a a1 a2 => hc a (by simp; omega)) hL, (g4.c (fun a ha => hc a (by simp at ha ⊢; omega)) (by rw [xOf_c (hc 13 (by decide)) (hc 14 (by decide)) (hc 15 (by decide))]; exact h13) (h36 53 (by decide)) (h36 54 (by decide)) (fun x hx => hx.c (fun a a1 a2 => hc a (by simp; omega))) (fun r hr => hr.c (hc 68 (by decide)) (hc 69 (by decide))) (fun uf ul hu => hu.c (h36 53 (by decide)) (h36 54 (by decide)) (fun a a1 a2 => hc a (by simp; omega)))).up (Nat.le_succ _), g5.c (by rw [hc 23 (by decide)]) (hc 24 (by decide)) (h36 62 (by decide)) (fun a a1 a2 => hc a (by simp; omega)), g6.c (fun a ha => hc a (by simp at ha ⊢; omega))⟩
/-- a refusal, told by both -/
theorem rf2 {I : aI} {k : Nat} : (∀ a, a ≠ 35 → a ≠ 62 → refM (refI I k) k a = I a) ∧ refM (refI I k) k 35 = upd (I 35) k (I 35 k + 1) ∧ refM (refI I k) k 62 = upd (I 62) k (I 62 k + 1) := by
  unfold refM refI
  refine ⟨fun a a1 a2 => by rw [va_up_n a2, va_up_n a1], by rw [va_up_n (by decide), va_up_s], by rw [va_up_s, va_up_n (by decide)]⟩
theorem G2.rf {I I2 : aI} {L : aL} {k : Nat} (h : G2 I L) (hk : k < 6) (hc : ∀ a, a ≠ 35 → a ≠ 62 → a ≠ 0 → a ≠ 36 → I2 a = I a) (h0 : ∀ j, j ∈ [3, 4, 15] → I2 0 j = I 0 j) (h36 : ∀ j, j ∈ [10, 11, 68] → I2 36 j = I 36 j) (e35 : I2 35 = upd (I 35) k (I 35 k + 1)) (e62 : I2 62 = upd (I 62) k (I 62 k + 1)) : G2 I2 L := by
  obtain ⟨a1, a2, a3, a4, n, a5, a6, a7, a8⟩ := h
  refine ⟨by rw [h0 3 (by decide), h36 10 (by decide)]; exact a1, by rw [h0 4 (by decide), h36 11 (by decide)]; exact a2, fun j hj => ?_, a4, n, a5, by rw [h0 15 (by decide)]; exact a6, by rw [h36 68 (by decide)]; exact a7, fun j hj => by rw [hc 34 (by decide) (by decide) (by decide) (by decide), hc 80 (by decide) (by decide) (by decide) (by decide)]; exact a8 j hj⟩
  rw [e35, e62]
  by_cases e : j = k
  · rw [e, upd_s, upd_s, a3 k hk]
  · rw [upd_n e, upd_n e]; exact a3 j hj
theorem two_r {N K dx dm k : Nat} {I : aI} {L : aL} {mx mm : aM} {av : List Value} {v : Int32} (hR : Rel N K I L) (hk : k < 6) (hd : dx ≤ 80) (hd2 : dm ≤ 80) (hc : Run dx 0 0 mx (.ref 0 :: av) (St N I L) (RI v (St N (refI I k) L))) (hm : Run dm 0 0 mm (.ref 36 :: av) (St N (refI I k) L) (RI v (St N (refM (refI I k) k) L))) : Two N K I L mx mm av := by
  obtain ⟨p, nb, ns, nh, bk, g1, g2, g3, g4, g5, g6⟩ := hR
  refine ⟨v, (hc.imp ?_).up hd⟩
  rintro r S' ⟨rfl, rfl⟩
  refine ⟨rfl, _, L, rfl, (hm.imp ?_).up hd2⟩
  rintro r S' ⟨rfl, rfl⟩
  obtain ⟨r1, r2, r3⟩ := rf2 (I := I) (k := k)
  refine ⟨rfl, _, L, rfl, rel_12 g3 g4 g5 g6 (fun a ha => r1 a (by simp at ha; omega) (by simp at ha; omega)) (fun j _ => by rw [r1 36 (by decide) (by decide)]) (fun _ _ => rfl) (g1.c (by rw [r1 0 (by decide) (by decide)]) (r1 1 (by decide) (by decide)) (by rw [r1 36 (by decide) (by decide)]) (r1 37 (by decide) (by decide))) (g2.rf hk (fun a a1 a2 _ _ => r1 a a1 a2) (fun j _ => by rw [r1 0 (by decide) (by decide)]) (fun j _ => by rw [r1 36 (by decide) (by decide)]) r2 r3)⟩
theorem rfI_hi {I : aI} {k : Nat} : ∀ a, a ≠ 35 → refI I k a = I a := fun a h => by unfold refI; rw [va_up_n h]
theorem i8_and (z : Int32) : (z &&& 255).toInt8 = z.toInt8 := by
  apply Int8.toBitVec_inj.mp
  rw [Int32.toBitVec_toInt8, Int32.toBitVec_toInt8]
  apply BitVec.eq_of_getLsbD_eq
  intro i hi
  rw [BitVec.getLsbD_signExtend, BitVec.getLsbD_signExtend, Int32.toBitVec_and]
  have h8 : i < 8 := hi
  have : ∀ j, j < 8 → (255 : Int32).toBitVec.getLsbD j = true := by decide
  rw [if_pos (by omega), if_pos (by omega), BitVec.getLsbD_and, this i h8, Bool.and_true]
theorem fd_sx (a b c d e : Int32) (i : Nat) : ∃ q, q < 256 ∧ fe5 a b c d e i = nI q ∧ fd5 a b c d e i = sx q := by
  have key : ∀ z : Int32, ∃ q, q < 256 ∧ z &&& 255 = nI q ∧ z.toInt8.toInt32 = sx q := fun z => by
    obtain ⟨q, hq, e⟩ := and255 z
    refine ⟨q, hq, e, ?_⟩
    unfold sx
    rw [← e, i8_and]
  unfold fe5 fd5 bm4 bt4
  split
  · exact key _
  · split
    · exact key _
    · split
      · exact key _
      · split
        · exact key _
        · exact key _
section
variable {N K : Nat} {I : aI} {L : aL}
theorem tw_feed (h : Rel N K I L) {a b c d e : Int32} : Two N K I L mX9_feed mX10_feed [.int a, .int b, .int c, .int d, .int e] := by
  have h0 := h
  obtain ⟨p, nb, ns, nh, bk, g1, g2, g3, g4, g5, g6⟩ := h
  obtain ⟨tb, t, t16, c1, c2, c3, c4⟩ := g1
  by_cases ht : t ≤ 1580
  · refine ⟨nI (t + 20), ((t_feed1 c1 (by omega)).imp ?_).up (by decide)⟩
    rintro r S' ⟨I1, rfl, rfl, s1, s2, s3, s4, s5⟩
    refine ⟨rfl, I1, L, rfl, ((tm_feed1 (by rw [s1 36 (by decide)]; exact c2) (by omega)).imp ?_).up (by decide)⟩
    rintro r S' ⟨I2, rfl, rfl, m1, m2, m3, m4, m5⟩
    have ho : ∀ x, x ∉ [0, 1, 36, 37] → I2 x = I x := fun x hx => by rw [m1 x (by simp at hx ⊢; omega), s1 x (by simp at hx ⊢; omega)]
    have hj : ∀ j, j ≠ 1 → I2 36 j = I 36 j := fun j hj => by rw [m2 j hj, s1 36 (by decide)]
    have hj0 : ∀ j, j ≠ 1 → I2 0 j = I 0 j := fun j hj => by rw [m1 0 (by decide), s2 j hj]
    refine ⟨rfl, I2, L, rfl, rel_12 g3 g4 g5 g6 (fun x hx => ho x (by simp at hx ⊢; omega)) (fun j hx => hj j (by simp at hx; omega)) (fun _ _ => rfl) ?_ (g2.c (fun j hx => hj0 j (by simp at hx; omega)) (ho 34 (by decide)) (ho 35 (by decide)) (fun j hx => hj j (by simp at hx; omega)) (ho 62 (by decide)) (ho 80 (by decide)) rfl rfl)⟩
    refine ⟨fun i => if i < t then tb i else (fe5 a b c d e (i - t)).toNatClampNeg, t + 20, by omega, by rw [m1 0 (by decide)]; exact s3, m3, fun i hi => ?_, fun i hi => ?_⟩
    · simp only
      by_cases hit : i < t
      · rw [if_pos hit, m1 1 (by decide), s4 i hit]; exact c3 i hit
      · obtain ⟨q, q1, q2, q3⟩ := fd_sx a b c d e (i - t)
        rw [if_neg hit, q2, nI_clamp (by omega), m1 1 (by decide)]
        have := s5 (i - t) (by omega)
        rw [show t + (i - t) = i by omega] at this
        exact ⟨q1, by rw [this, q3]⟩
    · simp only
      by_cases hit : i < t
      · rw [if_pos hit, m4 i hit, s1 37 (by decide)]; exact c4 i hit
      · obtain ⟨q, q1, q2, q3⟩ := fd_sx a b c d e (i - t)
        rw [if_neg hit, q2, nI_clamp (by omega)]
        have := m5 (i - t) (by omega)
        rw [show t + (i - t) = i by omega] at this
        exact ⟨q1, by rw [this, q2]⟩
  · exact two_r h0 (k := 0) (by decide) (by decide) (by decide) (t_feed0 (by rw [c1, show (1580 : Int32) = nI 1580 from rfl, ← Int32.not_lt, nI_ltI (by omega) (by omega)]; omega)) (tm_feed0 (t := t) (by rw [rfI_hi 36 (by decide)]; exact c2) t16 ht)
theorem tw_end (h : Rel N K I L) {w : Int32} : Two N K I L mX9_end mX10_end [.int w] := by
  have h0 := h
  obtain ⟨p, nb, ns, nh, bk, g1, g2, g3, g4, g5, g6⟩ := h
  obtain ⟨tb, t, t16, c1, c2, c3, c4⟩ := g1
  have e1 : I 0 1 = I 36 1 := c1.trans c2.symm
  by_cases hb : w < 0 ∨ ¬ w ≤ I 0 1
  · exact two_r h0 (k := 0) (by decide) (by decide) (by decide) (t_end0 hb) (tm_end0 (by rw [rfI_hi 36 (by decide), ← e1]; exact hb))
  · have h1 : ¬ w < 0 := fun z => hb (Or.inl z)
    have h2 : w ≤ I 0 1 := Classical.byContradiction (fun z => hb (Or.inr z))
    refine ⟨1, ((t_end1 h1 h2).imp ?_).up (by decide)⟩
    rintro r S' ⟨rfl, rfl⟩
    refine ⟨rfl, _, L, rfl, ((tm_end1 h1 (by rw [va_up_n (by decide), ← e1]; exact h2)).imp ?_).up (by decide)⟩
    rintro r S' ⟨rfl, rfl⟩
    have ho : ∀ x, x ≠ 0 → x ≠ 36 → va_up (va_up I 0 (upd (I 0) 1 w)) 36 (upd (va_up I 0 (upd (I 0) 1 w) 36) 1 w) x = I x := fun x x1 x2 => by rw [va_up_n x2, va_up_n x1]
    have hj : ∀ j, j ≠ 1 → va_up (va_up I 0 (upd (I 0) 1 w)) 36 (upd (va_up I 0 (upd (I 0) 1 w) 36) 1 w) 36 j = I 36 j := fun j hj => by rw [va_up_s, upd_n hj, va_up_n (by decide)]
    have hj0 : ∀ j, j ≠ 1 → va_up (va_up I 0 (upd (I 0) 1 w)) 36 (upd (va_up I 0 (upd (I 0) 1 w) 36) 1 w) 0 j = I 0 j := fun j hj => by rw [va_up_n (by decide), va_up_s, upd_n hj]
    refine ⟨rfl, _, L, rfl, rel_12 g3 g4 g5 g6 (fun x hx => ho x (by simp at hx; omega) (by simp at hx; omega)) (fun j hx => hj j (by simp at hx; omega)) (fun _ _ => rfl) ?_ (g2.c (fun j hx => hj0 j (by simp at hx; omega)) (ho 34 (by decide) (by decide)) (ho 35 (by decide) (by decide)) (fun j hx => hj j (by simp at hx; omega)) (ho 62 (by decide) (by decide)) (ho 80 (by decide) (by decide)) rfl rfl)⟩
    have hw : ∃ n, n ≤ t ∧ w = nI n := by
      have a1 := Int32.le_iff_toInt_le.mp h2
      have a2 := Int32.le_iff_toInt_le.mp (Int32.not_lt.mp h1)
      rw [c1, nI_toInt (by omega)] at a1
      rw [show (0 : Int32).toInt = 0 from rfl] at a2
      refine ⟨w.toInt.toNat, by omega, Int32.toInt_inj.mp ?_⟩
      rw [nI_toInt (by omega)]; omega
    obtain ⟨n, hn, rfl⟩ := hw
    exact ⟨tb, n, by omega, by rw [va_up_n (by decide), va_up_s, upd_s], by rw [va_up_s, upd_s], fun i hi => by rw [ho 1 (by decide) (by decide)]; exact c3 i (by omega), fun i hi => by rw [ho 37 (by decide) (by decide)]; exact c4 i (by omega)⟩
theorem tw_seed (h : Rel N K I L) {w : Int32} : Two N K I L mX9_seed mX10_seed [.int w] := by
  have h0 := h
  obtain ⟨p, nb, ns, nh, bk, g1, g2, g3, g4, g5, g6⟩ := h
  by_cases hw : 0 ≤ w
  · refine ⟨1, ((t_seed1 hw).imp ?_).up (by decide)⟩
    rintro r S' ⟨rfl, rfl⟩
    refine ⟨rfl, _, _, rfl, ((tm_seed1 hw).imp ?_).up (by decide)⟩
    rintro r S' ⟨rfl, rfl⟩
    refine ⟨rfl, _, _, rfl, rel_12 g3 g4 g5 g6 (fun _ _ => rfl) (fun _ _ => rfl) (fun q hq => ?_) g1 ?_⟩
    · unfold setE; rw [va_up_n (by omega), va_up_n (by omega)]
    · obtain ⟨a1, a2, a3, ⟨m, m1, m2, m3⟩, a5⟩ := g2
      have hm : ∃ k, k < 2 ^ 31 ∧ w.toInt64 = lN k := by
        have b1 := Int32.le_iff_toInt_le.mp hw
        rw [show (0 : Int32).toInt = 0 from rfl] at b1
        have b2 : w.toInt < 2147483648 := w.toInt_lt
        refine ⟨w.toInt.toNat, by omega, ?_⟩
        apply Int64.toInt_inj.mp
        rw [Int32.toInt_toInt64]
        show w.toInt = (Int64.ofNat w.toInt.toNat).toInt
        rw [Int64.toInt_ofNat_of_lt (by omega)]
        omega
      obtain ⟨k, k1, k2⟩ := hm
      refine ⟨a1, a2, a3, ⟨k, k1, ?_, ?_⟩, a5⟩
      · unfold setE; rw [va_up_n (by decide), va_up_s]; unfold vp_updL; rw [if_pos rfl]; exact k2
      · unfold setE; rw [va_up_s]; unfold vp_updL; rw [if_pos rfl]; exact k2
  · exact two_r h0 (k := 5) (by decide) (by decide) (by decide) (t_seed0 hw) (tm_seed0 hw)
theorem tw_image (h : Rel N K I L) : Two N K I L mX9_image mX10_image [] := by
  obtain ⟨p, nb, ns, nh, bk, g1, g2, g3, g4, g5, g6⟩ := h
  obtain ⟨ks, hR⟩ := Rel.rs g3 g4
  have hc := g3.2.1
  refine ⟨nI (3 + nb + ns + nh + 1), ((t_image hc).imp ?_).up (by decide)⟩
  rintro r S' ⟨I1, rfl, rfl, s1, s2, s3, s4, s5⟩
  have hi : ∀ a, 36 ≤ a → I1 a = I a := fun a h => s1 a (by simp; omega)
  refine ⟨rfl, I1, L, rfl, ((tm_image (rs_lo hR hi)).imp ?_).up (by decide)⟩
  rintro r S' ⟨I2, rfl, rfl, m1, m2, m3, m4, m5⟩
  have ho : ∀ x, x ∉ [0, 34, 36, 80] → I2 x = I x := fun x hx => by rw [m1 x (by simp at hx ⊢; omega), s1 x (by simp at hx ⊢; omega)]
  have hj : ∀ j, j ≠ 68 → I2 36 j = I 36 j := fun j hj => by rw [m2 j hj, s1 36 (by decide)]
  have hj0 : ∀ j, j ≠ 15 → I2 0 j = I 0 j := fun j hj => by rw [m1 0 (by decide), s2 j hj]
  refine ⟨rfl, I2, L, rfl, rel_12 g3 g4 g5 g6 (fun x hx => ho x (by simp at hx ⊢; omega)) (fun j hx => hj j (by simp at hx; omega)) (fun _ _ => rfl) (g1.c (hj0 1 (by decide)) (ho 1 (by decide)) (hj 1 (by decide)) (ho 37 (by decide))) ?_⟩
  obtain ⟨a1, a2, a3, a4, a5⟩ := g2
  refine ⟨by rw [hj0 3 (by decide), hj 10 (by decide)]; exact a1, by rw [hj0 4 (by decide), hj 11 (by decide)]; exact a2, fun j hj6 => by rw [ho 35 (by decide), ho 62 (by decide)]; exact a3 j hj6, a4, 3 + nb + ns + nh + 1, ?_, ?_, m3, fun j hjl => ?_⟩
  · have := hc.2.1; have := hc.2.2.2.1; have := hc.2.2.2.2.2.1; omega
  · rw [m1 0 (by decide)]; exact s3
  · rw [m1 34 (by decide)]
    by_cases e : j < 3 + nb + ns + nh
    · rw [s4 j e, m4 j e]
    · rw [show j = 3 + nb + ns + nh by omega, s5, m5]
theorem G1.tbq {I : aI} (h : G1 I) : ∃ (tb : Nat → Nat) (t : Nat), t ≤ 1600 ∧ I 0 1 = nI t ∧ I 36 1 = nI t ∧ (∀ i, i < t → tb i < 256 ∧ I 37 i = tbF I i ∧ tbF I i = nI (tb i)) ∧ byt (tbF I) t := by
  obtain ⟨tb, t, t16, c1, c2, c3, c4⟩ := h
  have e : ∀ i, i < t → tbF I i = nI (tb i) := fun i hi => by
    show I 1 i &&& 255 = _
    rw [(c3 i hi).2, sx_255 _ (c3 i hi).1]
  exact ⟨tb, t, t16, c1, c2, fun i hi => ⟨(c3 i hi).1, by rw [e i hi]; exact (c4 i hi).2, e i hi⟩, fun i hi => ⟨tb i, (c3 i hi).1, e i hi⟩⟩
theorem G1.nil {I : aI} (h0 : I 0 1 = 0) (h36 : I 36 1 = 0) : G1 I := ⟨fun _ => 0, 0, Nat.zero_le _, h0, h36, fun i hi => absurd hi (Nat.not_lt_zero _), fun i hi => absurd hi (Nat.not_lt_zero _)⟩
theorem tw_see (h : Rel N K I L) : Two N K I L mX9_see mX10_see [] := by
  obtain ⟨p, nb, ns, nh, bk, g1, g2, g3, g4, g5, g6⟩ := h
  obtain ⟨tb, t, t16, c1, c2, c3, c4⟩ := g1.tbq
  have hc := g3.2.1
  cases hok : seeOk (tbF I) nb t with
  | false =>
    refine ⟨-1, ((t_see0 hc c1 t16 hok).imp ?_).up (by decide)⟩
    rintro r S' ⟨rfl, rfl⟩
    have q1 : ∀ a, a ≠ 0 → a ≠ 35 → refI (va_up I 0 (upd (I 0) 1 0)) 5 a = I a := fun a a1 a2 => by rw [rfI_hi a a2, va_up_n a1]
    refine ⟨rfl, _, L, rfl, ((tm_see0 (tb := tbF I) (t := t) (g3.2.2.1.1.sm (l := [0, 35]) (fun a ha => q1 a (by simp at ha; omega) (by simp at ha; omega)) (by rw [q1 36 (by decide) (by decide)]) (by decide) (by decide) (by decide)) (by rw [q1 36 (by decide) (by decide)]; exact c2) t16 (fun i hi => by rw [q1 37 (by decide) (by decide)]; exact (c3 i hi).2.1) c4 hok).imp ?_).up (by decide)⟩
    rintro r S' ⟨rfl, rfl⟩
    obtain ⟨J, hJ⟩ : ∃ J, J = refM (va_up (refI (va_up I 0 (upd (I 0) 1 0)) 5) 36 (upd (refI (va_up I 0 (upd (I 0) 1 0)) 5 36) 1 0)) 5 := ⟨_, rfl⟩
    have j0 : ∀ a, a ∉ [0, 35, 36, 62] → J a = I a := fun a ha => by
      simp at ha
      rw [hJ]; unfold refM; rw [va_up_n (by omega), va_up_n (by omega), q1 a (by omega) (by omega)]
    have j36 : J 36 = upd (I 36) 1 0 := by rw [hJ]; unfold refM; rw [va_up_n (by decide), va_up_s, q1 36 (by decide) (by decide)]
    have jz : J 0 = upd (I 0) 1 0 := by rw [hJ]; unfold refM; rw [va_up_n (by decide), va_up_n (by decide), rfI_hi 0 (by decide), va_up_s]
    have j35 : J 35 = upd (I 35) 5 (I 35 5 + 1) := by rw [hJ]; unfold refM; rw [va_up_n (by decide), va_up_n (by decide)]; unfold refI; rw [va_up_s, va_up_n (by decide)]
    have j62 : J 62 = upd (I 62) 5 (I 62 5 + 1) := by rw [hJ]; unfold refM; rw [va_up_s, va_up_n (by decide), q1 62 (by decide) (by decide)]
    refine ⟨rfl, J, L, by rw [hJ], rel_12 g3 g4 g5 g6 (fun a ha => j0 a (by simp at ha ⊢; omega)) (fun j hj => by rw [j36, upd_n (by simp at hj; omega)]) (fun _ _ => rfl) (G1.nil (by rw [jz, upd_s]) (by rw [j36, upd_s])) (g2.rf (k := 5) (by decide) (fun a a1 a2 a3 a4 => j0 a (by simp; omega)) (fun j hj => by rw [jz, upd_n (by simp at hj; omega)]) (fun j hj => by rw [j36, upd_n (by simp at hj; omega)]) j35 j62)⟩
  | true =>
    refine ⟨nI (t / 3), ((t_see1 hc c1 t16 hok).imp ?_).up (by decide)⟩
    rintro r S' ⟨I1, rfl, rfl, s1, s2, s3, s4, s5, s6⟩
    have q1 : ∀ a, 36 ≤ a → I1 a = I a := fun a ha => s1 a (by simp; omega)
    refine ⟨rfl, I1, L, rfl, ((tm_see1 (tb := tbF I) (t := t) (g3.2.2.1.1.sm (l := [0, 23, 24]) s1 (by rw [q1 36 (by decide)]) (by decide) (by decide) (by decide)) (by rw [q1 36 (by decide)]; exact c2) t16 (fun i hi => by rw [q1 37 (by decide)]; exact (c3 i hi).2.1) c4 hok).imp ?_).up (by decide)⟩
    rintro r S' ⟨I2, rfl, rfl, m1, m2, m3, m4, m5⟩
    have hok2 := (Bool.and_eq_true _ _).mp hok
    have hb3 := of_decide_eq_true hok2.1
    have hrow : ∀ k, k < t / 3 → tb (3 * k) < nb ∧ tb (3 * k + 1) ≤ 40 := fun k hk => by
      have hr : rowOk (tbF I) nb k = true := by
        cases hx : rowOk (tbF I) nb k with
        | true => rfl
        | false => rw [sgF_f _ _ _ k hk hx] at hok2; cases hok2.2
      unfold rowOk at hr
      rw [(c3 (3 * k) (by omega)).2.2, (c3 (3 * k + 1) (by omega)).2.2] at hr
      simp only [Bool.and_eq_true, Bool.not_eq_true', decide_eq_false_iff_not] at hr
      obtain ⟨r1, r2, r3, r4⟩ := hr
      have t1 := (c3 (3 * k) (by omega)).1
      have t2 := (c3 (3 * k + 1) (by omega)).1
      have := hc.2.1
      rw [← Int32.not_lt, Classical.not_not, nI_ltI (by omega) (by omega)] at r1
      rw [show (40 : Int32) = nI 40 from rfl, nI_ltI (by omega) (by omega)] at r3
      omega
    have ho : ∀ x, x ∉ [0, 23, 24, 36, 76, 77, 78] → I2 x = I x := fun x hx => by rw [m1 x (by simp at hx ⊢; omega), s1 x (by simp at hx ⊢; omega)]
    have hj : ∀ j, j ≠ 1 → j ≠ 62 → I2 36 j = I 36 j := fun j j1 j2 => by rw [m2 j j1 j2, s1 36 (by decide)]
    have hj0 : ∀ j, j ≠ 1 → I2 0 j = I 0 j := fun j hj => by rw [m1 0 (by decide), s2 j hj]
    have h13 : XOk (xOf I 13) := by obtain ⟨_, _, _, _, _, _, _, _, _, q, _⟩ := g4; exact q
    refine ⟨rfl, I2, L, rfl, p, nb, ns, nh, bk, G1.nil (by rw [m1 0 (by decide)]; exact s3) m3, g2.c (fun j hx => hj0 j (by simp at hx; omega)) (ho 34 (by decide)) (ho 35 (by decide)) (fun j hx => hj j (by simp at hx; omega) (by simp at hx; omega)) (ho 62 (by decide)) (ho 80 (by decide)) rfl rfl, g3.c (fun j _ => by rw [ho 2 (by decide)]) (fun a a1 a2 => ho a (by simp; omega)) (hj 13 (by decide) (by decide)) (fun a a1 a2 => ho a (by simp; omega)) (fun _ _ => rfl), (g4.c (fun a ha => ho a (by simp at ha ⊢; omega)) (by rw [xOf_c (ho 13 (by decide)) (ho 14 (by decide)) (ho 15 (by decide))]; exact h13) (hj 53 (by decide) (by decide)) (hj 54 (by decide) (by decide)) (fun x hx => hx.c (fun a a1 a2 => ho a (by simp; omega))) (fun r hr => hr.c (ho 68 (by decide)) (ho 69 (by decide))) (fun uf ul hu => hu.c (hj 53 (by decide) (by decide)) (hj 54 (by decide) (by decide)) (fun a a1 a2 => ho a (by simp; omega)))).up (Nat.le_succ _), ?_, g6.c (fun a ha => ho a (by simp at ha ⊢; omega))⟩
    have hlen : ((List.range (t / 3)).map (fun k => (tb (3 * k), tb (3 * k + 1), nI (tb (3 * k + 2))))).length = t / 3 := by simp
    have hget : ∀ k b n l, ((List.range (t / 3)).map (fun k => (tb (3 * k), tb (3 * k + 1), nI (tb (3 * k + 2)))))[k]? = some (b, n, l) → k < t / 3 ∧ b = tb (3 * k) ∧ n = tb (3 * k + 1) ∧ l = nI (tb (3 * k + 2)) := fun k b n l hk => by
      have hkl := (List.getElem?_eq_some_iff.mp hk).1
      rw [hlen] at hkl
      rw [List.getElem?_map, List.getElem?_range hkl] at hk
      simp at hk
      exact ⟨hkl, hk.1.symm, hk.2.1.symm, hk.2.2.symm⟩
    refine ⟨(List.range (t / 3)).map (fun k => (tb (3 * k), tb (3 * k + 1), nI (tb (3 * k + 2)))), ⟨by rw [hlen, m1 23 (by decide)]; exact s5, by rw [hlen]; omega, fun k b n l hk => ?_⟩, ⟨by rw [hlen]; exact m4, by rw [hlen]; omega, fun k b n l hk => ?_⟩⟩
    · obtain ⟨k1, rfl, rfl, rfl⟩ := hget k b n l hk
      obtain ⟨r1, r2⟩ := hrow k k1
      have := hc.2.1
      rw [m1 24 (by decide)]
      exact ⟨by omega, r2, by rw [s6 _ (by omega)]; exact (c3 _ (by omega)).2.2, by rw [s6 _ (by omega)]; exact (c3 _ (by omega)).2.2, by rw [s6 _ (by omega)]; exact (c3 _ (by omega)).2.2⟩
    · obtain ⟨k1, rfl, rfl, rfl⟩ := hget k b n l hk
      obtain ⟨r1, r2⟩ := hrow k k1
      obtain ⟨v1, v2, v3⟩ := m5 k k1
      exact ⟨r1, r2, by rw [v1]; exact (c3 _ (by omega)).2.2, by rw [v2]; exact (c3 _ (by omega)).2.2, by rw [v3]; exact (c3 _ (by omega)).2.2⟩
end
