/-! questions that write into their own rows -/
def lcQ : List Nat := [13, 14, 15, 16, 17, 18, 23, 25, 26, 27, 28, 29, 30, 31, 32, 33]
theorem rs_lo {I I1 : aI} {bk nb ns nh : Nat} {p : aP} {f5 f6 : Nat → Int32} {x : aX} {rs : List aRow} (h : RS I bk nb ns nh p f5 f6 x rs) (hi : ∀ a, 36 ≤ a → I1 a = I a) : RS I1 bk nb ns nh p f5 f6 x rs := ⟨h.1.c (by rw [hi 36 (by decide)]) (fun a a1 _ => hi a (by omega)), h.2.1.c (fun a a1 _ => hi a (by omega)), h.2.2.1.c (hi 68 (by decide)) (hi 69 (by decide)), h.2.2.2⟩
theorem rel_qf {N K : Nat} {I I1 I2 : aI} {L L2 : aL} {p : aP} {nb ns nh bk : Nat} (g1 : G1 I) (g2 : G2 I L) (g3 : G3 N I L p nb ns nh bk) (g4 : G4 I nb ns K) (g5 : G5 I nb) (hS : Sm lcQ I I1) (h23 : I1 23 0 = I 23 0) (h13 : XOk (xOf I1 13)) (g6 : G6 I1 p nb ns) (hq : QF I1 I2) (hL : SmL [70] L L2) : Rel N (K + 1) I2 L2 := by
  have c1 : ∀ a, a ∉ lcQ → a ∉ [63, 64, 65, 66, 67, 68, 69, 71, 72, 73, 74, 75, 79] → I2 a = I a := fun a h1 h2 => (hq.1 a h2).trans (hS a h1)
  have c2 : ∀ a, a ∉ [63, 64, 65, 66, 67, 68, 69, 71, 72, 73, 74, 75, 79] → I2 a = I1 a := fun a h2 => hq.1 a h2
  have hnb := g3.2.1.2.1
  have hns := g3.2.1.2.2.2.1
  have hi : ∀ a, 36 ≤ a → I1 a = I a := fun a h => hS a (by unfold lcQ; simp; omega)
  have e36 : I2 36 = I 36 := c1 36 (by decide) (by decide)
  refine ⟨p, nb, ns, nh, bk, g1.c (by rw [c1 0 (by decide) (by decide)]) (c1 1 (by decide) (by decide)) (by rw [e36]) (c1 37 (by decide) (by decide)), g2.c (fun j _ => by rw [c1 0 (by decide) (by decide)]) (c1 34 (by decide) (by decide)) (c1 35 (by decide) (by decide)) (fun j _ => by rw [e36]) (c1 62 (by decide) (by decide)) (c1 80 (by decide) (by decide)) (by rw [hL 0 (by decide)]) (by rw [hL 36 (by decide)]), g3.c (fun j _ => by rw [c1 2 (by decide) (by decide)]) (fun a a1 a2 => c1 a (by unfold lcQ; simp; omega) (by simp; omega)) (by rw [e36]) (fun a a1 a2 => c1 a (by unfold lcQ; simp; omega) (by simp; omega)) (fun q hq => hL (53 + q) (by simp; omega)), (g4.c (I2 := I2) (fun a ha => c1 a (by unfold lcQ; simp at ha ⊢; omega) (by simp at ha ⊢; omega)) ?_ (by rw [e36]) (by rw [e36]) (fun x hx => ?_) (fun r hr => ?_) (fun uf ul hu => ?_)).up (Nat.le_succ _), g5.c (by rw [c2 23 (by decide)]; exact h23) (c1 24 (by decide) (by decide)) (by rw [e36]) (fun a a1 a2 => c1 a (by unfold lcQ; simp; omega) (by simp; omega)), g6.c (fun a ha => c2 a (by simp at ha ⊢; omega))⟩
  · rw [xOf_c (c2 13 (by decide)) (c2 14 (by decide)) (c2 15 (by decide))]; exact h13
  · exact (hx.c (I2 := I1) (fun a a1 _ => hi a (by omega))).fr hq.2 (by decide) hnb hns
  · exact (hr.c (I2 := I1) (hi 68 (by decide)) (hi 69 (by decide))).fr hq.2 (by decide)
  · exact (hu.c (I2 := I1) (by rw [hi 36 (by decide)]) (by rw [hi 36 (by decide)]) (fun a a1 _ => hi a (by omega))).fr hq.2 (by decide) (by rw [c2 36 (by decide)]) (by rw [c2 36 (by decide)]) hnb hns
theorem two_f {N K dx dm : Nat} {I : aI} {L : aL} {mx mm : aM} {av : List Value} {v : Int32} {p : aP} {nb ns nh bk : Nat} {ks : List aRow} (hd : dx ≤ 80) (hd2 : dm ≤ 80) (g1 : G1 I) (g2 : G2 I L) (g3 : G3 N I L p nb ns nh bk) (g4 : G4 I nb ns K) (g5 : G5 I nb) (hR : RS I bk nb ns nh p (I 5) (I 6) (xOf I 10) (l40 ks)) (hc : Run dx 0 0 mx (.ref 0 :: av) (St N I L) (RP (some (.int v)) N L (fun I1 => Sm lcQ I I1 ∧ I1 23 0 = I 23 0 ∧ XOk (xOf I1 13) ∧ G6 I1 p nb ns))) (hm : ∀ I1, RS I1 bk nb ns nh p (I 5) (I 6) (xOf I 10) (l40 ks) → (∀ a, 36 ≤ a → I1 a = I a) → Run dm 0 0 mm (.ref 36 :: av) (St N I1 L) (RX N (fun o I2 L2 => o = some (.int v) ∧ QF I1 I2 ∧ SmL [70] L L2))) : Two N K I L mx mm av := by
  refine ⟨v, (hc.imp ?_).up hd⟩
  rintro r S' ⟨I1, rfl, rfl, hS, h23, h13, g6⟩
  have hi : ∀ a, 36 ≤ a → I1 a = I a := fun a h => hS a (by unfold lcQ; simp; omega)
  refine ⟨rfl, I1, L, rfl, ((hm I1 (rs_lo hR hi) hi).imp ?_).up hd2⟩
  rintro r S' ⟨I2, L2, rfl, rfl, hq, hL⟩
  exact ⟨rfl, I2, L2, rfl, rel_qf g1 g2 g3 g4 g5 hS h23 h13 g6 hq hL⟩
theorem SmQ {I I1 : aI} {l : List Nat} (h : Sm l I I1) (hl : ∀ a ∈ l, a ∈ lcQ) : Sm lcQ I I1 := fun a ha => h a (fun q => ha (hl a q))
section
variable {N K : Nat} {I : aI} {L : aL}
theorem XG.ok {nb ns : Nat} {x : aX} (h : XG nb ns x) (hb : nb ≤ 5) (hs : ns ≤ 6) : XOk x := ⟨fun j hj => h.2.1 j (by omega), fun j hj => h.2.2.1 j (by omega)⟩
/-- a question of the class that writes into the Preacher alone -/
theorem smq3 {I1 : aI} {p : aP} {nb ns : Nat} (h : Sm [16, 17, 18] I I1) (h13 : XOk (xOf I 13)) (g6 : G6 I p nb ns) : Sm lcQ I I1 ∧ I1 23 0 = I 23 0 ∧ XOk (xOf I1 13) ∧ G6 I1 p nb ns := ⟨SmQ h (by decide), by rw [h 23 (by decide)], by rw [xOf_c (h 13 (by decide)) (h 14 (by decide)) (h 15 (by decide))]; exact h13, g6.c (fun a ha => h a (by simp at ha ⊢; omega))⟩
theorem smq6 {I1 : aI} {p : aP} {nb ns : Nat} (h : Sm [13, 14, 15, 16, 17, 18] I I1) (h13 : XOk (xOf I1 13)) (g6 : G6 I p nb ns) : Sm lcQ I I1 ∧ I1 23 0 = I 23 0 ∧ XOk (xOf I1 13) ∧ G6 I1 p nb ns := ⟨SmQ h (by decide), by rw [h 23 (by decide)], h13, g6.c (fun a ha => h a (by simp at ha ⊢; omega))⟩
theorem tw_strokes (h : Rel N K I L) {w v n : Int32} : Two N K I L mX9_strokes mX10_strokes [.int w, .int v, .int n] := by
  obtain ⟨p, nb, ns, nh, bk, g1, g2, g3, g4, g5, g6⟩ := h
  obtain ⟨ks, hR⟩ := Rel.rs g3 g4
  have h13 : XOk (xOf I 13) := by obtain ⟨_, _, _, _, _, _, _, _, _, q, _⟩ := g4; exact q
  exact two_f (by decide) (by decide) g1 g2 g3 g4 g5 hR ((t_strokes g3.1 g3.2.1).imp (fun r S' ⟨I1, e1, e2, hS⟩ => ⟨I1, e1, e2, smq3 hS h13 g6⟩)) (fun I1 h1 _ => tm_strokes h1)
theorem tw_needed (h : Rel N K I L) {w v n : Int32} : Two N K I L mX9_needed mX10_needed [.int w, .int v, .int n] := by
  obtain ⟨p, nb, ns, nh, bk, g1, g2, g3, g4, g5, g6⟩ := h
  obtain ⟨ks, hR⟩ := Rel.rs g3 g4
  have h13 : XOk (xOf I 13) := by obtain ⟨_, _, _, _, _, _, _, _, _, q, _⟩ := g4; exact q
  exact two_f (by decide) (by decide) g1 g2 g3 g4 g5 hR ((t_needed g3.1 g3.2.1).imp (fun r S' ⟨I1, e1, e2, hS⟩ => ⟨I1, e1, e2, smq3 hS h13 g6⟩)) (fun I1 h1 _ => tm_needed h1)
theorem tw_best (h : Rel N K I L) {w : Int32} : Two N K I L mX9_best mX10_best [.int w] := by
  obtain ⟨p, nb, ns, nh, bk, g1, g2, g3, g4, g5, g6⟩ := h
  obtain ⟨ks, hR⟩ := Rel.rs g3 g4
  have h13 : XOk (xOf I 13) := by obtain ⟨_, _, _, _, _, _, _, _, _, q, _⟩ := g4; exact q
  exact two_f (by decide) (by decide) g1 g2 g3 g4 g5 hR ((t_best g3.1 g3.2.1).imp (fun r S' ⟨I1, e1, e2, hS⟩ => ⟨I1, e1, e2, smq3 hS h13 g6⟩)) (fun I1 h1 _ => tm_best h1)
theorem tw_later (h : Rel N K I L) {w n : Int32} : Two N K I L mX9_later mX10_later [.int w, .int n] := by
  obtain ⟨p, nb, ns, nh, bk, g1, g2, g3, g4, g5, g6⟩ := h
  obtain ⟨ks, hR⟩ := Rel.rs g3 g4
  have h13 : XOk (xOf I 13) := by obtain ⟨_, _, _, _, _, _, _, _, _, q, _⟩ := g4; exact q
  exact two_f (by decide) (by decide) g1 g2 g3 g4 g5 hR ((t_later g3.1 g3.2.1 (hR.2.2.2.1.ok g3.2.1.2.1 g3.2.1.2.2.2.1) h13).imp (fun r S' ⟨I1, e1, e2, hS, h3⟩ => ⟨I1, e1, e2, smq6 hS h3 g6⟩)) (fun I1 h1 _ => tm_later h1)
theorem tw_worn (h : Rel N K I L) {w n : Int32} : Two N K I L mX9_worn mX10_worn [.int w, .int n] := by
  obtain ⟨p, nb, ns, nh, bk, g1, g2, g3, g4, g5, g6⟩ := h
  obtain ⟨ks, hR⟩ := Rel.rs g3 g4
  have h13 : XOk (xOf I 13) := by obtain ⟨_, _, _, _, _, _, _, _, _, q, _⟩ := g4; exact q
  exact two_f (by decide) (by decide) g1 g2 g3 g4 g5 hR ((t_worn g3.1 g3.2.1 (hR.2.2.2.1.ok g3.2.1.2.1 g3.2.1.2.2.2.1) h13).imp (fun r S' ⟨I1, e1, e2, hS, h3⟩ => ⟨I1, e1, e2, smq6 hS h3 g6⟩)) (fun I1 h1 _ => tm_worn h1)
theorem tw_saved (h : Rel N K I L) {n : Int32} : Two N K I L mX9_saved mX10_saved [.int n] := by
  obtain ⟨p, nb, ns, nh, bk, g1, g2, g3, g4, g5, g6⟩ := h
  obtain ⟨ks, hR⟩ := Rel.rs g3 g4
  have h13 : XOk (xOf I 13) := by obtain ⟨_, _, _, _, _, _, _, _, _, q, _⟩ := g4; exact q
  exact two_f (by decide) (by decide) g1 g2 g3 g4 g5 hR ((t_saved g3.1 g3.2.1 (hR.2.2.2.1.ok g3.2.1.2.1 g3.2.1.2.2.2.1) h13).imp (fun r S' ⟨I1, e1, e2, hS, h3⟩ => ⟨I1, e1, e2, smq6 hS h3 g6⟩)) (fun I1 h1 _ => tm_saved h1)
theorem tw_clean (h : Rel N K I L) : Two N K I L mX9_clean mX10_clean [] := by
  obtain ⟨p, nb, ns, nh, bk, g1, g2, g3, g4, g5, g6⟩ := h
  obtain ⟨ks, hR⟩ := Rel.rs g3 g4
  have h13 : XOk (xOf I 13) := by obtain ⟨_, _, _, _, _, _, _, _, _, q, _⟩ := g4; exact q
  exact two_f (dm := 7) (by decide) (by decide) g1 g2 g3 g4 g5 hR ((t_clean g3.1 g3.2.1 (hR.2.2.2.1.ok g3.2.1.2.1 g3.2.1.2.2.2.1) h13).imp (fun r S' ⟨I1, e1, e2, hS, h3⟩ => ⟨I1, e1, e2, smq6 hS h3 g6⟩)) (fun I1 h1 _ => by
    have e : (xOf I 10).1 = I 10 0 := rfl
    have q := tm_clean (N := N) (L := L) h1
    rw [e] at q
    exact q)
theorem SeeM.hi {I1 : aI} {nb : Nat} {rs : aSee} (h : SeeM I nb rs) (hi : ∀ a, 36 ≤ a → I1 a = I a) : SeeM I1 nb rs := by
  unfold SeeM at *; rw [hi 36 (by decide), hi 76 (by decide), hi 77 (by decide), hi 78 (by decide)]; exact h
theorem tw_which (h : Rel N K I L) : Two N K I L mX9_which mX10_which [] := by
  obtain ⟨p, nb, ns, nh, bk, g1, g2, g3, g4, g5, g6⟩ := h
  obtain ⟨ks, hR⟩ := Rel.rs g3 g4
  obtain ⟨rs, s1, s2⟩ := id g5
  have h13 : XOk (xOf I 13) := by obtain ⟨_, _, _, _, _, _, _, _, _, q, _⟩ := g4; exact q
  exact two_f (by decide) (by decide) g1 g2 g3 g4 g5 hR ((t_which g3.1 g3.2.1 s1).imp (fun r S' ⟨I1, e1, e2, hS⟩ => ⟨I1, e1, e2, smq3 hS h13 g6⟩)) (fun I1 h1 hi => tm_which h1 (s2.hi hi))
theorem tw_tells (h : Rel N K I L) {w v : Int32} : Two N K I L mX9_tells mX10_tells [.int w, .int v] := by
  obtain ⟨p, nb, ns, nh, bk, g1, g2, g3, g4, g5, g6⟩ := h
  obtain ⟨ks, hR⟩ := Rel.rs g3 g4
  obtain ⟨rs, s1, s2⟩ := id g5
  have h13 : XOk (xOf I 13) := by obtain ⟨_, _, _, _, _, _, _, _, _, q, _⟩ := g4; exact q
  exact two_f (by decide) (by decide) g1 g2 g3 g4 g5 hR ((t_tells g3.1 g3.2.1 s1).imp (fun r S' ⟨I1, e1, e2, hS, h23⟩ => ⟨I1, e1, e2, SmQ hS (by decide), h23, by rw [xOf_c (hS 13 (by decide)) (hS 14 (by decide)) (hS 15 (by decide))]; exact h13, g6.c (fun a ha => hS a (by simp at ha ⊢; omega))⟩)) (fun I1 h1 hi => tm_tells (t0 := I 23 2) h1 (s2.hi hi))
theorem tw_match (h : Rel N K I L) {w : Int32} : Two N K I L mX9_match mX10_match [.int w] := by
  have h0 := h
  obtain ⟨p, nb, ns, nh, bk, g1, g2, g3, g4, g5, g6⟩ := h
  obtain ⟨ks, hR⟩ := Rel.rs g3 g4
  have h13 : XOk (xOf I 13) := by obtain ⟨_, _, _, _, _, _, _, _, _, q, _⟩ := g4; exact q
  have hnb := g3.2.1.2.1
  have hns := g3.2.1.2.2.2.1
  by_cases hw : w = -1 ∨ inR w ns = true
  · have fin : ∀ g, AR (I 12) ns g (mtW p I nb ns) → Run 9 0 0 mX9_match [.ref 0, .int w] (St N I L) (RP (some (.int (mtV g w))) N L (fun I2 => Sm [16, 17, 18, 26, 27, 28, 29] I I2 ∧ I2 26 0 = 1 ∧ seOf I2 = g)) → Two N K I L mX9_match mX10_match [.int w] := by
      intro g hA hc
      refine two_f (ks := ks) (v := mtV g w) (dx := 9) (dm := 8) (by decide) (by decide) g1 g2 g3 g4 g5 hR (hc.imp ?_) (fun I1 h1 _ => (tm_match2 h1 hw).imp ?_)
      · rintro r S' ⟨I1, e1, e2, hS, h26, hse⟩
        refine ⟨I1, e1, e2, SmQ hS (by decide), by rw [hS 23 (by decide)], by rw [xOf_c (hS 13 (by decide)) (hS 14 (by decide)) (hS 15 (by decide))]; exact h13, Or.inr ⟨h26, ?_⟩, ?_⟩
        · have ex : xOf I1 10 = xOf I 10 := xOf_c (hS 10 (by decide)) (hS 11 (by decide)) (hS 12 (by decide))
          unfold mtW
          rw [hse, ex, hS 5 (by decide), hS 6 (by decide), hS 12 (by decide)]; exact hA
        · have g62 := g6.2
          unfold hdW heOf at *
          have ex : xOf I1 10 = xOf I 10 := xOf_c (hS 10 (by decide)) (hS 11 (by decide)) (hS 12 (by decide))
          rw [ex, hS 5 (by decide), hS 6 (by decide), hS 12 (by decide), hS 30 (by decide), hS 31 (by decide), hS 32 (by decide)]; exact g62
      · rintro r S' ⟨I2, L2, e, ⟨v', ev, hq⟩, hQ, hL⟩
        have : v' = mtV g w := mt_v (x := xOf I 10) hA hns hw hq
        exact ⟨I2, L2, e, by rw [ev, this], hQ, hL⟩
    rcases g6.1 with q | ⟨q, hA⟩
    · exact fin _ (mt_ar hR.2.2.2.1 hnb hns) (t_matchs g3.1 g3.2.1 hw q)
    · exact fin _ hA (t_matchk g3.1 g3.2.1 hw q)
  · have h1 : ¬ w = -1 := fun z => hw (Or.inl z)
    have h2 : inR w ns = false := Bool.eq_false_iff.mpr (fun z => hw (Or.inr z))
    exact two_q h0 (by decide) (by decide) (t_match0 g3.1 g3.2.1 h1 h2) (tm_match0 hR h1 h2)
theorem tw_heads (h : Rel N K I L) {w v : Int32} : Two N K I L mX9_heads mX10_heads [.int w, .int v] := by
  have h0 := h
  obtain ⟨p, nb, ns, nh, bk, g1, g2, g3, g4, g5, g6⟩ := h
  obtain ⟨ks, hR⟩ := Rel.rs g3 g4
  have h13 : XOk (xOf I 13) := by obtain ⟨_, _, _, _, _, _, _, _, _, q, _⟩ := g4; exact q
  have hnb := g3.2.1.2.1
  have hns := g3.2.1.2.2.2.1
  by_cases hw : inR w nb = true ∧ 0 ≤ v
  · obtain ⟨b, hb, rfl⟩ := inR_of hw.1 (by omega)
    have hv := hw.2
    have fin : ∀ g, HR g (hdW p I b ns) → Run 13 0 0 mX9_heads [.ref 0, .int (nI b), .int v] (St N I L) (RP (some (.int (hdV g v))) N L (fun I2 => Sm [16, 17, 18, 30, 31, 32, 33] I I2 ∧ I2 30 0 = nI b ∧ heOf I2 = g)) → Two N K I L mX9_heads mX10_heads [.int (nI b), .int v] := by
      intro g hH hc
      refine two_f (ks := ks) (v := hdV g v) (dx := 13) (dm := 7) (by decide) (by decide) g1 g2 g3 g4 g5 hR (hc.imp ?_) (fun I1 h1 _ => ?_)
      · rintro r S' ⟨I1, e1, e2, hS, h30, hhe⟩
        refine ⟨I1, e1, e2, SmQ hS (by decide), by rw [hS 23 (by decide)], by rw [xOf_c (hS 13 (by decide)) (hS 14 (by decide)) (hS 15 (by decide))]; exact h13, ?_, Or.inr ⟨b, hb, h30, ?_⟩⟩
        · have g61 := g6.1
          unfold mtW seOf at *
          have ex : xOf I1 10 = xOf I 10 := xOf_c (hS 10 (by decide)) (hS 11 (by decide)) (hS 12 (by decide))
          rw [ex, hS 5 (by decide), hS 6 (by decide), hS 12 (by decide), hS 26 (by decide), hS 27 (by decide), hS 28 (by decide)]; exact g61
        · have ex : xOf I1 10 = xOf I 10 := xOf_c (hS 10 (by decide)) (hS 11 (by decide)) (hS 12 (by decide))
          unfold hdW
          rw [hhe, ex, hS 5 (by decide), hS 6 (by decide), hS 12 (by decide)]; exact hH
      · rw [hd_v hH hv]; exact tm_heads1 h1 hb hv
    by_cases hk : I 30 0 = nI b
    · have hH : HR (heOf I) (hdW p I b ns) := by
        rcases g6.2 with q | ⟨b', hb', q, hH⟩
        · rw [hk] at q
          have := congrArg Int32.toInt q
          rw [nI_toInt (by omega)] at this
          have e : (-1 : Int32).toInt = -1 := rfl
          omega
        · have : b' = b := (nI_iff (by omega) (by omega)).mp (q.symm.trans hk)
          subst this; exact hH
      exact fin _ hH (t_headsk g3.1 g3.2.1 hb hv hk ⟨_, hH.1, hH.2.2.1⟩)
    · have hH : HR (hdG p (I 5) (I 6) (xOf I 10) b (heOf I)) (hdW p I b ns) := hd_eq hR.2.2.2.1 hns
      exact fin _ hH (t_headss g3.1 g3.2.1 hb hv hk ⟨_, hH.1, hH.2.2.1⟩)
  · exact two_q h0 (by decide) (by decide) (t_heads0 g3.1 g3.2.1 hw) (tm_heads0 hR hw)
end
