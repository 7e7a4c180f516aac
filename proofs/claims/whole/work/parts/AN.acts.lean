/-! the acts -/
theorem rub_le (p : aP) (nm : Nat → Int32) : ∀ n t, le99 t.1 → le99 t.2.1 → (rubF p nm n t).2.1.toInt ≤ t.2.1.toInt
  | 0, t, _, _ => Int.le_refl _
  | n + 1, t, h1, h2 => by
    simp only [rubF]
    split
    · exact Int.le_refl _
    · have q1 := rub_le p nm n (strk p nm t) (pos0_99 h1) (out_99 h2)
      have q2 := outV_rng (evV p (nmS nm t.1 t.2.1 (t.2.2.1 + 1)) 0 1) h2
      have h9 := sN99 h2
      have q3 : (strk p nm t).2.1.toInt = t.2.1.toInt - (outV t.2.1 (evV p (nmS nm t.1 t.2.1 (t.2.2.1 + 1)) 0 1)).toInt := sub_toInt (by omega) (by omega)
      omega
theorem rub_c99 {p : aP} {f5 f6 : Nat → Int32} {nb ns : Nat} {x : aX} (h : XG nb ns x) (b s n : Nat) : le99 (rubX p f5 f6 x b s n).2.2.2 := by
  unfold rubX
  rw [← rub_came]
  have a1 := h.1.1 b
  have a2 := h.1.2 s
  have q1 := rub_le p (nmL (f5 b) (f6 (6 + s)) x.2.1 x.1) n (x.2.2.2.1 b, x.2.2.2.2 s, 0, 0) a1 a2
  have q2 := (rub_99 p (nmL (f5 b) (f6 (6 + s)) x.2.1 x.1) n (x.2.2.2.1 b, x.2.2.2.2 s, 0, 0) a1 a2).2
  have b1 := sN99 a2
  have b2 := sN99 q2
  have q1 : (rubF p (nmL (f5 b) (f6 (6 + s)) x.2.1 x.1) n (x.2.2.2.1 b, x.2.2.2.2 s, 0, 0)).2.1.toInt ≤ (x.2.2.2.2 s).toInt := q1
  have e : (x.2.2.2.2 s - (rubF p (nmL (f5 b) (f6 (6 + s)) x.2.1 x.1) n (x.2.2.2.1 b, x.2.2.2.2 s, 0, 0)).2.1).toInt = (x.2.2.2.2 s).toInt - (rubF p (nmL (f5 b) (f6 (6 + s)) x.2.1 x.1) n (x.2.2.2.1 b, x.2.2.2.2 s, 0, 0)).2.1.toInt := sub_toInt (by omega) (by omega)
  exact le99_of (by omega) (by omega)
theorem RwI.add {ks : List aRow} {w b s : Nat} {c : Int32} (h : RwI ks) (hw : w ≤ 999) (hb : b < 5) (hs : s < 6) (hc : le99 c) : RwI (ks ++ [(nI w, nI b, nI s, c)]) := by
  intro r hr
  rcases List.mem_append.mp hr with q | q
  · exact h r q
  · obtain ⟨n, hn, rfl⟩ := hc
    rw [List.mem_singleton] at q
    exact ⟨w, b, s, n, hw, hb, hs, hn, q⟩
theorem keepK_pre (ks : List aRow) (w c : Int32) (se : Option (Nat × Nat)) : ks <+: keepK ks w c se := by
  cases se with
  | none => exact List.prefix_refl _
  | some q => exact List.prefix_append _ _
theorem wkS_g {p : aP} {f5 f6 : Nat → Int32} {nb ns nh w : Nat} {dr : Bool} {z : aZ} (hb : nb ≤ 5) (hs : ns ≤ 6) (hh : nh ≤ 6) (h : XG nb ns z.1) (hw : w < 999) (hx : z.1.1 = nI w) (hr : RwI z.2.1) : XG nb ns (wkS p f5 f6 nb ns nh dr z).1 ∧ (wkS p f5 f6 nb ns nh dr z).1.1 = nI (w + 1) ∧ z.2.1 <+: (wkS p f5 f6 nb ns nh dr z).2.1 ∧ RwI (wkS p f5 f6 nb ns nh dr z).2.1 := by
  obtain ⟨a1, a2⟩ := h.week (p := p) (f5 := f5) (f6 := f6) (dr := dr) hh hw hx
  refine ⟨a1, a2, keepK_pre _ _ _ _, ?_⟩
  show RwI (keepK _ _ _ _)
  cases hse : serX p f5 f6 nb ns dr z.1 with
  | none => exact hr
  | some q =>
    obtain ⟨b, s⟩ := q
    obtain ⟨h1, h2⟩ := serX_lt hse
    show RwI (_ ++ [(z.1.1, _, _, _)])
    rw [hx]
    exact hr.add (by omega) (by omega) (by omega) (rub_c99 h _ _ _)
theorem wkN_g {p : aP} {f5 f6 : Nat → Int32} {nb ns nh w : Nat} {z : aZ} (hb : nb ≤ 5) (hs : ns ≤ 6) (hh : nh ≤ 6) (h : XG nb ns z.1) (hx : z.1.1 = nI w) (hr : RwI z.2.1) : ∀ n, w + n ≤ 999 → XG nb ns (wkN p f5 f6 nb ns nh n z).1 ∧ (wkN p f5 f6 nb ns nh n z).1.1 = nI (w + n) ∧ z.2.1 <+: (wkN p f5 f6 nb ns nh n z).2.1 ∧ RwI (wkN p f5 f6 nb ns nh n z).2.1
  | 0, _ => ⟨h, hx, List.prefix_refl _, hr⟩
  | n + 1, hn => by
    obtain ⟨a1, a2, a3, a4⟩ := wkN_g hb hs hh h hx hr n (by omega)
    obtain ⟨b1, b2, b3, b4⟩ := wkS_g (p := p) (f5 := f5) (f6 := f6) (dr := false) hb hs hh a1 (by omega) a2 a4
    exact ⟨b1, b2, a3.trans b3, b4⟩
theorem chN_g {p : aP} {f5 f6 : Nat → Int32} {nb ns nh w : Nat} {dry : Int32} {z : aZ × Int32 × Int64} (hb : nb ≤ 5) (hs : ns ≤ 6) (hh : nh ≤ 6) (h : XG nb ns z.1.1) (hx : z.1.1.1 = nI w) (hr : RwI z.1.2.1) : ∀ n, w + n ≤ 999 → XG nb ns (chN p f5 f6 nb ns nh dry n z).1.1 ∧ (chN p f5 f6 nb ns nh dry n z).1.1.1 = nI (w + n) ∧ z.1.2.1 <+: (chN p f5 f6 nb ns nh dry n z).1.2.1 ∧ RwI (chN p f5 f6 nb ns nh dry n z).1.2.1
  | 0, _ => ⟨h, hx, List.prefix_refl _, hr⟩
  | n + 1, hn => by
    obtain ⟨a1, a2, a3, a4⟩ := chN_g hb hs hh h hx hr n (by omega)
    obtain ⟨b1, b2, b3, b4⟩ := wkS_g (p := p) (f5 := f5) (f6 := f6) (dr := decide (¬ dry ≤ drV (chN p f5 f6 nb ns nh dry n z).2.2)) hb hs hh a1 (by omega) a2 a4
    exact ⟨b1, b2, a3.trans b3, b4⟩
def lcA : List Nat := [10, 11, 12, 16, 17, 18, 19, 20, 22, 26, 30]
def lcB : List Nat := [36, 63, 64, 65, 66, 67, 68, 69, 71]
theorem rel_act {N K : Nat} {I I1 I2 : aI} {L L2 : aL} {p : aP} {nb ns nh bk : Nat} {ks ks' : List aRow} {x' : aX} {lo lo' nx' uf2 : Nat} {us : List (Nat → Int32)} {ws : List (aX × Nat)} (g1 : G1 I) (g2 : G2 I L) (g3 : G3 N I L p nb ns nh bk) (g5 : G5 I nb) (h13 : XOk (xOf I 13)) (hk : KeptR I lo ks) (hx : XG nb ns (xOf I 10)) (hw : WsR us ws) (hcw : WsC ks.length lo ws) (hg : ∀ w ∈ ws, XG nb ns w.1) (hl : ks.length ≤ 40 * K) (hW : ∀ m', ks.length ≤ m' → m' ≤ ks.length + 40 → WsC m' lo' (((xOf I 10, ks.length) :: ws).take 20)) (hpre : ks <+: ks') (hlen : ks'.length ≤ ks.length + 40) (hrw : RwI ks') (s1 : Sm lcA I I1) (s2 : xOf I1 10 = x') (s3 : KeptR I1 lo' ks') (s4 : ActsR I1 nx' ((snap I 10 :: us).take 20)) (s5 : I1 26 = upd (I 26) 0 0) (s6 : I1 30 = upd (I 30) 0 (-1)) (m1 : Sm lcB I1 I2) (m2 : ∀ j, j ≠ 53 → j ≠ 54 → I2 36 j = I1 36 j) (m3 : RS I2 bk nb ns nh p (I 5) (I 6) x' (l40 ks')) (m4 : UR I2 nb ns uf2 (((xOf I 10, l40 ks) :: ulOf ks ws).take 20)) (hL : ∀ q, q < 3 → L2 (53 + q) = L (53 + q)) (hL2 : ∃ m, m < 2 ^ 31 ∧ L2 0 13 = lN m ∧ L2 36 55 = lN m) : Rel N (K + 1) I2 L2 := by
  have ho : ∀ a, a ∉ lcA → a ∉ lcB → I2 a = I a := fun a a1 a2 => by rw [m1 a a2, s1 a a1]
  have h36 : ∀ j, j ≠ 53 → j ≠ 54 → I2 36 j = I 36 j := fun j a1 a2 => by rw [m2 j a1 a2, s1 36 (by decide)]
  have ex : xOf I2 10 = x' := by rw [xOf_c (m1 10 (by decide)) (m1 11 (by decide)) (m1 12 (by decide))]; exact s2
  have hws : ∀ w ∈ ((xOf I 10, ks.length) :: ws).take 20, w.2 ≤ ks.length ∧ XG nb ns w.1 := fun w q => by
    rcases List.mem_cons.mp (List.mem_of_mem_take q) with e | e
    · rw [e]; exact ⟨Nat.le_refl _, hx⟩
    · exact ⟨WsC.mem ws _ _ hcw w e, hg w e⟩
  have hpl : ks.length ≤ ks'.length := hpre.length_le
  refine ⟨p, nb, ns, nh, bk, g1.c (by rw [ho 0 (by decide) (by decide)]) (ho 1 (by decide) (by decide)) (h36 1 (by decide) (by decide)) (ho 37 (by decide) (by decide)), ?_, g3.c (fun j _ => by rw [ho 2 (by decide) (by decide)]) (fun a a1 a2 => ho a (by unfold lcA; simp; omega) (by unfold lcB; simp; omega)) (h36 13 (by decide) (by decide)) (fun a a1 a2 => ho a (by unfold lcA; simp; omega) (by unfold lcB; simp; omega)) hL, ?_, g5.c (by rw [ho 23 (by decide) (by decide)]) (ho 24 (by decide) (by decide)) (h36 62 (by decide) (by decide)) (fun a a1 a2 => ho a (by unfold lcA; simp; omega) (by unfold lcB; simp; omega)), G6.no (by rw [m1 26 (by decide), s5, upd_s]) (by rw [m1 30 (by decide), s6, upd_s])⟩
  · obtain ⟨a1, a2, a3, _, n, b1, b2, b3, b4⟩ := g2
    refine ⟨by rw [ho 0 (by decide) (by decide), h36 10 (by decide) (by decide)]; exact a1, by rw [ho 0 (by decide) (by decide), h36 11 (by decide) (by decide)]; exact a2, by rw [ho 35 (by decide) (by decide), ho 62 (by decide) (by decide)]; exact a3, hL2, n, b1, by rw [ho 0 (by decide) (by decide)]; exact b2, by rw [h36 68 (by decide) (by decide)]; exact b3, by rw [ho 34 (by decide) (by decide), ho 80 (by decide) (by decide)]; exact b4⟩
  · refine ⟨ks', lo', nx', (snap I 10 :: us).take 20, uf2, ((xOf I 10, ks.length) :: ws).take 20, by rw [ex]; exact m3.2.1, m3.2.2.1, by rw [ex]; exact m3.2.2.2.1, by rw [xOf_c (ho 13 (by decide) (by decide)) (ho 14 (by decide) (by decide)) (ho 15 (by decide) (by decide))]; exact h13, s3.c (by rw [m1 10 (by decide)]) (m1 22 (by decide)), s4.c (m1 19 (by decide)) (m1 20 (by decide)), ?_, hw.act ⟨rfl, rfl, rfl, ?_, fun j hj => ?_, fun j hj => ?_⟩, hW _ hpl hlen, fun w q => (hws w q).2, by omega, hrw⟩
    · rw [ulOf_ext (fun w q => (hws w q).1) hpre, ← ulOf_act]; exact m4
    · show I 10 3 = _
      exact hk.1
    · show snap I 10 (4 + j) = I 11 j
      unfold snap; rw [if_neg (by omega), if_pos (by omega), show 4 + j - 4 = j by omega]
    · show snap I 10 (9 + j) = I 12 j
      unfold snap; rw [if_neg (by omega), if_neg (by omega), show 9 + j - 9 = j by omega]
theorem wkN_pre (p : aP) (f5 f6 : Nat → Int32) (nb ns nh : Nat) : ∀ n z, z.2.1 <+: (wkN p f5 f6 nb ns nh n z).2.1
  | 0, _ => List.prefix_refl _
  | n + 1, z => (wkN_pre p f5 f6 nb ns nh n z).trans (keepK_pre _ _ _ _)
/-- an act, told by both -/
theorem two_a {N K dx dm : Nat} {I : aI} {L : aL} {mx mm : aM} {av : List Value} {v : List aRow → Int32} {p : aP} {nb ns nh bk : Nat} (g1 : G1 I) (g2 : G2 I L) (g3 : G3 N I L p nb ns nh bk) (g4 : G4 I nb ns K) (g5 : G5 I nb) (hd : dx ≤ 80) (hd2 : dm ≤ 80) {x' : List aRow → aX} {f : List aRow → List aRow} (hpre : ∀ ks, ks <+: f ks) (hlen : ∀ ks, (f ks).length ≤ ks.length + 40) (hrw : ∀ ks, RwI ks → RwI (f ks))
    (hc : ∀ ks lo nx us, KeptR I lo ks → ks.length + 40 ≤ lo + 840 → ks.length ≤ 40 * K → ActsR I nx us → Run dx 0 0 mx (.ref 0 :: av) (St N I L) (RP (some (.int (v ks))) N L (fun I1 => Sm lcA I I1 ∧ xOf I1 10 = x' ks ∧ KeptR I1 lo (f ks) ∧ ActsR I1 ((nx + 1) % 20) ((snap I 10 :: us).take 20) ∧ I1 26 = upd (I 26) 0 0 ∧ I1 30 = upd (I 30) 0 (-1))))
    (hm : ∀ I1 ks uf ul, RS I1 bk nb ns nh p (I 5) (I 6) (xOf I 10) (l40 ks) → UR I1 nb ns uf ul → Run dm 0 0 mm (.ref 36 :: av) (St N I1 L) (RX N (fun o I2 L2 => o = some (.int (v ks)) ∧ Sm lcB I1 I2 ∧ SmL [70] L L2 ∧ (∀ j, j ≠ 53 → j ≠ 54 → I2 36 j = I1 36 j) ∧ RS I2 bk nb ns nh p (I 5) (I 6) (x' ks) (l40 (f ks)) ∧ ∃ uf2, UR I2 nb ns uf2 (((xOf I 10, l40 ks) :: ul).take 20)))) : Two N K I L mx mm av := by
  obtain ⟨ks, lo, nx, us, uf, ws, a1, a2, a3, a4, a5, a6, a7, a8, a9, b1, b2, b3⟩ := g4
  have hR : RS I bk nb ns nh p (I 5) (I 6) (xOf I 10) (l40 ks) := ⟨g3.2.2.1, a1, a2, a3, g3.2.1.2.2.2.2.2.2⟩
  obtain ⟨lo', c1, c2, c3⟩ := a9.act (xOf I 10)
  refine ⟨v ks, ((hc ks lo' nx us (a5.up c1 (by omega)) c2 b2 a6).imp ?_).up hd⟩
  rintro r S' ⟨I1, rfl, rfl, s1, s2, s3, s4, s5, s6⟩
  have hi : ∀ a, 36 ≤ a → I1 a = I a := fun a h => s1 a (by unfold lcA; simp; omega)
  refine ⟨rfl, I1, L, rfl, ((hm I1 ks uf (ulOf ks ws) (rs_lo hR hi) (a7.c (by rw [hi 36 (by decide)]) (by rw [hi 36 (by decide)]) (fun a h1 _ => hi a (by omega)))).imp ?_).up hd2⟩
  rintro r S' ⟨I2, L2, rfl, rfl, m1, m2, m3, m4, uf2, m5⟩
  exact ⟨rfl, I2, L2, rfl, rel_act g1 g2 g3 g5 a4 a5 a3 a8 a9 b1 b2 c3 (hpre ks) (hlen ks) (hrw ks b3) s1 s2 s3 s4 s5 s6 m1 m3 m4 m5 (fun q hq => m2 _ (by simp; omega)) (by obtain ⟨_, _, _, ⟨m, e1, e2, e3⟩, _⟩ := g2; exact ⟨m, e1, by rw [m2 0 (by decide)]; exact e2, by rw [m2 36 (by decide)]; exact e3⟩)⟩
section
variable {N K : Nat} {I : aI} {L : aL}
theorem cp_n {n : Int32} {w : Nat} (hw : w ≤ 999) (h : ¬ n < 1 ∧ cpB n (nI w) = true) : ∃ k, 1 ≤ k ∧ k ≤ 40 ∧ n = nI k ∧ w + k ≤ 999 := by
  obtain ⟨k, k1, rfl⟩ := cpB_of h.2
  refine ⟨k, ?_, k1, rfl, cpB_n k1 hw h.2⟩
  have := h.1
  rw [show (1 : Int32) = nI 1 from rfl, nI_ltI (by omega) (by omega)] at this
  omega
theorem tw_weeks (hK : K ≤ 1000000) (h : Rel N K I L) {n : Int32} : Two N K I L mX9_weeks mX10_weeks [.int n] := by
  have h0 := h
  obtain ⟨p, nb, ns, nh, bk, g1, g2, g3, g4, g5, g6⟩ := h
  have g4' := g4
  obtain ⟨ks, lo, nx, us, uf, ws, a1, a2, a3, a4, a5, a6, a7, a8, a9, b1, b2, b3⟩ := g4'
  have hR : RS I bk nb ns nh p (I 5) (I 6) (xOf I 10) (l40 ks) := ⟨g3.2.2.1, a1, a2, a3, g3.2.1.2.2.2.2.2.2⟩
  obtain ⟨_, hnb, _, hns, _, hnh, _⟩ := g3.2.1
  by_cases hb : ¬ n < 1 ∧ cpB n (I 10 0) = true
  · obtain ⟨w, hw, ew⟩ := a3.2.2.2.1
    have ew : I 10 0 = nI w := ew
    obtain ⟨k, k1, k2, rfl, k3⟩ := cp_n hw (by rw [← ew]; exact hb)
    have hg : ∀ ks, RwI ks → _ := fun ks hr => wkN_g (p := p) (f5 := I 5) (f6 := I 6) (z := (xOf I 10, ks, (0 : Int32))) hnb hns hnh a3 ew hr k k3
    refine two_a g1 g2 g3 g4 g5 (dx := 7) (dm := 7) (by decide) (by decide) (v := fun ks => (wkN p (I 5) (I 6) nb ns nh k (xOf I 10, ks, (0 : Int32))).2.2) (x' := fun ks => (wkN p (I 5) (I 6) nb ns nh k (xOf I 10, ks, (0 : Int32))).1) (f := fun ks => (wkN p (I 5) (I 6) nb ns nh k (xOf I 10, ks, (0 : Int32))).2.1) (fun ks => ?_) (fun ks => ?_) (fun ks hr => (hg ks hr).2.2.2) (fun ks lo nx us c1 c2 c3 c4 => t_weeks1 g3.1 g3.2.1 c4 c1 c2 (by omega) k1 k2 hb.2) (fun I1 ks uf ul c1 c2 => tm_weeks1 c1 c2 k1 k2 hb.2)
    · exact wkN_pre p (I 5) (I 6) nb ns nh k (xOf I 10, ks, (0 : Int32))
    · have := wkN_len p (I 5) (I 6) nb ns nh k (xOf I 10, ks, (0 : Int32)); simp only at this ⊢; omega
  · exact two_r h0 (k := 2) (by decide) (by decide) (by decide) (t_weeks0 hb) (tm_weeks0 (rs_lo hR (fun a ha => rfI_hi a (by omega))) hb)
theorem tw_sermon (hK : K ≤ 1000000) (h : Rel N K I L) {w v n : Int32} : Two N K I L mX9_sermon mX10_sermon [.int w, .int v, .int n] := by
  have h0 := h
  obtain ⟨p, nb, ns, nh, bk, g1, g2, g3, g4, g5, g6⟩ := h
  have g4' := g4
  obtain ⟨ks, lo, nx, us, uf, ws, a1, a2, a3, a4, a5, a6, a7, a8, a9, b1, b2, b3⟩ := g4'
  have hR : RS I bk nb ns nh p (I 5) (I 6) (xOf I 10) (l40 ks) := ⟨g3.2.2.1, a1, a2, a3, g3.2.1.2.2.2.2.2.2⟩
  obtain ⟨_, hnb, _, hns, _, hnh, _⟩ := g3.2.1
  by_cases hb : okSer I nb ns w v n
  · obtain ⟨c1, c2, c3, c4⟩ := hb
    rw [Bool.and_eq_true] at c1
    obtain ⟨b, hb, rfl⟩ := inR_of c1.1 (by omega)
    obtain ⟨s, hs, rfl⟩ := inR_of c1.2 (by omega)
    rw [nI_clamp (by omega)] at c4
    obtain ⟨k, k1, k2, rfl⟩ : ∃ k, 1 ≤ k ∧ k ≤ 40 ∧ n = nI k := by
      rcases pk_ix n (n := 41) (by decide) with q | q | q
      · exact absurd (Int32.lt_trans q (by decide)) c2
      · exact absurd (Int32.lt_of_lt_of_le (show (40 : Int32) < nI 41 by decide) q) c3
      · obtain ⟨k, k1, rfl⟩ := q
        refine ⟨k, ?_, by omega, rfl⟩
        rw [show (1 : Int32) = nI 1 from rfl, nI_ltI (by omega) (by omega)] at c2
        omega
    obtain ⟨wk, hw, ew⟩ := a3.2.2.2.1
    have ew : I 10 0 = nI wk := ew
    refine two_a g1 g2 g3 g4 g5 (dx := 6) (dm := 6) (by decide) (by decide) (v := fun ks => (rubX p (I 5) (I 6) (xOf I 10) b s k).2.2.2) (x' := fun ks => preachX p (I 5) (I 6) nh (xOf I 10) b s k) (f := fun ks => ks ++ [(I 10 0, nI b, nI s, (rubX p (I 5) (I 6) (xOf I 10) b s k).2.2.2)]) (fun ks => List.prefix_append _ _) (fun ks => by simp) (fun ks hr => ?_) (fun ks lo nx us d1 d2 d3 d4 => t_sermon1 g3.2.1 d4 g3.1 d1 (by omega) (by omega) hb hs k1 k2 c4) (fun I1 ks uf ul d1 d2 => tm_sermon1 d1 d2 hb hs k1 k2 c4)
    simp only [ew]
    exact hr.add hw (by omega) (by omega) (rub_c99 a3 _ _ _)
  · exact two_r h0 (k := 3) (by decide) (by decide) (by decide) (t_sermon0 g3.2.1 hb) (tm_sermon0 (rs_lo hR (fun a ha => rfI_hi a (by omega))) hb)
theorem tw_soil (h : Rel N K I L) {w v : Int32} : Two N K I L mX9_soil mX10_soil [.int w, .int v] := by
  have h0 := h
  obtain ⟨p, nb, ns, nh, bk, g1, g2, g3, g4, g5, g6⟩ := h
  have g4' := g4
  obtain ⟨ks, lo, nx, us, uf, ws, a1, a2, a3, a4, a5, a6, a7, a8, a9, b1, b2, b3⟩ := g4'
  have hR : RS I bk nb ns nh p (I 5) (I 6) (xOf I 10) (l40 ks) := ⟨g3.2.2.1, a1, a2, a3, g3.2.1.2.2.2.2.2.2⟩
  obtain ⟨_, hnb, _, hns, _, hnh, _⟩ := g3.2.1
  by_cases hb : okSoil I ns w v
  · obtain ⟨c1, c2, c3, c4⟩ := hb
    obtain ⟨s, hs, rfl⟩ := inR_of c1 (by omega)
    rw [nI_clamp (by omega)] at c4
    refine two_a g1 g2 g3 g4 g5 (dx := 3) (dm := 3) (by decide) (by decide) (v := fun _ => if I 12 s + v < 99 then I 12 s + v else 99) (x' := fun _ => (I 10 0, I 10 1, I 10 2, I 11, upd (I 12) s (if I 12 s + v < 99 then I 12 s + v else 99))) (f := fun ks => ks) (fun ks => List.prefix_refl _) (fun ks => by omega) (fun ks hr => hr) (fun ks lo nx us d1 d2 d3 d4 => (t_soil1 g3.2.1 d4 hs c2 c3 c4).imp ?_) (fun I1 ks uf ul d1 d2 => tm_soil1 d1 d2 hs c2 c3 c4)
    rintro r S' ⟨I1, rfl, rfl, e1, e2, e3, e4, e5⟩
    exact ⟨I1, rfl, rfl, fun a ha => e1 a (by unfold lcA at ha; simp at ha ⊢; omega), by unfold xOf; rw [e1 10 (by decide), e1 11 (by decide), e2], d1.c (by rw [e1 10 (by decide)]) (e1 22 (by decide)), e3, e4, e5⟩
  · exact two_r h0 (k := 3) (by decide) (by decide) (by decide) (t_soil0 g3.2.1 hb) (tm_soil0 (rs_lo hR (fun a ha => rfI_hi a (by omega))) hb)
theorem tw_mend (h : Rel N K I L) {w : Int32} : Two N K I L mX9_mend mX10_mend [.int w] := by
  have h0 := h
  obtain ⟨p, nb, ns, nh, bk, g1, g2, g3, g4, g5, g6⟩ := h
  have g4' := g4
  obtain ⟨ks, lo, nx, us, uf, ws, a1, a2, a3, a4, a5, a6, a7, a8, a9, b1, b2, b3⟩ := g4'
  have hR : RS I bk nb ns nh p (I 5) (I 6) (xOf I 10) (l40 ks) := ⟨g3.2.2.1, a1, a2, a3, g3.2.1.2.2.2.2.2.2⟩
  obtain ⟨_, hnb, _, hns, _, hnh, _⟩ := g3.2.1
  by_cases hb : okMend I nb w
  · obtain ⟨c1, c4⟩ := hb
    obtain ⟨s, hs, rfl⟩ := inR_of c1 (by omega)
    rw [nI_clamp (by omega)] at c4
    refine two_a g1 g2 g3 g4 g5 (dx := 3) (dm := 3) (by decide) (by decide) (v := fun _ => 1) (x' := fun _ => (I 10 0, I 10 1, I 10 2, upd (I 11) s (I 6 s), I 12)) (f := fun ks => ks) (fun ks => List.prefix_refl _) (fun ks => by omega) (fun ks hr => hr) (fun ks lo nx us d1 d2 d3 d4 => (t_mend1 g3.2.1 d4 hs c4).imp ?_) (fun I1 ks uf ul d1 d2 => tm_mend1 d1 d2 hs (g3.2.2.2.2.2.1 s hs) c4)
    rintro r S' ⟨I1, rfl, rfl, e1, e2, e3, e4, e5⟩
    exact ⟨I1, rfl, rfl, fun a ha => e1 a (by unfold lcA at ha; simp at ha ⊢; omega), by unfold xOf; rw [e1 10 (by decide), e1 12 (by decide), e2], d1.c (by rw [e1 10 (by decide)]) (e1 22 (by decide)), e3, e4, e5⟩
  · exact two_r h0 (k := 3) (by decide) (by decide) (by decide) (t_mend0 g3.2.1 hb) (tm_mend0 (rs_lo hR (fun a ha => rfI_hi a (by omega))) hb)
theorem tw_pour (h : Rel N K I L) {w : Int32} : Two N K I L mX9_pour mX10_pour [.int w] := by
  have h0 := h
  obtain ⟨p, nb, ns, nh, bk, g1, g2, g3, g4, g5, g6⟩ := h
  have g4' := g4
  obtain ⟨ks, lo, nx, us, uf, ws, a1, a2, a3, a4, a5, a6, a7, a8, a9, b1, b2, b3⟩ := g4'
  have hR : RS I bk nb ns nh p (I 5) (I 6) (xOf I 10) (l40 ks) := ⟨g3.2.2.1, a1, a2, a3, g3.2.1.2.2.2.2.2.2⟩
  by_cases hb : okPour I w
  · refine two_a g1 g2 g3 g4 g5 (dx := 3) (dm := 3) (by decide) (by decide) (v := fun _ => 1) (x' := fun _ => (I 10 0, w, I 10 2, I 11, I 12)) (f := fun ks => ks) (fun ks => List.prefix_refl _) (fun ks => by omega) (fun ks hr => hr) (fun ks lo nx us d1 d2 d3 d4 => (t_pour1 d4 hb).imp ?_) (fun I1 ks uf ul d1 d2 => tm_pour1 d1 d2 hb)
    rintro r S' ⟨I1, rfl, rfl, e1, e2, e3, e4, e5⟩
    refine ⟨I1, rfl, rfl, fun a ha => e1 a (by unfold lcA at ha; simp at ha ⊢; omega), ?_, d1.c (by rw [e2, upd_n (by decide)]) (e1 22 (by decide)), e3, e4, e5⟩
    unfold xOf; rw [e2, e1 11 (by decide), e1 12 (by decide), upd_n (by decide), upd_s, upd_n (by decide)]
  · exact two_r h0 (k := 3) (by decide) (by decide) (by decide) (t_pour0 hb) (tm_pour0 (rs_lo hR (fun a ha => rfI_hi a (by omega))) hb)
theorem tw_chance (hK : K ≤ 1000000) (h : Rel N K I L) {n : Int32} : Two N K I L mX9_chance mX10_chance [.int n] := by
  have h0 := h
  obtain ⟨p, nb, ns, nh, bk, g1, g2, g3, g4, g5, g6⟩ := h
  obtain ⟨ks, lo, nx, us, uf, ws, a1, a2, a3, a4, a5, a6, a7, a8, a9, b1, b2, b3⟩ := g4
  have hR : RS I bk nb ns nh p (I 5) (I 6) (xOf I 10) (l40 ks) := ⟨g3.2.2.1, a1, a2, a3, g3.2.1.2.2.2.2.2.2⟩
  obtain ⟨_, hnb, _, hns, _, hnh, _⟩ := g3.2.1
  by_cases hb : ¬ n < 1 ∧ cpB n (I 10 0) = true
  · obtain ⟨w, hw, ew⟩ := a3.2.2.2.1
    have ew : I 10 0 = nI w := ew
    obtain ⟨k, k1, k2, rfl, k3⟩ := cp_n hw (by rw [← ew]; exact hb)
    have hg2 := g2
    obtain ⟨_, _, _, ⟨m, hm, f1, f2⟩, _⟩ := hg2
    have hg := chN_g (p := p) (f5 := I 5) (f6 := I 6) (dry := I 2 5) (z := ((xOf I 10, ks, (0 : Int32)), (0 : Int32), L 0 13)) hnb hns hnh a3 ew b3 k k3
    have hlen := chN_len p (I 5) (I 6) nb ns nh (I 2 5) k ((xOf I 10, ks, (0 : Int32)), (0 : Int32), L 0 13)
    obtain ⟨lo', c1, c2, c3⟩ := a9.act (xOf I 10)
    refine ⟨(chN p (I 5) (I 6) nb ns nh (I 2 5) k ((xOf I 10, ks, (0 : Int32)), (0 : Int32), L 0 13)).2.1, ((t_chance1 g3.1 g3.2.1 a6 (a5.up c1 (by omega)) c2 (by omega) k1 k2 hb.2).imp ?_).up (by decide)⟩
    rintro r S' ⟨x, I1, L1, ⟨rfl, rfl, rfl, s1, s2, s3, s4, s5, s6⟩, rfl⟩
    have hi : ∀ a, 36 ≤ a → I1 a = I a := fun a h => s1 a (by simp; omega)
    refine ⟨rfl, I1, _, rfl, ((tm_chance1 (m := m) (dry := I 2 5) (rs_lo hR hi) (a7.c (by rw [hi 36 (by decide)]) (by rw [hi 36 (by decide)]) (fun a h1 _ => hi a (by omega))) k1 k2 hb.2 hm (by unfold setD; rw [va_up_n (by decide)]; exact f2) (by rw [hi 48 (by decide)]; exact g3.2.2.2.2.1.symm)).imp ?_).up (by decide)⟩
    rintro r S' ⟨I2, L2, rfl, rfl, m1, ⟨L1, m2, rfl⟩, ⟨m', hm', em⟩, m3, m4, uf2, m5⟩
    rw [f1] at *
    refine ⟨rfl, I2, _, rfl, rel_act g1 g2 g3 g5 a4 a5 a3 a8 a9 b1 b2 c3 hg.2.2.1 (by simp only at hlen ⊢; omega) hg.2.2.2 s1 s2 s3 s4 s5 s6 m1 m3 m4 m5 (fun q hq => ?_) ⟨m', hm', ?_, ?_⟩⟩
    · unfold setE; rw [va_up_n (by omega), m2 _ (by simp; omega)]; unfold setD; rw [va_up_n (by omega)]
    · unfold setE; rw [va_up_n (by decide), m2 0 (by decide), setD_s]; exact em
    · unfold setE; rw [va_up_s]; unfold vp_updL; rw [if_pos rfl]; exact em
  · exact two_r h0 (k := 2) (by decide) (by decide) (by decide) (t_chance0 hb) (tm_chance0 (rs_lo hR (fun a ha => rfI_hi a (by omega))) hb)
theorem tw_undo (h : Rel N K I L) : Two N K I L mX9_undo mX10_undo [] := by
  have h0 := h
  obtain ⟨p, nb, ns, nh, bk, g1, g2, g3, g4, g5, g6⟩ := h
  obtain ⟨ks, lo, nx, us, uf, ws, a1, a2, a3, a4, a5, a6, a7, a8, a9, b1, b2, b3⟩ := g4
  obtain ⟨_, hnb, _, hns, _, hnh, _⟩ := g3.2.1
  cases us with
  | nil =>
    cases ws with
    | cons w ws => exact absurd a8.1 (by simp)
    | nil => exact two_r h0 (k := 4) (by decide) (by decide) (by decide) (t_undo0 a6.2.2.1) (tm_undo0 (by rw [rfI_hi 36 (by decide)]; exact a7.2.2.1))
  | cons u us =>
    cases ws with
    | nil => exact absurd a8.1 (by simp)
    | cons w ws =>
      have hu := a8.2 0 u w rfl rfl
      obtain ⟨u0, u1, u2, u3, u4, u5⟩ := hu
      obtain ⟨w1, w2, w3⟩ := a9
      have hxw := b1 w List.mem_cons_self
      refine ⟨1, ((t_undo1 a6).imp ?_).up (by decide)⟩
      rintro r S' ⟨I1, rfl, rfl, s1, s2, s3, s4, s5, s6, s7, s8, s9⟩
      have hi : ∀ a, 36 ≤ a → I1 a = I a := fun a h => s1 a (by simp; omega)
      have hU : UR I1 nb ns uf ((w.1, l40 (ks.take w.2)) :: ulOf ks ws) := a7.c (by rw [hi 36 (by decide)]) (by rw [hi 36 (by decide)]) (fun a h1 _ => hi a (by omega))
      refine ⟨rfl, I1, L, rfl, ((tm_undo1 hnb hns hU).imp ?_).up (by decide)⟩
      rintro r S' ⟨I2, rfl, rfl, m1, m2, m3, m4, m5⟩
      have ho : ∀ a, a ∉ [10, 11, 12, 19, 26, 30] → a ∉ [36, 63, 64, 65, 66, 67, 68, 69] → I2 a = I a := fun a h1 h2 => by rw [m1 a h2, s1 a h1]
      have h36 : ∀ j, j ≠ 53 → j ≠ 54 → I2 36 j = I 36 j := fun j h1 h2 => by rw [m2 j h1 h2, hi 36 (by decide)]
      have ex : xOf I2 10 = w.1 := by
        rw [xOf_c (m1 10 (by decide)) (m1 11 (by decide)) (m1 12 (by decide))]
        unfold xOf
        refine Prod.ext ((s2 0 (by decide)).trans u0) (Prod.ext ((s2 1 (by decide)).trans u1) (Prod.ext ((s2 2 (by decide)).trans u2) (Prod.ext (funext fun j => ?_) (funext fun j => ?_))))
        · by_cases hj : j < 5
          · exact (s3 j hj).trans (u4 j hj)
          · exact (s5 j (by omega)).trans ((a3.2.1 j (by omega)).trans (hxw.2.1 j (by omega)).symm)
        · by_cases hj : j < 6
          · exact (s4 j hj).trans (u5 j hj)
          · exact (s6 j (by omega)).trans ((a3.2.2.1 j (by omega)).trans (hxw.2.2.1 j (by omega)).symm)
      have hlen : (ks.take w.2).length = w.2 := by rw [List.length_take]; omega
      refine ⟨rfl, I2, L, rfl, p, nb, ns, nh, bk, g1.c (by rw [ho 0 (by decide) (by decide)]) (ho 1 (by decide) (by decide)) (h36 1 (by decide) (by decide)) (ho 37 (by decide) (by decide)), g2.c (fun j _ => by rw [ho 0 (by decide) (by decide)]) (ho 34 (by decide) (by decide)) (ho 35 (by decide) (by decide)) (fun j hj => h36 j (by simp at hj; omega) (by simp at hj; omega)) (ho 62 (by decide) (by decide)) (ho 80 (by decide) (by decide)) rfl rfl, g3.c (fun j _ => by rw [ho 2 (by decide) (by decide)]) (fun a c1 c2 => ho a (by simp; omega) (by simp; omega)) (h36 13 (by decide) (by decide)) (fun a c1 c2 => ho a (by simp; omega) (by simp; omega)) (fun _ _ => rfl), ?_, g5.c (by rw [ho 23 (by decide) (by decide)]) (ho 24 (by decide) (by decide)) (h36 62 (by decide) (by decide)) (fun a c1 c2 => ho a (by simp; omega) (by simp; omega)), G6.no (by rw [m1 26 (by decide), s8, upd_s]) (by rw [m1 30 (by decide), s9, upd_s])⟩
      refine ⟨ks.take w.2, lo, (nx + 19) % 20, us, uf, ws, by rw [ex]; exact m3, m4, by rw [ex]; exact hxw, by rw [xOf_c (ho 13 (by decide) (by decide)) (ho 14 (by decide) (by decide)) (ho 15 (by decide) (by decide))]; exact a4, ⟨?_, ?_, ?_, fun i r hl hr => ?_⟩, s7.c (m1 19 (by decide)) (m1 20 (by decide)), ?_, ⟨Nat.succ.inj a8.1, fun k u' w' e1 e2 => a8.2 (k + 1) u' w' e1 e2⟩, by rw [hlen]; exact w3, fun w' hw' => b1 w' (List.mem_cons_of_mem _ hw'), by omega, fun r hr => b3 r (List.mem_of_mem_take hr)⟩
      · rw [hlen, m1 10 (by decide), s2 3 (by decide)]; exact u3
      · have := a5.2.1; omega
      · have := a5.2.2.1; omega
      · rw [ho 22 (by decide) (by decide)]
        rw [List.getElem?_take] at hr
        split at hr
        · exact a5.2.2.2 i r hl hr
        · cases hr
      · rw [← ulOf_ext (ks := ks.take w.2) (ks' := ks) (fun w' hw' => by rw [hlen]; exact WsC.mem ws _ _ w3 w' hw') (List.take_prefix _ _)]; exact m5
theorem lo6_sh {k : Nat} {v : Int32} (hk : k < 6) (hv : v = 0 ∨ v = 1) : lo6 (v <<< (nI k &&& 31)) := by
  have key : ∀ k, k < 6 → ∀ i, i < 32 → 6 ≤ i → ((0 : Int32) <<< (nI k &&& 31)).toBitVec.getLsbD i = false ∧ ((1 : Int32) <<< (nI k &&& 31)).toBitVec.getLsbD i = false := by decide
  intro i h1 h2
  rcases hv with e | e <;> rw [e]
  · exact (key k hk i h2 h1).1
  · exact (key k hk i h2 h1).2
theorem svF_6 {tb : Nat → Int32} {o : Nat} : ∀ n, n ≤ 6 → (∀ h, h < n → tb (o + h) = 0 ∨ tb (o + h) = 1) → lo6 (svF tb o n)
  | 0, _, _ => fun i h1 h2 => by
    have key : ∀ i, i < 32 → ((0 : Int32)).toBitVec.getLsbD i = false := by decide
    exact key i h2
  | n + 1, hn, h => lo6_or (svF_6 n (by omega) (fun k hk => h k (by omega))) (lo6_sh (by omega) (h n (by omega)))
theorem le_of99 {v w : Int32} {q : Nat} (hq : q < 256) (e : v = nI q) (hw : le99 w) (h : ¬ w < v) : le99 v := by
  obtain ⟨n, hn, rfl⟩ := hw
  rw [e, nI_ltI (by omega) (by omega)] at h
  exact ⟨q, by omega, e⟩
theorem on_XG {tb f5 f6 : Nat → Int32} {nb ns nh t : Nat} (hb : byt tb t) (h : isIm tb f6 nb ns nh t = true) (hnh : nh ≤ 6) (h6 : ∀ j, j < nb → le99 (f6 j)) (z6 : ∀ j, nb ≤ j → j < 5 → f6 j = 0) (z5 : ∀ j, ns ≤ j → j < 6 → f5 (6 + j) = 0) : XG nb ns (onX tb f5 f6 nb ns nh) := by
  obtain ⟨rfl, c1, c2, c3, c4, c5, c6⟩ := isIm_iff.mp h
  have l0 : le99 (0 : Int32) := ⟨0, by omega, rfl⟩
  have l99 : le99 (99 : Int32) := ⟨99, by omega, rfl⟩
  have zz : ∀ j, nb ≤ j → (onX tb f5 f6 nb ns nh).2.2.2.1 j = 0 := fun j hj => by
    show (if j < nb then _ else if j < 5 then _ else _) = (0 : Int32)
    rw [if_neg (by omega)]
    split
    · exact z6 j hj (by assumption)
    · rfl
  have zd : ∀ j, ns ≤ j → (onX tb f5 f6 nb ns nh).2.2.2.2 j = 0 := fun j hj => by
    show (if j < ns then _ else if j < 6 then _ else _) = (0 : Int32)
    rw [if_neg (by omega)]
    split
    · exact z5 j hj (by assumption)
    · rfl
  refine ⟨⟨fun j => ?_, fun j => ?_⟩, zz, zd, ?_, ?_, ?_⟩
  · by_cases hj : j < nb
    · obtain ⟨q, q1, q2⟩ := hb (3 + j) (by omega)
      show le99 (if j < nb then _ else _)
      rw [if_pos hj]; exact le_of99 q1 q2 (h6 j hj) (c4 j hj)
    · rw [zz j (by omega)]; exact l0
  · by_cases hj : j < ns
    · obtain ⟨q, q1, q2⟩ := hb (3 + nb + j) (by omega)
      show le99 (if j < ns then _ else _)
      rw [if_pos hj]; exact le_of99 q1 q2 l99 (c5 j hj)
    · rw [zd j (by omega)]; exact l0
  · obtain ⟨q, q1, q2⟩ := hb 0 (by omega)
    obtain ⟨r, r1, r2⟩ := hb 1 (by omega)
    have e : tb 0 * 256 + tb 1 = nI (q * 256 + r) := by
      rw [q2, r2, show (256 : Int32) = nI 256 from rfl, show nI q * nI 256 = nI (q * 256) from (Int32.ofNat_mul q 256).symm, nI_add]
    refine ⟨q * 256 + r, ?_, e⟩
    rw [e, show (999 : Int32) = nI 999 from rfl, nI_ltI (by omega) (by omega)] at c1
    omega
  · obtain ⟨q, q1, q2⟩ := hb 2 (by omega)
    exact le_of99 q1 q2 l99 c2
  · refine svF_6 nh hnh (fun h hh => ?_)
    obtain ⟨q, q1, q2⟩ := hb (3 + nb + ns + h) (by omega)
    have := c6 h hh
    rw [q2, show (1 : Int32) = nI 1 from rfl, nI_ltI (by omega) (by omega)] at this
    rcases (show q = 0 ∨ q = 1 by omega) with e | e
    · left; rw [q2, e]; rfl
    · right; rw [q2, e]; rfl
theorem G2.rg {I2 : aI} {k : Nat} (h : G2 I L) (hk : k < 6) (h34 : I2 34 = I 34) (h80 : I2 80 = I 80) (h0 : ∀ j, j ∈ [3, 4, 15] → I2 0 j = I 0 j) (h36 : ∀ j, j ∈ [10, 11, 68] → I2 36 j = I 36 j) (e35 : I2 35 = upd (I 35) k (I 35 k + 1)) (e62 : I2 62 = upd (I 62) k (I 62 k + 1)) : G2 I2 L := by
  obtain ⟨a1, a2, a3, a4, n, a5, a6, a7, a8⟩ := h
  refine ⟨by rw [h0 3 (by decide), h36 10 (by decide)]; exact a1, by rw [h0 4 (by decide), h36 11 (by decide)]; exact a2, fun j hj => ?_, a4, n, a5, by rw [h0 15 (by decide)]; exact a6, by rw [h36 68 (by decide)]; exact a7, fun j hj => by rw [h34, h80]; exact a8 j hj⟩
  rw [e35, e62]
  by_cases e : j = k
  · rw [e, upd_s, upd_s, a3 k hk]
  · rw [upd_n e, upd_n e]; exact a3 j hj
theorem tw_on (h : Rel N K I L) : Two N K I L mX9_on mX10_on [] := by
  obtain ⟨p, nb, ns, nh, bk, g1, g2, g3, g4, g5, g6⟩ := h
  obtain ⟨tb, t, t16, c1, c2, c3, c4⟩ := g1.tbq
  have g4' := g4
  obtain ⟨ks, lo, nx, us, uf, ws, a1, a2, a3, a4, a5, a6, a7, a8, a9, b1, b2, b3⟩ := g4'
  have hR : RS I bk nb ns nh p (I 5) (I 6) (xOf I 10) (l40 ks) := ⟨g3.2.2.1, a1, a2, a3, g3.2.1.2.2.2.2.2.2⟩
  have hc := g3.2.1
  obtain ⟨_, hnb, _, hns, _, hnh, _⟩ := id hc
  cases hok : isIm (tbF I) (I 6) nb ns nh t with
  | false =>
    refine ⟨0, ((t_on0 hc c1 t16 hok).imp ?_).up (by decide)⟩
    rintro r S' ⟨rfl, rfl⟩
    have q1 : ∀ a, a ≠ 0 → a ≠ 35 → refI (va_up I 0 (upd (I 0) 1 0)) 5 a = I a := fun a a1 a2 => by rw [rfI_hi a a2, va_up_n a1]
    have q0 : refI (va_up I 0 (upd (I 0) 1 0)) 5 0 = upd (I 0) 1 0 := by rw [rfI_hi 0 (by decide), va_up_s]
    have q35 : refI (va_up I 0 (upd (I 0) 1 0)) 5 35 = upd (I 35) 5 (I 35 5 + 1) := by unfold refI; rw [va_up_s, va_up_n (by decide)]
    refine ⟨rfl, _, L, rfl, ((tm_on0 (tb := tbF I) (t := t) (rs_lo hR (fun a ha => q1 a (by omega) (by omega))) (by rw [q1 36 (by decide) (by decide)]; exact c2) t16 (fun i hi => by rw [q1 37 (by decide) (by decide)]; exact (c3 i hi).2.1) c4 hok).imp ?_).up (by decide)⟩
    generalize refI (va_up I 0 (upd (I 0) 1 0)) 5 = I1 at *
    rintro r S' ⟨I2, L2, rfl, rfl, rfl, m1, m2, m3, m4, m5⟩
    have ho : ∀ a, a ∉ [0, 35] → a ∉ [36, 62, 63, 64, 65, 66, 67, 68, 69] → I2 a = I a := fun a h1 h2 => by rw [m1 a h2, q1 a (by simp at h1; omega) (by simp at h1; omega)]
    have h36 : ∀ j, j ≠ 1 → I2 36 j = I 36 j := fun j h1 => by rw [m2 j h1, q1 36 (by decide) (by decide)]
    have z0 : ∀ j, j ≠ 1 → I2 0 j = I 0 j := fun j h1 => by rw [m1 0 (by decide), q0, upd_n h1]
    refine ⟨rfl, I2, L2, rfl, p, nb, ns, nh, bk, G1.nil (by rw [m1 0 (by decide), q0, upd_s]) m3, g2.rg (k := 5) (by decide) (ho 34 (by decide) (by decide)) (ho 80 (by decide) (by decide)) (fun j hj => z0 j (by simp at hj; omega)) (fun j hj => h36 j (by simp at hj; omega)) (by rw [m1 35 (by decide), q35]) (by rw [m5, q1 62 (by decide) (by decide)]), g3.c (fun j _ => by rw [ho 2 (by decide) (by decide)]) (fun a c1 c2 => ho a (by simp; omega) (by simp; omega)) (h36 13 (by decide)) (fun a c1 c2 => ho a (by simp; omega) (by simp; omega)) (fun _ _ => rfl), (g4.c (I2 := I2) (fun a ha => ho a (by simp at ha ⊢; omega) (by simp at ha ⊢; omega)) (by rw [xOf_c (ho 13 (by decide) (by decide)) (ho 14 (by decide) (by decide)) (ho 15 (by decide) (by decide))]; exact a4) (h36 53 (by decide)) (h36 54 (by decide)) (fun x hx => (hx.c (fun a x1 _ => q1 a (by omega) (by omega))).fr m4 (by decide) hnb hns) (fun r hr => (hr.c (q1 68 (by decide) (by decide)) (q1 69 (by decide) (by decide))).fr m4 (by decide)) (fun uf ul hu => (hu.c (I2 := I1) (by rw [q1 36 (by decide) (by decide)]) (by rw [q1 36 (by decide) (by decide)]) (fun a x1 _ => q1 a (by omega) (by omega))).fr m4 (by decide) (m2 53 (by decide)) (m2 54 (by decide)) hnb hns)).up (Nat.le_succ _), g5.c (by rw [ho 23 (by decide) (by decide)]) (ho 24 (by decide) (by decide)) (h36 62 (by decide)) (fun a c1 c2 => ho a (by simp; omega) (by simp; omega)), g6.c (fun a ha => ho a (by simp at ha ⊢; omega) (by simp at ha ⊢; omega))⟩
  | true =>
    refine ⟨1, ((t_on1 hc c1 t16 hok (a3.ok hnb hns)).imp ?_).up (by decide)⟩
    rintro r S' ⟨I1, rfl, rfl, s1, s2, s3, s4, s5, s6, s7, s8⟩
    have hi : ∀ a, 36 ≤ a → I1 a = I a := fun a h => s1 a (by simp; omega)
    refine ⟨rfl, _, L, rfl, ((tm_on1 (tb := tbF I) (t := t) (rs_lo hR hi) (by rw [hi 36 (by decide)]; exact c2) t16 (fun i h => by rw [hi 37 (by decide)]; exact (c3 i h).2.1) c4 hok).imp ?_).up (by decide)⟩
    rintro r S' ⟨I2, L2, rfl, rfl, rfl, m1, m2, m3, m4, m5, m6⟩
    have ho : ∀ a, a ∉ [0, 10, 11, 12, 19, 26, 30] → a ∉ [36, 63, 64, 65, 66, 67, 68, 69] → I2 a = I a := fun a h1 h2 => by rw [m1 a h2, s1 a h1]
    have h36 : ∀ j, j ≠ 1 → j ≠ 54 → I2 36 j = I 36 j := fun j h1 h2 => by rw [m2 j h1 h2, hi 36 (by decide)]
    have z0 : ∀ j, j ≠ 1 → I2 0 j = I 0 j := fun j h1 => by rw [m1 0 (by decide), s2 j h1]
    have hX := on_XG (f5 := I 5) c4 hok hnh g3.2.2.2.2.2.1 g3.2.2.2.2.2.2.1 g3.2.2.2.2.2.2.2
    have ex : xOf I2 10 = onX (tbF I) (I 5) (I 6) nb ns nh := by rw [xOf_c (m1 10 (by decide)) (m1 11 (by decide)) (m1 12 (by decide))]; exact s4
    refine ⟨rfl, I2, L2, rfl, p, nb, ns, nh, bk, G1.nil (by rw [m1 0 (by decide)]; exact s3) m3, g2.c (fun j hj => z0 j (by simp at hj; omega)) (ho 34 (by decide) (by decide)) (ho 35 (by decide) (by decide)) (fun j hj => h36 j (by simp at hj; omega) (by simp at hj; omega)) (ho 62 (by decide) (by decide)) (ho 80 (by decide) (by decide)) rfl rfl, g3.c (fun j _ => by rw [ho 2 (by decide) (by decide)]) (fun a c1 c2 => ho a (by simp; omega) (by simp; omega)) (h36 13 (by decide) (by decide)) (fun a c1 c2 => ho a (by simp; omega) (by simp; omega)) (fun _ _ => rfl), ?_, g5.c (by rw [ho 23 (by decide) (by decide)]) (ho 24 (by decide) (by decide)) (h36 62 (by decide) (by decide)) (fun a c1 c2 => ho a (by simp; omega) (by simp; omega)), G6.no (by rw [m1 26 (by decide), s7, upd_s]) (by rw [m1 30 (by decide), s8, upd_s])⟩
    refine ⟨[], 0, nx, [], uf, [], by rw [ex]; exact m5, m6, by rw [ex]; exact hX, by rw [xOf_c (ho 13 (by decide) (by decide)) (ho 14 (by decide) (by decide)) (ho 15 (by decide) (by decide))]; exact a4, ⟨by rw [m1 10 (by decide)]; exact s5, by decide, by decide, fun i r _ hr => (by cases hr)⟩, ⟨?_, a6.2.1, by rw [m1 19 (by decide), s6, upd_s]; rfl, by decide, fun k u hu => (by cases hu)⟩, ⟨a7.1, by rw [h36 53 (by decide) (by decide)]; exact a7.2.1, m4, by decide, fun k x rs hk => (by cases hk)⟩, ⟨rfl, fun k u w hu => (by cases hu)⟩, Or.inr rfl, fun w hw => (by cases hw), Nat.zero_le _, fun r hr => (by cases hr)⟩
    rw [m1 19 (by decide), s6, upd_n (by decide)]; exact a6.1
end
