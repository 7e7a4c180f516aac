def lo6 (x : Int32) : Prop := ∀ i, 6 ≤ i → i < 32 → x.toBitVec.getLsbD i = false
/-- what holds of every state of the class -/
def XG (nb ns : Nat) (x : aX) : Prop := XB x ∧ (∀ j, nb ≤ j → x.2.2.2.1 j = 0) ∧ (∀ j, ns ≤ j → x.2.2.2.2 j = 0) ∧ (∃ w, w ≤ 999 ∧ x.1 = nI w) ∧ le99 x.2.1 ∧ lo6 x.2.2.1
theorem lo6_who (p : aP) (nm : Nat → Int32) (r : Nat) (sn er : Nat → Int32) (hb : Int32) {k : Nat} (h : k ≤ 6) : lo6 (whoF p nm r sn er hb k) := fun i h6 h32 => whoF_bit p nm r sn er hb k i h (by omega) h32
theorem lo6_or {a b : Int32} (ha : lo6 a) (hb : lo6 b) : lo6 (a ||| b) := fun i h6 h32 => by rw [Int32.toBitVec_or, BitVec.getLsbD_or, ha i h6 h32, hb i h6 h32]; rfl
theorem lo6_and {a b : Int32} (ha : lo6 a) : lo6 (a &&& b) := fun i h6 h32 => by rw [Int32.toBitVec_and, BitVec.getLsbD_and, ha i h6 h32]; rfl
theorem XG.preach {p : aP} {f5 f6 : Nat → Int32} {nb ns nh b s n : Nat} {x : aX} (h : XG nb ns x) (hb : b < nb) (hs : s < ns) (hh : nh ≤ 6) : XG nb ns (preachX p f5 f6 nh x b s n) := by
  obtain ⟨⟨b1, b2⟩, z1, z2, w, q, l⟩ := h
  have r := rub_99 p (nmL (f5 b) (f6 (6 + s)) x.2.1 x.1) n (x.2.2.2.1 b, x.2.2.2.2 s, 0, 0) (b1 b) (b2 s)
  refine ⟨⟨fun j => ?_, fun j => ?_⟩, fun j hj => ?_, fun j hj => ?_, w, q, lo6_or l (lo6_who _ _ _ _ _ _ hh)⟩
  · show le99 (upd x.2.2.2.1 b _ j)
    by_cases e : j = b
    · rw [e, upd_s]; exact r.1
    · rw [upd_n e]; exact b1 j
  · show le99 (upd x.2.2.2.2 s _ j)
    by_cases e : j = s
    · rw [e, upd_s]; exact r.2
    · rw [upd_n e]; exact b2 j
  · show upd x.2.2.2.1 b _ j = 0
    rw [upd_n (by omega)]; exact z1 j hj
  · show upd x.2.2.2.2 s _ j = 0
    rw [upd_n (by omega)]; exact z2 j hj
theorem XG.end {p : aP} {f5 f6 : Nat → Int32} {nb ns nh w : Nat} {x : aX} {se : Option (Nat × Nat)} (h : XG nb ns (midX p f5 f6 nh x se)) (hw : w < 999) (hx : x.1 = nI w) (hq : le99 x.2.1) : XG nb ns (endX p f5 f6 nh x se) ∧ (endX p f5 f6 nh x se).1 = nI (w + 1) := by
  obtain ⟨⟨b1, b2⟩, z1, z2, _, _, l⟩ := h
  have e : (endX p f5 f6 nh x se).1 = nI (w + 1) := by
    show (if x.1 + 1 < 999 then x.1 + 1 else 999) = nI (w + 1)
    rw [hx, show nI w + 1 = nI (w + 1) from nI_1 w]
    by_cases e : w + 1 < 999
    · rw [if_pos (show nI (w + 1) < 999 from nI_lt (b := 999) e (by decide))]
    · rw [if_neg (show ¬ nI (w + 1) < 999 from nI_nlt (b := 999) (by omega) (by omega)), show w + 1 = 999 by omega]; rfl
  exact ⟨⟨⟨b1, b2⟩, z1, z2, ⟨w + 1, by omega, e⟩, hq, lo6_and l⟩, e⟩
theorem XG.week {p : aP} {f5 f6 : Nat → Int32} {nb ns nh w : Nat} {dr : Bool} {x : aX} (h : XG nb ns x) (hh : nh ≤ 6) (hw : w < 999) (hx : x.1 = nI w) : XG nb ns (weekX p f5 f6 nb ns nh dr x) ∧ (weekX p f5 f6 nb ns nh dr x).1 = nI (w + 1) := by
  refine XG.end ?_ hw hx h.2.2.2.2.1
  cases hse : serX p f5 f6 nb ns dr x with
  | none => exact h
  | some q =>
    obtain ⟨b, s⟩ := q
    obtain ⟨h1, h2⟩ := serX_lt hse
    exact h.preach h1 h2 hh
theorem XG.ahead {p : aP} {f5 f6 : Nat → Int32} {nb ns nh w : Nat} {x : aX} (h : XG nb ns x) (hh : nh ≤ 6) (hx : x.1 = nI w) : ∀ n, w + n ≤ 999 → XG nb ns (aheadX p f5 f6 nb ns nh n x) ∧ (aheadX p f5 f6 nb ns nh n x).1 = nI (w + n)
  | 0, _ => ⟨h, hx⟩
  | n + 1, hn => by
    obtain ⟨a, b⟩ := XG.ahead h hh hx n (by omega)
    exact a.week (w := w + n) hh (by omega) b
/-- the reference tells what the class does -/
def RS (I : aI) (bk nb ns nh : Nat) (p : aP) (f5 f6 : Nat → Int32) (x : aX) (rs : List aRow) : Prop := RefP I bk nb ns nh p f5 f6 ∧ XR I 0 nb ns x ∧ KR I 0 rs ∧ XG nb ns x ∧ ∀ b, b < nb → ∃ r, r < 1000 ∧ f5 b = nI r
/-- what questions touch -/
def QF (I I2 : aI) : Prop := Sm [63, 64, 65, 66, 67, 68, 69, 71, 72, 73, 74, 75, 79] I I2 ∧ SlF 1 I I2
theorem QF.rf {I : aI} : QF I I := ⟨Sm.rf, SlF.rf⟩
theorem QF.tr {I I1 I2 : aI} (h1 : QF I I1) (h2 : QF I1 I2) : QF I I2 := ⟨h1.1.tr h2.1 (fun _ h => h) (fun _ h => h), h1.2.tr h2.2⟩
theorem RS.q {I I2 : aI} {p : aP} {bk nb ns nh : Nat} {f5 f6 : Nat → Int32} {x : aX} {rs : List aRow} (h : RS I bk nb ns nh p f5 f6 x rs) (hq : QF I I2) : RS I2 bk nb ns nh p f5 f6 x rs := by
  obtain ⟨h1, h2, h3, h4, h5⟩ := h
  exact ⟨h1.sm hq.1 (by decide), h2.fr hq.2 (by decide) h1.1.2.2.1 h1.1.2.2.2.1, h3.fr hq.2 (by decide), h4, h5⟩
theorem rub_cnt (p : aP) (nm : Nat → Int32) : ∀ n c (t : aT), t.2.2.1 = nI c → ∃ m, m ≤ n ∧ (rubF p nm n t).2.2.1 = nI (c + m)
  | 0, c, t, h => ⟨0, Nat.le_refl _, h⟩
  | n + 1, c, t, h => by
    simp only [rubF]
    split
    · exact ⟨0, by omega, h⟩
    · obtain ⟨m, hm, e⟩ := rub_cnt p nm n (c + 1) (strk p nm t) (by show t.2.2.1 + 1 = _; rw [h]; exact nI_1 c)
      exact ⟨m + 1, by omega, by rw [e]; congr 1; omega⟩
theorem rubX_cnt (p : aP) (f5 f6 : Nat → Int32) (x : aX) (b s n : Nat) : ∃ m, m ≤ n ∧ (rubX p f5 f6 x b s n).2.2.1 = nI m := by
  obtain ⟨m, h1, h2⟩ := rub_cnt p (nmL (f5 b) (f6 (6 + s)) x.2.1 x.1) n 0 (x.2.2.2.1 b, x.2.2.2.2 s, 0, 0) rfl
  exact ⟨m, h1, by rw [show rubX p f5 f6 x b s n = rubF p (nmL (f5 b) (f6 (6 + s)) x.2.1 x.1) n (x.2.2.2.1 b, x.2.2.2.2 s, 0, 0) from rfl, h2]; congr 1; omega⟩
theorem QF.cp {I I1 I2 : aI} (h1 : Sm [63, 64, 65, 66, 67, 68, 69] I I1) (h2 : SlF 1 I I1) (h3 : Sm [65, 66, 71] I1 I2) (h4 : SlF 1 I1 I2) : QF I I2 := ⟨h1.tr h3 (by decide) (by decide), h2.tr h4⟩
set_option maxRecDepth 20000 in
theorem tm_leftBy {N : Nat} {I : aI} {L : aL} {p : aP} {bk nb ns nh : Nat} {f5 f6 : Nat → Int32} {x : aX} {rs : List aRow} (hR : RS I bk nb ns nh p f5 f6 x rs) {b s n : Nat} (hb : b < nb) (hs : s < ns) (hn : n < 1000) : Run 5 0 0 mX10_leftBy [.ref 36, .int (nI b), .int (nI s), .int (nI n)] (St N I L) (RX N (fun o I2 L2 => o = some (.int ((rubX p f5 f6 x b s n).2.1)) ∧ QF I I2 ∧ SmL [70] L L2)) := by
  refine Run.of (ls := [some (.ref 36), some (.int _), some (.int _), some (.int _)]) (by decide) (Nat.le_of_ble_eq_true rfl) rfl ?_
  obtain ⟨hP, hX, hK, hG, hrb⟩ := id hR
  obtain ⟨⟨h1, h2, hnb, hns, hnh, hcb, hcs, hch⟩, -⟩ := id hP
  refine Ex.aload_n (pc := 0) dX10_leftBy_0 rfl rfl ?_
  refine Ex.iconst (pc := 1) (v := 1) dX10_leftBy_1 rfl ?_
  refine Ex.iconst (pc := 2) (v := 0) dX10_leftBy_2 rfl ?_
  refine Ex.callV (pc := 3) (As := [.int 1, .int 0]) (rest := []) dX10_leftBy_3 cX10_405 (tm_copies (to := 1) (fr := 0) (by decide) (by decide) (by decide) hnb hns hX hK) (sh36 _) rfl rfl (by decide) (Nat.le_refl _) (Nat.le_refl _) (Nat.le_of_ble_eq_true rfl) (Or.inl (fun r S' h => by obtain ⟨_, _, h, _⟩ := h; subst h; rfl)) (fun r S' hq _ _ => ?_)
  obtain ⟨I1, rfl, rfl, hS1, hF1, hX1, hK1⟩ := hq
  have hP1 : RefP I1 bk nb ns nh p f5 f6 := hP.sm hS1 (by decide)
  refine Ex.aload_n (pc := 6) dX10_leftBy_6 rfl rfl ?_
  refine Ex.iconst (pc := 7) (v := 1) dX10_leftBy_7 rfl ?_
  refine Ex.iload_n (pc := 8) dX10_leftBy_8 rfl rfl ?_
  refine Ex.iload_n (pc := 9) dX10_leftBy_9 rfl rfl ?_
  refine Ex.iload_n (pc := 10) dX10_leftBy_10 rfl rfl ?_
  refine Ex.callV (pc := 11) (As := [.int 1, .int _, .int _, .int _]) (rest := []) dX10_leftBy_11 cX10_441 (tm_rubs (n := n) hP1 hX1 (by decide) hb hs hn (hG.1.1 b) (hG.1.2 s)) (sh36 _) rfl rfl (by decide) (Nat.le_refl _) (Nat.le_refl _) (Nat.le_of_ble_eq_true rfl) (Or.inl (fun r S' h => by obtain ⟨_, _, h, _⟩ := h; subst h; rfl)) (fun r S' hq _ _ => ?_)
  obtain ⟨I2, L2, rfl, rfl, hS2, hSL2, e65, e66⟩ := hq
  have hF2 : SlF 1 I1 I2 := SlF.set hS2 (by decide) (by omega) (by omega) e65 e66
  refine Ex.pop (pc := 14) dX10_leftBy_14 rfl ?_
  refine Ex.aload_n (pc := 15) dX10_leftBy_15 rfl rfl ?_
  refine Ex.getR (pc := 16) dX10_leftBy_16 fX10_162 (sh36 _) r36_49 ?_
  refine Ex.bipush (pc := 19) (v := 6) dX10_leftBy_19 rfl ?_
  refine Ex.iload_n (pc := 21) dX10_leftBy_21 rfl rfl ?_
  refine Ex.iadd (pc := 22) dX10_leftBy_22 ?_
  refine Ex.iald (pc := 23) (j := 6 + s) dX10_leftBy_23 (sh66 _) (ixA (x := 6) (a := 6) (j := s) rfl (by omega) (by decide)).1 (ixA2 (x := 6) (a := 6) (j := s) rfl (by omega)) ?_
  refine Ex.iret (pc := 24) rfl rfl rfl dX10_leftBy_24 (Nat.le_refl _) (Nat.le_refl _) ?_
  refine ⟨_, _, rfl, ?_, QF.cp hS1 hF1 hS2 hF2, hSL2⟩
  rw [e66, show 6 + s = 6 * 1 + s by omega, upd_s]
set_option maxRecDepth 20000 in
theorem tm_strokes {N : Nat} {I : aI} {L : aL} {p : aP} {bk nb ns nh : Nat} {f5 f6 : Nat → Int32} {x : aX} {rs : List aRow} (hR : RS I bk nb ns nh p f5 f6 x rs) {w v n : Int32} : Run 5 0 0 mX10_strokes [.ref 36, .int w, .int v, .int n] (St N I L) (RX N (fun o I2 L2 => o = some (.int (if (inR w nb && inR v ns) = false then -1 else if n < 0 then -1 else if n ≤ 40 then (rubX p f5 f6 x w.toNatClampNeg v.toNatClampNeg n.toNatClampNeg).2.1 else -1)) ∧ QF I I2 ∧ SmL [70] L L2)) := by
  refine Run.of (ls := [some (.ref 36), some (.int _), some (.int _), some (.int _)]) (by decide) (Nat.le_of_ble_eq_true rfl) rfl ?_
  obtain ⟨hP, hX, hK, hG, hrb⟩ := id hR
  obtain ⟨⟨h1, h2, hnb, hns, hnh, hcb, hcs, hch⟩, -⟩ := id hP
  refine Ex.aload_n (pc := 0) dX10_strokes_0 rfl rfl ?_
  refine Ex.iload_n (pc := 1) dX10_strokes_1 rfl rfl ?_
  refine Ex.callV (pc := 2) (As := [.int _]) (rest := []) dX10_strokes_2 cX10_470 (tm_isBoard hP.1) (sh36 _) rfl rfl (by decide) (Nat.le_refl _) (Nat.le_refl _) (Nat.le_of_ble_eq_true rfl) (Or.inl (fun r S' h => by obtain ⟨_, h⟩ := h; subst h; rfl)) (fun r S' hq _ _ => ?_)
  obtain ⟨rfl, rfl⟩ := hq
  refine Ex.if_eq (pc := 5) (tgt := 26) dX10_strokes_5 (by decide) (fun c5 => ?_) (fun c5 => ?_)
  · skip
    refine Ex.iconst (pc := 26) (v := (-1)) dX10_strokes_26 rfl ?_
    refine Ex.iret (pc := 27) rfl rfl rfl dX10_strokes_27 (Nat.le_refl _) (Nat.le_refl _) ?_
    refine ⟨_, _, rfl, ?_, QF.rf, SmL.rf⟩
    rw [bI_0 c5]
    rfl
  · skip
    refine Ex.aload_n (pc := 8) dX10_strokes_8 rfl rfl ?_
    refine Ex.iload_n (pc := 9) dX10_strokes_9 rfl rfl ?_
    refine Ex.callV (pc := 10) (As := [.int _]) (rest := []) dX10_strokes_10 cX10_473 (tm_isStain hP.1) (sh36 _) rfl rfl (by decide) (Nat.le_refl _) (Nat.le_refl _) (Nat.le_of_ble_eq_true rfl) (Or.inl (fun r S' h => by obtain ⟨_, h⟩ := h; subst h; rfl)) (fun r S' hq _ _ => ?_)
    obtain ⟨rfl, rfl⟩ := hq
    refine Ex.if_eq (pc := 13) (tgt := 26) dX10_strokes_13 (by decide) (fun c13 => ?_) (fun c13 => ?_)
    · skip
      refine Ex.iconst (pc := 26) (v := (-1)) dX10_strokes_26 rfl ?_
      refine Ex.iret (pc := 27) rfl rfl rfl dX10_strokes_27 (Nat.le_refl _) (Nat.le_refl _) ?_
      refine ⟨_, _, rfl, ?_, QF.rf, SmL.rf⟩
      rw [bI_0 c13, Bool.and_false]
      rfl
    · skip
      refine Ex.iload_n (pc := 16) dX10_strokes_16 rfl rfl ?_
      refine Ex.iconst (pc := 17) (v := 0) dX10_strokes_17 rfl ?_
      refine Ex.bipush (pc := 18) (v := 40) dX10_strokes_18 rfl ?_
      refine Ex.callS (pc := 20) (As := [.int _, .int 0, .int 40]) (rest := []) dX10_strokes_20 cX10_312 tm_is rfl rfl (by decide) (Nat.le_refl _) (Nat.le_refl _) (Nat.le_of_ble_eq_true rfl) (Or.inl (fun r S' h => by obtain ⟨_, h⟩ := h; subst h; rfl)) (fun r S' hq _ _ => ?_)
      obtain ⟨rfl, rfl⟩ := hq
      refine Ex.if_ne (pc := 23) (tgt := 28) dX10_strokes_23 (by decide) (fun c23 => ?_) (fun c23 => ?_)
      · skip
        obtain ⟨b, hb, rfl⟩ := inR_of (bI_1 c5) (by omega)
        obtain ⟨s, hs, rfl⟩ := inR_of (bI_1 c13) (by omega)
        have hnn := of_decide_eq_true (bI_1 c23)
        obtain ⟨n, hn, rfl⟩ := nI_of2 (n := 40) (by decide) hnn.1 (Int32.not_lt.mp hnn.2)
        refine Ex.aload_n (pc := 28) dX10_strokes_28 rfl rfl ?_
        refine Ex.iconst (pc := 29) (v := 1) dX10_strokes_29 rfl ?_
        refine Ex.iconst (pc := 30) (v := 0) dX10_strokes_30 rfl ?_
        refine Ex.callV (pc := 31) (As := [.int 1, .int 0]) (rest := []) dX10_strokes_31 cX10_405 (tm_copies (to := 1) (fr := 0) (by decide) (by decide) (by decide) hnb hns hX hK) (sh36 _) rfl rfl (by decide) (Nat.le_refl _) (Nat.le_refl _) (Nat.le_of_ble_eq_true rfl) (Or.inl (fun r S' h => by obtain ⟨_, _, h, _⟩ := h; subst h; rfl)) (fun r S' hq _ _ => ?_)
        obtain ⟨I1, rfl, rfl, hS1, hF1, hX1, hK1⟩ := hq
        have hP1 : RefP I1 bk nb ns nh p f5 f6 := hP.sm hS1 (by decide)
        refine Ex.aload_n (pc := 34) dX10_strokes_34 rfl rfl ?_
        refine Ex.iconst (pc := 35) (v := 1) dX10_strokes_35 rfl ?_
        refine Ex.iload_n (pc := 36) dX10_strokes_36 rfl rfl ?_
        refine Ex.iload_n (pc := 37) dX10_strokes_37 rfl rfl ?_
        refine Ex.iload_n (pc := 38) dX10_strokes_38 rfl rfl ?_
        refine Ex.callV (pc := 39) (As := [.int 1, .int _, .int _, .int _]) (rest := []) dX10_strokes_39 cX10_441 (tm_rubs (n := n) hP1 hX1 (by decide) hb hs (by omega) (hG.1.1 b) (hG.1.2 s)) (sh36 _) rfl rfl (by decide) (Nat.le_refl _) (Nat.le_refl _) (Nat.le_of_ble_eq_true rfl) (Or.inl (fun r S' h => by obtain ⟨_, _, h, _⟩ := h; subst h; rfl)) (fun r S' hq _ _ => ?_)
        obtain ⟨I2, L2, rfl, rfl, hS2, hSL2, e65, e66⟩ := hq
        have hF2 : SlF 1 I1 I2 := SlF.set hS2 (by decide) (by omega) (by omega) e65 e66
        refine Ex.pop (pc := 42) dX10_strokes_42 rfl ?_
        refine Ex.aload_n (pc := 43) dX10_strokes_43 rfl rfl ?_
        refine Ex.getR (pc := 44) dX10_strokes_44 fX10_162 (sh36 _) r36_49 ?_
        refine Ex.bipush (pc := 47) (v := 6) dX10_strokes_47 rfl ?_
        refine Ex.iload_n (pc := 49) dX10_strokes_49 rfl rfl ?_
        refine Ex.iadd (pc := 50) dX10_strokes_50 ?_
        refine Ex.iald (pc := 51) (j := 6 + s) dX10_strokes_51 (sh66 _) (ixA (x := 6) (a := 6) (j := s) rfl (by omega) (by decide)).1 (ixA2 (x := 6) (a := 6) (j := s) rfl (by omega)) ?_
        refine Ex.iret (pc := 52) rfl rfl rfl dX10_strokes_52 (Nat.le_refl _) (Nat.le_refl _) ?_
        refine ⟨_, _, rfl, ?_, QF.cp hS1 hF1 hS2 hF2, hSL2⟩
        rw [e66, show 6 + s = 6 * 1 + s by omega, upd_s, bI_1 c5, bI_1 c13, if_neg (show ¬ (true && true) = false by decide), if_neg hnn.1, if_pos (Int32.not_lt.mp hnn.2), nI_clamp (by omega), nI_clamp (by omega), nI_clamp (by omega)]
      · skip
        refine Ex.iconst (pc := 26) (v := (-1)) dX10_strokes_26 rfl ?_
        refine Ex.iret (pc := 27) rfl rfl rfl dX10_strokes_27 (Nat.le_refl _) (Nat.le_refl _) ?_
        refine ⟨_, _, rfl, ?_, QF.rf, SmL.rf⟩
        have hn := of_decide_eq_false (bI_0 c23)
        rw [bI_1 c5, bI_1 c13, if_neg (show ¬ (true && true) = false by decide)]
        by_cases hn0 : n < 0
        · rw [if_pos hn0]
        · rw [if_neg hn0, if_neg (fun q => hn ⟨hn0, Int32.not_lt.mpr q⟩)]
set_option maxRecDepth 20000 in
theorem tm_brings {N : Nat} {I : aI} {L : aL} {p : aP} {bk nb ns nh b s : Nat} {f5 f6 : Nat → Int32} {x : aX} (hP : RefP I bk nb ns nh p f5 f6) (hX : XR I 1 nb ns x) (hx : XB x) (hb : b < nb) (hs : s < ns) : Run 5 0 0 mX10_brings [.ref 36, .int (nI b), .int (nI s)] (St N I L) (RX N (fun o I2 L2 => o = some (.int (if (rubX p f5 f6 x b s 99).2.1 = 0 then (rubX p f5 f6 x b s 99).2.2.1 else -1)) ∧ Sm [65, 66, 71] I I2 ∧ SmL [70] L L2 ∧ I2 65 = upd (I 65) (5 * 1 + b) (rubX p f5 f6 x b s 99).1 ∧ I2 66 = upd (I 66) (6 * 1 + s) (rubX p f5 f6 x b s 99).2.1)) := by
  refine Run.of (ls := [some (.ref 36), some (.int _), some (.int _), none]) (by decide) (Nat.le_of_ble_eq_true rfl) rfl ?_
  obtain ⟨⟨h1, h2, hnb, hns, hnh, hcb, hcs, hch⟩, -⟩ := id hP
  refine Ex.aload_n (pc := 0) dX10_brings_0 rfl rfl ?_
  refine Ex.iconst (pc := 1) (v := 1) dX10_brings_1 rfl ?_
  refine Ex.iload_n (pc := 2) dX10_brings_2 rfl rfl ?_
  refine Ex.iload_n (pc := 3) dX10_brings_3 rfl rfl ?_
  refine Ex.bipush (pc := 4) (v := 99) dX10_brings_4 rfl ?_
  refine Ex.callV (pc := 6) (As := [.int 1, .int _, .int _, .int 99]) (rest := []) dX10_brings_6 cX10_441 (tm_rubs (n := 99) hP hX (by decide) hb hs (by decide) (hx.1 b) (hx.2 s)) (sh36 _) rfl rfl (by decide) (Nat.le_refl _) (Nat.le_refl _) (Nat.le_of_ble_eq_true rfl) (Or.inl (fun r S' h => by obtain ⟨_, _, h, _⟩ := h; subst h; rfl)) (fun r S' hq _ _ => ?_)
  obtain ⟨I2, L2, rfl, rfl, hS2, hSL2, e65, e66⟩ := hq
  refine Ex.istore_n (pc := 9) (ls' := [some (.ref 36), some (.int _), some (.int _), some (.int _)]) dX10_brings_9 rfl (by decide) rfl rfl ?_
  refine Ex.aload_n (pc := 10) dX10_brings_10 rfl rfl ?_
  refine Ex.getR (pc := 11) dX10_brings_11 fX10_162 (sh36 _) r36_49 ?_
  refine Ex.bipush (pc := 14) (v := 6) dX10_brings_14 rfl ?_
  refine Ex.iload_n (pc := 16) dX10_brings_16 rfl rfl ?_
  refine Ex.iadd (pc := 17) dX10_brings_17 ?_
  refine Ex.iald (pc := 18) (j := 6 + s) dX10_brings_18 (sh66 _) (ixA (x := 6) (a := 6) (j := s) rfl (by omega) (by decide)).1 (ixA2 (x := 6) (a := 6) (j := s) rfl (by omega)) ?_
  rw [e66, show 6 + s = 6 * 1 + s by omega, upd_s]
  refine Ex.if_ne (pc := 19) (tgt := 26) dX10_brings_19 (by decide) (fun c19 => ?_) (fun c19 => ?_)
  · skip
    refine Ex.iconst (pc := 26) (v := (-1)) dX10_brings_26 rfl ?_
    refine Ex.iret (pc := 27) rfl rfl rfl dX10_brings_27 (Nat.le_refl _) (Nat.le_refl _) ?_
    refine ⟨_, _, rfl, ?_, hS2, hSL2, e65, e66⟩
    simp [c19]
  · skip
    refine Ex.iload_n (pc := 22) dX10_brings_22 rfl rfl ?_
    refine Ex.goto (pc := 23) (tgt := 27) dX10_brings_23 (by decide) ?_
    refine Ex.iret (pc := 27) rfl rfl rfl dX10_brings_27 (Nat.le_refl _) (Nat.le_refl _) ?_
    refine ⟨_, _, rfl, ?_, hS2, hSL2, e65, e66⟩
    simp [c19]
set_option maxRecDepth 20000 in
theorem tm_needs {N : Nat} {I : aI} {L : aL} {p : aP} {bk nb ns nh : Nat} {f5 f6 : Nat → Int32} {x : aX} {rs : List aRow} (hR : RS I bk nb ns nh p f5 f6 x rs) {b s : Nat} (hb : b < nb) (hs : s < ns) : Run 6 0 0 mX10_needs [.ref 36, .int (nI b), .int (nI s)] (St N I L) (RX N (fun o I2 L2 => o = some (.int (if (rubX p f5 f6 x b s 99).2.1 = 0 then (rubX p f5 f6 x b s 99).2.2.1 else -1)) ∧ QF I I2 ∧ SmL [70] L L2 ∧ I2 65 (5 + b) = (rubX p f5 f6 x b s 99).1)) := by
  refine Run.of (ls := [some (.ref 36), some (.int _), some (.int _)]) (by decide) (Nat.le_of_ble_eq_true rfl) rfl ?_
  obtain ⟨hP, hX, hK, hG, hrb⟩ := id hR
  obtain ⟨⟨h1, h2, hnb, hns, hnh, hcb, hcs, hch⟩, -⟩ := id hP
  refine Ex.aload_n (pc := 0) dX10_needs_0 rfl rfl ?_
  refine Ex.iconst (pc := 1) (v := 1) dX10_needs_1 rfl ?_
  refine Ex.iconst (pc := 2) (v := 0) dX10_needs_2 rfl ?_
  refine Ex.callV (pc := 3) (As := [.int 1, .int 0]) (rest := []) dX10_needs_3 cX10_405 (tm_copies (to := 1) (fr := 0) (by decide) (by decide) (by decide) hnb hns hX hK) (sh36 _) rfl rfl (by decide) (Nat.le_refl _) (Nat.le_refl _) (Nat.le_of_ble_eq_true rfl) (Or.inl (fun r S' h => by obtain ⟨_, _, h, _⟩ := h; subst h; rfl)) (fun r S' hq _ _ => ?_)
  obtain ⟨I1, rfl, rfl, hS1, hF1, hX1, hK1⟩ := hq
  have hP1 : RefP I1 bk nb ns nh p f5 f6 := hP.sm hS1 (by decide)
  refine Ex.aload_n (pc := 6) dX10_needs_6 rfl rfl ?_
  refine Ex.iload_n (pc := 7) dX10_needs_7 rfl rfl ?_
  refine Ex.iload_n (pc := 8) dX10_needs_8 rfl rfl ?_
  refine Ex.callV (pc := 9) (As := [.int _, .int _]) (rest := []) dX10_needs_9 cX10_476 (tm_brings hP1 hX1 hG.1 hb hs) (sh36 _) rfl rfl (by decide) (Nat.le_refl _) (Nat.le_refl _) (Nat.le_of_ble_eq_true rfl) (Or.inl (fun r S' h => by obtain ⟨_, _, h, _⟩ := h; subst h; rfl)) (fun r S' hq _ _ => ?_)
  obtain ⟨I2, L2, rfl, rfl, hS2, hSL2, e65, e66⟩ := hq
  have hF2 : SlF 1 I1 I2 := SlF.set hS2 (by decide) (by omega) (by omega) e65 e66
  refine Ex.iret (pc := 12) rfl rfl rfl dX10_needs_12 (Nat.le_refl _) (Nat.le_refl _) ?_
  exact ⟨_, _, rfl, rfl, QF.cp hS1 hF1 hS2 hF2, hSL2, by rw [e65, show 5 + b = 5 * 1 + b by omega, upd_s]⟩
set_option maxRecDepth 20000 in
theorem tm_needed {N : Nat} {I : aI} {L : aL} {p : aP} {bk nb ns nh : Nat} {f5 f6 : Nat → Int32} {x : aX} {rs : List aRow} (hR : RS I bk nb ns nh p f5 f6 x rs) {w v n : Int32} : Run 7 0 0 mX10_needed [.ref 36, .int w, .int v, .int n] (St N I L) (RX N (fun o I2 L2 => o = some (.int (if (inR w nb && inR v ns) = false then -1 else if n < 0 then -1 else if 1 < n then -1 else if ¬ (rubX p f5 f6 x w.toNatClampNeg v.toNatClampNeg 99).2.1 = 0 then -1 else if n = 0 then (rubX p f5 f6 x w.toNatClampNeg v.toNatClampNeg 99).2.2.1 else if (rubX p f5 f6 x w.toNatClampNeg v.toNatClampNeg 99).1 ≤ 0 then 0 else 1)) ∧ QF I I2 ∧ SmL [70] L L2)) := by
  refine Run.of (ls := [some (.ref 36), some (.int _), some (.int _), some (.int _), none]) (by decide) (Nat.le_of_ble_eq_true rfl) rfl ?_
  obtain ⟨hP, hX, hK, hG, hrb⟩ := id hR
  obtain ⟨⟨h1, h2, hnb, hns, hnh, hcb, hcs, hch⟩, -⟩ := id hP
  refine Ex.aload_n (pc := 0) dX10_needed_0 rfl rfl ?_
  refine Ex.iload_n (pc := 1) dX10_needed_1 rfl rfl ?_
  refine Ex.callV (pc := 2) (As := [.int _]) (rest := []) dX10_needed_2 cX10_470 (tm_isBoard hP.1) (sh36 _) rfl rfl (by decide) (Nat.le_refl _) (Nat.le_refl _) (Nat.le_of_ble_eq_true rfl) (Or.inl (fun r S' h => by obtain ⟨_, h⟩ := h; subst h; rfl)) (fun r S' hq _ _ => ?_)
  obtain ⟨rfl, rfl⟩ := hq
  refine Ex.if_eq (pc := 5) (tgt := 25) dX10_needed_5 (by decide) (fun c5 => ?_) (fun c5 => ?_)
  · skip
    refine Ex.iconst (pc := 25) (v := (-1)) dX10_needed_25 rfl ?_
    refine Ex.iret (pc := 26) rfl rfl rfl dX10_needed_26 (Nat.le_refl _) (Nat.le_refl _) ?_
    refine ⟨_, _, rfl, ?_, QF.rf, SmL.rf⟩
    rw [bI_0 c5]
    rfl
  · skip
    refine Ex.aload_n (pc := 8) dX10_needed_8 rfl rfl ?_
    refine Ex.iload_n (pc := 9) dX10_needed_9 rfl rfl ?_
    refine Ex.callV (pc := 10) (As := [.int _]) (rest := []) dX10_needed_10 cX10_473 (tm_isStain hP.1) (sh36 _) rfl rfl (by decide) (Nat.le_refl _) (Nat.le_refl _) (Nat.le_of_ble_eq_true rfl) (Or.inl (fun r S' h => by obtain ⟨_, h⟩ := h; subst h; rfl)) (fun r S' hq _ _ => ?_)
    obtain ⟨rfl, rfl⟩ := hq
    refine Ex.if_eq (pc := 13) (tgt := 25) dX10_needed_13 (by decide) (fun c13 => ?_) (fun c13 => ?_)
    · skip
      refine Ex.iconst (pc := 25) (v := (-1)) dX10_needed_25 rfl ?_
      refine Ex.iret (pc := 26) rfl rfl rfl dX10_needed_26 (Nat.le_refl _) (Nat.le_refl _) ?_
      refine ⟨_, _, rfl, ?_, QF.rf, SmL.rf⟩
      rw [bI_0 c13, Bool.and_false]
      rfl
    · skip
      refine Ex.iload_n (pc := 16) dX10_needed_16 rfl rfl ?_
      refine Ex.iconst (pc := 17) (v := 0) dX10_needed_17 rfl ?_
      refine Ex.iconst (pc := 18) (v := 1) dX10_needed_18 rfl ?_
      refine Ex.callS (pc := 19) (As := [.int _, .int 0, .int 1]) (rest := []) dX10_needed_19 cX10_312 tm_is rfl rfl (by decide) (Nat.le_refl _) (Nat.le_refl _) (Nat.le_of_ble_eq_true rfl) (Or.inl (fun r S' h => by obtain ⟨_, h⟩ := h; subst h; rfl)) (fun r S' hq _ _ => ?_)
      obtain ⟨rfl, rfl⟩ := hq
      refine Ex.if_ne (pc := 22) (tgt := 27) dX10_needed_22 (by decide) (fun c22 => ?_) (fun c22 => ?_)
      · skip
        obtain ⟨b, hb, rfl⟩ := inR_of (bI_1 c5) (by omega)
        obtain ⟨s, hs, rfl⟩ := inR_of (bI_1 c13) (by omega)
        have hnn := of_decide_eq_true (bI_1 c22)
        refine Ex.aload_n (pc := 27) dX10_needed_27 rfl rfl ?_
        refine Ex.iload_n (pc := 28) dX10_needed_28 rfl rfl ?_
        refine Ex.iload_n (pc := 29) dX10_needed_29 rfl rfl ?_
        refine Ex.callV (pc := 30) (As := [.int _, .int _]) (rest := []) dX10_needed_30 cX10_479 (tm_needs hR hb hs) (sh36 _) rfl rfl (by decide) (Nat.le_refl _) (Nat.le_refl _) (Nat.le_of_ble_eq_true rfl) (Or.inl (fun r S' h => by obtain ⟨_, _, h, _⟩ := h; subst h; rfl)) (fun r S' hq _ _ => ?_)
        obtain ⟨I2, L2, rfl, rfl, hQ2, hSL2, e65⟩ := hq
        refine Ex.istore (pc := 33) (ls' := [some (.ref 36), some (.int _), some (.int _), some (.int _), some (.int _)]) dX10_needed_33 (by decide) rfl rfl ?_
        refine Ex.iload (pc := 35) dX10_needed_35 rfl ?_
        refine Ex.iconst (pc := 37) (v := (-1)) dX10_needed_37 rfl ?_
        refine Ex.icmp_eq (pc := 38) (tgt := 45) dX10_needed_38 (by decide) (fun c38 => ?_) (fun c38 => ?_)
        · skip
          refine Ex.iload (pc := 45) dX10_needed_45 rfl ?_
          refine Ex.goto (pc := 47) (tgt := 66) dX10_needed_47 (by decide) ?_
          refine Ex.iret (pc := 66) rfl rfl rfl dX10_needed_66 (Nat.le_refl _) (Nat.le_refl _) ?_
          refine ⟨_, _, rfl, ?_, hQ2, hSL2⟩
          rw [bI_1 c5, bI_1 c13, if_neg (show ¬ (true && true) = false by decide), if_neg hnn.1, if_neg hnn.2, nI_clamp (by omega), nI_clamp (by omega)]
          obtain ⟨m, hm, em⟩ := rubX_cnt p f5 f6 x b s 99
          have hm1 : ¬ nI m = -1 := fun e => absurd (show nI m < 0 from by rw [e]; decide) (nI_pos (by omega))
          refine congrArg (fun z => some (Value.int z)) ?_
          by_cases hd : (rubX p f5 f6 x b s 99).2.1 = 0
          · rw [if_neg (show ¬ ¬ (rubX p f5 f6 x b s 99).2.1 = 0 from fun q => q hd)]; rw [if_pos hd, em] at c38; exact absurd c38 hm1
          · rw [if_pos hd]; rw [if_neg hd]
        · skip
          refine Ex.iload_n (pc := 41) dX10_needed_41 rfl rfl ?_
          refine Ex.if_ne (pc := 42) (tgt := 50) dX10_needed_42 (by decide) (fun c42 => ?_) (fun c42 => ?_)
          · skip
            refine Ex.aload_n (pc := 50) dX10_needed_50 rfl rfl ?_
            refine Ex.getR (pc := 51) dX10_needed_51 fX10_159 (sh36 _) r36_48 ?_
            refine Ex.iconst (pc := 54) (v := 5) dX10_needed_54 rfl ?_
            refine Ex.iload_n (pc := 55) dX10_needed_55 rfl rfl ?_
            refine Ex.iadd (pc := 56) dX10_needed_56 ?_
            refine Ex.iald (pc := 57) (j := 5 + b) dX10_needed_57 (sh65 _) (ixA (x := 5) (a := 5) (j := b) rfl (by omega) (by decide)).1 (ixA2 (x := 5) (a := 5) (j := b) rfl (by omega)) ?_
            refine Ex.if_le (pc := 58) (tgt := 65) dX10_needed_58 (by decide) (fun c58 => ?_) (fun c58 => ?_)
            · skip
              refine Ex.iconst (pc := 65) (v := 0) dX10_needed_65 rfl ?_
              refine Ex.iret (pc := 66) rfl rfl rfl dX10_needed_66 (Nat.le_refl _) (Nat.le_refl _) ?_
              rw [e65] at c58
              refine ⟨_, _, rfl, ?_, hQ2, hSL2⟩
              rw [bI_1 c5, bI_1 c13, if_neg (show ¬ (true && true) = false by decide), if_neg hnn.1, if_neg hnn.2, nI_clamp (by omega), nI_clamp (by omega)]
              obtain ⟨m, hm, em⟩ := rubX_cnt p f5 f6 x b s 99
              have hm1 : ¬ nI m = -1 := fun e => absurd (show nI m < 0 from by rw [e]; decide) (nI_pos (by omega))
              refine congrArg (fun z => some (Value.int z)) ?_
              by_cases hd : (rubX p f5 f6 x b s 99).2.1 = 0
              · rw [if_neg (show ¬ ¬ (rubX p f5 f6 x b s 99).2.1 = 0 from fun q => q hd)]; rw [if_neg c42]; simp [*]
              · rw [if_pos hd]; rw [if_neg hd] at c38; exact absurd rfl c38
            · skip
              refine Ex.iconst (pc := 61) (v := 1) dX10_needed_61 rfl ?_
              refine Ex.goto (pc := 62) (tgt := 66) dX10_needed_62 (by decide) ?_
              refine Ex.iret (pc := 66) rfl rfl rfl dX10_needed_66 (Nat.le_refl _) (Nat.le_refl _) ?_
              rw [e65] at c58
              refine ⟨_, _, rfl, ?_, hQ2, hSL2⟩
              rw [bI_1 c5, bI_1 c13, if_neg (show ¬ (true && true) = false by decide), if_neg hnn.1, if_neg hnn.2, nI_clamp (by omega), nI_clamp (by omega)]
              obtain ⟨m, hm, em⟩ := rubX_cnt p f5 f6 x b s 99
              have hm1 : ¬ nI m = -1 := fun e => absurd (show nI m < 0 from by rw [e]; decide) (nI_pos (by omega))
              refine congrArg (fun z => some (Value.int z)) ?_
              by_cases hd : (rubX p f5 f6 x b s 99).2.1 = 0
              · rw [if_neg (show ¬ ¬ (rubX p f5 f6 x b s 99).2.1 = 0 from fun q => q hd)]; rw [if_neg c42]; simp [*]
              · rw [if_pos hd]; rw [if_neg hd] at c38; exact absurd rfl c38
          · skip
            refine Ex.iload (pc := 45) dX10_needed_45 rfl ?_
            refine Ex.goto (pc := 47) (tgt := 66) dX10_needed_47 (by decide) ?_
            refine Ex.iret (pc := 66) rfl rfl rfl dX10_needed_66 (Nat.le_refl _) (Nat.le_refl _) ?_
            refine ⟨_, _, rfl, ?_, hQ2, hSL2⟩
            rw [bI_1 c5, bI_1 c13, if_neg (show ¬ (true && true) = false by decide), if_neg hnn.1, if_neg hnn.2, nI_clamp (by omega), nI_clamp (by omega)]
            obtain ⟨m, hm, em⟩ := rubX_cnt p f5 f6 x b s 99
            have hm1 : ¬ nI m = -1 := fun e => absurd (show nI m < 0 from by rw [e]; decide) (nI_pos (by omega))
            refine congrArg (fun z => some (Value.int z)) ?_
            by_cases hd : (rubX p f5 f6 x b s 99).2.1 = 0
            · rw [if_neg (show ¬ ¬ (rubX p f5 f6 x b s 99).2.1 = 0 from fun q => q hd)]; rw [if_pos c42, if_pos hd]
            · rw [if_pos hd]; rw [if_neg hd] at c38; exact absurd rfl c38
      · skip
        refine Ex.iconst (pc := 25) (v := (-1)) dX10_needed_25 rfl ?_
        refine Ex.iret (pc := 26) rfl rfl rfl dX10_needed_26 (Nat.le_refl _) (Nat.le_refl _) ?_
        refine ⟨_, _, rfl, ?_, QF.rf, SmL.rf⟩
        have hn := of_decide_eq_false (bI_0 c22)
        rw [bI_1 c5, bI_1 c13, if_neg (show ¬ (true && true) = false by decide)]
        by_cases hn0 : n < 0
        · rw [if_pos hn0]
        · rw [if_neg hn0, if_pos (Int32.not_le.mp (fun q => hn ⟨hn0, Int32.not_lt.mpr q⟩))]
set_option maxRecDepth 20000 in
theorem tm_best {N : Nat} {I : aI} {L : aL} {p : aP} {bk nb ns nh : Nat} {f5 f6 : Nat → Int32} {x : aX} {rs : List aRow} (hR : RS I bk nb ns nh p f5 f6 x rs) {w : Int32} : Run 8 0 0 mX10_best [.ref 36, .int w] (St N I L) (RX N (fun o I2 L2 => o = some (.int (if inR w ns = false then -1 else (bsF (fun k => rubX p f5 f6 x k w.toNatClampNeg 99) nb).1)) ∧ QF I I2 ∧ SmL [70] L L2)) := by
  refine Run.of (ls := [some (.ref 36), some (.int _), none, none, none, none]) (by decide) (Nat.le_of_ble_eq_true rfl) rfl ?_
  obtain ⟨hP, hX, hK, hG, hrb⟩ := id hR
  obtain ⟨⟨h1, h2, hnb, hns, hnh, hcb, hcs, hch⟩, -⟩ := id hP
  have bs100 : ∀ s k, (bsF (fun k => rubX p f5 f6 x k s 99) k = (-1, 100)) ∨ ∃ m, m ≤ 99 ∧ (bsF (fun k => rubX p f5 f6 x k s 99) k).2 = nI m := by
    intro s k
    induction k with
    | zero => exact Or.inl rfl
    | succ k ih =>
      simp only [bsF]
      split
      · exact ih
      · split
        · exact ih
        · exact Or.inr (rubX_cnt p f5 f6 x k s 99)
  cases hw : inR w ns with
  | false =>
    refine Ex.aload_n (pc := 0) dX10_best_0 rfl rfl ?_
    refine Ex.iload_n (pc := 1) dX10_best_1 rfl rfl ?_
    refine Ex.callV (pc := 2) (As := [.int _]) (rest := []) dX10_best_2 cX10_473 (tm_isStain hP.1) (sh36 _) rfl rfl (by decide) (Nat.le_refl _) (Nat.le_refl _) (Nat.le_of_ble_eq_true rfl) (Or.inl (fun r S' h => by obtain ⟨_, h⟩ := h; subst h; rfl)) (fun r S' hq _ _ => ?_)
    obtain ⟨rfl, rfl⟩ := hq
    refine Ex.if_ne (pc := 5) (tgt := 10) dX10_best_5 (by decide) (fun c5 => absurd (by rw [hw]; rfl) c5) (fun _ => ?_)
    refine Ex.iconst (pc := 8) (v := (-1)) dX10_best_8 rfl ?_
    refine Ex.iret (pc := 9) rfl rfl rfl dX10_best_9 (Nat.le_refl _) (Nat.le_refl _) ?_
    exact ⟨_, _, rfl, rfl, QF.rf, SmL.rf⟩
  | true =>
    obtain ⟨s, hs, rfl⟩ := inR_of hw (by omega)
    obtain ⟨lf, hlf⟩ : ∃ lf : Int32 → Int32, lf = fun z => if z = 100 then 100000000 else z := ⟨_, rfl⟩
    refine Ex.aload_n (pc := 0) dX10_best_0 rfl rfl ?_
    refine Ex.iload_n (pc := 1) dX10_best_1 rfl rfl ?_
    refine Ex.callV (pc := 2) (As := [.int _]) (rest := []) dX10_best_2 cX10_473 (tm_isStain hP.1) (sh36 _) rfl rfl (by decide) (Nat.le_refl _) (Nat.le_refl _) (Nat.le_of_ble_eq_true rfl) (Or.inl (fun r S' h => by obtain ⟨_, h⟩ := h; subst h; rfl)) (fun r S' hq _ _ => ?_)
    obtain ⟨rfl, rfl⟩ := hq
    refine Ex.if_ne (pc := 5) (tgt := 10) dX10_best_5 (by decide) (fun _ => ?_) (fun c5 => absurd c5 (by rw [hw]; decide))
    refine Ex.iconst (pc := 10) (v := (-1)) dX10_best_10 rfl ?_
    refine Ex.istore_n (pc := 11) (ls' := [some (.ref 36), some (.int _), some (.int (-1)), none, none, none]) dX10_best_11 rfl (by decide) rfl rfl ?_
    refine Ex.ldcw (pc := 12) dX10_best_12 kv_X10_482 ?_
    refine Ex.istore_n (pc := 15) (ls' := [some (.ref 36), some (.int _), some (.int (-1)), some (.int _), none, none]) dX10_best_15 rfl (by decide) rfl rfl ?_
    refine Ex.iconst (pc := 16) (v := 0) dX10_best_16 rfl ?_
    refine Ex.istore (pc := 17) (ls' := [some (.ref 36), some (.int _), some (.int (-1)), some (.int _), some (.int 0), none]) dX10_best_17 (by decide) rfl rfl ?_
    rw [if_neg (show ¬ true = false by decide), nI_clamp (by omega)]
    rw [show (100000000 : Int32) = lf (bsF (fun k => rubX p f5 f6 x k s 99) 0).2 from by rw [hlf]; rfl]
    refine forUp (σ := aI × aL) (P := fun k q => Ex 8 0 0 mX10_best 0 0 19 [some (.ref 36), some (.int (nI s)), some (.int (bsF (fun k => rubX p f5 f6 x k s 99) k).1), some (.int (lf (bsF (fun k => rubX p f5 f6 x k s 99) k).2)), some (.int (nI k)), none] [] (St N q.1 q.2) _) (Inv := fun k q => QF I q.1 ∧ SmL [70] L q.2) nb ?_ ?_ 0 (I, L) (Nat.zero_le _) ⟨QF.rf, SmL.rf⟩
    · rintro ⟨I2, L2⟩ ⟨hQ, hSL⟩
      dsimp only at *
      have hR2 := hR.q hQ
      refine Ex.iload (pc := 19) dX10_best_19 rfl ?_
      refine Ex.aload_n (pc := 21) dX10_best_21 rfl rfl ?_
      refine Ex.getR (pc := 22) dX10_best_22 fX10_54 (sh36 _) r36_14 ?_
      refine Ex.aload_n (pc := 25) dX10_best_25 rfl rfl ?_
      refine Ex.getI (pc := 26) dX10_best_26 fX10_51 (sh36 _) ?_
      refine Ex.iald (pc := 29) (j := bk) dX10_best_29 (sh38 _) (ixX hR2.1.1.2.1 h1 (by decide)) (ixX2 hR2.1.1.2.1 (by omega)) ?_
      rw [hR2.1.1.2.2.2.2.2.1]
      refine Ex.icmp_ge (pc := 30) (tgt := 69) dX10_best_30 (by decide) (fun _ => ?_) (fun c30 => absurd (nI_le (Nat.le_refl _) (by omega)) c30)
      refine Ex.iload_n (pc := 69) dX10_best_69 rfl rfl ?_
      refine Ex.iret (pc := 70) rfl rfl rfl dX10_best_70 (Nat.le_refl _) (Nat.le_refl _) ?_
      exact ⟨_, _, rfl, rfl, hQ, hSL⟩
    · rintro k ⟨I2, L2⟩ hk ⟨hQ, hSL⟩ ih
      dsimp only at *
      have hR2 := hR.q hQ
      obtain ⟨m, hm, em⟩ := rubX_cnt p f5 f6 x k s 99
      have hst : bsF (fun k => rubX p f5 f6 x k s 99) (k + 1) = (if ¬ (rubX p f5 f6 x k s 99).2.1 = 0 then bsF (fun k => rubX p f5 f6 x k s 99) k else if (bsF (fun k => rubX p f5 f6 x k s 99) k).2 ≤ nI m then bsF (fun k => rubX p f5 f6 x k s 99) k else (nI k, nI m)) := by simp only [bsF, em]
      have h100 := bs100 s k
      have hm1 : ¬ nI m = -1 := fun e => absurd (show nI m < 0 from by rw [e]; decide) (nI_pos (by omega))
      have hlm : lf (nI m) = nI m := by rw [hlf]; exact if_neg (fun e => absurd ((nI_eq (by omega) (by decide)).mp (show nI m = nI 100 from e)) (by omega))
      have hcmp : nI m < lf (bsF (fun k => rubX p f5 f6 x k s 99) k).2 ↔ ¬ (bsF (fun k => rubX p f5 f6 x k s 99) k).2 ≤ nI m := by
        rcases h100 with e | ⟨q, hq, e⟩
        · rw [e, hlf]
          show nI m < (100000000 : Int32) ↔ ¬ (100 : Int32) ≤ nI m
          exact ⟨fun _ => nI_ge (b := 100) (by omega) (by decide), fun _ => nI_lt (b := 100000000) (by omega) (by decide)⟩
        · rw [e, show lf (nI q) = nI q from by rw [hlf]; exact if_neg (fun e => absurd ((nI_eq (by omega) (by decide)).mp (show nI q = nI 100 from e)) (by omega))]
          exact Int32.not_le.symm
      generalize bsF (fun k => rubX p f5 f6 x k s 99) k = y at *
      refine Ex.iload (pc := 19) dX10_best_19 rfl ?_
      refine Ex.aload_n (pc := 21) dX10_best_21 rfl rfl ?_
      refine Ex.getR (pc := 22) dX10_best_22 fX10_54 (sh36 _) r36_14 ?_
      refine Ex.aload_n (pc := 25) dX10_best_25 rfl rfl ?_
      refine Ex.getI (pc := 26) dX10_best_26 fX10_51 (sh36 _) ?_
      refine Ex.iald (pc := 29) (j := bk) dX10_best_29 (sh38 _) (ixX hR2.1.1.2.1 h1 (by decide)) (ixX2 hR2.1.1.2.1 (by omega)) ?_
      rw [hR2.1.1.2.2.2.2.2.1]
      refine Ex.icmp_ge (pc := 30) (tgt := 69) dX10_best_30 (by decide) (fun c30 => absurd c30 (nI_ge hk (by omega))) (fun _ => ?_)
      refine Ex.aload_n (pc := 33) dX10_best_33 rfl rfl ?_
      refine Ex.iload (pc := 34) dX10_best_34 rfl ?_
      refine Ex.iload_n (pc := 36) dX10_best_36 rfl rfl ?_
      refine Ex.callV (pc := 37) (As := [.int _, .int _]) (rest := []) dX10_best_37 cX10_479 (tm_needs hR2 hk hs) (sh36 _) rfl rfl (by decide) (Nat.le_refl _) (Nat.le_refl _) (Nat.le_of_ble_eq_true rfl) (Or.inl (fun r S' h => by obtain ⟨_, _, h, _⟩ := h; subst h; rfl)) (fun r S' hq _ _ => ?_)
      obtain ⟨I3, L3, rfl, rfl, hQ3, hSL3, -⟩ := hq
      refine Ex.istore (pc := 40) (ls' := [some (.ref 36), some (.int _), some (.int _), some (.int _), some (.int _), some (.int _)]) dX10_best_40 (by decide) rfl rfl ?_
      refine Ex.iload (pc := 42) dX10_best_42 rfl ?_
      refine Ex.iconst (pc := 44) (v := (-1)) dX10_best_44 rfl ?_
      refine Ex.icmp_eq (pc := 45) (tgt := 63) dX10_best_45 (by decide) (fun c45 => ?_) (fun c45 => ?_)
      · skip
        refine Ex.iinc (pc := 63) (ls' := [some (.ref 36), some (.int _), some (.int _), some (.int _), some (.int _), some (.int _)]) dX10_best_63 rfl rfl (by decide) rfl rfl ?_
        refine Ex.goto (pc := 66) (tgt := 19) dX10_best_66 (by decide) ?_
        have hd : ¬ (rubX p f5 f6 x k s 99).2.1 = 0 := fun q => by rw [if_pos q, em] at c45; exact hm1 c45
        rw [if_pos hd] at hst
        rw [hst] at ih
        rw [show nI k + Int32.ofInt 1 = nI (k + 1) from nI_1 k]
        refine Ex.le (ls' := [some (.ref 36), some (.int (nI s)), some (.int y.1), some (.int (lf y.2)), some (.int (nI (k + 1))), none]) ⟨rfl, rfl, rfl, rfl, rfl, trivial⟩ (ih (I3, L3) ⟨hQ.tr hQ3, hSL.tr hSL3 (by decide) (by decide)⟩)
      · skip
        refine Ex.iload (pc := 48) dX10_best_48 rfl ?_
        refine Ex.iload_n (pc := 50) dX10_best_50 rfl rfl ?_
        refine Ex.icmp_lt (pc := 51) (tgt := 57) dX10_best_51 (by decide) (fun c51 => ?_) (fun c51 => ?_)
        · skip
          refine Ex.iload (pc := 57) dX10_best_57 rfl ?_
          refine Ex.istore_n (pc := 59) (ls' := [some (.ref 36), some (.int _), some (.int _), some (.int _), some (.int _), some (.int _)]) dX10_best_59 rfl (by decide) rfl rfl ?_
          refine Ex.iload (pc := 60) dX10_best_60 rfl ?_
          refine Ex.istore_n (pc := 62) (ls' := [some (.ref 36), some (.int _), some (.int _), some (.int _), some (.int _), some (.int _)]) dX10_best_62 rfl (by decide) rfl rfl ?_
          refine Ex.iinc (pc := 63) (ls' := [some (.ref 36), some (.int _), some (.int _), some (.int _), some (.int _), some (.int _)]) dX10_best_63 rfl rfl (by decide) rfl rfl ?_
          refine Ex.goto (pc := 66) (tgt := 19) dX10_best_66 (by decide) ?_
          have hd : (rubX p f5 f6 x k s 99).2.1 = 0 := Classical.byContradiction (fun q => by rw [if_neg q] at c45; exact c45 rfl)
          rw [if_pos hd, em] at c51
          rw [if_neg (show ¬ ¬ (rubX p f5 f6 x k s 99).2.1 = 0 from fun q => q hd)] at hst
          rw [show nI k + Int32.ofInt 1 = nI (k + 1) from nI_1 k]
          rw [if_neg (hcmp.mp c51)] at hst
          rw [hst] at ih
          rw [if_pos hd, em]
          refine Ex.le (ls' := [some (.ref 36), some (.int (nI s)), some (.int (nI k)), some (.int (lf (nI m))), some (.int (nI (k + 1))), none]) ⟨rfl, rfl, rfl, by rw [hlm], rfl, trivial⟩ (ih (I3, L3) ⟨hQ.tr hQ3, hSL.tr hSL3 (by decide) (by decide)⟩)
        · skip
          refine Ex.goto (pc := 54) (tgt := 63) dX10_best_54 (by decide) ?_
          refine Ex.iinc (pc := 63) (ls' := [some (.ref 36), some (.int _), some (.int _), some (.int _), some (.int _), some (.int _)]) dX10_best_63 rfl rfl (by decide) rfl rfl ?_
          refine Ex.goto (pc := 66) (tgt := 19) dX10_best_66 (by decide) ?_
          have hd : (rubX p f5 f6 x k s 99).2.1 = 0 := Classical.byContradiction (fun q => by rw [if_neg q] at c45; exact c45 rfl)
          rw [if_pos hd, em] at c51
          rw [if_neg (show ¬ ¬ (rubX p f5 f6 x k s 99).2.1 = 0 from fun q => q hd)] at hst
          rw [show nI k + Int32.ofInt 1 = nI (k + 1) from nI_1 k]
          rw [if_pos (Classical.byContradiction (fun q => c51 (hcmp.mpr q)))] at hst
          rw [hst] at ih
          refine Ex.le (ls' := [some (.ref 36), some (.int (nI s)), some (.int y.1), some (.int (lf y.2)), some (.int (nI (k + 1))), none]) ⟨rfl, rfl, rfl, rfl, rfl, trivial⟩ (ih (I3, L3) ⟨hQ.tr hQ3, hSL.tr hSL3 (by decide) (by decide)⟩)
