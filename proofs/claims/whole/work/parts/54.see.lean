theorem nI_leR {a b : Nat} (h : nI a ≤ nI b) (ha : a < 2 ^ 31) (hb : b < 2 ^ 31 := by decide) : a ≤ b := (nI_leI ha hb).mp h
/-- a question has changed the reference's trial slot alone -/
def QS (I I2 : aI) : Prop := Sm [63, 64, 65, 66, 67, 68, 69, 71] I I2 ∧ SlF 1 I I2
theorem QS.rf {I : aI} : QS I I := ⟨Sm.rf, SlF.rf⟩
theorem QS.tr {I I1 I2 : aI} (h1 : QS I I1) (h2 : QS I1 I2) : QS I I2 := ⟨h1.1.tr h2.1 (fun _ h => h) (fun _ h => h), h1.2.tr h2.2⟩
theorem QS.q {I I2 : aI} (h : QS I I2) : QF I I2 := ⟨h.1.tr Sm.rf (l2 := []) (by decide) (by decide), h.2⟩
theorem QS.cp {I I1 I2 : aI} (h1 : Sm [63, 64, 65, 66, 67, 68, 69] I I1) (h2 : SlF 1 I I1) (h3 : Sm [65, 66, 71] I1 I2) (h4 : SlF 1 I1 I2) : QS I I2 := ⟨h1.tr h3 (by decide) (by decide), h2.tr h4⟩
theorem QF.up {I I2 : aI} {a : Nat} {f : Nat → Int32} (h : QF I I2) (ha : a ∈ [72, 73, 74, 75, 79]) : QF I (va_up I2 a f) := by
  refine ⟨h.1.up (by revert ha; simp; omega), ?_⟩
  have e : ∀ c, c ∈ [63, 64, 65, 66, 67, 68, 69] → va_up I2 a f c = I2 c := fun c hc => va_up_n (by revert ha hc; simp; omega)
  obtain ⟨h1, h2, h3, h4⟩ := h.2
  refine ⟨fun j hj => ?_, fun j hj => ?_, fun j hj => ?_, fun j hj => ?_⟩
  · rw [e 63 (by decide), e 64 (by decide), e 67 (by decide), e 68 (by decide)]; exact h1 j hj
  · rw [e 65 (by decide)]; exact h2 j hj
  · rw [e 66 (by decide)]; exact h3 j hj
  · rw [e 69 (by decide)]; exact h4 j hj
set_option maxRecDepth 20000 in
theorem tm_leftBy2 {N : Nat} {I : aI} {L : aL} {p : aP} {bk nb ns nh : Nat} {f5 f6 : Nat → Int32} {x : aX} {rs : List aRow} (hR : RS I bk nb ns nh p f5 f6 x rs) {b s n : Nat} (hb : b < nb) (hs : s < ns) (hn : n < 1000) : Run 5 0 0 mX10_leftBy [.ref 36, .int (nI b), .int (nI s), .int (nI n)] (St N I L) (RX N (fun o I2 L2 => o = some (.int ((rubX p f5 f6 x b s n).2.1)) ∧ QS I I2 ∧ SmL [70] L L2)) := by
  refine Run.of (ls := [some (.ref 36), some (.int _), some (.int _), some (.int _)]) (by decide) (Nat.le_of_ble_eq_true rfl) rfl ?_
  obtain ⟨hP, hX, hK, hG, hrb⟩ := id hR
  obtain ⟨⟨h1, h2, hnb, hns, hnh, hcb, hcs, hch⟩, -⟩ := id hP
  refine Ex.aload_n (pc := 0) dX10_leftBy_0 rfl rfl ?_
  refine Ex.iconst (pc := 1) (v := 1) dX10_leftBy_1 rfl ?_
  refine Ex.iconst (pc := 2) (v := 0) dX10_leftBy_2 rfl ?_
  refine Ex.callV (pc := 3) (As := [.int 1, .int 0]) (rest := []) dX10_leftBy_3 cX10_405 (tm_copies (to := 1) (fr := 0) (by decide) (by decide) (by decide) hnb hns hX hK) (sh36 _) rfl rfl (by decide) (Nat.le_refl _) (Nat.le_refl _) (Nat.le_of_ble_eq_true rfl) (Or.inl (fun r S' h => by obtain ⟨_, _, h, _⟩ := h; subst h; rfl)) (fun r S' hq _ _ => ?_)
  obtain ⟨I1, rfl, rfl, hS1, hF1, hX1, hK1⟩ := hq
  have hP1 : RefP I1 bk nb ns nh p f5 f6 := hP.sm hS1 (by decide)
  refine Ex.aload_n (pc := 6) dX10_leftBy_6 rfl rfl ?_
  refine Ex.iconst (pc := 7) (v := 1) dX10_leftBy_7 rfl ?_
  refine Ex.iload_n (pc := 8) dX10_leftBy_8 rfl rfl ?_
  refine Ex.iload_n (pc := 9) dX10_leftBy_9 rfl rfl ?_
  refine Ex.iload_n (pc := 10) dX10_leftBy_10 rfl rfl ?_
  refine Ex.callV (pc := 11) (As := [.int 1, .int _, .int _, .int _]) (rest := []) dX10_leftBy_11 cX10_441 (tm_rubs (n := n) hP1 hX1 (by decide) hb hs hn (hG.1.1 b) (hG.1.2 s)) (sh36 _) rfl rfl (by decide) (Nat.le_refl _) (Nat.le_refl _) (Nat.le_of_ble_eq_true rfl) (Or.inl (fun r S' h => by obtain ⟨_, _, h, _⟩ := h; subst h; rfl)) (fun r S' hq _ _ => ?_)
  obtain ⟨I2, L2, rfl, rfl, hS2, hSL2, e65, e66⟩ := hq
  have hF2 : SlF 1 I1 I2 := SlF.set hS2 (by decide) (by omega) (by omega) e65 e66
  refine Ex.pop (pc := 14) dX10_leftBy_14 rfl ?_
  refine Ex.aload_n (pc := 15) dX10_leftBy_15 rfl rfl ?_
  refine Ex.getR (pc := 16) dX10_leftBy_16 fX10_162 (sh36 _) r36_49 ?_
  refine Ex.bipush (pc := 19) (v := 6) dX10_leftBy_19 rfl ?_
  refine Ex.iload_n (pc := 21) dX10_leftBy_21 rfl rfl ?_
  refine Ex.iadd (pc := 22) dX10_leftBy_22 ?_
  refine Ex.iald (pc := 23) (j := 6 + s) dX10_leftBy_23 (sh66 _) (ixA (x := 6) (a := 6) (j := s) rfl (by omega) (by decide)).1 (ixA2 (x := 6) (a := 6) (j := s) rfl (by omega)) ?_
  refine Ex.iret (pc := 24) rfl rfl rfl dX10_leftBy_24 (Nat.le_refl _) (Nat.le_refl _) ?_
  refine ⟨_, _, rfl, ?_, QS.cp hS1 hF1 hS2 hF2, hSL2⟩
  rw [e66, show 6 + s = 6 * 1 + s by omega, upd_s]
set_option maxRecDepth 20000 in
theorem tm_needs2 {N : Nat} {I : aI} {L : aL} {p : aP} {bk nb ns nh : Nat} {f5 f6 : Nat → Int32} {x : aX} {rs : List aRow} (hR : RS I bk nb ns nh p f5 f6 x rs) {b s : Nat} (hb : b < nb) (hs : s < ns) : Run 6 0 0 mX10_needs [.ref 36, .int (nI b), .int (nI s)] (St N I L) (RX N (fun o I2 L2 => o = some (.int (if (rubX p f5 f6 x b s 99).2.1 = 0 then (rubX p f5 f6 x b s 99).2.2.1 else -1)) ∧ QS I I2 ∧ SmL [70] L L2 ∧ I2 65 (5 + b) = (rubX p f5 f6 x b s 99).1)) := by
  refine Run.of (ls := [some (.ref 36), some (.int _), some (.int _)]) (by decide) (Nat.le_of_ble_eq_true rfl) rfl ?_
  obtain ⟨hP, hX, hK, hG, hrb⟩ := id hR
  obtain ⟨⟨h1, h2, hnb, hns, hnh, hcb, hcs, hch⟩, -⟩ := id hP
  refine Ex.aload_n (pc := 0) dX10_needs_0 rfl rfl ?_
  refine Ex.iconst (pc := 1) (v := 1) dX10_needs_1 rfl ?_
  refine Ex.iconst (pc := 2) (v := 0) dX10_needs_2 rfl ?_
  refine Ex.callV (pc := 3) (As := [.int 1, .int 0]) (rest := []) dX10_needs_3 cX10_405 (tm_copies (to := 1) (fr := 0) (by decide) (by decide) (by decide) hnb hns hX hK) (sh36 _) rfl rfl (by decide) (Nat.le_refl _) (Nat.le_refl _) (Nat.le_of_ble_eq_true rfl) (Or.inl (fun r S' h => by obtain ⟨_, _, h, _⟩ := h; subst h; rfl)) (fun r S' hq _ _ => ?_)
  obtain ⟨I1, rfl, rfl, hS1, hF1, hX1, hK1⟩ := hq
  have hP1 : RefP I1 bk nb ns nh p f5 f6 := hP.sm hS1 (by decide)
  refine Ex.aload_n (pc := 6) dX10_needs_6 rfl rfl ?_
  refine Ex.iload_n (pc := 7) dX10_needs_7 rfl rfl ?_
  refine Ex.iload_n (pc := 8) dX10_needs_8 rfl rfl ?_
  refine Ex.callV (pc := 9) (As := [.int _, .int _]) (rest := []) dX10_needs_9 cX10_476 (tm_brings hP1 hX1 hG.1 hb hs) (sh36 _) rfl rfl (by decide) (Nat.le_refl _) (Nat.le_refl _) (Nat.le_of_ble_eq_true rfl) (Or.inl (fun r S' h => by obtain ⟨_, _, h, _⟩ := h; subst h; rfl)) (fun r S' hq _ _ => ?_)
  obtain ⟨I2, L2, rfl, rfl, hS2, hSL2, e65, e66⟩ := hq
  have hF2 : SlF 1 I1 I2 := SlF.set hS2 (by decide) (by omega) (by omega) e65 e66
  refine Ex.iret (pc := 12) rfl rfl rfl dX10_needs_12 (Nat.le_refl _) (Nat.le_refl _) ?_
  exact ⟨_, _, rfl, rfl, QS.cp hS1 hF1 hS2 hF2, hSL2, by rw [e65, show 5 + b = 5 * 1 + b by omega, upd_s]⟩
def byt (tb : Nat → Int32) (t : Nat) : Prop := ∀ i, i < t → ∃ q, q < 256 ∧ tb i = nI q
theorem rowOk_m {tb : Nat → Int32} {nb r t : Nat} (h : byt tb t) (hr : 3 * r < t) : rowOk tb nb r = (inR (tb (3 * r)) nb && (isB (tb (3 * r + 1)) 1 40 && !decide (99 < tb (3 * r + 2)))) := by
  obtain ⟨q, hq, e⟩ := h _ hr
  unfold rowOk inR isB
  rw [e, show decide (¬ nI q < 0 ∧ ¬ nI nb ≤ nI q) = !decide (nI nb ≤ nI q) from by
    by_cases c : nI nb ≤ nI q
    · simp [c]
    · simp only [c, not_false_iff, and_true, decide_false, Bool.not_false, decide_eq_true_iff]
      exact nI_pos (by omega)]
  congr 1
  rw [← Bool.and_assoc]
  congr 1
  by_cases c : tb (3 * r + 1) < 1 <;> by_cases d : 40 < tb (3 * r + 1) <;> simp [c, d]
theorem sgF_le {tb : Nat → Int32} {nb : Nat} : ∀ a d, sgF tb nb (a + d) = true → sgF tb nb a = true
  | _, 0, h => h
  | a, d + 1, h => sgF_le a d ((Bool.and_eq_true _ _).mp (show (sgF tb nb (a + d) && rowOk tb nb (a + d)) = true from h)).1
set_option maxRecDepth 20000 in
theorem tm_see0 {N : Nat} {I : aI} {L : aL} {bk nb ns nh t : Nat} {tb : Nat → Int32} (hB : RefB I bk nb ns nh) (ht : I 36 1 = nI t) (h16 : t ≤ 1600) (htb : ∀ i, i < t → I 37 i = tb i) (hby : byt tb t) (hno : seeOk tb nb t = false) : Run 1 0 0 mX10_see [.ref 36] (St N I L) (RI (-1) (St N (refM (va_up I 36 (upd (I 36) 1 0)) 5) L)) := by
  refine Run.of (ls := [some (.ref 36), none, none, none]) (by decide) (Nat.le_of_ble_eq_true rfl) rfl ?_
  have hB1 : RefB (va_up I 36 (upd (I 36) 1 0)) bk nb ns nh := hB.sm (l := [36]) (Sm.rf.up (by decide)) (by rw [va_up_s, upd_n (by decide)]) (by decide) (by decide) (by decide)
  have htb1 : ∀ i, i < t → va_up I 36 (upd (I 36) 1 0) 37 i = tb i := fun i hi => by rw [va_up_n (by decide)]; exact htb i hi
  obtain ⟨h1, h2, hnb, hns, hnh, hcb, hcs, hch⟩ := id hB1
  generalize hI1 : va_up I 36 (upd (I 36) 1 0) = I1 at *
  have k98 : ∀ (z : aLs), z = z → Ex 1 0 0 mX10_see 0 0 98 [some (.ref 36), some (.int (nI t)), some (.int 0), none] [] (St N I1 L) (RI (-1) (St N (refM I1 5) L)) := by
    intro _ _
    refine Ex.iload_n (pc := 98) dX10_see_98 rfl rfl ?_
    refine Ex.if_ne (pc := 99) (tgt := 108) dX10_see_99 (by decide) (fun c99 => absurd rfl c99) (fun _ => ?_)
    refine Ex.aload_n (pc := 102) dX10_see_102 rfl rfl ?_
    refine Ex.iconst (pc := 103) (v := 5) dX10_see_103 rfl ?_
    refine Ex.callV (pc := 104) (As := [.int 5]) (rest := []) dX10_see_104 cX10_222 (tm_refuses (k := 5) (by decide)) (sh36 _) rfl rfl (by decide) (Nat.le_refl _) (Nat.le_refl _) (Nat.le_of_ble_eq_true rfl) (Or.inl (fun r S' h => by obtain ⟨_, h⟩ := h; subst h; rfl)) (fun r S' hq _ _ => ?_)
    obtain ⟨rfl, rfl⟩ := hq
    refine Ex.iret (pc := 107) rfl rfl rfl dX10_see_107 (Nat.le_refl _) (Nat.le_refl _) ?_
    exact ⟨rfl, rfl⟩
  have k34 : 3 ≤ t → t ≤ 48 → t % 3 = 0 → Ex 1 0 0 mX10_see 0 0 34 [some (.ref 36), some (.int (nI t)), some (.int 1), some (.int 0)] [] (St N I1 L) (RI (-1) (St N (refM I1 5) L)) := by
    intro q1 q2 q3
    have hR : sgF tb nb (t / 3) = false := by
      unfold seeOk at hno
      rw [decide_eq_true ⟨q1, q2, q3⟩, Bool.true_and] at hno
      exact hno
    refine forUp (σ := Unit) (P := fun r _ => Ex 1 0 0 mX10_see 0 0 34 [some (.ref 36), some (.int (nI t)), some (.int (bI (sgF tb nb r))), some (.int (nI (3 * r)))] [] (St N I1 L) _) (Inv := fun _ _ => True) (t / 3) ?_ ?_ 0 () (Nat.zero_le _) trivial
    · rintro - -
      rw [hR, show 3 * (t / 3) = t by omega]
      refine Ex.iload_n (pc := 34) dX10_see_34 rfl rfl ?_
      refine Ex.iload_n (pc := 35) dX10_see_35 rfl rfl ?_
      refine Ex.icmp_ge (pc := 36) (tgt := 98) dX10_see_36 (by decide) (fun _ => ?_) (fun c36 => absurd (nI_le (Nat.le_refl _) (by omega)) c36)
      exact Ex.le (ls' := [some (.ref 36), some (.int (nI t)), some (.int 0), none]) ⟨rfl, rfl, rfl, trivial⟩ (k98 [] rfl)
    · rintro r - hr - ih
      cases hsr : sgF tb nb r with
      | false =>
        refine Ex.iload_n (pc := 34) dX10_see_34 rfl rfl ?_
        refine Ex.iload_n (pc := 35) dX10_see_35 rfl rfl ?_
        refine Ex.icmp_ge (pc := 36) (tgt := 98) dX10_see_36 (by decide) (fun c36 => absurd c36 (nI_ge (by omega) (by omega))) (fun _ => ?_)
        refine Ex.iload_n (pc := 39) dX10_see_39 rfl rfl ?_
        refine Ex.if_eq (pc := 40) (tgt := 98) dX10_see_40 (by decide) (fun _ => ?_) (fun c40 => absurd rfl c40)
        exact Ex.le (ls' := [some (.ref 36), some (.int (nI t)), some (.int 0), none]) ⟨rfl, rfl, rfl, trivial⟩ (k98 [] rfl)
      | true =>
        refine Ex.iload_n (pc := 34) dX10_see_34 rfl rfl ?_
        refine Ex.iload_n (pc := 35) dX10_see_35 rfl rfl ?_
        refine Ex.icmp_ge (pc := 36) (tgt := 98) dX10_see_36 (by decide) (fun c36 => absurd c36 (nI_ge (by omega) (by omega))) (fun _ => ?_)
        refine Ex.iload_n (pc := 39) dX10_see_39 rfl rfl ?_
        refine Ex.if_eq (pc := 40) (tgt := 98) dX10_see_40 (by decide) (fun c40 => absurd c40 (by decide)) (fun _ => ?_)
        refine Ex.aload_n (pc := 43) dX10_see_43 rfl rfl ?_
        refine Ex.aload_n (pc := 44) dX10_see_44 rfl rfl ?_
        refine Ex.getR (pc := 45) dX10_see_45 fX10_7 (sh36 _) r36_0 ?_
        refine Ex.iload_n (pc := 48) dX10_see_48 rfl rfl ?_
        refine Ex.iald (pc := 49) (j := 3 * r) dX10_see_49 (sh37 _) (vp_in_nI (by omega) (by decide)) (ixN2 (by omega)) ?_
        rw [htb1 _ (by omega)]
        refine Ex.callV (pc := 50) (As := [.int _]) (rest := []) dX10_see_50 cX10_470 (tm_isBoard hB1) (sh36 _) rfl rfl (by decide) (Nat.le_refl _) (Nat.le_refl _) (Nat.le_of_ble_eq_true rfl) (Or.inl (fun r S' h => by obtain ⟨_, h⟩ := h; subst h; rfl)) (fun r S' hq _ _ => ?_)
        obtain ⟨rfl, rfl⟩ := hq
        refine Ex.if_eq (pc := 53) (tgt := 90) dX10_see_53 (by decide) (fun c53 => ?_) (fun c53 => ?_)
        · skip
          refine Ex.iconst (pc := 90) (v := 0) dX10_see_90 rfl ?_
          refine Ex.istore_n (pc := 91) (ls' := [some (.ref 36), some (.int _), some (.int 0), some (.int _)]) dX10_see_91 rfl (by decide) rfl rfl ?_
          refine Ex.iinc (pc := 92) (ls' := [some (.ref 36), some (.int _), some (.int 0), some (.int _)]) dX10_see_92 rfl rfl (by decide) rfl rfl ?_
          refine Ex.goto (pc := 95) (tgt := 34) dX10_see_95 (by decide) ?_
          have er : rowOk tb nb r = false := by
            rw [rowOk_m hby (by omega)]
            rw [bI_0 c53]; rfl
          have es : sgF tb nb (r + 1) = false := by show (sgF tb nb r && rowOk tb nb r) = _; rw [hsr, er]; rfl
          rw [es] at ih
          rw [show nI (3 * r) + Int32.ofInt 3 = nI (3 * (r + 1)) from by show nI (3 * r) + nI 3 = _; rw [nI_add]; congr 1]
          exact ih () trivial
        · skip
          refine Ex.aload_n (pc := 56) dX10_see_56 rfl rfl ?_
          refine Ex.getR (pc := 57) dX10_see_57 fX10_7 (sh36 _) r36_0 ?_
          refine Ex.iload_n (pc := 60) dX10_see_60 rfl rfl ?_
          refine Ex.iconst (pc := 61) (v := 1) dX10_see_61 rfl ?_
          refine Ex.iadd (pc := 62) dX10_see_62 ?_
          refine Ex.iald (pc := 63) (j := 3 * r + 1) dX10_see_63 (sh37 _) (ixA (x := nI (3 * r)) (j := 1) rfl (by omega) (by decide)).1 (ixA2 (x := nI (3 * r)) (j := 1) rfl (by omega)) ?_
          rw [htb1 _ (by omega)]
          refine Ex.iconst (pc := 64) (v := 1) dX10_see_64 rfl ?_
          refine Ex.bipush (pc := 65) (v := 40) dX10_see_65 rfl ?_
          refine Ex.callS (pc := 67) (As := [.int _, .int 1, .int 40]) (rest := []) dX10_see_67 cX10_312 tm_is rfl rfl (by decide) (Nat.le_refl _) (Nat.le_refl _) (Nat.le_of_ble_eq_true rfl) (Or.inl (fun r S' h => by obtain ⟨_, h⟩ := h; subst h; rfl)) (fun r S' hq _ _ => ?_)
          obtain ⟨rfl, rfl⟩ := hq
          refine Ex.if_eq (pc := 70) (tgt := 90) dX10_see_70 (by decide) (fun c70 => ?_) (fun c70 => ?_)
          · skip
            refine Ex.iconst (pc := 90) (v := 0) dX10_see_90 rfl ?_
            refine Ex.istore_n (pc := 91) (ls' := [some (.ref 36), some (.int _), some (.int 0), some (.int _)]) dX10_see_91 rfl (by decide) rfl rfl ?_
            refine Ex.iinc (pc := 92) (ls' := [some (.ref 36), some (.int _), some (.int 0), some (.int _)]) dX10_see_92 rfl rfl (by decide) rfl rfl ?_
            refine Ex.goto (pc := 95) (tgt := 34) dX10_see_95 (by decide) ?_
            have er : rowOk tb nb r = false := by
              rw [rowOk_m hby (by omega)]
              rw [bI_1 c53, bI_0 c70]; rfl
            have es : sgF tb nb (r + 1) = false := by show (sgF tb nb r && rowOk tb nb r) = _; rw [hsr, er]; rfl
            rw [es] at ih
            rw [show nI (3 * r) + Int32.ofInt 3 = nI (3 * (r + 1)) from by show nI (3 * r) + nI 3 = _; rw [nI_add]; congr 1]
            exact ih () trivial
          · skip
            refine Ex.aload_n (pc := 73) dX10_see_73 rfl rfl ?_
            refine Ex.getR (pc := 74) dX10_see_74 fX10_7 (sh36 _) r36_0 ?_
            refine Ex.iload_n (pc := 77) dX10_see_77 rfl rfl ?_
            refine Ex.iconst (pc := 78) (v := 2) dX10_see_78 rfl ?_
            refine Ex.iadd (pc := 79) dX10_see_79 ?_
            refine Ex.iald (pc := 80) (j := 3 * r + 2) dX10_see_80 (sh37 _) (ixA (x := nI (3 * r)) (j := 2) rfl (by omega) (by decide)).1 (ixA2 (x := nI (3 * r)) (j := 2) rfl (by omega)) ?_
            rw [htb1 _ (by omega)]
            refine Ex.bipush (pc := 81) (v := 99) dX10_see_81 rfl ?_
            refine Ex.icmp_gt (pc := 83) (tgt := 90) dX10_see_83 (by decide) (fun c83 => ?_) (fun c83 => ?_)
            · skip
              refine Ex.iconst (pc := 90) (v := 0) dX10_see_90 rfl ?_
              refine Ex.istore_n (pc := 91) (ls' := [some (.ref 36), some (.int _), some (.int 0), some (.int _)]) dX10_see_91 rfl (by decide) rfl rfl ?_
              refine Ex.iinc (pc := 92) (ls' := [some (.ref 36), some (.int _), some (.int 0), some (.int _)]) dX10_see_92 rfl rfl (by decide) rfl rfl ?_
              refine Ex.goto (pc := 95) (tgt := 34) dX10_see_95 (by decide) ?_
              have er : rowOk tb nb r = false := by
                rw [rowOk_m hby (by omega)]
                rw [bI_1 c53, bI_1 c70, decide_eq_true c83]; rfl
              have es : sgF tb nb (r + 1) = false := by show (sgF tb nb r && rowOk tb nb r) = _; rw [hsr, er]; rfl
              rw [es] at ih
              rw [show nI (3 * r) + Int32.ofInt 3 = nI (3 * (r + 1)) from by show nI (3 * r) + nI 3 = _; rw [nI_add]; congr 1]
              exact ih () trivial
            · skip
              refine Ex.iconst (pc := 86) (v := 1) dX10_see_86 rfl ?_
              refine Ex.goto (pc := 87) (tgt := 91) dX10_see_87 (by decide) ?_
              refine Ex.istore_n (pc := 91) (ls' := [some (.ref 36), some (.int _), some (.int 1), some (.int _)]) dX10_see_91 rfl (by decide) rfl rfl ?_
              refine Ex.iinc (pc := 92) (ls' := [some (.ref 36), some (.int _), some (.int 1), some (.int _)]) dX10_see_92 rfl rfl (by decide) rfl rfl ?_
              refine Ex.goto (pc := 95) (tgt := 34) dX10_see_95 (by decide) ?_
              have er : rowOk tb nb r = true := by
                rw [rowOk_m hby (by omega)]
                rw [bI_1 c53, bI_1 c70, decide_eq_false c83]; rfl
              have es : sgF tb nb (r + 1) = true := by show (sgF tb nb r && rowOk tb nb r) = _; rw [hsr, er]; rfl
              rw [es] at ih
              rw [show nI (3 * r) + Int32.ofInt 3 = nI (3 * (r + 1)) from by show nI (3 * r) + nI 3 = _; rw [nI_add]; congr 1]
              exact ih () trivial
  have k34b : Ex 1 0 0 mX10_see 0 0 34 [some (.ref 36), some (.int (nI t)), some (.int 0), some (.int 0)] [] (St N I1 L) (RI (-1) (St N (refM I1 5) L)) := by
    refine Ex.iload_n (pc := 34) dX10_see_34 rfl rfl ?_
    refine Ex.iload_n (pc := 35) dX10_see_35 rfl rfl ?_
    refine Ex.icmp_ge (pc := 36) (tgt := 98) dX10_see_36 (by decide) (fun c36 => ?_) (fun c36 => ?_)
    · skip
      exact Ex.le (ls' := [some (.ref 36), some (.int (nI t)), some (.int 0), none]) ⟨rfl, rfl, rfl, trivial⟩ (k98 [] rfl)
    · skip
      refine Ex.iload_n (pc := 39) dX10_see_39 rfl rfl ?_
      refine Ex.if_eq (pc := 40) (tgt := 98) dX10_see_40 (by decide) (fun _ => ?_) (fun c40 => absurd rfl c40)
      exact Ex.le (ls' := [some (.ref 36), some (.int (nI t)), some (.int 0), none]) ⟨rfl, rfl, rfl, trivial⟩ (k98 [] rfl)
  have hr3 : nI t - nI t / 3 * 3 = nI (t % 3) := pk_rem (d := 3) (by omega) (by decide) (by decide)
  refine Ex.aload_n (pc := 0) dX10_see_0 rfl rfl ?_
  refine Ex.getI (pc := 1) dX10_see_1 fX10_13 (sh36 _) ?_
  refine Ex.istore_n (pc := 4) (ls' := [some (.ref 36), some (.int _), none, none]) dX10_see_4 rfl (by decide) rfl rfl ?_
  refine Ex.aload_n (pc := 5) dX10_see_5 rfl rfl ?_
  refine Ex.iconst (pc := 6) (v := 0) dX10_see_6 rfl ?_
  refine Ex.putI (pc := 7) dX10_see_7 fX10_13 (sh36 _) (Or.inl rfl) ⟨rfl, rfl⟩ ?_
  rw [ht]
  refine Ex.mm (S' := St N I1 L) (by rw [← hI1]) ?_
  refine Ex.iload_n (pc := 10) dX10_see_10 rfl rfl ?_
  refine Ex.if_le (pc := 11) (tgt := 30) dX10_see_11 (by decide) (fun c11 => ?_) (fun c11 => ?_)
  · skip
    refine Ex.iconst (pc := 30) (v := 0) dX10_see_30 rfl ?_
    refine Ex.istore_n (pc := 31) (ls' := [some (.ref 36), some (.int _), some (.int 0), none]) dX10_see_31 rfl (by decide) rfl rfl ?_
    refine Ex.iconst (pc := 32) (v := 0) dX10_see_32 rfl ?_
    refine Ex.istore_n (pc := 33) (ls' := [some (.ref 36), some (.int _), some (.int 0), some (.int 0)]) dX10_see_33 rfl (by decide) rfl rfl ?_
    refine Ex.le (ls' := [some (.ref 36), some (.int (nI t)), some (.int 0), some (.int 0)]) ⟨rfl, rfl, rfl, rfl, trivial⟩ k34b
  · skip
    refine Ex.iload_n (pc := 14) dX10_see_14 rfl rfl ?_
    refine Ex.iconst (pc := 15) (v := 3) dX10_see_15 rfl ?_
    refine Ex.irem (pc := 16) dX10_see_16 (by decide) ?_
    refine Ex.if_ne (pc := 17) (tgt := 30) dX10_see_17 (by decide) (fun c17 => ?_) (fun c17 => ?_)
    · skip
      refine Ex.iconst (pc := 30) (v := 0) dX10_see_30 rfl ?_
      refine Ex.istore_n (pc := 31) (ls' := [some (.ref 36), some (.int _), some (.int 0), none]) dX10_see_31 rfl (by decide) rfl rfl ?_
      refine Ex.iconst (pc := 32) (v := 0) dX10_see_32 rfl ?_
      refine Ex.istore_n (pc := 33) (ls' := [some (.ref 36), some (.int _), some (.int 0), some (.int 0)]) dX10_see_33 rfl (by decide) rfl rfl ?_
      refine Ex.le (ls' := [some (.ref 36), some (.int (nI t)), some (.int 0), some (.int 0)]) ⟨rfl, rfl, rfl, rfl, trivial⟩ k34b
    · skip
      rw [hr3] at c17
      have hm3 : t % 3 = 0 := by
        rcases Nat.eq_zero_or_pos (t % 3) with e | e
        · exact e
        · exact absurd c17 (nI_ne0 e (by omega))
      refine Ex.iload_n (pc := 20) dX10_see_20 rfl rfl ?_
      refine Ex.bipush (pc := 21) (v := 48) dX10_see_21 rfl ?_
      refine Ex.icmp_gt (pc := 23) (tgt := 30) dX10_see_23 (by decide) (fun c23 => ?_) (fun c23 => ?_)
      · skip
        refine Ex.iconst (pc := 30) (v := 0) dX10_see_30 rfl ?_
        refine Ex.istore_n (pc := 31) (ls' := [some (.ref 36), some (.int _), some (.int 0), none]) dX10_see_31 rfl (by decide) rfl rfl ?_
        refine Ex.iconst (pc := 32) (v := 0) dX10_see_32 rfl ?_
        refine Ex.istore_n (pc := 33) (ls' := [some (.ref 36), some (.int _), some (.int 0), some (.int 0)]) dX10_see_33 rfl (by decide) rfl rfl ?_
        refine Ex.le (ls' := [some (.ref 36), some (.int (nI t)), some (.int 0), some (.int 0)]) ⟨rfl, rfl, rfl, rfl, trivial⟩ k34b
      · skip
        refine Ex.iconst (pc := 26) (v := 1) dX10_see_26 rfl ?_
        refine Ex.goto (pc := 27) (tgt := 31) dX10_see_27 (by decide) ?_
        refine Ex.istore_n (pc := 31) (ls' := [some (.ref 36), some (.int _), some (.int 1), none]) dX10_see_31 rfl (by decide) rfl rfl ?_
        refine Ex.iconst (pc := 32) (v := 0) dX10_see_32 rfl ?_
        refine Ex.istore_n (pc := 33) (ls' := [some (.ref 36), some (.int _), some (.int 1), some (.int 0)]) dX10_see_33 rfl (by decide) rfl rfl ?_
        have q1 : 3 ≤ t := by
          rcases Nat.eq_zero_or_pos t with e | e
          · rw [e] at c11; exact absurd (show nI 0 ≤ 0 by decide) c11
          · omega
        exact k34 q1 (nI_leR (b := 48) (Int32.not_lt.mp c23) (by omega)) hm3
set_option maxRecDepth 20000 in
theorem tm_see1 {N : Nat} {I : aI} {L : aL} {bk nb ns nh t : Nat} {tb : Nat → Int32} (hB : RefB I bk nb ns nh) (ht : I 36 1 = nI t) (h16 : t ≤ 1600) (htb : ∀ i, i < t → I 37 i = tb i) (hby : byt tb t) (hyes : seeOk tb nb t = true) : Run 1 0 0 mX10_see [.ref 36] (St N I L) (RP (some (.int (nI (t / 3)))) N L (fun I2 => Sm [36, 76, 77, 78] I I2 ∧ (∀ j, j ≠ 1 → j ≠ 62 → I2 36 j = I 36 j) ∧ I2 36 1 = 0 ∧ I2 36 62 = nI (t / 3) ∧ ∀ k, k < t / 3 → I2 76 k = tb (3 * k) ∧ I2 77 k = tb (3 * k + 1) ∧ I2 78 k = tb (3 * k + 2))) := by
  refine Run.of (ls := [some (.ref 36), none, none, none]) (by decide) (Nat.le_of_ble_eq_true rfl) rfl ?_
  have hS0 : Sm [36] I (va_up I 36 (upd (I 36) 1 0)) := Sm.rf.up (by decide)
  have h360 : ∀ j, j ≠ 1 → va_up I 36 (upd (I 36) 1 0) 36 j = I 36 j := fun j hj => by rw [va_up_s, upd_n hj]
  have h361 : va_up I 36 (upd (I 36) 1 0) 36 1 = 0 := by rw [va_up_s, upd_s]
  have hB1 : RefB (va_up I 36 (upd (I 36) 1 0)) bk nb ns nh := hB.sm (l := [36]) (Sm.rf.up (by decide)) (by rw [va_up_s, upd_n (by decide)]) (by decide) (by decide) (by decide)
  have htb1 : ∀ i, i < t → va_up I 36 (upd (I 36) 1 0) 37 i = tb i := fun i hi => by rw [va_up_n (by decide)]; exact htb i hi
  obtain ⟨h1, h2, hnb, hns, hnh, hcb, hcs, hch⟩ := id hB1
  generalize hI1 : va_up I 36 (upd (I 36) 1 0) = I1 at *
  obtain ⟨hy1, hR⟩ := (Bool.and_eq_true _ _).mp (show (decide (3 ≤ t ∧ t ≤ 48 ∧ t % 3 = 0) && sgF tb nb (t / 3)) = true from hyes)
  obtain ⟨q1, q2, q3⟩ := of_decide_eq_true hy1
  have hr3 : nI t - nI t / 3 * 3 = nI (t % 3) := pk_rem (d := 3) (by omega) (by decide) (by decide)
  have hd3 : nI t / 3 = nI (t / 3) := pk_div (d := 3) (by omega) (by decide) (by decide)
  have k98 : Ex 1 0 0 mX10_see 0 0 98 [some (.ref 36), some (.int (nI t)), some (.int 1), none] [] (St N I1 L) (RP (some (.int (nI (t / 3)))) N L (fun I2 => Sm [36, 76, 77, 78] I I2 ∧ (∀ j, j ≠ 1 → j ≠ 62 → I2 36 j = I 36 j) ∧ I2 36 1 = 0 ∧ I2 36 62 = nI (t / 3) ∧ ∀ k, k < t / 3 → I2 76 k = tb (3 * k) ∧ I2 77 k = tb (3 * k + 1) ∧ I2 78 k = tb (3 * k + 2))) := by
    refine Ex.iload_n (pc := 98) dX10_see_98 rfl rfl ?_
    refine Ex.if_ne (pc := 99) (tgt := 108) dX10_see_99 (by decide) (fun _ => ?_) (fun c99 => absurd c99 (by decide))
    refine Ex.aload_n (pc := 108) dX10_see_108 rfl rfl ?_
    refine Ex.iload_n (pc := 109) dX10_see_109 rfl rfl ?_
    refine Ex.iconst (pc := 110) (v := 3) dX10_see_110 rfl ?_
    refine Ex.idiv (pc := 111) dX10_see_111 (by decide) ?_
    rw [hd3]
    refine Ex.putI (pc := 112) dX10_see_112 fX10_201 (sh36 _) (Or.inl rfl) ⟨rfl, rfl⟩ ?_
    refine Ex.iconst (pc := 115) (v := 0) dX10_see_115 rfl ?_
    refine Ex.istore_n (pc := 116) (ls' := [some (.ref 36), some (.int _), some (.int _), some (.int 0)]) dX10_see_116 rfl (by decide) rfl rfl ?_
    refine Ex.le (ls' := [some (.ref 36), some (.int (nI t)), none, some (.int 0)]) ⟨rfl, rfl, rfl, trivial⟩ ?_
    refine forUp (σ := aI) (P := fun k I2 => Ex 1 0 0 mX10_see 0 0 117 [some (.ref 36), some (.int (nI t)), none, some (.int (nI k))] [] (St N I2 L) _) (Inv := fun k I2 => Sm [36, 76, 77, 78] I I2 ∧ (∀ j, j ≠ 1 → j ≠ 62 → I2 36 j = I 36 j) ∧ I2 36 1 = 0 ∧ I2 36 62 = nI (t / 3) ∧ ∀ i, i < k → I2 76 i = tb (3 * i) ∧ I2 77 i = tb (3 * i + 1) ∧ I2 78 i = tb (3 * i + 2)) (t / 3) ?_ ?_ 0 _ (Nat.zero_le _) ⟨(hS0.tr Sm.rf (l2 := []) (by decide) (by decide)).up (by decide), fun j a b => by rw [va_up_s, upd_n b]; exact h360 j a, by rw [va_up_s, upd_n (by decide)]; exact h361, by rw [va_up_s, upd_s], fun i hi => absurd hi (Nat.not_lt_zero _)⟩
    · rintro I2 ⟨i1, i2, i3, i4, i5⟩
      refine Ex.iload_n (pc := 117) dX10_see_117 rfl rfl ?_
      refine Ex.aload_n (pc := 118) dX10_see_118 rfl rfl ?_
      refine Ex.getI (pc := 119) dX10_see_119 fX10_201 (sh36 _) ?_
      refine Ex.icmp_ge (pc := 122) (tgt := 177) dX10_see_122 (by decide) (fun _ => ?_) (fun c122 => absurd (by rw [i4]; exact nI_le (Nat.le_refl _) (by omega)) c122)
      refine Ex.aload_n (pc := 177) dX10_see_177 rfl rfl ?_
      refine Ex.getI (pc := 178) dX10_see_178 fX10_201 (sh36 _) ?_
      rw [i4]
      refine Ex.iret (pc := 181) rfl rfl rfl dX10_see_181 (Nat.le_refl _) (Nat.le_refl _) ?_
      exact ⟨_, rfl, rfl, i1, i2, i3, i4, i5⟩
    · rintro k I2 hk ⟨i1, i2, i3, i4, i5⟩ ih
      have e37 : ∀ i, i < t → I2 37 i = tb i := fun i hi => by rw [i1 37 (by decide)]; exact htb i hi
      refine Ex.iload_n (pc := 117) dX10_see_117 rfl rfl ?_
      refine Ex.aload_n (pc := 118) dX10_see_118 rfl rfl ?_
      refine Ex.getI (pc := 119) dX10_see_119 fX10_201 (sh36 _) ?_
      refine Ex.icmp_ge (pc := 122) (tgt := 177) dX10_see_122 (by decide) (fun c122 => absurd c122 (by rw [i4]; exact nI_ge hk (by omega))) (fun _ => ?_)
      refine Ex.aload_n (pc := 125) dX10_see_125 rfl rfl ?_
      refine Ex.getR (pc := 126) dX10_see_126 fX10_204 (sh36 _) r36_63 ?_
      refine Ex.iload_n (pc := 129) dX10_see_129 rfl rfl ?_
      refine Ex.aload_n (pc := 130) dX10_see_130 rfl rfl ?_
      refine Ex.getR (pc := 131) dX10_see_131 fX10_7 (sh36 _) r36_0 ?_
      refine Ex.iconst (pc := 134) (v := 3) dX10_see_134 rfl ?_
      refine Ex.iload_n (pc := 135) dX10_see_135 rfl rfl ?_
      refine Ex.imul (pc := 136) dX10_see_136 ?_
      refine Ex.iald (pc := 137) (j := 3 * k) dX10_see_137 (sh37 _) (by rw [show (3 : Int32) * nI k = nI (3 * k) from pk_mul 3 k]; exact vp_in_nI (by omega) (by decide)) (by rw [show (3 : Int32) * nI k = nI (3 * k) from pk_mul 3 k]; exact nI_clamp (by omega)) ?_
      rw [e37 _ (by omega)]
      refine Ex.iast (pc := 138) (j := k) dX10_see_138 (sh76 _) (vp_in_nI (by omega) (by decide)) (ixN2 (by omega)) ?_
      refine Ex.aload_n (pc := 139) dX10_see_139 rfl rfl ?_
      refine Ex.getR (pc := 140) dX10_see_140 fX10_207 (sh36 _) r36_64 ?_
      refine Ex.iload_n (pc := 143) dX10_see_143 rfl rfl ?_
      refine Ex.aload_n (pc := 144) dX10_see_144 rfl rfl ?_
      refine Ex.getR (pc := 145) dX10_see_145 fX10_7 (sh36 _) r36_0 ?_
      refine Ex.iconst (pc := 148) (v := 3) dX10_see_148 rfl ?_
      refine Ex.iload_n (pc := 149) dX10_see_149 rfl rfl ?_
      refine Ex.imul (pc := 150) dX10_see_150 ?_
      refine Ex.iconst (pc := 151) (v := 1) dX10_see_151 rfl ?_
      refine Ex.iadd (pc := 152) dX10_see_152 ?_
      refine Ex.iald (pc := 153) (j := 3 * k + 1) dX10_see_153 (sh37 _) (by rw [show (3 : Int32) * nI k = nI (3 * k) from pk_mul 3 k]; exact (ixA (x := nI (3 * k)) (j := 1) rfl (by omega) (by decide)).1) (by rw [show (3 : Int32) * nI k = nI (3 * k) from pk_mul 3 k]; exact ixA2 (x := nI (3 * k)) (j := 1) rfl (by omega)) ?_
      rw [va_up_n (show (37 : Nat) ≠ 76 by decide), e37 _ (by omega)]
      refine Ex.iast (pc := 154) (j := k) dX10_see_154 (sh77 _) (vp_in_nI (by omega) (by decide)) (ixN2 (by omega)) ?_
      refine Ex.aload_n (pc := 155) dX10_see_155 rfl rfl ?_
      refine Ex.getR (pc := 156) dX10_see_156 fX10_210 (sh36 _) r36_65 ?_
      refine Ex.iload_n (pc := 159) dX10_see_159 rfl rfl ?_
      refine Ex.aload_n (pc := 160) dX10_see_160 rfl rfl ?_
      refine Ex.getR (pc := 161) dX10_see_161 fX10_7 (sh36 _) r36_0 ?_
      refine Ex.iconst (pc := 164) (v := 3) dX10_see_164 rfl ?_
      refine Ex.iload_n (pc := 165) dX10_see_165 rfl rfl ?_
      refine Ex.imul (pc := 166) dX10_see_166 ?_
      refine Ex.iconst (pc := 167) (v := 2) dX10_see_167 rfl ?_
      refine Ex.iadd (pc := 168) dX10_see_168 ?_
      refine Ex.iald (pc := 169) (j := 3 * k + 2) dX10_see_169 (sh37 _) (by rw [show (3 : Int32) * nI k = nI (3 * k) from pk_mul 3 k]; exact (ixA (x := nI (3 * k)) (j := 2) rfl (by omega) (by decide)).1) (by rw [show (3 : Int32) * nI k = nI (3 * k) from pk_mul 3 k]; exact ixA2 (x := nI (3 * k)) (j := 2) rfl (by omega)) ?_
      rw [va_up_n (show (37 : Nat) ≠ 77 by decide), va_up_n (show (37 : Nat) ≠ 76 by decide), e37 _ (by omega)]
      refine Ex.iast (pc := 170) (j := k) dX10_see_170 (sh78 _) (vp_in_nI (by omega) (by decide)) (ixN2 (by omega)) ?_
      refine Ex.iinc (pc := 171) (ls' := [some (.ref 36), some (.int _), none, some (.int _)]) dX10_see_171 rfl rfl (by decide) rfl rfl ?_
      refine Ex.goto (pc := 174) (tgt := 117) dX10_see_174 (by decide) ?_
      rw [show nI k + Int32.ofInt 1 = nI (k + 1) from nI_1 k]
      refine ih _ ⟨((i1.up (by decide)).up (by decide)).up (by decide), ?_, ?_, ?_, ?_⟩
      · intro j a b; simp [va_up]; exact i2 j a b
      · simp [va_up]; exact i3
      · simp [va_up]; exact i4
      · intro i hi
        by_cases e : i = k
        · subst e; simp [va_up, upd]
        · simp [va_up, upd, e]; exact i5 i (by omega)
  have k34 : Ex 1 0 0 mX10_see 0 0 34 [some (.ref 36), some (.int (nI t)), some (.int 1), some (.int 0)] [] (St N I1 L) (RP (some (.int (nI (t / 3)))) N L (fun I2 => Sm [36, 76, 77, 78] I I2 ∧ (∀ j, j ≠ 1 → j ≠ 62 → I2 36 j = I 36 j) ∧ I2 36 1 = 0 ∧ I2 36 62 = nI (t / 3) ∧ ∀ k, k < t / 3 → I2 76 k = tb (3 * k) ∧ I2 77 k = tb (3 * k + 1) ∧ I2 78 k = tb (3 * k + 2))) := by
    refine forUp (σ := Unit) (P := fun r _ => Ex 1 0 0 mX10_see 0 0 34 [some (.ref 36), some (.int (nI t)), some (.int (bI (sgF tb nb r))), some (.int (nI (3 * r)))] [] (St N I1 L) _) (Inv := fun _ _ => True) (t / 3) ?_ ?_ 0 () (Nat.zero_le _) trivial
    · rintro - -
      rw [hR, show 3 * (t / 3) = t by omega]
      refine Ex.iload_n (pc := 34) dX10_see_34 rfl rfl ?_
      refine Ex.iload_n (pc := 35) dX10_see_35 rfl rfl ?_
      refine Ex.icmp_ge (pc := 36) (tgt := 98) dX10_see_36 (by decide) (fun _ => ?_) (fun c36 => absurd (nI_le (Nat.le_refl _) (by omega)) c36)
      exact Ex.le (ls' := [some (.ref 36), some (.int (nI t)), some (.int 1), none]) ⟨rfl, rfl, rfl, trivial⟩ k98
    · rintro r - hr - ih
      have hsr : sgF tb nb r = true := sgF_le r (t / 3 - r) (by rw [show r + (t / 3 - r) = t / 3 by omega]; exact hR)
      rw [hsr]
      refine Ex.iload_n (pc := 34) dX10_see_34 rfl rfl ?_
      refine Ex.iload_n (pc := 35) dX10_see_35 rfl rfl ?_
      refine Ex.icmp_ge (pc := 36) (tgt := 98) dX10_see_36 (by decide) (fun c36 => absurd c36 (nI_ge (by omega) (by omega))) (fun _ => ?_)
      refine Ex.iload_n (pc := 39) dX10_see_39 rfl rfl ?_
      refine Ex.if_eq (pc := 40) (tgt := 98) dX10_see_40 (by decide) (fun c40 => absurd c40 (by decide)) (fun _ => ?_)
      refine Ex.aload_n (pc := 43) dX10_see_43 rfl rfl ?_
      refine Ex.aload_n (pc := 44) dX10_see_44 rfl rfl ?_
      refine Ex.getR (pc := 45) dX10_see_45 fX10_7 (sh36 _) r36_0 ?_
      refine Ex.iload_n (pc := 48) dX10_see_48 rfl rfl ?_
      refine Ex.iald (pc := 49) (j := 3 * r) dX10_see_49 (sh37 _) (vp_in_nI (by omega) (by decide)) (ixN2 (by omega)) ?_
      rw [htb1 _ (by omega)]
      refine Ex.callV (pc := 50) (As := [.int _]) (rest := []) dX10_see_50 cX10_470 (tm_isBoard hB1) (sh36 _) rfl rfl (by decide) (Nat.le_refl _) (Nat.le_refl _) (Nat.le_of_ble_eq_true rfl) (Or.inl (fun r S' h => by obtain ⟨_, h⟩ := h; subst h; rfl)) (fun r S' hq _ _ => ?_)
      obtain ⟨rfl, rfl⟩ := hq
      refine Ex.if_eq (pc := 53) (tgt := 90) dX10_see_53 (by decide) (fun c53 => ?_) (fun c53 => ?_)
      · skip
        refine Ex.iconst (pc := 90) (v := 0) dX10_see_90 rfl ?_
        refine Ex.istore_n (pc := 91) (ls' := [some (.ref 36), some (.int _), some (.int 0), some (.int _)]) dX10_see_91 rfl (by decide) rfl rfl ?_
        refine Ex.iinc (pc := 92) (ls' := [some (.ref 36), some (.int _), some (.int 0), some (.int _)]) dX10_see_92 rfl rfl (by decide) rfl rfl ?_
        refine Ex.goto (pc := 95) (tgt := 34) dX10_see_95 (by decide) ?_
        have er : rowOk tb nb r = false := by
          rw [rowOk_m hby (by omega)]
          rw [bI_0 c53]; rfl
        have es : sgF tb nb (r + 1) = false := by show (sgF tb nb r && rowOk tb nb r) = _; rw [hsr, er]; rfl
        rw [es] at ih
        rw [show nI (3 * r) + Int32.ofInt 3 = nI (3 * (r + 1)) from by show nI (3 * r) + nI 3 = _; rw [nI_add]; congr 1]
        exact ih () trivial
      · skip
        refine Ex.aload_n (pc := 56) dX10_see_56 rfl rfl ?_
        refine Ex.getR (pc := 57) dX10_see_57 fX10_7 (sh36 _) r36_0 ?_
        refine Ex.iload_n (pc := 60) dX10_see_60 rfl rfl ?_
        refine Ex.iconst (pc := 61) (v := 1) dX10_see_61 rfl ?_
        refine Ex.iadd (pc := 62) dX10_see_62 ?_
        refine Ex.iald (pc := 63) (j := 3 * r + 1) dX10_see_63 (sh37 _) (ixA (x := nI (3 * r)) (j := 1) rfl (by omega) (by decide)).1 (ixA2 (x := nI (3 * r)) (j := 1) rfl (by omega)) ?_
        rw [htb1 _ (by omega)]
        refine Ex.iconst (pc := 64) (v := 1) dX10_see_64 rfl ?_
        refine Ex.bipush (pc := 65) (v := 40) dX10_see_65 rfl ?_
        refine Ex.callS (pc := 67) (As := [.int _, .int 1, .int 40]) (rest := []) dX10_see_67 cX10_312 tm_is rfl rfl (by decide) (Nat.le_refl _) (Nat.le_refl _) (Nat.le_of_ble_eq_true rfl) (Or.inl (fun r S' h => by obtain ⟨_, h⟩ := h; subst h; rfl)) (fun r S' hq _ _ => ?_)
        obtain ⟨rfl, rfl⟩ := hq
        refine Ex.if_eq (pc := 70) (tgt := 90) dX10_see_70 (by decide) (fun c70 => ?_) (fun c70 => ?_)
        · skip
          refine Ex.iconst (pc := 90) (v := 0) dX10_see_90 rfl ?_
          refine Ex.istore_n (pc := 91) (ls' := [some (.ref 36), some (.int _), some (.int 0), some (.int _)]) dX10_see_91 rfl (by decide) rfl rfl ?_
          refine Ex.iinc (pc := 92) (ls' := [some (.ref 36), some (.int _), some (.int 0), some (.int _)]) dX10_see_92 rfl rfl (by decide) rfl rfl ?_
          refine Ex.goto (pc := 95) (tgt := 34) dX10_see_95 (by decide) ?_
          have er : rowOk tb nb r = false := by
            rw [rowOk_m hby (by omega)]
            rw [bI_1 c53, bI_0 c70]; rfl
          have es : sgF tb nb (r + 1) = false := by show (sgF tb nb r && rowOk tb nb r) = _; rw [hsr, er]; rfl
          rw [es] at ih
          rw [show nI (3 * r) + Int32.ofInt 3 = nI (3 * (r + 1)) from by show nI (3 * r) + nI 3 = _; rw [nI_add]; congr 1]
          exact ih () trivial
        · skip
          refine Ex.aload_n (pc := 73) dX10_see_73 rfl rfl ?_
          refine Ex.getR (pc := 74) dX10_see_74 fX10_7 (sh36 _) r36_0 ?_
          refine Ex.iload_n (pc := 77) dX10_see_77 rfl rfl ?_
          refine Ex.iconst (pc := 78) (v := 2) dX10_see_78 rfl ?_
          refine Ex.iadd (pc := 79) dX10_see_79 ?_
          refine Ex.iald (pc := 80) (j := 3 * r + 2) dX10_see_80 (sh37 _) (ixA (x := nI (3 * r)) (j := 2) rfl (by omega) (by decide)).1 (ixA2 (x := nI (3 * r)) (j := 2) rfl (by omega)) ?_
          rw [htb1 _ (by omega)]
          refine Ex.bipush (pc := 81) (v := 99) dX10_see_81 rfl ?_
          refine Ex.icmp_gt (pc := 83) (tgt := 90) dX10_see_83 (by decide) (fun c83 => ?_) (fun c83 => ?_)
          · skip
            refine Ex.iconst (pc := 90) (v := 0) dX10_see_90 rfl ?_
            refine Ex.istore_n (pc := 91) (ls' := [some (.ref 36), some (.int _), some (.int 0), some (.int _)]) dX10_see_91 rfl (by decide) rfl rfl ?_
            refine Ex.iinc (pc := 92) (ls' := [some (.ref 36), some (.int _), some (.int 0), some (.int _)]) dX10_see_92 rfl rfl (by decide) rfl rfl ?_
            refine Ex.goto (pc := 95) (tgt := 34) dX10_see_95 (by decide) ?_
            have er : rowOk tb nb r = false := by
              rw [rowOk_m hby (by omega)]
              rw [bI_1 c53, bI_1 c70, decide_eq_true c83]; rfl
            have es : sgF tb nb (r + 1) = false := by show (sgF tb nb r && rowOk tb nb r) = _; rw [hsr, er]; rfl
            rw [es] at ih
            rw [show nI (3 * r) + Int32.ofInt 3 = nI (3 * (r + 1)) from by show nI (3 * r) + nI 3 = _; rw [nI_add]; congr 1]
            exact ih () trivial
          · skip
            refine Ex.iconst (pc := 86) (v := 1) dX10_see_86 rfl ?_
            refine Ex.goto (pc := 87) (tgt := 91) dX10_see_87 (by decide) ?_
            refine Ex.istore_n (pc := 91) (ls' := [some (.ref 36), some (.int _), some (.int 1), some (.int _)]) dX10_see_91 rfl (by decide) rfl rfl ?_
            refine Ex.iinc (pc := 92) (ls' := [some (.ref 36), some (.int _), some (.int 1), some (.int _)]) dX10_see_92 rfl rfl (by decide) rfl rfl ?_
            refine Ex.goto (pc := 95) (tgt := 34) dX10_see_95 (by decide) ?_
            have er : rowOk tb nb r = true := by
              rw [rowOk_m hby (by omega)]
              rw [bI_1 c53, bI_1 c70, decide_eq_false c83]; rfl
            have es : sgF tb nb (r + 1) = true := by show (sgF tb nb r && rowOk tb nb r) = _; rw [hsr, er]; rfl
            rw [es] at ih
            rw [show nI (3 * r) + Int32.ofInt 3 = nI (3 * (r + 1)) from by show nI (3 * r) + nI 3 = _; rw [nI_add]; congr 1]
            exact ih () trivial
  refine Ex.aload_n (pc := 0) dX10_see_0 rfl rfl ?_
  refine Ex.getI (pc := 1) dX10_see_1 fX10_13 (sh36 _) ?_
  refine Ex.istore_n (pc := 4) (ls' := [some (.ref 36), some (.int _), none, none]) dX10_see_4 rfl (by decide) rfl rfl ?_
  refine Ex.aload_n (pc := 5) dX10_see_5 rfl rfl ?_
  refine Ex.iconst (pc := 6) (v := 0) dX10_see_6 rfl ?_
  refine Ex.putI (pc := 7) dX10_see_7 fX10_13 (sh36 _) (Or.inl rfl) ⟨rfl, rfl⟩ ?_
  rw [ht]
  refine Ex.mm (S' := St N I1 L) (by rw [← hI1]) ?_
  refine Ex.iload_n (pc := 10) dX10_see_10 rfl rfl ?_
  refine Ex.if_le (pc := 11) (tgt := 30) dX10_see_11 (by decide) (fun c11 => absurd c11 (fun q => absurd (nI_leR (b := 0) q (by omega)) (by omega))) (fun _ => ?_)
  refine Ex.iload_n (pc := 14) dX10_see_14 rfl rfl ?_
  refine Ex.iconst (pc := 15) (v := 3) dX10_see_15 rfl ?_
  refine Ex.irem (pc := 16) dX10_see_16 (by decide) ?_
  rw [hr3, q3]
  refine Ex.if_ne (pc := 17) (tgt := 30) dX10_see_17 (by decide) (fun c17 => absurd rfl c17) (fun _ => ?_)
  refine Ex.iload_n (pc := 20) dX10_see_20 rfl rfl ?_
  refine Ex.bipush (pc := 21) (v := 48) dX10_see_21 rfl ?_
  refine Ex.icmp_gt (pc := 23) (tgt := 30) dX10_see_23 (by decide) (fun c23 => absurd c23 (nI_nlt (a := 48) (by omega) (by decide))) (fun _ => ?_)
  refine Ex.iconst (pc := 26) (v := 1) dX10_see_26 rfl ?_
  refine Ex.goto (pc := 27) (tgt := 31) dX10_see_27 (by decide) ?_
  refine Ex.istore_n (pc := 31) (ls' := [some (.ref 36), some (.int _), some (.int 1), none]) dX10_see_31 rfl (by decide) rfl rfl ?_
  refine Ex.iconst (pc := 32) (v := 0) dX10_see_32 rfl ?_
  refine Ex.istore_n (pc := 33) (ls' := [some (.ref 36), some (.int _), some (.int 1), some (.int 0)]) dX10_see_33 rfl (by decide) rfl rfl ?_
  exact k34
