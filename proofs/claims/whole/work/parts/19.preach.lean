/-- week, water, who is saved, zinc, depths -/
abbrev aX : Type := Int32 × Int32 × Int32 × (Nat → Int32) × (Nat → Int32)
def xOf (I : aI) (a : Nat) : aX := (I a 0, I a 1, I a 2, I (a + 1), I (a + 2))
def rubX (p : aP) (f5 f6 : Nat → Int32) (x : aX) (b s n : Nat) : aT := rubF p (nmL (f5 b) (f6 (6 + s)) x.2.1 x.1) n (x.2.2.2.1 b, x.2.2.2.2 s, 0, 0)
def nmV (a b c d z e g : Int32) : Nat → Int32 := upd (upd (upd (nmL a b c d) 2 z) 4 e) 19 g
def vrow (f5 f6 : Nat → Int32) (x : aX) (b s : Nat) (t : aT) : Nat → Int32 := nmV (f5 b) (f6 (6 + s)) x.2.1 x.1 t.1 t.2.1 t.2.2.2
def whoX (p : aP) (nm f5 f6 : Nat → Int32) (r : Nat) (hb : Int32) (nh : Nat) : Int32 := whoF p nm r (fun k => f5 (12 + k)) (fun k => f6 (12 + k)) hb nh
def preachX (p : aP) (f5 f6 : Nat → Int32) (nh : Nat) (x : aX) (b s n : Nat) : aX :=
  (x.1, x.2.1, x.2.2.1 ||| whoX p (vrow f5 f6 x b s (rubX p f5 f6 x b s n)) f5 f6 2 (x.2.2.1 ^^^ (-1)) nh, upd x.2.2.2.1 b (rubX p f5 f6 x b s n).1, upd x.2.2.2.2 s (rubX p f5 f6 x b s n).2.1)
theorem whoF_congr {p : aP} (hx : PlanIx p) {nm nm' : Nat → Int32} {r : Nat} (hr : r < 5) (sn er : Nat → Int32) (hb : Int32) (h : ∀ j, alw r j → j ≠ 7 → j ≠ 8 → nm j = nm' j) : ∀ k, whoF p nm r sn er hb k = whoF p nm' r sn er hb k
  | 0 => rfl
  | k + 1 => by
    have e : evV p (upd (upd nm 7 (sn k)) 8 (er k)) r 0 = evV p (upd (upd nm' 7 (sn k)) 8 (er k)) r 0 := by
      refine evV_congr hx hr (fun j hj => ?_)
      by_cases h8 : j = 8
      · rw [h8, upd_s, upd_s]
      · rw [upd_n h8, upd_n h8]
        by_cases h7 : j = 7
        · rw [h7, upd_s, upd_s]
        · rw [upd_n h7, upd_n h7]; exact h j hj h7 h8
    simp only [whoF, e, whoF_congr hx hr sn er hb h k]

set_option maxRecDepth 20000 in
theorem t_preach10 {N : Nat} {I : aI} {L : aL} {p : aP} {b s n nh : Nat} (hp : PlanG N I p) (hb : b < 5) (hs : s < 6) (hn : n < 1000) (hh : I 3 2 = nI nh) (hn6 : nh ≤ 6) : Run 4 0 0 mX6_preach [.ref 16, .ref 10, .int (nI b), .int (nI s), .int (nI n)] (St N I L) (RP none N L (fun I2 => Sm [10, 11, 12, 16, 17, 18] I I2 ∧ xOf I2 10 = preachX p (I 5) (I 6) nh (xOf I 10) b s n ∧ I2 10 3 = I 10 3 ∧ tOf I2 = rubX p (I 5) (I 6) (xOf I 10) b s n ∧ I2 16 3 = nI b ∧ I2 16 4 = nI s ∧ ∀ j, alw 3 j → j ≠ 7 → j ≠ 8 → I2 17 j = vrow (I 5) (I 6) (xOf I 10) b s (rubX p (I 5) (I 6) (xOf I 10) b s n) j)) := by
  refine Run.of (ls := [some (.ref 16), some (.ref 10), some (.int _), some (.int _), some (.int _), none]) (by decide) (Nat.le_of_ble_eq_true rfl) rfl ?_
  refine Ex.aload_n (pc := 0) dX6_preach_0 rfl rfl ?_
  refine Ex.aload_n (pc := 1) dX6_preach_1 rfl rfl ?_
  refine Ex.iload_n (pc := 2) dX6_preach_2 rfl rfl ?_
  refine Ex.iload_n (pc := 3) dX6_preach_3 rfl rfl ?_
  refine Ex.callV (pc := 4) (As := [.ref 10, .int _, .int _]) (rest := []) dX6_preach_4 cX6_74 (t_lay10 (b := b) (s := s) hb hs) (sh16 _) rfl rfl (by decide) (Nat.le_refl _) (Nat.le_refl _) (Nat.le_of_ble_eq_true rfl) (Or.inl (fun r S' h => by obtain ⟨_, _, h, _⟩ := h; subst h; rfl)) (fun r S' hq _ _ => ?_)
  obtain ⟨I3, rfl, rfl, hS3, hb3, hs3, ht3, hn3⟩ := hq
  have hp3 := hp.sm hS3 (by decide) (by decide) (by decide) (by decide)
  refine Ex.aload_n (pc := 7) dX6_preach_7 rfl rfl ?_
  refine Ex.iload (pc := 8) dX6_preach_8 rfl ?_
  refine Ex.callV (pc := 10) (As := [.int _]) (rest := []) dX6_preach_10 cX6_78 (t_rub (p := p) (n := n) hp3.1 hn) (sh16 _) rfl rfl (by decide) (Nat.le_refl _) (Nat.le_refl _) (Nat.le_of_ble_eq_true rfl) (Or.inl (fun r S' h => by obtain ⟨_, _, h, _⟩ := h; subst h; rfl)) (fun r S' hq _ _ => ?_)
  obtain ⟨I4, rfl, rfl, hS4, hj4, ht4, hm4⟩ := hq
  have hr4 : tOf I4 = rubX p (I 5) (I 6) (xOf I 10) b s n := by
    rw [ht4, ht3, hn3]
    exact rubF_congr hp.2 (fun j hj => nmL_upd j hj) _ _
  have hS34 : Sm [16, 17, 18] I I4 := hS3.tr hS4 (by decide) (by decide)
  generalize hT : rubX p (I 5) (I 6) (xOf I 10) b s n = T at *
  have z5 : I4 16 5 = T.1 := by rw [← hr4]; rfl
  have z6 : I4 16 6 = T.2.1 := by rw [← hr4]; rfl
  have z8 : I4 16 8 = T.2.2.2 := by rw [← hr4]; rfl
  have hrow : ∀ j, alw 3 j → j ≠ 7 → j ≠ 8 → j ≠ 2 → j ≠ 4 → j ≠ 19 → I4 17 j = nmL (I 5 b) (I 6 (6 + s)) (I 10 1) (I 10 0) j := by
    intro j hj h7 h8 h2 h4 h19
    have hj2 : j = 1 ∨ j = 5 ∨ j = 14 ∨ j = 16 := by
      rcases hj with q | q | q | q | q | q | ⟨q, _⟩ | ⟨_, q | q | q⟩ <;> first | (exact absurd q (by omega)) | omega
    rw [← nmL_upd (f := I 17) j hj2, ← hn3]
    rcases hm4 with q | ⟨z0, d0, r0, q⟩
    · rw [q]
    · rw [q]; simp only [nmS]; rw [upd_n (by omega), upd_n (by omega), upd_n h4, upd_n h2]
  refine Ex.aload_n (pc := 13) dX6_preach_13 rfl rfl ?_
  refine Ex.getR (pc := 14) dX6_preach_14 fX6_41 (sh10 _) r10_4 ?_
  refine Ex.iload_n (pc := 17) dX6_preach_17 rfl rfl ?_
  refine Ex.aload_n (pc := 18) dX6_preach_18 rfl rfl ?_
  refine Ex.getI (pc := 19) dX6_preach_19 fX6_25 (sh16 _) ?_
  refine Ex.iast (pc := 22) (j := b) dX6_preach_22 (sh11 _) (vp_in_nI hb (by decide)) (ixN2 (by omega)) ?_
  refine Ex.aload_n (pc := 23) dX6_preach_23 rfl rfl ?_
  refine Ex.getR (pc := 24) dX6_preach_24 fX6_45 (sh10 _) r10_5 ?_
  refine Ex.iload_n (pc := 27) dX6_preach_27 rfl rfl ?_
  refine Ex.aload_n (pc := 28) dX6_preach_28 rfl rfl ?_
  refine Ex.getI (pc := 29) dX6_preach_29 fX6_28 (sh16 _) ?_
  refine Ex.iast (pc := 32) (j := s) dX6_preach_32 (sh12 _) (vp_in_nI hs (by decide)) (ixN2 (by omega)) ?_
  refine Ex.aload_n (pc := 33) dX6_preach_33 rfl rfl ?_
  refine Ex.getR (pc := 34) dX6_preach_34 fX6_9 (sh16 _) r16_1 ?_
  refine Ex.iconst (pc := 37) (v := 2) dX6_preach_37 rfl ?_
  refine Ex.aload_n (pc := 38) dX6_preach_38 rfl rfl ?_
  refine Ex.getI (pc := 39) dX6_preach_39 fX6_25 (sh16 _) ?_
  refine Ex.iast (pc := 42) (j := 2) dX6_preach_42 (sh17 _) (by unfold vp_in; decide) (by decide) ?_
  refine Ex.aload_n (pc := 43) dX6_preach_43 rfl rfl ?_
  refine Ex.getR (pc := 44) dX6_preach_44 fX6_9 (sh16 _) r16_1 ?_
  refine Ex.iconst (pc := 47) (v := 4) dX6_preach_47 rfl ?_
  refine Ex.aload_n (pc := 48) dX6_preach_48 rfl rfl ?_
  refine Ex.getI (pc := 49) dX6_preach_49 fX6_28 (sh16 _) ?_
  refine Ex.iast (pc := 52) (j := 4) dX6_preach_52 (sh17 _) (by unfold vp_in; decide) (by decide) ?_
  refine Ex.aload_n (pc := 53) dX6_preach_53 rfl rfl ?_
  refine Ex.getR (pc := 54) dX6_preach_54 fX6_9 (sh16 _) r16_1 ?_
  refine Ex.bipush (pc := 57) (v := 19) dX6_preach_57 rfl ?_
  refine Ex.aload_n (pc := 59) dX6_preach_59 rfl rfl ?_
  refine Ex.getI (pc := 60) dX6_preach_60 fX6_34 (sh16 _) ?_
  refine Ex.iast (pc := 63) (j := 19) dX6_preach_63 (sh17 _) (by unfold vp_in; decide) (by decide) ?_
  obtain ⟨I5, hI5⟩ : ∃ z, z = va_up (va_up (va_up I4 11 (upd (I4 11) b T.1)) 12 (upd (I4 12) s T.2.1)) 17 (upd (upd (upd (I4 17) 2 T.1) 4 T.2.1) 19 T.2.2.2) := ⟨_, rfl⟩
  refine Ex.mm (S' := St N I5 L) ?_ ?_
  · rw [hI5, ← z5, ← z6, ← z8]; simp only [bx_uu, va_up_s, va_up_n (show (16 : Nat) ≠ 11 by decide), va_up_n (show (16 : Nat) ≠ 12 by decide), va_up_n (show (16 : Nat) ≠ 17 by decide), va_up_n (show (17 : Nat) ≠ 11 by decide), va_up_n (show (17 : Nat) ≠ 12 by decide), va_up_n (show (12 : Nat) ≠ 11 by decide)]
  have hS5 : Sm [10, 11, 12, 16, 17, 18] I I5 := by rw [hI5]; exact (((hS34.tr Sm.rf (l2 := []) (by decide) (by decide)).up (by decide)).up (by decide)).up (by decide)
  have hp5 : PlanG N I5 p := hp.sm hS5 (by decide) (by decide) (by decide) (by decide)
  have hh5 : I5 3 2 = nI nh := by rw [hS5 3 (by decide)]; exact hh
  have ea : I5 10 = I 10 := by rw [hI5, va_up_n (by decide), va_up_n (by decide), va_up_n (by decide), hS34 10 (by decide)]
  have e17 : I5 17 = upd (upd (upd (I4 17) 2 T.1) 4 T.2.1) 19 T.2.2.2 := by rw [hI5, va_up_s]
  have hrow5 : ∀ j, alw 3 j → j ≠ 7 → j ≠ 8 → I5 17 j = vrow (I 5) (I 6) (xOf I 10) b s T j := by
    intro j hj h7 h8
    rw [e17]
    unfold vrow nmV
    by_cases h19 : j = 19
    · rw [h19, upd_s, upd_s]
    · rw [upd_n h19, upd_n h19]
      by_cases h4 : j = 4
      · rw [h4, upd_s, upd_s]
      · rw [upd_n h4, upd_n h4]
        by_cases h2 : j = 2
        · rw [h2, upd_s, upd_s]
        · rw [upd_n h2, upd_n h2]; exact hrow j hj h7 h8 h2 h4 h19
  refine Ex.aload_n (pc := 64) dX6_preach_64 rfl rfl ?_
  refine Ex.astore (pc := 65) (ls' := [some (.ref 16), some (.ref 10), some (.int _), some (.int _), some (.int _), some (.ref 10)]) dX6_preach_65 (by decide) rfl rfl ?_
  refine Ex.aload (pc := 67) dX6_preach_67 rfl ?_
  refine Ex.aload (pc := 69) dX6_preach_69 rfl ?_
  refine Ex.getI (pc := 71) dX6_preach_71 fX6_82 (sh10 _) ?_
  refine Ex.aload_n (pc := 74) dX6_preach_74 rfl rfl ?_
  refine Ex.bipush (pc := 75) (v := 11) dX6_preach_75 rfl ?_
  refine Ex.aload_n (pc := 77) dX6_preach_77 rfl rfl ?_
  refine Ex.getI (pc := 78) dX6_preach_78 fX6_82 (sh10 _) ?_
  refine Ex.iconst (pc := 81) (v := (-1)) dX6_preach_81 rfl ?_
  refine Ex.ixor (pc := 82) dX6_preach_82 ?_
  refine Ex.callV (pc := 83) (As := [.int 11, .int _]) (rest := [.int _, .ref 10]) dX6_preach_83 cX6_85 (t_whoHolds (p := p) (r := 2) (nh := nh) hp5 (by decide) hh5 hn6) (sh16 _) rfl rfl (by decide) (Nat.le_refl _) (Nat.le_refl _) (Nat.le_of_ble_eq_true rfl) (Or.inl (fun r S' h => by obtain ⟨_, _, h, _⟩ := h; subst h; rfl)) (fun r S' hq _ _ => ?_)
  obtain ⟨I6, rfl, rfl, hS6, hj6⟩ := hq
  have hwho : whoF p (I5 17) 2 (fun k => I5 5 (12 + k)) (fun k => I5 6 (12 + k)) (I5 10 2 ^^^ (-1)) nh = whoX p (vrow (I 5) (I 6) (xOf I 10) b s T) (I 5) (I 6) 2 (I 10 2 ^^^ (-1)) nh := by
    rw [ea, hS5 5 (by decide), hS5 6 (by decide)]
    exact whoF_congr hp.2 (by decide) _ _ _ (fun j hj h7 h8 => hrow5 j (by rcases hj with q | q | q | q | q | q | ⟨q, _⟩ | ⟨_, q⟩ <;> first | (exact absurd q (by omega)) | (unfold alw; omega)) h7 h8) nh
  rw [hwho, ea]
  refine Ex.ior (pc := 86) dX6_preach_86 ?_
  refine Ex.dup_x1 (pc := 87) dX6_preach_87 rfl rfl ?_
  refine Ex.putI (pc := 88) dX6_preach_88 fX6_82 (sh10 _) (Or.inl rfl) ⟨rfl, rfl⟩ ?_
  refine Ex.pop (pc := 91) dX6_preach_91 rfl ?_
  refine Ex.vret (pc := 92) rfl dX6_preach_92 (Nat.le_refl _) (Nat.le_refl _) ?_
  refine ⟨_, rfl, rfl, ?_, ?_, ?_, ?_, ?_, ?_, ?_⟩
  · exact (hS5.tr hS6 (by decide) (by decide)).up (by decide)
  · have e1 : I6 10 = I 10 := by rw [hS6 10 (by decide), ea]
    have e2 : I6 11 = upd (I 11) b T.1 := by rw [hS6 11 (by decide), hI5, va_up_n (by decide), va_up_n (by decide), va_up_s, hS34 11 (by decide)]
    have e3 : I6 12 = upd (I 12) s T.2.1 := by rw [hS6 12 (by decide), hI5, va_up_n (by decide), va_up_s, hS34 12 (by decide)]
    simp only [xOf, preachX, va_up_s, va_up_n (show (11 : Nat) ≠ 10 by decide), va_up_n (show (12 : Nat) ≠ 10 by decide), e2, e3, upd_s, upd_n (show (0 : Nat) ≠ 2 by decide), upd_n (show (1 : Nat) ≠ 2 by decide), e1]
    rw [show rubX p (I 5) (I 6) (I 10 0, I 10 1, I 10 2, I 11, I 12) b s n = T from hT]
  · rw [va_up_s, upd_n (by decide), hS6 10 (by decide), ea]
  · rw [← hr4]; simp only [tOf]; rw [va_up_n (by decide), hS6 16 (by decide), hI5, va_up_n (by decide), va_up_n (by decide), va_up_n (by decide)]
  · rw [va_up_n (by decide), hS6 16 (by decide), hI5, va_up_n (by decide), va_up_n (by decide), va_up_n (by decide), hj4 3 (by decide)]; exact hb3
  · rw [va_up_n (by decide), hS6 16 (by decide), hI5, va_up_n (by decide), va_up_n (by decide), va_up_n (by decide), hj4 4 (by decide)]; exact hs3
  · intro j hj h7 h8
    rw [va_up_n (by decide), hj6 j h7 h8]
    exact hrow5 j hj h7 h8
set_option maxRecDepth 20000 in
theorem t_preach13 {N : Nat} {I : aI} {L : aL} {p : aP} {b s n nh : Nat} (hp : PlanG N I p) (hb : b < 5) (hs : s < 6) (hn : n < 1000) (hh : I 3 2 = nI nh) (hn6 : nh ≤ 6) : Run 4 0 0 mX6_preach [.ref 16, .ref 13, .int (nI b), .int (nI s), .int (nI n)] (St N I L) (RP none N L (fun I2 => Sm [13, 14, 15, 16, 17, 18] I I2 ∧ xOf I2 13 = preachX p (I 5) (I 6) nh (xOf I 13) b s n ∧ I2 13 3 = I 13 3 ∧ tOf I2 = rubX p (I 5) (I 6) (xOf I 13) b s n ∧ I2 16 3 = nI b ∧ I2 16 4 = nI s ∧ ∀ j, alw 3 j → j ≠ 7 → j ≠ 8 → I2 17 j = vrow (I 5) (I 6) (xOf I 13) b s (rubX p (I 5) (I 6) (xOf I 13) b s n) j)) := by
  refine Run.of (ls := [some (.ref 16), some (.ref 13), some (.int _), some (.int _), some (.int _), none]) (by decide) (Nat.le_of_ble_eq_true rfl) rfl ?_
  refine Ex.aload_n (pc := 0) dX6_preach_0 rfl rfl ?_
  refine Ex.aload_n (pc := 1) dX6_preach_1 rfl rfl ?_
  refine Ex.iload_n (pc := 2) dX6_preach_2 rfl rfl ?_
  refine Ex.iload_n (pc := 3) dX6_preach_3 rfl rfl ?_
  refine Ex.callV (pc := 4) (As := [.ref 13, .int _, .int _]) (rest := []) dX6_preach_4 cX6_74 (t_lay13 (b := b) (s := s) hb hs) (sh16 _) rfl rfl (by decide) (Nat.le_refl _) (Nat.le_refl _) (Nat.le_of_ble_eq_true rfl) (Or.inl (fun r S' h => by obtain ⟨_, _, h, _⟩ := h; subst h; rfl)) (fun r S' hq _ _ => ?_)
  obtain ⟨I3, rfl, rfl, hS3, hb3, hs3, ht3, hn3⟩ := hq
  have hp3 := hp.sm hS3 (by decide) (by decide) (by decide) (by decide)
  refine Ex.aload_n (pc := 7) dX6_preach_7 rfl rfl ?_
  refine Ex.iload (pc := 8) dX6_preach_8 rfl ?_
  refine Ex.callV (pc := 10) (As := [.int _]) (rest := []) dX6_preach_10 cX6_78 (t_rub (p := p) (n := n) hp3.1 hn) (sh16 _) rfl rfl (by decide) (Nat.le_refl _) (Nat.le_refl _) (Nat.le_of_ble_eq_true rfl) (Or.inl (fun r S' h => by obtain ⟨_, _, h, _⟩ := h; subst h; rfl)) (fun r S' hq _ _ => ?_)
  obtain ⟨I4, rfl, rfl, hS4, hj4, ht4, hm4⟩ := hq
  have hr4 : tOf I4 = rubX p (I 5) (I 6) (xOf I 13) b s n := by
    rw [ht4, ht3, hn3]
    exact rubF_congr hp.2 (fun j hj => nmL_upd j hj) _ _
  have hS34 : Sm [16, 17, 18] I I4 := hS3.tr hS4 (by decide) (by decide)
  generalize hT : rubX p (I 5) (I 6) (xOf I 13) b s n = T at *
  have z5 : I4 16 5 = T.1 := by rw [← hr4]; rfl
  have z6 : I4 16 6 = T.2.1 := by rw [← hr4]; rfl
  have z8 : I4 16 8 = T.2.2.2 := by rw [← hr4]; rfl
  have hrow : ∀ j, alw 3 j → j ≠ 7 → j ≠ 8 → j ≠ 2 → j ≠ 4 → j ≠ 19 → I4 17 j = nmL (I 5 b) (I 6 (6 + s)) (I 13 1) (I 13 0) j := by
    intro j hj h7 h8 h2 h4 h19
    have hj2 : j = 1 ∨ j = 5 ∨ j = 14 ∨ j = 16 := by
      rcases hj with q | q | q | q | q | q | ⟨q, _⟩ | ⟨_, q | q | q⟩ <;> first | (exact absurd q (by omega)) | omega
    rw [← nmL_upd (f := I 17) j hj2, ← hn3]
    rcases hm4 with q | ⟨z0, d0, r0, q⟩
    · rw [q]
    · rw [q]; simp only [nmS]; rw [upd_n (by omega), upd_n (by omega), upd_n h4, upd_n h2]
  refine Ex.aload_n (pc := 13) dX6_preach_13 rfl rfl ?_
  refine Ex.getR (pc := 14) dX6_preach_14 fX6_41 (sh13 _) r13_4 ?_
  refine Ex.iload_n (pc := 17) dX6_preach_17 rfl rfl ?_
  refine Ex.aload_n (pc := 18) dX6_preach_18 rfl rfl ?_
  refine Ex.getI (pc := 19) dX6_preach_19 fX6_25 (sh16 _) ?_
  refine Ex.iast (pc := 22) (j := b) dX6_preach_22 (sh14 _) (vp_in_nI hb (by decide)) (ixN2 (by omega)) ?_
  refine Ex.aload_n (pc := 23) dX6_preach_23 rfl rfl ?_
  refine Ex.getR (pc := 24) dX6_preach_24 fX6_45 (sh13 _) r13_5 ?_
  refine Ex.iload_n (pc := 27) dX6_preach_27 rfl rfl ?_
  refine Ex.aload_n (pc := 28) dX6_preach_28 rfl rfl ?_
  refine Ex.getI (pc := 29) dX6_preach_29 fX6_28 (sh16 _) ?_
  refine Ex.iast (pc := 32) (j := s) dX6_preach_32 (sh15 _) (vp_in_nI hs (by decide)) (ixN2 (by omega)) ?_
  refine Ex.aload_n (pc := 33) dX6_preach_33 rfl rfl ?_
  refine Ex.getR (pc := 34) dX6_preach_34 fX6_9 (sh16 _) r16_1 ?_
  refine Ex.iconst (pc := 37) (v := 2) dX6_preach_37 rfl ?_
  refine Ex.aload_n (pc := 38) dX6_preach_38 rfl rfl ?_
  refine Ex.getI (pc := 39) dX6_preach_39 fX6_25 (sh16 _) ?_
  refine Ex.iast (pc := 42) (j := 2) dX6_preach_42 (sh17 _) (by unfold vp_in; decide) (by decide) ?_
  refine Ex.aload_n (pc := 43) dX6_preach_43 rfl rfl ?_
  refine Ex.getR (pc := 44) dX6_preach_44 fX6_9 (sh16 _) r16_1 ?_
  refine Ex.iconst (pc := 47) (v := 4) dX6_preach_47 rfl ?_
  refine Ex.aload_n (pc := 48) dX6_preach_48 rfl rfl ?_
  refine Ex.getI (pc := 49) dX6_preach_49 fX6_28 (sh16 _) ?_
  refine Ex.iast (pc := 52) (j := 4) dX6_preach_52 (sh17 _) (by unfold vp_in; decide) (by decide) ?_
  refine Ex.aload_n (pc := 53) dX6_preach_53 rfl rfl ?_
  refine Ex.getR (pc := 54) dX6_preach_54 fX6_9 (sh16 _) r16_1 ?_
  refine Ex.bipush (pc := 57) (v := 19) dX6_preach_57 rfl ?_
  refine Ex.aload_n (pc := 59) dX6_preach_59 rfl rfl ?_
  refine Ex.getI (pc := 60) dX6_preach_60 fX6_34 (sh16 _) ?_
  refine Ex.iast (pc := 63) (j := 19) dX6_preach_63 (sh17 _) (by unfold vp_in; decide) (by decide) ?_
  obtain ⟨I5, hI5⟩ : ∃ z, z = va_up (va_up (va_up I4 14 (upd (I4 14) b T.1)) 15 (upd (I4 15) s T.2.1)) 17 (upd (upd (upd (I4 17) 2 T.1) 4 T.2.1) 19 T.2.2.2) := ⟨_, rfl⟩
  refine Ex.mm (S' := St N I5 L) ?_ ?_
  · rw [hI5, ← z5, ← z6, ← z8]; simp only [bx_uu, va_up_s, va_up_n (show (16 : Nat) ≠ 14 by decide), va_up_n (show (16 : Nat) ≠ 15 by decide), va_up_n (show (16 : Nat) ≠ 17 by decide), va_up_n (show (17 : Nat) ≠ 14 by decide), va_up_n (show (17 : Nat) ≠ 15 by decide), va_up_n (show (15 : Nat) ≠ 14 by decide)]
  have hS5 : Sm [13, 14, 15, 16, 17, 18] I I5 := by rw [hI5]; exact (((hS34.tr Sm.rf (l2 := []) (by decide) (by decide)).up (by decide)).up (by decide)).up (by decide)
  have hp5 : PlanG N I5 p := hp.sm hS5 (by decide) (by decide) (by decide) (by decide)
  have hh5 : I5 3 2 = nI nh := by rw [hS5 3 (by decide)]; exact hh
  have ea : I5 13 = I 13 := by rw [hI5, va_up_n (by decide), va_up_n (by decide), va_up_n (by decide), hS34 13 (by decide)]
  have e17 : I5 17 = upd (upd (upd (I4 17) 2 T.1) 4 T.2.1) 19 T.2.2.2 := by rw [hI5, va_up_s]
  have hrow5 : ∀ j, alw 3 j → j ≠ 7 → j ≠ 8 → I5 17 j = vrow (I 5) (I 6) (xOf I 13) b s T j := by
    intro j hj h7 h8
    rw [e17]
    unfold vrow nmV
    by_cases h19 : j = 19
    · rw [h19, upd_s, upd_s]
    · rw [upd_n h19, upd_n h19]
      by_cases h4 : j = 4
      · rw [h4, upd_s, upd_s]
      · rw [upd_n h4, upd_n h4]
        by_cases h2 : j = 2
        · rw [h2, upd_s, upd_s]
        · rw [upd_n h2, upd_n h2]; exact hrow j hj h7 h8 h2 h4 h19
  refine Ex.aload_n (pc := 64) dX6_preach_64 rfl rfl ?_
  refine Ex.astore (pc := 65) (ls' := [some (.ref 16), some (.ref 13), some (.int _), some (.int _), some (.int _), some (.ref 13)]) dX6_preach_65 (by decide) rfl rfl ?_
  refine Ex.aload (pc := 67) dX6_preach_67 rfl ?_
  refine Ex.aload (pc := 69) dX6_preach_69 rfl ?_
  refine Ex.getI (pc := 71) dX6_preach_71 fX6_82 (sh13 _) ?_
  refine Ex.aload_n (pc := 74) dX6_preach_74 rfl rfl ?_
  refine Ex.bipush (pc := 75) (v := 11) dX6_preach_75 rfl ?_
  refine Ex.aload_n (pc := 77) dX6_preach_77 rfl rfl ?_
  refine Ex.getI (pc := 78) dX6_preach_78 fX6_82 (sh13 _) ?_
  refine Ex.iconst (pc := 81) (v := (-1)) dX6_preach_81 rfl ?_
  refine Ex.ixor (pc := 82) dX6_preach_82 ?_
  refine Ex.callV (pc := 83) (As := [.int 11, .int _]) (rest := [.int _, .ref 13]) dX6_preach_83 cX6_85 (t_whoHolds (p := p) (r := 2) (nh := nh) hp5 (by decide) hh5 hn6) (sh16 _) rfl rfl (by decide) (Nat.le_refl _) (Nat.le_refl _) (Nat.le_of_ble_eq_true rfl) (Or.inl (fun r S' h => by obtain ⟨_, _, h, _⟩ := h; subst h; rfl)) (fun r S' hq _ _ => ?_)
  obtain ⟨I6, rfl, rfl, hS6, hj6⟩ := hq
  have hwho : whoF p (I5 17) 2 (fun k => I5 5 (12 + k)) (fun k => I5 6 (12 + k)) (I5 13 2 ^^^ (-1)) nh = whoX p (vrow (I 5) (I 6) (xOf I 13) b s T) (I 5) (I 6) 2 (I 13 2 ^^^ (-1)) nh := by
    rw [ea, hS5 5 (by decide), hS5 6 (by decide)]
    exact whoF_congr hp.2 (by decide) _ _ _ (fun j hj h7 h8 => hrow5 j (by rcases hj with q | q | q | q | q | q | ⟨q, _⟩ | ⟨_, q⟩ <;> first | (exact absurd q (by omega)) | (unfold alw; omega)) h7 h8) nh
  rw [hwho, ea]
  refine Ex.ior (pc := 86) dX6_preach_86 ?_
  refine Ex.dup_x1 (pc := 87) dX6_preach_87 rfl rfl ?_
  refine Ex.putI (pc := 88) dX6_preach_88 fX6_82 (sh13 _) (Or.inl rfl) ⟨rfl, rfl⟩ ?_
  refine Ex.pop (pc := 91) dX6_preach_91 rfl ?_
  refine Ex.vret (pc := 92) rfl dX6_preach_92 (Nat.le_refl _) (Nat.le_refl _) ?_
  refine ⟨_, rfl, rfl, ?_, ?_, ?_, ?_, ?_, ?_, ?_⟩
  · exact (hS5.tr hS6 (by decide) (by decide)).up (by decide)
  · have e1 : I6 13 = I 13 := by rw [hS6 13 (by decide), ea]
    have e2 : I6 14 = upd (I 14) b T.1 := by rw [hS6 14 (by decide), hI5, va_up_n (by decide), va_up_n (by decide), va_up_s, hS34 14 (by decide)]
    have e3 : I6 15 = upd (I 15) s T.2.1 := by rw [hS6 15 (by decide), hI5, va_up_n (by decide), va_up_s, hS34 15 (by decide)]
    simp only [xOf, preachX, va_up_s, va_up_n (show (14 : Nat) ≠ 13 by decide), va_up_n (show (15 : Nat) ≠ 13 by decide), e2, e3, upd_s, upd_n (show (0 : Nat) ≠ 2 by decide), upd_n (show (1 : Nat) ≠ 2 by decide), e1]
    rw [show rubX p (I 5) (I 6) (I 13 0, I 13 1, I 13 2, I 14, I 15) b s n = T from hT]
  · rw [va_up_s, upd_n (by decide), hS6 13 (by decide), ea]
  · rw [← hr4]; simp only [tOf]; rw [va_up_n (by decide), hS6 16 (by decide), hI5, va_up_n (by decide), va_up_n (by decide), va_up_n (by decide)]
  · rw [va_up_n (by decide), hS6 16 (by decide), hI5, va_up_n (by decide), va_up_n (by decide), va_up_n (by decide), hj4 3 (by decide)]; exact hb3
  · rw [va_up_n (by decide), hS6 16 (by decide), hI5, va_up_n (by decide), va_up_n (by decide), va_up_n (by decide), hj4 4 (by decide)]; exact hs3
  · intro j hj h7 h8
    rw [va_up_n (by decide), hj6 j h7 h8]
    exact hrow5 j hj h7 h8
