/-- depths and zinc are small -/
def XB (x : aX) : Prop := (∀ j, le99 (x.2.2.2.1 j)) ∧ ∀ j, le99 (x.2.2.2.2 j)
/-- who is saved in slot v -/
theorem XR.sv {I I2 : aI} {v nb ns : Nat} {x : aX} {q : Int32} {l : List Nat} (h : XR I v nb ns x) (hS : Sm l I I2) (h63 : 63 ∉ l) (h64 : 64 ∉ l) (h65 : 65 ∉ l) (h66 : 66 ∉ l) (e : I2 67 v = q) : XR I2 v nb ns (x.1, x.2.1, q, x.2.2.2.1, x.2.2.2.2) := by
  obtain ⟨x1, x2, x3, x4, x5⟩ := h
  refine ⟨?_, ?_, e, ?_, ?_⟩
  · rw [hS 63 h63]; exact x1
  · rw [hS 64 h64]; exact x2
  · rw [hS 65 h65]; exact x4
  · rw [hS 66 h66]; exact x5
theorem SlF.sv {v : Nat} {I I2 : aI} {q : Int32} {l : List Nat} (hS : Sm l I I2) (h : ∀ a ∈ l, a ≠ 63 ∧ a ≠ 64 ∧ a ≠ 65 ∧ a ≠ 66 ∧ a ≠ 68 ∧ a ≠ 69) (e : I2 67 = upd (I 67) v q) : SlF v I I2 := by
  refine ⟨fun j hj => ⟨?_, ?_, ?_, ?_⟩, fun j _ => ?_, fun j _ => ?_, fun j _ => ?_⟩
  · rw [hS 63 (fun q => (h _ q).1 rfl)]
  · rw [hS 64 (fun q => (h _ q).2.1 rfl)]
  · rw [e, upd_n hj]
  · rw [hS 68 (fun q => (h _ q).2.2.2.2.1 rfl)]
  · rw [hS 65 (fun q => (h _ q).2.2.1 rfl)]
  · rw [hS 66 (fun q => (h _ q).2.2.2.1 rfl)]
  · rw [hS 69 (fun q => (h _ q).2.2.2.2.2 rfl)]
set_option maxRecDepth 20000 in
theorem tm_preaches {N : Nat} {I : aI} {L : aL} {p : aP} {bk nb ns nh v b s : Nat} {f5 f6 : Nat → Int32} {x : aX} (hP : RefP I bk nb ns nh p f5 f6) (hX : XR I v nb ns x) (hv : v < 22) (hb : b < nb) (hs : s < ns) {n : Nat} {rs : List aRow} (hn : n < 1000) (hxb : XB x) (hK : KR I v rs) : Run 5 0 0 mX10_preaches [.ref 36, .int (nI v), .int (nI b), .int (nI s), .int (nI n)] (St N I L) (RX N (fun w I2 L2 => w = some (.int (rubX p f5 f6 x b s n).2.2.2) ∧ Sm [65, 66, 67, 68, 69, 71] I I2 ∧ SmL [70] L L2 ∧ SlF v I I2 ∧ XR I2 v nb ns (preachX p f5 f6 nh x b s n) ∧ KR I2 v (addR rs (x.1, nI b, nI s, (rubX p f5 f6 x b s n).2.2.2)))) := by
  refine Run.of (ls := [some (.ref 36), some (.int _), some (.int _), some (.int _), some (.int _), none, none, none]) (by decide) (Nat.le_of_ble_eq_true rfl) rfl ?_
  obtain ⟨⟨h1, h2, hnb, hns, hnh, hcb, hcs, hch⟩, hC, hT, hf1, hf2, hf3⟩ := id hP
  obtain ⟨x1, x2, x3, x4, x5⟩ := id hX
  have hcame := rub_came p (nmL (f5 b) (f6 (6 + s)) x.2.1 x.1) n (x.2.2.2.1 b) (x.2.2.2.2 s)
  rw [show rubF p (nmL (f5 b) (f6 (6 + s)) x.2.1 x.1) n (x.2.2.2.1 b, x.2.2.2.2 s, 0, 0) = rubX p f5 f6 x b s n from rfl] at hcame
  obtain ⟨t, ht⟩ : ∃ t, t = rubX p f5 f6 x b s n := ⟨_, rfl⟩
  rw [← ht] at hcame
  refine Ex.aload_n (pc := 0) dX10_preaches_0 rfl rfl ?_
  refine Ex.getR (pc := 1) dX10_preaches_1 fX10_162 (sh36 _) r36_49 ?_
  refine Ex.bipush (pc := 4) (v := 6) dX10_preaches_4 rfl ?_
  refine Ex.iload_n (pc := 6) dX10_preaches_6 rfl rfl ?_
  refine Ex.imul (pc := 7) dX10_preaches_7 ?_
  refine Ex.iload_n (pc := 8) dX10_preaches_8 rfl rfl ?_
  refine Ex.iadd (pc := 9) dX10_preaches_9 ?_
  refine Ex.iald (pc := 10) (j := 6 * v + s) dX10_preaches_10 (sh66 _) (ixE (c := 6) (a := v) (b := s) rfl rfl (by omega) (by decide)) (ixE2 (c := 6) rfl rfl (by omega)) ?_
  rw [x5 s hs]
  refine Ex.istore (pc := 11) (ls' := [some (.ref 36), some (.int _), some (.int _), some (.int _), some (.int _), some (.int _), none, none]) dX10_preaches_11 (by decide) rfl rfl ?_
  refine Ex.aload_n (pc := 13) dX10_preaches_13 rfl rfl ?_
  refine Ex.iload_n (pc := 14) dX10_preaches_14 rfl rfl ?_
  refine Ex.iload_n (pc := 15) dX10_preaches_15 rfl rfl ?_
  refine Ex.iload_n (pc := 16) dX10_preaches_16 rfl rfl ?_
  refine Ex.iload (pc := 17) dX10_preaches_17 rfl ?_
  refine Ex.callV (pc := 19) (As := [.int _, .int _, .int _, .int _]) (rest := []) dX10_preaches_19 cX10_441 (tm_rubs hP hX hv hb hs hn (hxb.1 b) (hxb.2 s)) (sh36 _) rfl rfl (by decide) (Nat.le_refl _) (Nat.le_refl _) (Nat.le_of_ble_eq_true rfl) (Or.inl (fun r S' h => by obtain ⟨_, _, h, _⟩ := h; subst h; rfl)) (fun r S' hq _ _ => ?_)
  obtain ⟨I1, L1, rfl, rfl, hS1, hSL1, e65, e66⟩ := hq
  rw [← ht] at e65 e66
  have hP1 : RefP I1 bk nb ns nh p f5 f6 := hP.sm hS1 (by decide)
  have hX1 : XR I1 v nb ns (xSet x b s t.1 t.2.1) := hX.set hS1 (by decide) (by decide) (by decide) e65 e66
  have hK1 : KR I1 v rs := hK.sm hS1 (by decide) (by decide)
  have hF1 : SlF v I I1 := SlF.set hS1 (by decide) (by omega) (by omega) e65 e66
  have e67 : I1 67 v = x.2.2.1 := by rw [hS1 67 (by decide), x3]
  refine Ex.pop (pc := 22) dX10_preaches_22 rfl ?_
  refine Ex.iload (pc := 23) dX10_preaches_23 rfl ?_
  refine Ex.aload_n (pc := 25) dX10_preaches_25 rfl rfl ?_
  refine Ex.getR (pc := 26) dX10_preaches_26 fX10_162 (sh36 _) r36_49 ?_
  refine Ex.bipush (pc := 29) (v := 6) dX10_preaches_29 rfl ?_
  refine Ex.iload_n (pc := 31) dX10_preaches_31 rfl rfl ?_
  refine Ex.imul (pc := 32) dX10_preaches_32 ?_
  refine Ex.iload_n (pc := 33) dX10_preaches_33 rfl rfl ?_
  refine Ex.iadd (pc := 34) dX10_preaches_34 ?_
  refine Ex.iald (pc := 35) (j := 6 * v + s) dX10_preaches_35 (sh66 _) (ixE (c := 6) (a := v) (b := s) rfl rfl (by omega) (by decide)) (ixE2 (c := 6) rfl rfl (by omega)) ?_
  refine Ex.isub (pc := 36) dX10_preaches_36 ?_
  rw [e66, upd_s, hcame]
  refine Ex.istore (pc := 37) (ls' := [some (.ref 36), some (.int _), some (.int _), some (.int _), some (.int _), some (.int _), some (.int _), none]) dX10_preaches_37 (by decide) rfl rfl ?_
  refine Ex.iconst (pc := 39) (v := 0) dX10_preaches_39 rfl ?_
  refine Ex.istore (pc := 40) (ls' := [some (.ref 36), some (.int _), some (.int _), some (.int _), some (.int _), some (.int _), some (.int _), some (.int 0)]) dX10_preaches_40 (by decide) rfl rfl ?_
  refine forUp (σ := aI × aL) (P := fun k q => Ex 5 0 0 mX10_preaches 0 0 42 [some (.ref 36), some (.int (nI v)), some (.int (nI b)), some (.int (nI s)), some (.int (nI n)), some (.int (x.2.2.2.2 s)), some (.int t.2.2.2), some (.int (nI k))] [] (St N q.1 q.2) _) (Inv := fun k q => Sm [67, 71] I1 q.1 ∧ SmL [70] L1 q.2 ∧ q.1 67 = upd (I1 67) v (x.2.2.1 ||| (whoF p (vrow f5 f6 x b s t) 2 (fun k => f5 (12 + k)) (fun k => f6 (12 + k)) (x.2.2.1 ^^^ (-1)) k))) nh ?_ ?_ 0 (I1, L1) (Nat.zero_le _) ⟨Sm.rf, SmL.rf, ?_⟩
  · rintro ⟨I2, L2⟩ ⟨hS, hSL, e67b⟩
    dsimp only at *
    have hb2 : I2 36 13 = nI bk := by rw [hS 36 (by decide), hP1.1.2.1]
    have hn2 : I2 44 bk = nI nh := by rw [hS 44 (by decide), hP1.1.2.2.2.2.2.2.2]
    have hF2 : SlF v I1 I2 := SlF.sv hS (by decide) e67b
    have hX2 : XR I2 v nb ns (preachX p f5 f6 nh x b s n) := by
      have := hX1.sv (q := x.2.2.1 ||| (whoF p (vrow f5 f6 x b s t) 2 (fun k => f5 (12 + k)) (fun k => f6 (12 + k)) (x.2.2.1 ^^^ (-1)) nh)) hS (by decide) (by decide) (by decide) (by decide) (by rw [e67b, upd_s])
      unfold preachX
      rw [← ht]
      exact this
    have hK2 : KR I2 v rs := hK1.sm hS (by decide) (by decide)
    have hw : I2 63 v = x.1 := by rw [hS 63 (by decide), hS1 63 (by decide), x1]
    refine Ex.iload (pc := 42) dX10_preaches_42 rfl ?_
    refine Ex.aload_n (pc := 44) dX10_preaches_44 rfl rfl ?_
    refine Ex.getR (pc := 45) dX10_preaches_45 fX10_72 (sh36 _) r36_20 ?_
    refine Ex.aload_n (pc := 48) dX10_preaches_48 rfl rfl ?_
    refine Ex.getI (pc := 49) dX10_preaches_49 fX10_51 (sh36 _) ?_
    refine Ex.iald (pc := 52) (j := bk) dX10_preaches_52 (sh44 _) (ixX hb2 h1 (by decide)) (ixX2 hb2 (by omega)) ?_
    rw [hn2]
    refine Ex.icmp_ge (pc := 53) (tgt := 104) dX10_preaches_53 (by decide) (fun _ => ?_) (fun c53 => absurd (nI_le (Nat.le_refl _) (by omega)) c53)
    refine Ex.aload_n (pc := 104) dX10_preaches_104 rfl rfl ?_
    refine Ex.iload_n (pc := 105) dX10_preaches_105 rfl rfl ?_
    refine Ex.iload_n (pc := 106) dX10_preaches_106 rfl rfl ?_
    refine Ex.iload_n (pc := 107) dX10_preaches_107 rfl rfl ?_
    refine Ex.iload (pc := 108) dX10_preaches_108 rfl ?_
    refine Ex.callV (pc := 110) (As := [.int _, .int _, .int _, .int _]) (rest := []) dX10_preaches_110 cX10_453 (tm_writesDown hv hK2) (sh36 _) rfl rfl (by decide) (Nat.le_refl _) (Nat.le_refl _) (Nat.le_of_ble_eq_true rfl) (Or.inl (fun r S' h => by obtain ⟨_, _, h, _⟩ := h; subst h; rfl)) (fun r S' hq _ _ => ?_)
    obtain ⟨I3, rfl, rfl, hS3, hF3, hK3⟩ := hq
    refine Ex.iload (pc := 113) dX10_preaches_113 rfl ?_
    refine Ex.iret (pc := 115) rfl rfl rfl dX10_preaches_115 (Nat.le_refl _) (Nat.le_refl _) ?_
    rw [hw] at hK3
    refine ⟨_, _, rfl, by rw [ht], ?_, hSL1.tr hSL (by decide) (by decide), (hF1.tr hF2).tr hF3, hX2.sm hS3 (by decide), by rw [← ht]; exact hK3⟩
    exact (hS1.tr hS (l := [65, 66, 67, 68, 69, 71]) (by decide) (by decide)).tr hS3 (by decide) (by decide)
  · rintro k ⟨I2, L2⟩ hk ⟨hS, hSL, e67b⟩ ih
    dsimp only at *
    have hb2 : I2 36 13 = nI bk := by rw [hS 36 (by decide), hP1.1.2.1]
    have hn2 : I2 44 bk = nI nh := by rw [hS 44 (by decide), hP1.1.2.2.2.2.2.2.2]
    have hP2 : RefP I2 bk nb ns nh p f5 f6 := hP1.sm hS (by decide)
    have hsv : I2 67 v = x.2.2.1 ||| (whoF p (vrow f5 f6 x b s t) 2 (fun k => f5 (12 + k)) (fun k => f6 (12 + k)) (x.2.2.1 ^^^ (-1)) k) := by rw [e67b, upd_s]
    have hX2 : XR I2 v nb ns (xSet x b s t.1 t.2.1 |>.1, (xSet x b s t.1 t.2.1).2.1, x.2.2.1 ||| (whoF p (vrow f5 f6 x b s t) 2 (fun k => f5 (12 + k)) (fun k => f6 (12 + k)) (x.2.2.1 ^^^ (-1)) k), (xSet x b s t.1 t.2.1).2.2.2.1, (xSet x b s t.1 t.2.1).2.2.2.2) := hX1.sv hS (by decide) (by decide) (by decide) (by decide) hsv
    have hst := whoF_step p (vrow f5 f6 x b s t) 2 (fun k => f5 (12 + k)) (fun k => f6 (12 + k)) (x.2.2.1 ^^^ (-1)) k
    rw [hb1_not (by omega)] at hst
    have hbk : hb1 (I2 67 v) k = hb1 x.2.2.1 k := by rw [hsv]; exact hb1_or_who (by omega)
    have hl := tm_lays1 (N := N) (L := L2) hP2 hX2 hv hb hs
    have ez : upd x.2.2.2.1 b t.1 b = t.1 := upd_s
    have ed : upd x.2.2.2.2 s t.2.1 s = t.2.1 := upd_s
    simp only [xSet, ez, ed] at hl
    refine Ex.iload (pc := 42) dX10_preaches_42 rfl ?_
    refine Ex.aload_n (pc := 44) dX10_preaches_44 rfl rfl ?_
    refine Ex.getR (pc := 45) dX10_preaches_45 fX10_72 (sh36 _) r36_20 ?_
    refine Ex.aload_n (pc := 48) dX10_preaches_48 rfl rfl ?_
    refine Ex.getI (pc := 49) dX10_preaches_49 fX10_51 (sh36 _) ?_
    refine Ex.iald (pc := 52) (j := bk) dX10_preaches_52 (sh44 _) (ixX hb2 h1 (by decide)) (ixX2 hb2 (by omega)) ?_
    rw [hn2]
    refine Ex.icmp_ge (pc := 53) (tgt := 104) dX10_preaches_53 (by decide) (fun c53 => absurd c53 (nI_ge hk (by omega))) (fun _ => ?_)
    refine Ex.aload_n (pc := 56) dX10_preaches_56 rfl rfl ?_
    refine Ex.getR (pc := 57) dX10_preaches_57 fX10_165 (sh36 _) r36_50 ?_
    refine Ex.iload_n (pc := 60) dX10_preaches_60 rfl rfl ?_
    refine Ex.iald (pc := 61) (j := v) dX10_preaches_61 (sh67 _) (vp_in_nI hv (by decide)) (ixN2 (by omega)) ?_
    refine Ex.iload (pc := 62) dX10_preaches_62 rfl ?_
    refine Ex.callS (pc := 64) (As := [.int _, .int _]) (rest := []) dX10_preaches_64 cX10_445 tm_has2 rfl rfl (by decide) (Nat.le_refl _) (Nat.le_refl _) (Nat.le_of_ble_eq_true rfl) (Or.inl (fun r S' h => by obtain ⟨_, h⟩ := h; subst h; rfl)) (fun r S' hq _ _ => ?_)
    obtain ⟨rfl, rfl⟩ := hq
    refine Ex.if_ne (pc := 67) (tgt := 98) dX10_preaches_67 (by decide) (fun c67 => ?_) (fun c67 => ?_)
    · skip
      refine Ex.iinc (pc := 98) (ls' := [some (.ref 36), some (.int _), some (.int _), some (.int _), some (.int _), some (.int _), some (.int _), some (.int _)]) dX10_preaches_98 rfl rfl (by decide) rfl rfl ?_
      refine Ex.goto (pc := 101) (tgt := 42) dX10_preaches_101 (by decide) ?_
      rw [show nI k + Int32.ofInt 1 = nI (k + 1) from nI_1 k]
      have hq1 : hb1 x.2.2.1 k = true := by rw [← hbk]; exact bI_1 c67
      rw [hq1] at hst
      have hst : _ = _ := hst
      rw [if_pos (show (!true) = false from rfl)] at hst
      exact ih (I2, L2) ⟨hS, hSL, by rw [hst]; exact e67b⟩
    · skip
      refine Ex.aload_n (pc := 70) dX10_preaches_70 rfl rfl ?_
      refine Ex.iconst (pc := 71) (v := 2) dX10_preaches_71 rfl ?_
      refine Ex.iload_n (pc := 72) dX10_preaches_72 rfl rfl ?_
      refine Ex.iload_n (pc := 73) dX10_preaches_73 rfl rfl ?_
      refine Ex.iload_n (pc := 74) dX10_preaches_74 rfl rfl ?_
      refine Ex.iload (pc := 75) dX10_preaches_75 rfl ?_
      refine Ex.iload (pc := 77) dX10_preaches_77 rfl ?_
      refine Ex.callV (pc := 79) (As := [.int 2, .int _, .int _, .int _, .int _, .int _]) (rest := []) dX10_preaches_79 cX10_449 (tm_isSo (cm := t.2.2.2) hP2 hk (Or.inl rfl) hl) (sh36 _) rfl rfl (by decide) (Nat.le_refl _) (Nat.le_refl _) (Nat.le_of_ble_eq_true rfl) (Or.inl (fun r S' h => by obtain ⟨_, _, h, _⟩ := h; subst h; rfl)) (fun r S' hq _ _ => ?_)
      obtain ⟨I3, L3, rfl, rfl, hS3, hSL3⟩ := hq
      refine Ex.if_eq (pc := 82) (tgt := 98) dX10_preaches_82 (by decide) (fun c82 => ?_) (fun c82 => ?_)
      · skip
        refine Ex.iinc (pc := 98) (ls' := [some (.ref 36), some (.int _), some (.int _), some (.int _), some (.int _), some (.int _), some (.int _), some (.int _)]) dX10_preaches_98 rfl rfl (by decide) rfl rfl ?_
        refine Ex.goto (pc := 101) (tgt := 42) dX10_preaches_101 (by decide) ?_
        rw [show nI k + Int32.ofInt 1 = nI (k + 1) from nI_1 k]
        have hq1 : hb1 x.2.2.1 k = false := by rw [← hbk]; exact bI_0 c67
        rw [hq1, if_neg (show ¬ (!false) = false by decide)] at hst
        have he : evV p (upd (upd (vrow f5 f6 x b s t) 7 (f5 (12 + k))) 8 (f6 (12 + k))) 2 0 = 0 := by have := bI_0 c82; simpa [vrow] using this
        rw [if_pos he, Int32.or_zero] at hst
        exact ih (I3, L3) ⟨hS.tr hS3 (by decide) (by decide), hSL.tr hSL3 (by decide) (by decide), by dsimp only; rw [hS3 67 (by decide), hst]; exact e67b⟩
      · skip
        refine Ex.aload_n (pc := 85) dX10_preaches_85 rfl rfl ?_
        refine Ex.getR (pc := 86) dX10_preaches_86 fX10_165 (sh36 _) r36_50 ?_
        refine Ex.iload_n (pc := 89) dX10_preaches_89 rfl rfl ?_
        refine Ex.dup2 (pc := 90) dX10_preaches_90 rfl rfl ?_
        refine Ex.iald (pc := 91) (j := v) dX10_preaches_91 (sh67 _) (vp_in_nI hv (by decide)) (ixN2 (by omega)) ?_
        refine Ex.iconst (pc := 92) (v := 1) dX10_preaches_92 rfl ?_
        refine Ex.iload (pc := 93) dX10_preaches_93 rfl ?_
        refine Ex.ishl (pc := 95) dX10_preaches_95 ?_
        refine Ex.ior (pc := 96) dX10_preaches_96 ?_
        refine Ex.iast (pc := 97) (j := v) dX10_preaches_97 (sh67 _) (vp_in_nI hv (by decide)) (ixN2 (by omega)) ?_
        refine Ex.iinc (pc := 98) (ls' := [some (.ref 36), some (.int _), some (.int _), some (.int _), some (.int _), some (.int _), some (.int _), some (.int _)]) dX10_preaches_98 rfl rfl (by decide) rfl rfl ?_
        refine Ex.goto (pc := 101) (tgt := 42) dX10_preaches_101 (by decide) ?_
        rw [show nI k + Int32.ofInt 1 = nI (k + 1) from nI_1 k]
        have hq1 : hb1 x.2.2.1 k = false := by rw [← hbk]; exact bI_0 c67
        rw [hq1, if_neg (show ¬ (!false) = false by decide)] at hst
        have he : ¬ evV p (upd (upd (vrow f5 f6 x b s t) 7 (f5 (12 + k))) 8 (f6 (12 + k))) 2 0 = 0 := by have := bI_1 c82; simpa [vrow] using this
        rw [if_neg he] at hst
        refine ih (_, L3) ?_
        refine ⟨(hS.tr hS3 (by decide) (by decide)).up (by decide), hSL.tr hSL3 (by decide) (by decide), ?_⟩
        show va_up I3 67 (upd (I3 67) v (I3 67 v ||| 1 <<< (nI k &&& 31))) 67 = _
        rw [va_up_s, hS3 67 (by decide), hsv, hst, e67b, upd_upd, Int32.or_assoc]
  · dsimp only; rw [show whoF p (vrow f5 f6 x b s t) 2 (fun k => f5 (12 + k)) (fun k => f6 (12 + k)) (x.2.2.1 ^^^ (-1)) 0 = 0 from rfl, Int32.or_zero, upd_id e67]
