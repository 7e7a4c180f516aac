def keepR (rs : List aRow) (w cm : Int32) : Option (Nat × Nat) → List aRow
  | none => rs
  | some (b, s) => addR rs (w, nI b, nI s, cm)
theorem whoF_0 (p : aP) (nm : Nat → Int32) (r : Nat) (sn er : Nat → Int32) (hb : Int32) : whoF p nm r sn er hb 0 = 0 := rfl
theorem and_m1 (m : Int32) : m &&& ((0 : Int32) ^^^ (-1)) = m := by
  rw [show (0 : Int32) ^^^ (-1) = -1 from by decide]
  exact Int32.and_neg_one
theorem XR.wk {I I2 : aI} {v nb ns : Nat} {x : aX} {q : Int32} {l : List Nat} (h : XR I v nb ns x) (hS : Sm l I I2) (h64 : 64 ∉ l) (h65 : 65 ∉ l) (h66 : 66 ∉ l) (h67 : 67 ∉ l) (e : I2 63 v = q) : XR I2 v nb ns (q, x.2.1, x.2.2.1, x.2.2.2.1, x.2.2.2.2) := by
  obtain ⟨x1, x2, x3, x4, x5⟩ := h
  refine ⟨e, ?_, ?_, ?_, ?_⟩
  · rw [hS 64 h64]; exact x2
  · rw [hS 67 h67]; exact x3
  · rw [hS 65 h65]; exact x4
  · rw [hS 66 h66]; exact x5
theorem nb_0 {P : Prop} [Decidable P] (h : bI (!decide P) = 0) : P := of_decide_eq_true (by have := bI_0 h; simpa using this)
theorem nb_1 {P : Prop} [Decidable P] (h : ¬ bI (!decide P) = 0) : ¬ P := of_decide_eq_false (by have := bI_1 h; simpa using this)
set_option maxRecDepth 20000 in
theorem tm_passesW {N : Nat} {I : aI} {L : aL} {p : aP} {bk nb ns nh v : Nat} {f5 f6 : Nat → Int32} {x : aX} (hP : RefP I bk nb ns nh p f5 f6) (hX : XR I v nb ns x) (hv : v < 22) {dr : Bool} {rs : List aRow} (hxb : XB x) (hK : KR I v rs) (hrb : ∀ b, b < nb → ∃ r, r < 1000 ∧ f5 b = nI r) (hwk : ∃ w, w ≤ 999 ∧ x.1 = nI w) : Run 6 0 0 mX10_passes [.ref 36, .int (nI v), .int (bI dr)] (St N I L) (RX N (fun w I2 L2 => w = some (.int (cameX p f5 f6 x (serX p f5 f6 nb ns dr x))) ∧ Sm [63, 65, 66, 67, 68, 69, 71] I I2 ∧ SmL [70] L L2 ∧ SlF v I I2 ∧ (¬ x.1 = 999 → XR I2 v nb ns (weekX p f5 f6 nb ns nh dr x)) ∧ KR I2 v (keepR rs x.1 (cameX p f5 f6 x (serX p f5 f6 nb ns dr x)) (serX p f5 f6 nb ns dr x)))) := by
  refine Run.of (ls := [some (.ref 36), some (.int _), some (.int _), none, none, none, none, none]) (by decide) (Nat.le_of_ble_eq_true rfl) rfl ?_
  obtain ⟨⟨h1, h2, hnb, hns, hnh, hcb, hcs, hch⟩, hC, hT, hf1, hf2, hf3⟩ := id hP
  obtain ⟨x1, x2, x3, x4, x5⟩ := id hX
  obtain ⟨wn, hwn, hwx⟩ := hwk
  have hwk1 : ¬ x.1 = 999 → (if x.1 + 1 < 999 then x.1 + 1 else 999) = x.1 + 1 := by
    intro hne
    have hwn : wn < 999 := by
      rcases Nat.lt_or_ge wn 999 with q | q
      · exact q
      · exact absurd (by rw [hwx, show wn = 999 by omega]; rfl) hne
    rw [hwx, show nI wn + 1 = nI (wn + 1) from nI_1 wn]
    by_cases e : wn + 1 < 999
    · rw [if_pos (show nI (wn + 1) < 999 from nI_lt (b := 999) e (by decide))]
    · rw [if_neg (show ¬ nI (wn + 1) < 999 from nI_nlt (b := 999) (by omega) (by omega)), show wn + 1 = 999 by omega]; rfl
  have k74N : ∀ (sI : Int32) (I1 : aI) (L1 : aL) (rs1 : List aRow), Sm [65, 66, 67, 68, 69, 71] I I1 → SmL [70] L L1 → SlF v I I1 → XR I1 v nb ns (midX p f5 f6 nh x none) → KR I1 v rs1 → Ex 6 0 0 mX10_passes 0 0 74 [some (.ref 36), some (.int (nI v)), some (.int (bI dr)), some (.int x.2.2.1), some (.int sI), some (.int (-1)), none, none] [.int (0)] (St N I1 L1) (RX N (fun w I2 L2 => w = some (.int (0)) ∧ Sm [63, 65, 66, 67, 68, 69, 71] I I2 ∧ SmL [70] L L2 ∧ SlF v I I2 ∧ (¬ x.1 = 999 → XR I2 v nb ns (endX p f5 f6 nh x none)) ∧ KR I2 v rs1)) := by
    intro sI I1 L1 rs1 hS1 hSL1 hF1 hX1 hK1
    have hP1 : RefP I1 bk nb ns nh p f5 f6 := hP.sm hS1 (by decide)
    have e67 : I1 67 v = (midX p f5 f6 nh x none).2.2.1 := hX1.2.2.1
    refine Ex.istore (pc := 74) (ls' := [some (.ref 36), some (.int _), some (.int _), some (.int _), some (.int _), some (.int _), some (.int _), none]) dX10_passes_74 (by decide) rfl rfl ?_
    refine Ex.iconst (pc := 76) (v := 0) dX10_passes_76 rfl ?_
    refine Ex.istore (pc := 77) (ls' := [some (.ref 36), some (.int _), some (.int _), some (.int _), some (.int _), some (.int _), some (.int _), some (.int 0)]) dX10_passes_77 (by decide) rfl rfl ?_
    refine forUp (σ := aI × aL) (P := fun k q => Ex 6 0 0 mX10_passes 0 0 79 [some (.ref 36), some (.int (nI v)), some (.int (bI dr)), some (.int x.2.2.1), some (.int sI), some (.int (-1)), some (.int (0)), some (.int (nI k))] [] (St N q.1 q.2) _) (Inv := fun k q => Sm [67, 71] I1 q.1 ∧ SmL [70] L1 q.2 ∧ q.1 67 = upd (I1 67) v ((midX p f5 f6 nh x none).2.2.1 &&& ((whoF p (nrow x) 3 (fun k => f5 (12 + k)) (fun k => f6 (12 + k)) x.2.2.1 k) ^^^ (-1)))) nh ?_ ?_ 0 (I1, L1) (Nat.zero_le _) ⟨Sm.rf, SmL.rf, by dsimp only; rw [whoF_0, and_m1, upd_id e67]⟩
    · rintro ⟨I2, L2⟩ ⟨hS, hSL, e67b⟩
      dsimp only at *
      have hb2 : I2 36 13 = nI bk := by rw [hS 36 (by decide), hP1.1.2.1]
      have hn2 : I2 44 bk = nI nh := by rw [hS 44 (by decide), hP1.1.2.2.2.2.2.2.2]
      have hF2 : SlF v I1 I2 := SlF.sv hS (by decide) e67b
      have hX2 := hX1.sv (q := (midX p f5 f6 nh x none).2.2.1 &&& ((whoF p (nrow x) 3 (fun k => f5 (12 + k)) (fun k => f6 (12 + k)) x.2.2.1 nh) ^^^ (-1))) hS (by decide) (by decide) (by decide) (by decide) (by rw [e67b, upd_s])
      have hK2 : KR I2 v rs1 := hK1.sm hS (by decide) (by decide)
      have hw : I2 63 v = x.1 := by rw [hS 63 (by decide), hS1 63 (by decide), x1]
      refine Ex.iload (pc := 79) dX10_passes_79 rfl ?_
      refine Ex.aload_n (pc := 81) dX10_passes_81 rfl rfl ?_
      refine Ex.getR (pc := 82) dX10_passes_82 fX10_72 (sh36 _) r36_20 ?_
      refine Ex.aload_n (pc := 85) dX10_passes_85 rfl rfl ?_
      refine Ex.getI (pc := 86) dX10_passes_86 fX10_51 (sh36 _) ?_
      refine Ex.iald (pc := 89) (j := bk) dX10_passes_89 (sh44 _) (ixX hb2 h1 (by decide)) (ixX2 hb2 (by omega)) ?_
      rw [hn2]
      refine Ex.icmp_ge (pc := 90) (tgt := 150) dX10_passes_90 (by decide) (fun _ => ?_) (fun c90 => absurd (nI_le (Nat.le_refl _) (by omega)) c90)
      refine Ex.aload_n (pc := 150) dX10_passes_150 rfl rfl ?_
      refine Ex.getR (pc := 151) dX10_passes_151 fX10_153 (sh36 _) r36_46 ?_
      refine Ex.iload_n (pc := 154) dX10_passes_154 rfl rfl ?_
      refine Ex.dup2 (pc := 155) dX10_passes_155 rfl rfl ?_
      refine Ex.iald (pc := 156) (j := v) dX10_passes_156 (sh63 _) (vp_in_nI hv (by decide)) (ixN2 (by omega)) ?_
      refine Ex.iconst (pc := 157) (v := 1) dX10_passes_157 rfl ?_
      refine Ex.iadd (pc := 158) dX10_passes_158 ?_
      refine Ex.iast (pc := 159) (j := v) dX10_passes_159 (sh63 _) (vp_in_nI hv (by decide)) (ixN2 (by omega)) ?_
      refine Ex.iload (pc := 160) dX10_passes_160 rfl ?_
      refine Ex.iret (pc := 162) rfl rfl rfl dX10_passes_162 (Nat.le_refl _) (Nat.le_refl _) ?_
      refine ⟨_, _, rfl, rfl, ?_, hSL1.tr hSL (by decide) (by decide), ?_, ?_, ?_⟩
      · exact ((hS1.tr hS (l := [63, 65, 66, 67, 68, 69, 71]) (by decide) (by decide))).up (by decide)
      · refine (hF1.tr hF2).tr ⟨fun j hj => ⟨by simp [va_up, upd, hj], by simp [va_up], by simp [va_up], by simp [va_up]⟩, fun j _ => by simp [va_up], fun j _ => by simp [va_up], fun j _ => by simp [va_up]⟩
      · intro hne
        have hX3 := hX2.wk (q := x.1 + 1) (l := [63]) (I2 := va_up I2 63 (upd (I2 63) v (I2 63 v + 1))) (Sm.rf.up (by decide)) (by decide) (by decide) (by decide) (by decide) (by rw [va_up_s, upd_s, hw])
        unfold endX
        rw [hwk1 hne]
        exact hX3
      · exact hK2.sm (l := [63]) (Sm.rf.up (by decide)) (by decide) (by decide)
    · rintro k ⟨I2, L2⟩ hk ⟨hS, hSL, e67b⟩ ih
      dsimp only at *
      have hb2 : I2 36 13 = nI bk := by rw [hS 36 (by decide), hP1.1.2.1]
      have hn2 : I2 44 bk = nI nh := by rw [hS 44 (by decide), hP1.1.2.2.2.2.2.2.2]
      have hP2 : RefP I2 bk nb ns nh p f5 f6 := hP1.sm hS (by decide)
      have hsv : I2 67 v = (midX p f5 f6 nh x none).2.2.1 &&& ((whoF p (nrow x) 3 (fun k => f5 (12 + k)) (fun k => f6 (12 + k)) x.2.2.1 k) ^^^ (-1)) := by rw [e67b, upd_s]
      have hX2 := hX1.sv hS (by decide) (by decide) (by decide) (by decide) hsv
      have hst := whoF_step p (nrow x) 3 (fun k => f5 (12 + k)) (fun k => f6 (12 + k)) x.2.2.1 k
      have hl := tm_lays0 (N := N) (L := L2) (x := x) hv (hX2.1) (hX2.2.1)
      refine Ex.iload (pc := 79) dX10_passes_79 rfl ?_
      refine Ex.aload_n (pc := 81) dX10_passes_81 rfl rfl ?_
      refine Ex.getR (pc := 82) dX10_passes_82 fX10_72 (sh36 _) r36_20 ?_
      refine Ex.aload_n (pc := 85) dX10_passes_85 rfl rfl ?_
      refine Ex.getI (pc := 86) dX10_passes_86 fX10_51 (sh36 _) ?_
      refine Ex.iald (pc := 89) (j := bk) dX10_passes_89 (sh44 _) (ixX hb2 h1 (by decide)) (ixX2 hb2 (by omega)) ?_
      rw [hn2]
      refine Ex.icmp_ge (pc := 90) (tgt := 150) dX10_passes_90 (by decide) (fun c90 => absurd c90 (nI_ge hk (by omega))) (fun _ => ?_)
      refine Ex.iload_n (pc := 93) dX10_passes_93 rfl rfl ?_
      refine Ex.iload (pc := 94) dX10_passes_94 rfl ?_
      refine Ex.callS (pc := 96) (As := [.int _, .int _]) (rest := []) dX10_passes_96 cX10_445 tm_has2 rfl rfl (by decide) (Nat.le_refl _) (Nat.le_refl _) (Nat.le_of_ble_eq_true rfl) (Or.inl (fun r S' h => by obtain ⟨_, h⟩ := h; subst h; rfl)) (fun r S' hq _ _ => ?_)
      obtain ⟨rfl, rfl⟩ := hq
      refine Ex.if_eq (pc := 99) (tgt := 144) dX10_passes_99 (by decide) (fun c99 => ?_) (fun c99 => ?_)
      · skip
        refine Ex.iinc (pc := 144) (ls' := [some (.ref 36), some (.int _), some (.int _), some (.int _), some (.int _), some (.int _), some (.int _), some (.int _)]) dX10_passes_144 rfl rfl (by decide) rfl rfl ?_
        refine Ex.goto (pc := 147) (tgt := 79) dX10_passes_147 (by decide) ?_
        rw [show nI k + Int32.ofInt 1 = nI (k + 1) from nI_1 k]
        rw [if_pos (bI_0 c99)] at hst
        exact ih (I2, L2) ⟨hS, hSL, by dsimp only; rw [hst]; exact e67b⟩
      · skip
        refine Ex.aload_n (pc := 102) dX10_passes_102 rfl rfl ?_
        refine Ex.iconst (pc := 103) (v := 3) dX10_passes_103 rfl ?_
        refine Ex.iload_n (pc := 104) dX10_passes_104 rfl rfl ?_
        refine Ex.iload (pc := 105) dX10_passes_105 rfl ?_
        refine Ex.iload (pc := 107) dX10_passes_107 rfl ?_
        refine Ex.iconst (pc := 109) (v := (-1)) dX10_passes_109 rfl ?_
        refine Ex.icmp_ne (pc := 110) (tgt := 117) dX10_passes_110 (by decide) (fun c110 => absurd rfl c110) (fun _ => ?_)
        refine Ex.iconst (pc := 113) (v := (-1)) dX10_passes_113 rfl ?_
        refine Ex.goto (pc := 114) (tgt := 119) dX10_passes_114 (by decide) ?_
        refine Ex.iload (pc := 119) dX10_passes_119 rfl ?_
        refine Ex.iload (pc := 121) dX10_passes_121 rfl ?_
        refine Ex.callV (pc := 123) (As := [.int 3, .int _, .int _, .int (-1), .int _, .int _]) (rest := []) dX10_passes_123 cX10_449 (tm_isSo (cm := 0) hP2 hk (Or.inr rfl) hl) (sh36 _) rfl rfl (by decide) (Nat.le_refl _) (Nat.le_refl _) (Nat.le_of_ble_eq_true rfl) (Or.inl (fun r S' h => by obtain ⟨_, _, h, _⟩ := h; subst h; rfl)) (fun r S' hq _ _ => ?_)
        obtain ⟨I3, L3, rfl, rfl, hS3, hSL3⟩ := hq
        refine Ex.if_eq (pc := 126) (tgt := 144) dX10_passes_126 (by decide) (fun c126 => ?_) (fun c126 => ?_)
        · skip
          refine Ex.iinc (pc := 144) (ls' := [some (.ref 36), some (.int _), some (.int _), some (.int _), some (.int _), some (.int _), some (.int _), some (.int _)]) dX10_passes_144 rfl rfl (by decide) rfl rfl ?_
          refine Ex.goto (pc := 147) (tgt := 79) dX10_passes_147 (by decide) ?_
          rw [show nI k + Int32.ofInt 1 = nI (k + 1) from nI_1 k]
          rw [if_neg (show ¬ hb1 x.2.2.1 k = false by rw [bI_1 c99]; decide)] at hst
          have he : evV p (upd (upd (nrow x) 7 (f5 (12 + k))) 8 (f6 (12 + k))) 3 0 = 0 := nb_0 c126
          rw [if_pos he, Int32.or_zero] at hst
          exact ih (I3, L3) ⟨hS.tr hS3 (by decide) (by decide), hSL.tr hSL3 (by decide) (by decide), by dsimp only; rw [hS3 67 (by decide), hst]; exact e67b⟩
        · skip
          refine Ex.aload_n (pc := 129) dX10_passes_129 rfl rfl ?_
          refine Ex.getR (pc := 130) dX10_passes_130 fX10_165 (sh36 _) r36_50 ?_
          refine Ex.iload_n (pc := 133) dX10_passes_133 rfl rfl ?_
          refine Ex.dup2 (pc := 134) dX10_passes_134 rfl rfl ?_
          refine Ex.iald (pc := 135) (j := v) dX10_passes_135 (sh67 _) (vp_in_nI hv (by decide)) (ixN2 (by omega)) ?_
          refine Ex.iconst (pc := 136) (v := 1) dX10_passes_136 rfl ?_
          refine Ex.iload (pc := 137) dX10_passes_137 rfl ?_
          refine Ex.ishl (pc := 139) dX10_passes_139 ?_
          refine Ex.iconst (pc := 140) (v := (-1)) dX10_passes_140 rfl ?_
          refine Ex.ixor (pc := 141) dX10_passes_141 ?_
          refine Ex.iand (pc := 142) dX10_passes_142 ?_
          refine Ex.iast (pc := 143) (j := v) dX10_passes_143 (sh67 _) (vp_in_nI hv (by decide)) (ixN2 (by omega)) ?_
          refine Ex.iinc (pc := 144) (ls' := [some (.ref 36), some (.int _), some (.int _), some (.int _), some (.int _), some (.int _), some (.int _), some (.int _)]) dX10_passes_144 rfl rfl (by decide) rfl rfl ?_
          refine Ex.goto (pc := 147) (tgt := 79) dX10_passes_147 (by decide) ?_
          rw [show nI k + Int32.ofInt 1 = nI (k + 1) from nI_1 k]
          rw [if_neg (show ¬ hb1 x.2.2.1 k = false by rw [bI_1 c99]; decide)] at hst
          have he : ¬ evV p (upd (upd (nrow x) 7 (f5 (12 + k))) 8 (f6 (12 + k))) 3 0 = 0 := nb_1 c126
          rw [if_neg he] at hst
          refine ih (_, L3) ?_
          refine ⟨(hS.tr hS3 (by decide) (by decide)).up (by decide), hSL.tr hSL3 (by decide) (by decide), ?_⟩
          show va_up I3 67 (upd (I3 67) v (I3 67 v &&& (1 <<< (nI k &&& 31) ^^^ (-1)))) 67 = _
          rw [va_up_s, hS3 67 (by decide), hsv, hst, e67b, upd_upd, and_not_or]
  have k74S : ∀ (b s : Nat) (I1 : aI) (L1 : aL) (rs1 : List aRow), b < nb → s < ns → Sm [65, 66, 67, 68, 69, 71] I I1 → SmL [70] L L1 → SlF v I I1 → XR I1 v nb ns (midX p f5 f6 nh x (some (b, s))) → KR I1 v rs1 → Ex 6 0 0 mX10_passes 0 0 74 [some (.ref 36), some (.int (nI v)), some (.int (bI dr)), some (.int x.2.2.1), some (.int (nI s)), some (.int (nI b)), none, none] [.int (cameX p f5 f6 x (some (b, s)))] (St N I1 L1) (RX N (fun w I2 L2 => w = some (.int (cameX p f5 f6 x (some (b, s)))) ∧ Sm [63, 65, 66, 67, 68, 69, 71] I I2 ∧ SmL [70] L L2 ∧ SlF v I I2 ∧ (¬ x.1 = 999 → XR I2 v nb ns (endX p f5 f6 nh x (some (b, s)))) ∧ KR I2 v rs1)) := by
    intro b s I1 L1 rs1 hb hs hS1 hSL1 hF1 hX1 hK1
    have hP1 : RefP I1 bk nb ns nh p f5 f6 := hP.sm hS1 (by decide)
    have e67 : I1 67 v = (midX p f5 f6 nh x (some (b, s))).2.2.1 := hX1.2.2.1
    refine Ex.istore (pc := 74) (ls' := [some (.ref 36), some (.int _), some (.int _), some (.int _), some (.int _), some (.int _), some (.int _), none]) dX10_passes_74 (by decide) rfl rfl ?_
    refine Ex.iconst (pc := 76) (v := 0) dX10_passes_76 rfl ?_
    refine Ex.istore (pc := 77) (ls' := [some (.ref 36), some (.int _), some (.int _), some (.int _), some (.int _), some (.int _), some (.int _), some (.int 0)]) dX10_passes_77 (by decide) rfl rfl ?_
    refine forUp (σ := aI × aL) (P := fun k q => Ex 6 0 0 mX10_passes 0 0 79 [some (.ref 36), some (.int (nI v)), some (.int (bI dr)), some (.int x.2.2.1), some (.int (nI s)), some (.int (nI b)), some (.int (cameX p f5 f6 x (some (b, s)))), some (.int (nI k))] [] (St N q.1 q.2) _) (Inv := fun k q => Sm [67, 71] I1 q.1 ∧ SmL [70] L1 q.2 ∧ q.1 67 = upd (I1 67) v ((midX p f5 f6 nh x (some (b, s))).2.2.1 &&& ((whoF p (rowX p f5 f6 x (some (b, s))) 3 (fun k => f5 (12 + k)) (fun k => f6 (12 + k)) x.2.2.1 k) ^^^ (-1)))) nh ?_ ?_ 0 (I1, L1) (Nat.zero_le _) ⟨Sm.rf, SmL.rf, by dsimp only; rw [whoF_0, and_m1, upd_id e67]⟩
    · rintro ⟨I2, L2⟩ ⟨hS, hSL, e67b⟩
      dsimp only at *
      have hb2 : I2 36 13 = nI bk := by rw [hS 36 (by decide), hP1.1.2.1]
      have hn2 : I2 44 bk = nI nh := by rw [hS 44 (by decide), hP1.1.2.2.2.2.2.2.2]
      have hF2 : SlF v I1 I2 := SlF.sv hS (by decide) e67b
      have hX2 := hX1.sv (q := (midX p f5 f6 nh x (some (b, s))).2.2.1 &&& ((whoF p (rowX p f5 f6 x (some (b, s))) 3 (fun k => f5 (12 + k)) (fun k => f6 (12 + k)) x.2.2.1 nh) ^^^ (-1))) hS (by decide) (by decide) (by decide) (by decide) (by rw [e67b, upd_s])
      have hK2 : KR I2 v rs1 := hK1.sm hS (by decide) (by decide)
      have hw : I2 63 v = x.1 := by rw [hS 63 (by decide), hS1 63 (by decide), x1]
      refine Ex.iload (pc := 79) dX10_passes_79 rfl ?_
      refine Ex.aload_n (pc := 81) dX10_passes_81 rfl rfl ?_
      refine Ex.getR (pc := 82) dX10_passes_82 fX10_72 (sh36 _) r36_20 ?_
      refine Ex.aload_n (pc := 85) dX10_passes_85 rfl rfl ?_
      refine Ex.getI (pc := 86) dX10_passes_86 fX10_51 (sh36 _) ?_
      refine Ex.iald (pc := 89) (j := bk) dX10_passes_89 (sh44 _) (ixX hb2 h1 (by decide)) (ixX2 hb2 (by omega)) ?_
      rw [hn2]
      refine Ex.icmp_ge (pc := 90) (tgt := 150) dX10_passes_90 (by decide) (fun _ => ?_) (fun c90 => absurd (nI_le (Nat.le_refl _) (by omega)) c90)
      refine Ex.aload_n (pc := 150) dX10_passes_150 rfl rfl ?_
      refine Ex.getR (pc := 151) dX10_passes_151 fX10_153 (sh36 _) r36_46 ?_
      refine Ex.iload_n (pc := 154) dX10_passes_154 rfl rfl ?_
      refine Ex.dup2 (pc := 155) dX10_passes_155 rfl rfl ?_
      refine Ex.iald (pc := 156) (j := v) dX10_passes_156 (sh63 _) (vp_in_nI hv (by decide)) (ixN2 (by omega)) ?_
      refine Ex.iconst (pc := 157) (v := 1) dX10_passes_157 rfl ?_
      refine Ex.iadd (pc := 158) dX10_passes_158 ?_
      refine Ex.iast (pc := 159) (j := v) dX10_passes_159 (sh63 _) (vp_in_nI hv (by decide)) (ixN2 (by omega)) ?_
      refine Ex.iload (pc := 160) dX10_passes_160 rfl ?_
      refine Ex.iret (pc := 162) rfl rfl rfl dX10_passes_162 (Nat.le_refl _) (Nat.le_refl _) ?_
      refine ⟨_, _, rfl, rfl, ?_, hSL1.tr hSL (by decide) (by decide), ?_, ?_, ?_⟩
      · exact ((hS1.tr hS (l := [63, 65, 66, 67, 68, 69, 71]) (by decide) (by decide))).up (by decide)
      · refine (hF1.tr hF2).tr ⟨fun j hj => ⟨by simp [va_up, upd, hj], by simp [va_up], by simp [va_up], by simp [va_up]⟩, fun j _ => by simp [va_up], fun j _ => by simp [va_up], fun j _ => by simp [va_up]⟩
      · intro hne
        have hX3 := hX2.wk (q := x.1 + 1) (l := [63]) (I2 := va_up I2 63 (upd (I2 63) v (I2 63 v + 1))) (Sm.rf.up (by decide)) (by decide) (by decide) (by decide) (by decide) (by rw [va_up_s, upd_s, hw])
        unfold endX
        rw [hwk1 hne]
        exact hX3
      · exact hK2.sm (l := [63]) (Sm.rf.up (by decide)) (by decide) (by decide)
    · rintro k ⟨I2, L2⟩ hk ⟨hS, hSL, e67b⟩ ih
      dsimp only at *
      have hb2 : I2 36 13 = nI bk := by rw [hS 36 (by decide), hP1.1.2.1]
      have hn2 : I2 44 bk = nI nh := by rw [hS 44 (by decide), hP1.1.2.2.2.2.2.2.2]
      have hP2 : RefP I2 bk nb ns nh p f5 f6 := hP1.sm hS (by decide)
      have hsv : I2 67 v = (midX p f5 f6 nh x (some (b, s))).2.2.1 &&& ((whoF p (rowX p f5 f6 x (some (b, s))) 3 (fun k => f5 (12 + k)) (fun k => f6 (12 + k)) x.2.2.1 k) ^^^ (-1)) := by rw [e67b, upd_s]
      have hX2 := hX1.sv hS (by decide) (by decide) (by decide) (by decide) hsv
      have hst := whoF_step p (rowX p f5 f6 x (some (b, s))) 3 (fun k => f5 (12 + k)) (fun k => f6 (12 + k)) x.2.2.1 k
      have hl := tm_lays1 (N := N) (L := L2) hP2 hX2 hv hb hs
      have ez : (midX p f5 f6 nh x (some (b, s))).2.2.2.1 b = (rubX p f5 f6 x b s (serN f5 b)).1 := upd_s
      have ed : (midX p f5 f6 nh x (some (b, s))).2.2.2.2 s = (rubX p f5 f6 x b s (serN f5 b)).2.1 := upd_s
      simp only [ez, ed] at hl
      refine Ex.iload (pc := 79) dX10_passes_79 rfl ?_
      refine Ex.aload_n (pc := 81) dX10_passes_81 rfl rfl ?_
      refine Ex.getR (pc := 82) dX10_passes_82 fX10_72 (sh36 _) r36_20 ?_
      refine Ex.aload_n (pc := 85) dX10_passes_85 rfl rfl ?_
      refine Ex.getI (pc := 86) dX10_passes_86 fX10_51 (sh36 _) ?_
      refine Ex.iald (pc := 89) (j := bk) dX10_passes_89 (sh44 _) (ixX hb2 h1 (by decide)) (ixX2 hb2 (by omega)) ?_
      rw [hn2]
      refine Ex.icmp_ge (pc := 90) (tgt := 150) dX10_passes_90 (by decide) (fun c90 => absurd c90 (nI_ge hk (by omega))) (fun _ => ?_)
      refine Ex.iload_n (pc := 93) dX10_passes_93 rfl rfl ?_
      refine Ex.iload (pc := 94) dX10_passes_94 rfl ?_
      refine Ex.callS (pc := 96) (As := [.int _, .int _]) (rest := []) dX10_passes_96 cX10_445 tm_has2 rfl rfl (by decide) (Nat.le_refl _) (Nat.le_refl _) (Nat.le_of_ble_eq_true rfl) (Or.inl (fun r S' h => by obtain ⟨_, h⟩ := h; subst h; rfl)) (fun r S' hq _ _ => ?_)
      obtain ⟨rfl, rfl⟩ := hq
      refine Ex.if_eq (pc := 99) (tgt := 144) dX10_passes_99 (by decide) (fun c99 => ?_) (fun c99 => ?_)
      · skip
        refine Ex.iinc (pc := 144) (ls' := [some (.ref 36), some (.int _), some (.int _), some (.int _), some (.int _), some (.int _), some (.int _), some (.int _)]) dX10_passes_144 rfl rfl (by decide) rfl rfl ?_
        refine Ex.goto (pc := 147) (tgt := 79) dX10_passes_147 (by decide) ?_
        rw [show nI k + Int32.ofInt 1 = nI (k + 1) from nI_1 k]
        rw [if_pos (bI_0 c99)] at hst
        exact ih (I2, L2) ⟨hS, hSL, by dsimp only; rw [hst]; exact e67b⟩
      · skip
        refine Ex.aload_n (pc := 102) dX10_passes_102 rfl rfl ?_
        refine Ex.iconst (pc := 103) (v := 3) dX10_passes_103 rfl ?_
        refine Ex.iload_n (pc := 104) dX10_passes_104 rfl rfl ?_
        refine Ex.iload (pc := 105) dX10_passes_105 rfl ?_
        refine Ex.iload (pc := 107) dX10_passes_107 rfl ?_
        refine Ex.iconst (pc := 109) (v := (-1)) dX10_passes_109 rfl ?_
        refine Ex.icmp_ne (pc := 110) (tgt := 117) dX10_passes_110 (by decide) (fun _ => ?_) (fun c110 => absurd c110 (fun e => absurd (show nI b < 0 from by rw [show nI b = -1 from e]; decide) (nI_pos (by omega))))
        refine Ex.iload (pc := 117) dX10_passes_117 rfl ?_
        refine Ex.iload (pc := 119) dX10_passes_119 rfl ?_
        refine Ex.iload (pc := 121) dX10_passes_121 rfl ?_
        refine Ex.callV (pc := 123) (As := [.int 3, .int _, .int _, .int _, .int _, .int _]) (rest := []) dX10_passes_123 cX10_449 (tm_isSo (cm := cameX p f5 f6 x (some (b, s))) hP2 hk (Or.inr rfl) hl) (sh36 _) rfl rfl (by decide) (Nat.le_refl _) (Nat.le_refl _) (Nat.le_of_ble_eq_true rfl) (Or.inl (fun r S' h => by obtain ⟨_, _, h, _⟩ := h; subst h; rfl)) (fun r S' hq _ _ => ?_)
        obtain ⟨I3, L3, rfl, rfl, hS3, hSL3⟩ := hq
        refine Ex.if_eq (pc := 126) (tgt := 144) dX10_passes_126 (by decide) (fun c126 => ?_) (fun c126 => ?_)
        · skip
          refine Ex.iinc (pc := 144) (ls' := [some (.ref 36), some (.int _), some (.int _), some (.int _), some (.int _), some (.int _), some (.int _), some (.int _)]) dX10_passes_144 rfl rfl (by decide) rfl rfl ?_
          refine Ex.goto (pc := 147) (tgt := 79) dX10_passes_147 (by decide) ?_
          rw [show nI k + Int32.ofInt 1 = nI (k + 1) from nI_1 k]
          rw [if_neg (show ¬ hb1 x.2.2.1 k = false by rw [bI_1 c99]; decide)] at hst
          have he : evV p (upd (upd (rowX p f5 f6 x (some (b, s))) 7 (f5 (12 + k))) 8 (f6 (12 + k))) 3 0 = 0 := nb_0 c126
          rw [if_pos he, Int32.or_zero] at hst
          exact ih (I3, L3) ⟨hS.tr hS3 (by decide) (by decide), hSL.tr hSL3 (by decide) (by decide), by dsimp only; rw [hS3 67 (by decide), hst]; exact e67b⟩
        · skip
          refine Ex.aload_n (pc := 129) dX10_passes_129 rfl rfl ?_
          refine Ex.getR (pc := 130) dX10_passes_130 fX10_165 (sh36 _) r36_50 ?_
          refine Ex.iload_n (pc := 133) dX10_passes_133 rfl rfl ?_
          refine Ex.dup2 (pc := 134) dX10_passes_134 rfl rfl ?_
          refine Ex.iald (pc := 135) (j := v) dX10_passes_135 (sh67 _) (vp_in_nI hv (by decide)) (ixN2 (by omega)) ?_
          refine Ex.iconst (pc := 136) (v := 1) dX10_passes_136 rfl ?_
          refine Ex.iload (pc := 137) dX10_passes_137 rfl ?_
          refine Ex.ishl (pc := 139) dX10_passes_139 ?_
          refine Ex.iconst (pc := 140) (v := (-1)) dX10_passes_140 rfl ?_
          refine Ex.ixor (pc := 141) dX10_passes_141 ?_
          refine Ex.iand (pc := 142) dX10_passes_142 ?_
          refine Ex.iast (pc := 143) (j := v) dX10_passes_143 (sh67 _) (vp_in_nI hv (by decide)) (ixN2 (by omega)) ?_
          refine Ex.iinc (pc := 144) (ls' := [some (.ref 36), some (.int _), some (.int _), some (.int _), some (.int _), some (.int _), some (.int _), some (.int _)]) dX10_passes_144 rfl rfl (by decide) rfl rfl ?_
          refine Ex.goto (pc := 147) (tgt := 79) dX10_passes_147 (by decide) ?_
          rw [show nI k + Int32.ofInt 1 = nI (k + 1) from nI_1 k]
          rw [if_neg (show ¬ hb1 x.2.2.1 k = false by rw [bI_1 c99]; decide)] at hst
          have he : ¬ evV p (upd (upd (rowX p f5 f6 x (some (b, s))) 7 (f5 (12 + k))) 8 (f6 (12 + k))) 3 0 = 0 := nb_1 c126
          rw [if_neg he] at hst
          refine ih (_, L3) ?_
          refine ⟨(hS.tr hS3 (by decide) (by decide)).up (by decide), hSL.tr hSL3 (by decide) (by decide), ?_⟩
          show va_up I3 67 (upd (I3 67) v (I3 67 v &&& (1 <<< (nI k &&& 31) ^^^ (-1)))) 67 = _
          rw [va_up_s, hS3 67 (by decide), hsv, hst, e67b, upd_upd, and_not_or]
  have hwx2 : weekX p f5 f6 nb ns nh dr x = endX p f5 f6 nh x (serX p f5 f6 nb ns dr x) := rfl
  rw [hwx2]
  cases hdr : dr with
  | true =>
    have hser : serX p f5 f6 nb ns true x = none := by simp [serX]
    rw [hdr] at k74N
    refine Ex.aload_n (pc := 0) dX10_passes_0 rfl rfl ?_
    refine Ex.getR (pc := 1) dX10_passes_1 fX10_165 (sh36 _) r36_50 ?_
    refine Ex.iload_n (pc := 4) dX10_passes_4 rfl rfl ?_
    refine Ex.iald (pc := 5) (j := v) dX10_passes_5 (sh67 _) (vp_in_nI hv (by decide)) (ixN2 (by omega)) ?_
    rw [x3]
    refine Ex.istore_n (pc := 6) (ls' := [some (.ref 36), some (.int _), some (.int _), some (.int _), none, none, none, none]) dX10_passes_6 rfl (by decide) rfl rfl ?_
    refine Ex.iload_n (pc := 7) dX10_passes_7 rfl rfl ?_
    refine Ex.if_eq (pc := 8) (tgt := 15) dX10_passes_8 (by decide) (fun c8 => absurd c8 (by decide)) (fun _ => ?_)
    refine Ex.iconst (pc := 11) (v := (-1)) dX10_passes_11 rfl ?_
    refine Ex.goto (pc := 12) (tgt := 20) dX10_passes_12 (by decide) ?_
    refine Ex.istore (pc := 20) (ls' := [some (.ref 36), some (.int _), some (.int _), some (.int _), some (.int (-1)), none, none, none]) dX10_passes_20 (by decide) rfl rfl ?_
    refine Ex.iload (pc := 22) dX10_passes_22 rfl ?_
    refine Ex.iconst (pc := 24) (v := (-1)) dX10_passes_24 rfl ?_
    refine Ex.icmp_ne (pc := 25) (tgt := 32) dX10_passes_25 (by decide) (fun c25 => absurd rfl c25) (fun _ => ?_)
    refine Ex.iconst (pc := 28) (v := (-1)) dX10_passes_28 rfl ?_
    refine Ex.goto (pc := 29) (tgt := 39) dX10_passes_29 (by decide) ?_
    refine Ex.istore (pc := 39) (ls' := [some (.ref 36), some (.int _), some (.int _), some (.int _), some (.int (-1)), some (.int (-1)), none, none]) dX10_passes_39 (by decide) rfl rfl ?_
    refine Ex.iload (pc := 41) dX10_passes_41 rfl ?_
    refine Ex.iconst (pc := 43) (v := (-1)) dX10_passes_43 rfl ?_
    refine Ex.icmp_ne (pc := 44) (tgt := 51) dX10_passes_44 (by decide) (fun c44 => absurd rfl c44) (fun _ => ?_)
    refine Ex.iconst (pc := 47) (v := 0) dX10_passes_47 rfl ?_
    refine Ex.goto (pc := 48) (tgt := 74) dX10_passes_48 (by decide) ?_
    rw [hser]
    exact k74N _ I L rs Sm.rf SmL.rf SlF.rf hX hK
  | false =>
    rw [hdr] at k74N k74S
    rcases hdp : dpF x.2.2.2.2 ns with _ | s
    · have hser : serX p f5 f6 nb ns false x = none := by simp [serX, hdp]
      refine Ex.aload_n (pc := 0) dX10_passes_0 rfl rfl ?_
      refine Ex.getR (pc := 1) dX10_passes_1 fX10_165 (sh36 _) r36_50 ?_
      refine Ex.iload_n (pc := 4) dX10_passes_4 rfl rfl ?_
      refine Ex.iald (pc := 5) (j := v) dX10_passes_5 (sh67 _) (vp_in_nI hv (by decide)) (ixN2 (by omega)) ?_
      rw [x3]
      refine Ex.istore_n (pc := 6) (ls' := [some (.ref 36), some (.int _), some (.int _), some (.int _), none, none, none, none]) dX10_passes_6 rfl (by decide) rfl rfl ?_
      refine Ex.iload_n (pc := 7) dX10_passes_7 rfl rfl ?_
      refine Ex.if_eq (pc := 8) (tgt := 15) dX10_passes_8 (by decide) (fun _ => ?_) (fun c8 => absurd rfl c8)
      refine Ex.aload_n (pc := 15) dX10_passes_15 rfl rfl ?_
      refine Ex.iload_n (pc := 16) dX10_passes_16 rfl rfl ?_
      refine Ex.callV (pc := 17) (As := [.int _]) (rest := []) dX10_passes_17 cX10_456 (tm_deepest hP.1 hX hv) (sh36 _) rfl rfl (by decide) (Nat.le_refl _) (Nat.le_refl _) (Nat.le_of_ble_eq_true rfl) (Or.inl (fun r S' h => by obtain ⟨_, h⟩ := h; subst h; rfl)) (fun r S' hq _ _ => ?_)
      obtain ⟨rfl, rfl⟩ := hq
      rw [hdp]
      refine Ex.istore (pc := 20) (ls' := [some (.ref 36), some (.int _), some (.int _), some (.int _), some (.int _), none, none, none]) dX10_passes_20 (by decide) rfl rfl ?_
      refine Ex.iload (pc := 22) dX10_passes_22 rfl ?_
      refine Ex.iconst (pc := 24) (v := (-1)) dX10_passes_24 rfl ?_
      refine Ex.icmp_ne (pc := 25) (tgt := 32) dX10_passes_25 (by decide) (fun c25 => absurd rfl c25) (fun _ => ?_)
      refine Ex.iconst (pc := 28) (v := (-1)) dX10_passes_28 rfl ?_
      refine Ex.goto (pc := 29) (tgt := 39) dX10_passes_29 (by decide) ?_
      refine Ex.istore (pc := 39) (ls' := [some (.ref 36), some (.int _), some (.int _), some (.int _), some (.int _), some (.int (-1)), none, none]) dX10_passes_39 (by decide) rfl rfl ?_
      refine Ex.iload (pc := 41) dX10_passes_41 rfl ?_
      refine Ex.iconst (pc := 43) (v := (-1)) dX10_passes_43 rfl ?_
      refine Ex.icmp_ne (pc := 44) (tgt := 51) dX10_passes_44 (by decide) (fun c44 => absurd rfl c44) (fun _ => ?_)
      refine Ex.iconst (pc := 47) (v := 0) dX10_passes_47 rfl ?_
      refine Ex.goto (pc := 48) (tgt := 74) dX10_passes_48 (by decide) ?_
      rw [hser]
      exact k74N _ I L rs Sm.rf SmL.rf SlF.rf hX hK
    · have hs : s < ns := dpF_lt _ _ _ hdp
      by_cases h0 : nb = 0
      · have hser : serX p f5 f6 nb ns false x = none := by simp [serX, hdp, h0]
        refine Ex.aload_n (pc := 0) dX10_passes_0 rfl rfl ?_
        refine Ex.getR (pc := 1) dX10_passes_1 fX10_165 (sh36 _) r36_50 ?_
        refine Ex.iload_n (pc := 4) dX10_passes_4 rfl rfl ?_
        refine Ex.iald (pc := 5) (j := v) dX10_passes_5 (sh67 _) (vp_in_nI hv (by decide)) (ixN2 (by omega)) ?_
        rw [x3]
        refine Ex.istore_n (pc := 6) (ls' := [some (.ref 36), some (.int _), some (.int _), some (.int _), none, none, none, none]) dX10_passes_6 rfl (by decide) rfl rfl ?_
        refine Ex.iload_n (pc := 7) dX10_passes_7 rfl rfl ?_
        refine Ex.if_eq (pc := 8) (tgt := 15) dX10_passes_8 (by decide) (fun _ => ?_) (fun c8 => absurd rfl c8)
        refine Ex.aload_n (pc := 15) dX10_passes_15 rfl rfl ?_
        refine Ex.iload_n (pc := 16) dX10_passes_16 rfl rfl ?_
        refine Ex.callV (pc := 17) (As := [.int _]) (rest := []) dX10_passes_17 cX10_456 (tm_deepest hP.1 hX hv) (sh36 _) rfl rfl (by decide) (Nat.le_refl _) (Nat.le_refl _) (Nat.le_of_ble_eq_true rfl) (Or.inl (fun r S' h => by obtain ⟨_, h⟩ := h; subst h; rfl)) (fun r S' hq _ _ => ?_)
        obtain ⟨rfl, rfl⟩ := hq
        rw [hdp]
        refine Ex.istore (pc := 20) (ls' := [some (.ref 36), some (.int _), some (.int _), some (.int _), some (.int _), none, none, none]) dX10_passes_20 (by decide) rfl rfl ?_
        refine Ex.iload (pc := 22) dX10_passes_22 rfl ?_
        refine Ex.iconst (pc := 24) (v := (-1)) dX10_passes_24 rfl ?_
        refine Ex.icmp_ne (pc := 25) (tgt := 32) dX10_passes_25 (by decide) (fun _ => ?_) (fun c25 => absurd c25 (fun e => absurd (show nI s < 0 from by rw [show nI s = -1 from e]; decide) (nI_pos (by omega))))
        refine Ex.aload_n (pc := 32) dX10_passes_32 rfl rfl ?_
        refine Ex.iload_n (pc := 33) dX10_passes_33 rfl rfl ?_
        refine Ex.iload (pc := 34) dX10_passes_34 rfl ?_
        refine Ex.callV (pc := 36) (As := [.int _, .int _]) (rest := []) dX10_passes_36 cX10_459 (tm_pick hP hX hv hs) (sh36 _) rfl rfl (by decide) (Nat.le_refl _) (Nat.le_refl _) (Nat.le_of_ble_eq_true rfl) (Or.inl (fun r S' h => by obtain ⟨_, _, h, _⟩ := h; subst h; rfl)) (fun r S' hq _ _ => ?_)
        obtain ⟨I1, L1, rfl, rfl, hS1, hSL1⟩ := hq
        rw [show pbI (fun k => evV p (prow f5 f6 x s k) 4 0) nb = -1 from by unfold pbI; rw [if_pos h0]]
        refine Ex.istore (pc := 39) (ls' := [some (.ref 36), some (.int _), some (.int _), some (.int _), some (.int _), some (.int _), none, none]) dX10_passes_39 (by decide) rfl rfl ?_
        refine Ex.iload (pc := 41) dX10_passes_41 rfl ?_
        refine Ex.iconst (pc := 43) (v := (-1)) dX10_passes_43 rfl ?_
        refine Ex.icmp_ne (pc := 44) (tgt := 51) dX10_passes_44 (by decide) (fun c44 => absurd rfl c44) (fun _ => ?_)
        refine Ex.iconst (pc := 47) (v := 0) dX10_passes_47 rfl ?_
        refine Ex.goto (pc := 48) (tgt := 74) dX10_passes_48 (by decide) ?_
        rw [hser]
        exact k74N _ I1 L1 rs (hS1.tr Sm.rf (l2 := []) (by decide) (by decide)) hSL1 (SlF.of hS1 (by decide)) (hX.sm hS1 (by decide)) (hK.sm hS1 (by decide) (by decide))
      · obtain ⟨b, hbx⟩ : ∃ b, b = pickX p f5 f6 x s nb := ⟨_, rfl⟩
        have hser : serX p f5 f6 nb ns false x = some (b, s) := by simp [serX, hdp, h0, hbx]
        have hb : b < nb := (serX_lt hser).1
        obtain ⟨r, hr, hfr⟩ := hrb b hb
        have hsn : serN f5 b = r := by unfold serN; rw [hfr]; exact nI_clamp (by omega)
        refine Ex.aload_n (pc := 0) dX10_passes_0 rfl rfl ?_
        refine Ex.getR (pc := 1) dX10_passes_1 fX10_165 (sh36 _) r36_50 ?_
        refine Ex.iload_n (pc := 4) dX10_passes_4 rfl rfl ?_
        refine Ex.iald (pc := 5) (j := v) dX10_passes_5 (sh67 _) (vp_in_nI hv (by decide)) (ixN2 (by omega)) ?_
        rw [x3]
        refine Ex.istore_n (pc := 6) (ls' := [some (.ref 36), some (.int _), some (.int _), some (.int _), none, none, none, none]) dX10_passes_6 rfl (by decide) rfl rfl ?_
        refine Ex.iload_n (pc := 7) dX10_passes_7 rfl rfl ?_
        refine Ex.if_eq (pc := 8) (tgt := 15) dX10_passes_8 (by decide) (fun _ => ?_) (fun c8 => absurd rfl c8)
        refine Ex.aload_n (pc := 15) dX10_passes_15 rfl rfl ?_
        refine Ex.iload_n (pc := 16) dX10_passes_16 rfl rfl ?_
        refine Ex.callV (pc := 17) (As := [.int _]) (rest := []) dX10_passes_17 cX10_456 (tm_deepest hP.1 hX hv) (sh36 _) rfl rfl (by decide) (Nat.le_refl _) (Nat.le_refl _) (Nat.le_of_ble_eq_true rfl) (Or.inl (fun r S' h => by obtain ⟨_, h⟩ := h; subst h; rfl)) (fun r S' hq _ _ => ?_)
        obtain ⟨rfl, rfl⟩ := hq
        rw [hdp]
        refine Ex.istore (pc := 20) (ls' := [some (.ref 36), some (.int _), some (.int _), some (.int _), some (.int _), none, none, none]) dX10_passes_20 (by decide) rfl rfl ?_
        refine Ex.iload (pc := 22) dX10_passes_22 rfl ?_
        refine Ex.iconst (pc := 24) (v := (-1)) dX10_passes_24 rfl ?_
        refine Ex.icmp_ne (pc := 25) (tgt := 32) dX10_passes_25 (by decide) (fun _ => ?_) (fun c25 => absurd c25 (fun e => absurd (show nI s < 0 from by rw [show nI s = -1 from e]; decide) (nI_pos (by omega))))
        refine Ex.aload_n (pc := 32) dX10_passes_32 rfl rfl ?_
        refine Ex.iload_n (pc := 33) dX10_passes_33 rfl rfl ?_
        refine Ex.iload (pc := 34) dX10_passes_34 rfl ?_
        refine Ex.callV (pc := 36) (As := [.int _, .int _]) (rest := []) dX10_passes_36 cX10_459 (tm_pick hP hX hv hs) (sh36 _) rfl rfl (by decide) (Nat.le_refl _) (Nat.le_refl _) (Nat.le_of_ble_eq_true rfl) (Or.inl (fun r S' h => by obtain ⟨_, _, h, _⟩ := h; subst h; rfl)) (fun r S' hq _ _ => ?_)
        obtain ⟨I1, L1, rfl, rfl, hS1, hSL1⟩ := hq
        rw [show pbI (fun k => evV p (prow f5 f6 x s k) 4 0) nb = nI b from by unfold pbI; rw [if_neg h0, hbx]; rfl]
        have hP1 : RefP I1 bk nb ns nh p f5 f6 := hP.sm hS1 (by decide)
        have hX1 : XR I1 v nb ns x := hX.sm hS1 (by decide)
        have hK1 : KR I1 v rs := hK.sm hS1 (by decide) (by decide)
        refine Ex.istore (pc := 39) (ls' := [some (.ref 36), some (.int _), some (.int _), some (.int _), some (.int _), some (.int _), none, none]) dX10_passes_39 (by decide) rfl rfl ?_
        refine Ex.iload (pc := 41) dX10_passes_41 rfl ?_
        refine Ex.iconst (pc := 43) (v := (-1)) dX10_passes_43 rfl ?_
        refine Ex.icmp_ne (pc := 44) (tgt := 51) dX10_passes_44 (by decide) (fun _ => ?_) (fun c44 => absurd c44 (fun e => absurd (show nI b < 0 from by rw [show nI b = -1 from e]; decide) (nI_pos (by omega))))
        refine Ex.aload_n (pc := 51) dX10_passes_51 rfl rfl ?_
        refine Ex.iload_n (pc := 52) dX10_passes_52 rfl rfl ?_
        refine Ex.iload (pc := 53) dX10_passes_53 rfl ?_
        refine Ex.iload (pc := 55) dX10_passes_55 rfl ?_
        refine Ex.aload_n (pc := 57) dX10_passes_57 rfl rfl ?_
        refine Ex.getR (pc := 58) dX10_passes_58 fX10_57 (sh36 _) r36_15 ?_
        refine Ex.iconst (pc := 61) (v := 5) dX10_passes_61 rfl ?_
        refine Ex.aload_n (pc := 62) dX10_passes_62 rfl rfl ?_
        refine Ex.getI (pc := 63) dX10_passes_63 fX10_51 (sh36 _) ?_
        refine Ex.imul (pc := 66) dX10_passes_66 ?_
        refine Ex.iload (pc := 67) dX10_passes_67 rfl ?_
        refine Ex.iadd (pc := 69) dX10_passes_69 ?_
        refine Ex.iald (pc := 70) (j := 5 * bk + b) dX10_passes_70 (sh39 _) (ixE (c := 5) (a := bk) (b := b) hP1.1.2.1 rfl (by omega) (by decide)) (ixE2 (c := 5) hP1.1.2.1 rfl (by omega)) ?_
        rw [(hP1.2.2.2.1 b hb).1, hfr, ← hsn]
        refine Ex.callV (pc := 71) (As := [.int _, .int _, .int _, .int _]) (rest := []) dX10_passes_71 cX10_462 (tm_preaches (n := serN f5 b) hP1 hX1 hv hb hs (by rw [hsn]; exact hr) hxb hK1) (sh36 _) rfl rfl (by decide) (Nat.le_refl _) (Nat.le_refl _) (Nat.le_of_ble_eq_true rfl) (Or.inl (fun r S' h => by obtain ⟨_, _, h, _⟩ := h; subst h; rfl)) (fun r S' hq _ _ => ?_)
        obtain ⟨I2, L2, rfl, rfl, hS2, hSL2, hF2, hX2, hK2⟩ := hq
        rw [hser]
        exact k74S b s I2 L2 _ hb hs (hS1.tr hS2 (by decide) (by decide)) (hSL1.tr hSL2 (by decide) (by decide)) ((SlF.of hS1 (by decide)).tr hF2) hX2 hK2
theorem tm_passes {N : Nat} {I : aI} {L : aL} {p : aP} {bk nb ns nh v : Nat} {f5 f6 : Nat → Int32} {x : aX} (hP : RefP I bk nb ns nh p f5 f6) (hX : XR I v nb ns x) (hv : v < 22) {dr : Bool} {rs : List aRow} (hxb : XB x) (hK : KR I v rs) (hrb : ∀ b, b < nb → ∃ r, r < 1000 ∧ f5 b = nI r) (hwk : ∃ w, w < 999 ∧ x.1 = nI w) : Run 6 0 0 mX10_passes [.ref 36, .int (nI v), .int (bI dr)] (St N I L) (RX N (fun w I2 L2 => w = some (.int (cameX p f5 f6 x (serX p f5 f6 nb ns dr x))) ∧ Sm [63, 65, 66, 67, 68, 69, 71] I I2 ∧ SmL [70] L L2 ∧ SlF v I I2 ∧ XR I2 v nb ns (weekX p f5 f6 nb ns nh dr x) ∧ KR I2 v (keepR rs x.1 (cameX p f5 f6 x (serX p f5 f6 nb ns dr x)) (serX p f5 f6 nb ns dr x)))) := by
  obtain ⟨w, hw, hx⟩ := hwk
  refine (tm_passesW hP hX hv hxb hK hrb ⟨w, by omega, hx⟩).imp ?_
  rintro r S' ⟨I2, L2, h0, h1, h2, h3, h4, h5, h6⟩
  refine ⟨I2, L2, h0, h1, h2, h3, h4, h5 ?_, h6⟩
  intro q
  rw [hx] at q
  have := (nI_eq (by omega) (by decide)).mp (show nI w = nI 999 from q)
  omega
