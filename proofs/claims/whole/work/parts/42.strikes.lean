/-- the reference's bank tells the plan -/
def RefP (I : aI) (bk nb ns nh : Nat) (p : aP) (f5 f6 : Nat → Int32) : Prop := RefB I bk nb ns nh ∧ RefC I bk p ∧ PlanT p ∧ (∀ b, b < nb → I 39 (5 * bk + b) = f5 b ∧ I 40 (5 * bk + b) = f6 b) ∧ (∀ s, s < ns → I 42 (6 * bk + s) = f5 (6 + s) ∧ I 43 (6 * bk + s) = f6 (6 + s)) ∧ ∀ h, h < nh → I 45 (6 * bk + h) = f5 (12 + h) ∧ I 46 (6 * bk + h) = f6 (12 + h)
theorem RefP.sm' {I I2 : aI} {bk nb ns nh : Nat} {p : aP} {f5 f6 : Nat → Int32} {l : List Nat} (h : RefP I bk nb ns nh p f5 f6) (hS : Sm l I I2) (h36 : I2 36 13 = I 36 13) (hl : ∀ a ∈ l, a = 36 ∨ 53 ≤ a ∨ a = 37) : RefP I2 bk nb ns nh p f5 f6 := by
  have hx : ∀ a, 37 < a → a < 53 → a ∉ l := fun a h1 h2 q => by have := hl a q; omega
  obtain ⟨h1, h2, h3, h4, h5, h6⟩ := h
  refine ⟨h1.sm hS h36 (hx _ (by decide) (by decide)) (hx _ (by decide) (by decide)) (hx _ (by decide) (by decide)), h2.sm hS (hx _ (by decide) (by decide)) (hx _ (by decide) (by decide)) (hx _ (by decide) (by decide)) (hx _ (by decide) (by decide)), h3, ?_, ?_, ?_⟩
  · rw [hS 39 (hx _ (by decide) (by decide)), hS 40 (hx _ (by decide) (by decide))]; exact h4
  · rw [hS 42 (hx _ (by decide) (by decide)), hS 43 (hx _ (by decide) (by decide))]; exact h5
  · rw [hS 45 (hx _ (by decide) (by decide)), hS 46 (hx _ (by decide) (by decide))]; exact h6
theorem RefP.sm {I I2 : aI} {bk nb ns nh : Nat} {p : aP} {f5 f6 : Nat → Int32} {l : List Nat} (h : RefP I bk nb ns nh p f5 f6) (hS : Sm l I I2) (hl : ∀ a ∈ l, 53 ≤ a) : RefP I2 bk nb ns nh p f5 f6 :=
  h.sm' hS (by rw [hS 36 (fun q => by have := hl _ q; omega)]) (fun a ha => Or.inr (Or.inl (hl a ha)))
/-- the state in the reference's slot v -/
def XR (I : aI) (v nb ns : Nat) (x : aX) : Prop := I 63 v = x.1 ∧ I 64 v = x.2.1 ∧ I 67 v = x.2.2.1 ∧ (∀ b, b < nb → I 65 (5 * v + b) = x.2.2.2.1 b) ∧ ∀ s, s < ns → I 66 (6 * v + s) = x.2.2.2.2 s
def le99 (x : Int32) : Prop := ∃ n, n ≤ 99 ∧ x = nI n
def AskB (f : Nat → Int32) (a z d t w k : Int32) : Prop := f 1 = a ∧ f 2 = z ∧ f 3 = d ∧ f 4 = t ∧ f 5 = w ∧ f 6 = k
set_option maxRecDepth 20000 in
theorem tm_lays1 {N : Nat} {I : aI} {L : aL} {p : aP} {bk nb ns nh v b s : Nat} {f5 f6 : Nat → Int32} {x : aX} (hP : RefP I bk nb ns nh p f5 f6) (hX : XR I v nb ns x) (hv : v < 22) (hb : b < nb) (hs : s < ns) : Run 0 0 0 mX10_lays [.ref 36, .int (nI v), .int (nI b), .int (nI s)] (St N I L) (RP none N L (fun I2 => Sm [71] I I2 ∧ AskB (I2 71) (f5 b) (x.2.2.2.1 b) (x.2.2.2.2 s) (f6 (6 + s)) x.2.1 x.1 ∧ ∀ j, 7 ≤ j → I2 71 j = I 71 j)) := by
  refine Run.of (ls := [some (.ref 36), some (.int _), some (.int _), some (.int _)]) (by decide) (Nat.le_of_ble_eq_true rfl) rfl ?_
  obtain ⟨⟨h1, h2, hnb, hns, hnh, hcb, hcs, hch⟩, hC, hT, hf1, hf2, hf3⟩ := id hP
  obtain ⟨x1, x2, x3, x4, x5⟩ := id hX
  refine Ex.aload_n (pc := 0) dX10_lays_0 rfl rfl ?_
  refine Ex.getR (pc := 1) dX10_lays_1 fX10_186 (sh36 _) r36_57 ?_
  refine Ex.iconst (pc := 4) (v := 1) dX10_lays_4 rfl ?_
  refine Ex.iload_n (pc := 5) dX10_lays_5 rfl rfl ?_
  refine Ex.iconst (pc := 6) (v := (-1)) dX10_lays_6 rfl ?_
  refine Ex.icmp_ne (pc := 7) (tgt := 14) dX10_lays_7 (by decide) (fun _ => ?_) (fun c7 => absurd c7 (fun e => absurd (show nI b < 0 from by rw [show nI b = -1 from e]; decide) (nI_pos (by omega))))
  refine Ex.aload_n (pc := 14) dX10_lays_14 rfl rfl ?_
  refine Ex.getR (pc := 15) dX10_lays_15 fX10_57 (sh36 _) r36_15 ?_
  refine Ex.iconst (pc := 18) (v := 5) dX10_lays_18 rfl ?_
  refine Ex.aload_n (pc := 19) dX10_lays_19 rfl rfl ?_
  refine Ex.getI (pc := 20) dX10_lays_20 fX10_51 (sh36 _) ?_
  refine Ex.imul (pc := 23) dX10_lays_23 ?_
  refine Ex.iload_n (pc := 24) dX10_lays_24 rfl rfl ?_
  refine Ex.iadd (pc := 25) dX10_lays_25 ?_
  refine Ex.iald (pc := 26) (j := 5 * bk + b) dX10_lays_26 (sh39 _) (ixE (c := 5) (a := bk) (b := b) h2 rfl (by omega) (by decide)) (ixE2 (c := 5) h2 rfl (by omega)) ?_
  refine Ex.iast (pc := 27) (j := 1) dX10_lays_27 (sh71 _) (by unfold vp_in; decide) (by decide) ?_
  refine Ex.aload_n (pc := 28) dX10_lays_28 rfl rfl ?_
  refine Ex.getR (pc := 29) dX10_lays_29 fX10_186 (sh36 _) r36_57 ?_
  refine Ex.iconst (pc := 32) (v := 2) dX10_lays_32 rfl ?_
  refine Ex.iload_n (pc := 33) dX10_lays_33 rfl rfl ?_
  refine Ex.iconst (pc := 34) (v := (-1)) dX10_lays_34 rfl ?_
  refine Ex.icmp_ne (pc := 35) (tgt := 42) dX10_lays_35 (by decide) (fun _ => ?_) (fun c35 => absurd c35 (fun e => absurd (show nI b < 0 from by rw [show nI b = -1 from e]; decide) (nI_pos (by omega))))
  refine Ex.aload_n (pc := 42) dX10_lays_42 rfl rfl ?_
  refine Ex.getR (pc := 43) dX10_lays_43 fX10_159 (sh36 _) r36_48 ?_
  refine Ex.iconst (pc := 46) (v := 5) dX10_lays_46 rfl ?_
  refine Ex.iload_n (pc := 47) dX10_lays_47 rfl rfl ?_
  refine Ex.imul (pc := 48) dX10_lays_48 ?_
  refine Ex.iload_n (pc := 49) dX10_lays_49 rfl rfl ?_
  refine Ex.iadd (pc := 50) dX10_lays_50 ?_
  refine Ex.iald (pc := 51) (j := 5 * v + b) dX10_lays_51 (sh65 _) (ixE (c := 5) (a := v) (b := b) rfl rfl (by omega) (by decide)) (ixE2 (c := 5) rfl rfl (by omega)) ?_
  refine Ex.iast (pc := 52) (j := 2) dX10_lays_52 (sh71 _) (by unfold vp_in; decide) (by decide) ?_
  refine Ex.aload_n (pc := 53) dX10_lays_53 rfl rfl ?_
  refine Ex.getR (pc := 54) dX10_lays_54 fX10_186 (sh36 _) r36_57 ?_
  refine Ex.iconst (pc := 57) (v := 3) dX10_lays_57 rfl ?_
  refine Ex.iload_n (pc := 58) dX10_lays_58 rfl rfl ?_
  refine Ex.iconst (pc := 59) (v := (-1)) dX10_lays_59 rfl ?_
  refine Ex.icmp_ne (pc := 60) (tgt := 67) dX10_lays_60 (by decide) (fun _ => ?_) (fun c60 => absurd c60 (fun e => absurd (show nI s < 0 from by rw [show nI s = -1 from e]; decide) (nI_pos (by omega))))
  refine Ex.aload_n (pc := 67) dX10_lays_67 rfl rfl ?_
  refine Ex.getR (pc := 68) dX10_lays_68 fX10_162 (sh36 _) r36_49 ?_
  refine Ex.bipush (pc := 71) (v := 6) dX10_lays_71 rfl ?_
  refine Ex.iload_n (pc := 73) dX10_lays_73 rfl rfl ?_
  refine Ex.imul (pc := 74) dX10_lays_74 ?_
  refine Ex.iload_n (pc := 75) dX10_lays_75 rfl rfl ?_
  refine Ex.iadd (pc := 76) dX10_lays_76 ?_
  refine Ex.iald (pc := 77) (j := 6 * v + s) dX10_lays_77 (sh66 _) (ixE (c := 6) (a := v) (b := s) rfl rfl (by omega) (by decide)) (ixE2 (c := 6) rfl rfl (by omega)) ?_
  refine Ex.iast (pc := 78) (j := 3) dX10_lays_78 (sh71 _) (by unfold vp_in; decide) (by decide) ?_
  refine Ex.aload_n (pc := 79) dX10_lays_79 rfl rfl ?_
  refine Ex.getR (pc := 80) dX10_lays_80 fX10_186 (sh36 _) r36_57 ?_
  refine Ex.iconst (pc := 83) (v := 4) dX10_lays_83 rfl ?_
  refine Ex.iload_n (pc := 84) dX10_lays_84 rfl rfl ?_
  refine Ex.iconst (pc := 85) (v := (-1)) dX10_lays_85 rfl ?_
  refine Ex.icmp_ne (pc := 86) (tgt := 93) dX10_lays_86 (by decide) (fun _ => ?_) (fun c86 => absurd c86 (fun e => absurd (show nI s < 0 from by rw [show nI s = -1 from e]; decide) (nI_pos (by omega))))
  refine Ex.aload_n (pc := 93) dX10_lays_93 rfl rfl ?_
  refine Ex.getR (pc := 94) dX10_lays_94 fX10_69 (sh36 _) r36_19 ?_
  refine Ex.bipush (pc := 97) (v := 6) dX10_lays_97 rfl ?_
  refine Ex.aload_n (pc := 99) dX10_lays_99 rfl rfl ?_
  refine Ex.getI (pc := 100) dX10_lays_100 fX10_51 (sh36 _) ?_
  refine Ex.imul (pc := 103) dX10_lays_103 ?_
  refine Ex.iload_n (pc := 104) dX10_lays_104 rfl rfl ?_
  refine Ex.iadd (pc := 105) dX10_lays_105 ?_
  refine Ex.iald (pc := 106) (j := 6 * bk + s) dX10_lays_106 (sh43 _) (ixE (c := 6) (a := bk) (b := s) h2 rfl (by omega) (by decide)) (ixE2 (c := 6) h2 rfl (by omega)) ?_
  refine Ex.iast (pc := 107) (j := 4) dX10_lays_107 (sh71 _) (by unfold vp_in; decide) (by decide) ?_
  refine Ex.aload_n (pc := 108) dX10_lays_108 rfl rfl ?_
  refine Ex.getR (pc := 109) dX10_lays_109 fX10_186 (sh36 _) r36_57 ?_
  refine Ex.iconst (pc := 112) (v := 5) dX10_lays_112 rfl ?_
  refine Ex.aload_n (pc := 113) dX10_lays_113 rfl rfl ?_
  refine Ex.getR (pc := 114) dX10_lays_114 fX10_156 (sh36 _) r36_47 ?_
  refine Ex.iload_n (pc := 117) dX10_lays_117 rfl rfl ?_
  refine Ex.iald (pc := 118) (j := v) dX10_lays_118 (sh64 _) (vp_in_nI hv (by decide)) (ixN2 (by omega)) ?_
  refine Ex.iast (pc := 119) (j := 5) dX10_lays_119 (sh71 _) (by unfold vp_in; decide) (by decide) ?_
  refine Ex.aload_n (pc := 120) dX10_lays_120 rfl rfl ?_
  refine Ex.getR (pc := 121) dX10_lays_121 fX10_186 (sh36 _) r36_57 ?_
  refine Ex.bipush (pc := 124) (v := 6) dX10_lays_124 rfl ?_
  refine Ex.aload_n (pc := 126) dX10_lays_126 rfl rfl ?_
  refine Ex.getR (pc := 127) dX10_lays_127 fX10_153 (sh36 _) r36_46 ?_
  refine Ex.iload_n (pc := 130) dX10_lays_130 rfl rfl ?_
  refine Ex.iald (pc := 131) (j := v) dX10_lays_131 (sh63 _) (vp_in_nI hv (by decide)) (ixN2 (by omega)) ?_
  refine Ex.iast (pc := 132) (j := 6) dX10_lays_132 (sh71 _) (by unfold vp_in; decide) (by decide) ?_
  refine Ex.vret (pc := 133) rfl dX10_lays_133 (Nat.le_refl _) (Nat.le_refl _) ?_
  refine ⟨_, rfl, rfl, ?_, ?_, ?_⟩
  · repeat (first | exact Sm.rf | refine Sm.up ?_ (by decide))
  · have e1 := (hf1 b hb).1
    have e2 := x4 b hb
    have e3 := x5 s hs
    have e4 := (hf2 s hs).2
    refine ⟨?_, ?_, ?_, ?_, ?_, ?_⟩ <;> simp [va_up, upd, e1, e2, e3, e4, x1, x2]
  · intro j hj
    simp [va_up, upd, show j ≠ 1 by omega, show j ≠ 2 by omega, show j ≠ 3 by omega, show j ≠ 4 by omega, show j ≠ 5 by omega, show j ≠ 6 by omega]
set_option maxRecDepth 20000 in
theorem tm_lays0 {N : Nat} {I : aI} {L : aL} {v : Nat} {x : aX} (hv : v < 22) (x1 : I 63 v = x.1) (x2 : I 64 v = x.2.1) : Run 0 0 0 mX10_lays [.ref 36, .int (nI v), .int (-1), .int (-1)] (St N I L) (RP none N L (fun I2 => Sm [71] I I2 ∧ AskB (I2 71) 0 0 0 0 x.2.1 x.1 ∧ ∀ j, 7 ≤ j → I2 71 j = I 71 j)) := by
  refine Run.of (ls := [some (.ref 36), some (.int _), some (.int _), some (.int _)]) (by decide) (Nat.le_of_ble_eq_true rfl) rfl ?_
  refine Ex.aload_n (pc := 0) dX10_lays_0 rfl rfl ?_
  refine Ex.getR (pc := 1) dX10_lays_1 fX10_186 (sh36 _) r36_57 ?_
  refine Ex.iconst (pc := 4) (v := 1) dX10_lays_4 rfl ?_
  refine Ex.iload_n (pc := 5) dX10_lays_5 rfl rfl ?_
  refine Ex.iconst (pc := 6) (v := (-1)) dX10_lays_6 rfl ?_
  refine Ex.icmp_ne (pc := 7) (tgt := 14) dX10_lays_7 (by decide) (fun c7 => absurd rfl c7) (fun _ => ?_)
  refine Ex.iconst (pc := 10) (v := 0) dX10_lays_10 rfl ?_
  refine Ex.goto (pc := 11) (tgt := 27) dX10_lays_11 (by decide) ?_
  refine Ex.iast (pc := 27) (j := 1) dX10_lays_27 (sh71 _) (by unfold vp_in; decide) (by decide) ?_
  refine Ex.aload_n (pc := 28) dX10_lays_28 rfl rfl ?_
  refine Ex.getR (pc := 29) dX10_lays_29 fX10_186 (sh36 _) r36_57 ?_
  refine Ex.iconst (pc := 32) (v := 2) dX10_lays_32 rfl ?_
  refine Ex.iload_n (pc := 33) dX10_lays_33 rfl rfl ?_
  refine Ex.iconst (pc := 34) (v := (-1)) dX10_lays_34 rfl ?_
  refine Ex.icmp_ne (pc := 35) (tgt := 42) dX10_lays_35 (by decide) (fun c35 => absurd rfl c35) (fun _ => ?_)
  refine Ex.iconst (pc := 38) (v := 0) dX10_lays_38 rfl ?_
  refine Ex.goto (pc := 39) (tgt := 52) dX10_lays_39 (by decide) ?_
  refine Ex.iast (pc := 52) (j := 2) dX10_lays_52 (sh71 _) (by unfold vp_in; decide) (by decide) ?_
  refine Ex.aload_n (pc := 53) dX10_lays_53 rfl rfl ?_
  refine Ex.getR (pc := 54) dX10_lays_54 fX10_186 (sh36 _) r36_57 ?_
  refine Ex.iconst (pc := 57) (v := 3) dX10_lays_57 rfl ?_
  refine Ex.iload_n (pc := 58) dX10_lays_58 rfl rfl ?_
  refine Ex.iconst (pc := 59) (v := (-1)) dX10_lays_59 rfl ?_
  refine Ex.icmp_ne (pc := 60) (tgt := 67) dX10_lays_60 (by decide) (fun c60 => absurd rfl c60) (fun _ => ?_)
  refine Ex.iconst (pc := 63) (v := 0) dX10_lays_63 rfl ?_
  refine Ex.goto (pc := 64) (tgt := 78) dX10_lays_64 (by decide) ?_
  refine Ex.iast (pc := 78) (j := 3) dX10_lays_78 (sh71 _) (by unfold vp_in; decide) (by decide) ?_
  refine Ex.aload_n (pc := 79) dX10_lays_79 rfl rfl ?_
  refine Ex.getR (pc := 80) dX10_lays_80 fX10_186 (sh36 _) r36_57 ?_
  refine Ex.iconst (pc := 83) (v := 4) dX10_lays_83 rfl ?_
  refine Ex.iload_n (pc := 84) dX10_lays_84 rfl rfl ?_
  refine Ex.iconst (pc := 85) (v := (-1)) dX10_lays_85 rfl ?_
  refine Ex.icmp_ne (pc := 86) (tgt := 93) dX10_lays_86 (by decide) (fun c86 => absurd rfl c86) (fun _ => ?_)
  refine Ex.iconst (pc := 89) (v := 0) dX10_lays_89 rfl ?_
  refine Ex.goto (pc := 90) (tgt := 107) dX10_lays_90 (by decide) ?_
  refine Ex.iast (pc := 107) (j := 4) dX10_lays_107 (sh71 _) (by unfold vp_in; decide) (by decide) ?_
  refine Ex.aload_n (pc := 108) dX10_lays_108 rfl rfl ?_
  refine Ex.getR (pc := 109) dX10_lays_109 fX10_186 (sh36 _) r36_57 ?_
  refine Ex.iconst (pc := 112) (v := 5) dX10_lays_112 rfl ?_
  refine Ex.aload_n (pc := 113) dX10_lays_113 rfl rfl ?_
  refine Ex.getR (pc := 114) dX10_lays_114 fX10_156 (sh36 _) r36_47 ?_
  refine Ex.iload_n (pc := 117) dX10_lays_117 rfl rfl ?_
  refine Ex.iald (pc := 118) (j := v) dX10_lays_118 (sh64 _) (vp_in_nI hv (by decide)) (ixN2 (by omega)) ?_
  refine Ex.iast (pc := 119) (j := 5) dX10_lays_119 (sh71 _) (by unfold vp_in; decide) (by decide) ?_
  refine Ex.aload_n (pc := 120) dX10_lays_120 rfl rfl ?_
  refine Ex.getR (pc := 121) dX10_lays_121 fX10_186 (sh36 _) r36_57 ?_
  refine Ex.bipush (pc := 124) (v := 6) dX10_lays_124 rfl ?_
  refine Ex.aload_n (pc := 126) dX10_lays_126 rfl rfl ?_
  refine Ex.getR (pc := 127) dX10_lays_127 fX10_153 (sh36 _) r36_46 ?_
  refine Ex.iload_n (pc := 130) dX10_lays_130 rfl rfl ?_
  refine Ex.iald (pc := 131) (j := v) dX10_lays_131 (sh63 _) (vp_in_nI hv (by decide)) (ixN2 (by omega)) ?_
  refine Ex.iast (pc := 132) (j := 6) dX10_lays_132 (sh71 _) (by unfold vp_in; decide) (by decide) ?_
  refine Ex.vret (pc := 133) rfl dX10_lays_133 (Nat.le_refl _) (Nat.le_refl _) ?_
  refine ⟨_, rfl, rfl, ?_, ?_, ?_⟩
  · repeat (first | exact Sm.rf | refine Sm.up ?_ (by decide))
  · refine ⟨?_, ?_, ?_, ?_, ?_, ?_⟩ <;> simp [va_up, upd, x1, x2]
  · intro j hj
    simp [va_up, upd, show j ≠ 1 by omega, show j ≠ 2 by omega, show j ≠ 3 by omega, show j ≠ 4 by omega, show j ≠ 5 by omega, show j ≠ 6 by omega]
theorem AskR_mk {f nm : Nat → Int32} {r : Nat} (a1 : f 1 = nm 1) (a2 : f 2 = nm 2) (a3 : f 3 = nm 4) (a4 : f 4 = nm 5) (a5 : f 5 = nm 14) (a6 : f 6 = nm 16) (a7 : r ≤ 1 → f 7 = nm 17 ∧ f 8 = nm 18) (a8 : r = 2 ∨ r = 3 → f 9 = nm 7 ∧ f 10 = nm 8 ∧ f 11 = nm 19) : AskR f nm r := by
  intro q h1 h2 ha
  rcases (show q = 1 ∨ q = 2 ∨ q = 3 ∨ q = 4 ∨ q = 5 ∨ q = 6 ∨ q = 7 ∨ q = 8 ∨ q = 9 ∨ q = 10 ∨ q = 11 by omega) with rfl | rfl | rfl | rfl | rfl | rfl | rfl | rfl | rfl | rfl | rfl
  · exact a1
  · exact a2
  · exact a3
  · exact a4
  · exact a5
  · exact a6
  · exact (a7 (by simp only [alw, show nmOf 7 = 17 from rfl] at ha; omega)).1
  · exact (a7 (by simp only [alw, show nmOf 8 = 18 from rfl] at ha; omega)).2
  · exact (a8 (by simp only [alw, show nmOf 9 = 7 from rfl] at ha; omega)).1
  · exact (a8 (by simp only [alw, show nmOf 10 = 8 from rfl] at ha; omega)).2.1
  · exact (a8 (by simp only [alw, show nmOf 11 = 19 from rfl] at ha; omega)).2.2
theorem evV_w {p : aP} {nm : Nat → Int32} {r : Nat} {w : Int32} (h : p.2.2.1 r = p.2.2.2 r) : evV p nm r w = w := by unfold evV; rw [if_pos h]
theorem sN99 {x : Int32} (h : le99 x) : 0 ≤ x.toInt ∧ x.toInt ≤ 99 := by
  obtain ⟨n, h, rfl⟩ := h
  rw [nI_toInt (by omega)]
  omega
theorem le99_of {x : Int32} (h0 : 0 ≤ x.toInt) (h1 : x.toInt ≤ 99) : le99 x := by
  refine ⟨x.toInt.toNat, by omega, Int32.toInt_inj.mp ?_⟩
  rw [nI_toInt (by omega)]
  omega
theorem pos_toInt (v : Int32) : (if 0 < v then v else 0).toInt = if 0 < v.toInt then v.toInt else 0 := by
  by_cases h : 0 < v
  · rw [if_pos h, if_pos (show (0 : Int) < v.toInt from Int32.lt_iff_toInt_lt.mp h)]
  · rw [if_neg h, if_neg (show ¬ (0 : Int) < v.toInt from fun q => h (Int32.lt_iff_toInt_lt.mpr q))]; rfl
theorem outV_toInt (d v : Int32) : (outV d v).toInt = if (if 0 < v.toInt then v.toInt else 0) < d.toInt then (if 0 < v.toInt then v.toInt else 0) else d.toInt := by
  unfold outV
  by_cases h : (if 0 < v then v else 0) < d
  · rw [if_pos h, pos_toInt, if_pos (show (if 0 < v.toInt then v.toInt else 0) < d.toInt by rw [Int32.lt_iff_toInt_lt, pos_toInt] at h; exact h)]
  · rw [if_neg h, if_neg (show ¬ (if 0 < v.toInt then v.toInt else 0) < d.toInt by rw [Int32.lt_iff_toInt_lt, pos_toInt] at h; exact h)]
theorem wearV_toInt (v : Int32) : (wearV v).toInt = if (if 0 < v.toInt then v.toInt else 0) < 9 then (if 0 < v.toInt then v.toInt else 0) else 9 := by
  unfold wearV
  by_cases h : (if 0 < v then v else 0) < 9
  · rw [if_pos h, pos_toInt, if_pos (show (if 0 < v.toInt then v.toInt else 0) < 9 by rw [Int32.lt_iff_toInt_lt, pos_toInt] at h; exact h)]
  · rw [if_neg h, if_neg (show ¬ (if 0 < v.toInt then v.toInt else 0) < 9 by rw [Int32.lt_iff_toInt_lt, pos_toInt] at h; exact h)]; rfl
theorem clampI (v d : Int) (h : 0 ≤ d) : (if (if 0 < v then v else 0) < d then (if 0 < v then v else 0) else d) = if v ≤ 0 then 0 else if v ≤ d then v else d := by
  by_cases q : 0 < v
  · simp only [if_pos q, if_neg (show ¬ v ≤ 0 by omega)]
    split <;> split <;> omega
  · simp only [if_neg q, if_pos (show v ≤ 0 by omega)]
    split <;> omega
theorem sub_toInt {a b : Int32} (h1 : -2 ^ 31 ≤ a.toInt - b.toInt) (h2 : a.toInt - b.toInt < 2 ^ 31) : (a - b).toInt = a.toInt - b.toInt := by
  rw [Int32.toInt_sub]
  exact Int.bmod_eq_of_le (by omega) (by omega)
theorem wearV_rng (v : Int32) : 0 ≤ (wearV v).toInt ∧ (wearV v).toInt ≤ 9 := by
  rw [wearV_toInt]; split <;> (try split) <;> omega
theorem pos0_99 {z w : Int32} (hz : le99 z) : le99 (pos0 (z - wearV w)) := by
  have h1 := sN99 hz
  have h2 := wearV_rng w
  have h3 : (z - wearV w).toInt = z.toInt - (wearV w).toInt := sub_toInt (by omega) (by omega)
  unfold pos0
  have := pos_toInt (z - wearV w)
  refine le99_of ?_ ?_ <;> rw [this, h3] <;> split <;> omega
theorem outV_rng {d : Int32} (v : Int32) (hd : le99 d) : 0 ≤ (outV d v).toInt ∧ (outV d v).toInt ≤ d.toInt := by
  have h1 := sN99 hd
  rw [outV_toInt]; split <;> (try split) <;> omega
theorem out_99 {d v : Int32} (hd : le99 d) : le99 (d - outV d v) := by
  have h1 := sN99 hd
  have h2 := outV_rng v hd
  have h3 : (d - outV d v).toInt = d.toInt - (outV d v).toInt := sub_toInt (by omega) (by omega)
  exact le99_of (by omega) (by omega)

set_option maxRecDepth 20000 in
theorem tm_strikes {N : Nat} {I : aI} {L : aL} {p : aP} {bk nb ns nh v b s : Nat} {f5 f6 : Nat → Int32} {x : aX} (hP : RefP I bk nb ns nh p f5 f6) (hX : XR I v nb ns x) (hv : v < 22) (hb : b < nb) (hs : s < ns) {rb c : Int32} (hz9 : le99 (x.2.2.2.1 b)) (hd9 : le99 (x.2.2.2.2 s)) : Run 3 0 0 mX10_strikes [.ref 36, .int (nI v), .int (nI b), .int (nI s), .int (rb + 1)] (St N I L) (RX N (fun w I2 L2 => w = none ∧ Sm [65, 66, 71] I I2 ∧ SmL [70] L L2 ∧ I2 65 = upd (I 65) (5 * v + b) (strk p (nmL (f5 b) (f6 (6 + s)) x.2.1 x.1) (x.2.2.2.1 b, x.2.2.2.2 s, rb, c)).1 ∧ I2 66 = upd (I 66) (6 * v + s) (strk p (nmL (f5 b) (f6 (6 + s)) x.2.1 x.1) (x.2.2.2.1 b, x.2.2.2.2 s, rb, c)).2.1)) := by
  refine Run.of (ls := [some (.ref 36), some (.int _), some (.int _), some (.int _), some (.int _), none, none, none, none, none, none]) (by decide) (Nat.le_of_ble_eq_true rfl) rfl ?_
  obtain ⟨⟨h1, h2, hnb, hns, hnh, hcb, hcs, hch⟩, hC, hT, hf1, hf2, hf3⟩ := id hP
  obtain ⟨x1, x2, x3, x4, x5⟩ := id hX
  simp only [strk]
  have hTr := hT
  generalize hZ : x.2.2.2.1 b = Z at *
  generalize hD : x.2.2.2.2 s = D at *
  generalize hnm : nmS (nmL (f5 b) (f6 (6 + s)) x.2.1 x.1) Z D (rb + 1) = nm at *
  have k58 : ∀ I2 I3 : aI, Sm [71] I I2 → AskB (I2 71) (f5 b) (x.2.2.2.1 b) (x.2.2.2.2 s) (f6 (6 + s)) x.2.1 x.1 → I3 = va_up I2 71 (upd (upd (I2 71) 7 (rb + 1)) 8 (if Z = 0 then 1 else 0)) → Ex 3 0 0 mX10_strikes 0 0 58 [some (.ref 36), some (.int (nI v)), some (.int (nI b)), some (.int (nI s)), some (.int (rb + 1)), some (.int Z), some (.int D), none, none, none, none] [] (St N I3 L) (RX N (fun w I2 L2 => w = none ∧ Sm [65, 66, 71] I I2 ∧ SmL [70] L L2 ∧ I2 65 = upd (I 65) (5 * v + b) (pos0 (Z - wearV (evV p nm 1 1))) ∧ I2 66 = upd (I 66) (6 * v + s) (D - outV D (evV p nm 0 1)))) := by
    intro I2 I3 hS2 hA hI3
    have hS3 : Sm [71] I I3 := by rw [hI3]; exact hS2.up (by decide)
    have hP3 : RefP I3 bk nb ns nh p f5 f6 := hP.sm hS3 (by decide)
    have hb3 : I3 36 13 = nI bk := hP3.1.2.1
    have hC3 : RefC I3 bk p := hP3.2.1
    obtain ⟨a1, a2, a3, a4, a5, a6⟩ := hA
    rw [hZ] at a2
    rw [hD] at a3
    have hask : ∀ r, r ≤ 1 → AskR (I3 71) nm r := by
      intro r hr
      rw [hI3, va_up_s, ← hnm]
      refine AskR_mk ?_ ?_ ?_ ?_ ?_ ?_ ?_ ?_
      all_goals first | (intro q; omega) | skip
      all_goals simp [upd, nmS, nmL, a1, a2, a3, a4, a5, a6]
    have k201 : ∀ (zz : Int32) (o w : Int64) (L2 : aL), SmL [70] L L2 → zz = pos0 (Z - wearV (evV p nm 1 1)) → Ex 3 0 0 mX10_strikes 0 0 201 [some (.ref 36), some (.int (nI v)), some (.int (nI b)), some (.int (nI s)), some (.int (rb + 1)), some (.int Z), some (.int D), some (.long o), none, some (.long w), none] [.int zz, .int (5 * nI v + nI b), .ref 65] (St N (va_up I3 66 (upd (I3 66) (6 * v + s) (D - outV D (evV p nm 0 1)))) L2) (RX N (fun w I2 L2 => w = none ∧ Sm [65, 66, 71] I I2 ∧ SmL [70] L L2 ∧ I2 65 = upd (I 65) (5 * v + b) (pos0 (Z - wearV (evV p nm 1 1))) ∧ I2 66 = upd (I 66) (6 * v + s) (D - outV D (evV p nm 0 1)))) := by
      intro zz o w L2 hL2 hzz
      refine Ex.iast (pc := 201) (j := 5 * v + b) dX10_strikes_201 (sh65 _) (ixE (c := 5) (a := v) (b := b) rfl rfl (by omega) (by decide)) (ixE2 (c := 5) rfl rfl (by omega)) ?_
      refine Ex.vret (pc := 202) rfl dX10_strikes_202 (Nat.le_refl _) (Nat.le_refl _) ?_
      refine ⟨_, _, rfl, rfl, ?_, hL2, ?_, ?_⟩
      · exact ((hS3.tr Sm.rf (l := [65, 66, 71]) (l2 := []) (by decide) (by decide)).up (by decide)).up (by decide)
      · rw [va_up_s, va_up_n (by decide), hS3 65 (by decide), hzz]
      · rw [va_up_n (by decide), va_up_s, hS3 66 (by decide)]
    have k154 : ∀ (o w w0 : Int64) (L2 : aL), SmL [70] L L2 → o.toInt32 = outV D (evV p nm 0 1) → w = (wearV (evV p nm 1 1)).toInt64 → Ex 3 0 0 mX10_strikes 0 0 154 [some (.ref 36), some (.int (nI v)), some (.int (nI b)), some (.int (nI s)), some (.int (rb + 1)), some (.int Z), some (.int D), some (.long o), none, some (.long w0), none] [.long w] (St N I3 L2) (RX N (fun w I2 L2 => w = none ∧ Sm [65, 66, 71] I I2 ∧ SmL [70] L L2 ∧ I2 65 = upd (I 65) (5 * v + b) (pos0 (Z - wearV (evV p nm 1 1))) ∧ I2 66 = upd (I 66) (6 * v + s) (D - outV D (evV p nm 0 1)))) := by
      intro o w w0 L2 hL2 ho hw
      refine Ex.lstore (pc := 154) (ls' := [some (.ref 36), some (.int _), some (.int _), some (.int _), some (.int _), some (.int _), some (.int _), some (.long _), none, some (.long _), none]) dX10_strikes_154 (by decide) rfl rfl ?_
      refine Ex.aload_n (pc := 156) dX10_strikes_156 rfl rfl ?_
      refine Ex.getR (pc := 157) dX10_strikes_157 fX10_162 (sh36 _) r36_49 ?_
      refine Ex.bipush (pc := 160) (v := 6) dX10_strikes_160 rfl ?_
      refine Ex.iload_n (pc := 162) dX10_strikes_162 rfl rfl ?_
      refine Ex.imul (pc := 163) dX10_strikes_163 ?_
      refine Ex.iload_n (pc := 164) dX10_strikes_164 rfl rfl ?_
      refine Ex.iadd (pc := 165) dX10_strikes_165 ?_
      refine Ex.iload (pc := 166) dX10_strikes_166 rfl ?_
      refine Ex.lload (pc := 168) dX10_strikes_168 rfl ?_
      refine Ex.l2i (pc := 170) dX10_strikes_170 ?_
      refine Ex.isub (pc := 171) dX10_strikes_171 ?_
      rw [ho]
      refine Ex.iast (pc := 172) (j := 6 * v + s) dX10_strikes_172 (sh66 _) (ixE (c := 6) (a := v) (b := s) rfl rfl (by omega) (by decide)) (ixE2 (c := 6) rfl rfl (by omega)) ?_
      refine Ex.aload_n (pc := 173) dX10_strikes_173 rfl rfl ?_
      refine Ex.getR (pc := 174) dX10_strikes_174 fX10_159 (sh36 _) r36_48 ?_
      refine Ex.iconst (pc := 177) (v := 5) dX10_strikes_177 rfl ?_
      refine Ex.iload_n (pc := 178) dX10_strikes_178 rfl rfl ?_
      refine Ex.imul (pc := 179) dX10_strikes_179 ?_
      refine Ex.iload_n (pc := 180) dX10_strikes_180 rfl rfl ?_
      refine Ex.iadd (pc := 181) dX10_strikes_181 ?_
      refine Ex.iload (pc := 182) dX10_strikes_182 rfl ?_
      refine Ex.i2l (pc := 184) dX10_strikes_184 ?_
      refine Ex.lload (pc := 185) dX10_strikes_185 rfl ?_
      refine Ex.lcmp (pc := 187) dX10_strikes_187 ?_
      refine Ex.if_le (pc := 188) (tgt := 200) dX10_strikes_188 (by decide) (fun c188 => ?_) (fun c188 => ?_)
      · skip
        refine Ex.iconst (pc := 200) (v := 0) dX10_strikes_200 rfl ?_
        rw [lg_cmp_le, hw, l64_le] at c188
        refine k201 _ o w L2 hL2 ?_
        unfold pos0
        have q1 := sN99 hz9
        have q2 := wearV_rng (evV p nm 1 1)
        have q3 : (Z - wearV (evV p nm 1 1)).toInt = Z.toInt - (wearV (evV p nm 1 1)).toInt := sub_toInt (by omega) (by omega)
        rw [Int32.le_iff_toInt_le] at c188
        rw [if_neg (by rw [Int32.lt_iff_toInt_lt, q3]; show ¬ (0 : Int) < _; omega)]
      · skip
        refine Ex.iload (pc := 191) dX10_strikes_191 rfl ?_
        refine Ex.lload (pc := 193) dX10_strikes_193 rfl ?_
        refine Ex.l2i (pc := 195) dX10_strikes_195 ?_
        refine Ex.isub (pc := 196) dX10_strikes_196 ?_
        refine Ex.goto (pc := 197) (tgt := 201) dX10_strikes_197 (by decide) ?_
        rw [lg_cmp_le, hw, l64_le] at c188
        refine k201 _ o w L2 hL2 ?_
        rw [hw, lg_l2i_i2l]
        unfold pos0
        have q1 := sN99 hz9
        have q2 := wearV_rng (evV p nm 1 1)
        have q3 : (Z - wearV (evV p nm 1 1)).toInt = Z.toInt - (wearV (evV p nm 1 1)).toInt := sub_toInt (by omega) (by omega)
        rw [Int32.le_iff_toInt_le] at c188
        rw [if_pos (by rw [Int32.lt_iff_toInt_lt, q3]; show (0 : Int) < _; omega)]
    have k94 : ∀ (o : Int64) (L2 : aL), SmL [70] L L2 → o = (evV p nm 0 1).toInt64 → Ex 3 0 0 mX10_strikes 0 0 94 [some (.ref 36), some (.int (nI v)), some (.int (nI b)), some (.int (nI s)), some (.int (rb + 1)), some (.int Z), some (.int D), some (.long o), none, none, none] [.long (evV p nm 1 1).toInt64] (St N I3 L2) (RX N (fun w I2 L2 => w = none ∧ Sm [65, 66, 71] I I2 ∧ SmL [70] L L2 ∧ I2 65 = upd (I 65) (5 * v + b) (pos0 (Z - wearV (evV p nm 1 1))) ∧ I2 66 = upd (I 66) (6 * v + s) (D - outV D (evV p nm 0 1)))) := by
      intro o L2 hL2 ho
      have k124 : ∀ (o2 w : Int64), o2.toInt32 = outV D (evV p nm 0 1) → w = (evV p nm 1 1).toInt64 → Ex 3 0 0 mX10_strikes 0 0 124 [some (.ref 36), some (.int (nI v)), some (.int (nI b)), some (.int (nI s)), some (.int (rb + 1)), some (.int Z), some (.int D), some (.long o), none, some (.long w), none] [.long o2] (St N I3 L2) (RX N (fun w I2 L2 => w = none ∧ Sm [65, 66, 71] I I2 ∧ SmL [70] L L2 ∧ I2 65 = upd (I 65) (5 * v + b) (pos0 (Z - wearV (evV p nm 1 1))) ∧ I2 66 = upd (I 66) (6 * v + s) (D - outV D (evV p nm 0 1)))) := by
        intro o2 w ho2 hw
        refine Ex.lstore (pc := 124) (ls' := [some (.ref 36), some (.int _), some (.int _), some (.int _), some (.int _), some (.int _), some (.int _), some (.long _), none, some (.long _), none]) dX10_strikes_124 (by decide) rfl rfl ?_
        refine Ex.lload (pc := 126) dX10_strikes_126 rfl ?_
        refine Ex.lconst (pc := 128) (v := 0) dX10_strikes_128 rfl ?_
        refine Ex.lcmp (pc := 129) dX10_strikes_129 ?_
        refine Ex.if_ge (pc := 130) (tgt := 137) dX10_strikes_130 (by decide) (fun c130 => ?_) (fun c130 => ?_)
        · skip
          refine Ex.lload (pc := 137) dX10_strikes_137 rfl ?_
          refine Ex.ldc2 (pc := 139) dX10_strikes_139 kv_X10_435 ?_
          refine Ex.lcmp (pc := 142) dX10_strikes_142 ?_
          refine Ex.if_le (pc := 143) (tgt := 152) dX10_strikes_143 (by decide) (fun c143 => ?_) (fun c143 => ?_)
          · skip
            refine Ex.lload (pc := 152) dX10_strikes_152 rfl ?_
            rw [lg_cmp_ge, hw, show (0 : Int64) = (0 : Int32).toInt64 from rfl, l64_le, Int32.le_iff_toInt_le] at c130
            rw [lg_cmp_le, hw, show (9 : Int64) = (9 : Int32).toInt64 from rfl, l64_le, Int32.le_iff_toInt_le] at c143
            refine k154 o2 _ w L2 hL2 ho2 ?_
            apply Int64.toInt_inj.mp
            rw [Int32.toInt_toInt64, wearV_toInt, clampI _ _ (by decide)]
            have c130 : (0 : Int) ≤ (evV p nm 1 1).toInt := c130
            have c143 : (evV p nm 1 1).toInt ≤ 9 := c143
            rw [hw, Int32.toInt_toInt64]
            split <;> (try split) <;> omega
          · skip
            refine Ex.ldc2 (pc := 146) dX10_strikes_146 kv_X10_435 ?_
            refine Ex.goto (pc := 149) (tgt := 154) dX10_strikes_149 (by decide) ?_
            rw [lg_cmp_ge, hw, show (0 : Int64) = (0 : Int32).toInt64 from rfl, l64_le, Int32.le_iff_toInt_le] at c130
            rw [lg_cmp_le, hw, show (9 : Int64) = (9 : Int32).toInt64 from rfl, l64_le, Int32.le_iff_toInt_le] at c143
            refine k154 o2 _ w L2 hL2 ho2 ?_
            apply Int64.toInt_inj.mp
            rw [Int32.toInt_toInt64, wearV_toInt, clampI _ _ (by decide)]
            have c143 : ¬ (evV p nm 1 1).toInt ≤ 9 := c143
            show (9 : Int) = _
            split <;> (try split) <;> omega
        · skip
          refine Ex.lconst (pc := 133) (v := 0) dX10_strikes_133 rfl ?_
          refine Ex.goto (pc := 134) (tgt := 154) dX10_strikes_134 (by decide) ?_
          rw [lg_cmp_ge, hw, show (0 : Int64) = (0 : Int32).toInt64 from rfl, l64_le, Int32.le_iff_toInt_le] at c130
          refine k154 o2 _ w L2 hL2 ho2 ?_
          apply Int64.toInt_inj.mp
          rw [Int32.toInt_toInt64, wearV_toInt, clampI _ _ (by decide)]
          have c130 : ¬ (0 : Int) ≤ (evV p nm 1 1).toInt := c130
          show (0 : Int) = _
          split <;> omega
      refine Ex.lstore (pc := 94) (ls' := [some (.ref 36), some (.int _), some (.int _), some (.int _), some (.int _), some (.int _), some (.int _), some (.long _), none, some (.long _), none]) dX10_strikes_94 (by decide) rfl rfl ?_
      refine Ex.lload (pc := 96) dX10_strikes_96 rfl ?_
      refine Ex.lconst (pc := 98) (v := 0) dX10_strikes_98 rfl ?_
      refine Ex.lcmp (pc := 99) dX10_strikes_99 ?_
      refine Ex.if_ge (pc := 100) (tgt := 107) dX10_strikes_100 (by decide) (fun c100 => ?_) (fun c100 => ?_)
      · skip
        refine Ex.lload (pc := 107) dX10_strikes_107 rfl ?_
        refine Ex.iload (pc := 109) dX10_strikes_109 rfl ?_
        refine Ex.i2l (pc := 111) dX10_strikes_111 ?_
        refine Ex.lcmp (pc := 112) dX10_strikes_112 ?_
        refine Ex.if_le (pc := 113) (tgt := 122) dX10_strikes_113 (by decide) (fun c113 => ?_) (fun c113 => ?_)
        · skip
          refine Ex.lload (pc := 122) dX10_strikes_122 rfl ?_
          rw [lg_cmp_ge, ho, show (0 : Int64) = (0 : Int32).toInt64 from rfl, l64_le, Int32.le_iff_toInt_le] at c100
          rw [lg_cmp_le, ho, l64_le, Int32.le_iff_toInt_le] at c113
          refine k124 _ _ ?_ rfl
          have q1 := sN99 hd9
          apply Int32.toInt_inj.mp
          rw [outV_toInt, clampI _ _ q1.1]
          have c100 : (0 : Int) ≤ (evV p nm 0 1).toInt := c100
          rw [ho, lg_l2i_i2l]
          split <;> (try split) <;> omega
        · skip
          refine Ex.iload (pc := 116) dX10_strikes_116 rfl ?_
          refine Ex.i2l (pc := 118) dX10_strikes_118 ?_
          refine Ex.goto (pc := 119) (tgt := 124) dX10_strikes_119 (by decide) ?_
          rw [lg_cmp_ge, ho, show (0 : Int64) = (0 : Int32).toInt64 from rfl, l64_le, Int32.le_iff_toInt_le] at c100
          rw [lg_cmp_le, ho, l64_le, Int32.le_iff_toInt_le] at c113
          refine k124 _ _ ?_ rfl
          have q1 := sN99 hd9
          apply Int32.toInt_inj.mp
          rw [outV_toInt, clampI _ _ q1.1]
          rw [lg_l2i_i2l]
          split <;> (try split) <;> omega
      · skip
        refine Ex.lconst (pc := 103) (v := 0) dX10_strikes_103 rfl ?_
        refine Ex.goto (pc := 104) (tgt := 124) dX10_strikes_104 (by decide) ?_
        rw [lg_cmp_ge, ho, show (0 : Int64) = (0 : Int32).toInt64 from rfl, l64_le, Int32.le_iff_toInt_le] at c100
        refine k124 _ _ ?_ rfl
        have q1 := sN99 hd9
        apply Int32.toInt_inj.mp
        rw [outV_toInt, clampI _ _ q1.1]
        have c100 : ¬ (0 : Int) ≤ (evV p nm 0 1).toInt := c100
        show (0 : Int) = _
        split <;> (try split) <;> omega
    have k75 : ∀ (L2 : aL), SmL [70] L L2 → Ex 3 0 0 mX10_strikes 0 0 75 [some (.ref 36), some (.int (nI v)), some (.int (nI b)), some (.int (nI s)), some (.int (rb + 1)), some (.int Z), some (.int D), none, none, none, none] [.long (evV p nm 0 1).toInt64] (St N I3 L2) (RX N (fun w I2 L2 => w = none ∧ Sm [65, 66, 71] I I2 ∧ SmL [70] L L2 ∧ I2 65 = upd (I 65) (5 * v + b) (pos0 (Z - wearV (evV p nm 1 1))) ∧ I2 66 = upd (I 66) (6 * v + s) (D - outV D (evV p nm 0 1)))) := by
      intro L2 hL2
      refine Ex.lstore (pc := 75) (ls' := [some (.ref 36), some (.int _), some (.int _), some (.int _), some (.int _), some (.int _), some (.int _), some (.long _), none, none, none]) dX10_strikes_75 (by decide) rfl rfl ?_
      refine Ex.aload_n (pc := 77) dX10_strikes_77 rfl rfl ?_
      refine Ex.iconst (pc := 78) (v := 1) dX10_strikes_78 rfl ?_
      refine Ex.callV (pc := 79) (As := [.int 1]) (rest := []) dX10_strikes_79 cX10_428 (tm_isTold h1 hb3 (r := 1) (by decide)) (sh36 _) rfl rfl (by decide) (Nat.le_refl _) (Nat.le_refl _) (Nat.le_of_ble_eq_true rfl) (Or.inl (fun r S' h => by obtain ⟨_, h⟩ := h; subst h; rfl)) (fun r S' hq _ _ => ?_)
      obtain ⟨rfl, rfl⟩ := hq
      refine Ex.if_eq (pc := 82) (tgt := 93) dX10_strikes_82 (by decide) (fun c82 => ?_) (fun c82 => ?_)
      · skip
        refine Ex.lconst (pc := 93) (v := 1) dX10_strikes_93 rfl ?_
        have heq1 : p.2.2.1 1 = p.2.2.2 1 := by
          rcases hC3 1 (by decide) with ⟨e, _⟩ | ⟨e, e1, e2, _⟩
          · exact e
          · rw [e2] at c82; exact absurd (of_decide_eq_true (by simpa [bI] using c82)) (show ¬ nI (p.2.2.1 1) = -1 from fun q => absurd (show nI (p.2.2.1 1) < 0 from by rw [q]; decide) (nI_pos (by omega)))
        rw [show (1 : Int64) = (evV p nm 1 1).toInt64 from by rw [evV_w heq1]; rfl]
        exact k94 _ _ hL2 rfl
      · skip
        have hlt1 : p.2.2.1 1 < p.2.2.2 1 := by
          rcases hC3 1 (by decide) with ⟨_, e⟩ | ⟨e, _⟩
          · rw [e] at c82; exact absurd rfl c82
          · exact e
        refine Ex.aload_n (pc := 85) dX10_strikes_85 rfl rfl ?_
        refine Ex.iconst (pc := 86) (v := 1) dX10_strikes_86 rfl ?_
        refine Ex.callV (pc := 87) (As := [.int 1]) (rest := []) dX10_strikes_87 cX10_431 (tm_reckons (w0 := 1) h1 hb3 hC3 hTr (r := 1) (by decide) (hask 1 (by decide)) hlt1) (sh36 _) rfl rfl (by decide) (Nat.le_refl _) (Nat.le_refl _) (Nat.le_of_ble_eq_true rfl) (Or.inl (fun r S' h => by obtain ⟨_, _, h, _⟩ := h; subst h; rfl)) (fun r S' hq _ _ => ?_)
        obtain ⟨_, L3, rfl, rfl, rfl, hL3⟩ := hq
        refine Ex.goto (pc := 90) (tgt := 94) dX10_strikes_90 (by decide) ?_
        exact k94 _ _ (hL2.tr hL3 (by decide) (by decide)) rfl
    refine Ex.aload_n (pc := 58) dX10_strikes_58 rfl rfl ?_
    refine Ex.iconst (pc := 59) (v := 0) dX10_strikes_59 rfl ?_
    refine Ex.callV (pc := 60) (As := [.int 0]) (rest := []) dX10_strikes_60 cX10_428 (tm_isTold h1 hb3 (r := 0) (by decide)) (sh36 _) rfl rfl (by decide) (Nat.le_refl _) (Nat.le_refl _) (Nat.le_of_ble_eq_true rfl) (Or.inl (fun r S' h => by obtain ⟨_, h⟩ := h; subst h; rfl)) (fun r S' hq _ _ => ?_)
    obtain ⟨rfl, rfl⟩ := hq
    refine Ex.if_eq (pc := 63) (tgt := 74) dX10_strikes_63 (by decide) (fun c63 => ?_) (fun c63 => ?_)
    · skip
      refine Ex.lconst (pc := 74) (v := 1) dX10_strikes_74 rfl ?_
      have heq0 : p.2.2.1 0 = p.2.2.2 0 := by
        rcases hC3 0 (by decide) with ⟨e, _⟩ | ⟨e, e1, e2, _⟩
        · exact e
        · rw [e2] at c63; exact absurd (of_decide_eq_true (by simpa [bI] using c63)) (show ¬ nI (p.2.2.1 0) = -1 from fun q => absurd (show nI (p.2.2.1 0) < 0 from by rw [q]; decide) (nI_pos (by omega)))
      rw [show (1 : Int64) = (evV p nm 0 1).toInt64 from by rw [evV_w heq0]; rfl]
      exact k75 _ SmL.rf
    · skip
      have hlt0 : p.2.2.1 0 < p.2.2.2 0 := by
        rcases hC3 0 (by decide) with ⟨_, e⟩ | ⟨e, _⟩
        · rw [e] at c63; exact absurd rfl c63
        · exact e
      refine Ex.aload_n (pc := 66) dX10_strikes_66 rfl rfl ?_
      refine Ex.iconst (pc := 67) (v := 0) dX10_strikes_67 rfl ?_
      refine Ex.callV (pc := 68) (As := [.int 0]) (rest := []) dX10_strikes_68 cX10_431 (tm_reckons (w0 := 1) h1 hb3 hC3 hTr (r := 0) (by decide) (hask 0 (by decide)) hlt0) (sh36 _) rfl rfl (by decide) (Nat.le_refl _) (Nat.le_refl _) (Nat.le_of_ble_eq_true rfl) (Or.inl (fun r S' h => by obtain ⟨_, _, h, _⟩ := h; subst h; rfl)) (fun r S' hq _ _ => ?_)
      obtain ⟨_, L3, rfl, rfl, rfl, hL3⟩ := hq
      refine Ex.goto (pc := 71) (tgt := 75) dX10_strikes_71 (by decide) ?_
      exact k75 _ hL3
  refine Ex.aload_n (pc := 0) dX10_strikes_0 rfl rfl ?_
  refine Ex.iload_n (pc := 1) dX10_strikes_1 rfl rfl ?_
  refine Ex.iload_n (pc := 2) dX10_strikes_2 rfl rfl ?_
  refine Ex.iload_n (pc := 3) dX10_strikes_3 rfl rfl ?_
  refine Ex.callV (pc := 4) (As := [.int _, .int _, .int _]) (rest := []) dX10_strikes_4 cX10_424 (tm_lays1 hP hX hv hb hs) (sh36 _) rfl rfl (by decide) (Nat.le_refl _) (Nat.le_refl _) (Nat.le_of_ble_eq_true rfl) (Or.inl (fun r S' h => by obtain ⟨_, _, h, _⟩ := h; subst h; rfl)) (fun r S' hq _ _ => ?_)
  obtain ⟨I2, rfl, rfl, hS2, hA2, -⟩ := hq
  refine Ex.aload_n (pc := 7) dX10_strikes_7 rfl rfl ?_
  refine Ex.getR (pc := 8) dX10_strikes_8 fX10_159 (sh36 _) r36_48 ?_
  refine Ex.iconst (pc := 11) (v := 5) dX10_strikes_11 rfl ?_
  refine Ex.iload_n (pc := 12) dX10_strikes_12 rfl rfl ?_
  refine Ex.imul (pc := 13) dX10_strikes_13 ?_
  refine Ex.iload_n (pc := 14) dX10_strikes_14 rfl rfl ?_
  refine Ex.iadd (pc := 15) dX10_strikes_15 ?_
  refine Ex.iald (pc := 16) (j := 5 * v + b) dX10_strikes_16 (sh65 _) (ixE (c := 5) (a := v) (b := b) rfl rfl (by omega) (by decide)) (ixE2 (c := 5) rfl rfl (by omega)) ?_
  rw [hS2 65 (by decide), x4 b hb, hZ]
  refine Ex.istore (pc := 17) (ls' := [some (.ref 36), some (.int _), some (.int _), some (.int _), some (.int _), some (.int _), none, none, none, none, none]) dX10_strikes_17 (by decide) rfl rfl ?_
  refine Ex.aload_n (pc := 19) dX10_strikes_19 rfl rfl ?_
  refine Ex.getR (pc := 20) dX10_strikes_20 fX10_162 (sh36 _) r36_49 ?_
  refine Ex.bipush (pc := 23) (v := 6) dX10_strikes_23 rfl ?_
  refine Ex.iload_n (pc := 25) dX10_strikes_25 rfl rfl ?_
  refine Ex.imul (pc := 26) dX10_strikes_26 ?_
  refine Ex.iload_n (pc := 27) dX10_strikes_27 rfl rfl ?_
  refine Ex.iadd (pc := 28) dX10_strikes_28 ?_
  refine Ex.iald (pc := 29) (j := 6 * v + s) dX10_strikes_29 (sh66 _) (ixE (c := 6) (a := v) (b := s) rfl rfl (by omega) (by decide)) (ixE2 (c := 6) rfl rfl (by omega)) ?_
  rw [hS2 66 (by decide), x5 s hs, hD]
  refine Ex.istore (pc := 30) (ls' := [some (.ref 36), some (.int _), some (.int _), some (.int _), some (.int _), some (.int _), some (.int _), none, none, none, none]) dX10_strikes_30 (by decide) rfl rfl ?_
  refine Ex.aload_n (pc := 32) dX10_strikes_32 rfl rfl ?_
  refine Ex.getR (pc := 33) dX10_strikes_33 fX10_186 (sh36 _) r36_57 ?_
  refine Ex.bipush (pc := 36) (v := 7) dX10_strikes_36 rfl ?_
  refine Ex.iload (pc := 38) dX10_strikes_38 rfl ?_
  refine Ex.iast (pc := 40) (j := 7) dX10_strikes_40 (sh71 _) (by unfold vp_in; decide) (by decide) ?_
  refine Ex.aload_n (pc := 41) dX10_strikes_41 rfl rfl ?_
  refine Ex.getR (pc := 42) dX10_strikes_42 fX10_186 (sh36 _) r36_57 ?_
  refine Ex.bipush (pc := 45) (v := 8) dX10_strikes_45 rfl ?_
  refine Ex.iload (pc := 47) dX10_strikes_47 rfl ?_
  refine Ex.if_ne (pc := 49) (tgt := 56) dX10_strikes_49 (by decide) (fun c49 => ?_) (fun c49 => ?_)
  · skip
    refine Ex.iconst (pc := 56) (v := 0) dX10_strikes_56 rfl ?_
    refine Ex.iast (pc := 57) (j := 8) dX10_strikes_57 (sh71 _) (by unfold vp_in; decide) (by decide) ?_
    have hz0 : ¬ Z = 0 := c49
    obtain ⟨I3, hI3⟩ : ∃ z, z = va_up I2 71 (upd (upd (I2 71) 7 (rb + 1)) 8 (if Z = 0 then 1 else 0)) := ⟨_, rfl⟩
    refine Ex.mm (S' := St N I3 L) ?_ ?_
    · rw [hI3]; simp only [bx_uu, va_up_s]; simp [hz0]
    exact k58 I2 I3 hS2 hA2 hI3
  · skip
    refine Ex.iconst (pc := 52) (v := 1) dX10_strikes_52 rfl ?_
    refine Ex.goto (pc := 53) (tgt := 57) dX10_strikes_53 (by decide) ?_
    refine Ex.iast (pc := 57) (j := 8) dX10_strikes_57 (sh71 _) (by unfold vp_in; decide) (by decide) ?_
    have hz0 : Z = 0 := c49
    obtain ⟨I3, hI3⟩ : ∃ z, z = va_up I2 71 (upd (upd (I2 71) 7 (rb + 1)) 8 (if Z = 0 then 1 else 0)) := ⟨_, rfl⟩
    refine Ex.mm (S' := St N I3 L) ?_ ?_
    · rw [hI3]; simp only [bx_uu, va_up_s]; simp [hz0]
    exact k58 I2 I3 hS2 hA2 hI3
