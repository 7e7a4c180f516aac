theorem whF_bit (p : aP) (f5 f6 : Nat → Int32) (x : aX) (rs : aSee) : ∀ k j, k ≤ 6 → k ≤ j → j < 32 → (whF p f5 f6 x rs k).toBitVec.getLsbD j = false
  | 0, j, _, _, _ => by simp [whF]
  | k + 1, j, h6, hj, h32 => by
    show (whF p f5 f6 x rs k ||| _).toBitVec.getLsbD j = false
    rw [Int32.toBitVec_or, BitVec.getLsbD_or, whF_bit p f5 f6 x rs k j (by omega) (by omega) h32, Bool.false_or]
    split
    · rw [sh1_bit (by omega)]; exact decide_eq_false (by omega)
    · simp
set_option maxRecDepth 20000 in
theorem tm_tells {N : Nat} {I : aI} {L : aL} {p : aP} {bk nb ns nh : Nat} {f5 f6 : Nat → Int32} {x : aX} {kr : List aRow} (hR : RS I bk nb ns nh p f5 f6 x kr) {rs : aSee} (hM : SeeM I nb rs) {w v t0 : Int32} : Run 7 0 0 mX10_tells [.ref 36, .int w, .int v] (St N I L) (RX N (fun o I2 L2 => o = some (.int (if inR w nb = false then -1 else if v < 0 then -1 else if v ≤ 1 then (if (whF p f5 f6 x rs ns) = 0 then -1 else if v = 0 then (teF (teM p f5 f6 x w.toNatClampNeg (whF p f5 f6 x rs ns)) t0 40).1 else (teF (teM p f5 f6 x w.toNatClampNeg (whF p f5 f6 x rs ns)) t0 40).2) else -1)) ∧ QF I I2 ∧ SmL [70] L L2)) := by
  refine Run.of (ls := [some (.ref 36), some (.int _), some (.int _), none, none, none, none, none, none, none, none]) (by decide) (Nat.le_of_ble_eq_true rfl) rfl ?_
  obtain ⟨hP, hX, hK, hG, hrb⟩ := id hR
  obtain ⟨⟨h1, h2, hnb, hns, hnh, hcb, hcs, hch⟩, -⟩ := id hP
  have hbz : ∀ j, ns ≤ j → j < 6 → hb1 (whF p f5 f6 x rs ns) j = false := fun j h1 h2 => by rw [hb1_bit h2]; exact whF_bit p f5 f6 x rs ns j hns h1 (by omega)
  generalize hbits : whF p f5 f6 x rs ns = bits at *
  have k28 : ∀ (b : Nat) (I0 : aI) (L0 : aL), b < nb → QF I I0 → SmL [70] L L0 → Ex 7 0 0 mX10_tells 0 0 28 [some (.ref 36), some (.int (nI b)), some (.int v), some (.int bits), none, none, none, none, none, none, none] [] (St N I0 L0) (RX N (fun o I2 L2 => o = some (.int (if v = 0 then (teF (teM p f5 f6 x b bits) t0 40).1 else (teF (teM p f5 f6 x b bits) t0 40).2)) ∧ QF I I2 ∧ SmL [70] L L2)) := by
    intro b I0 L0 hb hQ0 hSL0
    have hM6 : ∀ k, teM p f5 f6 x b bits k ≤ 6 := fun k => maF_le _ _ _
    rw [show teF (teM p f5 f6 x b bits) t0 40 = teG (teM p f5 f6 x b bits) 40 from (teG_F hM6 39).symm]
    generalize hMM : teM p f5 f6 x b bits = M at *
    refine Ex.iconst (pc := 28) (v := (-1)) dX10_tells_28 rfl ?_
    refine Ex.istore (pc := 29) (ls' := [some (.ref 36), some (.int _), some (.int _), some (.int _), some (.int (-1)), none, none, none, none, none, none]) dX10_tells_29 (by decide) rfl rfl ?_
    refine Ex.ldcw (pc := 31) dX10_tells_31 kv_X10_482 ?_
    refine Ex.istore (pc := 34) (ls' := [some (.ref 36), some (.int _), some (.int _), some (.int _), some (.int (-1)), some (.int _), none, none, none, none, none]) dX10_tells_34 (by decide) rfl rfl ?_
    refine Ex.iconst (pc := 36) (v := 1) dX10_tells_36 rfl ?_
    refine Ex.istore (pc := 37) (ls' := [some (.ref 36), some (.int _), some (.int _), some (.int _), some (.int (-1)), some (.int _), some (.int 1), none, none, none, none]) dX10_tells_37 (by decide) rfl rfl ?_
    refine forUp (σ := aI × aL) (P := fun k q => Ex 7 0 0 mX10_tells 0 0 39 [some (.ref 36), some (.int (nI b)), some (.int v), some (.int bits), some (.int (teG M k).1), some (.int (teG M k).2), some (.int (nI (k + 1))), none, none, none, none] [] (St N q.1 q.2) _) (Inv := fun k q => QF I q.1 ∧ SmL [70] L q.2) 40 ?_ ?_ 0 (I0, L0) (Nat.zero_le _) ⟨hQ0, hSL0⟩
    · rintro ⟨I2, L2⟩ ⟨hQ, hSL⟩
      refine Ex.iload (pc := 39) dX10_tells_39 rfl ?_
      refine Ex.bipush (pc := 41) (v := 40) dX10_tells_41 rfl ?_
      refine Ex.icmp_gt (pc := 43) (tgt := 222) dX10_tells_43 (by decide) (fun _ => ?_) (fun c43 => absurd (by decide) c43)
      refine Ex.iload_n (pc := 222) dX10_tells_222 rfl rfl ?_
      refine Ex.if_ne (pc := 223) (tgt := 231) dX10_tells_223 (by decide) (fun c223 => ?_) (fun c223 => ?_)
      · skip
        refine Ex.iload (pc := 231) dX10_tells_231 rfl ?_
        refine Ex.iret (pc := 233) rfl rfl rfl dX10_tells_233 (Nat.le_refl _) (Nat.le_refl _) ?_
        refine ⟨_, _, rfl, ?_, hQ, hSL⟩
        simp [c223]
      · skip
        refine Ex.iload (pc := 226) dX10_tells_226 rfl ?_
        refine Ex.goto (pc := 228) (tgt := 233) dX10_tells_228 (by decide) ?_
        refine Ex.iret (pc := 233) rfl rfl rfl dX10_tells_233 (Nat.le_refl _) (Nat.le_refl _) ?_
        refine ⟨_, _, rfl, ?_, hQ, hSL⟩
        simp [c223]
    · rintro k ⟨I2, L2⟩ hk ⟨hQ, hSL⟩ ih
      dsimp only at *
      generalize hlf : (fun i => (rubX p f5 f6 x b i (k + 1)).2.1) = lf at *
      refine Ex.iload (pc := 39) dX10_tells_39 rfl ?_
      refine Ex.bipush (pc := 41) (v := 40) dX10_tells_41 rfl ?_
      refine Ex.icmp_gt (pc := 43) (tgt := 222) dX10_tells_43 (by decide) (fun c43 => absurd c43 (nI_nlt (a := 40) (by omega) (by decide))) (fun _ => ?_)
      refine Ex.iconst (pc := 46) (v := 0) dX10_tells_46 rfl ?_
      refine Ex.istore (pc := 47) (ls' := [some (.ref 36), some (.int _), some (.int _), some (.int _), some (.int _), some (.int _), some (.int _), some (.int 0), none, none, none]) dX10_tells_47 (by decide) rfl rfl ?_
      refine forUp (σ := aI × aL) (P := fun s q => Ex 7 0 0 mX10_tells 0 0 49 [some (.ref 36), some (.int (nI b)), some (.int v), some (.int bits), some (.int (teG M k).1), some (.int (teG M k).2), some (.int (nI (k + 1))), some (.int (nI s)), none, none, none] [] (St N q.1 q.2) _) (Inv := fun s q => (QF I q.1 ∧ SmL [70] L q.2) ∧ ∀ i, i < s → q.1 79 i = lf i) ns ?_ ?_ 0 (I2, L2) (Nat.zero_le _) ⟨⟨hQ, hSL⟩, fun i hi => absurd hi (Nat.not_lt_zero _)⟩
      · rintro ⟨I3, L3⟩ ⟨⟨hQ3, hSL3⟩, h79⟩
        dsimp only at *
        have hR3 := hR.q hQ3
        have hb3 : I3 36 13 = nI bk := hR3.1.1.2.1
        have hc3 : I3 41 bk = nI ns := hR3.1.1.2.2.2.2.2.2.1
        refine Ex.iload (pc := 49) dX10_tells_49 rfl ?_
        refine Ex.aload_n (pc := 51) dX10_tells_51 rfl rfl ?_
        refine Ex.getR (pc := 52) dX10_tells_52 fX10_63 (sh36 _) r36_17 ?_
        refine Ex.aload_n (pc := 55) dX10_tells_55 rfl rfl ?_
        refine Ex.getI (pc := 56) dX10_tells_56 fX10_51 (sh36 _) ?_
        refine Ex.iald (pc := 59) (j := bk) dX10_tells_59 (sh41 _) (ixX hb3 h1 (by decide)) (ixX2 hb3 (by omega)) ?_
        rw [hc3]
        refine Ex.icmp_ge (pc := 60) (tgt := 85) dX10_tells_60 (by decide) (fun _ => ?_) (fun c60 => absurd (nI_le (Nat.le_refl _) (by omega)) c60)
        refine Ex.iconst (pc := 85) (v := 0) dX10_tells_85 rfl ?_
        refine Ex.istore (pc := 86) (ls' := [some (.ref 36), some (.int _), some (.int _), some (.int _), some (.int _), some (.int _), some (.int _), some (.int 0), none, none, none]) dX10_tells_86 (by decide) rfl rfl ?_
        refine Ex.iconst (pc := 88) (v := 0) dX10_tells_88 rfl ?_
        refine Ex.istore (pc := 89) (ls' := [some (.ref 36), some (.int _), some (.int _), some (.int _), some (.int _), some (.int _), some (.int _), some (.int 0), some (.int 0), none, none]) dX10_tells_89 (by decide) rfl rfl ?_
        refine forUp (σ := Unit) (P := fun s _ => Ex 7 0 0 mX10_tells 0 0 91 [some (.ref 36), some (.int (nI b)), some (.int v), some (.int bits), some (.int (teG M k).1), some (.int (teG M k).2), some (.int (nI (k + 1))), some (.int (nI (maN lf bits ns s))), some (.int (nI s)), none, none] [] (St N I3 L3) _) (Inv := fun _ _ => True) ns ?_ ?_ 0 () (Nat.zero_le _) trivial
        · rintro - -
          have eM : maN lf bits ns ns = M (k + 1) := by
            rw [maN_F lf bits ns hns hbz ns, ← hMM, ← hlf]
            show _ = maF (fun i => (rubX p f5 f6 x b i (k + 1)).2.1) bits 6
            obtain ⟨d, hd⟩ : ∃ d, 6 = ns + d := ⟨6 - ns, by omega⟩
            rw [show maF (fun i => (rubX p f5 f6 x b i (k + 1)).2.1) bits 6 = maF (fun i => (rubX p f5 f6 x b i (k + 1)).2.1) bits (ns + d) from by rw [← hd], maF_ns _ bits ns hbz d (by omega)]
          rw [eM]
          have hst : teG M (k + 1) = if (teG M k).2 ≤ nI (M (k + 1)) then teG M k else (nI (k + 1), nI (M (k + 1))) := rfl
          refine Ex.iload (pc := 91) dX10_tells_91 rfl ?_
          refine Ex.aload_n (pc := 93) dX10_tells_93 rfl rfl ?_
          refine Ex.getR (pc := 94) dX10_tells_94 fX10_63 (sh36 _) r36_17 ?_
          refine Ex.aload_n (pc := 97) dX10_tells_97 rfl rfl ?_
          refine Ex.getI (pc := 98) dX10_tells_98 fX10_51 (sh36 _) ?_
          refine Ex.iald (pc := 101) (j := bk) dX10_tells_101 (sh41 _) (ixX hb3 h1 (by decide)) (ixX2 hb3 (by omega)) ?_
          rw [hc3]
          refine Ex.icmp_ge (pc := 102) (tgt := 198) dX10_tells_102 (by decide) (fun _ => ?_) (fun c102 => absurd (nI_le (Nat.le_refl _) (by omega)) c102)
          refine Ex.iload (pc := 198) dX10_tells_198 rfl ?_
          refine Ex.iload (pc := 200) dX10_tells_200 rfl ?_
          refine Ex.icmp_lt (pc := 202) (tgt := 208) dX10_tells_202 (by decide) (fun c202 => ?_) (fun c202 => ?_)
          · skip
            refine Ex.iload (pc := 208) dX10_tells_208 rfl ?_
            refine Ex.istore (pc := 210) (ls' := [some (.ref 36), some (.int _), some (.int _), some (.int _), some (.int _), some (.int _), some (.int _), some (.int _), some (.int _), none, none]) dX10_tells_210 (by decide) rfl rfl ?_
            refine Ex.iload (pc := 212) dX10_tells_212 rfl ?_
            refine Ex.istore (pc := 214) (ls' := [some (.ref 36), some (.int _), some (.int _), some (.int _), some (.int _), some (.int _), some (.int _), some (.int _), some (.int _), none, none]) dX10_tells_214 (by decide) rfl rfl ?_
            refine Ex.iinc (pc := 216) (ls' := [some (.ref 36), some (.int _), some (.int _), some (.int _), some (.int _), some (.int _), some (.int _), some (.int _), some (.int _), none, none]) dX10_tells_216 rfl rfl (by decide) rfl rfl ?_
            refine Ex.goto (pc := 219) (tgt := 39) dX10_tells_219 (by decide) ?_
            rw [show nI (k + 1) + Int32.ofInt 1 = nI (k + 1 + 1) from nI_1 (k + 1)]
            rw [if_neg (Int32.not_le.mpr c202)] at hst
            rw [hst] at ih
            exact Ex.le (ls' := [some (.ref 36), some (.int (nI b)), some (.int v), some (.int bits), some (.int (nI (k + 1))), some (.int (nI (M (k + 1)))), some (.int (nI (k + 1 + 1))), none, none, none, none]) ⟨rfl, rfl, rfl, rfl, rfl, rfl, rfl, trivial⟩ (ih (I3, L3) ⟨hQ3, hSL3⟩)
          · skip
            refine Ex.goto (pc := 205) (tgt := 216) dX10_tells_205 (by decide) ?_
            refine Ex.iinc (pc := 216) (ls' := [some (.ref 36), some (.int _), some (.int _), some (.int _), some (.int _), some (.int _), some (.int _), some (.int _), some (.int _), none, none]) dX10_tells_216 rfl rfl (by decide) rfl rfl ?_
            refine Ex.goto (pc := 219) (tgt := 39) dX10_tells_219 (by decide) ?_
            rw [show nI (k + 1) + Int32.ofInt 1 = nI (k + 1 + 1) from nI_1 (k + 1)]
            rw [if_pos (Int32.not_lt.mp c202)] at hst
            rw [hst] at ih
            exact Ex.le (ls' := [some (.ref 36), some (.int (nI b)), some (.int v), some (.int bits), some (.int (teG M k).1), some (.int (teG M k).2), some (.int (nI (k + 1 + 1))), none, none, none, none]) ⟨rfl, rfl, rfl, rfl, rfl, rfl, rfl, trivial⟩ (ih (I3, L3) ⟨hQ3, hSL3⟩)
        · rintro s - hs - ih2
          refine Ex.iload (pc := 91) dX10_tells_91 rfl ?_
          refine Ex.aload_n (pc := 93) dX10_tells_93 rfl rfl ?_
          refine Ex.getR (pc := 94) dX10_tells_94 fX10_63 (sh36 _) r36_17 ?_
          refine Ex.aload_n (pc := 97) dX10_tells_97 rfl rfl ?_
          refine Ex.getI (pc := 98) dX10_tells_98 fX10_51 (sh36 _) ?_
          refine Ex.iald (pc := 101) (j := bk) dX10_tells_101 (sh41 _) (ixX hb3 h1 (by decide)) (ixX2 hb3 (by omega)) ?_
          rw [hc3]
          refine Ex.icmp_ge (pc := 102) (tgt := 198) dX10_tells_102 (by decide) (fun c102 => absurd c102 (nI_ge hs (by omega))) (fun _ => ?_)
          refine Ex.iconst (pc := 105) (v := 0) dX10_tells_105 rfl ?_
          refine Ex.istore (pc := 106) (ls' := [some (.ref 36), some (.int _), some (.int _), some (.int _), some (.int _), some (.int _), some (.int _), some (.int _), some (.int _), some (.int 0), none]) dX10_tells_106 (by decide) rfl rfl ?_
          refine Ex.iconst (pc := 108) (v := 0) dX10_tells_108 rfl ?_
          refine Ex.istore (pc := 109) (ls' := [some (.ref 36), some (.int _), some (.int _), some (.int _), some (.int _), some (.int _), some (.int _), some (.int _), some (.int _), some (.int 0), some (.int 0)]) dX10_tells_109 (by decide) rfl rfl ?_
          refine forUp (σ := Unit) (P := fun o _ => Ex 7 0 0 mX10_tells 0 0 111 [some (.ref 36), some (.int (nI b)), some (.int v), some (.int bits), some (.int (teG M k).1), some (.int (teG M k).2), some (.int (nI (k + 1))), some (.int (nI (maN lf bits ns s))), some (.int (nI s)), some (.int (nI (alF lf bits s o))), some (.int (nI o))] [] (St N I3 L3) _) (Inv := fun _ _ => True) ns ?_ ?_ 0 () (Nat.zero_le _) trivial
          · rintro - -
            have hst2 : maN lf bits ns (s + 1) = if maN lf bits ns s < alF lf bits s ns then alF lf bits s ns else maN lf bits ns s := rfl
            have ha6 := alF_le lf bits s ns
            have hm6 : maN lf bits ns s ≤ 6 := by rw [maN_F lf bits ns hns hbz s]; exact maF_le _ _ _
            refine Ex.iload (pc := 111) dX10_tells_111 rfl ?_
            refine Ex.aload_n (pc := 113) dX10_tells_113 rfl rfl ?_
            refine Ex.getR (pc := 114) dX10_tells_114 fX10_63 (sh36 _) r36_17 ?_
            refine Ex.aload_n (pc := 117) dX10_tells_117 rfl rfl ?_
            refine Ex.getI (pc := 118) dX10_tells_118 fX10_51 (sh36 _) ?_
            refine Ex.iald (pc := 121) (j := bk) dX10_tells_121 (sh41 _) (ixX hb3 h1 (by decide)) (ixX2 hb3 (by omega)) ?_
            rw [hc3]
            refine Ex.icmp_ge (pc := 122) (tgt := 176) dX10_tells_122 (by decide) (fun _ => ?_) (fun c122 => absurd (nI_le (Nat.le_refl _) (by omega)) c122)
            refine Ex.iload (pc := 176) dX10_tells_176 rfl ?_
            refine Ex.iload (pc := 178) dX10_tells_178 rfl ?_
            refine Ex.icmp_le (pc := 180) (tgt := 188) dX10_tells_180 (by decide) (fun c180 => ?_) (fun c180 => ?_)
            · skip
              refine Ex.iload (pc := 188) dX10_tells_188 rfl ?_
              refine Ex.istore (pc := 190) (ls' := [some (.ref 36), some (.int _), some (.int _), some (.int _), some (.int _), some (.int _), some (.int _), some (.int _), some (.int _), some (.int _), some (.int _)]) dX10_tells_190 (by decide) rfl rfl ?_
              refine Ex.iinc (pc := 192) (ls' := [some (.ref 36), some (.int _), some (.int _), some (.int _), some (.int _), some (.int _), some (.int _), some (.int _), some (.int _), some (.int _), some (.int _)]) dX10_tells_192 rfl rfl (by decide) rfl rfl ?_
              refine Ex.goto (pc := 195) (tgt := 91) dX10_tells_195 (by decide) ?_
              rw [show nI s + Int32.ofInt 1 = nI (s + 1) from nI_1 s]
              rw [nI_leI (by omega) (by omega)] at c180
              rw [if_neg (by omega)] at hst2
              rw [hst2] at ih2
              exact Ex.le (ls' := [some (.ref 36), some (.int (nI b)), some (.int v), some (.int bits), some (.int (teG M k).1), some (.int (teG M k).2), some (.int (nI (k + 1))), some (.int (nI (maN lf bits ns s))), some (.int (nI (s + 1))), none, none]) ⟨rfl, rfl, rfl, rfl, rfl, rfl, rfl, rfl, rfl, trivial⟩ (ih2 () trivial)
            · skip
              refine Ex.iload (pc := 183) dX10_tells_183 rfl ?_
              refine Ex.goto (pc := 185) (tgt := 190) dX10_tells_185 (by decide) ?_
              refine Ex.istore (pc := 190) (ls' := [some (.ref 36), some (.int _), some (.int _), some (.int _), some (.int _), some (.int _), some (.int _), some (.int _), some (.int _), some (.int _), some (.int _)]) dX10_tells_190 (by decide) rfl rfl ?_
              refine Ex.iinc (pc := 192) (ls' := [some (.ref 36), some (.int _), some (.int _), some (.int _), some (.int _), some (.int _), some (.int _), some (.int _), some (.int _), some (.int _), some (.int _)]) dX10_tells_192 rfl rfl (by decide) rfl rfl ?_
              refine Ex.goto (pc := 195) (tgt := 91) dX10_tells_195 (by decide) ?_
              rw [show nI s + Int32.ofInt 1 = nI (s + 1) from nI_1 s]
              rw [nI_leI (by omega) (by omega)] at c180
              rw [if_pos (by omega)] at hst2
              rw [hst2] at ih2
              exact Ex.le (ls' := [some (.ref 36), some (.int (nI b)), some (.int v), some (.int bits), some (.int (teG M k).1), some (.int (teG M k).2), some (.int (nI (k + 1))), some (.int (nI (alF lf bits s ns))), some (.int (nI (s + 1))), none, none]) ⟨rfl, rfl, rfl, rfl, rfl, rfl, rfl, rfl, rfl, trivial⟩ (ih2 () trivial)
          · rintro o - ho - ih3
            have hst3 : alF lf bits s (o + 1) = alF lf bits s o + (if (hb1 bits s && hb1 bits o && decide (lf s = lf o)) = true then 1 else 0) := rfl
            have e79s := h79 s hs
            have e79o := h79 o ho
            refine Ex.iload (pc := 111) dX10_tells_111 rfl ?_
            refine Ex.aload_n (pc := 113) dX10_tells_113 rfl rfl ?_
            refine Ex.getR (pc := 114) dX10_tells_114 fX10_63 (sh36 _) r36_17 ?_
            refine Ex.aload_n (pc := 117) dX10_tells_117 rfl rfl ?_
            refine Ex.getI (pc := 118) dX10_tells_118 fX10_51 (sh36 _) ?_
            refine Ex.iald (pc := 121) (j := bk) dX10_tells_121 (sh41 _) (ixX hb3 h1 (by decide)) (ixX2 hb3 (by omega)) ?_
            rw [hc3]
            refine Ex.icmp_ge (pc := 122) (tgt := 176) dX10_tells_122 (by decide) (fun c122 => absurd c122 (nI_ge ho (by omega))) (fun _ => ?_)
            refine Ex.iload (pc := 125) dX10_tells_125 rfl ?_
            refine Ex.iload_n (pc := 127) dX10_tells_127 rfl rfl ?_
            refine Ex.iload (pc := 128) dX10_tells_128 rfl ?_
            refine Ex.callS (pc := 130) (As := [.int _, .int _]) (rest := [.int _]) dX10_tells_130 cX10_445 tm_has2 rfl rfl (by decide) (Nat.le_refl _) (Nat.le_refl _) (Nat.le_of_ble_eq_true rfl) (Or.inl (fun r S' h => by obtain ⟨_, h⟩ := h; subst h; rfl)) (fun r S' hq _ _ => ?_)
            obtain ⟨rfl, rfl⟩ := hq
            refine Ex.if_eq (pc := 133) (tgt := 166) dX10_tells_133 (by decide) (fun c133 => ?_) (fun c133 => ?_)
            · skip
              refine Ex.iconst (pc := 166) (v := 0) dX10_tells_166 rfl ?_
              refine Ex.iadd (pc := 167) dX10_tells_167 ?_
              refine Ex.istore (pc := 168) (ls' := [some (.ref 36), some (.int _), some (.int _), some (.int _), some (.int _), some (.int _), some (.int _), some (.int _), some (.int _), some (.int _), some (.int _)]) dX10_tells_168 (by decide) rfl rfl ?_
              refine Ex.iinc (pc := 170) (ls' := [some (.ref 36), some (.int _), some (.int _), some (.int _), some (.int _), some (.int _), some (.int _), some (.int _), some (.int _), some (.int _), some (.int _)]) dX10_tells_170 rfl rfl (by decide) rfl rfl ?_
              refine Ex.goto (pc := 173) (tgt := 111) dX10_tells_173 (by decide) ?_
              rw [show nI o + Int32.ofInt 1 = nI (o + 1) from nI_1 o]
              rw [bI_0 c133, Bool.false_and, Bool.false_and, if_neg (by decide), Nat.add_zero] at hst3
              rw [hst3] at ih3
              rw [show nI (alF lf bits s o) + 0 = nI (alF lf bits s o) from Int32.add_zero _]
              exact ih3 () trivial
            · skip
              refine Ex.iload_n (pc := 136) dX10_tells_136 rfl rfl ?_
              refine Ex.iload (pc := 137) dX10_tells_137 rfl ?_
              refine Ex.callS (pc := 139) (As := [.int _, .int _]) (rest := [.int _]) dX10_tells_139 cX10_445 tm_has2 rfl rfl (by decide) (Nat.le_refl _) (Nat.le_refl _) (Nat.le_of_ble_eq_true rfl) (Or.inl (fun r S' h => by obtain ⟨_, h⟩ := h; subst h; rfl)) (fun r S' hq _ _ => ?_)
              obtain ⟨rfl, rfl⟩ := hq
              refine Ex.if_eq (pc := 142) (tgt := 166) dX10_tells_142 (by decide) (fun c142 => ?_) (fun c142 => ?_)
              · skip
                refine Ex.iconst (pc := 166) (v := 0) dX10_tells_166 rfl ?_
                refine Ex.iadd (pc := 167) dX10_tells_167 ?_
                refine Ex.istore (pc := 168) (ls' := [some (.ref 36), some (.int _), some (.int _), some (.int _), some (.int _), some (.int _), some (.int _), some (.int _), some (.int _), some (.int _), some (.int _)]) dX10_tells_168 (by decide) rfl rfl ?_
                refine Ex.iinc (pc := 170) (ls' := [some (.ref 36), some (.int _), some (.int _), some (.int _), some (.int _), some (.int _), some (.int _), some (.int _), some (.int _), some (.int _), some (.int _)]) dX10_tells_170 rfl rfl (by decide) rfl rfl ?_
                refine Ex.goto (pc := 173) (tgt := 111) dX10_tells_173 (by decide) ?_
                rw [show nI o + Int32.ofInt 1 = nI (o + 1) from nI_1 o]
                rw [bI_0 c142, Bool.and_false, Bool.false_and, if_neg (by decide), Nat.add_zero] at hst3
                rw [hst3] at ih3
                rw [show nI (alF lf bits s o) + 0 = nI (alF lf bits s o) from Int32.add_zero _]
                exact ih3 () trivial
              · skip
                refine Ex.aload_n (pc := 145) dX10_tells_145 rfl rfl ?_
                refine Ex.getR (pc := 146) dX10_tells_146 fX10_213 (sh36 _) r36_66 ?_
                refine Ex.iload (pc := 149) dX10_tells_149 rfl ?_
                refine Ex.iald (pc := 151) (j := o) dX10_tells_151 (sh79 _) (vp_in_nI (by omega) (by decide)) (ixN2 (by omega)) ?_
                refine Ex.aload_n (pc := 152) dX10_tells_152 rfl rfl ?_
                refine Ex.getR (pc := 153) dX10_tells_153 fX10_213 (sh36 _) r36_66 ?_
                refine Ex.iload (pc := 156) dX10_tells_156 rfl ?_
                refine Ex.iald (pc := 158) (j := s) dX10_tells_158 (sh79 _) (vp_in_nI (by omega) (by decide)) (ixN2 (by omega)) ?_
                refine Ex.icmp_ne (pc := 159) (tgt := 166) dX10_tells_159 (by decide) (fun c159 => ?_) (fun c159 => ?_)
                · skip
                  refine Ex.iconst (pc := 166) (v := 0) dX10_tells_166 rfl ?_
                  refine Ex.iadd (pc := 167) dX10_tells_167 ?_
                  refine Ex.istore (pc := 168) (ls' := [some (.ref 36), some (.int _), some (.int _), some (.int _), some (.int _), some (.int _), some (.int _), some (.int _), some (.int _), some (.int _), some (.int _)]) dX10_tells_168 (by decide) rfl rfl ?_
                  refine Ex.iinc (pc := 170) (ls' := [some (.ref 36), some (.int _), some (.int _), some (.int _), some (.int _), some (.int _), some (.int _), some (.int _), some (.int _), some (.int _), some (.int _)]) dX10_tells_170 rfl rfl (by decide) rfl rfl ?_
                  refine Ex.goto (pc := 173) (tgt := 111) dX10_tells_173 (by decide) ?_
                  rw [show nI o + Int32.ofInt 1 = nI (o + 1) from nI_1 o]
                  rw [e79s, e79o] at c159
                  rw [decide_eq_false (fun q => c159 q.symm), Bool.and_false, if_neg (by decide), Nat.add_zero] at hst3
                  rw [hst3] at ih3
                  rw [show nI (alF lf bits s o) + 0 = nI (alF lf bits s o) from Int32.add_zero _]
                  exact ih3 () trivial
                · skip
                  refine Ex.iconst (pc := 162) (v := 1) dX10_tells_162 rfl ?_
                  refine Ex.goto (pc := 163) (tgt := 167) dX10_tells_163 (by decide) ?_
                  refine Ex.iadd (pc := 167) dX10_tells_167 ?_
                  refine Ex.istore (pc := 168) (ls' := [some (.ref 36), some (.int _), some (.int _), some (.int _), some (.int _), some (.int _), some (.int _), some (.int _), some (.int _), some (.int _), some (.int _)]) dX10_tells_168 (by decide) rfl rfl ?_
                  refine Ex.iinc (pc := 170) (ls' := [some (.ref 36), some (.int _), some (.int _), some (.int _), some (.int _), some (.int _), some (.int _), some (.int _), some (.int _), some (.int _), some (.int _)]) dX10_tells_170 rfl rfl (by decide) rfl rfl ?_
                  refine Ex.goto (pc := 173) (tgt := 111) dX10_tells_173 (by decide) ?_
                  rw [show nI o + Int32.ofInt 1 = nI (o + 1) from nI_1 o]
                  rw [e79s, e79o] at c159
                  rw [bI_1 c133, bI_1 c142, decide_eq_true c159.symm, if_pos (show (true && true && true) = true from rfl)] at hst3
                  rw [hst3] at ih3
                  rw [show nI (alF lf bits s o) + 1 = nI (alF lf bits s o + 1) from nI_1 _]
                  exact ih3 () trivial
      · rintro s ⟨I3, L3⟩ hs ⟨⟨hQ3, hSL3⟩, h79⟩ ih2
        dsimp only at *
        have hR3 := hR.q hQ3
        have hb3 : I3 36 13 = nI bk := hR3.1.1.2.1
        have hc3 : I3 41 bk = nI ns := hR3.1.1.2.2.2.2.2.2.1
        refine Ex.iload (pc := 49) dX10_tells_49 rfl ?_
        refine Ex.aload_n (pc := 51) dX10_tells_51 rfl rfl ?_
        refine Ex.getR (pc := 52) dX10_tells_52 fX10_63 (sh36 _) r36_17 ?_
        refine Ex.aload_n (pc := 55) dX10_tells_55 rfl rfl ?_
        refine Ex.getI (pc := 56) dX10_tells_56 fX10_51 (sh36 _) ?_
        refine Ex.iald (pc := 59) (j := bk) dX10_tells_59 (sh41 _) (ixX hb3 h1 (by decide)) (ixX2 hb3 (by omega)) ?_
        rw [hc3]
        refine Ex.icmp_ge (pc := 60) (tgt := 85) dX10_tells_60 (by decide) (fun c60 => absurd c60 (nI_ge hs (by omega))) (fun _ => ?_)
        refine Ex.aload_n (pc := 63) dX10_tells_63 rfl rfl ?_
        refine Ex.getR (pc := 64) dX10_tells_64 fX10_213 (sh36 _) r36_66 ?_
        refine Ex.iload (pc := 67) dX10_tells_67 rfl ?_
        refine Ex.aload_n (pc := 69) dX10_tells_69 rfl rfl ?_
        refine Ex.iload_n (pc := 70) dX10_tells_70 rfl rfl ?_
        refine Ex.iload (pc := 71) dX10_tells_71 rfl ?_
        refine Ex.iload (pc := 73) dX10_tells_73 rfl ?_
        refine Ex.callV (pc := 75) (As := [.int _, .int _, .int _]) (rest := [.int _, .ref 79]) dX10_tells_75 cX10_512 (tm_leftBy2 (n := k + 1) hR3 hb hs (by omega)) (sh36 _) rfl rfl (by decide) (Nat.le_refl _) (Nat.le_refl _) (Nat.le_of_ble_eq_true rfl) (Or.inl (fun r S' h => by obtain ⟨_, _, h, _⟩ := h; subst h; rfl)) (fun r S' hq _ _ => ?_)
        obtain ⟨I4, L4, rfl, rfl, hQ4, hSL4⟩ := hq
        refine Ex.iast (pc := 78) (j := s) dX10_tells_78 (sh79 _) (vp_in_nI (by omega) (by decide)) (ixN2 (by omega)) ?_
        refine Ex.iinc (pc := 79) (ls' := [some (.ref 36), some (.int _), some (.int _), some (.int _), some (.int _), some (.int _), some (.int _), some (.int _), none, none, none]) dX10_tells_79 rfl rfl (by decide) rfl rfl ?_
        refine Ex.goto (pc := 82) (tgt := 49) dX10_tells_82 (by decide) ?_
        rw [show nI s + Int32.ofInt 1 = nI (s + 1) from nI_1 s]
        refine ih2 (_, L4) ⟨⟨(hQ3.tr hQ4.q).up (by decide), hSL3.tr hSL4 (by decide) (by decide)⟩, ?_⟩
        intro i hi
        show va_up I4 79 (upd (I4 79) s _) 79 i = lf i
        rw [va_up_s]
        by_cases e : i = s
        · rw [e, upd_s, ← hlf]
        · rw [upd_n e, hQ4.1 79 (by decide)]; exact h79 i (by omega)
  refine Ex.aload_n (pc := 0) dX10_tells_0 rfl rfl ?_
  refine Ex.callV (pc := 1) (As := []) (rest := []) dX10_tells_1 cX10_516 (tm_which hR hM) (sh36 _) rfl rfl (by decide) (Nat.le_refl _) (Nat.le_refl _) (Nat.le_of_ble_eq_true rfl) (Or.inl (fun r S' h => by obtain ⟨_, _, h, _⟩ := h; subst h; rfl)) (fun r S' hq _ _ => ?_)
  obtain ⟨I0, L0, rfl, rfl, hQ0, hSL0⟩ := hq
  rw [hbits]
  have hP0 := (hR.q hQ0).1
  refine Ex.istore_n (pc := 4) (ls' := [some (.ref 36), some (.int _), some (.int _), some (.int _), none, none, none, none, none, none, none]) dX10_tells_4 rfl (by decide) rfl rfl ?_
  refine Ex.aload_n (pc := 5) dX10_tells_5 rfl rfl ?_
  refine Ex.iload_n (pc := 6) dX10_tells_6 rfl rfl ?_
  refine Ex.callV (pc := 7) (As := [.int _]) (rest := []) dX10_tells_7 cX10_470 (tm_isBoard hP0.1) (sh36 _) rfl rfl (by decide) (Nat.le_refl _) (Nat.le_refl _) (Nat.le_of_ble_eq_true rfl) (Or.inl (fun r S' h => by obtain ⟨_, h⟩ := h; subst h; rfl)) (fun r S' hq _ _ => ?_)
  obtain ⟨rfl, rfl⟩ := hq
  refine Ex.if_eq (pc := 10) (tgt := 26) dX10_tells_10 (by decide) (fun c10 => ?_) (fun c10 => ?_)
  · skip
    refine Ex.iconst (pc := 26) (v := (-1)) dX10_tells_26 rfl ?_
    refine Ex.iret (pc := 27) rfl rfl rfl dX10_tells_27 (Nat.le_refl _) (Nat.le_refl _) ?_
    refine ⟨_, _, rfl, ?_, hQ0, hSL0⟩
    rw [bI_0 c10]; rfl
  · skip
    refine Ex.iload_n (pc := 13) dX10_tells_13 rfl rfl ?_
    refine Ex.if_eq (pc := 14) (tgt := 26) dX10_tells_14 (by decide) (fun c14 => ?_) (fun c14 => ?_)
    · skip
      refine Ex.iconst (pc := 26) (v := (-1)) dX10_tells_26 rfl ?_
      refine Ex.iret (pc := 27) rfl rfl rfl dX10_tells_27 (Nat.le_refl _) (Nat.le_refl _) ?_
      refine ⟨_, _, rfl, ?_, hQ0, hSL0⟩
      rw [bI_1 c10, if_neg (show ¬ true = false by decide), if_pos c14]
      by_cases q1 : v < 0
      · rw [if_pos q1]
      · rw [if_neg q1]; by_cases q2 : v ≤ 1
        · rw [if_pos q2]
        · rw [if_neg q2]
    · skip
      refine Ex.iload_n (pc := 17) dX10_tells_17 rfl rfl ?_
      refine Ex.iconst (pc := 18) (v := 0) dX10_tells_18 rfl ?_
      refine Ex.iconst (pc := 19) (v := 1) dX10_tells_19 rfl ?_
      refine Ex.callS (pc := 20) (As := [.int _, .int 0, .int 1]) (rest := []) dX10_tells_20 cX10_312 tm_is rfl rfl (by decide) (Nat.le_refl _) (Nat.le_refl _) (Nat.le_of_ble_eq_true rfl) (Or.inl (fun r S' h => by obtain ⟨_, h⟩ := h; subst h; rfl)) (fun r S' hq _ _ => ?_)
      obtain ⟨rfl, rfl⟩ := hq
      refine Ex.if_ne (pc := 23) (tgt := 28) dX10_tells_23 (by decide) (fun c23 => ?_) (fun c23 => ?_)
      · skip
        have hv := isB_iff.mp (bI_1 c23)
        rw [bI_1 c10, if_neg (show ¬ true = false by decide), if_neg hv.1, if_pos (Int32.not_lt.mp hv.2), if_neg c14]
        obtain ⟨b, hb, rfl⟩ := inR_of (bI_1 c10) (by omega)
        rw [nI_clamp (by omega)]
        exact k28 b I0 L0 hb hQ0 hSL0
      · skip
        refine Ex.iconst (pc := 26) (v := (-1)) dX10_tells_26 rfl ?_
        refine Ex.iret (pc := 27) rfl rfl rfl dX10_tells_27 (Nat.le_refl _) (Nat.le_refl _) ?_
        refine ⟨_, _, rfl, ?_, hQ0, hSL0⟩
        have hf := of_decide_eq_false (bI_0 c23)
        rw [bI_1 c10, if_neg (show ¬ true = false by decide)]
        by_cases q1 : v < 0
        · rw [if_pos q1]
        · rw [if_neg q1, if_neg (fun q => hf ⟨q1, Int32.not_lt.mpr q⟩)]
