/-- the rows that are kept in slot v -/
def rowAt (f : Nat → Int32) (a : Nat) (r : aRow) : Prop := f a = r.1 ∧ f (a + 1) = r.2.1 ∧ f (a + 2) = r.2.2.1 ∧ f (a + 3) = r.2.2.2
def KR (I : aI) (v : Nat) (rs : List aRow) : Prop := I 68 v = nI rs.length ∧ rs.length ≤ 40 ∧ ∀ (k : Nat) (r : aRow), rs[k]? = some r → rowAt (I 69) (160 * v + 4 * k) r
/-- only slot v may have changed -/
def SlF (v : Nat) (I I2 : aI) : Prop := (∀ j, j ≠ v → I2 63 j = I 63 j ∧ I2 64 j = I 64 j ∧ I2 67 j = I 67 j ∧ I2 68 j = I 68 j) ∧ (∀ j, (j < 5 * v ∨ 5 * v + 5 ≤ j) → I2 65 j = I 65 j) ∧ (∀ j, (j < 6 * v ∨ 6 * v + 6 ≤ j) → I2 66 j = I 66 j) ∧ ∀ j, (j < 160 * v ∨ 160 * v + 160 ≤ j) → I2 69 j = I 69 j
theorem SlF.rf {v : Nat} {I : aI} : SlF v I I := ⟨fun _ _ => ⟨rfl, rfl, rfl, rfl⟩, fun _ _ => rfl, fun _ _ => rfl, fun _ _ => rfl⟩
theorem SlF.tr {v : Nat} {I I1 I2 : aI} (h1 : SlF v I I1) (h2 : SlF v I1 I2) : SlF v I I2 := by
  obtain ⟨a1, a2, a3, a4⟩ := h1
  obtain ⟨b1, b2, b3, b4⟩ := h2
  refine ⟨fun j hj => ?_, fun j hj => (b2 j hj).trans (a2 j hj), fun j hj => (b3 j hj).trans (a3 j hj), fun j hj => (b4 j hj).trans (a4 j hj)⟩
  obtain ⟨q1, q2, q3, q4⟩ := a1 j hj
  obtain ⟨r1, r2, r3, r4⟩ := b1 j hj
  exact ⟨r1.trans q1, r2.trans q2, r3.trans q3, r4.trans q4⟩
theorem SlF.of {v : Nat} {I I2 : aI} {l : List Nat} (hS : Sm l I I2) (h : ∀ a ∈ l, a ≠ 63 ∧ a ≠ 64 ∧ a ≠ 65 ∧ a ≠ 66 ∧ a ≠ 67 ∧ a ≠ 68 ∧ a ≠ 69) : SlF v I I2 := by
  refine ⟨fun j _ => ⟨?_, ?_, ?_, ?_⟩, fun j _ => ?_, fun j _ => ?_, fun j _ => ?_⟩
  · rw [hS 63 (fun q => (h _ q).1 rfl)]
  · rw [hS 64 (fun q => (h _ q).2.1 rfl)]
  · rw [hS 67 (fun q => (h _ q).2.2.2.2.1 rfl)]
  · rw [hS 68 (fun q => (h _ q).2.2.2.2.2.1 rfl)]
  · rw [hS 65 (fun q => (h _ q).2.2.1 rfl)]
  · rw [hS 66 (fun q => (h _ q).2.2.2.1 rfl)]
  · rw [hS 69 (fun q => (h _ q).2.2.2.2.2.2 rfl)]
/-- strokes in slot v touch no other -/
theorem SlF.set {v b s : Nat} {z d : Int32} {I I2 : aI} {l : List Nat} (hS : Sm l I I2) (h : ∀ a ∈ l, a ≠ 63 ∧ a ≠ 64 ∧ a ≠ 67 ∧ a ≠ 68 ∧ a ≠ 69) (hb : b < 5) (hs : s < 6) (e65 : I2 65 = upd (I 65) (5 * v + b) z) (e66 : I2 66 = upd (I 66) (6 * v + s) d) : SlF v I I2 := by
  refine ⟨fun j _ => ⟨?_, ?_, ?_, ?_⟩, fun j hj => ?_, fun j hj => ?_, fun j _ => ?_⟩
  · rw [hS 63 (fun q => (h _ q).1 rfl)]
  · rw [hS 64 (fun q => (h _ q).2.1 rfl)]
  · rw [hS 67 (fun q => (h _ q).2.2.1 rfl)]
  · rw [hS 68 (fun q => (h _ q).2.2.2.1 rfl)]
  · rw [e65, upd_n (by omega)]
  · rw [e66, upd_n (by omega)]
  · rw [hS 69 (fun q => (h _ q).2.2.2.2 rfl)]
theorem XR.fr {I I2 : aI} {v w nb ns : Nat} {x : aX} (h : XR I w nb ns x) (hf : SlF v I I2) (hw : w ≠ v) (hb : nb ≤ 5) (hs : ns ≤ 6) : XR I2 w nb ns x := by
  obtain ⟨a1, a2, a3, a4⟩ := hf
  obtain ⟨q1, q2, q3, q4⟩ := a1 w hw
  obtain ⟨x1, x2, x3, x4, x5⟩ := h
  exact ⟨q1.trans x1, q2.trans x2, q3.trans x3, fun b h => (a2 _ (by omega)).trans (x4 b h), fun s h => (a3 _ (by omega)).trans (x5 s h)⟩
theorem KR.fr {I I2 : aI} {v w : Nat} {rs : List aRow} (h : KR I w rs) (hf : SlF v I I2) (hw : w ≠ v) : KR I2 w rs := by
  obtain ⟨a1, a2, a3, a4⟩ := hf
  obtain ⟨q1, q2, q3, q4⟩ := a1 w hw
  obtain ⟨k1, k2, k3⟩ := h
  refine ⟨q4.trans k1, k2, fun k r hr => ?_⟩
  have hk : k < rs.length := (List.getElem?_eq_some_iff.mp hr).1
  obtain ⟨r1, r2, r3, r4⟩ := k3 k r hr
  exact ⟨(a4 _ (by omega)).trans r1, (a4 _ (by omega)).trans r2, (a4 _ (by omega)).trans r3, (a4 _ (by omega)).trans r4⟩
theorem KR.sm {I I2 : aI} {v : Nat} {rs : List aRow} {l : List Nat} (h : KR I v rs) (hS : Sm l I I2) (h68 : 68 ∉ l) (h69 : 69 ∉ l) : KR I2 v rs := by
  unfold KR
  rw [hS 68 h68, hS 69 h69]
  exact h
theorem XR.sm {I I2 : aI} {v nb ns : Nat} {x : aX} {l : List Nat} (h : XR I v nb ns x) (hS : Sm l I I2) (hl : ∀ a ∈ l, a ≠ 63 ∧ a ≠ 64 ∧ a ≠ 65 ∧ a ≠ 66 ∧ a ≠ 67) : XR I2 v nb ns x := by
  unfold XR
  rw [hS 63 (fun q => (hl _ q).1 rfl), hS 64 (fun q => (hl _ q).2.1 rfl), hS 65 (fun q => (hl _ q).2.2.1 rfl), hS 66 (fun q => (hl _ q).2.2.2.1 rfl), hS 67 (fun q => (hl _ q).2.2.2.2 rfl)]
  exact h
def addR (rs : List aRow) (r : aRow) : List aRow := if rs.length = 40 then rs.drop 1 ++ [r] else rs ++ [r]
set_option maxRecDepth 20000 in
theorem tm_copies {N : Nat} {I : aI} {L : aL} {to fr nb ns : Nat} {x : aX} {rs : List aRow} (hto : to < 22) (hfr : fr < 22) (hne : to ≠ fr) (hnb : nb ≤ 5) (hns : ns ≤ 6) (hX : XR I fr nb ns x) (hK : KR I fr rs) : Run 0 0 0 mX10_copies [.ref 36, .int (nI to), .int (nI fr)] (St N I L) (RP none N L (fun I2 => Sm [63, 64, 65, 66, 67, 68, 69] I I2 ∧ SlF to I I2 ∧ XR I2 to nb ns x ∧ KR I2 to rs)) := by
  refine Run.of (ls := [some (.ref 36), some (.int _), some (.int _), none]) (by decide) (Nat.le_of_ble_eq_true rfl) rfl ?_
  obtain ⟨x1, x2, x3, x4, x5⟩ := hX
  obtain ⟨k1, k2, k3⟩ := hK
  refine Ex.aload_n (pc := 0) dX10_copies_0 rfl rfl ?_
  refine Ex.getR (pc := 1) dX10_copies_1 fX10_153 (sh36 _) r36_46 ?_
  refine Ex.iload_n (pc := 4) dX10_copies_4 rfl rfl ?_
  refine Ex.aload_n (pc := 5) dX10_copies_5 rfl rfl ?_
  refine Ex.getR (pc := 6) dX10_copies_6 fX10_153 (sh36 _) r36_46 ?_
  refine Ex.iload_n (pc := 9) dX10_copies_9 rfl rfl ?_
  refine Ex.iald (pc := 10) (j := fr) dX10_copies_10 (sh63 _) (vp_in_nI hfr (by decide)) (ixN2 (by omega)) ?_
  refine Ex.iast (pc := 11) (j := to) dX10_copies_11 (sh63 _) (vp_in_nI hto (by decide)) (ixN2 (by omega)) ?_
  refine Ex.aload_n (pc := 12) dX10_copies_12 rfl rfl ?_
  refine Ex.getR (pc := 13) dX10_copies_13 fX10_156 (sh36 _) r36_47 ?_
  refine Ex.iload_n (pc := 16) dX10_copies_16 rfl rfl ?_
  refine Ex.aload_n (pc := 17) dX10_copies_17 rfl rfl ?_
  refine Ex.getR (pc := 18) dX10_copies_18 fX10_156 (sh36 _) r36_47 ?_
  refine Ex.iload_n (pc := 21) dX10_copies_21 rfl rfl ?_
  refine Ex.iald (pc := 22) (j := fr) dX10_copies_22 (sh64 _) (vp_in_nI hfr (by decide)) (ixN2 (by omega)) ?_
  refine Ex.iast (pc := 23) (j := to) dX10_copies_23 (sh64 _) (vp_in_nI hto (by decide)) (ixN2 (by omega)) ?_
  refine Ex.aload_n (pc := 24) dX10_copies_24 rfl rfl ?_
  refine Ex.getR (pc := 25) dX10_copies_25 fX10_165 (sh36 _) r36_50 ?_
  refine Ex.iload_n (pc := 28) dX10_copies_28 rfl rfl ?_
  refine Ex.aload_n (pc := 29) dX10_copies_29 rfl rfl ?_
  refine Ex.getR (pc := 30) dX10_copies_30 fX10_165 (sh36 _) r36_50 ?_
  refine Ex.iload_n (pc := 33) dX10_copies_33 rfl rfl ?_
  refine Ex.iald (pc := 34) (j := fr) dX10_copies_34 (sh67 _) (vp_in_nI hfr (by decide)) (ixN2 (by omega)) ?_
  refine Ex.iast (pc := 35) (j := to) dX10_copies_35 (sh67 _) (vp_in_nI hto (by decide)) (ixN2 (by omega)) ?_
  refine Ex.iconst (pc := 36) (v := 0) dX10_copies_36 rfl ?_
  refine Ex.istore_n (pc := 37) (ls' := [some (.ref 36), some (.int _), some (.int _), some (.int 0)]) dX10_copies_37 rfl (by decide) rfl rfl ?_
  refine forUp (σ := aI) (P := fun k I2 => Ex 0 0 0 mX10_copies 0 0 38 [some (.ref 36), some (.int (nI to)), some (.int (nI fr)), some (.int (nI k))] [] (St N I2 L) _) (Inv := fun k I2 => Sm [63, 64, 65, 66, 67, 68, 69] I I2 ∧ (I2 63 = upd (I 63) to (I 63 fr) ∧ I2 64 = upd (I 64) to (I 64 fr) ∧ I2 67 = upd (I 67) to (I 67 fr)) ∧ I2 66 = I 66 ∧ I2 68 = I 68 ∧ I2 69 = I 69 ∧ ∀ j, I2 65 j = if 5 * to ≤ j ∧ j < 5 * to + k then I 65 (5 * fr + (j - 5 * to)) else I 65 j) 5 ?_ ?_ 0 _ (Nat.zero_le _) ⟨?_, ?_, ?_, ?_, ?_, ?_⟩
  · rintro I2 ⟨hS, hA, h66, h68, h69, hc⟩
    refine Ex.iload_n (pc := 38) dX10_copies_38 rfl rfl ?_
    refine Ex.iconst (pc := 39) (v := 5) dX10_copies_39 rfl ?_
    refine Ex.icmp_ge (pc := 40) (tgt := 69) dX10_copies_40 (by decide) (fun _ => ?_) (fun c40 => absurd (by decide) c40)
    refine Ex.iconst (pc := 69) (v := 0) dX10_copies_69 rfl ?_
    refine Ex.istore_n (pc := 70) (ls' := [some (.ref 36), some (.int _), some (.int _), some (.int 0)]) dX10_copies_70 rfl (by decide) rfl rfl ?_
    refine forUp (σ := aI) (P := fun k I2 => Ex 0 0 0 mX10_copies 0 0 71 [some (.ref 36), some (.int (nI to)), some (.int (nI fr)), some (.int (nI k))] [] (St N I2 L) _) (Inv := fun k I2 => Sm [63, 64, 65, 66, 67, 68, 69] I I2 ∧ (I2 63 = upd (I 63) to (I 63 fr) ∧ I2 64 = upd (I 64) to (I 64 fr) ∧ I2 67 = upd (I 67) to (I 67 fr)) ∧ (∀ j, I2 65 j = if 5 * to ≤ j ∧ j < 5 * to + 5 then I 65 (5 * fr + (j - 5 * to)) else I 65 j) ∧ I2 68 = I 68 ∧ I2 69 = I 69 ∧ ∀ j, I2 66 j = if 6 * to ≤ j ∧ j < 6 * to + k then I 66 (6 * fr + (j - 6 * to)) else I 66 j) 6 ?_ ?_ 0 _ (Nat.zero_le _) ⟨hS, hA, hc, h68, h69, ?_⟩
    · rintro I2 ⟨hS, hA, h65, h68, h69, hc⟩
      refine Ex.iload_n (pc := 71) dX10_copies_71 rfl rfl ?_
      refine Ex.bipush (pc := 72) (v := 6) dX10_copies_72 rfl ?_
      refine Ex.icmp_ge (pc := 74) (tgt := 105) dX10_copies_74 (by decide) (fun _ => ?_) (fun c74 => absurd (by decide) c74)
      refine Ex.aload_n (pc := 105) dX10_copies_105 rfl rfl ?_
      refine Ex.getR (pc := 106) dX10_copies_106 fX10_168 (sh36 _) r36_51 ?_
      refine Ex.iload_n (pc := 109) dX10_copies_109 rfl rfl ?_
      refine Ex.aload_n (pc := 110) dX10_copies_110 rfl rfl ?_
      refine Ex.getR (pc := 111) dX10_copies_111 fX10_168 (sh36 _) r36_51 ?_
      refine Ex.iload_n (pc := 114) dX10_copies_114 rfl rfl ?_
      refine Ex.iald (pc := 115) (j := fr) dX10_copies_115 (sh68 _) (vp_in_nI hfr (by decide)) (ixN2 (by omega)) ?_
      refine Ex.iast (pc := 116) (j := to) dX10_copies_116 (sh68 _) (vp_in_nI hto (by decide)) (ixN2 (by omega)) ?_
      refine Ex.iconst (pc := 117) (v := 0) dX10_copies_117 rfl ?_
      refine Ex.istore_n (pc := 118) (ls' := [some (.ref 36), some (.int _), some (.int _), some (.int 0)]) dX10_copies_118 rfl (by decide) rfl rfl ?_
      refine forUp (σ := aI) (P := fun k I2 => Ex 0 0 0 mX10_copies 0 0 119 [some (.ref 36), some (.int (nI to)), some (.int (nI fr)), some (.int (nI k))] [] (St N I2 L) _) (Inv := fun k I2 => Sm [63, 64, 65, 66, 67, 68, 69] I I2 ∧ (I2 63 = upd (I 63) to (I 63 fr) ∧ I2 64 = upd (I 64) to (I 64 fr) ∧ I2 67 = upd (I 67) to (I 67 fr)) ∧ (∀ j, I2 65 j = if 5 * to ≤ j ∧ j < 5 * to + 5 then I 65 (5 * fr + (j - 5 * to)) else I 65 j) ∧ I2 68 = upd (I 68) to (I 68 fr) ∧ (∀ j, I2 66 j = if 6 * to ≤ j ∧ j < 6 * to + 6 then I 66 (6 * fr + (j - 6 * to)) else I 66 j) ∧ ∀ j, I2 69 j = if 160 * to ≤ j ∧ j < 160 * to + k then I 69 (160 * fr + (j - 160 * to)) else I 69 j) (4 * rs.length) ?_ ?_ 0 _ (Nat.zero_le _) ⟨hS.up (by decide), hA, h65, ?_, hc, ?_⟩
      · rintro I2 ⟨hS, hA, h65, h68, h66, hc⟩
        refine Ex.iload_n (pc := 119) dX10_copies_119 rfl rfl ?_
        refine Ex.iconst (pc := 120) (v := 4) dX10_copies_120 rfl ?_
        refine Ex.aload_n (pc := 121) dX10_copies_121 rfl rfl ?_
        refine Ex.getR (pc := 122) dX10_copies_122 fX10_168 (sh36 _) r36_51 ?_
        refine Ex.iload_n (pc := 125) dX10_copies_125 rfl rfl ?_
        refine Ex.iald (pc := 126) (j := fr) dX10_copies_126 (sh68 _) (vp_in_nI hfr (by decide)) (ixN2 (by omega)) ?_
        refine Ex.imul (pc := 127) dX10_copies_127 ?_
        have e68 : I2 68 fr = nI rs.length := by rw [h68, upd_n (Ne.symm hne), k1]
        rw [e68, show (4 : Int32) * nI rs.length = nI (4 * rs.length) from pk_mul 4 _]
        refine Ex.icmp_ge (pc := 128) (tgt := 161) dX10_copies_128 (by decide) (fun _ => ?_) (fun c128 => absurd (nI_le (Nat.le_refl _) (by omega)) c128)
        refine Ex.vret (pc := 161) rfl dX10_copies_161 (Nat.le_refl _) (Nat.le_refl _) ?_
        refine ⟨_, rfl, rfl, hS, ?_, ?_, ?_⟩
        · refine ⟨fun j hj => ⟨by rw [hA.1, upd_n hj], by rw [hA.2.1, upd_n hj], by rw [hA.2.2, upd_n hj], by rw [h68, upd_n hj]⟩, fun j hj => ?_, fun j hj => ?_, fun j hj => ?_⟩
          · rw [h65, if_neg (by omega)]
          · rw [h66, if_neg (by omega)]
          · rw [hc, if_neg (by omega)]
        · refine ⟨by rw [hA.1, upd_s, x1], by rw [hA.2.1, upd_s, x2], by rw [hA.2.2, upd_s, x3], fun b hb => ?_, fun s hs => ?_⟩
          · rw [h65, if_pos (by omega), show 5 * to + b - 5 * to = b by omega, x4 b hb]
          · rw [h66, if_pos (by omega), show 6 * to + s - 6 * to = s by omega, x5 s hs]
        · refine ⟨by rw [h68, upd_s, k1], k2, fun k r hr => ?_⟩
          have hk : k < rs.length := (List.getElem?_eq_some_iff.mp hr).1
          obtain ⟨r1, r2, r3, r4⟩ := k3 k r hr
          refine ⟨?_, ?_, ?_, ?_⟩
          · rw [hc, if_pos (by omega), ← r1]; congr 1; omega
          · rw [hc, if_pos (by omega), ← r2]; congr 1; omega
          · rw [hc, if_pos (by omega), ← r3]; congr 1; omega
          · rw [hc, if_pos (by omega), ← r4]; congr 1; omega
      · rintro k I2 hk ⟨hS, hA, h65, h68, h66, hc⟩ ih
        refine Ex.iload_n (pc := 119) dX10_copies_119 rfl rfl ?_
        refine Ex.iconst (pc := 120) (v := 4) dX10_copies_120 rfl ?_
        refine Ex.aload_n (pc := 121) dX10_copies_121 rfl rfl ?_
        refine Ex.getR (pc := 122) dX10_copies_122 fX10_168 (sh36 _) r36_51 ?_
        refine Ex.iload_n (pc := 125) dX10_copies_125 rfl rfl ?_
        refine Ex.iald (pc := 126) (j := fr) dX10_copies_126 (sh68 _) (vp_in_nI hfr (by decide)) (ixN2 (by omega)) ?_
        refine Ex.imul (pc := 127) dX10_copies_127 ?_
        have e68 : I2 68 fr = nI rs.length := by rw [h68, upd_n (Ne.symm hne), k1]
        rw [e68, show (4 : Int32) * nI rs.length = nI (4 * rs.length) from pk_mul 4 _]
        refine Ex.icmp_ge (pc := 128) (tgt := 161) dX10_copies_128 (by decide) (fun c128 => absurd c128 (nI_ge hk (by omega))) (fun _ => ?_)
        refine Ex.aload_n (pc := 131) dX10_copies_131 rfl rfl ?_
        refine Ex.getR (pc := 132) dX10_copies_132 fX10_171 (sh36 _) r36_52 ?_
        refine Ex.sipush (pc := 135) (v := 160) dX10_copies_135 rfl ?_
        refine Ex.iload_n (pc := 138) dX10_copies_138 rfl rfl ?_
        refine Ex.imul (pc := 139) dX10_copies_139 ?_
        refine Ex.iload_n (pc := 140) dX10_copies_140 rfl rfl ?_
        refine Ex.iadd (pc := 141) dX10_copies_141 ?_
        refine Ex.aload_n (pc := 142) dX10_copies_142 rfl rfl ?_
        refine Ex.getR (pc := 143) dX10_copies_143 fX10_171 (sh36 _) r36_52 ?_
        refine Ex.sipush (pc := 146) (v := 160) dX10_copies_146 rfl ?_
        refine Ex.iload_n (pc := 149) dX10_copies_149 rfl rfl ?_
        refine Ex.imul (pc := 150) dX10_copies_150 ?_
        refine Ex.iload_n (pc := 151) dX10_copies_151 rfl rfl ?_
        refine Ex.iadd (pc := 152) dX10_copies_152 ?_
        refine Ex.iald (pc := 153) (j := 160 * fr + k) dX10_copies_153 (sh69 _) (ixE (c := 160) (a := fr) (b := k) rfl rfl (by omega) (by decide)) (ixE2 (c := 160) rfl rfl (by omega)) ?_
        refine Ex.iast (pc := 154) (j := 160 * to + k) dX10_copies_154 (sh69 _) (ixE (c := 160) (a := to) (b := k) rfl rfl (by omega) (by decide)) (ixE2 (c := 160) rfl rfl (by omega)) ?_
        refine Ex.iinc (pc := 155) (ls' := [some (.ref 36), some (.int _), some (.int _), some (.int _)]) dX10_copies_155 rfl rfl (by decide) rfl rfl ?_
        refine Ex.goto (pc := 158) (tgt := 119) dX10_copies_158 (by decide) ?_
        rw [show nI k + Int32.ofInt 1 = nI (k + 1) from nI_1 k]
        refine ih _ ?_
        refine ⟨hS.up (by decide), hA, h65, h68, h66, ?_⟩
        intro j
        rw [va_up_s]
        by_cases e : j = 160 * to + k
        · rw [e, upd_s, if_pos (by omega), hc, if_neg (by omega)]; congr 1; omega
        · rw [upd_n e, hc]; by_cases e2 : 160 * to ≤ j ∧ j < 160 * to + k
          · rw [if_pos e2, if_pos (by omega)]
          · rw [if_neg e2, if_neg (by omega)]
      · rw [va_up_s, h68]
      · intro j; rw [va_up_n (by decide), h69, if_neg (by omega)]
    · rintro k I2 hk ⟨hS, hA, h65, h68, h69, hc⟩ ih
      refine Ex.iload_n (pc := 71) dX10_copies_71 rfl rfl ?_
      refine Ex.bipush (pc := 72) (v := 6) dX10_copies_72 rfl ?_
      refine Ex.icmp_ge (pc := 74) (tgt := 105) dX10_copies_74 (by decide) (fun c74 => absurd c74 (nI_ge (b := 6) hk (by decide))) (fun _ => ?_)
      refine Ex.aload_n (pc := 77) dX10_copies_77 rfl rfl ?_
      refine Ex.getR (pc := 78) dX10_copies_78 fX10_162 (sh36 _) r36_49 ?_
      refine Ex.bipush (pc := 81) (v := 6) dX10_copies_81 rfl ?_
      refine Ex.iload_n (pc := 83) dX10_copies_83 rfl rfl ?_
      refine Ex.imul (pc := 84) dX10_copies_84 ?_
      refine Ex.iload_n (pc := 85) dX10_copies_85 rfl rfl ?_
      refine Ex.iadd (pc := 86) dX10_copies_86 ?_
      refine Ex.aload_n (pc := 87) dX10_copies_87 rfl rfl ?_
      refine Ex.getR (pc := 88) dX10_copies_88 fX10_162 (sh36 _) r36_49 ?_
      refine Ex.bipush (pc := 91) (v := 6) dX10_copies_91 rfl ?_
      refine Ex.iload_n (pc := 93) dX10_copies_93 rfl rfl ?_
      refine Ex.imul (pc := 94) dX10_copies_94 ?_
      refine Ex.iload_n (pc := 95) dX10_copies_95 rfl rfl ?_
      refine Ex.iadd (pc := 96) dX10_copies_96 ?_
      refine Ex.iald (pc := 97) (j := 6 * fr + k) dX10_copies_97 (sh66 _) (ixE (c := 6) (a := fr) (b := k) rfl rfl (by omega) (by decide)) (ixE2 (c := 6) rfl rfl (by omega)) ?_
      refine Ex.iast (pc := 98) (j := 6 * to + k) dX10_copies_98 (sh66 _) (ixE (c := 6) (a := to) (b := k) rfl rfl (by omega) (by decide)) (ixE2 (c := 6) rfl rfl (by omega)) ?_
      refine Ex.iinc (pc := 99) (ls' := [some (.ref 36), some (.int _), some (.int _), some (.int _)]) dX10_copies_99 rfl rfl (by decide) rfl rfl ?_
      refine Ex.goto (pc := 102) (tgt := 71) dX10_copies_102 (by decide) ?_
      rw [show nI k + Int32.ofInt 1 = nI (k + 1) from nI_1 k]
      refine ih _ ?_
      refine ⟨hS.up (by decide), hA, h65, h68, h69, ?_⟩
      intro j
      rw [va_up_s]
      by_cases e : j = 6 * to + k
      · rw [e, upd_s, if_pos (by omega), hc, if_neg (by omega)]; congr 1; omega
      · rw [upd_n e, hc]; by_cases e2 : 6 * to ≤ j ∧ j < 6 * to + k
        · rw [if_pos e2, if_pos (by omega)]
        · rw [if_neg e2, if_neg (by omega)]
    · intro j; rw [h66, if_neg (by omega)]
  · rintro k I2 hk ⟨hS, hA, h66, h68, h69, hc⟩ ih
    refine Ex.iload_n (pc := 38) dX10_copies_38 rfl rfl ?_
    refine Ex.iconst (pc := 39) (v := 5) dX10_copies_39 rfl ?_
    refine Ex.icmp_ge (pc := 40) (tgt := 69) dX10_copies_40 (by decide) (fun c40 => absurd c40 (nI_ge (b := 5) hk (by decide))) (fun _ => ?_)
    refine Ex.aload_n (pc := 43) dX10_copies_43 rfl rfl ?_
    refine Ex.getR (pc := 44) dX10_copies_44 fX10_159 (sh36 _) r36_48 ?_
    refine Ex.iconst (pc := 47) (v := 5) dX10_copies_47 rfl ?_
    refine Ex.iload_n (pc := 48) dX10_copies_48 rfl rfl ?_
    refine Ex.imul (pc := 49) dX10_copies_49 ?_
    refine Ex.iload_n (pc := 50) dX10_copies_50 rfl rfl ?_
    refine Ex.iadd (pc := 51) dX10_copies_51 ?_
    refine Ex.aload_n (pc := 52) dX10_copies_52 rfl rfl ?_
    refine Ex.getR (pc := 53) dX10_copies_53 fX10_159 (sh36 _) r36_48 ?_
    refine Ex.iconst (pc := 56) (v := 5) dX10_copies_56 rfl ?_
    refine Ex.iload_n (pc := 57) dX10_copies_57 rfl rfl ?_
    refine Ex.imul (pc := 58) dX10_copies_58 ?_
    refine Ex.iload_n (pc := 59) dX10_copies_59 rfl rfl ?_
    refine Ex.iadd (pc := 60) dX10_copies_60 ?_
    refine Ex.iald (pc := 61) (j := 5 * fr + k) dX10_copies_61 (sh65 _) (ixE (c := 5) (a := fr) (b := k) rfl rfl (by omega) (by decide)) (ixE2 (c := 5) rfl rfl (by omega)) ?_
    refine Ex.iast (pc := 62) (j := 5 * to + k) dX10_copies_62 (sh65 _) (ixE (c := 5) (a := to) (b := k) rfl rfl (by omega) (by decide)) (ixE2 (c := 5) rfl rfl (by omega)) ?_
    refine Ex.iinc (pc := 63) (ls' := [some (.ref 36), some (.int _), some (.int _), some (.int _)]) dX10_copies_63 rfl rfl (by decide) rfl rfl ?_
    refine Ex.goto (pc := 66) (tgt := 38) dX10_copies_66 (by decide) ?_
    rw [show nI k + Int32.ofInt 1 = nI (k + 1) from nI_1 k]
    refine ih _ ?_
    refine ⟨hS.up (by decide), hA, h66, h68, h69, ?_⟩
    intro j
    rw [va_up_s]
    by_cases e : j = 5 * to + k
    · rw [e, upd_s, if_pos (by omega), hc, if_neg (by omega)]; congr 1; omega
    · rw [upd_n e, hc]; by_cases e2 : 5 * to ≤ j ∧ j < 5 * to + k
      · rw [if_pos e2, if_pos (by omega)]
      · rw [if_neg e2, if_neg (by omega)]
  · repeat (first | exact Sm.rf | refine Sm.up ?_ (by decide))
  · refine ⟨?_, ?_, ?_⟩ <;> simp [va_up]
  · simp [va_up]
  · simp [va_up]
  · simp [va_up]
  · intro j; rw [if_neg (by omega)]; simp [va_up]
set_option maxRecDepth 20000 in
theorem tm_writesDown {N : Nat} {I : aI} {L : aL} {v : Nat} {rs : List aRow} {b s cm : Int32} (hv : v < 22) (hK : KR I v rs) : Run 0 0 0 mX10_writesDown [.ref 36, .int (nI v), .int b, .int s, .int cm] (St N I L) (RP none N L (fun I2 => Sm [68, 69] I I2 ∧ SlF v I I2 ∧ KR I2 v (addR rs (I 63 v, b, s, cm)))) := by
  refine Run.of (ls := [some (.ref 36), some (.int _), some (.int _), some (.int _), some (.int _), none]) (by decide) (Nat.le_of_ble_eq_true rfl) rfl ?_
  obtain ⟨k1, k2, k3⟩ := hK
  have k66 : ∀ (I2 : aI) (qs : List aRow) (l5 : Option Value), l5 = none ∨ (∃ z, l5 = some (.int z)) → Sm [68, 69] I I2 → SlF v I I2 → KR I2 v qs → qs.length < 40 → Ex 0 0 0 mX10_writesDown 0 0 66 [some (.ref 36), some (.int (nI v)), some (.int b), some (.int s), some (.int cm), none] [] (St N I2 L) (RP none N L (fun I3 => Sm [68, 69] I I3 ∧ SlF v I I3 ∧ KR I3 v (qs ++ [(I 63 v, b, s, cm)]))) := by
    intro I2 qs _ _ hS hF ⟨q1, q2, q3⟩ hlt
    refine Ex.iconst (pc := 66) (v := 4) dX10_writesDown_66 rfl ?_
    refine Ex.bipush (pc := 67) (v := 40) dX10_writesDown_67 rfl ?_
    refine Ex.iload_n (pc := 69) dX10_writesDown_69 rfl rfl ?_
    refine Ex.imul (pc := 70) dX10_writesDown_70 ?_
    refine Ex.aload_n (pc := 71) dX10_writesDown_71 rfl rfl ?_
    refine Ex.getR (pc := 72) dX10_writesDown_72 fX10_168 (sh36 _) r36_51 ?_
    refine Ex.iload_n (pc := 75) dX10_writesDown_75 rfl rfl ?_
    refine Ex.iald (pc := 76) (j := v) dX10_writesDown_76 (sh68 _) (vp_in_nI hv (by decide)) (ixN2 (by omega)) ?_
    refine Ex.iadd (pc := 77) dX10_writesDown_77 ?_
    refine Ex.imul (pc := 78) dX10_writesDown_78 ?_
    rw [q1, show (4 : Int32) * (40 * nI v + nI qs.length) = nI (160 * v + 4 * qs.length) from by rw [show (40 : Int32) = nI 40 from rfl, show (4 : Int32) = nI 4 from rfl, pk_mul, nI_add, pk_mul]; congr 1; omega]
    refine Ex.istore (pc := 79) (ls' := [some (.ref 36), some (.int _), some (.int _), some (.int _), some (.int _), some (.int _)]) dX10_writesDown_79 (by decide) rfl rfl ?_
    refine Ex.aload_n (pc := 81) dX10_writesDown_81 rfl rfl ?_
    refine Ex.getR (pc := 82) dX10_writesDown_82 fX10_171 (sh36 _) r36_52 ?_
    refine Ex.iload (pc := 85) dX10_writesDown_85 rfl ?_
    refine Ex.aload_n (pc := 87) dX10_writesDown_87 rfl rfl ?_
    refine Ex.getR (pc := 88) dX10_writesDown_88 fX10_153 (sh36 _) r36_46 ?_
    refine Ex.iload_n (pc := 91) dX10_writesDown_91 rfl rfl ?_
    refine Ex.iald (pc := 92) (j := v) dX10_writesDown_92 (sh63 _) (vp_in_nI hv (by decide)) (ixN2 (by omega)) ?_
    refine Ex.iast (pc := 93) (j := 160 * v + 4 * qs.length) dX10_writesDown_93 (sh69 _) (vp_in_nI (by omega) (by decide)) (ixN2 (by omega)) ?_
    refine Ex.aload_n (pc := 94) dX10_writesDown_94 rfl rfl ?_
    refine Ex.getR (pc := 95) dX10_writesDown_95 fX10_171 (sh36 _) r36_52 ?_
    refine Ex.iload (pc := 98) dX10_writesDown_98 rfl ?_
    refine Ex.iconst (pc := 100) (v := 1) dX10_writesDown_100 rfl ?_
    refine Ex.iadd (pc := 101) dX10_writesDown_101 ?_
    refine Ex.iload_n (pc := 102) dX10_writesDown_102 rfl rfl ?_
    refine Ex.iast (pc := 103) (j := 160 * v + 4 * qs.length + 1) dX10_writesDown_103 (sh69 _) (ixA (x := nI (160 * v + 4 * qs.length)) (j := 1) rfl (by omega) (by decide)).1 (ixA2 (x := nI (160 * v + 4 * qs.length)) (j := 1) rfl (by omega)) ?_
    refine Ex.aload_n (pc := 104) dX10_writesDown_104 rfl rfl ?_
    refine Ex.getR (pc := 105) dX10_writesDown_105 fX10_171 (sh36 _) r36_52 ?_
    refine Ex.iload (pc := 108) dX10_writesDown_108 rfl ?_
    refine Ex.iconst (pc := 110) (v := 2) dX10_writesDown_110 rfl ?_
    refine Ex.iadd (pc := 111) dX10_writesDown_111 ?_
    refine Ex.iload_n (pc := 112) dX10_writesDown_112 rfl rfl ?_
    refine Ex.iast (pc := 113) (j := 160 * v + 4 * qs.length + 2) dX10_writesDown_113 (sh69 _) (ixA (x := nI (160 * v + 4 * qs.length)) (j := 2) rfl (by omega) (by decide)).1 (ixA2 (x := nI (160 * v + 4 * qs.length)) (j := 2) rfl (by omega)) ?_
    refine Ex.aload_n (pc := 114) dX10_writesDown_114 rfl rfl ?_
    refine Ex.getR (pc := 115) dX10_writesDown_115 fX10_171 (sh36 _) r36_52 ?_
    refine Ex.iload (pc := 118) dX10_writesDown_118 rfl ?_
    refine Ex.iconst (pc := 120) (v := 3) dX10_writesDown_120 rfl ?_
    refine Ex.iadd (pc := 121) dX10_writesDown_121 ?_
    refine Ex.iload (pc := 122) dX10_writesDown_122 rfl ?_
    refine Ex.iast (pc := 124) (j := 160 * v + 4 * qs.length + 3) dX10_writesDown_124 (sh69 _) (ixA (x := nI (160 * v + 4 * qs.length)) (j := 3) rfl (by omega) (by decide)).1 (ixA2 (x := nI (160 * v + 4 * qs.length)) (j := 3) rfl (by omega)) ?_
    refine Ex.aload_n (pc := 125) dX10_writesDown_125 rfl rfl ?_
    refine Ex.getR (pc := 126) dX10_writesDown_126 fX10_168 (sh36 _) r36_51 ?_
    refine Ex.iload_n (pc := 129) dX10_writesDown_129 rfl rfl ?_
    refine Ex.dup2 (pc := 130) dX10_writesDown_130 rfl rfl ?_
    refine Ex.iald (pc := 131) (j := v) dX10_writesDown_131 (sh68 _) (vp_in_nI hv (by decide)) (ixN2 (by omega)) ?_
    refine Ex.iconst (pc := 132) (v := 1) dX10_writesDown_132 rfl ?_
    refine Ex.iadd (pc := 133) dX10_writesDown_133 ?_
    refine Ex.iast (pc := 134) (j := v) dX10_writesDown_134 (sh68 _) (vp_in_nI hv (by decide)) (ixN2 (by omega)) ?_
    refine Ex.vret (pc := 135) rfl dX10_writesDown_135 (Nat.le_refl _) (Nat.le_refl _) ?_
    refine ⟨_, rfl, rfl, ?_, ?_, ?_⟩
    · exact ((((hS.up (by decide)).up (by decide)).up (by decide)).up (by decide)).up (by decide)
    · refine hF.tr ⟨fun j hj => ⟨by simp [va_up], by simp [va_up], by simp [va_up], by simp [va_up, upd, hj]⟩, fun j _ => by simp [va_up], fun j _ => by simp [va_up], fun j hj => ?_⟩
      simp [va_up, upd, show j ≠ 160 * v + 4 * qs.length by omega, show j ≠ 160 * v + 4 * qs.length + 1 by omega, show j ≠ 160 * v + 4 * qs.length + 2 by omega, show j ≠ 160 * v + 4 * qs.length + 3 by omega]
    · refine ⟨?_, by rw [List.length_append, List.length_singleton]; omega, fun k r hr => ?_⟩
      · simp [va_up, upd, q1]
        exact nI_1 _
      · rcases (Nat.lt_trichotomy k qs.length) with h | h | h
        · rw [List.getElem?_append_left h] at hr
          obtain ⟨r1, r2, r3, r4⟩ := q3 k r hr
          simp only [rowAt, va_up_s, va_up_n (show (69 : Nat) ≠ 68 by decide)]
          refine ⟨?_, ?_, ?_, ?_⟩
          · rw [upd_n (by omega), upd_n (by omega), upd_n (by omega), upd_n (by omega)]; exact r1
          · rw [upd_n (by omega), upd_n (by omega), upd_n (by omega), upd_n (by omega)]; exact r2
          · rw [upd_n (by omega), upd_n (by omega), upd_n (by omega), upd_n (by omega)]; exact r3
          · rw [upd_n (by omega), upd_n (by omega), upd_n (by omega), upd_n (by omega)]; exact r4
        · subst h
          rw [List.getElem?_append_right (Nat.le_refl _), Nat.sub_self] at hr
          have hr : r = (I 63 v, b, s, cm) := (Option.some.inj hr).symm
          subst hr
          have e63 : I2 63 v = I 63 v := by rw [hS 63 (by decide)]
          refine ⟨?_, ?_, ?_, ?_⟩ <;> simp [va_up, upd, e63]
        · rw [List.getElem?_eq_none (by rw [List.length_append, List.length_singleton]; omega)] at hr; cases hr
  refine Ex.aload_n (pc := 0) dX10_writesDown_0 rfl rfl ?_
  refine Ex.getR (pc := 1) dX10_writesDown_1 fX10_168 (sh36 _) r36_51 ?_
  refine Ex.iload_n (pc := 4) dX10_writesDown_4 rfl rfl ?_
  refine Ex.iald (pc := 5) (j := v) dX10_writesDown_5 (sh68 _) (vp_in_nI hv (by decide)) (ixN2 (by omega)) ?_
  rw [k1]
  refine Ex.bipush (pc := 6) (v := 40) dX10_writesDown_6 rfl ?_
  refine Ex.icmp_ne (pc := 8) (tgt := 66) dX10_writesDown_8 (by decide) (fun c8 => ?_) (fun c8 => ?_)
  · skip
    have hne : ¬ rs.length = 40 := fun e => c8 (by rw [e]; rfl)
    unfold addR
    rw [if_neg hne]
    exact k66 I rs none (Or.inl rfl) Sm.rf SlF.rf ⟨k1, k2, k3⟩ (by omega)
  · skip
    refine Ex.sipush (pc := 11) (v := 160) dX10_writesDown_11 rfl ?_
    refine Ex.iload_n (pc := 14) dX10_writesDown_14 rfl rfl ?_
    refine Ex.imul (pc := 15) dX10_writesDown_15 ?_
    rw [show (160 : Int32) * nI v = nI (160 * v + 0) from pk_mul 160 v]
    have hl40 : rs.length = 40 := (nI_eq (by omega) (by decide)).mp (show nI rs.length = nI 40 from c8)
    refine Ex.istore (pc := 16) (ls' := [some (.ref 36), some (.int _), some (.int _), some (.int _), some (.int _), some (.int _)]) dX10_writesDown_16 (by decide) rfl rfl ?_
    refine forUp (σ := aI) (P := fun k I2 => Ex 0 0 0 mX10_writesDown 0 0 18 [some (.ref 36), some (.int (nI v)), some (.int b), some (.int s), some (.int cm), some (.int (nI (160 * v + k)))] [] (St N I2 L) _) (Inv := fun k I2 => Sm [69] I I2 ∧ ∀ j, I2 69 j = if 160 * v ≤ j ∧ j < 160 * v + k then I 69 (j + 4) else I 69 j) 156 ?_ ?_ 0 _ (Nat.zero_le _) ⟨Sm.rf, fun j => by rw [if_neg (by omega)]⟩
    · rintro I2 ⟨hS, hc⟩
      have hS2 : Sm [68, 69] I I2 := hS.tr Sm.rf (l2 := []) (by decide) (by decide)
      have k12 : I2 68 v = nI (39 + 1) := by rw [hS 68 (by decide), k1, hl40]
      refine Ex.iload (pc := 18) dX10_writesDown_18 rfl ?_
      refine Ex.sipush (pc := 20) (v := 160) dX10_writesDown_20 rfl ?_
      refine Ex.iload_n (pc := 23) dX10_writesDown_23 rfl rfl ?_
      refine Ex.imul (pc := 24) dX10_writesDown_24 ?_
      refine Ex.sipush (pc := 25) (v := 160) dX10_writesDown_25 rfl ?_
      refine Ex.iadd (pc := 28) dX10_writesDown_28 ?_
      refine Ex.iconst (pc := 29) (v := 4) dX10_writesDown_29 rfl ?_
      refine Ex.isub (pc := 30) dX10_writesDown_30 ?_
      rw [show (160 : Int32) * nI v + 160 - 4 = nI (160 * v + 156) from by rw [show (160 : Int32) * nI v = nI (160 * v) from pk_mul 160 v, show nI (160 * v) + 160 = nI (160 * v + 160) from nI_add _ 160, show (4 : Int32) = nI 4 from rfl, pk_sub (by omega)]; rfl]
      refine Ex.icmp_ge (pc := 31) (tgt := 56) dX10_writesDown_31 (by decide) (fun _ => ?_) (fun c31 => absurd (nI_le (Nat.le_refl _) (by omega)) c31)
      refine Ex.aload_n (pc := 56) dX10_writesDown_56 rfl rfl ?_
      refine Ex.getR (pc := 57) dX10_writesDown_57 fX10_168 (sh36 _) r36_51 ?_
      refine Ex.iload_n (pc := 60) dX10_writesDown_60 rfl rfl ?_
      refine Ex.dup2 (pc := 61) dX10_writesDown_61 rfl rfl ?_
      refine Ex.iald (pc := 62) (j := v) dX10_writesDown_62 (sh68 _) (vp_in_nI hv (by decide)) (ixN2 (by omega)) ?_
      refine Ex.iconst (pc := 63) (v := 1) dX10_writesDown_63 rfl ?_
      refine Ex.isub (pc := 64) dX10_writesDown_64 ?_
      refine Ex.iast (pc := 65) (j := v) dX10_writesDown_65 (sh68 _) (vp_in_nI hv (by decide)) (ixN2 (by omega)) ?_
      unfold addR
      rw [if_pos hl40]
      refine Ex.le (ls' := [some (.ref 36), some (.int (nI v)), some (.int b), some (.int s), some (.int cm), none]) ⟨rfl, rfl, rfl, rfl, rfl, trivial⟩ ?_
      refine k66 _ (rs.drop 1) none (Or.inl rfl) (hS2.up (by decide)) ?_ ⟨?_, ?_, ?_⟩ ?_
      · refine ⟨fun j hj => ⟨by simp [va_up, hS 63 (by decide)], by simp [va_up, hS 64 (by decide)], by simp [va_up, hS 67 (by decide)], by simp [va_up, upd, hj, hS 68 (by decide)]⟩, fun j _ => by simp [va_up, hS 65 (by decide)], fun j _ => by simp [va_up, hS 66 (by decide)], fun j hj => ?_⟩
        rw [va_up_n (by decide), hc, if_neg (by omega)]
      · rw [va_up_s, upd_s, k12, List.length_drop, hl40]; exact nI_pred 39
      · rw [List.length_drop]; omega
      · intro k r hr
        rw [List.getElem?_drop, Nat.add_comm 1 k] at hr
        have hk : k + 1 < rs.length := (List.getElem?_eq_some_iff.mp hr).1
        obtain ⟨r1, r2, r3, r4⟩ := k3 (k + 1) r hr
        rw [show 160 * v + 4 * (k + 1) = 160 * v + 4 * k + 4 by omega] at r1 r2 r3 r4
        refine ⟨?_, ?_, ?_, ?_⟩
        · rw [va_up_n (by decide), hc, if_pos (by omega), ← r1]
        · rw [va_up_n (by decide), hc, if_pos (by omega), ← r2]
        · rw [va_up_n (by decide), hc, if_pos (by omega), ← r3]
        · rw [va_up_n (by decide), hc, if_pos (by omega), ← r4]
      · rw [List.length_drop]; omega
    · rintro k I2 hk ⟨hS, hc⟩ ih
      refine Ex.iload (pc := 18) dX10_writesDown_18 rfl ?_
      refine Ex.sipush (pc := 20) (v := 160) dX10_writesDown_20 rfl ?_
      refine Ex.iload_n (pc := 23) dX10_writesDown_23 rfl rfl ?_
      refine Ex.imul (pc := 24) dX10_writesDown_24 ?_
      refine Ex.sipush (pc := 25) (v := 160) dX10_writesDown_25 rfl ?_
      refine Ex.iadd (pc := 28) dX10_writesDown_28 ?_
      refine Ex.iconst (pc := 29) (v := 4) dX10_writesDown_29 rfl ?_
      refine Ex.isub (pc := 30) dX10_writesDown_30 ?_
      rw [show (160 : Int32) * nI v + 160 - 4 = nI (160 * v + 156) from by rw [show (160 : Int32) * nI v = nI (160 * v) from pk_mul 160 v, show nI (160 * v) + 160 = nI (160 * v + 160) from nI_add _ 160, show (4 : Int32) = nI 4 from rfl, pk_sub (by omega)]; rfl]
      refine Ex.icmp_ge (pc := 31) (tgt := 56) dX10_writesDown_31 (by decide) (fun c31 => absurd c31 (nI_ge (show 160 * v + k < 160 * v + 156 by omega) (by omega))) (fun _ => ?_)
      refine Ex.aload_n (pc := 34) dX10_writesDown_34 rfl rfl ?_
      refine Ex.getR (pc := 35) dX10_writesDown_35 fX10_171 (sh36 _) r36_52 ?_
      refine Ex.iload (pc := 38) dX10_writesDown_38 rfl ?_
      refine Ex.aload_n (pc := 40) dX10_writesDown_40 rfl rfl ?_
      refine Ex.getR (pc := 41) dX10_writesDown_41 fX10_171 (sh36 _) r36_52 ?_
      refine Ex.iload (pc := 44) dX10_writesDown_44 rfl ?_
      refine Ex.iconst (pc := 46) (v := 4) dX10_writesDown_46 rfl ?_
      refine Ex.iadd (pc := 47) dX10_writesDown_47 ?_
      refine Ex.iald (pc := 48) (j := 160 * v + k + 4) dX10_writesDown_48 (sh69 _) (ixA (x := nI (160 * v + k)) (j := 4) rfl (by omega) (by decide)).1 (ixA2 (x := nI (160 * v + k)) (j := 4) rfl (by omega)) ?_
      refine Ex.iast (pc := 49) (j := 160 * v + k) dX10_writesDown_49 (sh69 _) (vp_in_nI (by omega) (by decide)) (ixN2 (by omega)) ?_
      refine Ex.iinc (pc := 50) (ls' := [some (.ref 36), some (.int _), some (.int _), some (.int _), some (.int _), some (.int _)]) dX10_writesDown_50 rfl rfl (by decide) rfl rfl ?_
      refine Ex.goto (pc := 53) (tgt := 18) dX10_writesDown_53 (by decide) ?_
      rw [show nI (160 * v + k) + Int32.ofInt 1 = nI (160 * v + (k + 1)) from nI_1 _]
      refine ih _ ?_
      refine ⟨hS.up (by decide), fun j => ?_⟩
      rw [va_up_s]
      by_cases e : j = 160 * v + k
      · rw [e, upd_s, if_pos (by omega), hc, if_neg (by omega)]
      · rw [upd_n e, hc]; by_cases e2 : 160 * v ≤ j ∧ j < 160 * v + k
        · rw [if_pos e2, if_pos (by omega)]
        · rw [if_neg e2, if_neg (by omega)]
