/-- the bytes of an image, its check apart -/
def imB (x : aX) (nb ns : Nat) : Nat → Int32 := fun i => if i = 0 then x.1 / 256 else if i = 1 then x.1 - x.1 / 256 * 256 else if i = 2 then x.2.1 else if i < 3 + nb then x.2.2.2.1 (i - 3) else if i < 3 + nb + ns then x.2.2.2.2 (i - 3 - nb) else x.2.2.1 >>> (nI (i - 3 - nb - ns) &&& 31) &&& 1
def ckF (f : Nat → Int32) : Nat → Int32
  | 0 => 211
  | k + 1 => 5 * ckF f k + f k - (5 * ckF f k + f k) / 251 * 251
theorem ckF_c {f g : Nat → Int32} : ∀ n, (∀ i, i < n → f i = g i) → ckF f n = ckF g n
  | 0, _ => rfl
  | n + 1, h => by simp only [ckF]; rw [ckF_c n (fun i hi => h i (by omega)), h n (by omega)]
theorem rows_up {f g : Nat → Int32} {m : Nat} {v : Int32} (h : ∀ i, i < m → f i = g i) (hv : v = g m) : ∀ i, i < m + 1 → upd f m v i = g i := by
  intro i hi
  by_cases e : i = m
  · rw [e, upd_s, hv]
  · rw [upd_n e]; exact h i (by omega)

set_option maxRecDepth 20000 in
theorem t_image {N : Nat} {I : aI} {L : aL} {nb ns nh : Nat} (hc : CntOk I nb ns nh) : Run 0 0 0 mX9_image [.ref 0] (St N I L) (RP (some (.int (nI (3 + nb + ns + nh + 1)))) N L (fun I2 => Sm [0, 34] I I2 ∧ (∀ j, j ≠ 15 → I2 0 j = I 0 j) ∧ I2 0 15 = nI (3 + nb + ns + nh + 1) ∧ (∀ i, i < 3 + nb + ns + nh → I2 34 i = (imB (xOf I 10) nb ns) i) ∧ I2 34 (3 + nb + ns + nh) = ckF (imB (xOf I 10) nb ns) (3 + nb + ns + nh))) := by
  refine Run.of (ls := [some (.ref 0), none, none, none]) (by decide) (Nat.le_of_ble_eq_true rfl) rfl ?_
  obtain ⟨hc0, hb5, hc1, hs6, hc2, hh6, hrib⟩ := id hc
  refine Ex.aload_n (pc := 0) dX9_image_0 rfl rfl ?_
  refine Ex.getR (pc := 1) dX9_image_1 fX9_92 (sh0 _) r0_14 ?_
  refine Ex.iconst (pc := 4) (v := 0) dX9_image_4 rfl ?_
  refine Ex.aload_n (pc := 5) dX9_image_5 rfl rfl ?_
  refine Ex.getR (pc := 6) dX9_image_6 fX9_35 (sh0 _) r0_5 ?_
  refine Ex.getI (pc := 9) dX9_image_9 fX9_147 (sh10 _) ?_
  refine Ex.sipush (pc := 12) (v := 256) dX9_image_12 rfl ?_
  refine Ex.idiv (pc := 15) dX9_image_15 (by decide) ?_
  refine Ex.iast (pc := 16) (j := 0) dX9_image_16 (sh34 _) (by unfold vp_in; decide) (by decide) ?_
  refine Ex.aload_n (pc := 17) dX9_image_17 rfl rfl ?_
  refine Ex.getR (pc := 18) dX9_image_18 fX9_92 (sh0 _) r0_14 ?_
  refine Ex.iconst (pc := 21) (v := 1) dX9_image_21 rfl ?_
  refine Ex.aload_n (pc := 22) dX9_image_22 rfl rfl ?_
  refine Ex.getR (pc := 23) dX9_image_23 fX9_35 (sh0 _) r0_5 ?_
  refine Ex.getI (pc := 26) dX9_image_26 fX9_147 (sh10 _) ?_
  refine Ex.sipush (pc := 29) (v := 256) dX9_image_29 rfl ?_
  refine Ex.irem (pc := 32) dX9_image_32 (by decide) ?_
  refine Ex.iast (pc := 33) (j := 1) dX9_image_33 (sh34 _) (by unfold vp_in; decide) (by decide) ?_
  refine Ex.aload_n (pc := 34) dX9_image_34 rfl rfl ?_
  refine Ex.getR (pc := 35) dX9_image_35 fX9_92 (sh0 _) r0_14 ?_
  refine Ex.iconst (pc := 38) (v := 2) dX9_image_38 rfl ?_
  refine Ex.aload_n (pc := 39) dX9_image_39 rfl rfl ?_
  refine Ex.getR (pc := 40) dX9_image_40 fX9_35 (sh0 _) r0_5 ?_
  refine Ex.getI (pc := 43) dX9_image_43 fX9_150 (sh10 _) ?_
  refine Ex.iast (pc := 46) (j := 2) dX9_image_46 (sh34 _) (by unfold vp_in; decide) (by decide) ?_
  refine Ex.iconst (pc := 47) (v := 3) dX9_image_47 rfl ?_
  refine Ex.istore_n (pc := 48) (ls' := [some (.ref 0), some (.int 3), none, none]) dX9_image_48 rfl (by decide) rfl rfl ?_
  refine Ex.iconst (pc := 49) (v := 0) dX9_image_49 rfl ?_
  refine Ex.istore_n (pc := 50) (ls' := [some (.ref 0), some (.int 3), some (.int 0), none]) dX9_image_50 rfl (by decide) rfl rfl ?_
  refine forUp (σ := aI) (P := fun k I2 => Ex 0 0 0 mX9_image 0 0 51 [some (.ref 0), some (.int (nI (3 + k))), some (.int (nI k)), none] [] (St N I2 L) _) (Inv := fun k I2 => Sm [34] I I2 ∧ ∀ i, i < 3 + k → I2 34 i = (imB (xOf I 10) nb ns) i) nb ?_ ?_ 0 _ (Nat.zero_le _) ⟨((Sm.rf.up (by decide)).up (by decide)).up (by decide), ?_⟩
  · rintro I2 ⟨hS, hr⟩
    refine Ex.iload_n (pc := 51) dX9_image_51 rfl rfl ?_
    refine Ex.aload_n (pc := 52) dX9_image_52 rfl rfl ?_
    refine Ex.getR (pc := 53) dX9_image_53 fX9_22 (sh0 _) r0_2 ?_
    refine Ex.getR (pc := 56) dX9_image_56 fX9_144 (sh2 _) r2_0 ?_
    refine Ex.iconst (pc := 59) (v := 0) dX9_image_59 rfl ?_
    refine Ex.iald (pc := 60) (j := 0) dX9_image_60 (sh3 _) (by unfold vp_in; decide) (by decide) ?_
    refine Ex.icmp_ge (pc := 61) (tgt := 88) dX9_image_61 (by decide) (fun _ => ?_) (fun c61 => absurd (by rw [hS 3 (by decide), hc0]; exact nI_le (Nat.le_refl nb) (by omega)) c61)
    refine Ex.iconst (pc := 88) (v := 0) dX9_image_88 rfl ?_
    refine Ex.istore_n (pc := 89) (ls' := [some (.ref 0), some (.int _), some (.int 0), none]) dX9_image_89 rfl (by decide) rfl rfl ?_
    refine forUp (σ := aI) (P := fun k I2 => Ex 0 0 0 mX9_image 0 0 90 [some (.ref 0), some (.int (nI (3 + nb + k))), some (.int (nI k)), none] [] (St N I2 L) _) (Inv := fun k I2 => Sm [34] I I2 ∧ ∀ i, i < 3 + nb + k → I2 34 i = (imB (xOf I 10) nb ns) i) ns ?_ ?_ 0 _ (Nat.zero_le _) ⟨hS, hr⟩
    · rintro I2 ⟨hS, hr⟩
      refine Ex.iload_n (pc := 90) dX9_image_90 rfl rfl ?_
      refine Ex.aload_n (pc := 91) dX9_image_91 rfl rfl ?_
      refine Ex.getR (pc := 92) dX9_image_92 fX9_22 (sh0 _) r0_2 ?_
      refine Ex.getR (pc := 95) dX9_image_95 fX9_144 (sh2 _) r2_0 ?_
      refine Ex.iconst (pc := 98) (v := 1) dX9_image_98 rfl ?_
      refine Ex.iald (pc := 99) (j := 1) dX9_image_99 (sh3 _) (by unfold vp_in; decide) (by decide) ?_
      refine Ex.icmp_ge (pc := 100) (tgt := 127) dX9_image_100 (by decide) (fun _ => ?_) (fun c100 => absurd (by rw [hS 3 (by decide), hc1]; exact nI_le (Nat.le_refl ns) (by omega)) c100)
      refine Ex.iconst (pc := 127) (v := 0) dX9_image_127 rfl ?_
      refine Ex.istore_n (pc := 128) (ls' := [some (.ref 0), some (.int _), some (.int 0), none]) dX9_image_128 rfl (by decide) rfl rfl ?_
      refine forUp (σ := aI) (P := fun k I2 => Ex 0 0 0 mX9_image 0 0 129 [some (.ref 0), some (.int (nI (3 + nb + ns + k))), some (.int (nI k)), none] [] (St N I2 L) _) (Inv := fun k I2 => Sm [34] I I2 ∧ ∀ i, i < 3 + nb + ns + k → I2 34 i = (imB (xOf I 10) nb ns) i) nh ?_ ?_ 0 _ (Nat.zero_le _) ⟨hS, hr⟩
      · rintro I2 ⟨hS, hr⟩
        refine Ex.iload_n (pc := 129) dX9_image_129 rfl rfl ?_
        refine Ex.aload_n (pc := 130) dX9_image_130 rfl rfl ?_
        refine Ex.getR (pc := 131) dX9_image_131 fX9_22 (sh0 _) r0_2 ?_
        refine Ex.getR (pc := 134) dX9_image_134 fX9_144 (sh2 _) r2_0 ?_
        refine Ex.iconst (pc := 137) (v := 2) dX9_image_137 rfl ?_
        refine Ex.iald (pc := 138) (j := 2) dX9_image_138 (sh3 _) (by unfold vp_in; decide) (by decide) ?_
        refine Ex.icmp_ge (pc := 139) (tgt := 168) dX9_image_139 (by decide) (fun _ => ?_) (fun c139 => absurd (by rw [hS 3 (by decide), hc2]; exact nI_le (Nat.le_refl nh) (by omega)) c139)
        refine Ex.sipush (pc := 168) (v := 211) dX9_image_168 rfl ?_
        refine Ex.istore_n (pc := 171) (ls' := [some (.ref 0), some (.int _), some (.int 211), none]) dX9_image_171 rfl (by decide) rfl rfl ?_
        refine Ex.iconst (pc := 172) (v := 0) dX9_image_172 rfl ?_
        refine Ex.istore_n (pc := 173) (ls' := [some (.ref 0), some (.int _), some (.int 211), some (.int 0)]) dX9_image_173 rfl (by decide) rfl rfl ?_
        refine forUp (σ := Unit) (P := fun k _ => Ex 0 0 0 mX9_image 0 0 174 [some (.ref 0), some (.int (nI (3 + nb + ns + nh))), some (.int (ckF (imB (xOf I 10) nb ns) k)), some (.int (nI k))] [] (St N I2 L) _) (Inv := fun _ _ => True) (3 + nb + ns + nh) ?_ ?_ 0 () (Nat.zero_le _) trivial
        · rintro - -
          refine Ex.iload_n (pc := 174) dX9_image_174 rfl rfl ?_
          refine Ex.iload_n (pc := 175) dX9_image_175 rfl rfl ?_
          refine Ex.icmp_ge (pc := 176) (tgt := 200) dX9_image_176 (by decide) (fun _ => ?_) (fun c176 => absurd (nI_le (Nat.le_refl _) (by omega)) c176)
          refine Ex.aload_n (pc := 200) dX9_image_200 rfl rfl ?_
          refine Ex.getR (pc := 201) dX9_image_201 fX9_92 (sh0 _) r0_14 ?_
          refine Ex.iload_n (pc := 204) dX9_image_204 rfl rfl ?_
          refine Ex.iinc (pc := 205) (ls' := [some (.ref 0), some (.int _), some (.int _), some (.int _)]) dX9_image_205 rfl rfl (by decide) rfl rfl ?_
          refine Ex.iload_n (pc := 208) dX9_image_208 rfl rfl ?_
          refine Ex.iast (pc := 209) (j := (3 + nb + ns + nh)) dX9_image_209 (sh34 _) (vp_in_nI (by omega) (by decide)) (ixN2 (by omega)) ?_
          refine Ex.aload_n (pc := 210) dX9_image_210 rfl rfl ?_
          refine Ex.iload_n (pc := 211) dX9_image_211 rfl rfl ?_
          refine Ex.putI (pc := 212) dX9_image_212 fX9_96 (sh0 _) (Or.inl rfl) ⟨rfl, rfl⟩ ?_
          refine Ex.iload_n (pc := 215) dX9_image_215 rfl rfl ?_
          refine Ex.iret (pc := 216) rfl rfl rfl dX9_image_216 (Nat.le_refl _) (Nat.le_refl _) ?_
          refine ⟨_, ?_, rfl, ?_, ?_, ?_, ?_, ?_⟩
          · exact congrArg (fun z => some (Value.int z)) (nI_1 (3 + nb + ns + nh))
          · exact ((hS.tr Sm.rf (l := [0, 34]) (l2 := []) (by decide) (by decide)).up (by decide)).up (by decide)
          · intro j hj; rw [va_up_s, upd_n hj, va_up_n (by decide), hS 0 (by decide)]
          · rw [va_up_s, upd_s]; exact nI_1 (3 + nb + ns + nh)
          · intro i hi; rw [va_up_n (by decide), va_up_s, upd_n (by omega)]; exact hr i hi
          · rw [va_up_n (by decide), va_up_s, upd_s]
        · rintro k - hk - ih
          refine Ex.iload_n (pc := 174) dX9_image_174 rfl rfl ?_
          refine Ex.iload_n (pc := 175) dX9_image_175 rfl rfl ?_
          refine Ex.icmp_ge (pc := 176) (tgt := 200) dX9_image_176 (by decide) (fun c176 => absurd c176 (nI_ge hk (by omega))) (fun _ => ?_)
          refine Ex.iconst (pc := 179) (v := 5) dX9_image_179 rfl ?_
          refine Ex.iload_n (pc := 180) dX9_image_180 rfl rfl ?_
          refine Ex.imul (pc := 181) dX9_image_181 ?_
          refine Ex.aload_n (pc := 182) dX9_image_182 rfl rfl ?_
          refine Ex.getR (pc := 183) dX9_image_183 fX9_92 (sh0 _) r0_14 ?_
          refine Ex.iload_n (pc := 186) dX9_image_186 rfl rfl ?_
          refine Ex.iald (pc := 187) (j := k) dX9_image_187 (sh34 _) (vp_in_nI (by omega) (by decide)) (ixN2 (by omega)) ?_
          refine Ex.iadd (pc := 188) dX9_image_188 ?_
          refine Ex.sipush (pc := 189) (v := 251) dX9_image_189 rfl ?_
          refine Ex.irem (pc := 192) dX9_image_192 (by decide) ?_
          refine Ex.istore_n (pc := 193) (ls' := [some (.ref 0), some (.int _), some (.int _), some (.int _)]) dX9_image_193 rfl (by decide) rfl rfl ?_
          refine Ex.iinc (pc := 194) (ls' := [some (.ref 0), some (.int _), some (.int _), some (.int _)]) dX9_image_194 rfl rfl (by decide) rfl rfl ?_
          refine Ex.goto (pc := 197) (tgt := 174) dX9_image_197 (by decide) ?_
          rw [show nI k + Int32.ofInt 1 = nI (k + 1) from nI_1 k]
          refine Ex.le (ls' := [some (.ref 0), some (.int (nI (3 + nb + ns + nh))), some (.int (ckF (imB (xOf I 10) nb ns) (k + 1))), some (.int (nI (k + 1)))]) ⟨rfl, rfl, ?_, rfl, trivial⟩ (ih () trivial)
          rw [hr k hk]; rfl
      · rintro k I2 hk ⟨hS, hr⟩ ih
        refine Ex.iload_n (pc := 129) dX9_image_129 rfl rfl ?_
        refine Ex.aload_n (pc := 130) dX9_image_130 rfl rfl ?_
        refine Ex.getR (pc := 131) dX9_image_131 fX9_22 (sh0 _) r0_2 ?_
        refine Ex.getR (pc := 134) dX9_image_134 fX9_144 (sh2 _) r2_0 ?_
        refine Ex.iconst (pc := 137) (v := 2) dX9_image_137 rfl ?_
        refine Ex.iald (pc := 138) (j := 2) dX9_image_138 (sh3 _) (by unfold vp_in; decide) (by decide) ?_
        refine Ex.icmp_ge (pc := 139) (tgt := 168) dX9_image_139 (by decide) (fun c139 => absurd c139 (by rw [hS 3 (by decide), hc2]; exact nI_ge hk (by omega))) (fun _ => ?_)
        refine Ex.aload_n (pc := 142) dX9_image_142 rfl rfl ?_
        refine Ex.getR (pc := 143) dX9_image_143 fX9_92 (sh0 _) r0_14 ?_
        refine Ex.iload_n (pc := 146) dX9_image_146 rfl rfl ?_
        refine Ex.iinc (pc := 147) (ls' := [some (.ref 0), some (.int _), some (.int _), none]) dX9_image_147 rfl rfl (by decide) rfl rfl ?_
        refine Ex.aload_n (pc := 150) dX9_image_150 rfl rfl ?_
        refine Ex.getR (pc := 151) dX9_image_151 fX9_35 (sh0 _) r0_5 ?_
        refine Ex.getI (pc := 154) dX9_image_154 fX9_160 (sh10 _) ?_
        refine Ex.iload_n (pc := 157) dX9_image_157 rfl rfl ?_
        refine Ex.ishr (pc := 158) dX9_image_158 ?_
        refine Ex.iconst (pc := 159) (v := 1) dX9_image_159 rfl ?_
        refine Ex.iand (pc := 160) dX9_image_160 ?_
        refine Ex.iast (pc := 161) (j := 3 + nb + ns + k) dX9_image_161 (sh34 _) (vp_in_nI (by omega) (by decide)) (ixN2 (by omega)) ?_
        refine Ex.iinc (pc := 162) (ls' := [some (.ref 0), some (.int _), some (.int _), none]) dX9_image_162 rfl rfl (by decide) rfl rfl ?_
        refine Ex.goto (pc := 165) (tgt := 129) dX9_image_165 (by decide) ?_
        rw [show nI k + Int32.ofInt 1 = nI (k + 1) from nI_1 k, show nI (3 + nb + ns + k) + Int32.ofInt 1 = nI (3 + nb + ns + (k + 1)) from nI_1 _]
        refine ih _ ⟨hS.up (by decide), ?_⟩
        rw [va_up_s]
        exact rows_up (m := 3 + nb + ns + k) hr (by unfold imB; rw [if_neg (by omega), if_neg (by omega), if_neg (by omega), if_neg (by omega), if_neg (by omega), hS 10 (by decide), show 3 + nb + ns + k - 3 - nb - ns = k by omega]; rfl)
    · rintro k I2 hk ⟨hS, hr⟩ ih
      refine Ex.iload_n (pc := 90) dX9_image_90 rfl rfl ?_
      refine Ex.aload_n (pc := 91) dX9_image_91 rfl rfl ?_
      refine Ex.getR (pc := 92) dX9_image_92 fX9_22 (sh0 _) r0_2 ?_
      refine Ex.getR (pc := 95) dX9_image_95 fX9_144 (sh2 _) r2_0 ?_
      refine Ex.iconst (pc := 98) (v := 1) dX9_image_98 rfl ?_
      refine Ex.iald (pc := 99) (j := 1) dX9_image_99 (sh3 _) (by unfold vp_in; decide) (by decide) ?_
      refine Ex.icmp_ge (pc := 100) (tgt := 127) dX9_image_100 (by decide) (fun c100 => absurd c100 (by rw [hS 3 (by decide), hc1]; exact nI_ge hk (by omega))) (fun _ => ?_)
      refine Ex.aload_n (pc := 103) dX9_image_103 rfl rfl ?_
      refine Ex.getR (pc := 104) dX9_image_104 fX9_92 (sh0 _) r0_14 ?_
      refine Ex.iload_n (pc := 107) dX9_image_107 rfl rfl ?_
      refine Ex.iinc (pc := 108) (ls' := [some (.ref 0), some (.int _), some (.int _), none]) dX9_image_108 rfl rfl (by decide) rfl rfl ?_
      refine Ex.aload_n (pc := 111) dX9_image_111 rfl rfl ?_
      refine Ex.getR (pc := 112) dX9_image_112 fX9_35 (sh0 _) r0_5 ?_
      refine Ex.getR (pc := 115) dX9_image_115 fX9_192 (sh10 _) r10_5 ?_
      refine Ex.iload_n (pc := 118) dX9_image_118 rfl rfl ?_
      refine Ex.iald (pc := 119) (j := k) dX9_image_119 (sh12 _) (vp_in_nI (by omega) (by decide)) (ixN2 (by omega)) ?_
      refine Ex.iast (pc := 120) (j := 3 + nb + k) dX9_image_120 (sh34 _) (vp_in_nI (by omega) (by decide)) (ixN2 (by omega)) ?_
      refine Ex.iinc (pc := 121) (ls' := [some (.ref 0), some (.int _), some (.int _), none]) dX9_image_121 rfl rfl (by decide) rfl rfl ?_
      refine Ex.goto (pc := 124) (tgt := 90) dX9_image_124 (by decide) ?_
      rw [show nI k + Int32.ofInt 1 = nI (k + 1) from nI_1 k, show nI (3 + nb + k) + Int32.ofInt 1 = nI (3 + nb + (k + 1)) from nI_1 _]
      refine ih _ ⟨hS.up (by decide), ?_⟩
      rw [va_up_s]
      exact rows_up (m := 3 + nb + k) hr (by unfold imB; rw [if_neg (by omega), if_neg (by omega), if_neg (by omega), if_neg (by omega), if_pos (by omega), hS 12 (by decide), show 3 + nb + k - 3 - nb = k by omega]; rfl)
  · rintro k I2 hk ⟨hS, hr⟩ ih
    refine Ex.iload_n (pc := 51) dX9_image_51 rfl rfl ?_
    refine Ex.aload_n (pc := 52) dX9_image_52 rfl rfl ?_
    refine Ex.getR (pc := 53) dX9_image_53 fX9_22 (sh0 _) r0_2 ?_
    refine Ex.getR (pc := 56) dX9_image_56 fX9_144 (sh2 _) r2_0 ?_
    refine Ex.iconst (pc := 59) (v := 0) dX9_image_59 rfl ?_
    refine Ex.iald (pc := 60) (j := 0) dX9_image_60 (sh3 _) (by unfold vp_in; decide) (by decide) ?_
    refine Ex.icmp_ge (pc := 61) (tgt := 88) dX9_image_61 (by decide) (fun c61 => absurd c61 (by rw [hS 3 (by decide), hc0]; exact nI_ge hk (by omega))) (fun _ => ?_)
    refine Ex.aload_n (pc := 64) dX9_image_64 rfl rfl ?_
    refine Ex.getR (pc := 65) dX9_image_65 fX9_92 (sh0 _) r0_14 ?_
    refine Ex.iload_n (pc := 68) dX9_image_68 rfl rfl ?_
    refine Ex.iinc (pc := 69) (ls' := [some (.ref 0), some (.int _), some (.int _), none]) dX9_image_69 rfl rfl (by decide) rfl rfl ?_
    refine Ex.aload_n (pc := 72) dX9_image_72 rfl rfl ?_
    refine Ex.getR (pc := 73) dX9_image_73 fX9_35 (sh0 _) r0_5 ?_
    refine Ex.getR (pc := 76) dX9_image_76 fX9_179 (sh10 _) r10_4 ?_
    refine Ex.iload_n (pc := 79) dX9_image_79 rfl rfl ?_
    refine Ex.iald (pc := 80) (j := k) dX9_image_80 (sh11 _) (vp_in_nI (by omega) (by decide)) (ixN2 (by omega)) ?_
    refine Ex.iast (pc := 81) (j := 3 + k) dX9_image_81 (sh34 _) (vp_in_nI (by omega) (by decide)) (ixN2 (by omega)) ?_
    refine Ex.iinc (pc := 82) (ls' := [some (.ref 0), some (.int _), some (.int _), none]) dX9_image_82 rfl rfl (by decide) rfl rfl ?_
    refine Ex.goto (pc := 85) (tgt := 51) dX9_image_85 (by decide) ?_
    rw [show nI k + Int32.ofInt 1 = nI (k + 1) from nI_1 k, show nI (3 + k) + Int32.ofInt 1 = nI (3 + (k + 1)) from nI_1 _]
    refine ih _ ⟨hS.up (by decide), ?_⟩
    rw [va_up_s]
    exact rows_up (m := 3 + k) hr (by unfold imB; rw [if_neg (by omega), if_neg (by omega), if_neg (by omega), if_pos (by omega), hS 11 (by decide), show 3 + k - 3 = k by omega]; rfl)
  · intro i hi
    rcases (show i = 0 ∨ i = 1 ∨ i = 2 by omega) with rfl | rfl | rfl <;> simp [va_up, upd, imB, xOf]
def imM (f6 : Nat → Int32) (nb ns j : Nat) : Int32 := if j < nb then f6 j else if j < nb + ns then 99 else 1
set_option maxRecDepth 20000 in
theorem t_imageMost {N : Nat} {I : aI} {L : aL} {j nb ns : Nat} (hj : j < 20) (hb : nb ≤ 5) (hs : ns ≤ 6) : Run 1 0 0 mX9_imageMost [.ref 0, .int (nI j), .int (nI nb), .int (nI ns)] (St N I L) (RI (imM (I 6) nb ns j) (St N I L)) := by
  refine Run.of (ls := [some (.ref 0), some (.int _), some (.int _), some (.int _)]) (by decide) (Nat.le_of_ble_eq_true rfl) rfl ?_
  by_cases h1 : j < nb
  · skip
    refine Ex.iload_n (pc := 0) dX9_imageMost_0 rfl rfl ?_
    refine Ex.iload_n (pc := 1) dX9_imageMost_1 rfl rfl ?_
    refine Ex.icmp_ge (pc := 2) (tgt := 14) dX9_imageMost_2 (by decide) (fun c2 => absurd c2 (nI_ge h1 (by omega))) (fun _ => ?_)
    refine Ex.aload_n (pc := 5) dX9_imageMost_5 rfl rfl ?_
    refine Ex.getR (pc := 6) dX9_imageMost_6 fX9_22 (sh0 _) r0_2 ?_
    refine Ex.iload_n (pc := 9) dX9_imageMost_9 rfl rfl ?_
    refine Ex.callV (pc := 10) (As := [.int _]) (rest := []) dX9_imageMost_10 cX9_302 (t_zincTold (j := j) (by omega)) (sh2 _) rfl rfl (by decide) (Nat.le_refl _) (Nat.le_refl _) (Nat.le_of_ble_eq_true rfl) (Or.inl (fun r S' h => by obtain ⟨_, h⟩ := h; subst h; rfl)) (fun r S' hq _ _ => ?_)
    obtain ⟨rfl, rfl⟩ := hq
    refine Ex.iret (pc := 13) rfl rfl rfl dX9_imageMost_13 (Nat.le_refl _) (Nat.le_refl _) ?_
    exact ⟨by unfold imM; rw [if_pos h1, Nat.zero_add], rfl⟩
  · by_cases h2 : j < nb + ns
    · skip
      refine Ex.iload_n (pc := 0) dX9_imageMost_0 rfl rfl ?_
      refine Ex.iload_n (pc := 1) dX9_imageMost_1 rfl rfl ?_
      refine Ex.icmp_ge (pc := 2) (tgt := 14) dX9_imageMost_2 (by decide) (fun _ => ?_) (fun c2 => absurd (nI_le (by omega) (by omega)) c2)
      refine Ex.iload_n (pc := 14) dX9_imageMost_14 rfl rfl ?_
      refine Ex.iload_n (pc := 15) dX9_imageMost_15 rfl rfl ?_
      refine Ex.iload_n (pc := 16) dX9_imageMost_16 rfl rfl ?_
      refine Ex.iadd (pc := 17) dX9_imageMost_17 ?_
      refine Ex.icmp_ge (pc := 18) (tgt := 26) dX9_imageMost_18 (by decide) (fun c18 => absurd c18 (by rw [nI_add]; exact nI_ge h2 (by omega))) (fun _ => ?_)
      refine Ex.bipush (pc := 21) (v := 99) dX9_imageMost_21 rfl ?_
      refine Ex.goto (pc := 23) (tgt := 27) dX9_imageMost_23 (by decide) ?_
      refine Ex.iret (pc := 27) rfl rfl rfl dX9_imageMost_27 (Nat.le_refl _) (Nat.le_refl _) ?_
      exact ⟨by unfold imM; rw [if_neg h1, if_pos h2], rfl⟩
    · skip
      refine Ex.iload_n (pc := 0) dX9_imageMost_0 rfl rfl ?_
      refine Ex.iload_n (pc := 1) dX9_imageMost_1 rfl rfl ?_
      refine Ex.icmp_ge (pc := 2) (tgt := 14) dX9_imageMost_2 (by decide) (fun _ => ?_) (fun c2 => absurd (nI_le (by omega) (by omega)) c2)
      refine Ex.iload_n (pc := 14) dX9_imageMost_14 rfl rfl ?_
      refine Ex.iload_n (pc := 15) dX9_imageMost_15 rfl rfl ?_
      refine Ex.iload_n (pc := 16) dX9_imageMost_16 rfl rfl ?_
      refine Ex.iadd (pc := 17) dX9_imageMost_17 ?_
      refine Ex.icmp_ge (pc := 18) (tgt := 26) dX9_imageMost_18 (by decide) (fun _ => ?_) (fun c18 => absurd (by rw [nI_add]; exact nI_le (by omega) (by omega)) c18)
      refine Ex.iconst (pc := 26) (v := 1) dX9_imageMost_26 rfl ?_
      refine Ex.iret (pc := 27) rfl rfl rfl dX9_imageMost_27 (Nat.le_refl _) (Nat.le_refl _) ?_
      exact ⟨by unfold imM; rw [if_neg h1, if_neg h2], rfl⟩
def tbF (I : aI) : Nat → Int32 := fun i => I 1 i &&& 255
def gdF (g0 : Bool) (tb mx : Nat → Int32) : Nat → Bool
  | 0 => g0
  | k + 1 => if k < 3 then gdF g0 tb mx k else gdF g0 tb mx k && !decide (mx (k - 3) < tb k)
def g0F (tb : Nat → Int32) : Bool := !decide (999 < tb 0 * 256 + tb 1) && !decide (99 < tb 2)
/-- whether t bytes of the tape are an image -/
def isIm (tb f6 : Nat → Int32) (nb ns nh t : Nat) : Bool := decide (t = 3 + nb + ns + nh + 1) && (gdF (g0F tb) tb (imM f6 nb ns) (t - 1) && decide (tb (t - 1) = ckF tb (t - 1)))
theorem bI_and {a : Bool} {x : Int32} (h : ¬ bI a = 0) : a = true := bI_1 h

set_option maxRecDepth 20000 in
theorem t_isImage {N : Nat} {I : aI} {L : aL} {nb ns nh : Nat} (hc : CntOk I nb ns nh) {t : Nat} (ht : t ≤ 1600) : Run 2 0 0 mX9_isImage [.ref 0, .int (nI t)] (St N I L) (RI (bI (isIm (tbF I) (I 6) nb ns nh t)) (St N I L)) := by
  refine Run.of (ls := [some (.ref 0), some (.int _), none, none, none, none, none]) (by decide) (Nat.le_of_ble_eq_true rfl) rfl ?_
  obtain ⟨hc0, hb5, hc1, hs6, hc2, hh6, hrib⟩ := id hc
  by_cases hsz : t = 3 + nb + ns + nh + 1
  · skip
    have hloop : Ex 2 0 0 mX9_isImage 0 0 89 [some (.ref 0), some (.int (nI t)), some (.int (nI nb)), some (.int (nI ns)), some (.int (bI (g0F (tbF I)))), some (.int 211), some (.int (nI 0))] [] (St N I L) (RI (bI (isIm (tbF I) (I 6) nb ns nh t)) (St N I L)) := by
      refine forUp (σ := Unit) (P := fun k _ => Ex 2 0 0 mX9_isImage 0 0 89 [some (.ref 0), some (.int (nI t)), some (.int (nI nb)), some (.int (nI ns)), some (.int (bI (gdF (g0F (tbF I)) (tbF I) (imM (I 6) nb ns) k))), some (.int (ckF (tbF I) k)), some (.int (nI k))] [] (St N I L) _) (Inv := fun _ _ => True) (t - 1) ?_ ?_ 0 () (Nat.zero_le _) trivial
      · rintro - -
        refine Ex.iload (pc := 89) dX9_isImage_89 rfl ?_
        refine Ex.iload_n (pc := 91) dX9_isImage_91 rfl rfl ?_
        refine Ex.iconst (pc := 92) (v := 1) dX9_isImage_92 rfl ?_
        refine Ex.isub (pc := 93) dX9_isImage_93 ?_
        refine Ex.icmp_ge (pc := 94) (tgt := 157) dX9_isImage_94 (by decide) (fun _ => ?_) (fun c94 => absurd (by rw [show nI t - 1 = nI (t - 1) from pk_sub (b := 1) (by omega)]; exact nI_le (Nat.le_refl _) (by omega)) c94)
        refine Ex.iload (pc := 157) dX9_isImage_157 rfl ?_
        refine Ex.if_eq (pc := 159) (tgt := 178) dX9_isImage_159 (by decide) (fun c159 => ?_) (fun c159 => ?_)
        · skip
          refine Ex.iconst (pc := 178) (v := 0) dX9_isImage_178 rfl ?_
          refine Ex.iret (pc := 179) rfl rfl rfl dX9_isImage_179 (Nat.le_refl _) (Nat.le_refl _) ?_
          refine ⟨congrArg (fun z => some (Value.int z)) ?_, rfl⟩
          unfold isIm
          rw [bI_0 c159, Bool.false_and, Bool.and_false]; rfl
        · skip
          refine Ex.aload_n (pc := 162) dX9_isImage_162 rfl rfl ?_
          refine Ex.iload_n (pc := 163) dX9_isImage_163 rfl rfl ?_
          refine Ex.iconst (pc := 164) (v := 1) dX9_isImage_164 rfl ?_
          refine Ex.isub (pc := 165) dX9_isImage_165 ?_
          rw [show nI t - 1 = nI (t - 1) from pk_sub (b := 1) (by omega)]
          refine Ex.callV (pc := 166) (As := [.int _]) (rest := []) dX9_isImage_166 cX9_330 (t_tapeByte (j := t - 1) (by omega)) (sh0 _) rfl rfl (by decide) (Nat.le_refl _) (Nat.le_refl _) (Nat.le_of_ble_eq_true rfl) (Or.inl (fun r S' h => by obtain ⟨_, h⟩ := h; subst h; rfl)) (fun r S' hq _ _ => ?_)
          obtain ⟨rfl, rfl⟩ := hq
          refine Ex.iload (pc := 169) dX9_isImage_169 rfl ?_
          refine Ex.icmp_ne (pc := 171) (tgt := 178) dX9_isImage_171 (by decide) (fun c171 => ?_) (fun c171 => ?_)
          · skip
            refine Ex.iconst (pc := 178) (v := 0) dX9_isImage_178 rfl ?_
            refine Ex.iret (pc := 179) rfl rfl rfl dX9_isImage_179 (Nat.le_refl _) (Nat.le_refl _) ?_
            refine ⟨congrArg (fun z => some (Value.int z)) ?_, rfl⟩
            unfold isIm
            rw [bI_1 c159, decide_eq_false (show ¬ tbF I (t - 1) = ckF (tbF I) (t - 1) from c171)]; simp [bI]
          · skip
            refine Ex.iconst (pc := 174) (v := 1) dX9_isImage_174 rfl ?_
            refine Ex.goto (pc := 175) (tgt := 179) dX9_isImage_175 (by decide) ?_
            refine Ex.iret (pc := 179) rfl rfl rfl dX9_isImage_179 (Nat.le_refl _) (Nat.le_refl _) ?_
            refine ⟨congrArg (fun z => some (Value.int z)) ?_, rfl⟩
            unfold isIm
            rw [bI_1 c159, decide_eq_true (show tbF I (t - 1) = ckF (tbF I) (t - 1) from c171), decide_eq_true hsz]; rfl
      · rintro k - hk - ih
        refine Ex.iload (pc := 89) dX9_isImage_89 rfl ?_
        refine Ex.iload_n (pc := 91) dX9_isImage_91 rfl rfl ?_
        refine Ex.iconst (pc := 92) (v := 1) dX9_isImage_92 rfl ?_
        refine Ex.isub (pc := 93) dX9_isImage_93 ?_
        refine Ex.icmp_ge (pc := 94) (tgt := 157) dX9_isImage_94 (by decide) (fun c94 => absurd c94 (by rw [show nI t - 1 = nI (t - 1) from pk_sub (b := 1) (by omega)]; exact nI_ge hk (by omega))) (fun _ => ?_)
        refine Ex.iconst (pc := 97) (v := 5) dX9_isImage_97 rfl ?_
        refine Ex.iload (pc := 98) dX9_isImage_98 rfl ?_
        refine Ex.imul (pc := 100) dX9_isImage_100 ?_
        refine Ex.aload_n (pc := 101) dX9_isImage_101 rfl rfl ?_
        refine Ex.iload (pc := 102) dX9_isImage_102 rfl ?_
        refine Ex.callV (pc := 104) (As := [.int _]) (rest := [.int _]) dX9_isImage_104 cX9_330 (t_tapeByte (j := k) (by omega)) (sh0 _) rfl rfl (by decide) (Nat.le_refl _) (Nat.le_refl _) (Nat.le_of_ble_eq_true rfl) (Or.inl (fun r S' h => by obtain ⟨_, h⟩ := h; subst h; rfl)) (fun r S' hq _ _ => ?_)
        obtain ⟨rfl, rfl⟩ := hq
        refine Ex.iadd (pc := 107) dX9_isImage_107 ?_
        refine Ex.sipush (pc := 108) (v := 251) dX9_isImage_108 rfl ?_
        refine Ex.irem (pc := 111) dX9_isImage_111 (by decide) ?_
        refine Ex.istore (pc := 112) (ls' := [some (.ref 0), some (.int _), some (.int _), some (.int _), some (.int _), some (.int _), some (.int _)]) dX9_isImage_112 (by decide) rfl rfl ?_
        refine Ex.iload (pc := 114) dX9_isImage_114 rfl ?_
        refine Ex.iconst (pc := 116) (v := 3) dX9_isImage_116 rfl ?_
        refine Ex.icmp_lt (pc := 117) (tgt := 151) dX9_isImage_117 (by decide) (fun c117 => ?_) (fun c117 => ?_)
        · skip
          refine Ex.iinc (pc := 151) (ls' := [some (.ref 0), some (.int _), some (.int _), some (.int _), some (.int _), some (.int _), some (.int _)]) dX9_isImage_151 rfl rfl (by decide) rfl rfl ?_
          refine Ex.goto (pc := 154) (tgt := 89) dX9_isImage_154 (by decide) ?_
          have hk3 : k < 3 := by rcases Nat.lt_or_ge k 3 with q | q; exact q; exact absurd c117 (nI_nlt (b := 3) q (by omega))
          rw [show nI k + Int32.ofInt 1 = nI (k + 1) from nI_1 k]
          refine Ex.le (ls' := [some (.ref 0), some (.int (nI t)), some (.int (nI nb)), some (.int (nI ns)), some (.int (bI (gdF (g0F (tbF I)) (tbF I) (imM (I 6) nb ns) (k + 1)))), some (.int (ckF (tbF I) (k + 1))), some (.int (nI (k + 1)))]) ⟨rfl, rfl, rfl, rfl, ?_, rfl, rfl, trivial⟩ (ih () trivial)
          refine congrArg Value.int ?_
          simp only [gdF]
          rw [if_pos hk3]
        · skip
          refine Ex.iload (pc := 120) dX9_isImage_120 rfl ?_
          refine Ex.if_eq (pc := 122) (tgt := 148) dX9_isImage_122 (by decide) (fun c122 => ?_) (fun c122 => ?_)
          · skip
            refine Ex.iconst (pc := 148) (v := 0) dX9_isImage_148 rfl ?_
            refine Ex.istore (pc := 149) (ls' := [some (.ref 0), some (.int _), some (.int _), some (.int _), some (.int 0), some (.int _), some (.int _)]) dX9_isImage_149 (by decide) rfl rfl ?_
            refine Ex.iinc (pc := 151) (ls' := [some (.ref 0), some (.int _), some (.int _), some (.int _), some (.int 0), some (.int _), some (.int _)]) dX9_isImage_151 rfl rfl (by decide) rfl rfl ?_
            refine Ex.goto (pc := 154) (tgt := 89) dX9_isImage_154 (by decide) ?_
            have hk3 : ¬ k < 3 := fun q => c117 (nI_lt (b := 3) q (by decide))
            rw [show nI k + Int32.ofInt 1 = nI (k + 1) from nI_1 k]
            refine Ex.le (ls' := [some (.ref 0), some (.int (nI t)), some (.int (nI nb)), some (.int (nI ns)), some (.int (bI (gdF (g0F (tbF I)) (tbF I) (imM (I 6) nb ns) (k + 1)))), some (.int (ckF (tbF I) (k + 1))), some (.int (nI (k + 1)))]) ⟨rfl, rfl, rfl, rfl, ?_, rfl, rfl, trivial⟩ (ih () trivial)
            refine congrArg Value.int ?_
            simp only [gdF]
            rw [if_neg hk3, bI_0 c122]; rfl
          · skip
            refine Ex.aload_n (pc := 125) dX9_isImage_125 rfl rfl ?_
            refine Ex.iload (pc := 126) dX9_isImage_126 rfl ?_
            refine Ex.callV (pc := 128) (As := [.int _]) (rest := []) dX9_isImage_128 cX9_330 (t_tapeByte (j := k) (by omega)) (sh0 _) rfl rfl (by decide) (Nat.le_refl _) (Nat.le_refl _) (Nat.le_of_ble_eq_true rfl) (Or.inl (fun r S' h => by obtain ⟨_, h⟩ := h; subst h; rfl)) (fun r S' hq _ _ => ?_)
            obtain ⟨rfl, rfl⟩ := hq
            refine Ex.aload_n (pc := 131) dX9_isImage_131 rfl rfl ?_
            refine Ex.iload (pc := 132) dX9_isImage_132 rfl ?_
            refine Ex.iconst (pc := 134) (v := 3) dX9_isImage_134 rfl ?_
            refine Ex.isub (pc := 135) dX9_isImage_135 ?_
            refine Ex.iload_n (pc := 136) dX9_isImage_136 rfl rfl ?_
            refine Ex.iload_n (pc := 137) dX9_isImage_137 rfl rfl ?_
            rw [show nI k - 3 = nI (k - 3) from pk_sub (b := 3) (by rcases Nat.lt_or_ge k 3 with q | q; exact absurd (nI_lt (b := 3) q (by decide)) c117; exact q)]
            refine Ex.callV (pc := 138) (As := [.int _, .int _, .int _]) (rest := [.int _]) dX9_isImage_138 cX9_333 (t_imageMost (j := k - 3) (nb := nb) (ns := ns) (by omega) hb5 hs6) (sh0 _) rfl rfl (by decide) (Nat.le_refl _) (Nat.le_refl _) (Nat.le_of_ble_eq_true rfl) (Or.inl (fun r S' h => by obtain ⟨_, h⟩ := h; subst h; rfl)) (fun r S' hq _ _ => ?_)
            obtain ⟨rfl, rfl⟩ := hq
            refine Ex.icmp_gt (pc := 141) (tgt := 148) dX9_isImage_141 (by decide) (fun c141 => ?_) (fun c141 => ?_)
            · skip
              refine Ex.iconst (pc := 148) (v := 0) dX9_isImage_148 rfl ?_
              refine Ex.istore (pc := 149) (ls' := [some (.ref 0), some (.int _), some (.int _), some (.int _), some (.int 0), some (.int _), some (.int _)]) dX9_isImage_149 (by decide) rfl rfl ?_
              refine Ex.iinc (pc := 151) (ls' := [some (.ref 0), some (.int _), some (.int _), some (.int _), some (.int 0), some (.int _), some (.int _)]) dX9_isImage_151 rfl rfl (by decide) rfl rfl ?_
              refine Ex.goto (pc := 154) (tgt := 89) dX9_isImage_154 (by decide) ?_
              have hk3 : ¬ k < 3 := fun q => c117 (nI_lt (b := 3) q (by decide))
              rw [show nI k + Int32.ofInt 1 = nI (k + 1) from nI_1 k]
              refine Ex.le (ls' := [some (.ref 0), some (.int (nI t)), some (.int (nI nb)), some (.int (nI ns)), some (.int (bI (gdF (g0F (tbF I)) (tbF I) (imM (I 6) nb ns) (k + 1)))), some (.int (ckF (tbF I) (k + 1))), some (.int (nI (k + 1)))]) ⟨rfl, rfl, rfl, rfl, ?_, rfl, rfl, trivial⟩ (ih () trivial)
              refine congrArg Value.int ?_
              simp only [gdF]
              rw [if_neg hk3, bI_1 c122, decide_eq_true (show imM (I 6) nb ns (k - 3) < tbF I k from c141)]; rfl
            · skip
              refine Ex.iconst (pc := 144) (v := 1) dX9_isImage_144 rfl ?_
              refine Ex.goto (pc := 145) (tgt := 149) dX9_isImage_145 (by decide) ?_
              refine Ex.istore (pc := 149) (ls' := [some (.ref 0), some (.int _), some (.int _), some (.int _), some (.int 1), some (.int _), some (.int _)]) dX9_isImage_149 (by decide) rfl rfl ?_
              refine Ex.iinc (pc := 151) (ls' := [some (.ref 0), some (.int _), some (.int _), some (.int _), some (.int 1), some (.int _), some (.int _)]) dX9_isImage_151 rfl rfl (by decide) rfl rfl ?_
              refine Ex.goto (pc := 154) (tgt := 89) dX9_isImage_154 (by decide) ?_
              have hk3 : ¬ k < 3 := fun q => c117 (nI_lt (b := 3) q (by decide))
              rw [show nI k + Int32.ofInt 1 = nI (k + 1) from nI_1 k]
              refine Ex.le (ls' := [some (.ref 0), some (.int (nI t)), some (.int (nI nb)), some (.int (nI ns)), some (.int (bI (gdF (g0F (tbF I)) (tbF I) (imM (I 6) nb ns) (k + 1)))), some (.int (ckF (tbF I) (k + 1))), some (.int (nI (k + 1)))]) ⟨rfl, rfl, rfl, rfl, ?_, rfl, rfl, trivial⟩ (ih () trivial)
              refine congrArg Value.int ?_
              simp only [gdF]
              rw [if_neg hk3, bI_1 c122, decide_eq_false (show ¬ imM (I 6) nb ns (k - 3) < tbF I k from c141)]; rfl
    refine Ex.aload_n (pc := 0) dX9_isImage_0 rfl rfl ?_
    refine Ex.getR (pc := 1) dX9_isImage_1 fX9_22 (sh0 _) r0_2 ?_
    refine Ex.getR (pc := 4) dX9_isImage_4 fX9_144 (sh2 _) r2_0 ?_
    refine Ex.iconst (pc := 7) (v := 0) dX9_isImage_7 rfl ?_
    refine Ex.iald (pc := 8) (j := 0) dX9_isImage_8 (sh3 _) (by unfold vp_in; decide) (by decide) ?_
    refine Ex.istore_n (pc := 9) (ls' := [some (.ref 0), some (.int _), some (.int _), none, none, none, none]) dX9_isImage_9 rfl (by decide) rfl rfl ?_
    refine Ex.aload_n (pc := 10) dX9_isImage_10 rfl rfl ?_
    refine Ex.getR (pc := 11) dX9_isImage_11 fX9_22 (sh0 _) r0_2 ?_
    refine Ex.getR (pc := 14) dX9_isImage_14 fX9_144 (sh2 _) r2_0 ?_
    refine Ex.iconst (pc := 17) (v := 1) dX9_isImage_17 rfl ?_
    refine Ex.iald (pc := 18) (j := 1) dX9_isImage_18 (sh3 _) (by unfold vp_in; decide) (by decide) ?_
    refine Ex.istore_n (pc := 19) (ls' := [some (.ref 0), some (.int _), some (.int _), some (.int _), none, none, none]) dX9_isImage_19 rfl (by decide) rfl rfl ?_
    rw [hc0, hc1]
    refine Ex.iload_n (pc := 20) dX9_isImage_20 rfl rfl ?_
    refine Ex.iconst (pc := 21) (v := 3) dX9_isImage_21 rfl ?_
    refine Ex.iload_n (pc := 22) dX9_isImage_22 rfl rfl ?_
    refine Ex.iadd (pc := 23) dX9_isImage_23 ?_
    refine Ex.iload_n (pc := 24) dX9_isImage_24 rfl rfl ?_
    refine Ex.iadd (pc := 25) dX9_isImage_25 ?_
    refine Ex.aload_n (pc := 26) dX9_isImage_26 rfl rfl ?_
    refine Ex.getR (pc := 27) dX9_isImage_27 fX9_22 (sh0 _) r0_2 ?_
    refine Ex.getR (pc := 30) dX9_isImage_30 fX9_144 (sh2 _) r2_0 ?_
    refine Ex.iconst (pc := 33) (v := 2) dX9_isImage_33 rfl ?_
    refine Ex.iald (pc := 34) (j := 2) dX9_isImage_34 (sh3 _) (by unfold vp_in; decide) (by decide) ?_
    refine Ex.iadd (pc := 35) dX9_isImage_35 ?_
    refine Ex.iconst (pc := 36) (v := 1) dX9_isImage_36 rfl ?_
    refine Ex.iadd (pc := 37) dX9_isImage_37 ?_
    refine Ex.icmp_eq (pc := 38) (tgt := 43) dX9_isImage_38 (by decide) (fun _ => ?_) (fun c38 => absurd (by rw [hc2, show 3 + nI nb + nI ns + nI nh + 1 = nI (3 + nb + ns + nh + 1) from by rw [show (3 : Int32) + nI nb = nI (3 + nb) from nI_add 3 nb, nI_add, nI_add]; exact nI_add _ 1, hsz]) c38)
    refine Ex.aload_n (pc := 43) dX9_isImage_43 rfl rfl ?_
    refine Ex.iconst (pc := 44) (v := 0) dX9_isImage_44 rfl ?_
    refine Ex.callV (pc := 45) (As := [.int 0]) (rest := []) dX9_isImage_45 cX9_330 (t_tapeByte (j := 0) (by decide)) (sh0 _) rfl rfl (by decide) (Nat.le_refl _) (Nat.le_refl _) (Nat.le_of_ble_eq_true rfl) (Or.inl (fun r S' h => by obtain ⟨_, h⟩ := h; subst h; rfl)) (fun r S' hq _ _ => ?_)
    obtain ⟨rfl, rfl⟩ := hq
    refine Ex.sipush (pc := 48) (v := 256) dX9_isImage_48 rfl ?_
    refine Ex.imul (pc := 51) dX9_isImage_51 ?_
    refine Ex.aload_n (pc := 52) dX9_isImage_52 rfl rfl ?_
    refine Ex.iconst (pc := 53) (v := 1) dX9_isImage_53 rfl ?_
    refine Ex.callV (pc := 54) (As := [.int 1]) (rest := [.int _]) dX9_isImage_54 cX9_330 (t_tapeByte (j := 1) (by decide)) (sh0 _) rfl rfl (by decide) (Nat.le_refl _) (Nat.le_refl _) (Nat.le_of_ble_eq_true rfl) (Or.inl (fun r S' h => by obtain ⟨_, h⟩ := h; subst h; rfl)) (fun r S' hq _ _ => ?_)
    obtain ⟨rfl, rfl⟩ := hq
    refine Ex.iadd (pc := 57) dX9_isImage_57 ?_
    refine Ex.sipush (pc := 58) (v := 999) dX9_isImage_58 rfl ?_
    refine Ex.icmp_gt (pc := 61) (tgt := 78) dX9_isImage_61 (by decide) (fun c61 => ?_) (fun c61 => ?_)
    · skip
      refine Ex.iconst (pc := 78) (v := 0) dX9_isImage_78 rfl ?_
      refine Ex.istore (pc := 79) (ls' := [some (.ref 0), some (.int _), some (.int _), some (.int _), some (.int 0), none, none]) dX9_isImage_79 (by decide) rfl rfl ?_
      refine Ex.sipush (pc := 81) (v := 211) dX9_isImage_81 rfl ?_
      refine Ex.istore (pc := 84) (ls' := [some (.ref 0), some (.int _), some (.int _), some (.int _), some (.int 0), some (.int 211), none]) dX9_isImage_84 (by decide) rfl rfl ?_
      refine Ex.iconst (pc := 86) (v := 0) dX9_isImage_86 rfl ?_
      refine Ex.istore (pc := 87) (ls' := [some (.ref 0), some (.int _), some (.int _), some (.int _), some (.int 0), some (.int 211), some (.int 0)]) dX9_isImage_87 (by decide) rfl rfl ?_
      have hg0 : g0F (tbF I) = false := by unfold g0F tbF; simp [c61]
      refine Ex.le (ls' := [some (.ref 0), some (.int (nI t)), some (.int (nI nb)), some (.int (nI ns)), some (.int (bI (g0F (tbF I)))), some (.int 211), some (.int (nI 0))]) ⟨rfl, rfl, rfl, rfl, by rw [hg0]; rfl, rfl, rfl, trivial⟩ hloop
    · skip
      refine Ex.aload_n (pc := 64) dX9_isImage_64 rfl rfl ?_
      refine Ex.iconst (pc := 65) (v := 2) dX9_isImage_65 rfl ?_
      refine Ex.callV (pc := 66) (As := [.int 2]) (rest := []) dX9_isImage_66 cX9_330 (t_tapeByte (j := 2) (by decide)) (sh0 _) rfl rfl (by decide) (Nat.le_refl _) (Nat.le_refl _) (Nat.le_of_ble_eq_true rfl) (Or.inl (fun r S' h => by obtain ⟨_, h⟩ := h; subst h; rfl)) (fun r S' hq _ _ => ?_)
      obtain ⟨rfl, rfl⟩ := hq
      refine Ex.bipush (pc := 69) (v := 99) dX9_isImage_69 rfl ?_
      refine Ex.icmp_gt (pc := 71) (tgt := 78) dX9_isImage_71 (by decide) (fun c71 => ?_) (fun c71 => ?_)
      · skip
        refine Ex.iconst (pc := 78) (v := 0) dX9_isImage_78 rfl ?_
        refine Ex.istore (pc := 79) (ls' := [some (.ref 0), some (.int _), some (.int _), some (.int _), some (.int 0), none, none]) dX9_isImage_79 (by decide) rfl rfl ?_
        refine Ex.sipush (pc := 81) (v := 211) dX9_isImage_81 rfl ?_
        refine Ex.istore (pc := 84) (ls' := [some (.ref 0), some (.int _), some (.int _), some (.int _), some (.int 0), some (.int 211), none]) dX9_isImage_84 (by decide) rfl rfl ?_
        refine Ex.iconst (pc := 86) (v := 0) dX9_isImage_86 rfl ?_
        refine Ex.istore (pc := 87) (ls' := [some (.ref 0), some (.int _), some (.int _), some (.int _), some (.int 0), some (.int 211), some (.int 0)]) dX9_isImage_87 (by decide) rfl rfl ?_
        have hg0 : g0F (tbF I) = false := by unfold g0F tbF; simp [c71]
        refine Ex.le (ls' := [some (.ref 0), some (.int (nI t)), some (.int (nI nb)), some (.int (nI ns)), some (.int (bI (g0F (tbF I)))), some (.int 211), some (.int (nI 0))]) ⟨rfl, rfl, rfl, rfl, by rw [hg0]; rfl, rfl, rfl, trivial⟩ hloop
      · skip
        refine Ex.iconst (pc := 74) (v := 1) dX9_isImage_74 rfl ?_
        refine Ex.goto (pc := 75) (tgt := 79) dX9_isImage_75 (by decide) ?_
        refine Ex.istore (pc := 79) (ls' := [some (.ref 0), some (.int _), some (.int _), some (.int _), some (.int 1), none, none]) dX9_isImage_79 (by decide) rfl rfl ?_
        refine Ex.sipush (pc := 81) (v := 211) dX9_isImage_81 rfl ?_
        refine Ex.istore (pc := 84) (ls' := [some (.ref 0), some (.int _), some (.int _), some (.int _), some (.int 1), some (.int 211), none]) dX9_isImage_84 (by decide) rfl rfl ?_
        refine Ex.iconst (pc := 86) (v := 0) dX9_isImage_86 rfl ?_
        refine Ex.istore (pc := 87) (ls' := [some (.ref 0), some (.int _), some (.int _), some (.int _), some (.int 1), some (.int 211), some (.int 0)]) dX9_isImage_87 (by decide) rfl rfl ?_
        have hg0 : g0F (tbF I) = true := by unfold g0F tbF; rw [decide_eq_false c61, decide_eq_false c71]; rfl
        refine Ex.le (ls' := [some (.ref 0), some (.int (nI t)), some (.int (nI nb)), some (.int (nI ns)), some (.int (bI (g0F (tbF I)))), some (.int 211), some (.int (nI 0))]) ⟨rfl, rfl, rfl, rfl, by rw [hg0]; rfl, rfl, rfl, trivial⟩ hloop
  · skip
    refine Ex.aload_n (pc := 0) dX9_isImage_0 rfl rfl ?_
    refine Ex.getR (pc := 1) dX9_isImage_1 fX9_22 (sh0 _) r0_2 ?_
    refine Ex.getR (pc := 4) dX9_isImage_4 fX9_144 (sh2 _) r2_0 ?_
    refine Ex.iconst (pc := 7) (v := 0) dX9_isImage_7 rfl ?_
    refine Ex.iald (pc := 8) (j := 0) dX9_isImage_8 (sh3 _) (by unfold vp_in; decide) (by decide) ?_
    refine Ex.istore_n (pc := 9) (ls' := [some (.ref 0), some (.int _), some (.int _), none, none, none, none]) dX9_isImage_9 rfl (by decide) rfl rfl ?_
    refine Ex.aload_n (pc := 10) dX9_isImage_10 rfl rfl ?_
    refine Ex.getR (pc := 11) dX9_isImage_11 fX9_22 (sh0 _) r0_2 ?_
    refine Ex.getR (pc := 14) dX9_isImage_14 fX9_144 (sh2 _) r2_0 ?_
    refine Ex.iconst (pc := 17) (v := 1) dX9_isImage_17 rfl ?_
    refine Ex.iald (pc := 18) (j := 1) dX9_isImage_18 (sh3 _) (by unfold vp_in; decide) (by decide) ?_
    refine Ex.istore_n (pc := 19) (ls' := [some (.ref 0), some (.int _), some (.int _), some (.int _), none, none, none]) dX9_isImage_19 rfl (by decide) rfl rfl ?_
    rw [hc0, hc1]
    refine Ex.iload_n (pc := 20) dX9_isImage_20 rfl rfl ?_
    refine Ex.iconst (pc := 21) (v := 3) dX9_isImage_21 rfl ?_
    refine Ex.iload_n (pc := 22) dX9_isImage_22 rfl rfl ?_
    refine Ex.iadd (pc := 23) dX9_isImage_23 ?_
    refine Ex.iload_n (pc := 24) dX9_isImage_24 rfl rfl ?_
    refine Ex.iadd (pc := 25) dX9_isImage_25 ?_
    refine Ex.aload_n (pc := 26) dX9_isImage_26 rfl rfl ?_
    refine Ex.getR (pc := 27) dX9_isImage_27 fX9_22 (sh0 _) r0_2 ?_
    refine Ex.getR (pc := 30) dX9_isImage_30 fX9_144 (sh2 _) r2_0 ?_
    refine Ex.iconst (pc := 33) (v := 2) dX9_isImage_33 rfl ?_
    refine Ex.iald (pc := 34) (j := 2) dX9_isImage_34 (sh3 _) (by unfold vp_in; decide) (by decide) ?_
    refine Ex.iadd (pc := 35) dX9_isImage_35 ?_
    refine Ex.iconst (pc := 36) (v := 1) dX9_isImage_36 rfl ?_
    refine Ex.iadd (pc := 37) dX9_isImage_37 ?_
    refine Ex.icmp_eq (pc := 38) (tgt := 43) dX9_isImage_38 (by decide) (fun c38 => absurd c38 (by rw [hc2, show 3 + nI nb + nI ns + nI nh + 1 = nI (3 + nb + ns + nh + 1) from by rw [show (3 : Int32) + nI nb = nI (3 + nb) from nI_add 3 nb, nI_add, nI_add]; exact nI_add _ 1]; exact fun q => hsz ((nI_eq (by omega) (by omega)).mp q))) (fun _ => ?_)
    refine Ex.iconst (pc := 41) (v := 0) dX9_isImage_41 rfl ?_
    refine Ex.iret (pc := 42) rfl rfl rfl dX9_isImage_42 (Nat.le_refl _) (Nat.le_refl _) ?_
    exact ⟨congrArg (fun z => some (Value.int z)) (by unfold isIm; rw [decide_eq_false hsz]; rfl), rfl⟩
