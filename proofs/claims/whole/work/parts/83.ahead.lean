theorem l256 {w b : Nat} (hw : w < 2 ^ 48) (hb : b < 256) : lN w <<< ((8 : Int32).toInt64 &&& 63) ||| (nI b).toInt64 = lN (w * 256 + b) := by
  have e8 : (((8 : Int32).toInt64 &&& 63).toBitVec.smod 64).toNat = 8 := by decide +kernel
  have eb : (nI b).toInt64 = lN b := by
    have : ∀ b, b < 256 → (nI b).toInt64 = lN b := by decide +kernel
    exact this b hb
  have tn : ∀ z, z < 2 ^ 64 → (lN z).toBitVec.toNat = z := fun z hz => by
    show (BitVec.ofNat 64 z).toNat = z
    rw [BitVec.toNat_ofNat]
    exact Nat.mod_eq_of_lt hz
  rw [eb]
  apply Int64.toBitVec_inj.mp
  apply BitVec.eq_of_toNat_eq
  have e1 : (lN w <<< ((8 : Int32).toInt64 &&& 63)).toBitVec.toNat = w * 256 := by
    show ((lN w).toBitVec <<< (((8 : Int32).toInt64 &&& 63).toBitVec.smod 64)).toNat = _
    rw [BitVec.shiftLeft_eq', e8, BitVec.toNat_shiftLeft, tn w (by omega), Nat.shiftLeft_eq]
    exact Nat.mod_eq_of_lt (by omega)
  rw [Int64.toBitVec_or, BitVec.toNat_or, e1, tn b (by omega), tn _ (by omega)]
  have := Nat.shiftLeft_add_eq_or_of_lt (i := 8) (b := b) hb w
  rw [Nat.shiftLeft_eq] at this
  exact this.symm
def adM (tb : Nat → Nat) (s : Nat) : Bool := decide (0 < s) && (isL (tb (s - 1)) || isD (tb (s - 1)))
def MkF (I : aI) (L : aL) (I2 : aI) (L2 : aL) : Prop := Sm [36] I I2 ∧ (∀ j, j ∉ [3, 4, 5, 6, 12] → I2 36 j = I 36 j) ∧ SmL [36] L L2 ∧ ∀ j, j ≠ 7 → L2 36 j = L 36 j
def TmE (n : Nat) (I : aI) (L : aL) : Except Nat Tk → Prop
  | .ok t => I 36 12 = -1 ∧ I 36 3 = nI (t.1 - 1) ∧ I 36 4 = nI t.2.2.2.1 ∧ I 36 5 = nI t.2.2.2.2 ∧ (t.1 = 2 → L 36 7 = lN (n8 t.2.2.1)) ∧ (t.1 = 3 ∨ t.1 = 4 → I 36 6 = nI t.2.1)
  | .error p => I 36 12 = nI p ∧ p < n ∧ ¬ I 36 3 = 0
theorem MkF.m {I J : aI} {L M : aL} {j : Nat} {v : Int32} (h : MkF I L J M) (hj : j ∈ [3, 4, 5, 6, 12]) : MkF I L (mf J j v) M := ⟨h.1.tr mf_S (fun _ q => q) (fun _ q => q), fun i hi => by
    have e2 : i ≠ j := fun e => hi (by rw [e]; exact hj)
    rw [mf_n e2]; exact h.2.1 i hi, h.2.2⟩
theorem MkF.l {I J : aI} {L M : aL} {v : Int64} (h : MkF I L J M) : MkF I L J (va_up M 36 (vp_updL (M 36) 7 v)) := ⟨h.1, h.2.1, h.2.2.1.up (by decide), fun j hj => by rw [va_up_s]; simp only [vp_updL, if_neg hj]; exact h.2.2.2 j hj⟩
theorem bl_no {b : Nat} (h : isBl b = true) : isL b = false ∧ isD b = false := by
  have h := of_decide_eq_true h
  exact ⟨decide_eq_false (by omega), decide_eq_false (by omega)⟩
theorem skF_bl (tb : Nat → Nat) (n : Nat) : ∀ f a, a < skF tb n f a → isBl (tb (skF tb n f a - 1)) = true
  | 0, a, h => absurd h (Nat.lt_irrefl _)
  | f + 1, a, h => by
    simp only [skF] at h ⊢
    split at h
    · rename_i q
      rw [if_pos q]
      have hle := skF_le tb n f (a + 1)
      by_cases e : a + 1 < skF tb n f (a + 1)
      · exact skF_bl tb n f (a + 1) e
      · rw [show skF tb n f (a + 1) = a + 1 by omega]; exact q.2
    · exact absurd h (Nat.lt_irrefl _)
theorem adM_a {tb : Nat → Nat} {n a : Nat} (h : adM tb (sk tb n a) = true) : sk tb n a = a := by
  have hle := sk_le tb n a
  by_cases e : a < sk tb n a
  · obtain ⟨h1, h2⟩ := bl_no (skF_bl tb n (n - a) a e)
    unfold adM at h
    rw [show skF tb n (n - a) a = sk tb n a from rfl] at h1 h2
    rw [h1, h2, Bool.or_self, Bool.and_false] at h
    cases h
  · omega
theorem wd_len {tb : Nat → Nat} {n s k : Nat} (hall : ∀ i, i < k → isL (tb (s + i)) = true) (hk : s + k ≤ n) : (if k < 6 then k else 6) ≤ (wdF tb n 6 s).length := by
  have h1 := wdF_len tb n 6 s
  rcases Nat.lt_or_ge (wdF tb n 6 s).length 6 with q | q
  · have := wdF_end tb n 6 s q
    have : k ≤ (wdF tb n 6 s).length := Nat.le_of_not_lt fun z => this ⟨by omega, hall _ z⟩
    split <;> omega
  · split <;> omega
theorem nm_len {tb : Nat → Nat} {n s k : Nat} (hall : ∀ i, i < k → isD (tb (s + i)) = true) (hk : s + k ≤ n) : (if k < 4 then k else 4) ≤ (nmF tb n 4 s).length := by
  have h1 := nmF_len tb n 4 s
  rcases Nat.lt_or_ge (nmF tb n 4 s).length 4 with q | q
  · have := nmF_end tb n 4 s q
    have : k ≤ (nmF tb n 4 s).length := Nat.le_of_not_lt fun z => this ⟨by omega, hall _ z⟩
    split <;> omega
  · split <;> omega
theorem isL_isD {b : Nat} (h : isL b = true) : isD b = false := by have := isL_b h; exact decide_eq_false (by omega)
set_option maxRecDepth 20000 in
theorem ah_w {N n a s : Nat} {I : aI} {L : aL} {tb : Nat → Nat} (hT : TxM I tb n) (h2 : I 36 2 = nI n) (hn : n ≤ 1600) (hs : sk tb n a = s) (hsn : s < n) (hL0 : isL (tb s) = true) : ∀ f k (J : aI) (M : aL), n - (s + k) = f → s + k ≤ n → (∀ i, i < k → isL (tb (s + i)) = true) → MkF I L J M → J 36 3 = 1 → J 36 4 = nI s → J 36 12 = (if adM tb s = true then nI s else if 6 < k then nI (s + 6) else -1) → M 36 7 = lN (dg 256 (((wdF tb n 6 s).map (96 + ·)).take k)) → Ex 1 0 0 mX10_ahead 0 0 204 [some (.ref 36), some (.int (nI (s + k))), some (.int 1), some (.int 0), some (.int 6), some (.int (nI k))] [] (St N J M) (fun r S' => ∃ I2 L2, r = none ∧ S' = St N I2 L2 ∧ MkF I L I2 L2 ∧ TmE n I2 L2 (tokA tb n a (sk tb n a) (adM tb (sk tb n a)))) := by
  intro f
  induction f with
  | zero =>
    intro k J M hf hk hall hM j3 j4 j12 jv
    have hkn : s + k = n := by omega
    have j2 : J 36 2 = nI n := by rw [hM.2.1 2 (by decide)]; exact h2
    have hex : ¬ (s + k < n ∧ isL (tb (s + k)) = true) := by omega
    refine Ex.iload_n (pc := 204) dX10_ahead_204 rfl rfl ?_
    refine Ex.aload_n (pc := 205) dX10_ahead_205 rfl rfl ?_
    refine Ex.getI (pc := 206) dX10_ahead_206 fX10_17 (sh36 _) ?_
    refine Ex.icmp_ge (pc := 209) (tgt := 334) dX10_ahead_209 (by decide) (fun _ => ?_) (fun c209 => absurd (by rw [j2, hkn]; exact Int32.le_refl _) c209)
    refine Ex.aload_n (pc := 334) dX10_ahead_334 rfl rfl ?_
    refine Ex.iload_n (pc := 335) dX10_ahead_335 rfl rfl ?_
    refine Ex.putI (pc := 336) dX10_ahead_336 fX10_26 (sh36 _) (Or.inl rfl) ⟨rfl, rfl⟩ ?_
    refine Ex.vret (pc := 339) rfl dX10_ahead_339 (Nat.le_refl _) (Nat.le_refl _) ?_
    refine ⟨mf J 5 (nI (s + k)), M, rfl, rfl, hM.m (by decide), ?_⟩
    rw [hs]
    have hlen := wd_len hall hk
    have hat := wdF_at tb n 6 s
    have hle := wdF_len tb n 6 s
    have hlk : (wdF tb n 6 s).length ≤ k := Nat.le_of_not_lt fun z => hex ⟨(hat k z).1, (hat k z).2.1⟩
    unfold tokA
    rw [if_neg (by omega)]
    by_cases had : adM tb s = true
    · have hsa : s = a := by rw [← hs] at had ⊢; exact adM_a had
      rw [if_pos ⟨had, hsa, by rw [hL0]; rfl⟩]
      refine ⟨?_, hsn, by rw [mf_n (by decide), j3]; decide⟩
      rw [mf_n (by decide), j12, if_pos had]
    · rw [if_neg (fun q => had q.1)]
      unfold tokS
      rw [if_pos hL0]
      by_cases h6 : 6 < k
      · have hl6 : (wdF tb n 6 s).length = 6 := by rw [if_neg (by omega)] at hlen; omega
        rw [if_pos (show lexW tb n s = true from decide_eq_true (by rw [hl6]; exact ⟨by omega, hall 6 h6⟩)), hl6]
        refine ⟨?_, by omega, by rw [mf_n (by decide), j3]; decide⟩
        rw [mf_n (by decide), j12, if_neg had, if_pos h6]
      · have hl6 : (wdF tb n 6 s).length = k := by split at hlen <;> omega
        rw [if_neg (fun q => hex (by have := of_decide_eq_true q; rw [hl6] at this; exact this)), hl6]
        refine ⟨?_, ?_, ?_, ?_, ?_, ?_⟩
        · rw [mf_n (by decide), j12, if_neg had, if_neg h6]
        · rw [mf_n (by decide)]; exact j3
        · rw [mf_n (by decide)]; exact j4
        · rw [mf_s]
        · intro _
          rw [jv, List.take_of_length_le (by rw [List.length_map]; omega)]; rfl
        · intro q; exact absurd (show (2 : Nat) = 3 ∨ (2 : Nat) = 4 from q) (by decide)
  | succ f ih =>
    intro k J M hf hk hall hM j3 j4 j12 jv
    have hkn : s + k < n := by omega
    have j2 : J 36 2 = nI n := by rw [hM.2.1 2 (by decide)]; exact h2
    have gT : TxM J tb n := hT.sm hM.1 (by decide)
    obtain ⟨hb, e1⟩ := gT (s + k) hkn
    have ixk : vp_in (nI (s + k)) 1800 := vp_in_nI (by omega) (by decide)
    have ixc : (nI (s + k)).toNatClampNeg = s + k := nI_clamp (by omega)
    by_cases hX : isL (tb (s + k)) = true
    · have hall2 : ∀ i, i < k + 1 → isL (tb (s + i)) = true := fun i hi => by
        by_cases e : i = k
        · rw [e]; exact hX
        · exact hall i (by omega)
      have hlen := wd_len (n := n) hall2 (by omega)
      have hat := wdF_at tb n 6 s
      have hXb := isL_b hX
      rcases Nat.lt_trichotomy k 6 with hk6 | hk6 | hk6
      · skip
        refine Ex.iload_n (pc := 204) dX10_ahead_204 rfl rfl ?_
        refine Ex.aload_n (pc := 205) dX10_ahead_205 rfl rfl ?_
        refine Ex.getI (pc := 206) dX10_ahead_206 fX10_17 (sh36 _) ?_
        refine Ex.icmp_ge (pc := 209) (tgt := 334) dX10_ahead_209 (by decide) (fun c209 => absurd c209 (by rw [j2]; exact nI_ge hkn (by omega))) (fun _ => ?_)
        refine Ex.iload_n (pc := 212) dX10_ahead_212 rfl rfl ?_
        refine Ex.if_eq (pc := 213) (tgt := 231) dX10_ahead_213 (by decide) (fun c213 => absurd c213 (by decide)) (fun _ => ?_)
        refine Ex.aload_n (pc := 216) dX10_ahead_216 rfl rfl ?_
        refine Ex.getR (pc := 217) dX10_ahead_217 fX10_7 (sh36 _) r36_0 ?_
        refine Ex.iload_n (pc := 220) dX10_ahead_220 rfl rfl ?_
        refine Ex.iald (pc := 221) (j := s + k) dX10_ahead_221 (sh37 _) ixk ixc ?_
        rw [e1]
        refine Ex.callS (pc := 222) (As := [.int _]) (rest := []) dX10_ahead_222 cX10_234 (tm_isLetter hb) rfl rfl (by decide) (Nat.le_refl _) (Nat.le_refl _) (Nat.le_of_ble_eq_true rfl) (Or.inl (fun r S' h => by obtain ⟨_, h⟩ := h; subst h; rfl)) (fun r S' hq _ _ => ?_)
        obtain ⟨rfl, rfl⟩ := hq
        refine Ex.if_eq (pc := 225) (tgt := 334) dX10_ahead_225 (by decide) (fun c225 => absurd c225 (by rw [hX]; decide)) (fun _ => ?_)
        refine Ex.goto (pc := 228) (tgt := 243) dX10_ahead_228 (by decide) ?_
        refine Ex.iload (pc := 243) dX10_ahead_243 rfl ?_
        refine Ex.iload (pc := 245) dX10_ahead_245 rfl ?_
        refine Ex.icmp_ne (pc := 247) (tgt := 263) dX10_ahead_247 (by decide) (fun _ => ?_) (fun c247 => absurd c247 (fun e => absurd ((nI_eq (by omega) (by decide)).mp (show nI k = nI 6 from e)) (by omega)))
        refine Ex.iload (pc := 263) dX10_ahead_263 rfl ?_
        refine Ex.iload (pc := 265) dX10_ahead_265 rfl ?_
        refine Ex.icmp_ge (pc := 267) (tgt := 293) dX10_ahead_267 (by decide) (fun c267 => absurd c267 (nI_ge (b := 6) hk6 (by decide))) (fun _ => ?_)
        refine Ex.iload_n (pc := 270) dX10_ahead_270 rfl rfl ?_
        refine Ex.if_eq (pc := 271) (tgt := 293) dX10_ahead_271 (by decide) (fun c271 => absurd c271 (by decide)) (fun _ => ?_)
        refine Ex.aload_n (pc := 274) dX10_ahead_274 rfl rfl ?_
        refine Ex.aload_n (pc := 275) dX10_ahead_275 rfl rfl ?_
        refine Ex.getL (pc := 276) dX10_ahead_276 fX10_32 (sh36 _) ?_
        refine Ex.bipush (pc := 279) (v := 8) dX10_ahead_279 rfl ?_
        refine Ex.lshl (pc := 281) dX10_ahead_281 ?_
        refine Ex.aload_n (pc := 282) dX10_ahead_282 rfl rfl ?_
        refine Ex.getR (pc := 283) dX10_ahead_283 fX10_7 (sh36 _) r36_0 ?_
        refine Ex.iload_n (pc := 286) dX10_ahead_286 rfl rfl ?_
        refine Ex.iald (pc := 287) (j := s + k) dX10_ahead_287 (sh37 _) ixk ixc ?_
        rw [e1]
        refine Ex.i2l (pc := 288) dX10_ahead_288 ?_
        refine Ex.lor (pc := 289) dX10_ahead_289 ?_
        have hkl : k < (wdF tb n 6 s).length := by split at hlen <;> omega
        have hgk : ((wdF tb n 6 s).map (96 + ·))[k]? = some (tb (s + k)) := by
          rw [List.getElem?_map, (hat k hkl).2.2]
          show some (96 + (tb (s + k) - 96)) = _
          rw [show 96 + (tb (s + k) - 96) = tb (s + k) by omega]
        have hdl : dg 256 (((wdF tb n 6 s).map (96 + ·)).take k) < 2 ^ 48 := by
          refine Nat.lt_of_lt_of_le (dg_lt (B := 256) (by decide) (l := (wdF tb n 6 s).map (96 + ·)) ?_ k (by rw [List.length_map]; omega)) ?_
          · intro c hc
            obtain ⟨i, hi⟩ := List.getElem?_of_mem hc
            rw [List.getElem?_map] at hi
            cases hg : (wdF tb n 6 s)[i]? with
            | none => rw [hg] at hi; cases hi
            | some y =>
              rw [hg] at hi
              have hil := (List.getElem?_eq_some_iff.mp hg).1
              have := isL_b (hat i hil).2.1
              have e2 := (hat i hil).2.2
              rw [hg] at e2
              have e3 := Option.some.inj e2
              have e4 : 96 + y = c := Option.some.inj hi
              omega
          · calc 256 ^ k ≤ 256 ^ 6 := Nat.pow_le_pow_right (by decide) (by omega)
              _ = 2 ^ 48 := by decide
        rw [jv, l256 hdl hb, ← dg_take hgk]
        refine Ex.putL (pc := 290) dX10_ahead_290 fX10_32 (sh36 _) (Or.inl rfl) ⟨rfl, rfl⟩ ?_
        refine Ex.iload (pc := 293) dX10_ahead_293 rfl ?_
        refine Ex.iload (pc := 295) dX10_ahead_295 rfl ?_
        refine Ex.icmp_ge (pc := 297) (tgt := 325) dX10_ahead_297 (by decide) (fun c297 => absurd c297 (nI_ge (b := 6) hk6 (by decide))) (fun _ => ?_)
        refine Ex.iload_n (pc := 300) dX10_ahead_300 rfl rfl ?_
        refine Ex.if_eq (pc := 301) (tgt := 325) dX10_ahead_301 (by decide) (fun _ => ?_) (fun c301 => absurd (by decide) c301)
        refine Ex.iinc (pc := 325) (ls' := [some (.ref 36), some (.int _), some (.int 1), some (.int 0), some (.int 6), some (.int _)]) dX10_ahead_325 rfl rfl (by decide) rfl rfl ?_
        refine Ex.iinc (pc := 328) (ls' := [some (.ref 36), some (.int _), some (.int 1), some (.int 0), some (.int 6), some (.int _)]) dX10_ahead_328 rfl rfl (by decide) rfl rfl ?_
        refine Ex.goto (pc := 331) (tgt := 204) dX10_ahead_331 (by decide) ?_
        rw [show nI k + Int32.ofInt 1 = nI (k + 1) from nI_1 k, show nI (s + k) + Int32.ofInt 1 = nI (s + (k + 1)) from nI_1 (s + k)]
        refine ih (k + 1) J (va_up M 36 (vp_updL (M 36) 7 (lN (dg 256 (((wdF tb n 6 s).map (96 + ·)).take (k + 1)))))) (by omega) (by omega) hall2 ?_ ?_ ?_ ?_ ?_
        · exact hM.l
        · exact j3
        · exact j4
        · rw [j12, if_neg (show ¬ 6 < k by omega), if_neg (show ¬ 6 < k + 1 by omega)]
        · rw [va_up_s]; simp only [vp_updL, if_true]
      · skip
        have htk : ((wdF tb n 6 s).map (96 + ·)).take (k + 1) = ((wdF tb n 6 s).map (96 + ·)).take k := by
          rw [List.take_of_length_le (by rw [List.length_map]; have := wdF_len tb n 6 s; omega), List.take_of_length_le (by rw [List.length_map]; have := wdF_len tb n 6 s; omega)]
        refine Ex.iload_n (pc := 204) dX10_ahead_204 rfl rfl ?_
        refine Ex.aload_n (pc := 205) dX10_ahead_205 rfl rfl ?_
        refine Ex.getI (pc := 206) dX10_ahead_206 fX10_17 (sh36 _) ?_
        refine Ex.icmp_ge (pc := 209) (tgt := 334) dX10_ahead_209 (by decide) (fun c209 => absurd c209 (by rw [j2]; exact nI_ge hkn (by omega))) (fun _ => ?_)
        refine Ex.iload_n (pc := 212) dX10_ahead_212 rfl rfl ?_
        refine Ex.if_eq (pc := 213) (tgt := 231) dX10_ahead_213 (by decide) (fun c213 => absurd c213 (by decide)) (fun _ => ?_)
        refine Ex.aload_n (pc := 216) dX10_ahead_216 rfl rfl ?_
        refine Ex.getR (pc := 217) dX10_ahead_217 fX10_7 (sh36 _) r36_0 ?_
        refine Ex.iload_n (pc := 220) dX10_ahead_220 rfl rfl ?_
        refine Ex.iald (pc := 221) (j := s + k) dX10_ahead_221 (sh37 _) ixk ixc ?_
        rw [e1]
        refine Ex.callS (pc := 222) (As := [.int _]) (rest := []) dX10_ahead_222 cX10_234 (tm_isLetter hb) rfl rfl (by decide) (Nat.le_refl _) (Nat.le_refl _) (Nat.le_of_ble_eq_true rfl) (Or.inl (fun r S' h => by obtain ⟨_, h⟩ := h; subst h; rfl)) (fun r S' hq _ _ => ?_)
        obtain ⟨rfl, rfl⟩ := hq
        refine Ex.if_eq (pc := 225) (tgt := 334) dX10_ahead_225 (by decide) (fun c225 => absurd c225 (by rw [hX]; decide)) (fun _ => ?_)
        refine Ex.goto (pc := 228) (tgt := 243) dX10_ahead_228 (by decide) ?_
        refine Ex.iload (pc := 243) dX10_ahead_243 rfl ?_
        refine Ex.iload (pc := 245) dX10_ahead_245 rfl ?_
        refine Ex.icmp_ne (pc := 247) (tgt := 263) dX10_ahead_247 (by decide) (fun c247 => absurd (by rw [hk6]; rfl) c247) (fun _ => ?_)
        refine Ex.aload_n (pc := 250) dX10_ahead_250 rfl rfl ?_
        refine Ex.getI (pc := 251) dX10_ahead_251 fX10_48 (sh36 _) ?_
        refine Ex.iconst (pc := 254) (v := (-1)) dX10_ahead_254 rfl ?_
        refine Ex.icmp_ne (pc := 255) (tgt := 263) dX10_ahead_255 (by decide) (fun c255 => ?_) (fun c255 => ?_)
        · skip
          refine Ex.iload (pc := 263) dX10_ahead_263 rfl ?_
          refine Ex.iload (pc := 265) dX10_ahead_265 rfl ?_
          refine Ex.icmp_ge (pc := 267) (tgt := 293) dX10_ahead_267 (by decide) (fun _ => ?_) (fun c267 => absurd (by rw [hk6]; decide) c267)
          refine Ex.iload (pc := 293) dX10_ahead_293 rfl ?_
          refine Ex.iload (pc := 295) dX10_ahead_295 rfl ?_
          refine Ex.icmp_ge (pc := 297) (tgt := 325) dX10_ahead_297 (by decide) (fun _ => ?_) (fun c297 => absurd (by rw [hk6]; decide) c297)
          refine Ex.iinc (pc := 325) (ls' := [some (.ref 36), some (.int _), some (.int 1), some (.int 0), some (.int 6), some (.int _)]) dX10_ahead_325 rfl rfl (by decide) rfl rfl ?_
          refine Ex.iinc (pc := 328) (ls' := [some (.ref 36), some (.int _), some (.int 1), some (.int 0), some (.int 6), some (.int _)]) dX10_ahead_328 rfl rfl (by decide) rfl rfl ?_
          refine Ex.goto (pc := 331) (tgt := 204) dX10_ahead_331 (by decide) ?_
          rw [show nI k + Int32.ofInt 1 = nI (k + 1) from nI_1 k, show nI (s + k) + Int32.ofInt 1 = nI (s + (k + 1)) from nI_1 (s + k)]
          refine ih (k + 1) J M (by omega) (by omega) hall2 ?_ ?_ ?_ ?_ ?_
          · exact hM
          · exact j3
          · exact j4
          · rw [if_pos (show 6 < k + 1 by omega)]
            by_cases had : adM tb s = true
            · rw [j12, if_pos had, if_pos had]
            · exact absurd (by rw [j12, if_neg had, if_neg (show ¬ 6 < k by omega)]) c255
          · rw [htk]; exact jv
        · skip
          refine Ex.aload_n (pc := 258) dX10_ahead_258 rfl rfl ?_
          refine Ex.iload_n (pc := 259) dX10_ahead_259 rfl rfl ?_
          refine Ex.putI (pc := 260) dX10_ahead_260 fX10_48 (sh36 _) (Or.inl rfl) ⟨rfl, rfl⟩ ?_
          refine Ex.iload (pc := 263) dX10_ahead_263 rfl ?_
          refine Ex.iload (pc := 265) dX10_ahead_265 rfl ?_
          refine Ex.icmp_ge (pc := 267) (tgt := 293) dX10_ahead_267 (by decide) (fun _ => ?_) (fun c267 => absurd (by rw [hk6]; decide) c267)
          refine Ex.iload (pc := 293) dX10_ahead_293 rfl ?_
          refine Ex.iload (pc := 295) dX10_ahead_295 rfl ?_
          refine Ex.icmp_ge (pc := 297) (tgt := 325) dX10_ahead_297 (by decide) (fun _ => ?_) (fun c297 => absurd (by rw [hk6]; decide) c297)
          refine Ex.iinc (pc := 325) (ls' := [some (.ref 36), some (.int _), some (.int 1), some (.int 0), some (.int 6), some (.int _)]) dX10_ahead_325 rfl rfl (by decide) rfl rfl ?_
          refine Ex.iinc (pc := 328) (ls' := [some (.ref 36), some (.int _), some (.int 1), some (.int 0), some (.int 6), some (.int _)]) dX10_ahead_328 rfl rfl (by decide) rfl rfl ?_
          refine Ex.goto (pc := 331) (tgt := 204) dX10_ahead_331 (by decide) ?_
          rw [show nI k + Int32.ofInt 1 = nI (k + 1) from nI_1 k, show nI (s + k) + Int32.ofInt 1 = nI (s + (k + 1)) from nI_1 (s + k)]
          refine ih (k + 1) (mf J 12 (nI (s + k))) M (by omega) (by omega) hall2 ?_ ?_ ?_ ?_ ?_
          · exact hM.m (by decide)
          · rw [mf_n (by decide)]; exact j3
          · rw [mf_n (by decide)]; exact j4
          · rw [mf_s, if_pos (show 6 < k + 1 by omega)]
            by_cases had : adM tb s = true
            · rw [j12, if_pos had] at c255; exact absurd c255 (fun e => absurd (by rw [e]; decide : nI s < 0) (nI_pos (by omega)))
            · rw [if_neg had, hk6]
          · rw [htk]; exact jv
      · skip
        have htk : ((wdF tb n 6 s).map (96 + ·)).take (k + 1) = ((wdF tb n 6 s).map (96 + ·)).take k := by
          rw [List.take_of_length_le (by rw [List.length_map]; have := wdF_len tb n 6 s; omega), List.take_of_length_le (by rw [List.length_map]; have := wdF_len tb n 6 s; omega)]
        refine Ex.iload_n (pc := 204) dX10_ahead_204 rfl rfl ?_
        refine Ex.aload_n (pc := 205) dX10_ahead_205 rfl rfl ?_
        refine Ex.getI (pc := 206) dX10_ahead_206 fX10_17 (sh36 _) ?_
        refine Ex.icmp_ge (pc := 209) (tgt := 334) dX10_ahead_209 (by decide) (fun c209 => absurd c209 (by rw [j2]; exact nI_ge hkn (by omega))) (fun _ => ?_)
        refine Ex.iload_n (pc := 212) dX10_ahead_212 rfl rfl ?_
        refine Ex.if_eq (pc := 213) (tgt := 231) dX10_ahead_213 (by decide) (fun c213 => absurd c213 (by decide)) (fun _ => ?_)
        refine Ex.aload_n (pc := 216) dX10_ahead_216 rfl rfl ?_
        refine Ex.getR (pc := 217) dX10_ahead_217 fX10_7 (sh36 _) r36_0 ?_
        refine Ex.iload_n (pc := 220) dX10_ahead_220 rfl rfl ?_
        refine Ex.iald (pc := 221) (j := s + k) dX10_ahead_221 (sh37 _) ixk ixc ?_
        rw [e1]
        refine Ex.callS (pc := 222) (As := [.int _]) (rest := []) dX10_ahead_222 cX10_234 (tm_isLetter hb) rfl rfl (by decide) (Nat.le_refl _) (Nat.le_refl _) (Nat.le_of_ble_eq_true rfl) (Or.inl (fun r S' h => by obtain ⟨_, h⟩ := h; subst h; rfl)) (fun r S' hq _ _ => ?_)
        obtain ⟨rfl, rfl⟩ := hq
        refine Ex.if_eq (pc := 225) (tgt := 334) dX10_ahead_225 (by decide) (fun c225 => absurd c225 (by rw [hX]; decide)) (fun _ => ?_)
        refine Ex.goto (pc := 228) (tgt := 243) dX10_ahead_228 (by decide) ?_
        refine Ex.iload (pc := 243) dX10_ahead_243 rfl ?_
        refine Ex.iload (pc := 245) dX10_ahead_245 rfl ?_
        refine Ex.icmp_ne (pc := 247) (tgt := 263) dX10_ahead_247 (by decide) (fun _ => ?_) (fun c247 => absurd c247 (fun e => absurd ((nI_eq (by omega) (by decide)).mp (show nI k = nI 6 from e)) (by omega)))
        refine Ex.iload (pc := 263) dX10_ahead_263 rfl ?_
        refine Ex.iload (pc := 265) dX10_ahead_265 rfl ?_
        refine Ex.icmp_ge (pc := 267) (tgt := 293) dX10_ahead_267 (by decide) (fun _ => ?_) (fun c267 => absurd (nI_le (a := 6) (by omega) (by omega)) c267)
        refine Ex.iload (pc := 293) dX10_ahead_293 rfl ?_
        refine Ex.iload (pc := 295) dX10_ahead_295 rfl ?_
        refine Ex.icmp_ge (pc := 297) (tgt := 325) dX10_ahead_297 (by decide) (fun _ => ?_) (fun c297 => absurd (nI_le (a := 6) (by omega) (by omega)) c297)
        refine Ex.iinc (pc := 325) (ls' := [some (.ref 36), some (.int _), some (.int 1), some (.int 0), some (.int 6), some (.int _)]) dX10_ahead_325 rfl rfl (by decide) rfl rfl ?_
        refine Ex.iinc (pc := 328) (ls' := [some (.ref 36), some (.int _), some (.int 1), some (.int 0), some (.int 6), some (.int _)]) dX10_ahead_328 rfl rfl (by decide) rfl rfl ?_
        refine Ex.goto (pc := 331) (tgt := 204) dX10_ahead_331 (by decide) ?_
        rw [show nI k + Int32.ofInt 1 = nI (k + 1) from nI_1 k, show nI (s + k) + Int32.ofInt 1 = nI (s + (k + 1)) from nI_1 (s + k)]
        refine ih (k + 1) J M (by omega) (by omega) hall2 ?_ ?_ ?_ ?_ ?_
        · exact hM
        · exact j3
        · exact j4
        · rw [j12, if_pos (show 6 < k by omega), if_pos (show 6 < k + 1 by omega)]
        · rw [htk]; exact jv
    · have hex : ¬ (s + k < n ∧ isL (tb (s + k)) = true) := fun q => hX q.2
      have hXf := Bool.eq_false_iff.mpr hX
      refine Ex.iload_n (pc := 204) dX10_ahead_204 rfl rfl ?_
      refine Ex.aload_n (pc := 205) dX10_ahead_205 rfl rfl ?_
      refine Ex.getI (pc := 206) dX10_ahead_206 fX10_17 (sh36 _) ?_
      refine Ex.icmp_ge (pc := 209) (tgt := 334) dX10_ahead_209 (by decide) (fun c209 => absurd c209 (by rw [j2]; exact nI_ge hkn (by omega))) (fun _ => ?_)
      refine Ex.iload_n (pc := 212) dX10_ahead_212 rfl rfl ?_
      refine Ex.if_eq (pc := 213) (tgt := 231) dX10_ahead_213 (by decide) (fun c213 => absurd c213 (by decide)) (fun _ => ?_)
      refine Ex.aload_n (pc := 216) dX10_ahead_216 rfl rfl ?_
      refine Ex.getR (pc := 217) dX10_ahead_217 fX10_7 (sh36 _) r36_0 ?_
      refine Ex.iload_n (pc := 220) dX10_ahead_220 rfl rfl ?_
      refine Ex.iald (pc := 221) (j := s + k) dX10_ahead_221 (sh37 _) ixk ixc ?_
      rw [e1]
      refine Ex.callS (pc := 222) (As := [.int _]) (rest := []) dX10_ahead_222 cX10_234 (tm_isLetter hb) rfl rfl (by decide) (Nat.le_refl _) (Nat.le_refl _) (Nat.le_of_ble_eq_true rfl) (Or.inl (fun r S' h => by obtain ⟨_, h⟩ := h; subst h; rfl)) (fun r S' hq _ _ => ?_)
      obtain ⟨rfl, rfl⟩ := hq
      refine Ex.if_eq (pc := 225) (tgt := 334) dX10_ahead_225 (by decide) (fun _ => ?_) (fun c225 => absurd (by rw [hXf]; rfl) c225)
      refine Ex.aload_n (pc := 334) dX10_ahead_334 rfl rfl ?_
      refine Ex.iload_n (pc := 335) dX10_ahead_335 rfl rfl ?_
      refine Ex.putI (pc := 336) dX10_ahead_336 fX10_26 (sh36 _) (Or.inl rfl) ⟨rfl, rfl⟩ ?_
      refine Ex.vret (pc := 339) rfl dX10_ahead_339 (Nat.le_refl _) (Nat.le_refl _) ?_
      refine ⟨mf J 5 (nI (s + k)), M, rfl, rfl, hM.m (by decide), ?_⟩
      rw [hs]
      have hlen := wd_len hall hk
      have hat := wdF_at tb n 6 s
      have hle := wdF_len tb n 6 s
      have hlk : (wdF tb n 6 s).length ≤ k := Nat.le_of_not_lt fun z => hex ⟨(hat k z).1, (hat k z).2.1⟩
      unfold tokA
      rw [if_neg (by omega)]
      by_cases had : adM tb s = true
      · have hsa : s = a := by rw [← hs] at had ⊢; exact adM_a had
        rw [if_pos ⟨had, hsa, by rw [hL0]; rfl⟩]
        refine ⟨?_, hsn, by rw [mf_n (by decide), j3]; decide⟩
        rw [mf_n (by decide), j12, if_pos had]
      · rw [if_neg (fun q => had q.1)]
        unfold tokS
        rw [if_pos hL0]
        by_cases h6 : 6 < k
        · have hl6 : (wdF tb n 6 s).length = 6 := by rw [if_neg (by omega)] at hlen; omega
          rw [if_pos (show lexW tb n s = true from decide_eq_true (by rw [hl6]; exact ⟨by omega, hall 6 h6⟩)), hl6]
          refine ⟨?_, by omega, by rw [mf_n (by decide), j3]; decide⟩
          rw [mf_n (by decide), j12, if_neg had, if_pos h6]
        · have hl6 : (wdF tb n 6 s).length = k := by split at hlen <;> omega
          rw [if_neg (fun q => hex (by have := of_decide_eq_true q; rw [hl6] at this; exact this)), hl6]
          refine ⟨?_, ?_, ?_, ?_, ?_, ?_⟩
          · rw [mf_n (by decide), j12, if_neg had, if_neg h6]
          · rw [mf_n (by decide)]; exact j3
          · rw [mf_n (by decide)]; exact j4
          · rw [mf_s]
          · intro _
            rw [jv, List.take_of_length_le (by rw [List.length_map]; omega)]; rfl
          · intro q; exact absurd (show (2 : Nat) = 3 ∨ (2 : Nat) = 4 from q) (by decide)
set_option maxRecDepth 20000 in
theorem ah_d {N n a s : Nat} {I : aI} {L : aL} {tb : Nat → Nat} (hT : TxM I tb n) (h2 : I 36 2 = nI n) (hn : n ≤ 1600) (hs : sk tb n a = s) (hsn : s < n) (hL0 : isD (tb s) = true) : ∀ f k (J : aI) (M : aL), n - (s + k) = f → s + k ≤ n → (∀ i, i < k → isD (tb (s + i)) = true) → MkF I L J M → J 36 3 = 2 → J 36 4 = nI s → J 36 12 = (if adM tb s = true then nI s else if 4 < k then nI (s + 4) else -1) → J 36 6 = nI (dg 10 ((nmF tb n 4 s).take k)) → Ex 1 0 0 mX10_ahead 0 0 204 [some (.ref 36), some (.int (nI (s + k))), some (.int 0), some (.int 1), some (.int 4), some (.int (nI k))] [] (St N J M) (fun r S' => ∃ I2 L2, r = none ∧ S' = St N I2 L2 ∧ MkF I L I2 L2 ∧ TmE n I2 L2 (tokA tb n a (sk tb n a) (adM tb (sk tb n a)))) := by
  intro f
  induction f with
  | zero =>
    intro k J M hf hk hall hM j3 j4 j12 jv
    have hkn : s + k = n := by omega
    have j2 : J 36 2 = nI n := by rw [hM.2.1 2 (by decide)]; exact h2
    have hex : ¬ (s + k < n ∧ isD (tb (s + k)) = true) := by omega
    refine Ex.iload_n (pc := 204) dX10_ahead_204 rfl rfl ?_
    refine Ex.aload_n (pc := 205) dX10_ahead_205 rfl rfl ?_
    refine Ex.getI (pc := 206) dX10_ahead_206 fX10_17 (sh36 _) ?_
    refine Ex.icmp_ge (pc := 209) (tgt := 334) dX10_ahead_209 (by decide) (fun _ => ?_) (fun c209 => absurd (by rw [j2, hkn]; exact Int32.le_refl _) c209)
    refine Ex.aload_n (pc := 334) dX10_ahead_334 rfl rfl ?_
    refine Ex.iload_n (pc := 335) dX10_ahead_335 rfl rfl ?_
    refine Ex.putI (pc := 336) dX10_ahead_336 fX10_26 (sh36 _) (Or.inl rfl) ⟨rfl, rfl⟩ ?_
    refine Ex.vret (pc := 339) rfl dX10_ahead_339 (Nat.le_refl _) (Nat.le_refl _) ?_
    refine ⟨mf J 5 (nI (s + k)), M, rfl, rfl, hM.m (by decide), ?_⟩
    rw [hs]
    have hlen := nm_len hall hk
    have hat := nmF_at tb n 4 s
    have hle := nmF_len tb n 4 s
    have hlk : (nmF tb n 4 s).length ≤ k := Nat.le_of_not_lt fun z => hex ⟨(hat k z).1, (hat k z).2.1⟩
    unfold tokA
    rw [if_neg (by omega)]
    by_cases had : adM tb s = true
    · have hsa : s = a := by rw [← hs] at had ⊢; exact adM_a had
      rw [if_pos ⟨had, hsa, by rw [hL0]; exact Bool.or_true _⟩]
      refine ⟨?_, hsn, by rw [mf_n (by decide), j3]; decide⟩
      rw [mf_n (by decide), j12, if_pos had]
    · rw [if_neg (fun q => had q.1)]
      unfold tokS
      rw [if_neg (fun q => by rw [isL_isD q] at hL0; cases hL0), if_pos hL0]
      by_cases h6 : 4 < k
      · have hl6 : (nmF tb n 4 s).length = 4 := by rw [if_neg (by omega)] at hlen; omega
        rw [if_pos (show lexN tb n s = true from decide_eq_true (by rw [hl6]; exact ⟨by omega, hall 4 h6⟩)), hl6]
        refine ⟨?_, by omega, by rw [mf_n (by decide), j3]; decide⟩
        rw [mf_n (by decide), j12, if_neg had, if_pos h6]
      · have hl6 : (nmF tb n 4 s).length = k := by split at hlen <;> omega
        rw [if_neg (fun q => hex (by have := of_decide_eq_true q; rw [hl6] at this; exact this)), hl6]
        refine ⟨?_, ?_, ?_, ?_, ?_, ?_⟩
        · rw [mf_n (by decide), j12, if_neg had, if_neg h6]
        · rw [mf_n (by decide)]; exact j3
        · rw [mf_n (by decide)]; exact j4
        · rw [mf_s]
        · intro q; exact absurd (show (3 : Nat) = 2 from q) (by decide)
        · intro _
          rw [mf_n (by decide), jv, List.take_of_length_le (by omega)]
  | succ f ih =>
    intro k J M hf hk hall hM j3 j4 j12 jv
    have hkn : s + k < n := by omega
    have j2 : J 36 2 = nI n := by rw [hM.2.1 2 (by decide)]; exact h2
    have gT : TxM J tb n := hT.sm hM.1 (by decide)
    obtain ⟨hb, e1⟩ := gT (s + k) hkn
    have ixk : vp_in (nI (s + k)) 1800 := vp_in_nI (by omega) (by decide)
    have ixc : (nI (s + k)).toNatClampNeg = s + k := nI_clamp (by omega)
    by_cases hX : isD (tb (s + k)) = true
    · have hall2 : ∀ i, i < k + 1 → isD (tb (s + i)) = true := fun i hi => by
        by_cases e : i = k
        · rw [e]; exact hX
        · exact hall i (by omega)
      have hlen := nm_len (n := n) hall2 (by omega)
      have hat := nmF_at tb n 4 s
      have hXb := isD_b hX
      rcases Nat.lt_trichotomy k 4 with hk6 | hk6 | hk6
      · skip
        refine Ex.iload_n (pc := 204) dX10_ahead_204 rfl rfl ?_
        refine Ex.aload_n (pc := 205) dX10_ahead_205 rfl rfl ?_
        refine Ex.getI (pc := 206) dX10_ahead_206 fX10_17 (sh36 _) ?_
        refine Ex.icmp_ge (pc := 209) (tgt := 334) dX10_ahead_209 (by decide) (fun c209 => absurd c209 (by rw [j2]; exact nI_ge hkn (by omega))) (fun _ => ?_)
        refine Ex.iload_n (pc := 212) dX10_ahead_212 rfl rfl ?_
        refine Ex.if_eq (pc := 213) (tgt := 231) dX10_ahead_213 (by decide) (fun _ => ?_) (fun c213 => absurd (by decide) c213)
        refine Ex.aload_n (pc := 231) dX10_ahead_231 rfl rfl ?_
        refine Ex.getR (pc := 232) dX10_ahead_232 fX10_7 (sh36 _) r36_0 ?_
        refine Ex.iload_n (pc := 235) dX10_ahead_235 rfl rfl ?_
        refine Ex.iald (pc := 236) (j := s + k) dX10_ahead_236 (sh37 _) ixk ixc ?_
        rw [e1]
        refine Ex.callS (pc := 237) (As := [.int _]) (rest := []) dX10_ahead_237 cX10_238 (tm_isDigit hb) rfl rfl (by decide) (Nat.le_refl _) (Nat.le_refl _) (Nat.le_of_ble_eq_true rfl) (Or.inl (fun r S' h => by obtain ⟨_, h⟩ := h; subst h; rfl)) (fun r S' hq _ _ => ?_)
        obtain ⟨rfl, rfl⟩ := hq
        refine Ex.if_eq (pc := 240) (tgt := 334) dX10_ahead_240 (by decide) (fun c240 => absurd c240 (by rw [hX]; decide)) (fun _ => ?_)
        refine Ex.iload (pc := 243) dX10_ahead_243 rfl ?_
        refine Ex.iload (pc := 245) dX10_ahead_245 rfl ?_
        refine Ex.icmp_ne (pc := 247) (tgt := 263) dX10_ahead_247 (by decide) (fun _ => ?_) (fun c247 => absurd c247 (fun e => absurd ((nI_eq (by omega) (by decide)).mp (show nI k = nI 4 from e)) (by omega)))
        refine Ex.iload (pc := 263) dX10_ahead_263 rfl ?_
        refine Ex.iload (pc := 265) dX10_ahead_265 rfl ?_
        refine Ex.icmp_ge (pc := 267) (tgt := 293) dX10_ahead_267 (by decide) (fun c267 => absurd c267 (nI_ge (b := 4) hk6 (by decide))) (fun _ => ?_)
        refine Ex.iload_n (pc := 270) dX10_ahead_270 rfl rfl ?_
        refine Ex.if_eq (pc := 271) (tgt := 293) dX10_ahead_271 (by decide) (fun _ => ?_) (fun c271 => absurd (by decide) c271)
        refine Ex.iload (pc := 293) dX10_ahead_293 rfl ?_
        refine Ex.iload (pc := 295) dX10_ahead_295 rfl ?_
        refine Ex.icmp_ge (pc := 297) (tgt := 325) dX10_ahead_297 (by decide) (fun c297 => absurd c297 (nI_ge (b := 4) hk6 (by decide))) (fun _ => ?_)
        refine Ex.iload_n (pc := 300) dX10_ahead_300 rfl rfl ?_
        refine Ex.if_eq (pc := 301) (tgt := 325) dX10_ahead_301 (by decide) (fun c301 => absurd c301 (by decide)) (fun _ => ?_)
        refine Ex.aload_n (pc := 304) dX10_ahead_304 rfl rfl ?_
        refine Ex.bipush (pc := 305) (v := 10) dX10_ahead_305 rfl ?_
        refine Ex.aload_n (pc := 307) dX10_ahead_307 rfl rfl ?_
        refine Ex.getI (pc := 308) dX10_ahead_308 fX10_29 (sh36 _) ?_
        refine Ex.imul (pc := 311) dX10_ahead_311 ?_
        refine Ex.aload_n (pc := 312) dX10_ahead_312 rfl rfl ?_
        refine Ex.getR (pc := 313) dX10_ahead_313 fX10_7 (sh36 _) r36_0 ?_
        refine Ex.iload_n (pc := 316) dX10_ahead_316 rfl rfl ?_
        refine Ex.iald (pc := 317) (j := s + k) dX10_ahead_317 (sh37 _) ixk ixc ?_
        rw [e1]
        refine Ex.iadd (pc := 318) dX10_ahead_318 ?_
        refine Ex.bipush (pc := 319) (v := 48) dX10_ahead_319 rfl ?_
        refine Ex.isub (pc := 321) dX10_ahead_321 ?_
        have hkl : k < (nmF tb n 4 s).length := by split at hlen <;> omega
        have hgk : (nmF tb n 4 s)[k]? = some (tb (s + k) - 48) := (hat k hkl).2.2
        rw [jv, show (10 : Int32) * nI (dg 10 ((nmF tb n 4 s).take k)) = nI (10 * dg 10 ((nmF tb n 4 s).take k)) from pk_mul 10 _, nI_add, show (48 : Int32) = nI 48 from rfl, pk_sub (by omega), show 10 * dg 10 ((nmF tb n 4 s).take k) + tb (s + k) - 48 = dg 10 ((nmF tb n 4 s).take (k + 1)) from by rw [dg_take hgk]; omega]
        refine Ex.putI (pc := 322) dX10_ahead_322 fX10_29 (sh36 _) (Or.inl rfl) ⟨rfl, rfl⟩ ?_
        refine Ex.iinc (pc := 325) (ls' := [some (.ref 36), some (.int _), some (.int 0), some (.int 1), some (.int 4), some (.int _)]) dX10_ahead_325 rfl rfl (by decide) rfl rfl ?_
        refine Ex.iinc (pc := 328) (ls' := [some (.ref 36), some (.int _), some (.int 0), some (.int 1), some (.int 4), some (.int _)]) dX10_ahead_328 rfl rfl (by decide) rfl rfl ?_
        refine Ex.goto (pc := 331) (tgt := 204) dX10_ahead_331 (by decide) ?_
        rw [show nI k + Int32.ofInt 1 = nI (k + 1) from nI_1 k, show nI (s + k) + Int32.ofInt 1 = nI (s + (k + 1)) from nI_1 (s + k)]
        refine ih (k + 1) (mf J 6 (nI (dg 10 ((nmF tb n 4 s).take (k + 1))))) M (by omega) (by omega) hall2 ?_ ?_ ?_ ?_ ?_
        · exact hM.m (by decide)
        · rw [mf_n (by decide)]; exact j3
        · rw [mf_n (by decide)]; exact j4
        · rw [mf_n (by decide), j12, if_neg (show ¬ 4 < k by omega), if_neg (show ¬ 4 < k + 1 by omega)]
        · rw [mf_s]
      · skip
        have htk : ((nmF tb n 4 s)).take (k + 1) = ((nmF tb n 4 s)).take k := by
          rw [List.take_of_length_le (by have := nmF_len tb n 4 s; omega), List.take_of_length_le (by have := nmF_len tb n 4 s; omega)]
        refine Ex.iload_n (pc := 204) dX10_ahead_204 rfl rfl ?_
        refine Ex.aload_n (pc := 205) dX10_ahead_205 rfl rfl ?_
        refine Ex.getI (pc := 206) dX10_ahead_206 fX10_17 (sh36 _) ?_
        refine Ex.icmp_ge (pc := 209) (tgt := 334) dX10_ahead_209 (by decide) (fun c209 => absurd c209 (by rw [j2]; exact nI_ge hkn (by omega))) (fun _ => ?_)
        refine Ex.iload_n (pc := 212) dX10_ahead_212 rfl rfl ?_
        refine Ex.if_eq (pc := 213) (tgt := 231) dX10_ahead_213 (by decide) (fun _ => ?_) (fun c213 => absurd (by decide) c213)
        refine Ex.aload_n (pc := 231) dX10_ahead_231 rfl rfl ?_
        refine Ex.getR (pc := 232) dX10_ahead_232 fX10_7 (sh36 _) r36_0 ?_
        refine Ex.iload_n (pc := 235) dX10_ahead_235 rfl rfl ?_
        refine Ex.iald (pc := 236) (j := s + k) dX10_ahead_236 (sh37 _) ixk ixc ?_
        rw [e1]
        refine Ex.callS (pc := 237) (As := [.int _]) (rest := []) dX10_ahead_237 cX10_238 (tm_isDigit hb) rfl rfl (by decide) (Nat.le_refl _) (Nat.le_refl _) (Nat.le_of_ble_eq_true rfl) (Or.inl (fun r S' h => by obtain ⟨_, h⟩ := h; subst h; rfl)) (fun r S' hq _ _ => ?_)
        obtain ⟨rfl, rfl⟩ := hq
        refine Ex.if_eq (pc := 240) (tgt := 334) dX10_ahead_240 (by decide) (fun c240 => absurd c240 (by rw [hX]; decide)) (fun _ => ?_)
        refine Ex.iload (pc := 243) dX10_ahead_243 rfl ?_
        refine Ex.iload (pc := 245) dX10_ahead_245 rfl ?_
        refine Ex.icmp_ne (pc := 247) (tgt := 263) dX10_ahead_247 (by decide) (fun c247 => absurd (by rw [hk6]; rfl) c247) (fun _ => ?_)
        refine Ex.aload_n (pc := 250) dX10_ahead_250 rfl rfl ?_
        refine Ex.getI (pc := 251) dX10_ahead_251 fX10_48 (sh36 _) ?_
        refine Ex.iconst (pc := 254) (v := (-1)) dX10_ahead_254 rfl ?_
        refine Ex.icmp_ne (pc := 255) (tgt := 263) dX10_ahead_255 (by decide) (fun c255 => ?_) (fun c255 => ?_)
        · skip
          refine Ex.iload (pc := 263) dX10_ahead_263 rfl ?_
          refine Ex.iload (pc := 265) dX10_ahead_265 rfl ?_
          refine Ex.icmp_ge (pc := 267) (tgt := 293) dX10_ahead_267 (by decide) (fun _ => ?_) (fun c267 => absurd (by rw [hk6]; decide) c267)
          refine Ex.iload (pc := 293) dX10_ahead_293 rfl ?_
          refine Ex.iload (pc := 295) dX10_ahead_295 rfl ?_
          refine Ex.icmp_ge (pc := 297) (tgt := 325) dX10_ahead_297 (by decide) (fun _ => ?_) (fun c297 => absurd (by rw [hk6]; decide) c297)
          refine Ex.iinc (pc := 325) (ls' := [some (.ref 36), some (.int _), some (.int 0), some (.int 1), some (.int 4), some (.int _)]) dX10_ahead_325 rfl rfl (by decide) rfl rfl ?_
          refine Ex.iinc (pc := 328) (ls' := [some (.ref 36), some (.int _), some (.int 0), some (.int 1), some (.int 4), some (.int _)]) dX10_ahead_328 rfl rfl (by decide) rfl rfl ?_
          refine Ex.goto (pc := 331) (tgt := 204) dX10_ahead_331 (by decide) ?_
          rw [show nI k + Int32.ofInt 1 = nI (k + 1) from nI_1 k, show nI (s + k) + Int32.ofInt 1 = nI (s + (k + 1)) from nI_1 (s + k)]
          refine ih (k + 1) J M (by omega) (by omega) hall2 ?_ ?_ ?_ ?_ ?_
          · exact hM
          · exact j3
          · exact j4
          · rw [if_pos (show 4 < k + 1 by omega)]
            by_cases had : adM tb s = true
            · rw [j12, if_pos had, if_pos had]
            · exact absurd (by rw [j12, if_neg had, if_neg (show ¬ 4 < k by omega)]) c255
          · rw [htk]; exact jv
        · skip
          refine Ex.aload_n (pc := 258) dX10_ahead_258 rfl rfl ?_
          refine Ex.iload_n (pc := 259) dX10_ahead_259 rfl rfl ?_
          refine Ex.putI (pc := 260) dX10_ahead_260 fX10_48 (sh36 _) (Or.inl rfl) ⟨rfl, rfl⟩ ?_
          refine Ex.iload (pc := 263) dX10_ahead_263 rfl ?_
          refine Ex.iload (pc := 265) dX10_ahead_265 rfl ?_
          refine Ex.icmp_ge (pc := 267) (tgt := 293) dX10_ahead_267 (by decide) (fun _ => ?_) (fun c267 => absurd (by rw [hk6]; decide) c267)
          refine Ex.iload (pc := 293) dX10_ahead_293 rfl ?_
          refine Ex.iload (pc := 295) dX10_ahead_295 rfl ?_
          refine Ex.icmp_ge (pc := 297) (tgt := 325) dX10_ahead_297 (by decide) (fun _ => ?_) (fun c297 => absurd (by rw [hk6]; decide) c297)
          refine Ex.iinc (pc := 325) (ls' := [some (.ref 36), some (.int _), some (.int 0), some (.int 1), some (.int 4), some (.int _)]) dX10_ahead_325 rfl rfl (by decide) rfl rfl ?_
          refine Ex.iinc (pc := 328) (ls' := [some (.ref 36), some (.int _), some (.int 0), some (.int 1), some (.int 4), some (.int _)]) dX10_ahead_328 rfl rfl (by decide) rfl rfl ?_
          refine Ex.goto (pc := 331) (tgt := 204) dX10_ahead_331 (by decide) ?_
          rw [show nI k + Int32.ofInt 1 = nI (k + 1) from nI_1 k, show nI (s + k) + Int32.ofInt 1 = nI (s + (k + 1)) from nI_1 (s + k)]
          refine ih (k + 1) (mf J 12 (nI (s + k))) M (by omega) (by omega) hall2 ?_ ?_ ?_ ?_ ?_
          · exact hM.m (by decide)
          · rw [mf_n (by decide)]; exact j3
          · rw [mf_n (by decide)]; exact j4
          · rw [mf_s, if_pos (show 4 < k + 1 by omega)]
            by_cases had : adM tb s = true
            · rw [j12, if_pos had] at c255; exact absurd c255 (fun e => absurd (by rw [e]; decide : nI s < 0) (nI_pos (by omega)))
            · rw [if_neg had, hk6]
          · rw [mf_n (by decide), htk]; exact jv
      · skip
        have htk : ((nmF tb n 4 s)).take (k + 1) = ((nmF tb n 4 s)).take k := by
          rw [List.take_of_length_le (by have := nmF_len tb n 4 s; omega), List.take_of_length_le (by have := nmF_len tb n 4 s; omega)]
        refine Ex.iload_n (pc := 204) dX10_ahead_204 rfl rfl ?_
        refine Ex.aload_n (pc := 205) dX10_ahead_205 rfl rfl ?_
        refine Ex.getI (pc := 206) dX10_ahead_206 fX10_17 (sh36 _) ?_
        refine Ex.icmp_ge (pc := 209) (tgt := 334) dX10_ahead_209 (by decide) (fun c209 => absurd c209 (by rw [j2]; exact nI_ge hkn (by omega))) (fun _ => ?_)
        refine Ex.iload_n (pc := 212) dX10_ahead_212 rfl rfl ?_
        refine Ex.if_eq (pc := 213) (tgt := 231) dX10_ahead_213 (by decide) (fun _ => ?_) (fun c213 => absurd (by decide) c213)
        refine Ex.aload_n (pc := 231) dX10_ahead_231 rfl rfl ?_
        refine Ex.getR (pc := 232) dX10_ahead_232 fX10_7 (sh36 _) r36_0 ?_
        refine Ex.iload_n (pc := 235) dX10_ahead_235 rfl rfl ?_
        refine Ex.iald (pc := 236) (j := s + k) dX10_ahead_236 (sh37 _) ixk ixc ?_
        rw [e1]
        refine Ex.callS (pc := 237) (As := [.int _]) (rest := []) dX10_ahead_237 cX10_238 (tm_isDigit hb) rfl rfl (by decide) (Nat.le_refl _) (Nat.le_refl _) (Nat.le_of_ble_eq_true rfl) (Or.inl (fun r S' h => by obtain ⟨_, h⟩ := h; subst h; rfl)) (fun r S' hq _ _ => ?_)
        obtain ⟨rfl, rfl⟩ := hq
        refine Ex.if_eq (pc := 240) (tgt := 334) dX10_ahead_240 (by decide) (fun c240 => absurd c240 (by rw [hX]; decide)) (fun _ => ?_)
        refine Ex.iload (pc := 243) dX10_ahead_243 rfl ?_
        refine Ex.iload (pc := 245) dX10_ahead_245 rfl ?_
        refine Ex.icmp_ne (pc := 247) (tgt := 263) dX10_ahead_247 (by decide) (fun _ => ?_) (fun c247 => absurd c247 (fun e => absurd ((nI_eq (by omega) (by decide)).mp (show nI k = nI 4 from e)) (by omega)))
        refine Ex.iload (pc := 263) dX10_ahead_263 rfl ?_
        refine Ex.iload (pc := 265) dX10_ahead_265 rfl ?_
        refine Ex.icmp_ge (pc := 267) (tgt := 293) dX10_ahead_267 (by decide) (fun _ => ?_) (fun c267 => absurd (nI_le (a := 4) (by omega) (by omega)) c267)
        refine Ex.iload (pc := 293) dX10_ahead_293 rfl ?_
        refine Ex.iload (pc := 295) dX10_ahead_295 rfl ?_
        refine Ex.icmp_ge (pc := 297) (tgt := 325) dX10_ahead_297 (by decide) (fun _ => ?_) (fun c297 => absurd (nI_le (a := 4) (by omega) (by omega)) c297)
        refine Ex.iinc (pc := 325) (ls' := [some (.ref 36), some (.int _), some (.int 0), some (.int 1), some (.int 4), some (.int _)]) dX10_ahead_325 rfl rfl (by decide) rfl rfl ?_
        refine Ex.iinc (pc := 328) (ls' := [some (.ref 36), some (.int _), some (.int 0), some (.int 1), some (.int 4), some (.int _)]) dX10_ahead_328 rfl rfl (by decide) rfl rfl ?_
        refine Ex.goto (pc := 331) (tgt := 204) dX10_ahead_331 (by decide) ?_
        rw [show nI k + Int32.ofInt 1 = nI (k + 1) from nI_1 k, show nI (s + k) + Int32.ofInt 1 = nI (s + (k + 1)) from nI_1 (s + k)]
        refine ih (k + 1) J M (by omega) (by omega) hall2 ?_ ?_ ?_ ?_ ?_
        · exact hM
        · exact j3
        · exact j4
        · rw [j12, if_pos (show 4 < k by omega), if_pos (show 4 < k + 1 by omega)]
        · rw [htk]; exact jv
    · have hex : ¬ (s + k < n ∧ isD (tb (s + k)) = true) := fun q => hX q.2
      have hXf := Bool.eq_false_iff.mpr hX
      refine Ex.iload_n (pc := 204) dX10_ahead_204 rfl rfl ?_
      refine Ex.aload_n (pc := 205) dX10_ahead_205 rfl rfl ?_
      refine Ex.getI (pc := 206) dX10_ahead_206 fX10_17 (sh36 _) ?_
      refine Ex.icmp_ge (pc := 209) (tgt := 334) dX10_ahead_209 (by decide) (fun c209 => absurd c209 (by rw [j2]; exact nI_ge hkn (by omega))) (fun _ => ?_)
      refine Ex.iload_n (pc := 212) dX10_ahead_212 rfl rfl ?_
      refine Ex.if_eq (pc := 213) (tgt := 231) dX10_ahead_213 (by decide) (fun _ => ?_) (fun c213 => absurd (by decide) c213)
      refine Ex.aload_n (pc := 231) dX10_ahead_231 rfl rfl ?_
      refine Ex.getR (pc := 232) dX10_ahead_232 fX10_7 (sh36 _) r36_0 ?_
      refine Ex.iload_n (pc := 235) dX10_ahead_235 rfl rfl ?_
      refine Ex.iald (pc := 236) (j := s + k) dX10_ahead_236 (sh37 _) ixk ixc ?_
      rw [e1]
      refine Ex.callS (pc := 237) (As := [.int _]) (rest := []) dX10_ahead_237 cX10_238 (tm_isDigit hb) rfl rfl (by decide) (Nat.le_refl _) (Nat.le_refl _) (Nat.le_of_ble_eq_true rfl) (Or.inl (fun r S' h => by obtain ⟨_, h⟩ := h; subst h; rfl)) (fun r S' hq _ _ => ?_)
      obtain ⟨rfl, rfl⟩ := hq
      refine Ex.if_eq (pc := 240) (tgt := 334) dX10_ahead_240 (by decide) (fun _ => ?_) (fun c240 => absurd (by rw [hXf]; rfl) c240)
      refine Ex.aload_n (pc := 334) dX10_ahead_334 rfl rfl ?_
      refine Ex.iload_n (pc := 335) dX10_ahead_335 rfl rfl ?_
      refine Ex.putI (pc := 336) dX10_ahead_336 fX10_26 (sh36 _) (Or.inl rfl) ⟨rfl, rfl⟩ ?_
      refine Ex.vret (pc := 339) rfl dX10_ahead_339 (Nat.le_refl _) (Nat.le_refl _) ?_
      refine ⟨mf J 5 (nI (s + k)), M, rfl, rfl, hM.m (by decide), ?_⟩
      rw [hs]
      have hlen := nm_len hall hk
      have hat := nmF_at tb n 4 s
      have hle := nmF_len tb n 4 s
      have hlk : (nmF tb n 4 s).length ≤ k := Nat.le_of_not_lt fun z => hex ⟨(hat k z).1, (hat k z).2.1⟩
      unfold tokA
      rw [if_neg (by omega)]
      by_cases had : adM tb s = true
      · have hsa : s = a := by rw [← hs] at had ⊢; exact adM_a had
        rw [if_pos ⟨had, hsa, by rw [hL0]; exact Bool.or_true _⟩]
        refine ⟨?_, hsn, by rw [mf_n (by decide), j3]; decide⟩
        rw [mf_n (by decide), j12, if_pos had]
      · rw [if_neg (fun q => had q.1)]
        unfold tokS
        rw [if_neg (fun q => by rw [isL_isD q] at hL0; cases hL0), if_pos hL0]
        by_cases h6 : 4 < k
        · have hl6 : (nmF tb n 4 s).length = 4 := by rw [if_neg (by omega)] at hlen; omega
          rw [if_pos (show lexN tb n s = true from decide_eq_true (by rw [hl6]; exact ⟨by omega, hall 4 h6⟩)), hl6]
          refine ⟨?_, by omega, by rw [mf_n (by decide), j3]; decide⟩
          rw [mf_n (by decide), j12, if_neg had, if_pos h6]
        · have hl6 : (nmF tb n 4 s).length = k := by split at hlen <;> omega
          rw [if_neg (fun q => hex (by have := of_decide_eq_true q; rw [hl6] at this; exact this)), hl6]
          refine ⟨?_, ?_, ?_, ?_, ?_, ?_⟩
          · rw [mf_n (by decide), j12, if_neg had, if_neg h6]
          · rw [mf_n (by decide)]; exact j3
          · rw [mf_n (by decide)]; exact j4
          · rw [mf_s]
          · intro q; exact absurd (show (3 : Nat) = 2 from q) (by decide)
          · intro _
            rw [mf_n (by decide), jv, List.take_of_length_le (by omega)]
set_option maxRecDepth 20000 in
set_option maxRecDepth 20000 in
theorem tm_ahead {N n a : Nat} {I : aI} {L : aL} {tb : Nat → Nat} (hT : TxM I tb n) (h2 : I 36 2 = nI n) (hn : n ≤ 1600) (h5 : I 36 5 = nI a) (ha : a ≤ n) : Run 1 0 0 mX10_ahead [.ref 36] (St N I L) (fun r S' => ∃ I2 L2, r = none ∧ S' = St N I2 L2 ∧ MkF I L I2 L2 ∧ TmE n I2 L2 (tokA tb n a (sk tb n a) (adM tb (sk tb n a)))) := by
  refine Run.of (ls := [some (.ref 36), none, none, none, none, none]) (by decide) (Nat.le_of_ble_eq_true rfl) rfl ?_
  have hsl := sk_le tb n a
  have hsn := sk_n (tb := tb) ha
  obtain ⟨s, hs⟩ : ∃ s, sk tb n a = s := ⟨_, rfl⟩
  obtain ⟨J, hJ⟩ : ∃ z, z = mf (mf (mf (mf I 4 (nI s)) 5 (nI s)) 3 0) 12 (-1) := ⟨_, rfl⟩
  have hM : MkF I L J L := by
    rw [hJ]
    exact ((((show MkF I L I L from ⟨Sm.rf, fun _ _ => rfl, SmL.rf, fun _ _ => rfl⟩).m (by decide)).m (by decide)).m (by decide)).m (by decide)
  have j12 : J 36 12 = -1 := by rw [hJ, mf_s]
  have j3 : J 36 3 = 0 := by rw [hJ, mf_n (by decide), mf_s]
  have j5 : J 36 5 = nI s := by rw [hJ, mf_n (by decide), mf_n (by decide), mf_s]
  have j4 : J 36 4 = nI s := by rw [hJ, mf_n (by decide), mf_n (by decide), mf_n (by decide), mf_s]
  have j2 : J 36 2 = nI n := by rw [hM.2.1 2 (by decide)]; exact h2
  have gT : TxM J tb n := hT.sm hM.1 (by decide)
  have k41 : Ex 1 0 0 mX10_ahead 0 0 41 [some (.ref 36), some (.int (nI s)), none, none, none, none] [] (St N I L) (fun r S' => ∃ I2 L2, r = none ∧ S' = St N I2 L2 ∧ MkF I L I2 L2 ∧ TmE n I2 L2 (tokA tb n a (sk tb n a) (adM tb (sk tb n a)))) := by
    rcases Nat.lt_or_ge s n with hlt | hge
    · obtain ⟨hb, e1⟩ := gT s hlt
      have ixk : vp_in (nI s) 1800 := vp_in_nI (by omega) (by decide)
      have ixc : (nI s).toNatClampNeg = s := nI_clamp (by omega)
      have k135 : ∀ K : aI, MkF I L K L → K 36 4 = nI s → K 36 12 = (if adM tb s = true ∧ (isL (tb s) || isD (tb s)) = true then nI s else -1) → Ex 1 0 0 mX10_ahead 0 0 135 [some (.ref 36), some (.int (nI s)), some (.int (bI (isL (tb s)))), some (.int (bI (isD (tb s)))), none, none] [] (St N K L) (fun r S' => ∃ I2 L2, r = none ∧ S' = St N I2 L2 ∧ MkF I L I2 L2 ∧ TmE n I2 L2 (tokA tb n a (sk tb n a) (adM tb (sk tb n a)))) := by
        intro K hK k4 k12
        obtain ⟨J2, hJ2⟩ : ∃ z, z = mf (mf (mf K 6 0) 3 3) 5 (nI (s + 1)) := ⟨_, rfl⟩
        obtain ⟨M2, hM2⟩ : ∃ z, z = va_up L 36 (vp_updL (L 36) 7 0) := ⟨_, rfl⟩
        have hK2 : MkF I L J2 M2 := by rw [hJ2, hM2]; exact (((hK.m (by decide)).m (by decide)).m (by decide)).l
        have g12 : J2 36 12 = K 36 12 := by rw [hJ2, mf_n (by decide), mf_n (by decide), mf_n (by decide)]
        have g4 : J2 36 4 = nI s := by rw [hJ2, mf_n (by decide), mf_n (by decide), mf_n (by decide)]; exact k4
        have g3 : J2 36 3 = 3 := by rw [hJ2, mf_n (by decide), mf_s]
        have g5 : J2 36 5 = nI (s + 1) := by rw [hJ2, mf_s]
        have g6 : J2 36 6 = 0 := by rw [hJ2, mf_n (by decide), mf_n (by decide), mf_s]
        have gT2 : TxM J2 tb n := hT.sm hK2.1 (by decide)
        have m7 : M2 36 7 = 0 := by rw [hM2, va_up_s]; simp only [vp_updL, if_true]
        cases hl : isL (tb s) with
        | true =>
          have hd : isD (tb s) = false := isL_isD hl
          rw [hd]
          rw [hl] at k12
          refine Ex.aload_n (pc := 135) dX10_ahead_135 rfl rfl ?_
          refine Ex.iconst (pc := 136) (v := 0) dX10_ahead_136 rfl ?_
          refine Ex.putI (pc := 137) dX10_ahead_137 fX10_29 (sh36 _) (Or.inl rfl) ⟨rfl, rfl⟩ ?_
          refine Ex.aload_n (pc := 140) dX10_ahead_140 rfl rfl ?_
          refine Ex.lconst (pc := 141) (v := 0) dX10_ahead_141 rfl ?_
          refine Ex.putL (pc := 142) dX10_ahead_142 fX10_32 (sh36 _) (Or.inl rfl) ⟨rfl, rfl⟩ ?_
          refine Ex.aload_n (pc := 145) dX10_ahead_145 rfl rfl ?_
          refine Ex.iconst (pc := 146) (v := 3) dX10_ahead_146 rfl ?_
          refine Ex.putI (pc := 147) dX10_ahead_147 fX10_20 (sh36 _) (Or.inl rfl) ⟨rfl, rfl⟩ ?_
          refine Ex.aload_n (pc := 150) dX10_ahead_150 rfl rfl ?_
          refine Ex.iload_n (pc := 151) dX10_ahead_151 rfl rfl ?_
          refine Ex.iconst (pc := 152) (v := 1) dX10_ahead_152 rfl ?_
          refine Ex.iadd (pc := 153) dX10_ahead_153 ?_
          refine Ex.putI (pc := 154) dX10_ahead_154 fX10_26 (sh36 _) (Or.inl rfl) ⟨rfl, rfl⟩ ?_
          refine Ex.mm (S' := St N J2 M2) ?_ ?_
          · rw [hJ2, hM2, show nI (s + 1) = nI s + 1 from (nI_1 s).symm]; rfl
          refine Ex.iload_n (pc := 157) dX10_ahead_157 rfl rfl ?_
          refine Ex.if_ne (pc := 158) (tgt := 176) dX10_ahead_158 (by decide) (fun _ => ?_) (fun c158 => absurd c158 (by decide))
          refine Ex.aload_n (pc := 176) dX10_ahead_176 rfl rfl ?_
          refine Ex.iload_n (pc := 177) dX10_ahead_177 rfl rfl ?_
          refine Ex.if_eq (pc := 178) (tgt := 185) dX10_ahead_178 (by decide) (fun c178 => absurd c178 (by decide)) (fun _ => ?_)
          refine Ex.iconst (pc := 181) (v := 1) dX10_ahead_181 rfl ?_
          refine Ex.goto (pc := 182) (tgt := 186) dX10_ahead_182 (by decide) ?_
          refine Ex.putI (pc := 186) dX10_ahead_186 fX10_20 (sh36 _) (Or.inl rfl) ⟨rfl, rfl⟩ ?_
          refine Ex.iload_n (pc := 189) dX10_ahead_189 rfl rfl ?_
          refine Ex.if_eq (pc := 190) (tgt := 198) dX10_ahead_190 (by decide) (fun c190 => absurd c190 (by decide)) (fun _ => ?_)
          refine Ex.bipush (pc := 193) (v := 6) dX10_ahead_193 rfl ?_
          refine Ex.goto (pc := 195) (tgt := 199) dX10_ahead_195 (by decide) ?_
          refine Ex.istore (pc := 199) (ls' := [some (.ref 36), some (.int _), some (.int 1), some (.int 0), some (.int 6), none]) dX10_ahead_199 (by decide) rfl rfl ?_
          refine Ex.iconst (pc := 201) (v := 0) dX10_ahead_201 rfl ?_
          refine Ex.istore (pc := 202) (ls' := [some (.ref 36), some (.int _), some (.int 1), some (.int 0), some (.int 6), some (.int 0)]) dX10_ahead_202 (by decide) rfl rfl ?_
          refine Ex.le (ls' := [some (.ref 36), some (.int (nI (s + 0))), some (.int 1), some (.int 0), some (.int 6), some (.int (nI 0))]) ⟨rfl, rfl, rfl, rfl, rfl, rfl, trivial⟩ ?_
          refine ah_w (I := I) (L := L) hT h2 hn hs hlt hl (n - s) 0 (mf J2 3 1) M2 (by omega) (by omega) (fun i hi => absurd hi (Nat.not_lt_zero _)) (hK2.m (by decide)) mf_s ?_ ?_ ?_
          · rw [mf_n (by decide)]; exact g4
          · rw [mf_n (by decide), g12, k12]
            by_cases had : adM tb s = true
            · rw [if_pos ⟨had, rfl⟩, if_pos had]
            · rw [if_neg (fun q => had q.1), if_neg had, if_neg (by decide)]
          · rw [m7]; rfl
        | false =>
          rw [hl] at k12
          cases hd : isD (tb s) with
          | true =>
            rw [hd] at k12
            refine Ex.aload_n (pc := 135) dX10_ahead_135 rfl rfl ?_
            refine Ex.iconst (pc := 136) (v := 0) dX10_ahead_136 rfl ?_
            refine Ex.putI (pc := 137) dX10_ahead_137 fX10_29 (sh36 _) (Or.inl rfl) ⟨rfl, rfl⟩ ?_
            refine Ex.aload_n (pc := 140) dX10_ahead_140 rfl rfl ?_
            refine Ex.lconst (pc := 141) (v := 0) dX10_ahead_141 rfl ?_
            refine Ex.putL (pc := 142) dX10_ahead_142 fX10_32 (sh36 _) (Or.inl rfl) ⟨rfl, rfl⟩ ?_
            refine Ex.aload_n (pc := 145) dX10_ahead_145 rfl rfl ?_
            refine Ex.iconst (pc := 146) (v := 3) dX10_ahead_146 rfl ?_
            refine Ex.putI (pc := 147) dX10_ahead_147 fX10_20 (sh36 _) (Or.inl rfl) ⟨rfl, rfl⟩ ?_
            refine Ex.aload_n (pc := 150) dX10_ahead_150 rfl rfl ?_
            refine Ex.iload_n (pc := 151) dX10_ahead_151 rfl rfl ?_
            refine Ex.iconst (pc := 152) (v := 1) dX10_ahead_152 rfl ?_
            refine Ex.iadd (pc := 153) dX10_ahead_153 ?_
            refine Ex.putI (pc := 154) dX10_ahead_154 fX10_26 (sh36 _) (Or.inl rfl) ⟨rfl, rfl⟩ ?_
            refine Ex.mm (S' := St N J2 M2) ?_ ?_
            · rw [hJ2, hM2, show nI (s + 1) = nI s + 1 from (nI_1 s).symm]; rfl
            refine Ex.iload_n (pc := 157) dX10_ahead_157 rfl rfl ?_
            refine Ex.if_ne (pc := 158) (tgt := 176) dX10_ahead_158 (by decide) (fun c158 => absurd (by decide) c158) (fun _ => ?_)
            refine Ex.iload_n (pc := 161) dX10_ahead_161 rfl rfl ?_
            refine Ex.if_ne (pc := 162) (tgt := 176) dX10_ahead_162 (by decide) (fun _ => ?_) (fun c162 => absurd c162 (by decide))
            refine Ex.aload_n (pc := 176) dX10_ahead_176 rfl rfl ?_
            refine Ex.iload_n (pc := 177) dX10_ahead_177 rfl rfl ?_
            refine Ex.if_eq (pc := 178) (tgt := 185) dX10_ahead_178 (by decide) (fun _ => ?_) (fun c178 => absurd (by decide) c178)
            refine Ex.iconst (pc := 185) (v := 2) dX10_ahead_185 rfl ?_
            refine Ex.putI (pc := 186) dX10_ahead_186 fX10_20 (sh36 _) (Or.inl rfl) ⟨rfl, rfl⟩ ?_
            refine Ex.iload_n (pc := 189) dX10_ahead_189 rfl rfl ?_
            refine Ex.if_eq (pc := 190) (tgt := 198) dX10_ahead_190 (by decide) (fun _ => ?_) (fun c190 => absurd (by decide) c190)
            refine Ex.iconst (pc := 198) (v := 4) dX10_ahead_198 rfl ?_
            refine Ex.istore (pc := 199) (ls' := [some (.ref 36), some (.int _), some (.int 0), some (.int 1), some (.int 4), none]) dX10_ahead_199 (by decide) rfl rfl ?_
            refine Ex.iconst (pc := 201) (v := 0) dX10_ahead_201 rfl ?_
            refine Ex.istore (pc := 202) (ls' := [some (.ref 36), some (.int _), some (.int 0), some (.int 1), some (.int 4), some (.int 0)]) dX10_ahead_202 (by decide) rfl rfl ?_
            refine Ex.le (ls' := [some (.ref 36), some (.int (nI (s + 0))), some (.int 0), some (.int 1), some (.int 4), some (.int (nI 0))]) ⟨rfl, rfl, rfl, rfl, rfl, rfl, trivial⟩ ?_
            refine ah_d (I := I) (L := L) hT h2 hn hs hlt hd (n - s) 0 (mf J2 3 2) M2 (by omega) (by omega) (fun i hi => absurd hi (Nat.not_lt_zero _)) (hK2.m (by decide)) mf_s ?_ ?_ ?_
            · rw [mf_n (by decide)]; exact g4
            · rw [mf_n (by decide), g12, k12]
              by_cases had : adM tb s = true
              · rw [if_pos ⟨had, rfl⟩, if_pos had]
              · rw [if_neg (fun q => had q.1), if_neg had, if_neg (by decide)]
            · rw [mf_n (by decide), g6]; rfl
          | false =>
            rw [hd] at k12
            refine Ex.aload_n (pc := 135) dX10_ahead_135 rfl rfl ?_
            refine Ex.iconst (pc := 136) (v := 0) dX10_ahead_136 rfl ?_
            refine Ex.putI (pc := 137) dX10_ahead_137 fX10_29 (sh36 _) (Or.inl rfl) ⟨rfl, rfl⟩ ?_
            refine Ex.aload_n (pc := 140) dX10_ahead_140 rfl rfl ?_
            refine Ex.lconst (pc := 141) (v := 0) dX10_ahead_141 rfl ?_
            refine Ex.putL (pc := 142) dX10_ahead_142 fX10_32 (sh36 _) (Or.inl rfl) ⟨rfl, rfl⟩ ?_
            refine Ex.aload_n (pc := 145) dX10_ahead_145 rfl rfl ?_
            refine Ex.iconst (pc := 146) (v := 3) dX10_ahead_146 rfl ?_
            refine Ex.putI (pc := 147) dX10_ahead_147 fX10_20 (sh36 _) (Or.inl rfl) ⟨rfl, rfl⟩ ?_
            refine Ex.aload_n (pc := 150) dX10_ahead_150 rfl rfl ?_
            refine Ex.iload_n (pc := 151) dX10_ahead_151 rfl rfl ?_
            refine Ex.iconst (pc := 152) (v := 1) dX10_ahead_152 rfl ?_
            refine Ex.iadd (pc := 153) dX10_ahead_153 ?_
            refine Ex.putI (pc := 154) dX10_ahead_154 fX10_26 (sh36 _) (Or.inl rfl) ⟨rfl, rfl⟩ ?_
            refine Ex.mm (S' := St N J2 M2) ?_ ?_
            · rw [hJ2, hM2, show nI (s + 1) = nI s + 1 from (nI_1 s).symm]; rfl
            refine Ex.iload_n (pc := 157) dX10_ahead_157 rfl rfl ?_
            refine Ex.if_ne (pc := 158) (tgt := 176) dX10_ahead_158 (by decide) (fun c158 => absurd (by decide) c158) (fun _ => ?_)
            refine Ex.iload_n (pc := 161) dX10_ahead_161 rfl rfl ?_
            refine Ex.if_ne (pc := 162) (tgt := 176) dX10_ahead_162 (by decide) (fun c162 => absurd (by decide) c162) (fun _ => ?_)
            refine Ex.aload_n (pc := 165) dX10_ahead_165 rfl rfl ?_
            refine Ex.aload_n (pc := 166) dX10_ahead_166 rfl rfl ?_
            refine Ex.getR (pc := 167) dX10_ahead_167 fX10_7 (sh36 _) r36_0 ?_
            refine Ex.iload_n (pc := 170) dX10_ahead_170 rfl rfl ?_
            refine Ex.iald (pc := 171) (j := s) dX10_ahead_171 (sh37 _) ixk ixc ?_
            refine Ex.putI (pc := 172) dX10_ahead_172 fX10_29 (sh36 _) (Or.inl rfl) ⟨rfl, rfl⟩ ?_
            refine Ex.vret (pc := 175) rfl dX10_ahead_175 (Nat.le_refl _) (Nat.le_refl _) ?_
            obtain ⟨hb2, e2⟩ := gT2 s hlt
            refine ⟨mf J2 6 (nI (tb s)), M2, rfl, by rw [← e2]; rfl, hK2.m (by decide), ?_⟩
            rw [hs]
            unfold tokA
            rw [if_neg (by omega), if_neg (fun q => by have := q.2.2; rw [hl, hd] at this; cases this)]
            unfold tokS
            rw [if_neg (by rw [hl]; decide), if_neg (by rw [hd]; decide)]
            refine ⟨?_, ?_, ?_, ?_, fun q => absurd (show (4 : Nat) = 2 from q) (by decide), fun _ => ?_⟩
            · rw [mf_n (by decide), g12, k12, if_neg (fun q => by have := q.2; cases this)]
            · rw [mf_n (by decide)]; exact g3
            · rw [mf_n (by decide)]; exact g4
            · rw [mf_n (by decide)]; exact g5
            · rw [mf_s]
      refine Ex.aload_n (pc := 41) dX10_ahead_41 rfl rfl ?_
      refine Ex.iload_n (pc := 42) dX10_ahead_42 rfl rfl ?_
      refine Ex.putI (pc := 43) dX10_ahead_43 fX10_23 (sh36 _) (Or.inl rfl) ⟨rfl, rfl⟩ ?_
      refine Ex.aload_n (pc := 46) dX10_ahead_46 rfl rfl ?_
      refine Ex.iload_n (pc := 47) dX10_ahead_47 rfl rfl ?_
      refine Ex.putI (pc := 48) dX10_ahead_48 fX10_26 (sh36 _) (Or.inl rfl) ⟨rfl, rfl⟩ ?_
      refine Ex.aload_n (pc := 51) dX10_ahead_51 rfl rfl ?_
      refine Ex.iconst (pc := 52) (v := 0) dX10_ahead_52 rfl ?_
      refine Ex.putI (pc := 53) dX10_ahead_53 fX10_20 (sh36 _) (Or.inl rfl) ⟨rfl, rfl⟩ ?_
      refine Ex.aload_n (pc := 56) dX10_ahead_56 rfl rfl ?_
      refine Ex.iconst (pc := 57) (v := (-1)) dX10_ahead_57 rfl ?_
      refine Ex.putI (pc := 58) dX10_ahead_58 fX10_48 (sh36 _) (Or.inl rfl) ⟨rfl, rfl⟩ ?_
      refine Ex.mm (S' := St N J L) ?_ ?_
      · rw [hJ]; rfl
      refine Ex.iload_n (pc := 61) dX10_ahead_61 rfl rfl ?_
      refine Ex.aload_n (pc := 62) dX10_ahead_62 rfl rfl ?_
      refine Ex.getI (pc := 63) dX10_ahead_63 fX10_17 (sh36 _) ?_
      refine Ex.icmp_lt (pc := 66) (tgt := 70) dX10_ahead_66 (by decide) (fun _ => ?_) (fun c66 => absurd (by rw [j2]; exact nI_lt hlt (by omega)) c66)
      refine Ex.aload_n (pc := 70) dX10_ahead_70 rfl rfl ?_
      refine Ex.getR (pc := 71) dX10_ahead_71 fX10_7 (sh36 _) r36_0 ?_
      refine Ex.iload_n (pc := 74) dX10_ahead_74 rfl rfl ?_
      refine Ex.iald (pc := 75) (j := s) dX10_ahead_75 (sh37 _) ixk ixc ?_
      rw [e1]
      refine Ex.callS (pc := 76) (As := [.int _]) (rest := []) dX10_ahead_76 cX10_234 (tm_isLetter hb) rfl rfl (by decide) (Nat.le_refl _) (Nat.le_refl _) (Nat.le_of_ble_eq_true rfl) (Or.inl (fun r S' h => by obtain ⟨_, h⟩ := h; subst h; rfl)) (fun r S' hq _ _ => ?_)
      obtain ⟨rfl, rfl⟩ := hq
      refine Ex.istore_n (pc := 79) (ls' := [some (.ref 36), some (.int _), some (.int _), none, none, none]) dX10_ahead_79 rfl (by decide) rfl rfl ?_
      refine Ex.aload_n (pc := 80) dX10_ahead_80 rfl rfl ?_
      refine Ex.getR (pc := 81) dX10_ahead_81 fX10_7 (sh36 _) r36_0 ?_
      refine Ex.iload_n (pc := 84) dX10_ahead_84 rfl rfl ?_
      refine Ex.iald (pc := 85) (j := s) dX10_ahead_85 (sh37 _) ixk ixc ?_
      rw [e1]
      refine Ex.callS (pc := 86) (As := [.int _]) (rest := []) dX10_ahead_86 cX10_238 (tm_isDigit hb) rfl rfl (by decide) (Nat.le_refl _) (Nat.le_refl _) (Nat.le_of_ble_eq_true rfl) (Or.inl (fun r S' h => by obtain ⟨_, h⟩ := h; subst h; rfl)) (fun r S' hq _ _ => ?_)
      obtain ⟨rfl, rfl⟩ := hq
      refine Ex.istore_n (pc := 89) (ls' := [some (.ref 36), some (.int _), some (.int _), some (.int _), none, none]) dX10_ahead_89 rfl (by decide) rfl rfl ?_
      refine Ex.iload_n (pc := 90) dX10_ahead_90 rfl rfl ?_
      refine Ex.if_ne (pc := 91) (tgt := 98) dX10_ahead_91 (by decide) (fun c91 => ?_) (fun c91 => ?_)
      · skip
        refine Ex.iload_n (pc := 98) dX10_ahead_98 rfl rfl ?_
        refine Ex.if_le (pc := 99) (tgt := 135) dX10_ahead_99 (by decide) (fun c99 => ?_) (fun c99 => ?_)
        · skip
          have hs0 : ¬ 0 < s := fun z => by have := nI_lt (a := 0) z (by omega); exact absurd c99 (Int32.not_le.mpr this)
          refine Ex.le (ls' := [some (.ref 36), some (.int (nI s)), some (.int (bI (isL (tb s)))), some (.int (bI (isD (tb s)))), none, none]) ⟨rfl, rfl, rfl, rfl, trivial⟩ ?_
          refine k135 J hM j4 ?_
          rw [j12, if_neg (fun q => by have := q.1; unfold adM at this; rw [decide_eq_false hs0, Bool.false_and] at this; cases this)]
        · skip
          have hs0 : 0 < s := Nat.pos_of_ne_zero (fun e => c99 (by rw [e]; decide))
          have hs1 : nI s - 1 = nI (s - 1) := by rw [show (1 : Int32) = nI 1 from rfl]; exact pk_sub (by omega)
          obtain ⟨hb1, e3⟩ := gT (s - 1) (by omega)
          refine Ex.aload_n (pc := 102) dX10_ahead_102 rfl rfl ?_
          refine Ex.getR (pc := 103) dX10_ahead_103 fX10_7 (sh36 _) r36_0 ?_
          refine Ex.iload_n (pc := 106) dX10_ahead_106 rfl rfl ?_
          refine Ex.iconst (pc := 107) (v := 1) dX10_ahead_107 rfl ?_
          refine Ex.isub (pc := 108) dX10_ahead_108 ?_
          refine Ex.iald (pc := 109) (j := s - 1) dX10_ahead_109 (sh37 _) (by rw [hs1]; exact vp_in_nI (by omega) (by decide)) (by rw [hs1]; exact nI_clamp (by omega)) ?_
          rw [e3]
          refine Ex.callS (pc := 110) (As := [.int _]) (rest := []) dX10_ahead_110 cX10_234 (tm_isLetter hb1) rfl rfl (by decide) (Nat.le_refl _) (Nat.le_refl _) (Nat.le_of_ble_eq_true rfl) (Or.inl (fun r S' h => by obtain ⟨_, h⟩ := h; subst h; rfl)) (fun r S' hq _ _ => ?_)
          obtain ⟨rfl, rfl⟩ := hq
          refine Ex.if_ne (pc := 113) (tgt := 130) dX10_ahead_113 (by decide) (fun c113 => ?_) (fun c113 => ?_)
          · skip
            refine Ex.aload_n (pc := 130) dX10_ahead_130 rfl rfl ?_
            refine Ex.iload_n (pc := 131) dX10_ahead_131 rfl rfl ?_
            refine Ex.putI (pc := 132) dX10_ahead_132 fX10_48 (sh36 _) (Or.inl rfl) ⟨rfl, rfl⟩ ?_
            refine Ex.le (ls' := [some (.ref 36), some (.int (nI s)), some (.int (bI (isL (tb s)))), some (.int (bI (isD (tb s)))), none, none]) ⟨rfl, rfl, rfl, rfl, trivial⟩ ?_
            refine k135 (mf J 12 (nI s)) (hM.m (by decide)) (by rw [mf_n (by decide)]; exact j4) ?_
            rw [mf_s, if_pos ⟨by unfold adM; rw [decide_eq_true hs0, Bool.true_and]; rw [bI_1 c113]; rfl, by rw [bI_1 c91]; rfl⟩]
          · skip
            refine Ex.aload_n (pc := 116) dX10_ahead_116 rfl rfl ?_
            refine Ex.getR (pc := 117) dX10_ahead_117 fX10_7 (sh36 _) r36_0 ?_
            refine Ex.iload_n (pc := 120) dX10_ahead_120 rfl rfl ?_
            refine Ex.iconst (pc := 121) (v := 1) dX10_ahead_121 rfl ?_
            refine Ex.isub (pc := 122) dX10_ahead_122 ?_
            refine Ex.iald (pc := 123) (j := s - 1) dX10_ahead_123 (sh37 _) (by rw [hs1]; exact vp_in_nI (by omega) (by decide)) (by rw [hs1]; exact nI_clamp (by omega)) ?_
            rw [e3]
            refine Ex.callS (pc := 124) (As := [.int _]) (rest := []) dX10_ahead_124 cX10_238 (tm_isDigit hb1) rfl rfl (by decide) (Nat.le_refl _) (Nat.le_refl _) (Nat.le_of_ble_eq_true rfl) (Or.inl (fun r S' h => by obtain ⟨_, h⟩ := h; subst h; rfl)) (fun r S' hq _ _ => ?_)
            obtain ⟨rfl, rfl⟩ := hq
            refine Ex.if_eq (pc := 127) (tgt := 135) dX10_ahead_127 (by decide) (fun c127 => ?_) (fun c127 => ?_)
            · skip
              refine Ex.le (ls' := [some (.ref 36), some (.int (nI s)), some (.int (bI (isL (tb s)))), some (.int (bI (isD (tb s)))), none, none]) ⟨rfl, rfl, rfl, rfl, trivial⟩ ?_
              refine k135 J hM j4 ?_
              rw [j12, if_neg (fun q => by have := q.1; unfold adM at this; rw [bI_0 c113, bI_0 c127, Bool.or_self, Bool.and_false] at this; cases this)]
            · skip
              refine Ex.aload_n (pc := 130) dX10_ahead_130 rfl rfl ?_
              refine Ex.iload_n (pc := 131) dX10_ahead_131 rfl rfl ?_
              refine Ex.putI (pc := 132) dX10_ahead_132 fX10_48 (sh36 _) (Or.inl rfl) ⟨rfl, rfl⟩ ?_
              refine Ex.le (ls' := [some (.ref 36), some (.int (nI s)), some (.int (bI (isL (tb s)))), some (.int (bI (isD (tb s)))), none, none]) ⟨rfl, rfl, rfl, rfl, trivial⟩ ?_
              refine k135 (mf J 12 (nI s)) (hM.m (by decide)) (by rw [mf_n (by decide)]; exact j4) ?_
              rw [mf_s, if_pos ⟨by unfold adM; rw [decide_eq_true hs0, Bool.true_and]; rw [bI_1 c127]; exact Bool.or_true _, by rw [bI_1 c91]; rfl⟩]
      · skip
        refine Ex.iload_n (pc := 94) dX10_ahead_94 rfl rfl ?_
        refine Ex.if_eq (pc := 95) (tgt := 135) dX10_ahead_95 (by decide) (fun c95 => ?_) (fun c95 => ?_)
        · skip
          refine Ex.le (ls' := [some (.ref 36), some (.int (nI s)), some (.int (bI (isL (tb s)))), some (.int (bI (isD (tb s)))), none, none]) ⟨rfl, rfl, rfl, rfl, trivial⟩ ?_
          refine k135 J hM j4 ?_
          rw [j12, if_neg (fun q => by rw [bI_0 c91, bI_0 c95] at q; exact absurd q.2 (by decide))]
        · skip
          refine Ex.iload_n (pc := 98) dX10_ahead_98 rfl rfl ?_
          refine Ex.if_le (pc := 99) (tgt := 135) dX10_ahead_99 (by decide) (fun c99 => ?_) (fun c99 => ?_)
          · skip
            have hs0 : ¬ 0 < s := fun z => by have := nI_lt (a := 0) z (by omega); exact absurd c99 (Int32.not_le.mpr this)
            refine Ex.le (ls' := [some (.ref 36), some (.int (nI s)), some (.int (bI (isL (tb s)))), some (.int (bI (isD (tb s)))), none, none]) ⟨rfl, rfl, rfl, rfl, trivial⟩ ?_
            refine k135 J hM j4 ?_
            rw [j12, if_neg (fun q => by have := q.1; unfold adM at this; rw [decide_eq_false hs0, Bool.false_and] at this; cases this)]
          · skip
            have hs0 : 0 < s := Nat.pos_of_ne_zero (fun e => c99 (by rw [e]; decide))
            have hs1 : nI s - 1 = nI (s - 1) := by rw [show (1 : Int32) = nI 1 from rfl]; exact pk_sub (by omega)
            obtain ⟨hb1, e3⟩ := gT (s - 1) (by omega)
            refine Ex.aload_n (pc := 102) dX10_ahead_102 rfl rfl ?_
            refine Ex.getR (pc := 103) dX10_ahead_103 fX10_7 (sh36 _) r36_0 ?_
            refine Ex.iload_n (pc := 106) dX10_ahead_106 rfl rfl ?_
            refine Ex.iconst (pc := 107) (v := 1) dX10_ahead_107 rfl ?_
            refine Ex.isub (pc := 108) dX10_ahead_108 ?_
            refine Ex.iald (pc := 109) (j := s - 1) dX10_ahead_109 (sh37 _) (by rw [hs1]; exact vp_in_nI (by omega) (by decide)) (by rw [hs1]; exact nI_clamp (by omega)) ?_
            rw [e3]
            refine Ex.callS (pc := 110) (As := [.int _]) (rest := []) dX10_ahead_110 cX10_234 (tm_isLetter hb1) rfl rfl (by decide) (Nat.le_refl _) (Nat.le_refl _) (Nat.le_of_ble_eq_true rfl) (Or.inl (fun r S' h => by obtain ⟨_, h⟩ := h; subst h; rfl)) (fun r S' hq _ _ => ?_)
            obtain ⟨rfl, rfl⟩ := hq
            refine Ex.if_ne (pc := 113) (tgt := 130) dX10_ahead_113 (by decide) (fun c113 => ?_) (fun c113 => ?_)
            · skip
              refine Ex.aload_n (pc := 130) dX10_ahead_130 rfl rfl ?_
              refine Ex.iload_n (pc := 131) dX10_ahead_131 rfl rfl ?_
              refine Ex.putI (pc := 132) dX10_ahead_132 fX10_48 (sh36 _) (Or.inl rfl) ⟨rfl, rfl⟩ ?_
              refine Ex.le (ls' := [some (.ref 36), some (.int (nI s)), some (.int (bI (isL (tb s)))), some (.int (bI (isD (tb s)))), none, none]) ⟨rfl, rfl, rfl, rfl, trivial⟩ ?_
              refine k135 (mf J 12 (nI s)) (hM.m (by decide)) (by rw [mf_n (by decide)]; exact j4) ?_
              rw [mf_s, if_pos ⟨by unfold adM; rw [decide_eq_true hs0, Bool.true_and]; rw [bI_1 c113]; rfl, by rw [bI_1 c95]; exact Bool.or_true _⟩]
            · skip
              refine Ex.aload_n (pc := 116) dX10_ahead_116 rfl rfl ?_
              refine Ex.getR (pc := 117) dX10_ahead_117 fX10_7 (sh36 _) r36_0 ?_
              refine Ex.iload_n (pc := 120) dX10_ahead_120 rfl rfl ?_
              refine Ex.iconst (pc := 121) (v := 1) dX10_ahead_121 rfl ?_
              refine Ex.isub (pc := 122) dX10_ahead_122 ?_
              refine Ex.iald (pc := 123) (j := s - 1) dX10_ahead_123 (sh37 _) (by rw [hs1]; exact vp_in_nI (by omega) (by decide)) (by rw [hs1]; exact nI_clamp (by omega)) ?_
              rw [e3]
              refine Ex.callS (pc := 124) (As := [.int _]) (rest := []) dX10_ahead_124 cX10_238 (tm_isDigit hb1) rfl rfl (by decide) (Nat.le_refl _) (Nat.le_refl _) (Nat.le_of_ble_eq_true rfl) (Or.inl (fun r S' h => by obtain ⟨_, h⟩ := h; subst h; rfl)) (fun r S' hq _ _ => ?_)
              obtain ⟨rfl, rfl⟩ := hq
              refine Ex.if_eq (pc := 127) (tgt := 135) dX10_ahead_127 (by decide) (fun c127 => ?_) (fun c127 => ?_)
              · skip
                refine Ex.le (ls' := [some (.ref 36), some (.int (nI s)), some (.int (bI (isL (tb s)))), some (.int (bI (isD (tb s)))), none, none]) ⟨rfl, rfl, rfl, rfl, trivial⟩ ?_
                refine k135 J hM j4 ?_
                rw [j12, if_neg (fun q => by have := q.1; unfold adM at this; rw [bI_0 c113, bI_0 c127, Bool.or_self, Bool.and_false] at this; cases this)]
              · skip
                refine Ex.aload_n (pc := 130) dX10_ahead_130 rfl rfl ?_
                refine Ex.iload_n (pc := 131) dX10_ahead_131 rfl rfl ?_
                refine Ex.putI (pc := 132) dX10_ahead_132 fX10_48 (sh36 _) (Or.inl rfl) ⟨rfl, rfl⟩ ?_
                refine Ex.le (ls' := [some (.ref 36), some (.int (nI s)), some (.int (bI (isL (tb s)))), some (.int (bI (isD (tb s)))), none, none]) ⟨rfl, rfl, rfl, rfl, trivial⟩ ?_
                refine k135 (mf J 12 (nI s)) (hM.m (by decide)) (by rw [mf_n (by decide)]; exact j4) ?_
                rw [mf_s, if_pos ⟨by unfold adM; rw [decide_eq_true hs0, Bool.true_and]; rw [bI_1 c127]; exact Bool.or_true _, by rw [bI_1 c95]; exact Bool.or_true _⟩]
    · have hsn2 : s = n := by omega
      refine Ex.aload_n (pc := 41) dX10_ahead_41 rfl rfl ?_
      refine Ex.iload_n (pc := 42) dX10_ahead_42 rfl rfl ?_
      refine Ex.putI (pc := 43) dX10_ahead_43 fX10_23 (sh36 _) (Or.inl rfl) ⟨rfl, rfl⟩ ?_
      refine Ex.aload_n (pc := 46) dX10_ahead_46 rfl rfl ?_
      refine Ex.iload_n (pc := 47) dX10_ahead_47 rfl rfl ?_
      refine Ex.putI (pc := 48) dX10_ahead_48 fX10_26 (sh36 _) (Or.inl rfl) ⟨rfl, rfl⟩ ?_
      refine Ex.aload_n (pc := 51) dX10_ahead_51 rfl rfl ?_
      refine Ex.iconst (pc := 52) (v := 0) dX10_ahead_52 rfl ?_
      refine Ex.putI (pc := 53) dX10_ahead_53 fX10_20 (sh36 _) (Or.inl rfl) ⟨rfl, rfl⟩ ?_
      refine Ex.aload_n (pc := 56) dX10_ahead_56 rfl rfl ?_
      refine Ex.iconst (pc := 57) (v := (-1)) dX10_ahead_57 rfl ?_
      refine Ex.putI (pc := 58) dX10_ahead_58 fX10_48 (sh36 _) (Or.inl rfl) ⟨rfl, rfl⟩ ?_
      refine Ex.mm (S' := St N J L) ?_ ?_
      · rw [hJ]; rfl
      refine Ex.iload_n (pc := 61) dX10_ahead_61 rfl rfl ?_
      refine Ex.aload_n (pc := 62) dX10_ahead_62 rfl rfl ?_
      refine Ex.getI (pc := 63) dX10_ahead_63 fX10_17 (sh36 _) ?_
      refine Ex.icmp_lt (pc := 66) (tgt := 70) dX10_ahead_66 (by decide) (fun c66 => absurd c66 (by rw [j2, hsn2]; exact nI_nlt (Nat.le_refl n) (by omega))) (fun _ => ?_)
      refine Ex.vret (pc := 69) rfl dX10_ahead_69 (Nat.le_refl _) (Nat.le_refl _) ?_
      refine ⟨J, L, rfl, rfl, hM, ?_⟩
      rw [hs]
      unfold tokA
      rw [if_pos hge]
      exact ⟨j12, j3, j4, j5, fun q => absurd (show (1 : Nat) = 2 from q) (by decide), fun q => absurd (show (1 : Nat) = 3 ∨ (1 : Nat) = 4 from q) (by decide)⟩
  have kb : ∀ f b, n - b = f → b ≤ n → skF tb n f b = s → Ex 1 0 0 mX10_ahead 0 0 5 [some (.ref 36), some (.int (nI b)), none, none, none, none] [] (St N I L) (fun r S' => ∃ I2 L2, r = none ∧ S' = St N I2 L2 ∧ MkF I L I2 L2 ∧ TmE n I2 L2 (tokA tb n a (sk tb n a) (adM tb (sk tb n a)))) := by
    intro f
    induction f with
    | zero =>
      intro b hf hb hsk
      have hbn : b = s := hsk
      have hbn2 : b = n := by omega
      refine Ex.iload_n (pc := 5) dX10_ahead_5 rfl rfl ?_
      refine Ex.aload_n (pc := 6) dX10_ahead_6 rfl rfl ?_
      refine Ex.getI (pc := 7) dX10_ahead_7 fX10_17 (sh36 _) ?_
      refine Ex.icmp_ge (pc := 10) (tgt := 41) dX10_ahead_10 (by decide) (fun _ => ?_) (fun c10 => absurd (by rw [h2, hbn2]; exact Int32.le_refl _) c10)
      rw [hbn]
      exact k41
    | succ f ih =>
      intro b hf hb hsk
      have hbn : b < n := by omega
      obtain ⟨hb2, e1⟩ := hT b hbn
      have ixk : vp_in (nI b) 1800 := vp_in_nI (by omega) (by decide)
      have ixc : (nI b).toNatClampNeg = b := nI_clamp (by omega)
      simp only [skF] at hsk
      refine Ex.iload_n (pc := 5) dX10_ahead_5 rfl rfl ?_
      refine Ex.aload_n (pc := 6) dX10_ahead_6 rfl rfl ?_
      refine Ex.getI (pc := 7) dX10_ahead_7 fX10_17 (sh36 _) ?_
      refine Ex.icmp_ge (pc := 10) (tgt := 41) dX10_ahead_10 (by decide) (fun c10 => absurd c10 (by rw [h2]; exact nI_ge hbn (by omega))) (fun _ => ?_)
      refine Ex.aload_n (pc := 13) dX10_ahead_13 rfl rfl ?_
      refine Ex.getR (pc := 14) dX10_ahead_14 fX10_7 (sh36 _) r36_0 ?_
      refine Ex.iload_n (pc := 17) dX10_ahead_17 rfl rfl ?_
      refine Ex.iald (pc := 18) (j := b) dX10_ahead_18 (sh37 _) ixk ixc ?_
      rw [e1]
      refine Ex.bipush (pc := 19) (v := 32) dX10_ahead_19 rfl ?_
      refine Ex.icmp_eq (pc := 21) (tgt := 35) dX10_ahead_21 (by decide) (fun c21 => ?_) (fun c21 => ?_)
      · skip
        refine Ex.iinc (pc := 35) (ls' := [some (.ref 36), some (.int _), none, none, none, none]) dX10_ahead_35 rfl rfl (by decide) rfl rfl ?_
        refine Ex.goto (pc := 38) (tgt := 5) dX10_ahead_38 (by decide) ?_
        rw [if_pos ⟨hbn, decide_eq_true (Or.inr ((nI_eq (by omega) (by decide)).mp (show nI (tb b) = nI 32 from c21)))⟩] at hsk
        rw [show nI b + Int32.ofInt 1 = nI (b + 1) from nI_1 b]
        exact ih (b + 1) (by omega) (by omega) hsk
      · skip
        refine Ex.aload_n (pc := 24) dX10_ahead_24 rfl rfl ?_
        refine Ex.getR (pc := 25) dX10_ahead_25 fX10_7 (sh36 _) r36_0 ?_
        refine Ex.iload_n (pc := 28) dX10_ahead_28 rfl rfl ?_
        refine Ex.iald (pc := 29) (j := b) dX10_ahead_29 (sh37 _) ixk ixc ?_
        rw [e1]
        refine Ex.bipush (pc := 30) (v := 10) dX10_ahead_30 rfl ?_
        refine Ex.icmp_ne (pc := 32) (tgt := 41) dX10_ahead_32 (by decide) (fun c32 => ?_) (fun c32 => ?_)
        · skip
          rw [if_neg (fun q => (of_decide_eq_true q.2).elim (fun e => c32 (by rw [e]; rfl)) (fun e => c21 (by rw [e]; rfl)))] at hsk
          rw [hsk]
          exact k41
        · skip
          refine Ex.iinc (pc := 35) (ls' := [some (.ref 36), some (.int _), none, none, none, none]) dX10_ahead_35 rfl rfl (by decide) rfl rfl ?_
          refine Ex.goto (pc := 38) (tgt := 5) dX10_ahead_38 (by decide) ?_
          rw [if_pos ⟨hbn, decide_eq_true (Or.inl ((nI_eq (by omega) (by decide)).mp (show nI (tb b) = nI 10 from c32)))⟩] at hsk
          rw [show nI b + Int32.ofInt 1 = nI (b + 1) from nI_1 b]
          exact ih (b + 1) (by omega) (by omega) hsk
  refine Ex.aload_n (pc := 0) dX10_ahead_0 rfl rfl ?_
  refine Ex.getI (pc := 1) dX10_ahead_1 fX10_26 (sh36 _) ?_
  rw [h5]
  refine Ex.istore_n (pc := 4) (ls' := [some (.ref 36), some (.int _), none, none, none, none]) dX10_ahead_4 rfl (by decide) rfl rfl ?_
  exact kb (n - a) a rfl ha hs
