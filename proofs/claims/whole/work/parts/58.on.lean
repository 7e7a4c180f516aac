theorem gdF_iff {g0 : Bool} {tb mx : Nat → Int32} : ∀ n, gdF g0 tb mx n = true ↔ g0 = true ∧ ∀ k, 3 ≤ k → k < n → ¬ mx (k - 3) < tb k
  | 0 => ⟨fun h => ⟨h, fun k _ h => absurd h (Nat.not_lt_zero _)⟩, fun h => h.1⟩
  | n + 1 => by
    have ih := gdF_iff (g0 := g0) (tb := tb) (mx := mx) n
    simp only [gdF]
    by_cases h3 : n < 3
    · rw [if_pos h3, ih]
      exact ⟨fun h => ⟨h.1, fun k a b => by omega⟩, fun h => ⟨h.1, fun k a b => h.2 k a (by omega)⟩⟩
    · rw [if_neg h3, Bool.and_eq_true, ih]
      constructor
      · rintro ⟨⟨a, b⟩, c⟩
        refine ⟨a, fun k h1 h2 => ?_⟩
        by_cases e : k = n
        · subst e
          simpa using c
        · exact b k h1 (by omega)
      · rintro ⟨a, b⟩
        refine ⟨⟨a, fun k h1 h2 => b k h1 (by omega)⟩, ?_⟩
        have := b n (by omega) (by omega)
        simpa using this
theorem isIm_iff {tb f6 : Nat → Int32} {nb ns nh t : Nat} : isIm tb f6 nb ns nh t = true ↔ t = 3 + nb + ns + nh + 1 ∧ (¬ 999 < tb 0 * 256 + tb 1) ∧ (¬ 99 < tb 2) ∧ tb (t - 1) = ckF tb (t - 1) ∧ (∀ b, b < nb → ¬ f6 b < tb (3 + b)) ∧ (∀ s, s < ns → ¬ 99 < tb (3 + nb + s)) ∧ ∀ h, h < nh → ¬ 1 < tb (3 + nb + ns + h) := by
  unfold isIm
  rw [Bool.and_eq_true, Bool.and_eq_true, gdF_iff, decide_eq_true_iff, decide_eq_true_iff]
  have hg : g0F tb = true ↔ (¬ 999 < tb 0 * 256 + tb 1) ∧ ¬ 99 < tb 2 := by
    unfold g0F
    by_cases a : 999 < tb 0 * 256 + tb 1 <;> by_cases b : 99 < tb 2 <;> simp [a, b]
  rw [hg]
  constructor
  · rintro ⟨e, ⟨⟨a, b⟩, c⟩, d⟩
    refine ⟨e, a, b, d, fun k hk => ?_, fun k hk => ?_, fun k hk => ?_⟩
    · have := c (3 + k) (by omega) (by omega)
      rw [show 3 + k - 3 = k by omega] at this
      unfold imM at this
      rw [if_pos hk] at this
      exact this
    · have := c (3 + nb + k) (by omega) (by omega)
      unfold imM at this
      rw [if_neg (by omega), if_pos (by omega)] at this
      exact this
    · have := c (3 + nb + ns + k) (by omega) (by omega)
      unfold imM at this
      rw [if_neg (by omega), if_neg (by omega)] at this
      exact this
  · rintro ⟨e, a, b, d, c1, c2, c3⟩
    refine ⟨e, ⟨⟨a, b⟩, fun k h1 h2 => ?_⟩, d⟩
    unfold imM
    split
    · have := c1 (k - 3) (by omega)
      rw [show 3 + (k - 3) = k by omega] at this
      exact this
    · split
      · have := c2 (k - 3 - nb) (by omega)
        rw [show 3 + nb + (k - 3 - nb) = k by omega] at this
        exact this
      · have := c3 (k - 3 - nb - ns) (by omega)
        rw [show 3 + nb + ns + (k - 3 - nb - ns) = k by omega] at this
        exact this
theorem sh8_or {a b : Int32} (ha : ∃ q, q < 256 ∧ a = nI q) (hb : ∃ q, q < 256 ∧ b = nI q) : a <<< ((8 : Int32) &&& 31) ||| b = a * 256 + b := by
  obtain ⟨p, hp, rfl⟩ := ha
  obtain ⟨q, hq, rfl⟩ := hb
  rw [pk_shlN _ 8 (by decide) (by omega), show nI p * 256 = nI (p * 256) from pk_mul p 256, nI_add]
  apply Int32.toBitVec_inj.mp
  apply BitVec.eq_of_toNat_eq
  rw [Int32.toBitVec_or, BitVec.toNat_or, pk_tn (by omega), pk_tn (by omega), pk_tn (by omega)]
  have := Nat.shiftLeft_add_eq_or_of_lt (i := 8) (b := q) (by omega) p
  rw [Nat.shiftLeft_eq] at this
  exact this.symm
theorem SlF.p67 {I I2 : aI} {d : Int32} (h : SlF 1 I I2) : SlF 1 I (va_up I2 67 (upd (I2 67) 1 d)) := by
  obtain ⟨h1, h2, h3, h4⟩ := h
  refine ⟨fun j hj => ?_, fun j hj => ?_, fun j hj => ?_, fun j hj => ?_⟩
  · obtain ⟨a, b, c, e⟩ := h1 j hj
    exact ⟨by rw [va_up_n (by decide)]; exact a, by rw [va_up_n (by decide)]; exact b, by rw [va_up_s, upd_n hj]; exact c, by rw [va_up_n (by decide)]; exact e⟩
  · rw [va_up_n (by decide)]; exact h2 j hj
  · rw [va_up_n (by decide)]; exact h3 j hj
  · rw [va_up_n (by decide)]; exact h4 j hj
theorem SlF.p63 {I I2 : aI} {d : Int32} (h : SlF 1 I I2) : SlF 1 I (va_up I2 63 (upd (I2 63) 1 d)) := by
  obtain ⟨h1, h2, h3, h4⟩ := h
  refine ⟨fun j hj => ?_, fun j hj => ?_, fun j hj => ?_, fun j hj => ?_⟩
  · obtain ⟨a, b, c, e⟩ := h1 j hj
    exact ⟨by rw [va_up_s, upd_n hj]; exact a, by rw [va_up_n (by decide)]; exact b, by rw [va_up_n (by decide)]; exact c, by rw [va_up_n (by decide)]; exact e⟩
  · rw [va_up_n (by decide)]; exact h2 j hj
  · rw [va_up_n (by decide)]; exact h3 j hj
  · rw [va_up_n (by decide)]; exact h4 j hj
theorem SlF.p641 {I I2 : aI} {d : Int32} (h : SlF 1 I I2) : SlF 1 I (va_up I2 64 (upd (I2 64) 1 d)) := by
  obtain ⟨h1, h2, h3, h4⟩ := h
  refine ⟨fun j hj => ?_, fun j hj => ?_, fun j hj => ?_, fun j hj => ?_⟩
  · obtain ⟨a, b, c, e⟩ := h1 j hj
    exact ⟨by rw [va_up_n (by decide)]; exact a, by rw [va_up_s, upd_n hj]; exact b, by rw [va_up_n (by decide)]; exact c, by rw [va_up_n (by decide)]; exact e⟩
  · rw [va_up_n (by decide)]; exact h2 j hj
  · rw [va_up_n (by decide)]; exact h3 j hj
  · rw [va_up_n (by decide)]; exact h4 j hj
theorem SlF.p68 {I I2 : aI} {d : Int32} (h : SlF 1 I I2) : SlF 1 I (va_up I2 68 (upd (I2 68) 1 d)) := by
  obtain ⟨h1, h2, h3, h4⟩ := h
  refine ⟨fun j hj => ?_, fun j hj => ?_, fun j hj => ?_, fun j hj => ?_⟩
  · obtain ⟨a, b, c, e⟩ := h1 j hj
    exact ⟨by rw [va_up_n (by decide)]; exact a, by rw [va_up_n (by decide)]; exact b, by rw [va_up_n (by decide)]; exact c, by rw [va_up_s, upd_n hj]; exact e⟩
  · rw [va_up_n (by decide)]; exact h2 j hj
  · rw [va_up_n (by decide)]; exact h3 j hj
  · rw [va_up_n (by decide)]; exact h4 j hj
theorem SlF.p4 {I I2 : aI} {a b c d : Int32} (h : SlF 1 I I2) : SlF 1 I (va_up (va_up (va_up (va_up I2 63 (upd (I2 63) 1 a)) 64 (upd (va_up I2 63 (upd (I2 63) 1 a) 64) 1 b)) 67 (upd (va_up (va_up I2 63 (upd (I2 63) 1 a)) 64 (upd (va_up I2 63 (upd (I2 63) 1 a) 64) 1 b) 67) 1 c)) 68 (upd (va_up (va_up (va_up I2 63 (upd (I2 63) 1 a)) 64 (upd (va_up I2 63 (upd (I2 63) 1 a) 64) 1 b)) 67 (upd (va_up (va_up I2 63 (upd (I2 63) 1 a)) 64 (upd (va_up I2 63 (upd (I2 63) 1 a) 64) 1 b) 67) 1 c) 68) 1 d)) := h.p63.p641.p67.p68
theorem SlF.p661 {I I2 : aI} {k : Nat} {d : Int32} (h : SlF 1 I I2) (hk : k < 6) : SlF 1 I (va_up I2 66 (upd (I2 66) (6 + k) d)) := by
  obtain ⟨h1, h2, h3, h4⟩ := h
  refine ⟨fun j hj => ?_, fun j hj => ?_, fun j hj => ?_, fun j hj => ?_⟩
  · rw [va_up_n (by decide), va_up_n (by decide), va_up_n (by decide), va_up_n (by decide)]; exact h1 j hj
  · rw [va_up_n (by decide)]; exact h2 j hj
  · rw [va_up_s, upd_n (by omega)]; exact h3 j hj
  · rw [va_up_n (by decide)]; exact h4 j hj
theorem SlF.p651 {I I2 : aI} {k : Nat} {d : Int32} (h : SlF 1 I I2) (hk : k < 5) : SlF 1 I (va_up I2 65 (upd (I2 65) (5 + k) d)) := by
  obtain ⟨h1, h2, h3, h4⟩ := h
  refine ⟨fun j hj => ?_, fun j hj => ?_, fun j hj => ?_, fun j hj => ?_⟩
  · rw [va_up_n (by decide), va_up_n (by decide), va_up_n (by decide), va_up_n (by decide)]; exact h1 j hj
  · rw [va_up_s, upd_n (by omega)]; exact h2 j hj
  · rw [va_up_n (by decide)]; exact h3 j hj
  · rw [va_up_n (by decide)]; exact h4 j hj
set_option maxRecDepth 20000 in
theorem tm_comesOn {N : Nat} {I : aI} {L : aL} {p : aP} {bk nb ns nh : Nat} {f5 f6 : Nat → Int32} {x : aX} {rs : List aRow} (hR : RS I bk nb ns nh p f5 f6 x rs) {t : Nat} {tb : Nat → Int32} (h16 : t ≤ 1600) (htb : ∀ i, i < t → I 37 i = tb i) (hby : byt tb t) : Run 1 0 0 mX10_comesOn [.ref 36, .int (nI t)] (St N I L) (RX N (fun o I2 L2 => o = some (.int (bI (isIm tb f6 nb ns nh t))) ∧ L2 = L ∧ Sm [63, 64, 65, 66, 67, 68, 69] I I2 ∧ SlF 1 I I2 ∧ (isIm tb f6 nb ns nh t = true → XR I2 1 nb ns (onX tb f5 f6 nb ns nh) ∧ KR I2 1 []))) := by
  refine Run.of (ls := [some (.ref 36), some (.int _), none, none, none, none]) (by decide) (Nat.le_of_ble_eq_true rfl) rfl ?_
  obtain ⟨hP, hX, hK, hG, hrb⟩ := id hR
  obtain ⟨⟨h1, h2, hnb, hns, hnh, hcb, hcs, hch⟩, -⟩ := id hP
  obtain ⟨-, -, -, hf1, hf2, hf3⟩ := id hP
  have hsz : (3 : Int32) + nI nb + nI ns + nI nh + 1 = nI (3 + nb + ns + nh + 1) := by rw [show (3 : Int32) + nI nb = nI (3 + nb) from nI_add 3 nb, nI_add, nI_add]; exact nI_add _ 1
  have hno : ¬ (t = 3 + nb + ns + nh + 1 ∧ (¬ 999 < tb 0 * 256 + tb 1) ∧ (¬ 99 < tb 2) ∧ tb (t - 1) = ckF tb (t - 1) ∧ (∀ b, b < nb → ¬ f6 b < tb (3 + b)) ∧ (∀ s, s < ns → ¬ 99 < tb (3 + nb + s)) ∧ ∀ h, h < nh → ¬ 1 < tb (3 + nb + ns + h)) → isIm tb f6 nb ns nh t = false := fun h => Bool.eq_false_iff.mpr (fun q => h (isIm_iff.mp q))
  have fr : ∀ I2 : aI, Sm [63, 64, 65, 66, 67, 68, 69] I I2 → RefP I2 bk nb ns nh p f5 f6 ∧ ∀ i, i < t → I2 37 i = tb i := fun I2 hS => ⟨hP.sm hS (by decide), fun i hi => by rw [hS 37 (by decide)]; exact htb i hi⟩
  have k188 : t = 3 + nb + ns + nh + 1 → (¬ 999 < tb 0 * 256 + tb 1) → (¬ 99 < tb 2) → tb (t - 1) = ckF tb (t - 1) → ∀ I0 : aI, Sm [63, 64, 65, 66, 67, 68, 69] I I0 → SlF 1 I I0 → I0 63 1 = tb 0 * 256 + tb 1 → I0 64 1 = tb 2 → I0 68 1 = 0 → I0 67 1 = 0 → Ex 1 0 0 mX10_comesOn 0 0 188 [some (.ref 36), some (.int (nI t)), some (.int (nI (3 + nb))), some (.int (nI (3 + nb + ns))), none, some (.int 0)] [] (St N I0 L) (RX N (fun o I2 L2 => o = some (.int (bI (isIm tb f6 nb ns nh t))) ∧ L2 = L ∧ Sm [63, 64, 65, 66, 67, 68, 69] I I2 ∧ SlF 1 I I2 ∧ (isIm tb f6 nb ns nh t = true → XR I2 1 nb ns (onX tb f5 f6 nb ns nh) ∧ KR I2 1 []))) := by
    intro q1 q2 q3 q4 I0 hS0 hF0 e63 e64 e68 e67
    refine forUp (σ := aI) (P := fun k I2 => Ex 1 0 0 mX10_comesOn 0 0 188 [some (.ref 36), some (.int (nI t)), some (.int (nI (3 + nb))), some (.int (nI (3 + nb + ns))), none, some (.int (nI k))] [] (St N I2 L) _) (Inv := fun k I2 => (((Sm [63, 64, 65, 66, 67, 68, 69] I I2 ∧ SlF 1 I I2 ∧ I2 63 1 = tb 0 * 256 + tb 1 ∧ I2 64 1 = tb 2 ∧ I2 68 1 = 0)) ∧ I2 67 1 = 0) ∧ (∀ i, i < k → I2 65 (5 + i) = tb (3 + i)) ∧ ∀ i, i < k → ¬ f6 i < tb (3 + i)) nb ?_ ?_ 0 I0 (Nat.zero_le _) ⟨⟨⟨hS0, hF0, e63, e64, e68⟩, e67⟩, fun i hi => absurd hi (Nat.not_lt_zero _), fun i hi => absurd hi (Nat.not_lt_zero _)⟩
    · rintro I2 ⟨⟨⟨hS, hF, f63, f64, f68⟩, f67⟩, hz, cz⟩
      obtain ⟨hP2, e37⟩ := fr I2 hS
      obtain ⟨⟨-, hb2, -, -, -, e38, e41, e44⟩, -, -, g1, g2, g3⟩ := id hP2
      refine Ex.iload (pc := 188) dX10_comesOn_188 rfl ?_
      refine Ex.aload_n (pc := 190) dX10_comesOn_190 rfl rfl ?_
      refine Ex.getR (pc := 191) dX10_comesOn_191 fX10_54 (sh36 _) r36_14 ?_
      refine Ex.aload_n (pc := 194) dX10_comesOn_194 rfl rfl ?_
      refine Ex.getI (pc := 195) dX10_comesOn_195 fX10_51 (sh36 _) ?_
      refine Ex.iald (pc := 198) (j := bk) dX10_comesOn_198 (sh38 _) (ixX hb2 h1 (by decide)) (ixX2 hb2 (by omega)) ?_
      rw [e38]
      refine Ex.icmp_ge (pc := 199) (tgt := 254) dX10_comesOn_199 (by decide) (fun _ => ?_) (fun c199 => absurd (nI_le (Nat.le_refl _) (by omega)) c199)
      refine Ex.iconst (pc := 254) (v := 0) dX10_comesOn_254 rfl ?_
      refine Ex.istore (pc := 255) (ls' := [some (.ref 36), some (.int _), some (.int _), some (.int _), none, some (.int 0)]) dX10_comesOn_255 (by decide) rfl rfl ?_
      refine forUp (σ := aI) (P := fun k I2 => Ex 1 0 0 mX10_comesOn 0 0 257 [some (.ref 36), some (.int (nI t)), some (.int (nI (3 + nb))), some (.int (nI (3 + nb + ns))), none, some (.int (nI k))] [] (St N I2 L) _) (Inv := fun k I2 => (((Sm [63, 64, 65, 66, 67, 68, 69] I I2 ∧ SlF 1 I I2 ∧ I2 63 1 = tb 0 * 256 + tb 1 ∧ I2 64 1 = tb 2 ∧ I2 68 1 = 0)) ∧ I2 67 1 = 0) ∧ ((∀ i, i < nb → I2 65 (5 + i) = tb (3 + i)) ∧ ∀ i, i < nb → ¬ f6 i < tb (3 + i)) ∧ (∀ i, i < k → I2 66 (6 + i) = tb (3 + nb + i)) ∧ ∀ i, i < k → ¬ 99 < tb (3 + nb + i)) ns ?_ ?_ 0 I2 (Nat.zero_le _) ⟨⟨⟨hS, hF, f63, f64, f68⟩, f67⟩, ⟨hz, cz⟩, fun i hi => absurd hi (Nat.not_lt_zero _), fun i hi => absurd hi (Nat.not_lt_zero _)⟩
      · clear hS hF f63 f64 f68 f67 hz cz hP2 e37 hb2 e38 e41 e44 g1 g2 g3 I2
        rintro I2 ⟨⟨⟨hS, hF, f63, f64, f68⟩, f67⟩, ⟨hz, cz⟩, hd, cd⟩
        obtain ⟨hP2, e37⟩ := fr I2 hS
        obtain ⟨⟨-, hb2, -, -, -, e38, e41, e44⟩, -, -, g1, g2, g3⟩ := id hP2
        refine Ex.iload (pc := 257) dX10_comesOn_257 rfl ?_
        refine Ex.aload_n (pc := 259) dX10_comesOn_259 rfl rfl ?_
        refine Ex.getR (pc := 260) dX10_comesOn_260 fX10_63 (sh36 _) r36_17 ?_
        refine Ex.aload_n (pc := 263) dX10_comesOn_263 rfl rfl ?_
        refine Ex.getI (pc := 264) dX10_comesOn_264 fX10_51 (sh36 _) ?_
        refine Ex.iald (pc := 267) (j := bk) dX10_comesOn_267 (sh41 _) (ixX hb2 h1 (by decide)) (ixX2 hb2 (by omega)) ?_
        rw [e41]
        refine Ex.icmp_ge (pc := 268) (tgt := 312) dX10_comesOn_268 (by decide) (fun _ => ?_) (fun c268 => absurd (nI_le (Nat.le_refl _) (by omega)) c268)
        refine Ex.iconst (pc := 312) (v := 0) dX10_comesOn_312 rfl ?_
        refine Ex.istore (pc := 313) (ls' := [some (.ref 36), some (.int _), some (.int _), some (.int _), none, some (.int 0)]) dX10_comesOn_313 (by decide) rfl rfl ?_
        refine forUp (σ := aI) (P := fun k I2 => Ex 1 0 0 mX10_comesOn 0 0 315 [some (.ref 36), some (.int (nI t)), some (.int (nI (3 + nb))), some (.int (nI (3 + nb + ns))), none, some (.int (nI k))] [] (St N I2 L) _) (Inv := fun k I2 => (((Sm [63, 64, 65, 66, 67, 68, 69] I I2 ∧ SlF 1 I I2 ∧ I2 63 1 = tb 0 * 256 + tb 1 ∧ I2 64 1 = tb 2 ∧ I2 68 1 = 0)) ∧ I2 67 1 = svF tb (3 + nb + ns) k) ∧ ((∀ i, i < nb → I2 65 (5 + i) = tb (3 + i)) ∧ ∀ i, i < nb → ¬ f6 i < tb (3 + i)) ∧ ((∀ i, i < ns → I2 66 (6 + i) = tb (3 + nb + i)) ∧ ∀ i, i < ns → ¬ 99 < tb (3 + nb + i)) ∧ ∀ i, i < k → ¬ 1 < tb (3 + nb + ns + i)) nh ?_ ?_ 0 I2 (Nat.zero_le _) ⟨⟨⟨hS, hF, f63, f64, f68⟩, f67⟩, ⟨hz, cz⟩, ⟨hd, cd⟩, fun i hi => absurd hi (Nat.not_lt_zero _)⟩
        · clear hS hF f63 f64 f68 f67 hz cz hd cd hP2 e37 hb2 e38 e41 e44 g1 g2 g3 I2
          rintro I2 ⟨⟨⟨hS, hF, f63, f64, f68⟩, f67⟩, ⟨hz, cz⟩, ⟨hd, cd⟩, ch⟩
          obtain ⟨hP2, e37⟩ := fr I2 hS
          obtain ⟨⟨-, hb2, -, -, -, e38, e41, e44⟩, -, -, g1, g2, g3⟩ := id hP2
          refine Ex.iload (pc := 315) dX10_comesOn_315 rfl ?_
          refine Ex.aload_n (pc := 317) dX10_comesOn_317 rfl rfl ?_
          refine Ex.getR (pc := 318) dX10_comesOn_318 fX10_72 (sh36 _) r36_20 ?_
          refine Ex.aload_n (pc := 321) dX10_comesOn_321 rfl rfl ?_
          refine Ex.getI (pc := 322) dX10_comesOn_322 fX10_51 (sh36 _) ?_
          refine Ex.iald (pc := 325) (j := bk) dX10_comesOn_325 (sh44 _) (ixX hb2 h1 (by decide)) (ixX2 hb2 (by omega)) ?_
          rw [e44]
          refine Ex.icmp_ge (pc := 326) (tgt := 371) dX10_comesOn_326 (by decide) (fun _ => ?_) (fun c326 => absurd (nI_le (Nat.le_refl _) (by omega)) c326)
          refine Ex.iconst (pc := 371) (v := 1) dX10_comesOn_371 rfl ?_
          refine Ex.iret (pc := 372) rfl rfl rfl dX10_comesOn_372 (Nat.le_refl _) (Nat.le_refl _) ?_
          have hy : isIm tb f6 nb ns nh t = true := isIm_iff.mpr ⟨q1, q2, q3, q4, cz, cd, ch⟩
          refine ⟨_, _, rfl, by rw [hy]; rfl, rfl, hS, hF, fun _ => ⟨⟨f63, f64, f67, ?_, ?_⟩, f68, by decide, fun k r hk => by simp at hk⟩⟩
          · intro b hb; rw [show 5 * 1 + b = 5 + b by omega, hz b hb]; show _ = (if b < nb then tb (3 + b) else _); rw [if_pos hb]
          · intro b hb; rw [show 6 * 1 + b = 6 + b by omega, hd b hb]; show _ = (if b < ns then tb (3 + nb + b) else _); rw [if_pos hb]
        · clear hS hF f63 f64 f68 f67 hz cz hd cd hP2 e37 hb2 e38 e41 e44 g1 g2 g3 I2
          rintro k I2 hk ⟨⟨⟨hS, hF, f63, f64, f68⟩, f67⟩, ⟨hz, cz⟩, ⟨hd, cd⟩, ch⟩ ih
          obtain ⟨hP2, e37⟩ := fr I2 hS
          obtain ⟨⟨-, hb2, -, -, -, e38, e41, e44⟩, -, -, g1, g2, g3⟩ := id hP2
          refine Ex.iload (pc := 315) dX10_comesOn_315 rfl ?_
          refine Ex.aload_n (pc := 317) dX10_comesOn_317 rfl rfl ?_
          refine Ex.getR (pc := 318) dX10_comesOn_318 fX10_72 (sh36 _) r36_20 ?_
          refine Ex.aload_n (pc := 321) dX10_comesOn_321 rfl rfl ?_
          refine Ex.getI (pc := 322) dX10_comesOn_322 fX10_51 (sh36 _) ?_
          refine Ex.iald (pc := 325) (j := bk) dX10_comesOn_325 (sh44 _) (ixX hb2 h1 (by decide)) (ixX2 hb2 (by omega)) ?_
          rw [e44]
          refine Ex.icmp_ge (pc := 326) (tgt := 371) dX10_comesOn_326 (by decide) (fun c326 => absurd c326 (nI_ge hk (by omega))) (fun _ => ?_)
          refine Ex.aload_n (pc := 329) dX10_comesOn_329 rfl rfl ?_
          refine Ex.getR (pc := 330) dX10_comesOn_330 fX10_7 (sh36 _) r36_0 ?_
          refine Ex.iload_n (pc := 333) dX10_comesOn_333 rfl rfl ?_
          refine Ex.iload (pc := 334) dX10_comesOn_334 rfl ?_
          refine Ex.iadd (pc := 336) dX10_comesOn_336 ?_
          refine Ex.iald (pc := 337) (j := 3 + nb + ns + k) dX10_comesOn_337 (sh37 _) (by rw [nI_add]; exact vp_in_nI (by omega) (by decide)) (by rw [nI_add]; exact nI_clamp (by omega)) ?_
          rw [e37 _ (by omega)]
          refine Ex.iconst (pc := 338) (v := 1) dX10_comesOn_338 rfl ?_
          refine Ex.icmp_le (pc := 339) (tgt := 344) dX10_comesOn_339 (by decide) (fun c339 => ?_) (fun c339 => ?_)
          · skip
            refine Ex.aload_n (pc := 344) dX10_comesOn_344 rfl rfl ?_
            refine Ex.getR (pc := 345) dX10_comesOn_345 fX10_165 (sh36 _) r36_50 ?_
            refine Ex.iconst (pc := 348) (v := 1) dX10_comesOn_348 rfl ?_
            refine Ex.dup2 (pc := 349) dX10_comesOn_349 rfl rfl ?_
            refine Ex.iald (pc := 350) (j := 1) dX10_comesOn_350 (sh67 _) (by unfold vp_in; decide) (by decide) ?_
            rw [f67]
            refine Ex.aload_n (pc := 351) dX10_comesOn_351 rfl rfl ?_
            refine Ex.getR (pc := 352) dX10_comesOn_352 fX10_7 (sh36 _) r36_0 ?_
            refine Ex.iload_n (pc := 355) dX10_comesOn_355 rfl rfl ?_
            refine Ex.iload (pc := 356) dX10_comesOn_356 rfl ?_
            refine Ex.iadd (pc := 358) dX10_comesOn_358 ?_
            refine Ex.iald (pc := 359) (j := 3 + nb + ns + k) dX10_comesOn_359 (sh37 _) (by rw [nI_add]; exact vp_in_nI (by omega) (by decide)) (by rw [nI_add]; exact nI_clamp (by omega)) ?_
            rw [e37 _ (by omega)]
            refine Ex.iload (pc := 360) dX10_comesOn_360 rfl ?_
            refine Ex.ishl (pc := 362) dX10_comesOn_362 ?_
            refine Ex.ior (pc := 363) dX10_comesOn_363 ?_
            refine Ex.iast (pc := 364) (j := 1) dX10_comesOn_364 (sh67 _) (by unfold vp_in; decide) (by decide) ?_
            refine Ex.iinc (pc := 365) (ls' := [some (.ref 36), some (.int _), some (.int _), some (.int _), none, some (.int _)]) dX10_comesOn_365 rfl rfl (by decide) rfl rfl ?_
            refine Ex.goto (pc := 368) (tgt := 315) dX10_comesOn_368 (by decide) ?_
            rw [show nI k + Int32.ofInt 1 = nI (k + 1) from nI_1 k]
            refine ih _ ⟨⟨⟨hS.up (by decide), SlF.p67 hF, ?_, ?_, ?_⟩, ?_⟩, ⟨?_, cz⟩, ⟨?_, cd⟩, ?_⟩
            · rw [va_up_n (by decide)]; exact f63
            · rw [va_up_n (by decide)]; exact f64
            · rw [va_up_n (by decide)]; exact f68
            · rw [va_up_s, upd_s]; rfl
            · intro i hi; rw [va_up_n (by decide)]; exact hz i hi
            · intro i hi; rw [va_up_n (by decide)]; exact hd i hi
            · intro i hi
              by_cases e : i = k
              · rw [e]; exact Int32.not_lt.mpr c339
              · exact ch i (by omega)
          · skip
            refine Ex.iconst (pc := 342) (v := 0) dX10_comesOn_342 rfl ?_
            refine Ex.iret (pc := 343) rfl rfl rfl dX10_comesOn_343 (Nat.le_refl _) (Nat.le_refl _) ?_
            have hf : isIm tb f6 nb ns nh t = false := hno (fun q => absurd (Int32.not_le.mp c339) (q.2.2.2.2.2.2 k hk))
            refine ⟨_, _, rfl, by rw [hf]; rfl, rfl, hS, hF, fun q => ?_⟩
            rw [hf] at q; cases q
      · clear hS hF f63 f64 f68 f67 hz cz hP2 e37 hb2 e38 e41 e44 g1 g2 g3 I2
        rintro k I2 hk ⟨⟨⟨hS, hF, f63, f64, f68⟩, f67⟩, ⟨hz, cz⟩, hd, cd⟩ ih
        obtain ⟨hP2, e37⟩ := fr I2 hS
        obtain ⟨⟨-, hb2, -, -, -, e38, e41, e44⟩, -, -, g1, g2, g3⟩ := id hP2
        refine Ex.iload (pc := 257) dX10_comesOn_257 rfl ?_
        refine Ex.aload_n (pc := 259) dX10_comesOn_259 rfl rfl ?_
        refine Ex.getR (pc := 260) dX10_comesOn_260 fX10_63 (sh36 _) r36_17 ?_
        refine Ex.aload_n (pc := 263) dX10_comesOn_263 rfl rfl ?_
        refine Ex.getI (pc := 264) dX10_comesOn_264 fX10_51 (sh36 _) ?_
        refine Ex.iald (pc := 267) (j := bk) dX10_comesOn_267 (sh41 _) (ixX hb2 h1 (by decide)) (ixX2 hb2 (by omega)) ?_
        rw [e41]
        refine Ex.icmp_ge (pc := 268) (tgt := 312) dX10_comesOn_268 (by decide) (fun c268 => absurd c268 (nI_ge hk (by omega))) (fun _ => ?_)
        refine Ex.aload_n (pc := 271) dX10_comesOn_271 rfl rfl ?_
        refine Ex.getR (pc := 272) dX10_comesOn_272 fX10_7 (sh36 _) r36_0 ?_
        refine Ex.iload_n (pc := 275) dX10_comesOn_275 rfl rfl ?_
        refine Ex.iload (pc := 276) dX10_comesOn_276 rfl ?_
        refine Ex.iadd (pc := 278) dX10_comesOn_278 ?_
        refine Ex.iald (pc := 279) (j := 3 + nb + k) dX10_comesOn_279 (sh37 _) (by rw [nI_add]; exact vp_in_nI (by omega) (by decide)) (by rw [nI_add]; exact nI_clamp (by omega)) ?_
        rw [e37 _ (by omega)]
        refine Ex.bipush (pc := 280) (v := 99) dX10_comesOn_280 rfl ?_
        refine Ex.icmp_le (pc := 282) (tgt := 287) dX10_comesOn_282 (by decide) (fun c282 => ?_) (fun c282 => ?_)
        · skip
          refine Ex.aload_n (pc := 287) dX10_comesOn_287 rfl rfl ?_
          refine Ex.getR (pc := 288) dX10_comesOn_288 fX10_162 (sh36 _) r36_49 ?_
          refine Ex.bipush (pc := 291) (v := 6) dX10_comesOn_291 rfl ?_
          refine Ex.iload (pc := 293) dX10_comesOn_293 rfl ?_
          refine Ex.iadd (pc := 295) dX10_comesOn_295 ?_
          refine Ex.aload_n (pc := 296) dX10_comesOn_296 rfl rfl ?_
          refine Ex.getR (pc := 297) dX10_comesOn_297 fX10_7 (sh36 _) r36_0 ?_
          refine Ex.iload_n (pc := 300) dX10_comesOn_300 rfl rfl ?_
          refine Ex.iload (pc := 301) dX10_comesOn_301 rfl ?_
          refine Ex.iadd (pc := 303) dX10_comesOn_303 ?_
          refine Ex.iald (pc := 304) (j := 3 + nb + k) dX10_comesOn_304 (sh37 _) (by rw [nI_add]; exact vp_in_nI (by omega) (by decide)) (by rw [nI_add]; exact nI_clamp (by omega)) ?_
          rw [e37 _ (by omega)]
          refine Ex.iast (pc := 305) (j := 6 + k) dX10_comesOn_305 (sh66 _) (ixA (x := 6) (a := 6) (j := k) rfl (by omega) (by decide)).1 (ixA2 (x := 6) (a := 6) (j := k) rfl (by omega)) ?_
          refine Ex.iinc (pc := 306) (ls' := [some (.ref 36), some (.int _), some (.int _), some (.int _), none, some (.int _)]) dX10_comesOn_306 rfl rfl (by decide) rfl rfl ?_
          refine Ex.goto (pc := 309) (tgt := 257) dX10_comesOn_309 (by decide) ?_
          rw [show nI k + Int32.ofInt 1 = nI (k + 1) from nI_1 k]
          refine ih _ ⟨⟨⟨hS.up (by decide), SlF.p661 hF (by omega), ?_, ?_, ?_⟩, ?_⟩, ⟨?_, cz⟩, ?_, ?_⟩
          · rw [va_up_n (by decide)]; exact f63
          · rw [va_up_n (by decide)]; exact f64
          · rw [va_up_n (by decide)]; exact f68
          · rw [va_up_n (by decide)]; exact f67
          · intro i hi; rw [va_up_n (by decide)]; exact hz i hi
          · intro i hi; rw [va_up_s]
            by_cases e : i = k
            · rw [e, upd_s]
            · rw [upd_n (by omega)]; exact hd i (by omega)
          · intro i hi
            by_cases e : i = k
            · rw [e]; exact Int32.not_lt.mpr c282
            · exact cd i (by omega)
        · skip
          refine Ex.iconst (pc := 285) (v := 0) dX10_comesOn_285 rfl ?_
          refine Ex.iret (pc := 286) rfl rfl rfl dX10_comesOn_286 (Nat.le_refl _) (Nat.le_refl _) ?_
          have hf : isIm tb f6 nb ns nh t = false := hno (fun q => absurd (Int32.not_le.mp c282) (q.2.2.2.2.2.1 k hk))
          refine ⟨_, _, rfl, by rw [hf]; rfl, rfl, hS, hF, fun q => ?_⟩
          rw [hf] at q; cases q
    · rintro k I2 hk ⟨⟨⟨hS, hF, f63, f64, f68⟩, f67⟩, hz, cz⟩ ih
      obtain ⟨hP2, e37⟩ := fr I2 hS
      obtain ⟨⟨-, hb2, -, -, -, e38, e41, e44⟩, -, -, g1, g2, g3⟩ := id hP2
      refine Ex.iload (pc := 188) dX10_comesOn_188 rfl ?_
      refine Ex.aload_n (pc := 190) dX10_comesOn_190 rfl rfl ?_
      refine Ex.getR (pc := 191) dX10_comesOn_191 fX10_54 (sh36 _) r36_14 ?_
      refine Ex.aload_n (pc := 194) dX10_comesOn_194 rfl rfl ?_
      refine Ex.getI (pc := 195) dX10_comesOn_195 fX10_51 (sh36 _) ?_
      refine Ex.iald (pc := 198) (j := bk) dX10_comesOn_198 (sh38 _) (ixX hb2 h1 (by decide)) (ixX2 hb2 (by omega)) ?_
      rw [e38]
      refine Ex.icmp_ge (pc := 199) (tgt := 254) dX10_comesOn_199 (by decide) (fun c199 => absurd c199 (nI_ge hk (by omega))) (fun _ => ?_)
      refine Ex.aload_n (pc := 202) dX10_comesOn_202 rfl rfl ?_
      refine Ex.getR (pc := 203) dX10_comesOn_203 fX10_7 (sh36 _) r36_0 ?_
      refine Ex.iconst (pc := 206) (v := 3) dX10_comesOn_206 rfl ?_
      refine Ex.iload (pc := 207) dX10_comesOn_207 rfl ?_
      refine Ex.iadd (pc := 209) dX10_comesOn_209 ?_
      refine Ex.iald (pc := 210) (j := 3 + k) dX10_comesOn_210 (sh37 _) (ixA (x := 3) (a := 3) (j := k) rfl (by omega) (by decide)).1 (ixA2 (x := 3) (a := 3) (j := k) rfl (by omega)) ?_
      rw [e37 _ (by omega)]
      refine Ex.aload_n (pc := 211) dX10_comesOn_211 rfl rfl ?_
      refine Ex.getR (pc := 212) dX10_comesOn_212 fX10_60 (sh36 _) r36_16 ?_
      refine Ex.iconst (pc := 215) (v := 5) dX10_comesOn_215 rfl ?_
      refine Ex.aload_n (pc := 216) dX10_comesOn_216 rfl rfl ?_
      refine Ex.getI (pc := 217) dX10_comesOn_217 fX10_51 (sh36 _) ?_
      refine Ex.imul (pc := 220) dX10_comesOn_220 ?_
      refine Ex.iload (pc := 221) dX10_comesOn_221 rfl ?_
      refine Ex.iadd (pc := 223) dX10_comesOn_223 ?_
      refine Ex.iald (pc := 224) (j := 5 * bk + k) dX10_comesOn_224 (sh40 _) (ixE (c := 5) (a := bk) (b := k) hb2 rfl (by omega) (by decide)) (ixE2 (c := 5) hb2 rfl (by omega)) ?_
      rw [(g1 k hk).2]
      refine Ex.icmp_le (pc := 225) (tgt := 230) dX10_comesOn_225 (by decide) (fun c225 => ?_) (fun c225 => ?_)
      · skip
        refine Ex.aload_n (pc := 230) dX10_comesOn_230 rfl rfl ?_
        refine Ex.getR (pc := 231) dX10_comesOn_231 fX10_159 (sh36 _) r36_48 ?_
        refine Ex.iconst (pc := 234) (v := 5) dX10_comesOn_234 rfl ?_
        refine Ex.iload (pc := 235) dX10_comesOn_235 rfl ?_
        refine Ex.iadd (pc := 237) dX10_comesOn_237 ?_
        refine Ex.aload_n (pc := 238) dX10_comesOn_238 rfl rfl ?_
        refine Ex.getR (pc := 239) dX10_comesOn_239 fX10_7 (sh36 _) r36_0 ?_
        refine Ex.iconst (pc := 242) (v := 3) dX10_comesOn_242 rfl ?_
        refine Ex.iload (pc := 243) dX10_comesOn_243 rfl ?_
        refine Ex.iadd (pc := 245) dX10_comesOn_245 ?_
        refine Ex.iald (pc := 246) (j := 3 + k) dX10_comesOn_246 (sh37 _) (ixA (x := 3) (a := 3) (j := k) rfl (by omega) (by decide)).1 (ixA2 (x := 3) (a := 3) (j := k) rfl (by omega)) ?_
        rw [e37 _ (by omega)]
        refine Ex.iast (pc := 247) (j := 5 + k) dX10_comesOn_247 (sh65 _) (ixA (x := 5) (a := 5) (j := k) rfl (by omega) (by decide)).1 (ixA2 (x := 5) (a := 5) (j := k) rfl (by omega)) ?_
        refine Ex.iinc (pc := 248) (ls' := [some (.ref 36), some (.int _), some (.int _), some (.int _), none, some (.int _)]) dX10_comesOn_248 rfl rfl (by decide) rfl rfl ?_
        refine Ex.goto (pc := 251) (tgt := 188) dX10_comesOn_251 (by decide) ?_
        rw [show nI k + Int32.ofInt 1 = nI (k + 1) from nI_1 k]
        refine ih _ ⟨⟨⟨hS.up (by decide), SlF.p651 hF (by omega), ?_, ?_, ?_⟩, ?_⟩, ?_, ?_⟩
        · rw [va_up_n (by decide)]; exact f63
        · rw [va_up_n (by decide)]; exact f64
        · rw [va_up_n (by decide)]; exact f68
        · rw [va_up_n (by decide)]; exact f67
        · intro i hi; rw [va_up_s]
          by_cases e : i = k
          · rw [e, upd_s]
          · rw [upd_n (by omega)]; exact hz i (by omega)
        · intro i hi
          by_cases e : i = k
          · rw [e]; exact Int32.not_lt.mpr c225
          · exact cz i (by omega)
      · skip
        refine Ex.iconst (pc := 228) (v := 0) dX10_comesOn_228 rfl ?_
        refine Ex.iret (pc := 229) rfl rfl rfl dX10_comesOn_229 (Nat.le_refl _) (Nat.le_refl _) ?_
        have hf : isIm tb f6 nb ns nh t = false := hno (fun q => absurd (Int32.not_le.mp c225) (q.2.2.2.2.1 k hk))
        refine ⟨_, _, rfl, by rw [hf]; rfl, rfl, hS, hF, fun q => ?_⟩
        rw [hf] at q; cases q
  have k84 : t = 3 + nb + ns + nh + 1 → (¬ 999 < tb 0 * 256 + tb 1) → (¬ 99 < tb 2) → Ex 1 0 0 mX10_comesOn 0 0 84 [some (.ref 36), some (.int (nI t)), some (.int (nI (3 + nb))), some (.int (nI (3 + nb + ns))), some (.int 211), some (.int 0)] [] (St N I L) (RX N (fun o I2 L2 => o = some (.int (bI (isIm tb f6 nb ns nh t))) ∧ L2 = L ∧ Sm [63, 64, 65, 66, 67, 68, 69] I I2 ∧ SlF 1 I I2 ∧ (isIm tb f6 nb ns nh t = true → XR I2 1 nb ns (onX tb f5 f6 nb ns nh) ∧ KR I2 1 []))) := by
    intro q1 q2 q3
    have ht1 : nI t - 1 = nI (t - 1) := pk_sub (b := 1) (by omega)
    refine forUp (σ := Unit) (P := fun k _ => Ex 1 0 0 mX10_comesOn 0 0 84 [some (.ref 36), some (.int (nI t)), some (.int (nI (3 + nb))), some (.int (nI (3 + nb + ns))), some (.int (ckF tb k)), some (.int (nI k))] [] (St N I L) _) (Inv := fun _ _ => True) (t - 1) ?_ ?_ 0 () (Nat.zero_le _) trivial
    · rintro - -
      refine Ex.iload (pc := 84) dX10_comesOn_84 rfl ?_
      refine Ex.iload_n (pc := 86) dX10_comesOn_86 rfl rfl ?_
      refine Ex.iconst (pc := 87) (v := 1) dX10_comesOn_87 rfl ?_
      refine Ex.isub (pc := 88) dX10_comesOn_88 ?_
      rw [ht1]
      refine Ex.icmp_ge (pc := 89) (tgt := 116) dX10_comesOn_89 (by decide) (fun _ => ?_) (fun c89 => absurd (nI_le (Nat.le_refl _) (by omega)) c89)
      refine Ex.aload_n (pc := 116) dX10_comesOn_116 rfl rfl ?_
      refine Ex.getR (pc := 117) dX10_comesOn_117 fX10_7 (sh36 _) r36_0 ?_
      refine Ex.iload_n (pc := 120) dX10_comesOn_120 rfl rfl ?_
      refine Ex.iconst (pc := 121) (v := 1) dX10_comesOn_121 rfl ?_
      refine Ex.isub (pc := 122) dX10_comesOn_122 ?_
      refine Ex.iald (pc := 123) (j := t - 1) dX10_comesOn_123 (sh37 _) (by rw [ht1]; exact vp_in_nI (by omega) (by decide)) (by rw [ht1]; exact nI_clamp (by omega)) ?_
      rw [htb _ (by omega)]
      refine Ex.iload (pc := 124) dX10_comesOn_124 rfl ?_
      refine Ex.icmp_eq (pc := 126) (tgt := 131) dX10_comesOn_126 (by decide) (fun c126 => ?_) (fun c126 => ?_)
      · skip
        refine Ex.aload_n (pc := 131) dX10_comesOn_131 rfl rfl ?_
        refine Ex.iconst (pc := 132) (v := 1) dX10_comesOn_132 rfl ?_
        refine Ex.iconst (pc := 133) (v := 0) dX10_comesOn_133 rfl ?_
        refine Ex.callV (pc := 134) (As := [.int 1, .int 0]) (rest := []) dX10_comesOn_134 cX10_405 (tm_copies (to := 1) (fr := 0) (by decide) (by decide) (by decide) hnb hns hX hK) (sh36 _) rfl rfl (by decide) (Nat.le_refl _) (Nat.le_refl _) (Nat.le_of_ble_eq_true rfl) (Or.inl (fun r S' h => by obtain ⟨_, _, h, _⟩ := h; subst h; rfl)) (fun r S' hq _ _ => ?_)
        obtain ⟨I1, rfl, rfl, hS1, hF1, -, -⟩ := hq
        obtain ⟨-, e37⟩ := fr I1 hS1
        refine Ex.aload_n (pc := 137) dX10_comesOn_137 rfl rfl ?_
        refine Ex.getR (pc := 138) dX10_comesOn_138 fX10_153 (sh36 _) r36_46 ?_
        refine Ex.iconst (pc := 141) (v := 1) dX10_comesOn_141 rfl ?_
        refine Ex.aload_n (pc := 142) dX10_comesOn_142 rfl rfl ?_
        refine Ex.getR (pc := 143) dX10_comesOn_143 fX10_7 (sh36 _) r36_0 ?_
        refine Ex.iconst (pc := 146) (v := 0) dX10_comesOn_146 rfl ?_
        refine Ex.iald (pc := 147) (j := 0) dX10_comesOn_147 (sh37 _) (by unfold vp_in; decide) (by decide) ?_
        refine Ex.bipush (pc := 148) (v := 8) dX10_comesOn_148 rfl ?_
        refine Ex.ishl (pc := 150) dX10_comesOn_150 ?_
        refine Ex.aload_n (pc := 151) dX10_comesOn_151 rfl rfl ?_
        refine Ex.getR (pc := 152) dX10_comesOn_152 fX10_7 (sh36 _) r36_0 ?_
        refine Ex.iconst (pc := 155) (v := 1) dX10_comesOn_155 rfl ?_
        refine Ex.iald (pc := 156) (j := 1) dX10_comesOn_156 (sh37 _) (by unfold vp_in; decide) (by decide) ?_
        refine Ex.ior (pc := 157) dX10_comesOn_157 ?_
        refine Ex.iast (pc := 158) (j := 1) dX10_comesOn_158 (sh63 _) (by unfold vp_in; decide) (by decide) ?_
        refine Ex.aload_n (pc := 159) dX10_comesOn_159 rfl rfl ?_
        refine Ex.getR (pc := 160) dX10_comesOn_160 fX10_156 (sh36 _) r36_47 ?_
        refine Ex.iconst (pc := 163) (v := 1) dX10_comesOn_163 rfl ?_
        refine Ex.aload_n (pc := 164) dX10_comesOn_164 rfl rfl ?_
        refine Ex.getR (pc := 165) dX10_comesOn_165 fX10_7 (sh36 _) r36_0 ?_
        refine Ex.iconst (pc := 168) (v := 2) dX10_comesOn_168 rfl ?_
        refine Ex.iald (pc := 169) (j := 2) dX10_comesOn_169 (sh37 _) (by unfold vp_in; decide) (by decide) ?_
        refine Ex.iast (pc := 170) (j := 1) dX10_comesOn_170 (sh64 _) (by unfold vp_in; decide) (by decide) ?_
        refine Ex.aload_n (pc := 171) dX10_comesOn_171 rfl rfl ?_
        refine Ex.getR (pc := 172) dX10_comesOn_172 fX10_165 (sh36 _) r36_50 ?_
        refine Ex.iconst (pc := 175) (v := 1) dX10_comesOn_175 rfl ?_
        refine Ex.iconst (pc := 176) (v := 0) dX10_comesOn_176 rfl ?_
        refine Ex.iast (pc := 177) (j := 1) dX10_comesOn_177 (sh67 _) (by unfold vp_in; decide) (by decide) ?_
        refine Ex.aload_n (pc := 178) dX10_comesOn_178 rfl rfl ?_
        refine Ex.getR (pc := 179) dX10_comesOn_179 fX10_168 (sh36 _) r36_51 ?_
        refine Ex.iconst (pc := 182) (v := 1) dX10_comesOn_182 rfl ?_
        refine Ex.iconst (pc := 183) (v := 0) dX10_comesOn_183 rfl ?_
        refine Ex.iast (pc := 184) (j := 1) dX10_comesOn_184 (sh68 _) (by unfold vp_in; decide) (by decide) ?_
        refine Ex.iconst (pc := 185) (v := 0) dX10_comesOn_185 rfl ?_
        refine Ex.istore (pc := 186) (ls' := [some (.ref 36), some (.int _), some (.int _), some (.int _), some (.int _), some (.int 0)]) dX10_comesOn_186 (by decide) rfl rfl ?_
        refine Ex.le (ls' := [some (.ref 36), some (.int (nI t)), some (.int (nI (3 + nb))), some (.int (nI (3 + nb + ns))), none, some (.int 0)]) ⟨rfl, rfl, rfl, rfl, rfl, trivial⟩ ?_
        have o8 := sh8_or (hby 0 (by omega)) (hby 1 (by omega))
        rw [e37 0 (by omega), e37 1 (by omega), o8, va_up_n (show (37 : Nat) ≠ 63 by decide), e37 2 (by omega)]
        refine k188 q1 q2 q3 c126 _ ((((hS1.up (by decide)).up (by decide)).up (by decide)).up (by decide)) (SlF.p4 hF1) ?_ ?_ ?_ ?_
        · simp [va_up, upd]
        · simp [va_up, upd]
        · simp [va_up, upd]
        · simp [va_up, upd]
      · skip
        refine Ex.iconst (pc := 129) (v := 0) dX10_comesOn_129 rfl ?_
        refine Ex.iret (pc := 130) rfl rfl rfl dX10_comesOn_130 (Nat.le_refl _) (Nat.le_refl _) ?_
        have hf : isIm tb f6 nb ns nh t = false := hno (fun q => absurd q.2.2.2.1 c126)
        refine ⟨_, _, rfl, by rw [hf]; rfl, rfl, Sm.rf, SlF.rf, fun q => ?_⟩
        rw [hf] at q; cases q
    · rintro k - hk - ih
      refine Ex.iload (pc := 84) dX10_comesOn_84 rfl ?_
      refine Ex.iload_n (pc := 86) dX10_comesOn_86 rfl rfl ?_
      refine Ex.iconst (pc := 87) (v := 1) dX10_comesOn_87 rfl ?_
      refine Ex.isub (pc := 88) dX10_comesOn_88 ?_
      rw [ht1]
      refine Ex.icmp_ge (pc := 89) (tgt := 116) dX10_comesOn_89 (by decide) (fun c89 => absurd c89 (nI_ge hk (by omega))) (fun _ => ?_)
      refine Ex.iconst (pc := 92) (v := 5) dX10_comesOn_92 rfl ?_
      refine Ex.iload (pc := 93) dX10_comesOn_93 rfl ?_
      refine Ex.imul (pc := 95) dX10_comesOn_95 ?_
      refine Ex.aload_n (pc := 96) dX10_comesOn_96 rfl rfl ?_
      refine Ex.getR (pc := 97) dX10_comesOn_97 fX10_7 (sh36 _) r36_0 ?_
      refine Ex.iload (pc := 100) dX10_comesOn_100 rfl ?_
      refine Ex.iald (pc := 102) (j := k) dX10_comesOn_102 (sh37 _) (vp_in_nI (by omega) (by decide)) (ixN2 (by omega)) ?_
      rw [htb _ (by omega)]
      refine Ex.iadd (pc := 103) dX10_comesOn_103 ?_
      refine Ex.sipush (pc := 104) (v := 251) dX10_comesOn_104 rfl ?_
      refine Ex.irem (pc := 107) dX10_comesOn_107 (by decide) ?_
      refine Ex.istore (pc := 108) (ls' := [some (.ref 36), some (.int _), some (.int _), some (.int _), some (.int _), some (.int _)]) dX10_comesOn_108 (by decide) rfl rfl ?_
      refine Ex.iinc (pc := 110) (ls' := [some (.ref 36), some (.int _), some (.int _), some (.int _), some (.int _), some (.int _)]) dX10_comesOn_110 rfl rfl (by decide) rfl rfl ?_
      refine Ex.goto (pc := 113) (tgt := 84) dX10_comesOn_113 (by decide) ?_
      rw [show nI k + Int32.ofInt 1 = nI (k + 1) from nI_1 k]
      exact ih () trivial
  refine Ex.iconst (pc := 0) (v := 3) dX10_comesOn_0 rfl ?_
  refine Ex.aload_n (pc := 1) dX10_comesOn_1 rfl rfl ?_
  refine Ex.getR (pc := 2) dX10_comesOn_2 fX10_54 (sh36 _) r36_14 ?_
  refine Ex.aload_n (pc := 5) dX10_comesOn_5 rfl rfl ?_
  refine Ex.getI (pc := 6) dX10_comesOn_6 fX10_51 (sh36 _) ?_
  refine Ex.iald (pc := 9) (j := bk) dX10_comesOn_9 (sh38 _) (ixX h2 h1 (by decide)) (ixX2 h2 (by omega)) ?_
  rw [hcb]
  refine Ex.iadd (pc := 10) dX10_comesOn_10 ?_
  refine Ex.istore_n (pc := 11) (ls' := [some (.ref 36), some (.int _), some (.int _), none, none, none]) dX10_comesOn_11 rfl (by decide) rfl rfl ?_
  refine Ex.le (ls' := [some (.ref 36), some (.int (nI t)), some (.int (nI (3 + nb))), none, none, none]) ⟨rfl, rfl, congrArg Value.int (nI_add 3 nb).symm, trivial⟩ ?_
  refine Ex.iload_n (pc := 12) dX10_comesOn_12 rfl rfl ?_
  refine Ex.aload_n (pc := 13) dX10_comesOn_13 rfl rfl ?_
  refine Ex.getR (pc := 14) dX10_comesOn_14 fX10_63 (sh36 _) r36_17 ?_
  refine Ex.aload_n (pc := 17) dX10_comesOn_17 rfl rfl ?_
  refine Ex.getI (pc := 18) dX10_comesOn_18 fX10_51 (sh36 _) ?_
  refine Ex.iald (pc := 21) (j := bk) dX10_comesOn_21 (sh41 _) (ixX h2 h1 (by decide)) (ixX2 h2 (by omega)) ?_
  rw [hcs]
  refine Ex.iadd (pc := 22) dX10_comesOn_22 ?_
  refine Ex.istore_n (pc := 23) (ls' := [some (.ref 36), some (.int _), some (.int _), some (.int _), none, none]) dX10_comesOn_23 rfl (by decide) rfl rfl ?_
  refine Ex.le (ls' := [some (.ref 36), some (.int (nI t)), some (.int (nI (3 + nb))), some (.int (nI (3 + nb + ns))), none, none]) ⟨rfl, rfl, rfl, congrArg Value.int (nI_add _ ns).symm, trivial⟩ ?_
  refine Ex.iload_n (pc := 24) dX10_comesOn_24 rfl rfl ?_
  refine Ex.iload_n (pc := 25) dX10_comesOn_25 rfl rfl ?_
  refine Ex.aload_n (pc := 26) dX10_comesOn_26 rfl rfl ?_
  refine Ex.getR (pc := 27) dX10_comesOn_27 fX10_72 (sh36 _) r36_20 ?_
  refine Ex.aload_n (pc := 30) dX10_comesOn_30 rfl rfl ?_
  refine Ex.getI (pc := 31) dX10_comesOn_31 fX10_51 (sh36 _) ?_
  refine Ex.iald (pc := 34) (j := bk) dX10_comesOn_34 (sh44 _) (ixX h2 h1 (by decide)) (ixX2 h2 (by omega)) ?_
  rw [hch]
  refine Ex.iadd (pc := 35) dX10_comesOn_35 ?_
  refine Ex.iconst (pc := 36) (v := 1) dX10_comesOn_36 rfl ?_
  refine Ex.iadd (pc := 37) dX10_comesOn_37 ?_
  rw [show nI (3 + nb + ns) + nI nh + 1 = nI (3 + nb + ns + nh + 1) from by rw [nI_add]; exact nI_add _ 1]
  refine Ex.icmp_ne (pc := 38) (tgt := 74) dX10_comesOn_38 (by decide) (fun c38 => ?_) (fun c38 => ?_)
  · skip
    refine Ex.iconst (pc := 74) (v := 0) dX10_comesOn_74 rfl ?_
    refine Ex.iret (pc := 75) rfl rfl rfl dX10_comesOn_75 (Nat.le_refl _) (Nat.le_refl _) ?_
    have hf : isIm tb f6 nb ns nh t = false := hno (fun q => c38 (by rw [q.1]))
    refine ⟨_, _, rfl, by rw [hf]; rfl, rfl, Sm.rf, SlF.rf, fun q => ?_⟩
    rw [hf] at q; cases q
  · skip
    have q1 : t = 3 + nb + ns + nh + 1 := (nI_eq (by omega) (by omega)).mp c38
    have o8 := sh8_or (hby 0 (by omega)) (hby 1 (by omega))
    refine Ex.aload_n (pc := 41) dX10_comesOn_41 rfl rfl ?_
    refine Ex.getR (pc := 42) dX10_comesOn_42 fX10_7 (sh36 _) r36_0 ?_
    refine Ex.iconst (pc := 45) (v := 0) dX10_comesOn_45 rfl ?_
    refine Ex.iald (pc := 46) (j := 0) dX10_comesOn_46 (sh37 _) (by unfold vp_in; decide) (by decide) ?_
    refine Ex.bipush (pc := 47) (v := 8) dX10_comesOn_47 rfl ?_
    refine Ex.ishl (pc := 49) dX10_comesOn_49 ?_
    refine Ex.aload_n (pc := 50) dX10_comesOn_50 rfl rfl ?_
    refine Ex.getR (pc := 51) dX10_comesOn_51 fX10_7 (sh36 _) r36_0 ?_
    refine Ex.iconst (pc := 54) (v := 1) dX10_comesOn_54 rfl ?_
    refine Ex.iald (pc := 55) (j := 1) dX10_comesOn_55 (sh37 _) (by unfold vp_in; decide) (by decide) ?_
    refine Ex.ior (pc := 56) dX10_comesOn_56 ?_
    rw [htb 0 (by omega), htb 1 (by omega), o8]
    refine Ex.sipush (pc := 57) (v := 999) dX10_comesOn_57 rfl ?_
    refine Ex.icmp_gt (pc := 60) (tgt := 74) dX10_comesOn_60 (by decide) (fun c60 => ?_) (fun c60 => ?_)
    · skip
      refine Ex.iconst (pc := 74) (v := 0) dX10_comesOn_74 rfl ?_
      refine Ex.iret (pc := 75) rfl rfl rfl dX10_comesOn_75 (Nat.le_refl _) (Nat.le_refl _) ?_
      have hf : isIm tb f6 nb ns nh t = false := hno (fun q => q.2.1 c60)
      refine ⟨_, _, rfl, by rw [hf]; rfl, rfl, Sm.rf, SlF.rf, fun q => ?_⟩
      rw [hf] at q; cases q
    · skip
      refine Ex.aload_n (pc := 63) dX10_comesOn_63 rfl rfl ?_
      refine Ex.getR (pc := 64) dX10_comesOn_64 fX10_7 (sh36 _) r36_0 ?_
      refine Ex.iconst (pc := 67) (v := 2) dX10_comesOn_67 rfl ?_
      refine Ex.iald (pc := 68) (j := 2) dX10_comesOn_68 (sh37 _) (by unfold vp_in; decide) (by decide) ?_
      rw [htb 2 (by omega)]
      refine Ex.bipush (pc := 69) (v := 99) dX10_comesOn_69 rfl ?_
      refine Ex.icmp_le (pc := 71) (tgt := 76) dX10_comesOn_71 (by decide) (fun c71 => ?_) (fun c71 => ?_)
      · skip
        refine Ex.sipush (pc := 76) (v := 211) dX10_comesOn_76 rfl ?_
        refine Ex.istore (pc := 79) (ls' := [some (.ref 36), some (.int _), some (.int _), some (.int _), some (.int 211), none]) dX10_comesOn_79 (by decide) rfl rfl ?_
        refine Ex.iconst (pc := 81) (v := 0) dX10_comesOn_81 rfl ?_
        refine Ex.istore (pc := 82) (ls' := [some (.ref 36), some (.int _), some (.int _), some (.int _), some (.int 211), some (.int 0)]) dX10_comesOn_82 (by decide) rfl rfl ?_
        exact k84 q1 c60 (Int32.not_lt.mpr c71)
      · skip
        refine Ex.iconst (pc := 74) (v := 0) dX10_comesOn_74 rfl ?_
        refine Ex.iret (pc := 75) rfl rfl rfl dX10_comesOn_75 (Nat.le_refl _) (Nat.le_refl _) ?_
        have hf : isIm tb f6 nb ns nh t = false := hno (fun q => absurd (Int32.not_le.mp c71) q.2.2.1)
        refine ⟨_, _, rfl, by rw [hf]; rfl, rfl, Sm.rf, SlF.rf, fun q => ?_⟩
        rw [hf] at q; cases q
set_option maxRecDepth 20000 in
theorem tm_on0 {N : Nat} {I : aI} {L : aL} {p : aP} {bk nb ns nh : Nat} {f5 f6 : Nat → Int32} {x : aX} {rs : List aRow} (hR : RS I bk nb ns nh p f5 f6 x rs) {t : Nat} {tb : Nat → Int32} (ht : I 36 1 = nI t) (h16 : t ≤ 1600) (htb : ∀ i, i < t → I 37 i = tb i) (hby : byt tb t) (hno : isIm tb f6 nb ns nh t = false) : Run 2 0 0 mX10_on [.ref 36] (St N I L) (RX N (fun o I2 L2 => o = some (.int 0) ∧ L2 = L ∧ Sm [36, 62, 63, 64, 65, 66, 67, 68, 69] I I2 ∧ (∀ j, j ≠ 1 → I2 36 j = I 36 j) ∧ I2 36 1 = 0 ∧ SlF 1 I I2 ∧ I2 62 = upd (I 62) 5 (I 62 5 + 1))) := by
  refine Run.of (ls := [some (.ref 36), none]) (by decide) (Nat.le_of_ble_eq_true rfl) rfl ?_
  obtain ⟨hP, hX, hK, hG, hrb⟩ := id hR
  obtain ⟨⟨h1, h2, hnb, hns, hnh, hcb, hcs, hch⟩, -⟩ := id hP
  have hS0 : Sm [36] I (va_up I 36 (upd (I 36) 1 0)) := Sm.rf.up (by decide)
  have h360 : ∀ j, j ≠ 1 → va_up I 36 (upd (I 36) 1 0) 36 j = I 36 j := fun j hj => by rw [va_up_s, upd_n hj]
  have hR1 : RS (va_up I 36 (upd (I 36) 1 0)) bk nb ns nh p f5 f6 x rs := ⟨hP.sm' hS0 (h360 13 (by decide)) (by decide), hX.sm7 hS0 (by decide), hK.sm7 hS0 (by decide), hG, hrb⟩
  have htb1 : ∀ i, i < t → va_up I 36 (upd (I 36) 1 0) 37 i = tb i := fun i hi => by rw [va_up_n (by decide)]; exact htb i hi
  refine Ex.aload_n (pc := 0) dX10_on_0 rfl rfl ?_
  refine Ex.getI (pc := 1) dX10_on_1 fX10_13 (sh36 _) ?_
  refine Ex.istore_n (pc := 4) (ls' := [some (.ref 36), some (.int _)]) dX10_on_4 rfl (by decide) rfl rfl ?_
  rw [ht]
  refine Ex.aload_n (pc := 5) dX10_on_5 rfl rfl ?_
  refine Ex.iconst (pc := 6) (v := 0) dX10_on_6 rfl ?_
  refine Ex.putI (pc := 7) dX10_on_7 fX10_13 (sh36 _) (Or.inl rfl) ⟨rfl, rfl⟩ ?_
  refine Ex.aload_n (pc := 10) dX10_on_10 rfl rfl ?_
  refine Ex.iload_n (pc := 11) dX10_on_11 rfl rfl ?_
  refine Ex.callV (pc := 12) (As := [.int _]) (rest := []) dX10_on_12 cX10_536 (tm_comesOn hR1 h16 htb1 hby) (sh36 _) rfl rfl (by decide) (Nat.le_refl _) (Nat.le_refl _) (Nat.le_of_ble_eq_true rfl) (Or.inl (fun r S' h => by obtain ⟨_, _, h, _⟩ := h; subst h; rfl)) (fun r S' hq _ _ => ?_)
  obtain ⟨I1, L1, rfl, rfl, rfl, hS1, hF1, hX1⟩ := hq
  rw [hno]
  refine Ex.if_ne (pc := 15) (tgt := 32) dX10_on_15 (by decide) (fun c15 => absurd rfl c15) (fun _ => ?_)
  refine Ex.aload_n (pc := 18) dX10_on_18 rfl rfl ?_
  refine Ex.iconst (pc := 19) (v := 5) dX10_on_19 rfl ?_
  refine Ex.callV (pc := 20) (As := [.int 5]) (rest := []) dX10_on_20 cX10_222 (tm_refuses (k := 5) (by decide)) (sh36 _) rfl rfl (by decide) (Nat.le_refl _) (Nat.le_refl _) (Nat.le_of_ble_eq_true rfl) (Or.inl (fun r S' h => by obtain ⟨_, h⟩ := h; subst h; rfl)) (fun r S' hq _ _ => ?_)
  obtain ⟨rfl, rfl⟩ := hq
  refine Ex.if_lt (pc := 23) (tgt := 30) dX10_on_23 (by decide) (fun _ => ?_) (fun c23 => absurd (by decide) c23)
  refine Ex.iconst (pc := 30) (v := 0) dX10_on_30 rfl ?_
  refine Ex.iret (pc := 31) rfl rfl rfl dX10_on_31 (Nat.le_refl _) (Nat.le_refl _) ?_
  have hF2 : SlF 1 I I1 := (SlF.of hS0 (by decide)).tr hF1
  refine ⟨_, _, rfl, rfl, rfl, ?_, ?_, ?_, ?_, ?_⟩
  · exact (hS0.tr hS1 (l := [36, 62, 63, 64, 65, 66, 67, 68, 69]) (by decide) (by decide)).up (by decide)
  · intro j hj; unfold refM; rw [va_up_n (by decide), hS1 36 (by decide)]; exact h360 j hj
  · unfold refM; rw [va_up_n (by decide), hS1 36 (by decide), va_up_s, upd_s]
  · exact hF2.tr (SlF.of (l := [62]) (Sm.rf.up (by decide)) (by decide))
  · unfold refM; rw [va_up_s, hS1 62 (by decide), va_up_n (by decide)]
set_option maxRecDepth 20000 in
theorem tm_on1 {N : Nat} {I : aI} {L : aL} {p : aP} {bk nb ns nh : Nat} {f5 f6 : Nat → Int32} {x : aX} {rs : List aRow} (hR : RS I bk nb ns nh p f5 f6 x rs) {t : Nat} {tb : Nat → Int32} (ht : I 36 1 = nI t) (h16 : t ≤ 1600) (htb : ∀ i, i < t → I 37 i = tb i) (hby : byt tb t) (hyes : isIm tb f6 nb ns nh t = true) : Run 2 0 0 mX10_on [.ref 36] (St N I L) (RX N (fun o I2 L2 => o = some (.int 1) ∧ L2 = L ∧ Sm [36, 63, 64, 65, 66, 67, 68, 69] I I2 ∧ (∀ j, j ≠ 1 → j ≠ 54 → I2 36 j = I 36 j) ∧ I2 36 1 = 0 ∧ I2 36 54 = 0 ∧ XR I2 0 nb ns (onX tb f5 f6 nb ns nh) ∧ KR I2 0 [])) := by
  refine Run.of (ls := [some (.ref 36), none]) (by decide) (Nat.le_of_ble_eq_true rfl) rfl ?_
  obtain ⟨hP, hX, hK, hG, hrb⟩ := id hR
  obtain ⟨⟨h1, h2, hnb, hns, hnh, hcb, hcs, hch⟩, -⟩ := id hP
  have hS0 : Sm [36] I (va_up I 36 (upd (I 36) 1 0)) := Sm.rf.up (by decide)
  have h360 : ∀ j, j ≠ 1 → va_up I 36 (upd (I 36) 1 0) 36 j = I 36 j := fun j hj => by rw [va_up_s, upd_n hj]
  have hR1 : RS (va_up I 36 (upd (I 36) 1 0)) bk nb ns nh p f5 f6 x rs := ⟨hP.sm' hS0 (h360 13 (by decide)) (by decide), hX.sm7 hS0 (by decide), hK.sm7 hS0 (by decide), hG, hrb⟩
  have htb1 : ∀ i, i < t → va_up I 36 (upd (I 36) 1 0) 37 i = tb i := fun i hi => by rw [va_up_n (by decide)]; exact htb i hi
  refine Ex.aload_n (pc := 0) dX10_on_0 rfl rfl ?_
  refine Ex.getI (pc := 1) dX10_on_1 fX10_13 (sh36 _) ?_
  refine Ex.istore_n (pc := 4) (ls' := [some (.ref 36), some (.int _)]) dX10_on_4 rfl (by decide) rfl rfl ?_
  rw [ht]
  refine Ex.aload_n (pc := 5) dX10_on_5 rfl rfl ?_
  refine Ex.iconst (pc := 6) (v := 0) dX10_on_6 rfl ?_
  refine Ex.putI (pc := 7) dX10_on_7 fX10_13 (sh36 _) (Or.inl rfl) ⟨rfl, rfl⟩ ?_
  refine Ex.aload_n (pc := 10) dX10_on_10 rfl rfl ?_
  refine Ex.iload_n (pc := 11) dX10_on_11 rfl rfl ?_
  refine Ex.callV (pc := 12) (As := [.int _]) (rest := []) dX10_on_12 cX10_536 (tm_comesOn hR1 h16 htb1 hby) (sh36 _) rfl rfl (by decide) (Nat.le_refl _) (Nat.le_refl _) (Nat.le_of_ble_eq_true rfl) (Or.inl (fun r S' h => by obtain ⟨_, _, h, _⟩ := h; subst h; rfl)) (fun r S' hq _ _ => ?_)
  obtain ⟨I1, L1, rfl, rfl, rfl, hS1, hF1, hX1⟩ := hq
  rw [hyes]
  refine Ex.if_ne (pc := 15) (tgt := 32) dX10_on_15 (by decide) (fun _ => ?_) (fun c15 => absurd c15 (by decide))
  refine Ex.aload_n (pc := 32) dX10_on_32 rfl rfl ?_
  refine Ex.iconst (pc := 33) (v := 0) dX10_on_33 rfl ?_
  refine Ex.iconst (pc := 34) (v := 1) dX10_on_34 rfl ?_
  refine Ex.callV (pc := 35) (As := [.int 0, .int 1]) (rest := []) dX10_on_35 cX10_405 (tm_copies (to := 0) (fr := 1) (by decide) (by decide) (by decide) hnb hns (hX1 hyes).1 (hX1 hyes).2) (sh36 _) rfl rfl (by decide) (Nat.le_refl _) (Nat.le_refl _) (Nat.le_of_ble_eq_true rfl) (Or.inl (fun r S' h => by obtain ⟨_, _, h, _⟩ := h; subst h; rfl)) (fun r S' hq _ _ => ?_)
  obtain ⟨I2, rfl, rfl, hS2, hF2, hX2, hK2⟩ := hq
  refine Ex.aload_n (pc := 38) dX10_on_38 rfl rfl ?_
  refine Ex.iconst (pc := 39) (v := 0) dX10_on_39 rfl ?_
  refine Ex.putI (pc := 40) dX10_on_40 fX10_177 (sh36 _) (Or.inl rfl) ⟨rfl, rfl⟩ ?_
  refine Ex.iconst (pc := 43) (v := 1) dX10_on_43 rfl ?_
  refine Ex.iret (pc := 44) rfl rfl rfl dX10_on_44 (Nat.le_refl _) (Nat.le_refl _) ?_
  have hS3 : Sm [36] I2 (va_up I2 36 (upd (I2 36) 54 0)) := Sm.rf.up (by decide)
  refine ⟨_, _, rfl, rfl, rfl, ?_, ?_, ?_, ?_, hX2.sm7 hS3 (by decide), hK2.sm7 hS3 (by decide)⟩
  · exact ((hS0.tr hS1 (l := [36, 63, 64, 65, 66, 67, 68, 69]) (by decide) (by decide)).tr hS2 (l := [36, 63, 64, 65, 66, 67, 68, 69]) (by decide) (by decide)).up (by decide)
  · intro j hj h54; rw [va_up_s, upd_n h54, hS2 36 (by decide), hS1 36 (by decide)]; exact h360 j hj
  · rw [va_up_s, upd_n (by decide), hS2 36 (by decide), hS1 36 (by decide), va_up_s, upd_s]
  · rw [va_up_s, upd_s]
