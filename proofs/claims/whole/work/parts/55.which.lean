def SeeM (I : aI) (nb : Nat) (rs : aSee) : Prop := I 36 62 = nI rs.length ∧ rs.length ≤ 16 ∧ ∀ (k b n : Nat) (l : Int32), rs[k]? = some (b, n, l) → b < nb ∧ n ≤ 40 ∧ I 76 k = nI b ∧ I 77 k = nI n ∧ I 78 k = l
theorem SeeM.q {I I2 : aI} {nb : Nat} {rs : aSee} (h : SeeM I nb rs) (hq : QF I I2) : SeeM I2 nb rs := by
  obtain ⟨h1, h2, h3⟩ := h
  refine ⟨by rw [hq.1 36 (by decide)]; exact h1, h2, fun k b n l hk => ?_⟩
  rw [hq.1 76 (by decide), hq.1 77 (by decide), hq.1 78 (by decide)]
  exact h3 k b n l hk
theorem soF_app (p : aP) (f5 f6 : Nat → Int32) (x : aX) (s : Nat) (b n : Nat) (l : Int32) : ∀ rs : aSee, soF p f5 f6 x s (rs ++ [(b, n, l)]) = (soF p f5 f6 x s rs && decide ((rubX p f5 f6 x b s n).2.1 = l))
  | [] => by simp [soF]
  | (b', n', l') :: rs => by
    show (decide _ && soF p f5 f6 x s (rs ++ [(b, n, l)])) = _
    rw [soF_app p f5 f6 x s b n l rs, ← Bool.and_assoc]
    rfl
theorem soF_take (p : aP) (f5 f6 : Nat → Int32) (x : aX) (s : Nat) (rs : aSee) {k b n : Nat} {l : Int32} (h : rs[k]? = some (b, n, l)) : soF p f5 f6 x s (rs.take (k + 1)) = (soF p f5 f6 x s (rs.take k) && decide ((rubX p f5 f6 x b s n).2.1 = l)) := by
  rw [List.take_succ, h]
  exact soF_app p f5 f6 x s b n l _
set_option maxRecDepth 20000 in
theorem tm_which {N : Nat} {I : aI} {L : aL} {p : aP} {bk nb ns nh : Nat} {f5 f6 : Nat → Int32} {x : aX} {kr : List aRow} (hR : RS I bk nb ns nh p f5 f6 x kr) {rs : aSee} (hM : SeeM I nb rs) : Run 6 0 0 mX10_which [.ref 36] (St N I L) (RX N (fun o I2 L2 => o = some (.int (whF p f5 f6 x rs ns)) ∧ QF I I2 ∧ SmL [70] L L2)) := by
  refine Run.of (ls := [some (.ref 36), none, none, none, none]) (by decide) (Nat.le_of_ble_eq_true rfl) rfl ?_
  obtain ⟨hP, hX, hK, hG, hrb⟩ := id hR
  obtain ⟨⟨h1, h2, hnb, hns, hnh, hcb, hcs, hch⟩, -⟩ := id hP
  refine Ex.iconst (pc := 0) (v := 0) dX10_which_0 rfl ?_
  refine Ex.istore_n (pc := 1) (ls' := [some (.ref 36), some (.int 0), none, none, none]) dX10_which_1 rfl (by decide) rfl rfl ?_
  refine Ex.iconst (pc := 2) (v := 0) dX10_which_2 rfl ?_
  refine Ex.istore_n (pc := 3) (ls' := [some (.ref 36), some (.int 0), some (.int 0), none, none]) dX10_which_3 rfl (by decide) rfl rfl ?_
  refine Ex.le (ls' := [some (.ref 36), some (.int 0), some (.int 0), none, none]) ⟨rfl, rfl, rfl, trivial⟩ ?_
  refine forUp (σ := aI × aL) (P := fun k q => Ex 6 0 0 mX10_which 0 0 4 [some (.ref 36), some (.int (whF p f5 f6 x rs k)), some (.int (nI k)), none, none] [] (St N q.1 q.2) _) (Inv := fun k q => QF I q.1 ∧ SmL [70] L q.2) ns ?_ ?_ 0 (I, L) (Nat.zero_le _) ⟨QF.rf, SmL.rf⟩
  · rintro ⟨I2, L2⟩ ⟨hQ, hSL⟩
    dsimp only at *
    have hR2 := hR.q hQ
    have hM2 := hM.q hQ
    have hb2 : I2 36 13 = nI bk := hR2.1.1.2.1
    have hc2 : I2 41 bk = nI ns := hR2.1.1.2.2.2.2.2.2.1
    refine Ex.iload_n (pc := 4) dX10_which_4 rfl rfl ?_
    refine Ex.aload_n (pc := 5) dX10_which_5 rfl rfl ?_
    refine Ex.getR (pc := 6) dX10_which_6 fX10_63 (sh36 _) r36_17 ?_
    refine Ex.aload_n (pc := 9) dX10_which_9 rfl rfl ?_
    refine Ex.getI (pc := 10) dX10_which_10 fX10_51 (sh36 _) ?_
    refine Ex.iald (pc := 13) (j := bk) dX10_which_13 (sh41 _) (ixX hb2 h1 (by decide)) (ixX2 hb2 (by omega)) ?_
    rw [hc2]
    refine Ex.icmp_ge (pc := 14) (tgt := 96) dX10_which_14 (by decide) (fun _ => ?_) (fun c14 => absurd (nI_le (Nat.le_refl _) (by omega)) c14)
    refine Ex.iload_n (pc := 96) dX10_which_96 rfl rfl ?_
    refine Ex.iret (pc := 97) rfl rfl rfl dX10_which_97 (Nat.le_refl _) (Nat.le_refl _) ?_
    exact ⟨_, _, rfl, rfl, hQ, hSL⟩
  · rintro s ⟨I2, L2⟩ hs ⟨hQ, hSL⟩ ih
    dsimp only at *
    have hR2 := hR.q hQ
    have hM2 := hM.q hQ
    have hb2 : I2 36 13 = nI bk := hR2.1.1.2.1
    have hc2 : I2 41 bk = nI ns := hR2.1.1.2.2.2.2.2.2.1
    refine Ex.iload_n (pc := 4) dX10_which_4 rfl rfl ?_
    refine Ex.aload_n (pc := 5) dX10_which_5 rfl rfl ?_
    refine Ex.getR (pc := 6) dX10_which_6 fX10_63 (sh36 _) r36_17 ?_
    refine Ex.aload_n (pc := 9) dX10_which_9 rfl rfl ?_
    refine Ex.getI (pc := 10) dX10_which_10 fX10_51 (sh36 _) ?_
    refine Ex.iald (pc := 13) (j := bk) dX10_which_13 (sh41 _) (ixX hb2 h1 (by decide)) (ixX2 hb2 (by omega)) ?_
    rw [hc2]
    refine Ex.icmp_ge (pc := 14) (tgt := 96) dX10_which_14 (by decide) (fun c14 => absurd c14 (nI_ge hs (by omega))) (fun _ => ?_)
    refine Ex.iconst (pc := 17) (v := 1) dX10_which_17 rfl ?_
    refine Ex.istore_n (pc := 18) (ls' := [some (.ref 36), some (.int _), some (.int _), some (.int 1), none]) dX10_which_18 rfl (by decide) rfl rfl ?_
    refine Ex.iconst (pc := 19) (v := 0) dX10_which_19 rfl ?_
    refine Ex.istore (pc := 20) (ls' := [some (.ref 36), some (.int _), some (.int _), some (.int 1), some (.int 0)]) dX10_which_20 (by decide) rfl rfl ?_
    refine forUp (σ := aI × aL) (P := fun k q => Ex 6 0 0 mX10_which 0 0 22 [some (.ref 36), some (.int (whF p f5 f6 x rs s)), some (.int (nI s)), some (.int (bI (soF p f5 f6 x s (rs.take k)))), some (.int (nI k))] [] (St N q.1 q.2) _) (Inv := fun k q => QF I q.1 ∧ SmL [70] L q.2) rs.length ?_ ?_ 0 (I2, L2) (Nat.zero_le _) ⟨hQ, hSL⟩
    · rintro ⟨I3, L3⟩ ⟨hQ3, hSL3⟩
      clear hR2 hM2 hb2 hc2
      dsimp only at *
      have hR2 := hR.q hQ3
      have hM2 := hM.q hQ3
      obtain ⟨m1, m2, m3⟩ := hM2
      rw [List.take_length]
      refine Ex.iload (pc := 22) dX10_which_22 rfl ?_
      refine Ex.aload_n (pc := 24) dX10_which_24 rfl rfl ?_
      refine Ex.getI (pc := 25) dX10_which_25 fX10_201 (sh36 _) ?_
      refine Ex.icmp_ge (pc := 28) (tgt := 76) dX10_which_28 (by decide) (fun _ => ?_) (fun c28 => absurd (by rw [m1]; exact nI_le (Nat.le_refl _) (by omega)) c28)
      refine Ex.iload_n (pc := 76) dX10_which_76 rfl rfl ?_
      refine Ex.iload_n (pc := 77) dX10_which_77 rfl rfl ?_
      refine Ex.if_eq (pc := 78) (tgt := 87) dX10_which_78 (by decide) (fun c78 => ?_) (fun c78 => ?_)
      · skip
        refine Ex.iconst (pc := 87) (v := 0) dX10_which_87 rfl ?_
        refine Ex.ior (pc := 88) dX10_which_88 ?_
        refine Ex.istore_n (pc := 89) (ls' := [some (.ref 36), some (.int _), some (.int _), some (.int _), some (.int _)]) dX10_which_89 rfl (by decide) rfl rfl ?_
        refine Ex.iinc (pc := 90) (ls' := [some (.ref 36), some (.int _), some (.int _), some (.int _), some (.int _)]) dX10_which_90 rfl rfl (by decide) rfl rfl ?_
        refine Ex.goto (pc := 93) (tgt := 4) dX10_which_93 (by decide) ?_
        rw [show nI s + Int32.ofInt 1 = nI (s + 1) from nI_1 s]
        have es : whF p f5 f6 x rs (s + 1) = whF p f5 f6 x rs s ||| (if soF p f5 f6 x s rs = true then (1 : Int32) <<< (nI s &&& 31) else 0) := rfl
        rw [bI_0 c78] at es
        rw [if_neg (by decide)] at es
        rw [es] at ih
        exact Ex.le (ls' := [some (.ref 36), some (.int (whF p f5 f6 x rs s ||| 0)), some (.int (nI (s + 1))), none, none]) ⟨rfl, rfl, rfl, trivial⟩ (ih (I3, L3) ⟨hQ3, hSL3⟩)
      · skip
        refine Ex.iconst (pc := 81) (v := 1) dX10_which_81 rfl ?_
        refine Ex.iload_n (pc := 82) dX10_which_82 rfl rfl ?_
        refine Ex.ishl (pc := 83) dX10_which_83 ?_
        refine Ex.goto (pc := 84) (tgt := 88) dX10_which_84 (by decide) ?_
        refine Ex.ior (pc := 88) dX10_which_88 ?_
        refine Ex.istore_n (pc := 89) (ls' := [some (.ref 36), some (.int _), some (.int _), some (.int _), some (.int _)]) dX10_which_89 rfl (by decide) rfl rfl ?_
        refine Ex.iinc (pc := 90) (ls' := [some (.ref 36), some (.int _), some (.int _), some (.int _), some (.int _)]) dX10_which_90 rfl rfl (by decide) rfl rfl ?_
        refine Ex.goto (pc := 93) (tgt := 4) dX10_which_93 (by decide) ?_
        rw [show nI s + Int32.ofInt 1 = nI (s + 1) from nI_1 s]
        have es : whF p f5 f6 x rs (s + 1) = whF p f5 f6 x rs s ||| (if soF p f5 f6 x s rs = true then (1 : Int32) <<< (nI s &&& 31) else 0) := rfl
        rw [bI_1 c78] at es
        rw [if_pos rfl] at es
        rw [es] at ih
        exact Ex.le (ls' := [some (.ref 36), some (.int (whF p f5 f6 x rs s ||| (1 : Int32) <<< (nI s &&& 31))), some (.int (nI (s + 1))), none, none]) ⟨rfl, rfl, rfl, trivial⟩ (ih (I3, L3) ⟨hQ3, hSL3⟩)
    · rintro k ⟨I3, L3⟩ hk ⟨hQ3, hSL3⟩ ih2
      clear hR2 hM2 hb2 hc2
      dsimp only at *
      have hR2 := hR.q hQ3
      have hM2 := hM.q hQ3
      obtain ⟨m1, m2, m3⟩ := hM2
      obtain ⟨⟨b, n, l⟩, hkk⟩ : ∃ z, rs[k]? = some z := ⟨_, List.getElem?_eq_getElem hk⟩
      obtain ⟨hb, hn, e76, e77, e78⟩ := m3 k b n l hkk
      have hst := soF_take p f5 f6 x s rs hkk
      rw [hst] at ih2
      refine Ex.iload (pc := 22) dX10_which_22 rfl ?_
      refine Ex.aload_n (pc := 24) dX10_which_24 rfl rfl ?_
      refine Ex.getI (pc := 25) dX10_which_25 fX10_201 (sh36 _) ?_
      refine Ex.icmp_ge (pc := 28) (tgt := 76) dX10_which_28 (by decide) (fun c28 => absurd c28 (by rw [m1]; exact nI_ge hk (by omega))) (fun _ => ?_)
      refine Ex.iload_n (pc := 31) dX10_which_31 rfl rfl ?_
      refine Ex.if_eq (pc := 32) (tgt := 68) dX10_which_32 (by decide) (fun c32 => ?_) (fun c32 => ?_)
      · skip
        refine Ex.iconst (pc := 68) (v := 0) dX10_which_68 rfl ?_
        refine Ex.istore_n (pc := 69) (ls' := [some (.ref 36), some (.int _), some (.int _), some (.int 0), some (.int _)]) dX10_which_69 rfl (by decide) rfl rfl ?_
        refine Ex.iinc (pc := 70) (ls' := [some (.ref 36), some (.int _), some (.int _), some (.int 0), some (.int _)]) dX10_which_70 rfl rfl (by decide) rfl rfl ?_
        refine Ex.goto (pc := 73) (tgt := 22) dX10_which_73 (by decide) ?_
        rw [show nI k + Int32.ofInt 1 = nI (k + 1) from nI_1 k]
        rw [bI_0 c32] at ih2
        exact ih2 (I3, L3) ⟨hQ3, hSL3⟩
      · skip
        refine Ex.aload_n (pc := 35) dX10_which_35 rfl rfl ?_
        refine Ex.aload_n (pc := 36) dX10_which_36 rfl rfl ?_
        refine Ex.getR (pc := 37) dX10_which_37 fX10_204 (sh36 _) r36_63 ?_
        refine Ex.iload (pc := 40) dX10_which_40 rfl ?_
        refine Ex.iald (pc := 42) (j := k) dX10_which_42 (sh76 _) (vp_in_nI (by omega) (by decide)) (ixN2 (by omega)) ?_
        rw [e76]
        refine Ex.iload_n (pc := 43) dX10_which_43 rfl rfl ?_
        refine Ex.aload_n (pc := 44) dX10_which_44 rfl rfl ?_
        refine Ex.getR (pc := 45) dX10_which_45 fX10_207 (sh36 _) r36_64 ?_
        refine Ex.iload (pc := 48) dX10_which_48 rfl ?_
        refine Ex.iald (pc := 50) (j := k) dX10_which_50 (sh77 _) (vp_in_nI (by omega) (by decide)) (ixN2 (by omega)) ?_
        rw [e77]
        refine Ex.callV (pc := 51) (As := [.int _, .int _, .int _]) (rest := []) dX10_which_51 cX10_512 (tm_leftBy hR2 hb hs (by omega)) (sh36 _) rfl rfl (by decide) (Nat.le_refl _) (Nat.le_refl _) (Nat.le_of_ble_eq_true rfl) (Or.inl (fun r S' h => by obtain ⟨_, _, h, _⟩ := h; subst h; rfl)) (fun r S' hq _ _ => ?_)
        obtain ⟨I4, L4, rfl, rfl, hQ4, hSL4⟩ := hq
        refine Ex.aload_n (pc := 54) dX10_which_54 rfl rfl ?_
        refine Ex.getR (pc := 55) dX10_which_55 fX10_210 (sh36 _) r36_65 ?_
        refine Ex.iload (pc := 58) dX10_which_58 rfl ?_
        refine Ex.iald (pc := 60) (j := k) dX10_which_60 (sh78 _) (vp_in_nI (by omega) (by decide)) (ixN2 (by omega)) ?_
        refine Ex.icmp_ne (pc := 61) (tgt := 68) dX10_which_61 (by decide) (fun c61 => ?_) (fun c61 => ?_)
        · skip
          refine Ex.iconst (pc := 68) (v := 0) dX10_which_68 rfl ?_
          refine Ex.istore_n (pc := 69) (ls' := [some (.ref 36), some (.int _), some (.int _), some (.int 0), some (.int _)]) dX10_which_69 rfl (by decide) rfl rfl ?_
          refine Ex.iinc (pc := 70) (ls' := [some (.ref 36), some (.int _), some (.int _), some (.int 0), some (.int _)]) dX10_which_70 rfl rfl (by decide) rfl rfl ?_
          refine Ex.goto (pc := 73) (tgt := 22) dX10_which_73 (by decide) ?_
          rw [show nI k + Int32.ofInt 1 = nI (k + 1) from nI_1 k]
          rw [hQ4.1 78 (by decide), e78] at c61
          rw [bI_1 c32, decide_eq_false c61] at ih2
          exact ih2 (I4, L4) ⟨hQ3.tr hQ4, hSL3.tr hSL4 (by decide) (by decide)⟩
        · skip
          refine Ex.iconst (pc := 64) (v := 1) dX10_which_64 rfl ?_
          refine Ex.goto (pc := 65) (tgt := 69) dX10_which_65 (by decide) ?_
          refine Ex.istore_n (pc := 69) (ls' := [some (.ref 36), some (.int _), some (.int _), some (.int 1), some (.int _)]) dX10_which_69 rfl (by decide) rfl rfl ?_
          refine Ex.iinc (pc := 70) (ls' := [some (.ref 36), some (.int _), some (.int _), some (.int 1), some (.int _)]) dX10_which_70 rfl rfl (by decide) rfl rfl ?_
          refine Ex.goto (pc := 73) (tgt := 22) dX10_which_73 (by decide) ?_
          rw [show nI k + Int32.ofInt 1 = nI (k + 1) from nI_1 k]
          rw [hQ4.1 78 (by decide), e78] at c61
          rw [bI_1 c32, decide_eq_true c61] at ih2
          exact ih2 (I4, L4) ⟨hQ3.tr hQ4, hSL3.tr hSL4 (by decide) (by decide)⟩
def teG (M : Nat → Nat) : Nat → Int32 × Int32
  | 0 => (-1, 100000000)
  | k + 1 => if (teG M k).2 ≤ nI (M (k + 1)) then teG M k else (nI (k + 1), nI (M (k + 1)))
theorem teG_F {M : Nat → Nat} {t0 : Int32} (h : ∀ k, M k ≤ 6) : ∀ k, teG M (k + 1) = teF M t0 (k + 1)
  | 0 => by
    have h1 := h 1
    show (if (100000000 : Int32) ≤ nI (M 1) then _ else _) = (if (7 : Int32) ≤ nI (M 1) then _ else _)
    rw [if_neg (show ¬ (100000000 : Int32) ≤ nI (M 1) from nI_ge (b := 100000000) (by omega) (by decide)), if_neg (show ¬ (7 : Int32) ≤ nI (M 1) from nI_ge (b := 7) (by omega) (by decide))]
  | k + 1 => by
    show (if (teG M (k + 1)).2 ≤ _ then teG M (k + 1) else _) = (if (teF M t0 (k + 1)).2 ≤ _ then teF M t0 (k + 1) else _)
    rw [teG_F h k]
theorem alF_ns (lf : Nat → Int32) (bits : Int32) (st ns : Nat) (hb : ∀ j, ns ≤ j → j < 6 → hb1 bits j = false) : ∀ d, ns + d ≤ 6 → alF lf bits st (ns + d) = alF lf bits st ns
  | 0, _ => rfl
  | d + 1, h => by
    show alF lf bits st (ns + d) + (if (hb1 bits st && hb1 bits (ns + d) && decide (lf st = lf (ns + d))) = true then 1 else 0) = _
    rw [alF_ns lf bits st ns hb d (by omega), hb (ns + d) (by omega) (by omega)]
    simp
theorem alF_0 (lf : Nat → Int32) (bits : Int32) (st : Nat) (hb : hb1 bits st = false) : ∀ k, alF lf bits st k = 0
  | 0 => rfl
  | k + 1 => by
    show alF lf bits st k + _ = 0
    rw [alF_0 lf bits st hb k, hb]
    simp
/-- the same over the stains that are there -/
def maN (lf : Nat → Int32) (bits : Int32) (ns : Nat) : Nat → Nat
  | 0 => 0
  | k + 1 => if maN lf bits ns k < alF lf bits k ns then alF lf bits k ns else maN lf bits ns k
theorem maN_F (lf : Nat → Int32) (bits : Int32) (ns : Nat) (h6 : ns ≤ 6) (hb : ∀ j, ns ≤ j → j < 6 → hb1 bits j = false) : ∀ k, maN lf bits ns k = maF lf bits k
  | 0 => rfl
  | k + 1 => by
    have e : alF lf bits k 6 = alF lf bits k ns := by
      obtain ⟨d, hd⟩ : ∃ d, 6 = ns + d := ⟨6 - ns, by omega⟩
      rw [hd]; exact alF_ns lf bits k ns hb d (by omega)
    simp only [maN, maF]
    rw [maN_F lf bits ns h6 hb k, e]
theorem maF_ns (lf : Nat → Int32) (bits : Int32) (ns : Nat) (hb : ∀ j, ns ≤ j → j < 6 → hb1 bits j = false) : ∀ d, ns + d ≤ 6 → maF lf bits (ns + d) = maF lf bits ns
  | 0, _ => rfl
  | d + 1, h => by
    show (if maF lf bits (ns + d) < alF lf bits (ns + d) 6 then _ else maF lf bits (ns + d)) = _
    rw [alF_0 lf bits (ns + d) (hb _ (by omega) (by omega)), if_neg (Nat.not_lt_zero _), maF_ns lf bits ns hb d (by omega)]
theorem alF_congr {lf lf' : Nat → Int32} {bits : Int32} {st : Nat} : ∀ k, (∀ i, i < k → lf i = lf' i) → lf st = lf' st → alF lf bits st k = alF lf' bits st k
  | 0, _, _ => rfl
  | k + 1, h, hs => by
    simp only [alF]
    rw [alF_congr k (fun i hi => h i (by omega)) hs, h k (by omega), hs]
