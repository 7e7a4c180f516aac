/-- the last forty -/
def l40 (ks : List aRow) : List aRow := ks.drop (ks.length - 40)
theorem l40_len (ks : List aRow) : (l40 ks).length = if ks.length < 40 then ks.length else 40 := by
  unfold l40
  rw [List.length_drop]
  split <;> omega
theorem l40_add (ks : List aRow) (r : aRow) : addR (l40 ks) r = l40 (ks ++ [r]) := by
  unfold addR
  rw [l40_len]
  by_cases h : ks.length < 40
  · rw [if_pos h, if_neg (by omega)]
    unfold l40
    rw [List.length_append, show ks.length - 40 = 0 by omega, show ks.length + [r].length - 40 = 0 by simp; omega]
    rfl
  · rw [if_neg h, if_pos rfl]
    unfold l40
    rw [List.length_append, List.drop_drop, List.drop_append_of_le_length (by simp)]
    congr 2
    simp
    omega
theorem l40_keep (ks : List aRow) (w c : Int32) (se : Option (Nat × Nat)) : keepR (l40 ks) w c se = l40 (keepK ks w c se) := by
  cases se with
  | none => rfl
  | some q => exact l40_add ks _
theorem cpB_n {n w : Nat} (hn : n ≤ 40) (hw : w ≤ 999) (h : cpB (nI n) (nI w) = true) : w + n ≤ 999 := by
  have h3 := (of_decide_eq_true h).2.2
  rw [show (999 : Int32) - nI w = nI (999 - w) from pk_sub (a := 999) (by omega), nI_ltI (by omega) (by omega)] at h3
  omega
def wkR (p : aP) (f5 f6 : Nat → Int32) (nb ns nh : Nat) (bk w : Nat) (I : aI) (x : aX) (ks : List aRow) : Prop := RS I bk nb ns nh p f5 f6 x (l40 ks) ∧ x.1 = nI w
theorem RS.pass {I I2 : aI} {bk nb ns nh : Nat} {p : aP} {f5 f6 : Nat → Int32} {x : aX} {ks : List aRow} {dr : Bool} {w : Nat} (h : RS I bk nb ns nh p f5 f6 x (l40 ks)) (hw : x.1 = nI w) (hw9 : w < 999) (hS : Sm [63, 65, 66, 67, 68, 69, 71] I I2) (hX : XR I2 0 nb ns (weekX p f5 f6 nb ns nh dr x)) (hK : KR I2 0 (keepR (l40 ks) x.1 (cameX p f5 f6 x (serX p f5 f6 nb ns dr x)) (serX p f5 f6 nb ns dr x))) (z : Int32) :
    RS I2 bk nb ns nh p f5 f6 (wkS p f5 f6 nb ns nh dr (x, ks, z)).1 (l40 (wkS p f5 f6 nb ns nh dr (x, ks, z)).2.1) ∧ (wkS p f5 f6 nb ns nh dr (x, ks, z)).1.1 = nI (w + 1) := by
  obtain ⟨hP, hX0, hK0, hG, hrb⟩ := h
  obtain ⟨hG2, e⟩ := hG.week (p := p) (f5 := f5) (f6 := f6) (dr := dr) hP.1.2.2.2.2.1 hw9 hw
  refine ⟨⟨hP.sm hS (by decide), hX, ?_, hG2, hrb⟩, e⟩
  rw [l40_keep] at hK
  exact hK
set_option maxRecDepth 20000 in
theorem tm_weeks0 {N : Nat} {I : aI} {L : aL} {p : aP} {bk nb ns nh : Nat} {f5 f6 : Nat → Int32} {x : aX} {rs : List aRow} (hR : RS I bk nb ns nh p f5 f6 x rs) {n : Int32} (hbad : ¬ (¬ n < 1 ∧ cpB n x.1 = true)) : Run 2 0 0 mX10_weeks [.ref 36, .int n] (St N I L) (RI (-1) (St N (refM I 2) L)) := by
  refine Run.of (ls := [some (.ref 36), some (.int _), none, none]) (by decide) (Nat.le_of_ble_eq_true rfl) rfl ?_
  obtain ⟨hP, hX, hK, hG, hrb⟩ := id hR
  obtain ⟨⟨h1, h2, hnb, hns, hnh, hcb, hcs, hch⟩, -⟩ := id hP
  obtain ⟨w0, hw9, hw0⟩ := hG.2.2.2.1
  have hw63 : I 63 0 = nI w0 := by rw [hX.1, hw0]
  have hf : (decide (¬ n < 1) && cpB n (nI w0)) = false := by
    rw [← hw0]
    exact Bool.eq_false_iff.mpr (fun q => hbad ⟨of_decide_eq_true ((Bool.and_eq_true _ _).mp q).1, ((Bool.and_eq_true _ _).mp q).2⟩)
  refine Ex.aload_n (pc := 0) dX10_weeks_0 rfl rfl ?_
  refine Ex.iload_n (pc := 1) dX10_weeks_1 rfl rfl ?_
  refine Ex.iconst (pc := 2) (v := 1) dX10_weeks_2 rfl ?_
  refine Ex.bipush (pc := 3) (v := 40) dX10_weeks_3 rfl ?_
  refine Ex.callV (pc := 5) (As := [.int _, .int 1, .int 40]) (rest := []) dX10_weeks_5 cX10_506 (tm_isAhead hw63 hw9 (Or.inr rfl)) (sh36 _) rfl rfl (by decide) (Nat.le_refl _) (Nat.le_refl _) (Nat.le_of_ble_eq_true rfl) (Or.inl (fun r S' h => by obtain ⟨_, h⟩ := h; subst h; rfl)) (fun r S' hq _ _ => ?_)
  obtain ⟨rfl, rfl⟩ := hq
  rw [hf]
  refine Ex.if_ne (pc := 8) (tgt := 17) dX10_weeks_8 (by decide) (fun c8 => absurd rfl c8) (fun _ => ?_)
  refine Ex.aload_n (pc := 11) dX10_weeks_11 rfl rfl ?_
  refine Ex.iconst (pc := 12) (v := 2) dX10_weeks_12 rfl ?_
  refine Ex.callV (pc := 13) (As := [.int 2]) (rest := []) dX10_weeks_13 cX10_222 (tm_refuses (k := 2) (by decide)) (sh36 _) rfl rfl (by decide) (Nat.le_refl _) (Nat.le_refl _) (Nat.le_of_ble_eq_true rfl) (Or.inl (fun r S' h => by obtain ⟨_, h⟩ := h; subst h; rfl)) (fun r S' hq _ _ => ?_)
  obtain ⟨rfl, rfl⟩ := hq
  refine Ex.iret (pc := 16) rfl rfl rfl dX10_weeks_16 (Nat.le_refl _) (Nat.le_refl _) ?_
  exact ⟨rfl, rfl⟩
set_option maxRecDepth 20000 in
theorem tm_chance0 {N : Nat} {I : aI} {L : aL} {p : aP} {bk nb ns nh : Nat} {f5 f6 : Nat → Int32} {x : aX} {rs : List aRow} (hR : RS I bk nb ns nh p f5 f6 x rs) {n : Int32} (hbad : ¬ (¬ n < 1 ∧ cpB n x.1 = true)) : Run 2 0 0 mX10_chance [.ref 36, .int n] (St N I L) (RI (-1) (St N (refM I 2) L)) := by
  refine Run.of (ls := [some (.ref 36), some (.int _), none, none, none]) (by decide) (Nat.le_of_ble_eq_true rfl) rfl ?_
  obtain ⟨hP, hX, hK, hG, hrb⟩ := id hR
  obtain ⟨⟨h1, h2, hnb, hns, hnh, hcb, hcs, hch⟩, -⟩ := id hP
  obtain ⟨w0, hw9, hw0⟩ := hG.2.2.2.1
  have hw63 : I 63 0 = nI w0 := by rw [hX.1, hw0]
  have hf : (decide (¬ n < 1) && cpB n (nI w0)) = false := by
    rw [← hw0]
    exact Bool.eq_false_iff.mpr (fun q => hbad ⟨of_decide_eq_true ((Bool.and_eq_true _ _).mp q).1, ((Bool.and_eq_true _ _).mp q).2⟩)
  refine Ex.aload_n (pc := 0) dX10_chance_0 rfl rfl ?_
  refine Ex.iload_n (pc := 1) dX10_chance_1 rfl rfl ?_
  refine Ex.iconst (pc := 2) (v := 1) dX10_chance_2 rfl ?_
  refine Ex.bipush (pc := 3) (v := 40) dX10_chance_3 rfl ?_
  refine Ex.callV (pc := 5) (As := [.int _, .int 1, .int 40]) (rest := []) dX10_chance_5 cX10_506 (tm_isAhead hw63 hw9 (Or.inr rfl)) (sh36 _) rfl rfl (by decide) (Nat.le_refl _) (Nat.le_refl _) (Nat.le_of_ble_eq_true rfl) (Or.inl (fun r S' h => by obtain ⟨_, h⟩ := h; subst h; rfl)) (fun r S' hq _ _ => ?_)
  obtain ⟨rfl, rfl⟩ := hq
  rw [hf]
  refine Ex.if_ne (pc := 8) (tgt := 17) dX10_chance_8 (by decide) (fun c8 => absurd rfl c8) (fun _ => ?_)
  refine Ex.aload_n (pc := 11) dX10_chance_11 rfl rfl ?_
  refine Ex.iconst (pc := 12) (v := 2) dX10_chance_12 rfl ?_
  refine Ex.callV (pc := 13) (As := [.int 2]) (rest := []) dX10_chance_13 cX10_222 (tm_refuses (k := 2) (by decide)) (sh36 _) rfl rfl (by decide) (Nat.le_refl _) (Nat.le_refl _) (Nat.le_of_ble_eq_true rfl) (Or.inl (fun r S' h => by obtain ⟨_, h⟩ := h; subst h; rfl)) (fun r S' hq _ _ => ?_)
  obtain ⟨rfl, rfl⟩ := hq
  refine Ex.iret (pc := 16) rfl rfl rfl dX10_chance_16 (Nat.le_refl _) (Nat.le_refl _) ?_
  exact ⟨rfl, rfl⟩
set_option maxRecDepth 20000 in
theorem tm_weeks1 {N : Nat} {I : aI} {L : aL} {p : aP} {bk nb ns nh : Nat} {f5 f6 : Nat → Int32} {x : aX} {ks : List aRow} (hR : RS I bk nb ns nh p f5 f6 x (l40 ks)) {uf : Nat} {ul : List (aX × List aRow)} (hU : UR I nb ns uf ul) {n : Nat} (hn1 : 1 ≤ n) (hn : n ≤ 40) (hcp : cpB (nI n) x.1 = true) : Run 7 0 0 mX10_weeks [.ref 36, .int (nI n)] (St N I L) (RX N (fun o I2 L2 => o = some (.int ((wkN p f5 f6 nb ns nh n (x, ks, (0 : Int32))).2.2)) ∧ Sm [36, 63, 64, 65, 66, 67, 68, 69, 71] I I2 ∧ SmL [70] L L2 ∧ (∀ j, j ≠ 53 → j ≠ 54 → I2 36 j = I 36 j) ∧ RS I2 bk nb ns nh p f5 f6 ((wkN p f5 f6 nb ns nh n (x, ks, (0 : Int32))).1) (l40 (wkN p f5 f6 nb ns nh n (x, ks, (0 : Int32))).2.1) ∧ ∃ uf2, UR I2 nb ns uf2 (((x, l40 ks) :: ul).take 20))) := by
  refine Run.of (ls := [some (.ref 36), some (.int _), none, none]) (by decide) (Nat.le_of_ble_eq_true rfl) rfl ?_
  obtain ⟨hP, hX, hK, hG, hrb⟩ := id hR
  obtain ⟨⟨h1, h2, hnb, hns, hnh, hcb, hcs, hch⟩, -⟩ := id hP
  obtain ⟨w0, hw9, hw0⟩ := hG.2.2.2.1
  have hw63 : I 63 0 = nI w0 := by rw [hX.1, hw0]
  have hwn : w0 + n ≤ 999 := cpB_n hn hw9 (by rw [← hw0]; exact hcp)
  have ht : (decide (¬ nI n < 1) && cpB (nI n) (nI w0)) = true := by
    rw [← hw0, hcp, Bool.and_true]
    exact decide_eq_true (nI_nlt (b := 1) (by omega) (by omega))
  refine Ex.aload_n (pc := 0) dX10_weeks_0 rfl rfl ?_
  refine Ex.iload_n (pc := 1) dX10_weeks_1 rfl rfl ?_
  refine Ex.iconst (pc := 2) (v := 1) dX10_weeks_2 rfl ?_
  refine Ex.bipush (pc := 3) (v := 40) dX10_weeks_3 rfl ?_
  refine Ex.callV (pc := 5) (As := [.int _, .int 1, .int 40]) (rest := []) dX10_weeks_5 cX10_506 (tm_isAhead hw63 hw9 (Or.inr rfl)) (sh36 _) rfl rfl (by decide) (Nat.le_refl _) (Nat.le_refl _) (Nat.le_of_ble_eq_true rfl) (Or.inl (fun r S' h => by obtain ⟨_, h⟩ := h; subst h; rfl)) (fun r S' hq _ _ => ?_)
  obtain ⟨rfl, rfl⟩ := hq
  rw [ht]
  refine Ex.if_ne (pc := 8) (tgt := 17) dX10_weeks_8 (by decide) (fun _ => ?_) (fun c8 => absurd c8 (by decide))
  refine Ex.aload_n (pc := 17) dX10_weeks_17 rfl rfl ?_
  refine Ex.callV (pc := 18) (As := []) (rest := []) dX10_weeks_18 cX10_519 (tm_keeps hR hU) (sh36 _) rfl rfl (by decide) (Nat.le_refl _) (Nat.le_refl _) (Nat.le_of_ble_eq_true rfl) (Or.inl (fun r S' h => by obtain ⟨_, _, h, _⟩ := h; subst h; rfl)) (fun r S' hq _ _ => ?_)
  obtain ⟨I1, rfl, rfl, hS1, h361, hX1, hK1, uf1, hU1⟩ := hq
  have hP1 : RefP I1 bk nb ns nh p f5 f6 := hP.sm' hS1 (h361 13 (by decide) (by decide)) (by decide)
  refine Ex.iconst (pc := 21) (v := 0) dX10_weeks_21 rfl ?_
  refine Ex.istore_n (pc := 22) (ls' := [some (.ref 36), some (.int _), some (.int 0), none]) dX10_weeks_22 rfl (by decide) rfl rfl ?_
  refine Ex.iconst (pc := 23) (v := 0) dX10_weeks_23 rfl ?_
  refine Ex.istore_n (pc := 24) (ls' := [some (.ref 36), some (.int _), some (.int 0), some (.int 0)]) dX10_weeks_24 rfl (by decide) rfl rfl ?_
  refine forUp (σ := aI × aL) (P := fun k q => Ex 7 0 0 mX10_weeks 0 0 25 [some (.ref 36), some (.int (nI n)), some (.int (wkN p f5 f6 nb ns nh k (x, ks, (0 : Int32))).2.2), some (.int (nI k))] [] (St N q.1 q.2) _) (Inv := fun k q => Sm [36, 63, 64, 65, 66, 67, 68, 69, 71] I q.1 ∧ SmL [70] L q.2 ∧ (∀ j, j ≠ 53 → j ≠ 54 → q.1 36 j = I 36 j) ∧ (RS q.1 bk nb ns nh p f5 f6 (wkN p f5 f6 nb ns nh k (x, ks, (0 : Int32))).1 (l40 (wkN p f5 f6 nb ns nh k (x, ks, (0 : Int32))).2.1) ∧ (wkN p f5 f6 nb ns nh k (x, ks, (0 : Int32))).1.1 = nI (w0 + k)) ∧ ∃ uf2, UR q.1 nb ns uf2 (((x, l40 ks) :: ul).take 20)) n ?_ ?_ 0 (I1, L) (Nat.zero_le _) ⟨hS1.tr Sm.rf (l2 := []) (by decide) (by decide), SmL.rf, h361, ⟨⟨hP1, hX1, hK1, hG, hrb⟩, hw0⟩, uf1, hU1⟩
  · rintro ⟨I2, L2⟩ ⟨hS, hSL, h362, ⟨hR2, -⟩, hU2⟩
    refine Ex.iload_n (pc := 25) dX10_weeks_25 rfl rfl ?_
    refine Ex.iload_n (pc := 26) dX10_weeks_26 rfl rfl ?_
    refine Ex.icmp_ge (pc := 27) (tgt := 45) dX10_weeks_27 (by decide) (fun _ => ?_) (fun c27 => absurd (nI_le (Nat.le_refl n) (by omega)) c27)
    refine Ex.iload_n (pc := 45) dX10_weeks_45 rfl rfl ?_
    refine Ex.iret (pc := 46) rfl rfl rfl dX10_weeks_46 (Nat.le_refl _) (Nat.le_refl _) ?_
    exact ⟨_, _, rfl, rfl, hS, hSL, h362, hR2, hU2⟩
  · rintro k ⟨I2, L2⟩ hk ⟨hS, hSL, h362, ⟨hR2, hw2⟩, uf2, hU2⟩ ih
    dsimp only at *
    have hZn : (wkN p f5 f6 nb ns nh (k + 1) (x, ks, (0 : Int32))) = wkS p f5 f6 nb ns nh false (wkN p f5 f6 nb ns nh k (x, ks, (0 : Int32))) := rfl
    rw [hZn] at ih
    generalize (wkN p f5 f6 nb ns nh k (x, ks, (0 : Int32))) = Z at *
    obtain ⟨x2, ks2, z2⟩ := Z
    dsimp only at *
    refine Ex.iload_n (pc := 25) dX10_weeks_25 rfl rfl ?_
    refine Ex.iload_n (pc := 26) dX10_weeks_26 rfl rfl ?_
    refine Ex.icmp_ge (pc := 27) (tgt := 45) dX10_weeks_27 (by decide) (fun c27 => absurd c27 (nI_ge hk (by omega))) (fun _ => ?_)
    refine Ex.iload_n (pc := 30) dX10_weeks_30 rfl rfl ?_
    refine Ex.aload_n (pc := 31) dX10_weeks_31 rfl rfl ?_
    refine Ex.iconst (pc := 32) (v := 0) dX10_weeks_32 rfl ?_
    refine Ex.iconst (pc := 33) (v := 0) dX10_weeks_33 rfl ?_
    refine Ex.callV (pc := 34) (As := [.int 0, .int 0]) (rest := [.int _]) dX10_weeks_34 cX10_502 (tm_passes (dr := false) hR2.1 hR2.2.1 (by decide) hR2.2.2.2.1.1 hR2.2.2.1 hrb ⟨w0 + k, by omega, hw2⟩) (sh36 _) rfl rfl (by decide) (Nat.le_refl _) (Nat.le_refl _) (Nat.le_of_ble_eq_true rfl) (Or.inl (fun r S' h => by obtain ⟨_, _, h, _⟩ := h; subst h; rfl)) (fun r S' hq _ _ => ?_)
    obtain ⟨I3, L3, rfl, rfl, hS3, hSL3, hF3, hX3, hK3⟩ := hq
    obtain ⟨hR3, hw3⟩ := hR2.pass hw2 (by omega) hS3 hX3 hK3 z2
    have h363 : ∀ j, I3 36 j = I2 36 j := fun j => by rw [hS3 36 (by decide)]
    refine Ex.iadd (pc := 37) dX10_weeks_37 ?_
    refine Ex.istore_n (pc := 38) (ls' := [some (.ref 36), some (.int _), some (.int _), some (.int _)]) dX10_weeks_38 rfl (by decide) rfl rfl ?_
    refine Ex.iinc (pc := 39) (ls' := [some (.ref 36), some (.int _), some (.int _), some (.int _)]) dX10_weeks_39 rfl rfl (by decide) rfl rfl ?_
    refine Ex.goto (pc := 42) (tgt := 25) dX10_weeks_42 (by decide) ?_
    rw [show nI k + Int32.ofInt 1 = nI (k + 1) from nI_1 k]
    exact ih (I3, L3) ⟨hS.tr hS3 (by decide) (by decide), hSL.tr hSL3 (by decide) (by decide), fun j a b => (h363 j).trans (h362 j a b), ⟨hR3, hw3⟩, uf2, hU2.fr hF3 (by decide) (h363 53) (h363 54) hnb hns⟩
set_option maxRecDepth 20000 in
theorem tm_chance1 {N : Nat} {I : aI} {L : aL} {p : aP} {bk nb ns nh : Nat} {f5 f6 : Nat → Int32} {x : aX} {ks : List aRow} (hR : RS I bk nb ns nh p f5 f6 x (l40 ks)) {uf : Nat} {ul : List (aX × List aRow)} (hU : UR I nb ns uf ul) {n m : Nat} {dry : Int32} (hn1 : 1 ≤ n) (hn : n ≤ 40) (hcp : cpB (nI n) x.1 = true) (hm : m < 2 ^ 31) (hs : L 36 55 = lN m) (hdry : I 48 bk = dry) : Run 7 0 0 mX10_chance [.ref 36, .int (nI n)] (St N I L) (RX N (fun o I2 L2 => o = some (.int (chN p f5 f6 nb ns nh dry n ((x, ks, (0 : Int32)), (0 : Int32), lN m)).2.1) ∧ Sm [36, 63, 64, 65, 66, 67, 68, 69, 71] I I2 ∧ (∃ L1, SmL [70] L L1 ∧ L2 = setE L1 (chN p f5 f6 nb ns nh dry n ((x, ks, (0 : Int32)), (0 : Int32), lN m)).2.2) ∧ (∃ m2, m2 < 2 ^ 31 ∧ (chN p f5 f6 nb ns nh dry n ((x, ks, (0 : Int32)), (0 : Int32), lN m)).2.2 = lN m2) ∧ (∀ j, j ≠ 53 → j ≠ 54 → I2 36 j = I 36 j) ∧ RS I2 bk nb ns nh p f5 f6 (chN p f5 f6 nb ns nh dry n ((x, ks, (0 : Int32)), (0 : Int32), lN m)).1.1 (l40 (chN p f5 f6 nb ns nh dry n ((x, ks, (0 : Int32)), (0 : Int32), lN m)).1.2.1) ∧ ∃ uf2, UR I2 nb ns uf2 (((x, l40 ks) :: ul).take 20))) := by
  refine Run.of (ls := [some (.ref 36), some (.int _), none, none, none]) (by decide) (Nat.le_of_ble_eq_true rfl) rfl ?_
  obtain ⟨hP, hX, hK, hG, hrb⟩ := id hR
  obtain ⟨⟨h1, h2, hnb, hns, hnh, hcb, hcs, hch⟩, -⟩ := id hP
  obtain ⟨w0, hw9, hw0⟩ := hG.2.2.2.1
  have hw63 : I 63 0 = nI w0 := by rw [hX.1, hw0]
  have hwn : w0 + n ≤ 999 := cpB_n hn hw9 (by rw [← hw0]; exact hcp)
  have ht : (decide (¬ nI n < 1) && cpB (nI n) (nI w0)) = true := by
    rw [← hw0, hcp, Bool.and_true]
    exact decide_eq_true (nI_nlt (b := 1) (by omega) (by omega))
  refine Ex.aload_n (pc := 0) dX10_chance_0 rfl rfl ?_
  refine Ex.iload_n (pc := 1) dX10_chance_1 rfl rfl ?_
  refine Ex.iconst (pc := 2) (v := 1) dX10_chance_2 rfl ?_
  refine Ex.bipush (pc := 3) (v := 40) dX10_chance_3 rfl ?_
  refine Ex.callV (pc := 5) (As := [.int _, .int 1, .int 40]) (rest := []) dX10_chance_5 cX10_506 (tm_isAhead hw63 hw9 (Or.inr rfl)) (sh36 _) rfl rfl (by decide) (Nat.le_refl _) (Nat.le_refl _) (Nat.le_of_ble_eq_true rfl) (Or.inl (fun r S' h => by obtain ⟨_, h⟩ := h; subst h; rfl)) (fun r S' hq _ _ => ?_)
  obtain ⟨rfl, rfl⟩ := hq
  rw [ht]
  refine Ex.if_ne (pc := 8) (tgt := 17) dX10_chance_8 (by decide) (fun _ => ?_) (fun c8 => absurd c8 (by decide))
  refine Ex.aload_n (pc := 17) dX10_chance_17 rfl rfl ?_
  refine Ex.callV (pc := 18) (As := []) (rest := []) dX10_chance_18 cX10_519 (tm_keeps hR hU) (sh36 _) rfl rfl (by decide) (Nat.le_refl _) (Nat.le_refl _) (Nat.le_of_ble_eq_true rfl) (Or.inl (fun r S' h => by obtain ⟨_, _, h, _⟩ := h; subst h; rfl)) (fun r S' hq _ _ => ?_)
  obtain ⟨I1, rfl, rfl, hS1, h361, hX1, hK1, uf1, hU1⟩ := hq
  have hP1 : RefP I1 bk nb ns nh p f5 f6 := hP.sm' hS1 (h361 13 (by decide) (by decide)) (by decide)
  refine Ex.iconst (pc := 21) (v := 0) dX10_chance_21 rfl ?_
  refine Ex.istore_n (pc := 22) (ls' := [some (.ref 36), some (.int _), some (.int 0), none, none]) dX10_chance_22 rfl (by decide) rfl rfl ?_
  refine Ex.iconst (pc := 23) (v := 0) dX10_chance_23 rfl ?_
  refine Ex.istore_n (pc := 24) (ls' := [some (.ref 36), some (.int _), some (.int 0), some (.int 0), none]) dX10_chance_24 rfl (by decide) rfl rfl ?_
  refine Ex.mm (S' := St N I1 (setE L (lN m))) (by rw [← hs, setE_0]) ?_
  refine Ex.le (ls' := [some (.ref 36), some (.int (nI n)), some (.int 0), some (.int 0), none]) ⟨rfl, rfl, rfl, rfl, trivial⟩ ?_
  refine forUp (σ := aI × aL) (P := fun k q => Ex 7 0 0 mX10_chance 0 0 25 [some (.ref 36), some (.int (nI n)), some (.int (chN p f5 f6 nb ns nh dry k ((x, ks, (0 : Int32)), (0 : Int32), lN m)).2.1), some (.int (nI k)), none] [] (St N q.1 (setE q.2 (chN p f5 f6 nb ns nh dry k ((x, ks, (0 : Int32)), (0 : Int32), lN m)).2.2)) _) (Inv := fun k q => Sm [36, 63, 64, 65, 66, 67, 68, 69, 71] I q.1 ∧ SmL [70] L q.2 ∧ (∃ m2, m2 < 2 ^ 31 ∧ (chN p f5 f6 nb ns nh dry k ((x, ks, (0 : Int32)), (0 : Int32), lN m)).2.2 = lN m2) ∧ (∀ j, j ≠ 53 → j ≠ 54 → q.1 36 j = I 36 j) ∧ (RS q.1 bk nb ns nh p f5 f6 (chN p f5 f6 nb ns nh dry k ((x, ks, (0 : Int32)), (0 : Int32), lN m)).1.1 (l40 (chN p f5 f6 nb ns nh dry k ((x, ks, (0 : Int32)), (0 : Int32), lN m)).1.2.1) ∧ (chN p f5 f6 nb ns nh dry k ((x, ks, (0 : Int32)), (0 : Int32), lN m)).1.1.1 = nI (w0 + k)) ∧ ∃ uf2, UR q.1 nb ns uf2 (((x, l40 ks) :: ul).take 20)) n ?_ ?_ 0 (I1, L) (Nat.zero_le _) ⟨hS1.tr Sm.rf (l2 := []) (by decide) (by decide), SmL.rf, ⟨m, hm, rfl⟩, h361, ⟨⟨hP1, hX1, hK1, hG, hrb⟩, hw0⟩, uf1, hU1⟩
  · rintro ⟨I2, L2⟩ ⟨hS, hSL, hm2, h362, ⟨hR2, -⟩, hU2⟩
    refine Ex.iload_n (pc := 25) dX10_chance_25 rfl rfl ?_
    refine Ex.iload_n (pc := 26) dX10_chance_26 rfl rfl ?_
    refine Ex.icmp_ge (pc := 27) (tgt := 82) dX10_chance_27 (by decide) (fun _ => ?_) (fun c27 => absurd (nI_le (Nat.le_refl n) (by omega)) c27)
    refine Ex.iload_n (pc := 82) dX10_chance_82 rfl rfl ?_
    refine Ex.iret (pc := 83) rfl rfl rfl dX10_chance_83 (Nat.le_refl _) (Nat.le_refl _) ?_
    exact ⟨_, _, rfl, rfl, hS, ⟨_, hSL, rfl⟩, hm2, h362, hR2, hU2⟩
  · rintro k ⟨I2, L2⟩ hk ⟨hS, hSL, ⟨m2, hm2, em2⟩, h362, ⟨hR2, hw2⟩, uf2, hU2⟩ ih
    dsimp only at *
    have hZn : (chN p f5 f6 nb ns nh dry (k + 1) ((x, ks, (0 : Int32)), (0 : Int32), lN m)) = chS p f5 f6 nb ns nh dry (chN p f5 f6 nb ns nh dry k ((x, ks, (0 : Int32)), (0 : Int32), lN m)) := rfl
    rw [hZn] at ih
    generalize (chN p f5 f6 nb ns nh dry k ((x, ks, (0 : Int32)), (0 : Int32), lN m)) = Z at *
    obtain ⟨⟨x2, ks2, z2⟩, dr2, d2⟩ := Z
    dsimp only at *
    subst em2
    have hd2 : I2 48 bk = dry := by rw [hS 48 (by decide)]; exact hdry
    have hbk : I2 36 13 = nI bk := by rw [h362 13 (by decide) (by decide), h2]
    refine Ex.iload_n (pc := 25) dX10_chance_25 rfl rfl ?_
    refine Ex.iload_n (pc := 26) dX10_chance_26 rfl rfl ?_
    refine Ex.icmp_ge (pc := 27) (tgt := 82) dX10_chance_27 (by decide) (fun c27 => absurd c27 (nI_ge hk (by omega))) (fun _ => ?_)
    refine Ex.aload_n (pc := 30) dX10_chance_30 rfl rfl ?_
    refine Ex.bipush (pc := 31) (v := 100) dX10_chance_31 rfl ?_
    refine Ex.callV (pc := 33) (As := [.int 100]) (rest := []) dX10_chance_33 cX10_530 (tm_draw hm2 setE_s) (sh36 _) rfl rfl (by decide) (Nat.le_refl _) (Nat.le_refl _) (Nat.le_of_ble_eq_true rfl) (Or.inl (fun r S' h => by obtain ⟨_, h⟩ := h; subst h; rfl)) (fun r S' hq _ _ => ?_)
    obtain ⟨rfl, rfl⟩ := hq
    refine Ex.mm (S' := St N I2 (setE L2 (drw (lN m2)))) (by rw [setE_d]) ?_
    refine Ex.aload_n (pc := 36) dX10_chance_36 rfl rfl ?_
    refine Ex.getR (pc := 37) dX10_chance_37 fX10_84 (sh36 _) r36_24 ?_
    refine Ex.aload_n (pc := 40) dX10_chance_40 rfl rfl ?_
    refine Ex.getI (pc := 41) dX10_chance_41 fX10_51 (sh36 _) ?_
    refine Ex.iald (pc := 44) (j := bk) dX10_chance_44 (sh48 _) (ixX hbk h1 (by decide)) (ixX2 hbk (by omega)) ?_
    refine Ex.icmp_ge (pc := 45) (tgt := 52) dX10_chance_45 (by decide) (fun c45 => ?_) (fun c45 => ?_)
    · skip
      refine Ex.iconst (pc := 52) (v := 0) dX10_chance_52 rfl ?_
      have hdr : decide (¬ dry ≤ drV (lN m2)) = false := by
        rw [hd2] at c45
        simp [c45]
      refine Ex.istore (pc := 53) (ls' := [some (.ref 36), some (.int _), some (.int _), some (.int _), some (.int 0)]) dX10_chance_53 (by decide) rfl rfl ?_
      refine Ex.iload_n (pc := 55) dX10_chance_55 rfl rfl ?_
      refine Ex.iload (pc := 56) dX10_chance_56 rfl ?_
      refine Ex.if_eq (pc := 58) (tgt := 65) dX10_chance_58 (by decide) (fun _ => ?_) (fun c58 => absurd rfl c58)
      refine Ex.iconst (pc := 65) (v := 0) dX10_chance_65 rfl ?_
      refine Ex.iadd (pc := 66) dX10_chance_66 ?_
      refine Ex.istore_n (pc := 67) (ls' := [some (.ref 36), some (.int _), some (.int _), some (.int _), some (.int 0)]) dX10_chance_67 rfl (by decide) rfl rfl ?_
      refine Ex.aload_n (pc := 68) dX10_chance_68 rfl rfl ?_
      refine Ex.iconst (pc := 69) (v := 0) dX10_chance_69 rfl ?_
      refine Ex.iload (pc := 70) dX10_chance_70 rfl ?_
      refine Ex.callV (pc := 72) (As := [.int 0, .int 0]) (rest := []) dX10_chance_72 cX10_502 (tm_passes (dr := false) hR2.1 hR2.2.1 (by decide) hR2.2.2.2.1.1 hR2.2.2.1 hrb ⟨w0 + k, by omega, hw2⟩) (sh36 _) rfl rfl (by decide) (Nat.le_refl _) (Nat.le_refl _) (Nat.le_of_ble_eq_true rfl) (Or.inl (fun r S' h => by obtain ⟨_, _, h, _⟩ := h; subst h; rfl)) (fun r S' hq _ _ => ?_)
      obtain ⟨I3, L3, rfl, rfl, hS3, hSL3, hF3, hX3, hK3⟩ := hq
      obtain ⟨hR3, hw3⟩ := hR2.pass hw2 (by omega) hS3 hX3 hK3 z2
      have h363 : ∀ j, I3 36 j = I2 36 j := fun j => by rw [hS3 36 (by decide)]
      refine Ex.pop (pc := 75) dX10_chance_75 rfl ?_
      refine Ex.iinc (pc := 76) (ls' := [some (.ref 36), some (.int _), some (.int _), some (.int _), some (.int 0)]) dX10_chance_76 rfl rfl (by decide) rfl rfl ?_
      refine Ex.goto (pc := 79) (tgt := 25) dX10_chance_79 (by decide) ?_
      rw [show nI k + Int32.ofInt 1 = nI (k + 1) from nI_1 k]
      refine Ex.mm (S' := St N I3 (setE (va_up L3 36 (L2 36)) (drw (lN m2)))) ?_ ?_
      · congr 2
        funext a j
        by_cases ha : a = 36
        · subst ha; rw [hSL3 36 (by decide)]; by_cases hj : j = 55 <;> simp [setE, va_up, vp_updL, hj]
        · simp [setE, va_up, ha]
      refine Ex.le (ls' := [some (.ref 36), some (.int (nI n)), some (.int (chS p f5 f6 nb ns nh dry ((x2, ks2, z2), dr2, lN m2)).2.1), some (.int (nI (k + 1))), none]) ⟨rfl, rfl, ?_, rfl, trivial⟩ (ih (I3, va_up L3 36 (L2 36)) ⟨hS.tr hS3 (by decide) (by decide), ?_, drw_lt hm2, fun j a b => (h363 j).trans (h362 j a b), ?_, uf2, hU2.fr hF3 (by decide) (h363 53) (h363 54) hnb hns⟩)
      · simp only [chS]; rw [hdr]; rfl
      · intro a ha
        dsimp only
        by_cases e : a = 36
        · subst e; rw [va_up_s, hSL 36 (by decide)]
        · rw [va_up_n e, hSL3 a ha]
          show setE L2 (drw (lN m2)) a = L a
          rw [show setE L2 (drw (lN m2)) a = L2 a from va_up_n e]
          exact hSL a ha
      · simp only [chS]; rw [hdr]; exact ⟨hR3, hw3⟩
    · skip
      refine Ex.iconst (pc := 48) (v := 1) dX10_chance_48 rfl ?_
      refine Ex.goto (pc := 49) (tgt := 53) dX10_chance_49 (by decide) ?_
      have hdr : decide (¬ dry ≤ drV (lN m2)) = true := by
        rw [hd2] at c45
        simp [c45]
      refine Ex.istore (pc := 53) (ls' := [some (.ref 36), some (.int _), some (.int _), some (.int _), some (.int 1)]) dX10_chance_53 (by decide) rfl rfl ?_
      refine Ex.iload_n (pc := 55) dX10_chance_55 rfl rfl ?_
      refine Ex.iload (pc := 56) dX10_chance_56 rfl ?_
      refine Ex.if_eq (pc := 58) (tgt := 65) dX10_chance_58 (by decide) (fun c58 => absurd c58 (by decide)) (fun _ => ?_)
      refine Ex.iconst (pc := 61) (v := 1) dX10_chance_61 rfl ?_
      refine Ex.goto (pc := 62) (tgt := 66) dX10_chance_62 (by decide) ?_
      refine Ex.iadd (pc := 66) dX10_chance_66 ?_
      refine Ex.istore_n (pc := 67) (ls' := [some (.ref 36), some (.int _), some (.int _), some (.int _), some (.int 1)]) dX10_chance_67 rfl (by decide) rfl rfl ?_
      refine Ex.aload_n (pc := 68) dX10_chance_68 rfl rfl ?_
      refine Ex.iconst (pc := 69) (v := 0) dX10_chance_69 rfl ?_
      refine Ex.iload (pc := 70) dX10_chance_70 rfl ?_
      refine Ex.callV (pc := 72) (As := [.int 0, .int 1]) (rest := []) dX10_chance_72 cX10_502 (tm_passes (dr := true) hR2.1 hR2.2.1 (by decide) hR2.2.2.2.1.1 hR2.2.2.1 hrb ⟨w0 + k, by omega, hw2⟩) (sh36 _) rfl rfl (by decide) (Nat.le_refl _) (Nat.le_refl _) (Nat.le_of_ble_eq_true rfl) (Or.inl (fun r S' h => by obtain ⟨_, _, h, _⟩ := h; subst h; rfl)) (fun r S' hq _ _ => ?_)
      obtain ⟨I3, L3, rfl, rfl, hS3, hSL3, hF3, hX3, hK3⟩ := hq
      obtain ⟨hR3, hw3⟩ := hR2.pass hw2 (by omega) hS3 hX3 hK3 z2
      have h363 : ∀ j, I3 36 j = I2 36 j := fun j => by rw [hS3 36 (by decide)]
      refine Ex.pop (pc := 75) dX10_chance_75 rfl ?_
      refine Ex.iinc (pc := 76) (ls' := [some (.ref 36), some (.int _), some (.int _), some (.int _), some (.int 1)]) dX10_chance_76 rfl rfl (by decide) rfl rfl ?_
      refine Ex.goto (pc := 79) (tgt := 25) dX10_chance_79 (by decide) ?_
      rw [show nI k + Int32.ofInt 1 = nI (k + 1) from nI_1 k]
      refine Ex.mm (S' := St N I3 (setE (va_up L3 36 (L2 36)) (drw (lN m2)))) ?_ ?_
      · congr 2
        funext a j
        by_cases ha : a = 36
        · subst ha; rw [hSL3 36 (by decide)]; by_cases hj : j = 55 <;> simp [setE, va_up, vp_updL, hj]
        · simp [setE, va_up, ha]
      refine Ex.le (ls' := [some (.ref 36), some (.int (nI n)), some (.int (chS p f5 f6 nb ns nh dry ((x2, ks2, z2), dr2, lN m2)).2.1), some (.int (nI (k + 1))), none]) ⟨rfl, rfl, ?_, rfl, trivial⟩ (ih (I3, va_up L3 36 (L2 36)) ⟨hS.tr hS3 (by decide) (by decide), ?_, drw_lt hm2, fun j a b => (h363 j).trans (h362 j a b), ?_, uf2, hU2.fr hF3 (by decide) (h363 53) (h363 54) hnb hns⟩)
      · simp only [chS]; rw [hdr]; rfl
      · intro a ha
        dsimp only
        by_cases e : a = 36
        · subst e; rw [va_up_s, hSL 36 (by decide)]
        · rw [va_up_n e, hSL3 a ha]
          show setE L2 (drw (lN m2)) a = L a
          rw [show setE L2 (drw (lN m2)) a = L2 a from va_up_n e]
          exact hSL a ha
      · simp only [chS]; rw [hdr]; exact ⟨hR3, hw3⟩
