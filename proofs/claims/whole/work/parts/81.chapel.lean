/-! THE CLASS'S chapel -/
def pl0 : Pl := (fun _ => 0, fun _ _ => [], fun _ _ => 0, fun _ _ => 0, 0, 0, fun _ => 0, fun _ => 0)
def prs (tb : Nat → Nat) (n : Nat) : Nat × Er × Pl := prsF tb n 80 0 (nx tb n (.ok ((1, 0, [], 0, 0), []))) pl0
def chL (L : aL) : aL := va_up (va_up L 81 (fun _ => 0)) 82 (fun _ => 0)
def ChE (tb : Nat → Nat) (n N : Nat) (I : aI) (L : aL) : aQ := fun r S' => ∃ e I', (prs tb n).2.1 = .error e ∧ r = some (.int (-1)) ∧ S' = St2 N n I' (chL L) ∧ 1 ≤ e.1 ∧ e.1 ≤ 6 ∧ e.2 ≤ n ∧ (∀ a, a < 81 → a ∉ [0, 35] → I' a = I a) ∧ I' 0 = upd (upd (upd (I 0) 1 0) 3 (nI e.1)) 4 (nI e.2) ∧ I' 35 = upd (I 35) 1 (I 35 1 + 1)
def ChO (tb : Nat → Nat) (n N : Nat) (I : aI) (L : aL) : aQ := fun r S' => ∃ t c I', (prs tb n).2.1 = .ok (t, c) ∧ r = some (.int (nI (prs tb n).1)) ∧ S' = St3 N n I' (chL L) ∧ (∀ a, a < 81 → a ∉ [0, 10, 11, 12, 19, 23, 26, 30] → I' a = I a) ∧ I' 0 = upd (upd (upd (I 0) 1 0) 3 0) 4 (-1) ∧ I' 10 0 = 0 ∧ I' 10 1 = nI (prs tb n).2.2.2.2.2.2.1 ∧ I' 10 2 = 0 ∧ I' 10 3 = 0 ∧ (∀ j, j < 5 → I' 11 j = I' 86 j) ∧ (∀ j, j < 6 → I' 12 j = I' 85 (6 + j)) ∧ I' 19 = upd (I 19) 1 0 ∧ I' 23 = upd (I 23) 0 0 ∧ I' 26 = upd (I 26) 0 0 ∧ I' 30 = upd (I 30) 0 (-1) ∧ I' 82 6 = nI (prs tb n).1 ∧ PlO I' (prs tb n).2.2 ∧ PxO n I' 0 false t c
set_option maxRecDepth 20000 in
theorem t_chapel {N n : Nat} {I : aI} {L : aL} {tb : Nat → Nat} (hT : TxR I tb n) (hn : n ≤ 1600) (hs : I 0 1 = nI n) : Run 75 9 (0 + cN 4 + (78 + n)) mX9_chapel [.ref 0] (St N I L) (fun r S' => ChE tb n N I L r S' ∨ ChO tb n N I L r S') := by
  refine Run.of (ls := [some (.ref 0), none]) (by decide) (Nat.le_of_ble_eq_true rfl) rfl ?_
  refine Ex.newh (pc := 0) (h := 81) (ci := 4) rfl dX9_chapel_0 nX9_113 (by decide) (by show 0 + 11 ≤ 0 + 11 + (78 + n); omega) oks_0 (okl_r (by decide) (okl_n okl_0)) ?_
  refine Ex.dup (pc := 3) dX9_chapel_3 rfl ?_
  refine Ex.aload_n (pc := 4) dX9_chapel_4 rfl rfl ?_
  refine Ex.getR (pc := 5) dX9_chapel_5 fX9_9 (z := 0) (b := 1) rfl rfl ?_
  refine Ex.aload_n (pc := 8) dX9_chapel_8 rfl rfl ?_
  refine Ex.getI (pc := 9) dX9_chapel_9 fX9_13 (z := 0) rfl ?_
  rw [va_up_n (show (0 : Nat) ≠ 81 by decide), hs]
  refine Ex.callI (pc := 12) (As := [.ref 1, .int (nI n)]) (rest := [.ref 81]) dX9_chapel_12 cX9_115 (t_parserI hn va_up_s rfl) rfl rfl (by decide) (by decide) (Nat.le_refl _) (by decide) (Or.inr ⟨oks_r (by show 81 < 82; decide) oks_0, okl_r (by show 0 < 82; decide) (okl_n okl_0)⟩) (fun S' hq => ?_)
  obtain ⟨I1, -, rfl, a1, a2, a3⟩ := hq
  refine Ex.astore_n (pc := 15) (ls' := [some (.ref 0), some (.ref 81)]) dX9_chapel_15 rfl (by decide) rfl rfl ?_
  obtain ⟨f1, f3, f4, f5, f6, f7, f8, f9, f10⟩ := a3
  have i1 : ∀ a, a < 81 → I1 a = I a := fun a h => by rw [a1 a h, va_up_n (by omega)]
  have hw : Pw tb n I1 I1 0 (.ok ((1, 0, [], 0, 0), [])) pl0 := by
    refine ⟨Sm.rf, ⟨fun i hi => by rw [i1 1 (by decide)]; exact hT i hi, f1, hn⟩, ?_, ?_, fun _ _ => by rw [a2 82 (by decide) (by decide)]; rfl⟩
    · refine ⟨⟨f3, f5, f6, f7, fun q => absurd (show (1 : Nat) = 2 from q) (by decide), fun q => absurd (show (1 : Nat) = 3 ∨ (1 : Nat) = 4 from q) (by decide), f4⟩, ⟨Nat.le_refl 1, by decide, Nat.le_refl 0, Nat.zero_le n, fun q => absurd rfl q, fun q => absurd (show (1 : Nat) = 2 from q) (by decide), fun q => absurd (show (1 : Nat) = 3 from q) (by decide), fun q => absurd (show (1 : Nat) = 4 from q) (by decide)⟩, by rw [a2 82 (by decide) (by decide)]; rfl, Nat.le_refl 0, fun j s q => by simp at q⟩
    · refine ⟨fun q hq => ⟨by rw [a2 83 (by decide) (by decide)]; rfl, Nat.zero_le 6, fun j => ⟨fun z => absurd z (Nat.not_lt_zero _), fun _ _ => ⟨by rw [a2 85 (by decide) (by decide)], by rw [a2 86 (by decide) (by decide)]⟩⟩⟩, by rw [a2 82 (by decide) (by decide)]; rfl, by rw [a2 82 (by decide) (by decide)]; rfl, fun r hr => ⟨by rw [a2 87 (by decide) (by decide)]; rfl, by rw [a2 88 (by decide) (by decide)]; rfl, Nat.zero_le _, Nat.zero_le _⟩⟩
  refine Ex.aload_n (pc := 16) dX9_chapel_16 rfl rfl ?_
  refine Ex.callV (pc := 17) (As := []) (rest := []) dX9_chapel_17 cX9_118 (t_parse hw) (s2_81 _ _) rfl rfl (by decide) (Nat.le_refl _) (Nat.le_refl _) (Nat.le_of_ble_eq_true rfl) (Or.inl (fun r S' h => by obtain ⟨_, _, h, _⟩ := h; subst h; rfl)) (fun r S' hq _ _ => ?_)
  obtain ⟨I2, rfl, rfl, w2⟩ := hq
  have i2 : ∀ a, a < 81 → I2 a = I a := fun a h => by rw [w2.1 a (by unfold Al; simp; omega), i1 a h]
  change Pw tb n I1 I2 (prs tb n).1 (prs tb n).2.1 (prs tb n).2.2 at w2
  unfold ChE ChO
  generalize (prs tb n).1 = m at *
  generalize (prs tb n).2.2 = pl at *
  obtain ⟨J, hJ⟩ : ∃ z, z = va_up I2 0 (upd (upd (upd (I2 0) 1 0) 3 (I2 81 3)) 4 (I2 81 4)) := ⟨_, rfl⟩
  have jo : ∀ a, a ≠ 0 → J a = I2 a := fun a h => by rw [hJ, va_up_n h]
  have j0 : J 0 = upd (upd (upd (I 0) 1 0) 3 (I2 81 3)) 4 (I2 81 4) := by rw [hJ, va_up_s, i2 0 (by decide)]
  have j03 : J 0 3 = I2 81 3 := by rw [j0, upd_n (by decide), upd_s]
  cases hr : (prs tb n).2.1 with
  | error e =>
    rw [hr] at w2
    obtain ⟨e3, e31, e36, e4, e5, e7, -⟩ := (show PxE n I2 e from w2.2.2.1)
    refine Ex.aload_n (pc := 20) dX9_chapel_20 rfl rfl ?_
    refine Ex.iconst (pc := 21) (v := 0) dX9_chapel_21 rfl ?_
    refine Ex.putI (pc := 22) dX9_chapel_22 fX9_13 (s3_0 _ _) (Or.inl rfl) ⟨rfl, rfl⟩ ?_
    refine Ex.aload_n (pc := 25) dX9_chapel_25 rfl rfl ?_
    refine Ex.aload_n (pc := 26) dX9_chapel_26 rfl rfl ?_
    refine Ex.getI (pc := 27) dX9_chapel_27 fX9_121 (s3_81 _ _) ?_
    refine Ex.putI (pc := 30) dX9_chapel_30 fX9_26 (s3_0 _ _) (Or.inl rfl) ⟨rfl, rfl⟩ ?_
    refine Ex.aload_n (pc := 33) dX9_chapel_33 rfl rfl ?_
    refine Ex.aload_n (pc := 34) dX9_chapel_34 rfl rfl ?_
    refine Ex.getI (pc := 35) dX9_chapel_35 fX9_124 (s3_81 _ _) ?_
    refine Ex.putI (pc := 38) dX9_chapel_38 fX9_29 (s3_0 _ _) (Or.inl rfl) ⟨rfl, rfl⟩ ?_
    refine Ex.mm (S' := St2 N n J (chL L)) ?_ ?_
    · refine congrArg (fun z => St2 N n z (chL L)) ?_
      rw [hJ]
      simp only [va_up_n (show (81 : Nat) ≠ 0 by decide), va_vv, va_up_s]
    refine Ex.aload_n (pc := 41) dX9_chapel_41 rfl rfl ?_
    refine Ex.getI (pc := 42) dX9_chapel_42 fX9_26 (s3_0 _ _) ?_
    refine Ex.if_eq (pc := 45) (tgt := 54) dX9_chapel_45 (by decide) (fun c45 => absurd c45 (by rw [j03, e3]; exact nI_ne0 (by omega) (by omega))) (fun _ => ?_)
    refine Ex.aload_n (pc := 48) dX9_chapel_48 rfl rfl ?_
    refine Ex.iconst (pc := 49) (v := 1) dX9_chapel_49 rfl ?_
    refine Ex.callV (pc := 50) (As := [.int 1]) (rest := []) dX9_chapel_50 cX9_102 (t2_refuse (k := 1) (by decide)) (s3_0 _ _) rfl rfl (by decide) (Nat.le_refl _) (Nat.le_refl _) (Nat.le_of_ble_eq_true rfl) (Or.inl (fun r S' h => by obtain ⟨_, h⟩ := h; subst h; rfl)) (fun r S' hq _ _ => ?_)
    obtain ⟨rfl, rfl⟩ := hq
    refine Ex.iret (pc := 53) rfl rfl rfl dX9_chapel_53 (Nat.le_refl _) (Nat.le_refl _) ?_
    refine Or.inl ⟨e, _, rfl, rfl, rfl, e31, e36, e5, fun a h1 h2 => ?_, ?_, ?_⟩
    · show va_up J 35 _ a = _
      rw [va_up_n (fun q => h2 (by rw [q]; decide)), jo a (fun q => h2 (by rw [q]; decide)), i2 a h1]
    · show va_up J 35 _ 0 = _
      rw [va_up_n (by decide), j0, e3, e4]
    · show va_up J 35 _ 35 = _
      rw [va_up_s, jo 35 (by decide), i2 35 (by decide)]
  | ok q =>
    obtain ⟨t, c⟩ := q
    rw [hr] at w2
    have hO : PxO n I2 0 false t c := w2.2.2.1
    have hP : PlO I2 pl := w2.2.2.2.1
    have h6 := w2.2.2.2.2 _ rfl
    have e3 := hO.1.1
    have e4 := hO.1.2.2.2.2.2.2
    refine Ex.aload_n (pc := 20) dX9_chapel_20 rfl rfl ?_
    refine Ex.iconst (pc := 21) (v := 0) dX9_chapel_21 rfl ?_
    refine Ex.putI (pc := 22) dX9_chapel_22 fX9_13 (s3_0 _ _) (Or.inl rfl) ⟨rfl, rfl⟩ ?_
    refine Ex.aload_n (pc := 25) dX9_chapel_25 rfl rfl ?_
    refine Ex.aload_n (pc := 26) dX9_chapel_26 rfl rfl ?_
    refine Ex.getI (pc := 27) dX9_chapel_27 fX9_121 (s3_81 _ _) ?_
    refine Ex.putI (pc := 30) dX9_chapel_30 fX9_26 (s3_0 _ _) (Or.inl rfl) ⟨rfl, rfl⟩ ?_
    refine Ex.aload_n (pc := 33) dX9_chapel_33 rfl rfl ?_
    refine Ex.aload_n (pc := 34) dX9_chapel_34 rfl rfl ?_
    refine Ex.getI (pc := 35) dX9_chapel_35 fX9_124 (s3_81 _ _) ?_
    refine Ex.putI (pc := 38) dX9_chapel_38 fX9_29 (s3_0 _ _) (Or.inl rfl) ⟨rfl, rfl⟩ ?_
    refine Ex.mm (S' := St2 N n J (chL L)) ?_ ?_
    · refine congrArg (fun z => St2 N n z (chL L)) ?_
      rw [hJ]
      simp only [va_up_n (show (81 : Nat) ≠ 0 by decide), va_vv, va_up_s]
    refine Ex.aload_n (pc := 41) dX9_chapel_41 rfl rfl ?_
    refine Ex.getI (pc := 42) dX9_chapel_42 fX9_26 (s3_0 _ _) ?_
    refine Ex.if_eq (pc := 45) (tgt := 54) dX9_chapel_45 (by decide) (fun _ => ?_) (fun c45 => absurd (by rw [j03, e3]) c45)
    skip
    refine Ex.aload_n (pc := 54) dX9_chapel_54 rfl rfl ?_
    refine Ex.aload_n (pc := 55) dX9_chapel_55 rfl rfl ?_
    refine Ex.getR (pc := 56) dX9_chapel_56 fX9_127 (s2_81 _ _) r2_81_2 ?_
    refine Ex.putR (pc := 59) dX9_chapel_59 fX9_22 (s2_0 _ _) (Or.inl rfl) (by show 82 < 90; decide) ?_
    refine Ex.aload_n (pc := 62) dX9_chapel_62 rfl rfl ?_
    refine Ex.getR (pc := 63) dX9_chapel_63 fX9_47 (s2_0 _ _) (b := 16) rfl ?_
    refine Ex.aload_n (pc := 66) dX9_chapel_66 rfl rfl ?_
    refine Ex.getR (pc := 67) dX9_chapel_67 fX9_22 (s2_0 _ _) (b := 82) rfl ?_
    refine Ex.putR (pc := 70) dX9_chapel_70 fX9_128 (s3_16 _ _) (Or.inl rfl) (by show 82 < 90; decide) ?_
    refine Ex.mm (S' := St3 N n J (chL L)) rfl ?_
    refine Ex.aload_n (pc := 73) dX9_chapel_73 rfl rfl ?_
    refine Ex.getR (pc := 74) dX9_chapel_74 fX9_35 (s3_0 _ _) r3_0_5 ?_
    refine Ex.aload_n (pc := 77) dX9_chapel_77 rfl rfl ?_
    refine Ex.getR (pc := 78) dX9_chapel_78 fX9_22 (s3_0 _ _) r3_0_2 ?_
    refine Ex.callV (pc := 81) (As := [.ref 82]) (rest := []) dX9_chapel_81 cX9_129 (t3_begin) (s3_10 _ _) rfl rfl (by decide) (Nat.le_refl _) (Nat.le_refl _) (Nat.le_of_ble_eq_true rfl) (Or.inl (fun r S' h => by obtain ⟨_, _, h, _⟩ := h; subst h; rfl)) (fun r S' hq _ _ => ?_)
    obtain ⟨K, rfl, rfl, hS, k0, k1, k2, k3, k11, k12⟩ := hq
    refine Ex.aload_n (pc := 84) dX9_chapel_84 rfl rfl ?_
    refine Ex.getR (pc := 85) dX9_chapel_85 fX9_54 (s3_0 _ _) r3_0_8 ?_
    refine Ex.callV (pc := 88) (As := []) (rest := []) dX9_chapel_88 cX9_132 (t3_forget) (s3_19 _ _) rfl rfl (by decide) (Nat.le_refl _) (Nat.le_refl _) (Nat.le_of_ble_eq_true rfl) (Or.inl (fun r S' h => by obtain ⟨_, h⟩ := h; subst h; rfl)) (fun r S' hq _ _ => ?_)
    obtain ⟨rfl, rfl⟩ := hq
    refine Ex.aload_n (pc := 91) dX9_chapel_91 rfl rfl ?_
    refine Ex.getR (pc := 92) dX9_chapel_92 fX9_70 (s3_0 _ _) r3_0_10 ?_
    refine Ex.iconst (pc := 95) (v := 0) dX9_chapel_95 rfl ?_
    refine Ex.putI (pc := 96) dX9_chapel_96 fX9_135 (s3_23 _ _) (Or.inl rfl) ⟨rfl, rfl⟩ ?_
    refine Ex.aload_n (pc := 99) dX9_chapel_99 rfl rfl ?_
    refine Ex.callV (pc := 100) (As := []) (rest := []) dX9_chapel_100 cX9_138 (t3_forgetAnswers) (s3_0 _ _) rfl rfl (by decide) (Nat.le_refl _) (Nat.le_refl _) (Nat.le_of_ble_eq_true rfl) (Or.inl (fun r S' h => by obtain ⟨_, h⟩ := h; subst h; rfl)) (fun r S' hq _ _ => ?_)
    obtain ⟨rfl, rfl⟩ := hq
    refine Ex.aload_n (pc := 103) dX9_chapel_103 rfl rfl ?_
    refine Ex.getR (pc := 104) dX9_chapel_104 fX9_22 (s3_0 _ _) r3_0_2 ?_
    refine Ex.getI (pc := 107) dX9_chapel_107 fX9_141 (s3_82 _ _) ?_
    refine Ex.iret (pc := 110) rfl rfl rfl dX9_chapel_110 (Nat.le_refl _) (Nat.le_refl _) ?_
    obtain ⟨Z, hZ⟩ : ∃ z, z = forgI (va_up (va_up K 19 (upd (K 19) 1 0)) 23 (upd (va_up K 19 (upd (K 19) 1 0) 23) 0 0)) := ⟨_, rfl⟩
    have zo : ∀ a, a ∉ [19, 23, 26, 30] → Z a = K a := fun a h => by
      rw [hZ]
      unfold forgI
      rw [va_up_n (fun q => h (by rw [q]; decide)), va_up_n (fun q => h (by rw [q]; decide)), va_up_n (fun q => h (by rw [q]; decide)), va_up_n (fun q => h (by rw [q]; decide))]
    have zz : ∀ a, a ∉ [0, 10, 11, 12, 19, 23, 26, 30] → Z a = I2 a := fun a h => by
      rw [zo a (fun q => h (by revert q; simp; omega)), hS a (fun q => h (by revert q; simp; omega)), jo a (fun q => h (by rw [q]; decide))]
    have zk : ∀ a, a ∈ [19, 23, 26, 30] → K a = I a := fun a h => by
      have hh : a = 19 ∨ a = 23 ∨ a = 26 ∨ a = 30 := by simpa using h
      rw [hS a (by simp; omega), jo a (by omega), i2 a (by omega)]
    have hPZ : PlO Z pl := by
      obtain ⟨q1, q2, q3, q4⟩ := hP
      refine ⟨fun i hi => ?_, by rw [zz 82 (by decide)]; exact q2, by rw [zz 82 (by decide)]; exact q3, fun i hi => ?_⟩
      · rw [zz 83 (by decide), zz 84 (by decide), zz 85 (by decide), zz 86 (by decide)]; exact q1 i hi
      · rw [zz 87 (by decide), zz 88 (by decide)]; exact q4 i hi
    have hOZ : PxO n Z 0 false t c := by
      unfold PxO TkC
      rw [zz 81 (by decide), zz 82 (by decide), zz 89 (by decide)]
      exact hO
    have z6 : Z 82 6 = nI m := by rw [zz 82 (by decide)]; exact h6
    rw [← hZ]
    refine Or.inr ⟨t, c, Z, rfl, by rw [z6], rfl, fun a h1 h2 => by rw [zz a h2, i2 a h1], ?_, ?_, ?_, ?_, ?_, fun j hj => ?_, fun j hj => ?_, ?_, ?_, ?_, ?_, z6, hPZ, hOZ⟩
    · rw [zo 0 (by decide), hS 0 (by decide), j0, e3, e4]
    · rw [zo 10 (by decide)]; exact k0
    · rw [zo 10 (by decide), k1, jo 82 (by decide)]; exact hP.2.1
    · rw [zo 10 (by decide)]; exact k2
    · rw [zo 10 (by decide)]; exact k3
    · rw [zo 11 (by decide), k11 j hj, jo 86 (by decide), zz 86 (by decide)]
    · rw [zo 12 (by decide), k12 j hj, jo 85 (by decide), zz 85 (by decide)]
    · rw [hZ]; unfold forgI; rw [va_up_n (by decide), va_up_n (by decide), va_up_n (by decide), va_up_s, zk 19 (by decide)]
    · rw [hZ]; unfold forgI; rw [va_up_n (by decide), va_up_n (by decide), va_up_s, va_up_n (by decide), zk 23 (by decide)]
    · rw [hZ]; unfold forgI; rw [va_up_n (by decide), va_up_s, va_up_n (by decide), va_up_n (by decide), zk 26 (by decide)]
    · rw [hZ]; unfold forgI; rw [va_up_s, va_up_n (by decide), va_up_n (by decide), zk 30 (by decide)]
