/-! the end of a statement, a statement, the whole text -/
def endF (tb : Nat → Nat) (n m : Nat) (r : Er) : Er := match r with
  | .error e => .error e
  | .ok (t, c) => if (t.1 = 4 ∧ t.2.1 = 59) ∧ 80 ≤ m ∧ sk tb n t.2.2.2.2 < n then .error (6, sk tb n t.2.2.2.2) else tkS tb n 59 (.ok (t, c))
def Pw (tb : Nat → Nat) (n : Nat) (Ib I : aI) (m : Nat) (r : Er) (pl : Pl) : Prop := Sm Al Ib I ∧ PB tb n I ∧ PxR n I 0 false r ∧ PlR I pl r ∧ ∀ s, r = .ok s → I 82 6 = nI m
theorem Pz.w {tb : Nat → Nat} {n m : Nat} {Ib I : aI} {r : Er} {pl : Pl} (h : Pz tb n Ib I r pl) (hm : ∀ s, r = .ok s → I 82 6 = nI m) : Pw tb n Ib I m r pl := ⟨h.1.1, h.2.1, h.2.2.1, h.2.2.2, hm⟩
theorem Pw.z {tb : Nat → Nat} {n m : Nat} {Ib I : aI} {r : Er} {pl : Pl} (h : Pw tb n Ib I m r pl) : Pz tb n I I r pl := ⟨⟨Sm.rf, rfl⟩, h.2.1, h.2.2.1, h.2.2.2.1⟩
/-- a field of the Plan that no token and no thing reads -/
theorem Pz.f82 {tb : Nat → Nat} {n j : Nat} {Ib I : aI} {v : Int32} {r : Er} {pl pl2 : Pl} (h : Pz tb n Ib I r pl) (hj : j = 4 ∨ j = 5 ∨ j = 6) (hp : ∀ s, r = .ok s → PlO I pl → PlO (va_up I 82 (upd (I 82) j v)) pl2) : Pz tb n (va_up I 82 (upd (I 82) j v)) (va_up I 82 (upd (I 82) j v)) r pl2 := by
  obtain ⟨J, hJ⟩ : ∃ z, z = va_up I 82 (upd (I 82) j v) := ⟨_, rfl⟩
  rw [← hJ] at hp ⊢
  have jS : Sm [82] I J := by rw [hJ]; exact Sm.rf.up (by decide)
  have j8 : J 82 8 = I 82 8 := by rw [hJ, va_up_s, upd_n (by omega)]
  obtain ⟨g1, ⟨b1, b2, b3⟩, g3, g4⟩ := h
  refine ⟨⟨Sm.rf, rfl⟩, ⟨b1.sm jS (by decide), by rw [jS 81 (by decide)]; exact b2, b3⟩, ?_, ?_⟩
  · cases r with
    | error e =>
      have g3 : PxE n I e := g3
      show PxE n J e
      unfold PxE
      rw [jS 81 (by decide), j8]
      exact g3
    | ok q =>
      obtain ⟨t, c⟩ := q
      have g3 : PxO n I 0 false t c := g3
      show PxO n J 0 false t c
      unfold PxO TkC
      rw [jS 81 (by decide), j8, jS 89 (by decide)]
      exact g3
  · cases r with
    | error e => exact fun q hq => by rw [jS 83 (by decide)]; exact (g4 : PlX I) q hq
    | ok q => exact hp _ rfl g4
theorem sk_nn (tb : Nat → Nat) (n : Nat) : sk tb n n = n := by unfold sk; rw [Nat.sub_self]; rfl
set_option maxRecDepth 20000 in
theorem t_end {N n m : Nat} {I Ib : aI} {L : aL} {tb : Nat → Nat} {r : Er} {pl : Pl} (h : Pz tb n Ib I r pl) (hm : m < 1000) (h6 : ∀ s, r = .ok s → I 82 6 = nI m) : Run 7 0 0 mX4_endStatement [.ref 81] (St2 N n I L) (RP2 none N n L (fun I2 => Pw tb n Ib I2 (m + 1) (endF tb n (m + 1) r) pl)) := by
  refine Run.of (ls := [some (.ref 81)]) (by decide) (Nat.le_of_ble_eq_true rfl) rfl ?_
  obtain ⟨J, hJ⟩ : ∃ z, z = va_up I 82 (upd (I 82) 6 (I 82 6 + 1)) := ⟨_, rfl⟩
  have jS : Sm [82] I J := by rw [hJ]; exact Sm.rf.up (by decide)
  have j6 : ∀ s, r = .ok s → J 82 6 = nI (m + 1) := fun s e => by rw [hJ, va_up_s, upd_s, h6 s e]; exact nI_1 m
  have zJ : Pz tb n J J r pl := by
    rw [hJ]
    refine h.f82 (by omega) (fun s e q => ?_)
    obtain ⟨p1, p2, p3, p4⟩ := q
    rw [← hJ]
    refine ⟨fun i hi => ?_, by rw [hJ, va_up_s, upd_n (by decide)]; exact p2, by rw [hJ, va_up_s, upd_n (by decide)]; exact p3, fun i hi => ?_⟩
    · rw [jS 83 (by decide), jS 84 (by decide), jS 85 (by decide), jS 86 (by decide)]; exact p1 i hi
    · rw [jS 87 (by decide), jS 88 (by decide)]; exact p4 i hi
  have al : ∀ {I2 : aI} {r2 : Er}, Pz tb n J I2 r2 pl → (∀ e, r = .error e → ∀ s, r2 ≠ .ok s) → Pw tb n Ib I2 (m + 1) r2 pl := by
    intro I2 r2 z he
    refine ⟨(h.1.1.tr jS (l := Al) (fun _ q => q) (by decide)).tr z.1.1 (fun _ q => q) (fun _ q => q), z.2.1, z.2.2.1, z.2.2.2, fun s e => ?_⟩
    rw [z.1.2]
    cases hr : r with
    | error e2 => exact absurd e (he e2 hr s)
    | ok s2 => exact j6 s2 hr
  refine Ex.aload_n (pc := 0) dX4_endStatement_0 rfl rfl ?_
  refine Ex.getR (pc := 1) dX4_endStatement_1 fX4_57 (s2_81 _ _) r2_81_2 ?_
  refine Ex.dup (pc := 4) dX4_endStatement_4 rfl ?_
  refine Ex.getI (pc := 5) dX4_endStatement_5 fX4_142 (s2_82 _ _) ?_
  refine Ex.iconst (pc := 8) (v := 1) dX4_endStatement_8 rfl ?_
  refine Ex.iadd (pc := 9) dX4_endStatement_9 ?_
  refine Ex.putI (pc := 10) dX4_endStatement_10 fX4_142 (s2_82 _ _) (Or.inl rfl) ⟨rfl, rfl⟩ ?_
  refine Ex.mm (S' := St2 N n J L) (by rw [hJ]) ?_
  refine Ex.aload_n (pc := 13) dX4_endStatement_13 rfl rfl ?_
  refine Ex.bipush (pc := 14) (v := 59) dX4_endStatement_14 rfl ?_
  refine Ex.callV (pc := 16) (As := [.int 59]) (rest := []) dX4_endStatement_16 cX4_105 (t_isS (k := 59) zJ.px (by decide)) (s2_81 _ _) rfl rfl (by decide) (Nat.le_refl _) (Nat.le_refl _) (Nat.le_of_ble_eq_true rfl) (Or.inl (fun r S' h => by obtain ⟨_, h⟩ := h; subst h; rfl)) (fun r S' hq _ _ => ?_)
  obtain ⟨rfl, rfl⟩ := hq
  refine Ex.if_eq (pc := 19) (tgt := 60) dX4_endStatement_19 (by decide) (fun c19 => ?_) (fun c19 => ?_)
  · skip
    refine Ex.aload_n (pc := 60) dX4_endStatement_60 rfl rfl ?_
    refine Ex.bipush (pc := 61) (v := 59) dX4_endStatement_61 rfl ?_
    refine Ex.callV (pc := 63) (As := [.int 59]) (rest := []) dX4_endStatement_63 cX4_145 (t_tkS (k := 59) zJ.2.1 zJ.px (by decide)) (s2_81 _ _) rfl rfl (by decide) (Nat.le_refl _) (Nat.le_refl _) (Nat.le_of_ble_eq_true rfl) (Or.inl (fun r S' h => by obtain ⟨_, _, h, _⟩ := h; subst h; rfl)) (fun r S' hq _ _ => ?_)
    obtain ⟨I2, rfl, rfl, p2⟩ := hq
    have z2 := zJ.go p2 (fun e q => by rw [q]; rfl)
    refine Ex.vret (pc := 66) rfl dX4_endStatement_66 (Nat.le_refl _) (Nat.le_refl _) ?_
    have he : endF tb n (m + 1) r = tkS tb n 59 r := by
      cases hr : r with
      | error e => rfl
      | ok s => obtain ⟨t, c⟩ := s; rw [hr] at c19; exact if_neg (fun q => of_decide_eq_false (bI_0 c19) q.1)
    rw [he]
    exact ⟨_, rfl, rfl, al z2 (fun e q s => by rw [q]; intro z; cases z)⟩
  · skip
    obtain ⟨t, c, hr, ht1, ht2⟩ : ∃ t c, r = .ok (t, c) ∧ t.1 = 4 ∧ t.2.1 = 59 := by
      have q := bI_1 c19
      cases hr : r with
      | error e => rw [hr] at q; cases q
      | ok s => obtain ⟨t, c⟩ := s; rw [hr] at q; have q2 := of_decide_eq_true q; exact ⟨t, c, rfl, q2.1, q2.2⟩
    subst hr
    have hO : PxO n J 0 false t c := zJ.2.2.1
    have hC := hO.1
    have hW := hO.2.1
    refine Ex.aload_n (pc := 22) dX4_endStatement_22 rfl rfl ?_
    refine Ex.getR (pc := 23) dX4_endStatement_23 fX4_57 (s2_81 _ _) r2_81_2 ?_
    refine Ex.getI (pc := 26) dX4_endStatement_26 fX4_142 (s2_82 _ _) ?_
    refine Ex.bipush (pc := 29) (v := 80) dX4_endStatement_29 rfl ?_
    refine Ex.icmp_lt (pc := 31) (tgt := 60) dX4_endStatement_31 (by decide) (fun c31 => ?_) (fun c31 => ?_)
    · skip
      refine Ex.aload_n (pc := 60) dX4_endStatement_60 rfl rfl ?_
      refine Ex.bipush (pc := 61) (v := 59) dX4_endStatement_61 rfl ?_
      refine Ex.callV (pc := 63) (As := [.int 59]) (rest := []) dX4_endStatement_63 cX4_145 (t_tkS (k := 59) zJ.2.1 zJ.px (by decide)) (s2_81 _ _) rfl rfl (by decide) (Nat.le_refl _) (Nat.le_refl _) (Nat.le_of_ble_eq_true rfl) (Or.inl (fun r S' h => by obtain ⟨_, _, h, _⟩ := h; subst h; rfl)) (fun r S' hq _ _ => ?_)
      obtain ⟨I2, rfl, rfl, p2⟩ := hq
      have z2 := zJ.go p2 (fun e q => by rw [q]; rfl)
      refine Ex.vret (pc := 66) rfl dX4_endStatement_66 (Nat.le_refl _) (Nat.le_refl _) ?_
      have he : endF tb n (m + 1) (.ok (t, c)) = tkS tb n 59 (.ok (t, c)) := if_neg (fun q => absurd c31 (by rw [j6 _ rfl]; exact nI_nlt (b := 80) q.2.1 (by omega)))
      rw [he]
      exact ⟨_, rfl, rfl, al z2 (fun e q => by cases q)⟩
    · skip
      refine Ex.aload_n (pc := 34) dX4_endStatement_34 rfl rfl ?_
      refine Ex.callV (pc := 35) (As := []) (rest := []) dX4_endStatement_35 cX4_67 (t_skipBlanks (a := t.2.2.2.2) zJ.2.1.1 zJ.2.1.2.1 zJ.2.1.2.2 hC.2.1 hW.2.2.2.1) (s2_81 _ _) rfl rfl (by decide) (Nat.le_refl _) (Nat.le_refl _) (Nat.le_of_ble_eq_true rfl) (Or.inl (fun r S' h => by obtain ⟨_, h⟩ := h; subst h; rfl)) (fun r S' hq _ _ => ?_)
      obtain ⟨rfl, rfl⟩ := hq
      obtain ⟨K, hK⟩ : ∃ z, z = pf J 5 (nI (sk tb n t.2.2.2.2)) := ⟨_, rfl⟩
      rw [← hK]
      have kS : Sm [81] J K := by rw [hK]; exact Sm.rf.up (by decide)
      have k5 : K 81 5 = nI (sk tb n t.2.2.2.2) := by rw [hK, pf_s]
      have kj : ∀ j, j ≠ 5 → K 81 j = J 81 j := fun j q => by rw [hK, pf_n q]
      have hskn := sk_n (tb := tb) hW.2.2.2.1
      have hskl := sk_le tb n t.2.2.2.2
      have hn16 := zJ.2.1.2.2
      have hm80 : 80 ≤ m + 1 := by
        rw [j6 _ rfl, show (80 : Int32) = nI 80 from rfl, nI_ltI (by omega) (by decide)] at c31
        omega
      have e46 : (K 81 1 ≤ K 81 5) ↔ n ≤ sk tb n t.2.2.2.2 := by rw [k5, kj 1 (by decide), zJ.2.1.2.1, nI_leI (by omega) (by omega)]
      refine Ex.aload_n (pc := 38) dX4_endStatement_38 rfl rfl ?_
      refine Ex.getI (pc := 39) dX4_endStatement_39 fX4_18 (s2_81 _ _) ?_
      refine Ex.aload_n (pc := 42) dX4_endStatement_42 rfl rfl ?_
      refine Ex.getI (pc := 43) dX4_endStatement_43 fX4_49 (s2_81 _ _) ?_
      refine Ex.icmp_ge (pc := 46) (tgt := 60) dX4_endStatement_46 (by decide) (fun c46 => ?_) (fun c46 => ?_)
      · skip
        have hsk : sk tb n t.2.2.2.2 = n := Nat.le_antisymm hskn (e46.mp c46)
        have zK : Pz tb n J K (.ok ((t.1, t.2.1, t.2.2.1, t.2.2.2.1, n), c)) pl := by
          refine zJ.go (r2 := .ok ((t.1, t.2.1, t.2.2.1, t.2.2.2.1, n), c)) ⟨⟨Sm.rf.tr kS (l := [81, 82, 89]) (l1 := []) (by decide) (by decide), fun j q => kj j (by omega), fun j q => by rw [kS 82 (by decide)]⟩, ?_⟩ (fun e q => by cases q)
          refine hO.p81 kS ⟨?_, ?_, ?_, ?_, ?_, ?_, by rw [kj 4 (by decide)]; exact hC.2.2.2.2.2.2⟩ ⟨hW.1, hW.2.1, ?_, Nat.le_refl n, fun q => ?_, hW.2.2.2.2.2.1, hW.2.2.2.2.2.2.1, hW.2.2.2.2.2.2.2⟩ hO.2.2.2.1
          · rw [kj 3 (by decide)]; exact hC.1
          · rw [k5, hsk]
          · rw [kj 6 (by decide)]; exact hC.2.2.1
          · rw [kj 7 (by decide)]; exact hC.2.2.2.1
          · rw [kj 8 (by decide), kj 9 (by decide)]; exact hC.2.2.2.2.1
          · rw [kj 8 (by decide)]; exact hC.2.2.2.2.2.1
          · have h3 := hW.2.2.1; have h4 := hW.2.2.2.1; show t.2.2.2.1 ≤ n; omega
          · have h3 := hW.2.2.2.2.1 q; have h4 := hW.2.2.2.1; show t.2.2.2.1 < n; omega
        refine Ex.aload_n (pc := 60) dX4_endStatement_60 rfl rfl ?_
        refine Ex.bipush (pc := 61) (v := 59) dX4_endStatement_61 rfl ?_
        refine Ex.callV (pc := 63) (As := [.int 59]) (rest := []) dX4_endStatement_63 cX4_145 (t_tkS (k := 59) zK.2.1 zK.px (by decide)) (s2_81 _ _) rfl rfl (by decide) (Nat.le_refl _) (Nat.le_refl _) (Nat.le_of_ble_eq_true rfl) (Or.inl (fun r S' h => by obtain ⟨_, _, h, _⟩ := h; subst h; rfl)) (fun r S' hq _ _ => ?_)
        obtain ⟨I2, rfl, rfl, p2⟩ := hq
        have z2 := zK.go p2 (fun e q => by cases q)
        refine Ex.vret (pc := 66) rfl dX4_endStatement_66 (Nat.le_refl _) (Nat.le_refl _) ?_
        have he : endF tb n (m + 1) (.ok (t, c)) = tkS tb n 59 (.ok ((t.1, t.2.1, t.2.2.1, t.2.2.2.1, n), c)) := by
          refine (if_neg (fun q => ?_)).trans ?_
          · have := q.2.2; omega
          · unfold tkS
            rw [if_pos (show isS 59 (.ok (t, c)) = true from decide_eq_true ⟨ht1, ht2⟩), if_pos (show isS 59 (.ok ((t.1, t.2.1, t.2.2.1, t.2.2.2.1, n), c)) = true from decide_eq_true ⟨ht1, ht2⟩)]
            simp only [nx, tokF]
            rw [hsk, sk_nn]
            simp only [tokA]
            rw [if_pos (Nat.le_refl n), if_pos (Nat.le_refl n)]
        rw [he]
        exact ⟨_, rfl, rfl, al z2 (fun e q => by cases q)⟩
      · skip
        refine Ex.aload_n (pc := 49) dX4_endStatement_49 rfl rfl ?_
        refine Ex.bipush (pc := 50) (v := 6) dX4_endStatement_50 rfl ?_
        refine Ex.aload_n (pc := 52) dX4_endStatement_52 rfl rfl ?_
        refine Ex.getI (pc := 53) dX4_endStatement_53 fX4_18 (s2_81 _ _) ?_
        refine Ex.callV (pc := 56) (As := [.int 6, .int _]) (rest := []) dX4_endStatement_56 cX4_77 (t_stop) (s2_81 _ _) rfl rfl (by decide) (Nat.le_refl _) (Nat.le_refl _) (Nat.le_of_ble_eq_true rfl) (Or.inl (fun r S' h => by obtain ⟨_, h⟩ := h; subst h; rfl)) (fun r S' hq _ _ => ?_)
        obtain ⟨rfl, rfl⟩ := hq
        refine Ex.vret (pc := 59) rfl dX4_endStatement_59 (Nat.le_refl _) (Nat.le_refl _) ?_
        have hlt : sk tb n t.2.2.2.2 < n := Nat.lt_of_not_le (fun q => c46 (e46.mpr q))
        have e3 : K 81 3 = 0 := by rw [kj 3 (by decide)]; exact hC.1
        rw [if_pos e3]
        have he : endF tb n (m + 1) (.ok (t, c)) = .error (6, sk tb n t.2.2.2.2) := if_pos ⟨⟨ht1, ht2⟩, hm80, hlt⟩
        rw [he]
        obtain ⟨K2, hK2⟩ : ∃ z, z = pf (pf (pf K 3 6) 4 (K 81 5)) 7 0 := ⟨_, rfl⟩
        have k2S : Sm [81] K K2 := by rw [hK2]; exact ((Sm.rf.up (by decide)).up (by decide)).up (by decide)
        have kkS : Sm [81] J K2 := kS.tr k2S (fun _ q => q) (fun _ q => q)
        refine ⟨K2, rfl, by rw [hK2], al ?_ (fun e q => by cases q)⟩
        refine zJ.go ⟨⟨Sm.rf.tr kkS (l := [81, 82, 89]) (l1 := []) (by decide) (by decide), fun j q => ?_, fun j q => by rw [kkS 82 (by decide)]⟩, ?_⟩ (fun e q => by cases q)
        · rw [hK2, pf_n (by omega), pf_n (by omega), pf_n (by omega), kj j (by omega)]
        · exact PxE.p81 hO kkS (e := (6, sk tb n t.2.2.2.2)) (by rw [hK2, pf_n (by decide), pf_n (by decide), pf_s]; rfl) (show 1 ≤ 6 by decide) (Nat.le_refl 6) (by rw [hK2, pf_n (by decide), pf_s]; exact k5) hskn (by rw [hK2, pf_s])
