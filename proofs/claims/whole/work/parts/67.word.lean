theorem or5 {v c : Nat} (hv : v < 2 ^ 25) (hc : c < 32) : nI v <<< ((5 : Int32) &&& 31) ||| nI c = nI (v * 32 + c) := by
  rw [pk_shlN _ 5 (by decide) (by omega)]
  apply Int32.toBitVec_inj.mp
  apply BitVec.eq_of_toNat_eq
  rw [Int32.toBitVec_or, BitVec.toNat_or, pk_tn (by omega), pk_tn (by omega), pk_tn (by omega)]
  have := Nat.shiftLeft_add_eq_or_of_lt (i := 5) (b := c) (by omega) v
  rw [Nat.shiftLeft_eq] at this
  exact this.symm
theorem wdF_ok {tb : Nat → Nat} {n a : Nat} (h : a < n) (hl : isL (tb a) = true) : okN (wdF tb n 6 a) := by
  refine ⟨?_, wdF_len tb n 6 a, fun c hc => ?_⟩
  · simp only [wdF]
    rw [if_pos ⟨h, hl⟩]
    simp
  · obtain ⟨k, hk⟩ := List.getElem?_of_mem hc
    obtain ⟨-, h2, h3⟩ := wdF_at tb n 6 a k (List.getElem?_eq_some_iff.mp hk).1
    rw [hk] at h3
    have := isL_b h2
    have := Option.some.inj h3
    omega
theorem wdF_le {tb : Nat → Nat} {n a : Nat} (ha : a ≤ n) : a + (wdF tb n 6 a).length ≤ n := by
  rcases Nat.eq_zero_or_pos (wdF tb n 6 a).length with e | e
  · omega
  · obtain ⟨q, -⟩ := wdF_at tb n 6 a ((wdF tb n 6 a).length - 1) (by omega); omega
theorem nmF_le {tb : Nat → Nat} {n a : Nat} (ha : a ≤ n) : a + (nmF tb n 4 a).length ≤ n := by
  rcases Nat.eq_zero_or_pos (nmF tb n 4 a).length with e | e
  · omega
  · obtain ⟨q, -⟩ := nmF_at tb n 4 a ((nmF tb n 4 a).length - 1) (by omega); omega
theorem pf_w (I : aI) (x y z w v : Int32) : pf (pf (pf (pf (pf I 7 x) 8 y) 5 z) 8 w) 5 v = pf (pf (pf I 7 x) 8 w) 5 v := pf_3 I x y z w v
set_option maxRecDepth 20000 in
theorem t_takeWord {N M : Nat} {I : aI} {L : aL} {tb : Nat → Nat} {n a : Nat} (hT : TxR I tb n) (h1 : I 81 1 = nI n) (hn : n ≤ 1600) (h5 : I 81 5 = nI a) (ha : a ≤ n) (h3 : I 81 3 = 0) (h4 : I 81 4 = -1) : Run 1 0 0 mX4_takeWord [.ref 81] (St2 N M I L) (RP2 none N M L (fun I2 => Sm [81] I I2 ∧ (∀ j, j ≠ 3 → j ≠ 4 → j ≠ 5 → j ≠ 7 → j ≠ 8 → I2 81 j = I 81 j) ∧ (lexW tb n a = false → I2 81 3 = 0 ∧ I2 81 7 = 2 ∧ I2 81 5 = nI (a + (wdF tb n 6 a).length) ∧ I2 81 8 = nI (n5 (wdF tb n 6 a)) ∧ I2 81 4 = -1) ∧ (lexW tb n a = true → I2 81 3 = 1 ∧ I2 81 4 = nI (a + (wdF tb n 6 a).length) ∧ I2 81 7 = 0))) := by
  refine Run.of (ls := [some (.ref 81), none, none]) (by decide) (Nat.le_of_ble_eq_true rfl) rfl ?_
  have hlen := wdF_len tb n 6 a
  have hat := wdF_at tb n 6 a
  have hend := wdF_end tb n 6 a
  have hale := wdF_le (tb := tb) ha
  have hlx : lexW tb n a = decide (a + (wdF tb n 6 a).length < n ∧ isL (tb (a + (wdF tb n 6 a).length)) = true) := rfl
  generalize hl : wdF tb n 6 a = l at *
  obtain ⟨pd, hpd⟩ : ∃ z, z = l ++ List.replicate (6 - l.length) 0 := ⟨_, rfl⟩
  have hn5 : n5 l = dg 32 pd := by rw [hpd]; rfl
  have hpl : pd.length = 6 := by rw [hpd]; simp; omega
  have hpa : ∀ k, k < l.length → pd[k]? = some (tb (a + k) - 96) := fun k hk => by rw [hpd, List.getElem?_append_left hk]; exact (hat k hk).2.2
  have hpb : ∀ k, l.length ≤ k → k < 6 → pd[k]? = some 0 := fun k h1 h2 => by rw [hpd, List.getElem?_append_right h1, List.getElem?_replicate, if_pos (by omega)]
  have hall : ∀ c ∈ pd, c < 32 := by
    intro c hc
    obtain ⟨k, hk⟩ := List.getElem?_of_mem hc
    have hk6 : k < 6 := by have := (List.getElem?_eq_some_iff.mp hk).1; omega
    by_cases q : k < l.length
    · have e := hpa k q
      rw [hk] at e
      have := isL_b (hat k q).2.1
      have := Option.some.inj e
      omega
    · have e := hpb k (by omega) hk6
      rw [hk] at e
      have := Option.some.inj e
      omega
  have hdl : ∀ k, k < 6 → dg 32 (pd.take k) < 2 ^ 25 := fun k hk => by
    have h1 := dg_lt (B := 32) (by decide) hall k (by omega)
    refine Nat.lt_of_lt_of_le h1 ?_
    calc 32 ^ k ≤ 32 ^ 5 := Nat.pow_le_pow_right (by decide) (by omega)
      _ = 2 ^ 25 := by decide
  have k107 : Ex 1 0 0 mX4_takeWord 0 0 107 [some (.ref 81), none, none] [] (St2 N M (pf (pf (pf I 7 2) 8 (nI (dg 32 pd))) 5 (nI (a + l.length))) L) (RP2 none N M L (fun I2 => Sm [81] I I2 ∧ (∀ j, j ≠ 3 → j ≠ 4 → j ≠ 5 → j ≠ 7 → j ≠ 8 → I2 81 j = I 81 j) ∧ (lexW tb n a = false → I2 81 3 = 0 ∧ I2 81 7 = 2 ∧ I2 81 5 = nI (a + l.length) ∧ I2 81 8 = nI (n5 l) ∧ I2 81 4 = -1) ∧ (lexW tb n a = true → I2 81 3 = 1 ∧ I2 81 4 = nI (a + l.length) ∧ I2 81 7 = 0))) := by
    obtain ⟨I3, hI3⟩ : ∃ z, z = pf (pf (pf I 7 2) 8 (nI (dg 32 pd))) 5 (nI (a + l.length)) := ⟨_, rfl⟩
    have g5 : I3 81 5 = nI (a + l.length) := by rw [hI3, pf_s]
    have g1 : I3 81 1 = nI n := by rw [hI3, pf_n (by decide), pf_n (by decide), pf_n (by decide)]; exact h1
    have g8 : I3 81 8 = nI (dg 32 pd) := by rw [hI3, pf_n (by decide), pf_s]
    have gT : TxR I3 tb n := by rw [hI3]; exact hT.pf.pf.pf
    have g3 : I3 81 3 = 0 := by rw [hI3, pf_n (by decide), pf_n (by decide), pf_n (by decide)]; exact h3
    have g4 : I3 81 4 = -1 := by rw [hI3, pf_n (by decide), pf_n (by decide), pf_n (by decide)]; exact h4
    have g7 : I3 81 7 = 2 := by rw [hI3, pf_n (by decide), pf_n (by decide), pf_s]
    have gS : Sm [81] I I3 := by rw [hI3]; exact ((Sm.rf.up (by decide)).up (by decide)).up (by decide)
    have gj : ∀ j, j ≠ 3 → j ≠ 4 → j ≠ 5 → j ≠ 7 → j ≠ 8 → I3 81 j = I 81 j := fun j _ _ a b c => by rw [hI3, pf_n a, pf_n c, pf_n b]
    rw [← hI3, hn5]
    refine Ex.aload_n (pc := 107) dX4_takeWord_107 rfl rfl ?_
    refine Ex.getI (pc := 108) dX4_takeWord_108 fX4_18 (s2_81 _ _) ?_
    refine Ex.aload_n (pc := 111) dX4_takeWord_111 rfl rfl ?_
    refine Ex.getI (pc := 112) dX4_takeWord_112 fX4_49 (s2_81 _ _) ?_
    refine Ex.icmp_ge (pc := 115) (tgt := 142) dX4_takeWord_115 (by decide) (fun c115 => ?_) (fun c115 => ?_)
    · skip
      refine Ex.vret (pc := 142) rfl dX4_takeWord_142 (Nat.le_refl _) (Nat.le_refl _) ?_
      rw [g5, g1, nI_leI (by omega) (by omega)] at c115
      refine ⟨_, rfl, rfl, gS, gj, fun _ => ⟨g3, g7, g5, g8, g4⟩, fun q => ?_⟩
      rw [hlx] at q; have := of_decide_eq_true q; omega
    · skip
      rw [g5, g1, nI_leI (by omega) (by omega)] at c115
      have han : a + l.length < n := by omega
      obtain ⟨hb, e1⟩ := gT _ han
      refine Ex.aload_n (pc := 118) dX4_takeWord_118 rfl rfl ?_
      refine Ex.getR (pc := 119) dX4_takeWord_119 fX4_36 (s2_81 _ _) r2_81_0 ?_
      refine Ex.aload_n (pc := 122) dX4_takeWord_122 rfl rfl ?_
      refine Ex.getI (pc := 123) dX4_takeWord_123 fX4_18 (s2_81 _ _) ?_
      refine Ex.bald (pc := 126) (j := a + l.length) dX4_takeWord_126 (s2_1 _ _) (by rw [g5]; exact vp_in_nI (by omega) (by decide)) (by rw [g5]; exact nI_clamp (by omega)) ?_
      rw [e1]
      refine Ex.callS (pc := 127) (As := [.int _]) (rest := []) dX4_takeWord_127 cX4_70 (t_isLetter hb) rfl rfl (by decide) (Nat.le_refl _) (Nat.le_refl _) (Nat.le_of_ble_eq_true rfl) (Or.inl (fun r S' h => by obtain ⟨_, h⟩ := h; subst h; rfl)) (fun r S' hq _ _ => ?_)
      obtain ⟨rfl, rfl⟩ := hq
      refine Ex.if_eq (pc := 130) (tgt := 142) dX4_takeWord_130 (by decide) (fun c130 => ?_) (fun c130 => ?_)
      · skip
        refine Ex.vret (pc := 142) rfl dX4_takeWord_142 (Nat.le_refl _) (Nat.le_refl _) ?_
        refine ⟨_, rfl, rfl, gS, gj, fun _ => ⟨g3, g7, g5, g8, g4⟩, fun q => ?_⟩
        rw [hlx] at q; have := of_decide_eq_true q; rw [this.2] at c130; exact absurd c130 (by decide)
      · skip
        refine Ex.aload_n (pc := 133) dX4_takeWord_133 rfl rfl ?_
        refine Ex.iconst (pc := 134) (v := 1) dX4_takeWord_134 rfl ?_
        refine Ex.aload_n (pc := 135) dX4_takeWord_135 rfl rfl ?_
        refine Ex.getI (pc := 136) dX4_takeWord_136 fX4_18 (s2_81 _ _) ?_
        refine Ex.callV (pc := 139) (As := [.int 1, .int _]) (rest := []) dX4_takeWord_139 cX4_77 t_stop (s2_81 _ _) rfl rfl (by decide) (Nat.le_refl _) (Nat.le_refl _) (Nat.le_of_ble_eq_true rfl) (Or.inl (fun r S' h => by obtain ⟨_, h⟩ := h; subst h; rfl)) (fun r S' hq _ _ => ?_)
        obtain ⟨rfl, rfl⟩ := hq
        refine Ex.vret (pc := 142) rfl dX4_takeWord_142 (Nat.le_refl _) (Nat.le_refl _) ?_
        refine ⟨_, rfl, rfl, ?_, ?_, fun q => ?_, fun _ => ⟨?_, ?_, ?_⟩⟩
        · rw [if_pos g3]; exact ((gS.up (by decide)).up (by decide)).up (by decide)
        · intro j a b c d e; rw [if_pos g3, pf_n d, pf_n b, pf_n a]; exact gj j a b c d e
        · rw [hlx] at q; exact absurd ⟨han, bI_1 c130⟩ (of_decide_eq_false q)
        · rw [if_pos g3, pf_n (by decide), pf_n (by decide), pf_s]
        · rw [if_pos g3, pf_n (by decide), pf_s, g5]
        · rw [if_pos g3, pf_s]
  have kl : Ex 1 0 0 mX4_takeWord 0 0 12 [some (.ref 81), some (.int (nI 0)), none] [] (St2 N M (pf (pf (pf I 7 2) 8 (nI (dg 32 (pd.take 0)))) 5 (nI (a + (if 0 < l.length then 0 else l.length)))) L) (RP2 none N M L (fun I2 => Sm [81] I I2 ∧ (∀ j, j ≠ 3 → j ≠ 4 → j ≠ 5 → j ≠ 7 → j ≠ 8 → I2 81 j = I 81 j) ∧ (lexW tb n a = false → I2 81 3 = 0 ∧ I2 81 7 = 2 ∧ I2 81 5 = nI (a + l.length) ∧ I2 81 8 = nI (n5 l) ∧ I2 81 4 = -1) ∧ (lexW tb n a = true → I2 81 3 = 1 ∧ I2 81 4 = nI (a + l.length) ∧ I2 81 7 = 0))) := by
    refine forUp (σ := Unit) (P := fun k _ => Ex 1 0 0 mX4_takeWord 0 0 12 [some (.ref 81), some (.int (nI k)), none] [] (St2 N M (pf (pf (pf I 7 2) 8 (nI (dg 32 (pd.take k)))) 5 (nI (a + (if k < l.length then k else l.length)))) L) _) (Inv := fun _ _ => True) 6 ?_ ?_ 0 () (by decide) trivial
    · rintro - -
      rw [List.take_of_length_le (by omega), show (if 6 < l.length then 6 else l.length) = l.length from by split <;> omega]
      refine Ex.iload_n (pc := 12) dX4_takeWord_12 rfl rfl ?_
      refine Ex.bipush (pc := 13) (v := 6) dX4_takeWord_13 rfl ?_
      refine Ex.icmp_ge (pc := 15) (tgt := 107) dX4_takeWord_15 (by decide) (fun _ => ?_) (fun c15 => absurd (by decide) c15)
      exact Ex.le (ls' := [some (.ref 81), none, none]) ⟨rfl, trivial⟩ k107
    · rintro k - hk - ih
      by_cases hkl : k < l.length
      · rw [if_pos hkl]
        obtain ⟨hkn, hkL, -⟩ := hat k hkl
        have hdt := dg_take (B := 32) (hpa k hkl)
        have hdb := isL_b hkL
        have hd1 := hdl k hk
        obtain ⟨I3, hI3⟩ : ∃ z, z = pf (pf (pf I 7 2) 8 (nI (dg 32 (pd.take k)))) 5 (nI (a + k)) := ⟨_, rfl⟩
        have g5 : I3 81 5 = nI (a + k) := by rw [hI3, pf_s]
        have g1 : I3 81 1 = nI n := by rw [hI3, pf_n (by decide), pf_n (by decide), pf_n (by decide)]; exact h1
        have g8 : I3 81 8 = nI (dg 32 (pd.take k)) := by rw [hI3, pf_n (by decide), pf_s]
        have gT : TxR I3 tb n := by rw [hI3]; exact hT.pf.pf.pf
        obtain ⟨hb, e1⟩ := gT _ hkn
        rw [← hI3]
        refine Ex.iload_n (pc := 12) dX4_takeWord_12 rfl rfl ?_
        refine Ex.bipush (pc := 13) (v := 6) dX4_takeWord_13 rfl ?_
        refine Ex.icmp_ge (pc := 15) (tgt := 107) dX4_takeWord_15 (by decide) (fun c15 => absurd c15 (nI_ge (b := 6) hk (by decide))) (fun _ => ?_)
        refine Ex.aload_n (pc := 18) dX4_takeWord_18 rfl rfl ?_
        refine Ex.getI (pc := 19) dX4_takeWord_19 fX4_18 (s2_81 _ _) ?_
        refine Ex.aload_n (pc := 22) dX4_takeWord_22 rfl rfl ?_
        refine Ex.getI (pc := 23) dX4_takeWord_23 fX4_49 (s2_81 _ _) ?_
        refine Ex.icmp_ge (pc := 26) (tgt := 48) dX4_takeWord_26 (by decide) (fun c26 => absurd c26 (by rw [g5, g1]; exact nI_ge hkn (by omega))) (fun _ => ?_)
        refine Ex.aload_n (pc := 29) dX4_takeWord_29 rfl rfl ?_
        refine Ex.getR (pc := 30) dX4_takeWord_30 fX4_36 (s2_81 _ _) r2_81_0 ?_
        refine Ex.aload_n (pc := 33) dX4_takeWord_33 rfl rfl ?_
        refine Ex.getI (pc := 34) dX4_takeWord_34 fX4_18 (s2_81 _ _) ?_
        refine Ex.bald (pc := 37) (j := a + k) dX4_takeWord_37 (s2_1 _ _) (by rw [g5]; exact vp_in_nI (by omega) (by decide)) (by rw [g5]; exact nI_clamp (by omega)) ?_
        rw [e1]
        refine Ex.callS (pc := 38) (As := [.int _]) (rest := []) dX4_takeWord_38 cX4_70 (t_isLetter hb) rfl rfl (by decide) (Nat.le_refl _) (Nat.le_refl _) (Nat.le_of_ble_eq_true rfl) (Or.inl (fun r S' h => by obtain ⟨_, h⟩ := h; subst h; rfl)) (fun r S' hq _ _ => ?_)
        obtain ⟨rfl, rfl⟩ := hq
        refine Ex.if_eq (pc := 41) (tgt := 48) dX4_takeWord_41 (by decide) (fun c41 => absurd c41 (by rw [hkL]; decide)) (fun _ => ?_)
        refine Ex.iconst (pc := 44) (v := 1) dX4_takeWord_44 rfl ?_
        refine Ex.goto (pc := 45) (tgt := 49) dX4_takeWord_45 (by decide) ?_
        refine Ex.istore_n (pc := 49) (ls' := [some (.ref 81), some (.int _), some (.int 1)]) dX4_takeWord_49 rfl (by decide) rfl rfl ?_
        refine Ex.aload_n (pc := 50) dX4_takeWord_50 rfl rfl ?_
        refine Ex.aload_n (pc := 51) dX4_takeWord_51 rfl rfl ?_
        refine Ex.getI (pc := 52) dX4_takeWord_52 fX4_27 (s2_81 _ _) ?_
        rw [g8]
        refine Ex.iconst (pc := 55) (v := 5) dX4_takeWord_55 rfl ?_
        refine Ex.ishl (pc := 56) dX4_takeWord_56 ?_
        refine Ex.iload_n (pc := 57) dX4_takeWord_57 rfl rfl ?_
        refine Ex.if_eq (pc := 58) (tgt := 78) dX4_takeWord_58 (by decide) (fun c58 => absurd c58 (by decide)) (fun _ => ?_)
        refine Ex.aload_n (pc := 61) dX4_takeWord_61 rfl rfl ?_
        refine Ex.getR (pc := 62) dX4_takeWord_62 fX4_36 (s2_81 _ _) r2_81_0 ?_
        refine Ex.aload_n (pc := 65) dX4_takeWord_65 rfl rfl ?_
        refine Ex.getI (pc := 66) dX4_takeWord_66 fX4_18 (s2_81 _ _) ?_
        refine Ex.bald (pc := 69) (j := a + k) dX4_takeWord_69 (s2_1 _ _) (by rw [g5]; exact vp_in_nI (by omega) (by decide)) (by rw [g5]; exact nI_clamp (by omega)) ?_
        rw [e1]
        refine Ex.bipush (pc := 70) (v := 97) dX4_takeWord_70 rfl ?_
        refine Ex.isub (pc := 72) dX4_takeWord_72 ?_
        refine Ex.iconst (pc := 73) (v := 1) dX4_takeWord_73 rfl ?_
        refine Ex.iadd (pc := 74) dX4_takeWord_74 ?_
        refine Ex.goto (pc := 75) (tgt := 79) dX4_takeWord_75 (by decide) ?_
        refine Ex.ior (pc := 79) dX4_takeWord_79 ?_
        rw [sx_lo _ (by omega), show nI (tb (a + k)) - 97 + 1 = nI (tb (a + k) - 96) from by rw [show (97 : Int32) = nI 97 from rfl, pk_sub (by omega), show nI (tb (a + k) - 97) + 1 = nI (tb (a + k) - 97 + 1) from nI_1 _]; congr 1; omega, or5 hd1 (by omega), ← hdt]
        refine Ex.putI (pc := 80) dX4_takeWord_80 fX4_27 (s2_81 _ _) (Or.inl rfl) ⟨rfl, rfl⟩ ?_
        refine Ex.aload_n (pc := 83) dX4_takeWord_83 rfl rfl ?_
        refine Ex.dup (pc := 84) dX4_takeWord_84 rfl ?_
        refine Ex.getI (pc := 85) dX4_takeWord_85 fX4_18 (s2_81 _ _) ?_
        refine Ex.iload_n (pc := 88) dX4_takeWord_88 rfl rfl ?_
        refine Ex.if_eq (pc := 89) (tgt := 96) dX4_takeWord_89 (by decide) (fun c89 => absurd c89 (by decide)) (fun _ => ?_)
        refine Ex.iconst (pc := 92) (v := 1) dX4_takeWord_92 rfl ?_
        refine Ex.goto (pc := 93) (tgt := 97) dX4_takeWord_93 (by decide) ?_
        refine Ex.iadd (pc := 97) dX4_takeWord_97 ?_
        refine Ex.putI (pc := 98) dX4_takeWord_98 fX4_18 (s2_81 _ _) (Or.inl rfl) ⟨rfl, rfl⟩ ?_
        refine Ex.iinc (pc := 101) (ls' := [some (.ref 81), some (.int _), some (.int 1)]) dX4_takeWord_101 rfl rfl (by decide) rfl rfl ?_
        refine Ex.goto (pc := 104) (tgt := 12) dX4_takeWord_104 (by decide) ?_
        rw [show nI k + Int32.ofInt 1 = nI (k + 1) from nI_1 k]
        refine Ex.le (ls' := [some (.ref 81), some (.int (nI (k + 1))), none]) ⟨rfl, rfl, trivial⟩ ?_
        refine Ex.mm (S' := St2 N M (pf (pf (pf I 7 2) 8 (nI (dg 32 (pd.take (k + 1))))) 5 (nI (a + (if (k + 1) < l.length then (k + 1) else l.length)))) L) ?_ (ih () trivial)
        refine congrArg (fun z => St2 N M z L) ?_
        show pf (pf I3 8 (nI (dg 32 (pd.take (k + 1))))) 5 (pf I3 8 (nI (dg 32 (pd.take (k + 1)))) 81 5 + 1) = _
        rw [pf_n (by decide), g5, show nI (a + k) + 1 = nI (a + (if (k + 1) < l.length then (k + 1) else l.length)) from by rw [show (if (k + 1) < l.length then (k + 1) else l.length) = k + 1 from by split <;> omega]; exact nI_1 _, hI3]
        exact pf_w _ _ _ _ _ _
      · rw [if_neg hkl]
        have hdt := dg_take (B := 32) (hpb k (by omega) hk)
        rw [Nat.add_zero] at hdt
        have hno := hend (by omega)
        have hd1 := hdl k hk
        obtain ⟨I3, hI3⟩ : ∃ z, z = pf (pf (pf I 7 2) 8 (nI (dg 32 (pd.take k)))) 5 (nI (a + l.length)) := ⟨_, rfl⟩
        have g5 : I3 81 5 = nI (a + l.length) := by rw [hI3, pf_s]
        have g1 : I3 81 1 = nI n := by rw [hI3, pf_n (by decide), pf_n (by decide), pf_n (by decide)]; exact h1
        have g8 : I3 81 8 = nI (dg 32 (pd.take k)) := by rw [hI3, pf_n (by decide), pf_s]
        have gT : TxR I3 tb n := by rw [hI3]; exact hT.pf.pf.pf
        rw [← hI3]
        refine Ex.iload_n (pc := 12) dX4_takeWord_12 rfl rfl ?_
        refine Ex.bipush (pc := 13) (v := 6) dX4_takeWord_13 rfl ?_
        refine Ex.icmp_ge (pc := 15) (tgt := 107) dX4_takeWord_15 (by decide) (fun c15 => absurd c15 (nI_ge (b := 6) hk (by decide))) (fun _ => ?_)
        refine Ex.aload_n (pc := 18) dX4_takeWord_18 rfl rfl ?_
        refine Ex.getI (pc := 19) dX4_takeWord_19 fX4_18 (s2_81 _ _) ?_
        refine Ex.aload_n (pc := 22) dX4_takeWord_22 rfl rfl ?_
        refine Ex.getI (pc := 23) dX4_takeWord_23 fX4_49 (s2_81 _ _) ?_
        refine Ex.icmp_ge (pc := 26) (tgt := 48) dX4_takeWord_26 (by decide) (fun c26 => ?_) (fun c26 => ?_)
        · skip
          refine Ex.iconst (pc := 48) (v := 0) dX4_takeWord_48 rfl ?_
          refine Ex.istore_n (pc := 49) (ls' := [some (.ref 81), some (.int _), some (.int 0)]) dX4_takeWord_49 rfl (by decide) rfl rfl ?_
          refine Ex.aload_n (pc := 50) dX4_takeWord_50 rfl rfl ?_
          refine Ex.aload_n (pc := 51) dX4_takeWord_51 rfl rfl ?_
          refine Ex.getI (pc := 52) dX4_takeWord_52 fX4_27 (s2_81 _ _) ?_
          rw [g8]
          refine Ex.iconst (pc := 55) (v := 5) dX4_takeWord_55 rfl ?_
          refine Ex.ishl (pc := 56) dX4_takeWord_56 ?_
          refine Ex.iload_n (pc := 57) dX4_takeWord_57 rfl rfl ?_
          refine Ex.if_eq (pc := 58) (tgt := 78) dX4_takeWord_58 (by decide) (fun _ => ?_) (fun c58 => absurd rfl c58)
          refine Ex.iconst (pc := 78) (v := 0) dX4_takeWord_78 rfl ?_
          refine Ex.ior (pc := 79) dX4_takeWord_79 ?_
          rw [show (0 : Int32) = nI 0 from rfl, or5 hd1 (by decide), Nat.add_zero, ← hdt]
          refine Ex.putI (pc := 80) dX4_takeWord_80 fX4_27 (s2_81 _ _) (Or.inl rfl) ⟨rfl, rfl⟩ ?_
          refine Ex.aload_n (pc := 83) dX4_takeWord_83 rfl rfl ?_
          refine Ex.dup (pc := 84) dX4_takeWord_84 rfl ?_
          refine Ex.getI (pc := 85) dX4_takeWord_85 fX4_18 (s2_81 _ _) ?_
          refine Ex.iload_n (pc := 88) dX4_takeWord_88 rfl rfl ?_
          refine Ex.if_eq (pc := 89) (tgt := 96) dX4_takeWord_89 (by decide) (fun _ => ?_) (fun c89 => absurd rfl c89)
          refine Ex.iconst (pc := 96) (v := 0) dX4_takeWord_96 rfl ?_
          refine Ex.iadd (pc := 97) dX4_takeWord_97 ?_
          refine Ex.putI (pc := 98) dX4_takeWord_98 fX4_18 (s2_81 _ _) (Or.inl rfl) ⟨rfl, rfl⟩ ?_
          refine Ex.iinc (pc := 101) (ls' := [some (.ref 81), some (.int _), some (.int 0)]) dX4_takeWord_101 rfl rfl (by decide) rfl rfl ?_
          refine Ex.goto (pc := 104) (tgt := 12) dX4_takeWord_104 (by decide) ?_
          rw [show nI k + Int32.ofInt 1 = nI (k + 1) from nI_1 k]
          refine Ex.le (ls' := [some (.ref 81), some (.int (nI (k + 1))), none]) ⟨rfl, rfl, trivial⟩ ?_
          refine Ex.mm (S' := St2 N M (pf (pf (pf I 7 2) 8 (nI (dg 32 (pd.take (k + 1))))) 5 (nI (a + (if (k + 1) < l.length then (k + 1) else l.length)))) L) ?_ (ih () trivial)
          refine congrArg (fun z => St2 N M z L) ?_
          show pf (pf I3 8 (nI (dg 32 (pd.take (k + 1))))) 5 (pf I3 8 (nI (dg 32 (pd.take (k + 1)))) 81 5 + 0) = _
          rw [pf_n (by decide), g5, show nI (a + l.length) + 0 = nI (a + (if (k + 1) < l.length then (k + 1) else l.length)) from by rw [show (if (k + 1) < l.length then (k + 1) else l.length) = l.length from by split <;> omega]; exact Int32.add_zero _, hI3]
          exact pf_w _ _ _ _ _ _
        · skip
          rw [g5, g1, nI_leI (by omega) (by omega)] at c26
          have han : a + l.length < n := by omega
          obtain ⟨hb, e1⟩ := gT _ han
          refine Ex.aload_n (pc := 29) dX4_takeWord_29 rfl rfl ?_
          refine Ex.getR (pc := 30) dX4_takeWord_30 fX4_36 (s2_81 _ _) r2_81_0 ?_
          refine Ex.aload_n (pc := 33) dX4_takeWord_33 rfl rfl ?_
          refine Ex.getI (pc := 34) dX4_takeWord_34 fX4_18 (s2_81 _ _) ?_
          refine Ex.bald (pc := 37) (j := a + l.length) dX4_takeWord_37 (s2_1 _ _) (by rw [g5]; exact vp_in_nI (by omega) (by decide)) (by rw [g5]; exact nI_clamp (by omega)) ?_
          rw [e1]
          refine Ex.callS (pc := 38) (As := [.int _]) (rest := []) dX4_takeWord_38 cX4_70 (t_isLetter hb) rfl rfl (by decide) (Nat.le_refl _) (Nat.le_refl _) (Nat.le_of_ble_eq_true rfl) (Or.inl (fun r S' h => by obtain ⟨_, h⟩ := h; subst h; rfl)) (fun r S' hq _ _ => ?_)
          obtain ⟨rfl, rfl⟩ := hq
          refine Ex.if_eq (pc := 41) (tgt := 48) dX4_takeWord_41 (by decide) (fun c41 => ?_) (fun c41 => ?_)
          · skip
            refine Ex.iconst (pc := 48) (v := 0) dX4_takeWord_48 rfl ?_
            refine Ex.istore_n (pc := 49) (ls' := [some (.ref 81), some (.int _), some (.int 0)]) dX4_takeWord_49 rfl (by decide) rfl rfl ?_
            refine Ex.aload_n (pc := 50) dX4_takeWord_50 rfl rfl ?_
            refine Ex.aload_n (pc := 51) dX4_takeWord_51 rfl rfl ?_
            refine Ex.getI (pc := 52) dX4_takeWord_52 fX4_27 (s2_81 _ _) ?_
            rw [g8]
            refine Ex.iconst (pc := 55) (v := 5) dX4_takeWord_55 rfl ?_
            refine Ex.ishl (pc := 56) dX4_takeWord_56 ?_
            refine Ex.iload_n (pc := 57) dX4_takeWord_57 rfl rfl ?_
            refine Ex.if_eq (pc := 58) (tgt := 78) dX4_takeWord_58 (by decide) (fun _ => ?_) (fun c58 => absurd rfl c58)
            refine Ex.iconst (pc := 78) (v := 0) dX4_takeWord_78 rfl ?_
            refine Ex.ior (pc := 79) dX4_takeWord_79 ?_
            rw [show (0 : Int32) = nI 0 from rfl, or5 hd1 (by decide), Nat.add_zero, ← hdt]
            refine Ex.putI (pc := 80) dX4_takeWord_80 fX4_27 (s2_81 _ _) (Or.inl rfl) ⟨rfl, rfl⟩ ?_
            refine Ex.aload_n (pc := 83) dX4_takeWord_83 rfl rfl ?_
            refine Ex.dup (pc := 84) dX4_takeWord_84 rfl ?_
            refine Ex.getI (pc := 85) dX4_takeWord_85 fX4_18 (s2_81 _ _) ?_
            refine Ex.iload_n (pc := 88) dX4_takeWord_88 rfl rfl ?_
            refine Ex.if_eq (pc := 89) (tgt := 96) dX4_takeWord_89 (by decide) (fun _ => ?_) (fun c89 => absurd rfl c89)
            refine Ex.iconst (pc := 96) (v := 0) dX4_takeWord_96 rfl ?_
            refine Ex.iadd (pc := 97) dX4_takeWord_97 ?_
            refine Ex.putI (pc := 98) dX4_takeWord_98 fX4_18 (s2_81 _ _) (Or.inl rfl) ⟨rfl, rfl⟩ ?_
            refine Ex.iinc (pc := 101) (ls' := [some (.ref 81), some (.int _), some (.int 0)]) dX4_takeWord_101 rfl rfl (by decide) rfl rfl ?_
            refine Ex.goto (pc := 104) (tgt := 12) dX4_takeWord_104 (by decide) ?_
            rw [show nI k + Int32.ofInt 1 = nI (k + 1) from nI_1 k]
            refine Ex.le (ls' := [some (.ref 81), some (.int (nI (k + 1))), none]) ⟨rfl, rfl, trivial⟩ ?_
            refine Ex.mm (S' := St2 N M (pf (pf (pf I 7 2) 8 (nI (dg 32 (pd.take (k + 1))))) 5 (nI (a + (if (k + 1) < l.length then (k + 1) else l.length)))) L) ?_ (ih () trivial)
            refine congrArg (fun z => St2 N M z L) ?_
            show pf (pf I3 8 (nI (dg 32 (pd.take (k + 1))))) 5 (pf I3 8 (nI (dg 32 (pd.take (k + 1)))) 81 5 + 0) = _
            rw [pf_n (by decide), g5, show nI (a + l.length) + 0 = nI (a + (if (k + 1) < l.length then (k + 1) else l.length)) from by rw [show (if (k + 1) < l.length then (k + 1) else l.length) = l.length from by split <;> omega]; exact Int32.add_zero _, hI3]
            exact pf_w _ _ _ _ _ _
          · skip
            exact absurd ⟨han, bI_1 c41⟩ hno
  refine Ex.aload_n (pc := 0) dX4_takeWord_0 rfl rfl ?_
  refine Ex.iconst (pc := 1) (v := 2) dX4_takeWord_1 rfl ?_
  refine Ex.putI (pc := 2) dX4_takeWord_2 fX4_24 (s2_81 _ _) (Or.inl rfl) ⟨rfl, rfl⟩ ?_
  refine Ex.aload_n (pc := 5) dX4_takeWord_5 rfl rfl ?_
  refine Ex.iconst (pc := 6) (v := 0) dX4_takeWord_6 rfl ?_
  refine Ex.putI (pc := 7) dX4_takeWord_7 fX4_27 (s2_81 _ _) (Or.inl rfl) ⟨rfl, rfl⟩ ?_
  refine Ex.iconst (pc := 10) (v := 0) dX4_takeWord_10 rfl ?_
  refine Ex.istore_n (pc := 11) (ls' := [some (.ref 81), some (.int 0), none]) dX4_takeWord_11 rfl (by decide) rfl rfl ?_
  refine Ex.le (ls' := [some (.ref 81), some (.int (nI 0)), none]) ⟨rfl, rfl, trivial⟩ ?_
  refine Ex.mm (S' := St2 N M (pf (pf (pf I 7 2) 8 (nI (dg 32 (pd.take 0)))) 5 (nI (a + (if 0 < l.length then 0 else l.length)))) L) ?_ kl
  refine congrArg (fun z => St2 N M z L) ?_
  show pf (pf I 7 2) 8 0 = _
  rw [show nI (dg 32 (pd.take 0)) = 0 from by rw [List.take_zero]; rfl, show (if 0 < l.length then 0 else l.length) = 0 from by split <;> omega]
  exact (pf_id (by rw [pf_n (by decide), pf_n (by decide), h5]; rfl)).symm
def lvT : Nat → Int32
  | 0 => 0
  | k + 1 => (if k % 6 = 0 then 0 else lvT k <<< ((5 : Int32) &&& 31)) ||| (if ownB.getD k 0 = 32 then 0 else ownB.getD k 0 - 97 + 1)
def foF (v : Int32) : Nat → Nat → Int32
  | 0, _ => -1
  | f + 1, i => if lvT (6 * i + 6) = v then nI i else foF v f (i + 1)
/-- which of the class's own words a packed word is -/
def foV (v : Int32) : Int32 := foF v 27 0
set_option maxRecDepth 20000 in
theorem t_findOwn {N M : Nat} {I : aI} {L : aL} {v : Int32} (h8 : I 81 8 = v) : Run 4 0 0 mX4_findOwn [.ref 81] (St2 N M I L) (RI (foV v) (St2 N M I L)) := by
  refine Run.of (ls := [some (.ref 81), none, none, none, none]) (by decide) (Nat.le_of_ble_eq_true rfl) rfl ?_
  refine Ex.iconst (pc := 0) (v := 0) dX4_findOwn_0 rfl ?_
  refine Ex.istore_n (pc := 1) (ls' := [some (.ref 81), some (.int 0), none, none, none]) dX4_findOwn_1 rfl (by decide) rfl rfl ?_
  refine Ex.iconst (pc := 2) (v := 0) dX4_findOwn_2 rfl ?_
  refine Ex.istore_n (pc := 3) (ls' := [some (.ref 81), some (.int 0), some (.int 0), none, none]) dX4_findOwn_3 rfl (by decide) rfl rfl ?_
  refine Ex.le (ls' := [some (.ref 81), some (.int (lvT 0)), some (.int (nI 0)), none, none]) ⟨rfl, rfl, rfl, trivial⟩ ?_
  refine forUp (σ := Unit) (P := fun k _ => Ex 4 0 0 mX4_findOwn 0 0 4 [some (.ref 81), some (.int (lvT k)), some (.int (nI k)), none, none] [] (St2 N M I L) _) (Inv := fun k _ => foV v = foF v (27 - k / 6) (k / 6)) 162 ?_ ?_ 0 () (by decide) rfl
  · rintro - hi
    refine Ex.iload_n (pc := 4) dX4_findOwn_4 rfl rfl ?_
    refine Ex.strLen (pc := 5) rfl dX4_findOwn_5 dX4_findOwn_7 (by decide) (Nat.le_refl _) (Nat.le_refl _) (Nat.le_of_ble_eq_true rfl) ?_
    refine Ex.icmp_ge (pc := 10) (tgt := 83) dX4_findOwn_10 (by decide) (fun _ => ?_) (fun c10 => absurd (by decide) c10)
    refine Ex.iconst (pc := 83) (v := (-1)) dX4_findOwn_83 rfl ?_
    refine Ex.iret (pc := 84) rfl rfl rfl dX4_findOwn_84 (Nat.le_refl _) (Nat.le_refl _) ?_
    exact ⟨by rw [hi]; rfl, rfl⟩
  · rintro k - hk hi ih
    have hr6 : nI k - nI k / 6 * 6 = nI (k % 6) := pk_rem (d := 6) (by omega) (by decide) (by decide)
    have hd6 : nI k / 6 = nI (k / 6) := pk_div (d := 6) (by omega) (by decide) (by decide)
    have hs : lvT (k + 1) = (if k % 6 = 0 then 0 else lvT k <<< ((5 : Int32) &&& 31)) ||| (if ownB.getD k 0 = 32 then 0 else ownB.getD k 0 - 97 + 1) := rfl
    have h66 : k % 6 = 5 → foF v (27 - k / 6) (k / 6) = if lvT (k + 1) = v then nI (k / 6) else foF v (27 - (k + 1) / 6) ((k + 1) / 6) := by
      intro e
      obtain ⟨f, hf⟩ : ∃ f, 27 - k / 6 = f + 1 := ⟨27 - k / 6 - 1, by omega⟩
      rw [hf, show 27 - (k + 1) / 6 = f by omega, show (k + 1) / 6 = k / 6 + 1 by omega]
      simp only [foF]
      rw [show 6 * (k / 6) + 6 = k + 1 by omega]
    refine Ex.iload_n (pc := 4) dX4_findOwn_4 rfl rfl ?_
    refine Ex.strLen (pc := 5) rfl dX4_findOwn_5 dX4_findOwn_7 (by decide) (Nat.le_refl _) (Nat.le_refl _) (Nat.le_of_ble_eq_true rfl) ?_
    refine Ex.icmp_ge (pc := 10) (tgt := 83) dX4_findOwn_10 (by decide) (fun c10 => absurd c10 (nI_ge (b := 162) hk (by decide))) (fun _ => ?_)
    refine Ex.strAt (pc := 13) (j := k) rfl dX4_findOwn_13 dX4_findOwn_15 rfl rfl hk dX4_findOwn_16 (by decide) (Nat.le_refl _) (Nat.le_refl _) (Nat.le_of_ble_eq_true rfl) ?_
    refine Ex.istore_n (pc := 19) (ls' := [some (.ref 81), some (.int _), some (.int _), some (.int _), none]) dX4_findOwn_19 rfl (by decide) rfl rfl ?_
    refine Ex.iload_n (pc := 20) dX4_findOwn_20 rfl rfl ?_
    refine Ex.bipush (pc := 21) (v := 6) dX4_findOwn_21 rfl ?_
    refine Ex.irem (pc := 23) dX4_findOwn_23 (by decide) ?_
    refine Ex.if_ne (pc := 24) (tgt := 31) dX4_findOwn_24 (by decide) (fun c24 => ?_) (fun c24 => ?_)
    · skip
      refine Ex.iload_n (pc := 31) dX4_findOwn_31 rfl rfl ?_
      refine Ex.iconst (pc := 32) (v := 5) dX4_findOwn_32 rfl ?_
      refine Ex.ishl (pc := 33) dX4_findOwn_33 ?_
      refine Ex.istore (pc := 34) (ls' := [some (.ref 81), some (.int _), some (.int _), some (.int _), some (.int _)]) dX4_findOwn_34 (by decide) rfl rfl ?_
      refine Ex.iload (pc := 36) dX4_findOwn_36 rfl ?_
      refine Ex.iload_n (pc := 38) dX4_findOwn_38 rfl rfl ?_
      refine Ex.bipush (pc := 39) (v := 32) dX4_findOwn_39 rfl ?_
      refine Ex.icmp_ne (pc := 41) (tgt := 48) dX4_findOwn_41 (by decide) (fun c41 => ?_) (fun c41 => ?_)
      · skip
        refine Ex.iload_n (pc := 48) dX4_findOwn_48 rfl rfl ?_
        refine Ex.bipush (pc := 49) (v := 97) dX4_findOwn_49 rfl ?_
        refine Ex.isub (pc := 51) dX4_findOwn_51 ?_
        refine Ex.iconst (pc := 52) (v := 1) dX4_findOwn_52 rfl ?_
        refine Ex.iadd (pc := 53) dX4_findOwn_53 ?_
        refine Ex.ior (pc := 54) dX4_findOwn_54 ?_
        have c24 : ¬ k % 6 = 0 := fun e => c24 (by rw [hr6, e]; rfl)
        rw [if_neg c24] at hs
        rw [if_neg c41] at hs
        rw [← hs]
        refine Ex.istore_n (pc := 55) (ls' := [some (.ref 81), some (.int _), some (.int _), some (.int _), some (.int _)]) dX4_findOwn_55 rfl (by decide) rfl rfl ?_
        refine Ex.iload_n (pc := 56) dX4_findOwn_56 rfl rfl ?_
        refine Ex.bipush (pc := 57) (v := 6) dX4_findOwn_57 rfl ?_
        refine Ex.irem (pc := 59) dX4_findOwn_59 (by decide) ?_
        refine Ex.iconst (pc := 60) (v := 5) dX4_findOwn_60 rfl ?_
        refine Ex.icmp_ne (pc := 61) (tgt := 77) dX4_findOwn_61 (by decide) (fun c61 => ?_) (fun c61 => ?_)
        · skip
          refine Ex.iinc (pc := 77) (ls' := [some (.ref 81), some (.int _), some (.int _), some (.int _), some (.int _)]) dX4_findOwn_77 rfl rfl (by decide) rfl rfl ?_
          refine Ex.goto (pc := 80) (tgt := 4) dX4_findOwn_80 (by decide) ?_
          rw [show nI k + Int32.ofInt 1 = nI (k + 1) from nI_1 k]
          have c61 : ¬ k % 6 = 5 := fun e => c61 (by rw [hr6, e]; rfl)
          refine Ex.le (ls' := [some (.ref 81), some (.int (lvT (k + 1))), some (.int (nI (k + 1))), none, none]) ⟨rfl, rfl, rfl, trivial⟩ (ih () ?_)
          rw [hi, show (k + 1) / 6 = k / 6 by omega]
        · skip
          refine Ex.iload_n (pc := 64) dX4_findOwn_64 rfl rfl ?_
          refine Ex.aload_n (pc := 65) dX4_findOwn_65 rfl rfl ?_
          refine Ex.getI (pc := 66) dX4_findOwn_66 fX4_27 (s2_81 _ _) ?_
          refine Ex.icmp_ne (pc := 69) (tgt := 77) dX4_findOwn_69 (by decide) (fun c69 => ?_) (fun c69 => ?_)
          · skip
            refine Ex.iinc (pc := 77) (ls' := [some (.ref 81), some (.int _), some (.int _), some (.int _), some (.int _)]) dX4_findOwn_77 rfl rfl (by decide) rfl rfl ?_
            refine Ex.goto (pc := 80) (tgt := 4) dX4_findOwn_80 (by decide) ?_
            rw [show nI k + Int32.ofInt 1 = nI (k + 1) from nI_1 k]
            have c61 : k % 6 = 5 := by
              rw [hr6] at c61
              exact (nI_eq (by omega) (by decide)).mp (show nI (k % 6) = nI 5 from c61)
            rw [h8] at c69
            refine Ex.le (ls' := [some (.ref 81), some (.int (lvT (k + 1))), some (.int (nI (k + 1))), none, none]) ⟨rfl, rfl, rfl, trivial⟩ (ih () ?_)
            rw [hi, h66 c61, if_neg c69]
          · skip
            refine Ex.iload_n (pc := 72) dX4_findOwn_72 rfl rfl ?_
            refine Ex.bipush (pc := 73) (v := 6) dX4_findOwn_73 rfl ?_
            refine Ex.idiv (pc := 75) dX4_findOwn_75 (by decide) ?_
            refine Ex.iret (pc := 76) rfl rfl rfl dX4_findOwn_76 (Nat.le_refl _) (Nat.le_refl _) ?_
            have c61 : k % 6 = 5 := by
              rw [hr6] at c61
              exact (nI_eq (by omega) (by decide)).mp (show nI (k % 6) = nI 5 from c61)
            rw [h8] at c69
            exact ⟨by rw [hi, h66 c61, if_pos c69, hd6], rfl⟩
      · skip
        refine Ex.iconst (pc := 44) (v := 0) dX4_findOwn_44 rfl ?_
        refine Ex.goto (pc := 45) (tgt := 54) dX4_findOwn_45 (by decide) ?_
        refine Ex.ior (pc := 54) dX4_findOwn_54 ?_
        have c24 : ¬ k % 6 = 0 := fun e => c24 (by rw [hr6, e]; rfl)
        rw [if_neg c24] at hs
        rw [if_pos c41] at hs
        rw [← hs]
        refine Ex.istore_n (pc := 55) (ls' := [some (.ref 81), some (.int _), some (.int _), some (.int _), some (.int _)]) dX4_findOwn_55 rfl (by decide) rfl rfl ?_
        refine Ex.iload_n (pc := 56) dX4_findOwn_56 rfl rfl ?_
        refine Ex.bipush (pc := 57) (v := 6) dX4_findOwn_57 rfl ?_
        refine Ex.irem (pc := 59) dX4_findOwn_59 (by decide) ?_
        refine Ex.iconst (pc := 60) (v := 5) dX4_findOwn_60 rfl ?_
        refine Ex.icmp_ne (pc := 61) (tgt := 77) dX4_findOwn_61 (by decide) (fun c61 => ?_) (fun c61 => ?_)
        · skip
          refine Ex.iinc (pc := 77) (ls' := [some (.ref 81), some (.int _), some (.int _), some (.int _), some (.int _)]) dX4_findOwn_77 rfl rfl (by decide) rfl rfl ?_
          refine Ex.goto (pc := 80) (tgt := 4) dX4_findOwn_80 (by decide) ?_
          rw [show nI k + Int32.ofInt 1 = nI (k + 1) from nI_1 k]
          have c61 : ¬ k % 6 = 5 := fun e => c61 (by rw [hr6, e]; rfl)
          refine Ex.le (ls' := [some (.ref 81), some (.int (lvT (k + 1))), some (.int (nI (k + 1))), none, none]) ⟨rfl, rfl, rfl, trivial⟩ (ih () ?_)
          rw [hi, show (k + 1) / 6 = k / 6 by omega]
        · skip
          refine Ex.iload_n (pc := 64) dX4_findOwn_64 rfl rfl ?_
          refine Ex.aload_n (pc := 65) dX4_findOwn_65 rfl rfl ?_
          refine Ex.getI (pc := 66) dX4_findOwn_66 fX4_27 (s2_81 _ _) ?_
          refine Ex.icmp_ne (pc := 69) (tgt := 77) dX4_findOwn_69 (by decide) (fun c69 => ?_) (fun c69 => ?_)
          · skip
            refine Ex.iinc (pc := 77) (ls' := [some (.ref 81), some (.int _), some (.int _), some (.int _), some (.int _)]) dX4_findOwn_77 rfl rfl (by decide) rfl rfl ?_
            refine Ex.goto (pc := 80) (tgt := 4) dX4_findOwn_80 (by decide) ?_
            rw [show nI k + Int32.ofInt 1 = nI (k + 1) from nI_1 k]
            have c61 : k % 6 = 5 := by
              rw [hr6] at c61
              exact (nI_eq (by omega) (by decide)).mp (show nI (k % 6) = nI 5 from c61)
            rw [h8] at c69
            refine Ex.le (ls' := [some (.ref 81), some (.int (lvT (k + 1))), some (.int (nI (k + 1))), none, none]) ⟨rfl, rfl, rfl, trivial⟩ (ih () ?_)
            rw [hi, h66 c61, if_neg c69]
          · skip
            refine Ex.iload_n (pc := 72) dX4_findOwn_72 rfl rfl ?_
            refine Ex.bipush (pc := 73) (v := 6) dX4_findOwn_73 rfl ?_
            refine Ex.idiv (pc := 75) dX4_findOwn_75 (by decide) ?_
            refine Ex.iret (pc := 76) rfl rfl rfl dX4_findOwn_76 (Nat.le_refl _) (Nat.le_refl _) ?_
            have c61 : k % 6 = 5 := by
              rw [hr6] at c61
              exact (nI_eq (by omega) (by decide)).mp (show nI (k % 6) = nI 5 from c61)
            rw [h8] at c69
            exact ⟨by rw [hi, h66 c61, if_pos c69, hd6], rfl⟩
    · skip
      refine Ex.iconst (pc := 27) (v := 0) dX4_findOwn_27 rfl ?_
      refine Ex.goto (pc := 28) (tgt := 34) dX4_findOwn_28 (by decide) ?_
      refine Ex.istore (pc := 34) (ls' := [some (.ref 81), some (.int _), some (.int _), some (.int _), some (.int 0)]) dX4_findOwn_34 (by decide) rfl rfl ?_
      refine Ex.iload (pc := 36) dX4_findOwn_36 rfl ?_
      refine Ex.iload_n (pc := 38) dX4_findOwn_38 rfl rfl ?_
      refine Ex.bipush (pc := 39) (v := 32) dX4_findOwn_39 rfl ?_
      refine Ex.icmp_ne (pc := 41) (tgt := 48) dX4_findOwn_41 (by decide) (fun c41 => ?_) (fun c41 => ?_)
      · skip
        refine Ex.iload_n (pc := 48) dX4_findOwn_48 rfl rfl ?_
        refine Ex.bipush (pc := 49) (v := 97) dX4_findOwn_49 rfl ?_
        refine Ex.isub (pc := 51) dX4_findOwn_51 ?_
        refine Ex.iconst (pc := 52) (v := 1) dX4_findOwn_52 rfl ?_
        refine Ex.iadd (pc := 53) dX4_findOwn_53 ?_
        refine Ex.ior (pc := 54) dX4_findOwn_54 ?_
        have c24 : k % 6 = 0 := by
          rw [hr6] at c24
          exact (nI_eq (by omega) (by decide)).mp (show nI (k % 6) = nI 0 from c24)
        rw [if_pos c24] at hs
        rw [if_neg c41] at hs
        rw [← hs]
        refine Ex.istore_n (pc := 55) (ls' := [some (.ref 81), some (.int _), some (.int _), some (.int _), some (.int 0)]) dX4_findOwn_55 rfl (by decide) rfl rfl ?_
        refine Ex.iload_n (pc := 56) dX4_findOwn_56 rfl rfl ?_
        refine Ex.bipush (pc := 57) (v := 6) dX4_findOwn_57 rfl ?_
        refine Ex.irem (pc := 59) dX4_findOwn_59 (by decide) ?_
        refine Ex.iconst (pc := 60) (v := 5) dX4_findOwn_60 rfl ?_
        refine Ex.icmp_ne (pc := 61) (tgt := 77) dX4_findOwn_61 (by decide) (fun c61 => ?_) (fun c61 => ?_)
        · skip
          refine Ex.iinc (pc := 77) (ls' := [some (.ref 81), some (.int _), some (.int _), some (.int _), some (.int 0)]) dX4_findOwn_77 rfl rfl (by decide) rfl rfl ?_
          refine Ex.goto (pc := 80) (tgt := 4) dX4_findOwn_80 (by decide) ?_
          rw [show nI k + Int32.ofInt 1 = nI (k + 1) from nI_1 k]
          have c61 : ¬ k % 6 = 5 := fun e => c61 (by rw [hr6, e]; rfl)
          refine Ex.le (ls' := [some (.ref 81), some (.int (lvT (k + 1))), some (.int (nI (k + 1))), none, none]) ⟨rfl, rfl, rfl, trivial⟩ (ih () ?_)
          rw [hi, show (k + 1) / 6 = k / 6 by omega]
        · skip
          refine Ex.iload_n (pc := 64) dX4_findOwn_64 rfl rfl ?_
          refine Ex.aload_n (pc := 65) dX4_findOwn_65 rfl rfl ?_
          refine Ex.getI (pc := 66) dX4_findOwn_66 fX4_27 (s2_81 _ _) ?_
          refine Ex.icmp_ne (pc := 69) (tgt := 77) dX4_findOwn_69 (by decide) (fun c69 => ?_) (fun c69 => ?_)
          · skip
            refine Ex.iinc (pc := 77) (ls' := [some (.ref 81), some (.int _), some (.int _), some (.int _), some (.int 0)]) dX4_findOwn_77 rfl rfl (by decide) rfl rfl ?_
            refine Ex.goto (pc := 80) (tgt := 4) dX4_findOwn_80 (by decide) ?_
            rw [show nI k + Int32.ofInt 1 = nI (k + 1) from nI_1 k]
            have c61 : k % 6 = 5 := by
              rw [hr6] at c61
              exact (nI_eq (by omega) (by decide)).mp (show nI (k % 6) = nI 5 from c61)
            rw [h8] at c69
            refine Ex.le (ls' := [some (.ref 81), some (.int (lvT (k + 1))), some (.int (nI (k + 1))), none, none]) ⟨rfl, rfl, rfl, trivial⟩ (ih () ?_)
            rw [hi, h66 c61, if_neg c69]
          · skip
            refine Ex.iload_n (pc := 72) dX4_findOwn_72 rfl rfl ?_
            refine Ex.bipush (pc := 73) (v := 6) dX4_findOwn_73 rfl ?_
            refine Ex.idiv (pc := 75) dX4_findOwn_75 (by decide) ?_
            refine Ex.iret (pc := 76) rfl rfl rfl dX4_findOwn_76 (Nat.le_refl _) (Nat.le_refl _) ?_
            have c61 : k % 6 = 5 := by
              rw [hr6] at c61
              exact (nI_eq (by omega) (by decide)).mp (show nI (k % 6) = nI 5 from c61)
            rw [h8] at c69
            exact ⟨by rw [hi, h66 c61, if_pos c69, hd6], rfl⟩
      · skip
        refine Ex.iconst (pc := 44) (v := 0) dX4_findOwn_44 rfl ?_
        refine Ex.goto (pc := 45) (tgt := 54) dX4_findOwn_45 (by decide) ?_
        refine Ex.ior (pc := 54) dX4_findOwn_54 ?_
        have c24 : k % 6 = 0 := by
          rw [hr6] at c24
          exact (nI_eq (by omega) (by decide)).mp (show nI (k % 6) = nI 0 from c24)
        rw [if_pos c24] at hs
        rw [if_pos c41] at hs
        rw [← hs]
        refine Ex.istore_n (pc := 55) (ls' := [some (.ref 81), some (.int _), some (.int _), some (.int _), some (.int 0)]) dX4_findOwn_55 rfl (by decide) rfl rfl ?_
        refine Ex.iload_n (pc := 56) dX4_findOwn_56 rfl rfl ?_
        refine Ex.bipush (pc := 57) (v := 6) dX4_findOwn_57 rfl ?_
        refine Ex.irem (pc := 59) dX4_findOwn_59 (by decide) ?_
        refine Ex.iconst (pc := 60) (v := 5) dX4_findOwn_60 rfl ?_
        refine Ex.icmp_ne (pc := 61) (tgt := 77) dX4_findOwn_61 (by decide) (fun c61 => ?_) (fun c61 => ?_)
        · skip
          refine Ex.iinc (pc := 77) (ls' := [some (.ref 81), some (.int _), some (.int _), some (.int _), some (.int 0)]) dX4_findOwn_77 rfl rfl (by decide) rfl rfl ?_
          refine Ex.goto (pc := 80) (tgt := 4) dX4_findOwn_80 (by decide) ?_
          rw [show nI k + Int32.ofInt 1 = nI (k + 1) from nI_1 k]
          have c61 : ¬ k % 6 = 5 := fun e => c61 (by rw [hr6, e]; rfl)
          refine Ex.le (ls' := [some (.ref 81), some (.int (lvT (k + 1))), some (.int (nI (k + 1))), none, none]) ⟨rfl, rfl, rfl, trivial⟩ (ih () ?_)
          rw [hi, show (k + 1) / 6 = k / 6 by omega]
        · skip
          refine Ex.iload_n (pc := 64) dX4_findOwn_64 rfl rfl ?_
          refine Ex.aload_n (pc := 65) dX4_findOwn_65 rfl rfl ?_
          refine Ex.getI (pc := 66) dX4_findOwn_66 fX4_27 (s2_81 _ _) ?_
          refine Ex.icmp_ne (pc := 69) (tgt := 77) dX4_findOwn_69 (by decide) (fun c69 => ?_) (fun c69 => ?_)
          · skip
            refine Ex.iinc (pc := 77) (ls' := [some (.ref 81), some (.int _), some (.int _), some (.int _), some (.int 0)]) dX4_findOwn_77 rfl rfl (by decide) rfl rfl ?_
            refine Ex.goto (pc := 80) (tgt := 4) dX4_findOwn_80 (by decide) ?_
            rw [show nI k + Int32.ofInt 1 = nI (k + 1) from nI_1 k]
            have c61 : k % 6 = 5 := by
              rw [hr6] at c61
              exact (nI_eq (by omega) (by decide)).mp (show nI (k % 6) = nI 5 from c61)
            rw [h8] at c69
            refine Ex.le (ls' := [some (.ref 81), some (.int (lvT (k + 1))), some (.int (nI (k + 1))), none, none]) ⟨rfl, rfl, rfl, trivial⟩ (ih () ?_)
            rw [hi, h66 c61, if_neg c69]
          · skip
            refine Ex.iload_n (pc := 72) dX4_findOwn_72 rfl rfl ?_
            refine Ex.bipush (pc := 73) (v := 6) dX4_findOwn_73 rfl ?_
            refine Ex.idiv (pc := 75) dX4_findOwn_75 (by decide) ?_
            refine Ex.iret (pc := 76) rfl rfl rfl dX4_findOwn_76 (Nat.le_refl _) (Nat.le_refl _) ?_
            have c61 : k % 6 = 5 := by
              rw [hr6] at c61
              exact (nI_eq (by omega) (by decide)).mp (show nI (k % 6) = nI 5 from c61)
            rw [h8] at c69
            exact ⟨by rw [hi, h66 c61, if_pos c69, hd6], rfl⟩
