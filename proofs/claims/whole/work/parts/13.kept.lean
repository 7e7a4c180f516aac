set_option maxRecDepth 20000 in
theorem t_back0 {N : Nat} {I : aI} {L : aL} (h0 : I 19 1 = 0) : Run 1 0 0 mX0_back [.ref 19, .ref 10] (St N I L) (RI 0 (St N I L)) := by
  refine Run.of (ls := [some (.ref 19), some (.ref 10), none]) (by decide) (Nat.le_of_ble_eq_true rfl) rfl ?_
  refine Ex.aload_n (pc := 0) dX0_back_0 rfl rfl ?_
  refine Ex.getI (pc := 1) dX0_back_1 fX0_17 (sh19 _) ?_
  refine Ex.if_ne (pc := 4) (tgt := 9) dX0_back_4 (by decide) (fun c4 => absurd h0 c4) (fun _ => ?_)
  refine Ex.iconst (pc := 7) (v := 0) dX0_back_7 rfl ?_
  refine Ex.iret (pc := 8) rfl rfl rfl dX0_back_8 (Nat.le_refl _) (Nat.le_refl _) ?_
  exact ⟨rfl, rfl⟩
set_option maxRecDepth 20000 in
theorem t_back1 {N : Nat} {I : aI} {L : aL} {nx ct : Nat} (hnx : I 19 2 = nI nx) (hn : nx < 20) (hct : I 19 1 = nI ct) (hc : ct ≤ 20) (hp : 0 < ct) : Run 1 0 0 mX0_back [.ref 19, .ref 10] (St N I L) (RP (some (.int 1)) N L (fun I2 => Sm [10, 11, 12, 19] I I2 ∧ I2 19 2 = nI ((nx + 19) % 20) ∧ I2 19 1 = nI (ct - 1) ∧ (∀ j, j < 4 → I2 10 j = I 20 ((nx + 19) % 20 * 15 + j)) ∧ (∀ j, j < 5 → I2 11 j = I 20 ((nx + 19) % 20 * 15 + (4 + j))) ∧ ∀ j, j < 6 → I2 12 j = I 20 ((nx + 19) % 20 * 15 + (9 + j)))) := by
  refine Run.of (ls := [some (.ref 19), some (.ref 10), none]) (by decide) (Nat.le_of_ble_eq_true rfl) rfl ?_
  refine Ex.aload_n (pc := 0) dX0_back_0 rfl rfl ?_
  refine Ex.getI (pc := 1) dX0_back_1 fX0_17 (sh19 _) ?_
  refine Ex.if_ne (pc := 4) (tgt := 9) dX0_back_4 (by decide) (fun _ => ?_) (fun c4 => absurd c4 (by rw [hct]; exact nI_ne0 hp (by omega)))
  refine Ex.aload_n (pc := 9) dX0_back_9 rfl rfl ?_
  refine Ex.dup (pc := 10) dX0_back_10 rfl ?_
  refine Ex.getI (pc := 11) dX0_back_11 fX0_17 (sh19 _) ?_
  refine Ex.iconst (pc := 14) (v := 1) dX0_back_14 rfl ?_
  refine Ex.isub (pc := 15) dX0_back_15 ?_
  refine Ex.putI (pc := 16) dX0_back_16 fX0_17 (sh19 _) (Or.inl rfl) ⟨rfl, rfl⟩ ?_
  refine Ex.aload_n (pc := 19) dX0_back_19 rfl rfl ?_
  refine Ex.aload_n (pc := 20) dX0_back_20 rfl rfl ?_
  refine Ex.getI (pc := 21) dX0_back_21 fX0_21 (sh19 _) ?_
  refine Ex.bipush (pc := 24) (v := 20) dX0_back_24 rfl ?_
  refine Ex.iadd (pc := 26) dX0_back_26 ?_
  refine Ex.iconst (pc := 27) (v := 1) dX0_back_27 rfl ?_
  refine Ex.isub (pc := 28) dX0_back_28 ?_
  refine Ex.bipush (pc := 29) (v := 20) dX0_back_29 rfl ?_
  refine Ex.irem (pc := 31) dX0_back_31 (by decide) ?_
  refine Ex.putI (pc := 32) dX0_back_32 fX0_21 (sh19 _) (Or.inl rfl) ⟨rfl, rfl⟩ ?_
  refine Ex.aload_n (pc := 35) dX0_back_35 rfl rfl ?_
  refine Ex.getI (pc := 36) dX0_back_36 fX0_21 (sh19 _) ?_
  refine Ex.bipush (pc := 39) (v := 15) dX0_back_39 rfl ?_
  refine Ex.imul (pc := 41) dX0_back_41 ?_
  refine Ex.istore_n (pc := 42) (ls' := [some (.ref 19), some (.ref 10), some (.int _)]) dX0_back_42 rfl (by decide) rfl rfl ?_
  have eq : nI nx + 20 - 1 - (nI nx + 20 - 1) / 20 * 20 = nI ((nx + 19) % 20) := by
    rw [show nI nx + 20 - 1 = nI (nx + 19) from by rw [show nI nx + 20 = nI (nx + 20) from nI_add nx 20]; exact pk_sub (b := 1) (by omega)]
    exact pk_rem (d := 20) (by omega) (by decide) (by decide)
  obtain ⟨q, hq⟩ : ∃ q, q = (nx + 19) % 20 := ⟨_, rfl⟩
  rw [← hq] at eq ⊢
  have hq20 : q < 20 := by omega
  refine Ex.le (ls' := [some (.ref 19), some (.ref 10), some (.int (nI (q * 15)))]) ⟨rfl, rfl, ?_, trivial⟩ ?_
  · refine congrArg Value.int ?_
    simp [va_up, upd, hnx, eq]
    exact (pk_mul q 15).symm
  refine Ex.aload_n (pc := 43) dX0_back_43 rfl rfl ?_
  refine Ex.aload_n (pc := 44) dX0_back_44 rfl rfl ?_
  refine Ex.getR (pc := 45) dX0_back_45 fX0_11 (sh19 _) r19_0 ?_
  refine Ex.iload_n (pc := 48) dX0_back_48 rfl rfl ?_
  refine Ex.iald (pc := 49) (j := q * 15) dX0_back_49 (sh20 _) (vp_in_nI (by omega) (by decide)) (ixN2 (by omega)) ?_
  refine Ex.putI (pc := 50) dX0_back_50 fX0_24 (sh10 _) (Or.inl rfl) ⟨rfl, rfl⟩ ?_
  refine Ex.aload_n (pc := 53) dX0_back_53 rfl rfl ?_
  refine Ex.aload_n (pc := 54) dX0_back_54 rfl rfl ?_
  refine Ex.getR (pc := 55) dX0_back_55 fX0_11 (sh19 _) r19_0 ?_
  refine Ex.iload_n (pc := 58) dX0_back_58 rfl rfl ?_
  refine Ex.iconst (pc := 59) (v := 1) dX0_back_59 rfl ?_
  refine Ex.iadd (pc := 60) dX0_back_60 ?_
  refine Ex.iald (pc := 61) (j := q * 15 + 1) dX0_back_61 (sh20 _) (ixA (x := nI (q * 15)) (j := 1) rfl (by omega) (by decide)).1 (ixA2 (x := nI (q * 15)) (j := 1) rfl (by omega)) ?_
  refine Ex.putI (pc := 62) dX0_back_62 fX0_27 (sh10 _) (Or.inl rfl) ⟨rfl, rfl⟩ ?_
  refine Ex.aload_n (pc := 65) dX0_back_65 rfl rfl ?_
  refine Ex.aload_n (pc := 66) dX0_back_66 rfl rfl ?_
  refine Ex.getR (pc := 67) dX0_back_67 fX0_11 (sh19 _) r19_0 ?_
  refine Ex.iload_n (pc := 70) dX0_back_70 rfl rfl ?_
  refine Ex.iconst (pc := 71) (v := 2) dX0_back_71 rfl ?_
  refine Ex.iadd (pc := 72) dX0_back_72 ?_
  refine Ex.iald (pc := 73) (j := q * 15 + 2) dX0_back_73 (sh20 _) (ixA (x := nI (q * 15)) (j := 2) rfl (by omega) (by decide)).1 (ixA2 (x := nI (q * 15)) (j := 2) rfl (by omega)) ?_
  refine Ex.putI (pc := 74) dX0_back_74 fX0_30 (sh10 _) (Or.inl rfl) ⟨rfl, rfl⟩ ?_
  refine Ex.aload_n (pc := 77) dX0_back_77 rfl rfl ?_
  refine Ex.aload_n (pc := 78) dX0_back_78 rfl rfl ?_
  refine Ex.getR (pc := 79) dX0_back_79 fX0_11 (sh19 _) r19_0 ?_
  refine Ex.iload_n (pc := 82) dX0_back_82 rfl rfl ?_
  refine Ex.iconst (pc := 83) (v := 3) dX0_back_83 rfl ?_
  refine Ex.iadd (pc := 84) dX0_back_84 ?_
  refine Ex.iald (pc := 85) (j := q * 15 + 3) dX0_back_85 (sh20 _) (ixA (x := nI (q * 15)) (j := 3) rfl (by omega) (by decide)).1 (ixA2 (x := nI (q * 15)) (j := 3) rfl (by omega)) ?_
  refine Ex.putI (pc := 86) dX0_back_86 fX0_33 (sh10 _) (Or.inl rfl) ⟨rfl, rfl⟩ ?_
  refine Ex.aload_n (pc := 89) dX0_back_89 rfl rfl ?_
  refine Ex.getR (pc := 90) dX0_back_90 fX0_11 (sh19 _) r19_0 ?_
  refine Ex.iload_n (pc := 93) dX0_back_93 rfl rfl ?_
  refine Ex.iconst (pc := 94) (v := 4) dX0_back_94 rfl ?_
  refine Ex.iadd (pc := 95) dX0_back_95 ?_
  refine Ex.aload_n (pc := 96) dX0_back_96 rfl rfl ?_
  refine Ex.getR (pc := 97) dX0_back_97 fX0_36 (sh10 _) r10_4 ?_
  refine Ex.iconst (pc := 100) (v := 0) dX0_back_100 rfl ?_
  refine Ex.iconst (pc := 101) (v := 5) dX0_back_101 rfl ?_
  refine Ex.copyI (pc := 102) dX0_back_102 kl_X0_39 (sh20 _) (sh11 _) (by rw [show nI (q * 15) + 4 = nI (q * 15 + 4) from nI_add _ 4]; exact nI_pos (by omega)) (by decide) (by decide) (by rw [show nI (q * 15) + 4 = nI (q * 15 + 4) from nI_add _ 4, nI_clamp (by omega)]; show q * 15 + 4 + 5 ≤ 300; omega) (by decide) (by decide) (Nat.le_of_ble_eq_true rfl) ?_
  refine Ex.aload_n (pc := 105) dX0_back_105 rfl rfl ?_
  refine Ex.getR (pc := 106) dX0_back_106 fX0_11 (sh19 _) r19_0 ?_
  refine Ex.iload_n (pc := 109) dX0_back_109 rfl rfl ?_
  refine Ex.iconst (pc := 110) (v := 4) dX0_back_110 rfl ?_
  refine Ex.iadd (pc := 111) dX0_back_111 ?_
  refine Ex.iconst (pc := 112) (v := 5) dX0_back_112 rfl ?_
  refine Ex.iadd (pc := 113) dX0_back_113 ?_
  refine Ex.aload_n (pc := 114) dX0_back_114 rfl rfl ?_
  refine Ex.getR (pc := 115) dX0_back_115 fX0_45 (sh10 _) r10_5 ?_
  refine Ex.iconst (pc := 118) (v := 0) dX0_back_118 rfl ?_
  refine Ex.bipush (pc := 119) (v := 6) dX0_back_119 rfl ?_
  refine Ex.copyI (pc := 121) dX0_back_121 kl_X0_39 (sh20 _) (sh12 _) (by rw [show nI (q * 15) + 4 = nI (q * 15 + 4) from nI_add _ 4, show nI (q * 15 + 4) + 5 = nI (q * 15 + 9) from nI_add _ 5]; exact nI_pos (by omega)) (by decide) (by decide) (by rw [show nI (q * 15) + 4 = nI (q * 15 + 4) from nI_add _ 4, show nI (q * 15 + 4) + 5 = nI (q * 15 + 9) from nI_add _ 5, nI_clamp (by omega)]; show q * 15 + 9 + 6 ≤ 300; omega) (by decide) (by decide) (Nat.le_of_ble_eq_true rfl) ?_
  refine Ex.iconst (pc := 124) (v := 1) dX0_back_124 rfl ?_
  refine Ex.iret (pc := 125) rfl rfl rfl dX0_back_125 (Nat.le_refl _) (Nat.le_refl _) ?_
  refine ⟨_, rfl, rfl, ?_, ?_, ?_, ?_, ?_, ?_⟩
  · exact (((((((Sm.rf.up (by decide)).up (by decide)).up (by decide)).up (by decide)).up (by decide)).up (by decide)).up (by decide)).up (by decide)
  · simp [va_up, upd, hnx, eq]
  · simp [va_up, upd, hct]
    exact pk_sub (b := 1) (by omega)
  · intro j hj
    rcases (show j = 0 ∨ j = 1 ∨ j = 2 ∨ j = 3 by omega) with rfl | rfl | rfl | rfl <;> simp [va_up, upd]
  · intro j hj
    simp [va_up, upd, va_cpy, show (5 : Int32).toNatClampNeg = 5 from by decide, show (6 : Int32).toNatClampNeg = 6 from by decide, show (0 : Int32).toNatClampNeg = 0 from by decide, show nI (q * 15) + 4 = nI (q * 15 + 4) from nI_add _ 4, nI_clamp (show q * 15 + 4 < 2 ^ 31 by omega), hj]
    congr 1; omega
  · intro j hj
    simp [va_up, upd, va_cpy, show (5 : Int32).toNatClampNeg = 5 from by decide, show (6 : Int32).toNatClampNeg = 6 from by decide, show (0 : Int32).toNatClampNeg = 0 from by decide, show nI (q * 15) + 4 = nI (q * 15 + 4) from nI_add _ 4, show nI (q * 15 + 4) + 5 = nI (q * 15 + 9) from nI_add _ 5, nI_clamp (show q * 15 + 9 < 2 ^ 31 by omega), hj]
    congr 1; omega
set_option maxRecDepth 20000 in
theorem t_kput {N : Nat} {I : aI} {L : aL} {n : Nat} {w : Int32} (hn : n < 2 ^ 30) : Run 0 0 0 mX2_put [.ref 21, .int (nI n), .int w, .ref 16] (St N I L) (RV (St N (va_up I 22 (upd (I 22) (n % 840) (w <<< (16 &&& 31) ||| I 16 3 <<< (12 &&& 31) ||| I 16 4 <<< (8 &&& 31) ||| I 16 8))) L)) := by
  refine Run.of (ls := [some (.ref 21), some (.int _), some (.int _), some (.ref 16)]) (by decide) (Nat.le_of_ble_eq_true rfl) rfl ?_
  refine Ex.iload_n (pc := 0) dX2_put_0 rfl rfl ?_
  refine Ex.if_lt (pc := 1) (tgt := 39) dX2_put_1 (by decide) (fun c1 => absurd c1 (nI_pos (by omega))) (fun _ => ?_)
  refine Ex.aload_n (pc := 4) dX2_put_4 rfl rfl ?_
  refine Ex.getR (pc := 5) dX2_put_5 fX2_11 (sh21 _) r21_0 ?_
  refine Ex.iload_n (pc := 8) dX2_put_8 rfl rfl ?_
  refine Ex.sipush (pc := 9) (v := 840) dX2_put_9 rfl ?_
  refine Ex.irem (pc := 12) dX2_put_12 (by decide) ?_
  refine Ex.iload_n (pc := 13) dX2_put_13 rfl rfl ?_
  refine Ex.bipush (pc := 14) (v := 16) dX2_put_14 rfl ?_
  refine Ex.ishl (pc := 16) dX2_put_16 ?_
  refine Ex.aload_n (pc := 17) dX2_put_17 rfl rfl ?_
  refine Ex.getI (pc := 18) dX2_put_18 fX2_15 (sh16 _) ?_
  refine Ex.bipush (pc := 21) (v := 12) dX2_put_21 rfl ?_
  refine Ex.ishl (pc := 23) dX2_put_23 ?_
  refine Ex.ior (pc := 24) dX2_put_24 ?_
  refine Ex.aload_n (pc := 25) dX2_put_25 rfl rfl ?_
  refine Ex.getI (pc := 26) dX2_put_26 fX2_21 (sh16 _) ?_
  refine Ex.bipush (pc := 29) (v := 8) dX2_put_29 rfl ?_
  refine Ex.ishl (pc := 31) dX2_put_31 ?_
  refine Ex.ior (pc := 32) dX2_put_32 ?_
  refine Ex.aload_n (pc := 33) dX2_put_33 rfl rfl ?_
  refine Ex.getI (pc := 34) dX2_put_34 fX2_24 (sh16 _) ?_
  refine Ex.ior (pc := 37) dX2_put_37 ?_
  refine Ex.iast (pc := 38) (j := n % 840) dX2_put_38 (sh22 _) (by rw [show nI n - nI n / 840 * 840 = nI (n % 840) from pk_rem (d := 840) (by omega) (by decide) (by decide)]; exact vp_in_nI (by omega) (by decide)) (by rw [show nI n - nI n / 840 * 840 = nI (n % 840) from pk_rem (d := 840) (by omega) (by decide) (by decide)]; exact nI_clamp (by omega)) ?_
  refine Ex.vret (pc := 39) rfl dX2_put_39 (Nat.le_refl _) (Nat.le_refl _) ?_
  exact ⟨rfl, rfl⟩
set_option maxRecDepth 20000 in
theorem t_ktell {N : Nat} {I : aI} {L : aL} {n : Nat} {w : Int32} (hn : n < 2 ^ 30) : Run 0 0 0 mX2_tell [.ref 21, .int (nI n), .int w] (St N I L) (RI (if w = 0 then I 22 (n % 840) >>> (16 &&& 31) else if w = 1 then I 22 (n % 840) >>> (12 &&& 31) &&& 15 else if w = 2 then I 22 (n % 840) >>> (8 &&& 31) &&& 15 else I 22 (n % 840) &&& 255) (St N I L)) := by
  refine Run.of (ls := [some (.ref 21), some (.int _), some (.int _), none]) (by decide) (Nat.le_of_ble_eq_true rfl) rfl ?_
  refine Ex.iload_n (pc := 0) dX2_tell_0 rfl rfl ?_
  refine Ex.if_ge (pc := 1) (tgt := 6) dX2_tell_1 (by decide) (fun _ => ?_) (fun c1 => absurd (nI_pos' (by omega)) c1)
  refine Ex.aload_n (pc := 6) dX2_tell_6 rfl rfl ?_
  refine Ex.getR (pc := 7) dX2_tell_7 fX2_11 (sh21 _) r21_0 ?_
  refine Ex.iload_n (pc := 10) dX2_tell_10 rfl rfl ?_
  refine Ex.sipush (pc := 11) (v := 840) dX2_tell_11 rfl ?_
  refine Ex.irem (pc := 14) dX2_tell_14 (by decide) ?_
  refine Ex.iald (pc := 15) (j := n % 840) dX2_tell_15 (sh22 _) (by rw [show nI n - nI n / 840 * 840 = nI (n % 840) from pk_rem (d := 840) (by omega) (by decide) (by decide)]; exact vp_in_nI (by omega) (by decide)) (by rw [show nI n - nI n / 840 * 840 = nI (n % 840) from pk_rem (d := 840) (by omega) (by decide) (by decide)]; exact nI_clamp (by omega)) ?_
  refine Ex.istore_n (pc := 16) (ls' := [some (.ref 21), some (.int _), some (.int _), some (.int _)]) dX2_tell_16 rfl (by decide) rfl rfl ?_
  refine Ex.iload_n (pc := 17) dX2_tell_17 rfl rfl ?_
  by_cases c18_0 : w = 0
  · refine Ex.tableIn (pc := 18) (tgt := 44) (off := 26) dX2_tell_18 (by rw [c18_0]; decide) (by rw [c18_0]; decide) (by rw [c18_0]; decide) (by decide) ?_
    refine Ex.iload_n (pc := 44) dX2_tell_44 rfl rfl ?_
    refine Ex.bipush (pc := 45) (v := 16) dX2_tell_45 rfl ?_
    refine Ex.ishr (pc := 47) dX2_tell_47 ?_
    refine Ex.iret (pc := 48) rfl rfl rfl dX2_tell_48 (Nat.le_refl _) (Nat.le_refl _) ?_
    exact ⟨by simp [*], rfl⟩
  by_cases c18_1 : w = 1
  · refine Ex.tableIn (pc := 18) (tgt := 49) (off := 31) dX2_tell_18 (by rw [c18_1]; decide) (by rw [c18_1]; decide) (by rw [c18_1]; decide) (by decide) ?_
    refine Ex.iload_n (pc := 49) dX2_tell_49 rfl rfl ?_
    refine Ex.bipush (pc := 50) (v := 12) dX2_tell_50 rfl ?_
    refine Ex.ishr (pc := 52) dX2_tell_52 ?_
    refine Ex.bipush (pc := 53) (v := 15) dX2_tell_53 rfl ?_
    refine Ex.iand (pc := 55) dX2_tell_55 ?_
    refine Ex.iret (pc := 56) rfl rfl rfl dX2_tell_56 (Nat.le_refl _) (Nat.le_refl _) ?_
    exact ⟨by simp [*], rfl⟩
  by_cases c18_2 : w = 2
  · refine Ex.tableIn (pc := 18) (tgt := 57) (off := 39) dX2_tell_18 (by rw [c18_2]; decide) (by rw [c18_2]; decide) (by rw [c18_2]; decide) (by decide) ?_
    refine Ex.iload_n (pc := 57) dX2_tell_57 rfl rfl ?_
    refine Ex.bipush (pc := 58) (v := 8) dX2_tell_58 rfl ?_
    refine Ex.ishr (pc := 60) dX2_tell_60 ?_
    refine Ex.bipush (pc := 61) (v := 15) dX2_tell_61 rfl ?_
    refine Ex.iand (pc := 63) dX2_tell_63 ?_
    refine Ex.iret (pc := 64) rfl rfl rfl dX2_tell_64 (Nat.le_refl _) (Nat.le_refl _) ?_
    exact ⟨by simp [*], rfl⟩
  refine Ex.tableOut (pc := 18) (tgt := 65) dX2_tell_18 (by have h0 := toInt_ne (z := 0) c18_0 (by decide); have h1 := toInt_ne (z := 1) c18_1 (by decide); have h2 := toInt_ne (z := 2) c18_2 (by decide); omega) (by decide) ?_
  refine Ex.iload_n (pc := 65) dX2_tell_65 rfl rfl ?_
  refine Ex.sipush (pc := 66) (v := 255) dX2_tell_66 rfl ?_
  refine Ex.iand (pc := 69) dX2_tell_69 ?_
  refine Ex.iret (pc := 70) rfl rfl rfl dX2_tell_70 (Nat.le_refl _) (Nat.le_refl _) ?_
  exact ⟨by simp [*], rfl⟩
