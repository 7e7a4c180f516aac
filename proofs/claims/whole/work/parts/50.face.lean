theorem isB_in {w : Int32} {n : Nat} (hn : n < 2 ^ 30) : isB w 0 (nI n - 1) = inR w n := by
  unfold isB inR
  refine decide_eq_decide.mpr (and_congr Iff.rfl (not_congr ?_))
  have e : (nI n - 1).toInt = (n : Int) - 1 := pk_sub_toInt (b := 1) (by omega) (by decide)
  rw [Int32.lt_iff_toInt_lt, Int32.le_iff_toInt_le, e, nI_toInt (by omega)]
  omega
set_option maxRecDepth 20000 in
theorem tm_board {N : Nat} {I : aI} {L : aL} {p : aP} {bk nb ns nh : Nat} {f5 f6 : Nat → Int32} {x : aX} {rs : List aRow} (hR : RS I bk nb ns nh p f5 f6 x rs) {w v : Int32} : Run 1 0 0 mX10_board [.ref 36, .int w, .int v] (St N I L) (RI (if inR w nb = false then -1 else if v = 0 then f5 w.toNatClampNeg else if v = 1 then x.2.2.2.1 w.toNatClampNeg else -1) (St N I L)) := by
  refine Run.of (ls := [some (.ref 36), some (.int _), some (.int _)]) (by decide) (Nat.le_of_ble_eq_true rfl) rfl ?_
  obtain ⟨hP, hX, hK, hG, hrb⟩ := id hR
  obtain ⟨⟨h1, h2, hnb, hns, hnh, hcb, hcs, hch⟩, -⟩ := id hP
  obtain ⟨-, -, -, hf1, hf2, hf3⟩ := id hP
  obtain ⟨x1, x2, x3, x4, x5⟩ := id hX
  refine Ex.aload_n (pc := 0) dX10_board_0 rfl rfl ?_
  refine Ex.iload_n (pc := 1) dX10_board_1 rfl rfl ?_
  refine Ex.callV (pc := 2) (As := [.int _]) (rest := []) dX10_board_2 cX10_470 (tm_isBoard hP.1) (sh36 _) rfl rfl (by decide) (Nat.le_refl _) (Nat.le_refl _) (Nat.le_of_ble_eq_true rfl) (Or.inl (fun r S' h => by obtain ⟨_, h⟩ := h; subst h; rfl)) (fun r S' hq _ _ => ?_)
  obtain ⟨rfl, rfl⟩ := hq
  refine Ex.if_ne (pc := 5) (tgt := 12) dX10_board_5 (by decide) (fun c5 => ?_) (fun c5 => ?_)
  · skip
    obtain ⟨j, hj, rfl⟩ := inR_of (bI_1 c5) (by omega)
    refine Ex.iload_n (pc := 12) dX10_board_12 rfl rfl ?_
    refine Ex.if_ne (pc := 13) (tgt := 32) dX10_board_13 (by decide) (fun c13 => ?_) (fun c13 => ?_)
    · skip
      refine Ex.iload_n (pc := 32) dX10_board_32 rfl rfl ?_
      refine Ex.iconst (pc := 33) (v := 1) dX10_board_33 rfl ?_
      refine Ex.icmp_ne (pc := 34) (tgt := 46) dX10_board_34 (by decide) (fun c34 => ?_) (fun c34 => ?_)
      · skip
        refine Ex.iconst (pc := 46) (v := (-1)) dX10_board_46 rfl ?_
        refine Ex.iret (pc := 47) rfl rfl rfl dX10_board_47 (Nat.le_refl _) (Nat.le_refl _) ?_
        have e4 := x4 j hj
        have ef := (hf1 j hj).1
        refine ⟨?_, rfl⟩
        rw [bI_1 c5, if_neg (show ¬ true = false by decide), nI_clamp (by omega)]
        rw [show 5 * 0 + j = j by omega] at e4
        simp [*]
      · skip
        refine Ex.aload_n (pc := 37) dX10_board_37 rfl rfl ?_
        refine Ex.getR (pc := 38) dX10_board_38 fX10_159 (sh36 _) r36_48 ?_
        refine Ex.iload_n (pc := 41) dX10_board_41 rfl rfl ?_
        refine Ex.iald (pc := 42) (j := j) dX10_board_42 (sh65 _) (vp_in_nI (by omega) (by decide)) (ixN2 (by omega)) ?_
        refine Ex.goto (pc := 43) (tgt := 47) dX10_board_43 (by decide) ?_
        refine Ex.iret (pc := 47) rfl rfl rfl dX10_board_47 (Nat.le_refl _) (Nat.le_refl _) ?_
        have e4 := x4 j hj
        have ef := (hf1 j hj).1
        refine ⟨?_, rfl⟩
        rw [bI_1 c5, if_neg (show ¬ true = false by decide), nI_clamp (by omega)]
        rw [show 5 * 0 + j = j by omega] at e4
        simp [*]
    · skip
      refine Ex.aload_n (pc := 16) dX10_board_16 rfl rfl ?_
      refine Ex.getR (pc := 17) dX10_board_17 fX10_57 (sh36 _) r36_15 ?_
      refine Ex.iconst (pc := 20) (v := 5) dX10_board_20 rfl ?_
      refine Ex.aload_n (pc := 21) dX10_board_21 rfl rfl ?_
      refine Ex.getI (pc := 22) dX10_board_22 fX10_51 (sh36 _) ?_
      refine Ex.imul (pc := 25) dX10_board_25 ?_
      refine Ex.iload_n (pc := 26) dX10_board_26 rfl rfl ?_
      refine Ex.iadd (pc := 27) dX10_board_27 ?_
      refine Ex.iald (pc := 28) (j := 5 * bk + j) dX10_board_28 (sh39 _) (ixE (c := 5) (a := bk) (b := j) h2 rfl (by omega) (by decide)) (ixE2 (c := 5) h2 rfl (by omega)) ?_
      refine Ex.goto (pc := 29) (tgt := 47) dX10_board_29 (by decide) ?_
      refine Ex.iret (pc := 47) rfl rfl rfl dX10_board_47 (Nat.le_refl _) (Nat.le_refl _) ?_
      have e4 := x4 j hj
      have ef := (hf1 j hj).1
      refine ⟨?_, rfl⟩
      rw [bI_1 c5, if_neg (show ¬ true = false by decide), nI_clamp (by omega)]
      rw [show 5 * 0 + j = j by omega] at e4
      simp [*]
  · skip
    refine Ex.iconst (pc := 8) (v := (-1)) dX10_board_8 rfl ?_
    refine Ex.goto (pc := 9) (tgt := 47) dX10_board_9 (by decide) ?_
    refine Ex.iret (pc := 47) rfl rfl rfl dX10_board_47 (Nat.le_refl _) (Nat.le_refl _) ?_
    exact ⟨by rw [bI_0 c5]; rfl, rfl⟩
set_option maxRecDepth 20000 in
theorem tm_stain {N : Nat} {I : aI} {L : aL} {p : aP} {bk nb ns nh : Nat} {f5 f6 : Nat → Int32} {x : aX} {rs : List aRow} (hR : RS I bk nb ns nh p f5 f6 x rs) {w v : Int32} : Run 1 0 0 mX10_stain [.ref 36, .int w, .int v] (St N I L) (RI (if inR w ns = false then -1 else if v = 0 then x.2.2.2.2 w.toNatClampNeg else if v = 1 then f6 (6 + w.toNatClampNeg) else -1) (St N I L)) := by
  refine Run.of (ls := [some (.ref 36), some (.int _), some (.int _)]) (by decide) (Nat.le_of_ble_eq_true rfl) rfl ?_
  obtain ⟨hP, hX, hK, hG, hrb⟩ := id hR
  obtain ⟨⟨h1, h2, hnb, hns, hnh, hcb, hcs, hch⟩, -⟩ := id hP
  obtain ⟨-, -, -, hf1, hf2, hf3⟩ := id hP
  obtain ⟨x1, x2, x3, x4, x5⟩ := id hX
  refine Ex.aload_n (pc := 0) dX10_stain_0 rfl rfl ?_
  refine Ex.iload_n (pc := 1) dX10_stain_1 rfl rfl ?_
  refine Ex.callV (pc := 2) (As := [.int _]) (rest := []) dX10_stain_2 cX10_473 (tm_isStain hP.1) (sh36 _) rfl rfl (by decide) (Nat.le_refl _) (Nat.le_refl _) (Nat.le_of_ble_eq_true rfl) (Or.inl (fun r S' h => by obtain ⟨_, h⟩ := h; subst h; rfl)) (fun r S' hq _ _ => ?_)
  obtain ⟨rfl, rfl⟩ := hq
  refine Ex.if_ne (pc := 5) (tgt := 12) dX10_stain_5 (by decide) (fun c5 => ?_) (fun c5 => ?_)
  · skip
    obtain ⟨j, hj, rfl⟩ := inR_of (bI_1 c5) (by omega)
    refine Ex.iload_n (pc := 12) dX10_stain_12 rfl rfl ?_
    refine Ex.if_ne (pc := 13) (tgt := 25) dX10_stain_13 (by decide) (fun c13 => ?_) (fun c13 => ?_)
    · skip
      refine Ex.iload_n (pc := 25) dX10_stain_25 rfl rfl ?_
      refine Ex.iconst (pc := 26) (v := 1) dX10_stain_26 rfl ?_
      refine Ex.icmp_ne (pc := 27) (tgt := 47) dX10_stain_27 (by decide) (fun c27 => ?_) (fun c27 => ?_)
      · skip
        refine Ex.iconst (pc := 47) (v := (-1)) dX10_stain_47 rfl ?_
        refine Ex.iret (pc := 48) rfl rfl rfl dX10_stain_48 (Nat.le_refl _) (Nat.le_refl _) ?_
        have e4 := x5 j hj
        have ef := (hf2 j hj).2
        refine ⟨?_, rfl⟩
        rw [bI_1 c5, if_neg (show ¬ true = false by decide), nI_clamp (by omega)]
        rw [show 6 * 0 + j = j by omega] at e4
        simp [*]
      · skip
        refine Ex.aload_n (pc := 30) dX10_stain_30 rfl rfl ?_
        refine Ex.getR (pc := 31) dX10_stain_31 fX10_69 (sh36 _) r36_19 ?_
        refine Ex.bipush (pc := 34) (v := 6) dX10_stain_34 rfl ?_
        refine Ex.aload_n (pc := 36) dX10_stain_36 rfl rfl ?_
        refine Ex.getI (pc := 37) dX10_stain_37 fX10_51 (sh36 _) ?_
        refine Ex.imul (pc := 40) dX10_stain_40 ?_
        refine Ex.iload_n (pc := 41) dX10_stain_41 rfl rfl ?_
        refine Ex.iadd (pc := 42) dX10_stain_42 ?_
        refine Ex.iald (pc := 43) (j := 6 * bk + j) dX10_stain_43 (sh43 _) (ixE (c := 6) (a := bk) (b := j) h2 rfl (by omega) (by decide)) (ixE2 (c := 6) h2 rfl (by omega)) ?_
        refine Ex.goto (pc := 44) (tgt := 48) dX10_stain_44 (by decide) ?_
        refine Ex.iret (pc := 48) rfl rfl rfl dX10_stain_48 (Nat.le_refl _) (Nat.le_refl _) ?_
        have e4 := x5 j hj
        have ef := (hf2 j hj).2
        refine ⟨?_, rfl⟩
        rw [bI_1 c5, if_neg (show ¬ true = false by decide), nI_clamp (by omega)]
        rw [show 6 * 0 + j = j by omega] at e4
        simp [*]
    · skip
      refine Ex.aload_n (pc := 16) dX10_stain_16 rfl rfl ?_
      refine Ex.getR (pc := 17) dX10_stain_17 fX10_162 (sh36 _) r36_49 ?_
      refine Ex.iload_n (pc := 20) dX10_stain_20 rfl rfl ?_
      refine Ex.iald (pc := 21) (j := j) dX10_stain_21 (sh66 _) (vp_in_nI (by omega) (by decide)) (ixN2 (by omega)) ?_
      refine Ex.goto (pc := 22) (tgt := 48) dX10_stain_22 (by decide) ?_
      refine Ex.iret (pc := 48) rfl rfl rfl dX10_stain_48 (Nat.le_refl _) (Nat.le_refl _) ?_
      have e4 := x5 j hj
      have ef := (hf2 j hj).2
      refine ⟨?_, rfl⟩
      rw [bI_1 c5, if_neg (show ¬ true = false by decide), nI_clamp (by omega)]
      rw [show 6 * 0 + j = j by omega] at e4
      simp [*]
  · skip
    refine Ex.iconst (pc := 8) (v := (-1)) dX10_stain_8 rfl ?_
    refine Ex.goto (pc := 9) (tgt := 48) dX10_stain_9 (by decide) ?_
    refine Ex.iret (pc := 48) rfl rfl rfl dX10_stain_48 (Nat.le_refl _) (Nat.le_refl _) ?_
    exact ⟨by rw [bI_0 c5]; rfl, rfl⟩
set_option maxRecDepth 20000 in
theorem tm_hearer {N : Nat} {I : aI} {L : aL} {p : aP} {bk nb ns nh : Nat} {f5 f6 : Nat → Int32} {x : aX} {rs : List aRow} (hR : RS I bk nb ns nh p f5 f6 x rs) {w v : Int32} : Run 1 0 0 mX10_hearer [.ref 36, .int w, .int v] (St N I L) (RI (if inR w nh = false then -1 else if v = 0 then f5 (12 + w.toNatClampNeg) else if v = 1 then f6 (12 + w.toNatClampNeg) else if v = 2 then x.2.2.1 >>> (w &&& 31) &&& 1 else -1) (St N I L)) := by
  refine Run.of (ls := [some (.ref 36), some (.int _), some (.int _), none]) (by decide) (Nat.le_of_ble_eq_true rfl) rfl ?_
  obtain ⟨hP, hX, hK, hG, hrb⟩ := id hR
  obtain ⟨⟨h1, h2, hnb, hns, hnh, hcb, hcs, hch⟩, -⟩ := id hP
  obtain ⟨-, -, -, hf1, hf2, hf3⟩ := id hP
  obtain ⟨x1, x2, x3, x4, x5⟩ := id hX
  have hbv : ∀ z : Int32, z &&& 1 = 0 ∨ z &&& 1 = 1 := by
    intro z
    obtain ⟨j, hj, e⟩ := pk_andE z (m := 1) 1 (by decide)
    rw [e]
    rcases (show j = 0 ∨ j = 1 by omega) with rfl | rfl
    · exact Or.inl rfl
    · exact Or.inr rfl
  refine Ex.iload_n (pc := 0) dX10_hearer_0 rfl rfl ?_
  refine Ex.iconst (pc := 1) (v := 0) dX10_hearer_1 rfl ?_
  refine Ex.aload_n (pc := 2) dX10_hearer_2 rfl rfl ?_
  refine Ex.getR (pc := 3) dX10_hearer_3 fX10_72 (sh36 _) r36_20 ?_
  refine Ex.aload_n (pc := 6) dX10_hearer_6 rfl rfl ?_
  refine Ex.getI (pc := 7) dX10_hearer_7 fX10_51 (sh36 _) ?_
  refine Ex.iald (pc := 10) (j := bk) dX10_hearer_10 (sh44 _) (ixX h2 h1 (by decide)) (ixX2 h2 (by omega)) ?_
  rw [hch]
  refine Ex.iconst (pc := 11) (v := 1) dX10_hearer_11 rfl ?_
  refine Ex.isub (pc := 12) dX10_hearer_12 ?_
  refine Ex.callS (pc := 13) (As := [.int _, .int 0, .int _]) (rest := []) dX10_hearer_13 cX10_312 tm_is rfl rfl (by decide) (Nat.le_refl _) (Nat.le_refl _) (Nat.le_of_ble_eq_true rfl) (Or.inl (fun r S' h => by obtain ⟨_, h⟩ := h; subst h; rfl)) (fun r S' hq _ _ => ?_)
  obtain ⟨rfl, rfl⟩ := hq
  refine Ex.if_ne (pc := 16) (tgt := 21) dX10_hearer_16 (by decide) (fun c16 => ?_) (fun c16 => ?_)
  · skip
    rw [isB_in (by omega)] at c16
    have hin := bI_1 c16
    obtain ⟨j, hj, rfl⟩ := inR_of hin (by omega)
    refine Ex.bipush (pc := 21) (v := 6) dX10_hearer_21 rfl ?_
    refine Ex.aload_n (pc := 23) dX10_hearer_23 rfl rfl ?_
    refine Ex.getI (pc := 24) dX10_hearer_24 fX10_51 (sh36 _) ?_
    refine Ex.imul (pc := 27) dX10_hearer_27 ?_
    refine Ex.iload_n (pc := 28) dX10_hearer_28 rfl rfl ?_
    refine Ex.iadd (pc := 29) dX10_hearer_29 ?_
    refine Ex.istore_n (pc := 30) (ls' := [some (.ref 36), some (.int _), some (.int _), some (.int _)]) dX10_hearer_30 rfl (by decide) rfl rfl ?_
    refine Ex.iload_n (pc := 31) dX10_hearer_31 rfl rfl ?_
    refine Ex.if_ne (pc := 32) (tgt := 44) dX10_hearer_32 (by decide) (fun c32 => ?_) (fun c32 => ?_)
    · skip
      refine Ex.iload_n (pc := 44) dX10_hearer_44 rfl rfl ?_
      refine Ex.iconst (pc := 45) (v := 1) dX10_hearer_45 rfl ?_
      refine Ex.icmp_ne (pc := 46) (tgt := 58) dX10_hearer_46 (by decide) (fun c46 => ?_) (fun c46 => ?_)
      · skip
        refine Ex.iload_n (pc := 58) dX10_hearer_58 rfl rfl ?_
        refine Ex.iconst (pc := 59) (v := 2) dX10_hearer_59 rfl ?_
        refine Ex.icmp_ne (pc := 60) (tgt := 84) dX10_hearer_60 (by decide) (fun c60 => ?_) (fun c60 => ?_)
        · skip
          refine Ex.iconst (pc := 84) (v := (-1)) dX10_hearer_84 rfl ?_
          refine Ex.iret (pc := 85) rfl rfl rfl dX10_hearer_85 (Nat.le_refl _) (Nat.le_refl _) ?_
          refine ⟨?_, rfl⟩
          rw [hin, if_neg (show ¬ true = false by decide), nI_clamp (by omega)]
          have e0 := (hf3 j hj).1
          have e1 := (hf3 j hj).2
          simp [*]
        · skip
          refine Ex.aload_n (pc := 63) dX10_hearer_63 rfl rfl ?_
          refine Ex.getR (pc := 64) dX10_hearer_64 fX10_165 (sh36 _) r36_50 ?_
          refine Ex.iconst (pc := 67) (v := 0) dX10_hearer_67 rfl ?_
          refine Ex.iald (pc := 68) (j := 0) dX10_hearer_68 (sh67 _) (by unfold vp_in; decide) (by decide) ?_
          refine Ex.iload_n (pc := 69) dX10_hearer_69 rfl rfl ?_
          refine Ex.callS (pc := 70) (As := [.int _, .int _]) (rest := []) dX10_hearer_70 cX10_445 tm_has2 rfl rfl (by decide) (Nat.le_refl _) (Nat.le_refl _) (Nat.le_of_ble_eq_true rfl) (Or.inl (fun r S' h => by obtain ⟨_, h⟩ := h; subst h; rfl)) (fun r S' hq _ _ => ?_)
          obtain ⟨rfl, rfl⟩ := hq
          refine Ex.if_eq (pc := 73) (tgt := 80) dX10_hearer_73 (by decide) (fun c73 => ?_) (fun c73 => ?_)
          · skip
            refine Ex.iconst (pc := 80) (v := 0) dX10_hearer_80 rfl ?_
            refine Ex.goto (pc := 81) (tgt := 85) dX10_hearer_81 (by decide) ?_
            refine Ex.iret (pc := 85) rfl rfl rfl dX10_hearer_85 (Nat.le_refl _) (Nat.le_refl _) ?_
            refine ⟨?_, rfl⟩
            rw [hin, if_neg (show ¬ true = false by decide), nI_clamp (by omega)]
            rw [if_neg c32, if_neg c46, if_pos c60]
            rw [x3] at c73
            have hz := hbv (x.2.2.1 >>> (nI j &&& 31))
            have q := of_decide_eq_false (bI_0 c73)
            rcases hz with e | e
            · rw [e]
            · exact absurd e q
          · skip
            refine Ex.iconst (pc := 76) (v := 1) dX10_hearer_76 rfl ?_
            refine Ex.goto (pc := 77) (tgt := 85) dX10_hearer_77 (by decide) ?_
            refine Ex.iret (pc := 85) rfl rfl rfl dX10_hearer_85 (Nat.le_refl _) (Nat.le_refl _) ?_
            refine ⟨?_, rfl⟩
            rw [hin, if_neg (show ¬ true = false by decide), nI_clamp (by omega)]
            rw [if_neg c32, if_neg c46, if_pos c60]
            rw [x3] at c73
            have hz := hbv (x.2.2.1 >>> (nI j &&& 31))
            have q := of_decide_eq_true (bI_1 c73)
            rw [q]
      · skip
        refine Ex.aload_n (pc := 49) dX10_hearer_49 rfl rfl ?_
        refine Ex.getR (pc := 50) dX10_hearer_50 fX10_78 (sh36 _) r36_22 ?_
        refine Ex.iload_n (pc := 53) dX10_hearer_53 rfl rfl ?_
        refine Ex.iald (pc := 54) (j := 6 * bk + j) dX10_hearer_54 (sh46 _) (by rw [h2, show (6 : Int32) * nI bk = nI (6 * bk) from pk_mul 6 bk, nI_add]; exact vp_in_nI (by omega) (by decide)) (by rw [h2, show (6 : Int32) * nI bk = nI (6 * bk) from pk_mul 6 bk, nI_add]; exact nI_clamp (by omega)) ?_
        refine Ex.goto (pc := 55) (tgt := 85) dX10_hearer_55 (by decide) ?_
        refine Ex.iret (pc := 85) rfl rfl rfl dX10_hearer_85 (Nat.le_refl _) (Nat.le_refl _) ?_
        refine ⟨?_, rfl⟩
        rw [hin, if_neg (show ¬ true = false by decide), nI_clamp (by omega)]
        have e0 := (hf3 j hj).1
        have e1 := (hf3 j hj).2
        simp [*]
    · skip
      refine Ex.aload_n (pc := 35) dX10_hearer_35 rfl rfl ?_
      refine Ex.getR (pc := 36) dX10_hearer_36 fX10_75 (sh36 _) r36_21 ?_
      refine Ex.iload_n (pc := 39) dX10_hearer_39 rfl rfl ?_
      refine Ex.iald (pc := 40) (j := 6 * bk + j) dX10_hearer_40 (sh45 _) (by rw [h2, show (6 : Int32) * nI bk = nI (6 * bk) from pk_mul 6 bk, nI_add]; exact vp_in_nI (by omega) (by decide)) (by rw [h2, show (6 : Int32) * nI bk = nI (6 * bk) from pk_mul 6 bk, nI_add]; exact nI_clamp (by omega)) ?_
      refine Ex.goto (pc := 41) (tgt := 85) dX10_hearer_41 (by decide) ?_
      refine Ex.iret (pc := 85) rfl rfl rfl dX10_hearer_85 (Nat.le_refl _) (Nat.le_refl _) ?_
      refine ⟨?_, rfl⟩
      rw [hin, if_neg (show ¬ true = false by decide), nI_clamp (by omega)]
      have e0 := (hf3 j hj).1
      have e1 := (hf3 j hj).2
      simp [*]
  · skip
    refine Ex.iconst (pc := 19) (v := (-1)) dX10_hearer_19 rfl ?_
    refine Ex.iret (pc := 20) rfl rfl rfl dX10_hearer_20 (Nat.le_refl _) (Nat.le_refl _) ?_
    rw [isB_in (by omega)] at c16
    exact ⟨by rw [bI_0 c16]; rfl, rfl⟩
def bkF : Nat → Int32 → Int32 → Option Int32
  | 0, l, n => if l = 0 then some n else none
  | f + 1, l, n => if l = 0 then some n else bkF f (l &&& (l - 1)) (n + 1)
theorem bits64 : ∀ k : Fin 64, bkF 6 (nI k.val) 0 = some (bitC (nI k.val)) := by decide +kernel
theorem lo6_of {x : Int32} (h : lo6 x) : ∃ k, k < 64 ∧ x = nI k := by
  refine ⟨x.toBitVec.toNat, ?_, ?_⟩
  · apply Nat.lt_of_not_le
    intro q
    have h2 := x.toBitVec.isLt
    obtain ⟨i, hi, hb⟩ : ∃ i, 6 ≤ i ∧ x.toBitVec.toNat.testBit i = true := by
      obtain ⟨i, hi, hb⟩ := Nat.exists_ge_and_testBit_of_ge_two_pow (n := 6) q
      exact ⟨i, hi, hb⟩
    have h32 : i < 32 := by
      apply Nat.lt_of_not_le
      intro q2
      have : x.toBitVec.toNat.testBit i = false := Nat.testBit_lt_two_pow (Nat.lt_of_lt_of_le h2 (Nat.pow_le_pow_right (by decide) q2))
      rw [this] at hb
      cases hb
    have := h i hi h32
    rw [BitVec.getLsbD] at this
    rw [this] at hb
    cases hb
  · apply Int32.toBitVec_inj.mp
    apply BitVec.eq_of_toNat_eq
    rw [pk_tn (by have := x.toBitVec.isLt; omega)]
theorem bk_ex {S : aS} {s0 : Int32} : ∀ f l n r, bkF f l n = some r → Ex 0 0 0 mX10_bits 0 0 4 [some (.int s0), some (.int n), some (.int l)] [] S (RI r S) := by
  intro f
  induction f with
  | zero =>
    intro l n r h
    simp only [bkF] at h
    by_cases hl : l = 0
    · rw [if_pos hl] at h
      cases h
      refine Ex.iload_n (pc := 4) dX10_bits_4 rfl rfl ?_
      refine Ex.if_eq (pc := 5) (tgt := 20) dX10_bits_5 (by decide) (fun _ => ?_) (fun c5 => absurd hl c5)
      refine Ex.iload_n (pc := 20) dX10_bits_20 rfl rfl ?_
      refine Ex.iret (pc := 21) rfl rfl rfl dX10_bits_21 (Nat.le_refl _) (Nat.le_refl _) ?_
      exact ⟨rfl, rfl⟩
    · rw [if_neg hl] at h; cases h
  | succ f ih =>
    intro l n r h
    simp only [bkF] at h
    by_cases hl : l = 0
    · rw [if_pos hl] at h
      cases h
      refine Ex.iload_n (pc := 4) dX10_bits_4 rfl rfl ?_
      refine Ex.if_eq (pc := 5) (tgt := 20) dX10_bits_5 (by decide) (fun _ => ?_) (fun c5 => absurd hl c5)
      refine Ex.iload_n (pc := 20) dX10_bits_20 rfl rfl ?_
      refine Ex.iret (pc := 21) rfl rfl rfl dX10_bits_21 (Nat.le_refl _) (Nat.le_refl _) ?_
      exact ⟨rfl, rfl⟩
    · rw [if_neg hl] at h
      refine Ex.iload_n (pc := 4) dX10_bits_4 rfl rfl ?_
      refine Ex.if_eq (pc := 5) (tgt := 20) dX10_bits_5 (by decide) (fun c5 => absurd c5 hl) (fun _ => ?_)
      refine Ex.iinc (pc := 8) (ls' := [some (.int _), some (.int _), some (.int _)]) dX10_bits_8 rfl rfl (by decide) rfl rfl ?_
      refine Ex.iload_n (pc := 11) dX10_bits_11 rfl rfl ?_
      refine Ex.iload_n (pc := 12) dX10_bits_12 rfl rfl ?_
      refine Ex.iconst (pc := 13) (v := 1) dX10_bits_13 rfl ?_
      refine Ex.isub (pc := 14) dX10_bits_14 ?_
      refine Ex.iand (pc := 15) dX10_bits_15 ?_
      refine Ex.istore_n (pc := 16) (ls' := [some (.int _), some (.int _), some (.int _)]) dX10_bits_16 rfl (by decide) rfl rfl ?_
      refine Ex.goto (pc := 17) (tgt := 4) dX10_bits_17 (by decide) ?_
      exact ih _ _ _ h
set_option maxRecDepth 20000 in
theorem tm_bits {S : aS} {x : Int32} (hx : lo6 x) : Run 0 0 0 mX10_bits [.int x] S (RI (bitC x) S) := by
  refine Run.of (ls := [some (.int _), none, none]) (by decide) (Nat.le_of_ble_eq_true rfl) rfl ?_
  obtain ⟨k, hk, rfl⟩ := lo6_of hx
  refine Ex.iconst (pc := 0) (v := 0) dX10_bits_0 rfl ?_
  refine Ex.istore_n (pc := 1) (ls' := [some (.int _), some (.int 0), none]) dX10_bits_1 rfl (by decide) rfl rfl ?_
  refine Ex.iload_n (pc := 2) dX10_bits_2 rfl rfl ?_
  refine Ex.istore_n (pc := 3) (ls' := [some (.int _), some (.int 0), some (.int _)]) dX10_bits_3 rfl (by decide) rfl rfl ?_
  exact bk_ex 6 _ _ _ (bits64 ⟨k, hk⟩)
set_option maxRecDepth 20000 in
theorem tm_has {N : Nat} {I : aI} {L : aL} {p : aP} {bk nb ns nh : Nat} {f5 f6 : Nat → Int32} {x : aX} {rs : List aRow} (hR : RS I bk nb ns nh p f5 f6 x rs) {w : Int32} : Run 1 0 0 mX10_has [.ref 36, .int w] (St N I L) (RI (if w = 0 then nI nb else if w = 1 then nI ns else if w = 2 then nI nh else if w = 3 then x.1 else if w = 4 then x.2.1 else if w = 5 then nI (cntPos x.2.2.2.2 6) else if w = 6 then nI (cntZ x.2.2.2.1 nb) else if w = 7 then bitC x.2.2.1 else if w = 8 then nI rs.length else if w = 9 then I 36 62 else if w = 10 then I 36 54 else if w = 11 then (L 36 55).toInt32 else -1) (St N I L)) := by
  refine Run.of (ls := [some (.ref 36), some (.int _), none, none]) (by decide) (Nat.le_of_ble_eq_true rfl) rfl ?_
  obtain ⟨hP, hX, hK, hG, hrb⟩ := id hR
  obtain ⟨⟨h1, h2, hnb, hns, hnh, hcb, hcs, hch⟩, -⟩ := id hP
  obtain ⟨x1, x2, x3, x4, x5⟩ := id hX
  have hcz : cntPos x.2.2.2.2 6 = cntPos x.2.2.2.2 ns := by
    obtain ⟨d, hd⟩ : ∃ d, 6 = ns + d := ⟨6 - ns, by omega⟩
    rw [hd]; exact cntPos_z hG.2.2.1 d
  have k110 : Ex 1 0 0 mX10_has 0 0 110 [some (.ref 36), some (.int w), some (.int 0), some (.int 0)] [] (St N I L) (RI (nI (cntPos x.2.2.2.2 ns)) (St N I L)) := by
    refine forUp (σ := Unit) (P := fun k _ => Ex 1 0 0 mX10_has 0 0 110 [some (.ref 36), some (.int w), some (.int (nI (cntPos x.2.2.2.2 k))), some (.int (nI k))] [] (St N I L) _) (Inv := fun _ _ => True) ns ?_ ?_ 0 () (Nat.zero_le _) trivial
    · rintro - -
      refine Ex.iload_n (pc := 110) dX10_has_110 rfl rfl ?_
      refine Ex.aload_n (pc := 111) dX10_has_111 rfl rfl ?_
      refine Ex.getR (pc := 112) dX10_has_112 fX10_63 (sh36 _) r36_17 ?_
      refine Ex.aload_n (pc := 115) dX10_has_115 rfl rfl ?_
      refine Ex.getI (pc := 116) dX10_has_116 fX10_51 (sh36 _) ?_
      refine Ex.iald (pc := 119) (j := bk) dX10_has_119 (sh41 _) (ixX h2 h1 (by decide)) (ixX2 h2 (by omega)) ?_
      rw [hcs]
      refine Ex.icmp_ge (pc := 120) (tgt := 146) dX10_has_120 (by decide) (fun _ => ?_) (fun c120 => absurd (nI_le (Nat.le_refl _) (by omega)) c120)
      refine Ex.iload_n (pc := 146) dX10_has_146 rfl rfl ?_
      refine Ex.iret (pc := 147) rfl rfl rfl dX10_has_147 (Nat.le_refl _) (Nat.le_refl _) ?_
      exact ⟨rfl, rfl⟩
    · rintro k - hk - ih
      have e5 := x5 k hk
      rw [show 6 * 0 + k = k by omega] at e5
      refine Ex.iload_n (pc := 110) dX10_has_110 rfl rfl ?_
      refine Ex.aload_n (pc := 111) dX10_has_111 rfl rfl ?_
      refine Ex.getR (pc := 112) dX10_has_112 fX10_63 (sh36 _) r36_17 ?_
      refine Ex.aload_n (pc := 115) dX10_has_115 rfl rfl ?_
      refine Ex.getI (pc := 116) dX10_has_116 fX10_51 (sh36 _) ?_
      refine Ex.iald (pc := 119) (j := bk) dX10_has_119 (sh41 _) (ixX h2 h1 (by decide)) (ixX2 h2 (by omega)) ?_
      rw [hcs]
      refine Ex.icmp_ge (pc := 120) (tgt := 146) dX10_has_120 (by decide) (fun c120 => absurd c120 (nI_ge hk (by omega))) (fun _ => ?_)
      refine Ex.iload_n (pc := 123) dX10_has_123 rfl rfl ?_
      refine Ex.aload_n (pc := 124) dX10_has_124 rfl rfl ?_
      refine Ex.getR (pc := 125) dX10_has_125 fX10_162 (sh36 _) r36_49 ?_
      refine Ex.iload_n (pc := 128) dX10_has_128 rfl rfl ?_
      refine Ex.iald (pc := 129) (j := k) dX10_has_129 (sh66 _) (vp_in_nI (by omega) (by decide)) (ixN2 (by omega)) ?_
      refine Ex.if_le (pc := 130) (tgt := 137) dX10_has_130 (by decide) (fun c130 => ?_) (fun c130 => ?_)
      · skip
        refine Ex.iconst (pc := 137) (v := 0) dX10_has_137 rfl ?_
        refine Ex.iadd (pc := 138) dX10_has_138 ?_
        refine Ex.istore_n (pc := 139) (ls' := [some (.ref 36), some (.int _), some (.int _), some (.int _)]) dX10_has_139 rfl (by decide) rfl rfl ?_
        refine Ex.iinc (pc := 140) (ls' := [some (.ref 36), some (.int _), some (.int _), some (.int _)]) dX10_has_140 rfl rfl (by decide) rfl rfl ?_
        refine Ex.goto (pc := 143) (tgt := 110) dX10_has_143 (by decide) ?_
        rw [e5] at c130
        rw [show nI k + Int32.ofInt 1 = nI (k + 1) from nI_1 k]
        have e : nI (cntPos x.2.2.2.2 k) + 0 = nI (cntPos x.2.2.2.2 (k + 1)) := by
          rw [show cntPos x.2.2.2.2 (k + 1) = cntPos x.2.2.2.2 k + 0 from by simp [cntPos, c130]]
          first | exact nI_1 _ | (rw [Nat.add_zero]; exact Int32.add_zero _)
        rw [e]
        exact ih () trivial
      · skip
        refine Ex.iconst (pc := 133) (v := 1) dX10_has_133 rfl ?_
        refine Ex.goto (pc := 134) (tgt := 138) dX10_has_134 (by decide) ?_
        refine Ex.iadd (pc := 138) dX10_has_138 ?_
        refine Ex.istore_n (pc := 139) (ls' := [some (.ref 36), some (.int _), some (.int _), some (.int _)]) dX10_has_139 rfl (by decide) rfl rfl ?_
        refine Ex.iinc (pc := 140) (ls' := [some (.ref 36), some (.int _), some (.int _), some (.int _)]) dX10_has_140 rfl rfl (by decide) rfl rfl ?_
        refine Ex.goto (pc := 143) (tgt := 110) dX10_has_143 (by decide) ?_
        rw [e5] at c130
        rw [show nI k + Int32.ofInt 1 = nI (k + 1) from nI_1 k]
        have e : nI (cntPos x.2.2.2.2 k) + 1 = nI (cntPos x.2.2.2.2 (k + 1)) := by
          rw [show cntPos x.2.2.2.2 (k + 1) = cntPos x.2.2.2.2 k + 1 from by simp [cntPos, c130]]
          first | exact nI_1 _ | (rw [Nat.add_zero]; exact Int32.add_zero _)
        rw [e]
        exact ih () trivial
  have k150 : Ex 1 0 0 mX10_has 0 0 150 [some (.ref 36), some (.int w), some (.int 0), some (.int 0)] [] (St N I L) (RI (nI (cntZ x.2.2.2.1 nb)) (St N I L)) := by
    refine forUp (σ := Unit) (P := fun k _ => Ex 1 0 0 mX10_has 0 0 150 [some (.ref 36), some (.int w), some (.int (nI (cntZ x.2.2.2.1 k))), some (.int (nI k))] [] (St N I L) _) (Inv := fun _ _ => True) nb ?_ ?_ 0 () (Nat.zero_le _) trivial
    · rintro - -
      refine Ex.iload_n (pc := 150) dX10_has_150 rfl rfl ?_
      refine Ex.aload_n (pc := 151) dX10_has_151 rfl rfl ?_
      refine Ex.getR (pc := 152) dX10_has_152 fX10_54 (sh36 _) r36_14 ?_
      refine Ex.aload_n (pc := 155) dX10_has_155 rfl rfl ?_
      refine Ex.getI (pc := 156) dX10_has_156 fX10_51 (sh36 _) ?_
      refine Ex.iald (pc := 159) (j := bk) dX10_has_159 (sh38 _) (ixX h2 h1 (by decide)) (ixX2 h2 (by omega)) ?_
      rw [hcb]
      refine Ex.icmp_ge (pc := 160) (tgt := 186) dX10_has_160 (by decide) (fun _ => ?_) (fun c160 => absurd (nI_le (Nat.le_refl _) (by omega)) c160)
      refine Ex.iload_n (pc := 186) dX10_has_186 rfl rfl ?_
      refine Ex.iret (pc := 187) rfl rfl rfl dX10_has_187 (Nat.le_refl _) (Nat.le_refl _) ?_
      exact ⟨rfl, rfl⟩
    · rintro k - hk - ih
      have e5 := x4 k hk
      rw [show 5 * 0 + k = k by omega] at e5
      refine Ex.iload_n (pc := 150) dX10_has_150 rfl rfl ?_
      refine Ex.aload_n (pc := 151) dX10_has_151 rfl rfl ?_
      refine Ex.getR (pc := 152) dX10_has_152 fX10_54 (sh36 _) r36_14 ?_
      refine Ex.aload_n (pc := 155) dX10_has_155 rfl rfl ?_
      refine Ex.getI (pc := 156) dX10_has_156 fX10_51 (sh36 _) ?_
      refine Ex.iald (pc := 159) (j := bk) dX10_has_159 (sh38 _) (ixX h2 h1 (by decide)) (ixX2 h2 (by omega)) ?_
      rw [hcb]
      refine Ex.icmp_ge (pc := 160) (tgt := 186) dX10_has_160 (by decide) (fun c160 => absurd c160 (nI_ge hk (by omega))) (fun _ => ?_)
      refine Ex.iload_n (pc := 163) dX10_has_163 rfl rfl ?_
      refine Ex.aload_n (pc := 164) dX10_has_164 rfl rfl ?_
      refine Ex.getR (pc := 165) dX10_has_165 fX10_159 (sh36 _) r36_48 ?_
      refine Ex.iload_n (pc := 168) dX10_has_168 rfl rfl ?_
      refine Ex.iald (pc := 169) (j := k) dX10_has_169 (sh65 _) (vp_in_nI (by omega) (by decide)) (ixN2 (by omega)) ?_
      refine Ex.if_ne (pc := 170) (tgt := 177) dX10_has_170 (by decide) (fun c170 => ?_) (fun c170 => ?_)
      · skip
        refine Ex.iconst (pc := 177) (v := 0) dX10_has_177 rfl ?_
        refine Ex.iadd (pc := 178) dX10_has_178 ?_
        refine Ex.istore_n (pc := 179) (ls' := [some (.ref 36), some (.int _), some (.int _), some (.int _)]) dX10_has_179 rfl (by decide) rfl rfl ?_
        refine Ex.iinc (pc := 180) (ls' := [some (.ref 36), some (.int _), some (.int _), some (.int _)]) dX10_has_180 rfl rfl (by decide) rfl rfl ?_
        refine Ex.goto (pc := 183) (tgt := 150) dX10_has_183 (by decide) ?_
        rw [e5] at c170
        rw [show nI k + Int32.ofInt 1 = nI (k + 1) from nI_1 k]
        have e : nI (cntZ x.2.2.2.1 k) + 0 = nI (cntZ x.2.2.2.1 (k + 1)) := by
          rw [show cntZ x.2.2.2.1 (k + 1) = cntZ x.2.2.2.1 k + 0 from by simp [cntZ, c170]]
          first | exact nI_1 _ | (rw [Nat.add_zero]; exact Int32.add_zero _)
        rw [e]
        exact ih () trivial
      · skip
        refine Ex.iconst (pc := 173) (v := 1) dX10_has_173 rfl ?_
        refine Ex.goto (pc := 174) (tgt := 178) dX10_has_174 (by decide) ?_
        refine Ex.iadd (pc := 178) dX10_has_178 ?_
        refine Ex.istore_n (pc := 179) (ls' := [some (.ref 36), some (.int _), some (.int _), some (.int _)]) dX10_has_179 rfl (by decide) rfl rfl ?_
        refine Ex.iinc (pc := 180) (ls' := [some (.ref 36), some (.int _), some (.int _), some (.int _)]) dX10_has_180 rfl rfl (by decide) rfl rfl ?_
        refine Ex.goto (pc := 183) (tgt := 150) dX10_has_183 (by decide) ?_
        rw [e5] at c170
        rw [show nI k + Int32.ofInt 1 = nI (k + 1) from nI_1 k]
        have e : nI (cntZ x.2.2.2.1 k) + 1 = nI (cntZ x.2.2.2.1 (k + 1)) := by
          rw [show cntZ x.2.2.2.1 (k + 1) = cntZ x.2.2.2.1 k + 1 from by simp [cntZ, c170]]
          first | exact nI_1 _ | (rw [Nat.add_zero]; exact Int32.add_zero _)
        rw [e]
        exact ih () trivial
  refine Ex.iconst (pc := 0) (v := 0) dX10_has_0 rfl ?_
  refine Ex.istore_n (pc := 1) (ls' := [some (.ref 36), some (.int _), some (.int 0), none]) dX10_has_1 rfl (by decide) rfl rfl ?_
  refine Ex.iload_n (pc := 2) dX10_has_2 rfl rfl ?_
  by_cases c3_0 : w = 0
  · refine Ex.tableIn (pc := 3) (tgt := 64) (off := 61) dX10_has_3 (by rw [c3_0]; decide) (by rw [c3_0]; decide) (by rw [c3_0]; decide) (by decide) ?_
    refine Ex.aload_n (pc := 64) dX10_has_64 rfl rfl ?_
    refine Ex.getR (pc := 65) dX10_has_65 fX10_54 (sh36 _) r36_14 ?_
    refine Ex.aload_n (pc := 68) dX10_has_68 rfl rfl ?_
    refine Ex.getI (pc := 69) dX10_has_69 fX10_51 (sh36 _) ?_
    refine Ex.iald (pc := 72) (j := bk) dX10_has_72 (sh38 _) (ixX h2 h1 (by decide)) (ixX2 h2 (by omega)) ?_
    refine Ex.iret (pc := 73) rfl rfl rfl dX10_has_73 (Nat.le_refl _) (Nat.le_refl _) ?_
    refine ⟨?_, rfl⟩
    have hk8 := hK.1
    simp [*]
  by_cases c3_1 : w = 1
  · refine Ex.tableIn (pc := 3) (tgt := 74) (off := 71) dX10_has_3 (by rw [c3_1]; decide) (by rw [c3_1]; decide) (by rw [c3_1]; decide) (by decide) ?_
    refine Ex.aload_n (pc := 74) dX10_has_74 rfl rfl ?_
    refine Ex.getR (pc := 75) dX10_has_75 fX10_63 (sh36 _) r36_17 ?_
    refine Ex.aload_n (pc := 78) dX10_has_78 rfl rfl ?_
    refine Ex.getI (pc := 79) dX10_has_79 fX10_51 (sh36 _) ?_
    refine Ex.iald (pc := 82) (j := bk) dX10_has_82 (sh41 _) (ixX h2 h1 (by decide)) (ixX2 h2 (by omega)) ?_
    refine Ex.iret (pc := 83) rfl rfl rfl dX10_has_83 (Nat.le_refl _) (Nat.le_refl _) ?_
    refine ⟨?_, rfl⟩
    have hk8 := hK.1
    simp [*]
  by_cases c3_2 : w = 2
  · refine Ex.tableIn (pc := 3) (tgt := 84) (off := 81) dX10_has_3 (by rw [c3_2]; decide) (by rw [c3_2]; decide) (by rw [c3_2]; decide) (by decide) ?_
    refine Ex.aload_n (pc := 84) dX10_has_84 rfl rfl ?_
    refine Ex.getR (pc := 85) dX10_has_85 fX10_72 (sh36 _) r36_20 ?_
    refine Ex.aload_n (pc := 88) dX10_has_88 rfl rfl ?_
    refine Ex.getI (pc := 89) dX10_has_89 fX10_51 (sh36 _) ?_
    refine Ex.iald (pc := 92) (j := bk) dX10_has_92 (sh44 _) (ixX h2 h1 (by decide)) (ixX2 h2 (by omega)) ?_
    refine Ex.iret (pc := 93) rfl rfl rfl dX10_has_93 (Nat.le_refl _) (Nat.le_refl _) ?_
    refine ⟨?_, rfl⟩
    have hk8 := hK.1
    simp [*]
  by_cases c3_3 : w = 3
  · refine Ex.tableIn (pc := 3) (tgt := 94) (off := 91) dX10_has_3 (by rw [c3_3]; decide) (by rw [c3_3]; decide) (by rw [c3_3]; decide) (by decide) ?_
    refine Ex.aload_n (pc := 94) dX10_has_94 rfl rfl ?_
    refine Ex.getR (pc := 95) dX10_has_95 fX10_153 (sh36 _) r36_46 ?_
    refine Ex.iconst (pc := 98) (v := 0) dX10_has_98 rfl ?_
    refine Ex.iald (pc := 99) (j := 0) dX10_has_99 (sh63 _) (by unfold vp_in; decide) (by decide) ?_
    refine Ex.iret (pc := 100) rfl rfl rfl dX10_has_100 (Nat.le_refl _) (Nat.le_refl _) ?_
    refine ⟨?_, rfl⟩
    have hk8 := hK.1
    simp [*]
  by_cases c3_4 : w = 4
  · refine Ex.tableIn (pc := 3) (tgt := 101) (off := 98) dX10_has_3 (by rw [c3_4]; decide) (by rw [c3_4]; decide) (by rw [c3_4]; decide) (by decide) ?_
    refine Ex.aload_n (pc := 101) dX10_has_101 rfl rfl ?_
    refine Ex.getR (pc := 102) dX10_has_102 fX10_156 (sh36 _) r36_47 ?_
    refine Ex.iconst (pc := 105) (v := 0) dX10_has_105 rfl ?_
    refine Ex.iald (pc := 106) (j := 0) dX10_has_106 (sh64 _) (by unfold vp_in; decide) (by decide) ?_
    refine Ex.iret (pc := 107) rfl rfl rfl dX10_has_107 (Nat.le_refl _) (Nat.le_refl _) ?_
    refine ⟨?_, rfl⟩
    have hk8 := hK.1
    simp [*]
  by_cases c3_5 : w = 5
  · refine Ex.tableIn (pc := 3) (tgt := 108) (off := 105) dX10_has_3 (by rw [c3_5]; decide) (by rw [c3_5]; decide) (by rw [c3_5]; decide) (by decide) ?_
    refine Ex.iconst (pc := 108) (v := 0) dX10_has_108 rfl ?_
    refine Ex.istore_n (pc := 109) (ls' := [some (.ref 36), some (.int _), some (.int 0), some (.int 0)]) dX10_has_109 rfl (by decide) rfl rfl ?_
    rw [show (if w = 0 then nI nb else if w = 1 then nI ns else if w = 2 then nI nh else if w = 3 then x.1 else if w = 4 then x.2.1 else if w = 5 then nI (cntPos x.2.2.2.2 6) else if w = 6 then nI (cntZ x.2.2.2.1 nb) else if w = 7 then bitC x.2.2.1 else if w = 8 then nI rs.length else if w = 9 then I 36 62 else if w = 10 then I 36 54 else if w = 11 then (L 36 55).toInt32 else -1) = nI (cntPos x.2.2.2.2 ns) from by rw [← hcz]; simp [*]]
    exact k110
  by_cases c3_6 : w = 6
  · refine Ex.tableIn (pc := 3) (tgt := 148) (off := 145) dX10_has_3 (by rw [c3_6]; decide) (by rw [c3_6]; decide) (by rw [c3_6]; decide) (by decide) ?_
    refine Ex.iconst (pc := 148) (v := 0) dX10_has_148 rfl ?_
    refine Ex.istore_n (pc := 149) (ls' := [some (.ref 36), some (.int _), some (.int 0), some (.int 0)]) dX10_has_149 rfl (by decide) rfl rfl ?_
    rw [show (if w = 0 then nI nb else if w = 1 then nI ns else if w = 2 then nI nh else if w = 3 then x.1 else if w = 4 then x.2.1 else if w = 5 then nI (cntPos x.2.2.2.2 6) else if w = 6 then nI (cntZ x.2.2.2.1 nb) else if w = 7 then bitC x.2.2.1 else if w = 8 then nI rs.length else if w = 9 then I 36 62 else if w = 10 then I 36 54 else if w = 11 then (L 36 55).toInt32 else -1) = nI (cntZ x.2.2.2.1 nb) from by simp [*]]
    exact k150
  by_cases c3_7 : w = 7
  · refine Ex.tableIn (pc := 3) (tgt := 188) (off := 185) dX10_has_3 (by rw [c3_7]; decide) (by rw [c3_7]; decide) (by rw [c3_7]; decide) (by decide) ?_
    refine Ex.aload_n (pc := 188) dX10_has_188 rfl rfl ?_
    refine Ex.getR (pc := 189) dX10_has_189 fX10_165 (sh36 _) r36_50 ?_
    refine Ex.iconst (pc := 192) (v := 0) dX10_has_192 rfl ?_
    refine Ex.iald (pc := 193) (j := 0) dX10_has_193 (sh67 _) (by unfold vp_in; decide) (by decide) ?_
    refine Ex.callS (pc := 194) (As := [.int _]) (rest := []) dX10_has_194 cX10_465 (tm_bits (by rw [x3]; exact hG.2.2.2.2.2)) rfl rfl (by decide) (Nat.le_refl _) (Nat.le_refl _) (Nat.le_of_ble_eq_true rfl) (Or.inl (fun r S' h => by obtain ⟨_, h⟩ := h; subst h; rfl)) (fun r S' hq _ _ => ?_)
    obtain ⟨rfl, rfl⟩ := hq
    refine Ex.iret (pc := 197) rfl rfl rfl dX10_has_197 (Nat.le_refl _) (Nat.le_refl _) ?_
    refine ⟨?_, rfl⟩
    have hk8 := hK.1
    simp [*]
  by_cases c3_8 : w = 8
  · refine Ex.tableIn (pc := 3) (tgt := 198) (off := 195) dX10_has_3 (by rw [c3_8]; decide) (by rw [c3_8]; decide) (by rw [c3_8]; decide) (by decide) ?_
    refine Ex.aload_n (pc := 198) dX10_has_198 rfl rfl ?_
    refine Ex.getR (pc := 199) dX10_has_199 fX10_168 (sh36 _) r36_51 ?_
    refine Ex.iconst (pc := 202) (v := 0) dX10_has_202 rfl ?_
    refine Ex.iald (pc := 203) (j := 0) dX10_has_203 (sh68 _) (by unfold vp_in; decide) (by decide) ?_
    refine Ex.iret (pc := 204) rfl rfl rfl dX10_has_204 (Nat.le_refl _) (Nat.le_refl _) ?_
    refine ⟨?_, rfl⟩
    have hk8 := hK.1
    simp [*]
  by_cases c3_9 : w = 9
  · refine Ex.tableIn (pc := 3) (tgt := 205) (off := 202) dX10_has_3 (by rw [c3_9]; decide) (by rw [c3_9]; decide) (by rw [c3_9]; decide) (by decide) ?_
    refine Ex.aload_n (pc := 205) dX10_has_205 rfl rfl ?_
    refine Ex.getI (pc := 206) dX10_has_206 fX10_201 (sh36 _) ?_
    refine Ex.iret (pc := 209) rfl rfl rfl dX10_has_209 (Nat.le_refl _) (Nat.le_refl _) ?_
    refine ⟨?_, rfl⟩
    have hk8 := hK.1
    simp [*]
  by_cases c3_10 : w = 10
  · refine Ex.tableIn (pc := 3) (tgt := 210) (off := 207) dX10_has_3 (by rw [c3_10]; decide) (by rw [c3_10]; decide) (by rw [c3_10]; decide) (by decide) ?_
    refine Ex.aload_n (pc := 210) dX10_has_210 rfl rfl ?_
    refine Ex.getI (pc := 211) dX10_has_211 fX10_177 (sh36 _) ?_
    refine Ex.iret (pc := 214) rfl rfl rfl dX10_has_214 (Nat.le_refl _) (Nat.le_refl _) ?_
    refine ⟨?_, rfl⟩
    have hk8 := hK.1
    simp [*]
  by_cases c3_11 : w = 11
  · refine Ex.tableIn (pc := 3) (tgt := 215) (off := 212) dX10_has_3 (by rw [c3_11]; decide) (by rw [c3_11]; decide) (by rw [c3_11]; decide) (by decide) ?_
    refine Ex.aload_n (pc := 215) dX10_has_215 rfl rfl ?_
    refine Ex.getL (pc := 216) dX10_has_216 fX10_180 (sh36 _) ?_
    refine Ex.l2i (pc := 219) dX10_has_219 ?_
    refine Ex.iret (pc := 220) rfl rfl rfl dX10_has_220 (Nat.le_refl _) (Nat.le_refl _) ?_
    refine ⟨?_, rfl⟩
    have hk8 := hK.1
    simp [*]
  refine Ex.tableOut (pc := 3) (tgt := 221) dX10_has_3 (by have h0 := toInt_ne (z := 0) c3_0 (by decide); have h1 := toInt_ne (z := 1) c3_1 (by decide); have h2 := toInt_ne (z := 2) c3_2 (by decide); have h3 := toInt_ne (z := 3) c3_3 (by decide); have h4 := toInt_ne (z := 4) c3_4 (by decide); have h5 := toInt_ne (z := 5) c3_5 (by decide); have h6 := toInt_ne (z := 6) c3_6 (by decide); have h7 := toInt_ne (z := 7) c3_7 (by decide); have h8 := toInt_ne (z := 8) c3_8 (by decide); have h9 := toInt_ne (z := 9) c3_9 (by decide); have h10 := toInt_ne (z := 10) c3_10 (by decide); have h11 := toInt_ne (z := 11) c3_11 (by decide); omega) (by decide) ?_
  refine Ex.iconst (pc := 221) (v := (-1)) dX10_has_221 rfl ?_
  refine Ex.iret (pc := 222) rfl rfl rfl dX10_has_222 (Nat.le_refl _) (Nat.le_refl _) ?_
  refine ⟨?_, rfl⟩
  have hk8 := hK.1
  simp [*]
set_option maxRecDepth 20000 in
theorem tm_kept {N : Nat} {I : aI} {L : aL} {rs : List aRow} (hK : KR I 0 rs) {w v : Int32} : Run 1 0 0 mX10_kept [.ref 36, .int w, .int v] (St N I L) (RI (if inR w rs.length = false then -1 else if v < 0 then -1 else if v ≤ 3 then I 69 (4 * w.toNatClampNeg + v.toNatClampNeg) else -1) (St N I L)) := by
  refine Run.of (ls := [some (.ref 36), some (.int _), some (.int _)]) (by decide) (Nat.le_of_ble_eq_true rfl) rfl ?_
  obtain ⟨k1, k2, k3⟩ := hK
  refine Ex.iload_n (pc := 0) dX10_kept_0 rfl rfl ?_
  refine Ex.iconst (pc := 1) (v := 0) dX10_kept_1 rfl ?_
  refine Ex.aload_n (pc := 2) dX10_kept_2 rfl rfl ?_
  refine Ex.getR (pc := 3) dX10_kept_3 fX10_168 (sh36 _) r36_51 ?_
  refine Ex.iconst (pc := 6) (v := 0) dX10_kept_6 rfl ?_
  refine Ex.iald (pc := 7) (j := 0) dX10_kept_7 (sh68 _) (by unfold vp_in; decide) (by decide) ?_
  rw [k1]
  refine Ex.iconst (pc := 8) (v := 1) dX10_kept_8 rfl ?_
  refine Ex.isub (pc := 9) dX10_kept_9 ?_
  refine Ex.callS (pc := 10) (As := [.int _, .int 0, .int _]) (rest := []) dX10_kept_10 cX10_312 tm_is rfl rfl (by decide) (Nat.le_refl _) (Nat.le_refl _) (Nat.le_of_ble_eq_true rfl) (Or.inl (fun r S' h => by obtain ⟨_, h⟩ := h; subst h; rfl)) (fun r S' hq _ _ => ?_)
  obtain ⟨rfl, rfl⟩ := hq
  refine Ex.if_eq (pc := 13) (tgt := 38) dX10_kept_13 (by decide) (fun c13 => ?_) (fun c13 => ?_)
  · skip
    refine Ex.iconst (pc := 38) (v := (-1)) dX10_kept_38 rfl ?_
    refine Ex.iret (pc := 39) rfl rfl rfl dX10_kept_39 (Nat.le_refl _) (Nat.le_refl _) ?_
    rw [isB_in (by omega)] at c13
    exact ⟨by rw [bI_0 c13]; rfl, rfl⟩
  · skip
    refine Ex.iload_n (pc := 16) dX10_kept_16 rfl rfl ?_
    refine Ex.iconst (pc := 17) (v := 0) dX10_kept_17 rfl ?_
    refine Ex.iconst (pc := 18) (v := 3) dX10_kept_18 rfl ?_
    refine Ex.callS (pc := 19) (As := [.int _, .int 0, .int 3]) (rest := []) dX10_kept_19 cX10_312 tm_is rfl rfl (by decide) (Nat.le_refl _) (Nat.le_refl _) (Nat.le_of_ble_eq_true rfl) (Or.inl (fun r S' h => by obtain ⟨_, h⟩ := h; subst h; rfl)) (fun r S' hq _ _ => ?_)
    obtain ⟨rfl, rfl⟩ := hq
    refine Ex.if_eq (pc := 22) (tgt := 38) dX10_kept_22 (by decide) (fun c22 => ?_) (fun c22 => ?_)
    · skip
      refine Ex.iconst (pc := 38) (v := (-1)) dX10_kept_38 rfl ?_
      refine Ex.iret (pc := 39) rfl rfl rfl dX10_kept_39 (Nat.le_refl _) (Nat.le_refl _) ?_
      rw [isB_in (by omega)] at c13
      have q := of_decide_eq_false (bI_0 c22)
      refine ⟨?_, rfl⟩
      rw [bI_1 c13, if_neg (show ¬ true = false by decide)]
      by_cases h : v < 0
      · rw [if_pos h]
      · rw [if_neg h, if_neg (fun z => q ⟨h, Int32.not_lt.mpr z⟩)]
    · skip
      rw [isB_in (by omega)] at c13
      have hin := bI_1 c13
      obtain ⟨j, hj, rfl⟩ := inR_of hin (by omega)
      have hv := of_decide_eq_true (bI_1 c22)
      obtain ⟨i, hi, rfl⟩ := nI_of2 (n := 3) (by decide) hv.1 (Int32.not_lt.mp hv.2)
      refine Ex.aload_n (pc := 25) dX10_kept_25 rfl rfl ?_
      refine Ex.getR (pc := 26) dX10_kept_26 fX10_171 (sh36 _) r36_52 ?_
      refine Ex.iconst (pc := 29) (v := 4) dX10_kept_29 rfl ?_
      refine Ex.iload_n (pc := 30) dX10_kept_30 rfl rfl ?_
      refine Ex.imul (pc := 31) dX10_kept_31 ?_
      refine Ex.iload_n (pc := 32) dX10_kept_32 rfl rfl ?_
      refine Ex.iadd (pc := 33) dX10_kept_33 ?_
      refine Ex.iald (pc := 34) (j := 4 * j + i) dX10_kept_34 (sh69 _) (ixE (c := 4) (a := j) (b := i) rfl rfl (by omega) (by decide)) (ixE2 (c := 4) rfl rfl (by omega)) ?_
      refine Ex.goto (pc := 35) (tgt := 39) dX10_kept_35 (by decide) ?_
      refine Ex.iret (pc := 39) rfl rfl rfl dX10_kept_39 (Nat.le_refl _) (Nat.le_refl _) ?_
      refine ⟨?_, rfl⟩
      rw [hin, if_neg (show ¬ true = false by decide), if_neg hv.1, if_pos (Int32.not_lt.mp hv.2), nI_clamp (by omega), nI_clamp (by omega)]
set_option maxRecDepth 20000 in
theorem tm_octet {N : Nat} {I : aI} {L : aL} {n : Nat} {w : Int32} (hn : I 36 68 = nI n) (h21 : n ≤ 40) : Run 1 0 0 mX10_octet [.ref 36, .int w] (St N I L) (RI (if inR w n = true then I 80 w.toNatClampNeg else -1) (St N I L)) := by
  refine Run.of (ls := [some (.ref 36), some (.int _)]) (by decide) (Nat.le_of_ble_eq_true rfl) rfl ?_
  refine Ex.iload_n (pc := 0) dX10_octet_0 rfl rfl ?_
  refine Ex.iconst (pc := 1) (v := 0) dX10_octet_1 rfl ?_
  refine Ex.aload_n (pc := 2) dX10_octet_2 rfl rfl ?_
  refine Ex.getI (pc := 3) dX10_octet_3 fX10_219 (sh36 _) ?_
  rw [hn]
  refine Ex.iconst (pc := 6) (v := 1) dX10_octet_6 rfl ?_
  refine Ex.isub (pc := 7) dX10_octet_7 ?_
  refine Ex.callS (pc := 8) (As := [.int _, .int 0, .int _]) (rest := []) dX10_octet_8 cX10_312 tm_is rfl rfl (by decide) (Nat.le_refl _) (Nat.le_refl _) (Nat.le_of_ble_eq_true rfl) (Or.inl (fun r S' h => by obtain ⟨_, h⟩ := h; subst h; rfl)) (fun r S' hq _ _ => ?_)
  obtain ⟨rfl, rfl⟩ := hq
  refine Ex.if_eq (pc := 11) (tgt := 23) dX10_octet_11 (by decide) (fun c11 => ?_) (fun c11 => ?_)
  · skip
    refine Ex.iconst (pc := 23) (v := (-1)) dX10_octet_23 rfl ?_
    refine Ex.iret (pc := 24) rfl rfl rfl dX10_octet_24 (Nat.le_refl _) (Nat.le_refl _) ?_
    rw [isB_in (by omega)] at c11
    exact ⟨by rw [bI_0 c11]; rfl, rfl⟩
  · skip
    rw [isB_in (by omega)] at c11
    have hin := bI_1 c11
    obtain ⟨j, hj, rfl⟩ := inR_of hin (by omega)
    refine Ex.aload_n (pc := 14) dX10_octet_14 rfl rfl ?_
    refine Ex.getR (pc := 15) dX10_octet_15 fX10_216 (sh36 _) r36_67 ?_
    refine Ex.iload_n (pc := 18) dX10_octet_18 rfl rfl ?_
    refine Ex.iald (pc := 19) (j := j) dX10_octet_19 (sh80 _) (vp_in_nI (by omega) (by decide)) (ixN2 (by omega)) ?_
    refine Ex.goto (pc := 20) (tgt := 24) dX10_octet_20 (by decide) ?_
    refine Ex.iret (pc := 24) rfl rfl rfl dX10_octet_24 (Nat.le_refl _) (Nat.le_refl _) ?_
    exact ⟨by rw [hin, if_pos rfl, nI_clamp (by omega)], rfl⟩
