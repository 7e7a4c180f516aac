/-! the reference's sums: its code, the operators that it holds back, its frames -/
def rkF (v : Int32) : Int32 := if v = 42 then 1 else if v = 41 then 2 else if v = 43 then 3 else if v = 38 ∨ v = 39 ∨ v = 40 then 4 else if v = 31 ∨ v = 32 then 5 else 6
def adM2 (I : aI) (b c : Nat) (k v : Int32) : aI := mf (va_up (va_up I 51 (upd (I 51) (1600 * b + c) k)) 52 (upd (I 52) (1600 * b + c) v)) 32 (nI (c + 1))
def hbM (I : aI) (m : Nat) (v : Int32) : aI := mf (va_up I 61 (upd (I 61) m v)) 43 (nI (m + 1))
def puM (I : aI) (d : Nat) (k : Int32) : aI := mf (va_up (va_up (va_up (va_up I 56 (upd (I 56) d k)) 57 (upd (I 57) d 0)) 58 (upd (I 58) d 1)) 60 (upd (I 60) d (I 36 43))) 40 (nI (d + 1))
set_option maxRecDepth 20000 in
theorem tm_rank {S : aS} {v : Int32} : Run 0 0 0 mX10_rank [.int v] S (RI (rkF v) S) := by
  refine Run.of (ls := [some (.int _)]) (by decide) (Nat.le_of_ble_eq_true rfl) rfl ?_
  refine Ex.iload_n (pc := 0) dX10_rank_0 rfl rfl ?_
  refine Ex.bipush (pc := 1) (v := 42) dX10_rank_1 rfl ?_
  refine Ex.icmp_ne (pc := 3) (tgt := 10) dX10_rank_3 (by decide) (fun c3 => ?_) (fun c3 => ?_)
  · skip
    refine Ex.iload_n (pc := 10) dX10_rank_10 rfl rfl ?_
    refine Ex.bipush (pc := 11) (v := 41) dX10_rank_11 rfl ?_
    refine Ex.icmp_ne (pc := 13) (tgt := 20) dX10_rank_13 (by decide) (fun c13 => ?_) (fun c13 => ?_)
    · skip
      refine Ex.iload_n (pc := 20) dX10_rank_20 rfl rfl ?_
      refine Ex.bipush (pc := 21) (v := 43) dX10_rank_21 rfl ?_
      refine Ex.icmp_ne (pc := 23) (tgt := 30) dX10_rank_23 (by decide) (fun c23 => ?_) (fun c23 => ?_)
      · skip
        refine Ex.iload_n (pc := 30) dX10_rank_30 rfl rfl ?_
        refine Ex.bipush (pc := 31) (v := 38) dX10_rank_31 rfl ?_
        refine Ex.icmp_eq (pc := 33) (tgt := 48) dX10_rank_33 (by decide) (fun c33 => ?_) (fun c33 => ?_)
        · skip
          refine Ex.iconst (pc := 48) (v := 4) dX10_rank_48 rfl ?_
          refine Ex.goto (pc := 49) (tgt := 70) dX10_rank_49 (by decide) ?_
          refine Ex.iret (pc := 70) rfl rfl rfl dX10_rank_70 (Nat.le_refl _) (Nat.le_refl _) ?_
          refine ⟨congrArg (fun z => some (Value.int z)) ?_, rfl⟩
          unfold rkF
          rw [if_neg c3, if_neg c13, if_neg c23, if_pos (Or.inl c33)]
        · skip
          refine Ex.iload_n (pc := 36) dX10_rank_36 rfl rfl ?_
          refine Ex.bipush (pc := 37) (v := 39) dX10_rank_37 rfl ?_
          refine Ex.icmp_eq (pc := 39) (tgt := 48) dX10_rank_39 (by decide) (fun c39 => ?_) (fun c39 => ?_)
          · skip
            refine Ex.iconst (pc := 48) (v := 4) dX10_rank_48 rfl ?_
            refine Ex.goto (pc := 49) (tgt := 70) dX10_rank_49 (by decide) ?_
            refine Ex.iret (pc := 70) rfl rfl rfl dX10_rank_70 (Nat.le_refl _) (Nat.le_refl _) ?_
            refine ⟨congrArg (fun z => some (Value.int z)) ?_, rfl⟩
            unfold rkF
            rw [if_neg c3, if_neg c13, if_neg c23, if_pos (Or.inr (Or.inl c39))]
          · skip
            refine Ex.iload_n (pc := 42) dX10_rank_42 rfl rfl ?_
            refine Ex.bipush (pc := 43) (v := 40) dX10_rank_43 rfl ?_
            refine Ex.icmp_ne (pc := 45) (tgt := 52) dX10_rank_45 (by decide) (fun c45 => ?_) (fun c45 => ?_)
            · skip
              refine Ex.iload_n (pc := 52) dX10_rank_52 rfl rfl ?_
              refine Ex.bipush (pc := 53) (v := 31) dX10_rank_53 rfl ?_
              refine Ex.icmp_eq (pc := 55) (tgt := 64) dX10_rank_55 (by decide) (fun c55 => ?_) (fun c55 => ?_)
              · skip
                refine Ex.iconst (pc := 64) (v := 5) dX10_rank_64 rfl ?_
                refine Ex.goto (pc := 65) (tgt := 70) dX10_rank_65 (by decide) ?_
                refine Ex.iret (pc := 70) rfl rfl rfl dX10_rank_70 (Nat.le_refl _) (Nat.le_refl _) ?_
                refine ⟨congrArg (fun z => some (Value.int z)) ?_, rfl⟩
                unfold rkF
                rw [if_neg c3, if_neg c13, if_neg c23, if_neg (fun q => q.elim c33 (fun q => q.elim c39 c45)), if_pos (Or.inl c55)]
              · skip
                refine Ex.iload_n (pc := 58) dX10_rank_58 rfl rfl ?_
                refine Ex.bipush (pc := 59) (v := 32) dX10_rank_59 rfl ?_
                refine Ex.icmp_ne (pc := 61) (tgt := 68) dX10_rank_61 (by decide) (fun c61 => ?_) (fun c61 => ?_)
                · skip
                  refine Ex.bipush (pc := 68) (v := 6) dX10_rank_68 rfl ?_
                  refine Ex.iret (pc := 70) rfl rfl rfl dX10_rank_70 (Nat.le_refl _) (Nat.le_refl _) ?_
                  refine ⟨congrArg (fun z => some (Value.int z)) ?_, rfl⟩
                  unfold rkF
                  rw [if_neg c3, if_neg c13, if_neg c23, if_neg (fun q => q.elim c33 (fun q => q.elim c39 c45)), if_neg (fun q => q.elim c55 c61)]
                · skip
                  refine Ex.iconst (pc := 64) (v := 5) dX10_rank_64 rfl ?_
                  refine Ex.goto (pc := 65) (tgt := 70) dX10_rank_65 (by decide) ?_
                  refine Ex.iret (pc := 70) rfl rfl rfl dX10_rank_70 (Nat.le_refl _) (Nat.le_refl _) ?_
                  refine ⟨congrArg (fun z => some (Value.int z)) ?_, rfl⟩
                  unfold rkF
                  rw [if_neg c3, if_neg c13, if_neg c23, if_neg (fun q => q.elim c33 (fun q => q.elim c39 c45)), if_pos (Or.inr c61)]
            · skip
              refine Ex.iconst (pc := 48) (v := 4) dX10_rank_48 rfl ?_
              refine Ex.goto (pc := 49) (tgt := 70) dX10_rank_49 (by decide) ?_
              refine Ex.iret (pc := 70) rfl rfl rfl dX10_rank_70 (Nat.le_refl _) (Nat.le_refl _) ?_
              refine ⟨congrArg (fun z => some (Value.int z)) ?_, rfl⟩
              unfold rkF
              rw [if_neg c3, if_neg c13, if_neg c23, if_pos (Or.inr (Or.inr c45))]
      · skip
        refine Ex.iconst (pc := 26) (v := 3) dX10_rank_26 rfl ?_
        refine Ex.goto (pc := 27) (tgt := 70) dX10_rank_27 (by decide) ?_
        refine Ex.iret (pc := 70) rfl rfl rfl dX10_rank_70 (Nat.le_refl _) (Nat.le_refl _) ?_
        refine ⟨congrArg (fun z => some (Value.int z)) ?_, rfl⟩
        unfold rkF
        rw [if_neg c3, if_neg c13, if_pos c23]
    · skip
      refine Ex.iconst (pc := 16) (v := 2) dX10_rank_16 rfl ?_
      refine Ex.goto (pc := 17) (tgt := 70) dX10_rank_17 (by decide) ?_
      refine Ex.iret (pc := 70) rfl rfl rfl dX10_rank_70 (Nat.le_refl _) (Nat.le_refl _) ?_
      refine ⟨congrArg (fun z => some (Value.int z)) ?_, rfl⟩
      unfold rkF
      rw [if_neg c3, if_pos c13]
  · skip
    refine Ex.iconst (pc := 6) (v := 1) dX10_rank_6 rfl ?_
    refine Ex.goto (pc := 7) (tgt := 70) dX10_rank_7 (by decide) ?_
    refine Ex.iret (pc := 70) rfl rfl rfl dX10_rank_70 (Nat.le_refl _) (Nat.le_refl _) ?_
    refine ⟨congrArg (fun z => some (Value.int z)) ?_, rfl⟩
    unfold rkF
    rw [if_pos c3]
set_option maxRecDepth 20000 in
theorem tm_isTest {S : aS} {v : Int32} : Run 0 0 0 mX10_isTest [.int v] S (RI (bI (decide (v = 1 ∨ v = 5 ∨ v = 6))) S) := by
  refine Run.of (ls := [some (.int _)]) (by decide) (Nat.le_of_ble_eq_true rfl) rfl ?_
  refine Ex.iload_n (pc := 0) dX10_isTest_0 rfl rfl ?_
  refine Ex.iconst (pc := 1) (v := 1) dX10_isTest_1 rfl ?_
  refine Ex.icmp_eq (pc := 2) (tgt := 16) dX10_isTest_2 (by decide) (fun c2 => ?_) (fun c2 => ?_)
  · skip
    refine Ex.iconst (pc := 16) (v := 1) dX10_isTest_16 rfl ?_
    refine Ex.goto (pc := 17) (tgt := 21) dX10_isTest_17 (by decide) ?_
    refine Ex.iret (pc := 21) rfl rfl rfl dX10_isTest_21 (Nat.le_refl _) (Nat.le_refl _) ?_
    refine ⟨congrArg (fun z => some (Value.int z)) ?_, rfl⟩
    rw [decide_eq_true (Or.inl c2)]; rfl
  · skip
    refine Ex.iload_n (pc := 5) dX10_isTest_5 rfl rfl ?_
    refine Ex.iconst (pc := 6) (v := 5) dX10_isTest_6 rfl ?_
    refine Ex.icmp_eq (pc := 7) (tgt := 16) dX10_isTest_7 (by decide) (fun c7 => ?_) (fun c7 => ?_)
    · skip
      refine Ex.iconst (pc := 16) (v := 1) dX10_isTest_16 rfl ?_
      refine Ex.goto (pc := 17) (tgt := 21) dX10_isTest_17 (by decide) ?_
      refine Ex.iret (pc := 21) rfl rfl rfl dX10_isTest_21 (Nat.le_refl _) (Nat.le_refl _) ?_
      refine ⟨congrArg (fun z => some (Value.int z)) ?_, rfl⟩
      rw [decide_eq_true (Or.inr (Or.inl c7))]; rfl
    · skip
      refine Ex.iload_n (pc := 10) dX10_isTest_10 rfl rfl ?_
      refine Ex.bipush (pc := 11) (v := 6) dX10_isTest_11 rfl ?_
      refine Ex.icmp_ne (pc := 13) (tgt := 20) dX10_isTest_13 (by decide) (fun c13 => ?_) (fun c13 => ?_)
      · skip
        refine Ex.iconst (pc := 20) (v := 0) dX10_isTest_20 rfl ?_
        refine Ex.iret (pc := 21) rfl rfl rfl dX10_isTest_21 (Nat.le_refl _) (Nat.le_refl _) ?_
        refine ⟨congrArg (fun z => some (Value.int z)) ?_, rfl⟩
        rw [decide_eq_false (fun q => q.elim c2 (fun q => q.elim c7 c13))]; rfl
      · skip
        refine Ex.iconst (pc := 16) (v := 1) dX10_isTest_16 rfl ?_
        refine Ex.goto (pc := 17) (tgt := 21) dX10_isTest_17 (by decide) ?_
        refine Ex.iret (pc := 21) rfl rfl rfl dX10_isTest_21 (Nat.le_refl _) (Nat.le_refl _) ?_
        refine ⟨congrArg (fun z => some (Value.int z)) ?_, rfl⟩
        rw [decide_eq_true (Or.inr (Or.inr c13))]; rfl
set_option maxRecDepth 20000 in
theorem tm_add {N : Nat} {I : aI} {L : aL} {b c : Nat} {k v : Int32} (hb : b < 2) (hc : c < 1600) (h33 : I 36 33 = nI b) (h32 : I 36 32 = nI c) : Run 0 0 0 mX10_add [.ref 36, .int k, .int v] (St N I L) (RV (St N (adM2 I b c k v) L)) := by
  refine Run.of (ls := [some (.ref 36), some (.int _), some (.int _)]) (by decide) (Nat.le_of_ble_eq_true rfl) rfl ?_
  have e1 : (1600 : Int32) * nI b + nI c = nI (1600 * b + c) := by rw [show (1600 : Int32) * nI b = nI (1600 * b) from pk_mul 1600 b, nI_add]
  have ixk : vp_in (nI (1600 * b + c)) 3200 := vp_in_nI (by omega) (by decide)
  have ixc : (nI (1600 * b + c)).toNatClampNeg = 1600 * b + c := nI_clamp (by omega)
  refine Ex.aload_n (pc := 0) dX10_add_0 rfl rfl ?_
  refine Ex.getR (pc := 1) dX10_add_1 fX10_93 (sh36 _) r36_27 ?_
  refine Ex.sipush (pc := 4) (v := 1600) dX10_add_4 rfl ?_
  refine Ex.aload_n (pc := 7) dX10_add_7 rfl rfl ?_
  refine Ex.getI (pc := 8) dX10_add_8 fX10_112 (sh36 _) ?_
  refine Ex.imul (pc := 11) dX10_add_11 ?_
  refine Ex.aload_n (pc := 12) dX10_add_12 rfl rfl ?_
  refine Ex.getI (pc := 13) dX10_add_13 fX10_109 (sh36 _) ?_
  refine Ex.iadd (pc := 16) dX10_add_16 ?_
  rw [h33, h32, e1]
  refine Ex.iload_n (pc := 17) dX10_add_17 rfl rfl ?_
  refine Ex.iast (pc := 18) (j := 1600 * b + c) dX10_add_18 (sh51 _) ixk ixc ?_
  refine Ex.aload_n (pc := 19) dX10_add_19 rfl rfl ?_
  refine Ex.getR (pc := 20) dX10_add_20 fX10_96 (sh36 _) r36_28 ?_
  refine Ex.sipush (pc := 23) (v := 1600) dX10_add_23 rfl ?_
  refine Ex.aload_n (pc := 26) dX10_add_26 rfl rfl ?_
  refine Ex.getI (pc := 27) dX10_add_27 fX10_112 (sh36 _) ?_
  refine Ex.imul (pc := 30) dX10_add_30 ?_
  refine Ex.aload_n (pc := 31) dX10_add_31 rfl rfl ?_
  refine Ex.getI (pc := 32) dX10_add_32 fX10_109 (sh36 _) ?_
  refine Ex.iadd (pc := 35) dX10_add_35 ?_
  rw [va_up_n (show (36 : Nat) ≠ 51 by decide), h33, h32, e1]
  refine Ex.iload_n (pc := 36) dX10_add_36 rfl rfl ?_
  refine Ex.iast (pc := 37) (j := 1600 * b + c) dX10_add_37 (sh52 _) ixk ixc ?_
  refine Ex.aload_n (pc := 38) dX10_add_38 rfl rfl ?_
  refine Ex.dup (pc := 39) dX10_add_39 rfl ?_
  refine Ex.getI (pc := 40) dX10_add_40 fX10_109 (sh36 _) ?_
  refine Ex.iconst (pc := 43) (v := 1) dX10_add_43 rfl ?_
  refine Ex.iadd (pc := 44) dX10_add_44 ?_
  refine Ex.putI (pc := 45) dX10_add_45 fX10_109 (sh36 _) (Or.inl rfl) ⟨rfl, rfl⟩ ?_
  refine Ex.vret (pc := 48) rfl dX10_add_48 (Nat.le_refl _) (Nat.le_refl _) ?_
  refine ⟨rfl, ?_⟩
  refine congrArg (fun z => St N z L) ?_
  unfold adM2 mf
  rw [va_up_n (show (52 : Nat) ≠ 51 by decide), va_up_n (show (36 : Nat) ≠ 52 by decide), va_up_n (show (36 : Nat) ≠ 51 by decide), h32, show nI c + 1 = nI (c + 1) from nI_1 c]
set_option maxRecDepth 20000 in
theorem tm_holds {N : Nat} {I : aI} {L : aL} {m : Nat} {v : Int32} (hm : m < 500) (h43 : I 36 43 = nI m) : Run 0 0 0 mX10_holdsBack [.ref 36, .int v] (St N I L) (RV (St N (hbM I m v) L)) := by
  refine Run.of (ls := [some (.ref 36), some (.int _)]) (by decide) (Nat.le_of_ble_eq_true rfl) rfl ?_
  refine Ex.aload_n (pc := 0) dX10_holdsBack_0 rfl rfl ?_
  refine Ex.getR (pc := 1) dX10_holdsBack_1 fX10_140 (sh36 _) r36_42 ?_
  refine Ex.aload_n (pc := 4) dX10_holdsBack_4 rfl rfl ?_
  refine Ex.getI (pc := 5) dX10_holdsBack_5 fX10_143 (sh36 _) ?_
  rw [h43]
  refine Ex.iload_n (pc := 8) dX10_holdsBack_8 rfl rfl ?_
  refine Ex.iast (pc := 9) (j := m) dX10_holdsBack_9 (sh61 _) (vp_in_nI hm (by decide)) (nI_clamp (by omega)) ?_
  refine Ex.aload_n (pc := 10) dX10_holdsBack_10 rfl rfl ?_
  refine Ex.dup (pc := 11) dX10_holdsBack_11 rfl ?_
  refine Ex.getI (pc := 12) dX10_holdsBack_12 fX10_143 (sh36 _) ?_
  refine Ex.iconst (pc := 15) (v := 1) dX10_holdsBack_15 rfl ?_
  refine Ex.iadd (pc := 16) dX10_holdsBack_16 ?_
  refine Ex.putI (pc := 17) dX10_holdsBack_17 fX10_143 (sh36 _) (Or.inl rfl) ⟨rfl, rfl⟩ ?_
  refine Ex.vret (pc := 20) rfl dX10_holdsBack_20 (Nat.le_refl _) (Nat.le_refl _) ?_
  refine ⟨rfl, ?_⟩
  refine congrArg (fun z => St N z L) ?_
  unfold hbM mf
  rw [va_up_n (show (36 : Nat) ≠ 61 by decide), h43, show nI m + 1 = nI (m + 1) from nI_1 m]
