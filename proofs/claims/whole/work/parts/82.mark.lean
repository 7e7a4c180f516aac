/-! THE REFERENCE'S PARSER: bytes, marks -/
def mf (I : aI) (j : Nat) (v : Int32) : aI := va_up I 36 (upd (I 36) j v)
theorem mf_s {I : aI} {j : Nat} {v : Int32} : mf I j v 36 j = v := by unfold mf; rw [va_up_s, upd_s]
theorem mf_n {I : aI} {j i : Nat} {v : Int32} (h : i ≠ j) : mf I j v 36 i = I 36 i := by unfold mf; rw [va_up_s, upd_n h]
theorem mf_o {I : aI} {j a : Nat} {v : Int32} (h : a ≠ 36) : mf I j v a = I a := by unfold mf; rw [va_up_n h]
theorem mf_S {I : aI} {j : Nat} {v : Int32} : Sm [36] I (mf I j v) := Sm.rf.up (by decide)
def TxM (I : aI) (tb : Nat → Nat) (n : Nat) : Prop := ∀ i, i < n → tb i < 256 ∧ I 37 i = nI (tb i)
theorem TxM.sm {I I2 : aI} {tb : Nat → Nat} {n : Nat} {l : List Nat} (h : TxM I tb n) (hS : Sm l I I2) (h1 : 37 ∉ l) : TxM I2 tb n := fun i hi => by rw [hS 37 h1]; exact h i hi
set_option maxRecDepth 20000 in
theorem tm_isLetter {S : aS} {b : Nat} (hb : b < 256) : Run 0 0 0 mX10_isLetter [.int (nI b)] S (RI (bI (isL b)) S) := by
  refine Run.of (ls := [some (.int _)]) (by decide) (Nat.le_of_ble_eq_true rfl) rfl ?_
  refine Ex.iload_n (pc := 0) dX10_isLetter_0 rfl rfl ?_
  refine Ex.bipush (pc := 1) (v := 97) dX10_isLetter_1 rfl ?_
  refine Ex.icmp_lt (pc := 3) (tgt := 16) dX10_isLetter_3 (by decide) (fun c3 => ?_) (fun c3 => ?_)
  · skip
    refine Ex.iconst (pc := 16) (v := 0) dX10_isLetter_16 rfl ?_
    refine Ex.iret (pc := 17) rfl rfl rfl dX10_isLetter_17 (Nat.le_refl _) (Nat.le_refl _) ?_
    refine ⟨congrArg (fun z => some (Value.int z)) ?_, rfl⟩
    show _ = bI (decide (97 ≤ b ∧ b ≤ 122))
    rw [show (97 : Int32) = nI 97 from rfl, nI_ltI (by omega) (by decide)] at c3
    rw [decide_eq_false (by omega)]; rfl
  · skip
    refine Ex.iload_n (pc := 6) dX10_isLetter_6 rfl rfl ?_
    refine Ex.bipush (pc := 7) (v := 122) dX10_isLetter_7 rfl ?_
    refine Ex.icmp_gt (pc := 9) (tgt := 16) dX10_isLetter_9 (by decide) (fun c9 => ?_) (fun c9 => ?_)
    · skip
      refine Ex.iconst (pc := 16) (v := 0) dX10_isLetter_16 rfl ?_
      refine Ex.iret (pc := 17) rfl rfl rfl dX10_isLetter_17 (Nat.le_refl _) (Nat.le_refl _) ?_
      refine ⟨congrArg (fun z => some (Value.int z)) ?_, rfl⟩
      show _ = bI (decide (97 ≤ b ∧ b ≤ 122))
      rw [show (122 : Int32) = nI 122 from rfl, nI_ltI (by decide) (by omega)] at c9
      rw [decide_eq_false (by omega)]; rfl
    · skip
      refine Ex.iconst (pc := 12) (v := 1) dX10_isLetter_12 rfl ?_
      refine Ex.goto (pc := 13) (tgt := 17) dX10_isLetter_13 (by decide) ?_
      refine Ex.iret (pc := 17) rfl rfl rfl dX10_isLetter_17 (Nat.le_refl _) (Nat.le_refl _) ?_
      refine ⟨congrArg (fun z => some (Value.int z)) ?_, rfl⟩
      show _ = bI (decide (97 ≤ b ∧ b ≤ 122))
      rw [show (97 : Int32) = nI 97 from rfl, nI_ltI (by omega) (by decide)] at c3
      rw [show (122 : Int32) = nI 122 from rfl, nI_ltI (by decide) (by omega)] at c9
      rw [decide_eq_true (by omega)]; rfl
set_option maxRecDepth 20000 in
theorem tm_isDigit {S : aS} {b : Nat} (hb : b < 256) : Run 0 0 0 mX10_isDigit [.int (nI b)] S (RI (bI (isD b)) S) := by
  refine Run.of (ls := [some (.int _)]) (by decide) (Nat.le_of_ble_eq_true rfl) rfl ?_
  refine Ex.iload_n (pc := 0) dX10_isDigit_0 rfl rfl ?_
  refine Ex.bipush (pc := 1) (v := 48) dX10_isDigit_1 rfl ?_
  refine Ex.icmp_lt (pc := 3) (tgt := 16) dX10_isDigit_3 (by decide) (fun c3 => ?_) (fun c3 => ?_)
  · skip
    refine Ex.iconst (pc := 16) (v := 0) dX10_isDigit_16 rfl ?_
    refine Ex.iret (pc := 17) rfl rfl rfl dX10_isDigit_17 (Nat.le_refl _) (Nat.le_refl _) ?_
    refine ⟨congrArg (fun z => some (Value.int z)) ?_, rfl⟩
    show _ = bI (decide (48 ≤ b ∧ b ≤ 57))
    rw [show (48 : Int32) = nI 48 from rfl, nI_ltI (by omega) (by decide)] at c3
    rw [decide_eq_false (by omega)]; rfl
  · skip
    refine Ex.iload_n (pc := 6) dX10_isDigit_6 rfl rfl ?_
    refine Ex.bipush (pc := 7) (v := 57) dX10_isDigit_7 rfl ?_
    refine Ex.icmp_gt (pc := 9) (tgt := 16) dX10_isDigit_9 (by decide) (fun c9 => ?_) (fun c9 => ?_)
    · skip
      refine Ex.iconst (pc := 16) (v := 0) dX10_isDigit_16 rfl ?_
      refine Ex.iret (pc := 17) rfl rfl rfl dX10_isDigit_17 (Nat.le_refl _) (Nat.le_refl _) ?_
      refine ⟨congrArg (fun z => some (Value.int z)) ?_, rfl⟩
      show _ = bI (decide (48 ≤ b ∧ b ≤ 57))
      rw [show (57 : Int32) = nI 57 from rfl, nI_ltI (by decide) (by omega)] at c9
      rw [decide_eq_false (by omega)]; rfl
    · skip
      refine Ex.iconst (pc := 12) (v := 1) dX10_isDigit_12 rfl ?_
      refine Ex.goto (pc := 13) (tgt := 17) dX10_isDigit_13 (by decide) ?_
      refine Ex.iret (pc := 17) rfl rfl rfl dX10_isDigit_17 (Nat.le_refl _) (Nat.le_refl _) ?_
      refine ⟨congrArg (fun z => some (Value.int z)) ?_, rfl⟩
      show _ = bI (decide (48 ≤ b ∧ b ≤ 57))
      rw [show (48 : Int32) = nI 48 from rfl, nI_ltI (by omega) (by decide)] at c3
      rw [show (57 : Int32) = nI 57 from rfl, nI_ltI (by decide) (by omega)] at c9
      rw [decide_eq_true (by omega)]; rfl
set_option maxRecDepth 20000 in
theorem tm_blame {N : Nat} {I : aI} {L : aL} {k w : Int32} (h8 : ¬ I 36 8 < 0) : Run 0 0 0 mX10_blame [.ref 36, .int k, .int w] (St N I L) (RV (St N (if I 36 8 = 0 then mf (mf I 8 k) 9 w else I) L)) := by
  refine Run.of (ls := [some (.ref 36), some (.int _), some (.int _)]) (by decide) (Nat.le_of_ble_eq_true rfl) rfl ?_
  refine Ex.aload_n (pc := 0) dX10_blame_0 rfl rfl ?_
  refine Ex.getI (pc := 1) dX10_blame_1 fX10_36 (sh36 _) ?_
  refine Ex.if_le (pc := 4) (tgt := 8) dX10_blame_4 (by decide) (fun c4 => ?_) (fun c4 => ?_)
  · skip
    refine Ex.aload_n (pc := 8) dX10_blame_8 rfl rfl ?_
    refine Ex.iload_n (pc := 9) dX10_blame_9 rfl rfl ?_
    refine Ex.putI (pc := 10) dX10_blame_10 fX10_36 (sh36 _) (Or.inl rfl) ⟨rfl, rfl⟩ ?_
    refine Ex.aload_n (pc := 13) dX10_blame_13 rfl rfl ?_
    refine Ex.iload_n (pc := 14) dX10_blame_14 rfl rfl ?_
    refine Ex.putI (pc := 15) dX10_blame_15 fX10_39 (sh36 _) (Or.inl rfl) ⟨rfl, rfl⟩ ?_
    refine Ex.vret (pc := 18) rfl dX10_blame_18 (Nat.le_refl _) (Nat.le_refl _) ?_
    have e : I 36 8 = 0 := Int32.le_antisymm c4 (Int32.not_lt.mp h8)
    rw [if_pos e]
    exact ⟨rfl, rfl⟩
  · skip
    refine Ex.vret (pc := 7) rfl dX10_blame_7 (Nat.le_refl _) (Nat.le_refl _) ?_
    rw [if_neg (fun e => c4 (by rw [e]; decide))]
    exact ⟨rfl, rfl⟩
set_option maxRecDepth 20000 in
theorem tm_lex {N : Nat} {I : aI} {L : aL} (h8 : ¬ I 36 8 < 0) : Run 1 0 0 mX10_lex [.ref 36] (St N I L) (RV (St N (if I 36 12 = -1 then I else if I 36 8 = 0 then mf (mf I 8 1) 9 (I 36 12) else I) L)) := by
  refine Run.of (ls := [some (.ref 36)]) (by decide) (Nat.le_of_ble_eq_true rfl) rfl ?_
  refine Ex.aload_n (pc := 0) dX10_lex_0 rfl rfl ?_
  refine Ex.getI (pc := 1) dX10_lex_1 fX10_48 (sh36 _) ?_
  refine Ex.iconst (pc := 4) (v := (-1)) dX10_lex_4 rfl ?_
  refine Ex.icmp_eq (pc := 5) (tgt := 17) dX10_lex_5 (by decide) (fun c5 => ?_) (fun c5 => ?_)
  · skip
    refine Ex.vret (pc := 17) rfl dX10_lex_17 (Nat.le_refl _) (Nat.le_refl _) ?_
    rw [if_pos c5]
    exact ⟨rfl, rfl⟩
  · skip
    refine Ex.aload_n (pc := 8) dX10_lex_8 rfl rfl ?_
    refine Ex.iconst (pc := 9) (v := 1) dX10_lex_9 rfl ?_
    refine Ex.aload_n (pc := 10) dX10_lex_10 rfl rfl ?_
    refine Ex.getI (pc := 11) dX10_lex_11 fX10_48 (sh36 _) ?_
    refine Ex.callV (pc := 14) (As := [.int 1, .int _]) (rest := []) dX10_lex_14 cX10_230 (tm_blame h8) (sh36 _) rfl rfl (by decide) (Nat.le_refl _) (Nat.le_refl _) (Nat.le_of_ble_eq_true rfl) (Or.inl (fun r S' h => by obtain ⟨_, h⟩ := h; subst h; rfl)) (fun r S' hq _ _ => ?_)
    obtain ⟨rfl, rfl⟩ := hq
    refine Ex.vret (pc := 17) rfl dX10_lex_17 (Nat.le_refl _) (Nat.le_refl _) ?_
    rw [if_neg c5]
    exact ⟨rfl, rfl⟩
set_option maxRecDepth 20000 in
theorem tm_isSign {N : Nat} {I : aI} {L : aL} {v : Int32} : Run 0 0 0 mX10_isSign [.ref 36, .int v] (St N I L) (RI (bI (decide (I 36 3 = 3 ∧ I 36 6 = v))) (St N I L)) := by
  refine Run.of (ls := [some (.ref 36), some (.int _)]) (by decide) (Nat.le_of_ble_eq_true rfl) rfl ?_
  refine Ex.aload_n (pc := 0) dX10_isSign_0 rfl rfl ?_
  refine Ex.getI (pc := 1) dX10_isSign_1 fX10_20 (sh36 _) ?_
  refine Ex.iconst (pc := 4) (v := 3) dX10_isSign_4 rfl ?_
  refine Ex.icmp_ne (pc := 5) (tgt := 20) dX10_isSign_5 (by decide) (fun c5 => ?_) (fun c5 => ?_)
  · skip
    refine Ex.iconst (pc := 20) (v := 0) dX10_isSign_20 rfl ?_
    refine Ex.iret (pc := 21) rfl rfl rfl dX10_isSign_21 (Nat.le_refl _) (Nat.le_refl _) ?_
    refine ⟨congrArg (fun z => some (Value.int z)) ?_, rfl⟩
    rw [decide_eq_false (fun q => c5 q.1)]; rfl
  · skip
    refine Ex.aload_n (pc := 8) dX10_isSign_8 rfl rfl ?_
    refine Ex.getI (pc := 9) dX10_isSign_9 fX10_29 (sh36 _) ?_
    refine Ex.iload_n (pc := 12) dX10_isSign_12 rfl rfl ?_
    refine Ex.icmp_ne (pc := 13) (tgt := 20) dX10_isSign_13 (by decide) (fun c13 => ?_) (fun c13 => ?_)
    · skip
      refine Ex.iconst (pc := 20) (v := 0) dX10_isSign_20 rfl ?_
      refine Ex.iret (pc := 21) rfl rfl rfl dX10_isSign_21 (Nat.le_refl _) (Nat.le_refl _) ?_
      refine ⟨congrArg (fun z => some (Value.int z)) ?_, rfl⟩
      rw [decide_eq_false (fun q => c13 q.2)]; rfl
    · skip
      refine Ex.iconst (pc := 16) (v := 1) dX10_isSign_16 rfl ?_
      refine Ex.goto (pc := 17) (tgt := 21) dX10_isSign_17 (by decide) ?_
      refine Ex.iret (pc := 21) rfl rfl rfl dX10_isSign_21 (Nat.le_refl _) (Nat.le_refl _) ?_
      refine ⟨congrArg (fun z => some (Value.int z)) ?_, rfl⟩
      rw [decide_eq_true ⟨c5, c13⟩]; rfl
