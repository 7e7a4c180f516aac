def begW (w : Int32) : Bool := decide (w = 0 ∨ w = 3 ∨ w = 6 ∨ (¬ w < 9 ∧ ¬ 15 < w))
def begK (k : Nat) : Bool := decide (k = 0 ∨ k = 3 ∨ k = 6 ∨ (9 ≤ k ∧ k ≤ 15))
def fullB (pl : Pl) (k : Nat) : Bool := if k = 0 then decide (5 ≤ pl.1 0) else if k = 3 then decide (6 ≤ pl.1 1) else if k = 6 then decide (6 ≤ pl.1 2) else if k = 14 ∨ k = 15 then false else decide (pl.2.2.2.2.2.2.1 (k - 9) < pl.2.2.2.2.2.2.2 (k - 9))
theorem begW_k {k : Nat} (hk : k < 100) : begW (nI k) = begK k := by
  unfold begW begK
  refine decide_eq_decide.mpr ?_
  have e : ∀ j, j < 100 → (nI k = nI j ↔ k = j) := fun j hj => nI_eq (by omega) (by omega)
  rw [show (0 : Int32) = nI 0 from rfl, show (3 : Int32) = nI 3 from rfl, show (6 : Int32) = nI 6 from rfl, show (9 : Int32) = nI 9 from rfl, show (15 : Int32) = nI 15 from rfl, e 0 (by decide), e 3 (by decide), e 6 (by decide), nI_ltI (by omega) (by decide), nI_ltI (by decide) (by omega)]
  omega
set_option maxRecDepth 20000 in
theorem t_begins {S : aS} {w : Int32} : Run 0 0 0 mX4_beginsStatement [.int w] S (RI (bI (begW w)) S) := by
  refine Run.of (ls := [some (.int _)]) (by decide) (Nat.le_of_ble_eq_true rfl) rfl ?_
  refine Ex.iload_n (pc := 0) dX4_beginsStatement_0 rfl rfl ?_
  refine Ex.if_eq (pc := 1) (tgt := 27) dX4_beginsStatement_1 (by decide) (fun c1 => ?_) (fun c1 => ?_)
  · skip
    refine Ex.iconst (pc := 27) (v := 1) dX4_beginsStatement_27 rfl ?_
    refine Ex.goto (pc := 28) (tgt := 32) dX4_beginsStatement_28 (by decide) ?_
    refine Ex.iret (pc := 32) rfl rfl rfl dX4_beginsStatement_32 (Nat.le_refl _) (Nat.le_refl _) ?_
    refine ⟨congrArg (fun z => some (Value.int z)) ?_, rfl⟩
    unfold begW
    rw [decide_eq_true (Or.inl c1)]; rfl
  · skip
    refine Ex.iload_n (pc := 4) dX4_beginsStatement_4 rfl rfl ?_
    refine Ex.iconst (pc := 5) (v := 3) dX4_beginsStatement_5 rfl ?_
    refine Ex.icmp_eq (pc := 6) (tgt := 27) dX4_beginsStatement_6 (by decide) (fun c6 => ?_) (fun c6 => ?_)
    · skip
      refine Ex.iconst (pc := 27) (v := 1) dX4_beginsStatement_27 rfl ?_
      refine Ex.goto (pc := 28) (tgt := 32) dX4_beginsStatement_28 (by decide) ?_
      refine Ex.iret (pc := 32) rfl rfl rfl dX4_beginsStatement_32 (Nat.le_refl _) (Nat.le_refl _) ?_
      refine ⟨congrArg (fun z => some (Value.int z)) ?_, rfl⟩
      unfold begW
      rw [decide_eq_true (Or.inr (Or.inl c6))]; rfl
    · skip
      refine Ex.iload_n (pc := 9) dX4_beginsStatement_9 rfl rfl ?_
      refine Ex.bipush (pc := 10) (v := 6) dX4_beginsStatement_10 rfl ?_
      refine Ex.icmp_eq (pc := 12) (tgt := 27) dX4_beginsStatement_12 (by decide) (fun c12 => ?_) (fun c12 => ?_)
      · skip
        refine Ex.iconst (pc := 27) (v := 1) dX4_beginsStatement_27 rfl ?_
        refine Ex.goto (pc := 28) (tgt := 32) dX4_beginsStatement_28 (by decide) ?_
        refine Ex.iret (pc := 32) rfl rfl rfl dX4_beginsStatement_32 (Nat.le_refl _) (Nat.le_refl _) ?_
        refine ⟨congrArg (fun z => some (Value.int z)) ?_, rfl⟩
        unfold begW
        rw [decide_eq_true (Or.inr (Or.inr (Or.inl c12)))]; rfl
      · skip
        refine Ex.iload_n (pc := 15) dX4_beginsStatement_15 rfl rfl ?_
        refine Ex.bipush (pc := 16) (v := 9) dX4_beginsStatement_16 rfl ?_
        refine Ex.icmp_lt (pc := 18) (tgt := 31) dX4_beginsStatement_18 (by decide) (fun c18 => ?_) (fun c18 => ?_)
        · skip
          refine Ex.iconst (pc := 31) (v := 0) dX4_beginsStatement_31 rfl ?_
          refine Ex.iret (pc := 32) rfl rfl rfl dX4_beginsStatement_32 (Nat.le_refl _) (Nat.le_refl _) ?_
          refine ⟨congrArg (fun z => some (Value.int z)) ?_, rfl⟩
          unfold begW
          rw [decide_eq_false (fun q => q.elim c1 (fun q => q.elim c6 (fun q => q.elim c12 (fun q => q.1 c18))))]; rfl
        · skip
          refine Ex.iload_n (pc := 21) dX4_beginsStatement_21 rfl rfl ?_
          refine Ex.bipush (pc := 22) (v := 15) dX4_beginsStatement_22 rfl ?_
          refine Ex.icmp_gt (pc := 24) (tgt := 31) dX4_beginsStatement_24 (by decide) (fun c24 => ?_) (fun c24 => ?_)
          · skip
            refine Ex.iconst (pc := 31) (v := 0) dX4_beginsStatement_31 rfl ?_
            refine Ex.iret (pc := 32) rfl rfl rfl dX4_beginsStatement_32 (Nat.le_refl _) (Nat.le_refl _) ?_
            refine ⟨congrArg (fun z => some (Value.int z)) ?_, rfl⟩
            unfold begW
            rw [decide_eq_false (fun q => q.elim c1 (fun q => q.elim c6 (fun q => q.elim c12 (fun q => q.2 c24))))]; rfl
          · skip
            refine Ex.iconst (pc := 27) (v := 1) dX4_beginsStatement_27 rfl ?_
            refine Ex.goto (pc := 28) (tgt := 32) dX4_beginsStatement_28 (by decide) ?_
            refine Ex.iret (pc := 32) rfl rfl rfl dX4_beginsStatement_32 (Nat.le_refl _) (Nat.le_refl _) ?_
            refine ⟨congrArg (fun z => some (Value.int z)) ?_, rfl⟩
            unfold begW
            rw [decide_eq_true (Or.inr (Or.inr (Or.inr ⟨c18, c24⟩)))]; rfl
set_option maxRecDepth 20000 in
theorem t_isRule {S : aS} {k : Nat} (hk : k < 100) : Run 0 0 0 mX5_isRule [.int (nI k)] S (RI (bI (decide (9 ≤ k ∧ k ≤ 13))) S) := by
  refine Run.of (ls := [some (.int _)]) (by decide) (Nat.le_of_ble_eq_true rfl) rfl ?_
  have e9 : nI k < 9 ↔ k < 9 := nI_ltI (b := 9) (by omega) (by decide)
  have e13 : 13 < nI k ↔ 13 < k := nI_ltI (a := 13) (by decide) (by omega)
  refine Ex.iload_n (pc := 0) dX5_isRule_0 rfl rfl ?_
  refine Ex.bipush (pc := 1) (v := 9) dX5_isRule_1 rfl ?_
  refine Ex.icmp_lt (pc := 3) (tgt := 16) dX5_isRule_3 (by decide) (fun c3 => ?_) (fun c3 => ?_)
  · skip
    refine Ex.iconst (pc := 16) (v := 0) dX5_isRule_16 rfl ?_
    refine Ex.iret (pc := 17) rfl rfl rfl dX5_isRule_17 (Nat.le_refl _) (Nat.le_refl _) ?_
    refine ⟨congrArg (fun z => some (Value.int z)) ?_, rfl⟩
    rw [e9] at c3
    rw [decide_eq_false (by omega)]; rfl
  · skip
    refine Ex.iload_n (pc := 6) dX5_isRule_6 rfl rfl ?_
    refine Ex.bipush (pc := 7) (v := 13) dX5_isRule_7 rfl ?_
    refine Ex.icmp_gt (pc := 9) (tgt := 16) dX5_isRule_9 (by decide) (fun c9 => ?_) (fun c9 => ?_)
    · skip
      refine Ex.iconst (pc := 16) (v := 0) dX5_isRule_16 rfl ?_
      refine Ex.iret (pc := 17) rfl rfl rfl dX5_isRule_17 (Nat.le_refl _) (Nat.le_refl _) ?_
      refine ⟨congrArg (fun z => some (Value.int z)) ?_, rfl⟩
      rw [e9] at c3
      rw [e13] at c9
      rw [decide_eq_false (by omega)]; rfl
    · skip
      refine Ex.iconst (pc := 12) (v := 1) dX5_isRule_12 rfl ?_
      refine Ex.goto (pc := 13) (tgt := 17) dX5_isRule_13 (by decide) ?_
      refine Ex.iret (pc := 17) rfl rfl rfl dX5_isRule_17 (Nat.le_refl _) (Nat.le_refl _) ?_
      refine ⟨congrArg (fun z => some (Value.int z)) ?_, rfl⟩
      rw [e9] at c3
      rw [e13] at c9
      rw [decide_eq_true (by omega)]; rfl
set_option maxRecDepth 20000 in
theorem tr_begR {N M : Nat} {I : aI} {L : aL} {k : Nat} (h9 : 9 ≤ k) (h13 : k ≤ 13) : Run 1 0 0 mX5_beginRule [.ref 82, .int (nI k)] (St2 N M I L) (RV (St2 N M (va_up I 87 (upd (I 87) (k - 9) (I 82 8))) L)) := by
  refine Run.of (ls := [some (.ref 82), some (.int _)]) (by decide) (Nat.le_of_ble_eq_true rfl) rfl ?_
  have hk9' : nI k - 9 = nI (k - 9) := by rw [show (9 : Int32) = nI 9 from rfl]; exact pk_sub (by omega)
  refine Ex.iload_n (pc := 0) dX5_beginRule_0 rfl rfl ?_
  refine Ex.callS (pc := 1) (As := [.int _]) (rest := []) dX5_beginRule_1 cX5_52 (t_isRule (k := k) (by omega)) rfl rfl (by decide) (Nat.le_refl _) (Nat.le_refl _) (Nat.le_of_ble_eq_true rfl) (Or.inl (fun r S' h => by obtain ⟨_, h⟩ := h; subst h; rfl)) (fun r S' hq _ _ => ?_)
  obtain ⟨rfl, rfl⟩ := hq
  refine Ex.if_eq (pc := 4) (tgt := 20) dX5_beginRule_4 (by decide) (fun c4 => absurd c4 (bI_t (decide_eq_true ⟨h9, h13⟩))) (fun _ => ?_)
  refine Ex.aload_n (pc := 7) dX5_beginRule_7 rfl rfl ?_
  refine Ex.getR (pc := 8) dX5_beginRule_8 fX5_37 (s2_82 _ _) r2_82_9 ?_
  refine Ex.iload_n (pc := 11) dX5_beginRule_11 rfl rfl ?_
  refine Ex.bipush (pc := 12) (v := 9) dX5_beginRule_12 rfl ?_
  refine Ex.isub (pc := 14) dX5_beginRule_14 ?_
  refine Ex.aload_n (pc := 15) dX5_beginRule_15 rfl rfl ?_
  refine Ex.getI (pc := 16) dX5_beginRule_16 fX5_34 (s2_82 _ _) ?_
  refine Ex.iast (pc := 19) (j := k - 9) dX5_beginRule_19 (s2_87 _ _) (by rw [hk9']; exact vp_in_nI (by omega) (by decide)) (by rw [hk9']; exact nI_clamp (by omega)) ?_
  refine Ex.vret (pc := 20) rfl dX5_beginRule_20 (Nat.le_refl _) (Nat.le_refl _) ?_
  exact ⟨rfl, rfl⟩
set_option maxRecDepth 20000 in
theorem tr_beg0 {N M : Nat} {I : aI} {L : aL} {k : Nat} (hk : k < 100) (hn : ¬ (9 ≤ k ∧ k ≤ 13)) : Run 1 0 0 mX5_beginRule [.ref 82, .int (nI k)] (St2 N M I L) (RV (St2 N M I L)) := by
  refine Run.of (ls := [some (.ref 82), some (.int _)]) (by decide) (Nat.le_of_ble_eq_true rfl) rfl ?_
  refine Ex.iload_n (pc := 0) dX5_beginRule_0 rfl rfl ?_
  refine Ex.callS (pc := 1) (As := [.int _]) (rest := []) dX5_beginRule_1 cX5_52 (t_isRule (k := k) (by omega)) rfl rfl (by decide) (Nat.le_refl _) (Nat.le_refl _) (Nat.le_of_ble_eq_true rfl) (Or.inl (fun r S' h => by obtain ⟨_, h⟩ := h; subst h; rfl)) (fun r S' hq _ _ => ?_)
  obtain ⟨rfl, rfl⟩ := hq
  refine Ex.if_eq (pc := 4) (tgt := 20) dX5_beginRule_4 (by decide) (fun _ => ?_) (fun c4 => absurd (bI_f (decide_eq_false hn)) c4)
  refine Ex.vret (pc := 20) rfl dX5_beginRule_20 (Nat.le_refl _) (Nat.le_refl _) ?_
  exact ⟨rfl, rfl⟩
set_option maxRecDepth 20000 in
theorem tr_endR {N M : Nat} {I : aI} {L : aL} {k : Nat} (h9 : 9 ≤ k) (h13 : k ≤ 13) : Run 1 0 0 mX5_endRule [.ref 82, .int (nI k)] (St2 N M I L) (RV (St2 N M (va_up I 88 (upd (I 88) (k - 9) (I 82 8))) L)) := by
  refine Run.of (ls := [some (.ref 82), some (.int _)]) (by decide) (Nat.le_of_ble_eq_true rfl) rfl ?_
  have hk9' : nI k - 9 = nI (k - 9) := by rw [show (9 : Int32) = nI 9 from rfl]; exact pk_sub (by omega)
  refine Ex.iload_n (pc := 0) dX5_endRule_0 rfl rfl ?_
  refine Ex.callS (pc := 1) (As := [.int _]) (rest := []) dX5_endRule_1 cX5_52 (t_isRule (k := k) (by omega)) rfl rfl (by decide) (Nat.le_refl _) (Nat.le_refl _) (Nat.le_of_ble_eq_true rfl) (Or.inl (fun r S' h => by obtain ⟨_, h⟩ := h; subst h; rfl)) (fun r S' hq _ _ => ?_)
  obtain ⟨rfl, rfl⟩ := hq
  refine Ex.if_eq (pc := 4) (tgt := 20) dX5_endRule_4 (by decide) (fun c4 => absurd c4 (bI_t (decide_eq_true ⟨h9, h13⟩))) (fun _ => ?_)
  refine Ex.aload_n (pc := 7) dX5_endRule_7 rfl rfl ?_
  refine Ex.getR (pc := 8) dX5_endRule_8 fX5_40 (s2_82 _ _) r2_82_10 ?_
  refine Ex.iload_n (pc := 11) dX5_endRule_11 rfl rfl ?_
  refine Ex.bipush (pc := 12) (v := 9) dX5_endRule_12 rfl ?_
  refine Ex.isub (pc := 14) dX5_endRule_14 ?_
  refine Ex.aload_n (pc := 15) dX5_endRule_15 rfl rfl ?_
  refine Ex.getI (pc := 16) dX5_endRule_16 fX5_34 (s2_82 _ _) ?_
  refine Ex.iast (pc := 19) (j := k - 9) dX5_endRule_19 (s2_88 _ _) (by rw [hk9']; exact vp_in_nI (by omega) (by decide)) (by rw [hk9']; exact nI_clamp (by omega)) ?_
  refine Ex.vret (pc := 20) rfl dX5_endRule_20 (Nat.le_refl _) (Nat.le_refl _) ?_
  exact ⟨rfl, rfl⟩
set_option maxRecDepth 20000 in
theorem tr_end0 {N M : Nat} {I : aI} {L : aL} {k : Nat} (hk : k < 100) (hn : ¬ (9 ≤ k ∧ k ≤ 13)) : Run 1 0 0 mX5_endRule [.ref 82, .int (nI k)] (St2 N M I L) (RV (St2 N M I L)) := by
  refine Run.of (ls := [some (.ref 82), some (.int _)]) (by decide) (Nat.le_of_ble_eq_true rfl) rfl ?_
  refine Ex.iload_n (pc := 0) dX5_endRule_0 rfl rfl ?_
  refine Ex.callS (pc := 1) (As := [.int _]) (rest := []) dX5_endRule_1 cX5_52 (t_isRule (k := k) (by omega)) rfl rfl (by decide) (Nat.le_refl _) (Nat.le_refl _) (Nat.le_of_ble_eq_true rfl) (Or.inl (fun r S' h => by obtain ⟨_, h⟩ := h; subst h; rfl)) (fun r S' hq _ _ => ?_)
  obtain ⟨rfl, rfl⟩ := hq
  refine Ex.if_eq (pc := 4) (tgt := 20) dX5_endRule_4 (by decide) (fun _ => ?_) (fun c4 => absurd (bI_f (decide_eq_false hn)) c4)
  refine Ex.vret (pc := 20) rfl dX5_endRule_20 (Nat.le_refl _) (Nat.le_refl _) ?_
  exact ⟨rfl, rfl⟩
set_option maxRecDepth 20000 in
theorem t_hasRule {N M : Nat} {I : aI} {L : aL} {k : Nat} {pl : Pl} (hP : PlO I pl) (h9 : 9 ≤ k) (h13 : k ≤ 13) : Run 1 0 0 mX5_hasRule [.ref 82, .int (nI k)] (St2 N M I L) (RI (bI (decide (pl.2.2.2.2.2.2.1 (k - 9) < pl.2.2.2.2.2.2.2 (k - 9)))) (St2 N M I L)) := by
  refine Run.of (ls := [some (.ref 82), some (.int _)]) (by decide) (Nat.le_of_ble_eq_true rfl) rfl ?_
  obtain ⟨f1, f2, f3, f4⟩ := hP.2.2.2 (k - 9) (by omega)
  have hk9' : nI k - 9 = nI (k - 9) := by rw [show (9 : Int32) = nI 9 from rfl]; exact pk_sub (by omega)
  refine Ex.iload_n (pc := 0) dX5_hasRule_0 rfl rfl ?_
  refine Ex.callS (pc := 1) (As := [.int _]) (rest := []) dX5_hasRule_1 cX5_52 (t_isRule (k := k) (by omega)) rfl rfl (by decide) (Nat.le_refl _) (Nat.le_refl _) (Nat.le_of_ble_eq_true rfl) (Or.inl (fun r S' h => by obtain ⟨_, h⟩ := h; subst h; rfl)) (fun r S' hq _ _ => ?_)
  obtain ⟨rfl, rfl⟩ := hq
  refine Ex.if_eq (pc := 4) (tgt := 32) dX5_hasRule_4 (by decide) (fun c4 => absurd c4 (bI_t (decide_eq_true ⟨h9, h13⟩))) (fun _ => ?_)
  refine Ex.aload_n (pc := 7) dX5_hasRule_7 rfl rfl ?_
  refine Ex.getR (pc := 8) dX5_hasRule_8 fX5_40 (s2_82 _ _) r2_82_10 ?_
  refine Ex.iload_n (pc := 11) dX5_hasRule_11 rfl rfl ?_
  refine Ex.bipush (pc := 12) (v := 9) dX5_hasRule_12 rfl ?_
  refine Ex.isub (pc := 14) dX5_hasRule_14 ?_
  refine Ex.iald (pc := 15) (j := k - 9) dX5_hasRule_15 (s2_88 _ _) (by rw [hk9']; exact vp_in_nI (by omega) (by decide)) (by rw [hk9']; exact nI_clamp (by omega)) ?_
  rw [f2]
  refine Ex.aload_n (pc := 16) dX5_hasRule_16 rfl rfl ?_
  refine Ex.getR (pc := 17) dX5_hasRule_17 fX5_37 (s2_82 _ _) r2_82_9 ?_
  refine Ex.iload_n (pc := 20) dX5_hasRule_20 rfl rfl ?_
  refine Ex.bipush (pc := 21) (v := 9) dX5_hasRule_21 rfl ?_
  refine Ex.isub (pc := 23) dX5_hasRule_23 ?_
  refine Ex.iald (pc := 24) (j := k - 9) dX5_hasRule_24 (s2_87 _ _) (by rw [hk9']; exact vp_in_nI (by omega) (by decide)) (by rw [hk9']; exact nI_clamp (by omega)) ?_
  rw [f1]
  refine Ex.icmp_le (pc := 25) (tgt := 32) dX5_hasRule_25 (by decide) (fun c25 => ?_) (fun c25 => ?_)
  · skip
    refine Ex.iconst (pc := 32) (v := 0) dX5_hasRule_32 rfl ?_
    refine Ex.iret (pc := 33) rfl rfl rfl dX5_hasRule_33 (Nat.le_refl _) (Nat.le_refl _) ?_
    refine ⟨congrArg (fun z => some (Value.int z)) ?_, rfl⟩
    rw [nI_leI (by omega) (by omega)] at c25
    rw [decide_eq_false (by omega)]; rfl
  · skip
    refine Ex.iconst (pc := 28) (v := 1) dX5_hasRule_28 rfl ?_
    refine Ex.goto (pc := 29) (tgt := 33) dX5_hasRule_29 (by decide) ?_
    refine Ex.iret (pc := 33) rfl rfl rfl dX5_hasRule_33 (Nat.le_refl _) (Nat.le_refl _) ?_
    refine ⟨congrArg (fun z => some (Value.int z)) ?_, rfl⟩
    rw [nI_leI (by omega) (by omega)] at c25
    rw [decide_eq_true (by omega)]; rfl
set_option maxRecDepth 20000 in
theorem t_isFull {N M : Nat} {I : aI} {L : aL} {k : Nat} {pl : Pl} (hP : PlO I pl) (hk : begK k = true) : Run 2 0 0 mX4_isFull [.ref 81, .int (nI k)] (St2 N M I L) (RI (bI (fullB pl k)) (St2 N M I L)) := by
  refine Run.of (ls := [some (.ref 81), some (.int _)]) (by decide) (Nat.le_of_ble_eq_true rfl) rfl ?_
  have p1 := hP.1
  have hk := of_decide_eq_true hk
  rcases (show k = 0 ∨ k = 3 ∨ k = 6 ∨ k = 9 ∨ k = 10 ∨ k = 11 ∨ k = 12 ∨ k = 13 ∨ k = 14 ∨ k = 15 by omega) with rfl | rfl | rfl | rfl | rfl | rfl | rfl | rfl | rfl | rfl
  · skip
    have hc := p1 0 (by decide)
    have h6 := hc.2.1
    refine Ex.iload_n (pc := 0) dX4_isFull_0 rfl rfl ?_
    refine Ex.lookup (pc := 1) (off := 51) (tgt := 52) dX4_isFull_1 (by decide) (by decide) (by decide) ?_
    refine Ex.aload_n (pc := 52) dX4_isFull_52 rfl rfl ?_
    refine Ex.getR (pc := 53) dX4_isFull_53 fX4_57 (s2_81 _ _) r2_81_2 ?_
    refine Ex.getR (pc := 56) dX4_isFull_56 fX4_148 (s2_82 _ _) r2_82_0 ?_
    refine Ex.iconst (pc := 59) (v := 0) dX4_isFull_59 rfl ?_
    refine Ex.iald (pc := 60) (j := 0) dX4_isFull_60 (s2_83 _ _) (by unfold vp_in; decide) (by decide) ?_
    refine Ex.iconst (pc := 61) (v := 5) dX4_isFull_61 rfl ?_
    rw [hc.1]
    refine Ex.icmp_lt (pc := 62) (tgt := 69) dX4_isFull_62 (by decide) (fun c62 => ?_) (fun c62 => ?_)
    · skip
      refine Ex.iconst (pc := 69) (v := 0) dX4_isFull_69 rfl ?_
      refine Ex.iret (pc := 70) rfl rfl rfl dX4_isFull_70 (Nat.le_refl _) (Nat.le_refl _) ?_
      refine ⟨congrArg (fun z => some (Value.int z)) ?_, rfl⟩
      show _ = bI (decide (5 ≤ pl.1 0))
      rw [decide_eq_false (fun q => absurd c62 (nI_nlt (b := 5) q (by omega)))]; rfl
    · skip
      refine Ex.iconst (pc := 65) (v := 1) dX4_isFull_65 rfl ?_
      refine Ex.goto (pc := 66) (tgt := 70) dX4_isFull_66 (by decide) ?_
      refine Ex.iret (pc := 70) rfl rfl rfl dX4_isFull_70 (Nat.le_refl _) (Nat.le_refl _) ?_
      refine ⟨congrArg (fun z => some (Value.int z)) ?_, rfl⟩
      show _ = bI (decide (5 ≤ pl.1 0))
      rw [decide_eq_true (Nat.not_lt.mp (fun q => c62 (nI_lt (b := 5) q (by decide))))]; rfl
  · skip
    have hc := p1 1 (by decide)
    have h6 := hc.2.1
    refine Ex.iload_n (pc := 0) dX4_isFull_0 rfl rfl ?_
    refine Ex.lookup (pc := 1) (off := 70) (tgt := 71) dX4_isFull_1 (by decide) (by decide) (by decide) ?_
    refine Ex.aload_n (pc := 71) dX4_isFull_71 rfl rfl ?_
    refine Ex.getR (pc := 72) dX4_isFull_72 fX4_57 (s2_81 _ _) r2_81_2 ?_
    refine Ex.getR (pc := 75) dX4_isFull_75 fX4_148 (s2_82 _ _) r2_82_0 ?_
    refine Ex.iconst (pc := 78) (v := 1) dX4_isFull_78 rfl ?_
    refine Ex.iald (pc := 79) (j := 1) dX4_isFull_79 (s2_83 _ _) (by unfold vp_in; decide) (by decide) ?_
    refine Ex.bipush (pc := 80) (v := 6) dX4_isFull_80 rfl ?_
    rw [hc.1]
    refine Ex.icmp_lt (pc := 82) (tgt := 89) dX4_isFull_82 (by decide) (fun c82 => ?_) (fun c82 => ?_)
    · skip
      refine Ex.iconst (pc := 89) (v := 0) dX4_isFull_89 rfl ?_
      refine Ex.iret (pc := 90) rfl rfl rfl dX4_isFull_90 (Nat.le_refl _) (Nat.le_refl _) ?_
      refine ⟨congrArg (fun z => some (Value.int z)) ?_, rfl⟩
      show _ = bI (decide (6 ≤ pl.1 1))
      rw [decide_eq_false (fun q => absurd c82 (nI_nlt (b := 6) q (by omega)))]; rfl
    · skip
      refine Ex.iconst (pc := 85) (v := 1) dX4_isFull_85 rfl ?_
      refine Ex.goto (pc := 86) (tgt := 90) dX4_isFull_86 (by decide) ?_
      refine Ex.iret (pc := 90) rfl rfl rfl dX4_isFull_90 (Nat.le_refl _) (Nat.le_refl _) ?_
      refine ⟨congrArg (fun z => some (Value.int z)) ?_, rfl⟩
      show _ = bI (decide (6 ≤ pl.1 1))
      rw [decide_eq_true (Nat.not_lt.mp (fun q => c82 (nI_lt (b := 6) q (by decide))))]; rfl
  · skip
    have hc := p1 2 (by decide)
    have h6 := hc.2.1
    refine Ex.iload_n (pc := 0) dX4_isFull_0 rfl rfl ?_
    refine Ex.lookup (pc := 1) (off := 90) (tgt := 91) dX4_isFull_1 (by decide) (by decide) (by decide) ?_
    refine Ex.aload_n (pc := 91) dX4_isFull_91 rfl rfl ?_
    refine Ex.getR (pc := 92) dX4_isFull_92 fX4_57 (s2_81 _ _) r2_81_2 ?_
    refine Ex.getR (pc := 95) dX4_isFull_95 fX4_148 (s2_82 _ _) r2_82_0 ?_
    refine Ex.iconst (pc := 98) (v := 2) dX4_isFull_98 rfl ?_
    refine Ex.iald (pc := 99) (j := 2) dX4_isFull_99 (s2_83 _ _) (by unfold vp_in; decide) (by decide) ?_
    refine Ex.bipush (pc := 100) (v := 6) dX4_isFull_100 rfl ?_
    rw [hc.1]
    refine Ex.icmp_lt (pc := 102) (tgt := 109) dX4_isFull_102 (by decide) (fun c102 => ?_) (fun c102 => ?_)
    · skip
      refine Ex.iconst (pc := 109) (v := 0) dX4_isFull_109 rfl ?_
      refine Ex.iret (pc := 110) rfl rfl rfl dX4_isFull_110 (Nat.le_refl _) (Nat.le_refl _) ?_
      refine ⟨congrArg (fun z => some (Value.int z)) ?_, rfl⟩
      show _ = bI (decide (6 ≤ pl.1 2))
      rw [decide_eq_false (fun q => absurd c102 (nI_nlt (b := 6) q (by omega)))]; rfl
    · skip
      refine Ex.iconst (pc := 105) (v := 1) dX4_isFull_105 rfl ?_
      refine Ex.goto (pc := 106) (tgt := 110) dX4_isFull_106 (by decide) ?_
      refine Ex.iret (pc := 110) rfl rfl rfl dX4_isFull_110 (Nat.le_refl _) (Nat.le_refl _) ?_
      refine ⟨congrArg (fun z => some (Value.int z)) ?_, rfl⟩
      show _ = bI (decide (6 ≤ pl.1 2))
      rw [decide_eq_true (Nat.not_lt.mp (fun q => c102 (nI_lt (b := 6) q (by decide))))]; rfl
  · skip
    refine Ex.iload_n (pc := 0) dX4_isFull_0 rfl rfl ?_
    refine Ex.lookup (pc := 1) (off := 112) (tgt := 113) dX4_isFull_1 (by decide) (by decide) (by decide) ?_
    refine Ex.aload_n (pc := 113) dX4_isFull_113 rfl rfl ?_
    refine Ex.getR (pc := 114) dX4_isFull_114 fX4_57 (s2_81 _ _) r2_81_2 ?_
    refine Ex.iload_n (pc := 117) dX4_isFull_117 rfl rfl ?_
    refine Ex.callV (pc := 118) (As := [.int _]) (rest := []) dX4_isFull_118 cX4_152 (t_hasRule (k := 9) hP (by decide) (by decide)) (s2_82 _ _) rfl rfl (by decide) (Nat.le_refl _) (Nat.le_refl _) (Nat.le_of_ble_eq_true rfl) (Or.inl (fun r S' h => by obtain ⟨_, h⟩ := h; subst h; rfl)) (fun r S' hq _ _ => ?_)
    obtain ⟨rfl, rfl⟩ := hq
    refine Ex.iret (pc := 121) rfl rfl (bI_nar _) dX4_isFull_121 (Nat.le_refl _) (Nat.le_refl _) ?_
    exact ⟨rfl, rfl⟩
  · skip
    refine Ex.iload_n (pc := 0) dX4_isFull_0 rfl rfl ?_
    refine Ex.lookup (pc := 1) (off := 112) (tgt := 113) dX4_isFull_1 (by decide) (by decide) (by decide) ?_
    refine Ex.aload_n (pc := 113) dX4_isFull_113 rfl rfl ?_
    refine Ex.getR (pc := 114) dX4_isFull_114 fX4_57 (s2_81 _ _) r2_81_2 ?_
    refine Ex.iload_n (pc := 117) dX4_isFull_117 rfl rfl ?_
    refine Ex.callV (pc := 118) (As := [.int _]) (rest := []) dX4_isFull_118 cX4_152 (t_hasRule (k := 10) hP (by decide) (by decide)) (s2_82 _ _) rfl rfl (by decide) (Nat.le_refl _) (Nat.le_refl _) (Nat.le_of_ble_eq_true rfl) (Or.inl (fun r S' h => by obtain ⟨_, h⟩ := h; subst h; rfl)) (fun r S' hq _ _ => ?_)
    obtain ⟨rfl, rfl⟩ := hq
    refine Ex.iret (pc := 121) rfl rfl (bI_nar _) dX4_isFull_121 (Nat.le_refl _) (Nat.le_refl _) ?_
    exact ⟨rfl, rfl⟩
  · skip
    refine Ex.iload_n (pc := 0) dX4_isFull_0 rfl rfl ?_
    refine Ex.lookup (pc := 1) (off := 112) (tgt := 113) dX4_isFull_1 (by decide) (by decide) (by decide) ?_
    refine Ex.aload_n (pc := 113) dX4_isFull_113 rfl rfl ?_
    refine Ex.getR (pc := 114) dX4_isFull_114 fX4_57 (s2_81 _ _) r2_81_2 ?_
    refine Ex.iload_n (pc := 117) dX4_isFull_117 rfl rfl ?_
    refine Ex.callV (pc := 118) (As := [.int _]) (rest := []) dX4_isFull_118 cX4_152 (t_hasRule (k := 11) hP (by decide) (by decide)) (s2_82 _ _) rfl rfl (by decide) (Nat.le_refl _) (Nat.le_refl _) (Nat.le_of_ble_eq_true rfl) (Or.inl (fun r S' h => by obtain ⟨_, h⟩ := h; subst h; rfl)) (fun r S' hq _ _ => ?_)
    obtain ⟨rfl, rfl⟩ := hq
    refine Ex.iret (pc := 121) rfl rfl (bI_nar _) dX4_isFull_121 (Nat.le_refl _) (Nat.le_refl _) ?_
    exact ⟨rfl, rfl⟩
  · skip
    refine Ex.iload_n (pc := 0) dX4_isFull_0 rfl rfl ?_
    refine Ex.lookup (pc := 1) (off := 112) (tgt := 113) dX4_isFull_1 (by decide) (by decide) (by decide) ?_
    refine Ex.aload_n (pc := 113) dX4_isFull_113 rfl rfl ?_
    refine Ex.getR (pc := 114) dX4_isFull_114 fX4_57 (s2_81 _ _) r2_81_2 ?_
    refine Ex.iload_n (pc := 117) dX4_isFull_117 rfl rfl ?_
    refine Ex.callV (pc := 118) (As := [.int _]) (rest := []) dX4_isFull_118 cX4_152 (t_hasRule (k := 12) hP (by decide) (by decide)) (s2_82 _ _) rfl rfl (by decide) (Nat.le_refl _) (Nat.le_refl _) (Nat.le_of_ble_eq_true rfl) (Or.inl (fun r S' h => by obtain ⟨_, h⟩ := h; subst h; rfl)) (fun r S' hq _ _ => ?_)
    obtain ⟨rfl, rfl⟩ := hq
    refine Ex.iret (pc := 121) rfl rfl (bI_nar _) dX4_isFull_121 (Nat.le_refl _) (Nat.le_refl _) ?_
    exact ⟨rfl, rfl⟩
  · skip
    refine Ex.iload_n (pc := 0) dX4_isFull_0 rfl rfl ?_
    refine Ex.lookup (pc := 1) (off := 112) (tgt := 113) dX4_isFull_1 (by decide) (by decide) (by decide) ?_
    refine Ex.aload_n (pc := 113) dX4_isFull_113 rfl rfl ?_
    refine Ex.getR (pc := 114) dX4_isFull_114 fX4_57 (s2_81 _ _) r2_81_2 ?_
    refine Ex.iload_n (pc := 117) dX4_isFull_117 rfl rfl ?_
    refine Ex.callV (pc := 118) (As := [.int _]) (rest := []) dX4_isFull_118 cX4_152 (t_hasRule (k := 13) hP (by decide) (by decide)) (s2_82 _ _) rfl rfl (by decide) (Nat.le_refl _) (Nat.le_refl _) (Nat.le_of_ble_eq_true rfl) (Or.inl (fun r S' h => by obtain ⟨_, h⟩ := h; subst h; rfl)) (fun r S' hq _ _ => ?_)
    obtain ⟨rfl, rfl⟩ := hq
    refine Ex.iret (pc := 121) rfl rfl (bI_nar _) dX4_isFull_121 (Nat.le_refl _) (Nat.le_refl _) ?_
    exact ⟨rfl, rfl⟩
  · skip
    refine Ex.iload_n (pc := 0) dX4_isFull_0 rfl rfl ?_
    refine Ex.lookup (pc := 1) (off := 110) (tgt := 111) dX4_isFull_1 (by decide) (by decide) (by decide) ?_
    refine Ex.iconst (pc := 111) (v := 0) dX4_isFull_111 rfl ?_
    refine Ex.iret (pc := 112) rfl rfl rfl dX4_isFull_112 (Nat.le_refl _) (Nat.le_refl _) ?_
    exact ⟨rfl, rfl⟩
  · skip
    refine Ex.iload_n (pc := 0) dX4_isFull_0 rfl rfl ?_
    refine Ex.lookup (pc := 1) (off := 110) (tgt := 111) dX4_isFull_1 (by decide) (by decide) (by decide) ?_
    refine Ex.iconst (pc := 111) (v := 0) dX4_isFull_111 rfl ?_
    refine Ex.iret (pc := 112) rfl rfl rfl dX4_isFull_112 (Nat.le_refl _) (Nat.le_refl _) ?_
    exact ⟨rfl, rfl⟩
theorem part_e {tb : Nat → Nat} {n sc o : Nat} {sm te : Er → Er} : Fst (partF tb n sc o sm te) := fun _ => rfl
theorem prodL_e {tb : Nat → Nat} {n : Nat} {pt : Er → Er} (e : Nat × Nat) : ∀ f, prodL tb n pt f (.error e) = .error e
  | 0 => rfl
  | _ + 1 => rfl
theorem sumL_e {tb : Nat → Nat} {n : Nat} {pt : Er → Er} (e : Nat × Nat) : ∀ f, sumL tb n pt f (.error e) = .error e
  | 0 => rfl
  | _ + 1 => rfl
theorem wordL_e {tb : Nat → Nat} {n w k : Nat} {pt : Er → Er} (e : Nat × Nat) : ∀ f, wordL tb n w k pt f (.error e) = .error e
  | 0 => rfl
  | _ + 1 => rfl
theorem prodF_e {tb : Nat → Nat} {n : Nat} {pt : Er → Er} (h : Fst pt) : Fst (prodF tb n pt) := fun e => by unfold prodF; rw [h]; exact prodL_e e n
theorem sumF_e {tb : Nat → Nat} {n : Nat} {pt : Er → Er} (h : Fst pt) : Fst (sumF tb n pt) := fun e => by unfold sumF; rw [h]; exact sumL_e e n
theorem bothF_e {tb : Nat → Nat} {n : Nat} {pt : Er → Er} (h : Fst pt) : Fst (bothF tb n pt) := fun e => by unfold bothF; rw [h]; exact wordL_e e n
theorem testF_e {tb : Nat → Nat} {n : Nat} {pt : Er → Er} (h : Fst pt) : Fst (testF tb n pt) := fun e => by unfold testF; rw [h]; exact wordL_e e n
theorem compF_e {tb : Nat → Nat} {n : Nat} {sm : Er → Er} (h : Fst sm) : Fst (compF tb n sm) := fun e => by unfold compF; rw [h]; rfl
theorem factF_e {tb : Nat → Nat} {n o : Nat} {fa te cm : Er → Er} (h : Fst cm) : Fst (factF tb n o fa te cm) := fun e => by
  show cm (.error e) = _
  exact h e
theorem mkL_e {tb : Nat → Nat} {n sc o : Nat} {q : (Er → Er) × (Er → Er) × (Er → Er)} : Fst (mkL tb n sc o q).1 ∧ Fst (mkL tb n sc o q).2.1 ∧ Fst (mkL tb n sc o q).2.2 :=
  ⟨sumF_e (prodF_e part_e), testF_e (bothF_e (factF_e (compF_e (sumF_e (prodF_e part_e))))), factF_e (compF_e (sumF_e (prodF_e part_e)))⟩
theorem lvl_e {tb : Nat → Nat} {n sc : Nat} : ∀ m, Fst (lvl tb n sc m).1 ∧ Fst (lvl tb n sc m).2.1 ∧ Fst (lvl tb n sc m).2.2
  | 0 => mkL_e
  | _ + 1 => mkL_e
def ruF (tb : Nat → Nat) (n k : Nat) (r : Er) : Er := if k = 11 ∨ k = 12 then (lvl tb n k 7).2.1 r else (lvl tb n k 7).1 r
theorem ruF_e (tb : Nat → Nat) (n k : Nat) : Fst (ruF tb n k) := fun e => by
  unfold ruF
  split
  · exact (lvl_e 7).2.1 e
  · exact (lvl_e 7).1 e
def plU (pl : Pl) (i a b : Nat) : Pl := (pl.1, pl.2.1, pl.2.2.1, pl.2.2.2.1, pl.2.2.2.2.1, pl.2.2.2.2.2.1, fun j => if j = i then a else pl.2.2.2.2.2.2.1 j, fun j => if j = i then b else pl.2.2.2.2.2.2.2 j)
theorem lenR_le {n : Nat} {I : aI} {r : Er} {d : Nat} {p : Bool} (h : PxR n I d p r) : lenR r ≤ n := by
  cases r with
  | error e => exact Nat.zero_le _
  | ok q =>
    obtain ⟨t, c⟩ := q
    have h : PxO n I d p t c := h
    have h1 := h.2.2.2.1
    have h2 := h.2.1.2.2.1
    have h3 := h.2.1.2.2.2.1
    unfold potT at h1
    show c.length ≤ n
    split at h1 <;> omega
/-- the scope alone is written -/
theorem Pz.f10 {tb : Nat → Nat} {n : Nat} {v : Int32} {I Ib : aI} {r : Er} {pl : Pl} (h : Pz tb n Ib I r pl) : Pz tb n Ib (pf I 10 v) r pl := by
  obtain ⟨⟨g1, g6⟩, g2, g3, g4⟩ := h
  obtain ⟨J, hJ⟩ : ∃ z, z = pf I 10 v := ⟨_, rfl⟩
  rw [← hJ]
  have jS : Sm [81] I J := by rw [hJ]; exact Sm.rf.up (by decide)
  have j81 : ∀ j, j ≠ 10 → J 81 j = I 81 j := fun j q => by rw [hJ, pf_n q]
  refine ⟨⟨g1.tr jS (fun _ q => q) (by decide), by rw [jS 82 (by decide)]; exact g6⟩, ⟨g2.1.sm jS (by decide), by rw [j81 1 (by decide)]; exact g2.2.1, g2.2.2⟩, ?_, ?_⟩
  · cases r with
    | error e =>
      have g3 : PxE n I e := g3
      show PxE n J e
      unfold PxE
      rw [j81 3 (by decide), j81 4 (by decide), j81 7 (by decide), jS 82 (by decide)]
      exact g3
    | ok q =>
      obtain ⟨t, c⟩ := q
      have g3 : PxO n I 0 false t c := g3
      show PxO n J 0 false t c
      unfold PxO TkC
      rw [j81 3 (by decide), j81 4 (by decide), j81 5 (by decide), j81 6 (by decide), j81 7 (by decide), j81 8 (by decide), j81 9 (by decide), jS 82 (by decide), jS 89 (by decide)]
      exact g3
  · cases r with
    | error e => exact fun q hq => by rw [jS 83 (by decide)]; exact (g4 : PlX I) q hq
    | ok s =>
      have hP : PlO I pl := g4
      obtain ⟨q1, q2, q3, q4⟩ := hP
      refine ⟨fun q hq => ?_, ?_, ?_, fun i hi => ?_⟩
      · rw [jS 83 (by decide), jS 84 (by decide), jS 85 (by decide), jS 86 (by decide)]; exact q1 q hq
      · rw [jS 82 (by decide)]; exact q2
      · rw [jS 82 (by decide)]; exact q3
      · rw [jS 87 (by decide), jS 88 (by decide)]; exact q4 i hi
/-- a rule begins: the scope and the first step -/
theorem rule_j {n k : Nat} {I Ib J : aI} {tb : Nat → Nat} {r : Er} {pl : Pl} (h : Pz tb n Ib I r pl) (hJ : J = va_up (pf I 10 (nI k)) 87 (upd (I 87) (k - 9) (I 82 8))) : PB tb n J ∧ J 81 10 = nI k ∧ Px n J J 0 false r := by
  obtain ⟨⟨g1, g6⟩, g2, g3, g4⟩ := id h
  have jS : Sm [81, 87] I J := by rw [hJ]; exact (Sm.rf.up (by decide)).up (by decide)
  have j81 : ∀ j, j ≠ 10 → J 81 j = I 81 j := fun j q => by rw [hJ, va_up_n (by decide), pf_n q]
  have j10 : J 81 10 = nI k := by rw [hJ, va_up_n (by decide), pf_s]
  have jB : PB tb n J := ⟨g2.1.sm jS (by decide), by rw [j81 1 (by decide)]; exact g2.2.1, g2.2.2⟩
  have jR : PxR n J 0 false r := by
    cases r with
    | error e =>
      have g3 : PxE n I e := g3
      show PxE n J e
      unfold PxE
      rw [j81 3 (by decide), j81 4 (by decide), j81 7 (by decide), jS 82 (by decide)]
      exact g3
    | ok q =>
      obtain ⟨t, c⟩ := q
      have g3 : PxO n I 0 false t c := g3
      show PxO n J 0 false t c
      unfold PxO TkC
      rw [j81 3 (by decide), j81 4 (by decide), j81 5 (by decide), j81 6 (by decide), j81 7 (by decide), j81 8 (by decide), j81 9 (by decide), jS 82 (by decide), jS 89 (by decide)]
      exact g3
  exact ⟨jB, j10, ⟨Sm.rf, fun _ _ => rfl, fun _ _ => rfl⟩, jR⟩
/-- a rule ends -/
theorem rule_z {n k : Nat} {I Ib J I2 : aI} {tb : Nat → Nat} {r : Er} {pl : Pl} (h : Pz tb n Ib I r pl) (hJ : J = va_up (pf I 10 (nI k)) 87 (upd (I 87) (k - 9) (I 82 8))) (hk9 : 9 ≤ k) (hk13 : k ≤ 13) (p2 : Px n J I2 0 false (ruF tb n k r)) : Pz tb n Ib (va_up I2 88 (upd (I2 88) (k - 9) (I2 82 8))) (ruF tb n k r) (plU pl (k - 9) (lenR r) (lenR (ruF tb n k r))) := by
  obtain ⟨jB, j10, jX⟩ := rule_j h hJ
  obtain ⟨⟨g1, g6⟩, g2, g3, g4⟩ := id h
  have jS : Sm [81, 87] I J := by rw [hJ]; exact (Sm.rf.up (by decide)).up (by decide)
  have hfe := ruF_e tb n k
  have hln := lenR_le p2.2
  have hln0 := lenR_le g3
  have hn16 := g2.2.2
  obtain ⟨r2, hr2⟩ : ∃ z, z = ruF tb n k r := ⟨_, rfl⟩
  rw [← hr2] at p2 hln ⊢
  obtain ⟨J2, hJ2⟩ : ∃ z, z = va_up I2 88 (upd (I2 88) (k - 9) (I2 82 8)) := ⟨_, rfl⟩
  have kS : Sm [88] I2 J2 := by rw [hJ2]; exact Sm.rf.up (by decide)
  have aS : Sm Al I J2 := (jS.tr p2.1.1 (l := Al) (by decide) (by decide)).tr kS (by decide) (by decide)
  obtain ⟨x1, x2, x3⟩ := jB.tx p2.1
  rw [← hJ2]
  refine ⟨⟨g1.tr aS (fun _ q => q) (fun _ q => q), ?_⟩, ⟨x1.sm kS (by decide), by rw [kS 81 (by decide)]; exact x2, x3⟩, ?_, ?_⟩
  · rw [kS 82 (by decide), p2.1.2.2 6 (by decide), jS 82 (by decide)]; exact g6
  · cases r2 with
    | error e => exact (by have q : PxE n I2 e := p2.2; show PxE n J2 e; unfold PxE; rw [kS 81 (by decide), kS 82 (by decide)]; exact q)
    | ok q => obtain ⟨t, c⟩ := q; exact (by have q : PxO n I2 0 false t c := p2.2; show PxO n J2 0 false t c; unfold PxO TkC; rw [kS 81 (by decide), kS 82 (by decide), kS 89 (by decide)]; exact q)
  · cases r2 with
    | error e =>
      intro q hq
      rw [kS 83 (by decide), p2.1.1 83 (by decide), jS 83 (by decide)]
      exact g4.x q hq
    | ok s =>
      cases r with
      | error e => rw [hfe e] at hr2; cases hr2
      | ok s0 =>
        obtain ⟨t0, c0⟩ := s0
        obtain ⟨t, c⟩ := s
        have hP : PlO I pl := g4
        obtain ⟨q1, q2, q3, q4⟩ := hP
        have o0 : PxO n I 0 false t0 c0 := g3
        have o2 : PxO n I2 0 false t c := p2.2
        have e83 : ∀ a, a ∉ [81, 82, 87, 88, 89] → J2 a = I a := fun a ha => by rw [kS a (fun z => ha (by revert z; simp; omega)), p2.1.1 a (fun z => ha (by revert z; simp; omega)), jS a (fun z => ha (by revert z; simp; omega))]
        refine ⟨fun q hq => ?_, ?_, ?_, fun i hi => ?_⟩
        · rw [e83 83 (by decide), e83 84 (by decide), e83 85 (by decide), e83 86 (by decide)]; exact q1 q hq
        · rw [kS 82 (by decide), p2.1.2.2 4 (by decide), jS 82 (by decide)]; exact q2
        · rw [kS 82 (by decide), p2.1.2.2 5 (by decide), jS 82 (by decide)]; exact q3
        · obtain ⟨y1, y2, y3, y4⟩ := q4 i hi
          have f87 : J2 87 = upd (I 87) (k - 9) (nI c0.length) := by rw [kS 87 (by decide), p2.1.1 87 (by decide), hJ, va_up_s, o0.2.2.1]
          have f88 : J2 88 = upd (I 88) (k - 9) (nI c.length) := by rw [hJ2, va_up_s, p2.1.1 88 (by decide), jS 88 (by decide), o2.2.2.1]
          rw [f87, f88]
          have hl0 : c0.length ≤ n := hln0
          have hl2 : c.length ≤ n := hln
          by_cases e : i = k - 9
          · subst e
            rw [upd_s, upd_s]
            have z1 : (plU pl (k - 9) (lenR (Except.ok (t0, c0))) (lenR (Except.ok (t, c)))).2.2.2.2.2.2.1 (k - 9) = c0.length := by show (if k - 9 = k - 9 then _ else _) = _; rw [if_pos rfl]; rfl
            have z2 : (plU pl (k - 9) (lenR (Except.ok (t0, c0))) (lenR (Except.ok (t, c)))).2.2.2.2.2.2.2 (k - 9) = c.length := by show (if k - 9 = k - 9 then _ else _) = _; rw [if_pos rfl]; rfl
            rw [z1, z2]
            exact ⟨rfl, rfl, by omega, by omega⟩
          · rw [upd_n e, upd_n e]
            have z1 : (plU pl (k - 9) (lenR (Except.ok (t0, c0))) (lenR (Except.ok (t, c)))).2.2.2.2.2.2.1 i = pl.2.2.2.2.2.2.1 i := by show (if i = k - 9 then _ else _) = _; rw [if_neg e]
            have z2 : (plU pl (k - 9) (lenR (Except.ok (t0, c0))) (lenR (Except.ok (t, c)))).2.2.2.2.2.2.2 i = pl.2.2.2.2.2.2.2 i := by show (if i = k - 9 then _ else _) = _; rw [if_neg e]
            rw [z1, z2]
            exact ⟨y1, y2, y3, y4⟩
