def inR (w : Int32) (n : Nat) : Bool := decide (¬ w < 0 ∧ ¬ nI n ≤ w)
theorem inR_of {w : Int32} {n : Nat} (h : inR w n = true) (hn : n < 2 ^ 31) : ∃ j, j < n ∧ w = nI j := by
  have h := of_decide_eq_true h
  rcases pk_ix w hn with q | q | q
  · exact absurd q h.1
  · exact absurd q h.2
  · exact q
theorem inR_nI {j n : Nat} (h : j < n) (hn : n < 2 ^ 31) : inR (nI j) n = true := decide_eq_true ⟨nI_pos (by omega), nI_ge h hn⟩
theorem bI_0 {b : Bool} (h : bI b = 0) : b = false := by cases b; rfl; exact absurd h (by decide)
theorem bI_1 {b : Bool} (h : ¬ bI b = 0) : b = true := by cases b; exact absurd rfl h; rfl
theorem bI_nar (b : Bool) : narrow .boolean (.int (bI b)) = .int (bI b) := by cases b <;> rfl
theorem sm2 {w : Int32} (h0 : ¬ w < 0) (h1 : w ≤ 1) : w = 0 ∨ w = 1 := by
  obtain ⟨j, hj, rfl⟩ := nI_of2 (n := 1) (by decide) h0 h1
  rcases (show j = 0 ∨ j = 1 by omega) with rfl | rfl
  · exact Or.inl rfl
  · exact Or.inr rfl
theorem sm3 {w : Int32} (h0 : ¬ w < 0) (h1 : w ≤ 2) : w = 0 ∨ w = 1 ∨ w = 2 := by
  obtain ⟨j, hj, rfl⟩ := nI_of2 (n := 2) (by decide) h0 h1
  rcases (show j = 0 ∨ j = 1 ∨ j = 2 by omega) with rfl | rfl | rfl
  · exact Or.inl rfl
  · exact Or.inr (Or.inl rfl)
  · exact Or.inr (Or.inr rfl)
theorem t_holdsB {N : Nat} {I : aI} {L : aL} {s n : Nat} {w : Int32} (hs : s < 3) (hc : I 3 s = nI n) : Run 0 0 0 mX5_holds [.ref 2, .int (nI s), .int w] (St N I L) (RI (bI (inR w n)) (St N I L)) := by
  refine (t_holds (N := N) (I := I) (L := L) (w := w) hs).imp ?_
  rintro r S' ⟨rfl, rfl⟩
  refine ⟨?_, rfl⟩
  rw [hc]
  by_cases h1 : w < 0
  · simp [h1, inR, bI]
  · by_cases h2 : nI n ≤ w
    · simp [h1, h2, inR, bI]
    · simp only [h1, h2, inR, bI, if_false, not_false_eq_true, and_self, decide_true, if_true]
def refI (I : aI) (k : Nat) : aI := va_up I 35 (upd (I 35) k (I 35 k + 1))
def forgI (I : aI) : aI := va_up (va_up I 26 (upd (I 26) 0 0)) 30 (upd (I 30) 0 (-1))

set_option maxRecDepth 20000 in
theorem t_refuse {N : Nat} {I : aI} {L : aL} {k : Nat} (hk : k < 6) : Run 0 0 0 mX9_refuse [.ref 0, .int (nI k)] (St N I L) (RI (-1) (St N (refI I k) L)) := by
  refine Run.of (ls := [some (.ref 0), some (.int _)]) (by decide) (Nat.le_of_ble_eq_true rfl) rfl ?_
  refine Ex.aload_n (pc := 0) dX9_refuse_0 rfl rfl ?_
  refine Ex.getR (pc := 1) dX9_refuse_1 fX9_99 (sh0 _) r0_16 ?_
  refine Ex.iload_n (pc := 4) dX9_refuse_4 rfl rfl ?_
  refine Ex.dup2 (pc := 5) dX9_refuse_5 rfl rfl ?_
  refine Ex.iald (pc := 6) (j := k) dX9_refuse_6 (sh35 _) (vp_in_nI hk (by decide)) (ixN2 (by omega)) ?_
  refine Ex.iconst (pc := 7) (v := 1) dX9_refuse_7 rfl ?_
  refine Ex.iadd (pc := 8) dX9_refuse_8 ?_
  refine Ex.iast (pc := 9) (j := k) dX9_refuse_9 (sh35 _) (vp_in_nI hk (by decide)) (ixN2 (by omega)) ?_
  refine Ex.iconst (pc := 10) (v := (-1)) dX9_refuse_10 rfl ?_
  refine Ex.iret (pc := 11) rfl rfl rfl dX9_refuse_11 (Nat.le_refl _) (Nat.le_refl _) ?_
  exact ⟨rfl, rfl⟩
set_option maxRecDepth 20000 in
theorem t_deny {N : Nat} {I : aI} {L : aL} {k : Nat} (hk : k < 6) : Run 0 0 0 mX9_deny [.ref 0, .int (nI k)] (St N I L) (RI (0) (St N (refI I k) L)) := by
  refine Run.of (ls := [some (.ref 0), some (.int _)]) (by decide) (Nat.le_of_ble_eq_true rfl) rfl ?_
  refine Ex.aload_n (pc := 0) dX9_deny_0 rfl rfl ?_
  refine Ex.getR (pc := 1) dX9_deny_1 fX9_99 (sh0 _) r0_16 ?_
  refine Ex.iload_n (pc := 4) dX9_deny_4 rfl rfl ?_
  refine Ex.dup2 (pc := 5) dX9_deny_5 rfl rfl ?_
  refine Ex.iald (pc := 6) (j := k) dX9_deny_6 (sh35 _) (vp_in_nI hk (by decide)) (ixN2 (by omega)) ?_
  refine Ex.iconst (pc := 7) (v := 1) dX9_deny_7 rfl ?_
  refine Ex.iadd (pc := 8) dX9_deny_8 ?_
  refine Ex.iast (pc := 9) (j := k) dX9_deny_9 (sh35 _) (vp_in_nI hk (by decide)) (ixN2 (by omega)) ?_
  refine Ex.iconst (pc := 10) (v := 0) dX9_deny_10 rfl ?_
  refine Ex.iret (pc := 11) rfl rfl rfl dX9_deny_11 (Nat.le_refl _) (Nat.le_refl _) ?_
  exact ⟨rfl, rfl⟩
set_option maxRecDepth 20000 in
theorem t_forgetAnswers {N : Nat} {I : aI} {L : aL} : Run 0 0 0 mX9_forgetAnswers [.ref 0] (St N I L) (RV (St N (forgI I) L)) := by
  refine Run.of (ls := [some (.ref 0)]) (by decide) (Nat.le_of_ble_eq_true rfl) rfl ?_
  refine Ex.aload_n (pc := 0) dX9_forgetAnswers_0 rfl rfl ?_
  refine Ex.getR (pc := 1) dX9_forgetAnswers_1 fX9_77 (sh0 _) r0_11 ?_
  refine Ex.iconst (pc := 4) (v := 0) dX9_forgetAnswers_4 rfl ?_
  refine Ex.putI (pc := 5) dX9_forgetAnswers_5 fX9_225 (sh26 _) (Or.inl rfl) ⟨rfl, rfl⟩ ?_
  refine Ex.aload_n (pc := 8) dX9_forgetAnswers_8 rfl rfl ?_
  refine Ex.getR (pc := 9) dX9_forgetAnswers_9 fX9_84 (sh0 _) r0_12 ?_
  refine Ex.iconst (pc := 12) (v := (-1)) dX9_forgetAnswers_12 rfl ?_
  refine Ex.putI (pc := 13) dX9_forgetAnswers_13 fX9_238 (sh30 _) (Or.inl rfl) ⟨rfl, rfl⟩ ?_
  refine Ex.vret (pc := 16) rfl dX9_forgetAnswers_16 (Nat.le_refl _) (Nat.le_refl _) ?_
  exact ⟨rfl, by simp only [forgI]; rw [va_up_n (show (30 : Nat) ≠ 26 by decide)]⟩
set_option maxRecDepth 20000 in
theorem t_status {N : Nat} {I : aI} {L : aL} {w : Int32} : Run 0 0 0 mX9_status [.ref 0, .int w] (St N I L) (RI (if inR w 6 = true then I 35 w.toNatClampNeg else -1) (St N I L)) := by
  refine Run.of (ls := [some (.ref 0), some (.int _)]) (by decide) (Nat.le_of_ble_eq_true rfl) rfl ?_
  refine Ex.iload_n (pc := 0) dX9_status_0 rfl rfl ?_
  refine Ex.if_lt (pc := 1) (tgt := 22) dX9_status_1 (by decide) (fun c1 => ?_) (fun c1 => ?_)
  · skip
    refine Ex.iconst (pc := 22) (v := (-1)) dX9_status_22 rfl ?_
    refine Ex.iret (pc := 23) rfl rfl rfl dX9_status_23 (Nat.le_refl _) (Nat.le_refl _) ?_
    exact ⟨by simp_all [inR, nI], rfl⟩
  · skip
    refine Ex.iload_n (pc := 4) dX9_status_4 rfl rfl ?_
    refine Ex.aload_n (pc := 5) dX9_status_5 rfl rfl ?_
    refine Ex.getR (pc := 6) dX9_status_6 fX9_99 (sh0 _) r0_16 ?_
    refine Ex.alen (pc := 9) (t := 0) dX9_status_9 (sh35 _) (by decide) ?_
    refine Ex.icmp_ge (pc := 10) (tgt := 22) dX9_status_10 (by decide) (fun c10 => ?_) (fun c10 => ?_)
    · skip
      refine Ex.iconst (pc := 22) (v := (-1)) dX9_status_22 rfl ?_
      refine Ex.iret (pc := 23) rfl rfl rfl dX9_status_23 (Nat.le_refl _) (Nat.le_refl _) ?_
      exact ⟨by simp_all [inR, nI], rfl⟩
    · skip
      refine Ex.aload_n (pc := 13) dX9_status_13 rfl rfl ?_
      refine Ex.getR (pc := 14) dX9_status_14 fX9_99 (sh0 _) r0_16 ?_
      refine Ex.iload_n (pc := 17) dX9_status_17 rfl rfl ?_
      refine Ex.iald (pc := 18) dX9_status_18 (sh35 _) (fun q => q.elim (fun h => c1 h) (fun h => c10 (by rw [Int32.le_iff_toInt_le]; show (6 : Int) ≤ w.toInt; unfold Int32.toNatClampNeg at h; omega))) rfl ?_
      refine Ex.goto (pc := 19) (tgt := 23) dX9_status_19 (by decide) ?_
      refine Ex.iret (pc := 23) rfl rfl rfl dX9_status_23 (Nat.le_refl _) (Nat.le_refl _) ?_
      exact ⟨by simp_all [inR, nI], rfl⟩
set_option maxRecDepth 20000 in
theorem t_fault {N : Nat} {I : aI} {L : aL} {w : Int32} : Run 0 0 0 mX9_fault [.ref 0, .int w] (St N I L) (RI (if w = 0 then I 0 3 else if w = 1 then I 0 4 else -1) (St N I L)) := by
  refine Run.of (ls := [some (.ref 0), some (.int _)]) (by decide) (Nat.le_of_ble_eq_true rfl) rfl ?_
  refine Ex.iload_n (pc := 0) dX9_fault_0 rfl rfl ?_
  refine Ex.if_ne (pc := 1) (tgt := 9) dX9_fault_1 (by decide) (fun c1 => ?_) (fun c1 => ?_)
  · skip
    refine Ex.iload_n (pc := 9) dX9_fault_9 rfl rfl ?_
    refine Ex.iconst (pc := 10) (v := 1) dX9_fault_10 rfl ?_
    refine Ex.icmp_ne (pc := 11) (tgt := 21) dX9_fault_11 (by decide) (fun c11 => ?_) (fun c11 => ?_)
    · skip
      refine Ex.iconst (pc := 21) (v := (-1)) dX9_fault_21 rfl ?_
      refine Ex.iret (pc := 22) rfl rfl rfl dX9_fault_22 (Nat.le_refl _) (Nat.le_refl _) ?_
      exact ⟨by simp [*], rfl⟩
    · skip
      refine Ex.aload_n (pc := 14) dX9_fault_14 rfl rfl ?_
      refine Ex.getI (pc := 15) dX9_fault_15 fX9_29 (sh0 _) ?_
      refine Ex.goto (pc := 18) (tgt := 22) dX9_fault_18 (by decide) ?_
      refine Ex.iret (pc := 22) rfl rfl rfl dX9_fault_22 (Nat.le_refl _) (Nat.le_refl _) ?_
      exact ⟨by simp [*], rfl⟩
  · skip
    refine Ex.aload_n (pc := 4) dX9_fault_4 rfl rfl ?_
    refine Ex.getI (pc := 5) dX9_fault_5 fX9_26 (sh0 _) ?_
    refine Ex.iret (pc := 8) rfl rfl rfl dX9_fault_8 (Nat.le_refl _) (Nat.le_refl _) ?_
    exact ⟨by simp [*], rfl⟩
set_option maxRecDepth 20000 in
theorem t_board {N : Nat} {I : aI} {L : aL} {nb ns nh : Nat} {w v : Int32} (hc : CntOk I nb ns nh) : Run 1 0 0 mX9_board [.ref 0, .int w, .int v] (St N I L) (RI (if inR w nb = false then -1 else if v = 0 then I 5 w.toNatClampNeg else if v = 1 then I 11 w.toNatClampNeg else -1) (St N I L)) := by
  refine Run.of (ls := [some (.ref 0), some (.int _), some (.int _)]) (by decide) (Nat.le_of_ble_eq_true rfl) rfl ?_
  obtain ⟨hc0, hb5, hc1, hs6, hc2, hh6, hrib⟩ := hc
  refine Ex.aload_n (pc := 0) dX9_board_0 rfl rfl ?_
  refine Ex.getR (pc := 1) dX9_board_1 fX9_22 (sh0 _) r0_2 ?_
  refine Ex.iconst (pc := 4) (v := 0) dX9_board_4 rfl ?_
  refine Ex.iload_n (pc := 5) dX9_board_5 rfl rfl ?_
  refine Ex.callV (pc := 6) (As := [.int 0, .int _]) (rest := []) dX9_board_6 cX9_182 (t_holdsB (s := 0) (n := nb) (by decide) hc0) (sh2 _) rfl rfl (by decide) (Nat.le_refl _) (Nat.le_refl _) (Nat.le_of_ble_eq_true rfl) (Or.inl (fun r S' h => by obtain ⟨_, h⟩ := h; subst h; rfl)) (fun r S' hq _ _ => ?_)
  obtain ⟨rfl, rfl⟩ := hq
  refine Ex.if_eq (pc := 9) (tgt := 21) dX9_board_9 (by decide) (fun c9 => ?_) (fun c9 => ?_)
  · skip
    refine Ex.iconst (pc := 21) (v := (-1)) dX9_board_21 rfl ?_
    refine Ex.iret (pc := 22) rfl rfl rfl dX9_board_22 (Nat.le_refl _) (Nat.le_refl _) ?_
    exact ⟨by simp [bI_0 c9], rfl⟩
  · skip
    have hin := bI_1 c9
    obtain ⟨j, hj, rfl⟩ := inR_of hin (by omega)
    refine Ex.iload_n (pc := 12) dX9_board_12 rfl rfl ?_
    refine Ex.if_lt (pc := 13) (tgt := 21) dX9_board_13 (by decide) (fun c13 => ?_) (fun c13 => ?_)
    · skip
      refine Ex.iconst (pc := 21) (v := (-1)) dX9_board_21 rfl ?_
      refine Ex.iret (pc := 22) rfl rfl rfl dX9_board_22 (Nat.le_refl _) (Nat.le_refl _) ?_
      refine ⟨congrArg (fun z => some (Value.int z)) ?_, rfl⟩
      rw [if_neg (by rw [hin]; decide), nI_clamp (by omega)]
      rw [if_neg (fun q => absurd (q ▸ c13) (by decide)), if_neg (fun q => absurd (q ▸ c13) (by decide))]
    · skip
      refine Ex.iload_n (pc := 16) dX9_board_16 rfl rfl ?_
      refine Ex.iconst (pc := 17) (v := 1) dX9_board_17 rfl ?_
      refine Ex.icmp_le (pc := 18) (tgt := 23) dX9_board_18 (by decide) (fun c18 => ?_) (fun c18 => ?_)
      · skip
        refine Ex.iload_n (pc := 23) dX9_board_23 rfl rfl ?_
        refine Ex.if_ne (pc := 24) (tgt := 38) dX9_board_24 (by decide) (fun c24 => ?_) (fun c24 => ?_)
        · skip
          refine Ex.aload_n (pc := 38) dX9_board_38 rfl rfl ?_
          refine Ex.getR (pc := 39) dX9_board_39 fX9_35 (sh0 _) r0_5 ?_
          refine Ex.getR (pc := 42) dX9_board_42 fX9_179 (sh10 _) r10_4 ?_
          refine Ex.iload_n (pc := 45) dX9_board_45 rfl rfl ?_
          refine Ex.iald (pc := 46) (j := j) dX9_board_46 (sh11 _) (vp_in_nI (by omega) (by decide)) (ixN2 (by omega)) ?_
          refine Ex.iret (pc := 47) rfl rfl rfl dX9_board_47 (Nat.le_refl _) (Nat.le_refl _) ?_
          refine ⟨congrArg (fun z => some (Value.int z)) ?_, rfl⟩
          rw [if_neg (by rw [hin]; decide), nI_clamp (by omega)]
          rcases sm2 c13 c18 with q | q
          · exact absurd q c24
          · rw [if_neg c24, if_pos q]
        · skip
          refine Ex.aload_n (pc := 27) dX9_board_27 rfl rfl ?_
          refine Ex.getR (pc := 28) dX9_board_28 fX9_22 (sh0 _) r0_2 ?_
          refine Ex.iload_n (pc := 31) dX9_board_31 rfl rfl ?_
          refine Ex.callV (pc := 32) (As := [.int _]) (rest := []) dX9_board_32 cX9_189 (t_ribs (j := j) (by omega)) (sh2 _) rfl rfl (by decide) (Nat.le_refl _) (Nat.le_refl _) (Nat.le_of_ble_eq_true rfl) (Or.inl (fun r S' h => by obtain ⟨_, h⟩ := h; subst h; rfl)) (fun r S' hq _ _ => ?_)
          obtain ⟨rfl, rfl⟩ := hq
          refine Ex.goto (pc := 35) (tgt := 47) dX9_board_35 (by decide) ?_
          refine Ex.iret (pc := 47) rfl rfl rfl dX9_board_47 (Nat.le_refl _) (Nat.le_refl _) ?_
          refine ⟨congrArg (fun z => some (Value.int z)) ?_, rfl⟩
          rw [if_neg (by rw [hin]; decide), nI_clamp (by omega)]
          rw [if_pos c24]; rw [Nat.zero_add]
      · skip
        refine Ex.iconst (pc := 21) (v := (-1)) dX9_board_21 rfl ?_
        refine Ex.iret (pc := 22) rfl rfl rfl dX9_board_22 (Nat.le_refl _) (Nat.le_refl _) ?_
        refine ⟨congrArg (fun z => some (Value.int z)) ?_, rfl⟩
        rw [if_neg (by rw [hin]; decide), nI_clamp (by omega)]
        rw [if_neg (show ¬ v = 0 from fun q => c18 (by rw [q]; decide)), if_neg (show ¬ v = 1 from fun q => c18 (by rw [q]; decide))]
set_option maxRecDepth 20000 in
theorem t_stain {N : Nat} {I : aI} {L : aL} {nb ns nh : Nat} {w v : Int32} (hc : CntOk I nb ns nh) : Run 1 0 0 mX9_stain [.ref 0, .int w, .int v] (St N I L) (RI (if inR w ns = false then -1 else if v = 0 then I 12 w.toNatClampNeg else if v = 1 then I 6 (6 + w.toNatClampNeg) else -1) (St N I L)) := by
  refine Run.of (ls := [some (.ref 0), some (.int _), some (.int _)]) (by decide) (Nat.le_of_ble_eq_true rfl) rfl ?_
  obtain ⟨hc0, hb5, hc1, hs6, hc2, hh6, hrib⟩ := hc
  refine Ex.aload_n (pc := 0) dX9_stain_0 rfl rfl ?_
  refine Ex.getR (pc := 1) dX9_stain_1 fX9_22 (sh0 _) r0_2 ?_
  refine Ex.iconst (pc := 4) (v := 1) dX9_stain_4 rfl ?_
  refine Ex.iload_n (pc := 5) dX9_stain_5 rfl rfl ?_
  refine Ex.callV (pc := 6) (As := [.int 1, .int _]) (rest := []) dX9_stain_6 cX9_182 (t_holdsB (s := 1) (n := ns) (by decide) hc1) (sh2 _) rfl rfl (by decide) (Nat.le_refl _) (Nat.le_refl _) (Nat.le_of_ble_eq_true rfl) (Or.inl (fun r S' h => by obtain ⟨_, h⟩ := h; subst h; rfl)) (fun r S' hq _ _ => ?_)
  obtain ⟨rfl, rfl⟩ := hq
  refine Ex.if_eq (pc := 9) (tgt := 21) dX9_stain_9 (by decide) (fun c9 => ?_) (fun c9 => ?_)
  · skip
    refine Ex.iconst (pc := 21) (v := (-1)) dX9_stain_21 rfl ?_
    refine Ex.iret (pc := 22) rfl rfl rfl dX9_stain_22 (Nat.le_refl _) (Nat.le_refl _) ?_
    exact ⟨by simp [bI_0 c9], rfl⟩
  · skip
    have hin := bI_1 c9
    obtain ⟨j, hj, rfl⟩ := inR_of hin (by omega)
    refine Ex.iload_n (pc := 12) dX9_stain_12 rfl rfl ?_
    refine Ex.if_lt (pc := 13) (tgt := 21) dX9_stain_13 (by decide) (fun c13 => ?_) (fun c13 => ?_)
    · skip
      refine Ex.iconst (pc := 21) (v := (-1)) dX9_stain_21 rfl ?_
      refine Ex.iret (pc := 22) rfl rfl rfl dX9_stain_22 (Nat.le_refl _) (Nat.le_refl _) ?_
      refine ⟨congrArg (fun z => some (Value.int z)) ?_, rfl⟩
      rw [if_neg (by rw [hin]; decide), nI_clamp (by omega)]
      rw [if_neg (fun q => absurd (q ▸ c13) (by decide)), if_neg (fun q => absurd (q ▸ c13) (by decide))]
    · skip
      refine Ex.iload_n (pc := 16) dX9_stain_16 rfl rfl ?_
      refine Ex.iconst (pc := 17) (v := 1) dX9_stain_17 rfl ?_
      refine Ex.icmp_le (pc := 18) (tgt := 23) dX9_stain_18 (by decide) (fun c18 => ?_) (fun c18 => ?_)
      · skip
        refine Ex.iload_n (pc := 23) dX9_stain_23 rfl rfl ?_
        refine Ex.if_ne (pc := 24) (tgt := 39) dX9_stain_24 (by decide) (fun c24 => ?_) (fun c24 => ?_)
        · skip
          refine Ex.aload_n (pc := 39) dX9_stain_39 rfl rfl ?_
          refine Ex.getR (pc := 40) dX9_stain_40 fX9_22 (sh0 _) r0_2 ?_
          refine Ex.iload_n (pc := 43) dX9_stain_43 rfl rfl ?_
          refine Ex.callV (pc := 44) (As := [.int _]) (rest := []) dX9_stain_44 cX9_195 (t_stuff (j := j) (by omega)) (sh2 _) rfl rfl (by decide) (Nat.le_refl _) (Nat.le_refl _) (Nat.le_of_ble_eq_true rfl) (Or.inl (fun r S' h => by obtain ⟨_, h⟩ := h; subst h; rfl)) (fun r S' hq _ _ => ?_)
          obtain ⟨rfl, rfl⟩ := hq
          refine Ex.iret (pc := 47) rfl rfl rfl dX9_stain_47 (Nat.le_refl _) (Nat.le_refl _) ?_
          refine ⟨congrArg (fun z => some (Value.int z)) ?_, rfl⟩
          rw [if_neg (by rw [hin]; decide), nI_clamp (by omega)]
          rcases sm2 c13 c18 with q | q
          · exact absurd q c24
          · rw [if_neg c24, if_pos q]
        · skip
          refine Ex.aload_n (pc := 27) dX9_stain_27 rfl rfl ?_
          refine Ex.getR (pc := 28) dX9_stain_28 fX9_35 (sh0 _) r0_5 ?_
          refine Ex.getR (pc := 31) dX9_stain_31 fX9_192 (sh10 _) r10_5 ?_
          refine Ex.iload_n (pc := 34) dX9_stain_34 rfl rfl ?_
          refine Ex.iald (pc := 35) (j := j) dX9_stain_35 (sh12 _) (vp_in_nI (by omega) (by decide)) (ixN2 (by omega)) ?_
          refine Ex.goto (pc := 36) (tgt := 47) dX9_stain_36 (by decide) ?_
          refine Ex.iret (pc := 47) rfl rfl rfl dX9_stain_47 (Nat.le_refl _) (Nat.le_refl _) ?_
          refine ⟨congrArg (fun z => some (Value.int z)) ?_, rfl⟩
          rw [if_neg (by rw [hin]; decide), nI_clamp (by omega)]
          rw [if_pos c24]
      · skip
        refine Ex.iconst (pc := 21) (v := (-1)) dX9_stain_21 rfl ?_
        refine Ex.iret (pc := 22) rfl rfl rfl dX9_stain_22 (Nat.le_refl _) (Nat.le_refl _) ?_
        refine ⟨congrArg (fun z => some (Value.int z)) ?_, rfl⟩
        rw [if_neg (by rw [hin]; decide), nI_clamp (by omega)]
        rw [if_neg (show ¬ v = 0 from fun q => c18 (by rw [q]; decide)), if_neg (show ¬ v = 1 from fun q => c18 (by rw [q]; decide))]
set_option maxRecDepth 20000 in
theorem t_hearer {N : Nat} {I : aI} {L : aL} {nb ns nh : Nat} {w v : Int32} (hc : CntOk I nb ns nh) : Run 1 0 0 mX9_hearer [.ref 0, .int w, .int v] (St N I L) (RI (if inR w nh = false then -1 else if v = 0 then I 5 (12 + w.toNatClampNeg) else if v = 1 then I 6 (12 + w.toNatClampNeg) else if v = 2 then I 10 2 >>> (w &&& 31) &&& 1 else -1) (St N I L)) := by
  refine Run.of (ls := [some (.ref 0), some (.int _), some (.int _)]) (by decide) (Nat.le_of_ble_eq_true rfl) rfl ?_
  obtain ⟨hc0, hb5, hc1, hs6, hc2, hh6, hrib⟩ := hc
  refine Ex.aload_n (pc := 0) dX9_hearer_0 rfl rfl ?_
  refine Ex.getR (pc := 1) dX9_hearer_1 fX9_22 (sh0 _) r0_2 ?_
  refine Ex.iconst (pc := 4) (v := 2) dX9_hearer_4 rfl ?_
  refine Ex.iload_n (pc := 5) dX9_hearer_5 rfl rfl ?_
  refine Ex.callV (pc := 6) (As := [.int 2, .int _]) (rest := []) dX9_hearer_6 cX9_182 (t_holdsB (s := 2) (n := nh) (by decide) hc2) (sh2 _) rfl rfl (by decide) (Nat.le_refl _) (Nat.le_refl _) (Nat.le_of_ble_eq_true rfl) (Or.inl (fun r S' h => by obtain ⟨_, h⟩ := h; subst h; rfl)) (fun r S' hq _ _ => ?_)
  obtain ⟨rfl, rfl⟩ := hq
  refine Ex.if_eq (pc := 9) (tgt := 21) dX9_hearer_9 (by decide) (fun c9 => ?_) (fun c9 => ?_)
  · skip
    refine Ex.iconst (pc := 21) (v := (-1)) dX9_hearer_21 rfl ?_
    refine Ex.iret (pc := 22) rfl rfl rfl dX9_hearer_22 (Nat.le_refl _) (Nat.le_refl _) ?_
    exact ⟨by simp [bI_0 c9], rfl⟩
  · skip
    have hin := bI_1 c9
    obtain ⟨j, hj, rfl⟩ := inR_of hin (by omega)
    refine Ex.iload_n (pc := 12) dX9_hearer_12 rfl rfl ?_
    refine Ex.if_lt (pc := 13) (tgt := 21) dX9_hearer_13 (by decide) (fun c13 => ?_) (fun c13 => ?_)
    · skip
      refine Ex.iconst (pc := 21) (v := (-1)) dX9_hearer_21 rfl ?_
      refine Ex.iret (pc := 22) rfl rfl rfl dX9_hearer_22 (Nat.le_refl _) (Nat.le_refl _) ?_
      refine ⟨congrArg (fun z => some (Value.int z)) ?_, rfl⟩
      rw [if_neg (by rw [hin]; decide), nI_clamp (by omega)]
      rw [if_neg (fun q => absurd (q ▸ c13) (by decide)), if_neg (fun q => absurd (q ▸ c13) (by decide)), if_neg (fun q => absurd (q ▸ c13) (by decide))]
    · skip
      refine Ex.iload_n (pc := 16) dX9_hearer_16 rfl rfl ?_
      refine Ex.iconst (pc := 17) (v := 2) dX9_hearer_17 rfl ?_
      refine Ex.icmp_le (pc := 18) (tgt := 23) dX9_hearer_18 (by decide) (fun c18 => ?_) (fun c18 => ?_)
      · skip
        refine Ex.iload_n (pc := 23) dX9_hearer_23 rfl rfl ?_
        refine Ex.iconst (pc := 24) (v := 2) dX9_hearer_24 rfl ?_
        refine Ex.icmp_ne (pc := 25) (tgt := 40) dX9_hearer_25 (by decide) (fun c25 => ?_) (fun c25 => ?_)
        · skip
          refine Ex.iload_n (pc := 40) dX9_hearer_40 rfl rfl ?_
          refine Ex.if_ne (pc := 41) (tgt := 55) dX9_hearer_41 (by decide) (fun c41 => ?_) (fun c41 => ?_)
          · skip
            refine Ex.aload_n (pc := 55) dX9_hearer_55 rfl rfl ?_
            refine Ex.getR (pc := 56) dX9_hearer_56 fX9_22 (sh0 _) r0_2 ?_
            refine Ex.iload_n (pc := 59) dX9_hearer_59 rfl rfl ?_
            refine Ex.callV (pc := 60) (As := [.int _]) (rest := []) dX9_hearer_60 cX9_201 (t_ear (j := j) (by omega)) (sh2 _) rfl rfl (by decide) (Nat.le_refl _) (Nat.le_refl _) (Nat.le_of_ble_eq_true rfl) (Or.inl (fun r S' h => by obtain ⟨_, h⟩ := h; subst h; rfl)) (fun r S' hq _ _ => ?_)
            obtain ⟨rfl, rfl⟩ := hq
            refine Ex.iret (pc := 63) rfl rfl rfl dX9_hearer_63 (Nat.le_refl _) (Nat.le_refl _) ?_
            refine ⟨congrArg (fun z => some (Value.int z)) ?_, rfl⟩
            rw [if_neg (by rw [hin]; decide), nI_clamp (by omega)]
            rcases sm3 c13 c18 with q | q | q
            · exact absurd q c41
            · rw [if_neg c41, if_pos q]
            · exact absurd q c25
          · skip
            refine Ex.aload_n (pc := 44) dX9_hearer_44 rfl rfl ?_
            refine Ex.getR (pc := 45) dX9_hearer_45 fX9_22 (sh0 _) r0_2 ?_
            refine Ex.iload_n (pc := 48) dX9_hearer_48 rfl rfl ?_
            refine Ex.callV (pc := 49) (As := [.int _]) (rest := []) dX9_hearer_49 cX9_198 (t_sin (j := j) (by omega)) (sh2 _) rfl rfl (by decide) (Nat.le_refl _) (Nat.le_refl _) (Nat.le_of_ble_eq_true rfl) (Or.inl (fun r S' h => by obtain ⟨_, h⟩ := h; subst h; rfl)) (fun r S' hq _ _ => ?_)
            obtain ⟨rfl, rfl⟩ := hq
            refine Ex.goto (pc := 52) (tgt := 63) dX9_hearer_52 (by decide) ?_
            refine Ex.iret (pc := 63) rfl rfl rfl dX9_hearer_63 (Nat.le_refl _) (Nat.le_refl _) ?_
            refine ⟨congrArg (fun z => some (Value.int z)) ?_, rfl⟩
            rw [if_neg (by rw [hin]; decide), nI_clamp (by omega)]
            rw [if_pos c41]
        · skip
          refine Ex.aload_n (pc := 28) dX9_hearer_28 rfl rfl ?_
          refine Ex.getR (pc := 29) dX9_hearer_29 fX9_35 (sh0 _) r0_5 ?_
          refine Ex.getI (pc := 32) dX9_hearer_32 fX9_160 (sh10 _) ?_
          refine Ex.iload_n (pc := 35) dX9_hearer_35 rfl rfl ?_
          refine Ex.ishr (pc := 36) dX9_hearer_36 ?_
          refine Ex.iconst (pc := 37) (v := 1) dX9_hearer_37 rfl ?_
          refine Ex.iand (pc := 38) dX9_hearer_38 ?_
          refine Ex.iret (pc := 39) rfl rfl rfl dX9_hearer_39 (Nat.le_refl _) (Nat.le_refl _) ?_
          refine ⟨congrArg (fun z => some (Value.int z)) ?_, rfl⟩
          rw [if_neg (by rw [hin]; decide), nI_clamp (by omega)]
          rw [if_neg (fun q => absurd (c25.symm.trans q) (by decide)), if_neg (fun q => absurd (c25.symm.trans q) (by decide)), if_pos c25]
      · skip
        refine Ex.iconst (pc := 21) (v := (-1)) dX9_hearer_21 rfl ?_
        refine Ex.iret (pc := 22) rfl rfl rfl dX9_hearer_22 (Nat.le_refl _) (Nat.le_refl _) ?_
        refine ⟨congrArg (fun z => some (Value.int z)) ?_, rfl⟩
        rw [if_neg (by rw [hin]; decide), nI_clamp (by omega)]
        rw [if_neg (show ¬ v = 0 from fun q => c18 (by rw [q]; decide)), if_neg (show ¬ v = 1 from fun q => c18 (by rw [q]; decide)), if_neg (show ¬ v = 2 from fun q => c18 (by rw [q]; decide))]
set_option maxRecDepth 20000 in
theorem t_areThere {N : Nat} {I : aI} {L : aL} {nb ns nh : Nat} {w v : Int32} (hc : CntOk I nb ns nh) : Run 1 0 0 mX9_areThere [.ref 0, .int w, .int v] (St N I L) (RI (bI (inR w nb && inR v ns)) (St N I L)) := by
  refine Run.of (ls := [some (.ref 0), some (.int _), some (.int _)]) (by decide) (Nat.le_of_ble_eq_true rfl) rfl ?_
  obtain ⟨hc0, hb5, hc1, hs6, hc2, hh6, hrib⟩ := hc
  refine Ex.aload_n (pc := 0) dX9_areThere_0 rfl rfl ?_
  refine Ex.getR (pc := 1) dX9_areThere_1 fX9_22 (sh0 _) r0_2 ?_
  refine Ex.iconst (pc := 4) (v := 0) dX9_areThere_4 rfl ?_
  refine Ex.iload_n (pc := 5) dX9_areThere_5 rfl rfl ?_
  refine Ex.callV (pc := 6) (As := [.int 0, .int _]) (rest := []) dX9_areThere_6 cX9_182 (t_holdsB (s := 0) (n := nb) (by decide) hc0) (sh2 _) rfl rfl (by decide) (Nat.le_refl _) (Nat.le_refl _) (Nat.le_of_ble_eq_true rfl) (Or.inl (fun r S' h => by obtain ⟨_, h⟩ := h; subst h; rfl)) (fun r S' hq _ _ => ?_)
  obtain ⟨rfl, rfl⟩ := hq
  refine Ex.if_eq (pc := 9) (tgt := 28) dX9_areThere_9 (by decide) (fun c9 => ?_) (fun c9 => ?_)
  · skip
    refine Ex.iconst (pc := 28) (v := 0) dX9_areThere_28 rfl ?_
    refine Ex.iret (pc := 29) rfl rfl rfl dX9_areThere_29 (Nat.le_refl _) (Nat.le_refl _) ?_
    exact ⟨by rw [bI_0 c9]; rfl, rfl⟩
  · skip
    refine Ex.aload_n (pc := 12) dX9_areThere_12 rfl rfl ?_
    refine Ex.getR (pc := 13) dX9_areThere_13 fX9_22 (sh0 _) r0_2 ?_
    refine Ex.iconst (pc := 16) (v := 1) dX9_areThere_16 rfl ?_
    refine Ex.iload_n (pc := 17) dX9_areThere_17 rfl rfl ?_
    refine Ex.callV (pc := 18) (As := [.int 1, .int _]) (rest := []) dX9_areThere_18 cX9_182 (t_holdsB (s := 1) (n := ns) (by decide) hc1) (sh2 _) rfl rfl (by decide) (Nat.le_refl _) (Nat.le_refl _) (Nat.le_of_ble_eq_true rfl) (Or.inl (fun r S' h => by obtain ⟨_, h⟩ := h; subst h; rfl)) (fun r S' hq _ _ => ?_)
    obtain ⟨rfl, rfl⟩ := hq
    refine Ex.if_eq (pc := 21) (tgt := 28) dX9_areThere_21 (by decide) (fun c21 => ?_) (fun c21 => ?_)
    · skip
      refine Ex.iconst (pc := 28) (v := 0) dX9_areThere_28 rfl ?_
      refine Ex.iret (pc := 29) rfl rfl rfl dX9_areThere_29 (Nat.le_refl _) (Nat.le_refl _) ?_
      exact ⟨by rw [bI_1 c9, bI_0 c21]; rfl, rfl⟩
    · skip
      refine Ex.iconst (pc := 24) (v := 1) dX9_areThere_24 rfl ?_
      refine Ex.goto (pc := 25) (tgt := 29) dX9_areThere_25 (by decide) ?_
      refine Ex.iret (pc := 29) rfl rfl rfl dX9_areThere_29 (Nat.le_refl _) (Nat.le_refl _) ?_
      exact ⟨by rw [bI_1 c9, bI_1 c21]; rfl, rfl⟩
def cpB (n wk : Int32) : Bool := decide (¬ n < 0 ∧ ¬ 40 < n ∧ ¬ 999 - wk < n)
set_option maxRecDepth 20000 in
theorem t_canPass {N : Nat} {I : aI} {L : aL} {n : Int32} : Run 0 0 0 mX9_canPass [.ref 0, .int n] (St N I L) (RI (bI (cpB n (I 10 0))) (St N I L)) := by
  refine Run.of (ls := [some (.ref 0), some (.int _)]) (by decide) (Nat.le_of_ble_eq_true rfl) rfl ?_
  refine Ex.iload_n (pc := 0) dX9_canPass_0 rfl rfl ?_
  refine Ex.if_lt (pc := 1) (tgt := 29) dX9_canPass_1 (by decide) (fun c1 => ?_) (fun c1 => ?_)
  · skip
    refine Ex.iconst (pc := 29) (v := 0) dX9_canPass_29 rfl ?_
    refine Ex.iret (pc := 30) rfl rfl rfl dX9_canPass_30 (Nat.le_refl _) (Nat.le_refl _) ?_
    exact ⟨by simp only [cpB, bI]; simp only [*]; rfl, rfl⟩
  · skip
    refine Ex.iload_n (pc := 4) dX9_canPass_4 rfl rfl ?_
    refine Ex.bipush (pc := 5) (v := 40) dX9_canPass_5 rfl ?_
    refine Ex.icmp_gt (pc := 7) (tgt := 29) dX9_canPass_7 (by decide) (fun c7 => ?_) (fun c7 => ?_)
    · skip
      refine Ex.iconst (pc := 29) (v := 0) dX9_canPass_29 rfl ?_
      refine Ex.iret (pc := 30) rfl rfl rfl dX9_canPass_30 (Nat.le_refl _) (Nat.le_refl _) ?_
      exact ⟨by simp only [cpB, bI]; simp only [*]; rfl, rfl⟩
    · skip
      refine Ex.iload_n (pc := 10) dX9_canPass_10 rfl rfl ?_
      refine Ex.sipush (pc := 11) (v := 999) dX9_canPass_11 rfl ?_
      refine Ex.aload_n (pc := 14) dX9_canPass_14 rfl rfl ?_
      refine Ex.getR (pc := 15) dX9_canPass_15 fX9_35 (sh0 _) r0_5 ?_
      refine Ex.getI (pc := 18) dX9_canPass_18 fX9_147 (sh10 _) ?_
      refine Ex.isub (pc := 21) dX9_canPass_21 ?_
      refine Ex.icmp_gt (pc := 22) (tgt := 29) dX9_canPass_22 (by decide) (fun c22 => ?_) (fun c22 => ?_)
      · skip
        refine Ex.iconst (pc := 29) (v := 0) dX9_canPass_29 rfl ?_
        refine Ex.iret (pc := 30) rfl rfl rfl dX9_canPass_30 (Nat.le_refl _) (Nat.le_refl _) ?_
        exact ⟨by simp only [cpB, bI]; simp only [*]; rfl, rfl⟩
      · skip
        refine Ex.iconst (pc := 25) (v := 1) dX9_canPass_25 rfl ?_
        refine Ex.goto (pc := 26) (tgt := 30) dX9_canPass_26 (by decide) ?_
        refine Ex.iret (pc := 30) rfl rfl rfl dX9_canPass_30 (Nat.le_refl _) (Nat.le_refl _) ?_
        exact ⟨by simp only [cpB, bI]; simp only [*]; rfl, rfl⟩
