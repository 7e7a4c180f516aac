/-! THE REFERENCE: ends, indices, its small methods -/
def RX (N : Nat) (P : Option Value → aI → aL → Prop) : aQ := fun r S' => ∃ (I' : aI) (L' : aL), S' = St N I' L' ∧ P r I' L'
def SmL (l : List Nat) (L L' : aL) : Prop := ∀ a, a ∉ l → L' a = L a
theorem SmL.rf {l : List Nat} {L : aL} : SmL l L L := fun _ _ => rfl
theorem SmL.up {l : List Nat} {L L' : aL} {a : Nat} {f : Nat → Int64} (h : SmL l L L') (ha : a ∈ l) : SmL l L (va_up L' a f) := fun b hb => by
  have e : b ≠ a := fun e => hb (by rw [e]; exact ha)
  rw [va_up_n e]
  exact h b hb
theorem SmL.tr {l l1 l2 : List Nat} {L L1 L2 : aL} (h1 : SmL l1 L L1) (h2 : SmL l2 L1 L2) (s1 : ∀ a ∈ l1, a ∈ l) (s2 : ∀ a ∈ l2, a ∈ l) : SmL l L L2 := fun a ha => (h2 a (fun h => ha (s2 a h))).trans (h1 a (fun h => ha (s1 a h)))
theorem ixE {x y : Int32} {c a b n : Nat} (hx : x = nI a) (hy : y = nI b) (h : c * a + b < n) (hn : n < 2 ^ 31) : vp_in (nI c * x + y) n := by
  rw [hx, hy, pk_mul, nI_add]
  exact vp_in_nI h hn
theorem ixE2 {x y : Int32} {c a b : Nat} (hx : x = nI a) (hy : y = nI b) (h : c * a + b < 2 ^ 31) : (nI c * x + y).toNatClampNeg = c * a + b := by
  rw [hx, hy, pk_mul, nI_add]
  exact nI_clamp h
theorem ixX {x : Int32} {a n : Nat} (hx : x = nI a) (h : a < n) (hn : n < 2 ^ 31) : vp_in x n := by rw [hx]; exact vp_in_nI h hn
theorem ixX2 {x : Int32} {a : Nat} (hx : x = nI a) (h : a < 2 ^ 31) : x.toNatClampNeg = a := by rw [hx]; exact nI_clamp h
/-- the counts that hold in the reference's bank bk -/
def RefB (I : aI) (bk nb ns nh : Nat) : Prop := bk < 2 ∧ I 36 13 = nI bk ∧ nb ≤ 5 ∧ ns ≤ 6 ∧ nh ≤ 6 ∧ I 38 bk = nI nb ∧ I 41 bk = nI ns ∧ I 44 bk = nI nh
theorem RefB.sm {I I2 : aI} {bk nb ns nh : Nat} {l : List Nat} (h : RefB I bk nb ns nh) (hS : Sm l I I2) (h36 : I2 36 13 = I 36 13) (h38 : 38 ∉ l) (h41 : 41 ∉ l) (h44 : 44 ∉ l) : RefB I2 bk nb ns nh := by
  obtain ⟨h1, h2, h3, h4, h5, h6, h7, h8⟩ := h
  exact ⟨h1, by rw [h36, h2], h3, h4, h5, by rw [hS 38 h38, h6], by rw [hS 41 h41, h7], by rw [hS 44 h44, h8]⟩
def isB (v l m : Int32) : Bool := decide (¬ v < l ∧ ¬ m < v)
set_option maxRecDepth 20000 in
theorem tm_is {S : aS} {v l m : Int32} : Run 0 0 0 mX10_is [.int v, .int l, .int m] S (RI (bI (isB v l m)) S) := by
  refine Run.of (ls := [some (.int _), some (.int _), some (.int _)]) (by decide) (Nat.le_of_ble_eq_true rfl) rfl ?_
  refine Ex.iload_n (pc := 0) dX10_is_0 rfl rfl ?_
  refine Ex.iload_n (pc := 1) dX10_is_1 rfl rfl ?_
  refine Ex.icmp_lt (pc := 2) (tgt := 14) dX10_is_2 (by decide) (fun c2 => ?_) (fun c2 => ?_)
  · skip
    refine Ex.iconst (pc := 14) (v := 0) dX10_is_14 rfl ?_
    refine Ex.iret (pc := 15) rfl rfl rfl dX10_is_15 (Nat.le_refl _) (Nat.le_refl _) ?_
    exact ⟨by simp [isB, bI, *], rfl⟩
  · skip
    refine Ex.iload_n (pc := 5) dX10_is_5 rfl rfl ?_
    refine Ex.iload_n (pc := 6) dX10_is_6 rfl rfl ?_
    refine Ex.icmp_gt (pc := 7) (tgt := 14) dX10_is_7 (by decide) (fun c7 => ?_) (fun c7 => ?_)
    · skip
      refine Ex.iconst (pc := 14) (v := 0) dX10_is_14 rfl ?_
      refine Ex.iret (pc := 15) rfl rfl rfl dX10_is_15 (Nat.le_refl _) (Nat.le_refl _) ?_
      exact ⟨by simp [isB, bI, *], rfl⟩
    · skip
      refine Ex.iconst (pc := 10) (v := 1) dX10_is_10 rfl ?_
      refine Ex.goto (pc := 11) (tgt := 15) dX10_is_11 (by decide) ?_
      refine Ex.iret (pc := 15) rfl rfl rfl dX10_is_15 (Nat.le_refl _) (Nat.le_refl _) ?_
      exact ⟨by simp [isB, bI, *], rfl⟩
def refM (I : aI) (k : Nat) : aI := va_up I 62 (upd (I 62) k (I 62 k + 1))
set_option maxRecDepth 20000 in
theorem tm_refuses {N : Nat} {I : aI} {L : aL} {k : Nat} (hk : k < 6) : Run 0 0 0 mX10_refuses [.ref 36, .int (nI k)] (St N I L) (RI (-1) (St N (refM I k) L)) := by
  refine Run.of (ls := [some (.ref 36), some (.int _)]) (by decide) (Nat.le_of_ble_eq_true rfl) rfl ?_
  refine Ex.aload_n (pc := 0) dX10_refuses_0 rfl rfl ?_
  refine Ex.getR (pc := 1) dX10_refuses_1 fX10_150 (sh36 _) r36_45 ?_
  refine Ex.iload_n (pc := 4) dX10_refuses_4 rfl rfl ?_
  refine Ex.dup2 (pc := 5) dX10_refuses_5 rfl rfl ?_
  refine Ex.iald (pc := 6) (j := k) dX10_refuses_6 (sh62 _) (vp_in_nI hk (by decide)) (ixN2 (by omega)) ?_
  refine Ex.iconst (pc := 7) (v := 1) dX10_refuses_7 rfl ?_
  refine Ex.iadd (pc := 8) dX10_refuses_8 ?_
  refine Ex.iast (pc := 9) (j := k) dX10_refuses_9 (sh62 _) (vp_in_nI hk (by decide)) (ixN2 (by omega)) ?_
  refine Ex.iconst (pc := 10) (v := (-1)) dX10_refuses_10 rfl ?_
  refine Ex.iret (pc := 11) rfl rfl rfl dX10_refuses_11 (Nat.le_refl _) (Nat.le_refl _) ?_
  exact ⟨rfl, rfl⟩
set_option maxRecDepth 20000 in
theorem tm_status {N : Nat} {I : aI} {L : aL} {w : Int32} : Run 1 0 0 mX10_status [.ref 36, .int w] (St N I L) (RI (if inR w 6 = true then I 62 w.toNatClampNeg else -1) (St N I L)) := by
  refine Run.of (ls := [some (.ref 36), some (.int _)]) (by decide) (Nat.le_of_ble_eq_true rfl) rfl ?_
  have e6 : isB w 0 5 = inR w 6 := by
    simp only [isB, inR]
    refine decide_eq_decide.mpr (and_congr Iff.rfl (not_congr ?_))
    rw [Int32.lt_iff_toInt_lt, Int32.le_iff_toInt_le]
    show (5 : Int) < w.toInt ↔ (6 : Int) ≤ w.toInt
    omega
  refine Ex.iload_n (pc := 0) dX10_status_0 rfl rfl ?_
  refine Ex.iconst (pc := 1) (v := 0) dX10_status_1 rfl ?_
  refine Ex.iconst (pc := 2) (v := 5) dX10_status_2 rfl ?_
  refine Ex.callS (pc := 3) (As := [.int _, .int 0, .int 5]) (rest := []) dX10_status_3 cX10_312 tm_is rfl rfl (by decide) (Nat.le_refl _) (Nat.le_refl _) (Nat.le_of_ble_eq_true rfl) (Or.inl (fun r S' h => by obtain ⟨_, h⟩ := h; subst h; rfl)) (fun r S' hq _ _ => ?_)
  obtain ⟨rfl, rfl⟩ := hq
  refine Ex.if_eq (pc := 6) (tgt := 18) dX10_status_6 (by decide) (fun c6 => ?_) (fun c6 => ?_)
  · skip
    refine Ex.iconst (pc := 18) (v := (-1)) dX10_status_18 rfl ?_
    refine Ex.iret (pc := 19) rfl rfl rfl dX10_status_19 (Nat.le_refl _) (Nat.le_refl _) ?_
    have hr : inR w 6 = false := by rw [← e6]; exact bI_0 c6
    exact ⟨by rw [hr]; rfl, rfl⟩
  · skip
    refine Ex.aload_n (pc := 9) dX10_status_9 rfl rfl ?_
    refine Ex.getR (pc := 10) dX10_status_10 fX10_150 (sh36 _) r36_45 ?_
    refine Ex.iload_n (pc := 13) dX10_status_13 rfl rfl ?_
    have hr : inR w 6 = true := by rw [← e6]; exact bI_1 c6
    refine Ex.iald (pc := 14) (j := w.toNatClampNeg) dX10_status_14 (sh62 _) (by obtain ⟨j, hj, rfl⟩ := inR_of hr (by decide); exact vp_in_nI hj (by decide)) rfl ?_
    refine Ex.goto (pc := 15) (tgt := 19) dX10_status_15 (by decide) ?_
    refine Ex.iret (pc := 19) rfl rfl rfl dX10_status_19 (Nat.le_refl _) (Nat.le_refl _) ?_
    exact ⟨by rw [if_pos hr], rfl⟩
set_option maxRecDepth 20000 in
theorem tm_fault {N : Nat} {I : aI} {L : aL} {w : Int32} : Run 0 0 0 mX10_fault [.ref 36, .int w] (St N I L) (RI (if w = 0 then I 36 10 else if w = 1 then I 36 11 else -1) (St N I L)) := by
  refine Run.of (ls := [some (.ref 36), some (.int _)]) (by decide) (Nat.le_of_ble_eq_true rfl) rfl ?_
  refine Ex.iload_n (pc := 0) dX10_fault_0 rfl rfl ?_
  refine Ex.if_ne (pc := 1) (tgt := 11) dX10_fault_1 (by decide) (fun c1 => ?_) (fun c1 => ?_)
  · skip
    refine Ex.iload_n (pc := 11) dX10_fault_11 rfl rfl ?_
    refine Ex.iconst (pc := 12) (v := 1) dX10_fault_12 rfl ?_
    refine Ex.icmp_ne (pc := 13) (tgt := 23) dX10_fault_13 (by decide) (fun c13 => ?_) (fun c13 => ?_)
    · skip
      refine Ex.iconst (pc := 23) (v := (-1)) dX10_fault_23 rfl ?_
      refine Ex.iret (pc := 24) rfl rfl rfl dX10_fault_24 (Nat.le_refl _) (Nat.le_refl _) ?_
      exact ⟨by simp [*], rfl⟩
    · skip
      refine Ex.aload_n (pc := 16) dX10_fault_16 rfl rfl ?_
      refine Ex.getI (pc := 17) dX10_fault_17 fX10_45 (sh36 _) ?_
      refine Ex.goto (pc := 20) (tgt := 24) dX10_fault_20 (by decide) ?_
      refine Ex.iret (pc := 24) rfl rfl rfl dX10_fault_24 (Nat.le_refl _) (Nat.le_refl _) ?_
      exact ⟨by simp [*], rfl⟩
  · skip
    refine Ex.aload_n (pc := 4) dX10_fault_4 rfl rfl ?_
    refine Ex.getI (pc := 5) dX10_fault_5 fX10_42 (sh36 _) ?_
    refine Ex.goto (pc := 8) (tgt := 24) dX10_fault_8 (by decide) ?_
    refine Ex.iret (pc := 24) rfl rfl rfl dX10_fault_24 (Nat.le_refl _) (Nat.le_refl _) ?_
    exact ⟨by simp [*], rfl⟩
set_option maxRecDepth 20000 in
theorem tm_has2 {S : aS} {b : Int32} {k : Nat} : Run 0 0 0 mX10_has2 [.int b, .int (nI k)] S (RI (bI (hb1 b k)) S) := by
  refine Run.of (ls := [some (.int _), some (.int _)]) (by decide) (Nat.le_of_ble_eq_true rfl) rfl ?_
  refine Ex.iload_n (pc := 0) dX10_has2_0 rfl rfl ?_
  refine Ex.iload_n (pc := 1) dX10_has2_1 rfl rfl ?_
  refine Ex.ishr (pc := 2) dX10_has2_2 ?_
  refine Ex.iconst (pc := 3) (v := 1) dX10_has2_3 rfl ?_
  refine Ex.iand (pc := 4) dX10_has2_4 ?_
  refine Ex.iconst (pc := 5) (v := 1) dX10_has2_5 rfl ?_
  refine Ex.icmp_ne (pc := 6) (tgt := 13) dX10_has2_6 (by decide) (fun c6 => ?_) (fun c6 => ?_)
  · skip
    refine Ex.iconst (pc := 13) (v := 0) dX10_has2_13 rfl ?_
    refine Ex.iret (pc := 14) rfl rfl rfl dX10_has2_14 (Nat.le_refl _) (Nat.le_refl _) ?_
    exact ⟨by simp [hb1, bI, *], rfl⟩
  · skip
    refine Ex.iconst (pc := 9) (v := 1) dX10_has2_9 rfl ?_
    refine Ex.goto (pc := 10) (tgt := 14) dX10_has2_10 (by decide) ?_
    refine Ex.iret (pc := 14) rfl rfl rfl dX10_has2_14 (Nat.le_refl _) (Nat.le_refl _) ?_
    exact ⟨by simp [hb1, bI, *], rfl⟩
set_option maxRecDepth 20000 in
theorem tm_isBoard {N : Nat} {I : aI} {L : aL} {bk nb ns nh : Nat} {w : Int32} (hb : RefB I bk nb ns nh) : Run 0 0 0 mX10_isBoard [.ref 36, .int w] (St N I L) (RI (bI (inR w nb)) (St N I L)) := by
  refine Run.of (ls := [some (.ref 36), some (.int _)]) (by decide) (Nat.le_of_ble_eq_true rfl) rfl ?_
  obtain ⟨h1, h2, h3, h4, h5, h6, h7, h8⟩ := hb
  refine Ex.iload_n (pc := 0) dX10_isBoard_0 rfl rfl ?_
  refine Ex.if_lt (pc := 1) (tgt := 21) dX10_isBoard_1 (by decide) (fun c1 => ?_) (fun c1 => ?_)
  · skip
    refine Ex.iconst (pc := 21) (v := 0) dX10_isBoard_21 rfl ?_
    refine Ex.iret (pc := 22) rfl rfl rfl dX10_isBoard_22 (Nat.le_refl _) (Nat.le_refl _) ?_
    exact ⟨by simp [inR, bI, *], rfl⟩
  · skip
    refine Ex.iload_n (pc := 4) dX10_isBoard_4 rfl rfl ?_
    refine Ex.aload_n (pc := 5) dX10_isBoard_5 rfl rfl ?_
    refine Ex.getR (pc := 6) dX10_isBoard_6 fX10_54 (sh36 _) r36_14 ?_
    refine Ex.aload_n (pc := 9) dX10_isBoard_9 rfl rfl ?_
    refine Ex.getI (pc := 10) dX10_isBoard_10 fX10_51 (sh36 _) ?_
    refine Ex.iald (pc := 13) (j := bk) dX10_isBoard_13 (sh38 _) (ixX h2 h1 (by decide)) (ixX2 h2 (by omega)) ?_
    rw [h6]
    refine Ex.icmp_ge (pc := 14) (tgt := 21) dX10_isBoard_14 (by decide) (fun c14 => ?_) (fun c14 => ?_)
    · skip
      refine Ex.iconst (pc := 21) (v := 0) dX10_isBoard_21 rfl ?_
      refine Ex.iret (pc := 22) rfl rfl rfl dX10_isBoard_22 (Nat.le_refl _) (Nat.le_refl _) ?_
      exact ⟨by simp [inR, bI, *], rfl⟩
    · skip
      refine Ex.iconst (pc := 17) (v := 1) dX10_isBoard_17 rfl ?_
      refine Ex.goto (pc := 18) (tgt := 22) dX10_isBoard_18 (by decide) ?_
      refine Ex.iret (pc := 22) rfl rfl rfl dX10_isBoard_22 (Nat.le_refl _) (Nat.le_refl _) ?_
      exact ⟨by simp [inR, bI, *], rfl⟩
set_option maxRecDepth 20000 in
theorem tm_isStain {N : Nat} {I : aI} {L : aL} {bk nb ns nh : Nat} {w : Int32} (hb : RefB I bk nb ns nh) : Run 0 0 0 mX10_isStain [.ref 36, .int w] (St N I L) (RI (bI (inR w ns)) (St N I L)) := by
  refine Run.of (ls := [some (.ref 36), some (.int _)]) (by decide) (Nat.le_of_ble_eq_true rfl) rfl ?_
  obtain ⟨h1, h2, h3, h4, h5, h6, h7, h8⟩ := hb
  refine Ex.iload_n (pc := 0) dX10_isStain_0 rfl rfl ?_
  refine Ex.if_lt (pc := 1) (tgt := 21) dX10_isStain_1 (by decide) (fun c1 => ?_) (fun c1 => ?_)
  · skip
    refine Ex.iconst (pc := 21) (v := 0) dX10_isStain_21 rfl ?_
    refine Ex.iret (pc := 22) rfl rfl rfl dX10_isStain_22 (Nat.le_refl _) (Nat.le_refl _) ?_
    exact ⟨by simp [inR, bI, *], rfl⟩
  · skip
    refine Ex.iload_n (pc := 4) dX10_isStain_4 rfl rfl ?_
    refine Ex.aload_n (pc := 5) dX10_isStain_5 rfl rfl ?_
    refine Ex.getR (pc := 6) dX10_isStain_6 fX10_63 (sh36 _) r36_17 ?_
    refine Ex.aload_n (pc := 9) dX10_isStain_9 rfl rfl ?_
    refine Ex.getI (pc := 10) dX10_isStain_10 fX10_51 (sh36 _) ?_
    refine Ex.iald (pc := 13) (j := bk) dX10_isStain_13 (sh41 _) (ixX h2 h1 (by decide)) (ixX2 h2 (by omega)) ?_
    rw [h7]
    refine Ex.icmp_ge (pc := 14) (tgt := 21) dX10_isStain_14 (by decide) (fun c14 => ?_) (fun c14 => ?_)
    · skip
      refine Ex.iconst (pc := 21) (v := 0) dX10_isStain_21 rfl ?_
      refine Ex.iret (pc := 22) rfl rfl rfl dX10_isStain_22 (Nat.le_refl _) (Nat.le_refl _) ?_
      exact ⟨by simp [inR, bI, *], rfl⟩
    · skip
      refine Ex.iconst (pc := 17) (v := 1) dX10_isStain_17 rfl ?_
      refine Ex.goto (pc := 18) (tgt := 22) dX10_isStain_18 (by decide) ?_
      refine Ex.iret (pc := 22) rfl rfl rfl dX10_isStain_22 (Nat.le_refl _) (Nat.le_refl _) ?_
      exact ⟨by simp [inR, bI, *], rfl⟩
set_option maxRecDepth 20000 in
theorem tm_isTold {N : Nat} {I : aI} {L : aL} {bk r : Nat} (h1 : bk < 2) (h2 : I 36 13 = nI bk) (hr : r < 5) : Run 0 0 0 mX10_isTold [.ref 36, .int (nI r)] (St N I L) (RI (bI (!decide (I 49 (5 * bk + r) = -1))) (St N I L)) := by
  refine Run.of (ls := [some (.ref 36), some (.int _)]) (by decide) (Nat.le_of_ble_eq_true rfl) rfl ?_
  refine Ex.aload_n (pc := 0) dX10_isTold_0 rfl rfl ?_
  refine Ex.getR (pc := 1) dX10_isTold_1 fX10_87 (sh36 _) r36_25 ?_
  refine Ex.iconst (pc := 4) (v := 5) dX10_isTold_4 rfl ?_
  refine Ex.aload_n (pc := 5) dX10_isTold_5 rfl rfl ?_
  refine Ex.getI (pc := 6) dX10_isTold_6 fX10_51 (sh36 _) ?_
  refine Ex.imul (pc := 9) dX10_isTold_9 ?_
  refine Ex.iload_n (pc := 10) dX10_isTold_10 rfl rfl ?_
  refine Ex.iadd (pc := 11) dX10_isTold_11 ?_
  refine Ex.iald (pc := 12) (j := 5 * bk + r) dX10_isTold_12 (sh49 _) (ixE (c := 5) (a := bk) (b := r) h2 rfl (by omega) (by decide)) (ixE2 (c := 5) h2 rfl (by omega)) ?_
  refine Ex.iconst (pc := 13) (v := (-1)) dX10_isTold_13 rfl ?_
  refine Ex.icmp_eq (pc := 14) (tgt := 21) dX10_isTold_14 (by decide) (fun c14 => ?_) (fun c14 => ?_)
  · skip
    refine Ex.iconst (pc := 21) (v := 0) dX10_isTold_21 rfl ?_
    refine Ex.iret (pc := 22) rfl rfl rfl dX10_isTold_22 (Nat.le_refl _) (Nat.le_refl _) ?_
    exact ⟨by simp [bI, *], rfl⟩
  · skip
    refine Ex.iconst (pc := 17) (v := 1) dX10_isTold_17 rfl ?_
    refine Ex.goto (pc := 18) (tgt := 22) dX10_isTold_18 (by decide) ?_
    refine Ex.iret (pc := 22) rfl rfl rfl dX10_isTold_22 (Nat.le_refl _) (Nat.le_refl _) ?_
    exact ⟨by simp [bI, *], rfl⟩
set_option maxRecDepth 20000 in
theorem tm_within {S : aS} {x : Int64} : Run 0 0 0 mX10_within [.long x] S (RL64 (clampM x).toInt64 S) := by
  refine Run.of (ls := [some (.long _), none]) (by decide) (Nat.le_of_ble_eq_true rfl) rfl ?_
  have e1 : ¬ (x ≤ 1000000) → (clampM x).toInt64 = 1000000 := by
    intro h; unfold clampM; rw [if_neg h]; rfl
  have e2 : x ≤ 1000000 → ¬ (-1000000 ≤ x) → (clampM x).toInt64 = -1000000 := by
    intro h h2; unfold clampM; rw [if_pos h, if_neg h2]; rfl
  have e3 : x ≤ 1000000 → -1000000 ≤ x → (clampM x).toInt64 = x := by
    intro h h2; unfold clampM; rw [if_pos h, if_pos h2]
    rw [Int64.le_iff_toInt_le] at h h2
    have h : x.toInt ≤ 1000000 := h
    have h2 : -1000000 ≤ x.toInt := h2
    exact lg_i2l_l2i (by omega) (by omega)
  refine Ex.lload_n (pc := 0) dX10_within_0 rfl rfl ?_
  refine Ex.ldc2 (pc := 1) dX10_within_1 kv_X10_408 ?_
  refine Ex.lcmp (pc := 4) dX10_within_4 ?_
  refine Ex.if_le (pc := 5) (tgt := 14) dX10_within_5 (by decide) (fun c5 => ?_) (fun c5 => ?_)
  · skip
    refine Ex.lload_n (pc := 14) dX10_within_14 rfl rfl ?_
    refine Ex.ldc2 (pc := 15) dX10_within_15 kv_X10_410 ?_
    refine Ex.lcmp (pc := 18) dX10_within_18 ?_
    refine Ex.if_ge (pc := 19) (tgt := 28) dX10_within_19 (by decide) (fun c19 => ?_) (fun c19 => ?_)
    · skip
      refine Ex.lload_n (pc := 28) dX10_within_28 rfl rfl ?_
      refine Ex.lret (pc := 29) rfl dX10_within_29 (Nat.le_refl _) (Nat.le_refl _) ?_
      exact ⟨by (try rw [lg_cmp_le] at c5); (try rw [lg_cmp_ge] at c19); first | rw [e1 c5] | rw [e2 c5 c19] | rw [e3 c5 c19], rfl⟩
    · skip
      refine Ex.ldc2 (pc := 22) dX10_within_22 kv_X10_410 ?_
      refine Ex.goto (pc := 25) (tgt := 29) dX10_within_25 (by decide) ?_
      refine Ex.lret (pc := 29) rfl dX10_within_29 (Nat.le_refl _) (Nat.le_refl _) ?_
      exact ⟨by (try rw [lg_cmp_le] at c5); (try rw [lg_cmp_ge] at c19); first | rw [e1 c5] | rw [e2 c5 c19] | rw [e3 c5 c19], rfl⟩
  · skip
    refine Ex.ldc2 (pc := 8) dX10_within_8 kv_X10_408 ?_
    refine Ex.goto (pc := 11) (tgt := 29) dX10_within_11 (by decide) ?_
    refine Ex.lret (pc := 29) rfl dX10_within_29 (Nat.le_refl _) (Nat.le_refl _) ?_
    exact ⟨by (try rw [lg_cmp_le] at c5); (try rw [lg_cmp_ge] at c19); first | rw [e1 c5] | rw [e2 c5 c19] | rw [e3 c5 c19], rfl⟩
theorem xor_sgn (a b : Int64) : 0 ≤ a ^^^ b ↔ (a < 0 ↔ b < 0) := by
  have h : ∀ x : Int64, x < 0 ↔ x.toBitVec.msb = true := by
    intro x
    rw [BitVec.msb_eq_toInt, Int64.lt_iff_toInt_lt]
    show x.toInt < 0 ↔ _
    simp
  have h3 : 0 ≤ a ^^^ b ↔ ¬ (a ^^^ b < 0) := by rw [Int64.not_lt]
  rw [h3, h, h, h, Int64.toBitVec_xor, BitVec.msb_xor]
  cases a.toBitVec.msb <;> cases b.toBitVec.msb <;> simp
theorem sub0 {a b : Int64} : a - b = 0 ↔ b = a := by
  constructor
  · intro h
    have e : a - b + b = 0 + b := by rw [h]
    rw [Int64.sub_add_cancel, Int64.zero_add] at e
    exact e.symm
  · intro h
    rw [h, Int64.sub_self]
set_option maxRecDepth 20000 in
theorem tm_floor {S : aS} {x y : Int64} : Run 0 0 0 mX10_floor [.long x, .long y] S (RL64 (if y = 0 then 0 else fdivL x y) S) := by
  refine Run.of (ls := [some (.long _), none, some (.long _), none, none, none]) (by decide) (Nat.le_of_ble_eq_true rfl) rfl ?_
  refine Ex.lload_n (pc := 0) dX10_floor_0 rfl rfl ?_
  refine Ex.lconst (pc := 1) (v := 0) dX10_floor_1 rfl ?_
  refine Ex.lcmp (pc := 2) dX10_floor_2 ?_
  refine Ex.if_ne (pc := 3) (tgt := 8) dX10_floor_3 (by decide) (fun c3 => ?_) (fun c3 => ?_)
  · skip
    refine Ex.lload_n (pc := 8) dX10_floor_8 rfl rfl ?_
    refine Ex.lload_n (pc := 9) dX10_floor_9 rfl rfl ?_
    refine Ex.ldiv (pc := 10) dX10_floor_10 (by rw [lg_cmp_eq] at c3; exact c3) ?_
    refine Ex.lstore (pc := 11) (ls' := [some (.long _), none, some (.long _), none, some (.long _), none]) dX10_floor_11 (by decide) rfl rfl ?_
    refine Ex.lload_n (pc := 13) dX10_floor_13 rfl rfl ?_
    refine Ex.lload_n (pc := 14) dX10_floor_14 rfl rfl ?_
    refine Ex.lrem (pc := 15) dX10_floor_15 (by rw [lg_cmp_eq] at c3; exact c3) ?_
    refine Ex.lconst (pc := 16) (v := 0) dX10_floor_16 rfl ?_
    refine Ex.lcmp (pc := 17) dX10_floor_17 ?_
    refine Ex.if_eq (pc := 18) (tgt := 53) dX10_floor_18 (by decide) (fun c18 => ?_) (fun c18 => ?_)
    · skip
      refine Ex.lload (pc := 53) dX10_floor_53 rfl ?_
      refine Ex.lret (pc := 55) rfl dX10_floor_55 (Nat.le_refl _) (Nat.le_refl _) ?_
      rw [lg_cmp_eq] at c3
      rw [lg_cmp_eq, sub0] at c18
      refine ⟨?_, rfl⟩
      rw [if_neg c3]
      unfold fdivL
      try rw [lg_cmp_ge, ← Int64.not_lt] at c24
      try rw [lg_cmp_ge, ← Int64.not_lt] at c35
      simp only [xor_sgn]
      refine congrArg (fun z => some (Value.long z)) ?_
      by_cases hs : (x < 0 ↔ y < 0)
      · rw [if_pos hs]; first | done | (exfalso; grind)
      · rw [if_neg hs]; first | (rw [if_pos c18]; done) | (rw [if_neg c18]; first | done | (exfalso; grind))
    · skip
      refine Ex.lload_n (pc := 21) dX10_floor_21 rfl rfl ?_
      refine Ex.lconst (pc := 22) (v := 0) dX10_floor_22 rfl ?_
      refine Ex.lcmp (pc := 23) dX10_floor_23 ?_
      refine Ex.if_ge (pc := 24) (tgt := 31) dX10_floor_24 (by decide) (fun c24 => ?_) (fun c24 => ?_)
      · skip
        refine Ex.iconst (pc := 31) (v := 0) dX10_floor_31 rfl ?_
        refine Ex.lload_n (pc := 32) dX10_floor_32 rfl rfl ?_
        refine Ex.lconst (pc := 33) (v := 0) dX10_floor_33 rfl ?_
        refine Ex.lcmp (pc := 34) dX10_floor_34 ?_
        refine Ex.if_ge (pc := 35) (tgt := 42) dX10_floor_35 (by decide) (fun c35 => ?_) (fun c35 => ?_)
        · skip
          refine Ex.iconst (pc := 42) (v := 0) dX10_floor_42 rfl ?_
          refine Ex.icmp_eq (pc := 43) (tgt := 53) dX10_floor_43 (by decide) (fun c43 => ?_) (fun c43 => ?_)
          · skip
            refine Ex.lload (pc := 53) dX10_floor_53 rfl ?_
            refine Ex.lret (pc := 55) rfl dX10_floor_55 (Nat.le_refl _) (Nat.le_refl _) ?_
            rw [lg_cmp_eq] at c3
            rw [lg_cmp_eq, sub0] at c18
            refine ⟨?_, rfl⟩
            rw [if_neg c3]
            unfold fdivL
            try rw [lg_cmp_ge, ← Int64.not_lt] at c24
            try rw [lg_cmp_ge, ← Int64.not_lt] at c35
            simp only [xor_sgn]
            refine congrArg (fun z => some (Value.long z)) ?_
            by_cases hs : (x < 0 ↔ y < 0)
            · rw [if_pos hs]; first | done | (exfalso; grind)
            · rw [if_neg hs]; first | (rw [if_pos c18]; done) | (rw [if_neg c18]; first | done | (exfalso; grind))
          · skip
            refine Ex.lload (pc := 46) dX10_floor_46 rfl ?_
            refine Ex.lconst (pc := 48) (v := 1) dX10_floor_48 rfl ?_
            refine Ex.lsub (pc := 49) dX10_floor_49 ?_
            refine Ex.goto (pc := 50) (tgt := 55) dX10_floor_50 (by decide) ?_
            refine Ex.lret (pc := 55) rfl dX10_floor_55 (Nat.le_refl _) (Nat.le_refl _) ?_
            rw [lg_cmp_eq] at c3
            rw [lg_cmp_eq, sub0] at c18
            refine ⟨?_, rfl⟩
            rw [if_neg c3]
            unfold fdivL
            try rw [lg_cmp_ge, ← Int64.not_lt] at c24
            try rw [lg_cmp_ge, ← Int64.not_lt] at c35
            simp only [xor_sgn]
            refine congrArg (fun z => some (Value.long z)) ?_
            by_cases hs : (x < 0 ↔ y < 0)
            · rw [if_pos hs]; first | done | (exfalso; grind)
            · rw [if_neg hs]; first | (rw [if_pos c18]; done) | (rw [if_neg c18]; first | done | (exfalso; grind))
        · skip
          refine Ex.iconst (pc := 38) (v := 1) dX10_floor_38 rfl ?_
          refine Ex.goto (pc := 39) (tgt := 43) dX10_floor_39 (by decide) ?_
          refine Ex.icmp_eq (pc := 43) (tgt := 53) dX10_floor_43 (by decide) (fun c43 => ?_) (fun c43 => ?_)
          · skip
            refine Ex.lload (pc := 53) dX10_floor_53 rfl ?_
            refine Ex.lret (pc := 55) rfl dX10_floor_55 (Nat.le_refl _) (Nat.le_refl _) ?_
            rw [lg_cmp_eq] at c3
            rw [lg_cmp_eq, sub0] at c18
            refine ⟨?_, rfl⟩
            rw [if_neg c3]
            unfold fdivL
            try rw [lg_cmp_ge, ← Int64.not_lt] at c24
            try rw [lg_cmp_ge, ← Int64.not_lt] at c35
            simp only [xor_sgn]
            refine congrArg (fun z => some (Value.long z)) ?_
            by_cases hs : (x < 0 ↔ y < 0)
            · rw [if_pos hs]; first | done | (exfalso; grind)
            · rw [if_neg hs]; first | (rw [if_pos c18]; done) | (rw [if_neg c18]; first | done | (exfalso; grind))
          · skip
            refine Ex.lload (pc := 46) dX10_floor_46 rfl ?_
            refine Ex.lconst (pc := 48) (v := 1) dX10_floor_48 rfl ?_
            refine Ex.lsub (pc := 49) dX10_floor_49 ?_
            refine Ex.goto (pc := 50) (tgt := 55) dX10_floor_50 (by decide) ?_
            refine Ex.lret (pc := 55) rfl dX10_floor_55 (Nat.le_refl _) (Nat.le_refl _) ?_
            rw [lg_cmp_eq] at c3
            rw [lg_cmp_eq, sub0] at c18
            refine ⟨?_, rfl⟩
            rw [if_neg c3]
            unfold fdivL
            try rw [lg_cmp_ge, ← Int64.not_lt] at c24
            try rw [lg_cmp_ge, ← Int64.not_lt] at c35
            simp only [xor_sgn]
            refine congrArg (fun z => some (Value.long z)) ?_
            by_cases hs : (x < 0 ↔ y < 0)
            · rw [if_pos hs]; first | done | (exfalso; grind)
            · rw [if_neg hs]; first | (rw [if_pos c18]; done) | (rw [if_neg c18]; first | done | (exfalso; grind))
      · skip
        refine Ex.iconst (pc := 27) (v := 1) dX10_floor_27 rfl ?_
        refine Ex.goto (pc := 28) (tgt := 32) dX10_floor_28 (by decide) ?_
        refine Ex.lload_n (pc := 32) dX10_floor_32 rfl rfl ?_
        refine Ex.lconst (pc := 33) (v := 0) dX10_floor_33 rfl ?_
        refine Ex.lcmp (pc := 34) dX10_floor_34 ?_
        refine Ex.if_ge (pc := 35) (tgt := 42) dX10_floor_35 (by decide) (fun c35 => ?_) (fun c35 => ?_)
        · skip
          refine Ex.iconst (pc := 42) (v := 0) dX10_floor_42 rfl ?_
          refine Ex.icmp_eq (pc := 43) (tgt := 53) dX10_floor_43 (by decide) (fun c43 => ?_) (fun c43 => ?_)
          · skip
            refine Ex.lload (pc := 53) dX10_floor_53 rfl ?_
            refine Ex.lret (pc := 55) rfl dX10_floor_55 (Nat.le_refl _) (Nat.le_refl _) ?_
            rw [lg_cmp_eq] at c3
            rw [lg_cmp_eq, sub0] at c18
            refine ⟨?_, rfl⟩
            rw [if_neg c3]
            unfold fdivL
            try rw [lg_cmp_ge, ← Int64.not_lt] at c24
            try rw [lg_cmp_ge, ← Int64.not_lt] at c35
            simp only [xor_sgn]
            refine congrArg (fun z => some (Value.long z)) ?_
            by_cases hs : (x < 0 ↔ y < 0)
            · rw [if_pos hs]; first | done | (exfalso; grind)
            · rw [if_neg hs]; first | (rw [if_pos c18]; done) | (rw [if_neg c18]; first | done | (exfalso; grind))
          · skip
            refine Ex.lload (pc := 46) dX10_floor_46 rfl ?_
            refine Ex.lconst (pc := 48) (v := 1) dX10_floor_48 rfl ?_
            refine Ex.lsub (pc := 49) dX10_floor_49 ?_
            refine Ex.goto (pc := 50) (tgt := 55) dX10_floor_50 (by decide) ?_
            refine Ex.lret (pc := 55) rfl dX10_floor_55 (Nat.le_refl _) (Nat.le_refl _) ?_
            rw [lg_cmp_eq] at c3
            rw [lg_cmp_eq, sub0] at c18
            refine ⟨?_, rfl⟩
            rw [if_neg c3]
            unfold fdivL
            try rw [lg_cmp_ge, ← Int64.not_lt] at c24
            try rw [lg_cmp_ge, ← Int64.not_lt] at c35
            simp only [xor_sgn]
            refine congrArg (fun z => some (Value.long z)) ?_
            by_cases hs : (x < 0 ↔ y < 0)
            · rw [if_pos hs]; first | done | (exfalso; grind)
            · rw [if_neg hs]; first | (rw [if_pos c18]; done) | (rw [if_neg c18]; first | done | (exfalso; grind))
        · skip
          refine Ex.iconst (pc := 38) (v := 1) dX10_floor_38 rfl ?_
          refine Ex.goto (pc := 39) (tgt := 43) dX10_floor_39 (by decide) ?_
          refine Ex.icmp_eq (pc := 43) (tgt := 53) dX10_floor_43 (by decide) (fun c43 => ?_) (fun c43 => ?_)
          · skip
            refine Ex.lload (pc := 53) dX10_floor_53 rfl ?_
            refine Ex.lret (pc := 55) rfl dX10_floor_55 (Nat.le_refl _) (Nat.le_refl _) ?_
            rw [lg_cmp_eq] at c3
            rw [lg_cmp_eq, sub0] at c18
            refine ⟨?_, rfl⟩
            rw [if_neg c3]
            unfold fdivL
            try rw [lg_cmp_ge, ← Int64.not_lt] at c24
            try rw [lg_cmp_ge, ← Int64.not_lt] at c35
            simp only [xor_sgn]
            refine congrArg (fun z => some (Value.long z)) ?_
            by_cases hs : (x < 0 ↔ y < 0)
            · rw [if_pos hs]; first | done | (exfalso; grind)
            · rw [if_neg hs]; first | (rw [if_pos c18]; done) | (rw [if_neg c18]; first | done | (exfalso; grind))
          · skip
            refine Ex.lload (pc := 46) dX10_floor_46 rfl ?_
            refine Ex.lconst (pc := 48) (v := 1) dX10_floor_48 rfl ?_
            refine Ex.lsub (pc := 49) dX10_floor_49 ?_
            refine Ex.goto (pc := 50) (tgt := 55) dX10_floor_50 (by decide) ?_
            refine Ex.lret (pc := 55) rfl dX10_floor_55 (Nat.le_refl _) (Nat.le_refl _) ?_
            rw [lg_cmp_eq] at c3
            rw [lg_cmp_eq, sub0] at c18
            refine ⟨?_, rfl⟩
            rw [if_neg c3]
            unfold fdivL
            try rw [lg_cmp_ge, ← Int64.not_lt] at c24
            try rw [lg_cmp_ge, ← Int64.not_lt] at c35
            simp only [xor_sgn]
            refine congrArg (fun z => some (Value.long z)) ?_
            by_cases hs : (x < 0 ↔ y < 0)
            · rw [if_pos hs]; first | done | (exfalso; grind)
            · rw [if_neg hs]; first | (rw [if_pos c18]; done) | (rw [if_neg c18]; first | done | (exfalso; grind))
  · skip
    refine Ex.lconst (pc := 6) (v := 0) dX10_floor_6 rfl ?_
    refine Ex.lret (pc := 7) rfl dX10_floor_7 (Nat.le_refl _) (Nat.le_refl _) ?_
    rw [lg_cmp_eq] at c3
    exact ⟨by rw [if_pos c3], rfl⟩
