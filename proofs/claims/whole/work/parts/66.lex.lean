/-! THE CLASS'S PARSER: its memory (a Parser at 81, its Plan at 82 and its rows), bytes, tokens -/
def SH2 (N M : Nat) : aSh := SH N ++ [(4, 0), (5, 0), (11, 3), (11, 18), (11, 18), (11, 18), (11, 5), (11, 5), (11, M)]
def RL2 : List (List (Option Nat)) := [[some 1, none, some 82], [some 83, some 84, some 85, some 86, none, none, none, some 89, none, some 87, some 88]]
def RR2 : aR := fun a k => if a < 81 then RR a k else (RL2.getD (a - 81) []).getD k none
abbrev St2 (N M : Nat) (I : aI) (L : aL) : aS := (SH2 N M, I, L, RR2)
theorem s2_1 (N M : Nat) : (SH2 N M)[1]? = some (12, 1600) := rfl
theorem s2_0 (N M : Nat) : (SH2 N M)[0]? = some (9, 0) := rfl
theorem s2_81 (N M : Nat) : (SH2 N M)[81]? = some (4, 0) := rfl
theorem s2_82 (N M : Nat) : (SH2 N M)[82]? = some (5, 0) := rfl
theorem s2_83 (N M : Nat) : (SH2 N M)[83]? = some (11, 3) := rfl
theorem s2_84 (N M : Nat) : (SH2 N M)[84]? = some (11, 18) := rfl
theorem s2_85 (N M : Nat) : (SH2 N M)[85]? = some (11, 18) := rfl
theorem s2_86 (N M : Nat) : (SH2 N M)[86]? = some (11, 18) := rfl
theorem s2_87 (N M : Nat) : (SH2 N M)[87]? = some (11, 5) := rfl
theorem s2_88 (N M : Nat) : (SH2 N M)[88]? = some (11, 5) := rfl
theorem s2_89 (N M : Nat) : (SH2 N M)[89]? = some (11, M) := rfl
theorem r2_81_0 : RR2 81 0 = some 1 := rfl
theorem r2_81_2 : RR2 81 2 = some 82 := rfl
theorem r2_82_0 : RR2 82 0 = some 83 := rfl
theorem r2_82_1 : RR2 82 1 = some 84 := rfl
theorem r2_82_2 : RR2 82 2 = some 85 := rfl
theorem r2_82_3 : RR2 82 3 = some 86 := rfl
theorem r2_82_7 : RR2 82 7 = some 89 := rfl
theorem r2_82_9 : RR2 82 9 = some 87 := rfl
theorem r2_82_10 : RR2 82 10 = some 88 := rfl
def RP2 (x : Option Value) (N M : Nat) (L : aL) (P : aI → Prop) : aQ := fun r S' => ∃ I' : aI, r = x ∧ S' = St2 N M I' L ∧ P I'
def sx (b : Nat) : Int32 := (nI b).toInt8.toInt32
def isL (b : Nat) : Bool := decide (97 ≤ b ∧ b ≤ 122)
def isD (b : Nat) : Bool := decide (48 ≤ b ∧ b ≤ 57)
def isBl (b : Nat) : Bool := decide (b = 10 ∨ b = 32)
def TxR (I : aI) (tb : Nat → Nat) (n : Nat) : Prop := ∀ i, i < n → tb i < 256 ∧ I 1 i = sx (tb i)
theorem sx_l : ∀ b, b < 256 → isL b = decide (¬ sx b < 97 ∧ ¬ 122 < sx b) := by decide +kernel
theorem sx_d : ∀ b, b < 256 → isD b = decide (¬ sx b < 48 ∧ ¬ 57 < sx b) := by decide +kernel
theorem sx_b : ∀ b, b < 256 → isBl b = decide (sx b = 10 ∨ sx b = 32) := by decide +kernel
theorem sx_255 : ∀ b, b < 256 → sx b &&& 255 = nI b := by decide +kernel
theorem sx_lo : ∀ b, b < 128 → sx b = nI b := by decide +kernel
theorem isL_b {b : Nat} (h : isL b = true) : 97 ≤ b ∧ b ≤ 122 := of_decide_eq_true h
theorem isD_b {b : Nat} (h : isD b = true) : 48 ≤ b ∧ b ≤ 57 := of_decide_eq_true h
/-- behind the blanks -/
def skF (tb : Nat → Nat) (n : Nat) : Nat → Nat → Nat
  | 0, a => a
  | f + 1, a => if a < n ∧ isBl (tb a) = true then skF tb n f (a + 1) else a
def sk (tb : Nat → Nat) (n a : Nat) : Nat := skF tb n (n - a) a
theorem skF_le (tb : Nat → Nat) (n : Nat) : ∀ f a, a ≤ skF tb n f a
  | 0, _ => Nat.le_refl _
  | f + 1, a => by
    simp only [skF]
    split
    · exact Nat.le_trans (Nat.le_succ a) (skF_le tb n f (a + 1))
    · exact Nat.le_refl _
theorem skF_n (tb : Nat → Nat) (n : Nat) : ∀ f a, a ≤ n → skF tb n f a ≤ n
  | 0, _, h => h
  | f + 1, a, h => by
    simp only [skF]
    split
    · exact skF_n tb n f (a + 1) (by omega)
    · exact h
theorem sk_le (tb : Nat → Nat) (n a : Nat) : a ≤ sk tb n a := skF_le _ _ _ _
theorem sk_n {tb : Nat → Nat} {n a : Nat} (h : a ≤ n) : sk tb n a ≤ n := skF_n _ _ _ _ h
/-- at most f letters from a on -/
def wdF (tb : Nat → Nat) (n : Nat) : Nat → Nat → List Nat
  | 0, _ => []
  | f + 1, a => if a < n ∧ isL (tb a) = true then (tb a - 96) :: wdF tb n f (a + 1) else []
theorem wdF_len (tb : Nat → Nat) (n : Nat) : ∀ f a, (wdF tb n f a).length ≤ f
  | 0, _ => Nat.le_refl _
  | f + 1, a => by
    simp only [wdF]
    split
    · have := wdF_len tb n f (a + 1); simp; omega
    · simp
theorem wdF_at (tb : Nat → Nat) (n : Nat) : ∀ f a k, k < (wdF tb n f a).length → a + k < n ∧ isL (tb (a + k)) = true ∧ (wdF tb n f a)[k]? = some (tb (a + k) - 96)
  | 0, _, k, h => absurd h (Nat.not_lt_zero _)
  | f + 1, a, k, h => by
    simp only [wdF] at h ⊢
    split at h
    · rename_i hc
      rw [if_pos hc]
      cases k with
      | zero => exact ⟨hc.1, hc.2, rfl⟩
      | succ k =>
        have := wdF_at tb n f (a + 1) k (by simpa using h)
        rw [show a + (k + 1) = a + 1 + k by omega]
        exact this
    · exact absurd h (Nat.not_lt_zero _)
theorem wdF_end (tb : Nat → Nat) (n : Nat) : ∀ f a, (wdF tb n f a).length < f → ¬ (a + (wdF tb n f a).length < n ∧ isL (tb (a + (wdF tb n f a).length)) = true)
  | 0, _, h => absurd h (Nat.not_lt_zero _)
  | f + 1, a, h => by
    simp only [wdF] at h ⊢
    split
    · rename_i hc
      rw [if_pos hc] at h
      have := wdF_end tb n f (a + 1) (by simpa using h)
      rw [List.length_cons, show a + ((wdF tb n f (a + 1)).length + 1) = a + 1 + (wdF tb n f (a + 1)).length by omega]
      exact this
    · rename_i hc
      exact hc
/-- at most f digits from a on -/
def nmF (tb : Nat → Nat) (n : Nat) : Nat → Nat → List Nat
  | 0, _ => []
  | f + 1, a => if a < n ∧ isD (tb a) = true then (tb a - 48) :: nmF tb n f (a + 1) else []
theorem nmF_len (tb : Nat → Nat) (n : Nat) : ∀ f a, (nmF tb n f a).length ≤ f
  | 0, _ => Nat.le_refl _
  | f + 1, a => by
    simp only [nmF]
    split
    · have := nmF_len tb n f (a + 1); simp; omega
    · simp
theorem nmF_at (tb : Nat → Nat) (n : Nat) : ∀ f a k, k < (nmF tb n f a).length → a + k < n ∧ isD (tb (a + k)) = true ∧ (nmF tb n f a)[k]? = some (tb (a + k) - 48)
  | 0, _, k, h => absurd h (Nat.not_lt_zero _)
  | f + 1, a, k, h => by
    simp only [nmF] at h ⊢
    split at h
    · rename_i hc
      rw [if_pos hc]
      cases k with
      | zero => exact ⟨hc.1, hc.2, rfl⟩
      | succ k =>
        have := nmF_at tb n f (a + 1) k (by simpa using h)
        rw [show a + (k + 1) = a + 1 + k by omega]
        exact this
    · exact absurd h (Nat.not_lt_zero _)
theorem nmF_end (tb : Nat → Nat) (n : Nat) : ∀ f a, (nmF tb n f a).length < f → ¬ (a + (nmF tb n f a).length < n ∧ isD (tb (a + (nmF tb n f a).length)) = true)
  | 0, _, h => absurd h (Nat.not_lt_zero _)
  | f + 1, a, h => by
    simp only [nmF] at h ⊢
    split
    · rename_i hc
      rw [if_pos hc] at h
      have := nmF_end tb n f (a + 1) (by simpa using h)
      rw [List.length_cons, show a + ((nmF tb n f (a + 1)).length + 1) = a + 1 + (nmF tb n f (a + 1)).length by omega]
      exact this
    · rename_i hc
      exact hc
/-- a field of the Parser is another -/
def pf (I : aI) (j : Nat) (v : Int32) : aI := va_up I 81 (upd (I 81) j v)
theorem pf_s {I : aI} {j : Nat} {v : Int32} : pf I j v 81 j = v := by unfold pf; rw [va_up_s, upd_s]
theorem pf_n {I : aI} {j i : Nat} {v : Int32} (h : i ≠ j) : pf I j v 81 i = I 81 i := by unfold pf; rw [va_up_s, upd_n h]
theorem pf_o {I : aI} {j a : Nat} {v : Int32} (h : a ≠ 81) : pf I j v a = I a := by unfold pf; rw [va_up_n h]
theorem pf_id {I : aI} {j : Nat} {v : Int32} (h : I 81 j = v) : pf I j v = I := by
  funext a i
  by_cases e : a = 81
  · subst e
    by_cases e2 : i = j
    · rw [e2, pf_s, h]
    · rw [pf_n e2]
  · rw [pf_o e]
theorem pf_pf {I : aI} {j : Nat} {v w : Int32} : pf (pf I j v) j w = pf I j w := by
  funext a i
  by_cases e : a = 81
  · subst e
    by_cases e2 : i = j
    · rw [e2, pf_s, pf_s]
    · rw [pf_n e2, pf_n e2, pf_n e2]
  · rw [pf_o e, pf_o e, pf_o e]
theorem TxR.pf {I : aI} {tb : Nat → Nat} {n j : Nat} {v : Int32} (h : TxR I tb n) : TxR (pf I j v) tb n := fun i hi => by rw [pf_o (by decide)]; exact h i hi
theorem TxR.sm {I I2 : aI} {tb : Nat → Nat} {n : Nat} {l : List Nat} (h : TxR I tb n) (hS : Sm l I I2) (h1 : 1 ∉ l) : TxR I2 tb n := fun i hi => by rw [hS 1 h1]; exact h i hi
set_option maxRecDepth 20000 in
theorem t_isLetter {S : aS} {b : Nat} (hb : b < 256) : Run 0 0 0 mX4_isLetter [.int (sx b)] S (RI (bI (isL b)) S) := by
  refine Run.of (ls := [some (.int _)]) (by decide) (Nat.le_of_ble_eq_true rfl) rfl ?_
  rw [sx_l b hb]
  refine Ex.iload_n (pc := 0) dX4_isLetter_0 rfl rfl ?_
  refine Ex.bipush (pc := 1) (v := 97) dX4_isLetter_1 rfl ?_
  refine Ex.icmp_lt (pc := 3) (tgt := 16) dX4_isLetter_3 (by decide) (fun c3 => ?_) (fun c3 => ?_)
  · skip
    refine Ex.iconst (pc := 16) (v := 0) dX4_isLetter_16 rfl ?_
    refine Ex.iret (pc := 17) rfl rfl rfl dX4_isLetter_17 (Nat.le_refl _) (Nat.le_refl _) ?_
    refine ⟨congrArg (fun z => some (Value.int z)) ?_, rfl⟩
    rw [decide_eq_false (fun q => q.1 c3)]; rfl
  · skip
    refine Ex.iload_n (pc := 6) dX4_isLetter_6 rfl rfl ?_
    refine Ex.bipush (pc := 7) (v := 122) dX4_isLetter_7 rfl ?_
    refine Ex.icmp_gt (pc := 9) (tgt := 16) dX4_isLetter_9 (by decide) (fun c9 => ?_) (fun c9 => ?_)
    · skip
      refine Ex.iconst (pc := 16) (v := 0) dX4_isLetter_16 rfl ?_
      refine Ex.iret (pc := 17) rfl rfl rfl dX4_isLetter_17 (Nat.le_refl _) (Nat.le_refl _) ?_
      refine ⟨congrArg (fun z => some (Value.int z)) ?_, rfl⟩
      rw [decide_eq_false (fun q => q.2 c9)]; rfl
    · skip
      refine Ex.iconst (pc := 12) (v := 1) dX4_isLetter_12 rfl ?_
      refine Ex.goto (pc := 13) (tgt := 17) dX4_isLetter_13 (by decide) ?_
      refine Ex.iret (pc := 17) rfl rfl rfl dX4_isLetter_17 (Nat.le_refl _) (Nat.le_refl _) ?_
      refine ⟨congrArg (fun z => some (Value.int z)) ?_, rfl⟩
      rw [decide_eq_true ⟨c3, c9⟩]; rfl
set_option maxRecDepth 20000 in
theorem t_isDigit {S : aS} {b : Nat} (hb : b < 256) : Run 0 0 0 mX4_isDigit [.int (sx b)] S (RI (bI (isD b)) S) := by
  refine Run.of (ls := [some (.int _)]) (by decide) (Nat.le_of_ble_eq_true rfl) rfl ?_
  rw [sx_d b hb]
  refine Ex.iload_n (pc := 0) dX4_isDigit_0 rfl rfl ?_
  refine Ex.bipush (pc := 1) (v := 48) dX4_isDigit_1 rfl ?_
  refine Ex.icmp_lt (pc := 3) (tgt := 16) dX4_isDigit_3 (by decide) (fun c3 => ?_) (fun c3 => ?_)
  · skip
    refine Ex.iconst (pc := 16) (v := 0) dX4_isDigit_16 rfl ?_
    refine Ex.iret (pc := 17) rfl rfl rfl dX4_isDigit_17 (Nat.le_refl _) (Nat.le_refl _) ?_
    refine ⟨congrArg (fun z => some (Value.int z)) ?_, rfl⟩
    rw [decide_eq_false (fun q => q.1 c3)]; rfl
  · skip
    refine Ex.iload_n (pc := 6) dX4_isDigit_6 rfl rfl ?_
    refine Ex.bipush (pc := 7) (v := 57) dX4_isDigit_7 rfl ?_
    refine Ex.icmp_gt (pc := 9) (tgt := 16) dX4_isDigit_9 (by decide) (fun c9 => ?_) (fun c9 => ?_)
    · skip
      refine Ex.iconst (pc := 16) (v := 0) dX4_isDigit_16 rfl ?_
      refine Ex.iret (pc := 17) rfl rfl rfl dX4_isDigit_17 (Nat.le_refl _) (Nat.le_refl _) ?_
      refine ⟨congrArg (fun z => some (Value.int z)) ?_, rfl⟩
      rw [decide_eq_false (fun q => q.2 c9)]; rfl
    · skip
      refine Ex.iconst (pc := 12) (v := 1) dX4_isDigit_12 rfl ?_
      refine Ex.goto (pc := 13) (tgt := 17) dX4_isDigit_13 (by decide) ?_
      refine Ex.iret (pc := 17) rfl rfl rfl dX4_isDigit_17 (Nat.le_refl _) (Nat.le_refl _) ?_
      refine ⟨congrArg (fun z => some (Value.int z)) ?_, rfl⟩
      rw [decide_eq_true ⟨c3, c9⟩]; rfl
set_option maxRecDepth 20000 in
theorem t_stop {N M : Nat} {I : aI} {L : aL} {k w : Int32} : Run 0 0 0 mX4_stop [.ref 81, .int k, .int w] (St2 N M I L) (RV (St2 N M (if I 81 3 = 0 then pf (pf (pf I 3 k) 4 w) 7 0 else pf I 7 0) L)) := by
  refine Run.of (ls := [some (.ref 81), some (.int _), some (.int _)]) (by decide) (Nat.le_of_ble_eq_true rfl) rfl ?_
  refine Ex.aload_n (pc := 0) dX4_stop_0 rfl rfl ?_
  refine Ex.getI (pc := 1) dX4_stop_1 fX4_9 (s2_81 _ _) ?_
  refine Ex.if_ne (pc := 4) (tgt := 17) dX4_stop_4 (by decide) (fun c4 => ?_) (fun c4 => ?_)
  · skip
    refine Ex.aload_n (pc := 17) dX4_stop_17 rfl rfl ?_
    refine Ex.iconst (pc := 18) (v := 0) dX4_stop_18 rfl ?_
    refine Ex.putI (pc := 19) dX4_stop_19 fX4_24 (s2_81 _ _) (Or.inl rfl) ⟨rfl, rfl⟩ ?_
    refine Ex.vret (pc := 22) rfl dX4_stop_22 (Nat.le_refl _) (Nat.le_refl _) ?_
    refine ⟨rfl, ?_⟩
    rw [if_neg c4]; rfl
  · skip
    refine Ex.aload_n (pc := 7) dX4_stop_7 rfl rfl ?_
    refine Ex.iload_n (pc := 8) dX4_stop_8 rfl rfl ?_
    refine Ex.putI (pc := 9) dX4_stop_9 fX4_9 (s2_81 _ _) (Or.inl rfl) ⟨rfl, rfl⟩ ?_
    refine Ex.aload_n (pc := 12) dX4_stop_12 rfl rfl ?_
    refine Ex.iload_n (pc := 13) dX4_stop_13 rfl rfl ?_
    refine Ex.putI (pc := 14) dX4_stop_14 fX4_15 (s2_81 _ _) (Or.inl rfl) ⟨rfl, rfl⟩ ?_
    refine Ex.aload_n (pc := 17) dX4_stop_17 rfl rfl ?_
    refine Ex.iconst (pc := 18) (v := 0) dX4_stop_18 rfl ?_
    refine Ex.putI (pc := 19) dX4_stop_19 fX4_24 (s2_81 _ _) (Or.inl rfl) ⟨rfl, rfl⟩ ?_
    refine Ex.vret (pc := 22) rfl dX4_stop_22 (Nat.le_refl _) (Nat.le_refl _) ?_
    refine ⟨rfl, ?_⟩
    rw [if_pos c4]; rfl
theorem sk_ex {N M : Nat} {L : aL} {tb : Nat → Nat} {n : Nat} (hn : n ≤ 1600) : ∀ f a (I : aI), n - a = f → a ≤ n → TxR I tb n → I 81 1 = nI n → I 81 5 = nI a → Ex 0 0 0 mX4_skipBlanks 0 0 0 [some (.ref 81)] [] (St2 N M I L) (RV (St2 N M (pf I 5 (nI (skF tb n f a))) L)) := by
  intro f
  induction f with
  | zero =>
    intro a I hf ha hT h1 h5
    rw [show skF tb n 0 a = a from rfl, pf_id h5]
    refine Ex.aload_n (pc := 0) dX4_skipBlanks_0 rfl rfl ?_
    refine Ex.getI (pc := 1) dX4_skipBlanks_1 fX4_18 (s2_81 _ _) ?_
    refine Ex.aload_n (pc := 4) dX4_skipBlanks_4 rfl rfl ?_
    refine Ex.getI (pc := 5) dX4_skipBlanks_5 fX4_49 (s2_81 _ _) ?_
    refine Ex.icmp_ge (pc := 8) (tgt := 52) dX4_skipBlanks_8 (by decide) (fun _ => ?_) (fun c8 => absurd (by rw [h1, h5]; exact nI_le (by omega) (by omega)) c8)
    refine Ex.vret (pc := 52) rfl dX4_skipBlanks_52 (Nat.le_refl _) (Nat.le_refl _) ?_
    exact ⟨rfl, rfl⟩
  | succ f ih =>
    intro a I hf ha hT h1 h5
    have han : a < n := by omega
    obtain ⟨hb, e1⟩ := hT a han
    have hst : skF tb n (f + 1) a = if a < n ∧ isBl (tb a) = true then skF tb n f (a + 1) else a := rfl
    rw [sx_b _ hb] at hst
    refine Ex.aload_n (pc := 0) dX4_skipBlanks_0 rfl rfl ?_
    refine Ex.getI (pc := 1) dX4_skipBlanks_1 fX4_18 (s2_81 _ _) ?_
    refine Ex.aload_n (pc := 4) dX4_skipBlanks_4 rfl rfl ?_
    refine Ex.getI (pc := 5) dX4_skipBlanks_5 fX4_49 (s2_81 _ _) ?_
    refine Ex.icmp_ge (pc := 8) (tgt := 52) dX4_skipBlanks_8 (by decide) (fun c8 => absurd c8 (by rw [h1, h5]; exact nI_ge han (by omega))) (fun _ => ?_)
    refine Ex.aload_n (pc := 11) dX4_skipBlanks_11 rfl rfl ?_
    refine Ex.getR (pc := 12) dX4_skipBlanks_12 fX4_36 (s2_81 _ _) r2_81_0 ?_
    refine Ex.aload_n (pc := 15) dX4_skipBlanks_15 rfl rfl ?_
    refine Ex.getI (pc := 16) dX4_skipBlanks_16 fX4_18 (s2_81 _ _) ?_
    refine Ex.bald (pc := 19) (j := a) dX4_skipBlanks_19 (s2_1 _ _) (by rw [h5]; exact vp_in_nI (by omega) (by decide)) (by rw [h5]; exact nI_clamp (by omega)) ?_
    rw [e1]
    refine Ex.bipush (pc := 20) (v := 10) dX4_skipBlanks_20 rfl ?_
    refine Ex.icmp_eq (pc := 22) (tgt := 39) dX4_skipBlanks_22 (by decide) (fun c22 => ?_) (fun c22 => ?_)
    · skip
      refine Ex.aload_n (pc := 39) dX4_skipBlanks_39 rfl rfl ?_
      refine Ex.dup (pc := 40) dX4_skipBlanks_40 rfl ?_
      refine Ex.getI (pc := 41) dX4_skipBlanks_41 fX4_18 (s2_81 _ _) ?_
      refine Ex.iconst (pc := 44) (v := 1) dX4_skipBlanks_44 rfl ?_
      refine Ex.iadd (pc := 45) dX4_skipBlanks_45 ?_
      refine Ex.putI (pc := 46) dX4_skipBlanks_46 fX4_18 (s2_81 _ _) (Or.inl rfl) ⟨rfl, rfl⟩ ?_
      refine Ex.goto (pc := 49) (tgt := 0) dX4_skipBlanks_49 (by decide) ?_
      rw [if_pos ⟨han, decide_eq_true (Or.inl c22)⟩] at hst
      rw [hst]
      refine Ex.mm (S' := St2 N M (pf I 5 (nI (a + 1))) L) ?_ ?_
      · rw [h5, show nI a + 1 = nI (a + 1) from nI_1 a]; rfl
      rw [show pf I 5 (nI (skF tb n f (a + 1))) = pf (pf I 5 (nI (a + 1))) 5 (nI (skF tb n f (a + 1))) from pf_pf.symm]
      exact ih (a + 1) _ (by omega) (by omega) hT.pf (by rw [pf_n (by decide)]; exact h1) pf_s
    · skip
      refine Ex.aload_n (pc := 25) dX4_skipBlanks_25 rfl rfl ?_
      refine Ex.getR (pc := 26) dX4_skipBlanks_26 fX4_36 (s2_81 _ _) r2_81_0 ?_
      refine Ex.aload_n (pc := 29) dX4_skipBlanks_29 rfl rfl ?_
      refine Ex.getI (pc := 30) dX4_skipBlanks_30 fX4_18 (s2_81 _ _) ?_
      refine Ex.bald (pc := 33) (j := a) dX4_skipBlanks_33 (s2_1 _ _) (by rw [h5]; exact vp_in_nI (by omega) (by decide)) (by rw [h5]; exact nI_clamp (by omega)) ?_
      rw [e1]
      refine Ex.bipush (pc := 34) (v := 32) dX4_skipBlanks_34 rfl ?_
      refine Ex.icmp_ne (pc := 36) (tgt := 52) dX4_skipBlanks_36 (by decide) (fun c36 => ?_) (fun c36 => ?_)
      · skip
        refine Ex.vret (pc := 52) rfl dX4_skipBlanks_52 (Nat.le_refl _) (Nat.le_refl _) ?_
        rw [if_neg (fun q => by have := of_decide_eq_true q.2; exact this.elim c22 c36)] at hst
        rw [hst, pf_id h5]
        exact ⟨rfl, rfl⟩
      · skip
        refine Ex.aload_n (pc := 39) dX4_skipBlanks_39 rfl rfl ?_
        refine Ex.dup (pc := 40) dX4_skipBlanks_40 rfl ?_
        refine Ex.getI (pc := 41) dX4_skipBlanks_41 fX4_18 (s2_81 _ _) ?_
        refine Ex.iconst (pc := 44) (v := 1) dX4_skipBlanks_44 rfl ?_
        refine Ex.iadd (pc := 45) dX4_skipBlanks_45 ?_
        refine Ex.putI (pc := 46) dX4_skipBlanks_46 fX4_18 (s2_81 _ _) (Or.inl rfl) ⟨rfl, rfl⟩ ?_
        refine Ex.goto (pc := 49) (tgt := 0) dX4_skipBlanks_49 (by decide) ?_
        rw [if_pos ⟨han, decide_eq_true (Or.inr c36)⟩] at hst
        rw [hst]
        refine Ex.mm (S' := St2 N M (pf I 5 (nI (a + 1))) L) ?_ ?_
        · rw [h5, show nI a + 1 = nI (a + 1) from nI_1 a]; rfl
        rw [show pf I 5 (nI (skF tb n f (a + 1))) = pf (pf I 5 (nI (a + 1))) 5 (nI (skF tb n f (a + 1))) from pf_pf.symm]
        exact ih (a + 1) _ (by omega) (by omega) hT.pf (by rw [pf_n (by decide)]; exact h1) pf_s
set_option maxRecDepth 20000 in
theorem t_skipBlanks {N M : Nat} {I : aI} {L : aL} {tb : Nat → Nat} {n a : Nat} (hT : TxR I tb n) (h1 : I 81 1 = nI n) (hn : n ≤ 1600) (h5 : I 81 5 = nI a) (ha : a ≤ n) : Run 0 0 0 mX4_skipBlanks [.ref 81] (St2 N M I L) (RV (St2 N M (pf I 5 (nI (sk tb n a))) L)) := by
  refine Run.of (ls := [some (.ref 81)]) (by decide) (Nat.le_of_ble_eq_true rfl) rfl ?_
  exact sk_ex hn _ a I rfl ha hT h1 h5
theorem pf_3 (I : aI) (x y z w v : Int32) : pf (pf (pf (pf (pf I 7 x) 8 y) 5 z) 8 w) 5 v = pf (pf (pf I 7 x) 8 w) 5 v := by
  funext a i
  by_cases e : a = 81
  · subst e
    by_cases e5 : i = 5
    · rw [e5, pf_s, pf_s]
    · by_cases e8 : i = 8
      · rw [e8, pf_n (by decide), pf_s, pf_n (by decide), pf_s]
      · rw [pf_n e5, pf_n e8, pf_n e5, pf_n e8, pf_n e5, pf_n e8]
  · rw [pf_o e, pf_o e, pf_o e, pf_o e, pf_o e, pf_o e, pf_o e, pf_o e]
theorem dg10_lt {l : List Nat} (h : ∀ c ∈ l, c < 10) (h4 : l.length ≤ 4) (k : Nat) : dg 10 (l.take k) < 10000 := by
  have h1 := dg_lt (B := 10) (by decide) h (if k ≤ l.length then k else l.length) (by split <;> omega)
  have e : l.take (if k ≤ l.length then k else l.length) = l.take k := by
    split
    · rfl
    · rw [List.take_length, List.take_of_length_le (by omega)]
  rw [e] at h1
  refine Nat.lt_of_lt_of_le h1 ?_
  calc 10 ^ (if k ≤ l.length then k else l.length) ≤ 10 ^ 4 := Nat.pow_le_pow_right (by decide) (by split <;> omega)
    _ = 10000 := by decide
def lexN (tb : Nat → Nat) (n a : Nat) : Bool := decide (a + (nmF tb n 4 a).length < n ∧ isD (tb (a + (nmF tb n 4 a).length)) = true)
def lexW (tb : Nat → Nat) (n a : Nat) : Bool := decide (a + (wdF tb n 6 a).length < n ∧ isL (tb (a + (wdF tb n 6 a).length)) = true)
set_option maxRecDepth 20000 in
theorem t_takeNumber {N M : Nat} {I : aI} {L : aL} {tb : Nat → Nat} {n a : Nat} (hT : TxR I tb n) (h1 : I 81 1 = nI n) (hn : n ≤ 1600) (h5 : I 81 5 = nI a) (ha : a ≤ n) (h3 : I 81 3 = 0) (h4 : I 81 4 = -1) : Run 1 0 0 mX4_takeNumber [.ref 81] (St2 N M I L) (RP2 none N M L (fun I2 => Sm [81] I I2 ∧ (∀ j, j ≠ 3 → j ≠ 4 → j ≠ 5 → j ≠ 7 → j ≠ 8 → I2 81 j = I 81 j) ∧ (lexN tb n a = false → I2 81 3 = 0 ∧ I2 81 7 = 3 ∧ I2 81 5 = nI (a + (nmF tb n 4 a).length) ∧ I2 81 8 = nI (dg 10 (nmF tb n 4 a)) ∧ I2 81 4 = -1) ∧ (lexN tb n a = true → I2 81 3 = 1 ∧ I2 81 4 = nI (a + (nmF tb n 4 a).length) ∧ I2 81 7 = 0))) := by
  refine Run.of (ls := [some (.ref 81), none]) (by decide) (Nat.le_of_ble_eq_true rfl) rfl ?_
  have hlen := nmF_len tb n 4 a
  have hat := nmF_at tb n 4 a
  have hend := nmF_end tb n 4 a
  have hall : ∀ c ∈ nmF tb n 4 a, c < 10 := by
    intro c hc
    obtain ⟨k, hk⟩ := List.getElem?_of_mem hc
    obtain ⟨-, h2, h3⟩ := hat k (List.getElem?_eq_some_iff.mp hk).1
    rw [hk] at h3
    have := isD_b h2
    have := Option.some.inj h3
    omega
  have hlx : lexN tb n a = decide (a + (nmF tb n 4 a).length < n ∧ isD (tb (a + (nmF tb n 4 a).length)) = true) := rfl
  generalize hl : nmF tb n 4 a = l at *
  have k83 : Ex 1 0 0 mX4_takeNumber 0 0 83 [some (.ref 81), none] [] (St2 N M (pf (pf (pf I 7 3) 8 (nI (dg 10 l))) 5 (nI (a + l.length))) L) (RP2 none N M L (fun I2 => Sm [81] I I2 ∧ (∀ j, j ≠ 3 → j ≠ 4 → j ≠ 5 → j ≠ 7 → j ≠ 8 → I2 81 j = I 81 j) ∧ (lexN tb n a = false → I2 81 3 = 0 ∧ I2 81 7 = 3 ∧ I2 81 5 = nI (a + l.length) ∧ I2 81 8 = nI (dg 10 l) ∧ I2 81 4 = -1) ∧ (lexN tb n a = true → I2 81 3 = 1 ∧ I2 81 4 = nI (a + l.length) ∧ I2 81 7 = 0))) := by
    obtain ⟨I3, hI3⟩ : ∃ z, z = pf (pf (pf I 7 3) 8 (nI (dg 10 l))) 5 (nI (a + l.length)) := ⟨_, rfl⟩
    have g5 : I3 81 5 = nI (a + l.length) := by rw [hI3, pf_s]
    have g1 : I3 81 1 = nI n := by rw [hI3, pf_n (by decide), pf_n (by decide), pf_n (by decide)]; exact h1
    have g3 : I3 81 3 = 0 := by rw [hI3, pf_n (by decide), pf_n (by decide), pf_n (by decide)]; exact h3
    have g4 : I3 81 4 = -1 := by rw [hI3, pf_n (by decide), pf_n (by decide), pf_n (by decide)]; exact h4
    have g7 : I3 81 7 = 3 := by rw [hI3, pf_n (by decide), pf_n (by decide), pf_s]
    have g8 : I3 81 8 = nI (dg 10 l) := by rw [hI3, pf_n (by decide), pf_s]
    have gT : TxR I3 tb n := by rw [hI3]; exact hT.pf.pf.pf
    have gS : Sm [81] I I3 := by rw [hI3]; exact ((Sm.rf.up (by decide)).up (by decide)).up (by decide)
    have gj : ∀ j, j ≠ 3 → j ≠ 4 → j ≠ 5 → j ≠ 7 → j ≠ 8 → I3 81 j = I 81 j := fun j _ _ a b c => by rw [hI3, pf_n a, pf_n c, pf_n b]
    rw [← hI3]
    have hale : a + l.length ≤ n := by
      rcases Nat.eq_zero_or_pos l.length with e | e
      · omega
      · obtain ⟨q, -⟩ := hat (l.length - 1) (by omega); omega
    refine Ex.aload_n (pc := 83) dX4_takeNumber_83 rfl rfl ?_
    refine Ex.getI (pc := 84) dX4_takeNumber_84 fX4_18 (s2_81 _ _) ?_
    refine Ex.aload_n (pc := 87) dX4_takeNumber_87 rfl rfl ?_
    refine Ex.getI (pc := 88) dX4_takeNumber_88 fX4_49 (s2_81 _ _) ?_
    refine Ex.icmp_ge (pc := 91) (tgt := 118) dX4_takeNumber_91 (by decide) (fun c91 => ?_) (fun c91 => ?_)
    · skip
      refine Ex.vret (pc := 118) rfl dX4_takeNumber_118 (Nat.le_refl _) (Nat.le_refl _) ?_
      rw [g5, g1, nI_leI (by omega) (by omega)] at c91
      refine ⟨_, rfl, rfl, gS, gj, fun _ => ⟨g3, g7, g5, g8, g4⟩, fun q => ?_⟩
      rw [hlx] at q; have := of_decide_eq_true q; omega
    · skip
      rw [g5, g1, nI_leI (by omega) (by omega)] at c91
      have han : a + l.length < n := by omega
      obtain ⟨hb, e1⟩ := gT _ han
      refine Ex.aload_n (pc := 94) dX4_takeNumber_94 rfl rfl ?_
      refine Ex.getR (pc := 95) dX4_takeNumber_95 fX4_36 (s2_81 _ _) r2_81_0 ?_
      refine Ex.aload_n (pc := 98) dX4_takeNumber_98 rfl rfl ?_
      refine Ex.getI (pc := 99) dX4_takeNumber_99 fX4_18 (s2_81 _ _) ?_
      refine Ex.bald (pc := 102) (j := a + l.length) dX4_takeNumber_102 (s2_1 _ _) (by rw [g5]; exact vp_in_nI (by omega) (by decide)) (by rw [g5]; exact nI_clamp (by omega)) ?_
      rw [e1]
      refine Ex.callS (pc := 103) (As := [.int _]) (rest := []) dX4_takeNumber_103 cX4_74 (t_isDigit hb) rfl rfl (by decide) (Nat.le_refl _) (Nat.le_refl _) (Nat.le_of_ble_eq_true rfl) (Or.inl (fun r S' h => by obtain ⟨_, h⟩ := h; subst h; rfl)) (fun r S' hq _ _ => ?_)
      obtain ⟨rfl, rfl⟩ := hq
      refine Ex.if_eq (pc := 106) (tgt := 118) dX4_takeNumber_106 (by decide) (fun c106 => ?_) (fun c106 => ?_)
      · skip
        refine Ex.vret (pc := 118) rfl dX4_takeNumber_118 (Nat.le_refl _) (Nat.le_refl _) ?_
        refine ⟨_, rfl, rfl, gS, gj, fun _ => ⟨g3, g7, g5, g8, g4⟩, fun q => ?_⟩
        rw [hlx] at q; have := of_decide_eq_true q; rw [this.2] at c106; exact absurd c106 (by decide)
      · skip
        refine Ex.aload_n (pc := 109) dX4_takeNumber_109 rfl rfl ?_
        refine Ex.iconst (pc := 110) (v := 1) dX4_takeNumber_110 rfl ?_
        refine Ex.aload_n (pc := 111) dX4_takeNumber_111 rfl rfl ?_
        refine Ex.getI (pc := 112) dX4_takeNumber_112 fX4_18 (s2_81 _ _) ?_
        refine Ex.callV (pc := 115) (As := [.int 1, .int _]) (rest := []) dX4_takeNumber_115 cX4_77 t_stop (s2_81 _ _) rfl rfl (by decide) (Nat.le_refl _) (Nat.le_refl _) (Nat.le_of_ble_eq_true rfl) (Or.inl (fun r S' h => by obtain ⟨_, h⟩ := h; subst h; rfl)) (fun r S' hq _ _ => ?_)
        obtain ⟨rfl, rfl⟩ := hq
        refine Ex.vret (pc := 118) rfl dX4_takeNumber_118 (Nat.le_refl _) (Nat.le_refl _) ?_
        refine ⟨_, rfl, rfl, ?_, ?_, fun q => ?_, fun _ => ⟨?_, ?_, ?_⟩⟩
        · rw [if_pos g3]; exact ((gS.up (by decide)).up (by decide)).up (by decide)
        · intro j a b c d e; rw [if_pos g3, pf_n d, pf_n b, pf_n a]; exact gj j a b c d e
        · rw [hlx] at q; exact absurd ⟨han, bI_1 c106⟩ (of_decide_eq_false q)
        · rw [if_pos g3, pf_n (by decide), pf_n (by decide), pf_s]
        · rw [if_pos g3, pf_n (by decide), pf_s, g5]
        · rw [if_pos g3, pf_s]
  have kl : Ex 1 0 0 mX4_takeNumber 0 0 12 [some (.ref 81), some (.int (nI 0))] [] (St2 N M (pf (pf (pf I 7 3) 8 (nI (dg 10 (l.take 0)))) 5 (nI (a + 0))) L) (RP2 none N M L (fun I2 => Sm [81] I I2 ∧ (∀ j, j ≠ 3 → j ≠ 4 → j ≠ 5 → j ≠ 7 → j ≠ 8 → I2 81 j = I 81 j) ∧ (lexN tb n a = false → I2 81 3 = 0 ∧ I2 81 7 = 3 ∧ I2 81 5 = nI (a + l.length) ∧ I2 81 8 = nI (dg 10 l) ∧ I2 81 4 = -1) ∧ (lexN tb n a = true → I2 81 3 = 1 ∧ I2 81 4 = nI (a + l.length) ∧ I2 81 7 = 0))) := by
    refine forUp (σ := Unit) (P := fun k _ => Ex 1 0 0 mX4_takeNumber 0 0 12 [some (.ref 81), some (.int (nI k))] [] (St2 N M (pf (pf (pf I 7 3) 8 (nI (dg 10 (l.take k)))) 5 (nI (a + k))) L) _) (Inv := fun _ _ => True) l.length ?_ ?_ 0 () (Nat.zero_le _) trivial
    · rintro - -
      rw [List.take_length]
      have hale : a + l.length ≤ n := by
        rcases Nat.eq_zero_or_pos l.length with e | e
        · omega
        · obtain ⟨q, -⟩ := hat (l.length - 1) (by omega); omega
      obtain ⟨I3, hI3⟩ : ∃ z, z = pf (pf (pf I 7 3) 8 (nI (dg 10 l))) 5 (nI (a + l.length)) := ⟨_, rfl⟩
      have g5 : I3 81 5 = nI (a + l.length) := by rw [hI3, pf_s]
      have g1 : I3 81 1 = nI n := by rw [hI3, pf_n (by decide), pf_n (by decide), pf_n (by decide)]; exact h1
      have gT : TxR I3 tb n := by rw [hI3]; exact hT.pf.pf.pf
      rw [← hI3] at k83 ⊢
      refine Ex.iload_n (pc := 12) dX4_takeNumber_12 rfl rfl ?_
      refine Ex.iconst (pc := 13) (v := 4) dX4_takeNumber_13 rfl ?_
      refine Ex.icmp_ge (pc := 14) (tgt := 83) dX4_takeNumber_14 (by decide) (fun c14 => ?_) (fun c14 => ?_)
      · skip
        exact Ex.le (ls' := [some (.ref 81), none]) ⟨rfl, trivial⟩ k83
      · skip
        refine Ex.aload_n (pc := 17) dX4_takeNumber_17 rfl rfl ?_
        refine Ex.getI (pc := 18) dX4_takeNumber_18 fX4_18 (s2_81 _ _) ?_
        refine Ex.aload_n (pc := 21) dX4_takeNumber_21 rfl rfl ?_
        refine Ex.getI (pc := 22) dX4_takeNumber_22 fX4_49 (s2_81 _ _) ?_
        refine Ex.icmp_ge (pc := 25) (tgt := 83) dX4_takeNumber_25 (by decide) (fun c25 => ?_) (fun c25 => ?_)
        · skip
          exact Ex.le (ls' := [some (.ref 81), none]) ⟨rfl, trivial⟩ k83
        · skip
          rw [g5, g1, nI_leI (by omega) (by omega)] at c25
          have han : a + l.length < n := by omega
          obtain ⟨hb, e1⟩ := gT _ han
          refine Ex.aload_n (pc := 28) dX4_takeNumber_28 rfl rfl ?_
          refine Ex.getR (pc := 29) dX4_takeNumber_29 fX4_36 (s2_81 _ _) r2_81_0 ?_
          refine Ex.aload_n (pc := 32) dX4_takeNumber_32 rfl rfl ?_
          refine Ex.getI (pc := 33) dX4_takeNumber_33 fX4_18 (s2_81 _ _) ?_
          refine Ex.bald (pc := 36) (j := a + l.length) dX4_takeNumber_36 (s2_1 _ _) (by rw [g5]; exact vp_in_nI (by omega) (by decide)) (by rw [g5]; exact nI_clamp (by omega)) ?_
          rw [e1]
          refine Ex.callS (pc := 37) (As := [.int _]) (rest := []) dX4_takeNumber_37 cX4_74 (t_isDigit hb) rfl rfl (by decide) (Nat.le_refl _) (Nat.le_refl _) (Nat.le_of_ble_eq_true rfl) (Or.inl (fun r S' h => by obtain ⟨_, h⟩ := h; subst h; rfl)) (fun r S' hq _ _ => ?_)
          obtain ⟨rfl, rfl⟩ := hq
          refine Ex.if_eq (pc := 40) (tgt := 83) dX4_takeNumber_40 (by decide) (fun c40 => ?_) (fun c40 => ?_)
          · skip
            exact Ex.le (ls' := [some (.ref 81), none]) ⟨rfl, trivial⟩ k83
          · skip
            have c14 : ¬ nI 4 ≤ nI l.length := c14
            rw [nI_leI (by decide) (by omega)] at c14
            exact absurd ⟨han, bI_1 c40⟩ (hend (by omega))
    · rintro k - hk - ih
      obtain ⟨hkn, hkd, hkl⟩ := hat k hk
      have hdt := dg_take (B := 10) hkl
      have hd1 := dg10_lt hall hlen k
      have hdb := isD_b hkd
      obtain ⟨I3, hI3⟩ : ∃ z, z = pf (pf (pf I 7 3) 8 (nI (dg 10 (l.take k)))) 5 (nI (a + k)) := ⟨_, rfl⟩
      have g5 : I3 81 5 = nI (a + k) := by rw [hI3, pf_s]
      have g1 : I3 81 1 = nI n := by rw [hI3, pf_n (by decide), pf_n (by decide), pf_n (by decide)]; exact h1
      have g8 : I3 81 8 = nI (dg 10 (l.take k)) := by rw [hI3, pf_n (by decide), pf_s]
      have gT : TxR I3 tb n := by rw [hI3]; exact hT.pf.pf.pf
      obtain ⟨hb, e1⟩ := gT _ hkn
      rw [← hI3]
      refine Ex.iload_n (pc := 12) dX4_takeNumber_12 rfl rfl ?_
      refine Ex.iconst (pc := 13) (v := 4) dX4_takeNumber_13 rfl ?_
      refine Ex.icmp_ge (pc := 14) (tgt := 83) dX4_takeNumber_14 (by decide) (fun c14 => absurd c14 (nI_ge (b := 4) (by omega) (by decide))) (fun _ => ?_)
      refine Ex.aload_n (pc := 17) dX4_takeNumber_17 rfl rfl ?_
      refine Ex.getI (pc := 18) dX4_takeNumber_18 fX4_18 (s2_81 _ _) ?_
      refine Ex.aload_n (pc := 21) dX4_takeNumber_21 rfl rfl ?_
      refine Ex.getI (pc := 22) dX4_takeNumber_22 fX4_49 (s2_81 _ _) ?_
      refine Ex.icmp_ge (pc := 25) (tgt := 83) dX4_takeNumber_25 (by decide) (fun c25 => absurd c25 (by rw [g5, g1]; exact nI_ge hkn (by omega))) (fun _ => ?_)
      refine Ex.aload_n (pc := 28) dX4_takeNumber_28 rfl rfl ?_
      refine Ex.getR (pc := 29) dX4_takeNumber_29 fX4_36 (s2_81 _ _) r2_81_0 ?_
      refine Ex.aload_n (pc := 32) dX4_takeNumber_32 rfl rfl ?_
      refine Ex.getI (pc := 33) dX4_takeNumber_33 fX4_18 (s2_81 _ _) ?_
      refine Ex.bald (pc := 36) (j := a + k) dX4_takeNumber_36 (s2_1 _ _) (by rw [g5]; exact vp_in_nI (by omega) (by decide)) (by rw [g5]; exact nI_clamp (by omega)) ?_
      rw [e1]
      refine Ex.callS (pc := 37) (As := [.int _]) (rest := []) dX4_takeNumber_37 cX4_74 (t_isDigit hb) rfl rfl (by decide) (Nat.le_refl _) (Nat.le_refl _) (Nat.le_of_ble_eq_true rfl) (Or.inl (fun r S' h => by obtain ⟨_, h⟩ := h; subst h; rfl)) (fun r S' hq _ _ => ?_)
      obtain ⟨rfl, rfl⟩ := hq
      refine Ex.if_eq (pc := 40) (tgt := 83) dX4_takeNumber_40 (by decide) (fun c40 => absurd c40 (by rw [hkd]; decide)) (fun _ => ?_)
      refine Ex.aload_n (pc := 43) dX4_takeNumber_43 rfl rfl ?_
      refine Ex.bipush (pc := 44) (v := 10) dX4_takeNumber_44 rfl ?_
      refine Ex.aload_n (pc := 46) dX4_takeNumber_46 rfl rfl ?_
      refine Ex.getI (pc := 47) dX4_takeNumber_47 fX4_27 (s2_81 _ _) ?_
      rw [g8]
      refine Ex.imul (pc := 50) dX4_takeNumber_50 ?_
      refine Ex.aload_n (pc := 51) dX4_takeNumber_51 rfl rfl ?_
      refine Ex.getR (pc := 52) dX4_takeNumber_52 fX4_36 (s2_81 _ _) r2_81_0 ?_
      refine Ex.aload_n (pc := 55) dX4_takeNumber_55 rfl rfl ?_
      refine Ex.getI (pc := 56) dX4_takeNumber_56 fX4_18 (s2_81 _ _) ?_
      refine Ex.bald (pc := 59) (j := a + k) dX4_takeNumber_59 (s2_1 _ _) (by rw [g5]; exact vp_in_nI (by omega) (by decide)) (by rw [g5]; exact nI_clamp (by omega)) ?_
      rw [e1]
      refine Ex.iadd (pc := 60) dX4_takeNumber_60 ?_
      refine Ex.bipush (pc := 61) (v := 48) dX4_takeNumber_61 rfl ?_
      refine Ex.isub (pc := 63) dX4_takeNumber_63 ?_
      rw [sx_lo _ (by omega), show (10 : Int32) * nI (dg 10 (l.take k)) = nI (10 * dg 10 (l.take k)) from pk_mul 10 _, nI_add, show nI (10 * dg 10 (l.take k) + tb (a + k)) - 48 = nI (dg 10 (l.take (k + 1))) from by rw [show (48 : Int32) = nI 48 from rfl, pk_sub (by omega), hdt]; congr 1; omega]
      refine Ex.putI (pc := 64) dX4_takeNumber_64 fX4_27 (s2_81 _ _) (Or.inl rfl) ⟨rfl, rfl⟩ ?_
      refine Ex.aload_n (pc := 67) dX4_takeNumber_67 rfl rfl ?_
      refine Ex.dup (pc := 68) dX4_takeNumber_68 rfl ?_
      refine Ex.getI (pc := 69) dX4_takeNumber_69 fX4_18 (s2_81 _ _) ?_
      refine Ex.iconst (pc := 72) (v := 1) dX4_takeNumber_72 rfl ?_
      refine Ex.iadd (pc := 73) dX4_takeNumber_73 ?_
      refine Ex.putI (pc := 74) dX4_takeNumber_74 fX4_18 (s2_81 _ _) (Or.inl rfl) ⟨rfl, rfl⟩ ?_
      refine Ex.iinc (pc := 77) (ls' := [some (.ref 81), some (.int _)]) dX4_takeNumber_77 rfl rfl (by decide) rfl rfl ?_
      refine Ex.goto (pc := 80) (tgt := 12) dX4_takeNumber_80 (by decide) ?_
      rw [show nI k + Int32.ofInt 1 = nI (k + 1) from nI_1 k]
      refine Ex.mm (S' := St2 N M (pf (pf (pf I 7 3) 8 (nI (dg 10 (l.take (k + 1))))) 5 (nI (a + (k + 1)))) L) ?_ (ih () trivial)
      refine congrArg (fun z => St2 N M z L) ?_
      show pf (pf I3 8 (nI (dg 10 (l.take (k + 1))))) 5 (pf I3 8 (nI (dg 10 (l.take (k + 1)))) 81 5 + 1) = _
      rw [pf_n (by decide), g5, show nI (a + k) + 1 = nI (a + (k + 1)) from nI_1 _, hI3]
      exact pf_3 _ _ _ _ _ _
  refine Ex.aload_n (pc := 0) dX4_takeNumber_0 rfl rfl ?_
  refine Ex.iconst (pc := 1) (v := 3) dX4_takeNumber_1 rfl ?_
  refine Ex.putI (pc := 2) dX4_takeNumber_2 fX4_24 (s2_81 _ _) (Or.inl rfl) ⟨rfl, rfl⟩ ?_
  refine Ex.aload_n (pc := 5) dX4_takeNumber_5 rfl rfl ?_
  refine Ex.iconst (pc := 6) (v := 0) dX4_takeNumber_6 rfl ?_
  refine Ex.putI (pc := 7) dX4_takeNumber_7 fX4_27 (s2_81 _ _) (Or.inl rfl) ⟨rfl, rfl⟩ ?_
  refine Ex.iconst (pc := 10) (v := 0) dX4_takeNumber_10 rfl ?_
  refine Ex.istore_n (pc := 11) (ls' := [some (.ref 81), some (.int 0)]) dX4_takeNumber_11 rfl (by decide) rfl rfl ?_
  refine Ex.mm (S' := St2 N M (pf (pf (pf I 7 3) 8 (nI (dg 10 (l.take 0)))) 5 (nI (a + 0))) L) ?_ kl
  refine congrArg (fun z => St2 N M z L) ?_
  show pf (pf I 7 3) 8 0 = _
  rw [show nI (dg 10 (l.take 0)) = 0 from by rw [List.take_zero]; rfl]
  exact (pf_id (by rw [pf_n (by decide), pf_n (by decide), h5]; rfl)).symm
