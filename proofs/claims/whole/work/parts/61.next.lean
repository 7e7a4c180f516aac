def RowR (I : aI) (r : List Nat) : Prop := r.length ≤ 6 ∧ (∀ c ∈ r, c ≤ 6) ∧ ∀ k c, r[k]? = some c → I 73 k = nI c
theorem RowR.set {I : aI} {r : List Nat} {a v : Nat} (h : RowR I r) (hv : v ≤ 6) (ha : a < r.length) : RowR (va_up I 73 (upd (I 73) a (nI v))) (r.set a v) := by
  obtain ⟨h1, h2, h3⟩ := h
  refine ⟨by rw [List.length_set]; exact h1, fun c hc => ?_, fun k c hk => ?_⟩
  · rcases List.mem_or_eq_of_mem_set hc with q | q
    · exact h2 c q
    · rw [q]; exact hv
  · rw [va_up_s]
    rw [List.getElem?_set] at hk
    by_cases e : a = k
    · rw [if_pos e, if_pos ha] at hk
      cases hk
      rw [← e, upd_s]
    · rw [if_neg e] at hk
      rw [upd_n (Ne.symm e)]
      exact h3 k c hk
theorem RowR.sm {I I2 : aI} {r : List Nat} {l : List Nat} (h : RowR I r) (hS : Sm l I I2) (h73 : 73 ∉ l) : RowR I2 r := ⟨h.1, h.2.1, fun k c hk => by rw [hS 73 h73]; exact h.2.2 k c hk⟩
theorem RowR.get {I : aI} {r : List Nat} (h : RowR I r) {a : Nat} (ha : a < r.length) : I 73 a = nI (r.getD a 0) ∧ r.getD a 0 ≤ 6 ∧ r[a]? = some (r.getD a 0) := by
  have e : r[a]? = some (r.getD a 0) := by rw [List.getD_eq_getElem?_getD, List.getElem?_eq_getElem ha]; rfl
  exact ⟨h.2.2 a _ e, h.2.1 _ (List.mem_of_getElem? e), e⟩
theorem any_take {r : List Nat} {k c : Nat} {f : Nat → Bool} (h : r[k]? = some c) : (r.take (k + 1)).any f = ((r.take k).any f || f c) := by
  rw [List.take_succ, h]
  simp
theorem isInB_t {r : List Nat} {a k c : Nat} (h : r[k]? = some c) (hk : k < a) (e : c = r.getD a 0) : isInB r a = true := by
  unfold isInB
  refine List.any_eq_true.mpr ⟨c, ?_, ?_⟩
  · exact List.mem_of_getElem? (i := k) (by rw [List.getElem?_take_of_lt hk]; exact h)
  · rw [e]; exact Nat.beq_refl _
theorem bump_len (o a : Nat) : ∀ f r, (bumpF o a f r).length = r.length
  | 0, _ => rfl
  | f + 1, r => by
    simp only [bumpF]
    split
    · rw [bump_len o a f, List.length_set]
    · rfl
theorem getD_set_ne {r : List Nat} {a k v : Nat} (h : k ≠ a) : (r.set a v).getD k 0 = r.getD k 0 := by
  rw [List.getD_eq_getElem?_getD, List.getD_eq_getElem?_getD, List.getElem?_set, if_neg (Ne.symm h)]
theorem getD_set_eq {r : List Nat} {a v : Nat} (h : a < r.length) : (r.set a v).getD a 0 = v := by
  rw [List.getD_eq_getElem?_getD, List.getElem?_set, if_pos rfl, if_pos h]; rfl
theorem bump_ne (o a k : Nat) (hk : k ≠ a) : ∀ f r, (bumpF o a f r).getD k 0 = r.getD k 0
  | 0, _ => rfl
  | f + 1, r => by
    simp only [bumpF]
    split
    · rw [bump_ne o a k hk f, getD_set_ne hk]
    · rfl
theorem blt_iff {a b : Nat} : Nat.blt a b = true ↔ a < b := by
  unfold Nat.blt
  rw [Nat.ble_eq]
  exact Iff.rfl
set_option maxRecDepth 20000 in
theorem tm_isIn {N : Nat} {I : aI} {L : aL} {r : List Nat} {a : Nat} (hr : RowR I r) (ha : a < r.length) : Run 0 0 0 mX10_isIn [.ref 36, .int (nI a)] (St N I L) (RI (bI (isInB r a)) (St N I L)) := by
  refine Run.of (ls := [some (.ref 36), some (.int _), none]) (by decide) (Nat.le_of_ble_eq_true rfl) rfl ?_
  have h6 := hr.1
  obtain ⟨ea, va, ga⟩ := hr.get ha
  refine Ex.iconst (pc := 0) (v := 0) dX10_isIn_0 rfl ?_
  refine Ex.istore_n (pc := 1) (ls' := [some (.ref 36), some (.int _), some (.int 0)]) dX10_isIn_1 rfl (by decide) rfl rfl ?_
  refine forUp (σ := Unit) (P := fun k _ => Ex 0 0 0 mX10_isIn 0 0 2 [some (.ref 36), some (.int (nI a)), some (.int (nI k))] [] (St N I L) _) (Inv := fun k _ => (r.take k).any (fun c => Nat.beq c (r.getD a 0)) = false) a ?_ ?_ 0 () (Nat.zero_le _) (by simp)
  · rintro - hn
    refine Ex.iload_n (pc := 2) dX10_isIn_2 rfl rfl ?_
    refine Ex.iload_n (pc := 3) dX10_isIn_3 rfl rfl ?_
    refine Ex.icmp_ge (pc := 4) (tgt := 30) dX10_isIn_4 (by decide) (fun _ => ?_) (fun c4 => absurd (nI_le (Nat.le_refl _) (by omega)) c4)
    refine Ex.iconst (pc := 30) (v := 0) dX10_isIn_30 rfl ?_
    refine Ex.iret (pc := 31) rfl rfl rfl dX10_isIn_31 (Nat.le_refl _) (Nat.le_refl _) ?_
    exact ⟨by unfold isInB; rw [hn]; rfl, rfl⟩
  · rintro k - hk hn ih
    obtain ⟨ek, vk, gk⟩ := hr.get (show k < r.length by omega)
    refine Ex.iload_n (pc := 2) dX10_isIn_2 rfl rfl ?_
    refine Ex.iload_n (pc := 3) dX10_isIn_3 rfl rfl ?_
    refine Ex.icmp_ge (pc := 4) (tgt := 30) dX10_isIn_4 (by decide) (fun c4 => absurd c4 (nI_ge hk (by omega))) (fun _ => ?_)
    refine Ex.aload_n (pc := 7) dX10_isIn_7 rfl rfl ?_
    refine Ex.getR (pc := 8) dX10_isIn_8 fX10_192 (sh36 _) r36_59 ?_
    refine Ex.iload_n (pc := 11) dX10_isIn_11 rfl rfl ?_
    refine Ex.iald (pc := 12) (j := k) dX10_isIn_12 (sh73 _) (vp_in_nI (by omega) (by decide)) (ixN2 (by omega)) ?_
    rw [ek]
    refine Ex.aload_n (pc := 13) dX10_isIn_13 rfl rfl ?_
    refine Ex.getR (pc := 14) dX10_isIn_14 fX10_192 (sh36 _) r36_59 ?_
    refine Ex.iload_n (pc := 17) dX10_isIn_17 rfl rfl ?_
    refine Ex.iald (pc := 18) (j := a) dX10_isIn_18 (sh73 _) (vp_in_nI (by omega) (by decide)) (ixN2 (by omega)) ?_
    rw [ea]
    refine Ex.icmp_ne (pc := 19) (tgt := 24) dX10_isIn_19 (by decide) (fun c19 => ?_) (fun c19 => ?_)
    · skip
      refine Ex.iinc (pc := 24) (ls' := [some (.ref 36), some (.int _), some (.int _)]) dX10_isIn_24 rfl rfl (by decide) rfl rfl ?_
      refine Ex.goto (pc := 27) (tgt := 2) dX10_isIn_27 (by decide) ?_
      rw [show nI k + Int32.ofInt 1 = nI (k + 1) from nI_1 k]
      refine ih () ?_
      rw [nI_eq (by omega) (by omega)] at c19
      rw [any_take gk, hn, Bool.false_or]
      exact Bool.eq_false_iff.mpr (fun q => c19 (Nat.eq_of_beq_eq_true q))
    · skip
      refine Ex.iconst (pc := 22) (v := 1) dX10_isIn_22 rfl ?_
      refine Ex.iret (pc := 23) rfl rfl rfl dX10_isIn_23 (Nat.le_refl _) (Nat.le_refl _) ?_
      rw [nI_eq (by omega) (by omega)] at c19
      exact ⟨by rw [isInB_t gk hk c19]; rfl, rfl⟩
set_option maxRecDepth 20000 in
theorem tm_isFirstRow {N : Nat} {I : aI} {L : aL} {many o : Nat} (h6 : many ≤ 6) (ho : o ≤ 6) : Run 0 0 0 mX10_isFirstRow [.ref 36, .int (nI many), .int (nI o)] (St N I L) (RP (some (.int (bI (decide (many ≤ o))))) N L (fun I2 => Sm [73] I I2 ∧ RowR I2 (List.range many))) := by
  refine Run.of (ls := [some (.ref 36), some (.int _), some (.int _), none]) (by decide) (Nat.le_of_ble_eq_true rfl) rfl ?_
  refine Ex.iconst (pc := 0) (v := 0) dX10_isFirstRow_0 rfl ?_
  refine Ex.istore_n (pc := 1) (ls' := [some (.ref 36), some (.int _), some (.int _), some (.int 0)]) dX10_isFirstRow_1 rfl (by decide) rfl rfl ?_
  refine forUp (σ := aI) (P := fun k I2 => Ex 0 0 0 mX10_isFirstRow 0 0 2 [some (.ref 36), some (.int (nI many)), some (.int (nI o)), some (.int (nI k))] [] (St N I2 L) _) (Inv := fun k I2 => Sm [73] I I2 ∧ ∀ i, i < k → I2 73 i = nI i) many ?_ ?_ 0 _ (Nat.zero_le _) ⟨Sm.rf, fun i hi => absurd hi (Nat.not_lt_zero _)⟩
  · rintro I2 ⟨hS, hi⟩
    have hrow : RowR I2 (List.range many) := by
      refine ⟨by rw [List.length_range]; exact h6, fun c hc => by have := List.mem_range.mp hc; omega, fun k c hk => ?_⟩
      have hkm : k < many := by have := (List.getElem?_eq_some_iff.mp hk).1; rw [List.length_range] at this; exact this
      rw [List.getElem?_range hkm] at hk
      cases hk
      exact hi k hkm
    refine Ex.iload_n (pc := 2) dX10_isFirstRow_2 rfl rfl ?_
    refine Ex.iload_n (pc := 3) dX10_isFirstRow_3 rfl rfl ?_
    refine Ex.icmp_ge (pc := 4) (tgt := 20) dX10_isFirstRow_4 (by decide) (fun _ => ?_) (fun c4 => absurd (nI_le (Nat.le_refl _) (by omega)) c4)
    refine Ex.iload_n (pc := 20) dX10_isFirstRow_20 rfl rfl ?_
    refine Ex.iload_n (pc := 21) dX10_isFirstRow_21 rfl rfl ?_
    refine Ex.icmp_gt (pc := 22) (tgt := 29) dX10_isFirstRow_22 (by decide) (fun c22 => ?_) (fun c22 => ?_)
    · skip
      refine Ex.iconst (pc := 29) (v := 0) dX10_isFirstRow_29 rfl ?_
      refine Ex.iret (pc := 30) rfl rfl rfl dX10_isFirstRow_30 (Nat.le_refl _) (Nat.le_refl _) ?_
      rw [nI_ltI (by omega) (by omega)] at c22
      refine ⟨_, ?_, rfl, hS, hrow⟩
      rw [decide_eq_false (by omega)]; rfl
    · skip
      refine Ex.iconst (pc := 25) (v := 1) dX10_isFirstRow_25 rfl ?_
      refine Ex.goto (pc := 26) (tgt := 30) dX10_isFirstRow_26 (by decide) ?_
      refine Ex.iret (pc := 30) rfl rfl rfl dX10_isFirstRow_30 (Nat.le_refl _) (Nat.le_refl _) ?_
      rw [nI_ltI (by omega) (by omega)] at c22
      refine ⟨_, ?_, rfl, hS, hrow⟩
      rw [decide_eq_true (by omega)]; rfl
  · rintro k I2 hk ⟨hS, hi⟩ ih
    refine Ex.iload_n (pc := 2) dX10_isFirstRow_2 rfl rfl ?_
    refine Ex.iload_n (pc := 3) dX10_isFirstRow_3 rfl rfl ?_
    refine Ex.icmp_ge (pc := 4) (tgt := 20) dX10_isFirstRow_4 (by decide) (fun c4 => absurd c4 (nI_ge hk (by omega))) (fun _ => ?_)
    refine Ex.aload_n (pc := 7) dX10_isFirstRow_7 rfl rfl ?_
    refine Ex.getR (pc := 8) dX10_isFirstRow_8 fX10_192 (sh36 _) r36_59 ?_
    refine Ex.iload_n (pc := 11) dX10_isFirstRow_11 rfl rfl ?_
    refine Ex.iload_n (pc := 12) dX10_isFirstRow_12 rfl rfl ?_
    refine Ex.iast (pc := 13) (j := k) dX10_isFirstRow_13 (sh73 _) (vp_in_nI (by omega) (by decide)) (ixN2 (by omega)) ?_
    refine Ex.iinc (pc := 14) (ls' := [some (.ref 36), some (.int _), some (.int _), some (.int _)]) dX10_isFirstRow_14 rfl rfl (by decide) rfl rfl ?_
    refine Ex.goto (pc := 17) (tgt := 2) dX10_isFirstRow_17 (by decide) ?_
    rw [show nI k + Int32.ofInt 1 = nI (k + 1) from nI_1 k]
    refine ih _ ⟨hS.up (by decide), ?_⟩
    intro i hi2
    rw [va_up_s]
    by_cases e : i = k
    · rw [e, upd_s]
    · rw [upd_n e]; exact hi i (by omega)
set_option maxRecDepth 20000 in
theorem tm_isNextRow {N : Nat} {I : aI} {L : aL} {many o : Nat} {r : List Nat} (h6 : many ≤ 6) (ho : o ≤ 6) (hr : RowR I r) (hl : r.length = many) (hv : ∀ k, k < many → r.getD k 0 < o) : Run 1 0 0 mX10_isNextRow [.ref 36, .int (nI many), .int (nI o)] (St N I L) (RP (some (.int (bI (nextF o many many r).2))) N L (fun I2 => Sm [73] I I2 ∧ RowR I2 (nextF o many many r).1)) := by
  refine Run.of (ls := [some (.ref 36), some (.int _), some (.int _), none, none, none]) (by decide) (Nat.le_of_ble_eq_true rfl) rfl ?_
  have k18 : ∀ (Q : aQ) (a f : Nat) (r : List Nat) (I2 : aI), a < many → r.length = many → RowR I2 r → o < r.getD a 0 + f → Sm [73] I I2 → (∀ I3, Sm [73] I I3 → RowR I3 (bumpF o a f r) → Ex 1 0 0 mX10_isNextRow 0 0 49 [some (.ref 36), some (.int (nI many)), some (.int (nI o)), some (.int (nI a)), none, none] [] (St N I3 L) Q) → Ex 1 0 0 mX10_isNextRow 0 0 18 [some (.ref 36), some (.int (nI many)), some (.int (nI o)), some (.int (nI a)), none, none] [] (St N I2 L) Q := by
    intro Q a f
    induction f with
    | zero =>
      intro r I2 ham hrl hR hf hS kk
      obtain ⟨ea, va, ga⟩ := hR.get (show a < r.length by omega)
      refine Ex.aload_n (pc := 18) dX10_isNextRow_18 rfl rfl ?_
      refine Ex.getR (pc := 19) dX10_isNextRow_19 fX10_192 (sh36 _) r36_59 ?_
      refine Ex.iload_n (pc := 22) dX10_isNextRow_22 rfl rfl ?_
      refine Ex.iald (pc := 23) (j := a) dX10_isNextRow_23 (sh73 _) (vp_in_nI (by omega) (by decide)) (ixN2 (by omega)) ?_
      rw [ea]
      refine Ex.iload_n (pc := 24) dX10_isNextRow_24 rfl rfl ?_
      refine Ex.icmp_ge (pc := 25) (tgt := 49) dX10_isNextRow_25 (by decide) (fun _ => ?_) (fun c25 => absurd (nI_le (by omega) (by omega)) c25)
      exact kk I2 hS hR
    | succ f ih =>
      intro r I2 ham hrl hR hf hS kk
      obtain ⟨ea, va, ga⟩ := hR.get (show a < r.length by omega)
      refine Ex.aload_n (pc := 18) dX10_isNextRow_18 rfl rfl ?_
      refine Ex.getR (pc := 19) dX10_isNextRow_19 fX10_192 (sh36 _) r36_59 ?_
      refine Ex.iload_n (pc := 22) dX10_isNextRow_22 rfl rfl ?_
      refine Ex.iald (pc := 23) (j := a) dX10_isNextRow_23 (sh73 _) (vp_in_nI (by omega) (by decide)) (ixN2 (by omega)) ?_
      rw [ea]
      refine Ex.iload_n (pc := 24) dX10_isNextRow_24 rfl rfl ?_
      refine Ex.icmp_ge (pc := 25) (tgt := 49) dX10_isNextRow_25 (by decide) (fun c25 => ?_) (fun c25 => ?_)
      · skip
        rw [nI_leI (by omega) (by omega)] at c25
        refine kk I2 hS ?_
        simp only [bumpF]
        rw [if_neg (fun q => absurd (blt_iff.mp ((Bool.and_eq_true _ _).mp q).1) (by omega))]
        exact hR
      · skip
        rw [nI_leI (by omega) (by omega)] at c25
        refine Ex.aload_n (pc := 28) dX10_isNextRow_28 rfl rfl ?_
        refine Ex.iload_n (pc := 29) dX10_isNextRow_29 rfl rfl ?_
        refine Ex.callV (pc := 30) (As := [.int _]) (rest := []) dX10_isNextRow_30 cX10_483 (tm_isIn hR (by omega)) (sh36 _) rfl rfl (by decide) (Nat.le_refl _) (Nat.le_refl _) (Nat.le_of_ble_eq_true rfl) (Or.inl (fun r S' h => by obtain ⟨_, h⟩ := h; subst h; rfl)) (fun r S' hq _ _ => ?_)
        obtain ⟨rfl, rfl⟩ := hq
        refine Ex.if_eq (pc := 33) (tgt := 49) dX10_isNextRow_33 (by decide) (fun c33 => ?_) (fun c33 => ?_)
        · skip
          refine kk I2 hS ?_
          simp only [bumpF]
          rw [if_neg (fun q => by rw [((Bool.and_eq_true _ _).mp q).2] at c33; exact absurd c33 (by decide))]
          exact hR
        · skip
          refine Ex.aload_n (pc := 36) dX10_isNextRow_36 rfl rfl ?_
          refine Ex.getR (pc := 37) dX10_isNextRow_37 fX10_192 (sh36 _) r36_59 ?_
          refine Ex.iload_n (pc := 40) dX10_isNextRow_40 rfl rfl ?_
          refine Ex.dup2 (pc := 41) dX10_isNextRow_41 rfl rfl ?_
          refine Ex.iald (pc := 42) (j := a) dX10_isNextRow_42 (sh73 _) (vp_in_nI (by omega) (by decide)) (ixN2 (by omega)) ?_
          rw [ea]
          refine Ex.iconst (pc := 43) (v := 1) dX10_isNextRow_43 rfl ?_
          refine Ex.iadd (pc := 44) dX10_isNextRow_44 ?_
          refine Ex.iast (pc := 45) (j := a) dX10_isNextRow_45 (sh73 _) (vp_in_nI (by omega) (by decide)) (ixN2 (by omega)) ?_
          refine Ex.goto (pc := 46) (tgt := 18) dX10_isNextRow_46 (by decide) ?_
          rw [show nI (r.getD a 0) + 1 = nI (r.getD a 0 + 1) from nI_1 _]
          refine ih _ _ ham (by rw [List.length_set]; exact hrl) (hR.set (v := r.getD a 0 + 1) (by omega) (by omega)) ?_ (hS.up (by decide)) ?_
          · rw [getD_set_eq (by omega)]; omega
          · intro I3 hS3 hR3
            refine kk I3 hS3 ?_
            simp only [bumpF]
            rw [if_pos (show (Nat.blt (r.getD a 0) o && isInB r a) = true from by rw [blt_iff.mpr (by omega), bI_1 c33]; rfl)]
            exact hR3
  have k86 : ∀ (Q : aQ) (b : Option Value) (a f : Nat) (r : List Nat) (I2 : aI), a < many → r.length = many → RowR I2 r → o < r.getD a 0 + f → Sm [73] I I2 → (∀ I3, Sm [73] I I3 → RowR I3 (bumpF o a f r) → Ex 1 0 0 mX10_isNextRow 0 0 120 [some (.ref 36), some (.int (nI many)), some (.int (nI o)), none, none, some (.int (nI a))] [] (St N I3 L) Q) → Ex 1 0 0 mX10_isNextRow 0 0 86 [some (.ref 36), some (.int (nI many)), some (.int (nI o)), none, none, some (.int (nI a))] [] (St N I2 L) Q := by
    intro Q b a f
    induction f with
    | zero =>
      intro r I2 ham hrl hR hf hS kk
      obtain ⟨ea, va, ga⟩ := hR.get (show a < r.length by omega)
      refine Ex.aload_n (pc := 86) dX10_isNextRow_86 rfl rfl ?_
      refine Ex.getR (pc := 87) dX10_isNextRow_87 fX10_192 (sh36 _) r36_59 ?_
      refine Ex.iload (pc := 90) dX10_isNextRow_90 rfl ?_
      refine Ex.iald (pc := 92) (j := a) dX10_isNextRow_92 (sh73 _) (vp_in_nI (by omega) (by decide)) (ixN2 (by omega)) ?_
      rw [ea]
      refine Ex.iload_n (pc := 93) dX10_isNextRow_93 rfl rfl ?_
      refine Ex.icmp_ge (pc := 94) (tgt := 120) dX10_isNextRow_94 (by decide) (fun _ => ?_) (fun c94 => absurd (nI_le (by omega) (by omega)) c94)
      exact kk I2 hS hR
    | succ f ih =>
      intro r I2 ham hrl hR hf hS kk
      obtain ⟨ea, va, ga⟩ := hR.get (show a < r.length by omega)
      refine Ex.aload_n (pc := 86) dX10_isNextRow_86 rfl rfl ?_
      refine Ex.getR (pc := 87) dX10_isNextRow_87 fX10_192 (sh36 _) r36_59 ?_
      refine Ex.iload (pc := 90) dX10_isNextRow_90 rfl ?_
      refine Ex.iald (pc := 92) (j := a) dX10_isNextRow_92 (sh73 _) (vp_in_nI (by omega) (by decide)) (ixN2 (by omega)) ?_
      rw [ea]
      refine Ex.iload_n (pc := 93) dX10_isNextRow_93 rfl rfl ?_
      refine Ex.icmp_ge (pc := 94) (tgt := 120) dX10_isNextRow_94 (by decide) (fun c94 => ?_) (fun c94 => ?_)
      · skip
        rw [nI_leI (by omega) (by omega)] at c94
        refine kk I2 hS ?_
        simp only [bumpF]
        rw [if_neg (fun q => absurd (blt_iff.mp ((Bool.and_eq_true _ _).mp q).1) (by omega))]
        exact hR
      · skip
        rw [nI_leI (by omega) (by omega)] at c94
        refine Ex.aload_n (pc := 97) dX10_isNextRow_97 rfl rfl ?_
        refine Ex.iload (pc := 98) dX10_isNextRow_98 rfl ?_
        refine Ex.callV (pc := 100) (As := [.int _]) (rest := []) dX10_isNextRow_100 cX10_483 (tm_isIn hR (by omega)) (sh36 _) rfl rfl (by decide) (Nat.le_refl _) (Nat.le_refl _) (Nat.le_of_ble_eq_true rfl) (Or.inl (fun r S' h => by obtain ⟨_, h⟩ := h; subst h; rfl)) (fun r S' hq _ _ => ?_)
        obtain ⟨rfl, rfl⟩ := hq
        refine Ex.if_eq (pc := 103) (tgt := 120) dX10_isNextRow_103 (by decide) (fun c103 => ?_) (fun c103 => ?_)
        · skip
          refine kk I2 hS ?_
          simp only [bumpF]
          rw [if_neg (fun q => by rw [((Bool.and_eq_true _ _).mp q).2] at c103; exact absurd c103 (by decide))]
          exact hR
        · skip
          refine Ex.aload_n (pc := 106) dX10_isNextRow_106 rfl rfl ?_
          refine Ex.getR (pc := 107) dX10_isNextRow_107 fX10_192 (sh36 _) r36_59 ?_
          refine Ex.iload (pc := 110) dX10_isNextRow_110 rfl ?_
          refine Ex.dup2 (pc := 112) dX10_isNextRow_112 rfl rfl ?_
          refine Ex.iald (pc := 113) (j := a) dX10_isNextRow_113 (sh73 _) (vp_in_nI (by omega) (by decide)) (ixN2 (by omega)) ?_
          rw [ea]
          refine Ex.iconst (pc := 114) (v := 1) dX10_isNextRow_114 rfl ?_
          refine Ex.iadd (pc := 115) dX10_isNextRow_115 ?_
          refine Ex.iast (pc := 116) (j := a) dX10_isNextRow_116 (sh73 _) (vp_in_nI (by omega) (by decide)) (ixN2 (by omega)) ?_
          refine Ex.goto (pc := 117) (tgt := 86) dX10_isNextRow_117 (by decide) ?_
          rw [show nI (r.getD a 0) + 1 = nI (r.getD a 0 + 1) from nI_1 _]
          refine ih _ _ ham (by rw [List.length_set]; exact hrl) (hR.set (v := r.getD a 0 + 1) (by omega) (by omega)) ?_ (hS.up (by decide)) ?_
          · rw [getD_set_eq (by omega)]; omega
          · intro I3 hS3 hR3
            refine kk I3 hS3 ?_
            simp only [bumpF]
            rw [if_pos (show (Nat.blt (r.getD a 0) o && isInB r a) = true from by rw [blt_iff.mpr (by omega), bI_1 c103]; rfl)]
            exact hR3
  have k67 : ∀ (f k : Nat) (r : List Nat) (I2 : aI), k + f = many → r.length = many → RowR I2 r → Sm [73] I I2 → Ex 1 0 0 mX10_isNextRow 0 0 67 [some (.ref 36), some (.int (nI many)), some (.int (nI o)), none, some (.int 1), some (.int (nI k))] [] (St N I2 L) (RP (some (.int (bI (fillF o many f k r).2))) N L (fun I2 => Sm [73] I I2 ∧ RowR I2 (fillF o many f k r).1)) := by
    intro f
    induction f with
    | zero =>
      intro k r I2 hk hrl hR hS
      refine Ex.iload (pc := 67) dX10_isNextRow_67 rfl ?_
      refine Ex.iload_n (pc := 69) dX10_isNextRow_69 rfl rfl ?_
      refine Ex.icmp_ge (pc := 70) (tgt := 144) dX10_isNextRow_70 (by decide) (fun _ => ?_) (fun c70 => absurd (nI_le (by omega) (by omega)) c70)
      refine Ex.iload (pc := 144) dX10_isNextRow_144 rfl ?_
      refine Ex.iret (pc := 146) rfl rfl rfl dX10_isNextRow_146 (Nat.le_refl _) (Nat.le_refl _) ?_
      exact ⟨_, rfl, rfl, hS, hR⟩
    | succ f ih =>
      intro k r I2 hk hrl hR hS
      have hlen : (bumpF o k 7 (r.set k 0)).length = many := by rw [bump_len, List.length_set]; exact hrl
      refine Ex.iload (pc := 67) dX10_isNextRow_67 rfl ?_
      refine Ex.iload_n (pc := 69) dX10_isNextRow_69 rfl rfl ?_
      refine Ex.icmp_ge (pc := 70) (tgt := 144) dX10_isNextRow_70 (by decide) (fun c70 => absurd c70 (nI_ge (by omega) (by omega))) (fun _ => ?_)
      refine Ex.iload (pc := 73) dX10_isNextRow_73 rfl ?_
      refine Ex.if_eq (pc := 75) (tgt := 144) dX10_isNextRow_75 (by decide) (fun c75 => absurd c75 (by decide)) (fun _ => ?_)
      refine Ex.aload_n (pc := 78) dX10_isNextRow_78 rfl rfl ?_
      refine Ex.getR (pc := 79) dX10_isNextRow_79 fX10_192 (sh36 _) r36_59 ?_
      refine Ex.iload (pc := 82) dX10_isNextRow_82 rfl ?_
      refine Ex.iconst (pc := 84) (v := 0) dX10_isNextRow_84 rfl ?_
      refine Ex.iast (pc := 85) (j := k) dX10_isNextRow_85 (sh73 _) (vp_in_nI (by omega) (by decide)) (ixN2 (by omega)) ?_
      refine Ex.le (ls' := [some (.ref 36), some (.int (nI many)), some (.int (nI o)), none, none, some (.int (nI k))]) ⟨rfl, rfl, rfl, rfl, trivial⟩ ?_
      refine k86 _ none k 7 (r.set k 0) _ (by omega) (by rw [List.length_set]; exact hrl) (hR.set (v := 0) (by omega) (by omega)) (by omega) (hS.up (by decide)) ?_
      intro I3 hS3 hR3
      obtain ⟨ea, va, ga⟩ := hR3.get (show k < (bumpF o k 7 (r.set k 0)).length by omega)
      simp only [fillF]
      refine Ex.aload_n (pc := 120) dX10_isNextRow_120 rfl rfl ?_
      refine Ex.getR (pc := 121) dX10_isNextRow_121 fX10_192 (sh36 _) r36_59 ?_
      refine Ex.iload (pc := 124) dX10_isNextRow_124 rfl ?_
      refine Ex.iald (pc := 126) (j := k) dX10_isNextRow_126 (sh73 _) (vp_in_nI (by omega) (by decide)) (ixN2 (by omega)) ?_
      rw [ea]
      refine Ex.iload_n (pc := 127) dX10_isNextRow_127 rfl rfl ?_
      refine Ex.icmp_ge (pc := 128) (tgt := 135) dX10_isNextRow_128 (by decide) (fun c128 => ?_) (fun c128 => ?_)
      · skip
        refine Ex.iconst (pc := 135) (v := 0) dX10_isNextRow_135 rfl ?_
        refine Ex.istore (pc := 136) (ls' := [some (.ref 36), some (.int _), some (.int _), none, some (.int 0), some (.int _)]) dX10_isNextRow_136 (by decide) rfl rfl ?_
        refine Ex.iinc (pc := 138) (ls' := [some (.ref 36), some (.int _), some (.int _), none, some (.int 0), some (.int _)]) dX10_isNextRow_138 rfl rfl (by decide) rfl rfl ?_
        refine Ex.goto (pc := 141) (tgt := 67) dX10_isNextRow_141 (by decide) ?_
        refine Ex.iload (pc := 67) dX10_isNextRow_67 rfl ?_
        refine Ex.iload_n (pc := 69) dX10_isNextRow_69 rfl rfl ?_
        refine Ex.icmp_ge (pc := 70) (tgt := 144) dX10_isNextRow_70 (by decide) (fun c70 => ?_) (fun c70 => ?_)
        · skip
          refine Ex.iload (pc := 144) dX10_isNextRow_144 rfl ?_
          refine Ex.iret (pc := 146) rfl rfl rfl dX10_isNextRow_146 (Nat.le_refl _) (Nat.le_refl _) ?_
          rw [nI_leI (by omega) (by omega)] at c128
          rw [if_neg (fun q => absurd (blt_iff.mp q) (by omega))]
          exact ⟨_, rfl, rfl, hS3, hR3⟩
        · skip
          refine Ex.iload (pc := 73) dX10_isNextRow_73 rfl ?_
          refine Ex.if_eq (pc := 75) (tgt := 144) dX10_isNextRow_75 (by decide) (fun _ => ?_) (fun c75 => absurd rfl c75)
          refine Ex.iload (pc := 144) dX10_isNextRow_144 rfl ?_
          refine Ex.iret (pc := 146) rfl rfl rfl dX10_isNextRow_146 (Nat.le_refl _) (Nat.le_refl _) ?_
          rw [nI_leI (by omega) (by omega)] at c128
          rw [if_neg (fun q => absurd (blt_iff.mp q) (by omega))]
          exact ⟨_, rfl, rfl, hS3, hR3⟩
      · skip
        refine Ex.iconst (pc := 131) (v := 1) dX10_isNextRow_131 rfl ?_
        refine Ex.goto (pc := 132) (tgt := 136) dX10_isNextRow_132 (by decide) ?_
        refine Ex.istore (pc := 136) (ls' := [some (.ref 36), some (.int _), some (.int _), none, some (.int 1), some (.int _)]) dX10_isNextRow_136 (by decide) rfl rfl ?_
        refine Ex.iinc (pc := 138) (ls' := [some (.ref 36), some (.int _), some (.int _), none, some (.int 1), some (.int _)]) dX10_isNextRow_138 rfl rfl (by decide) rfl rfl ?_
        refine Ex.goto (pc := 141) (tgt := 67) dX10_isNextRow_141 (by decide) ?_
        rw [nI_leI (by omega) (by omega)] at c128
        rw [if_pos (blt_iff.mpr (by omega))]
        rw [show nI k + Int32.ofInt 1 = nI (k + 1) from nI_1 k]
        exact ih (k + 1) _ I3 (by omega) hlen hR3 hS3
  have k4 : ∀ (a : Nat) (r : List Nat) (I2 : aI), a ≤ many → r.length = many → RowR I2 r → Sm [73] I I2 → (∀ k, k < a → r.getD k 0 < o) → Ex 1 0 0 mX10_isNextRow 0 0 4 [some (.ref 36), some (.int (nI many)), some (.int (nI o)), some (.int (nI a - 1)), none, none] [] (St N I2 L) (RP (some (.int (bI (nextF o many a r).2))) N L (fun I2 => Sm [73] I I2 ∧ RowR I2 (nextF o many a r).1)) := by
    intro a
    induction a with
    | zero =>
      intro r I2 ha hrl hR hS hv
      refine Ex.iload_n (pc := 4) dX10_isNextRow_4 rfl rfl ?_
      refine Ex.if_lt (pc := 5) (tgt := 153) dX10_isNextRow_5 (by decide) (fun _ => ?_) (fun c5 => absurd (by decide) c5)
      refine Ex.iconst (pc := 153) (v := 0) dX10_isNextRow_153 rfl ?_
      refine Ex.iret (pc := 154) rfl rfl rfl dX10_isNextRow_154 (Nat.le_refl _) (Nat.le_refl _) ?_
      exact ⟨_, rfl, rfl, hS, hR⟩
    | succ a ih =>
      intro r I2 ha hrl hR hS hv
      have hva := hv a (by omega)
      rw [show nI (a + 1) - 1 = nI a from nI_pred a]
      obtain ⟨ea, va, ga⟩ := hR.get (show a < r.length by omega)
      have hlen : (bumpF o a 7 (r.set a (r.getD a 0 + 1))).length = many := by rw [bump_len, List.length_set]; exact hrl
      refine Ex.iload_n (pc := 4) dX10_isNextRow_4 rfl rfl ?_
      refine Ex.if_lt (pc := 5) (tgt := 153) dX10_isNextRow_5 (by decide) (fun c5 => absurd c5 (nI_pos (by omega))) (fun _ => ?_)
      refine Ex.aload_n (pc := 8) dX10_isNextRow_8 rfl rfl ?_
      refine Ex.getR (pc := 9) dX10_isNextRow_9 fX10_192 (sh36 _) r36_59 ?_
      refine Ex.iload_n (pc := 12) dX10_isNextRow_12 rfl rfl ?_
      refine Ex.dup2 (pc := 13) dX10_isNextRow_13 rfl rfl ?_
      refine Ex.iald (pc := 14) (j := a) dX10_isNextRow_14 (sh73 _) (vp_in_nI (by omega) (by decide)) (ixN2 (by omega)) ?_
      rw [ea]
      refine Ex.iconst (pc := 15) (v := 1) dX10_isNextRow_15 rfl ?_
      refine Ex.iadd (pc := 16) dX10_isNextRow_16 ?_
      refine Ex.iast (pc := 17) (j := a) dX10_isNextRow_17 (sh73 _) (vp_in_nI (by omega) (by decide)) (ixN2 (by omega)) ?_
      rw [show nI (r.getD a 0) + 1 = nI (r.getD a 0 + 1) from nI_1 _]
      refine k18 _ a 7 (r.set a (r.getD a 0 + 1)) _ (by omega) (by rw [List.length_set]; exact hrl) (hR.set (v := r.getD a 0 + 1) (by omega) (by omega)) (by rw [getD_set_eq (by omega)]; omega) (hS.up (by decide)) ?_
      intro I3 hS3 hR3
      obtain ⟨eb, vb, gb⟩ := hR3.get (show a < (bumpF o a 7 (r.set a (r.getD a 0 + 1))).length by omega)
      simp only [nextF]
      refine Ex.aload_n (pc := 49) dX10_isNextRow_49 rfl rfl ?_
      refine Ex.getR (pc := 50) dX10_isNextRow_50 fX10_192 (sh36 _) r36_59 ?_
      refine Ex.iload_n (pc := 53) dX10_isNextRow_53 rfl rfl ?_
      refine Ex.iald (pc := 54) (j := a) dX10_isNextRow_54 (sh73 _) (vp_in_nI (by omega) (by decide)) (ixN2 (by omega)) ?_
      rw [eb]
      refine Ex.iload_n (pc := 55) dX10_isNextRow_55 rfl rfl ?_
      refine Ex.icmp_ge (pc := 56) (tgt := 147) dX10_isNextRow_56 (by decide) (fun c56 => ?_) (fun c56 => ?_)
      · skip
        refine Ex.iinc (pc := 147) (ls' := [some (.ref 36), some (.int _), some (.int _), some (.int _), none, none]) dX10_isNextRow_147 rfl rfl (by decide) rfl rfl ?_
        refine Ex.goto (pc := 150) (tgt := 4) dX10_isNextRow_150 (by decide) ?_
        rw [nI_leI (by omega) (by omega)] at c56
        rw [if_neg (fun q => absurd (blt_iff.mp q) (by omega))]
        rw [show nI a + Int32.ofInt (-1) = nI a - 1 from by rw [Int32.sub_eq_add_neg]; rfl]
        refine ih _ I3 (by omega) hlen hR3 hS3 ?_
        intro k hk
        rw [bump_ne o a k (by omega), getD_set_ne (by omega)]
        exact hv k (by omega)
      · skip
        refine Ex.iconst (pc := 59) (v := 1) dX10_isNextRow_59 rfl ?_
        refine Ex.istore (pc := 60) (ls' := [some (.ref 36), some (.int _), some (.int _), some (.int _), some (.int 1), none]) dX10_isNextRow_60 (by decide) rfl rfl ?_
        refine Ex.iload_n (pc := 62) dX10_isNextRow_62 rfl rfl ?_
        refine Ex.iconst (pc := 63) (v := 1) dX10_isNextRow_63 rfl ?_
        refine Ex.iadd (pc := 64) dX10_isNextRow_64 ?_
        refine Ex.istore (pc := 65) (ls' := [some (.ref 36), some (.int _), some (.int _), some (.int _), some (.int 1), some (.int _)]) dX10_isNextRow_65 (by decide) rfl rfl ?_
        rw [nI_leI (by omega) (by omega)] at c56
        rw [if_pos (blt_iff.mpr (by omega))]
        rw [show nI a + 1 = nI (a + 1) from nI_1 a]
        refine Ex.le (ls' := [some (.ref 36), some (.int (nI many)), some (.int (nI o)), none, some (.int 1), some (.int (nI (a + 1)))]) ⟨rfl, rfl, rfl, rfl, rfl, trivial⟩ ?_
        exact k67 (many - (a + 1)) (a + 1) _ I3 (by omega) hlen hR3 hS3
  refine Ex.iload_n (pc := 0) dX10_isNextRow_0 rfl rfl ?_
  refine Ex.iconst (pc := 1) (v := 1) dX10_isNextRow_1 rfl ?_
  refine Ex.isub (pc := 2) dX10_isNextRow_2 ?_
  refine Ex.istore_n (pc := 3) (ls' := [some (.ref 36), some (.int _), some (.int _), some (.int _), none, none]) dX10_isNextRow_3 rfl (by decide) rfl rfl ?_
  exact k4 many r I (Nat.le_refl _) hl hr Sm.rf hv
