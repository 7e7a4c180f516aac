/-! the automaton follows the class's descent -/
theorem ct_prod {tb : Nat → Nat} {n sc o : Nat} {pt : Er → Er} (hb : ∀ i, i < n → tb i < 256) (hg : GF n 0 pt) (hpt : CtS tb n sc o 7 pt) : CtS tb n sc o 6 (prodF tb n pt) := by
  intro k ph bg pr ω fs r R hr hph hbg hω K
  refine hpt k ph bg pr ω fs r R hr hph hbg (hω.up (by omega)) (fun δ r' q1 q2 => ?_)
  refine lp_s (m := 6) (by omega) (cond := fun r => isS 42 r || (isS 47 r || isS 37 r)) (opk := opP) (fun r h => ?_) hb hg hpt hph hω n δ (pt r) r' ((hg r).1 hr) q1 (fun x hx => by have := q2 x hx; omega) (fun δ2 r2 e1 e2 => K δ2 r2 (by unfold prodF; rw [prodL_lp]; exact e1) e2)
  rcases r with e | ⟨t, c⟩
  · cases h
  · simp only [isS, Bool.or_eq_true, decide_eq_true_eq] at h
    unfold isAr rkA opA opP isS
    rcases h with h | h | h <;> simp [h, rkC]
theorem ct_sum {tb : Nat → Nat} {n sc o : Nat} {pt : Er → Er} (hb : ∀ i, i < n → tb i < 256) (hg : GF n 0 pt) (hpt : CtS tb n sc o 6 pt) : CtS tb n sc o 5 (sumF tb n pt) := by
  intro k ph bg pr ω fs r R hr hph hbg hω K
  refine hpt k ph bg pr ω fs r R hr hph hbg (hω.up (by omega)) (fun δ r' q1 q2 => ?_)
  refine lp_s (m := 5) (by omega) (cond := fun r => isS 43 r || isS 45 r) (opk := opS) (fun r h => ?_) hb hg hpt hph hω n δ (pt r) r' ((hg r).1 hr) q1 (fun x hx => by have := q2 x hx; omega) (fun δ2 r2 e1 e2 => K δ2 r2 (by unfold sumF; rw [sumL_lp]; exact e1) e2)
  rcases r with e | ⟨t, c⟩
  · cases h
  · simp only [isS, Bool.or_eq_true, decide_eq_true_eq] at h
    unfold isAr rkA opA opS isS
    rcases h with h | h <;> simp [h, rkC]
theorem ct_both {tb : Nat → Nat} {n sc o : Nat} {pt : Er → Er} (hb : ∀ i, i < n → tb i < 256) (hg : GF n 0 pt) (hpt : CtT tb n sc o 3 4 pt) : CtT tb n sc o 2 2 (bothF tb n pt) := by
  intro k pr ω fs r R hr ht hω K
  refine hpt k pr ω fs r R hr ht (hω.up (by omega)) (fun δ r' ph q1 q2 q3 q4 => ?_)
  exact lp_t (m := 2) (Or.inl ⟨rfl, rfl, rfl⟩) (by omega) hb hg hpt ht hω n δ (pt r) r' ph ((hg r).1 hr) q1 (fun x hx => by have := q2 x hx; omega) q3 q4 (fun δ2 r2 ph2 e1 e2 e3 e4 => K δ2 r2 ph2 (by unfold bothF; rw [wordL_lp]; exact e1) e2 e3 e4)
theorem ct_test {tb : Nat → Nat} {n sc o : Nat} {pt : Er → Er} (hb : ∀ i, i < n → tb i < 256) (hg : GF n 0 pt) (hpt : CtT tb n sc o 2 2 pt) : CtT tb n sc o 1 1 (testF tb n pt) := by
  intro k pr ω fs r R hr ht hω K
  refine hpt k pr ω fs r R hr ht (hω.up (by omega)) (fun δ r' ph q1 q2 q3 q4 => ?_)
  exact lp_t (m := 1) (Or.inr ⟨rfl, rfl, rfl⟩) (by omega) hb hg hpt ht hω n δ (pt r) r' ph ((hg r).1 hr) q1 (fun x hx => by have := q2 x hx; omega) q3 q4 (fun δ2 r2 ph2 e1 e2 e3 e4 => K δ2 r2 ph2 (by unfold testF; rw [wordL_lp]; exact e1) e2 e3 e4)
theorem isS_ar {k : Nat} {r : Er} (h : isS k r = true) (hk : ¬ (k = 43 ∨ k = 45 ∨ k = 42 ∨ k = 47 ∨ k = 37)) : isAr r = false := by
  rcases r with e | ⟨t, c⟩
  · cases h
  · have h := of_decide_eq_true h
    unfold isAr isS
    simp only [Bool.or_eq_false_iff, decide_eq_false_iff_not]
    rw [h.2]
    omega
/-- the automaton at the end of what stands inside a frame that isn't the lowest -/
theorem go_sum {tb : Nat → Nat} {n sc o k pr : Nat} {δ : List Nat} {fs : List Fr} {r r' R : Er} {bg : Bool} (hk : tst k = false) (hA : isAr r' = false) (h : Go tb n sc (if k < 2 then (true, [], o - cd14 (tk 1 δ), adL (tk 1 δ) r') else if k = 3 ∨ k = 6 then (if isS 44 r' = true then (false, ⟨if k = 3 then 4 else 3, 0, bg, pr, dr 1 δ⟩ :: fs, o - cd14 (tk 1 δ), nx tb n (adL (tk 1 δ) r')) else (true, ⟨k, 0, bg, pr, δ⟩ :: fs, o, stp 1 r')) else if isS (if k = 5 then 93 else 41) r' = true then (true, (if k = 5 then ph2 fs else fs), o - cd14 (tk 1 δ) - 1, nx tb n (if k = 4 then adS (pr, 0) (adL (tk 1 δ) r') else adL (tk 1 δ) r')) else (true, ⟨k, 0, bg, pr, δ⟩ :: fs, o, stp 1 r')) R) : Go tb n sc (true, ⟨k, 0, bg, pr, δ⟩ :: fs, o, r') R := by
  refine .go _ _ _ _ _ ?_
  unfold gnF
  simp only [Fr.k, Fr.ph, Fr.bg, Fr.pr, Fr.ω]
  rw [hA, Bool.and_false, if_neg (by decide), hk, Bool.false_and, if_neg (by decide), Bool.false_and, if_neg (by decide), Bool.false_and, if_neg (by decide)]
  exact h
theorem go_test {tb : Nat → Nat} {n sc o k ph pr : Nat} {δ : List Nat} {fs : List Fr} {r' R : Er} {bg : Bool} (hp : ph ≠ 0) (hA : ph < 2 → isAr r' = false) (h22 : isW 22 r' = false) (h21 : isW 21 r' = false) (h : Go tb n sc (if k < 2 then (true, [], o - cd14 (tk 1 δ), adL (tk 1 δ) r') else if k = 3 ∨ k = 6 then (if isS 44 r' = true then (false, ⟨if k = 3 then 4 else 3, 0, bg, pr, dr 1 δ⟩ :: fs, o - cd14 (tk 1 δ), nx tb n (adL (tk 1 δ) r')) else (true, ⟨k, ph, bg, pr, δ⟩ :: fs, o, stp 1 r')) else if isS (if k = 5 then 93 else 41) r' = true then (true, (if k = 5 then ph2 fs else fs), o - cd14 (tk 1 δ) - 1, nx tb n (if k = 4 then adS (pr, 0) (adL (tk 1 δ) r') else adL (tk 1 δ) r')) else (true, ⟨k, ph, bg, pr, δ⟩ :: fs, o, stp 1 r')) R) : Go tb n sc (true, ⟨k, ph, bg, pr, δ⟩ :: fs, o, r') R := by
  refine .go _ _ _ _ _ ?_
  unfold gnF
  simp only [Fr.k, Fr.ph, Fr.bg, Fr.pr, Fr.ω]
  have b1 : (decide (ph < 2) && isAr r') = false := by
    by_cases q : ph < 2
    · rw [hA q, Bool.and_false]
    · rw [decide_eq_false q]; rfl
  rw [b1, if_neg (by decide), decide_eq_false hp, Bool.false_and, Bool.and_false, if_neg (by decide), h22, h21, Bool.or_false, Bool.and_false, if_neg (by decide), if_neg (by decide)]
  exact h
theorem tk_1 (δ : List Nat) : tk 1 δ = δ ∧ dr 1 δ = [] := by
  have := tk_a (m := 1) (ω := []) (fun x hx => by cases hx) δ (fun x _ => (rk_le x).1)
  rwa [List.append_nil] at this
theorem tpL.nil (m : Nat) : tpL m [] := fun x hx => by cases hx
theorem stp_r {k : Nat} (r : Er) : ∃ e, stp k r = .error e := by rcases r with e | ⟨t, c⟩ <;> exact ⟨_, rfl⟩
/-- a sum in brackets, behind which the sign cl stands: frames of the kinds 2 and 4 -/
theorem in_sum {tb : Nat → Nat} {n sc o k pr : Nat} {fs : List Fr} {bg : Bool} {r R : Er} {sm : Er → Er} (hk : k = 2 ∨ k = 4) (hs : CtS tb n sc (o + 1) 5 sm) (hno : isAr (sm r) = false) (hr : TkR n r) (K : Go tb n sc (true, fs, o, nx tb n (if k = 4 then adS (pr, 0) (sm r) else sm r)) R ∨ isS 41 (sm r) = false) (K2 : isS 41 (sm r) = false → ∃ b fs' o', Go tb n sc (b, fs', o', stp 1 (sm r)) R) : Go tb n sc (false, ⟨k, 0, bg, pr, []⟩ :: fs, o + 1, r) R := by
  have ht : tst k = false := by rcases hk with q | q <;> (rw [q]; rfl)
  refine hs k 0 bg pr [] fs r R hr (by omega) (fun q => by rw [ht] at q; cases q) (tpL.nil _) (fun δ r' q1 q2 => ?_)
  rw [List.append_nil]
  have hA : isAr r' = false := by rw [← adL_Ar δ r', q1]; exact hno
  refine go_sum (r := r) ht hA ?_
  have h5 : ¬ k = 5 := by omega
  rw [if_neg (by omega), if_neg (by omega), if_neg h5, if_neg h5, (tk_1 δ).1, q1, cd0 (m := 5) (by omega) δ q2]
  have e41 : isS 41 r' = isS 41 (sm r) := by rw [← q1, adL_S]
  by_cases c : isS 41 (sm r) = true
  · rw [if_pos (by rw [e41]; exact c)]
    rcases K with K | K
    · exact K
    · rw [c] at K; cases K
  · rw [if_neg (by rw [e41]; exact c)]
    obtain ⟨b, fs', o', g⟩ := K2 (Bool.eq_false_iff.mpr c)
    rw [← q1, adL_stp] at g
    obtain ⟨e, he⟩ := stp_r (k := 1) r'
    rw [he] at g ⊢
    exact g.ee
/-- a sum behind which a comma stands: the kind 3 -/
theorem in_com {tb : Nat → Nat} {n sc o pr : Nat} {fs : List Fr} {bg : Bool} {r R : Er} {sm : Er → Er} (hs : CtS tb n sc (o + 1) 5 sm) (hno : isAr (sm r) = false) (hr : TkR n r) (K : isS 44 (sm r) = true → Go tb n sc (false, ⟨4, 0, false, pr, []⟩ :: fs, o + 1, nx tb n (sm r)) R) (K2 : isS 44 (sm r) = false → ∃ b fs' o', Go tb n sc (b, fs', o', stp 1 (sm r)) R) : Go tb n sc (false, ⟨3, 0, bg, pr, []⟩ :: fs, o + 1, r) R := by
  refine hs 3 0 bg pr [] fs r R hr (by omega) (fun q => by cases q) (tpL.nil _) (fun δ r' q1 q2 => ?_)
  rw [List.append_nil]
  have hA : isAr r' = false := by rw [← adL_Ar δ r', q1]; exact hno
  refine go_sum (r := r) rfl hA ?_
  rw [if_neg (by omega), if_pos (Or.inl rfl), (tk_1 δ).1, (tk_1 δ).2, q1, cd0 (m := 5) (by omega) δ q2]
  have e44 : isS 44 r' = isS 44 (sm r) := by rw [← q1, adL_S]
  by_cases c : isS 44 (sm r) = true
  · rw [if_pos (by rw [e44]; exact c)]
    exact K c
  · rw [if_neg (by rw [e44]; exact c)]
    obtain ⟨b, fs', o', g⟩ := K2 (Bool.eq_false_iff.mpr c)
    rw [← q1, adL_stp] at g
    obtain ⟨e, he⟩ := stp_r (k := 1) r'
    rw [he] at g ⊢
    exact g.ee
/-- a test behind which a comma or a bracket stands: the kinds 6 and 5 -/
theorem in_tes {tb : Nat → Nat} {n sc o pr k cl : Nat} {fs : List Fr} {r R : Er} {te : Er → Er} (hk : (k = 6 ∧ cl = 44) ∨ (k = 5 ∧ cl = 93)) (hs : CtT tb n sc (o + 1) 1 1 te) (h22 : isW 22 (te r) = false) (h21 : isW 21 (te r) = false) (hr : TkR n r) (K : isS cl (te r) = true → (k = 6 → Go tb n sc (false, ⟨3, 0, false, pr, []⟩ :: fs, o + 1, nx tb n (te r)) R) ∧ (k = 5 → Go tb n sc (true, ph2 fs, o, nx tb n (te r)) R)) (K2 : isS cl (te r) = false → ∃ b fs' o', Go tb n sc (b, fs', o', stp 1 (te r)) R) : Go tb n sc (false, ⟨k, 0, true, pr, []⟩ :: fs, o + 1, r) R := by
  refine hs k pr [] fs r R hr (by rcases hk with q | q <;> (rw [q.1]; rfl)) (tpL.nil _) (fun δ r' ph q1 q2 q3 q4 => ?_)
  rw [List.append_nil]
  refine go_test q3 q4 (by rw [← adL_W δ, q1]; exact h22) (by rw [← adL_W δ, q1]; exact h21) ?_
  have ec : isS cl r' = isS cl (te r) := by rw [← q1, adL_S]
  have no : isS cl (te r) = false → Go tb n sc (true, ⟨k, ph, false, pr, δ⟩ :: fs, o + 1 + cd14 δ, stp 1 r') R := fun c => by
    obtain ⟨b, fs', o', g⟩ := K2 c
    rw [← q1, adL_stp] at g
    obtain ⟨e, he⟩ := stp_r (k := 1) r'
    rw [he] at g ⊢
    exact g.ee
  rw [if_neg (by omega), (tk_1 δ).1, (tk_1 δ).2, q1, Nat.add_sub_cancel]
  rcases hk with ⟨rfl, rfl⟩ | ⟨rfl, rfl⟩
  · rw [if_pos (Or.inr rfl), if_neg (show ¬ (6 : Nat) = 3 by decide)]
    by_cases c : isS 44 (te r) = true
    · rw [if_pos (by rw [ec]; exact c)]; exact (K c).1 rfl
    · rw [if_neg (by rw [ec]; exact c)]; exact no (Bool.eq_false_iff.mpr c)
  · rw [if_neg (by decide), if_pos rfl, if_pos rfl, if_neg (show ¬ (5 : Nat) = 4 by decide)]
    by_cases c : isS 93 (te r) = true
    · rw [if_pos (by rw [ec]; exact c)]; exact (K c).2 rfl
    · rw [if_neg (by rw [ec]; exact c)]; exact no (Bool.eq_false_iff.mpr c)
theorem tkS_y {tb : Nat → Nat} {n c : Nat} {r : Er} (h : isS c r = true) : tkS tb n c r = nx tb n r := if_pos h
theorem tkS_n {tb : Nat → Nat} {n c : Nat} {r : Er} (h : isS c r = false) : tkS tb n c r = stp 1 r := if_neg (by rw [h]; decide)
theorem nx_adS {tb : Nat → Nat} {n : Nat} (s : Nat × Nat) (r : Er) : nx tb n (adS s r) = adS s (nx tb n r) := by
  rcases r with e | ⟨t, c⟩
  · rfl
  · simp only [nx, adS]
    cases tokF tb n t.2.2.2.2 (decide (t.1 = 2 ∨ t.1 = 3)) <;> rfl
