/-! the class's functions go on, and stop where the automaton does -/
theorem adS_S (s : Nat × Nat) (k : Nat) (r : Er) : isS k (adS s r) = isS k r := by rcases r with e | ⟨t, c⟩ <;> rfl
theorem adS_W (s : Nat × Nat) (k : Nat) (r : Er) : isW k (adS s r) = isW k r := by rcases r with e | ⟨t, c⟩ <;> rfl
theorem lp_ad {tb : Nat → Nat} {n : Nat} {cond : Er → Bool} {opk : Er → Nat} {pt : Er → Er} (hb : ∀ i, i < n → tb i < 256) (hg : GF n 0 pt) : ∀ f, GF n 0 (lpL tb n cond opk pt f)
  | 0, r => ad_rf r
  | f + 1, r => by
    simp only [lpL]
    split
    · exact (((ad_nx0 hb r).1.tr (hg _)).tr (ad_adS _ _)).tr (lp_ad hb hg f _)
    · exact ad_rf r
theorem lp_no {tb : Nat → Nat} {n : Nat} {cond : Er → Bool} {opk : Er → Nat} {pt : Er → Er} (hb : ∀ i, i < n → tb i < 256) (hg : GF n 0 pt) (hk : ∀ r, cond r = true → isK 1 r = false) (hce : ∀ e, cond (.error e) = false) : ∀ f r, TkR n r → (∀ t c, r = .ok (t, c) → n ≤ t.2.2.2.1 + f) → cond (lpL tb n cond opk pt f r) = false
  | 0, r => fun hr hn => by
    simp only [lpL]
    cases hc : cond r with
    | false => rfl
    | true =>
      have h1 := hk r hc
      rcases r with e | ⟨t, c⟩
      · rw [hce] at hc; cases hc
      · have := hn t c rfl
        have h2 : t.1 ≠ 1 := of_decide_eq_false h1
        have hw : TkW n t := hr
        have := hw.2.2.2.2.1 h2
        have := hw.2.2.2.1
        omega
  | f + 1, r => fun hr hn => by
    simp only [lpL]
    cases hc : cond r with
    | false => rw [if_neg (by decide)]; exact hc
    | true =>
      rw [if_pos rfl]
      have a : Ad n 1 r (adS (opk r, 0) (pt (nx tb n r))) := ((ad_nx hb (hk r hc)).tr (hg _)).tr (ad_adS _ _)
      refine lp_no hb hg hk hce f _ (a.1 hr) (fun t' c' h' => ?_)
      rcases r with e | ⟨t, c⟩
      · rw [a.2.1 e rfl] at h'; cases h'
      · have := a.2.2 t c t' c' rfl h' hr
        have := hn t c rfl
        omega
theorem lp_Q {tb : Nat → Nat} {n : Nat} {cond Q : Er → Bool} {opk : Er → Nat} {pt : Er → Er} (hb : ∀ i, i < n → tb i < 256) (hg : GF n 0 pt) (hQ : ∀ r, TkR n r → Q (pt r) = false) (hQa : ∀ s r, Q (adS s r) = Q r) : ∀ f r, TkR n r → Q r = false → Q (lpL tb n cond opk pt f r) = false
  | 0, _ => fun _ h => h
  | f + 1, r => fun hr h => by
    simp only [lpL]
    split
    · have hr2 := (ad_nx0 hb r).1.1 hr
      exact lp_Q hb hg hQ hQa f _ ((ad_adS _ _).1 ((hg _).1 hr2)) (by rw [hQa]; exact hQ _ hr2)
    · exact h
theorem TkR.n {n f : Nat} {r : Er} (h : TkR n r) (hf : n ≤ f) : ∀ t c, r = .ok (t, c) → n ≤ t.2.2.2.1 + f := fun t c e => by omega
theorem g_prod {tb : Nat → Nat} {n b : Nat} {pt : Er → Er} (hb : ∀ i, i < n → tb i < 256) (hg : GF n b pt) : GF n b (prodF tb n pt) := fun r => by
  unfold prodF; rw [prodL_lp]; exact (hg r).tr (lp_ad hb (fun r => (hg r).le (Nat.zero_le _)) n _)
theorem g_sum {tb : Nat → Nat} {n b : Nat} {pt : Er → Er} (hb : ∀ i, i < n → tb i < 256) (hg : GF n b pt) : GF n b (sumF tb n pt) := fun r => by
  unfold sumF; rw [sumL_lp]; exact (hg r).tr (lp_ad hb (fun r => (hg r).le (Nat.zero_le _)) n _)
theorem g_word {tb : Nat → Nat} {n b w k : Nat} {pt : Er → Er} (hb : ∀ i, i < n → tb i < 256) (hg : GF n b pt) : GF n b (fun r => wordL tb n w k pt n (pt r)) := fun r => by
  show Ad n b r (wordL tb n w k pt n (pt r))
  rw [wordL_lp]; exact (hg r).tr (lp_ad hb (fun r => (hg r).le (Nat.zero_le _)) n _)
theorem no_prod {tb : Nat → Nat} {n : Nat} {pt : Er → Er} (hb : ∀ i, i < n → tb i < 256) (hg : GF n 0 pt) (r : Er) (hr : TkR n r) : (isS 42 (prodF tb n pt r) || (isS 47 (prodF tb n pt r) || isS 37 (prodF tb n pt r))) = false := by
  unfold prodF
  rw [prodL_lp]
  exact lp_no (cond := fun r => isS 42 r || (isS 47 r || isS 37 r)) hb hg (fun r h => by
    rcases (Bool.or_eq_true _ _).mp h with q | q
    · exact isS_k q
    · rcases (Bool.or_eq_true _ _).mp q with q | q <;> exact isS_k q) (fun e => rfl) n _ ((hg r).1 hr) (TkR.n ((hg r).1 hr) (Nat.le_refl _))
theorem no_sum {tb : Nat → Nat} {n : Nat} {pt : Er → Er} (hb : ∀ i, i < n → tb i < 256) (hg : GF n 0 pt) (hQ : ∀ r, TkR n r → (isS 42 (pt r) || (isS 47 (pt r) || isS 37 (pt r))) = false) (r : Er) (hr : TkR n r) : isAr (sumF tb n pt r) = false := by
  unfold sumF
  rw [sumL_lp]
  have h1 := lp_no (opk := opS) (cond := fun r => isS 43 r || isS 45 r) hb hg (fun r h => by rcases (Bool.or_eq_true _ _).mp h with q | q <;> exact isS_k q) (fun e => rfl) n _ ((hg r).1 hr) (TkR.n ((hg r).1 hr) (Nat.le_refl _))
  have h2 := lp_Q (opk := opS) (cond := fun r => isS 43 r || isS 45 r) (Q := fun r => isS 42 r || (isS 47 r || isS 37 r)) hb hg hQ (fun s r => by simp only [adS_S]) n _ ((hg r).1 hr) (hQ r hr)
  unfold isAr
  rw [← Bool.or_assoc, h1, h2]; rfl
theorem no_both {tb : Nat → Nat} {n : Nat} {pt : Er → Er} (hb : ∀ i, i < n → tb i < 256) (hg : GF n 0 pt) (r : Er) (hr : TkR n r) : isW 22 (bothF tb n pt r) = false := by
  unfold bothF
  rw [wordL_lp]
  exact lp_no hb hg (fun r h => isW_k h) (fun e => rfl) n _ ((hg r).1 hr) (TkR.n ((hg r).1 hr) (Nat.le_refl _))
theorem no_test {tb : Nat → Nat} {n : Nat} {pt : Er → Er} (hb : ∀ i, i < n → tb i < 256) (hg : GF n 0 pt) (hQ : ∀ r, TkR n r → isW 22 (pt r) = false) (r : Er) (hr : TkR n r) : isW 22 (testF tb n pt r) = false ∧ isW 21 (testF tb n pt r) = false := by
  unfold testF
  rw [wordL_lp]
  exact ⟨lp_Q (Q := isW 22) hb hg hQ (fun s r => adS_W s 22 r) n _ ((hg r).1 hr) (hQ r hr), lp_no hb hg (fun r h => isW_k h) (fun e => rfl) n _ ((hg r).1 hr) (TkR.n ((hg r).1 hr) (Nat.le_refl _))⟩
theorem g_les {tb : Nat → Nat} {n o : Nat} {sm : Er → Er} (hb : ∀ i, i < n → tb i < 256) (hs : o < 7 → GF n 1 sm) (r : Er) (hk : isK 1 r = false) : Ad n 1 r (lesF tb n o sm r) := by
  unfold lesF
  split
  · split
    · exact ((ad_nx hb hk).tr (ad_stp (b := 0) _)).le (by omega)
    · rename_i h2
      have hs := hs (by omega)
      exact ((((((((ad_nx hb hk).tr (ad_nx0 hb _).1).tr (hs _)).tr (ad_tkS hb 44 _)).tr (hs _)).tr (ad_tkS hb 41 _)).tr (ad_adS _ _))).le (by omega)
  · exact ((ad_nx hb hk).tr (ad_stp (b := 0) _)).le (by omega)
theorem g_cho {tb : Nat → Nat} {n o : Nat} {sm te : Er → Er} (hb : ∀ i, i < n → tb i < 256) (hs : o < 7 → GF n 1 sm) (ht : o < 7 → GF n 1 te) (r : Er) (hk : isK 1 r = false) : Ad n 1 r (choF tb n o sm te r) := by
  unfold choF
  split
  · split
    · exact ((ad_nx hb hk).tr (ad_stp (b := 0) _)).le (by omega)
    · rename_i h2
      have hs := hs (by omega)
      have ht := ht (by omega)
      exact ((((((((((ad_nx hb hk).tr (ad_nx0 hb _).1).tr (ht _)).tr (ad_tkS hb 44 _)).tr (hs _)).tr (ad_tkS hb 44 _)).tr (hs _)).tr (ad_tkS hb 41 _)).tr (ad_adS _ _))).le (by omega)
  · exact ((ad_nx hb hk).tr (ad_stp (b := 0) _)).le (by omega)
theorem g_part {tb : Nat → Nat} {n sc o : Nat} {sm te : Er → Er} (hb : ∀ i, i < n → tb i < 256) (hs : o < 7 → GF n 1 sm) (ht : o < 7 → GF n 1 te) : GF n 1 (partF tb n sc o sm te) := by
  intro r
  unfold partF
  split
  · rename_i h
    rcases r with e | ⟨t, c⟩
    · cases h
    · exact ((ad_adS _ _).tr (ad_nx hb (r := adS _ (.ok (t, c))) (isK_k (k := 3) (by decide) (show isK 3 (.ok (t, c)) = true from h)))).le (by omega)
  · split
    · rename_i h
      rcases r with e | ⟨t, c⟩
      · cases h
      · have h2 : t.1 = 2 := of_decide_eq_true ((Bool.and_eq_true _ _).mp h).1
        exact ((ad_adS _ _).tr (ad_nx hb (r := adS _ (.ok (t, c))) (show decide (t.1 = 1) = false from decide_eq_false (by omega)))).le (by omega)
    · split
      · rename_i h
        exact g_les hb hs r (by rcases (Bool.or_eq_true _ _).mp h with q | q <;> exact isW_k q)
      · split
        · rename_i h; exact g_cho hb hs ht r (isW_k h)
        · split
          · rename_i h
            split
            · exact ad_stp r
            · rename_i h7
              exact (((ad_nx hb (isS_k h)).tr (hs (by omega) _)).tr (ad_tkS hb 41 _)).le (by omega)
          · exact ad_stp r
theorem g_comp {tb : Nat → Nat} {n : Nat} {sm : Er → Er} (hb : ∀ i, i < n → tb i < 256) (hs : GF n 1 sm) : GF n 1 (compF tb n sm) := by
  intro r
  unfold compF
  split
  · exact ((((hs r).tr (ad_nx0 hb _).1).tr (hs _)).tr (ad_adS _ _)).le (by omega)
  · exact ((hs r).tr (ad_stp (b := 0) _)).le (by omega)
theorem g_fact {tb : Nat → Nat} {n o : Nat} {fa te cm : Er → Er} (hb : ∀ i, i < n → tb i < 256) (hf : o < 7 → GF n 1 fa) (ht : o < 7 → GF n 1 te) (hc : GF n 1 cm) : GF n 1 (factF tb n o fa te cm) := by
  intro r
  unfold factF
  split
  · rename_i h
    split
    · exact ad_stp r
    · exact (((ad_nx hb (isW_k h)).tr (hf (by omega) _)).tr (ad_adS _ _)).le (by omega)
  · split
    · rename_i h
      split
      · exact ad_stp r
      · exact (((ad_nx hb (isS_k h)).tr (ht (by omega) _)).tr (ad_tkS hb 93 _)).le (by omega)
    · split
      · rename_i h
        rcases r with e | ⟨t, c⟩
        · cases h
        · exact ((ad_adS _ _).tr (ad_nx hb (r := adS _ (.ok (t, c))) (isW_k (c := 24) (show isW 24 (.ok (t, c)) = true from h)))).le (by omega)
      · exact hc r
theorem g_mk {tb : Nat → Nat} {n sc o : Nat} {q : (Er → Er) × (Er → Er) × (Er → Er)} (hb : ∀ i, i < n → tb i < 256) (hq : o < 7 → GF n 1 q.1 ∧ GF n 1 q.2.1 ∧ GF n 1 q.2.2) : GF n 1 (mkL tb n sc o q).1 ∧ GF n 1 (mkL tb n sc o q).2.1 ∧ GF n 1 (mkL tb n sc o q).2.2 := by
  have hs : GF n 1 (mkL tb n sc o q).1 := g_sum hb (g_prod hb (g_part hb (fun h => (hq h).1) (fun h => (hq h).2.1)))
  have hf : GF n 1 (mkL tb n sc o q).2.2 := g_fact hb (fun h => (hq h).2.2) (fun h => (hq h).2.1) (g_comp hb hs)
  exact ⟨hs, g_word hb (g_word hb hf), hf⟩
theorem g_lvl {tb : Nat → Nat} {n sc : Nat} (hb : ∀ i, i < n → tb i < 256) : ∀ m, GF n 1 (lvl tb n sc m).1 ∧ GF n 1 (lvl tb n sc m).2.1 ∧ GF n 1 (lvl tb n sc m).2.2
  | 0 => g_mk hb (fun h => absurd h (by decide))
  | m + 1 => g_mk hb (fun _ => g_lvl hb m)
theorem no_mk {tb : Nat → Nat} {n sc o : Nat} {q : (Er → Er) × (Er → Er) × (Er → Er)} (hb : ∀ i, i < n → tb i < 256) (hq : o < 7 → GF n 1 q.1 ∧ GF n 1 q.2.1 ∧ GF n 1 q.2.2) (r : Er) (hr : TkR n r) : isAr ((mkL tb n sc o q).1 r) = false ∧ isW 22 ((mkL tb n sc o q).2.1 r) = false ∧ isW 21 ((mkL tb n sc o q).2.1 r) = false := by
  have hp : GF n 1 (partF tb n sc o q.1 q.2.1) := g_part hb (fun h => (hq h).1) (fun h => (hq h).2.1)
  have hs := (g_mk (sc := sc) hb hq).1
  have hf := (g_mk (sc := sc) hb hq).2.2
  have z : ∀ {F : Er → Er}, GF n 1 F → GF n 0 F := fun h r => (h r).le (by omega)
  exact ⟨no_sum hb (z (g_prod hb hp)) (no_prod hb (z hp)) r hr, no_test hb (z (g_word hb hf)) (no_both hb (z hf)) r hr⟩
