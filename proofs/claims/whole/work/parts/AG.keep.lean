/-! what a read plan keeps to -/
def PlV (pl : Pl) (c : Cd) : Prop := (∀ q, q < 3 → pl.1 q ≤ wd q ∧ ∀ j, j < pl.1 q → okN (pl.2.1 q j) ∧ pl.2.2.1 q j ≤ 99 ∧ pl.2.2.2.1 q j ≤ 99) ∧ pl.2.2.2.2.1 ≤ 99 ∧ pl.2.2.2.2.2.1 ≤ 100 ∧ RuI pl c
theorem PlV.th {pl : Pl} {c : Cd} {q x y : Nat} {l : List Nat} (h : PlV pl c) (hq : q < 3) (hk : pl.1 q < wd q) (hl : okN l) (hx : x ≤ 99) (hy : y ≤ 99) : PlV (plT pl q l x y) c := by
  refine ⟨fun p hp => ?_, h.2.1, h.2.2.1, h.2.2.2⟩
  obtain ⟨h1, h2⟩ := h.1 p hp
  show (if p = q then pl.1 q + 1 else pl.1 p) ≤ wd p ∧ ∀ j, j < (if p = q then pl.1 q + 1 else pl.1 p) → okN (if p = q ∧ j = pl.1 q then l else pl.2.1 p j) ∧ (if p = q ∧ j = pl.1 q then x else pl.2.2.1 p j) ≤ 99 ∧ (if p = q ∧ j = pl.1 q then y else pl.2.2.2.1 p j) ≤ 99
  by_cases e : p = q
  · subst e
    rw [if_pos rfl]
    refine ⟨by omega, fun j hj => ?_⟩
    by_cases ej : j = pl.1 p
    · rw [if_pos ⟨rfl, ej⟩, if_pos ⟨rfl, ej⟩, if_pos ⟨rfl, ej⟩]; exact ⟨hl, hx, hy⟩
    · rw [if_neg (fun z => ej z.2), if_neg (fun z => ej z.2), if_neg (fun z => ej z.2)]; exact h2 j (by omega)
  · rw [if_neg e]
    refine ⟨h1, fun j hj => ?_⟩
    rw [if_neg (fun z => e z.1), if_neg (fun z => e z.1), if_neg (fun z => e z.1)]; exact h2 j hj
theorem PlV.ru {pl : Pl} {c d : Cd} {w : Nat} (h : PlV pl c) (hd : 1 ≤ d.length) (hs : Sh d 43 (decide (w = 2 ∨ w = 3))) (ho : ∀ s ∈ d, OkS (9 + w) s) : PlV (plU pl w c.length (c ++ d).length) (c ++ d) := by
  refine ⟨h.1, h.2.1, h.2.2.1, fun i hi => ?_⟩
  show ((if i = w then c.length else pl.2.2.2.2.2.2.1 i) = (if i = w then (c ++ d).length else pl.2.2.2.2.2.2.2 i) ∧ (if i = w then (c ++ d).length else pl.2.2.2.2.2.2.2 i) = 0) ∨ ∃ a d' z, c ++ d = a ++ d' ++ z ∧ (if i = w then c.length else pl.2.2.2.2.2.2.1 i) = a.length ∧ (if i = w then (c ++ d).length else pl.2.2.2.2.2.2.2 i) = a.length + d'.length ∧ 1 ≤ d'.length ∧ Sh d' 43 (decide (i = 2 ∨ i = 3)) ∧ ∀ s ∈ d', OkS (9 + i) s
  by_cases e : i = w
  · subst e
    rw [if_pos rfl, if_pos rfl]
    exact Or.inr ⟨c, d, [], by simp, rfl, by simp, hd, hs, ho⟩
  · rw [if_neg e, if_neg e]
    rcases h.2.2.2 i hi with q | ⟨a, d', z, e1, e2⟩
    · exact Or.inl q
    · exact Or.inr ⟨a, d', z ++ d, by rw [e1]; simp [List.append_assoc], e2⟩
theorem th_I {tb : Nat → Nat} {n q w hi : Nat} {pl : Pl} {t t' : Tk} {c c' : Cd} (hb : ∀ i, i < n → tb i < 256) (hW : TkW n t) (hI : PlV pl c) (hq : q < 3) (hk : pl.1 q < wd q) (hhi : hi ≤ 99) (hx : (thR tb n q w hi pl (nx tb n (.ok (t, c)))).2.2 = .ok (t', c')) : PlV (plT pl q (letR (nx tb n (.ok (t, c)))) (numR (thR tb n q w hi pl (nx tb n (.ok (t, c)))).1) (numR (thR tb n q w hi pl (nx tb n (.ok (t, c)))).2.1)) c' := by
  have hrn : TkR n (nx tb n (.ok (t, c))) := (ad_nx0 hb _).1.1 (show TkR n (.ok (t, c)) from hW)
  have hc : c' = c := ((sc_nx hb (.ok (t, c))).tr (sc_th hb _)).2 t c t' c' rfl hx
  subst hc
  have hx : tkV tb n (if q = 0 then 1 else 0) (if q = 0 then 99 else 9) (tkO tb n (w + 1) (tkV tb n (if q = 0 then 1 else 0) hi (tkO tb n w (tkN tb n pl (nx tb n (.ok (t, c'))))))) = .ok (t', c') := hx
  have z2 := tkV_ok hx
  obtain ⟨t3, c3, z3, _⟩ := isK_ok z2.1
  have z4 := tkO_ok z3
  obtain ⟨t5, c5, z5, _⟩ := isW_ok z4.1
  have z6 := tkV_ok z5
  obtain ⟨t6, c6, z7, _⟩ := isK_ok z6.1
  have z8 := tkO_ok z7
  obtain ⟨t9, c9, z9, _⟩ := isW_ok z8.1
  obtain ⟨t1, c1, e1, e2, _⟩ := tkN_ok z9
  have hl : okN (letR (nx tb n (.ok (t, c')))) := by
    rw [e1] at hrn ⊢
    exact (show TkW n t1 from hrn).2.2.2.2.2.1 e2
  refine hI.th hq hk hl (Nat.le_trans z6.2.2.1 hhi) (Nat.le_trans z2.2.2.1 (by split <;> decide))
theorem st_I {tb : Nat → Nat} {n : Nat} {pl : Pl} {t t' : Tk} {c c' : Cd} (hb : ∀ i, i < n → tb i < 256) (hW : TkW n t) (hI : PlV pl c) (hx : (stB tb n pl t c).1 = .ok (t', c')) : PlV (stB tb n pl t c).2 c' ∧ TkW n t' := by
  have hrn : TkR n (nx tb n (.ok (t, c))) := (ad_nx0 hb _).1.1 (show TkR n (.ok (t, c)) from hW)
  unfold stB at hx ⊢
  by_cases hbk : begK (wdN t) = true
  · rw [if_pos hbk] at hx ⊢
    by_cases hfu : fullB pl (wdN t) = true
    · rw [if_pos hfu] at hx; cases hx
    · rw [if_neg hfu] at hx ⊢
      have hbd := of_decide_eq_true hbk
      have thing : ∀ q w hi, q < 3 → pl.1 q < wd q → hi ≤ 99 → (thR tb n q w hi pl (nx tb n (.ok (t, c)))).2.2 = .ok (t', c') → PlV (plT pl q (letR (nx tb n (.ok (t, c)))) (numR (thR tb n q w hi pl (nx tb n (.ok (t, c)))).1) (numR (thR tb n q w hi pl (nx tb n (.ok (t, c)))).2.1)) c' ∧ TkW n t' := fun q w hi hq hk hh hx => ⟨th_I hb hW hI hq hk hh hx, by
        have := ((sc_nx hb (.ok (t, c))).tr (sc_th (q := q) (w := w) (hi := hi) (pl := pl) hb _)).1.1 (show TkR n (.ok (t, c)) from hW)
        rw [hx] at this; exact this⟩
      generalize wdN t = k at *
      unfold bodF at hx ⊢
      by_cases k0 : k = 0
      · subst k0
        rw [if_pos rfl] at hx ⊢
        refine thing 0 1 9 (by decide) ?_ (by decide) hx
        have : ¬ (decide (5 ≤ pl.1 0)) = true := hfu
        have := of_decide_eq_false (Bool.eq_false_iff.mpr this)
        show pl.1 0 < 5; omega
      · rw [if_neg k0] at hx ⊢
        by_cases k3 : k = 3
        · subst k3
          rw [if_pos rfl] at hx ⊢
          refine thing 1 4 99 (by decide) ?_ (by decide) hx
          have : ¬ (decide (6 ≤ pl.1 1)) = true := hfu
          have := of_decide_eq_false (Bool.eq_false_iff.mpr this)
          show pl.1 1 < 6; omega
        · rw [if_neg k3] at hx ⊢
          by_cases k6 : k = 6
          · subst k6
            rw [if_pos rfl] at hx ⊢
            refine thing 2 7 9 (by decide) ?_ (by decide) hx
            have : ¬ (decide (6 ≤ pl.1 2)) = true := hfu
            have := of_decide_eq_false (Bool.eq_false_iff.mpr this)
            show pl.1 2 < 6; omega
          · rw [if_neg k6] at hx ⊢
            by_cases k14 : k = 14
            · rw [if_pos k14] at hx ⊢
              have hx : tkV tb n 0 99 (nx tb n (.ok (t, c))) = .ok (t', c') := hx
              have hsc := (sc_nx hb (.ok (t, c))).tr (sc_tkV (lo := 0) (hi := 99) hb _)
              have hc := hsc.2 t c t' c' rfl hx
              have hw := hsc.1.1 (show TkR n (.ok (t, c)) from hW)
              rw [hx] at hw
              subst hc
              exact ⟨⟨hI.1, (tkV_ok hx).2.2.1, hI.2.2.1, hI.2.2.2⟩, hw⟩
            · rw [if_neg k14] at hx ⊢
              by_cases k15 : k = 15
              · rw [if_pos k15] at hx ⊢
                have hx : tkV tb n 0 100 (nx tb n (.ok (t, c))) = .ok (t', c') := hx
                have hsc := (sc_nx hb (.ok (t, c))).tr (sc_tkV (lo := 0) (hi := 100) hb _)
                have hc := hsc.2 t c t' c' rfl hx
                have hw := hsc.1.1 (show TkR n (.ok (t, c)) from hW)
                rw [hx] at hw
                subst hc
                exact ⟨⟨hI.1, hI.2.1, (tkV_ok hx).2.2.1, hI.2.2.2⟩, hw⟩
              · rw [if_neg k15] at hx ⊢
                have hx : ruF tb n k (nx tb n (.ok (t, c))) = .ok (t', c') := hx
                obtain ⟨⟨t1, c1, e1, w1⟩, w2⟩ := F_ok (ad_ru (k := k) hb) hrn hx
                have hc1 := nx_c e1
                subst hc1
                obtain ⟨d, ed, sd, od⟩ := sh_ru hb t1 c1 t' c' w1 (by rw [← e1]; exact hx)
                have hg := (gr_ru (tb := tb) (n := n) (k := k) _).2 t1 c1 t' c' e1 hx
                have hk9 : k = 9 + (k - 9) := by omega
                have l1 : lenR (nx tb n (.ok (t, c1))) = c1.length := by rw [e1]; rfl
                have l2 : lenR (ruF tb n k (nx tb n (.ok (t, c1)))) = c'.length := by rw [hx]; rfl
                refine ⟨?_, w2⟩
                show PlV (plU pl (k - 9) (lenR (nx tb n (.ok (t, c1)))) (lenR (ruF tb n k (nx tb n (.ok (t, c1)))))) c'
                rw [l1, l2, ed]
                rw [ed, List.length_append] at hg
                refine hI.ru (by omega) ?_ (fun s hs => by rw [← hk9]; exact od s hs)
                rw [show decide (k - 9 = 2 ∨ k - 9 = 3) = decide (k = 11 ∨ k = 12) from decide_eq_decide.mpr ⟨fun z => by omega, fun z => by omega⟩]
                exact sd
  · rw [if_neg hbk] at hx; cases hx
theorem endF_ok {tb : Nat → Nat} {n m : Nat} {r : Er} {t' : Tk} {c' : Cd} (hb : ∀ i, i < n → tb i < 256) (hr : TkR n r) (h : endF tb n m r = .ok (t', c')) : (∃ t, r = .ok (t, c') ∧ TkW n t) ∧ TkW n t' := by
  rcases r with e | ⟨t, c⟩
  · cases h
  · unfold endF at h
    simp only at h
    split at h
    · cases h
    · exact tkS_o hb hr h
theorem prsF_I {tb : Nat → Nat} {n : Nat} (hb : ∀ i, i < n → tb i < 256) : ∀ (f m : Nat) (r : Er) (pl : Pl), TkR n r → (∀ t c, r = .ok (t, c) → PlV pl c) → ∀ m' t' c' pl', prsF tb n f m r pl = (m', .ok (t', c'), pl') → PlV pl' c' ∧ m' ≤ m + f := by
  intro f
  induction f with
  | zero =>
    intro m r pl hr hI m' t' c' pl' h
    cases h
    exact ⟨hI t' c' rfl, by omega⟩
  | succ f ih =>
    intro m r pl hr hI m' t' c' pl' h
    rcases r with e | ⟨t, c⟩
    · cases h
    · simp only [prsF] at h
      split at h
      · cases h; exact ⟨hI t' c' rfl, by omega⟩
      · rw [stm_eq] at h
        simp only at h
        have hst : TkR n (stB tb n pl t c).1 := by
          rcases hx : (stB tb n pl t c).1 with e | ⟨t1, c1⟩
          · trivial
          · exact (st_I hb hr (hI t c rfl) hx).2
        have hen : TkR n (endF tb n (m + 1) (stB tb n pl t c).1) := by
          rcases hx : endF tb n (m + 1) (stB tb n pl t c).1 with e | ⟨t1, c1⟩
          · trivial
          · exact (endF_ok hb hst hx).2
        obtain ⟨a1, a2⟩ := ih (m + 1) _ _ hen (fun t1 c1 e1 => by
          obtain ⟨⟨t2, e2, w2⟩, _⟩ := endF_ok hb hst e1
          exact (st_I hb hr (hI t c rfl) e2).1) m' t' c' pl' h
        exact ⟨a1, by omega⟩
theorem pl0_I : PlV pl0 [] := ⟨fun q _ => ⟨Nat.zero_le _, fun j hj => absurd hj (Nat.not_lt_zero _)⟩, Nat.zero_le _, Nat.zero_le _, fun i _ => Or.inl ⟨rfl, rfl⟩⟩
theorem prs_I {tb : Nat → Nat} {n : Nat} (hb : ∀ i, i < n → tb i < 256) {t : Tk} {c : Cd} (h : (prs tb n).2.1 = .ok (t, c)) : PlV (prs tb n).2.2 c ∧ (prs tb n).1 ≤ 80 := by
  have hW0 : TkR n (.ok (((1, 0, [], 0, 0) : Tk), ([] : Cd))) := (⟨Nat.le_refl 1, by decide, Nat.le_refl 0, Nat.zero_le n, fun q => absurd rfl q, fun q => absurd q (by decide), fun q => absurd q (by decide), fun q => absurd q (by decide)⟩ : TkW n ((1, 0, [], 0, 0) : Tk))
  have := prsF_I hb 80 0 (nx tb n (.ok ((1, 0, [], 0, 0), []))) pl0 ((ad_nx0 hb _).1.1 hW0) (fun t c e => by rw [nx_c e]; exact pl0_I) (prs tb n).1 t c (prs tb n).2.2 (by show prs tb n = _; rw [← h])
  simpa using this
