/-! statements of the reference: the code grows; its bank's rows -/
def Gr (b : Nat) (r r' : Er) : Prop := (∀ e, r = .error e → r' = .error e) ∧ ∀ t c t' c', r = .ok (t, c) → r' = .ok (t', c') → c.length + b ≤ c'.length
def GG (b : Nat) (F : Er → Er) : Prop := ∀ r, Gr b r (F r)
theorem Gr.tr {b b2 : Nat} {r r1 r2 : Er} (h : Gr b r r1) (g : Gr b2 r1 r2) : Gr (b + b2) r r2 := by
  refine ⟨fun e q => g.1 e (h.1 e q), fun t c t' c' q1 q2 => ?_⟩
  rcases r1 with e | ⟨t1, c1⟩
  · rw [g.1 e rfl] at q2; cases q2
  · have a1 := h.2 t c t1 c1 q1 rfl
    have a2 := g.2 t1 c1 t' c' rfl q2
    omega
theorem Gr.le {b b2 : Nat} {r r1 : Er} (h : Gr b r r1) (hb : b2 ≤ b) : Gr b2 r r1 := ⟨h.1, fun t c t' c' q1 q2 => by have := h.2 t c t' c' q1 q2; omega⟩
theorem gr_rf (r : Er) : Gr 0 r r := ⟨fun _ q => q, fun t c t' c' q1 q2 => by rw [q1] at q2; cases q2; exact Nat.le_refl _⟩
theorem gr_adS (s : Nat × Nat) (r : Er) : Gr 1 r (adS s r) := by
  rcases r with e | ⟨t, c⟩
  · exact ⟨fun _ q => q, fun _ _ _ _ q => by cases q⟩
  · exact ⟨fun _ q => (by cases q), fun t1 c1 t' c' q1 q2 => by cases q1; cases q2; rw [List.length_append]; exact Nat.le_refl _⟩
theorem gr_stp {b k : Nat} (r : Er) : Gr b r (stp k r) := by
  rcases r with e | ⟨t, c⟩
  · exact ⟨fun _ q => q, fun _ _ _ _ q => by cases q⟩
  · exact ⟨fun _ q => (by cases q), fun t1 c1 t' c' q1 q2 => by cases q2⟩
theorem gr_nx {tb : Nat → Nat} {n : Nat} (r : Er) : Gr 0 r (nx tb n r) := by
  rcases r with e | ⟨t, c⟩
  · exact ⟨fun _ q => q, fun _ _ _ _ q => by cases q⟩
  · exact ⟨fun _ q => (by cases q), fun t1 c1 t' c' q1 q2 => by cases q1; rw [nx_c q2]; exact Nat.le_refl _⟩
theorem gr_tkS {tb : Nat → Nat} {n : Nat} (c : Nat) (r : Er) : Gr 0 r (tkS tb n c r) := by
  unfold tkS; split
  · exact gr_nx r
  · exact gr_stp r
theorem gr_lp {tb : Nat → Nat} {n : Nat} {cond : Er → Bool} {opk : Er → Nat} {pt : Er → Er} (hg : GG 0 pt) : ∀ f, GG 0 (lpL tb n cond opk pt f)
  | 0, r => gr_rf r
  | f + 1, r => by
    simp only [lpL]
    split
    · exact ((((gr_nx r).tr (hg _)).tr (gr_adS _ _)).tr (gr_lp hg f _)).le (Nat.zero_le _)
    · exact gr_rf r
theorem gr_part {tb : Nat → Nat} {n sc o : Nat} {sm te : Er → Er} (hs : o < 7 → GG 1 sm) (ht : o < 7 → GG 1 te) : GG 1 (partF tb n sc o sm te) := by
  intro r
  unfold partF
  split
  · exact ((gr_adS _ _).tr (gr_nx _)).le (by omega)
  · split
    · exact ((gr_adS _ _).tr (gr_nx _)).le (by omega)
    · split
      · unfold lesF
        split
        · split
          · exact ((gr_nx r).tr (gr_stp (b := 1) _)).le (by omega)
          · have hs := hs (by omega)
            exact (((((((gr_nx r).tr (gr_nx _)).tr (hs _)).tr (gr_tkS 44 _)).tr (hs _)).tr (gr_tkS 41 _)).tr (gr_adS _ _)).le (by omega)
        · exact ((gr_nx r).tr (gr_stp (b := 1) _)).le (by omega)
      · split
        · unfold choF
          split
          · split
            · exact ((gr_nx r).tr (gr_stp (b := 1) _)).le (by omega)
            · have hs := hs (by omega)
              have ht := ht (by omega)
              exact (((((((((gr_nx r).tr (gr_nx _)).tr (ht _)).tr (gr_tkS 44 _)).tr (hs _)).tr (gr_tkS 44 _)).tr (hs _)).tr (gr_tkS 41 _)).tr (gr_adS _ _)).le (by omega)
          · exact ((gr_nx r).tr (gr_stp (b := 1) _)).le (by omega)
        · split
          · split
            · exact gr_stp r
            · exact (((gr_nx r).tr (hs (by omega) _)).tr (gr_tkS 41 _)).le (by omega)
          · exact gr_stp r
theorem gr_mk {tb : Nat → Nat} {n sc o : Nat} {q : (Er → Er) × (Er → Er) × (Er → Er)} (hq : o < 7 → GG 1 q.1 ∧ GG 1 q.2.1 ∧ GG 1 q.2.2) : GG 1 (mkL tb n sc o q).1 ∧ GG 1 (mkL tb n sc o q).2.1 ∧ GG 1 (mkL tb n sc o q).2.2 := by
  have z : ∀ {F : Er → Er}, GG 1 F → GG 0 F := fun h r => (h r).le (by omega)
  have hp : GG 1 (partF tb n sc o q.1 q.2.1) := gr_part (fun h => (hq h).1) (fun h => (hq h).2.1)
  have hpr : GG 1 (prodF tb n (partF tb n sc o q.1 q.2.1)) := fun r => by unfold prodF; rw [prodL_lp]; exact (hp r).tr (gr_lp (z hp) n _)
  have hs : GG 1 (mkL tb n sc o q).1 := fun r => by
    show Gr 1 r (sumF tb n _ r)
    unfold sumF; rw [sumL_lp]; exact (hpr r).tr (gr_lp (z hpr) n _)
  have hc : GG 1 (compF tb n (mkL tb n sc o q).1) := fun r => by
    unfold compF
    split
    · exact ((((hs r).tr (gr_nx _)).tr (hs _)).tr (gr_adS _ _)).le (by omega)
    · exact ((hs r).tr (gr_stp (b := 0) _)).le (by omega)
  have hf : GG 1 (mkL tb n sc o q).2.2 := fun r => by
    show Gr 1 r (factF tb n o q.2.2 q.2.1 (compF tb n (mkL tb n sc o q).1) r)
    unfold factF
    split
    · split
      · exact gr_stp r
      · exact (((gr_nx r).tr ((hq (by omega)).2.2 _)).tr (gr_adS _ _)).le (by omega)
    · split
      · split
        · exact gr_stp r
        · exact (((gr_nx r).tr ((hq (by omega)).2.1 _)).tr (gr_tkS 93 _)).le (by omega)
      · split
        · exact ((gr_adS _ _).tr (gr_nx _)).le (by omega)
        · exact hc r
  have hb : GG 1 (bothF tb n (mkL tb n sc o q).2.2) := fun r => by unfold bothF; rw [wordL_lp]; exact (hf r).tr (gr_lp (z hf) n _)
  exact ⟨hs, fun r => by
    show Gr 1 r (testF tb n (bothF tb n (mkL tb n sc o q).2.2) r)
    unfold testF; rw [wordL_lp]; exact (hb r).tr (gr_lp (z hb) n _), hf⟩
theorem gr_lvl {tb : Nat → Nat} {n sc : Nat} : ∀ m, GG 1 (lvl tb n sc m).1 ∧ GG 1 (lvl tb n sc m).2.1 ∧ GG 1 (lvl tb n sc m).2.2
  | 0 => gr_mk (fun h => absurd h (by decide))
  | m + 1 => gr_mk (fun _ => gr_lvl m)
theorem gr_ru {tb : Nat → Nat} {n k : Nat} : GG 1 (ruF tb n k) := fun r => by
  unfold ruF; split
  · exact (gr_lvl 7).2.1 r
  · exact (gr_lvl 7).1 r
theorem ad_ru {tb : Nat → Nat} {n k : Nat} (hb : ∀ i, i < n → tb i < 256) : GF n 1 (ruF tb n k) := fun r => by
  unfold ruF; split
  · exact (g_lvl hb 7).2.1 r
  · exact (g_lvl hb 7).1 r
theorem ru_q {tb : Nat → Nat} {n w : Nat} {r : Er} : (if decide (w = 2 ∨ w = 3) = true then (lvl tb n (9 + w) 7).2.1 r else (lvl tb n (9 + w) 7).1 r) = ruF tb n (9 + w) r := by
  unfold ruF
  by_cases h : w = 2 ∨ w = 3
  · rw [if_pos (decide_eq_true h), if_pos (by omega)]
  · rw [if_neg (by rw [decide_eq_false h]; decide), if_neg (by omega)]
theorem RMt.c36 {tb : Nat → Nat} {n : Nat} {I I2 : aI} {L L2 : aL} {r : Er} (h : RMt tb n I L r) (e : I2 36 = I 36) (e2 : L2 36 = L 36) : RMt tb n I2 L2 r := by
  rcases r with q | ⟨t, c⟩
  · unfold RMt RMe at *; rw [e]; exact h
  · unfold RMt RMo TmE at *; rw [e, e2]; exact h
theorem MB.c {tb : Nat → Nat} {n : Nat} {I I2 : aI} (h : MB tb n I) (e : I2 36 2 = I 36 2) (e2 : I2 37 = I 37) : MB tb n I2 := ⟨fun i hi => by rw [e2]; exact h.1 i hi, by rw [e]; exact h.2.1, h.2.2⟩
/-- rows of the bank b alone, marks and frames have changed -/
def wdA (a : Nat) : Nat := if a = 39 ∨ a = 40 ∨ a = 49 ∨ a = 50 then 5 else if a = 42 ∨ a = 43 ∨ a = 45 ∨ a = 46 then 6 else if a = 51 ∨ a = 52 then 1600 else 1
def Ob (b : Nat) (I : aI) (L : aL) (I2 : aI) (L2 : aL) : Prop := (∀ a, a < 36 ∨ a = 37 ∨ 61 < a → I2 a = I a) ∧ (∀ j, j ∉ [3, 4, 5, 6, 8, 9, 12, 32, 34, 40, 41, 43, 44] → I2 36 j = I 36 j) ∧ (∀ a, 38 ≤ a → a ≤ 52 → ∀ j, j < wdA a * b ∨ wdA a * b + wdA a ≤ j → I2 a j = I a j) ∧ (∀ a, a < 36 ∨ (36 < a ∧ a < 53) ∨ 55 < a → L2 a = L a) ∧ (∀ j, j ≠ 7 → L2 36 j = L 36 j) ∧ ∀ q, q < 3 → ∀ j, j < wd q * b ∨ wd q * b + wd q ≤ j → L2 (53 + q) j = L (53 + q) j
theorem Ob.rf {b : Nat} {I : aI} {L : aL} : Ob b I L I L := ⟨fun _ _ => rfl, fun _ _ => rfl, fun _ _ _ _ _ => rfl, fun _ _ => rfl, fun _ _ => rfl, fun _ _ _ _ => rfl⟩
theorem Ob.tr {b : Nat} {I I1 I2 : aI} {L L1 L2 : aL} (h : Ob b I L I1 L1) (g : Ob b I1 L1 I2 L2) : Ob b I L I2 L2 := ⟨fun a ha => (g.1 a ha).trans (h.1 a ha), fun j hj => (g.2.1 j hj).trans (h.2.1 j hj), fun a h1 h2 j hj => (g.2.2.1 a h1 h2 j hj).trans (h.2.2.1 a h1 h2 j hj), fun a ha => (g.2.2.2.1 a ha).trans (h.2.2.2.1 a ha), fun j hj => (g.2.2.2.2.1 j hj).trans (h.2.2.2.2.1 j hj), fun q hq j hj => (g.2.2.2.2.2 q hq j hj).trans (h.2.2.2.2.2 q hq j hj)⟩
theorem RdF.ob {b : Nat} {I I2 : aI} {L L2 : aL} (h : RdF b I L I2 L2) : Ob b I L I2 L2 := by
  refine ⟨fun a ha => h.1 a (fun q => by simp at q; omega), fun j hj => h.2.1 j (fun q => hj (by simp at q ⊢; omega)), fun a h1 h2 j hj => ?_, fun a ha => h.2.2.2.1 a (fun q => by simp at q; omega), h.2.2.2.2, fun q hq j _ => by rw [h.2.2.2.1 (53 + q) (fun z => by simp at z; omega)]⟩
  by_cases e1 : a = 51
  · subst e1; exact (h.2.2.1 j hj).1
  · by_cases e2 : a = 52
    · subst e2; exact (h.2.2.1 j hj).2
    · rw [h.1 a (fun q => by simp at q; omega)]
theorem MkG.ob {b : Nat} {I I2 : aI} {L L2 : aL} (h : MkG I L I2 L2) : Ob b I L I2 L2 := (MkG.rd (b := b) h).ob
theorem ob_a {b a i : Nat} {I : aI} {L : aL} {v : Int32} (h1 : 38 ≤ a) (h2 : a ≤ 50) (hi : i < wdA a) : Ob b I L (va_up I a (upd (I a) (wdA a * b + i) v)) L := by
  refine ⟨fun x hx => va_up_n (by omega), fun j _ => by rw [va_up_n (by omega)], fun x y1 y2 j hj => ?_, fun _ _ => rfl, fun _ _ => rfl, fun _ _ _ _ => rfl⟩
  by_cases e : x = a
  · subst e; rw [va_up_s, upd_n (by omega)]
  · rw [va_up_n e]
theorem ob_l {b q i : Nat} {I : aI} {L : aL} {v : Int64} (hq : q < 3) (hi : i < wd q) : Ob b I L I (va_up L (53 + q) (vp_updL (L (53 + q)) (wd q * b + i) v)) := by
  refine ⟨fun _ _ => rfl, fun _ _ => rfl, fun _ _ _ _ _ => rfl, fun x hx => va_up_n (by omega), fun j _ => by rw [va_up_n (by omega)], fun p hp j hj => ?_⟩
  by_cases e : p = q
  · subst e
    rw [va_up_s]
    unfold vp_updL
    rw [if_neg (by omega)]
  · rw [va_up_n (by omega)]
def PlM (I : aI) (L : aL) (b : Nat) (pl : Pl) (m : Nat) : Prop := NmP I L b pl ∧ (∀ q, q < 3 → ∀ j, j < pl.1 q → I (39 + 3 * q) (wd q * b + j) = nI (pl.2.2.1 q j) ∧ I (40 + 3 * q) (wd q * b + j) = nI (pl.2.2.2.1 q j)) ∧ I 47 b = nI pl.2.2.2.2.1 ∧ I 48 b = nI pl.2.2.2.2.2.1 ∧ ∀ i, i < 5 → (pl.2.2.2.2.2.2.1 i = pl.2.2.2.2.2.2.2 i ∧ I 49 (5 * b + i) = -1) ∨ (pl.2.2.2.2.2.2.1 i < pl.2.2.2.2.2.2.2 i ∧ pl.2.2.2.2.2.2.2 i ≤ m ∧ I 49 (5 * b + i) = nI (pl.2.2.2.2.2.2.1 i) ∧ I 50 (5 * b + i) = nI (pl.2.2.2.2.2.2.2 i))
theorem PlM.up {I : aI} {L : aL} {b m m2 : Nat} {pl : Pl} (h : PlM I L b pl m) (hm : m ≤ m2) : PlM I L b pl m2 := ⟨h.1, h.2.1, h.2.2.1, h.2.2.2.1, fun i hi => by
  rcases h.2.2.2.2 i hi with q | q
  · exact Or.inl q
  · exact Or.inr ⟨q.1, by omega, q.2.2⟩⟩
theorem NmP.c {I I2 : aI} {L L2 : aL} {b : Nat} {pl : Pl} (h : NmP I L b pl) (h1 : I2 38 = I 38) (h2 : I2 41 = I 41) (h3 : I2 44 = I 44) (hL : ∀ q, q < 3 → L2 (53 + q) = L (53 + q)) : NmP I2 L2 b pl := fun q hq => by
  rw [h1, h2, h3, hL q hq]; exact h q hq
theorem PlM.c {I I2 : aI} {L L2 : aL} {b m : Nat} {pl : Pl} (h : PlM I L b pl m) (hI : ∀ a, 38 ≤ a → a ≤ 50 → I2 a = I a) (hL : ∀ q, q < 3 → L2 (53 + q) = L (53 + q)) : PlM I2 L2 b pl m := by
  refine ⟨h.1.c (hI 38 (by decide) (by decide)) (hI 41 (by decide) (by decide)) (hI 44 (by decide) (by decide)) hL, fun q hq j hj => ?_, ?_, ?_, fun i hi => ?_⟩
  · rw [hI (39 + 3 * q) (by omega) (by omega), hI (40 + 3 * q) (by omega) (by omega)]; exact h.2.1 q hq j hj
  · rw [hI 47 (by decide) (by decide)]; exact h.2.2.1
  · rw [hI 48 (by decide) (by decide)]; exact h.2.2.2.1
  · rw [hI 49 (by decide) (by decide), hI 50 (by decide) (by decide)]; exact h.2.2.2.2 i hi
theorem PlM.g {I I2 : aI} {L L2 : aL} {b m : Nat} {pl : Pl} (h : PlM I L b pl m) (g : MkG I L I2 L2) : PlM I2 L2 b pl m := h.c (fun a _ _ => g.1 a (by simp; omega)) (fun q _ => g.2.2.1 (53 + q) (by simp; omega))
theorem PlM.r {I I2 : aI} {L L2 : aL} {b m : Nat} {pl : Pl} (h : PlM I L b pl m) (g : RdF b I L I2 L2) : PlM I2 L2 b pl m := h.c (fun a _ _ => g.1 a (by simp; omega)) (fun q _ => g.2.2.2.1 (53 + q) (by simp; omega))
/-- a thing more -/
theorem PlM.add {I I2 : aI} {L L2 : aL} {b m q k x y : Nat} {pl : Pl} {l : List Nat} (h : PlM I L b pl m) (hb : b < 2) (hq : q < 3) (hk : pl.1 q = k) (hk2 : k < wd q) (hl : okN l) (hI : ∀ a, 38 ≤ a → a ≤ 50 → a ≠ 38 + 3 * q → a ≠ 39 + 3 * q → a ≠ 40 + 3 * q → I2 a = I a) (h38 : I2 (38 + 3 * q) = upd (I (38 + 3 * q)) b (nI (k + 1))) (h39 : I2 (39 + 3 * q) = upd (I (39 + 3 * q)) (wd q * b + k) (nI x)) (h40 : I2 (40 + 3 * q) = upd (I (40 + 3 * q)) (wd q * b + k) (nI y)) (hL : ∀ p, p < 3 → p ≠ q → L2 (53 + p) = L (53 + p)) (h53 : L2 (53 + q) = vp_updL (L (53 + q)) (wd q * b + k) (lN (n8 l))) : PlM I2 L2 b (plT pl q l x y) m := by
  subst hk
  have hc : ∀ (J : aI) p, p < 3 → (if p = 0 then J 38 b else if p = 1 then J 41 b else J 44 b) = J (38 + 3 * p) b := fun J p hp => by
    have : p = 0 ∨ p = 1 ∨ p = 2 := by omega
    rcases this with rfl | rfl | rfl <;> rfl
  refine ⟨fun p hp => ?_, fun p hp j hj => ?_, ?_, ?_, fun i hi => ?_⟩
  · obtain ⟨n1, n2, n3⟩ := h.1 p hp
    rw [hc I p hp] at n2
    rw [hc I2 p hp]
    by_cases e : p = q
    · subst e
      refine ⟨?_, ?_, fun j hj => ?_⟩
      · show (if p = p then pl.1 p + 1 else pl.1 p) ≤ wd p; rw [if_pos rfl]; omega
      · rw [h38, upd_s]; show _ = nI (if p = p then pl.1 p + 1 else pl.1 p); rw [if_pos rfl]
      · have hj : j < (if p = p then pl.1 p + 1 else pl.1 p) := hj
        rw [if_pos rfl] at hj
        show okN (if p = p ∧ j = pl.1 p then l else pl.2.1 p j) ∧ L2 (53 + p) (wd p * b + j) = lN (n8 (if p = p ∧ j = pl.1 p then l else pl.2.1 p j))
        rw [h53]
        unfold vp_updL
        by_cases ej : j = pl.1 p
        · rw [if_pos ⟨rfl, ej⟩, ej, if_pos rfl]; exact ⟨hl, rfl⟩
        · rw [if_neg (fun z => ej z.2), if_neg (by omega)]; exact n3 j (by omega)
    · refine ⟨?_, ?_, fun j hj => ?_⟩
      · show (if p = q then pl.1 q + 1 else pl.1 p) ≤ wd p; rw [if_neg e]; exact n1
      · rw [hI (38 + 3 * p) (by omega) (by omega) (by omega) (by omega) (by omega), n2]; show _ = nI (if p = q then pl.1 q + 1 else pl.1 p); rw [if_neg e]
      · have hj : j < (if p = q then pl.1 q + 1 else pl.1 p) := hj
        rw [if_neg e] at hj
        show okN (if p = q ∧ j = pl.1 q then l else pl.2.1 p j) ∧ L2 (53 + p) (wd p * b + j) = lN (n8 (if p = q ∧ j = pl.1 q then l else pl.2.1 p j))
        rw [hL p hp e, if_neg (fun z => e z.1)]; exact n3 j hj
  · have hj : j < (if p = q then pl.1 q + 1 else pl.1 p) := hj
    show I2 (39 + 3 * p) (wd p * b + j) = nI (if p = q ∧ j = pl.1 q then x else pl.2.2.1 p j) ∧ I2 (40 + 3 * p) (wd p * b + j) = nI (if p = q ∧ j = pl.1 q then y else pl.2.2.2.1 p j)
    by_cases e : p = q
    · subst e
      rw [if_pos rfl] at hj
      rw [h39, h40]
      by_cases ej : j = pl.1 p
      · rw [if_pos ⟨rfl, ej⟩, if_pos ⟨rfl, ej⟩, ej, upd_s, upd_s]; exact ⟨rfl, rfl⟩
      · rw [if_neg (fun z => ej z.2), if_neg (fun z => ej z.2), upd_n (by omega), upd_n (by omega)]; exact h.2.1 p hp j (by omega)
    · rw [if_neg e] at hj
      rw [if_neg (fun z => e z.1), if_neg (fun z => e z.1), hI (39 + 3 * p) (by omega) (by omega) (by omega) (by omega) (by omega), hI (40 + 3 * p) (by omega) (by omega) (by omega) (by omega) (by omega)]
      exact h.2.1 p hp j hj
  · rw [hI 47 (by omega) (by omega) (by omega) (by omega) (by omega)]; exact h.2.2.1
  · rw [hI 48 (by omega) (by omega) (by omega) (by omega) (by omega)]; exact h.2.2.2.1
  · rw [hI 49 (by omega) (by omega) (by omega) (by omega) (by omega), hI 50 (by omega) (by omega) (by omega) (by omega) (by omega)]; exact h.2.2.2.2 i hi
/-- the reference reads a text: its memory since I0, L0 -/
def Ps (tb : Nat → Nat) (n b : Nat) (I0 : aI) (L0 : aL) (I : aI) (L : aL) (r : Er) (pl : Pl) : Prop := Ob b I0 L0 I L ∧ MB tb n I ∧ I 36 33 = nI b ∧ RMt tb n I L r ∧ ∀ t c, r = .ok (t, c) → PlM I L b pl c.length ∧ CdM I b c ∧ c.length ≤ t.2.2.2.1
theorem CdM.c {I I2 : aI} {b : Nat} {c : Cd} (h : CdM I b c) (e : I2 36 32 = I 36 32) (e1 : I2 51 = I 51) (e2 : I2 52 = I 52) : CdM I2 b c := ⟨by rw [e]; exact h.1, fun j s q => by rw [e1, e2]; exact h.2 j s q⟩
theorem CdM.g {I I2 : aI} {L L2 : aL} {b : Nat} {c : Cd} (h : CdM I b c) (g : MkG I L I2 L2) : CdM I2 b c := h.c (g.2.1 32 (by decide)) (g.1 51 (by decide)) (g.1 52 (by decide))
theorem Ps.g {tb : Nat → Nat} {n b : Nat} {I0 I I2 : aI} {L0 L L2 : aL} {r r2 : Er} {pl : Pl} (h : Ps tb n b I0 L0 I L r pl) (g : MkG I L I2 L2) (h2 : RMt tb n I2 L2 r2) (ha : Ad n 0 r r2) (hg : ∀ t c t2 c2, r = .ok (t, c) → r2 = .ok (t2, c2) → c2 = c) : Ps tb n b I0 L0 I2 L2 r2 pl := by
  refine ⟨h.1.tr g.ob, h.2.1.g g, by rw [g.2.1 33 (by decide)]; exact h.2.2.1, h2, fun t2 c2 e2 => ?_⟩
  rcases r with e | ⟨t, c⟩
  · rw [ha.2.1 e rfl] at e2; cases e2
  · obtain ⟨p1, p2, p3⟩ := h.2.2.2.2 t c rfl
    have := hg t c t2 c2 rfl e2
    subst this
    have := ha.2.2 t c2 t2 c2 rfl e2 (show RMo tb n I L t from h.2.2.2.1).2.2.1
    exact ⟨p1.g g, p2.g g, by omega⟩
def Sc (n : Nat) (r r2 : Er) : Prop := Ad n 0 r r2 ∧ ∀ t c t2 c2, r = .ok (t, c) → r2 = .ok (t2, c2) → c2 = c
theorem Sc.tr {n : Nat} {r r1 r2 : Er} (h : Sc n r r1) (g : Sc n r1 r2) : Sc n r r2 := by
  refine ⟨(h.1.tr g.1).le (by omega), fun t c t2 c2 q1 q2 => ?_⟩
  rcases r1 with e | ⟨t1, c1⟩
  · rw [g.1.2.1 e rfl] at q2; cases q2
  · exact (g.2 t1 c1 t2 c2 rfl q2).trans (h.2 t c t1 c1 q1 rfl)
theorem sc_nx {tb : Nat → Nat} {n : Nat} (hb : ∀ i, i < n → tb i < 256) (r : Er) : Sc n r (nx tb n r) := ⟨(ad_nx0 hb r).1, fun t c t2 c2 q1 q2 => by rw [q1] at q2; exact nx_c q2⟩
theorem sc_stp {n k : Nat} (r : Er) : Sc n r (stp k r) := ⟨ad_stp r, fun t c t2 c2 q1 q2 => by rw [q1] at q2; cases q2⟩
theorem sc_tkO {tb : Nat → Nat} {n k : Nat} (hb : ∀ i, i < n → tb i < 256) (r : Er) : Sc n r (tkO tb n k r) := by
  unfold tkO; split
  · exact sc_nx hb r
  · exact sc_stp r
theorem sc_tkS {tb : Nat → Nat} {n k : Nat} (hb : ∀ i, i < n → tb i < 256) (r : Er) : Sc n r (tkS tb n k r) := by
  unfold tkS; split
  · exact sc_nx hb r
  · exact sc_stp r
theorem sc_tkV {tb : Nat → Nat} {n lo hi : Nat} (hb : ∀ i, i < n → tb i < 256) (r : Er) : Sc n r (tkV tb n lo hi r) := by
  unfold tkV; split
  · split
    · exact sc_stp r
    · exact sc_nx hb r
  · exact sc_stp r
theorem sc_tkN {tb : Nat → Nat} {n : Nat} {pl : Pl} (hb : ∀ i, i < n → tb i < 256) (r : Er) : Sc n r (tkN tb n pl r) := by
  rcases r with e | ⟨t, c⟩
  · exact ⟨⟨fun _ => trivial, fun _ q => q, fun _ _ _ _ q => by cases q⟩, fun _ _ _ _ q => by cases q⟩
  · unfold tkN; simp only; split
    · split
      · exact sc_stp _
      · exact sc_nx hb _
    · exact sc_stp _
theorem sc_th {tb : Nat → Nat} {n q w hi : Nat} {pl : Pl} (hb : ∀ i, i < n → tb i < 256) (r : Er) : Sc n r (thR tb n q w hi pl r).2.2 := ((((sc_tkN hb r).tr (sc_tkO hb _)).tr (sc_tkV hb _)).tr (sc_tkO hb _)).tr (sc_tkV hb _)
theorem letR_ok {tb : Nat → Nat} {n : Nat} {I : aI} {L : aL} {pl : Pl} {r : Er} {s : Tk × Cd} (h : RMt tb n I L r) (hk : tkN tb n pl r = .ok s) : okN (letR r) := by
  obtain ⟨t, c, e, h2, _⟩ := tkN_ok hk
  subst e
  exact (show RMo tb n I L t from h).2.2.1.2.2.2.2.2.1 h2
