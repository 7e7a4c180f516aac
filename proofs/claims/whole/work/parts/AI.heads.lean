/-! heads: the class's search over the reference's rows -/
abbrev aHn : Type := Nat × Nat × List Nat
def heN (acc : aHn) (e : List Nat × Nat) : aHn := if acc.1 < e.1.length then (e.1.length, e.2, e.1) else if e.1.length = acc.1 ∧ e.2 < acc.2.1 then (e.1.length, e.2, e.1) else acc
def stN (k : Nat) (acc : aHn) (e : List Nat × Nat) : aHn := if acc.1 = 0 ∨ e.2 < acc.2.1 then (k, e.2, e.1) else acc
/-- a stain more: the zinc left, the strokes; none where it isn't safe -/
def kidN (fe : Nat → Nat → Option (Nat × Nat)) (dp : Nat → Int32) (q : List Nat) (st : Nat × Nat) (s : Nat) : Option (Nat × Nat) := if q.any (fun c => Nat.beq c s) = true then none else if dp s = 0 then none else (fe s st.1).map (fun e => (e.1, st.2 + e.2))
def ndL (fe : Nat → Nat → Option (Nat × Nat)) (dp : Nat → Int32) : Nat → List Nat → Nat × Nat → List (List Nat × Nat)
  | 0, q, st => [(q, st.2)]
  | m + 1, q, st => (q, st.2) :: (List.range 6).flatMap (fun s => match kidN fe dp q st s with
    | none => []
    | some st' => ndL fe dp m (q ++ [s]) st')
def flL (fe : Nat → Nat → Option (Nat × Nat)) (dp : Nat → Int32) : Nat → List Nat → Nat × Nat → List (List Nat × Nat)
  | 0, q, st => [(q, st.2)]
  | m + 1, q, st => (List.range 6).flatMap (fun s => match kidN fe dp q st s with
    | none => []
    | some st' => flL fe dp m (q ++ [s]) st')
theorem filter_flatMap' {α β : Type} (p : β → Bool) (f : α → List β) : ∀ l : List α, (l.flatMap f).filter p = l.flatMap (fun a => (f a).filter p)
  | [] => rfl
  | a :: l => by rw [List.flatMap_cons, List.flatMap_cons, List.filter_append, filter_flatMap' p f l]
theorem nd_len {fe : Nat → Nat → Option (Nat × Nat)} {dp : Nat → Int32} : ∀ m q st e, e ∈ ndL fe dp m q st → q.length ≤ e.1.length ∧ e.1.length ≤ q.length + m
  | 0, q, st, e, h => by simp only [ndL, List.mem_singleton] at h; subst h; exact ⟨Nat.le_refl _, Nat.le_refl _⟩
  | m + 1, q, st, e, h => by
    simp only [ndL, List.mem_cons, List.mem_flatMap] at h
    rcases h with h | ⟨s, _, h⟩
    · subst h; exact ⟨Nat.le_refl _, by show q.length ≤ _; omega⟩
    · split at h
      · cases h
      · have := nd_len m (q ++ [s]) _ e h
        rw [List.length_append, List.length_singleton] at this
        omega
theorem nd_fl {fe : Nat → Nat → Option (Nat × Nat)} {dp : Nat → Int32} : ∀ m k q st, k ≤ m → (ndL fe dp m q st).filter (fun e => decide (e.1.length = q.length + k)) = flL fe dp k q st
  | 0, k, q, st, h => by
    have : k = 0 := by omega
    subst this
    simp [ndL, flL]
  | m + 1, 0, q, st, h => by
    simp only [ndL, flL]
    rw [List.filter_cons, if_pos (by simp)]
    congr 1
    rw [filter_flatMap']
    refine List.eq_nil_iff_forall_not_mem.mpr (fun e he => ?_)
    obtain ⟨s, _, he⟩ := List.mem_flatMap.mp he
    obtain ⟨h1, h2⟩ := List.mem_filter.mp he
    split at h1
    · cases h1
    · have := (nd_len m (q ++ [s]) _ e h1).1
      rw [List.length_append, List.length_singleton] at this
      have := of_decide_eq_true h2
      omega
  | m + 1, k + 1, q, st, h => by
    simp only [ndL, flL]
    rw [List.filter_cons, if_neg (by simp), filter_flatMap']
    congr 1
    funext s
    cases kidN fe dp q st s with
    | none => rfl
    | some st' =>
      have := nd_fl (fe := fe) (dp := dp) m k (q ++ [s]) st' (by omega)
      rw [List.length_append, List.length_singleton] at this
      simp only
      rw [← this]
      congr 1
      funext e
      rw [show q.length + 1 + k = q.length + (k + 1) by omega]
theorem fold_he (X : List (List Nat × Nat)) : (∀ k, (X.foldl heN (0, 0, [])).1 < k → X.filter (fun e => decide (e.1.length = k)) = []) ∧ ((X.foldl heN (0, 0, [])).1 = 0 → X.foldl heN (0, 0, []) = (0, 0, [])) ∧ ((X.foldl heN (0, 0, [])).1 ≠ 0 → X.foldl heN (0, 0, []) = (X.filter (fun e => decide (e.1.length = (X.foldl heN (0, 0, [])).1))).foldl (stN (X.foldl heN (0, 0, [])).1) (0, 0, [])) := by
  rw [← X.reverse_reverse]
  generalize X.reverse = Y
  induction Y with
  | nil => exact ⟨fun k _ => rfl, fun _ => rfl, fun h => absurd rfl h⟩
  | cons e Y ih =>
    rw [List.reverse_cons]
    generalize Y.reverse = Z at *
    obtain ⟨i1, i2, i3⟩ := ih
    rw [List.foldl_append, List.foldl_cons, List.foldl_nil]
    generalize hA : Z.foldl heN (0, 0, []) = A at *
    unfold heN
    have hf : ∀ k, (Z ++ [e]).filter (fun e => decide (e.1.length = k)) = Z.filter (fun e => decide (e.1.length = k)) ++ (if e.1.length = k then [e] else []) := fun k => by
      rw [List.filter_append]
      congr 1
      rw [List.filter_cons]
      by_cases h : e.1.length = k
      · rw [if_pos (decide_eq_true h), if_pos h]; rfl
      · rw [if_neg (by simp [h]), if_neg h]; rfl
    by_cases h1 : A.1 < e.1.length
    · rw [if_pos h1]
      refine ⟨fun k hk => ?_, fun h => absurd h (by show ¬ e.1.length = 0; omega), fun _ => ?_⟩
      · have hk : e.1.length < k := hk
        rw [hf, i1 k (by omega), if_neg (by omega)]; rfl
      · show (e.1.length, e.2, e.1) = ((Z ++ [e]).filter (fun e' => decide (e'.1.length = e.1.length))).foldl (stN e.1.length) (0, 0, [])
        rw [hf, i1 _ h1, if_pos rfl, List.nil_append, List.foldl_cons, List.foldl_nil]
        unfold stN
        rw [if_pos (Or.inl rfl)]
    · rw [if_neg h1]
      by_cases h2 : e.1.length = A.1 ∧ e.2 < A.2.1
      · rw [if_pos h2]
        have hne : A.1 ≠ 0 := fun z => by
          have := i2 z
          rw [this] at h2
          exact absurd h2.2 (Nat.not_lt_zero _)
        refine ⟨fun k hk => ?_, fun h => absurd h (by show ¬ e.1.length = 0; omega), fun _ => ?_⟩
        · have hk : e.1.length < k := hk
          rw [hf, i1 k (by omega), if_neg (by omega)]; rfl
        · show (e.1.length, e.2, e.1) = ((Z ++ [e]).filter (fun e' => decide (e'.1.length = e.1.length))).foldl (stN e.1.length) (0, 0, [])
          rw [hf, if_pos rfl, List.foldl_append, h2.1, ← i3 hne, List.foldl_cons, List.foldl_nil]
          unfold stN
          rw [if_pos (Or.inr h2.2)]
      · rw [if_neg h2]
        refine ⟨fun k hk => ?_, i2, fun hne => ?_⟩
        · rw [hf, i1 k hk, if_neg (by omega)]; rfl
        · rw [hf, List.foldl_append, ← i3 hne]
          by_cases h3 : e.1.length = A.1
          · rw [if_pos h3, List.foldl_cons, List.foldl_nil]
            unfold stN
            rw [if_neg (fun z => z.elim (fun w => hne w) (fun w => h2 ⟨h3, w⟩))]
          · rw [if_neg h3]; rfl
/-! the reference's fold over its rows -/
def hrN (fe : Nat → Nat → Option (Nat × Nat)) : List Nat → Nat × Nat → Option (Nat × Nat)
  | [], st => some st
  | s :: l, st => match fe s st.1 with
    | none => none
    | some e => hrN fe l (e.1, st.2 + e.2)
theorem hrN_a (fe : Nat → Nat → Option (Nat × Nat)) : ∀ (a b : List Nat) (st : Nat × Nat), hrN fe (a ++ b) st = (hrN fe a st).bind (hrN fe b)
  | [], _, _ => rfl
  | s :: a, b, st => by
    simp only [List.cons_append, hrN]
    cases fe s st.1 with
    | none => rfl
    | some e => exact hrN_a fe a b _
def stR (fe : Nat → Nat → Option (Nat × Nat)) (st0 : Nat × Nat) (l : List Nat) (k : Nat) (acc : aHn) (r : List Nat) : aHn :=
  match hrN fe (r.map (fun c => l.getD c 0)) st0 with
  | none => acc
  | some st => if acc.1 = 0 ∨ st.2 < acc.2.1 then (k, st.2, r.map (fun c => l.getD c 0)) else acc
theorem flat_lft {β : Type} (dp : Nat → Int32) (F : Nat → List β) : ∀ k, (List.range k).flatMap (fun s => if dp s = 0 then [] else F s) = (lft dp k).flatMap F
  | 0 => rfl
  | k + 1 => by
    rw [List.range_succ, List.flatMap_append, flat_lft dp F k]
    simp only [lft]
    split
    · rename_i h; simp [h]
    · rename_i h; rw [List.flatMap_append]; simp [h]
theorem flat_rng {β : Type} (F : Nat → List β) : ∀ l : List Nat, l.flatMap F = (List.range l.length).flatMap (fun b => F (l.getD b 0)) := fun l => by
  have : l = (List.range l.length).map (fun b => l.getD b 0) := by
    apply List.ext_getElem
    · simp
    · intro i h1 h2
      simp [List.getD_eq_getElem?_getD, List.getElem?_eq_getElem h1]
  conv => lhs; rw [this]
  rw [List.flatMap_map]
theorem ref_fold {fe : Nat → Nat → Option (Nat × Nat)} {dp : Nat → Int32} {ns : Nat} (hz : ∀ s, ns ≤ s → dp s = 0) (hns : ns ≤ 6) {st0 : Nat × Nat} {k : Nat} : ∀ (j : Nat) (p : List Nat) (acc : aHn), (∀ c ∈ p, c < (lft dp ns).length) → (enumF (lft dp ns).length j p).foldl (stR fe st0 (lft dp ns) k) acc = (match hrN fe (p.map (fun c => (lft dp ns).getD c 0)) st0 with
    | none => acc
    | some st => (flL fe dp j (p.map (fun c => (lft dp ns).getD c 0)) st).foldl (stN k) acc)
  | 0, p, acc, hp => by
    simp only [enumF, List.foldl_cons, List.foldl_nil, flL]
    unfold stR
    cases hrN fe (p.map (fun c => (lft dp ns).getD c 0)) st0 with
    | none => rfl
    | some st => rfl
  | j + 1, p, acc, hp => by
    simp only [enumF, flL]
    rw [List.foldl_flatMap]
    have h6 : lft dp 6 = lft dp ns := by
      have : ∀ d, lft dp (ns + d) = lft dp ns := by
        intro d
        induction d with
        | zero => rfl
        | succ d ih =>
          show (if dp (ns + d) = 0 then lft dp (ns + d) else _) = _
          rw [if_pos (hz _ (by omega)), ih]
      have := this (6 - ns)
      rwa [show ns + (6 - ns) = 6 by omega] at this
    have hstep : ∀ b, b < (lft dp ns).length → ∀ acc, (if p.any (fun c => Nat.beq c b) = true then [] else enumF (lft dp ns).length j (p ++ [b])).foldl (stR fe st0 (lft dp ns) k) acc = (match hrN fe (p.map (fun c => (lft dp ns).getD c 0)) st0 with
        | none => acc
        | some st => (match kidN fe dp (p.map (fun c => (lft dp ns).getD c 0)) st ((lft dp ns).getD b 0) with
          | none => []
          | some st' => flL fe dp j (p.map (fun c => (lft dp ns).getD c 0) ++ [(lft dp ns).getD b 0]) st').foldl (stN k) acc) := by
      intro b hb acc
      have hin : (p.map (fun c => (lft dp ns).getD c 0)).any (fun c => Nat.beq c ((lft dp ns).getD b 0)) = p.any (fun c => Nat.beq c b) := by
        rw [Bool.eq_iff_iff, List.any_eq_true, List.any_eq_true]
        constructor
        · rintro ⟨c, hc, e⟩
          obtain ⟨c0, hc0, rfl⟩ := List.mem_map.mp hc
          refine ⟨c0, hc0, ?_⟩
          have e := Nat.eq_of_beq_eq_true e
          by_cases h : c0 = b
          · subst h; exact Nat.beq_refl _
          · exact absurd e (lft_ne (hp c0 hc0) hb h)
        · rintro ⟨c, hc, e⟩
          have e := Nat.eq_of_beq_eq_true e
          subst e
          exact ⟨_, List.mem_map_of_mem hc, Nat.beq_refl _⟩
      have hd : ¬ dp ((lft dp ns).getD b 0) = 0 := by
        have : (lft dp ns).getD b 0 ∈ lft dp ns := by
          rw [List.getD_eq_getElem?_getD, List.getElem?_eq_getElem hb]
          exact List.getElem_mem hb
        exact ((lft_mem _ _ _).mp this).2
      by_cases hpb : p.any (fun c => Nat.beq c b) = true
      · rw [if_pos hpb, List.foldl_nil]
        cases hrN fe (p.map (fun c => (lft dp ns).getD c 0)) st0 with
        | none => rfl
        | some st =>
          simp only
          unfold kidN
          rw [hin, if_pos hpb]
          rfl
      · rw [if_neg hpb, ref_fold hz hns j (p ++ [b]) acc (fun c hc => by
          rcases List.mem_append.mp hc with q | q
          · exact hp c q
          · simp at q; rw [q]; exact hb), List.map_append, hrN_a]
        cases hrN fe (p.map (fun c => (lft dp ns).getD c 0)) st0 with
        | none => rfl
        | some st =>
          simp only [Option.bind, List.map_cons, List.map_nil, hrN]
          unfold kidN
          rw [hin, if_neg hpb, if_neg hd]
          cases fe ((lft dp ns).getD b 0) st.1 with
          | none => rfl
          | some e => rfl
    have hfold : ∀ (bs : List Nat) (acc : aHn) (f g : aHn → Nat → aHn), (∀ b ∈ bs, ∀ acc, f acc b = g acc b) → bs.foldl f acc = bs.foldl g acc := by
      intro bs
      induction bs with
      | nil => intros; rfl
      | cons b bs ih =>
        intro acc f g h
        rw [List.foldl_cons, List.foldl_cons, h b (by simp), ih _ f g (fun c hc => h c (by simp [hc]))]
    rw [hfold _ _ _ _ (fun b hb acc => hstep b (List.mem_range.mp hb) acc)]
    cases hrN fe (p.map (fun c => (lft dp ns).getD c 0)) st0 with
    | none =>
      simp only
      have : ∀ bs : List Nat, bs.foldl (fun (acc : aHn) (_ : Nat) => acc) acc = acc := by
        intro bs
        induction bs with
        | nil => rfl
        | cons b bs ih => exact ih
      exact this _
    | some st =>
      simp only
      have hG : (List.range 6).flatMap (fun s => match kidN fe dp (p.map (fun c => (lft dp ns).getD c 0)) st s with
          | none => []
          | some st' => flL fe dp j (p.map (fun c => (lft dp ns).getD c 0) ++ [s]) st') = (List.range (lft dp ns).length).flatMap (fun b => match kidN fe dp (p.map (fun c => (lft dp ns).getD c 0)) st ((lft dp ns).getD b 0) with
          | none => []
          | some st' => flL fe dp j (p.map (fun c => (lft dp ns).getD c 0) ++ [(lft dp ns).getD b 0]) st') := by
        rw [← flat_rng (fun s => match kidN fe dp (p.map (fun c => (lft dp ns).getD c 0)) st s with
          | none => []
          | some st' => flL fe dp j (p.map (fun c => (lft dp ns).getD c 0) ++ [s]) st') (lft dp ns), ← h6, ← flat_lft, h6]
        congr 1
        funext s
        by_cases hd : dp s = 0
        · rw [if_pos hd]
          unfold kidN
          rw [if_pos hd]
          split
          · rfl
          · rename_i h; split at h <;> cases h
        · rw [if_neg hd]
      rw [hG, List.foldl_flatMap]
theorem rub_0 (p : aP) (nm : Nat → Int32) : ∀ n t, t.1 = 0 → (rubF p nm n t).1 = 0
  | 0, t, h => h
  | n + 1, t, h => by
    simp only [rubF]
    split
    · exact h
    · refine rub_0 p nm n _ ?_
      show pos0 (t.1 - wearV _) = 0
      rw [h]
      generalize evV p (nmS nm 0 t.2.1 (t.2.2.1 + 1)) 1 1 = v
      unfold pos0
      have hw : ∃ k, k ≤ 9 ∧ wearV v = nI k := by
        unfold wearV
        by_cases hv : 0 < v
        · rw [if_pos hv]
          by_cases h9 : v < 9
          · rw [if_pos h9]
            have h1 := Int32.lt_iff_toInt_lt.mp hv
            have h2 := Int32.lt_iff_toInt_lt.mp h9
            rw [show (0 : Int32).toInt = 0 from rfl] at h1
            rw [show (9 : Int32).toInt = 9 from rfl] at h2
            refine ⟨v.toInt.toNat, by omega, Int32.toInt_inj.mp ?_⟩
            rw [nI_toInt (by omega)]; omega
          · rw [if_neg h9]; exact ⟨9, by omega, rfl⟩
        · rw [if_neg hv]; exact ⟨0, by omega, rfl⟩
      obtain ⟨k, hk, e⟩ := hw
      rw [e]
      have : ∀ k, k < 10 → ¬ (0 : Int32) < 0 - nI k := by decide +kernel
      rw [if_neg (this k (by omega))]
def feN (p : aP) (f5 f6 : Nat → Int32) (x : aX) (b : Nat) (s zz : Nat) : Option (Nat × Nat) := if (lkT p f5 f6 x b s (nI zz)).2.1 = 0 ∧ ¬ (lkT p f5 f6 x b s (nI zz)).1 = 0 then some ((lkT p f5 f6 x b s (nI zz)).1.toNatClampNeg, (lkT p f5 f6 x b s (nI zz)).2.2.1.toNatClampNeg) else none
theorem fe_ok {p : aP} {f5 f6 : Nat → Int32} {x : aX} {b s zz : Nat} (hx : ∀ j, le99 (x.2.2.2.2 j)) (hz : zz ≤ 99) : (feN p f5 f6 x b s zz = none ∧ lookV p f5 f6 x b s (nI zz) ≤ 0 ∧ ¬ ((lkT p f5 f6 x b s (nI zz)).2.1 = 0 ∧ ¬ (lkT p f5 f6 x b s (nI zz)).1 = 0)) ∨ ∃ z' n, feN p f5 f6 x b s zz = some (z', n) ∧ 1 ≤ z' ∧ z' ≤ 99 ∧ n ≤ 99 ∧ lookV p f5 f6 x b s (nI zz) = nI (n * 100 + z') ∧ ((lkT p f5 f6 x b s (nI zz)).2.1 = 0 ∧ ¬ (lkT p f5 f6 x b s (nI zz)).1 = 0) ∧ (lkT p f5 f6 x b s (nI zz)).1 = nI z' ∧ (lkT p f5 f6 x b s (nI zz)).2.2.1 = nI n := by
  obtain ⟨n, hn, en⟩ := lkT_cnt p f5 f6 x b s (nI zz)
  obtain ⟨z', hz', ez⟩ := (rub_99 p (nmL (f5 b) (f6 (6 + s)) x.2.1 x.1) 99 (nI zz, x.2.2.2.2 s, 0, 0) ⟨zz, hz, rfl⟩ (hx s)).1
  have ez : (lkT p f5 f6 x b s (nI zz)).1 = nI z' := ez
  have hz0 : (lkT p f5 f6 x b s (nI zz)).1 ≤ 0 ↔ z' = 0 := by
    rw [ez, show (0 : Int32) = nI 0 from rfl, ← Int32.not_lt, nI_ltI (by omega) (by omega)]; omega
  have hz1 : (lkT p f5 f6 x b s (nI zz)).1 = 0 ↔ z' = 0 := by
    rw [ez, show (0 : Int32) = nI 0 from rfl]; exact nI_iff (by omega) (by omega)
  have hq0 : nI zz ≤ 0 ↔ zz = 0 := by
    rw [show (0 : Int32) = nI 0 from rfl, ← Int32.not_lt, nI_ltI (by omega) (by omega)]; omega
  have hq1 : nI zz < 100 := by
    rw [show (100 : Int32) = nI 100 from rfl, nI_ltI (by omega) (by omega)]; omega
  unfold feN
  by_cases h0 : zz = 0
  · left
    have h1 : (lkT p f5 f6 x b s (nI zz)).1 = 0 := rub_0 p _ 99 _ (by show nI zz = 0; rw [h0]; rfl)
    rw [if_neg (fun q => q.2 h1)]
    refine ⟨rfl, ?_, fun q => q.2 h1⟩
    unfold lookV
    rw [if_pos (hq0.mpr h0)]; decide
  · have hlv : lookV p f5 f6 x b s (nI zz) = lkV (lkT p f5 f6 x b s (nI zz)) := by
      unfold lookV
      rw [if_neg (fun q => h0 (hq0.mp q)), if_pos hq1]
    rw [hlv]
    unfold lkV
    by_cases hd : (lkT p f5 f6 x b s (nI zz)).2.1 = 0
    · by_cases hzz : z' = 0
      · left
        rw [if_pos hd, if_pos (hz0.mpr hzz), if_neg (fun q => q.2 (hz1.mpr hzz))]
        exact ⟨rfl, by decide, fun q => q.2 (hz1.mpr hzz)⟩
      · right
        have hc : (lkT p f5 f6 x b s (nI zz)).2.1 = 0 ∧ ¬ (lkT p f5 f6 x b s (nI zz)).1 = 0 := ⟨hd, fun q => hzz (hz1.mp q)⟩
        rw [if_pos hc, if_pos hd, if_neg (fun q => hzz (hz0.mp q)), ez, en]
        refine ⟨z', n, by rw [nI_clamp (by omega), nI_clamp (by omega)], by omega, hz', hn, ?_, by rw [ez] at hc; exact hc, rfl, rfl⟩
        rw [show (100 : Int32) = nI 100 from rfl, pk_mul]; exact nI_add _ _
    · left
      rw [if_neg hd, if_neg (fun q => hd q.1)]
      exact ⟨rfl, by decide, fun q => hd q.1⟩
theorem hs_hr {p : aP} {f5 f6 : Nat → Int32} {x : aX} {b : Nat} (hx : ∀ j, le99 (x.2.2.2.2 j)) : ∀ (l : List Nat) (zz a : Nat), zz ≤ 99 → hsF p f5 f6 x b l (nI zz) a = (hrN (feN p f5 f6 x b) l (zz, a)).map (fun e => e.2)
  | [], _, _, _ => rfl
  | s :: l, zz, a, hz => by
    simp only [hsF, hrN]
    rcases fe_ok (p := p) (f5 := f5) (f6 := f6) (b := b) (s := s) hx hz with ⟨e1, _, e3⟩ | ⟨z', n, e1, _, e3, _, _, e6, e7, e8⟩
    · rw [e1, if_neg e3]; rfl
    · rw [e1, if_pos e6, e7, e8, nI_clamp (by omega)]
      exact hs_hr hx l z' (a + n) e3
def HR (g : aHe) (acc : aHn) : Prop := acc.1 ≤ 6 ∧ acc.2.1 ≤ 600 ∧ g.1 = nI acc.1 ∧ g.2.1 = nI acc.2.1 ∧ ∀ k, k < acc.1 → g.2.2.1 k = nI (acc.2.2.getD k 0)
theorem he_ok {g : aHe} {acc : aHn} {q : List Nat} {a : Nat} (h : HR g acc) (hq : q.length ≤ 6) (ha : a ≤ 600) (ht : ∀ k, k < q.length → g.2.2.2 k = nI (q.getD k 0)) : HR (heT q.length (nI a) g) (heN acc (q, a)) ∧ (heT q.length (nI a) g).2.2.2 = g.2.2.2 := by
  obtain ⟨h1, h2, h3, h4, h5⟩ := h
  unfold heT heN
  have new : HR (nI q.length, nI a, va_cpy g.2.2.2 g.2.2.1 0 0 6, g.2.2.2) (q.length, a, q) := ⟨hq, ha, rfl, rfl, fun k hk => by
    show va_cpy g.2.2.2 g.2.2.1 0 0 6 k = _
    unfold va_cpy
    have hk : k < q.length := hk
    rw [if_pos (by omega)]
    simp only [Nat.zero_add, Nat.sub_zero]
    exact ht k hk⟩
  have c1 : g.1 < nI q.length ↔ acc.1 < q.length := by rw [h3, nI_ltI (by omega) (by omega)]
  have c2 : nI q.length = g.1 ↔ q.length = acc.1 := by rw [h3]; exact nI_iff (by omega) (by omega)
  have c3 : g.2.1 ≤ nI a ↔ ¬ a < acc.2.1 := by rw [h4, ← Int32.not_lt, nI_ltI (by omega) (by omega)]
  by_cases k1 : acc.1 < q.length
  · rw [if_pos (c1.mpr k1), if_pos k1]; exact ⟨new, rfl⟩
  · rw [if_neg (fun z => k1 (c1.mp z)), if_neg k1]
    by_cases k2 : q.length = acc.1
    · rw [if_neg (fun z => z (c2.mpr k2))]
      by_cases k3 : a < acc.2.1
      · rw [if_neg (fun z => c3.mp z k3), if_pos ⟨k2, k3⟩]; exact ⟨new, rfl⟩
      · rw [if_pos (c3.mpr k3), if_neg (fun z => k3 z.2)]; exact ⟨⟨h1, h2, h3, h4, h5⟩, rfl⟩
    · rw [if_pos (fun z => k2 (c2.mp z)), if_neg (fun z => k2 z.1)]; exact ⟨⟨h1, h2, h3, h4, h5⟩, rfl⟩
theorem go_ok {p : aP} {f5 f6 : Nat → Int32} {x : aX} {b : Nat} (hx : ∀ j, le99 (x.2.2.2.2 j)) : ∀ (m : Nat) (q : List Nat) (T zz a : Nat) (g : aHe) (acc : aHn), q.length + m = 6 → zz ≤ 99 → a ≤ 99 * q.length → Bs q T → HR g acc → (∀ k, k < q.length → g.2.2.2 k = nI (q.getD k 0)) → HR (goF (lookV p f5 f6 x b) x.2.2.2.2 (m + 1) q.length (nI T) (nI zz) (nI a) g) ((ndL (feN p f5 f6 x b) x.2.2.2.2 m q (zz, a)).foldl heN acc) ∧ ∀ k, k < q.length → (goF (lookV p f5 f6 x b) x.2.2.2.2 (m + 1) q.length (nI T) (nI zz) (nI a) g).2.2.2 k = g.2.2.2 k := by
  intro m
  induction m with
  | zero =>
    intro q T zz a g acc hm hz ha hB hH ht
    simp only [goF, ndL, List.foldl_cons, List.foldl_nil]
    rw [if_pos (by omega)]
    obtain ⟨r1, r2⟩ := he_ok (a := a) hH (by omega) (by omega) ht
    exact ⟨r1, fun k _ => by rw [r2]⟩
  | succ m ih =>
    intro q T zz a g acc hm hz ha hB hH ht
    rw [goF]
    simp only [ndL, List.foldl_cons]
    rw [if_neg (by omega), List.foldl_flatMap]
    obtain ⟨r1, r2⟩ := he_ok (a := a) hH (by omega) (by omega) ht
    have key : ∀ (ss : List Nat) (g : aHe) (acc : aHn), (∀ s ∈ ss, s < 6) → HR g acc → (∀ k, k < q.length → g.2.2.2 k = nI (q.getD k 0)) → HR (ss.foldl (fun g s => if ¬ nI T >>> (nI s &&& 31) &&& 1 = 0 then g else if x.2.2.2.2 s ≤ 0 then g else if lookV p f5 f6 x b s (nI zz) ≤ 0 then g else goF (lookV p f5 f6 x b) x.2.2.2.2 (m + 1) (q.length + 1) (nI T ||| 1 <<< (nI s &&& 31)) (lookV p f5 f6 x b s (nI zz) - lookV p f5 f6 x b s (nI zz) / 100 * 100) (nI a + lookV p f5 f6 x b s (nI zz) / 100) (g.1, g.2.1, g.2.2.1, upd g.2.2.2 q.length (nI s))) g) (ss.foldl (fun acc s => (match kidN (feN p f5 f6 x b) x.2.2.2.2 q (zz, a) s with
        | none => []
        | some st' => ndL (feN p f5 f6 x b) x.2.2.2.2 m (q ++ [s]) st').foldl heN acc) acc) ∧ ∀ k, k < q.length → (ss.foldl (fun g s => if ¬ nI T >>> (nI s &&& 31) &&& 1 = 0 then g else if x.2.2.2.2 s ≤ 0 then g else if lookV p f5 f6 x b s (nI zz) ≤ 0 then g else goF (lookV p f5 f6 x b) x.2.2.2.2 (m + 1) (q.length + 1) (nI T ||| 1 <<< (nI s &&& 31)) (lookV p f5 f6 x b s (nI zz) - lookV p f5 f6 x b s (nI zz) / 100 * 100) (nI a + lookV p f5 f6 x b s (nI zz) / 100) (g.1, g.2.1, g.2.2.1, upd g.2.2.2 q.length (nI s))) g).2.2.2 k = g.2.2.2 k := by
      intro ss
      induction ss with
      | nil => intro g acc _ hH ht; exact ⟨hH, fun _ _ => rfl⟩
      | cons s ss ihs =>
        intro g acc hss hH ht
        have hs : s < 6 := hss s (by simp)
        simp only [List.foldl_cons]
        have rest := fun g acc => ihs g acc (fun c hc => hss c (by simp [hc]))
        have hbit := bt_t T hB.1 s hs
        rw [hB.2 s hs] at hbit
        unfold kidN
        by_cases hin : q.any (fun c => Nat.beq c s) = true
        · rw [hin] at hbit
          rw [if_pos (of_decide_eq_true hbit), if_pos hin]
          exact rest g acc hH ht
        · rw [Bool.eq_false_iff.mpr hin] at hbit
          rw [if_neg (of_decide_eq_false hbit), if_neg hin]
          obtain ⟨dv, hdv, ed⟩ := hx s
          have hd0 : x.2.2.2.2 s ≤ 0 ↔ x.2.2.2.2 s = 0 := by
            rw [ed, show (0 : Int32) = nI 0 from rfl, ← Int32.not_lt, nI_ltI (by omega) (by omega), nI_iff (by omega) (by omega)]; omega
          by_cases hd : x.2.2.2.2 s = 0
          · rw [if_pos (hd0.mpr hd), if_pos hd]
            exact rest g acc hH ht
          · rw [if_neg (fun z => hd (hd0.mp z)), if_neg hd]
            rcases fe_ok (p := p) (f5 := f5) (f6 := f6) (b := b) (s := s) hx hz with ⟨e1, e2, _⟩ | ⟨z', n, e1, e2, e3, e4, e5, _⟩
            · rw [if_pos e2, e1]
              exact rest g acc hH ht
            · have hpos : ¬ lookV p f5 f6 x b s (nI zz) ≤ 0 := by
                rw [e5, show (0 : Int32) = nI 0 from rfl, ← Int32.not_lt, nI_ltI (by omega) (by omega)]; omega
              rw [if_neg hpos, e1]
              have ez : nI (n * 100 + z') - nI (n * 100 + z') / 100 * 100 = nI z' := by
                rw [show (100 : Int32) = nI 100 from rfl, pk_rem (by omega) (by decide) (by decide)]; congr 1; omega
              have en : nI (n * 100 + z') / 100 = nI n := by
                rw [show (100 : Int32) = nI 100 from rfl, pk_div (by omega) (by decide) (by decide)]; congr 1; omega
              have hql : (q ++ [s]).length = q.length + 1 := by rw [List.length_append]; rfl
              have hpre : ∀ k, k < q.length → (q ++ [s]).getD k 0 = q.getD k 0 := fun k hk => by simp [List.getD_eq_getElem?_getD, List.getElem?_append_left hk]
              have hgs : (q ++ [s]).getD q.length 0 = s := by simp [List.getD_eq_getElem?_getD]
              rw [e5, ez, en, (bt_o T hB.1 s hs).1, show nI a + nI n = nI (a + n) from nI_add _ _]
              simp only [Option.map]
              obtain ⟨i1, i2⟩ := ih (q ++ [s]) (T ||| 2 ^ s) z' (a + n) (g.1, g.2.1, g.2.2.1, upd g.2.2.2 q.length (nI s)) acc (by omega) e3 (by omega) (hB.push hs) hH (fun k hk => by
                show upd g.2.2.2 q.length (nI s) k = _
                by_cases e : k = q.length
                · rw [e, upd_s, hgs]
                · rw [upd_n e, ht k (by omega), hpre k (by omega)])
              rw [hql] at i1 i2
              have hTT : ∀ k, k < q.length → (goF (lookV p f5 f6 x b) x.2.2.2.2 (m + 1) (q.length + 1) (nI (T ||| 2 ^ s)) (nI z') (nI (a + n)) (g.1, g.2.1, g.2.2.1, upd g.2.2.2 q.length (nI s))).2.2.2 k = g.2.2.2 k := fun k hk => by rw [i2 k (by omega)]; exact upd_n (by omega)
              obtain ⟨j1, j2⟩ := rest _ _ i1 (fun k hk => by rw [hTT k hk]; exact ht k hk)
              exact ⟨j1, fun k hk => (j2 k hk).trans (hTT k hk)⟩
    obtain ⟨k1, k2⟩ := key (List.range 6) (heT q.length (nI a) g) (heN acc (q, a)) (fun s hs => List.mem_range.mp hs) r1 (fun k hk => by rw [r2]; exact ht k hk)
    exact ⟨k1, fun k hk => by rw [k2 k hk, r2]⟩
theorem hd_eq {p : aP} {f5 f6 : Nat → Int32} {nb ns : Nat} {x : aX} {b : Nat} {g : aHe} (hG : XG nb ns x) (hns : ns ≤ 6) : HR (hdG p f5 f6 x b g) (hdN p f5 f6 x b (lft x.2.2.2.2 ns) (lft x.2.2.2.2 ns).length) := by
  obtain ⟨zz, hz, ez⟩ := hG.1.1 b
  have hx := hG.1.2
  have hl6 := lft_len x.2.2.2.2 ns
  have main := (go_ok (p := p) (f5 := f5) (f6 := f6) (b := b) hx 6 [] 0 zz 0 (0, 0, g.2.2.1, g.2.2.2) (0, 0, []) rfl hz (Nat.zero_le _) Bs.nil ⟨Nat.zero_le _, Nat.zero_le _, rfl, rfl, fun k hk => absurd hk (Nat.not_lt_zero _)⟩ (fun k hk => absurd hk (Nat.not_lt_zero _))).1
  have hdg : hdG p f5 f6 x b g = goF (lookV p f5 f6 x b) x.2.2.2.2 (6 + 1) ([] : List Nat).length (nI 0) (nI zz) (nI 0) (0, 0, g.2.2.1, g.2.2.2) := by unfold hdG; rw [ez]; rfl
  rw [hdg]
  have hdl : ∀ k, hdL p f5 f6 x b (lft x.2.2.2.2 ns) k = (flL (feN p f5 f6 x b) x.2.2.2.2 k [] (zz, 0)).foldl (stN k) (0, 0, []) := fun k => by
    have h1 := ref_fold (fe := feN p f5 f6 x b) (dp := x.2.2.2.2) (ns := ns) (st0 := (zz, 0)) (k := k) hG.2.2.1 hns k [] (0, 0, []) (fun c hc => by cases hc)
    have h2 : ∀ acc r, stpH p f5 f6 x b (lft x.2.2.2.2 ns) k acc r = stR (feN p f5 f6 x b) (zz, 0) (lft x.2.2.2.2 ns) k acc r := fun acc r => by
      unfold stpH stR
      rw [ez, hs_hr hx _ zz 0 hz]
      cases hrN (feN p f5 f6 x b) (r.map (fun c => (lft x.2.2.2.2 ns).getD c 0)) (zz, 0) with
      | none => rfl
      | some e => rfl
    unfold hdL
    rw [show stpH p f5 f6 x b (lft x.2.2.2.2 ns) k = stR (feN p f5 f6 x b) (zz, 0) (lft x.2.2.2.2 ns) k from funext fun acc => funext fun r => h2 acc r]
    exact h1
  obtain ⟨c1, c2, c3⟩ := fold_he (ndL (feN p f5 f6 x b) x.2.2.2.2 6 [] (zz, 0))
  generalize hA : (ndL (feN p f5 f6 x b) x.2.2.2.2 6 [] (zz, 0)).foldl heN (0, 0, []) = A at *
  have hfl : ∀ k, k ≤ 6 → (ndL (feN p f5 f6 x b) x.2.2.2.2 6 [] (zz, 0)).filter (fun e => decide (e.1.length = k)) = flL (feN p f5 f6 x b) x.2.2.2.2 k [] (zz, 0) := fun k hk => by
    have := nd_fl (fe := feN p f5 f6 x b) (dp := x.2.2.2.2) 6 k [] (zz, 0) hk
    rw [← this]
    congr 1
    funext e
    rw [show ([] : List Nat).length + k = k by simp]
  have hA6 := main.1
  have hdA : A.1 ≠ 0 → hdL p f5 f6 x b (lft x.2.2.2.2 ns) A.1 = A := fun h => by rw [hdl, ← hfl A.1 hA6, ← c3 h]
  have hAo : A.1 ≤ (lft x.2.2.2.2 ns).length := Classical.byContradiction (fun z => by
    have hne : A.1 ≠ 0 := by omega
    have h1 := hdA hne
    unfold hdL at h1
    rw [enum_big _ (by omega) A.1 (by omega) (by omega)] at h1
    have : A.1 = 0 := by rw [← h1]; rfl
    exact hne this)
  have fin : ∀ m, A.1 ≤ m → m ≤ (lft x.2.2.2.2 ns).length → hdN p f5 f6 x b (lft x.2.2.2.2 ns) m = A := by
    intro m
    induction m with
    | zero => intro h1 _; rw [c2 (by omega)]; rfl
    | succ m ih =>
      intro h1 h2
      simp only [hdN]
      by_cases e : A.1 = m + 1
      · rw [← e, hdA (by omega), if_neg (by omega)]
      · have hz2 : hdL p f5 f6 x b (lft x.2.2.2.2 ns) (m + 1) = (0, 0, []) := by rw [hdl, ← hfl (m + 1) (by omega), c1 (m + 1) (by omega)]; rfl
        rw [hz2, if_pos rfl]
        exact ih (by omega) (by omega)
  rw [fin _ hAo (Nat.le_refl _)]
  exact main
theorem hd_v {g : aHe} {R : aHn} (h : HR g R) {v : Int32} (hv : 0 ≤ v) : hdV g v = hdA R v := by
  obtain ⟨h1, h2, h3, h4, h5⟩ := h
  unfold hdV hdA
  by_cases v0 : v = 0
  · rw [if_pos v0, if_pos v0]; exact h3
  · rw [if_neg v0, if_neg v0]
    by_cases v1 : v = 1
    · rw [if_pos v1, if_pos v1]; exact h4
    · rw [if_neg v1, if_neg v1, h3]
      by_cases hle : nI R.1 ≤ v - 2
      · rw [if_pos hle, if_pos hle]
      · rw [if_neg hle, if_neg hle]
        refine h5 _ ?_
        have a1 := Int32.not_le.mp hle
        have a2 := Int32.lt_iff_toInt_lt.mp a1
        rw [nI_toInt (by omega)] at a2
        show (v - 2).toInt.toNat < R.1
        have h6 : 1 ≤ R.1 := by
          refine Nat.pos_of_ne_zero (fun z => ?_)
          rw [z] at a2
          have b1 : ¬ v < 0 := Int32.not_lt.mpr hv
          have b2 : 0 ≤ v.toInt := Int32.le_iff_toInt_le.mp hv
          have b3 : v.toInt ≠ 0 := fun w => v0 (Int32.toInt_inj.mp w)
          have b4 : v.toInt ≠ 1 := fun w => v1 (Int32.toInt_inj.mp w)
          have b5 : (v - 2).toInt = v.toInt - 2 := by
            have := v.toInt_lt
            rw [Int32.toInt_sub, Int.bmod_def]
            have e : (2 : Int32).toInt = 2 := rfl
            rw [e]
            have : v.toInt < 2147483648 := this
            omega
          omega
        omega
