/-! THE ABSTRACT MEMORY: cells by numbers; a cell is an object of a class of 'acl' (kind 0 .. 10) or an array (kind 11 int, 12 byte, 13 boolean, 14 long); ints, longs and references stand in three maps (cell, place). -/
def isNest : Cond → Bool
  | .methodLinkNest _ _ _ _ => true
  | _ => false
def goodW2 (w : Cond) : Bool := goodWord w || isNest w
def GW : List Cond := lw_tbl.filter goodW2
/-- a word of GW holds at every later state -/
theorem GW_mv {w : Cond} (h : w ∈ GW) {args a' : Array Value} {s U : State} (hW : s.WarmedH U.vm) (hb : w.before args s = true) : w.before a' U = true := by
  have h2 := (List.mem_filter.mp h).2
  unfold goodW2 at h2
  rcases (Bool.or_eq_true _ _).mp h2 with q | q
  · exact word_at hW (good_of_word q) hb
  · cases w <;> first | (simp [isNest] at q; done) | exact va_Nw.use rfl (va_Nw.warmM hW (va_Nw.of rfl hb))
theorem GW_tbl {w : Cond} (h : w ∈ GW) : w ∈ lw_tbl := (List.mem_filter.mp h).1
theorem inX0 : ∀ w ∈ wsX00, w ∈ GW := by decide +kernel
theorem inX1 : ∀ w ∈ wsX10, w ∈ GW := by decide +kernel
theorem inX2 : ∀ w ∈ wsX20, w ∈ GW := by decide +kernel
theorem inX3 : ∀ w ∈ wsX30, w ∈ GW := by decide +kernel
theorem inX4 : ∀ w ∈ wsX40, w ∈ GW := by decide +kernel
theorem inX5 : ∀ w ∈ wsX50, w ∈ GW := by decide +kernel
theorem inX6 : ∀ w ∈ wsX60, w ∈ GW := by decide +kernel
theorem inX7 : ∀ w ∈ wsX70, w ∈ GW := by decide +kernel
theorem inX8 : ∀ w ∈ wsX80, w ∈ GW := by decide +kernel
theorem inX9 : ∀ w ∈ wsX90, w ∈ GW := by decide +kernel
theorem inX10 : ∀ w ∈ wsX100, w ∈ GW := by decide +kernel
abbrev acl : List vw_C := [(RX0, TX0, 3), (RX1, TX1, 8), (RX2, TX2, 1), (RX3, TX3, 7), (RX4, TX4, 11), (RX5, TX5, 11), (RX6, TX6, 9), (RX7, TX7, 7), (RX8, TX8, 6), (RX9, TX9, 17), (RX10, TX10, 69)]
def cN : Nat → Nat := fun c => [3, 8, 1, 7, 11, 11, 9, 7, 6, 17, 69].getD c 0
def cT : Nat → Nat → FieldType := fun c => [tyX0, tyX1, tyX2, tyX3, tyX4, tyX5, tyX6, tyX7, tyX8, tyX9, tyX10].getD c (fun _ => .int)
theorem acl_ok : ∀ (ci : Nat) (C : String) (T : u_T) (N : Nat), acl[ci]? = some (C, T, N) → cN ci = N ∧ (∀ k, k < N → parseFieldDescriptor (T k).2.2.1 = some (cT ci k)) ∧ (∀ a, a < N → ∀ b, b < N → a ≠ b → (T a).2.1 ≠ (T b).2.1) ∧ (∀ w ∈ u_ws C T N, w ∈ GW) ∧ ci < 11
  | 0, _, _, _, h => by cases h; exact ⟨rfl, tyX0_ok, nmX0, inX0, by decide⟩
  | 1, _, _, _, h => by cases h; exact ⟨rfl, tyX1_ok, nmX1, inX1, by decide⟩
  | 2, _, _, _, h => by cases h; exact ⟨rfl, tyX2_ok, nmX2, inX2, by decide⟩
  | 3, _, _, _, h => by cases h; exact ⟨rfl, tyX3_ok, nmX3, inX3, by decide⟩
  | 4, _, _, _, h => by cases h; exact ⟨rfl, tyX4_ok, nmX4, inX4, by decide⟩
  | 5, _, _, _, h => by cases h; exact ⟨rfl, tyX5_ok, nmX5, inX5, by decide⟩
  | 6, _, _, _, h => by cases h; exact ⟨rfl, tyX6_ok, nmX6, inX6, by decide⟩
  | 7, _, _, _, h => by cases h; exact ⟨rfl, tyX7_ok, nmX7, inX7, by decide⟩
  | 8, _, _, _, h => by cases h; exact ⟨rfl, tyX8_ok, nmX8, inX8, by decide⟩
  | 9, _, _, _, h => by cases h; exact ⟨rfl, tyX9_ok, nmX9, inX9, by decide⟩
  | 10, _, _, _, h => by cases h; exact ⟨rfl, tyX10_ok, nmX10, inX10, by decide⟩
  | n + 11, _, _, _, h => by simp at h
abbrev aSh : Type := List (Nat × Nat)
abbrev aI : Type := Nat → Nat → Int32
abbrev aL : Type := Nat → Nat → Int64
abbrev aR : Type := Nat → Nat → Option Nat
abbrev aS : Type := aSh × aI × aL × aR
abbrev aQ : Type := Option Value → aS → Prop
abbrev aG : Type := va_G × (Nat → ClassId)
def aV (ρ : List Nat) : Value → Value
  | .ref a => .ref (ρ.getD a 0)
  | v => v
def aFv (ρ : List Nat) (I : aI) (L : aL) (R : aR) (i k : Nat) : FieldType → Value
  | .long => .long (L i k)
  | .object _ => va_rf ((R i k).map fun b => ρ.getD b 0)
  | .array _ => va_rf ((R i k).map fun b => ρ.getD b 0)
  | _ => .int (I i k)
def aFs (ρ : List Nat) (I : aI) (L : aL) (R : aR) (i ci : Nat) : List Value := (List.range (cN ci)).map fun k => aFv ρ I L R i k (cT ci k)
def aCell (G : aG) (ρ : List Nat) (I : aI) (L : aL) (R : aR) (i : Nat) (kn : Nat × Nat) : va_E :=
  if kn.1 < 11 then .inr (kn.1, aFs ρ I L R i kn.1)
  else if kn.1 = 14 then .inl (G.2 3, kn.2, .inr (.inl (L i)))
  else .inl (G.2 (kn.1 - 11), kn.2, .inl (I i))
def aW (G : aG) (ρ : List Nat) (S : aS) : va_W := (List.range S.1.length).map fun i => (ρ.getD i 0, aCell G ρ S.2.1 S.2.2.1 S.2.2.2 i (S.1.getD i (0, 0)))
def atys (G : aG) : List (ClassId × FieldType) := [(G.2 0, .int), (G.2 1, .byte), (G.2 2, .boolean), (G.2 3, .long)]
def aRok (S : aS) : Prop := ∀ i k b, S.2.2.2 i k = some b → b < S.1.length
def aRep (G : aG) (A : Nat → Prop) (ρ : List Nat) (S : aS) (H : Heap) : Prop := ρ.length = S.1.length ∧ aRok S ∧ va_P G.1 acl (aW G ρ S) H ∧ va_D A (aW G ρ S)
theorem aW_get {G : aG} {ρ : List Nat} {S : aS} {i : Nat} {kn : Nat × Nat} (h : S.1[i]? = some kn) : (aW G ρ S)[i]? = some (ρ.getD i 0, aCell G ρ S.2.1 S.2.2.1 S.2.2.2 i kn) := by
  obtain ⟨hi, he⟩ := List.getElem?_eq_some_iff.mp h
  rw [aW, List.getElem?_map, List.getElem?_range hi]
  simp [List.getD_eq_getElem?_getD, h]
theorem aW_len {G : aG} {ρ : List Nat} {S : aS} : (aW G ρ S).length = S.1.length := by simp [aW]
theorem aFs_get {ρ : List Nat} {I : aI} {L : aL} {R : aR} {i ci k : Nat} (hk : k < cN ci) : (aFs ρ I L R i ci)[k]? = some (aFv ρ I L R i k (cT ci k)) := by
  rw [aFs, List.getElem?_map, List.getElem?_range hk]; rfl
theorem aFs_len {ρ : List Nat} {I : aI} {L : aL} {R : aR} {i ci : Nat} : (aFs ρ I L R i ci).length = cN ci := by simp [aFs]
theorem aCell_o {G : aG} {ρ : List Nat} {I : aI} {L : aL} {R : aR} {i ci z : Nat} (h : ci < 11) : aCell G ρ I L R i (ci, z) = .inr (ci, aFs ρ I L R i ci) := by simp [aCell, h]
/-- a world whose cell a alone is changed -/
theorem aW_set {G : aG} {ρ : List Nat} {sh : aSh} {I I' : aI} {L L' : aL} {R R' : aR} {a : Nat} {kn : Nat × Nat} {x : va_E} (h : sh[a]? = some kn) (hx : aCell G ρ I' L' R' a kn = x) (ho : ∀ i kn', i ≠ a → aCell G ρ I' L' R' i kn' = aCell G ρ I L R i kn') :
    (aW G ρ (sh, I, L, R)).set a (ρ.getD a 0, x) = aW G ρ (sh, I', L', R') := by
  apply List.ext_getElem?
  intro j
  by_cases hj : j < sh.length
  · have hg : sh[j]? = some sh[j] := List.getElem?_eq_getElem hj
    rw [aW_get (S := (sh, I', L', R')) hg, List.getElem?_set]
    by_cases e : a = j
    · subst e
      rw [if_pos rfl, if_pos (by rw [aW_len]; exact hj)]
      rw [hg] at h
      cases h
      rw [← hx]
    · rw [if_neg e, aW_get (S := (sh, I, L, R)) hg]
      show some (_, _) = some (_, _)
      rw [ho j _ (Ne.symm e)]
  · rw [List.getElem?_eq_none (by rw [List.length_set, aW_len]; exact Nat.not_lt.mp hj), List.getElem?_eq_none (by rw [aW_len]; exact Nat.not_lt.mp hj)]
/-- a world with one cell more -/
theorem aW_push {G : aG} {ρ : List Nat} {sh : aSh} {I I' : aI} {L L' : aL} {R R' : aR} {kn : Nat × Nat} {x : va_E} {q : Nat} (hρ : ρ.length = sh.length) (hx : aCell G (ρ ++ [q]) I' L' R' sh.length kn = x) (ho : ∀ i kn', i < sh.length → aCell G (ρ ++ [q]) I' L' R' i kn' = aCell G ρ I L R i kn') :
    aW G ρ (sh, I, L, R) ++ [(q, x)] = aW G (ρ ++ [q]) (sh ++ [kn], I', L', R') := by
  apply List.ext_getElem?
  intro j
  by_cases hj : j < sh.length
  · have hg : sh[j]? = some sh[j] := List.getElem?_eq_getElem hj
    have hg' : (sh ++ [kn])[j]? = some sh[j] := by rw [List.getElem?_append_left hj]; exact hg
    rw [List.getElem?_append_left (by rw [aW_len]; exact hj), aW_get (S := (sh, I, L, R)) hg, aW_get (S := (sh ++ [kn], I', L', R')) hg']
    show some (_, _) = some (_, _)
    rw [ho j _ hj]
    congr 2
    rw [List.getD_eq_getElem?_getD, List.getD_eq_getElem?_getD, List.getElem?_append_left (by rw [hρ]; exact hj)]
  · by_cases e : j = sh.length
    · subst e
      have hg' : (sh ++ [kn])[sh.length]? = some kn := by simp
      rw [aW_get (S := (sh ++ [kn], I', L', R')) hg', List.getElem?_append_right (by rw [aW_len]; exact Nat.le_refl _), aW_len]
      show ([(q, x)] : va_W)[sh.length - sh.length]? = some (_, _)
      rw [hx, Nat.sub_self, List.getD_eq_getElem?_getD, ← hρ]
      simp
    · rw [List.getElem?_eq_none (by rw [List.length_append, aW_len]; simp; omega), List.getElem?_eq_none (by rw [aW_len]; simp; omega)]
theorem aFv_I {ρ : List Nat} {I I' : aI} {L : aL} {R : aR} {i k : Nat} {t : FieldType} (h : I' i k = I i k) : aFv ρ I' L R i k t = aFv ρ I L R i k t := by
  cases t <;> simp [aFv, h]
/-- values of the locals: by their places; none is unknown -/
abbrev aLs : Type := List (Option Value)
def aAs (ρ : List Nat) (ls : aLs) : List (Nat × Value) := ls.zipIdx.filterMap fun q => q.1.map fun v => (q.2, aV ρ v)
theorem aAs_mem {ρ : List Nat} {ls : aLs} {i : Nat} {w : Value} : (i, w) ∈ aAs ρ ls ↔ ∃ v, ls[i]? = some (some v) ∧ aV ρ v = w := by
  unfold aAs
  rw [List.mem_filterMap]
  constructor
  · rintro ⟨⟨o, j⟩, hm, he⟩
    rw [List.mem_zipIdx_iff_getElem?] at hm
    cases o with
    | none => simp at he
    | some v =>
      simp at he
      obtain ⟨rfl, rfl⟩ := he
      exact ⟨v, hm, rfl⟩
  · rintro ⟨v, h1, rfl⟩
    exact ⟨(some v, i), by rw [List.mem_zipIdx_iff_getElem?]; exact h1, rfl⟩
theorem aV_cat (ρ : List Nat) (v : Value) : (aV ρ v).category = v.category := by cases v <;> rfl
def aNl (ls : aLs) : Nat → Bool
  | 0 => true
  | j + 1 => match ls[j]? with
    | some (some v) => decide (v.category = 1)
    | _ => true
def aHas (ρ : List Nat) (ls : aLs) (cs : Array Slot) (nL : Nat) : Prop := lv_has cs nL (aAs ρ ls)
theorem aHas.at {ρ : List Nat} {ls : aLs} {cs : Array Slot} {nL i : Nat} {v : Value} (h : aHas ρ ls cs nL) (hi : ls[i]? = some (some v)) : cs[i]? = some (.val (aV ρ v)) := h.2.2 (i, aV ρ v) (aAs_mem.mpr ⟨v, hi, rfl⟩)
theorem aNl_ne {ls : aLs} {i j : Nat} {v : Value} (h : aNl ls i = true) (hj : ls[j]? = some (some v)) (e : j + 1 = i) : ¬ v.category = 2 := by
  subst e
  simp only [aNl, hj] at h
  have := of_decide_eq_true h
  omega
theorem aHas_set1 {ρ : List Nat} {ls : aLs} {cs : Array Slot} {nL i : Nat} {v w : Value} (hl : aNl ls i = true) (hw : aV ρ v = w) (h : lv_has cs nL ((i, w) :: (aAs ρ ls).filter (fun q => !(q.1 == i) && !(q.1 + 1 == i && q.2.category == 2)))) : aHas ρ (ls.set i (some v)) cs nL := by
  refine ⟨h.1, h.2.1, fun q hq => ?_⟩
  obtain ⟨j, x⟩ := q
  obtain ⟨u, h1, rfl⟩ := aAs_mem.mp hq
  rw [List.getElem?_set] at h1
  by_cases e : i = j
  · subst e
    rw [if_pos rfl] at h1
    split at h1
    · cases h1
      rw [hw]
      exact h.2.2 _ List.mem_cons_self
    · cases h1
  · rw [if_neg e] at h1
    refine h.2.2 _ (List.mem_cons_of_mem _ (List.mem_filter.mpr ⟨aAs_mem.mpr ⟨u, h1, rfl⟩, ?_⟩))
    have e1 : (j == i) = false := by simpa using Ne.symm e
    show (!(j == i) && !(j + 1 == i && (aV ρ u).category == 2)) = true
    rw [e1, aV_cat]
    by_cases e2 : j + 1 = i
    · have := aNl_ne hl h1 e2
      simp [this]
    · simp [e2]
theorem aHas_set2 {ρ : List Nat} {ls : aLs} {cs : Array Slot} {nL i : Nat} {v w : Value} (hl : aNl ls i = true) (hw : aV ρ v = w) (h : lv_has cs nL ((i, w) :: (aAs ρ ls).filter (fun q => !(q.1 == i) && (!(q.1 == i + 1) && !(q.1 + 1 == i && q.2.category == 2))))) : aHas ρ ((ls.set i (some v)).set (i + 1) none) cs nL := by
  refine ⟨h.1, h.2.1, fun q hq => ?_⟩
  obtain ⟨j, x⟩ := q
  obtain ⟨u, h1, rfl⟩ := aAs_mem.mp hq
  rw [List.getElem?_set] at h1
  by_cases e9 : i + 1 = j
  · rw [if_pos e9] at h1
    split at h1 <;> cases h1
  rw [if_neg e9, List.getElem?_set] at h1
  by_cases e : i = j
  · subst e
    rw [if_pos rfl] at h1
    split at h1
    · cases h1
      rw [hw]
      exact h.2.2 _ List.mem_cons_self
    · cases h1
  · rw [if_neg e] at h1
    refine h.2.2 _ (List.mem_cons_of_mem _ (List.mem_filter.mpr ⟨aAs_mem.mpr ⟨u, h1, rfl⟩, ?_⟩))
    have e1 : (j == i) = false := by simpa using Ne.symm e
    have e3 : (j == i + 1) = false := by simpa using Ne.symm e9
    show (!(j == i) && (!(j == i + 1) && !(j + 1 == i && (aV ρ u).category == 2))) = true
    rw [e1, e3, aV_cat]
    by_cases e2 : j + 1 = i
    · have := aNl_ne hl h1 e2
      simp [this]
    · simp [e2]
/-- fewer locals known -/
def aLe : aLs → aLs → Prop
  | [], _ => True
  | none :: a, [] => aLe a []
  | none :: a, _ :: b => aLe a b
  | some v :: a, some w :: b => v = w ∧ aLe a b
  | some _ :: _, _ => False
theorem aLe_at : ∀ {a b : aLs} {i : Nat} {v : Value}, aLe a b → a[i]? = some (some v) → b[i]? = some (some v)
  | [], _, _, _, _, h => by simp at h
  | none :: a, [], 0, _, _, h => by simp at h
  | none :: a, [], i + 1, v, h, h1 => by
    have := aLe_at (i := i) (v := v) (show aLe a [] from h) (by simpa using h1)
    simp at this
  | none :: a, _ :: b, 0, _, _, h => by simp at h
  | none :: a, _ :: b, i + 1, v, h, h1 => by
    have := aLe_at (i := i) (v := v) (show aLe a b from h) (by simpa using h1)
    simpa using this
  | some v :: a, some w :: b, 0, x, h, h1 => by
    have h2 : v = w := h.1
    simp at h1 ⊢
    rw [← h2]; exact h1
  | some v :: a, some w :: b, i + 1, x, h, h1 => by
    have := aLe_at (i := i) (v := x) h.2 (by simpa using h1)
    simpa using this
theorem aHas.le {ρ : List Nat} {a b : aLs} {cs : Array Slot} {nL : Nat} (hab : aLe a b) (h : aHas ρ b cs nL) : aHas ρ a cs nL := by
  refine ⟨h.1, h.2.1, fun q hq => ?_⟩
  obtain ⟨j, x⟩ := q
  obtain ⟨u, h1, rfl⟩ := aAs_mem.mp hq
  exact h.at (aLe_at hab h1)
