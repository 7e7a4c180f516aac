def OW (k : Nat) : List Nat := ([[2, 15, 1, 18, 4], [18, 9, 2, 19], [26, 9, 14, 3], [19, 20, 1, 9, 14], [4, 5, 5, 16], [19, 20, 21, 6, 6], [8, 5, 1, 18, 5, 18], [19, 9, 14], [5, 1, 18], [15, 21, 20], [23, 5, 1, 18], [19, 1, 22, 5, 4], [19, 12, 9, 4, 5], [16, 9, 3, 11, 19], [23, 1, 20, 5, 18], [4, 18, 25], [23, 5, 5, 11], [18, 21, 2], [2, 15, 14, 5], [3, 1, 13, 5], [9, 6], [15, 18], [1, 14, 4], [14, 15, 20], [1, 12, 12], [13, 9, 14], [13, 1, 24]] : List (List Nat)).getD k []
theorem OW_ok (k : Nat) (hk : k < 27) : okN (OW k) := by
  have h : ∀ k, k < 27 → (1 ≤ (OW k).length ∧ (OW k).length ≤ 6 ∧ ∀ c ∈ OW k, 1 ≤ c ∧ c ≤ 26) := by decide +kernel
  exact h k hk
theorem OW_lv : ∀ k, k < 27 → lvT (6 * k + 6) = nI (n5 (OW k)) := by decide +kernel
theorem OW_own : ∀ k, k < 27 → ownW (OW k) = nI k := by decide +kernel
theorem dg_inj {B : Nat} (hB : 0 < B) : ∀ (z : Nat) (l m : List Nat), l.length ≤ z → (∀ c ∈ l, 1 ≤ c ∧ c < B) → (∀ c ∈ m, 1 ≤ c ∧ c < B) → dg B l = dg B m → l = m
  | z, l, m, hz, hl, hm, h => by
    rcases List.eq_nil_or_concat l with rfl | ⟨l', c, rfl⟩
    · rcases List.eq_nil_or_concat m with rfl | ⟨m', d, rfl⟩
      · rfl
      · rw [List.concat_eq_append] at h hm
        rw [dg_snoc] at h
        have := hm d (by simp)
        have h0 : dg B [] = 0 := rfl
        omega
    · rw [List.concat_eq_append] at h hl hz ⊢
      rw [dg_snoc] at h
      have hc := hl c (by simp)
      rcases List.eq_nil_or_concat m with rfl | ⟨m', d, rfl⟩
      · have h0 : dg B [] = 0 := rfl
        omega
      · rw [List.concat_eq_append] at h hm ⊢
        rw [dg_snoc] at h
        have hd := hm d (by simp)
        have e1 : c = d := by
          have := congrArg (· % B) h
          simp only [Nat.mul_add_mod_self_right, Nat.mod_eq_of_lt hc.2, Nat.mod_eq_of_lt hd.2] at this
          exact this
        have e2 : dg B l' = dg B m' := by
          rw [e1] at h
          exact Nat.eq_of_mul_eq_mul_right hB (by omega)
        match z, hz with
        | 0, hz => simp at hz
        | z + 1, hz =>
          have := dg_inj hB z l' m' (by simp at hz; omega) (fun c hc => hl c (by simp [hc])) (fun c hc => hm c (by simp [hc])) e2
          rw [this, e1]
theorem n8_inj {l m : List Nat} (hl : okN l) (hm : okN m) (h : n8 l = n8 m) : l = m := by
  have f : ∀ {l : List Nat}, okN l → ∀ c ∈ l.map (96 + ·), 1 ≤ c ∧ c < 256 := fun hl c hc => by
    obtain ⟨d, hd, rfl⟩ := List.mem_map.mp hc
    have := hl.2.2 d hd
    omega
  have := dg_inj (B := 256) (by decide) _ _ _ (Nat.le_refl _) (f hl) (f hm) h
  exact (List.map_inj_right (fun a b q => by have q : 96 + a = 96 + b := q; omega)).mp this
theorem n5_inj {l m : List Nat} (hl : okN l) (hm : okN m) (h : n5 l = n5 m) : l = m := by
  have e : ∀ u, u < 6 → l.getD u 0 = m.getD u 0 := fun u hu => by rw [← n5_get hl hu, ← n5_get hm hu, h]
  have gz : ∀ {l : List Nat}, okN l → ∀ u, (u < l.length → 1 ≤ l.getD u 0) ∧ (l.length ≤ u → l.getD u 0 = 0) := fun {l} hl u => by
    refine ⟨fun q => ?_, fun q => ?_⟩
    · rw [List.getD_eq_getElem?_getD, List.getElem?_eq_getElem q]; exact (hl.2.2 _ (List.getElem_mem q)).1
    · rw [List.getD_eq_getElem?_getD, List.getElem?_eq_none q]; rfl
  have hlen : l.length = m.length := by
    have h1 := hl.2.1
    have h2 := hm.2.1
    rcases Nat.lt_trichotomy l.length m.length with q | q | q
    · have a := (gz hm l.length).1 q
      have b := (gz hl l.length).2 (Nat.le_refl _)
      have := e l.length (by omega)
      omega
    · exact q
    · have a := (gz hl m.length).1 q
      have b := (gz hm m.length).2 (Nat.le_refl _)
      have := e m.length (by omega)
      omega
  refine List.ext_getElem hlen (fun u h1 h2 => ?_)
  have := e u (by have := hl.2.1; omega)
  rw [List.getD_eq_getElem?_getD, List.getD_eq_getElem?_getD, List.getElem?_eq_getElem h1, List.getElem?_eq_getElem h2] at this
  exact this
theorem foF_hit {v : Int32} {k : Nat} (hk : k < 100) : ∀ f i, i + f < 100 → foF v f i = nI k → lvT (6 * k + 6) = v
  | 0, i, _, h => absurd (show nI k < 0 by rw [← show (-1 : Int32) = nI k from h]; decide) (nI_pos (by omega))
  | f + 1, i, hf, h => by
    simp only [foF] at h
    split at h
    · rename_i q
      rw [(nI_eq (by omega) (by omega)).mp h] at q
      exact q
    · exact foF_hit hk f (i + 1) (by omega) h
theorem own_eq {l : List Nat} {k : Nat} (hl : okN l) (hk : k < 27) : ownW l = nI k ↔ l = OW k := by
  refine ⟨fun h => ?_, fun h => by rw [h]; exact OW_own k hk⟩
  have := foF_hit (by omega) 27 0 (by decide) h
  rw [OW_lv k hk] at this
  have h1 := n5_lt (OW_ok k hk)
  have h2 := n5_lt hl
  exact (n5_inj (OW_ok k hk) hl ((nI_eq (by omega) (by omega)).mp this)).symm
theorem n8_lt2 {l : List Nat} (h : okN l) : n8 l < 2 ^ 48 := by
  have := n8_lt h (Nat.le_refl l.length)
  rw [List.take_of_length_le (by rw [List.length_map]; exact Nat.le_refl _)] at this
  exact this
theorem lN_in {a b : Nat} (ha : a < 2 ^ 62) (hb : b < 2 ^ 62) : lN a = lN b ↔ a = b := by
  refine ⟨fun h => ?_, fun h => by rw [h]⟩
  have := congrArg Int64.toInt h
  rw [pk_lT (by omega), pk_lT (by omega)] at this
  exact Int.ofNat.inj this
theorem own_8 {l : List Nat} {k : Nat} (hl : okN l) (hk : k < 27) : lN (n8 l) = lN (n8 (OW k)) ↔ ownW l = nI k := by
  have h1 := n8_lt2 hl
  have h2 := n8_lt2 (OW_ok k hk)
  rw [own_eq hl hk, lN_in (by omega) (by omega)]
  exact ⟨n8_inj hl (OW_ok k hk), fun h => by rw [h]⟩
