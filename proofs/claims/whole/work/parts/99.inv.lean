/-! what holds of the automaton at every step -/
def opN : List Fr → Nat
  | [] => 0
  | f :: fs => opN fs + f.ω.length
def cdN : List Fr → Nat
  | [] => 0
  | f :: fs => cdN fs + cd14 f.ω
def prF (k : Nat) : Nat := if k = 3 ∨ k = 4 ∨ k = 6 then 1 else 0
def prN : List Fr → Nat
  | [] => 0
  | f :: fs => prN fs + prF f.k
def sOk (ω : List Nat) : Prop := ω.Pairwise (fun x y => rkC y < rkC x ∨ (x = 14 ∧ y = 14)) ∧ ∀ x ∈ ω, 2 ≤ x ∧ x ≤ 14
def fOk (f : Fr) : Prop := sOk f.ω ∧ (f.ph = 0 → ∀ x ∈ f.ω, rkC x ≠ 4) ∧ (tst f.k = true → f.bg = true → ∀ x ∈ f.ω, rkC x ≤ 3) ∧ f.ph ≤ 2 ∧ f.k ≤ 6 ∧ (prF f.k = 1 → 2 ≤ f.pr ∧ f.pr ≤ 15)
def FsK : List Fr → Prop
  | [] => True
  | f :: fs => fOk f ∧ (fs = [] → f.k < 2) ∧ (fs ≠ [] → 2 ≤ f.k) ∧ FsK fs ∧ ∀ g ∈ fs.head?, g.bg = false
def IvO (n : Nat) (b : Bool) (fs : List Fr) (o : Nat) (t : Tk) (c : Cd) : Prop := TkW n t ∧ c.length + opN fs + prN fs ≤ t.2.2.2.1 ∧ FsK fs ∧ (b = true → ∀ g ∈ fs.head?, g.bg = false) ∧ (fs ≠ [] → o + 1 = fs.length + cdN fs ∧ o ≤ 7)
def Iv (n : Nat) (C : Cf) : Prop := ∀ t c, C.2.2.2 = .ok (t, c) → IvO n C.1 C.2.1 C.2.2.1 t c
theorem iv_stp {n k : Nat} {b : Bool} {fs : List Fr} {o : Nat} {r : Er} : Iv n (b, fs, o, stp k r) := fun t c h => by
  obtain ⟨e, he⟩ := stp_r (k := k) r
  have h : stp k r = .ok (t, c) := h
  rw [he] at h; cases h
theorem iv_nx {tb : Nat → Nat} {n : Nat} (hb : ∀ i, i < n → tb i < 256) {b : Bool} {fs : List Fr} {o : Nat} {t : Tk} {c : Cd} (hW : TkW n t) (hk : t.1 ≠ 1) (hS : c.length + opN fs + prN fs ≤ t.2.2.2.1 + 1) (hF : FsK fs) (hbg : b = true → ∀ g ∈ fs.head?, g.bg = false) (ho : fs ≠ [] → o + 1 = fs.length + cdN fs ∧ o ≤ 7) : Iv n (b, fs, o, nx tb n (.ok (t, c))) := fun t' c' h => by
  have h : nx tb n (.ok (t, c)) = .ok (t', c') := h
  have a := ad_nx (tb := tb) hb (r := .ok (t, c)) (show decide (t.1 = 1) = false from decide_eq_false hk)
  have hW2 : TkW n t' := by have := a.1 hW; rw [h] at this; exact this
  have h2 := a.2.2 t c t' c' rfl h hW
  have hc : c' = c := by
    simp only [nx] at h
    cases ht : tokF tb n t.2.2.2.2 (decide (t.1 = 2 ∨ t.1 = 3)) with
    | error p => rw [ht] at h; cases h
    | ok t2 => rw [ht] at h; cases h; rfl
  exact ⟨hW2, by rw [hc]; show c.length + opN fs + prN fs ≤ _; omega, hF, hbg, ho⟩
theorem rk_14 : ∀ x, rkC x = 3 → x = 14 := fun x h => by
  unfold rkC at h
  by_cases e : x = 14
  · exact e
  · (repeat' split at h) <;> first | (exfalso; omega) | assumption
theorem sOk.drp {ω : List Nat} (m : Nat) (h : sOk ω) : sOk (dr m ω) ∧ ∀ x ∈ dr m ω, rkC x < m := by
  have hs : (dr m ω).Sublist ω := List.dropWhile_sublist _
  refine ⟨⟨h.1.sublist hs, fun x hx => h.2 x (hs.subset hx)⟩, ?_⟩
  have hp := h.1.sublist hs
  cases hd : dr m ω with
  | nil => intro x hx; cases hx
  | cons y l =>
    rw [hd] at hp
    have hy : rkC y < m := by
      have := List.head?_dropWhile_not (fun x => decide (m ≤ rkC x)) ω
      unfold dr at hd
      rw [hd] at this
      simp at this
      omega
    intro x hx
    rcases List.mem_cons.mp hx with e | e
    · rw [e]; exact hy
    · rcases (List.pairwise_cons.mp hp).1 x e with q | q
      · omega
      · rw [q.2]; rw [q.1] at hy; exact hy
theorem sOk.push {ω : List Nat} {x : Nat} (h : sOk ω) (hx : 2 ≤ x ∧ x ≤ 14) (hr : ∀ y ∈ ω, rkC y < rkC x ∨ (x = 14 ∧ y = 14)) : sOk (x :: ω) := ⟨List.pairwise_cons.mpr ⟨hr, h.1⟩, fun y hy => by
  rcases List.mem_cons.mp hy with e | e
  · rw [e]; exact hx
  · exact h.2 y e⟩
theorem tk_dr (m : Nat) (ω : List Nat) : tk m ω ++ dr m ω = ω := List.takeWhile_append_dropWhile
theorem tk_len (m : Nat) (ω : List Nat) : (tk m ω).length + (dr m ω).length = ω.length := by rw [← List.length_append, tk_dr]
theorem tk_cd (m : Nat) (ω : List Nat) : cd14 (tk m ω) + cd14 (dr m ω) = cd14 ω := by rw [← cd14_a, tk_dr]
theorem FsK.set {f f2 : Fr} {fs : List Fr} (h : FsK (f :: fs)) (h2 : fOk f2) (hk : (f2.k < 2 ↔ f.k < 2)) : FsK (f2 :: fs) := ⟨h2, fun e => hk.mpr (h.2.1 e), fun e => by have := h.2.2.1 e; omega, h.2.2.2⟩
theorem fOk.no {f : Fr} (h : fOk f) : fOk ⟨f.k, f.ph, false, f.pr, f.ω⟩ := ⟨h.1, h.2.1, fun _ q => (by cases q), h.2.2.2⟩
theorem isS_ok {k : Nat} {r : Er} (h : isS k r = true) : ∃ t c, r = .ok (t, c) ∧ t.1 ≠ 1 := by
  rcases r with e | ⟨t, c⟩
  · cases h
  · exact ⟨t, c, rfl, by have := (of_decide_eq_true h).1; omega⟩
theorem isW_o2 {k : Nat} {r : Er} (h : isW k r = true) : ∃ t c, r = .ok (t, c) ∧ t.1 ≠ 1 := by
  rcases r with e | ⟨t, c⟩
  · cases h
  · exact ⟨t, c, rfl, by have := (of_decide_eq_true h).1; omega⟩
theorem cd14_k (x : Nat) (l : List Nat) : cd14 (x :: l) = cd14 l + (if x = 14 then 1 else 0) := by
  unfold cd14
  rw [List.filter_cons]
  by_cases h : x = 14
  · subst h; rfl
  · rw [if_neg h, if_neg (by simp [h])]; rfl
theorem bg1 {f : Fr} {fs : List Fr} (h : f.bg = false) : ∀ g ∈ (f :: fs).head?, g.bg = false := fun g hg => by
  have : f = g := by simpa using hg
  rw [← this]; exact h
theorem iv_opn {tb : Nat → Nat} {n : Nat} (hb : ∀ i, i < n → tb i < 256) {k pr : Nat} {f : Fr} {fs : List Fr} {o : Nat} {r : Er} (hk : 2 ≤ k ∧ k ≤ 6) (hp : prF k = 1 → 2 ≤ pr ∧ pr ≤ 15) (hbg : f.bg = false) (h : ∀ t c, r = .ok (t, c) → TkW n t ∧ t.1 ≠ 1 ∧ c.length + opN (f :: fs) + prN (f :: fs) + prF k ≤ t.2.2.2.1 + 1 ∧ FsK (f :: fs) ∧ o + 1 = (f :: fs).length + cdN (f :: fs)) : Iv n (opnF tb n k pr (f :: fs) o r) := by
  unfold opnF
  split
  · exact iv_stp
  · rename_i h7
    rcases r with e | ⟨t, c⟩
    · intro t c q; cases q
    · obtain ⟨a1, a2, a3, a4, a5⟩ := h t c rfl
      refine iv_nx hb a1 a2 ?_ ?_ (fun q => by cases q) (fun _ => ⟨?_, by omega⟩)
      · show c.length + (opN (f :: fs) + 0) + (prN (f :: fs) + prF k) ≤ _; omega
      · refine ⟨⟨⟨List.Pairwise.nil, fun x hx => by cases hx⟩, fun _ x hx => (by cases hx), fun _ _ x hx => (by cases hx), Nat.zero_le _, hk.2, hp⟩, fun q => (by cases q), fun _ => hk.1, a4, fun g hg => ?_⟩
        have : f = g := by simpa using hg
        rw [← this]; exact hbg
      · show o + 1 + 1 = (f :: fs).length + 1 + (cdN (f :: fs) + 0); omega
theorem iv_op {tb : Nat → Nat} {n sc : Nat} (hb : ∀ i, i < n → tb i < 256) {f : Fr} {fs : List Fr} {o : Nat} {r : Er} (h : Iv n (false, f :: fs, o, r)) : Iv n (opF tb n sc f fs o r) := by
  rcases r with e | ⟨t, c⟩
  · obtain ⟨b', fs', o', q⟩ := opF_e (tb := tb) (n := n) (sc := sc) f fs o e
    rw [q]; intro t c z; cases z
  · obtain ⟨hW, hS, hF, _, ho⟩ := h t c rfl
    have hW : TkW n t := hW
    have hS : c.length + opN (f :: fs) + prN (f :: fs) ≤ t.2.2.2.1 := hS
    have hF : FsK (f :: fs) := hF
    obtain ⟨ho1, ho2⟩ := ho (by simp)
    have ho1 : o + 1 = (f :: fs).length + cdN (f :: fs) := ho1
    have hf1 : FsK (⟨f.k, f.ph, false, f.pr, f.ω⟩ :: fs) := hF.set hF.1.no (Iff.rfl)
    have hN : ∀ s, t.1 ≠ 1 → Iv n (true, (⟨f.k, f.ph, false, f.pr, f.ω⟩ : Fr) :: fs, o, nx tb n (adS s (.ok (t, c)))) := fun s h1 => iv_nx (c := c ++ [s]) hb hW h1 (by rw [List.length_append]; show c.length + 1 + opN (f :: fs) + prN (f :: fs) ≤ _; omega) hf1 (fun _ => bg1 rfl) (fun _ => ⟨ho1, ho2⟩)
    unfold opF
    split
    · rename_i c1
      split
      · exact iv_stp
      · rename_i h7
        have c1 := (Bool.and_eq_true _ _).mp c1
        have c2 := (Bool.and_eq_true _ _).mp c1.1
        have h1 : t.1 ≠ 1 := by have := (of_decide_eq_true c1.2).1; omega
        refine iv_nx hb hW h1 ?_ ?_ (fun q => by cases q) (fun _ => ⟨?_, by omega⟩)
        · show c.length + (opN fs + (f.ω.length + 1)) + prN (f :: fs) ≤ _
          have : opN (f :: fs) = opN fs + f.ω.length := rfl
          omega
        · refine hF.set ?_ Iff.rfl
          have hle := hF.1.2.2.1 c2.1 c2.2
          refine ⟨hF.1.1.push (by decide) (fun y hy => ?_), fun q x hx => ?_, fun _ _ x hx => ?_, hF.1.2.2.2⟩
          · have := hle y hy
            by_cases e : rkC y = 3
            · exact Or.inr ⟨rfl, rk_14 y e⟩
            · left; show rkC y < 3; omega
          · rcases List.mem_cons.mp hx with e | e
            · rw [e]; decide
            · exact hF.1.2.1 q x e
          · rcases List.mem_cons.mp hx with e | e
            · rw [e]; decide
            · exact hle x e
        · show o + 1 + 1 = (f :: fs).length + (cdN fs + cd14 (14 :: f.ω))
          rw [cd14_k, if_pos rfl]
          have : cdN (f :: fs) = cdN fs + cd14 f.ω := rfl
          omega
    · split
      · rename_i c1
        have c1 := ((Bool.and_eq_true _ _).mp c1).2
        have h1 : t.1 ≠ 1 := by have := (of_decide_eq_true c1).1; omega
        refine iv_opn hb (by decide) (fun q => absurd q (by decide)) rfl (fun t' c' e => ?_)
        cases e
        exact ⟨hW, h1, by show c.length + opN (f :: fs) + prN (f :: fs) + 0 ≤ _; omega, hf1, ho1⟩
      · split
        · rename_i c1
          have c1 := ((Bool.and_eq_true _ _).mp c1).2
          have h1 : t.1 ≠ 1 := by have := (of_decide_eq_true c1).1; omega
          refine iv_nx (c := c ++ [(0, 1)]) hb hW h1 (by rw [List.length_append]; show c.length + 1 + opN (f :: fs) + prN (f :: fs) ≤ _; omega) ?_ (fun _ => bg1 rfl) (fun _ => ⟨ho1, ho2⟩)
          exact hF.set ⟨hF.1.1, fun q => absurd q (show ¬ (2 : Nat) = 0 by decide), fun _ q => (by cases q), Nat.le_refl 2, hF.1.2.2.2.2⟩ Iff.rfl
        · split
          · rename_i c1
            have h1 : t.1 ≠ 1 := by have := (of_decide_eq_true c1).1; omega
            refine iv_opn hb (by decide) (fun q => absurd q (by decide)) rfl (fun t' c' e => ?_)
            cases e
            exact ⟨hW, h1, by show c.length + opN (f :: fs) + prN (f :: fs) + 0 ≤ _; omega, hf1, ho1⟩
          · split
            · rename_i c1
              have h1 : t.1 ≠ 1 := by
                rcases (Bool.or_eq_true _ _).mp c1 with q | q
                · have := (of_decide_eq_true q).1; omega
                · rcases (Bool.or_eq_true _ _).mp q with q | q <;> (have := (of_decide_eq_true q).1; omega)
              split
              · rename_i c2
                have a := ad_nx (tb := tb) hb (r := .ok (t, c)) (show decide (t.1 = 1) = false from decide_eq_false h1)
                refine iv_opn hb (by (repeat' split) <;> decide) (fun _ => by (repeat' split) <;> decide) rfl (fun t' c' e => ?_)
                obtain ⟨t2, c3, e2, h2⟩ := isS_ok c2
                rw [e] at e2; cases e2
                have hW2 : TkW n t' := by have := a.1 hW; rw [e] at this; exact this
                have h3 := a.2.2 t c t' c' rfl e hW
                have hc : c' = c := by
                  simp only [nx] at e
                  cases ht : tokF tb n t.2.2.2.2 (decide (t.1 = 2 ∨ t.1 = 3)) with
                  | error p => rw [ht] at e; cases e
                  | ok t2 => rw [ht] at e; cases e; rfl
                refine ⟨hW2, h2, ?_, hf1, ho1⟩
                rw [hc]
                have hp : ∀ k, prF k ≤ 1 := fun k => by unfold prF; split <;> omega
                show c.length + opN (f :: fs) + prN (f :: fs) + prF _ ≤ _
                have := hp (if isW 25 (.ok (t, c)) = true then 3 else if isW 26 (.ok (t, c)) = true then 3 else 6)
                omega
              · exact iv_stp
            · split
              · rename_i c1; exact hN _ (by have := of_decide_eq_true c1; omega)
              · split
                · rename_i c1; exact hN _ (by have := of_decide_eq_true ((Bool.and_eq_true _ _).mp c1).1; omega)
                · exact iv_stp
theorem opA_r {r : Er} (h : isAr r = true) : rkC (opA r) = rkA r ∧ 2 ≤ opA r ∧ opA r ≤ 6 ∧ 5 ≤ rkA r := by
  unfold opA rkA
  cases h1 : isS 43 r <;> cases h2 : isS 45 r <;> cases h3 : isS 42 r <;> cases h4 : isS 47 r <;> decide
theorem opC_r (r : Er) : rkC (opC r) = 4 ∧ 2 ≤ opC r ∧ opC r ≤ 14 ∧ opC r ≠ 14 := by unfold opC; (repeat' split) <;> decide
theorem isAr_k {t : Tk} {c : Cd} (h : isAr (.ok (t, c)) = true) : t.1 ≠ 1 := by
  unfold isAr at h
  simp only [isS, Bool.or_eq_true, decide_eq_true_eq] at h
  omega
theorem isCm_k {t : Tk} {c : Cd} (h : isCm (.ok (t, c)) = true) : t.1 ≠ 1 := by
  unfold isCm at h
  simp only [isS, Bool.or_eq_true, decide_eq_true_eq] at h
  omega
theorem iv_gn {tb : Nat → Nat} {n : Nat} (hb : ∀ i, i < n → tb i < 256) {f : Fr} {fs : List Fr} {o : Nat} {r : Er} (h : Iv n (true, f :: fs, o, r)) : Iv n (gnF tb n f fs o r) := by
  rcases r with e | ⟨t, c⟩
  · obtain ⟨b', fs', o', q⟩ := gnF_e (tb := tb) (n := n) f fs o e
    rw [q]; intro t c z; cases z
  · obtain ⟨hW, hS, hF, hbg, ho⟩ := h t c rfl
    have hW : TkW n t := hW
    have hS : c.length + opN (f :: fs) + prN (f :: fs) ≤ t.2.2.2.1 := hS
    have hF : FsK (f :: fs) := hF
    have hbg : f.bg = false := hbg rfl f (by simp)
    obtain ⟨ho1, ho2⟩ := ho (by simp)
    have ho1 : o + 1 = (f :: fs).length + cdN (f :: fs) := ho1
    have ho2 : o ≤ 7 := ho2
    have e1 : opN (f :: fs) = opN fs + f.ω.length := rfl
    have e2 : cdN (f :: fs) = cdN fs + cd14 f.ω := rfl
    have e3 : prN (f :: fs) = prN fs + prF f.k := rfl
    have e4 : (f :: fs).length = fs.length + 1 := rfl
    have jn : ∀ (m x k ph : Nat) (bg : Bool), t.1 ≠ 1 → x ≠ 14 → (∀ y ∈ dr m f.ω, rkC y < rkC x) → 2 ≤ x ∧ x ≤ 14 → prF k = prF f.k → (k < 2 ↔ f.k < 2) → k ≤ 6 → ph ≤ 2 → (ph = 0 → ∀ y ∈ x :: dr m f.ω, rkC y ≠ 4) → (tst k = true → bg = true → ∀ y ∈ x :: dr m f.ω, rkC y ≤ 3) → Iv n (false, (⟨k, ph, bg, f.pr, x :: dr m f.ω⟩ : Fr) :: fs, o - cd14 (tk m f.ω), nx tb n (adL (tk m f.ω) (.ok (t, c)))) := by
      intro m x k ph bg h1 hx hr hx2 hpr hk hk6 hph hp0 hb3
      have l1 := tk_len m f.ω
      have l2 := tk_cd m f.ω
      refine iv_nx (c := c ++ (tk m f.ω).map (fun x => (x, 0))) hb hW h1 ?_ ?_ (fun q => by cases q) (fun _ => ⟨?_, by omega⟩)
      · rw [List.length_append, List.length_map]
        show c.length + (tk m f.ω).length + (opN fs + ((dr m f.ω).length + 1)) + (prN fs + prF k) ≤ _
        omega
      · refine hF.set ⟨(hF.1.1.drp m).1.push hx2 (fun y hy => Or.inl (hr y hy)), hp0, hb3, hph, hk6, fun q => hF.1.2.2.2.2.2 (by rw [← hpr]; exact q)⟩ hk
      · show o - cd14 (tk m f.ω) + 1 = fs.length + 1 + (cdN fs + cd14 (x :: dr m f.ω))
        rw [cd14_k, if_neg hx]
        omega
    unfold gnF
    split
    · rename_i c1
      have c1 := (Bool.and_eq_true _ _).mp c1
      obtain ⟨q1, q2, q3, q4⟩ := opA_r c1.2
      refine jn _ _ _ _ _ (isAr_k c1.2) (by omega) (fun y hy => by rw [q1]; exact (hF.1.1.drp _).2 y hy) ⟨q2, by omega⟩ rfl Iff.rfl hF.1.2.2.2.2.1 hF.1.2.2.2.1 (fun p y hy => ?_) (fun p q => by rw [hbg] at q; cases q)
      rcases List.mem_cons.mp hy with e | e
      · rw [e]; omega
      · exact hF.1.2.1 p y ((List.dropWhile_sublist _).subset e)
    · split
      · rename_i c1
        have c1 := (Bool.and_eq_true _ _).mp c1
        have c2 := (Bool.and_eq_true _ _).mp c1.2
        have p0 := of_decide_eq_true c2.1
        obtain ⟨q1, q2, q3, q4⟩ := opC_r (.ok (t, c))
        refine jn _ _ _ _ _ (isCm_k c2.2) q4 (fun y hy => ?_) ⟨q2, q3⟩ rfl Iff.rfl hF.1.2.2.2.2.1 (by decide) (fun p => absurd p (by decide)) (fun p q => by rw [hbg] at q; cases q)
        have a1 := (hF.1.1.drp 5).2 y hy
        have a2 := hF.1.2.1 p0 y ((List.dropWhile_sublist _).subset hy)
        omega
      · split
        · rename_i c1
          split
          · exact iv_stp
          · have c1 := ((Bool.and_eq_true _ _).mp c1).2
            have h1 : t.1 ≠ 1 := by rcases (Bool.or_eq_true _ _).mp c1 with q | q <;> (have := (of_decide_eq_true q).1; omega)
            have hrk : rkC (if isW 22 (.ok (t, c)) = true then 13 else 12) = (if isW 22 (.ok (t, c)) = true then 2 else 1) := by split <;> rfl
            have hle : (if isW 22 (.ok (t, c)) = true then 2 else 1) ≤ 2 := by split <;> decide
            have hall : ∀ y ∈ (if isW 22 (.ok (t, c)) = true then 13 else 12) :: dr (if isW 22 (.ok (t, c)) = true then 2 else 1) f.ω, rkC y ≤ 2 := fun y hy => by
              rcases List.mem_cons.mp hy with e | e
              · rw [e, hrk]; exact hle
              · have := (hF.1.1.drp _).2 y e; omega
            refine jn _ _ _ _ _ h1 (by split <;> decide) (fun y hy => by rw [hrk]; exact (hF.1.1.drp _).2 y hy) (by split <;> decide) rfl Iff.rfl hF.1.2.2.2.2.1 (by decide) (fun _ y hy => by have := hall y hy; omega) (fun _ _ y hy => by have := hall y hy; omega)
        · split
          · exact iv_stp
          · have l1 := tk_len 1 f.ω
            have l2 := tk_cd 1 f.ω
            have l3 : dr 1 f.ω = [] := (tk_1 f.ω).2
            have l4 : tk 1 f.ω = f.ω := (tk_1 f.ω).1
            rw [l3] at l1 l2 ⊢
            rw [l4]
            rw [l4] at l1 l2
            have l5 : cd14 [] = 0 := rfl
            have l6 : cd14 f.ω ≤ o := by omega
            split
            · intro t' c' e
              cases e
              refine ⟨hW, ?_, trivial, fun _ g hg => (by cases hg), fun q => absurd rfl q⟩
              rw [List.length_append, List.length_map]
              show c.length + f.ω.length + 0 + 0 ≤ _
              omega
            · rename_i hk2
              have hne : fs ≠ [] := fun e => hk2 (hF.2.1 e)
              split
              · rename_i hk36
                split
                · rename_i c1
                  have h1 : t.1 ≠ 1 := by have := (of_decide_eq_true c1).1; omega
                  have hp1 : prF f.k = 1 := by unfold prF; rw [if_pos (by omega)]
                  refine iv_nx (c := c ++ f.ω.map (fun x => (x, 0))) hb hW h1 ?_ ?_ (fun q => by cases q) (fun _ => ⟨?_, by omega⟩)
                  · rw [List.length_append, List.length_map]
                    have : prF (if f.k = 3 then 4 else 3) = 1 := by split <;> rfl
                    show c.length + f.ω.length + (opN fs + 0) + (prN fs + prF (if f.k = 3 then 4 else 3)) ≤ _
                    omega
                  · exact hF.set ⟨⟨List.Pairwise.nil, fun x hx => by cases hx⟩, fun _ x hx => (by cases hx), fun _ _ x hx => (by cases hx), Nat.zero_le _, by show (if f.k = 3 then 4 else 3) ≤ 6; split <;> decide, fun _ => hF.1.2.2.2.2.2 hp1⟩ (by show (if f.k = 3 then 4 else 3) < 2 ↔ _; split <;> omega)
                  · show o - cd14 f.ω + 1 = fs.length + 1 + (cdN fs + 0)
                    omega
                · exact iv_stp
              · rename_i hk36
                by_cases c1 : isS (if f.k = 5 then 93 else 41) (.ok (t, c)) = true
                · rw [if_pos c1]
                  have h1 : t.1 ≠ 1 := by have := (of_decide_eq_true c1).1; omega
                  have hF2 : FsK fs := hF.2.2.2.1
                  obtain ⟨g, gs, rfl⟩ : ∃ g gs, fs = g :: gs := by
                    cases fs with
                    | nil => exact absurd rfl hne
                    | cons g gs => exact ⟨g, gs, rfl⟩
                  have hgb : g.bg = false := hF.2.2.2.2 g (by simp)
                  have hfin : ∀ (gs2 : List Fr) (c2 : Cd), gs2 ≠ [] → FsK gs2 → (∀ g ∈ gs2.head?, g.bg = false) → opN gs2 = opN (g :: gs) → prN gs2 = prN (g :: gs) → cdN gs2 = cdN (g :: gs) → gs2.length = (g :: gs).length → c2.length ≤ c.length + f.ω.length + prF f.k → Iv n (true, gs2, o - cd14 f.ω - 1, nx tb n (.ok (t, c2))) := by
                    intro gs2 c2 z1 z2 z3 z4 z5 z6 z7 z8
                    exact iv_nx hb hW h1 (by omega) z2 (fun _ => z3) (fun _ => ⟨by rw [z6, z7]; show o - cd14 f.ω - 1 + 1 = gs.length + 1 + cdN (g :: gs); have : (g :: gs).length = gs.length + 1 := rfl; omega, by omega⟩)
                  have hsel : (if f.k = 4 then adS (f.pr, 0) (adL f.ω (.ok (t, c))) else adL f.ω (.ok (t, c))) = .ok (t, if f.k = 4 then (c ++ f.ω.map (fun x => (x, 0))) ++ [(f.pr, 0)] else c ++ f.ω.map (fun x => (x, 0))) := by split <;> rfl
                  rw [hsel]
                  have hlen : (if f.k = 4 then (c ++ f.ω.map (fun x => (x, 0))) ++ [(f.pr, 0)] else c ++ f.ω.map (fun x => (x, 0))).length ≤ c.length + f.ω.length + prF f.k := by
                    split
                    · rename_i e
                      rw [List.length_append, List.length_append, List.length_map, e]; exact Nat.le_refl _
                    · rw [List.length_append, List.length_map]; omega
                  by_cases h5 : f.k = 5
                  · rw [if_pos h5]
                    exact hfin (ph2 (g :: gs)) _ (by simp [ph2]) (hF2.set ⟨hF2.1.1, fun q => absurd q (show ¬ (2 : Nat) = 0 by decide), hF2.1.2.2.1, Nat.le_refl 2, hF2.1.2.2.2.2⟩ Iff.rfl) (bg1 hgb) rfl rfl rfl rfl hlen
                  · rw [if_neg h5]
                    exact hfin (g :: gs) _ (by simp) hF2 (bg1 hgb) rfl rfl rfl rfl hlen
                · rw [if_neg c1]; exact iv_stp
theorem len_14 : ∀ (m : Nat) (ω : List Nat), sOk ω → (∀ x ∈ ω, rkC x < m) → ω.length ≤ m + cd14 ω
  | _, [], _, _ => Nat.zero_le _
  | m, x :: ω, h, hm => by
    have hp := List.pairwise_cons.mp h.1
    have hs : sOk ω := ⟨hp.2, fun y hy => h.2 y (by simp [hy])⟩
    have hx := hm x (by simp)
    rw [cd14_k]
    by_cases e : x = 14
    · rw [if_pos e]
      have := len_14 m ω hs (fun y hy => hm y (by simp [hy]))
      show ω.length + 1 ≤ _
      omega
    · rw [if_neg e]
      have := len_14 (rkC x) ω hs (fun y hy => by
        rcases hp.1 y hy with q | q
        · exact q
        · exact absurd q.1 e)
      show ω.length + 1 ≤ _
      omega
theorem opN_le : ∀ (fs : List Fr), FsK fs → opN fs ≤ 7 * fs.length + cdN fs
  | [], _ => Nat.le_refl _
  | f :: fs, h => by
    have ih := opN_le fs h.2.2.2.1
    have := len_14 7 f.ω h.1.1 (fun x _ => by have := (rk_le x).2; omega)
    show opN fs + f.ω.length ≤ 7 * (fs.length + 1) + (cdN fs + cd14 f.ω)
    omega
