/-! THE AUTOMATON of the reference's sums and tests, over the class's tokens: operand?, frames, open, token and code -/
abbrev Fr : Type := Nat × Nat × Bool × Nat × List Nat
abbrev Fr.k (f : Fr) : Nat := f.1
abbrev Fr.ph (f : Fr) : Nat := f.2.1
abbrev Fr.bg (f : Fr) : Bool := f.2.2.1
abbrev Fr.pr (f : Fr) : Nat := f.2.2.2.1
abbrev Fr.ω (f : Fr) : List Nat := f.2.2.2.2
def adL (l : List Nat) : Er → Er
  | .error e => .error e
  | .ok (t, c) => .ok (t, c ++ l.map (fun x => (x, 0)))
def tst (k : Nat) : Bool := decide (k = 1 ∨ k = 5 ∨ k = 6)
abbrev Cf : Type := Bool × List Fr × Nat × Er
def isAr (r : Er) : Bool := isS 43 r || (isS 45 r || (isS 42 r || (isS 47 r || isS 37 r)))
def isCm (r : Er) : Bool := isS 60 r || (isS 62 r || isS 61 r)
def opA (r : Er) : Nat := if isS 43 r = true then 2 else if isS 45 r = true then 3 else if isS 42 r = true then 4 else if isS 47 r = true then 5 else 6
def rkA (r : Er) : Nat := if (isS 43 r || isS 45 r) = true then 5 else 6
def tk (m : Nat) (ω : List Nat) : List Nat := ω.takeWhile (fun x => decide (m ≤ rkC x))
def dr (m : Nat) (ω : List Nat) : List Nat := ω.dropWhile (fun x => decide (m ≤ rkC x))
def ph2 : List Fr → List Fr
  | [] => []
  | f :: fs => ⟨f.k, 2, f.bg, f.pr, f.ω⟩ :: fs
def opnF (tb : Nat → Nat) (n k pr : Nat) (fs : List Fr) (o : Nat) (r : Er) : Cf := if 7 ≤ o then (false, fs, o, stp 5 r) else (false, ⟨k, 0, true, pr, []⟩ :: fs, o + 1, nx tb n r)
def opF (tb : Nat → Nat) (n sc : Nat) (f : Fr) (fs : List Fr) (o : Nat) (r : Er) : Cf :=
  if (tst f.k && f.bg && isW 23 r) = true then (if 7 ≤ o then (true, f :: fs, o, stp 5 r) else (false, ⟨f.k, f.ph, f.bg, f.pr, 14 :: f.ω⟩ :: fs, o + 1, nx tb n r))
  else if (tst f.k && f.bg && isS 91 r) = true then opnF tb n 5 0 (⟨f.k, f.ph, false, f.pr, f.ω⟩ :: fs) o r
  else if (tst f.k && f.bg && isW 24 r) = true then (true, ⟨f.k, 2, false, f.pr, f.ω⟩ :: fs, o, nx tb n (adS (0, 1) r))
  else if isS 40 r = true then opnF tb n 2 0 (⟨f.k, f.ph, false, f.pr, f.ω⟩ :: fs) o r
  else if (isW 25 r || (isW 26 r || isW 20 r)) = true then
    (if isS 40 (nx tb n r) = true then opnF tb n (if isW 25 r = true then 3 else if isW 26 r = true then 3 else 6) (if isW 25 r = true then 7 else if isW 26 r = true then 8 else 15) (⟨f.k, f.ph, false, f.pr, f.ω⟩ :: fs) o (nx tb n r)
     else (false, ⟨f.k, f.ph, false, f.pr, f.ω⟩ :: fs, o, stp 1 (nx tb n r)))
  else if isK 3 r = true then (true, ⟨f.k, f.ph, false, f.pr, f.ω⟩ :: fs, o, nx tb n (adS (0, numR r) r))
  else if isNm sc r = true then (true, ⟨f.k, f.ph, false, f.pr, f.ω⟩ :: fs, o, nx tb n (adS (1, ownR r) r))
  else (true, ⟨f.k, f.ph, false, f.pr, f.ω⟩ :: fs, o, stp 1 r)
def gnF (tb : Nat → Nat) (n : Nat) (f : Fr) (fs : List Fr) (o : Nat) (r : Er) : Cf :=
  if (decide (f.ph < 2) && isAr r) = true then (false, ⟨f.k, f.ph, f.bg, f.pr, opA r :: dr (rkA r) f.ω⟩ :: fs, o - cd14 (tk (rkA r) f.ω), nx tb n (adL (tk (rkA r) f.ω) r))
  else if (tst f.k && (decide (f.ph = 0) && isCm r)) = true then (false, ⟨f.k, 1, f.bg, f.pr, opC r :: dr 5 f.ω⟩ :: fs, o - cd14 (tk 5 f.ω), nx tb n (adL (tk 5 f.ω) r))
  else if (tst f.k && (isW 22 r || isW 21 r)) = true then
    (if f.ph = 0 then (true, f :: fs, o, stp 1 r)
     else (false, ⟨f.k, 0, true, f.pr, (if isW 22 r = true then 13 else 12) :: dr (if isW 22 r = true then 2 else 1) f.ω⟩ :: fs, o - cd14 (tk (if isW 22 r = true then 2 else 1) f.ω), nx tb n (adL (tk (if isW 22 r = true then 2 else 1) f.ω) r)))
  else if (tst f.k && decide (f.ph = 0)) = true then (true, f :: fs, o, stp 1 r)
  else if f.k < 2 then (true, [], o - cd14 (tk 1 f.ω), adL (tk 1 f.ω) r)
  else if f.k = 3 ∨ f.k = 6 then
    (if isS 44 r = true then (false, ⟨if f.k = 3 then 4 else 3, 0, f.bg, f.pr, dr 1 f.ω⟩ :: fs, o - cd14 (tk 1 f.ω), nx tb n (adL (tk 1 f.ω) r))
     else (true, f :: fs, o, stp 1 r))
  else if isS (if f.k = 5 then 93 else 41) r = true then
    (true, (if f.k = 5 then ph2 fs else fs), o - cd14 (tk 1 f.ω) - 1, nx tb n (if f.k = 4 then adS (f.pr, 0) (adL (tk 1 f.ω) r) else adL (tk 1 f.ω) r))
  else (true, f :: fs, o, stp 1 r)
/-- from here the automaton comes to this end -/
def Go (tb : Nat → Nat) (n sc : Nat) (C : Cf) (R : Er) : Prop := ∀ P : Cf → Prop, (∀ b fs o e, R = .error e → P (b, fs, o, .error e)) → (∀ o, P (true, [], o, R)) → (∀ f fs o r, P (opF tb n sc f fs o r) → P (false, f :: fs, o, r)) → (∀ f fs o r, P (gnF tb n f fs o r) → P (true, f :: fs, o, r)) → P C
theorem Go.err {tb : Nat → Nat} {n sc : Nat} (b : Bool) (fs : List Fr) (o : Nat) (e : Nat × Nat) : Go tb n sc (b, fs, o, .error e) (.error e) := fun _ h1 _ _ _ => h1 b fs o e rfl
theorem Go.fin {tb : Nat → Nat} {n sc : Nat} (o : Nat) (r : Er) : Go tb n sc (true, [], o, r) r := fun _ _ h2 _ _ => h2 o
theorem Go.op {tb : Nat → Nat} {n sc : Nat} (f : Fr) (fs : List Fr) (o : Nat) (r R : Er) (h : Go tb n sc (opF tb n sc f fs o r) R) : Go tb n sc (false, f :: fs, o, r) R := fun P h1 h2 h3 h4 => h3 _ _ _ _ (h P h1 h2 h3 h4)
theorem Go.go {tb : Nat → Nat} {n sc : Nat} (f : Fr) (fs : List Fr) (o : Nat) (r R : Er) (h : Go tb n sc (gnF tb n f fs o r) R) : Go tb n sc (true, f :: fs, o, r) R := fun P h1 h2 h3 h4 => h4 _ _ _ _ (h P h1 h2 h3 h4)
theorem opF_e {tb : Nat → Nat} {n sc : Nat} (f : Fr) (fs : List Fr) (o : Nat) (e : Nat × Nat) : ∃ b' fs' o', opF tb n sc f fs o (.error e) = (b', fs', o', .error e) := by
  simp [opF, isW, isS, isK, isNm, stp]
theorem gnF_e {tb : Nat → Nat} {n : Nat} (f : Fr) (fs : List Fr) (o : Nat) (e : Nat × Nat) : ∃ b' fs' o', gnF tb n f fs o (.error e) = (b', fs', o', .error e) := by
  simp only [gnF, isAr, isCm, isW, isS, stp, adL, Bool.or_false, Bool.and_false, Bool.false_eq_true, if_false]
  (repeat' split) <;> exact ⟨_, _, _, rfl⟩
theorem Go.er {tb : Nat → Nat} {n sc : Nat} {b : Bool} {fs : List Fr} {o : Nat} {e : Nat × Nat} {R : Er} (h : Go tb n sc (b, fs, o, .error e) R) : R = .error e := by
  refine h (fun C => ∀ e, C.2.2.2 = .error e → R = .error e) (fun b fs o e1 h1 e h2 => ?_) (fun o e h1 => h1) (fun f fs o r ih e h1 => ?_) (fun f fs o r ih e h1 => ?_) e rfl
  · cases h2; exact h1
  · have h1 : r = .error e := h1
    subst h1
    obtain ⟨b', fs', o', q⟩ := opF_e (tb := tb) (n := n) (sc := sc) f fs o e
    exact ih e (by rw [q])
  · have h1 : r = .error e := h1
    subst h1
    obtain ⟨b', fs', o', q⟩ := gnF_e (tb := tb) (n := n) f fs o e
    exact ih e (by rw [q])
theorem Go.ee {tb : Nat → Nat} {n sc : Nat} {b b2 : Bool} {fs fs2 : List Fr} {o o2 : Nat} {e : Nat × Nat} {R : Er} (h : Go tb n sc (b, fs, o, .error e) R) : Go tb n sc (b2, fs2, o2, .error e) R := by
  rw [h.er]; exact .err _ _ _ _
theorem adL_nil (r : Er) : adL [] r = r := by
  rcases r with e | ⟨t, c⟩
  · rfl
  · simp [adL]
theorem adL_one (k : Nat) (r : Er) : adS (k, 0) r = adL [k] r := by
  rcases r with e | ⟨t, c⟩ <;> rfl
theorem adL_app (a b : List Nat) (r : Er) : adL b (adL a r) = adL (a ++ b) r := by
  rcases r with e | ⟨t, c⟩
  · rfl
  · simp [adL]
theorem adL_S (l : List Nat) (k : Nat) (r : Er) : isS k (adL l r) = isS k r := by rcases r with e | ⟨t, c⟩ <;> rfl
theorem adL_W (l : List Nat) (k : Nat) (r : Er) : isW k (adL l r) = isW k r := by rcases r with e | ⟨t, c⟩ <;> rfl
theorem adL_stp (l : List Nat) (k : Nat) (r : Er) : stp k (adL l r) = stp k r := by rcases r with e | ⟨t, c⟩ <;> rfl
theorem adL_Ar (l : List Nat) (r : Er) : isAr (adL l r) = isAr r := by rcases r with e | ⟨t, c⟩ <;> rfl
theorem adL_Cm (l : List Nat) (r : Er) : isCm (adL l r) = isCm r := by rcases r with e | ⟨t, c⟩ <;> rfl
theorem adL_opA (l : List Nat) (r : Er) : opA (adL l r) = opA r := by rcases r with e | ⟨t, c⟩ <;> rfl
theorem adL_opC (l : List Nat) (r : Er) : opC (adL l r) = opC r := by rcases r with e | ⟨t, c⟩ <;> rfl
theorem adL_rkA (l : List Nat) (r : Er) : rkA (adL l r) = rkA r := by rcases r with e | ⟨t, c⟩ <;> rfl
theorem tk_a {m : Nat} {ω : List Nat} (hω : ∀ x ∈ ω.head?, rkC x < m) : ∀ (δ : List Nat), (∀ x ∈ δ, m ≤ rkC x) → tk m (δ ++ ω) = δ ∧ dr m (δ ++ ω) = ω
  | [], _ => by
    cases ω with
    | nil => exact ⟨rfl, rfl⟩
    | cons x ω => 
      have := hω x (by simp)
      have hd : decide (m ≤ rkC x) = false := decide_eq_false (by omega)
      exact ⟨by simp [tk, hd], by simp [dr, hd]⟩
  | x :: δ, h => by
    have ih := tk_a hω δ (fun y hy => h y (by simp [hy]))
    have hd : decide (m ≤ rkC x) = true := decide_eq_true (h x (by simp))
    unfold tk dr at ih ⊢
    rw [List.cons_append, List.takeWhile_cons, List.dropWhile_cons, hd, if_pos rfl, if_pos rfl, ih.1, ih.2]
    exact ⟨rfl, rfl⟩
theorem cd0 {m : Nat} (hm : 4 ≤ m) : ∀ (δ : List Nat), (∀ x ∈ δ, m ≤ rkC x) → cd14 δ = 0
  | [], _ => rfl
  | x :: δ, h => by
    have ih := cd0 hm δ (fun y hy => h y (by simp [hy]))
    have hx : ¬ x = 14 := fun e => by have := h x (by simp); rw [e] at this; have : m ≤ 3 := this; omega
    unfold cd14 at ih ⊢
    rw [List.filter_cons, if_neg (by simp [hx])]
    exact ih
theorem cd14_a (a b : List Nat) : cd14 (a ++ b) = cd14 a + cd14 b := by unfold cd14; rw [List.filter_append, List.length_append]
theorem rk_le (k : Nat) : 1 ≤ rkC k ∧ rkC k ≤ 6 := by unfold rkC; (repeat' split) <;> omega
def tpL (m : Nat) (ω : List Nat) : Prop := ∀ x ∈ ω.head?, rkC x < m
theorem tpL.c {m x : Nat} {ω : List Nat} (h : rkC x < m) : tpL m (x :: ω) := fun y hy => by simp at hy; rw [← hy]; exact h
theorem tpL.up {m m2 : Nat} {ω : List Nat} (h : tpL m ω) (hm : m ≤ m2) : tpL m2 ω := fun y hy => Nat.lt_of_lt_of_le (h y hy) hm
def TkR (n : Nat) : Er → Prop
  | .error _ => True
  | .ok (t, _) => TkW n t
/-- from r to r': b bytes on, or a fault -/
def Ad (n b : Nat) (r r' : Er) : Prop := (TkR n r → TkR n r') ∧ (∀ e, r = .error e → r' = .error e) ∧ ∀ t c t' c', r = .ok (t, c) → r' = .ok (t', c') → TkW n t → t.2.2.2.1 + b ≤ t'.2.2.2.1
def GF (n b : Nat) (F : Er → Er) : Prop := ∀ r, Ad n b r (F r)
theorem Ad.tr {n b b2 : Nat} {r r1 r2 : Er} (h : Ad n b r r1) (g : Ad n b2 r1 r2) : Ad n (b + b2) r r2 := by
  refine ⟨fun q => g.1 (h.1 q), fun e q => g.2.1 e (h.2.1 e q), fun t c t' c' q1 q2 q3 => ?_⟩
  rcases r1 with e | ⟨t1, c1⟩
  · rw [g.2.1 e rfl] at q2; cases q2
  · have a1 := h.2.2 t c t1 c1 q1 rfl q3
    have w1 : TkW n t1 := h.1 (by rw [q1]; exact q3)
    have a2 := g.2.2 t1 c1 t' c' rfl q2 w1
    omega
theorem Ad.le {n b b2 : Nat} {r r1 : Er} (h : Ad n b r r1) (hb : b2 ≤ b) : Ad n b2 r r1 := ⟨h.1, h.2.1, fun t c t' c' q1 q2 q3 => by have := h.2.2 t c t' c' q1 q2 q3; omega⟩
theorem ad_rf {n : Nat} (r : Er) : Ad n 0 r r := ⟨fun q => q, fun _ q => q, fun t c t' c' q1 q2 _ => by rw [q1] at q2; cases q2; exact Nat.le_refl _⟩
theorem ad_adS {n : Nat} (s : Nat × Nat) (r : Er) : Ad n 0 r (adS s r) := by
  rcases r with e | ⟨t, c⟩
  · exact ⟨fun _ => trivial, fun _ q => q, fun _ _ _ _ q => by cases q⟩
  · exact ⟨fun q => q, fun _ q => (by cases q), fun t1 c1 t' c' q1 q2 _ => by cases q1; cases q2; exact Nat.le_refl _⟩
theorem ad_stp {n b k : Nat} (r : Er) : Ad n b r (stp k r) := by
  rcases r with e | ⟨t, c⟩
  · exact ⟨fun _ => trivial, fun _ q => q, fun _ _ _ _ q => by cases q⟩
  · exact ⟨fun _ => trivial, fun _ q => (by cases q), fun t1 c1 t' c' q1 q2 _ => by cases q2⟩
theorem ad_nx0 {tb : Nat → Nat} {n : Nat} (hb : ∀ i, i < n → tb i < 256) (r : Er) : Ad n 0 r (nx tb n r) ∧ (isK 1 r = false → Ad n 1 r (nx tb n r)) := by
  rcases r with e | ⟨t, c⟩
  · exact ⟨⟨fun _ => trivial, fun _ q => q, fun _ _ _ _ q => by cases q⟩, fun _ => ⟨fun _ => trivial, fun _ q => q, fun _ _ _ _ q => by cases q⟩⟩
  · have key : ∀ t', TkW n t → tokF tb n t.2.2.2.2 (decide (t.1 = 2 ∨ t.1 = 3)) = .ok t' → TkW n t' ∧ t.2.2.2.2 ≤ t'.2.2.2.1 := fun t' hW h => tokF_ok hb hW.2.2.2.1 h
    simp only [nx]
    cases ht : tokF tb n t.2.2.2.2 (decide (t.1 = 2 ∨ t.1 = 3)) with
    | error p => exact ⟨⟨fun _ => trivial, fun _ q => (by cases q), fun _ _ _ _ _ q => by cases q⟩, fun _ => ⟨fun _ => trivial, fun _ q => (by cases q), fun _ _ _ _ _ q => by cases q⟩⟩
    | ok t2 =>
      refine ⟨⟨fun q => (key t2 q ht).1, fun _ q => (by cases q), fun t1 c1 t' c' q1 q2 q3 => ?_⟩, fun hk => ⟨fun q => (key t2 q ht).1, fun _ q => (by cases q), fun t1 c1 t' c' q1 q2 q3 => ?_⟩⟩
      · cases q1; cases q2
        have := (key t2 q3 ht).2
        have := q3.2.2.1
        omega
      · cases q1; cases q2
        have := (key t2 q3 ht).2
        have h1 : t.1 ≠ 1 := of_decide_eq_false hk
        have := q3.2.2.2.2.1 h1
        omega
theorem ad_nx {tb : Nat → Nat} {n : Nat} (hb : ∀ i, i < n → tb i < 256) {r : Er} (hk : isK 1 r = false) : Ad n 1 r (nx tb n r) := (ad_nx0 hb r).2 hk
theorem ad_tkS {tb : Nat → Nat} {n : Nat} (hb : ∀ i, i < n → tb i < 256) (c : Nat) (r : Er) : Ad n 1 r (tkS tb n c r) := by
  unfold tkS
  split
  · rename_i h; exact ad_nx hb (isS_k h)
  · exact ad_stp r
def CtS (tb : Nat → Nat) (n sc o m : Nat) (F : Er → Er) : Prop := ∀ (k ph : Nat) (bg : Bool) (pr : Nat) (ω : List Nat) (fs : List Fr) (r R : Er), TkR n r → ph < 2 → ((tst k && bg) = true → isW 23 r = false ∧ isS 91 r = false ∧ isW 24 r = false) → tpL m ω → (∀ δ r', adL δ r' = F r → (∀ x ∈ δ, m ≤ rkC x) → Go tb n sc (true, ⟨k, ph, false, pr, δ ++ ω⟩ :: fs, o, r') R) → Go tb n sc (false, ⟨k, ph, bg, pr, ω⟩ :: fs, o, r) R
def CtT (tb : Nat → Nat) (n sc o m h : Nat) (F : Er → Er) : Prop := ∀ (k pr : Nat) (ω : List Nat) (fs : List Fr) (r R : Er), TkR n r → tst k = true → tpL h ω → (∀ δ r' ph, adL δ r' = F r → (∀ x ∈ δ, m ≤ rkC x) → ph ≠ 0 → (ph < 2 → isAr r' = false) → Go tb n sc (true, ⟨k, ph, false, pr, δ ++ ω⟩ :: fs, o + cd14 δ, r') R) → Go tb n sc (false, ⟨k, 0, true, pr, ω⟩ :: fs, o, r) R
/-- a loop over operators of one rank -/
def lpL (tb : Nat → Nat) (n : Nat) (cond : Er → Bool) (opk : Er → Nat) (pt : Er → Er) : Nat → Er → Er
  | 0, r => r
  | f + 1, r => if cond r = true then lpL tb n cond opk pt f (adS (opk r, 0) (pt (nx tb n r))) else r
theorem prodL_lp (tb : Nat → Nat) (n : Nat) (pt : Er → Er) : ∀ f r, prodL tb n pt f r = lpL tb n (fun r => isS 42 r || (isS 47 r || isS 37 r)) opP pt f r
  | 0, _ => rfl
  | f + 1, r => by simp only [prodL, lpL]; rw [prodL_lp tb n pt f]
theorem sumL_lp (tb : Nat → Nat) (n : Nat) (pt : Er → Er) : ∀ f r, sumL tb n pt f r = lpL tb n (fun r => isS 43 r || isS 45 r) opS pt f r
  | 0, _ => rfl
  | f + 1, r => by simp only [sumL, lpL]; rw [sumL_lp tb n pt f]
theorem wordL_lp (tb : Nat → Nat) (n w k : Nat) (pt : Er → Er) : ∀ f r, wordL tb n w k pt f r = lpL tb n (isW w) (fun _ => k) pt f r
  | 0, _ => rfl
  | f + 1, r => by simp only [wordL, lpL]; rw [wordL_lp tb n w k pt f]
theorem lp_s {tb : Nat → Nat} {n sc o m : Nat} {cond : Er → Bool} {opk : Er → Nat} {pt : Er → Er} (hm : 5 ≤ m) (hc : ∀ r, cond r = true → isAr r = true ∧ rkA r = m ∧ opA r = opk r ∧ rkC (opk r) = m) (hb : ∀ i, i < n → tb i < 256) (hg : GF n 0 pt) (hpt : CtS tb n sc o (m + 1) pt) {k ph pr : Nat} {ω : List Nat} {fs : List Fr} {R : Er} (hph : ph < 2) (hω : tpL m ω) : ∀ (f : Nat) (δ : List Nat) (r0 r' : Er), TkR n r0 → adL δ r' = r0 → (∀ x ∈ δ, m ≤ rkC x) → (∀ δ2 r2, adL δ2 r2 = lpL tb n cond opk pt f r0 → (∀ x ∈ δ2, m ≤ rkC x) → Go tb n sc (true, ⟨k, ph, false, pr, δ2 ++ ω⟩ :: fs, o, r2) R) → Go tb n sc (true, ⟨k, ph, false, pr, δ ++ ω⟩ :: fs, o, r') R := by
  intro f
  induction f with
  | zero => intro δ r0 r' _ h1 h2 K; exact K δ r' h1 h2
  | succ f ih =>
    intro δ r0 r' hr h1 h2 K
    by_cases hcd : cond r0 = true
    · obtain ⟨e1, e2, e3, e4⟩ := hc r0 hcd
      have a1 : isAr r' = true := by rw [← adL_Ar δ r', h1]; exact e1
      have a2 : rkA r' = m := by rw [← adL_rkA δ r', h1]; exact e2
      have a3 : opA r' = opk r0 := by rw [← adL_opA δ r', h1]; exact e3
      refine .go _ _ _ _ _ ?_
      unfold gnF
      simp only [Fr.k, Fr.ph, Fr.bg, Fr.pr, Fr.ω]
      rw [if_pos (by rw [decide_eq_true hph, a1]; rfl), a2, a3, (tk_a hω δ h2).1, (tk_a hω δ h2).2, h1, cd0 (by omega) δ h2, Nat.sub_zero]
      refine hpt k ph false pr (opk r0 :: ω) fs _ _ ((ad_nx0 hb r0).1.1 hr) hph (fun q => by rw [Bool.and_false] at q; cases q) (tpL.c (by omega)) ?_
      intro δ3 r3 q1 q2
      have := ih (δ3 ++ [opk r0]) (adS (opk r0, 0) (pt (nx tb n r0))) r3 (by exact (ad_adS _ _).1 ((hg _).1 ((ad_nx0 hb r0).1.1 hr))) (by rw [adL_one, ← q1, adL_app]) (fun x hx => by
        rcases List.mem_append.mp hx with q | q
        · have := q2 x q; omega
        · simp at q; rw [q, e4]; exact Nat.le_refl _) (fun δ2 r2 p1 p2 => K δ2 r2 (by simp only [lpL]; rw [if_pos hcd]; exact p1) p2)
      rwa [List.append_assoc, List.singleton_append] at this
    · exact K δ r' (by simp only [lpL]; rw [if_neg hcd]; exact h1) h2
theorem lp_t {tb : Nat → Nat} {n sc o m h w kd : Nat} {pt : Er → Er} (hw : (w = 22 ∧ m = 2 ∧ kd = 13) ∨ (w = 21 ∧ m = 1 ∧ kd = 12)) (hh : m < h) (hb : ∀ i, i < n → tb i < 256) (hg : GF n 0 pt) (hpt : CtT tb n sc o (m + 1) h pt) {k pr : Nat} {ω : List Nat} {fs : List Fr} {R : Er} (ht : tst k = true) (hω : tpL m ω) : ∀ (f : Nat) (δ : List Nat) (r0 r' : Er) (ph : Nat), TkR n r0 → adL δ r' = r0 → (∀ x ∈ δ, m ≤ rkC x) → ph ≠ 0 → (ph < 2 → isAr r' = false) → (∀ δ2 r2 ph2, adL δ2 r2 = lpL tb n (isW w) (fun _ => kd) pt f r0 → (∀ x ∈ δ2, m ≤ rkC x) → ph2 ≠ 0 → (ph2 < 2 → isAr r2 = false) → Go tb n sc (true, ⟨k, ph2, false, pr, δ2 ++ ω⟩ :: fs, o + cd14 δ2, r2) R) → Go tb n sc (true, ⟨k, ph, false, pr, δ ++ ω⟩ :: fs, o + cd14 δ, r') R := by
  intro f
  induction f with
  | zero => intro δ r0 r' ph _ h1 h2 p1 p2 K; exact K δ r' ph h1 h2 p1 p2
  | succ f ih =>
    intro δ r0 r' ph hr h1 h2 p1 p2 K
    by_cases hcd : isW w r0 = true
    · have a1 : isW w r' = true := by rw [← adL_W δ w r', h1]; exact hcd
      refine .go _ _ _ _ _ ?_
      unfold gnF
      simp only [Fr.k, Fr.ph, Fr.bg, Fr.pr, Fr.ω]
      have b1 : (decide (ph < 2) && isAr r') = false := by
        by_cases q : ph < 2
        · rw [p2 q, Bool.and_false]
        · rw [decide_eq_false q]; rfl
      have b2 : (isW 22 r' || isW 21 r') = true := by
        rcases hw with q | q
        · rw [q.1] at a1; rw [a1]; rfl
        · rw [q.1] at a1; rw [a1, Bool.or_true]
      have b3 : (if isW 22 r' = true then 13 else 12) = kd ∧ (if isW 22 r' = true then 2 else 1) = m := by
        rcases hw with q | q
        · rw [q.1] at a1; rw [if_pos a1, if_pos a1]; exact ⟨q.2.2.symm, q.2.1.symm⟩
        · rw [q.1] at a1
          have : ¬ isW 22 r' = true := by
            intro z
            rcases r' with e | ⟨t, c⟩
            · cases z
            · have z1 := of_decide_eq_true z
              have z2 := of_decide_eq_true a1
              have := z1.2.symm.trans z2.2
              revert this; decide
          rw [if_neg this, if_neg this]; exact ⟨q.2.2.symm, q.2.1.symm⟩
      rw [if_neg (by rw [b1]; decide), if_neg (by rw [decide_eq_false p1, Bool.false_and, Bool.and_false]; decide), if_pos (by rw [ht, b2]; rfl), if_neg p1, b3.1, b3.2, (tk_a hω δ h2).1, (tk_a hω δ h2).2, h1, Nat.add_sub_cancel]
      have hkm : rkC kd = m := by rcases hw with q | q <;> (rw [q.2.1, q.2.2]; rfl)
      refine hpt k pr (kd :: ω) fs _ _ ((ad_nx0 hb r0).1.1 hr) ht (tpL.c (by omega)) ?_
      intro δ3 r3 ph3 q1 q2 q3 q4
      have := ih (δ3 ++ [kd]) (adS (kd, 0) (pt (nx tb n r0))) r3 ph3 (by exact (ad_adS _ _).1 ((hg _).1 ((ad_nx0 hb r0).1.1 hr))) (by rw [adL_one, ← q1, adL_app]) (fun x hx => by
        rcases List.mem_append.mp hx with q | q
        · have := q2 x q; omega
        · simp at q; rw [q, hkm]; exact Nat.le_refl _) q3 q4 (fun δ2 r2 ph2 z1 z2 z3 z4 => K δ2 r2 ph2 (by simp only [lpL]; rw [if_pos hcd]; exact z1) z2 z3 z4)
      rw [List.append_assoc, List.singleton_append, cd14_a, show cd14 [kd] = 0 by rcases hw with q | q <;> (rw [q.2.2]; rfl), Nat.add_zero] at this
      exact this
    · exact K δ r' ph (by simp only [lpL]; rw [if_neg hcd]; exact h1) h2 p1 p2
