def LR : List Bool → (Nat → Bool) → Prop
  | [], _ => True
  | a :: r, g => g r.length = a ∧ LR r g
theorem LR.upd {v : Bool} {m : Nat} {g : Nat → Bool} : ∀ (r : List Bool), LR r g → r.length ≤ m → LR r (fun j => if j = m then v else g j)
  | [], _, _ => trivial
  | a :: r, h, hm => by
    have hm : r.length + 1 ≤ m := hm
    exact ⟨by show (if r.length = m then v else g r.length) = a; rw [if_neg (by omega)]; exact h.1, LR.upd r h.2 (by omega)⟩
theorem stT_ok {k v : Nat} {st st' : List Bool} {g : Nat → Bool} (hk : k < 16) (h : stT (k, v) st = some st') (hl : LR st g) : (nd k ≤ st.length ∧ st.length ≤ 61) ∧ st'.length = st.length - nd k + 1 ∧ LR st' (stF k v st.length g) ∧ (k = 14 → g (st.length - 1) = true) ∧ (k = 15 → g (st.length - 3) = true) := by
  unfold stT at h
  split at h
  · cases h
  · rename_i h61
    simp only at h
    by_cases k0 : k = 0
    · subst k0
      rw [if_pos rfl] at h; cases h
      refine ⟨⟨Nat.zero_le _, by omega⟩, rfl, ⟨?_, ?_⟩, fun z => absurd z (by decide), fun z => absurd z (by decide)⟩
      · show (if st.length = st.length - 0 then (if 0 = 0 then decide (v ≤ 1) else _) else _) = _
        rw [if_pos (by omega)]; rfl
      · exact LR.upd st hl (Nat.le_refl _)
    · rw [if_neg k0] at h
      by_cases k1 : k = 1
      · subst k1
        rw [if_pos rfl] at h; cases h
        refine ⟨⟨Nat.zero_le _, by omega⟩, rfl, ⟨?_, ?_⟩, fun z => absurd z (by decide), fun z => absurd z (by decide)⟩
        · show (if st.length = st.length - 0 then _ else _) = _
          rw [if_pos (by omega)]; rfl
        · exact LR.upd st hl (Nat.le_refl _)
      · rw [if_neg k1] at h
        by_cases k14 : k = 14
        · subst k14
          rw [if_pos rfl] at h
          rcases st with _ | ⟨a, r⟩
          · cases h
          · simp only at h
            split at h
            · rename_i ha
              cases h
              have hg : g r.length = true := by rw [hl.1]; exact ha
              refine ⟨⟨by show 1 ≤ r.length + 1; omega, by omega⟩, by show r.length + 1 = r.length + 1 - 1 + 1; omega, ⟨?_, ?_⟩, fun _ => by show g (r.length + 1 - 1) = true; rw [Nat.add_sub_cancel]; exact hg, fun z => absurd z (by decide)⟩
              · show (if r.length = r.length + 1 - 1 then (if (14 : Nat) = 0 then _ else if 9 ≤ 14 ∧ 14 ≤ 11 then _ else if (14 : Nat) = 12 ∨ (14 : Nat) = 13 then _ else if (14 : Nat) = 14 then g (r.length + 1 - 1) else _) else _) = true
                rw [if_pos (by omega), if_neg (by decide), if_neg (by decide), if_neg (by decide), if_pos rfl, Nat.add_sub_cancel]; exact hg
              · exact LR.upd r hl.2 (by show r.length ≤ r.length + 1 - 1; omega)
            · cases h
        · rw [if_neg k14] at h
          by_cases k15 : k = 15
          · subst k15
            rw [if_pos rfl] at h
            rcases st with _ | ⟨c, _ | ⟨b, _ | ⟨a, r⟩⟩⟩
            · cases h
            · cases h
            · cases h
            · simp only at h
              split at h
              · rename_i ha
                cases h
                have hg : g r.length = true := by rw [hl.2.2.1]; exact ha
                refine ⟨⟨by show 3 ≤ r.length + 1 + 1 + 1; omega, by omega⟩, by show r.length + 1 = r.length + 1 + 1 + 1 - 3 + 1; omega, ⟨?_, ?_⟩, fun z => absurd z (by decide), fun _ => by show g (r.length + 1 + 1 + 1 - 3) = true; rw [show r.length + 1 + 1 + 1 - 3 = r.length by omega]; exact hg⟩
                · show (if r.length = r.length + 1 + 1 + 1 - 3 then _ else _) = false
                  rw [if_pos (by omega)]; rfl
                · exact LR.upd r hl.2.2.2 (by show r.length ≤ r.length + 1 + 1 + 1 - 3; omega)
              · cases h
          · rw [if_neg k15] at h
            rcases st with _ | ⟨b, _ | ⟨a, r⟩⟩
            · cases h
            · cases h
            · simp only at h
              cases h
              have hnd : nd k = 2 := by unfold nd; rw [if_neg (by omega), if_neg k14, if_neg k15]
              refine ⟨⟨by rw [hnd]; show 2 ≤ r.length + 1 + 1; omega, by omega⟩, by rw [hnd]; show r.length + 1 = r.length + 1 + 1 - 2 + 1; omega, ⟨?_, ?_⟩, fun z => absurd z k14, fun z => absurd z k15⟩
              · show (if r.length = r.length + 1 + 1 - nd k then (if k = 0 then _ else if 9 ≤ k ∧ k ≤ 11 then true else if k = 12 ∨ k = 13 then g (r.length + 1 + 1 - 2) && g (r.length + 1 + 1 - 1) else if k = 14 then _ else false) else _) = (if 9 ≤ k ∧ k ≤ 11 then true else if k = 12 ∨ k = 13 then a && b else false)
                rw [hnd, if_pos (by omega), if_neg k0]
                split
                · rfl
                · split
                  · rw [show r.length + 1 + 1 - 2 = r.length by omega, show r.length + 1 + 1 - 1 = r.length + 1 by omega, hl.2.1, show g (r.length + 1) = b from hl.1]
                  · rfl
              · exact LR.upd r hl.2.2 (by rw [hnd]; show r.length ≤ r.length + 1 + 1 - 2; omega)
theorem run_ok {kd nu : Nat → Nat} {f : Nat} : ∀ (d : List (Nat × Nat)) (i : Nat) (st st2 : List Bool), (∀ j s, d[j]? = some s → kd (f + (i + j)) = s.1 ∧ nu (f + (i + j)) = s.2 ∧ s.1 < 16) → zAt kd f i = st.length → LR st (flAt kd nu f i) → runT d st = some st2 → (∀ j, i ≤ j → j < i + d.length → (nd (kd (f + j)) ≤ zAt kd f j ∧ zAt kd f j ≤ 61) ∧ (kd (f + j) = 14 → flAt kd nu f j (zAt kd f j - 1) = true) ∧ (kd (f + j) = 15 → flAt kd nu f j (zAt kd f j - 3) = true)) ∧ zAt kd f (i + d.length) = st2.length ∧ LR st2 (flAt kd nu f (i + d.length))
  | [], i, st, st2, _, hz, hl, hr => by
    cases hr
    exact ⟨fun j h1 h2 => absurd h2 (by show ¬ j < i + 0; omega), hz, hl⟩
  | (k, v) :: d, i, st, st2, hd, hz, hl, hr => by
    obtain ⟨e1, e2, e3⟩ := hd 0 (k, v) rfl
    rw [Nat.add_zero] at e1 e2
    have hr : (stT (k, v) st).bind (runT d) = some st2 := hr
    rcases hs : stT (k, v) st with _ | st1
    · rw [hs] at hr; cases hr
    · rw [hs] at hr
      have hr : runT d st1 = some st2 := hr
      obtain ⟨a1, a2, a3, a4, a5⟩ := stT_ok e3 hs hl
      have z1 : zAt kd f (i + 1) = st1.length := by
        show zAt kd f i - nd (kd (f + i)) + 1 = _
        rw [e1, hz, a2]
      have l1 : LR st1 (flAt kd nu f (i + 1)) := by
        show LR st1 (stF (kd (f + i)) (nu (f + i)) (zAt kd f i) (flAt kd nu f i))
        rw [e1, e2, hz]; exact a3
      obtain ⟨b1, b2, b3⟩ := run_ok d (i + 1) st1 st2 (fun j s q => by
        have := hd (j + 1) s (by simpa using q)
        rwa [show i + (j + 1) = i + 1 + j by omega] at this) z1 l1 hr
      rw [show i + 1 + d.length = i + ((k, v) :: d).length by show _ = i + (d.length + 1); omega] at b1 b2 b3
      refine ⟨fun j h1 h2 => ?_, b2, b3⟩
      by_cases e : j = i
      · subst e
        rw [e1, hz]
        exact ⟨a1, a4, a5⟩
      · exact b1 j (by omega) h2
/-- the plan as rows of kinds and numbers -/
def plP (pl : Pl) (c : Cd) : aP := (fun t => (c.getD t (0, 0)).1, fun t => (c.getD t (0, 0)).2, pl.2.2.2.2.2.2.1, pl.2.2.2.2.2.2.2)
def RuI (pl : Pl) (c : Cd) : Prop := ∀ i, i < 5 → (pl.2.2.2.2.2.2.1 i = pl.2.2.2.2.2.2.2 i ∧ pl.2.2.2.2.2.2.2 i = 0) ∨ ∃ a d z, c = a ++ d ++ z ∧ pl.2.2.2.2.2.2.1 i = a.length ∧ pl.2.2.2.2.2.2.2 i = a.length + d.length ∧ 1 ≤ d.length ∧ Sh d 43 (decide (i = 2 ∨ i = 3)) ∧ ∀ s ∈ d, OkS (9 + i) s
theorem may_alw : ∀ r, r < 5 → ∀ v, v < 27 → mayW (nI v) (9 + r) = true → alw r v := by
  have h : ∀ r, r < 5 → ∀ v, v < 27 → (!mayW (nI v) (9 + r) || decide (v = 1 ∨ v = 2 ∨ v = 4 ∨ v = 5 ∨ v = 14 ∨ v = 16 ∨ (r ≤ 1 ∧ (v = 17 ∨ v = 18)) ∨ ((r = 2 ∨ r = 3) ∧ (v = 7 ∨ v = 8 ∨ v = 19)))) = true := by decide +kernel
  intro r hr v hv hm
  have := h r hr v hv
  rw [hm, Bool.not_true, Bool.false_or] at this
  have q := of_decide_eq_true this
  exact q
theorem RuI.at {pl : Pl} {c a d z : Cd} {i j : Nat} {s : Nat × Nat} (e : c = a ++ d ++ z) (hs : d[j]? = some s) : c.getD (a.length + j) (0, 0) = s := by
  have hj := (List.getElem?_eq_some_iff.mp hs).1
  rw [e, List.getD_eq_getElem?_getD, List.append_assoc, List.getElem?_append_right (by omega), Nat.add_sub_cancel_left, List.getElem?_append_left hj, hs]
  rfl
theorem OkS.k {sc : Nat} {s : Nat × Nat} (h : OkS sc s) : s.1 < 16 ∧ s.2 < 16384 ∧ (s.1 = 1 → s.2 < 20) := by
  rcases h with h | h | h
  · exact ⟨by omega, by omega, fun z => by omega⟩
  · refine ⟨by omega, by omega, fun _ => ?_⟩
    have : ∀ v, v < 27 → ∀ b1 b2 : Bool, (if nI v = 1 ∨ nI v = 2 ∨ nI v = 4 ∨ nI v = 5 ∨ nI v = 14 ∨ nI v = 16 then true else if nI v = 17 ∨ nI v = 18 then b1 else if nI v = 7 ∨ nI v = 8 ∨ nI v = 19 then b2 else false) = true → v < 20 := by decide +kernel
    exact this s.2 h.2.1 _ _ h.2.2
  · exact ⟨by omega, by omega, fun z => by omega⟩
theorem RuI.t {pl : Pl} {c : Cd} (h : RuI pl c) : PlanT (plP pl c) ∧ ∀ r, r < 5 → (plP pl c).2.2.1 r ≤ (plP pl c).2.2.2 r ∧ (plP pl c).2.2.2 r ≤ c.length ∧ ∀ t, (plP pl c).2.2.1 r ≤ t → t < (plP pl c).2.2.2 r → t < c.length ∧ (plP pl c).1 t < 16 ∧ (plP pl c).2.1 t < 16384 ∧ ((plP pl c).1 t = 1 → (plP pl c).2.1 t < 20) := by
  have key : ∀ r, r < 5 → ∀ t, pl.2.2.2.2.2.2.1 r ≤ t → t < pl.2.2.2.2.2.2.2 r → ∃ s, c.getD t (0, 0) = s ∧ OkS (9 + r) s ∧ t < c.length := fun r hr t h1 h2 => by
    rcases h r hr with q | ⟨a, d, z, e, f1, f2, f3, f4, f5⟩
    · omega
    · have hj : t - a.length < d.length := by omega
      have hs : d[t - a.length]? = some (d[t - a.length]) := List.getElem?_eq_getElem hj
      refine ⟨d[t - a.length], ?_, f5 _ (List.getElem_mem hj), by rw [e]; simp; omega⟩
      have := RuI.at (pl := pl) (i := 0) e hs
      rwa [show a.length + (t - a.length) = t by omega] at this
  refine ⟨⟨fun r hr t h1 h2 hk => ?_, fun r hr => ?_⟩, fun r hr => ⟨?_, ?_, fun t h1 h2 => ?_⟩⟩
  · obtain ⟨s, e, o, _⟩ := key r hr t h1 h2
    have hk : (c.getD t (0, 0)).1 = 1 := hk
    show alw r (c.getD t (0, 0)).2
    rw [e] at hk ⊢
    rcases o with o | o | o
    · omega
    · exact may_alw r hr _ o.2.1 o.2.2
    · omega
  · rcases h r hr with q | ⟨a, d, z, e, f1, f2, f3, f4, f5⟩
    · have q : (plP pl c).2.2.1 r = (plP pl c).2.2.2 r := q.1
      rw [q, Nat.sub_self]
      exact ⟨fun i hi => absurd hi (Nat.not_lt_zero _), fun i hi => absurd hi (Nat.not_lt_zero _), fun _ w => absurd w (Nat.lt_irrefl _)⟩
    · have g1 : (plP pl c).2.2.1 r = a.length := f1
      have g2 : (plP pl c).2.2.2 r = a.length + d.length := f2
      rw [g1, g2, Nat.add_sub_cancel_left]
      obtain ⟨b, hb, hbt⟩ := f4 [] (by decide)
      obtain ⟨r1, r2, r3⟩ := run_ok (kd := (plP pl c).1) (nu := (plP pl c).2.1) (f := a.length) d 0 [] [b] (fun j s hs => by
        rw [Nat.zero_add]
        have := RuI.at (pl := pl) (i := 0) e hs
        exact ⟨by show (c.getD (a.length + j) (0, 0)).1 = _; rw [this], by show (c.getD (a.length + j) (0, 0)).2 = _; rw [this], (f5 s (List.mem_of_getElem? hs)).k.1⟩) rfl trivial hb
      rw [Nat.zero_add] at r1 r2 r3
      refine ⟨fun i hi => (r1 i (Nat.zero_le _) hi).1, fun i hi => (r1 i (Nat.zero_le _) hi).2, fun h23 _ => ?_⟩
      have := r3.1
      have hbt := hbt (decide_eq_true h23)
      rw [hbt] at this
      exact this
  · rcases h r hr with q | ⟨a, d, z, e, f1, f2, f3, f4, f5⟩
    · exact Nat.le_of_eq q.1
    · show pl.2.2.2.2.2.2.1 r ≤ pl.2.2.2.2.2.2.2 r; omega
  · rcases h r hr with q | ⟨a, d, z, e, f1, f2, f3, f4, f5⟩
    · show pl.2.2.2.2.2.2.2 r ≤ c.length; omega
    · show pl.2.2.2.2.2.2.2 r ≤ c.length; rw [e]; simp; omega
  · obtain ⟨s, e, o, hl⟩ := key r hr t h1 h2
    refine ⟨hl, ?_⟩
    show (c.getD t (0, 0)).1 < 16 ∧ (c.getD t (0, 0)).2 < 16384 ∧ ((c.getD t (0, 0)).1 = 1 → (c.getD t (0, 0)).2 < 20)
    rw [e]
    exact o.k
