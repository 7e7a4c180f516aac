theorem isS_x {c sc : Nat} {r : Er} (h : isS c r = true) : isK 3 r = false ∧ isNm sc r = false ∧ ∀ k, isW k r = false := by
  rcases r with e | ⟨t, c'⟩
  · cases h
  · have h := of_decide_eq_true h
    refine ⟨decide_eq_false (by omega), ?_, fun k => decide_eq_false (fun q => by omega)⟩
    show (decide (t.1 = 2) && mayW (ownW t.2.2.1) sc) = false
    rw [decide_eq_false (by omega)]; rfl
theorem isW_x {w sc : Nat} {r : Er} (h : isW w r = true) : isK 3 r = false ∧ isNm sc r = mayW (nI w) sc ∧ (∀ k, isS k r = false) ∧ ∀ k, nI k ≠ nI w → isW k r = false := by
  rcases r with e | ⟨t, c'⟩
  · cases h
  · have h := of_decide_eq_true h
    refine ⟨decide_eq_false (by omega), ?_, fun k => decide_eq_false (fun q => by omega), fun k hk => decide_eq_false (fun q => hk (q.2.symm.trans h.2))⟩
    show (decide (t.1 = 2) && mayW (ownW t.2.2.1) sc) = mayW (nI w) sc
    rw [decide_eq_true h.1, h.2]; rfl
theorem may_no {w sc : Nat} (h : w = 20 ∨ w = 23 ∨ w = 24 ∨ w = 25 ∨ w = 26) : mayW (nI w) sc = false := by
  unfold mayW
  rcases h with rfl | rfl | rfl | rfl | rfl <;> rw [if_neg (by decide), if_neg (by decide), if_neg (by decide)]
theorem ct_part {tb : Nat → Nat} {n sc o : Nat} {sm te : Er → Er} (hb : ∀ i, i < n → tb i < 256) (hs : o < 7 → CtS tb n sc (o + 1) 5 sm) (ht : o < 7 → CtT tb n sc (o + 1) 1 1 te) (hsg : o < 7 → GF n 1 sm) (htg : o < 7 → GF n 1 te) (hno : o < 7 → ∀ r, TkR n r → isAr (sm r) = false ∧ isW 22 (te r) = false ∧ isW 21 (te r) = false) : CtS tb n sc o 7 (partF tb n sc o sm te) := by
  intro k ph bg pr ω fs r R hr hph hbg hω K
  have K0 : Go tb n sc (true, ⟨k, ph, false, pr, ω⟩ :: fs, o, partF tb n sc o sm te r) R := K [] _ (adL_nil _) (fun x hx => by cases hx)
  clear K
  have ff : ¬ (false = true) := by decide
  have hfirst : (tst k && bg && isW 23 r) = false ∧ (tst k && bg && isS 91 r) = false ∧ (tst k && bg && isW 24 r) = false := by
    cases q : (tst k && bg) with
    | false => exact ⟨rfl, rfl, rfl⟩
    | true => obtain ⟨a, b, c⟩ := hbg q; rw [a, b, c]; exact ⟨rfl, rfl, rfl⟩
  refine .op _ _ _ _ _ ?_
  unfold opF
  simp only [Fr.k, Fr.ph, Fr.bg, Fr.pr, Fr.ω]
  rw [if_neg (by rw [hfirst.1]; decide), if_neg (by rw [hfirst.2.1]; decide), if_neg (by rw [hfirst.2.2]; decide)]
  have hn : TkR n (nx tb n r) := (ad_nx0 hb r).1.1 hr
  have hnn : TkR n (nx tb n (nx tb n r)) := (ad_nx0 hb _).1.1 hn
  by_cases c40 : isS 40 r = true
  · rw [if_pos c40]
    obtain ⟨x1, x2, x3⟩ := isS_x (sc := sc) c40
    have hp : partF tb n sc o sm te r = if 7 ≤ o then stp 5 r else tkS tb n 41 (sm (nx tb n r)) := by
      unfold partF
      rw [if_neg (by rw [x1]; decide), if_neg (by rw [x2]; decide), if_neg (by rw [x3, x3]; decide), if_neg (by rw [x3]; decide), if_pos c40]
    rw [hp] at K0
    unfold opnF
    by_cases h7 : 7 ≤ o
    · rw [if_pos h7] at K0 ⊢
      obtain ⟨e, he⟩ := stp_r (k := 5) r
      rw [he] at K0 ⊢
      exact K0.ee
    · rw [if_neg h7] at K0 ⊢
      have h7 : o < 7 := by omega
      refine in_sum (Or.inl rfl) (hs h7) (hno h7 _ hn).1 hn ?_ ?_
      · cases c : isS 41 (sm (nx tb n r)) with
        | true => rw [tkS_y c] at K0; exact Or.inl K0
        | false => exact Or.inr rfl
      · intro c
        rw [tkS_n c] at K0
        exact ⟨_, _, _, K0⟩
  · rw [if_neg c40]
    have closing : ∀ (X : Er), o < 7 → TkR n X → ∀ p, Go tb n sc (true, ⟨k, ph, false, pr, ω⟩ :: fs, o, adS (p, 0) (tkS tb n 41 (sm (tkS tb n 44 (sm X))))) R → Go tb n sc (false, ⟨3, 0, true, p, []⟩ :: ⟨k, ph, false, pr, ω⟩ :: fs, o + 1, X) R ∧ Go tb n sc (false, ⟨3, 0, false, p, []⟩ :: ⟨k, ph, false, pr, ω⟩ :: fs, o + 1, X) R := by
      intro X h7 hX p G
      have key : ∀ bg2, Go tb n sc (false, ⟨3, 0, bg2, p, []⟩ :: ⟨k, ph, false, pr, ω⟩ :: fs, o + 1, X) R := by
        intro bg2
        refine in_com (hs h7) (hno h7 _ hX).1 hX ?_ ?_
        · intro c
          rw [tkS_y c] at G
          have hX2 : TkR n (nx tb n (sm X)) := (ad_nx0 hb _).1.1 ((hsg h7 _).1 hX)
          refine in_sum (Or.inr rfl) (hs h7) (hno h7 _ hX2).1 hX2 ?_ ?_
          · cases c2 : isS 41 (sm (nx tb n (sm X))) with
            | true => rw [tkS_y c2, ← nx_adS] at G; exact Or.inl G
            | false => exact Or.inr rfl
          · intro c2
            rw [tkS_n c2] at G
            obtain ⟨e, he⟩ := stp_r (k := 1) (sm (nx tb n (sm X)))
            rw [he] at G ⊢
            exact ⟨_, _, _, G⟩
        · intro c
          rw [tkS_n c] at G
          obtain ⟨e, he⟩ := stp_r (k := 1) (sm X)
          rw [he, (hsg h7 _).2.1 e rfl] at G
          rw [he]
          exact ⟨_, _, _, G⟩
      exact ⟨key _, key _⟩
    have brk : ∀ (kk p : Nat) (Y : Er), partF tb n sc o sm te r = (if isS 40 (nx tb n r) = true then (if 7 ≤ o then stp 5 (nx tb n r) else Y) else stp 1 (nx tb n r)) → (o < 7 → Go tb n sc (true, ⟨k, ph, false, pr, ω⟩ :: fs, o, Y) R → Go tb n sc (false, ⟨kk, 0, true, p, []⟩ :: ⟨k, ph, false, pr, ω⟩ :: fs, o + 1, nx tb n (nx tb n r)) R) → Go tb n sc (if isS 40 (nx tb n r) = true then opnF tb n kk p (⟨k, ph, false, pr, ω⟩ :: fs) o (nx tb n r) else (false, ⟨k, ph, false, pr, ω⟩ :: fs, o, stp 1 (nx tb n r))) R := by
      intro kk p Y hp hY
      rw [hp] at K0
      by_cases c : isS 40 (nx tb n r) = true
      · rw [if_pos c] at K0 ⊢
        unfold opnF
        by_cases h7 : 7 ≤ o
        · rw [if_pos h7] at K0 ⊢
          obtain ⟨e, he⟩ := stp_r (k := 5) (nx tb n r)
          rw [he] at K0 ⊢
          exact K0.ee
        · rw [if_neg h7] at K0 ⊢
          exact hY (by omega) K0
      · rw [if_neg c] at K0 ⊢
        obtain ⟨e, he⟩ := stp_r (k := 1) (nx tb n r)
        rw [he] at K0 ⊢
        exact K0.ee
    by_cases c25 : isW 25 r = true
    · obtain ⟨x1, x2, x3, x4⟩ := isW_x (sc := sc) c25
      rw [c25, Bool.true_or, if_pos rfl, if_pos rfl, if_pos rfl]
      refine brk 3 7 _ (?_ : partF tb n sc o sm te r = lesF tb n o sm r) ?_ |> (fun h => ?_)
      all_goals skip
      · exact h
      · unfold partF
        rw [if_neg (by rw [x1]; decide), if_neg (by rw [x2, may_no (by decide)]; decide), c25, Bool.true_or, if_pos rfl]
      · intro h7 G
        rw [c25, if_pos rfl] at G
        exact (closing _ h7 hnn _ G).1
    · have c25' := Bool.eq_false_iff.mpr c25
      by_cases c26 : isW 26 r = true
      · obtain ⟨x1, x2, x3, x4⟩ := isW_x (sc := sc) c26
        rw [c25', c26, Bool.false_or, Bool.true_or, if_pos rfl, if_neg ff, if_pos rfl, if_neg ff, if_pos rfl]
        refine brk 3 8 _ (?_ : partF tb n sc o sm te r = lesF tb n o sm r) ?_ |> (fun h => ?_)
        · exact h
        · unfold partF
          rw [if_neg (by rw [x1]; decide), if_neg (by rw [x2, may_no (by decide)]; decide), c26, Bool.or_true, if_pos rfl]
        · intro h7 G
          rw [c25', if_neg (by decide)] at G
          exact (closing _ h7 hnn _ G).1
      · have c26' := Bool.eq_false_iff.mpr c26
        by_cases c20 : isW 20 r = true
        · obtain ⟨x1, x2, x3, x4⟩ := isW_x (sc := sc) c20
          rw [c25', c26', c20, Bool.false_or, Bool.false_or, if_pos rfl, if_neg ff, if_neg ff, if_neg ff, if_neg ff]
          refine brk 6 15 _ (?_ : partF tb n sc o sm te r = choF tb n o sm te r) ?_ |> (fun h => ?_)
          · exact h
          · unfold partF
            rw [if_neg (by rw [x1]; decide), if_neg (by rw [x2, may_no (by decide)]; decide), c25', c26', Bool.false_or, if_neg (by decide), if_pos c20]
          · intro h7 G
            refine in_tes (Or.inl ⟨rfl, rfl⟩) (ht h7) (hno h7 _ hnn).2.1 (hno h7 _ hnn).2.2 hnn ?_ ?_
            · intro c
              rw [tkS_y c] at G
              exact ⟨fun _ => (closing _ h7 ((ad_nx0 hb _).1.1 ((htg h7 _).1 hnn)) _ G).2, fun q => absurd q (by decide)⟩
            · intro c
              rw [tkS_n c] at G
              obtain ⟨e, he⟩ := stp_r (k := 1) (te (nx tb n (nx tb n r)))
              rw [he, (hsg h7 _).2.1 e rfl, tkS_e, (hsg h7 _).2.1 e rfl] at G
              rw [he]
              exact ⟨_, _, _, G⟩
        · have c20' := Bool.eq_false_iff.mpr c20
          rw [c25', c26', c20', Bool.or_false, Bool.or_false, if_neg (by decide)]
          unfold partF at K0
          by_cases c3 : isK 3 r = true
          · rw [if_pos c3] at K0 ⊢; exact K0
          · rw [if_neg c3] at K0 ⊢
            by_cases cn : isNm sc r = true
            · rw [if_pos cn] at K0 ⊢; exact K0
            · rw [if_neg cn] at K0 ⊢
              rw [c25', c26', Bool.or_false, if_neg (by decide), if_neg c20, if_neg c40] at K0
              exact K0
theorem ct_fact {tb : Nat → Nat} {n sc o : Nat} {sm fa te : Er → Er} (hb : ∀ i, i < n → tb i < 256) (hs : CtS tb n sc o 5 sm) (hsg : GF n 1 sm) (hno : ∀ r, TkR n r → isAr (sm r) = false) (hf : o < 7 → CtT tb n sc (o + 1) 3 4 fa) (ht : o < 7 → CtT tb n sc (o + 1) 1 1 te) (hn2 : o < 7 → ∀ r, TkR n r → isW 22 (te r) = false ∧ isW 21 (te r) = false) : CtT tb n sc o 3 4 (factF tb n o fa te (compF tb n sm)) := by
  intro k pr ω fs r R hr htk hω K
  have hn : TkR n (nx tb n r) := (ad_nx0 hb r).1.1 hr
  have K2 : Go tb n sc (true, ⟨k, 2, false, pr, ω⟩ :: fs, o, factF tb n o fa te (compF tb n sm) r) R := K [] _ 2 (adL_nil _) (fun x hx => by cases hx) (by decide) (fun q => absurd q (by decide))
  by_cases c23 : isW 23 r = true
  · have e : factF tb n o fa te (compF tb n sm) r = if 7 ≤ o then stp 5 r else adS (14, 0) (fa (nx tb n r)) := by unfold factF; rw [if_pos c23]
    rw [e] at K2 K
    refine .op _ _ _ _ _ ?_
    unfold opF
    simp only [Fr.k, Fr.ph, Fr.bg, Fr.pr, Fr.ω]
    rw [htk, c23, if_pos (show (true && true && true) = true from rfl)]
    by_cases h7 : 7 ≤ o
    · rw [if_pos h7] at K2 ⊢
      obtain ⟨e, he⟩ := stp_r (k := 5) r
      rw [he] at K2 ⊢
      exact K2.ee
    · rw [if_neg h7] at K ⊢
      refine hf (by omega) k pr (14 :: ω) fs _ R hn htk (tpL.c (by decide)) (fun δ r' ph q1 q2 q3 q4 => ?_)
      have := K (δ ++ [14]) r' ph (by rw [← adL_app, q1, adL_one]) (fun x hx => by
        rcases List.mem_append.mp hx with q | q
        · exact q2 x q
        · simp at q; rw [q]; decide) q3 q4
      rw [List.append_assoc, List.singleton_append, cd14_a, show cd14 [14] = 1 from rfl] at this
      rwa [show o + 1 + cd14 δ = o + (cd14 δ + 1) by omega]
  · have c23' := Bool.eq_false_iff.mpr c23
    by_cases c91 : isS 91 r = true
    · have e : factF tb n o fa te (compF tb n sm) r = if 7 ≤ o then stp 5 r else tkS tb n 93 (te (nx tb n r)) := by unfold factF; rw [if_neg c23, if_pos c91]
      rw [e] at K2
      refine .op _ _ _ _ _ ?_
      unfold opF
      simp only [Fr.k, Fr.ph, Fr.bg, Fr.pr, Fr.ω]
      rw [c23', Bool.and_false, if_neg (by decide), htk, c91, if_pos (show (true && true && true) = true from rfl)]
      unfold opnF
      by_cases h7 : 7 ≤ o
      · rw [if_pos h7] at K2 ⊢
        obtain ⟨e, he⟩ := stp_r (k := 5) r
        rw [he] at K2 ⊢
        exact K2.ee
      · rw [if_neg h7] at K2 ⊢
        have h7 : o < 7 := by omega
        refine in_tes (Or.inr ⟨rfl, rfl⟩) (ht h7) (hn2 h7 _ hn).1 (hn2 h7 _ hn).2 hn ?_ ?_
        · intro c
          rw [tkS_y c] at K2
          exact ⟨fun q => absurd q (by decide), fun _ => K2⟩
        · intro c
          rw [tkS_n c] at K2
          exact ⟨_, _, _, K2⟩
    · have c91' := Bool.eq_false_iff.mpr c91
      by_cases c24 : isW 24 r = true
      · have e : factF tb n o fa te (compF tb n sm) r = nx tb n (adS (0, 1) r) := by unfold factF; rw [if_neg c23, if_neg c91, if_pos c24]
        rw [e] at K2
        refine .op _ _ _ _ _ ?_
        unfold opF
        simp only [Fr.k, Fr.ph, Fr.bg, Fr.pr, Fr.ω]
        rw [c23', c91', Bool.and_false, if_neg (by decide), if_neg (by decide), htk, c24, if_pos (show (true && true && true) = true from rfl)]
        exact K2
      · have c24' := Bool.eq_false_iff.mpr c24
        have e : factF tb n o fa te (compF tb n sm) r = compF tb n sm r := by unfold factF; rw [if_neg c23, if_neg c91, if_neg c24]
        rw [e] at K2 K
        refine hs k 0 true pr ω fs r R hr (by omega) (fun _ => ⟨c23', c91', c24'⟩) (hω.up (by omega)) (fun δ r' q1 q2 => ?_)
        have hA : isAr r' = false := by rw [← adL_Ar δ r', q1]; exact hno r hr
        have hC : isCm r' = isCm (sm r) := by rw [← q1, adL_Cm]
        refine .go _ _ _ _ _ ?_
        unfold gnF
        simp only [Fr.k, Fr.ph, Fr.bg, Fr.pr, Fr.ω]
        rw [hA, Bool.and_false, if_neg (by decide), htk, Bool.true_and, Bool.true_and, Bool.true_and, show decide True = true from rfl, Bool.true_and]
        by_cases cc : isCm (sm r) = true
        · have hcf : compF tb n sm r = adS (opC (sm r), 0) (sm (nx tb n (sm r))) := by unfold compF; exact if_pos cc
          rw [hcf] at K
          rw [if_pos (by rw [hC]; exact cc), (tk_a (hω.up (by omega)) δ q2).1, (tk_a (hω.up (by omega)) δ q2).2, q1, cd0 (m := 5) (by omega) δ q2, Nat.sub_zero]
          have hr2 : TkR n (nx tb n (sm r)) := (ad_nx0 hb _).1.1 ((hsg r).1 hr)
          have ho : opC r' = opC (sm r) := by rw [← q1, adL_opC]
          have hrk : rkC (opC r') = 4 := by unfold opC; (repeat' split) <;> rfl
          refine hs k 1 false pr (opC r' :: ω) fs _ R hr2 (by omega) (fun q => by rw [Bool.and_false] at q; cases q) (tpL.c (by omega)) (fun δ2 r2 z1 z2 => ?_)
          have := K (δ2 ++ [opC r']) r2 1 (by rw [← adL_app, z1, ho, adL_one]) (fun x hx => by
            rcases List.mem_append.mp hx with q | q
            · have := z2 x q; omega
            · simp at q; rw [q, hrk]; decide) (by decide) (fun _ => by rw [← adL_Ar δ2 r2, z1]; exact hno _ hr2)
          rw [List.append_assoc, List.singleton_append, cd14_a, cd0 (m := 5) (by omega) δ2 z2, cd0 (m := 4) (by omega) [opC r'] (fun x hx => by simp at hx; rw [hx, hrk]; exact Nat.le_refl _)] at this
          exact this
        · have hcf : compF tb n sm r = stp 1 (sm r) := by unfold compF; exact if_neg cc
          rw [hcf, ← q1, adL_stp] at K2
          obtain ⟨e, he⟩ := stp_r (k := 1) r'
          rw [he] at K2
          rw [if_neg (by rw [hC]; exact cc), if_pos trivial, if_pos rfl, he]
          split <;> exact K2.ee
theorem ct_mk {tb : Nat → Nat} {n sc o : Nat} {q : (Er → Er) × (Er → Er) × (Er → Er)} (hb : ∀ i, i < n → tb i < 256) (hq : o < 7 → GF n 1 q.1 ∧ GF n 1 q.2.1 ∧ GF n 1 q.2.2) (hz : o < 7 → ∀ r, TkR n r → isAr (q.1 r) = false ∧ isW 22 (q.2.1 r) = false ∧ isW 21 (q.2.1 r) = false) (h1 : o < 7 → CtS tb n sc (o + 1) 5 q.1 ∧ CtT tb n sc (o + 1) 1 1 q.2.1 ∧ CtT tb n sc (o + 1) 3 4 q.2.2) : CtS tb n sc o 5 (mkL tb n sc o q).1 ∧ CtT tb n sc o 1 1 (mkL tb n sc o q).2.1 ∧ CtT tb n sc o 3 4 (mkL tb n sc o q).2.2 := by
  have z : ∀ {F : Er → Er}, GF n 1 F → GF n 0 F := fun h r => (h r).le (by omega)
  have hp : GF n 1 (partF tb n sc o q.1 q.2.1) := g_part hb (fun h => (hq h).1) (fun h => (hq h).2.1)
  have gm := g_mk (sc := sc) hb hq
  have hs : CtS tb n sc o 5 (mkL tb n sc o q).1 := ct_sum hb (z (g_prod hb hp)) (ct_prod hb (z hp) (ct_part hb (fun h => (h1 h).1) (fun h => (h1 h).2.1) (fun h => (hq h).1) (fun h => (hq h).2.1) hz))
  have hf : CtT tb n sc o 3 4 (mkL tb n sc o q).2.2 := ct_fact hb hs gm.1 (fun r hr => (no_mk (sc := sc) hb hq r hr).1) (fun h => (h1 h).2.2) (fun h => (h1 h).2.1) (fun h r hr => (hz h r hr).2)
  exact ⟨hs, ct_test hb (z (g_word hb gm.2.2)) (ct_both hb (z gm.2.2) hf), hf⟩
theorem ct_lvl {tb : Nat → Nat} {n sc : Nat} (hb : ∀ i, i < n → tb i < 256) : ∀ m, m ≤ 7 → CtS tb n sc (7 - m) 5 (lvl tb n sc m).1 ∧ CtT tb n sc (7 - m) 1 1 (lvl tb n sc m).2.1 ∧ CtT tb n sc (7 - m) 3 4 (lvl tb n sc m).2.2
  | 0, _ => ct_mk hb (fun h => absurd h (by decide)) (fun h => absurd h (by decide)) (fun h => absurd h (by decide))
  | m + 1, hm => by
    have ih := ct_lvl (sc := sc) hb m (by omega)
    rw [show 7 - m = (7 - (m + 1)) + 1 by omega] at ih
    show CtS tb n sc (7 - (m + 1)) 5 (mkL tb n sc (6 - m) (lvl tb n sc m)).1 ∧ CtT tb n sc (7 - (m + 1)) 1 1 (mkL tb n sc (6 - m) (lvl tb n sc m)).2.1 ∧ CtT tb n sc (7 - (m + 1)) 3 4 (mkL tb n sc (6 - m) (lvl tb n sc m)).2.2
    rw [show 6 - m = 7 - (m + 1) by omega]
    refine ct_mk hb (fun _ => g_lvl hb m) (fun _ r hr => ?_) (fun _ => ih)
    cases m with
    | zero => exact no_mk hb (fun h => absurd h (by decide)) r hr
    | succ m => exact no_mk hb (fun _ => g_lvl hb m) r hr
/-- a rule's sum or test: from the start of reads to its end -/
theorem go_rule {tb : Nat → Nat} {n sc : Nat} (hb : ∀ i, i < n → tb i < 256) (b : Bool) (pr : Nat) (r : Er) (hr : TkR n r) : Go tb n sc (false, [⟨if b = true then 1 else 0, 0, true, pr, []⟩], 0, r) (if b = true then (lvl tb n sc 7).2.1 r else (lvl tb n sc 7).1 r) := by
  obtain ⟨h1, h2, _⟩ := ct_lvl (sc := sc) hb 7 (Nat.le_refl _)
  have hn : isAr ((lvl tb n sc 7).1 r) = false ∧ isW 22 ((lvl tb n sc 7).2.1 r) = false ∧ isW 21 ((lvl tb n sc 7).2.1 r) = false := no_mk hb (fun _ => g_lvl hb 6) r hr
  cases b with
  | false =>
    refine h1 0 0 true pr [] [] r _ hr (by omega) (fun q => by cases q) (tpL.nil _) (fun δ r' q1 q2 => ?_)
    rw [List.append_nil]
    refine go_sum (r := r) rfl (by rw [← adL_Ar δ r', q1]; exact hn.1) ?_
    rw [if_pos (by decide), (tk_1 δ).1, q1]
    exact .fin _ _
  | true =>
    refine h2 1 pr [] [] r _ hr rfl (tpL.nil _) (fun δ r' ph q1 q2 q3 q4 => ?_)
    rw [List.append_nil]
    refine go_test q3 q4 (by rw [← adL_W δ, q1]; exact hn.2.1) (by rw [← adL_W δ, q1]; exact hn.2.2) ?_
    rw [if_pos (by decide), (tk_1 δ).1, q1]
    exact .fin _ _
