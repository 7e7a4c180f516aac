/-- the stains that are left -/
def lft (d : Nat → Int32) : Nat → List Nat
  | 0 => []
  | k + 1 => if d k = 0 then lft d k else lft d k ++ [k]
theorem lft_len (d : Nat → Int32) : ∀ k, (lft d k).length ≤ k
  | 0 => Nat.le_refl _
  | k + 1 => by
    have := lft_len d k
    simp only [lft]
    split
    · omega
    · rw [List.length_append]; simp; omega
theorem lft_mem (d : Nat → Int32) : ∀ k s, s ∈ lft d k ↔ s < k ∧ ¬ d s = 0
  | 0, s => by simp [lft]
  | k + 1, s => by
    have ih := lft_mem d k s
    simp only [lft]
    split
    · rename_i h
      rw [ih]
      constructor
      · rintro ⟨a, b⟩; exact ⟨by omega, b⟩
      · rintro ⟨a, b⟩
        refine ⟨?_, b⟩
        rcases Nat.lt_or_eq_of_le (Nat.le_of_lt_succ a) with q | q
        · exact q
        · rw [q] at b; exact absurd h b
    · rename_i h
      rw [List.mem_append, ih, List.mem_singleton]
      constructor
      · rintro (⟨a, b⟩ | rfl)
        · exact ⟨by omega, b⟩
        · exact ⟨by omega, h⟩
      · rintro ⟨a, b⟩
        rcases Nat.lt_or_eq_of_le (Nat.le_of_lt_succ a) with q | q
        · exact Or.inl ⟨q, b⟩
        · exact Or.inr q
def ndN (t : aT) : Nat := if t.2.1 = 0 ∧ ¬ t.1 = 0 then t.2.2.1.toNatClampNeg else 100000000
def needN (p : aP) (f5 f6 : Nat → Int32) (x : aX) (l : List Nat) (k b : Nat) : Nat := ndN (rubX p f5 f6 x b (l.getD k 0) 99)
theorem needN_le (p : aP) (f5 f6 : Nat → Int32) (x : aX) (l : List Nat) (k b : Nat) : needN p f5 f6 x l k b ≤ 99 ∨ needN p f5 f6 x l k b = 100000000 := by
  unfold needN ndN
  split
  · obtain ⟨m, hm, e⟩ := rubX_cnt p f5 f6 x b (l.getD k 0) 99
    rw [e, nI_clamp (by omega)]
    exact Or.inl hm
  · exact Or.inr rfl
def sumN (need : Nat → Nat → Nat) (r : List Nat) : Nat → Nat
  | 0 => 0
  | k + 1 => if sumN need r k < 100000000 then sumN need r k + need k (r.getD k 0) else sumN need r k
theorem sumN_le {need : Nat → Nat → Nat} (h : ∀ k b, need k b ≤ 100000000) (r : List Nat) : ∀ k, sumN need r k ≤ 200000000
  | 0 => Nat.zero_le _
  | k + 1 => by
    have ih := sumN_le h r k
    have := h k (r.getD k 0)
    simp only [sumN]
    split <;> omega
theorem sumN_st {need : Nat → Nat → Nat} {r : List Nat} {k : Nat} (h : ¬ sumN need r k < 100000000) : ∀ d, sumN need r (k + d) = sumN need r k
  | 0 => rfl
  | d + 1 => by
    show (if sumN need r (k + d) < 100000000 then _ else sumN need r (k + d)) = _
    rw [sumN_st h d, if_neg h]
def mtS (need : Nat → Nat → Nat) (many : Nat) (acc : Nat × List Nat) (r : List Nat) : Nat × List Nat := if sumN need r many < acc.1 then (sumN need r many, r) else acc
def mtR (need : Nat → Nat → Nat) (o many : Nat) : Nat × List Nat := (if many ≤ o then enumF o many [] else []).foldl (mtS need many) (100000000, [])
theorem lEq_eq : ∀ a b, lEq a b = true → a = b
  | [], [], _ => rfl
  | [], _ :: _, h => by simp [lEq] at h
  | _ :: _, [], h => by simp [lEq] at h
  | a :: l, b :: m, h => by
    simp only [lEq, Bool.and_eq_true] at h
    rw [Nat.eq_of_beq_eq_true h.1, lEq_eq l m h.2]
theorem rowB_iff {o many : Nat} {r : List Nat} (h : rowB o many r = true) : r.length = many ∧ (∀ c ∈ r, c < o) ∧ nodB r = true := by
  simp only [rowB, Bool.and_eq_true] at h
  exact ⟨Nat.eq_of_beq_eq_true h.1, fun c hc => blt_iff.mp (List.all_eq_true.mp h.2.1 c hc), h.2.2⟩
theorem chain_row {o many : Nat} {r : List Nat} {l : List (List Nat)} (h : chainB o many (r :: l) = true) : (r.length = many ∧ (∀ c ∈ r, c < o) ∧ nodB r = true) ∧ chainB o many l = true := by
  simp only [chainB, Bool.and_eq_true] at h
  exact ⟨rowB_iff h.1, h.2.2⟩
theorem chain_0 {o many : Nat} {r : List Nat} (h : chainB o many [r] = true) : (nextF o many many r).2 = false := by
  simp only [chainB, Bool.and_eq_true] at h
  simpa using h.2.1
theorem chain_1 {o many : Nat} {r r' : List Nat} {l : List (List Nat)} (h : chainB o many (r :: r' :: l) = true) : (nextF o many many r).2 = true ∧ (nextF o many many r).1 = r' := by
  rw [chainB] at h
  simp only [Bool.and_eq_true] at h
  exact ⟨h.2.1.1, lEq_eq _ _ h.2.1.2⟩
theorem getD_lt {r : List Nat} {o k : Nat} (h : ∀ c ∈ r, c < o) (hk : k < r.length) : r.getD k 0 < o := by
  refine h _ (List.mem_of_getElem? (i := k) ?_)
  rw [List.getD_eq_getElem?_getD, List.getElem?_eq_getElem hk]; rfl
theorem enum_0 {o many : Nat} (ho : o ≤ 6) (hm : many ≤ o) : ∃ l, enumF o many [] = List.range many :: l ∧ chainB o many (List.range many :: l) = true := by
  have h := all_chain o (by omega) many (by omega)
  simp only [allB, firstB, Bool.and_eq_true] at h
  obtain ⟨h1, h2⟩ := h
  cases he : enumF o many [] with
  | nil => rw [he] at h2; cases h2
  | cons r l =>
    rw [he] at h1 h2
    have := lEq_eq _ _ h2
    subst this
    exact ⟨l, rfl, h1⟩
set_option maxRecDepth 20000 in
theorem tm_findsLefts {N : Nat} {I : aI} {L : aL} {p : aP} {bk nb ns nh : Nat} {f5 f6 : Nat → Int32} {x : aX} {rs : List aRow} (hR : RS I bk nb ns nh p f5 f6 x rs) : Run 0 0 0 mX10_findsLefts [.ref 36] (St N I L) (RP (some (.int (nI (lft x.2.2.2.2 ns).length))) N L (fun I2 => Sm [72] I I2 ∧ ∀ k, k < (lft x.2.2.2.2 ns).length → I2 72 k = nI ((lft x.2.2.2.2 ns).getD k 0))) := by
  refine Run.of (ls := [some (.ref 36), none, none]) (by decide) (Nat.le_of_ble_eq_true rfl) rfl ?_
  obtain ⟨hP, hX, hK, hG, hrb⟩ := id hR
  obtain ⟨⟨h1, h2, hnb, hns, hnh, hcb, hcs, hch⟩, -⟩ := id hP
  obtain ⟨x1, x2, x3, x4, x5⟩ := id hX
  refine Ex.iconst (pc := 0) (v := 0) dX10_findsLefts_0 rfl ?_
  refine Ex.istore_n (pc := 1) (ls' := [some (.ref 36), some (.int 0), none]) dX10_findsLefts_1 rfl (by decide) rfl rfl ?_
  refine Ex.iconst (pc := 2) (v := 0) dX10_findsLefts_2 rfl ?_
  refine Ex.istore_n (pc := 3) (ls' := [some (.ref 36), some (.int 0), some (.int 0)]) dX10_findsLefts_3 rfl (by decide) rfl rfl ?_
  refine forUp (σ := aI) (P := fun k I2 => Ex 0 0 0 mX10_findsLefts 0 0 4 [some (.ref 36), some (.int (nI (lft x.2.2.2.2 k).length)), some (.int (nI k))] [] (St N I2 L) _) (Inv := fun k I2 => Sm [72] I I2 ∧ ∀ i, i < (lft x.2.2.2.2 k).length → I2 72 i = nI ((lft x.2.2.2.2 k).getD i 0)) ns ?_ ?_ 0 _ (Nat.zero_le _) ⟨Sm.rf, fun i hi => absurd hi (Nat.not_lt_zero _)⟩
  · rintro I2 ⟨hS, hi⟩
    have hb2 : I2 36 13 = nI bk := by rw [hS 36 (by decide)]; exact h2
    have hc2 : I2 41 bk = nI ns := by rw [hS 41 (by decide)]; exact hcs
    refine Ex.iload_n (pc := 4) dX10_findsLefts_4 rfl rfl ?_
    refine Ex.aload_n (pc := 5) dX10_findsLefts_5 rfl rfl ?_
    refine Ex.getR (pc := 6) dX10_findsLefts_6 fX10_63 (sh36 _) r36_17 ?_
    refine Ex.aload_n (pc := 9) dX10_findsLefts_9 rfl rfl ?_
    refine Ex.getI (pc := 10) dX10_findsLefts_10 fX10_51 (sh36 _) ?_
    refine Ex.iald (pc := 13) (j := bk) dX10_findsLefts_13 (sh41 _) (ixX hb2 h1 (by decide)) (ixX2 hb2 (by omega)) ?_
    rw [hc2]
    refine Ex.icmp_ge (pc := 14) (tgt := 45) dX10_findsLefts_14 (by decide) (fun _ => ?_) (fun c14 => absurd (nI_le (Nat.le_refl _) (by omega)) c14)
    refine Ex.iload_n (pc := 45) dX10_findsLefts_45 rfl rfl ?_
    refine Ex.iret (pc := 46) rfl rfl rfl dX10_findsLefts_46 (Nat.le_refl _) (Nat.le_refl _) ?_
    exact ⟨_, rfl, rfl, hS, hi⟩
  · rintro k I2 hk ⟨hS, hi⟩ ih
    have hb2 : I2 36 13 = nI bk := by rw [hS 36 (by decide)]; exact h2
    have hc2 : I2 41 bk = nI ns := by rw [hS 41 (by decide)]; exact hcs
    have e5 : I2 66 k = x.2.2.2.2 k := by have := x5 k hk; rw [show 6 * 0 + k = k by omega] at this; rw [hS 66 (by decide)]; exact this
    have hlen := lft_len x.2.2.2.2 k
    refine Ex.iload_n (pc := 4) dX10_findsLefts_4 rfl rfl ?_
    refine Ex.aload_n (pc := 5) dX10_findsLefts_5 rfl rfl ?_
    refine Ex.getR (pc := 6) dX10_findsLefts_6 fX10_63 (sh36 _) r36_17 ?_
    refine Ex.aload_n (pc := 9) dX10_findsLefts_9 rfl rfl ?_
    refine Ex.getI (pc := 10) dX10_findsLefts_10 fX10_51 (sh36 _) ?_
    refine Ex.iald (pc := 13) (j := bk) dX10_findsLefts_13 (sh41 _) (ixX hb2 h1 (by decide)) (ixX2 hb2 (by omega)) ?_
    rw [hc2]
    refine Ex.icmp_ge (pc := 14) (tgt := 45) dX10_findsLefts_14 (by decide) (fun c14 => absurd c14 (nI_ge hk (by omega))) (fun _ => ?_)
    refine Ex.aload_n (pc := 17) dX10_findsLefts_17 rfl rfl ?_
    refine Ex.getR (pc := 18) dX10_findsLefts_18 fX10_162 (sh36 _) r36_49 ?_
    refine Ex.iload_n (pc := 21) dX10_findsLefts_21 rfl rfl ?_
    refine Ex.iald (pc := 22) (j := k) dX10_findsLefts_22 (sh66 _) (vp_in_nI (by omega) (by decide)) (ixN2 (by omega)) ?_
    refine Ex.if_ne (pc := 23) (tgt := 29) dX10_findsLefts_23 (by decide) (fun c23 => ?_) (fun c23 => ?_)
    · skip
      refine Ex.aload_n (pc := 29) dX10_findsLefts_29 rfl rfl ?_
      refine Ex.getR (pc := 30) dX10_findsLefts_30 fX10_189 (sh36 _) r36_58 ?_
      refine Ex.iload_n (pc := 33) dX10_findsLefts_33 rfl rfl ?_
      refine Ex.iload_n (pc := 34) dX10_findsLefts_34 rfl rfl ?_
      refine Ex.iast (pc := 35) (j := (lft x.2.2.2.2 k).length) dX10_findsLefts_35 (sh72 _) (vp_in_nI (by omega) (by decide)) (ixN2 (by omega)) ?_
      refine Ex.iinc (pc := 36) (ls' := [some (.ref 36), some (.int _), some (.int _)]) dX10_findsLefts_36 rfl rfl (by decide) rfl rfl ?_
      refine Ex.iinc (pc := 39) (ls' := [some (.ref 36), some (.int _), some (.int _)]) dX10_findsLefts_39 rfl rfl (by decide) rfl rfl ?_
      refine Ex.goto (pc := 42) (tgt := 4) dX10_findsLefts_42 (by decide) ?_
      rw [e5] at c23
      rw [show nI k + Int32.ofInt 1 = nI (k + 1) from nI_1 k]
      have el : lft x.2.2.2.2 (k + 1) = lft x.2.2.2.2 k ++ [k] := by simp only [lft]; rw [if_neg c23]
      rw [el] at ih
      rw [show nI (lft x.2.2.2.2 k).length + Int32.ofInt 1 = nI (lft x.2.2.2.2 k ++ [k]).length from by rw [List.length_append]; exact nI_1 _]
      refine ih _ ⟨hS.up (by decide), ?_⟩
      intro i hi2
      rw [va_up_s]
      by_cases e : i = (lft x.2.2.2.2 k).length
      · rw [e, upd_s, List.getD_eq_getElem?_getD, List.getElem?_append_right (Nat.le_refl _), Nat.sub_self]; rfl
      · rw [upd_n e]
        rw [List.length_append] at hi2
        have hi3 : i < (lft x.2.2.2.2 k).length := by have : [k].length = 1 := rfl; omega
        rw [hi i hi3, List.getD_eq_getElem?_getD, List.getD_eq_getElem?_getD, List.getElem?_append_left hi3]
    · skip
      refine Ex.goto (pc := 26) (tgt := 39) dX10_findsLefts_26 (by decide) ?_
      refine Ex.iinc (pc := 39) (ls' := [some (.ref 36), some (.int _), some (.int _)]) dX10_findsLefts_39 rfl rfl (by decide) rfl rfl ?_
      refine Ex.goto (pc := 42) (tgt := 4) dX10_findsLefts_42 (by decide) ?_
      rw [e5] at c23
      rw [show nI k + Int32.ofInt 1 = nI (k + 1) from nI_1 k]
      have el : lft x.2.2.2.2 (k + 1) = lft x.2.2.2.2 k := by simp only [lft]; rw [if_pos c23]
      rw [el] at ih
      exact ih _ ⟨hS, hi⟩
set_option maxRecDepth 20000 in
theorem tm_matches {N : Nat} {I : aI} {L : aL} {p : aP} {bk nb ns nh : Nat} {f5 f6 : Nat → Int32} {x : aX} {rs : List aRow} (hR : RS I bk nb ns nh p f5 f6 x rs) {l : List Nat} (hl6 : l.length ≤ 6) (hls : ∀ s ∈ l, s < ns) (h72 : ∀ k, k < l.length → I 72 k = nI (l.getD k 0)) : Run 7 0 0 mX10_matches [.ref 36, .int (nI l.length)] (St N I L) (RX N (fun o I2 L2 => o = some (.int (if ((mtR (needN p f5 f6 x l) nb l.length)).1 = 100000000 then -1 else nI ((mtR (needN p f5 f6 x l) nb l.length)).1)) ∧ QF I I2 ∧ SmL [70] L L2 ∧ I2 72 = I 72 ∧ (((mtR (needN p f5 f6 x l) nb l.length)).1 = 100000000 ∨ ∀ k, k < l.length → I2 74 k = nI (((mtR (needN p f5 f6 x l) nb l.length)).2.getD k 0)))) := by
  refine Run.of (ls := [some (.ref 36), some (.int _), none, none, none, none]) (by decide) (Nat.le_of_ble_eq_true rfl) rfl ?_
  obtain ⟨hP, hX, hK, hG, hrb⟩ := id hR
  obtain ⟨⟨h1, h2, hnb, hns, hnh, hcb, hcs, hch⟩, -⟩ := id hP
  have hnd := needN_le p f5 f6 x l
  have hnd2 : ∀ k b, (needN p f5 f6 x l) k b ≤ 100000000 := fun k b => by rcases hnd k b with h | h <;> omega
  have hsl := sumN_le hnd2
  have glt : ∀ k, k < l.length → l.getD k 0 < ns := fun k hk => getD_lt hls hk
  generalize hND : needN p f5 f6 x l = need at *
  have kB : ∀ (QQ : aQ) (L2 : aL) (r : List Nat) (acc : Nat × List Nat) (I2 : aI), (QF I I2 ∧ I2 72 = I 72 ∧ ∀ k b, k < l.length → b < nb → I2 75 (5 * k + b) = nI (need k b)) → RowR I2 r → r.length = l.length → (∀ c ∈ r, c < nb) → acc.1 ≤ 200000000 → (acc.1 = 100000000 ∨ ∀ k, k < l.length → I2 74 k = nI (acc.2.getD k 0)) → (∀ (I3 : aI), QF I I3 → I3 72 = I 72 → (∀ k b, k < l.length → b < nb → I3 75 (5 * k + b) = nI (need k b)) → RowR I3 r → ((mtS need l.length acc r).1 = 100000000 ∨ ∀ k, k < l.length → I3 74 k = nI ((mtS need l.length acc r).2.getD k 0)) → Ex 7 0 0 mX10_matches 0 0 191 [some (.ref 36), some (.int (nI l.length)), some (.int (nI (mtS need l.length acc r).1)), none, none, none] [] (St N I3 L2) QQ) → Ex 7 0 0 mX10_matches 0 0 101 [some (.ref 36), some (.int (nI l.length)), some (.int (nI acc.1)), some (.int 1), none, none] [] (St N I2 L2) QQ := by
    intro QQ L2 r acc I2 ⟨hQ2, h722, h75⟩ hRow hrl hrc hacc hA kk
    have k153 : Ex 7 0 0 mX10_matches 0 0 153 [some (.ref 36), some (.int (nI l.length)), some (.int (nI acc.1)), none, some (.int (nI (sumN need r l.length))), none] [] (St N I2 L2) QQ := by
      have hs2 := hsl r l.length
      refine Ex.iload (pc := 153) dX10_matches_153 rfl ?_
      refine Ex.iload_n (pc := 155) dX10_matches_155 rfl rfl ?_
      refine Ex.icmp_ge (pc := 156) (tgt := 191) dX10_matches_156 (by decide) (fun c156 => ?_) (fun c156 => ?_)
      · skip
        rw [nI_leI (by omega) (by omega)] at c156
        have em : mtS need l.length acc r = acc := by unfold mtS; rw [if_neg (by omega)]
        rw [em] at kk
        exact Ex.le (ls' := [some (.ref 36), some (.int (nI l.length)), some (.int (nI acc.1)), none, none, none]) ⟨rfl, rfl, rfl, trivial⟩ (kk I2 hQ2 h722 h75 hRow hA)
      · skip
        refine Ex.iload (pc := 159) dX10_matches_159 rfl ?_
        refine Ex.istore_n (pc := 161) (ls' := [some (.ref 36), some (.int _), some (.int _), none, some (.int _), none]) dX10_matches_161 rfl (by decide) rfl rfl ?_
        refine Ex.iconst (pc := 162) (v := 0) dX10_matches_162 rfl ?_
        refine Ex.istore (pc := 163) (ls' := [some (.ref 36), some (.int _), some (.int _), none, some (.int _), some (.int 0)]) dX10_matches_163 (by decide) rfl rfl ?_
        rw [nI_leI (by omega) (by omega)] at c156
        have em : mtS need l.length acc r = (sumN need r l.length, r) := by unfold mtS; rw [if_pos (by omega)]
        rw [em] at kk
        refine forUp (σ := aI) (P := fun k I3 => Ex 7 0 0 mX10_matches 0 0 165 [some (.ref 36), some (.int (nI l.length)), some (.int (nI (sumN need r l.length))), none, some (.int (nI (sumN need r l.length))), some (.int (nI k))] [] (St N I3 L2) _) (Inv := fun k I3 => (QF I I3 ∧ I3 72 = I 72 ∧ (∀ k b, k < l.length → b < nb → I3 75 (5 * k + b) = nI (need k b)) ∧ RowR I3 r) ∧ ∀ i, i < k → I3 74 i = nI (r.getD i 0)) l.length ?_ ?_ 0 I2 (Nat.zero_le _) ⟨⟨hQ2, h722, h75, hRow⟩, fun i hi => absurd hi (Nat.not_lt_zero _)⟩
        · rintro I3 ⟨⟨g1, g2, g3, g4⟩, g5⟩
          refine Ex.iload (pc := 165) dX10_matches_165 rfl ?_
          refine Ex.iload_n (pc := 167) dX10_matches_167 rfl rfl ?_
          refine Ex.icmp_ge (pc := 168) (tgt := 191) dX10_matches_168 (by decide) (fun _ => ?_) (fun c168 => absurd (nI_le (Nat.le_refl _) (by omega)) c168)
          exact Ex.le (ls' := [some (.ref 36), some (.int (nI l.length)), some (.int (nI (sumN need r l.length))), none, none, none]) ⟨rfl, rfl, rfl, trivial⟩ (kk I3 g1 g2 g3 g4 (Or.inr g5))
        · rintro k I3 hk ⟨⟨g1, g2, g3, g4⟩, g5⟩ ih
          obtain ⟨ek, vk, gk⟩ := g4.get (show k < r.length by omega)
          refine Ex.iload (pc := 165) dX10_matches_165 rfl ?_
          refine Ex.iload_n (pc := 167) dX10_matches_167 rfl rfl ?_
          refine Ex.icmp_ge (pc := 168) (tgt := 191) dX10_matches_168 (by decide) (fun c168 => absurd c168 (nI_ge hk (by omega))) (fun _ => ?_)
          refine Ex.aload_n (pc := 171) dX10_matches_171 rfl rfl ?_
          refine Ex.getR (pc := 172) dX10_matches_172 fX10_195 (sh36 _) r36_60 ?_
          refine Ex.iload (pc := 175) dX10_matches_175 rfl ?_
          refine Ex.aload_n (pc := 177) dX10_matches_177 rfl rfl ?_
          refine Ex.getR (pc := 178) dX10_matches_178 fX10_192 (sh36 _) r36_59 ?_
          refine Ex.iload (pc := 181) dX10_matches_181 rfl ?_
          refine Ex.iald (pc := 183) (j := k) dX10_matches_183 (sh73 _) (vp_in_nI (by omega) (by decide)) (ixN2 (by omega)) ?_
          rw [ek]
          refine Ex.iast (pc := 184) (j := k) dX10_matches_184 (sh74 _) (vp_in_nI (by omega) (by decide)) (ixN2 (by omega)) ?_
          refine Ex.iinc (pc := 185) (ls' := [some (.ref 36), some (.int _), some (.int _), none, some (.int _), some (.int _)]) dX10_matches_185 rfl rfl (by decide) rfl rfl ?_
          refine Ex.goto (pc := 188) (tgt := 165) dX10_matches_188 (by decide) ?_
          rw [show nI k + Int32.ofInt 1 = nI (k + 1) from nI_1 k]
          refine ih _ ⟨⟨g1.up (by decide), by rw [va_up_n (by decide)]; exact g2, fun k b h1 h2 => by rw [va_up_n (by decide)]; exact g3 k b h1 h2, g4.sm (l := [74]) (Sm.rf.up (by decide)) (by decide)⟩, ?_⟩
          intro i hi
          rw [va_up_s]
          by_cases e : i = k
          · rw [e, upd_s]
          · rw [upd_n e]; exact g5 i (by omega)
    refine Ex.iload_n (pc := 101) dX10_matches_101 rfl rfl ?_
    refine Ex.if_eq (pc := 102) (tgt := 209) dX10_matches_102 (by decide) (fun c102 => absurd c102 (by decide)) (fun _ => ?_)
    refine Ex.iconst (pc := 105) (v := 0) dX10_matches_105 rfl ?_
    refine Ex.istore (pc := 106) (ls' := [some (.ref 36), some (.int _), some (.int _), some (.int _), some (.int 0), none]) dX10_matches_106 (by decide) rfl rfl ?_
    refine Ex.iconst (pc := 108) (v := 0) dX10_matches_108 rfl ?_
    refine Ex.istore (pc := 109) (ls' := [some (.ref 36), some (.int _), some (.int _), some (.int _), some (.int 0), some (.int 0)]) dX10_matches_109 (by decide) rfl rfl ?_
    refine forUp (σ := Unit) (P := fun k _ => Ex 7 0 0 mX10_matches 0 0 111 [some (.ref 36), some (.int (nI l.length)), some (.int (nI acc.1)), some (.int 1), some (.int (nI (sumN need r k))), some (.int (nI k))] [] (St N I2 L2) _) (Inv := fun _ _ => True) l.length ?_ ?_ 0 () (Nat.zero_le _) trivial
    · rintro - -
      refine Ex.iload (pc := 111) dX10_matches_111 rfl ?_
      refine Ex.iload_n (pc := 113) dX10_matches_113 rfl rfl ?_
      refine Ex.icmp_ge (pc := 114) (tgt := 153) dX10_matches_114 (by decide) (fun _ => ?_) (fun c114 => absurd (nI_le (Nat.le_refl _) (by omega)) c114)
      exact Ex.le (ls' := [some (.ref 36), some (.int (nI l.length)), some (.int (nI acc.1)), none, some (.int (nI (sumN need r l.length))), none]) ⟨rfl, rfl, rfl, rfl, trivial⟩ k153
    · rintro k - hk - ih
      have hs2 := hsl r k
      obtain ⟨ek, vk, gk⟩ := hRow.get (show k < r.length by omega)
      have hck := getD_lt hrc (show k < r.length by omega)
      have e75 := h75 k (r.getD k 0) hk hck
      have hn1 := hnd2 k (r.getD k 0)
      refine Ex.iload (pc := 111) dX10_matches_111 rfl ?_
      refine Ex.iload_n (pc := 113) dX10_matches_113 rfl rfl ?_
      refine Ex.icmp_ge (pc := 114) (tgt := 153) dX10_matches_114 (by decide) (fun c114 => absurd c114 (nI_ge hk (by omega))) (fun _ => ?_)
      refine Ex.iload (pc := 117) dX10_matches_117 rfl ?_
      refine Ex.ldcw (pc := 119) dX10_matches_119 kv_X10_482 ?_
      refine Ex.icmp_ge (pc := 122) (tgt := 153) dX10_matches_122 (by decide) (fun c122 => ?_) (fun c122 => ?_)
      · skip
        have c122 : ¬ sumN need r k < 100000000 := fun q => absurd c122 (nI_ge (b := 100000000) q (by decide))
        obtain ⟨d, hd⟩ : ∃ d, l.length = k + d := ⟨l.length - k, by omega⟩
        have est : sumN need r l.length = sumN need r k := by rw [hd]; exact sumN_st c122 d
        rw [← est]
        exact Ex.le (ls' := [some (.ref 36), some (.int (nI l.length)), some (.int (nI acc.1)), none, some (.int (nI (sumN need r l.length))), none]) ⟨rfl, rfl, rfl, rfl, trivial⟩ k153
      · skip
        refine Ex.iload (pc := 125) dX10_matches_125 rfl ?_
        refine Ex.aload_n (pc := 127) dX10_matches_127 rfl rfl ?_
        refine Ex.getR (pc := 128) dX10_matches_128 fX10_198 (sh36 _) r36_61 ?_
        refine Ex.iconst (pc := 131) (v := 5) dX10_matches_131 rfl ?_
        refine Ex.iload (pc := 132) dX10_matches_132 rfl ?_
        refine Ex.imul (pc := 134) dX10_matches_134 ?_
        refine Ex.aload_n (pc := 135) dX10_matches_135 rfl rfl ?_
        refine Ex.getR (pc := 136) dX10_matches_136 fX10_192 (sh36 _) r36_59 ?_
        refine Ex.iload (pc := 139) dX10_matches_139 rfl ?_
        refine Ex.iald (pc := 141) (j := k) dX10_matches_141 (sh73 _) (vp_in_nI (by omega) (by decide)) (ixN2 (by omega)) ?_
        rw [ek]
        refine Ex.iadd (pc := 142) dX10_matches_142 ?_
        refine Ex.iald (pc := 143) (j := 5 * k + r.getD k 0) dX10_matches_143 (sh75 _) (ixE (c := 5) (a := k) (b := r.getD k 0) rfl rfl (by omega) (by decide)) (ixE2 (c := 5) rfl rfl (by omega)) ?_
        rw [e75]
        refine Ex.iadd (pc := 144) dX10_matches_144 ?_
        refine Ex.istore (pc := 145) (ls' := [some (.ref 36), some (.int _), some (.int _), some (.int _), some (.int _), some (.int _)]) dX10_matches_145 (by decide) rfl rfl ?_
        refine Ex.iinc (pc := 147) (ls' := [some (.ref 36), some (.int _), some (.int _), some (.int _), some (.int _), some (.int _)]) dX10_matches_147 rfl rfl (by decide) rfl rfl ?_
        refine Ex.goto (pc := 150) (tgt := 111) dX10_matches_150 (by decide) ?_
        rw [show nI k + Int32.ofInt 1 = nI (k + 1) from nI_1 k]
        have c122 : sumN need r k < 100000000 := by
          rcases Nat.lt_or_ge (sumN need r k) 100000000 with q | q
          · exact q
          · exact absurd (nI_le (a := 100000000) q (by omega)) c122
        have est : sumN need r (k + 1) = sumN need r k + need k (r.getD k 0) := by simp only [sumN]; rw [if_pos c122]
        rw [est] at ih
        rw [nI_add]
        exact ih () trivial
  have kL : ∀ (L2 : aL), SmL [70] L L2 → ∀ (rl : List (List Nat)) (r : List Nat) (acc : Nat × List Nat) (I2 : aI), (QF I I2 ∧ I2 72 = I 72 ∧ ∀ k b, k < l.length → b < nb → I2 75 (5 * k + b) = nI (need k b)) → RowR I2 r → chainB nb l.length (r :: rl) = true → acc.1 ≤ 200000000 → (acc.1 = 100000000 ∨ ∀ k, k < l.length → I2 74 k = nI (acc.2.getD k 0)) → Ex 7 0 0 mX10_matches 0 0 101 [some (.ref 36), some (.int (nI l.length)), some (.int (nI acc.1)), some (.int 1), none, none] [] (St N I2 L2) (RX N (fun o I2 L2 => o = some (.int (if ((r :: rl).foldl (mtS need l.length) acc).1 = 100000000 then -1 else nI ((r :: rl).foldl (mtS need l.length) acc).1)) ∧ QF I I2 ∧ SmL [70] L L2 ∧ I2 72 = I 72 ∧ (((r :: rl).foldl (mtS need l.length) acc).1 = 100000000 ∨ ∀ k, k < l.length → I2 74 k = nI (((r :: rl).foldl (mtS need l.length) acc).2.getD k 0)))) := by
    intro L2 hSL2 rl
    induction rl with
    | nil =>
      intro r acc I2 hM hRow hch hacc hA
      obtain ⟨⟨hrl, hrc, hrn⟩, hch2⟩ := chain_row hch
      refine kB _ L2 r acc I2 hM hRow hrl hrc hacc hA ?_
      intro I3 g1 g2 g3 g4 g5
      have hR3 := hR.q g1
      have hb3 : I3 36 13 = nI bk := hR3.1.1.2.1
      have hc3 : I3 38 bk = nI nb := hR3.1.1.2.2.2.2.2.1
      have hm2 : (mtS need l.length acc r).1 ≤ 200000000 := by unfold mtS; split; exact hsl _ _; exact hacc
      show Ex _ _ _ _ _ _ _ _ _ _ (RX N (fun o I2 L2 => o = some (.int (if (([] : List (List Nat)).foldl (mtS need l.length) (mtS need l.length acc r)).1 = 100000000 then -1 else nI (([] : List (List Nat)).foldl (mtS need l.length) (mtS need l.length acc r)).1)) ∧ QF I I2 ∧ SmL [70] L L2 ∧ I2 72 = I 72 ∧ ((([] : List (List Nat)).foldl (mtS need l.length) (mtS need l.length acc r)).1 = 100000000 ∨ ∀ k, k < l.length → I2 74 k = nI ((([] : List (List Nat)).foldl (mtS need l.length) (mtS need l.length acc r)).2.getD k 0))))
      generalize mtS need l.length acc r = acc2 at *
      have hn := chain_0 hch
      refine Ex.aload_n (pc := 191) dX10_matches_191 rfl rfl ?_
      refine Ex.iload_n (pc := 192) dX10_matches_192 rfl rfl ?_
      refine Ex.aload_n (pc := 193) dX10_matches_193 rfl rfl ?_
      refine Ex.getR (pc := 194) dX10_matches_194 fX10_54 (sh36 _) r36_14 ?_
      refine Ex.aload_n (pc := 197) dX10_matches_197 rfl rfl ?_
      refine Ex.getI (pc := 198) dX10_matches_198 fX10_51 (sh36 _) ?_
      refine Ex.iald (pc := 201) (j := bk) dX10_matches_201 (sh38 _) (ixX hb3 h1 (by decide)) (ixX2 hb3 (by omega)) ?_
      rw [hc3]
      refine Ex.callV (pc := 202) (As := [.int _, .int _]) (rest := []) dX10_matches_202 cX10_489 (tm_isNextRow hl6 (by omega) g4 hrl (fun k hk => getD_lt hrc (by omega))) (sh36 _) rfl rfl (by decide) (Nat.le_refl _) (Nat.le_refl _) (Nat.le_of_ble_eq_true rfl) (Or.inl (fun r S' h => by obtain ⟨_, _, h, _⟩ := h; subst h; rfl)) (fun r S' hq _ _ => ?_)
      obtain ⟨I4, rfl, rfl, hS4, hRow4⟩ := hq
      rw [hn]
      refine Ex.istore_n (pc := 205) (ls' := [some (.ref 36), some (.int _), some (.int _), some (.int _), none, none]) dX10_matches_205 rfl (by decide) rfl rfl ?_
      refine Ex.goto (pc := 206) (tgt := 101) dX10_matches_206 (by decide) ?_
      refine Ex.iload_n (pc := 101) dX10_matches_101 rfl rfl ?_
      refine Ex.if_eq (pc := 102) (tgt := 209) dX10_matches_102 (by decide) (fun _ => ?_) (fun c102 => absurd rfl c102)
      refine Ex.iload_n (pc := 209) dX10_matches_209 rfl rfl ?_
      refine Ex.ldcw (pc := 210) dX10_matches_210 kv_X10_482 ?_
      refine Ex.icmp_ne (pc := 213) (tgt := 220) dX10_matches_213 (by decide) (fun c213 => ?_) (fun c213 => ?_)
      · skip
        refine Ex.iload_n (pc := 220) dX10_matches_220 rfl rfl ?_
        refine Ex.iret (pc := 221) rfl rfl rfl dX10_matches_221 (Nat.le_refl _) (Nat.le_refl _) ?_
        have hQ4 : QF I I4 := g1.tr ⟨hS4.tr Sm.rf (l2 := []) (by decide) (by decide), SlF.of hS4 (by decide)⟩
        refine ⟨_, _, rfl, ?_, hQ4, hSL2, by rw [hS4 72 (by decide)]; exact g2, ?_⟩
        · show some (Value.int _) = some (Value.int (if acc2.1 = 100000000 then -1 else nI acc2.1))
          refine congrArg (fun z => some (Value.int z)) ?_
          by_cases e : acc2.1 = 100000000
          · rw [if_pos e] <;> first | rfl | exact absurd (show nI acc2.1 = 100000000 from by rw [e]; rfl) c213
          · rw [if_neg e] <;> first | rfl | exact absurd ((nI_eq (by omega) (by decide)).mp (show nI acc2.1 = nI 100000000 from c213)) e
        · rw [hS4 74 (by decide)]; exact g5
      · skip
        refine Ex.iconst (pc := 216) (v := (-1)) dX10_matches_216 rfl ?_
        refine Ex.goto (pc := 217) (tgt := 221) dX10_matches_217 (by decide) ?_
        refine Ex.iret (pc := 221) rfl rfl rfl dX10_matches_221 (Nat.le_refl _) (Nat.le_refl _) ?_
        have hQ4 : QF I I4 := g1.tr ⟨hS4.tr Sm.rf (l2 := []) (by decide) (by decide), SlF.of hS4 (by decide)⟩
        refine ⟨_, _, rfl, ?_, hQ4, hSL2, by rw [hS4 72 (by decide)]; exact g2, ?_⟩
        · show some (Value.int _) = some (Value.int (if acc2.1 = 100000000 then -1 else nI acc2.1))
          refine congrArg (fun z => some (Value.int z)) ?_
          by_cases e : acc2.1 = 100000000
          · rw [if_pos e] <;> first | rfl | exact absurd (show nI acc2.1 = 100000000 from by rw [e]; rfl) c213
          · rw [if_neg e] <;> first | rfl | exact absurd ((nI_eq (by omega) (by decide)).mp (show nI acc2.1 = nI 100000000 from c213)) e
        · rw [hS4 74 (by decide)]; exact g5
    | cons r' rl ihl =>
      intro r acc I2 hM hRow hch hacc hA
      obtain ⟨⟨hrl, hrc, hrn⟩, hch2⟩ := chain_row hch
      refine kB _ L2 r acc I2 hM hRow hrl hrc hacc hA ?_
      intro I3 g1 g2 g3 g4 g5
      have hR3 := hR.q g1
      have hb3 : I3 36 13 = nI bk := hR3.1.1.2.1
      have hc3 : I3 38 bk = nI nb := hR3.1.1.2.2.2.2.2.1
      have hm2 : (mtS need l.length acc r).1 ≤ 200000000 := by unfold mtS; split; exact hsl _ _; exact hacc
      show Ex _ _ _ _ _ _ _ _ _ _ (RX N (fun o I2 L2 => o = some (.int (if ((r' :: rl).foldl (mtS need l.length) (mtS need l.length acc r)).1 = 100000000 then -1 else nI ((r' :: rl).foldl (mtS need l.length) (mtS need l.length acc r)).1)) ∧ QF I I2 ∧ SmL [70] L L2 ∧ I2 72 = I 72 ∧ (((r' :: rl).foldl (mtS need l.length) (mtS need l.length acc r)).1 = 100000000 ∨ ∀ k, k < l.length → I2 74 k = nI (((r' :: rl).foldl (mtS need l.length) (mtS need l.length acc r)).2.getD k 0))))
      generalize mtS need l.length acc r = acc2 at *
      obtain ⟨hn1, hn2⟩ := chain_1 hch
      refine Ex.aload_n (pc := 191) dX10_matches_191 rfl rfl ?_
      refine Ex.iload_n (pc := 192) dX10_matches_192 rfl rfl ?_
      refine Ex.aload_n (pc := 193) dX10_matches_193 rfl rfl ?_
      refine Ex.getR (pc := 194) dX10_matches_194 fX10_54 (sh36 _) r36_14 ?_
      refine Ex.aload_n (pc := 197) dX10_matches_197 rfl rfl ?_
      refine Ex.getI (pc := 198) dX10_matches_198 fX10_51 (sh36 _) ?_
      refine Ex.iald (pc := 201) (j := bk) dX10_matches_201 (sh38 _) (ixX hb3 h1 (by decide)) (ixX2 hb3 (by omega)) ?_
      rw [hc3]
      refine Ex.callV (pc := 202) (As := [.int _, .int _]) (rest := []) dX10_matches_202 cX10_489 (tm_isNextRow hl6 (by omega) g4 hrl (fun k hk => getD_lt hrc (by omega))) (sh36 _) rfl rfl (by decide) (Nat.le_refl _) (Nat.le_refl _) (Nat.le_of_ble_eq_true rfl) (Or.inl (fun r S' h => by obtain ⟨_, _, h, _⟩ := h; subst h; rfl)) (fun r S' hq _ _ => ?_)
      obtain ⟨I4, rfl, rfl, hS4, hRow4⟩ := hq
      rw [hn1]
      rw [hn2] at hRow4
      refine Ex.istore_n (pc := 205) (ls' := [some (.ref 36), some (.int _), some (.int _), some (.int _), none, none]) dX10_matches_205 rfl (by decide) rfl rfl ?_
      refine Ex.goto (pc := 206) (tgt := 101) dX10_matches_206 (by decide) ?_
      have hQ4 : QF I I4 := g1.tr ⟨hS4.tr Sm.rf (l2 := []) (by decide) (by decide), SlF.of hS4 (by decide)⟩
      exact ihl r' acc2 I4 ⟨hQ4, by rw [hS4 72 (by decide)]; exact g2, fun k b h1 h2 => by rw [hS4 75 (by decide)]; exact g3 k b h1 h2⟩ hRow4 hch2 hm2 (by rw [hS4 74 (by decide)]; exact g5)
  refine Ex.iconst (pc := 0) (v := 0) dX10_matches_0 rfl ?_
  refine Ex.istore_n (pc := 1) (ls' := [some (.ref 36), some (.int _), some (.int 0), none, none, none]) dX10_matches_1 rfl (by decide) rfl rfl ?_
  refine Ex.le (ls' := [some (.ref 36), some (.int (nI l.length)), some (.int 0), none, none, none]) ⟨rfl, rfl, rfl, trivial⟩ ?_
  refine forUp (σ := aI × aL) (P := fun k q => Ex 7 0 0 mX10_matches 0 0 2 [some (.ref 36), some (.int (nI l.length)), some (.int (nI k)), none, none, none] [] (St N q.1 q.2) _) (Inv := fun k q => (QF I q.1 ∧ SmL [70] L q.2 ∧ q.1 72 = I 72 ∧ ∀ i b, i < k → b < nb → q.1 75 (5 * i + b) = nI (need i b))) l.length ?_ ?_ 0 (I, L) (Nat.zero_le _) ⟨QF.rf, SmL.rf, rfl, fun i b hi => absurd hi (Nat.not_lt_zero _)⟩
  · rintro ⟨I2, L2⟩ ⟨hQ2, hSL2, h722, h75⟩
    dsimp only at *
    have hR2 := hR.q hQ2
    have hb2 : I2 36 13 = nI bk := hR2.1.1.2.1
    have hc2 : I2 38 bk = nI nb := hR2.1.1.2.2.2.2.2.1
    have hEn : mtR need nb l.length = (if l.length ≤ nb then enumF nb l.length [] else []).foldl (mtS need l.length) (100000000, []) := rfl
    by_cases hmo : l.length ≤ nb
    · rw [if_pos hmo] at hEn
      obtain ⟨rl, he, hch⟩ := enum_0 (by omega) hmo
      rw [he] at hEn
      rw [hEn]
      refine Ex.iload_n (pc := 2) dX10_matches_2 rfl rfl ?_
      refine Ex.iload_n (pc := 3) dX10_matches_3 rfl rfl ?_
      refine Ex.icmp_ge (pc := 4) (tgt := 82) dX10_matches_4 (by decide) (fun _ => ?_) (fun c4 => absurd (nI_le (Nat.le_refl _) (by omega)) c4)
      refine Ex.ldcw (pc := 82) dX10_matches_82 kv_X10_482 ?_
      refine Ex.istore_n (pc := 85) (ls' := [some (.ref 36), some (.int _), some (.int _), none, none, none]) dX10_matches_85 rfl (by decide) rfl rfl ?_
      refine Ex.aload_n (pc := 86) dX10_matches_86 rfl rfl ?_
      refine Ex.iload_n (pc := 87) dX10_matches_87 rfl rfl ?_
      refine Ex.aload_n (pc := 88) dX10_matches_88 rfl rfl ?_
      refine Ex.getR (pc := 89) dX10_matches_89 fX10_54 (sh36 _) r36_14 ?_
      refine Ex.aload_n (pc := 92) dX10_matches_92 rfl rfl ?_
      refine Ex.getI (pc := 93) dX10_matches_93 fX10_51 (sh36 _) ?_
      refine Ex.iald (pc := 96) (j := bk) dX10_matches_96 (sh38 _) (ixX hb2 h1 (by decide)) (ixX2 hb2 (by omega)) ?_
      rw [hc2]
      refine Ex.callV (pc := 97) (As := [.int _, .int _]) (rest := []) dX10_matches_97 cX10_486 (tm_isFirstRow (many := l.length) (o := nb) hl6 (by omega)) (sh36 _) rfl rfl (by decide) (Nat.le_refl _) (Nat.le_refl _) (Nat.le_of_ble_eq_true rfl) (Or.inl (fun r S' h => by obtain ⟨_, _, h, _⟩ := h; subst h; rfl)) (fun r S' hq _ _ => ?_)
      obtain ⟨I3, rfl, rfl, hS3, hRow3⟩ := hq
      have hQ3 : QF I I3 := hQ2.tr ⟨hS3.tr Sm.rf (l2 := []) (by decide) (by decide), SlF.of hS3 (by decide)⟩
      rw [decide_eq_true hmo]
      refine Ex.istore_n (pc := 100) (ls' := [some (.ref 36), some (.int _), some (.int _), some (.int _), none, none]) dX10_matches_100 rfl (by decide) rfl rfl ?_
      exact kL L2 hSL2 rl (List.range l.length) (100000000, []) I3 ⟨hQ3, by rw [hS3 72 (by decide)]; exact h722, fun k b h1 h2 => by rw [hS3 75 (by decide)]; exact h75 k b h1 h2⟩ hRow3 hch (by decide) (Or.inl rfl)
    · rw [if_neg hmo] at hEn
      rw [hEn]
      refine Ex.iload_n (pc := 2) dX10_matches_2 rfl rfl ?_
      refine Ex.iload_n (pc := 3) dX10_matches_3 rfl rfl ?_
      refine Ex.icmp_ge (pc := 4) (tgt := 82) dX10_matches_4 (by decide) (fun _ => ?_) (fun c4 => absurd (nI_le (Nat.le_refl _) (by omega)) c4)
      refine Ex.ldcw (pc := 82) dX10_matches_82 kv_X10_482 ?_
      refine Ex.istore_n (pc := 85) (ls' := [some (.ref 36), some (.int _), some (.int _), none, none, none]) dX10_matches_85 rfl (by decide) rfl rfl ?_
      refine Ex.aload_n (pc := 86) dX10_matches_86 rfl rfl ?_
      refine Ex.iload_n (pc := 87) dX10_matches_87 rfl rfl ?_
      refine Ex.aload_n (pc := 88) dX10_matches_88 rfl rfl ?_
      refine Ex.getR (pc := 89) dX10_matches_89 fX10_54 (sh36 _) r36_14 ?_
      refine Ex.aload_n (pc := 92) dX10_matches_92 rfl rfl ?_
      refine Ex.getI (pc := 93) dX10_matches_93 fX10_51 (sh36 _) ?_
      refine Ex.iald (pc := 96) (j := bk) dX10_matches_96 (sh38 _) (ixX hb2 h1 (by decide)) (ixX2 hb2 (by omega)) ?_
      rw [hc2]
      refine Ex.callV (pc := 97) (As := [.int _, .int _]) (rest := []) dX10_matches_97 cX10_486 (tm_isFirstRow (many := l.length) (o := nb) hl6 (by omega)) (sh36 _) rfl rfl (by decide) (Nat.le_refl _) (Nat.le_refl _) (Nat.le_of_ble_eq_true rfl) (Or.inl (fun r S' h => by obtain ⟨_, _, h, _⟩ := h; subst h; rfl)) (fun r S' hq _ _ => ?_)
      obtain ⟨I3, rfl, rfl, hS3, hRow3⟩ := hq
      have hQ3 : QF I I3 := hQ2.tr ⟨hS3.tr Sm.rf (l2 := []) (by decide) (by decide), SlF.of hS3 (by decide)⟩
      rw [decide_eq_false hmo]
      refine Ex.istore_n (pc := 100) (ls' := [some (.ref 36), some (.int _), some (.int _), some (.int _), none, none]) dX10_matches_100 rfl (by decide) rfl rfl ?_
      refine Ex.iload_n (pc := 101) dX10_matches_101 rfl rfl ?_
      refine Ex.if_eq (pc := 102) (tgt := 209) dX10_matches_102 (by decide) (fun _ => ?_) (fun c102 => absurd rfl c102)
      refine Ex.iload_n (pc := 209) dX10_matches_209 rfl rfl ?_
      refine Ex.ldcw (pc := 210) dX10_matches_210 kv_X10_482 ?_
      refine Ex.icmp_ne (pc := 213) (tgt := 220) dX10_matches_213 (by decide) (fun c213 => absurd rfl c213) (fun _ => ?_)
      refine Ex.iconst (pc := 216) (v := (-1)) dX10_matches_216 rfl ?_
      refine Ex.goto (pc := 217) (tgt := 221) dX10_matches_217 (by decide) ?_
      refine Ex.iret (pc := 221) rfl rfl rfl dX10_matches_221 (Nat.le_refl _) (Nat.le_refl _) ?_
      exact ⟨_, _, rfl, rfl, hQ3, hSL2, by rw [hS3 72 (by decide)]; exact h722, Or.inl rfl⟩
  · rintro k ⟨I2, L2⟩ hk ⟨hQ2, hSL2, h722, h75⟩ ih
    dsimp only at *
    have hR2 := hR.q hQ2
    have hb2 : I2 36 13 = nI bk := hR2.1.1.2.1
    have hc2 : I2 38 bk = nI nb := hR2.1.1.2.2.2.2.2.1
    refine Ex.iload_n (pc := 2) dX10_matches_2 rfl rfl ?_
    refine Ex.iload_n (pc := 3) dX10_matches_3 rfl rfl ?_
    refine Ex.icmp_ge (pc := 4) (tgt := 82) dX10_matches_4 (by decide) (fun c4 => absurd c4 (nI_ge hk (by omega))) (fun _ => ?_)
    refine Ex.iconst (pc := 7) (v := 0) dX10_matches_7 rfl ?_
    refine Ex.istore_n (pc := 8) (ls' := [some (.ref 36), some (.int _), some (.int _), some (.int 0), none, none]) dX10_matches_8 rfl (by decide) rfl rfl ?_
    refine forUp (σ := aI × aL) (P := fun b q => Ex 7 0 0 mX10_matches 0 0 9 [some (.ref 36), some (.int (nI l.length)), some (.int (nI k)), some (.int (nI b)), none, none] [] (St N q.1 q.2) _) (Inv := fun b q => ((QF I q.1 ∧ SmL [70] L q.2 ∧ q.1 72 = I 72 ∧ ∀ i b, i < k → b < nb → q.1 75 (5 * i + b) = nI (need i b)) ∧ ∀ i, i < b → q.1 75 (5 * k + i) = nI (need k i))) nb ?_ ?_ 0 (I2, L2) (Nat.zero_le _) ⟨⟨hQ2, hSL2, h722, h75⟩, fun i hi => absurd hi (Nat.not_lt_zero _)⟩
    · rintro ⟨I3, L3⟩ ⟨⟨hQ3, hSL3, h723, h753⟩, hk75⟩
      clear hR2 hb2 hc2
      dsimp only at *
      have hR3 := hR.q hQ3
      have hb3 : I3 36 13 = nI bk := hR3.1.1.2.1
      have hc3 : I3 38 bk = nI nb := hR3.1.1.2.2.2.2.2.1
      refine Ex.iload_n (pc := 9) dX10_matches_9 rfl rfl ?_
      refine Ex.aload_n (pc := 10) dX10_matches_10 rfl rfl ?_
      refine Ex.getR (pc := 11) dX10_matches_11 fX10_54 (sh36 _) r36_14 ?_
      refine Ex.aload_n (pc := 14) dX10_matches_14 rfl rfl ?_
      refine Ex.getI (pc := 15) dX10_matches_15 fX10_51 (sh36 _) ?_
      refine Ex.iald (pc := 18) (j := bk) dX10_matches_18 (sh38 _) (ixX hb3 h1 (by decide)) (ixX2 hb3 (by omega)) ?_
      rw [hc3]
      refine Ex.icmp_ge (pc := 19) (tgt := 76) dX10_matches_19 (by decide) (fun _ => ?_) (fun c19 => absurd (nI_le (Nat.le_refl _) (by omega)) c19)
      refine Ex.iinc (pc := 76) (ls' := [some (.ref 36), some (.int _), some (.int _), some (.int _), none, none]) dX10_matches_76 rfl rfl (by decide) rfl rfl ?_
      refine Ex.goto (pc := 79) (tgt := 2) dX10_matches_79 (by decide) ?_
      rw [show nI k + Int32.ofInt 1 = nI (k + 1) from nI_1 k]
      refine Ex.le (ls' := [some (.ref 36), some (.int (nI l.length)), some (.int (nI (k + 1))), none, none, none]) ⟨rfl, rfl, rfl, trivial⟩ (ih (I3, L3) ⟨hQ3, hSL3, h723, ?_⟩)
      intro i b hi hb
      by_cases e : i = k
      · rw [e]; exact hk75 b hb
      · exact h753 i b (by omega) hb
    · rintro b ⟨I3, L3⟩ hb ⟨⟨hQ3, hSL3, h723, h753⟩, hk75⟩ ih2
      clear hR2 hb2 hc2
      dsimp only at *
      have hR3 := hR.q hQ3
      have hb3 : I3 36 13 = nI bk := hR3.1.1.2.1
      have hc3 : I3 38 bk = nI nb := hR3.1.1.2.2.2.2.2.1
      have hs := glt k hk
      have e72 : I3 72 k = nI (l.getD k 0) := by rw [h723]; exact h72 k hk
      obtain ⟨m, hm, em⟩ := rubX_cnt p f5 f6 x b (l.getD k 0) 99
      have hnk : need k b = ndN (rubX p f5 f6 x b (l.getD k 0) 99) := by rw [← hND]; rfl
      refine Ex.iload_n (pc := 9) dX10_matches_9 rfl rfl ?_
      refine Ex.aload_n (pc := 10) dX10_matches_10 rfl rfl ?_
      refine Ex.getR (pc := 11) dX10_matches_11 fX10_54 (sh36 _) r36_14 ?_
      refine Ex.aload_n (pc := 14) dX10_matches_14 rfl rfl ?_
      refine Ex.getI (pc := 15) dX10_matches_15 fX10_51 (sh36 _) ?_
      refine Ex.iald (pc := 18) (j := bk) dX10_matches_18 (sh38 _) (ixX hb3 h1 (by decide)) (ixX2 hb3 (by omega)) ?_
      rw [hc3]
      refine Ex.icmp_ge (pc := 19) (tgt := 76) dX10_matches_19 (by decide) (fun c19 => absurd c19 (nI_ge hb (by omega))) (fun _ => ?_)
      refine Ex.aload_n (pc := 22) dX10_matches_22 rfl rfl ?_
      refine Ex.iload_n (pc := 23) dX10_matches_23 rfl rfl ?_
      refine Ex.aload_n (pc := 24) dX10_matches_24 rfl rfl ?_
      refine Ex.getR (pc := 25) dX10_matches_25 fX10_189 (sh36 _) r36_58 ?_
      refine Ex.iload_n (pc := 28) dX10_matches_28 rfl rfl ?_
      refine Ex.iald (pc := 29) (j := k) dX10_matches_29 (sh72 _) (vp_in_nI (by omega) (by decide)) (ixN2 (by omega)) ?_
      rw [e72]
      refine Ex.callV (pc := 30) (As := [.int _, .int _]) (rest := []) dX10_matches_30 cX10_479 (tm_needs2 hR3 hb hs) (sh36 _) rfl rfl (by decide) (Nat.le_refl _) (Nat.le_refl _) (Nat.le_of_ble_eq_true rfl) (Or.inl (fun r S' h => by obtain ⟨_, _, h, _⟩ := h; subst h; rfl)) (fun r S' hq _ _ => ?_)
      obtain ⟨I4, L4, rfl, rfl, hQ4, hSL4, e65⟩ := hq
      refine Ex.istore (pc := 33) (ls' := [some (.ref 36), some (.int _), some (.int _), some (.int _), some (.int _), none]) dX10_matches_33 (by decide) rfl rfl ?_
      refine Ex.aload_n (pc := 35) dX10_matches_35 rfl rfl ?_
      refine Ex.getR (pc := 36) dX10_matches_36 fX10_198 (sh36 _) r36_61 ?_
      refine Ex.iconst (pc := 39) (v := 5) dX10_matches_39 rfl ?_
      refine Ex.iload_n (pc := 40) dX10_matches_40 rfl rfl ?_
      refine Ex.imul (pc := 41) dX10_matches_41 ?_
      refine Ex.iload_n (pc := 42) dX10_matches_42 rfl rfl ?_
      refine Ex.iadd (pc := 43) dX10_matches_43 ?_
      refine Ex.iload (pc := 44) dX10_matches_44 rfl ?_
      refine Ex.iconst (pc := 46) (v := (-1)) dX10_matches_46 rfl ?_
      refine Ex.icmp_eq (pc := 47) (tgt := 61) dX10_matches_47 (by decide) (fun c47 => ?_) (fun c47 => ?_)
      · skip
        refine Ex.ldcw (pc := 61) dX10_matches_61 kv_X10_482 ?_
        refine Ex.goto (pc := 64) (tgt := 69) dX10_matches_64 (by decide) ?_
        refine Ex.iast (pc := 69) (j := 5 * k + b) dX10_matches_69 (sh75 _) (ixE (c := 5) (a := k) (b := b) rfl rfl (by omega) (by decide)) (ixE2 (c := 5) rfl rfl (by omega)) ?_
        refine Ex.iinc (pc := 70) (ls' := [some (.ref 36), some (.int _), some (.int _), some (.int _), some (.int _), none]) dX10_matches_70 rfl rfl (by decide) rfl rfl ?_
        refine Ex.goto (pc := 73) (tgt := 9) dX10_matches_73 (by decide) ?_
        rw [show nI b + Int32.ofInt 1 = nI (b + 1) from nI_1 b]
        have hv : need k b = 100000000 := by
          rw [hnk]; unfold ndN
          rw [if_neg ?_]
          rintro ⟨q1, q2⟩
          rw [if_pos q1, em] at c47
          exact absurd (show nI m < 0 from by rw [show nI m = -1 from c47]; decide) (nI_pos (by omega))
        refine Ex.le (ls' := [some (.ref 36), some (.int (nI l.length)), some (.int (nI k)), some (.int (nI (b + 1))), none, none]) ⟨rfl, rfl, rfl, rfl, trivial⟩ (ih2 (va_up I4 75 (upd (I4 75) (5 * k + b) 100000000), L4) ⟨⟨(hQ3.tr hQ4.q).up (by decide), hSL3.tr hSL4 (by decide) (by decide), ?_, ?_⟩, ?_⟩)
        · show va_up I4 75 (upd (I4 75) (5 * k + b) 100000000) 72 = I 72
          rw [va_up_n (by decide), hQ4.1 72 (by decide)]; exact h723
        · intro i c hi hc
          show va_up I4 75 (upd (I4 75) (5 * k + b) 100000000) 75 (5 * i + c) = _
          rw [va_up_s, upd_n (by omega), hQ4.1 75 (by decide)]; exact h753 i c hi hc
        · intro i hi
          show va_up I4 75 (upd (I4 75) (5 * k + b) 100000000) 75 (5 * k + i) = _
          rw [va_up_s]
          by_cases e : i = b
          · rw [e, upd_s, hv]; rfl
          · rw [upd_n (by omega), hQ4.1 75 (by decide)]; exact hk75 i (by omega)
      · skip
        refine Ex.aload_n (pc := 50) dX10_matches_50 rfl rfl ?_
        refine Ex.getR (pc := 51) dX10_matches_51 fX10_159 (sh36 _) r36_48 ?_
        refine Ex.iconst (pc := 54) (v := 5) dX10_matches_54 rfl ?_
        refine Ex.iload_n (pc := 55) dX10_matches_55 rfl rfl ?_
        refine Ex.iadd (pc := 56) dX10_matches_56 ?_
        refine Ex.iald (pc := 57) (j := 5 + b) dX10_matches_57 (sh65 _) (ixA (x := 5) (a := 5) (j := b) rfl (by omega) (by decide)).1 (ixA2 (x := 5) (a := 5) (j := b) rfl (by omega)) ?_
        refine Ex.if_ne (pc := 58) (tgt := 67) dX10_matches_58 (by decide) (fun c58 => ?_) (fun c58 => ?_)
        · skip
          refine Ex.iload (pc := 67) dX10_matches_67 rfl ?_
          refine Ex.iast (pc := 69) (j := 5 * k + b) dX10_matches_69 (sh75 _) (ixE (c := 5) (a := k) (b := b) rfl rfl (by omega) (by decide)) (ixE2 (c := 5) rfl rfl (by omega)) ?_
          refine Ex.iinc (pc := 70) (ls' := [some (.ref 36), some (.int _), some (.int _), some (.int _), some (.int _), none]) dX10_matches_70 rfl rfl (by decide) rfl rfl ?_
          refine Ex.goto (pc := 73) (tgt := 9) dX10_matches_73 (by decide) ?_
          rw [show nI b + Int32.ofInt 1 = nI (b + 1) from nI_1 b]
          have hv : need k b = m := by
            rw [hnk]; unfold ndN
            have q1 : (rubX p f5 f6 x b (l.getD k 0) 99).2.1 = 0 := by
              by_cases q : (rubX p f5 f6 x b (l.getD k 0) 99).2.1 = 0
              · exact q
              · rw [if_neg q] at c47; exact absurd rfl c47
            rw [e65] at c58
            rw [if_pos ⟨q1, c58⟩, em, nI_clamp (by omega)]
          have hv2 : (if (rubX p f5 f6 x b (l.getD k 0) 99).2.1 = 0 then (rubX p f5 f6 x b (l.getD k 0) 99).2.2.1 else -1) = nI m := by
            by_cases q : (rubX p f5 f6 x b (l.getD k 0) 99).2.1 = 0
            · rw [if_pos q, em]
            · rw [if_neg q] at c47; exact absurd rfl c47
          refine Ex.le (ls' := [some (.ref 36), some (.int (nI l.length)), some (.int (nI k)), some (.int (nI (b + 1))), none, none]) ⟨rfl, rfl, rfl, rfl, trivial⟩ (ih2 (va_up I4 75 (upd (I4 75) (5 * k + b) (if (rubX p f5 f6 x b (l.getD k 0) 99).2.1 = 0 then (rubX p f5 f6 x b (l.getD k 0) 99).2.2.1 else -1)), L4) ⟨⟨(hQ3.tr hQ4.q).up (by decide), hSL3.tr hSL4 (by decide) (by decide), ?_, ?_⟩, ?_⟩)
          · show va_up I4 75 (upd (I4 75) (5 * k + b) (if (rubX p f5 f6 x b (l.getD k 0) 99).2.1 = 0 then (rubX p f5 f6 x b (l.getD k 0) 99).2.2.1 else -1)) 72 = I 72
            rw [va_up_n (by decide), hQ4.1 72 (by decide)]; exact h723
          · intro i c hi hc
            show va_up I4 75 (upd (I4 75) (5 * k + b) (if (rubX p f5 f6 x b (l.getD k 0) 99).2.1 = 0 then (rubX p f5 f6 x b (l.getD k 0) 99).2.2.1 else -1)) 75 (5 * i + c) = _
            rw [va_up_s, upd_n (by omega), hQ4.1 75 (by decide)]; exact h753 i c hi hc
          · intro i hi
            show va_up I4 75 (upd (I4 75) (5 * k + b) (if (rubX p f5 f6 x b (l.getD k 0) 99).2.1 = 0 then (rubX p f5 f6 x b (l.getD k 0) 99).2.2.1 else -1)) 75 (5 * k + i) = _
            rw [va_up_s]
            by_cases e : i = b
            · rw [e, upd_s, hv]; exact hv2
            · rw [upd_n (by omega), hQ4.1 75 (by decide)]; exact hk75 i (by omega)
        · skip
          refine Ex.ldcw (pc := 61) dX10_matches_61 kv_X10_482 ?_
          refine Ex.goto (pc := 64) (tgt := 69) dX10_matches_64 (by decide) ?_
          refine Ex.iast (pc := 69) (j := 5 * k + b) dX10_matches_69 (sh75 _) (ixE (c := 5) (a := k) (b := b) rfl rfl (by omega) (by decide)) (ixE2 (c := 5) rfl rfl (by omega)) ?_
          refine Ex.iinc (pc := 70) (ls' := [some (.ref 36), some (.int _), some (.int _), some (.int _), some (.int _), none]) dX10_matches_70 rfl rfl (by decide) rfl rfl ?_
          refine Ex.goto (pc := 73) (tgt := 9) dX10_matches_73 (by decide) ?_
          rw [show nI b + Int32.ofInt 1 = nI (b + 1) from nI_1 b]
          have hv : need k b = 100000000 := by
            rw [hnk]; unfold ndN
            rw [if_neg ?_]
            rintro ⟨q1, q2⟩
            rw [e65] at c58
            exact q2 c58
          refine Ex.le (ls' := [some (.ref 36), some (.int (nI l.length)), some (.int (nI k)), some (.int (nI (b + 1))), none, none]) ⟨rfl, rfl, rfl, rfl, trivial⟩ (ih2 (va_up I4 75 (upd (I4 75) (5 * k + b) 100000000), L4) ⟨⟨(hQ3.tr hQ4.q).up (by decide), hSL3.tr hSL4 (by decide) (by decide), ?_, ?_⟩, ?_⟩)
          · show va_up I4 75 (upd (I4 75) (5 * k + b) 100000000) 72 = I 72
            rw [va_up_n (by decide), hQ4.1 72 (by decide)]; exact h723
          · intro i c hi hc
            show va_up I4 75 (upd (I4 75) (5 * k + b) 100000000) 75 (5 * i + c) = _
            rw [va_up_s, upd_n (by omega), hQ4.1 75 (by decide)]; exact h753 i c hi hc
          · intro i hi
            show va_up I4 75 (upd (I4 75) (5 * k + b) 100000000) 75 (5 * k + i) = _
            rw [va_up_s]
            by_cases e : i = b
            · rw [e, upd_s, hv]; rfl
            · rw [upd_n (by omega), hQ4.1 75 (by decide)]; exact hk75 i (by omega)
