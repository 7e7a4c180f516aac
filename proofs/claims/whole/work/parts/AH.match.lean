/-! match: the class's search over the reference's rows -/
theorem lft_at (d : Nat → Int32) (s : Nat) (hs : ¬ d s = 0) : ∀ k, s < k → (lft d k)[(lft d s).length]? = some s
  | 0, h => absurd h (Nat.not_lt_zero _)
  | k + 1, h => by
    simp only [lft]
    by_cases e : s = k
    · subst e
      rw [if_neg hs, List.getElem?_append_right (Nat.le_refl _), Nat.sub_self]; rfl
    · have ih := lft_at d s hs k (by omega)
      split
      · exact ih
      · rw [List.getElem?_append_left (List.getElem?_eq_some_iff.mp ih).1]; exact ih
theorem bt_t : ∀ T, T < 64 → ∀ b, b < 6 → (decide (¬ nI T >>> (nI b &&& 31) &&& 1 = 0)) = T.testBit b := by decide +kernel
theorem bt_o : ∀ T, T < 64 → ∀ b, b < 6 → nI T ||| 1 <<< (nI b &&& 31) = nI (T ||| 2 ^ b) ∧ T ||| 2 ^ b < 64 := by decide +kernel
def Bs (p : List Nat) (T : Nat) : Prop := T < 64 ∧ ∀ b, b < 6 → T.testBit b = p.any (fun c => Nat.beq c b)
theorem Bs.nil : Bs [] 0 := ⟨by decide, fun b _ => by simp⟩
theorem Bs.push {p : List Nat} {T b : Nat} (h : Bs p T) (hb : b < 6) : Bs (p ++ [b]) (T ||| 2 ^ b) := ⟨(bt_o T h.1 b hb).2, fun c hc => by
  rw [Nat.testBit_or, h.2 c hc, Nat.testBit_two_pow, List.any_append]
  congr 1
  show decide (b = c) = (Nat.beq b c || false)
  rw [Bool.or_false]
  by_cases e : b = c
  · subst e; rw [decide_eq_true rfl, Nat.beq_refl]
  · rw [decide_eq_false e]
    exact (Bool.eq_false_iff.mpr (fun z => e (Nat.eq_of_beq_eq_true z))).symm⟩
theorem sumN_pre {need : Nat → Nat → Nat} {r r' : List Nat} : ∀ m, (∀ k, k < m → r.getD k 0 = r'.getD k 0) → sumN need r m = sumN need r' m
  | 0, _ => rfl
  | m + 1, h => by
    simp only [sumN]
    rw [sumN_pre m (fun k hk => h k (by omega)), h m (by omega)]
theorem sumN_mono {need : Nat → Nat → Nat} {r : List Nat} {k : Nat} : ∀ d, sumN need r k ≤ sumN need r (k + d)
  | 0 => Nat.le_refl _
  | d + 1 => by
    have ih := sumN_mono (need := need) (r := r) (k := k) d
    show _ ≤ (if sumN need r (k + d) < 100000000 then sumN need r (k + d) + need (k + d) (r.getD (k + d) 0) else sumN need r (k + d))
    split <;> omega
theorem enum_pre (o : Nat) : ∀ n p r, r ∈ enumF o n p → r.length = p.length + n ∧ ∀ k, k < p.length → r.getD k 0 = p.getD k 0
  | 0, p, r, h => by
    simp only [enumF, List.mem_singleton] at h
    subst h; exact ⟨rfl, fun _ _ => rfl⟩
  | n + 1, p, r, h => by
    simp only [enumF, List.mem_flatMap] at h
    obtain ⟨b, hb, h⟩ := h
    split at h
    · cases h
    · obtain ⟨h1, h2⟩ := enum_pre o n (p ++ [b]) r h
      rw [List.length_append, List.length_singleton] at h1 h2
      refine ⟨by omega, fun k hk => ?_⟩
      rw [h2 k (by omega)]
      simp [List.getD_eq_getElem?_getD, List.getElem?_append_left hk]
theorem fold_no {need : Nat → Nat → Nat} {many : Nat} : ∀ (l : List (List Nat)) (acc : Nat × List Nat), (∀ r ∈ l, acc.1 ≤ sumN need r many) → l.foldl (mtS need many) acc = acc
  | [], _, _ => rfl
  | r :: l, acc, h => by
    rw [List.foldl_cons]
    have e : mtS need many acc r = acc := by
      unfold mtS
      rw [if_neg (by have := h r (by simp); omega)]
    rw [e]; exact fold_no l acc (fun r hr => h r (by simp [hr]))
theorem enum_no {need : Nat → Nat → Nat} {o n many : Nat} {p : List Nat} {acc : Nat × List Nat} (hm : p.length + n = many) (h : acc.1 ≤ sumN need p p.length) : (enumF o n p).foldl (mtS need many) acc = acc := by
  refine fold_no _ _ (fun r hr => ?_)
  obtain ⟨h1, h2⟩ := enum_pre o n p r hr
  have := sumN_mono (need := need) (r := r) (k := p.length) n
  rw [sumN_pre (r' := p) p.length h2, hm] at this
  omega
def AR (dp : Nat → Int32) (ns : Nat) (g : aSe) (acc : Nat × List Nat) : Prop := (acc.1 = 100000000 ∧ g.1 = -1) ∨ (acc.1 ≤ 600 ∧ g.1 = nI acc.1 ∧ ∀ s, s < ns → g.2.1 s = if dp s = 0 then -1 else nI (acc.2.getD (lft dp s).length 0))
def TR (dp : Nat → Int32) (t : Nat → Int32) (p : List Nat) (st : Nat) : Prop := ∀ s, s < st → t s = if dp s = 0 then -1 else nI (p.getD (lft dp s).length 0)
theorem seat_ok {sf dp : Nat → Int32} {nb ns : Nat} {need : Nat → Nat → Nat} (hnb : nb ≤ 5) (hns : ns ≤ 6) (hsf : ∀ st, st < ns → ¬ dp st = 0 → ∀ b, b < nb → (sf (st * 5 + b) = -1 ∧ need (lft dp st).length b = 100000000) ∨ (sf (st * 5 + b) = nI (need (lft dp st).length b) ∧ need (lft dp st).length b ≤ 99)) :
    ∀ (m st T : Nat) (p : List Nat) (sm : Int32) (g : aSe) (acc : Nat × List Nat), st + m = 7 → st ≤ ns → p.length = (lft dp st).length → sm = nI (sumN need p p.length) → sumN need p p.length ≤ 99 * p.length → Bs p T → AR dp ns g acc → TR dp g.2.2 p st → AR dp ns (seatF sf dp nb ns m st (nI T) sm g) ((enumF nb ((lft dp ns).length - p.length) p).foldl (mtS need (lft dp ns).length) acc) ∧ ∀ s, s < st → (seatF sf dp nb ns m st (nI T) sm g).2.2 s = g.2.2 s := by
  intro m
  induction m with
  | zero => intro st T p sm g acc hm hst; omega
  | succ m ih =>
    intro st T p sm g acc hm hst hpl hsm hs99 hB hA hT
    have hl6 := lft_len dp st
    have hlm : (lft dp st).length ≤ (lft dp ns).length := by
      have : ∀ k, st ≤ k → (lft dp st).length ≤ (lft dp k).length := by
        intro k hk
        induction k with
        | zero => rw [show st = 0 by omega]; exact Nat.le_refl _
        | succ k ihk =>
          by_cases e : st = k + 1
          · rw [e]; exact Nat.le_refl _
          · have := ihk (by omega)
            simp only [lft]
            split
            · exact this
            · rw [List.length_append]; omega
      exact this ns hst
    simp only [seatF]
    by_cases hpr : ¬ g.1 = -1 ∧ ¬ sm < g.1
    · rw [if_pos hpr]
      rcases hA with ⟨a1, a2⟩ | ⟨a1, a2, a3⟩
      · exact absurd a2 hpr.1
      · have hle : acc.1 ≤ sumN need p p.length := by
          have := hpr.2
          rw [hsm, a2, nI_ltI (by omega) (by omega)] at this
          omega
        rw [enum_no (by omega) hle]
        exact ⟨Or.inr ⟨a1, a2, a3⟩, fun _ _ => rfl⟩
    · rw [if_neg hpr]
      have hlt : sumN need p p.length < acc.1 := by
        rcases hA with ⟨a1, a2⟩ | ⟨a1, a2, a3⟩
        · omega
        · have : sm < g.1 := Classical.byContradiction (fun z => hpr ⟨by
            rw [a2]
            intro w
            have := congrArg Int32.toInt w
            rw [nI_toInt (by omega)] at this
            have e : (-1 : Int32).toInt = -1 := rfl
            omega, z⟩)
          rw [hsm, a2, nI_ltI (by omega) (by omega)] at this
          exact this
      by_cases hle : ns ≤ st
      · rw [if_pos hle]
        have e : st = ns := by omega
        subst e
        rw [hpl, Nat.sub_self]
        simp only [enumF, List.foldl_cons, List.foldl_nil]
        unfold mtS
        rw [← hpl, if_pos hlt]
        refine ⟨Or.inr ⟨by show sumN need p p.length ≤ 600; omega, hsm, fun s hs => ?_⟩, fun _ _ => by first | rfl | trivial⟩
        show va_cpy g.2.2 g.2.1 0 0 6 s = _
        unfold va_cpy
        rw [if_pos (by omega)]
        simp only [Nat.zero_add, Nat.sub_zero]
        exact hT s hs
      · rw [if_neg hle]
        have hlt' : st < ns := by omega
        by_cases hd : dp st = 0
        · rw [if_pos hd]
          have hl1 : lft dp (st + 1) = lft dp st := by simp only [lft]; rw [if_pos hd]
          obtain ⟨i1, i2⟩ := ih (st + 1) T p sm (g.1, g.2.1, upd g.2.2 st (-1)) acc (by omega) (by omega) (by rw [hl1]; exact hpl) hsm hs99 hB hA (fun s hs => by
            show upd g.2.2 st (-1) s = _
            by_cases e : s = st
            · subst e; rw [upd_s, if_pos hd]
            · rw [upd_n e]; exact hT s (by omega))
          exact ⟨i1, fun s hs => by rw [i2 s (by omega)]; exact upd_n (by omega)⟩
        · rw [if_neg hd]
          have hl1 : (lft dp (st + 1)).length = (lft dp st).length + 1 := by simp only [lft]; rw [if_neg hd, List.length_append]; rfl
          have hlm1 : (lft dp st).length + 1 ≤ (lft dp ns).length := by
            have := (List.getElem?_eq_some_iff.mp (lft_at dp st hd ns hlt')).1
            omega
          obtain ⟨n', hn'⟩ : ∃ n', (lft dp ns).length - p.length = n' + 1 := ⟨(lft dp ns).length - p.length - 1, by omega⟩
          rw [hn']
          simp only [enumF]
          rw [List.foldl_flatMap]
          have key : ∀ (bs : List Nat) (g : aSe) (acc : Nat × List Nat), (∀ b ∈ bs, b < nb) → AR dp ns g acc → TR dp g.2.2 p st → AR dp ns (bs.foldl (fun g b => if ¬ nI T >>> (nI b &&& 31) &&& 1 = 0 then g else if sf (st * 5 + b) = -1 then g else seatF sf dp nb ns m (st + 1) (nI T ||| 1 <<< (nI b &&& 31)) (sm + sf (st * 5 + b)) (g.1, g.2.1, upd g.2.2 st (nI b))) g) (bs.foldl (fun acc b => (if p.any (fun c => Nat.beq c b) = true then [] else enumF nb n' (p ++ [b])).foldl (mtS need (lft dp ns).length) acc) acc) ∧ ∀ s, s < st → (bs.foldl (fun g b => if ¬ nI T >>> (nI b &&& 31) &&& 1 = 0 then g else if sf (st * 5 + b) = -1 then g else seatF sf dp nb ns m (st + 1) (nI T ||| 1 <<< (nI b &&& 31)) (sm + sf (st * 5 + b)) (g.1, g.2.1, upd g.2.2 st (nI b))) g).2.2 s = g.2.2 s := by
            intro bs
            induction bs with
            | nil => intro g acc _ hA hT; exact ⟨hA, fun _ _ => rfl⟩
            | cons b bs ihb =>
              intro g acc hbs hA hT
              have hb : b < nb := hbs b (by simp)
              simp only [List.foldl_cons]
              have hbit := bt_t T hB.1 b (by omega)
              rw [hB.2 b (by omega)] at hbit
              by_cases hin : p.any (fun c => Nat.beq c b) = true
              · rw [hin] at hbit
                rw [if_pos (of_decide_eq_true hbit), if_pos hin, List.foldl_nil]
                exact ihb g acc (fun c hc => hbs c (by simp [hc])) hA hT
              · rw [Bool.eq_false_iff.mpr hin] at hbit
                rw [if_neg (of_decide_eq_false hbit), if_neg hin]
                have hpb : (p ++ [b]).length = p.length + 1 := by rw [List.length_append]; rfl
                have hgb : (p ++ [b]).getD p.length 0 = b := by simp [List.getD_eq_getElem?_getD]
                have hpre : ∀ k, k < p.length → (p ++ [b]).getD k 0 = p.getD k 0 := fun k hk => by simp [List.getD_eq_getElem?_getD, List.getElem?_append_left hk]
                have hsum : sumN need (p ++ [b]) (p ++ [b]).length = sumN need p p.length + need p.length b := by
                  rw [hpb]
                  simp only [sumN]
                  rw [sumN_pre (r' := p) p.length hpre, if_pos (by omega), hgb]
                rcases hsf st hlt' hd b hb with ⟨s1, s2⟩ | ⟨s1, s2⟩
                · rw [if_pos s1]
                  rw [← hpl] at s2
                  have : (enumF nb n' (p ++ [b])).foldl (mtS need (lft dp ns).length) acc = acc := enum_no (by omega) (by
                    rw [hsum, s2]
                    rcases hA with ⟨a1, _⟩ | ⟨a1, _, _⟩ <;> omega)
                  rw [this]
                  exact ihb g acc (fun c hc => hbs c (by simp [hc])) hA hT
                · have hne : ¬ sf (st * 5 + b) = -1 := fun z => by
                    rw [s1] at z
                    have := congrArg Int32.toInt z
                    rw [nI_toInt (by omega)] at this
                    have e : (-1 : Int32).toInt = -1 := rfl
                    omega
                  rw [if_neg hne]
                  rw [← hpl] at s1 s2
                  obtain ⟨i1, i2⟩ := ih (st + 1) (T ||| 2 ^ b) (p ++ [b]) (sm + sf (st * 5 + b)) (g.1, g.2.1, upd g.2.2 st (nI b)) acc (by omega) (by omega) (by omega) (by rw [hsum, hsm, s1]; exact (nI_add _ _)) (by rw [hsum, hpb]; omega) (hB.push (by omega)) hA (fun s hs => by
                    show upd g.2.2 st (nI b) s = _
                    by_cases e : s = st
                    · subst e; rw [upd_s, if_neg hd, ← hpl, hgb]
                    · rw [upd_n e, hT s (by omega)]
                      by_cases hds : dp s = 0
                      · rw [if_pos hds, if_pos hds]
                      · rw [if_neg hds, if_neg hds]
                        have : (lft dp s).length < p.length := by
                          rw [hpl]
                          exact (List.getElem?_eq_some_iff.mp (lft_at dp s hds st (by omega))).1
                        rw [hpre _ this])
                  rw [(bt_o T hB.1 b (by omega)).1]
                  rw [show (lft dp ns).length - (p ++ [b]).length = n' by omega] at i1
                  have hTT : ∀ s, s < st → (seatF sf dp nb ns m (st + 1) (nI (T ||| 2 ^ b)) (sm + sf (st * 5 + b)) (g.1, g.2.1, upd g.2.2 st (nI b))).2.2 s = g.2.2 s := fun s hs => by rw [i2 s (by omega)]; exact upd_n (by omega)
                  obtain ⟨j1, j2⟩ := ihb _ _ (fun c hc => hbs c (by simp [hc])) i1 (fun s hs => by rw [hTT s hs]; exact hT s hs)
                  exact ⟨j1, fun s hs => (j2 s hs).trans (hTT s hs)⟩
          exact key (List.range nb) g acc (fun b hb => List.mem_range.mp hb) hA hT
theorem enum_big : ∀ o, o < 7 → ∀ many, many < 7 → o < many → enumF o many [] = [] := by decide +kernel
theorem sf_nd {t : aT} (h1 : le99 t.1) (hc : ∃ m, m ≤ 99 ∧ t.2.2.1 = nI m) : (sfV t = -1 ∧ ndN t = 100000000) ∨ (sfV t = nI (ndN t) ∧ ndN t ≤ 99) := by
  obtain ⟨z, hz, e1⟩ := h1
  obtain ⟨m, hm, e2⟩ := hc
  have hzz : t.1 ≤ 0 ↔ t.1 = 0 := by
    rw [e1, show (0 : Int32) = nI 0 from rfl, ← Int32.not_lt, nI_ltI (by omega) (by omega), nI_iff (by omega) (by omega)]
    omega
  unfold sfV ndN
  by_cases hd : t.2.1 = 0
  · by_cases h0 : t.1 = 0
    · left
      rw [if_pos hd, if_pos (hzz.mpr h0), if_neg (fun q => q.2 h0)]; exact ⟨rfl, rfl⟩
    · right
      rw [if_pos hd, if_neg (fun q => h0 (hzz.mp q)), if_pos ⟨hd, h0⟩, e2, nI_clamp (by omega)]; exact ⟨rfl, hm⟩
  · left
    rw [if_neg hd, if_neg (fun q => hd q.1)]; exact ⟨rfl, rfl⟩
theorem mt_ar {p : aP} {f5 f6 : Nat → Int32} {nb ns : Nat} {x : aX} {g : aSe} (hG : XG nb ns x) (hnb : nb ≤ 5) (hns : ns ≤ 6) : AR x.2.2.2.2 ns (mtG p f5 f6 nb ns x g) (mtR (needN p f5 f6 x (lft x.2.2.2.2 ns)) nb (lft x.2.2.2.2 ns).length) := by
  unfold mtG mtR
  have hl6 := lft_len x.2.2.2.2 ns
  have main := (seat_ok (sf := sfR p f5 f6 x) (dp := x.2.2.2.2) (nb := nb) (ns := ns) (need := needN p f5 f6 x (lft x.2.2.2.2 ns)) hnb hns (fun st hst hd b hb => by
    have e1 : sfR p f5 f6 x (st * 5 + b) = sfV (rubX p f5 f6 x b st 99) := by
      unfold sfR
      rw [show (st * 5 + b) % 5 = b by omega, show (st * 5 + b) / 5 = st by omega]
    have e2 : needN p f5 f6 x (lft x.2.2.2.2 ns) (lft x.2.2.2.2 st).length b = ndN (rubX p f5 f6 x b st 99) := by
      unfold needN
      rw [List.getD_eq_getElem?_getD, lft_at _ st hd ns hst]; rfl
    rw [e1, e2]
    exact sf_nd (rub_99 p _ 99 _ (hG.1.1 b) (hG.1.2 st)).1 (rubX_cnt p f5 f6 x b st 99)) 7 0 0 [] 0 (-1, g.2.1, g.2.2) (100000000, []) rfl (Nat.zero_le _) rfl rfl (Nat.zero_le _) Bs.nil (Or.inl ⟨rfl, rfl⟩) (fun s hs => absurd hs (Nat.not_lt_zero _))).1
  rw [show nI 0 = 0 from rfl] at main
  rw [show ([] : List Nat).length = 0 from rfl, Nat.sub_zero] at main
  by_cases hm : (lft x.2.2.2.2 ns).length ≤ nb
  · rw [if_pos hm]; exact main
  · rw [if_neg hm]
    rw [enum_big nb (by omega) _ (by omega) (by omega)] at main
    exact main
def mtQ (l : List Nat) (R : Nat × List Nat) (w v : Int32) : Prop := if R.1 = 100000000 then v = -1 else if w = -1 then v = nI R.1 else ∃ s, s < 1000 ∧ w = nI s ∧ ((∃ k, l[k]? = some s ∧ v = nI (R.2.getD k 0)) ∨ (s ∉ l ∧ v = -1))
set_option maxRecDepth 20000 in
theorem tm_match2 {N : Nat} {I : aI} {L : aL} {p : aP} {bk nb ns nh : Nat} {f5 f6 : Nat → Int32} {x : aX} {rs : List aRow} (hR : RS I bk nb ns nh p f5 f6 x rs) {w : Int32} (hw : w = -1 ∨ inR w ns = true) : Run 8 0 0 mX10_match [.ref 36, .int w] (St N I L) (RX N (fun o I2 L2 => (∃ v, o = some (.int v) ∧ mtQ (lft x.2.2.2.2 ns) (mtR (needN p f5 f6 x (lft x.2.2.2.2 ns)) nb (lft x.2.2.2.2 ns).length) w v) ∧ QF I I2 ∧ SmL [70] L L2)) := by
  refine Run.of (ls := [some (.ref 36), some (.int _), none, none, none]) (by decide) (Nat.le_of_ble_eq_true rfl) rfl ?_
  obtain ⟨hP, hX, hK, hG, hrb⟩ := id hR
  obtain ⟨⟨h1, h2, hnb, hns, hnh, hcb, hcs, hch⟩, -⟩ := id hP
  have hlen : (lft x.2.2.2.2 ns).length ≤ 6 := Nat.le_trans (lft_len _ _) hns
  have hls : ∀ s ∈ (lft x.2.2.2.2 ns), s < ns := fun s hs => ((lft_mem _ _ _).mp hs).1
  have hRle := mtR_le (need := needN p f5 f6 x (lft x.2.2.2.2 ns)) (o := nb) (many := (lft x.2.2.2.2 ns).length)
  have k15 : Ex 8 0 0 mX10_match 0 0 15 [some (.ref 36), some (.int w), none, none, none] [] (St N I L) (RX N (fun o I2 L2 => (∃ v, o = some (.int v) ∧ mtQ (lft x.2.2.2.2 ns) (mtR (needN p f5 f6 x (lft x.2.2.2.2 ns)) nb (lft x.2.2.2.2 ns).length) w v) ∧ QF I I2 ∧ SmL [70] L L2)) := by
    generalize hll : (lft x.2.2.2.2 ns) = l at *
    refine Ex.aload_n (pc := 15) dX10_match_15 rfl rfl ?_
    refine Ex.callV (pc := 16) (As := []) (rest := []) dX10_match_16 cX10_492 (tm_findsLefts hR) (sh36 _) rfl rfl (by decide) (Nat.le_refl _) (Nat.le_refl _) (Nat.le_of_ble_eq_true rfl) (Or.inl (fun r S' h => by obtain ⟨_, _, h, _⟩ := h; subst h; rfl)) (fun r S' hq _ _ => ?_)
    obtain ⟨I1, rfl, rfl, hS1, h721⟩ := hq
    rw [hll] at h721 ⊢
    have hQ1 : QF I I1 := ⟨hS1.tr Sm.rf (l2 := []) (by decide) (by decide), SlF.of hS1 (by decide)⟩
    have hR1 := hR.q hQ1
    refine Ex.istore_n (pc := 19) (ls' := [some (.ref 36), some (.int _), some (.int _), none, none]) dX10_match_19 rfl (by decide) rfl rfl ?_
    refine Ex.aload_n (pc := 20) dX10_match_20 rfl rfl ?_
    refine Ex.iload_n (pc := 21) dX10_match_21 rfl rfl ?_
    refine Ex.callV (pc := 22) (As := [.int _]) (rest := []) dX10_match_22 cX10_496 (tm_matches hR1 hlen hls h721) (sh36 _) rfl rfl (by decide) (Nat.le_refl _) (Nat.le_refl _) (Nat.le_of_ble_eq_true rfl) (Or.inl (fun r S' h => by obtain ⟨_, _, h, _⟩ := h; subst h; rfl)) (fun r S' hq _ _ => ?_)
    obtain ⟨I2, L2, rfl, rfl, hQ2, hSL2, h722, h74⟩ := hq
    generalize mtR (needN p f5 f6 x l) nb l.length = R at *
    have hQ3 := hQ1.tr hQ2
    refine Ex.istore_n (pc := 25) (ls' := [some (.ref 36), some (.int _), some (.int _), some (.int _), none]) dX10_match_25 rfl (by decide) rfl rfl ?_
    refine Ex.iload_n (pc := 26) dX10_match_26 rfl rfl ?_
    refine Ex.iconst (pc := 27) (v := (-1)) dX10_match_27 rfl ?_
    refine Ex.icmp_eq (pc := 28) (tgt := 36) dX10_match_28 (by decide) (fun c28 => ?_) (fun c28 => ?_)
    · skip
      refine Ex.iload_n (pc := 36) dX10_match_36 rfl rfl ?_
      refine Ex.iret (pc := 37) rfl rfl rfl dX10_match_37 (Nat.le_refl _) (Nat.le_refl _) ?_
      refine ⟨_, _, rfl, ⟨_, rfl, ?_⟩, hQ3, hSL2⟩
      unfold mtQ
      by_cases e : R.1 = 100000000
      · rw [if_pos e, if_pos e]
      · rw [if_neg e, if_neg e, if_pos c28]
    · skip
      refine Ex.iload_n (pc := 31) dX10_match_31 rfl rfl ?_
      refine Ex.iconst (pc := 32) (v := (-1)) dX10_match_32 rfl ?_
      refine Ex.icmp_ne (pc := 33) (tgt := 38) dX10_match_33 (by decide) (fun c33 => ?_) (fun c33 => ?_)
      · skip
        refine Ex.iconst (pc := 38) (v := 0) dX10_match_38 rfl ?_
        refine Ex.istore (pc := 39) (ls' := [some (.ref 36), some (.int _), some (.int _), some (.int _), some (.int 0)]) dX10_match_39 (by decide) rfl rfl ?_
        have hne : ¬ R.1 = 100000000 := fun e => by rw [if_pos e] at c33; exact c33 rfl
        rw [if_neg hne]
        have hg : ∀ k, k < l.length → I2 74 k = nI (R.2.getD k 0) := h74.resolve_left hne
        obtain ⟨s, hs, rfl⟩ := inR_of (hw.resolve_left c28) (by omega)
        have e72 : ∀ k, k < l.length → I2 72 k = nI (l.getD k 0) := fun k hk => by rw [h722]; exact h721 k hk
        refine forUp (σ := Unit) (P := fun k _ => Ex 8 0 0 mX10_match 0 0 41 [some (.ref 36), some (.int (nI s)), some (.int (nI l.length)), some (.int (nI R.1)), some (.int (nI k))] [] (St N I2 L2) _) (Inv := fun k _ => ∀ i, i < k → ¬ l[i]? = some s) l.length ?_ ?_ 0 () (Nat.zero_le _) (fun i hi => absurd hi (Nat.not_lt_zero _))
        · rintro - hno
          refine Ex.iload (pc := 41) dX10_match_41 rfl ?_
          refine Ex.iload_n (pc := 43) dX10_match_43 rfl rfl ?_
          refine Ex.icmp_ge (pc := 44) (tgt := 72) dX10_match_44 (by decide) (fun _ => ?_) (fun c44 => absurd (nI_le (Nat.le_refl _) (by omega)) c44)
          refine Ex.iconst (pc := 72) (v := (-1)) dX10_match_72 rfl ?_
          refine Ex.iret (pc := 73) rfl rfl rfl dX10_match_73 (Nat.le_refl _) (Nat.le_refl _) ?_
          refine ⟨_, _, rfl, ⟨_, rfl, ?_⟩, hQ3, hSL2⟩
          unfold mtQ
          rw [if_neg hne, if_neg c28]
          refine ⟨s, by omega, rfl, Or.inr ⟨fun hm => ?_, rfl⟩⟩
          obtain ⟨i, hi⟩ := List.getElem?_of_mem hm
          exact hno i (List.getElem?_eq_some_iff.mp hi).1 hi
        · rintro k - hk hno ih
          have hg1 : l[k]? = some (l.getD k 0) := by rw [List.getD_eq_getElem?_getD, List.getElem?_eq_getElem hk]; rfl
          have hsk : l.getD k 0 < ns := hls _ (List.mem_of_getElem? hg1)
          refine Ex.iload (pc := 41) dX10_match_41 rfl ?_
          refine Ex.iload_n (pc := 43) dX10_match_43 rfl rfl ?_
          refine Ex.icmp_ge (pc := 44) (tgt := 72) dX10_match_44 (by decide) (fun c44 => absurd c44 (nI_ge hk (by omega))) (fun _ => ?_)
          refine Ex.aload_n (pc := 47) dX10_match_47 rfl rfl ?_
          refine Ex.getR (pc := 48) dX10_match_48 fX10_189 (sh36 _) r36_58 ?_
          refine Ex.iload (pc := 51) dX10_match_51 rfl ?_
          refine Ex.iald (pc := 53) (j := k) dX10_match_53 (sh72 _) (vp_in_nI (by omega) (by decide)) (ixN2 (by omega)) ?_
          rw [e72 k hk]
          refine Ex.iload_n (pc := 54) dX10_match_54 rfl rfl ?_
          refine Ex.icmp_ne (pc := 55) (tgt := 66) dX10_match_55 (by decide) (fun c55 => ?_) (fun c55 => ?_)
          · skip
            refine Ex.iinc (pc := 66) (ls' := [some (.ref 36), some (.int _), some (.int _), some (.int _), some (.int _)]) dX10_match_66 rfl rfl (by decide) rfl rfl ?_
            refine Ex.goto (pc := 69) (tgt := 41) dX10_match_69 (by decide) ?_
            rw [show nI k + Int32.ofInt 1 = nI (k + 1) from nI_1 k]
            refine ih () ?_
            rw [nI_eq (by omega) (by omega)] at c55
            intro i hi
            by_cases e : i = k
            · rw [e, hg1]; exact fun q => c55 (Option.some.inj q)
            · exact hno i (by omega)
          · skip
            refine Ex.aload_n (pc := 58) dX10_match_58 rfl rfl ?_
            refine Ex.getR (pc := 59) dX10_match_59 fX10_195 (sh36 _) r36_60 ?_
            refine Ex.iload (pc := 62) dX10_match_62 rfl ?_
            refine Ex.iald (pc := 64) (j := k) dX10_match_64 (sh74 _) (vp_in_nI (by omega) (by decide)) (ixN2 (by omega)) ?_
            refine Ex.iret (pc := 65) rfl rfl rfl dX10_match_65 (Nat.le_refl _) (Nat.le_refl _) ?_
            rw [nI_eq (by omega) (by omega)] at c55
            refine ⟨_, _, rfl, ⟨_, rfl, ?_⟩, hQ3, hSL2⟩
            unfold mtQ
            rw [if_neg hne, if_neg c28]
            exact ⟨s, by omega, rfl, Or.inl ⟨k, by rw [hg1, c55], hg k hk⟩⟩
      · skip
        refine Ex.iload_n (pc := 36) dX10_match_36 rfl rfl ?_
        refine Ex.iret (pc := 37) rfl rfl rfl dX10_match_37 (Nat.le_refl _) (Nat.le_refl _) ?_
        refine ⟨_, _, rfl, ⟨_, rfl, ?_⟩, hQ3, hSL2⟩
        unfold mtQ
        by_cases e : R.1 = 100000000
        · rw [if_pos e, if_pos e]
        · rw [if_neg e] at c33; exact absurd (show nI R.1 < 0 from by rw [show nI R.1 = -1 from c33]; decide) (nI_pos (by omega))
  refine Ex.iload_n (pc := 0) dX10_match_0 rfl rfl ?_
  refine Ex.iconst (pc := 1) (v := (-1)) dX10_match_1 rfl ?_
  refine Ex.icmp_eq (pc := 2) (tgt := 15) dX10_match_2 (by decide) (fun c2 => ?_) (fun c2 => ?_)
  · skip
    exact k15
  · skip
    refine Ex.aload_n (pc := 5) dX10_match_5 rfl rfl ?_
    refine Ex.iload_n (pc := 6) dX10_match_6 rfl rfl ?_
    refine Ex.callV (pc := 7) (As := [.int _]) (rest := []) dX10_match_7 cX10_473 (tm_isStain hP.1) (sh36 _) rfl rfl (by decide) (Nat.le_refl _) (Nat.le_refl _) (Nat.le_of_ble_eq_true rfl) (Or.inl (fun r S' h => by obtain ⟨_, h⟩ := h; subst h; rfl)) (fun r S' hq _ _ => ?_)
    obtain ⟨rfl, rfl⟩ := hq
    refine Ex.if_ne (pc := 10) (tgt := 15) dX10_match_10 (by decide) (fun c10 => ?_) (fun c10 => ?_)
    · skip
      exact k15
    · skip
      refine Ex.iconst (pc := 13) (v := (-1)) dX10_match_13 rfl ?_
      refine Ex.iret (pc := 14) rfl rfl rfl dX10_match_14 (Nat.le_refl _) (Nat.le_refl _) ?_
      exact absurd (bI_0 c10) (by rw [hw.resolve_left c2]; decide)
theorem mt_v {p : aP} {f5 f6 : Nat → Int32} {nb ns : Nat} {x : aX} {g : aSe} (hA : AR x.2.2.2.2 ns g (mtR (needN p f5 f6 x (lft x.2.2.2.2 ns)) nb (lft x.2.2.2.2 ns).length)) (hns : ns ≤ 6) {w v : Int32} (hw : w = -1 ∨ inR w ns = true) (h : mtQ (lft x.2.2.2.2 ns) (mtR (needN p f5 f6 x (lft x.2.2.2.2 ns)) nb (lft x.2.2.2.2 ns).length) w v) : v = mtV g w := by
  generalize mtR (needN p f5 f6 x (lft x.2.2.2.2 ns)) nb (lft x.2.2.2.2 ns).length = R at *
  unfold mtQ at h
  unfold mtV
  rcases hA with ⟨a1, a2⟩ | ⟨a1, a2, a3⟩
  · rw [if_pos a1] at h
    rw [if_pos a2]; exact h
  · have hne : ¬ g.1 = -1 := fun z => by
      rw [a2] at z
      have := congrArg Int32.toInt z
      rw [nI_toInt (by omega)] at this
      have e : (-1 : Int32).toInt = -1 := rfl
      omega
    rw [if_neg (by omega)] at h
    rw [if_neg hne]
    by_cases hw1 : w = -1
    · rw [if_pos hw1] at h ⊢; rw [a2]; exact h
    · rw [if_neg hw1] at h ⊢
      obtain ⟨s, hs9, es, h⟩ := h
      have hin := hw.resolve_left hw1
      have hin := of_decide_eq_true hin
      have hw0 : ∃ s', s' < ns ∧ w = nI s' := by
        refine ⟨w.toNatClampNeg, ?_, ?_⟩
        · have h1 := hin.1
          have h2 := hin.2
          rw [← Int32.not_lt, Classical.not_not] at h2
          have h3 := Int32.lt_iff_toInt_lt.mp h2
          rw [nI_toInt (by omega)] at h3
          have h4 : ¬ w.toInt < 0 := fun z => h1 (Int32.lt_iff_toInt_lt.mpr z)
          show w.toInt.toNat < ns
          omega
        · have h1 := hin.1
          have h4 : ¬ w.toInt < 0 := fun z => h1 (Int32.lt_iff_toInt_lt.mpr z)
          apply Int32.toInt_inj.mp
          have h2 := hin.2
          rw [← Int32.not_lt, Classical.not_not] at h2
          have h3 := Int32.lt_iff_toInt_lt.mp h2
          rw [nI_toInt (by omega)] at h3
          rw [nI_toInt (by show w.toInt.toNat < _; omega)]
          show w.toInt = (w.toInt.toNat : Int)
          omega
      obtain ⟨s', hs', ew⟩ := hw0
      have hcl : w.toNatClampNeg = s' := by rw [ew]; exact nI_clamp (by omega)
      rw [hcl, a3 s' hs']
      have hss : ∀ q, q ∈ lft x.2.2.2.2 ns → nI q = nI s' → q = s' := fun q hq e => (nI_iff (by have := ((lft_mem _ _ _).mp hq).1; omega) (by omega)).mp e
      rcases h with ⟨k, hk, ev⟩ | ⟨hn, ev⟩
      · have hmem := List.mem_of_getElem? hk
        have e := hss s hmem (es.symm.trans ew)
        subst e
        have hd := ((lft_mem _ _ _).mp hmem).2
        rw [if_neg hd, ev]
        have h2 := lft_at x.2.2.2.2 s hd ns hs'
        have hkl := (List.getElem?_eq_some_iff.mp hk).1
        have hk2 := (List.getElem?_eq_some_iff.mp h2).1
        by_cases e : k = (lft x.2.2.2.2 s).length
        · rw [e]
        · refine absurd ?_ (lft_ne hkl hk2 e)
          rw [List.getD_eq_getElem?_getD, List.getD_eq_getElem?_getD, hk, h2]
      · by_cases hs0 : s = s'
        · subst hs0
          have hd : x.2.2.2.2 s = 0 := Classical.byContradiction (fun z => hn ((lft_mem _ _ _).mpr ⟨hs', z⟩))
          rw [if_pos hd]; exact ev
        · by_cases hd : x.2.2.2.2 s' = 0
          · rw [if_pos hd]; exact ev
          · exact absurd ((nI_iff hs9 (by omega)).mp (es.symm.trans ew)) hs0
