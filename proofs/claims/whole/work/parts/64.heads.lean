theorem lft_lt (d : Nat → Int32) : ∀ k, (lft d k).Pairwise (fun a b => a < b)
  | 0 => List.Pairwise.nil
  | k + 1 => by
    simp only [lft]
    split
    · exact lft_lt d k
    · rw [List.pairwise_append]
      refine ⟨lft_lt d k, List.pairwise_singleton _ _, fun a ha b hb => ?_⟩
      rw [List.mem_singleton.mp hb]
      exact ((lft_mem d k a).mp ha).1
theorem lft_ne {d : Nat → Int32} {k a b : Nat} (ha : a < (lft d k).length) (hb : b < (lft d k).length) (h : a ≠ b) : (lft d k).getD a 0 ≠ (lft d k).getD b 0 := by
  have hp := List.pairwise_iff_getElem.mp (lft_lt d k)
  have e : ∀ c (hc : c < (lft d k).length), (lft d k).getD c 0 = (lft d k)[c] := fun c hc => by rw [List.getD_eq_getElem?_getD, List.getElem?_eq_getElem hc]; rfl
  rw [e a ha, e b hb]
  rcases Nat.lt_or_gt_of_ne h with q | q
  · have := hp a b ha hb q; omega
  · have := hp b a hb ha q; omega
theorem nodB_pw : ∀ l, nodB l = true → l.Pairwise (fun a b : Nat => a ≠ b)
  | [], _ => List.Pairwise.nil
  | c :: l, h => by
    simp only [nodB, Bool.and_eq_true] at h
    refine List.Pairwise.cons (fun d hd => ?_) (nodB_pw l h.2)
    intro e
    subst e
    have h1 := h.1
    rw [show l.any (fun d => Nat.beq d c) = true from List.any_eq_true.mpr ⟨c, hd, Nat.beq_refl c⟩] at h1
    cases h1
theorem nd_lft {d : Nat → Int32} {k : Nat} {r : List Nat} (h : nodB r = true) (hr : ∀ c ∈ r, c < (lft d k).length) : r.Pairwise (fun a b => (lft d k).getD a 0 ≠ (lft d k).getD b 0) := by
  refine List.Pairwise.imp_of_mem ?_ (nodB_pw r h)
  intro a b ha hb hne
  exact lft_ne (hr a ha) (hr b hb) hne
def stpH (p : aP) (f5 f6 : Nat → Int32) (x : aX) (b : Nat) (l : List Nat) (many : Nat) (acc : Nat × Nat × List Nat) (r : List Nat) : Nat × Nat × List Nat :=
  match hsF p f5 f6 x b (r.map (fun c => l.getD c 0)) (x.2.2.2.1 b) 0 with
  | none => acc
  | some n => if acc.1 = 0 ∨ n < acc.2.1 then (many, n, r.map (fun c => l.getD c 0)) else acc
def hdL (p : aP) (f5 f6 : Nat → Int32) (x : aX) (b : Nat) (l : List Nat) (many : Nat) : Nat × Nat × List Nat := (enumF l.length many []).foldl (stpH p f5 f6 x b l many) (0, 0, [])
def hdN (p : aP) (f5 f6 : Nat → Int32) (x : aX) (b : Nat) (l : List Nat) : Nat → Nat × Nat × List Nat
  | 0 => (0, 0, [])
  | m + 1 => if (hdL p f5 f6 x b l (m + 1)).1 = 0 then hdN p f5 f6 x b l m else hdL p f5 f6 x b l (m + 1)
/-- what heads answers, by the most, the fewest and the row -/
def hdA (R : Nat × Nat × List Nat) (v : Int32) : Int32 := if v = 0 then nI R.1 else if v = 1 then nI R.2.1 else if nI R.1 ≤ v - 2 then -1 else nI (R.2.2.getD (v - 2).toNatClampNeg 0)
set_option maxRecDepth 20000 in
theorem tm_heads0 {N : Nat} {I : aI} {L : aL} {p : aP} {bk nb ns nh : Nat} {f5 f6 : Nat → Int32} {x : aX} {rs : List aRow} (hR : RS I bk nb ns nh p f5 f6 x rs) {w v : Int32} (hbad : ¬ (inR w nb = true ∧ 0 ≤ v)) : Run 1 0 0 mX10_heads [.ref 36, .int w, .int v] (St N I L) (RI (-1) (St N I L)) := by
  refine Run.of (ls := [some (.ref 36), some (.int _), some (.int _), none, none, none, none, none, none, none]) (by decide) (Nat.le_of_ble_eq_true rfl) rfl ?_
  obtain ⟨hP, -⟩ := id hR
  refine Ex.aload_n (pc := 0) dX10_heads_0 rfl rfl ?_
  refine Ex.iload_n (pc := 1) dX10_heads_1 rfl rfl ?_
  refine Ex.callV (pc := 2) (As := [.int _]) (rest := []) dX10_heads_2 cX10_470 (tm_isBoard hP.1) (sh36 _) rfl rfl (by decide) (Nat.le_refl _) (Nat.le_refl _) (Nat.le_of_ble_eq_true rfl) (Or.inl (fun r S' h => by obtain ⟨_, h⟩ := h; subst h; rfl)) (fun r S' hq _ _ => ?_)
  obtain ⟨rfl, rfl⟩ := hq
  refine Ex.if_eq (pc := 5) (tgt := 12) dX10_heads_5 (by decide) (fun c5 => ?_) (fun c5 => ?_)
  · skip
    refine Ex.iconst (pc := 12) (v := (-1)) dX10_heads_12 rfl ?_
    refine Ex.iret (pc := 13) rfl rfl rfl dX10_heads_13 (Nat.le_refl _) (Nat.le_refl _) ?_
    exact ⟨rfl, rfl⟩
  · skip
    refine Ex.iload_n (pc := 8) dX10_heads_8 rfl rfl ?_
    refine Ex.if_ge (pc := 9) (tgt := 14) dX10_heads_9 (by decide) (fun c9 => ?_) (fun c9 => ?_)
    · skip
      exact absurd ⟨bI_1 c5, c9⟩ hbad
    · skip
      refine Ex.iconst (pc := 12) (v := (-1)) dX10_heads_12 rfl ?_
      refine Ex.iret (pc := 13) rfl rfl rfl dX10_heads_13 (Nat.le_refl _) (Nat.le_refl _) ?_
      exact ⟨rfl, rfl⟩
set_option maxRecDepth 20000 in
theorem tm_heads1 {N : Nat} {I : aI} {L : aL} {p : aP} {bk nb ns nh : Nat} {f5 f6 : Nat → Int32} {x : aX} {rs : List aRow} (hR : RS I bk nb ns nh p f5 f6 x rs) {b : Nat} {v : Int32} (hb : b < nb) (hv : 0 ≤ v) : Run 7 0 0 mX10_heads [.ref 36, .int (nI b), .int v] (St N I L) (RX N (fun o I2 L2 => o = some (.int (hdA (hdN p f5 f6 x b (lft x.2.2.2.2 ns) (lft x.2.2.2.2 ns).length) v)) ∧ QF I I2 ∧ SmL [70] L L2)) := by
  refine Run.of (ls := [some (.ref 36), some (.int _), some (.int _), none, none, none, none, none, none, none]) (by decide) (Nat.le_of_ble_eq_true rfl) rfl ?_
  obtain ⟨hP, hX, hK, hG, hrb⟩ := id hR
  obtain ⟨⟨h1, h2, hnb, hns, hnh, hcb, hcs, hch⟩, -⟩ := id hP
  have hlen : (lft x.2.2.2.2 ns).length ≤ 6 := Nat.le_trans (lft_len _ _) hns
  have hls : ∀ s ∈ (lft x.2.2.2.2 ns), s < ns := fun s hs => ((lft_mem _ _ _).mp hs).1
  have hnl : ∀ r : List Nat, nodB r = true → (∀ c ∈ r, c < (lft x.2.2.2.2 ns).length) → r.Pairwise (fun a b => (lft x.2.2.2.2 ns).getD a 0 ≠ (lft x.2.2.2.2 ns).getD b 0) := fun r h1 h2 => nd_lft h1 h2
  have k140 : ∀ (l : List Nat) (I2 : aI) (L2 : aL) (R : Nat × Nat × List Nat), QF I I2 → SmL [70] L L2 → R.1 ≤ 6 → (∀ k, k < R.1 → I2 74 k = nI (R.2.2.getD k 0)) → Ex 7 0 0 mX10_heads 0 0 140 [some (.ref 36), some (.int (nI b)), some (.int v), some (.int (nI l.length)), some (.int (nI R.1)), some (.int (nI R.2.1)), none, none, none, none] [] (St N I2 L2) (RX N (fun o I2 L2 => o = some (.int (hdA R v)) ∧ QF I I2 ∧ SmL [70] L L2)) := by
    intro l I2 L2 R hQ2 hSL2 hR6 h74
    refine Ex.iload_n (pc := 140) dX10_heads_140 rfl rfl ?_
    refine Ex.if_ne (pc := 141) (tgt := 149) dX10_heads_141 (by decide) (fun c141 => ?_) (fun c141 => ?_)
    · skip
      refine Ex.iload_n (pc := 149) dX10_heads_149 rfl rfl ?_
      refine Ex.iconst (pc := 150) (v := 1) dX10_heads_150 rfl ?_
      refine Ex.icmp_ne (pc := 151) (tgt := 159) dX10_heads_151 (by decide) (fun c151 => ?_) (fun c151 => ?_)
      · skip
        refine Ex.iload_n (pc := 159) dX10_heads_159 rfl rfl ?_
        refine Ex.iconst (pc := 160) (v := 2) dX10_heads_160 rfl ?_
        refine Ex.isub (pc := 161) dX10_heads_161 ?_
        refine Ex.iload (pc := 162) dX10_heads_162 rfl ?_
        refine Ex.icmp_ge (pc := 164) (tgt := 178) dX10_heads_164 (by decide) (fun c164 => ?_) (fun c164 => ?_)
        · skip
          refine Ex.iconst (pc := 178) (v := (-1)) dX10_heads_178 rfl ?_
          refine Ex.iret (pc := 179) rfl rfl rfl dX10_heads_179 (Nat.le_refl _) (Nat.le_refl _) ?_
          refine ⟨_, _, rfl, ?_, hQ2, hSL2⟩
          unfold hdA
          rw [if_neg c141, if_neg c151, if_pos c164]
        · skip
          obtain ⟨vn, hvn, rfl⟩ := nI_of (Int32.not_lt.mpr hv)
          have hv0 : vn ≠ 0 := fun e => c141 (by rw [e]; rfl)
          have hv1 : vn ≠ 1 := fun e => c151 (by rw [e]; rfl)
          obtain ⟨j, hjv⟩ : ∃ j, j = vn - 2 := ⟨_, rfl⟩
          have hj : nI vn - 2 = nI j := by rw [hjv]; exact pk_sub (b := 2) (by omega)
          have hjl : j < R.1 := by
            rcases Nat.lt_or_ge j R.1 with q | q
            · exact q
            · rw [hj] at c164; exact absurd (nI_le q (by omega)) c164
          refine Ex.aload_n (pc := 167) dX10_heads_167 rfl rfl ?_
          refine Ex.getR (pc := 168) dX10_heads_168 fX10_195 (sh36 _) r36_60 ?_
          refine Ex.iload_n (pc := 171) dX10_heads_171 rfl rfl ?_
          refine Ex.iconst (pc := 172) (v := 2) dX10_heads_172 rfl ?_
          refine Ex.isub (pc := 173) dX10_heads_173 ?_
          refine Ex.iald (pc := 174) (j := j) dX10_heads_174 (sh74 _) (by rw [hj]; exact vp_in_nI (by omega) (by decide)) (by rw [hj]; exact nI_clamp (by omega)) ?_
          refine Ex.goto (pc := 175) (tgt := 179) dX10_heads_175 (by decide) ?_
          refine Ex.iret (pc := 179) rfl rfl rfl dX10_heads_179 (Nat.le_refl _) (Nat.le_refl _) ?_
          refine ⟨_, _, rfl, ?_, hQ2, hSL2⟩
          unfold hdA
          rw [if_neg c141, if_neg c151, if_neg c164]
          rw [hj, nI_clamp (by omega), h74 j hjl]
      · skip
        refine Ex.iload (pc := 154) dX10_heads_154 rfl ?_
        refine Ex.goto (pc := 156) (tgt := 179) dX10_heads_156 (by decide) ?_
        refine Ex.iret (pc := 179) rfl rfl rfl dX10_heads_179 (Nat.le_refl _) (Nat.le_refl _) ?_
        refine ⟨_, _, rfl, ?_, hQ2, hSL2⟩
        unfold hdA
        rw [if_neg c141, if_pos c151]
    · skip
      refine Ex.iload (pc := 144) dX10_heads_144 rfl ?_
      refine Ex.goto (pc := 146) (tgt := 179) dX10_heads_146 (by decide) ?_
      refine Ex.iret (pc := 179) rfl rfl rfl dX10_heads_179 (Nat.le_refl _) (Nat.le_refl _) ?_
      refine ⟨_, _, rfl, ?_, hQ2, hSL2⟩
      unfold hdA
      rw [if_pos c141]
  have kB : ∀ (QQ : aQ) (l : List Nat) (m : Nat) (r : List Nat) (acc : Nat × Nat × List Nat) (I2 : aI) (L2 : aL), l.length ≤ 6 → (∀ s ∈ l, s < ns) → (r.Pairwise (fun a b => l.getD a 0 ≠ l.getD b 0)) → 1 ≤ m → QF I I2 ∧ SmL [70] L L2 ∧ (∀ k, k < l.length → I2 72 k = nI (l.getD k 0)) → RowR I2 r → r.length = m → (∀ c ∈ r, c < l.length) → (acc.1 ≤ 6 ∧ acc.2.1 ≤ 100000 ∧ (acc.1 = 0 → acc.2.1 = 0) ∧ ∀ k, k < acc.1 → I2 74 k = nI (acc.2.2.getD k 0)) → (∀ (I3 : aI) (L3 : aL), QF I I3 → SmL [70] L L3 → (∀ k, k < l.length → I3 72 k = nI (l.getD k 0)) → RowR I3 r → (∀ k, k < (stpH p f5 f6 x b l m acc r).1 → I3 74 k = nI ((stpH p f5 f6 x b l m acc r).2.2.getD k 0)) → Ex 7 0 0 mX10_heads 0 0 122 [some (.ref 36), some (.int (nI b)), some (.int v), some (.int (nI l.length)), some (.int (nI (stpH p f5 f6 x b l m acc r).1)), some (.int (nI (stpH p f5 f6 x b l m acc r).2.1)), some (.int (nI m)), none, none, none] [] (St N I3 L3) QQ) → Ex 7 0 0 mX10_heads 0 0 47 [some (.ref 36), some (.int (nI b)), some (.int v), some (.int (nI l.length)), some (.int (nI acc.1)), some (.int (nI acc.2.1)), some (.int (nI m)), some (.int 1), none, none] [] (St N I2 L2) QQ := by
    intro QQ l m r acc I2 L2 hl6 hls hnd hm1 ⟨hQ2, hSL2, h72⟩ hRow hrl hrc ⟨ha6, ha5, ha0, h74⟩ kk
    have hR2 := hR.q hQ2
    have hr6 := hRow.1
    have hHS := tm_headStrokes (N := N) (L := L2) hR2 hb hl6 hls h72 hRow hrc hnd
    rw [hrl] at hHS
    have k90 : ∀ (n : Nat) (I3 : aI) (L3 : aL), QF I I3 → SmL [70] L L3 → (∀ k, k < l.length → I3 72 k = nI (l.getD k 0)) → RowR I3 r → (∀ (I3 : aI) (L3 : aL), QF I I3 → SmL [70] L L3 → (∀ k, k < l.length → I3 72 k = nI (l.getD k 0)) → RowR I3 r → (∀ k, k < m → I3 74 k = nI ((r.map (fun c => l.getD c 0)).getD k 0)) → Ex 7 0 0 mX10_heads 0 0 122 [some (.ref 36), some (.int (nI b)), some (.int v), some (.int (nI l.length)), some (.int (nI m)), some (.int (nI n)), some (.int (nI m)), none, none, none] [] (St N I3 L3) QQ) → Ex 7 0 0 mX10_heads 0 0 90 [some (.ref 36), some (.int (nI b)), some (.int v), some (.int (nI l.length)), some (.int (nI m)), some (.int (nI n)), some (.int (nI m)), none, none, some (.int 0)] [] (St N I3 L3) QQ := by
      intro n I3 L3 g1 g2 g3 g4 kk
      refine forUp (σ := aI) (P := fun k I3 => Ex 7 0 0 mX10_heads 0 0 90 [some (.ref 36), some (.int (nI b)), some (.int v), some (.int (nI l.length)), some (.int (nI m)), some (.int (nI n)), some (.int (nI m)), none, none, some (.int (nI k))] [] (St N I3 L3) _) (Inv := fun k I3 => (QF I I3 ∧ (∀ k, k < l.length → I3 72 k = nI (l.getD k 0)) ∧ RowR I3 r) ∧ ∀ i, i < k → I3 74 i = nI ((r.map (fun c => l.getD c 0)).getD i 0)) m ?_ ?_ 0 I3 (Nat.zero_le _) ⟨⟨g1, g3, g4⟩, fun i hi => absurd hi (Nat.not_lt_zero _)⟩
      · rintro I4 ⟨⟨q1, q2, q3⟩, q4⟩
        refine Ex.iload (pc := 90) dX10_heads_90 rfl ?_
        refine Ex.iload (pc := 92) dX10_heads_92 rfl ?_
        refine Ex.icmp_ge (pc := 94) (tgt := 122) dX10_heads_94 (by decide) (fun _ => ?_) (fun c94 => absurd (nI_le (Nat.le_refl _) (by omega)) c94)
        exact Ex.le (ls' := [some (.ref 36), some (.int (nI b)), some (.int v), some (.int (nI l.length)), some (.int (nI m)), some (.int (nI n)), some (.int (nI m)), none, none, none]) ⟨rfl, rfl, rfl, rfl, rfl, rfl, rfl, trivial⟩ (kk I4 L3 q1 g2 q2 q3 q4)
      · rintro k I4 hk ⟨⟨q1, q2, q3⟩, q4⟩ ih
        obtain ⟨ek, vk, gk⟩ := q3.get (show k < r.length by omega)
        have hck : r.getD k 0 < l.length := getD_lt hrc (by omega)
        have e72 := q2 _ hck
        refine Ex.iload (pc := 90) dX10_heads_90 rfl ?_
        refine Ex.iload (pc := 92) dX10_heads_92 rfl ?_
        refine Ex.icmp_ge (pc := 94) (tgt := 122) dX10_heads_94 (by decide) (fun c94 => absurd c94 (nI_ge hk (by omega))) (fun _ => ?_)
        refine Ex.aload_n (pc := 97) dX10_heads_97 rfl rfl ?_
        refine Ex.getR (pc := 98) dX10_heads_98 fX10_195 (sh36 _) r36_60 ?_
        refine Ex.iload (pc := 101) dX10_heads_101 rfl ?_
        refine Ex.aload_n (pc := 103) dX10_heads_103 rfl rfl ?_
        refine Ex.getR (pc := 104) dX10_heads_104 fX10_189 (sh36 _) r36_58 ?_
        refine Ex.aload_n (pc := 107) dX10_heads_107 rfl rfl ?_
        refine Ex.getR (pc := 108) dX10_heads_108 fX10_192 (sh36 _) r36_59 ?_
        refine Ex.iload (pc := 111) dX10_heads_111 rfl ?_
        refine Ex.iald (pc := 113) (j := k) dX10_heads_113 (sh73 _) (vp_in_nI (by omega) (by decide)) (ixN2 (by omega)) ?_
        rw [ek]
        refine Ex.iald (pc := 114) (j := r.getD k 0) dX10_heads_114 (sh72 _) (vp_in_nI (by omega) (by decide)) (ixN2 (by omega)) ?_
        rw [e72]
        refine Ex.iast (pc := 115) (j := k) dX10_heads_115 (sh74 _) (vp_in_nI (by omega) (by decide)) (ixN2 (by omega)) ?_
        refine Ex.iinc (pc := 116) (ls' := [some (.ref 36), some (.int _), some (.int _), some (.int _), some (.int _), some (.int _), some (.int _), none, none, some (.int _)]) dX10_heads_116 rfl rfl (by decide) rfl rfl ?_
        refine Ex.goto (pc := 119) (tgt := 90) dX10_heads_119 (by decide) ?_
        rw [show nI k + Int32.ofInt 1 = nI (k + 1) from nI_1 k]
        refine ih _ ⟨⟨q1.up (by decide), fun i hi => by rw [va_up_n (by decide)]; exact q2 i hi, q3.sm (l := [74]) (Sm.rf.up (by decide)) (by decide)⟩, ?_⟩
        intro i hi
        rw [va_up_s]
        by_cases e : i = k
        · rw [e, upd_s, show (r.map (fun c => l.getD c 0)).getD k 0 = l.getD (r.getD k 0) 0 from by rw [List.getD_eq_getElem?_getD (l := r.map (fun c => l.getD c 0)), List.getElem?_map, gk]; rfl]
        · rw [upd_n e]; exact q4 i (by omega)
    refine Ex.iload (pc := 47) dX10_heads_47 rfl ?_
    refine Ex.if_eq (pc := 49) (tgt := 134) dX10_heads_49 (by decide) (fun c49 => absurd c49 (by decide)) (fun _ => ?_)
    refine Ex.aload_n (pc := 52) dX10_heads_52 rfl rfl ?_
    refine Ex.iload_n (pc := 53) dX10_heads_53 rfl rfl ?_
    refine Ex.iload (pc := 54) dX10_heads_54 rfl ?_
    refine Ex.callV (pc := 56) (As := [.int _, .int _]) (rest := []) dX10_heads_56 cX10_499 hHS (sh36 _) rfl rfl (by decide) (Nat.le_refl _) (Nat.le_refl _) (Nat.le_of_ble_eq_true rfl) (Or.inl (fun r S' h => by obtain ⟨_, _, h, _⟩ := h; subst h; rfl)) (fun r S' hq _ _ => ?_)
    obtain ⟨I3, L3, rfl, rfl, hQ3, hSL3⟩ := hq
    have hQ4 := hQ2.tr hQ3.q
    have hSL4 := hSL2.tr hSL3 (l := [70]) (by decide) (by decide)
    have h723 : ∀ k, k < l.length → I3 72 k = nI (l.getD k 0) := fun k hk => by rw [hQ3.1 72 (by decide)]; exact h72 k hk
    have hRow3 : RowR I3 r := hRow.sm hQ3.1 (by decide)
    have h743 : ∀ k, k < acc.1 → I3 74 k = nI (acc.2.2.getD k 0) := fun k hk => by rw [hQ3.1 74 (by decide)]; exact h74 k hk
    have hst : stpH p f5 f6 x b l m acc r = (match hsF p f5 f6 x b (r.map (fun c => l.getD c 0)) (x.2.2.2.1 b) 0 with | none => acc | some n => if acc.1 = 0 ∨ n < acc.2.1 then (m, n, r.map (fun c => l.getD c 0)) else acc) := rfl
    have hle := hsF_le p f5 f6 x b (r.map (fun c => l.getD c 0)) (x.2.2.2.1 b) 0
    rw [List.length_map] at hle
    generalize hsF p f5 f6 x b (r.map (fun c => l.getD c 0)) (x.2.2.2.1 b) 0 = o at *
    refine Ex.istore (pc := 59) (ls' := [some (.ref 36), some (.int _), some (.int _), some (.int _), some (.int _), some (.int _), some (.int _), some (.int _), some (.int _), none]) dX10_heads_59 (by decide) rfl rfl ?_
    refine Ex.iload (pc := 61) dX10_heads_61 rfl ?_
    refine Ex.iconst (pc := 63) (v := (-1)) dX10_heads_63 rfl ?_
    refine Ex.icmp_eq (pc := 64) (tgt := 122) dX10_heads_64 (by decide) (fun c64 => ?_) (fun c64 => ?_)
    · skip
      have ho : o = none := by
        cases o with
        | none => rfl
        | some n => exact absurd (show nI n < 0 from by rw [show nI n = -1 from c64]; decide) (nI_pos (by have := hle n rfl; omega))
      rw [ho] at hst
      have hst : stpH p f5 f6 x b l m acc r = acc := hst
      rw [hst] at kk
      exact Ex.le (ls' := [some (.ref 36), some (.int (nI b)), some (.int v), some (.int (nI l.length)), some (.int (nI acc.1)), some (.int (nI acc.2.1)), some (.int (nI m)), none, none, none]) ⟨rfl, rfl, rfl, rfl, rfl, rfl, rfl, trivial⟩ (kk I3 L3 hQ4 hSL4 h723 hRow3 h743)
    · skip
      refine Ex.iload (pc := 67) dX10_heads_67 rfl ?_
      refine Ex.if_eq (pc := 69) (tgt := 79) dX10_heads_69 (by decide) (fun c69 => ?_) (fun c69 => ?_)
      · skip
        refine Ex.iload (pc := 79) dX10_heads_79 rfl ?_
        refine Ex.istore (pc := 81) (ls' := [some (.ref 36), some (.int _), some (.int _), some (.int _), some (.int _), some (.int _), some (.int _), some (.int _), some (.int _), none]) dX10_heads_81 (by decide) rfl rfl ?_
        refine Ex.iload (pc := 83) dX10_heads_83 rfl ?_
        refine Ex.istore (pc := 85) (ls' := [some (.ref 36), some (.int _), some (.int _), some (.int _), some (.int _), some (.int _), some (.int _), some (.int _), some (.int _), none]) dX10_heads_85 (by decide) rfl rfl ?_
        refine Ex.iconst (pc := 87) (v := 0) dX10_heads_87 rfl ?_
        refine Ex.istore (pc := 88) (ls' := [some (.ref 36), some (.int _), some (.int _), some (.int _), some (.int _), some (.int _), some (.int _), some (.int _), some (.int _), some (.int 0)]) dX10_heads_88 (by decide) rfl rfl ?_
        obtain ⟨n, rfl⟩ : ∃ n, o = some n := by
          cases o with
          | none => exact absurd rfl c64
          | some n => exact ⟨n, rfl⟩
        have hn := hle n rfl
        have hst : stpH p f5 f6 x b l m acc r = (if acc.1 = 0 ∨ n < acc.2.1 then (m, n, r.map (fun c => l.getD c 0)) else acc) := hst
        have hcond : acc.1 = 0 ∨ n < acc.2.1 := Or.inl ((nI_eq (b := 0) (by omega) (by decide)).mp c69)
        rw [if_pos hcond] at hst
        rw [hst] at kk
        refine Ex.le (ls' := [some (.ref 36), some (.int (nI b)), some (.int v), some (.int (nI l.length)), some (.int (nI m)), some (.int (nI n)), some (.int (nI m)), none, none, some (.int 0)]) ⟨rfl, rfl, rfl, rfl, rfl, rfl, rfl, rfl, trivial⟩ ?_
        exact k90 n I3 L3 hQ4 hSL4 h723 hRow3 kk
      · skip
        refine Ex.iload (pc := 72) dX10_heads_72 rfl ?_
        refine Ex.iload (pc := 74) dX10_heads_74 rfl ?_
        refine Ex.icmp_ge (pc := 76) (tgt := 122) dX10_heads_76 (by decide) (fun c76 => ?_) (fun c76 => ?_)
        · skip
          obtain ⟨n, rfl⟩ : ∃ n, o = some n := by
            cases o with
            | none => exact absurd rfl c64
            | some n => exact ⟨n, rfl⟩
          have hn := hle n rfl
          have hst : stpH p f5 f6 x b l m acc r = (if acc.1 = 0 ∨ n < acc.2.1 then (m, n, r.map (fun c => l.getD c 0)) else acc) := hst
          have c69n : ¬ acc.1 = 0 := fun e => c69 (by rw [e]; rfl)
          have c76 : nI acc.2.1 ≤ nI n := c76
          rw [nI_leI (by omega) (by omega)] at c76
          rw [if_neg (fun q => q.elim c69n (fun q => by omega))] at hst
          rw [hst] at kk
          exact Ex.le (ls' := [some (.ref 36), some (.int (nI b)), some (.int v), some (.int (nI l.length)), some (.int (nI acc.1)), some (.int (nI acc.2.1)), some (.int (nI m)), none, none, none]) ⟨rfl, rfl, rfl, rfl, rfl, rfl, rfl, trivial⟩ (kk I3 L3 hQ4 hSL4 h723 hRow3 h743)
        · skip
          refine Ex.iload (pc := 79) dX10_heads_79 rfl ?_
          refine Ex.istore (pc := 81) (ls' := [some (.ref 36), some (.int _), some (.int _), some (.int _), some (.int _), some (.int _), some (.int _), some (.int _), some (.int _), none]) dX10_heads_81 (by decide) rfl rfl ?_
          refine Ex.iload (pc := 83) dX10_heads_83 rfl ?_
          refine Ex.istore (pc := 85) (ls' := [some (.ref 36), some (.int _), some (.int _), some (.int _), some (.int _), some (.int _), some (.int _), some (.int _), some (.int _), none]) dX10_heads_85 (by decide) rfl rfl ?_
          refine Ex.iconst (pc := 87) (v := 0) dX10_heads_87 rfl ?_
          refine Ex.istore (pc := 88) (ls' := [some (.ref 36), some (.int _), some (.int _), some (.int _), some (.int _), some (.int _), some (.int _), some (.int _), some (.int _), some (.int 0)]) dX10_heads_88 (by decide) rfl rfl ?_
          obtain ⟨n, rfl⟩ : ∃ n, o = some n := by
            cases o with
            | none => exact absurd rfl c64
            | some n => exact ⟨n, rfl⟩
          have hn := hle n rfl
          have hst : stpH p f5 f6 x b l m acc r = (if acc.1 = 0 ∨ n < acc.2.1 then (m, n, r.map (fun c => l.getD c 0)) else acc) := hst
          have c76 : ¬ nI acc.2.1 ≤ nI n := c76
          rw [nI_leI (by omega) (by omega)] at c76
          have hcond : acc.1 = 0 ∨ n < acc.2.1 := Or.inr (by omega)
          rw [if_pos hcond] at hst
          rw [hst] at kk
          refine Ex.le (ls' := [some (.ref 36), some (.int (nI b)), some (.int v), some (.int (nI l.length)), some (.int (nI m)), some (.int (nI n)), some (.int (nI m)), none, none, some (.int 0)]) ⟨rfl, rfl, rfl, rfl, rfl, rfl, rfl, rfl, trivial⟩ ?_
          exact k90 n I3 L3 hQ4 hSL4 h723 hRow3 kk
  have kL : ∀ (QQ : aQ) (l : List Nat) (m : Nat), l.length ≤ 6 → (∀ s ∈ l, s < ns) → (∀ r : List Nat, nodB r = true → (∀ c ∈ r, c < l.length) → r.Pairwise (fun a b => l.getD a 0 ≠ l.getD b 0)) → 1 ≤ m → m ≤ 6 → ∀ (rl : List (List Nat)) (r : List Nat) (acc : Nat × Nat × List Nat) (I2 : aI) (L2 : aL), QF I I2 ∧ SmL [70] L L2 ∧ (∀ k, k < l.length → I2 72 k = nI (l.getD k 0)) → RowR I2 r → chainB l.length m (r :: rl) = true → (acc.1 ≤ 6 ∧ acc.2.1 ≤ 100000 ∧ (acc.1 = 0 → acc.2.1 = 0) ∧ ∀ k, k < acc.1 → I2 74 k = nI (acc.2.2.getD k 0)) → (∀ (I3 : aI) (L3 : aL), QF I I3 → SmL [70] L L3 → (∀ k, k < l.length → I3 72 k = nI (l.getD k 0)) → (((r :: rl).foldl (stpH p f5 f6 x b l m) acc).1 ≤ 6 ∧ ((r :: rl).foldl (stpH p f5 f6 x b l m) acc).2.1 ≤ 100000 ∧ (((r :: rl).foldl (stpH p f5 f6 x b l m) acc).1 = 0 → ((r :: rl).foldl (stpH p f5 f6 x b l m) acc).2.1 = 0) ∧ ∀ k, k < ((r :: rl).foldl (stpH p f5 f6 x b l m) acc).1 → I3 74 k = nI (((r :: rl).foldl (stpH p f5 f6 x b l m) acc).2.2.getD k 0)) → Ex 7 0 0 mX10_heads 0 0 134 [some (.ref 36), some (.int (nI b)), some (.int v), some (.int (nI l.length)), some (.int (nI ((r :: rl).foldl (stpH p f5 f6 x b l m) acc).1)), some (.int (nI ((r :: rl).foldl (stpH p f5 f6 x b l m) acc).2.1)), some (.int (nI m)), none, none, none] [] (St N I3 L3) QQ) → Ex 7 0 0 mX10_heads 0 0 47 [some (.ref 36), some (.int (nI b)), some (.int v), some (.int (nI l.length)), some (.int (nI acc.1)), some (.int (nI acc.2.1)), some (.int (nI m)), some (.int 1), none, none] [] (St N I2 L2) QQ := by
    intro QQ l m hl6 hls hnl hm1 hm6 rl
    induction rl with
    | nil =>
      intro r acc I2 L2 hM hRow hch hA kk
      obtain ⟨⟨hrl, hrc, hrn⟩, hch2⟩ := chain_row hch
      refine kB QQ l m r acc I2 L2 hl6 hls (hnl r hrn hrc) hm1 hM hRow hrl hrc hA ?_
      intro I3 L3 g1 g2 g3 g4 g5
      have hA2 : (stpH p f5 f6 x b l m acc r).1 ≤ 6 ∧ (stpH p f5 f6 x b l m acc r).2.1 ≤ 100000 ∧ ((stpH p f5 f6 x b l m acc r).1 = 0 → (stpH p f5 f6 x b l m acc r).2.1 = 0) := by
        have hle := hsF_le p f5 f6 x b (r.map (fun c => l.getD c 0)) (x.2.2.2.1 b) 0
        rw [List.length_map] at hle
        unfold stpH
        cases hh : hsF p f5 f6 x b (r.map (fun c => l.getD c 0)) (x.2.2.2.1 b) 0 with
        | none => exact ⟨hA.1, hA.2.1, hA.2.2.1⟩
        | some n =>
          have := hle n hh
          dsimp only
          split
          · exact ⟨hm6, by dsimp only; omega, fun e => by dsimp only at e; omega⟩
          · exact ⟨hA.1, hA.2.1, hA.2.2.1⟩
      rw [List.foldl_cons] at kk
      generalize stpH p f5 f6 x b l m acc r = acc2 at *
      have hn := chain_0 hch
      refine Ex.aload_n (pc := 122) dX10_heads_122 rfl rfl ?_
      refine Ex.iload (pc := 123) dX10_heads_123 rfl ?_
      refine Ex.iload_n (pc := 125) dX10_heads_125 rfl rfl ?_
      refine Ex.callV (pc := 126) (As := [.int _, .int _]) (rest := []) dX10_heads_126 cX10_489 (tm_isNextRow (many := m) (o := l.length) (by omega) hl6 g4 hrl (fun k hk => getD_lt hrc (by omega))) (sh36 _) rfl rfl (by decide) (Nat.le_refl _) (Nat.le_refl _) (Nat.le_of_ble_eq_true rfl) (Or.inl (fun r S' h => by obtain ⟨_, _, h, _⟩ := h; subst h; rfl)) (fun r S' hq _ _ => ?_)
      obtain ⟨I4, rfl, rfl, hS4, hRow4⟩ := hq
      rw [hn]
      refine Ex.istore (pc := 129) (ls' := [some (.ref 36), some (.int _), some (.int _), some (.int _), some (.int _), some (.int _), some (.int _), some (.int _), none, none]) dX10_heads_129 (by decide) rfl rfl ?_
      refine Ex.goto (pc := 131) (tgt := 47) dX10_heads_131 (by decide) ?_
      refine Ex.iload (pc := 47) dX10_heads_47 rfl ?_
      refine Ex.if_eq (pc := 49) (tgt := 134) dX10_heads_49 (by decide) (fun _ => ?_) (fun c49 => absurd rfl c49)
      have hQ4 : QF I I4 := g1.tr ⟨hS4.tr Sm.rf (l2 := []) (by decide) (by decide), SlF.of hS4 (by decide)⟩
      exact Ex.le (ls' := [some (.ref 36), some (.int (nI b)), some (.int v), some (.int (nI l.length)), some (.int (nI acc2.1)), some (.int (nI acc2.2.1)), some (.int (nI m)), none, none, none]) ⟨rfl, rfl, rfl, rfl, rfl, rfl, rfl, trivial⟩ (kk I4 L3 hQ4 g2 (fun k hk => by rw [hS4 72 (by decide)]; exact g3 k hk) ⟨hA2.1, hA2.2.1, hA2.2.2, fun k hk => by rw [hS4 74 (by decide)]; exact g5 k hk⟩)
    | cons r' rl ihl =>
      intro r acc I2 L2 hM hRow hch hA kk
      obtain ⟨⟨hrl, hrc, hrn⟩, hch2⟩ := chain_row hch
      refine kB QQ l m r acc I2 L2 hl6 hls (hnl r hrn hrc) hm1 hM hRow hrl hrc hA ?_
      intro I3 L3 g1 g2 g3 g4 g5
      have hA2 : (stpH p f5 f6 x b l m acc r).1 ≤ 6 ∧ (stpH p f5 f6 x b l m acc r).2.1 ≤ 100000 ∧ ((stpH p f5 f6 x b l m acc r).1 = 0 → (stpH p f5 f6 x b l m acc r).2.1 = 0) := by
        have hle := hsF_le p f5 f6 x b (r.map (fun c => l.getD c 0)) (x.2.2.2.1 b) 0
        rw [List.length_map] at hle
        unfold stpH
        cases hh : hsF p f5 f6 x b (r.map (fun c => l.getD c 0)) (x.2.2.2.1 b) 0 with
        | none => exact ⟨hA.1, hA.2.1, hA.2.2.1⟩
        | some n =>
          have := hle n hh
          dsimp only
          split
          · exact ⟨hm6, by dsimp only; omega, fun e => by dsimp only at e; omega⟩
          · exact ⟨hA.1, hA.2.1, hA.2.2.1⟩
      rw [List.foldl_cons] at kk
      generalize stpH p f5 f6 x b l m acc r = acc2 at *
      obtain ⟨hn1, hn2⟩ := chain_1 hch
      refine Ex.aload_n (pc := 122) dX10_heads_122 rfl rfl ?_
      refine Ex.iload (pc := 123) dX10_heads_123 rfl ?_
      refine Ex.iload_n (pc := 125) dX10_heads_125 rfl rfl ?_
      refine Ex.callV (pc := 126) (As := [.int _, .int _]) (rest := []) dX10_heads_126 cX10_489 (tm_isNextRow (many := m) (o := l.length) (by omega) hl6 g4 hrl (fun k hk => getD_lt hrc (by omega))) (sh36 _) rfl rfl (by decide) (Nat.le_refl _) (Nat.le_refl _) (Nat.le_of_ble_eq_true rfl) (Or.inl (fun r S' h => by obtain ⟨_, _, h, _⟩ := h; subst h; rfl)) (fun r S' hq _ _ => ?_)
      obtain ⟨I4, rfl, rfl, hS4, hRow4⟩ := hq
      rw [hn1]
      rw [hn2] at hRow4
      refine Ex.istore (pc := 129) (ls' := [some (.ref 36), some (.int _), some (.int _), some (.int _), some (.int _), some (.int _), some (.int _), some (.int _), none, none]) dX10_heads_129 (by decide) rfl rfl ?_
      refine Ex.goto (pc := 131) (tgt := 47) dX10_heads_131 (by decide) ?_
      have hQ4 : QF I I4 := g1.tr ⟨hS4.tr Sm.rf (l2 := []) (by decide) (by decide), SlF.of hS4 (by decide)⟩
      exact ihl r' acc2 I4 L3 ⟨hQ4, g2, fun k hk => by rw [hS4 72 (by decide)]; exact g3 k hk⟩ hRow4 hch2 ⟨hA2.1, hA2.2.1, hA2.2.2, fun k hk => by rw [hS4 74 (by decide)]; exact g5 k hk⟩ kk
  have k28 : ∀ (l : List Nat) (m : Nat), l.length ≤ 6 → (∀ s ∈ l, s < ns) → (∀ r : List Nat, nodB r = true → (∀ c ∈ r, c < l.length) → r.Pairwise (fun a b => l.getD a 0 ≠ l.getD b 0)) → m ≤ l.length → ∀ (I2 : aI) (L2 : aL), QF I I2 ∧ SmL [70] L L2 ∧ (∀ k, k < l.length → I2 72 k = nI (l.getD k 0)) → Ex 7 0 0 mX10_heads 0 0 28 [some (.ref 36), some (.int (nI b)), some (.int v), some (.int (nI l.length)), some (.int 0), some (.int 0), some (.int (nI m)), none, none, none] [] (St N I2 L2) (RX N (fun o I2 L2 => o = some (.int (hdA (hdN p f5 f6 x b l m) v)) ∧ QF I I2 ∧ SmL [70] L L2)) := by
    intro l m
    induction m with
    | zero =>
      intro hl6 hls hnl hm I2 L2 ⟨hQ2, hSL2, h72⟩
      refine Ex.iload (pc := 28) dX10_heads_28 rfl ?_
      refine Ex.if_le (pc := 30) (tgt := 140) dX10_heads_30 (by decide) (fun _ => ?_) (fun c30 => absurd (by decide) c30)
      exact Ex.le (ls' := [some (.ref 36), some (.int (nI b)), some (.int v), some (.int (nI l.length)), some (.int 0), some (.int 0), none, none, none, none]) ⟨rfl, rfl, rfl, rfl, rfl, rfl, trivial⟩ (k140 l I2 L2 (0, 0, []) hQ2 hSL2 (by decide) (fun k hk => absurd hk (Nat.not_lt_zero _)))
    | succ m ihm =>
      intro hl6 hls hnl hm I2 L2 ⟨hQ2, hSL2, h72⟩
      obtain ⟨rl, he, hch⟩ := enum_0 (o := l.length) (many := m + 1) hl6 hm
      have hEn : hdL p f5 f6 x b l (m + 1) = (List.range (m + 1) :: rl).foldl (stpH p f5 f6 x b l (m + 1)) (0, 0, []) := by unfold hdL; rw [he]
      have hdn : hdN p f5 f6 x b l (m + 1) = if (hdL p f5 f6 x b l (m + 1)).1 = 0 then hdN p f5 f6 x b l m else hdL p f5 f6 x b l (m + 1) := rfl
      rw [hdn]
      refine Ex.iload (pc := 28) dX10_heads_28 rfl ?_
      refine Ex.if_le (pc := 30) (tgt := 140) dX10_heads_30 (by decide) (fun c30 => absurd c30 (nI_nle (by omega) (by omega))) (fun _ => ?_)
      refine Ex.iload (pc := 33) dX10_heads_33 rfl ?_
      refine Ex.if_ne (pc := 35) (tgt := 140) dX10_heads_35 (by decide) (fun c35 => absurd rfl c35) (fun _ => ?_)
      refine Ex.aload_n (pc := 38) dX10_heads_38 rfl rfl ?_
      refine Ex.iload (pc := 39) dX10_heads_39 rfl ?_
      refine Ex.iload_n (pc := 41) dX10_heads_41 rfl rfl ?_
      refine Ex.callV (pc := 42) (As := [.int _, .int _]) (rest := []) dX10_heads_42 cX10_486 (tm_isFirstRow (many := m + 1) (o := l.length) (by omega) hl6) (sh36 _) rfl rfl (by decide) (Nat.le_refl _) (Nat.le_refl _) (Nat.le_of_ble_eq_true rfl) (Or.inl (fun r S' h => by obtain ⟨_, _, h, _⟩ := h; subst h; rfl)) (fun r S' hq _ _ => ?_)
      obtain ⟨I3, rfl, rfl, hS3, hRow3⟩ := hq
      rw [decide_eq_true hm]
      have hQ3 : QF I I3 := hQ2.tr ⟨hS3.tr Sm.rf (l2 := []) (by decide) (by decide), SlF.of hS3 (by decide)⟩
      refine Ex.istore (pc := 45) (ls' := [some (.ref 36), some (.int _), some (.int _), some (.int _), some (.int _), some (.int _), some (.int _), some (.int _), none, none]) dX10_heads_45 (by decide) rfl rfl ?_
      refine kL _ l (m + 1) hl6 hls hnl (by omega) (by omega) rl (List.range (m + 1)) (0, 0, []) I3 L2 ⟨hQ3, hSL2, fun k hk => by rw [hS3 72 (by decide)]; exact h72 k hk⟩ hRow3 hch ⟨by decide, by decide, fun _ => rfl, fun k hk => absurd hk (Nat.not_lt_zero _)⟩ ?_
      rw [← hEn]
      generalize hdL p f5 f6 x b l (m + 1) = R at *
      intro I4 L4 g1 g2 g3 ⟨a1, a2, a3, a4⟩
      by_cases h0 : R.1 = 0
      · rw [if_pos h0, h0, a3 h0]
        refine Ex.iinc (pc := 134) (ls' := [some (.ref 36), some (.int _), some (.int _), some (.int _), some (.int _), some (.int _), some (.int _), none, none, none]) dX10_heads_134 rfl rfl (by decide) rfl rfl ?_
        refine Ex.goto (pc := 137) (tgt := 28) dX10_heads_137 (by decide) ?_
        rw [show nI (m + 1) + Int32.ofInt (-1) = nI m from by rw [show nI (m + 1) + Int32.ofInt (-1) = nI (m + 1) - 1 from by rw [Int32.sub_eq_add_neg]; rfl]; exact nI_pred m]
        exact ihm hl6 hls hnl (by omega) I4 L4 ⟨g1, g2, g3⟩
      · rw [if_neg h0]
        refine Ex.iinc (pc := 134) (ls' := [some (.ref 36), some (.int _), some (.int _), some (.int _), some (.int _), some (.int _), some (.int _), none, none, none]) dX10_heads_134 rfl rfl (by decide) rfl rfl ?_
        refine Ex.goto (pc := 137) (tgt := 28) dX10_heads_137 (by decide) ?_
        refine Ex.iload (pc := 28) dX10_heads_28 rfl ?_
        refine Ex.if_le (pc := 30) (tgt := 140) dX10_heads_30 (by decide) (fun c30 => ?_) (fun c30 => ?_)
        · skip
          exact Ex.le (ls' := [some (.ref 36), some (.int (nI b)), some (.int v), some (.int (nI l.length)), some (.int (nI R.1)), some (.int (nI R.2.1)), none, none, none, none]) ⟨rfl, rfl, rfl, rfl, rfl, rfl, trivial⟩ (k140 l I4 L4 R g1 g2 a1 a4)
        · skip
          refine Ex.iload (pc := 33) dX10_heads_33 rfl ?_
          refine Ex.if_ne (pc := 35) (tgt := 140) dX10_heads_35 (by decide) (fun _ => ?_) (fun c35 => absurd c35 (nI_ne0 (by omega) (by omega)))
          exact Ex.le (ls' := [some (.ref 36), some (.int (nI b)), some (.int v), some (.int (nI l.length)), some (.int (nI R.1)), some (.int (nI R.2.1)), none, none, none, none]) ⟨rfl, rfl, rfl, rfl, rfl, rfl, trivial⟩ (k140 l I4 L4 R g1 g2 a1 a4)
  refine Ex.aload_n (pc := 0) dX10_heads_0 rfl rfl ?_
  refine Ex.iload_n (pc := 1) dX10_heads_1 rfl rfl ?_
  refine Ex.callV (pc := 2) (As := [.int _]) (rest := []) dX10_heads_2 cX10_470 (tm_isBoard hP.1) (sh36 _) rfl rfl (by decide) (Nat.le_refl _) (Nat.le_refl _) (Nat.le_of_ble_eq_true rfl) (Or.inl (fun r S' h => by obtain ⟨_, h⟩ := h; subst h; rfl)) (fun r S' hq _ _ => ?_)
  obtain ⟨rfl, rfl⟩ := hq
  rw [inR_nI hb (by omega)]
  refine Ex.if_eq (pc := 5) (tgt := 12) dX10_heads_5 (by decide) (fun c5 => absurd c5 (by decide)) (fun _ => ?_)
  refine Ex.iload_n (pc := 8) dX10_heads_8 rfl rfl ?_
  refine Ex.if_ge (pc := 9) (tgt := 14) dX10_heads_9 (by decide) (fun _ => ?_) (fun c9 => absurd hv c9)
  refine Ex.aload_n (pc := 14) dX10_heads_14 rfl rfl ?_
  refine Ex.callV (pc := 15) (As := []) (rest := []) dX10_heads_15 cX10_492 (tm_findsLefts hR) (sh36 _) rfl rfl (by decide) (Nat.le_refl _) (Nat.le_refl _) (Nat.le_of_ble_eq_true rfl) (Or.inl (fun r S' h => by obtain ⟨_, _, h, _⟩ := h; subst h; rfl)) (fun r S' hq _ _ => ?_)
  obtain ⟨I1, rfl, rfl, hS1, h721⟩ := hq
  have hQ1 : QF I I1 := ⟨hS1.tr Sm.rf (l2 := []) (by decide) (by decide), SlF.of hS1 (by decide)⟩
  refine Ex.istore_n (pc := 18) (ls' := [some (.ref 36), some (.int _), some (.int _), some (.int _), none, none, none, none, none, none]) dX10_heads_18 rfl (by decide) rfl rfl ?_
  refine Ex.iconst (pc := 19) (v := 0) dX10_heads_19 rfl ?_
  refine Ex.istore (pc := 20) (ls' := [some (.ref 36), some (.int _), some (.int _), some (.int _), some (.int 0), none, none, none, none, none]) dX10_heads_20 (by decide) rfl rfl ?_
  refine Ex.iconst (pc := 22) (v := 0) dX10_heads_22 rfl ?_
  refine Ex.istore (pc := 23) (ls' := [some (.ref 36), some (.int _), some (.int _), some (.int _), some (.int 0), some (.int 0), none, none, none, none]) dX10_heads_23 (by decide) rfl rfl ?_
  refine Ex.iload_n (pc := 25) dX10_heads_25 rfl rfl ?_
  refine Ex.istore (pc := 26) (ls' := [some (.ref 36), some (.int _), some (.int _), some (.int _), some (.int 0), some (.int 0), some (.int _), none, none, none]) dX10_heads_26 (by decide) rfl rfl ?_
  exact k28 (lft x.2.2.2.2 ns) (lft x.2.2.2.2 ns).length hlen hls hnl (Nat.le_refl _) I1 L ⟨hQ1, SmL.rf, h721⟩
