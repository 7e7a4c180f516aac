/-! questions of the face that change nothing -/
theorem orN {a b k : Nat} (ha : a * 2 ^ k < 2 ^ 31) (hb : b < 2 ^ k) (hab : a * 2 ^ k + b < 2 ^ 31) : nI (a * 2 ^ k) ||| nI b = nI (a * 2 ^ k + b) := by
  apply Int32.toBitVec_inj.mp
  apply BitVec.eq_of_toNat_eq
  rw [Int32.toBitVec_or, BitVec.toNat_or, pk_tn (by omega), pk_tn (by omega), pk_tn (by omega)]
  have := Nat.shiftLeft_add_eq_or_of_lt (i := k) (b := b) hb a
  rw [Nat.shiftLeft_eq] at this
  exact this.symm
theorem pkR_nI {w b s c : Nat} (hw : w ≤ 999) (hb : b < 5) (hs : s < 6) (hc : c ≤ 99) : pkR (nI w, nI b, nI s, nI c) = nI (w * 65536 + b * 4096 + s * 256 + c) := by
  unfold pkR
  show nI w <<< (16 &&& 31) ||| nI b <<< (12 &&& 31) ||| nI s <<< (8 &&& 31) ||| nI c = _
  rw [pk_shlN _ 16 (by decide) (by omega), pk_shlN _ 12 (by decide) (by omega), pk_shlN _ 8 (by decide) (by omega)]
  rw [show nI (w * 2 ^ 16) ||| nI (b * 2 ^ 12) = nI (w * 2 ^ 16 + b * 2 ^ 12) from orN (k := 16) (by omega) (by omega) (by omega)]
  rw [show w * 2 ^ 16 + b * 2 ^ 12 = (w * 16 + b) * 2 ^ 12 by omega, orN (k := 12) (by omega) (by omega) (by omega)]
  rw [show (w * 16 + b) * 2 ^ 12 + s * 2 ^ 8 = ((w * 16 + b) * 16 + s) * 2 ^ 8 by omega, orN (k := 8) (by omega) (by omega) (by omega)]
theorem pkR_get {w b s c : Nat} (hw : w ≤ 999) (hb : b < 5) (hs : s < 6) (hc : c ≤ 99) : pkR (nI w, nI b, nI s, nI c) >>> (16 &&& 31) = nI w ∧ pkR (nI w, nI b, nI s, nI c) >>> (12 &&& 31) &&& 15 = nI b ∧ pkR (nI w, nI b, nI s, nI c) >>> (8 &&& 31) &&& 15 = nI s ∧ pkR (nI w, nI b, nI s, nI c) &&& 255 = nI c := by
  rw [pkR_nI hw hb hs hc]
  refine ⟨?_, ?_, ?_, ?_⟩
  · rw [pk_shrN (by omega) _ 16 (by decide)]; congr 1; omega
  · rw [pk_shrN (by omega) _ 12 (by decide), pk_and _ 4 (by decide), pk_tn (by omega)]; congr 1; omega
  · rw [pk_shrN (by omega) _ 8 (by decide), pk_and _ 4 (by decide), pk_tn (by omega)]; congr 1; omega
  · rw [pk_and _ 8 (by decide), pk_tn (by omega)]; congr 1; omega
section
variable {N K : Nat} {I : aI} {L : aL}
theorem tw_status (h : Rel N K I L) {w : Int32} : Two N K I L mX9_status mX10_status [.int w] := by
  have h0 := h
  obtain ⟨p, nb, ns, nh, bk, g1, g2, g3, g4, g5, g6⟩ := h
  refine two_q (dm := 1) h0 (by decide) (by decide) t_status ?_
  have e : (if inR w 6 = true then I 35 w.toNatClampNeg else -1) = (if inR w 6 = true then I 62 w.toNatClampNeg else -1) := by
    split
    · rename_i hw
      obtain ⟨j, hj, rfl⟩ := inR_of hw (by decide)
      rw [nI_clamp (by omega)]; exact g2.2.2.1 j hj
    · rfl
  rw [e]; exact tm_status
theorem tw_fault (h : Rel N K I L) {w : Int32} : Two N K I L mX9_fault mX10_fault [.int w] := by
  have h0 := h
  obtain ⟨p, nb, ns, nh, bk, g1, g2, g3, g4, g5, g6⟩ := h
  refine two_q (dm := 0) h0 (by decide) (by decide) t_fault ?_
  rw [g2.1, g2.2.1]; exact tm_fault
theorem tw_board (h : Rel N K I L) {w v : Int32} : Two N K I L mX9_board mX10_board [.int w, .int v] := by
  have h0 := h
  obtain ⟨p, nb, ns, nh, bk, g1, g2, g3, g4, g5, g6⟩ := h
  obtain ⟨ks, hR⟩ := Rel.rs g3 g4
  exact two_q h0 (by decide) (by decide) (t_board g3.2.1) (tm_board hR)
theorem tw_stain (h : Rel N K I L) {w v : Int32} : Two N K I L mX9_stain mX10_stain [.int w, .int v] := by
  have h0 := h
  obtain ⟨p, nb, ns, nh, bk, g1, g2, g3, g4, g5, g6⟩ := h
  obtain ⟨ks, hR⟩ := Rel.rs g3 g4
  exact two_q h0 (by decide) (by decide) (t_stain g3.2.1) (tm_stain hR)
theorem tw_hearer (h : Rel N K I L) {w v : Int32} : Two N K I L mX9_hearer mX10_hearer [.int w, .int v] := by
  have h0 := h
  obtain ⟨p, nb, ns, nh, bk, g1, g2, g3, g4, g5, g6⟩ := h
  obtain ⟨ks, hR⟩ := Rel.rs g3 g4
  exact two_q h0 (by decide) (by decide) (t_hearer g3.2.1) (tm_hearer hR)
theorem tw_octet (h : Rel N K I L) {w : Int32} : Two N K I L mX9_octet mX10_octet [.int w] := by
  have h0 := h
  obtain ⟨p, nb, ns, nh, bk, g1, g2, g3, g4, g5, g6⟩ := h
  obtain ⟨n, n1, n2, n3, n4⟩ := g2.2.2.2.2
  refine two_q (dm := 1) h0 (by decide) (by decide) (t_octet n2 n1) ?_
  have e : (if inR w n = true then I 34 w.toNatClampNeg else -1) = (if inR w n = true then I 80 w.toNatClampNeg else -1) := by
    split
    · rename_i hw
      obtain ⟨j, hj, rfl⟩ := inR_of hw (by omega)
      rw [nI_clamp (by omega)]; exact n4 j hj
    · rfl
  rw [e]; exact tm_octet n3 (by omega)
theorem tw_letter (h : Rel N K I L) {w v u : Int32} : Two N K I L mX9_letter mX10_letter [.int w, .int v, .int u] := by
  have h0 := h
  obtain ⟨p, nb, ns, nh, bk, g1, g2, g3, g4, g5, g6⟩ := h
  obtain ⟨nm, c1, c2⟩ := g3.2.2.2.1
  have hc := g3.2.1
  have tf : ¬ (true = false) := by decide
  refine two_q (dm := 1) h0 (by decide) (by decide) (t_letter hc) ?_
  have e : (if inR w 3 = false then -1 else if inR u 6 = false then -1 else if inR v (if w = 0 then nb else if w = 1 then ns else nh) = false then -1 else I 4 (6 * w.toNatClampNeg + v.toNatClampNeg) >>> (5 * (5 - u) &&& 31) &&& 31) = (if inR w 3 = false then -1 else if inR u 6 = false then -1 else if inR v (if w = 0 then nb else if w = 1 then ns else nh) = false then -1 else nI ((nm w.toNatClampNeg v.toNatClampNeg).getD u.toNatClampNeg 0)) := by
    cases h1 : inR w 3 with
    | false => rfl
    | true =>
      rw [if_neg tf, if_neg tf]
      cases h2 : inR u 6 with
      | false => rfl
      | true =>
        rw [if_neg tf, if_neg tf]
        obtain ⟨q, hq, rfl⟩ := inR_of h1 (by decide)
        obtain ⟨uu, hu, rfl⟩ := inR_of h2 (by decide)
        have hcn : (if nI q = 0 then nb else if nI q = 1 then ns else nh) = cnR q nb ns nh := by
          unfold cnR
          rcases (show q = 0 ∨ q = 1 ∨ q = 2 by omega) with rfl | rfl | rfl <;> rfl
        rw [hcn]
        have hle : cnR q nb ns nh ≤ 6 := by unfold cnR; split <;> (try split) <;> (have := hc.2.1; have := hc.2.2.2.1; have := hc.2.2.2.2.2.1; omega)
        cases h3 : inR v (cnR q nb ns nh) with
        | false => rfl
        | true =>
          rw [if_neg tf, if_neg tf]
          obtain ⟨j, hj, rfl⟩ := inR_of h3 (by omega)
          rw [nI_clamp (by omega), nI_clamp (by omega), nI_clamp (by omega), (c1 q j hq hj).2]
          exact let_c (c1 q j hq hj).1 hu
  rw [e]; exact tm_letter g3.2.2.1.1 c2
theorem tw_has (h : Rel N K I L) {w : Int32} : Two N K I L mX9_has mX10_has [.int w] := by
  have h0 := h
  obtain ⟨p, nb, ns, nh, bk, g1, g2, g3, g4, g5, g6⟩ := h
  obtain ⟨ks, lo, nx, us, uf, ws, a1, a2, a3, a4, a5, a6, a7, a8, a9, b1, b2, b3⟩ := g4
  obtain ⟨rs, s1, s2⟩ := g5
  obtain ⟨m, m1, m2, m3⟩ := g2.2.2.2.1
  have hc := g3.2.1
  have hR : RS I bk nb ns nh p (I 5) (I 6) (xOf I 10) (l40 ks) := ⟨g3.2.2.1, a1, a2, a3, hc.2.2.2.2.2.2⟩
  have e8 : (if I 10 3 < 40 then I 10 3 else 40) = nI (l40 ks).length := by
    rw [a5.1, l40_len, show (40 : Int32) = nI 40 from rfl]
    have := a5.2.1
    by_cases hl : ks.length < 40
    · rw [if_pos (by rw [nI_ltI (by omega) (by omega)]; exact hl), if_pos hl]
    · rw [if_neg (by rw [nI_ltI (by omega) (by omega)]; exact hl), if_neg hl]
  have e10 : I 19 1 = I 36 54 := by rw [a6.2.2.1, a7.2.2.1, a8.1]; unfold ulOf; rw [List.length_map]
  refine two_q (dm := 1) h0 (by decide) (by decide) (t_has hc) ?_
  rw [hc.1, hc.2.2.1, hc.2.2.2.2.1, e8, s1.1, ← s2.1, e10, m2, ← m3]
  exact tm_has hR
theorem tw_kept (h : Rel N K I L) {w v : Int32} : Two N K I L mX9_kept mX10_kept [.int w, .int v] := by
  have h0 := h
  obtain ⟨p, nb, ns, nh, bk, g1, g2, g3, g4, g5, g6⟩ := h
  obtain ⟨ks, lo, nx, us, uf, ws, a1, a2, a3, a4, a5, a6, a7, a8, a9, b1, b2, b3⟩ := g4
  refine two_q (dm := 1) h0 (by decide) (by decide) (t_kept a5) ?_
  have hm := tm_kept (N := N) (L := L) a2 (w := w) (v := v)
  have hl := l40_len ks
  rw [hl] at hm
  have hlo := WsC.lo ws ks.length lo a9
  generalize hmm : (if ks.length < 40 then ks.length else 40) = m at *
  have hm40 : m ≤ 40 ∧ m ≤ ks.length ∧ (lo ≤ ks.length - m) := by
    by_cases hq : ks.length < 40
    · rw [if_pos hq] at hmm; omega
    · rw [if_neg hq] at hmm; omega
  cases h1 : inR w m with
  | false => rw [h1] at hm; exact hm
  | true =>
    rw [h1] at hm
    obtain ⟨j, hj, rfl⟩ := inR_of h1 (by omega)
    rw [nI_clamp (by omega)] at hm ⊢
    rw [if_neg (by decide)] at hm ⊢
    have hi : ks.length - m + j < ks.length := by omega
    obtain ⟨r, hr⟩ : ∃ r, ks[ks.length - m + j]? = some r := ⟨_, List.getElem?_eq_getElem hi⟩
    have hr2 : (l40 ks)[j]? = some r := by
      unfold l40
      rw [List.getElem?_drop, ← hr]
      congr 1
      by_cases hq : ks.length < 40
      · rw [if_pos hq] at hmm; omega
      · rw [if_neg hq] at hmm; omega
    obtain ⟨ww, bb, ss, cc, r1, r2, r3, r4, rfl⟩ := b3 r (List.mem_of_getElem? hr)
    have e22 := a5.2.2.2 _ _ (by omega) hr
    obtain ⟨q1, q2, q3, q4⟩ := pkR_get r1 r2 r3 r4
    obtain ⟨f1, f2, f3, f4⟩ := a2.2.2 j _ hr2
    have f1 : I 69 (160 * 0 + 4 * j) = nI ww := f1
    have f2 : I 69 (160 * 0 + 4 * j + 1) = nI bb := f2
    have f3 : I 69 (160 * 0 + 4 * j + 2) = nI ss := f3
    have f4 : I 69 (160 * 0 + 4 * j + 3) = nI cc := f4
    rw [e22, q1, q2, q3, q4]
    by_cases v0 : v < 0
    · rw [if_pos v0] at hm ⊢; exact hm
    · rw [if_neg v0] at hm ⊢
      by_cases v3 : v ≤ 3
      · rw [if_pos v3] at hm ⊢
        have hv4 : ∃ k, k < 4 ∧ v = nI k := by
          have h1 := Int32.le_iff_toInt_le.mp v3
          have h2 := Int32.le_iff_toInt_le.mp (Int32.not_lt.mp v0)
          rw [show (3 : Int32).toInt = 3 from rfl] at h1
          rw [show (0 : Int32).toInt = 0 from rfl] at h2
          refine ⟨v.toInt.toNat, by omega, Int32.toInt_inj.mp ?_⟩
          rw [nI_toInt (by omega)]; omega
        obtain ⟨k, hk, rfl⟩ := hv4
        rw [nI_clamp (by omega)] at hm
        rcases (show k = 0 ∨ k = 1 ∨ k = 2 ∨ k = 3 by omega) with rfl | rfl | rfl | rfl
        · rw [if_pos (show nI 0 = 0 from rfl)]; rw [show 4 * j + 0 = 160 * 0 + 4 * j by omega, f1] at hm; exact hm
        · rw [if_neg (show ¬ nI 1 = 0 by decide), if_pos (show nI 1 = 1 from rfl)]; rw [show 4 * j + 1 = 160 * 0 + 4 * j + 1 by omega, f2] at hm; exact hm
        · rw [if_neg (show ¬ nI 2 = 0 by decide), if_neg (show ¬ nI 2 = 1 by decide), if_pos (show nI 2 = 2 from rfl)]; rw [show 4 * j + 2 = 160 * 0 + 4 * j + 2 by omega, f3] at hm; exact hm
        · rw [if_neg (show ¬ nI 3 = 0 by decide), if_neg (show ¬ nI 3 = 1 by decide), if_neg (show ¬ nI 3 = 2 by decide)]; rw [show 4 * j + 3 = 160 * 0 + 4 * j + 3 by omega, f4] at hm; exact hm
      · rw [if_neg v3] at hm ⊢; exact hm
end
