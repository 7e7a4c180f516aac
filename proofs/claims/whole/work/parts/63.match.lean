theorem mtS_le {need : Nat → Nat → Nat} {many : Nat} : ∀ (l : List (List Nat)) (acc : Nat × List Nat), (l.foldl (mtS need many) acc).1 ≤ acc.1
  | [], _ => Nat.le_refl _
  | r :: l, acc => by
    refine Nat.le_trans (mtS_le l (mtS need many acc r)) ?_
    unfold mtS
    split
    · exact Nat.le_of_lt (by assumption)
    · exact Nat.le_refl _
theorem mtR_le {need : Nat → Nat → Nat} {o many : Nat} : (mtR need o many).1 ≤ 100000000 := mtS_le _ _
def mtP (l : List Nat) (R : Nat × List Nat) (w v : Int32) : Prop := if R.1 = 100000000 then v = -1 else if w = -1 then v = nI R.1 else ∃ s, w = nI s ∧ ((∃ k, l[k]? = some s ∧ v = nI (R.2.getD k 0)) ∨ (s ∉ l ∧ v = -1))
set_option maxRecDepth 20000 in
theorem tm_match0 {N : Nat} {I : aI} {L : aL} {p : aP} {bk nb ns nh : Nat} {f5 f6 : Nat → Int32} {x : aX} {rs : List aRow} (hR : RS I bk nb ns nh p f5 f6 x rs) {w : Int32} (h1 : ¬ w = -1) (hin : inR w ns = false) : Run 1 0 0 mX10_match [.ref 36, .int w] (St N I L) (RI (-1) (St N I L)) := by
  refine Run.of (ls := [some (.ref 36), some (.int _), none, none, none]) (by decide) (Nat.le_of_ble_eq_true rfl) rfl ?_
  obtain ⟨hP, -⟩ := id hR
  refine Ex.iload_n (pc := 0) dX10_match_0 rfl rfl ?_
  refine Ex.iconst (pc := 1) (v := (-1)) dX10_match_1 rfl ?_
  refine Ex.icmp_eq (pc := 2) (tgt := 15) dX10_match_2 (by decide) (fun c2 => absurd c2 h1) (fun _ => ?_)
  refine Ex.aload_n (pc := 5) dX10_match_5 rfl rfl ?_
  refine Ex.iload_n (pc := 6) dX10_match_6 rfl rfl ?_
  refine Ex.callV (pc := 7) (As := [.int _]) (rest := []) dX10_match_7 cX10_473 (tm_isStain hP.1) (sh36 _) rfl rfl (by decide) (Nat.le_refl _) (Nat.le_refl _) (Nat.le_of_ble_eq_true rfl) (Or.inl (fun r S' h => by obtain ⟨_, h⟩ := h; subst h; rfl)) (fun r S' hq _ _ => ?_)
  obtain ⟨rfl, rfl⟩ := hq
  rw [hin]
  refine Ex.if_ne (pc := 10) (tgt := 15) dX10_match_10 (by decide) (fun c10 => absurd rfl c10) (fun _ => ?_)
  refine Ex.iconst (pc := 13) (v := (-1)) dX10_match_13 rfl ?_
  refine Ex.iret (pc := 14) rfl rfl rfl dX10_match_14 (Nat.le_refl _) (Nat.le_refl _) ?_
  exact ⟨rfl, rfl⟩
set_option maxRecDepth 20000 in
theorem tm_match1 {N : Nat} {I : aI} {L : aL} {p : aP} {bk nb ns nh : Nat} {f5 f6 : Nat → Int32} {x : aX} {rs : List aRow} (hR : RS I bk nb ns nh p f5 f6 x rs) {w : Int32} (hw : w = -1 ∨ inR w ns = true) : Run 8 0 0 mX10_match [.ref 36, .int w] (St N I L) (RX N (fun o I2 L2 => (∃ v, o = some (.int v) ∧ mtP (lft x.2.2.2.2 ns) (mtR (needN p f5 f6 x (lft x.2.2.2.2 ns)) nb (lft x.2.2.2.2 ns).length) w v) ∧ QF I I2 ∧ SmL [70] L L2)) := by
  refine Run.of (ls := [some (.ref 36), some (.int _), none, none, none]) (by decide) (Nat.le_of_ble_eq_true rfl) rfl ?_
  obtain ⟨hP, hX, hK, hG, hrb⟩ := id hR
  obtain ⟨⟨h1, h2, hnb, hns, hnh, hcb, hcs, hch⟩, -⟩ := id hP
  have hlen : (lft x.2.2.2.2 ns).length ≤ 6 := Nat.le_trans (lft_len _ _) hns
  have hls : ∀ s ∈ (lft x.2.2.2.2 ns), s < ns := fun s hs => ((lft_mem _ _ _).mp hs).1
  have hRle := mtR_le (need := needN p f5 f6 x (lft x.2.2.2.2 ns)) (o := nb) (many := (lft x.2.2.2.2 ns).length)
  have k15 : Ex 8 0 0 mX10_match 0 0 15 [some (.ref 36), some (.int w), none, none, none] [] (St N I L) (RX N (fun o I2 L2 => (∃ v, o = some (.int v) ∧ mtP (lft x.2.2.2.2 ns) (mtR (needN p f5 f6 x (lft x.2.2.2.2 ns)) nb (lft x.2.2.2.2 ns).length) w v) ∧ QF I I2 ∧ SmL [70] L L2)) := by
    generalize hll : (lft x.2.2.2.2 ns) = l at *
    refine Ex.aload_n (pc := 15) dX10_match_15 rfl rfl ?_
    refine Ex.callV (pc := 16) (As := []) (rest := []) dX10_match_16 cX10_492 (tm_findsLefts hR) (sh36 _) rfl rfl (by decide) (Nat.le_refl _) (Nat.le_refl _) (Nat.le_of_ble_eq_true rfl) (Or.inl (fun r S' h => by obtain ⟨_, _, h, _⟩ := h; subst h; rfl)) (fun r S' hq _ _ => ?_)
    obtain ⟨I1, rfl, rfl, hS1, h721⟩ := hq
    rw [hll] at h721 ⊢
    have hQ1 : QF I I1 := ⟨hS1.tr Sm.rf (l2 := []) (by decide) (by decide), SlF.of hS1 (by decide)⟩
    have hR1 := hR.q hQ1
    refine Ex.istore_n (pc := 19) (ls' := [some (.ref 36), some (.int _), some (.int _), none, none]) dX10_match_19 rfl (by decide) rfl rfl ?_
    refine Ex.aload_n (pc := 20) dX10_match_20 rfl rfl ?_
    refine Ex.iload_n (pc := 21) dX10_match_21 rfl rfl ?_
    refine Ex.callV (pc := 22) (As := [.int _]) (rest := []) dX10_match_22 cX10_496 (tm_matches hR1 hlen hls h721) (sh36 _) rfl rfl (by decide) (Nat.le_refl _) (Nat.le_refl _) (Nat.le_of_ble_eq_true rfl) (Or.inl (fun r S' h => by obtain ⟨_, _, h, _⟩ := h; subst h; rfl)) (fun r S' hq _ _ => ?_)
    obtain ⟨I2, L2, rfl, rfl, hQ2, hSL2, h722, h74⟩ := hq
    generalize mtR (needN p f5 f6 x l) nb l.length = R at *
    have hQ3 := hQ1.tr hQ2
    refine Ex.istore_n (pc := 25) (ls' := [some (.ref 36), some (.int _), some (.int _), some (.int _), none]) dX10_match_25 rfl (by decide) rfl rfl ?_
    refine Ex.iload_n (pc := 26) dX10_match_26 rfl rfl ?_
    refine Ex.iconst (pc := 27) (v := (-1)) dX10_match_27 rfl ?_
    refine Ex.icmp_eq (pc := 28) (tgt := 36) dX10_match_28 (by decide) (fun c28 => ?_) (fun c28 => ?_)
    · skip
      refine Ex.iload_n (pc := 36) dX10_match_36 rfl rfl ?_
      refine Ex.iret (pc := 37) rfl rfl rfl dX10_match_37 (Nat.le_refl _) (Nat.le_refl _) ?_
      refine ⟨_, _, rfl, ⟨_, rfl, ?_⟩, hQ3, hSL2⟩
      unfold mtP
      by_cases e : R.1 = 100000000
      · rw [if_pos e, if_pos e]
      · rw [if_neg e, if_neg e, if_pos c28]
    · skip
      refine Ex.iload_n (pc := 31) dX10_match_31 rfl rfl ?_
      refine Ex.iconst (pc := 32) (v := (-1)) dX10_match_32 rfl ?_
      refine Ex.icmp_ne (pc := 33) (tgt := 38) dX10_match_33 (by decide) (fun c33 => ?_) (fun c33 => ?_)
      · skip
        refine Ex.iconst (pc := 38) (v := 0) dX10_match_38 rfl ?_
        refine Ex.istore (pc := 39) (ls' := [some (.ref 36), some (.int _), some (.int _), some (.int _), some (.int 0)]) dX10_match_39 (by decide) rfl rfl ?_
        have hne : ¬ R.1 = 100000000 := fun e => by rw [if_pos e] at c33; exact c33 rfl
        rw [if_neg hne]
        have hg : ∀ k, k < l.length → I2 74 k = nI (R.2.getD k 0) := h74.resolve_left hne
        obtain ⟨s, hs, rfl⟩ := inR_of (hw.resolve_left c28) (by omega)
        have e72 : ∀ k, k < l.length → I2 72 k = nI (l.getD k 0) := fun k hk => by rw [h722]; exact h721 k hk
        refine forUp (σ := Unit) (P := fun k _ => Ex 8 0 0 mX10_match 0 0 41 [some (.ref 36), some (.int (nI s)), some (.int (nI l.length)), some (.int (nI R.1)), some (.int (nI k))] [] (St N I2 L2) _) (Inv := fun k _ => ∀ i, i < k → ¬ l[i]? = some s) l.length ?_ ?_ 0 () (Nat.zero_le _) (fun i hi => absurd hi (Nat.not_lt_zero _))
        · rintro - hno
          refine Ex.iload (pc := 41) dX10_match_41 rfl ?_
          refine Ex.iload_n (pc := 43) dX10_match_43 rfl rfl ?_
          refine Ex.icmp_ge (pc := 44) (tgt := 72) dX10_match_44 (by decide) (fun _ => ?_) (fun c44 => absurd (nI_le (Nat.le_refl _) (by omega)) c44)
          refine Ex.iconst (pc := 72) (v := (-1)) dX10_match_72 rfl ?_
          refine Ex.iret (pc := 73) rfl rfl rfl dX10_match_73 (Nat.le_refl _) (Nat.le_refl _) ?_
          refine ⟨_, _, rfl, ⟨_, rfl, ?_⟩, hQ3, hSL2⟩
          unfold mtP
          rw [if_neg hne, if_neg c28]
          refine ⟨s, rfl, Or.inr ⟨fun hm => ?_, rfl⟩⟩
          obtain ⟨i, hi⟩ := List.getElem?_of_mem hm
          exact hno i (List.getElem?_eq_some_iff.mp hi).1 hi
        · rintro k - hk hno ih
          have hg1 : l[k]? = some (l.getD k 0) := by rw [List.getD_eq_getElem?_getD, List.getElem?_eq_getElem hk]; rfl
          have hsk : l.getD k 0 < ns := hls _ (List.mem_of_getElem? hg1)
          refine Ex.iload (pc := 41) dX10_match_41 rfl ?_
          refine Ex.iload_n (pc := 43) dX10_match_43 rfl rfl ?_
          refine Ex.icmp_ge (pc := 44) (tgt := 72) dX10_match_44 (by decide) (fun c44 => absurd c44 (nI_ge hk (by omega))) (fun _ => ?_)
          refine Ex.aload_n (pc := 47) dX10_match_47 rfl rfl ?_
          refine Ex.getR (pc := 48) dX10_match_48 fX10_189 (sh36 _) r36_58 ?_
          refine Ex.iload (pc := 51) dX10_match_51 rfl ?_
          refine Ex.iald (pc := 53) (j := k) dX10_match_53 (sh72 _) (vp_in_nI (by omega) (by decide)) (ixN2 (by omega)) ?_
          rw [e72 k hk]
          refine Ex.iload_n (pc := 54) dX10_match_54 rfl rfl ?_
          refine Ex.icmp_ne (pc := 55) (tgt := 66) dX10_match_55 (by decide) (fun c55 => ?_) (fun c55 => ?_)
          · skip
            refine Ex.iinc (pc := 66) (ls' := [some (.ref 36), some (.int _), some (.int _), some (.int _), some (.int _)]) dX10_match_66 rfl rfl (by decide) rfl rfl ?_
            refine Ex.goto (pc := 69) (tgt := 41) dX10_match_69 (by decide) ?_
            rw [show nI k + Int32.ofInt 1 = nI (k + 1) from nI_1 k]
            refine ih () ?_
            rw [nI_eq (by omega) (by omega)] at c55
            intro i hi
            by_cases e : i = k
            · rw [e, hg1]; exact fun q => c55 (Option.some.inj q)
            · exact hno i (by omega)
          · skip
            refine Ex.aload_n (pc := 58) dX10_match_58 rfl rfl ?_
            refine Ex.getR (pc := 59) dX10_match_59 fX10_195 (sh36 _) r36_60 ?_
            refine Ex.iload (pc := 62) dX10_match_62 rfl ?_
            refine Ex.iald (pc := 64) (j := k) dX10_match_64 (sh74 _) (vp_in_nI (by omega) (by decide)) (ixN2 (by omega)) ?_
            refine Ex.iret (pc := 65) rfl rfl rfl dX10_match_65 (Nat.le_refl _) (Nat.le_refl _) ?_
            rw [nI_eq (by omega) (by omega)] at c55
            refine ⟨_, _, rfl, ⟨_, rfl, ?_⟩, hQ3, hSL2⟩
            unfold mtP
            rw [if_neg hne, if_neg c28]
            exact ⟨s, rfl, Or.inl ⟨k, by rw [hg1, c55], hg k hk⟩⟩
      · skip
        refine Ex.iload_n (pc := 36) dX10_match_36 rfl rfl ?_
        refine Ex.iret (pc := 37) rfl rfl rfl dX10_match_37 (Nat.le_refl _) (Nat.le_refl _) ?_
        refine ⟨_, _, rfl, ⟨_, rfl, ?_⟩, hQ3, hSL2⟩
        unfold mtP
        by_cases e : R.1 = 100000000
        · rw [if_pos e, if_pos e]
        · rw [if_neg e] at c33; exact absurd (show nI R.1 < 0 from by rw [show nI R.1 = -1 from c33]; decide) (nI_pos (by omega))
  refine Ex.iload_n (pc := 0) dX10_match_0 rfl rfl ?_
  refine Ex.iconst (pc := 1) (v := (-1)) dX10_match_1 rfl ?_
  refine Ex.icmp_eq (pc := 2) (tgt := 15) dX10_match_2 (by decide) (fun c2 => ?_) (fun c2 => ?_)
  · skip
    exact k15
  · skip
    refine Ex.aload_n (pc := 5) dX10_match_5 rfl rfl ?_
    refine Ex.iload_n (pc := 6) dX10_match_6 rfl rfl ?_
    refine Ex.callV (pc := 7) (As := [.int _]) (rest := []) dX10_match_7 cX10_473 (tm_isStain hP.1) (sh36 _) rfl rfl (by decide) (Nat.le_refl _) (Nat.le_refl _) (Nat.le_of_ble_eq_true rfl) (Or.inl (fun r S' h => by obtain ⟨_, h⟩ := h; subst h; rfl)) (fun r S' hq _ _ => ?_)
    obtain ⟨rfl, rfl⟩ := hq
    refine Ex.if_ne (pc := 10) (tgt := 15) dX10_match_10 (by decide) (fun c10 => ?_) (fun c10 => ?_)
    · skip
      exact k15
    · skip
      refine Ex.iconst (pc := 13) (v := (-1)) dX10_match_13 rfl ?_
      refine Ex.iret (pc := 14) rfl rfl rfl dX10_match_14 (Nat.le_refl _) (Nat.le_refl _) ?_
      exact absurd (bI_0 c10) (by rw [hw.resolve_left c2]; decide)
def hsF (p : aP) (f5 f6 : Nat → Int32) (x : aX) (b : Nat) : List Nat → Int32 → Nat → Option Nat
  | [], _, a => some a
  | s :: l, z, a => if (lkT p f5 f6 x b s z).2.1 = 0 ∧ ¬ (lkT p f5 f6 x b s z).1 = 0 then hsF p f5 f6 x b l (lkT p f5 f6 x b s z).1 (a + (lkT p f5 f6 x b s z).2.2.1.toNatClampNeg) else none
def hsI : Option Nat → Int32
  | none => -1
  | some n => nI n
theorem lkT_cnt (p : aP) (f5 f6 : Nat → Int32) (x : aX) (b s : Nat) (z : Int32) : ∃ m, m ≤ 99 ∧ (lkT p f5 f6 x b s z).2.2.1 = nI m := by
  obtain ⟨m, h1, h2⟩ := rub_cnt p (nmL (f5 b) (f6 (6 + s)) x.2.1 x.1) 99 0 (z, x.2.2.2.2 s, 0, 0) rfl
  exact ⟨m, h1, by rw [show lkT p f5 f6 x b s z = rubF p (nmL (f5 b) (f6 (6 + s)) x.2.1 x.1) 99 (z, x.2.2.2.2 s, 0, 0) from rfl, h2]; congr 1; omega⟩
theorem hsF_le (p : aP) (f5 f6 : Nat → Int32) (x : aX) (b : Nat) : ∀ (l : List Nat) (z : Int32) (a n : Nat), hsF p f5 f6 x b l z a = some n → n ≤ a + 99 * l.length
  | [], _, a, n, h => by cases h; simp
  | s :: l, z, a, n, h => by
    simp only [hsF] at h
    split at h
    · have := hsF_le p f5 f6 x b l _ _ n h
      obtain ⟨m, hm, e⟩ := lkT_cnt p f5 f6 x b s z
      rw [e, nI_clamp (by omega)] at this
      rw [List.length_cons]
      omega
    · cases h
theorem hs_st {p : aP} {f5 f6 : Nat → Int32} {x : aX} {b s k a : Nat} {z : Int32} {l : List Nat} (h : l[k]? = some s) : hsF p f5 f6 x b (l.drop k) z a = if (lkT p f5 f6 x b s z).2.1 = 0 ∧ ¬ (lkT p f5 f6 x b s z).1 = 0 then hsF p f5 f6 x b (l.drop (k + 1)) (lkT p f5 f6 x b s z).1 (a + (lkT p f5 f6 x b s z).2.2.1.toNatClampNeg) else none := by
  obtain ⟨hk, e⟩ := List.getElem?_eq_some_iff.mp h
  rw [List.drop_eq_getElem_cons hk, e]
  rfl
theorem XB.set {x : aX} {b s : Nat} {z d : Int32} (h : XB x) (hz : le99 z) (hd : le99 d) : XB (xSet x b s z d) := ⟨le99_upd h.1 hz, le99_upd h.2 hd⟩
set_option maxRecDepth 20000 in
theorem tm_headStrokes {N : Nat} {I : aI} {L : aL} {p : aP} {bk nb ns nh : Nat} {f5 f6 : Nat → Int32} {x : aX} {rs : List aRow} (hR : RS I bk nb ns nh p f5 f6 x rs) {l r : List Nat} {b : Nat} (hb : b < nb) (hl6 : l.length ≤ 6) (hls : ∀ s ∈ l, s < ns) (h72 : ∀ k, k < l.length → I 72 k = nI (l.getD k 0)) (hrow : RowR I r) (hrc : ∀ c ∈ r, c < l.length) (hnd : r.Pairwise (fun a b => l.getD a 0 ≠ l.getD b 0)) : Run 6 0 0 mX10_headStrokes [.ref 36, .int (nI b), .int (nI r.length)] (St N I L) (RX N (fun o I2 L2 => o = some (.int (hsI (hsF p f5 f6 x b (r.map (fun c => l.getD c 0)) (x.2.2.2.1 b) 0))) ∧ QS I I2 ∧ SmL [70] L L2)) := by
  refine Run.of (ls := [some (.ref 36), some (.int _), some (.int _), none, none, none]) (by decide) (Nat.le_of_ble_eq_true rfl) rfl ?_
  obtain ⟨hP, hX, hK, hG, hrb⟩ := id hR
  obtain ⟨⟨h1, h2, hnb, hns, hnh, hcb, hcs, hch⟩, -⟩ := id hP
  have hr6 := hrow.1
  have hsl : (r.map (fun c => l.getD c 0)).length = r.length := List.length_map ..
  have hsq : ∀ k, k < r.length → (r.map (fun c => l.getD c 0))[k]? = some (l.getD (r.getD k 0) 0) := fun k hk => by
    rw [List.getElem?_map, (hrow.get hk).2.2]; rfl
  generalize hSQ : (r.map (fun c => l.getD c 0)) = sq at *
  refine Ex.aload_n (pc := 0) dX10_headStrokes_0 rfl rfl ?_
  refine Ex.iconst (pc := 1) (v := 1) dX10_headStrokes_1 rfl ?_
  refine Ex.iconst (pc := 2) (v := 0) dX10_headStrokes_2 rfl ?_
  refine Ex.callV (pc := 3) (As := [.int 1, .int 0]) (rest := []) dX10_headStrokes_3 cX10_405 (tm_copies (to := 1) (fr := 0) (by decide) (by decide) (by decide) hnb hns hX hK) (sh36 _) rfl rfl (by decide) (Nat.le_refl _) (Nat.le_refl _) (Nat.le_of_ble_eq_true rfl) (Or.inl (fun r S' h => by obtain ⟨_, _, h, _⟩ := h; subst h; rfl)) (fun r S' hq _ _ => ?_)
  obtain ⟨I1, rfl, rfl, hS1, hF1, hX1, hK1⟩ := hq
  have hP1 : RefP I1 bk nb ns nh p f5 f6 := hP.sm hS1 (by decide)
  refine Ex.iconst (pc := 6) (v := 0) dX10_headStrokes_6 rfl ?_
  refine Ex.istore_n (pc := 7) (ls' := [some (.ref 36), some (.int _), some (.int _), some (.int 0), none, none]) dX10_headStrokes_7 rfl (by decide) rfl rfl ?_
  refine Ex.iconst (pc := 8) (v := 0) dX10_headStrokes_8 rfl ?_
  refine Ex.istore (pc := 9) (ls' := [some (.ref 36), some (.int _), some (.int _), some (.int 0), some (.int 0), none]) dX10_headStrokes_9 (by decide) rfl rfl ?_
  refine Ex.le (ls' := [some (.ref 36), some (.int (nI b)), some (.int (nI r.length)), some (.int 0), some (.int 0), none]) ⟨rfl, rfl, rfl, rfl, rfl, trivial⟩ ?_
  refine forUp (σ := aI × aL × aX × Nat) (P := fun k q => Ex 6 0 0 mX10_headStrokes 0 0 11 [some (.ref 36), some (.int (nI b)), some (.int (nI r.length)), some (.int (nI q.2.2.2)), some (.int (nI k)), none] [] (St N q.1 q.2.1) _) (Inv := fun k q => QS I q.1 ∧ SmL [70] L q.2.1 ∧ XR q.1 1 nb ns q.2.2.1 ∧ XB q.2.2.1 ∧ q.2.2.1.1 = x.1 ∧ q.2.2.1.2.1 = x.2.1 ∧ (∀ j s, k ≤ j → sq[j]? = some s → q.2.2.1.2.2.2.2 s = x.2.2.2.2 s) ∧ q.2.2.2 ≤ 99 * k ∧ hsF p f5 f6 x b (sq.drop k) (q.2.2.1.2.2.2.1 b) q.2.2.2 = hsF p f5 f6 x b sq (x.2.2.2.1 b) 0) r.length ?_ ?_ 0 (I1, L, x, 0) (Nat.zero_le _) ⟨⟨hS1.tr Sm.rf (l2 := []) (by decide) (by decide), hF1⟩, SmL.rf, hX1, hG.1, rfl, rfl, fun _ _ _ _ => rfl, Nat.le_refl _, rfl⟩
  · rintro ⟨I2, L2, y, a⟩ ⟨hQ2, hSL2, hX2, hB2, y1, y2, hd2, ha, hh⟩
    dsimp only at *
    rw [← hsl, List.drop_length] at hh
    refine Ex.iload (pc := 11) dX10_headStrokes_11 rfl ?_
    refine Ex.iload_n (pc := 13) dX10_headStrokes_13 rfl rfl ?_
    refine Ex.icmp_ge (pc := 14) (tgt := 66) dX10_headStrokes_14 (by decide) (fun _ => ?_) (fun c14 => absurd (nI_le (Nat.le_refl _) (by omega)) c14)
    refine Ex.iload_n (pc := 66) dX10_headStrokes_66 rfl rfl ?_
    refine Ex.iret (pc := 67) rfl rfl rfl dX10_headStrokes_67 (Nat.le_refl _) (Nat.le_refl _) ?_
    refine ⟨_, _, rfl, ?_, hQ2, hSL2⟩
    rw [← hh]; rfl
  · rintro k ⟨I2, L2, y, a⟩ hk ⟨hQ2, hSL2, hX2, hB2, y1, y2, hd2, ha, hh⟩ ih
    dsimp only at *
    obtain ⟨s, hs⟩ : ∃ s, s = l.getD (r.getD k 0) 0 := ⟨_, rfl⟩
    have hqk := hsq k hk
    rw [← hs] at hqk
    obtain ⟨ek, vk, gk⟩ := hrow.get hk
    have hck : r.getD k 0 < l.length := getD_lt hrc hk
    have hsn : s < ns := by rw [hs]; exact getD_lt hls hck
    have e73 : I2 73 k = nI (r.getD k 0) := by rw [hQ2.1 73 (by decide)]; exact ek
    have e72 : I2 72 (r.getD k 0) = nI s := by rw [hQ2.1 72 (by decide), hs]; exact h72 _ hck
    have hP2 : RefP I2 bk nb ns nh p f5 f6 := hP.sm hQ2.1 (by decide)
    have eT : rubX p f5 f6 y b s 99 = lkT p f5 f6 x b s (y.2.2.2.1 b) := by
      unfold rubX lkT
      rw [y1, y2, hd2 k s (Nat.le_refl _) hqk]
    rw [hs_st hqk] at hh
    obtain ⟨m, hm, em⟩ := lkT_cnt p f5 f6 x b s (y.2.2.2.1 b)
    have r99 : le99 (lkT p f5 f6 x b s (y.2.2.2.1 b)).1 ∧ le99 (lkT p f5 f6 x b s (y.2.2.2.1 b)).2.1 := by
      rw [← eT]; exact rub_99 _ _ _ _ (hB2.1 b) (hB2.2 s)
    generalize hT : lkT p f5 f6 x b s (y.2.2.2.1 b) = T at *
    refine Ex.iload (pc := 11) dX10_headStrokes_11 rfl ?_
    refine Ex.iload_n (pc := 13) dX10_headStrokes_13 rfl rfl ?_
    refine Ex.icmp_ge (pc := 14) (tgt := 66) dX10_headStrokes_14 (by decide) (fun c14 => absurd c14 (nI_ge hk (by omega))) (fun _ => ?_)
    refine Ex.aload_n (pc := 17) dX10_headStrokes_17 rfl rfl ?_
    refine Ex.iload_n (pc := 18) dX10_headStrokes_18 rfl rfl ?_
    refine Ex.aload_n (pc := 19) dX10_headStrokes_19 rfl rfl ?_
    refine Ex.getR (pc := 20) dX10_headStrokes_20 fX10_189 (sh36 _) r36_58 ?_
    refine Ex.aload_n (pc := 23) dX10_headStrokes_23 rfl rfl ?_
    refine Ex.getR (pc := 24) dX10_headStrokes_24 fX10_192 (sh36 _) r36_59 ?_
    refine Ex.iload (pc := 27) dX10_headStrokes_27 rfl ?_
    refine Ex.iald (pc := 29) (j := k) dX10_headStrokes_29 (sh73 _) (vp_in_nI (by omega) (by decide)) (ixN2 (by omega)) ?_
    rw [e73]
    refine Ex.iald (pc := 30) (j := r.getD k 0) dX10_headStrokes_30 (sh72 _) (vp_in_nI (by omega) (by decide)) (ixN2 (by omega)) ?_
    rw [e72]
    refine Ex.callV (pc := 31) (As := [.int _, .int _]) (rest := []) dX10_headStrokes_31 cX10_476 (tm_brings hP2 hX2 hB2 hb hsn) (sh36 _) rfl rfl (by decide) (Nat.le_refl _) (Nat.le_refl _) (Nat.le_of_ble_eq_true rfl) (Or.inl (fun r S' h => by obtain ⟨_, _, h, _⟩ := h; subst h; rfl)) (fun r S' hq _ _ => ?_)
    obtain ⟨I3, L3, rfl, rfl, hS3, hSL3, e65, e66⟩ := hq
    rw [eT] at e65 e66 ⊢
    have hQ3 : QS I2 I3 := ⟨hS3.tr Sm.rf (l2 := []) (by decide) (by decide), SlF.set hS3 (by decide) (by omega) (by omega) e65 e66⟩
    have z65 : I3 65 (5 + b) = T.1 := by rw [e65, show 5 + b = 5 * 1 + b by omega, upd_s]
    refine Ex.istore (pc := 34) (ls' := [some (.ref 36), some (.int _), some (.int _), some (.int _), some (.int _), some (.int _)]) dX10_headStrokes_34 (by decide) rfl rfl ?_
    refine Ex.iload (pc := 36) dX10_headStrokes_36 rfl ?_
    refine Ex.iconst (pc := 38) (v := (-1)) dX10_headStrokes_38 rfl ?_
    refine Ex.icmp_eq (pc := 39) (tgt := 53) dX10_headStrokes_39 (by decide) (fun c39 => ?_) (fun c39 => ?_)
    · skip
      refine Ex.iconst (pc := 53) (v := (-1)) dX10_headStrokes_53 rfl ?_
      refine Ex.iret (pc := 54) rfl rfl rfl dX10_headStrokes_54 (Nat.le_refl _) (Nat.le_refl _) ?_
      have hT0 : ¬ (T.2.1 = 0 ∧ ¬ T.1 = 0) := by
        rintro ⟨q1, q2⟩
        rw [if_pos q1, em] at c39
        exact absurd (show nI m < 0 from by rw [show nI m = -1 from c39]; decide) (nI_pos (by omega))
      rw [if_neg hT0] at hh
      exact ⟨_, _, rfl, by rw [← hh]; rfl, hQ2.tr hQ3, hSL2.tr hSL3 (by decide) (by decide)⟩
    · skip
      refine Ex.aload_n (pc := 42) dX10_headStrokes_42 rfl rfl ?_
      refine Ex.getR (pc := 43) dX10_headStrokes_43 fX10_159 (sh36 _) r36_48 ?_
      refine Ex.iconst (pc := 46) (v := 5) dX10_headStrokes_46 rfl ?_
      refine Ex.iload_n (pc := 47) dX10_headStrokes_47 rfl rfl ?_
      refine Ex.iadd (pc := 48) dX10_headStrokes_48 ?_
      refine Ex.iald (pc := 49) (j := 5 + b) dX10_headStrokes_49 (sh65 _) (ixA (x := 5) (a := 5) (j := b) rfl (by omega) (by decide)).1 (ixA2 (x := 5) (a := 5) (j := b) rfl (by omega)) ?_
      refine Ex.if_ne (pc := 50) (tgt := 55) dX10_headStrokes_50 (by decide) (fun c50 => ?_) (fun c50 => ?_)
      · skip
        refine Ex.iload_n (pc := 55) dX10_headStrokes_55 rfl rfl ?_
        refine Ex.iload (pc := 56) dX10_headStrokes_56 rfl ?_
        refine Ex.iadd (pc := 58) dX10_headStrokes_58 ?_
        refine Ex.istore_n (pc := 59) (ls' := [some (.ref 36), some (.int _), some (.int _), some (.int _), some (.int _), some (.int _)]) dX10_headStrokes_59 rfl (by decide) rfl rfl ?_
        refine Ex.iinc (pc := 60) (ls' := [some (.ref 36), some (.int _), some (.int _), some (.int _), some (.int _), some (.int _)]) dX10_headStrokes_60 rfl rfl (by decide) rfl rfl ?_
        refine Ex.goto (pc := 63) (tgt := 11) dX10_headStrokes_63 (by decide) ?_
        rw [z65] at c50
        have q1 : T.2.1 = 0 := by
          by_cases q : T.2.1 = 0
          · exact q
          · rw [if_neg q] at c39; exact absurd rfl c39
        rw [if_pos ⟨q1, c50⟩] at hh
        rw [if_pos q1, em, nI_add]
        rw [show nI k + Int32.ofInt 1 = nI (k + 1) from nI_1 k]
        rw [em, nI_clamp (by omega)] at hh
        refine Ex.le (ls' := [some (.ref 36), some (.int (nI b)), some (.int (nI r.length)), some (.int (nI (a + m))), some (.int (nI (k + 1))), none]) ⟨rfl, rfl, rfl, rfl, rfl, trivial⟩ (ih (I3, L3, xSet y b s T.1 T.2.1, a + m) ⟨hQ2.tr hQ3, hSL2.tr hSL3 (by decide) (by decide), hX2.set hS3 (by decide) (by decide) (by decide) e65 e66, hB2.set r99.1 r99.2, y1, y2, ?_, by dsimp only; omega, ?_⟩)
        · intro j s2 hj hj2
          show upd y.2.2.2.2 s T.2.1 s2 = _
          have hjl : j < r.length := by have := (List.getElem?_eq_some_iff.mp hj2).1; omega
          have hne : s2 ≠ s := by
            have e1 := hsq j hjl
            rw [hj2] at e1
            have e2 := Option.some.inj e1
            rw [e2, hs]
            have := List.pairwise_iff_getElem.mp hnd k j hk hjl (by omega)
            intro q
            apply this
            obtain ⟨_, _, g1⟩ := hrow.get hk
            obtain ⟨_, _, g2⟩ := hrow.get hjl
            rw [List.getElem?_eq_getElem hk] at g1
            rw [List.getElem?_eq_getElem hjl] at g2
            rw [Option.some.inj g1, Option.some.inj g2]; exact q.symm
          rw [upd_n hne]; exact hd2 j s2 (by omega) hj2
        · show hsF p f5 f6 x b (sq.drop (k + 1)) (upd y.2.2.2.1 b T.1 b) (a + m) = _
          rw [upd_s]; exact hh
      · skip
        refine Ex.iconst (pc := 53) (v := (-1)) dX10_headStrokes_53 rfl ?_
        refine Ex.iret (pc := 54) rfl rfl rfl dX10_headStrokes_54 (Nat.le_refl _) (Nat.le_refl _) ?_
        rw [z65] at c50
        have hT0 : ¬ (T.2.1 = 0 ∧ ¬ T.1 = 0) := fun q => q.2 c50
        rw [if_neg hT0] at hh
        exact ⟨_, _, rfl, by rw [← hh]; rfl, hQ2.tr hQ3, hSL2.tr hSL3 (by decide) (by decide)⟩
