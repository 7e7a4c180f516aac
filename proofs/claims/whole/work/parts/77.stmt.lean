def plW (pl : Pl) (v : Nat) : Pl := (pl.1, pl.2.1, pl.2.2.1, pl.2.2.2.1, v, pl.2.2.2.2.2)
def plD (pl : Pl) (v : Nat) : Pl := (pl.1, pl.2.1, pl.2.2.1, pl.2.2.2.1, pl.2.2.2.2.1, v, pl.2.2.2.2.2.2)
def bodF (tb : Nat → Nat) (n k : Nat) (pl : Pl) (r : Er) : Er × Pl :=
  if k = 0 then ((thR tb n 0 1 9 pl r).2.2, plT pl 0 (letR r) (numR (thR tb n 0 1 9 pl r).1) (numR (thR tb n 0 1 9 pl r).2.1))
  else if k = 3 then ((thR tb n 1 4 99 pl r).2.2, plT pl 1 (letR r) (numR (thR tb n 1 4 99 pl r).1) (numR (thR tb n 1 4 99 pl r).2.1))
  else if k = 6 then ((thR tb n 2 7 9 pl r).2.2, plT pl 2 (letR r) (numR (thR tb n 2 7 9 pl r).1) (numR (thR tb n 2 7 9 pl r).2.1))
  else if k = 14 then (tkV tb n 0 99 r, plW pl (numR r))
  else if k = 15 then (tkV tb n 0 100 r, plD pl (numR r))
  else (ruF tb n k r, plU pl (k - 9) (lenR r) (lenR (ruF tb n k r)))
def wdN (t : Tk) : Nat := if t.1 = 2 then ownN t.2.2.1 else 99
def stmF (tb : Nat → Nat) (n m : Nat) (pl : Pl) (t : Tk) (c : Cd) : Er × Pl :=
  if begK (wdN t) = true then (if fullB pl (wdN t) = true then (.error (6, t.2.2.2.1), pl) else (endF tb n (m + 1) (bodF tb n (wdN t) pl (nx tb n (.ok (t, c)))).1, (bodF tb n (wdN t) pl (nx tb n (.ok (t, c)))).2)) else (.error (1, t.2.2.2.1), pl)
def prsF (tb : Nat → Nat) (n : Nat) : Nat → Nat → Er → Pl → Nat × Er × Pl
  | 0, m, r, pl => (m, r, pl)
  | f + 1, m, r, pl => match r with
    | .error e => (m, .error e, pl)
    | .ok (t, c) => if t.1 = 1 then (m, .ok (t, c), pl) else prsF tb n f (m + 1) (stmF tb n m pl t c).1 (stmF tb n m pl t c).2
theorem Pw.stp {tb : Nat → Nat} {n m k : Nat} {Ib I I2 : aI} {r : Er} {pl : Pl} (h : Pw tb n Ib I m r pl) (h2 : Px n I I2 0 false (stp k r)) (m2 : Nat) : Pw tb n Ib I2 m2 (stp k r) pl := by
  have z := h.z.go h2 (fun e q => by rw [q]; rfl)
  refine ⟨h.1.tr z.1.1 (fun _ q => q) (fun _ q => q), z.2.1, z.2.2.1, z.2.2.2, fun s e => ?_⟩
  cases r with
  | error e2 => cases e
  | ok q => obtain ⟨t, c⟩ := q; cases e
set_option maxRecDepth 20000 in
theorem t_stmt {N n m : Nat} {I Ib : aI} {L : aL} {tb : Nat → Nat} {t : Tk} {c : Cd} {pl : Pl} (h : Pw tb n Ib I m (.ok (t, c)) pl) (hm : m < 1000) : Run 73 0 0 mX4_readStatement [.ref 81] (St2 N n I L) (RP2 none N n L (fun I2 => Pw tb n Ib I2 (m + 1) (stmF tb n m pl t c).1 (stmF tb n m pl t c).2)) := by
  refine Run.of (ls := [some (.ref 81), none]) (by decide) (Nat.le_of_ble_eq_true rfl) rfl ?_
  have hO : PxO n I 0 false t c := h.2.2.1
  have hP : PlO I pl := h.2.2.2.1
  obtain ⟨hC, hW, -⟩ := id hO
  have h7 := hC.2.2.2.1
  have zz := h.z
  have hst : ∀ {k : Nat}, stp k (.ok (t, c)) = .error (k, t.2.2.2.1) := rfl
  by_cases hk2 : t.1 = 2
  · have h9 : I 81 9 = ownW t.2.2.1 := (hC.2.2.2.2.1 hk2).2
    have hwd : wdN t = ownN t.2.2.1 := if_pos hk2
    rcases own_c t.2.2.1 with ⟨o1, o2⟩ | ⟨o1, o2⟩
    · rw [o1] at h9
      refine Ex.aload_n (pc := 0) dX4_readStatement_0 rfl rfl ?_
      refine Ex.getI (pc := 1) dX4_readStatement_1 fX4_24 (s2_81 _ _) ?_
      refine Ex.iconst (pc := 4) (v := 2) dX4_readStatement_4 rfl ?_
      refine Ex.icmp_ne (pc := 5) (tgt := 15) dX4_readStatement_5 (by decide) (fun c5 => absurd (by rw [h7, hk2]; decide) c5) (fun _ => ?_)
      refine Ex.aload_n (pc := 8) dX4_readStatement_8 rfl rfl ?_
      refine Ex.getI (pc := 9) dX4_readStatement_9 fX4_30 (s2_81 _ _) ?_
      refine Ex.goto (pc := 12) (tgt := 16) dX4_readStatement_12 (by decide) ?_
      rw [h9]
      refine Ex.istore_n (pc := 16) (ls' := [some (.ref 81), some (.int _)]) dX4_readStatement_16 rfl (by decide) rfl rfl ?_
      refine Ex.iload_n (pc := 17) dX4_readStatement_17 rfl rfl ?_
      refine Ex.callS (pc := 18) (As := [.int _]) (rest := []) dX4_readStatement_18 cX4_108 (t_begins (w := -1)) rfl rfl (by decide) (Nat.le_refl _) (Nat.le_refl _) (Nat.le_of_ble_eq_true rfl) (Or.inl (fun r S' h => by obtain ⟨_, h⟩ := h; subst h; rfl)) (fun r S' hq _ _ => ?_)
      obtain ⟨rfl, rfl⟩ := hq
      refine Ex.if_ne (pc := 21) (tgt := 34) dX4_readStatement_21 (by decide) (fun c21 => absurd (by decide) c21) (fun _ => ?_)
      refine Ex.aload_n (pc := 24) dX4_readStatement_24 rfl rfl ?_
      refine Ex.iconst (pc := 25) (v := 1) dX4_readStatement_25 rfl ?_
      refine Ex.aload_n (pc := 26) dX4_readStatement_26 rfl rfl ?_
      refine Ex.getI (pc := 27) dX4_readStatement_27 fX4_21 (s2_81 _ _) ?_
      refine Ex.callV (pc := 30) (As := [.int 1, .int _]) (rest := []) dX4_readStatement_30 cX4_77 (t_stp (k := 1) zz.px (by decide) (by decide) zz.px.start) (s2_81 _ _) rfl rfl (by decide) (Nat.le_refl _) (Nat.le_refl _) (Nat.le_of_ble_eq_true rfl) (Or.inl (fun r S' h => by obtain ⟨_, _, h, _⟩ := h; subst h; rfl)) (fun r S' hq _ _ => ?_)
      obtain ⟨I2, rfl, rfl, h2⟩ := hq
      refine Ex.vret (pc := 33) rfl dX4_readStatement_33 (Nat.le_refl _) (Nat.le_refl _) ?_
      have hs : stmF tb n m pl t c = (.error (1, t.2.2.2.1), pl) := if_neg (by rw [hwd, o2]; decide)
      rw [hs]
      exact ⟨_, rfl, rfl, h.stp h2 (m + 1)⟩
    · obtain ⟨k, hk⟩ : ∃ k, k = ownN t.2.2.1 := ⟨_, rfl⟩
      rw [← hk] at o1 o2 hwd
      rw [o2] at h9
      have k53 : begK k = true → fullB pl k = false → Ex 73 0 0 mX4_readStatement 0 0 53 [some (.ref 81), some (.int (nI k))] [] (St2 N n I L) (RP2 none N n L (fun I2 => Pw tb n Ib I2 (m + 1) (stmF tb n m pl t c).1 (stmF tb n m pl t c).2)) := by
        intro hb hfu
        have hkk := of_decide_eq_true hb
        have kend : ∀ I3, Pz tb n I I3 (bodF tb n k pl (nx tb n (.ok (t, c)))).1 (bodF tb n k pl (nx tb n (.ok (t, c)))).2 → Ex 73 0 0 mX4_readStatement 0 0 237 [some (.ref 81), some (.int (nI k))] [] (St2 N n I3 L) (RP2 none N n L (fun I2 => Pw tb n Ib I2 (m + 1) (stmF tb n m pl t c).1 (stmF tb n m pl t c).2)) := by
          intro I3 z3
          have hs : stmF tb n m pl t c = (endF tb n (m + 1) (bodF tb n k pl (nx tb n (.ok (t, c)))).1, (bodF tb n k pl (nx tb n (.ok (t, c)))).2) := by
            unfold stmF
            rw [hwd, if_pos hb, if_neg (by rw [hfu]; decide)]
          rw [hs]
          refine Ex.aload_n (pc := 237) dX4_readStatement_237 rfl rfl ?_
          refine Ex.callV (pc := 238) (As := []) (rest := []) dX4_readStatement_238 cX4_139 (t_end z3 hm (fun s _ => by rw [z3.1.2]; exact h.2.2.2.2 _ rfl)) (s2_81 _ _) rfl rfl (by decide) (Nat.le_refl _) (Nat.le_refl _) (Nat.le_of_ble_eq_true rfl) (Or.inl (fun r S' h => by obtain ⟨_, _, h, _⟩ := h; subst h; rfl)) (fun r S' hq _ _ => ?_)
          obtain ⟨I2, rfl, rfl, h2⟩ := hq
          refine Ex.vret (pc := 241) rfl dX4_readStatement_241 (Nat.le_refl _) (Nat.le_refl _) ?_
          exact ⟨_, rfl, rfl, h.1.tr h2.1 (fun _ q => q) (fun _ q => q), h2.2⟩
        rcases (show k = 0 ∨ k = 3 ∨ k = 6 ∨ k = 9 ∨ k = 10 ∨ k = 11 ∨ k = 12 ∨ k = 13 ∨ k = 14 ∨ k = 15 by omega) with rfl | rfl | rfl | rfl | rfl | rfl | rfl | rfl | rfl | rfl
        · skip
          refine Ex.aload_n (pc := 53) dX4_readStatement_53 rfl rfl ?_
          refine Ex.callV (pc := 54) (As := []) (rest := []) dX4_readStatement_54 cX4_61 (t_next zz.2.1 zz.px.le) (s2_81 _ _) rfl rfl (by decide) (Nat.le_refl _) (Nat.le_refl _) (Nat.le_of_ble_eq_true rfl) (Or.inl (fun r S' h => by obtain ⟨_, _, h, _⟩ := h; subst h; rfl)) (fun r S' hq _ _ => ?_)
          obtain ⟨I1, rfl, rfl, p1⟩ := hq
          have z0 := zz.go p1 (fun e q => by cases q)
          have z1 := z0.f10 (v := nI 0)
          refine Ex.aload_n (pc := 57) dX4_readStatement_57 rfl rfl ?_
          refine Ex.iload_n (pc := 58) dX4_readStatement_58 rfl rfl ?_
          refine Ex.putI (pc := 59) dX4_readStatement_59 fX4_33 (s2_81 _ _) (Or.inl rfl) ⟨rfl, rfl⟩ ?_
          refine Ex.mm (S' := St2 N n (pf I1 10 (nI 0)) L) rfl ?_
          refine Ex.aload_n (pc := 62) dX4_readStatement_62 rfl rfl ?_
          refine Ex.getR (pc := 63) dX4_readStatement_63 fX4_57 (s2_81 _ _) r2_81_2 ?_
          refine Ex.iload_n (pc := 66) dX4_readStatement_66 rfl rfl ?_
          refine Ex.callV (pc := 67) (As := [.int _]) (rest := []) dX4_readStatement_67 cX4_114 (tr_beg0 (k := 0) (by decide) (by decide)) (s2_82 _ _) rfl rfl (by decide) (Nat.le_refl _) (Nat.le_refl _) (Nat.le_of_ble_eq_true rfl) (Or.inl (fun r S' h => by obtain ⟨_, h⟩ := h; subst h; rfl)) (fun r S' hq _ _ => ?_)
          obtain ⟨rfl, rfl⟩ := hq
          refine Ex.iload_n (pc := 70) dX4_readStatement_70 rfl rfl ?_
          refine Ex.tableIn (pc := 71) (tgt := 148) (off := 77) dX4_readStatement_71 (by decide) (by decide) (by decide) (by decide) ?_
          refine Ex.aload_n (pc := 148) dX4_readStatement_148 rfl rfl ?_
          refine Ex.iconst (pc := 149) (v := 0) dX4_readStatement_149 rfl ?_
          refine Ex.iconst (pc := 150) (v := 1) dX4_readStatement_150 rfl ?_
          refine Ex.bipush (pc := 151) (v := 9) dX4_readStatement_151 rfl ?_
          refine Ex.callV (pc := 153) (As := [.int 0, .int 1, .int 9]) (rest := []) dX4_readStatement_153 cX4_117 (t_thing (q := 0) (w := 1) (hi := 9) z1 (by decide) (by decide) (by decide) (fun s _ => by have := of_decide_eq_false (show decide (5 ≤ pl.1 0) = false from hfu); omega)) (s2_81 _ _) rfl rfl (by decide) (Nat.le_refl _) (Nat.le_refl _) (Nat.le_of_ble_eq_true rfl) (Or.inl (fun r S' h => by obtain ⟨_, _, h, _⟩ := h; subst h; rfl)) (fun r S' hq _ _ => ?_)
          obtain ⟨I2, rfl, rfl, z2⟩ := hq
          refine Ex.goto (pc := 156) (tgt := 229) dX4_readStatement_156 (by decide) ?_
          refine Ex.aload_n (pc := 229) dX4_readStatement_229 rfl rfl ?_
          refine Ex.getR (pc := 230) dX4_readStatement_230 fX4_57 (s2_81 _ _) r2_81_2 ?_
          refine Ex.iload_n (pc := 233) dX4_readStatement_233 rfl rfl ?_
          refine Ex.callV (pc := 234) (As := [.int _]) (rest := []) dX4_readStatement_234 cX4_136 (tr_end0 (k := 0) (by decide) (by decide)) (s2_82 _ _) rfl rfl (by decide) (Nat.le_refl _) (Nat.le_refl _) (Nat.le_of_ble_eq_true rfl) (Or.inl (fun r S' h => by obtain ⟨_, h⟩ := h; subst h; rfl)) (fun r S' hq _ _ => ?_)
          obtain ⟨rfl, rfl⟩ := hq
          refine kend _ ?_
          unfold bodF
          rw [if_pos rfl]
          exact z2
        · skip
          refine Ex.aload_n (pc := 53) dX4_readStatement_53 rfl rfl ?_
          refine Ex.callV (pc := 54) (As := []) (rest := []) dX4_readStatement_54 cX4_61 (t_next zz.2.1 zz.px.le) (s2_81 _ _) rfl rfl (by decide) (Nat.le_refl _) (Nat.le_refl _) (Nat.le_of_ble_eq_true rfl) (Or.inl (fun r S' h => by obtain ⟨_, _, h, _⟩ := h; subst h; rfl)) (fun r S' hq _ _ => ?_)
          obtain ⟨I1, rfl, rfl, p1⟩ := hq
          have z0 := zz.go p1 (fun e q => by cases q)
          have z1 := z0.f10 (v := nI 3)
          refine Ex.aload_n (pc := 57) dX4_readStatement_57 rfl rfl ?_
          refine Ex.iload_n (pc := 58) dX4_readStatement_58 rfl rfl ?_
          refine Ex.putI (pc := 59) dX4_readStatement_59 fX4_33 (s2_81 _ _) (Or.inl rfl) ⟨rfl, rfl⟩ ?_
          refine Ex.mm (S' := St2 N n (pf I1 10 (nI 3)) L) rfl ?_
          refine Ex.aload_n (pc := 62) dX4_readStatement_62 rfl rfl ?_
          refine Ex.getR (pc := 63) dX4_readStatement_63 fX4_57 (s2_81 _ _) r2_81_2 ?_
          refine Ex.iload_n (pc := 66) dX4_readStatement_66 rfl rfl ?_
          refine Ex.callV (pc := 67) (As := [.int _]) (rest := []) dX4_readStatement_67 cX4_114 (tr_beg0 (k := 3) (by decide) (by decide)) (s2_82 _ _) rfl rfl (by decide) (Nat.le_refl _) (Nat.le_refl _) (Nat.le_of_ble_eq_true rfl) (Or.inl (fun r S' h => by obtain ⟨_, h⟩ := h; subst h; rfl)) (fun r S' hq _ _ => ?_)
          obtain ⟨rfl, rfl⟩ := hq
          refine Ex.iload_n (pc := 70) dX4_readStatement_70 rfl rfl ?_
          refine Ex.tableIn (pc := 71) (tgt := 159) (off := 88) dX4_readStatement_71 (by decide) (by decide) (by decide) (by decide) ?_
          refine Ex.aload_n (pc := 159) dX4_readStatement_159 rfl rfl ?_
          refine Ex.iconst (pc := 160) (v := 1) dX4_readStatement_160 rfl ?_
          refine Ex.iconst (pc := 161) (v := 4) dX4_readStatement_161 rfl ?_
          refine Ex.bipush (pc := 162) (v := 99) dX4_readStatement_162 rfl ?_
          refine Ex.callV (pc := 164) (As := [.int 1, .int 4, .int 99]) (rest := []) dX4_readStatement_164 cX4_117 (t_thing (q := 1) (w := 4) (hi := 99) z1 (by decide) (by decide) (by decide) (fun s _ => by have := of_decide_eq_false (show decide (6 ≤ pl.1 1) = false from hfu); omega)) (s2_81 _ _) rfl rfl (by decide) (Nat.le_refl _) (Nat.le_refl _) (Nat.le_of_ble_eq_true rfl) (Or.inl (fun r S' h => by obtain ⟨_, _, h, _⟩ := h; subst h; rfl)) (fun r S' hq _ _ => ?_)
          obtain ⟨I2, rfl, rfl, z2⟩ := hq
          refine Ex.goto (pc := 167) (tgt := 229) dX4_readStatement_167 (by decide) ?_
          refine Ex.aload_n (pc := 229) dX4_readStatement_229 rfl rfl ?_
          refine Ex.getR (pc := 230) dX4_readStatement_230 fX4_57 (s2_81 _ _) r2_81_2 ?_
          refine Ex.iload_n (pc := 233) dX4_readStatement_233 rfl rfl ?_
          refine Ex.callV (pc := 234) (As := [.int _]) (rest := []) dX4_readStatement_234 cX4_136 (tr_end0 (k := 3) (by decide) (by decide)) (s2_82 _ _) rfl rfl (by decide) (Nat.le_refl _) (Nat.le_refl _) (Nat.le_of_ble_eq_true rfl) (Or.inl (fun r S' h => by obtain ⟨_, h⟩ := h; subst h; rfl)) (fun r S' hq _ _ => ?_)
          obtain ⟨rfl, rfl⟩ := hq
          refine kend _ ?_
          unfold bodF
          rw [if_neg (show ¬ 3 = 0 by decide), if_pos rfl]
          exact z2
        · skip
          refine Ex.aload_n (pc := 53) dX4_readStatement_53 rfl rfl ?_
          refine Ex.callV (pc := 54) (As := []) (rest := []) dX4_readStatement_54 cX4_61 (t_next zz.2.1 zz.px.le) (s2_81 _ _) rfl rfl (by decide) (Nat.le_refl _) (Nat.le_refl _) (Nat.le_of_ble_eq_true rfl) (Or.inl (fun r S' h => by obtain ⟨_, _, h, _⟩ := h; subst h; rfl)) (fun r S' hq _ _ => ?_)
          obtain ⟨I1, rfl, rfl, p1⟩ := hq
          have z0 := zz.go p1 (fun e q => by cases q)
          have z1 := z0.f10 (v := nI 6)
          refine Ex.aload_n (pc := 57) dX4_readStatement_57 rfl rfl ?_
          refine Ex.iload_n (pc := 58) dX4_readStatement_58 rfl rfl ?_
          refine Ex.putI (pc := 59) dX4_readStatement_59 fX4_33 (s2_81 _ _) (Or.inl rfl) ⟨rfl, rfl⟩ ?_
          refine Ex.mm (S' := St2 N n (pf I1 10 (nI 6)) L) rfl ?_
          refine Ex.aload_n (pc := 62) dX4_readStatement_62 rfl rfl ?_
          refine Ex.getR (pc := 63) dX4_readStatement_63 fX4_57 (s2_81 _ _) r2_81_2 ?_
          refine Ex.iload_n (pc := 66) dX4_readStatement_66 rfl rfl ?_
          refine Ex.callV (pc := 67) (As := [.int _]) (rest := []) dX4_readStatement_67 cX4_114 (tr_beg0 (k := 6) (by decide) (by decide)) (s2_82 _ _) rfl rfl (by decide) (Nat.le_refl _) (Nat.le_refl _) (Nat.le_of_ble_eq_true rfl) (Or.inl (fun r S' h => by obtain ⟨_, h⟩ := h; subst h; rfl)) (fun r S' hq _ _ => ?_)
          obtain ⟨rfl, rfl⟩ := hq
          refine Ex.iload_n (pc := 70) dX4_readStatement_70 rfl rfl ?_
          refine Ex.tableIn (pc := 71) (tgt := 170) (off := 99) dX4_readStatement_71 (by decide) (by decide) (by decide) (by decide) ?_
          refine Ex.aload_n (pc := 170) dX4_readStatement_170 rfl rfl ?_
          refine Ex.iconst (pc := 171) (v := 2) dX4_readStatement_171 rfl ?_
          refine Ex.bipush (pc := 172) (v := 7) dX4_readStatement_172 rfl ?_
          refine Ex.bipush (pc := 174) (v := 9) dX4_readStatement_174 rfl ?_
          refine Ex.callV (pc := 176) (As := [.int 2, .int 7, .int 9]) (rest := []) dX4_readStatement_176 cX4_117 (t_thing (q := 2) (w := 7) (hi := 9) z1 (by decide) (by decide) (by decide) (fun s _ => by have := of_decide_eq_false (show decide (6 ≤ pl.1 2) = false from hfu); omega)) (s2_81 _ _) rfl rfl (by decide) (Nat.le_refl _) (Nat.le_refl _) (Nat.le_of_ble_eq_true rfl) (Or.inl (fun r S' h => by obtain ⟨_, _, h, _⟩ := h; subst h; rfl)) (fun r S' hq _ _ => ?_)
          obtain ⟨I2, rfl, rfl, z2⟩ := hq
          refine Ex.goto (pc := 179) (tgt := 229) dX4_readStatement_179 (by decide) ?_
          refine Ex.aload_n (pc := 229) dX4_readStatement_229 rfl rfl ?_
          refine Ex.getR (pc := 230) dX4_readStatement_230 fX4_57 (s2_81 _ _) r2_81_2 ?_
          refine Ex.iload_n (pc := 233) dX4_readStatement_233 rfl rfl ?_
          refine Ex.callV (pc := 234) (As := [.int _]) (rest := []) dX4_readStatement_234 cX4_136 (tr_end0 (k := 6) (by decide) (by decide)) (s2_82 _ _) rfl rfl (by decide) (Nat.le_refl _) (Nat.le_refl _) (Nat.le_of_ble_eq_true rfl) (Or.inl (fun r S' h => by obtain ⟨_, h⟩ := h; subst h; rfl)) (fun r S' hq _ _ => ?_)
          obtain ⟨rfl, rfl⟩ := hq
          refine kend _ ?_
          unfold bodF
          rw [if_neg (show ¬ 6 = 0 by decide), if_neg (show ¬ 6 = 3 by decide), if_pos rfl]
          exact z2
        · skip
          refine Ex.aload_n (pc := 53) dX4_readStatement_53 rfl rfl ?_
          refine Ex.callV (pc := 54) (As := []) (rest := []) dX4_readStatement_54 cX4_61 (t_next zz.2.1 zz.px.le) (s2_81 _ _) rfl rfl (by decide) (Nat.le_refl _) (Nat.le_refl _) (Nat.le_of_ble_eq_true rfl) (Or.inl (fun r S' h => by obtain ⟨_, _, h, _⟩ := h; subst h; rfl)) (fun r S' hq _ _ => ?_)
          obtain ⟨I1, rfl, rfl, p1⟩ := hq
          have z0 := zz.go p1 (fun e q => by cases q)
          obtain ⟨J, hJ⟩ : ∃ z, z = va_up (pf I1 10 (nI 9)) 87 (upd (I1 87) (9 - 9) (I1 82 8)) := ⟨_, rfl⟩
          obtain ⟨jB, j10, jX⟩ := rule_j z0 hJ
          obtain ⟨l1, l2, -⟩ := t_lvl (N := N) (L := L) jB j10 (by decide) 7 (by decide)
          refine Ex.aload_n (pc := 57) dX4_readStatement_57 rfl rfl ?_
          refine Ex.iload_n (pc := 58) dX4_readStatement_58 rfl rfl ?_
          refine Ex.putI (pc := 59) dX4_readStatement_59 fX4_33 (s2_81 _ _) (Or.inl rfl) ⟨rfl, rfl⟩ ?_
          refine Ex.mm (S' := St2 N n (pf I1 10 (nI 9)) L) rfl ?_
          refine Ex.aload_n (pc := 62) dX4_readStatement_62 rfl rfl ?_
          refine Ex.getR (pc := 63) dX4_readStatement_63 fX4_57 (s2_81 _ _) r2_81_2 ?_
          refine Ex.iload_n (pc := 66) dX4_readStatement_66 rfl rfl ?_
          refine Ex.callV (pc := 67) (As := [.int _]) (rest := []) dX4_readStatement_67 cX4_114 (tr_begR (k := 9) (by decide) (by decide)) (s2_82 _ _) rfl rfl (by decide) (Nat.le_refl _) (Nat.le_refl _) (Nat.le_of_ble_eq_true rfl) (Or.inl (fun r S' h => by obtain ⟨_, h⟩ := h; subst h; rfl)) (fun r S' hq _ _ => ?_)
          obtain ⟨rfl, rfl⟩ := hq
          refine Ex.mm (S' := St2 N n J L) (by rw [hJ]; rfl) ?_
          refine Ex.iload_n (pc := 70) dX4_readStatement_70 rfl rfl ?_
          refine Ex.tableIn (pc := 71) (tgt := 224) (off := 153) dX4_readStatement_71 (by decide) (by decide) (by decide) (by decide) ?_
          refine Ex.aload_n (pc := 224) dX4_readStatement_224 rfl rfl ?_
          refine Ex.iconst (pc := 225) (v := 0) dX4_readStatement_225 rfl ?_
          refine Ex.callV (pc := 226) (As := [.int 0]) (rest := []) dX4_readStatement_226 cX4_133 (l1 J 0 _ jX) (s2_81 _ _) rfl rfl (by decide) (Nat.le_refl _) (Nat.le_refl _) (Nat.le_of_ble_eq_true rfl) (Or.inl (fun r S' h => by obtain ⟨_, _, h, _⟩ := h; subst h; rfl)) (fun r S' hq _ _ => ?_)
          obtain ⟨I2, rfl, rfl, p2⟩ := hq
          refine Ex.aload_n (pc := 229) dX4_readStatement_229 rfl rfl ?_
          refine Ex.getR (pc := 230) dX4_readStatement_230 fX4_57 (s2_81 _ _) r2_81_2 ?_
          refine Ex.iload_n (pc := 233) dX4_readStatement_233 rfl rfl ?_
          refine Ex.callV (pc := 234) (As := [.int _]) (rest := []) dX4_readStatement_234 cX4_136 (tr_endR (k := 9) (by decide) (by decide)) (s2_82 _ _) rfl rfl (by decide) (Nat.le_refl _) (Nat.le_refl _) (Nat.le_of_ble_eq_true rfl) (Or.inl (fun r S' h => by obtain ⟨_, h⟩ := h; subst h; rfl)) (fun r S' hq _ _ => ?_)
          obtain ⟨rfl, rfl⟩ := hq
          refine kend _ ?_
          have p3 : Px n J I2 0 false (ruF tb n 9 (nx tb n (.ok (t, c)))) := by
            unfold ruF
            rw [if_neg (show ¬ (9 = 11 ∨ 9 = 12) by decide)]
            exact p2
          have z3 := rule_z z0 hJ (by decide) (by decide) p3
          unfold bodF
          rw [if_neg (show ¬ 9 = 0 by decide), if_neg (show ¬ 9 = 3 by decide), if_neg (show ¬ 9 = 6 by decide), if_neg (show ¬ 9 = 14 by decide), if_neg (show ¬ 9 = 15 by decide)]
          exact z3
        · skip
          refine Ex.aload_n (pc := 53) dX4_readStatement_53 rfl rfl ?_
          refine Ex.callV (pc := 54) (As := []) (rest := []) dX4_readStatement_54 cX4_61 (t_next zz.2.1 zz.px.le) (s2_81 _ _) rfl rfl (by decide) (Nat.le_refl _) (Nat.le_refl _) (Nat.le_of_ble_eq_true rfl) (Or.inl (fun r S' h => by obtain ⟨_, _, h, _⟩ := h; subst h; rfl)) (fun r S' hq _ _ => ?_)
          obtain ⟨I1, rfl, rfl, p1⟩ := hq
          have z0 := zz.go p1 (fun e q => by cases q)
          obtain ⟨J, hJ⟩ : ∃ z, z = va_up (pf I1 10 (nI 10)) 87 (upd (I1 87) (10 - 9) (I1 82 8)) := ⟨_, rfl⟩
          obtain ⟨jB, j10, jX⟩ := rule_j z0 hJ
          obtain ⟨l1, l2, -⟩ := t_lvl (N := N) (L := L) jB j10 (by decide) 7 (by decide)
          refine Ex.aload_n (pc := 57) dX4_readStatement_57 rfl rfl ?_
          refine Ex.iload_n (pc := 58) dX4_readStatement_58 rfl rfl ?_
          refine Ex.putI (pc := 59) dX4_readStatement_59 fX4_33 (s2_81 _ _) (Or.inl rfl) ⟨rfl, rfl⟩ ?_
          refine Ex.mm (S' := St2 N n (pf I1 10 (nI 10)) L) rfl ?_
          refine Ex.aload_n (pc := 62) dX4_readStatement_62 rfl rfl ?_
          refine Ex.getR (pc := 63) dX4_readStatement_63 fX4_57 (s2_81 _ _) r2_81_2 ?_
          refine Ex.iload_n (pc := 66) dX4_readStatement_66 rfl rfl ?_
          refine Ex.callV (pc := 67) (As := [.int _]) (rest := []) dX4_readStatement_67 cX4_114 (tr_begR (k := 10) (by decide) (by decide)) (s2_82 _ _) rfl rfl (by decide) (Nat.le_refl _) (Nat.le_refl _) (Nat.le_of_ble_eq_true rfl) (Or.inl (fun r S' h => by obtain ⟨_, h⟩ := h; subst h; rfl)) (fun r S' hq _ _ => ?_)
          obtain ⟨rfl, rfl⟩ := hq
          refine Ex.mm (S' := St2 N n J L) (by rw [hJ]; rfl) ?_
          refine Ex.iload_n (pc := 70) dX4_readStatement_70 rfl rfl ?_
          refine Ex.tableIn (pc := 71) (tgt := 224) (off := 153) dX4_readStatement_71 (by decide) (by decide) (by decide) (by decide) ?_
          refine Ex.aload_n (pc := 224) dX4_readStatement_224 rfl rfl ?_
          refine Ex.iconst (pc := 225) (v := 0) dX4_readStatement_225 rfl ?_
          refine Ex.callV (pc := 226) (As := [.int 0]) (rest := []) dX4_readStatement_226 cX4_133 (l1 J 0 _ jX) (s2_81 _ _) rfl rfl (by decide) (Nat.le_refl _) (Nat.le_refl _) (Nat.le_of_ble_eq_true rfl) (Or.inl (fun r S' h => by obtain ⟨_, _, h, _⟩ := h; subst h; rfl)) (fun r S' hq _ _ => ?_)
          obtain ⟨I2, rfl, rfl, p2⟩ := hq
          refine Ex.aload_n (pc := 229) dX4_readStatement_229 rfl rfl ?_
          refine Ex.getR (pc := 230) dX4_readStatement_230 fX4_57 (s2_81 _ _) r2_81_2 ?_
          refine Ex.iload_n (pc := 233) dX4_readStatement_233 rfl rfl ?_
          refine Ex.callV (pc := 234) (As := [.int _]) (rest := []) dX4_readStatement_234 cX4_136 (tr_endR (k := 10) (by decide) (by decide)) (s2_82 _ _) rfl rfl (by decide) (Nat.le_refl _) (Nat.le_refl _) (Nat.le_of_ble_eq_true rfl) (Or.inl (fun r S' h => by obtain ⟨_, h⟩ := h; subst h; rfl)) (fun r S' hq _ _ => ?_)
          obtain ⟨rfl, rfl⟩ := hq
          refine kend _ ?_
          have p3 : Px n J I2 0 false (ruF tb n 10 (nx tb n (.ok (t, c)))) := by
            unfold ruF
            rw [if_neg (show ¬ (10 = 11 ∨ 10 = 12) by decide)]
            exact p2
          have z3 := rule_z z0 hJ (by decide) (by decide) p3
          unfold bodF
          rw [if_neg (show ¬ 10 = 0 by decide), if_neg (show ¬ 10 = 3 by decide), if_neg (show ¬ 10 = 6 by decide), if_neg (show ¬ 10 = 14 by decide), if_neg (show ¬ 10 = 15 by decide)]
          exact z3
        · skip
          refine Ex.aload_n (pc := 53) dX4_readStatement_53 rfl rfl ?_
          refine Ex.callV (pc := 54) (As := []) (rest := []) dX4_readStatement_54 cX4_61 (t_next zz.2.1 zz.px.le) (s2_81 _ _) rfl rfl (by decide) (Nat.le_refl _) (Nat.le_refl _) (Nat.le_of_ble_eq_true rfl) (Or.inl (fun r S' h => by obtain ⟨_, _, h, _⟩ := h; subst h; rfl)) (fun r S' hq _ _ => ?_)
          obtain ⟨I1, rfl, rfl, p1⟩ := hq
          have z0 := zz.go p1 (fun e q => by cases q)
          obtain ⟨J, hJ⟩ : ∃ z, z = va_up (pf I1 10 (nI 11)) 87 (upd (I1 87) (11 - 9) (I1 82 8)) := ⟨_, rfl⟩
          obtain ⟨jB, j10, jX⟩ := rule_j z0 hJ
          obtain ⟨l1, l2, -⟩ := t_lvl (N := N) (L := L) jB j10 (by decide) 7 (by decide)
          refine Ex.aload_n (pc := 57) dX4_readStatement_57 rfl rfl ?_
          refine Ex.iload_n (pc := 58) dX4_readStatement_58 rfl rfl ?_
          refine Ex.putI (pc := 59) dX4_readStatement_59 fX4_33 (s2_81 _ _) (Or.inl rfl) ⟨rfl, rfl⟩ ?_
          refine Ex.mm (S' := St2 N n (pf I1 10 (nI 11)) L) rfl ?_
          refine Ex.aload_n (pc := 62) dX4_readStatement_62 rfl rfl ?_
          refine Ex.getR (pc := 63) dX4_readStatement_63 fX4_57 (s2_81 _ _) r2_81_2 ?_
          refine Ex.iload_n (pc := 66) dX4_readStatement_66 rfl rfl ?_
          refine Ex.callV (pc := 67) (As := [.int _]) (rest := []) dX4_readStatement_67 cX4_114 (tr_begR (k := 11) (by decide) (by decide)) (s2_82 _ _) rfl rfl (by decide) (Nat.le_refl _) (Nat.le_refl _) (Nat.le_of_ble_eq_true rfl) (Or.inl (fun r S' h => by obtain ⟨_, h⟩ := h; subst h; rfl)) (fun r S' hq _ _ => ?_)
          obtain ⟨rfl, rfl⟩ := hq
          refine Ex.mm (S' := St2 N n J L) (by rw [hJ]; rfl) ?_
          refine Ex.iload_n (pc := 70) dX4_readStatement_70 rfl rfl ?_
          refine Ex.tableIn (pc := 71) (tgt := 216) (off := 145) dX4_readStatement_71 (by decide) (by decide) (by decide) (by decide) ?_
          refine Ex.aload_n (pc := 216) dX4_readStatement_216 rfl rfl ?_
          refine Ex.iconst (pc := 217) (v := 0) dX4_readStatement_217 rfl ?_
          refine Ex.callV (pc := 218) (As := [.int 0]) (rest := []) dX4_readStatement_218 cX4_130 (l2 J 0 _ jX) (s2_81 _ _) rfl rfl (by decide) (Nat.le_refl _) (Nat.le_refl _) (Nat.le_of_ble_eq_true rfl) (Or.inl (fun r S' h => by obtain ⟨_, _, h, _⟩ := h; subst h; rfl)) (fun r S' hq _ _ => ?_)
          obtain ⟨I2, rfl, rfl, p2⟩ := hq
          refine Ex.goto (pc := 221) (tgt := 229) dX4_readStatement_221 (by decide) ?_
          refine Ex.aload_n (pc := 229) dX4_readStatement_229 rfl rfl ?_
          refine Ex.getR (pc := 230) dX4_readStatement_230 fX4_57 (s2_81 _ _) r2_81_2 ?_
          refine Ex.iload_n (pc := 233) dX4_readStatement_233 rfl rfl ?_
          refine Ex.callV (pc := 234) (As := [.int _]) (rest := []) dX4_readStatement_234 cX4_136 (tr_endR (k := 11) (by decide) (by decide)) (s2_82 _ _) rfl rfl (by decide) (Nat.le_refl _) (Nat.le_refl _) (Nat.le_of_ble_eq_true rfl) (Or.inl (fun r S' h => by obtain ⟨_, h⟩ := h; subst h; rfl)) (fun r S' hq _ _ => ?_)
          obtain ⟨rfl, rfl⟩ := hq
          refine kend _ ?_
          have p3 : Px n J I2 0 false (ruF tb n 11 (nx tb n (.ok (t, c)))) := by
            unfold ruF
            rw [if_pos (show (11 = 11 ∨ 11 = 12) by decide)]
            exact p2
          have z3 := rule_z z0 hJ (by decide) (by decide) p3
          unfold bodF
          rw [if_neg (show ¬ 11 = 0 by decide), if_neg (show ¬ 11 = 3 by decide), if_neg (show ¬ 11 = 6 by decide), if_neg (show ¬ 11 = 14 by decide), if_neg (show ¬ 11 = 15 by decide)]
          exact z3
        · skip
          refine Ex.aload_n (pc := 53) dX4_readStatement_53 rfl rfl ?_
          refine Ex.callV (pc := 54) (As := []) (rest := []) dX4_readStatement_54 cX4_61 (t_next zz.2.1 zz.px.le) (s2_81 _ _) rfl rfl (by decide) (Nat.le_refl _) (Nat.le_refl _) (Nat.le_of_ble_eq_true rfl) (Or.inl (fun r S' h => by obtain ⟨_, _, h, _⟩ := h; subst h; rfl)) (fun r S' hq _ _ => ?_)
          obtain ⟨I1, rfl, rfl, p1⟩ := hq
          have z0 := zz.go p1 (fun e q => by cases q)
          obtain ⟨J, hJ⟩ : ∃ z, z = va_up (pf I1 10 (nI 12)) 87 (upd (I1 87) (12 - 9) (I1 82 8)) := ⟨_, rfl⟩
          obtain ⟨jB, j10, jX⟩ := rule_j z0 hJ
          obtain ⟨l1, l2, -⟩ := t_lvl (N := N) (L := L) jB j10 (by decide) 7 (by decide)
          refine Ex.aload_n (pc := 57) dX4_readStatement_57 rfl rfl ?_
          refine Ex.iload_n (pc := 58) dX4_readStatement_58 rfl rfl ?_
          refine Ex.putI (pc := 59) dX4_readStatement_59 fX4_33 (s2_81 _ _) (Or.inl rfl) ⟨rfl, rfl⟩ ?_
          refine Ex.mm (S' := St2 N n (pf I1 10 (nI 12)) L) rfl ?_
          refine Ex.aload_n (pc := 62) dX4_readStatement_62 rfl rfl ?_
          refine Ex.getR (pc := 63) dX4_readStatement_63 fX4_57 (s2_81 _ _) r2_81_2 ?_
          refine Ex.iload_n (pc := 66) dX4_readStatement_66 rfl rfl ?_
          refine Ex.callV (pc := 67) (As := [.int _]) (rest := []) dX4_readStatement_67 cX4_114 (tr_begR (k := 12) (by decide) (by decide)) (s2_82 _ _) rfl rfl (by decide) (Nat.le_refl _) (Nat.le_refl _) (Nat.le_of_ble_eq_true rfl) (Or.inl (fun r S' h => by obtain ⟨_, h⟩ := h; subst h; rfl)) (fun r S' hq _ _ => ?_)
          obtain ⟨rfl, rfl⟩ := hq
          refine Ex.mm (S' := St2 N n J L) (by rw [hJ]; rfl) ?_
          refine Ex.iload_n (pc := 70) dX4_readStatement_70 rfl rfl ?_
          refine Ex.tableIn (pc := 71) (tgt := 216) (off := 145) dX4_readStatement_71 (by decide) (by decide) (by decide) (by decide) ?_
          refine Ex.aload_n (pc := 216) dX4_readStatement_216 rfl rfl ?_
          refine Ex.iconst (pc := 217) (v := 0) dX4_readStatement_217 rfl ?_
          refine Ex.callV (pc := 218) (As := [.int 0]) (rest := []) dX4_readStatement_218 cX4_130 (l2 J 0 _ jX) (s2_81 _ _) rfl rfl (by decide) (Nat.le_refl _) (Nat.le_refl _) (Nat.le_of_ble_eq_true rfl) (Or.inl (fun r S' h => by obtain ⟨_, _, h, _⟩ := h; subst h; rfl)) (fun r S' hq _ _ => ?_)
          obtain ⟨I2, rfl, rfl, p2⟩ := hq
          refine Ex.goto (pc := 221) (tgt := 229) dX4_readStatement_221 (by decide) ?_
          refine Ex.aload_n (pc := 229) dX4_readStatement_229 rfl rfl ?_
          refine Ex.getR (pc := 230) dX4_readStatement_230 fX4_57 (s2_81 _ _) r2_81_2 ?_
          refine Ex.iload_n (pc := 233) dX4_readStatement_233 rfl rfl ?_
          refine Ex.callV (pc := 234) (As := [.int _]) (rest := []) dX4_readStatement_234 cX4_136 (tr_endR (k := 12) (by decide) (by decide)) (s2_82 _ _) rfl rfl (by decide) (Nat.le_refl _) (Nat.le_refl _) (Nat.le_of_ble_eq_true rfl) (Or.inl (fun r S' h => by obtain ⟨_, h⟩ := h; subst h; rfl)) (fun r S' hq _ _ => ?_)
          obtain ⟨rfl, rfl⟩ := hq
          refine kend _ ?_
          have p3 : Px n J I2 0 false (ruF tb n 12 (nx tb n (.ok (t, c)))) := by
            unfold ruF
            rw [if_pos (show (12 = 11 ∨ 12 = 12) by decide)]
            exact p2
          have z3 := rule_z z0 hJ (by decide) (by decide) p3
          unfold bodF
          rw [if_neg (show ¬ 12 = 0 by decide), if_neg (show ¬ 12 = 3 by decide), if_neg (show ¬ 12 = 6 by decide), if_neg (show ¬ 12 = 14 by decide), if_neg (show ¬ 12 = 15 by decide)]
          exact z3
        · skip
          refine Ex.aload_n (pc := 53) dX4_readStatement_53 rfl rfl ?_
          refine Ex.callV (pc := 54) (As := []) (rest := []) dX4_readStatement_54 cX4_61 (t_next zz.2.1 zz.px.le) (s2_81 _ _) rfl rfl (by decide) (Nat.le_refl _) (Nat.le_refl _) (Nat.le_of_ble_eq_true rfl) (Or.inl (fun r S' h => by obtain ⟨_, _, h, _⟩ := h; subst h; rfl)) (fun r S' hq _ _ => ?_)
          obtain ⟨I1, rfl, rfl, p1⟩ := hq
          have z0 := zz.go p1 (fun e q => by cases q)
          obtain ⟨J, hJ⟩ : ∃ z, z = va_up (pf I1 10 (nI 13)) 87 (upd (I1 87) (13 - 9) (I1 82 8)) := ⟨_, rfl⟩
          obtain ⟨jB, j10, jX⟩ := rule_j z0 hJ
          obtain ⟨l1, l2, -⟩ := t_lvl (N := N) (L := L) jB j10 (by decide) 7 (by decide)
          refine Ex.aload_n (pc := 57) dX4_readStatement_57 rfl rfl ?_
          refine Ex.iload_n (pc := 58) dX4_readStatement_58 rfl rfl ?_
          refine Ex.putI (pc := 59) dX4_readStatement_59 fX4_33 (s2_81 _ _) (Or.inl rfl) ⟨rfl, rfl⟩ ?_
          refine Ex.mm (S' := St2 N n (pf I1 10 (nI 13)) L) rfl ?_
          refine Ex.aload_n (pc := 62) dX4_readStatement_62 rfl rfl ?_
          refine Ex.getR (pc := 63) dX4_readStatement_63 fX4_57 (s2_81 _ _) r2_81_2 ?_
          refine Ex.iload_n (pc := 66) dX4_readStatement_66 rfl rfl ?_
          refine Ex.callV (pc := 67) (As := [.int _]) (rest := []) dX4_readStatement_67 cX4_114 (tr_begR (k := 13) (by decide) (by decide)) (s2_82 _ _) rfl rfl (by decide) (Nat.le_refl _) (Nat.le_refl _) (Nat.le_of_ble_eq_true rfl) (Or.inl (fun r S' h => by obtain ⟨_, h⟩ := h; subst h; rfl)) (fun r S' hq _ _ => ?_)
          obtain ⟨rfl, rfl⟩ := hq
          refine Ex.mm (S' := St2 N n J L) (by rw [hJ]; rfl) ?_
          refine Ex.iload_n (pc := 70) dX4_readStatement_70 rfl rfl ?_
          refine Ex.tableIn (pc := 71) (tgt := 224) (off := 153) dX4_readStatement_71 (by decide) (by decide) (by decide) (by decide) ?_
          refine Ex.aload_n (pc := 224) dX4_readStatement_224 rfl rfl ?_
          refine Ex.iconst (pc := 225) (v := 0) dX4_readStatement_225 rfl ?_
          refine Ex.callV (pc := 226) (As := [.int 0]) (rest := []) dX4_readStatement_226 cX4_133 (l1 J 0 _ jX) (s2_81 _ _) rfl rfl (by decide) (Nat.le_refl _) (Nat.le_refl _) (Nat.le_of_ble_eq_true rfl) (Or.inl (fun r S' h => by obtain ⟨_, _, h, _⟩ := h; subst h; rfl)) (fun r S' hq _ _ => ?_)
          obtain ⟨I2, rfl, rfl, p2⟩ := hq
          refine Ex.aload_n (pc := 229) dX4_readStatement_229 rfl rfl ?_
          refine Ex.getR (pc := 230) dX4_readStatement_230 fX4_57 (s2_81 _ _) r2_81_2 ?_
          refine Ex.iload_n (pc := 233) dX4_readStatement_233 rfl rfl ?_
          refine Ex.callV (pc := 234) (As := [.int _]) (rest := []) dX4_readStatement_234 cX4_136 (tr_endR (k := 13) (by decide) (by decide)) (s2_82 _ _) rfl rfl (by decide) (Nat.le_refl _) (Nat.le_refl _) (Nat.le_of_ble_eq_true rfl) (Or.inl (fun r S' h => by obtain ⟨_, h⟩ := h; subst h; rfl)) (fun r S' hq _ _ => ?_)
          obtain ⟨rfl, rfl⟩ := hq
          refine kend _ ?_
          have p3 : Px n J I2 0 false (ruF tb n 13 (nx tb n (.ok (t, c)))) := by
            unfold ruF
            rw [if_neg (show ¬ (13 = 11 ∨ 13 = 12) by decide)]
            exact p2
          have z3 := rule_z z0 hJ (by decide) (by decide) p3
          unfold bodF
          rw [if_neg (show ¬ 13 = 0 by decide), if_neg (show ¬ 13 = 3 by decide), if_neg (show ¬ 13 = 6 by decide), if_neg (show ¬ 13 = 14 by decide), if_neg (show ¬ 13 = 15 by decide)]
          exact z3
        · skip
          refine Ex.aload_n (pc := 53) dX4_readStatement_53 rfl rfl ?_
          refine Ex.callV (pc := 54) (As := []) (rest := []) dX4_readStatement_54 cX4_61 (t_next zz.2.1 zz.px.le) (s2_81 _ _) rfl rfl (by decide) (Nat.le_refl _) (Nat.le_refl _) (Nat.le_of_ble_eq_true rfl) (Or.inl (fun r S' h => by obtain ⟨_, _, h, _⟩ := h; subst h; rfl)) (fun r S' hq _ _ => ?_)
          obtain ⟨I1, rfl, rfl, p1⟩ := hq
          have z0 := zz.go p1 (fun e q => by cases q)
          have z1 := z0.f10 (v := nI 14)
          refine Ex.aload_n (pc := 57) dX4_readStatement_57 rfl rfl ?_
          refine Ex.iload_n (pc := 58) dX4_readStatement_58 rfl rfl ?_
          refine Ex.putI (pc := 59) dX4_readStatement_59 fX4_33 (s2_81 _ _) (Or.inl rfl) ⟨rfl, rfl⟩ ?_
          refine Ex.mm (S' := St2 N n (pf I1 10 (nI 14)) L) rfl ?_
          refine Ex.aload_n (pc := 62) dX4_readStatement_62 rfl rfl ?_
          refine Ex.getR (pc := 63) dX4_readStatement_63 fX4_57 (s2_81 _ _) r2_81_2 ?_
          refine Ex.iload_n (pc := 66) dX4_readStatement_66 rfl rfl ?_
          refine Ex.callV (pc := 67) (As := [.int _]) (rest := []) dX4_readStatement_67 cX4_114 (tr_beg0 (k := 14) (by decide) (by decide)) (s2_82 _ _) rfl rfl (by decide) (Nat.le_refl _) (Nat.le_refl _) (Nat.le_of_ble_eq_true rfl) (Or.inl (fun r S' h => by obtain ⟨_, h⟩ := h; subst h; rfl)) (fun r S' hq _ _ => ?_)
          obtain ⟨rfl, rfl⟩ := hq
          refine Ex.iload_n (pc := 70) dX4_readStatement_70 rfl rfl ?_
          refine Ex.tableIn (pc := 71) (tgt := 182) (off := 111) dX4_readStatement_71 (by decide) (by decide) (by decide) (by decide) ?_
          refine Ex.aload_n (pc := 182) dX4_readStatement_182 rfl rfl ?_
          refine Ex.getR (pc := 183) dX4_readStatement_183 fX4_57 (s2_81 _ _) r2_81_2 ?_
          refine Ex.aload_n (pc := 186) dX4_readStatement_186 rfl rfl ?_
          refine Ex.iconst (pc := 187) (v := 0) dX4_readStatement_187 rfl ?_
          refine Ex.bipush (pc := 188) (v := 99) dX4_readStatement_188 rfl ?_
          refine Ex.callV (pc := 190) (As := [.int 0, .int 99]) (rest := [.ref 82]) dX4_readStatement_190 cX4_121 (t_tkV (lo := 0) (hi := 99) z1.2.1 z1.px (by decide) (by decide)) (s2_81 _ _) rfl rfl (by decide) (Nat.le_refl _) (Nat.le_refl _) (Nat.le_of_ble_eq_true rfl) (Or.inl (fun r S' h => by obtain ⟨_, _, _, h⟩ := h; subst h; rfl)) (fun r S' hq _ _ => ?_)
          obtain ⟨x2, I2, ⟨rfl, p2, v2⟩, rfl⟩ := hq
          have z2 := z1.go p2 (fun e q => by rw [q]; rfl)
          refine Ex.putI (pc := 193) dX4_readStatement_193 fX4_124 (s2_82 _ _) (Or.inl rfl) ⟨rfl, rfl⟩ ?_
          refine Ex.goto (pc := 196) (tgt := 229) dX4_readStatement_196 (by decide) ?_
          obtain ⟨J, hJ⟩ : ∃ z, z = va_up I2 82 (upd (I2 82) 4 x2) := ⟨_, rfl⟩
          rw [← hJ]
          have jS : Sm [82] I2 J := by rw [hJ]; exact Sm.rf.up (by decide)
          have zJ : Pz tb n J J (tkV tb n 0 99 (nx tb n (.ok (t, c)))) (plW pl (numR (nx tb n (.ok (t, c))))) := by
            rw [hJ]
            refine z2.f82 (by omega) (fun s e q => ?_)
            rw [← hJ]
            obtain ⟨p1, p2, p3, p4⟩ := q
            have hx := v2 (tkV_ok e).1
            refine ⟨fun i hi => ?_, ?_, ?_, fun i hi => ?_⟩
            · rw [jS 83 (by decide), jS 84 (by decide), jS 85 (by decide), jS 86 (by decide)]; exact p1 i hi
            · rw [hJ, va_up_s, upd_s, hx]; rfl
            · rw [hJ, va_up_s, upd_n (by decide)]; exact p3
            · rw [jS 87 (by decide), jS 88 (by decide)]; exact p4 i hi
          refine Ex.aload_n (pc := 229) dX4_readStatement_229 rfl rfl ?_
          refine Ex.getR (pc := 230) dX4_readStatement_230 fX4_57 (s2_81 _ _) r2_81_2 ?_
          refine Ex.iload_n (pc := 233) dX4_readStatement_233 rfl rfl ?_
          refine Ex.callV (pc := 234) (As := [.int _]) (rest := []) dX4_readStatement_234 cX4_136 (tr_end0 (k := 14) (by decide) (by decide)) (s2_82 _ _) rfl rfl (by decide) (Nat.le_refl _) (Nat.le_refl _) (Nat.le_of_ble_eq_true rfl) (Or.inl (fun r S' h => by obtain ⟨_, h⟩ := h; subst h; rfl)) (fun r S' hq _ _ => ?_)
          obtain ⟨rfl, rfl⟩ := hq
          refine kend _ ?_
          unfold bodF
          rw [if_neg (show ¬ 14 = 0 by decide), if_neg (show ¬ 14 = 3 by decide), if_neg (show ¬ 14 = 6 by decide), if_pos rfl]
          exact ⟨⟨z2.1.1.tr jS (fun _ q => q) (by decide), by rw [hJ, va_up_s, upd_n (by decide)]; exact z2.1.2⟩, zJ.2⟩
        · skip
          refine Ex.aload_n (pc := 53) dX4_readStatement_53 rfl rfl ?_
          refine Ex.callV (pc := 54) (As := []) (rest := []) dX4_readStatement_54 cX4_61 (t_next zz.2.1 zz.px.le) (s2_81 _ _) rfl rfl (by decide) (Nat.le_refl _) (Nat.le_refl _) (Nat.le_of_ble_eq_true rfl) (Or.inl (fun r S' h => by obtain ⟨_, _, h, _⟩ := h; subst h; rfl)) (fun r S' hq _ _ => ?_)
          obtain ⟨I1, rfl, rfl, p1⟩ := hq
          have z0 := zz.go p1 (fun e q => by cases q)
          have z1 := z0.f10 (v := nI 15)
          refine Ex.aload_n (pc := 57) dX4_readStatement_57 rfl rfl ?_
          refine Ex.iload_n (pc := 58) dX4_readStatement_58 rfl rfl ?_
          refine Ex.putI (pc := 59) dX4_readStatement_59 fX4_33 (s2_81 _ _) (Or.inl rfl) ⟨rfl, rfl⟩ ?_
          refine Ex.mm (S' := St2 N n (pf I1 10 (nI 15)) L) rfl ?_
          refine Ex.aload_n (pc := 62) dX4_readStatement_62 rfl rfl ?_
          refine Ex.getR (pc := 63) dX4_readStatement_63 fX4_57 (s2_81 _ _) r2_81_2 ?_
          refine Ex.iload_n (pc := 66) dX4_readStatement_66 rfl rfl ?_
          refine Ex.callV (pc := 67) (As := [.int _]) (rest := []) dX4_readStatement_67 cX4_114 (tr_beg0 (k := 15) (by decide) (by decide)) (s2_82 _ _) rfl rfl (by decide) (Nat.le_refl _) (Nat.le_refl _) (Nat.le_of_ble_eq_true rfl) (Or.inl (fun r S' h => by obtain ⟨_, h⟩ := h; subst h; rfl)) (fun r S' hq _ _ => ?_)
          obtain ⟨rfl, rfl⟩ := hq
          refine Ex.iload_n (pc := 70) dX4_readStatement_70 rfl rfl ?_
          refine Ex.tableIn (pc := 71) (tgt := 199) (off := 128) dX4_readStatement_71 (by decide) (by decide) (by decide) (by decide) ?_
          refine Ex.aload_n (pc := 199) dX4_readStatement_199 rfl rfl ?_
          refine Ex.getR (pc := 200) dX4_readStatement_200 fX4_57 (s2_81 _ _) r2_81_2 ?_
          refine Ex.aload_n (pc := 203) dX4_readStatement_203 rfl rfl ?_
          refine Ex.iconst (pc := 204) (v := 0) dX4_readStatement_204 rfl ?_
          refine Ex.bipush (pc := 205) (v := 100) dX4_readStatement_205 rfl ?_
          refine Ex.callV (pc := 207) (As := [.int 0, .int 100]) (rest := [.ref 82]) dX4_readStatement_207 cX4_121 (t_tkV (lo := 0) (hi := 100) z1.2.1 z1.px (by decide) (by decide)) (s2_81 _ _) rfl rfl (by decide) (Nat.le_refl _) (Nat.le_refl _) (Nat.le_of_ble_eq_true rfl) (Or.inl (fun r S' h => by obtain ⟨_, _, _, h⟩ := h; subst h; rfl)) (fun r S' hq _ _ => ?_)
          obtain ⟨x2, I2, ⟨rfl, p2, v2⟩, rfl⟩ := hq
          have z2 := z1.go p2 (fun e q => by rw [q]; rfl)
          refine Ex.putI (pc := 210) dX4_readStatement_210 fX4_127 (s2_82 _ _) (Or.inl rfl) ⟨rfl, rfl⟩ ?_
          refine Ex.goto (pc := 213) (tgt := 229) dX4_readStatement_213 (by decide) ?_
          obtain ⟨J, hJ⟩ : ∃ z, z = va_up I2 82 (upd (I2 82) 5 x2) := ⟨_, rfl⟩
          rw [← hJ]
          have jS : Sm [82] I2 J := by rw [hJ]; exact Sm.rf.up (by decide)
          have zJ : Pz tb n J J (tkV tb n 0 100 (nx tb n (.ok (t, c)))) (plD pl (numR (nx tb n (.ok (t, c))))) := by
            rw [hJ]
            refine z2.f82 (by omega) (fun s e q => ?_)
            rw [← hJ]
            obtain ⟨p1, p2, p3, p4⟩ := q
            have hx := v2 (tkV_ok e).1
            refine ⟨fun i hi => ?_, ?_, ?_, fun i hi => ?_⟩
            · rw [jS 83 (by decide), jS 84 (by decide), jS 85 (by decide), jS 86 (by decide)]; exact p1 i hi
            · rw [hJ, va_up_s, upd_n (by decide)]; exact p2
            · rw [hJ, va_up_s, upd_s, hx]; rfl
            · rw [jS 87 (by decide), jS 88 (by decide)]; exact p4 i hi
          refine Ex.aload_n (pc := 229) dX4_readStatement_229 rfl rfl ?_
          refine Ex.getR (pc := 230) dX4_readStatement_230 fX4_57 (s2_81 _ _) r2_81_2 ?_
          refine Ex.iload_n (pc := 233) dX4_readStatement_233 rfl rfl ?_
          refine Ex.callV (pc := 234) (As := [.int _]) (rest := []) dX4_readStatement_234 cX4_136 (tr_end0 (k := 15) (by decide) (by decide)) (s2_82 _ _) rfl rfl (by decide) (Nat.le_refl _) (Nat.le_refl _) (Nat.le_of_ble_eq_true rfl) (Or.inl (fun r S' h => by obtain ⟨_, h⟩ := h; subst h; rfl)) (fun r S' hq _ _ => ?_)
          obtain ⟨rfl, rfl⟩ := hq
          refine kend _ ?_
          unfold bodF
          rw [if_neg (show ¬ 15 = 0 by decide), if_neg (show ¬ 15 = 3 by decide), if_neg (show ¬ 15 = 6 by decide), if_neg (show ¬ 15 = 14 by decide), if_pos rfl]
          exact ⟨⟨z2.1.1.tr jS (fun _ q => q) (by decide), by rw [hJ, va_up_s, upd_n (by decide)]; exact z2.1.2⟩, zJ.2⟩
      refine Ex.aload_n (pc := 0) dX4_readStatement_0 rfl rfl ?_
      refine Ex.getI (pc := 1) dX4_readStatement_1 fX4_24 (s2_81 _ _) ?_
      refine Ex.iconst (pc := 4) (v := 2) dX4_readStatement_4 rfl ?_
      refine Ex.icmp_ne (pc := 5) (tgt := 15) dX4_readStatement_5 (by decide) (fun c5 => absurd (by rw [h7, hk2]; decide) c5) (fun _ => ?_)
      refine Ex.aload_n (pc := 8) dX4_readStatement_8 rfl rfl ?_
      refine Ex.getI (pc := 9) dX4_readStatement_9 fX4_30 (s2_81 _ _) ?_
      refine Ex.goto (pc := 12) (tgt := 16) dX4_readStatement_12 (by decide) ?_
      rw [h9]
      refine Ex.istore_n (pc := 16) (ls' := [some (.ref 81), some (.int _)]) dX4_readStatement_16 rfl (by decide) rfl rfl ?_
      refine Ex.iload_n (pc := 17) dX4_readStatement_17 rfl rfl ?_
      refine Ex.callS (pc := 18) (As := [.int _]) (rest := []) dX4_readStatement_18 cX4_108 (t_begins (w := nI k)) rfl rfl (by decide) (Nat.le_refl _) (Nat.le_refl _) (Nat.le_of_ble_eq_true rfl) (Or.inl (fun r S' h => by obtain ⟨_, h⟩ := h; subst h; rfl)) (fun r S' hq _ _ => ?_)
      obtain ⟨rfl, rfl⟩ := hq
      refine Ex.if_ne (pc := 21) (tgt := 34) dX4_readStatement_21 (by decide) (fun c21 => ?_) (fun c21 => ?_)
      · skip
        refine Ex.aload_n (pc := 34) dX4_readStatement_34 rfl rfl ?_
        refine Ex.iload_n (pc := 35) dX4_readStatement_35 rfl rfl ?_
        refine Ex.callV (pc := 36) (As := [.int _]) (rest := []) dX4_readStatement_36 cX4_111 (t_isFull (k := k) hP (by rw [← begW_k (by omega)]; exact bI_1 c21)) (s2_81 _ _) rfl rfl (by decide) (Nat.le_refl _) (Nat.le_refl _) (Nat.le_of_ble_eq_true rfl) (Or.inl (fun r S' h => by obtain ⟨_, h⟩ := h; subst h; rfl)) (fun r S' hq _ _ => ?_)
        obtain ⟨rfl, rfl⟩ := hq
        refine Ex.if_eq (pc := 39) (tgt := 53) dX4_readStatement_39 (by decide) (fun c39 => ?_) (fun c39 => ?_)
        · skip
          exact k53 (by rw [← begW_k (by omega)]; exact bI_1 c21) (bI_0 c39)
        · skip
          refine Ex.aload_n (pc := 42) dX4_readStatement_42 rfl rfl ?_
          refine Ex.bipush (pc := 43) (v := 6) dX4_readStatement_43 rfl ?_
          refine Ex.aload_n (pc := 45) dX4_readStatement_45 rfl rfl ?_
          refine Ex.getI (pc := 46) dX4_readStatement_46 fX4_21 (s2_81 _ _) ?_
          refine Ex.callV (pc := 49) (As := [.int 6, .int _]) (rest := []) dX4_readStatement_49 cX4_77 (t_stp (k := 6) zz.px (by decide) (by decide) zz.px.start) (s2_81 _ _) rfl rfl (by decide) (Nat.le_refl _) (Nat.le_refl _) (Nat.le_of_ble_eq_true rfl) (Or.inl (fun r S' h => by obtain ⟨_, _, h, _⟩ := h; subst h; rfl)) (fun r S' hq _ _ => ?_)
          obtain ⟨I2, rfl, rfl, h2⟩ := hq
          refine Ex.vret (pc := 52) rfl dX4_readStatement_52 (Nat.le_refl _) (Nat.le_refl _) ?_
          have hs : stmF tb n m pl t c = (.error (6, t.2.2.2.1), pl) := by unfold stmF; rw [hwd, if_pos (by rw [← begW_k (by omega)]; exact bI_1 c21), if_pos (bI_1 c39)]
          rw [hs]
          exact ⟨_, rfl, rfl, h.stp h2 (m + 1)⟩
      · skip
        refine Ex.aload_n (pc := 24) dX4_readStatement_24 rfl rfl ?_
        refine Ex.iconst (pc := 25) (v := 1) dX4_readStatement_25 rfl ?_
        refine Ex.aload_n (pc := 26) dX4_readStatement_26 rfl rfl ?_
        refine Ex.getI (pc := 27) dX4_readStatement_27 fX4_21 (s2_81 _ _) ?_
        refine Ex.callV (pc := 30) (As := [.int 1, .int _]) (rest := []) dX4_readStatement_30 cX4_77 (t_stp (k := 1) zz.px (by decide) (by decide) zz.px.start) (s2_81 _ _) rfl rfl (by decide) (Nat.le_refl _) (Nat.le_refl _) (Nat.le_of_ble_eq_true rfl) (Or.inl (fun r S' h => by obtain ⟨_, _, h, _⟩ := h; subst h; rfl)) (fun r S' hq _ _ => ?_)
        obtain ⟨I2, rfl, rfl, h2⟩ := hq
        refine Ex.vret (pc := 33) rfl dX4_readStatement_33 (Nat.le_refl _) (Nat.le_refl _) ?_
        have hs : stmF tb n m pl t c = (.error (1, t.2.2.2.1), pl) := by unfold stmF; rw [hwd, if_neg (by rw [← begW_k (by omega), bI_0 c21]; decide)]
        rw [hs]
        exact ⟨_, rfl, rfl, h.stp h2 (m + 1)⟩
  · have hwd : wdN t = 99 := if_neg hk2
    refine Ex.aload_n (pc := 0) dX4_readStatement_0 rfl rfl ?_
    refine Ex.getI (pc := 1) dX4_readStatement_1 fX4_24 (s2_81 _ _) ?_
    refine Ex.iconst (pc := 4) (v := 2) dX4_readStatement_4 rfl ?_
    refine Ex.icmp_ne (pc := 5) (tgt := 15) dX4_readStatement_5 (by decide) (fun _ => ?_) (fun c5 => absurd c5 (fun q => hk2 ((nI_eq (by have := hW.2.1; omega) (by decide)).mp (show nI t.1 = nI 2 from h7.symm.trans q))))
    refine Ex.iconst (pc := 15) (v := (-1)) dX4_readStatement_15 rfl ?_
    refine Ex.istore_n (pc := 16) (ls' := [some (.ref 81), some (.int (-1))]) dX4_readStatement_16 rfl (by decide) rfl rfl ?_
    refine Ex.iload_n (pc := 17) dX4_readStatement_17 rfl rfl ?_
    refine Ex.callS (pc := 18) (As := [.int (-1)]) (rest := []) dX4_readStatement_18 cX4_108 (t_begins (w := -1)) rfl rfl (by decide) (Nat.le_refl _) (Nat.le_refl _) (Nat.le_of_ble_eq_true rfl) (Or.inl (fun r S' h => by obtain ⟨_, h⟩ := h; subst h; rfl)) (fun r S' hq _ _ => ?_)
    obtain ⟨rfl, rfl⟩ := hq
    refine Ex.if_ne (pc := 21) (tgt := 34) dX4_readStatement_21 (by decide) (fun c21 => absurd (by decide) c21) (fun _ => ?_)
    refine Ex.aload_n (pc := 24) dX4_readStatement_24 rfl rfl ?_
    refine Ex.iconst (pc := 25) (v := 1) dX4_readStatement_25 rfl ?_
    refine Ex.aload_n (pc := 26) dX4_readStatement_26 rfl rfl ?_
    refine Ex.getI (pc := 27) dX4_readStatement_27 fX4_21 (s2_81 _ _) ?_
    refine Ex.callV (pc := 30) (As := [.int 1, .int _]) (rest := []) dX4_readStatement_30 cX4_77 (t_stp (k := 1) zz.px (by decide) (by decide) zz.px.start) (s2_81 _ _) rfl rfl (by decide) (Nat.le_refl _) (Nat.le_refl _) (Nat.le_of_ble_eq_true rfl) (Or.inl (fun r S' h => by obtain ⟨_, _, h, _⟩ := h; subst h; rfl)) (fun r S' hq _ _ => ?_)
    obtain ⟨I2, rfl, rfl, h2⟩ := hq
    refine Ex.vret (pc := 33) rfl dX4_readStatement_33 (Nat.le_refl _) (Nat.le_refl _) ?_
    have hs : stmF tb n m pl t c = (.error (1, t.2.2.2.1), pl) := if_neg (by rw [hwd]; decide)
    rw [hs]
    exact ⟨_, rfl, rfl, h.stp h2 (m + 1)⟩
set_option maxRecDepth 20000 in
theorem t_parse {N n : Nat} {I Ib : aI} {L : aL} {tb : Nat → Nat} {pl : Pl} (h : Pw tb n Ib I 0 (.ok ((1, 0, [], 0, 0), [])) pl) : Run 74 0 0 mX4_parse [.ref 81] (St2 N n I L) (RP2 none N n L (fun I2 => Pw tb n Ib I2 (prsF tb n 80 0 (nx tb n (.ok ((1, 0, [], 0, 0), []))) pl).1 (prsF tb n 80 0 (nx tb n (.ok ((1, 0, [], 0, 0), []))) pl).2.1 (prsF tb n 80 0 (nx tb n (.ok ((1, 0, [], 0, 0), []))) pl).2.2)) := by
  refine Run.of (ls := [some (.ref 81), none]) (by decide) (Nat.le_of_ble_eq_true rfl) rfl ?_
  have kl : ∀ f m (J : aI) r pl, f + m = 80 → Pw tb n Ib J m r pl → Ex 74 0 0 mX4_parse 0 0 6 [some (.ref 81), some (.int (nI m))] [] (St2 N n J L) (RP2 none N n L (fun I2 => Pw tb n Ib I2 (prsF tb n f m r pl).1 (prsF tb n f m r pl).2.1 (prsF tb n f m r pl).2.2)) := by
    intro f
    induction f with
    | zero =>
      intro m J r pl hf h
      refine Ex.iload_n (pc := 6) dX4_parse_6 rfl rfl ?_
      refine Ex.bipush (pc := 7) (v := 80) dX4_parse_7 rfl ?_
      refine Ex.icmp_ge (pc := 9) (tgt := 37) dX4_parse_9 (by decide) (fun _ => ?_) (fun c9 => absurd (by rw [show m = 80 by omega]; decide) c9)
      refine Ex.vret (pc := 37) rfl dX4_parse_37 (Nat.le_refl _) (Nat.le_refl _) ?_
      exact ⟨_, rfl, rfl, h⟩
    | succ f ih =>
      intro m J r pl hf h
      cases r with
      | error e =>
        have h7 : J 81 7 = 0 := (show PxE n J e from h.2.2.1).2.2.2.2.2.1
        refine Ex.iload_n (pc := 6) dX4_parse_6 rfl rfl ?_
        refine Ex.bipush (pc := 7) (v := 80) dX4_parse_7 rfl ?_
        refine Ex.icmp_ge (pc := 9) (tgt := 37) dX4_parse_9 (by decide) (fun c9 => absurd c9 (nI_ge (b := 80) (by omega) (by decide))) (fun _ => ?_)
        refine Ex.aload_n (pc := 12) dX4_parse_12 rfl rfl ?_
        refine Ex.getI (pc := 13) dX4_parse_13 fX4_24 (s2_81 _ _) ?_
        refine Ex.iconst (pc := 16) (v := 1) dX4_parse_16 rfl ?_
        refine Ex.icmp_eq (pc := 17) (tgt := 37) dX4_parse_17 (by decide) (fun c17 => absurd c17 (by rw [h7]; decide)) (fun _ => ?_)
        refine Ex.aload_n (pc := 20) dX4_parse_20 rfl rfl ?_
        refine Ex.getI (pc := 21) dX4_parse_21 fX4_24 (s2_81 _ _) ?_
        refine Ex.if_eq (pc := 24) (tgt := 37) dX4_parse_24 (by decide) (fun _ => ?_) (fun c24 => absurd h7 c24)
        refine Ex.vret (pc := 37) rfl dX4_parse_37 (Nat.le_refl _) (Nat.le_refl _) ?_
        exact ⟨_, rfl, rfl, h⟩
      | ok q =>
        obtain ⟨t, c⟩ := q
        have hO : PxO n J 0 false t c := h.2.2.1
        have h7 : J 81 7 = nI t.1 := hO.1.2.2.2.1
        have ht1 := hO.2.1.1
        have ht4 := hO.2.1.2.1
        simp only [prsF]
        by_cases e1 : t.1 = 1
        · rw [if_pos e1]
          refine Ex.iload_n (pc := 6) dX4_parse_6 rfl rfl ?_
          refine Ex.bipush (pc := 7) (v := 80) dX4_parse_7 rfl ?_
          refine Ex.icmp_ge (pc := 9) (tgt := 37) dX4_parse_9 (by decide) (fun c9 => absurd c9 (nI_ge (b := 80) (by omega) (by decide))) (fun _ => ?_)
          refine Ex.aload_n (pc := 12) dX4_parse_12 rfl rfl ?_
          refine Ex.getI (pc := 13) dX4_parse_13 fX4_24 (s2_81 _ _) ?_
          refine Ex.iconst (pc := 16) (v := 1) dX4_parse_16 rfl ?_
          refine Ex.icmp_eq (pc := 17) (tgt := 37) dX4_parse_17 (by decide) (fun _ => ?_) (fun c17 => absurd (by rw [h7, e1]; rfl) c17)
          refine Ex.vret (pc := 37) rfl dX4_parse_37 (Nat.le_refl _) (Nat.le_refl _) ?_
          exact ⟨_, rfl, rfl, h⟩
        · rw [if_neg e1]
          refine Ex.iload_n (pc := 6) dX4_parse_6 rfl rfl ?_
          refine Ex.bipush (pc := 7) (v := 80) dX4_parse_7 rfl ?_
          refine Ex.icmp_ge (pc := 9) (tgt := 37) dX4_parse_9 (by decide) (fun c9 => absurd c9 (nI_ge (b := 80) (by omega) (by decide))) (fun _ => ?_)
          refine Ex.aload_n (pc := 12) dX4_parse_12 rfl rfl ?_
          refine Ex.getI (pc := 13) dX4_parse_13 fX4_24 (s2_81 _ _) ?_
          refine Ex.iconst (pc := 16) (v := 1) dX4_parse_16 rfl ?_
          refine Ex.icmp_eq (pc := 17) (tgt := 37) dX4_parse_17 (by decide) (fun c17 => absurd c17 (fun q => e1 ((nI_eq (by omega) (by decide)).mp (show nI t.1 = nI 1 from h7.symm.trans q)))) (fun _ => ?_)
          refine Ex.aload_n (pc := 20) dX4_parse_20 rfl rfl ?_
          refine Ex.getI (pc := 21) dX4_parse_21 fX4_24 (s2_81 _ _) ?_
          refine Ex.if_eq (pc := 24) (tgt := 37) dX4_parse_24 (by decide) (fun c24 => absurd c24 (by rw [h7]; exact nI_ne0 (by omega) (by omega))) (fun _ => ?_)
          refine Ex.aload_n (pc := 27) dX4_parse_27 rfl rfl ?_
          refine Ex.callV (pc := 28) (As := []) (rest := []) dX4_parse_28 cX4_64 (t_stmt h (by omega)) (s2_81 _ _) rfl rfl (by decide) (Nat.le_refl _) (Nat.le_refl _) (Nat.le_of_ble_eq_true rfl) (Or.inl (fun r S' h => by obtain ⟨_, _, h, _⟩ := h; subst h; rfl)) (fun r S' hq _ _ => ?_)
          obtain ⟨I2, rfl, rfl, h2⟩ := hq
          refine Ex.iinc (pc := 31) (ls' := [some (.ref 81), some (.int _)]) dX4_parse_31 rfl rfl (by decide) rfl rfl ?_
          refine Ex.goto (pc := 34) (tgt := 6) dX4_parse_34 (by decide) ?_
          rw [show nI m + Int32.ofInt 1 = nI (m + 1) from nI_1 m]
          exact ih (m + 1) _ _ _ (by omega) h2
  refine Ex.aload_n (pc := 0) dX4_parse_0 rfl rfl ?_
  refine Ex.callV (pc := 1) (As := []) (rest := []) dX4_parse_1 cX4_61 (t_next h.z.2.1 h.z.px.le) (s2_81 _ _) rfl rfl (by decide) (Nat.le_refl _) (Nat.le_refl _) (Nat.le_of_ble_eq_true rfl) (Or.inl (fun r S' h => by obtain ⟨_, _, h, _⟩ := h; subst h; rfl)) (fun r S' hq _ _ => ?_)
  obtain ⟨I1, rfl, rfl, p1⟩ := hq
  have z1 := h.z.go p1 (fun e q => by cases q)
  have w1 : Pw tb n Ib I1 0 (nx tb n (.ok ((1, 0, [], 0, 0), []))) pl := ⟨h.1.tr z1.1.1 (fun _ q => q) (fun _ q => q), z1.2.1, z1.2.2.1, z1.2.2.2, fun s _ => by rw [z1.1.2]; exact h.2.2.2.2 _ rfl⟩
  refine Ex.iconst (pc := 4) (v := 0) dX4_parse_4 rfl ?_
  refine Ex.istore_n (pc := 5) (ls' := [some (.ref 81), some (.int 0)]) dX4_parse_5 rfl (by decide) rfl rfl ?_
  exact kl 80 0 I1 _ pl rfl w1
