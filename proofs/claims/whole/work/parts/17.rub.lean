/-- the named values of a stroke -/
def nmS (nm : Nat → Int32) (z d r : Int32) : Nat → Int32 := upd (upd (upd (upd nm 2 z) 4 d) 17 r) 18 (if z = 0 then 1 else 0)
def outV (d v : Int32) : Int32 := if (if 0 < v then v else 0) < d then (if 0 < v then v else 0) else d
def wearV (v : Int32) : Int32 := if (if 0 < v then v else 0) < 9 then (if 0 < v then v else 0) else 9
def pos0 (x : Int32) : Int32 := if 0 < x then x else 0
/-- zinc, depth, strokes, what came out -/
abbrev aT : Type := Int32 × Int32 × Int32 × Int32
def strk (p : aP) (nm : Nat → Int32) (t : aT) : aT :=
  (pos0 (t.1 - wearV (evV p (nmS nm t.1 t.2.1 (t.2.2.1 + 1)) 1 1)), t.2.1 - outV t.2.1 (evV p (nmS nm t.1 t.2.1 (t.2.2.1 + 1)) 0 1), t.2.2.1 + 1, t.2.2.2 + outV t.2.1 (evV p (nmS nm t.1 t.2.1 (t.2.2.1 + 1)) 0 1))
def rubF (p : aP) (nm : Nat → Int32) : Nat → aT → aT
  | 0, t => t
  | n + 1, t => if t.2.1 ≤ 0 then t else rubF p nm n (strk p nm t)
theorem nmS_nmS (nm : Nat → Int32) (z d r z' d' r' : Int32) : nmS (nmS nm z d r) z' d' r' = nmS nm z' d' r' := by
  funext j
  simp only [nmS, upd]
  by_cases h1 : j = 18 <;> by_cases h2 : j = 17 <;> by_cases h3 : j = 4 <;> by_cases h4 : j = 2 <;> simp [h1, h2, h3, h4]
theorem strk_nm (p : aP) (nm : Nat → Int32) (z d r : Int32) (t : aT) : strk p (nmS nm z d r) t = strk p nm t := by
  simp only [strk, nmS_nmS]
theorem rubF_nm (p : aP) (nm : Nat → Int32) (z d r : Int32) : ∀ n t, rubF p (nmS nm z d r) n t = rubF p nm n t
  | 0, _ => rfl
  | n + 1, t => by simp only [rubF, strk_nm, rubF_nm p nm z d r n]
/-- the preacher's stroke cells -/
def tOf (I : aI) : aT := (I 16 5, I 16 6, I 16 7, I 16 8)

set_option maxRecDepth 20000 in
theorem t_lay10 {N : Nat} {I : aI} {L : aL} {b s : Nat} (hb : b < 5) (hs : s < 6) : Run 1 0 0 mX6_lay [.ref 16, .ref 10, .int (nI b), .int (nI s)] (St N I L) (RP none N L (fun I2 => Sm [16, 17] I I2 ∧ I2 16 3 = nI b ∧ I2 16 4 = nI s ∧ tOf I2 = (I 11 b, I 12 s, 0, 0) ∧ I2 17 = upd (upd (upd (upd (I 17) 1 (I 5 b)) 5 (I 6 (6 + s))) 14 (I 10 1)) 16 (I 10 0))) := by
  refine Run.of (ls := [some (.ref 16), some (.ref 10), some (.int _), some (.int _)]) (by decide) (Nat.le_of_ble_eq_true rfl) rfl ?_
  refine Ex.aload_n (pc := 0) dX6_lay_0 rfl rfl ?_
  refine Ex.iload_n (pc := 1) dX6_lay_1 rfl rfl ?_
  refine Ex.putI (pc := 2) dX6_lay_2 fX6_18 (sh16 _) (Or.inl rfl) ⟨rfl, rfl⟩ ?_
  refine Ex.aload_n (pc := 5) dX6_lay_5 rfl rfl ?_
  refine Ex.iload_n (pc := 6) dX6_lay_6 rfl rfl ?_
  refine Ex.putI (pc := 7) dX6_lay_7 fX6_22 (sh16 _) (Or.inl rfl) ⟨rfl, rfl⟩ ?_
  refine Ex.aload_n (pc := 10) dX6_lay_10 rfl rfl ?_
  refine Ex.aload_n (pc := 11) dX6_lay_11 rfl rfl ?_
  refine Ex.getR (pc := 12) dX6_lay_12 fX6_41 (sh10 _) r10_4 ?_
  refine Ex.iload_n (pc := 15) dX6_lay_15 rfl rfl ?_
  refine Ex.iald (pc := 16) (j := b) dX6_lay_16 (sh11 _) (vp_in_nI hb (by decide)) (ixN2 (by omega)) ?_
  refine Ex.putI (pc := 17) dX6_lay_17 fX6_25 (sh16 _) (Or.inl rfl) ⟨rfl, rfl⟩ ?_
  refine Ex.aload_n (pc := 20) dX6_lay_20 rfl rfl ?_
  refine Ex.aload_n (pc := 21) dX6_lay_21 rfl rfl ?_
  refine Ex.getR (pc := 22) dX6_lay_22 fX6_45 (sh10 _) r10_5 ?_
  refine Ex.iload_n (pc := 25) dX6_lay_25 rfl rfl ?_
  refine Ex.iald (pc := 26) (j := s) dX6_lay_26 (sh12 _) (vp_in_nI hs (by decide)) (ixN2 (by omega)) ?_
  refine Ex.putI (pc := 27) dX6_lay_27 fX6_28 (sh16 _) (Or.inl rfl) ⟨rfl, rfl⟩ ?_
  refine Ex.aload_n (pc := 30) dX6_lay_30 rfl rfl ?_
  refine Ex.iconst (pc := 31) (v := 0) dX6_lay_31 rfl ?_
  refine Ex.putI (pc := 32) dX6_lay_32 fX6_31 (sh16 _) (Or.inl rfl) ⟨rfl, rfl⟩ ?_
  refine Ex.aload_n (pc := 35) dX6_lay_35 rfl rfl ?_
  refine Ex.iconst (pc := 36) (v := 0) dX6_lay_36 rfl ?_
  refine Ex.putI (pc := 37) dX6_lay_37 fX6_34 (sh16 _) (Or.inl rfl) ⟨rfl, rfl⟩ ?_
  refine Ex.aload_n (pc := 40) dX6_lay_40 rfl rfl ?_
  refine Ex.getR (pc := 41) dX6_lay_41 fX6_9 (sh16 _) r16_1 ?_
  refine Ex.iconst (pc := 44) (v := 1) dX6_lay_44 rfl ?_
  refine Ex.aload_n (pc := 45) dX6_lay_45 rfl rfl ?_
  refine Ex.getR (pc := 46) dX6_lay_46 fX6_37 (sh16 _) r16_0 ?_
  refine Ex.iload_n (pc := 49) dX6_lay_49 rfl rfl ?_
  refine Ex.callV (pc := 50) (As := [.int _]) (rest := [.int 1, .ref 17]) dX6_lay_50 cX6_47 (t_ribs (j := b) (by omega)) (sh2 _) rfl rfl (by decide) (Nat.le_refl _) (Nat.le_refl _) (Nat.le_of_ble_eq_true rfl) (Or.inl (fun r S' h => by obtain ⟨_, h⟩ := h; subst h; rfl)) (fun r S' hq _ _ => ?_)
  obtain ⟨rfl, rfl⟩ := hq
  refine Ex.iast (pc := 53) (j := 1) dX6_lay_53 (sh17 _) (by unfold vp_in; decide) (by decide) ?_
  refine Ex.aload_n (pc := 54) dX6_lay_54 rfl rfl ?_
  refine Ex.getR (pc := 55) dX6_lay_55 fX6_9 (sh16 _) r16_1 ?_
  refine Ex.iconst (pc := 58) (v := 5) dX6_lay_58 rfl ?_
  refine Ex.aload_n (pc := 59) dX6_lay_59 rfl rfl ?_
  refine Ex.getR (pc := 60) dX6_lay_60 fX6_37 (sh16 _) r16_0 ?_
  refine Ex.iload_n (pc := 63) dX6_lay_63 rfl rfl ?_
  refine Ex.callV (pc := 64) (As := [.int _]) (rest := [.int 5, .ref 17]) dX6_lay_64 cX6_53 (t_stuff (j := s) hs) (sh2 _) rfl rfl (by decide) (Nat.le_refl _) (Nat.le_refl _) (Nat.le_of_ble_eq_true rfl) (Or.inl (fun r S' h => by obtain ⟨_, h⟩ := h; subst h; rfl)) (fun r S' hq _ _ => ?_)
  obtain ⟨rfl, rfl⟩ := hq
  refine Ex.iast (pc := 67) (j := 5) dX6_lay_67 (sh17 _) (by unfold vp_in; decide) (by decide) ?_
  refine Ex.aload_n (pc := 68) dX6_lay_68 rfl rfl ?_
  refine Ex.getR (pc := 69) dX6_lay_69 fX6_9 (sh16 _) r16_1 ?_
  refine Ex.bipush (pc := 72) (v := 14) dX6_lay_72 rfl ?_
  refine Ex.aload_n (pc := 74) dX6_lay_74 rfl rfl ?_
  refine Ex.getI (pc := 75) dX6_lay_75 fX6_56 (sh10 _) ?_
  refine Ex.iast (pc := 78) (j := 14) dX6_lay_78 (sh17 _) (by unfold vp_in; decide) (by decide) ?_
  refine Ex.aload_n (pc := 79) dX6_lay_79 rfl rfl ?_
  refine Ex.getR (pc := 80) dX6_lay_80 fX6_9 (sh16 _) r16_1 ?_
  refine Ex.bipush (pc := 83) (v := 16) dX6_lay_83 rfl ?_
  refine Ex.aload_n (pc := 85) dX6_lay_85 rfl rfl ?_
  refine Ex.getI (pc := 86) dX6_lay_86 fX6_59 (sh10 _) ?_
  refine Ex.iast (pc := 89) (j := 16) dX6_lay_89 (sh17 _) (by unfold vp_in; decide) (by decide) ?_
  refine Ex.vret (pc := 90) rfl dX6_lay_90 (Nat.le_refl _) (Nat.le_refl _) ?_
  refine ⟨_, rfl, rfl, ?_, ?_, ?_, ?_, ?_⟩
  · repeat (first | exact Sm.rf | refine Sm.up ?_ (by decide))
  · simp [va_up, upd]
  · simp [va_up, upd]
  · simp [tOf, va_up, upd]
  · simp [va_up, upd]
set_option maxRecDepth 20000 in
theorem t_lay13 {N : Nat} {I : aI} {L : aL} {b s : Nat} (hb : b < 5) (hs : s < 6) : Run 1 0 0 mX6_lay [.ref 16, .ref 13, .int (nI b), .int (nI s)] (St N I L) (RP none N L (fun I2 => Sm [16, 17] I I2 ∧ I2 16 3 = nI b ∧ I2 16 4 = nI s ∧ tOf I2 = (I 14 b, I 15 s, 0, 0) ∧ I2 17 = upd (upd (upd (upd (I 17) 1 (I 5 b)) 5 (I 6 (6 + s))) 14 (I 13 1)) 16 (I 13 0))) := by
  refine Run.of (ls := [some (.ref 16), some (.ref 13), some (.int _), some (.int _)]) (by decide) (Nat.le_of_ble_eq_true rfl) rfl ?_
  refine Ex.aload_n (pc := 0) dX6_lay_0 rfl rfl ?_
  refine Ex.iload_n (pc := 1) dX6_lay_1 rfl rfl ?_
  refine Ex.putI (pc := 2) dX6_lay_2 fX6_18 (sh16 _) (Or.inl rfl) ⟨rfl, rfl⟩ ?_
  refine Ex.aload_n (pc := 5) dX6_lay_5 rfl rfl ?_
  refine Ex.iload_n (pc := 6) dX6_lay_6 rfl rfl ?_
  refine Ex.putI (pc := 7) dX6_lay_7 fX6_22 (sh16 _) (Or.inl rfl) ⟨rfl, rfl⟩ ?_
  refine Ex.aload_n (pc := 10) dX6_lay_10 rfl rfl ?_
  refine Ex.aload_n (pc := 11) dX6_lay_11 rfl rfl ?_
  refine Ex.getR (pc := 12) dX6_lay_12 fX6_41 (sh13 _) r13_4 ?_
  refine Ex.iload_n (pc := 15) dX6_lay_15 rfl rfl ?_
  refine Ex.iald (pc := 16) (j := b) dX6_lay_16 (sh14 _) (vp_in_nI hb (by decide)) (ixN2 (by omega)) ?_
  refine Ex.putI (pc := 17) dX6_lay_17 fX6_25 (sh16 _) (Or.inl rfl) ⟨rfl, rfl⟩ ?_
  refine Ex.aload_n (pc := 20) dX6_lay_20 rfl rfl ?_
  refine Ex.aload_n (pc := 21) dX6_lay_21 rfl rfl ?_
  refine Ex.getR (pc := 22) dX6_lay_22 fX6_45 (sh13 _) r13_5 ?_
  refine Ex.iload_n (pc := 25) dX6_lay_25 rfl rfl ?_
  refine Ex.iald (pc := 26) (j := s) dX6_lay_26 (sh15 _) (vp_in_nI hs (by decide)) (ixN2 (by omega)) ?_
  refine Ex.putI (pc := 27) dX6_lay_27 fX6_28 (sh16 _) (Or.inl rfl) ⟨rfl, rfl⟩ ?_
  refine Ex.aload_n (pc := 30) dX6_lay_30 rfl rfl ?_
  refine Ex.iconst (pc := 31) (v := 0) dX6_lay_31 rfl ?_
  refine Ex.putI (pc := 32) dX6_lay_32 fX6_31 (sh16 _) (Or.inl rfl) ⟨rfl, rfl⟩ ?_
  refine Ex.aload_n (pc := 35) dX6_lay_35 rfl rfl ?_
  refine Ex.iconst (pc := 36) (v := 0) dX6_lay_36 rfl ?_
  refine Ex.putI (pc := 37) dX6_lay_37 fX6_34 (sh16 _) (Or.inl rfl) ⟨rfl, rfl⟩ ?_
  refine Ex.aload_n (pc := 40) dX6_lay_40 rfl rfl ?_
  refine Ex.getR (pc := 41) dX6_lay_41 fX6_9 (sh16 _) r16_1 ?_
  refine Ex.iconst (pc := 44) (v := 1) dX6_lay_44 rfl ?_
  refine Ex.aload_n (pc := 45) dX6_lay_45 rfl rfl ?_
  refine Ex.getR (pc := 46) dX6_lay_46 fX6_37 (sh16 _) r16_0 ?_
  refine Ex.iload_n (pc := 49) dX6_lay_49 rfl rfl ?_
  refine Ex.callV (pc := 50) (As := [.int _]) (rest := [.int 1, .ref 17]) dX6_lay_50 cX6_47 (t_ribs (j := b) (by omega)) (sh2 _) rfl rfl (by decide) (Nat.le_refl _) (Nat.le_refl _) (Nat.le_of_ble_eq_true rfl) (Or.inl (fun r S' h => by obtain ⟨_, h⟩ := h; subst h; rfl)) (fun r S' hq _ _ => ?_)
  obtain ⟨rfl, rfl⟩ := hq
  refine Ex.iast (pc := 53) (j := 1) dX6_lay_53 (sh17 _) (by unfold vp_in; decide) (by decide) ?_
  refine Ex.aload_n (pc := 54) dX6_lay_54 rfl rfl ?_
  refine Ex.getR (pc := 55) dX6_lay_55 fX6_9 (sh16 _) r16_1 ?_
  refine Ex.iconst (pc := 58) (v := 5) dX6_lay_58 rfl ?_
  refine Ex.aload_n (pc := 59) dX6_lay_59 rfl rfl ?_
  refine Ex.getR (pc := 60) dX6_lay_60 fX6_37 (sh16 _) r16_0 ?_
  refine Ex.iload_n (pc := 63) dX6_lay_63 rfl rfl ?_
  refine Ex.callV (pc := 64) (As := [.int _]) (rest := [.int 5, .ref 17]) dX6_lay_64 cX6_53 (t_stuff (j := s) hs) (sh2 _) rfl rfl (by decide) (Nat.le_refl _) (Nat.le_refl _) (Nat.le_of_ble_eq_true rfl) (Or.inl (fun r S' h => by obtain ⟨_, h⟩ := h; subst h; rfl)) (fun r S' hq _ _ => ?_)
  obtain ⟨rfl, rfl⟩ := hq
  refine Ex.iast (pc := 67) (j := 5) dX6_lay_67 (sh17 _) (by unfold vp_in; decide) (by decide) ?_
  refine Ex.aload_n (pc := 68) dX6_lay_68 rfl rfl ?_
  refine Ex.getR (pc := 69) dX6_lay_69 fX6_9 (sh16 _) r16_1 ?_
  refine Ex.bipush (pc := 72) (v := 14) dX6_lay_72 rfl ?_
  refine Ex.aload_n (pc := 74) dX6_lay_74 rfl rfl ?_
  refine Ex.getI (pc := 75) dX6_lay_75 fX6_56 (sh13 _) ?_
  refine Ex.iast (pc := 78) (j := 14) dX6_lay_78 (sh17 _) (by unfold vp_in; decide) (by decide) ?_
  refine Ex.aload_n (pc := 79) dX6_lay_79 rfl rfl ?_
  refine Ex.getR (pc := 80) dX6_lay_80 fX6_9 (sh16 _) r16_1 ?_
  refine Ex.bipush (pc := 83) (v := 16) dX6_lay_83 rfl ?_
  refine Ex.aload_n (pc := 85) dX6_lay_85 rfl rfl ?_
  refine Ex.getI (pc := 86) dX6_lay_86 fX6_59 (sh13 _) ?_
  refine Ex.iast (pc := 89) (j := 16) dX6_lay_89 (sh17 _) (by unfold vp_in; decide) (by decide) ?_
  refine Ex.vret (pc := 90) rfl dX6_lay_90 (Nat.le_refl _) (Nat.le_refl _) ?_
  refine ⟨_, rfl, rfl, ?_, ?_, ?_, ?_, ?_⟩
  · repeat (first | exact Sm.rf | refine Sm.up ?_ (by decide))
  · simp [va_up, upd]
  · simp [va_up, upd]
  · simp [tOf, va_up, upd]
  · simp [va_up, upd]
set_option maxRecDepth 20000 in
theorem t_rub {N : Nat} {I : aI} {L : aL} {p : aP} {n : Nat} (hp : PlanOk N I p) (hn : n < 1000) : Run 3 0 0 mX6_rub [.ref 16, .int (nI n)] (St N I L) (RP none N L (fun I2 => Sm [16, 17, 18] I I2 ∧ (∀ j, j < 5 → I2 16 j = I 16 j) ∧ tOf I2 = rubF p (I 17) n (tOf I) ∧ (I2 17 = I 17 ∨ ∃ z d r, I2 17 = nmS (I 17) z d r))) := by
  refine Run.of (ls := [some (.ref 16), some (.int _), none, none, none]) (by decide) (Nat.le_of_ble_eq_true rfl) rfl ?_
  refine Ex.iconst (pc := 0) (v := 0) dX6_rub_0 rfl ?_
  refine Ex.istore_n (pc := 1) (ls' := [some (.ref 16), some (.int _), some (.int 0), none, none]) dX6_rub_1 rfl (by decide) rfl rfl ?_
  refine forUp (σ := aI) (P := fun k I2 => Ex 3 0 0 mX6_rub 0 0 2 [some (.ref 16), some (.int (nI n)), some (.int (nI k)), none, none] [] (St N I2 L) _) (Inv := fun k I2 => Sm [16, 17, 18] I I2 ∧ (∀ j, j < 5 → I2 16 j = I 16 j) ∧ rubF p (I 17) (n - k) (tOf I2) = rubF p (I 17) n (tOf I) ∧ (I2 17 = I 17 ∨ ∃ z d r, I2 17 = nmS (I 17) z d r)) n ?_ ?_ 0 _ (Nat.zero_le _) ⟨Sm.rf, fun _ _ => rfl, rfl, Or.inl rfl⟩
  · rintro I2 ⟨hS, hj, hr, hm⟩
    rw [Nat.sub_self] at hr
    refine Ex.iload_n (pc := 2) dX6_rub_2 rfl rfl ?_
    refine Ex.iload_n (pc := 3) dX6_rub_3 rfl rfl ?_
    refine Ex.icmp_ge (pc := 4) (tgt := 152) dX6_rub_4 (by decide) (fun _ => ?_) (fun c4 => absurd (nI_le (Nat.le_refl n) (by omega)) c4)
    refine Ex.vret (pc := 152) rfl dX6_rub_152 (Nat.le_refl _) (Nat.le_refl _) ?_
    exact ⟨_, rfl, rfl, hS, hj, hr, hm⟩
  · rintro k I2 hk ⟨hS, hj, hr, hm⟩ ih
    obtain ⟨m, hm1, hm2⟩ : ∃ m, n - k = m + 1 ∧ n - (k + 1) = m := ⟨n - k - 1, by omega, by omega⟩
    rw [hm1] at hr
    rw [hm2] at ih
    have hp2 : PlanOk N I2 p := hp.sm hS (by decide) (by decide) (by decide) (by decide)
    have hnm : ∀ z d r, nmS (I2 17) z d r = nmS (I 17) z d r := by
      rcases hm with h | ⟨z0, d0, r0, h⟩
      · rw [h]; exact fun _ _ _ => rfl
      · rw [h]; exact fun _ _ _ => nmS_nmS _ _ _ _ _ _ _
    refine Ex.iload_n (pc := 2) dX6_rub_2 rfl rfl ?_
    refine Ex.iload_n (pc := 3) dX6_rub_3 rfl rfl ?_
    refine Ex.icmp_ge (pc := 4) (tgt := 152) dX6_rub_4 (by decide) (fun c4 => absurd c4 (nI_ge hk (by omega))) (fun _ => ?_)
    refine Ex.aload_n (pc := 7) dX6_rub_7 rfl rfl ?_
    refine Ex.getI (pc := 8) dX6_rub_8 fX6_28 (sh16 _) ?_
    refine Ex.if_le (pc := 11) (tgt := 152) dX6_rub_11 (by decide) (fun c11 => ?_) (fun c11 => ?_)
    · skip
      refine Ex.vret (pc := 152) rfl dX6_rub_152 (Nat.le_refl _) (Nat.le_refl _) ?_
      have hd : (tOf I2).2.1 ≤ 0 := c11
      refine ⟨_, rfl, rfl, hS, hj, ?_, hm⟩
      rw [← hr]
      simp only [rubF]
      rw [if_pos hd]
    · skip
      refine Ex.aload_n (pc := 14) dX6_rub_14 rfl rfl ?_
      refine Ex.dup (pc := 15) dX6_rub_15 rfl ?_
      refine Ex.getI (pc := 16) dX6_rub_16 fX6_31 (sh16 _) ?_
      refine Ex.iconst (pc := 19) (v := 1) dX6_rub_19 rfl ?_
      refine Ex.iadd (pc := 20) dX6_rub_20 ?_
      refine Ex.putI (pc := 21) dX6_rub_21 fX6_31 (sh16 _) (Or.inl rfl) ⟨rfl, rfl⟩ ?_
      refine Ex.aload_n (pc := 24) dX6_rub_24 rfl rfl ?_
      refine Ex.getR (pc := 25) dX6_rub_25 fX6_9 (sh16 _) r16_1 ?_
      refine Ex.iconst (pc := 28) (v := 2) dX6_rub_28 rfl ?_
      refine Ex.aload_n (pc := 29) dX6_rub_29 rfl rfl ?_
      refine Ex.getI (pc := 30) dX6_rub_30 fX6_25 (sh16 _) ?_
      refine Ex.iast (pc := 33) (j := 2) dX6_rub_33 (sh17 _) (by unfold vp_in; decide) (by decide) ?_
      refine Ex.aload_n (pc := 34) dX6_rub_34 rfl rfl ?_
      refine Ex.getR (pc := 35) dX6_rub_35 fX6_9 (sh16 _) r16_1 ?_
      refine Ex.iconst (pc := 38) (v := 4) dX6_rub_38 rfl ?_
      refine Ex.aload_n (pc := 39) dX6_rub_39 rfl rfl ?_
      refine Ex.getI (pc := 40) dX6_rub_40 fX6_28 (sh16 _) ?_
      refine Ex.iast (pc := 43) (j := 4) dX6_rub_43 (sh17 _) (by unfold vp_in; decide) (by decide) ?_
      refine Ex.aload_n (pc := 44) dX6_rub_44 rfl rfl ?_
      refine Ex.getR (pc := 45) dX6_rub_45 fX6_9 (sh16 _) r16_1 ?_
      refine Ex.bipush (pc := 48) (v := 17) dX6_rub_48 rfl ?_
      refine Ex.aload_n (pc := 50) dX6_rub_50 rfl rfl ?_
      refine Ex.getI (pc := 51) dX6_rub_51 fX6_31 (sh16 _) ?_
      refine Ex.iast (pc := 54) (j := 17) dX6_rub_54 (sh17 _) (by unfold vp_in; decide) (by decide) ?_
      refine Ex.aload_n (pc := 55) dX6_rub_55 rfl rfl ?_
      refine Ex.getR (pc := 56) dX6_rub_56 fX6_9 (sh16 _) r16_1 ?_
      refine Ex.bipush (pc := 59) (v := 18) dX6_rub_59 rfl ?_
      refine Ex.aload_n (pc := 61) dX6_rub_61 rfl rfl ?_
      refine Ex.getI (pc := 62) dX6_rub_62 fX6_25 (sh16 _) ?_
      refine Ex.if_ne (pc := 65) (tgt := 72) dX6_rub_65 (by decide) (fun c65 => ?_) (fun c65 => ?_)
      · skip
        refine Ex.iconst (pc := 72) (v := 0) dX6_rub_72 rfl ?_
        refine Ex.iast (pc := 73) (j := 18) dX6_rub_73 (sh17 _) (by unfold vp_in; decide) (by decide) ?_
        have hz : ¬ I2 16 5 = 0 := by simpa [va_up, upd] using c65
        obtain ⟨I3, hI3⟩ : ∃ z, z = va_up (va_up I2 16 (upd (I2 16) 7 (I2 16 7 + 1))) 17 (nmS (I2 17) (I2 16 5) (I2 16 6) (I2 16 7 + 1)) := ⟨_, rfl⟩
        refine Ex.mm (S' := St N I3 L) ?_ ?_
        · rw [hI3]; simp only [nmS, bx_uu, va_up_s, va_up_n (show (16 : Nat) ≠ 17 by decide), va_up_n (show (17 : Nat) ≠ 16 by decide), upd_s, upd_n (show (5 : Nat) ≠ 7 by decide), upd_n (show (6 : Nat) ≠ 7 by decide)]; simp [hz]
        have hS3 : Sm [16, 17, 18] I I3 := by rw [hI3]; exact (hS.up (by decide)).up (by decide)
        have hp3 : PlanOk N I3 p := hp.sm hS3 (by decide) (by decide) (by decide) (by decide)
        have h17 : I3 17 = nmS (I 17) (I2 16 5) (I2 16 6) (I2 16 7 + 1) := by rw [hI3, va_up_s, hnm]
        have h16 : I3 16 = upd (I2 16) 7 (I2 16 7 + 1) := by rw [hI3, va_up_n (by decide), va_up_s]
        refine Ex.aload_n (pc := 74) dX6_rub_74 rfl rfl ?_
        refine Ex.getI (pc := 75) dX6_rub_75 fX6_28 (sh16 _) ?_
        refine Ex.iconst (pc := 78) (v := 0) dX6_rub_78 rfl ?_
        refine Ex.aload_n (pc := 79) dX6_rub_79 rfl rfl ?_
        refine Ex.bipush (pc := 80) (v := 9) dX6_rub_80 rfl ?_
        refine Ex.iconst (pc := 82) (v := 1) dX6_rub_82 rfl ?_
        refine Ex.callV (pc := 83) (As := [.int 9, .int 1]) (rest := [.int 0, .int _]) dX6_rub_83 cX6_62 (t_value (r := 0) (p := p) hp3 (by decide)) (sh16 _) rfl rfl (by decide) (Nat.le_refl _) (Nat.le_refl _) (Nat.le_of_ble_eq_true rfl) (Or.inl (fun r S' h => by obtain ⟨_, _, h, _⟩ := h; subst h; rfl)) (fun r S' hq _ _ => ?_)
        obtain ⟨I4, rfl, rfl, hS4⟩ := hq
        have hS4b : Sm [16, 17, 18] I I4 := hS3.tr hS4 (by decide) (by decide)
        have hp4 : PlanOk N I4 p := hp.sm hS4b (by decide) (by decide) (by decide) (by decide)
        refine Ex.max (pc := 86) dX6_rub_86 kl_X6_66 (by decide) (Nat.le_of_ble_eq_true rfl) (Nat.le_refl _) (Nat.le_refl _) ?_
        refine Ex.min (pc := 89) dX6_rub_89 kl_X6_71 (by decide) (Nat.le_of_ble_eq_true rfl) (Nat.le_refl _) (Nat.le_refl _) ?_
        refine Ex.istore_n (pc := 92) (ls' := [some (.ref 16), some (.int _), some (.int _), some (.int _), none]) dX6_rub_92 rfl (by decide) rfl rfl ?_
        refine Ex.bipush (pc := 93) (v := 9) dX6_rub_93 rfl ?_
        refine Ex.iconst (pc := 95) (v := 0) dX6_rub_95 rfl ?_
        refine Ex.aload_n (pc := 96) dX6_rub_96 rfl rfl ?_
        refine Ex.bipush (pc := 97) (v := 10) dX6_rub_97 rfl ?_
        refine Ex.iconst (pc := 99) (v := 1) dX6_rub_99 rfl ?_
        refine Ex.callV (pc := 100) (As := [.int 10, .int 1]) (rest := [.int 0, .int 9]) dX6_rub_100 cX6_62 (t_value (r := 1) (p := p) hp4 (by decide)) (sh16 _) rfl rfl (by decide) (Nat.le_refl _) (Nat.le_refl _) (Nat.le_of_ble_eq_true rfl) (Or.inl (fun r S' h => by obtain ⟨_, _, h, _⟩ := h; subst h; rfl)) (fun r S' hq _ _ => ?_)
        obtain ⟨I5, rfl, rfl, hS5⟩ := hq
        have hS5b : Sm [16, 17, 18] I I5 := hS4b.tr hS5 (by decide) (by decide)
        have e16 : I5 16 = upd (I2 16) 7 (I2 16 7 + 1) := by rw [hS5 16 (by decide), hS4 16 (by decide), h16]
        have e17 : I5 17 = nmS (I 17) (I2 16 5) (I2 16 6) (I2 16 7 + 1) := by rw [hS5 17 (by decide), hS4 17 (by decide), h17]
        refine Ex.max (pc := 103) dX6_rub_103 kl_X6_66 (by decide) (Nat.le_of_ble_eq_true rfl) (Nat.le_refl _) (Nat.le_refl _) ?_
        refine Ex.min (pc := 106) dX6_rub_106 kl_X6_71 (by decide) (Nat.le_of_ble_eq_true rfl) (Nat.le_refl _) (Nat.le_refl _) ?_
        refine Ex.istore (pc := 109) (ls' := [some (.ref 16), some (.int _), some (.int _), some (.int _), some (.int _)]) dX6_rub_109 (by decide) rfl rfl ?_
        refine Ex.aload_n (pc := 111) dX6_rub_111 rfl rfl ?_
        refine Ex.dup (pc := 112) dX6_rub_112 rfl ?_
        refine Ex.getI (pc := 113) dX6_rub_113 fX6_28 (sh16 _) ?_
        refine Ex.iload_n (pc := 116) dX6_rub_116 rfl rfl ?_
        refine Ex.isub (pc := 117) dX6_rub_117 ?_
        refine Ex.putI (pc := 118) dX6_rub_118 fX6_28 (sh16 _) (Or.inl rfl) ⟨rfl, rfl⟩ ?_
        refine Ex.aload_n (pc := 121) dX6_rub_121 rfl rfl ?_
        refine Ex.dup (pc := 122) dX6_rub_122 rfl ?_
        refine Ex.getI (pc := 123) dX6_rub_123 fX6_34 (sh16 _) ?_
        refine Ex.iload_n (pc := 126) dX6_rub_126 rfl rfl ?_
        refine Ex.iadd (pc := 127) dX6_rub_127 ?_
        refine Ex.putI (pc := 128) dX6_rub_128 fX6_34 (sh16 _) (Or.inl rfl) ⟨rfl, rfl⟩ ?_
        refine Ex.aload_n (pc := 131) dX6_rub_131 rfl rfl ?_
        refine Ex.iconst (pc := 132) (v := 0) dX6_rub_132 rfl ?_
        refine Ex.aload_n (pc := 133) dX6_rub_133 rfl rfl ?_
        refine Ex.getI (pc := 134) dX6_rub_134 fX6_25 (sh16 _) ?_
        refine Ex.iload (pc := 137) dX6_rub_137 rfl ?_
        refine Ex.isub (pc := 139) dX6_rub_139 ?_
        refine Ex.max (pc := 140) dX6_rub_140 kl_X6_66 (by decide) (Nat.le_of_ble_eq_true rfl) (Nat.le_refl _) (Nat.le_refl _) ?_
        refine Ex.putI (pc := 143) dX6_rub_143 fX6_25 (sh16 _) (Or.inl rfl) ⟨rfl, rfl⟩ ?_
        refine Ex.iinc (pc := 146) (ls' := [some (.ref 16), some (.int _), some (.int _), some (.int _), some (.int _)]) dX6_rub_146 rfl rfl (by decide) rfl rfl ?_
        refine Ex.goto (pc := 149) (tgt := 2) dX6_rub_149 (by decide) ?_
        rw [show nI k + Int32.ofInt 1 = nI (k + 1) from nI_1 k]
        refine Ex.le (ls' := [some (.ref 16), some (.int (nI n)), some (.int (nI (k + 1))), none, none]) ⟨rfl, rfl, rfl, trivial⟩ (ih _ ⟨((hS5b.up (by decide)).up (by decide)).up (by decide), ?_, ?_, ?_⟩)
        · intro j hj5
          have := hj j hj5
          simp [va_up, upd, e16, show j ≠ 5 by omega, show j ≠ 6 by omega, show j ≠ 8 by omega, show j ≠ 7 by omega, this]
        · rw [← hr]
          have hd : ¬ (tOf I2).2.1 ≤ 0 := c11
          rw [show rubF p (I 17) (m + 1) (tOf I2) = rubF p (I 17) m (strk p (I 17) (tOf I2)) from by simp only [rubF]; rw [if_neg hd]]
          refine congrArg (rubF p (I 17) m) ?_
          simp [tOf, strk, va_up, upd, e16, h16, hS4 16 (by decide), hS4 17 (by decide), h17, outV, wearV, pos0]
          first | done | exact ⟨rfl, rfl⟩ | exact ⟨rfl, rfl, rfl⟩ | rfl
        · refine Or.inr ⟨I2 16 5, I2 16 6, I2 16 7 + 1, ?_⟩
          rw [va_up_n (by decide), va_up_n (by decide), va_up_n (by decide)]
          exact e17
      · skip
        refine Ex.iconst (pc := 68) (v := 1) dX6_rub_68 rfl ?_
        refine Ex.goto (pc := 69) (tgt := 73) dX6_rub_69 (by decide) ?_
        refine Ex.iast (pc := 73) (j := 18) dX6_rub_73 (sh17 _) (by unfold vp_in; decide) (by decide) ?_
        have hz : I2 16 5 = 0 := by simpa [va_up, upd] using c65
        obtain ⟨I3, hI3⟩ : ∃ z, z = va_up (va_up I2 16 (upd (I2 16) 7 (I2 16 7 + 1))) 17 (nmS (I2 17) (I2 16 5) (I2 16 6) (I2 16 7 + 1)) := ⟨_, rfl⟩
        refine Ex.mm (S' := St N I3 L) ?_ ?_
        · rw [hI3]; simp only [nmS, bx_uu, va_up_s, va_up_n (show (16 : Nat) ≠ 17 by decide), va_up_n (show (17 : Nat) ≠ 16 by decide), upd_s, upd_n (show (5 : Nat) ≠ 7 by decide), upd_n (show (6 : Nat) ≠ 7 by decide)]; simp [hz]
        have hS3 : Sm [16, 17, 18] I I3 := by rw [hI3]; exact (hS.up (by decide)).up (by decide)
        have hp3 : PlanOk N I3 p := hp.sm hS3 (by decide) (by decide) (by decide) (by decide)
        have h17 : I3 17 = nmS (I 17) (I2 16 5) (I2 16 6) (I2 16 7 + 1) := by rw [hI3, va_up_s, hnm]
        have h16 : I3 16 = upd (I2 16) 7 (I2 16 7 + 1) := by rw [hI3, va_up_n (by decide), va_up_s]
        refine Ex.aload_n (pc := 74) dX6_rub_74 rfl rfl ?_
        refine Ex.getI (pc := 75) dX6_rub_75 fX6_28 (sh16 _) ?_
        refine Ex.iconst (pc := 78) (v := 0) dX6_rub_78 rfl ?_
        refine Ex.aload_n (pc := 79) dX6_rub_79 rfl rfl ?_
        refine Ex.bipush (pc := 80) (v := 9) dX6_rub_80 rfl ?_
        refine Ex.iconst (pc := 82) (v := 1) dX6_rub_82 rfl ?_
        refine Ex.callV (pc := 83) (As := [.int 9, .int 1]) (rest := [.int 0, .int _]) dX6_rub_83 cX6_62 (t_value (r := 0) (p := p) hp3 (by decide)) (sh16 _) rfl rfl (by decide) (Nat.le_refl _) (Nat.le_refl _) (Nat.le_of_ble_eq_true rfl) (Or.inl (fun r S' h => by obtain ⟨_, _, h, _⟩ := h; subst h; rfl)) (fun r S' hq _ _ => ?_)
        obtain ⟨I4, rfl, rfl, hS4⟩ := hq
        have hS4b : Sm [16, 17, 18] I I4 := hS3.tr hS4 (by decide) (by decide)
        have hp4 : PlanOk N I4 p := hp.sm hS4b (by decide) (by decide) (by decide) (by decide)
        refine Ex.max (pc := 86) dX6_rub_86 kl_X6_66 (by decide) (Nat.le_of_ble_eq_true rfl) (Nat.le_refl _) (Nat.le_refl _) ?_
        refine Ex.min (pc := 89) dX6_rub_89 kl_X6_71 (by decide) (Nat.le_of_ble_eq_true rfl) (Nat.le_refl _) (Nat.le_refl _) ?_
        refine Ex.istore_n (pc := 92) (ls' := [some (.ref 16), some (.int _), some (.int _), some (.int _), none]) dX6_rub_92 rfl (by decide) rfl rfl ?_
        refine Ex.bipush (pc := 93) (v := 9) dX6_rub_93 rfl ?_
        refine Ex.iconst (pc := 95) (v := 0) dX6_rub_95 rfl ?_
        refine Ex.aload_n (pc := 96) dX6_rub_96 rfl rfl ?_
        refine Ex.bipush (pc := 97) (v := 10) dX6_rub_97 rfl ?_
        refine Ex.iconst (pc := 99) (v := 1) dX6_rub_99 rfl ?_
        refine Ex.callV (pc := 100) (As := [.int 10, .int 1]) (rest := [.int 0, .int 9]) dX6_rub_100 cX6_62 (t_value (r := 1) (p := p) hp4 (by decide)) (sh16 _) rfl rfl (by decide) (Nat.le_refl _) (Nat.le_refl _) (Nat.le_of_ble_eq_true rfl) (Or.inl (fun r S' h => by obtain ⟨_, _, h, _⟩ := h; subst h; rfl)) (fun r S' hq _ _ => ?_)
        obtain ⟨I5, rfl, rfl, hS5⟩ := hq
        have hS5b : Sm [16, 17, 18] I I5 := hS4b.tr hS5 (by decide) (by decide)
        have e16 : I5 16 = upd (I2 16) 7 (I2 16 7 + 1) := by rw [hS5 16 (by decide), hS4 16 (by decide), h16]
        have e17 : I5 17 = nmS (I 17) (I2 16 5) (I2 16 6) (I2 16 7 + 1) := by rw [hS5 17 (by decide), hS4 17 (by decide), h17]
        refine Ex.max (pc := 103) dX6_rub_103 kl_X6_66 (by decide) (Nat.le_of_ble_eq_true rfl) (Nat.le_refl _) (Nat.le_refl _) ?_
        refine Ex.min (pc := 106) dX6_rub_106 kl_X6_71 (by decide) (Nat.le_of_ble_eq_true rfl) (Nat.le_refl _) (Nat.le_refl _) ?_
        refine Ex.istore (pc := 109) (ls' := [some (.ref 16), some (.int _), some (.int _), some (.int _), some (.int _)]) dX6_rub_109 (by decide) rfl rfl ?_
        refine Ex.aload_n (pc := 111) dX6_rub_111 rfl rfl ?_
        refine Ex.dup (pc := 112) dX6_rub_112 rfl ?_
        refine Ex.getI (pc := 113) dX6_rub_113 fX6_28 (sh16 _) ?_
        refine Ex.iload_n (pc := 116) dX6_rub_116 rfl rfl ?_
        refine Ex.isub (pc := 117) dX6_rub_117 ?_
        refine Ex.putI (pc := 118) dX6_rub_118 fX6_28 (sh16 _) (Or.inl rfl) ⟨rfl, rfl⟩ ?_
        refine Ex.aload_n (pc := 121) dX6_rub_121 rfl rfl ?_
        refine Ex.dup (pc := 122) dX6_rub_122 rfl ?_
        refine Ex.getI (pc := 123) dX6_rub_123 fX6_34 (sh16 _) ?_
        refine Ex.iload_n (pc := 126) dX6_rub_126 rfl rfl ?_
        refine Ex.iadd (pc := 127) dX6_rub_127 ?_
        refine Ex.putI (pc := 128) dX6_rub_128 fX6_34 (sh16 _) (Or.inl rfl) ⟨rfl, rfl⟩ ?_
        refine Ex.aload_n (pc := 131) dX6_rub_131 rfl rfl ?_
        refine Ex.iconst (pc := 132) (v := 0) dX6_rub_132 rfl ?_
        refine Ex.aload_n (pc := 133) dX6_rub_133 rfl rfl ?_
        refine Ex.getI (pc := 134) dX6_rub_134 fX6_25 (sh16 _) ?_
        refine Ex.iload (pc := 137) dX6_rub_137 rfl ?_
        refine Ex.isub (pc := 139) dX6_rub_139 ?_
        refine Ex.max (pc := 140) dX6_rub_140 kl_X6_66 (by decide) (Nat.le_of_ble_eq_true rfl) (Nat.le_refl _) (Nat.le_refl _) ?_
        refine Ex.putI (pc := 143) dX6_rub_143 fX6_25 (sh16 _) (Or.inl rfl) ⟨rfl, rfl⟩ ?_
        refine Ex.iinc (pc := 146) (ls' := [some (.ref 16), some (.int _), some (.int _), some (.int _), some (.int _)]) dX6_rub_146 rfl rfl (by decide) rfl rfl ?_
        refine Ex.goto (pc := 149) (tgt := 2) dX6_rub_149 (by decide) ?_
        rw [show nI k + Int32.ofInt 1 = nI (k + 1) from nI_1 k]
        refine Ex.le (ls' := [some (.ref 16), some (.int (nI n)), some (.int (nI (k + 1))), none, none]) ⟨rfl, rfl, rfl, trivial⟩ (ih _ ⟨((hS5b.up (by decide)).up (by decide)).up (by decide), ?_, ?_, ?_⟩)
        · intro j hj5
          have := hj j hj5
          simp [va_up, upd, e16, show j ≠ 5 by omega, show j ≠ 6 by omega, show j ≠ 8 by omega, show j ≠ 7 by omega, this]
        · rw [← hr]
          have hd : ¬ (tOf I2).2.1 ≤ 0 := c11
          rw [show rubF p (I 17) (m + 1) (tOf I2) = rubF p (I 17) m (strk p (I 17) (tOf I2)) from by simp only [rubF]; rw [if_neg hd]]
          refine congrArg (rubF p (I 17) m) ?_
          simp [tOf, strk, va_up, upd, e16, h16, hS4 16 (by decide), hS4 17 (by decide), h17, outV, wearV, pos0]
          first | done | exact ⟨rfl, rfl⟩ | exact ⟨rfl, rfl, rfl⟩ | rfl
        · refine Or.inr ⟨I2 16 5, I2 16 6, I2 16 7 + 1, ?_⟩
          rw [va_up_n (by decide), va_up_n (by decide), va_up_n (by decide)]
          exact e17
