theorem upd_id {f : Nat → Int32} {k : Nat} {x : Int32} (h : f k = x) : upd f k x = f := by
  funext j
  by_cases e : j = k
  · rw [e, upd_s, h]
  · rw [upd_n e]
theorem upd_upd {f : Nat → Int32} {k : Nat} {x y : Int32} : upd (upd f k x) k y = upd f k y := by
  funext j
  by_cases e : j = k
  · rw [e, upd_s, upd_s]
  · rw [upd_n e, upd_n e, upd_n e]
/-- a board and a stain of a state are others -/
def xSet (x : aX) (b s : Nat) (z d : Int32) : aX := (x.1, x.2.1, x.2.2.1, upd x.2.2.2.1 b z, upd x.2.2.2.2 s d)
theorem XR.set {I I2 : aI} {v nb ns : Nat} {x : aX} (h : XR I v nb ns x) {b s : Nat} {z d : Int32} {l : List Nat} (hS : Sm l I I2) (h63 : 63 ∉ l) (h64 : 64 ∉ l) (h67 : 67 ∉ l) (e65 : I2 65 = upd (I 65) (5 * v + b) z) (e66 : I2 66 = upd (I 66) (6 * v + s) d) : XR I2 v nb ns (xSet x b s z d) := by
  obtain ⟨x1, x2, x3, x4, x5⟩ := h
  refine ⟨by rw [hS 63 h63, x1]; rfl, by rw [hS 64 h64, x2]; rfl, by rw [hS 67 h67, x3]; rfl, ?_, ?_⟩
  · intro b' hb'
    rw [e65]
    show upd (I 65) (5 * v + b) z (5 * v + b') = upd x.2.2.2.1 b z b'
    by_cases e : b' = b
    · rw [e, upd_s, upd_s]
    · rw [upd_n e, upd_n (by omega), x4 b' hb']
  · intro s' hs'
    rw [e66]
    show upd (I 66) (6 * v + s) d (6 * v + s') = upd x.2.2.2.2 s d s'
    by_cases e : s' = s
    · rw [e, upd_s, upd_s]
    · rw [upd_n e, upd_n (by omega), x5 s' hs']
theorem rub_99 (p : aP) (nm : Nat → Int32) : ∀ n t, le99 t.1 → le99 t.2.1 → le99 (rubF p nm n t).1 ∧ le99 (rubF p nm n t).2.1
  | 0, t, h1, h2 => ⟨h1, h2⟩
  | n + 1, t, h1, h2 => by
    simp only [rubF]
    split
    · exact ⟨h1, h2⟩
    · exact rub_99 p nm n _ (pos0_99 h1) (out_99 h2)
theorem rub_sum (p : aP) (nm : Nat → Int32) : ∀ n t, (rubF p nm n t).2.1 + (rubF p nm n t).2.2.2 = t.2.1 + t.2.2.2
  | 0, t => rfl
  | n + 1, t => by
    simp only [rubF]
    split
    · rfl
    · rw [rub_sum p nm n]
      simp only [strk]
      generalize outV _ _ = o
      generalize t.2.1 = a
      generalize t.2.2.2 = b
      grind
theorem rub_came (p : aP) (nm : Nat → Int32) (n : Nat) (z d : Int32) : d - (rubF p nm n (z, d, 0, 0)).2.1 = (rubF p nm n (z, d, 0, 0)).2.2.2 := by
  have h := rub_sum p nm n (z, d, 0, 0)
  have h : (rubF p nm n (z, d, 0, 0)).2.1 + (rubF p nm n (z, d, 0, 0)).2.2.2 = d + 0 := h
  generalize (rubF p nm n (z, d, 0, 0)).2.1 = a at *
  generalize (rubF p nm n (z, d, 0, 0)).2.2.2 = b at *
  grind
set_option maxRecDepth 20000 in
theorem tm_rubs {N : Nat} {I : aI} {L : aL} {p : aP} {bk nb ns nh v b s : Nat} {f5 f6 : Nat → Int32} {x : aX} (hP : RefP I bk nb ns nh p f5 f6) (hX : XR I v nb ns x) (hv : v < 22) (hb : b < nb) (hs : s < ns) {n : Nat} (hn : n < 1000) (hz9 : le99 (x.2.2.2.1 b)) (hd9 : le99 (x.2.2.2.2 s)) : Run 4 0 0 mX10_rubs [.ref 36, .int (nI v), .int (nI b), .int (nI s), .int (nI n)] (St N I L) (RX N (fun w I2 L2 => w = some (.int (rubX p f5 f6 x b s n).2.2.1) ∧ Sm [65, 66, 71] I I2 ∧ SmL [70] L L2 ∧ I2 65 = upd (I 65) (5 * v + b) (rubX p f5 f6 x b s n).1 ∧ I2 66 = upd (I 66) (6 * v + s) (rubX p f5 f6 x b s n).2.1)) := by
  refine Run.of (ls := [some (.ref 36), some (.int _), some (.int _), some (.int _), some (.int _), none]) (by decide) (Nat.le_of_ble_eq_true rfl) rfl ?_
  obtain ⟨⟨h1, h2, hnb, hns, hnh, hcb, hcs, hch⟩, hC, hT, hf1, hf2, hf3⟩ := id hP
  obtain ⟨x1, x2, x3, x4, x5⟩ := id hX
  unfold rubX
  generalize hnm : nmL (f5 b) (f6 (6 + s)) x.2.1 x.1 = nm at *
  refine Ex.iconst (pc := 0) (v := 0) dX10_rubs_0 rfl ?_
  refine Ex.istore (pc := 1) (ls' := [some (.ref 36), some (.int _), some (.int _), some (.int _), some (.int _), some (.int 0)]) dX10_rubs_1 (by decide) rfl rfl ?_
  refine forUp (σ := aI × aL × aT) (P := fun k q => Ex 4 0 0 mX10_rubs 0 0 3 [some (.ref 36), some (.int (nI v)), some (.int (nI b)), some (.int (nI s)), some (.int (nI n)), some (.int (nI k))] [] (St N q.1 q.2.1) _) (Inv := fun k q => Sm [65, 66, 71] I q.1 ∧ SmL [70] L q.2.1 ∧ q.1 65 = upd (I 65) (5 * v + b) q.2.2.1 ∧ q.1 66 = upd (I 66) (6 * v + s) q.2.2.2.1 ∧ le99 q.2.2.1 ∧ le99 q.2.2.2.1 ∧ q.2.2.2.2.1 = nI k ∧ rubF p nm (n - k) q.2.2 = rubF p nm n (x.2.2.2.1 b, x.2.2.2.2 s, 0, 0)) n ?_ ?_ 0 (I, L, x.2.2.2.1 b, x.2.2.2.2 s, 0, 0) (Nat.zero_le _) ⟨Sm.rf, SmL.rf, (upd_id (x4 b hb)).symm, (upd_id (x5 s hs)).symm, hz9, hd9, rfl, rfl⟩
  · rintro ⟨I2, L2, t⟩ ⟨hS, hSL, e65, e66, t1, t2, ek, hr⟩
    rw [Nat.sub_self] at hr
    simp only [rubF] at hr
    dsimp only at *
    refine Ex.iload (pc := 3) dX10_rubs_3 rfl ?_
    refine Ex.iload (pc := 5) dX10_rubs_5 rfl ?_
    refine Ex.icmp_ge (pc := 7) (tgt := 39) dX10_rubs_7 (by decide) (fun _ => ?_) (fun c7 => absurd (nI_le (Nat.le_refl n) (by omega)) c7)
    refine Ex.iload (pc := 39) dX10_rubs_39 rfl ?_
    refine Ex.iret (pc := 41) rfl rfl rfl dX10_rubs_41 (Nat.le_refl _) (Nat.le_refl _) ?_
    rw [← hr]
    exact ⟨_, _, rfl, by rw [ek], hS, hSL, e65, e66⟩
  · rintro k ⟨I2, L2, t⟩ hk ⟨hS, hSL, e65, e66, t1, t2, ek, hr⟩ ih
    obtain ⟨m, hm1, hm2⟩ : ∃ m, n - k = m + 1 ∧ n - (k + 1) = m := ⟨n - k - 1, by omega, by omega⟩
    rw [hm1] at hr
    rw [hm2] at ih
    dsimp only at *
    have hP2 : RefP I2 bk nb ns nh p f5 f6 := hP.sm hS (by decide)
    have hX2 : XR I2 v nb ns (xSet x b s t.1 t.2.1) := hX.set hS (by decide) (by decide) (by decide) e65 e66
    have ez : (xSet x b s t.1 t.2.1).2.2.2.1 b = t.1 := upd_s
    have ed : (xSet x b s t.1 t.2.1).2.2.2.2 s = t.2.1 := upd_s
    have hd6 : I2 66 (6 * v + s) = t.2.1 := by rw [e66, upd_s]
    refine Ex.iload (pc := 3) dX10_rubs_3 rfl ?_
    refine Ex.iload (pc := 5) dX10_rubs_5 rfl ?_
    refine Ex.icmp_ge (pc := 7) (tgt := 39) dX10_rubs_7 (by decide) (fun c7 => absurd c7 (nI_ge hk (by omega))) (fun _ => ?_)
    refine Ex.aload_n (pc := 10) dX10_rubs_10 rfl rfl ?_
    refine Ex.getR (pc := 11) dX10_rubs_11 fX10_162 (sh36 _) r36_49 ?_
    refine Ex.bipush (pc := 14) (v := 6) dX10_rubs_14 rfl ?_
    refine Ex.iload_n (pc := 16) dX10_rubs_16 rfl rfl ?_
    refine Ex.imul (pc := 17) dX10_rubs_17 ?_
    refine Ex.iload_n (pc := 18) dX10_rubs_18 rfl rfl ?_
    refine Ex.iadd (pc := 19) dX10_rubs_19 ?_
    refine Ex.iald (pc := 20) (j := 6 * v + s) dX10_rubs_20 (sh66 _) (ixE (c := 6) (a := v) (b := s) rfl rfl (by omega) (by decide)) (ixE2 (c := 6) rfl rfl (by omega)) ?_
    refine Ex.if_le (pc := 21) (tgt := 39) dX10_rubs_21 (by decide) (fun c21 => ?_) (fun c21 => ?_)
    · skip
      refine Ex.iload (pc := 39) dX10_rubs_39 rfl ?_
      refine Ex.iret (pc := 41) rfl rfl rfl dX10_rubs_41 (Nat.le_refl _) (Nat.le_refl _) ?_
      rw [hd6] at c21
      have hr2 : t = rubF p nm n (x.2.2.2.1 b, x.2.2.2.2 s, 0, 0) := by rw [← hr]; show t = (if t.2.1 ≤ 0 then t else _); rw [if_pos c21]
      rw [← hr2]
      exact ⟨_, _, rfl, by rw [ek], hS, hSL, e65, e66⟩
    · skip
      refine Ex.iinc (pc := 24) (ls' := [some (.ref 36), some (.int _), some (.int _), some (.int _), some (.int _), some (.int _)]) dX10_rubs_24 rfl rfl (by decide) rfl rfl ?_
      rw [show nI k + Int32.ofInt 1 = nI k + 1 from rfl]
      refine Ex.aload_n (pc := 27) dX10_rubs_27 rfl rfl ?_
      refine Ex.iload_n (pc := 28) dX10_rubs_28 rfl rfl ?_
      refine Ex.iload_n (pc := 29) dX10_rubs_29 rfl rfl ?_
      refine Ex.iload_n (pc := 30) dX10_rubs_30 rfl rfl ?_
      refine Ex.iload (pc := 31) dX10_rubs_31 rfl ?_
      refine Ex.callV (pc := 33) (As := [.int _, .int _, .int _, .int _]) (rest := []) dX10_rubs_33 cX10_437 (tm_strikes (rb := nI k) (c := t.2.2.2) hP2 hX2 hv hb hs (by rw [ez]; exact t1) (by rw [ed]; exact t2)) (sh36 _) rfl rfl (by decide) (Nat.le_refl _) (Nat.le_refl _) (Nat.le_of_ble_eq_true rfl) (Or.inl (fun r S' h => by obtain ⟨_, _, h, _⟩ := h; subst h; rfl)) (fun r S' hq _ _ => ?_)
      obtain ⟨I3, L3, rfl, rfl, hS3, hSL3, f65, f66⟩ := hq
      refine Ex.goto (pc := 36) (tgt := 3) dX10_rubs_36 (by decide) ?_
      rw [ez, ed] at f65 f66
      rw [show nmL (f5 b) (f6 (6 + s)) (xSet x b s t.1 t.2.1).2.1 (xSet x b s t.1 t.2.1).1 = nm from hnm] at f65 f66
      have et : (t.1, t.2.1, nI k, t.2.2.2) = t := by rw [← ek]
      rw [et] at f65 f66
      rw [show nI k + 1 = nI (k + 1) from nI_1 k]
      refine ih (I3, L3, strk p nm t) ⟨hS.tr hS3 (by decide) (by decide), hSL.tr hSL3 (by decide) (by decide), ?_, ?_, pos0_99 t1, out_99 t2, ?_, ?_⟩
      · dsimp only; rw [f65, e65, upd_upd]
      · dsimp only; rw [f66, e66, upd_upd]
      · dsimp only; show t.2.2.1 + 1 = nI (k + 1)
        rw [ek]; exact nI_1 k
      · dsimp only
        rw [← hr]
        show rubF p nm m (strk p nm t) = (if t.2.1 ≤ 0 then t else rubF p nm m (strk p nm t))
        rw [hd6] at c21
        rw [if_neg c21]
set_option maxRecDepth 20000 in
theorem tm_isSo {N : Nat} {I : aI} {L : aL} {p : aP} {bk nb ns nh v h r : Nat} {f5 f6 : Nat → Int32} {bb ss cm a g w k z d : Int32} (hP : RefP I bk nb ns nh p f5 f6) (hh : h < nh) (hr : r = 2 ∨ r = 3) (hl : Run 0 0 0 mX10_lays [.ref 36, .int (nI v), .int bb, .int ss] (St N I L) (RP none N L (fun I2 => Sm [71] I I2 ∧ AskB (I2 71) a z d g w k ∧ ∀ j, 7 ≤ j → I2 71 j = I 71 j))) : Run 3 0 0 mX10_isSo [.ref 36, .int (nI r), .int (nI v), .int bb, .int ss, .int (nI h), .int cm] (St N I L) (RX N (fun o I2 L2 => o = some (.int (bI (!decide (evV p (upd (upd (nmV a g w k z d cm) 7 (f5 (12 + h))) 8 (f6 (12 + h))) r 0 = 0)))) ∧ Sm [71] I I2 ∧ SmL [70] L L2)) := by
  refine Run.of (ls := [some (.ref 36), some (.int _), some (.int _), some (.int _), some (.int _), some (.int _), some (.int _)]) (by decide) (Nat.le_of_ble_eq_true rfl) rfl ?_
  obtain ⟨⟨h1, h2, hnb, hns, hnh, hcb, hcs, hch⟩, hC, hT, hf1, hf2, hf3⟩ := id hP
  have hr5 : r < 5 := by omega
  refine Ex.aload_n (pc := 0) dX10_isSo_0 rfl rfl ?_
  refine Ex.iload_n (pc := 1) dX10_isSo_1 rfl rfl ?_
  refine Ex.callV (pc := 2) (As := [.int _]) (rest := []) dX10_isSo_2 cX10_428 (tm_isTold h1 h2 (r := r) hr5) (sh36 _) rfl rfl (by decide) (Nat.le_refl _) (Nat.le_refl _) (Nat.le_of_ble_eq_true rfl) (Or.inl (fun r S' h => by obtain ⟨_, h⟩ := h; subst h; rfl)) (fun r S' hq _ _ => ?_)
  obtain ⟨rfl, rfl⟩ := hq
  refine Ex.if_ne (pc := 5) (tgt := 10) dX10_isSo_5 (by decide) (fun c5 => ?_) (fun c5 => ?_)
  · skip
    refine Ex.aload_n (pc := 10) dX10_isSo_10 rfl rfl ?_
    refine Ex.iload_n (pc := 11) dX10_isSo_11 rfl rfl ?_
    refine Ex.iload_n (pc := 12) dX10_isSo_12 rfl rfl ?_
    refine Ex.iload (pc := 13) dX10_isSo_13 rfl ?_
    refine Ex.callV (pc := 15) (As := [.int _, .int _, .int _]) (rest := []) dX10_isSo_15 cX10_424 hl (sh36 _) rfl rfl (by decide) (Nat.le_refl _) (Nat.le_refl _) (Nat.le_of_ble_eq_true rfl) (Or.inl (fun r S' h => by obtain ⟨_, _, h, _⟩ := h; subst h; rfl)) (fun r S' hq _ _ => ?_)
    obtain ⟨I2, rfl, rfl, hS2, hA2, -⟩ := hq
    have hb2 : I2 36 13 = nI bk := by rw [hS2 36 (by decide), h2]
    refine Ex.aload_n (pc := 18) dX10_isSo_18 rfl rfl ?_
    refine Ex.getR (pc := 19) dX10_isSo_19 fX10_186 (sh36 _) r36_57 ?_
    refine Ex.bipush (pc := 22) (v := 9) dX10_isSo_22 rfl ?_
    refine Ex.aload_n (pc := 24) dX10_isSo_24 rfl rfl ?_
    refine Ex.getR (pc := 25) dX10_isSo_25 fX10_75 (sh36 _) r36_21 ?_
    refine Ex.bipush (pc := 28) (v := 6) dX10_isSo_28 rfl ?_
    refine Ex.aload_n (pc := 30) dX10_isSo_30 rfl rfl ?_
    refine Ex.getI (pc := 31) dX10_isSo_31 fX10_51 (sh36 _) ?_
    refine Ex.imul (pc := 34) dX10_isSo_34 ?_
    refine Ex.iload (pc := 35) dX10_isSo_35 rfl ?_
    refine Ex.iadd (pc := 37) dX10_isSo_37 ?_
    refine Ex.iald (pc := 38) (j := 6 * bk + h) dX10_isSo_38 (sh45 _) (ixE (c := 6) (a := bk) (b := h) hb2 rfl (by omega) (by decide)) (ixE2 (c := 6) hb2 rfl (by omega)) ?_
    refine Ex.iast (pc := 39) (j := 9) dX10_isSo_39 (sh71 _) (by unfold vp_in; decide) (by decide) ?_
    refine Ex.aload_n (pc := 40) dX10_isSo_40 rfl rfl ?_
    refine Ex.getR (pc := 41) dX10_isSo_41 fX10_186 (sh36 _) r36_57 ?_
    refine Ex.bipush (pc := 44) (v := 10) dX10_isSo_44 rfl ?_
    refine Ex.aload_n (pc := 46) dX10_isSo_46 rfl rfl ?_
    refine Ex.getR (pc := 47) dX10_isSo_47 fX10_78 (sh36 _) r36_22 ?_
    refine Ex.bipush (pc := 50) (v := 6) dX10_isSo_50 rfl ?_
    refine Ex.aload_n (pc := 52) dX10_isSo_52 rfl rfl ?_
    refine Ex.getI (pc := 53) dX10_isSo_53 fX10_51 (sh36 _) ?_
    refine Ex.imul (pc := 56) dX10_isSo_56 ?_
    refine Ex.iload (pc := 57) dX10_isSo_57 rfl ?_
    refine Ex.iadd (pc := 59) dX10_isSo_59 ?_
    refine Ex.iald (pc := 60) (j := 6 * bk + h) dX10_isSo_60 (sh46 _) (ixE (c := 6) (a := bk) (b := h) hb2 rfl (by omega) (by decide)) (ixE2 (c := 6) hb2 rfl (by omega)) ?_
    refine Ex.iast (pc := 61) (j := 10) dX10_isSo_61 (sh71 _) (by unfold vp_in; decide) (by decide) ?_
    refine Ex.aload_n (pc := 62) dX10_isSo_62 rfl rfl ?_
    refine Ex.getR (pc := 63) dX10_isSo_63 fX10_186 (sh36 _) r36_57 ?_
    refine Ex.bipush (pc := 66) (v := 11) dX10_isSo_66 rfl ?_
    refine Ex.iload (pc := 68) dX10_isSo_68 rfl ?_
    refine Ex.iast (pc := 70) (j := 11) dX10_isSo_70 (sh71 _) (by unfold vp_in; decide) (by decide) ?_
    obtain ⟨I3, hI3⟩ : ∃ z, z = va_up I2 71 (upd (upd (upd (I2 71) 9 (f5 (12 + h))) 10 (f6 (12 + h))) 11 cm) := ⟨_, rfl⟩
    refine Ex.mm (S' := St N I3 L) ?_ ?_
    · rw [hI3]; simp only [bx_uu, va_up_s]; simp [va_up, hS2 45 (by decide), hS2 46 (by decide), (hf3 h hh).1, (hf3 h hh).2]
    have hS3 : Sm [71] I I3 := by rw [hI3]; exact hS2.up (by decide)
    have hP3 : RefP I3 bk nb ns nh p f5 f6 := hP.sm hS3 (by decide)
    have hb3 : I3 36 13 = nI bk := hP3.1.2.1
    have hC3 : RefC I3 bk p := hP3.2.1
    obtain ⟨a1, a2, a3, a4, a5, a6⟩ := hA2
    have hask : AskR (I3 71) (upd (upd (nmV a g w k z d cm) 7 (f5 (12 + h))) 8 (f6 (12 + h))) r := by
      rw [hI3, va_up_s]
      refine AskR_mk ?_ ?_ ?_ ?_ ?_ ?_ ?_ ?_
      all_goals first | (intro q; omega) | skip
      all_goals simp [upd, nmV, nmL, a1, a2, a3, a4, a5, a6]
    have hlt : p.2.2.1 r < p.2.2.2 r := by
      rcases hC r hr5 with ⟨_, e⟩ | ⟨e, _⟩
      · rw [e] at c5; exact absurd rfl c5
      · exact e
    refine Ex.aload_n (pc := 71) dX10_isSo_71 rfl rfl ?_
    refine Ex.iload_n (pc := 72) dX10_isSo_72 rfl rfl ?_
    refine Ex.callV (pc := 73) (As := [.int _]) (rest := []) dX10_isSo_73 cX10_431 (tm_reckons (w0 := 0) (nm := (upd (upd (nmV a g w k z d cm) 7 (f5 (12 + h))) 8 (f6 (12 + h)))) h1 hb3 hC3 hT hr5 hask hlt) (sh36 _) rfl rfl (by decide) (Nat.le_refl _) (Nat.le_refl _) (Nat.le_of_ble_eq_true rfl) (Or.inl (fun r S' h => by obtain ⟨_, _, h, _⟩ := h; subst h; rfl)) (fun r S' hq _ _ => ?_)
    obtain ⟨_, L3, rfl, rfl, rfl, hL3⟩ := hq
    refine Ex.lconst (pc := 76) (v := 1) dX10_isSo_76 rfl ?_
    refine Ex.lcmp (pc := 77) dX10_isSo_77 ?_
    refine Ex.if_ne (pc := 78) (tgt := 85) dX10_isSo_78 (by decide) (fun c78 => ?_) (fun c78 => ?_)
    · skip
      refine Ex.iconst (pc := 85) (v := 0) dX10_isSo_85 rfl ?_
      refine Ex.iret (pc := 86) rfl rfl rfl dX10_isSo_86 (Nat.le_refl _) (Nat.le_refl _) ?_
      have h01 : evV p (upd (upd (nmV a g w k z d cm) 7 (f5 (12 + h))) 8 (f6 (12 + h))) r 0 = 0 ∨ evV p (upd (upd (nmV a g w k z d cm) 7 (f5 (12 + h))) 8 (f6 (12 + h))) r 0 = 1 := by
        unfold evV
        rw [if_neg (by omega)]
        obtain ⟨hok, hty, hfl⟩ := hT.2 r hr5
        refine flAt_ok _ p.1 p.2.1 (p.2.2.1 r) _ hok ?_ 0 (zAt_pos _ _ _ (by omega)) (hfl hr hlt)
        intro i hi
        rcases hC r hr5 with ⟨e, _⟩ | ⟨_, _, _, _, hcd⟩
        · omega
        · exact CdR_lt (hcd _ (by omega) (by omega))
      rw [lg_cmp_eq, show (1 : Int64) = (1 : Int32).toInt64 from rfl, l64_eq] at c78
      refine ⟨_, _, rfl, ?_, hS3, hL3⟩
      rcases h01 with e | e
      · rw [e] at c78 ⊢; first | rfl | exact absurd c78 (by decide)
      · rw [e] at c78 ⊢; first | rfl | exact absurd rfl c78
    · skip
      refine Ex.iconst (pc := 81) (v := 1) dX10_isSo_81 rfl ?_
      refine Ex.goto (pc := 82) (tgt := 86) dX10_isSo_82 (by decide) ?_
      refine Ex.iret (pc := 86) rfl rfl rfl dX10_isSo_86 (Nat.le_refl _) (Nat.le_refl _) ?_
      have h01 : evV p (upd (upd (nmV a g w k z d cm) 7 (f5 (12 + h))) 8 (f6 (12 + h))) r 0 = 0 ∨ evV p (upd (upd (nmV a g w k z d cm) 7 (f5 (12 + h))) 8 (f6 (12 + h))) r 0 = 1 := by
        unfold evV
        rw [if_neg (by omega)]
        obtain ⟨hok, hty, hfl⟩ := hT.2 r hr5
        refine flAt_ok _ p.1 p.2.1 (p.2.2.1 r) _ hok ?_ 0 (zAt_pos _ _ _ (by omega)) (hfl hr hlt)
        intro i hi
        rcases hC r hr5 with ⟨e, _⟩ | ⟨_, _, _, _, hcd⟩
        · omega
        · exact CdR_lt (hcd _ (by omega) (by omega))
      rw [lg_cmp_eq, show (1 : Int64) = (1 : Int32).toInt64 from rfl, l64_eq] at c78
      refine ⟨_, _, rfl, ?_, hS3, hL3⟩
      rcases h01 with e | e
      · rw [e] at c78 ⊢; first | rfl | exact absurd c78 (by decide)
      · rw [e] at c78 ⊢; first | rfl | exact absurd rfl c78
  · skip
    refine Ex.iconst (pc := 8) (v := 0) dX10_isSo_8 rfl ?_
    refine Ex.iret (pc := 9) rfl rfl rfl dX10_isSo_9 (Nat.le_refl _) (Nat.le_refl _) ?_
    have heq : p.2.2.1 r = p.2.2.2 r := by
      rcases hC r hr5 with ⟨e, _⟩ | ⟨e, e1, e2, _⟩
      · exact e
      · rw [e2] at c5; exact absurd (of_decide_eq_true (by simpa [bI] using c5)) (show ¬ nI (p.2.2.1 r) = -1 from fun q => absurd (show nI (p.2.2.1 r) < 0 from by rw [q]; decide) (nI_pos (by omega)))
    exact ⟨_, _, rfl, by rw [evV_w heq]; rfl, Sm.rf, SmL.rf⟩
