def okSer (I : aI) (nb ns : Nat) (w v n : Int32) : Prop := (inR w nb && inR v ns) = true ∧ ¬ n < 1 ∧ ¬ 40 < n ∧ ¬ I 12 v.toNatClampNeg = 0
def okSoil (I : aI) (ns : Nat) (w v : Int32) : Prop := inR w ns = true ∧ ¬ v < 1 ∧ ¬ 99 < v ∧ I 12 w.toNatClampNeg < 99
def okMend (I : aI) (nb : Nat) (w : Int32) : Prop := inR w nb = true ∧ ¬ I 11 w.toNatClampNeg = I 6 w.toNatClampNeg
def okPour (I : aI) (w : Int32) : Prop := ¬ w < 0 ∧ ¬ 99 < w ∧ ¬ w = I 10 1
set_option maxRecDepth 20000 in
theorem t_sermon0 {N : Nat} {I : aI} {L : aL} {nb ns nh : Nat} (hc : CntOk I nb ns nh) {w v n : Int32} (hbad : ¬ okSer I nb ns w v n) : Run 2 0 0 mX9_sermon [.ref 0, .int w, .int v, .int n] (St N I L) (RI (-1) (St N (refI I 3) L)) := by
  refine Run.of (ls := [some (.ref 0), some (.int _), some (.int _), some (.int _)]) (by decide) (Nat.le_of_ble_eq_true rfl) rfl ?_
  obtain ⟨hc0, hb5, hc1, hs6, hc2, hh6, hrib⟩ := id hc
  refine Ex.aload_n (pc := 0) dX9_sermon_0 rfl rfl ?_
  refine Ex.iload_n (pc := 1) dX9_sermon_1 rfl rfl ?_
  refine Ex.iload_n (pc := 2) dX9_sermon_2 rfl rfl ?_
  refine Ex.callV (pc := 3) (As := [.int _, .int _]) (rest := []) dX9_sermon_3 cX9_204 (t_areThere (nb := nb) (ns := ns) (nh := nh) hc) (sh0 _) rfl rfl (by decide) (Nat.le_refl _) (Nat.le_refl _) (Nat.le_of_ble_eq_true rfl) (Or.inl (fun r S' h => by obtain ⟨_, h⟩ := h; subst h; rfl)) (fun r S' hq _ _ => ?_)
  obtain ⟨rfl, rfl⟩ := hq
  refine Ex.if_eq (pc := 6) (tgt := 32) dX9_sermon_6 (by decide) (fun c6 => ?_) (fun c6 => ?_)
  · skip
    refine Ex.aload_n (pc := 32) dX9_sermon_32 rfl rfl ?_
    refine Ex.iconst (pc := 33) (v := 3) dX9_sermon_33 rfl ?_
    refine Ex.callV (pc := 34) (As := [.int 3]) (rest := []) dX9_sermon_34 cX9_102 (t_refuse (k := 3) (by decide)) (sh0 _) rfl rfl (by decide) (Nat.le_refl _) (Nat.le_refl _) (Nat.le_of_ble_eq_true rfl) (Or.inl (fun r S' h => by obtain ⟨_, h⟩ := h; subst h; rfl)) (fun r S' hq _ _ => ?_)
    obtain ⟨rfl, rfl⟩ := hq
    refine Ex.iret (pc := 37) rfl rfl rfl dX9_sermon_37 (Nat.le_refl _) (Nat.le_refl _) ?_
    exact ⟨rfl, rfl⟩
  · skip
    have hin := bI_1 c6
    obtain ⟨j, hj, rfl⟩ := inR_of ((Bool.and_eq_true _ _).mp hin).1 (by omega)
    obtain ⟨i, hi, rfl⟩ := inR_of ((Bool.and_eq_true _ _).mp hin).2 (by omega)
    refine Ex.iload_n (pc := 9) dX9_sermon_9 rfl rfl ?_
    refine Ex.iconst (pc := 10) (v := 1) dX9_sermon_10 rfl ?_
    refine Ex.icmp_lt (pc := 11) (tgt := 32) dX9_sermon_11 (by decide) (fun c11 => ?_) (fun c11 => ?_)
    · skip
      refine Ex.aload_n (pc := 32) dX9_sermon_32 rfl rfl ?_
      refine Ex.iconst (pc := 33) (v := 3) dX9_sermon_33 rfl ?_
      refine Ex.callV (pc := 34) (As := [.int 3]) (rest := []) dX9_sermon_34 cX9_102 (t_refuse (k := 3) (by decide)) (sh0 _) rfl rfl (by decide) (Nat.le_refl _) (Nat.le_refl _) (Nat.le_of_ble_eq_true rfl) (Or.inl (fun r S' h => by obtain ⟨_, h⟩ := h; subst h; rfl)) (fun r S' hq _ _ => ?_)
      obtain ⟨rfl, rfl⟩ := hq
      refine Ex.iret (pc := 37) rfl rfl rfl dX9_sermon_37 (Nat.le_refl _) (Nat.le_refl _) ?_
      exact ⟨rfl, rfl⟩
    · skip
      refine Ex.iload_n (pc := 14) dX9_sermon_14 rfl rfl ?_
      refine Ex.bipush (pc := 15) (v := 40) dX9_sermon_15 rfl ?_
      refine Ex.icmp_gt (pc := 17) (tgt := 32) dX9_sermon_17 (by decide) (fun c17 => ?_) (fun c17 => ?_)
      · skip
        refine Ex.aload_n (pc := 32) dX9_sermon_32 rfl rfl ?_
        refine Ex.iconst (pc := 33) (v := 3) dX9_sermon_33 rfl ?_
        refine Ex.callV (pc := 34) (As := [.int 3]) (rest := []) dX9_sermon_34 cX9_102 (t_refuse (k := 3) (by decide)) (sh0 _) rfl rfl (by decide) (Nat.le_refl _) (Nat.le_refl _) (Nat.le_of_ble_eq_true rfl) (Or.inl (fun r S' h => by obtain ⟨_, h⟩ := h; subst h; rfl)) (fun r S' hq _ _ => ?_)
        obtain ⟨rfl, rfl⟩ := hq
        refine Ex.iret (pc := 37) rfl rfl rfl dX9_sermon_37 (Nat.le_refl _) (Nat.le_refl _) ?_
        exact ⟨rfl, rfl⟩
      · skip
        refine Ex.aload_n (pc := 20) dX9_sermon_20 rfl rfl ?_
        refine Ex.getR (pc := 21) dX9_sermon_21 fX9_35 (sh0 _) r0_5 ?_
        refine Ex.getR (pc := 24) dX9_sermon_24 fX9_192 (sh10 _) r10_5 ?_
        refine Ex.iload_n (pc := 27) dX9_sermon_27 rfl rfl ?_
        refine Ex.iald (pc := 28) (j := i) dX9_sermon_28 (sh12 _) (vp_in_nI (by omega) (by decide)) (ixN2 (by omega)) ?_
        refine Ex.if_ne (pc := 29) (tgt := 38) dX9_sermon_29 (by decide) (fun c29 => ?_) (fun c29 => ?_)
        · skip
          exact absurd ⟨hin, c11, c17, by rw [nI_clamp (by omega)]; exact c29⟩ hbad
        · skip
          refine Ex.aload_n (pc := 32) dX9_sermon_32 rfl rfl ?_
          refine Ex.iconst (pc := 33) (v := 3) dX9_sermon_33 rfl ?_
          refine Ex.callV (pc := 34) (As := [.int 3]) (rest := []) dX9_sermon_34 cX9_102 (t_refuse (k := 3) (by decide)) (sh0 _) rfl rfl (by decide) (Nat.le_refl _) (Nat.le_refl _) (Nat.le_of_ble_eq_true rfl) (Or.inl (fun r S' h => by obtain ⟨_, h⟩ := h; subst h; rfl)) (fun r S' hq _ _ => ?_)
          obtain ⟨rfl, rfl⟩ := hq
          refine Ex.iret (pc := 37) rfl rfl rfl dX9_sermon_37 (Nat.le_refl _) (Nat.le_refl _) ?_
          exact ⟨rfl, rfl⟩
set_option maxRecDepth 20000 in
theorem t_sermon1 {N : Nat} {I : aI} {L : aL} {nb ns nh : Nat} (hc : CntOk I nb ns nh) {p : aP} {nx : Nat} {us : List (Nat → Int32)} (ha : ActsR I nx us) {b s n lo : Nat} {ks : List aRow} (hp : PlanG N I p) (hk : KeptR I lo ks) (hlo : ks.length < lo + 840) (hl2 : ks.length < 2 ^ 28) (hb : b < nb) (hs : s < ns) (hn1 : 1 ≤ n) (hn : n ≤ 40) (hd : ¬ I 12 s = 0) : Run 6 0 0 mX9_sermon [.ref 0, .int (nI b), .int (nI s), .int (nI n)] (St N I L) (RP (some (.int (rubX p (I 5) (I 6) (xOf I 10) b s n).2.2.2)) N L (fun I2 => Sm [10, 11, 12, 16, 17, 18, 19, 20, 22, 26, 30] I I2 ∧ xOf I2 10 = preachX p (I 5) (I 6) nh (xOf I 10) b s n ∧ KeptR I2 lo (ks ++ [(I 10 0, nI b, nI s, (rubX p (I 5) (I 6) (xOf I 10) b s n).2.2.2)]) ∧ ActsR I2 ((nx + 1) % 20) ((snap I 10 :: us).take 20) ∧ I2 26 = upd (I 26) 0 0 ∧ I2 30 = upd (I 30) 0 (-1))) := by
  refine Run.of (ls := [some (.ref 0), some (.int _), some (.int _), some (.int _)]) (by decide) (Nat.le_of_ble_eq_true rfl) rfl ?_
  obtain ⟨hc0, hb5, hc1, hs6, hc2, hh6, hrib⟩ := id hc
  refine Ex.aload_n (pc := 0) dX9_sermon_0 rfl rfl ?_
  refine Ex.iload_n (pc := 1) dX9_sermon_1 rfl rfl ?_
  refine Ex.iload_n (pc := 2) dX9_sermon_2 rfl rfl ?_
  refine Ex.callV (pc := 3) (As := [.int _, .int _]) (rest := []) dX9_sermon_3 cX9_204 (t_areThere (nb := nb) (ns := ns) (nh := nh) hc) (sh0 _) rfl rfl (by decide) (Nat.le_refl _) (Nat.le_refl _) (Nat.le_of_ble_eq_true rfl) (Or.inl (fun r S' h => by obtain ⟨_, h⟩ := h; subst h; rfl)) (fun r S' hq _ _ => ?_)
  obtain ⟨rfl, rfl⟩ := hq
  rw [inR_nI hb (by omega), inR_nI hs (by omega)]
  refine Ex.if_eq (pc := 6) (tgt := 32) dX9_sermon_6 (by decide) (fun c6 => absurd c6 (by decide)) (fun _ => ?_)
  refine Ex.iload_n (pc := 9) dX9_sermon_9 rfl rfl ?_
  refine Ex.iconst (pc := 10) (v := 1) dX9_sermon_10 rfl ?_
  refine Ex.icmp_lt (pc := 11) (tgt := 32) dX9_sermon_11 (by decide) (fun c11 => absurd c11 (nI_nlt (b := 1) (by omega) (by omega))) (fun _ => ?_)
  refine Ex.iload_n (pc := 14) dX9_sermon_14 rfl rfl ?_
  refine Ex.bipush (pc := 15) (v := 40) dX9_sermon_15 rfl ?_
  refine Ex.icmp_gt (pc := 17) (tgt := 32) dX9_sermon_17 (by decide) (fun c17 => absurd c17 (nI_nlt (a := 40) (by omega) (by decide))) (fun _ => ?_)
  refine Ex.aload_n (pc := 20) dX9_sermon_20 rfl rfl ?_
  refine Ex.getR (pc := 21) dX9_sermon_21 fX9_35 (sh0 _) r0_5 ?_
  refine Ex.getR (pc := 24) dX9_sermon_24 fX9_192 (sh10 _) r10_5 ?_
  refine Ex.iload_n (pc := 27) dX9_sermon_27 rfl rfl ?_
  refine Ex.iald (pc := 28) (j := s) dX9_sermon_28 (sh12 _) (vp_in_nI (by omega) (by decide)) (ixN2 (by omega)) ?_
  refine Ex.if_ne (pc := 29) (tgt := 38) dX9_sermon_29 (by decide) (fun _ => ?_) (fun c29 => absurd c29 hd)
  refine Ex.aload_n (pc := 38) dX9_sermon_38 rfl rfl ?_
  refine Ex.callV (pc := 39) (As := []) (rest := []) dX9_sermon_39 cX9_279 (t_beginAct ha) (sh0 _) rfl rfl (by decide) (Nat.le_refl _) (Nat.le_refl _) (Nat.le_of_ble_eq_true rfl) (Or.inl (fun r S' h => by obtain ⟨_, _, h, _⟩ := h; subst h; rfl)) (fun r S' hq _ _ => ?_)
  obtain ⟨I3, rfl, rfl, hS3, hA3, h26, h30⟩ := hq
  refine Ex.aload_n (pc := 42) dX9_sermon_42 rfl rfl ?_
  refine Ex.getR (pc := 43) dX9_sermon_43 fX9_47 (sh0 _) r0_7 ?_
  refine Ex.aload_n (pc := 46) dX9_sermon_46 rfl rfl ?_
  refine Ex.getR (pc := 47) dX9_sermon_47 fX9_35 (sh0 _) r0_5 ?_
  refine Ex.iload_n (pc := 50) dX9_sermon_50 rfl rfl ?_
  refine Ex.iload_n (pc := 51) dX9_sermon_51 rfl rfl ?_
  refine Ex.iload_n (pc := 52) dX9_sermon_52 rfl rfl ?_
  refine Ex.callV (pc := 53) (As := [.ref 10, .int _, .int _, .int _]) (rest := []) dX9_sermon_53 cX9_295 (t_preach10 (p := p) (b := b) (s := s) (n := n) (nh := nh) (hp.sm hS3 (by decide) (by decide) (by decide) (by decide)) (by omega) (by omega) (by omega) (by rw [hS3 3 (by decide)]; exact hc2) hh6) (sh16 _) rfl rfl (by decide) (Nat.le_refl _) (Nat.le_refl _) (Nat.le_of_ble_eq_true rfl) (Or.inl (fun r S' h => by obtain ⟨_, _, h, _⟩ := h; subst h; rfl)) (fun r S' hq _ _ => ?_)
  obtain ⟨I4, rfl, rfl, hS4, hx4, h43, ht4, hb4, hs4, -⟩ := hq
  rw [hS3 5 (by decide), hS3 6 (by decide), show xOf I3 10 = (xOf I 10) from by simp only [xOf]; rw [hS3 10 (by decide), hS3 11 (by decide), hS3 12 (by decide)]] at hx4 ht4
  have hn4 : I4 10 3 = nI ks.length := by rw [h43, hS3 10 (by decide)]; exact hk.1
  have hw4 : I4 10 0 = I 10 0 := by have := congrArg (fun t => t.1) hx4; exact this
  refine Ex.aload_n (pc := 56) dX9_sermon_56 rfl rfl ?_
  refine Ex.aload_n (pc := 57) dX9_sermon_57 rfl rfl ?_
  refine Ex.getR (pc := 58) dX9_sermon_58 fX9_35 (sh0 _) r0_5 ?_
  refine Ex.getI (pc := 61) dX9_sermon_61 fX9_147 (sh10 _) ?_
  refine Ex.callV (pc := 64) (As := [.int _]) (rest := []) dX9_sermon_64 cX9_299 (t_keep (n := ks.length) hn4 (by omega)) (sh0 _) rfl rfl (by decide) (Nat.le_refl _) (Nat.le_refl _) (Nat.le_of_ble_eq_true rfl) (Or.inl (fun r S' h => by obtain ⟨_, h⟩ := h; subst h; rfl)) (fun r S' hq _ _ => ?_)
  obtain ⟨rfl, rfl⟩ := hq
  refine Ex.aload_n (pc := 67) dX9_sermon_67 rfl rfl ?_
  refine Ex.getR (pc := 68) dX9_sermon_68 fX9_47 (sh0 _) r0_7 ?_
  refine Ex.getI (pc := 71) dX9_sermon_71 fX9_286 (sh16 _) ?_
  refine Ex.iret (pc := 74) rfl rfl rfl dX9_sermon_74 (Nat.le_refl _) (Nat.le_refl _) ?_
  have e8 : I4 16 8 = (rubX p (I 5) (I 6) (xOf I 10) b s n).2.2.2 := by rw [← ht4]; rfl
  refine ⟨_, ?_, rfl, ?_, ?_, ?_, ?_, ?_, ?_⟩
  · rw [va_up_n (by decide), va_up_n (by decide), e8]
  · exact ((((hS3.tr hS4 (l := [10, 11, 12, 16, 17, 18, 19, 20, 22, 26, 30]) (by decide) (by decide)).up (by decide)).up (by decide)))
  · rw [← hx4]; simp only [xOf, va_up_s, va_up_n (show (11 : Nat) ≠ 10 by decide), va_up_n (show (12 : Nat) ≠ 10 by decide), va_up_n (show (11 : Nat) ≠ 22 by decide), va_up_n (show (12 : Nat) ≠ 22 by decide), upd_n (show (0 : Nat) ≠ 3 by decide), upd_n (show (1 : Nat) ≠ 3 by decide), upd_n (show (2 : Nat) ≠ 3 by decide)]
  · refine ⟨?_, ?_, ?_, ?_⟩
    · rw [va_up_s, upd_s]; simp
    · simp; omega
    · simp; omega
    · intro i r h1 h2
      rw [va_up_n (by decide), va_up_s]
      by_cases e : i = ks.length
      · subst e
        rw [upd_s]
        simp at h2
        rw [← h2, hb4, hs4, e8, hw4]
      · have hi : i < ks.length := by have := (List.getElem?_eq_some_iff.mp h2).1; simp at this; omega
        rw [upd_n (mod_ne hi (by omega)), hS4 22 (by decide), hS3 22 (by decide)]
        rw [List.getElem?_append_left hi] at h2
        exact hk.2.2.2 i r h1 h2
  · refine hA3.sm (l := [10, 11, 12, 16, 17, 18, 22]) ?_ (by decide) (by decide)
    exact (((Sm.tr hS4 (l := [10, 11, 12, 16, 17, 18, 22]) (l2 := []) Sm.rf (by decide) (by decide)).up (by decide)).up (by decide))
  · rw [va_up_n (by decide), va_up_n (by decide), hS4 26 (by decide)]; exact h26
  · rw [va_up_n (by decide), va_up_n (by decide), hS4 30 (by decide)]; exact h30
set_option maxRecDepth 20000 in
theorem t_soil0 {N : Nat} {I : aI} {L : aL} {nb ns nh : Nat} (hc : CntOk I nb ns nh) {w v : Int32} (hbad : ¬ okSoil I ns w v) : Run 2 0 0 mX9_soil [.ref 0, .int w, .int v] (St N I L) (RI (-1) (St N (refI I 3) L)) := by
  refine Run.of (ls := [some (.ref 0), some (.int _), some (.int _)]) (by decide) (Nat.le_of_ble_eq_true rfl) rfl ?_
  obtain ⟨hc0, hb5, hc1, hs6, hc2, hh6, hrib⟩ := id hc
  refine Ex.aload_n (pc := 0) dX9_soil_0 rfl rfl ?_
  refine Ex.getR (pc := 1) dX9_soil_1 fX9_22 (sh0 _) r0_2 ?_
  refine Ex.iconst (pc := 4) (v := 1) dX9_soil_4 rfl ?_
  refine Ex.iload_n (pc := 5) dX9_soil_5 rfl rfl ?_
  refine Ex.callV (pc := 6) (As := [.int 1, .int _]) (rest := []) dX9_soil_6 cX9_182 (t_holdsB (s := 1) (n := ns) (by decide) hc1) (sh2 _) rfl rfl (by decide) (Nat.le_refl _) (Nat.le_refl _) (Nat.le_of_ble_eq_true rfl) (Or.inl (fun r S' h => by obtain ⟨_, h⟩ := h; subst h; rfl)) (fun r S' hq _ _ => ?_)
  obtain ⟨rfl, rfl⟩ := hq
  refine Ex.if_eq (pc := 9) (tgt := 37) dX9_soil_9 (by decide) (fun c9 => ?_) (fun c9 => ?_)
  · skip
    refine Ex.aload_n (pc := 37) dX9_soil_37 rfl rfl ?_
    refine Ex.iconst (pc := 38) (v := 3) dX9_soil_38 rfl ?_
    refine Ex.callV (pc := 39) (As := [.int 3]) (rest := []) dX9_soil_39 cX9_102 (t_refuse (k := 3) (by decide)) (sh0 _) rfl rfl (by decide) (Nat.le_refl _) (Nat.le_refl _) (Nat.le_of_ble_eq_true rfl) (Or.inl (fun r S' h => by obtain ⟨_, h⟩ := h; subst h; rfl)) (fun r S' hq _ _ => ?_)
    obtain ⟨rfl, rfl⟩ := hq
    refine Ex.iret (pc := 42) rfl rfl rfl dX9_soil_42 (Nat.le_refl _) (Nat.le_refl _) ?_
    exact ⟨rfl, rfl⟩
  · skip
    have hin := bI_1 c9
    obtain ⟨j, hj, rfl⟩ := inR_of hin (by omega)
    refine Ex.iload_n (pc := 12) dX9_soil_12 rfl rfl ?_
    refine Ex.iconst (pc := 13) (v := 1) dX9_soil_13 rfl ?_
    refine Ex.icmp_lt (pc := 14) (tgt := 37) dX9_soil_14 (by decide) (fun c14 => ?_) (fun c14 => ?_)
    · skip
      refine Ex.aload_n (pc := 37) dX9_soil_37 rfl rfl ?_
      refine Ex.iconst (pc := 38) (v := 3) dX9_soil_38 rfl ?_
      refine Ex.callV (pc := 39) (As := [.int 3]) (rest := []) dX9_soil_39 cX9_102 (t_refuse (k := 3) (by decide)) (sh0 _) rfl rfl (by decide) (Nat.le_refl _) (Nat.le_refl _) (Nat.le_of_ble_eq_true rfl) (Or.inl (fun r S' h => by obtain ⟨_, h⟩ := h; subst h; rfl)) (fun r S' hq _ _ => ?_)
      obtain ⟨rfl, rfl⟩ := hq
      refine Ex.iret (pc := 42) rfl rfl rfl dX9_soil_42 (Nat.le_refl _) (Nat.le_refl _) ?_
      exact ⟨rfl, rfl⟩
    · skip
      refine Ex.iload_n (pc := 17) dX9_soil_17 rfl rfl ?_
      refine Ex.bipush (pc := 18) (v := 99) dX9_soil_18 rfl ?_
      refine Ex.icmp_gt (pc := 20) (tgt := 37) dX9_soil_20 (by decide) (fun c20 => ?_) (fun c20 => ?_)
      · skip
        refine Ex.aload_n (pc := 37) dX9_soil_37 rfl rfl ?_
        refine Ex.iconst (pc := 38) (v := 3) dX9_soil_38 rfl ?_
        refine Ex.callV (pc := 39) (As := [.int 3]) (rest := []) dX9_soil_39 cX9_102 (t_refuse (k := 3) (by decide)) (sh0 _) rfl rfl (by decide) (Nat.le_refl _) (Nat.le_refl _) (Nat.le_of_ble_eq_true rfl) (Or.inl (fun r S' h => by obtain ⟨_, h⟩ := h; subst h; rfl)) (fun r S' hq _ _ => ?_)
        obtain ⟨rfl, rfl⟩ := hq
        refine Ex.iret (pc := 42) rfl rfl rfl dX9_soil_42 (Nat.le_refl _) (Nat.le_refl _) ?_
        exact ⟨rfl, rfl⟩
      · skip
        refine Ex.aload_n (pc := 23) dX9_soil_23 rfl rfl ?_
        refine Ex.getR (pc := 24) dX9_soil_24 fX9_35 (sh0 _) r0_5 ?_
        refine Ex.getR (pc := 27) dX9_soil_27 fX9_192 (sh10 _) r10_5 ?_
        refine Ex.iload_n (pc := 30) dX9_soil_30 rfl rfl ?_
        refine Ex.iald (pc := 31) (j := j) dX9_soil_31 (sh12 _) (vp_in_nI (by omega) (by decide)) (ixN2 (by omega)) ?_
        refine Ex.bipush (pc := 32) (v := 99) dX9_soil_32 rfl ?_
        refine Ex.icmp_lt (pc := 34) (tgt := 43) dX9_soil_34 (by decide) (fun c34 => ?_) (fun c34 => ?_)
        · skip
          exact absurd ⟨hin, c14, c20, by rw [nI_clamp (by omega)]; exact c34⟩ hbad
        · skip
          refine Ex.aload_n (pc := 37) dX9_soil_37 rfl rfl ?_
          refine Ex.iconst (pc := 38) (v := 3) dX9_soil_38 rfl ?_
          refine Ex.callV (pc := 39) (As := [.int 3]) (rest := []) dX9_soil_39 cX9_102 (t_refuse (k := 3) (by decide)) (sh0 _) rfl rfl (by decide) (Nat.le_refl _) (Nat.le_refl _) (Nat.le_of_ble_eq_true rfl) (Or.inl (fun r S' h => by obtain ⟨_, h⟩ := h; subst h; rfl)) (fun r S' hq _ _ => ?_)
          obtain ⟨rfl, rfl⟩ := hq
          refine Ex.iret (pc := 42) rfl rfl rfl dX9_soil_42 (Nat.le_refl _) (Nat.le_refl _) ?_
          exact ⟨rfl, rfl⟩
set_option maxRecDepth 20000 in
theorem t_soil1 {N : Nat} {I : aI} {L : aL} {nb ns nh : Nat} (hc : CntOk I nb ns nh) {nx : Nat} {us : List (Nat → Int32)} (ha : ActsR I nx us) {s : Nat} {v : Int32} (hs : s < ns) (h1 : ¬ v < 1) (h2 : ¬ 99 < v) (hd : I 12 s < 99) : Run 3 0 0 mX9_soil [.ref 0, .int (nI s), .int v] (St N I L) (RP (some (.int (if I 12 s + v < 99 then I 12 s + v else 99))) N L (fun I2 => Sm [12, 19, 20, 26, 30] I I2 ∧ I2 12 = upd (I 12) s (if I 12 s + v < 99 then I 12 s + v else 99) ∧ ActsR I2 ((nx + 1) % 20) ((snap I 10 :: us).take 20) ∧ I2 26 = upd (I 26) 0 0 ∧ I2 30 = upd (I 30) 0 (-1))) := by
  refine Run.of (ls := [some (.ref 0), some (.int _), some (.int _)]) (by decide) (Nat.le_of_ble_eq_true rfl) rfl ?_
  obtain ⟨hc0, hb5, hc1, hs6, hc2, hh6, hrib⟩ := id hc
  refine Ex.aload_n (pc := 0) dX9_soil_0 rfl rfl ?_
  refine Ex.getR (pc := 1) dX9_soil_1 fX9_22 (sh0 _) r0_2 ?_
  refine Ex.iconst (pc := 4) (v := 1) dX9_soil_4 rfl ?_
  refine Ex.iload_n (pc := 5) dX9_soil_5 rfl rfl ?_
  refine Ex.callV (pc := 6) (As := [.int 1, .int _]) (rest := []) dX9_soil_6 cX9_182 (t_holdsB (s := 1) (n := ns) (by decide) hc1) (sh2 _) rfl rfl (by decide) (Nat.le_refl _) (Nat.le_refl _) (Nat.le_of_ble_eq_true rfl) (Or.inl (fun r S' h => by obtain ⟨_, h⟩ := h; subst h; rfl)) (fun r S' hq _ _ => ?_)
  obtain ⟨rfl, rfl⟩ := hq
  rw [inR_nI hs (by omega)]
  refine Ex.if_eq (pc := 9) (tgt := 37) dX9_soil_9 (by decide) (fun c9 => absurd c9 (by decide)) (fun _ => ?_)
  refine Ex.iload_n (pc := 12) dX9_soil_12 rfl rfl ?_
  refine Ex.iconst (pc := 13) (v := 1) dX9_soil_13 rfl ?_
  refine Ex.icmp_lt (pc := 14) (tgt := 37) dX9_soil_14 (by decide) (fun c14 => absurd c14 h1) (fun _ => ?_)
  refine Ex.iload_n (pc := 17) dX9_soil_17 rfl rfl ?_
  refine Ex.bipush (pc := 18) (v := 99) dX9_soil_18 rfl ?_
  refine Ex.icmp_gt (pc := 20) (tgt := 37) dX9_soil_20 (by decide) (fun c20 => absurd c20 h2) (fun _ => ?_)
  refine Ex.aload_n (pc := 23) dX9_soil_23 rfl rfl ?_
  refine Ex.getR (pc := 24) dX9_soil_24 fX9_35 (sh0 _) r0_5 ?_
  refine Ex.getR (pc := 27) dX9_soil_27 fX9_192 (sh10 _) r10_5 ?_
  refine Ex.iload_n (pc := 30) dX9_soil_30 rfl rfl ?_
  refine Ex.iald (pc := 31) (j := s) dX9_soil_31 (sh12 _) (vp_in_nI (by omega) (by decide)) (ixN2 (by omega)) ?_
  refine Ex.bipush (pc := 32) (v := 99) dX9_soil_32 rfl ?_
  refine Ex.icmp_lt (pc := 34) (tgt := 43) dX9_soil_34 (by decide) (fun _ => ?_) (fun c34 => absurd hd c34)
  refine Ex.aload_n (pc := 43) dX9_soil_43 rfl rfl ?_
  refine Ex.callV (pc := 44) (As := []) (rest := []) dX9_soil_44 cX9_279 (t_beginAct ha) (sh0 _) rfl rfl (by decide) (Nat.le_refl _) (Nat.le_refl _) (Nat.le_of_ble_eq_true rfl) (Or.inl (fun r S' h => by obtain ⟨_, _, h, _⟩ := h; subst h; rfl)) (fun r S' hq _ _ => ?_)
  obtain ⟨I3, rfl, rfl, hS3, hA3, h26, h30⟩ := hq
  refine Ex.aload_n (pc := 47) dX9_soil_47 rfl rfl ?_
  refine Ex.getR (pc := 48) dX9_soil_48 fX9_35 (sh0 _) r0_5 ?_
  refine Ex.getR (pc := 51) dX9_soil_51 fX9_192 (sh10 _) r10_5 ?_
  refine Ex.iload_n (pc := 54) dX9_soil_54 rfl rfl ?_
  refine Ex.bipush (pc := 55) (v := 99) dX9_soil_55 rfl ?_
  refine Ex.aload_n (pc := 57) dX9_soil_57 rfl rfl ?_
  refine Ex.getR (pc := 58) dX9_soil_58 fX9_35 (sh0 _) r0_5 ?_
  refine Ex.getR (pc := 61) dX9_soil_61 fX9_192 (sh10 _) r10_5 ?_
  refine Ex.iload_n (pc := 64) dX9_soil_64 rfl rfl ?_
  refine Ex.iald (pc := 65) (j := s) dX9_soil_65 (sh12 _) (vp_in_nI (by omega) (by decide)) (ixN2 (by omega)) ?_
  refine Ex.iload_n (pc := 66) dX9_soil_66 rfl rfl ?_
  refine Ex.iadd (pc := 67) dX9_soil_67 ?_
  refine Ex.min (pc := 68) dX9_soil_68 kl_X9_171 (by decide) (Nat.le_of_ble_eq_true rfl) (Nat.le_refl _) (Nat.le_refl _) ?_
  refine Ex.iast (pc := 71) (j := s) dX9_soil_71 (sh12 _) (vp_in_nI (by omega) (by decide)) (ixN2 (by omega)) ?_
  refine Ex.aload_n (pc := 72) dX9_soil_72 rfl rfl ?_
  refine Ex.getR (pc := 73) dX9_soil_73 fX9_35 (sh0 _) r0_5 ?_
  refine Ex.getR (pc := 76) dX9_soil_76 fX9_192 (sh10 _) r10_5 ?_
  refine Ex.iload_n (pc := 79) dX9_soil_79 rfl rfl ?_
  refine Ex.iald (pc := 80) (j := s) dX9_soil_80 (sh12 _) (vp_in_nI (by omega) (by decide)) (ixN2 (by omega)) ?_
  refine Ex.iret (pc := 81) rfl rfl rfl dX9_soil_81 (Nat.le_refl _) (Nat.le_refl _) ?_
  refine ⟨_, ?_, rfl, ?_, ?_, ?_, ?_, ?_⟩
  · rw [va_up_s, upd_s, hS3 12 (by decide)]
  · exact (hS3.tr Sm.rf (l := [12, 19, 20, 26, 30]) (l2 := []) (by decide) (by decide)).up (by decide)
  · rw [va_up_s, hS3 12 (by decide)]
  · exact hA3.sm (l := [12]) (Sm.rf.up (by decide)) (by decide) (by decide)
  · rw [va_up_n (by decide)]; exact h26
  · rw [va_up_n (by decide)]; exact h30
set_option maxRecDepth 20000 in
theorem t_mend0 {N : Nat} {I : aI} {L : aL} {nb ns nh : Nat} (hc : CntOk I nb ns nh) {w : Int32} (hbad : ¬ okMend I nb w) : Run 2 0 0 mX9_mend [.ref 0, .int w] (St N I L) (RI 0 (St N (refI I 3) L)) := by
  refine Run.of (ls := [some (.ref 0), some (.int _)]) (by decide) (Nat.le_of_ble_eq_true rfl) rfl ?_
  obtain ⟨hc0, hb5, hc1, hs6, hc2, hh6, hrib⟩ := id hc
  refine Ex.aload_n (pc := 0) dX9_mend_0 rfl rfl ?_
  refine Ex.getR (pc := 1) dX9_mend_1 fX9_22 (sh0 _) r0_2 ?_
  refine Ex.iconst (pc := 4) (v := 0) dX9_mend_4 rfl ?_
  refine Ex.iload_n (pc := 5) dX9_mend_5 rfl rfl ?_
  refine Ex.callV (pc := 6) (As := [.int 0, .int _]) (rest := []) dX9_mend_6 cX9_182 (t_holdsB (s := 0) (n := nb) (by decide) hc0) (sh2 _) rfl rfl (by decide) (Nat.le_refl _) (Nat.le_refl _) (Nat.le_of_ble_eq_true rfl) (Or.inl (fun r S' h => by obtain ⟨_, h⟩ := h; subst h; rfl)) (fun r S' hq _ _ => ?_)
  obtain ⟨rfl, rfl⟩ := hq
  refine Ex.if_eq (pc := 9) (tgt := 32) dX9_mend_9 (by decide) (fun c9 => ?_) (fun c9 => ?_)
  · skip
    refine Ex.aload_n (pc := 32) dX9_mend_32 rfl rfl ?_
    refine Ex.iconst (pc := 33) (v := 3) dX9_mend_33 rfl ?_
    refine Ex.callV (pc := 34) (As := [.int 3]) (rest := []) dX9_mend_34 cX9_109 (t_deny (k := 3) (by decide)) (sh0 _) rfl rfl (by decide) (Nat.le_refl _) (Nat.le_refl _) (Nat.le_of_ble_eq_true rfl) (Or.inl (fun r S' h => by obtain ⟨_, h⟩ := h; subst h; rfl)) (fun r S' hq _ _ => ?_)
    obtain ⟨rfl, rfl⟩ := hq
    refine Ex.iret (pc := 37) rfl rfl rfl dX9_mend_37 (Nat.le_refl _) (Nat.le_refl _) ?_
    exact ⟨rfl, rfl⟩
  · skip
    have hin := bI_1 c9
    obtain ⟨j, hj, rfl⟩ := inR_of hin (by omega)
    refine Ex.aload_n (pc := 12) dX9_mend_12 rfl rfl ?_
    refine Ex.getR (pc := 13) dX9_mend_13 fX9_35 (sh0 _) r0_5 ?_
    refine Ex.getR (pc := 16) dX9_mend_16 fX9_179 (sh10 _) r10_4 ?_
    refine Ex.iload_n (pc := 19) dX9_mend_19 rfl rfl ?_
    refine Ex.iald (pc := 20) (j := j) dX9_mend_20 (sh11 _) (vp_in_nI (by omega) (by decide)) (ixN2 (by omega)) ?_
    refine Ex.aload_n (pc := 21) dX9_mend_21 rfl rfl ?_
    refine Ex.getR (pc := 22) dX9_mend_22 fX9_22 (sh0 _) r0_2 ?_
    refine Ex.iload_n (pc := 25) dX9_mend_25 rfl rfl ?_
    refine Ex.callV (pc := 26) (As := [.int _]) (rest := [.int _]) dX9_mend_26 cX9_302 (t_zincTold (j := j) (by omega)) (sh2 _) rfl rfl (by decide) (Nat.le_refl _) (Nat.le_refl _) (Nat.le_of_ble_eq_true rfl) (Or.inl (fun r S' h => by obtain ⟨_, h⟩ := h; subst h; rfl)) (fun r S' hq _ _ => ?_)
    obtain ⟨rfl, rfl⟩ := hq
    refine Ex.icmp_ne (pc := 29) (tgt := 38) dX9_mend_29 (by decide) (fun c29 => ?_) (fun c29 => ?_)
    · skip
      exact absurd ⟨hin, by rw [nI_clamp (by omega)]; rw [Nat.zero_add] at c29; exact c29⟩ hbad
    · skip
      refine Ex.aload_n (pc := 32) dX9_mend_32 rfl rfl ?_
      refine Ex.iconst (pc := 33) (v := 3) dX9_mend_33 rfl ?_
      refine Ex.callV (pc := 34) (As := [.int 3]) (rest := []) dX9_mend_34 cX9_109 (t_deny (k := 3) (by decide)) (sh0 _) rfl rfl (by decide) (Nat.le_refl _) (Nat.le_refl _) (Nat.le_of_ble_eq_true rfl) (Or.inl (fun r S' h => by obtain ⟨_, h⟩ := h; subst h; rfl)) (fun r S' hq _ _ => ?_)
      obtain ⟨rfl, rfl⟩ := hq
      refine Ex.iret (pc := 37) rfl rfl rfl dX9_mend_37 (Nat.le_refl _) (Nat.le_refl _) ?_
      exact ⟨rfl, rfl⟩
set_option maxRecDepth 20000 in
theorem t_mend1 {N : Nat} {I : aI} {L : aL} {nb ns nh : Nat} (hc : CntOk I nb ns nh) {nx : Nat} {us : List (Nat → Int32)} (ha : ActsR I nx us) {j : Nat} (hj : j < nb) (hd : ¬ I 11 j = I 6 j) : Run 3 0 0 mX9_mend [.ref 0, .int (nI j)] (St N I L) (RP (some (.int 1)) N L (fun I2 => Sm [11, 19, 20, 26, 30] I I2 ∧ I2 11 = upd (I 11) j (I 6 j) ∧ ActsR I2 ((nx + 1) % 20) ((snap I 10 :: us).take 20) ∧ I2 26 = upd (I 26) 0 0 ∧ I2 30 = upd (I 30) 0 (-1))) := by
  refine Run.of (ls := [some (.ref 0), some (.int _)]) (by decide) (Nat.le_of_ble_eq_true rfl) rfl ?_
  obtain ⟨hc0, hb5, hc1, hs6, hc2, hh6, hrib⟩ := id hc
  refine Ex.aload_n (pc := 0) dX9_mend_0 rfl rfl ?_
  refine Ex.getR (pc := 1) dX9_mend_1 fX9_22 (sh0 _) r0_2 ?_
  refine Ex.iconst (pc := 4) (v := 0) dX9_mend_4 rfl ?_
  refine Ex.iload_n (pc := 5) dX9_mend_5 rfl rfl ?_
  refine Ex.callV (pc := 6) (As := [.int 0, .int _]) (rest := []) dX9_mend_6 cX9_182 (t_holdsB (s := 0) (n := nb) (by decide) hc0) (sh2 _) rfl rfl (by decide) (Nat.le_refl _) (Nat.le_refl _) (Nat.le_of_ble_eq_true rfl) (Or.inl (fun r S' h => by obtain ⟨_, h⟩ := h; subst h; rfl)) (fun r S' hq _ _ => ?_)
  obtain ⟨rfl, rfl⟩ := hq
  rw [inR_nI hj (by omega)]
  refine Ex.if_eq (pc := 9) (tgt := 32) dX9_mend_9 (by decide) (fun c9 => absurd c9 (by decide)) (fun _ => ?_)
  refine Ex.aload_n (pc := 12) dX9_mend_12 rfl rfl ?_
  refine Ex.getR (pc := 13) dX9_mend_13 fX9_35 (sh0 _) r0_5 ?_
  refine Ex.getR (pc := 16) dX9_mend_16 fX9_179 (sh10 _) r10_4 ?_
  refine Ex.iload_n (pc := 19) dX9_mend_19 rfl rfl ?_
  refine Ex.iald (pc := 20) (j := j) dX9_mend_20 (sh11 _) (vp_in_nI (by omega) (by decide)) (ixN2 (by omega)) ?_
  refine Ex.aload_n (pc := 21) dX9_mend_21 rfl rfl ?_
  refine Ex.getR (pc := 22) dX9_mend_22 fX9_22 (sh0 _) r0_2 ?_
  refine Ex.iload_n (pc := 25) dX9_mend_25 rfl rfl ?_
  refine Ex.callV (pc := 26) (As := [.int _]) (rest := [.int _]) dX9_mend_26 cX9_302 (t_zincTold (j := j) (by omega)) (sh2 _) rfl rfl (by decide) (Nat.le_refl _) (Nat.le_refl _) (Nat.le_of_ble_eq_true rfl) (Or.inl (fun r S' h => by obtain ⟨_, h⟩ := h; subst h; rfl)) (fun r S' hq _ _ => ?_)
  obtain ⟨rfl, rfl⟩ := hq
  refine Ex.icmp_ne (pc := 29) (tgt := 38) dX9_mend_29 (by decide) (fun _ => ?_) (fun c29 => absurd c29 (by rw [Nat.zero_add]; exact hd))
  refine Ex.aload_n (pc := 38) dX9_mend_38 rfl rfl ?_
  refine Ex.callV (pc := 39) (As := []) (rest := []) dX9_mend_39 cX9_279 (t_beginAct ha) (sh0 _) rfl rfl (by decide) (Nat.le_refl _) (Nat.le_refl _) (Nat.le_of_ble_eq_true rfl) (Or.inl (fun r S' h => by obtain ⟨_, _, h, _⟩ := h; subst h; rfl)) (fun r S' hq _ _ => ?_)
  obtain ⟨I3, rfl, rfl, hS3, hA3, h26, h30⟩ := hq
  refine Ex.aload_n (pc := 42) dX9_mend_42 rfl rfl ?_
  refine Ex.getR (pc := 43) dX9_mend_43 fX9_35 (sh0 _) r0_5 ?_
  refine Ex.getR (pc := 46) dX9_mend_46 fX9_179 (sh10 _) r10_4 ?_
  refine Ex.iload_n (pc := 49) dX9_mend_49 rfl rfl ?_
  refine Ex.aload_n (pc := 50) dX9_mend_50 rfl rfl ?_
  refine Ex.getR (pc := 51) dX9_mend_51 fX9_22 (sh0 _) r0_2 ?_
  refine Ex.iload_n (pc := 54) dX9_mend_54 rfl rfl ?_
  refine Ex.callV (pc := 55) (As := [.int _]) (rest := [.int _, .ref 11]) dX9_mend_55 cX9_302 (t_zincTold (j := j) (by omega)) (sh2 _) rfl rfl (by decide) (Nat.le_refl _) (Nat.le_refl _) (Nat.le_of_ble_eq_true rfl) (Or.inl (fun r S' h => by obtain ⟨_, h⟩ := h; subst h; rfl)) (fun r S' hq _ _ => ?_)
  obtain ⟨rfl, rfl⟩ := hq
  refine Ex.iast (pc := 58) (j := j) dX9_mend_58 (sh11 _) (vp_in_nI (by omega) (by decide)) (ixN2 (by omega)) ?_
  refine Ex.iconst (pc := 59) (v := 1) dX9_mend_59 rfl ?_
  refine Ex.iret (pc := 60) rfl rfl rfl dX9_mend_60 (Nat.le_refl _) (Nat.le_refl _) ?_
  refine ⟨_, rfl, rfl, ?_, ?_, ?_, ?_, ?_⟩
  · exact (hS3.tr Sm.rf (l := [11, 19, 20, 26, 30]) (l2 := []) (by decide) (by decide)).up (by decide)
  · rw [va_up_s, hS3 11 (by decide), hS3 6 (by decide), Nat.zero_add]
  · exact hA3.sm (l := [11]) (Sm.rf.up (by decide)) (by decide) (by decide)
  · rw [va_up_n (by decide)]; exact h26
  · rw [va_up_n (by decide)]; exact h30
set_option maxRecDepth 20000 in
theorem t_pour0 {N : Nat} {I : aI} {L : aL} {w : Int32} (hbad : ¬ okPour I w) : Run 2 0 0 mX9_pour [.ref 0, .int w] (St N I L) (RI 0 (St N (refI I 3) L)) := by
  refine Run.of (ls := [some (.ref 0), some (.int _)]) (by decide) (Nat.le_of_ble_eq_true rfl) rfl ?_
  refine Ex.iload_n (pc := 0) dX9_pour_0 rfl rfl ?_
  refine Ex.if_lt (pc := 1) (tgt := 21) dX9_pour_1 (by decide) (fun c1 => ?_) (fun c1 => ?_)
  · skip
    refine Ex.aload_n (pc := 21) dX9_pour_21 rfl rfl ?_
    refine Ex.iconst (pc := 22) (v := 3) dX9_pour_22 rfl ?_
    refine Ex.callV (pc := 23) (As := [.int 3]) (rest := []) dX9_pour_23 cX9_109 (t_deny (k := 3) (by decide)) (sh0 _) rfl rfl (by decide) (Nat.le_refl _) (Nat.le_refl _) (Nat.le_of_ble_eq_true rfl) (Or.inl (fun r S' h => by obtain ⟨_, h⟩ := h; subst h; rfl)) (fun r S' hq _ _ => ?_)
    obtain ⟨rfl, rfl⟩ := hq
    refine Ex.iret (pc := 26) rfl rfl rfl dX9_pour_26 (Nat.le_refl _) (Nat.le_refl _) ?_
    exact ⟨rfl, rfl⟩
  · skip
    refine Ex.iload_n (pc := 4) dX9_pour_4 rfl rfl ?_
    refine Ex.bipush (pc := 5) (v := 99) dX9_pour_5 rfl ?_
    refine Ex.icmp_gt (pc := 7) (tgt := 21) dX9_pour_7 (by decide) (fun c7 => ?_) (fun c7 => ?_)
    · skip
      refine Ex.aload_n (pc := 21) dX9_pour_21 rfl rfl ?_
      refine Ex.iconst (pc := 22) (v := 3) dX9_pour_22 rfl ?_
      refine Ex.callV (pc := 23) (As := [.int 3]) (rest := []) dX9_pour_23 cX9_109 (t_deny (k := 3) (by decide)) (sh0 _) rfl rfl (by decide) (Nat.le_refl _) (Nat.le_refl _) (Nat.le_of_ble_eq_true rfl) (Or.inl (fun r S' h => by obtain ⟨_, h⟩ := h; subst h; rfl)) (fun r S' hq _ _ => ?_)
      obtain ⟨rfl, rfl⟩ := hq
      refine Ex.iret (pc := 26) rfl rfl rfl dX9_pour_26 (Nat.le_refl _) (Nat.le_refl _) ?_
      exact ⟨rfl, rfl⟩
    · skip
      refine Ex.iload_n (pc := 10) dX9_pour_10 rfl rfl ?_
      refine Ex.aload_n (pc := 11) dX9_pour_11 rfl rfl ?_
      refine Ex.getR (pc := 12) dX9_pour_12 fX9_35 (sh0 _) r0_5 ?_
      refine Ex.getI (pc := 15) dX9_pour_15 fX9_150 (sh10 _) ?_
      refine Ex.icmp_ne (pc := 18) (tgt := 27) dX9_pour_18 (by decide) (fun c18 => ?_) (fun c18 => ?_)
      · skip
        exact absurd ⟨c1, c7, c18⟩ hbad
      · skip
        refine Ex.aload_n (pc := 21) dX9_pour_21 rfl rfl ?_
        refine Ex.iconst (pc := 22) (v := 3) dX9_pour_22 rfl ?_
        refine Ex.callV (pc := 23) (As := [.int 3]) (rest := []) dX9_pour_23 cX9_109 (t_deny (k := 3) (by decide)) (sh0 _) rfl rfl (by decide) (Nat.le_refl _) (Nat.le_refl _) (Nat.le_of_ble_eq_true rfl) (Or.inl (fun r S' h => by obtain ⟨_, h⟩ := h; subst h; rfl)) (fun r S' hq _ _ => ?_)
        obtain ⟨rfl, rfl⟩ := hq
        refine Ex.iret (pc := 26) rfl rfl rfl dX9_pour_26 (Nat.le_refl _) (Nat.le_refl _) ?_
        exact ⟨rfl, rfl⟩
set_option maxRecDepth 20000 in
theorem t_pour1 {N : Nat} {I : aI} {L : aL} {nx : Nat} {us : List (Nat → Int32)} (ha : ActsR I nx us) {w : Int32} (hok : okPour I w) : Run 3 0 0 mX9_pour [.ref 0, .int w] (St N I L) (RP (some (.int 1)) N L (fun I2 => Sm [10, 19, 20, 26, 30] I I2 ∧ I2 10 = upd (I 10) 1 w ∧ ActsR I2 ((nx + 1) % 20) ((snap I 10 :: us).take 20) ∧ I2 26 = upd (I 26) 0 0 ∧ I2 30 = upd (I 30) 0 (-1))) := by
  refine Run.of (ls := [some (.ref 0), some (.int _)]) (by decide) (Nat.le_of_ble_eq_true rfl) rfl ?_
  refine Ex.iload_n (pc := 0) dX9_pour_0 rfl rfl ?_
  refine Ex.if_lt (pc := 1) (tgt := 21) dX9_pour_1 (by decide) (fun c1 => absurd c1 hok.1) (fun _ => ?_)
  refine Ex.iload_n (pc := 4) dX9_pour_4 rfl rfl ?_
  refine Ex.bipush (pc := 5) (v := 99) dX9_pour_5 rfl ?_
  refine Ex.icmp_gt (pc := 7) (tgt := 21) dX9_pour_7 (by decide) (fun c7 => absurd c7 hok.2.1) (fun _ => ?_)
  refine Ex.iload_n (pc := 10) dX9_pour_10 rfl rfl ?_
  refine Ex.aload_n (pc := 11) dX9_pour_11 rfl rfl ?_
  refine Ex.getR (pc := 12) dX9_pour_12 fX9_35 (sh0 _) r0_5 ?_
  refine Ex.getI (pc := 15) dX9_pour_15 fX9_150 (sh10 _) ?_
  refine Ex.icmp_ne (pc := 18) (tgt := 27) dX9_pour_18 (by decide) (fun _ => ?_) (fun c18 => absurd c18 hok.2.2)
  refine Ex.aload_n (pc := 27) dX9_pour_27 rfl rfl ?_
  refine Ex.callV (pc := 28) (As := []) (rest := []) dX9_pour_28 cX9_279 (t_beginAct ha) (sh0 _) rfl rfl (by decide) (Nat.le_refl _) (Nat.le_refl _) (Nat.le_of_ble_eq_true rfl) (Or.inl (fun r S' h => by obtain ⟨_, _, h, _⟩ := h; subst h; rfl)) (fun r S' hq _ _ => ?_)
  obtain ⟨I3, rfl, rfl, hS3, hA3, h26, h30⟩ := hq
  refine Ex.aload_n (pc := 31) dX9_pour_31 rfl rfl ?_
  refine Ex.getR (pc := 32) dX9_pour_32 fX9_35 (sh0 _) r0_5 ?_
  refine Ex.iload_n (pc := 35) dX9_pour_35 rfl rfl ?_
  refine Ex.putI (pc := 36) dX9_pour_36 fX9_150 (sh10 _) (Or.inl rfl) ⟨rfl, rfl⟩ ?_
  refine Ex.iconst (pc := 39) (v := 1) dX9_pour_39 rfl ?_
  refine Ex.iret (pc := 40) rfl rfl rfl dX9_pour_40 (Nat.le_refl _) (Nat.le_refl _) ?_
  refine ⟨_, rfl, rfl, ?_, ?_, ?_, ?_, ?_⟩
  · exact (hS3.tr Sm.rf (l := [10, 19, 20, 26, 30]) (l2 := []) (by decide) (by decide)).up (by decide)
  · rw [va_up_s, hS3 10 (by decide)]
  · exact hA3.sm (l := [10]) (Sm.rf.up (by decide)) (by decide) (by decide)
  · rw [va_up_n (by decide)]; exact h26
  · rw [va_up_n (by decide)]; exact h30
set_option maxRecDepth 20000 in
theorem t_back1x {N : Nat} {I : aI} {L : aL} {nx ct : Nat} (hnx : I 19 2 = nI nx) (hn : nx < 20) (hct : I 19 1 = nI ct) (hc : ct ≤ 20) (hp : 0 < ct) : Run 1 0 0 mX0_back [.ref 19, .ref 10] (St N I L) (RP (some (.int 1)) N L (fun I2 => Sm [10, 11, 12, 19] I I2 ∧ I2 19 2 = nI ((nx + 19) % 20) ∧ I2 19 1 = nI (ct - 1) ∧ (∀ j, j < 4 → I2 10 j = I 20 ((nx + 19) % 20 * 15 + j)) ∧ (∀ j, j < 5 → I2 11 j = I 20 ((nx + 19) % 20 * 15 + (4 + j))) ∧ (∀ j, j < 6 → I2 12 j = I 20 ((nx + 19) % 20 * 15 + (9 + j))) ∧ (∀ j, 5 ≤ j → I2 11 j = I 11 j) ∧ ∀ j, 6 ≤ j → I2 12 j = I 12 j)) := by
  refine Run.of (ls := [some (.ref 19), some (.ref 10), none]) (by decide) (Nat.le_of_ble_eq_true rfl) rfl ?_
  refine Ex.aload_n (pc := 0) dX0_back_0 rfl rfl ?_
  refine Ex.getI (pc := 1) dX0_back_1 fX0_17 (sh19 _) ?_
  refine Ex.if_ne (pc := 4) (tgt := 9) dX0_back_4 (by decide) (fun _ => ?_) (fun c4 => absurd c4 (by rw [hct]; exact nI_ne0 hp (by omega)))
  refine Ex.aload_n (pc := 9) dX0_back_9 rfl rfl ?_
  refine Ex.dup (pc := 10) dX0_back_10 rfl ?_
  refine Ex.getI (pc := 11) dX0_back_11 fX0_17 (sh19 _) ?_
  refine Ex.iconst (pc := 14) (v := 1) dX0_back_14 rfl ?_
  refine Ex.isub (pc := 15) dX0_back_15 ?_
  refine Ex.putI (pc := 16) dX0_back_16 fX0_17 (sh19 _) (Or.inl rfl) ⟨rfl, rfl⟩ ?_
  refine Ex.aload_n (pc := 19) dX0_back_19 rfl rfl ?_
  refine Ex.aload_n (pc := 20) dX0_back_20 rfl rfl ?_
  refine Ex.getI (pc := 21) dX0_back_21 fX0_21 (sh19 _) ?_
  refine Ex.bipush (pc := 24) (v := 20) dX0_back_24 rfl ?_
  refine Ex.iadd (pc := 26) dX0_back_26 ?_
  refine Ex.iconst (pc := 27) (v := 1) dX0_back_27 rfl ?_
  refine Ex.isub (pc := 28) dX0_back_28 ?_
  refine Ex.bipush (pc := 29) (v := 20) dX0_back_29 rfl ?_
  refine Ex.irem (pc := 31) dX0_back_31 (by decide) ?_
  refine Ex.putI (pc := 32) dX0_back_32 fX0_21 (sh19 _) (Or.inl rfl) ⟨rfl, rfl⟩ ?_
  refine Ex.aload_n (pc := 35) dX0_back_35 rfl rfl ?_
  refine Ex.getI (pc := 36) dX0_back_36 fX0_21 (sh19 _) ?_
  refine Ex.bipush (pc := 39) (v := 15) dX0_back_39 rfl ?_
  refine Ex.imul (pc := 41) dX0_back_41 ?_
  refine Ex.istore_n (pc := 42) (ls' := [some (.ref 19), some (.ref 10), some (.int _)]) dX0_back_42 rfl (by decide) rfl rfl ?_
  have eq : nI nx + 20 - 1 - (nI nx + 20 - 1) / 20 * 20 = nI ((nx + 19) % 20) := by
    rw [show nI nx + 20 - 1 = nI (nx + 19) from by rw [show nI nx + 20 = nI (nx + 20) from nI_add nx 20]; exact pk_sub (b := 1) (by omega)]
    exact pk_rem (d := 20) (by omega) (by decide) (by decide)
  obtain ⟨q, hq⟩ : ∃ q, q = (nx + 19) % 20 := ⟨_, rfl⟩
  rw [← hq] at eq ⊢
  have hq20 : q < 20 := by omega
  refine Ex.le (ls' := [some (.ref 19), some (.ref 10), some (.int (nI (q * 15)))]) ⟨rfl, rfl, ?_, trivial⟩ ?_
  · refine congrArg Value.int ?_
    simp [va_up, upd, hnx, eq]
    exact (pk_mul q 15).symm
  refine Ex.aload_n (pc := 43) dX0_back_43 rfl rfl ?_
  refine Ex.aload_n (pc := 44) dX0_back_44 rfl rfl ?_
  refine Ex.getR (pc := 45) dX0_back_45 fX0_11 (sh19 _) r19_0 ?_
  refine Ex.iload_n (pc := 48) dX0_back_48 rfl rfl ?_
  refine Ex.iald (pc := 49) (j := q * 15) dX0_back_49 (sh20 _) (vp_in_nI (by omega) (by decide)) (ixN2 (by omega)) ?_
  refine Ex.putI (pc := 50) dX0_back_50 fX0_24 (sh10 _) (Or.inl rfl) ⟨rfl, rfl⟩ ?_
  refine Ex.aload_n (pc := 53) dX0_back_53 rfl rfl ?_
  refine Ex.aload_n (pc := 54) dX0_back_54 rfl rfl ?_
  refine Ex.getR (pc := 55) dX0_back_55 fX0_11 (sh19 _) r19_0 ?_
  refine Ex.iload_n (pc := 58) dX0_back_58 rfl rfl ?_
  refine Ex.iconst (pc := 59) (v := 1) dX0_back_59 rfl ?_
  refine Ex.iadd (pc := 60) dX0_back_60 ?_
  refine Ex.iald (pc := 61) (j := q * 15 + 1) dX0_back_61 (sh20 _) (ixA (x := nI (q * 15)) (j := 1) rfl (by omega) (by decide)).1 (ixA2 (x := nI (q * 15)) (j := 1) rfl (by omega)) ?_
  refine Ex.putI (pc := 62) dX0_back_62 fX0_27 (sh10 _) (Or.inl rfl) ⟨rfl, rfl⟩ ?_
  refine Ex.aload_n (pc := 65) dX0_back_65 rfl rfl ?_
  refine Ex.aload_n (pc := 66) dX0_back_66 rfl rfl ?_
  refine Ex.getR (pc := 67) dX0_back_67 fX0_11 (sh19 _) r19_0 ?_
  refine Ex.iload_n (pc := 70) dX0_back_70 rfl rfl ?_
  refine Ex.iconst (pc := 71) (v := 2) dX0_back_71 rfl ?_
  refine Ex.iadd (pc := 72) dX0_back_72 ?_
  refine Ex.iald (pc := 73) (j := q * 15 + 2) dX0_back_73 (sh20 _) (ixA (x := nI (q * 15)) (j := 2) rfl (by omega) (by decide)).1 (ixA2 (x := nI (q * 15)) (j := 2) rfl (by omega)) ?_
  refine Ex.putI (pc := 74) dX0_back_74 fX0_30 (sh10 _) (Or.inl rfl) ⟨rfl, rfl⟩ ?_
  refine Ex.aload_n (pc := 77) dX0_back_77 rfl rfl ?_
  refine Ex.aload_n (pc := 78) dX0_back_78 rfl rfl ?_
  refine Ex.getR (pc := 79) dX0_back_79 fX0_11 (sh19 _) r19_0 ?_
  refine Ex.iload_n (pc := 82) dX0_back_82 rfl rfl ?_
  refine Ex.iconst (pc := 83) (v := 3) dX0_back_83 rfl ?_
  refine Ex.iadd (pc := 84) dX0_back_84 ?_
  refine Ex.iald (pc := 85) (j := q * 15 + 3) dX0_back_85 (sh20 _) (ixA (x := nI (q * 15)) (j := 3) rfl (by omega) (by decide)).1 (ixA2 (x := nI (q * 15)) (j := 3) rfl (by omega)) ?_
  refine Ex.putI (pc := 86) dX0_back_86 fX0_33 (sh10 _) (Or.inl rfl) ⟨rfl, rfl⟩ ?_
  refine Ex.aload_n (pc := 89) dX0_back_89 rfl rfl ?_
  refine Ex.getR (pc := 90) dX0_back_90 fX0_11 (sh19 _) r19_0 ?_
  refine Ex.iload_n (pc := 93) dX0_back_93 rfl rfl ?_
  refine Ex.iconst (pc := 94) (v := 4) dX0_back_94 rfl ?_
  refine Ex.iadd (pc := 95) dX0_back_95 ?_
  refine Ex.aload_n (pc := 96) dX0_back_96 rfl rfl ?_
  refine Ex.getR (pc := 97) dX0_back_97 fX0_36 (sh10 _) r10_4 ?_
  refine Ex.iconst (pc := 100) (v := 0) dX0_back_100 rfl ?_
  refine Ex.iconst (pc := 101) (v := 5) dX0_back_101 rfl ?_
  refine Ex.copyI (pc := 102) dX0_back_102 kl_X0_39 (sh20 _) (sh11 _) (by rw [show nI (q * 15) + 4 = nI (q * 15 + 4) from nI_add _ 4]; exact nI_pos (by omega)) (by decide) (by decide) (by rw [show nI (q * 15) + 4 = nI (q * 15 + 4) from nI_add _ 4, nI_clamp (by omega)]; show q * 15 + 4 + 5 ≤ 300; omega) (by decide) (by decide) (Nat.le_of_ble_eq_true rfl) ?_
  refine Ex.aload_n (pc := 105) dX0_back_105 rfl rfl ?_
  refine Ex.getR (pc := 106) dX0_back_106 fX0_11 (sh19 _) r19_0 ?_
  refine Ex.iload_n (pc := 109) dX0_back_109 rfl rfl ?_
  refine Ex.iconst (pc := 110) (v := 4) dX0_back_110 rfl ?_
  refine Ex.iadd (pc := 111) dX0_back_111 ?_
  refine Ex.iconst (pc := 112) (v := 5) dX0_back_112 rfl ?_
  refine Ex.iadd (pc := 113) dX0_back_113 ?_
  refine Ex.aload_n (pc := 114) dX0_back_114 rfl rfl ?_
  refine Ex.getR (pc := 115) dX0_back_115 fX0_45 (sh10 _) r10_5 ?_
  refine Ex.iconst (pc := 118) (v := 0) dX0_back_118 rfl ?_
  refine Ex.bipush (pc := 119) (v := 6) dX0_back_119 rfl ?_
  refine Ex.copyI (pc := 121) dX0_back_121 kl_X0_39 (sh20 _) (sh12 _) (by rw [show nI (q * 15) + 4 = nI (q * 15 + 4) from nI_add _ 4, show nI (q * 15 + 4) + 5 = nI (q * 15 + 9) from nI_add _ 5]; exact nI_pos (by omega)) (by decide) (by decide) (by rw [show nI (q * 15) + 4 = nI (q * 15 + 4) from nI_add _ 4, show nI (q * 15 + 4) + 5 = nI (q * 15 + 9) from nI_add _ 5, nI_clamp (by omega)]; show q * 15 + 9 + 6 ≤ 300; omega) (by decide) (by decide) (Nat.le_of_ble_eq_true rfl) ?_
  refine Ex.iconst (pc := 124) (v := 1) dX0_back_124 rfl ?_
  refine Ex.iret (pc := 125) rfl rfl rfl dX0_back_125 (Nat.le_refl _) (Nat.le_refl _) ?_
  refine ⟨_, rfl, rfl, ?_, ?_, ?_, ?_, ?_, ?_, ?_, ?_⟩
  · exact (((((((Sm.rf.up (by decide)).up (by decide)).up (by decide)).up (by decide)).up (by decide)).up (by decide)).up (by decide)).up (by decide)
  · simp [va_up, upd, hnx, eq]
  · simp [va_up, upd, hct]
    exact pk_sub (b := 1) (by omega)
  · intro j hj
    rcases (show j = 0 ∨ j = 1 ∨ j = 2 ∨ j = 3 by omega) with rfl | rfl | rfl | rfl <;> simp [va_up, upd]
  · intro j hj
    simp [va_up, upd, va_cpy, show (5 : Int32).toNatClampNeg = 5 from by decide, show (6 : Int32).toNatClampNeg = 6 from by decide, show (0 : Int32).toNatClampNeg = 0 from by decide, show nI (q * 15) + 4 = nI (q * 15 + 4) from nI_add _ 4, nI_clamp (show q * 15 + 4 < 2 ^ 31 by omega), hj]
    congr 1; omega
  · intro j hj
    simp [va_up, upd, va_cpy, show (5 : Int32).toNatClampNeg = 5 from by decide, show (6 : Int32).toNatClampNeg = 6 from by decide, show (0 : Int32).toNatClampNeg = 0 from by decide, show nI (q * 15) + 4 = nI (q * 15 + 4) from nI_add _ 4, show nI (q * 15 + 4) + 5 = nI (q * 15 + 9) from nI_add _ 5, nI_clamp (show q * 15 + 9 < 2 ^ 31 by omega), hj]
    congr 1; omega
  · intro j hj
    simp [va_up, upd, va_cpy, show (5 : Int32).toNatClampNeg = 5 from by decide, show (6 : Int32).toNatClampNeg = 6 from by decide, show (0 : Int32).toNatClampNeg = 0 from by decide, show ¬ j < 5 by omega]
  · intro j hj
    simp [va_up, upd, va_cpy, show (5 : Int32).toNatClampNeg = 5 from by decide, show (6 : Int32).toNatClampNeg = 6 from by decide, show (0 : Int32).toNatClampNeg = 0 from by decide, show ¬ j < 6 by omega]
set_option maxRecDepth 20000 in
theorem t_undo0 {N : Nat} {I : aI} {L : aL} (h0 : I 19 1 = 0) : Run 2 0 0 mX9_undo [.ref 0] (St N I L) (RI 0 (St N (refI I 4) L)) := by
  refine Run.of (ls := [some (.ref 0)]) (by decide) (Nat.le_of_ble_eq_true rfl) rfl ?_
  refine Ex.aload_n (pc := 0) dX9_undo_0 rfl rfl ?_
  refine Ex.getR (pc := 1) dX9_undo_1 fX9_54 (sh0 _) r0_8 ?_
  refine Ex.aload_n (pc := 4) dX9_undo_4 rfl rfl ?_
  refine Ex.getR (pc := 5) dX9_undo_5 fX9_35 (sh0 _) r0_5 ?_
  refine Ex.callV (pc := 8) (As := [.ref 10]) (rest := []) dX9_undo_8 cX9_305 (t_back0 h0) (sh19 _) rfl rfl (by decide) (Nat.le_refl _) (Nat.le_refl _) (Nat.le_of_ble_eq_true rfl) (Or.inl (fun r S' h => by obtain ⟨_, h⟩ := h; subst h; rfl)) (fun r S' hq _ _ => ?_)
  obtain ⟨rfl, rfl⟩ := hq
  refine Ex.if_ne (pc := 11) (tgt := 20) dX9_undo_11 (by decide) (fun c11 => absurd rfl c11) (fun _ => ?_)
  refine Ex.aload_n (pc := 14) dX9_undo_14 rfl rfl ?_
  refine Ex.iconst (pc := 15) (v := 4) dX9_undo_15 rfl ?_
  refine Ex.callV (pc := 16) (As := [.int 4]) (rest := []) dX9_undo_16 cX9_109 (t_deny (k := 4) (by decide)) (sh0 _) rfl rfl (by decide) (Nat.le_refl _) (Nat.le_refl _) (Nat.le_of_ble_eq_true rfl) (Or.inl (fun r S' h => by obtain ⟨_, h⟩ := h; subst h; rfl)) (fun r S' hq _ _ => ?_)
  obtain ⟨rfl, rfl⟩ := hq
  refine Ex.iret (pc := 19) rfl rfl rfl dX9_undo_19 (Nat.le_refl _) (Nat.le_refl _) ?_
  exact ⟨rfl, rfl⟩
set_option maxRecDepth 20000 in
theorem t_undo1 {N : Nat} {I : aI} {L : aL} {nx : Nat} {u : Nat → Int32} {us : List (Nat → Int32)} (ha : ActsR I nx (u :: us)) : Run 2 0 0 mX9_undo [.ref 0] (St N I L) (RP (some (.int 1)) N L (fun I2 => Sm [10, 11, 12, 19, 26, 30] I I2 ∧ (∀ j, j < 4 → I2 10 j = u j) ∧ (∀ j, j < 5 → I2 11 j = u (4 + j)) ∧ (∀ j, j < 6 → I2 12 j = u (9 + j)) ∧ (∀ j, 5 ≤ j → I2 11 j = I 11 j) ∧ (∀ j, 6 ≤ j → I2 12 j = I 12 j) ∧ ActsR I2 ((nx + 19) % 20) us ∧ I2 26 = upd (I 26) 0 0 ∧ I2 30 = upd (I 30) 0 (-1))) := by
  refine Run.of (ls := [some (.ref 0)]) (by decide) (Nat.le_of_ble_eq_true rfl) rfl ?_
  obtain ⟨a1, a2, a3, a4, a5⟩ := ha
  simp only [List.length_cons] at a3 a4
  refine Ex.aload_n (pc := 0) dX9_undo_0 rfl rfl ?_
  refine Ex.getR (pc := 1) dX9_undo_1 fX9_54 (sh0 _) r0_8 ?_
  refine Ex.aload_n (pc := 4) dX9_undo_4 rfl rfl ?_
  refine Ex.getR (pc := 5) dX9_undo_5 fX9_35 (sh0 _) r0_5 ?_
  refine Ex.callV (pc := 8) (As := [.ref 10]) (rest := []) dX9_undo_8 cX9_305 (t_back1x (nx := nx) (ct := us.length + 1) a1 a2 a3 a4 (Nat.succ_pos _)) (sh19 _) rfl rfl (by decide) (Nat.le_refl _) (Nat.le_refl _) (Nat.le_of_ble_eq_true rfl) (Or.inl (fun r S' h => by obtain ⟨_, _, h, _⟩ := h; subst h; rfl)) (fun r S' hq _ _ => ?_)
  obtain ⟨I3, rfl, rfl, hS3, e2, e1, r0, r1, r2, r3, r4⟩ := hq
  refine Ex.if_ne (pc := 11) (tgt := 20) dX9_undo_11 (by decide) (fun _ => ?_) (fun c11 => absurd c11 (by decide))
  refine Ex.aload_n (pc := 20) dX9_undo_20 rfl rfl ?_
  refine Ex.callV (pc := 21) (As := []) (rest := []) dX9_undo_21 cX9_138 t_forgetAnswers (sh0 _) rfl rfl (by decide) (Nat.le_refl _) (Nat.le_refl _) (Nat.le_of_ble_eq_true rfl) (Or.inl (fun r S' h => by obtain ⟨_, h⟩ := h; subst h; rfl)) (fun r S' hq _ _ => ?_)
  obtain ⟨rfl, rfl⟩ := hq
  refine Ex.iconst (pc := 24) (v := 1) dX9_undo_24 rfl ?_
  refine Ex.iret (pc := 25) rfl rfl rfl dX9_undo_25 (Nat.le_refl _) (Nat.le_refl _) ?_
  have hu := a5 0 u (by simp)
  rw [Nat.sub_zero] at hu
  refine ⟨_, rfl, rfl, ?_, ?_, ?_, ?_, ?_, ?_, ?_, ?_, ?_⟩
  · unfold forgI; exact ((hS3.tr Sm.rf (l := [10, 11, 12, 19, 26, 30]) (l2 := []) (by decide) (by decide)).up (by decide)).up (by decide)
  · intro j hj; unfold forgI; rw [va_up_n (by decide), va_up_n (by decide), r0 j hj]; exact hu j (by omega)
  · intro j hj; unfold forgI; rw [va_up_n (by decide), va_up_n (by decide), r1 j hj]; exact hu (4 + j) (by omega)
  · intro j hj; unfold forgI; rw [va_up_n (by decide), va_up_n (by decide), r2 j hj]; exact hu (9 + j) (by omega)
  · intro j hj; unfold forgI; rw [va_up_n (by decide), va_up_n (by decide)]; exact r3 j hj
  · intro j hj; unfold forgI; rw [va_up_n (by decide), va_up_n (by decide)]; exact r4 j hj
  · unfold ActsR forgI; rw [va_up_n (by decide), va_up_n (by decide), va_up_n (by decide), va_up_n (by decide), hS3 20 (by decide)]
    refine ⟨e2, by omega, by rw [e1]; rfl, by omega, fun k v hk j hj => ?_⟩
    have hkl := (List.getElem?_eq_some_iff.mp hk).1
    have := a5 (k + 1) v (by simpa using hk) j hj
    rw [show ((nx + 19) % 20 + 19 - k) % 20 = (nx + 19 - (k + 1)) % 20 by omega]; exact this
  · unfold forgI; rw [va_up_n (by decide), va_up_s, hS3 26 (by decide)]
  · unfold forgI; rw [va_up_s, hS3 30 (by decide)]
set_option maxRecDepth 20000 in
theorem t_seed0 {N : Nat} {I : aI} {L : aL} {w : Int32} (h : ¬ 0 ≤ w) : Run 1 0 0 mX9_seed [.ref 0, .int w] (St N I L) (RI 0 (St N (refI I 5) L)) := by
  refine Run.of (ls := [some (.ref 0), some (.int _)]) (by decide) (Nat.le_of_ble_eq_true rfl) rfl ?_
  refine Ex.iload_n (pc := 0) dX9_seed_0 rfl rfl ?_
  refine Ex.if_ge (pc := 1) (tgt := 10) dX9_seed_1 (by decide) (fun c1 => absurd c1 h) (fun _ => ?_)
  refine Ex.aload_n (pc := 4) dX9_seed_4 rfl rfl ?_
  refine Ex.iconst (pc := 5) (v := 5) dX9_seed_5 rfl ?_
  refine Ex.callV (pc := 6) (As := [.int 5]) (rest := []) dX9_seed_6 cX9_109 (t_deny (k := 5) (by decide)) (sh0 _) rfl rfl (by decide) (Nat.le_refl _) (Nat.le_refl _) (Nat.le_of_ble_eq_true rfl) (Or.inl (fun r S' h => by obtain ⟨_, h⟩ := h; subst h; rfl)) (fun r S' hq _ _ => ?_)
  obtain ⟨rfl, rfl⟩ := hq
  refine Ex.iret (pc := 9) rfl rfl rfl dX9_seed_9 (Nat.le_refl _) (Nat.le_refl _) ?_
  exact ⟨rfl, rfl⟩
set_option maxRecDepth 20000 in
theorem t_seed1 {N : Nat} {I : aI} {L : aL} {w : Int32} (h : 0 ≤ w) : Run 1 0 0 mX9_seed [.ref 0, .int w] (St N I L) (RI 1 (St N I (va_up L 0 (vp_updL (L 0) 13 w.toInt64)))) := by
  refine Run.of (ls := [some (.ref 0), some (.int _)]) (by decide) (Nat.le_of_ble_eq_true rfl) rfl ?_
  refine Ex.iload_n (pc := 0) dX9_seed_0 rfl rfl ?_
  refine Ex.if_ge (pc := 1) (tgt := 10) dX9_seed_1 (by decide) (fun _ => ?_) (fun c1 => absurd h c1)
  refine Ex.aload_n (pc := 10) dX9_seed_10 rfl rfl ?_
  refine Ex.iload_n (pc := 11) dX9_seed_11 rfl rfl ?_
  refine Ex.i2l (pc := 12) dX9_seed_12 ?_
  refine Ex.putL (pc := 13) dX9_seed_13 fX9_88 (sh0 _) (Or.inl rfl) ⟨rfl, rfl⟩ ?_
  refine Ex.iconst (pc := 16) (v := 1) dX9_seed_16 rfl ?_
  refine Ex.iret (pc := 17) rfl rfl rfl dX9_seed_17 (Nat.le_refl _) (Nat.le_refl _) ?_
  exact ⟨rfl, rfl⟩
