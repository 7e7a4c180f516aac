set_option maxRecDepth 20000 in
theorem t_strokes {N : Nat} {I : aI} {L : aL} {p : aP} {nb ns nh : Nat} (hp : PlanG N I p) (hc : CntOk I nb ns nh) {w v n : Int32} : Run 4 0 0 mX9_strokes [.ref 0, .int w, .int v, .int n] (St N I L) (RP (some (.int (if (inR w nb && inR v ns) = false then -1 else if n < 0 then -1 else if n ≤ 40 then (rubX p (I 5) (I 6) (xOf I 10) w.toNatClampNeg v.toNatClampNeg n.toNatClampNeg).2.1 else -1))) N L (fun I2 => Sm [16, 17, 18] I I2)) := by
  refine Run.of (ls := [some (.ref 0), some (.int _), some (.int _), some (.int _)]) (by decide) (Nat.le_of_ble_eq_true rfl) rfl ?_
  obtain ⟨hc0, hb5, hc1, hs6, hc2, hh6, hrib⟩ := id hc
  refine Ex.aload_n (pc := 0) dX9_strokes_0 rfl rfl ?_
  refine Ex.iload_n (pc := 1) dX9_strokes_1 rfl rfl ?_
  refine Ex.iload_n (pc := 2) dX9_strokes_2 rfl rfl ?_
  refine Ex.callV (pc := 3) (As := [.int _, .int _]) (rest := []) dX9_strokes_3 cX9_204 (t_areThere (nb := nb) (ns := ns) (nh := nh) hc) (sh0 _) rfl rfl (by decide) (Nat.le_refl _) (Nat.le_refl _) (Nat.le_of_ble_eq_true rfl) (Or.inl (fun r S' h => by obtain ⟨_, h⟩ := h; subst h; rfl)) (fun r S' hq _ _ => ?_)
  obtain ⟨rfl, rfl⟩ := hq
  refine Ex.if_eq (pc := 6) (tgt := 19) dX9_strokes_6 (by decide) (fun c6 => ?_) (fun c6 => ?_)
  · skip
    refine Ex.iconst (pc := 19) (v := (-1)) dX9_strokes_19 rfl ?_
    refine Ex.iret (pc := 20) rfl rfl rfl dX9_strokes_20 (Nat.le_refl _) (Nat.le_refl _) ?_
    refine ⟨_, ?_, rfl, Sm.rf⟩
    refine congrArg (fun z => some (Value.int z)) ?_
    rw [bI_0 c6]; rfl
  · skip
    have hin := bI_1 c6
    obtain ⟨j, hj, rfl⟩ := inR_of ((Bool.and_eq_true _ _).mp hin).1 (by omega)
    obtain ⟨i, hi, rfl⟩ := inR_of ((Bool.and_eq_true _ _).mp hin).2 (by omega)
    refine Ex.iload_n (pc := 9) dX9_strokes_9 rfl rfl ?_
    refine Ex.if_lt (pc := 10) (tgt := 19) dX9_strokes_10 (by decide) (fun c10 => ?_) (fun c10 => ?_)
    · skip
      refine Ex.iconst (pc := 19) (v := (-1)) dX9_strokes_19 rfl ?_
      refine Ex.iret (pc := 20) rfl rfl rfl dX9_strokes_20 (Nat.le_refl _) (Nat.le_refl _) ?_
      refine ⟨_, ?_, rfl, Sm.rf⟩
      refine congrArg (fun z => some (Value.int z)) ?_
      rw [if_neg (by rw [hin]; decide), if_pos c10]
    · skip
      refine Ex.iload_n (pc := 13) dX9_strokes_13 rfl rfl ?_
      refine Ex.bipush (pc := 14) (v := 40) dX9_strokes_14 rfl ?_
      refine Ex.icmp_le (pc := 16) (tgt := 21) dX9_strokes_16 (by decide) (fun c16 => ?_) (fun c16 => ?_)
      · skip
        obtain ⟨m, hm, rfl⟩ := nI_of2 (n := 40) (by decide) c10 c16
        refine Ex.aload_n (pc := 21) dX9_strokes_21 rfl rfl ?_
        refine Ex.getR (pc := 22) dX9_strokes_22 fX9_47 (sh0 _) r0_7 ?_
        refine Ex.aload_n (pc := 25) dX9_strokes_25 rfl rfl ?_
        refine Ex.getR (pc := 26) dX9_strokes_26 fX9_35 (sh0 _) r0_5 ?_
        refine Ex.iload_n (pc := 29) dX9_strokes_29 rfl rfl ?_
        refine Ex.iload_n (pc := 30) dX9_strokes_30 rfl rfl ?_
        refine Ex.callV (pc := 31) (As := [.ref 10, .int _, .int _]) (rest := []) dX9_strokes_31 cX9_207 (t_lay10 (b := j) (s := i) (by omega) (by omega)) (sh16 _) rfl rfl (by decide) (Nat.le_refl _) (Nat.le_refl _) (Nat.le_of_ble_eq_true rfl) (Or.inl (fun r S' h => by obtain ⟨_, _, h, _⟩ := h; subst h; rfl)) (fun r S' hq _ _ => ?_)
        obtain ⟨I3, rfl, rfl, hS3, hb3, hs3, ht3, hn3⟩ := hq
        have hp3 := hp.sm hS3 (by decide) (by decide) (by decide) (by decide)
        refine Ex.aload_n (pc := 34) dX9_strokes_34 rfl rfl ?_
        refine Ex.getR (pc := 35) dX9_strokes_35 fX9_47 (sh0 _) r0_7 ?_
        refine Ex.iload_n (pc := 38) dX9_strokes_38 rfl rfl ?_
        refine Ex.callV (pc := 39) (As := [.int _]) (rest := []) dX9_strokes_39 cX9_211 (t_rub (p := p) (n := m) hp3.1 (by omega)) (sh16 _) rfl rfl (by decide) (Nat.le_refl _) (Nat.le_refl _) (Nat.le_of_ble_eq_true rfl) (Or.inl (fun r S' h => by obtain ⟨_, _, h, _⟩ := h; subst h; rfl)) (fun r S' hq _ _ => ?_)
        obtain ⟨I4, rfl, rfl, hS4, hj4, ht4, hm4⟩ := hq
        have hr4 : tOf I4 = rubX p (I 5) (I 6) (xOf I 10) j i m := by
          rw [ht4, ht3, hn3]
          exact rubF_congr hp.2 (fun j hj => nmL_upd j hj) _ _
        refine Ex.aload_n (pc := 42) dX9_strokes_42 rfl rfl ?_
        refine Ex.getR (pc := 43) dX9_strokes_43 fX9_47 (sh0 _) r0_7 ?_
        refine Ex.getI (pc := 46) dX9_strokes_46 fX9_214 (sh16 _) ?_
        refine Ex.iret (pc := 49) rfl rfl rfl dX9_strokes_49 (Nat.le_refl _) (Nat.le_refl _) ?_
        refine ⟨_, ?_, rfl, hS3.tr hS4 (by decide) (by decide)⟩
        refine congrArg (fun z => some (Value.int z)) ?_
        rw [if_neg (by rw [hin]; decide), if_neg c10, if_pos c16, nI_clamp (show j < 2 ^ 31 by omega), nI_clamp (show i < 2 ^ 31 by omega), nI_clamp (by omega), ← hr4]
        rfl
      · skip
        refine Ex.iconst (pc := 19) (v := (-1)) dX9_strokes_19 rfl ?_
        refine Ex.iret (pc := 20) rfl rfl rfl dX9_strokes_20 (Nat.le_refl _) (Nat.le_refl _) ?_
        refine ⟨_, ?_, rfl, Sm.rf⟩
        refine congrArg (fun z => some (Value.int z)) ?_
        rw [if_neg (by rw [hin]; decide), if_neg c10, if_neg c16]
set_option maxRecDepth 20000 in
theorem t_needed {N : Nat} {I : aI} {L : aL} {p : aP} {nb ns nh : Nat} (hp : PlanG N I p) (hc : CntOk I nb ns nh) {w v n : Int32} : Run 5 0 0 mX9_needed [.ref 0, .int w, .int v, .int n] (St N I L) (RP (some (.int (if (inR w nb && inR v ns) = false then -1 else if n < 0 then -1 else if 1 < n then -1 else if ¬ (rubX p (I 5) (I 6) (xOf I 10) w.toNatClampNeg v.toNatClampNeg 99).2.1 = 0 then -1 else if n = 0 then (rubX p (I 5) (I 6) (xOf I 10) w.toNatClampNeg v.toNatClampNeg 99).2.2.1 else if (rubX p (I 5) (I 6) (xOf I 10) w.toNatClampNeg v.toNatClampNeg 99).1 ≤ 0 then 0 else 1))) N L (fun I2 => Sm [16, 17, 18] I I2)) := by
  refine Run.of (ls := [some (.ref 0), some (.int _), some (.int _), some (.int _)]) (by decide) (Nat.le_of_ble_eq_true rfl) rfl ?_
  obtain ⟨hc0, hb5, hc1, hs6, hc2, hh6, hrib⟩ := id hc
  refine Ex.aload_n (pc := 0) dX9_needed_0 rfl rfl ?_
  refine Ex.iload_n (pc := 1) dX9_needed_1 rfl rfl ?_
  refine Ex.iload_n (pc := 2) dX9_needed_2 rfl rfl ?_
  refine Ex.callV (pc := 3) (As := [.int _, .int _]) (rest := []) dX9_needed_3 cX9_204 (t_areThere (nb := nb) (ns := ns) (nh := nh) hc) (sh0 _) rfl rfl (by decide) (Nat.le_refl _) (Nat.le_refl _) (Nat.le_of_ble_eq_true rfl) (Or.inl (fun r S' h => by obtain ⟨_, h⟩ := h; subst h; rfl)) (fun r S' hq _ _ => ?_)
  obtain ⟨rfl, rfl⟩ := hq
  refine Ex.if_eq (pc := 6) (tgt := 34) dX9_needed_6 (by decide) (fun c6 => ?_) (fun c6 => ?_)
  · skip
    refine Ex.iconst (pc := 34) (v := (-1)) dX9_needed_34 rfl ?_
    refine Ex.iret (pc := 35) rfl rfl rfl dX9_needed_35 (Nat.le_refl _) (Nat.le_refl _) ?_
    refine ⟨_, ?_, rfl, Sm.rf⟩
    refine congrArg (fun z => some (Value.int z)) ?_
    rw [bI_0 c6]; rfl
  · skip
    have hin := bI_1 c6
    obtain ⟨j, hj, rfl⟩ := inR_of ((Bool.and_eq_true _ _).mp hin).1 (by omega)
    obtain ⟨i, hi, rfl⟩ := inR_of ((Bool.and_eq_true _ _).mp hin).2 (by omega)
    refine Ex.iload_n (pc := 9) dX9_needed_9 rfl rfl ?_
    refine Ex.if_lt (pc := 10) (tgt := 34) dX9_needed_10 (by decide) (fun c10 => ?_) (fun c10 => ?_)
    · skip
      refine Ex.iconst (pc := 34) (v := (-1)) dX9_needed_34 rfl ?_
      refine Ex.iret (pc := 35) rfl rfl rfl dX9_needed_35 (Nat.le_refl _) (Nat.le_refl _) ?_
      refine ⟨_, ?_, rfl, Sm.rf⟩
      refine congrArg (fun z => some (Value.int z)) ?_
      rw [if_neg (by rw [hin]; decide), if_pos c10]
    · skip
      refine Ex.iload_n (pc := 13) dX9_needed_13 rfl rfl ?_
      refine Ex.iconst (pc := 14) (v := 1) dX9_needed_14 rfl ?_
      refine Ex.icmp_gt (pc := 15) (tgt := 34) dX9_needed_15 (by decide) (fun c15 => ?_) (fun c15 => ?_)
      · skip
        refine Ex.iconst (pc := 34) (v := (-1)) dX9_needed_34 rfl ?_
        refine Ex.iret (pc := 35) rfl rfl rfl dX9_needed_35 (Nat.le_refl _) (Nat.le_refl _) ?_
        refine ⟨_, ?_, rfl, Sm.rf⟩
        refine congrArg (fun z => some (Value.int z)) ?_
        rw [if_neg (by rw [hin]; decide), if_neg c10, if_pos c15]
      · skip
        refine Ex.aload_n (pc := 18) dX9_needed_18 rfl rfl ?_
        refine Ex.getR (pc := 19) dX9_needed_19 fX9_47 (sh0 _) r0_7 ?_
        refine Ex.aload_n (pc := 22) dX9_needed_22 rfl rfl ?_
        refine Ex.getR (pc := 23) dX9_needed_23 fX9_35 (sh0 _) r0_5 ?_
        refine Ex.iload_n (pc := 26) dX9_needed_26 rfl rfl ?_
        refine Ex.iload_n (pc := 27) dX9_needed_27 rfl rfl ?_
        refine Ex.callV (pc := 28) (As := [.ref 10, .int _, .int _]) (rest := []) dX9_needed_28 cX9_216 (t_bringOut10 (p := p) (b := j) (s := i) hp (by omega) (by omega)) (sh16 _) rfl rfl (by decide) (Nat.le_refl _) (Nat.le_refl _) (Nat.le_of_ble_eq_true rfl) (Or.inl (fun r S' h => by obtain ⟨_, _, h, _⟩ := h; subst h; rfl)) (fun r S' hq _ _ => ?_)
        obtain ⟨I4, rfl, rfl, hS4, hr4⟩ := hq
        have hT : rubA p I 10 j i 99 = rubX p (I 5) (I 6) (xOf I 10) j i 99 := rfl
        rw [hT] at hr4 ⊢
        refine Ex.if_ne (pc := 31) (tgt := 36) dX9_needed_31 (by decide) (fun c31 => ?_) (fun c31 => ?_)
        · skip
          refine Ex.iload_n (pc := 36) dX9_needed_36 rfl rfl ?_
          refine Ex.if_ne (pc := 37) (tgt := 48) dX9_needed_37 (by decide) (fun c37 => ?_) (fun c37 => ?_)
          · skip
            refine Ex.aload_n (pc := 48) dX9_needed_48 rfl rfl ?_
            refine Ex.getR (pc := 49) dX9_needed_49 fX9_47 (sh0 _) r0_7 ?_
            refine Ex.getI (pc := 52) dX9_needed_52 fX9_223 (sh16 _) ?_
            refine Ex.if_le (pc := 55) (tgt := 62) dX9_needed_55 (by decide) (fun c55 => ?_) (fun c55 => ?_)
            · skip
              refine Ex.iconst (pc := 62) (v := 0) dX9_needed_62 rfl ?_
              refine Ex.iret (pc := 63) rfl rfl rfl dX9_needed_63 (Nat.le_refl _) (Nat.le_refl _) ?_
              refine ⟨_, ?_, rfl, hS4⟩
              refine congrArg (fun z => some (Value.int z)) ?_
              have z5 : I4 16 5 = (rubX p (I 5) (I 6) (xOf I 10) j i 99).1 := by rw [← hr4]; rfl
              rw [z5] at c55
              rw [if_neg (by rw [hin]; decide), if_neg c10, if_neg c15, nI_clamp (show j < 2 ^ 31 by omega), nI_clamp (show i < 2 ^ 31 by omega), if_neg (fun q => c31 (by rw [if_neg q])), if_neg c37, if_pos c55]
            · skip
              refine Ex.iconst (pc := 58) (v := 1) dX9_needed_58 rfl ?_
              refine Ex.goto (pc := 59) (tgt := 63) dX9_needed_59 (by decide) ?_
              refine Ex.iret (pc := 63) rfl rfl rfl dX9_needed_63 (Nat.le_refl _) (Nat.le_refl _) ?_
              refine ⟨_, ?_, rfl, hS4⟩
              refine congrArg (fun z => some (Value.int z)) ?_
              have z5 : I4 16 5 = (rubX p (I 5) (I 6) (xOf I 10) j i 99).1 := by rw [← hr4]; rfl
              rw [z5] at c55
              rw [if_neg (by rw [hin]; decide), if_neg c10, if_neg c15, nI_clamp (show j < 2 ^ 31 by omega), nI_clamp (show i < 2 ^ 31 by omega), if_neg (fun q => c31 (by rw [if_neg q])), if_neg c37, if_neg c55]
          · skip
            refine Ex.aload_n (pc := 40) dX9_needed_40 rfl rfl ?_
            refine Ex.getR (pc := 41) dX9_needed_41 fX9_47 (sh0 _) r0_7 ?_
            refine Ex.getI (pc := 44) dX9_needed_44 fX9_220 (sh16 _) ?_
            refine Ex.iret (pc := 47) rfl rfl rfl dX9_needed_47 (Nat.le_refl _) (Nat.le_refl _) ?_
            refine ⟨_, ?_, rfl, hS4⟩
            refine congrArg (fun z => some (Value.int z)) ?_
            rw [if_neg (by rw [hin]; decide), if_neg c10, if_neg c15, nI_clamp (show j < 2 ^ 31 by omega), nI_clamp (show i < 2 ^ 31 by omega), if_neg (fun q => c31 (by rw [if_neg q])), if_pos c37, ← hr4]
            rfl
        · skip
          refine Ex.iconst (pc := 34) (v := (-1)) dX9_needed_34 rfl ?_
          refine Ex.iret (pc := 35) rfl rfl rfl dX9_needed_35 (Nat.le_refl _) (Nat.le_refl _) ?_
          refine ⟨_, ?_, rfl, hS4⟩
          refine congrArg (fun z => some (Value.int z)) ?_
          rw [if_neg (by rw [hin]; decide), if_neg c10, if_neg c15, nI_clamp (show j < 2 ^ 31 by omega), nI_clamp (show i < 2 ^ 31 by omega), if_pos (fun q => absurd (show (1 : Int32) = 0 from by rw [if_pos q] at c31; exact c31) (by decide))]
def bsF (T : Nat → aT) : Nat → Int32 × Int32
  | 0 => (-1, 100)
  | k + 1 => if ¬ (T k).2.1 = 0 then bsF T k else if (bsF T k).2 ≤ (T k).2.2.1 then bsF T k else (nI k, (T k).2.2.1)
set_option maxRecDepth 20000 in
theorem t_best {N : Nat} {I : aI} {L : aL} {p : aP} {nb ns nh : Nat} (hp : PlanG N I p) (hc : CntOk I nb ns nh) {w : Int32} : Run 5 0 0 mX9_best [.ref 0, .int w] (St N I L) (RP (some (.int (if inR w ns = false then -1 else (bsF (fun k => rubX p (I 5) (I 6) (xOf I 10) k w.toNatClampNeg 99) nb).1))) N L (fun I2 => Sm [16, 17, 18] I I2)) := by
  refine Run.of (ls := [some (.ref 0), some (.int _), none, none, none]) (by decide) (Nat.le_of_ble_eq_true rfl) rfl ?_
  obtain ⟨hc0, hb5, hc1, hs6, hc2, hh6, hrib⟩ := id hc
  refine Ex.aload_n (pc := 0) dX9_best_0 rfl rfl ?_
  refine Ex.getR (pc := 1) dX9_best_1 fX9_22 (sh0 _) r0_2 ?_
  refine Ex.iconst (pc := 4) (v := 1) dX9_best_4 rfl ?_
  refine Ex.iload_n (pc := 5) dX9_best_5 rfl rfl ?_
  refine Ex.callV (pc := 6) (As := [.int 1, .int _]) (rest := []) dX9_best_6 cX9_182 (t_holdsB (s := 1) (n := ns) (by decide) hc1) (sh2 _) rfl rfl (by decide) (Nat.le_refl _) (Nat.le_refl _) (Nat.le_of_ble_eq_true rfl) (Or.inl (fun r S' h => by obtain ⟨_, h⟩ := h; subst h; rfl)) (fun r S' hq _ _ => ?_)
  obtain ⟨rfl, rfl⟩ := hq
  refine Ex.if_ne (pc := 9) (tgt := 14) dX9_best_9 (by decide) (fun c9 => ?_) (fun c9 => ?_)
  · skip
    have hin := bI_1 c9
    obtain ⟨i, hi, rfl⟩ := inR_of hin (by omega)
    rw [nI_clamp (show i < 2 ^ 31 by omega), if_neg (by rw [hin]; decide)]
    refine Ex.iconst (pc := 14) (v := (-1)) dX9_best_14 rfl ?_
    refine Ex.istore_n (pc := 15) (ls' := [some (.ref 0), some (.int _), some (.int (-1)), none, none]) dX9_best_15 rfl (by decide) rfl rfl ?_
    refine Ex.bipush (pc := 16) (v := 100) dX9_best_16 rfl ?_
    refine Ex.istore_n (pc := 18) (ls' := [some (.ref 0), some (.int _), some (.int (-1)), some (.int 100), none]) dX9_best_18 rfl (by decide) rfl rfl ?_
    refine Ex.iconst (pc := 19) (v := 0) dX9_best_19 rfl ?_
    refine Ex.istore (pc := 20) (ls' := [some (.ref 0), some (.int _), some (.int (-1)), some (.int 100), some (.int 0)]) dX9_best_20 (by decide) rfl rfl ?_
    refine forUp (σ := aI) (P := fun k I2 => Ex 5 0 0 mX9_best 0 0 22 [some (.ref 0), some (.int (nI i)), some (.int (bsF (fun k => rubX p (I 5) (I 6) (xOf I 10) k i 99) k).1), some (.int (bsF (fun k => rubX p (I 5) (I 6) (xOf I 10) k i 99) k).2), some (.int (nI k))] [] (St N I2 L) _) (Inv := fun k I2 => Sm [16, 17, 18] I I2) nb ?_ ?_ 0 _ (Nat.zero_le _) Sm.rf
    · rintro I2 hS
      have h30 : I2 3 0 = nI nb := by rw [hS 3 (by decide)]; exact hc0
      refine Ex.iload (pc := 22) dX9_best_22 rfl ?_
      refine Ex.aload_n (pc := 24) dX9_best_24 rfl rfl ?_
      refine Ex.getR (pc := 25) dX9_best_25 fX9_22 (sh0 _) r0_2 ?_
      refine Ex.getR (pc := 28) dX9_best_28 fX9_144 (sh2 _) r2_0 ?_
      refine Ex.iconst (pc := 31) (v := 0) dX9_best_31 rfl ?_
      refine Ex.iald (pc := 32) (j := 0) dX9_best_32 (sh3 _) (by unfold vp_in; decide) (by decide) ?_
      refine Ex.icmp_ge (pc := 33) (tgt := 81) dX9_best_33 (by decide) (fun _ => ?_) (fun c33 => absurd (by rw [h30]; exact nI_le (Nat.le_refl nb) (by omega)) c33)
      refine Ex.iload_n (pc := 81) dX9_best_81 rfl rfl ?_
      refine Ex.iret (pc := 82) rfl rfl rfl dX9_best_82 (Nat.le_refl _) (Nat.le_refl _) ?_
      exact ⟨_, rfl, rfl, hS⟩
    · rintro k I2 hk hS ih
      have h30 : I2 3 0 = nI nb := by rw [hS 3 (by decide)]; exact hc0
      refine Ex.iload (pc := 22) dX9_best_22 rfl ?_
      refine Ex.aload_n (pc := 24) dX9_best_24 rfl rfl ?_
      refine Ex.getR (pc := 25) dX9_best_25 fX9_22 (sh0 _) r0_2 ?_
      refine Ex.getR (pc := 28) dX9_best_28 fX9_144 (sh2 _) r2_0 ?_
      refine Ex.iconst (pc := 31) (v := 0) dX9_best_31 rfl ?_
      refine Ex.iald (pc := 32) (j := 0) dX9_best_32 (sh3 _) (by unfold vp_in; decide) (by decide) ?_
      refine Ex.icmp_ge (pc := 33) (tgt := 81) dX9_best_33 (by decide) (fun c33 => absurd c33 (by rw [h30]; exact nI_ge hk (by omega))) (fun _ => ?_)
      refine Ex.aload_n (pc := 36) dX9_best_36 rfl rfl ?_
      refine Ex.getR (pc := 37) dX9_best_37 fX9_47 (sh0 _) r0_7 ?_
      refine Ex.aload_n (pc := 40) dX9_best_40 rfl rfl ?_
      refine Ex.getR (pc := 41) dX9_best_41 fX9_35 (sh0 _) r0_5 ?_
      refine Ex.iload (pc := 44) dX9_best_44 rfl ?_
      refine Ex.iload_n (pc := 46) dX9_best_46 rfl rfl ?_
      refine Ex.callV (pc := 47) (As := [.ref 10, .int _, .int _]) (rest := []) dX9_best_47 cX9_216 (t_bringOut10 (p := p) (b := k) (s := i) (hp.sm hS (by decide) (by decide) (by decide) (by decide)) (by omega) (by omega)) (sh16 _) rfl rfl (by decide) (Nat.le_refl _) (Nat.le_refl _) (Nat.le_of_ble_eq_true rfl) (Or.inl (fun r S' h => by obtain ⟨_, _, h, _⟩ := h; subst h; rfl)) (fun r S' hq _ _ => ?_)
      obtain ⟨I4, rfl, rfl, hS4, hr4⟩ := hq
      have hT : rubA p I2 10 k i 99 = rubX p (I 5) (I 6) (xOf I 10) k i 99 := by
        show rubX p (I2 5) (I2 6) (xOf I2 10) k i 99 = _
        simp only [xOf]
        rw [hS 5 (by decide), hS 6 (by decide), hS 10 (by decide), hS 11 (by decide), hS 12 (by decide)]
      rw [hT] at hr4 ⊢
      have z7 : I4 16 7 = (rubX p (I 5) (I 6) (xOf I 10) k i 99).2.2.1 := by rw [← hr4]; rfl
      refine Ex.if_eq (pc := 50) (tgt := 75) dX9_best_50 (by decide) (fun c50 => ?_) (fun c50 => ?_)
      · skip
        refine Ex.iinc (pc := 75) (ls' := [some (.ref 0), some (.int _), some (.int _), some (.int _), some (.int _)]) dX9_best_75 rfl rfl (by decide) rfl rfl ?_
        refine Ex.goto (pc := 78) (tgt := 22) dX9_best_78 (by decide) ?_
        rw [show nI k + Int32.ofInt 1 = nI (k + 1) from nI_1 k]
        refine Ex.le (ls' := [some (.ref 0), some (.int (nI i)), some (.int (bsF (fun k => rubX p (I 5) (I 6) (xOf I 10) k i 99) (k + 1)).1), some (.int (bsF (fun k => rubX p (I 5) (I 6) (xOf I 10) k i 99) (k + 1)).2), some (.int (nI (k + 1)))]) ⟨rfl, rfl, ?_, ?_, rfl, trivial⟩ (ih _ (hS.tr hS4 (by decide) (by decide)))
        all_goals (refine congrArg Value.int ?_; simp only [bsF]; rw [if_pos (fun q => absurd (show (1 : Int32) = 0 from by rw [if_pos q] at c50; exact c50) (by decide))])
      · skip
        refine Ex.aload_n (pc := 53) dX9_best_53 rfl rfl ?_
        refine Ex.getR (pc := 54) dX9_best_54 fX9_47 (sh0 _) r0_7 ?_
        refine Ex.getI (pc := 57) dX9_best_57 fX9_220 (sh16 _) ?_
        refine Ex.iload_n (pc := 60) dX9_best_60 rfl rfl ?_
        refine Ex.icmp_ge (pc := 61) (tgt := 75) dX9_best_61 (by decide) (fun c61 => ?_) (fun c61 => ?_)
        · skip
          refine Ex.iinc (pc := 75) (ls' := [some (.ref 0), some (.int _), some (.int _), some (.int _), some (.int _)]) dX9_best_75 rfl rfl (by decide) rfl rfl ?_
          refine Ex.goto (pc := 78) (tgt := 22) dX9_best_78 (by decide) ?_
          rw [show nI k + Int32.ofInt 1 = nI (k + 1) from nI_1 k]
          refine Ex.le (ls' := [some (.ref 0), some (.int (nI i)), some (.int (bsF (fun k => rubX p (I 5) (I 6) (xOf I 10) k i 99) (k + 1)).1), some (.int (bsF (fun k => rubX p (I 5) (I 6) (xOf I 10) k i 99) (k + 1)).2), some (.int (nI (k + 1)))]) ⟨rfl, rfl, ?_, ?_, rfl, trivial⟩ (ih _ (hS.tr hS4 (by decide) (by decide)))
          all_goals (rw [z7] at c61)
          all_goals (refine congrArg Value.int ?_; simp only [bsF]; rw [if_neg (fun q => c50 (by rw [if_neg q])), if_pos c61])
        · skip
          refine Ex.iload (pc := 64) dX9_best_64 rfl ?_
          refine Ex.istore_n (pc := 66) (ls' := [some (.ref 0), some (.int _), some (.int _), some (.int _), some (.int _)]) dX9_best_66 rfl (by decide) rfl rfl ?_
          refine Ex.aload_n (pc := 67) dX9_best_67 rfl rfl ?_
          refine Ex.getR (pc := 68) dX9_best_68 fX9_47 (sh0 _) r0_7 ?_
          refine Ex.getI (pc := 71) dX9_best_71 fX9_220 (sh16 _) ?_
          refine Ex.istore_n (pc := 74) (ls' := [some (.ref 0), some (.int _), some (.int _), some (.int _), some (.int _)]) dX9_best_74 rfl (by decide) rfl rfl ?_
          refine Ex.iinc (pc := 75) (ls' := [some (.ref 0), some (.int _), some (.int _), some (.int _), some (.int _)]) dX9_best_75 rfl rfl (by decide) rfl rfl ?_
          refine Ex.goto (pc := 78) (tgt := 22) dX9_best_78 (by decide) ?_
          rw [show nI k + Int32.ofInt 1 = nI (k + 1) from nI_1 k]
          refine Ex.le (ls' := [some (.ref 0), some (.int (nI i)), some (.int (bsF (fun k => rubX p (I 5) (I 6) (xOf I 10) k i 99) (k + 1)).1), some (.int (bsF (fun k => rubX p (I 5) (I 6) (xOf I 10) k i 99) (k + 1)).2), some (.int (nI (k + 1)))]) ⟨rfl, rfl, ?_, ?_, rfl, trivial⟩ (ih _ (hS.tr hS4 (by decide) (by decide)))
          · rw [z7] at c61; refine congrArg Value.int ?_; simp only [bsF]; rw [if_neg (fun q => c50 (by rw [if_neg q])), if_neg c61]
          · rw [z7] at c61; refine congrArg Value.int ?_; simp only [bsF]; rw [if_neg (fun q => c50 (by rw [if_neg q])), if_neg c61, z7]
  · skip
    refine Ex.iconst (pc := 12) (v := (-1)) dX9_best_12 rfl ?_
    refine Ex.iret (pc := 13) rfl rfl rfl dX9_best_13 (Nat.le_refl _) (Nat.le_refl _) ?_
    refine ⟨_, ?_, rfl, Sm.rf⟩
    refine congrArg (fun z => some (Value.int z)) ?_
    rw [bI_0 c9]; rfl
