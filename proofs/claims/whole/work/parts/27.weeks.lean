/-- one week of the State now: the state, what is kept, what came out so far -/
abbrev aZ : Type := aX × List aRow × Int32
def wkS (p : aP) (f5 f6 : Nat → Int32) (nb ns nh : Nat) (dr : Bool) (z : aZ) : aZ :=
  (weekX p f5 f6 nb ns nh dr z.1, keepK z.2.1 z.1.1 (cameX p f5 f6 z.1 (serX p f5 f6 nb ns dr z.1)) (serX p f5 f6 nb ns dr z.1), z.2.2 + cameX p f5 f6 z.1 (serX p f5 f6 nb ns dr z.1))
def wkN (p : aP) (f5 f6 : Nat → Int32) (nb ns nh : Nat) : Nat → aZ → aZ
  | 0, z => z
  | n + 1, z => wkS p f5 f6 nb ns nh false (wkN p f5 f6 nb ns nh n z)
theorem keepK_len (ks : List aRow) (w c : Int32) (se : Option (Nat × Nat)) : (keepK ks w c se).length ≤ ks.length + 1 := by
  cases se <;> simp [keepK]
theorem wkN_len (p : aP) (f5 f6 : Nat → Int32) (nb ns nh : Nat) : ∀ n z, (wkN p f5 f6 nb ns nh n z).2.1.length ≤ z.2.1.length + n
  | 0, _ => Nat.le_refl _
  | n + 1, z => by
    have := wkN_len p f5 f6 nb ns nh n z
    have h2 := keepK_len (wkN p f5 f6 nb ns nh n z).2.1 (wkN p f5 f6 nb ns nh n z).1.1 (cameX p f5 f6 (wkN p f5 f6 nb ns nh n z).1 (serX p f5 f6 nb ns false (wkN p f5 f6 nb ns nh n z).1)) (serX p f5 f6 nb ns false (wkN p f5 f6 nb ns nh n z).1)
    show (keepK _ _ _ _).length ≤ _
    omega

set_option maxRecDepth 20000 in
theorem t_weeks0 {N : Nat} {I : aI} {L : aL} {n : Int32} (hbad : ¬ (¬ n < 1 ∧ cpB n (I 10 0) = true)) : Run 1 0 0 mX9_weeks [.ref 0, .int n] (St N I L) (RI (-1) (St N (refI I 2) L)) := by
  refine Run.of (ls := [some (.ref 0), some (.int _), none, none]) (by decide) (Nat.le_of_ble_eq_true rfl) rfl ?_
  refine Ex.iload_n (pc := 0) dX9_weeks_0 rfl rfl ?_
  refine Ex.iconst (pc := 1) (v := 1) dX9_weeks_1 rfl ?_
  refine Ex.icmp_lt (pc := 2) (tgt := 13) dX9_weeks_2 (by decide) (fun c2 => ?_) (fun c2 => ?_)
  · skip
    refine Ex.aload_n (pc := 13) dX9_weeks_13 rfl rfl ?_
    refine Ex.iconst (pc := 14) (v := 2) dX9_weeks_14 rfl ?_
    refine Ex.callV (pc := 15) (As := [.int 2]) (rest := []) dX9_weeks_15 cX9_102 (t_refuse (k := 2) (by decide)) (sh0 _) rfl rfl (by decide) (Nat.le_refl _) (Nat.le_refl _) (Nat.le_of_ble_eq_true rfl) (Or.inl (fun r S' h => by obtain ⟨_, h⟩ := h; subst h; rfl)) (fun r S' hq _ _ => ?_)
    obtain ⟨rfl, rfl⟩ := hq
    refine Ex.iret (pc := 18) rfl rfl rfl dX9_weeks_18 (Nat.le_refl _) (Nat.le_refl _) ?_
    exact ⟨rfl, rfl⟩
  · skip
    refine Ex.aload_n (pc := 5) dX9_weeks_5 rfl rfl ?_
    refine Ex.iload_n (pc := 6) dX9_weeks_6 rfl rfl ?_
    refine Ex.callV (pc := 7) (As := [.int _]) (rest := []) dX9_weeks_7 cX9_248 t_canPass (sh0 _) rfl rfl (by decide) (Nat.le_refl _) (Nat.le_refl _) (Nat.le_of_ble_eq_true rfl) (Or.inl (fun r S' h => by obtain ⟨_, h⟩ := h; subst h; rfl)) (fun r S' hq _ _ => ?_)
    obtain ⟨rfl, rfl⟩ := hq
    refine Ex.if_ne (pc := 10) (tgt := 19) dX9_weeks_10 (by decide) (fun c10 => ?_) (fun c10 => ?_)
    · skip
      exact absurd ⟨c2, bI_1 c10⟩ hbad
    · skip
      refine Ex.aload_n (pc := 13) dX9_weeks_13 rfl rfl ?_
      refine Ex.iconst (pc := 14) (v := 2) dX9_weeks_14 rfl ?_
      refine Ex.callV (pc := 15) (As := [.int 2]) (rest := []) dX9_weeks_15 cX9_102 (t_refuse (k := 2) (by decide)) (sh0 _) rfl rfl (by decide) (Nat.le_refl _) (Nat.le_refl _) (Nat.le_of_ble_eq_true rfl) (Or.inl (fun r S' h => by obtain ⟨_, h⟩ := h; subst h; rfl)) (fun r S' hq _ _ => ?_)
      obtain ⟨rfl, rfl⟩ := hq
      refine Ex.iret (pc := 18) rfl rfl rfl dX9_weeks_18 (Nat.le_refl _) (Nat.le_refl _) ?_
      exact ⟨rfl, rfl⟩
set_option maxRecDepth 20000 in
theorem t_weeks1 {N : Nat} {I : aI} {L : aL} {p : aP} {nb ns nh : Nat} (hp : PlanG N I p) (hc : CntOk I nb ns nh) {nx : Nat} {us : List (Nat → Int32)} (ha : ActsR I nx us) {n lo : Nat} {ks : List aRow} (hk : KeptR I lo ks) (hlo : ks.length + 40 ≤ lo + 840) (hl2 : ks.length < 2 ^ 27) (hn1 : 1 ≤ n) (hn : n ≤ 40) (hcp : cpB (nI n) (I 10 0) = true) : Run 7 0 0 mX9_weeks [.ref 0, .int (nI n)] (St N I L) (RP (some (.int (wkN p (I 5) (I 6) nb ns nh n (xOf I 10, ks, (0 : Int32))).2.2)) N L (fun I2 => Sm [10, 11, 12, 16, 17, 18, 19, 20, 22, 26, 30] I I2 ∧ xOf I2 10 = (wkN p (I 5) (I 6) nb ns nh n (xOf I 10, ks, (0 : Int32))).1 ∧ KeptR I2 lo (wkN p (I 5) (I 6) nb ns nh n (xOf I 10, ks, (0 : Int32))).2.1 ∧ ActsR I2 ((nx + 1) % 20) ((snap I 10 :: us).take 20) ∧ I2 26 = upd (I 26) 0 0 ∧ I2 30 = upd (I 30) 0 (-1))) := by
  refine Run.of (ls := [some (.ref 0), some (.int _), none, none]) (by decide) (Nat.le_of_ble_eq_true rfl) rfl ?_
  refine Ex.iload_n (pc := 0) dX9_weeks_0 rfl rfl ?_
  refine Ex.iconst (pc := 1) (v := 1) dX9_weeks_1 rfl ?_
  refine Ex.icmp_lt (pc := 2) (tgt := 13) dX9_weeks_2 (by decide) (fun c2 => absurd c2 (nI_nlt (b := 1) (by omega) (by omega))) (fun _ => ?_)
  refine Ex.aload_n (pc := 5) dX9_weeks_5 rfl rfl ?_
  refine Ex.iload_n (pc := 6) dX9_weeks_6 rfl rfl ?_
  refine Ex.callV (pc := 7) (As := [.int _]) (rest := []) dX9_weeks_7 cX9_248 t_canPass (sh0 _) rfl rfl (by decide) (Nat.le_refl _) (Nat.le_refl _) (Nat.le_of_ble_eq_true rfl) (Or.inl (fun r S' h => by obtain ⟨_, h⟩ := h; subst h; rfl)) (fun r S' hq _ _ => ?_)
  obtain ⟨rfl, rfl⟩ := hq
  rw [hcp]
  refine Ex.if_ne (pc := 10) (tgt := 19) dX9_weeks_10 (by decide) (fun _ => ?_) (fun c10 => absurd c10 (by decide))
  refine Ex.aload_n (pc := 19) dX9_weeks_19 rfl rfl ?_
  refine Ex.callV (pc := 20) (As := []) (rest := []) dX9_weeks_20 cX9_279 (t_beginAct ha) (sh0 _) rfl rfl (by decide) (Nat.le_refl _) (Nat.le_refl _) (Nat.le_of_ble_eq_true rfl) (Or.inl (fun r S' h => by obtain ⟨_, _, h, _⟩ := h; subst h; rfl)) (fun r S' hq _ _ => ?_)
  obtain ⟨I3, rfl, rfl, hS3, hA3, h26, h30⟩ := hq
  refine Ex.iconst (pc := 23) (v := 0) dX9_weeks_23 rfl ?_
  refine Ex.istore_n (pc := 24) (ls' := [some (.ref 0), some (.int _), some (.int 0), none]) dX9_weeks_24 rfl (by decide) rfl rfl ?_
  refine Ex.iconst (pc := 25) (v := 0) dX9_weeks_25 rfl ?_
  refine Ex.istore_n (pc := 26) (ls' := [some (.ref 0), some (.int _), some (.int 0), some (.int 0)]) dX9_weeks_26 rfl (by decide) rfl rfl ?_
  refine forUp (σ := aI) (P := fun k I2 => Ex 7 0 0 mX9_weeks 0 0 27 [some (.ref 0), some (.int (nI n)), some (.int (wkN p (I 5) (I 6) nb ns nh k (xOf I 10, ks, (0 : Int32))).2.2), some (.int (nI k))] [] (St N I2 L) _) (Inv := fun k I2 => Sm [10, 11, 12, 16, 17, 18, 19, 20, 22, 26, 30] I I2 ∧ xOf I2 10 = (wkN p (I 5) (I 6) nb ns nh k (xOf I 10, ks, (0 : Int32))).1 ∧ KeptR I2 lo (wkN p (I 5) (I 6) nb ns nh k (xOf I 10, ks, (0 : Int32))).2.1 ∧ ActsR I2 ((nx + 1) % 20) ((snap I 10 :: us).take 20) ∧ I2 26 = upd (I 26) 0 0 ∧ I2 30 = upd (I 30) 0 (-1)) n ?_ ?_ 0 _ (Nat.zero_le _) ⟨hS3.tr Sm.rf (l := [10, 11, 12, 16, 17, 18, 19, 20, 22, 26, 30]) (l2 := []) (by decide) (by decide), by simp only [xOf]; rw [hS3 10 (by decide), hS3 11 (by decide), hS3 12 (by decide)]; rfl, ?_, hA3, h26, h30⟩
  · rintro I2 ⟨hS, hx2, hk2, hA2, h26, h30⟩
    refine Ex.iload_n (pc := 27) dX9_weeks_27 rfl rfl ?_
    refine Ex.iload_n (pc := 28) dX9_weeks_28 rfl rfl ?_
    refine Ex.icmp_ge (pc := 29) (tgt := 53) dX9_weeks_29 (by decide) (fun _ => ?_) (fun c29 => absurd (nI_le (Nat.le_refl n) (by omega)) c29)
    refine Ex.iload_n (pc := 53) dX9_weeks_53 rfl rfl ?_
    refine Ex.iret (pc := 54) rfl rfl rfl dX9_weeks_54 (Nat.le_refl _) (Nat.le_refl _) ?_
    exact ⟨_, rfl, rfl, hS, hx2, hk2, hA2, h26, h30⟩
  · rintro k I2 hk1 ⟨hS, hx2, hk2, hA2, h26, h30⟩ ih
    have hlen := wkN_len p (I 5) (I 6) nb ns nh k (xOf I 10, ks, (0 : Int32))
    simp only at hlen
    refine Ex.iload_n (pc := 27) dX9_weeks_27 rfl rfl ?_
    refine Ex.iload_n (pc := 28) dX9_weeks_28 rfl rfl ?_
    refine Ex.icmp_ge (pc := 29) (tgt := 53) dX9_weeks_29 (by decide) (fun c29 => absurd c29 (nI_ge hk1 (by omega))) (fun _ => ?_)
    refine Ex.aload_n (pc := 32) dX9_weeks_32 rfl rfl ?_
    refine Ex.iconst (pc := 33) (v := 0) dX9_weeks_33 rfl ?_
    refine Ex.callV (pc := 34) (As := [.int 0]) (rest := []) dX9_weeks_34 cX9_282 (t_keepWeek (p := p) (nb := nb) (ns := ns) (nh := nh) (lo := lo) (dr := false) (hp.sm hS (by decide) (by decide) (by decide) (by decide)) (hc.sm hS (by decide) (by decide)) hk2 (by omega) (by omega)) (sh0 _) rfl rfl (by decide) (Nat.le_refl _) (Nat.le_refl _) (Nat.le_of_ble_eq_true rfl) (Or.inl (fun r S' h => by obtain ⟨_, _, h, _⟩ := h; subst h; rfl)) (fun r S' hq _ _ => ?_)
    obtain ⟨I4, rfl, rfl, hS4, hx4, hk4, hc4⟩ := hq
    rw [hS 5 (by decide), hS 6 (by decide)] at hx4 hk4 hc4
    rw [hx2] at hx4 hk4 hc4
    refine Ex.iload_n (pc := 37) dX9_weeks_37 rfl rfl ?_
    refine Ex.aload_n (pc := 38) dX9_weeks_38 rfl rfl ?_
    refine Ex.getR (pc := 39) dX9_weeks_39 fX9_47 (sh0 _) r0_7 ?_
    refine Ex.getI (pc := 42) dX9_weeks_42 fX9_286 (sh16 _) ?_
    refine Ex.iadd (pc := 45) dX9_weeks_45 ?_
    refine Ex.istore_n (pc := 46) (ls' := [some (.ref 0), some (.int _), some (.int _), some (.int _)]) dX9_weeks_46 rfl (by decide) rfl rfl ?_
    refine Ex.iinc (pc := 47) (ls' := [some (.ref 0), some (.int _), some (.int _), some (.int _)]) dX9_weeks_47 rfl rfl (by decide) rfl rfl ?_
    refine Ex.goto (pc := 50) (tgt := 27) dX9_weeks_50 (by decide) ?_
    rw [show nI k + Int32.ofInt 1 = nI (k + 1) from nI_1 k]
    refine Ex.le (ls' := [some (.ref 0), some (.int (nI n)), some (.int (wkN p (I 5) (I 6) nb ns nh (k + 1) (xOf I 10, ks, (0 : Int32))).2.2), some (.int (nI (k + 1)))]) ⟨rfl, rfl, ?_, rfl, trivial⟩ (ih _ ⟨hS.tr hS4 (by decide) (by decide), hx4, ?_, hA2.sm hS4 (by decide) (by decide), by rw [hS4 26 (by decide)]; exact h26, by rw [hS4 30 (by decide)]; exact h30⟩)
    · rw [hc4]; rfl
    · have e0 : I2 10 0 = (wkN p (I 5) (I 6) nb ns nh k (xOf I 10, ks, 0)).1.1 := by rw [← hx2]; rfl
      rw [e0] at hk4; exact hk4
  · exact ⟨by rw [hS3 10 (by decide)]; exact hk.1, hk.2.1, hk.2.2.1, fun i r h1 h2 => by rw [hS3 22 (by decide)]; exact hk.2.2.2 i r h1 h2⟩
set_option maxRecDepth 20000 in
theorem t_kept {N : Nat} {I : aI} {L : aL} {lo : Nat} {ks : List aRow} {w v : Int32} (hk : KeptR I lo ks) : Run 1 0 0 mX9_kept [.ref 0, .int w, .int v] (St N I L) (RI (if inR w (if ks.length < 40 then ks.length else 40) = false then -1 else if v < 0 then -1 else if v ≤ 3 then (if v = 0 then I 22 ((ks.length - (if ks.length < 40 then ks.length else 40) + w.toNatClampNeg) % 840) >>> (16 &&& 31) else if v = 1 then I 22 ((ks.length - (if ks.length < 40 then ks.length else 40) + w.toNatClampNeg) % 840) >>> (12 &&& 31) &&& 15 else if v = 2 then I 22 ((ks.length - (if ks.length < 40 then ks.length else 40) + w.toNatClampNeg) % 840) >>> (8 &&& 31) &&& 15 else I 22 ((ks.length - (if ks.length < 40 then ks.length else 40) + w.toNatClampNeg) % 840) &&& 255) else -1) (St N I L)) := by
  refine Run.of (ls := [some (.ref 0), some (.int _), some (.int _), none]) (by decide) (Nat.le_of_ble_eq_true rfl) rfl ?_
  obtain ⟨hk1, hk2, -, -⟩ := hk
  generalize hm : (if ks.length < 40 then ks.length else 40) = m
  have hm40 : m ≤ 40 := by rw [← hm]; split <;> omega
  have hml : m ≤ ks.length := by rw [← hm]; split <;> omega
  refine Ex.bipush (pc := 0) (v := 40) dX9_kept_0 rfl ?_
  refine Ex.aload_n (pc := 2) dX9_kept_2 rfl rfl ?_
  refine Ex.getR (pc := 3) dX9_kept_3 fX9_35 (sh0 _) r0_5 ?_
  refine Ex.getI (pc := 6) dX9_kept_6 fX9_168 (sh10 _) ?_
  refine Ex.min (pc := 9) dX9_kept_9 kl_X9_171 (by decide) (Nat.le_of_ble_eq_true rfl) (Nat.le_refl _) (Nat.le_refl _) ?_
  refine Ex.istore_n (pc := 12) (ls' := [some (.ref 0), some (.int _), some (.int _), some (.int _)]) dX9_kept_12 rfl (by decide) rfl rfl ?_
  refine Ex.le (ls' := [some (.ref 0), some (.int w), some (.int v), some (.int (nI m))]) ⟨rfl, rfl, rfl, ?_, trivial⟩ ?_
  · rw [hk1, ← hm]
    by_cases h : ks.length < 40
    · rw [if_pos h, if_pos (show nI ks.length < 40 from nI_lt (b := 40) h (by decide))]
    · rw [if_neg h, if_neg (show ¬ nI ks.length < 40 from nI_nlt (b := 40) (by omega) (by omega))]; rfl
  refine Ex.iload_n (pc := 13) dX9_kept_13 rfl rfl ?_
  refine Ex.if_lt (pc := 14) (tgt := 31) dX9_kept_14 (by decide) (fun c14 => ?_) (fun c14 => ?_)
  · skip
    refine Ex.iconst (pc := 31) (v := (-1)) dX9_kept_31 rfl ?_
    refine Ex.iret (pc := 32) rfl rfl rfl dX9_kept_32 (Nat.le_refl _) (Nat.le_refl _) ?_
    refine ⟨?_, rfl⟩
    refine congrArg (fun z => some (Value.int z)) ?_
    rw [if_pos (show inR w m = false from by simp [inR, c14])]
  · skip
    refine Ex.iload_n (pc := 17) dX9_kept_17 rfl rfl ?_
    refine Ex.iload_n (pc := 18) dX9_kept_18 rfl rfl ?_
    refine Ex.icmp_ge (pc := 19) (tgt := 31) dX9_kept_19 (by decide) (fun c19 => ?_) (fun c19 => ?_)
    · skip
      refine Ex.iconst (pc := 31) (v := (-1)) dX9_kept_31 rfl ?_
      refine Ex.iret (pc := 32) rfl rfl rfl dX9_kept_32 (Nat.le_refl _) (Nat.le_refl _) ?_
      refine ⟨?_, rfl⟩
      refine congrArg (fun z => some (Value.int z)) ?_
      rw [if_pos (show inR w m = false from by simp [inR, c19])]
    · skip
      refine Ex.iload_n (pc := 22) dX9_kept_22 rfl rfl ?_
      refine Ex.if_lt (pc := 23) (tgt := 31) dX9_kept_23 (by decide) (fun c23 => ?_) (fun c23 => ?_)
      · skip
        refine Ex.iconst (pc := 31) (v := (-1)) dX9_kept_31 rfl ?_
        refine Ex.iret (pc := 32) rfl rfl rfl dX9_kept_32 (Nat.le_refl _) (Nat.le_refl _) ?_
        refine ⟨?_, rfl⟩
        refine congrArg (fun z => some (Value.int z)) ?_
        rw [if_neg (show ¬ inR w m = false from by simp [inR, c14, c19]), if_pos c23]
      · skip
        refine Ex.iload_n (pc := 26) dX9_kept_26 rfl rfl ?_
        refine Ex.iconst (pc := 27) (v := 3) dX9_kept_27 rfl ?_
        refine Ex.icmp_le (pc := 28) (tgt := 33) dX9_kept_28 (by decide) (fun c28 => ?_) (fun c28 => ?_)
        · skip
          have hin : inR w m = true := by simp only [inR]; exact decide_eq_true ⟨c14, c19⟩
          obtain ⟨j, hj, rfl⟩ := inR_of hin (by omega)
          refine Ex.aload_n (pc := 33) dX9_kept_33 rfl rfl ?_
          refine Ex.getR (pc := 34) dX9_kept_34 fX9_61 (sh0 _) r0_9 ?_
          refine Ex.aload_n (pc := 37) dX9_kept_37 rfl rfl ?_
          refine Ex.getR (pc := 38) dX9_kept_38 fX9_35 (sh0 _) r0_5 ?_
          refine Ex.getI (pc := 41) dX9_kept_41 fX9_168 (sh10 _) ?_
          refine Ex.iload_n (pc := 44) dX9_kept_44 rfl rfl ?_
          refine Ex.isub (pc := 45) dX9_kept_45 ?_
          refine Ex.iload_n (pc := 46) dX9_kept_46 rfl rfl ?_
          refine Ex.iadd (pc := 47) dX9_kept_47 ?_
          rw [hk1, show nI ks.length - nI m + nI j = nI (ks.length - m + j) from by rw [pk_sub hml]; exact nI_add _ _]
          refine Ex.iload_n (pc := 48) dX9_kept_48 rfl rfl ?_
          refine Ex.callV (pc := 49) (As := [.int _, .int _]) (rest := []) dX9_kept_49 cX9_309 (t_ktell (n := ks.length - m + j) (by omega)) (sh21 _) rfl rfl (by decide) (Nat.le_refl _) (Nat.le_refl _) (Nat.le_of_ble_eq_true rfl) (Or.inl (fun r S' h => by obtain ⟨_, h⟩ := h; subst h; rfl)) (fun r S' hq _ _ => ?_)
          obtain ⟨rfl, rfl⟩ := hq
          refine Ex.iret (pc := 52) rfl rfl rfl dX9_kept_52 (Nat.le_refl _) (Nat.le_refl _) ?_
          refine ⟨?_, rfl⟩
          refine congrArg (fun z => some (Value.int z)) ?_
          rw [if_neg (show ¬ inR (nI j) m = false from by rw [hin]; decide), if_neg c23, if_pos c28, nI_clamp (by omega)]
        · skip
          refine Ex.iconst (pc := 31) (v := (-1)) dX9_kept_31 rfl ?_
          refine Ex.iret (pc := 32) rfl rfl rfl dX9_kept_32 (Nat.le_refl _) (Nat.le_refl _) ?_
          refine ⟨?_, rfl⟩
          refine congrArg (fun z => some (Value.int z)) ?_
          rw [if_neg (show ¬ inR w m = false from by simp [inR, c14, c19]), if_neg c23, if_neg c28]
