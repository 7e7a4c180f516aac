/-- an end that tells of ints and longs -/
def RPL (N : Nat) (P : Int32 → aI → aL → Prop) : aQ := fun r S' => ∃ (x : Int32) (I' : aI) (L' : aL), (r = some (.int x) ∧ P x I' L') ∧ S' = St N I' L'
def drw (x : Int64) : Int64 := 1103515245 * x + 12345 &&& 2147483647
def drL (L : aL) : aL := va_up L 0 (vp_updL (L 0) 13 (drw (L 0 13)))
def drV (x : Int64) : Int32 := (drw x / 64 - drw x / 64 / 100 * 100).toInt32
def drIt : Nat → Int64 → Int64
  | 0, x => x
  | n + 1, x => drw (drIt n x)
def setD (L : aL) (d : Int64) : aL := va_up L 0 (vp_updL (L 0) 13 d)
theorem setD_s {L : aL} {d : Int64} : setD L d 0 13 = d := by simp [setD, va_up, vp_updL]
theorem setD_d {L : aL} {d e : Int64} : setD (setD L d) e = setD L e := by
  funext a j
  by_cases h : a = 0
  · subst h
    by_cases h2 : j = 13 <;> simp [setD, va_up, vp_updL, h2]
  · simp [setD, va_up, h]
theorem setD_0 {L : aL} : setD L (L 0 13) = L := by
  funext a j
  by_cases h : a = 0
  · subst h
    by_cases h2 : j = 13 <;> simp [setD, va_up, vp_updL, h2]
  · simp [setD, va_up, h]
/-- n weeks by the seed: state, kept, came; droughts; seed -/
def chS (p : aP) (f5 f6 : Nat → Int32) (nb ns nh : Nat) (dry : Int32) (z : aZ × Int32 × Int64) : aZ × Int32 × Int64 :=
  (wkS p f5 f6 nb ns nh (decide (¬ dry ≤ drV z.2.2)) z.1, z.2.1 + bI (decide (¬ dry ≤ drV z.2.2)), drw z.2.2)
def chN (p : aP) (f5 f6 : Nat → Int32) (nb ns nh : Nat) (dry : Int32) : Nat → aZ × Int32 × Int64 → aZ × Int32 × Int64
  | 0, z => z
  | n + 1, z => chS p f5 f6 nb ns nh dry (chN p f5 f6 nb ns nh dry n z)
theorem chN_len (p : aP) (f5 f6 : Nat → Int32) (nb ns nh : Nat) (dry : Int32) : ∀ n z, (chN p f5 f6 nb ns nh dry n z).1.2.1.length ≤ z.1.2.1.length + n
  | 0, _ => Nat.le_refl _
  | n + 1, z => by
    have := chN_len p f5 f6 nb ns nh dry n z
    show (keepK _ _ _ _).length ≤ _
    refine Nat.le_trans (keepK_len _ _ _ _) ?_
    omega

set_option maxRecDepth 20000 in
theorem t_draw {N : Nat} {I : aI} {L : aL} : Run 0 0 0 mX9_draw [.ref 0, .int 100] (St N I L) (RI (drV (L 0 13)) (St N I (setD L (drw (L 0 13))))) := by
  refine Run.of (ls := [some (.ref 0), some (.int _)]) (by decide) (Nat.le_of_ble_eq_true rfl) rfl ?_
  refine Ex.aload_n (pc := 0) dX9_draw_0 rfl rfl ?_
  refine Ex.ldc2 (pc := 1) dX9_draw_1 kv_X9_319 ?_
  refine Ex.aload_n (pc := 4) dX9_draw_4 rfl rfl ?_
  refine Ex.getL (pc := 5) dX9_draw_5 fX9_88 (sh0 _) ?_
  refine Ex.lmul (pc := 8) dX9_draw_8 ?_
  refine Ex.ldc2 (pc := 9) dX9_draw_9 kv_X9_321 ?_
  refine Ex.ladd (pc := 12) dX9_draw_12 ?_
  refine Ex.ldc2 (pc := 13) dX9_draw_13 kv_X9_323 ?_
  refine Ex.land (pc := 16) dX9_draw_16 ?_
  refine Ex.putL (pc := 17) dX9_draw_17 fX9_88 (sh0 _) (Or.inl rfl) ⟨rfl, rfl⟩ ?_
  refine Ex.iload_n (pc := 20) dX9_draw_20 rfl rfl ?_
  refine Ex.if_le (pc := 21) (tgt := 39) dX9_draw_21 (by decide) (fun c21 => absurd c21 (by decide)) (fun _ => ?_)
  refine Ex.aload_n (pc := 24) dX9_draw_24 rfl rfl ?_
  refine Ex.getL (pc := 25) dX9_draw_25 fX9_88 (sh0 _) ?_
  refine Ex.ldc2 (pc := 28) dX9_draw_28 kv_X9_325 ?_
  refine Ex.ldiv (pc := 31) dX9_draw_31 (by decide) ?_
  refine Ex.iload_n (pc := 32) dX9_draw_32 rfl rfl ?_
  refine Ex.i2l (pc := 33) dX9_draw_33 ?_
  refine Ex.lrem (pc := 34) dX9_draw_34 (by decide) ?_
  refine Ex.l2i (pc := 35) dX9_draw_35 ?_
  refine Ex.goto (pc := 36) (tgt := 40) dX9_draw_36 (by decide) ?_
  refine Ex.iret (pc := 40) rfl rfl rfl dX9_draw_40 (Nat.le_refl _) (Nat.le_refl _) ?_
  exact ⟨by simp only [va_up_s, drV]; simp [vp_updL]; rfl, rfl⟩
set_option maxRecDepth 20000 in
theorem t_chance0 {N : Nat} {I : aI} {L : aL} {n : Int32} (hbad : ¬ (¬ n < 1 ∧ cpB n (I 10 0) = true)) : Run 1 0 0 mX9_chance [.ref 0, .int n] (St N I L) (RI (-1) (St N (refI I 2) L)) := by
  refine Run.of (ls := [some (.ref 0), some (.int _), none, none, none]) (by decide) (Nat.le_of_ble_eq_true rfl) rfl ?_
  refine Ex.iload_n (pc := 0) dX9_chance_0 rfl rfl ?_
  refine Ex.iconst (pc := 1) (v := 1) dX9_chance_1 rfl ?_
  refine Ex.icmp_lt (pc := 2) (tgt := 13) dX9_chance_2 (by decide) (fun c2 => ?_) (fun c2 => ?_)
  · skip
    refine Ex.aload_n (pc := 13) dX9_chance_13 rfl rfl ?_
    refine Ex.iconst (pc := 14) (v := 2) dX9_chance_14 rfl ?_
    refine Ex.callV (pc := 15) (As := [.int 2]) (rest := []) dX9_chance_15 cX9_102 (t_refuse (k := 2) (by decide)) (sh0 _) rfl rfl (by decide) (Nat.le_refl _) (Nat.le_refl _) (Nat.le_of_ble_eq_true rfl) (Or.inl (fun r S' h => by obtain ⟨_, h⟩ := h; subst h; rfl)) (fun r S' hq _ _ => ?_)
    obtain ⟨rfl, rfl⟩ := hq
    refine Ex.iret (pc := 18) rfl rfl rfl dX9_chance_18 (Nat.le_refl _) (Nat.le_refl _) ?_
    exact ⟨rfl, rfl⟩
  · skip
    refine Ex.aload_n (pc := 5) dX9_chance_5 rfl rfl ?_
    refine Ex.iload_n (pc := 6) dX9_chance_6 rfl rfl ?_
    refine Ex.callV (pc := 7) (As := [.int _]) (rest := []) dX9_chance_7 cX9_248 t_canPass (sh0 _) rfl rfl (by decide) (Nat.le_refl _) (Nat.le_refl _) (Nat.le_of_ble_eq_true rfl) (Or.inl (fun r S' h => by obtain ⟨_, h⟩ := h; subst h; rfl)) (fun r S' hq _ _ => ?_)
    obtain ⟨rfl, rfl⟩ := hq
    refine Ex.if_ne (pc := 10) (tgt := 19) dX9_chance_10 (by decide) (fun c10 => ?_) (fun c10 => ?_)
    · skip
      exact absurd ⟨c2, bI_1 c10⟩ hbad
    · skip
      refine Ex.aload_n (pc := 13) dX9_chance_13 rfl rfl ?_
      refine Ex.iconst (pc := 14) (v := 2) dX9_chance_14 rfl ?_
      refine Ex.callV (pc := 15) (As := [.int 2]) (rest := []) dX9_chance_15 cX9_102 (t_refuse (k := 2) (by decide)) (sh0 _) rfl rfl (by decide) (Nat.le_refl _) (Nat.le_refl _) (Nat.le_of_ble_eq_true rfl) (Or.inl (fun r S' h => by obtain ⟨_, h⟩ := h; subst h; rfl)) (fun r S' hq _ _ => ?_)
      obtain ⟨rfl, rfl⟩ := hq
      refine Ex.iret (pc := 18) rfl rfl rfl dX9_chance_18 (Nat.le_refl _) (Nat.le_refl _) ?_
      exact ⟨rfl, rfl⟩
set_option maxRecDepth 20000 in
theorem t_chance1 {N : Nat} {I : aI} {L : aL} {p : aP} {nb ns nh : Nat} (hp : PlanG N I p) (hc : CntOk I nb ns nh) {nx : Nat} {us : List (Nat → Int32)} (ha : ActsR I nx us) {n lo : Nat} {ks : List aRow} (hk : KeptR I lo ks) (hlo : ks.length + 40 ≤ lo + 840) (hl2 : ks.length < 2 ^ 27) (hn1 : 1 ≤ n) (hn : n ≤ 40) (hcp : cpB (nI n) (I 10 0) = true) : Run 7 0 0 mX9_chance [.ref 0, .int (nI n)] (St N I L) (RPL N (fun x I2 L2 => x = (chN p (I 5) (I 6) nb ns nh (I 2 5) n ((xOf I 10, ks, (0 : Int32)), (0 : Int32), L 0 13)).2.1 ∧ L2 = setD L (chN p (I 5) (I 6) nb ns nh (I 2 5) n ((xOf I 10, ks, (0 : Int32)), (0 : Int32), L 0 13)).2.2 ∧ Sm [10, 11, 12, 16, 17, 18, 19, 20, 22, 26, 30] I I2 ∧ xOf I2 10 = (chN p (I 5) (I 6) nb ns nh (I 2 5) n ((xOf I 10, ks, (0 : Int32)), (0 : Int32), L 0 13)).1.1 ∧ KeptR I2 lo (chN p (I 5) (I 6) nb ns nh (I 2 5) n ((xOf I 10, ks, (0 : Int32)), (0 : Int32), L 0 13)).1.2.1 ∧ ActsR I2 ((nx + 1) % 20) ((snap I 10 :: us).take 20) ∧ I2 26 = upd (I 26) 0 0 ∧ I2 30 = upd (I 30) 0 (-1))) := by
  refine Run.of (ls := [some (.ref 0), some (.int _), none, none, none]) (by decide) (Nat.le_of_ble_eq_true rfl) rfl ?_
  refine Ex.iload_n (pc := 0) dX9_chance_0 rfl rfl ?_
  refine Ex.iconst (pc := 1) (v := 1) dX9_chance_1 rfl ?_
  refine Ex.icmp_lt (pc := 2) (tgt := 13) dX9_chance_2 (by decide) (fun c2 => absurd c2 (nI_nlt (b := 1) (by omega) (by omega))) (fun _ => ?_)
  refine Ex.aload_n (pc := 5) dX9_chance_5 rfl rfl ?_
  refine Ex.iload_n (pc := 6) dX9_chance_6 rfl rfl ?_
  refine Ex.callV (pc := 7) (As := [.int _]) (rest := []) dX9_chance_7 cX9_248 t_canPass (sh0 _) rfl rfl (by decide) (Nat.le_refl _) (Nat.le_refl _) (Nat.le_of_ble_eq_true rfl) (Or.inl (fun r S' h => by obtain ⟨_, h⟩ := h; subst h; rfl)) (fun r S' hq _ _ => ?_)
  obtain ⟨rfl, rfl⟩ := hq
  rw [hcp]
  refine Ex.if_ne (pc := 10) (tgt := 19) dX9_chance_10 (by decide) (fun _ => ?_) (fun c10 => absurd c10 (by decide))
  refine Ex.aload_n (pc := 19) dX9_chance_19 rfl rfl ?_
  refine Ex.callV (pc := 20) (As := []) (rest := []) dX9_chance_20 cX9_279 (t_beginAct ha) (sh0 _) rfl rfl (by decide) (Nat.le_refl _) (Nat.le_refl _) (Nat.le_of_ble_eq_true rfl) (Or.inl (fun r S' h => by obtain ⟨_, _, h, _⟩ := h; subst h; rfl)) (fun r S' hq _ _ => ?_)
  obtain ⟨I3, rfl, rfl, hS3, hA3, h26, h30⟩ := hq
  refine Ex.iconst (pc := 23) (v := 0) dX9_chance_23 rfl ?_
  refine Ex.istore_n (pc := 24) (ls' := [some (.ref 0), some (.int _), some (.int 0), none, none]) dX9_chance_24 rfl (by decide) rfl rfl ?_
  refine Ex.iconst (pc := 25) (v := 0) dX9_chance_25 rfl ?_
  refine Ex.istore_n (pc := 26) (ls' := [some (.ref 0), some (.int _), some (.int 0), some (.int 0), none]) dX9_chance_26 rfl (by decide) rfl rfl ?_
  refine Ex.mm (S' := St N I3 (setD L (L 0 13))) (by rw [setD_0]) ?_
  refine Ex.le (ls' := [some (.ref 0), some (.int (nI n)), some (.int 0), some (.int 0), none]) ⟨rfl, rfl, rfl, rfl, trivial⟩ ?_
  refine forUp (σ := aI) (P := fun k I2 => Ex 7 0 0 mX9_chance 0 0 27 [some (.ref 0), some (.int (nI n)), some (.int (chN p (I 5) (I 6) nb ns nh (I 2 5) k ((xOf I 10, ks, (0 : Int32)), (0 : Int32), L 0 13)).2.1), some (.int (nI k)), none] [] (St N I2 (setD L (chN p (I 5) (I 6) nb ns nh (I 2 5) k ((xOf I 10, ks, (0 : Int32)), (0 : Int32), L 0 13)).2.2)) _) (Inv := fun k I2 => Sm [10, 11, 12, 16, 17, 18, 19, 20, 22, 26, 30] I I2 ∧ xOf I2 10 = (chN p (I 5) (I 6) nb ns nh (I 2 5) k ((xOf I 10, ks, (0 : Int32)), (0 : Int32), L 0 13)).1.1 ∧ KeptR I2 lo (chN p (I 5) (I 6) nb ns nh (I 2 5) k ((xOf I 10, ks, (0 : Int32)), (0 : Int32), L 0 13)).1.2.1 ∧ ActsR I2 ((nx + 1) % 20) ((snap I 10 :: us).take 20) ∧ I2 26 = upd (I 26) 0 0 ∧ I2 30 = upd (I 30) 0 (-1)) n ?_ ?_ 0 _ (Nat.zero_le _) ⟨hS3.tr Sm.rf (l := [10, 11, 12, 16, 17, 18, 19, 20, 22, 26, 30]) (l2 := []) (by decide) (by decide), by simp only [xOf]; rw [hS3 10 (by decide), hS3 11 (by decide), hS3 12 (by decide)]; rfl, ?_, hA3, h26, h30⟩
  · rintro I2 ⟨hS, hx2, hk2, hA2, h26, h30⟩
    refine Ex.iload_n (pc := 27) dX9_chance_27 rfl rfl ?_
    refine Ex.iload_n (pc := 28) dX9_chance_28 rfl rfl ?_
    refine Ex.icmp_ge (pc := 29) (tgt := 80) dX9_chance_29 (by decide) (fun _ => ?_) (fun c29 => absurd (nI_le (Nat.le_refl n) (by omega)) c29)
    refine Ex.iload_n (pc := 80) dX9_chance_80 rfl rfl ?_
    refine Ex.iret (pc := 81) rfl rfl rfl dX9_chance_81 (Nat.le_refl _) (Nat.le_refl _) ?_
    exact ⟨_, _, _, ⟨rfl, rfl, rfl, hS, hx2, hk2, hA2, h26, h30⟩, rfl⟩
  · rintro k I2 hk1 ⟨hS, hx2, hk2, hA2, h26, h30⟩ ih
    have hlen := chN_len p (I 5) (I 6) nb ns nh (I 2 5) k ((xOf I 10, ks, (0 : Int32)), (0 : Int32), L 0 13)
    simp only at hlen
    generalize hZ : chN p (I 5) (I 6) nb ns nh (I 2 5) k ((xOf I 10, ks, (0 : Int32)), (0 : Int32), L 0 13) = Z at *
    have hZn : (chN p (I 5) (I 6) nb ns nh (I 2 5) (k + 1) ((xOf I 10, ks, (0 : Int32)), (0 : Int32), L 0 13)) = chS p (I 5) (I 6) nb ns nh (I 2 5) Z := by rw [← hZ]; rfl
    rw [hZn] at ih
    refine Ex.iload_n (pc := 27) dX9_chance_27 rfl rfl ?_
    refine Ex.iload_n (pc := 28) dX9_chance_28 rfl rfl ?_
    refine Ex.icmp_ge (pc := 29) (tgt := 80) dX9_chance_29 (by decide) (fun c29 => absurd c29 (nI_ge hk1 (by omega))) (fun _ => ?_)
    refine Ex.aload_n (pc := 32) dX9_chance_32 rfl rfl ?_
    refine Ex.bipush (pc := 33) (v := 100) dX9_chance_33 rfl ?_
    refine Ex.callV (pc := 35) (As := [.int 100]) (rest := []) dX9_chance_35 cX9_289 t_draw (sh0 _) rfl rfl (by decide) (Nat.le_refl _) (Nat.le_refl _) (Nat.le_of_ble_eq_true rfl) (Or.inl (fun r S' h => by obtain ⟨_, h⟩ := h; subst h; rfl)) (fun r S' hq _ _ => ?_)
    obtain ⟨rfl, rfl⟩ := hq
    refine Ex.aload_n (pc := 38) dX9_chance_38 rfl rfl ?_
    refine Ex.getR (pc := 39) dX9_chance_39 fX9_22 (sh0 _) r0_2 ?_
    refine Ex.getI (pc := 42) dX9_chance_42 fX9_292 (sh2 _) ?_
    refine Ex.icmp_ge (pc := 45) (tgt := 52) dX9_chance_45 (by decide) (fun c45 => ?_) (fun c45 => ?_)
    · skip
      refine Ex.iconst (pc := 52) (v := 0) dX9_chance_52 rfl ?_
      refine Ex.mm (S' := St N I2 (setD L (drw Z.2.2))) (by rw [setD_s, setD_d]) ?_
      have hdr : decide (¬ I 2 5 ≤ drV Z.2.2) = false := by
        rw [setD_s, hS 2 (by decide)] at c45
        simp [c45]
      refine Ex.istore (pc := 53) (ls' := [some (.ref 0), some (.int _), some (.int _), some (.int _), some (.int 0)]) dX9_chance_53 (by decide) rfl rfl ?_
      refine Ex.aload_n (pc := 55) dX9_chance_55 rfl rfl ?_
      refine Ex.iload (pc := 56) dX9_chance_56 rfl ?_
      refine Ex.callV (pc := 58) (As := [.int 0]) (rest := []) dX9_chance_58 cX9_282 (t_keepWeek (p := p) (nb := nb) (ns := ns) (nh := nh) (lo := lo) (dr := false) (hp.sm hS (by decide) (by decide) (by decide) (by decide)) (hc.sm hS (by decide) (by decide)) hk2 (by omega) (by omega)) (sh0 _) rfl rfl (by decide) (Nat.le_refl _) (Nat.le_refl _) (Nat.le_of_ble_eq_true rfl) (Or.inl (fun r S' h => by obtain ⟨_, _, h, _⟩ := h; subst h; rfl)) (fun r S' hq _ _ => ?_)
      obtain ⟨I4, rfl, rfl, hS4, hx4, hk4, hc4⟩ := hq
      rw [hS 5 (by decide), hS 6 (by decide)] at hx4 hk4
      rw [hx2] at hx4 hk4
      refine Ex.iload_n (pc := 61) dX9_chance_61 rfl rfl ?_
      refine Ex.iload (pc := 62) dX9_chance_62 rfl ?_
      refine Ex.if_eq (pc := 64) (tgt := 71) dX9_chance_64 (by decide) (fun _ => ?_) (fun c64 => absurd rfl c64)
      refine Ex.iconst (pc := 71) (v := 0) dX9_chance_71 rfl ?_
      refine Ex.iadd (pc := 72) dX9_chance_72 ?_
      refine Ex.istore_n (pc := 73) (ls' := [some (.ref 0), some (.int _), some (.int _), some (.int _), some (.int 0)]) dX9_chance_73 rfl (by decide) rfl rfl ?_
      refine Ex.iinc (pc := 74) (ls' := [some (.ref 0), some (.int _), some (.int _), some (.int _), some (.int 0)]) dX9_chance_74 rfl rfl (by decide) rfl rfl ?_
      refine Ex.goto (pc := 77) (tgt := 27) dX9_chance_77 (by decide) ?_
      rw [show nI k + Int32.ofInt 1 = nI (k + 1) from nI_1 k]
      refine Ex.le (ls' := [some (.ref 0), some (.int (nI n)), some (.int (chS p (I 5) (I 6) nb ns nh (I 2 5) Z).2.1), some (.int (nI (k + 1))), none]) ⟨rfl, rfl, ?_, rfl, trivial⟩ (ih _ ⟨hS.tr hS4 (by decide) (by decide), ?_, ?_, hA2.sm hS4 (by decide) (by decide), by rw [hS4 26 (by decide)]; exact h26, by rw [hS4 30 (by decide)]; exact h30⟩)
      · simp only [chS]; rw [hdr]; rfl
      · simp only [chS, wkS]; rw [hdr]; exact hx4
      · simp only [chS, wkS]; rw [hdr]
        have e0 : I2 10 0 = Z.1.1.1 := by rw [← hx2]; rfl
        rw [e0] at hk4; exact hk4
    · skip
      refine Ex.iconst (pc := 48) (v := 1) dX9_chance_48 rfl ?_
      refine Ex.goto (pc := 49) (tgt := 53) dX9_chance_49 (by decide) ?_
      refine Ex.mm (S' := St N I2 (setD L (drw Z.2.2))) (by rw [setD_s, setD_d]) ?_
      have hdr : decide (¬ I 2 5 ≤ drV Z.2.2) = true := by
        rw [setD_s, hS 2 (by decide)] at c45
        simp [c45]
      refine Ex.istore (pc := 53) (ls' := [some (.ref 0), some (.int _), some (.int _), some (.int _), some (.int 1)]) dX9_chance_53 (by decide) rfl rfl ?_
      refine Ex.aload_n (pc := 55) dX9_chance_55 rfl rfl ?_
      refine Ex.iload (pc := 56) dX9_chance_56 rfl ?_
      refine Ex.callV (pc := 58) (As := [.int 1]) (rest := []) dX9_chance_58 cX9_282 (t_keepWeek (p := p) (nb := nb) (ns := ns) (nh := nh) (lo := lo) (dr := true) (hp.sm hS (by decide) (by decide) (by decide) (by decide)) (hc.sm hS (by decide) (by decide)) hk2 (by omega) (by omega)) (sh0 _) rfl rfl (by decide) (Nat.le_refl _) (Nat.le_refl _) (Nat.le_of_ble_eq_true rfl) (Or.inl (fun r S' h => by obtain ⟨_, _, h, _⟩ := h; subst h; rfl)) (fun r S' hq _ _ => ?_)
      obtain ⟨I4, rfl, rfl, hS4, hx4, hk4, hc4⟩ := hq
      rw [hS 5 (by decide), hS 6 (by decide)] at hx4 hk4
      rw [hx2] at hx4 hk4
      refine Ex.iload_n (pc := 61) dX9_chance_61 rfl rfl ?_
      refine Ex.iload (pc := 62) dX9_chance_62 rfl ?_
      refine Ex.if_eq (pc := 64) (tgt := 71) dX9_chance_64 (by decide) (fun c64 => absurd c64 (by decide)) (fun _ => ?_)
      refine Ex.iconst (pc := 67) (v := 1) dX9_chance_67 rfl ?_
      refine Ex.goto (pc := 68) (tgt := 72) dX9_chance_68 (by decide) ?_
      refine Ex.iadd (pc := 72) dX9_chance_72 ?_
      refine Ex.istore_n (pc := 73) (ls' := [some (.ref 0), some (.int _), some (.int _), some (.int _), some (.int 1)]) dX9_chance_73 rfl (by decide) rfl rfl ?_
      refine Ex.iinc (pc := 74) (ls' := [some (.ref 0), some (.int _), some (.int _), some (.int _), some (.int 1)]) dX9_chance_74 rfl rfl (by decide) rfl rfl ?_
      refine Ex.goto (pc := 77) (tgt := 27) dX9_chance_77 (by decide) ?_
      rw [show nI k + Int32.ofInt 1 = nI (k + 1) from nI_1 k]
      refine Ex.le (ls' := [some (.ref 0), some (.int (nI n)), some (.int (chS p (I 5) (I 6) nb ns nh (I 2 5) Z).2.1), some (.int (nI (k + 1))), none]) ⟨rfl, rfl, ?_, rfl, trivial⟩ (ih _ ⟨hS.tr hS4 (by decide) (by decide), ?_, ?_, hA2.sm hS4 (by decide) (by decide), by rw [hS4 26 (by decide)]; exact h26, by rw [hS4 30 (by decide)]; exact h30⟩)
      · simp only [chS]; rw [hdr]; rfl
      · simp only [chS, wkS]; rw [hdr]; exact hx4
      · simp only [chS, wkS]; rw [hdr]
        have e0 : I2 10 0 = Z.1.1.1 := by rw [← hx2]; rfl
        rw [e0] at hk4; exact hk4
  · exact ⟨by rw [hS3 10 (by decide)]; exact hk.1, hk.2.1, hk.2.2.1, fun i r h1 h2 => by rw [hS3 22 (by decide)]; exact hk.2.2.2 i r h1 h2⟩
def clnF (p : aP) (f5 f6 : Nat → Int32) (nb ns nh : Nat) (wk : Int32) (x : aX) : Nat → Nat → Int32
  | 0, _ => -1
  | m + 1, n => if cpB (nI n) wk = false then -1 else if cntPos (aheadX p f5 f6 nb ns nh n x).2.2.2.2 6 = 0 then nI n else clnF p f5 f6 nb ns nh wk x m (n + 1)
set_option maxRecDepth 20000 in
theorem t_clean {N : Nat} {I : aI} {L : aL} {p : aP} {nb ns nh : Nat} (hp : PlanG N I p) (hc : CntOk I nb ns nh) (hx : XOk (xOf I 10)) (hy : XOk (xOf I 13)) : Run 6 0 0 mX9_clean [.ref 0] (St N I L) (RP (some (.int (clnF p (I 5) (I 6) nb ns nh (I 10 0) (xOf I 10) 41 0))) N L (fun I2 => Sm [13, 14, 15, 16, 17, 18] I I2 ∧ XOk (xOf I2 13))) := by
  refine Run.of (ls := [some (.ref 0), none]) (by decide) (Nat.le_of_ble_eq_true rfl) rfl ?_
  refine Ex.aload_n (pc := 0) dX9_clean_0 rfl rfl ?_
  refine Ex.getR (pc := 1) dX9_clean_1 fX9_39 (sh0 _) r0_6 ?_
  refine Ex.aload_n (pc := 4) dX9_clean_4 rfl rfl ?_
  refine Ex.getR (pc := 5) dX9_clean_5 fX9_35 (sh0 _) r0_5 ?_
  refine Ex.callV (pc := 8) (As := [.ref 10]) (rest := []) dX9_clean_8 cX9_254 (t_takeX hx hy) (sh13 _) rfl rfl (by decide) (Nat.le_refl _) (Nat.le_refl _) (Nat.le_of_ble_eq_true rfl) (Or.inl (fun r S' h => by obtain ⟨_, _, h, _⟩ := h; subst h; rfl)) (fun r S' hq _ _ => ?_)
  obtain ⟨I1, rfl, rfl, hS1, hx1⟩ := hq
  refine Ex.iconst (pc := 11) (v := 0) dX9_clean_11 rfl ?_
  refine Ex.istore_n (pc := 12) (ls' := [some (.ref 0), some (.int 0)]) dX9_clean_12 rfl (by decide) rfl rfl ?_
  refine forUp (σ := aI) (P := fun k I2 => Ex 6 0 0 mX9_clean 0 0 13 [some (.ref 0), some (.int (nI k))] [] (St N I2 L) _) (Inv := fun k I2 => Sm [13, 14, 15, 16, 17, 18] I I2 ∧ xOf I2 13 = aheadX p (I 5) (I 6) nb ns nh k (xOf I 10) ∧ clnF p (I 5) (I 6) nb ns nh (I 10 0) (xOf I 10) 41 0 = clnF p (I 5) (I 6) nb ns nh (I 10 0) (xOf I 10) (41 - k) k) 41 ?_ ?_ 0 _ (Nat.zero_le _) ⟨hS1.tr Sm.rf (l2 := []) (by decide) (by decide), hx1, rfl⟩
  · rintro I2 ⟨hS, hx2, he⟩
    refine Ex.iload_n (pc := 13) dX9_clean_13 rfl rfl ?_
    refine Ex.bipush (pc := 14) (v := 40) dX9_clean_14 rfl ?_
    refine Ex.icmp_gt (pc := 16) (tgt := 57) dX9_clean_16 (by decide) (fun _ => ?_) (fun c16 => absurd (nI_lt (a := 40) (b := 41) (by decide) (by decide)) c16)
    refine Ex.iconst (pc := 57) (v := (-1)) dX9_clean_57 rfl ?_
    refine Ex.iret (pc := 58) rfl rfl rfl dX9_clean_58 (Nat.le_refl _) (Nat.le_refl _) ?_
    exact ⟨_, by rw [he]; rfl, rfl, hS, by rw [hx2]; exact (wIt_ok (fun x h => XOk.week h hc.2.1 hc.2.2.2.1) _ _ hx)⟩
  · rintro k I2 hk ⟨hS, hx2, he⟩ ih
    obtain ⟨m, hm1, hm2⟩ : ∃ m, 41 - k = m + 1 ∧ 41 - (k + 1) = m := ⟨40 - k, by omega, by omega⟩
    rw [hm1] at he
    rw [hm2] at ih
    have h15 : I2 15 = (aheadX p (I 5) (I 6) nb ns nh k (xOf I 10)).2.2.2.2 := by rw [← hx2]; rfl
    refine Ex.iload_n (pc := 13) dX9_clean_13 rfl rfl ?_
    refine Ex.bipush (pc := 14) (v := 40) dX9_clean_14 rfl ?_
    refine Ex.icmp_gt (pc := 16) (tgt := 57) dX9_clean_16 (by decide) (fun c16 => absurd c16 (nI_nlt (a := 40) (by omega) (by decide))) (fun _ => ?_)
    refine Ex.aload_n (pc := 19) dX9_clean_19 rfl rfl ?_
    refine Ex.iload_n (pc := 20) dX9_clean_20 rfl rfl ?_
    refine Ex.callV (pc := 21) (As := [.int _]) (rest := []) dX9_clean_21 cX9_248 t_canPass (sh0 _) rfl rfl (by decide) (Nat.le_refl _) (Nat.le_refl _) (Nat.le_of_ble_eq_true rfl) (Or.inl (fun r S' h => by obtain ⟨_, h⟩ := h; subst h; rfl)) (fun r S' hq _ _ => ?_)
    obtain ⟨rfl, rfl⟩ := hq
    refine Ex.if_eq (pc := 24) (tgt := 57) dX9_clean_24 (by decide) (fun c24 => ?_) (fun c24 => ?_)
    · skip
      refine Ex.iconst (pc := 57) (v := (-1)) dX9_clean_57 rfl ?_
      refine Ex.iret (pc := 58) rfl rfl rfl dX9_clean_58 (Nat.le_refl _) (Nat.le_refl _) ?_
      refine ⟨_, ?_, rfl, hS, by rw [hx2]; exact (wIt_ok (fun x h => XOk.week h hc.2.1 hc.2.2.2.1) _ _ hx)⟩
      rw [he]; simp only [clnF]
      rw [hS 10 (by decide)] at c24
      rw [if_pos (bI_0 c24)]
    · skip
      refine Ex.aload_n (pc := 27) dX9_clean_27 rfl rfl ?_
      refine Ex.getR (pc := 28) dX9_clean_28 fX9_39 (sh0 _) r0_6 ?_
      refine Ex.callV (pc := 31) (As := []) (rest := []) dX9_clean_31 cX9_153 t_stainsLeft13 (sh13 _) rfl rfl (by decide) (Nat.le_refl _) (Nat.le_refl _) (Nat.le_of_ble_eq_true rfl) (Or.inl (fun r S' h => by obtain ⟨_, h⟩ := h; subst h; rfl)) (fun r S' hq _ _ => ?_)
      obtain ⟨rfl, rfl⟩ := hq
      refine Ex.if_ne (pc := 34) (tgt := 39) dX9_clean_34 (by decide) (fun c34 => ?_) (fun c34 => ?_)
      · skip
        refine Ex.aload_n (pc := 39) dX9_clean_39 rfl rfl ?_
        refine Ex.getR (pc := 40) dX9_clean_40 fX9_47 (sh0 _) r0_7 ?_
        refine Ex.aload_n (pc := 43) dX9_clean_43 rfl rfl ?_
        refine Ex.getR (pc := 44) dX9_clean_44 fX9_39 (sh0 _) r0_6 ?_
        refine Ex.iconst (pc := 47) (v := 0) dX9_clean_47 rfl ?_
        refine Ex.callV (pc := 48) (As := [.ref 13, .int 0]) (rest := []) dX9_clean_48 cX9_258 (t_passWeek13 (p := p) (nb := nb) (ns := ns) (nh := nh) (dr := false) (hp.sm hS (by decide) (by decide) (by decide) (by decide)) (hc.sm hS (by decide) (by decide))) (sh16 _) rfl rfl (by decide) (Nat.le_refl _) (Nat.le_refl _) (Nat.le_of_ble_eq_true rfl) (Or.inl (fun r S' h => by obtain ⟨_, _, h, _⟩ := h; subst h; rfl)) (fun r S' hq _ _ => ?_)
        obtain ⟨I3, rfl, rfl, hS3, hx3, -⟩ := hq
        refine Ex.iinc (pc := 51) (ls' := [some (.ref 0), some (.int _)]) dX9_clean_51 rfl rfl (by decide) rfl rfl ?_
        refine Ex.goto (pc := 54) (tgt := 13) dX9_clean_54 (by decide) ?_
        rw [show nI k + Int32.ofInt 1 = nI (k + 1) from nI_1 k]
        refine ih _ ⟨hS.tr hS3 (by decide) (by decide), by rw [hx3, hS 5 (by decide), hS 6 (by decide), hx2]; rfl, ?_⟩
        rw [he]; simp only [clnF]
        rw [hS 10 (by decide)] at c24
        rw [h15] at c34
        rw [if_neg (by rw [bI_1 c24]; decide), if_neg (fun q => c34 (by rw [q]; rfl))]
      · skip
        refine Ex.iload_n (pc := 37) dX9_clean_37 rfl rfl ?_
        refine Ex.iret (pc := 38) rfl rfl rfl dX9_clean_38 (Nat.le_refl _) (Nat.le_refl _) ?_
        refine ⟨_, ?_, rfl, hS, by rw [hx2]; exact (wIt_ok (fun x h => XOk.week h hc.2.1 hc.2.2.2.1) _ _ hx)⟩
        rw [he]; simp only [clnF]
        rw [hS 10 (by decide)] at c24
        rw [if_neg (by rw [bI_1 c24]; decide)]
        rw [h15] at c34
        rw [if_pos ((nI_eq (b := 0) (by have := cntPos_le (aheadX p (I 5) (I 6) nb ns nh k (xOf I 10)).2.2.2.2 6; omega) (by decide)).mp c34)]
