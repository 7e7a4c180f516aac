/-- the deepest of the first k stains of which something is left -/
def dpF (f : Nat → Int32) : Nat → Option Nat
  | 0 => none
  | k + 1 => match dpF f k with
    | none => if f k ≤ 0 then none else some k
    | some b => if f k ≤ f b then some b else some k
def dpI : Option Nat → Int32
  | none => -1
  | some b => nI b
def dpM (f : Nat → Int32) : Option Nat → Int32
  | none => 0
  | some b => f b
theorem dpF_lt (f : Nat → Int32) : ∀ k b, dpF f k = some b → b < k
  | 0, b, h => by simp [dpF] at h
  | k + 1, b, h => by
    simp only [dpF] at h
    split at h
    · split at h
      · cases h
      · cases h; omega
    · next c hc =>
      have := dpF_lt f k c hc
      split at h
      · cases h; omega
      · cases h; omega
theorem dpF_step (f : Nat → Int32) (k : Nat) : dpF f (k + 1) = if f k ≤ dpM f (dpF f k) then dpF f k else some k := by
  simp only [dpF]
  cases dpF f k <;> simp only [dpM] <;> rfl
/-- the first of the greatest -/
def pkF (v : Nat → Int32) : Nat → Nat
  | 0 => 0
  | k + 1 => if k = 0 then 0 else if v k ≤ v (pkF v k) then pkF v k else k
def pkM (v : Nat → Int32) (k : Nat) : Int32 := if k = 0 then 0 else v (pkF v k)
theorem pkF_lt (v : Nat → Int32) : ∀ k, 0 < k → pkF v k < k
  | 0, h => absurd h (Nat.lt_irrefl _)
  | k + 1, _ => by
    simp only [pkF]
    split
    · omega
    · next h => have := pkF_lt v k (by omega); split <;> omega
def prow (f5 f6 : Nat → Int32) (x : aX) (s k : Nat) : Nat → Int32 := upd (upd (nmL (f5 k) (f6 (6 + s)) x.2.1 x.1) 2 (x.2.2.2.1 k)) 4 (x.2.2.2.2 s)
def pickX (p : aP) (f5 f6 : Nat → Int32) (x : aX) (s nb : Nat) : Nat := pkF (fun k => evV p (prow f5 f6 x s k) 4 0) nb
/-- the row of a week without a sermon -/
def nrow (x : aX) : Nat → Int32 := nmV 0 0 x.2.1 x.1 0 0 0

set_option maxRecDepth 20000 in
theorem t_deepestOf10 {N : Nat} {I : aI} {L : aL} {ns : Nat} (hc : I 3 1 = nI ns) (hn : ns ≤ 6) : Run 0 0 0 mX6_deepestOf [.ref 16, .ref 10] (St N I L) (RI (dpI (dpF (I 12) ns)) (St N I L)) := by
  refine Run.of (ls := [some (.ref 16), some (.ref 10), none, none, none]) (by decide) (Nat.le_of_ble_eq_true rfl) rfl ?_
  refine Ex.iconst (pc := 0) (v := (-1)) dX6_deepestOf_0 rfl ?_
  refine Ex.istore_n (pc := 1) (ls' := [some (.ref 16), some (.ref 10), some (.int (-1)), none, none]) dX6_deepestOf_1 rfl (by decide) rfl rfl ?_
  refine Ex.iconst (pc := 2) (v := 0) dX6_deepestOf_2 rfl ?_
  refine Ex.istore_n (pc := 3) (ls' := [some (.ref 16), some (.ref 10), some (.int (-1)), some (.int 0), none]) dX6_deepestOf_3 rfl (by decide) rfl rfl ?_
  refine Ex.iconst (pc := 4) (v := 0) dX6_deepestOf_4 rfl ?_
  refine Ex.istore (pc := 5) (ls' := [some (.ref 16), some (.ref 10), some (.int (-1)), some (.int 0), some (.int 0)]) dX6_deepestOf_5 (by decide) rfl rfl ?_
  refine forUp (σ := Unit) (P := fun k _ => Ex 0 0 0 mX6_deepestOf 0 0 7 [some (.ref 16), some (.ref 10), some (.int (dpI (dpF (I 12) k))), some (.int (dpM (I 12) (dpF (I 12) k))), some (.int (nI k))] [] (St N I L) _) (Inv := fun _ _ => True) ns ?_ ?_ 0 () (Nat.zero_le _) trivial
  · rintro - -
    refine Ex.iload (pc := 7) dX6_deepestOf_7 rfl ?_
    refine Ex.aload_n (pc := 9) dX6_deepestOf_9 rfl rfl ?_
    refine Ex.getR (pc := 10) dX6_deepestOf_10 fX6_37 (sh16 _) r16_0 ?_
    refine Ex.getR (pc := 13) dX6_deepestOf_13 fX6_92 (sh2 _) r2_0 ?_
    refine Ex.iconst (pc := 16) (v := 1) dX6_deepestOf_16 rfl ?_
    refine Ex.iald (pc := 17) (j := 1) dX6_deepestOf_17 (sh3 _) (by unfold vp_in; decide) (by decide) ?_
    refine Ex.icmp_ge (pc := 18) (tgt := 49) dX6_deepestOf_18 (by decide) (fun _ => ?_) (fun c18 => absurd (by rw [hc]; exact nI_le (Nat.le_refl ns) (by omega)) c18)
    refine Ex.iload_n (pc := 49) dX6_deepestOf_49 rfl rfl ?_
    refine Ex.iret (pc := 50) rfl rfl rfl dX6_deepestOf_50 (Nat.le_refl _) (Nat.le_refl _) ?_
    exact ⟨rfl, rfl⟩
  · rintro k - hk - ih
    refine Ex.iload (pc := 7) dX6_deepestOf_7 rfl ?_
    refine Ex.aload_n (pc := 9) dX6_deepestOf_9 rfl rfl ?_
    refine Ex.getR (pc := 10) dX6_deepestOf_10 fX6_37 (sh16 _) r16_0 ?_
    refine Ex.getR (pc := 13) dX6_deepestOf_13 fX6_92 (sh2 _) r2_0 ?_
    refine Ex.iconst (pc := 16) (v := 1) dX6_deepestOf_16 rfl ?_
    refine Ex.iald (pc := 17) (j := 1) dX6_deepestOf_17 (sh3 _) (by unfold vp_in; decide) (by decide) ?_
    refine Ex.icmp_ge (pc := 18) (tgt := 49) dX6_deepestOf_18 (by decide) (fun c18 => absurd c18 (by rw [hc]; exact nI_ge hk (by omega))) (fun _ => ?_)
    refine Ex.aload_n (pc := 21) dX6_deepestOf_21 rfl rfl ?_
    refine Ex.getR (pc := 22) dX6_deepestOf_22 fX6_45 (sh10 _) r10_5 ?_
    refine Ex.iload (pc := 25) dX6_deepestOf_25 rfl ?_
    refine Ex.iald (pc := 27) (j := k) dX6_deepestOf_27 (sh12 _) (vp_in_nI (by omega) (by decide)) (ixN2 (by omega)) ?_
    refine Ex.iload_n (pc := 28) dX6_deepestOf_28 rfl rfl ?_
    refine Ex.icmp_le (pc := 29) (tgt := 43) dX6_deepestOf_29 (by decide) (fun c29 => ?_) (fun c29 => ?_)
    · skip
      refine Ex.iinc (pc := 43) (ls' := [some (.ref 16), some (.ref 10), some (.int _), some (.int _), some (.int _)]) dX6_deepestOf_43 rfl rfl (by decide) rfl rfl ?_
      refine Ex.goto (pc := 46) (tgt := 7) dX6_deepestOf_46 (by decide) ?_
      have e := dpF_step (I 12) k
      rw [if_pos c29] at e
      rw [show nI k + Int32.ofInt 1 = nI (k + 1) from nI_1 k]
      refine Ex.le (ls' := [some (.ref 16), some (.ref 10), some (.int (dpI (dpF (I 12) (k + 1)))), some (.int (dpM (I 12) (dpF (I 12) (k + 1)))), some (.int (nI (k + 1)))]) ⟨rfl, rfl, ?_, ?_, rfl, trivial⟩ (ih () trivial)
      · rw [e]
      · rw [e]
    · skip
      refine Ex.iload (pc := 32) dX6_deepestOf_32 rfl ?_
      refine Ex.istore_n (pc := 34) (ls' := [some (.ref 16), some (.ref 10), some (.int _), some (.int _), some (.int _)]) dX6_deepestOf_34 rfl (by decide) rfl rfl ?_
      refine Ex.aload_n (pc := 35) dX6_deepestOf_35 rfl rfl ?_
      refine Ex.getR (pc := 36) dX6_deepestOf_36 fX6_45 (sh10 _) r10_5 ?_
      refine Ex.iload (pc := 39) dX6_deepestOf_39 rfl ?_
      refine Ex.iald (pc := 41) (j := k) dX6_deepestOf_41 (sh12 _) (vp_in_nI (by omega) (by decide)) (ixN2 (by omega)) ?_
      refine Ex.istore_n (pc := 42) (ls' := [some (.ref 16), some (.ref 10), some (.int _), some (.int _), some (.int _)]) dX6_deepestOf_42 rfl (by decide) rfl rfl ?_
      refine Ex.iinc (pc := 43) (ls' := [some (.ref 16), some (.ref 10), some (.int _), some (.int _), some (.int _)]) dX6_deepestOf_43 rfl rfl (by decide) rfl rfl ?_
      refine Ex.goto (pc := 46) (tgt := 7) dX6_deepestOf_46 (by decide) ?_
      have e := dpF_step (I 12) k
      rw [if_neg c29] at e
      rw [show nI k + Int32.ofInt 1 = nI (k + 1) from nI_1 k]
      refine Ex.le (ls' := [some (.ref 16), some (.ref 10), some (.int (dpI (dpF (I 12) (k + 1)))), some (.int (dpM (I 12) (dpF (I 12) (k + 1)))), some (.int (nI (k + 1)))]) ⟨rfl, rfl, ?_, ?_, rfl, trivial⟩ (ih () trivial)
      · rw [e]; rfl
      · rw [e]; rfl
set_option maxRecDepth 20000 in
theorem t_pickFor10 {N : Nat} {I : aI} {L : aL} {p : aP} {s nb : Nat} (hp : PlanG N I p) (hs : s < 6) (hc : I 3 0 = nI nb) (hn : nb ≤ 5) : Run 3 0 0 mX6_pickFor [.ref 16, .ref 10, .int (nI s)] (St N I L) (RP (some (.int (nI (pickX p (I 5) (I 6) (xOf I 10) s nb)))) N L (fun I2 => Sm [16, 17, 18] I I2)) := by
  refine Run.of (ls := [some (.ref 16), some (.ref 10), some (.int _), none, none, none, none]) (by decide) (Nat.le_of_ble_eq_true rfl) rfl ?_
  refine Ex.iconst (pc := 0) (v := 0) dX6_pickFor_0 rfl ?_
  refine Ex.istore_n (pc := 1) (ls' := [some (.ref 16), some (.ref 10), some (.int _), some (.int 0), none, none, none]) dX6_pickFor_1 rfl (by decide) rfl rfl ?_
  refine Ex.iconst (pc := 2) (v := 0) dX6_pickFor_2 rfl ?_
  refine Ex.istore (pc := 3) (ls' := [some (.ref 16), some (.ref 10), some (.int _), some (.int 0), some (.int 0), none, none]) dX6_pickFor_3 (by decide) rfl rfl ?_
  refine Ex.iconst (pc := 5) (v := 0) dX6_pickFor_5 rfl ?_
  refine Ex.istore (pc := 6) (ls' := [some (.ref 16), some (.ref 10), some (.int _), some (.int 0), some (.int 0), some (.int 0), none]) dX6_pickFor_6 (by decide) rfl rfl ?_
  refine forUp (σ := aI) (P := fun k I2 => Ex 3 0 0 mX6_pickFor 0 0 8 [some (.ref 16), some (.ref 10), some (.int (nI s)), some (.int (nI (pkF (fun k => evV p (prow (I 5) (I 6) (xOf I 10) s k) 4 0) k))), some (.int (pkM (fun k => evV p (prow (I 5) (I 6) (xOf I 10) s k) 4 0) k)), some (.int (nI k)), none] [] (St N I2 L) _) (Inv := fun k I2 => Sm [16, 17, 18] I I2) nb ?_ ?_ 0 _ (Nat.zero_le _) Sm.rf
  · rintro I2 hS
    have h30 : I2 3 0 = nI nb := by rw [hS 3 (by decide)]; exact hc
    refine Ex.iload (pc := 8) dX6_pickFor_8 rfl ?_
    refine Ex.aload_n (pc := 10) dX6_pickFor_10 rfl rfl ?_
    refine Ex.getR (pc := 11) dX6_pickFor_11 fX6_37 (sh16 _) r16_0 ?_
    refine Ex.getR (pc := 14) dX6_pickFor_14 fX6_92 (sh2 _) r2_0 ?_
    refine Ex.iconst (pc := 17) (v := 0) dX6_pickFor_17 rfl ?_
    refine Ex.iald (pc := 18) (j := 0) dX6_pickFor_18 (sh3 _) (by unfold vp_in; decide) (by decide) ?_
    refine Ex.icmp_ge (pc := 19) (tgt := 84) dX6_pickFor_19 (by decide) (fun _ => ?_) (fun c19 => absurd (by rw [h30]; exact nI_le (Nat.le_refl nb) (by omega)) c19)
    refine Ex.iload_n (pc := 84) dX6_pickFor_84 rfl rfl ?_
    refine Ex.iret (pc := 85) rfl rfl rfl dX6_pickFor_85 (Nat.le_refl _) (Nat.le_refl _) ?_
    exact ⟨_, rfl, rfl, hS⟩
  · rintro k I2 hk hS ih
    have h30 : I2 3 0 = nI nb := by rw [hS 3 (by decide)]; exact hc
    refine Ex.iload (pc := 8) dX6_pickFor_8 rfl ?_
    refine Ex.aload_n (pc := 10) dX6_pickFor_10 rfl rfl ?_
    refine Ex.getR (pc := 11) dX6_pickFor_11 fX6_37 (sh16 _) r16_0 ?_
    refine Ex.getR (pc := 14) dX6_pickFor_14 fX6_92 (sh2 _) r2_0 ?_
    refine Ex.iconst (pc := 17) (v := 0) dX6_pickFor_17 rfl ?_
    refine Ex.iald (pc := 18) (j := 0) dX6_pickFor_18 (sh3 _) (by unfold vp_in; decide) (by decide) ?_
    refine Ex.icmp_ge (pc := 19) (tgt := 84) dX6_pickFor_19 (by decide) (fun c19 => absurd c19 (by rw [h30]; exact nI_ge hk (by omega))) (fun _ => ?_)
    refine Ex.aload_n (pc := 22) dX6_pickFor_22 rfl rfl ?_
    refine Ex.aload_n (pc := 23) dX6_pickFor_23 rfl rfl ?_
    refine Ex.iload (pc := 24) dX6_pickFor_24 rfl ?_
    refine Ex.iload_n (pc := 26) dX6_pickFor_26 rfl rfl ?_
    refine Ex.callV (pc := 27) (As := [.ref 10, .int _, .int _]) (rest := []) dX6_pickFor_27 cX6_74 (t_lay10 (b := k) (s := s) (by omega) hs) (sh16 _) rfl rfl (by decide) (Nat.le_refl _) (Nat.le_refl _) (Nat.le_of_ble_eq_true rfl) (Or.inl (fun r S' h => by obtain ⟨_, _, h, _⟩ := h; subst h; rfl)) (fun r S' hq _ _ => ?_)
    obtain ⟨I3, rfl, rfl, hS3, hb3, hs3, ht3, hn3⟩ := hq
    have hS3b : Sm [16, 17, 18] I I3 := hS.tr hS3 (by decide) (by decide)
    obtain ⟨I4, hI4⟩ : ∃ z, z = va_up I3 17 (upd (upd (I3 17) 2 (I 11 k)) 4 (I 12 s)) := ⟨_, rfl⟩
    have hS4 : Sm [16, 17, 18] I I4 := by rw [hI4]; exact hS3b.up (by decide)
    have hp4 := hp.sm hS4 (by decide) (by decide) (by decide) (by decide)
    have z5 : I3 16 5 = I 11 k := by have := congrArg (fun t => t.1) ht3; rw [hS 11 (by decide)] at this; exact this
    have z6 : I3 16 6 = I 12 s := by have := congrArg (fun t => t.2.1) ht3; rw [hS 12 (by decide)] at this; exact this
    have hev : evV p (I4 17) 4 0 = (fun k => evV p (prow (I 5) (I 6) (xOf I 10) s k) 4 0) k := by
      show evV p (I4 17) 4 0 = evV p (prow (I 5) (I 6) (xOf I 10) s k) 4 0
      refine evV_congr hp.2 (by decide) (fun j hj => ?_)
      rw [hI4, va_up_s]
      unfold prow
      by_cases h4 : j = 4
      · rw [h4, upd_s, upd_s]; rfl
      · rw [upd_n h4, upd_n h4]
        by_cases h2 : j = 2
        · rw [h2, upd_s, upd_s]; rfl
        · rw [upd_n h2, upd_n h2, hn3]
          have hj2 : j = 1 ∨ j = 5 ∨ j = 14 ∨ j = 16 := by
            rcases hj with q | q | q | q | q | q | ⟨q, _⟩ | ⟨q, _⟩ <;> first | (exact absurd q (by omega)) | omega
          rw [nmL_upd j hj2, hS 5 (by decide), hS 6 (by decide), hS 10 (by decide)]; rfl
    refine Ex.aload_n (pc := 30) dX6_pickFor_30 rfl rfl ?_
    refine Ex.getR (pc := 31) dX6_pickFor_31 fX6_9 (sh16 _) r16_1 ?_
    refine Ex.iconst (pc := 34) (v := 2) dX6_pickFor_34 rfl ?_
    refine Ex.aload_n (pc := 35) dX6_pickFor_35 rfl rfl ?_
    refine Ex.getI (pc := 36) dX6_pickFor_36 fX6_25 (sh16 _) ?_
    refine Ex.iast (pc := 39) (j := 2) dX6_pickFor_39 (sh17 _) (by unfold vp_in; decide) (by decide) ?_
    refine Ex.aload_n (pc := 40) dX6_pickFor_40 rfl rfl ?_
    refine Ex.getR (pc := 41) dX6_pickFor_41 fX6_9 (sh16 _) r16_1 ?_
    refine Ex.iconst (pc := 44) (v := 4) dX6_pickFor_44 rfl ?_
    refine Ex.aload_n (pc := 45) dX6_pickFor_45 rfl rfl ?_
    refine Ex.getI (pc := 46) dX6_pickFor_46 fX6_28 (sh16 _) ?_
    refine Ex.iast (pc := 49) (j := 4) dX6_pickFor_49 (sh17 _) (by unfold vp_in; decide) (by decide) ?_
    refine Ex.mm (S' := St N I4 L) ?_ ?_
    · rw [hI4, ← z5, ← z6]; simp only [bx_uu, va_up_s, va_up_n (show (16 : Nat) ≠ 17 by decide)]
    refine Ex.aload_n (pc := 50) dX6_pickFor_50 rfl rfl ?_
    refine Ex.bipush (pc := 51) (v := 13) dX6_pickFor_51 rfl ?_
    refine Ex.iconst (pc := 53) (v := 0) dX6_pickFor_53 rfl ?_
    refine Ex.callV (pc := 54) (As := [.int 13, .int 0]) (rest := []) dX6_pickFor_54 cX6_62 (t_value (r := 4) (p := p) hp4.1 (by decide)) (sh16 _) rfl rfl (by decide) (Nat.le_refl _) (Nat.le_refl _) (Nat.le_of_ble_eq_true rfl) (Or.inl (fun r S' h => by obtain ⟨_, _, h, _⟩ := h; subst h; rfl)) (fun r S' hq _ _ => ?_)
    obtain ⟨I5, rfl, rfl, hS5⟩ := hq
    rw [hev]
    have hS5b : Sm [16, 17, 18] I I5 := hS4.tr hS5 (by decide) (by decide)
    refine Ex.istore (pc := 57) (ls' := [some (.ref 16), some (.ref 10), some (.int _), some (.int _), some (.int _), some (.int _), some (.int _)]) dX6_pickFor_57 (by decide) rfl rfl ?_
    refine Ex.iload (pc := 59) dX6_pickFor_59 rfl ?_
    refine Ex.if_eq (pc := 61) (tgt := 71) dX6_pickFor_61 (by decide) (fun c61 => ?_) (fun c61 => ?_)
    · skip
      refine Ex.iload (pc := 71) dX6_pickFor_71 rfl ?_
      refine Ex.istore_n (pc := 73) (ls' := [some (.ref 16), some (.ref 10), some (.int _), some (.int _), some (.int _), some (.int _), some (.int _)]) dX6_pickFor_73 rfl (by decide) rfl rfl ?_
      refine Ex.iload (pc := 74) dX6_pickFor_74 rfl ?_
      refine Ex.istore (pc := 76) (ls' := [some (.ref 16), some (.ref 10), some (.int _), some (.int _), some (.int _), some (.int _), some (.int _)]) dX6_pickFor_76 (by decide) rfl rfl ?_
      refine Ex.iinc (pc := 78) (ls' := [some (.ref 16), some (.ref 10), some (.int _), some (.int _), some (.int _), some (.int _), some (.int _)]) dX6_pickFor_78 rfl rfl (by decide) rfl rfl ?_
      refine Ex.goto (pc := 81) (tgt := 8) dX6_pickFor_81 (by decide) ?_
      have hk0 : k = 0 := (nI_eq (b := 0) (by omega) (by decide)).mp c61
      rw [show nI k + Int32.ofInt 1 = nI (k + 1) from nI_1 k]
      refine Ex.le (ls' := [some (.ref 16), some (.ref 10), some (.int (nI s)), some (.int (nI (pkF (fun k => evV p (prow (I 5) (I 6) (xOf I 10) s k) 4 0) (k + 1)))), some (.int (pkM (fun k => evV p (prow (I 5) (I 6) (xOf I 10) s k) 4 0) (k + 1))), some (.int (nI (k + 1))), none]) ⟨rfl, rfl, rfl, ?_, ?_, rfl, trivial⟩ (ih _ hS5b)
      · rw [hk0]; rfl
      · rw [hk0]; rfl
    · skip
      refine Ex.iload (pc := 64) dX6_pickFor_64 rfl ?_
      refine Ex.iload (pc := 66) dX6_pickFor_66 rfl ?_
      refine Ex.icmp_le (pc := 68) (tgt := 78) dX6_pickFor_68 (by decide) (fun c68 => ?_) (fun c68 => ?_)
      · skip
        refine Ex.iinc (pc := 78) (ls' := [some (.ref 16), some (.ref 10), some (.int _), some (.int _), some (.int _), some (.int _), some (.int _)]) dX6_pickFor_78 rfl rfl (by decide) rfl rfl ?_
        refine Ex.goto (pc := 81) (tgt := 8) dX6_pickFor_81 (by decide) ?_
        have hk0 : ¬ k = 0 := fun q => c61 (by rw [q]; rfl)
        have em : pkM (fun k => evV p (prow (I 5) (I 6) (xOf I 10) s k) 4 0) k = (fun k => evV p (prow (I 5) (I 6) (xOf I 10) s k) 4 0) (pkF (fun k => evV p (prow (I 5) (I 6) (xOf I 10) s k) 4 0) k) := by unfold pkM; rw [if_neg hk0]
        rw [em] at c68
        rw [show nI k + Int32.ofInt 1 = nI (k + 1) from nI_1 k]
        refine Ex.le (ls' := [some (.ref 16), some (.ref 10), some (.int (nI s)), some (.int (nI (pkF (fun k => evV p (prow (I 5) (I 6) (xOf I 10) s k) 4 0) (k + 1)))), some (.int (pkM (fun k => evV p (prow (I 5) (I 6) (xOf I 10) s k) 4 0) (k + 1))), some (.int (nI (k + 1))), none]) ⟨rfl, rfl, rfl, ?_, ?_, rfl, trivial⟩ (ih _ hS5b)
        · simp only [pkF]; rw [if_neg hk0, if_pos c68]
        · unfold pkM; rw [if_neg hk0, if_neg (Nat.succ_ne_zero k)]; simp only [pkF]; rw [if_neg hk0, if_pos c68]
      · skip
        refine Ex.iload (pc := 71) dX6_pickFor_71 rfl ?_
        refine Ex.istore_n (pc := 73) (ls' := [some (.ref 16), some (.ref 10), some (.int _), some (.int _), some (.int _), some (.int _), some (.int _)]) dX6_pickFor_73 rfl (by decide) rfl rfl ?_
        refine Ex.iload (pc := 74) dX6_pickFor_74 rfl ?_
        refine Ex.istore (pc := 76) (ls' := [some (.ref 16), some (.ref 10), some (.int _), some (.int _), some (.int _), some (.int _), some (.int _)]) dX6_pickFor_76 (by decide) rfl rfl ?_
        refine Ex.iinc (pc := 78) (ls' := [some (.ref 16), some (.ref 10), some (.int _), some (.int _), some (.int _), some (.int _), some (.int _)]) dX6_pickFor_78 rfl rfl (by decide) rfl rfl ?_
        refine Ex.goto (pc := 81) (tgt := 8) dX6_pickFor_81 (by decide) ?_
        have hk0 : ¬ k = 0 := fun q => c61 (by rw [q]; rfl)
        have em : pkM (fun k => evV p (prow (I 5) (I 6) (xOf I 10) s k) 4 0) k = (fun k => evV p (prow (I 5) (I 6) (xOf I 10) s k) 4 0) (pkF (fun k => evV p (prow (I 5) (I 6) (xOf I 10) s k) 4 0) k) := by unfold pkM; rw [if_neg hk0]
        rw [em] at c68
        rw [show nI k + Int32.ofInt 1 = nI (k + 1) from nI_1 k]
        refine Ex.le (ls' := [some (.ref 16), some (.ref 10), some (.int (nI s)), some (.int (nI (pkF (fun k => evV p (prow (I 5) (I 6) (xOf I 10) s k) 4 0) (k + 1)))), some (.int (pkM (fun k => evV p (prow (I 5) (I 6) (xOf I 10) s k) 4 0) (k + 1))), some (.int (nI (k + 1))), none]) ⟨rfl, rfl, rfl, ?_, ?_, rfl, trivial⟩ (ih _ hS5b)
        · simp only [pkF]; rw [if_neg hk0, if_neg c68]
        · unfold pkM; rw [if_neg (Nat.succ_ne_zero k)]; simp only [pkF]; rw [if_neg hk0, if_neg c68]
set_option maxRecDepth 20000 in
theorem t_rest10 {N : Nat} {I : aI} {L : aL} : Run 0 0 0 mX6_restWithoutSermon [.ref 16, .ref 10] (St N I L) (RP none N L (fun I2 => Sm [16, 17] I I2 ∧ I2 16 3 = -1 ∧ I2 16 4 = -1 ∧ I2 16 8 = 0 ∧ ∀ j, alw 3 j → j ≠ 7 → j ≠ 8 → I2 17 j = nrow (xOf I 10) j)) := by
  refine Run.of (ls := [some (.ref 16), some (.ref 10)]) (by decide) (Nat.le_of_ble_eq_true rfl) rfl ?_
  refine Ex.aload_n (pc := 0) dX6_restWithoutSermon_0 rfl rfl ?_
  refine Ex.iconst (pc := 1) (v := (-1)) dX6_restWithoutSermon_1 rfl ?_
  refine Ex.putI (pc := 2) dX6_restWithoutSermon_2 fX6_18 (sh16 _) (Or.inl rfl) ⟨rfl, rfl⟩ ?_
  refine Ex.aload_n (pc := 5) dX6_restWithoutSermon_5 rfl rfl ?_
  refine Ex.iconst (pc := 6) (v := (-1)) dX6_restWithoutSermon_6 rfl ?_
  refine Ex.putI (pc := 7) dX6_restWithoutSermon_7 fX6_22 (sh16 _) (Or.inl rfl) ⟨rfl, rfl⟩ ?_
  refine Ex.aload_n (pc := 10) dX6_restWithoutSermon_10 rfl rfl ?_
  refine Ex.iconst (pc := 11) (v := 0) dX6_restWithoutSermon_11 rfl ?_
  refine Ex.putI (pc := 12) dX6_restWithoutSermon_12 fX6_34 (sh16 _) (Or.inl rfl) ⟨rfl, rfl⟩ ?_
  refine Ex.aload_n (pc := 15) dX6_restWithoutSermon_15 rfl rfl ?_
  refine Ex.getR (pc := 16) dX6_restWithoutSermon_16 fX6_9 (sh16 _) r16_1 ?_
  refine Ex.iconst (pc := 19) (v := 1) dX6_restWithoutSermon_19 rfl ?_
  refine Ex.iconst (pc := 20) (v := 0) dX6_restWithoutSermon_20 rfl ?_
  refine Ex.iast (pc := 21) (j := 1) dX6_restWithoutSermon_21 (sh17 _) (by unfold vp_in; decide) (by decide) ?_
  refine Ex.aload_n (pc := 22) dX6_restWithoutSermon_22 rfl rfl ?_
  refine Ex.getR (pc := 23) dX6_restWithoutSermon_23 fX6_9 (sh16 _) r16_1 ?_
  refine Ex.iconst (pc := 26) (v := 2) dX6_restWithoutSermon_26 rfl ?_
  refine Ex.iconst (pc := 27) (v := 0) dX6_restWithoutSermon_27 rfl ?_
  refine Ex.iast (pc := 28) (j := 2) dX6_restWithoutSermon_28 (sh17 _) (by unfold vp_in; decide) (by decide) ?_
  refine Ex.aload_n (pc := 29) dX6_restWithoutSermon_29 rfl rfl ?_
  refine Ex.getR (pc := 30) dX6_restWithoutSermon_30 fX6_9 (sh16 _) r16_1 ?_
  refine Ex.iconst (pc := 33) (v := 4) dX6_restWithoutSermon_33 rfl ?_
  refine Ex.iconst (pc := 34) (v := 0) dX6_restWithoutSermon_34 rfl ?_
  refine Ex.iast (pc := 35) (j := 4) dX6_restWithoutSermon_35 (sh17 _) (by unfold vp_in; decide) (by decide) ?_
  refine Ex.aload_n (pc := 36) dX6_restWithoutSermon_36 rfl rfl ?_
  refine Ex.getR (pc := 37) dX6_restWithoutSermon_37 fX6_9 (sh16 _) r16_1 ?_
  refine Ex.iconst (pc := 40) (v := 5) dX6_restWithoutSermon_40 rfl ?_
  refine Ex.iconst (pc := 41) (v := 0) dX6_restWithoutSermon_41 rfl ?_
  refine Ex.iast (pc := 42) (j := 5) dX6_restWithoutSermon_42 (sh17 _) (by unfold vp_in; decide) (by decide) ?_
  refine Ex.aload_n (pc := 43) dX6_restWithoutSermon_43 rfl rfl ?_
  refine Ex.getR (pc := 44) dX6_restWithoutSermon_44 fX6_9 (sh16 _) r16_1 ?_
  refine Ex.bipush (pc := 47) (v := 19) dX6_restWithoutSermon_47 rfl ?_
  refine Ex.iconst (pc := 49) (v := 0) dX6_restWithoutSermon_49 rfl ?_
  refine Ex.iast (pc := 50) (j := 19) dX6_restWithoutSermon_50 (sh17 _) (by unfold vp_in; decide) (by decide) ?_
  refine Ex.aload_n (pc := 51) dX6_restWithoutSermon_51 rfl rfl ?_
  refine Ex.getR (pc := 52) dX6_restWithoutSermon_52 fX6_9 (sh16 _) r16_1 ?_
  refine Ex.bipush (pc := 55) (v := 14) dX6_restWithoutSermon_55 rfl ?_
  refine Ex.aload_n (pc := 57) dX6_restWithoutSermon_57 rfl rfl ?_
  refine Ex.getI (pc := 58) dX6_restWithoutSermon_58 fX6_56 (sh10 _) ?_
  refine Ex.iast (pc := 61) (j := 14) dX6_restWithoutSermon_61 (sh17 _) (by unfold vp_in; decide) (by decide) ?_
  refine Ex.aload_n (pc := 62) dX6_restWithoutSermon_62 rfl rfl ?_
  refine Ex.getR (pc := 63) dX6_restWithoutSermon_63 fX6_9 (sh16 _) r16_1 ?_
  refine Ex.bipush (pc := 66) (v := 16) dX6_restWithoutSermon_66 rfl ?_
  refine Ex.aload_n (pc := 68) dX6_restWithoutSermon_68 rfl rfl ?_
  refine Ex.getI (pc := 69) dX6_restWithoutSermon_69 fX6_59 (sh10 _) ?_
  refine Ex.iast (pc := 72) (j := 16) dX6_restWithoutSermon_72 (sh17 _) (by unfold vp_in; decide) (by decide) ?_
  refine Ex.vret (pc := 73) rfl dX6_restWithoutSermon_73 (Nat.le_refl _) (Nat.le_refl _) ?_
  refine ⟨_, rfl, rfl, ?_, ?_, ?_, ?_, ?_⟩
  · repeat (first | exact Sm.rf | refine Sm.up ?_ (by decide))
  · simp [va_up, upd]
  · simp [va_up, upd]
  · simp [va_up, upd]
  · intro j hj h7 h8
    have hj2 : j = 1 ∨ j = 2 ∨ j = 4 ∨ j = 5 ∨ j = 14 ∨ j = 16 ∨ j = 19 := by
      rcases hj with q | q | q | q | q | q | ⟨q, _⟩ | ⟨_, q | q | q⟩ <;> first | (exact absurd q (by omega)) | omega
    rcases hj2 with rfl | rfl | rfl | rfl | rfl | rfl | rfl <;> simp [va_up, upd, nrow, nmV, nmL, xOf]
set_option maxRecDepth 20000 in
theorem t_deepestOf13 {N : Nat} {I : aI} {L : aL} {ns : Nat} (hc : I 3 1 = nI ns) (hn : ns ≤ 6) : Run 0 0 0 mX6_deepestOf [.ref 16, .ref 13] (St N I L) (RI (dpI (dpF (I 15) ns)) (St N I L)) := by
  refine Run.of (ls := [some (.ref 16), some (.ref 13), none, none, none]) (by decide) (Nat.le_of_ble_eq_true rfl) rfl ?_
  refine Ex.iconst (pc := 0) (v := (-1)) dX6_deepestOf_0 rfl ?_
  refine Ex.istore_n (pc := 1) (ls' := [some (.ref 16), some (.ref 13), some (.int (-1)), none, none]) dX6_deepestOf_1 rfl (by decide) rfl rfl ?_
  refine Ex.iconst (pc := 2) (v := 0) dX6_deepestOf_2 rfl ?_
  refine Ex.istore_n (pc := 3) (ls' := [some (.ref 16), some (.ref 13), some (.int (-1)), some (.int 0), none]) dX6_deepestOf_3 rfl (by decide) rfl rfl ?_
  refine Ex.iconst (pc := 4) (v := 0) dX6_deepestOf_4 rfl ?_
  refine Ex.istore (pc := 5) (ls' := [some (.ref 16), some (.ref 13), some (.int (-1)), some (.int 0), some (.int 0)]) dX6_deepestOf_5 (by decide) rfl rfl ?_
  refine forUp (σ := Unit) (P := fun k _ => Ex 0 0 0 mX6_deepestOf 0 0 7 [some (.ref 16), some (.ref 13), some (.int (dpI (dpF (I 15) k))), some (.int (dpM (I 15) (dpF (I 15) k))), some (.int (nI k))] [] (St N I L) _) (Inv := fun _ _ => True) ns ?_ ?_ 0 () (Nat.zero_le _) trivial
  · rintro - -
    refine Ex.iload (pc := 7) dX6_deepestOf_7 rfl ?_
    refine Ex.aload_n (pc := 9) dX6_deepestOf_9 rfl rfl ?_
    refine Ex.getR (pc := 10) dX6_deepestOf_10 fX6_37 (sh16 _) r16_0 ?_
    refine Ex.getR (pc := 13) dX6_deepestOf_13 fX6_92 (sh2 _) r2_0 ?_
    refine Ex.iconst (pc := 16) (v := 1) dX6_deepestOf_16 rfl ?_
    refine Ex.iald (pc := 17) (j := 1) dX6_deepestOf_17 (sh3 _) (by unfold vp_in; decide) (by decide) ?_
    refine Ex.icmp_ge (pc := 18) (tgt := 49) dX6_deepestOf_18 (by decide) (fun _ => ?_) (fun c18 => absurd (by rw [hc]; exact nI_le (Nat.le_refl ns) (by omega)) c18)
    refine Ex.iload_n (pc := 49) dX6_deepestOf_49 rfl rfl ?_
    refine Ex.iret (pc := 50) rfl rfl rfl dX6_deepestOf_50 (Nat.le_refl _) (Nat.le_refl _) ?_
    exact ⟨rfl, rfl⟩
  · rintro k - hk - ih
    refine Ex.iload (pc := 7) dX6_deepestOf_7 rfl ?_
    refine Ex.aload_n (pc := 9) dX6_deepestOf_9 rfl rfl ?_
    refine Ex.getR (pc := 10) dX6_deepestOf_10 fX6_37 (sh16 _) r16_0 ?_
    refine Ex.getR (pc := 13) dX6_deepestOf_13 fX6_92 (sh2 _) r2_0 ?_
    refine Ex.iconst (pc := 16) (v := 1) dX6_deepestOf_16 rfl ?_
    refine Ex.iald (pc := 17) (j := 1) dX6_deepestOf_17 (sh3 _) (by unfold vp_in; decide) (by decide) ?_
    refine Ex.icmp_ge (pc := 18) (tgt := 49) dX6_deepestOf_18 (by decide) (fun c18 => absurd c18 (by rw [hc]; exact nI_ge hk (by omega))) (fun _ => ?_)
    refine Ex.aload_n (pc := 21) dX6_deepestOf_21 rfl rfl ?_
    refine Ex.getR (pc := 22) dX6_deepestOf_22 fX6_45 (sh13 _) r13_5 ?_
    refine Ex.iload (pc := 25) dX6_deepestOf_25 rfl ?_
    refine Ex.iald (pc := 27) (j := k) dX6_deepestOf_27 (sh15 _) (vp_in_nI (by omega) (by decide)) (ixN2 (by omega)) ?_
    refine Ex.iload_n (pc := 28) dX6_deepestOf_28 rfl rfl ?_
    refine Ex.icmp_le (pc := 29) (tgt := 43) dX6_deepestOf_29 (by decide) (fun c29 => ?_) (fun c29 => ?_)
    · skip
      refine Ex.iinc (pc := 43) (ls' := [some (.ref 16), some (.ref 13), some (.int _), some (.int _), some (.int _)]) dX6_deepestOf_43 rfl rfl (by decide) rfl rfl ?_
      refine Ex.goto (pc := 46) (tgt := 7) dX6_deepestOf_46 (by decide) ?_
      have e := dpF_step (I 15) k
      rw [if_pos c29] at e
      rw [show nI k + Int32.ofInt 1 = nI (k + 1) from nI_1 k]
      refine Ex.le (ls' := [some (.ref 16), some (.ref 13), some (.int (dpI (dpF (I 15) (k + 1)))), some (.int (dpM (I 15) (dpF (I 15) (k + 1)))), some (.int (nI (k + 1)))]) ⟨rfl, rfl, ?_, ?_, rfl, trivial⟩ (ih () trivial)
      · rw [e]
      · rw [e]
    · skip
      refine Ex.iload (pc := 32) dX6_deepestOf_32 rfl ?_
      refine Ex.istore_n (pc := 34) (ls' := [some (.ref 16), some (.ref 13), some (.int _), some (.int _), some (.int _)]) dX6_deepestOf_34 rfl (by decide) rfl rfl ?_
      refine Ex.aload_n (pc := 35) dX6_deepestOf_35 rfl rfl ?_
      refine Ex.getR (pc := 36) dX6_deepestOf_36 fX6_45 (sh13 _) r13_5 ?_
      refine Ex.iload (pc := 39) dX6_deepestOf_39 rfl ?_
      refine Ex.iald (pc := 41) (j := k) dX6_deepestOf_41 (sh15 _) (vp_in_nI (by omega) (by decide)) (ixN2 (by omega)) ?_
      refine Ex.istore_n (pc := 42) (ls' := [some (.ref 16), some (.ref 13), some (.int _), some (.int _), some (.int _)]) dX6_deepestOf_42 rfl (by decide) rfl rfl ?_
      refine Ex.iinc (pc := 43) (ls' := [some (.ref 16), some (.ref 13), some (.int _), some (.int _), some (.int _)]) dX6_deepestOf_43 rfl rfl (by decide) rfl rfl ?_
      refine Ex.goto (pc := 46) (tgt := 7) dX6_deepestOf_46 (by decide) ?_
      have e := dpF_step (I 15) k
      rw [if_neg c29] at e
      rw [show nI k + Int32.ofInt 1 = nI (k + 1) from nI_1 k]
      refine Ex.le (ls' := [some (.ref 16), some (.ref 13), some (.int (dpI (dpF (I 15) (k + 1)))), some (.int (dpM (I 15) (dpF (I 15) (k + 1)))), some (.int (nI (k + 1)))]) ⟨rfl, rfl, ?_, ?_, rfl, trivial⟩ (ih () trivial)
      · rw [e]; rfl
      · rw [e]; rfl
set_option maxRecDepth 20000 in
theorem t_pickFor13 {N : Nat} {I : aI} {L : aL} {p : aP} {s nb : Nat} (hp : PlanG N I p) (hs : s < 6) (hc : I 3 0 = nI nb) (hn : nb ≤ 5) : Run 3 0 0 mX6_pickFor [.ref 16, .ref 13, .int (nI s)] (St N I L) (RP (some (.int (nI (pickX p (I 5) (I 6) (xOf I 13) s nb)))) N L (fun I2 => Sm [16, 17, 18] I I2)) := by
  refine Run.of (ls := [some (.ref 16), some (.ref 13), some (.int _), none, none, none, none]) (by decide) (Nat.le_of_ble_eq_true rfl) rfl ?_
  refine Ex.iconst (pc := 0) (v := 0) dX6_pickFor_0 rfl ?_
  refine Ex.istore_n (pc := 1) (ls' := [some (.ref 16), some (.ref 13), some (.int _), some (.int 0), none, none, none]) dX6_pickFor_1 rfl (by decide) rfl rfl ?_
  refine Ex.iconst (pc := 2) (v := 0) dX6_pickFor_2 rfl ?_
  refine Ex.istore (pc := 3) (ls' := [some (.ref 16), some (.ref 13), some (.int _), some (.int 0), some (.int 0), none, none]) dX6_pickFor_3 (by decide) rfl rfl ?_
  refine Ex.iconst (pc := 5) (v := 0) dX6_pickFor_5 rfl ?_
  refine Ex.istore (pc := 6) (ls' := [some (.ref 16), some (.ref 13), some (.int _), some (.int 0), some (.int 0), some (.int 0), none]) dX6_pickFor_6 (by decide) rfl rfl ?_
  refine forUp (σ := aI) (P := fun k I2 => Ex 3 0 0 mX6_pickFor 0 0 8 [some (.ref 16), some (.ref 13), some (.int (nI s)), some (.int (nI (pkF (fun k => evV p (prow (I 5) (I 6) (xOf I 13) s k) 4 0) k))), some (.int (pkM (fun k => evV p (prow (I 5) (I 6) (xOf I 13) s k) 4 0) k)), some (.int (nI k)), none] [] (St N I2 L) _) (Inv := fun k I2 => Sm [16, 17, 18] I I2) nb ?_ ?_ 0 _ (Nat.zero_le _) Sm.rf
  · rintro I2 hS
    have h30 : I2 3 0 = nI nb := by rw [hS 3 (by decide)]; exact hc
    refine Ex.iload (pc := 8) dX6_pickFor_8 rfl ?_
    refine Ex.aload_n (pc := 10) dX6_pickFor_10 rfl rfl ?_
    refine Ex.getR (pc := 11) dX6_pickFor_11 fX6_37 (sh16 _) r16_0 ?_
    refine Ex.getR (pc := 14) dX6_pickFor_14 fX6_92 (sh2 _) r2_0 ?_
    refine Ex.iconst (pc := 17) (v := 0) dX6_pickFor_17 rfl ?_
    refine Ex.iald (pc := 18) (j := 0) dX6_pickFor_18 (sh3 _) (by unfold vp_in; decide) (by decide) ?_
    refine Ex.icmp_ge (pc := 19) (tgt := 84) dX6_pickFor_19 (by decide) (fun _ => ?_) (fun c19 => absurd (by rw [h30]; exact nI_le (Nat.le_refl nb) (by omega)) c19)
    refine Ex.iload_n (pc := 84) dX6_pickFor_84 rfl rfl ?_
    refine Ex.iret (pc := 85) rfl rfl rfl dX6_pickFor_85 (Nat.le_refl _) (Nat.le_refl _) ?_
    exact ⟨_, rfl, rfl, hS⟩
  · rintro k I2 hk hS ih
    have h30 : I2 3 0 = nI nb := by rw [hS 3 (by decide)]; exact hc
    refine Ex.iload (pc := 8) dX6_pickFor_8 rfl ?_
    refine Ex.aload_n (pc := 10) dX6_pickFor_10 rfl rfl ?_
    refine Ex.getR (pc := 11) dX6_pickFor_11 fX6_37 (sh16 _) r16_0 ?_
    refine Ex.getR (pc := 14) dX6_pickFor_14 fX6_92 (sh2 _) r2_0 ?_
    refine Ex.iconst (pc := 17) (v := 0) dX6_pickFor_17 rfl ?_
    refine Ex.iald (pc := 18) (j := 0) dX6_pickFor_18 (sh3 _) (by unfold vp_in; decide) (by decide) ?_
    refine Ex.icmp_ge (pc := 19) (tgt := 84) dX6_pickFor_19 (by decide) (fun c19 => absurd c19 (by rw [h30]; exact nI_ge hk (by omega))) (fun _ => ?_)
    refine Ex.aload_n (pc := 22) dX6_pickFor_22 rfl rfl ?_
    refine Ex.aload_n (pc := 23) dX6_pickFor_23 rfl rfl ?_
    refine Ex.iload (pc := 24) dX6_pickFor_24 rfl ?_
    refine Ex.iload_n (pc := 26) dX6_pickFor_26 rfl rfl ?_
    refine Ex.callV (pc := 27) (As := [.ref 13, .int _, .int _]) (rest := []) dX6_pickFor_27 cX6_74 (t_lay13 (b := k) (s := s) (by omega) hs) (sh16 _) rfl rfl (by decide) (Nat.le_refl _) (Nat.le_refl _) (Nat.le_of_ble_eq_true rfl) (Or.inl (fun r S' h => by obtain ⟨_, _, h, _⟩ := h; subst h; rfl)) (fun r S' hq _ _ => ?_)
    obtain ⟨I3, rfl, rfl, hS3, hb3, hs3, ht3, hn3⟩ := hq
    have hS3b : Sm [16, 17, 18] I I3 := hS.tr hS3 (by decide) (by decide)
    obtain ⟨I4, hI4⟩ : ∃ z, z = va_up I3 17 (upd (upd (I3 17) 2 (I 14 k)) 4 (I 15 s)) := ⟨_, rfl⟩
    have hS4 : Sm [16, 17, 18] I I4 := by rw [hI4]; exact hS3b.up (by decide)
    have hp4 := hp.sm hS4 (by decide) (by decide) (by decide) (by decide)
    have z5 : I3 16 5 = I 14 k := by have := congrArg (fun t => t.1) ht3; rw [hS 14 (by decide)] at this; exact this
    have z6 : I3 16 6 = I 15 s := by have := congrArg (fun t => t.2.1) ht3; rw [hS 15 (by decide)] at this; exact this
    have hev : evV p (I4 17) 4 0 = (fun k => evV p (prow (I 5) (I 6) (xOf I 13) s k) 4 0) k := by
      show evV p (I4 17) 4 0 = evV p (prow (I 5) (I 6) (xOf I 13) s k) 4 0
      refine evV_congr hp.2 (by decide) (fun j hj => ?_)
      rw [hI4, va_up_s]
      unfold prow
      by_cases h4 : j = 4
      · rw [h4, upd_s, upd_s]; rfl
      · rw [upd_n h4, upd_n h4]
        by_cases h2 : j = 2
        · rw [h2, upd_s, upd_s]; rfl
        · rw [upd_n h2, upd_n h2, hn3]
          have hj2 : j = 1 ∨ j = 5 ∨ j = 14 ∨ j = 16 := by
            rcases hj with q | q | q | q | q | q | ⟨q, _⟩ | ⟨q, _⟩ <;> first | (exact absurd q (by omega)) | omega
          rw [nmL_upd j hj2, hS 5 (by decide), hS 6 (by decide), hS 13 (by decide)]; rfl
    refine Ex.aload_n (pc := 30) dX6_pickFor_30 rfl rfl ?_
    refine Ex.getR (pc := 31) dX6_pickFor_31 fX6_9 (sh16 _) r16_1 ?_
    refine Ex.iconst (pc := 34) (v := 2) dX6_pickFor_34 rfl ?_
    refine Ex.aload_n (pc := 35) dX6_pickFor_35 rfl rfl ?_
    refine Ex.getI (pc := 36) dX6_pickFor_36 fX6_25 (sh16 _) ?_
    refine Ex.iast (pc := 39) (j := 2) dX6_pickFor_39 (sh17 _) (by unfold vp_in; decide) (by decide) ?_
    refine Ex.aload_n (pc := 40) dX6_pickFor_40 rfl rfl ?_
    refine Ex.getR (pc := 41) dX6_pickFor_41 fX6_9 (sh16 _) r16_1 ?_
    refine Ex.iconst (pc := 44) (v := 4) dX6_pickFor_44 rfl ?_
    refine Ex.aload_n (pc := 45) dX6_pickFor_45 rfl rfl ?_
    refine Ex.getI (pc := 46) dX6_pickFor_46 fX6_28 (sh16 _) ?_
    refine Ex.iast (pc := 49) (j := 4) dX6_pickFor_49 (sh17 _) (by unfold vp_in; decide) (by decide) ?_
    refine Ex.mm (S' := St N I4 L) ?_ ?_
    · rw [hI4, ← z5, ← z6]; simp only [bx_uu, va_up_s, va_up_n (show (16 : Nat) ≠ 17 by decide)]
    refine Ex.aload_n (pc := 50) dX6_pickFor_50 rfl rfl ?_
    refine Ex.bipush (pc := 51) (v := 13) dX6_pickFor_51 rfl ?_
    refine Ex.iconst (pc := 53) (v := 0) dX6_pickFor_53 rfl ?_
    refine Ex.callV (pc := 54) (As := [.int 13, .int 0]) (rest := []) dX6_pickFor_54 cX6_62 (t_value (r := 4) (p := p) hp4.1 (by decide)) (sh16 _) rfl rfl (by decide) (Nat.le_refl _) (Nat.le_refl _) (Nat.le_of_ble_eq_true rfl) (Or.inl (fun r S' h => by obtain ⟨_, _, h, _⟩ := h; subst h; rfl)) (fun r S' hq _ _ => ?_)
    obtain ⟨I5, rfl, rfl, hS5⟩ := hq
    rw [hev]
    have hS5b : Sm [16, 17, 18] I I5 := hS4.tr hS5 (by decide) (by decide)
    refine Ex.istore (pc := 57) (ls' := [some (.ref 16), some (.ref 13), some (.int _), some (.int _), some (.int _), some (.int _), some (.int _)]) dX6_pickFor_57 (by decide) rfl rfl ?_
    refine Ex.iload (pc := 59) dX6_pickFor_59 rfl ?_
    refine Ex.if_eq (pc := 61) (tgt := 71) dX6_pickFor_61 (by decide) (fun c61 => ?_) (fun c61 => ?_)
    · skip
      refine Ex.iload (pc := 71) dX6_pickFor_71 rfl ?_
      refine Ex.istore_n (pc := 73) (ls' := [some (.ref 16), some (.ref 13), some (.int _), some (.int _), some (.int _), some (.int _), some (.int _)]) dX6_pickFor_73 rfl (by decide) rfl rfl ?_
      refine Ex.iload (pc := 74) dX6_pickFor_74 rfl ?_
      refine Ex.istore (pc := 76) (ls' := [some (.ref 16), some (.ref 13), some (.int _), some (.int _), some (.int _), some (.int _), some (.int _)]) dX6_pickFor_76 (by decide) rfl rfl ?_
      refine Ex.iinc (pc := 78) (ls' := [some (.ref 16), some (.ref 13), some (.int _), some (.int _), some (.int _), some (.int _), some (.int _)]) dX6_pickFor_78 rfl rfl (by decide) rfl rfl ?_
      refine Ex.goto (pc := 81) (tgt := 8) dX6_pickFor_81 (by decide) ?_
      have hk0 : k = 0 := (nI_eq (b := 0) (by omega) (by decide)).mp c61
      rw [show nI k + Int32.ofInt 1 = nI (k + 1) from nI_1 k]
      refine Ex.le (ls' := [some (.ref 16), some (.ref 13), some (.int (nI s)), some (.int (nI (pkF (fun k => evV p (prow (I 5) (I 6) (xOf I 13) s k) 4 0) (k + 1)))), some (.int (pkM (fun k => evV p (prow (I 5) (I 6) (xOf I 13) s k) 4 0) (k + 1))), some (.int (nI (k + 1))), none]) ⟨rfl, rfl, rfl, ?_, ?_, rfl, trivial⟩ (ih _ hS5b)
      · rw [hk0]; rfl
      · rw [hk0]; rfl
    · skip
      refine Ex.iload (pc := 64) dX6_pickFor_64 rfl ?_
      refine Ex.iload (pc := 66) dX6_pickFor_66 rfl ?_
      refine Ex.icmp_le (pc := 68) (tgt := 78) dX6_pickFor_68 (by decide) (fun c68 => ?_) (fun c68 => ?_)
      · skip
        refine Ex.iinc (pc := 78) (ls' := [some (.ref 16), some (.ref 13), some (.int _), some (.int _), some (.int _), some (.int _), some (.int _)]) dX6_pickFor_78 rfl rfl (by decide) rfl rfl ?_
        refine Ex.goto (pc := 81) (tgt := 8) dX6_pickFor_81 (by decide) ?_
        have hk0 : ¬ k = 0 := fun q => c61 (by rw [q]; rfl)
        have em : pkM (fun k => evV p (prow (I 5) (I 6) (xOf I 13) s k) 4 0) k = (fun k => evV p (prow (I 5) (I 6) (xOf I 13) s k) 4 0) (pkF (fun k => evV p (prow (I 5) (I 6) (xOf I 13) s k) 4 0) k) := by unfold pkM; rw [if_neg hk0]
        rw [em] at c68
        rw [show nI k + Int32.ofInt 1 = nI (k + 1) from nI_1 k]
        refine Ex.le (ls' := [some (.ref 16), some (.ref 13), some (.int (nI s)), some (.int (nI (pkF (fun k => evV p (prow (I 5) (I 6) (xOf I 13) s k) 4 0) (k + 1)))), some (.int (pkM (fun k => evV p (prow (I 5) (I 6) (xOf I 13) s k) 4 0) (k + 1))), some (.int (nI (k + 1))), none]) ⟨rfl, rfl, rfl, ?_, ?_, rfl, trivial⟩ (ih _ hS5b)
        · simp only [pkF]; rw [if_neg hk0, if_pos c68]
        · unfold pkM; rw [if_neg hk0, if_neg (Nat.succ_ne_zero k)]; simp only [pkF]; rw [if_neg hk0, if_pos c68]
      · skip
        refine Ex.iload (pc := 71) dX6_pickFor_71 rfl ?_
        refine Ex.istore_n (pc := 73) (ls' := [some (.ref 16), some (.ref 13), some (.int _), some (.int _), some (.int _), some (.int _), some (.int _)]) dX6_pickFor_73 rfl (by decide) rfl rfl ?_
        refine Ex.iload (pc := 74) dX6_pickFor_74 rfl ?_
        refine Ex.istore (pc := 76) (ls' := [some (.ref 16), some (.ref 13), some (.int _), some (.int _), some (.int _), some (.int _), some (.int _)]) dX6_pickFor_76 (by decide) rfl rfl ?_
        refine Ex.iinc (pc := 78) (ls' := [some (.ref 16), some (.ref 13), some (.int _), some (.int _), some (.int _), some (.int _), some (.int _)]) dX6_pickFor_78 rfl rfl (by decide) rfl rfl ?_
        refine Ex.goto (pc := 81) (tgt := 8) dX6_pickFor_81 (by decide) ?_
        have hk0 : ¬ k = 0 := fun q => c61 (by rw [q]; rfl)
        have em : pkM (fun k => evV p (prow (I 5) (I 6) (xOf I 13) s k) 4 0) k = (fun k => evV p (prow (I 5) (I 6) (xOf I 13) s k) 4 0) (pkF (fun k => evV p (prow (I 5) (I 6) (xOf I 13) s k) 4 0) k) := by unfold pkM; rw [if_neg hk0]
        rw [em] at c68
        rw [show nI k + Int32.ofInt 1 = nI (k + 1) from nI_1 k]
        refine Ex.le (ls' := [some (.ref 16), some (.ref 13), some (.int (nI s)), some (.int (nI (pkF (fun k => evV p (prow (I 5) (I 6) (xOf I 13) s k) 4 0) (k + 1)))), some (.int (pkM (fun k => evV p (prow (I 5) (I 6) (xOf I 13) s k) 4 0) (k + 1))), some (.int (nI (k + 1))), none]) ⟨rfl, rfl, rfl, ?_, ?_, rfl, trivial⟩ (ih _ hS5b)
        · simp only [pkF]; rw [if_neg hk0, if_neg c68]
        · unfold pkM; rw [if_neg (Nat.succ_ne_zero k)]; simp only [pkF]; rw [if_neg hk0, if_neg c68]
set_option maxRecDepth 20000 in
theorem t_rest13 {N : Nat} {I : aI} {L : aL} : Run 0 0 0 mX6_restWithoutSermon [.ref 16, .ref 13] (St N I L) (RP none N L (fun I2 => Sm [16, 17] I I2 ∧ I2 16 3 = -1 ∧ I2 16 4 = -1 ∧ I2 16 8 = 0 ∧ ∀ j, alw 3 j → j ≠ 7 → j ≠ 8 → I2 17 j = nrow (xOf I 13) j)) := by
  refine Run.of (ls := [some (.ref 16), some (.ref 13)]) (by decide) (Nat.le_of_ble_eq_true rfl) rfl ?_
  refine Ex.aload_n (pc := 0) dX6_restWithoutSermon_0 rfl rfl ?_
  refine Ex.iconst (pc := 1) (v := (-1)) dX6_restWithoutSermon_1 rfl ?_
  refine Ex.putI (pc := 2) dX6_restWithoutSermon_2 fX6_18 (sh16 _) (Or.inl rfl) ⟨rfl, rfl⟩ ?_
  refine Ex.aload_n (pc := 5) dX6_restWithoutSermon_5 rfl rfl ?_
  refine Ex.iconst (pc := 6) (v := (-1)) dX6_restWithoutSermon_6 rfl ?_
  refine Ex.putI (pc := 7) dX6_restWithoutSermon_7 fX6_22 (sh16 _) (Or.inl rfl) ⟨rfl, rfl⟩ ?_
  refine Ex.aload_n (pc := 10) dX6_restWithoutSermon_10 rfl rfl ?_
  refine Ex.iconst (pc := 11) (v := 0) dX6_restWithoutSermon_11 rfl ?_
  refine Ex.putI (pc := 12) dX6_restWithoutSermon_12 fX6_34 (sh16 _) (Or.inl rfl) ⟨rfl, rfl⟩ ?_
  refine Ex.aload_n (pc := 15) dX6_restWithoutSermon_15 rfl rfl ?_
  refine Ex.getR (pc := 16) dX6_restWithoutSermon_16 fX6_9 (sh16 _) r16_1 ?_
  refine Ex.iconst (pc := 19) (v := 1) dX6_restWithoutSermon_19 rfl ?_
  refine Ex.iconst (pc := 20) (v := 0) dX6_restWithoutSermon_20 rfl ?_
  refine Ex.iast (pc := 21) (j := 1) dX6_restWithoutSermon_21 (sh17 _) (by unfold vp_in; decide) (by decide) ?_
  refine Ex.aload_n (pc := 22) dX6_restWithoutSermon_22 rfl rfl ?_
  refine Ex.getR (pc := 23) dX6_restWithoutSermon_23 fX6_9 (sh16 _) r16_1 ?_
  refine Ex.iconst (pc := 26) (v := 2) dX6_restWithoutSermon_26 rfl ?_
  refine Ex.iconst (pc := 27) (v := 0) dX6_restWithoutSermon_27 rfl ?_
  refine Ex.iast (pc := 28) (j := 2) dX6_restWithoutSermon_28 (sh17 _) (by unfold vp_in; decide) (by decide) ?_
  refine Ex.aload_n (pc := 29) dX6_restWithoutSermon_29 rfl rfl ?_
  refine Ex.getR (pc := 30) dX6_restWithoutSermon_30 fX6_9 (sh16 _) r16_1 ?_
  refine Ex.iconst (pc := 33) (v := 4) dX6_restWithoutSermon_33 rfl ?_
  refine Ex.iconst (pc := 34) (v := 0) dX6_restWithoutSermon_34 rfl ?_
  refine Ex.iast (pc := 35) (j := 4) dX6_restWithoutSermon_35 (sh17 _) (by unfold vp_in; decide) (by decide) ?_
  refine Ex.aload_n (pc := 36) dX6_restWithoutSermon_36 rfl rfl ?_
  refine Ex.getR (pc := 37) dX6_restWithoutSermon_37 fX6_9 (sh16 _) r16_1 ?_
  refine Ex.iconst (pc := 40) (v := 5) dX6_restWithoutSermon_40 rfl ?_
  refine Ex.iconst (pc := 41) (v := 0) dX6_restWithoutSermon_41 rfl ?_
  refine Ex.iast (pc := 42) (j := 5) dX6_restWithoutSermon_42 (sh17 _) (by unfold vp_in; decide) (by decide) ?_
  refine Ex.aload_n (pc := 43) dX6_restWithoutSermon_43 rfl rfl ?_
  refine Ex.getR (pc := 44) dX6_restWithoutSermon_44 fX6_9 (sh16 _) r16_1 ?_
  refine Ex.bipush (pc := 47) (v := 19) dX6_restWithoutSermon_47 rfl ?_
  refine Ex.iconst (pc := 49) (v := 0) dX6_restWithoutSermon_49 rfl ?_
  refine Ex.iast (pc := 50) (j := 19) dX6_restWithoutSermon_50 (sh17 _) (by unfold vp_in; decide) (by decide) ?_
  refine Ex.aload_n (pc := 51) dX6_restWithoutSermon_51 rfl rfl ?_
  refine Ex.getR (pc := 52) dX6_restWithoutSermon_52 fX6_9 (sh16 _) r16_1 ?_
  refine Ex.bipush (pc := 55) (v := 14) dX6_restWithoutSermon_55 rfl ?_
  refine Ex.aload_n (pc := 57) dX6_restWithoutSermon_57 rfl rfl ?_
  refine Ex.getI (pc := 58) dX6_restWithoutSermon_58 fX6_56 (sh13 _) ?_
  refine Ex.iast (pc := 61) (j := 14) dX6_restWithoutSermon_61 (sh17 _) (by unfold vp_in; decide) (by decide) ?_
  refine Ex.aload_n (pc := 62) dX6_restWithoutSermon_62 rfl rfl ?_
  refine Ex.getR (pc := 63) dX6_restWithoutSermon_63 fX6_9 (sh16 _) r16_1 ?_
  refine Ex.bipush (pc := 66) (v := 16) dX6_restWithoutSermon_66 rfl ?_
  refine Ex.aload_n (pc := 68) dX6_restWithoutSermon_68 rfl rfl ?_
  refine Ex.getI (pc := 69) dX6_restWithoutSermon_69 fX6_59 (sh13 _) ?_
  refine Ex.iast (pc := 72) (j := 16) dX6_restWithoutSermon_72 (sh17 _) (by unfold vp_in; decide) (by decide) ?_
  refine Ex.vret (pc := 73) rfl dX6_restWithoutSermon_73 (Nat.le_refl _) (Nat.le_refl _) ?_
  refine ⟨_, rfl, rfl, ?_, ?_, ?_, ?_, ?_⟩
  · repeat (first | exact Sm.rf | refine Sm.up ?_ (by decide))
  · simp [va_up, upd]
  · simp [va_up, upd]
  · simp [va_up, upd]
  · intro j hj h7 h8
    have hj2 : j = 1 ∨ j = 2 ∨ j = 4 ∨ j = 5 ∨ j = 14 ∨ j = 16 ∨ j = 19 := by
      rcases hj with q | q | q | q | q | q | ⟨q, _⟩ | ⟨_, q | q | q⟩ <;> first | (exact absurd q (by omega)) | omega
    rcases hj2 with rfl | rfl | rfl | rfl | rfl | rfl | rfl <;> simp [va_up, upd, nrow, nmV, nmL, xOf]
