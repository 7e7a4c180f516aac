def lkV (t : aT) : Int32 := if t.2.1 = 0 then (if t.1 ≤ 0 then 0 else t.2.2.1 * 100 + t.1) else 0
def lkT (p : aP) (f5 f6 : Nat → Int32) (x : aX) (b st : Nat) (z : Int32) : aT := rubF p (nmL (f5 b) (f6 (6 + st)) x.2.1 x.1) 99 (z, x.2.2.2.2 st, 0, 0)
/-- what a look at a stain gives, the board b having the zinc z -/
def lookV (p : aP) (f5 f6 : Nat → Int32) (x : aX) (b st : Nat) (z : Int32) : Int32 := if z ≤ 0 then 0 else if z < 100 then lkV (lkT p f5 f6 x b st z) else 0
def KnR (I : aI) (V : Nat → Int32 → Int32) : Prop := ∀ st zz, st < 6 → 0 < zz → zz < 100 → I 33 (st * 100 + zz) = -1 ∨ I 33 (st * 100 + zz) = V st (nI zz)
theorem lookV_in {p : aP} {f5 f6 : Nat → Int32} {x : aX} {b st zz : Nat} (h0 : 0 < zz) (h : zz < 100) : lookV p f5 f6 x b st (nI zz) = lkV (lkT p f5 f6 x b st (nI zz)) := by
  unfold lookV
  rw [if_neg (nI_nle h0 (by omega)), if_pos (show nI zz < 100 from nI_lt (b := 100) h (by decide))]
theorem KnR.up {I : aI} {V : Nat → Int32 → Int32} {st zz : Nat} {v : Int32} (h : KnR I V) (hs : st < 6) (h0 : 0 < zz) (hz : zz < 100) (hv : v = V st (nI zz)) {f : Nat → Int32} (hf : f = upd (I 33) (st * 100 + zz) v) {I2 : aI} (h2 : I2 33 = f) : KnR I2 V := by
  intro s z h1 h3 h4
  rw [h2, hf]
  by_cases e : s * 100 + z = st * 100 + zz
  · have e1 : s = st := by omega
    have e2 : z = zz := by omega
    subst e1; subst e2
    rw [upd_s]
    exact Or.inr hv
  · rw [upd_n e]
    exact h s z h1 h3 h4

set_option maxRecDepth 20000 in
theorem t_look {N : Nat} {I : aI} {L : aL} {p : aP} {b st : Nat} {z : Int32} (hp : PlanG N I p) (hb : b < 5) (hs : st < 6) (h30 : I 30 0 = nI b) (hk : KnR I (lookV p (I 5) (I 6) (xOf I 10) b)) : Run 4 0 0 mX1_look [.ref 30, .int (nI st), .int z] (St N I L) (RP (some (.int ((lookV p (I 5) (I 6) (xOf I 10) b) st z))) N L (fun I2 => Sm [16, 17, 18, 33] I I2 ∧ KnR I2 (lookV p (I 5) (I 6) (xOf I 10) b))) := by
  refine Run.of (ls := [some (.ref 30), some (.int _), some (.int _), none, none]) (by decide) (Nat.le_of_ble_eq_true rfl) rfl ?_
  refine Ex.iload_n (pc := 0) dX1_look_0 rfl rfl ?_
  refine Ex.if_le (pc := 1) (tgt := 10) dX1_look_1 (by decide) (fun c1 => ?_) (fun c1 => ?_)
  · skip
    refine Ex.iconst (pc := 10) (v := 0) dX1_look_10 rfl ?_
    refine Ex.iret (pc := 11) rfl rfl rfl dX1_look_11 (Nat.le_refl _) (Nat.le_refl _) ?_
    refine ⟨_, congrArg (fun q => some (Value.int q)) ?_, rfl, Sm.rf, hk⟩
    unfold lookV; rw [if_pos c1]
  · skip
    refine Ex.iload_n (pc := 4) dX1_look_4 rfl rfl ?_
    refine Ex.bipush (pc := 5) (v := 100) dX1_look_5 rfl ?_
    refine Ex.icmp_lt (pc := 7) (tgt := 12) dX1_look_7 (by decide) (fun c7 => ?_) (fun c7 => ?_)
    · skip
      obtain ⟨zz, hz1, hz0, rfl⟩ : ∃ zz, zz < 100 ∧ 0 < zz ∧ z = nI zz := by
        obtain ⟨j, hj, rfl⟩ := nI_of2 (M := 99) (n := 99) (x := z) (by decide) (fun q => c1 (Int32.le_of_lt q)) (by rw [Int32.le_iff_toInt_le]; have := Int32.lt_iff_toInt_lt.mp c7; rw [show (100 : Int32).toInt = 100 from by decide] at this; rw [show (99 : Int32).toInt = 99 from by decide]; omega)
        refine ⟨j, by omega, ?_, rfl⟩
        rcases Nat.eq_zero_or_pos j with q | q
        · subst q; exact absurd (by decide) c1
        · exact q
      have hV := lookV_in (p := p) (f5 := I 5) (f6 := I 6) (x := xOf I 10) (b := b) (st := st) hz0 hz1
      refine Ex.iload_n (pc := 12) dX1_look_12 rfl rfl ?_
      refine Ex.bipush (pc := 13) (v := 100) dX1_look_13 rfl ?_
      refine Ex.imul (pc := 15) dX1_look_15 ?_
      refine Ex.iload_n (pc := 16) dX1_look_16 rfl rfl ?_
      refine Ex.iadd (pc := 17) dX1_look_17 ?_
      refine Ex.istore_n (pc := 18) (ls' := [some (.ref 30), some (.int _), some (.int _), some (.int _), none]) dX1_look_18 rfl (by decide) rfl rfl ?_
      refine Ex.le (ls' := [some (.ref 30), some (.int (nI st)), some (.int (nI zz)), some (.int (nI (st * 100 + zz))), none]) ⟨rfl, rfl, rfl, ?_, trivial⟩ ?_
      · refine congrArg Value.int ?_
        rw [show nI st * 100 = nI (st * 100) from pk_mul st 100, nI_add]
      refine Ex.aload_n (pc := 19) dX1_look_19 rfl rfl ?_
      refine Ex.getR (pc := 20) dX1_look_20 fX1_28 (sh30 _) r30_5 ?_
      refine Ex.iload_n (pc := 23) dX1_look_23 rfl rfl ?_
      refine Ex.iald (pc := 24) (j := st * 100 + zz) dX1_look_24 (sh33 _) (vp_in_nI (by omega) (by decide)) (ixN2 (by omega)) ?_
      refine Ex.iconst (pc := 25) (v := (-1)) dX1_look_25 rfl ?_
      refine Ex.icmp_ne (pc := 26) (tgt := 122) dX1_look_26 (by decide) (fun c26 => ?_) (fun c26 => ?_)
      · skip
        refine Ex.aload_n (pc := 122) dX1_look_122 rfl rfl ?_
        refine Ex.getR (pc := 123) dX1_look_123 fX1_28 (sh30 _) r30_5 ?_
        refine Ex.iload_n (pc := 126) dX1_look_126 rfl rfl ?_
        refine Ex.iald (pc := 127) (j := st * 100 + zz) dX1_look_127 (sh33 _) (vp_in_nI (by omega) (by decide)) (ixN2 (by omega)) ?_
        refine Ex.iret (pc := 128) rfl rfl rfl dX1_look_128 (Nat.le_refl _) (Nat.le_refl _) ?_
        refine ⟨_, congrArg (fun q => some (Value.int q)) ?_, rfl, Sm.rf, hk⟩
        exact (hk st zz hs hz0 hz1).resolve_left c26
      · skip
        refine Ex.aload_n (pc := 29) dX1_look_29 rfl rfl ?_
        refine Ex.getR (pc := 30) dX1_look_30 fX1_31 (sh30 _) r30_6 ?_
        refine Ex.aload_n (pc := 33) dX1_look_33 rfl rfl ?_
        refine Ex.getR (pc := 34) dX1_look_34 fX1_35 (sh30 _) r30_7 ?_
        refine Ex.aload_n (pc := 37) dX1_look_37 rfl rfl ?_
        refine Ex.getI (pc := 38) dX1_look_38 fX1_9 (sh30 _) ?_
        refine Ex.iload_n (pc := 41) dX1_look_41 rfl rfl ?_
        rw [h30]
        refine Ex.callV (pc := 42) (As := [.ref 10, .int _, .int _]) (rest := []) dX1_look_42 cX1_61 (t_lay10 (b := b) (s := st) hb hs) (sh16 _) rfl rfl (by decide) (Nat.le_refl _) (Nat.le_refl _) (Nat.le_of_ble_eq_true rfl) (Or.inl (fun r S' h => by obtain ⟨_, _, h, _⟩ := h; subst h; rfl)) (fun r S' hq _ _ => ?_)
        obtain ⟨I3, rfl, rfl, hS3, hb3, hs3, ht3, hn3⟩ := hq
        obtain ⟨I4, hI4⟩ : ∃ I4, I4 = va_up I3 16 (upd (I3 16) 5 (nI zz)) := ⟨_, rfl⟩
        have hS4 : Sm [16, 17, 18, 33] I I4 := by rw [hI4]; exact (hS3.tr Sm.rf (l := [16, 17, 18, 33]) (l2 := []) (by decide) (by decide)).up (by decide)
        have ht4 : tOf I4 = (nI zz, I 12 st, 0, 0) := by
          have q6 : I3 16 6 = I 12 st := congrArg (fun t => t.2.1) ht3
          have q7 : I3 16 7 = 0 := congrArg (fun t => t.2.2.1) ht3
          have q8 : I3 16 8 = 0 := congrArg (fun t => t.2.2.2) ht3
          unfold tOf; rw [hI4, va_up_s, upd_s, upd_n (by decide), upd_n (by decide), upd_n (by decide), q6, q7, q8]
        have hn4 : I4 17 = I3 17 := by rw [hI4, va_up_n (by decide)]
        have hp4 := hp.sm hS4 (by decide) (by decide) (by decide) (by decide)
        refine Ex.aload_n (pc := 45) dX1_look_45 rfl rfl ?_
        refine Ex.getR (pc := 46) dX1_look_46 fX1_31 (sh30 _) r30_6 ?_
        refine Ex.iload_n (pc := 49) dX1_look_49 rfl rfl ?_
        refine Ex.putI (pc := 50) dX1_look_50 fX1_67 (sh16 _) (Or.inl rfl) ⟨rfl, rfl⟩ ?_
        refine Ex.mm (S' := St N I4 L) (by rw [hI4]) ?_
        refine Ex.aload_n (pc := 53) dX1_look_53 rfl rfl ?_
        refine Ex.getR (pc := 54) dX1_look_54 fX1_31 (sh30 _) r30_6 ?_
        refine Ex.bipush (pc := 57) (v := 99) dX1_look_57 rfl ?_
        refine Ex.callV (pc := 59) (As := [.int 99]) (rest := []) dX1_look_59 cX1_69 (t_rub (p := p) (n := 99) hp4.1 (by decide)) (sh16 _) rfl rfl (by decide) (Nat.le_refl _) (Nat.le_refl _) (Nat.le_of_ble_eq_true rfl) (Or.inl (fun r S' h => by obtain ⟨_, _, h, _⟩ := h; subst h; rfl)) (fun r S' hq _ _ => ?_)
        obtain ⟨I5, rfl, rfl, hS5, hj5, ht5, hm5⟩ := hq
        have hr5 : tOf I5 = lkT p (I 5) (I 6) (xOf I 10) b st (nI zz) := by
          rw [ht5, ht4, hn4, hn3]
          exact rubF_congr hp.2 (fun j hj => nmL_upd j hj) _ _
        generalize hTe : lkT p (I 5) (I 6) (xOf I 10) b st (nI zz) = T at *
        have z5 : I5 16 5 = T.1 := by rw [← hr5]; rfl
        have z6 : I5 16 6 = T.2.1 := by rw [← hr5]; rfl
        have z7 : I5 16 7 = T.2.2.1 := by rw [← hr5]; rfl
        have hS6 : Sm [16, 17, 18, 33] I I5 := hS4.tr hS5 (by decide) (by decide)
        have e33 : I5 33 = I 33 := by rw [hS5 33 (by decide), hI4, va_up_n (by decide), hS3 33 (by decide)]
        refine Ex.aload_n (pc := 62) dX1_look_62 rfl rfl ?_
        refine Ex.getR (pc := 63) dX1_look_63 fX1_31 (sh30 _) r30_6 ?_
        refine Ex.getI (pc := 66) dX1_look_66 fX1_73 (sh16 _) ?_
        refine Ex.if_ne (pc := 69) (tgt := 86) dX1_look_69 (by decide) (fun c69 => ?_) (fun c69 => ?_)
        · skip
          refine Ex.iconst (pc := 86) (v := 0) dX1_look_86 rfl ?_
          refine Ex.istore (pc := 87) (ls' := [some (.ref 30), some (.int _), some (.int _), some (.int _), some (.int 0)]) dX1_look_87 (by decide) rfl rfl ?_
          refine Ex.aload_n (pc := 89) dX1_look_89 rfl rfl ?_
          refine Ex.getR (pc := 90) dX1_look_90 fX1_28 (sh30 _) r30_5 ?_
          refine Ex.iload_n (pc := 93) dX1_look_93 rfl rfl ?_
          refine Ex.iload (pc := 94) dX1_look_94 rfl ?_
          refine Ex.if_eq (pc := 96) (tgt := 120) dX1_look_96 (by decide) (fun _ => ?_) (fun c96 => absurd rfl c96)
          refine Ex.iconst (pc := 120) (v := 0) dX1_look_120 rfl ?_
          refine Ex.iast (pc := 121) (j := st * 100 + zz) dX1_look_121 (sh33 _) (vp_in_nI (by omega) (by decide)) (ixN2 (by omega)) ?_
          refine Ex.aload_n (pc := 122) dX1_look_122 rfl rfl ?_
          refine Ex.getR (pc := 123) dX1_look_123 fX1_28 (sh30 _) r30_5 ?_
          refine Ex.iload_n (pc := 126) dX1_look_126 rfl rfl ?_
          refine Ex.iald (pc := 127) (j := st * 100 + zz) dX1_look_127 (sh33 _) (vp_in_nI (by omega) (by decide)) (ixN2 (by omega)) ?_
          refine Ex.iret (pc := 128) rfl rfl rfl dX1_look_128 (Nat.le_refl _) (Nat.le_refl _) ?_
          have hv : (0 : Int32) = lkV T := by rw [z6] at c69; unfold lkV; rw [if_neg c69]
          refine ⟨_, congrArg (fun q => some (Value.int q)) ?_, rfl, hS6.up (by decide), ?_⟩
          · rw [va_up_s, upd_s, hV]; exact hv
          · exact hk.up hs hz0 hz1 (hv.trans hV.symm) (by rw [e33]) va_up_s
        · skip
          refine Ex.aload_n (pc := 72) dX1_look_72 rfl rfl ?_
          refine Ex.getR (pc := 73) dX1_look_73 fX1_31 (sh30 _) r30_6 ?_
          refine Ex.getI (pc := 76) dX1_look_76 fX1_67 (sh16 _) ?_
          refine Ex.if_le (pc := 79) (tgt := 86) dX1_look_79 (by decide) (fun c79 => ?_) (fun c79 => ?_)
          · skip
            refine Ex.iconst (pc := 86) (v := 0) dX1_look_86 rfl ?_
            refine Ex.istore (pc := 87) (ls' := [some (.ref 30), some (.int _), some (.int _), some (.int _), some (.int 0)]) dX1_look_87 (by decide) rfl rfl ?_
            refine Ex.aload_n (pc := 89) dX1_look_89 rfl rfl ?_
            refine Ex.getR (pc := 90) dX1_look_90 fX1_28 (sh30 _) r30_5 ?_
            refine Ex.iload_n (pc := 93) dX1_look_93 rfl rfl ?_
            refine Ex.iload (pc := 94) dX1_look_94 rfl ?_
            refine Ex.if_eq (pc := 96) (tgt := 120) dX1_look_96 (by decide) (fun _ => ?_) (fun c96 => absurd rfl c96)
            refine Ex.iconst (pc := 120) (v := 0) dX1_look_120 rfl ?_
            refine Ex.iast (pc := 121) (j := st * 100 + zz) dX1_look_121 (sh33 _) (vp_in_nI (by omega) (by decide)) (ixN2 (by omega)) ?_
            refine Ex.aload_n (pc := 122) dX1_look_122 rfl rfl ?_
            refine Ex.getR (pc := 123) dX1_look_123 fX1_28 (sh30 _) r30_5 ?_
            refine Ex.iload_n (pc := 126) dX1_look_126 rfl rfl ?_
            refine Ex.iald (pc := 127) (j := st * 100 + zz) dX1_look_127 (sh33 _) (vp_in_nI (by omega) (by decide)) (ixN2 (by omega)) ?_
            refine Ex.iret (pc := 128) rfl rfl rfl dX1_look_128 (Nat.le_refl _) (Nat.le_refl _) ?_
            have hv : (0 : Int32) = lkV T := by rw [z5] at c79; unfold lkV; split <;> simp [c79]
            refine ⟨_, congrArg (fun q => some (Value.int q)) ?_, rfl, hS6.up (by decide), ?_⟩
            · rw [va_up_s, upd_s, hV]; exact hv
            · exact hk.up hs hz0 hz1 (hv.trans hV.symm) (by rw [e33]) va_up_s
          · skip
            refine Ex.iconst (pc := 82) (v := 1) dX1_look_82 rfl ?_
            refine Ex.goto (pc := 83) (tgt := 87) dX1_look_83 (by decide) ?_
            refine Ex.istore (pc := 87) (ls' := [some (.ref 30), some (.int _), some (.int _), some (.int _), some (.int 1)]) dX1_look_87 (by decide) rfl rfl ?_
            refine Ex.aload_n (pc := 89) dX1_look_89 rfl rfl ?_
            refine Ex.getR (pc := 90) dX1_look_90 fX1_28 (sh30 _) r30_5 ?_
            refine Ex.iload_n (pc := 93) dX1_look_93 rfl rfl ?_
            refine Ex.iload (pc := 94) dX1_look_94 rfl ?_
            refine Ex.if_eq (pc := 96) (tgt := 120) dX1_look_96 (by decide) (fun c96 => absurd c96 (by decide)) (fun _ => ?_)
            refine Ex.aload_n (pc := 99) dX1_look_99 rfl rfl ?_
            refine Ex.getR (pc := 100) dX1_look_100 fX1_31 (sh30 _) r30_6 ?_
            refine Ex.getI (pc := 103) dX1_look_103 fX1_75 (sh16 _) ?_
            refine Ex.bipush (pc := 106) (v := 100) dX1_look_106 rfl ?_
            refine Ex.imul (pc := 108) dX1_look_108 ?_
            refine Ex.aload_n (pc := 109) dX1_look_109 rfl rfl ?_
            refine Ex.getR (pc := 110) dX1_look_110 fX1_31 (sh30 _) r30_6 ?_
            refine Ex.getI (pc := 113) dX1_look_113 fX1_67 (sh16 _) ?_
            refine Ex.iadd (pc := 116) dX1_look_116 ?_
            refine Ex.goto (pc := 117) (tgt := 121) dX1_look_117 (by decide) ?_
            refine Ex.iast (pc := 121) (j := st * 100 + zz) dX1_look_121 (sh33 _) (vp_in_nI (by omega) (by decide)) (ixN2 (by omega)) ?_
            refine Ex.aload_n (pc := 122) dX1_look_122 rfl rfl ?_
            refine Ex.getR (pc := 123) dX1_look_123 fX1_28 (sh30 _) r30_5 ?_
            refine Ex.iload_n (pc := 126) dX1_look_126 rfl rfl ?_
            refine Ex.iald (pc := 127) (j := st * 100 + zz) dX1_look_127 (sh33 _) (vp_in_nI (by omega) (by decide)) (ixN2 (by omega)) ?_
            refine Ex.iret (pc := 128) rfl rfl rfl dX1_look_128 (Nat.le_refl _) (Nat.le_refl _) ?_
            have hv : I5 16 7 * 100 + I5 16 5 = lkV T := by rw [z6] at c69; rw [z5] at c79; unfold lkV; rw [if_pos c69, if_neg c79, z7, z5]
            refine ⟨_, congrArg (fun q => some (Value.int q)) ?_, rfl, hS6.up (by decide), ?_⟩
            · rw [va_up_s, upd_s, hV]; exact hv
            · exact hk.up hs hz0 hz1 (hv.trans hV.symm) (by rw [e33]) va_up_s
    · skip
      refine Ex.iconst (pc := 10) (v := 0) dX1_look_10 rfl ?_
      refine Ex.iret (pc := 11) rfl rfl rfl dX1_look_11 (Nat.le_refl _) (Nat.le_refl _) ?_
      refine ⟨_, congrArg (fun q => some (Value.int q)) ?_, rfl, Sm.rf, hk⟩
      unfold lookV; rw [if_neg c1, if_neg c7]
/-- most, fewest strokes, the best row, the row that is tried -/
abbrev aHe : Type := Int32 × Int32 × (Nat → Int32) × (Nat → Int32)
def heT (c : Nat) (sm : Int32) (g : aHe) : aHe := if g.1 < nI c then (nI c, sm, va_cpy g.2.2.2 g.2.2.1 0 0 6, g.2.2.2) else if ¬ nI c = g.1 then g else if g.2.1 ≤ sm then g else (nI c, sm, va_cpy g.2.2.2 g.2.2.1 0 0 6, g.2.2.2)
def goF (lk : Nat → Int32 → Int32) (dp : Nat → Int32) : Nat → Nat → Int32 → Int32 → Int32 → aHe → aHe
  | 0, _, _, _, _, g => g
  | m + 1, c, tk, z, sm, g =>
    if 6 ≤ c then heT c sm g
    else (List.range 6).foldl (fun g s => if ¬ tk >>> (nI s &&& 31) &&& 1 = 0 then g else if dp s ≤ 0 then g else if lk s z ≤ 0 then g else goF lk dp m (c + 1) (tk ||| 1 <<< (nI s &&& 31)) (lk s z - lk s z / 100 * 100) (sm + lk s z / 100) (g.1, g.2.1, g.2.2.1, upd g.2.2.2 c (nI s))) (heT c sm g)
def HeR (I I2 : aI) (V : Nat → Int32 → Int32) (g : aHe) : Prop := Sm [16, 17, 18, 30, 31, 32, 33] I I2 ∧ I2 30 0 = I 30 0 ∧ I2 30 1 = g.1 ∧ I2 30 2 = g.2.1 ∧ I2 31 = g.2.2.1 ∧ I2 32 = g.2.2.2 ∧ KnR I2 V
def heOf (I : aI) : aHe := (I 30 1, I 30 2, I 31, I 32)
theorem HeR.of {I I2 : aI} {V : Nat → Int32 → Int32} {g : aHe} (h : HeR I I2 V g) : heOf I2 = g := by
  obtain ⟨-, -, h1, h2, h3, h4, -⟩ := h
  unfold heOf
  rw [h1, h2, h3, h4]
theorem HeR.tr {I I1 I2 : aI} {V : Nat → Int32 → Int32} {g g2 : aHe} (h : HeR I I1 V g) (h2 : HeR I1 I2 V g2) : HeR I I2 V g2 := ⟨h.1.tr h2.1 (by decide) (by decide), h2.2.1.trans h.2.1, h2.2.2⟩
theorem HeR.try {I I1 : aI} {V : Nat → Int32 → Int32} {g : aHe} {i : Nat} {v : Int32} (h : HeR I I1 V g) : HeR I (va_up I1 32 (upd (I1 32) i v)) V (g.1, g.2.1, g.2.2.1, upd g.2.2.2 i v) := by
  obtain ⟨a, b, c, d, e, f, k⟩ := h
  refine ⟨a.up (by decide), by rw [va_up_n (by decide)]; exact b, by rw [va_up_n (by decide)]; exact c, by rw [va_up_n (by decide)]; exact d, by rw [va_up_n (by decide)]; exact e, by rw [va_up_s, f], fun s z h1 h2 h3 => by rw [va_up_n (by decide)]; exact k s z h1 h2 h3⟩
theorem HeR.sm {I I1 I2 : aI} {V : Nat → Int32 → Int32} {g : aHe} (h : HeR I I1 V g) (hS : Sm [16, 17, 18, 33] I1 I2) (hk : KnR I2 V) : HeR I I2 V g := by
  obtain ⟨a, b, c, d, e, f, k⟩ := h
  exact ⟨a.tr hS (by decide) (by decide), by rw [hS 30 (by decide)]; exact b, by rw [hS 30 (by decide)]; exact c, by rw [hS 30 (by decide)]; exact d, by rw [hS 31 (by decide)]; exact e, by rw [hS 32 (by decide)]; exact f, hk⟩
theorem look_sm {p : aP} {I I2 : aI} {b : Nat} {l : List Nat} (hS : Sm l I I2) (h5 : 5 ∉ l) (h6 : 6 ∉ l) (h10 : 10 ∉ l) (h11 : 11 ∉ l) (h12 : 12 ∉ l) : lookV p (I2 5) (I2 6) (xOf I2 10) b = lookV p (I 5) (I 6) (xOf I 10) b := by
  simp only [xOf]
  rw [hS 5 h5, hS 6 h6, hS 10 h10, hS 11 h11, hS 12 h12]

set_option maxRecDepth 20000 in
theorem t_goOn {N : Nat} {L : aL} {p : aP} {b : Nat} (hb : b < 5) : ∀ (m c : Nat) (tk z sm : Int32) (I : aI), PlanG N I p → I 30 0 = nI b → KnR I (lookV p (I 5) (I 6) (xOf I 10) b) → c + m = 7 → c ≤ 6 → Run (m + 4) 0 0 mX1_goOn [.ref 30, .int (nI c), .int tk, .int z, .int sm] (St N I L) (RP none N L (fun I2 => HeR I I2 (lookV p (I 5) (I 6) (xOf I 10) b) (goF (lookV p (I 5) (I 6) (xOf I 10) b) (I 12) m c tk z sm (heOf I)))) := by
  intro m
  induction m with
  | zero => intro c tk z sm I hp h30 hk hm h6; exact absurd hm (by omega)
  | succ m ih =>
    intro c tk z sm I hp h30 hk hm h6
    refine Run.of (ls := [some (.ref 30), some (.int _), some (.int _), some (.int _), some (.int _), none, none]) (by decide) (Nat.le_of_ble_eq_true rfl) rfl ?_
    obtain ⟨lk, hlk⟩ : ∃ lk, lk = (lookV p (I 5) (I 6) (xOf I 10) b) := ⟨_, rfl⟩
    rw [← hlk] at hk ⊢
    have hfu : goF lk (I 12) (m + 1) c tk z sm (heOf I) = (if 6 ≤ c then heT c sm (heOf I) else (List.range 6).foldl (fun g s => if ¬ tk >>> (nI s &&& 31) &&& 1 = 0 then g else if I 12 s ≤ 0 then g else if lk s z ≤ 0 then g else goF lk (I 12) m (c + 1) (tk ||| 1 <<< (nI s &&& 31)) (lk s z - lk s z / 100 * 100) (sm + lk s z / 100) (g.1, g.2.1, g.2.2.1, upd g.2.2.2 c (nI s))) (heT c sm (heOf I))) := rfl
    rw [hfu]
    clear hfu
    have hloop : ∀ I1, HeR I I1 lk (heT c sm (heOf I)) → Ex (m + 1 + 4) 0 0 mX1_goOn 0 0 54 [some (.ref 30), some (.int (nI c)), some (.int tk), some (.int z), some (.int sm), some (.int (nI 0)), none] [] (St N I1 L) (RP none N L (fun I2 => HeR I I2 lk (if 6 ≤ c then heT c sm (heOf I) else (List.range 6).foldl (fun g s => if ¬ tk >>> (nI s &&& 31) &&& 1 = 0 then g else if I 12 s ≤ 0 then g else if lk s z ≤ 0 then g else goF lk (I 12) m (c + 1) (tk ||| 1 <<< (nI s &&& 31)) (lk s z - lk s z / 100 * 100) (sm + lk s z / 100) (g.1, g.2.1, g.2.2.1, upd g.2.2.2 c (nI s))) (heT c sm (heOf I))))) := by
      intro I1 hI1
      by_cases hC : 6 ≤ c
      · rw [if_pos hC]
        refine Ex.iload (pc := 54) dX1_goOn_54 rfl ?_
        refine Ex.bipush (pc := 56) (v := 6) dX1_goOn_56 rfl ?_
        refine Ex.icmp_ge (pc := 58) (tgt := 143) dX1_goOn_58 (by decide) (fun c58 => absurd c58 (by decide)) (fun _ => ?_)
        refine Ex.iload_n (pc := 61) dX1_goOn_61 rfl rfl ?_
        refine Ex.bipush (pc := 62) (v := 6) dX1_goOn_62 rfl ?_
        refine Ex.icmp_ge (pc := 64) (tgt := 143) dX1_goOn_64 (by decide) (fun _ => ?_) (fun c64 => absurd (nI_le (a := 6) hC (by omega)) c64)
        refine Ex.vret (pc := 143) rfl dX1_goOn_143 (Nat.le_refl _) (Nat.le_refl _) ?_
        exact ⟨_, rfl, rfl, hI1⟩
      · rw [if_neg hC]
        refine forUp (σ := aI) (P := fun k I2 => Ex (m + 1 + 4) 0 0 mX1_goOn 0 0 54 [some (.ref 30), some (.int (nI c)), some (.int tk), some (.int z), some (.int sm), some (.int (nI k)), none] [] (St N I2 L) _) (Inv := fun k I2 => HeR I I2 lk ((List.range k).foldl (fun g s => if ¬ tk >>> (nI s &&& 31) &&& 1 = 0 then g else if I 12 s ≤ 0 then g else if lk s z ≤ 0 then g else goF lk (I 12) m (c + 1) (tk ||| 1 <<< (nI s &&& 31)) (lk s z - lk s z / 100 * 100) (sm + lk s z / 100) (g.1, g.2.1, g.2.2.1, upd g.2.2.2 c (nI s))) (heT c sm (heOf I)))) 6 ?_ ?_ 0 _ (Nat.zero_le _) hI1
        · rintro I2 hI2
          refine Ex.iload (pc := 54) dX1_goOn_54 rfl ?_
          refine Ex.bipush (pc := 56) (v := 6) dX1_goOn_56 rfl ?_
          refine Ex.icmp_ge (pc := 58) (tgt := 143) dX1_goOn_58 (by decide) (fun _ => ?_) (fun c58 => absurd (by decide) c58)
          refine Ex.vret (pc := 143) rfl dX1_goOn_143 (Nat.le_refl _) (Nat.le_refl _) ?_
          exact ⟨_, rfl, rfl, hI2⟩
        · rintro k I2 hk6 hI2 ih2
          have hfold : (List.range (k + 1)).foldl (fun g s => if ¬ tk >>> (nI s &&& 31) &&& 1 = 0 then g else if I 12 s ≤ 0 then g else if lk s z ≤ 0 then g else goF lk (I 12) m (c + 1) (tk ||| 1 <<< (nI s &&& 31)) (lk s z - lk s z / 100 * 100) (sm + lk s z / 100) (g.1, g.2.1, g.2.2.1, upd g.2.2.2 c (nI s))) (heT c sm (heOf I)) = (fun g s => if ¬ tk >>> (nI s &&& 31) &&& 1 = 0 then g else if I 12 s ≤ 0 then g else if lk s z ≤ 0 then g else goF lk (I 12) m (c + 1) (tk ||| 1 <<< (nI s &&& 31)) (lk s z - lk s z / 100 * 100) (sm + lk s z / 100) (g.1, g.2.1, g.2.2.1, upd g.2.2.2 c (nI s))) ((List.range k).foldl (fun g s => if ¬ tk >>> (nI s &&& 31) &&& 1 = 0 then g else if I 12 s ≤ 0 then g else if lk s z ≤ 0 then g else goF lk (I 12) m (c + 1) (tk ||| 1 <<< (nI s &&& 31)) (lk s z - lk s z / 100 * 100) (sm + lk s z / 100) (g.1, g.2.1, g.2.2.1, upd g.2.2.2 c (nI s))) (heT c sm (heOf I))) k := by rw [List.range_succ, List.foldl_append]; rfl
          rw [hfold] at ih2
          generalize (List.range k).foldl (fun g s => if ¬ tk >>> (nI s &&& 31) &&& 1 = 0 then g else if I 12 s ≤ 0 then g else if lk s z ≤ 0 then g else goF lk (I 12) m (c + 1) (tk ||| 1 <<< (nI s &&& 31)) (lk s z - lk s z / 100 * 100) (sm + lk s z / 100) (g.1, g.2.1, g.2.2.1, upd g.2.2.2 c (nI s))) (heT c sm (heOf I)) = g at *
          have hlk2 : lookV p (I2 5) (I2 6) (xOf I2 10) b = lk := by rw [hlk]; exact look_sm hI2.1 (by decide) (by decide) (by decide) (by decide) (by decide)
          have hp2 := hp.sm hI2.1 (by decide) (by decide) (by decide) (by decide)
          have e12 : I2 12 = I 12 := hI2.1 12 (by decide)
          have h302 : I2 30 0 = nI b := hI2.2.1.trans h30
          have hkn2 : KnR I2 (lookV p (I2 5) (I2 6) (xOf I2 10) b) := by rw [hlk2]; exact hI2.2.2.2.2.2.2
          refine Ex.iload (pc := 54) dX1_goOn_54 rfl ?_
          refine Ex.bipush (pc := 56) (v := 6) dX1_goOn_56 rfl ?_
          refine Ex.icmp_ge (pc := 58) (tgt := 143) dX1_goOn_58 (by decide) (fun c58 => absurd c58 (nI_ge (b := 6) hk6 (by decide))) (fun _ => ?_)
          refine Ex.iload_n (pc := 61) dX1_goOn_61 rfl rfl ?_
          refine Ex.bipush (pc := 62) (v := 6) dX1_goOn_62 rfl ?_
          refine Ex.icmp_ge (pc := 64) (tgt := 143) dX1_goOn_64 (by decide) (fun c64 => absurd c64 (nI_ge (b := 6) (by omega) (by decide))) (fun _ => ?_)
          refine Ex.iload_n (pc := 67) dX1_goOn_67 rfl rfl ?_
          refine Ex.iload (pc := 68) dX1_goOn_68 rfl ?_
          refine Ex.ishr (pc := 70) dX1_goOn_70 ?_
          refine Ex.iconst (pc := 71) (v := 1) dX1_goOn_71 rfl ?_
          refine Ex.iand (pc := 72) dX1_goOn_72 ?_
          refine Ex.if_ne (pc := 73) (tgt := 137) dX1_goOn_73 (by decide) (fun c73 => ?_) (fun c73 => ?_)
          · skip
            refine Ex.iinc (pc := 137) (ls' := [some (.ref 30), some (.int _), some (.int _), some (.int _), some (.int _), some (.int _), none]) dX1_goOn_137 rfl rfl (by decide) rfl rfl ?_
            refine Ex.goto (pc := 140) (tgt := 54) dX1_goOn_140 (by decide) ?_
            rw [show nI k + Int32.ofInt 1 = nI (k + 1) from nI_1 k]
            refine Ex.le (ls' := [some (.ref 30), some (.int (nI c)), some (.int tk), some (.int z), some (.int sm), some (.int (nI (k + 1))), none]) ⟨rfl, rfl, rfl, rfl, rfl, rfl, trivial⟩ (ih2 _ ?_)
            dsimp only
            rw [if_pos c73]; exact hI2
          · skip
            refine Ex.aload_n (pc := 76) dX1_goOn_76 rfl rfl ?_
            refine Ex.getR (pc := 77) dX1_goOn_77 fX1_35 (sh30 _) r30_7 ?_
            refine Ex.getR (pc := 80) dX1_goOn_80 fX1_54 (sh10 _) r10_5 ?_
            refine Ex.iload (pc := 83) dX1_goOn_83 rfl ?_
            refine Ex.iald (pc := 85) (j := k) dX1_goOn_85 (sh12 _) (vp_in_nI hk6 (by decide)) (ixN2 (by omega)) ?_
            refine Ex.if_le (pc := 86) (tgt := 137) dX1_goOn_86 (by decide) (fun c86 => ?_) (fun c86 => ?_)
            · skip
              refine Ex.iinc (pc := 137) (ls' := [some (.ref 30), some (.int _), some (.int _), some (.int _), some (.int _), some (.int _), none]) dX1_goOn_137 rfl rfl (by decide) rfl rfl ?_
              refine Ex.goto (pc := 140) (tgt := 54) dX1_goOn_140 (by decide) ?_
              rw [show nI k + Int32.ofInt 1 = nI (k + 1) from nI_1 k]
              refine Ex.le (ls' := [some (.ref 30), some (.int (nI c)), some (.int tk), some (.int z), some (.int sm), some (.int (nI (k + 1))), none]) ⟨rfl, rfl, rfl, rfl, rfl, rfl, trivial⟩ (ih2 _ ?_)
              dsimp only
              rw [e12] at c86
              rw [if_neg (show ¬ ¬ tk >>> (nI k &&& 31) &&& 1 = 0 from fun q => q c73), if_pos c86]; exact hI2
            · skip
              refine Ex.aload_n (pc := 89) dX1_goOn_89 rfl rfl ?_
              refine Ex.iload (pc := 90) dX1_goOn_90 rfl ?_
              refine Ex.iload_n (pc := 92) dX1_goOn_92 rfl rfl ?_
              refine Ex.callV (pc := 93) (As := [.int _, .int _]) (rest := []) dX1_goOn_93 cX1_57 (t_look (p := p) (b := b) (st := k) hp2 hb hk6 h302 hkn2) (sh30 _) rfl rfl (by omega) (Nat.le_refl _) (Nat.le_refl _) (Nat.le_of_ble_eq_true rfl) (Or.inl (fun r S' h => by obtain ⟨_, _, h, _⟩ := h; subst h; rfl)) (fun r S' hq _ _ => ?_)
              obtain ⟨I3, rfl, rfl, hS3, hk3⟩ := hq
              rw [hlk2] at hk3 ⊢
              have hI3 := hI2.sm hS3 hk3
              refine Ex.istore (pc := 96) (ls' := [some (.ref 30), some (.int _), some (.int _), some (.int _), some (.int _), some (.int _), some (.int _)]) dX1_goOn_96 (by decide) rfl rfl ?_
              refine Ex.iload (pc := 98) dX1_goOn_98 rfl ?_
              refine Ex.if_le (pc := 100) (tgt := 137) dX1_goOn_100 (by decide) (fun c100 => ?_) (fun c100 => ?_)
              · skip
                refine Ex.iinc (pc := 137) (ls' := [some (.ref 30), some (.int _), some (.int _), some (.int _), some (.int _), some (.int _), some (.int _)]) dX1_goOn_137 rfl rfl (by decide) rfl rfl ?_
                refine Ex.goto (pc := 140) (tgt := 54) dX1_goOn_140 (by decide) ?_
                rw [show nI k + Int32.ofInt 1 = nI (k + 1) from nI_1 k]
                refine Ex.le (ls' := [some (.ref 30), some (.int (nI c)), some (.int tk), some (.int z), some (.int sm), some (.int (nI (k + 1))), none]) ⟨rfl, rfl, rfl, rfl, rfl, rfl, trivial⟩ (ih2 _ ?_)
                dsimp only
                rw [e12] at c86
                rw [if_neg (show ¬ ¬ tk >>> (nI k &&& 31) &&& 1 = 0 from fun q => q c73), if_neg c86, if_pos c100]; exact hI3
              · skip
                refine Ex.aload_n (pc := 103) dX1_goOn_103 rfl rfl ?_
                refine Ex.getR (pc := 104) dX1_goOn_104 fX1_25 (sh30 _) r30_4 ?_
                refine Ex.iload_n (pc := 107) dX1_goOn_107 rfl rfl ?_
                refine Ex.iload (pc := 108) dX1_goOn_108 rfl ?_
                refine Ex.iast (pc := 110) (j := c) dX1_goOn_110 (sh32 _) (vp_in_nI (by omega) (by decide)) (ixN2 (by omega)) ?_
                refine Ex.aload_n (pc := 111) dX1_goOn_111 rfl rfl ?_
                refine Ex.iload_n (pc := 112) dX1_goOn_112 rfl rfl ?_
                refine Ex.iconst (pc := 113) (v := 1) dX1_goOn_113 rfl ?_
                refine Ex.iadd (pc := 114) dX1_goOn_114 ?_
                refine Ex.iload_n (pc := 115) dX1_goOn_115 rfl rfl ?_
                refine Ex.iconst (pc := 116) (v := 1) dX1_goOn_116 rfl ?_
                refine Ex.iload (pc := 117) dX1_goOn_117 rfl ?_
                refine Ex.ishl (pc := 119) dX1_goOn_119 ?_
                refine Ex.ior (pc := 120) dX1_goOn_120 ?_
                refine Ex.iload (pc := 121) dX1_goOn_121 rfl ?_
                refine Ex.bipush (pc := 123) (v := 100) dX1_goOn_123 rfl ?_
                refine Ex.irem (pc := 125) dX1_goOn_125 (by decide) ?_
                refine Ex.iload (pc := 126) dX1_goOn_126 rfl ?_
                refine Ex.iload (pc := 128) dX1_goOn_128 rfl ?_
                refine Ex.bipush (pc := 130) (v := 100) dX1_goOn_130 rfl ?_
                refine Ex.idiv (pc := 132) dX1_goOn_132 (by decide) ?_
                refine Ex.iadd (pc := 133) dX1_goOn_133 ?_
                rw [show nI c + 1 = nI (c + 1) from nI_1 c]
                have hS5 := (hI3.try (i := c) (v := nI k)).1
                have hlk5 : lookV p (va_up I3 32 (upd (I3 32) c (nI k)) 5) (va_up I3 32 (upd (I3 32) c (nI k)) 6) (xOf (va_up I3 32 (upd (I3 32) c (nI k))) 10) b = lk := by rw [hlk]; exact look_sm hS5 (by decide) (by decide) (by decide) (by decide) (by decide)
                have hkn5 : KnR (va_up I3 32 (upd (I3 32) c (nI k))) (lookV p (va_up I3 32 (upd (I3 32) c (nI k)) 5) (va_up I3 32 (upd (I3 32) c (nI k)) 6) (xOf (va_up I3 32 (upd (I3 32) c (nI k))) 10) b) := by rw [hlk5]; exact (hI3.try (i := c) (v := nI k)).2.2.2.2.2.2
                refine Ex.callV (pc := 134) (As := [.int _, .int _, .int _, .int _]) (rest := []) dX1_goOn_134 cX1_44 (ih (c + 1) _ _ _ _ (hp.sm ((hI3.try (i := c) (v := nI k)).1) (by decide) (by decide) (by decide) (by decide)) ((hI3.try (i := c) (v := nI k)).2.1.trans h30) hkn5 (by omega) (by omega)) (sh30 _) rfl rfl (by omega) (Nat.le_refl _) (Nat.le_refl _) (Nat.le_of_ble_eq_true rfl) (Or.inl (fun r S' h => by obtain ⟨_, _, h, _⟩ := h; subst h; rfl)) (fun r S' hq _ _ => ?_)
                obtain ⟨I5, rfl, rfl, hI5⟩ := hq
                rw [hlk5] at hI5
                refine Ex.iinc (pc := 137) (ls' := [some (.ref 30), some (.int _), some (.int _), some (.int _), some (.int _), some (.int _), some (.int _)]) dX1_goOn_137 rfl rfl (by decide) rfl rfl ?_
                refine Ex.goto (pc := 140) (tgt := 54) dX1_goOn_140 (by decide) ?_
                rw [show nI k + Int32.ofInt 1 = nI (k + 1) from nI_1 k]
                refine Ex.le (ls' := [some (.ref 30), some (.int (nI c)), some (.int tk), some (.int z), some (.int sm), some (.int (nI (k + 1))), none]) ⟨rfl, rfl, rfl, rfl, rfl, rfl, trivial⟩ (ih2 _ ?_)
                dsimp only
                rw [e12] at c86
                rw [if_neg (show ¬ ¬ tk >>> (nI k &&& 31) &&& 1 = 0 from fun q => q c73), if_neg c86, if_neg c100]
                have h1 := hI3.try (i := c) (v := nI k)
                have h2 := h1.tr hI5
                rw [h1.of, va_up_n (show (12 : Nat) ≠ 32 by decide), hS3 12 (by decide), e12] at h2
                exact h2
    refine Ex.iload_n (pc := 0) dX1_goOn_0 rfl rfl ?_
    refine Ex.aload_n (pc := 1) dX1_goOn_1 rfl rfl ?_
    refine Ex.getI (pc := 2) dX1_goOn_2 fX1_15 (sh30 _) ?_
    refine Ex.icmp_gt (pc := 5) (tgt := 25) dX1_goOn_5 (by decide) (fun c5 => ?_) (fun c5 => ?_)
    · skip
      refine Ex.aload_n (pc := 25) dX1_goOn_25 rfl rfl ?_
      refine Ex.iload_n (pc := 26) dX1_goOn_26 rfl rfl ?_
      refine Ex.putI (pc := 27) dX1_goOn_27 fX1_15 (sh30 _) (Or.inl rfl) ⟨rfl, rfl⟩ ?_
      refine Ex.aload_n (pc := 30) dX1_goOn_30 rfl rfl ?_
      refine Ex.iload (pc := 31) dX1_goOn_31 rfl ?_
      refine Ex.putI (pc := 33) dX1_goOn_33 fX1_18 (sh30 _) (Or.inl rfl) ⟨rfl, rfl⟩ ?_
      refine Ex.aload_n (pc := 36) dX1_goOn_36 rfl rfl ?_
      refine Ex.getR (pc := 37) dX1_goOn_37 fX1_25 (sh30 _) r30_4 ?_
      refine Ex.iconst (pc := 40) (v := 0) dX1_goOn_40 rfl ?_
      refine Ex.aload_n (pc := 41) dX1_goOn_41 rfl rfl ?_
      refine Ex.getR (pc := 42) dX1_goOn_42 fX1_21 (sh30 _) r30_3 ?_
      refine Ex.iconst (pc := 45) (v := 0) dX1_goOn_45 rfl ?_
      refine Ex.bipush (pc := 46) (v := 6) dX1_goOn_46 rfl ?_
      refine Ex.copyI (pc := 48) dX1_goOn_48 kl_X1_48 (sh32 _) (sh31 _) (by decide) (by decide) (by decide) (by decide) (by decide) (by omega) (Nat.le_of_ble_eq_true rfl) ?_
      refine Ex.iconst (pc := 51) (v := 0) dX1_goOn_51 rfl ?_
      refine Ex.istore (pc := 52) (ls' := [some (.ref 30), some (.int _), some (.int _), some (.int _), some (.int _), some (.int 0), none]) dX1_goOn_52 (by decide) rfl rfl ?_
      refine Ex.le (ls' := [some (.ref 30), some (.int (nI c)), some (.int tk), some (.int z), some (.int sm), some (.int (nI 0)), none]) ⟨rfl, rfl, rfl, rfl, rfl, rfl, trivial⟩ (hloop _ ?_)
      unfold heT
      rw [if_pos (show (heOf I).1 < nI c from c5)]
      refine ⟨((Sm.rf.up (by decide)).up (by decide)).up (by decide), ?_, ?_, ?_, ?_, ?_, ?_⟩
      · rw [va_up_n (by decide), va_up_s, upd_n (by decide), va_up_s, upd_n (by decide)]
      · rw [va_up_n (by decide), va_up_s, upd_n (by decide), va_up_s, upd_s]
      · rw [va_up_n (by decide), va_up_s, upd_s]
      · rw [va_up_s, va_up_n (by decide), va_up_n (by decide), va_up_n (by decide), va_up_n (by decide)]; rfl
      · rw [va_up_n (by decide), va_up_n (by decide), va_up_n (by decide)]; rfl
      · intro s zz h1 h2 h3; rw [va_up_n (by decide), va_up_n (by decide), va_up_n (by decide)]; exact hk s zz h1 h2 h3
    · skip
      refine Ex.iload_n (pc := 8) dX1_goOn_8 rfl rfl ?_
      refine Ex.aload_n (pc := 9) dX1_goOn_9 rfl rfl ?_
      refine Ex.getI (pc := 10) dX1_goOn_10 fX1_15 (sh30 _) ?_
      refine Ex.icmp_ne (pc := 13) (tgt := 51) dX1_goOn_13 (by decide) (fun c13 => ?_) (fun c13 => ?_)
      · skip
        refine Ex.iconst (pc := 51) (v := 0) dX1_goOn_51 rfl ?_
        refine Ex.istore (pc := 52) (ls' := [some (.ref 30), some (.int _), some (.int _), some (.int _), some (.int _), some (.int 0), none]) dX1_goOn_52 (by decide) rfl rfl ?_
        refine Ex.le (ls' := [some (.ref 30), some (.int (nI c)), some (.int tk), some (.int z), some (.int sm), some (.int (nI 0)), none]) ⟨rfl, rfl, rfl, rfl, rfl, rfl, trivial⟩ (hloop _ ?_)
        unfold heT
        rw [if_neg (show ¬ (heOf I).1 < nI c from c5), if_pos (show ¬ nI c = (heOf I).1 from c13)]
        exact ⟨Sm.rf, rfl, rfl, rfl, rfl, rfl, hk⟩
      · skip
        refine Ex.iload (pc := 16) dX1_goOn_16 rfl ?_
        refine Ex.aload_n (pc := 18) dX1_goOn_18 rfl rfl ?_
        refine Ex.getI (pc := 19) dX1_goOn_19 fX1_18 (sh30 _) ?_
        refine Ex.icmp_ge (pc := 22) (tgt := 51) dX1_goOn_22 (by decide) (fun c22 => ?_) (fun c22 => ?_)
        · skip
          refine Ex.iconst (pc := 51) (v := 0) dX1_goOn_51 rfl ?_
          refine Ex.istore (pc := 52) (ls' := [some (.ref 30), some (.int _), some (.int _), some (.int _), some (.int _), some (.int 0), none]) dX1_goOn_52 (by decide) rfl rfl ?_
          refine Ex.le (ls' := [some (.ref 30), some (.int (nI c)), some (.int tk), some (.int z), some (.int sm), some (.int (nI 0)), none]) ⟨rfl, rfl, rfl, rfl, rfl, rfl, trivial⟩ (hloop _ ?_)
          unfold heT
          rw [if_neg (show ¬ (heOf I).1 < nI c from c5), if_neg (show ¬ ¬ nI c = (heOf I).1 from fun q => q c13), if_pos (show (heOf I).2.1 ≤ sm from c22)]
          exact ⟨Sm.rf, rfl, rfl, rfl, rfl, rfl, hk⟩
        · skip
          refine Ex.aload_n (pc := 25) dX1_goOn_25 rfl rfl ?_
          refine Ex.iload_n (pc := 26) dX1_goOn_26 rfl rfl ?_
          refine Ex.putI (pc := 27) dX1_goOn_27 fX1_15 (sh30 _) (Or.inl rfl) ⟨rfl, rfl⟩ ?_
          refine Ex.aload_n (pc := 30) dX1_goOn_30 rfl rfl ?_
          refine Ex.iload (pc := 31) dX1_goOn_31 rfl ?_
          refine Ex.putI (pc := 33) dX1_goOn_33 fX1_18 (sh30 _) (Or.inl rfl) ⟨rfl, rfl⟩ ?_
          refine Ex.aload_n (pc := 36) dX1_goOn_36 rfl rfl ?_
          refine Ex.getR (pc := 37) dX1_goOn_37 fX1_25 (sh30 _) r30_4 ?_
          refine Ex.iconst (pc := 40) (v := 0) dX1_goOn_40 rfl ?_
          refine Ex.aload_n (pc := 41) dX1_goOn_41 rfl rfl ?_
          refine Ex.getR (pc := 42) dX1_goOn_42 fX1_21 (sh30 _) r30_3 ?_
          refine Ex.iconst (pc := 45) (v := 0) dX1_goOn_45 rfl ?_
          refine Ex.bipush (pc := 46) (v := 6) dX1_goOn_46 rfl ?_
          refine Ex.copyI (pc := 48) dX1_goOn_48 kl_X1_48 (sh32 _) (sh31 _) (by decide) (by decide) (by decide) (by decide) (by decide) (by omega) (Nat.le_of_ble_eq_true rfl) ?_
          refine Ex.iconst (pc := 51) (v := 0) dX1_goOn_51 rfl ?_
          refine Ex.istore (pc := 52) (ls' := [some (.ref 30), some (.int _), some (.int _), some (.int _), some (.int _), some (.int 0), none]) dX1_goOn_52 (by decide) rfl rfl ?_
          refine Ex.le (ls' := [some (.ref 30), some (.int (nI c)), some (.int tk), some (.int z), some (.int sm), some (.int (nI 0)), none]) ⟨rfl, rfl, rfl, rfl, rfl, rfl, trivial⟩ (hloop _ ?_)
          unfold heT
          rw [if_neg (show ¬ (heOf I).1 < nI c from c5), if_neg (show ¬ ¬ nI c = (heOf I).1 from fun q => q c13), if_neg (show ¬ (heOf I).2.1 ≤ sm from c22)]
          refine ⟨((Sm.rf.up (by decide)).up (by decide)).up (by decide), ?_, ?_, ?_, ?_, ?_, ?_⟩
          · rw [va_up_n (by decide), va_up_s, upd_n (by decide), va_up_s, upd_n (by decide)]
          · rw [va_up_n (by decide), va_up_s, upd_n (by decide), va_up_s, upd_s]
          · rw [va_up_n (by decide), va_up_s, upd_s]
          · rw [va_up_s, va_up_n (by decide), va_up_n (by decide), va_up_n (by decide), va_up_n (by decide)]; rfl
          · rw [va_up_n (by decide), va_up_n (by decide), va_up_n (by decide)]; rfl
          · intro s zz h1 h2 h3; rw [va_up_n (by decide), va_up_n (by decide), va_up_n (by decide)]; exact hk s zz h1 h2 h3
