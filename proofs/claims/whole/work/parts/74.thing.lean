def letR : Er → List Nat
  | .error _ => []
  | .ok (t, _) => t.2.2.1
def lenR : Er → Nat
  | .error _ => 0
  | .ok (_, c) => c.length
def plT (pl : Pl) (q : Nat) (l : List Nat) (a b : Nat) : Pl :=
  (fun i => if i = q then pl.1 q + 1 else pl.1 i, fun i j => if i = q ∧ j = pl.1 q then l else pl.2.1 i j, fun i j => if i = q ∧ j = pl.1 q then a else pl.2.2.1 i j, fun i j => if i = q ∧ j = pl.1 q then b else pl.2.2.2.1 i j, pl.2.2.2.2)
def thR (tb : Nat → Nat) (n q w hi : Nat) (pl : Pl) (r : Er) : Er × Er × Er :=
  (tkO tb n w (tkN tb n pl r), tkO tb n (w + 1) (tkV tb n (if q = 0 then 1 else 0) hi (tkO tb n w (tkN tb n pl r))), tkV tb n (if q = 0 then 1 else 0) (if q = 0 then 99 else 9) (tkO tb n (w + 1) (tkV tb n (if q = 0 then 1 else 0) hi (tkO tb n w (tkN tb n pl r)))))
theorem tkV_ok {tb : Nat → Nat} {n lo hi : Nat} {r : Er} {s : Tk × Cd} (h : tkV tb n lo hi r = .ok s) : isK 3 r = true ∧ lo ≤ numR r ∧ numR r ≤ hi ∧ nx tb n r = .ok s := by
  unfold tkV at h
  by_cases h1 : isK 3 r = true
  · rw [if_pos h1] at h
    by_cases h2 : numR r < lo ∨ hi < numR r
    · rw [if_pos h2] at h
      cases r with
      | error e => cases h
      | ok q => obtain ⟨t, c⟩ := q; cases h
    · rw [if_neg h2] at h
      exact ⟨h1, by omega, by omega, h⟩
  · rw [if_neg h1] at h
    cases r with
    | error e => cases h
    | ok q => obtain ⟨t, c⟩ := q; cases h
theorem tkO_ok {tb : Nat → Nat} {n k : Nat} {r : Er} {s : Tk × Cd} (h : tkO tb n k r = .ok s) : isW k r = true ∧ nx tb n r = .ok s := by
  unfold tkO at h
  by_cases h1 : isW k r = true
  · rw [if_pos h1] at h; exact ⟨h1, h⟩
  · rw [if_neg h1] at h
    cases r with
    | error e => cases h
    | ok q => obtain ⟨t, c⟩ := q; cases h
theorem tkS_ok {tb : Nat → Nat} {n k : Nat} {r : Er} {s : Tk × Cd} (h : tkS tb n k r = .ok s) : isS k r = true ∧ nx tb n r = .ok s := by
  unfold tkS at h
  by_cases h1 : isS k r = true
  · rw [if_pos h1] at h; exact ⟨h1, h⟩
  · rw [if_neg h1] at h
    cases r with
    | error e => cases h
    | ok q => obtain ⟨t, c⟩ := q; cases h
theorem isW_ok {k : Nat} {r : Er} (h : isW k r = true) : ∃ t c, r = .ok (t, c) ∧ t.1 = 2 ∧ ownW t.2.2.1 = nI k := by
  cases r with
  | error e => cases h
  | ok q => obtain ⟨t, c⟩ := q; have := of_decide_eq_true h; exact ⟨t, c, rfl, this.1, this.2⟩
theorem isK_ok {k : Nat} {r : Er} (h : isK k r = true) : ∃ t c, r = .ok (t, c) ∧ t.1 = k := by
  cases r with
  | error e => cases h
  | ok q => obtain ⟨t, c⟩ := q; exact ⟨t, c, rfl, of_decide_eq_true h⟩
theorem tkN_ok {tb : Nat → Nat} {n : Nat} {pl : Pl} {r : Er} {s : Tk × Cd} (h : tkN tb n pl r = .ok s) : ∃ t c, r = .ok (t, c) ∧ t.1 = 2 ∧ ownW t.2.2.1 = -1 ∧ brB pl.1 (fun i => nI (n5 (pl.2.1 (i / 6) (i % 6)))) (nI (n5 t.2.2.1)) = false ∧ nx tb n r = .ok s := by
  cases r with
  | error e => cases h
  | ok q =>
    obtain ⟨t, c⟩ := q
    have h : (if t.1 = 2 ∧ ownW t.2.2.1 = -1 then (if brB pl.1 (fun i => nI (n5 (pl.2.1 (i / 6) (i % 6)))) (nI (n5 t.2.2.1)) = true then stp 2 (.ok (t, c)) else nx tb n (.ok (t, c))) else stp 1 (.ok (t, c))) = .ok s := h
    by_cases h1 : t.1 = 2 ∧ ownW t.2.2.1 = -1
    · rw [if_pos h1] at h
      by_cases h2 : brB pl.1 (fun i => nI (n5 (pl.2.1 (i / 6) (i % 6)))) (nI (n5 t.2.2.1)) = true
      · rw [if_pos h2] at h; cases h
      · rw [if_neg h2] at h
        exact ⟨t, c, rfl, h1.1, h1.2, Bool.eq_false_iff.mpr h2, h⟩
    · rw [if_neg h1] at h; cases h
theorem PlO.add {I I2 : aI} {pl : Pl} {q a b : Nat} {l : List Nat} (h : PlO I pl) (hq : q < 3) (hk : pl.1 q < 6) (hl : okN l) (hS : Sm [83, 84, 85, 86] I I2) (e3 : I2 83 = upd (I 83) q (nI (pl.1 q + 1))) (e4 : I2 84 = upd (I 84) (6 * q + pl.1 q) (nI (n5 l))) (e5 : I2 85 = upd (I 85) (6 * q + pl.1 q) (nI a)) (e6 : I2 86 = upd (I 86) (6 * q + pl.1 q) (nI b)) : PlO I2 (plT pl q l a b) := by
  obtain ⟨h1, h2, h3, h4⟩ := h
  refine ⟨fun i hi => ?_, by rw [hS 82 (by decide)]; exact h2, by rw [hS 82 (by decide)]; exact h3, fun r hr => by rw [hS 87 (by decide), hS 88 (by decide)]; exact h4 r hr⟩
  obtain ⟨g1, g2, g3⟩ := h1 i hi
  by_cases e : i = q
  · subst e
    have ec : (plT pl i l a b).1 i = pl.1 i + 1 := by show (if i = i then _ else _) = _; rw [if_pos rfl]
    rw [ec]
    refine ⟨by rw [e3, upd_s], by omega, fun j => ⟨fun hj => ?_, fun h1 h2 => ?_⟩⟩
    · by_cases ej : j = pl.1 i
      · subst ej
        have n1 : (plT pl i l a b).2.1 i (pl.1 i) = l := by show (if i = i ∧ pl.1 i = pl.1 i then _ else _) = _; rw [if_pos ⟨rfl, rfl⟩]
        have n2 : (plT pl i l a b).2.2.1 i (pl.1 i) = a := by show (if i = i ∧ pl.1 i = pl.1 i then _ else _) = _; rw [if_pos ⟨rfl, rfl⟩]
        have n3 : (plT pl i l a b).2.2.2.1 i (pl.1 i) = b := by show (if i = i ∧ pl.1 i = pl.1 i then _ else _) = _; rw [if_pos ⟨rfl, rfl⟩]
        rw [n1, n2, n3, e4, e5, e6, upd_s, upd_s, upd_s]
        exact ⟨hl, rfl, rfl, rfl⟩
      · have n1 : (plT pl i l a b).2.1 i j = pl.2.1 i j := by show (if i = i ∧ j = pl.1 i then _ else _) = _; rw [if_neg (fun q => ej q.2)]
        have n2 : (plT pl i l a b).2.2.1 i j = pl.2.2.1 i j := by show (if i = i ∧ j = pl.1 i then _ else _) = _; rw [if_neg (fun q => ej q.2)]
        have n3 : (plT pl i l a b).2.2.2.1 i j = pl.2.2.2.1 i j := by show (if i = i ∧ j = pl.1 i then _ else _) = _; rw [if_neg (fun q => ej q.2)]
        rw [n1, n2, n3, e4, e5, e6, upd_n (by omega), upd_n (by omega), upd_n (by omega)]
        exact (g3 j).1 (by omega)
    · rw [e5, e6, upd_n (by omega), upd_n (by omega)]
      exact (g3 j).2 (by omega) h2
  · have ec : (plT pl q l a b).1 i = pl.1 i := by show (if i = q then _ else _) = _; rw [if_neg e]
    rw [ec]
    refine ⟨by rw [e3, upd_n e]; exact g1, g2, fun j => ⟨fun hj => ?_, fun h1 h2 => ?_⟩⟩
    · have n1 : (plT pl q l a b).2.1 i j = pl.2.1 i j := by show (if i = q ∧ _ then _ else _) = _; rw [if_neg (fun z => e z.1)]
      have n2 : (plT pl q l a b).2.2.1 i j = pl.2.2.1 i j := by show (if i = q ∧ _ then _ else _) = _; rw [if_neg (fun z => e z.1)]
      have n3 : (plT pl q l a b).2.2.2.1 i j = pl.2.2.2.1 i j := by show (if i = q ∧ _ then _ else _) = _; rw [if_neg (fun z => e z.1)]
      rw [n1, n2, n3, e4, e5, e6, upd_n (by omega), upd_n (by omega), upd_n (by omega)]
      exact (g3 j).1 hj
    · rw [e5, e6, upd_n (by omega), upd_n (by omega)]
      exact (g3 j).2 h1 h2
theorem Pz.sm {tb : Nat → Nat} {n : Nat} {Ib I I2 : aI} {r : Er} {pl pl2 : Pl} {l : List Nat} (h : Pz tb n Ib I r pl) (hS : Sm l I I2) (hl : ∀ a ∈ l, a ∈ Al ∧ a ≠ 81 ∧ a ≠ 82 ∧ a ≠ 89) (hp : PlR I2 pl2 r) : Pz tb n Ib I2 r pl2 := by
  obtain ⟨g1, ⟨b1, b2, b3⟩, g3, g4⟩ := h
  have n81 : 81 ∉ l := fun q => (hl _ q).2.1 rfl
  have n82 : 82 ∉ l := fun q => (hl _ q).2.2.1 rfl
  have n89 : 89 ∉ l := fun q => (hl _ q).2.2.2 rfl
  have n1 : 1 ∉ l := fun q => by have := (hl _ q).1; revert this; decide
  refine ⟨⟨g1.1.tr hS (fun _ q => q) (fun a q => (hl a q).1), by rw [hS 82 n82]; exact g1.2⟩, ⟨b1.sm hS n1, by rw [hS 81 n81]; exact b2, b3⟩, ?_, hp⟩
  cases r with
  | error e =>
    have g3 : PxE n I e := g3
    show PxE n I2 e
    unfold PxE
    rw [hS 81 n81, hS 82 n82]
    exact g3
  | ok q =>
    obtain ⟨t, c⟩ := q
    have g3 : PxO n I 0 false t c := g3
    show PxO n I2 0 false t c
    unfold PxO TkC
    rw [hS 81 n81, hS 82 n82, hS 89 n89]
    exact g3
set_option maxRecDepth 20000 in
theorem t_thing {N n q w hi : Nat} {I Ib : aI} {L : aL} {tb : Nat → Nat} {r : Er} {pl : Pl} (h : Pz tb n Ib I r pl) (hq : q < 3) (hw : w < 100) (hhi : hi < 10000) (hnf : ∀ s, r = .ok s → pl.1 q < 6) : Run 7 0 0 mX4_readThing [.ref 81, .int (nI q), .int (nI w), .int (nI hi)] (St2 N n I L) (RP2 none N n L (fun I2 => Pz tb n Ib I2 ((thR tb n q w hi pl r).2.2) (plT pl q (letR r) (numR (thR tb n q w hi pl r).1) (numR (thR tb n q w hi pl r).2.1)))) := by
  refine Run.of (ls := [some (.ref 81), some (.int _), some (.int _), some (.int _), none, none, none]) (by decide) (Nat.le_of_ble_eq_true rfl) rfl ?_
  obtain ⟨lo, hlo⟩ : ∃ z, z = (if q = 0 then 1 else 0) := ⟨_, rfl⟩
  obtain ⟨h2i, hh2⟩ : ∃ z, z = (if q = 0 then 99 else 9) := ⟨_, rfl⟩
  have hlo2 : lo < 10000 := by rw [hlo]; split <;> decide
  have hh22 : h2i < 10000 := by rw [hh2]; split <;> decide
  have kend : ∀ (x y z : Int32) (I1 : aI), True := fun _ _ _ _ => trivial
  unfold thR
  rw [← hlo, ← hh2]
  generalize hr1 : tkN tb n pl r = r1
  generalize hr2 : tkO tb n w r1 = r2
  generalize hr3 : tkV tb n lo hi r2 = r3
  generalize hr4 : tkO tb n (w + 1) r3 = r4
  generalize hr5 : tkV tb n lo h2i r4 = r5
  refine Ex.aload_n (pc := 0) dX4_readThing_0 rfl rfl ?_
  refine Ex.callV (pc := 1) (As := []) (rest := []) dX4_readThing_1 cX4_155 (t_tkN h) (s2_81 _ _) rfl rfl (by decide) (Nat.le_refl _) (Nat.le_refl _) (Nat.le_of_ble_eq_true rfl) (Or.inl (fun r S' h => by obtain ⟨_, _, _, h⟩ := h; subst h; rfl)) (fun r S' hq _ _ => ?_)
  obtain ⟨x1, I1, ⟨rfl, z1, v1⟩, rfl⟩ := hq
  rw [hr1] at z1
  refine Ex.istore (pc := 4) (ls' := [some (.ref 81), some (.int _), some (.int _), some (.int _), some (.int _), none, none]) dX4_readThing_4 (by decide) rfl rfl ?_
  refine Ex.aload_n (pc := 6) dX4_readThing_6 rfl rfl ?_
  refine Ex.iload_n (pc := 7) dX4_readThing_7 rfl rfl ?_
  refine Ex.callV (pc := 8) (As := [.int _]) (rest := []) dX4_readThing_8 cX4_158 (t_tkO (k := w) z1.2.1 z1.px (by omega)) (s2_81 _ _) rfl rfl (by decide) (Nat.le_refl _) (Nat.le_refl _) (Nat.le_of_ble_eq_true rfl) (Or.inl (fun r S' h => by obtain ⟨_, _, h, _⟩ := h; subst h; rfl)) (fun r S' hq _ _ => ?_)
  obtain ⟨I2, rfl, rfl, p2⟩ := hq
  have z2 := z1.go p2 (fun e q => by rw [q]; rfl)
  rw [hr2] at z2
  refine Ex.aload_n (pc := 11) dX4_readThing_11 rfl rfl ?_
  refine Ex.iload_n (pc := 12) dX4_readThing_12 rfl rfl ?_
  refine Ex.if_ne (pc := 13) (tgt := 20) dX4_readThing_13 (by decide) (fun c13 => ?_) (fun c13 => ?_)
  · skip
    refine Ex.iconst (pc := 20) (v := 0) dX4_readThing_20 rfl ?_
    refine Ex.iload_n (pc := 21) dX4_readThing_21 rfl rfl ?_
    have hq0 : ¬ q = 0 := fun e => c13 (by rw [e]; rfl)
    have hlv : lo = 0 := by rw [hlo, if_neg hq0]
    refine Ex.callV (pc := 22) (As := [.int 0, .int _]) (rest := []) dX4_readThing_22 cX4_121 (t_tkV (lo := 0) (hi := hi) z2.2.1 z2.px (by decide) hhi) (s2_81 _ _) rfl rfl (by decide) (Nat.le_refl _) (Nat.le_refl _) (Nat.le_of_ble_eq_true rfl) (Or.inl (fun r S' h => by obtain ⟨_, _, _, h⟩ := h; subst h; rfl)) (fun r S' hq _ _ => ?_)
    obtain ⟨x3, I3, ⟨rfl, p3, v3⟩, rfl⟩ := hq
    rw [show tkV tb n 0 hi r2 = r3 from by rw [← hr3, hlv]] at p3
    have z3 := z2.go p3 (fun e q => by rw [← hr3, q]; rfl)
    refine Ex.istore (pc := 25) (ls' := [some (.ref 81), some (.int _), some (.int _), some (.int _), some (.int _), some (.int _), none]) dX4_readThing_25 (by decide) rfl rfl ?_
    refine Ex.aload_n (pc := 27) dX4_readThing_27 rfl rfl ?_
    refine Ex.iload_n (pc := 28) dX4_readThing_28 rfl rfl ?_
    refine Ex.iconst (pc := 29) (v := 1) dX4_readThing_29 rfl ?_
    refine Ex.iadd (pc := 30) dX4_readThing_30 ?_
    rw [show nI w + 1 = nI (w + 1) from nI_1 w]
    refine Ex.callV (pc := 31) (As := [.int _]) (rest := []) dX4_readThing_31 cX4_158 (t_tkO (k := w + 1) z3.2.1 z3.px (by omega)) (s2_81 _ _) rfl rfl (by decide) (Nat.le_refl _) (Nat.le_refl _) (Nat.le_of_ble_eq_true rfl) (Or.inl (fun r S' h => by obtain ⟨_, _, h, _⟩ := h; subst h; rfl)) (fun r S' hq _ _ => ?_)
    obtain ⟨I4, rfl, rfl, p4⟩ := hq
    have z4 := z3.go p4 (fun e q => by rw [q]; rfl)
    rw [hr4] at z4
    refine Ex.aload_n (pc := 34) dX4_readThing_34 rfl rfl ?_
    refine Ex.iload_n (pc := 35) dX4_readThing_35 rfl rfl ?_
    refine Ex.if_ne (pc := 36) (tgt := 43) dX4_readThing_36 (by decide) (fun _ => ?_) (fun c36 => absurd c36 c13)
    refine Ex.iconst (pc := 43) (v := 0) dX4_readThing_43 rfl ?_
    refine Ex.iload_n (pc := 44) dX4_readThing_44 rfl rfl ?_
    refine Ex.if_ne (pc := 45) (tgt := 53) dX4_readThing_45 (by decide) (fun _ => ?_) (fun c45 => absurd c45 c13)
    refine Ex.bipush (pc := 53) (v := 9) dX4_readThing_53 rfl ?_
    refine Ex.callV (pc := 55) (As := [.int 0, .int 9]) (rest := []) dX4_readThing_55 cX4_121 (t_tkV (lo := 0) (hi := 9) z4.2.1 z4.px (by decide) (by decide)) (s2_81 _ _) rfl rfl (by decide) (Nat.le_refl _) (Nat.le_refl _) (Nat.le_of_ble_eq_true rfl) (Or.inl (fun r S' h => by obtain ⟨_, _, _, h⟩ := h; subst h; rfl)) (fun r S' hq _ _ => ?_)
    obtain ⟨x5, I5, ⟨rfl, p5, v5⟩, rfl⟩ := hq
    rw [show tkV tb n 0 9 r4 = r5 from by rw [← hr5, hlv, hh2, if_neg hq0]] at p5
    have z5 := z4.go p5 (fun e q => by rw [← hr5, q]; rfl)
    obtain ⟨kq, hkq, ekq⟩ := (z5.2.2.2.x : PlX I5) q hq
    refine Ex.istore (pc := 58) (ls' := [some (.ref 81), some (.int _), some (.int _), some (.int _), some (.int _), some (.int _), some (.int _)]) dX4_readThing_58 (by decide) rfl rfl ?_
    refine Ex.aload_n (pc := 60) dX4_readThing_60 rfl rfl ?_
    refine Ex.getR (pc := 61) dX4_readThing_61 fX4_57 (s2_81 _ _) r2_81_2 ?_
    refine Ex.iload_n (pc := 64) dX4_readThing_64 rfl rfl ?_
    refine Ex.iload (pc := 65) dX4_readThing_65 rfl ?_
    refine Ex.iload (pc := 67) dX4_readThing_67 rfl ?_
    refine Ex.iload (pc := 69) dX4_readThing_69 rfl ?_
    refine Ex.callV (pc := 71) (As := [.int _, .int _, .int _, .int _]) (rest := []) dX4_readThing_71 cX4_161 (t_addThing (q := q) (k := kq) hq ekq hkq) (s2_82 _ _) rfl rfl (by decide) (Nat.le_refl _) (Nat.le_refl _) (Nat.le_of_ble_eq_true rfl) (Or.inl (fun r S' h => by obtain ⟨_, _, h, _⟩ := h; subst h; rfl)) (fun r S' hq _ _ => ?_)
    obtain ⟨I6, rfl, rfl, hS6, hk6, hk5⟩ := hq
    refine Ex.vret (pc := 74) rfl dX4_readThing_74 (Nat.le_refl _) (Nat.le_refl _) ?_
    refine ⟨_, rfl, rfl, z5.sm hS6 (by decide) ?_⟩
    cases r5 with
    | error e =>
      intro i hi2
      obtain ⟨ki, hki, eki⟩ := (z5.2.2.2 : PlX I5) i hi2
      rcases Nat.lt_or_ge kq 6 with z | z
      · by_cases e : i = q
        · exact ⟨kq + 1, by omega, by rw [(hk5 z).1, e, upd_s]⟩
        · exact ⟨ki, hki, by rw [(hk5 z).1, upd_n e]; exact eki⟩
      · rw [hk6 (by omega)]; exact ⟨ki, hki, eki⟩
    | ok s =>
      obtain ⟨w4, l4, u4, n4⟩ := tkV_ok hr5
      obtain ⟨t4, c4, e4, -⟩ := isK_ok w4
      rw [e4] at hr4
      obtain ⟨w3, n3⟩ := tkO_ok hr4
      obtain ⟨t3, c3, e3, -⟩ := isW_ok w3
      rw [e3] at hr3
      obtain ⟨w2, l2, u2, n2⟩ := tkV_ok hr3
      obtain ⟨t2, c2, e2, -⟩ := isK_ok w2
      rw [e2] at hr2
      obtain ⟨w1, n1⟩ := tkO_ok hr2
      obtain ⟨t1, c1, e1, -⟩ := isW_ok w1
      rw [e1] at hr1
      obtain ⟨t0, c0, e0, k0, -⟩ := tkN_ok hr1
      have hPl : PlO I5 pl := z5.2.2.2
      have hkk : kq = pl.1 q := (nI_eq (by omega) (by have := (hPl.1 q hq).2.1; omega)).mp (ekq.symm.trans (hPl.1 q hq).1)
      have hlt : pl.1 q < 6 := hnf _ e0
      obtain ⟨f3, f4, f5, f6⟩ := hk5 (by omega)
      rw [hkk] at f3 f4 f5 f6
      rw [v1 t0 c0 e0 k0] at f4
      rw [v3 w2] at f5
      rw [v5 w4] at f6
      rw [e0]
      refine PlO.add hPl hq hlt ?_ hS6 f3 f4 f5 f6
      rw [e0] at h
      exact (show PxO n I 0 false t0 c0 from h.2.2.1).2.1.2.2.2.2.2.1 k0
  · skip
    refine Ex.iconst (pc := 16) (v := 1) dX4_readThing_16 rfl ?_
    refine Ex.goto (pc := 17) (tgt := 21) dX4_readThing_17 (by decide) ?_
    refine Ex.iload_n (pc := 21) dX4_readThing_21 rfl rfl ?_
    have hq0 : q = 0 := (nI_eq (by omega) (by decide)).mp (show nI q = nI 0 from c13)
    have hlv : lo = 1 := by rw [hlo, if_pos hq0]
    refine Ex.callV (pc := 22) (As := [.int 1, .int _]) (rest := []) dX4_readThing_22 cX4_121 (t_tkV (lo := 1) (hi := hi) z2.2.1 z2.px (by decide) hhi) (s2_81 _ _) rfl rfl (by decide) (Nat.le_refl _) (Nat.le_refl _) (Nat.le_of_ble_eq_true rfl) (Or.inl (fun r S' h => by obtain ⟨_, _, _, h⟩ := h; subst h; rfl)) (fun r S' hq _ _ => ?_)
    obtain ⟨x3, I3, ⟨rfl, p3, v3⟩, rfl⟩ := hq
    rw [show tkV tb n 1 hi r2 = r3 from by rw [← hr3, hlv]] at p3
    have z3 := z2.go p3 (fun e q => by rw [← hr3, q]; rfl)
    refine Ex.istore (pc := 25) (ls' := [some (.ref 81), some (.int _), some (.int _), some (.int _), some (.int _), some (.int _), none]) dX4_readThing_25 (by decide) rfl rfl ?_
    refine Ex.aload_n (pc := 27) dX4_readThing_27 rfl rfl ?_
    refine Ex.iload_n (pc := 28) dX4_readThing_28 rfl rfl ?_
    refine Ex.iconst (pc := 29) (v := 1) dX4_readThing_29 rfl ?_
    refine Ex.iadd (pc := 30) dX4_readThing_30 ?_
    rw [show nI w + 1 = nI (w + 1) from nI_1 w]
    refine Ex.callV (pc := 31) (As := [.int _]) (rest := []) dX4_readThing_31 cX4_158 (t_tkO (k := w + 1) z3.2.1 z3.px (by omega)) (s2_81 _ _) rfl rfl (by decide) (Nat.le_refl _) (Nat.le_refl _) (Nat.le_of_ble_eq_true rfl) (Or.inl (fun r S' h => by obtain ⟨_, _, h, _⟩ := h; subst h; rfl)) (fun r S' hq _ _ => ?_)
    obtain ⟨I4, rfl, rfl, p4⟩ := hq
    have z4 := z3.go p4 (fun e q => by rw [q]; rfl)
    rw [hr4] at z4
    refine Ex.aload_n (pc := 34) dX4_readThing_34 rfl rfl ?_
    refine Ex.iload_n (pc := 35) dX4_readThing_35 rfl rfl ?_
    refine Ex.if_ne (pc := 36) (tgt := 43) dX4_readThing_36 (by decide) (fun c36 => absurd c13 c36) (fun _ => ?_)
    refine Ex.iconst (pc := 39) (v := 1) dX4_readThing_39 rfl ?_
    refine Ex.goto (pc := 40) (tgt := 44) dX4_readThing_40 (by decide) ?_
    refine Ex.iload_n (pc := 44) dX4_readThing_44 rfl rfl ?_
    refine Ex.if_ne (pc := 45) (tgt := 53) dX4_readThing_45 (by decide) (fun c45 => absurd c13 c45) (fun _ => ?_)
    refine Ex.bipush (pc := 48) (v := 99) dX4_readThing_48 rfl ?_
    refine Ex.goto (pc := 50) (tgt := 55) dX4_readThing_50 (by decide) ?_
    refine Ex.callV (pc := 55) (As := [.int 1, .int 99]) (rest := []) dX4_readThing_55 cX4_121 (t_tkV (lo := 1) (hi := 99) z4.2.1 z4.px (by decide) (by decide)) (s2_81 _ _) rfl rfl (by decide) (Nat.le_refl _) (Nat.le_refl _) (Nat.le_of_ble_eq_true rfl) (Or.inl (fun r S' h => by obtain ⟨_, _, _, h⟩ := h; subst h; rfl)) (fun r S' hq _ _ => ?_)
    obtain ⟨x5, I5, ⟨rfl, p5, v5⟩, rfl⟩ := hq
    rw [show tkV tb n 1 99 r4 = r5 from by rw [← hr5, hlv, hh2, if_pos hq0]] at p5
    have z5 := z4.go p5 (fun e q => by rw [← hr5, q]; rfl)
    obtain ⟨kq, hkq, ekq⟩ := (z5.2.2.2.x : PlX I5) q hq
    refine Ex.istore (pc := 58) (ls' := [some (.ref 81), some (.int _), some (.int _), some (.int _), some (.int _), some (.int _), some (.int _)]) dX4_readThing_58 (by decide) rfl rfl ?_
    refine Ex.aload_n (pc := 60) dX4_readThing_60 rfl rfl ?_
    refine Ex.getR (pc := 61) dX4_readThing_61 fX4_57 (s2_81 _ _) r2_81_2 ?_
    refine Ex.iload_n (pc := 64) dX4_readThing_64 rfl rfl ?_
    refine Ex.iload (pc := 65) dX4_readThing_65 rfl ?_
    refine Ex.iload (pc := 67) dX4_readThing_67 rfl ?_
    refine Ex.iload (pc := 69) dX4_readThing_69 rfl ?_
    refine Ex.callV (pc := 71) (As := [.int _, .int _, .int _, .int _]) (rest := []) dX4_readThing_71 cX4_161 (t_addThing (q := q) (k := kq) hq ekq hkq) (s2_82 _ _) rfl rfl (by decide) (Nat.le_refl _) (Nat.le_refl _) (Nat.le_of_ble_eq_true rfl) (Or.inl (fun r S' h => by obtain ⟨_, _, h, _⟩ := h; subst h; rfl)) (fun r S' hq _ _ => ?_)
    obtain ⟨I6, rfl, rfl, hS6, hk6, hk5⟩ := hq
    refine Ex.vret (pc := 74) rfl dX4_readThing_74 (Nat.le_refl _) (Nat.le_refl _) ?_
    refine ⟨_, rfl, rfl, z5.sm hS6 (by decide) ?_⟩
    cases r5 with
    | error e =>
      intro i hi2
      obtain ⟨ki, hki, eki⟩ := (z5.2.2.2 : PlX I5) i hi2
      rcases Nat.lt_or_ge kq 6 with z | z
      · by_cases e : i = q
        · exact ⟨kq + 1, by omega, by rw [(hk5 z).1, e, upd_s]⟩
        · exact ⟨ki, hki, by rw [(hk5 z).1, upd_n e]; exact eki⟩
      · rw [hk6 (by omega)]; exact ⟨ki, hki, eki⟩
    | ok s =>
      obtain ⟨w4, l4, u4, n4⟩ := tkV_ok hr5
      obtain ⟨t4, c4, e4, -⟩ := isK_ok w4
      rw [e4] at hr4
      obtain ⟨w3, n3⟩ := tkO_ok hr4
      obtain ⟨t3, c3, e3, -⟩ := isW_ok w3
      rw [e3] at hr3
      obtain ⟨w2, l2, u2, n2⟩ := tkV_ok hr3
      obtain ⟨t2, c2, e2, -⟩ := isK_ok w2
      rw [e2] at hr2
      obtain ⟨w1, n1⟩ := tkO_ok hr2
      obtain ⟨t1, c1, e1, -⟩ := isW_ok w1
      rw [e1] at hr1
      obtain ⟨t0, c0, e0, k0, -⟩ := tkN_ok hr1
      have hPl : PlO I5 pl := z5.2.2.2
      have hkk : kq = pl.1 q := (nI_eq (by omega) (by have := (hPl.1 q hq).2.1; omega)).mp (ekq.symm.trans (hPl.1 q hq).1)
      have hlt : pl.1 q < 6 := hnf _ e0
      obtain ⟨f3, f4, f5, f6⟩ := hk5 (by omega)
      rw [hkk] at f3 f4 f5 f6
      rw [v1 t0 c0 e0 k0] at f4
      rw [v3 w2] at f5
      rw [v5 w4] at f6
      rw [e0]
      refine PlO.add hPl hq hlt ?_ hS6 f3 f4 f5 f6
      rw [e0] at h
      exact (show PxO n I 0 false t0 c0 from h.2.2.1).2.1.2.2.2.2.2.1 k0
