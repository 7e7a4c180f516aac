theorem foF_rng (v : Int32) : ∀ f i, foF v f i = -1 ∨ ∃ j, i ≤ j ∧ j < i + f ∧ foF v f i = nI j
  | 0, _ => Or.inl rfl
  | f + 1, i => by
    simp only [foF]
    split
    · exact Or.inr ⟨i, Nat.le_refl _, by omega, rfl⟩
    · rcases foF_rng v f (i + 1) with h | ⟨j, h1, h2, h3⟩
      · exact Or.inl h
      · exact Or.inr ⟨j, by omega, by omega, h3⟩
def ownN (l : List Nat) : Nat := if ownW l = -1 then 99 else (ownW l).toNatClampNeg
theorem own_c (l : List Nat) : (ownW l = -1 ∧ ownN l = 99) ∨ (ownN l < 27 ∧ ownW l = nI (ownN l)) := by
  rcases foF_rng (nI (n5 l)) 27 0 with h | ⟨j, h1, h2, h3⟩
  · have e : ownW l = -1 := h
    exact Or.inl ⟨e, by unfold ownN; rw [if_pos e]⟩
  · have e : ownW l = nI j := h3
    have hn : ¬ ownW l = -1 := fun q => absurd (show nI j < 0 from by rw [← e, q]; decide) (nI_pos (by omega))
    have e2 : ownN l = j := by unfold ownN; rw [if_neg hn, e, nI_clamp (by omega)]
    exact Or.inr ⟨by omega, by rw [e2]; exact e⟩
def isNm (sc : Nat) : Er → Bool
  | .error _ => false
  | .ok (t, _) => decide (t.1 = 2) && mayW (ownW t.2.2.1) sc
def numR : Er → Nat
  | .error _ => 0
  | .ok (t, _) => t.2.1
def ownR : Er → Nat
  | .error _ => 0
  | .ok (t, _) => ownN t.2.2.1
def lesF (tb : Nat → Nat) (n o : Nat) (sm : Er → Er) (r : Er) : Er :=
  if isS 40 (nx tb n r) = true then (if 7 ≤ o then stp 5 (nx tb n r) else adS (if isW 25 r = true then 7 else 8, 0) (tkS tb n 41 (sm (tkS tb n 44 (sm (nx tb n (nx tb n r))))))) else stp 1 (nx tb n r)
def choF (tb : Nat → Nat) (n o : Nat) (sm te : Er → Er) (r : Er) : Er :=
  if isS 40 (nx tb n r) = true then (if 7 ≤ o then stp 5 (nx tb n r) else adS (15, 0) (tkS tb n 41 (sm (tkS tb n 44 (sm (tkS tb n 44 (te (nx tb n (nx tb n r))))))))) else stp 1 (nx tb n r)
def partF (tb : Nat → Nat) (n sc o : Nat) (sm te : Er → Er) (r : Er) : Er :=
  if isK 3 r = true then nx tb n (adS (0, numR r) r)
  else if isNm sc r = true then nx tb n (adS (1, ownR r) r)
  else if (isW 25 r || isW 26 r) = true then lesF tb n o sm r
  else if isW 20 r = true then choF tb n o sm te r
  else if isS 40 r = true then (if 7 ≤ o then stp 5 r else tkS tb n 41 (sm (nx tb n r)))
  else stp 1 r
def opP (r : Er) : Nat := if isS 42 r = true then 4 else if isS 47 r = true then 5 else 6
def opS (r : Er) : Nat := if isS 43 r = true then 2 else 3
def opC (r : Er) : Nat := if isS 60 r = true then 9 else if isS 62 r = true then 10 else 11
def prodL (tb : Nat → Nat) (n : Nat) (pt : Er → Er) : Nat → Er → Er
  | 0, r => r
  | f + 1, r => if (isS 42 r || (isS 47 r || isS 37 r)) = true then prodL tb n pt f (adS (opP r, 0) (pt (nx tb n r))) else r
def prodF (tb : Nat → Nat) (n : Nat) (pt : Er → Er) (r : Er) : Er := prodL tb n pt n (pt r)
def sumL (tb : Nat → Nat) (n : Nat) (pt : Er → Er) : Nat → Er → Er
  | 0, r => r
  | f + 1, r => if (isS 43 r || isS 45 r) = true then sumL tb n pt f (adS (opS r, 0) (pt (nx tb n r))) else r
def sumF (tb : Nat → Nat) (n : Nat) (pt : Er → Er) (r : Er) : Er := sumL tb n pt n (pt r)
def wordL (tb : Nat → Nat) (n w k : Nat) (pt : Er → Er) : Nat → Er → Er
  | 0, r => r
  | f + 1, r => if isW w r = true then wordL tb n w k pt f (adS (k, 0) (pt (nx tb n r))) else r
def bothF (tb : Nat → Nat) (n : Nat) (pt : Er → Er) (r : Er) : Er := wordL tb n 22 13 pt n (pt r)
def testF (tb : Nat → Nat) (n : Nat) (pt : Er → Er) (r : Er) : Er := wordL tb n 21 12 pt n (pt r)
def compF (tb : Nat → Nat) (n : Nat) (sm : Er → Er) (r : Er) : Er :=
  if (isS 60 (sm r) || (isS 62 (sm r) || isS 61 (sm r))) = true then adS (opC (sm r), 0) (sm (nx tb n (sm r))) else stp 1 (sm r)
def factF (tb : Nat → Nat) (n o : Nat) (fa te cm : Er → Er) (r : Er) : Er :=
  if isW 23 r = true then (if 7 ≤ o then stp 5 r else adS (14, 0) (fa (nx tb n r)))
  else if isS 91 r = true then (if 7 ≤ o then stp 5 r else tkS tb n 93 (te (nx tb n r)))
  else if isW 24 r = true then nx tb n (adS (0, 1) r)
  else cm r
/-- a sum, a test, a fact at o open -/
def mkL (tb : Nat → Nat) (n sc o : Nat) (q : (Er → Er) × (Er → Er) × (Er → Er)) : (Er → Er) × (Er → Er) × (Er → Er) :=
  (sumF tb n (prodF tb n (partF tb n sc o q.1 q.2.1)),
   testF tb n (bothF tb n (factF tb n o q.2.2 q.2.1 (compF tb n (sumF tb n (prodF tb n (partF tb n sc o q.1 q.2.1)))))),
   factF tb n o q.2.2 q.2.1 (compF tb n (sumF tb n (prodF tb n (partF tb n sc o q.1 q.2.1)))))
def lvl (tb : Nat → Nat) (n sc : Nat) : Nat → (Er → Er) × (Er → Er) × (Er → Er)
  | 0 => mkL tb n sc 7 (id, id, id)
  | m + 1 => mkL tb n sc (6 - m) (lvl tb n sc m)
def CtX (N n : Nat) (L : aL) (I0 : aI) (dp : Nat) (mi : aM) (o : Nat) (F : Er → Er) : Prop := ∀ (I : aI) (d : Nat) (r : Er), Px n I0 I d false r → Run dp 0 0 mi [.ref 81, .int (nI o)] (St2 N n I L) (RP2 none N n L (fun I2 => Px n I0 I2 d false (F r)))
set_option maxRecDepth 20000 in
theorem t_les {N n o D : Nat} {I0 : aI} {L : aL} {tb : Nat → Nat} {sm : Er → Er} (hB : PB tb n I0) (hsm : o < 7 → CtX N n L I0 D mX4_readSum (o + 1) sm) (hD : 7 ≤ D) (ho2 : o < 100) {I : aI} {d : Nat} {r : Er} (h : Px n I0 I d false r) (hw : (isW 25 r || isW 26 r) = true) : Run (D + 1) 0 0 mX4_readLesserOrGreater [.ref 81, .int (nI o)] (St2 N n I L) (RP2 none N n L (fun I2 => Px n I0 I2 d false (lesF tb n o sm r))) := by
  refine Run.of (ls := [some (.ref 81), some (.int _), none]) (by decide) (Nat.le_of_ble_eq_true rfl) rfl ?_
  unfold lesF
  have hk1 : isK 1 r = false := by
    rcases (Bool.or_eq_true _ _).mp hw with q | q
    · exact isW_k q
    · exact isW_k q
  have hp := h.pay hk1
  by_cases h40 : isS 40 (nx tb n r) = true
  · rw [if_pos h40]
    by_cases ho : 7 ≤ o
    · rw [if_pos ho]
      refine Ex.aload_n (pc := 0) dX4_readLesserOrGreater_0 rfl rfl ?_
      refine Ex.bipush (pc := 1) (v := 25) dX4_readLesserOrGreater_1 rfl ?_
      refine Ex.callV (pc := 3) (As := [.int 25]) (rest := []) dX4_readLesserOrGreater_3 cX4_102 (t_isW (k := 25) h (by decide)) (s2_81 _ _) rfl rfl (by omega) (Nat.le_refl _) (Nat.le_refl _) (Nat.le_of_ble_eq_true rfl) (Or.inl (fun r S' h => by obtain ⟨_, h⟩ := h; subst h; rfl)) (fun r S' hq _ _ => ?_)
      obtain ⟨rfl, rfl⟩ := hq
      refine Ex.if_eq (pc := 6) (tgt := 14) dX4_readLesserOrGreater_6 (by decide) (fun c6 => ?_) (fun c6 => ?_)
      · skip
        refine Ex.bipush (pc := 14) (v := 8) dX4_readLesserOrGreater_14 rfl ?_
        refine Ex.istore_n (pc := 16) (ls' := [some (.ref 81), some (.int _), some (.int 8)]) dX4_readLesserOrGreater_16 rfl (by decide) rfl rfl ?_
        refine Ex.aload_n (pc := 17) dX4_readLesserOrGreater_17 rfl rfl ?_
        refine Ex.callV (pc := 18) (As := []) (rest := []) dX4_readLesserOrGreater_18 cX4_61 (t_next hB hp) (s2_81 _ _) rfl rfl (by omega) (Nat.le_refl _) (Nat.le_refl _) (Nat.le_of_ble_eq_true rfl) (Or.inl (fun r S' h => by obtain ⟨_, _, h, _⟩ := h; subst h; rfl)) (fun r S' hq _ _ => ?_)
        obtain ⟨I1, rfl, rfl, h1⟩ := hq
        refine Ex.aload_n (pc := 21) dX4_readLesserOrGreater_21 rfl rfl ?_
        refine Ex.iload_n (pc := 22) dX4_readLesserOrGreater_22 rfl rfl ?_
        refine Ex.aload_n (pc := 23) dX4_readLesserOrGreater_23 rfl rfl ?_
        refine Ex.bipush (pc := 24) (v := 40) dX4_readLesserOrGreater_24 rfl ?_
        refine Ex.callV (pc := 26) (As := [.int 40]) (rest := [.int _, .ref 81]) dX4_readLesserOrGreater_26 cX4_105 (t_isS (k := 40) h1 (by decide)) (s2_81 _ _) rfl rfl (by omega) (Nat.le_refl _) (Nat.le_refl _) (Nat.le_of_ble_eq_true rfl) (Or.inl (fun r S' h => by obtain ⟨_, h⟩ := h; subst h; rfl)) (fun r S' hq _ _ => ?_)
        obtain ⟨rfl, rfl⟩ := hq
        refine Ex.callV (pc := 29) (As := [.int _, .int _]) (rest := []) dX4_readLesserOrGreater_29 cX4_186 (t_openN (bI_t h40) h1 ho ho2) (s2_81 _ _) rfl rfl (by omega) (Nat.le_refl _) (Nat.le_refl _) (Nat.le_of_ble_eq_true rfl) (Or.inl (fun r S' h => by obtain ⟨_, _, h, _⟩ := h; subst h; rfl)) (fun r S' hq _ _ => ?_)
        obtain ⟨I2, rfl, rfl, h2⟩ := hq
        refine Ex.if_eq (pc := 32) (tgt := 70) dX4_readLesserOrGreater_32 (by decide) (fun _ => ?_) (fun c32 => absurd rfl c32)
        refine Ex.vret (pc := 70) rfl dX4_readLesserOrGreater_70 (Nat.le_refl _) (Nat.le_refl _) ?_
        exact ⟨_, rfl, rfl, h2.stp⟩
      · skip
        refine Ex.bipush (pc := 9) (v := 7) dX4_readLesserOrGreater_9 rfl ?_
        refine Ex.goto (pc := 11) (tgt := 16) dX4_readLesserOrGreater_11 (by decide) ?_
        refine Ex.istore_n (pc := 16) (ls' := [some (.ref 81), some (.int _), some (.int 7)]) dX4_readLesserOrGreater_16 rfl (by decide) rfl rfl ?_
        refine Ex.aload_n (pc := 17) dX4_readLesserOrGreater_17 rfl rfl ?_
        refine Ex.callV (pc := 18) (As := []) (rest := []) dX4_readLesserOrGreater_18 cX4_61 (t_next hB hp) (s2_81 _ _) rfl rfl (by omega) (Nat.le_refl _) (Nat.le_refl _) (Nat.le_of_ble_eq_true rfl) (Or.inl (fun r S' h => by obtain ⟨_, _, h, _⟩ := h; subst h; rfl)) (fun r S' hq _ _ => ?_)
        obtain ⟨I1, rfl, rfl, h1⟩ := hq
        refine Ex.aload_n (pc := 21) dX4_readLesserOrGreater_21 rfl rfl ?_
        refine Ex.iload_n (pc := 22) dX4_readLesserOrGreater_22 rfl rfl ?_
        refine Ex.aload_n (pc := 23) dX4_readLesserOrGreater_23 rfl rfl ?_
        refine Ex.bipush (pc := 24) (v := 40) dX4_readLesserOrGreater_24 rfl ?_
        refine Ex.callV (pc := 26) (As := [.int 40]) (rest := [.int _, .ref 81]) dX4_readLesserOrGreater_26 cX4_105 (t_isS (k := 40) h1 (by decide)) (s2_81 _ _) rfl rfl (by omega) (Nat.le_refl _) (Nat.le_refl _) (Nat.le_of_ble_eq_true rfl) (Or.inl (fun r S' h => by obtain ⟨_, h⟩ := h; subst h; rfl)) (fun r S' hq _ _ => ?_)
        obtain ⟨rfl, rfl⟩ := hq
        refine Ex.callV (pc := 29) (As := [.int _, .int _]) (rest := []) dX4_readLesserOrGreater_29 cX4_186 (t_openN (bI_t h40) h1 ho ho2) (s2_81 _ _) rfl rfl (by omega) (Nat.le_refl _) (Nat.le_refl _) (Nat.le_of_ble_eq_true rfl) (Or.inl (fun r S' h => by obtain ⟨_, _, h, _⟩ := h; subst h; rfl)) (fun r S' hq _ _ => ?_)
        obtain ⟨I2, rfl, rfl, h2⟩ := hq
        refine Ex.if_eq (pc := 32) (tgt := 70) dX4_readLesserOrGreater_32 (by decide) (fun _ => ?_) (fun c32 => absurd rfl c32)
        refine Ex.vret (pc := 70) rfl dX4_readLesserOrGreater_70 (Nat.le_refl _) (Nat.le_refl _) ?_
        exact ⟨_, rfl, rfl, h2.stp⟩
    · rw [if_neg ho]
      have ho7 : o < 7 := by omega
      refine Ex.aload_n (pc := 0) dX4_readLesserOrGreater_0 rfl rfl ?_
      refine Ex.bipush (pc := 1) (v := 25) dX4_readLesserOrGreater_1 rfl ?_
      refine Ex.callV (pc := 3) (As := [.int 25]) (rest := []) dX4_readLesserOrGreater_3 cX4_102 (t_isW (k := 25) h (by decide)) (s2_81 _ _) rfl rfl (by omega) (Nat.le_refl _) (Nat.le_refl _) (Nat.le_of_ble_eq_true rfl) (Or.inl (fun r S' h => by obtain ⟨_, h⟩ := h; subst h; rfl)) (fun r S' hq _ _ => ?_)
      obtain ⟨rfl, rfl⟩ := hq
      refine Ex.if_eq (pc := 6) (tgt := 14) dX4_readLesserOrGreater_6 (by decide) (fun c6 => ?_) (fun c6 => ?_)
      · skip
        refine Ex.bipush (pc := 14) (v := 8) dX4_readLesserOrGreater_14 rfl ?_
        refine Ex.istore_n (pc := 16) (ls' := [some (.ref 81), some (.int _), some (.int 8)]) dX4_readLesserOrGreater_16 rfl (by decide) rfl rfl ?_
        refine Ex.aload_n (pc := 17) dX4_readLesserOrGreater_17 rfl rfl ?_
        refine Ex.callV (pc := 18) (As := []) (rest := []) dX4_readLesserOrGreater_18 cX4_61 (t_next hB hp) (s2_81 _ _) rfl rfl (by omega) (Nat.le_refl _) (Nat.le_refl _) (Nat.le_of_ble_eq_true rfl) (Or.inl (fun r S' h => by obtain ⟨_, _, h, _⟩ := h; subst h; rfl)) (fun r S' hq _ _ => ?_)
        obtain ⟨I1, rfl, rfl, h1⟩ := hq
        refine Ex.aload_n (pc := 21) dX4_readLesserOrGreater_21 rfl rfl ?_
        refine Ex.iload_n (pc := 22) dX4_readLesserOrGreater_22 rfl rfl ?_
        refine Ex.aload_n (pc := 23) dX4_readLesserOrGreater_23 rfl rfl ?_
        refine Ex.bipush (pc := 24) (v := 40) dX4_readLesserOrGreater_24 rfl ?_
        refine Ex.callV (pc := 26) (As := [.int 40]) (rest := [.int _, .ref 81]) dX4_readLesserOrGreater_26 cX4_105 (t_isS (k := 40) h1 (by decide)) (s2_81 _ _) rfl rfl (by omega) (Nat.le_refl _) (Nat.le_refl _) (Nat.le_of_ble_eq_true rfl) (Or.inl (fun r S' h => by obtain ⟨_, h⟩ := h; subst h; rfl)) (fun r S' hq _ _ => ?_)
        obtain ⟨rfl, rfl⟩ := hq
        refine Ex.callV (pc := 29) (As := [.int _, .int _]) (rest := []) dX4_readLesserOrGreater_29 cX4_186 (t_openY (bI_t h40) hB (h1.pay (isS_k h40)) ho7) (s2_81 _ _) rfl rfl (by omega) (Nat.le_refl _) (Nat.le_refl _) (Nat.le_of_ble_eq_true rfl) (Or.inl (fun r S' h => by obtain ⟨_, _, h, _⟩ := h; subst h; rfl)) (fun r S' hq _ _ => ?_)
        obtain ⟨I2, rfl, rfl, h2⟩ := hq
        refine Ex.if_eq (pc := 32) (tgt := 70) dX4_readLesserOrGreater_32 (by decide) (fun c32 => absurd c32 (by decide)) (fun _ => ?_)
        refine Ex.aload_n (pc := 35) dX4_readLesserOrGreater_35 rfl rfl ?_
        refine Ex.iload_n (pc := 36) dX4_readLesserOrGreater_36 rfl rfl ?_
        refine Ex.iconst (pc := 37) (v := 1) dX4_readLesserOrGreater_37 rfl ?_
        refine Ex.iadd (pc := 38) dX4_readLesserOrGreater_38 ?_
        rw [show nI o + 1 = nI (o + 1) from nI_1 o]
        refine Ex.callV (pc := 39) (As := [.int _]) (rest := []) dX4_readLesserOrGreater_39 cX4_133 (hsm ho7 _ _ _ h2.less) (s2_81 _ _) rfl rfl (by omega) (Nat.le_refl _) (Nat.le_refl _) (Nat.le_of_ble_eq_true rfl) (Or.inl (fun r S' h => by obtain ⟨_, _, h, _⟩ := h; subst h; rfl)) (fun r S' hq _ _ => ?_)
        obtain ⟨I3, rfl, rfl, h3⟩ := hq
        refine Ex.aload_n (pc := 42) dX4_readLesserOrGreater_42 rfl rfl ?_
        refine Ex.bipush (pc := 43) (v := 44) dX4_readLesserOrGreater_43 rfl ?_
        refine Ex.callV (pc := 45) (As := [.int 44]) (rest := []) dX4_readLesserOrGreater_45 cX4_145 (t_tkS (k := 44) hB h3 (by decide)) (s2_81 _ _) rfl rfl (by omega) (Nat.le_refl _) (Nat.le_refl _) (Nat.le_of_ble_eq_true rfl) (Or.inl (fun r S' h => by obtain ⟨_, _, h, _⟩ := h; subst h; rfl)) (fun r S' hq _ _ => ?_)
        obtain ⟨I4, rfl, rfl, h4⟩ := hq
        refine Ex.aload_n (pc := 48) dX4_readLesserOrGreater_48 rfl rfl ?_
        refine Ex.iload_n (pc := 49) dX4_readLesserOrGreater_49 rfl rfl ?_
        refine Ex.iconst (pc := 50) (v := 1) dX4_readLesserOrGreater_50 rfl ?_
        refine Ex.iadd (pc := 51) dX4_readLesserOrGreater_51 ?_
        rw [show nI o + 1 = nI (o + 1) from nI_1 o]
        refine Ex.callV (pc := 52) (As := [.int _]) (rest := []) dX4_readLesserOrGreater_52 cX4_133 (hsm ho7 _ _ _ h4) (s2_81 _ _) rfl rfl (by omega) (Nat.le_refl _) (Nat.le_refl _) (Nat.le_of_ble_eq_true rfl) (Or.inl (fun r S' h => by obtain ⟨_, _, h, _⟩ := h; subst h; rfl)) (fun r S' hq _ _ => ?_)
        obtain ⟨I5, rfl, rfl, h5⟩ := hq
        refine Ex.aload_n (pc := 55) dX4_readLesserOrGreater_55 rfl rfl ?_
        refine Ex.bipush (pc := 56) (v := 41) dX4_readLesserOrGreater_56 rfl ?_
        refine Ex.callV (pc := 58) (As := [.int 41]) (rest := []) dX4_readLesserOrGreater_58 cX4_145 (t_tkS (k := 41) hB h5 (by decide)) (s2_81 _ _) rfl rfl (by omega) (Nat.le_refl _) (Nat.le_refl _) (Nat.le_of_ble_eq_true rfl) (Or.inl (fun r S' h => by obtain ⟨_, _, h, _⟩ := h; subst h; rfl)) (fun r S' hq _ _ => ?_)
        obtain ⟨I6, rfl, rfl, h6⟩ := hq
        refine Ex.aload_n (pc := 61) dX4_readLesserOrGreater_61 rfl rfl ?_
        refine Ex.getR (pc := 62) dX4_readLesserOrGreater_62 fX4_57 (s2_81 _ _) r2_81_2 ?_
        refine Ex.iload_n (pc := 65) dX4_readLesserOrGreater_65 rfl rfl ?_
        refine Ex.iconst (pc := 66) (v := 0) dX4_readLesserOrGreater_66 rfl ?_
        refine Ex.callV (pc := 67) (As := [.int 8, .int 0]) (rest := []) dX4_readLesserOrGreater_67 cX4_171 (t_adS (k := 8) (v := 0) (d2 := d) (p2 := false) h6 hB.2.2 (by decide) (by decide) h6.room) (s2_82 _ _) rfl rfl (by omega) (Nat.le_refl _) (Nat.le_refl _) (Nat.le_of_ble_eq_true rfl) (Or.inl (fun r S' h => by obtain ⟨_, _, h, _⟩ := h; subst h; rfl)) (fun r S' hq _ _ => ?_)
        obtain ⟨I7, rfl, rfl, h7⟩ := hq
        refine Ex.vret (pc := 70) rfl dX4_readLesserOrGreater_70 (Nat.le_refl _) (Nat.le_refl _) ?_
        rw [if_neg (by rw [bI_0 c6]; decide)]
        exact ⟨_, rfl, rfl, h7⟩
      · skip
        refine Ex.bipush (pc := 9) (v := 7) dX4_readLesserOrGreater_9 rfl ?_
        refine Ex.goto (pc := 11) (tgt := 16) dX4_readLesserOrGreater_11 (by decide) ?_
        refine Ex.istore_n (pc := 16) (ls' := [some (.ref 81), some (.int _), some (.int 7)]) dX4_readLesserOrGreater_16 rfl (by decide) rfl rfl ?_
        refine Ex.aload_n (pc := 17) dX4_readLesserOrGreater_17 rfl rfl ?_
        refine Ex.callV (pc := 18) (As := []) (rest := []) dX4_readLesserOrGreater_18 cX4_61 (t_next hB hp) (s2_81 _ _) rfl rfl (by omega) (Nat.le_refl _) (Nat.le_refl _) (Nat.le_of_ble_eq_true rfl) (Or.inl (fun r S' h => by obtain ⟨_, _, h, _⟩ := h; subst h; rfl)) (fun r S' hq _ _ => ?_)
        obtain ⟨I1, rfl, rfl, h1⟩ := hq
        refine Ex.aload_n (pc := 21) dX4_readLesserOrGreater_21 rfl rfl ?_
        refine Ex.iload_n (pc := 22) dX4_readLesserOrGreater_22 rfl rfl ?_
        refine Ex.aload_n (pc := 23) dX4_readLesserOrGreater_23 rfl rfl ?_
        refine Ex.bipush (pc := 24) (v := 40) dX4_readLesserOrGreater_24 rfl ?_
        refine Ex.callV (pc := 26) (As := [.int 40]) (rest := [.int _, .ref 81]) dX4_readLesserOrGreater_26 cX4_105 (t_isS (k := 40) h1 (by decide)) (s2_81 _ _) rfl rfl (by omega) (Nat.le_refl _) (Nat.le_refl _) (Nat.le_of_ble_eq_true rfl) (Or.inl (fun r S' h => by obtain ⟨_, h⟩ := h; subst h; rfl)) (fun r S' hq _ _ => ?_)
        obtain ⟨rfl, rfl⟩ := hq
        refine Ex.callV (pc := 29) (As := [.int _, .int _]) (rest := []) dX4_readLesserOrGreater_29 cX4_186 (t_openY (bI_t h40) hB (h1.pay (isS_k h40)) ho7) (s2_81 _ _) rfl rfl (by omega) (Nat.le_refl _) (Nat.le_refl _) (Nat.le_of_ble_eq_true rfl) (Or.inl (fun r S' h => by obtain ⟨_, _, h, _⟩ := h; subst h; rfl)) (fun r S' hq _ _ => ?_)
        obtain ⟨I2, rfl, rfl, h2⟩ := hq
        refine Ex.if_eq (pc := 32) (tgt := 70) dX4_readLesserOrGreater_32 (by decide) (fun c32 => absurd c32 (by decide)) (fun _ => ?_)
        refine Ex.aload_n (pc := 35) dX4_readLesserOrGreater_35 rfl rfl ?_
        refine Ex.iload_n (pc := 36) dX4_readLesserOrGreater_36 rfl rfl ?_
        refine Ex.iconst (pc := 37) (v := 1) dX4_readLesserOrGreater_37 rfl ?_
        refine Ex.iadd (pc := 38) dX4_readLesserOrGreater_38 ?_
        rw [show nI o + 1 = nI (o + 1) from nI_1 o]
        refine Ex.callV (pc := 39) (As := [.int _]) (rest := []) dX4_readLesserOrGreater_39 cX4_133 (hsm ho7 _ _ _ h2.less) (s2_81 _ _) rfl rfl (by omega) (Nat.le_refl _) (Nat.le_refl _) (Nat.le_of_ble_eq_true rfl) (Or.inl (fun r S' h => by obtain ⟨_, _, h, _⟩ := h; subst h; rfl)) (fun r S' hq _ _ => ?_)
        obtain ⟨I3, rfl, rfl, h3⟩ := hq
        refine Ex.aload_n (pc := 42) dX4_readLesserOrGreater_42 rfl rfl ?_
        refine Ex.bipush (pc := 43) (v := 44) dX4_readLesserOrGreater_43 rfl ?_
        refine Ex.callV (pc := 45) (As := [.int 44]) (rest := []) dX4_readLesserOrGreater_45 cX4_145 (t_tkS (k := 44) hB h3 (by decide)) (s2_81 _ _) rfl rfl (by omega) (Nat.le_refl _) (Nat.le_refl _) (Nat.le_of_ble_eq_true rfl) (Or.inl (fun r S' h => by obtain ⟨_, _, h, _⟩ := h; subst h; rfl)) (fun r S' hq _ _ => ?_)
        obtain ⟨I4, rfl, rfl, h4⟩ := hq
        refine Ex.aload_n (pc := 48) dX4_readLesserOrGreater_48 rfl rfl ?_
        refine Ex.iload_n (pc := 49) dX4_readLesserOrGreater_49 rfl rfl ?_
        refine Ex.iconst (pc := 50) (v := 1) dX4_readLesserOrGreater_50 rfl ?_
        refine Ex.iadd (pc := 51) dX4_readLesserOrGreater_51 ?_
        rw [show nI o + 1 = nI (o + 1) from nI_1 o]
        refine Ex.callV (pc := 52) (As := [.int _]) (rest := []) dX4_readLesserOrGreater_52 cX4_133 (hsm ho7 _ _ _ h4) (s2_81 _ _) rfl rfl (by omega) (Nat.le_refl _) (Nat.le_refl _) (Nat.le_of_ble_eq_true rfl) (Or.inl (fun r S' h => by obtain ⟨_, _, h, _⟩ := h; subst h; rfl)) (fun r S' hq _ _ => ?_)
        obtain ⟨I5, rfl, rfl, h5⟩ := hq
        refine Ex.aload_n (pc := 55) dX4_readLesserOrGreater_55 rfl rfl ?_
        refine Ex.bipush (pc := 56) (v := 41) dX4_readLesserOrGreater_56 rfl ?_
        refine Ex.callV (pc := 58) (As := [.int 41]) (rest := []) dX4_readLesserOrGreater_58 cX4_145 (t_tkS (k := 41) hB h5 (by decide)) (s2_81 _ _) rfl rfl (by omega) (Nat.le_refl _) (Nat.le_refl _) (Nat.le_of_ble_eq_true rfl) (Or.inl (fun r S' h => by obtain ⟨_, _, h, _⟩ := h; subst h; rfl)) (fun r S' hq _ _ => ?_)
        obtain ⟨I6, rfl, rfl, h6⟩ := hq
        refine Ex.aload_n (pc := 61) dX4_readLesserOrGreater_61 rfl rfl ?_
        refine Ex.getR (pc := 62) dX4_readLesserOrGreater_62 fX4_57 (s2_81 _ _) r2_81_2 ?_
        refine Ex.iload_n (pc := 65) dX4_readLesserOrGreater_65 rfl rfl ?_
        refine Ex.iconst (pc := 66) (v := 0) dX4_readLesserOrGreater_66 rfl ?_
        refine Ex.callV (pc := 67) (As := [.int 7, .int 0]) (rest := []) dX4_readLesserOrGreater_67 cX4_171 (t_adS (k := 7) (v := 0) (d2 := d) (p2 := false) h6 hB.2.2 (by decide) (by decide) h6.room) (s2_82 _ _) rfl rfl (by omega) (Nat.le_refl _) (Nat.le_refl _) (Nat.le_of_ble_eq_true rfl) (Or.inl (fun r S' h => by obtain ⟨_, _, h, _⟩ := h; subst h; rfl)) (fun r S' hq _ _ => ?_)
        obtain ⟨I7, rfl, rfl, h7⟩ := hq
        refine Ex.vret (pc := 70) rfl dX4_readLesserOrGreater_70 (Nat.le_refl _) (Nat.le_refl _) ?_
        rw [if_pos (bI_1 c6)]
        exact ⟨_, rfl, rfl, h7⟩
  · have h40f : isS 40 (nx tb n r) = false := Bool.eq_false_iff.mpr h40
    rw [if_neg h40]
    refine Ex.aload_n (pc := 0) dX4_readLesserOrGreater_0 rfl rfl ?_
    refine Ex.bipush (pc := 1) (v := 25) dX4_readLesserOrGreater_1 rfl ?_
    refine Ex.callV (pc := 3) (As := [.int 25]) (rest := []) dX4_readLesserOrGreater_3 cX4_102 (t_isW (k := 25) h (by decide)) (s2_81 _ _) rfl rfl (by omega) (Nat.le_refl _) (Nat.le_refl _) (Nat.le_of_ble_eq_true rfl) (Or.inl (fun r S' h => by obtain ⟨_, h⟩ := h; subst h; rfl)) (fun r S' hq _ _ => ?_)
    obtain ⟨rfl, rfl⟩ := hq
    refine Ex.if_eq (pc := 6) (tgt := 14) dX4_readLesserOrGreater_6 (by decide) (fun c6 => ?_) (fun c6 => ?_)
    · skip
      refine Ex.bipush (pc := 14) (v := 8) dX4_readLesserOrGreater_14 rfl ?_
      refine Ex.istore_n (pc := 16) (ls' := [some (.ref 81), some (.int _), some (.int 8)]) dX4_readLesserOrGreater_16 rfl (by decide) rfl rfl ?_
      refine Ex.aload_n (pc := 17) dX4_readLesserOrGreater_17 rfl rfl ?_
      refine Ex.callV (pc := 18) (As := []) (rest := []) dX4_readLesserOrGreater_18 cX4_61 (t_next hB hp) (s2_81 _ _) rfl rfl (by omega) (Nat.le_refl _) (Nat.le_refl _) (Nat.le_of_ble_eq_true rfl) (Or.inl (fun r S' h => by obtain ⟨_, _, h, _⟩ := h; subst h; rfl)) (fun r S' hq _ _ => ?_)
      obtain ⟨I1, rfl, rfl, h1⟩ := hq
      refine Ex.aload_n (pc := 21) dX4_readLesserOrGreater_21 rfl rfl ?_
      refine Ex.iload_n (pc := 22) dX4_readLesserOrGreater_22 rfl rfl ?_
      refine Ex.aload_n (pc := 23) dX4_readLesserOrGreater_23 rfl rfl ?_
      refine Ex.bipush (pc := 24) (v := 40) dX4_readLesserOrGreater_24 rfl ?_
      refine Ex.callV (pc := 26) (As := [.int 40]) (rest := [.int _, .ref 81]) dX4_readLesserOrGreater_26 cX4_105 (t_isS (k := 40) h1 (by decide)) (s2_81 _ _) rfl rfl (by omega) (Nat.le_refl _) (Nat.le_refl _) (Nat.le_of_ble_eq_true rfl) (Or.inl (fun r S' h => by obtain ⟨_, h⟩ := h; subst h; rfl)) (fun r S' hq _ _ => ?_)
      obtain ⟨rfl, rfl⟩ := hq
      refine Ex.callV (pc := 29) (As := [.int _, .int _]) (rest := []) dX4_readLesserOrGreater_29 cX4_186 (t_open0 (bI_f h40f) h1) (s2_81 _ _) rfl rfl (by omega) (Nat.le_refl _) (Nat.le_refl _) (Nat.le_of_ble_eq_true rfl) (Or.inl (fun r S' h => by obtain ⟨_, _, h, _⟩ := h; subst h; rfl)) (fun r S' hq _ _ => ?_)
      obtain ⟨I2, rfl, rfl, h2⟩ := hq
      refine Ex.if_eq (pc := 32) (tgt := 70) dX4_readLesserOrGreater_32 (by decide) (fun _ => ?_) (fun c32 => absurd rfl c32)
      refine Ex.vret (pc := 70) rfl dX4_readLesserOrGreater_70 (Nat.le_refl _) (Nat.le_refl _) ?_
      exact ⟨_, rfl, rfl, h2.stp⟩
    · skip
      refine Ex.bipush (pc := 9) (v := 7) dX4_readLesserOrGreater_9 rfl ?_
      refine Ex.goto (pc := 11) (tgt := 16) dX4_readLesserOrGreater_11 (by decide) ?_
      refine Ex.istore_n (pc := 16) (ls' := [some (.ref 81), some (.int _), some (.int 7)]) dX4_readLesserOrGreater_16 rfl (by decide) rfl rfl ?_
      refine Ex.aload_n (pc := 17) dX4_readLesserOrGreater_17 rfl rfl ?_
      refine Ex.callV (pc := 18) (As := []) (rest := []) dX4_readLesserOrGreater_18 cX4_61 (t_next hB hp) (s2_81 _ _) rfl rfl (by omega) (Nat.le_refl _) (Nat.le_refl _) (Nat.le_of_ble_eq_true rfl) (Or.inl (fun r S' h => by obtain ⟨_, _, h, _⟩ := h; subst h; rfl)) (fun r S' hq _ _ => ?_)
      obtain ⟨I1, rfl, rfl, h1⟩ := hq
      refine Ex.aload_n (pc := 21) dX4_readLesserOrGreater_21 rfl rfl ?_
      refine Ex.iload_n (pc := 22) dX4_readLesserOrGreater_22 rfl rfl ?_
      refine Ex.aload_n (pc := 23) dX4_readLesserOrGreater_23 rfl rfl ?_
      refine Ex.bipush (pc := 24) (v := 40) dX4_readLesserOrGreater_24 rfl ?_
      refine Ex.callV (pc := 26) (As := [.int 40]) (rest := [.int _, .ref 81]) dX4_readLesserOrGreater_26 cX4_105 (t_isS (k := 40) h1 (by decide)) (s2_81 _ _) rfl rfl (by omega) (Nat.le_refl _) (Nat.le_refl _) (Nat.le_of_ble_eq_true rfl) (Or.inl (fun r S' h => by obtain ⟨_, h⟩ := h; subst h; rfl)) (fun r S' hq _ _ => ?_)
      obtain ⟨rfl, rfl⟩ := hq
      refine Ex.callV (pc := 29) (As := [.int _, .int _]) (rest := []) dX4_readLesserOrGreater_29 cX4_186 (t_open0 (bI_f h40f) h1) (s2_81 _ _) rfl rfl (by omega) (Nat.le_refl _) (Nat.le_refl _) (Nat.le_of_ble_eq_true rfl) (Or.inl (fun r S' h => by obtain ⟨_, _, h, _⟩ := h; subst h; rfl)) (fun r S' hq _ _ => ?_)
      obtain ⟨I2, rfl, rfl, h2⟩ := hq
      refine Ex.if_eq (pc := 32) (tgt := 70) dX4_readLesserOrGreater_32 (by decide) (fun _ => ?_) (fun c32 => absurd rfl c32)
      refine Ex.vret (pc := 70) rfl dX4_readLesserOrGreater_70 (Nat.le_refl _) (Nat.le_refl _) ?_
      exact ⟨_, rfl, rfl, h2.stp⟩
set_option maxRecDepth 20000 in
theorem t_cho {N n o D : Nat} {I0 : aI} {L : aL} {tb : Nat → Nat} {sm te : Er → Er} (hB : PB tb n I0) (hsm : o < 7 → CtX N n L I0 D mX4_readSum (o + 1) sm) (hD : 7 ≤ D) (ho2 : o < 100) (hte : o < 7 → CtX N n L I0 D mX4_readTest (o + 1) te) {I : aI} {d : Nat} {r : Er} (h : Px n I0 I d false r) (hw : isW 20 r = true) : Run (D + 1) 0 0 mX4_readChoice [.ref 81, .int (nI o)] (St2 N n I L) (RP2 none N n L (fun I2 => Px n I0 I2 d false (choF tb n o sm te r))) := by
  refine Run.of (ls := [some (.ref 81), some (.int _)]) (by decide) (Nat.le_of_ble_eq_true rfl) rfl ?_
  unfold choF
  have hp := h.pay (isW_k hw)
  by_cases h40 : isS 40 (nx tb n r) = true
  · rw [if_pos h40]
    by_cases ho : 7 ≤ o
    · rw [if_pos ho]
      refine Ex.aload_n (pc := 0) dX4_readChoice_0 rfl rfl ?_
      refine Ex.callV (pc := 1) (As := []) (rest := []) dX4_readChoice_1 cX4_61 (t_next hB hp) (s2_81 _ _) rfl rfl (by omega) (Nat.le_refl _) (Nat.le_refl _) (Nat.le_of_ble_eq_true rfl) (Or.inl (fun r S' h => by obtain ⟨_, _, h, _⟩ := h; subst h; rfl)) (fun r S' hq _ _ => ?_)
      obtain ⟨I1, rfl, rfl, h1⟩ := hq
      refine Ex.aload_n (pc := 4) dX4_readChoice_4 rfl rfl ?_
      refine Ex.iload_n (pc := 5) dX4_readChoice_5 rfl rfl ?_
      refine Ex.aload_n (pc := 6) dX4_readChoice_6 rfl rfl ?_
      refine Ex.bipush (pc := 7) (v := 40) dX4_readChoice_7 rfl ?_
      refine Ex.callV (pc := 9) (As := [.int 40]) (rest := [.int _, .ref 81]) dX4_readChoice_9 cX4_105 (t_isS (k := 40) h1 (by decide)) (s2_81 _ _) rfl rfl (by omega) (Nat.le_refl _) (Nat.le_refl _) (Nat.le_of_ble_eq_true rfl) (Or.inl (fun r S' h => by obtain ⟨_, h⟩ := h; subst h; rfl)) (fun r S' hq _ _ => ?_)
      obtain ⟨rfl, rfl⟩ := hq
      refine Ex.callV (pc := 12) (As := [.int _, .int _]) (rest := []) dX4_readChoice_12 cX4_186 (t_openN (bI_t h40) h1 ho ho2) (s2_81 _ _) rfl rfl (by omega) (Nat.le_refl _) (Nat.le_refl _) (Nat.le_of_ble_eq_true rfl) (Or.inl (fun r S' h => by obtain ⟨_, _, h, _⟩ := h; subst h; rfl)) (fun r S' hq _ _ => ?_)
      obtain ⟨I2, rfl, rfl, h2⟩ := hq
      refine Ex.if_eq (pc := 15) (tgt := 67) dX4_readChoice_15 (by decide) (fun _ => ?_) (fun c15 => absurd rfl c15)
      refine Ex.vret (pc := 67) rfl dX4_readChoice_67 (Nat.le_refl _) (Nat.le_refl _) ?_
      exact ⟨_, rfl, rfl, h2.stp⟩
    · rw [if_neg ho]
      have ho7 : o < 7 := by omega
      refine Ex.aload_n (pc := 0) dX4_readChoice_0 rfl rfl ?_
      refine Ex.callV (pc := 1) (As := []) (rest := []) dX4_readChoice_1 cX4_61 (t_next hB hp) (s2_81 _ _) rfl rfl (by omega) (Nat.le_refl _) (Nat.le_refl _) (Nat.le_of_ble_eq_true rfl) (Or.inl (fun r S' h => by obtain ⟨_, _, h, _⟩ := h; subst h; rfl)) (fun r S' hq _ _ => ?_)
      obtain ⟨I1, rfl, rfl, h1⟩ := hq
      refine Ex.aload_n (pc := 4) dX4_readChoice_4 rfl rfl ?_
      refine Ex.iload_n (pc := 5) dX4_readChoice_5 rfl rfl ?_
      refine Ex.aload_n (pc := 6) dX4_readChoice_6 rfl rfl ?_
      refine Ex.bipush (pc := 7) (v := 40) dX4_readChoice_7 rfl ?_
      refine Ex.callV (pc := 9) (As := [.int 40]) (rest := [.int _, .ref 81]) dX4_readChoice_9 cX4_105 (t_isS (k := 40) h1 (by decide)) (s2_81 _ _) rfl rfl (by omega) (Nat.le_refl _) (Nat.le_refl _) (Nat.le_of_ble_eq_true rfl) (Or.inl (fun r S' h => by obtain ⟨_, h⟩ := h; subst h; rfl)) (fun r S' hq _ _ => ?_)
      obtain ⟨rfl, rfl⟩ := hq
      refine Ex.callV (pc := 12) (As := [.int _, .int _]) (rest := []) dX4_readChoice_12 cX4_186 (t_openY (bI_t h40) hB (h1.pay (isS_k h40)) ho7) (s2_81 _ _) rfl rfl (by omega) (Nat.le_refl _) (Nat.le_refl _) (Nat.le_of_ble_eq_true rfl) (Or.inl (fun r S' h => by obtain ⟨_, _, h, _⟩ := h; subst h; rfl)) (fun r S' hq _ _ => ?_)
      obtain ⟨I2, rfl, rfl, h2⟩ := hq
      refine Ex.if_eq (pc := 15) (tgt := 67) dX4_readChoice_15 (by decide) (fun c15 => absurd c15 (by decide)) (fun _ => ?_)
      refine Ex.aload_n (pc := 18) dX4_readChoice_18 rfl rfl ?_
      refine Ex.iload_n (pc := 19) dX4_readChoice_19 rfl rfl ?_
      refine Ex.iconst (pc := 20) (v := 1) dX4_readChoice_20 rfl ?_
      refine Ex.iadd (pc := 21) dX4_readChoice_21 ?_
      rw [show nI o + 1 = nI (o + 1) from nI_1 o]
      refine Ex.callV (pc := 22) (As := [.int _]) (rest := []) dX4_readChoice_22 cX4_130 (hte ho7 _ _ _ h2.less) (s2_81 _ _) rfl rfl (by omega) (Nat.le_refl _) (Nat.le_refl _) (Nat.le_of_ble_eq_true rfl) (Or.inl (fun r S' h => by obtain ⟨_, _, h, _⟩ := h; subst h; rfl)) (fun r S' hq _ _ => ?_)
      obtain ⟨I3, rfl, rfl, h3⟩ := hq
      refine Ex.aload_n (pc := 25) dX4_readChoice_25 rfl rfl ?_
      refine Ex.bipush (pc := 26) (v := 44) dX4_readChoice_26 rfl ?_
      refine Ex.callV (pc := 28) (As := [.int 44]) (rest := []) dX4_readChoice_28 cX4_145 (t_tkS (k := 44) hB h3 (by decide)) (s2_81 _ _) rfl rfl (by omega) (Nat.le_refl _) (Nat.le_refl _) (Nat.le_of_ble_eq_true rfl) (Or.inl (fun r S' h => by obtain ⟨_, _, h, _⟩ := h; subst h; rfl)) (fun r S' hq _ _ => ?_)
      obtain ⟨I4, rfl, rfl, h4⟩ := hq
      refine Ex.aload_n (pc := 31) dX4_readChoice_31 rfl rfl ?_
      refine Ex.iload_n (pc := 32) dX4_readChoice_32 rfl rfl ?_
      refine Ex.iconst (pc := 33) (v := 1) dX4_readChoice_33 rfl ?_
      refine Ex.iadd (pc := 34) dX4_readChoice_34 ?_
      rw [show nI o + 1 = nI (o + 1) from nI_1 o]
      refine Ex.callV (pc := 35) (As := [.int _]) (rest := []) dX4_readChoice_35 cX4_133 (hsm ho7 _ _ _ h4) (s2_81 _ _) rfl rfl (by omega) (Nat.le_refl _) (Nat.le_refl _) (Nat.le_of_ble_eq_true rfl) (Or.inl (fun r S' h => by obtain ⟨_, _, h, _⟩ := h; subst h; rfl)) (fun r S' hq _ _ => ?_)
      obtain ⟨I5, rfl, rfl, h5⟩ := hq
      refine Ex.aload_n (pc := 38) dX4_readChoice_38 rfl rfl ?_
      refine Ex.bipush (pc := 39) (v := 44) dX4_readChoice_39 rfl ?_
      refine Ex.callV (pc := 41) (As := [.int 44]) (rest := []) dX4_readChoice_41 cX4_145 (t_tkS (k := 44) hB h5 (by decide)) (s2_81 _ _) rfl rfl (by omega) (Nat.le_refl _) (Nat.le_refl _) (Nat.le_of_ble_eq_true rfl) (Or.inl (fun r S' h => by obtain ⟨_, _, h, _⟩ := h; subst h; rfl)) (fun r S' hq _ _ => ?_)
      obtain ⟨I6, rfl, rfl, h6⟩ := hq
      refine Ex.aload_n (pc := 44) dX4_readChoice_44 rfl rfl ?_
      refine Ex.iload_n (pc := 45) dX4_readChoice_45 rfl rfl ?_
      refine Ex.iconst (pc := 46) (v := 1) dX4_readChoice_46 rfl ?_
      refine Ex.iadd (pc := 47) dX4_readChoice_47 ?_
      rw [show nI o + 1 = nI (o + 1) from nI_1 o]
      refine Ex.callV (pc := 48) (As := [.int _]) (rest := []) dX4_readChoice_48 cX4_133 (hsm ho7 _ _ _ h6) (s2_81 _ _) rfl rfl (by omega) (Nat.le_refl _) (Nat.le_refl _) (Nat.le_of_ble_eq_true rfl) (Or.inl (fun r S' h => by obtain ⟨_, _, h, _⟩ := h; subst h; rfl)) (fun r S' hq _ _ => ?_)
      obtain ⟨I7, rfl, rfl, h7⟩ := hq
      refine Ex.aload_n (pc := 51) dX4_readChoice_51 rfl rfl ?_
      refine Ex.bipush (pc := 52) (v := 41) dX4_readChoice_52 rfl ?_
      refine Ex.callV (pc := 54) (As := [.int 41]) (rest := []) dX4_readChoice_54 cX4_145 (t_tkS (k := 41) hB h7 (by decide)) (s2_81 _ _) rfl rfl (by omega) (Nat.le_refl _) (Nat.le_refl _) (Nat.le_of_ble_eq_true rfl) (Or.inl (fun r S' h => by obtain ⟨_, _, h, _⟩ := h; subst h; rfl)) (fun r S' hq _ _ => ?_)
      obtain ⟨I8, rfl, rfl, h8⟩ := hq
      refine Ex.aload_n (pc := 57) dX4_readChoice_57 rfl rfl ?_
      refine Ex.getR (pc := 58) dX4_readChoice_58 fX4_57 (s2_81 _ _) r2_81_2 ?_
      refine Ex.bipush (pc := 61) (v := 15) dX4_readChoice_61 rfl ?_
      refine Ex.iconst (pc := 63) (v := 0) dX4_readChoice_63 rfl ?_
      refine Ex.callV (pc := 64) (As := [.int 15, .int 0]) (rest := []) dX4_readChoice_64 cX4_171 (t_adS (k := 15) (v := 0) (d2 := d) (p2 := false) h8 hB.2.2 (by decide) (by decide) h8.room) (s2_82 _ _) rfl rfl (by omega) (Nat.le_refl _) (Nat.le_refl _) (Nat.le_of_ble_eq_true rfl) (Or.inl (fun r S' h => by obtain ⟨_, _, h, _⟩ := h; subst h; rfl)) (fun r S' hq _ _ => ?_)
      obtain ⟨I9, rfl, rfl, h9⟩ := hq
      refine Ex.vret (pc := 67) rfl dX4_readChoice_67 (Nat.le_refl _) (Nat.le_refl _) ?_
      exact ⟨_, rfl, rfl, h9⟩
  · have h40f : isS 40 (nx tb n r) = false := Bool.eq_false_iff.mpr h40
    rw [if_neg h40]
    refine Ex.aload_n (pc := 0) dX4_readChoice_0 rfl rfl ?_
    refine Ex.callV (pc := 1) (As := []) (rest := []) dX4_readChoice_1 cX4_61 (t_next hB hp) (s2_81 _ _) rfl rfl (by omega) (Nat.le_refl _) (Nat.le_refl _) (Nat.le_of_ble_eq_true rfl) (Or.inl (fun r S' h => by obtain ⟨_, _, h, _⟩ := h; subst h; rfl)) (fun r S' hq _ _ => ?_)
    obtain ⟨I1, rfl, rfl, h1⟩ := hq
    refine Ex.aload_n (pc := 4) dX4_readChoice_4 rfl rfl ?_
    refine Ex.iload_n (pc := 5) dX4_readChoice_5 rfl rfl ?_
    refine Ex.aload_n (pc := 6) dX4_readChoice_6 rfl rfl ?_
    refine Ex.bipush (pc := 7) (v := 40) dX4_readChoice_7 rfl ?_
    refine Ex.callV (pc := 9) (As := [.int 40]) (rest := [.int _, .ref 81]) dX4_readChoice_9 cX4_105 (t_isS (k := 40) h1 (by decide)) (s2_81 _ _) rfl rfl (by omega) (Nat.le_refl _) (Nat.le_refl _) (Nat.le_of_ble_eq_true rfl) (Or.inl (fun r S' h => by obtain ⟨_, h⟩ := h; subst h; rfl)) (fun r S' hq _ _ => ?_)
    obtain ⟨rfl, rfl⟩ := hq
    refine Ex.callV (pc := 12) (As := [.int _, .int _]) (rest := []) dX4_readChoice_12 cX4_186 (t_open0 (bI_f h40f) h1) (s2_81 _ _) rfl rfl (by omega) (Nat.le_refl _) (Nat.le_refl _) (Nat.le_of_ble_eq_true rfl) (Or.inl (fun r S' h => by obtain ⟨_, _, h, _⟩ := h; subst h; rfl)) (fun r S' hq _ _ => ?_)
    obtain ⟨I2, rfl, rfl, h2⟩ := hq
    refine Ex.if_eq (pc := 15) (tgt := 67) dX4_readChoice_15 (by decide) (fun _ => ?_) (fun c15 => absurd rfl c15)
    refine Ex.vret (pc := 67) rfl dX4_readChoice_67 (Nat.le_refl _) (Nat.le_refl _) ?_
    exact ⟨_, rfl, rfl, h2.stp⟩
set_option maxRecDepth 20000 in
theorem t_part {N n o D : Nat} {I0 : aI} {L : aL} {tb : Nat → Nat} {sm te : Er → Er} (hB : PB tb n I0) {sc : Nat} (hsm : o < 7 → CtX N n L I0 D mX4_readSum (o + 1) sm) (hD : 7 ≤ D) (ho2 : o < 100) (hte : o < 7 → CtX N n L I0 D mX4_readTest (o + 1) te) (hsc : I0 81 10 = nI sc) (hsc9 : sc < 100) : CtX N n L I0 (D + 2) mX4_readPart o (partF tb n sc o sm te) := by
  intro I d r h
  refine Run.of (ls := [some (.ref 81), some (.int _)]) (by decide) (Nat.le_of_ble_eq_true rfl) rfl ?_
  cases r with
  | error e =>
    have hR : PxE n I e := h.2
    have h7 : I 81 7 = 0 := hR.2.2.2.2.2.1
    refine Ex.aload_n (pc := 0) dX4_readPart_0 rfl rfl ?_
    refine Ex.getI (pc := 1) dX4_readPart_1 fX4_24 (s2_81 _ _) ?_
    refine Ex.iconst (pc := 4) (v := 3) dX4_readPart_4 rfl ?_
    refine Ex.icmp_ne (pc := 5) (tgt := 27) dX4_readPart_5 (by decide) (fun _ => ?_) (fun c5 => absurd c5 (by rw [h7]; decide))
    refine Ex.aload_n (pc := 27) dX4_readPart_27 rfl rfl ?_
    refine Ex.getI (pc := 28) dX4_readPart_28 fX4_24 (s2_81 _ _) ?_
    refine Ex.iconst (pc := 31) (v := 2) dX4_readPart_31 rfl ?_
    refine Ex.icmp_ne (pc := 32) (tgt := 65) dX4_readPart_32 (by decide) (fun _ => ?_) (fun c32 => absurd c32 (by rw [h7]; decide))
    refine Ex.aload_n (pc := 65) dX4_readPart_65 rfl rfl ?_
    refine Ex.bipush (pc := 66) (v := 25) dX4_readPart_66 rfl ?_
    refine Ex.callV (pc := 68) (As := [.int 25]) (rest := []) dX4_readPart_68 cX4_102 (t_isW (k := 25) h (by decide)) (s2_81 _ _) rfl rfl (by omega) (Nat.le_refl _) (Nat.le_refl _) (Nat.le_of_ble_eq_true rfl) (Or.inl (fun r S' h => by obtain ⟨_, h⟩ := h; subst h; rfl)) (fun r S' hq _ _ => ?_)
    obtain ⟨rfl, rfl⟩ := hq
    refine Ex.if_ne (pc := 71) (tgt := 83) dX4_readPart_71 (by decide) (fun c71 => absurd rfl c71) (fun _ => ?_)
    refine Ex.aload_n (pc := 74) dX4_readPart_74 rfl rfl ?_
    refine Ex.bipush (pc := 75) (v := 26) dX4_readPart_75 rfl ?_
    refine Ex.callV (pc := 77) (As := [.int 26]) (rest := []) dX4_readPart_77 cX4_102 (t_isW (k := 26) h (by decide)) (s2_81 _ _) rfl rfl (by omega) (Nat.le_refl _) (Nat.le_refl _) (Nat.le_of_ble_eq_true rfl) (Or.inl (fun r S' h => by obtain ⟨_, h⟩ := h; subst h; rfl)) (fun r S' hq _ _ => ?_)
    obtain ⟨rfl, rfl⟩ := hq
    refine Ex.if_eq (pc := 80) (tgt := 91) dX4_readPart_80 (by decide) (fun _ => ?_) (fun c80 => absurd rfl c80)
    refine Ex.aload_n (pc := 91) dX4_readPart_91 rfl rfl ?_
    refine Ex.bipush (pc := 92) (v := 20) dX4_readPart_92 rfl ?_
    refine Ex.callV (pc := 94) (As := [.int 20]) (rest := []) dX4_readPart_94 cX4_102 (t_isW (k := 20) h (by decide)) (s2_81 _ _) rfl rfl (by omega) (Nat.le_refl _) (Nat.le_refl _) (Nat.le_of_ble_eq_true rfl) (Or.inl (fun r S' h => by obtain ⟨_, h⟩ := h; subst h; rfl)) (fun r S' hq _ _ => ?_)
    obtain ⟨rfl, rfl⟩ := hq
    refine Ex.if_eq (pc := 97) (tgt := 108) dX4_readPart_97 (by decide) (fun _ => ?_) (fun c97 => absurd rfl c97)
    refine Ex.aload_n (pc := 108) dX4_readPart_108 rfl rfl ?_
    refine Ex.iload_n (pc := 109) dX4_readPart_109 rfl rfl ?_
    refine Ex.aload_n (pc := 110) dX4_readPart_110 rfl rfl ?_
    refine Ex.bipush (pc := 111) (v := 40) dX4_readPart_111 rfl ?_
    refine Ex.callV (pc := 113) (As := [.int 40]) (rest := [.int _, .ref 81]) dX4_readPart_113 cX4_105 (t_isS (k := 40) h (by decide)) (s2_81 _ _) rfl rfl (by omega) (Nat.le_refl _) (Nat.le_refl _) (Nat.le_of_ble_eq_true rfl) (Or.inl (fun r S' h => by obtain ⟨_, h⟩ := h; subst h; rfl)) (fun r S' hq _ _ => ?_)
    obtain ⟨rfl, rfl⟩ := hq
    refine Ex.callV (pc := 116) (As := [.int _, .int _]) (rest := []) dX4_readPart_116 cX4_186 (t_open0 (bI_f rfl) h) (s2_81 _ _) rfl rfl (by omega) (Nat.le_refl _) (Nat.le_refl _) (Nat.le_of_ble_eq_true rfl) (Or.inl (fun r S' h => by obtain ⟨_, _, h, _⟩ := h; subst h; rfl)) (fun r S' hq _ _ => ?_)
    obtain ⟨I2, rfl, rfl, h2⟩ := hq
    refine Ex.if_eq (pc := 119) (tgt := 135) dX4_readPart_119 (by decide) (fun _ => ?_) (fun c119 => absurd rfl c119)
    refine Ex.vret (pc := 135) rfl dX4_readPart_135 (Nat.le_refl _) (Nat.le_refl _) ?_
    exact ⟨_, rfl, rfl, h2⟩
  | ok q =>
    obtain ⟨t, c⟩ := q
    have hR : PxO n I d false t c := h.2
    obtain ⟨b1, b2, b3, b4, b5⟩ := id hR
    have h7 : I 81 7 = nI t.1 := b1.2.2.2.1
    have hk4 := b2.2.1
    have hs10 : I 81 10 = nI sc := by rw [h.1.2.1 10 (by omega)]; exact hsc
    unfold partF
    by_cases hs40 : isS 40 (Except.ok (t, c) : Er) = true
    · by_cases ho : 7 ≤ o
      · skip
        refine Ex.aload_n (pc := 0) dX4_readPart_0 rfl rfl ?_
        refine Ex.getI (pc := 1) dX4_readPart_1 fX4_24 (s2_81 _ _) ?_
        refine Ex.iconst (pc := 4) (v := 3) dX4_readPart_4 rfl ?_
        refine Ex.icmp_ne (pc := 5) (tgt := 27) dX4_readPart_5 (by decide) (fun c5 => ?_) (fun c5 => ?_)
        · skip
          refine Ex.aload_n (pc := 27) dX4_readPart_27 rfl rfl ?_
          refine Ex.getI (pc := 28) dX4_readPart_28 fX4_24 (s2_81 _ _) ?_
          refine Ex.iconst (pc := 31) (v := 2) dX4_readPart_31 rfl ?_
          refine Ex.icmp_ne (pc := 32) (tgt := 65) dX4_readPart_32 (by decide) (fun c32 => ?_) (fun c32 => ?_)
          · skip
            refine Ex.aload_n (pc := 65) dX4_readPart_65 rfl rfl ?_
            refine Ex.bipush (pc := 66) (v := 25) dX4_readPart_66 rfl ?_
            refine Ex.callV (pc := 68) (As := [.int 25]) (rest := []) dX4_readPart_68 cX4_102 (t_isW (k := 25) h (by decide)) (s2_81 _ _) rfl rfl (by omega) (Nat.le_refl _) (Nat.le_refl _) (Nat.le_of_ble_eq_true rfl) (Or.inl (fun r S' h => by obtain ⟨_, h⟩ := h; subst h; rfl)) (fun r S' hq _ _ => ?_)
            obtain ⟨rfl, rfl⟩ := hq
            refine Ex.if_ne (pc := 71) (tgt := 83) dX4_readPart_71 (by decide) (fun c71 => ?_) (fun c71 => ?_)
            · skip
              refine Ex.aload_n (pc := 83) dX4_readPart_83 rfl rfl ?_
              refine Ex.iload_n (pc := 84) dX4_readPart_84 rfl rfl ?_
              refine Ex.callV (pc := 85) (As := [.int _]) (rest := []) dX4_readPart_85 cX4_180 (t_les hB hsm hD ho2 h (by rw [bI_1 c71]; rfl)) (s2_81 _ _) rfl rfl (by omega) (Nat.le_refl _) (Nat.le_refl _) (Nat.le_of_ble_eq_true rfl) (Or.inl (fun r S' h => by obtain ⟨_, _, h, _⟩ := h; subst h; rfl)) (fun r S' hq _ _ => ?_)
              obtain ⟨I2, rfl, rfl, h2⟩ := hq
              refine Ex.goto (pc := 88) (tgt := 135) dX4_readPart_88 (by decide) ?_
              refine Ex.vret (pc := 135) rfl dX4_readPart_135 (Nat.le_refl _) (Nat.le_refl _) ?_
              have k3 : isK 3 (Except.ok (t, c) : Er) = false := decide_eq_false (fun e => c5 (by rw [h7, e]; rfl))
              have knm : isNm sc (Except.ok (t, c) : Er) = false := by show (decide (t.1 = 2) && _) = false; rw [decide_eq_false (fun e => c32 (by rw [h7, e]; rfl))]; rfl
              rw [if_neg (by rw [k3]; decide), if_neg (by rw [knm]; decide), if_pos (by rw [bI_1 c71]; rfl)]
              exact ⟨_, rfl, rfl, h2⟩
            · skip
              refine Ex.aload_n (pc := 74) dX4_readPart_74 rfl rfl ?_
              refine Ex.bipush (pc := 75) (v := 26) dX4_readPart_75 rfl ?_
              refine Ex.callV (pc := 77) (As := [.int 26]) (rest := []) dX4_readPart_77 cX4_102 (t_isW (k := 26) h (by decide)) (s2_81 _ _) rfl rfl (by omega) (Nat.le_refl _) (Nat.le_refl _) (Nat.le_of_ble_eq_true rfl) (Or.inl (fun r S' h => by obtain ⟨_, h⟩ := h; subst h; rfl)) (fun r S' hq _ _ => ?_)
              obtain ⟨rfl, rfl⟩ := hq
              refine Ex.if_eq (pc := 80) (tgt := 91) dX4_readPart_80 (by decide) (fun c80 => ?_) (fun c80 => ?_)
              · skip
                refine Ex.aload_n (pc := 91) dX4_readPart_91 rfl rfl ?_
                refine Ex.bipush (pc := 92) (v := 20) dX4_readPart_92 rfl ?_
                refine Ex.callV (pc := 94) (As := [.int 20]) (rest := []) dX4_readPart_94 cX4_102 (t_isW (k := 20) h (by decide)) (s2_81 _ _) rfl rfl (by omega) (Nat.le_refl _) (Nat.le_refl _) (Nat.le_of_ble_eq_true rfl) (Or.inl (fun r S' h => by obtain ⟨_, h⟩ := h; subst h; rfl)) (fun r S' hq _ _ => ?_)
                obtain ⟨rfl, rfl⟩ := hq
                refine Ex.if_eq (pc := 97) (tgt := 108) dX4_readPart_97 (by decide) (fun c97 => ?_) (fun c97 => ?_)
                · skip
                  refine Ex.aload_n (pc := 108) dX4_readPart_108 rfl rfl ?_
                  refine Ex.iload_n (pc := 109) dX4_readPart_109 rfl rfl ?_
                  refine Ex.aload_n (pc := 110) dX4_readPart_110 rfl rfl ?_
                  refine Ex.bipush (pc := 111) (v := 40) dX4_readPart_111 rfl ?_
                  refine Ex.callV (pc := 113) (As := [.int 40]) (rest := [.int _, .ref 81]) dX4_readPart_113 cX4_105 (t_isS (k := 40) h (by decide)) (s2_81 _ _) rfl rfl (by omega) (Nat.le_refl _) (Nat.le_refl _) (Nat.le_of_ble_eq_true rfl) (Or.inl (fun r S' h => by obtain ⟨_, h⟩ := h; subst h; rfl)) (fun r S' hq _ _ => ?_)
                  obtain ⟨rfl, rfl⟩ := hq
                  refine Ex.callV (pc := 116) (As := [.int _, .int _]) (rest := []) dX4_readPart_116 cX4_186 (t_openN (bI_t hs40) h ho ho2) (s2_81 _ _) rfl rfl (by omega) (Nat.le_refl _) (Nat.le_refl _) (Nat.le_of_ble_eq_true rfl) (Or.inl (fun r S' h => by obtain ⟨_, _, h, _⟩ := h; subst h; rfl)) (fun r S' hq _ _ => ?_)
                  obtain ⟨I2, rfl, rfl, h2⟩ := hq
                  refine Ex.if_eq (pc := 119) (tgt := 135) dX4_readPart_119 (by decide) (fun _ => ?_) (fun c119 => absurd rfl c119)
                  refine Ex.vret (pc := 135) rfl dX4_readPart_135 (Nat.le_refl _) (Nat.le_refl _) ?_
                  have k3 : isK 3 (Except.ok (t, c) : Er) = false := decide_eq_false (fun e => c5 (by rw [h7, e]; rfl))
                  have knm : isNm sc (Except.ok (t, c) : Er) = false := by show (decide (t.1 = 2) && _) = false; rw [decide_eq_false (fun e => c32 (by rw [h7, e]; rfl))]; rfl
                  rw [if_neg (by rw [k3]; decide), if_neg (by rw [knm]; decide), if_neg (by rw [bI_0 c71, bI_0 c80]; decide)]
                  rw [if_neg (by rw [bI_0 c97]; decide)]
                  rw [if_pos hs40, if_pos ho]
                  exact ⟨_, rfl, rfl, h2⟩
                · skip
                  refine Ex.aload_n (pc := 100) dX4_readPart_100 rfl rfl ?_
                  refine Ex.iload_n (pc := 101) dX4_readPart_101 rfl rfl ?_
                  refine Ex.callV (pc := 102) (As := [.int _]) (rest := []) dX4_readPart_102 cX4_183 (t_cho hB hsm hD ho2 hte h (bI_1 c97)) (s2_81 _ _) rfl rfl (by omega) (Nat.le_refl _) (Nat.le_refl _) (Nat.le_of_ble_eq_true rfl) (Or.inl (fun r S' h => by obtain ⟨_, _, h, _⟩ := h; subst h; rfl)) (fun r S' hq _ _ => ?_)
                  obtain ⟨I2, rfl, rfl, h2⟩ := hq
                  refine Ex.goto (pc := 105) (tgt := 135) dX4_readPart_105 (by decide) ?_
                  refine Ex.vret (pc := 135) rfl dX4_readPart_135 (Nat.le_refl _) (Nat.le_refl _) ?_
                  have k3 : isK 3 (Except.ok (t, c) : Er) = false := decide_eq_false (fun e => c5 (by rw [h7, e]; rfl))
                  have knm : isNm sc (Except.ok (t, c) : Er) = false := by show (decide (t.1 = 2) && _) = false; rw [decide_eq_false (fun e => c32 (by rw [h7, e]; rfl))]; rfl
                  rw [if_neg (by rw [k3]; decide), if_neg (by rw [knm]; decide), if_neg (by rw [bI_0 c71, bI_0 c80]; decide)]
                  rw [if_pos (bI_1 c97)]
                  exact ⟨_, rfl, rfl, h2⟩
              · skip
                refine Ex.aload_n (pc := 83) dX4_readPart_83 rfl rfl ?_
                refine Ex.iload_n (pc := 84) dX4_readPart_84 rfl rfl ?_
                refine Ex.callV (pc := 85) (As := [.int _]) (rest := []) dX4_readPart_85 cX4_180 (t_les hB hsm hD ho2 h (by rw [bI_1 c80]; exact Bool.or_true _)) (s2_81 _ _) rfl rfl (by omega) (Nat.le_refl _) (Nat.le_refl _) (Nat.le_of_ble_eq_true rfl) (Or.inl (fun r S' h => by obtain ⟨_, _, h, _⟩ := h; subst h; rfl)) (fun r S' hq _ _ => ?_)
                obtain ⟨I2, rfl, rfl, h2⟩ := hq
                refine Ex.goto (pc := 88) (tgt := 135) dX4_readPart_88 (by decide) ?_
                refine Ex.vret (pc := 135) rfl dX4_readPart_135 (Nat.le_refl _) (Nat.le_refl _) ?_
                have k3 : isK 3 (Except.ok (t, c) : Er) = false := decide_eq_false (fun e => c5 (by rw [h7, e]; rfl))
                have knm : isNm sc (Except.ok (t, c) : Er) = false := by show (decide (t.1 = 2) && _) = false; rw [decide_eq_false (fun e => c32 (by rw [h7, e]; rfl))]; rfl
                rw [if_neg (by rw [k3]; decide), if_neg (by rw [knm]; decide), if_pos (by rw [bI_1 c80]; exact Bool.or_true _)]
                exact ⟨_, rfl, rfl, h2⟩
          · skip
            have e2 : t.1 = 2 := (nI_eq (by omega) (by decide)).mp (show nI t.1 = nI 2 from by rw [← h7]; exact c32)
            have e9 : I 81 9 = ownW t.2.2.1 := (b1.2.2.2.2.1 e2).2
            refine Ex.aload_n (pc := 35) dX4_readPart_35 rfl rfl ?_
            refine Ex.aload_n (pc := 36) dX4_readPart_36 rfl rfl ?_
            refine Ex.getI (pc := 37) dX4_readPart_37 fX4_30 (s2_81 _ _) ?_
            rw [e9]
            refine Ex.callV (pc := 40) (As := [.int _]) (rest := []) dX4_readPart_40 cX4_177 (t_mayStand (w := ownW t.2.2.1) hs10 hsc9) (s2_81 _ _) rfl rfl (by omega) (Nat.le_refl _) (Nat.le_refl _) (Nat.le_of_ble_eq_true rfl) (Or.inl (fun r S' h => by obtain ⟨_, h⟩ := h; subst h; rfl)) (fun r S' hq _ _ => ?_)
            obtain ⟨rfl, rfl⟩ := hq
            refine Ex.if_eq (pc := 43) (tgt := 65) dX4_readPart_43 (by decide) (fun c43 => ?_) (fun c43 => ?_)
            · skip
              refine Ex.aload_n (pc := 65) dX4_readPart_65 rfl rfl ?_
              refine Ex.bipush (pc := 66) (v := 25) dX4_readPart_66 rfl ?_
              refine Ex.callV (pc := 68) (As := [.int 25]) (rest := []) dX4_readPart_68 cX4_102 (t_isW (k := 25) h (by decide)) (s2_81 _ _) rfl rfl (by omega) (Nat.le_refl _) (Nat.le_refl _) (Nat.le_of_ble_eq_true rfl) (Or.inl (fun r S' h => by obtain ⟨_, h⟩ := h; subst h; rfl)) (fun r S' hq _ _ => ?_)
              obtain ⟨rfl, rfl⟩ := hq
              refine Ex.if_ne (pc := 71) (tgt := 83) dX4_readPart_71 (by decide) (fun c71 => ?_) (fun c71 => ?_)
              · skip
                refine Ex.aload_n (pc := 83) dX4_readPart_83 rfl rfl ?_
                refine Ex.iload_n (pc := 84) dX4_readPart_84 rfl rfl ?_
                refine Ex.callV (pc := 85) (As := [.int _]) (rest := []) dX4_readPart_85 cX4_180 (t_les hB hsm hD ho2 h (by rw [bI_1 c71]; rfl)) (s2_81 _ _) rfl rfl (by omega) (Nat.le_refl _) (Nat.le_refl _) (Nat.le_of_ble_eq_true rfl) (Or.inl (fun r S' h => by obtain ⟨_, _, h, _⟩ := h; subst h; rfl)) (fun r S' hq _ _ => ?_)
                obtain ⟨I2, rfl, rfl, h2⟩ := hq
                refine Ex.goto (pc := 88) (tgt := 135) dX4_readPart_88 (by decide) ?_
                refine Ex.vret (pc := 135) rfl dX4_readPart_135 (Nat.le_refl _) (Nat.le_refl _) ?_
                have k3 : isK 3 (Except.ok (t, c) : Er) = false := decide_eq_false (fun e => c5 (by rw [h7, e]; rfl))
                have knm : isNm sc (Except.ok (t, c) : Er) = false := by show (_ && mayW (ownW t.2.2.1) sc) = false; rw [bI_0 c43]; exact Bool.and_false _
                rw [if_neg (by rw [k3]; decide), if_neg (by rw [knm]; decide), if_pos (by rw [bI_1 c71]; rfl)]
                exact ⟨_, rfl, rfl, h2⟩
              · skip
                refine Ex.aload_n (pc := 74) dX4_readPart_74 rfl rfl ?_
                refine Ex.bipush (pc := 75) (v := 26) dX4_readPart_75 rfl ?_
                refine Ex.callV (pc := 77) (As := [.int 26]) (rest := []) dX4_readPart_77 cX4_102 (t_isW (k := 26) h (by decide)) (s2_81 _ _) rfl rfl (by omega) (Nat.le_refl _) (Nat.le_refl _) (Nat.le_of_ble_eq_true rfl) (Or.inl (fun r S' h => by obtain ⟨_, h⟩ := h; subst h; rfl)) (fun r S' hq _ _ => ?_)
                obtain ⟨rfl, rfl⟩ := hq
                refine Ex.if_eq (pc := 80) (tgt := 91) dX4_readPart_80 (by decide) (fun c80 => ?_) (fun c80 => ?_)
                · skip
                  refine Ex.aload_n (pc := 91) dX4_readPart_91 rfl rfl ?_
                  refine Ex.bipush (pc := 92) (v := 20) dX4_readPart_92 rfl ?_
                  refine Ex.callV (pc := 94) (As := [.int 20]) (rest := []) dX4_readPart_94 cX4_102 (t_isW (k := 20) h (by decide)) (s2_81 _ _) rfl rfl (by omega) (Nat.le_refl _) (Nat.le_refl _) (Nat.le_of_ble_eq_true rfl) (Or.inl (fun r S' h => by obtain ⟨_, h⟩ := h; subst h; rfl)) (fun r S' hq _ _ => ?_)
                  obtain ⟨rfl, rfl⟩ := hq
                  refine Ex.if_eq (pc := 97) (tgt := 108) dX4_readPart_97 (by decide) (fun c97 => ?_) (fun c97 => ?_)
                  · skip
                    refine Ex.aload_n (pc := 108) dX4_readPart_108 rfl rfl ?_
                    refine Ex.iload_n (pc := 109) dX4_readPart_109 rfl rfl ?_
                    refine Ex.aload_n (pc := 110) dX4_readPart_110 rfl rfl ?_
                    refine Ex.bipush (pc := 111) (v := 40) dX4_readPart_111 rfl ?_
                    refine Ex.callV (pc := 113) (As := [.int 40]) (rest := [.int _, .ref 81]) dX4_readPart_113 cX4_105 (t_isS (k := 40) h (by decide)) (s2_81 _ _) rfl rfl (by omega) (Nat.le_refl _) (Nat.le_refl _) (Nat.le_of_ble_eq_true rfl) (Or.inl (fun r S' h => by obtain ⟨_, h⟩ := h; subst h; rfl)) (fun r S' hq _ _ => ?_)
                    obtain ⟨rfl, rfl⟩ := hq
                    refine Ex.callV (pc := 116) (As := [.int _, .int _]) (rest := []) dX4_readPart_116 cX4_186 (t_openN (bI_t hs40) h ho ho2) (s2_81 _ _) rfl rfl (by omega) (Nat.le_refl _) (Nat.le_refl _) (Nat.le_of_ble_eq_true rfl) (Or.inl (fun r S' h => by obtain ⟨_, _, h, _⟩ := h; subst h; rfl)) (fun r S' hq _ _ => ?_)
                    obtain ⟨I2, rfl, rfl, h2⟩ := hq
                    refine Ex.if_eq (pc := 119) (tgt := 135) dX4_readPart_119 (by decide) (fun _ => ?_) (fun c119 => absurd rfl c119)
                    refine Ex.vret (pc := 135) rfl dX4_readPart_135 (Nat.le_refl _) (Nat.le_refl _) ?_
                    have k3 : isK 3 (Except.ok (t, c) : Er) = false := decide_eq_false (fun e => c5 (by rw [h7, e]; rfl))
                    have knm : isNm sc (Except.ok (t, c) : Er) = false := by show (_ && mayW (ownW t.2.2.1) sc) = false; rw [bI_0 c43]; exact Bool.and_false _
                    rw [if_neg (by rw [k3]; decide), if_neg (by rw [knm]; decide), if_neg (by rw [bI_0 c71, bI_0 c80]; decide)]
                    rw [if_neg (by rw [bI_0 c97]; decide)]
                    rw [if_pos hs40, if_pos ho]
                    exact ⟨_, rfl, rfl, h2⟩
                  · skip
                    refine Ex.aload_n (pc := 100) dX4_readPart_100 rfl rfl ?_
                    refine Ex.iload_n (pc := 101) dX4_readPart_101 rfl rfl ?_
                    refine Ex.callV (pc := 102) (As := [.int _]) (rest := []) dX4_readPart_102 cX4_183 (t_cho hB hsm hD ho2 hte h (bI_1 c97)) (s2_81 _ _) rfl rfl (by omega) (Nat.le_refl _) (Nat.le_refl _) (Nat.le_of_ble_eq_true rfl) (Or.inl (fun r S' h => by obtain ⟨_, _, h, _⟩ := h; subst h; rfl)) (fun r S' hq _ _ => ?_)
                    obtain ⟨I2, rfl, rfl, h2⟩ := hq
                    refine Ex.goto (pc := 105) (tgt := 135) dX4_readPart_105 (by decide) ?_
                    refine Ex.vret (pc := 135) rfl dX4_readPart_135 (Nat.le_refl _) (Nat.le_refl _) ?_
                    have k3 : isK 3 (Except.ok (t, c) : Er) = false := decide_eq_false (fun e => c5 (by rw [h7, e]; rfl))
                    have knm : isNm sc (Except.ok (t, c) : Er) = false := by show (_ && mayW (ownW t.2.2.1) sc) = false; rw [bI_0 c43]; exact Bool.and_false _
                    rw [if_neg (by rw [k3]; decide), if_neg (by rw [knm]; decide), if_neg (by rw [bI_0 c71, bI_0 c80]; decide)]
                    rw [if_pos (bI_1 c97)]
                    exact ⟨_, rfl, rfl, h2⟩
                · skip
                  refine Ex.aload_n (pc := 83) dX4_readPart_83 rfl rfl ?_
                  refine Ex.iload_n (pc := 84) dX4_readPart_84 rfl rfl ?_
                  refine Ex.callV (pc := 85) (As := [.int _]) (rest := []) dX4_readPart_85 cX4_180 (t_les hB hsm hD ho2 h (by rw [bI_1 c80]; exact Bool.or_true _)) (s2_81 _ _) rfl rfl (by omega) (Nat.le_refl _) (Nat.le_refl _) (Nat.le_of_ble_eq_true rfl) (Or.inl (fun r S' h => by obtain ⟨_, _, h, _⟩ := h; subst h; rfl)) (fun r S' hq _ _ => ?_)
                  obtain ⟨I2, rfl, rfl, h2⟩ := hq
                  refine Ex.goto (pc := 88) (tgt := 135) dX4_readPart_88 (by decide) ?_
                  refine Ex.vret (pc := 135) rfl dX4_readPart_135 (Nat.le_refl _) (Nat.le_refl _) ?_
                  have k3 : isK 3 (Except.ok (t, c) : Er) = false := decide_eq_false (fun e => c5 (by rw [h7, e]; rfl))
                  have knm : isNm sc (Except.ok (t, c) : Er) = false := by show (_ && mayW (ownW t.2.2.1) sc) = false; rw [bI_0 c43]; exact Bool.and_false _
                  rw [if_neg (by rw [k3]; decide), if_neg (by rw [knm]; decide), if_pos (by rw [bI_1 c80]; exact Bool.or_true _)]
                  exact ⟨_, rfl, rfl, h2⟩
            · skip
              have hmw : mayW (ownW t.2.2.1) sc = true := bI_1 c43
              have knm : isNm sc (Except.ok (t, c) : Er) = true := by show (decide (t.1 = 2) && mayW (ownW t.2.2.1) sc) = true; rw [decide_eq_true e2, hmw]; rfl
              have k3 : isK 3 (Except.ok (t, c) : Er) = false := decide_eq_false (by omega)
              have hk1 := isK_k (r := (Except.ok (t, c) : Er)) (k := 2) (by decide) (decide_eq_true e2)
              obtain ⟨hw27, hwI⟩ : ownN t.2.2.1 < 27 ∧ ownW t.2.2.1 = nI (ownN t.2.2.1) := by
                rcases own_c t.2.2.1 with ⟨q, -⟩ | q
                · rw [q] at hmw; exact absurd hmw (by show ¬ false = true; decide)
                · exact q
              refine Ex.aload_n (pc := 46) dX4_readPart_46 rfl rfl ?_
              refine Ex.getR (pc := 47) dX4_readPart_47 fX4_57 (s2_81 _ _) r2_81_2 ?_
              refine Ex.iconst (pc := 50) (v := 1) dX4_readPart_50 rfl ?_
              refine Ex.aload_n (pc := 51) dX4_readPart_51 rfl rfl ?_
              refine Ex.getI (pc := 52) dX4_readPart_52 fX4_30 (s2_81 _ _) ?_
              rw [show I 81 9 = nI (ownN t.2.2.1) from e9.trans hwI]
              refine Ex.callV (pc := 55) (As := [.int 1, .int _]) (rest := []) dX4_readPart_55 cX4_171 (t_adS (k := 1) (v := ownN t.2.2.1) (d2 := d) (p2 := true) h hB.2.2 (by decide) (by omega) (h.roomE hk1)) (s2_82 _ _) rfl rfl (by omega) (Nat.le_refl _) (Nat.le_refl _) (Nat.le_of_ble_eq_true rfl) (Or.inl (fun r S' h => by obtain ⟨_, _, h, _⟩ := h; subst h; rfl)) (fun r S' hq _ _ => ?_)
              obtain ⟨I1, rfl, rfl, h1⟩ := hq
              refine Ex.aload_n (pc := 58) dX4_readPart_58 rfl rfl ?_
              refine Ex.callV (pc := 59) (As := []) (rest := []) dX4_readPart_59 cX4_61 (t_next hB h1) (s2_81 _ _) rfl rfl (by omega) (Nat.le_refl _) (Nat.le_refl _) (Nat.le_of_ble_eq_true rfl) (Or.inl (fun r S' h => by obtain ⟨_, _, h, _⟩ := h; subst h; rfl)) (fun r S' hq _ _ => ?_)
              obtain ⟨I2, rfl, rfl, h2⟩ := hq
              refine Ex.goto (pc := 62) (tgt := 135) dX4_readPart_62 (by decide) ?_
              refine Ex.vret (pc := 135) rfl dX4_readPart_135 (Nat.le_refl _) (Nat.le_refl _) ?_
              rw [if_neg (by rw [k3]; decide), if_pos knm]
              exact ⟨_, rfl, rfl, h2⟩
        · skip
          have e3 : t.1 = 3 := (nI_eq (by omega) (by decide)).mp (show nI t.1 = nI 3 from by rw [← h7]; exact c5)
          have k3 : isK 3 (Except.ok (t, c) : Er) = true := decide_eq_true e3
          have e8 : I 81 8 = nI t.2.1 := b1.2.2.2.2.2.1 (Or.inl e3)
          have hk1 := isK_k (by decide) k3
          have hv := b2.2.2.2.2.2.2.1 e3
          refine Ex.aload_n (pc := 8) dX4_readPart_8 rfl rfl ?_
          refine Ex.getR (pc := 9) dX4_readPart_9 fX4_57 (s2_81 _ _) r2_81_2 ?_
          refine Ex.iconst (pc := 12) (v := 0) dX4_readPart_12 rfl ?_
          refine Ex.aload_n (pc := 13) dX4_readPart_13 rfl rfl ?_
          refine Ex.getI (pc := 14) dX4_readPart_14 fX4_27 (s2_81 _ _) ?_
          rw [show I 81 8 = nI t.2.1 from e8]
          refine Ex.callV (pc := 17) (As := [.int 0, .int _]) (rest := []) dX4_readPart_17 cX4_171 (t_adS (k := 0) (v := t.2.1) (d2 := d) (p2 := true) h hB.2.2 (by decide) (by omega) (h.roomE hk1)) (s2_82 _ _) rfl rfl (by omega) (Nat.le_refl _) (Nat.le_refl _) (Nat.le_of_ble_eq_true rfl) (Or.inl (fun r S' h => by obtain ⟨_, _, h, _⟩ := h; subst h; rfl)) (fun r S' hq _ _ => ?_)
          obtain ⟨I1, rfl, rfl, h1⟩ := hq
          refine Ex.aload_n (pc := 20) dX4_readPart_20 rfl rfl ?_
          refine Ex.callV (pc := 21) (As := []) (rest := []) dX4_readPart_21 cX4_61 (t_next hB h1) (s2_81 _ _) rfl rfl (by omega) (Nat.le_refl _) (Nat.le_refl _) (Nat.le_of_ble_eq_true rfl) (Or.inl (fun r S' h => by obtain ⟨_, _, h, _⟩ := h; subst h; rfl)) (fun r S' hq _ _ => ?_)
          obtain ⟨I2, rfl, rfl, h2⟩ := hq
          refine Ex.goto (pc := 24) (tgt := 135) dX4_readPart_24 (by decide) ?_
          refine Ex.vret (pc := 135) rfl dX4_readPart_135 (Nat.le_refl _) (Nat.le_refl _) ?_
          rw [if_pos k3]
          exact ⟨_, rfl, rfl, h2⟩
      · have ho7 : o < 7 := by omega
        refine Ex.aload_n (pc := 0) dX4_readPart_0 rfl rfl ?_
        refine Ex.getI (pc := 1) dX4_readPart_1 fX4_24 (s2_81 _ _) ?_
        refine Ex.iconst (pc := 4) (v := 3) dX4_readPart_4 rfl ?_
        refine Ex.icmp_ne (pc := 5) (tgt := 27) dX4_readPart_5 (by decide) (fun c5 => ?_) (fun c5 => ?_)
        · skip
          refine Ex.aload_n (pc := 27) dX4_readPart_27 rfl rfl ?_
          refine Ex.getI (pc := 28) dX4_readPart_28 fX4_24 (s2_81 _ _) ?_
          refine Ex.iconst (pc := 31) (v := 2) dX4_readPart_31 rfl ?_
          refine Ex.icmp_ne (pc := 32) (tgt := 65) dX4_readPart_32 (by decide) (fun c32 => ?_) (fun c32 => ?_)
          · skip
            refine Ex.aload_n (pc := 65) dX4_readPart_65 rfl rfl ?_
            refine Ex.bipush (pc := 66) (v := 25) dX4_readPart_66 rfl ?_
            refine Ex.callV (pc := 68) (As := [.int 25]) (rest := []) dX4_readPart_68 cX4_102 (t_isW (k := 25) h (by decide)) (s2_81 _ _) rfl rfl (by omega) (Nat.le_refl _) (Nat.le_refl _) (Nat.le_of_ble_eq_true rfl) (Or.inl (fun r S' h => by obtain ⟨_, h⟩ := h; subst h; rfl)) (fun r S' hq _ _ => ?_)
            obtain ⟨rfl, rfl⟩ := hq
            refine Ex.if_ne (pc := 71) (tgt := 83) dX4_readPart_71 (by decide) (fun c71 => ?_) (fun c71 => ?_)
            · skip
              refine Ex.aload_n (pc := 83) dX4_readPart_83 rfl rfl ?_
              refine Ex.iload_n (pc := 84) dX4_readPart_84 rfl rfl ?_
              refine Ex.callV (pc := 85) (As := [.int _]) (rest := []) dX4_readPart_85 cX4_180 (t_les hB hsm hD ho2 h (by rw [bI_1 c71]; rfl)) (s2_81 _ _) rfl rfl (by omega) (Nat.le_refl _) (Nat.le_refl _) (Nat.le_of_ble_eq_true rfl) (Or.inl (fun r S' h => by obtain ⟨_, _, h, _⟩ := h; subst h; rfl)) (fun r S' hq _ _ => ?_)
              obtain ⟨I2, rfl, rfl, h2⟩ := hq
              refine Ex.goto (pc := 88) (tgt := 135) dX4_readPart_88 (by decide) ?_
              refine Ex.vret (pc := 135) rfl dX4_readPart_135 (Nat.le_refl _) (Nat.le_refl _) ?_
              have k3 : isK 3 (Except.ok (t, c) : Er) = false := decide_eq_false (fun e => c5 (by rw [h7, e]; rfl))
              have knm : isNm sc (Except.ok (t, c) : Er) = false := by show (decide (t.1 = 2) && _) = false; rw [decide_eq_false (fun e => c32 (by rw [h7, e]; rfl))]; rfl
              rw [if_neg (by rw [k3]; decide), if_neg (by rw [knm]; decide), if_pos (by rw [bI_1 c71]; rfl)]
              exact ⟨_, rfl, rfl, h2⟩
            · skip
              refine Ex.aload_n (pc := 74) dX4_readPart_74 rfl rfl ?_
              refine Ex.bipush (pc := 75) (v := 26) dX4_readPart_75 rfl ?_
              refine Ex.callV (pc := 77) (As := [.int 26]) (rest := []) dX4_readPart_77 cX4_102 (t_isW (k := 26) h (by decide)) (s2_81 _ _) rfl rfl (by omega) (Nat.le_refl _) (Nat.le_refl _) (Nat.le_of_ble_eq_true rfl) (Or.inl (fun r S' h => by obtain ⟨_, h⟩ := h; subst h; rfl)) (fun r S' hq _ _ => ?_)
              obtain ⟨rfl, rfl⟩ := hq
              refine Ex.if_eq (pc := 80) (tgt := 91) dX4_readPart_80 (by decide) (fun c80 => ?_) (fun c80 => ?_)
              · skip
                refine Ex.aload_n (pc := 91) dX4_readPart_91 rfl rfl ?_
                refine Ex.bipush (pc := 92) (v := 20) dX4_readPart_92 rfl ?_
                refine Ex.callV (pc := 94) (As := [.int 20]) (rest := []) dX4_readPart_94 cX4_102 (t_isW (k := 20) h (by decide)) (s2_81 _ _) rfl rfl (by omega) (Nat.le_refl _) (Nat.le_refl _) (Nat.le_of_ble_eq_true rfl) (Or.inl (fun r S' h => by obtain ⟨_, h⟩ := h; subst h; rfl)) (fun r S' hq _ _ => ?_)
                obtain ⟨rfl, rfl⟩ := hq
                refine Ex.if_eq (pc := 97) (tgt := 108) dX4_readPart_97 (by decide) (fun c97 => ?_) (fun c97 => ?_)
                · skip
                  refine Ex.aload_n (pc := 108) dX4_readPart_108 rfl rfl ?_
                  refine Ex.iload_n (pc := 109) dX4_readPart_109 rfl rfl ?_
                  refine Ex.aload_n (pc := 110) dX4_readPart_110 rfl rfl ?_
                  refine Ex.bipush (pc := 111) (v := 40) dX4_readPart_111 rfl ?_
                  refine Ex.callV (pc := 113) (As := [.int 40]) (rest := [.int _, .ref 81]) dX4_readPart_113 cX4_105 (t_isS (k := 40) h (by decide)) (s2_81 _ _) rfl rfl (by omega) (Nat.le_refl _) (Nat.le_refl _) (Nat.le_of_ble_eq_true rfl) (Or.inl (fun r S' h => by obtain ⟨_, h⟩ := h; subst h; rfl)) (fun r S' hq _ _ => ?_)
                  obtain ⟨rfl, rfl⟩ := hq
                  refine Ex.callV (pc := 116) (As := [.int _, .int _]) (rest := []) dX4_readPart_116 cX4_186 (t_openY (bI_t hs40) hB (h.pay (isS_k hs40)) ho7) (s2_81 _ _) rfl rfl (by omega) (Nat.le_refl _) (Nat.le_refl _) (Nat.le_of_ble_eq_true rfl) (Or.inl (fun r S' h => by obtain ⟨_, _, h, _⟩ := h; subst h; rfl)) (fun r S' hq _ _ => ?_)
                  obtain ⟨I1, rfl, rfl, h1⟩ := hq
                  refine Ex.if_eq (pc := 119) (tgt := 135) dX4_readPart_119 (by decide) (fun c119 => absurd c119 (by decide)) (fun _ => ?_)
                  refine Ex.aload_n (pc := 122) dX4_readPart_122 rfl rfl ?_
                  refine Ex.iload_n (pc := 123) dX4_readPart_123 rfl rfl ?_
                  refine Ex.iconst (pc := 124) (v := 1) dX4_readPart_124 rfl ?_
                  refine Ex.iadd (pc := 125) dX4_readPart_125 ?_
                  rw [show nI o + 1 = nI (o + 1) from nI_1 o]
                  refine Ex.callV (pc := 126) (As := [.int _]) (rest := []) dX4_readPart_126 cX4_133 (hsm ho7 _ _ _ h1.less) (s2_81 _ _) rfl rfl (by omega) (Nat.le_refl _) (Nat.le_refl _) (Nat.le_of_ble_eq_true rfl) (Or.inl (fun r S' h => by obtain ⟨_, _, h, _⟩ := h; subst h; rfl)) (fun r S' hq _ _ => ?_)
                  obtain ⟨I3, rfl, rfl, h3⟩ := hq
                  refine Ex.aload_n (pc := 129) dX4_readPart_129 rfl rfl ?_
                  refine Ex.bipush (pc := 130) (v := 41) dX4_readPart_130 rfl ?_
                  refine Ex.callV (pc := 132) (As := [.int 41]) (rest := []) dX4_readPart_132 cX4_145 (t_tkS (k := 41) hB h3 (by decide)) (s2_81 _ _) rfl rfl (by omega) (Nat.le_refl _) (Nat.le_refl _) (Nat.le_of_ble_eq_true rfl) (Or.inl (fun r S' h => by obtain ⟨_, _, h, _⟩ := h; subst h; rfl)) (fun r S' hq _ _ => ?_)
                  obtain ⟨I4, rfl, rfl, h4⟩ := hq
                  refine Ex.vret (pc := 135) rfl dX4_readPart_135 (Nat.le_refl _) (Nat.le_refl _) ?_
                  have k3 : isK 3 (Except.ok (t, c) : Er) = false := decide_eq_false (fun e => c5 (by rw [h7, e]; rfl))
                  have knm : isNm sc (Except.ok (t, c) : Er) = false := by show (decide (t.1 = 2) && _) = false; rw [decide_eq_false (fun e => c32 (by rw [h7, e]; rfl))]; rfl
                  rw [if_neg (by rw [k3]; decide), if_neg (by rw [knm]; decide), if_neg (by rw [bI_0 c71, bI_0 c80]; decide)]
                  rw [if_neg (by rw [bI_0 c97]; decide)]
                  rw [if_pos hs40, if_neg (by omega)]
                  exact ⟨_, rfl, rfl, h4⟩
                · skip
                  refine Ex.aload_n (pc := 100) dX4_readPart_100 rfl rfl ?_
                  refine Ex.iload_n (pc := 101) dX4_readPart_101 rfl rfl ?_
                  refine Ex.callV (pc := 102) (As := [.int _]) (rest := []) dX4_readPart_102 cX4_183 (t_cho hB hsm hD ho2 hte h (bI_1 c97)) (s2_81 _ _) rfl rfl (by omega) (Nat.le_refl _) (Nat.le_refl _) (Nat.le_of_ble_eq_true rfl) (Or.inl (fun r S' h => by obtain ⟨_, _, h, _⟩ := h; subst h; rfl)) (fun r S' hq _ _ => ?_)
                  obtain ⟨I2, rfl, rfl, h2⟩ := hq
                  refine Ex.goto (pc := 105) (tgt := 135) dX4_readPart_105 (by decide) ?_
                  refine Ex.vret (pc := 135) rfl dX4_readPart_135 (Nat.le_refl _) (Nat.le_refl _) ?_
                  have k3 : isK 3 (Except.ok (t, c) : Er) = false := decide_eq_false (fun e => c5 (by rw [h7, e]; rfl))
                  have knm : isNm sc (Except.ok (t, c) : Er) = false := by show (decide (t.1 = 2) && _) = false; rw [decide_eq_false (fun e => c32 (by rw [h7, e]; rfl))]; rfl
                  rw [if_neg (by rw [k3]; decide), if_neg (by rw [knm]; decide), if_neg (by rw [bI_0 c71, bI_0 c80]; decide)]
                  rw [if_pos (bI_1 c97)]
                  exact ⟨_, rfl, rfl, h2⟩
              · skip
                refine Ex.aload_n (pc := 83) dX4_readPart_83 rfl rfl ?_
                refine Ex.iload_n (pc := 84) dX4_readPart_84 rfl rfl ?_
                refine Ex.callV (pc := 85) (As := [.int _]) (rest := []) dX4_readPart_85 cX4_180 (t_les hB hsm hD ho2 h (by rw [bI_1 c80]; exact Bool.or_true _)) (s2_81 _ _) rfl rfl (by omega) (Nat.le_refl _) (Nat.le_refl _) (Nat.le_of_ble_eq_true rfl) (Or.inl (fun r S' h => by obtain ⟨_, _, h, _⟩ := h; subst h; rfl)) (fun r S' hq _ _ => ?_)
                obtain ⟨I2, rfl, rfl, h2⟩ := hq
                refine Ex.goto (pc := 88) (tgt := 135) dX4_readPart_88 (by decide) ?_
                refine Ex.vret (pc := 135) rfl dX4_readPart_135 (Nat.le_refl _) (Nat.le_refl _) ?_
                have k3 : isK 3 (Except.ok (t, c) : Er) = false := decide_eq_false (fun e => c5 (by rw [h7, e]; rfl))
                have knm : isNm sc (Except.ok (t, c) : Er) = false := by show (decide (t.1 = 2) && _) = false; rw [decide_eq_false (fun e => c32 (by rw [h7, e]; rfl))]; rfl
                rw [if_neg (by rw [k3]; decide), if_neg (by rw [knm]; decide), if_pos (by rw [bI_1 c80]; exact Bool.or_true _)]
                exact ⟨_, rfl, rfl, h2⟩
          · skip
            have e2 : t.1 = 2 := (nI_eq (by omega) (by decide)).mp (show nI t.1 = nI 2 from by rw [← h7]; exact c32)
            have e9 : I 81 9 = ownW t.2.2.1 := (b1.2.2.2.2.1 e2).2
            refine Ex.aload_n (pc := 35) dX4_readPart_35 rfl rfl ?_
            refine Ex.aload_n (pc := 36) dX4_readPart_36 rfl rfl ?_
            refine Ex.getI (pc := 37) dX4_readPart_37 fX4_30 (s2_81 _ _) ?_
            rw [e9]
            refine Ex.callV (pc := 40) (As := [.int _]) (rest := []) dX4_readPart_40 cX4_177 (t_mayStand (w := ownW t.2.2.1) hs10 hsc9) (s2_81 _ _) rfl rfl (by omega) (Nat.le_refl _) (Nat.le_refl _) (Nat.le_of_ble_eq_true rfl) (Or.inl (fun r S' h => by obtain ⟨_, h⟩ := h; subst h; rfl)) (fun r S' hq _ _ => ?_)
            obtain ⟨rfl, rfl⟩ := hq
            refine Ex.if_eq (pc := 43) (tgt := 65) dX4_readPart_43 (by decide) (fun c43 => ?_) (fun c43 => ?_)
            · skip
              refine Ex.aload_n (pc := 65) dX4_readPart_65 rfl rfl ?_
              refine Ex.bipush (pc := 66) (v := 25) dX4_readPart_66 rfl ?_
              refine Ex.callV (pc := 68) (As := [.int 25]) (rest := []) dX4_readPart_68 cX4_102 (t_isW (k := 25) h (by decide)) (s2_81 _ _) rfl rfl (by omega) (Nat.le_refl _) (Nat.le_refl _) (Nat.le_of_ble_eq_true rfl) (Or.inl (fun r S' h => by obtain ⟨_, h⟩ := h; subst h; rfl)) (fun r S' hq _ _ => ?_)
              obtain ⟨rfl, rfl⟩ := hq
              refine Ex.if_ne (pc := 71) (tgt := 83) dX4_readPart_71 (by decide) (fun c71 => ?_) (fun c71 => ?_)
              · skip
                refine Ex.aload_n (pc := 83) dX4_readPart_83 rfl rfl ?_
                refine Ex.iload_n (pc := 84) dX4_readPart_84 rfl rfl ?_
                refine Ex.callV (pc := 85) (As := [.int _]) (rest := []) dX4_readPart_85 cX4_180 (t_les hB hsm hD ho2 h (by rw [bI_1 c71]; rfl)) (s2_81 _ _) rfl rfl (by omega) (Nat.le_refl _) (Nat.le_refl _) (Nat.le_of_ble_eq_true rfl) (Or.inl (fun r S' h => by obtain ⟨_, _, h, _⟩ := h; subst h; rfl)) (fun r S' hq _ _ => ?_)
                obtain ⟨I2, rfl, rfl, h2⟩ := hq
                refine Ex.goto (pc := 88) (tgt := 135) dX4_readPart_88 (by decide) ?_
                refine Ex.vret (pc := 135) rfl dX4_readPart_135 (Nat.le_refl _) (Nat.le_refl _) ?_
                have k3 : isK 3 (Except.ok (t, c) : Er) = false := decide_eq_false (fun e => c5 (by rw [h7, e]; rfl))
                have knm : isNm sc (Except.ok (t, c) : Er) = false := by show (_ && mayW (ownW t.2.2.1) sc) = false; rw [bI_0 c43]; exact Bool.and_false _
                rw [if_neg (by rw [k3]; decide), if_neg (by rw [knm]; decide), if_pos (by rw [bI_1 c71]; rfl)]
                exact ⟨_, rfl, rfl, h2⟩
              · skip
                refine Ex.aload_n (pc := 74) dX4_readPart_74 rfl rfl ?_
                refine Ex.bipush (pc := 75) (v := 26) dX4_readPart_75 rfl ?_
                refine Ex.callV (pc := 77) (As := [.int 26]) (rest := []) dX4_readPart_77 cX4_102 (t_isW (k := 26) h (by decide)) (s2_81 _ _) rfl rfl (by omega) (Nat.le_refl _) (Nat.le_refl _) (Nat.le_of_ble_eq_true rfl) (Or.inl (fun r S' h => by obtain ⟨_, h⟩ := h; subst h; rfl)) (fun r S' hq _ _ => ?_)
                obtain ⟨rfl, rfl⟩ := hq
                refine Ex.if_eq (pc := 80) (tgt := 91) dX4_readPart_80 (by decide) (fun c80 => ?_) (fun c80 => ?_)
                · skip
                  refine Ex.aload_n (pc := 91) dX4_readPart_91 rfl rfl ?_
                  refine Ex.bipush (pc := 92) (v := 20) dX4_readPart_92 rfl ?_
                  refine Ex.callV (pc := 94) (As := [.int 20]) (rest := []) dX4_readPart_94 cX4_102 (t_isW (k := 20) h (by decide)) (s2_81 _ _) rfl rfl (by omega) (Nat.le_refl _) (Nat.le_refl _) (Nat.le_of_ble_eq_true rfl) (Or.inl (fun r S' h => by obtain ⟨_, h⟩ := h; subst h; rfl)) (fun r S' hq _ _ => ?_)
                  obtain ⟨rfl, rfl⟩ := hq
                  refine Ex.if_eq (pc := 97) (tgt := 108) dX4_readPart_97 (by decide) (fun c97 => ?_) (fun c97 => ?_)
                  · skip
                    refine Ex.aload_n (pc := 108) dX4_readPart_108 rfl rfl ?_
                    refine Ex.iload_n (pc := 109) dX4_readPart_109 rfl rfl ?_
                    refine Ex.aload_n (pc := 110) dX4_readPart_110 rfl rfl ?_
                    refine Ex.bipush (pc := 111) (v := 40) dX4_readPart_111 rfl ?_
                    refine Ex.callV (pc := 113) (As := [.int 40]) (rest := [.int _, .ref 81]) dX4_readPart_113 cX4_105 (t_isS (k := 40) h (by decide)) (s2_81 _ _) rfl rfl (by omega) (Nat.le_refl _) (Nat.le_refl _) (Nat.le_of_ble_eq_true rfl) (Or.inl (fun r S' h => by obtain ⟨_, h⟩ := h; subst h; rfl)) (fun r S' hq _ _ => ?_)
                    obtain ⟨rfl, rfl⟩ := hq
                    refine Ex.callV (pc := 116) (As := [.int _, .int _]) (rest := []) dX4_readPart_116 cX4_186 (t_openY (bI_t hs40) hB (h.pay (isS_k hs40)) ho7) (s2_81 _ _) rfl rfl (by omega) (Nat.le_refl _) (Nat.le_refl _) (Nat.le_of_ble_eq_true rfl) (Or.inl (fun r S' h => by obtain ⟨_, _, h, _⟩ := h; subst h; rfl)) (fun r S' hq _ _ => ?_)
                    obtain ⟨I1, rfl, rfl, h1⟩ := hq
                    refine Ex.if_eq (pc := 119) (tgt := 135) dX4_readPart_119 (by decide) (fun c119 => absurd c119 (by decide)) (fun _ => ?_)
                    refine Ex.aload_n (pc := 122) dX4_readPart_122 rfl rfl ?_
                    refine Ex.iload_n (pc := 123) dX4_readPart_123 rfl rfl ?_
                    refine Ex.iconst (pc := 124) (v := 1) dX4_readPart_124 rfl ?_
                    refine Ex.iadd (pc := 125) dX4_readPart_125 ?_
                    rw [show nI o + 1 = nI (o + 1) from nI_1 o]
                    refine Ex.callV (pc := 126) (As := [.int _]) (rest := []) dX4_readPart_126 cX4_133 (hsm ho7 _ _ _ h1.less) (s2_81 _ _) rfl rfl (by omega) (Nat.le_refl _) (Nat.le_refl _) (Nat.le_of_ble_eq_true rfl) (Or.inl (fun r S' h => by obtain ⟨_, _, h, _⟩ := h; subst h; rfl)) (fun r S' hq _ _ => ?_)
                    obtain ⟨I3, rfl, rfl, h3⟩ := hq
                    refine Ex.aload_n (pc := 129) dX4_readPart_129 rfl rfl ?_
                    refine Ex.bipush (pc := 130) (v := 41) dX4_readPart_130 rfl ?_
                    refine Ex.callV (pc := 132) (As := [.int 41]) (rest := []) dX4_readPart_132 cX4_145 (t_tkS (k := 41) hB h3 (by decide)) (s2_81 _ _) rfl rfl (by omega) (Nat.le_refl _) (Nat.le_refl _) (Nat.le_of_ble_eq_true rfl) (Or.inl (fun r S' h => by obtain ⟨_, _, h, _⟩ := h; subst h; rfl)) (fun r S' hq _ _ => ?_)
                    obtain ⟨I4, rfl, rfl, h4⟩ := hq
                    refine Ex.vret (pc := 135) rfl dX4_readPart_135 (Nat.le_refl _) (Nat.le_refl _) ?_
                    have k3 : isK 3 (Except.ok (t, c) : Er) = false := decide_eq_false (fun e => c5 (by rw [h7, e]; rfl))
                    have knm : isNm sc (Except.ok (t, c) : Er) = false := by show (_ && mayW (ownW t.2.2.1) sc) = false; rw [bI_0 c43]; exact Bool.and_false _
                    rw [if_neg (by rw [k3]; decide), if_neg (by rw [knm]; decide), if_neg (by rw [bI_0 c71, bI_0 c80]; decide)]
                    rw [if_neg (by rw [bI_0 c97]; decide)]
                    rw [if_pos hs40, if_neg (by omega)]
                    exact ⟨_, rfl, rfl, h4⟩
                  · skip
                    refine Ex.aload_n (pc := 100) dX4_readPart_100 rfl rfl ?_
                    refine Ex.iload_n (pc := 101) dX4_readPart_101 rfl rfl ?_
                    refine Ex.callV (pc := 102) (As := [.int _]) (rest := []) dX4_readPart_102 cX4_183 (t_cho hB hsm hD ho2 hte h (bI_1 c97)) (s2_81 _ _) rfl rfl (by omega) (Nat.le_refl _) (Nat.le_refl _) (Nat.le_of_ble_eq_true rfl) (Or.inl (fun r S' h => by obtain ⟨_, _, h, _⟩ := h; subst h; rfl)) (fun r S' hq _ _ => ?_)
                    obtain ⟨I2, rfl, rfl, h2⟩ := hq
                    refine Ex.goto (pc := 105) (tgt := 135) dX4_readPart_105 (by decide) ?_
                    refine Ex.vret (pc := 135) rfl dX4_readPart_135 (Nat.le_refl _) (Nat.le_refl _) ?_
                    have k3 : isK 3 (Except.ok (t, c) : Er) = false := decide_eq_false (fun e => c5 (by rw [h7, e]; rfl))
                    have knm : isNm sc (Except.ok (t, c) : Er) = false := by show (_ && mayW (ownW t.2.2.1) sc) = false; rw [bI_0 c43]; exact Bool.and_false _
                    rw [if_neg (by rw [k3]; decide), if_neg (by rw [knm]; decide), if_neg (by rw [bI_0 c71, bI_0 c80]; decide)]
                    rw [if_pos (bI_1 c97)]
                    exact ⟨_, rfl, rfl, h2⟩
                · skip
                  refine Ex.aload_n (pc := 83) dX4_readPart_83 rfl rfl ?_
                  refine Ex.iload_n (pc := 84) dX4_readPart_84 rfl rfl ?_
                  refine Ex.callV (pc := 85) (As := [.int _]) (rest := []) dX4_readPart_85 cX4_180 (t_les hB hsm hD ho2 h (by rw [bI_1 c80]; exact Bool.or_true _)) (s2_81 _ _) rfl rfl (by omega) (Nat.le_refl _) (Nat.le_refl _) (Nat.le_of_ble_eq_true rfl) (Or.inl (fun r S' h => by obtain ⟨_, _, h, _⟩ := h; subst h; rfl)) (fun r S' hq _ _ => ?_)
                  obtain ⟨I2, rfl, rfl, h2⟩ := hq
                  refine Ex.goto (pc := 88) (tgt := 135) dX4_readPart_88 (by decide) ?_
                  refine Ex.vret (pc := 135) rfl dX4_readPart_135 (Nat.le_refl _) (Nat.le_refl _) ?_
                  have k3 : isK 3 (Except.ok (t, c) : Er) = false := decide_eq_false (fun e => c5 (by rw [h7, e]; rfl))
                  have knm : isNm sc (Except.ok (t, c) : Er) = false := by show (_ && mayW (ownW t.2.2.1) sc) = false; rw [bI_0 c43]; exact Bool.and_false _
                  rw [if_neg (by rw [k3]; decide), if_neg (by rw [knm]; decide), if_pos (by rw [bI_1 c80]; exact Bool.or_true _)]
                  exact ⟨_, rfl, rfl, h2⟩
            · skip
              have hmw : mayW (ownW t.2.2.1) sc = true := bI_1 c43
              have knm : isNm sc (Except.ok (t, c) : Er) = true := by show (decide (t.1 = 2) && mayW (ownW t.2.2.1) sc) = true; rw [decide_eq_true e2, hmw]; rfl
              have k3 : isK 3 (Except.ok (t, c) : Er) = false := decide_eq_false (by omega)
              have hk1 := isK_k (r := (Except.ok (t, c) : Er)) (k := 2) (by decide) (decide_eq_true e2)
              obtain ⟨hw27, hwI⟩ : ownN t.2.2.1 < 27 ∧ ownW t.2.2.1 = nI (ownN t.2.2.1) := by
                rcases own_c t.2.2.1 with ⟨q, -⟩ | q
                · rw [q] at hmw; exact absurd hmw (by show ¬ false = true; decide)
                · exact q
              refine Ex.aload_n (pc := 46) dX4_readPart_46 rfl rfl ?_
              refine Ex.getR (pc := 47) dX4_readPart_47 fX4_57 (s2_81 _ _) r2_81_2 ?_
              refine Ex.iconst (pc := 50) (v := 1) dX4_readPart_50 rfl ?_
              refine Ex.aload_n (pc := 51) dX4_readPart_51 rfl rfl ?_
              refine Ex.getI (pc := 52) dX4_readPart_52 fX4_30 (s2_81 _ _) ?_
              rw [show I 81 9 = nI (ownN t.2.2.1) from e9.trans hwI]
              refine Ex.callV (pc := 55) (As := [.int 1, .int _]) (rest := []) dX4_readPart_55 cX4_171 (t_adS (k := 1) (v := ownN t.2.2.1) (d2 := d) (p2 := true) h hB.2.2 (by decide) (by omega) (h.roomE hk1)) (s2_82 _ _) rfl rfl (by omega) (Nat.le_refl _) (Nat.le_refl _) (Nat.le_of_ble_eq_true rfl) (Or.inl (fun r S' h => by obtain ⟨_, _, h, _⟩ := h; subst h; rfl)) (fun r S' hq _ _ => ?_)
              obtain ⟨I1, rfl, rfl, h1⟩ := hq
              refine Ex.aload_n (pc := 58) dX4_readPart_58 rfl rfl ?_
              refine Ex.callV (pc := 59) (As := []) (rest := []) dX4_readPart_59 cX4_61 (t_next hB h1) (s2_81 _ _) rfl rfl (by omega) (Nat.le_refl _) (Nat.le_refl _) (Nat.le_of_ble_eq_true rfl) (Or.inl (fun r S' h => by obtain ⟨_, _, h, _⟩ := h; subst h; rfl)) (fun r S' hq _ _ => ?_)
              obtain ⟨I2, rfl, rfl, h2⟩ := hq
              refine Ex.goto (pc := 62) (tgt := 135) dX4_readPart_62 (by decide) ?_
              refine Ex.vret (pc := 135) rfl dX4_readPart_135 (Nat.le_refl _) (Nat.le_refl _) ?_
              rw [if_neg (by rw [k3]; decide), if_pos knm]
              exact ⟨_, rfl, rfl, h2⟩
        · skip
          have e3 : t.1 = 3 := (nI_eq (by omega) (by decide)).mp (show nI t.1 = nI 3 from by rw [← h7]; exact c5)
          have k3 : isK 3 (Except.ok (t, c) : Er) = true := decide_eq_true e3
          have e8 : I 81 8 = nI t.2.1 := b1.2.2.2.2.2.1 (Or.inl e3)
          have hk1 := isK_k (by decide) k3
          have hv := b2.2.2.2.2.2.2.1 e3
          refine Ex.aload_n (pc := 8) dX4_readPart_8 rfl rfl ?_
          refine Ex.getR (pc := 9) dX4_readPart_9 fX4_57 (s2_81 _ _) r2_81_2 ?_
          refine Ex.iconst (pc := 12) (v := 0) dX4_readPart_12 rfl ?_
          refine Ex.aload_n (pc := 13) dX4_readPart_13 rfl rfl ?_
          refine Ex.getI (pc := 14) dX4_readPart_14 fX4_27 (s2_81 _ _) ?_
          rw [show I 81 8 = nI t.2.1 from e8]
          refine Ex.callV (pc := 17) (As := [.int 0, .int _]) (rest := []) dX4_readPart_17 cX4_171 (t_adS (k := 0) (v := t.2.1) (d2 := d) (p2 := true) h hB.2.2 (by decide) (by omega) (h.roomE hk1)) (s2_82 _ _) rfl rfl (by omega) (Nat.le_refl _) (Nat.le_refl _) (Nat.le_of_ble_eq_true rfl) (Or.inl (fun r S' h => by obtain ⟨_, _, h, _⟩ := h; subst h; rfl)) (fun r S' hq _ _ => ?_)
          obtain ⟨I1, rfl, rfl, h1⟩ := hq
          refine Ex.aload_n (pc := 20) dX4_readPart_20 rfl rfl ?_
          refine Ex.callV (pc := 21) (As := []) (rest := []) dX4_readPart_21 cX4_61 (t_next hB h1) (s2_81 _ _) rfl rfl (by omega) (Nat.le_refl _) (Nat.le_refl _) (Nat.le_of_ble_eq_true rfl) (Or.inl (fun r S' h => by obtain ⟨_, _, h, _⟩ := h; subst h; rfl)) (fun r S' hq _ _ => ?_)
          obtain ⟨I2, rfl, rfl, h2⟩ := hq
          refine Ex.goto (pc := 24) (tgt := 135) dX4_readPart_24 (by decide) ?_
          refine Ex.vret (pc := 135) rfl dX4_readPart_135 (Nat.le_refl _) (Nat.le_refl _) ?_
          rw [if_pos k3]
          exact ⟨_, rfl, rfl, h2⟩
    · skip
      refine Ex.aload_n (pc := 0) dX4_readPart_0 rfl rfl ?_
      refine Ex.getI (pc := 1) dX4_readPart_1 fX4_24 (s2_81 _ _) ?_
      refine Ex.iconst (pc := 4) (v := 3) dX4_readPart_4 rfl ?_
      refine Ex.icmp_ne (pc := 5) (tgt := 27) dX4_readPart_5 (by decide) (fun c5 => ?_) (fun c5 => ?_)
      · skip
        refine Ex.aload_n (pc := 27) dX4_readPart_27 rfl rfl ?_
        refine Ex.getI (pc := 28) dX4_readPart_28 fX4_24 (s2_81 _ _) ?_
        refine Ex.iconst (pc := 31) (v := 2) dX4_readPart_31 rfl ?_
        refine Ex.icmp_ne (pc := 32) (tgt := 65) dX4_readPart_32 (by decide) (fun c32 => ?_) (fun c32 => ?_)
        · skip
          refine Ex.aload_n (pc := 65) dX4_readPart_65 rfl rfl ?_
          refine Ex.bipush (pc := 66) (v := 25) dX4_readPart_66 rfl ?_
          refine Ex.callV (pc := 68) (As := [.int 25]) (rest := []) dX4_readPart_68 cX4_102 (t_isW (k := 25) h (by decide)) (s2_81 _ _) rfl rfl (by omega) (Nat.le_refl _) (Nat.le_refl _) (Nat.le_of_ble_eq_true rfl) (Or.inl (fun r S' h => by obtain ⟨_, h⟩ := h; subst h; rfl)) (fun r S' hq _ _ => ?_)
          obtain ⟨rfl, rfl⟩ := hq
          refine Ex.if_ne (pc := 71) (tgt := 83) dX4_readPart_71 (by decide) (fun c71 => ?_) (fun c71 => ?_)
          · skip
            refine Ex.aload_n (pc := 83) dX4_readPart_83 rfl rfl ?_
            refine Ex.iload_n (pc := 84) dX4_readPart_84 rfl rfl ?_
            refine Ex.callV (pc := 85) (As := [.int _]) (rest := []) dX4_readPart_85 cX4_180 (t_les hB hsm hD ho2 h (by rw [bI_1 c71]; rfl)) (s2_81 _ _) rfl rfl (by omega) (Nat.le_refl _) (Nat.le_refl _) (Nat.le_of_ble_eq_true rfl) (Or.inl (fun r S' h => by obtain ⟨_, _, h, _⟩ := h; subst h; rfl)) (fun r S' hq _ _ => ?_)
            obtain ⟨I2, rfl, rfl, h2⟩ := hq
            refine Ex.goto (pc := 88) (tgt := 135) dX4_readPart_88 (by decide) ?_
            refine Ex.vret (pc := 135) rfl dX4_readPart_135 (Nat.le_refl _) (Nat.le_refl _) ?_
            have k3 : isK 3 (Except.ok (t, c) : Er) = false := decide_eq_false (fun e => c5 (by rw [h7, e]; rfl))
            have knm : isNm sc (Except.ok (t, c) : Er) = false := by show (decide (t.1 = 2) && _) = false; rw [decide_eq_false (fun e => c32 (by rw [h7, e]; rfl))]; rfl
            rw [if_neg (by rw [k3]; decide), if_neg (by rw [knm]; decide), if_pos (by rw [bI_1 c71]; rfl)]
            exact ⟨_, rfl, rfl, h2⟩
          · skip
            refine Ex.aload_n (pc := 74) dX4_readPart_74 rfl rfl ?_
            refine Ex.bipush (pc := 75) (v := 26) dX4_readPart_75 rfl ?_
            refine Ex.callV (pc := 77) (As := [.int 26]) (rest := []) dX4_readPart_77 cX4_102 (t_isW (k := 26) h (by decide)) (s2_81 _ _) rfl rfl (by omega) (Nat.le_refl _) (Nat.le_refl _) (Nat.le_of_ble_eq_true rfl) (Or.inl (fun r S' h => by obtain ⟨_, h⟩ := h; subst h; rfl)) (fun r S' hq _ _ => ?_)
            obtain ⟨rfl, rfl⟩ := hq
            refine Ex.if_eq (pc := 80) (tgt := 91) dX4_readPart_80 (by decide) (fun c80 => ?_) (fun c80 => ?_)
            · skip
              refine Ex.aload_n (pc := 91) dX4_readPart_91 rfl rfl ?_
              refine Ex.bipush (pc := 92) (v := 20) dX4_readPart_92 rfl ?_
              refine Ex.callV (pc := 94) (As := [.int 20]) (rest := []) dX4_readPart_94 cX4_102 (t_isW (k := 20) h (by decide)) (s2_81 _ _) rfl rfl (by omega) (Nat.le_refl _) (Nat.le_refl _) (Nat.le_of_ble_eq_true rfl) (Or.inl (fun r S' h => by obtain ⟨_, h⟩ := h; subst h; rfl)) (fun r S' hq _ _ => ?_)
              obtain ⟨rfl, rfl⟩ := hq
              refine Ex.if_eq (pc := 97) (tgt := 108) dX4_readPart_97 (by decide) (fun c97 => ?_) (fun c97 => ?_)
              · skip
                refine Ex.aload_n (pc := 108) dX4_readPart_108 rfl rfl ?_
                refine Ex.iload_n (pc := 109) dX4_readPart_109 rfl rfl ?_
                refine Ex.aload_n (pc := 110) dX4_readPart_110 rfl rfl ?_
                refine Ex.bipush (pc := 111) (v := 40) dX4_readPart_111 rfl ?_
                refine Ex.callV (pc := 113) (As := [.int 40]) (rest := [.int _, .ref 81]) dX4_readPart_113 cX4_105 (t_isS (k := 40) h (by decide)) (s2_81 _ _) rfl rfl (by omega) (Nat.le_refl _) (Nat.le_refl _) (Nat.le_of_ble_eq_true rfl) (Or.inl (fun r S' h => by obtain ⟨_, h⟩ := h; subst h; rfl)) (fun r S' hq _ _ => ?_)
                obtain ⟨rfl, rfl⟩ := hq
                refine Ex.callV (pc := 116) (As := [.int _, .int _]) (rest := []) dX4_readPart_116 cX4_186 (t_open0 (bI_f (Bool.eq_false_iff.mpr hs40)) h) (s2_81 _ _) rfl rfl (by omega) (Nat.le_refl _) (Nat.le_refl _) (Nat.le_of_ble_eq_true rfl) (Or.inl (fun r S' h => by obtain ⟨_, _, h, _⟩ := h; subst h; rfl)) (fun r S' hq _ _ => ?_)
                obtain ⟨I2, rfl, rfl, h2⟩ := hq
                refine Ex.if_eq (pc := 119) (tgt := 135) dX4_readPart_119 (by decide) (fun _ => ?_) (fun c119 => absurd rfl c119)
                refine Ex.vret (pc := 135) rfl dX4_readPart_135 (Nat.le_refl _) (Nat.le_refl _) ?_
                have k3 : isK 3 (Except.ok (t, c) : Er) = false := decide_eq_false (fun e => c5 (by rw [h7, e]; rfl))
                have knm : isNm sc (Except.ok (t, c) : Er) = false := by show (decide (t.1 = 2) && _) = false; rw [decide_eq_false (fun e => c32 (by rw [h7, e]; rfl))]; rfl
                rw [if_neg (by rw [k3]; decide), if_neg (by rw [knm]; decide), if_neg (by rw [bI_0 c71, bI_0 c80]; decide)]
                rw [if_neg (by rw [bI_0 c97]; decide)]
                rw [if_neg hs40]
                exact ⟨_, rfl, rfl, h2⟩
              · skip
                refine Ex.aload_n (pc := 100) dX4_readPart_100 rfl rfl ?_
                refine Ex.iload_n (pc := 101) dX4_readPart_101 rfl rfl ?_
                refine Ex.callV (pc := 102) (As := [.int _]) (rest := []) dX4_readPart_102 cX4_183 (t_cho hB hsm hD ho2 hte h (bI_1 c97)) (s2_81 _ _) rfl rfl (by omega) (Nat.le_refl _) (Nat.le_refl _) (Nat.le_of_ble_eq_true rfl) (Or.inl (fun r S' h => by obtain ⟨_, _, h, _⟩ := h; subst h; rfl)) (fun r S' hq _ _ => ?_)
                obtain ⟨I2, rfl, rfl, h2⟩ := hq
                refine Ex.goto (pc := 105) (tgt := 135) dX4_readPart_105 (by decide) ?_
                refine Ex.vret (pc := 135) rfl dX4_readPart_135 (Nat.le_refl _) (Nat.le_refl _) ?_
                have k3 : isK 3 (Except.ok (t, c) : Er) = false := decide_eq_false (fun e => c5 (by rw [h7, e]; rfl))
                have knm : isNm sc (Except.ok (t, c) : Er) = false := by show (decide (t.1 = 2) && _) = false; rw [decide_eq_false (fun e => c32 (by rw [h7, e]; rfl))]; rfl
                rw [if_neg (by rw [k3]; decide), if_neg (by rw [knm]; decide), if_neg (by rw [bI_0 c71, bI_0 c80]; decide)]
                rw [if_pos (bI_1 c97)]
                exact ⟨_, rfl, rfl, h2⟩
            · skip
              refine Ex.aload_n (pc := 83) dX4_readPart_83 rfl rfl ?_
              refine Ex.iload_n (pc := 84) dX4_readPart_84 rfl rfl ?_
              refine Ex.callV (pc := 85) (As := [.int _]) (rest := []) dX4_readPart_85 cX4_180 (t_les hB hsm hD ho2 h (by rw [bI_1 c80]; exact Bool.or_true _)) (s2_81 _ _) rfl rfl (by omega) (Nat.le_refl _) (Nat.le_refl _) (Nat.le_of_ble_eq_true rfl) (Or.inl (fun r S' h => by obtain ⟨_, _, h, _⟩ := h; subst h; rfl)) (fun r S' hq _ _ => ?_)
              obtain ⟨I2, rfl, rfl, h2⟩ := hq
              refine Ex.goto (pc := 88) (tgt := 135) dX4_readPart_88 (by decide) ?_
              refine Ex.vret (pc := 135) rfl dX4_readPart_135 (Nat.le_refl _) (Nat.le_refl _) ?_
              have k3 : isK 3 (Except.ok (t, c) : Er) = false := decide_eq_false (fun e => c5 (by rw [h7, e]; rfl))
              have knm : isNm sc (Except.ok (t, c) : Er) = false := by show (decide (t.1 = 2) && _) = false; rw [decide_eq_false (fun e => c32 (by rw [h7, e]; rfl))]; rfl
              rw [if_neg (by rw [k3]; decide), if_neg (by rw [knm]; decide), if_pos (by rw [bI_1 c80]; exact Bool.or_true _)]
              exact ⟨_, rfl, rfl, h2⟩
        · skip
          have e2 : t.1 = 2 := (nI_eq (by omega) (by decide)).mp (show nI t.1 = nI 2 from by rw [← h7]; exact c32)
          have e9 : I 81 9 = ownW t.2.2.1 := (b1.2.2.2.2.1 e2).2
          refine Ex.aload_n (pc := 35) dX4_readPart_35 rfl rfl ?_
          refine Ex.aload_n (pc := 36) dX4_readPart_36 rfl rfl ?_
          refine Ex.getI (pc := 37) dX4_readPart_37 fX4_30 (s2_81 _ _) ?_
          rw [e9]
          refine Ex.callV (pc := 40) (As := [.int _]) (rest := []) dX4_readPart_40 cX4_177 (t_mayStand (w := ownW t.2.2.1) hs10 hsc9) (s2_81 _ _) rfl rfl (by omega) (Nat.le_refl _) (Nat.le_refl _) (Nat.le_of_ble_eq_true rfl) (Or.inl (fun r S' h => by obtain ⟨_, h⟩ := h; subst h; rfl)) (fun r S' hq _ _ => ?_)
          obtain ⟨rfl, rfl⟩ := hq
          refine Ex.if_eq (pc := 43) (tgt := 65) dX4_readPart_43 (by decide) (fun c43 => ?_) (fun c43 => ?_)
          · skip
            refine Ex.aload_n (pc := 65) dX4_readPart_65 rfl rfl ?_
            refine Ex.bipush (pc := 66) (v := 25) dX4_readPart_66 rfl ?_
            refine Ex.callV (pc := 68) (As := [.int 25]) (rest := []) dX4_readPart_68 cX4_102 (t_isW (k := 25) h (by decide)) (s2_81 _ _) rfl rfl (by omega) (Nat.le_refl _) (Nat.le_refl _) (Nat.le_of_ble_eq_true rfl) (Or.inl (fun r S' h => by obtain ⟨_, h⟩ := h; subst h; rfl)) (fun r S' hq _ _ => ?_)
            obtain ⟨rfl, rfl⟩ := hq
            refine Ex.if_ne (pc := 71) (tgt := 83) dX4_readPart_71 (by decide) (fun c71 => ?_) (fun c71 => ?_)
            · skip
              refine Ex.aload_n (pc := 83) dX4_readPart_83 rfl rfl ?_
              refine Ex.iload_n (pc := 84) dX4_readPart_84 rfl rfl ?_
              refine Ex.callV (pc := 85) (As := [.int _]) (rest := []) dX4_readPart_85 cX4_180 (t_les hB hsm hD ho2 h (by rw [bI_1 c71]; rfl)) (s2_81 _ _) rfl rfl (by omega) (Nat.le_refl _) (Nat.le_refl _) (Nat.le_of_ble_eq_true rfl) (Or.inl (fun r S' h => by obtain ⟨_, _, h, _⟩ := h; subst h; rfl)) (fun r S' hq _ _ => ?_)
              obtain ⟨I2, rfl, rfl, h2⟩ := hq
              refine Ex.goto (pc := 88) (tgt := 135) dX4_readPart_88 (by decide) ?_
              refine Ex.vret (pc := 135) rfl dX4_readPart_135 (Nat.le_refl _) (Nat.le_refl _) ?_
              have k3 : isK 3 (Except.ok (t, c) : Er) = false := decide_eq_false (fun e => c5 (by rw [h7, e]; rfl))
              have knm : isNm sc (Except.ok (t, c) : Er) = false := by show (_ && mayW (ownW t.2.2.1) sc) = false; rw [bI_0 c43]; exact Bool.and_false _
              rw [if_neg (by rw [k3]; decide), if_neg (by rw [knm]; decide), if_pos (by rw [bI_1 c71]; rfl)]
              exact ⟨_, rfl, rfl, h2⟩
            · skip
              refine Ex.aload_n (pc := 74) dX4_readPart_74 rfl rfl ?_
              refine Ex.bipush (pc := 75) (v := 26) dX4_readPart_75 rfl ?_
              refine Ex.callV (pc := 77) (As := [.int 26]) (rest := []) dX4_readPart_77 cX4_102 (t_isW (k := 26) h (by decide)) (s2_81 _ _) rfl rfl (by omega) (Nat.le_refl _) (Nat.le_refl _) (Nat.le_of_ble_eq_true rfl) (Or.inl (fun r S' h => by obtain ⟨_, h⟩ := h; subst h; rfl)) (fun r S' hq _ _ => ?_)
              obtain ⟨rfl, rfl⟩ := hq
              refine Ex.if_eq (pc := 80) (tgt := 91) dX4_readPart_80 (by decide) (fun c80 => ?_) (fun c80 => ?_)
              · skip
                refine Ex.aload_n (pc := 91) dX4_readPart_91 rfl rfl ?_
                refine Ex.bipush (pc := 92) (v := 20) dX4_readPart_92 rfl ?_
                refine Ex.callV (pc := 94) (As := [.int 20]) (rest := []) dX4_readPart_94 cX4_102 (t_isW (k := 20) h (by decide)) (s2_81 _ _) rfl rfl (by omega) (Nat.le_refl _) (Nat.le_refl _) (Nat.le_of_ble_eq_true rfl) (Or.inl (fun r S' h => by obtain ⟨_, h⟩ := h; subst h; rfl)) (fun r S' hq _ _ => ?_)
                obtain ⟨rfl, rfl⟩ := hq
                refine Ex.if_eq (pc := 97) (tgt := 108) dX4_readPart_97 (by decide) (fun c97 => ?_) (fun c97 => ?_)
                · skip
                  refine Ex.aload_n (pc := 108) dX4_readPart_108 rfl rfl ?_
                  refine Ex.iload_n (pc := 109) dX4_readPart_109 rfl rfl ?_
                  refine Ex.aload_n (pc := 110) dX4_readPart_110 rfl rfl ?_
                  refine Ex.bipush (pc := 111) (v := 40) dX4_readPart_111 rfl ?_
                  refine Ex.callV (pc := 113) (As := [.int 40]) (rest := [.int _, .ref 81]) dX4_readPart_113 cX4_105 (t_isS (k := 40) h (by decide)) (s2_81 _ _) rfl rfl (by omega) (Nat.le_refl _) (Nat.le_refl _) (Nat.le_of_ble_eq_true rfl) (Or.inl (fun r S' h => by obtain ⟨_, h⟩ := h; subst h; rfl)) (fun r S' hq _ _ => ?_)
                  obtain ⟨rfl, rfl⟩ := hq
                  refine Ex.callV (pc := 116) (As := [.int _, .int _]) (rest := []) dX4_readPart_116 cX4_186 (t_open0 (bI_f (Bool.eq_false_iff.mpr hs40)) h) (s2_81 _ _) rfl rfl (by omega) (Nat.le_refl _) (Nat.le_refl _) (Nat.le_of_ble_eq_true rfl) (Or.inl (fun r S' h => by obtain ⟨_, _, h, _⟩ := h; subst h; rfl)) (fun r S' hq _ _ => ?_)
                  obtain ⟨I2, rfl, rfl, h2⟩ := hq
                  refine Ex.if_eq (pc := 119) (tgt := 135) dX4_readPart_119 (by decide) (fun _ => ?_) (fun c119 => absurd rfl c119)
                  refine Ex.vret (pc := 135) rfl dX4_readPart_135 (Nat.le_refl _) (Nat.le_refl _) ?_
                  have k3 : isK 3 (Except.ok (t, c) : Er) = false := decide_eq_false (fun e => c5 (by rw [h7, e]; rfl))
                  have knm : isNm sc (Except.ok (t, c) : Er) = false := by show (_ && mayW (ownW t.2.2.1) sc) = false; rw [bI_0 c43]; exact Bool.and_false _
                  rw [if_neg (by rw [k3]; decide), if_neg (by rw [knm]; decide), if_neg (by rw [bI_0 c71, bI_0 c80]; decide)]
                  rw [if_neg (by rw [bI_0 c97]; decide)]
                  rw [if_neg hs40]
                  exact ⟨_, rfl, rfl, h2⟩
                · skip
                  refine Ex.aload_n (pc := 100) dX4_readPart_100 rfl rfl ?_
                  refine Ex.iload_n (pc := 101) dX4_readPart_101 rfl rfl ?_
                  refine Ex.callV (pc := 102) (As := [.int _]) (rest := []) dX4_readPart_102 cX4_183 (t_cho hB hsm hD ho2 hte h (bI_1 c97)) (s2_81 _ _) rfl rfl (by omega) (Nat.le_refl _) (Nat.le_refl _) (Nat.le_of_ble_eq_true rfl) (Or.inl (fun r S' h => by obtain ⟨_, _, h, _⟩ := h; subst h; rfl)) (fun r S' hq _ _ => ?_)
                  obtain ⟨I2, rfl, rfl, h2⟩ := hq
                  refine Ex.goto (pc := 105) (tgt := 135) dX4_readPart_105 (by decide) ?_
                  refine Ex.vret (pc := 135) rfl dX4_readPart_135 (Nat.le_refl _) (Nat.le_refl _) ?_
                  have k3 : isK 3 (Except.ok (t, c) : Er) = false := decide_eq_false (fun e => c5 (by rw [h7, e]; rfl))
                  have knm : isNm sc (Except.ok (t, c) : Er) = false := by show (_ && mayW (ownW t.2.2.1) sc) = false; rw [bI_0 c43]; exact Bool.and_false _
                  rw [if_neg (by rw [k3]; decide), if_neg (by rw [knm]; decide), if_neg (by rw [bI_0 c71, bI_0 c80]; decide)]
                  rw [if_pos (bI_1 c97)]
                  exact ⟨_, rfl, rfl, h2⟩
              · skip
                refine Ex.aload_n (pc := 83) dX4_readPart_83 rfl rfl ?_
                refine Ex.iload_n (pc := 84) dX4_readPart_84 rfl rfl ?_
                refine Ex.callV (pc := 85) (As := [.int _]) (rest := []) dX4_readPart_85 cX4_180 (t_les hB hsm hD ho2 h (by rw [bI_1 c80]; exact Bool.or_true _)) (s2_81 _ _) rfl rfl (by omega) (Nat.le_refl _) (Nat.le_refl _) (Nat.le_of_ble_eq_true rfl) (Or.inl (fun r S' h => by obtain ⟨_, _, h, _⟩ := h; subst h; rfl)) (fun r S' hq _ _ => ?_)
                obtain ⟨I2, rfl, rfl, h2⟩ := hq
                refine Ex.goto (pc := 88) (tgt := 135) dX4_readPart_88 (by decide) ?_
                refine Ex.vret (pc := 135) rfl dX4_readPart_135 (Nat.le_refl _) (Nat.le_refl _) ?_
                have k3 : isK 3 (Except.ok (t, c) : Er) = false := decide_eq_false (fun e => c5 (by rw [h7, e]; rfl))
                have knm : isNm sc (Except.ok (t, c) : Er) = false := by show (_ && mayW (ownW t.2.2.1) sc) = false; rw [bI_0 c43]; exact Bool.and_false _
                rw [if_neg (by rw [k3]; decide), if_neg (by rw [knm]; decide), if_pos (by rw [bI_1 c80]; exact Bool.or_true _)]
                exact ⟨_, rfl, rfl, h2⟩
          · skip
            have hmw : mayW (ownW t.2.2.1) sc = true := bI_1 c43
            have knm : isNm sc (Except.ok (t, c) : Er) = true := by show (decide (t.1 = 2) && mayW (ownW t.2.2.1) sc) = true; rw [decide_eq_true e2, hmw]; rfl
            have k3 : isK 3 (Except.ok (t, c) : Er) = false := decide_eq_false (by omega)
            have hk1 := isK_k (r := (Except.ok (t, c) : Er)) (k := 2) (by decide) (decide_eq_true e2)
            obtain ⟨hw27, hwI⟩ : ownN t.2.2.1 < 27 ∧ ownW t.2.2.1 = nI (ownN t.2.2.1) := by
              rcases own_c t.2.2.1 with ⟨q, -⟩ | q
              · rw [q] at hmw; exact absurd hmw (by show ¬ false = true; decide)
              · exact q
            refine Ex.aload_n (pc := 46) dX4_readPart_46 rfl rfl ?_
            refine Ex.getR (pc := 47) dX4_readPart_47 fX4_57 (s2_81 _ _) r2_81_2 ?_
            refine Ex.iconst (pc := 50) (v := 1) dX4_readPart_50 rfl ?_
            refine Ex.aload_n (pc := 51) dX4_readPart_51 rfl rfl ?_
            refine Ex.getI (pc := 52) dX4_readPart_52 fX4_30 (s2_81 _ _) ?_
            rw [show I 81 9 = nI (ownN t.2.2.1) from e9.trans hwI]
            refine Ex.callV (pc := 55) (As := [.int 1, .int _]) (rest := []) dX4_readPart_55 cX4_171 (t_adS (k := 1) (v := ownN t.2.2.1) (d2 := d) (p2 := true) h hB.2.2 (by decide) (by omega) (h.roomE hk1)) (s2_82 _ _) rfl rfl (by omega) (Nat.le_refl _) (Nat.le_refl _) (Nat.le_of_ble_eq_true rfl) (Or.inl (fun r S' h => by obtain ⟨_, _, h, _⟩ := h; subst h; rfl)) (fun r S' hq _ _ => ?_)
            obtain ⟨I1, rfl, rfl, h1⟩ := hq
            refine Ex.aload_n (pc := 58) dX4_readPart_58 rfl rfl ?_
            refine Ex.callV (pc := 59) (As := []) (rest := []) dX4_readPart_59 cX4_61 (t_next hB h1) (s2_81 _ _) rfl rfl (by omega) (Nat.le_refl _) (Nat.le_refl _) (Nat.le_of_ble_eq_true rfl) (Or.inl (fun r S' h => by obtain ⟨_, _, h, _⟩ := h; subst h; rfl)) (fun r S' hq _ _ => ?_)
            obtain ⟨I2, rfl, rfl, h2⟩ := hq
            refine Ex.goto (pc := 62) (tgt := 135) dX4_readPart_62 (by decide) ?_
            refine Ex.vret (pc := 135) rfl dX4_readPart_135 (Nat.le_refl _) (Nat.le_refl _) ?_
            rw [if_neg (by rw [k3]; decide), if_pos knm]
            exact ⟨_, rfl, rfl, h2⟩
      · skip
        have e3 : t.1 = 3 := (nI_eq (by omega) (by decide)).mp (show nI t.1 = nI 3 from by rw [← h7]; exact c5)
        have k3 : isK 3 (Except.ok (t, c) : Er) = true := decide_eq_true e3
        have e8 : I 81 8 = nI t.2.1 := b1.2.2.2.2.2.1 (Or.inl e3)
        have hk1 := isK_k (by decide) k3
        have hv := b2.2.2.2.2.2.2.1 e3
        refine Ex.aload_n (pc := 8) dX4_readPart_8 rfl rfl ?_
        refine Ex.getR (pc := 9) dX4_readPart_9 fX4_57 (s2_81 _ _) r2_81_2 ?_
        refine Ex.iconst (pc := 12) (v := 0) dX4_readPart_12 rfl ?_
        refine Ex.aload_n (pc := 13) dX4_readPart_13 rfl rfl ?_
        refine Ex.getI (pc := 14) dX4_readPart_14 fX4_27 (s2_81 _ _) ?_
        rw [show I 81 8 = nI t.2.1 from e8]
        refine Ex.callV (pc := 17) (As := [.int 0, .int _]) (rest := []) dX4_readPart_17 cX4_171 (t_adS (k := 0) (v := t.2.1) (d2 := d) (p2 := true) h hB.2.2 (by decide) (by omega) (h.roomE hk1)) (s2_82 _ _) rfl rfl (by omega) (Nat.le_refl _) (Nat.le_refl _) (Nat.le_of_ble_eq_true rfl) (Or.inl (fun r S' h => by obtain ⟨_, _, h, _⟩ := h; subst h; rfl)) (fun r S' hq _ _ => ?_)
        obtain ⟨I1, rfl, rfl, h1⟩ := hq
        refine Ex.aload_n (pc := 20) dX4_readPart_20 rfl rfl ?_
        refine Ex.callV (pc := 21) (As := []) (rest := []) dX4_readPart_21 cX4_61 (t_next hB h1) (s2_81 _ _) rfl rfl (by omega) (Nat.le_refl _) (Nat.le_refl _) (Nat.le_of_ble_eq_true rfl) (Or.inl (fun r S' h => by obtain ⟨_, _, h, _⟩ := h; subst h; rfl)) (fun r S' hq _ _ => ?_)
        obtain ⟨I2, rfl, rfl, h2⟩ := hq
        refine Ex.goto (pc := 24) (tgt := 135) dX4_readPart_24 (by decide) ?_
        refine Ex.vret (pc := 135) rfl dX4_readPart_135 (Nat.le_refl _) (Nat.le_refl _) ?_
        rw [if_pos k3]
        exact ⟨_, rfl, rfl, h2⟩
