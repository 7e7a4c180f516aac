theorem Px.start {n : Nat} {I0 I : aI} {d : Nat} {p : Bool} {r : Er} (h : Px n I0 I d p r) : ∀ t c, r = .ok (t, c) → I 81 6 = nI t.2.2.2.1 := by
  intro t c e
  subst e
  exact (show PxO n I d p t c from h.2).1.2.2.1
theorem Px.room {n : Nat} {I0 I : aI} {d : Nat} {r : Er} (h : Px n I0 I (d + 1) false r) : ∀ t c, r = .ok (t, c) → c.length < n ∧ c.length + 1 + d ≤ potT false t := by
  intro t c e
  subst e
  have hR : PxO n I (d + 1) false t c := h.2
  have h1 : c.length + (d + 1) ≤ t.2.2.2.1 := hR.2.2.2.1
  have h2 := hR.2.1.2.2.1
  have h3 := hR.2.1.2.2.2.1
  refine ⟨by omega, ?_⟩
  show c.length + 1 + d ≤ t.2.2.2.1
  omega
theorem Px.roomE {n : Nat} {I0 I : aI} {d : Nat} {r : Er} (h : Px n I0 I d false r) (hk : isK 1 r = false) : ∀ t c, r = .ok (t, c) → c.length < n ∧ c.length + 1 + d ≤ potT true t := by
  intro t c e
  subst e
  have hR : PxO n I d false t c := h.2
  have h1 : c.length + d ≤ t.2.2.2.1 := hR.2.2.2.1
  have h5 := hR.2.1.2.2.2.2.1 (of_decide_eq_false hk)
  have h3 := hR.2.1.2.2.2.1
  refine ⟨by omega, ?_⟩
  show c.length + 1 + d ≤ t.2.2.2.2
  omega
def tkS (tb : Nat → Nat) (n c : Nat) (r : Er) : Er := if isS c r = true then nx tb n r else stp 1 r
def tkO (tb : Nat → Nat) (n k : Nat) (r : Er) : Er := if isW k r = true then nx tb n r else stp 1 r
theorem stp_st (k j : Nat) (r : Er) : stp k (stp j r) = stp j r := by
  cases r with
  | error e => rfl
  | ok q => obtain ⟨t, c⟩ := q; rfl
theorem Px.stp {n : Nat} {I0 I : aI} {d d2 k : Nat} {p p2 : Bool} {r : Er} (h : Px n I0 I d p (stp k r)) : Px n I0 I d2 p2 (stp k r) := by
  refine ⟨h.1, h.2.mono fun t c e => ?_⟩
  cases r with
  | error q => cases e
  | ok q => obtain ⟨t, c⟩ := q; cases e
set_option maxRecDepth 20000 in
theorem t_tkS {N n d k : Nat} {I I0 : aI} {L : aL} {tb : Nat → Nat} {r : Er} (hB : PB tb n I0) (h : Px n I0 I d false r) (hk : k < 256) : Run 6 0 0 mX4_takeSign [.ref 81, .int (nI k)] (St2 N n I L) (RP2 none N n L (fun I2 => Px n I0 I2 d false (tkS tb n k r))) := by
  refine Run.of (ls := [some (.ref 81), some (.int _)]) (by decide) (Nat.le_of_ble_eq_true rfl) rfl ?_
  unfold tkS
  refine Ex.aload_n (pc := 0) dX4_takeSign_0 rfl rfl ?_
  refine Ex.iload_n (pc := 1) dX4_takeSign_1 rfl rfl ?_
  refine Ex.callV (pc := 2) (As := [.int _]) (rest := []) dX4_takeSign_2 cX4_105 (t_isS h hk) (s2_81 _ _) rfl rfl (by decide) (Nat.le_refl _) (Nat.le_refl _) (Nat.le_of_ble_eq_true rfl) (Or.inl (fun r S' h => by obtain ⟨_, h⟩ := h; subst h; rfl)) (fun r S' hq _ _ => ?_)
  obtain ⟨rfl, rfl⟩ := hq
  refine Ex.if_eq (pc := 5) (tgt := 15) dX4_takeSign_5 (by decide) (fun c5 => ?_) (fun c5 => ?_)
  · skip
    refine Ex.aload_n (pc := 15) dX4_takeSign_15 rfl rfl ?_
    refine Ex.iconst (pc := 16) (v := 1) dX4_takeSign_16 rfl ?_
    refine Ex.aload_n (pc := 17) dX4_takeSign_17 rfl rfl ?_
    refine Ex.getI (pc := 18) dX4_takeSign_18 fX4_21 (s2_81 _ _) ?_
    refine Ex.callV (pc := 21) (As := [.int 1, .int _]) (rest := []) dX4_takeSign_21 cX4_77 (t_stp (k := 1) h (by decide) (by decide) h.start) (s2_81 _ _) rfl rfl (by decide) (Nat.le_refl _) (Nat.le_refl _) (Nat.le_of_ble_eq_true rfl) (Or.inl (fun r S' h => by obtain ⟨_, _, h, _⟩ := h; subst h; rfl)) (fun r S' hq _ _ => ?_)
    obtain ⟨I2, rfl, rfl, h2⟩ := hq
    refine Ex.vret (pc := 24) rfl dX4_takeSign_24 (Nat.le_refl _) (Nat.le_refl _) ?_
    rw [if_neg (by rw [bI_0 c5]; decide)]
    exact ⟨_, rfl, rfl, h2⟩
  · skip
    refine Ex.aload_n (pc := 8) dX4_takeSign_8 rfl rfl ?_
    refine Ex.callV (pc := 9) (As := []) (rest := []) dX4_takeSign_9 cX4_61 (t_next hB h.le) (s2_81 _ _) rfl rfl (by decide) (Nat.le_refl _) (Nat.le_refl _) (Nat.le_of_ble_eq_true rfl) (Or.inl (fun r S' h => by obtain ⟨_, _, h, _⟩ := h; subst h; rfl)) (fun r S' hq _ _ => ?_)
    obtain ⟨I2, rfl, rfl, h2⟩ := hq
    refine Ex.goto (pc := 12) (tgt := 24) dX4_takeSign_12 (by decide) ?_
    refine Ex.vret (pc := 24) rfl dX4_takeSign_24 (Nat.le_refl _) (Nat.le_refl _) ?_
    rw [if_pos (bI_1 c5)]
    exact ⟨_, rfl, rfl, h2⟩
set_option maxRecDepth 20000 in
theorem t_tkS1 {N n d k : Nat} {I I0 : aI} {L : aL} {tb : Nat → Nat} {r : Er} (hB : PB tb n I0) (h : Px n I0 I d false r) (hk : k < 256) : Run 6 0 0 mX4_takeSign [.ref 81, .int (nI k)] (St2 N n I L) (RP2 none N n L (fun I2 => Px n I0 I2 (d + 1) false (tkS tb n k r))) := by
  refine Run.of (ls := [some (.ref 81), some (.int _)]) (by decide) (Nat.le_of_ble_eq_true rfl) rfl ?_
  unfold tkS
  refine Ex.aload_n (pc := 0) dX4_takeSign_0 rfl rfl ?_
  refine Ex.iload_n (pc := 1) dX4_takeSign_1 rfl rfl ?_
  refine Ex.callV (pc := 2) (As := [.int _]) (rest := []) dX4_takeSign_2 cX4_105 (t_isS h hk) (s2_81 _ _) rfl rfl (by decide) (Nat.le_refl _) (Nat.le_refl _) (Nat.le_of_ble_eq_true rfl) (Or.inl (fun r S' h => by obtain ⟨_, h⟩ := h; subst h; rfl)) (fun r S' hq _ _ => ?_)
  obtain ⟨rfl, rfl⟩ := hq
  refine Ex.if_eq (pc := 5) (tgt := 15) dX4_takeSign_5 (by decide) (fun c5 => ?_) (fun c5 => ?_)
  · skip
    refine Ex.aload_n (pc := 15) dX4_takeSign_15 rfl rfl ?_
    refine Ex.iconst (pc := 16) (v := 1) dX4_takeSign_16 rfl ?_
    refine Ex.aload_n (pc := 17) dX4_takeSign_17 rfl rfl ?_
    refine Ex.getI (pc := 18) dX4_takeSign_18 fX4_21 (s2_81 _ _) ?_
    refine Ex.callV (pc := 21) (As := [.int 1, .int _]) (rest := []) dX4_takeSign_21 cX4_77 (t_stp (k := 1) h (by decide) (by decide) h.start) (s2_81 _ _) rfl rfl (by decide) (Nat.le_refl _) (Nat.le_refl _) (Nat.le_of_ble_eq_true rfl) (Or.inl (fun r S' h => by obtain ⟨_, _, h, _⟩ := h; subst h; rfl)) (fun r S' hq _ _ => ?_)
    obtain ⟨I2, rfl, rfl, h2⟩ := hq
    refine Ex.vret (pc := 24) rfl dX4_takeSign_24 (Nat.le_refl _) (Nat.le_refl _) ?_
    rw [if_neg (by rw [bI_0 c5]; decide)]
    exact ⟨_, rfl, rfl, h2.stp⟩
  · skip
    refine Ex.aload_n (pc := 8) dX4_takeSign_8 rfl rfl ?_
    refine Ex.callV (pc := 9) (As := []) (rest := []) dX4_takeSign_9 cX4_61 (t_next hB (h.pay (isS_k (bI_1 c5)))) (s2_81 _ _) rfl rfl (by decide) (Nat.le_refl _) (Nat.le_refl _) (Nat.le_of_ble_eq_true rfl) (Or.inl (fun r S' h => by obtain ⟨_, _, h, _⟩ := h; subst h; rfl)) (fun r S' hq _ _ => ?_)
    obtain ⟨I2, rfl, rfl, h2⟩ := hq
    refine Ex.goto (pc := 12) (tgt := 24) dX4_takeSign_12 (by decide) ?_
    refine Ex.vret (pc := 24) rfl dX4_takeSign_24 (Nat.le_refl _) (Nat.le_refl _) ?_
    rw [if_pos (bI_1 c5)]
    exact ⟨_, rfl, rfl, h2⟩
set_option maxRecDepth 20000 in
theorem t_tkO {N n d k : Nat} {I I0 : aI} {L : aL} {tb : Nat → Nat} {r : Er} (hB : PB tb n I0) (h : Px n I0 I d false r) (hk : k < 256) : Run 6 0 0 mX4_takeOwn [.ref 81, .int (nI k)] (St2 N n I L) (RP2 none N n L (fun I2 => Px n I0 I2 d false (tkO tb n k r))) := by
  refine Run.of (ls := [some (.ref 81), some (.int _)]) (by decide) (Nat.le_of_ble_eq_true rfl) rfl ?_
  unfold tkO
  refine Ex.aload_n (pc := 0) dX4_takeOwn_0 rfl rfl ?_
  refine Ex.iload_n (pc := 1) dX4_takeOwn_1 rfl rfl ?_
  refine Ex.callV (pc := 2) (As := [.int _]) (rest := []) dX4_takeOwn_2 cX4_102 (t_isW h hk) (s2_81 _ _) rfl rfl (by decide) (Nat.le_refl _) (Nat.le_refl _) (Nat.le_of_ble_eq_true rfl) (Or.inl (fun r S' h => by obtain ⟨_, h⟩ := h; subst h; rfl)) (fun r S' hq _ _ => ?_)
  obtain ⟨rfl, rfl⟩ := hq
  refine Ex.if_eq (pc := 5) (tgt := 15) dX4_takeOwn_5 (by decide) (fun c5 => ?_) (fun c5 => ?_)
  · skip
    refine Ex.aload_n (pc := 15) dX4_takeOwn_15 rfl rfl ?_
    refine Ex.iconst (pc := 16) (v := 1) dX4_takeOwn_16 rfl ?_
    refine Ex.aload_n (pc := 17) dX4_takeOwn_17 rfl rfl ?_
    refine Ex.getI (pc := 18) dX4_takeOwn_18 fX4_21 (s2_81 _ _) ?_
    refine Ex.callV (pc := 21) (As := [.int 1, .int _]) (rest := []) dX4_takeOwn_21 cX4_77 (t_stp (k := 1) h (by decide) (by decide) h.start) (s2_81 _ _) rfl rfl (by decide) (Nat.le_refl _) (Nat.le_refl _) (Nat.le_of_ble_eq_true rfl) (Or.inl (fun r S' h => by obtain ⟨_, _, h, _⟩ := h; subst h; rfl)) (fun r S' hq _ _ => ?_)
    obtain ⟨I2, rfl, rfl, h2⟩ := hq
    refine Ex.vret (pc := 24) rfl dX4_takeOwn_24 (Nat.le_refl _) (Nat.le_refl _) ?_
    rw [if_neg (by rw [bI_0 c5]; decide)]
    exact ⟨_, rfl, rfl, h2⟩
  · skip
    refine Ex.aload_n (pc := 8) dX4_takeOwn_8 rfl rfl ?_
    refine Ex.callV (pc := 9) (As := []) (rest := []) dX4_takeOwn_9 cX4_61 (t_next hB h.le) (s2_81 _ _) rfl rfl (by decide) (Nat.le_refl _) (Nat.le_refl _) (Nat.le_of_ble_eq_true rfl) (Or.inl (fun r S' h => by obtain ⟨_, _, h, _⟩ := h; subst h; rfl)) (fun r S' hq _ _ => ?_)
    obtain ⟨I2, rfl, rfl, h2⟩ := hq
    refine Ex.goto (pc := 12) (tgt := 24) dX4_takeOwn_12 (by decide) ?_
    refine Ex.vret (pc := 24) rfl dX4_takeOwn_24 (Nat.le_refl _) (Nat.le_refl _) ?_
    rw [if_pos (bI_1 c5)]
    exact ⟨_, rfl, rfl, h2⟩
set_option maxRecDepth 20000 in
theorem t_tkO1 {N n d k : Nat} {I I0 : aI} {L : aL} {tb : Nat → Nat} {r : Er} (hB : PB tb n I0) (h : Px n I0 I d false r) (hk : k < 256) : Run 6 0 0 mX4_takeOwn [.ref 81, .int (nI k)] (St2 N n I L) (RP2 none N n L (fun I2 => Px n I0 I2 (d + 1) false (tkO tb n k r))) := by
  refine Run.of (ls := [some (.ref 81), some (.int _)]) (by decide) (Nat.le_of_ble_eq_true rfl) rfl ?_
  unfold tkO
  refine Ex.aload_n (pc := 0) dX4_takeOwn_0 rfl rfl ?_
  refine Ex.iload_n (pc := 1) dX4_takeOwn_1 rfl rfl ?_
  refine Ex.callV (pc := 2) (As := [.int _]) (rest := []) dX4_takeOwn_2 cX4_102 (t_isW h hk) (s2_81 _ _) rfl rfl (by decide) (Nat.le_refl _) (Nat.le_refl _) (Nat.le_of_ble_eq_true rfl) (Or.inl (fun r S' h => by obtain ⟨_, h⟩ := h; subst h; rfl)) (fun r S' hq _ _ => ?_)
  obtain ⟨rfl, rfl⟩ := hq
  refine Ex.if_eq (pc := 5) (tgt := 15) dX4_takeOwn_5 (by decide) (fun c5 => ?_) (fun c5 => ?_)
  · skip
    refine Ex.aload_n (pc := 15) dX4_takeOwn_15 rfl rfl ?_
    refine Ex.iconst (pc := 16) (v := 1) dX4_takeOwn_16 rfl ?_
    refine Ex.aload_n (pc := 17) dX4_takeOwn_17 rfl rfl ?_
    refine Ex.getI (pc := 18) dX4_takeOwn_18 fX4_21 (s2_81 _ _) ?_
    refine Ex.callV (pc := 21) (As := [.int 1, .int _]) (rest := []) dX4_takeOwn_21 cX4_77 (t_stp (k := 1) h (by decide) (by decide) h.start) (s2_81 _ _) rfl rfl (by decide) (Nat.le_refl _) (Nat.le_refl _) (Nat.le_of_ble_eq_true rfl) (Or.inl (fun r S' h => by obtain ⟨_, _, h, _⟩ := h; subst h; rfl)) (fun r S' hq _ _ => ?_)
    obtain ⟨I2, rfl, rfl, h2⟩ := hq
    refine Ex.vret (pc := 24) rfl dX4_takeOwn_24 (Nat.le_refl _) (Nat.le_refl _) ?_
    rw [if_neg (by rw [bI_0 c5]; decide)]
    exact ⟨_, rfl, rfl, h2.stp⟩
  · skip
    refine Ex.aload_n (pc := 8) dX4_takeOwn_8 rfl rfl ?_
    refine Ex.callV (pc := 9) (As := []) (rest := []) dX4_takeOwn_9 cX4_61 (t_next hB (h.pay (isW_k (bI_1 c5)))) (s2_81 _ _) rfl rfl (by decide) (Nat.le_refl _) (Nat.le_refl _) (Nat.le_of_ble_eq_true rfl) (Or.inl (fun r S' h => by obtain ⟨_, _, h, _⟩ := h; subst h; rfl)) (fun r S' hq _ _ => ?_)
    obtain ⟨I2, rfl, rfl, h2⟩ := hq
    refine Ex.goto (pc := 12) (tgt := 24) dX4_takeOwn_12 (by decide) ?_
    refine Ex.vret (pc := 24) rfl dX4_takeOwn_24 (Nat.le_refl _) (Nat.le_refl _) ?_
    rw [if_pos (bI_1 c5)]
    exact ⟨_, rfl, rfl, h2⟩
def mayW (w : Int32) (sc : Nat) : Bool := if w = 1 ∨ w = 2 ∨ w = 4 ∨ w = 5 ∨ w = 14 ∨ w = 16 then true else if w = 17 ∨ w = 18 then decide (sc = 9 ∨ sc = 10) else if w = 7 ∨ w = 8 ∨ w = 19 then decide (sc = 11 ∨ sc = 12) else false
set_option maxRecDepth 20000 in
theorem t_mayStand {N M : Nat} {I : aI} {L : aL} {w : Int32} {sc : Nat} (hs : I 81 10 = nI sc) (hs9 : sc < 100) : Run 0 0 0 mX4_mayStand [.ref 81, .int w] (St2 N M I L) (RI (bI (mayW w sc)) (St2 N M I L)) := by
  refine Run.of (ls := [some (.ref 81), some (.int _)]) (by decide) (Nat.le_of_ble_eq_true rfl) rfl ?_
  refine Ex.iload_n (pc := 0) dX4_mayStand_0 rfl rfl ?_
  by_cases c1_1 : w = 1
  · refine Ex.tableIn (pc := 1) (tgt := 92) (off := 91) dX4_mayStand_1 (by rw [c1_1]; decide) (by rw [c1_1]; decide) (by rw [c1_1]; decide) (by decide) ?_
    refine Ex.iconst (pc := 92) (v := 1) dX4_mayStand_92 rfl ?_
    refine Ex.iret (pc := 93) rfl rfl rfl dX4_mayStand_93 (Nat.le_refl _) (Nat.le_refl _) ?_
    refine ⟨congrArg (fun z => some (Value.int z)) ?_, rfl⟩
    rw [c1_1]; rfl
  by_cases c1_2 : w = 2
  · refine Ex.tableIn (pc := 1) (tgt := 92) (off := 91) dX4_mayStand_1 (by rw [c1_2]; decide) (by rw [c1_2]; decide) (by rw [c1_2]; decide) (by decide) ?_
    refine Ex.iconst (pc := 92) (v := 1) dX4_mayStand_92 rfl ?_
    refine Ex.iret (pc := 93) rfl rfl rfl dX4_mayStand_93 (Nat.le_refl _) (Nat.le_refl _) ?_
    refine ⟨congrArg (fun z => some (Value.int z)) ?_, rfl⟩
    rw [c1_2]; rfl
  by_cases c1_3 : w = 3
  · refine Ex.tableIn (pc := 1) (tgt := 142) (off := 141) dX4_mayStand_1 (by rw [c1_3]; decide) (by rw [c1_3]; decide) (by rw [c1_3]; decide) (by decide) ?_
    refine Ex.iconst (pc := 142) (v := 0) dX4_mayStand_142 rfl ?_
    refine Ex.iret (pc := 143) rfl rfl rfl dX4_mayStand_143 (Nat.le_refl _) (Nat.le_refl _) ?_
    refine ⟨congrArg (fun z => some (Value.int z)) ?_, rfl⟩
    rw [c1_3]; rfl
  by_cases c1_4 : w = 4
  · refine Ex.tableIn (pc := 1) (tgt := 92) (off := 91) dX4_mayStand_1 (by rw [c1_4]; decide) (by rw [c1_4]; decide) (by rw [c1_4]; decide) (by decide) ?_
    refine Ex.iconst (pc := 92) (v := 1) dX4_mayStand_92 rfl ?_
    refine Ex.iret (pc := 93) rfl rfl rfl dX4_mayStand_93 (Nat.le_refl _) (Nat.le_refl _) ?_
    refine ⟨congrArg (fun z => some (Value.int z)) ?_, rfl⟩
    rw [c1_4]; rfl
  by_cases c1_5 : w = 5
  · refine Ex.tableIn (pc := 1) (tgt := 92) (off := 91) dX4_mayStand_1 (by rw [c1_5]; decide) (by rw [c1_5]; decide) (by rw [c1_5]; decide) (by decide) ?_
    refine Ex.iconst (pc := 92) (v := 1) dX4_mayStand_92 rfl ?_
    refine Ex.iret (pc := 93) rfl rfl rfl dX4_mayStand_93 (Nat.le_refl _) (Nat.le_refl _) ?_
    refine ⟨congrArg (fun z => some (Value.int z)) ?_, rfl⟩
    rw [c1_5]; rfl
  by_cases c1_6 : w = 6
  · refine Ex.tableIn (pc := 1) (tgt := 142) (off := 141) dX4_mayStand_1 (by rw [c1_6]; decide) (by rw [c1_6]; decide) (by rw [c1_6]; decide) (by decide) ?_
    refine Ex.iconst (pc := 142) (v := 0) dX4_mayStand_142 rfl ?_
    refine Ex.iret (pc := 143) rfl rfl rfl dX4_mayStand_143 (Nat.le_refl _) (Nat.le_refl _) ?_
    refine ⟨congrArg (fun z => some (Value.int z)) ?_, rfl⟩
    rw [c1_6]; rfl
  by_cases c1_7 : w = 7
  · refine Ex.tableIn (pc := 1) (tgt := 118) (off := 117) dX4_mayStand_1 (by rw [c1_7]; decide) (by rw [c1_7]; decide) (by rw [c1_7]; decide) (by decide) ?_
    refine Ex.aload_n (pc := 118) dX4_mayStand_118 rfl rfl ?_
    refine Ex.getI (pc := 119) dX4_mayStand_119 fX4_33 (s2_81 _ _) ?_
    refine Ex.bipush (pc := 122) (v := 11) dX4_mayStand_122 rfl ?_
    refine Ex.icmp_eq (pc := 124) (tgt := 136) dX4_mayStand_124 (by decide) (fun c124 => ?_) (fun c124 => ?_)
    · skip
      refine Ex.iconst (pc := 136) (v := 1) dX4_mayStand_136 rfl ?_
      refine Ex.goto (pc := 137) (tgt := 141) dX4_mayStand_137 (by decide) ?_
      refine Ex.iret (pc := 141) rfl rfl rfl dX4_mayStand_141 (Nat.le_refl _) (Nat.le_refl _) ?_
      refine ⟨congrArg (fun z => some (Value.int z)) ?_, rfl⟩
      rw [c1_7]
      show _ = bI (decide (sc = 11 ∨ sc = 12))
      rw [decide_eq_true (Or.inl ((nI_eq (by omega) (by decide)).mp (show nI sc = nI 11 from by rw [← hs]; exact c124)))]; rfl
    · skip
      refine Ex.aload_n (pc := 127) dX4_mayStand_127 rfl rfl ?_
      refine Ex.getI (pc := 128) dX4_mayStand_128 fX4_33 (s2_81 _ _) ?_
      refine Ex.bipush (pc := 131) (v := 12) dX4_mayStand_131 rfl ?_
      refine Ex.icmp_ne (pc := 133) (tgt := 140) dX4_mayStand_133 (by decide) (fun c133 => ?_) (fun c133 => ?_)
      · skip
        refine Ex.iconst (pc := 140) (v := 0) dX4_mayStand_140 rfl ?_
        refine Ex.iret (pc := 141) rfl rfl rfl dX4_mayStand_141 (Nat.le_refl _) (Nat.le_refl _) ?_
        refine ⟨congrArg (fun z => some (Value.int z)) ?_, rfl⟩
        rw [c1_7]
        show _ = bI (decide (sc = 11 ∨ sc = 12))
        rw [decide_eq_false (fun q => q.elim (fun e => c124 (by rw [hs, e]; rfl)) (fun e => c133 (by rw [hs, e]; rfl)))]; rfl
      · skip
        refine Ex.iconst (pc := 136) (v := 1) dX4_mayStand_136 rfl ?_
        refine Ex.goto (pc := 137) (tgt := 141) dX4_mayStand_137 (by decide) ?_
        refine Ex.iret (pc := 141) rfl rfl rfl dX4_mayStand_141 (Nat.le_refl _) (Nat.le_refl _) ?_
        refine ⟨congrArg (fun z => some (Value.int z)) ?_, rfl⟩
        rw [c1_7]
        show _ = bI (decide (sc = 11 ∨ sc = 12))
        rw [decide_eq_true (Or.inr ((nI_eq (by omega) (by decide)).mp (show nI sc = nI 12 from by rw [← hs]; exact c133)))]; rfl
  by_cases c1_8 : w = 8
  · refine Ex.tableIn (pc := 1) (tgt := 118) (off := 117) dX4_mayStand_1 (by rw [c1_8]; decide) (by rw [c1_8]; decide) (by rw [c1_8]; decide) (by decide) ?_
    refine Ex.aload_n (pc := 118) dX4_mayStand_118 rfl rfl ?_
    refine Ex.getI (pc := 119) dX4_mayStand_119 fX4_33 (s2_81 _ _) ?_
    refine Ex.bipush (pc := 122) (v := 11) dX4_mayStand_122 rfl ?_
    refine Ex.icmp_eq (pc := 124) (tgt := 136) dX4_mayStand_124 (by decide) (fun c124 => ?_) (fun c124 => ?_)
    · skip
      refine Ex.iconst (pc := 136) (v := 1) dX4_mayStand_136 rfl ?_
      refine Ex.goto (pc := 137) (tgt := 141) dX4_mayStand_137 (by decide) ?_
      refine Ex.iret (pc := 141) rfl rfl rfl dX4_mayStand_141 (Nat.le_refl _) (Nat.le_refl _) ?_
      refine ⟨congrArg (fun z => some (Value.int z)) ?_, rfl⟩
      rw [c1_8]
      show _ = bI (decide (sc = 11 ∨ sc = 12))
      rw [decide_eq_true (Or.inl ((nI_eq (by omega) (by decide)).mp (show nI sc = nI 11 from by rw [← hs]; exact c124)))]; rfl
    · skip
      refine Ex.aload_n (pc := 127) dX4_mayStand_127 rfl rfl ?_
      refine Ex.getI (pc := 128) dX4_mayStand_128 fX4_33 (s2_81 _ _) ?_
      refine Ex.bipush (pc := 131) (v := 12) dX4_mayStand_131 rfl ?_
      refine Ex.icmp_ne (pc := 133) (tgt := 140) dX4_mayStand_133 (by decide) (fun c133 => ?_) (fun c133 => ?_)
      · skip
        refine Ex.iconst (pc := 140) (v := 0) dX4_mayStand_140 rfl ?_
        refine Ex.iret (pc := 141) rfl rfl rfl dX4_mayStand_141 (Nat.le_refl _) (Nat.le_refl _) ?_
        refine ⟨congrArg (fun z => some (Value.int z)) ?_, rfl⟩
        rw [c1_8]
        show _ = bI (decide (sc = 11 ∨ sc = 12))
        rw [decide_eq_false (fun q => q.elim (fun e => c124 (by rw [hs, e]; rfl)) (fun e => c133 (by rw [hs, e]; rfl)))]; rfl
      · skip
        refine Ex.iconst (pc := 136) (v := 1) dX4_mayStand_136 rfl ?_
        refine Ex.goto (pc := 137) (tgt := 141) dX4_mayStand_137 (by decide) ?_
        refine Ex.iret (pc := 141) rfl rfl rfl dX4_mayStand_141 (Nat.le_refl _) (Nat.le_refl _) ?_
        refine ⟨congrArg (fun z => some (Value.int z)) ?_, rfl⟩
        rw [c1_8]
        show _ = bI (decide (sc = 11 ∨ sc = 12))
        rw [decide_eq_true (Or.inr ((nI_eq (by omega) (by decide)).mp (show nI sc = nI 12 from by rw [← hs]; exact c133)))]; rfl
  by_cases c1_9 : w = 9
  · refine Ex.tableIn (pc := 1) (tgt := 142) (off := 141) dX4_mayStand_1 (by rw [c1_9]; decide) (by rw [c1_9]; decide) (by rw [c1_9]; decide) (by decide) ?_
    refine Ex.iconst (pc := 142) (v := 0) dX4_mayStand_142 rfl ?_
    refine Ex.iret (pc := 143) rfl rfl rfl dX4_mayStand_143 (Nat.le_refl _) (Nat.le_refl _) ?_
    refine ⟨congrArg (fun z => some (Value.int z)) ?_, rfl⟩
    rw [c1_9]; rfl
  by_cases c1_10 : w = 10
  · refine Ex.tableIn (pc := 1) (tgt := 142) (off := 141) dX4_mayStand_1 (by rw [c1_10]; decide) (by rw [c1_10]; decide) (by rw [c1_10]; decide) (by decide) ?_
    refine Ex.iconst (pc := 142) (v := 0) dX4_mayStand_142 rfl ?_
    refine Ex.iret (pc := 143) rfl rfl rfl dX4_mayStand_143 (Nat.le_refl _) (Nat.le_refl _) ?_
    refine ⟨congrArg (fun z => some (Value.int z)) ?_, rfl⟩
    rw [c1_10]; rfl
  by_cases c1_11 : w = 11
  · refine Ex.tableIn (pc := 1) (tgt := 142) (off := 141) dX4_mayStand_1 (by rw [c1_11]; decide) (by rw [c1_11]; decide) (by rw [c1_11]; decide) (by decide) ?_
    refine Ex.iconst (pc := 142) (v := 0) dX4_mayStand_142 rfl ?_
    refine Ex.iret (pc := 143) rfl rfl rfl dX4_mayStand_143 (Nat.le_refl _) (Nat.le_refl _) ?_
    refine ⟨congrArg (fun z => some (Value.int z)) ?_, rfl⟩
    rw [c1_11]; rfl
  by_cases c1_12 : w = 12
  · refine Ex.tableIn (pc := 1) (tgt := 142) (off := 141) dX4_mayStand_1 (by rw [c1_12]; decide) (by rw [c1_12]; decide) (by rw [c1_12]; decide) (by decide) ?_
    refine Ex.iconst (pc := 142) (v := 0) dX4_mayStand_142 rfl ?_
    refine Ex.iret (pc := 143) rfl rfl rfl dX4_mayStand_143 (Nat.le_refl _) (Nat.le_refl _) ?_
    refine ⟨congrArg (fun z => some (Value.int z)) ?_, rfl⟩
    rw [c1_12]; rfl
  by_cases c1_13 : w = 13
  · refine Ex.tableIn (pc := 1) (tgt := 142) (off := 141) dX4_mayStand_1 (by rw [c1_13]; decide) (by rw [c1_13]; decide) (by rw [c1_13]; decide) (by decide) ?_
    refine Ex.iconst (pc := 142) (v := 0) dX4_mayStand_142 rfl ?_
    refine Ex.iret (pc := 143) rfl rfl rfl dX4_mayStand_143 (Nat.le_refl _) (Nat.le_refl _) ?_
    refine ⟨congrArg (fun z => some (Value.int z)) ?_, rfl⟩
    rw [c1_13]; rfl
  by_cases c1_14 : w = 14
  · refine Ex.tableIn (pc := 1) (tgt := 92) (off := 91) dX4_mayStand_1 (by rw [c1_14]; decide) (by rw [c1_14]; decide) (by rw [c1_14]; decide) (by decide) ?_
    refine Ex.iconst (pc := 92) (v := 1) dX4_mayStand_92 rfl ?_
    refine Ex.iret (pc := 93) rfl rfl rfl dX4_mayStand_93 (Nat.le_refl _) (Nat.le_refl _) ?_
    refine ⟨congrArg (fun z => some (Value.int z)) ?_, rfl⟩
    rw [c1_14]; rfl
  by_cases c1_15 : w = 15
  · refine Ex.tableIn (pc := 1) (tgt := 142) (off := 141) dX4_mayStand_1 (by rw [c1_15]; decide) (by rw [c1_15]; decide) (by rw [c1_15]; decide) (by decide) ?_
    refine Ex.iconst (pc := 142) (v := 0) dX4_mayStand_142 rfl ?_
    refine Ex.iret (pc := 143) rfl rfl rfl dX4_mayStand_143 (Nat.le_refl _) (Nat.le_refl _) ?_
    refine ⟨congrArg (fun z => some (Value.int z)) ?_, rfl⟩
    rw [c1_15]; rfl
  by_cases c1_16 : w = 16
  · refine Ex.tableIn (pc := 1) (tgt := 92) (off := 91) dX4_mayStand_1 (by rw [c1_16]; decide) (by rw [c1_16]; decide) (by rw [c1_16]; decide) (by decide) ?_
    refine Ex.iconst (pc := 92) (v := 1) dX4_mayStand_92 rfl ?_
    refine Ex.iret (pc := 93) rfl rfl rfl dX4_mayStand_93 (Nat.le_refl _) (Nat.le_refl _) ?_
    refine ⟨congrArg (fun z => some (Value.int z)) ?_, rfl⟩
    rw [c1_16]; rfl
  by_cases c1_17 : w = 17
  · refine Ex.tableIn (pc := 1) (tgt := 94) (off := 93) dX4_mayStand_1 (by rw [c1_17]; decide) (by rw [c1_17]; decide) (by rw [c1_17]; decide) (by decide) ?_
    refine Ex.aload_n (pc := 94) dX4_mayStand_94 rfl rfl ?_
    refine Ex.getI (pc := 95) dX4_mayStand_95 fX4_33 (s2_81 _ _) ?_
    refine Ex.bipush (pc := 98) (v := 9) dX4_mayStand_98 rfl ?_
    refine Ex.icmp_eq (pc := 100) (tgt := 112) dX4_mayStand_100 (by decide) (fun c100 => ?_) (fun c100 => ?_)
    · skip
      refine Ex.iconst (pc := 112) (v := 1) dX4_mayStand_112 rfl ?_
      refine Ex.goto (pc := 113) (tgt := 117) dX4_mayStand_113 (by decide) ?_
      refine Ex.iret (pc := 117) rfl rfl rfl dX4_mayStand_117 (Nat.le_refl _) (Nat.le_refl _) ?_
      refine ⟨congrArg (fun z => some (Value.int z)) ?_, rfl⟩
      rw [c1_17]
      show _ = bI (decide (sc = 9 ∨ sc = 10))
      rw [decide_eq_true (Or.inl ((nI_eq (by omega) (by decide)).mp (show nI sc = nI 9 from by rw [← hs]; exact c100)))]; rfl
    · skip
      refine Ex.aload_n (pc := 103) dX4_mayStand_103 rfl rfl ?_
      refine Ex.getI (pc := 104) dX4_mayStand_104 fX4_33 (s2_81 _ _) ?_
      refine Ex.bipush (pc := 107) (v := 10) dX4_mayStand_107 rfl ?_
      refine Ex.icmp_ne (pc := 109) (tgt := 116) dX4_mayStand_109 (by decide) (fun c109 => ?_) (fun c109 => ?_)
      · skip
        refine Ex.iconst (pc := 116) (v := 0) dX4_mayStand_116 rfl ?_
        refine Ex.iret (pc := 117) rfl rfl rfl dX4_mayStand_117 (Nat.le_refl _) (Nat.le_refl _) ?_
        refine ⟨congrArg (fun z => some (Value.int z)) ?_, rfl⟩
        rw [c1_17]
        show _ = bI (decide (sc = 9 ∨ sc = 10))
        rw [decide_eq_false (fun q => q.elim (fun e => c100 (by rw [hs, e]; rfl)) (fun e => c109 (by rw [hs, e]; rfl)))]; rfl
      · skip
        refine Ex.iconst (pc := 112) (v := 1) dX4_mayStand_112 rfl ?_
        refine Ex.goto (pc := 113) (tgt := 117) dX4_mayStand_113 (by decide) ?_
        refine Ex.iret (pc := 117) rfl rfl rfl dX4_mayStand_117 (Nat.le_refl _) (Nat.le_refl _) ?_
        refine ⟨congrArg (fun z => some (Value.int z)) ?_, rfl⟩
        rw [c1_17]
        show _ = bI (decide (sc = 9 ∨ sc = 10))
        rw [decide_eq_true (Or.inr ((nI_eq (by omega) (by decide)).mp (show nI sc = nI 10 from by rw [← hs]; exact c109)))]; rfl
  by_cases c1_18 : w = 18
  · refine Ex.tableIn (pc := 1) (tgt := 94) (off := 93) dX4_mayStand_1 (by rw [c1_18]; decide) (by rw [c1_18]; decide) (by rw [c1_18]; decide) (by decide) ?_
    refine Ex.aload_n (pc := 94) dX4_mayStand_94 rfl rfl ?_
    refine Ex.getI (pc := 95) dX4_mayStand_95 fX4_33 (s2_81 _ _) ?_
    refine Ex.bipush (pc := 98) (v := 9) dX4_mayStand_98 rfl ?_
    refine Ex.icmp_eq (pc := 100) (tgt := 112) dX4_mayStand_100 (by decide) (fun c100 => ?_) (fun c100 => ?_)
    · skip
      refine Ex.iconst (pc := 112) (v := 1) dX4_mayStand_112 rfl ?_
      refine Ex.goto (pc := 113) (tgt := 117) dX4_mayStand_113 (by decide) ?_
      refine Ex.iret (pc := 117) rfl rfl rfl dX4_mayStand_117 (Nat.le_refl _) (Nat.le_refl _) ?_
      refine ⟨congrArg (fun z => some (Value.int z)) ?_, rfl⟩
      rw [c1_18]
      show _ = bI (decide (sc = 9 ∨ sc = 10))
      rw [decide_eq_true (Or.inl ((nI_eq (by omega) (by decide)).mp (show nI sc = nI 9 from by rw [← hs]; exact c100)))]; rfl
    · skip
      refine Ex.aload_n (pc := 103) dX4_mayStand_103 rfl rfl ?_
      refine Ex.getI (pc := 104) dX4_mayStand_104 fX4_33 (s2_81 _ _) ?_
      refine Ex.bipush (pc := 107) (v := 10) dX4_mayStand_107 rfl ?_
      refine Ex.icmp_ne (pc := 109) (tgt := 116) dX4_mayStand_109 (by decide) (fun c109 => ?_) (fun c109 => ?_)
      · skip
        refine Ex.iconst (pc := 116) (v := 0) dX4_mayStand_116 rfl ?_
        refine Ex.iret (pc := 117) rfl rfl rfl dX4_mayStand_117 (Nat.le_refl _) (Nat.le_refl _) ?_
        refine ⟨congrArg (fun z => some (Value.int z)) ?_, rfl⟩
        rw [c1_18]
        show _ = bI (decide (sc = 9 ∨ sc = 10))
        rw [decide_eq_false (fun q => q.elim (fun e => c100 (by rw [hs, e]; rfl)) (fun e => c109 (by rw [hs, e]; rfl)))]; rfl
      · skip
        refine Ex.iconst (pc := 112) (v := 1) dX4_mayStand_112 rfl ?_
        refine Ex.goto (pc := 113) (tgt := 117) dX4_mayStand_113 (by decide) ?_
        refine Ex.iret (pc := 117) rfl rfl rfl dX4_mayStand_117 (Nat.le_refl _) (Nat.le_refl _) ?_
        refine ⟨congrArg (fun z => some (Value.int z)) ?_, rfl⟩
        rw [c1_18]
        show _ = bI (decide (sc = 9 ∨ sc = 10))
        rw [decide_eq_true (Or.inr ((nI_eq (by omega) (by decide)).mp (show nI sc = nI 10 from by rw [← hs]; exact c109)))]; rfl
  by_cases c1_19 : w = 19
  · refine Ex.tableIn (pc := 1) (tgt := 118) (off := 117) dX4_mayStand_1 (by rw [c1_19]; decide) (by rw [c1_19]; decide) (by rw [c1_19]; decide) (by decide) ?_
    refine Ex.aload_n (pc := 118) dX4_mayStand_118 rfl rfl ?_
    refine Ex.getI (pc := 119) dX4_mayStand_119 fX4_33 (s2_81 _ _) ?_
    refine Ex.bipush (pc := 122) (v := 11) dX4_mayStand_122 rfl ?_
    refine Ex.icmp_eq (pc := 124) (tgt := 136) dX4_mayStand_124 (by decide) (fun c124 => ?_) (fun c124 => ?_)
    · skip
      refine Ex.iconst (pc := 136) (v := 1) dX4_mayStand_136 rfl ?_
      refine Ex.goto (pc := 137) (tgt := 141) dX4_mayStand_137 (by decide) ?_
      refine Ex.iret (pc := 141) rfl rfl rfl dX4_mayStand_141 (Nat.le_refl _) (Nat.le_refl _) ?_
      refine ⟨congrArg (fun z => some (Value.int z)) ?_, rfl⟩
      rw [c1_19]
      show _ = bI (decide (sc = 11 ∨ sc = 12))
      rw [decide_eq_true (Or.inl ((nI_eq (by omega) (by decide)).mp (show nI sc = nI 11 from by rw [← hs]; exact c124)))]; rfl
    · skip
      refine Ex.aload_n (pc := 127) dX4_mayStand_127 rfl rfl ?_
      refine Ex.getI (pc := 128) dX4_mayStand_128 fX4_33 (s2_81 _ _) ?_
      refine Ex.bipush (pc := 131) (v := 12) dX4_mayStand_131 rfl ?_
      refine Ex.icmp_ne (pc := 133) (tgt := 140) dX4_mayStand_133 (by decide) (fun c133 => ?_) (fun c133 => ?_)
      · skip
        refine Ex.iconst (pc := 140) (v := 0) dX4_mayStand_140 rfl ?_
        refine Ex.iret (pc := 141) rfl rfl rfl dX4_mayStand_141 (Nat.le_refl _) (Nat.le_refl _) ?_
        refine ⟨congrArg (fun z => some (Value.int z)) ?_, rfl⟩
        rw [c1_19]
        show _ = bI (decide (sc = 11 ∨ sc = 12))
        rw [decide_eq_false (fun q => q.elim (fun e => c124 (by rw [hs, e]; rfl)) (fun e => c133 (by rw [hs, e]; rfl)))]; rfl
      · skip
        refine Ex.iconst (pc := 136) (v := 1) dX4_mayStand_136 rfl ?_
        refine Ex.goto (pc := 137) (tgt := 141) dX4_mayStand_137 (by decide) ?_
        refine Ex.iret (pc := 141) rfl rfl rfl dX4_mayStand_141 (Nat.le_refl _) (Nat.le_refl _) ?_
        refine ⟨congrArg (fun z => some (Value.int z)) ?_, rfl⟩
        rw [c1_19]
        show _ = bI (decide (sc = 11 ∨ sc = 12))
        rw [decide_eq_true (Or.inr ((nI_eq (by omega) (by decide)).mp (show nI sc = nI 12 from by rw [← hs]; exact c133)))]; rfl
  refine Ex.tableOut (pc := 1) (tgt := 142) dX4_mayStand_1 (by have h0 := toInt_ne (z := 1) c1_1 (by decide); have h1 := toInt_ne (z := 2) c1_2 (by decide); have h2 := toInt_ne (z := 3) c1_3 (by decide); have h3 := toInt_ne (z := 4) c1_4 (by decide); have h4 := toInt_ne (z := 5) c1_5 (by decide); have h5 := toInt_ne (z := 6) c1_6 (by decide); have h6 := toInt_ne (z := 7) c1_7 (by decide); have h7 := toInt_ne (z := 8) c1_8 (by decide); have h8 := toInt_ne (z := 9) c1_9 (by decide); have h9 := toInt_ne (z := 10) c1_10 (by decide); have h10 := toInt_ne (z := 11) c1_11 (by decide); have h11 := toInt_ne (z := 12) c1_12 (by decide); have h12 := toInt_ne (z := 13) c1_13 (by decide); have h13 := toInt_ne (z := 14) c1_14 (by decide); have h14 := toInt_ne (z := 15) c1_15 (by decide); have h15 := toInt_ne (z := 16) c1_16 (by decide); have h16 := toInt_ne (z := 17) c1_17 (by decide); have h17 := toInt_ne (z := 18) c1_18 (by decide); have h18 := toInt_ne (z := 19) c1_19 (by decide); omega) (by decide) ?_
  refine Ex.iconst (pc := 142) (v := 0) dX4_mayStand_142 rfl ?_
  refine Ex.iret (pc := 143) rfl rfl rfl dX4_mayStand_143 (Nat.le_refl _) (Nat.le_refl _) ?_
  refine ⟨congrArg (fun z => some (Value.int z)) ?_, rfl⟩
  unfold mayW
  rw [if_neg (by rintro (e | e | e | e | e | e) <;> simp_all), if_neg (by rintro (e | e) <;> simp_all), if_neg (by rintro (e | e | e) <;> simp_all)]; rfl
set_option maxRecDepth 20000 in
theorem t_open0 {N n d o : Nat} {p : Bool} {w : Int32} {I I0 : aI} {L : aL} {r : Er} (hw : w = 0) (h : Px n I0 I d p r) : Run 6 0 0 mX4_takeOpener [.ref 81, .int (nI o), .int w] (St2 N n I L) (RP2 (some (.int 0)) N n L (fun I2 => Px n I0 I2 d p (stp 1 r))) := by
  refine Run.of (ls := [some (.ref 81), some (.int _), some (.int _)]) (by decide) (Nat.le_of_ble_eq_true rfl) rfl ?_
  refine Ex.iload_n (pc := 0) dX4_takeOpener_0 rfl rfl ?_
  refine Ex.if_ne (pc := 1) (tgt := 15) dX4_takeOpener_1 (by decide) (fun c1 => absurd hw c1) (fun _ => ?_)
  refine Ex.aload_n (pc := 4) dX4_takeOpener_4 rfl rfl ?_
  refine Ex.iconst (pc := 5) (v := 1) dX4_takeOpener_5 rfl ?_
  refine Ex.aload_n (pc := 6) dX4_takeOpener_6 rfl rfl ?_
  refine Ex.getI (pc := 7) dX4_takeOpener_7 fX4_21 (s2_81 _ _) ?_
  refine Ex.callV (pc := 10) (As := [.int 1, .int _]) (rest := []) dX4_takeOpener_10 cX4_77 (t_stp (k := 1) h (by decide) (by decide) h.start) (s2_81 _ _) rfl rfl (by decide) (Nat.le_refl _) (Nat.le_refl _) (Nat.le_of_ble_eq_true rfl) (Or.inl (fun r S' h => by obtain ⟨_, _, h, _⟩ := h; subst h; rfl)) (fun r S' hq _ _ => ?_)
  obtain ⟨I2, rfl, rfl, h2⟩ := hq
  refine Ex.iconst (pc := 13) (v := 0) dX4_takeOpener_13 rfl ?_
  refine Ex.iret (pc := 14) rfl rfl rfl dX4_takeOpener_14 (Nat.le_refl _) (Nat.le_refl _) ?_
  exact ⟨_, rfl, rfl, h2⟩
set_option maxRecDepth 20000 in
theorem t_openN {N n d o : Nat} {p : Bool} {w : Int32} {I I0 : aI} {L : aL} {r : Er} (hw : ¬ w = 0) (h : Px n I0 I d p r) (ho : 7 ≤ o) (ho2 : o < 100) : Run 6 0 0 mX4_takeOpener [.ref 81, .int (nI o), .int w] (St2 N n I L) (RP2 (some (.int 0)) N n L (fun I2 => Px n I0 I2 d p (stp 5 r))) := by
  refine Run.of (ls := [some (.ref 81), some (.int _), some (.int _)]) (by decide) (Nat.le_of_ble_eq_true rfl) rfl ?_
  refine Ex.iload_n (pc := 0) dX4_takeOpener_0 rfl rfl ?_
  refine Ex.if_ne (pc := 1) (tgt := 15) dX4_takeOpener_1 (by decide) (fun _ => ?_) (fun c1 => absurd c1 hw)
  refine Ex.iload_n (pc := 15) dX4_takeOpener_15 rfl rfl ?_
  refine Ex.bipush (pc := 16) (v := 7) dX4_takeOpener_16 rfl ?_
  refine Ex.icmp_lt (pc := 18) (tgt := 32) dX4_takeOpener_18 (by decide) (fun c18 => absurd c18 (nI_nlt (b := 7) ho (by omega))) (fun _ => ?_)
  refine Ex.aload_n (pc := 21) dX4_takeOpener_21 rfl rfl ?_
  refine Ex.iconst (pc := 22) (v := 5) dX4_takeOpener_22 rfl ?_
  refine Ex.aload_n (pc := 23) dX4_takeOpener_23 rfl rfl ?_
  refine Ex.getI (pc := 24) dX4_takeOpener_24 fX4_21 (s2_81 _ _) ?_
  refine Ex.callV (pc := 27) (As := [.int 5, .int _]) (rest := []) dX4_takeOpener_27 cX4_77 (t_stp (k := 5) h (by decide) (by decide) h.start) (s2_81 _ _) rfl rfl (by decide) (Nat.le_refl _) (Nat.le_refl _) (Nat.le_of_ble_eq_true rfl) (Or.inl (fun r S' h => by obtain ⟨_, _, h, _⟩ := h; subst h; rfl)) (fun r S' hq _ _ => ?_)
  obtain ⟨I2, rfl, rfl, h2⟩ := hq
  refine Ex.iconst (pc := 30) (v := 0) dX4_takeOpener_30 rfl ?_
  refine Ex.iret (pc := 31) rfl rfl rfl dX4_takeOpener_31 (Nat.le_refl _) (Nat.le_refl _) ?_
  exact ⟨_, rfl, rfl, h2⟩
set_option maxRecDepth 20000 in
theorem t_openY {N n d o : Nat} {w : Int32} {I I0 : aI} {L : aL} {tb : Nat → Nat} {r : Er} (hw : ¬ w = 0) (hB : PB tb n I0) (h : Px n I0 I d true r) (ho : o < 7) : Run 6 0 0 mX4_takeOpener [.ref 81, .int (nI o), .int w] (St2 N n I L) (RP2 (some (.int 1)) N n L (fun I2 => Px n I0 I2 d false (nx tb n r))) := by
  refine Run.of (ls := [some (.ref 81), some (.int _), some (.int _)]) (by decide) (Nat.le_of_ble_eq_true rfl) rfl ?_
  refine Ex.iload_n (pc := 0) dX4_takeOpener_0 rfl rfl ?_
  refine Ex.if_ne (pc := 1) (tgt := 15) dX4_takeOpener_1 (by decide) (fun _ => ?_) (fun c1 => absurd c1 hw)
  refine Ex.iload_n (pc := 15) dX4_takeOpener_15 rfl rfl ?_
  refine Ex.bipush (pc := 16) (v := 7) dX4_takeOpener_16 rfl ?_
  refine Ex.icmp_lt (pc := 18) (tgt := 32) dX4_takeOpener_18 (by decide) (fun _ => ?_) (fun c18 => absurd (nI_lt (b := 7) ho (by decide)) c18)
  refine Ex.aload_n (pc := 32) dX4_takeOpener_32 rfl rfl ?_
  refine Ex.callV (pc := 33) (As := []) (rest := []) dX4_takeOpener_33 cX4_61 (t_next hB h) (s2_81 _ _) rfl rfl (by decide) (Nat.le_refl _) (Nat.le_refl _) (Nat.le_of_ble_eq_true rfl) (Or.inl (fun r S' h => by obtain ⟨_, _, h, _⟩ := h; subst h; rfl)) (fun r S' hq _ _ => ?_)
  obtain ⟨I2, rfl, rfl, h2⟩ := hq
  refine Ex.iconst (pc := 36) (v := 1) dX4_takeOpener_36 rfl ?_
  refine Ex.iret (pc := 37) rfl rfl rfl dX4_takeOpener_37 (Nat.le_refl _) (Nat.le_refl _) ?_
  exact ⟨_, rfl, rfl, h2⟩
theorem bI_f {b : Bool} (h : b = false) : bI b = 0 := by rw [h]; rfl
theorem bI_t {b : Bool} (h : b = true) : ¬ bI b = 0 := by rw [h]; decide
