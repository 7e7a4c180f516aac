/-! what the class's parser does, as functions: a fault (kind, place), or a token and the steps so far -/
abbrev Cd : Type := List (Nat × Nat)
abbrev Er : Type := Except (Nat × Nat) (Tk × Cd)
def nx (tb : Nat → Nat) (n : Nat) : Er → Er
  | .error e => .error e
  | .ok (t, c) => match tokF tb n t.2.2.2.2 (decide (t.1 = 2 ∨ t.1 = 3)) with
    | .error p => .error (1, p)
    | .ok t' => .ok (t', c)
def adS (s : Nat × Nat) : Er → Er
  | .error e => .error e
  | .ok (t, c) => .ok (t, c ++ [s])
def stp (k : Nat) : Er → Er
  | .error e => .error e
  | .ok (t, _) => .error (k, t.2.2.2.1)
def isS (c : Nat) : Er → Bool
  | .error _ => false
  | .ok (t, _) => decide (t.1 = 4 ∧ t.2.1 = c)
def ownW (l : List Nat) : Int32 := foV (nI (n5 l))
def isW (k : Nat) : Er → Bool
  | .error _ => false
  | .ok (t, _) => decide (t.1 = 2 ∧ ownW t.2.2.1 = nI k)
def isK (k : Nat) : Er → Bool
  | .error _ => false
  | .ok (t, _) => decide (t.1 = k)
def PB (tb : Nat → Nat) (n : Nat) (I0 : aI) : Prop := TxR I0 tb n ∧ I0 81 1 = nI n ∧ n ≤ 1600
def potT (p : Bool) (t : Tk) : Nat := if p = true then t.2.2.2.2 else t.2.2.2.1
def PxO (n : Nat) (I : aI) (d : Nat) (p : Bool) (t : Tk) (c : Cd) : Prop := TkC I t ∧ TkW n t ∧ I 82 8 = nI c.length ∧ c.length + d ≤ potT p t ∧ ∀ (j : Nat) (s : Nat × Nat), c[j]? = some s → I 89 j = nI (s.1 * 16384 + s.2) ∧ s.1 < 16 ∧ s.2 < 16384
def PxE (n : Nat) (I : aI) (e : Nat × Nat) : Prop := I 81 3 = nI e.1 ∧ 1 ≤ e.1 ∧ e.1 ≤ 6 ∧ I 81 4 = nI e.2 ∧ e.2 ≤ n ∧ I 81 7 = 0 ∧ ∃ k, k ≤ n ∧ I 82 8 = nI k
def PxR (n : Nat) (I : aI) (d : Nat) (p : Bool) : Er → Prop
  | .ok (t, c) => PxO n I d p t c
  | .error e => PxE n I e
/-- since I0 only the Parser's marks and the steps have changed -/
def PxF (I0 I : aI) : Prop := Sm [81, 82, 89] I0 I ∧ (∀ j, j < 3 ∨ 9 < j → I 81 j = I0 81 j) ∧ ∀ j, j ≠ 8 → I 82 j = I0 82 j
def Px (n : Nat) (I0 I : aI) (d : Nat) (p : Bool) (r : Er) : Prop := PxF I0 I ∧ PxR n I d p r
theorem PB.tx {tb : Nat → Nat} {n : Nat} {I0 I : aI} (h : PB tb n I0) (hF : PxF I0 I) : TxR I tb n ∧ I 81 1 = nI n ∧ n ≤ 1600 := ⟨h.1.sm hF.1 (by decide), by rw [hF.2.1 1 (by omega)]; exact h.2.1, h.2.2⟩
theorem PB.lt {tb : Nat → Nat} {n : Nat} {I0 : aI} (h : PB tb n I0) : ∀ i, i < n → tb i < 256 := fun i hi => (h.1 i hi).1
theorem PxF.p81 {I0 I I2 : aI} (h : PxF I0 I) (hS : Sm [81] I I2) (hj : ∀ j, j < 3 ∨ 9 < j → I2 81 j = I 81 j) : PxF I0 I2 := ⟨h.1.tr hS (by decide) (by decide), fun j q => (hj j q).trans (h.2.1 j q), fun j q => by rw [hS 82 (by decide)]; exact h.2.2 j q⟩
theorem PxE.p81 {n : Nat} {I I2 : aI} {d : Nat} {p : Bool} {t : Tk} {c : Cd} (h : PxO n I d p t c) (hS : Sm [81] I I2) {e : Nat × Nat} (h1 : I2 81 3 = nI e.1) (h2 : 1 ≤ e.1) (h3 : e.1 ≤ 6) (h4 : I2 81 4 = nI e.2) (h5 : e.2 ≤ n) (h7 : I2 81 7 = 0) : PxE n I2 e := by
  refine ⟨h1, h2, h3, h4, h5, h7, c.length, ?_, by rw [hS 82 (by decide)]; exact h.2.2.1⟩
  have a := h.2.2.2.1
  have b := h.2.1
  unfold potT at a
  have := b.2.2.1
  have := b.2.2.2.1
  split at a <;> omega
theorem PxO.p81 {n : Nat} {I I2 : aI} {d d2 : Nat} {p p2 : Bool} {t t2 : Tk} {c : Cd} (h : PxO n I d p t c) (hS : Sm [81] I I2) (hC : TkC I2 t2) (hW : TkW n t2) (hd : c.length + d2 ≤ potT p2 t2) : PxO n I2 d2 p2 t2 c :=
  ⟨hC, hW, by rw [hS 82 (by decide)]; exact h.2.2.1, hd, fun j s hs => by rw [hS 89 (by decide)]; exact h.2.2.2.2 j s hs⟩
theorem PxR.mono {n : Nat} {I : aI} {d d2 : Nat} {p p2 : Bool} {r : Er} (h : PxR n I d p r) (hd : ∀ t c, r = .ok (t, c) → c.length + d ≤ potT p t → TkW n t → c.length + d2 ≤ potT p2 t) : PxR n I d2 p2 r := by
  cases r with
  | error e => exact h
  | ok q =>
    obtain ⟨t, c⟩ := q
    exact ⟨h.1, h.2.1, h.2.2.1, hd t c rfl h.2.2.2.1 h.2.1, h.2.2.2.2⟩
/-- a token that isn't the end pays for one step -/
theorem Px.pay {n : Nat} {I0 I : aI} {d : Nat} {r : Er} (h : Px n I0 I d false r) (hk : isK 1 r = false) : Px n I0 I (d + 1) true r := by
  refine ⟨h.1, h.2.mono fun t c e h1 h2 => ?_⟩
  subst e
  have h5 := h2.2.2.2.2.1 (of_decide_eq_false hk)
  have h1 : List.length c + d ≤ t.2.2.2.1 := h1
  show List.length c + (d + 1) ≤ t.2.2.2.2
  omega
theorem Px.le {n : Nat} {I0 I : aI} {d : Nat} {r : Er} (h : Px n I0 I d false r) : Px n I0 I d true r := by
  refine ⟨h.1, h.2.mono fun t c e h1 h2 => ?_⟩
  have h5 := h2.2.2.1
  have h1 : List.length c + d ≤ t.2.2.2.1 := h1
  show List.length c + d ≤ t.2.2.2.2
  omega
theorem Px.less {n : Nat} {I0 I : aI} {d : Nat} {p : Bool} {r : Er} (h : Px n I0 I (d + 1) p r) : Px n I0 I d p r := ⟨h.1, h.2.mono fun t c e h1 h2 => by omega⟩
theorem isS_k {c : Nat} {r : Er} (h : isS c r = true) : isK 1 r = false := by
  cases r with
  | error e => rfl
  | ok q => obtain ⟨t, c⟩ := q; have := of_decide_eq_true h; exact decide_eq_false (by omega)
theorem isW_k {c : Nat} {r : Er} (h : isW c r = true) : isK 1 r = false := by
  cases r with
  | error e => rfl
  | ok q => obtain ⟨t, c⟩ := q; have := of_decide_eq_true h; exact decide_eq_false (by omega)
theorem isK_k {k : Nat} {r : Er} (hk : k ≠ 1) (h : isK k r = true) : isK 1 r = false := by
  cases r with
  | error e => rfl
  | ok q => obtain ⟨t, c⟩ := q; have := of_decide_eq_true h; exact decide_eq_false (by omega)
set_option maxRecDepth 20000 in
theorem t_nextE5 {N M : Nat} {I : aI} {L : aL} (h7 : I 81 7 = 0) : Run 5 0 0 mX4_next [.ref 81] (St2 N M I L) (RV (St2 N M I L)) := by
  refine Run.of (ls := [some (.ref 81), none, none]) (by decide) (Nat.le_of_ble_eq_true rfl) rfl ?_
  refine Ex.aload_n (pc := 0) dX4_next_0 rfl rfl ?_
  refine Ex.getI (pc := 1) dX4_next_1 fX4_24 (s2_81 _ _) ?_
  refine Ex.if_ne (pc := 4) (tgt := 8) dX4_next_4 (by decide) (fun c4 => absurd h7 c4) (fun _ => ?_)
  refine Ex.vret (pc := 7) rfl dX4_next_7 (Nat.le_refl _) (Nat.le_refl _) ?_
  exact ⟨rfl, rfl⟩
set_option maxRecDepth 20000 in
theorem t_next {N n d : Nat} {I I0 : aI} {L : aL} {tb : Nat → Nat} {r : Er} (hB : PB tb n I0) (h : Px n I0 I d true r) : Run 5 0 0 mX4_next [.ref 81] (St2 N n I L) (RP2 none N n L (fun I2 => Px n I0 I2 d false (nx tb n r))) := by
  obtain ⟨hF, hR⟩ := h
  obtain ⟨g1, g2, g3⟩ := hB.tx hF
  cases r with
  | error e => exact (t_nextE5 (M := n) hR.2.2.2.2.2.1).imp (fun r S' q => ⟨I, q.1, q.2, hF, hR⟩)
  | ok q =>
    obtain ⟨t, c⟩ := q
    have hR : PxO n I d true t c := hR
    obtain ⟨c1, c2, c3, c4, c5⟩ := id hR
    refine (t_nextR (a := t.2.2.2.2) (kd := t.1) g1 g2 g3 c1.2.1 c2.2.2.2.1 c1.1 c1.2.2.2.2.2.2 c1.2.2.2.1 (by have := c2.1; omega) c2.2.1).imp ?_
    rintro r S' ⟨I2, e1, e2, hS, hj, hE⟩
    refine ⟨I2, e1, e2, hF.p81 hS hj, ?_⟩
    simp only [nx]
    cases ht : tokF tb n t.2.2.2.2 (decide (t.1 = 2 ∨ t.1 = 3)) with
    | error p =>
      rw [ht] at hE
      exact PxE.p81 hR hS (e := (1, p)) hE.1 (Nat.le_refl 1) (show 1 ≤ 6 by decide) hE.2.1 (tokF_er c2.2.2.2.1 ht) hE.2.2
    | ok t2 =>
      rw [ht] at hE
      obtain ⟨w1, w2⟩ := tokF_ok hB.lt c2.2.2.2.1 ht
      refine hR.p81 hS hE w1 ?_
      have c4 : List.length c + d ≤ t.2.2.2.2 := c4
      show List.length c + d ≤ t2.2.2.2.1
      omega
set_option maxRecDepth 20000 in
theorem t_stp {N n d k : Nat} {w : Int32} {p : Bool} {I I0 : aI} {L : aL} {r : Er} (h : Px n I0 I d p r) (hk : 1 ≤ k) (hk6 : k ≤ 6) (hw : ∀ t c, r = .ok (t, c) → w = nI t.2.2.2.1) : Run 0 0 0 mX4_stop [.ref 81, .int (nI k), .int w] (St2 N n I L) (RP2 none N n L (fun I2 => Px n I0 I2 d p (stp k r))) := by
  obtain ⟨hF, hR⟩ := h
  cases r with
  | error e =>
    refine (t_stop (M := n)).imp ?_
    rintro r S' ⟨e1, e2⟩
    have hR : PxE n I e := hR
    have hne : ¬ I 81 3 = 0 := by rw [hR.1]; exact nI_ne0 (by have := hR.2.1; omega) (by have := hR.2.2.1; omega)
    rw [if_neg hne] at e2
    refine ⟨_, e1, e2, ?_, ?_⟩
    · exact hF.p81 (Sm.rf.up (by decide)) (fun j q => pf_n (by omega))
    · show PxE n (pf I 7 0) e
      exact ⟨by rw [pf_n (by decide)]; exact hR.1, hR.2.1, hR.2.2.1, by rw [pf_n (by decide)]; exact hR.2.2.2.1, hR.2.2.2.2.1, pf_s, by rw [pf_o (by decide)]; exact hR.2.2.2.2.2.2⟩
  | ok q =>
    obtain ⟨t, c⟩ := q
    have hR : PxO n I d p t c := hR
    refine (t_stop (M := n)).imp ?_
    rintro r S' ⟨e1, e2⟩
    rw [if_pos hR.1.1, hw t c rfl] at e2
    have hS : Sm [81] I (pf (pf (pf I 3 (nI k)) 4 (nI t.2.2.2.1)) 7 0) := ((Sm.rf.up (by decide)).up (by decide)).up (by decide)
    refine ⟨_, e1, e2, hF.p81 hS (fun j q => by rw [pf_n (by omega), pf_n (by omega), pf_n (by omega)]), ?_⟩
    exact PxE.p81 hR hS (e := (k, t.2.2.2.1)) (by rw [pf_n (by decide), pf_n (by decide), pf_s]) hk hk6 (by rw [pf_n (by decide), pf_s]) (by have a := hR.2.1.2.2.1; have b := hR.2.1.2.2.2.1; show t.2.2.2.1 ≤ n; omega) pf_s
theorem or14 {k v : Nat} (hk : k < 16) (hv : v < 16384) : nI k <<< ((14 : Int32) &&& 31) ||| nI v = nI (k * 16384 + v) := by
  rw [pk_shlN _ 14 (by decide) (by omega)]
  apply Int32.toBitVec_inj.mp
  apply BitVec.eq_of_toNat_eq
  rw [Int32.toBitVec_or, BitVec.toNat_or, pk_tn (by omega), pk_tn (by omega), pk_tn (by omega)]
  have := Nat.shiftLeft_add_eq_or_of_lt (i := 14) (b := v) (by omega) k
  rw [Nat.shiftLeft_eq] at this
  exact this.symm
set_option maxRecDepth 20000 in
theorem t_isW {N n d k : Nat} {p : Bool} {I I0 : aI} {L : aL} {r : Er} (h : Px n I0 I d p r) (hk : k < 256) : Run 0 0 0 mX4_isWord [.ref 81, .int (nI k)] (St2 N n I L) (RI (bI (isW k r)) (St2 N n I L)) := by
  refine Run.of (ls := [some (.ref 81), some (.int _)]) (by decide) (Nat.le_of_ble_eq_true rfl) rfl ?_
  obtain ⟨hF, hR⟩ := h
  cases r with
  | error e =>
    have hR : PxE n I e := hR
    have h7 : I 81 7 = 0 := hR.2.2.2.2.2.1
    refine Ex.aload_n (pc := 0) dX4_isWord_0 rfl rfl ?_
    refine Ex.getI (pc := 1) dX4_isWord_1 fX4_24 (s2_81 _ _) ?_
    refine Ex.iconst (pc := 4) (v := 2) dX4_isWord_4 rfl ?_
    refine Ex.icmp_ne (pc := 5) (tgt := 20) dX4_isWord_5 (by decide) (fun _ => ?_) (fun c5 => absurd c5 (by rw [h7]; decide))
    refine Ex.iconst (pc := 20) (v := 0) dX4_isWord_20 rfl ?_
    refine Ex.iret (pc := 21) rfl rfl rfl dX4_isWord_21 (Nat.le_refl _) (Nat.le_refl _) ?_
    exact ⟨rfl, rfl⟩
  | ok q =>
    obtain ⟨t, c⟩ := q
    have hR : PxO n I d p t c := hR
    obtain ⟨c1, c2, c3, c4, c5⟩ := id hR
    have h7 : I 81 7 = nI t.1 := c1.2.2.2.1
    have hk4 := c2.2.1
    refine Ex.aload_n (pc := 0) dX4_isWord_0 rfl rfl ?_
    refine Ex.getI (pc := 1) dX4_isWord_1 fX4_24 (s2_81 _ _) ?_
    refine Ex.iconst (pc := 4) (v := 2) dX4_isWord_4 rfl ?_
    refine Ex.icmp_ne (pc := 5) (tgt := 20) dX4_isWord_5 (by decide) (fun c5 => ?_) (fun c5 => ?_)
    · skip
      refine Ex.iconst (pc := 20) (v := 0) dX4_isWord_20 rfl ?_
      refine Ex.iret (pc := 21) rfl rfl rfl dX4_isWord_21 (Nat.le_refl _) (Nat.le_refl _) ?_
      refine ⟨congrArg (fun z => some (Value.int z)) ?_, rfl⟩
      show _ = bI (decide (t.1 = 2 ∧ ownW t.2.2.1 = nI k))
      rw [decide_eq_false (fun q => c5 (by rw [h7, q.1]; rfl))]; rfl
    · skip
      refine Ex.aload_n (pc := 8) dX4_isWord_8 rfl rfl ?_
      refine Ex.getI (pc := 9) dX4_isWord_9 fX4_30 (s2_81 _ _) ?_
      refine Ex.iload_n (pc := 12) dX4_isWord_12 rfl rfl ?_
      refine Ex.icmp_ne (pc := 13) (tgt := 20) dX4_isWord_13 (by decide) (fun c13 => ?_) (fun c13 => ?_)
      · skip
        refine Ex.iconst (pc := 20) (v := 0) dX4_isWord_20 rfl ?_
        refine Ex.iret (pc := 21) rfl rfl rfl dX4_isWord_21 (Nat.le_refl _) (Nat.le_refl _) ?_
        refine ⟨congrArg (fun z => some (Value.int z)) ?_, rfl⟩
        show _ = bI (decide (t.1 = 2 ∧ ownW t.2.2.1 = nI k))
        have e2 : t.1 = 2 := (nI_eq (by omega) (by decide)).mp (show nI t.1 = nI 2 from by rw [← h7]; exact c5)
        have e9 := (c1.2.2.2.2.1 e2).2
        rw [decide_eq_false (fun q => c13 (by rw [e9]; exact q.2))]; rfl
      · skip
        refine Ex.iconst (pc := 16) (v := 1) dX4_isWord_16 rfl ?_
        refine Ex.goto (pc := 17) (tgt := 21) dX4_isWord_17 (by decide) ?_
        refine Ex.iret (pc := 21) rfl rfl rfl dX4_isWord_21 (Nat.le_refl _) (Nat.le_refl _) ?_
        refine ⟨congrArg (fun z => some (Value.int z)) ?_, rfl⟩
        show _ = bI (decide (t.1 = 2 ∧ ownW t.2.2.1 = nI k))
        have e2 : t.1 = 2 := (nI_eq (by omega) (by decide)).mp (show nI t.1 = nI 2 from by rw [← h7]; exact c5)
        have e9 := (c1.2.2.2.2.1 e2).2
        rw [decide_eq_true ⟨e2, by rw [← c13, e9]; rfl⟩]; rfl
set_option maxRecDepth 20000 in
theorem t_isS {N n d k : Nat} {p : Bool} {I I0 : aI} {L : aL} {r : Er} (h : Px n I0 I d p r) (hk : k < 256) : Run 0 0 0 mX4_isSign [.ref 81, .int (nI k)] (St2 N n I L) (RI (bI (isS k r)) (St2 N n I L)) := by
  refine Run.of (ls := [some (.ref 81), some (.int _)]) (by decide) (Nat.le_of_ble_eq_true rfl) rfl ?_
  obtain ⟨hF, hR⟩ := h
  cases r with
  | error e =>
    have hR : PxE n I e := hR
    have h7 : I 81 7 = 0 := hR.2.2.2.2.2.1
    refine Ex.aload_n (pc := 0) dX4_isSign_0 rfl rfl ?_
    refine Ex.getI (pc := 1) dX4_isSign_1 fX4_24 (s2_81 _ _) ?_
    refine Ex.iconst (pc := 4) (v := 4) dX4_isSign_4 rfl ?_
    refine Ex.icmp_ne (pc := 5) (tgt := 20) dX4_isSign_5 (by decide) (fun _ => ?_) (fun c5 => absurd c5 (by rw [h7]; decide))
    refine Ex.iconst (pc := 20) (v := 0) dX4_isSign_20 rfl ?_
    refine Ex.iret (pc := 21) rfl rfl rfl dX4_isSign_21 (Nat.le_refl _) (Nat.le_refl _) ?_
    exact ⟨rfl, rfl⟩
  | ok q =>
    obtain ⟨t, c⟩ := q
    have hR : PxO n I d p t c := hR
    obtain ⟨c1, c2, c3, c4, c5⟩ := id hR
    have h7 : I 81 7 = nI t.1 := c1.2.2.2.1
    have hk4 := c2.2.1
    refine Ex.aload_n (pc := 0) dX4_isSign_0 rfl rfl ?_
    refine Ex.getI (pc := 1) dX4_isSign_1 fX4_24 (s2_81 _ _) ?_
    refine Ex.iconst (pc := 4) (v := 4) dX4_isSign_4 rfl ?_
    refine Ex.icmp_ne (pc := 5) (tgt := 20) dX4_isSign_5 (by decide) (fun c5 => ?_) (fun c5 => ?_)
    · skip
      refine Ex.iconst (pc := 20) (v := 0) dX4_isSign_20 rfl ?_
      refine Ex.iret (pc := 21) rfl rfl rfl dX4_isSign_21 (Nat.le_refl _) (Nat.le_refl _) ?_
      refine ⟨congrArg (fun z => some (Value.int z)) ?_, rfl⟩
      show _ = bI (decide (t.1 = 4 ∧ t.2.1 = k))
      rw [decide_eq_false (fun q => c5 (by rw [h7, q.1]; rfl))]; rfl
    · skip
      refine Ex.aload_n (pc := 8) dX4_isSign_8 rfl rfl ?_
      refine Ex.getI (pc := 9) dX4_isSign_9 fX4_27 (s2_81 _ _) ?_
      refine Ex.iload_n (pc := 12) dX4_isSign_12 rfl rfl ?_
      refine Ex.icmp_ne (pc := 13) (tgt := 20) dX4_isSign_13 (by decide) (fun c13 => ?_) (fun c13 => ?_)
      · skip
        refine Ex.iconst (pc := 20) (v := 0) dX4_isSign_20 rfl ?_
        refine Ex.iret (pc := 21) rfl rfl rfl dX4_isSign_21 (Nat.le_refl _) (Nat.le_refl _) ?_
        refine ⟨congrArg (fun z => some (Value.int z)) ?_, rfl⟩
        show _ = bI (decide (t.1 = 4 ∧ t.2.1 = k))
        have e2 : t.1 = 4 := (nI_eq (by omega) (by decide)).mp (show nI t.1 = nI 4 from by rw [← h7]; exact c5)
        have e9 := c1.2.2.2.2.2.1 (Or.inr e2)
        have h256 := c2.2.2.2.2.2.2.2 e2
        rw [e9, nI_eq (by omega) (by omega)] at c13
        rw [decide_eq_false (fun q => c13 q.2)]; rfl
      · skip
        refine Ex.iconst (pc := 16) (v := 1) dX4_isSign_16 rfl ?_
        refine Ex.goto (pc := 17) (tgt := 21) dX4_isSign_17 (by decide) ?_
        refine Ex.iret (pc := 21) rfl rfl rfl dX4_isSign_21 (Nat.le_refl _) (Nat.le_refl _) ?_
        refine ⟨congrArg (fun z => some (Value.int z)) ?_, rfl⟩
        show _ = bI (decide (t.1 = 4 ∧ t.2.1 = k))
        have e2 : t.1 = 4 := (nI_eq (by omega) (by decide)).mp (show nI t.1 = nI 4 from by rw [← h7]; exact c5)
        have e9 := c1.2.2.2.2.2.1 (Or.inr e2)
        have h256 := c2.2.2.2.2.2.2.2 e2
        rw [e9, nI_eq (by omega) (by omega)] at c13
        rw [decide_eq_true ⟨e2, c13⟩]; rfl
set_option maxRecDepth 20000 in
theorem t_adS {N n d d2 k v : Nat} {p p2 : Bool} {I I0 : aI} {L : aL} {r : Er} (h : Px n I0 I d p r) (hn : n ≤ 1600) (hk : k < 16) (hv : v < 16384) (hp : ∀ t c, r = .ok (t, c) → c.length < n ∧ c.length + 1 + d2 ≤ potT p2 t) : Run 0 0 0 mX5_addStep [.ref 82, .int (nI k), .int (nI v)] (St2 N n I L) (RP2 none N n L (fun I2 => Px n I0 I2 d2 p2 (adS (k, v) r))) := by
  refine Run.of (ls := [some (.ref 82), some (.int _), some (.int _)]) (by decide) (Nat.le_of_ble_eq_true rfl) rfl ?_
  obtain ⟨hF, hR⟩ := h
  have key : ∀ q, q < n → I 82 8 = nI q → PxF I0 (va_up (va_up I 89 (upd (I 89) q (nI (k * 16384 + v)))) 82 (upd (va_up I 89 (upd (I 89) q (nI (k * 16384 + v))) 82) 8 (nI (q + 1)))) := fun q _ _ =>
    ⟨(hF.1.up (by decide)).up (by decide), fun j hj => by rw [va_up_n (by decide), va_up_n (by decide)]; exact hF.2.1 j hj, fun j hj => by rw [va_up_s, upd_n hj, va_up_n (by decide)]; exact hF.2.2 j hj⟩
  cases r with
  | error e =>
    have hR : PxE n I e := hR
    obtain ⟨q, hq, e8⟩ := hR.2.2.2.2.2.2
    refine Ex.aload_n (pc := 0) dX5_addStep_0 rfl rfl ?_
    refine Ex.getI (pc := 1) dX5_addStep_1 fX5_34 (s2_82 _ _) ?_
    refine Ex.aload_n (pc := 4) dX5_addStep_4 rfl rfl ?_
    refine Ex.getR (pc := 5) dX5_addStep_5 fX5_49 (s2_82 _ _) r2_82_7 ?_
    refine Ex.alen (pc := 8) (t := 0) dX5_addStep_8 (s2_89 _ _) (by decide) ?_
    refine Ex.icmp_ge (pc := 9) (tgt := 37) dX5_addStep_9 (by decide) (fun c9 => ?_) (fun c9 => ?_)
    · skip
      refine Ex.vret (pc := 37) rfl dX5_addStep_37 (Nat.le_refl _) (Nat.le_refl _) ?_
      exact ⟨_, rfl, rfl, hF, hR⟩
    · skip
      have hqn : q < n := by
        rcases Nat.lt_or_ge q n with z | z
        · exact z
        · rw [e8] at c9; exact absurd (show nI n ≤ nI q from nI_le z (by omega)) c9
      refine Ex.aload_n (pc := 12) dX5_addStep_12 rfl rfl ?_
      refine Ex.getR (pc := 13) dX5_addStep_13 fX5_49 (s2_82 _ _) r2_82_7 ?_
      refine Ex.aload_n (pc := 16) dX5_addStep_16 rfl rfl ?_
      refine Ex.getI (pc := 17) dX5_addStep_17 fX5_34 (s2_82 _ _) ?_
      refine Ex.iload_n (pc := 20) dX5_addStep_20 rfl rfl ?_
      refine Ex.bipush (pc := 21) (v := 14) dX5_addStep_21 rfl ?_
      refine Ex.ishl (pc := 23) dX5_addStep_23 ?_
      refine Ex.iload_n (pc := 24) dX5_addStep_24 rfl rfl ?_
      refine Ex.ior (pc := 25) dX5_addStep_25 ?_
      rw [or14 hk hv]
      refine Ex.iast (pc := 26) (j := q) dX5_addStep_26 (s2_89 _ _) (by rw [e8]; exact vp_in_nI (by omega) (by omega)) (by rw [e8]; exact nI_clamp (by omega)) ?_
      refine Ex.aload_n (pc := 27) dX5_addStep_27 rfl rfl ?_
      refine Ex.dup (pc := 28) dX5_addStep_28 rfl ?_
      refine Ex.getI (pc := 29) dX5_addStep_29 fX5_34 (s2_82 _ _) ?_
      refine Ex.iconst (pc := 32) (v := 1) dX5_addStep_32 rfl ?_
      refine Ex.iadd (pc := 33) dX5_addStep_33 ?_
      refine Ex.putI (pc := 34) dX5_addStep_34 fX5_34 (s2_82 _ _) (Or.inl rfl) ⟨rfl, rfl⟩ ?_
      refine Ex.vret (pc := 37) rfl dX5_addStep_37 (Nat.le_refl _) (Nat.le_refl _) ?_
      refine ⟨_, rfl, ?_, key q hqn e8, ?_⟩
      · rw [va_up_n (show (82 : Nat) ≠ 89 by decide), e8, show nI q + 1 = nI (q + 1) from nI_1 q]
      · exact ⟨by rw [va_up_n (by decide), va_up_n (by decide)]; exact hR.1, hR.2.1, hR.2.2.1, by rw [va_up_n (by decide), va_up_n (by decide)]; exact hR.2.2.2.1, hR.2.2.2.2.1, by rw [va_up_n (by decide), va_up_n (by decide)]; exact hR.2.2.2.2.2.1, q + 1, hqn, by rw [va_up_s, upd_s]⟩
  | ok q =>
    obtain ⟨t, c⟩ := q
    have hR : PxO n I d p t c := hR
    obtain ⟨c1, c2, e8, c4, hst⟩ := id hR
    obtain ⟨hqn, hpot⟩ := hp t c rfl
    refine Ex.aload_n (pc := 0) dX5_addStep_0 rfl rfl ?_
    refine Ex.getI (pc := 1) dX5_addStep_1 fX5_34 (s2_82 _ _) ?_
    refine Ex.aload_n (pc := 4) dX5_addStep_4 rfl rfl ?_
    refine Ex.getR (pc := 5) dX5_addStep_5 fX5_49 (s2_82 _ _) r2_82_7 ?_
    refine Ex.alen (pc := 8) (t := 0) dX5_addStep_8 (s2_89 _ _) (by decide) ?_
    refine Ex.icmp_ge (pc := 9) (tgt := 37) dX5_addStep_9 (by decide) (fun c9 => absurd c9 (by rw [e8]; exact nI_ge hqn (by omega))) (fun _ => ?_)
    refine Ex.aload_n (pc := 12) dX5_addStep_12 rfl rfl ?_
    refine Ex.getR (pc := 13) dX5_addStep_13 fX5_49 (s2_82 _ _) r2_82_7 ?_
    refine Ex.aload_n (pc := 16) dX5_addStep_16 rfl rfl ?_
    refine Ex.getI (pc := 17) dX5_addStep_17 fX5_34 (s2_82 _ _) ?_
    refine Ex.iload_n (pc := 20) dX5_addStep_20 rfl rfl ?_
    refine Ex.bipush (pc := 21) (v := 14) dX5_addStep_21 rfl ?_
    refine Ex.ishl (pc := 23) dX5_addStep_23 ?_
    refine Ex.iload_n (pc := 24) dX5_addStep_24 rfl rfl ?_
    refine Ex.ior (pc := 25) dX5_addStep_25 ?_
    rw [or14 hk hv]
    refine Ex.iast (pc := 26) (j := c.length) dX5_addStep_26 (s2_89 _ _) (by rw [e8]; exact vp_in_nI (by omega) (by omega)) (by rw [e8]; exact nI_clamp (by omega)) ?_
    refine Ex.aload_n (pc := 27) dX5_addStep_27 rfl rfl ?_
    refine Ex.dup (pc := 28) dX5_addStep_28 rfl ?_
    refine Ex.getI (pc := 29) dX5_addStep_29 fX5_34 (s2_82 _ _) ?_
    refine Ex.iconst (pc := 32) (v := 1) dX5_addStep_32 rfl ?_
    refine Ex.iadd (pc := 33) dX5_addStep_33 ?_
    refine Ex.putI (pc := 34) dX5_addStep_34 fX5_34 (s2_82 _ _) (Or.inl rfl) ⟨rfl, rfl⟩ ?_
    refine Ex.vret (pc := 37) rfl dX5_addStep_37 (Nat.le_refl _) (Nat.le_refl _) ?_
    refine ⟨_, rfl, ?_, key c.length hqn e8, ?_⟩
    · rw [va_up_n (show (82 : Nat) ≠ 89 by decide), e8, show nI c.length + 1 = nI (c.length + 1) from nI_1 _]
    · obtain ⟨a1, a2, a3, a4, a5, a6, a7⟩ := c1
      refine ⟨⟨?_, ?_, ?_, ?_, ?_, ?_, ?_⟩, c2, ?_, ?_, ?_⟩
      · rw [va_up_n (by decide), va_up_n (by decide)]; exact a1
      · rw [va_up_n (by decide), va_up_n (by decide)]; exact a2
      · rw [va_up_n (by decide), va_up_n (by decide)]; exact a3
      · rw [va_up_n (by decide), va_up_n (by decide)]; exact a4
      · intro q; rw [va_up_n (by decide), va_up_n (by decide)]; exact a5 q
      · intro q; rw [va_up_n (by decide), va_up_n (by decide)]; exact a6 q
      · rw [va_up_n (by decide), va_up_n (by decide)]; exact a7
      · rw [va_up_s, upd_s, List.length_append]; rfl
      · rw [List.length_append]; exact hpot
      · intro j s hj
        rw [va_up_n (by decide), va_up_s]
        by_cases ej : j = c.length
        · subst ej
          rw [List.getElem?_append_right (Nat.le_refl _), Nat.sub_self] at hj
          cases hj
          rw [upd_s]; exact ⟨rfl, hk, hv⟩
        · have hjl : j < c.length := by have := (List.getElem?_eq_some_iff.mp hj).1; rw [List.length_append] at this; have : [(k, v)].length = 1 := rfl; omega
          rw [List.getElem?_append_left hjl] at hj
          rw [upd_n ej]; exact hst j s hj
