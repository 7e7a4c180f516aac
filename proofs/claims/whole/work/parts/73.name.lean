/-! the class's Plan while it is read: counts, names, two numbers of each thing, water, dry, the steps' bounds -/
abbrev Pl : Type := (Nat → Nat) × (Nat → Nat → List Nat) × (Nat → Nat → Nat) × (Nat → Nat → Nat) × Nat × Nat × (Nat → Nat) × (Nat → Nat)
def PlN (I : aI) (pl : Pl) : Prop := ∀ q, q < 3 → I 83 q = nI (pl.1 q) ∧ pl.1 q ≤ 6 ∧ ∀ j, (j < pl.1 q → okN (pl.2.1 q j) ∧ I 84 (6 * q + j) = nI (n5 (pl.2.1 q j)) ∧ I 85 (6 * q + j) = nI (pl.2.2.1 q j) ∧ I 86 (6 * q + j) = nI (pl.2.2.2.1 q j)) ∧ (pl.1 q ≤ j → j < 6 → I 85 (6 * q + j) = 0 ∧ I 86 (6 * q + j) = 0)
def PlO (I : aI) (pl : Pl) : Prop := PlN I pl ∧ I 82 4 = nI pl.2.2.2.2.1 ∧ I 82 5 = nI pl.2.2.2.2.2.1 ∧ ∀ r, r < 5 → I 87 r = nI (pl.2.2.2.2.2.2.1 r) ∧ I 88 r = nI (pl.2.2.2.2.2.2.2 r) ∧ pl.2.2.2.2.2.2.1 r ≤ 1600 ∧ pl.2.2.2.2.2.2.2 r ≤ 1600
def PlX (I : aI) : Prop := ∀ q, q < 3 → ∃ k, k ≤ 6 ∧ I 83 q = nI k
def PlR (I : aI) (pl : Pl) : Er → Prop
  | .ok _ => PlO I pl
  | .error _ => PlX I
def Al : List Nat := [81, 82, 83, 84, 85, 86, 87, 88, 89]
def Pz (tb : Nat → Nat) (n : Nat) (Ib I : aI) (r : Er) (pl : Pl) : Prop := (Sm Al Ib I ∧ I 82 6 = Ib 82 6) ∧ PB tb n I ∧ PxR n I 0 false r ∧ PlR I pl r
theorem PlO.x {I : aI} {pl : Pl} (h : PlO I pl) : PlX I := fun q hq => ⟨_, (h.1 q hq).2.1, (h.1 q hq).1⟩
theorem PlR.x {I : aI} {pl : Pl} {r : Er} (h : PlR I pl r) : PlX I := by
  cases r with
  | error e => exact h
  | ok q => exact PlO.x h
theorem PlO.fr {I I2 : aI} {pl : Pl} (h : PlO I pl) (hF : PxF I I2) : PlO I2 pl := by
  obtain ⟨h1, h2, h3, h4⟩ := h
  have e : ∀ a, a ∉ [81, 82, 89] → I2 a = I a := hF.1
  refine ⟨fun q hq => ?_, by rw [hF.2.2 4 (by decide)]; exact h2, by rw [hF.2.2 5 (by decide)]; exact h3, fun r hr => by rw [e 87 (by decide), e 88 (by decide)]; exact h4 r hr⟩
  rw [e 83 (by decide), e 84 (by decide), e 85 (by decide), e 86 (by decide)]
  exact h1 q hq
theorem PlX.fr {I I2 : aI} (h : PlX I) (hF : PxF I I2) : PlX I2 := fun q hq => by rw [hF.1 83 (by decide)]; exact h q hq
theorem Pz.px {tb : Nat → Nat} {n : Nat} {Ib I : aI} {r : Er} {pl : Pl} (h : Pz tb n Ib I r pl) : Px n I I 0 false r := ⟨⟨Sm.rf, fun _ _ => rfl, fun _ _ => rfl⟩, h.2.2.1⟩
/-- what an Er makes of an Er leaves the Plan; a fault stays -/
def Fst (F : Er → Er) : Prop := ∀ e, F (.error e) = .error e
theorem Pz.go {tb : Nat → Nat} {n : Nat} {Ib I I2 : aI} {r r2 : Er} {pl : Pl} (h : Pz tb n Ib I r pl) (h2 : Px n I I2 0 false r2) (he : ∀ e, r = .error e → r2 = .error e) : Pz tb n Ib I2 r2 pl := by
  obtain ⟨g1, g2, g3, g4⟩ := h
  refine ⟨⟨g1.1.tr h2.1.1 (fun _ q => q) (by decide), (h2.1.2.2 6 (by decide)).trans g1.2⟩, ?_, h2.2, ?_⟩
  · obtain ⟨a, b, c⟩ := g2.tx h2.1
    exact ⟨a, b, c⟩
  · cases r with
    | error e =>
      rw [he e rfl]
      exact PlX.fr g4 h2.1
    | ok q =>
      cases r2 with
      | error e => exact (PlO.x g4).fr h2.1
      | ok q2 => exact PlO.fr g4 h2.1
theorem nx_e (tb : Nat → Nat) (n : Nat) : Fst (nx tb n) := fun _ => rfl
theorem stp_e (k : Nat) : Fst (stp k) := fun _ => rfl
theorem tkO_e (tb : Nat → Nat) (n k : Nat) : Fst (tkO tb n k) := fun _ => rfl
theorem tkS_e (tb : Nat → Nat) (n k : Nat) : Fst (tkS tb n k) := fun _ => rfl
def brB (cn : Nat → Nat) (f : Nat → Int32) (v : Int32) : Bool := (List.range 3).any fun q => (List.range (cn q)).any fun j => decide (f (6 * q + j) = v)
theorem any_range_t {f : Nat → Bool} {n k : Nat} (hk : k < n) (h : f k = true) : (List.range n).any f = true := List.any_eq_true.mpr ⟨k, List.mem_range.mpr hk, h⟩
theorem any_range_f {f : Nat → Bool} {n : Nat} (h : ∀ k, k < n → f k = false) : (List.range n).any f = false := Bool.eq_false_iff.mpr fun q => by
  obtain ⟨k, hk, e⟩ := List.any_eq_true.mp q
  rw [h k (List.mem_range.mp hk)] at e
  cases e
set_option maxRecDepth 20000 in
theorem t_bears {N M : Nat} {I : aI} {L : aL} {v : Int32} {cn : Nat → Nat} (hc : ∀ q, q < 3 → I 83 q = nI (cn q) ∧ cn q ≤ 6) : Run 0 0 0 mX5_bears [.ref 82, .int v] (St2 N M I L) (RI (bI (brB cn (I 84) v)) (St2 N M I L)) := by
  refine Run.of (ls := [some (.ref 82), some (.int _), none, none]) (by decide) (Nat.le_of_ble_eq_true rfl) rfl ?_
  refine Ex.iconst (pc := 0) (v := 0) dX5_bears_0 rfl ?_
  refine Ex.istore_n (pc := 1) (ls' := [some (.ref 82), some (.int _), some (.int 0), none]) dX5_bears_1 rfl (by decide) rfl rfl ?_
  refine Ex.le (ls' := [some (.ref 82), some (.int v), some (.int (nI 0)), none]) ⟨rfl, rfl, rfl, trivial⟩ ?_
  refine forUp (σ := Unit) (P := fun q _ => Ex 0 0 0 mX5_bears 0 0 2 [some (.ref 82), some (.int v), some (.int (nI q)), none] [] (St2 N M I L) _) (Inv := fun q _ => ∀ i, i < q → ∀ j, j < cn i → ¬ I 84 (6 * i + j) = v) 3 ?_ ?_ 0 () (by decide) (fun i hi => absurd hi (Nat.not_lt_zero _))
  · rintro - hi
    refine Ex.iload_n (pc := 2) dX5_bears_2 rfl rfl ?_
    refine Ex.iconst (pc := 3) (v := 3) dX5_bears_3 rfl ?_
    refine Ex.icmp_ge (pc := 4) (tgt := 48) dX5_bears_4 (by decide) (fun _ => ?_) (fun c4 => absurd (by decide) c4)
    refine Ex.iconst (pc := 48) (v := 0) dX5_bears_48 rfl ?_
    refine Ex.iret (pc := 49) rfl rfl rfl dX5_bears_49 (Nat.le_refl _) (Nat.le_refl _) ?_
    exact ⟨by rw [show brB cn (I 84) v = false from any_range_f (fun q hq => any_range_f (fun j hj => decide_eq_false (hi q hq j hj)))]; rfl, rfl⟩
  · rintro q - hq hi ih
    obtain ⟨hcq, hc6⟩ := hc q hq
    refine Ex.iload_n (pc := 2) dX5_bears_2 rfl rfl ?_
    refine Ex.iconst (pc := 3) (v := 3) dX5_bears_3 rfl ?_
    refine Ex.icmp_ge (pc := 4) (tgt := 48) dX5_bears_4 (by decide) (fun c4 => absurd c4 (nI_ge (b := 3) hq (by decide))) (fun _ => ?_)
    refine Ex.iconst (pc := 7) (v := 0) dX5_bears_7 rfl ?_
    refine Ex.istore_n (pc := 8) (ls' := [some (.ref 82), some (.int _), some (.int _), some (.int 0)]) dX5_bears_8 rfl (by decide) rfl rfl ?_
    refine forUp (σ := Unit) (P := fun j _ => Ex 0 0 0 mX5_bears 0 0 9 [some (.ref 82), some (.int v), some (.int (nI q)), some (.int (nI j))] [] (St2 N M I L) _) (Inv := fun j _ => ∀ i, i < j → ¬ I 84 (6 * q + i) = v) (cn q) ?_ ?_ 0 () (Nat.zero_le _) (fun i hi => absurd hi (Nat.not_lt_zero _))
    · rintro - hj
      refine Ex.iload_n (pc := 9) dX5_bears_9 rfl rfl ?_
      refine Ex.aload_n (pc := 10) dX5_bears_10 rfl rfl ?_
      refine Ex.getR (pc := 11) dX5_bears_11 fX5_9 (s2_82 _ _) r2_82_0 ?_
      refine Ex.iload_n (pc := 14) dX5_bears_14 rfl rfl ?_
      refine Ex.iald (pc := 15) (j := q) dX5_bears_15 (s2_83 _ _) (vp_in_nI hq (by decide)) (ixN2 (by omega)) ?_
      refine Ex.icmp_ge (pc := 16) (tgt := 42) dX5_bears_16 (by decide) (fun _ => ?_) (fun c16 => absurd (by rw [hcq]; exact nI_le (Nat.le_refl _) (by omega)) c16)
      refine Ex.iinc (pc := 42) (ls' := [some (.ref 82), some (.int _), some (.int _), some (.int _)]) dX5_bears_42 rfl rfl (by decide) rfl rfl ?_
      refine Ex.goto (pc := 45) (tgt := 2) dX5_bears_45 (by decide) ?_
      rw [show nI q + Int32.ofInt 1 = nI (q + 1) from nI_1 q]
      refine Ex.le (ls' := [some (.ref 82), some (.int v), some (.int (nI (q + 1))), none]) ⟨rfl, rfl, rfl, trivial⟩ (ih () ?_)
      intro i hi2 j hj2
      by_cases e : i = q
      · rw [e] at hj2 ⊢; exact hj j hj2
      · exact hi i (by omega) j hj2
    · rintro j - hj hno ih2
      refine Ex.iload_n (pc := 9) dX5_bears_9 rfl rfl ?_
      refine Ex.aload_n (pc := 10) dX5_bears_10 rfl rfl ?_
      refine Ex.getR (pc := 11) dX5_bears_11 fX5_9 (s2_82 _ _) r2_82_0 ?_
      refine Ex.iload_n (pc := 14) dX5_bears_14 rfl rfl ?_
      refine Ex.iald (pc := 15) (j := q) dX5_bears_15 (s2_83 _ _) (vp_in_nI hq (by decide)) (ixN2 (by omega)) ?_
      refine Ex.icmp_ge (pc := 16) (tgt := 42) dX5_bears_16 (by decide) (fun c16 => absurd c16 (by rw [hcq]; exact nI_ge hj (by omega))) (fun _ => ?_)
      refine Ex.aload_n (pc := 19) dX5_bears_19 rfl rfl ?_
      refine Ex.getR (pc := 20) dX5_bears_20 fX5_15 (s2_82 _ _) r2_82_1 ?_
      refine Ex.iload_n (pc := 23) dX5_bears_23 rfl rfl ?_
      refine Ex.bipush (pc := 24) (v := 6) dX5_bears_24 rfl ?_
      refine Ex.imul (pc := 26) dX5_bears_26 ?_
      refine Ex.iload_n (pc := 27) dX5_bears_27 rfl rfl ?_
      refine Ex.iadd (pc := 28) dX5_bears_28 ?_
      refine Ex.iald (pc := 29) (j := 6 * q + j) dX5_bears_29 (s2_84 _ _) (by rw [show nI q * 6 + nI j = nI (6 * q + j) from by rw [show nI q * 6 = nI (q * 6) from pk_mul q 6, nI_add, Nat.mul_comm]]; exact vp_in_nI (by omega) (by decide)) (by rw [show nI q * 6 + nI j = nI (6 * q + j) from by rw [show nI q * 6 = nI (q * 6) from pk_mul q 6, nI_add, Nat.mul_comm]]; exact nI_clamp (by omega)) ?_
      refine Ex.iload_n (pc := 30) dX5_bears_30 rfl rfl ?_
      refine Ex.icmp_ne (pc := 31) (tgt := 36) dX5_bears_31 (by decide) (fun c31 => ?_) (fun c31 => ?_)
      · skip
        refine Ex.iinc (pc := 36) (ls' := [some (.ref 82), some (.int _), some (.int _), some (.int _)]) dX5_bears_36 rfl rfl (by decide) rfl rfl ?_
        refine Ex.goto (pc := 39) (tgt := 9) dX5_bears_39 (by decide) ?_
        rw [show nI j + Int32.ofInt 1 = nI (j + 1) from nI_1 j]
        refine ih2 () ?_
        intro i hi2
        by_cases e : i = j
        · rw [e]; exact c31
        · exact hno i (by omega)
      · skip
        refine Ex.iconst (pc := 34) (v := 1) dX5_bears_34 rfl ?_
        refine Ex.iret (pc := 35) rfl rfl rfl dX5_bears_35 (Nat.le_refl _) (Nat.le_refl _) ?_
        exact ⟨by rw [show brB cn (I 84) v = true from any_range_t hq (any_range_t hj (decide_eq_true c31))]; rfl, rfl⟩
set_option maxRecDepth 20000 in
theorem t_addThing {N M : Nat} {I : aI} {L : aL} {q k : Nat} {a b c : Int32} (hq : q < 3) (hc : I 83 q = nI k) (hk : k ≤ 6) : Run 0 0 0 mX5_addThing [.ref 82, .int (nI q), .int a, .int b, .int c] (St2 N M I L) (RP2 none N M L (fun I2 => Sm [83, 84, 85, 86] I I2 ∧ (k = 6 → I2 = I) ∧ (k < 6 → I2 83 = upd (I 83) q (nI (k + 1)) ∧ I2 84 = upd (I 84) (6 * q + k) a ∧ I2 85 = upd (I 85) (6 * q + k) b ∧ I2 86 = upd (I 86) (6 * q + k) c))) := by
  refine Run.of (ls := [some (.ref 82), some (.int _), some (.int _), some (.int _), some (.int _), none]) (by decide) (Nat.le_of_ble_eq_true rfl) rfl ?_
  refine Ex.aload_n (pc := 0) dX5_addThing_0 rfl rfl ?_
  refine Ex.getR (pc := 1) dX5_addThing_1 fX5_9 (s2_82 _ _) r2_82_0 ?_
  refine Ex.iload_n (pc := 4) dX5_addThing_4 rfl rfl ?_
  refine Ex.iald (pc := 5) (j := q) dX5_addThing_5 (s2_83 _ _) (vp_in_nI hq (by decide)) (ixN2 (by omega)) ?_
  rw [hc]
  refine Ex.bipush (pc := 6) (v := 6) dX5_addThing_6 rfl ?_
  refine Ex.icmp_lt (pc := 8) (tgt := 12) dX5_addThing_8 (by decide) (fun c8 => ?_) (fun c8 => ?_)
  · skip
    have hk6 : k < 6 := (nI_ltI (b := 6) (by omega) (by decide)).mp c8
    refine Ex.iload_n (pc := 12) dX5_addThing_12 rfl rfl ?_
    refine Ex.bipush (pc := 13) (v := 6) dX5_addThing_13 rfl ?_
    refine Ex.imul (pc := 15) dX5_addThing_15 ?_
    refine Ex.aload_n (pc := 16) dX5_addThing_16 rfl rfl ?_
    refine Ex.getR (pc := 17) dX5_addThing_17 fX5_9 (s2_82 _ _) r2_82_0 ?_
    refine Ex.iload_n (pc := 20) dX5_addThing_20 rfl rfl ?_
    refine Ex.iald (pc := 21) (j := q) dX5_addThing_21 (s2_83 _ _) (vp_in_nI hq (by decide)) (ixN2 (by omega)) ?_
    rw [hc]
    refine Ex.iadd (pc := 22) dX5_addThing_22 ?_
    refine Ex.istore (pc := 23) (ls' := [some (.ref 82), some (.int _), some (.int _), some (.int _), some (.int _), some (.int _)]) dX5_addThing_23 (by decide) rfl rfl ?_
    refine Ex.aload_n (pc := 25) dX5_addThing_25 rfl rfl ?_
    refine Ex.getR (pc := 26) dX5_addThing_26 fX5_15 (s2_82 _ _) r2_82_1 ?_
    refine Ex.iload (pc := 29) dX5_addThing_29 rfl ?_
    refine Ex.iload_n (pc := 31) dX5_addThing_31 rfl rfl ?_
    refine Ex.iast (pc := 32) (j := 6 * q + k) dX5_addThing_32 (s2_84 _ _) (by rw [show nI q * 6 + nI k = nI (6 * q + k) from by rw [show nI q * 6 = nI (q * 6) from pk_mul q 6, nI_add, Nat.mul_comm]]; exact vp_in_nI (by omega) (by decide)) (by rw [show nI q * 6 + nI k = nI (6 * q + k) from by rw [show nI q * 6 = nI (q * 6) from pk_mul q 6, nI_add, Nat.mul_comm]]; exact nI_clamp (by omega)) ?_
    refine Ex.aload_n (pc := 33) dX5_addThing_33 rfl rfl ?_
    refine Ex.getR (pc := 34) dX5_addThing_34 fX5_18 (s2_82 _ _) r2_82_2 ?_
    refine Ex.iload (pc := 37) dX5_addThing_37 rfl ?_
    refine Ex.iload_n (pc := 39) dX5_addThing_39 rfl rfl ?_
    refine Ex.iast (pc := 40) (j := 6 * q + k) dX5_addThing_40 (s2_85 _ _) (by rw [show nI q * 6 + nI k = nI (6 * q + k) from by rw [show nI q * 6 = nI (q * 6) from pk_mul q 6, nI_add, Nat.mul_comm]]; exact vp_in_nI (by omega) (by decide)) (by rw [show nI q * 6 + nI k = nI (6 * q + k) from by rw [show nI q * 6 = nI (q * 6) from pk_mul q 6, nI_add, Nat.mul_comm]]; exact nI_clamp (by omega)) ?_
    refine Ex.aload_n (pc := 41) dX5_addThing_41 rfl rfl ?_
    refine Ex.getR (pc := 42) dX5_addThing_42 fX5_21 (s2_82 _ _) r2_82_3 ?_
    refine Ex.iload (pc := 45) dX5_addThing_45 rfl ?_
    refine Ex.iload (pc := 47) dX5_addThing_47 rfl ?_
    refine Ex.iast (pc := 49) (j := 6 * q + k) dX5_addThing_49 (s2_86 _ _) (by rw [show nI q * 6 + nI k = nI (6 * q + k) from by rw [show nI q * 6 = nI (q * 6) from pk_mul q 6, nI_add, Nat.mul_comm]]; exact vp_in_nI (by omega) (by decide)) (by rw [show nI q * 6 + nI k = nI (6 * q + k) from by rw [show nI q * 6 = nI (q * 6) from pk_mul q 6, nI_add, Nat.mul_comm]]; exact nI_clamp (by omega)) ?_
    refine Ex.aload_n (pc := 50) dX5_addThing_50 rfl rfl ?_
    refine Ex.getR (pc := 51) dX5_addThing_51 fX5_9 (s2_82 _ _) r2_82_0 ?_
    refine Ex.iload_n (pc := 54) dX5_addThing_54 rfl rfl ?_
    refine Ex.dup2 (pc := 55) dX5_addThing_55 rfl rfl ?_
    refine Ex.iald (pc := 56) (j := q) dX5_addThing_56 (s2_83 _ _) (vp_in_nI hq (by decide)) (ixN2 (by omega)) ?_
    refine Ex.iconst (pc := 57) (v := 1) dX5_addThing_57 rfl ?_
    refine Ex.iadd (pc := 58) dX5_addThing_58 ?_
    refine Ex.iast (pc := 59) (j := q) dX5_addThing_59 (s2_83 _ _) (vp_in_nI hq (by decide)) (ixN2 (by omega)) ?_
    refine Ex.vret (pc := 60) rfl dX5_addThing_60 (Nat.le_refl _) (Nat.le_refl _) ?_
    refine ⟨_, rfl, rfl, (((Sm.rf.up (by decide)).up (by decide)).up (by decide)).up (by decide), fun q => by omega, fun _ => ⟨?_, ?_, ?_, ?_⟩⟩
    · simp [va_up, hc]; exact congrArg (upd (I 83) q) (nI_1 k)
    · simp [va_up]
    · simp [va_up]
    · simp [va_up]
  · skip
    refine Ex.vret (pc := 11) rfl dX5_addThing_11 (Nat.le_refl _) (Nat.le_refl _) ?_
    have hk6 : k = 6 := by
      have : ¬ k < 6 := fun q => c8 (nI_lt (b := 6) q (by decide))
      omega
    exact ⟨_, rfl, rfl, Sm.rf, fun _ => rfl, fun q => by omega⟩
def tkV (tb : Nat → Nat) (n lo hi : Nat) (r : Er) : Er := if isK 3 r = true then (if numR r < lo ∨ hi < numR r then stp 4 r else nx tb n r) else stp 1 r
theorem tkV_e (tb : Nat → Nat) (n lo hi : Nat) : Fst (tkV tb n lo hi) := fun _ => rfl
def tkN (tb : Nat → Nat) (n : Nat) (pl : Pl) (r : Er) : Er := match r with
  | .error e => .error e
  | .ok (t, c) => if t.1 = 2 ∧ ownW t.2.2.1 = -1 then (if brB pl.1 (fun i => nI (n5 (pl.2.1 (i / 6) (i % 6)))) (nI (n5 t.2.2.1)) = true then stp 2 (.ok (t, c)) else nx tb n (.ok (t, c))) else stp 1 (.ok (t, c))
theorem tkN_e (tb : Nat → Nat) (n : Nat) (pl : Pl) : Fst (tkN tb n pl) := fun _ => rfl
def RPw (N M : Nat) (L : aL) (P : Int32 → aI → Prop) : aQ := fun r S' => ∃ (x : Int32) (I' : aI), (r = some (.int x) ∧ P x I') ∧ S' = St2 N M I' L
set_option maxRecDepth 20000 in
theorem t_tkV {N n lo hi d : Nat} {I I0 : aI} {L : aL} {tb : Nat → Nat} {r : Er} (hB : PB tb n I0) (h : Px n I0 I d false r) (hlo : lo < 10000) (hhi : hi < 10000) : Run 6 0 0 mX4_takeValue [.ref 81, .int (nI lo), .int (nI hi)] (St2 N n I L) (RPw N n L (fun x I2 => Px n I0 I2 d false (tkV tb n lo hi r) ∧ (isK 3 r = true → x = nI (numR r)))) := by
  refine Run.of (ls := [some (.ref 81), some (.int _), some (.int _), none]) (by decide) (Nat.le_of_ble_eq_true rfl) rfl ?_
  unfold tkV
  cases r with
  | error e =>
    have hR : PxE n I e := h.2
    have h7 : I 81 7 = 0 := hR.2.2.2.2.2.1
    refine Ex.aload_n (pc := 0) dX4_takeValue_0 rfl rfl ?_
    refine Ex.getI (pc := 1) dX4_takeValue_1 fX4_27 (s2_81 _ _) ?_
    refine Ex.istore_n (pc := 4) (ls' := [some (.ref 81), some (.int _), some (.int _), some (.int _)]) dX4_takeValue_4 rfl (by decide) rfl rfl ?_
    refine Ex.aload_n (pc := 5) dX4_takeValue_5 rfl rfl ?_
    refine Ex.getI (pc := 6) dX4_takeValue_6 fX4_24 (s2_81 _ _) ?_
    refine Ex.iconst (pc := 9) (v := 3) dX4_takeValue_9 rfl ?_
    refine Ex.icmp_eq (pc := 10) (tgt := 25) dX4_takeValue_10 (by decide) (fun c10 => absurd c10 (by rw [h7]; decide)) (fun _ => ?_)
    refine Ex.aload_n (pc := 13) dX4_takeValue_13 rfl rfl ?_
    refine Ex.iconst (pc := 14) (v := 1) dX4_takeValue_14 rfl ?_
    refine Ex.aload_n (pc := 15) dX4_takeValue_15 rfl rfl ?_
    refine Ex.getI (pc := 16) dX4_takeValue_16 fX4_21 (s2_81 _ _) ?_
    refine Ex.callV (pc := 19) (As := [.int 1, .int _]) (rest := []) dX4_takeValue_19 cX4_77 (t_stp (k := 1) h (by decide) (by decide) h.start) (s2_81 _ _) rfl rfl (by decide) (Nat.le_refl _) (Nat.le_refl _) (Nat.le_of_ble_eq_true rfl) (Or.inl (fun r S' h => by obtain ⟨_, _, h, _⟩ := h; subst h; rfl)) (fun r S' hq _ _ => ?_)
    obtain ⟨I2, rfl, rfl, h2⟩ := hq
    refine Ex.goto (pc := 22) (tgt := 51) dX4_takeValue_22 (by decide) ?_
    refine Ex.iload_n (pc := 51) dX4_takeValue_51 rfl rfl ?_
    refine Ex.iret (pc := 52) rfl rfl rfl dX4_takeValue_52 (Nat.le_refl _) (Nat.le_refl _) ?_
    exact ⟨_, _, ⟨rfl, h2, fun q => by cases q⟩, rfl⟩
  | ok q =>
    obtain ⟨t, c⟩ := q
    have hR : PxO n I d false t c := h.2
    obtain ⟨b1, b2, b3, b4, b5⟩ := id hR
    have h7 : I 81 7 = nI t.1 := b1.2.2.2.1
    have hk4 := b2.2.1
    have hnr : numR (Except.ok (t, c) : Er) = t.2.1 := rfl
    rw [hnr]
    refine Ex.aload_n (pc := 0) dX4_takeValue_0 rfl rfl ?_
    refine Ex.getI (pc := 1) dX4_takeValue_1 fX4_27 (s2_81 _ _) ?_
    refine Ex.istore_n (pc := 4) (ls' := [some (.ref 81), some (.int _), some (.int _), some (.int _)]) dX4_takeValue_4 rfl (by decide) rfl rfl ?_
    refine Ex.aload_n (pc := 5) dX4_takeValue_5 rfl rfl ?_
    refine Ex.getI (pc := 6) dX4_takeValue_6 fX4_24 (s2_81 _ _) ?_
    refine Ex.iconst (pc := 9) (v := 3) dX4_takeValue_9 rfl ?_
    refine Ex.icmp_eq (pc := 10) (tgt := 25) dX4_takeValue_10 (by decide) (fun c10 => ?_) (fun c10 => ?_)
    · skip
      have e3 : t.1 = 3 := (nI_eq (by omega) (by decide)).mp (show nI t.1 = nI 3 from by rw [← h7]; exact c10)
      have k3 : isK 3 (Except.ok (t, c) : Er) = true := decide_eq_true e3
      have e8 : I 81 8 = nI t.2.1 := b1.2.2.2.2.2.1 (Or.inl e3)
      have hv := b2.2.2.2.2.2.2.1 e3
      refine Ex.iload_n (pc := 25) dX4_takeValue_25 rfl rfl ?_
      refine Ex.iload_n (pc := 26) dX4_takeValue_26 rfl rfl ?_
      refine Ex.icmp_lt (pc := 27) (tgt := 35) dX4_takeValue_27 (by decide) (fun c27 => ?_) (fun c27 => ?_)
      · skip
        refine Ex.aload_n (pc := 35) dX4_takeValue_35 rfl rfl ?_
        refine Ex.iconst (pc := 36) (v := 4) dX4_takeValue_36 rfl ?_
        refine Ex.aload_n (pc := 37) dX4_takeValue_37 rfl rfl ?_
        refine Ex.getI (pc := 38) dX4_takeValue_38 fX4_21 (s2_81 _ _) ?_
        refine Ex.callV (pc := 41) (As := [.int 4, .int _]) (rest := []) dX4_takeValue_41 cX4_77 (t_stp (k := 4) h (by decide) (by decide) h.start) (s2_81 _ _) rfl rfl (by decide) (Nat.le_refl _) (Nat.le_refl _) (Nat.le_of_ble_eq_true rfl) (Or.inl (fun r S' h => by obtain ⟨_, _, h, _⟩ := h; subst h; rfl)) (fun r S' hq _ _ => ?_)
        obtain ⟨I2, rfl, rfl, h2⟩ := hq
        refine Ex.goto (pc := 44) (tgt := 51) dX4_takeValue_44 (by decide) ?_
        refine Ex.iload_n (pc := 51) dX4_takeValue_51 rfl rfl ?_
        refine Ex.iret (pc := 52) rfl rfl rfl dX4_takeValue_52 (Nat.le_refl _) (Nat.le_refl _) ?_
        rw [k3, if_pos rfl, if_pos (Or.inl ((nI_ltI (by omega) (by omega)).mp (by rw [← e8]; exact c27)))]
        exact ⟨_, _, ⟨rfl, h2, fun _ => e8⟩, rfl⟩
      · skip
        refine Ex.iload_n (pc := 30) dX4_takeValue_30 rfl rfl ?_
        refine Ex.iload_n (pc := 31) dX4_takeValue_31 rfl rfl ?_
        refine Ex.icmp_le (pc := 32) (tgt := 47) dX4_takeValue_32 (by decide) (fun c32 => ?_) (fun c32 => ?_)
        · skip
          refine Ex.aload_n (pc := 47) dX4_takeValue_47 rfl rfl ?_
          refine Ex.callV (pc := 48) (As := []) (rest := []) dX4_takeValue_48 cX4_61 (t_next hB h.le) (s2_81 _ _) rfl rfl (by decide) (Nat.le_refl _) (Nat.le_refl _) (Nat.le_of_ble_eq_true rfl) (Or.inl (fun r S' h => by obtain ⟨_, _, h, _⟩ := h; subst h; rfl)) (fun r S' hq _ _ => ?_)
          obtain ⟨I2, rfl, rfl, h2⟩ := hq
          refine Ex.iload_n (pc := 51) dX4_takeValue_51 rfl rfl ?_
          refine Ex.iret (pc := 52) rfl rfl rfl dX4_takeValue_52 (Nat.le_refl _) (Nat.le_refl _) ?_
          have hno : ¬ (t.2.1 < lo ∨ hi < t.2.1) := by
            rw [e8] at c27 c32
            rw [nI_ltI (by omega) (by omega)] at c27
            rw [nI_leI (by omega) (by omega)] at c32
            omega
          rw [k3, if_pos rfl, if_neg hno]
          exact ⟨_, _, ⟨rfl, h2, fun _ => e8⟩, rfl⟩
        · skip
          refine Ex.aload_n (pc := 35) dX4_takeValue_35 rfl rfl ?_
          refine Ex.iconst (pc := 36) (v := 4) dX4_takeValue_36 rfl ?_
          refine Ex.aload_n (pc := 37) dX4_takeValue_37 rfl rfl ?_
          refine Ex.getI (pc := 38) dX4_takeValue_38 fX4_21 (s2_81 _ _) ?_
          refine Ex.callV (pc := 41) (As := [.int 4, .int _]) (rest := []) dX4_takeValue_41 cX4_77 (t_stp (k := 4) h (by decide) (by decide) h.start) (s2_81 _ _) rfl rfl (by decide) (Nat.le_refl _) (Nat.le_refl _) (Nat.le_of_ble_eq_true rfl) (Or.inl (fun r S' h => by obtain ⟨_, _, h, _⟩ := h; subst h; rfl)) (fun r S' hq _ _ => ?_)
          obtain ⟨I2, rfl, rfl, h2⟩ := hq
          refine Ex.goto (pc := 44) (tgt := 51) dX4_takeValue_44 (by decide) ?_
          refine Ex.iload_n (pc := 51) dX4_takeValue_51 rfl rfl ?_
          refine Ex.iret (pc := 52) rfl rfl rfl dX4_takeValue_52 (Nat.le_refl _) (Nat.le_refl _) ?_
          rw [k3, if_pos rfl, if_pos (Or.inr (by have := (not_congr (nI_leI (by omega) (by omega))).mp (show ¬ nI t.2.1 ≤ nI hi by rw [← e8]; exact c32); omega))]
          exact ⟨_, _, ⟨rfl, h2, fun _ => e8⟩, rfl⟩
    · skip
      refine Ex.aload_n (pc := 13) dX4_takeValue_13 rfl rfl ?_
      refine Ex.iconst (pc := 14) (v := 1) dX4_takeValue_14 rfl ?_
      refine Ex.aload_n (pc := 15) dX4_takeValue_15 rfl rfl ?_
      refine Ex.getI (pc := 16) dX4_takeValue_16 fX4_21 (s2_81 _ _) ?_
      refine Ex.callV (pc := 19) (As := [.int 1, .int _]) (rest := []) dX4_takeValue_19 cX4_77 (t_stp (k := 1) h (by decide) (by decide) h.start) (s2_81 _ _) rfl rfl (by decide) (Nat.le_refl _) (Nat.le_refl _) (Nat.le_of_ble_eq_true rfl) (Or.inl (fun r S' h => by obtain ⟨_, _, h, _⟩ := h; subst h; rfl)) (fun r S' hq _ _ => ?_)
      obtain ⟨I2, rfl, rfl, h2⟩ := hq
      refine Ex.goto (pc := 22) (tgt := 51) dX4_takeValue_22 (by decide) ?_
      refine Ex.iload_n (pc := 51) dX4_takeValue_51 rfl rfl ?_
      refine Ex.iret (pc := 52) rfl rfl rfl dX4_takeValue_52 (Nat.le_refl _) (Nat.le_refl _) ?_
      have k3 : isK 3 (Except.ok (t, c) : Er) = false := decide_eq_false (fun e => c10 (by rw [h7, e]; rfl))
      rw [k3, if_neg (by decide)]
      exact ⟨_, _, ⟨rfl, h2, fun q => by cases q⟩, rfl⟩
set_option maxRecDepth 20000 in
theorem t_tkN {N n : Nat} {I Ib : aI} {L : aL} {tb : Nat → Nat} {r : Er} {pl : Pl} (h : Pz tb n Ib I r pl) : Run 6 0 0 mX4_takeName [.ref 81] (St2 N n I L) (RPw N n L (fun x I2 => Pz tb n Ib I2 (tkN tb n pl r) pl ∧ ∀ t c, r = .ok (t, c) → t.1 = 2 → x = nI (n5 t.2.2.1))) := by
  refine Run.of (ls := [some (.ref 81), none]) (by decide) (Nat.le_of_ble_eq_true rfl) rfl ?_
  have hB : PB tb n I := h.2.1
  have hx := h.px
  cases r with
  | error e =>
    have hR : PxE n I e := hx.2
    have h7 : I 81 7 = 0 := hR.2.2.2.2.2.1
    refine Ex.aload_n (pc := 0) dX4_takeName_0 rfl rfl ?_
    refine Ex.getI (pc := 1) dX4_takeName_1 fX4_27 (s2_81 _ _) ?_
    refine Ex.istore_n (pc := 4) (ls' := [some (.ref 81), some (.int _)]) dX4_takeName_4 rfl (by decide) rfl rfl ?_
    refine Ex.aload_n (pc := 5) dX4_takeName_5 rfl rfl ?_
    refine Ex.getI (pc := 6) dX4_takeName_6 fX4_24 (s2_81 _ _) ?_
    refine Ex.iconst (pc := 9) (v := 2) dX4_takeName_9 rfl ?_
    refine Ex.icmp_ne (pc := 10) (tgt := 21) dX4_takeName_10 (by decide) (fun _ => ?_) (fun c10 => absurd c10 (by rw [h7]; decide))
    refine Ex.aload_n (pc := 21) dX4_takeName_21 rfl rfl ?_
    refine Ex.iconst (pc := 22) (v := 1) dX4_takeName_22 rfl ?_
    refine Ex.aload_n (pc := 23) dX4_takeName_23 rfl rfl ?_
    refine Ex.getI (pc := 24) dX4_takeName_24 fX4_21 (s2_81 _ _) ?_
    refine Ex.callV (pc := 27) (As := [.int 1, .int _]) (rest := []) dX4_takeName_27 cX4_77 (t_stp (k := 1) hx (by decide) (by decide) hx.start) (s2_81 _ _) rfl rfl (by decide) (Nat.le_refl _) (Nat.le_refl _) (Nat.le_of_ble_eq_true rfl) (Or.inl (fun r S' h => by obtain ⟨_, _, h, _⟩ := h; subst h; rfl)) (fun r S' hq _ _ => ?_)
    obtain ⟨I2, rfl, rfl, h2⟩ := hq
    refine Ex.goto (pc := 30) (tgt := 60) dX4_takeName_30 (by decide) ?_
    refine Ex.iload_n (pc := 60) dX4_takeName_60 rfl rfl ?_
    refine Ex.iret (pc := 61) rfl rfl rfl dX4_takeName_61 (Nat.le_refl _) (Nat.le_refl _) ?_
    exact ⟨_, _, ⟨rfl, h.go h2 (fun _ q => q), fun t c q => by cases q⟩, rfl⟩
  | ok q =>
    obtain ⟨t, c⟩ := q
    have hR : PxO n I 0 false t c := hx.2
    obtain ⟨b1, b2, b3, b4, b5⟩ := id hR
    have h7 : I 81 7 = nI t.1 := b1.2.2.2.1
    have hk4 := b2.2.1
    have hPl : PlO I pl := h.2.2.2
    have hcn : ∀ q, q < 3 → I 83 q = nI (pl.1 q) ∧ pl.1 q ≤ 6 := fun q hq => ⟨(hPl.1 q hq).1, (hPl.1 q hq).2.1⟩
    have hbr : ∀ v, brB pl.1 (I 84) v = brB pl.1 (fun i => nI (n5 (pl.2.1 (i / 6) (i % 6)))) v := by
      intro v
      have e : ∀ q j, q < 3 → j < pl.1 q → I 84 (6 * q + j) = nI (n5 (pl.2.1 ((6 * q + j) / 6) ((6 * q + j) % 6))) := fun q j hq hj => by
        have h6 := (hcn q hq).2
        rw [show (6 * q + j) / 6 = q by omega, show (6 * q + j) % 6 = j by omega]
        exact ((hPl.1 q hq).2.2 j).1 hj |>.2.1
      cases hb : brB pl.1 (fun i => nI (n5 (pl.2.1 (i / 6) (i % 6)))) v with
      | false =>
        refine any_range_f (fun q hq => any_range_f (fun j hj => decide_eq_false (fun z => ?_)))
        have : brB pl.1 (fun i => nI (n5 (pl.2.1 (i / 6) (i % 6)))) v = true := any_range_t hq (any_range_t hj (decide_eq_true ((e q j hq hj).symm.trans z)))
        rw [hb] at this
        cases this
      | true =>
        obtain ⟨q, hq, hb⟩ := List.any_eq_true.mp hb
        obtain ⟨j, hj, hb⟩ := List.any_eq_true.mp hb
        have hq := List.mem_range.mp hq
        have hj := List.mem_range.mp hj
        exact any_range_t hq (any_range_t hj (decide_eq_true ((e q j hq hj).trans (of_decide_eq_true hb))))
    refine Ex.aload_n (pc := 0) dX4_takeName_0 rfl rfl ?_
    refine Ex.getI (pc := 1) dX4_takeName_1 fX4_27 (s2_81 _ _) ?_
    refine Ex.istore_n (pc := 4) (ls' := [some (.ref 81), some (.int _)]) dX4_takeName_4 rfl (by decide) rfl rfl ?_
    refine Ex.aload_n (pc := 5) dX4_takeName_5 rfl rfl ?_
    refine Ex.getI (pc := 6) dX4_takeName_6 fX4_24 (s2_81 _ _) ?_
    refine Ex.iconst (pc := 9) (v := 2) dX4_takeName_9 rfl ?_
    refine Ex.icmp_ne (pc := 10) (tgt := 21) dX4_takeName_10 (by decide) (fun c10 => ?_) (fun c10 => ?_)
    · skip
      refine Ex.aload_n (pc := 21) dX4_takeName_21 rfl rfl ?_
      refine Ex.iconst (pc := 22) (v := 1) dX4_takeName_22 rfl ?_
      refine Ex.aload_n (pc := 23) dX4_takeName_23 rfl rfl ?_
      refine Ex.getI (pc := 24) dX4_takeName_24 fX4_21 (s2_81 _ _) ?_
      refine Ex.callV (pc := 27) (As := [.int 1, .int _]) (rest := []) dX4_takeName_27 cX4_77 (t_stp (k := 1) hx (by decide) (by decide) hx.start) (s2_81 _ _) rfl rfl (by decide) (Nat.le_refl _) (Nat.le_refl _) (Nat.le_of_ble_eq_true rfl) (Or.inl (fun r S' h => by obtain ⟨_, _, h, _⟩ := h; subst h; rfl)) (fun r S' hq _ _ => ?_)
      obtain ⟨I2, rfl, rfl, h2⟩ := hq
      refine Ex.goto (pc := 30) (tgt := 60) dX4_takeName_30 (by decide) ?_
      refine Ex.iload_n (pc := 60) dX4_takeName_60 rfl rfl ?_
      refine Ex.iret (pc := 61) rfl rfl rfl dX4_takeName_61 (Nat.le_refl _) (Nat.le_refl _) ?_
      have hno : ¬ (t.1 = 2 ∧ ownW t.2.2.1 = -1) := fun q => c10 (by rw [h7, q.1]; rfl)
      have hE : tkN tb n pl (Except.ok (t, c)) = stp 1 (Except.ok (t, c)) := by show (if _ then _ else _) = _; rw [if_neg hno]
      rw [hE]
      exact ⟨_, _, ⟨rfl, h.go h2 (fun _ q => by cases q), fun t2 c2 q q2 => by cases q; exact (b1.2.2.2.2.1 q2).1⟩, rfl⟩
    · skip
      refine Ex.aload_n (pc := 13) dX4_takeName_13 rfl rfl ?_
      refine Ex.getI (pc := 14) dX4_takeName_14 fX4_30 (s2_81 _ _) ?_
      refine Ex.iconst (pc := 17) (v := (-1)) dX4_takeName_17 rfl ?_
      refine Ex.icmp_eq (pc := 18) (tgt := 33) dX4_takeName_18 (by decide) (fun c18 => ?_) (fun c18 => ?_)
      · skip
        have e2 : t.1 = 2 := (nI_eq (by omega) (by decide)).mp (show nI t.1 = nI 2 from by rw [← h7]; exact c10)
        have e9 : I 81 9 = ownW t.2.2.1 := (b1.2.2.2.2.1 e2).2
        have e8 : I 81 8 = nI (n5 t.2.2.1) := (b1.2.2.2.2.1 e2).1
        refine Ex.aload_n (pc := 33) dX4_takeName_33 rfl rfl ?_
        refine Ex.getR (pc := 34) dX4_takeName_34 fX4_57 (s2_81 _ _) r2_81_2 ?_
        refine Ex.iload_n (pc := 37) dX4_takeName_37 rfl rfl ?_
        refine Ex.callV (pc := 38) (As := [.int _]) (rest := []) dX4_takeName_38 cX4_165 (t_bears hcn) (s2_82 _ _) rfl rfl (by decide) (Nat.le_refl _) (Nat.le_refl _) (Nat.le_of_ble_eq_true rfl) (Or.inl (fun r S' h => by obtain ⟨_, h⟩ := h; subst h; rfl)) (fun r S' hq _ _ => ?_)
        obtain ⟨rfl, rfl⟩ := hq
        refine Ex.if_eq (pc := 41) (tgt := 56) dX4_takeName_41 (by decide) (fun c41 => ?_) (fun c41 => ?_)
        · skip
          refine Ex.aload_n (pc := 56) dX4_takeName_56 rfl rfl ?_
          refine Ex.callV (pc := 57) (As := []) (rest := []) dX4_takeName_57 cX4_61 (t_next hB hx.le) (s2_81 _ _) rfl rfl (by decide) (Nat.le_refl _) (Nat.le_refl _) (Nat.le_of_ble_eq_true rfl) (Or.inl (fun r S' h => by obtain ⟨_, _, h, _⟩ := h; subst h; rfl)) (fun r S' hq _ _ => ?_)
          obtain ⟨I2, rfl, rfl, h2⟩ := hq
          refine Ex.iload_n (pc := 60) dX4_takeName_60 rfl rfl ?_
          refine Ex.iret (pc := 61) rfl rfl rfl dX4_takeName_61 (Nat.le_refl _) (Nat.le_refl _) ?_
          have hyes : t.1 = 2 ∧ ownW t.2.2.1 = -1 := ⟨e2, by rw [← e9]; exact c18⟩
          have hE : tkN tb n pl (Except.ok (t, c)) = nx tb n (Except.ok (t, c)) := by show (if _ then _ else _) = _; rw [if_pos hyes, if_neg (by rw [← hbr, ← e8, bI_0 c41]; decide)]
          rw [hE]
          exact ⟨_, _, ⟨rfl, h.go h2 (fun _ q => by cases q), fun t2 c2 q q2 => by cases q; exact (b1.2.2.2.2.1 q2).1⟩, rfl⟩
        · skip
          refine Ex.aload_n (pc := 44) dX4_takeName_44 rfl rfl ?_
          refine Ex.iconst (pc := 45) (v := 2) dX4_takeName_45 rfl ?_
          refine Ex.aload_n (pc := 46) dX4_takeName_46 rfl rfl ?_
          refine Ex.getI (pc := 47) dX4_takeName_47 fX4_21 (s2_81 _ _) ?_
          refine Ex.callV (pc := 50) (As := [.int 2, .int _]) (rest := []) dX4_takeName_50 cX4_77 (t_stp (k := 2) hx (by decide) (by decide) hx.start) (s2_81 _ _) rfl rfl (by decide) (Nat.le_refl _) (Nat.le_refl _) (Nat.le_of_ble_eq_true rfl) (Or.inl (fun r S' h => by obtain ⟨_, _, h, _⟩ := h; subst h; rfl)) (fun r S' hq _ _ => ?_)
          obtain ⟨I2, rfl, rfl, h2⟩ := hq
          refine Ex.goto (pc := 53) (tgt := 60) dX4_takeName_53 (by decide) ?_
          refine Ex.iload_n (pc := 60) dX4_takeName_60 rfl rfl ?_
          refine Ex.iret (pc := 61) rfl rfl rfl dX4_takeName_61 (Nat.le_refl _) (Nat.le_refl _) ?_
          have hyes : t.1 = 2 ∧ ownW t.2.2.1 = -1 := ⟨e2, by rw [← e9]; exact c18⟩
          have hE : tkN tb n pl (Except.ok (t, c)) = stp 2 (Except.ok (t, c)) := by show (if _ then _ else _) = _; rw [if_pos hyes, if_pos (by rw [← hbr, ← e8]; exact bI_1 c41)]
          rw [hE]
          exact ⟨_, _, ⟨rfl, h.go h2 (fun _ q => by cases q), fun t2 c2 q q2 => by cases q; exact (b1.2.2.2.2.1 q2).1⟩, rfl⟩
      · skip
        refine Ex.aload_n (pc := 21) dX4_takeName_21 rfl rfl ?_
        refine Ex.iconst (pc := 22) (v := 1) dX4_takeName_22 rfl ?_
        refine Ex.aload_n (pc := 23) dX4_takeName_23 rfl rfl ?_
        refine Ex.getI (pc := 24) dX4_takeName_24 fX4_21 (s2_81 _ _) ?_
        refine Ex.callV (pc := 27) (As := [.int 1, .int _]) (rest := []) dX4_takeName_27 cX4_77 (t_stp (k := 1) hx (by decide) (by decide) hx.start) (s2_81 _ _) rfl rfl (by decide) (Nat.le_refl _) (Nat.le_refl _) (Nat.le_of_ble_eq_true rfl) (Or.inl (fun r S' h => by obtain ⟨_, _, h, _⟩ := h; subst h; rfl)) (fun r S' hq _ _ => ?_)
        obtain ⟨I2, rfl, rfl, h2⟩ := hq
        refine Ex.goto (pc := 30) (tgt := 60) dX4_takeName_30 (by decide) ?_
        refine Ex.iload_n (pc := 60) dX4_takeName_60 rfl rfl ?_
        refine Ex.iret (pc := 61) rfl rfl rfl dX4_takeName_61 (Nat.le_refl _) (Nat.le_refl _) ?_
        have e2 : t.1 = 2 := (nI_eq (by omega) (by decide)).mp (show nI t.1 = nI 2 from by rw [← h7]; exact c10)
        have e9 : I 81 9 = ownW t.2.2.1 := (b1.2.2.2.2.1 e2).2
        have hno : ¬ (t.1 = 2 ∧ ownW t.2.2.1 = -1) := fun q => c18 (by rw [e9, q.2])
        have hE : tkN tb n pl (Except.ok (t, c)) = stp 1 (Except.ok (t, c)) := by show (if _ then _ else _) = _; rw [if_neg hno]
        rw [hE]
        exact ⟨_, _, ⟨rfl, h.go h2 (fun _ q => by cases q), fun t2 c2 q q2 => by cases q; exact (b1.2.2.2.2.1 q2).1⟩, rfl⟩
