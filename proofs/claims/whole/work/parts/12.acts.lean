set_option maxRecDepth 20000 in
theorem t_take {N : Nat} {I : aI} {L : aL} : Run 1 0 0 mX8_take [.ref 13, .ref 10] (St N I L) (RP none N L (fun I2 => Sm [13, 14, 15] I I2 ∧ (∀ j, j < 4 → I2 13 j = I 10 j) ∧ (∀ j, j < 5 → I2 14 j = I 11 j) ∧ ∀ j, j < 6 → I2 15 j = I 12 j)) := by
  refine Run.of (ls := [some (.ref 13), some (.ref 10)]) (by decide) (Nat.le_of_ble_eq_true rfl) rfl ?_
  refine Ex.aload_n (pc := 0) dX8_take_0 rfl rfl ?_
  refine Ex.aload_n (pc := 1) dX8_take_1 rfl rfl ?_
  refine Ex.getI (pc := 2) dX8_take_2 fX8_9 (sh10 _) ?_
  refine Ex.putI (pc := 5) dX8_take_5 fX8_9 (sh13 _) (Or.inl rfl) ⟨rfl, rfl⟩ ?_
  refine Ex.aload_n (pc := 8) dX8_take_8 rfl rfl ?_
  refine Ex.aload_n (pc := 9) dX8_take_9 rfl rfl ?_
  refine Ex.getI (pc := 10) dX8_take_10 fX8_15 (sh10 _) ?_
  refine Ex.putI (pc := 13) dX8_take_13 fX8_15 (sh13 _) (Or.inl rfl) ⟨rfl, rfl⟩ ?_
  refine Ex.aload_n (pc := 16) dX8_take_16 rfl rfl ?_
  refine Ex.aload_n (pc := 17) dX8_take_17 rfl rfl ?_
  refine Ex.getI (pc := 18) dX8_take_18 fX8_18 (sh10 _) ?_
  refine Ex.putI (pc := 21) dX8_take_21 fX8_18 (sh13 _) (Or.inl rfl) ⟨rfl, rfl⟩ ?_
  refine Ex.aload_n (pc := 24) dX8_take_24 rfl rfl ?_
  refine Ex.aload_n (pc := 25) dX8_take_25 rfl rfl ?_
  refine Ex.getI (pc := 26) dX8_take_26 fX8_21 (sh10 _) ?_
  refine Ex.putI (pc := 29) dX8_take_29 fX8_21 (sh13 _) (Or.inl rfl) ⟨rfl, rfl⟩ ?_
  refine Ex.aload_n (pc := 32) dX8_take_32 rfl rfl ?_
  refine Ex.getR (pc := 33) dX8_take_33 fX8_24 (sh10 _) r10_4 ?_
  refine Ex.iconst (pc := 36) (v := 0) dX8_take_36 rfl ?_
  refine Ex.aload_n (pc := 37) dX8_take_37 rfl rfl ?_
  refine Ex.getR (pc := 38) dX8_take_38 fX8_24 (sh13 _) r13_4 ?_
  refine Ex.iconst (pc := 41) (v := 0) dX8_take_41 rfl ?_
  refine Ex.iconst (pc := 42) (v := 5) dX8_take_42 rfl ?_
  refine Ex.copyI (pc := 43) dX8_take_43 kl_X8_41 (sh11 _) (sh14 _) (by decide) (by decide) (by decide) (by decide) (by decide) (by decide) (Nat.le_of_ble_eq_true rfl) ?_
  refine Ex.aload_n (pc := 46) dX8_take_46 rfl rfl ?_
  refine Ex.getR (pc := 47) dX8_take_47 fX8_28 (sh10 _) r10_5 ?_
  refine Ex.iconst (pc := 50) (v := 0) dX8_take_50 rfl ?_
  refine Ex.aload_n (pc := 51) dX8_take_51 rfl rfl ?_
  refine Ex.getR (pc := 52) dX8_take_52 fX8_28 (sh13 _) r13_5 ?_
  refine Ex.iconst (pc := 55) (v := 0) dX8_take_55 rfl ?_
  refine Ex.bipush (pc := 56) (v := 6) dX8_take_56 rfl ?_
  refine Ex.copyI (pc := 58) dX8_take_58 kl_X8_41 (sh12 _) (sh15 _) (by decide) (by decide) (by decide) (by decide) (by decide) (by decide) (Nat.le_of_ble_eq_true rfl) ?_
  refine Ex.vret (pc := 61) rfl dX8_take_61 (Nat.le_refl _) (Nat.le_refl _) ?_
  refine ⟨_, rfl, rfl, ?_, ?_, ?_, ?_⟩
  · exact (((((Sm.rf.up (by decide)).up (by decide)).up (by decide)).up (by decide)).up (by decide)).up (by decide)
  · intro j hj
    rcases (show j = 0 ∨ j = 1 ∨ j = 2 ∨ j = 3 by omega) with rfl | rfl | rfl | rfl <;> simp [va_up, upd]
  · intro j hj
    simp [va_up, upd, va_cpy, show (5 : Int32).toNatClampNeg = 5 from by decide, show (0 : Int32).toNatClampNeg = 0 from by decide, hj]
  · intro j hj
    simp [va_up, upd, va_cpy, show (6 : Int32).toNatClampNeg = 6 from by decide, show (0 : Int32).toNatClampNeg = 0 from by decide, hj]
def cntPos (f : Nat → Int32) : Nat → Nat
  | 0 => 0
  | k + 1 => cntPos f k + (if f k ≤ 0 then 0 else 1)
theorem cntPos_le (f : Nat → Int32) : ∀ k, cntPos f k ≤ k
  | 0 => Nat.le_refl _
  | k + 1 => by have := cntPos_le f k; simp only [cntPos]; split <;> omega
set_option maxRecDepth 20000 in
theorem t_stainsLeft10 {N : Nat} {I : aI} {L : aL} : Run 1 0 0 mX8_stainsLeft [.ref 10] (St N I L) (RI (nI (cntPos (I 12) 6)) (St N I L)) := by
  refine Run.of (ls := [some (.ref 10), none, none]) (by decide) (Nat.le_of_ble_eq_true rfl) rfl ?_
  refine Ex.iconst (pc := 0) (v := 0) dX8_stainsLeft_0 rfl ?_
  refine Ex.istore_n (pc := 1) (ls' := [some (.ref 10), some (.int 0), none]) dX8_stainsLeft_1 rfl (by decide) rfl rfl ?_
  refine Ex.iconst (pc := 2) (v := 0) dX8_stainsLeft_2 rfl ?_
  refine Ex.istore_n (pc := 3) (ls' := [some (.ref 10), some (.int 0), some (.int 0)]) dX8_stainsLeft_3 rfl (by decide) rfl rfl ?_
  refine forUp (σ := Unit) (P := fun k _ => Ex 1 0 0 mX8_stainsLeft 0 0 4 [some (.ref 10), some (.int (nI (cntPos (I 12) k))), some (.int (nI k))] [] (St N I L) _) (Inv := fun k _ => True) 6 ?_ ?_ 0 () (by decide) trivial
  · rintro - -
    refine Ex.iload_n (pc := 4) dX8_stainsLeft_4 rfl rfl ?_
    refine Ex.bipush (pc := 5) (v := 6) dX8_stainsLeft_5 rfl ?_
    refine Ex.icmp_ge (pc := 7) (tgt := 33) dX8_stainsLeft_7 (by decide) (fun _ => ?_) (fun c7 => absurd (by decide) c7)
    refine Ex.iload_n (pc := 33) dX8_stainsLeft_33 rfl rfl ?_
    refine Ex.iret (pc := 34) rfl rfl rfl dX8_stainsLeft_34 (Nat.le_refl _) (Nat.le_refl _) ?_
    exact ⟨rfl, rfl⟩
  · rintro k - hk - ih
    refine Ex.iload_n (pc := 4) dX8_stainsLeft_4 rfl rfl ?_
    refine Ex.bipush (pc := 5) (v := 6) dX8_stainsLeft_5 rfl ?_
    refine Ex.icmp_ge (pc := 7) (tgt := 33) dX8_stainsLeft_7 (by decide) (fun c7 => absurd c7 (nI_ge (b := 6) hk (by decide))) (fun _ => ?_)
    refine Ex.iload_n (pc := 10) dX8_stainsLeft_10 rfl rfl ?_
    refine Ex.aload_n (pc := 11) dX8_stainsLeft_11 rfl rfl ?_
    refine Ex.getR (pc := 12) dX8_stainsLeft_12 fX8_28 (sh10 _) r10_5 ?_
    refine Ex.iload_n (pc := 15) dX8_stainsLeft_15 rfl rfl ?_
    refine Ex.iald (pc := 16) (j := k) dX8_stainsLeft_16 (sh12 _) (vp_in_nI hk (by decide)) (ixN2 (by omega)) ?_
    refine Ex.if_le (pc := 17) (tgt := 24) dX8_stainsLeft_17 (by decide) (fun c17 => ?_) (fun c17 => ?_)
    · skip
      refine Ex.iconst (pc := 24) (v := 0) dX8_stainsLeft_24 rfl ?_
      refine Ex.iadd (pc := 25) dX8_stainsLeft_25 ?_
      refine Ex.istore_n (pc := 26) (ls' := [some (.ref 10), some (.int _), some (.int _)]) dX8_stainsLeft_26 rfl (by decide) rfl rfl ?_
      refine Ex.iinc (pc := 27) (ls' := [some (.ref 10), some (.int _), some (.int _)]) dX8_stainsLeft_27 rfl rfl (by decide) rfl rfl ?_
      refine Ex.goto (pc := 30) (tgt := 4) dX8_stainsLeft_30 (by decide) ?_
      rw [show nI k + Int32.ofInt 1 = nI (k + 1) from nI_1 k]
      have e : nI (cntPos (I 12) k) + 0 = nI (cntPos (I 12) (k + 1)) := by
        rw [show cntPos (I 12) (k + 1) = cntPos (I 12) k + 0 from by simp [cntPos, c17]]
        first | exact nI_1 _ | (rw [Nat.add_zero]; exact Int32.add_zero _)
      rw [e]
      exact ih () trivial
    · skip
      refine Ex.iconst (pc := 20) (v := 1) dX8_stainsLeft_20 rfl ?_
      refine Ex.goto (pc := 21) (tgt := 25) dX8_stainsLeft_21 (by decide) ?_
      refine Ex.iadd (pc := 25) dX8_stainsLeft_25 ?_
      refine Ex.istore_n (pc := 26) (ls' := [some (.ref 10), some (.int _), some (.int _)]) dX8_stainsLeft_26 rfl (by decide) rfl rfl ?_
      refine Ex.iinc (pc := 27) (ls' := [some (.ref 10), some (.int _), some (.int _)]) dX8_stainsLeft_27 rfl rfl (by decide) rfl rfl ?_
      refine Ex.goto (pc := 30) (tgt := 4) dX8_stainsLeft_30 (by decide) ?_
      rw [show nI k + Int32.ofInt 1 = nI (k + 1) from nI_1 k]
      have e : nI (cntPos (I 12) k) + 1 = nI (cntPos (I 12) (k + 1)) := by
        rw [show cntPos (I 12) (k + 1) = cntPos (I 12) k + 1 from by simp [cntPos, c17]]
        first | exact nI_1 _ | (rw [Nat.add_zero]; exact Int32.add_zero _)
      rw [e]
      exact ih () trivial
set_option maxRecDepth 20000 in
theorem t_stainsLeft13 {N : Nat} {I : aI} {L : aL} : Run 1 0 0 mX8_stainsLeft [.ref 13] (St N I L) (RI (nI (cntPos (I 15) 6)) (St N I L)) := by
  refine Run.of (ls := [some (.ref 13), none, none]) (by decide) (Nat.le_of_ble_eq_true rfl) rfl ?_
  refine Ex.iconst (pc := 0) (v := 0) dX8_stainsLeft_0 rfl ?_
  refine Ex.istore_n (pc := 1) (ls' := [some (.ref 13), some (.int 0), none]) dX8_stainsLeft_1 rfl (by decide) rfl rfl ?_
  refine Ex.iconst (pc := 2) (v := 0) dX8_stainsLeft_2 rfl ?_
  refine Ex.istore_n (pc := 3) (ls' := [some (.ref 13), some (.int 0), some (.int 0)]) dX8_stainsLeft_3 rfl (by decide) rfl rfl ?_
  refine forUp (σ := Unit) (P := fun k _ => Ex 1 0 0 mX8_stainsLeft 0 0 4 [some (.ref 13), some (.int (nI (cntPos (I 15) k))), some (.int (nI k))] [] (St N I L) _) (Inv := fun k _ => True) 6 ?_ ?_ 0 () (by decide) trivial
  · rintro - -
    refine Ex.iload_n (pc := 4) dX8_stainsLeft_4 rfl rfl ?_
    refine Ex.bipush (pc := 5) (v := 6) dX8_stainsLeft_5 rfl ?_
    refine Ex.icmp_ge (pc := 7) (tgt := 33) dX8_stainsLeft_7 (by decide) (fun _ => ?_) (fun c7 => absurd (by decide) c7)
    refine Ex.iload_n (pc := 33) dX8_stainsLeft_33 rfl rfl ?_
    refine Ex.iret (pc := 34) rfl rfl rfl dX8_stainsLeft_34 (Nat.le_refl _) (Nat.le_refl _) ?_
    exact ⟨rfl, rfl⟩
  · rintro k - hk - ih
    refine Ex.iload_n (pc := 4) dX8_stainsLeft_4 rfl rfl ?_
    refine Ex.bipush (pc := 5) (v := 6) dX8_stainsLeft_5 rfl ?_
    refine Ex.icmp_ge (pc := 7) (tgt := 33) dX8_stainsLeft_7 (by decide) (fun c7 => absurd c7 (nI_ge (b := 6) hk (by decide))) (fun _ => ?_)
    refine Ex.iload_n (pc := 10) dX8_stainsLeft_10 rfl rfl ?_
    refine Ex.aload_n (pc := 11) dX8_stainsLeft_11 rfl rfl ?_
    refine Ex.getR (pc := 12) dX8_stainsLeft_12 fX8_28 (sh13 _) r13_5 ?_
    refine Ex.iload_n (pc := 15) dX8_stainsLeft_15 rfl rfl ?_
    refine Ex.iald (pc := 16) (j := k) dX8_stainsLeft_16 (sh15 _) (vp_in_nI hk (by decide)) (ixN2 (by omega)) ?_
    refine Ex.if_le (pc := 17) (tgt := 24) dX8_stainsLeft_17 (by decide) (fun c17 => ?_) (fun c17 => ?_)
    · skip
      refine Ex.iconst (pc := 24) (v := 0) dX8_stainsLeft_24 rfl ?_
      refine Ex.iadd (pc := 25) dX8_stainsLeft_25 ?_
      refine Ex.istore_n (pc := 26) (ls' := [some (.ref 13), some (.int _), some (.int _)]) dX8_stainsLeft_26 rfl (by decide) rfl rfl ?_
      refine Ex.iinc (pc := 27) (ls' := [some (.ref 13), some (.int _), some (.int _)]) dX8_stainsLeft_27 rfl rfl (by decide) rfl rfl ?_
      refine Ex.goto (pc := 30) (tgt := 4) dX8_stainsLeft_30 (by decide) ?_
      rw [show nI k + Int32.ofInt 1 = nI (k + 1) from nI_1 k]
      have e : nI (cntPos (I 15) k) + 0 = nI (cntPos (I 15) (k + 1)) := by
        rw [show cntPos (I 15) (k + 1) = cntPos (I 15) k + 0 from by simp [cntPos, c17]]
        first | exact nI_1 _ | (rw [Nat.add_zero]; exact Int32.add_zero _)
      rw [e]
      exact ih () trivial
    · skip
      refine Ex.iconst (pc := 20) (v := 1) dX8_stainsLeft_20 rfl ?_
      refine Ex.goto (pc := 21) (tgt := 25) dX8_stainsLeft_21 (by decide) ?_
      refine Ex.iadd (pc := 25) dX8_stainsLeft_25 ?_
      refine Ex.istore_n (pc := 26) (ls' := [some (.ref 13), some (.int _), some (.int _)]) dX8_stainsLeft_26 rfl (by decide) rfl rfl ?_
      refine Ex.iinc (pc := 27) (ls' := [some (.ref 13), some (.int _), some (.int _)]) dX8_stainsLeft_27 rfl rfl (by decide) rfl rfl ?_
      refine Ex.goto (pc := 30) (tgt := 4) dX8_stainsLeft_30 (by decide) ?_
      rw [show nI k + Int32.ofInt 1 = nI (k + 1) from nI_1 k]
      have e : nI (cntPos (I 15) k) + 1 = nI (cntPos (I 15) (k + 1)) := by
        rw [show cntPos (I 15) (k + 1) = cntPos (I 15) k + 1 from by simp [cntPos, c17]]
        first | exact nI_1 _ | (rw [Nat.add_zero]; exact Int32.add_zero _)
      rw [e]
      exact ih () trivial
set_option maxRecDepth 20000 in
theorem t_forget {N : Nat} {I : aI} {L : aL} : Run 0 0 0 mX0_forget [.ref 19] (St N I L) (RV (St N (va_up I 19 (upd (I 19) 1 0)) L)) := by
  refine Run.of (ls := [some (.ref 19)]) (by decide) (Nat.le_of_ble_eq_true rfl) rfl ?_
  refine Ex.aload_n (pc := 0) dX0_forget_0 rfl rfl ?_
  refine Ex.iconst (pc := 1) (v := 0) dX0_forget_1 rfl ?_
  refine Ex.putI (pc := 2) dX0_forget_2 fX0_17 (sh19 _) (Or.inl rfl) ⟨rfl, rfl⟩ ?_
  refine Ex.vret (pc := 5) rfl dX0_forget_5 (Nat.le_refl _) (Nat.le_refl _) ?_
  exact ⟨rfl, rfl⟩
/-- how a State is told in a row of 15 -/
def snap (I : aI) (a : Nat) : Nat → Int32 := fun j => if j < 4 then I a j else if j < 9 then I (a + 1) (j - 4) else I (a + 2) (j - 9)
set_option maxRecDepth 20000 in
theorem t_remember {N : Nat} {I : aI} {L : aL} {nx ct : Nat} (hnx : I 19 2 = nI nx) (hn : nx < 20) (hct : I 19 1 = nI ct) (hc : ct ≤ 20) : Run 1 0 0 mX0_remember [.ref 19, .ref 10] (St N I L) (RP none N L (fun I2 => Sm [19, 20] I I2 ∧ I2 19 2 = nI ((nx + 1) % 20) ∧ I2 19 1 = nI (if ct < 20 then ct + 1 else 20) ∧ (∀ j, j < 15 → I2 20 (nx * 15 + j) = snap I 10 j) ∧ ∀ i, (i < nx * 15 ∨ nx * 15 + 15 ≤ i) → I2 20 i = I 20 i)) := by
  refine Run.of (ls := [some (.ref 19), some (.ref 10), none]) (by decide) (Nat.le_of_ble_eq_true rfl) rfl ?_
  refine Ex.aload_n (pc := 0) dX0_remember_0 rfl rfl ?_
  refine Ex.getI (pc := 1) dX0_remember_1 fX0_21 (sh19 _) ?_
  refine Ex.bipush (pc := 4) (v := 15) dX0_remember_4 rfl ?_
  refine Ex.imul (pc := 6) dX0_remember_6 ?_
  refine Ex.istore_n (pc := 7) (ls' := [some (.ref 19), some (.ref 10), some (.int _)]) dX0_remember_7 rfl (by decide) rfl rfl ?_
  rw [show I 19 2 * 15 = nI (nx * 15) from by rw [hnx]; exact pk_mul nx 15]
  refine Ex.aload_n (pc := 8) dX0_remember_8 rfl rfl ?_
  refine Ex.getR (pc := 9) dX0_remember_9 fX0_11 (sh19 _) r19_0 ?_
  refine Ex.iload_n (pc := 12) dX0_remember_12 rfl rfl ?_
  refine Ex.aload_n (pc := 13) dX0_remember_13 rfl rfl ?_
  refine Ex.getI (pc := 14) dX0_remember_14 fX0_24 (sh10 _) ?_
  refine Ex.iast (pc := 17) (j := nx * 15) dX0_remember_17 (sh20 _) (vp_in_nI (by omega) (by decide)) (ixN2 (by omega)) ?_
  refine Ex.aload_n (pc := 18) dX0_remember_18 rfl rfl ?_
  refine Ex.getR (pc := 19) dX0_remember_19 fX0_11 (sh19 _) r19_0 ?_
  refine Ex.iload_n (pc := 22) dX0_remember_22 rfl rfl ?_
  refine Ex.iconst (pc := 23) (v := 1) dX0_remember_23 rfl ?_
  refine Ex.iadd (pc := 24) dX0_remember_24 ?_
  refine Ex.aload_n (pc := 25) dX0_remember_25 rfl rfl ?_
  refine Ex.getI (pc := 26) dX0_remember_26 fX0_27 (sh10 _) ?_
  refine Ex.iast (pc := 29) (j := nx * 15 + 1) dX0_remember_29 (sh20 _) (ixA (x := nI (nx * 15)) (j := 1) rfl (by omega) (by decide)).1 (ixA2 (x := nI (nx * 15)) (j := 1) rfl (by omega)) ?_
  refine Ex.aload_n (pc := 30) dX0_remember_30 rfl rfl ?_
  refine Ex.getR (pc := 31) dX0_remember_31 fX0_11 (sh19 _) r19_0 ?_
  refine Ex.iload_n (pc := 34) dX0_remember_34 rfl rfl ?_
  refine Ex.iconst (pc := 35) (v := 2) dX0_remember_35 rfl ?_
  refine Ex.iadd (pc := 36) dX0_remember_36 ?_
  refine Ex.aload_n (pc := 37) dX0_remember_37 rfl rfl ?_
  refine Ex.getI (pc := 38) dX0_remember_38 fX0_30 (sh10 _) ?_
  refine Ex.iast (pc := 41) (j := nx * 15 + 2) dX0_remember_41 (sh20 _) (ixA (x := nI (nx * 15)) (j := 2) rfl (by omega) (by decide)).1 (ixA2 (x := nI (nx * 15)) (j := 2) rfl (by omega)) ?_
  refine Ex.aload_n (pc := 42) dX0_remember_42 rfl rfl ?_
  refine Ex.getR (pc := 43) dX0_remember_43 fX0_11 (sh19 _) r19_0 ?_
  refine Ex.iload_n (pc := 46) dX0_remember_46 rfl rfl ?_
  refine Ex.iconst (pc := 47) (v := 3) dX0_remember_47 rfl ?_
  refine Ex.iadd (pc := 48) dX0_remember_48 ?_
  refine Ex.aload_n (pc := 49) dX0_remember_49 rfl rfl ?_
  refine Ex.getI (pc := 50) dX0_remember_50 fX0_33 (sh10 _) ?_
  refine Ex.iast (pc := 53) (j := nx * 15 + 3) dX0_remember_53 (sh20 _) (ixA (x := nI (nx * 15)) (j := 3) rfl (by omega) (by decide)).1 (ixA2 (x := nI (nx * 15)) (j := 3) rfl (by omega)) ?_
  refine Ex.aload_n (pc := 54) dX0_remember_54 rfl rfl ?_
  refine Ex.getR (pc := 55) dX0_remember_55 fX0_36 (sh10 _) r10_4 ?_
  refine Ex.iconst (pc := 58) (v := 0) dX0_remember_58 rfl ?_
  refine Ex.aload_n (pc := 59) dX0_remember_59 rfl rfl ?_
  refine Ex.getR (pc := 60) dX0_remember_60 fX0_11 (sh19 _) r19_0 ?_
  refine Ex.iload_n (pc := 63) dX0_remember_63 rfl rfl ?_
  refine Ex.iconst (pc := 64) (v := 4) dX0_remember_64 rfl ?_
  refine Ex.iadd (pc := 65) dX0_remember_65 ?_
  refine Ex.iconst (pc := 66) (v := 5) dX0_remember_66 rfl ?_
  refine Ex.copyI (pc := 67) dX0_remember_67 kl_X0_39 (sh11 _) (sh20 _) (by decide) (by rw [show nI (nx * 15) + 4 = nI (nx * 15 + 4) from nI_add _ 4]; exact nI_pos (by omega)) (by decide) (by decide) (by rw [show nI (nx * 15) + 4 = nI (nx * 15 + 4) from nI_add _ 4, nI_clamp (by omega)]; show nx * 15 + 4 + 5 ≤ 300; omega) (by decide) (Nat.le_of_ble_eq_true rfl) ?_
  refine Ex.aload_n (pc := 70) dX0_remember_70 rfl rfl ?_
  refine Ex.getR (pc := 71) dX0_remember_71 fX0_45 (sh10 _) r10_5 ?_
  refine Ex.iconst (pc := 74) (v := 0) dX0_remember_74 rfl ?_
  refine Ex.aload_n (pc := 75) dX0_remember_75 rfl rfl ?_
  refine Ex.getR (pc := 76) dX0_remember_76 fX0_11 (sh19 _) r19_0 ?_
  refine Ex.iload_n (pc := 79) dX0_remember_79 rfl rfl ?_
  refine Ex.iconst (pc := 80) (v := 4) dX0_remember_80 rfl ?_
  refine Ex.iadd (pc := 81) dX0_remember_81 ?_
  refine Ex.iconst (pc := 82) (v := 5) dX0_remember_82 rfl ?_
  refine Ex.iadd (pc := 83) dX0_remember_83 ?_
  refine Ex.bipush (pc := 84) (v := 6) dX0_remember_84 rfl ?_
  refine Ex.copyI (pc := 86) dX0_remember_86 kl_X0_39 (sh12 _) (sh20 _) (by decide) (by rw [show nI (nx * 15) + 4 + 5 = nI (nx * 15 + 9) from by rw [show nI (nx * 15) + 4 = nI (nx * 15 + 4) from nI_add _ 4]; exact nI_add _ 5]; exact nI_pos (by omega)) (by decide) (by decide) (by rw [show nI (nx * 15) + 4 + 5 = nI (nx * 15 + 9) from by rw [show nI (nx * 15) + 4 = nI (nx * 15 + 4) from nI_add _ 4]; exact nI_add _ 5, nI_clamp (by omega)]; show nx * 15 + 9 + 6 ≤ 300; omega) (by decide) (Nat.le_of_ble_eq_true rfl) ?_
  refine Ex.aload_n (pc := 89) dX0_remember_89 rfl rfl ?_
  refine Ex.aload_n (pc := 90) dX0_remember_90 rfl rfl ?_
  refine Ex.getI (pc := 91) dX0_remember_91 fX0_21 (sh19 _) ?_
  refine Ex.iconst (pc := 94) (v := 1) dX0_remember_94 rfl ?_
  refine Ex.iadd (pc := 95) dX0_remember_95 ?_
  refine Ex.bipush (pc := 96) (v := 20) dX0_remember_96 rfl ?_
  refine Ex.irem (pc := 98) dX0_remember_98 (by decide) ?_
  refine Ex.putI (pc := 99) dX0_remember_99 fX0_21 (sh19 _) (Or.inl rfl) ⟨rfl, rfl⟩ ?_
  refine Ex.aload_n (pc := 102) dX0_remember_102 rfl rfl ?_
  refine Ex.bipush (pc := 103) (v := 20) dX0_remember_103 rfl ?_
  refine Ex.aload_n (pc := 105) dX0_remember_105 rfl rfl ?_
  refine Ex.getI (pc := 106) dX0_remember_106 fX0_17 (sh19 _) ?_
  refine Ex.iconst (pc := 109) (v := 1) dX0_remember_109 rfl ?_
  refine Ex.iadd (pc := 110) dX0_remember_110 ?_
  refine Ex.min (pc := 111) dX0_remember_111 kl_X0_48 (by decide) (Nat.le_of_ble_eq_true rfl) (Nat.le_refl _) (Nat.le_refl _) ?_
  refine Ex.putI (pc := 114) dX0_remember_114 fX0_17 (sh19 _) (Or.inl rfl) ⟨rfl, rfl⟩ ?_
  refine Ex.vret (pc := 117) rfl dX0_remember_117 (Nat.le_refl _) (Nat.le_refl _) ?_
  refine ⟨_, rfl, rfl, ?_, ?_, ?_, ?_, ?_⟩
  · exact ((((((((Sm.rf.up (by decide)).up (by decide)).up (by decide)).up (by decide)).up (by decide)).up (by decide)).up (by decide)).up (by decide))
  · simp [va_up, upd, hnx]
    rw [show nI nx + 1 = nI (nx + 1) from nI_1 nx]
    exact pk_rem (d := 20) (by omega) (by decide) (by decide)
  · simp [va_up, upd, hct]
    rw [show nI ct + 1 = nI (ct + 1) from nI_1 ct]
    by_cases h : ct < 20
    · rw [if_pos h]
      by_cases h2 : ct + 1 = 20
      · rw [h2]; rfl
      · rw [if_pos (show nI (ct + 1) < 20 from nI_lt (b := 20) (by omega) (by decide))]
    · rw [if_neg h]
      rw [if_neg (show ¬ nI (ct + 1) < 20 from nI_nlt (b := 20) (by omega) (by omega))]; rfl
  · intro j hj
    simp [va_up, upd, va_cpy, show nI (nx * 15) + 4 = nI (nx * 15 + 4) from nI_add _ 4, show nI (nx * 15 + 4) + 5 = nI (nx * 15 + 9) from nI_add _ 5, nI_clamp (show nx * 15 + 4 < 2 ^ 31 by omega), nI_clamp (show nx * 15 + 9 < 2 ^ 31 by omega), show (5 : Int32).toNatClampNeg = 5 from by decide, show (6 : Int32).toNatClampNeg = 6 from by decide, show (0 : Int32).toNatClampNeg = 0 from by decide]
    rcases (show j = 0 ∨ j = 1 ∨ j = 2 ∨ j = 3 ∨ (4 ≤ j ∧ j < 9) ∨ (9 ≤ j ∧ j < 15) by omega) with rfl | rfl | rfl | rfl | h | h
    · simp [snap]
    · simp [snap]
    · simp [snap]
    · simp [snap]
    · rw [if_neg (by omega), if_pos (by omega)]; simp only [snap]; rw [if_neg (by omega), if_pos (by omega)]; congr 1; omega
    · rw [if_pos (by omega)]; simp only [snap]; rw [if_neg (by omega), if_neg (by omega)]; congr 1; omega
  · intro i hi
    simp [va_up, upd, va_cpy, show nI (nx * 15) + 4 = nI (nx * 15 + 4) from nI_add _ 4, show nI (nx * 15 + 4) + 5 = nI (nx * 15 + 9) from nI_add _ 5, nI_clamp (show nx * 15 + 4 < 2 ^ 31 by omega), nI_clamp (show nx * 15 + 9 < 2 ^ 31 by omega), show (5 : Int32).toNatClampNeg = 5 from by decide, show (6 : Int32).toNatClampNeg = 6 from by decide, show (0 : Int32).toNatClampNeg = 0 from by decide]
    rw [if_neg (by omega), if_neg (by omega), if_neg (by omega), if_neg (by omega), if_neg (by omega), if_neg (by omega)]
