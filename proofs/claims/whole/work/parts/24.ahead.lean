/-- beyond their ends the rows are 0 -/
def XOk (x : aX) : Prop := (∀ j, 5 ≤ j → x.2.2.2.1 j = 0) ∧ ∀ j, 6 ≤ j → x.2.2.2.2 j = 0
theorem XOk.upd {a b c : Int32} {z d : Nat → Int32} {i j : Nat} {v w : Int32} (h : XOk (a, b, c, z, d)) (hi : i < 5) (hj : j < 6) : XOk (a, b, c, upd z i v, upd d j w) :=
  ⟨fun q hq => (upd_n (by omega)).trans (h.1 q hq), fun q hq => (upd_n (by omega)).trans (h.2 q hq)⟩
theorem XOk.week {p : aP} {f5 f6 : Nat → Int32} {nb ns nh : Nat} {dr : Bool} {x : aX} (h : XOk x) (hb : nb ≤ 5) (hs : ns ≤ 6) : XOk (weekX p f5 f6 nb ns nh dr x) := by
  unfold weekX endX
  cases hse : serX p f5 f6 nb ns dr x with
  | none => exact h
  | some q =>
    obtain ⟨b, s⟩ := q
    obtain ⟨h1, h2⟩ := serX_lt hse
    exact ⟨fun q hq => (upd_n (by omega)).trans (h.1 q hq), fun q hq => (upd_n (by omega)).trans (h.2 q hq)⟩
def wIt (f : aX → aX) : Nat → aX → aX
  | 0, x => x
  | n + 1, x => f (wIt f n x)
theorem wIt_ok {f : aX → aX} (hf : ∀ x, XOk x → XOk (f x)) : ∀ n x, XOk x → XOk (wIt f n x)
  | 0, _, h => h
  | n + 1, x, h => hf _ (wIt_ok hf n x h)
/-- n weeks ahead of the State now -/
def aheadX (p : aP) (f5 f6 : Nat → Int32) (nb ns nh n : Nat) (x : aX) : aX := wIt (weekX p f5 f6 nb ns nh false) n x
theorem take_x {I I2 : aI} (h1 : XOk (xOf I 10)) (h2 : XOk (xOf I 13)) (h14 : ∀ j, 5 ≤ j → I2 14 j = I 14 j) (h15 : ∀ j, 6 ≤ j → I2 15 j = I 15 j) (e0 : ∀ j, j < 4 → I2 13 j = I 10 j) (e1 : ∀ j, j < 5 → I2 14 j = I 11 j) (e2 : ∀ j, j < 6 → I2 15 j = I 12 j) : xOf I2 13 = xOf I 10 := by
  simp only [xOf]
  rw [e0 0 (by decide), e0 1 (by decide), e0 2 (by decide)]
  have z : I2 14 = I 11 := by
    funext j
    by_cases h : j < 5
    · exact e1 j h
    · rw [h14 j (by omega)]; exact (h2.1 j (by omega)).trans (h1.1 j (by omega)).symm
  have d : I2 15 = I 12 := by
    funext j
    by_cases h : j < 6
    · exact e2 j h
    · rw [h15 j (by omega)]; exact (h2.2 j (by omega)).trans (h1.2 j (by omega)).symm
  rw [z, d]

set_option maxRecDepth 20000 in
theorem t_takeX {N : Nat} {I : aI} {L : aL} (hx : XOk (xOf I 10)) (hy : XOk (xOf I 13)) : Run 1 0 0 mX8_take [.ref 13, .ref 10] (St N I L) (RP none N L (fun I2 => Sm [13, 14, 15] I I2 ∧ xOf I2 13 = xOf I 10)) := by
  refine Run.of (ls := [some (.ref 13), some (.ref 10)]) (by decide) (Nat.le_of_ble_eq_true rfl) rfl ?_
  refine Ex.aload_n (pc := 0) dX8_take_0 rfl rfl ?_
  refine Ex.aload_n (pc := 1) dX8_take_1 rfl rfl ?_
  refine Ex.getI (pc := 2) dX8_take_2 fX8_9 (sh10 _) ?_
  refine Ex.putI (pc := 5) dX8_take_5 fX8_9 (sh13 _) (Or.inl rfl) ⟨rfl, rfl⟩ ?_
  refine Ex.aload_n (pc := 8) dX8_take_8 rfl rfl ?_
  refine Ex.aload_n (pc := 9) dX8_take_9 rfl rfl ?_
  refine Ex.getI (pc := 10) dX8_take_10 fX8_15 (sh10 _) ?_
  refine Ex.putI (pc := 13) dX8_take_13 fX8_15 (sh13 _) (Or.inl rfl) ⟨rfl, rfl⟩ ?_
  refine Ex.aload_n (pc := 16) dX8_take_16 rfl rfl ?_
  refine Ex.aload_n (pc := 17) dX8_take_17 rfl rfl ?_
  refine Ex.getI (pc := 18) dX8_take_18 fX8_18 (sh10 _) ?_
  refine Ex.putI (pc := 21) dX8_take_21 fX8_18 (sh13 _) (Or.inl rfl) ⟨rfl, rfl⟩ ?_
  refine Ex.aload_n (pc := 24) dX8_take_24 rfl rfl ?_
  refine Ex.aload_n (pc := 25) dX8_take_25 rfl rfl ?_
  refine Ex.getI (pc := 26) dX8_take_26 fX8_21 (sh10 _) ?_
  refine Ex.putI (pc := 29) dX8_take_29 fX8_21 (sh13 _) (Or.inl rfl) ⟨rfl, rfl⟩ ?_
  refine Ex.aload_n (pc := 32) dX8_take_32 rfl rfl ?_
  refine Ex.getR (pc := 33) dX8_take_33 fX8_24 (sh10 _) r10_4 ?_
  refine Ex.iconst (pc := 36) (v := 0) dX8_take_36 rfl ?_
  refine Ex.aload_n (pc := 37) dX8_take_37 rfl rfl ?_
  refine Ex.getR (pc := 38) dX8_take_38 fX8_24 (sh13 _) r13_4 ?_
  refine Ex.iconst (pc := 41) (v := 0) dX8_take_41 rfl ?_
  refine Ex.iconst (pc := 42) (v := 5) dX8_take_42 rfl ?_
  refine Ex.copyI (pc := 43) dX8_take_43 kl_X8_41 (sh11 _) (sh14 _) (by decide) (by decide) (by decide) (by decide) (by decide) (by decide) (Nat.le_of_ble_eq_true rfl) ?_
  refine Ex.aload_n (pc := 46) dX8_take_46 rfl rfl ?_
  refine Ex.getR (pc := 47) dX8_take_47 fX8_28 (sh10 _) r10_5 ?_
  refine Ex.iconst (pc := 50) (v := 0) dX8_take_50 rfl ?_
  refine Ex.aload_n (pc := 51) dX8_take_51 rfl rfl ?_
  refine Ex.getR (pc := 52) dX8_take_52 fX8_28 (sh13 _) r13_5 ?_
  refine Ex.iconst (pc := 55) (v := 0) dX8_take_55 rfl ?_
  refine Ex.bipush (pc := 56) (v := 6) dX8_take_56 rfl ?_
  refine Ex.copyI (pc := 58) dX8_take_58 kl_X8_41 (sh12 _) (sh15 _) (by decide) (by decide) (by decide) (by decide) (by decide) (by decide) (Nat.le_of_ble_eq_true rfl) ?_
  refine Ex.vret (pc := 61) rfl dX8_take_61 (Nat.le_refl _) (Nat.le_refl _) ?_
  refine ⟨_, rfl, rfl, ?_, take_x hx hy ?_ ?_ ?_ ?_ ?_⟩
  · repeat (first | exact Sm.rf | refine Sm.up ?_ (by decide))
  · intro j hj
    simp [va_up, upd, va_cpy, show (5 : Int32).toNatClampNeg = 5 from by decide, show (6 : Int32).toNatClampNeg = 6 from by decide, show (0 : Int32).toNatClampNeg = 0 from by decide, show ¬ j < 5 by omega]
  · intro j hj
    simp [va_up, upd, va_cpy, show (5 : Int32).toNatClampNeg = 5 from by decide, show (6 : Int32).toNatClampNeg = 6 from by decide, show (0 : Int32).toNatClampNeg = 0 from by decide, show ¬ j < 6 by omega]
  · intro j hj
    rcases (show j = 0 ∨ j = 1 ∨ j = 2 ∨ j = 3 by omega) with rfl | rfl | rfl | rfl <;> simp [va_up, upd]
  · intro j hj
    simp [va_up, upd, va_cpy, show (5 : Int32).toNatClampNeg = 5 from by decide, show (6 : Int32).toNatClampNeg = 6 from by decide, show (0 : Int32).toNatClampNeg = 0 from by decide, hj]
  · intro j hj
    simp [va_up, upd, va_cpy, show (5 : Int32).toNatClampNeg = 5 from by decide, show (6 : Int32).toNatClampNeg = 6 from by decide, show (0 : Int32).toNatClampNeg = 0 from by decide, hj]
set_option maxRecDepth 20000 in
theorem t_goAhead {N : Nat} {I : aI} {L : aL} {p : aP} {nb ns nh : Nat} (hp : PlanG N I p) (hc : CntOk I nb ns nh) (hx : XOk (xOf I 10)) (hy : XOk (xOf I 13)) {n : Nat} (hn : n ≤ 40) : Run 6 0 0 mX9_goAhead [.ref 0, .int (nI n)] (St N I L) (RP none N L (fun I2 => Sm [13, 14, 15, 16, 17, 18] I I2 ∧ xOf I2 13 = aheadX p (I 5) (I 6) nb ns nh n (xOf I 10) ∧ XOk (xOf I2 13))) := by
  refine Run.of (ls := [some (.ref 0), some (.int _), none]) (by decide) (Nat.le_of_ble_eq_true rfl) rfl ?_
  refine Ex.aload_n (pc := 0) dX9_goAhead_0 rfl rfl ?_
  refine Ex.getR (pc := 1) dX9_goAhead_1 fX9_39 (sh0 _) r0_6 ?_
  refine Ex.aload_n (pc := 4) dX9_goAhead_4 rfl rfl ?_
  refine Ex.getR (pc := 5) dX9_goAhead_5 fX9_35 (sh0 _) r0_5 ?_
  refine Ex.callV (pc := 8) (As := [.ref 10]) (rest := []) dX9_goAhead_8 cX9_254 (t_takeX hx hy) (sh13 _) rfl rfl (by decide) (Nat.le_refl _) (Nat.le_refl _) (Nat.le_of_ble_eq_true rfl) (Or.inl (fun r S' h => by obtain ⟨_, _, h, _⟩ := h; subst h; rfl)) (fun r S' hq _ _ => ?_)
  obtain ⟨I1, rfl, rfl, hS1, hx1⟩ := hq
  refine Ex.iconst (pc := 11) (v := 0) dX9_goAhead_11 rfl ?_
  refine Ex.istore_n (pc := 12) (ls' := [some (.ref 0), some (.int _), some (.int 0)]) dX9_goAhead_12 rfl (by decide) rfl rfl ?_
  refine forUp (σ := aI) (P := fun k I2 => Ex 6 0 0 mX9_goAhead 0 0 13 [some (.ref 0), some (.int (nI n)), some (.int (nI k))] [] (St N I2 L) _) (Inv := fun k I2 => Sm [13, 14, 15, 16, 17, 18] I I2 ∧ xOf I2 13 = aheadX p (I 5) (I 6) nb ns nh k (xOf I 10)) n ?_ ?_ 0 _ (Nat.zero_le _) ⟨hS1.tr Sm.rf (l2 := []) (by decide) (by decide), hx1⟩
  · rintro I2 ⟨hS, hx2⟩
    refine Ex.iload_n (pc := 13) dX9_goAhead_13 rfl rfl ?_
    refine Ex.iload_n (pc := 14) dX9_goAhead_14 rfl rfl ?_
    refine Ex.icmp_ge (pc := 15) (tgt := 36) dX9_goAhead_15 (by decide) (fun _ => ?_) (fun c15 => absurd (nI_le (Nat.le_refl n) (by omega)) c15)
    refine Ex.vret (pc := 36) rfl dX9_goAhead_36 (Nat.le_refl _) (Nat.le_refl _) ?_
    exact ⟨_, rfl, rfl, hS, hx2, by rw [hx2]; exact (wIt_ok (fun x h => XOk.week h hc.2.1 hc.2.2.2.1) _ _ hx)⟩
  · rintro k I2 hk ⟨hS, hx2⟩ ih
    refine Ex.iload_n (pc := 13) dX9_goAhead_13 rfl rfl ?_
    refine Ex.iload_n (pc := 14) dX9_goAhead_14 rfl rfl ?_
    refine Ex.icmp_ge (pc := 15) (tgt := 36) dX9_goAhead_15 (by decide) (fun c15 => absurd c15 (nI_ge hk (by omega))) (fun _ => ?_)
    refine Ex.aload_n (pc := 18) dX9_goAhead_18 rfl rfl ?_
    refine Ex.getR (pc := 19) dX9_goAhead_19 fX9_47 (sh0 _) r0_7 ?_
    refine Ex.aload_n (pc := 22) dX9_goAhead_22 rfl rfl ?_
    refine Ex.getR (pc := 23) dX9_goAhead_23 fX9_39 (sh0 _) r0_6 ?_
    refine Ex.iconst (pc := 26) (v := 0) dX9_goAhead_26 rfl ?_
    refine Ex.callV (pc := 27) (As := [.ref 13, .int 0]) (rest := []) dX9_goAhead_27 cX9_258 (t_passWeek13 (p := p) (nb := nb) (ns := ns) (nh := nh) (dr := false) (hp.sm hS (by decide) (by decide) (by decide) (by decide)) (hc.sm hS (by decide) (by decide))) (sh16 _) rfl rfl (by decide) (Nat.le_refl _) (Nat.le_refl _) (Nat.le_of_ble_eq_true rfl) (Or.inl (fun r S' h => by obtain ⟨_, _, h, _⟩ := h; subst h; rfl)) (fun r S' hq _ _ => ?_)
    obtain ⟨I3, rfl, rfl, hS3, hx3, -⟩ := hq
    refine Ex.iinc (pc := 30) (ls' := [some (.ref 0), some (.int _), some (.int _)]) dX9_goAhead_30 rfl rfl (by decide) rfl rfl ?_
    refine Ex.goto (pc := 33) (tgt := 13) dX9_goAhead_33 (by decide) ?_
    rw [show nI k + Int32.ofInt 1 = nI (k + 1) from nI_1 k]
    refine ih _ ⟨hS.tr hS3 (by decide) (by decide), ?_⟩
    rw [hx3, hS 5 (by decide), hS 6 (by decide), hx2]; rfl
theorem cpB_of {n wk : Int32} (h : cpB n wk = true) : ∃ j, j ≤ 40 ∧ n = nI j := by
  have h := of_decide_eq_true h
  exact nI_of2 (n := 40) (by decide) h.1 (Int32.not_lt.mp h.2.1)
set_option maxRecDepth 20000 in
theorem t_later {N : Nat} {I : aI} {L : aL} {p : aP} {nb ns nh : Nat} (hp : PlanG N I p) (hc : CntOk I nb ns nh) (hx : XOk (xOf I 10)) (hy : XOk (xOf I 13)) {w n : Int32} : Run 7 0 0 mX9_later [.ref 0, .int w, .int n] (St N I L) (RP (some (.int (if inR w ns = false then -1 else if cpB n (I 10 0) = false then -1 else (aheadX p (I 5) (I 6) nb ns nh n.toNatClampNeg (xOf I 10)).2.2.2.2 w.toNatClampNeg))) N L (fun I2 => Sm [13, 14, 15, 16, 17, 18] I I2 ∧ XOk (xOf I2 13))) := by
  refine Run.of (ls := [some (.ref 0), some (.int _), some (.int _)]) (by decide) (Nat.le_of_ble_eq_true rfl) rfl ?_
  obtain ⟨hc0, hb5, hc1, hs6, hc2, hh6, hrib⟩ := id hc
  refine Ex.aload_n (pc := 0) dX9_later_0 rfl rfl ?_
  refine Ex.getR (pc := 1) dX9_later_1 fX9_22 (sh0 _) r0_2 ?_
  refine Ex.iconst (pc := 4) (v := 1) dX9_later_4 rfl ?_
  refine Ex.iload_n (pc := 5) dX9_later_5 rfl rfl ?_
  refine Ex.callV (pc := 6) (As := [.int 1, .int _]) (rest := []) dX9_later_6 cX9_182 (t_holdsB (s := 1) (n := ns) (by decide) hc1) (sh2 _) rfl rfl (by decide) (Nat.le_refl _) (Nat.le_refl _) (Nat.le_of_ble_eq_true rfl) (Or.inl (fun r S' h => by obtain ⟨_, h⟩ := h; subst h; rfl)) (fun r S' hq _ _ => ?_)
  obtain ⟨rfl, rfl⟩ := hq
  refine Ex.if_eq (pc := 9) (tgt := 20) dX9_later_9 (by decide) (fun c9 => ?_) (fun c9 => ?_)
  · skip
    refine Ex.iconst (pc := 20) (v := (-1)) dX9_later_20 rfl ?_
    refine Ex.iret (pc := 21) rfl rfl rfl dX9_later_21 (Nat.le_refl _) (Nat.le_refl _) ?_
    exact ⟨_, by rw [bI_0 c9]; rfl, rfl, Sm.rf, hy⟩
  · skip
    have hin := bI_1 c9
    obtain ⟨j, hj, rfl⟩ := inR_of hin (by omega)
    refine Ex.aload_n (pc := 12) dX9_later_12 rfl rfl ?_
    refine Ex.iload_n (pc := 13) dX9_later_13 rfl rfl ?_
    refine Ex.callV (pc := 14) (As := [.int _]) (rest := []) dX9_later_14 cX9_248 t_canPass (sh0 _) rfl rfl (by decide) (Nat.le_refl _) (Nat.le_refl _) (Nat.le_of_ble_eq_true rfl) (Or.inl (fun r S' h => by obtain ⟨_, h⟩ := h; subst h; rfl)) (fun r S' hq _ _ => ?_)
    obtain ⟨rfl, rfl⟩ := hq
    refine Ex.if_ne (pc := 17) (tgt := 22) dX9_later_17 (by decide) (fun c17 => ?_) (fun c17 => ?_)
    · skip
      have hcp := bI_1 c17
      obtain ⟨k, hk40, rfl⟩ := cpB_of hcp
      refine Ex.aload_n (pc := 22) dX9_later_22 rfl rfl ?_
      refine Ex.iload_n (pc := 23) dX9_later_23 rfl rfl ?_
      refine Ex.callV (pc := 24) (As := [.int _]) (rest := []) dX9_later_24 cX9_251 (t_goAhead (n := k) hp hc hx hy hk40) (sh0 _) rfl rfl (by decide) (Nat.le_refl _) (Nat.le_refl _) (Nat.le_of_ble_eq_true rfl) (Or.inl (fun r S' h => by obtain ⟨_, _, h, _⟩ := h; subst h; rfl)) (fun r S' hq _ _ => ?_)
      obtain ⟨I3, rfl, rfl, hS3, hx3, hy3⟩ := hq
      refine Ex.aload_n (pc := 27) dX9_later_27 rfl rfl ?_
      refine Ex.getR (pc := 28) dX9_later_28 fX9_39 (sh0 _) r0_6 ?_
      refine Ex.getR (pc := 31) dX9_later_31 fX9_192 (sh13 _) r13_5 ?_
      refine Ex.iload_n (pc := 34) dX9_later_34 rfl rfl ?_
      refine Ex.iald (pc := 35) (j := j) dX9_later_35 (sh15 _) (vp_in_nI (by omega) (by decide)) (ixN2 (by omega)) ?_
      refine Ex.iret (pc := 36) rfl rfl rfl dX9_later_36 (Nat.le_refl _) (Nat.le_refl _) ?_
      refine ⟨_, ?_, rfl, hS3, hy3⟩
      refine congrArg (fun z => some (Value.int z)) ?_
      rw [if_neg (by rw [hin]; decide), if_neg (by rw [hcp]; decide), nI_clamp (by omega), nI_clamp (by omega), ← hx3]
      rfl
    · skip
      refine Ex.iconst (pc := 20) (v := (-1)) dX9_later_20 rfl ?_
      refine Ex.iret (pc := 21) rfl rfl rfl dX9_later_21 (Nat.le_refl _) (Nat.le_refl _) ?_
      exact ⟨_, by rw [hin, bI_0 c17]; rfl, rfl, Sm.rf, hy⟩
set_option maxRecDepth 20000 in
theorem t_worn {N : Nat} {I : aI} {L : aL} {p : aP} {nb ns nh : Nat} (hp : PlanG N I p) (hc : CntOk I nb ns nh) (hx : XOk (xOf I 10)) (hy : XOk (xOf I 13)) {w n : Int32} : Run 7 0 0 mX9_worn [.ref 0, .int w, .int n] (St N I L) (RP (some (.int (if inR w nb = false then -1 else if cpB n (I 10 0) = false then -1 else (aheadX p (I 5) (I 6) nb ns nh n.toNatClampNeg (xOf I 10)).2.2.2.1 w.toNatClampNeg))) N L (fun I2 => Sm [13, 14, 15, 16, 17, 18] I I2 ∧ XOk (xOf I2 13))) := by
  refine Run.of (ls := [some (.ref 0), some (.int _), some (.int _)]) (by decide) (Nat.le_of_ble_eq_true rfl) rfl ?_
  obtain ⟨hc0, hb5, hc1, hs6, hc2, hh6, hrib⟩ := id hc
  refine Ex.aload_n (pc := 0) dX9_worn_0 rfl rfl ?_
  refine Ex.getR (pc := 1) dX9_worn_1 fX9_22 (sh0 _) r0_2 ?_
  refine Ex.iconst (pc := 4) (v := 0) dX9_worn_4 rfl ?_
  refine Ex.iload_n (pc := 5) dX9_worn_5 rfl rfl ?_
  refine Ex.callV (pc := 6) (As := [.int 0, .int _]) (rest := []) dX9_worn_6 cX9_182 (t_holdsB (s := 0) (n := nb) (by decide) hc0) (sh2 _) rfl rfl (by decide) (Nat.le_refl _) (Nat.le_refl _) (Nat.le_of_ble_eq_true rfl) (Or.inl (fun r S' h => by obtain ⟨_, h⟩ := h; subst h; rfl)) (fun r S' hq _ _ => ?_)
  obtain ⟨rfl, rfl⟩ := hq
  refine Ex.if_eq (pc := 9) (tgt := 20) dX9_worn_9 (by decide) (fun c9 => ?_) (fun c9 => ?_)
  · skip
    refine Ex.iconst (pc := 20) (v := (-1)) dX9_worn_20 rfl ?_
    refine Ex.iret (pc := 21) rfl rfl rfl dX9_worn_21 (Nat.le_refl _) (Nat.le_refl _) ?_
    exact ⟨_, by rw [bI_0 c9]; rfl, rfl, Sm.rf, hy⟩
  · skip
    have hin := bI_1 c9
    obtain ⟨j, hj, rfl⟩ := inR_of hin (by omega)
    refine Ex.aload_n (pc := 12) dX9_worn_12 rfl rfl ?_
    refine Ex.iload_n (pc := 13) dX9_worn_13 rfl rfl ?_
    refine Ex.callV (pc := 14) (As := [.int _]) (rest := []) dX9_worn_14 cX9_248 t_canPass (sh0 _) rfl rfl (by decide) (Nat.le_refl _) (Nat.le_refl _) (Nat.le_of_ble_eq_true rfl) (Or.inl (fun r S' h => by obtain ⟨_, h⟩ := h; subst h; rfl)) (fun r S' hq _ _ => ?_)
    obtain ⟨rfl, rfl⟩ := hq
    refine Ex.if_ne (pc := 17) (tgt := 22) dX9_worn_17 (by decide) (fun c17 => ?_) (fun c17 => ?_)
    · skip
      have hcp := bI_1 c17
      obtain ⟨k, hk40, rfl⟩ := cpB_of hcp
      refine Ex.aload_n (pc := 22) dX9_worn_22 rfl rfl ?_
      refine Ex.iload_n (pc := 23) dX9_worn_23 rfl rfl ?_
      refine Ex.callV (pc := 24) (As := [.int _]) (rest := []) dX9_worn_24 cX9_251 (t_goAhead (n := k) hp hc hx hy hk40) (sh0 _) rfl rfl (by decide) (Nat.le_refl _) (Nat.le_refl _) (Nat.le_of_ble_eq_true rfl) (Or.inl (fun r S' h => by obtain ⟨_, _, h, _⟩ := h; subst h; rfl)) (fun r S' hq _ _ => ?_)
      obtain ⟨I3, rfl, rfl, hS3, hx3, hy3⟩ := hq
      refine Ex.aload_n (pc := 27) dX9_worn_27 rfl rfl ?_
      refine Ex.getR (pc := 28) dX9_worn_28 fX9_39 (sh0 _) r0_6 ?_
      refine Ex.getR (pc := 31) dX9_worn_31 fX9_179 (sh13 _) r13_4 ?_
      refine Ex.iload_n (pc := 34) dX9_worn_34 rfl rfl ?_
      refine Ex.iald (pc := 35) (j := j) dX9_worn_35 (sh14 _) (vp_in_nI (by omega) (by decide)) (ixN2 (by omega)) ?_
      refine Ex.iret (pc := 36) rfl rfl rfl dX9_worn_36 (Nat.le_refl _) (Nat.le_refl _) ?_
      refine ⟨_, ?_, rfl, hS3, hy3⟩
      refine congrArg (fun z => some (Value.int z)) ?_
      rw [if_neg (by rw [hin]; decide), if_neg (by rw [hcp]; decide), nI_clamp (by omega), nI_clamp (by omega), ← hx3]
      rfl
    · skip
      refine Ex.iconst (pc := 20) (v := (-1)) dX9_worn_20 rfl ?_
      refine Ex.iret (pc := 21) rfl rfl rfl dX9_worn_21 (Nat.le_refl _) (Nat.le_refl _) ?_
      exact ⟨_, by rw [hin, bI_0 c17]; rfl, rfl, Sm.rf, hy⟩
set_option maxRecDepth 20000 in
theorem t_saved {N : Nat} {I : aI} {L : aL} {p : aP} {nb ns nh : Nat} (hp : PlanG N I p) (hc : CntOk I nb ns nh) (hx : XOk (xOf I 10)) (hy : XOk (xOf I 13)) {n : Int32} : Run 7 0 0 mX9_saved [.ref 0, .int n] (St N I L) (RP (some (.int (if cpB n (I 10 0) = false then -1 else (aheadX p (I 5) (I 6) nb ns nh n.toNatClampNeg (xOf I 10)).2.2.1))) N L (fun I2 => Sm [13, 14, 15, 16, 17, 18] I I2 ∧ XOk (xOf I2 13))) := by
  refine Run.of (ls := [some (.ref 0), some (.int _)]) (by decide) (Nat.le_of_ble_eq_true rfl) rfl ?_
  refine Ex.aload_n (pc := 0) dX9_saved_0 rfl rfl ?_
  refine Ex.iload_n (pc := 1) dX9_saved_1 rfl rfl ?_
  refine Ex.callV (pc := 2) (As := [.int _]) (rest := []) dX9_saved_2 cX9_248 t_canPass (sh0 _) rfl rfl (by decide) (Nat.le_refl _) (Nat.le_refl _) (Nat.le_of_ble_eq_true rfl) (Or.inl (fun r S' h => by obtain ⟨_, h⟩ := h; subst h; rfl)) (fun r S' hq _ _ => ?_)
  obtain ⟨rfl, rfl⟩ := hq
  refine Ex.if_ne (pc := 5) (tgt := 10) dX9_saved_5 (by decide) (fun c5 => ?_) (fun c5 => ?_)
  · skip
    have hcp := bI_1 c5
    obtain ⟨k, hk40, rfl⟩ := cpB_of hcp
    refine Ex.aload_n (pc := 10) dX9_saved_10 rfl rfl ?_
    refine Ex.iload_n (pc := 11) dX9_saved_11 rfl rfl ?_
    refine Ex.callV (pc := 12) (As := [.int _]) (rest := []) dX9_saved_12 cX9_251 (t_goAhead (n := k) hp hc hx hy hk40) (sh0 _) rfl rfl (by decide) (Nat.le_refl _) (Nat.le_refl _) (Nat.le_of_ble_eq_true rfl) (Or.inl (fun r S' h => by obtain ⟨_, _, h, _⟩ := h; subst h; rfl)) (fun r S' hq _ _ => ?_)
    obtain ⟨I3, rfl, rfl, hS3, hx3, hy3⟩ := hq
    refine Ex.aload_n (pc := 15) dX9_saved_15 rfl rfl ?_
    refine Ex.getR (pc := 16) dX9_saved_16 fX9_39 (sh0 _) r0_6 ?_
    refine Ex.getI (pc := 19) dX9_saved_19 fX9_160 (sh13 _) ?_
    refine Ex.iret (pc := 22) rfl rfl rfl dX9_saved_22 (Nat.le_refl _) (Nat.le_refl _) ?_
    refine ⟨_, ?_, rfl, hS3, hy3⟩
    refine congrArg (fun z => some (Value.int z)) ?_
    rw [if_neg (by rw [hcp]; decide), nI_clamp (by omega), ← hx3]
    rfl
  · skip
    refine Ex.iconst (pc := 8) (v := (-1)) dX9_saved_8 rfl ?_
    refine Ex.iret (pc := 9) rfl rfl rfl dX9_saved_9 (Nat.le_refl _) (Nat.le_refl _) ?_
    exact ⟨_, by rw [bI_0 c5]; rfl, rfl, Sm.rf, hy⟩
