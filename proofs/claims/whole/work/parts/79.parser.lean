theorem RR_hi {a k : Nat} (h : 81 ≤ a) : RR a k = none := by
  unfold RR
  rw [show RL.getD a [] = [] from by rw [List.getD_eq_getElem?_getD, List.getElem?_eq_none (show RL.length ≤ a from h)]; rfl]
  rfl
theorem RR2_eq {R : aR} (h0 : ∀ a, a ≠ 81 → a ≠ 82 → R a = RR a) (h1 : R 81 = va_up (va_up (fun _ => none) 0 (some 1)) 2 (some 82)) (h2 : R 82 = PR 83) : R = RR2 := by
  funext a k
  unfold RR2
  by_cases e1 : a = 81
  · subst e1
    rw [h1, if_neg (by decide)]
    match k with
    | 0 => rfl
    | 1 => rfl
    | 2 => rfl
    | k + 3 => rw [va_up_n (by omega), va_up_n (by omega)]; rfl
  · by_cases e2 : a = 82
    · subst e2
      rw [h2, if_neg (by decide)]
      match k with
      | 0 => rfl
      | 1 => rfl
      | 2 => rfl
      | 3 => rfl
      | 4 => rfl
      | 5 => rfl
      | 6 => rfl
      | 7 => rfl
      | 8 => rfl
      | 9 => rfl
      | 10 => rfl
      | k + 11 => unfold PR; rw [va_up_n (by omega), va_up_n (by omega), va_up_n (by omega), va_up_n (by omega), va_up_n (by omega), va_up_n (by omega), va_up_n (by omega)]; rfl
    · rw [h0 a e1 e2]
      by_cases e : a < 81
      · rw [if_pos e]
      · rw [if_neg e, RR_hi (by omega), show RL2.getD (a - 81) [] = [] from by rw [List.getD_eq_getElem?_getD, List.getElem?_eq_none (show RL2.length ≤ a - 81 by show 2 ≤ a - 81; omega)]; rfl]
        rfl
def ParI (n : Nat) (f : Nat → Int32) : Prop := f 1 = nI n ∧ f 3 = 0 ∧ f 4 = -1 ∧ f 5 = 0 ∧ f 6 = 0 ∧ f 7 = 1 ∧ f 8 = 0 ∧ f 9 = -1 ∧ f 10 = -1
set_option maxRecDepth 20000 in
theorem t_parserI {N n : Nat} {I : aI} {L : aL} {R : aR} (hn : n ≤ 1600) (hI : I 81 = fun _ => 0) (hR : R = va_up RR 81 (fun _ => none)) : Run 2 8 (78 + n) mX4_init [.ref 81, .ref 1, .int (nI n)] (SH N ++ [(4, 0)], I, L, R) (fun r S' => ∃ I', r = none ∧ S' = St2 N n I' (va_up L 82 (fun _ => 0)) ∧ (∀ a, a < 81 → I' a = I a) ∧ (∀ a, 82 ≤ a → a ≤ 89 → I' a = fun _ => 0) ∧ ParI n (I' 81)) := by
  refine Run.of (ls := [some (.ref 81), some (.ref 1), some (.int (nI n))]) (by decide) (Nat.le_of_ble_eq_true rfl) rfl ?_
  have hb : (SH N ++ [(4, 0)])[81]? = some (4, 0) := rfl
  have hlen : (SH N ++ [(4, 0)]).length = 82 := rfl
  refine Ex.aload_n (pc := 0) dX4_init_0 rfl rfl ?_
  refine Ex.objI (pc := 1) dX4_init_1 kl_X4_3 (by decide) (by decide) ?_
  refine Ex.aload_n (pc := 4) dX4_init_4 rfl rfl ?_
  refine Ex.iconst (pc := 5) (v := 0) dX4_init_5 rfl ?_
  refine Ex.putI (pc := 6) dX4_init_6 fX4_9 hb (Or.inl rfl) ⟨rfl, rfl⟩ ?_
  refine Ex.aload_n (pc := 9) dX4_init_9 rfl rfl ?_
  refine Ex.iconst (pc := 10) (v := -1) dX4_init_10 rfl ?_
  refine Ex.putI (pc := 11) dX4_init_11 fX4_15 hb (Or.inl rfl) ⟨rfl, rfl⟩ ?_
  refine Ex.aload_n (pc := 14) dX4_init_14 rfl rfl ?_
  refine Ex.iconst (pc := 15) (v := 0) dX4_init_15 rfl ?_
  refine Ex.putI (pc := 16) dX4_init_16 fX4_18 hb (Or.inl rfl) ⟨rfl, rfl⟩ ?_
  refine Ex.aload_n (pc := 19) dX4_init_19 rfl rfl ?_
  refine Ex.iconst (pc := 20) (v := 0) dX4_init_20 rfl ?_
  refine Ex.putI (pc := 21) dX4_init_21 fX4_21 hb (Or.inl rfl) ⟨rfl, rfl⟩ ?_
  refine Ex.aload_n (pc := 24) dX4_init_24 rfl rfl ?_
  refine Ex.iconst (pc := 25) (v := 1) dX4_init_25 rfl ?_
  refine Ex.putI (pc := 26) dX4_init_26 fX4_24 hb (Or.inl rfl) ⟨rfl, rfl⟩ ?_
  refine Ex.aload_n (pc := 29) dX4_init_29 rfl rfl ?_
  refine Ex.iconst (pc := 30) (v := 0) dX4_init_30 rfl ?_
  refine Ex.putI (pc := 31) dX4_init_31 fX4_27 hb (Or.inl rfl) ⟨rfl, rfl⟩ ?_
  refine Ex.aload_n (pc := 34) dX4_init_34 rfl rfl ?_
  refine Ex.iconst (pc := 35) (v := -1) dX4_init_35 rfl ?_
  refine Ex.putI (pc := 36) dX4_init_36 fX4_30 hb (Or.inl rfl) ⟨rfl, rfl⟩ ?_
  refine Ex.aload_n (pc := 39) dX4_init_39 rfl rfl ?_
  refine Ex.iconst (pc := 40) (v := -1) dX4_init_40 rfl ?_
  refine Ex.putI (pc := 41) dX4_init_41 fX4_33 hb (Or.inl rfl) ⟨rfl, rfl⟩ ?_
  refine Ex.aload_n (pc := 44) dX4_init_44 rfl rfl ?_
  refine Ex.aload_n (pc := 45) dX4_init_45 rfl rfl ?_
  refine Ex.putR (pc := 46) dX4_init_46 fX4_36 hb (Or.inr ⟨rfl, rfl⟩) (by rw [hlen]; decide) ?_
  refine Ex.aload_n (pc := 49) dX4_init_49 rfl rfl ?_
  refine Ex.iconst (pc := 50) (v := 0) dX4_init_50 rfl ?_
  refine Ex.iload_n (pc := 51) dX4_init_51 rfl rfl ?_
  refine Ex.aload_n (pc := 52) dX4_init_52 rfl rfl ?_
  refine Ex.alen (pc := 53) (t := 1) (N := 1600) dX4_init_53 rfl (by decide) ?_
  refine Ex.min (pc := 54) dX4_init_54 kl_X4_40 (by decide) (Nat.le_of_ble_eq_true rfl) (by decide) (by omega) ?_
  refine Ex.max (pc := 57) dX4_init_57 kl_X4_46 (by decide) (Nat.le_of_ble_eq_true rfl) (by decide) (by omega) ?_
  rw [show (if Int32.ofNat 1600 < nI n then Int32.ofNat 1600 else nI n) = nI n from if_neg (nI_nlt (a := 1600) hn (by omega)), show (if (0 : Int32) < nI n then nI n else 0) = nI n from by split; rfl; rename_i q; have : n = 0 := Nat.le_antisymm (Nat.le_of_not_lt (fun z => q (nI_lt (a := 0) z (by omega)))) (Nat.zero_le _); rw [this]; rfl]
  refine Ex.putI (pc := 60) dX4_init_60 fX4_49 hb (Or.inr ⟨rfl, rfl⟩) ⟨rfl, rfl⟩ ?_
  obtain ⟨J, hJ⟩ : ∃ z : aI, z = _ := ⟨_, rfl⟩
  refine Ex.mm (S' := (SH N ++ [(4, 0)], J, L, va_up R 81 (va_up (R 81) 0 (some 1)))) (Prod.ext rfl (Prod.ext hJ.symm rfl)) ?_
  dsimp only at hJ
  have jo : ∀ a, a ≠ 81 → J a = I a := fun a h => by
    rw [hJ]
    repeat rw [va_up_n h]
  have j81 : ParI n (J 81) := by
    rw [hJ]
    unfold ParI
    refine ⟨?_, ?_, ?_, ?_, ?_, ?_, ?_, ?_, ?_⟩
    all_goals (repeat (first | rw [va_up_s] | rw [upd_s] | rw [upd_n (by decide)]))
  refine Ex.aload_n (pc := 63) dX4_init_63 rfl rfl ?_
  refine Ex.newh (pc := 64) (h := 82) (ci := 5) hlen dX4_init_64 nX4_52 (by decide) (by show 0 + 11 ≤ 78 + n; omega) (oks_r (by decide) oks_0) (okl_r (by decide) (okl_r (by decide) (okl_i okl_0))) ?_
  refine Ex.dup (pc := 67) dX4_init_67 rfl ?_
  refine Ex.aload_n (pc := 68) dX4_init_68 rfl rfl ?_
  refine Ex.getI (pc := 69) dX4_init_69 fX4_49 (z := 0) rfl ?_
  rw [va_up_n (show (81 : Nat) ≠ 82 by decide), j81.1]
  refine Ex.callI (pc := 72) (As := [.int (nI n)]) (rest := [.ref 82, .ref 81]) dX4_init_72 cX4_54 (t_planI (h := 83) (b := 82) (len_ap hlen) rfl (by decide) hn va_up_s va_up_s) rfl rfl (by decide) (by decide) (by show 0 + 11 + (67 + n) ≤ 78 + n; omega) (by decide) (Or.inr ⟨oks_r (by show 82 < 83; decide) (oks_r (by show 81 < 83; decide) oks_0), okl_r (by show 81 < 83; decide) (okl_r (by show 1 < 83; decide) (okl_i okl_0))⟩) (fun S' hq => ?_)
  obtain ⟨J2, -, rfl, p1, p2, p3⟩ := hq
  refine Ex.putR (pc := 75) dX4_init_75 fX4_57 (z := 0) rfl (Or.inr ⟨rfl, rfl⟩) (by show 82 < 90; decide) ?_
  refine Ex.vret (pc := 78) rfl dX4_init_78 (by decide) (by show 0 + 11 + (67 + n) ≤ 78 + n; omega) ?_
  refine ⟨J2, rfl, Prod.ext rfl (Prod.ext rfl (Prod.ext rfl (RR2_eq (fun a h1 h2 => ?_) ?_ ?_))), fun a h => ?_, fun a h1 h2 => ?_, ?_⟩
  · dsimp only
    rw [va_up_n h1, va_up_n h2, va_up_n h2, va_up_n h1, hR, va_up_n h1]
  · dsimp only
    rw [va_up_s, va_up_n (show (81 : Nat) ≠ 82 by decide), va_up_n (show (81 : Nat) ≠ 82 by decide), va_up_s, hR, va_up_s]
  · dsimp only
    rw [va_up_n (by decide), va_up_s]
  · rw [p1 a (by omega) (by omega), va_up_n (by omega), jo a (by omega)]
  · by_cases e : a = 82
    · rw [e]; exact p3
    · exact p2 a (by omega) (by omega)
  · rw [p1 81 (by decide) (by decide), va_up_n (by decide)]; exact j81
