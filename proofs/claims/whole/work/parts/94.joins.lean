/-! operators held back, code so far: by the class's kinds -/
theorem Ex.imp {d mc ms : Nat} {mi : aM} {k n pc : Nat} {ls : aLs} {st : List Value} {S : aS} {Q Q' : aQ} (h : Ex d mc ms mi k n pc ls st S Q) (hq : ∀ r S', Q r S' → Q' r S') : Ex d mc ms mi k n pc ls st S Q' := by
  intro p l e s m args below meth c G A ρ0 C H locs ρ cs h0 hR hS hL T hT X
  obtain ⟨t, a1, o, b1, b2, b3, b4⟩ := h p l e s m args below meth c G A ρ0 C H locs ρ cs h0 hR hS hL T hT X
  exact ⟨t, a1, o, b1, b2, aQc_imp hq _ _ _ _ _ b3, b4⟩
def rkC (k : Nat) : Nat := if k = 12 then 1 else if k = 13 then 2 else if k = 14 then 3 else if 9 ≤ k ∧ k ≤ 11 then 4 else if k = 2 ∨ k = 3 then 5 else 6
theorem rk_s : ∀ k, k < 16 → 2 ≤ k → rkF (nI (sN k)) = nI (rkC k) := by decide +kernel
def cd14 (l : List Nat) : Nat := (l.filter (· = 14)).length
def CdM (I : aI) (b : Nat) (c : Cd) : Prop := I 36 32 = nI c.length ∧ ∀ j s, c[j]? = some s → CdR s.1 s.2 (I 51 (1600 * b + j)) (I 52 (1600 * b + j))
def OpM (I : aI) (β : Nat) (ω : List Nat) : Prop := I 36 43 = nI (β + ω.length) ∧ ∀ i k, ω[i]? = some k → I 61 (β + i) = nI (sN k) ∧ 2 ≤ k ∧ k ≤ 14
def JF (b : Nat) (I I2 : aI) : Prop := Sm [36, 51, 52] I I2 ∧ (∀ j, j ∉ [32, 41, 43] → I2 36 j = I 36 j) ∧ ∀ j, j < 1600 * b ∨ 1600 * b + 1600 ≤ j → I2 51 j = I 51 j ∧ I2 52 j = I 52 j
theorem JF.rf {b : Nat} {I : aI} : JF b I I := ⟨Sm.rf, fun _ _ => rfl, fun _ _ => ⟨rfl, rfl⟩⟩
theorem JF.tr {b : Nat} {I I1 I2 : aI} (h : JF b I I1) (g : JF b I1 I2) : JF b I I2 := ⟨h.1.tr g.1 (fun _ q => q) (fun _ q => q), fun j hj => (g.2.1 j hj).trans (h.2.1 j hj), fun j hj => ⟨(g.2.2 j hj).1.trans (h.2.2 j hj).1, (g.2.2 j hj).2.trans (h.2.2 j hj).2⟩⟩
theorem CdM.add {I : aI} {b : Nat} {c : Cd} {s : Nat × Nat} {x y : Int32} (h : CdM I b c) (hs : CdR s.1 s.2 x y) : CdM (adM2 I b c.length x y) b (c ++ [s]) := by
  refine ⟨by unfold adM2; rw [mf_s, List.length_append]; rfl, fun j t ht => ?_⟩
  have e1 : adM2 I b c.length x y 51 = upd (I 51) (1600 * b + c.length) x := by unfold adM2; rw [mf_o (by decide), va_up_n (by decide), va_up_s]
  have e2 : adM2 I b c.length x y 52 = upd (I 52) (1600 * b + c.length) y := by unfold adM2; rw [mf_o (by decide), va_up_s]
  rw [e1, e2]
  by_cases e : j = c.length
  · subst e
    rw [List.getElem?_append_right (Nat.le_refl _), Nat.sub_self] at ht
    cases ht
    rw [upd_s, upd_s]
    exact hs
  · rw [upd_n (by omega), upd_n (by omega)]
    refine h.2 j t ?_
    have hlt : j < c.length := by
      have := (List.getElem?_eq_some_iff.mp ht).1
      rw [List.length_append, List.length_singleton] at this
      omega
    rw [List.getElem?_append_left hlt] at ht
    exact ht
theorem ad_o {I : aI} {b c a : Nat} {x y : Int32} (h1 : a ≠ 36) (h2 : a ≠ 51) (h3 : a ≠ 52) : adM2 I b c x y a = I a := by unfold adM2; rw [mf_o h1, va_up_n h3, va_up_n h2]
theorem ad_f {I : aI} {b c j : Nat} {x y : Int32} (h : j ≠ 32) : adM2 I b c x y 36 j = I 36 j := by unfold adM2; rw [mf_n h, va_up_n (by decide), va_up_n (by decide)]
theorem ad_51 {I : aI} {b c j : Nat} {x y : Int32} (h : j ≠ 1600 * b + c) : adM2 I b c x y 51 j = I 51 j := by unfold adM2; rw [mf_o (by decide), va_up_n (by decide), va_up_s, upd_n h]
theorem ad_52 {I : aI} {b c j : Nat} {x y : Int32} (h : j ≠ 1600 * b + c) : adM2 I b c x y 52 j = I 52 j := by unfold adM2; rw [mf_o (by decide), va_up_s, upd_n h]
theorem OpM.pop {I : aI} {β k : Nat} {ω : List Nat} (h : OpM I β (ω ++ [k])) : I 61 (β + ω.length) = nI (sN k) ∧ 2 ≤ k ∧ k ≤ 14 := h.2 ω.length k (by rw [List.getElem?_append_right (Nat.le_refl _), Nat.sub_self]; rfl)
theorem cd14_c (l : List Nat) (k : Nat) : cd14 (l ++ [k]) = cd14 l + (if k = 14 then 1 else 0) := by
  unfold cd14
  rw [List.filter_append, List.length_append]
  congr 1
  by_cases h : k = 14
  · subst h; rfl
  · rw [if_neg h]; simp [h]
set_option maxRecDepth 20000 in
theorem tm_joins {N : Nat} {L : aL} {b β d o k : Nat} (hb : b < 2) (hd : d < 20) (hk : k ≤ 6) {ω : List Nat} (hω : ∀ x ω1, ω = ω1 ++ [x] → rkC x < k) : ∀ (z : Nat) (δ : List Nat) (c : Cd) (I : aI), δ.length = z → I 36 33 = nI b → I 36 40 = nI (d + 1) → I 60 d = nI β → OpM I β (ω ++ δ) → CdM I b c → c.length + δ.length ≤ 1600 → β + (ω ++ δ).length ≤ 500 → (∀ x ∈ δ, k ≤ rkC x) → I 36 41 = nI (o + cd14 δ) → o + cd14 δ < 1000 → Ex 2 0 0 mX10_joins 0 0 0 [some (.ref 36), some (.int (nI k))] [] (St N I L) (RP none N L (fun I2 => JF b I I2 ∧ OpM I2 β ω ∧ CdM I2 b (c ++ δ.reverse.map (fun x => (x, 0))) ∧ I2 36 41 = nI o)) := by
  intro z
  induction z with
  | zero =>
    intro δ c I hz h33 h40 h60 hO hC hcl hol hδ h41 ho
    have hδ0 : δ = [] := List.length_eq_zero_iff.mp hz
    subst hδ0
    rw [List.append_nil] at hO hol
    have hd1 : nI (d + 1) - 1 = nI d := by rw [show (1 : Int32) = nI 1 from rfl]; exact pk_sub (by omega)
    have fin0 : RP none N L (fun I2 => JF b I I2 ∧ OpM I2 β ω ∧ CdM I2 b (c ++ ([] : List Nat).reverse.map (fun x => (x, 0))) ∧ I2 36 41 = nI o) none (St N I L) := ⟨I, rfl, rfl, JF.rf, hO, by simpa using hC, by rw [h41]; rfl⟩
    rcases List.eq_nil_or_concat ω with e | ⟨ω1, x, e⟩
    · rw [e] at hO
      refine Ex.aload_n (pc := 0) dX10_joins_0 rfl rfl ?_
      refine Ex.getI (pc := 1) dX10_joins_1 fX10_143 (sh36 _) ?_
      refine Ex.aload_n (pc := 4) dX10_joins_4 rfl rfl ?_
      refine Ex.getR (pc := 5) dX10_joins_5 fX10_131 (sh36 _) r36_39 ?_
      refine Ex.aload_n (pc := 8) dX10_joins_8 rfl rfl ?_
      refine Ex.getI (pc := 9) dX10_joins_9 fX10_134 (sh36 _) ?_
      refine Ex.iconst (pc := 12) (v := 1) dX10_joins_12 rfl ?_
      refine Ex.isub (pc := 13) dX10_joins_13 ?_
      refine Ex.iald (pc := 14) (j := d) dX10_joins_14 (sh60 _) (by rw [h40, hd1]; exact vp_in_nI hd (by decide)) (by rw [h40, hd1]; exact nI_clamp (by omega)) ?_
      refine Ex.icmp_le (pc := 15) (tgt := 87) dX10_joins_15 (by decide) (fun _ => ?_) (fun c15 => absurd (by rw [h60, hO.1]; exact nI_le (by simp) (by omega)) c15)
      refine Ex.vret (pc := 87) rfl dX10_joins_87 (Nat.le_refl _) (Nat.le_refl _) ?_
      exact fin0
    · rw [List.concat_eq_append] at e
      have hx := hω x ω1 e
      rw [e] at hO hol
      obtain ⟨p1, p2, p3⟩ := hO.pop
      have hl : (ω1 ++ [x]).length = ω1.length + 1 := by simp
      rw [hl] at hol
      have hm : I 36 43 = nI (β + ω1.length + 1) := by rw [hO.1, hl]; rfl
      have hm1 : nI (β + ω1.length + 1) - 1 = nI (β + ω1.length) := by rw [show (1 : Int32) = nI 1 from rfl]; exact pk_sub (by omega)
      refine Ex.aload_n (pc := 0) dX10_joins_0 rfl rfl ?_
      refine Ex.getI (pc := 1) dX10_joins_1 fX10_143 (sh36 _) ?_
      refine Ex.aload_n (pc := 4) dX10_joins_4 rfl rfl ?_
      refine Ex.getR (pc := 5) dX10_joins_5 fX10_131 (sh36 _) r36_39 ?_
      refine Ex.aload_n (pc := 8) dX10_joins_8 rfl rfl ?_
      refine Ex.getI (pc := 9) dX10_joins_9 fX10_134 (sh36 _) ?_
      refine Ex.iconst (pc := 12) (v := 1) dX10_joins_12 rfl ?_
      refine Ex.isub (pc := 13) dX10_joins_13 ?_
      refine Ex.iald (pc := 14) (j := d) dX10_joins_14 (sh60 _) (by rw [h40, hd1]; exact vp_in_nI hd (by decide)) (by rw [h40, hd1]; exact nI_clamp (by omega)) ?_
      refine Ex.icmp_le (pc := 15) (tgt := 87) dX10_joins_15 (by decide) (fun c15 => absurd c15 (by rw [h60, hm]; exact nI_ge (by omega) (by omega))) (fun _ => ?_)
      refine Ex.aload_n (pc := 18) dX10_joins_18 rfl rfl ?_
      refine Ex.getR (pc := 19) dX10_joins_19 fX10_140 (sh36 _) r36_42 ?_
      refine Ex.aload_n (pc := 22) dX10_joins_22 rfl rfl ?_
      refine Ex.getI (pc := 23) dX10_joins_23 fX10_143 (sh36 _) ?_
      refine Ex.iconst (pc := 26) (v := 1) dX10_joins_26 rfl ?_
      refine Ex.isub (pc := 27) dX10_joins_27 ?_
      refine Ex.iald (pc := 28) (j := β + ω1.length) dX10_joins_28 (sh61 _) (by rw [hm, hm1]; exact vp_in_nI (by omega) (by decide)) (by rw [hm, hm1]; exact nI_clamp (by omega)) ?_
      refine Ex.callS (pc := 29) (As := [.int _]) (rest := []) dX10_joins_29 cX10_316 (tm_rank) rfl rfl (by decide) (Nat.le_refl _) (Nat.le_refl _) (Nat.le_of_ble_eq_true rfl) (Or.inl (fun r S' h => by obtain ⟨_, h⟩ := h; subst h; rfl)) (fun r S' hq _ _ => ?_)
      obtain ⟨rfl, rfl⟩ := hq
      refine Ex.iload_n (pc := 32) dX10_joins_32 rfl rfl ?_
      refine Ex.icmp_lt (pc := 33) (tgt := 87) dX10_joins_33 (by decide) (fun _ => ?_) (fun c33 => absurd (by rw [p1, rk_s x (by omega) p2]; exact nI_lt hx (by omega)) c33)
      refine Ex.vret (pc := 87) rfl dX10_joins_87 (Nat.le_refl _) (Nat.le_refl _) ?_
      exact fin0
  | succ z ih =>
    intro δ c I hz h33 h40 h60 hO hC hcl hol hδ h41 ho
    rcases List.eq_nil_or_concat δ with e | ⟨δ1, x, e⟩
    · rw [e] at hz; cases hz
    rw [List.concat_eq_append] at e
    subst e
    have hd1 : nI (d + 1) - 1 = nI d := by rw [show (1 : Int32) = nI 1 from rfl]; exact pk_sub (by omega)
    rw [← List.append_assoc] at hO hol
    obtain ⟨p1, p2, p3⟩ := hO.pop
    have hl : ((ω ++ δ1) ++ [x]).length = (ω ++ δ1).length + 1 := by rw [List.length_append, List.length_singleton]
    have hl1 : (δ1 ++ [x]).length = δ1.length + 1 := by simp
    rw [hl] at hol
    rw [hl1] at hcl hz
    have hm : I 36 43 = nI (β + (ω ++ δ1).length + 1) := by rw [hO.1, hl]; rfl
    have hm1 : nI (β + (ω ++ δ1).length + 1) - 1 = nI (β + (ω ++ δ1).length) := by rw [show (1 : Int32) = nI 1 from rfl]; exact pk_sub (by omega)
    have hx := hδ x (by simp)
    rw [cd14_c] at h41 ho
    have hrk : rkC x ≤ 6 := by unfold rkC; (repeat' split) <;> omega
    obtain ⟨K, hK⟩ : ∃ K, K = mf I 43 (nI (β + (ω ++ δ1).length)) := ⟨_, rfl⟩
    have kf : ∀ j, j ≠ 43 → K 36 j = I 36 j := fun j h => by rw [hK, mf_n h]
    have ko : ∀ a, a ≠ 36 → K a = I a := fun a h => by rw [hK, mf_o h]
    have k43 : K 36 43 = nI (β + (ω ++ δ1).length) := by rw [hK, mf_s]
    have kC : CdM K b c := ⟨by rw [kf 32 (by decide)]; exact hC.1, fun j s q => by rw [ko 51 (by decide), ko 52 (by decide)]; exact hC.2 j s q⟩
    have kx : K 61 (β + (ω ++ δ1).length) = nI (sN x) := by rw [ko 61 (by decide)]; exact p1
    obtain ⟨M, hM⟩ : ∃ M, M = adM2 K b c.length (nI (sN x)) 0 := ⟨_, rfl⟩
    have mo : ∀ a, a ≠ 36 → a ≠ 51 → a ≠ 52 → M a = I a := fun a h1 h2 h3 => by rw [hM, ad_o h1 h2 h3, ko a h1]
    have mj : ∀ j, j ≠ 32 → j ≠ 43 → M 36 j = I 36 j := fun j h1 h2 => by rw [hM, ad_f h1, kf j h2]
    have m43 : M 36 43 = nI (β + (ω ++ δ1).length) := by rw [hM, ad_f (by decide)]; exact k43
    have mx : M 61 (β + (ω ++ δ1).length) = nI (sN x) := by rw [mo 61 (by decide) (by decide) (by decide)]; exact p1
    have mC : CdM M b (c ++ [(x, 0)]) := by rw [hM]; exact kC.add (Or.inr (Or.inr (Or.inr ⟨p2, by omega, rfl⟩)))
    have mS : JF b I M := by
      refine ⟨fun a h => ?_, fun j h => mj j (fun e => h (by rw [e]; decide)) (fun e => h (by rw [e]; decide)), fun j h => by rw [hM, ad_51 (by omega), ad_52 (by omega), ko 51 (by decide), ko 52 (by decide)]; exact ⟨rfl, rfl⟩⟩
      exact mo a (fun e => h (by rw [e]; decide)) (fun e => h (by rw [e]; decide)) (fun e => h (by rw [e]; decide))
    have go : ∀ M2 : aI, JF b I M2 → OpM M2 β (ω ++ δ1) → CdM M2 b (c ++ [(x, 0)]) → M2 36 41 = nI (o + cd14 δ1) → Ex 2 0 0 mX10_joins 0 0 0 [some (.ref 36), some (.int (nI k))] [] (St N M2 L) (RP none N L (fun I2 => JF b I I2 ∧ OpM I2 β ω ∧ CdM I2 b (c ++ (δ1 ++ [x]).reverse.map (fun x => (x, 0))) ∧ I2 36 41 = nI o)) := by
      intro M2 hS hO2 hC2 h412
      refine Ex.imp (ih δ1 (c ++ [(x, 0)]) M2 (by omega) (by rw [hS.2.1 33 (by decide)]; exact h33) (by rw [hS.2.1 40 (by decide)]; exact h40) (by rw [hS.1 60 (by decide)]; exact h60) hO2 hC2 (by rw [List.length_append, List.length_singleton]; omega) (by omega) (fun y hy => hδ y (by simp [hy])) h412 (by omega)) ?_
      rintro r S' ⟨I2, e1, e2, f1, f2, f3, f4⟩
      refine ⟨I2, e1, e2, hS.tr f1, f2, ?_, f4⟩
      rw [List.reverse_append, List.map_append, ← List.append_assoc]
      exact f3
    have mO : OpM M β (ω ++ δ1) := ⟨m43, fun i y hy => by
      have hi := (List.getElem?_eq_some_iff.mp hy).1
      rw [mo 61 (by decide) (by decide) (by decide)]
      exact hO.2 i y (by rw [List.getElem?_append_left hi]; exact hy)⟩
    refine Ex.aload_n (pc := 0) dX10_joins_0 rfl rfl ?_
    refine Ex.getI (pc := 1) dX10_joins_1 fX10_143 (sh36 _) ?_
    refine Ex.aload_n (pc := 4) dX10_joins_4 rfl rfl ?_
    refine Ex.getR (pc := 5) dX10_joins_5 fX10_131 (sh36 _) r36_39 ?_
    refine Ex.aload_n (pc := 8) dX10_joins_8 rfl rfl ?_
    refine Ex.getI (pc := 9) dX10_joins_9 fX10_134 (sh36 _) ?_
    refine Ex.iconst (pc := 12) (v := 1) dX10_joins_12 rfl ?_
    refine Ex.isub (pc := 13) dX10_joins_13 ?_
    refine Ex.iald (pc := 14) (j := d) dX10_joins_14 (sh60 _) (by rw [h40, hd1]; exact vp_in_nI hd (by decide)) (by rw [h40, hd1]; exact nI_clamp (by omega)) ?_
    refine Ex.icmp_le (pc := 15) (tgt := 87) dX10_joins_15 (by decide) (fun c15 => absurd c15 (by rw [h60, hm]; exact nI_ge (by omega) (by omega))) (fun _ => ?_)
    refine Ex.aload_n (pc := 18) dX10_joins_18 rfl rfl ?_
    refine Ex.getR (pc := 19) dX10_joins_19 fX10_140 (sh36 _) r36_42 ?_
    refine Ex.aload_n (pc := 22) dX10_joins_22 rfl rfl ?_
    refine Ex.getI (pc := 23) dX10_joins_23 fX10_143 (sh36 _) ?_
    refine Ex.iconst (pc := 26) (v := 1) dX10_joins_26 rfl ?_
    refine Ex.isub (pc := 27) dX10_joins_27 ?_
    refine Ex.iald (pc := 28) (j := β + (ω ++ δ1).length) dX10_joins_28 (sh61 _) (by rw [hm, hm1]; exact vp_in_nI (by omega) (by decide)) (by rw [hm, hm1]; exact nI_clamp (by omega)) ?_
    refine Ex.callS (pc := 29) (As := [.int _]) (rest := []) dX10_joins_29 cX10_316 (tm_rank) rfl rfl (by decide) (Nat.le_refl _) (Nat.le_refl _) (Nat.le_of_ble_eq_true rfl) (Or.inl (fun r S' h => by obtain ⟨_, h⟩ := h; subst h; rfl)) (fun r S' hq _ _ => ?_)
    obtain ⟨rfl, rfl⟩ := hq
    refine Ex.iload_n (pc := 32) dX10_joins_32 rfl rfl ?_
    refine Ex.icmp_lt (pc := 33) (tgt := 87) dX10_joins_33 (by decide) (fun c33 => absurd c33 (by rw [p1, rk_s x (by omega) p2]; exact nI_nlt hx (by omega))) (fun _ => ?_)
    refine Ex.aload_n (pc := 36) dX10_joins_36 rfl rfl ?_
    refine Ex.dup (pc := 37) dX10_joins_37 rfl ?_
    refine Ex.getI (pc := 38) dX10_joins_38 fX10_143 (sh36 _) ?_
    refine Ex.iconst (pc := 41) (v := 1) dX10_joins_41 rfl ?_
    refine Ex.isub (pc := 42) dX10_joins_42 ?_
    refine Ex.putI (pc := 43) dX10_joins_43 fX10_143 (sh36 _) (Or.inl rfl) ⟨rfl, rfl⟩ ?_
    refine Ex.mm (S' := St N K L) ?_ ?_
    · rw [hK, hm, hm1]; rfl
    refine Ex.aload_n (pc := 46) dX10_joins_46 rfl rfl ?_
    refine Ex.aload_n (pc := 47) dX10_joins_47 rfl rfl ?_
    refine Ex.getR (pc := 48) dX10_joins_48 fX10_140 (sh36 _) r36_42 ?_
    refine Ex.aload_n (pc := 51) dX10_joins_51 rfl rfl ?_
    refine Ex.getI (pc := 52) dX10_joins_52 fX10_143 (sh36 _) ?_
    refine Ex.iald (pc := 55) (j := β + (ω ++ δ1).length) dX10_joins_55 (sh61 _) (by rw [k43]; exact vp_in_nI (by omega) (by decide)) (by rw [k43]; exact nI_clamp (by omega)) ?_
    rw [kx]
    refine Ex.iconst (pc := 56) (v := 0) dX10_joins_56 rfl ?_
    refine Ex.callV (pc := 57) (As := [.int _, .int 0]) (rest := []) dX10_joins_57 cX10_319 (tm_add (c := c.length) hb (by omega) (by rw [kf 33 (by decide)]; exact h33) kC.1) (sh36 _) rfl rfl (by decide) (Nat.le_refl _) (Nat.le_refl _) (Nat.le_of_ble_eq_true rfl) (Or.inl (fun r S' h => by obtain ⟨_, h⟩ := h; subst h; rfl)) (fun r S' hq _ _ => ?_)
    obtain ⟨rfl, rfl⟩ := hq
    rw [← hM]
    refine Ex.aload_n (pc := 60) dX10_joins_60 rfl rfl ?_
    refine Ex.getR (pc := 61) dX10_joins_61 fX10_140 (sh36 _) r36_42 ?_
    refine Ex.aload_n (pc := 64) dX10_joins_64 rfl rfl ?_
    refine Ex.getI (pc := 65) dX10_joins_65 fX10_143 (sh36 _) ?_
    refine Ex.iald (pc := 68) (j := β + (ω ++ δ1).length) dX10_joins_68 (sh61 _) (by rw [m43]; exact vp_in_nI (by omega) (by decide)) (by rw [m43]; exact nI_clamp (by omega)) ?_
    refine Ex.bipush (pc := 69) (v := 43) dX10_joins_69 rfl ?_
    refine Ex.icmp_ne (pc := 71) (tgt := 0) dX10_joins_71 (by decide) (fun c71 => ?_) (fun c71 => ?_)
    · skip
      have hx14 : ¬ x = 14 := fun e => c71 (by rw [mx, e]; rfl)
      rw [if_neg hx14] at h41
      exact go M mS mO mC (by rw [mj 41 (by decide) (by decide)]; exact h41)
    · skip
      refine Ex.aload_n (pc := 74) dX10_joins_74 rfl rfl ?_
      refine Ex.dup (pc := 75) dX10_joins_75 rfl ?_
      refine Ex.getI (pc := 76) dX10_joins_76 fX10_137 (sh36 _) ?_
      refine Ex.iconst (pc := 79) (v := 1) dX10_joins_79 rfl ?_
      refine Ex.isub (pc := 80) dX10_joins_80 ?_
      refine Ex.putI (pc := 81) dX10_joins_81 fX10_137 (sh36 _) (Or.inl rfl) ⟨rfl, rfl⟩ ?_
      refine Ex.goto (pc := 84) (tgt := 0) dX10_joins_84 (by decide) ?_
      have hx14 : x = 14 := by
        rw [mx] at c71
        have : ∀ x, x < 15 → 2 ≤ x → nI (sN x) = 43 → x = 14 := by decide +kernel
        exact this x (by omega) p2 c71
      rw [if_pos hx14] at h41
      have e41 : M 36 41 - 1 = nI (o + cd14 δ1) := by rw [mj 41 (by decide) (by decide), h41, show (1 : Int32) = nI 1 from rfl, pk_sub (by omega)]; congr 1
      rw [e41]
      refine go (mf M 41 (nI (o + cd14 δ1))) ⟨mS.1.tr mf_S (fun _ q => q) (by decide), fun j hj => by rw [mf_n (fun e => hj (by rw [e]; decide))]; exact mS.2.1 j hj, fun j hj => by rw [mf_o (by decide), mf_o (by decide)]; exact mS.2.2 j hj⟩ ⟨by rw [mf_n (by decide)]; exact mO.1, fun i y hy => by rw [mf_o (by decide)]; exact mO.2 i y hy⟩ ⟨by rw [mf_n (by decide)]; exact mC.1, fun j s hs => by rw [mf_o (by decide), mf_o (by decide)]; exact mC.2 j s hs⟩ mf_s
