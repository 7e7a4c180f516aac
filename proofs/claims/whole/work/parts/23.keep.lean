/-- the ring of what can be undone: rows of 15, the latest first -/
def ActsR (I : aI) (nx : Nat) (us : List (Nat → Int32)) : Prop := I 19 2 = nI nx ∧ nx < 20 ∧ I 19 1 = nI us.length ∧ us.length ≤ 20 ∧ ∀ (k : Nat) (u : Nat → Int32), us[k]? = some u → ∀ j, j < 15 → I 20 ((nx + 19 - k) % 20 * 15 + j) = u j
theorem ActsR.sm {I I2 : aI} {nx : Nat} {us : List (Nat → Int32)} {l : List Nat} (h : ActsR I nx us) (hS : Sm l I I2) (h1 : 19 ∉ l) (h2 : 20 ∉ l) : ActsR I2 nx us := by
  unfold ActsR
  rw [hS 19 h1, hS 20 h2]
  exact h
theorem ActsR.put {I I2 : aI} {nx : Nat} {us : List (Nat → Int32)} {u0 : Nat → Int32} (h : ActsR I nx us) (e2 : I2 19 2 = nI ((nx + 1) % 20)) (e1 : I2 19 1 = nI (if us.length < 20 then us.length + 1 else 20)) (er : ∀ j, j < 15 → I2 20 (nx * 15 + j) = u0 j) (eo : ∀ i, (i < nx * 15 ∨ nx * 15 + 15 ≤ i) → I2 20 i = I 20 i) : ActsR I2 ((nx + 1) % 20) ((u0 :: us).take 20) := by
  obtain ⟨a1, a2, a3, a4, a5⟩ := h
  refine ⟨e2, by omega, ?_, by simp [List.length_take]; omega, ?_⟩
  · rw [e1]
    congr 1
    simp only [List.length_take, List.length_cons]
    split <;> omega
  · intro k u hk j hj
    have hk20 : k < 20 := by
      have := (List.getElem?_eq_some_iff.mp hk).1
      simp [List.length_take] at this
      omega
    rw [List.getElem?_take_of_lt hk20] at hk
    cases k with
    | zero =>
      simp at hk
      subst hk
      rw [show ((nx + 1) % 20 + 19 - 0) % 20 = nx by omega]
      exact er j hj
    | succ k =>
      have hk : us[k]? = some u := by simpa using hk
      have hkl := (List.getElem?_eq_some_iff.mp hk).1
      have e : ((nx + 1) % 20 + 19 - (k + 1)) % 20 = (nx + 19 - k) % 20 := by omega
      rw [e, eo _ ?_]
      · exact a5 k u hk j hj
      · have : (nx + 19 - k) % 20 ≠ nx := by omega
        rcases Nat.lt_or_gt_of_ne this with q | q
        · exact Or.inl (by omega)
        · exact Or.inr (by omega)

set_option maxRecDepth 20000 in
theorem t_beginAct {N : Nat} {I : aI} {L : aL} {nx : Nat} {us : List (Nat → Int32)} (ha : ActsR I nx us) : Run 2 0 0 mX9_beginAct [.ref 0] (St N I L) (RP none N L (fun I2 => Sm [19, 20, 26, 30] I I2 ∧ ActsR I2 ((nx + 1) % 20) ((snap I 10 :: us).take 20) ∧ I2 26 = upd (I 26) 0 0 ∧ I2 30 = upd (I 30) 0 (-1))) := by
  refine Run.of (ls := [some (.ref 0)]) (by decide) (Nat.le_of_ble_eq_true rfl) rfl ?_
  refine Ex.aload_n (pc := 0) dX9_beginAct_0 rfl rfl ?_
  refine Ex.getR (pc := 1) dX9_beginAct_1 fX9_54 (sh0 _) r0_8 ?_
  refine Ex.aload_n (pc := 4) dX9_beginAct_4 rfl rfl ?_
  refine Ex.getR (pc := 5) dX9_beginAct_5 fX9_35 (sh0 _) r0_5 ?_
  refine Ex.callV (pc := 8) (As := [.ref 10]) (rest := []) dX9_beginAct_8 cX9_311 (t_remember (nx := nx) (ct := us.length) ha.1 ha.2.1 ha.2.2.1 ha.2.2.2.1) (sh19 _) rfl rfl (by decide) (Nat.le_refl _) (Nat.le_refl _) (Nat.le_of_ble_eq_true rfl) (Or.inl (fun r S' h => by obtain ⟨_, _, h, _⟩ := h; subst h; rfl)) (fun r S' hq _ _ => ?_)
  obtain ⟨I3, rfl, rfl, hS3, e2, e1, er, eo⟩ := hq
  refine Ex.aload_n (pc := 11) dX9_beginAct_11 rfl rfl ?_
  refine Ex.callV (pc := 12) (As := []) (rest := []) dX9_beginAct_12 cX9_138 t_forgetAnswers (sh0 _) rfl rfl (by decide) (Nat.le_refl _) (Nat.le_refl _) (Nat.le_of_ble_eq_true rfl) (Or.inl (fun r S' h => by obtain ⟨_, h⟩ := h; subst h; rfl)) (fun r S' hq _ _ => ?_)
  obtain ⟨rfl, rfl⟩ := hq
  refine Ex.vret (pc := 15) rfl dX9_beginAct_15 (Nat.le_refl _) (Nat.le_refl _) ?_
  refine ⟨_, rfl, rfl, ?_, ?_, ?_, ?_⟩
  · unfold forgI; exact ((hS3.tr Sm.rf (l2 := []) (by decide) (by decide)).up (by decide)).up (by decide)
  · refine (ha.put e2 e1 er eo).sm (l := [26, 30]) ?_ (by decide) (by decide)
    unfold forgI; exact (Sm.rf.up (by decide)).up (by decide)
  · unfold forgI; rw [va_up_n (by decide), va_up_s, hS3 26 (by decide)]
  · unfold forgI; rw [va_up_s, hS3 30 (by decide)]
/-- a sermon kept: week, board, stain, what came out -/
abbrev aRow : Type := Int32 × Int32 × Int32 × Int32
def pkR (r : aRow) : Int32 := r.1 <<< (16 &&& 31) ||| r.2.1 <<< (12 &&& 31) ||| r.2.2.1 <<< (8 &&& 31) ||| r.2.2.2
/-- the ring of sermons holds those from lo on -/
def KeptR (I : aI) (lo : Nat) (ks : List aRow) : Prop := I 10 3 = nI ks.length ∧ ks.length < 2 ^ 29 ∧ ks.length ≤ lo + 840 ∧ ∀ (i : Nat) (r : aRow), lo ≤ i → ks[i]? = some r → I 22 (i % 840) = pkR r
def keepK (ks : List aRow) (w : Int32) (came : Int32) : Option (Nat × Nat) → List aRow
  | none => ks
  | some (b, s) => ks ++ [(w, nI b, nI s, came)]
theorem serX_lt {p : aP} {f5 f6 : Nat → Int32} {nb ns : Nat} {dr : Bool} {x : aX} {b s : Nat} (h : serX p f5 f6 nb ns dr x = some (b, s)) : b < nb ∧ s < ns := by
  simp only [serX] at h
  split at h
  · cases h
  · split at h
    · cases h
    · next s' hs =>
      split at h
      · cases h
      · next hnb =>
        injection h with h
        injection h with h1 h2
        subst h2
        refine ⟨?_, dpF_lt _ _ _ hs⟩
        rw [← h1]
        exact pkF_lt _ _ (by omega)
theorem mod_ne {a b : Nat} (h1 : a < b) (h2 : b < a + 840) : a % 840 ≠ b % 840 := by omega

set_option maxRecDepth 20000 in
theorem t_keep {N : Nat} {I : aI} {L : aL} {w : Int32} {n : Nat} (hn : I 10 3 = nI n) (hb : n < 2 ^ 30) : Run 1 0 0 mX9_keep [.ref 0, .int w] (St N I L) (RV (St N (va_up (va_up I 22 (upd (I 22) (n % 840) (pkR (w, I 16 3, I 16 4, I 16 8)))) 10 (upd (I 10) 3 (nI (n + 1)))) L)) := by
  refine Run.of (ls := [some (.ref 0), some (.int _)]) (by decide) (Nat.le_of_ble_eq_true rfl) rfl ?_
  refine Ex.aload_n (pc := 0) dX9_keep_0 rfl rfl ?_
  refine Ex.getR (pc := 1) dX9_keep_1 fX9_61 (sh0 _) r0_9 ?_
  refine Ex.aload_n (pc := 4) dX9_keep_4 rfl rfl ?_
  refine Ex.getR (pc := 5) dX9_keep_5 fX9_35 (sh0 _) r0_5 ?_
  refine Ex.getI (pc := 8) dX9_keep_8 fX9_168 (sh10 _) ?_
  rw [hn]
  refine Ex.iload_n (pc := 11) dX9_keep_11 rfl rfl ?_
  refine Ex.aload_n (pc := 12) dX9_keep_12 rfl rfl ?_
  refine Ex.getR (pc := 13) dX9_keep_13 fX9_47 (sh0 _) r0_7 ?_
  refine Ex.callV (pc := 16) (As := [.int _, .int _, .ref 16]) (rest := []) dX9_keep_16 cX9_315 (t_kput (n := n) hb) (sh21 _) rfl rfl (by decide) (Nat.le_refl _) (Nat.le_refl _) (Nat.le_of_ble_eq_true rfl) (Or.inl (fun r S' h => by obtain ⟨_, h⟩ := h; subst h; rfl)) (fun r S' hq _ _ => ?_)
  obtain ⟨rfl, rfl⟩ := hq
  refine Ex.aload_n (pc := 19) dX9_keep_19 rfl rfl ?_
  refine Ex.getR (pc := 20) dX9_keep_20 fX9_35 (sh0 _) r0_5 ?_
  refine Ex.dup (pc := 23) dX9_keep_23 rfl ?_
  refine Ex.getI (pc := 24) dX9_keep_24 fX9_168 (sh10 _) ?_
  refine Ex.iconst (pc := 27) (v := 1) dX9_keep_27 rfl ?_
  refine Ex.iadd (pc := 28) dX9_keep_28 ?_
  refine Ex.putI (pc := 29) dX9_keep_29 fX9_168 (sh10 _) (Or.inl rfl) ⟨rfl, rfl⟩ ?_
  refine Ex.vret (pc := 32) rfl dX9_keep_32 (Nat.le_refl _) (Nat.le_refl _) ?_
  refine ⟨rfl, ?_⟩
  rw [va_up_n (show (10 : Nat) ≠ 22 by decide), hn, show nI n + 1 = nI (n + 1) from nI_1 n]
  rfl
set_option maxRecDepth 20000 in
theorem t_keepWeek {N : Nat} {I : aI} {L : aL} {p : aP} {nb ns nh lo : Nat} {ks : List aRow} {dr : Bool} (hp : PlanG N I p) (hc : CntOk I nb ns nh) (hk : KeptR I lo ks) (hlo : ks.length < lo + 840) (hl2 : ks.length < 2 ^ 28) : Run 6 0 0 mX9_keepWeek [.ref 0, .int (bI dr)] (St N I L) (RP none N L (fun I2 => Sm [10, 11, 12, 16, 17, 18, 22] I I2 ∧ xOf I2 10 = weekX p (I 5) (I 6) nb ns nh dr (xOf I 10) ∧ KeptR I2 lo (keepK ks (I 10 0) (cameX p (I 5) (I 6) (xOf I 10) (serX p (I 5) (I 6) nb ns dr (xOf I 10))) (serX p (I 5) (I 6) nb ns dr (xOf I 10))) ∧ I2 16 8 = cameX p (I 5) (I 6) (xOf I 10) (serX p (I 5) (I 6) nb ns dr (xOf I 10)))) := by
  refine Run.of (ls := [some (.ref 0), some (.int _), none]) (by decide) (Nat.le_of_ble_eq_true rfl) rfl ?_
  refine Ex.aload_n (pc := 0) dX9_keepWeek_0 rfl rfl ?_
  refine Ex.getR (pc := 1) dX9_keepWeek_1 fX9_35 (sh0 _) r0_5 ?_
  refine Ex.getI (pc := 4) dX9_keepWeek_4 fX9_147 (sh10 _) ?_
  refine Ex.istore_n (pc := 7) (ls' := [some (.ref 0), some (.int _), some (.int _)]) dX9_keepWeek_7 rfl (by decide) rfl rfl ?_
  refine Ex.aload_n (pc := 8) dX9_keepWeek_8 rfl rfl ?_
  refine Ex.getR (pc := 9) dX9_keepWeek_9 fX9_47 (sh0 _) r0_7 ?_
  refine Ex.aload_n (pc := 12) dX9_keepWeek_12 rfl rfl ?_
  refine Ex.getR (pc := 13) dX9_keepWeek_13 fX9_35 (sh0 _) r0_5 ?_
  refine Ex.iload_n (pc := 16) dX9_keepWeek_16 rfl rfl ?_
  refine Ex.callV (pc := 17) (As := [.ref 10, .int _]) (rest := []) dX9_keepWeek_17 cX9_258 (t_passWeek10 (p := p) (nb := nb) (ns := ns) (nh := nh) (dr := dr) hp hc) (sh16 _) rfl rfl (by decide) (Nat.le_refl _) (Nat.le_refl _) (Nat.le_of_ble_eq_true rfl) (Or.inl (fun r S' h => by obtain ⟨_, _, h, _⟩ := h; subst h; rfl)) (fun r S' hq _ _ => ?_)
  obtain ⟨I3, rfl, rfl, hS3, hx3, h33, hb3, hs3, hc3⟩ := hq
  generalize hse : serX p (I 5) (I 6) nb ns dr (xOf I 10) = se at *
  have hn3 : I3 10 3 = nI ks.length := by rw [h33]; exact hk.1
  refine Ex.aload_n (pc := 20) dX9_keepWeek_20 rfl rfl ?_
  refine Ex.getR (pc := 21) dX9_keepWeek_21 fX9_47 (sh0 _) r0_7 ?_
  refine Ex.getI (pc := 24) dX9_keepWeek_24 fX9_314 (sh16 _) ?_
  refine Ex.iconst (pc := 27) (v := (-1)) dX9_keepWeek_27 rfl ?_
  refine Ex.icmp_eq (pc := 28) (tgt := 36) dX9_keepWeek_28 (by decide) (fun c28 => ?_) (fun c28 => ?_)
  · skip
    refine Ex.vret (pc := 36) rfl dX9_keepWeek_36 (Nat.le_refl _) (Nat.le_refl _) ?_
    have hse0 : se = none := by
      cases se with
      | none => rfl
      | some q =>
        exfalso
        rw [hb3] at c28
        have := congrArg Int32.toInt c28
        obtain ⟨b, s⟩ := q
        have hb : b < 5 := by have h1 := (serX_lt hse).1; have h2 := hc.2.1; omega
        rw [show serB (some (b, s)) = nI b from rfl, nI_toInt (by omega)] at this
        exact absurd this (by show ¬ (b : Int) = -1; omega)
    refine ⟨_, rfl, rfl, hS3.tr Sm.rf (l2 := []) (by decide) (by decide), hx3, ?_, hc3⟩
    rw [hse0]
    exact ⟨hn3, hk.2.1, hk.2.2.1, fun i r h1 h2 => by rw [hS3 22 (by decide)]; exact hk.2.2.2 i r h1 h2⟩
  · skip
    refine Ex.aload_n (pc := 31) dX9_keepWeek_31 rfl rfl ?_
    refine Ex.iload_n (pc := 32) dX9_keepWeek_32 rfl rfl ?_
    refine Ex.callV (pc := 33) (As := [.int _]) (rest := []) dX9_keepWeek_33 cX9_299 (t_keep (n := ks.length) hn3 (by omega)) (sh0 _) rfl rfl (by decide) (Nat.le_refl _) (Nat.le_refl _) (Nat.le_of_ble_eq_true rfl) (Or.inl (fun r S' h => by obtain ⟨_, h⟩ := h; subst h; rfl)) (fun r S' hq _ _ => ?_)
    obtain ⟨rfl, rfl⟩ := hq
    refine Ex.vret (pc := 36) rfl dX9_keepWeek_36 (Nat.le_refl _) (Nat.le_refl _) ?_
    obtain ⟨⟨b, s⟩, hse0⟩ : ∃ q, se = some q := by
      cases se with
      | none => exact absurd (by rw [hb3]; rfl) c28
      | some q => exact ⟨q, rfl⟩
    rw [hse0] at hb3 hs3 hc3 ⊢
    refine ⟨_, rfl, rfl, ?_, ?_, ?_, ?_⟩
    · exact ((hS3.tr Sm.rf (l2 := []) (by decide) (by decide)).up (by decide)).up (by decide)
    · rw [← hx3]; simp only [xOf, va_up_s, va_up_n (show (11 : Nat) ≠ 10 by decide), va_up_n (show (12 : Nat) ≠ 10 by decide), va_up_n (show (11 : Nat) ≠ 22 by decide), va_up_n (show (12 : Nat) ≠ 22 by decide), upd_n (show (0 : Nat) ≠ 3 by decide), upd_n (show (1 : Nat) ≠ 3 by decide), upd_n (show (2 : Nat) ≠ 3 by decide)]
    · simp only [keepK]
      refine ⟨?_, ?_, ?_, ?_⟩
      · rw [va_up_s, upd_s]; simp
      · simp; omega
      · simp; omega
      · intro i r h1 h2
        rw [va_up_n (by decide), va_up_s]
        by_cases e : i = ks.length
        · subst e
          rw [upd_s]
          simp at h2
          rw [← h2, hb3, hs3, hc3]; rfl
        · have hi : i < ks.length := by have := (List.getElem?_eq_some_iff.mp h2).1; simp at this; omega
          rw [upd_n (mod_ne hi (by omega)), hS3 22 (by decide)]
          rw [List.getElem?_append_left hi] at h2
          exact hk.2.2.2 i r h1 h2
    · rw [va_up_n (by decide), va_up_n (by decide)]; exact hc3
