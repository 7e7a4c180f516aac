def CmF (b : Nat) (I : aI) (L : aL) (I2 : aI) (L2 : aL) : Prop := (∀ a, a < 36 ∨ a = 37 ∨ 68 < a → I2 a = I a) ∧ (∀ j, j ∉ [1, 2, 3, 4, 5, 6, 8, 9, 10, 11, 12, 13, 32, 33, 34, 40, 41, 43, 44, 54, 62] → I2 36 j = I 36 j) ∧ (∀ a, 38 ≤ a → a ≤ 52 → ∀ j, j < wdA a * b ∨ wdA a * b + wdA a ≤ j → I2 a j = I a j) ∧ (∀ a, a < 36 ∨ (36 < a ∧ a < 53) ∨ 55 < a → L2 a = L a) ∧ (∀ j, j ≠ 7 → L2 36 j = L 36 j) ∧ ∀ q, q < 3 → ∀ j, j < wd q * b ∨ wd q * b + wd q ≤ j → L2 (53 + q) j = L (53 + q) j
def CmE (tb : Nat → Nat) (n b : Nat) (I : aI) (L : aL) (x : Option Value) (I2 : aI) (L2 : aL) : Prop := ∃ e, (prs tb n).2.1 = .error e ∧ x = some (.int (-1)) ∧ CmF b I L I2 L2 ∧ I2 36 1 = 0 ∧ I2 36 10 = nI e.1 ∧ I2 36 11 = nI e.2 ∧ I2 36 13 = I 36 13 ∧ I2 36 54 = I 36 54 ∧ I2 36 62 = I 36 62 ∧ I2 62 = upd (I 62) 1 (I 62 1 + 1) ∧ ∀ a, 63 ≤ a → a ≤ 68 → I2 a = I a
def CmO (tb : Nat → Nat) (n b : Nat) (I : aI) (L : aL) (x : Option Value) (I2 : aI) (L2 : aL) : Prop := ∃ t c, (prs tb n).2.1 = .ok (t, c) ∧ x = some (.int (nI (prs tb n).1)) ∧ CmF b I L I2 L2 ∧ I2 36 1 = 0 ∧ I2 36 10 = 0 ∧ I2 36 11 = -1 ∧ I2 36 13 = nI b ∧ I2 36 54 = 0 ∧ I2 36 62 = 0 ∧ I2 62 = I 62 ∧ I2 63 0 = 0 ∧ I2 64 0 = I2 47 b ∧ I2 67 0 = 0 ∧ I2 68 0 = 0 ∧ (∀ k, k < 5 → I2 65 k = I2 40 (5 * b + k)) ∧ (∀ k, k < 6 → I2 66 k = I2 42 (6 * b + k)) ∧ PlM I2 L2 b (prs tb n).2.2 c.length ∧ CdM I2 b c ∧ c.length ≤ 1600
theorem prsF_e {tb : Nat → Nat} {n : Nat} (f m : Nat) (e : Nat × Nat) (pl : Pl) : prsF tb n f m (.error e) pl = (m, .error e, pl) := by cases f <;> rfl
theorem prsF_1 {tb : Nat → Nat} {n : Nat} (f m : Nat) {t : Tk} {c : Cd} (pl : Pl) (h : t.1 = 1) : prsF tb n f m (.ok (t, c)) pl = (m, .ok (t, c), pl) := by
  cases f with
  | zero => rfl
  | succ f => simp only [prsF]; rw [if_pos h]
theorem endF_80 {tb : Nat → Nat} {n m : Nat} {r : Er} {t : Tk} {c : Cd} (hm : 80 ≤ m) (h : endF tb n m r = .ok (t, c)) : t.1 = 1 := by
  rcases r with e | ⟨t1, c1⟩
  · cases h
  · unfold endF at h
    simp only at h
    split at h
    · cases h
    · rename_i q
      obtain ⟨h1, h2⟩ := tkS_ok h
      have hs : ¬ sk tb n t1.2.2.2.2 < n := fun z => q ⟨of_decide_eq_true h1, hm, z⟩
      simp only [nx] at h2
      unfold tokF tokA at h2
      rw [if_pos (by omega)] at h2
      cases h2
      rfl
set_option maxRecDepth 20000 in
theorem tm_ch131E {N n b : Nat} {tb : Nat → Nat} {I J0 : aI} {L : aL} (KE : ∀ (J : aI) (M : aL) (e : Nat × Nat) (pl : Pl) (x : Int32), Ps tb n b J0 L J M (.error e) pl → RMs tb n J M (.error e) → (prs tb n).2.1 = .error e → Ex 7 0 0 mX10_chapel 0 0 160 [some (.ref 36), some (.int x)] [] (St N J M) (RX N (fun x I2 L2 => CmE tb n b I L x I2 L2 ∨ CmO tb n b I L x I2 L2))) {J : aI} {M : aL} {e : Nat × Nat} {pl : Pl} {x : Int32} (h : Ps tb n b J0 L J M (.error e) pl) (hp : (prs tb n).2.1 = .error e) : Ex 7 0 0 mX10_chapel 0 0 131 [some (.ref 36), some (.int x)] [] (St N J M) (RX N (fun x I2 L2 => CmE tb n b I L x I2 L2 ∨ CmO tb n b I L x I2 L2)) := by
  by_cases h8 : J 36 8 = 0
  · have h3 : ¬ J 36 3 = 0 := by
      rcases (show RMe n J e ∨ (J 36 8 = 0 ∧ e.1 = 1 ∧ e.2 < n ∧ J 36 12 = nI e.2 ∧ ¬ J 36 3 = 0) from h.2.2.2.1) with q | q
      · exact absurd h8 (RMs.bad (tb := tb) (L := M) q)
      · exact q.2.2.2.2
    refine Ex.aload_n (pc := 131) dX10_chapel_131 rfl rfl ?_
    refine Ex.getI (pc := 132) dX10_chapel_132 fX10_36 (sh36 _) ?_
    refine Ex.if_ne (pc := 135) (tgt := 160) dX10_chapel_135 (by decide) (fun c135 => absurd h8 c135) (fun _ => ?_)
    refine Ex.aload_n (pc := 138) dX10_chapel_138 rfl rfl ?_
    refine Ex.getI (pc := 139) dX10_chapel_139 fX10_20 (sh36 _) ?_
    refine Ex.if_eq (pc := 142) (tgt := 160) dX10_chapel_142 (by decide) (fun c142 => absurd c142 h3) (fun _ => ?_)
    refine Ex.aload_n (pc := 145) dX10_chapel_145 rfl rfl ?_
    refine Ex.callV (pc := 146) (As := []) (rest := []) dX10_chapel_146 cX10_393 (tm_statementE h) (sh36 _) rfl rfl (by decide) (Nat.le_refl _) (Nat.le_refl _) (Nat.le_of_ble_eq_true rfl) (Or.inl (fun r S' h => by obtain ⟨_, _, h, _⟩ := h; subst h; rfl)) (fun r S' hq _ _ => ?_)
    obtain ⟨I2, L2, rfl, rfl, p2, m2⟩ := hq
    refine Ex.iinc (pc := 149) (ls' := [some (.ref 36), some (.int _)]) dX10_chapel_149 rfl rfl (by decide) rfl rfl ?_
    refine Ex.aload_n (pc := 152) dX10_chapel_152 rfl rfl ?_
    refine Ex.iload_n (pc := 153) dX10_chapel_153 rfl rfl ?_
    refine Ex.callV (pc := 154) (As := [.int _]) (rest := []) dX10_chapel_154 cX10_396 (tm_finishesE p2) (sh36 _) rfl rfl (by decide) (Nat.le_refl _) (Nat.le_refl _) (Nat.le_of_ble_eq_true rfl) (Or.inl (fun r S' h => by obtain ⟨_, _, h, _⟩ := h; subst h; rfl)) (fun r S' hq _ _ => ?_)
    obtain ⟨I3, L3, rfl, rfl, p3, m3⟩ := hq
    refine Ex.goto (pc := 157) (tgt := 131) dX10_chapel_157 (by decide) ?_
    skip
    refine Ex.aload_n (pc := 131) dX10_chapel_131 rfl rfl ?_
    refine Ex.getI (pc := 132) dX10_chapel_132 fX10_36 (sh36 _) ?_
    refine Ex.if_ne (pc := 135) (tgt := 160) dX10_chapel_135 (by decide) (fun _ => ?_) (fun c135 => absurd c135 m3.bad)
    exact KE _ _ e pl _ p3 m3 hp
  · skip
    refine Ex.aload_n (pc := 131) dX10_chapel_131 rfl rfl ?_
    refine Ex.getI (pc := 132) dX10_chapel_132 fX10_36 (sh36 _) ?_
    refine Ex.if_ne (pc := 135) (tgt := 160) dX10_chapel_135 (by decide) (fun _ => ?_) (fun c135 => absurd c135 h8)
    refine KE _ _ e pl _ h ?_ hp
    rcases (show RMe n J e ∨ (J 36 8 = 0 ∧ e.1 = 1 ∧ e.2 < n ∧ J 36 12 = nI e.2 ∧ ¬ J 36 3 = 0) from h.2.2.2.1) with q | q
    · exact q
    · exact absurd q.1 h8
set_option maxRecDepth 20000 in
theorem tm_ch131 {N n b : Nat} {tb : Nat → Nat} {I J0 : aI} {L : aL} (hb : b < 2) (KE : ∀ (J : aI) (M : aL) (e : Nat × Nat) (pl : Pl) (x : Int32), Ps tb n b J0 L J M (.error e) pl → RMs tb n J M (.error e) → (prs tb n).2.1 = .error e → Ex 7 0 0 mX10_chapel 0 0 160 [some (.ref 36), some (.int x)] [] (St N J M) (RX N (fun x I2 L2 => CmE tb n b I L x I2 L2 ∨ CmO tb n b I L x I2 L2))) (KO : ∀ (J : aI) (M : aL) (t : Tk) (c : Cd) (pl : Pl) (m : Nat), Ps tb n b J0 L J M (.ok (t, c)) pl → prs tb n = (m, .ok (t, c), pl) → Ex 7 0 0 mX10_chapel 0 0 160 [some (.ref 36), some (.int (nI m))] [] (St N J M) (RX N (fun x I2 L2 => CmE tb n b I L x I2 L2 ∨ CmO tb n b I L x I2 L2))) : ∀ (f m : Nat) (r : Er) (pl : Pl) (J : aI) (M : aL), f + m = 80 → Ps tb n b J0 L J M r pl → prsF tb n f m r pl = prs tb n → (m = 80 → ∀ t c, r = .ok (t, c) → t.1 = 1) → Ex 7 0 0 mX10_chapel 0 0 131 [some (.ref 36), some (.int (nI m))] [] (St N J M) (RX N (fun x I2 L2 => CmE tb n b I L x I2 L2 ∨ CmO tb n b I L x I2 L2)) := by
  intro f
  induction f with
  | zero =>
    intro m r pl J M hf h hp h80
    rcases r with e | ⟨t, c⟩
    · exact tm_ch131E KE h (by rw [← hp, prsF_e])
    · have h1 := h80 (by omega) t c rfl
      have hO : RMo tb n J M t := h.2.2.2.1
      have h3 : J 36 3 = 0 := (hO.k3 (k := 0) (by decide)).mpr h1
      refine Ex.aload_n (pc := 131) dX10_chapel_131 rfl rfl ?_
      refine Ex.getI (pc := 132) dX10_chapel_132 fX10_36 (sh36 _) ?_
      refine Ex.if_ne (pc := 135) (tgt := 160) dX10_chapel_135 (by decide) (fun c135 => absurd hO.1 c135) (fun _ => ?_)
      refine Ex.aload_n (pc := 138) dX10_chapel_138 rfl rfl ?_
      refine Ex.getI (pc := 139) dX10_chapel_139 fX10_20 (sh36 _) ?_
      refine Ex.if_eq (pc := 142) (tgt := 160) dX10_chapel_142 (by decide) (fun _ => ?_) (fun c142 => absurd h3 c142)
      exact KO _ _ t c pl m h (by rw [← hp, prsF_1 _ _ _ h1])
  | succ f ih =>
    intro m r pl J M hf h hp h80
    rcases r with e | ⟨t, c⟩
    · exact tm_ch131E KE h (by rw [← hp, prsF_e])
    · have hO : RMo tb n J M t := h.2.2.2.1
      by_cases h1 : t.1 = 1
      · have h3 : J 36 3 = 0 := (hO.k3 (k := 0) (by decide)).mpr h1
        refine Ex.aload_n (pc := 131) dX10_chapel_131 rfl rfl ?_
        refine Ex.getI (pc := 132) dX10_chapel_132 fX10_36 (sh36 _) ?_
        refine Ex.if_ne (pc := 135) (tgt := 160) dX10_chapel_135 (by decide) (fun c135 => absurd hO.1 c135) (fun _ => ?_)
        refine Ex.aload_n (pc := 138) dX10_chapel_138 rfl rfl ?_
        refine Ex.getI (pc := 139) dX10_chapel_139 fX10_20 (sh36 _) ?_
        refine Ex.if_eq (pc := 142) (tgt := 160) dX10_chapel_142 (by decide) (fun _ => ?_) (fun c142 => absurd h3 c142)
        exact KO _ _ t c pl m h (by rw [← hp, prsF_1 _ _ _ h1])
      · have h3 : ¬ J 36 3 = 0 := fun z => h1 ((hO.k3 (k := 0) (by decide)).mp z)
        simp only [prsF] at hp
        rw [if_neg h1, stm_eq] at hp
        simp only at hp
        refine Ex.aload_n (pc := 131) dX10_chapel_131 rfl rfl ?_
        refine Ex.getI (pc := 132) dX10_chapel_132 fX10_36 (sh36 _) ?_
        refine Ex.if_ne (pc := 135) (tgt := 160) dX10_chapel_135 (by decide) (fun c135 => absurd hO.1 c135) (fun _ => ?_)
        refine Ex.aload_n (pc := 138) dX10_chapel_138 rfl rfl ?_
        refine Ex.getI (pc := 139) dX10_chapel_139 fX10_20 (sh36 _) ?_
        refine Ex.if_eq (pc := 142) (tgt := 160) dX10_chapel_142 (by decide) (fun c142 => absurd c142 h3) (fun _ => ?_)
        refine Ex.aload_n (pc := 145) dX10_chapel_145 rfl rfl ?_
        refine Ex.callV (pc := 146) (As := []) (rest := []) dX10_chapel_146 cX10_393 (tm_statement hb h) (sh36 _) rfl rfl (by decide) (Nat.le_refl _) (Nat.le_refl _) (Nat.le_of_ble_eq_true rfl) (Or.inl (fun r S' h => by obtain ⟨_, _, h, _⟩ := h; subst h; rfl)) (fun r S' hq _ _ => ?_)
        obtain ⟨I2, L2, rfl, rfl, p2⟩ := hq
        skip
        rcases hx : (stB tb n pl t c).1 with e | ⟨t2, c2⟩
        · rw [hx] at p2 hp
          refine Ex.iinc (pc := 149) (ls' := [some (.ref 36), some (.int _)]) dX10_chapel_149 rfl rfl (by decide) rfl rfl ?_
          refine Ex.aload_n (pc := 152) dX10_chapel_152 rfl rfl ?_
          refine Ex.iload_n (pc := 153) dX10_chapel_153 rfl rfl ?_
          refine Ex.callV (pc := 154) (As := [.int _]) (rest := []) dX10_chapel_154 cX10_396 (tm_finishesE p2) (sh36 _) rfl rfl (by decide) (Nat.le_refl _) (Nat.le_refl _) (Nat.le_of_ble_eq_true rfl) (Or.inl (fun r S' h => by obtain ⟨_, _, h, _⟩ := h; subst h; rfl)) (fun r S' hq _ _ => ?_)
          obtain ⟨I3, L3, rfl, rfl, p3, m3⟩ := hq
          refine Ex.goto (pc := 157) (tgt := 131) dX10_chapel_157 (by decide) ?_
          exact tm_ch131E KE p3 (by rw [← hp, show endF tb n (m + 1) (.error e) = .error e from rfl, prsF_e])
        · rw [hx] at p2 hp
          refine Ex.iinc (pc := 149) (ls' := [some (.ref 36), some (.int _)]) dX10_chapel_149 rfl rfl (by decide) rfl rfl ?_
          rw [show nI m + Int32.ofInt 1 = nI (m + 1) from nI_1 m]
          refine Ex.aload_n (pc := 152) dX10_chapel_152 rfl rfl ?_
          refine Ex.iload_n (pc := 153) dX10_chapel_153 rfl rfl ?_
          refine Ex.callV (pc := 154) (As := [.int _]) (rest := []) dX10_chapel_154 cX10_396 (tm_finishes (m := m + 1) (by omega) p2) (sh36 _) rfl rfl (by decide) (Nat.le_refl _) (Nat.le_refl _) (Nat.le_of_ble_eq_true rfl) (Or.inl (fun r S' h => by obtain ⟨_, _, h, _⟩ := h; subst h; rfl)) (fun r S' hq _ _ => ?_)
          obtain ⟨I3, L3, rfl, rfl, p3⟩ := hq
          refine Ex.goto (pc := 157) (tgt := 131) dX10_chapel_157 (by decide) ?_
          exact ih (m + 1) _ _ I3 L3 (by omega) p3 hp (fun z t3 c3 e3 => endF_80 (by omega) e3)
set_option maxRecDepth 20000 in
theorem tm_chapel {N n bk b : Nat} {tb : Nat → Nat} {I : aI} {L : aL} (hT : TxM I tb n) (hn : n ≤ 1600) (h1 : I 36 1 = nI n) (hbk : bk < 2) (h13 : I 36 13 = nI bk) (hb1 : b = 1 - bk) : Run 7 0 0 mX10_chapel [.ref 36] (St N I L) (RX N (fun x I2 L2 => CmE tb n b I L x I2 L2 ∨ CmO tb n b I L x I2 L2)) := by
  refine Run.of (ls := [some (.ref 36), none]) (by decide) (Nat.le_of_ble_eq_true rfl) rfl ?_
  have hb : b < 2 := by omega
  have ein : (1 : Int32) - nI bk = nI b := by
    rw [hb1]
    have hz : ∀ k, k < 2 → (1 : Int32) - nI k = nI (1 - k) := by decide +kernel
    exact hz bk hbk
  obtain ⟨J1, hJ1⟩ : ∃ J, J = mf (mf (mf (mf (mf (mf I 2 (nI n)) 1 0) 5 0) 8 0) 9 (-1)) 33 (nI b) := ⟨_, rfl⟩
  have u33 : J1 36 33 = nI b := by rw [hJ1, mf_s]
  have uo : ∀ a, a ≠ 36 → J1 a = I a := fun a h => by rw [hJ1, mf_o h, mf_o h, mf_o h, mf_o h, mf_o h, mf_o h]
  have uf : ∀ j, j ∉ [1, 2, 5, 8, 9, 33] → J1 36 j = I 36 j := fun j h => by
    simp at h
    rw [hJ1, mf_n (by omega), mf_n (by omega), mf_n (by omega), mf_n (by omega), mf_n (by omega), mf_n (by omega)]
  have u2 : J1 36 2 = nI n := by rw [hJ1, mf_n (by decide), mf_n (by decide), mf_n (by decide), mf_n (by decide), mf_n (by decide), mf_s]
  have u1 : J1 36 1 = 0 := by rw [hJ1, mf_n (by decide), mf_n (by decide), mf_n (by decide), mf_n (by decide), mf_s]
  have u5 : J1 36 5 = nI 0 := by rw [hJ1, mf_n (by decide), mf_n (by decide), mf_n (by decide), mf_s]; rfl
  have u8 : J1 36 8 = 0 := by rw [hJ1, mf_n (by decide), mf_n (by decide), mf_s]
  have u9 : J1 36 9 = -1 := by rw [hJ1, mf_n (by decide), mf_s]
  refine Ex.aload_n (pc := 0) dX10_chapel_0 rfl rfl ?_
  refine Ex.aload_n (pc := 1) dX10_chapel_1 rfl rfl ?_
  refine Ex.getI (pc := 2) dX10_chapel_2 fX10_13 (sh36 _) ?_
  refine Ex.putI (pc := 5) dX10_chapel_5 fX10_17 (sh36 _) (Or.inl rfl) ⟨rfl, rfl⟩ ?_
  refine Ex.aload_n (pc := 8) dX10_chapel_8 rfl rfl ?_
  refine Ex.iconst (pc := 9) (v := 0) dX10_chapel_9 rfl ?_
  refine Ex.putI (pc := 10) dX10_chapel_10 fX10_13 (sh36 _) (Or.inl rfl) ⟨rfl, rfl⟩ ?_
  refine Ex.aload_n (pc := 13) dX10_chapel_13 rfl rfl ?_
  refine Ex.iconst (pc := 14) (v := 0) dX10_chapel_14 rfl ?_
  refine Ex.putI (pc := 15) dX10_chapel_15 fX10_26 (sh36 _) (Or.inl rfl) ⟨rfl, rfl⟩ ?_
  refine Ex.aload_n (pc := 18) dX10_chapel_18 rfl rfl ?_
  refine Ex.iconst (pc := 19) (v := 0) dX10_chapel_19 rfl ?_
  refine Ex.putI (pc := 20) dX10_chapel_20 fX10_36 (sh36 _) (Or.inl rfl) ⟨rfl, rfl⟩ ?_
  refine Ex.aload_n (pc := 23) dX10_chapel_23 rfl rfl ?_
  refine Ex.iconst (pc := 24) (v := (-1)) dX10_chapel_24 rfl ?_
  refine Ex.putI (pc := 25) dX10_chapel_25 fX10_39 (sh36 _) (Or.inl rfl) ⟨rfl, rfl⟩ ?_
  refine Ex.aload_n (pc := 28) dX10_chapel_28 rfl rfl ?_
  refine Ex.iconst (pc := 29) (v := 1) dX10_chapel_29 rfl ?_
  refine Ex.aload_n (pc := 30) dX10_chapel_30 rfl rfl ?_
  refine Ex.getI (pc := 31) dX10_chapel_31 fX10_51 (sh36 _) ?_
  refine Ex.isub (pc := 34) dX10_chapel_34 ?_
  refine Ex.putI (pc := 35) dX10_chapel_35 fX10_112 (sh36 _) (Or.inl rfl) ⟨rfl, rfl⟩ ?_
  refine Ex.mm (S' := St N J1 L) ?_ ?_
  · rw [hJ1]
    refine congrArg (fun z => St N z L) ?_
    rw [← h1, ← ein, ← h13]
    show _ = mf (mf (mf (mf (mf (mf I 2 (I 36 1)) 1 0) 5 0) 8 0) 9 (-1)) 33 (1 - I 36 13)
    have e13 : mf (mf (mf (mf (mf I 2 (I 36 1)) 1 0) 5 0) 8 0) 9 (-1) 36 13 = I 36 13 := by rw [mf_n (by decide), mf_n (by decide), mf_n (by decide), mf_n (by decide), mf_n (by decide)]
    rw [← e13]; rfl
  clear hJ1
  refine Ex.aload_n (pc := 38) dX10_chapel_38 rfl rfl ?_
  refine Ex.getR (pc := 39) dX10_chapel_39 fX10_54 (sh36 _) r36_14 ?_
  refine Ex.aload_n (pc := 42) dX10_chapel_42 rfl rfl ?_
  refine Ex.getI (pc := 43) dX10_chapel_43 fX10_112 (sh36 _) ?_
  refine Ex.iconst (pc := 46) (v := 0) dX10_chapel_46 rfl ?_
  refine Ex.iast (pc := 47) (j := b) dX10_chapel_47 (sh38 _) (by rw [u33]; exact vp_in_nI (by omega) (by decide)) (by rw [u33]; exact nI_clamp (by omega)) ?_
  refine Ex.aload_n (pc := 48) dX10_chapel_48 rfl rfl ?_
  refine Ex.getR (pc := 49) dX10_chapel_49 fX10_63 (sh36 _) r36_17 ?_
  refine Ex.aload_n (pc := 52) dX10_chapel_52 rfl rfl ?_
  refine Ex.getI (pc := 53) dX10_chapel_53 fX10_112 (sh36 _) ?_
  refine Ex.iconst (pc := 56) (v := 0) dX10_chapel_56 rfl ?_
  refine Ex.iast (pc := 57) (j := b) dX10_chapel_57 (sh41 _) (by rw [va_up_n (by decide), u33]; exact vp_in_nI (by omega) (by decide)) (by rw [va_up_n (by decide), u33]; exact nI_clamp (by omega)) ?_
  refine Ex.aload_n (pc := 58) dX10_chapel_58 rfl rfl ?_
  refine Ex.getR (pc := 59) dX10_chapel_59 fX10_72 (sh36 _) r36_20 ?_
  refine Ex.aload_n (pc := 62) dX10_chapel_62 rfl rfl ?_
  refine Ex.getI (pc := 63) dX10_chapel_63 fX10_112 (sh36 _) ?_
  refine Ex.iconst (pc := 66) (v := 0) dX10_chapel_66 rfl ?_
  refine Ex.iast (pc := 67) (j := b) dX10_chapel_67 (sh44 _) (by rw [va_up_n (by decide), va_up_n (by decide), u33]; exact vp_in_nI (by omega) (by decide)) (by rw [va_up_n (by decide), va_up_n (by decide), u33]; exact nI_clamp (by omega)) ?_
  refine Ex.aload_n (pc := 68) dX10_chapel_68 rfl rfl ?_
  refine Ex.getR (pc := 69) dX10_chapel_69 fX10_81 (sh36 _) r36_23 ?_
  refine Ex.aload_n (pc := 72) dX10_chapel_72 rfl rfl ?_
  refine Ex.getI (pc := 73) dX10_chapel_73 fX10_112 (sh36 _) ?_
  refine Ex.iconst (pc := 76) (v := 0) dX10_chapel_76 rfl ?_
  refine Ex.iast (pc := 77) (j := b) dX10_chapel_77 (sh47 _) (by rw [va_up_n (by decide), va_up_n (by decide), va_up_n (by decide), u33]; exact vp_in_nI (by omega) (by decide)) (by rw [va_up_n (by decide), va_up_n (by decide), va_up_n (by decide), u33]; exact nI_clamp (by omega)) ?_
  refine Ex.aload_n (pc := 78) dX10_chapel_78 rfl rfl ?_
  refine Ex.getR (pc := 79) dX10_chapel_79 fX10_84 (sh36 _) r36_24 ?_
  refine Ex.aload_n (pc := 82) dX10_chapel_82 rfl rfl ?_
  refine Ex.getI (pc := 83) dX10_chapel_83 fX10_112 (sh36 _) ?_
  refine Ex.iconst (pc := 86) (v := 0) dX10_chapel_86 rfl ?_
  refine Ex.iast (pc := 87) (j := b) dX10_chapel_87 (sh48 _) (by rw [va_up_n (by decide), va_up_n (by decide), va_up_n (by decide), va_up_n (by decide), u33]; exact vp_in_nI (by omega) (by decide)) (by rw [va_up_n (by decide), va_up_n (by decide), va_up_n (by decide), va_up_n (by decide), u33]; exact nI_clamp (by omega)) ?_
  obtain ⟨J2, hJ2⟩ : ∃ J, J = va_up (va_up (va_up (va_up (va_up J1 38 (upd (J1 38) b 0)) 41 (upd (J1 41) b 0)) 44 (upd (J1 44) b 0)) 47 (upd (J1 47) b 0)) 48 (upd (J1 48) b 0) := ⟨_, rfl⟩
  refine Ex.mm (S' := St N J2 L) (by rw [hJ2]; rfl) ?_
  have v36 : J2 36 = J1 36 := by rw [hJ2, va_up_n (by decide), va_up_n (by decide), va_up_n (by decide), va_up_n (by decide), va_up_n (by decide)]
  have vo : ∀ a, a ∉ [38, 41, 44, 47, 48] → J2 a = J1 a := fun a h => by
    simp at h
    rw [hJ2, va_up_n (by omega), va_up_n (by omega), va_up_n (by omega), va_up_n (by omega), va_up_n (by omega)]
  have v38 : J2 38 = upd (J1 38) b 0 := by rw [hJ2, va_up_n (by decide), va_up_n (by decide), va_up_n (by decide), va_up_n (by decide), va_up_s]
  have v41 : J2 41 = upd (J1 41) b 0 := by rw [hJ2, va_up_n (by decide), va_up_n (by decide), va_up_n (by decide), va_up_s]
  have v44 : J2 44 = upd (J1 44) b 0 := by rw [hJ2, va_up_n (by decide), va_up_n (by decide), va_up_s]
  have v47 : J2 47 = upd (J1 47) b 0 := by rw [hJ2, va_up_n (by decide), va_up_s]
  have v48 : J2 48 = upd (J1 48) b 0 := by rw [hJ2, va_up_s]
  clear hJ2
  have e5b : (5 : Int32) * nI b = nI (5 * b + 0) := by
    have hz : ∀ b, b < 2 → (5 : Int32) * nI b = nI (5 * b + 0) := by decide +kernel
    exact hz b hb
  have e5c : (5 : Int32) * nI b + 5 = nI (5 * b + 5) := by
    have hz : ∀ b, b < 2 → (5 : Int32) * nI b + 5 = nI (5 * b + 5) := by decide +kernel
    exact hz b hb
  refine Ex.iconst (pc := 88) (v := 5) dX10_chapel_88 rfl ?_
  refine Ex.aload_n (pc := 89) dX10_chapel_89 rfl rfl ?_
  refine Ex.getI (pc := 90) dX10_chapel_90 fX10_112 (sh36 _) ?_
  refine Ex.imul (pc := 93) dX10_chapel_93 ?_
  rw [show J2 36 33 = nI b by rw [v36]; exact u33, e5b]
  refine Ex.istore_n (pc := 94) (ls' := [some (.ref 36), some (.int _)]) dX10_chapel_94 rfl (by decide) rfl rfl ?_
  have K120 : ∀ J : aI, (∀ a, a ≠ 49 → J a = J2 a) → (∀ j, j < 5 * b ∨ 5 * b + 5 ≤ j → J 49 j = J2 49 j) → (∀ j, j < 5 → J 49 (5 * b + j) = -1) → Ex 7 0 0 mX10_chapel 0 0 120 [some (.ref 36), some (.int (nI (5 * b + 5)))] [] (St N J L) (RX N (fun x I2 L2 => CmE tb n b I L x I2 L2 ∨ CmO tb n b I L x I2 L2)) := by
    intro J jo jb jv
    refine Ex.aload_n (pc := 120) dX10_chapel_120 rfl rfl ?_
    refine Ex.iconst (pc := 121) (v := 0) dX10_chapel_121 rfl ?_
    refine Ex.putI (pc := 122) dX10_chapel_122 fX10_109 (sh36 _) (Or.inl rfl) ⟨rfl, rfl⟩ ?_
    refine Ex.iconst (pc := 125) (v := 0) dX10_chapel_125 rfl ?_
    refine Ex.istore_n (pc := 126) (ls' := [some (.ref 36), some (.int 0)]) dX10_chapel_126 rfl (by decide) rfl rfl ?_
    obtain ⟨J3, hJ3⟩ : ∃ K, K = mf J 32 (nI 0) := ⟨_, rfl⟩
    refine Ex.mm (S' := St N J3 L) (by rw [hJ3]; rfl) ?_
    have w36 : ∀ j, j ≠ 32 → J3 36 j = J1 36 j := fun j hj => by rw [hJ3, mf_n hj, jo 36 (by decide), v36]
    have wo : ∀ a, a ≠ 36 → J3 a = J a := fun a ha => by rw [hJ3, mf_o ha]
    have w32 : J3 36 32 = nI 0 := by rw [hJ3, mf_s]
    clear hJ3
    have bM : MB tb n J3 := ⟨fun i hi => by rw [wo 37 (by decide), jo 37 (by decide), vo 37 (by decide), uo 37 (by decide)]; exact hT i hi, by rw [w36 2 (by decide)]; exact u2, hn⟩
    have x33 : J3 36 33 = nI b := by rw [w36 33 (by decide)]; exact u33
    refine Ex.aload_n (pc := 127) dX10_chapel_127 rfl rfl ?_
    refine Ex.callV (pc := 128) (As := []) (rest := []) dX10_chapel_128 cX10_247 (tm_ahead (a := 0) bM.1 bM.2.1 hn (by rw [w36 5 (by decide)]; exact u5) (Nat.zero_le n)) (sh36 _) rfl rfl (by decide) (Nat.le_refl _) (Nat.le_refl _) (Nat.le_of_ble_eq_true rfl) (Or.inl (fun r S' h => by obtain ⟨_, _, _, h1, _⟩ := h; subst h1; rfl)) (fun r S' hq _ _ => ?_)
    obtain ⟨I4, L4, rfl, rfl, hF, hT4⟩ := hq
    have hW0 : TkW n ((1, 0, [], 0, 0) : Tk) := ⟨Nat.le_refl 1, by decide, Nat.le_refl 0, Nat.zero_le n, fun q => absurd rfl q, fun q => absurd q (by decide), fun q => absurd q (by decide), fun q => absurd q (by decide)⟩
    have hA0 : TkA tb n ((1, 0, [], 0, 0) : Tk) := ⟨fun q => absurd rfl q, fun _ => Or.inl rfl⟩
    have hadj := adj_eq hW0 hA0
    have hadj : tokA tb n 0 (sk tb n 0) (adM tb (sk tb n 0)) = tokF tb n 0 (decide (((1, 0, [], 0, 0) : Tk).1 = 2 ∨ ((1, 0, [], 0, 0) : Tk).1 = 3)) := hadj
    rw [hadj] at hT4
    have g8 : I4 36 8 = 0 := by rw [hF.2.1 8 (by decide), w36 8 (by decide)]; exact u8
    have g9 : I4 36 9 = -1 := by rw [hF.2.1 9 (by decide), w36 9 (by decide)]; exact u9
    have hr4 : RMt tb n I4 L4 (nx tb n (.ok ((1, 0, [], 0, 0), []))) := by
      simp only [nx]
      cases ht : tokF tb n 0 (decide (((1, 0, [], 0, 0) : Tk).1 = 2 ∨ ((1, 0, [], 0, 0) : Tk).1 = 3)) with
      | error p =>
        rw [ht] at hT4
        exact Or.inr ⟨g8, rfl, hT4.2.1, hT4.1, hT4.2.2⟩
      | ok t2 =>
        rw [ht] at hT4
        exact ⟨g8, hT4, (tokF_ok (fun i hi => (bM.1 i hi).1) (Nat.zero_le n) ht).1, tokF_A ht, g9⟩
    have hG := hF.g
    have hP4 : Ps tb n b J3 L I4 L4 (nx tb n (.ok ((1, 0, [], 0, 0), []))) pl0 := by
      refine ⟨hG.ob, bM.g hG, by rw [hF.2.1 33 (by decide)]; exact x33, hr4, fun t c e => ?_⟩
      have hc := nx_c e
      subst hc
      refine ⟨PlM.g (I := J3) (L := L) ⟨fun q hq => ⟨Nat.zero_le _, ?_, fun j hj => absurd hj (Nat.not_lt_zero _)⟩, fun q hq j hj => absurd hj (Nat.not_lt_zero _), ?_, ?_, fun i hi => Or.inl ⟨rfl, ?_⟩⟩ hG, ⟨by rw [hF.2.1 32 (by decide)]; exact w32, fun j s q => by simp at q⟩, Nat.zero_le _⟩
      · rw [wo 38 (by decide), wo 41 (by decide), wo 44 (by decide), jo 38 (by decide), jo 41 (by decide), jo 44 (by decide), v38, v41, v44, upd_s, upd_s, upd_s]
        (repeat' split) <;> rfl
      · rw [wo 47 (by decide), jo 47 (by decide), v47, upd_s]; rfl
      · rw [wo 48 (by decide), jo 48 (by decide), v48, upd_s]; rfl
      · rw [wo 49 (by decide)]; exact jv i hi
    have hFr : ∀ (K : aI) (M : aL), Ob b J3 L K M → (∀ a, a < 36 ∨ a = 37 ∨ 61 < a → K a = I a) ∧ (∀ j, j ∉ [1, 2, 3, 4, 5, 6, 8, 9, 12, 32, 33, 34, 40, 41, 43, 44] → K 36 j = I 36 j) ∧ (∀ a, 38 ≤ a → a ≤ 52 → ∀ j, j < wdA a * b ∨ wdA a * b + wdA a ≤ j → K a j = I a j) ∧ K 36 1 = 0 := by
      intro K M o
      refine ⟨fun a ha => ?_, fun j hj => ?_, fun a a1 a2 j hj => ?_, ?_⟩
      · rw [o.1 a ha, wo a (by omega), jo a (by omega), vo a (by simp; omega), uo a (by omega)]
      · simp at hj; rw [o.2.1 j (by simp; omega), w36 j (by omega), uf j (by simp; omega)]
      · rw [o.2.2.1 a a1 a2 j hj, wo a (by omega)]
        by_cases e49 : a = 49
        · subst e49; have hj : j < 5 * b ∨ 5 * b + 5 ≤ j := hj
          rw [jb j hj, vo 49 (by decide), uo 49 (by decide)]
        · rw [jo a e49]
          by_cases e5 : a ∈ [38, 41, 44, 47, 48]
          · have hw1 : wdA a = 1 := by simp at e5; unfold wdA; rw [if_neg (by omega), if_neg (by omega), if_neg (by omega)]
            rw [hw1] at hj
            simp at e5
            rcases e5 with rfl | rfl | rfl | rfl | rfl
            · rw [v38, upd_n (by omega), uo _ (by decide)]
            · rw [v41, upd_n (by omega), uo _ (by decide)]
            · rw [v44, upd_n (by omega), uo _ (by decide)]
            · rw [v47, upd_n (by omega), uo _ (by decide)]
            · rw [v48, upd_n (by omega), uo _ (by decide)]
          · rw [vo a e5, uo a (by omega)]
      · rw [o.2.1 1 (by decide), w36 1 (by decide)]; exact u1
    have hprs : prsF tb n 80 0 (nx tb n (.ok ((1, 0, [], 0, 0), []))) pl0 = prs tb n := rfl
    refine tm_ch131 (J0 := J3) hb ?_ ?_ 80 0 _ pl0 I4 L4 rfl hP4 hprs (fun z => absurd z (by decide))
    · intro K M e pl x hp hs hpr
      obtain ⟨f1, f2, f3, f4⟩ := hFr K M hp.1
      have o := hp.1
      have e8 : K 36 8 = nI e.1 := hs.2.2.2.1
      have e9 : K 36 9 = nI e.2 := hs.2.2.2.2
      have hle : ¬ K 36 8 ≤ 0 := fun z => hs.bad (Int32.le_antisymm z (Int32.not_lt.mp hs.t.n8))
      refine Ex.aload_n (pc := 160) dX10_chapel_160 rfl rfl ?_
      refine Ex.aload_n (pc := 161) dX10_chapel_161 rfl rfl ?_
      refine Ex.getI (pc := 162) dX10_chapel_162 fX10_36 (sh36 _) ?_
      refine Ex.putI (pc := 165) dX10_chapel_165 fX10_42 (sh36 _) (Or.inl rfl) ⟨rfl, rfl⟩ ?_
      refine Ex.aload_n (pc := 168) dX10_chapel_168 rfl rfl ?_
      refine Ex.aload_n (pc := 169) dX10_chapel_169 rfl rfl ?_
      refine Ex.getI (pc := 170) dX10_chapel_170 fX10_39 (sh36 _) ?_
      refine Ex.putI (pc := 173) dX10_chapel_173 fX10_45 (sh36 _) (Or.inl rfl) ⟨rfl, rfl⟩ ?_
      obtain ⟨K2, hK2⟩ : ∃ z, z = mf (mf K 10 (K 36 8)) 11 (K 36 9) := ⟨_, rfl⟩
      refine Ex.mm (S' := St N K2 M) ?_ ?_
      · rw [hK2]
        refine congrArg (fun z => St N z M) ?_
        show mf (mf K 10 (K 36 8)) 11 (mf K 10 (K 36 8) 36 9) = _
        rw [mf_n (by decide)]
      have q10 : K2 36 10 = K 36 8 := by rw [hK2, mf_n (by decide), mf_s]
      have q11 : K2 36 11 = K 36 9 := by rw [hK2, mf_s]
      have qf : ∀ j, j ≠ 10 → j ≠ 11 → K2 36 j = K 36 j := fun j j1 j2 => by rw [hK2, mf_n j2, mf_n j1]
      have qo : ∀ a, a ≠ 36 → K2 a = K a := fun a ha => by rw [hK2, mf_o ha, mf_o ha]
      clear hK2
      refine Ex.aload_n (pc := 176) dX10_chapel_176 rfl rfl ?_
      refine Ex.getI (pc := 177) dX10_chapel_177 fX10_36 (sh36 _) ?_
      refine Ex.if_le (pc := 180) (tgt := 189) dX10_chapel_180 (by decide) (fun c180 => absurd c180 (by rw [qf 8 (by decide) (by decide)]; exact hle)) (fun _ => ?_)
      refine Ex.aload_n (pc := 183) dX10_chapel_183 rfl rfl ?_
      refine Ex.iconst (pc := 184) (v := 1) dX10_chapel_184 rfl ?_
      refine Ex.callV (pc := 185) (As := [.int 1]) (rest := []) dX10_chapel_185 cX10_222 (tm_refuses (k := 1) (by decide)) (sh36 _) rfl rfl (by decide) (Nat.le_refl _) (Nat.le_refl _) (Nat.le_of_ble_eq_true rfl) (Or.inl (fun r S' h => by obtain ⟨_, h⟩ := h; subst h; rfl)) (fun r S' hq _ _ => ?_)
      obtain ⟨rfl, rfl⟩ := hq
      refine Ex.iret (pc := 188) rfl rfl rfl dX10_chapel_188 (Nat.le_refl _) (Nat.le_refl _) ?_
      refine ⟨_, _, rfl, Or.inl ⟨e, hpr, rfl, ⟨fun a ha => ?_, fun j hj => ?_, fun a a1 a2 j hj => ?_, o.2.2.2.1, o.2.2.2.2.1, o.2.2.2.2.2⟩, ?_, ?_, ?_, ?_, ?_, ?_, ?_, fun a a1 a2 => ?_⟩⟩
      · unfold refM; rw [va_up_n (by omega), qo a (by omega)]; exact f1 a (by omega)
      · unfold refM; simp at hj; rw [va_up_n (by decide), qf j (by omega) (by omega)]; exact f2 j (by simp; omega)
      · unfold refM; rw [va_up_n (by omega), qo a (by omega)]; exact f3 a a1 a2 j hj
      · unfold refM; rw [va_up_n (by decide), qf 1 (by decide) (by decide)]; exact f4
      · unfold refM; rw [va_up_n (by decide), q10]; exact e8
      · unfold refM; rw [va_up_n (by decide), q11]; exact e9
      · unfold refM; rw [va_up_n (by decide), qf 13 (by decide) (by decide)]; exact f2 13 (by decide)
      · unfold refM; rw [va_up_n (by decide), qf 54 (by decide) (by decide)]; exact f2 54 (by decide)
      · unfold refM; rw [va_up_n (by decide), qf 62 (by decide) (by decide)]; exact f2 62 (by decide)
      · unfold refM; rw [va_up_s, qo 62 (by decide), f1 62 (by omega)]
      · unfold refM; rw [va_up_n (by omega), qo a (by omega)]; exact f1 a (by omega)
    · intro K M t c pl m hp hpr
      obtain ⟨f1, f2, f3, f4⟩ := hFr K M hp.1
      have o := hp.1
      have hO : RMo tb n K M t := hp.2.2.2.1
      obtain ⟨hPl, hCd, hcl⟩ := hp.2.2.2.2 t c rfl
      refine Ex.aload_n (pc := 160) dX10_chapel_160 rfl rfl ?_
      refine Ex.aload_n (pc := 161) dX10_chapel_161 rfl rfl ?_
      refine Ex.getI (pc := 162) dX10_chapel_162 fX10_36 (sh36 _) ?_
      refine Ex.putI (pc := 165) dX10_chapel_165 fX10_42 (sh36 _) (Or.inl rfl) ⟨rfl, rfl⟩ ?_
      refine Ex.aload_n (pc := 168) dX10_chapel_168 rfl rfl ?_
      refine Ex.aload_n (pc := 169) dX10_chapel_169 rfl rfl ?_
      refine Ex.getI (pc := 170) dX10_chapel_170 fX10_39 (sh36 _) ?_
      refine Ex.putI (pc := 173) dX10_chapel_173 fX10_45 (sh36 _) (Or.inl rfl) ⟨rfl, rfl⟩ ?_
      obtain ⟨K2, hK2⟩ : ∃ z, z = mf (mf K 10 (K 36 8)) 11 (K 36 9) := ⟨_, rfl⟩
      refine Ex.mm (S' := St N K2 M) ?_ ?_
      · rw [hK2]
        refine congrArg (fun z => St N z M) ?_
        show mf (mf K 10 (K 36 8)) 11 (mf K 10 (K 36 8) 36 9) = _
        rw [mf_n (by decide)]
      have q10 : K2 36 10 = K 36 8 := by rw [hK2, mf_n (by decide), mf_s]
      have q11 : K2 36 11 = K 36 9 := by rw [hK2, mf_s]
      have qf : ∀ j, j ≠ 10 → j ≠ 11 → K2 36 j = K 36 j := fun j j1 j2 => by rw [hK2, mf_n j2, mf_n j1]
      have qo : ∀ a, a ≠ 36 → K2 a = K a := fun a ha => by rw [hK2, mf_o ha, mf_o ha]
      clear hK2
      refine Ex.aload_n (pc := 176) dX10_chapel_176 rfl rfl ?_
      refine Ex.getI (pc := 177) dX10_chapel_177 fX10_36 (sh36 _) ?_
      refine Ex.if_le (pc := 180) (tgt := 189) dX10_chapel_180 (by decide) (fun _ => ?_) (fun c180 => absurd (by rw [qf 8 (by decide) (by decide), hO.1]; decide) c180)
      refine Ex.aload_n (pc := 189) dX10_chapel_189 rfl rfl ?_
      refine Ex.aload_n (pc := 190) dX10_chapel_190 rfl rfl ?_
      refine Ex.getI (pc := 191) dX10_chapel_191 fX10_112 (sh36 _) ?_
      refine Ex.putI (pc := 194) dX10_chapel_194 fX10_51 (sh36 _) (Or.inl rfl) ⟨rfl, rfl⟩ ?_
      obtain ⟨K3, hK3⟩ : ∃ z, z = mf K2 13 (nI b) := ⟨_, rfl⟩
      refine Ex.mm (S' := St N K3 M) ?_ ?_
      · rw [hK3, show nI b = K2 36 33 from by rw [qf 33 (by decide) (by decide)]; exact hp.2.2.1.symm]; rfl
      have y13 : K3 36 13 = nI b := by rw [hK3, mf_s]
      have yf : ∀ j, j ≠ 13 → K3 36 j = K2 36 j := fun j hj => by rw [hK3, mf_n hj]
      have yo : ∀ a, a ≠ 36 → K3 a = K2 a := fun a ha => by rw [hK3, mf_o ha]
      clear hK3
      refine Ex.aload_n (pc := 197) dX10_chapel_197 rfl rfl ?_
      refine Ex.callV (pc := 198) (As := []) (rest := []) dX10_chapel_198 cX10_399 (tm_begin (bk := b) hb y13) (sh36 _) rfl rfl (by decide) (Nat.le_refl _) (Nat.le_refl _) (Nat.le_of_ble_eq_true rfl) (Or.inl (fun r S' h => by obtain ⟨_, _, h1, _⟩ := h; subst h1; rfl)) (fun r S' hq _ _ => ?_)
      obtain ⟨I5, rfl, rfl, s5, s36, s54, s62, s63, s64, s67, s68, s65, s66⟩ := hq
      refine Ex.iload_n (pc := 201) dX10_chapel_201 rfl rfl ?_
      refine Ex.iret (pc := 202) rfl rfl rfl dX10_chapel_202 (Nat.le_refl _) (Nat.le_refl _) ?_
      have z5 : ∀ a, 36 < a → a < 63 → I5 a = K a := fun a a1 a2 => by rw [s5 a (by simp; omega), yo a (by omega), qo a (by omega)]
      have z36 : ∀ j, j ∉ [10, 11, 13, 54, 62] → I5 36 j = K 36 j := fun j hj => by simp at hj; rw [s36 j (by omega) (by omega), yf j (by omega), qf j (by omega) (by omega)]
      refine ⟨_, _, rfl, Or.inr ⟨t, c, by rw [hpr], by rw [hpr], ⟨fun a ha => ?_, fun j hj => ?_, fun a a1 a2 j hj => ?_, o.2.2.2.1, o.2.2.2.2.1, o.2.2.2.2.2⟩, ?_, ?_, ?_, ?_, s54, s62, ?_, s63, ?_, s67, s68, fun k hk => ?_, fun k hk => ?_, ?_, ?_, ?_⟩⟩
      · rw [s5 a (by simp; omega), yo a (by omega), qo a (by omega)]; exact f1 a (by omega)
      · simp at hj; rw [z36 j (by simp; omega)]; exact f2 j (by simp; omega)
      · rw [z5 a (by omega) (by omega)]; exact f3 a a1 a2 j hj
      · rw [z36 1 (by decide)]; exact f4
      · rw [s36 10 (by decide) (by decide), yf 10 (by decide), q10]; exact hO.1
      · rw [s36 11 (by decide) (by decide), yf 11 (by decide), q11]; exact hO.2.2.2.2
      · rw [s36 13 (by decide) (by decide)]; exact y13
      · rw [z5 62 (by decide) (by decide)]; exact f1 62 (by omega)
      · rw [s64, s5 47 (by decide)]
      · rw [s65 k hk, s5 40 (by decide)]
      · rw [s66 k hk, s5 42 (by decide)]
      · rw [hpr]; exact hPl.c (fun a a1 a2 => z5 a (by omega) (by omega)) (fun _ _ => rfl)
      · exact hCd.c (z36 32 (by decide)) (z5 51 (by decide) (by decide)) (z5 52 (by decide) (by decide))
      · have := hO.2.2.1.2.2.1; have := hO.2.2.1.2.2.2.1; omega
  have kl : ∀ f i (J : aI), i + f = 5 → (∀ a, a ≠ 49 → J a = J2 a) → (∀ j, j < 5 * b ∨ 5 * b + 5 ≤ j → J 49 j = J2 49 j) → (∀ j, j < i → J 49 (5 * b + j) = -1) → Ex 7 0 0 mX10_chapel 0 0 95 [some (.ref 36), some (.int (nI (5 * b + i)))] [] (St N J L) (RX N (fun x I2 L2 => CmE tb n b I L x I2 L2 ∨ CmO tb n b I L x I2 L2)) := by
    intro f
    induction f with
    | zero =>
      intro i J hi jo jb jv
      have hi5 : i = 5 := by omega
      subst hi5
      have j33 : J 36 33 = nI b := by rw [jo 36 (by decide), v36]; exact u33
      refine Ex.iload_n (pc := 95) dX10_chapel_95 rfl rfl ?_
      refine Ex.iconst (pc := 96) (v := 5) dX10_chapel_96 rfl ?_
      refine Ex.aload_n (pc := 97) dX10_chapel_97 rfl rfl ?_
      refine Ex.getI (pc := 98) dX10_chapel_98 fX10_112 (sh36 _) ?_
      refine Ex.imul (pc := 101) dX10_chapel_101 ?_
      refine Ex.iconst (pc := 102) (v := 5) dX10_chapel_102 rfl ?_
      refine Ex.iadd (pc := 103) dX10_chapel_103 ?_
      rw [j33, e5c]
      refine Ex.icmp_ge (pc := 104) (tgt := 120) dX10_chapel_104 (by decide) (fun _ => ?_) (fun c104 => absurd (Int32.le_refl _) c104)
      exact K120 J jo jb (fun j hj => jv j hj)
    | succ f ih =>
      intro i J hi jo jb jv
      have j33 : J 36 33 = nI b := by rw [jo 36 (by decide), v36]; exact u33
      refine Ex.iload_n (pc := 95) dX10_chapel_95 rfl rfl ?_
      refine Ex.iconst (pc := 96) (v := 5) dX10_chapel_96 rfl ?_
      refine Ex.aload_n (pc := 97) dX10_chapel_97 rfl rfl ?_
      refine Ex.getI (pc := 98) dX10_chapel_98 fX10_112 (sh36 _) ?_
      refine Ex.imul (pc := 101) dX10_chapel_101 ?_
      refine Ex.iconst (pc := 102) (v := 5) dX10_chapel_102 rfl ?_
      refine Ex.iadd (pc := 103) dX10_chapel_103 ?_
      rw [j33, e5c]
      refine Ex.icmp_ge (pc := 104) (tgt := 120) dX10_chapel_104 (by decide) (fun c104 => absurd c104 (nI_ge (by omega) (by omega))) (fun _ => ?_)
      refine Ex.aload_n (pc := 107) dX10_chapel_107 rfl rfl ?_
      refine Ex.getR (pc := 108) dX10_chapel_108 fX10_87 (sh36 _) r36_25 ?_
      refine Ex.iload_n (pc := 111) dX10_chapel_111 rfl rfl ?_
      refine Ex.iconst (pc := 112) (v := (-1)) dX10_chapel_112 rfl ?_
      refine Ex.iast (pc := 113) (j := 5 * b + i) dX10_chapel_113 (sh49 _) (vp_in_nI (by omega) (by decide)) (nI_clamp (by omega)) ?_
      refine Ex.iinc (pc := 114) (ls' := [some (.ref 36), some (.int _)]) dX10_chapel_114 rfl rfl (by decide) rfl rfl ?_
      refine Ex.goto (pc := 117) (tgt := 95) dX10_chapel_117 (by decide) ?_
      rw [show nI (5 * b + i) + Int32.ofInt 1 = nI (5 * b + (i + 1)) from nI_1 (5 * b + i)]
      refine ih (i + 1) _ (by omega) (fun a ha => by rw [va_up_n ha]; exact jo a ha) (fun j hj => by rw [va_up_s, upd_n (by omega)]; exact jb j hj) (fun j hj => ?_)
      rw [va_up_s]
      by_cases e : j = i
      · rw [e, upd_s]
      · rw [upd_n (by omega)]; exact jv j (by omega)
  exact kl 5 0 J2 rfl (fun _ _ => rfl) (fun _ _ => rfl) (fun j hj => absurd hj (Nat.not_lt_zero _))
