/-- a token: kind (1 end, 2 word, 3 number, 4 sign), number or sign, letters, start, end -/
abbrev Tk : Type := Nat × Nat × List Nat × Nat × Nat
def tokS (tb : Nat → Nat) (n s : Nat) : Except Nat Tk :=
  if isL (tb s) = true then (if lexW tb n s = true then .error (s + (wdF tb n 6 s).length) else .ok (2, 0, wdF tb n 6 s, s, s + (wdF tb n 6 s).length))
  else if isD (tb s) = true then (if lexN tb n s = true then .error (s + (nmF tb n 4 s).length) else .ok (3, dg 10 (nmF tb n 4 s), [], s, s + (nmF tb n 4 s).length))
  else .ok (4, tb s, [], s, s + 1)
def tokA (tb : Nat → Nat) (n a s : Nat) (adj : Bool) : Except Nat Tk :=
  if n ≤ s then .ok (1, 0, [], s, s)
  else if adj = true ∧ s = a ∧ (isL (tb s) || isD (tb s)) = true then .error s
  else tokS tb n s
def tokF (tb : Nat → Nat) (n a : Nat) (adj : Bool) : Except Nat Tk := tokA tb n a (sk tb n a) adj
def TkW (n : Nat) (t : Tk) : Prop := 1 ≤ t.1 ∧ t.1 ≤ 4 ∧ t.2.2.2.1 ≤ t.2.2.2.2 ∧ t.2.2.2.2 ≤ n ∧ (t.1 ≠ 1 → t.2.2.2.1 < t.2.2.2.2) ∧ (t.1 = 2 → okN t.2.2.1) ∧ (t.1 = 3 → t.2.1 < 10000) ∧ (t.1 = 4 → t.2.1 < 256)
def TkC (I : aI) (t : Tk) : Prop := I 81 3 = 0 ∧ I 81 5 = nI t.2.2.2.2 ∧ I 81 6 = nI t.2.2.2.1 ∧ I 81 7 = nI t.1 ∧ (t.1 = 2 → I 81 8 = nI (n5 t.2.2.1) ∧ I 81 9 = foV (nI (n5 t.2.2.1))) ∧ (t.1 = 3 ∨ t.1 = 4 → I 81 8 = nI t.2.1) ∧ I 81 4 = -1
theorem TkW.mk {n kd vl st en : Nat} {wl : List Nat} (h1 : 1 ≤ kd) (h2 : kd ≤ 4) (h3 : st ≤ en) (h4 : en ≤ n) (h5 : kd ≠ 1 → st < en) (h6 : kd = 2 → okN wl) (h7 : kd = 3 → vl < 10000) (h8 : kd = 4 → vl < 256) : TkW n (kd, vl, wl, st, en) := ⟨h1, h2, h3, h4, h5, h6, h7, h8⟩
theorem tokS_ok {tb : Nat → Nat} {n s : Nat} {t : Tk} (hb : ∀ i, i < n → tb i < 256) (hs : s < n) (h : tokS tb n s = .ok t) : TkW n t ∧ t.2.2.2.1 = s := by
  unfold tokS at h
  by_cases hl : isL (tb s) = true
  · rw [if_pos hl] at h
    split at h
    · cases h
    · cases h
      have ok := wdF_ok hs hl
      have hle := wdF_le (tb := tb) (Nat.le_of_lt hs)
      exact ⟨TkW.mk (by decide) (by decide) (by omega) hle (fun _ => by have := ok.1; omega) (fun _ => ok) (fun q => absurd q (by decide)) (fun q => absurd q (by decide)), rfl⟩
  · rw [if_neg hl] at h
    by_cases hd : isD (tb s) = true
    · rw [if_pos hd] at h
      split at h
      · cases h
      · cases h
        have hle := nmF_le (tb := tb) (Nat.le_of_lt hs)
        have hp : 1 ≤ (nmF tb n 4 s).length := by simp only [nmF]; rw [if_pos ⟨hs, hd⟩]; simp
        refine ⟨TkW.mk (by decide) (by decide) (by omega) hle (fun _ => by omega) (fun q => absurd q (by decide)) (fun _ => ?_) (fun q => absurd q (by decide)), rfl⟩
        have hall : ∀ c ∈ nmF tb n 4 s, c < 10 := by
          intro c hc
          obtain ⟨k, hk⟩ := List.getElem?_of_mem hc
          obtain ⟨-, h2, h3⟩ := nmF_at tb n 4 s k (List.getElem?_eq_some_iff.mp hk).1
          rw [hk] at h3
          have := isD_b h2
          have := Option.some.inj h3
          omega
        have := dg10_lt hall (nmF_len tb n 4 s) (nmF tb n 4 s).length
        rw [List.take_length] at this
        exact this
    · rw [if_neg hd] at h
      cases h
      exact ⟨TkW.mk (by decide) (by decide) (by omega) hs (fun _ => by omega) (fun q => absurd q (by decide)) (fun q => absurd q (by decide)) (fun _ => hb s hs), rfl⟩
theorem tokF_ok {tb : Nat → Nat} {n a : Nat} {adj : Bool} {t : Tk} (hb : ∀ i, i < n → tb i < 256) (ha : a ≤ n) (h : tokF tb n a adj = .ok t) : TkW n t ∧ a ≤ t.2.2.2.1 := by
  unfold tokF tokA at h
  have h1 := sk_le tb n a
  have h2 := sk_n (tb := tb) ha
  by_cases c : n ≤ sk tb n a
  · rw [if_pos c] at h
    cases h
    exact ⟨TkW.mk (by decide) (by decide) (Nat.le_refl _) h2 (fun q => absurd rfl q) (fun q => absurd q (by decide)) (fun q => absurd q (by decide)) (fun q => absurd q (by decide)), h1⟩
  · rw [if_neg c] at h
    split at h
    · cases h
    · obtain ⟨g1, g2⟩ := tokS_ok hb (by omega) h
      exact ⟨g1, by rw [g2]; exact h1⟩
theorem tokS_er {tb : Nat → Nat} {n s p : Nat} (hs : s < n) (h : tokS tb n s = .error p) : p ≤ n := by
  unfold tokS at h
  have := wdF_le (tb := tb) (Nat.le_of_lt hs)
  have := nmF_le (tb := tb) (Nat.le_of_lt hs)
  split at h
  · split at h
    · cases h; assumption
    · cases h
  · split at h
    · split at h
      · cases h; assumption
      · cases h
    · cases h
theorem tokF_er {tb : Nat → Nat} {n a p : Nat} {adj : Bool} (ha : a ≤ n) (h : tokF tb n a adj = .error p) : p ≤ n := by
  unfold tokF tokA at h
  have h2 := sk_n (tb := tb) ha
  by_cases c : n ≤ sk tb n a
  · rw [if_pos c] at h; cases h
  · rw [if_neg c] at h
    split at h
    · cases h; exact h2
    · exact tokS_er (by omega) h
/-- how a Parser stands: at a token, or stopped -/
def TkE (I : aI) : Except Nat Tk → Prop
  | .ok t => TkC I t
  | .error p => I 81 3 = 1 ∧ I 81 4 = nI p ∧ I 81 7 = 0
set_option maxRecDepth 20000 in
theorem t_nextR {N M : Nat} {I : aI} {L : aL} {tb : Nat → Nat} {n a : Nat} {kd : Nat} (hT : TxR I tb n) (h1 : I 81 1 = nI n) (hn : n ≤ 1600) (h5 : I 81 5 = nI a) (ha : a ≤ n) (h3 : I 81 3 = 0) (h4 : I 81 4 = -1) (h7 : I 81 7 = nI kd) (hk0 : kd ≠ 0) (hk4 : kd ≤ 4) : Run 5 0 0 mX4_next [.ref 81] (St2 N M I L) (RP2 none N M L (fun I2 => Sm [81] I I2 ∧ (∀ j, j < 3 ∨ 9 < j → I2 81 j = I 81 j) ∧ TkE I2 (tokF tb n a (decide (kd = 2 ∨ kd = 3))))) := by
  refine Run.of (ls := [some (.ref 81), none, none]) (by decide) (Nat.le_of_ble_eq_true rfl) rfl ?_
  have hsl := sk_le tb n a
  have hsn := sk_n (tb := tb) ha
  unfold tokF
  have hskp := t_skipBlanks (N := N) (M := M) (L := L) hT h1 hn h5 ha
  generalize sk tb n a = s at *
  have hskip : ∀ (J : aI), True := fun _ => trivial
  have k120 : ∀ (b1 b2 : Option Value) (J : aI), s < n → Sm [81] I J → (∀ j, j < 3 ∨ 9 < j → J 81 j = I 81 j) → J 81 3 = 0 → J 81 4 = -1 → J 81 5 = nI s → J 81 6 = nI s → Ex 5 0 0 mX4_next 0 0 120 [some (.ref 81), none, none] [] (St2 N M J L) (RP2 none N M L (fun I2 => Sm [81] I I2 ∧ (∀ j, j < 3 ∨ 9 < j → I2 81 j = I 81 j) ∧ TkE I2 (tokS tb n s))) := by
    intro b1 b2 J hlt hJ hj j3 j4 j5 j6
    have gT : TxR J tb n := hT.sm hJ (by decide)
    have g1 : J 81 1 = nI n := by rw [hj 1 (by omega)]; exact h1
    obtain ⟨hb, e1⟩ := gT s hlt
    unfold tokS
    refine Ex.aload_n (pc := 120) dX4_next_120 rfl rfl ?_
    refine Ex.getR (pc := 121) dX4_next_121 fX4_36 (s2_81 _ _) r2_81_0 ?_
    refine Ex.aload_n (pc := 124) dX4_next_124 rfl rfl ?_
    refine Ex.getI (pc := 125) dX4_next_125 fX4_18 (s2_81 _ _) ?_
    refine Ex.bald (pc := 128) (j := s) dX4_next_128 (s2_1 _ _) (by rw [j5]; exact vp_in_nI (by omega) (by decide)) (by rw [j5]; exact nI_clamp (by omega)) ?_
    rw [e1]
    refine Ex.callS (pc := 129) (As := [.int _]) (rest := []) dX4_next_129 cX4_70 (t_isLetter hb) rfl rfl (by decide) (Nat.le_refl _) (Nat.le_refl _) (Nat.le_of_ble_eq_true rfl) (Or.inl (fun r S' h => by obtain ⟨_, h⟩ := h; subst h; rfl)) (fun r S' hq _ _ => ?_)
    obtain ⟨rfl, rfl⟩ := hq
    refine Ex.if_eq (pc := 132) (tgt := 150) dX4_next_132 (by decide) (fun c132 => ?_) (fun c132 => ?_)
    · skip
      refine Ex.aload_n (pc := 150) dX4_next_150 rfl rfl ?_
      refine Ex.getR (pc := 151) dX4_next_151 fX4_36 (s2_81 _ _) r2_81_0 ?_
      refine Ex.aload_n (pc := 154) dX4_next_154 rfl rfl ?_
      refine Ex.getI (pc := 155) dX4_next_155 fX4_18 (s2_81 _ _) ?_
      refine Ex.bald (pc := 158) (j := s) dX4_next_158 (s2_1 _ _) (by rw [j5]; exact vp_in_nI (by omega) (by decide)) (by rw [j5]; exact nI_clamp (by omega)) ?_
      rw [e1]
      refine Ex.callS (pc := 159) (As := [.int _]) (rest := []) dX4_next_159 cX4_74 (t_isDigit hb) rfl rfl (by decide) (Nat.le_refl _) (Nat.le_refl _) (Nat.le_of_ble_eq_true rfl) (Or.inl (fun r S' h => by obtain ⟨_, h⟩ := h; subst h; rfl)) (fun r S' hq _ _ => ?_)
      obtain ⟨rfl, rfl⟩ := hq
      refine Ex.if_eq (pc := 162) (tgt := 172) dX4_next_162 (by decide) (fun c162 => ?_) (fun c162 => ?_)
      · skip
        refine Ex.aload_n (pc := 172) dX4_next_172 rfl rfl ?_
        refine Ex.iconst (pc := 173) (v := 4) dX4_next_173 rfl ?_
        refine Ex.putI (pc := 174) dX4_next_174 fX4_24 (s2_81 _ _) (Or.inl rfl) ⟨rfl, rfl⟩ ?_
        refine Ex.aload_n (pc := 177) dX4_next_177 rfl rfl ?_
        refine Ex.aload_n (pc := 178) dX4_next_178 rfl rfl ?_
        refine Ex.getR (pc := 179) dX4_next_179 fX4_36 (s2_81 _ _) r2_81_0 ?_
        refine Ex.aload_n (pc := 182) dX4_next_182 rfl rfl ?_
        refine Ex.getI (pc := 183) dX4_next_183 fX4_18 (s2_81 _ _) ?_
        refine Ex.bald (pc := 186) (j := s) dX4_next_186 (s2_1 _ _) (by rw [show va_up J 81 (upd (J 81) 7 4) 81 5 = nI s from by rw [va_up_s, upd_n (by decide)]; exact j5]; exact vp_in_nI (by omega) (by decide)) (by rw [show va_up J 81 (upd (J 81) 7 4) 81 5 = nI s from by rw [va_up_s, upd_n (by decide)]; exact j5]; exact nI_clamp (by omega)) ?_
        refine Ex.sipush (pc := 187) (v := 255) dX4_next_187 rfl ?_
        refine Ex.iand (pc := 190) dX4_next_190 ?_
        refine Ex.putI (pc := 191) dX4_next_191 fX4_27 (s2_81 _ _) (Or.inl rfl) ⟨rfl, rfl⟩ ?_
        refine Ex.aload_n (pc := 194) dX4_next_194 rfl rfl ?_
        refine Ex.dup (pc := 195) dX4_next_195 rfl ?_
        refine Ex.getI (pc := 196) dX4_next_196 fX4_18 (s2_81 _ _) ?_
        refine Ex.iconst (pc := 199) (v := 1) dX4_next_199 rfl ?_
        refine Ex.iadd (pc := 200) dX4_next_200 ?_
        refine Ex.putI (pc := 201) dX4_next_201 fX4_18 (s2_81 _ _) (Or.inl rfl) ⟨rfl, rfl⟩ ?_
        refine Ex.vret (pc := 204) rfl dX4_next_204 (Nat.le_refl _) (Nat.le_refl _) ?_
        rw [if_neg (by rw [bI_0 c132]; decide), if_neg (by rw [bI_0 c162]; decide)]
        obtain ⟨J3, hJ3⟩ : ∃ z, z = pf (pf (pf J 7 4) 8 (nI (tb s))) 5 (nI (s + 1)) := ⟨_, rfl⟩
        refine ⟨J3, rfl, ?_, ?_, ?_, ?_⟩
        · refine congrArg (fun z => St2 N M z L) ?_
          rw [hJ3]
          show pf (pf (pf J 7 4) 8 (pf J 7 4 1 s &&& 255)) 5 (pf (pf J 7 4) 8 (pf J 7 4 1 s &&& 255) 81 5 + 1) = _
          rw [pf_n (by decide), pf_n (by decide), pf_o (show (1 : Nat) ≠ 81 by decide), e1, sx_255 _ hb, j5, show nI s + 1 = nI (s + 1) from nI_1 s]
        · rw [hJ3]; exact ((hJ.up (by decide)).up (by decide)).up (by decide)
        · intro j hjj; rw [hJ3, pf_n (by omega), pf_n (by omega), pf_n (by omega)]; exact hj j hjj
        · refine ⟨?_, ?_, ?_, ?_, fun q => absurd (show (4 : Nat) = 2 from q) (by decide), fun _ => ?_, by rw [hJ3, pf_n (by decide), pf_n (by decide), pf_n (by decide)]; exact j4⟩
          · rw [hJ3, pf_n (by decide), pf_n (by decide), pf_n (by decide)]; exact j3
          · rw [hJ3, pf_s]
          · rw [hJ3, pf_n (by decide), pf_n (by decide), pf_n (by decide)]; exact j6
          · rw [hJ3, pf_n (by decide), pf_n (by decide), pf_s]; rfl
          · rw [hJ3, pf_n (by decide), pf_s]
      · skip
        refine Ex.aload_n (pc := 165) dX4_next_165 rfl rfl ?_
        refine Ex.callV (pc := 166) (As := []) (rest := []) dX4_next_166 cX4_88 (t_takeNumber (a := s) gT g1 hn j5 hsn j3 j4) (s2_81 _ _) rfl rfl (by decide) (Nat.le_refl _) (Nat.le_refl _) (Nat.le_of_ble_eq_true rfl) (Or.inl (fun r S' h => by obtain ⟨_, _, h, _⟩ := h; subst h; rfl)) (fun r S' hq _ _ => ?_)
        obtain ⟨J2, rfl, rfl, hJ2, hj2, hok, her⟩ := hq
        refine Ex.goto (pc := 169) (tgt := 204) dX4_next_169 (by decide) ?_
        refine Ex.vret (pc := 204) rfl dX4_next_204 (Nat.le_refl _) (Nat.le_refl _) ?_
        rw [if_neg (by rw [bI_0 c132]; decide), if_pos (bI_1 c162)]
        refine ⟨J2, rfl, rfl, hJ.tr hJ2 (by decide) (by decide), ?_, ?_⟩
        · intro j hjj; rw [hj2 j (by omega) (by omega) (by omega) (by omega) (by omega)]; exact hj j hjj
        · cases hw : lexN tb n s with
          | false =>
            obtain ⟨o1, o2, o3, o4, o5⟩ := hok hw
            rw [if_neg (by decide)]
            refine ⟨o1, o3, ?_, o2, fun q => absurd (show (3 : Nat) = 2 from q) (by decide), fun _ => o4, o5⟩
            rw [hj2 6 (by decide) (by decide) (by decide) (by decide) (by decide)]; exact j6
          | true =>
            obtain ⟨o1, o2, o3⟩ := her hw
            rw [if_pos rfl]
            exact ⟨o1, o2, o3⟩
    · skip
      refine Ex.aload_n (pc := 135) dX4_next_135 rfl rfl ?_
      refine Ex.callV (pc := 136) (As := []) (rest := []) dX4_next_136 cX4_81 (t_takeWord (a := s) gT g1 hn j5 hsn j3 j4) (s2_81 _ _) rfl rfl (by decide) (Nat.le_refl _) (Nat.le_refl _) (Nat.le_of_ble_eq_true rfl) (Or.inl (fun r S' h => by obtain ⟨_, _, h, _⟩ := h; subst h; rfl)) (fun r S' hq _ _ => ?_)
      obtain ⟨J2, rfl, rfl, hJ2, hj2, hok, her⟩ := hq
      refine Ex.aload_n (pc := 139) dX4_next_139 rfl rfl ?_
      refine Ex.aload_n (pc := 140) dX4_next_140 rfl rfl ?_
      refine Ex.callV (pc := 141) (As := []) (rest := [.ref 81]) dX4_next_141 cX4_84 (t_findOwn rfl) (s2_81 _ _) rfl rfl (by decide) (Nat.le_refl _) (Nat.le_refl _) (Nat.le_of_ble_eq_true rfl) (Or.inl (fun r S' h => by obtain ⟨_, h⟩ := h; subst h; rfl)) (fun r S' hq _ _ => ?_)
      obtain ⟨rfl, rfl⟩ := hq
      refine Ex.putI (pc := 144) dX4_next_144 fX4_30 (s2_81 _ _) (Or.inl rfl) ⟨rfl, rfl⟩ ?_
      refine Ex.goto (pc := 147) (tgt := 204) dX4_next_147 (by decide) ?_
      refine Ex.vret (pc := 204) rfl dX4_next_204 (Nat.le_refl _) (Nat.le_refl _) ?_
      rw [if_pos (bI_1 c132)]
      obtain ⟨J3, hJ3⟩ : ∃ z, z = pf J2 9 (foV (J2 81 8)) := ⟨_, rfl⟩
      have e3 : va_up J2 81 (upd (J2 81) 9 (foV (J2 81 8))) = J3 := hJ3.symm
      refine ⟨J3, rfl, by rw [← e3], ?_, ?_, ?_⟩
      · rw [hJ3]; exact (hJ.tr hJ2 (by decide) (by decide)).up (by decide)
      · intro j hjj; rw [hJ3, pf_n (by omega), hj2 j (by omega) (by omega) (by omega) (by omega) (by omega)]; exact hj j hjj
      · cases hw : lexW tb n s with
        | false =>
          obtain ⟨o1, o2, o3, o4, o5⟩ := hok hw
          rw [if_neg (by decide)]
          refine ⟨?_, ?_, ?_, ?_, fun _ => ⟨?_, ?_⟩, fun q => absurd (show (2 : Nat) = 3 ∨ (2 : Nat) = 4 from q) (by decide), by rw [hJ3, pf_n (by decide)]; exact o5⟩
          · rw [hJ3, pf_n (by decide)]; exact o1
          · rw [hJ3, pf_n (by decide)]; exact o3
          · rw [hJ3, pf_n (by decide), hj2 6 (by decide) (by decide) (by decide) (by decide) (by decide)]; exact j6
          · rw [hJ3, pf_n (by decide)]; exact o2
          · rw [hJ3, pf_n (by decide)]; exact o4
          · rw [hJ3, pf_s, o4]
        | true =>
          obtain ⟨o1, o2, o3⟩ := her hw
          rw [if_pos rfl]
          exact ⟨by rw [hJ3, pf_n (by decide)]; exact o1, by rw [hJ3, pf_n (by decide)]; exact o2, by rw [hJ3, pf_n (by decide)]; exact o3⟩
  have k29 : ∀ adj : Bool, (∀ J : aI, Run 0 0 0 mX4_skipBlanks [.ref 81] (St2 N M I L) (RV (St2 N M (pf I 5 (nI s)) L))) → Ex 5 0 0 mX4_next 0 0 29 [some (.ref 81), none, none] [.int (bI adj)] (St2 N M I L) (RP2 none N M L (fun I2 => Sm [81] I I2 ∧ (∀ j, j < 3 ∨ 9 < j → I2 81 j = I 81 j) ∧ TkE I2 (tokA tb n a s adj))) := by
    intro adj hsk
    unfold tokA
    obtain ⟨J, hJ⟩ : ∃ z, z = pf (pf I 5 (nI s)) 6 (nI s) := ⟨_, rfl⟩
    have gJ : Sm [81] I J := by rw [hJ]; exact (Sm.rf.up (by decide)).up (by decide)
    have gj : ∀ j, j < 3 ∨ 9 < j → J 81 j = I 81 j := fun j h => by rw [hJ, pf_n (by omega), pf_n (by omega)]
    have j3 : J 81 3 = 0 := by rw [hJ, pf_n (by decide), pf_n (by decide)]; exact h3
    have j4 : J 81 4 = -1 := by rw [hJ, pf_n (by decide), pf_n (by decide)]; exact h4
    have j5 : J 81 5 = nI s := by rw [hJ, pf_n (by decide), pf_s]
    have j6 : J 81 6 = nI s := by rw [hJ, pf_s]
    have j1 : J 81 1 = nI n := by rw [gj 1 (by omega)]; exact h1
    have gT : TxR J tb n := hT.sm gJ (by decide)
    refine Ex.istore_n (pc := 29) (ls' := [some (.ref 81), some (.int _), none]) dX4_next_29 rfl (by decide) rfl rfl ?_
    refine Ex.aload_n (pc := 30) dX4_next_30 rfl rfl ?_
    refine Ex.getI (pc := 31) dX4_next_31 fX4_18 (s2_81 _ _) ?_
    refine Ex.istore_n (pc := 34) (ls' := [some (.ref 81), some (.int _), some (.int _)]) dX4_next_34 rfl (by decide) rfl rfl ?_
    rw [h5]
    refine Ex.aload_n (pc := 35) dX4_next_35 rfl rfl ?_
    refine Ex.callV (pc := 36) (As := []) (rest := []) dX4_next_36 cX4_67 (hsk I) (s2_81 _ _) rfl rfl (by decide) (Nat.le_refl _) (Nat.le_refl _) (Nat.le_of_ble_eq_true rfl) (Or.inl (fun r S' h => by obtain ⟨_, h⟩ := h; subst h; rfl)) (fun r S' hq _ _ => ?_)
    obtain ⟨rfl, rfl⟩ := hq
    refine Ex.aload_n (pc := 39) dX4_next_39 rfl rfl ?_
    refine Ex.aload_n (pc := 40) dX4_next_40 rfl rfl ?_
    refine Ex.getI (pc := 41) dX4_next_41 fX4_18 (s2_81 _ _) ?_
    refine Ex.putI (pc := 44) dX4_next_44 fX4_21 (s2_81 _ _) (Or.inl rfl) ⟨rfl, rfl⟩ ?_
    refine Ex.mm (S' := St2 N M J L) ?_ ?_
    · refine congrArg (fun z => St2 N M z L) ?_
      rw [hJ]
      show pf (pf I 5 (nI s)) 6 (pf I 5 (nI s) 81 5) = _
      rw [pf_s]
    refine Ex.aload_n (pc := 47) dX4_next_47 rfl rfl ?_
    refine Ex.getI (pc := 48) dX4_next_48 fX4_18 (s2_81 _ _) ?_
    refine Ex.aload_n (pc := 51) dX4_next_51 rfl rfl ?_
    refine Ex.getI (pc := 52) dX4_next_52 fX4_49 (s2_81 _ _) ?_
    refine Ex.icmp_lt (pc := 55) (tgt := 66) dX4_next_55 (by decide) (fun c55 => ?_) (fun c55 => ?_)
    · skip
      rw [j5, j1, nI_ltI (by omega) (by omega)] at c55
      have hlt : s < n := c55
      obtain ⟨hb, e1⟩ := gT s hlt
      refine Ex.iload_n (pc := 66) dX4_next_66 rfl rfl ?_
      refine Ex.if_eq (pc := 67) (tgt := 120) dX4_next_67 (by decide) (fun c67 => ?_) (fun c67 => ?_)
      · skip
        rw [if_neg (by omega), if_neg (fun q => by rw [bI_0 c67] at q; exact absurd q.1 (by decide))]
        exact Ex.le (ls' := [some (.ref 81), none, none]) ⟨rfl, trivial⟩ (k120 none none J hlt gJ gj j3 j4 j5 j6)
      · skip
        refine Ex.aload_n (pc := 70) dX4_next_70 rfl rfl ?_
        refine Ex.getI (pc := 71) dX4_next_71 fX4_18 (s2_81 _ _) ?_
        refine Ex.iload_n (pc := 74) dX4_next_74 rfl rfl ?_
        refine Ex.icmp_ne (pc := 75) (tgt := 120) dX4_next_75 (by decide) (fun c75 => ?_) (fun c75 => ?_)
        · skip
          rw [if_neg (by omega), if_neg (fun q => by exact c75 (by rw [j5, q.2.1]))]
          exact Ex.le (ls' := [some (.ref 81), none, none]) ⟨rfl, trivial⟩ (k120 none none J hlt gJ gj j3 j4 j5 j6)
        · skip
          have c75e : s = a := by rw [j5] at c75; exact (nI_eq (by omega) (by omega)).mp c75
          refine Ex.aload_n (pc := 78) dX4_next_78 rfl rfl ?_
          refine Ex.getR (pc := 79) dX4_next_79 fX4_36 (s2_81 _ _) r2_81_0 ?_
          refine Ex.aload_n (pc := 82) dX4_next_82 rfl rfl ?_
          refine Ex.getI (pc := 83) dX4_next_83 fX4_18 (s2_81 _ _) ?_
          refine Ex.bald (pc := 86) (j := s) dX4_next_86 (s2_1 _ _) (by rw [j5]; exact vp_in_nI (by omega) (by decide)) (by rw [j5]; exact nI_clamp (by omega)) ?_
          rw [e1]
          refine Ex.callS (pc := 87) (As := [.int _]) (rest := []) dX4_next_87 cX4_70 (t_isLetter hb) rfl rfl (by decide) (Nat.le_refl _) (Nat.le_refl _) (Nat.le_of_ble_eq_true rfl) (Or.inl (fun r S' h => by obtain ⟨_, h⟩ := h; subst h; rfl)) (fun r S' hq _ _ => ?_)
          obtain ⟨rfl, rfl⟩ := hq
          refine Ex.if_ne (pc := 90) (tgt := 108) dX4_next_90 (by decide) (fun c90 => ?_) (fun c90 => ?_)
          · skip
            refine Ex.aload_n (pc := 108) dX4_next_108 rfl rfl ?_
            refine Ex.iconst (pc := 109) (v := 1) dX4_next_109 rfl ?_
            refine Ex.aload_n (pc := 110) dX4_next_110 rfl rfl ?_
            refine Ex.getI (pc := 111) dX4_next_111 fX4_18 (s2_81 _ _) ?_
            refine Ex.callV (pc := 114) (As := [.int 1, .int _]) (rest := []) dX4_next_114 cX4_77 t_stop (s2_81 _ _) rfl rfl (by decide) (Nat.le_refl _) (Nat.le_refl _) (Nat.le_of_ble_eq_true rfl) (Or.inl (fun r S' h => by obtain ⟨_, h⟩ := h; subst h; rfl)) (fun r S' hq _ _ => ?_)
            obtain ⟨rfl, rfl⟩ := hq
            refine Ex.goto (pc := 117) (tgt := 204) dX4_next_117 (by decide) ?_
            refine Ex.vret (pc := 204) rfl dX4_next_204 (Nat.le_refl _) (Nat.le_refl _) ?_
            rw [if_neg (by omega), if_pos ⟨bI_1 c67, c75e, by rw [bI_1 c90]; rfl⟩]
            obtain ⟨J2, hJ2⟩ : ∃ z, z = pf (pf (pf J 3 1) 4 (nI s)) 7 0 := ⟨_, rfl⟩
            refine ⟨J2, rfl, by rw [if_pos j3, hJ2, j5], ?_, ?_, ?_⟩
            · rw [hJ2]; exact ((gJ.up (by decide)).up (by decide)).up (by decide)
            · intro j h; rw [hJ2, pf_n (by omega), pf_n (by omega), pf_n (by omega)]; exact gj j h
            · exact ⟨by rw [hJ2, pf_n (by decide), pf_n (by decide), pf_s], by rw [hJ2, pf_n (by decide), pf_s], by rw [hJ2, pf_s]⟩
          · skip
            refine Ex.aload_n (pc := 93) dX4_next_93 rfl rfl ?_
            refine Ex.getR (pc := 94) dX4_next_94 fX4_36 (s2_81 _ _) r2_81_0 ?_
            refine Ex.aload_n (pc := 97) dX4_next_97 rfl rfl ?_
            refine Ex.getI (pc := 98) dX4_next_98 fX4_18 (s2_81 _ _) ?_
            refine Ex.bald (pc := 101) (j := s) dX4_next_101 (s2_1 _ _) (by rw [j5]; exact vp_in_nI (by omega) (by decide)) (by rw [j5]; exact nI_clamp (by omega)) ?_
            rw [e1]
            refine Ex.callS (pc := 102) (As := [.int _]) (rest := []) dX4_next_102 cX4_74 (t_isDigit hb) rfl rfl (by decide) (Nat.le_refl _) (Nat.le_refl _) (Nat.le_of_ble_eq_true rfl) (Or.inl (fun r S' h => by obtain ⟨_, h⟩ := h; subst h; rfl)) (fun r S' hq _ _ => ?_)
            obtain ⟨rfl, rfl⟩ := hq
            refine Ex.if_eq (pc := 105) (tgt := 120) dX4_next_105 (by decide) (fun c105 => ?_) (fun c105 => ?_)
            · skip
              rw [if_neg (by omega), if_neg (fun q => by have := q.2.2; rw [bI_0 c90, bI_0 c105] at this; cases this)]
              exact Ex.le (ls' := [some (.ref 81), none, none]) ⟨rfl, trivial⟩ (k120 none none J hlt gJ gj j3 j4 j5 j6)
            · skip
              refine Ex.aload_n (pc := 108) dX4_next_108 rfl rfl ?_
              refine Ex.iconst (pc := 109) (v := 1) dX4_next_109 rfl ?_
              refine Ex.aload_n (pc := 110) dX4_next_110 rfl rfl ?_
              refine Ex.getI (pc := 111) dX4_next_111 fX4_18 (s2_81 _ _) ?_
              refine Ex.callV (pc := 114) (As := [.int 1, .int _]) (rest := []) dX4_next_114 cX4_77 t_stop (s2_81 _ _) rfl rfl (by decide) (Nat.le_refl _) (Nat.le_refl _) (Nat.le_of_ble_eq_true rfl) (Or.inl (fun r S' h => by obtain ⟨_, h⟩ := h; subst h; rfl)) (fun r S' hq _ _ => ?_)
              obtain ⟨rfl, rfl⟩ := hq
              refine Ex.goto (pc := 117) (tgt := 204) dX4_next_117 (by decide) ?_
              refine Ex.vret (pc := 204) rfl dX4_next_204 (Nat.le_refl _) (Nat.le_refl _) ?_
              rw [if_neg (by omega), if_pos ⟨bI_1 c67, c75e, by rw [bI_1 c105]; exact Bool.or_true _⟩]
              obtain ⟨J2, hJ2⟩ : ∃ z, z = pf (pf (pf J 3 1) 4 (nI s)) 7 0 := ⟨_, rfl⟩
              refine ⟨J2, rfl, by rw [if_pos j3, hJ2, j5], ?_, ?_, ?_⟩
              · rw [hJ2]; exact ((gJ.up (by decide)).up (by decide)).up (by decide)
              · intro j h; rw [hJ2, pf_n (by omega), pf_n (by omega), pf_n (by omega)]; exact gj j h
              · exact ⟨by rw [hJ2, pf_n (by decide), pf_n (by decide), pf_s], by rw [hJ2, pf_n (by decide), pf_s], by rw [hJ2, pf_s]⟩
    · skip
      refine Ex.aload_n (pc := 58) dX4_next_58 rfl rfl ?_
      refine Ex.iconst (pc := 59) (v := 1) dX4_next_59 rfl ?_
      refine Ex.putI (pc := 60) dX4_next_60 fX4_24 (s2_81 _ _) (Or.inl rfl) ⟨rfl, rfl⟩ ?_
      refine Ex.goto (pc := 63) (tgt := 204) dX4_next_63 (by decide) ?_
      refine Ex.vret (pc := 204) rfl dX4_next_204 (Nat.le_refl _) (Nat.le_refl _) ?_
      rw [j5, j1, nI_ltI (by omega) (by omega)] at c55
      rw [if_pos (by omega)]
      obtain ⟨J2, hJ2⟩ : ∃ z, z = pf J 7 1 := ⟨_, rfl⟩
      refine ⟨J2, rfl, by rw [hJ2]; rfl, ?_, ?_, ?_⟩
      · rw [hJ2]; exact gJ.up (by decide)
      · intro j h; rw [hJ2, pf_n (by omega)]; exact gj j h
      · refine ⟨?_, ?_, ?_, ?_, fun q => absurd (show (1 : Nat) = 2 from q) (by decide), fun q => absurd (show (1 : Nat) = 3 ∨ (1 : Nat) = 4 from q) (by decide), by rw [hJ2, pf_n (by decide)]; exact j4⟩
        · rw [hJ2, pf_n (by decide)]; exact j3
        · rw [hJ2, pf_n (by decide)]; exact j5
        · rw [hJ2, pf_n (by decide)]; exact j6
        · rw [hJ2, pf_s]; rfl
  refine Ex.aload_n (pc := 0) dX4_next_0 rfl rfl ?_
  refine Ex.getI (pc := 1) dX4_next_1 fX4_24 (s2_81 _ _) ?_
  refine Ex.if_ne (pc := 4) (tgt := 8) dX4_next_4 (by decide) (fun _ => ?_) (fun c4 => absurd c4 (by rw [h7]; exact fun e => hk0 ((nI_eq (by omega) (by decide)).mp (show nI kd = nI 0 from e))))
  refine Ex.aload_n (pc := 8) dX4_next_8 rfl rfl ?_
  refine Ex.getI (pc := 9) dX4_next_9 fX4_24 (s2_81 _ _) ?_
  refine Ex.iconst (pc := 12) (v := 2) dX4_next_12 rfl ?_
  refine Ex.icmp_eq (pc := 13) (tgt := 24) dX4_next_13 (by decide) (fun c13 => ?_) (fun c13 => ?_)
  · skip
    refine Ex.iconst (pc := 24) (v := 1) dX4_next_24 rfl ?_
    refine Ex.goto (pc := 25) (tgt := 29) dX4_next_25 (by decide) ?_
    rw [show decide (kd = 2 ∨ kd = 3) = true from decide_eq_true (Or.inl ((nI_eq (by omega) (by decide)).mp (show nI kd = nI 2 from by rw [← h7]; exact c13)))]
    exact k29 true (fun _ => hskp)
  · skip
    refine Ex.aload_n (pc := 16) dX4_next_16 rfl rfl ?_
    refine Ex.getI (pc := 17) dX4_next_17 fX4_24 (s2_81 _ _) ?_
    refine Ex.iconst (pc := 20) (v := 3) dX4_next_20 rfl ?_
    refine Ex.icmp_ne (pc := 21) (tgt := 28) dX4_next_21 (by decide) (fun c21 => ?_) (fun c21 => ?_)
    · skip
      refine Ex.iconst (pc := 28) (v := 0) dX4_next_28 rfl ?_
      rw [show decide (kd = 2 ∨ kd = 3) = false from decide_eq_false (fun q => q.elim (fun e => c13 (by rw [h7, e]; rfl)) (fun e => c21 (by rw [h7, e]; rfl)))]
      exact k29 false (fun _ => hskp)
    · skip
      refine Ex.iconst (pc := 24) (v := 1) dX4_next_24 rfl ?_
      refine Ex.goto (pc := 25) (tgt := 29) dX4_next_25 (by decide) ?_
      rw [show decide (kd = 2 ∨ kd = 3) = true from decide_eq_true (Or.inr ((nI_eq (by omega) (by decide)).mp (show nI kd = nI 3 from by rw [← h7]; exact c21)))]
      exact k29 true (fun _ => hskp)
set_option maxRecDepth 20000 in
theorem t_nextE {N M : Nat} {I : aI} {L : aL} (h7 : I 81 7 = 0) : Run 0 0 0 mX4_next [.ref 81] (St2 N M I L) (RV (St2 N M I L)) := by
  refine Run.of (ls := [some (.ref 81), none, none]) (by decide) (Nat.le_of_ble_eq_true rfl) rfl ?_
  refine Ex.aload_n (pc := 0) dX4_next_0 rfl rfl ?_
  refine Ex.getI (pc := 1) dX4_next_1 fX4_24 (s2_81 _ _) ?_
  refine Ex.if_ne (pc := 4) (tgt := 8) dX4_next_4 (by decide) (fun c4 => absurd h7 c4) (fun _ => ?_)
  refine Ex.vret (pc := 7) rfl dX4_next_7 (Nat.le_refl _) (Nat.le_refl _) ?_
  exact ⟨rfl, rfl⟩
