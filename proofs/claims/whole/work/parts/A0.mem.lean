/-! the automaton in the reference's memory -/
def RdF (b : Nat) (I : aI) (L : aL) (I2 : aI) (L2 : aL) : Prop := Sm [36, 51, 52, 56, 57, 58, 59, 60, 61] I I2 ∧ (∀ j, j ∉ [3, 4, 5, 6, 8, 9, 12, 32, 40, 41, 43, 44] → I2 36 j = I 36 j) ∧ (∀ j, j < 1600 * b ∨ 1600 * b + 1600 ≤ j → I2 51 j = I 51 j ∧ I2 52 j = I 52 j) ∧ SmL [36] L L2 ∧ ∀ j, j ≠ 7 → L2 36 j = L 36 j
theorem RdF.rf {b : Nat} {I : aI} {L : aL} : RdF b I L I L := ⟨Sm.rf, fun _ _ => rfl, fun _ _ => ⟨rfl, rfl⟩, SmL.rf, fun _ _ => rfl⟩
theorem RdF.tr {b : Nat} {I I1 I2 : aI} {L L1 L2 : aL} (h : RdF b I L I1 L1) (g : RdF b I1 L1 I2 L2) : RdF b I L I2 L2 := ⟨h.1.tr g.1 (fun _ q => q) (fun _ q => q), fun j hj => (g.2.1 j hj).trans (h.2.1 j hj), fun j hj => ⟨(g.2.2.1 j hj).1.trans (h.2.2.1 j hj).1, (g.2.2.1 j hj).2.trans (h.2.2.1 j hj).2⟩, h.2.2.2.1.tr g.2.2.2.1 (fun _ q => q) (fun _ q => q), fun j hj => (g.2.2.2.2 j hj).trans (h.2.2.2.2 j hj)⟩
theorem MkG.rd {b : Nat} {I I2 : aI} {L L2 : aL} (h : MkG I L I2 L2) : RdF b I L I2 L2 := ⟨fun a ha => h.1 a (fun q => ha (by simp at q; simp [q])), fun j hj => h.2.1 j (fun q => hj (by simp at q ⊢; omega)), fun j _ => by rw [h.1 51 (by decide), h.1 52 (by decide)]; exact ⟨rfl, rfl⟩, h.2.2.1, h.2.2.2⟩
/-- only the frames, the operators and the code of the bank b have changed -/
def UF (b : Nat) (I I2 : aI) : Prop := Sm [36, 51, 52, 56, 57, 58, 59, 60, 61] I I2 ∧ (∀ j, j ∉ [32, 40, 41, 43, 44] → I2 36 j = I 36 j) ∧ ∀ j, j < 1600 * b ∨ 1600 * b + 1600 ≤ j → I2 51 j = I 51 j ∧ I2 52 j = I 52 j
theorem UF.rd {b : Nat} {I I2 : aI} {L : aL} (h : UF b I I2) : RdF b I L I2 L := ⟨h.1, fun j hj => h.2.1 j (fun q => hj (by simp at q ⊢; omega)), h.2.2, SmL.rf, fun _ _ => rfl⟩
theorem JF.uf {b : Nat} {I I2 : aI} (h : JF b I I2) : UF b I I2 := ⟨fun a ha => h.1 a (fun q => ha (by simp at q ⊢; omega)), fun j hj => h.2.1 j (fun q => hj (by simp at q ⊢; omega)), h.2.2⟩
theorem uf_m {b : Nat} {I : aI} {j : Nat} {v : Int32} (hj : j ∈ [32, 40, 41, 43, 44]) : UF b I (mf I j v) := ⟨fun a ha => mf_o (fun e => ha (by rw [e]; decide)), fun i hi => mf_n (fun e => hi (by rw [e]; exact hj)), fun i _ => by rw [mf_o (by decide), mf_o (by decide)]; exact ⟨rfl, rfl⟩⟩
theorem uf_a {b : Nat} {I : aI} {a : Nat} {f : Nat → Int32} (ha : a ∈ [56, 57, 58, 59, 60, 61]) : UF b I (va_up I a f) := by
  have ne : ∀ x, x ∉ [56, 57, 58, 59, 60, 61] → x ≠ a := fun x hx e => hx (by rw [e]; exact ha)
  exact ⟨fun x hx => va_up_n (ne x (fun q => hx (by simp at q ⊢; omega))), fun j _ => by rw [va_up_n (ne 36 (by decide))], fun j _ => by rw [va_up_n (ne 51 (by decide)), va_up_n (ne 52 (by decide))]; exact ⟨rfl, rfl⟩⟩
theorem uf_ad {b c : Nat} {I : aI} {x y : Int32} (hc : c < 1600) : UF b I (adM2 I b c x y) := ⟨fun a ha => ad_o (fun e => ha (by rw [e]; decide)) (fun e => ha (by rw [e]; decide)) (fun e => ha (by rw [e]; decide)), fun j hj => ad_f (fun e => hj (by rw [e]; decide)), fun j hj => ⟨ad_51 (by omega), ad_52 (by omega)⟩⟩
theorem UF.tr {b : Nat} {I I1 I2 : aI} (h : UF b I I1) (g : UF b I1 I2) : UF b I I2 := ⟨h.1.tr g.1 (fun _ q => q) (fun _ q => q), fun j hj => (g.2.1 j hj).trans (h.2.1 j hj), fun j hj => ⟨(g.2.2 j hj).1.trans (h.2.2 j hj).1, (g.2.2 j hj).2.trans (h.2.2 j hj).2⟩⟩
theorem RMo.u {tb : Nat → Nat} {n b : Nat} {I I2 : aI} {L : aL} {t : Tk} (h : RMo tb n I L t) (g : UF b I I2) : RMo tb n I2 L t := by
  have q : ∀ j, j ∉ [32, 40, 41, 43, 44] → I2 36 j = I 36 j := g.2.1
  obtain ⟨h1, ⟨a1, a2, a3, a4, a5, a6⟩, h3, h4, h9⟩ := h
  exact ⟨by rw [q 8 (by decide)]; exact h1, ⟨by rw [q 12 (by decide)]; exact a1, by rw [q 3 (by decide)]; exact a2, by rw [q 4 (by decide)]; exact a3, by rw [q 5 (by decide)]; exact a4, a5, fun z => by rw [q 6 (by decide)]; exact a6 z⟩, h3, h4, by rw [q 9 (by decide)]; exact h9⟩
theorem MB.u {tb : Nat → Nat} {n b : Nat} {I I2 : aI} (h : MB tb n I) (g : UF b I I2) : MB tb n I2 := ⟨h.1.sm g.1 (by decide), by rw [g.2.1 2 (by decide)]; exact h.2.1, h.2.2⟩
theorem MB.r {tb : Nat → Nat} {n b : Nat} {I I2 : aI} {L L2 : aL} (h : MB tb n I) (g : RdF b I L I2 L2) : MB tb n I2 := ⟨h.1.sm g.1 (by decide), by rw [g.2.1 2 (by decide)]; exact h.2.1, h.2.2⟩
def FsM (I : aI) : List Fr → Prop
  | [] => True
  | f :: fs => I 56 fs.length = nI f.k ∧ I 57 fs.length = nI f.ph ∧ I 58 fs.length = bI f.bg ∧ (prF f.k = 1 → I 59 fs.length = nI (sN f.pr)) ∧ I 60 fs.length = nI (opN fs) ∧ (∀ i x, f.ω.reverse[i]? = some x → I 61 (opN fs + i) = nI (sN x)) ∧ FsM I fs
theorem FsM.lo {I I2 : aI} : ∀ (fs : List Fr), FsM I fs → (∀ a, a ∈ [56, 57, 58, 59, 60] → ∀ j, j < fs.length → I2 a j = I a j) → (∀ j, j < opN fs → I2 61 j = I 61 j) → FsM I2 fs
  | [], _, _, _ => trivial
  | f :: fs, h, h1, h2 => by
    have hl : fs.length < (f :: fs).length := Nat.lt_succ_self _
    obtain ⟨a1, a2, a3, a4, a5, a6, a7⟩ := h
    refine ⟨by rw [h1 56 (by decide) _ hl]; exact a1, by rw [h1 57 (by decide) _ hl]; exact a2, by rw [h1 58 (by decide) _ hl]; exact a3, fun q => by rw [h1 59 (by decide) _ hl]; exact a4 q, by rw [h1 60 (by decide) _ hl]; exact a5, fun i x hx => ?_, FsM.lo fs a7 (fun a ha j hj => h1 a ha j (by show j < fs.length + 1; omega)) (fun j hj => h2 j (by show j < opN fs + f.ω.length; omega))⟩
    have hi := (List.getElem?_eq_some_iff.mp hx).1
    rw [List.length_reverse] at hi
    rw [h2 _ (by show opN fs + i < opN fs + f.ω.length; omega)]
    exact a6 i x hx
def FrM (b : Nat) (I : aI) (fs : List Fr) (o : Nat) (c : Cd) : Prop := CdM I b c ∧ I 36 40 = nI fs.length ∧ I 36 41 = nI o ∧ I 36 43 = nI (opN fs) ∧ FsM I fs
theorem FrM.cg {b : Nat} {I I2 : aI} {fs : List Fr} {o : Nat} {c : Cd} (h : FrM b I fs o c) (h1 : ∀ a, a ∈ [51, 52, 56, 57, 58, 59, 60, 61] → I2 a = I a) (h2 : ∀ j, j ∈ [32, 40, 41, 43] → I2 36 j = I 36 j) : FrM b I2 fs o c := by
  obtain ⟨⟨a1, a2⟩, a3, a4, a5, a6⟩ := h
  exact ⟨⟨by rw [h2 32 (by decide)]; exact a1, fun j s q => by rw [h1 51 (by decide), h1 52 (by decide)]; exact a2 j s q⟩, by rw [h2 40 (by decide)]; exact a3, by rw [h2 41 (by decide)]; exact a4, by rw [h2 43 (by decide)]; exact a5, FsM.lo fs a6 (fun a ha j _ => by rw [h1 a (by simp at ha ⊢; omega)]) (fun j _ => by rw [h1 61 (by decide)])⟩
theorem FrM.g {b : Nat} {I I2 : aI} {L L2 : aL} {fs : List Fr} {o : Nat} {c : Cd} (h : FrM b I fs o c) (g : MkG I L I2 L2) : FrM b I2 fs o c := h.cg (fun a ha => g.1 a (fun q => by simp at q ha; omega)) (fun j hj => g.2.1 j (fun q => by simp at q hj; omega))
/-- the top frame changed in one of its rows -/
theorem FrM.top {b : Nat} {I I2 : aI} {f f2 : Fr} {fs : List Fr} {o : Nat} {c : Cd} (h : FrM b I (f :: fs) o c) (ho : ∀ a, a ∈ [36, 51, 52, 60, 61] → I2 a = I a) (hl : ∀ a, a ∈ [56, 57, 58, 59] → ∀ j, j < fs.length → I2 a j = I a j) (h56 : I2 56 fs.length = nI f2.k) (h57 : I2 57 fs.length = nI f2.ph) (h58 : I2 58 fs.length = bI f2.bg) (h59 : prF f2.k = 1 → I2 59 fs.length = nI (sN f2.pr)) (hω : f2.ω = f.ω) : FrM b I2 (f2 :: fs) o c := by
  obtain ⟨⟨a1, a2⟩, a3, a4, a5, c1, c2, c3, c4, c5, c6, c7⟩ := h
  refine ⟨⟨by rw [ho 36 (by decide)]; exact a1, fun j s q => by rw [ho 51 (by decide), ho 52 (by decide)]; exact a2 j s q⟩, by rw [ho 36 (by decide)]; exact a3, by rw [ho 36 (by decide)]; exact a4, by rw [ho 36 (by decide), a5]; show nI (opN fs + f.ω.length) = nI (opN fs + f2.ω.length); rw [hω], h56, h57, h58, h59, by rw [ho 60 (by decide)]; exact c5, fun i x hx => ?_, ?_⟩
  · rw [hω] at hx
    rw [ho 61 (by decide)]
    exact c6 i x hx
  · refine FsM.lo fs c7 (fun a ha j hj => ?_) (fun j _ => by rw [ho 61 (by decide)])
    by_cases e : a = 60
    · rw [e, ho 60 (by decide)]
    · exact hl a (by simp at ha ⊢; omega) j hj
theorem FrM.bg {b : Nat} {I : aI} {f : Fr} {fs : List Fr} {o : Nat} {c : Cd} (h : FrM b I (f :: fs) o c) (v : Bool) : FrM b (va_up I 58 (upd (I 58) fs.length (bI v))) (⟨f.k, f.ph, v, f.pr, f.ω⟩ :: fs) o c := by
  have h0 := h
  obtain ⟨_, _, _, _, c1, c2, c3, c4, c5, c6, c7⟩ := h0
  refine h.top (fun a ha => va_up_n (fun e => by rw [e] at ha; revert ha; decide)) (fun a ha j hj => ?_) (by rw [va_up_n (by decide)]; exact c1) (by rw [va_up_n (by decide)]; exact c2) (by rw [va_up_s, upd_s]) (fun q => by rw [va_up_n (by decide)]; exact c4 q) rfl
  by_cases e : a = 58
  · rw [e, va_up_s, upd_n (by omega)]
  · rw [va_up_n e]
theorem FrM.ph {b : Nat} {I : aI} {f : Fr} {fs : List Fr} {o : Nat} {c : Cd} (h : FrM b I (f :: fs) o c) (v : Nat) : FrM b (va_up I 57 (upd (I 57) fs.length (nI v))) (⟨f.k, v, f.bg, f.pr, f.ω⟩ :: fs) o c := by
  have h0 := h
  obtain ⟨_, _, _, _, c1, c2, c3, c4, c5, c6, c7⟩ := h0
  refine h.top (fun a ha => va_up_n (fun e => by rw [e] at ha; revert ha; decide)) (fun a ha j hj => ?_) (by rw [va_up_n (by decide)]; exact c1) (by rw [va_up_s, upd_s]) (by rw [va_up_n (by decide)]; exact c3) (fun q => by rw [va_up_n (by decide)]; exact c4 q) rfl
  by_cases e : a = 57
  · rw [e, va_up_s, upd_n (by omega)]
  · rw [va_up_n e]
theorem FrM.k {b : Nat} {I : aI} {f : Fr} {fs : List Fr} {o : Nat} {c : Cd} (h : FrM b I (f :: fs) o c) (v : Nat) (hp : prF f.k = 1) : FrM b (va_up I 56 (upd (I 56) fs.length (nI v))) (⟨v, f.ph, f.bg, f.pr, f.ω⟩ :: fs) o c := by
  have h0 := h
  obtain ⟨_, _, _, _, c1, c2, c3, c4, c5, c6, c7⟩ := h0
  refine h.top (fun a ha => va_up_n (fun e => by rw [e] at ha; revert ha; decide)) (fun a ha j hj => ?_) (by rw [va_up_s, upd_s]) (by rw [va_up_n (by decide)]; exact c2) (by rw [va_up_n (by decide)]; exact c3) (fun q => by rw [va_up_n (by decide)]; exact c4 hp) rfl
  by_cases e : a = 56
  · rw [e, va_up_s, upd_n (by omega)]
  · rw [va_up_n e]
theorem FrM.push {b : Nat} {I : aI} {f : Fr} {fs : List Fr} {o : Nat} {c : Cd} (h : FrM b I (f :: fs) o c) (x : Nat) : FrM b (hbM I (opN (f :: fs)) (nI (sN x))) (⟨f.k, f.ph, f.bg, f.pr, x :: f.ω⟩ :: fs) o c := by
  obtain ⟨⟨a1, a2⟩, a3, a4, a5, c1, c2, c3, c4, c5, c6, c7⟩ := h
  have hm : ∀ a, a ≠ 36 → a ≠ 61 → hbM I (opN (f :: fs)) (nI (sN x)) a = I a := fun a e1 e2 => by unfold hbM; rw [mf_o e1, va_up_n e2]
  have hj : ∀ j, j ≠ 43 → hbM I (opN (f :: fs)) (nI (sN x)) 36 j = I 36 j := fun j e => by unfold hbM; rw [mf_n e, va_up_n (by decide)]
  have h61 : hbM I (opN (f :: fs)) (nI (sN x)) 61 = upd (I 61) (opN (f :: fs)) (nI (sN x)) := by unfold hbM; rw [mf_o (by decide), va_up_s]
  refine ⟨⟨by rw [hj 32 (by decide)]; exact a1, fun j s q => by rw [hm 51 (by decide) (by decide), hm 52 (by decide) (by decide)]; exact a2 j s q⟩, by rw [hj 40 (by decide)]; exact a3, by rw [hj 41 (by decide)]; exact a4, by unfold hbM; rw [mf_s]; rfl, by rw [hm 56 (by decide) (by decide)]; exact c1, by rw [hm 57 (by decide) (by decide)]; exact c2, by rw [hm 58 (by decide) (by decide)]; exact c3, fun q => by rw [hm 59 (by decide) (by decide)]; exact c4 q, by rw [hm 60 (by decide) (by decide)]; exact c5, fun i y hy => ?_, ?_⟩
  · rw [List.reverse_cons] at hy
    rw [h61]
    have e : opN (f :: fs) = opN fs + f.ω.length := rfl
    by_cases hi : i < f.ω.length
    · rw [List.getElem?_append_left (by rw [List.length_reverse]; exact hi)] at hy
      rw [upd_n (by omega)]
      exact c6 i y hy
    · have hl := (List.getElem?_eq_some_iff.mp hy).1
      rw [List.length_append, List.length_reverse, List.length_singleton] at hl
      have hi2 : i = f.ω.length := by omega
      subst hi2
      rw [List.getElem?_append_right (by rw [List.length_reverse]; exact Nat.le_refl _), List.length_reverse, Nat.sub_self] at hy
      cases hy
      rw [← e, upd_s]
  · refine FsM.lo fs c7 (fun a ha j _ => by rw [hm a (fun e => by rw [e] at ha; revert ha; decide) (fun e => by rw [e] at ha; revert ha; decide)]) (fun j hj => ?_)
    rw [h61, upd_n (by show j ≠ opN fs + f.ω.length; omega)]
theorem FrM.add {b : Nat} {I : aI} {fs : List Fr} {o : Nat} {c : Cd} {s : Nat × Nat} {x y : Int32} (h : FrM b I fs o c) (hs : CdR s.1 s.2 x y) : FrM b (adM2 I b c.length x y) fs o (c ++ [s]) := by
  obtain ⟨a1, a3, a4, a5, a6⟩ := h
  refine ⟨a1.add hs, by rw [ad_f (by decide)]; exact a3, by rw [ad_f (by decide)]; exact a4, by rw [ad_f (by decide)]; exact a5, FsM.lo fs a6 (fun a ha j _ => by rw [ad_o (fun e => by rw [e] at ha; revert ha; decide) (fun e => by rw [e] at ha; revert ha; decide) (fun e => by rw [e] at ha; revert ha; decide)]) (fun j _ => by rw [ad_o (by decide) (by decide) (by decide)])⟩
theorem FrM.o {b : Nat} {I : aI} {fs : List Fr} {o : Nat} {c : Cd} (h : FrM b I fs o c) (v : Nat) : FrM b (mf I 41 (nI v)) fs v c := by
  obtain ⟨⟨a1, a2⟩, a3, a4, a5, a6⟩ := h
  exact ⟨⟨by rw [mf_n (by decide)]; exact a1, fun j s q => by rw [mf_o (by decide), mf_o (by decide)]; exact a2 j s q⟩, by rw [mf_n (by decide)]; exact a3, mf_s, by rw [mf_n (by decide)]; exact a5, FsM.lo fs a6 (fun a ha j _ => by rw [mf_o (fun e => by rw [e] at ha; revert ha; decide)]) (fun j _ => by rw [mf_o (by decide)])⟩
theorem FrM.nop {b : Nat} {I : aI} {fs : List Fr} {o : Nat} {c : Cd} (h : FrM b I fs o c) (v : Int32) : FrM b (mf I 44 v) fs o c := h.cg (fun a ha => mf_o (fun e => by rw [e] at ha; revert ha; decide)) (fun j hj => mf_n (fun e => by rw [e] at hj; revert hj; decide))
/-- a frame goes: its operators are joined -/
theorem FrM.pop {b : Nat} {I : aI} {f : Fr} {fs : List Fr} {o : Nat} {c : Cd} (h : FrM b I (f :: fs) o c) (hω : f.ω = []) : FrM b (mf I 40 (nI fs.length)) fs o c := by
  obtain ⟨⟨a1, a2⟩, a3, a4, a5, c1, c2, c3, c4, c5, c6, c7⟩ := h
  exact ⟨⟨by rw [mf_n (by decide)]; exact a1, fun j s q => by rw [mf_o (by decide), mf_o (by decide)]; exact a2 j s q⟩, mf_s, by rw [mf_n (by decide)]; exact a4, by rw [mf_n (by decide), a5]; show nI (opN fs + f.ω.length) = _; rw [hω]; rfl, FsM.lo fs c7 (fun a ha j _ => by rw [mf_o (fun e => by rw [e] at ha; revert ha; decide)]) (fun j _ => by rw [mf_o (by decide)])⟩
/-- a new frame: its pair is told afterwards -/
theorem FrM.pu {b : Nat} {I I2 : aI} {fs : List Fr} {o k pr : Nat} {c : Cd} (h : FrM b I fs o c) (ho : ∀ a, a ≠ 59 → I2 a = puM I fs.length (nI k) a) (h59 : ∀ j, j < fs.length → I2 59 j = I 59 j) (hp : prF k = 1 → I2 59 fs.length = nI (sN pr)) : FrM b I2 (⟨k, 0, true, pr, []⟩ :: fs) o c := by
  obtain ⟨⟨a1, a2⟩, a3, a4, a5, a6⟩ := h
  have hj : ∀ j, j ≠ 40 → I2 36 j = I 36 j := fun j e => by rw [ho 36 (by decide)]; unfold puM; rw [mf_n e, va_up_n (by decide), va_up_n (by decide), va_up_n (by decide), va_up_n (by decide)]
  have e40 : I2 36 40 = nI (fs.length + 1) := by rw [ho 36 (by decide)]; unfold puM; exact mf_s
  have e51 : I2 51 = I 51 := by rw [ho 51 (by decide)]; unfold puM; rw [mf_o (by decide), va_up_n (by decide), va_up_n (by decide), va_up_n (by decide), va_up_n (by decide)]
  have e52 : I2 52 = I 52 := by rw [ho 52 (by decide)]; unfold puM; rw [mf_o (by decide), va_up_n (by decide), va_up_n (by decide), va_up_n (by decide), va_up_n (by decide)]
  have e61 : I2 61 = I 61 := by rw [ho 61 (by decide)]; unfold puM; rw [mf_o (by decide), va_up_n (by decide), va_up_n (by decide), va_up_n (by decide), va_up_n (by decide)]
  have e56 : I2 56 = upd (I 56) fs.length (nI k) := by rw [ho 56 (by decide)]; unfold puM; rw [mf_o (by decide), va_up_n (by decide), va_up_n (by decide), va_up_n (by decide), va_up_s]
  have e57 : I2 57 = upd (I 57) fs.length 0 := by rw [ho 57 (by decide)]; unfold puM; rw [mf_o (by decide), va_up_n (by decide), va_up_n (by decide), va_up_s]
  have e58 : I2 58 = upd (I 58) fs.length 1 := by rw [ho 58 (by decide)]; unfold puM; rw [mf_o (by decide), va_up_n (by decide), va_up_s]
  have e60 : I2 60 = upd (I 60) fs.length (I 36 43) := by rw [ho 60 (by decide)]; unfold puM; rw [mf_o (by decide), va_up_s]
  refine ⟨⟨by rw [hj 32 (by decide)]; exact a1, fun j s q => by rw [e51, e52]; exact a2 j s q⟩, e40, by rw [hj 41 (by decide)]; exact a4, by rw [hj 43 (by decide)]; exact a5, by rw [e56, upd_s], by rw [e57, upd_s]; rfl, by rw [e58, upd_s]; rfl, hp, by rw [e60, upd_s]; exact a5, fun i x hx => (by have hx : ([] : List Nat).reverse[i]? = some x := hx; simp at hx), ?_⟩
  refine FsM.lo fs a6 (fun a ha j hj => ?_) (fun j _ => by rw [e61])
  simp at ha
  rcases ha with rfl | rfl | rfl | rfl | rfl
  · rw [e56, upd_n (by omega)]
  · rw [e57, upd_n (by omega)]
  · rw [e58, upd_n (by omega)]
  · exact h59 j hj
  · rw [e60, upd_n (by omega)]
theorem uf_pu {b d : Nat} {I : aI} {k : Int32} : UF b I (puM I d k) := by
  unfold puM
  exact ((((uf_a (by decide)).tr (uf_a (by decide))).tr (uf_a (by decide))).tr (uf_a (by decide))).tr (uf_m (by decide))
theorem uf_hb {b m : Nat} {I : aI} {v : Int32} : UF b I (hbM I m v) := by
  unfold hbM
  exact (uf_a (by decide)).tr (uf_m (by decide))
/-- the reference stands here, its token told and settled -/
def Wk (tb : Nat → Nat) (n b w : Nat) (I : aI) (L : aL) (J : aI) (M : aL) (fs : List Fr) (o : Nat) (t : Tk) (c : Cd) : Prop := RdF b I L J M ∧ MB tb n J ∧ (J 36 33 = nI b ∧ J 36 34 = nI w) ∧ RMo tb n J M t ∧ FrM b J fs o c
theorem Wk.u {tb : Nat → Nat} {n b w : Nat} {I : aI} {L : aL} {J J2 : aI} {M : aL} {fs fs2 : List Fr} {o o2 : Nat} {t : Tk} {c c2 : Cd} (h : Wk tb n b w I L J M fs o t c) (g : UF b J J2) (hf : FrM b J2 fs2 o2 c2) : Wk tb n b w I L J2 M fs2 o2 t c2 := ⟨h.1.tr g.rd, h.2.1.u g, ⟨by rw [g.2.1 33 (by decide)]; exact h.2.2.1.1, by rw [g.2.1 34 (by decide)]; exact h.2.2.1.2⟩, h.2.2.2.1.u g, hf⟩
theorem cd14_rev (l : List Nat) : cd14 l.reverse = cd14 l := by unfold cd14; rw [List.filter_reverse, List.length_reverse]
theorem IvO.bd {n : Nat} {bb : Bool} {fs : List Fr} {o : Nat} {t : Tk} {c : Cd} (h : IvO n bb fs o t c) (hne : fs ≠ []) : fs.length ≤ 8 ∧ opN fs ≤ 63 ∧ o ≤ 7 ∧ c.length + opN fs + prN fs ≤ n := by
  obtain ⟨h1, h2, h3, _, h5⟩ := h
  obtain ⟨q1, q2⟩ := h5 hne
  have := opN_le fs h3
  have := h1.2.2.1
  have := h1.2.2.2.1
  exact ⟨by omega, by omega, q2, by omega⟩
theorem tm_jnW {N n b w m : Nat} {tb : Nat → Nat} {I J : aI} {L M : aL} {f : Fr} {fs : List Fr} {o : Nat} {t : Tk} {c : Cd} {bb : Bool} (hb : b < 2) (hm : m ≤ 6) (h : Wk tb n b w I L J M (f :: fs) o t c) (hi : IvO n bb (f :: fs) o t c) : Run 2 0 0 mX10_joins [.ref 36, .int (nI m)] (St N J M) (RX N (fun x J2 M2 => x = none ∧ J2 36 44 = J 36 44 ∧ Wk tb n b w I L J2 M2 (⟨f.k, f.ph, f.bg, f.pr, dr m f.ω⟩ :: fs) (o - cd14 (tk m f.ω)) t (c ++ (tk m f.ω).map (fun x => (x, 0))))) := by
  obtain ⟨b1, b2, b3, b4⟩ := hi.bd (by simp)
  obtain ⟨i1, i2, i3, i4, i5⟩ := hi
  have i5 := (i5 (by simp)).1
  have i3 : FsK (f :: fs) := i3
  obtain ⟨hR, hB, ⟨h33, h34⟩, hO, ⟨a1, a3, a4, a5, c1, c2, c3, c4, c5, c6, c7⟩⟩ := h
  have hn := hB.2.2
  have e1 : opN (f :: fs) = opN fs + f.ω.length := rfl
  have e2 : cdN (f :: fs) = cdN fs + cd14 f.ω := rfl
  have e4 : (f :: fs).length = fs.length + 1 := rfl
  have l1 := tk_len m f.ω
  have l2 := tk_cd m f.ω
  have hrev : (dr m f.ω).reverse ++ (tk m f.ω).reverse = f.ω.reverse := by rw [← List.reverse_append, tk_dr]
  have hmem : ∀ x ∈ tk m f.ω, m ≤ rkC x := fun x hx => by
    have := List.all_eq_true.mp (List.all_takeWhile (p := fun x => decide (m ≤ rkC x)) (l := f.ω)) x hx
    exact of_decide_eq_true this
  refine Run.of (ls := [some (.ref 36), some (.int (nI m))]) (by decide) (Nat.le_of_ble_eq_true rfl) rfl ?_
  refine Ex.imp (tm_joins (ω := (dr m f.ω).reverse) (β := opN fs) (d := fs.length) (o := o - cd14 (tk m f.ω)) hb (by omega) hm ?_ _ (tk m f.ω).reverse c J rfl h33 a3 c5 ?_ a1 ?_ ?_ ?_ ?_ ?_) ?_
  · intro x ω1 e
    have : x ∈ dr m f.ω := by rw [← List.mem_reverse, e]; simp
    exact (i3.1.1.drp m).2 x this
  · rw [hrev]
    refine ⟨by rw [a5, List.length_reverse]; rfl, fun i y hy => ⟨c6 i y hy, ?_⟩⟩
    have : y ∈ f.ω := by
      have := List.mem_of_getElem? hy
      rwa [List.mem_reverse] at this
    exact i3.1.1.2 y this
  · rw [List.length_reverse]; omega
  · rw [hrev, List.length_reverse]; omega
  · intro x hx; exact hmem x (List.mem_reverse.mp hx)
  · rw [cd14_rev, a4]; congr 1; omega
  · rw [cd14_rev]; omega
  · rintro r S' ⟨I2, e1', e2', f1, f2, f3, f4⟩
    have hu := f1.uf
    refine ⟨I2, M, e2', e1', f1.2.1 44 (by decide), hR.tr hu.rd, hB.u hu, ⟨by rw [hu.2.1 33 (by decide)]; exact h33, by rw [hu.2.1 34 (by decide)]; exact h34⟩, hO.u hu, ?_⟩
    rw [List.reverse_reverse] at f3
    have s6 : ∀ a, a ∈ [56, 57, 58, 59, 60, 61] → I2 a = J a := fun a ha => f1.1 a (fun q => by simp at q ha; omega)
    refine ⟨f3, by rw [f1.2.1 40 (by decide)]; exact a3, f4, by rw [f2.1, List.length_reverse]; rfl, by rw [s6 56 (by decide)]; exact c1, by rw [s6 57 (by decide)]; exact c2, by rw [s6 58 (by decide)]; exact c3, fun q => by rw [s6 59 (by decide)]; exact c4 q, by rw [s6 60 (by decide)]; exact c5, fun i x hx => (f2.2 i x hx).1, FsM.lo fs c7 (fun a ha j _ => by rw [s6 a (by simp at ha ⊢; omega)]) (fun j _ => by rw [s6 61 (by decide)])⟩
/-- a Run told by the automaton's end: what the calls answer -/
def ReM (tb : Nat → Nat) (n b : Nat) (I : aI) (L : aL) (fs : List Fr) (o : Nat) (r : Er) : Prop := RMt tb n I L r ∧ ∀ t c, r = .ok (t, c) → FrM b I fs o c
def ReC (tb : Nat → Nat) (n b : Nat) (I : aI) (L : aL) (C : Cf) (v : Bool) : Prop := RMt tb n I L C.2.2.2 ∧ ∀ t c, C.2.2.2 = .ok (t, c) → v = C.1 ∧ FrM b I C.2.1 C.2.2.1 c
theorem RMt.u {tb : Nat → Nat} {n b : Nat} {I I2 : aI} {L : aL} {r : Er} (h : RMt tb n I L r) (g : UF b I I2) : RMt tb n I2 L r := by
  rcases r with e | ⟨t, c⟩
  · rcases (show RMe n I e ∨ (I 36 8 = 0 ∧ e.1 = 1 ∧ e.2 < n ∧ I 36 12 = nI e.2 ∧ ¬ I 36 3 = 0) from h) with q | q
    · exact Or.inl ⟨q.1, q.2.1, q.2.2.1, by rw [g.2.1 8 (by decide)]; exact q.2.2.2.1, by rw [g.2.1 9 (by decide)]; exact q.2.2.2.2⟩
    · exact Or.inr ⟨by rw [g.2.1 8 (by decide)]; exact q.1, q.2.1, q.2.2.1, by rw [g.2.1 12 (by decide)]; exact q.2.2.2.1, by rw [g.2.1 3 (by decide)]; exact q.2.2.2.2⟩
  · exact RMo.u (show RMo tb n I L t from h) g
theorem nx_c {tb : Nat → Nat} {n : Nat} {t t2 : Tk} {c c2 : Cd} (h : nx tb n (.ok (t, c)) = .ok (t2, c2)) : c2 = c := by
  simp only [nx] at h
  cases ht : tokF tb n t.2.2.2.2 (decide (t.1 = 2 ∨ t.1 = 3)) with
  | error p => rw [ht] at h; cases h
  | ok t2 => rw [ht] at h; cases h; rfl
theorem tm_wW {N n k : Nat} {tb : Nat → Nat} {J : aI} {M : aL} {t : Tk} {v : Int64} (h : RMo tb n J M t) (hk : k < 27) (hv : v = lN (n8 (OW k))) (c : Cd) : Run 0 0 0 mX10_isWord [.ref 36, .long v] (St N J M) (RI (bI (isW k (.ok (t, c)))) (St N J M)) := by
  rw [hv, ← h.w hk c]; exact tm_isWord
theorem tm_sW {N n k : Nat} {tb : Nat → Nat} {J : aI} {M : aL} {t : Tk} (h : RMo tb n J M t) (hk : k < 256) (c : Cd) : Run 0 0 0 mX10_isSign [.ref 36, .int (nI k)] (St N J M) (RI (bI (isS k (.ok (t, c)))) (St N J M)) := by
  have e : isS k (.ok (t, c)) = decide (J 36 3 = 3 ∧ J 36 6 = nI k) := by
    refine decide_eq_decide.mpr ⟨fun q => ?_, fun q => ?_⟩
    · exact ⟨(h.k3 (k := 3) (by decide)).mpr q.1, by rw [h.2.1.2.2.2.2.2 (Or.inr q.1), q.2]⟩
    · have h4 := (h.k3 (k := 3) (by decide)).mp q.1
      refine ⟨h4, ?_⟩
      have hv := h.2.1.2.2.2.2.2 (Or.inr h4)
      rw [hv] at q
      have := h.2.2.1.2.2.2.2.2.2.2 h4
      have q2 := congrArg Int32.toInt q.2
      rw [nI_toInt (by omega), nI_toInt (by omega)] at q2
      omega
  rw [e]; exact tm_isSign
theorem tst_I : ∀ k, k ≤ 6 → decide (nI k = 1 ∨ nI k = 5 ∨ nI k = 6) = tst k := by decide +kernel
theorem tm_tW {S : aS} {v : Int32} {k : Nat} (hv : v = nI k) (hk : k ≤ 6) : Run 0 0 0 mX10_isTest [.int v] S (RI (bI (tst k)) S) := by
  rw [hv, ← tst_I k hk]; exact tm_isTest
theorem Wk.nx {N n b w : Nat} {tb : Nat → Nat} {I J : aI} {L M : aL} {fs : List Fr} {o : Nat} {t : Tk} {c : Cd} (h : Wk tb n b w I L J M fs o t c) : Run 1 0 0 mX10_ahead [.ref 36] (St N J M) (RX N (fun x J2 M2 => x = none ∧ RdF b I L J2 M2 ∧ RMt tb n J2 M2 (nx tb n (.ok (t, c))) ∧ J2 36 8 = 0 ∧ FrM b J2 fs o c ∧ MkG J M J2 M2)) := by
  refine (tm_nx8 (c := c) h.2.1 h.2.2.2.1).imp ?_
  rintro x S' ⟨I2, L2, e, ex, g, m, z⟩
  exact ⟨I2, L2, e, ex, h.1.tr g.rd, m, z, h.2.2.2.2.g g, g⟩
def ReG (tb : Nat → Nat) (n b : Nat) (I : aI) (L : aL) (C : Cf) (v : Bool) : Prop := RMt tb n I L C.2.2.2 ∧ (∀ e, C.2.2.2 = .error e → v = true ∨ ¬ I 36 8 = 0) ∧ ∀ t c, C.2.2.2 = .ok (t, c) → (C.2.1 ≠ [] → v = true ∧ I 36 44 = bI C.1 ∧ FrM b I C.2.1 C.2.2.1 c) ∧ (C.2.1 = [] → v = false ∧ CdM I b c)
theorem ReG.e {tb : Nat → Nat} {n b : Nat} {I2 : aI} {L2 : aL} {C : Cf} {v : Bool} {r : Er} (hC : C.2.2.2 = r) (hr : ∃ e, r = .error e) (h : RMs tb n I2 L2 r) : ReG tb n b I2 L2 C v := by
  obtain ⟨e, he⟩ := hr
  subst he
  exact ⟨by rw [hC]; exact h.t, fun _ _ => Or.inr h.bad, fun t c q => by rw [hC] at q; cases q⟩
theorem ReG.n {tb : Nat → Nat} {n b : Nat} {I2 : aI} {L2 : aL} {bb : Bool} {f : Fr} {fs : List Fr} {o : Nat} {t : Tk} {c : Cd} (h : RMt tb n I2 L2 (nx tb n (.ok (t, c)))) (h44 : I2 36 44 = bI bb) (hf : FrM b I2 (f :: fs) o c) : ReG tb n b I2 L2 (bb, f :: fs, o, nx tb n (.ok (t, c))) true := ⟨h, fun _ _ => Or.inl rfl, fun t2 c2 q => ⟨fun _ => ⟨rfl, h44, by rw [nx_c q]; exact hf⟩, fun z => by cases z⟩⟩
