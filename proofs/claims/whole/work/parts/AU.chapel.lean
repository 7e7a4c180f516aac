/-! chapel, seen from the law -/
theorem arrV_eq {c : ClassId} {N : Nat} {f g : Nat → Value} (h : ∀ j, j < N → f j = g j) : arrV c N f = arrV c N g := by
  unfold arrV
  have : (fun j : Fin N => f j.val) = (fun j : Fin N => g j.val) := funext fun j => h j.val j.isLt
  rw [this]
theorem aRep_nrm {G : aG} {A : Nat → Prop} {ρ : List Nat} {H : Heap} {sh : aSh} {I I' : aI} {L : aL} {R : aR} (hR : aRep G A ρ (sh, I, L, R) H) (h : ∀ (i : Nat) (kn : Nat × Nat), sh[i]? = some kn → (kn.1 < 11 → I' i = I i) ∧ ∀ j, j < kn.2 → I' i j = I i j) : aRep G A ρ (sh, I', L, R) H := by
  obtain ⟨h1, h2, h3, h4⟩ := hR
  have hw : ∀ (i : Nat) (q : Nat × va_E), (aW G ρ (sh, I', L, R))[i]? = some q → ∃ q', (aW G ρ (sh, I, L, R))[i]? = some q' ∧ q'.1 = q.1 ∧ (va_at G.1 acl q' H → va_at G.1 acl q H) := fun i q hq => by
    have hi : i < sh.length := by
      have := (List.getElem?_eq_some_iff.mp hq).1
      rw [aW_len] at this; exact this
    have hkn : sh[i]? = some sh[i] := List.getElem?_eq_getElem hi
    rw [aW_get (S := (sh, I', L, R)) hkn] at hq
    refine ⟨_, aW_get (S := (sh, I, L, R)) hkn, ?_, ?_⟩
    · rw [← Option.some.inj hq]
    · rw [← Option.some.inj hq]
      obtain ⟨e1, e2⟩ := h i _ hkn
      by_cases k1 : sh[i].1 < 11
      · have := aCell_c (G := G) (ρ := ρ) (I := I) (I' := I') (L := L) (L' := L) (R := R) (R' := R) (i := i) (kn := sh[i]) (e1 k1) rfl rfl
        intro z
        show va_at G.1 acl (_, aCell G ρ I' L R i sh[i]) H
        rw [this]; exact z
      · intro z
        have z : va_at G.1 acl (ρ.getD i 0, aCell G ρ I L R i sh[i]) H := z
        show va_at G.1 acl (ρ.getD i 0, aCell G ρ I' L R i sh[i]) H
        unfold aCell at z ⊢
        rw [if_neg k1] at z ⊢
        by_cases k2 : sh[i].1 = 14
        · rw [if_pos k2] at z ⊢; exact z
        · rw [if_neg k2] at z ⊢
          have z : H[ρ.getD i 0]? = some (arrV _ sh[i].2 (fun j => .int (I i j))) := z
          show H[ρ.getD i 0]? = some (arrV _ sh[i].2 (fun j => .int (I' i j)))
          rw [z]
          exact congrArg some (arrV_eq (fun j hj => by rw [e2 j hj]))
  refine ⟨h1, h2, fun i q hq => ?_, fun i j p q hp hq e => ?_, fun i q hq => ?_⟩
  · obtain ⟨q', a1, a2, a3⟩ := hw i q hq
    exact a3 (h3 i q' a1)
  · obtain ⟨p', a1, a2, _⟩ := hw i p hp
    obtain ⟨q', b1, b2, _⟩ := hw j q hq
    exact h4.1 i j p' q' a1 b1 (by rw [a2, b2, e])
  · obtain ⟨q', a1, a2, _⟩ := hw i q hq
    rw [← a2]; exact h4.2 i q' a1
theorem ExL.nrm {len : Nat} {xs : Nat → Int32} {k n pc : Nat} {ls : aLs} {st : List (Option Value)} {sh : aSh} {I I' : aI} {L : aL} {R : aR} (h : ∀ (i : Nat) (kn : Nat × Nat), sh[i]? = some kn → (kn.1 < 11 → I' i = I i) ∧ ∀ j, j < kn.2 → I' i j = I i j) (kk : ExL len xs k n pc ls st (sh, I', L, R)) : ExL len xs k n pc ls st (sh, I, L, R) :=
  fun p l e s m below meth c b G C H ρ cs hR hS hL => kk p l e s m below meth c b G C H ρ cs (aRep_nrm hR h) hS hL
theorem cN_69 : ∀ c, c < 11 → cN c ≤ 69 := by decide
theorem RR_lt : ∀ (i k b : Nat), RR i k = some b → b < 81 := by
  have key : ∀ i, i < 81 → ∀ k, k < 69 → (match RR i k with | none => true | some b => decide (b < 81)) = true := by decide +kernel
  have hlen : ∀ i, i < 81 → (RL.getD i []).length ≤ 69 := by decide +kernel
  intro i k b h
  by_cases hi : i < 81
  · by_cases hk : k < 69
    · have := key i hi k hk
      rw [h] at this
      exact of_decide_eq_true this
    · have := hlen i hi
      unfold RR at h
      rw [List.getD_eq_getElem?_getD (i := k), List.getElem?_eq_none (by omega)] at h
      cases h
  · unfold RR at h
    rw [List.getD_eq_getElem?_getD (i := i), List.getElem?_eq_none (by show 81 ≤ i; omega)] at h
    have h : ([] : List (Option Nat)).getD k none = some b := h
    rw [List.getD_eq_getElem?_getD, List.getElem?_nil] at h
    cases h
theorem SH_ne {N M i : Nat} (h : i ≠ 9) : (SH N)[i]? = (SH M)[i]? := by
  have e : SH N = (SH M).set 9 (11, N) := rfl
  rw [e, List.getElem?_set_ne (Ne.symm h)]
theorem ExL.renS {len : Nat} {xs : Nat → Int32} {k n pc i N : Nat} {v : Int32} {sh : aSh} {I : aI} {L : aL} {R : aR} (σ : Nat → Nat) (h0 : σ 0 = 0) (h36 : σ 36 = 36) (hs : ∀ i, i < 81 → sh[σ i]? = (SH N)[i]?) (hin : ∀ i j, i < 81 → j < 81 → σ i = σ j → i = j) (hr : ∀ i, i < 81 → ∀ k, k < 69 → R (σ i) k = (RR i k).map σ)
    (kk : ExL len xs k n pc (lsI i) [some (.int v)] (St N (fun i => I (σ i)) (fun i => L (σ i)))) : ExL len xs k n pc (lsI i) [some (.int v)] (sh, I, L, R) := by
  refine ExL.ren (sh' := SH N) (R' := RR) σ hs hin (fun i k b h => RR_lt i k b h) (fun i kn hk h11 k hkk => hr i (List.getElem?_eq_some_iff.mp hk).1 k (Nat.lt_of_lt_of_le hkk (cN_69 _ h11))) (fun b ρ ρ' h => rfl) (fun j u hj => ⟨u, hj, fun ρ ρ' h => ?_⟩) kk
  match j, hj with
  | 0, hj => cases hj
  | 1, hj => cases hj; show Value.ref _ = Value.ref _; rw [h 0 (by show 0 < 81; decide), h0]
  | 2, hj => cases hj; show Value.ref _ = Value.ref _; rw [h 36 (by show 36 < 81; decide), h36]
  | 3, hj => cases hj; rfl
  | j + 4, hj => cases hj
def sg (i : Nat) : Nat := if 2 ≤ i ∧ i ≤ 9 then i + 80 else i
theorem sg_sh {N M : Nat} : ∀ i, i < 81 → (SH2 N M)[sg i]? = (SH M)[i]? := by
  intro i hi
  unfold sg
  by_cases h : 2 ≤ i ∧ i ≤ 9
  · rw [if_pos h]
    rcases (show i = 2 ∨ i = 3 ∨ i = 4 ∨ i = 5 ∨ i = 6 ∨ i = 7 ∨ i = 8 ∨ i = 9 by omega) with e | e | e | e | e | e | e | e <;> subst e <;> rfl
  · rw [if_neg h]
    unfold SH2
    rw [List.getElem?_append_left (by rw [SH_len]; exact hi), SH_ne (N := N) (M := M) (by omega)]
theorem sg_in : ∀ i j, i < 81 → j < 81 → sg i = sg j → i = j := by
  intro i j hi hj h
  unfold sg at h
  split at h <;> split at h <;> omega
theorem sg_rr : ∀ i, i < 81 → ∀ k, k < 69 → RR3 (sg i) k = (RR i k).map sg := by decide +kernel
theorem id_rr : ∀ i, i < 81 → ∀ k, k < 69 → RR2 (id i) k = (RR i k).map id := by
  intro i hi k _
  show (if i < 81 then RR i k else _) = _
  rw [if_pos hi, Option.map_id]; rfl
theorem id_sh {N M : Nat} : ∀ i, i < 81 → (SH2 N M)[id i]? = (SH N)[i]? := by
  intro i hi
  show (SH2 N M)[i]? = _
  unfold SH2
  rw [List.getElem?_append_left (by rw [SH_len]; exact hi)]
/-- the reference's other bank alone was written -/
theorem bk_eq {a w bk b : Nat} {I I2 : aI} (hc : ∀ a, 38 ≤ a → a ≤ 52 → ∀ j, j < wdA a * b ∨ wdA a * b + wdA a ≤ j → I2 a j = I a j) (hbk : bk < 2) (hb : b = 1 - bk) (ha : 38 ≤ a) (ha2 : a ≤ 52) (hw : wdA a = w) : ∀ j, j < w → I2 a (w * bk + j) = I a (w * bk + j) := by
  intro j hj
  refine hc a ha ha2 _ ?_
  rw [hw]
  rcases (show bk = 0 ∧ b = 1 ∨ bk = 1 ∧ b = 0 by omega) with ⟨e1, e2⟩ | ⟨e1, e2⟩
  · subst e1; subst e2; left; omega
  · subst e1; subst e2; right; omega
theorem RefP.bk {I I2 : aI} {bk b nb ns nh : Nat} {p : aP} {f5 f6 : Nat → Int32} (h : RefP I bk nb ns nh p f5 f6) (hb : b = 1 - bk) (h36 : I2 36 13 = I 36 13) (hc : ∀ a, 38 ≤ a → a ≤ 52 → ∀ j, j < wdA a * b ∨ wdA a * b + wdA a ≤ j → I2 a j = I a j) : RefP I2 bk nb ns nh p f5 f6 := by
  obtain ⟨⟨b1, b2, b3, b4, b5, b6, b7, b8⟩, hC, hT, c1, c2, c3⟩ := h
  have q1 : ∀ a, 38 ≤ a → a ≤ 52 → wdA a = 1 → I2 a bk = I a bk := fun a x y z => by
    have := bk_eq hc b1 hb x y z 0 (by omega)
    rw [show 1 * bk + 0 = bk by omega] at this; exact this
  refine ⟨⟨b1, by rw [h36]; exact b2, b3, b4, b5, by rw [q1 38 (by decide) (by decide) rfl]; exact b6, by rw [q1 41 (by decide) (by decide) rfl]; exact b7, by rw [q1 44 (by decide) (by decide) rfl]; exact b8⟩, fun r hr => ?_, hT, fun z hz => ?_, fun z hz => ?_, fun z hz => ?_⟩
  · rcases hC r hr with ⟨a1, a2⟩ | ⟨a1, a2, a3, a4, a5⟩
    · exact Or.inl ⟨a1, by rw [bk_eq (a := 49) (w := 5) hc b1 hb (by decide) (by decide) rfl r hr]; exact a2⟩
    · refine Or.inr ⟨a1, a2, by rw [bk_eq (a := 49) (w := 5) hc b1 hb (by decide) (by decide) rfl r hr]; exact a3, by rw [bk_eq (a := 50) (w := 5) hc b1 hb (by decide) (by decide) rfl r hr]; exact a4, fun t t1 t2 => ?_⟩
      rw [bk_eq (a := 51) (w := 1600) hc b1 hb (by decide) (by decide) rfl t (by omega), bk_eq (a := 52) (w := 1600) hc b1 hb (by decide) (by decide) rfl t (by omega)]; exact a5 t t1 t2
  · rw [bk_eq (a := 39) (w := 5) hc b1 hb (by decide) (by decide) rfl z (by omega), bk_eq (a := 40) (w := 5) hc b1 hb (by decide) (by decide) rfl z (by omega)]; exact c1 z hz
  · rw [bk_eq (a := 42) (w := 6) hc b1 hb (by decide) (by decide) rfl z (by omega), bk_eq (a := 43) (w := 6) hc b1 hb (by decide) (by decide) rfl z (by omega)]; exact c2 z hz
  · rw [bk_eq (a := 45) (w := 6) hc b1 hb (by decide) (by decide) rfl z (by omega), bk_eq (a := 46) (w := 6) hc b1 hb (by decide) (by decide) rfl z (by omega)]; exact c3 z hz
theorem rel_chE {N K : Nat} {I I' I2 : aI} {L L' L2 : aL} {p : aP} {nb ns nh bk b : Nat} {e1 e2 : Int32} (g2 : G2 I L) (g3 : G3 N I L p nb ns nh bk) (g4 : G4 I nb ns K) (g5 : G5 I nb) (g6 : G6 I p nb ns) (hb : b = 1 - bk) (i1 : ∀ a, a < 81 → a ∉ [0, 35] → I' a = I a) (i0 : I' 0 = upd (upd (upd (I 0) 1 0) 3 e1) 4 e2) (i35 : I' 35 = upd (I 35) 1 (I 35 1 + 1)) (hL' : ∀ a, a < 81 → L' a = L a) (hF : CmF b I' L' I2 L2) (m1 : I2 36 1 = 0) (m10 : I2 36 10 = e1) (m11 : I2 36 11 = e2) (m13 : I2 36 13 = I' 36 13) (m54 : I2 36 54 = I' 36 54) (m62 : I2 36 62 = I' 36 62) (m6 : I2 62 = upd (I' 62) 1 (I' 62 1 + 1)) (ms : ∀ a, 63 ≤ a → a ≤ 68 → I2 a = I' a) : Rel N (K + 1) I2 L2 := by
  obtain ⟨f1, f2, f3, f4, f5, f6⟩ := hF
  have lo : ∀ a, a < 36 → a ≠ 0 → a ≠ 35 → I2 a = I a := fun a x y z => by rw [f1 a (Or.inl x), i1 a (by omega) (by simp; omega)]
  have hi : ∀ a, 63 ≤ a → a < 81 → I2 a = I a := fun a x y => by
    rw [← i1 a y (by simp; omega)]
    by_cases q : a ≤ 68
    · exact ms a x q
    · exact f1 a (Or.inr (Or.inr (by omega)))
  have e36 : I' 36 = I 36 := i1 36 (by decide) (by decide)
  have h37 : I2 37 = I 37 := by rw [f1 37 (Or.inr (Or.inl rfl)), i1 37 (by decide) (by decide)]
  have h36 : ∀ j, j ∈ [53, 68, 55] → I2 36 j = I 36 j := fun j hj => by rw [f2 j (by simp at hj ⊢; omega), e36]
  have hc : ∀ a, 38 ≤ a → a ≤ 52 → ∀ j, j < wdA a * b ∨ wdA a * b + wdA a ≤ j → I2 a j = I a j := fun a x y j hj => by rw [f3 a x y j hj, i1 a (by omega) (by simp; omega)]
  have hbk : bk < 2 := g3.2.2.1.1.1
  refine ⟨p, nb, ns, nh, bk, G1.nil (by rw [f1 0 (Or.inl (by decide)), i0, upd_n (by decide), upd_n (by decide), upd_s]) m1, ?_, ?_, ?_, g5.c (by rw [lo 23 (by decide) (by decide) (by decide)]) (lo 24 (by decide) (by decide) (by decide)) (by rw [m62, e36]) (fun a x y => hi a (by omega) (by omega)), g6.c (fun a ha => lo a (by simp at ha; omega) (by simp at ha; omega) (by simp at ha; omega))⟩
  · obtain ⟨a1, a2, a3, ⟨m, a4, a5, a6⟩, n, b1, b2, b3, b4⟩ := g2
    have z0 : I2 0 = upd (upd (upd (I 0) 1 0) 3 e1) 4 e2 := by rw [f1 0 (Or.inl (by decide)), i0]
    refine ⟨by rw [z0, m10, upd_n (by decide), upd_s], by rw [z0, m11, upd_s], fun j hj => ?_, ⟨m, a4, by rw [f4 0 (Or.inl (by decide)), hL' 0 (by decide)]; exact a5, by rw [f5 55 (by decide), hL' 36 (by decide)]; exact a6⟩, n, b1, by rw [z0, upd_n (by decide), upd_n (by decide), upd_n (by decide)]; exact b2, by rw [h36 68 (by decide)]; exact b3, fun j hj => by rw [lo 34 (by decide) (by decide) (by decide), hi 80 (by decide) (by decide)]; exact b4 j hj⟩
    rw [f1 35 (Or.inl (by decide)), i35, m6, i1 62 (by decide) (by decide)]
    by_cases e : j = 1
    · rw [e, upd_s, upd_s, a3 1 (by decide)]
    · rw [upd_n e, upd_n e]; exact a3 j hj
  · obtain ⟨a1, a2, a3, ⟨nm, a4, a5⟩, a6, a7, a8, a9⟩ := g3
    have hl : ∀ a, 2 ≤ a → a ≤ 9 → I2 a = I a := fun a x y => lo a (by omega) (by omega) (by omega)
    have e5 := hl 5 (by decide) (by decide)
    have e6 := hl 6 (by decide) (by decide)
    refine ⟨a1.c (by rw [hl 2 (by decide) (by decide)]) (hl 7 (by decide) (by decide)) (hl 8 (by decide) (by decide)) (hl 9 (by decide) (by decide)), a2.c (hl 3 (by decide) (by decide)) e5, by rw [e5, e6]; exact a3.bk hb (by rw [m13, e36]) hc, ⟨nm, ?_, fun q j hq hj => ?_⟩, ?_, by rw [e6]; exact a7, by rw [e6]; exact a8, by rw [e5]; exact a9⟩
    · unfold NmC at *; rw [hl 4 (by decide) (by decide)]; exact a4
    · have hjw : j < wd q := by
        have n1 := a2.2.1; have n2 := a2.2.2.2.1; have n3 := a2.2.2.2.2.2.1
        unfold cnR at hj; unfold wd
        rcases (show q = 0 ∨ q = 1 ∨ q = 2 by omega) with e | e | e <;> subst e <;> simp at hj ⊢ <;> omega
      refine ⟨(a5 q j hq hj).1, ?_⟩
      rw [f6 q hq _ ?_, hL' (53 + q) (by omega)]
      · exact (a5 q j hq hj).2
      · rcases (show bk = 0 ∧ b = 1 ∨ bk = 1 ∧ b = 0 by omega) with ⟨z1, z2⟩ | ⟨z1, z2⟩
        · subst z1; subst z2; left; omega
        · subst z1; subst z2; right; omega
    · rw [hl 2 (by decide) (by decide), a6]
      have := bk_eq (a := 48) (w := 1) hc hbk hb (by decide) (by decide) rfl 0 (by omega)
      rw [show 1 * bk + 0 = bk by omega] at this
      exact this.symm
  · have h13 : XOk (xOf I 13) := by obtain ⟨_, _, _, _, _, _, _, _, _, q, _⟩ := g4; exact q
    have e54 : I2 36 54 = I 36 54 := by rw [m54, e36]
    exact (g4.c (I2 := I2) (fun a ha => lo a (by simp at ha; omega) (by simp at ha; omega) (by simp at ha; omega)) (by rw [xOf_c (lo 13 (by decide) (by decide) (by decide)) (lo 14 (by decide) (by decide) (by decide)) (lo 15 (by decide) (by decide) (by decide))]; exact h13) (h36 53 (by decide)) e54 (fun x hx => hx.c (fun a x y => hi a x (by omega))) (fun r hr => hr.c (hi 68 (by decide) (by decide)) (hi 69 (by decide) (by decide))) (fun uf ul hu => hu.c (h36 53 (by decide)) e54 (fun a x y => hi a x (by omega)))).up (Nat.le_succ _)
