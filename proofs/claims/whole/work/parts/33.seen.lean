/-- the rows seen: board, strokes, what is left -/
abbrev aSee : Type := List (Nat × Nat × Int32)
def SeenR (I : aI) (rs : aSee) : Prop := I 23 0 = nI rs.length ∧ rs.length ≤ 16 ∧ ∀ (k b n : Nat) (l : Int32), rs[k]? = some (b, n, l) → b < 5 ∧ n ≤ 40 ∧ I 24 (3 * k) = nI b ∧ I 24 (3 * k + 1) = nI n ∧ I 24 (3 * k + 2) = l
theorem SeenR.sm {I I2 : aI} {rs : aSee} {l : List Nat} (h : SeenR I rs) (hS : Sm l I I2) (h1 : 23 ∉ l) (h2 : 24 ∉ l) : SeenR I2 rs := by
  unfold SeenR
  rw [hS 23 h1, hS 24 h2]
  exact h
def soF (p : aP) (f5 f6 : Nat → Int32) (x : aX) (s : Nat) : aSee → Bool
  | [] => true
  | (b, n, l) :: rs => decide ((rubX p f5 f6 x b s n).2.1 = l) && soF p f5 f6 x s rs
theorem soF_drop (p : aP) (f5 f6 : Nat → Int32) (x : aX) (s : Nat) {rs : aSee} {k b n : Nat} {l : Int32} (h : rs[k]? = some (b, n, l)) : soF p f5 f6 x s (rs.drop k) = (decide ((rubX p f5 f6 x b s n).2.1 = l) && soF p f5 f6 x s (rs.drop (k + 1))) := by
  obtain ⟨hk, he⟩ := List.getElem?_eq_some_iff.mp h
  rw [List.drop_eq_getElem_cons hk, he]
  rfl
def whF (p : aP) (f5 f6 : Nat → Int32) (x : aX) (rs : aSee) : Nat → Int32
  | 0 => 0
  | s + 1 => whF p f5 f6 x rs s ||| (if soF p f5 f6 x s rs = true then (1 : Int32) <<< (nI s &&& 31) else 0)
theorem rub_of {N : Nat} {I : aI} {p : aP} (hp : PlanG N I p) {I3 I4 : aI} {b s n : Nat} (ht3 : tOf I3 = (I 11 b, I 12 s, 0, 0)) (hn3 : I3 17 = upd (upd (upd (upd (I 17) 1 (I 5 b)) 5 (I 6 (6 + s))) 14 (I 10 1)) 16 (I 10 0)) (ht4 : tOf I4 = rubF p (I3 17) n (tOf I3)) : tOf I4 = rubX p (I 5) (I 6) (xOf I 10) b s n := by
  rw [ht4, ht3, hn3]
  exact rubF_congr hp.2 (fun j hj => nmL_upd j hj) _ _
theorem rubX_sm {p : aP} {I I2 : aI} {l : List Nat} {b s n : Nat} (hS : Sm l I I2) (h5 : 5 ∉ l) (h6 : 6 ∉ l) (h10 : 10 ∉ l) (h11 : 11 ∉ l) (h12 : 12 ∉ l) : rubX p (I2 5) (I2 6) (xOf I2 10) b s n = rubX p (I 5) (I 6) (xOf I 10) b s n := by
  simp only [xOf]
  rw [hS 5 h5, hS 6 h6, hS 10 h10, hS 11 h11, hS 12 h12]

set_option maxRecDepth 20000 in
theorem t_isSo {N : Nat} {I : aI} {L : aL} {p : aP} {nb ns nh : Nat} (hp : PlanG N I p) (hc : CntOk I nb ns nh) {s : Nat} {rs : aSee} (hs : s < 6) (hr : SeenR I rs) : Run 4 0 0 mX7_isSo [.ref 23, .int (nI s)] (St N I L) (RP (some (.int (bI (soF p (I 5) (I 6) (xOf I 10) s rs)))) N L (fun I2 => Sm [16, 17, 18] I I2)) := by
  refine Run.of (ls := [some (.ref 23), some (.int _), none]) (by decide) (Nat.le_of_ble_eq_true rfl) rfl ?_
  refine Ex.iconst (pc := 0) (v := 0) dX7_isSo_0 rfl ?_
  refine Ex.istore_n (pc := 1) (ls' := [some (.ref 23), some (.int _), some (.int 0)]) dX7_isSo_1 rfl (by decide) rfl rfl ?_
  refine Ex.le (ls' := [some (.ref 23), some (.int (nI s)), some (.int (nI (3 * 0)))]) ⟨rfl, rfl, rfl, trivial⟩ ?_
  refine forUp (σ := aI) (P := fun k I2 => Ex 4 0 0 mX7_isSo 0 0 2 [some (.ref 23), some (.int (nI s)), some (.int (nI (3 * k)))] [] (St N I2 L) _) (Inv := fun k I2 => Sm [16, 17, 18] I I2 ∧ soF p (I 5) (I 6) (xOf I 10) s rs = soF p (I 5) (I 6) (xOf I 10) s (rs.drop k)) rs.length ?_ ?_ 0 _ (Nat.zero_le _) ⟨Sm.rf, rfl⟩
  · rintro I2 ⟨hS, he⟩
    have hr2 := hr.sm hS (by decide) (by decide)
    have hl16 := hr.2.1
    refine Ex.iload_n (pc := 2) dX7_isSo_2 rfl rfl ?_
    refine Ex.iconst (pc := 3) (v := 3) dX7_isSo_3 rfl ?_
    refine Ex.aload_n (pc := 4) dX7_isSo_4 rfl rfl ?_
    refine Ex.getI (pc := 5) dX7_isSo_5 fX7_9 (sh23 _) ?_
    refine Ex.imul (pc := 8) dX7_isSo_8 ?_
    refine Ex.icmp_ge (pc := 9) (tgt := 71) dX7_isSo_9 (by decide) (fun _ => ?_) (fun c9 => absurd (by rw [hr2.1, show 3 * nI rs.length = nI (3 * rs.length) from pk_mul 3 _]; exact nI_le (Nat.le_refl _) (by omega)) c9)
    refine Ex.iconst (pc := 71) (v := 1) dX7_isSo_71 rfl ?_
    refine Ex.iret (pc := 72) rfl rfl rfl dX7_isSo_72 (Nat.le_refl _) (Nat.le_refl _) ?_
    refine ⟨_, ?_, rfl, hS⟩
    rw [he, List.drop_length]; rfl
  · rintro k I2 hk ⟨hS, he⟩ ih
    have hr2 := hr.sm hS (by decide) (by decide)
    have hl16 := hr.2.1
    have hp2 := hp.sm hS (by decide) (by decide) (by decide) (by decide)
    obtain ⟨⟨b, n, l⟩, hrow⟩ : ∃ q, rs[k]? = some q := ⟨rs[k], List.getElem?_eq_getElem hk⟩
    obtain ⟨hb, hn, e0, e1, e2⟩ := hr2.2.2 k b n l hrow
    have hd := soF_drop p (I 5) (I 6) (xOf I 10) s hrow
    refine Ex.iload_n (pc := 2) dX7_isSo_2 rfl rfl ?_
    refine Ex.iconst (pc := 3) (v := 3) dX7_isSo_3 rfl ?_
    refine Ex.aload_n (pc := 4) dX7_isSo_4 rfl rfl ?_
    refine Ex.getI (pc := 5) dX7_isSo_5 fX7_9 (sh23 _) ?_
    refine Ex.imul (pc := 8) dX7_isSo_8 ?_
    refine Ex.icmp_ge (pc := 9) (tgt := 71) dX7_isSo_9 (by decide) (fun c9 => absurd c9 (by rw [hr2.1, show 3 * nI rs.length = nI (3 * rs.length) from pk_mul 3 _]; exact nI_ge (by omega) (by omega))) (fun _ => ?_)
    refine Ex.aload_n (pc := 12) dX7_isSo_12 rfl rfl ?_
    refine Ex.getR (pc := 13) dX7_isSo_13 fX7_28 (sh23 _) r23_5 ?_
    refine Ex.aload_n (pc := 16) dX7_isSo_16 rfl rfl ?_
    refine Ex.getR (pc := 17) dX7_isSo_17 fX7_32 (sh23 _) r23_6 ?_
    refine Ex.aload_n (pc := 20) dX7_isSo_20 rfl rfl ?_
    refine Ex.getR (pc := 21) dX7_isSo_21 fX7_15 (sh23 _) r23_1 ?_
    refine Ex.iload_n (pc := 24) dX7_isSo_24 rfl rfl ?_
    refine Ex.iald (pc := 25) (j := 3 * k) dX7_isSo_25 (sh24 _) (vp_in_nI (by omega) (by decide)) (ixN2 (by omega)) ?_
    rw [e0]
    refine Ex.iload_n (pc := 26) dX7_isSo_26 rfl rfl ?_
    refine Ex.callV (pc := 27) (As := [.ref 10, .int _, .int _]) (rest := []) dX7_isSo_27 cX7_51 (t_lay10 (b := b) (s := s) hb hs) (sh16 _) rfl rfl (by decide) (Nat.le_refl _) (Nat.le_refl _) (Nat.le_of_ble_eq_true rfl) (Or.inl (fun r S' h => by obtain ⟨_, _, h, _⟩ := h; subst h; rfl)) (fun r S' hq _ _ => ?_)
    obtain ⟨I3, rfl, rfl, hS3, hb3, hs3, ht3, hn3⟩ := hq
    have hp3 := hp2.sm hS3 (by decide) (by decide) (by decide) (by decide)
    refine Ex.aload_n (pc := 30) dX7_isSo_30 rfl rfl ?_
    refine Ex.getR (pc := 31) dX7_isSo_31 fX7_28 (sh23 _) r23_5 ?_
    refine Ex.aload_n (pc := 34) dX7_isSo_34 rfl rfl ?_
    refine Ex.getR (pc := 35) dX7_isSo_35 fX7_15 (sh23 _) r23_1 ?_
    refine Ex.iload_n (pc := 38) dX7_isSo_38 rfl rfl ?_
    refine Ex.iconst (pc := 39) (v := 1) dX7_isSo_39 rfl ?_
    refine Ex.iadd (pc := 40) dX7_isSo_40 ?_
    refine Ex.iald (pc := 41) (j := 3 * k + 1) dX7_isSo_41 (sh24 _) (ixA (x := nI (3 * k)) (j := 1) rfl (by omega) (by decide)).1 (ixA2 (x := nI (3 * k)) (j := 1) rfl (by omega)) ?_
    rw [show I3 24 (3 * k + 1) = nI n from by rw [hS3 24 (by decide)]; exact e1]
    refine Ex.callV (pc := 42) (As := [.int _]) (rest := []) dX7_isSo_42 cX7_55 (t_rub (p := p) (n := n) hp3.1 (by omega)) (sh16 _) rfl rfl (by decide) (Nat.le_refl _) (Nat.le_refl _) (Nat.le_of_ble_eq_true rfl) (Or.inl (fun r S' h => by obtain ⟨_, _, h, _⟩ := h; subst h; rfl)) (fun r S' hq _ _ => ?_)
    obtain ⟨I4, rfl, rfl, hS4, hj4, ht4, hm4⟩ := hq
    have hr4 := rub_of hp2 ht3 hn3 ht4
    rw [rubX_sm hS (by decide) (by decide) (by decide) (by decide) (by decide)] at hr4
    have hS5 : Sm [16, 17, 18] I I4 := hS.tr (hS3.tr hS4 (l := [16, 17, 18]) (by decide) (by decide)) (by decide) (by decide)
    have z6 : I4 16 6 = (rubX p (I 5) (I 6) (xOf I 10) b s n).2.1 := by rw [← hr4]; rfl
    have z2 : I4 24 (3 * k + 2) = l := by rw [hS4 24 (by decide), hS3 24 (by decide)]; exact e2
    refine Ex.aload_n (pc := 45) dX7_isSo_45 rfl rfl ?_
    refine Ex.getR (pc := 46) dX7_isSo_46 fX7_28 (sh23 _) r23_5 ?_
    refine Ex.getI (pc := 49) dX7_isSo_49 fX7_59 (sh16 _) ?_
    refine Ex.aload_n (pc := 52) dX7_isSo_52 rfl rfl ?_
    refine Ex.getR (pc := 53) dX7_isSo_53 fX7_15 (sh23 _) r23_1 ?_
    refine Ex.iload_n (pc := 56) dX7_isSo_56 rfl rfl ?_
    refine Ex.iconst (pc := 57) (v := 2) dX7_isSo_57 rfl ?_
    refine Ex.iadd (pc := 58) dX7_isSo_58 ?_
    refine Ex.iald (pc := 59) (j := 3 * k + 2) dX7_isSo_59 (sh24 _) (ixA (x := nI (3 * k)) (j := 2) rfl (by omega) (by decide)).1 (ixA2 (x := nI (3 * k)) (j := 2) rfl (by omega)) ?_
    refine Ex.icmp_eq (pc := 60) (tgt := 65) dX7_isSo_60 (by decide) (fun c60 => ?_) (fun c60 => ?_)
    · skip
      refine Ex.iinc (pc := 65) (ls' := [some (.ref 23), some (.int _), some (.int _)]) dX7_isSo_65 rfl rfl (by decide) rfl rfl ?_
      refine Ex.goto (pc := 68) (tgt := 2) dX7_isSo_68 (by decide) ?_
      rw [z6, z2] at c60
      rw [show nI (3 * k) + Int32.ofInt 3 = nI (3 * (k + 1)) from by rw [show Int32.ofInt 3 = nI 3 from rfl, nI_add, Nat.mul_add]]
      refine ih _ ⟨hS5, ?_⟩
      rw [he, hd, decide_eq_true c60, Bool.true_and]
    · skip
      refine Ex.iconst (pc := 63) (v := 0) dX7_isSo_63 rfl ?_
      refine Ex.iret (pc := 64) rfl rfl rfl dX7_isSo_64 (Nat.le_refl _) (Nat.le_refl _) ?_
      rw [z6, z2] at c60
      refine ⟨_, ?_, rfl, hS5⟩
      rw [he, hd, decide_eq_false c60]; rfl
set_option maxRecDepth 20000 in
theorem t_stains {N : Nat} {I : aI} {L : aL} {p : aP} {nb ns nh : Nat} (hp : PlanG N I p) (hc : CntOk I nb ns nh) {rs : aSee} (hr : SeenR I rs) : Run 5 0 0 mX7_stains [.ref 23] (St N I L) (RP (some (.int (whF p (I 5) (I 6) (xOf I 10) rs ns))) N L (fun I2 => Sm [16, 17, 18] I I2)) := by
  refine Run.of (ls := [some (.ref 23), none, none]) (by decide) (Nat.le_of_ble_eq_true rfl) rfl ?_
  obtain ⟨hc0, hb5, hc1, hs6, hc2, hh6, hrib⟩ := id hc
  refine Ex.iconst (pc := 0) (v := 0) dX7_stains_0 rfl ?_
  refine Ex.istore_n (pc := 1) (ls' := [some (.ref 23), some (.int 0), none]) dX7_stains_1 rfl (by decide) rfl rfl ?_
  refine Ex.iconst (pc := 2) (v := 0) dX7_stains_2 rfl ?_
  refine Ex.istore_n (pc := 3) (ls' := [some (.ref 23), some (.int 0), some (.int 0)]) dX7_stains_3 rfl (by decide) rfl rfl ?_
  refine forUp (σ := aI) (P := fun k I2 => Ex 5 0 0 mX7_stains 0 0 4 [some (.ref 23), some (.int (whF p (I 5) (I 6) (xOf I 10) rs k)), some (.int (nI k))] [] (St N I2 L) _) (Inv := fun k I2 => Sm [16, 17, 18] I I2) ns ?_ ?_ 0 _ (Nat.zero_le _) Sm.rf
  · rintro I2 hS
    refine Ex.iload_n (pc := 4) dX7_stains_4 rfl rfl ?_
    refine Ex.aload_n (pc := 5) dX7_stains_5 rfl rfl ?_
    refine Ex.getR (pc := 6) dX7_stains_6 fX7_28 (sh23 _) r23_5 ?_
    refine Ex.getR (pc := 9) dX7_stains_9 fX7_36 (sh16 _) r16_0 ?_
    refine Ex.getR (pc := 12) dX7_stains_12 fX7_42 (sh2 _) r2_0 ?_
    refine Ex.iconst (pc := 15) (v := 1) dX7_stains_15 rfl ?_
    refine Ex.iald (pc := 16) (j := 1) dX7_stains_16 (sh3 _) (by unfold vp_in; decide) (by decide) ?_
    refine Ex.icmp_ge (pc := 17) (tgt := 44) dX7_stains_17 (by decide) (fun _ => ?_) (fun c17 => absurd (by rw [hS 3 (by decide), hc1]; exact nI_le (Nat.le_refl ns) (by omega)) c17)
    refine Ex.iload_n (pc := 44) dX7_stains_44 rfl rfl ?_
    refine Ex.iret (pc := 45) rfl rfl rfl dX7_stains_45 (Nat.le_refl _) (Nat.le_refl _) ?_
    exact ⟨_, rfl, rfl, hS⟩
  · rintro k I2 hk hS ih
    refine Ex.iload_n (pc := 4) dX7_stains_4 rfl rfl ?_
    refine Ex.aload_n (pc := 5) dX7_stains_5 rfl rfl ?_
    refine Ex.getR (pc := 6) dX7_stains_6 fX7_28 (sh23 _) r23_5 ?_
    refine Ex.getR (pc := 9) dX7_stains_9 fX7_36 (sh16 _) r16_0 ?_
    refine Ex.getR (pc := 12) dX7_stains_12 fX7_42 (sh2 _) r2_0 ?_
    refine Ex.iconst (pc := 15) (v := 1) dX7_stains_15 rfl ?_
    refine Ex.iald (pc := 16) (j := 1) dX7_stains_16 (sh3 _) (by unfold vp_in; decide) (by decide) ?_
    refine Ex.icmp_ge (pc := 17) (tgt := 44) dX7_stains_17 (by decide) (fun c17 => absurd c17 (by rw [hS 3 (by decide), hc1]; exact nI_ge hk (by omega))) (fun _ => ?_)
    refine Ex.iload_n (pc := 20) dX7_stains_20 rfl rfl ?_
    refine Ex.aload_n (pc := 21) dX7_stains_21 rfl rfl ?_
    refine Ex.iload_n (pc := 22) dX7_stains_22 rfl rfl ?_
    refine Ex.callV (pc := 23) (As := [.int _]) (rest := [.int _]) dX7_stains_23 cX7_47 (t_isSo (p := p) (nb := nb) (ns := ns) (nh := nh) (s := k) (rs := rs) (hp.sm hS (by decide) (by decide) (by decide) (by decide)) (hc.sm hS (by decide) (by decide)) (by omega) (hr.sm hS (by decide) (by decide))) (sh23 _) rfl rfl (by decide) (Nat.le_refl _) (Nat.le_refl _) (Nat.le_of_ble_eq_true rfl) (Or.inl (fun r S' h => by obtain ⟨_, _, h, _⟩ := h; subst h; rfl)) (fun r S' hq _ _ => ?_)
    obtain ⟨I3, rfl, rfl, hS3⟩ := hq
    have hso : soF p (I2 5) (I2 6) (xOf I2 10) k rs = soF p (I 5) (I 6) (xOf I 10) k rs := by simp only [xOf]; rw [hS 5 (by decide), hS 6 (by decide), hS 10 (by decide), hS 11 (by decide), hS 12 (by decide)]
    rw [hso]
    refine Ex.if_eq (pc := 26) (tgt := 35) dX7_stains_26 (by decide) (fun c26 => ?_) (fun c26 => ?_)
    · skip
      refine Ex.iconst (pc := 35) (v := 0) dX7_stains_35 rfl ?_
      refine Ex.ior (pc := 36) dX7_stains_36 ?_
      refine Ex.istore_n (pc := 37) (ls' := [some (.ref 23), some (.int _), some (.int _)]) dX7_stains_37 rfl (by decide) rfl rfl ?_
      refine Ex.iinc (pc := 38) (ls' := [some (.ref 23), some (.int _), some (.int _)]) dX7_stains_38 rfl rfl (by decide) rfl rfl ?_
      refine Ex.goto (pc := 41) (tgt := 4) dX7_stains_41 (by decide) ?_
      rw [show nI k + Int32.ofInt 1 = nI (k + 1) from nI_1 k]
      refine Ex.le (ls' := [some (.ref 23), some (.int (whF p (I 5) (I 6) (xOf I 10) rs (k + 1))), some (.int (nI (k + 1)))]) ⟨rfl, ?_, rfl, trivial⟩ (ih _ (hS.tr hS3 (by decide) (by decide)))
      refine congrArg Value.int ?_
      simp only [whF]
      rw [bI_0 c26]; rfl
    · skip
      refine Ex.iconst (pc := 29) (v := 1) dX7_stains_29 rfl ?_
      refine Ex.iload_n (pc := 30) dX7_stains_30 rfl rfl ?_
      refine Ex.ishl (pc := 31) dX7_stains_31 ?_
      refine Ex.goto (pc := 32) (tgt := 36) dX7_stains_32 (by decide) ?_
      refine Ex.ior (pc := 36) dX7_stains_36 ?_
      refine Ex.istore_n (pc := 37) (ls' := [some (.ref 23), some (.int _), some (.int _)]) dX7_stains_37 rfl (by decide) rfl rfl ?_
      refine Ex.iinc (pc := 38) (ls' := [some (.ref 23), some (.int _), some (.int _)]) dX7_stains_38 rfl rfl (by decide) rfl rfl ?_
      refine Ex.goto (pc := 41) (tgt := 4) dX7_stains_41 (by decide) ?_
      rw [show nI k + Int32.ofInt 1 = nI (k + 1) from nI_1 k]
      refine Ex.le (ls' := [some (.ref 23), some (.int (whF p (I 5) (I 6) (xOf I 10) rs (k + 1))), some (.int (nI (k + 1)))]) ⟨rfl, ?_, rfl, trivial⟩ (ih _ (hS.tr hS3 (by decide) (by decide)))
      refine congrArg Value.int ?_
      simp only [whF]
      rw [bI_1 c26]; rfl
set_option maxRecDepth 20000 in
theorem t_which {N : Nat} {I : aI} {L : aL} {p : aP} {nb ns nh : Nat} (hp : PlanG N I p) (hc : CntOk I nb ns nh) {rs : aSee} (hr : SeenR I rs) : Run 6 0 0 mX9_which [.ref 0] (St N I L) (RP (some (.int (whF p (I 5) (I 6) (xOf I 10) rs ns))) N L (fun I2 => Sm [16, 17, 18] I I2)) := by
  refine Run.of (ls := [some (.ref 0)]) (by decide) (Nat.le_of_ble_eq_true rfl) rfl ?_
  refine Ex.aload_n (pc := 0) dX9_which_0 rfl rfl ?_
  refine Ex.getR (pc := 1) dX9_which_1 fX9_70 (sh0 _) r0_10 ?_
  refine Ex.callV (pc := 4) (As := []) (rest := []) dX9_which_4 cX9_266 (t_stains hp hc hr) (sh23 _) rfl rfl (by decide) (Nat.le_refl _) (Nat.le_refl _) (Nat.le_of_ble_eq_true rfl) (Or.inl (fun r S' h => by obtain ⟨_, _, h, _⟩ := h; subst h; rfl)) (fun r S' hq _ _ => ?_)
  obtain ⟨I3, rfl, rfl, hS3⟩ := hq
  refine Ex.iret (pc := 7) rfl rfl rfl dX9_which_7 (Nat.le_refl _) (Nat.le_refl _) ?_
  exact ⟨_, rfl, rfl, hS3⟩
def hb1 (b : Int32) (k : Nat) : Bool := decide (b >>> (nI k &&& 31) &&& 1 = 1)
/-- how many of the first k are alike to st -/
def alF (lf : Nat → Int32) (bits : Int32) (st : Nat) : Nat → Nat
  | 0 => 0
  | k + 1 => alF lf bits st k + (if (hb1 bits st && hb1 bits k && decide (lf st = lf k)) = true then 1 else 0)
def maF (lf : Nat → Int32) (bits : Int32) : Nat → Nat
  | 0 => 0
  | k + 1 => if maF lf bits k < alF lf bits k 6 then alF lf bits k 6 else maF lf bits k
theorem alF_le (lf : Nat → Int32) (bits : Int32) (st : Nat) : ∀ k, alF lf bits st k ≤ k
  | 0 => Nat.le_refl _
  | k + 1 => by have := alF_le lf bits st k; simp only [alF]; split <;> omega
theorem maF_le (lf : Nat → Int32) (bits : Int32) : ∀ k, maF lf bits k ≤ 6
  | 0 => Nat.zero_le _
  | k + 1 => by have := maF_le lf bits k; have := alF_le lf bits k 6; simp only [maF]; split <;> omega

set_option maxRecDepth 20000 in
theorem t_mostAlike {N : Nat} {I : aI} {L : aL} {n : Nat} {bits : Int32} (hn : n < 41) : Run 1 0 0 mX7_mostAlike [.ref 23, .int (nI n), .int bits] (St N I L) (RI (nI (maF (fun i => I 25 (i * 41 + n)) bits 6)) (St N I L)) := by
  refine Run.of (ls := [some (.ref 23), some (.int _), some (.int _), none, none, none, none, none, none]) (by decide) (Nat.le_of_ble_eq_true rfl) rfl ?_
  refine Ex.iconst (pc := 0) (v := 0) dX7_mostAlike_0 rfl ?_
  refine Ex.istore_n (pc := 1) (ls' := [some (.ref 23), some (.int _), some (.int _), some (.int 0), none, none, none, none, none]) dX7_mostAlike_1 rfl (by decide) rfl rfl ?_
  refine Ex.iconst (pc := 2) (v := 0) dX7_mostAlike_2 rfl ?_
  refine Ex.istore (pc := 3) (ls' := [some (.ref 23), some (.int _), some (.int _), some (.int 0), some (.int 0), none, none, none, none]) dX7_mostAlike_3 (by decide) rfl rfl ?_
  refine Ex.le (ls' := [some (.ref 23), some (.int (nI n)), some (.int bits), some (.int (nI 0)), some (.int (nI 0)), none, none, none, none]) ⟨rfl, rfl, rfl, rfl, rfl, trivial⟩ ?_
  refine forUp (σ := Unit) (P := fun k _ => Ex 1 0 0 mX7_mostAlike 0 0 5 [some (.ref 23), some (.int (nI n)), some (.int bits), some (.int (nI (maF (fun i => I 25 (i * 41 + n)) bits k))), some (.int (nI k)), none, none, none, none] [] (St N I L) _) (Inv := fun _ _ => True) 6 ?_ ?_ 0 () (Nat.zero_le _) trivial
  · rintro - -
    refine Ex.iload (pc := 5) dX7_mostAlike_5 rfl ?_
    refine Ex.bipush (pc := 7) (v := 6) dX7_mostAlike_7 rfl ?_
    refine Ex.icmp_ge (pc := 9) (tgt := 117) dX7_mostAlike_9 (by decide) (fun _ => ?_) (fun c9 => absurd (by decide) c9)
    refine Ex.iload_n (pc := 117) dX7_mostAlike_117 rfl rfl ?_
    refine Ex.iret (pc := 118) rfl rfl rfl dX7_mostAlike_118 (Nat.le_refl _) (Nat.le_refl _) ?_
    exact ⟨rfl, rfl⟩
  · rintro k - hk - ih
    refine Ex.iload (pc := 5) dX7_mostAlike_5 rfl ?_
    refine Ex.bipush (pc := 7) (v := 6) dX7_mostAlike_7 rfl ?_
    refine Ex.icmp_ge (pc := 9) (tgt := 117) dX7_mostAlike_9 (by decide) (fun c9 => absurd c9 (nI_ge (b := 6) hk (by decide))) (fun _ => ?_)
    refine Ex.iconst (pc := 12) (v := 0) dX7_mostAlike_12 rfl ?_
    refine Ex.istore (pc := 13) (ls' := [some (.ref 23), some (.int _), some (.int _), some (.int _), some (.int _), some (.int 0), none, none, none]) dX7_mostAlike_13 (by decide) rfl rfl ?_
    refine Ex.iconst (pc := 15) (v := 0) dX7_mostAlike_15 rfl ?_
    refine Ex.istore (pc := 16) (ls' := [some (.ref 23), some (.int _), some (.int _), some (.int _), some (.int _), some (.int 0), some (.int 0), none, none]) dX7_mostAlike_16 (by decide) rfl rfl ?_
    refine Ex.le (ls' := [some (.ref 23), some (.int (nI n)), some (.int bits), some (.int (nI (maF (fun i => I 25 (i * 41 + n)) bits k))), some (.int (nI k)), some (.int (nI 0)), some (.int (nI 0)), none, none]) ⟨rfl, rfl, rfl, rfl, rfl, rfl, rfl, trivial⟩ ?_
    refine forUp (σ := Unit) (P := fun q _ => Ex 1 0 0 mX7_mostAlike 0 0 18 [some (.ref 23), some (.int (nI n)), some (.int bits), some (.int (nI (maF (fun i => I 25 (i * 41 + n)) bits k))), some (.int (nI k)), some (.int (nI (alF (fun i => I 25 (i * 41 + n)) bits k q))), some (.int (nI q)), none, none] [] (St N I L) _) (Inv := fun _ _ => True) 6 ?_ ?_ 0 () (Nat.zero_le _) trivial
    · rintro - -
      refine Ex.iload (pc := 18) dX7_mostAlike_18 rfl ?_
      refine Ex.bipush (pc := 20) (v := 6) dX7_mostAlike_20 rfl ?_
      refine Ex.icmp_ge (pc := 22) (tgt := 104) dX7_mostAlike_22 (by decide) (fun _ => ?_) (fun c22 => absurd (by decide) c22)
      refine Ex.iload_n (pc := 104) dX7_mostAlike_104 rfl rfl ?_
      refine Ex.iload (pc := 105) dX7_mostAlike_105 rfl ?_
      refine Ex.max (pc := 107) dX7_mostAlike_107 kl_X7_66 (by decide) (Nat.le_of_ble_eq_true rfl) (Nat.le_refl _) (Nat.le_refl _) ?_
      refine Ex.istore_n (pc := 110) (ls' := [some (.ref 23), some (.int _), some (.int _), some (.int _), some (.int _), some (.int _), some (.int _), none, none]) dX7_mostAlike_110 rfl (by decide) rfl rfl ?_
      refine Ex.iinc (pc := 111) (ls' := [some (.ref 23), some (.int _), some (.int _), some (.int _), some (.int _), some (.int _), some (.int _), none, none]) dX7_mostAlike_111 rfl rfl (by decide) rfl rfl ?_
      refine Ex.goto (pc := 114) (tgt := 5) dX7_mostAlike_114 (by decide) ?_
      rw [show nI k + Int32.ofInt 1 = nI (k + 1) from nI_1 k]
      refine Ex.le (ls' := [some (.ref 23), some (.int (nI n)), some (.int bits), some (.int (nI (maF (fun i => I 25 (i * 41 + n)) bits (k + 1)))), some (.int (nI (k + 1))), none, none, none, none]) ⟨rfl, rfl, rfl, ?_, rfl, trivial⟩ (ih () trivial)
      refine congrArg Value.int ?_
      have h1 := maF_le (fun i => I 25 (i * 41 + n)) bits k
      have h2 := alF_le (fun i => I 25 (i * 41 + n)) bits k 6
      simp only [maF]
      by_cases q : maF (fun i => I 25 (i * 41 + n)) bits k < alF (fun i => I 25 (i * 41 + n)) bits k 6
      · rw [if_pos q, if_pos (nI_lt q (by omega))]
      · rw [if_neg q, if_neg (nI_nlt (by omega) (by omega))]
    · rintro q - hq6 - ih2
      refine Ex.iload (pc := 18) dX7_mostAlike_18 rfl ?_
      refine Ex.bipush (pc := 20) (v := 6) dX7_mostAlike_20 rfl ?_
      refine Ex.icmp_ge (pc := 22) (tgt := 104) dX7_mostAlike_22 (by decide) (fun c22 => absurd c22 (nI_ge (b := 6) hq6 (by decide))) (fun _ => ?_)
      refine Ex.iload_n (pc := 25) dX7_mostAlike_25 rfl rfl ?_
      refine Ex.iload (pc := 26) dX7_mostAlike_26 rfl ?_
      refine Ex.ishr (pc := 28) dX7_mostAlike_28 ?_
      refine Ex.iconst (pc := 29) (v := 1) dX7_mostAlike_29 rfl ?_
      refine Ex.iand (pc := 30) dX7_mostAlike_30 ?_
      refine Ex.iconst (pc := 31) (v := 1) dX7_mostAlike_31 rfl ?_
      refine Ex.icmp_ne (pc := 32) (tgt := 49) dX7_mostAlike_32 (by decide) (fun c32 => ?_) (fun c32 => ?_)
      · skip
        refine Ex.iconst (pc := 49) (v := 0) dX7_mostAlike_49 rfl ?_
        refine Ex.istore (pc := 50) (ls' := [some (.ref 23), some (.int _), some (.int _), some (.int _), some (.int _), some (.int _), some (.int _), some (.int 0), none]) dX7_mostAlike_50 (by decide) rfl rfl ?_
        refine Ex.bipush (pc := 52) (v := 41) dX7_mostAlike_52 rfl ?_
        refine Ex.istore (pc := 54) (ls' := [some (.ref 23), some (.int _), some (.int _), some (.int _), some (.int _), some (.int _), some (.int _), some (.int 0), some (.int 41)]) dX7_mostAlike_54 (by decide) rfl rfl ?_
        refine Ex.iload (pc := 56) dX7_mostAlike_56 rfl ?_
        refine Ex.iload (pc := 58) dX7_mostAlike_58 rfl ?_
        refine Ex.if_eq (pc := 60) (tgt := 94) dX7_mostAlike_60 (by decide) (fun _ => ?_) (fun c60 => absurd rfl c60)
        refine Ex.iconst (pc := 94) (v := 0) dX7_mostAlike_94 rfl ?_
        refine Ex.iadd (pc := 95) dX7_mostAlike_95 ?_
        refine Ex.istore (pc := 96) (ls' := [some (.ref 23), some (.int _), some (.int _), some (.int _), some (.int _), some (.int _), some (.int _), some (.int 0), some (.int 41)]) dX7_mostAlike_96 (by decide) rfl rfl ?_
        refine Ex.iinc (pc := 98) (ls' := [some (.ref 23), some (.int _), some (.int _), some (.int _), some (.int _), some (.int _), some (.int _), some (.int 0), some (.int 41)]) dX7_mostAlike_98 rfl rfl (by decide) rfl rfl ?_
        refine Ex.goto (pc := 101) (tgt := 18) dX7_mostAlike_101 (by decide) ?_
        have hcd : (hb1 bits k && hb1 bits q && decide (I 25 (k * 41 + n) = I 25 (q * 41 + n))) = false := by rw [show hb1 bits k = false from decide_eq_false c32]; rfl
        rw [show nI q + Int32.ofInt 1 = nI (q + 1) from nI_1 q]
        refine Ex.le (ls' := [some (.ref 23), some (.int (nI n)), some (.int bits), some (.int (nI (maF (fun i => I 25 (i * 41 + n)) bits k))), some (.int (nI k)), some (.int (nI (alF (fun i => I 25 (i * 41 + n)) bits k (q + 1)))), some (.int (nI (q + 1))), none, none]) ⟨rfl, rfl, rfl, rfl, rfl, ?_, rfl, trivial⟩ (ih2 () trivial)
        refine congrArg Value.int ?_
        simp only [alF]
        rw [hcd]
        exact (Int32.add_zero _).symm
      · skip
        refine Ex.iload_n (pc := 35) dX7_mostAlike_35 rfl rfl ?_
        refine Ex.iload (pc := 36) dX7_mostAlike_36 rfl ?_
        refine Ex.ishr (pc := 38) dX7_mostAlike_38 ?_
        refine Ex.iconst (pc := 39) (v := 1) dX7_mostAlike_39 rfl ?_
        refine Ex.iand (pc := 40) dX7_mostAlike_40 ?_
        refine Ex.iconst (pc := 41) (v := 1) dX7_mostAlike_41 rfl ?_
        refine Ex.icmp_ne (pc := 42) (tgt := 49) dX7_mostAlike_42 (by decide) (fun c42 => ?_) (fun c42 => ?_)
        · skip
          refine Ex.iconst (pc := 49) (v := 0) dX7_mostAlike_49 rfl ?_
          refine Ex.istore (pc := 50) (ls' := [some (.ref 23), some (.int _), some (.int _), some (.int _), some (.int _), some (.int _), some (.int _), some (.int 0), none]) dX7_mostAlike_50 (by decide) rfl rfl ?_
          refine Ex.bipush (pc := 52) (v := 41) dX7_mostAlike_52 rfl ?_
          refine Ex.istore (pc := 54) (ls' := [some (.ref 23), some (.int _), some (.int _), some (.int _), some (.int _), some (.int _), some (.int _), some (.int 0), some (.int 41)]) dX7_mostAlike_54 (by decide) rfl rfl ?_
          refine Ex.iload (pc := 56) dX7_mostAlike_56 rfl ?_
          refine Ex.iload (pc := 58) dX7_mostAlike_58 rfl ?_
          refine Ex.if_eq (pc := 60) (tgt := 94) dX7_mostAlike_60 (by decide) (fun _ => ?_) (fun c60 => absurd rfl c60)
          refine Ex.iconst (pc := 94) (v := 0) dX7_mostAlike_94 rfl ?_
          refine Ex.iadd (pc := 95) dX7_mostAlike_95 ?_
          refine Ex.istore (pc := 96) (ls' := [some (.ref 23), some (.int _), some (.int _), some (.int _), some (.int _), some (.int _), some (.int _), some (.int 0), some (.int 41)]) dX7_mostAlike_96 (by decide) rfl rfl ?_
          refine Ex.iinc (pc := 98) (ls' := [some (.ref 23), some (.int _), some (.int _), some (.int _), some (.int _), some (.int _), some (.int _), some (.int 0), some (.int 41)]) dX7_mostAlike_98 rfl rfl (by decide) rfl rfl ?_
          refine Ex.goto (pc := 101) (tgt := 18) dX7_mostAlike_101 (by decide) ?_
          have hcd : (hb1 bits k && hb1 bits q && decide (I 25 (k * 41 + n) = I 25 (q * 41 + n))) = false := by rw [show hb1 bits q = false from decide_eq_false c42, Bool.and_false]; rfl
          rw [show nI q + Int32.ofInt 1 = nI (q + 1) from nI_1 q]
          refine Ex.le (ls' := [some (.ref 23), some (.int (nI n)), some (.int bits), some (.int (nI (maF (fun i => I 25 (i * 41 + n)) bits k))), some (.int (nI k)), some (.int (nI (alF (fun i => I 25 (i * 41 + n)) bits k (q + 1)))), some (.int (nI (q + 1))), none, none]) ⟨rfl, rfl, rfl, rfl, rfl, ?_, rfl, trivial⟩ (ih2 () trivial)
          refine congrArg Value.int ?_
          simp only [alF]
          rw [hcd]
          exact (Int32.add_zero _).symm
        · skip
          refine Ex.iconst (pc := 45) (v := 1) dX7_mostAlike_45 rfl ?_
          refine Ex.goto (pc := 46) (tgt := 50) dX7_mostAlike_46 (by decide) ?_
          refine Ex.istore (pc := 50) (ls' := [some (.ref 23), some (.int _), some (.int _), some (.int _), some (.int _), some (.int _), some (.int _), some (.int 1), none]) dX7_mostAlike_50 (by decide) rfl rfl ?_
          refine Ex.bipush (pc := 52) (v := 41) dX7_mostAlike_52 rfl ?_
          refine Ex.istore (pc := 54) (ls' := [some (.ref 23), some (.int _), some (.int _), some (.int _), some (.int _), some (.int _), some (.int _), some (.int 1), some (.int 41)]) dX7_mostAlike_54 (by decide) rfl rfl ?_
          refine Ex.iload (pc := 56) dX7_mostAlike_56 rfl ?_
          refine Ex.iload (pc := 58) dX7_mostAlike_58 rfl ?_
          refine Ex.if_eq (pc := 60) (tgt := 94) dX7_mostAlike_60 (by decide) (fun c60 => absurd c60 (by decide)) (fun _ => ?_)
          refine Ex.aload_n (pc := 63) dX7_mostAlike_63 rfl rfl ?_
          refine Ex.getR (pc := 64) dX7_mostAlike_64 fX7_25 (sh23 _) r23_4 ?_
          refine Ex.iload (pc := 67) dX7_mostAlike_67 rfl ?_
          refine Ex.iload (pc := 69) dX7_mostAlike_69 rfl ?_
          refine Ex.imul (pc := 71) dX7_mostAlike_71 ?_
          refine Ex.iload_n (pc := 72) dX7_mostAlike_72 rfl rfl ?_
          refine Ex.iadd (pc := 73) dX7_mostAlike_73 ?_
          refine Ex.iald (pc := 74) (j := k * 41 + n) dX7_mostAlike_74 (sh25 _) (by rw [show nI k * 41 + nI n = nI (k * 41 + n) from by rw [show nI k * 41 = nI (k * 41) from pk_mul k 41, nI_add]]; exact vp_in_nI (by omega) (by decide)) (by rw [show nI k * 41 + nI n = nI (k * 41 + n) from by rw [show nI k * 41 = nI (k * 41) from pk_mul k 41, nI_add]]; exact nI_clamp (by omega)) ?_
          refine Ex.aload_n (pc := 75) dX7_mostAlike_75 rfl rfl ?_
          refine Ex.getR (pc := 76) dX7_mostAlike_76 fX7_25 (sh23 _) r23_4 ?_
          refine Ex.iload (pc := 79) dX7_mostAlike_79 rfl ?_
          refine Ex.iload (pc := 81) dX7_mostAlike_81 rfl ?_
          refine Ex.imul (pc := 83) dX7_mostAlike_83 ?_
          refine Ex.iload_n (pc := 84) dX7_mostAlike_84 rfl rfl ?_
          refine Ex.iadd (pc := 85) dX7_mostAlike_85 ?_
          refine Ex.iald (pc := 86) (j := q * 41 + n) dX7_mostAlike_86 (sh25 _) (by rw [show nI q * 41 + nI n = nI (q * 41 + n) from by rw [show nI q * 41 = nI (q * 41) from pk_mul q 41, nI_add]]; exact vp_in_nI (by omega) (by decide)) (by rw [show nI q * 41 + nI n = nI (q * 41 + n) from by rw [show nI q * 41 = nI (q * 41) from pk_mul q 41, nI_add]]; exact nI_clamp (by omega)) ?_
          refine Ex.icmp_ne (pc := 87) (tgt := 94) dX7_mostAlike_87 (by decide) (fun c87 => ?_) (fun c87 => ?_)
          · skip
            refine Ex.iconst (pc := 94) (v := 0) dX7_mostAlike_94 rfl ?_
            refine Ex.iadd (pc := 95) dX7_mostAlike_95 ?_
            refine Ex.istore (pc := 96) (ls' := [some (.ref 23), some (.int _), some (.int _), some (.int _), some (.int _), some (.int _), some (.int _), some (.int 1), some (.int 41)]) dX7_mostAlike_96 (by decide) rfl rfl ?_
            refine Ex.iinc (pc := 98) (ls' := [some (.ref 23), some (.int _), some (.int _), some (.int _), some (.int _), some (.int _), some (.int _), some (.int 1), some (.int 41)]) dX7_mostAlike_98 rfl rfl (by decide) rfl rfl ?_
            refine Ex.goto (pc := 101) (tgt := 18) dX7_mostAlike_101 (by decide) ?_
            have hcd : (hb1 bits k && hb1 bits q && decide (I 25 (k * 41 + n) = I 25 (q * 41 + n))) = false := by rw [decide_eq_false (show ¬ I 25 (k * 41 + n) = I 25 (q * 41 + n) from c87), Bool.and_false]
            rw [show nI q + Int32.ofInt 1 = nI (q + 1) from nI_1 q]
            refine Ex.le (ls' := [some (.ref 23), some (.int (nI n)), some (.int bits), some (.int (nI (maF (fun i => I 25 (i * 41 + n)) bits k))), some (.int (nI k)), some (.int (nI (alF (fun i => I 25 (i * 41 + n)) bits k (q + 1)))), some (.int (nI (q + 1))), none, none]) ⟨rfl, rfl, rfl, rfl, rfl, ?_, rfl, trivial⟩ (ih2 () trivial)
            refine congrArg Value.int ?_
            simp only [alF]
            rw [hcd]
            exact (Int32.add_zero _).symm
          · skip
            refine Ex.iconst (pc := 90) (v := 1) dX7_mostAlike_90 rfl ?_
            refine Ex.goto (pc := 91) (tgt := 95) dX7_mostAlike_91 (by decide) ?_
            refine Ex.iadd (pc := 95) dX7_mostAlike_95 ?_
            refine Ex.istore (pc := 96) (ls' := [some (.ref 23), some (.int _), some (.int _), some (.int _), some (.int _), some (.int _), some (.int _), some (.int 1), some (.int 41)]) dX7_mostAlike_96 (by decide) rfl rfl ?_
            refine Ex.iinc (pc := 98) (ls' := [some (.ref 23), some (.int _), some (.int _), some (.int _), some (.int _), some (.int _), some (.int _), some (.int 1), some (.int 41)]) dX7_mostAlike_98 rfl rfl (by decide) rfl rfl ?_
            refine Ex.goto (pc := 101) (tgt := 18) dX7_mostAlike_101 (by decide) ?_
            have hcd : (hb1 bits k && hb1 bits q && decide (I 25 (k * 41 + n) = I 25 (q * 41 + n))) = true := by rw [show hb1 bits k = true from decide_eq_true c32, show hb1 bits q = true from decide_eq_true c42, decide_eq_true (show I 25 (k * 41 + n) = I 25 (q * 41 + n) from c87)]; rfl
            rw [show nI q + Int32.ofInt 1 = nI (q + 1) from nI_1 q]
            refine Ex.le (ls' := [some (.ref 23), some (.int (nI n)), some (.int bits), some (.int (nI (maF (fun i => I 25 (i * 41 + n)) bits k))), some (.int (nI k)), some (.int (nI (alF (fun i => I 25 (i * 41 + n)) bits k (q + 1)))), some (.int (nI (q + 1))), none, none]) ⟨rfl, rfl, rfl, rfl, rfl, ?_, rfl, trivial⟩ (ih2 () trivial)
            refine congrArg Value.int ?_
            simp only [alF]
            rw [hcd]
            exact (nI_1 _).symm
