theorem and1_bit (x : Int32) : x &&& 1 = 1 ↔ x.toBitVec.getLsbD 0 = true := by
  rw [← Int32.toBitVec_inj, Int32.toBitVec_and]
  show x.toBitVec &&& 1#32 = 1#32 ↔ _
  constructor
  · intro h
    have := congrArg (fun y => BitVec.getLsbD y 0) h
    simpa using this
  · intro h
    apply BitVec.eq_of_getLsbD_eq
    intro i hi
    rw [BitVec.getLsbD_and, BitVec.getLsbD_one]
    by_cases e : 0 = i
    · subst e; simp [h]
    · rw [decide_eq_false (Ne.symm e : ¬ i = 0)]; simp
theorem hb1_bit {b : Int32} {k : Nat} (hk : k < 6) : hb1 b k = b.toBitVec.getLsbD k := by
  have e1 : ((nI k &&& 31).toBitVec.smod 32).toNat = k := by
    rcases (show k = 0 ∨ k = 1 ∨ k = 2 ∨ k = 3 ∨ k = 4 ∨ k = 5 by omega) with rfl | rfl | rfl | rfl | rfl | rfl <;> decide
  have e : (b >>> (nI k &&& 31)).toBitVec = b.toBitVec.sshiftRight k := by
    show b.toBitVec.sshiftRight ((nI k &&& 31).toBitVec.smod 32).toNat = _
    rw [e1]
  unfold hb1
  rw [Bool.eq_iff_iff, decide_eq_true_iff, and1_bit, e, BitVec.getLsbD_sshiftRight]
  simp [show k < 32 by omega]
theorem sh1_bit {k j : Nat} (hk : k < 6) : ((1 : Int32) <<< (nI k &&& 31)).toBitVec.getLsbD j = decide (k = j) := by
  have e : ((1 : Int32) <<< (nI k &&& 31)).toBitVec = BitVec.twoPow 32 k := by
    rcases (show k = 0 ∨ k = 1 ∨ k = 2 ∨ k = 3 ∨ k = 4 ∨ k = 5 by omega) with rfl | rfl | rfl | rfl | rfl | rfl <;> decide
  rw [e, BitVec.getLsbD_twoPow]
  simp [show k < 32 by omega]
theorem m1_bit {j : Nat} (h : j < 32) : (-1 : Int32).toBitVec.getLsbD j = true := by
  rw [show (-1 : Int32).toBitVec = BitVec.allOnes 32 from by decide, BitVec.getLsbD_allOnes]
  simp [h]
theorem i32_ext {a b : Int32} (h : ∀ i, i < 32 → a.toBitVec.getLsbD i = b.toBitVec.getLsbD i) : a = b := Int32.toBitVec_inj.mp (BitVec.eq_of_getLsbD_eq h)
theorem hb1_not {b : Int32} {k : Nat} (hk : k < 6) : hb1 (b ^^^ (-1)) k = !hb1 b k := by
  rw [hb1_bit hk, hb1_bit hk, Int32.toBitVec_xor, BitVec.getLsbD_xor, m1_bit (by omega)]
  simp
theorem and_not_or (m w o : Int32) : m &&& (w ^^^ (-1)) &&& (o ^^^ (-1)) = m &&& ((w ||| o) ^^^ (-1)) := by
  apply i32_ext
  intro i hi
  simp only [Int32.toBitVec_and, Int32.toBitVec_xor, Int32.toBitVec_or, BitVec.getLsbD_and, BitVec.getLsbD_xor, BitVec.getLsbD_or, m1_bit hi]
  cases m.toBitVec.getLsbD i <;> cases w.toBitVec.getLsbD i <;> cases o.toBitVec.getLsbD i <;> rfl
theorem whoF_step (p : aP) (nm : Nat → Int32) (r : Nat) (sn er : Nat → Int32) (hb : Int32) (k : Nat) : whoF p nm r sn er hb (k + 1) = if hb1 hb k = false then whoF p nm r sn er hb k else whoF p nm r sn er hb k ||| (if evV p (upd (upd nm 7 (sn k)) 8 (er k)) r 0 = 0 then (0 : Int32) else (1 : Int32) <<< (nI k &&& 31)) := by
  simp only [whoF]
  by_cases h : hb >>> (nI k &&& 31) &&& 1 = 1
  · have e : hb1 hb k = true := decide_eq_true h
    rw [if_neg (fun q => q h), if_neg (show ¬ hb1 hb k = false by rw [e]; decide)]
  · have e : hb1 hb k = false := decide_eq_false h
    rw [if_pos h, if_pos e]
theorem whoF_bit (p : aP) (nm : Nat → Int32) (r : Nat) (sn er : Nat → Int32) (hb : Int32) : ∀ k j, k ≤ 6 → k ≤ j → j < 32 → (whoF p nm r sn er hb k).toBitVec.getLsbD j = false
  | 0, j, _, _, _ => by
    show (0 : Int32).toBitVec.getLsbD j = false
    rw [show (0 : Int32).toBitVec = 0#32 from rfl, BitVec.getLsbD_zero]
  | k + 1, j, h6, hj, h32 => by
    have ih := whoF_bit p nm r sn er hb k j (by omega) (by omega) h32
    rw [whoF_step]
    split
    · exact ih
    · rw [Int32.toBitVec_or, BitVec.getLsbD_or, ih]
      split
      · rw [show (0 : Int32).toBitVec = 0#32 from rfl, BitVec.getLsbD_zero]; rfl
      · rw [sh1_bit (by omega)]
        simp [show k ≠ j by omega]
theorem hb1_or_who {p : aP} {nm : Nat → Int32} {r : Nat} {sn er : Nat → Int32} {hb sv : Int32} {k : Nat} (hk : k < 6) : hb1 (sv ||| whoF p nm r sn er hb k) k = hb1 sv k := by
  rw [hb1_bit hk, hb1_bit hk, Int32.toBitVec_or, BitVec.getLsbD_or, whoF_bit p nm r sn er hb k k (by omega) (Nat.le_refl _) (by omega)]
  simp
def pbI (v : Nat → Int32) (k : Nat) : Int32 := if k = 0 then -1 else nI (pkF v k)
def pbM (v : Nat → Int32) (k : Nat) : Int64 := if k = 0 then 0 else (v (pkF v k)).toInt64

set_option maxRecDepth 20000 in
theorem tm_deepest {N : Nat} {I : aI} {L : aL} {bk nb ns nh v : Nat} {x : aX} (hB : RefB I bk nb ns nh) (hX : XR I v nb ns x) (hv : v < 22) : Run 0 0 0 mX10_deepest [.ref 36, .int (nI v)] (St N I L) (RI (dpI (dpF x.2.2.2.2 ns)) (St N I L)) := by
  refine Run.of (ls := [some (.ref 36), some (.int _), none, none]) (by decide) (Nat.le_of_ble_eq_true rfl) rfl ?_
  obtain ⟨h1, h2, hnb, hns, hnh, hcb, hcs, hch⟩ := hB
  obtain ⟨x1, x2, x3, x4, x5⟩ := hX
  generalize x.2.2.2.2 = f at *
  refine Ex.iconst (pc := 0) (v := (-1)) dX10_deepest_0 rfl ?_
  refine Ex.istore_n (pc := 1) (ls' := [some (.ref 36), some (.int _), some (.int (-1)), none]) dX10_deepest_1 rfl (by decide) rfl rfl ?_
  refine Ex.iconst (pc := 2) (v := 0) dX10_deepest_2 rfl ?_
  refine Ex.istore_n (pc := 3) (ls' := [some (.ref 36), some (.int _), some (.int (-1)), some (.int 0)]) dX10_deepest_3 rfl (by decide) rfl rfl ?_
  refine forUp (σ := Unit) (P := fun k _ => Ex 0 0 0 mX10_deepest 0 0 4 [some (.ref 36), some (.int (nI v)), some (.int (dpI (dpF f k))), some (.int (nI k))] [] (St N I L) _) (Inv := fun _ _ => True) ns ?_ ?_ 0 () (Nat.zero_le _) trivial
  · rintro - -
    refine Ex.iload_n (pc := 4) dX10_deepest_4 rfl rfl ?_
    refine Ex.aload_n (pc := 5) dX10_deepest_5 rfl rfl ?_
    refine Ex.getR (pc := 6) dX10_deepest_6 fX10_63 (sh36 _) r36_17 ?_
    refine Ex.aload_n (pc := 9) dX10_deepest_9 rfl rfl ?_
    refine Ex.getI (pc := 10) dX10_deepest_10 fX10_51 (sh36 _) ?_
    refine Ex.iald (pc := 13) (j := bk) dX10_deepest_13 (sh41 _) (ixX h2 h1 (by decide)) (ixX2 h2 (by omega)) ?_
    rw [hcs]
    refine Ex.icmp_ge (pc := 14) (tgt := 59) dX10_deepest_14 (by decide) (fun _ => ?_) (fun c14 => absurd (nI_le (Nat.le_refl _) (by omega)) c14)
    refine Ex.iload_n (pc := 59) dX10_deepest_59 rfl rfl ?_
    refine Ex.iret (pc := 60) rfl rfl rfl dX10_deepest_60 (Nat.le_refl _) (Nat.le_refl _) ?_
    exact ⟨rfl, rfl⟩
  · rintro k - hk - ih
    have ih := ih () trivial
    have hst := dpF_step f k
    have e5 := x5 k hk
    have hlt := dpF_lt f k
    generalize dpF f k = o at *
    rcases o with _ | c
    · skip
      refine Ex.iload_n (pc := 4) dX10_deepest_4 rfl rfl ?_
      refine Ex.aload_n (pc := 5) dX10_deepest_5 rfl rfl ?_
      refine Ex.getR (pc := 6) dX10_deepest_6 fX10_63 (sh36 _) r36_17 ?_
      refine Ex.aload_n (pc := 9) dX10_deepest_9 rfl rfl ?_
      refine Ex.getI (pc := 10) dX10_deepest_10 fX10_51 (sh36 _) ?_
      refine Ex.iald (pc := 13) (j := bk) dX10_deepest_13 (sh41 _) (ixX h2 h1 (by decide)) (ixX2 h2 (by omega)) ?_
      rw [hcs]
      refine Ex.icmp_ge (pc := 14) (tgt := 59) dX10_deepest_14 (by decide) (fun c14 => absurd c14 (nI_ge hk (by omega))) (fun _ => ?_)
      refine Ex.aload_n (pc := 17) dX10_deepest_17 rfl rfl ?_
      refine Ex.getR (pc := 18) dX10_deepest_18 fX10_162 (sh36 _) r36_49 ?_
      refine Ex.bipush (pc := 21) (v := 6) dX10_deepest_21 rfl ?_
      refine Ex.iload_n (pc := 23) dX10_deepest_23 rfl rfl ?_
      refine Ex.imul (pc := 24) dX10_deepest_24 ?_
      refine Ex.iload_n (pc := 25) dX10_deepest_25 rfl rfl ?_
      refine Ex.iadd (pc := 26) dX10_deepest_26 ?_
      refine Ex.iald (pc := 27) (j := 6 * v + k) dX10_deepest_27 (sh66 _) (ixE (c := 6) (a := v) (b := k) rfl rfl (by omega) (by decide)) (ixE2 (c := 6) rfl rfl (by omega)) ?_
      refine Ex.iload_n (pc := 28) dX10_deepest_28 rfl rfl ?_
      refine Ex.iconst (pc := 29) (v := (-1)) dX10_deepest_29 rfl ?_
      refine Ex.icmp_ne (pc := 30) (tgt := 37) dX10_deepest_30 (by decide) (fun c30 => absurd rfl c30) (fun _ => ?_)
      refine Ex.iconst (pc := 33) (v := 0) dX10_deepest_33 rfl ?_
      refine Ex.goto (pc := 34) (tgt := 48) dX10_deepest_34 (by decide) ?_
      refine Ex.icmp_le (pc := 48) (tgt := 53) dX10_deepest_48 (by decide) (fun c48 => ?_) (fun c48 => ?_)
      · skip
        refine Ex.iinc (pc := 53) (ls' := [some (.ref 36), some (.int _), some (.int _), some (.int _)]) dX10_deepest_53 rfl rfl (by decide) rfl rfl ?_
        refine Ex.goto (pc := 56) (tgt := 4) dX10_deepest_56 (by decide) ?_
        rw [e5] at c48
        rw [if_pos (show f k ≤ dpM f none from c48)] at hst
        rw [show nI k + Int32.ofInt 1 = nI (k + 1) from nI_1 k]
        rw [hst] at ih
        exact ih
      · skip
        refine Ex.iload_n (pc := 51) dX10_deepest_51 rfl rfl ?_
        refine Ex.istore_n (pc := 52) (ls' := [some (.ref 36), some (.int _), some (.int _), some (.int _)]) dX10_deepest_52 rfl (by decide) rfl rfl ?_
        refine Ex.iinc (pc := 53) (ls' := [some (.ref 36), some (.int _), some (.int _), some (.int _)]) dX10_deepest_53 rfl rfl (by decide) rfl rfl ?_
        refine Ex.goto (pc := 56) (tgt := 4) dX10_deepest_56 (by decide) ?_
        rw [e5] at c48
        rw [if_neg (show ¬ f k ≤ dpM f none from c48)] at hst
        rw [show nI k + Int32.ofInt 1 = nI (k + 1) from nI_1 k]
        rw [hst] at ih
        exact ih
    · have hc := hlt c rfl
      refine Ex.iload_n (pc := 4) dX10_deepest_4 rfl rfl ?_
      refine Ex.aload_n (pc := 5) dX10_deepest_5 rfl rfl ?_
      refine Ex.getR (pc := 6) dX10_deepest_6 fX10_63 (sh36 _) r36_17 ?_
      refine Ex.aload_n (pc := 9) dX10_deepest_9 rfl rfl ?_
      refine Ex.getI (pc := 10) dX10_deepest_10 fX10_51 (sh36 _) ?_
      refine Ex.iald (pc := 13) (j := bk) dX10_deepest_13 (sh41 _) (ixX h2 h1 (by decide)) (ixX2 h2 (by omega)) ?_
      rw [hcs]
      refine Ex.icmp_ge (pc := 14) (tgt := 59) dX10_deepest_14 (by decide) (fun c14 => absurd c14 (nI_ge hk (by omega))) (fun _ => ?_)
      refine Ex.aload_n (pc := 17) dX10_deepest_17 rfl rfl ?_
      refine Ex.getR (pc := 18) dX10_deepest_18 fX10_162 (sh36 _) r36_49 ?_
      refine Ex.bipush (pc := 21) (v := 6) dX10_deepest_21 rfl ?_
      refine Ex.iload_n (pc := 23) dX10_deepest_23 rfl rfl ?_
      refine Ex.imul (pc := 24) dX10_deepest_24 ?_
      refine Ex.iload_n (pc := 25) dX10_deepest_25 rfl rfl ?_
      refine Ex.iadd (pc := 26) dX10_deepest_26 ?_
      refine Ex.iald (pc := 27) (j := 6 * v + k) dX10_deepest_27 (sh66 _) (ixE (c := 6) (a := v) (b := k) rfl rfl (by omega) (by decide)) (ixE2 (c := 6) rfl rfl (by omega)) ?_
      refine Ex.iload_n (pc := 28) dX10_deepest_28 rfl rfl ?_
      refine Ex.iconst (pc := 29) (v := (-1)) dX10_deepest_29 rfl ?_
      refine Ex.icmp_ne (pc := 30) (tgt := 37) dX10_deepest_30 (by decide) (fun _ => ?_) (fun c30 => absurd c30 (fun e => absurd (show nI c < 0 from by rw [show nI c = -1 from e]; decide) (nI_pos (by omega))))
      refine Ex.aload_n (pc := 37) dX10_deepest_37 rfl rfl ?_
      refine Ex.getR (pc := 38) dX10_deepest_38 fX10_162 (sh36 _) r36_49 ?_
      refine Ex.bipush (pc := 41) (v := 6) dX10_deepest_41 rfl ?_
      refine Ex.iload_n (pc := 43) dX10_deepest_43 rfl rfl ?_
      refine Ex.imul (pc := 44) dX10_deepest_44 ?_
      refine Ex.iload_n (pc := 45) dX10_deepest_45 rfl rfl ?_
      refine Ex.iadd (pc := 46) dX10_deepest_46 ?_
      refine Ex.iald (pc := 47) (j := 6 * v + c) dX10_deepest_47 (sh66 _) (ixE (c := 6) (a := v) (b := c) rfl rfl (by omega) (by decide)) (ixE2 (c := 6) rfl rfl (by omega)) ?_
      refine Ex.icmp_le (pc := 48) (tgt := 53) dX10_deepest_48 (by decide) (fun c48 => ?_) (fun c48 => ?_)
      · skip
        refine Ex.iinc (pc := 53) (ls' := [some (.ref 36), some (.int _), some (.int _), some (.int _)]) dX10_deepest_53 rfl rfl (by decide) rfl rfl ?_
        refine Ex.goto (pc := 56) (tgt := 4) dX10_deepest_56 (by decide) ?_
        rw [e5, x5 c (by omega)] at c48
        rw [if_pos (show f k ≤ dpM f (some c) from c48)] at hst
        rw [show nI k + Int32.ofInt 1 = nI (k + 1) from nI_1 k]
        rw [hst] at ih
        exact ih
      · skip
        refine Ex.iload_n (pc := 51) dX10_deepest_51 rfl rfl ?_
        refine Ex.istore_n (pc := 52) (ls' := [some (.ref 36), some (.int _), some (.int _), some (.int _)]) dX10_deepest_52 rfl (by decide) rfl rfl ?_
        refine Ex.iinc (pc := 53) (ls' := [some (.ref 36), some (.int _), some (.int _), some (.int _)]) dX10_deepest_53 rfl rfl (by decide) rfl rfl ?_
        refine Ex.goto (pc := 56) (tgt := 4) dX10_deepest_56 (by decide) ?_
        rw [e5, x5 c (by omega)] at c48
        rw [if_neg (show ¬ f k ≤ dpM f (some c) from c48)] at hst
        rw [show nI k + Int32.ofInt 1 = nI (k + 1) from nI_1 k]
        rw [hst] at ih
        exact ih
set_option maxRecDepth 20000 in
theorem tm_pick {N : Nat} {I : aI} {L : aL} {p : aP} {bk nb ns nh v s : Nat} {f5 f6 : Nat → Int32} {x : aX} (hP : RefP I bk nb ns nh p f5 f6) (hX : XR I v nb ns x) (hv : v < 22) (hs : s < ns) : Run 3 0 0 mX10_pick [.ref 36, .int (nI v), .int (nI s)] (St N I L) (RX N (fun w I2 L2 => w = some (.int (pbI (fun k => evV p (prow f5 f6 x s k) 4 0) nb)) ∧ Sm [71] I I2 ∧ SmL [70] L L2)) := by
  refine Run.of (ls := [some (.ref 36), some (.int _), some (.int _), none, none, none, none, none, none]) (by decide) (Nat.le_of_ble_eq_true rfl) rfl ?_
  obtain ⟨⟨h1, h2, hnb, hns, hnh, hcb, hcs, hch⟩, hC, hT, hf1, hf2, hf3⟩ := id hP
  obtain ⟨x1, x2, x3, x4, x5⟩ := id hX
  generalize hvv : (fun k => evV p (prow f5 f6 x s k) 4 0) = vv at *
  have hvk : ∀ k, evV p (prow f5 f6 x s k) 4 0 = vv k := fun k => by rw [← hvv]
  refine Ex.iconst (pc := 0) (v := (-1)) dX10_pick_0 rfl ?_
  refine Ex.istore_n (pc := 1) (ls' := [some (.ref 36), some (.int _), some (.int _), some (.int (-1)), none, none, none, none, none]) dX10_pick_1 rfl (by decide) rfl rfl ?_
  refine Ex.lconst (pc := 2) (v := 0) dX10_pick_2 rfl ?_
  refine Ex.lstore (pc := 3) (ls' := [some (.ref 36), some (.int _), some (.int _), some (.int (-1)), some (.long _), none, none, none, none]) dX10_pick_3 (by decide) rfl rfl ?_
  refine Ex.iconst (pc := 5) (v := 0) dX10_pick_5 rfl ?_
  refine Ex.istore (pc := 6) (ls' := [some (.ref 36), some (.int _), some (.int _), some (.int (-1)), some (.long _), none, some (.int 0), none, none]) dX10_pick_6 (by decide) rfl rfl ?_
  refine forUp (σ := aI × aL) (P := fun k q => Ex 3 0 0 mX10_pick 0 0 8 [some (.ref 36), some (.int (nI v)), some (.int (nI s)), some (.int (pbI vv k)), some (.long (pbM vv k)), none, some (.int (nI k)), none, none] [] (St N q.1 q.2) _) (Inv := fun k q => Sm [71] I q.1 ∧ SmL [70] L q.2) nb ?_ ?_ 0 (I, L) (Nat.zero_le _) ⟨Sm.rf, SmL.rf⟩
  · rintro ⟨I2, L2⟩ ⟨hS, hSL⟩
    dsimp only at *
    have hb2 : I2 36 13 = nI bk := by rw [hS 36 (by decide), h2]
    refine Ex.iload (pc := 8) dX10_pick_8 rfl ?_
    refine Ex.aload_n (pc := 10) dX10_pick_10 rfl rfl ?_
    refine Ex.getR (pc := 11) dX10_pick_11 fX10_54 (sh36 _) r36_14 ?_
    refine Ex.aload_n (pc := 14) dX10_pick_14 rfl rfl ?_
    refine Ex.getI (pc := 15) dX10_pick_15 fX10_51 (sh36 _) ?_
    refine Ex.iald (pc := 18) (j := bk) dX10_pick_18 (sh38 _) (ixX hb2 h1 (by decide)) (ixX2 hb2 (by omega)) ?_
    rw [hS 38 (by decide), hcb]
    refine Ex.icmp_ge (pc := 19) (tgt := 78) dX10_pick_19 (by decide) (fun _ => ?_) (fun c19 => absurd (nI_le (Nat.le_refl _) (by omega)) c19)
    refine Ex.iload_n (pc := 78) dX10_pick_78 rfl rfl ?_
    refine Ex.iret (pc := 79) rfl rfl rfl dX10_pick_79 (Nat.le_refl _) (Nat.le_refl _) ?_
    exact ⟨_, _, rfl, rfl, hS, hSL⟩
  · rintro k ⟨I2, L2⟩ hk ⟨hS, hSL⟩ ih
    dsimp only at *
    have hb2 : I2 36 13 = nI bk := by rw [hS 36 (by decide), h2]
    have hP2 : RefP I2 bk nb ns nh p f5 f6 := hP.sm hS (by decide)
    have hX2 : XR I2 v nb ns x := hX.sm hS (by decide)
    have k47 : ∀ (I3 : aI) (L3 : aL), Sm [71] I I3 → SmL [70] L L3 → Ex 3 0 0 mX10_pick 0 0 47 [some (.ref 36), some (.int (nI v)), some (.int (nI s)), some (.int (pbI vv k)), some (.long (pbM vv k)), none, some (.int (nI k)), none, none] [.long (vv k).toInt64] (St N I3 L3) (RX N (fun w I2 L2 => w = some (.int (pbI vv nb)) ∧ Sm [71] I I2 ∧ SmL [70] L L2)) := by
      intro I3 L3 hS3 hSL3
      have ih := ih (I3, L3) ⟨hS3, hSL3⟩
      dsimp only at ih
      by_cases k0 : k = 0
      · subst k0
        refine Ex.lstore (pc := 47) (ls' := [some (.ref 36), some (.int _), some (.int _), some (.int _), some (.long _), none, some (.int _), some (.long _), none]) dX10_pick_47 (by decide) rfl rfl ?_
        refine Ex.iload_n (pc := 49) dX10_pick_49 rfl rfl ?_
        refine Ex.iconst (pc := 50) (v := (-1)) dX10_pick_50 rfl ?_
        refine Ex.icmp_eq (pc := 51) (tgt := 65) dX10_pick_51 (by decide) (fun _ => ?_) (fun c51 => absurd (show pbI vv 0 = -1 from rfl) c51)
        refine Ex.lload (pc := 65) dX10_pick_65 rfl ?_
        refine Ex.lstore (pc := 67) (ls' := [some (.ref 36), some (.int _), some (.int _), some (.int _), some (.long _), none, some (.int _), some (.long _), none]) dX10_pick_67 (by decide) rfl rfl ?_
        refine Ex.iload (pc := 69) dX10_pick_69 rfl ?_
        refine Ex.istore_n (pc := 71) (ls' := [some (.ref 36), some (.int _), some (.int _), some (.int _), some (.long _), none, some (.int _), some (.long _), none]) dX10_pick_71 rfl (by decide) rfl rfl ?_
        refine Ex.iinc (pc := 72) (ls' := [some (.ref 36), some (.int _), some (.int _), some (.int _), some (.long _), none, some (.int _), some (.long _), none]) dX10_pick_72 rfl rfl (by decide) rfl rfl ?_
        refine Ex.goto (pc := 75) (tgt := 8) dX10_pick_75 (by decide) ?_
        rw [show nI 0 + Int32.ofInt 1 = nI (0 + 1) from nI_1 0]
        refine Ex.le (ls' := [some (.ref 36), some (.int (nI v)), some (.int (nI s)), some (.int (pbI vv (0 + 1))), some (.long (pbM vv (0 + 1))), none, some (.int (nI (0 + 1))), none, none]) ?_ ih
        refine ⟨rfl, rfl, rfl, ?_⟩
        simp [aLe, pbI, pbM, pkF]
      · have eb : pbI vv k = nI (pkF vv k) := by unfold pbI; rw [if_neg k0]
        have em : pbM vv k = (vv (pkF vv k)).toInt64 := by unfold pbM; rw [if_neg k0]
        have hpl := pkF_lt vv k (by omega)
        have ex : pkF vv (k + 1) = if vv k ≤ vv (pkF vv k) then pkF vv k else k := by simp only [pkF]; rw [if_neg k0]
        rw [eb, em]
        refine Ex.lstore (pc := 47) (ls' := [some (.ref 36), some (.int _), some (.int _), some (.int _), some (.long _), none, some (.int _), some (.long _), none]) dX10_pick_47 (by decide) rfl rfl ?_
        refine Ex.iload_n (pc := 49) dX10_pick_49 rfl rfl ?_
        refine Ex.iconst (pc := 50) (v := (-1)) dX10_pick_50 rfl ?_
        refine Ex.icmp_eq (pc := 51) (tgt := 65) dX10_pick_51 (by decide) (fun c51 => absurd c51 (fun e => absurd (show nI (pkF vv k) < 0 from by rw [show nI (pkF vv k) = -1 from e]; decide) (nI_pos (by omega)))) (fun _ => ?_)
        refine Ex.lload (pc := 54) dX10_pick_54 rfl ?_
        refine Ex.lload (pc := 56) dX10_pick_56 rfl ?_
        refine Ex.lcmp (pc := 58) dX10_pick_58 ?_
        refine Ex.if_gt (pc := 59) (tgt := 65) dX10_pick_59 (by decide) (fun c59 => ?_) (fun c59 => ?_)
        · skip
          refine Ex.lload (pc := 65) dX10_pick_65 rfl ?_
          refine Ex.lstore (pc := 67) (ls' := [some (.ref 36), some (.int _), some (.int _), some (.int _), some (.long _), none, some (.int _), some (.long _), none]) dX10_pick_67 (by decide) rfl rfl ?_
          refine Ex.iload (pc := 69) dX10_pick_69 rfl ?_
          refine Ex.istore_n (pc := 71) (ls' := [some (.ref 36), some (.int _), some (.int _), some (.int _), some (.long _), none, some (.int _), some (.long _), none]) dX10_pick_71 rfl (by decide) rfl rfl ?_
          refine Ex.iinc (pc := 72) (ls' := [some (.ref 36), some (.int _), some (.int _), some (.int _), some (.long _), none, some (.int _), some (.long _), none]) dX10_pick_72 rfl rfl (by decide) rfl rfl ?_
          refine Ex.goto (pc := 75) (tgt := 8) dX10_pick_75 (by decide) ?_
          rw [lg_cmp_gt, l64_lt] at c59
          rw [show nI k + Int32.ofInt 1 = nI (k + 1) from nI_1 k]
          rw [if_neg (Int32.not_le.mpr c59)] at ex
          refine Ex.le (ls' := [some (.ref 36), some (.int (nI v)), some (.int (nI s)), some (.int (pbI vv (k + 1))), some (.long (pbM vv (k + 1))), none, some (.int (nI (k + 1))), none, none]) ?_ ih
          refine ⟨rfl, rfl, rfl, ?_⟩
          simp [aLe, pbI, pbM, ex]
        · skip
          refine Ex.goto (pc := 62) (tgt := 72) dX10_pick_62 (by decide) ?_
          refine Ex.iinc (pc := 72) (ls' := [some (.ref 36), some (.int _), some (.int _), some (.int _), some (.long _), none, some (.int _), some (.long _), none]) dX10_pick_72 rfl rfl (by decide) rfl rfl ?_
          refine Ex.goto (pc := 75) (tgt := 8) dX10_pick_75 (by decide) ?_
          rw [lg_cmp_gt, l64_lt] at c59
          rw [show nI k + Int32.ofInt 1 = nI (k + 1) from nI_1 k]
          rw [if_pos (Int32.not_lt.mp c59)] at ex
          refine Ex.le (ls' := [some (.ref 36), some (.int (nI v)), some (.int (nI s)), some (.int (pbI vv (k + 1))), some (.long (pbM vv (k + 1))), none, some (.int (nI (k + 1))), none, none]) ?_ ih
          refine ⟨rfl, rfl, rfl, ?_⟩
          simp [aLe, pbI, pbM, ex]
    refine Ex.iload (pc := 8) dX10_pick_8 rfl ?_
    refine Ex.aload_n (pc := 10) dX10_pick_10 rfl rfl ?_
    refine Ex.getR (pc := 11) dX10_pick_11 fX10_54 (sh36 _) r36_14 ?_
    refine Ex.aload_n (pc := 14) dX10_pick_14 rfl rfl ?_
    refine Ex.getI (pc := 15) dX10_pick_15 fX10_51 (sh36 _) ?_
    refine Ex.iald (pc := 18) (j := bk) dX10_pick_18 (sh38 _) (ixX hb2 h1 (by decide)) (ixX2 hb2 (by omega)) ?_
    rw [hS 38 (by decide), hcb]
    refine Ex.icmp_ge (pc := 19) (tgt := 78) dX10_pick_19 (by decide) (fun c19 => absurd c19 (nI_ge hk (by omega))) (fun _ => ?_)
    refine Ex.aload_n (pc := 22) dX10_pick_22 rfl rfl ?_
    refine Ex.iload_n (pc := 23) dX10_pick_23 rfl rfl ?_
    refine Ex.iload (pc := 24) dX10_pick_24 rfl ?_
    refine Ex.iload_n (pc := 26) dX10_pick_26 rfl rfl ?_
    refine Ex.callV (pc := 27) (As := [.int _, .int _, .int _]) (rest := []) dX10_pick_27 cX10_424 (tm_lays1 hP2 hX2 hv hk hs) (sh36 _) rfl rfl (by decide) (Nat.le_refl _) (Nat.le_refl _) (Nat.le_of_ble_eq_true rfl) (Or.inl (fun r S' h => by obtain ⟨_, _, h, _⟩ := h; subst h; rfl)) (fun r S' hq _ _ => ?_)
    obtain ⟨I3, rfl, rfl, hS3, hA3, -⟩ := hq
    have hS13 : Sm [71] I I3 := hS.tr hS3 (by decide) (by decide)
    have hP3 : RefP I3 bk nb ns nh p f5 f6 := hP.sm hS13 (by decide)
    obtain ⟨a1, a2, a3, a4, a5, a6⟩ := hA3
    have hask : AskR (I3 71) (prow f5 f6 x s k) 4 := by
      refine AskR_mk ?_ ?_ ?_ ?_ ?_ ?_ ?_ ?_
      all_goals first | (intro q; omega) | skip
      all_goals simp [upd, prow, nmL, a1, a2, a3, a4, a5, a6]
    refine Ex.aload_n (pc := 30) dX10_pick_30 rfl rfl ?_
    refine Ex.iconst (pc := 31) (v := 4) dX10_pick_31 rfl ?_
    refine Ex.callV (pc := 32) (As := [.int 4]) (rest := []) dX10_pick_32 cX10_428 (tm_isTold h1 hP3.1.2.1 (r := 4) (by decide)) (sh36 _) rfl rfl (by decide) (Nat.le_refl _) (Nat.le_refl _) (Nat.le_of_ble_eq_true rfl) (Or.inl (fun r S' h => by obtain ⟨_, h⟩ := h; subst h; rfl)) (fun r S' hq _ _ => ?_)
    obtain ⟨rfl, rfl⟩ := hq
    refine Ex.if_eq (pc := 35) (tgt := 46) dX10_pick_35 (by decide) (fun c35 => ?_) (fun c35 => ?_)
    · skip
      refine Ex.lconst (pc := 46) (v := 0) dX10_pick_46 rfl ?_
      have heq : p.2.2.1 4 = p.2.2.2 4 := by
        rcases hP3.2.1 4 (by decide) with ⟨e, _⟩ | ⟨e, e1, e2, _⟩
        · exact e
        · rw [e2] at c35; exact absurd (of_decide_eq_true (by simpa [bI] using c35)) (show ¬ nI (p.2.2.1 4) = -1 from fun q => absurd (show nI (p.2.2.1 4) < 0 from by rw [q]; decide) (nI_pos (by omega)))
      rw [show (0 : Int64) = (vv k).toInt64 from by rw [← hvk, evV_w heq]; rfl]
      exact k47 _ _ hS13 hSL
    · skip
      have hlt : p.2.2.1 4 < p.2.2.2 4 := by
        rcases hP3.2.1 4 (by decide) with ⟨_, e⟩ | ⟨e, _⟩
        · rw [e] at c35; exact absurd rfl c35
        · exact e
      refine Ex.aload_n (pc := 38) dX10_pick_38 rfl rfl ?_
      refine Ex.iconst (pc := 39) (v := 4) dX10_pick_39 rfl ?_
      refine Ex.callV (pc := 40) (As := [.int 4]) (rest := []) dX10_pick_40 cX10_431 (tm_reckons (w0 := 0) h1 hP3.1.2.1 hP3.2.1 hT (r := 4) (by decide) hask hlt) (sh36 _) rfl rfl (by decide) (Nat.le_refl _) (Nat.le_refl _) (Nat.le_of_ble_eq_true rfl) (Or.inl (fun r S' h => by obtain ⟨_, _, h, _⟩ := h; subst h; rfl)) (fun r S' hq _ _ => ?_)
      obtain ⟨_, L3, rfl, rfl, rfl, hL3⟩ := hq
      refine Ex.goto (pc := 43) (tgt := 47) dX10_pick_43 (by decide) ?_
      rw [hvk]
      exact k47 _ _ hS13 (hSL.tr hL3 (by decide) (by decide))
