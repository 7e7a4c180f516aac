def RPB (N : Nat) (L : aL) (P : Bool → aI → Prop) : aQ := fun r S' => ∃ (b : Bool) (I' : aI), r = some (.int (bI b)) ∧ S' = St N I' L ∧ P b I'
def rowOk (tb : Nat → Int32) (nb r : Nat) : Bool := !decide (nI nb ≤ tb (3 * r)) && (!decide (tb (3 * r + 1) < 1) && (!decide (40 < tb (3 * r + 1)) && !decide (99 < tb (3 * r + 2))))
def sgF (tb : Nat → Int32) (nb : Nat) : Nat → Bool
  | 0 => true
  | r + 1 => sgF tb nb r && rowOk tb nb r
theorem sgF_f (tb : Nat → Int32) (nb : Nat) : ∀ n r, r < n → rowOk tb nb r = false → sgF tb nb n = false
  | 0, _, h, _ => absurd h (Nat.not_lt_zero _)
  | n + 1, r, h, hf => by
    simp only [sgF]
    by_cases e : r = n
    · rw [← e, hf, Bool.and_false]
    · rw [sgF_f tb nb n r (by omega) hf, Bool.false_and]
/-- whether t bytes of the tape tell rows -/
def seeOk (tb : Nat → Int32) (nb t : Nat) : Bool := decide (3 ≤ t ∧ t ≤ 48 ∧ t % 3 = 0) && sgF tb nb (t / 3)
theorem rem3 {t : Nat} (h : t ≤ 1600) : nI t - nI t / 3 * 3 = nI (t % 3) := pk_rem (d := 3) (by omega) (by decide) (by decide)

set_option maxRecDepth 20000 in
theorem t_read {N : Nat} {I : aI} {L : aL} {t nb : Nat} (ht : t ≤ 1600) (hnb : nb ≤ 5) : Run 0 0 0 mX7_read [.ref 23, .ref 1, .int (nI t), .int (nI nb)] (St N I L) (RPB N L (fun b I2 => b = seeOk (tbF I) nb t ∧ (b = false → I2 = I) ∧ (b = true → Sm [23, 24] I I2 ∧ (∀ j, j ≠ 0 → I2 23 j = I 23 j) ∧ I2 23 0 = nI (t / 3) ∧ ∀ i, i < t → I2 24 i = tbF I i))) := by
  refine Run.of (ls := [some (.ref 23), some (.ref 1), some (.int _), some (.int _), none, none, none]) (by decide) (Nat.le_of_ble_eq_true rfl) rfl ?_
  by_cases hok : 3 ≤ t ∧ t ≤ 48 ∧ t % 3 = 0
  · obtain ⟨hr1, hr2, hr3⟩ := id hok
    refine Ex.iload_n (pc := 0) dX7_read_0 rfl rfl ?_
    refine Ex.iconst (pc := 1) (v := 3) dX7_read_1 rfl ?_
    refine Ex.icmp_lt (pc := 2) (tgt := 26) dX7_read_2 (by decide) (fun c2 => absurd c2 (nI_nlt (b := 3) hr1 (by omega))) (fun _ => ?_)
    refine Ex.iload_n (pc := 5) dX7_read_5 rfl rfl ?_
    refine Ex.aload_n (pc := 6) dX7_read_6 rfl rfl ?_
    refine Ex.getR (pc := 7) dX7_read_7 fX7_15 (sh23 _) r23_1 ?_
    refine Ex.alen (pc := 10) (t := 0) dX7_read_10 (sh24 _) (by decide) ?_
    refine Ex.icmp_gt (pc := 11) (tgt := 26) dX7_read_11 (by decide) (fun c11 => absurd c11 (nI_nlt (a := 48) hr2 (by decide))) (fun _ => ?_)
    refine Ex.iload_n (pc := 14) dX7_read_14 rfl rfl ?_
    refine Ex.aload_n (pc := 15) dX7_read_15 rfl rfl ?_
    refine Ex.alen (pc := 16) (t := 1) dX7_read_16 (sh1 _) (by decide) ?_
    refine Ex.icmp_gt (pc := 17) (tgt := 26) dX7_read_17 (by decide) (fun c17 => absurd c17 (nI_nlt (a := 1600) ht (by decide))) (fun _ => ?_)
    refine Ex.iload_n (pc := 20) dX7_read_20 rfl rfl ?_
    refine Ex.iconst (pc := 21) (v := 3) dX7_read_21 rfl ?_
    refine Ex.irem (pc := 22) dX7_read_22 (by decide) ?_
    refine Ex.if_eq (pc := 23) (tgt := 28) dX7_read_23 (by decide) (fun _ => ?_) (fun c23 => absurd (by rw [rem3 ht, hr3]; rfl) c23)
    refine Ex.iconst (pc := 28) (v := 0) dX7_read_28 rfl ?_
    refine Ex.istore (pc := 29) (ls' := [some (.ref 23), some (.ref 1), some (.int _), some (.int _), some (.int 0), none, none]) dX7_read_29 (by decide) rfl rfl ?_
    refine Ex.le (ls' := [some (.ref 23), some (.ref 1), some (.int (nI t)), some (.int (nI nb)), some (.int (nI (3 * 0))), none, none]) ⟨rfl, rfl, rfl, rfl, rfl, trivial⟩ ?_
    refine forUp (σ := Unit) (P := fun r _ => Ex 0 0 0 mX7_read 0 0 31 [some (.ref 23), some (.ref 1), some (.int (nI t)), some (.int (nI nb)), some (.int (nI (3 * r))), none, none] [] (St N I L) _) (Inv := fun r _ => sgF (tbF I) nb r = true) (t / 3) ?_ ?_ 0 () (Nat.zero_le _) rfl
    · rintro - hsg
      refine Ex.iload (pc := 31) dX7_read_31 rfl ?_
      refine Ex.iload_n (pc := 33) dX7_read_33 rfl rfl ?_
      refine Ex.icmp_ge (pc := 34) (tgt := 109) dX7_read_34 (by decide) (fun _ => ?_) (fun c34 => absurd (nI_le (by omega) (by omega)) c34)
      refine Ex.iconst (pc := 109) (v := 0) dX7_read_109 rfl ?_
      refine Ex.istore (pc := 110) (ls' := [some (.ref 23), some (.ref 1), some (.int _), some (.int _), some (.int 0), none, none]) dX7_read_110 (by decide) rfl rfl ?_
      refine Ex.le (ls' := [some (.ref 23), some (.ref 1), some (.int (nI t)), some (.int (nI nb)), some (.int (nI 0)), none, none]) ⟨rfl, rfl, rfl, rfl, rfl, trivial⟩ ?_
      refine forUp (σ := aI) (P := fun k I2 => Ex 0 0 0 mX7_read 0 0 112 [some (.ref 23), some (.ref 1), some (.int (nI t)), some (.int (nI nb)), some (.int (nI k)), none, none] [] (St N I2 L) _) (Inv := fun k I2 => Sm [24] I I2 ∧ ∀ i, i < k → I2 24 i = tbF I i) t ?_ ?_ 0 _ (Nat.zero_le _) ⟨Sm.rf, fun _ h => absurd h (Nat.not_lt_zero _)⟩
      · rintro I2 ⟨hS, hr⟩
        refine Ex.iload (pc := 112) dX7_read_112 rfl ?_
        refine Ex.iload_n (pc := 114) dX7_read_114 rfl rfl ?_
        refine Ex.icmp_ge (pc := 115) (tgt := 139) dX7_read_115 (by decide) (fun _ => ?_) (fun c115 => absurd (nI_le (Nat.le_refl t) (by omega)) c115)
        refine Ex.aload_n (pc := 139) dX7_read_139 rfl rfl ?_
        refine Ex.iload_n (pc := 140) dX7_read_140 rfl rfl ?_
        refine Ex.iconst (pc := 141) (v := 3) dX7_read_141 rfl ?_
        refine Ex.idiv (pc := 142) dX7_read_142 (by decide) ?_
        refine Ex.putI (pc := 143) dX7_read_143 fX7_9 (sh23 _) (Or.inl rfl) ⟨rfl, rfl⟩ ?_
        refine Ex.iconst (pc := 146) (v := 1) dX7_read_146 rfl ?_
        refine Ex.iret (pc := 147) rfl rfl rfl dX7_read_147 (Nat.le_refl _) (Nat.le_refl _) ?_
        have hse : seeOk (tbF I) nb t = true := by unfold seeOk; rw [decide_eq_true hok, hsg]; rfl
        refine ⟨true, _, rfl, rfl, hse.symm, fun h => absurd h (by decide), fun _ => ⟨?_, ?_, ?_, ?_⟩⟩
        · exact (hS.tr Sm.rf (l := [23, 24]) (l2 := []) (by decide) (by decide)).up (by decide)
        · intro j hj; rw [va_up_s, upd_n hj, hS 23 (by decide)]
        · rw [va_up_s, upd_s]; exact pk_div (d := 3) (by omega) (by decide) (by decide)
        · intro i hi; rw [va_up_n (by decide)]; exact hr i hi
      · rintro k I2 hk ⟨hS, hr⟩ ih
        refine Ex.iload (pc := 112) dX7_read_112 rfl ?_
        refine Ex.iload_n (pc := 114) dX7_read_114 rfl rfl ?_
        refine Ex.icmp_ge (pc := 115) (tgt := 139) dX7_read_115 (by decide) (fun c115 => absurd c115 (nI_ge hk (by omega))) (fun _ => ?_)
        refine Ex.aload_n (pc := 118) dX7_read_118 rfl rfl ?_
        refine Ex.getR (pc := 119) dX7_read_119 fX7_15 (sh23 _) r23_1 ?_
        refine Ex.iload (pc := 122) dX7_read_122 rfl ?_
        refine Ex.aload_n (pc := 124) dX7_read_124 rfl rfl ?_
        refine Ex.iload (pc := 125) dX7_read_125 rfl ?_
        refine Ex.bald (pc := 127) (j := k) dX7_read_127 (sh1 _) (vp_in_nI (by omega) (by decide)) (ixN2 (by omega)) ?_
        refine Ex.sipush (pc := 128) (v := 255) dX7_read_128 rfl ?_
        refine Ex.iand (pc := 131) dX7_read_131 ?_
        refine Ex.iast (pc := 132) (j := k) dX7_read_132 (sh24 _) (vp_in_nI (by omega) (by decide)) (ixN2 (by omega)) ?_
        refine Ex.iinc (pc := 133) (ls' := [some (.ref 23), some (.ref 1), some (.int _), some (.int _), some (.int _), none, none]) dX7_read_133 rfl rfl (by decide) rfl rfl ?_
        refine Ex.goto (pc := 136) (tgt := 112) dX7_read_136 (by decide) ?_
        rw [show nI k + Int32.ofInt 1 = nI (k + 1) from nI_1 k]
        refine ih _ ⟨hS.up (by decide), ?_⟩
        rw [va_up_s]
        exact rows_up hr (by rw [hS 1 (by decide)]; rfl)
    · rintro r - hr hsg ih
      refine Ex.iload (pc := 31) dX7_read_31 rfl ?_
      refine Ex.iload_n (pc := 33) dX7_read_33 rfl rfl ?_
      refine Ex.icmp_ge (pc := 34) (tgt := 109) dX7_read_34 (by decide) (fun c34 => absurd c34 (nI_ge (by omega) (by omega))) (fun _ => ?_)
      refine Ex.aload_n (pc := 37) dX7_read_37 rfl rfl ?_
      refine Ex.iload (pc := 38) dX7_read_38 rfl ?_
      refine Ex.iconst (pc := 40) (v := 1) dX7_read_40 rfl ?_
      refine Ex.iadd (pc := 41) dX7_read_41 ?_
      refine Ex.bald (pc := 42) (j := 3 * r + 1) dX7_read_42 (sh1 _) (ixA (x := nI (3 * r)) (j := 1) rfl (by omega) (by decide)).1 (ixA2 (x := nI (3 * r)) (j := 1) rfl (by omega)) ?_
      refine Ex.sipush (pc := 43) (v := 255) dX7_read_43 rfl ?_
      refine Ex.iand (pc := 46) dX7_read_46 ?_
      refine Ex.istore (pc := 47) (ls' := [some (.ref 23), some (.ref 1), some (.int _), some (.int _), some (.int _), some (.int _), none]) dX7_read_47 (by decide) rfl rfl ?_
      refine Ex.aload_n (pc := 49) dX7_read_49 rfl rfl ?_
      refine Ex.iload (pc := 50) dX7_read_50 rfl ?_
      refine Ex.bald (pc := 52) (j := 3 * r) dX7_read_52 (sh1 _) (vp_in_nI (by omega) (by decide)) (ixN2 (by omega)) ?_
      refine Ex.sipush (pc := 53) (v := 255) dX7_read_53 rfl ?_
      refine Ex.iand (pc := 56) dX7_read_56 ?_
      refine Ex.iload_n (pc := 57) dX7_read_57 rfl rfl ?_
      refine Ex.icmp_ge (pc := 58) (tgt := 93) dX7_read_58 (by decide) (fun c58 => ?_) (fun c58 => ?_)
      · skip
        refine Ex.iconst (pc := 93) (v := 0) dX7_read_93 rfl ?_
        refine Ex.istore (pc := 94) (ls' := [some (.ref 23), some (.ref 1), some (.int _), some (.int _), some (.int _), some (.int _), some (.int 0)]) dX7_read_94 (by decide) rfl rfl ?_
        refine Ex.iload (pc := 96) dX7_read_96 rfl ?_
        refine Ex.if_ne (pc := 98) (tgt := 103) dX7_read_98 (by decide) (fun c98 => absurd rfl c98) (fun _ => ?_)
        refine Ex.iconst (pc := 101) (v := 0) dX7_read_101 rfl ?_
        refine Ex.iret (pc := 102) rfl rfl rfl dX7_read_102 (Nat.le_refl _) (Nat.le_refl _) ?_
        have hbad : rowOk (tbF I) nb r = false := by unfold rowOk; rw [decide_eq_true (show nI nb ≤ tbF I (3 * r) from c58)]; rfl
        refine ⟨false, _, rfl, rfl, ?_, fun _ => rfl, fun h => absurd h (by decide)⟩
        unfold seeOk
        rw [sgF_f (tbF I) nb _ r hr hbad, Bool.and_false]
      · skip
        refine Ex.iload (pc := 61) dX7_read_61 rfl ?_
        refine Ex.iconst (pc := 63) (v := 1) dX7_read_63 rfl ?_
        refine Ex.icmp_lt (pc := 64) (tgt := 93) dX7_read_64 (by decide) (fun c64 => ?_) (fun c64 => ?_)
        · skip
          refine Ex.iconst (pc := 93) (v := 0) dX7_read_93 rfl ?_
          refine Ex.istore (pc := 94) (ls' := [some (.ref 23), some (.ref 1), some (.int _), some (.int _), some (.int _), some (.int _), some (.int 0)]) dX7_read_94 (by decide) rfl rfl ?_
          refine Ex.iload (pc := 96) dX7_read_96 rfl ?_
          refine Ex.if_ne (pc := 98) (tgt := 103) dX7_read_98 (by decide) (fun c98 => absurd rfl c98) (fun _ => ?_)
          refine Ex.iconst (pc := 101) (v := 0) dX7_read_101 rfl ?_
          refine Ex.iret (pc := 102) rfl rfl rfl dX7_read_102 (Nat.le_refl _) (Nat.le_refl _) ?_
          have hbad : rowOk (tbF I) nb r = false := by unfold rowOk; rw [decide_eq_true (show tbF I (3 * r + 1) < 1 from c64)]; simp
          refine ⟨false, _, rfl, rfl, ?_, fun _ => rfl, fun h => absurd h (by decide)⟩
          unfold seeOk
          rw [sgF_f (tbF I) nb _ r hr hbad, Bool.and_false]
        · skip
          refine Ex.iload (pc := 67) dX7_read_67 rfl ?_
          refine Ex.bipush (pc := 69) (v := 40) dX7_read_69 rfl ?_
          refine Ex.icmp_gt (pc := 71) (tgt := 93) dX7_read_71 (by decide) (fun c71 => ?_) (fun c71 => ?_)
          · skip
            refine Ex.iconst (pc := 93) (v := 0) dX7_read_93 rfl ?_
            refine Ex.istore (pc := 94) (ls' := [some (.ref 23), some (.ref 1), some (.int _), some (.int _), some (.int _), some (.int _), some (.int 0)]) dX7_read_94 (by decide) rfl rfl ?_
            refine Ex.iload (pc := 96) dX7_read_96 rfl ?_
            refine Ex.if_ne (pc := 98) (tgt := 103) dX7_read_98 (by decide) (fun c98 => absurd rfl c98) (fun _ => ?_)
            refine Ex.iconst (pc := 101) (v := 0) dX7_read_101 rfl ?_
            refine Ex.iret (pc := 102) rfl rfl rfl dX7_read_102 (Nat.le_refl _) (Nat.le_refl _) ?_
            have hbad : rowOk (tbF I) nb r = false := by unfold rowOk; rw [decide_eq_true (show 40 < tbF I (3 * r + 1) from c71)]; simp
            refine ⟨false, _, rfl, rfl, ?_, fun _ => rfl, fun h => absurd h (by decide)⟩
            unfold seeOk
            rw [sgF_f (tbF I) nb _ r hr hbad, Bool.and_false]
          · skip
            refine Ex.aload_n (pc := 74) dX7_read_74 rfl rfl ?_
            refine Ex.iload (pc := 75) dX7_read_75 rfl ?_
            refine Ex.iconst (pc := 77) (v := 2) dX7_read_77 rfl ?_
            refine Ex.iadd (pc := 78) dX7_read_78 ?_
            refine Ex.bald (pc := 79) (j := 3 * r + 2) dX7_read_79 (sh1 _) (ixA (x := nI (3 * r)) (j := 2) rfl (by omega) (by decide)).1 (ixA2 (x := nI (3 * r)) (j := 2) rfl (by omega)) ?_
            refine Ex.sipush (pc := 80) (v := 255) dX7_read_80 rfl ?_
            refine Ex.iand (pc := 83) dX7_read_83 ?_
            refine Ex.bipush (pc := 84) (v := 99) dX7_read_84 rfl ?_
            refine Ex.icmp_gt (pc := 86) (tgt := 93) dX7_read_86 (by decide) (fun c86 => ?_) (fun c86 => ?_)
            · skip
              refine Ex.iconst (pc := 93) (v := 0) dX7_read_93 rfl ?_
              refine Ex.istore (pc := 94) (ls' := [some (.ref 23), some (.ref 1), some (.int _), some (.int _), some (.int _), some (.int _), some (.int 0)]) dX7_read_94 (by decide) rfl rfl ?_
              refine Ex.iload (pc := 96) dX7_read_96 rfl ?_
              refine Ex.if_ne (pc := 98) (tgt := 103) dX7_read_98 (by decide) (fun c98 => absurd rfl c98) (fun _ => ?_)
              refine Ex.iconst (pc := 101) (v := 0) dX7_read_101 rfl ?_
              refine Ex.iret (pc := 102) rfl rfl rfl dX7_read_102 (Nat.le_refl _) (Nat.le_refl _) ?_
              have hbad : rowOk (tbF I) nb r = false := by unfold rowOk; rw [decide_eq_true (show 99 < tbF I (3 * r + 2) from c86)]; simp
              refine ⟨false, _, rfl, rfl, ?_, fun _ => rfl, fun h => absurd h (by decide)⟩
              unfold seeOk
              rw [sgF_f (tbF I) nb _ r hr hbad, Bool.and_false]
            · skip
              refine Ex.iconst (pc := 89) (v := 1) dX7_read_89 rfl ?_
              refine Ex.goto (pc := 90) (tgt := 94) dX7_read_90 (by decide) ?_
              refine Ex.istore (pc := 94) (ls' := [some (.ref 23), some (.ref 1), some (.int _), some (.int _), some (.int _), some (.int _), some (.int 1)]) dX7_read_94 (by decide) rfl rfl ?_
              refine Ex.iload (pc := 96) dX7_read_96 rfl ?_
              refine Ex.if_ne (pc := 98) (tgt := 103) dX7_read_98 (by decide) (fun _ => ?_) (fun c98 => absurd c98 (by decide))
              refine Ex.iinc (pc := 103) (ls' := [some (.ref 23), some (.ref 1), some (.int _), some (.int _), some (.int _), some (.int _), some (.int 1)]) dX7_read_103 rfl rfl (by decide) rfl rfl ?_
              refine Ex.goto (pc := 106) (tgt := 31) dX7_read_106 (by decide) ?_
              have hgood : rowOk (tbF I) nb r = true := by unfold rowOk; rw [decide_eq_false (show ¬ nI nb ≤ tbF I (3 * r) from c58), decide_eq_false (show ¬ tbF I (3 * r + 1) < 1 from c64), decide_eq_false (show ¬ 40 < tbF I (3 * r + 1) from c71), decide_eq_false (show ¬ 99 < tbF I (3 * r + 2) from c86)]; rfl
              rw [show nI (3 * r) + Int32.ofInt 3 = nI (3 * (r + 1)) from by rw [show Int32.ofInt 3 = nI 3 from rfl, nI_add, Nat.mul_add]]
              refine Ex.le (ls' := [some (.ref 23), some (.ref 1), some (.int (nI t)), some (.int (nI nb)), some (.int (nI (3 * (r + 1)))), none, none]) ⟨rfl, rfl, rfl, rfl, rfl, trivial⟩ (ih () ?_)
              simp only [sgF]; rw [hsg, hgood]; rfl
  · have hse : seeOk (tbF I) nb t = false := by unfold seeOk; rw [decide_eq_false hok]; rfl
    refine Ex.iload_n (pc := 0) dX7_read_0 rfl rfl ?_
    refine Ex.iconst (pc := 1) (v := 3) dX7_read_1 rfl ?_
    refine Ex.icmp_lt (pc := 2) (tgt := 26) dX7_read_2 (by decide) (fun c2 => ?_) (fun c2 => ?_)
    · skip
      refine Ex.iconst (pc := 26) (v := 0) dX7_read_26 rfl ?_
      refine Ex.iret (pc := 27) rfl rfl rfl dX7_read_27 (Nat.le_refl _) (Nat.le_refl _) ?_
      exact ⟨false, _, rfl, rfl, hse.symm, fun _ => rfl, fun h => absurd h (by decide)⟩
    · skip
      refine Ex.iload_n (pc := 5) dX7_read_5 rfl rfl ?_
      refine Ex.aload_n (pc := 6) dX7_read_6 rfl rfl ?_
      refine Ex.getR (pc := 7) dX7_read_7 fX7_15 (sh23 _) r23_1 ?_
      refine Ex.alen (pc := 10) (t := 0) dX7_read_10 (sh24 _) (by decide) ?_
      refine Ex.icmp_gt (pc := 11) (tgt := 26) dX7_read_11 (by decide) (fun c11 => ?_) (fun c11 => ?_)
      · skip
        refine Ex.iconst (pc := 26) (v := 0) dX7_read_26 rfl ?_
        refine Ex.iret (pc := 27) rfl rfl rfl dX7_read_27 (Nat.le_refl _) (Nat.le_refl _) ?_
        exact ⟨false, _, rfl, rfl, hse.symm, fun _ => rfl, fun h => absurd h (by decide)⟩
      · skip
        refine Ex.iload_n (pc := 14) dX7_read_14 rfl rfl ?_
        refine Ex.aload_n (pc := 15) dX7_read_15 rfl rfl ?_
        refine Ex.alen (pc := 16) (t := 1) dX7_read_16 (sh1 _) (by decide) ?_
        refine Ex.icmp_gt (pc := 17) (tgt := 26) dX7_read_17 (by decide) (fun c17 => ?_) (fun c17 => ?_)
        · skip
          refine Ex.iconst (pc := 26) (v := 0) dX7_read_26 rfl ?_
          refine Ex.iret (pc := 27) rfl rfl rfl dX7_read_27 (Nat.le_refl _) (Nat.le_refl _) ?_
          exact ⟨false, _, rfl, rfl, hse.symm, fun _ => rfl, fun h => absurd h (by decide)⟩
        · skip
          refine Ex.iload_n (pc := 20) dX7_read_20 rfl rfl ?_
          refine Ex.iconst (pc := 21) (v := 3) dX7_read_21 rfl ?_
          refine Ex.irem (pc := 22) dX7_read_22 (by decide) ?_
          refine Ex.if_eq (pc := 23) (tgt := 28) dX7_read_23 (by decide) (fun c23 => ?_) (fun c23 => ?_)
          · skip
            exfalso
            refine hok ⟨?_, ?_, ?_⟩
            · rcases Nat.lt_or_ge t 3 with q | q; exact absurd (nI_lt (b := 3) q (by decide)) c2; exact q
            · rcases Nat.lt_or_ge 48 t with q | q; exact absurd (nI_lt (a := 48) q (by omega)) c11; exact q
            · rw [rem3 ht] at c23; exact (nI_eq (b := 0) (by omega) (by decide)).mp c23
          · skip
            refine Ex.iconst (pc := 26) (v := 0) dX7_read_26 rfl ?_
            refine Ex.iret (pc := 27) rfl rfl rfl dX7_read_27 (Nat.le_refl _) (Nat.le_refl _) ?_
            exact ⟨false, _, rfl, rfl, hse.symm, fun _ => rfl, fun h => absurd h (by decide)⟩
set_option maxRecDepth 20000 in
theorem t_see0 {N : Nat} {I : aI} {L : aL} {nb ns nh t : Nat} (hc : CntOk I nb ns nh) (ht : I 0 1 = nI t) (h16 : t ≤ 1600) (hno : seeOk (tbF I) nb t = false) : Run 1 0 0 mX9_see [.ref 0] (St N I L) (RI (-1) (St N (refI (va_up I 0 (upd (I 0) 1 0)) 5) L)) := by
  refine Run.of (ls := [some (.ref 0), none]) (by decide) (Nat.le_of_ble_eq_true rfl) rfl ?_
  refine Ex.aload_n (pc := 0) dX9_see_0 rfl rfl ?_
  refine Ex.getI (pc := 1) dX9_see_1 fX9_13 (sh0 _) ?_
  refine Ex.istore_n (pc := 4) (ls' := [some (.ref 0), some (.int _)]) dX9_see_4 rfl (by decide) rfl rfl ?_
  rw [ht]
  refine Ex.aload_n (pc := 5) dX9_see_5 rfl rfl ?_
  refine Ex.iconst (pc := 6) (v := 0) dX9_see_6 rfl ?_
  refine Ex.putI (pc := 7) dX9_see_7 fX9_13 (sh0 _) (Or.inl rfl) ⟨rfl, rfl⟩ ?_
  refine Ex.aload_n (pc := 10) dX9_see_10 rfl rfl ?_
  refine Ex.getR (pc := 11) dX9_see_11 fX9_70 (sh0 _) r0_10 ?_
  refine Ex.aload_n (pc := 14) dX9_see_14 rfl rfl ?_
  refine Ex.getR (pc := 15) dX9_see_15 fX9_9 (sh0 _) r0_0 ?_
  refine Ex.iload_n (pc := 18) dX9_see_18 rfl rfl ?_
  refine Ex.aload_n (pc := 19) dX9_see_19 rfl rfl ?_
  refine Ex.getR (pc := 20) dX9_see_20 fX9_22 (sh0 _) r0_2 ?_
  refine Ex.getR (pc := 23) dX9_see_23 fX9_144 (sh2 _) r2_0 ?_
  refine Ex.iconst (pc := 26) (v := 0) dX9_see_26 rfl ?_
  refine Ex.iald (pc := 27) (j := 0) dX9_see_27 (sh3 _) (by unfold vp_in; decide) (by decide) ?_
  rw [va_up_n (show (3 : Nat) ≠ 0 by decide), hc.1]
  refine Ex.callV (pc := 28) (As := [.ref 1, .int _, .int _]) (rest := []) dX9_see_28 cX9_262 (t_read (t := t) (nb := nb) h16 hc.2.1) (sh23 _) rfl rfl (by decide) (Nat.le_refl _) (Nat.le_refl _) (Nat.le_of_ble_eq_true rfl) (Or.inl (fun r S' h => by obtain ⟨_, _, _, h, _⟩ := h; subst h; rfl)) (fun r S' hq _ _ => ?_)
  obtain ⟨b, I2, rfl, rfl, hb, hf, -⟩ := hq
  have e0 : tbF (va_up I 0 (upd (I 0) 1 0)) = tbF I := by unfold tbF; rw [va_up_n (by decide)]
  rw [e0, hno] at hb
  subst hb
  rw [hf rfl]
  refine Ex.if_ne (pc := 31) (tgt := 40) dX9_see_31 (by decide) (fun c31 => absurd rfl c31) (fun _ => ?_)
  refine Ex.aload_n (pc := 34) dX9_see_34 rfl rfl ?_
  refine Ex.iconst (pc := 35) (v := 5) dX9_see_35 rfl ?_
  refine Ex.callV (pc := 36) (As := [.int 5]) (rest := []) dX9_see_36 cX9_102 (t_refuse (k := 5) (by decide)) (sh0 _) rfl rfl (by decide) (Nat.le_refl _) (Nat.le_refl _) (Nat.le_of_ble_eq_true rfl) (Or.inl (fun r S' h => by obtain ⟨_, h⟩ := h; subst h; rfl)) (fun r S' hq _ _ => ?_)
  obtain ⟨rfl, rfl⟩ := hq
  refine Ex.iret (pc := 39) rfl rfl rfl dX9_see_39 (Nat.le_refl _) (Nat.le_refl _) ?_
  exact ⟨rfl, rfl⟩
set_option maxRecDepth 20000 in
theorem t_see1 {N : Nat} {I : aI} {L : aL} {nb ns nh t : Nat} (hc : CntOk I nb ns nh) (ht : I 0 1 = nI t) (h16 : t ≤ 1600) (hyes : seeOk (tbF I) nb t = true) : Run 1 0 0 mX9_see [.ref 0] (St N I L) (RP (some (.int (nI (t / 3)))) N L (fun I2 => Sm [0, 23, 24] I I2 ∧ (∀ j, j ≠ 1 → I2 0 j = I 0 j) ∧ I2 0 1 = 0 ∧ (∀ j, j ≠ 0 → I2 23 j = I 23 j) ∧ I2 23 0 = nI (t / 3) ∧ ∀ i, i < t → I2 24 i = tbF I i)) := by
  refine Run.of (ls := [some (.ref 0), none]) (by decide) (Nat.le_of_ble_eq_true rfl) rfl ?_
  refine Ex.aload_n (pc := 0) dX9_see_0 rfl rfl ?_
  refine Ex.getI (pc := 1) dX9_see_1 fX9_13 (sh0 _) ?_
  refine Ex.istore_n (pc := 4) (ls' := [some (.ref 0), some (.int _)]) dX9_see_4 rfl (by decide) rfl rfl ?_
  rw [ht]
  refine Ex.aload_n (pc := 5) dX9_see_5 rfl rfl ?_
  refine Ex.iconst (pc := 6) (v := 0) dX9_see_6 rfl ?_
  refine Ex.putI (pc := 7) dX9_see_7 fX9_13 (sh0 _) (Or.inl rfl) ⟨rfl, rfl⟩ ?_
  refine Ex.aload_n (pc := 10) dX9_see_10 rfl rfl ?_
  refine Ex.getR (pc := 11) dX9_see_11 fX9_70 (sh0 _) r0_10 ?_
  refine Ex.aload_n (pc := 14) dX9_see_14 rfl rfl ?_
  refine Ex.getR (pc := 15) dX9_see_15 fX9_9 (sh0 _) r0_0 ?_
  refine Ex.iload_n (pc := 18) dX9_see_18 rfl rfl ?_
  refine Ex.aload_n (pc := 19) dX9_see_19 rfl rfl ?_
  refine Ex.getR (pc := 20) dX9_see_20 fX9_22 (sh0 _) r0_2 ?_
  refine Ex.getR (pc := 23) dX9_see_23 fX9_144 (sh2 _) r2_0 ?_
  refine Ex.iconst (pc := 26) (v := 0) dX9_see_26 rfl ?_
  refine Ex.iald (pc := 27) (j := 0) dX9_see_27 (sh3 _) (by unfold vp_in; decide) (by decide) ?_
  rw [va_up_n (show (3 : Nat) ≠ 0 by decide), hc.1]
  refine Ex.callV (pc := 28) (As := [.ref 1, .int _, .int _]) (rest := []) dX9_see_28 cX9_262 (t_read (t := t) (nb := nb) h16 hc.2.1) (sh23 _) rfl rfl (by decide) (Nat.le_refl _) (Nat.le_refl _) (Nat.le_of_ble_eq_true rfl) (Or.inl (fun r S' h => by obtain ⟨_, _, _, h, _⟩ := h; subst h; rfl)) (fun r S' hq _ _ => ?_)
  obtain ⟨b, I2, rfl, rfl, hb, -, hf⟩ := hq
  have e0 : tbF (va_up I 0 (upd (I 0) 1 0)) = tbF I := by unfold tbF; rw [va_up_n (by decide)]
  rw [e0, hyes] at hb
  subst hb
  obtain ⟨hS, h0, h1, h2⟩ := hf rfl
  rw [e0] at h2
  refine Ex.if_ne (pc := 31) (tgt := 40) dX9_see_31 (by decide) (fun _ => ?_) (fun c31 => absurd c31 (by decide))
  refine Ex.aload_n (pc := 40) dX9_see_40 rfl rfl ?_
  refine Ex.getR (pc := 41) dX9_see_41 fX9_70 (sh0 _) r0_10 ?_
  refine Ex.getI (pc := 44) dX9_see_44 fX9_135 (sh23 _) ?_
  refine Ex.iret (pc := 47) rfl rfl rfl dX9_see_47 (Nat.le_refl _) (Nat.le_refl _) ?_
  refine ⟨_, by rw [h1], rfl, ?_, ?_, ?_, ?_, h1, h2⟩
  · exact (Sm.rf.up (by decide) : Sm [0] I (va_up I 0 (upd (I 0) 1 0))).tr hS (by decide) (by decide)
  · intro j hj; rw [hS 0 (by decide), va_up_s, upd_n hj]
  · rw [hS 0 (by decide), va_up_s, upd_s]
  · intro j hj; rw [h0 j hj, va_up_n (by decide)]
