theorem rubF_succ (p : aP) (nm : Nat → Int32) : ∀ n t, rubF p nm (n + 1) t = rubF p nm 1 (rubF p nm n t)
  | 0, t => rfl
  | n + 1, t => by
    by_cases h : t.2.1 ≤ 0
    · simp [rubF, h]
    · have e1 : rubF p nm (n + 1 + 1) t = rubF p nm (n + 1) (strk p nm t) := by rw [rubF, if_neg h]
      have e2 : rubF p nm (n + 1) t = rubF p nm n (strk p nm t) := by rw [rubF, if_neg h]
      rw [e1, e2, rubF_succ p nm n]
theorem alF_c {lf lg : Nat → Int32} {bits : Int32} {st : Nat} (h : ∀ i, i < 6 → hb1 bits i = true → lf i = lg i) (hst : st < 6) : ∀ k, k ≤ 6 → alF lf bits st k = alF lg bits st k
  | 0, _ => rfl
  | k + 1, hk => by
    simp only [alF]
    rw [alF_c h hst k (by omega)]
    congr 1
    cases e1 : hb1 bits st with
    | false => rfl
    | true =>
      cases e2 : hb1 bits k with
      | false => rfl
      | true => rw [h st hst e1, h k (by omega) e2]
theorem maF_c {lf lg : Nat → Int32} {bits : Int32} (h : ∀ i, i < 6 → hb1 bits i = true → lf i = lg i) : ∀ k, k ≤ 6 → maF lf bits k = maF lg bits k
  | 0, _ => rfl
  | k + 1, hk => by
    simp only [maF]
    rw [maF_c h k (by omega), alF_c h (by omega) 6 (Nat.le_refl _)]
/-- the strokes that tell most, and how many are left then -/
def teF (M : Nat → Nat) (t0 : Int32) : Nat → Int32 × Int32
  | 0 => (t0, 7)
  | k + 1 => if (teF M t0 k).2 ≤ nI (M (k + 1)) then teF M t0 k else (nI (k + 1), nI (M (k + 1)))
def teM (p : aP) (f5 f6 : Nat → Int32) (x : aX) (b : Nat) (bits : Int32) (n : Nat) : Nat := maF (fun i => (rubX p f5 f6 x b i n).2.1) bits 6

set_option maxRecDepth 20000 in
theorem t_tell {N : Nat} {I : aI} {L : aL} {p : aP} {b : Nat} {bits : Int32} (hp : PlanG N I p) (hb : b < 5) : Run 4 0 0 mX7_tell [.ref 23, .int (nI b), .int bits] (St N I L) (RP none N L (fun I2 => Sm [16, 17, 18, 23, 25] I I2 ∧ I2 23 0 = I 23 0 ∧ I2 23 2 = (teF (teM p (I 5) (I 6) (xOf I 10) b bits) (I 23 2) 40).1 ∧ I2 23 3 = (teF (teM p (I 5) (I 6) (xOf I 10) b bits) (I 23 2) 40).2)) := by
  refine Run.of (ls := [some (.ref 23), some (.int _), some (.int _), none, none]) (by decide) (Nat.le_of_ble_eq_true rfl) rfl ?_
  refine Ex.iconst (pc := 0) (v := 0) dX7_tell_0 rfl ?_
  refine Ex.istore_n (pc := 1) (ls' := [some (.ref 23), some (.int _), some (.int _), some (.int 0), none]) dX7_tell_1 rfl (by decide) rfl rfl ?_
  refine Ex.le (ls' := [some (.ref 23), some (.int (nI b)), some (.int bits), some (.int (nI 0)), none]) ⟨rfl, rfl, rfl, rfl, trivial⟩ ?_
  refine forUp (σ := aI) (P := fun k I2 => Ex 4 0 0 mX7_tell 0 0 2 [some (.ref 23), some (.int (nI b)), some (.int bits), some (.int (nI k)), none] [] (St N I2 L) _) (Inv := fun k I2 => Sm [16, 17, 18, 25] I I2 ∧ (∀ i, i < k → hb1 bits i = true → ∀ n, 1 ≤ n → n ≤ 40 → I2 25 (i * 41 + n) = (rubX p (I 5) (I 6) (xOf I 10) b i n).2.1)) 6 ?_ ?_ 0 _ (Nat.zero_le _) ⟨Sm.rf, fun _ h => absurd h (Nat.not_lt_zero _)⟩
  · rintro I1 ⟨hS1, hL1⟩
    refine Ex.iload_n (pc := 2) dX7_tell_2 rfl rfl ?_
    refine Ex.bipush (pc := 3) (v := 6) dX7_tell_3 rfl ?_
    refine Ex.icmp_ge (pc := 5) (tgt := 79) dX7_tell_5 (by decide) (fun _ => ?_) (fun c5 => absurd (by decide) c5)
    refine Ex.aload_n (pc := 79) dX7_tell_79 rfl rfl ?_
    refine Ex.bipush (pc := 80) (v := 7) dX7_tell_80 rfl ?_
    refine Ex.putI (pc := 82) dX7_tell_82 fX7_22 (sh23 _) (Or.inl rfl) ⟨rfl, rfl⟩ ?_
    refine Ex.iconst (pc := 85) (v := 1) dX7_tell_85 rfl ?_
    refine Ex.istore_n (pc := 86) (ls' := [some (.ref 23), some (.int _), some (.int _), some (.int 1), none]) dX7_tell_86 rfl (by decide) rfl rfl ?_
    refine Ex.le (ls' := [some (.ref 23), some (.int (nI b)), some (.int bits), some (.int (nI (1 + 0))), none]) ⟨rfl, rfl, rfl, rfl, trivial⟩ ?_
    refine forUp (σ := aI) (P := fun k I2 => Ex 4 0 0 mX7_tell 0 0 87 [some (.ref 23), some (.int (nI b)), some (.int bits), some (.int (nI (1 + k))), none] [] (St N I2 L) _) (Inv := fun k I2 => Sm [16, 17, 18, 23, 25] I I2 ∧ I2 23 0 = I 23 0 ∧ I2 25 = I1 25 ∧ I2 23 2 = (teF (teM p (I 5) (I 6) (xOf I 10) b bits) (I 23 2) k).1 ∧ I2 23 3 = (teF (teM p (I 5) (I 6) (xOf I 10) b bits) (I 23 2) k).2) 40 ?_ ?_ 0 _ (Nat.zero_le _) ⟨(hS1.tr Sm.rf (l := [16, 17, 18, 23, 25]) (l2 := []) (by decide) (by decide)).up (by decide), by rw [va_up_s, upd_n (by decide), hS1 23 (by decide)], by rw [va_up_n (by decide)], by rw [va_up_s, upd_n (by decide), hS1 23 (by decide)]; rfl, by rw [va_up_s, upd_s]; rfl⟩
    · rintro I2 ⟨hS, h0, h25, h2, h3⟩
      refine Ex.iload_n (pc := 87) dX7_tell_87 rfl rfl ?_
      refine Ex.bipush (pc := 88) (v := 40) dX7_tell_88 rfl ?_
      refine Ex.icmp_gt (pc := 90) (tgt := 127) dX7_tell_90 (by decide) (fun _ => ?_) (fun c90 => absurd (nI_lt (a := 40) (b := 1 + 40) (by decide) (by decide)) c90)
      refine Ex.vret (pc := 127) rfl dX7_tell_127 (Nat.le_refl _) (Nat.le_refl _) ?_
      exact ⟨_, rfl, rfl, hS, h0, h2, h3⟩
    · rintro k I2 hk ⟨hS, h0, h25, h2, h3⟩ ih
      have hM : maF (fun i => I2 25 (i * 41 + (1 + k))) bits 6 = teM p (I 5) (I 6) (xOf I 10) b bits (k + 1) := by
        rw [Nat.add_comm 1 k]
        exact maF_c (fun i hi hbi => by rw [h25]; exact hL1 i hi hbi (k + 1) (by omega) (by omega)) 6 (Nat.le_refl _)
      refine Ex.iload_n (pc := 87) dX7_tell_87 rfl rfl ?_
      refine Ex.bipush (pc := 88) (v := 40) dX7_tell_88 rfl ?_
      refine Ex.icmp_gt (pc := 90) (tgt := 127) dX7_tell_90 (by decide) (fun c90 => absurd c90 (nI_nlt (a := 40) (by omega) (by decide))) (fun _ => ?_)
      refine Ex.aload_n (pc := 93) dX7_tell_93 rfl rfl ?_
      refine Ex.iload_n (pc := 94) dX7_tell_94 rfl rfl ?_
      refine Ex.iload_n (pc := 95) dX7_tell_95 rfl rfl ?_
      refine Ex.callV (pc := 96) (As := [.int _, .int _]) (rest := []) dX7_tell_96 cX7_62 (t_mostAlike (n := 1 + k) (by omega)) (sh23 _) rfl rfl (by decide) (Nat.le_refl _) (Nat.le_refl _) (Nat.le_of_ble_eq_true rfl) (Or.inl (fun r S' h => by obtain ⟨_, h⟩ := h; subst h; rfl)) (fun r S' hq _ _ => ?_)
      obtain ⟨rfl, rfl⟩ := hq
      rw [hM]
      refine Ex.istore (pc := 99) (ls' := [some (.ref 23), some (.int _), some (.int _), some (.int _), some (.int _)]) dX7_tell_99 (by decide) rfl rfl ?_
      refine Ex.iload (pc := 101) dX7_tell_101 rfl ?_
      refine Ex.aload_n (pc := 103) dX7_tell_103 rfl rfl ?_
      refine Ex.getI (pc := 104) dX7_tell_104 fX7_22 (sh23 _) ?_
      refine Ex.icmp_ge (pc := 107) (tgt := 121) dX7_tell_107 (by decide) (fun c107 => ?_) (fun c107 => ?_)
      · skip
        refine Ex.iinc (pc := 121) (ls' := [some (.ref 23), some (.int _), some (.int _), some (.int _), some (.int _)]) dX7_tell_121 rfl rfl (by decide) rfl rfl ?_
        refine Ex.goto (pc := 124) (tgt := 87) dX7_tell_124 (by decide) ?_
        rw [h3] at c107
        rw [show nI (1 + k) + Int32.ofInt 1 = nI (1 + (k + 1)) from nI_1 _]
        refine Ex.le (ls' := [some (.ref 23), some (.int (nI b)), some (.int bits), some (.int (nI (1 + (k + 1)))), none]) ⟨rfl, rfl, rfl, rfl, trivial⟩ (ih _ ⟨?_, ?_, ?_, ?_, ?_⟩)
        · exact hS
        · exact h0
        · exact h25
        · have ht : (teF (teM p (I 5) (I 6) (xOf I 10) b bits) (I 23 2) (k + 1)) = (teF (teM p (I 5) (I 6) (xOf I 10) b bits) (I 23 2) k) := by simp only [teF]; rw [if_pos c107]
          rw [ht]; exact h2
        · have ht : (teF (teM p (I 5) (I 6) (xOf I 10) b bits) (I 23 2) (k + 1)) = (teF (teM p (I 5) (I 6) (xOf I 10) b bits) (I 23 2) k) := by simp only [teF]; rw [if_pos c107]
          rw [ht]; exact h3
      · skip
        refine Ex.aload_n (pc := 110) dX7_tell_110 rfl rfl ?_
        refine Ex.iload (pc := 111) dX7_tell_111 rfl ?_
        refine Ex.putI (pc := 113) dX7_tell_113 fX7_22 (sh23 _) (Or.inl rfl) ⟨rfl, rfl⟩ ?_
        refine Ex.aload_n (pc := 116) dX7_tell_116 rfl rfl ?_
        refine Ex.iload_n (pc := 117) dX7_tell_117 rfl rfl ?_
        refine Ex.putI (pc := 118) dX7_tell_118 fX7_19 (sh23 _) (Or.inl rfl) ⟨rfl, rfl⟩ ?_
        refine Ex.iinc (pc := 121) (ls' := [some (.ref 23), some (.int _), some (.int _), some (.int _), some (.int _)]) dX7_tell_121 rfl rfl (by decide) rfl rfl ?_
        refine Ex.goto (pc := 124) (tgt := 87) dX7_tell_124 (by decide) ?_
        rw [h3] at c107
        rw [show nI (1 + k) + Int32.ofInt 1 = nI (1 + (k + 1)) from nI_1 _]
        refine Ex.le (ls' := [some (.ref 23), some (.int (nI b)), some (.int bits), some (.int (nI (1 + (k + 1)))), none]) ⟨rfl, rfl, rfl, rfl, trivial⟩ (ih _ ⟨?_, ?_, ?_, ?_, ?_⟩)
        · exact (hS.up (by decide)).up (by decide)
        · rw [va_up_s, upd_n (by decide), va_up_s, upd_n (by decide)]; exact h0
        · rw [va_up_n (by decide), va_up_n (by decide)]; exact h25
        · have ht : (teF (teM p (I 5) (I 6) (xOf I 10) b bits) (I 23 2) (k + 1)) = (nI (k + 1), nI (teM p (I 5) (I 6) (xOf I 10) b bits (k + 1))) := by simp only [teF]; rw [if_neg c107]
          rw [ht, va_up_s, upd_s, Nat.add_comm 1 k]
        · have ht : (teF (teM p (I 5) (I 6) (xOf I 10) b bits) (I 23 2) (k + 1)) = (nI (k + 1), nI (teM p (I 5) (I 6) (xOf I 10) b bits (k + 1))) := by simp only [teF]; rw [if_neg c107]
          rw [ht, va_up_s, upd_n (by decide), va_up_s, upd_s]
  · rintro k I1 hk ⟨hS1, hL1⟩ ih
    refine Ex.iload_n (pc := 2) dX7_tell_2 rfl rfl ?_
    refine Ex.bipush (pc := 3) (v := 6) dX7_tell_3 rfl ?_
    refine Ex.icmp_ge (pc := 5) (tgt := 79) dX7_tell_5 (by decide) (fun c5 => absurd c5 (nI_ge (b := 6) hk (by decide))) (fun _ => ?_)
    refine Ex.iload_n (pc := 8) dX7_tell_8 rfl rfl ?_
    refine Ex.iload_n (pc := 9) dX7_tell_9 rfl rfl ?_
    refine Ex.ishr (pc := 10) dX7_tell_10 ?_
    refine Ex.iconst (pc := 11) (v := 1) dX7_tell_11 rfl ?_
    refine Ex.iand (pc := 12) dX7_tell_12 ?_
    refine Ex.iconst (pc := 13) (v := 1) dX7_tell_13 rfl ?_
    refine Ex.icmp_ne (pc := 14) (tgt := 73) dX7_tell_14 (by decide) (fun c14 => ?_) (fun c14 => ?_)
    · skip
      refine Ex.iinc (pc := 73) (ls' := [some (.ref 23), some (.int _), some (.int _), some (.int _), none]) dX7_tell_73 rfl rfl (by decide) rfl rfl ?_
      refine Ex.goto (pc := 76) (tgt := 2) dX7_tell_76 (by decide) ?_
      rw [show nI k + Int32.ofInt 1 = nI (k + 1) from nI_1 k]
      refine ih _ ⟨hS1, fun i hi hbi n h1 h2 => ?_⟩
      by_cases e : i = k
      · subst e; exact absurd (of_decide_eq_true hbi) c14
      · exact hL1 i (by omega) hbi n h1 h2
    · skip
      refine Ex.aload_n (pc := 17) dX7_tell_17 rfl rfl ?_
      refine Ex.getR (pc := 18) dX7_tell_18 fX7_28 (sh23 _) r23_5 ?_
      refine Ex.aload_n (pc := 21) dX7_tell_21 rfl rfl ?_
      refine Ex.getR (pc := 22) dX7_tell_22 fX7_32 (sh23 _) r23_6 ?_
      refine Ex.iload_n (pc := 25) dX7_tell_25 rfl rfl ?_
      refine Ex.iload_n (pc := 26) dX7_tell_26 rfl rfl ?_
      refine Ex.callV (pc := 27) (As := [.ref 10, .int _, .int _]) (rest := []) dX7_tell_27 cX7_51 (t_lay10 (b := b) (s := k) hb hk) (sh16 _) rfl rfl (by decide) (Nat.le_refl _) (Nat.le_refl _) (Nat.le_of_ble_eq_true rfl) (Or.inl (fun r S' h => by obtain ⟨_, _, h, _⟩ := h; subst h; rfl)) (fun r S' hq _ _ => ?_)
      obtain ⟨I3, rfl, rfl, hS3, hb3, hs3, ht3, hn3⟩ := hq
      have hS3b : Sm [16, 17, 18, 25] I I3 := hS1.tr hS3 (by decide) (by decide)
      refine Ex.iconst (pc := 30) (v := 1) dX7_tell_30 rfl ?_
      refine Ex.istore (pc := 31) (ls' := [some (.ref 23), some (.int _), some (.int _), some (.int _), some (.int 1)]) dX7_tell_31 (by decide) rfl rfl ?_
      refine Ex.le (ls' := [some (.ref 23), some (.int (nI b)), some (.int bits), some (.int (nI k)), some (.int (nI (1 + 0)))]) ⟨rfl, rfl, rfl, rfl, rfl, trivial⟩ ?_
      refine forUp (σ := aI) (P := fun q I2 => Ex 4 0 0 mX7_tell 0 0 33 [some (.ref 23), some (.int (nI b)), some (.int bits), some (.int (nI k)), some (.int (nI (1 + q)))] [] (St N I2 L) _) (Inv := fun q I2 => Sm [16, 17, 18, 25] I I2 ∧ (∀ i, i < k → hb1 bits i = true → ∀ n, 1 ≤ n → n ≤ 40 → I2 25 (i * 41 + n) = (rubX p (I 5) (I 6) (xOf I 10) b i n).2.1) ∧ (∀ n, 1 ≤ n → n ≤ q → I2 25 (k * 41 + n) = (rubX p (I 5) (I 6) (xOf I 10) b k n).2.1) ∧ tOf I2 = rubF p (upd (upd (upd (upd (I1 17) 1 (I1 5 b)) 5 (I1 6 (6 + k))) 14 (I1 10 1)) 16 (I1 10 0)) q (I1 11 b, I1 12 k, 0, 0) ∧ (I2 17 = (upd (upd (upd (upd (I1 17) 1 (I1 5 b)) 5 (I1 6 (6 + k))) 14 (I1 10 1)) 16 (I1 10 0)) ∨ ∃ z d r, I2 17 = nmS (upd (upd (upd (upd (I1 17) 1 (I1 5 b)) 5 (I1 6 (6 + k))) 14 (I1 10 1)) 16 (I1 10 0)) z d r)) 40 ?_ ?_ 0 _ (Nat.zero_le _) ⟨hS3b, fun i hi hbi n h1 h2 => by rw [hS3 25 (by decide)]; exact hL1 i hi hbi n h1 h2, fun n h1 h2 => absurd h1 (by omega), ht3, Or.inl hn3⟩
      · rintro I2 ⟨hS, hL, hq, -⟩
        refine Ex.iload (pc := 33) dX7_tell_33 rfl ?_
        refine Ex.bipush (pc := 35) (v := 40) dX7_tell_35 rfl ?_
        refine Ex.icmp_gt (pc := 37) (tgt := 73) dX7_tell_37 (by decide) (fun _ => ?_) (fun c37 => absurd (nI_lt (a := 40) (b := 1 + 40) (by decide) (by decide)) c37)
        refine Ex.iinc (pc := 73) (ls' := [some (.ref 23), some (.int _), some (.int _), some (.int _), some (.int _)]) dX7_tell_73 rfl rfl (by decide) rfl rfl ?_
        refine Ex.goto (pc := 76) (tgt := 2) dX7_tell_76 (by decide) ?_
        rw [show nI k + Int32.ofInt 1 = nI (k + 1) from nI_1 k]
        refine Ex.le (ls' := [some (.ref 23), some (.int (nI b)), some (.int bits), some (.int (nI (k + 1))), none]) ⟨rfl, rfl, rfl, rfl, trivial⟩ (ih _ ⟨hS, fun i hi hbi n h1 h2 => ?_⟩)
        by_cases e : i = k
        · subst e; exact hq n h1 h2
        · exact hL i (by omega) hbi n h1 h2
      · rintro q I2 hq40 ⟨hS, hL, hq, ht, hm⟩ ih2
        have hp2 := hp.sm hS (by decide) (by decide) (by decide) (by decide)
        refine Ex.iload (pc := 33) dX7_tell_33 rfl ?_
        refine Ex.bipush (pc := 35) (v := 40) dX7_tell_35 rfl ?_
        refine Ex.icmp_gt (pc := 37) (tgt := 73) dX7_tell_37 (by decide) (fun c37 => absurd c37 (nI_nlt (a := 40) (by omega) (by decide))) (fun _ => ?_)
        refine Ex.aload_n (pc := 40) dX7_tell_40 rfl rfl ?_
        refine Ex.getR (pc := 41) dX7_tell_41 fX7_28 (sh23 _) r23_5 ?_
        refine Ex.iconst (pc := 44) (v := 1) dX7_tell_44 rfl ?_
        refine Ex.callV (pc := 45) (As := [.int 1]) (rest := []) dX7_tell_45 cX7_55 (t_rub (p := p) (n := 1) hp2.1 (by decide)) (sh16 _) rfl rfl (by decide) (Nat.le_refl _) (Nat.le_refl _) (Nat.le_of_ble_eq_true rfl) (Or.inl (fun r S' h => by obtain ⟨_, _, h, _⟩ := h; subst h; rfl)) (fun r S' hq _ _ => ?_)
        obtain ⟨I4, rfl, rfl, hS4, hj4, ht4, hm4⟩ := hq
        have hrow : ∀ t, rubF p (I2 17) 1 t = rubF p (upd (upd (upd (upd (I1 17) 1 (I1 5 b)) 5 (I1 6 (6 + k))) 14 (I1 10 1)) 16 (I1 10 0)) 1 t := by
          intro t
          rcases hm with e | ⟨z0, d0, r0, e⟩
          · rw [e]
          · rw [e, rubF_nm]
        have ht5 : tOf I4 = rubF p (upd (upd (upd (upd (I1 17) 1 (I1 5 b)) 5 (I1 6 (6 + k))) 14 (I1 10 1)) 16 (I1 10 0)) (q + 1) (I1 11 b, I1 12 k, 0, 0) := by rw [ht4, hrow, ht, ← rubF_succ]
        have ht6 : tOf I4 = rubX p (I 5) (I 6) (xOf I 10) b k (q + 1) := by
          rw [ht5, hS1 5 (by decide), hS1 6 (by decide), hS1 10 (by decide), hS1 11 (by decide), hS1 12 (by decide)]
          exact rubF_congr hp.2 (fun j hj => nmL_upd j hj) _ _
        have z6 : I4 16 6 = (rubX p (I 5) (I 6) (xOf I 10) b k (q + 1)).2.1 := by rw [← ht6]; rfl
        have hm5 : I4 17 = (upd (upd (upd (upd (I1 17) 1 (I1 5 b)) 5 (I1 6 (6 + k))) 14 (I1 10 1)) 16 (I1 10 0)) ∨ ∃ z d r, I4 17 = nmS (upd (upd (upd (upd (I1 17) 1 (I1 5 b)) 5 (I1 6 (6 + k))) 14 (I1 10 1)) 16 (I1 10 0)) z d r := by
          rcases hm4 with e4 | ⟨z4, d4, r4, e4⟩
          · rw [e4]; exact hm
          · refine Or.inr ⟨z4, d4, r4, ?_⟩
            rcases hm with e | ⟨z0, d0, r0, e⟩
            · rw [e4, e]
            · rw [e4, e, nmS_nmS]
        refine Ex.aload_n (pc := 48) dX7_tell_48 rfl rfl ?_
        refine Ex.getR (pc := 49) dX7_tell_49 fX7_25 (sh23 _) r23_4 ?_
        refine Ex.iload_n (pc := 52) dX7_tell_52 rfl rfl ?_
        refine Ex.bipush (pc := 53) (v := 41) dX7_tell_53 rfl ?_
        refine Ex.imul (pc := 55) dX7_tell_55 ?_
        refine Ex.iload (pc := 56) dX7_tell_56 rfl ?_
        refine Ex.iadd (pc := 58) dX7_tell_58 ?_
        refine Ex.aload_n (pc := 59) dX7_tell_59 rfl rfl ?_
        refine Ex.getR (pc := 60) dX7_tell_60 fX7_28 (sh23 _) r23_5 ?_
        refine Ex.getI (pc := 63) dX7_tell_63 fX7_59 (sh16 _) ?_
        refine Ex.iast (pc := 66) (j := k * 41 + (q + 1)) dX7_tell_66 (sh25 _) (by rw [show nI k * 41 + nI (1 + q) = nI (k * 41 + (1 + q)) from by rw [show nI k * 41 = nI (k * 41) from pk_mul k 41, nI_add]]; exact vp_in_nI (by omega) (by decide)) (by rw [show nI k * 41 + nI (1 + q) = nI (k * 41 + (1 + q)) from by rw [show nI k * 41 = nI (k * 41) from pk_mul k 41, nI_add], Nat.add_comm 1 q]; exact nI_clamp (by omega)) ?_
        refine Ex.iinc (pc := 67) (ls' := [some (.ref 23), some (.int _), some (.int _), some (.int _), some (.int _)]) dX7_tell_67 rfl rfl (by decide) rfl rfl ?_
        refine Ex.goto (pc := 70) (tgt := 33) dX7_tell_70 (by decide) ?_
        rw [show nI (1 + q) + Int32.ofInt 1 = nI (1 + (q + 1)) from nI_1 _]
        refine ih2 _ ⟨(hS.tr hS4 (l := [16, 17, 18, 25]) (by decide) (by decide)).up (by decide), ?_, ?_, ?_, ?_⟩
        · intro i hi hbi n h1 h2; rw [va_up_s, upd_n (by omega), hS4 25 (by decide)]; exact hL i hi hbi n h1 h2
        · intro n h1 h2; rw [va_up_s]
          by_cases e : n = q + 1
          · rw [e, upd_s]; exact z6
          · rw [upd_n (by omega), hS4 25 (by decide)]; exact hq n h1 (by omega)
        · rw [← ht5]; simp only [tOf]; rw [va_up_n (by decide)]
        · rw [va_up_n (by decide)]; exact hm5
set_option maxRecDepth 20000 in
theorem t_tells {N : Nat} {I : aI} {L : aL} {p : aP} {nb ns nh : Nat} (hp : PlanG N I p) (hc : CntOk I nb ns nh) {rs : aSee} {w v : Int32} (hr : SeenR I rs) : Run 6 0 0 mX9_tells [.ref 0, .int w, .int v] (St N I L) (RP (some (.int (if inR w nb = false then -1 else if v < 0 then -1 else if v ≤ 1 then (if whF p (I 5) (I 6) (xOf I 10) rs ns = 0 then -1 else if v = 0 then (teF (teM p (I 5) (I 6) (xOf I 10) w.toNatClampNeg (whF p (I 5) (I 6) (xOf I 10) rs ns)) (I 23 2) 40).1 else (teF (teM p (I 5) (I 6) (xOf I 10) w.toNatClampNeg (whF p (I 5) (I 6) (xOf I 10) rs ns)) (I 23 2) 40).2) else -1))) N L (fun I2 => Sm [16, 17, 18, 23, 25] I I2 ∧ I2 23 0 = I 23 0)) := by
  refine Run.of (ls := [some (.ref 0), some (.int _), some (.int _), none]) (by decide) (Nat.le_of_ble_eq_true rfl) rfl ?_
  obtain ⟨hc0, hb5, hc1, hs6, hc2, hh6, hrib⟩ := id hc
  refine Ex.aload_n (pc := 0) dX9_tells_0 rfl rfl ?_
  refine Ex.getR (pc := 1) dX9_tells_1 fX9_22 (sh0 _) r0_2 ?_
  refine Ex.iconst (pc := 4) (v := 0) dX9_tells_4 rfl ?_
  refine Ex.iload_n (pc := 5) dX9_tells_5 rfl rfl ?_
  refine Ex.callV (pc := 6) (As := [.int 0, .int _]) (rest := []) dX9_tells_6 cX9_182 (t_holdsB (s := 0) (n := nb) (by decide) hc0) (sh2 _) rfl rfl (by decide) (Nat.le_refl _) (Nat.le_refl _) (Nat.le_of_ble_eq_true rfl) (Or.inl (fun r S' h => by obtain ⟨_, h⟩ := h; subst h; rfl)) (fun r S' hq _ _ => ?_)
  obtain ⟨rfl, rfl⟩ := hq
  refine Ex.if_eq (pc := 9) (tgt := 21) dX9_tells_9 (by decide) (fun c9 => ?_) (fun c9 => ?_)
  · skip
    refine Ex.iconst (pc := 21) (v := (-1)) dX9_tells_21 rfl ?_
    refine Ex.iret (pc := 22) rfl rfl rfl dX9_tells_22 (Nat.le_refl _) (Nat.le_refl _) ?_
    refine ⟨_, congrArg (fun z => some (Value.int z)) ?_, rfl, Sm.rf, rfl⟩
    rw [bI_0 c9]; rfl
  · skip
    have hin := bI_1 c9
    obtain ⟨j, hj, rfl⟩ := inR_of hin (by omega)
    refine Ex.iload_n (pc := 12) dX9_tells_12 rfl rfl ?_
    refine Ex.if_lt (pc := 13) (tgt := 21) dX9_tells_13 (by decide) (fun c13 => ?_) (fun c13 => ?_)
    · skip
      refine Ex.iconst (pc := 21) (v := (-1)) dX9_tells_21 rfl ?_
      refine Ex.iret (pc := 22) rfl rfl rfl dX9_tells_22 (Nat.le_refl _) (Nat.le_refl _) ?_
      refine ⟨_, congrArg (fun z => some (Value.int z)) ?_, rfl, Sm.rf, rfl⟩
      rw [if_neg (by rw [hin]; decide), if_pos c13]
    · skip
      refine Ex.iload_n (pc := 16) dX9_tells_16 rfl rfl ?_
      refine Ex.iconst (pc := 17) (v := 1) dX9_tells_17 rfl ?_
      refine Ex.icmp_le (pc := 18) (tgt := 23) dX9_tells_18 (by decide) (fun c18 => ?_) (fun c18 => ?_)
      · skip
        refine Ex.aload_n (pc := 23) dX9_tells_23 rfl rfl ?_
        refine Ex.getR (pc := 24) dX9_tells_24 fX9_70 (sh0 _) r0_10 ?_
        refine Ex.callV (pc := 27) (As := []) (rest := []) dX9_tells_27 cX9_266 (t_stains hp hc hr) (sh23 _) rfl rfl (by decide) (Nat.le_refl _) (Nat.le_refl _) (Nat.le_of_ble_eq_true rfl) (Or.inl (fun r S' h => by obtain ⟨_, _, h, _⟩ := h; subst h; rfl)) (fun r S' hq _ _ => ?_)
        obtain ⟨I3, rfl, rfl, hS3⟩ := hq
        refine Ex.istore_n (pc := 30) (ls' := [some (.ref 0), some (.int _), some (.int _), some (.int _)]) dX9_tells_30 rfl (by decide) rfl rfl ?_
        refine Ex.iload_n (pc := 31) dX9_tells_31 rfl rfl ?_
        refine Ex.if_ne (pc := 32) (tgt := 37) dX9_tells_32 (by decide) (fun c32 => ?_) (fun c32 => ?_)
        · skip
          refine Ex.aload_n (pc := 37) dX9_tells_37 rfl rfl ?_
          refine Ex.getR (pc := 38) dX9_tells_38 fX9_70 (sh0 _) r0_10 ?_
          refine Ex.iload_n (pc := 41) dX9_tells_41 rfl rfl ?_
          refine Ex.iload_n (pc := 42) dX9_tells_42 rfl rfl ?_
          refine Ex.callV (pc := 43) (As := [.int _, .int _]) (rest := []) dX9_tells_43 cX9_269 (t_tell (p := p) (b := j) (hp.sm hS3 (by decide) (by decide) (by decide) (by decide)) (by omega)) (sh23 _) rfl rfl (by decide) (Nat.le_refl _) (Nat.le_refl _) (Nat.le_of_ble_eq_true rfl) (Or.inl (fun r S' h => by obtain ⟨_, _, h, _⟩ := h; subst h; rfl)) (fun r S' hq _ _ => ?_)
          obtain ⟨I4, rfl, rfl, hS4, h40, h42, h43⟩ := hq
          have hS5 : Sm [16, 17, 18, 23, 25] I I4 := hS3.tr hS4 (by decide) (by decide)
          have ex : xOf I3 10 = xOf I 10 := by simp only [xOf]; rw [hS3 10 (by decide), hS3 11 (by decide), hS3 12 (by decide)]
          rw [hS3 5 (by decide), hS3 6 (by decide), ex, hS3 23 (by decide)] at h42 h43
          refine Ex.iload_n (pc := 46) dX9_tells_46 rfl rfl ?_
          refine Ex.if_ne (pc := 47) (tgt := 60) dX9_tells_47 (by decide) (fun c47 => ?_) (fun c47 => ?_)
          · skip
            refine Ex.aload_n (pc := 60) dX9_tells_60 rfl rfl ?_
            refine Ex.getR (pc := 61) dX9_tells_61 fX9_70 (sh0 _) r0_10 ?_
            refine Ex.getI (pc := 64) dX9_tells_64 fX9_276 (sh23 _) ?_
            refine Ex.iret (pc := 67) rfl rfl rfl dX9_tells_67 (Nat.le_refl _) (Nat.le_refl _) ?_
            refine ⟨_, congrArg (fun z => some (Value.int z)) ?_, rfl, hS5, by rw [h40, hS3 23 (by decide)]⟩
            rw [if_neg (by rw [hin]; decide), if_neg c13, if_pos c18, if_neg c32, if_neg c47, nI_clamp (by omega)]
            exact h43
          · skip
            refine Ex.aload_n (pc := 50) dX9_tells_50 rfl rfl ?_
            refine Ex.getR (pc := 51) dX9_tells_51 fX9_70 (sh0 _) r0_10 ?_
            refine Ex.getI (pc := 54) dX9_tells_54 fX9_273 (sh23 _) ?_
            refine Ex.goto (pc := 57) (tgt := 67) dX9_tells_57 (by decide) ?_
            refine Ex.iret (pc := 67) rfl rfl rfl dX9_tells_67 (Nat.le_refl _) (Nat.le_refl _) ?_
            refine ⟨_, congrArg (fun z => some (Value.int z)) ?_, rfl, hS5, by rw [h40, hS3 23 (by decide)]⟩
            rw [if_neg (by rw [hin]; decide), if_neg c13, if_pos c18, if_neg c32, if_pos c47, nI_clamp (by omega)]
            exact h42
        · skip
          refine Ex.iconst (pc := 35) (v := (-1)) dX9_tells_35 rfl ?_
          refine Ex.iret (pc := 36) rfl rfl rfl dX9_tells_36 (Nat.le_refl _) (Nat.le_refl _) ?_
          refine ⟨_, congrArg (fun z => some (Value.int z)) ?_, rfl, hS3.tr Sm.rf (l2 := []) (by decide) (by decide), by rw [hS3 23 (by decide)]⟩
          rw [if_neg (by rw [hin]; decide), if_neg c13, if_pos c18, if_pos c32]
      · skip
        refine Ex.iconst (pc := 21) (v := (-1)) dX9_tells_21 rfl ?_
        refine Ex.iret (pc := 22) rfl rfl rfl dX9_tells_22 (Nat.le_refl _) (Nat.le_refl _) ?_
        refine ⟨_, congrArg (fun z => some (Value.int z)) ?_, rfl, Sm.rf, rfl⟩
        rw [if_neg (by rw [hin]; decide), if_neg c13, if_neg c18]
