def stB (tb : Nat → Nat) (n : Nat) (pl : Pl) (t : Tk) (c : Cd) : Er × Pl := if begK (wdN t) = true then (if fullB pl (wdN t) = true then (.error (6, t.2.2.2.1), pl) else bodF tb n (wdN t) pl (nx tb n (.ok (t, c)))) else (.error (1, t.2.2.2.1), pl)
theorem stm_eq {tb : Nat → Nat} {n m : Nat} {pl : Pl} {t : Tk} {c : Cd} : stmF tb n m pl t c = (endF tb n (m + 1) (stB tb n pl t c).1, (stB tb n pl t c).2) := by
  unfold stmF stB
  split
  · split <;> rfl
  · rfl
theorem wdN_w {t : Tk} {c : Cd} {k : Nat} (h : isW k (.ok (t, c)) = true) (hk : k < 27) : wdN t = k := by
  unfold wdN
  rw [if_pos (of_decide_eq_true h).1]
  exact own_n h hk
theorem beg_w {t : Tk} (c : Cd) (h : begK (wdN t) = true) : isW (wdN t) (.ok (t, c)) = true := by
  have hb := of_decide_eq_true h
  unfold wdN at hb ⊢
  by_cases h2 : t.1 = 2
  · rw [if_pos h2] at hb ⊢
    rcases own_c t.2.2.1 with q | q
    · rw [q.2] at hb; omega
    · exact decide_eq_true ⟨h2, q.2⟩
  · rw [if_neg h2] at hb; omega
set_option maxRecDepth 20000 in
theorem tm_statement {N n b : Nat} {tb : Nat → Nat} {I0 I : aI} {L0 L : aL} {t : Tk} {c : Cd} {pl : Pl} (hb : b < 2) (h : Ps tb n b I0 L0 I L (.ok (t, c)) pl) : Run 6 0 0 mX10_statement [.ref 36] (St N I L) (RX N (fun x I2 L2 => x = none ∧ Ps tb n b I0 L0 I2 L2 (stB tb n pl t c).1 (stB tb n pl t c).2)) := by
  refine Run.of (ls := [some (.ref 36)]) (by decide) (Nat.le_of_ble_eq_true rfl) rfl ?_
  have hB := h.2.1
  refine Ex.aload_n (pc := 0) dX10_statement_0 rfl rfl ?_
  refine Ex.callV (pc := 1) (As := []) (rest := []) dX10_statement_1 cX10_241 (tm_lexR (tb := tb) hB.2.2 h.2.2.2.1) (sh36 _) rfl rfl (by decide) (Nat.le_refl _) (Nat.le_refl _) (Nat.le_of_ble_eq_true rfl) (Or.inl (fun r S' h => by obtain ⟨_, _, h, _⟩ := h; subst h; rfl)) (fun r S' hq _ _ => ?_)
  obtain ⟨I1, L1, rfl, rfl, g1, m1⟩ := hq
  have hP : Ps tb n b I0 L0 I1 L1 (.ok (t, c)) pl := h.g g1 m1.t (ad_rf _) (fun t c t2 c2 q1 q2 => by rw [q1] at q2; cases q2; rfl)
  have m1 : RMo tb n I1 L1 t := m1
  have h8 : I1 36 8 ≤ 0 := by rw [m1.1]; decide
  refine Ex.aload_n (pc := 4) dX10_statement_4 rfl rfl ?_
  refine Ex.getI (pc := 5) dX10_statement_5 fX10_36 (sh36 _) ?_
  refine Ex.if_le (pc := 8) (tgt := 12) dX10_statement_8 (by decide) (fun _ => ?_) (fun c8 => absurd h8 c8)
  refine Ex.aload_n (pc := 12) dX10_statement_12 rfl rfl ?_
  refine Ex.ldc2 (pc := 13) dX10_statement_13 kv_X10_250 ?_
  refine Ex.callV (pc := 16) (As := [.long _]) (rest := []) dX10_statement_16 cX10_328 (tm_wW m1 (k := 0) (by decide) (by decide) c) (sh36 _) rfl rfl (by decide) (Nat.le_refl _) (Nat.le_refl _) (Nat.le_of_ble_eq_true rfl) (Or.inl (fun r S' h => by obtain ⟨_, h⟩ := h; subst h; rfl)) (fun r S' hq _ _ => ?_)
  obtain ⟨rfl, rfl⟩ := hq
  refine Ex.if_eq (pc := 19) (tgt := 29) dX10_statement_19 (by decide) (fun c19 => ?_) (fun c19 => ?_)
  · skip
    refine Ex.aload_n (pc := 29) dX10_statement_29 rfl rfl ?_
    refine Ex.ldc2 (pc := 30) dX10_statement_30 kv_X10_256 ?_
    refine Ex.callV (pc := 33) (As := [.long _]) (rest := []) dX10_statement_33 cX10_328 (tm_wW m1 (k := 3) (by decide) (by decide) c) (sh36 _) rfl rfl (by decide) (Nat.le_refl _) (Nat.le_refl _) (Nat.le_of_ble_eq_true rfl) (Or.inl (fun r S' h => by obtain ⟨_, h⟩ := h; subst h; rfl)) (fun r S' hq _ _ => ?_)
    obtain ⟨rfl, rfl⟩ := hq
    refine Ex.if_eq (pc := 36) (tgt := 46) dX10_statement_36 (by decide) (fun c36 => ?_) (fun c36 => ?_)
    · skip
      refine Ex.aload_n (pc := 46) dX10_statement_46 rfl rfl ?_
      refine Ex.ldc2 (pc := 47) dX10_statement_47 kv_X10_262 ?_
      refine Ex.callV (pc := 50) (As := [.long _]) (rest := []) dX10_statement_50 cX10_328 (tm_wW m1 (k := 6) (by decide) (by decide) c) (sh36 _) rfl rfl (by decide) (Nat.le_refl _) (Nat.le_refl _) (Nat.le_of_ble_eq_true rfl) (Or.inl (fun r S' h => by obtain ⟨_, h⟩ := h; subst h; rfl)) (fun r S' hq _ _ => ?_)
      obtain ⟨rfl, rfl⟩ := hq
      refine Ex.if_eq (pc := 53) (tgt := 63) dX10_statement_53 (by decide) (fun c53 => ?_) (fun c53 => ?_)
      · skip
        refine Ex.aload_n (pc := 63) dX10_statement_63 rfl rfl ?_
        refine Ex.ldc2 (pc := 64) dX10_statement_64 kv_X10_268 ?_
        refine Ex.callV (pc := 67) (As := [.long _]) (rest := []) dX10_statement_67 cX10_328 (tm_wW m1 (k := 9) (by decide) (by decide) c) (sh36 _) rfl rfl (by decide) (Nat.le_refl _) (Nat.le_refl _) (Nat.le_of_ble_eq_true rfl) (Or.inl (fun r S' h => by obtain ⟨_, h⟩ := h; subst h; rfl)) (fun r S' hq _ _ => ?_)
        obtain ⟨rfl, rfl⟩ := hq
        refine Ex.if_eq (pc := 70) (tgt := 81) dX10_statement_70 (by decide) (fun c70 => ?_) (fun c70 => ?_)
        · skip
          refine Ex.aload_n (pc := 81) dX10_statement_81 rfl rfl ?_
          refine Ex.ldc2 (pc := 82) dX10_statement_82 kv_X10_270 ?_
          refine Ex.callV (pc := 85) (As := [.long _]) (rest := []) dX10_statement_85 cX10_328 (tm_wW m1 (k := 10) (by decide) (by decide) c) (sh36 _) rfl rfl (by decide) (Nat.le_refl _) (Nat.le_refl _) (Nat.le_of_ble_eq_true rfl) (Or.inl (fun r S' h => by obtain ⟨_, h⟩ := h; subst h; rfl)) (fun r S' hq _ _ => ?_)
          obtain ⟨rfl, rfl⟩ := hq
          refine Ex.if_eq (pc := 88) (tgt := 99) dX10_statement_88 (by decide) (fun c88 => ?_) (fun c88 => ?_)
          · skip
            refine Ex.aload_n (pc := 99) dX10_statement_99 rfl rfl ?_
            refine Ex.ldc2 (pc := 100) dX10_statement_100 kv_X10_272 ?_
            refine Ex.callV (pc := 103) (As := [.long _]) (rest := []) dX10_statement_103 cX10_328 (tm_wW m1 (k := 11) (by decide) (by decide) c) (sh36 _) rfl rfl (by decide) (Nat.le_refl _) (Nat.le_refl _) (Nat.le_of_ble_eq_true rfl) (Or.inl (fun r S' h => by obtain ⟨_, h⟩ := h; subst h; rfl)) (fun r S' hq _ _ => ?_)
            obtain ⟨rfl, rfl⟩ := hq
            refine Ex.if_eq (pc := 106) (tgt := 117) dX10_statement_106 (by decide) (fun c106 => ?_) (fun c106 => ?_)
            · skip
              refine Ex.aload_n (pc := 117) dX10_statement_117 rfl rfl ?_
              refine Ex.ldc2 (pc := 118) dX10_statement_118 kv_X10_274 ?_
              refine Ex.callV (pc := 121) (As := [.long _]) (rest := []) dX10_statement_121 cX10_328 (tm_wW m1 (k := 12) (by decide) (by decide) c) (sh36 _) rfl rfl (by decide) (Nat.le_refl _) (Nat.le_refl _) (Nat.le_of_ble_eq_true rfl) (Or.inl (fun r S' h => by obtain ⟨_, h⟩ := h; subst h; rfl)) (fun r S' hq _ _ => ?_)
              obtain ⟨rfl, rfl⟩ := hq
              refine Ex.if_eq (pc := 124) (tgt := 135) dX10_statement_124 (by decide) (fun c124 => ?_) (fun c124 => ?_)
              · skip
                refine Ex.aload_n (pc := 135) dX10_statement_135 rfl rfl ?_
                refine Ex.ldc2 (pc := 136) dX10_statement_136 kv_X10_276 ?_
                refine Ex.callV (pc := 139) (As := [.long _]) (rest := []) dX10_statement_139 cX10_328 (tm_wW m1 (k := 13) (by decide) (by decide) c) (sh36 _) rfl rfl (by decide) (Nat.le_refl _) (Nat.le_refl _) (Nat.le_of_ble_eq_true rfl) (Or.inl (fun r S' h => by obtain ⟨_, h⟩ := h; subst h; rfl)) (fun r S' hq _ _ => ?_)
                obtain ⟨rfl, rfl⟩ := hq
                refine Ex.if_eq (pc := 142) (tgt := 153) dX10_statement_142 (by decide) (fun c142 => ?_) (fun c142 => ?_)
                · skip
                  refine Ex.aload_n (pc := 153) dX10_statement_153 rfl rfl ?_
                  refine Ex.ldc2 (pc := 154) dX10_statement_154 kv_X10_278 ?_
                  refine Ex.callV (pc := 157) (As := [.long _]) (rest := []) dX10_statement_157 cX10_328 (tm_wW m1 (k := 14) (by decide) (by decide) c) (sh36 _) rfl rfl (by decide) (Nat.le_refl _) (Nat.le_refl _) (Nat.le_of_ble_eq_true rfl) (Or.inl (fun r S' h => by obtain ⟨_, h⟩ := h; subst h; rfl)) (fun r S' hq _ _ => ?_)
                  obtain ⟨rfl, rfl⟩ := hq
                  refine Ex.if_eq (pc := 160) (tgt := 170) dX10_statement_160 (by decide) (fun c160 => ?_) (fun c160 => ?_)
                  · skip
                    refine Ex.aload_n (pc := 170) dX10_statement_170 rfl rfl ?_
                    refine Ex.ldc2 (pc := 171) dX10_statement_171 kv_X10_280 ?_
                    refine Ex.callV (pc := 174) (As := [.long _]) (rest := []) dX10_statement_174 cX10_328 (tm_wW m1 (k := 15) (by decide) (by decide) c) (sh36 _) rfl rfl (by decide) (Nat.le_refl _) (Nat.le_refl _) (Nat.le_of_ble_eq_true rfl) (Or.inl (fun r S' h => by obtain ⟨_, h⟩ := h; subst h; rfl)) (fun r S' hq _ _ => ?_)
                    obtain ⟨rfl, rfl⟩ := hq
                    refine Ex.if_eq (pc := 177) (tgt := 187) dX10_statement_177 (by decide) (fun c177 => ?_) (fun c177 => ?_)
                    · skip
                      refine Ex.aload_n (pc := 187) dX10_statement_187 rfl rfl ?_
                      refine Ex.iconst (pc := 188) (v := 1) dX10_statement_188 rfl ?_
                      refine Ex.aload_n (pc := 189) dX10_statement_189 rfl rfl ?_
                      refine Ex.getI (pc := 190) dX10_statement_190 fX10_23 (sh36 _) ?_
                      refine Ex.callV (pc := 193) (As := [.int 1, .int _]) (rest := []) dX10_statement_193 cX10_230 (tm_stp (r := .ok (t, c)) (k := 1) (show RMs tb n I1 L1 (.ok (t, c)) from m1) (by decide) (by decide) (RMs.at (r := .ok (t, c)) m1)) (sh36 _) rfl rfl (by decide) (Nat.le_refl _) (Nat.le_refl _) (Nat.le_of_ble_eq_true rfl) (Or.inl (fun r S' h => by obtain ⟨_, _, h, _⟩ := h; subst h; rfl)) (fun r S' hq _ _ => ?_)
                      obtain ⟨I2, L2, rfl, rfl, g2, m2⟩ := hq
                      refine Ex.vret (pc := 196) rfl dX10_statement_196 (Nat.le_refl _) (Nat.le_refl _) ?_
                      have hk : ¬ begK (wdN t) = true := fun z => by
                        have z1 := beg_w c z
                        have z2 := of_decide_eq_true z
                        have z3 : wdN t = 0 ∨ wdN t = 3 ∨ wdN t = 6 ∨ wdN t = 9 ∨ wdN t = 10 ∨ wdN t = 11 ∨ wdN t = 12 ∨ wdN t = 13 ∨ wdN t = 14 ∨ wdN t = 15 := by omega
                        rcases z3 with e | e | e | e | e | e | e | e | e | e
                        · rw [e, bI_0 c19] at z1; cases z1
                        · rw [e, bI_0 c36] at z1; cases z1
                        · rw [e, bI_0 c53] at z1; cases z1
                        · rw [e, bI_0 c70] at z1; cases z1
                        · rw [e, bI_0 c88] at z1; cases z1
                        · rw [e, bI_0 c106] at z1; cases z1
                        · rw [e, bI_0 c124] at z1; cases z1
                        · rw [e, bI_0 c142] at z1; cases z1
                        · rw [e, bI_0 c160] at z1; cases z1
                        · rw [e, bI_0 c177] at z1; cases z1
                      unfold stB
                      rw [if_neg hk]
                      exact ⟨_, _, rfl, rfl, hP.g g2 m2.t (ad_stp (k := 1) _) (fun t3 c3 t4 c4 q1 q2 => by cases q2)⟩
                    · skip
                      refine Ex.aload_n (pc := 180) dX10_statement_180 rfl rfl ?_
                      refine Ex.callV (pc := 181) (As := []) (rest := []) dX10_statement_181 cX10_388 (tm_drying hb hP) (sh36 _) rfl rfl (by decide) (Nat.le_refl _) (Nat.le_refl _) (Nat.le_of_ble_eq_true rfl) (Or.inl (fun r S' h => by obtain ⟨_, _, h, _⟩ := h; subst h; rfl)) (fun r S' hq _ _ => ?_)
                      obtain ⟨I2, L2, rfl, rfl, k2⟩ := hq
                      refine Ex.goto (pc := 184) (tgt := 196) dX10_statement_184 (by decide) ?_
                      refine Ex.vret (pc := 196) rfl dX10_statement_196 (Nat.le_refl _) (Nat.le_refl _) ?_
                      have hk := wdN_w (bI_1 c177) (by decide)
                      unfold stB
                      rw [hk, if_pos (show begK 15 = true by decide)]
                      rw [if_neg (show ¬ fullB pl 15 = true from by unfold fullB; simp)]
                      exact ⟨_, _, rfl, rfl, k2⟩
                  · skip
                    refine Ex.aload_n (pc := 163) dX10_statement_163 rfl rfl ?_
                    refine Ex.callV (pc := 164) (As := []) (rest := []) dX10_statement_164 cX10_385 (tm_watering hb hP) (sh36 _) rfl rfl (by decide) (Nat.le_refl _) (Nat.le_refl _) (Nat.le_of_ble_eq_true rfl) (Or.inl (fun r S' h => by obtain ⟨_, _, h, _⟩ := h; subst h; rfl)) (fun r S' hq _ _ => ?_)
                    obtain ⟨I2, L2, rfl, rfl, k2⟩ := hq
                    refine Ex.goto (pc := 167) (tgt := 196) dX10_statement_167 (by decide) ?_
                    refine Ex.vret (pc := 196) rfl dX10_statement_196 (Nat.le_refl _) (Nat.le_refl _) ?_
                    have hk := wdN_w (bI_1 c160) (by decide)
                    unfold stB
                    rw [hk, if_pos (show begK 14 = true by decide)]
                    rw [if_neg (show ¬ fullB pl 14 = true from by unfold fullB; simp)]
                    exact ⟨_, _, rfl, rfl, k2⟩
                · skip
                  refine Ex.aload_n (pc := 145) dX10_statement_145 rfl rfl ?_
                  refine Ex.iconst (pc := 146) (v := 4) dX10_statement_146 rfl ?_
                  refine Ex.callV (pc := 147) (As := [.int 4]) (rest := []) dX10_statement_147 cX10_382 (tm_reading (w := 4) hb (by decide) hP) (sh36 _) rfl rfl (by decide) (Nat.le_refl _) (Nat.le_refl _) (Nat.le_of_ble_eq_true rfl) (Or.inl (fun r S' h => by obtain ⟨_, _, h, _⟩ := h; subst h; rfl)) (fun r S' hq _ _ => ?_)
                  obtain ⟨I2, L2, rfl, rfl, f2, k2⟩ := hq
                  refine Ex.goto (pc := 150) (tgt := 196) dX10_statement_150 (by decide) ?_
                  refine Ex.vret (pc := 196) rfl dX10_statement_196 (Nat.le_refl _) (Nat.le_refl _) ?_
                  have hk := wdN_w (bI_1 c142) (by decide)
                  unfold stB
                  rw [hk, if_pos (show begK 13 = true by decide)]
                  cases hf : fullB pl 13 with
                  | true => rw [if_pos rfl]; exact ⟨_, _, rfl, rfl, f2 hf⟩
                  | false => rw [if_neg (by decide)]; exact ⟨_, _, rfl, rfl, k2 hf⟩
              · skip
                refine Ex.aload_n (pc := 127) dX10_statement_127 rfl rfl ?_
                refine Ex.iconst (pc := 128) (v := 3) dX10_statement_128 rfl ?_
                refine Ex.callV (pc := 129) (As := [.int 3]) (rest := []) dX10_statement_129 cX10_382 (tm_reading (w := 3) hb (by decide) hP) (sh36 _) rfl rfl (by decide) (Nat.le_refl _) (Nat.le_refl _) (Nat.le_of_ble_eq_true rfl) (Or.inl (fun r S' h => by obtain ⟨_, _, h, _⟩ := h; subst h; rfl)) (fun r S' hq _ _ => ?_)
                obtain ⟨I2, L2, rfl, rfl, f2, k2⟩ := hq
                refine Ex.goto (pc := 132) (tgt := 196) dX10_statement_132 (by decide) ?_
                refine Ex.vret (pc := 196) rfl dX10_statement_196 (Nat.le_refl _) (Nat.le_refl _) ?_
                have hk := wdN_w (bI_1 c124) (by decide)
                unfold stB
                rw [hk, if_pos (show begK 12 = true by decide)]
                cases hf : fullB pl 12 with
                | true => rw [if_pos rfl]; exact ⟨_, _, rfl, rfl, f2 hf⟩
                | false => rw [if_neg (by decide)]; exact ⟨_, _, rfl, rfl, k2 hf⟩
            · skip
              refine Ex.aload_n (pc := 109) dX10_statement_109 rfl rfl ?_
              refine Ex.iconst (pc := 110) (v := 2) dX10_statement_110 rfl ?_
              refine Ex.callV (pc := 111) (As := [.int 2]) (rest := []) dX10_statement_111 cX10_382 (tm_reading (w := 2) hb (by decide) hP) (sh36 _) rfl rfl (by decide) (Nat.le_refl _) (Nat.le_refl _) (Nat.le_of_ble_eq_true rfl) (Or.inl (fun r S' h => by obtain ⟨_, _, h, _⟩ := h; subst h; rfl)) (fun r S' hq _ _ => ?_)
              obtain ⟨I2, L2, rfl, rfl, f2, k2⟩ := hq
              refine Ex.goto (pc := 114) (tgt := 196) dX10_statement_114 (by decide) ?_
              refine Ex.vret (pc := 196) rfl dX10_statement_196 (Nat.le_refl _) (Nat.le_refl _) ?_
              have hk := wdN_w (bI_1 c106) (by decide)
              unfold stB
              rw [hk, if_pos (show begK 11 = true by decide)]
              cases hf : fullB pl 11 with
              | true => rw [if_pos rfl]; exact ⟨_, _, rfl, rfl, f2 hf⟩
              | false => rw [if_neg (by decide)]; exact ⟨_, _, rfl, rfl, k2 hf⟩
          · skip
            refine Ex.aload_n (pc := 91) dX10_statement_91 rfl rfl ?_
            refine Ex.iconst (pc := 92) (v := 1) dX10_statement_92 rfl ?_
            refine Ex.callV (pc := 93) (As := [.int 1]) (rest := []) dX10_statement_93 cX10_382 (tm_reading (w := 1) hb (by decide) hP) (sh36 _) rfl rfl (by decide) (Nat.le_refl _) (Nat.le_refl _) (Nat.le_of_ble_eq_true rfl) (Or.inl (fun r S' h => by obtain ⟨_, _, h, _⟩ := h; subst h; rfl)) (fun r S' hq _ _ => ?_)
            obtain ⟨I2, L2, rfl, rfl, f2, k2⟩ := hq
            refine Ex.goto (pc := 96) (tgt := 196) dX10_statement_96 (by decide) ?_
            refine Ex.vret (pc := 196) rfl dX10_statement_196 (Nat.le_refl _) (Nat.le_refl _) ?_
            have hk := wdN_w (bI_1 c88) (by decide)
            unfold stB
            rw [hk, if_pos (show begK 10 = true by decide)]
            cases hf : fullB pl 10 with
            | true => rw [if_pos rfl]; exact ⟨_, _, rfl, rfl, f2 hf⟩
            | false => rw [if_neg (by decide)]; exact ⟨_, _, rfl, rfl, k2 hf⟩
        · skip
          refine Ex.aload_n (pc := 73) dX10_statement_73 rfl rfl ?_
          refine Ex.iconst (pc := 74) (v := 0) dX10_statement_74 rfl ?_
          refine Ex.callV (pc := 75) (As := [.int 0]) (rest := []) dX10_statement_75 cX10_382 (tm_reading (w := 0) hb (by decide) hP) (sh36 _) rfl rfl (by decide) (Nat.le_refl _) (Nat.le_refl _) (Nat.le_of_ble_eq_true rfl) (Or.inl (fun r S' h => by obtain ⟨_, _, h, _⟩ := h; subst h; rfl)) (fun r S' hq _ _ => ?_)
          obtain ⟨I2, L2, rfl, rfl, f2, k2⟩ := hq
          refine Ex.goto (pc := 78) (tgt := 196) dX10_statement_78 (by decide) ?_
          refine Ex.vret (pc := 196) rfl dX10_statement_196 (Nat.le_refl _) (Nat.le_refl _) ?_
          have hk := wdN_w (bI_1 c70) (by decide)
          unfold stB
          rw [hk, if_pos (show begK 9 = true by decide)]
          cases hf : fullB pl 9 with
          | true => rw [if_pos rfl]; exact ⟨_, _, rfl, rfl, f2 hf⟩
          | false => rw [if_neg (by decide)]; exact ⟨_, _, rfl, rfl, k2 hf⟩
      · skip
        refine Ex.aload_n (pc := 56) dX10_statement_56 rfl rfl ?_
        refine Ex.callV (pc := 57) (As := []) (rest := []) dX10_statement_57 cX10_379 (tm_hearing hb hP) (sh36 _) rfl rfl (by decide) (Nat.le_refl _) (Nat.le_refl _) (Nat.le_of_ble_eq_true rfl) (Or.inl (fun r S' h => by obtain ⟨_, _, h, _⟩ := h; subst h; rfl)) (fun r S' hq _ _ => ?_)
        obtain ⟨I2, L2, rfl, rfl, f2, k2⟩ := hq
        refine Ex.goto (pc := 60) (tgt := 196) dX10_statement_60 (by decide) ?_
        refine Ex.vret (pc := 196) rfl dX10_statement_196 (Nat.le_refl _) (Nat.le_refl _) ?_
        have hk := wdN_w (bI_1 c53) (by decide)
        unfold stB
        rw [hk, if_pos (show begK 6 = true by decide)]
        cases hf : fullB pl 6 with
        | true => rw [if_pos rfl]; exact ⟨_, _, rfl, rfl, f2 hf⟩
        | false => rw [if_neg (by decide)]; exact ⟨_, _, rfl, rfl, k2 hf⟩
    · skip
      refine Ex.aload_n (pc := 39) dX10_statement_39 rfl rfl ?_
      refine Ex.callV (pc := 40) (As := []) (rest := []) dX10_statement_40 cX10_376 (tm_staining hb hP) (sh36 _) rfl rfl (by decide) (Nat.le_refl _) (Nat.le_refl _) (Nat.le_of_ble_eq_true rfl) (Or.inl (fun r S' h => by obtain ⟨_, _, h, _⟩ := h; subst h; rfl)) (fun r S' hq _ _ => ?_)
      obtain ⟨I2, L2, rfl, rfl, f2, k2⟩ := hq
      refine Ex.goto (pc := 43) (tgt := 196) dX10_statement_43 (by decide) ?_
      refine Ex.vret (pc := 196) rfl dX10_statement_196 (Nat.le_refl _) (Nat.le_refl _) ?_
      have hk := wdN_w (bI_1 c36) (by decide)
      unfold stB
      rw [hk, if_pos (show begK 3 = true by decide)]
      cases hf : fullB pl 3 with
      | true => rw [if_pos rfl]; exact ⟨_, _, rfl, rfl, f2 hf⟩
      | false => rw [if_neg (by decide)]; exact ⟨_, _, rfl, rfl, k2 hf⟩
  · skip
    refine Ex.aload_n (pc := 22) dX10_statement_22 rfl rfl ?_
    refine Ex.callV (pc := 23) (As := []) (rest := []) dX10_statement_23 cX10_373 (tm_boarding hb hP) (sh36 _) rfl rfl (by decide) (Nat.le_refl _) (Nat.le_refl _) (Nat.le_of_ble_eq_true rfl) (Or.inl (fun r S' h => by obtain ⟨_, _, h, _⟩ := h; subst h; rfl)) (fun r S' hq _ _ => ?_)
    obtain ⟨I2, L2, rfl, rfl, f2, k2⟩ := hq
    refine Ex.goto (pc := 26) (tgt := 196) dX10_statement_26 (by decide) ?_
    refine Ex.vret (pc := 196) rfl dX10_statement_196 (Nat.le_refl _) (Nat.le_refl _) ?_
    have hk := wdN_w (bI_1 c19) (by decide)
    unfold stB
    rw [hk, if_pos (show begK 0 = true by decide)]
    cases hf : fullB pl 0 with
    | true => rw [if_pos rfl]; exact ⟨_, _, rfl, rfl, f2 hf⟩
    | false => rw [if_neg (by decide)]; exact ⟨_, _, rfl, rfl, k2 hf⟩
set_option maxRecDepth 20000 in
theorem tm_statementE {N n b : Nat} {tb : Nat → Nat} {I0 I : aI} {L0 L : aL} {e : Nat × Nat} {pl : Pl} (h : Ps tb n b I0 L0 I L (.error e) pl) : Run 6 0 0 mX10_statement [.ref 36] (St N I L) (RX N (fun x I2 L2 => x = none ∧ Ps tb n b I0 L0 I2 L2 (.error e) pl ∧ RMs tb n I2 L2 (.error e))) := by
  refine Run.of (ls := [some (.ref 36)]) (by decide) (Nat.le_of_ble_eq_true rfl) rfl ?_
  refine Ex.aload_n (pc := 0) dX10_statement_0 rfl rfl ?_
  refine Ex.callV (pc := 1) (As := []) (rest := []) dX10_statement_1 cX10_241 (tm_lexR (tb := tb) h.2.1.2.2 h.2.2.2.1) (sh36 _) rfl rfl (by decide) (Nat.le_refl _) (Nat.le_refl _) (Nat.le_of_ble_eq_true rfl) (Or.inl (fun r S' h => by obtain ⟨_, _, h, _⟩ := h; subst h; rfl)) (fun r S' hq _ _ => ?_)
  obtain ⟨I1, L1, rfl, rfl, g1, m1⟩ := hq
  have hle : ¬ I1 36 8 ≤ 0 := fun z => m1.bad (Int32.le_antisymm z (Int32.not_lt.mp m1.t.n8))
  refine Ex.aload_n (pc := 4) dX10_statement_4 rfl rfl ?_
  refine Ex.getI (pc := 5) dX10_statement_5 fX10_36 (sh36 _) ?_
  refine Ex.if_le (pc := 8) (tgt := 12) dX10_statement_8 (by decide) (fun c8 => absurd c8 hle) (fun _ => ?_)
  refine Ex.vret (pc := 11) rfl dX10_statement_11 (Nat.le_refl _) (Nat.le_refl _) ?_
  exact ⟨_, _, rfl, rfl, h.g g1 m1.t (ad_rf _) (fun t c t2 c2 q1 q2 => by cases q1), m1⟩
set_option maxRecDepth 20000 in
theorem tm_finishesE {N n b : Nat} {tb : Nat → Nat} {I0 I : aI} {L0 L : aL} {e : Nat × Nat} {pl : Pl} {x : Int32} (h : Ps tb n b I0 L0 I L (.error e) pl) : Run 3 0 0 mX10_finishes [.ref 36, .int x] (St N I L) (RX N (fun x I2 L2 => x = none ∧ Ps tb n b I0 L0 I2 L2 (.error e) pl ∧ RMs tb n I2 L2 (.error e))) := by
  refine Run.of (ls := [some (.ref 36), some (.int _), none]) (by decide) (Nat.le_of_ble_eq_true rfl) rfl ?_
  refine Ex.aload_n (pc := 0) dX10_finishes_0 rfl rfl ?_
  refine Ex.callV (pc := 1) (As := []) (rest := []) dX10_finishes_1 cX10_241 (tm_lexR (tb := tb) h.2.1.2.2 h.2.2.2.1) (sh36 _) rfl rfl (by decide) (Nat.le_refl _) (Nat.le_refl _) (Nat.le_of_ble_eq_true rfl) (Or.inl (fun r S' h => by obtain ⟨_, _, h, _⟩ := h; subst h; rfl)) (fun r S' hq _ _ => ?_)
  obtain ⟨I1, L1, rfl, rfl, g1, m1⟩ := hq
  have hle : ¬ I1 36 8 ≤ 0 := fun z => m1.bad (Int32.le_antisymm z (Int32.not_lt.mp m1.t.n8))
  refine Ex.aload_n (pc := 4) dX10_finishes_4 rfl rfl ?_
  refine Ex.getI (pc := 5) dX10_finishes_5 fX10_36 (sh36 _) ?_
  refine Ex.if_le (pc := 8) (tgt := 12) dX10_finishes_8 (by decide) (fun c8 => absurd c8 hle) (fun _ => ?_)
  refine Ex.vret (pc := 11) rfl dX10_finishes_11 (Nat.le_refl _) (Nat.le_refl _) ?_
  exact ⟨_, _, rfl, rfl, h.g g1 m1.t (ad_rf _) (fun t c t2 c2 q1 q2 => by cases q1), m1⟩
set_option maxRecDepth 20000 in
theorem tm_finishes {N n b : Nat} {tb : Nat → Nat} {I0 I : aI} {L0 L : aL} {t : Tk} {c : Cd} {pl : Pl} {m : Nat} (hm : m ≤ 80) (h : Ps tb n b I0 L0 I L (.ok (t, c)) pl) : Run 3 0 0 mX10_finishes [.ref 36, .int (nI m)] (St N I L) (RX N (fun x I2 L2 => x = none ∧ Ps tb n b I0 L0 I2 L2 (endF tb n m (.ok (t, c))) pl)) := by
  refine Run.of (ls := [some (.ref 36), some (.int _), none]) (by decide) (Nat.le_of_ble_eq_true rfl) rfl ?_
  have hB := h.2.1
  refine Ex.aload_n (pc := 0) dX10_finishes_0 rfl rfl ?_
  refine Ex.callV (pc := 1) (As := []) (rest := []) dX10_finishes_1 cX10_241 (tm_lexR (tb := tb) hB.2.2 h.2.2.2.1) (sh36 _) rfl rfl (by decide) (Nat.le_refl _) (Nat.le_refl _) (Nat.le_of_ble_eq_true rfl) (Or.inl (fun r S' h => by obtain ⟨_, _, h, _⟩ := h; subst h; rfl)) (fun r S' hq _ _ => ?_)
  obtain ⟨I1, L1, rfl, rfl, g1, m1⟩ := hq
  have hP : Ps tb n b I0 L0 I1 L1 (.ok (t, c)) pl := h.g g1 m1.t (ad_rf _) (fun t c t2 c2 q1 q2 => by rw [q1] at q2; cases q2; rfl)
  have m1 : RMo tb n I1 L1 t := m1
  have h8 : I1 36 8 ≤ 0 := by rw [m1.1]; decide
  have b1 := hP.2.1
  have hbt : ∀ i, i < n → tb i < 256 := fun i hi => (b1.1 i hi).1
  have h2 := b1.2.1
  have hn := b1.2.2
  obtain ⟨s, hs⟩ : ∃ s, s = sk tb n t.2.2.2.2 := ⟨_, rfl⟩
  have hen := m1.2.2.1.2.2.2.1
  have hsn : s ≤ n := by rw [hs]; exact sk_n hen
  refine Ex.aload_n (pc := 4) dX10_finishes_4 rfl rfl ?_
  refine Ex.getI (pc := 5) dX10_finishes_5 fX10_36 (sh36 _) ?_
  refine Ex.if_le (pc := 8) (tgt := 12) dX10_finishes_8 (by decide) (fun _ => ?_) (fun c8 => absurd h8 c8)
  refine Ex.aload_n (pc := 12) dX10_finishes_12 rfl rfl ?_
  refine Ex.getI (pc := 13) dX10_finishes_13 fX10_26 (sh36 _) ?_
  rw [m1.2.1.2.2.2.1]
  refine Ex.istore_n (pc := 16) (ls' := [some (.ref 36), some (.int _), some (.int _)]) dX10_finishes_16 rfl (by decide) rfl rfl ?_
  have k53 : Ex 3 0 0 mX10_finishes 0 0 53 [some (.ref 36), some (.int (nI m)), some (.int (nI s))] [] (St N I1 L1) (RX N (fun x I2 L2 => x = none ∧ Ps tb n b I0 L0 I2 L2 (endF tb n m (.ok (t, c))) pl)) := by
    refine Ex.aload_n (pc := 53) dX10_finishes_53 rfl rfl ?_
    refine Ex.bipush (pc := 54) (v := 59) dX10_finishes_54 rfl ?_
    refine Ex.callV (pc := 56) (As := [.int 59]) (rest := []) dX10_finishes_56 cX10_244 (tm_sW m1 (k := 59) (by decide) c) (sh36 _) rfl rfl (by decide) (Nat.le_refl _) (Nat.le_refl _) (Nat.le_of_ble_eq_true rfl) (Or.inl (fun r S' h => by obtain ⟨_, h⟩ := h; subst h; rfl)) (fun r S' hq _ _ => ?_)
    obtain ⟨rfl, rfl⟩ := hq
    refine Ex.if_eq (pc := 59) (tgt := 83) dX10_finishes_59 (by decide) (fun c59 => ?_) (fun c59 => ?_)
    · skip
      refine Ex.aload_n (pc := 83) dX10_finishes_83 rfl rfl ?_
      refine Ex.bipush (pc := 84) (v := 59) dX10_finishes_84 rfl ?_
      refine Ex.callV (pc := 86) (As := [.int 59]) (rest := []) dX10_finishes_86 cX10_391 (tm_must (r := .ok (t, c)) (k := 59) b1 (by decide) m1) (sh36 _) rfl rfl (by decide) (Nat.le_refl _) (Nat.le_refl _) (Nat.le_of_ble_eq_true rfl) (Or.inl (fun r S' h => by obtain ⟨_, _, h, _⟩ := h; subst h; rfl)) (fun r S' hq _ _ => ?_)
      obtain ⟨I3, L3, rfl, rfl, g3, m3⟩ := hq
      refine Ex.vret (pc := 89) rfl dX10_finishes_89 (Nat.le_refl _) (Nat.le_refl _) ?_
      unfold endF
      simp only
      rw [if_neg (fun z => by have := decide_eq_true z.1; rw [show decide (t.1 = 4 ∧ t.2.1 = 59) = isS 59 (.ok (t, c)) from rfl, bI_0 c59] at this; cases this)]
      refine ⟨_, _, rfl, rfl, hP.g g3 m3 (sc_tkS hbt _).1 (sc_tkS hbt _).2⟩
    · skip
      refine Ex.iload_n (pc := 62) dX10_finishes_62 rfl rfl ?_
      refine Ex.bipush (pc := 63) (v := 80) dX10_finishes_63 rfl ?_
      refine Ex.icmp_ne (pc := 65) (tgt := 83) dX10_finishes_65 (by decide) (fun c65 => ?_) (fun c65 => ?_)
      · skip
        refine Ex.aload_n (pc := 83) dX10_finishes_83 rfl rfl ?_
        refine Ex.bipush (pc := 84) (v := 59) dX10_finishes_84 rfl ?_
        refine Ex.callV (pc := 86) (As := [.int 59]) (rest := []) dX10_finishes_86 cX10_391 (tm_must (r := .ok (t, c)) (k := 59) b1 (by decide) m1) (sh36 _) rfl rfl (by decide) (Nat.le_refl _) (Nat.le_refl _) (Nat.le_of_ble_eq_true rfl) (Or.inl (fun r S' h => by obtain ⟨_, _, h, _⟩ := h; subst h; rfl)) (fun r S' hq _ _ => ?_)
        obtain ⟨I3, L3, rfl, rfl, g3, m3⟩ := hq
        refine Ex.vret (pc := 89) rfl dX10_finishes_89 (Nat.le_refl _) (Nat.le_refl _) ?_
        unfold endF
        simp only
        rw [if_neg (fun z => c65 ((nI_iff (b := 80) (by omega) (by decide)).mpr (by have := z.2.1; omega)))]
        refine ⟨_, _, rfl, rfl, hP.g g3 m3 (sc_tkS hbt _).1 (sc_tkS hbt _).2⟩
      · skip
        refine Ex.iload_n (pc := 68) dX10_finishes_68 rfl rfl ?_
        refine Ex.aload_n (pc := 69) dX10_finishes_69 rfl rfl ?_
        refine Ex.getI (pc := 70) dX10_finishes_70 fX10_17 (sh36 _) ?_
        refine Ex.icmp_ge (pc := 73) (tgt := 83) dX10_finishes_73 (by decide) (fun c73 => ?_) (fun c73 => ?_)
        · skip
          refine Ex.aload_n (pc := 83) dX10_finishes_83 rfl rfl ?_
          refine Ex.bipush (pc := 84) (v := 59) dX10_finishes_84 rfl ?_
          refine Ex.callV (pc := 86) (As := [.int 59]) (rest := []) dX10_finishes_86 cX10_391 (tm_must (r := .ok (t, c)) (k := 59) b1 (by decide) m1) (sh36 _) rfl rfl (by decide) (Nat.le_refl _) (Nat.le_refl _) (Nat.le_of_ble_eq_true rfl) (Or.inl (fun r S' h => by obtain ⟨_, _, h, _⟩ := h; subst h; rfl)) (fun r S' hq _ _ => ?_)
          obtain ⟨I3, L3, rfl, rfl, g3, m3⟩ := hq
          refine Ex.vret (pc := 89) rfl dX10_finishes_89 (Nat.le_refl _) (Nat.le_refl _) ?_
          unfold endF
          simp only
          rw [if_neg (fun z => by have z3 := z.2.2; rw [← hs] at z3; rw [h2] at c73; exact absurd c73 (nI_ge z3 (by omega)))]
          refine ⟨_, _, rfl, rfl, hP.g g3 m3 (sc_tkS hbt _).1 (sc_tkS hbt _).2⟩
        · skip
          refine Ex.aload_n (pc := 76) dX10_finishes_76 rfl rfl ?_
          refine Ex.bipush (pc := 77) (v := 6) dX10_finishes_77 rfl ?_
          refine Ex.iload_n (pc := 79) dX10_finishes_79 rfl rfl ?_
          refine Ex.callV (pc := 80) (As := [.int 6, .int _]) (rest := []) dX10_finishes_80 cX10_230 (tm_blame (k := 6) (w := nI s) (by rw [m1.1]; decide)) (sh36 _) rfl rfl (by decide) (Nat.le_refl _) (Nat.le_refl _) (Nat.le_of_ble_eq_true rfl) (Or.inl (fun r S' h => by obtain ⟨_, h⟩ := h; subst h; rfl)) (fun r S' hq _ _ => ?_)
          obtain ⟨rfl, rfl⟩ := hq
          rw [if_pos m1.1]
          have g2 : MkG I1 L1 (mf (mf I1 8 6) 9 (nI s)) L1 := (MkG.rf.m (by decide)).m (by decide)
          have m2 : RMs tb n (mf (mf I1 8 6) 9 (nI s)) L1 (.error (6, s)) := ⟨show 1 ≤ 6 by decide, show 6 ≤ 6 by decide, hsn, by rw [mf_n (by decide), mf_s]; rfl, mf_s⟩
          refine Ex.aload_n (pc := 83) dX10_finishes_83 rfl rfl ?_
          refine Ex.bipush (pc := 84) (v := 59) dX10_finishes_84 rfl ?_
          refine Ex.callV (pc := 86) (As := [.int 59]) (rest := []) dX10_finishes_86 cX10_391 (tm_must (r := .error (6, s)) (k := 59) (b1.g g2) (by decide) m2.t) (sh36 _) rfl rfl (by decide) (Nat.le_refl _) (Nat.le_refl _) (Nat.le_of_ble_eq_true rfl) (Or.inl (fun r S' h => by obtain ⟨_, _, h, _⟩ := h; subst h; rfl)) (fun r S' hq _ _ => ?_)
          obtain ⟨I3, L3, rfl, rfl, g3, m3⟩ := hq
          refine Ex.vret (pc := 89) rfl dX10_finishes_89 (Nat.le_refl _) (Nat.le_refl _) ?_
          have e5 := of_decide_eq_true (bI_1 c59)
          have e6 : m = 80 := (nI_iff (b := 80) (by omega) (by decide)).mp c65
          have e7 : s < n := by
            rw [h2] at c73
            exact Nat.lt_of_not_le (fun z => c73 (nI_le z (by omega)))
          unfold endF
          simp only
          rw [if_pos ⟨e5, by omega, by rw [← hs]; exact e7⟩, ← hs]
          refine ⟨_, _, rfl, rfl, hP.g (g2.tr g3) m3 ⟨fun _ => trivial, fun _ q => (by cases q), fun _ _ _ _ _ q => by cases q⟩ (fun t3 c3 t4 c4 q1 q2 => by cases q2)⟩
  have kb : ∀ f a, n - a = f → a ≤ n → skF tb n f a = s → Ex 3 0 0 mX10_finishes 0 0 17 [some (.ref 36), some (.int (nI m)), some (.int (nI a))] [] (St N I1 L1) (RX N (fun x I2 L2 => x = none ∧ Ps tb n b I0 L0 I2 L2 (endF tb n m (.ok (t, c))) pl)) := by
    intro f
    induction f with
    | zero =>
      intro a hf ha hsk
      have hbn : a = s := hsk
      have hbn2 : a = n := by omega
      refine Ex.iload_n (pc := 17) dX10_finishes_17 rfl rfl ?_
      refine Ex.aload_n (pc := 18) dX10_finishes_18 rfl rfl ?_
      refine Ex.getI (pc := 19) dX10_finishes_19 fX10_17 (sh36 _) ?_
      refine Ex.icmp_ge (pc := 22) (tgt := 53) dX10_finishes_22 (by decide) (fun _ => ?_) (fun c22 => absurd (by rw [h2, hbn2]; exact Int32.le_refl _) c22)
      rw [hbn]
      exact k53
    | succ f ih =>
      intro a hf ha hsk
      have hbn : a < n := by omega
      obtain ⟨hb2, e1⟩ := b1.1 a hbn
      have ixk : vp_in (nI a) 1800 := vp_in_nI (by omega) (by decide)
      have ixc : (nI a).toNatClampNeg = a := nI_clamp (by omega)
      simp only [skF] at hsk
      refine Ex.iload_n (pc := 17) dX10_finishes_17 rfl rfl ?_
      refine Ex.aload_n (pc := 18) dX10_finishes_18 rfl rfl ?_
      refine Ex.getI (pc := 19) dX10_finishes_19 fX10_17 (sh36 _) ?_
      refine Ex.icmp_ge (pc := 22) (tgt := 53) dX10_finishes_22 (by decide) (fun c22 => absurd c22 (by rw [h2]; exact nI_ge hbn (by omega))) (fun _ => ?_)
      refine Ex.aload_n (pc := 25) dX10_finishes_25 rfl rfl ?_
      refine Ex.getR (pc := 26) dX10_finishes_26 fX10_7 (sh36 _) r36_0 ?_
      refine Ex.iload_n (pc := 29) dX10_finishes_29 rfl rfl ?_
      refine Ex.iald (pc := 30) (j := a) dX10_finishes_30 (sh37 _) ixk ixc ?_
      rw [e1]
      refine Ex.bipush (pc := 31) (v := 32) dX10_finishes_31 rfl ?_
      refine Ex.icmp_eq (pc := 33) (tgt := 47) dX10_finishes_33 (by decide) (fun c33 => ?_) (fun c33 => ?_)
      · skip
        refine Ex.iinc (pc := 47) (ls' := [some (.ref 36), some (.int _), some (.int _)]) dX10_finishes_47 rfl rfl (by decide) rfl rfl ?_
        refine Ex.goto (pc := 50) (tgt := 17) dX10_finishes_50 (by decide) ?_
        rw [if_pos ⟨hbn, decide_eq_true (Or.inr ((nI_eq (by omega) (by decide)).mp (show nI (tb a) = nI 32 from c33)))⟩] at hsk
        rw [show nI a + Int32.ofInt 1 = nI (a + 1) from nI_1 a]
        exact ih (a + 1) (by omega) (by omega) hsk
      · skip
        refine Ex.aload_n (pc := 36) dX10_finishes_36 rfl rfl ?_
        refine Ex.getR (pc := 37) dX10_finishes_37 fX10_7 (sh36 _) r36_0 ?_
        refine Ex.iload_n (pc := 40) dX10_finishes_40 rfl rfl ?_
        refine Ex.iald (pc := 41) (j := a) dX10_finishes_41 (sh37 _) ixk ixc ?_
        rw [e1]
        refine Ex.bipush (pc := 42) (v := 10) dX10_finishes_42 rfl ?_
        refine Ex.icmp_ne (pc := 44) (tgt := 53) dX10_finishes_44 (by decide) (fun c44 => ?_) (fun c44 => ?_)
        · skip
          rw [if_neg (fun q => (of_decide_eq_true q.2).elim (fun e => c44 (by rw [e]; rfl)) (fun e => c33 (by rw [e]; rfl)))] at hsk
          rw [hsk]
          exact k53
        · skip
          refine Ex.iinc (pc := 47) (ls' := [some (.ref 36), some (.int _), some (.int _)]) dX10_finishes_47 rfl rfl (by decide) rfl rfl ?_
          refine Ex.goto (pc := 50) (tgt := 17) dX10_finishes_50 (by decide) ?_
          rw [if_pos ⟨hbn, decide_eq_true (Or.inl ((nI_eq (by omega) (by decide)).mp (show nI (tb a) = nI 10 from c44)))⟩] at hsk
          rw [show nI a + Int32.ofInt 1 = nI (a + 1) from nI_1 a]
          exact ih (a + 1) (by omega) (by omega) hsk
  exact kb (n - t.2.2.2.2) t.2.2.2.2 rfl hen hs.symm
