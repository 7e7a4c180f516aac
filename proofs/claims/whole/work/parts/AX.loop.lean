/-! the law's loop -/
theorem and63 (x : Int32) : ∃ q, q < 64 ∧ x &&& 63 = nI q := pk_andE x 6 (by decide)
theorem lw_step {len : Nat} {xs : Nat → Int32} {K N : Nat} {I : aI} {L : aL} (hl : len ≤ 3072) (hK : K ≤ 513) (hR : Rel N K I L) (hnext : K ≤ 511 → ∀ N' I' L', Rel N' (K + 1) I' L' → ExL len xs (81 + 9 * (K + 1)) (17476 + 1689 * (K + 1)) 18 (lsI (6 * (K + 1))) [] (St N' I' L')) : ExL len xs (81 + 9 * K) (17476 + 1689 * K) 18 (lsI (6 * K)) [] (St N I L) := by
  refine ExL.iload_n (pc := 18) (i := 3) dL_18 rfl rfl ?_
  refine ExL.aload0 (pc := 19) dL_19 rfl ?_
  refine ExL.alen (pc := 20) dL_20 ?_
  refine ExL.bipush (pc := 21) (v := 6) dL_21 rfl ?_
  refine ExL.isub (pc := 23) dL_23 ?_
  have hs : (nI len - 6).toInt = (len : Int) - 6 := by
    have h1 : (nI len).toInt = len := nI_toInt (by omega)
    have h2 : (6 : Int32).toInt = 6 := rfl
    have := sub_toInt (a := nI len) (b := 6) (by omega) (by omega)
    omega
  refine ExL.icmp_gt (pc := 24) (tgt := 1112) dL_24 (by decide) (fun _ => ?_) (fun hge => ?_)
  · refine ExL.iconst (pc := 1112) (v := 1) dL_1112 rfl ?_
    exact ExL.ret (pc := 1113) dL_1113 (by omega) (by omega)
  have hi : 6 * K + 6 ≤ len := by
    have := Int32.le_iff_toInt_le.mp (Int32.not_lt.mp hge)
    rw [hs, nI_toInt (by omega)] at this
    omega
  have h511 : K ≤ 511 := by omega
  have hn2 : ∀ N' I' L', Rel N' (K + 1) I' L' → ExL len xs (81 + 9 * K + 9) (17476 + 1689 * K + 1689) 1106 (lsI (6 * K)) [] (St N' I' L') := fun N' I' L' h => by
    refine ExL.iinc (pc := 1106) (x := nI (6 * K)) (v := nI (6 * K + 6)) (ls' := lsI (6 * K + 6)) dL_1106 rfl (nI_add _ 6) (by decide) (by decide) rfl rfl ?_
    refine ExL.goto (pc := 1109) (tgt := 18) dL_1109 (by decide) ?_
    have h9 := hnext h511 N' I' L' h
    rw [show 81 + 9 * (K + 1) = 81 + 9 * K + 9 by omega, show 17476 + 1689 * (K + 1) = 17476 + 1689 * K + 1689 by omega, show 6 * (K + 1) = 6 * K + 6 by omega] at h9
    exact h9
  have hn3 : ∀ I' L', Rel N (K + 1) I' L' → ExL len xs (81 + 9 * K) (17476 + 1689 * K) 1106 (lsI (6 * K)) [] (St N I' L') := fun I' L' h => ExL.wide (by omega) (by omega) (hn2 N I' L' h)
  refine ExL.aload0 (pc := 27) dL_27 rfl ?_
  refine ExL.iload_n (pc := 28) (i := 3) dL_28 rfl rfl ?_
  refine ExL.iald (pc := 29) (j := 6 * K) dL_29 (vp_in_nI (by omega) (by omega)) (nI_clamp (by omega)) ?_
  refine ExL.bipush (pc := 30) (v := 63) dL_30 rfl ?_
  refine ExL.iand (pc := 32) dL_32 ?_
  obtain ⟨q, hq, e⟩ := and63 (xs (6 * K))
  rw [e]
  have hKb : K ≤ 1000000 := by omega
  have hi5 : 6 * K + 5 < len := by omega
  have hk6 : 81 + 9 * K ≤ 600000 := by omega
  have hn7 : 17476 + 1689 * K ≤ 7302250 := by omega
  by_cases h34 : q < 34
  · rcases (show q = 0 ∨ q = 1 ∨ q = 2 ∨ q = 3 ∨ q = 4 ∨ q = 5 ∨ q = 6 ∨ q = 7 ∨ q = 8 ∨ q = 9 ∨ q = 10 ∨ q = 11 ∨ q = 12 ∨ q = 13 ∨ q = 14 ∨ q = 15 ∨ q = 16 ∨ q = 17 ∨ q = 18 ∨ q = 19 ∨ q = 20 ∨ q = 21 ∨ q = 22 ∨ q = 23 ∨ q = 24 ∨ q = 25 ∨ q = 26 ∨ q = 27 ∨ q = 28 ∨ q = 29 ∨ q = 30 ∨ q = 31 ∨ q = 32 ∨ q = 33 by omega) with h | h | h | h | h | h | h | h | h | h | h | h | h | h | h | h | h | h | h | h | h | h | h | h | h | h | h | h | h | h | h | h | h | h <;> subst h
    · exact ExL.tableIn (pc := 33) (tgt := 184) dL_33 (by decide) (by decide) rfl (by decide) (lw_c0 hR hKb hl hi5 hk6 hn7 hn3)
    · exact ExL.tableIn (pc := 33) (tgt := 247) dL_33 (by decide) (by decide) rfl (by decide) (lw_c1 hR hKb hl hi5 hk6 hn7 hn3)
    · exact ExL.tableIn (pc := 33) (tgt := 270) dL_33 (by decide) (by decide) rfl (by decide) (lw_c2 hR (by omega) (by omega) hn2)
    · exact ExL.tableIn (pc := 33) (tgt := 283) dL_33 (by decide) (by decide) rfl (by decide) (lw_c3 hR hKb hl hi5 hk6 hn7 hn3)
    · exact ExL.tableIn (pc := 33) (tgt := 306) dL_33 (by decide) (by decide) rfl (by decide) (lw_c4 hR hKb hl hi5 hk6 hn7 hn3)
    · exact ExL.tableIn (pc := 33) (tgt := 329) dL_33 (by decide) (by decide) rfl (by decide) (lw_c5 hR hKb hl hi5 hk6 hn7 hn3)
    · exact ExL.tableIn (pc := 33) (tgt := 372) dL_33 (by decide) (by decide) rfl (by decide) (lw_c6 hR hKb hl hi5 hk6 hn7 hn3)
    · exact ExL.tableIn (pc := 33) (tgt := 405) dL_33 (by decide) (by decide) rfl (by decide) (lw_c7 hR hKb hl hi5 hk6 hn7 hn3)
    · exact ExL.tableIn (pc := 33) (tgt := 438) dL_33 (by decide) (by decide) rfl (by decide) (lw_c8 hR hKb hl hi5 hk6 hn7 hn3)
    · exact ExL.tableIn (pc := 33) (tgt := 471) dL_33 (by decide) (by decide) rfl (by decide) (lw_c9 hR hKb hl hi5 hk6 hn7 hn3)
    · exact ExL.tableIn (pc := 33) (tgt := 514) dL_33 (by decide) (by decide) rfl (by decide) (lw_c10 hR hKb hl hi5 hk6 hn7 hn3)
    · exact ExL.tableIn (pc := 33) (tgt := 557) dL_33 (by decide) (by decide) rfl (by decide) (lw_c11 hR hKb hl hi5 hk6 hn7 hn3)
    · exact ExL.tableIn (pc := 33) (tgt := 580) dL_33 (by decide) (by decide) rfl (by decide) (lw_c12 hR hKb hl hi5 hk6 hn7 hn3)
    · exact ExL.tableIn (pc := 33) (tgt := 603) dL_33 (by decide) (by decide) rfl (by decide) (lw_c13 hR hKb hl hi5 hk6 hn7 hn3)
    · exact ExL.tableIn (pc := 33) (tgt := 636) dL_33 (by decide) (by decide) rfl (by decide) (lw_c14 hR hKb hl hi5 hk6 hn7 hn3)
    · exact ExL.tableIn (pc := 33) (tgt := 669) dL_33 (by decide) (by decide) rfl (by decide) (lw_c15 hR hKb hl hi5 hk6 hn7 hn3)
    · exact ExL.tableIn (pc := 33) (tgt := 702) dL_33 (by decide) (by decide) rfl (by decide) (lw_c16 hR hKb hl hi5 hk6 hn7 hn3)
    · exact ExL.tableIn (pc := 33) (tgt := 725) dL_33 (by decide) (by decide) rfl (by decide) (lw_c17 hR hKb hl hi5 hk6 hn7 hn3)
    · exact ExL.tableIn (pc := 33) (tgt := 738) dL_33 (by decide) (by decide) rfl (by decide) (lw_c18 hR hKb hl hi5 hk6 hn7 hn3)
    · exact ExL.tableIn (pc := 33) (tgt := 751) dL_33 (by decide) (by decide) rfl (by decide) (lw_c19 hR hKb hl hi5 hk6 hn7 hn3)
    · exact ExL.tableIn (pc := 33) (tgt := 764) dL_33 (by decide) (by decide) rfl (by decide) (lw_c20 hR hKb hl hi5 hk6 hn7 hn3)
    · exact ExL.tableIn (pc := 33) (tgt := 797) dL_33 (by decide) (by decide) rfl (by decide) (lw_c21 hR hKb hl hi5 hk6 hn7 hn3)
    · exact ExL.tableIn (pc := 33) (tgt := 820) dL_33 (by decide) (by decide) rfl (by decide) (lw_c22 hR hKb hl hi5 hk6 hn7 hn3)
    · exact ExL.tableIn (pc := 33) (tgt := 843) dL_33 (by decide) (by decide) rfl (by decide) (lw_c23 hR hKb hl hi5 hk6 hn7 hn3)
    · exact ExL.tableIn (pc := 33) (tgt := 886) dL_33 (by decide) (by decide) rfl (by decide) (lw_c24 hR hKb hl hi5 hk6 hn7 hn3)
    · exact ExL.tableIn (pc := 33) (tgt := 919) dL_33 (by decide) (by decide) rfl (by decide) (lw_c25 hR hKb hl hi5 hk6 hn7 hn3)
    · exact ExL.tableIn (pc := 33) (tgt := 942) dL_33 (by decide) (by decide) rfl (by decide) (lw_c26 hR hKb hl hi5 hk6 hn7 hn3)
    · exact ExL.tableIn (pc := 33) (tgt := 965) dL_33 (by decide) (by decide) rfl (by decide) (lw_c27 hR hKb hl hi5 hk6 hn7 hn3)
    · exact ExL.tableIn (pc := 33) (tgt := 978) dL_33 (by decide) (by decide) rfl (by decide) (lw_c28 hR hKb hl hi5 hk6 hn7 hn3)
    · exact ExL.tableIn (pc := 33) (tgt := 1001) dL_33 (by decide) (by decide) rfl (by decide) (lw_c29 hR hKb hl hi5 hk6 hn7 hn3)
    · exact ExL.tableIn (pc := 33) (tgt := 1034) dL_33 (by decide) (by decide) rfl (by decide) (lw_c30 hR hKb hl hi5 hk6 hn7 hn3)
    · exact ExL.tableIn (pc := 33) (tgt := 1047) dL_33 (by decide) (by decide) rfl (by decide) (lw_c31 hR hKb hl hi5 hk6 hn7 hn3)
    · exact ExL.tableIn (pc := 33) (tgt := 1070) dL_33 (by decide) (by decide) rfl (by decide) (lw_c32 hR hKb hl hi5 hk6 hn7 hn3)
    · exact ExL.tableIn (pc := 33) (tgt := 1083) dL_33 (by decide) (by decide) rfl (by decide) (lw_c33 hR hKb hl hi5 hk6 hn7 hn3)
  · have hx : (nI q).toInt = q := nI_toInt (by omega)
    exact ExL.tableOut (pc := 33) (tgt := 1106) dL_33 (Or.inr (by rw [hx]; omega)) (by decide) (hn3 I L (hR.up (Nat.le_succ _)))
theorem lw_loop {len : Nat} {xs : Nat → Int32} (hl : len ≤ 3072) : ∀ d K, 513 ≤ K + d → K ≤ 513 → ∀ N I L, Rel N K I L → ExL len xs (81 + 9 * K) (17476 + 1689 * K) 18 (lsI (6 * K)) [] (St N I L)
  | 0, K, h, hK, N, I, L, hR => lw_step hl hK hR (fun h5 => absurd h5 (by omega))
  | d + 1, K, h, hK, N, I, L, hR => lw_step hl hK hR (fun h5 N' I' L' h' => lw_loop hl d (K + 1) (by omega) (by omega) N' I' L' h')
