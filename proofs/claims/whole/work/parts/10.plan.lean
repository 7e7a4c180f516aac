set_option maxRecDepth 20000 in
theorem t_holds {N : Nat} {I : aI} {L : aL} {s : Nat} {w : Int32} (hs : s < 3) : Run 0 0 0 mX5_holds [.ref 2, .int (nI s), .int w] (St N I L) (RI (if w < 0 then 0 else if I 3 s ≤ w then 0 else 1) (St N I L)) := by
  refine Run.of (ls := [some (.ref 2), some (.int _), some (.int _)]) (by decide) (Nat.le_of_ble_eq_true rfl) rfl ?_
  refine Ex.iload_n (pc := 0) dX5_holds_0 rfl rfl ?_
  refine Ex.if_lt (pc := 1) (tgt := 18) dX5_holds_1 (by decide) (fun c1 => ?_) (fun c1 => ?_)
  · skip
    refine Ex.iconst (pc := 18) (v := 0) dX5_holds_18 rfl ?_
    refine Ex.iret (pc := 19) rfl rfl rfl dX5_holds_19 (Nat.le_refl _) (Nat.le_refl _) ?_
    exact ⟨by simp [*], rfl⟩
  · skip
    refine Ex.iload_n (pc := 4) dX5_holds_4 rfl rfl ?_
    refine Ex.aload_n (pc := 5) dX5_holds_5 rfl rfl ?_
    refine Ex.getR (pc := 6) dX5_holds_6 fX5_9 (sh2 _) r2_0 ?_
    refine Ex.iload_n (pc := 9) dX5_holds_9 rfl rfl ?_
    refine Ex.iald (pc := 10) (j := s) dX5_holds_10 (sh3 _) (ixN hs (by decide)).1 (ixN2 (by omega)) ?_
    refine Ex.icmp_ge (pc := 11) (tgt := 18) dX5_holds_11 (by decide) (fun c11 => ?_) (fun c11 => ?_)
    · skip
      refine Ex.iconst (pc := 18) (v := 0) dX5_holds_18 rfl ?_
      refine Ex.iret (pc := 19) rfl rfl rfl dX5_holds_19 (Nat.le_refl _) (Nat.le_refl _) ?_
      exact ⟨by simp [*], rfl⟩
    · skip
      refine Ex.iconst (pc := 14) (v := 1) dX5_holds_14 rfl ?_
      refine Ex.goto (pc := 15) (tgt := 19) dX5_holds_15 (by decide) ?_
      refine Ex.iret (pc := 19) rfl rfl rfl dX5_holds_19 (Nat.le_refl _) (Nat.le_refl _) ?_
      exact ⟨by simp [*], rfl⟩
set_option maxRecDepth 20000 in
theorem t_ribs {N : Nat} {I : aI} {L : aL} {j : Nat} (hj : j < 6) : Run 0 0 0 mX5_ribs [.ref 2, .int (nI j)] (St N I L) (RI (I 5 (0 + j)) (St N I L)) := by
  refine Run.of (ls := [some (.ref 2), some (.int _)]) (by decide) (Nat.le_of_ble_eq_true rfl) rfl ?_
  refine Ex.aload_n (pc := 0) dX5_ribs_0 rfl rfl ?_
  refine Ex.getR (pc := 1) dX5_ribs_1 fX5_18 (sh2 _) r2_2 ?_
  refine Ex.iconst (pc := 4) (v := 0) dX5_ribs_4 rfl ?_
  refine Ex.iload_n (pc := 5) dX5_ribs_5 rfl rfl ?_
  refine Ex.iadd (pc := 6) dX5_ribs_6 ?_
  refine Ex.iald (pc := 7) (j := 0 + j) dX5_ribs_7 (sh5 _) (ixA (a := 0) rfl (by omega) (by decide)).1 (ixA2 (a := 0) rfl (by omega)) ?_
  refine Ex.iret (pc := 8) rfl rfl rfl dX5_ribs_8 (Nat.le_refl _) (Nat.le_refl _) ?_
  exact ⟨rfl, rfl⟩
set_option maxRecDepth 20000 in
theorem t_zincTold {N : Nat} {I : aI} {L : aL} {j : Nat} (hj : j < 6) : Run 0 0 0 mX5_zincTold [.ref 2, .int (nI j)] (St N I L) (RI (I 6 (0 + j)) (St N I L)) := by
  refine Run.of (ls := [some (.ref 2), some (.int _)]) (by decide) (Nat.le_of_ble_eq_true rfl) rfl ?_
  refine Ex.aload_n (pc := 0) dX5_zincTold_0 rfl rfl ?_
  refine Ex.getR (pc := 1) dX5_zincTold_1 fX5_21 (sh2 _) r2_3 ?_
  refine Ex.iconst (pc := 4) (v := 0) dX5_zincTold_4 rfl ?_
  refine Ex.iload_n (pc := 5) dX5_zincTold_5 rfl rfl ?_
  refine Ex.iadd (pc := 6) dX5_zincTold_6 ?_
  refine Ex.iald (pc := 7) (j := 0 + j) dX5_zincTold_7 (sh6 _) (ixA (a := 0) rfl (by omega) (by decide)).1 (ixA2 (a := 0) rfl (by omega)) ?_
  refine Ex.iret (pc := 8) rfl rfl rfl dX5_zincTold_8 (Nat.le_refl _) (Nat.le_refl _) ?_
  exact ⟨rfl, rfl⟩
set_option maxRecDepth 20000 in
theorem t_deepTold {N : Nat} {I : aI} {L : aL} {j : Nat} (hj : j < 6) : Run 0 0 0 mX5_deepTold [.ref 2, .int (nI j)] (St N I L) (RI (I 5 (6 + j)) (St N I L)) := by
  refine Run.of (ls := [some (.ref 2), some (.int _)]) (by decide) (Nat.le_of_ble_eq_true rfl) rfl ?_
  refine Ex.aload_n (pc := 0) dX5_deepTold_0 rfl rfl ?_
  refine Ex.getR (pc := 1) dX5_deepTold_1 fX5_18 (sh2 _) r2_2 ?_
  refine Ex.bipush (pc := 4) (v := 6) dX5_deepTold_4 rfl ?_
  refine Ex.iload_n (pc := 6) dX5_deepTold_6 rfl rfl ?_
  refine Ex.iadd (pc := 7) dX5_deepTold_7 ?_
  refine Ex.iald (pc := 8) (j := 6 + j) dX5_deepTold_8 (sh5 _) (ixA (a := 6) rfl (by omega) (by decide)).1 (ixA2 (a := 6) rfl (by omega)) ?_
  refine Ex.iret (pc := 9) rfl rfl rfl dX5_deepTold_9 (Nat.le_refl _) (Nat.le_refl _) ?_
  exact ⟨rfl, rfl⟩
set_option maxRecDepth 20000 in
theorem t_stuff {N : Nat} {I : aI} {L : aL} {j : Nat} (hj : j < 6) : Run 0 0 0 mX5_stuff [.ref 2, .int (nI j)] (St N I L) (RI (I 6 (6 + j)) (St N I L)) := by
  refine Run.of (ls := [some (.ref 2), some (.int _)]) (by decide) (Nat.le_of_ble_eq_true rfl) rfl ?_
  refine Ex.aload_n (pc := 0) dX5_stuff_0 rfl rfl ?_
  refine Ex.getR (pc := 1) dX5_stuff_1 fX5_21 (sh2 _) r2_3 ?_
  refine Ex.bipush (pc := 4) (v := 6) dX5_stuff_4 rfl ?_
  refine Ex.iload_n (pc := 6) dX5_stuff_6 rfl rfl ?_
  refine Ex.iadd (pc := 7) dX5_stuff_7 ?_
  refine Ex.iald (pc := 8) (j := 6 + j) dX5_stuff_8 (sh6 _) (ixA (a := 6) rfl (by omega) (by decide)).1 (ixA2 (a := 6) rfl (by omega)) ?_
  refine Ex.iret (pc := 9) rfl rfl rfl dX5_stuff_9 (Nat.le_refl _) (Nat.le_refl _) ?_
  exact ⟨rfl, rfl⟩
set_option maxRecDepth 20000 in
theorem t_sin {N : Nat} {I : aI} {L : aL} {j : Nat} (hj : j < 6) : Run 0 0 0 mX5_sin [.ref 2, .int (nI j)] (St N I L) (RI (I 5 (12 + j)) (St N I L)) := by
  refine Run.of (ls := [some (.ref 2), some (.int _)]) (by decide) (Nat.le_of_ble_eq_true rfl) rfl ?_
  refine Ex.aload_n (pc := 0) dX5_sin_0 rfl rfl ?_
  refine Ex.getR (pc := 1) dX5_sin_1 fX5_18 (sh2 _) r2_2 ?_
  refine Ex.bipush (pc := 4) (v := 12) dX5_sin_4 rfl ?_
  refine Ex.iload_n (pc := 6) dX5_sin_6 rfl rfl ?_
  refine Ex.iadd (pc := 7) dX5_sin_7 ?_
  refine Ex.iald (pc := 8) (j := 12 + j) dX5_sin_8 (sh5 _) (ixA (a := 12) rfl (by omega) (by decide)).1 (ixA2 (a := 12) rfl (by omega)) ?_
  refine Ex.iret (pc := 9) rfl rfl rfl dX5_sin_9 (Nat.le_refl _) (Nat.le_refl _) ?_
  exact ⟨rfl, rfl⟩
set_option maxRecDepth 20000 in
theorem t_ear {N : Nat} {I : aI} {L : aL} {j : Nat} (hj : j < 6) : Run 0 0 0 mX5_ear [.ref 2, .int (nI j)] (St N I L) (RI (I 6 (12 + j)) (St N I L)) := by
  refine Run.of (ls := [some (.ref 2), some (.int _)]) (by decide) (Nat.le_of_ble_eq_true rfl) rfl ?_
  refine Ex.aload_n (pc := 0) dX5_ear_0 rfl rfl ?_
  refine Ex.getR (pc := 1) dX5_ear_1 fX5_21 (sh2 _) r2_3 ?_
  refine Ex.bipush (pc := 4) (v := 12) dX5_ear_4 rfl ?_
  refine Ex.iload_n (pc := 6) dX5_ear_6 rfl rfl ?_
  refine Ex.iadd (pc := 7) dX5_ear_7 ?_
  refine Ex.iald (pc := 8) (j := 12 + j) dX5_ear_8 (sh6 _) (ixA (a := 12) rfl (by omega) (by decide)).1 (ixA2 (a := 12) rfl (by omega)) ?_
  refine Ex.iret (pc := 9) rfl rfl rfl dX5_ear_9 (Nat.le_refl _) (Nat.le_refl _) ?_
  exact ⟨rfl, rfl⟩
