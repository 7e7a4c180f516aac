set_option maxRecDepth 20000 in
theorem tm_pushes {N : Nat} {I : aI} {L : aL} {d : Nat} {k : Int32} (hd : d < 20) (h40 : I 36 40 = nI d) : Run 0 0 0 mX10_pushes [.ref 36, .int k] (St N I L) (RV (St N (puM I d k) L)) := by
  refine Run.of (ls := [some (.ref 36), some (.int _)]) (by decide) (Nat.le_of_ble_eq_true rfl) rfl ?_
  refine Ex.aload_n (pc := 0) dX10_pushes_0 rfl rfl ?_
  refine Ex.getR (pc := 1) dX10_pushes_1 fX10_118 (sh36 _) r36_35 ?_
  refine Ex.aload_n (pc := 4) dX10_pushes_4 rfl rfl ?_
  refine Ex.getI (pc := 5) dX10_pushes_5 fX10_134 (sh36 _) ?_
  rw [h40]
  refine Ex.iload_n (pc := 8) dX10_pushes_8 rfl rfl ?_
  refine Ex.iast (pc := 9) (j := d) dX10_pushes_9 (sh56 _) (vp_in_nI hd (by decide)) (nI_clamp (by omega)) ?_
  refine Ex.aload_n (pc := 10) dX10_pushes_10 rfl rfl ?_
  refine Ex.getR (pc := 11) dX10_pushes_11 fX10_121 (sh36 _) r36_36 ?_
  refine Ex.aload_n (pc := 14) dX10_pushes_14 rfl rfl ?_
  refine Ex.getI (pc := 15) dX10_pushes_15 fX10_134 (sh36 _) ?_
  rw [va_up_n (show (36 : Nat) ≠ 56 by decide), h40]
  refine Ex.iconst (pc := 18) (v := 0) dX10_pushes_18 rfl ?_
  refine Ex.iast (pc := 19) (j := d) dX10_pushes_19 (sh57 _) (vp_in_nI hd (by decide)) (nI_clamp (by omega)) ?_
  refine Ex.aload_n (pc := 20) dX10_pushes_20 rfl rfl ?_
  refine Ex.getR (pc := 21) dX10_pushes_21 fX10_124 (sh36 _) r36_37 ?_
  refine Ex.aload_n (pc := 24) dX10_pushes_24 rfl rfl ?_
  refine Ex.getI (pc := 25) dX10_pushes_25 fX10_134 (sh36 _) ?_
  rw [va_up_n (show (36 : Nat) ≠ 57 by decide), va_up_n (show (36 : Nat) ≠ 56 by decide), h40]
  refine Ex.iconst (pc := 28) (v := 1) dX10_pushes_28 rfl ?_
  refine Ex.zast (pc := 29) (j := d) dX10_pushes_29 (sh58 _) (vp_in_nI hd (by decide)) (nI_clamp (by omega)) ?_
  refine Ex.aload_n (pc := 30) dX10_pushes_30 rfl rfl ?_
  refine Ex.getR (pc := 31) dX10_pushes_31 fX10_131 (sh36 _) r36_39 ?_
  refine Ex.aload_n (pc := 34) dX10_pushes_34 rfl rfl ?_
  refine Ex.getI (pc := 35) dX10_pushes_35 fX10_134 (sh36 _) ?_
  rw [va_up_n (show (36 : Nat) ≠ 58 by decide), va_up_n (show (36 : Nat) ≠ 57 by decide), va_up_n (show (36 : Nat) ≠ 56 by decide), h40]
  refine Ex.aload_n (pc := 38) dX10_pushes_38 rfl rfl ?_
  refine Ex.getI (pc := 39) dX10_pushes_39 fX10_143 (sh36 _) ?_
  rw [va_up_n (show (36 : Nat) ≠ 58 by decide), va_up_n (show (36 : Nat) ≠ 57 by decide), va_up_n (show (36 : Nat) ≠ 56 by decide)]
  refine Ex.iast (pc := 42) (j := d) dX10_pushes_42 (sh60 _) (vp_in_nI hd (by decide)) (nI_clamp (by omega)) ?_
  refine Ex.aload_n (pc := 43) dX10_pushes_43 rfl rfl ?_
  refine Ex.dup (pc := 44) dX10_pushes_44 rfl ?_
  refine Ex.getI (pc := 45) dX10_pushes_45 fX10_134 (sh36 _) ?_
  refine Ex.iconst (pc := 48) (v := 1) dX10_pushes_48 rfl ?_
  refine Ex.iadd (pc := 49) dX10_pushes_49 ?_
  refine Ex.putI (pc := 50) dX10_pushes_50 fX10_134 (sh36 _) (Or.inl rfl) ⟨rfl, rfl⟩ ?_
  refine Ex.vret (pc := 53) rfl dX10_pushes_53 (Nat.le_refl _) (Nat.le_refl _) ?_
  refine ⟨rfl, ?_⟩
  refine congrArg (fun z => St N z L) ?_
  unfold puM mf
  simp only [va_up_n (show (36 : Nat) ≠ 60 by decide), va_up_n (show (36 : Nat) ≠ 58 by decide), va_up_n (show (36 : Nat) ≠ 57 by decide), va_up_n (show (36 : Nat) ≠ 56 by decide), va_up_n (show (57 : Nat) ≠ 56 by decide), va_up_n (show (58 : Nat) ≠ 57 by decide), va_up_n (show (58 : Nat) ≠ 56 by decide), va_up_n (show (60 : Nat) ≠ 58 by decide), va_up_n (show (60 : Nat) ≠ 57 by decide), va_up_n (show (60 : Nat) ≠ 56 by decide), h40, show nI d + 1 = nI (d + 1) from nI_1 d, show vp_nar .boolean 1 = 1 from by decide]
