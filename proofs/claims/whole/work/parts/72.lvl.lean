set_option maxRecDepth 20000 in
theorem t_prod {N n o D : Nat} {I0 : aI} {L : aL} {tb : Nat → Nat} {pt : Er → Er} (hB : PB tb n I0) (hp : CtX N n L I0 D mX4_readPart o pt) (hD : 6 ≤ D) : CtX N n L I0 (D + 1) mX4_readProduct o (prodF tb n pt) := by
  have kl : ∀ (f k : Nat) (I : aI) (d : Nat) (r : Er), k + f = n → Px n I0 I d false r → Ex (D + 1) 0 0 mX4_readProduct 0 0 7 [some (.ref 81), some (.int (nI o)), some (.int (nI k)), none] [] (St2 N n I L) (RP2 none N n L (fun I2 => Px n I0 I2 d false (prodL tb n pt f r))) := by
    intro f
    induction f with
    | zero =>
      intro k I d r hk h
      have hsz : I 81 1 = nI n := (hB.tx h.1).2.1
      have hn := hB.2.2
      refine Ex.iload_n (pc := 7) dX4_readProduct_7 rfl rfl ?_
      refine Ex.aload_n (pc := 8) dX4_readProduct_8 rfl rfl ?_
      refine Ex.getI (pc := 9) dX4_readProduct_9 fX4_49 (s2_81 _ _) ?_
      refine Ex.icmp_ge (pc := 12) (tgt := 95) dX4_readProduct_12 (by decide) (fun _ => ?_) (fun c12 => absurd (by rw [hsz]; exact nI_le (by omega) (by omega)) c12)
      refine Ex.vret (pc := 95) rfl dX4_readProduct_95 (Nat.le_refl _) (Nat.le_refl _) ?_
      exact ⟨_, rfl, rfl, h⟩
    | succ f ih =>
      intro k I d r hk h
      have hsz : I 81 1 = nI n := (hB.tx h.1).2.1
      have hn := hB.2.2
      have hst : prodL tb n pt (f + 1) r = if (isS 42 r || (isS 47 r || isS 37 r)) = true then prodL tb n pt f (adS (opP r, 0) (pt (nx tb n r))) else r := rfl
      rw [hst]
      refine Ex.iload_n (pc := 7) dX4_readProduct_7 rfl rfl ?_
      refine Ex.aload_n (pc := 8) dX4_readProduct_8 rfl rfl ?_
      refine Ex.getI (pc := 9) dX4_readProduct_9 fX4_49 (s2_81 _ _) ?_
      refine Ex.icmp_ge (pc := 12) (tgt := 95) dX4_readProduct_12 (by decide) (fun c12 => absurd c12 (by rw [hsz]; exact nI_ge (by omega) (by omega))) (fun _ => ?_)
      refine Ex.aload_n (pc := 15) dX4_readProduct_15 rfl rfl ?_
      refine Ex.bipush (pc := 16) (v := 42) dX4_readProduct_16 rfl ?_
      refine Ex.callV (pc := 18) (As := [.int 42]) (rest := []) dX4_readProduct_18 cX4_105 (t_isS (k := 42) h (by decide)) (s2_81 _ _) rfl rfl (by omega) (Nat.le_refl _) (Nat.le_refl _) (Nat.le_of_ble_eq_true rfl) (Or.inl (fun r S' h => by obtain ⟨_, h⟩ := h; subst h; rfl)) (fun r S' hq _ _ => ?_)
      obtain ⟨rfl, rfl⟩ := hq
      refine Ex.if_ne (pc := 21) (tgt := 42) dX4_readProduct_21 (by decide) (fun c21 => ?_) (fun c21 => ?_)
      · skip
        refine Ex.aload_n (pc := 42) dX4_readProduct_42 rfl rfl ?_
        refine Ex.bipush (pc := 43) (v := 42) dX4_readProduct_43 rfl ?_
        refine Ex.callV (pc := 45) (As := [.int 42]) (rest := []) dX4_readProduct_45 cX4_105 (t_isS (k := 42) h (by decide)) (s2_81 _ _) rfl rfl (by omega) (Nat.le_refl _) (Nat.le_refl _) (Nat.le_of_ble_eq_true rfl) (Or.inl (fun r S' h => by obtain ⟨_, h⟩ := h; subst h; rfl)) (fun r S' hq _ _ => ?_)
        obtain ⟨rfl, rfl⟩ := hq
        refine Ex.if_eq (pc := 48) (tgt := 55) dX4_readProduct_48 (by decide) (fun c48 => ?_) (fun c48 => ?_)
        · skip
          refine Ex.aload_n (pc := 55) dX4_readProduct_55 rfl rfl ?_
          refine Ex.bipush (pc := 56) (v := 47) dX4_readProduct_56 rfl ?_
          refine Ex.callV (pc := 58) (As := [.int 47]) (rest := []) dX4_readProduct_58 cX4_105 (t_isS (k := 47) h (by decide)) (s2_81 _ _) rfl rfl (by omega) (Nat.le_refl _) (Nat.le_refl _) (Nat.le_of_ble_eq_true rfl) (Or.inl (fun r S' h => by obtain ⟨_, h⟩ := h; subst h; rfl)) (fun r S' hq _ _ => ?_)
          obtain ⟨rfl, rfl⟩ := hq
          refine Ex.if_eq (pc := 61) (tgt := 68) dX4_readProduct_61 (by decide) (fun c61 => ?_) (fun c61 => ?_)
          · skip
            refine Ex.bipush (pc := 68) (v := 6) dX4_readProduct_68 rfl ?_
            refine Ex.istore_n (pc := 70) (ls' := [some (.ref 81), some (.int _), some (.int _), some (.int 6)]) dX4_readProduct_70 rfl (by decide) rfl rfl ?_
            have hyes : (isS 42 r || (isS 47 r || isS 37 r)) = true := by rw [bI_1 c21]; rfl
            have hpay := h.pay (isS_k (bI_1 c21))
            refine Ex.aload_n (pc := 71) dX4_readProduct_71 rfl rfl ?_
            refine Ex.callV (pc := 72) (As := []) (rest := []) dX4_readProduct_72 cX4_61 (t_next hB hpay) (s2_81 _ _) rfl rfl (by omega) (Nat.le_refl _) (Nat.le_refl _) (Nat.le_of_ble_eq_true rfl) (Or.inl (fun r S' h => by obtain ⟨_, _, h, _⟩ := h; subst h; rfl)) (fun r S' hq _ _ => ?_)
            obtain ⟨I1, rfl, rfl, h1⟩ := hq
            refine Ex.aload_n (pc := 75) dX4_readProduct_75 rfl rfl ?_
            refine Ex.iload_n (pc := 76) dX4_readProduct_76 rfl rfl ?_
            refine Ex.callV (pc := 77) (As := [.int _]) (rest := []) dX4_readProduct_77 cX4_174 (hp _ _ _ h1) (s2_81 _ _) rfl rfl (by omega) (Nat.le_refl _) (Nat.le_refl _) (Nat.le_of_ble_eq_true rfl) (Or.inl (fun r S' h => by obtain ⟨_, _, h, _⟩ := h; subst h; rfl)) (fun r S' hq _ _ => ?_)
            obtain ⟨I2, rfl, rfl, h2⟩ := hq
            refine Ex.aload_n (pc := 80) dX4_readProduct_80 rfl rfl ?_
            refine Ex.getR (pc := 81) dX4_readProduct_81 fX4_57 (s2_81 _ _) r2_81_2 ?_
            refine Ex.iload_n (pc := 84) dX4_readProduct_84 rfl rfl ?_
            refine Ex.iconst (pc := 85) (v := 0) dX4_readProduct_85 rfl ?_
            refine Ex.callV (pc := 86) (As := [.int 6, .int 0]) (rest := []) dX4_readProduct_86 cX4_171 (t_adS (k := 6) (v := 0) (d2 := d) (p2 := false) h2 hB.2.2 (by decide) (by decide) h2.room) (s2_82 _ _) rfl rfl (by omega) (Nat.le_refl _) (Nat.le_refl _) (Nat.le_of_ble_eq_true rfl) (Or.inl (fun r S' h => by obtain ⟨_, _, h, _⟩ := h; subst h; rfl)) (fun r S' hq _ _ => ?_)
            obtain ⟨I3, rfl, rfl, h3⟩ := hq
            refine Ex.iinc (pc := 89) (ls' := [some (.ref 81), some (.int _), some (.int _), some (.int 6)]) dX4_readProduct_89 rfl rfl (by decide) rfl rfl ?_
            refine Ex.goto (pc := 92) (tgt := 7) dX4_readProduct_92 (by decide) ?_
            have hop : opP r = 6 := by unfold opP; rw [if_neg (by rw [bI_0 c48]; decide), if_neg (by rw [bI_0 c61]; decide)]
            rw [if_pos hyes, hop]
            rw [show nI k + Int32.ofInt 1 = nI (k + 1) from nI_1 k]
            exact Ex.le (ls' := [some (.ref 81), some (.int (nI o)), some (.int (nI (k + 1))), none]) ⟨rfl, rfl, rfl, trivial⟩ (ih (k + 1) _ d _ (by omega) h3)
          · skip
            refine Ex.iconst (pc := 64) (v := 5) dX4_readProduct_64 rfl ?_
            refine Ex.goto (pc := 65) (tgt := 70) dX4_readProduct_65 (by decide) ?_
            refine Ex.istore_n (pc := 70) (ls' := [some (.ref 81), some (.int _), some (.int _), some (.int 5)]) dX4_readProduct_70 rfl (by decide) rfl rfl ?_
            have hyes : (isS 42 r || (isS 47 r || isS 37 r)) = true := by rw [bI_1 c21]; rfl
            have hpay := h.pay (isS_k (bI_1 c21))
            refine Ex.aload_n (pc := 71) dX4_readProduct_71 rfl rfl ?_
            refine Ex.callV (pc := 72) (As := []) (rest := []) dX4_readProduct_72 cX4_61 (t_next hB hpay) (s2_81 _ _) rfl rfl (by omega) (Nat.le_refl _) (Nat.le_refl _) (Nat.le_of_ble_eq_true rfl) (Or.inl (fun r S' h => by obtain ⟨_, _, h, _⟩ := h; subst h; rfl)) (fun r S' hq _ _ => ?_)
            obtain ⟨I1, rfl, rfl, h1⟩ := hq
            refine Ex.aload_n (pc := 75) dX4_readProduct_75 rfl rfl ?_
            refine Ex.iload_n (pc := 76) dX4_readProduct_76 rfl rfl ?_
            refine Ex.callV (pc := 77) (As := [.int _]) (rest := []) dX4_readProduct_77 cX4_174 (hp _ _ _ h1) (s2_81 _ _) rfl rfl (by omega) (Nat.le_refl _) (Nat.le_refl _) (Nat.le_of_ble_eq_true rfl) (Or.inl (fun r S' h => by obtain ⟨_, _, h, _⟩ := h; subst h; rfl)) (fun r S' hq _ _ => ?_)
            obtain ⟨I2, rfl, rfl, h2⟩ := hq
            refine Ex.aload_n (pc := 80) dX4_readProduct_80 rfl rfl ?_
            refine Ex.getR (pc := 81) dX4_readProduct_81 fX4_57 (s2_81 _ _) r2_81_2 ?_
            refine Ex.iload_n (pc := 84) dX4_readProduct_84 rfl rfl ?_
            refine Ex.iconst (pc := 85) (v := 0) dX4_readProduct_85 rfl ?_
            refine Ex.callV (pc := 86) (As := [.int 5, .int 0]) (rest := []) dX4_readProduct_86 cX4_171 (t_adS (k := 5) (v := 0) (d2 := d) (p2 := false) h2 hB.2.2 (by decide) (by decide) h2.room) (s2_82 _ _) rfl rfl (by omega) (Nat.le_refl _) (Nat.le_refl _) (Nat.le_of_ble_eq_true rfl) (Or.inl (fun r S' h => by obtain ⟨_, _, h, _⟩ := h; subst h; rfl)) (fun r S' hq _ _ => ?_)
            obtain ⟨I3, rfl, rfl, h3⟩ := hq
            refine Ex.iinc (pc := 89) (ls' := [some (.ref 81), some (.int _), some (.int _), some (.int 5)]) dX4_readProduct_89 rfl rfl (by decide) rfl rfl ?_
            refine Ex.goto (pc := 92) (tgt := 7) dX4_readProduct_92 (by decide) ?_
            have hop : opP r = 5 := by unfold opP; rw [if_neg (by rw [bI_0 c48]; decide), if_pos (bI_1 c61)]
            rw [if_pos hyes, hop]
            rw [show nI k + Int32.ofInt 1 = nI (k + 1) from nI_1 k]
            exact Ex.le (ls' := [some (.ref 81), some (.int (nI o)), some (.int (nI (k + 1))), none]) ⟨rfl, rfl, rfl, trivial⟩ (ih (k + 1) _ d _ (by omega) h3)
        · skip
          refine Ex.iconst (pc := 51) (v := 4) dX4_readProduct_51 rfl ?_
          refine Ex.goto (pc := 52) (tgt := 70) dX4_readProduct_52 (by decide) ?_
          refine Ex.istore_n (pc := 70) (ls' := [some (.ref 81), some (.int _), some (.int _), some (.int 4)]) dX4_readProduct_70 rfl (by decide) rfl rfl ?_
          have hyes : (isS 42 r || (isS 47 r || isS 37 r)) = true := by rw [bI_1 c21]; rfl
          have hpay := h.pay (isS_k (bI_1 c21))
          refine Ex.aload_n (pc := 71) dX4_readProduct_71 rfl rfl ?_
          refine Ex.callV (pc := 72) (As := []) (rest := []) dX4_readProduct_72 cX4_61 (t_next hB hpay) (s2_81 _ _) rfl rfl (by omega) (Nat.le_refl _) (Nat.le_refl _) (Nat.le_of_ble_eq_true rfl) (Or.inl (fun r S' h => by obtain ⟨_, _, h, _⟩ := h; subst h; rfl)) (fun r S' hq _ _ => ?_)
          obtain ⟨I1, rfl, rfl, h1⟩ := hq
          refine Ex.aload_n (pc := 75) dX4_readProduct_75 rfl rfl ?_
          refine Ex.iload_n (pc := 76) dX4_readProduct_76 rfl rfl ?_
          refine Ex.callV (pc := 77) (As := [.int _]) (rest := []) dX4_readProduct_77 cX4_174 (hp _ _ _ h1) (s2_81 _ _) rfl rfl (by omega) (Nat.le_refl _) (Nat.le_refl _) (Nat.le_of_ble_eq_true rfl) (Or.inl (fun r S' h => by obtain ⟨_, _, h, _⟩ := h; subst h; rfl)) (fun r S' hq _ _ => ?_)
          obtain ⟨I2, rfl, rfl, h2⟩ := hq
          refine Ex.aload_n (pc := 80) dX4_readProduct_80 rfl rfl ?_
          refine Ex.getR (pc := 81) dX4_readProduct_81 fX4_57 (s2_81 _ _) r2_81_2 ?_
          refine Ex.iload_n (pc := 84) dX4_readProduct_84 rfl rfl ?_
          refine Ex.iconst (pc := 85) (v := 0) dX4_readProduct_85 rfl ?_
          refine Ex.callV (pc := 86) (As := [.int 4, .int 0]) (rest := []) dX4_readProduct_86 cX4_171 (t_adS (k := 4) (v := 0) (d2 := d) (p2 := false) h2 hB.2.2 (by decide) (by decide) h2.room) (s2_82 _ _) rfl rfl (by omega) (Nat.le_refl _) (Nat.le_refl _) (Nat.le_of_ble_eq_true rfl) (Or.inl (fun r S' h => by obtain ⟨_, _, h, _⟩ := h; subst h; rfl)) (fun r S' hq _ _ => ?_)
          obtain ⟨I3, rfl, rfl, h3⟩ := hq
          refine Ex.iinc (pc := 89) (ls' := [some (.ref 81), some (.int _), some (.int _), some (.int 4)]) dX4_readProduct_89 rfl rfl (by decide) rfl rfl ?_
          refine Ex.goto (pc := 92) (tgt := 7) dX4_readProduct_92 (by decide) ?_
          have hop : opP r = 4 := by unfold opP; rw [if_pos (bI_1 c48)]
          rw [if_pos hyes, hop]
          rw [show nI k + Int32.ofInt 1 = nI (k + 1) from nI_1 k]
          exact Ex.le (ls' := [some (.ref 81), some (.int (nI o)), some (.int (nI (k + 1))), none]) ⟨rfl, rfl, rfl, trivial⟩ (ih (k + 1) _ d _ (by omega) h3)
      · skip
        refine Ex.aload_n (pc := 24) dX4_readProduct_24 rfl rfl ?_
        refine Ex.bipush (pc := 25) (v := 47) dX4_readProduct_25 rfl ?_
        refine Ex.callV (pc := 27) (As := [.int 47]) (rest := []) dX4_readProduct_27 cX4_105 (t_isS (k := 47) h (by decide)) (s2_81 _ _) rfl rfl (by omega) (Nat.le_refl _) (Nat.le_refl _) (Nat.le_of_ble_eq_true rfl) (Or.inl (fun r S' h => by obtain ⟨_, h⟩ := h; subst h; rfl)) (fun r S' hq _ _ => ?_)
        obtain ⟨rfl, rfl⟩ := hq
        refine Ex.if_ne (pc := 30) (tgt := 42) dX4_readProduct_30 (by decide) (fun c30 => ?_) (fun c30 => ?_)
        · skip
          refine Ex.aload_n (pc := 42) dX4_readProduct_42 rfl rfl ?_
          refine Ex.bipush (pc := 43) (v := 42) dX4_readProduct_43 rfl ?_
          refine Ex.callV (pc := 45) (As := [.int 42]) (rest := []) dX4_readProduct_45 cX4_105 (t_isS (k := 42) h (by decide)) (s2_81 _ _) rfl rfl (by omega) (Nat.le_refl _) (Nat.le_refl _) (Nat.le_of_ble_eq_true rfl) (Or.inl (fun r S' h => by obtain ⟨_, h⟩ := h; subst h; rfl)) (fun r S' hq _ _ => ?_)
          obtain ⟨rfl, rfl⟩ := hq
          refine Ex.if_eq (pc := 48) (tgt := 55) dX4_readProduct_48 (by decide) (fun c48 => ?_) (fun c48 => ?_)
          · skip
            refine Ex.aload_n (pc := 55) dX4_readProduct_55 rfl rfl ?_
            refine Ex.bipush (pc := 56) (v := 47) dX4_readProduct_56 rfl ?_
            refine Ex.callV (pc := 58) (As := [.int 47]) (rest := []) dX4_readProduct_58 cX4_105 (t_isS (k := 47) h (by decide)) (s2_81 _ _) rfl rfl (by omega) (Nat.le_refl _) (Nat.le_refl _) (Nat.le_of_ble_eq_true rfl) (Or.inl (fun r S' h => by obtain ⟨_, h⟩ := h; subst h; rfl)) (fun r S' hq _ _ => ?_)
            obtain ⟨rfl, rfl⟩ := hq
            refine Ex.if_eq (pc := 61) (tgt := 68) dX4_readProduct_61 (by decide) (fun c61 => ?_) (fun c61 => ?_)
            · skip
              refine Ex.bipush (pc := 68) (v := 6) dX4_readProduct_68 rfl ?_
              refine Ex.istore_n (pc := 70) (ls' := [some (.ref 81), some (.int _), some (.int _), some (.int 6)]) dX4_readProduct_70 rfl (by decide) rfl rfl ?_
              have hyes : (isS 42 r || (isS 47 r || isS 37 r)) = true := by rw [bI_1 c30]; simp
              have hpay := h.pay (isS_k (bI_1 c30))
              refine Ex.aload_n (pc := 71) dX4_readProduct_71 rfl rfl ?_
              refine Ex.callV (pc := 72) (As := []) (rest := []) dX4_readProduct_72 cX4_61 (t_next hB hpay) (s2_81 _ _) rfl rfl (by omega) (Nat.le_refl _) (Nat.le_refl _) (Nat.le_of_ble_eq_true rfl) (Or.inl (fun r S' h => by obtain ⟨_, _, h, _⟩ := h; subst h; rfl)) (fun r S' hq _ _ => ?_)
              obtain ⟨I1, rfl, rfl, h1⟩ := hq
              refine Ex.aload_n (pc := 75) dX4_readProduct_75 rfl rfl ?_
              refine Ex.iload_n (pc := 76) dX4_readProduct_76 rfl rfl ?_
              refine Ex.callV (pc := 77) (As := [.int _]) (rest := []) dX4_readProduct_77 cX4_174 (hp _ _ _ h1) (s2_81 _ _) rfl rfl (by omega) (Nat.le_refl _) (Nat.le_refl _) (Nat.le_of_ble_eq_true rfl) (Or.inl (fun r S' h => by obtain ⟨_, _, h, _⟩ := h; subst h; rfl)) (fun r S' hq _ _ => ?_)
              obtain ⟨I2, rfl, rfl, h2⟩ := hq
              refine Ex.aload_n (pc := 80) dX4_readProduct_80 rfl rfl ?_
              refine Ex.getR (pc := 81) dX4_readProduct_81 fX4_57 (s2_81 _ _) r2_81_2 ?_
              refine Ex.iload_n (pc := 84) dX4_readProduct_84 rfl rfl ?_
              refine Ex.iconst (pc := 85) (v := 0) dX4_readProduct_85 rfl ?_
              refine Ex.callV (pc := 86) (As := [.int 6, .int 0]) (rest := []) dX4_readProduct_86 cX4_171 (t_adS (k := 6) (v := 0) (d2 := d) (p2 := false) h2 hB.2.2 (by decide) (by decide) h2.room) (s2_82 _ _) rfl rfl (by omega) (Nat.le_refl _) (Nat.le_refl _) (Nat.le_of_ble_eq_true rfl) (Or.inl (fun r S' h => by obtain ⟨_, _, h, _⟩ := h; subst h; rfl)) (fun r S' hq _ _ => ?_)
              obtain ⟨I3, rfl, rfl, h3⟩ := hq
              refine Ex.iinc (pc := 89) (ls' := [some (.ref 81), some (.int _), some (.int _), some (.int 6)]) dX4_readProduct_89 rfl rfl (by decide) rfl rfl ?_
              refine Ex.goto (pc := 92) (tgt := 7) dX4_readProduct_92 (by decide) ?_
              have hop : opP r = 6 := by unfold opP; rw [if_neg (by rw [bI_0 c48]; decide), if_neg (by rw [bI_0 c61]; decide)]
              rw [if_pos hyes, hop]
              rw [show nI k + Int32.ofInt 1 = nI (k + 1) from nI_1 k]
              exact Ex.le (ls' := [some (.ref 81), some (.int (nI o)), some (.int (nI (k + 1))), none]) ⟨rfl, rfl, rfl, trivial⟩ (ih (k + 1) _ d _ (by omega) h3)
            · skip
              refine Ex.iconst (pc := 64) (v := 5) dX4_readProduct_64 rfl ?_
              refine Ex.goto (pc := 65) (tgt := 70) dX4_readProduct_65 (by decide) ?_
              refine Ex.istore_n (pc := 70) (ls' := [some (.ref 81), some (.int _), some (.int _), some (.int 5)]) dX4_readProduct_70 rfl (by decide) rfl rfl ?_
              have hyes : (isS 42 r || (isS 47 r || isS 37 r)) = true := by rw [bI_1 c30]; simp
              have hpay := h.pay (isS_k (bI_1 c30))
              refine Ex.aload_n (pc := 71) dX4_readProduct_71 rfl rfl ?_
              refine Ex.callV (pc := 72) (As := []) (rest := []) dX4_readProduct_72 cX4_61 (t_next hB hpay) (s2_81 _ _) rfl rfl (by omega) (Nat.le_refl _) (Nat.le_refl _) (Nat.le_of_ble_eq_true rfl) (Or.inl (fun r S' h => by obtain ⟨_, _, h, _⟩ := h; subst h; rfl)) (fun r S' hq _ _ => ?_)
              obtain ⟨I1, rfl, rfl, h1⟩ := hq
              refine Ex.aload_n (pc := 75) dX4_readProduct_75 rfl rfl ?_
              refine Ex.iload_n (pc := 76) dX4_readProduct_76 rfl rfl ?_
              refine Ex.callV (pc := 77) (As := [.int _]) (rest := []) dX4_readProduct_77 cX4_174 (hp _ _ _ h1) (s2_81 _ _) rfl rfl (by omega) (Nat.le_refl _) (Nat.le_refl _) (Nat.le_of_ble_eq_true rfl) (Or.inl (fun r S' h => by obtain ⟨_, _, h, _⟩ := h; subst h; rfl)) (fun r S' hq _ _ => ?_)
              obtain ⟨I2, rfl, rfl, h2⟩ := hq
              refine Ex.aload_n (pc := 80) dX4_readProduct_80 rfl rfl ?_
              refine Ex.getR (pc := 81) dX4_readProduct_81 fX4_57 (s2_81 _ _) r2_81_2 ?_
              refine Ex.iload_n (pc := 84) dX4_readProduct_84 rfl rfl ?_
              refine Ex.iconst (pc := 85) (v := 0) dX4_readProduct_85 rfl ?_
              refine Ex.callV (pc := 86) (As := [.int 5, .int 0]) (rest := []) dX4_readProduct_86 cX4_171 (t_adS (k := 5) (v := 0) (d2 := d) (p2 := false) h2 hB.2.2 (by decide) (by decide) h2.room) (s2_82 _ _) rfl rfl (by omega) (Nat.le_refl _) (Nat.le_refl _) (Nat.le_of_ble_eq_true rfl) (Or.inl (fun r S' h => by obtain ⟨_, _, h, _⟩ := h; subst h; rfl)) (fun r S' hq _ _ => ?_)
              obtain ⟨I3, rfl, rfl, h3⟩ := hq
              refine Ex.iinc (pc := 89) (ls' := [some (.ref 81), some (.int _), some (.int _), some (.int 5)]) dX4_readProduct_89 rfl rfl (by decide) rfl rfl ?_
              refine Ex.goto (pc := 92) (tgt := 7) dX4_readProduct_92 (by decide) ?_
              have hop : opP r = 5 := by unfold opP; rw [if_neg (by rw [bI_0 c48]; decide), if_pos (bI_1 c61)]
              rw [if_pos hyes, hop]
              rw [show nI k + Int32.ofInt 1 = nI (k + 1) from nI_1 k]
              exact Ex.le (ls' := [some (.ref 81), some (.int (nI o)), some (.int (nI (k + 1))), none]) ⟨rfl, rfl, rfl, trivial⟩ (ih (k + 1) _ d _ (by omega) h3)
          · skip
            refine Ex.iconst (pc := 51) (v := 4) dX4_readProduct_51 rfl ?_
            refine Ex.goto (pc := 52) (tgt := 70) dX4_readProduct_52 (by decide) ?_
            refine Ex.istore_n (pc := 70) (ls' := [some (.ref 81), some (.int _), some (.int _), some (.int 4)]) dX4_readProduct_70 rfl (by decide) rfl rfl ?_
            have hyes : (isS 42 r || (isS 47 r || isS 37 r)) = true := by rw [bI_1 c30]; simp
            have hpay := h.pay (isS_k (bI_1 c30))
            refine Ex.aload_n (pc := 71) dX4_readProduct_71 rfl rfl ?_
            refine Ex.callV (pc := 72) (As := []) (rest := []) dX4_readProduct_72 cX4_61 (t_next hB hpay) (s2_81 _ _) rfl rfl (by omega) (Nat.le_refl _) (Nat.le_refl _) (Nat.le_of_ble_eq_true rfl) (Or.inl (fun r S' h => by obtain ⟨_, _, h, _⟩ := h; subst h; rfl)) (fun r S' hq _ _ => ?_)
            obtain ⟨I1, rfl, rfl, h1⟩ := hq
            refine Ex.aload_n (pc := 75) dX4_readProduct_75 rfl rfl ?_
            refine Ex.iload_n (pc := 76) dX4_readProduct_76 rfl rfl ?_
            refine Ex.callV (pc := 77) (As := [.int _]) (rest := []) dX4_readProduct_77 cX4_174 (hp _ _ _ h1) (s2_81 _ _) rfl rfl (by omega) (Nat.le_refl _) (Nat.le_refl _) (Nat.le_of_ble_eq_true rfl) (Or.inl (fun r S' h => by obtain ⟨_, _, h, _⟩ := h; subst h; rfl)) (fun r S' hq _ _ => ?_)
            obtain ⟨I2, rfl, rfl, h2⟩ := hq
            refine Ex.aload_n (pc := 80) dX4_readProduct_80 rfl rfl ?_
            refine Ex.getR (pc := 81) dX4_readProduct_81 fX4_57 (s2_81 _ _) r2_81_2 ?_
            refine Ex.iload_n (pc := 84) dX4_readProduct_84 rfl rfl ?_
            refine Ex.iconst (pc := 85) (v := 0) dX4_readProduct_85 rfl ?_
            refine Ex.callV (pc := 86) (As := [.int 4, .int 0]) (rest := []) dX4_readProduct_86 cX4_171 (t_adS (k := 4) (v := 0) (d2 := d) (p2 := false) h2 hB.2.2 (by decide) (by decide) h2.room) (s2_82 _ _) rfl rfl (by omega) (Nat.le_refl _) (Nat.le_refl _) (Nat.le_of_ble_eq_true rfl) (Or.inl (fun r S' h => by obtain ⟨_, _, h, _⟩ := h; subst h; rfl)) (fun r S' hq _ _ => ?_)
            obtain ⟨I3, rfl, rfl, h3⟩ := hq
            refine Ex.iinc (pc := 89) (ls' := [some (.ref 81), some (.int _), some (.int _), some (.int 4)]) dX4_readProduct_89 rfl rfl (by decide) rfl rfl ?_
            refine Ex.goto (pc := 92) (tgt := 7) dX4_readProduct_92 (by decide) ?_
            have hop : opP r = 4 := by unfold opP; rw [if_pos (bI_1 c48)]
            rw [if_pos hyes, hop]
            rw [show nI k + Int32.ofInt 1 = nI (k + 1) from nI_1 k]
            exact Ex.le (ls' := [some (.ref 81), some (.int (nI o)), some (.int (nI (k + 1))), none]) ⟨rfl, rfl, rfl, trivial⟩ (ih (k + 1) _ d _ (by omega) h3)
        · skip
          refine Ex.aload_n (pc := 33) dX4_readProduct_33 rfl rfl ?_
          refine Ex.bipush (pc := 34) (v := 37) dX4_readProduct_34 rfl ?_
          refine Ex.callV (pc := 36) (As := [.int 37]) (rest := []) dX4_readProduct_36 cX4_105 (t_isS (k := 37) h (by decide)) (s2_81 _ _) rfl rfl (by omega) (Nat.le_refl _) (Nat.le_refl _) (Nat.le_of_ble_eq_true rfl) (Or.inl (fun r S' h => by obtain ⟨_, h⟩ := h; subst h; rfl)) (fun r S' hq _ _ => ?_)
          obtain ⟨rfl, rfl⟩ := hq
          refine Ex.if_eq (pc := 39) (tgt := 95) dX4_readProduct_39 (by decide) (fun c39 => ?_) (fun c39 => ?_)
          · skip
            refine Ex.vret (pc := 95) rfl dX4_readProduct_95 (Nat.le_refl _) (Nat.le_refl _) ?_
            rw [if_neg (by rw [bI_0 c21, bI_0 c30, bI_0 c39]; decide)]
            exact ⟨_, rfl, rfl, h⟩
          · skip
            refine Ex.aload_n (pc := 42) dX4_readProduct_42 rfl rfl ?_
            refine Ex.bipush (pc := 43) (v := 42) dX4_readProduct_43 rfl ?_
            refine Ex.callV (pc := 45) (As := [.int 42]) (rest := []) dX4_readProduct_45 cX4_105 (t_isS (k := 42) h (by decide)) (s2_81 _ _) rfl rfl (by omega) (Nat.le_refl _) (Nat.le_refl _) (Nat.le_of_ble_eq_true rfl) (Or.inl (fun r S' h => by obtain ⟨_, h⟩ := h; subst h; rfl)) (fun r S' hq _ _ => ?_)
            obtain ⟨rfl, rfl⟩ := hq
            refine Ex.if_eq (pc := 48) (tgt := 55) dX4_readProduct_48 (by decide) (fun c48 => ?_) (fun c48 => ?_)
            · skip
              refine Ex.aload_n (pc := 55) dX4_readProduct_55 rfl rfl ?_
              refine Ex.bipush (pc := 56) (v := 47) dX4_readProduct_56 rfl ?_
              refine Ex.callV (pc := 58) (As := [.int 47]) (rest := []) dX4_readProduct_58 cX4_105 (t_isS (k := 47) h (by decide)) (s2_81 _ _) rfl rfl (by omega) (Nat.le_refl _) (Nat.le_refl _) (Nat.le_of_ble_eq_true rfl) (Or.inl (fun r S' h => by obtain ⟨_, h⟩ := h; subst h; rfl)) (fun r S' hq _ _ => ?_)
              obtain ⟨rfl, rfl⟩ := hq
              refine Ex.if_eq (pc := 61) (tgt := 68) dX4_readProduct_61 (by decide) (fun c61 => ?_) (fun c61 => ?_)
              · skip
                refine Ex.bipush (pc := 68) (v := 6) dX4_readProduct_68 rfl ?_
                refine Ex.istore_n (pc := 70) (ls' := [some (.ref 81), some (.int _), some (.int _), some (.int 6)]) dX4_readProduct_70 rfl (by decide) rfl rfl ?_
                have hyes : (isS 42 r || (isS 47 r || isS 37 r)) = true := by rw [bI_1 c39]; simp
                have hpay := h.pay (isS_k (bI_1 c39))
                refine Ex.aload_n (pc := 71) dX4_readProduct_71 rfl rfl ?_
                refine Ex.callV (pc := 72) (As := []) (rest := []) dX4_readProduct_72 cX4_61 (t_next hB hpay) (s2_81 _ _) rfl rfl (by omega) (Nat.le_refl _) (Nat.le_refl _) (Nat.le_of_ble_eq_true rfl) (Or.inl (fun r S' h => by obtain ⟨_, _, h, _⟩ := h; subst h; rfl)) (fun r S' hq _ _ => ?_)
                obtain ⟨I1, rfl, rfl, h1⟩ := hq
                refine Ex.aload_n (pc := 75) dX4_readProduct_75 rfl rfl ?_
                refine Ex.iload_n (pc := 76) dX4_readProduct_76 rfl rfl ?_
                refine Ex.callV (pc := 77) (As := [.int _]) (rest := []) dX4_readProduct_77 cX4_174 (hp _ _ _ h1) (s2_81 _ _) rfl rfl (by omega) (Nat.le_refl _) (Nat.le_refl _) (Nat.le_of_ble_eq_true rfl) (Or.inl (fun r S' h => by obtain ⟨_, _, h, _⟩ := h; subst h; rfl)) (fun r S' hq _ _ => ?_)
                obtain ⟨I2, rfl, rfl, h2⟩ := hq
                refine Ex.aload_n (pc := 80) dX4_readProduct_80 rfl rfl ?_
                refine Ex.getR (pc := 81) dX4_readProduct_81 fX4_57 (s2_81 _ _) r2_81_2 ?_
                refine Ex.iload_n (pc := 84) dX4_readProduct_84 rfl rfl ?_
                refine Ex.iconst (pc := 85) (v := 0) dX4_readProduct_85 rfl ?_
                refine Ex.callV (pc := 86) (As := [.int 6, .int 0]) (rest := []) dX4_readProduct_86 cX4_171 (t_adS (k := 6) (v := 0) (d2 := d) (p2 := false) h2 hB.2.2 (by decide) (by decide) h2.room) (s2_82 _ _) rfl rfl (by omega) (Nat.le_refl _) (Nat.le_refl _) (Nat.le_of_ble_eq_true rfl) (Or.inl (fun r S' h => by obtain ⟨_, _, h, _⟩ := h; subst h; rfl)) (fun r S' hq _ _ => ?_)
                obtain ⟨I3, rfl, rfl, h3⟩ := hq
                refine Ex.iinc (pc := 89) (ls' := [some (.ref 81), some (.int _), some (.int _), some (.int 6)]) dX4_readProduct_89 rfl rfl (by decide) rfl rfl ?_
                refine Ex.goto (pc := 92) (tgt := 7) dX4_readProduct_92 (by decide) ?_
                have hop : opP r = 6 := by unfold opP; rw [if_neg (by rw [bI_0 c48]; decide), if_neg (by rw [bI_0 c61]; decide)]
                rw [if_pos hyes, hop]
                rw [show nI k + Int32.ofInt 1 = nI (k + 1) from nI_1 k]
                exact Ex.le (ls' := [some (.ref 81), some (.int (nI o)), some (.int (nI (k + 1))), none]) ⟨rfl, rfl, rfl, trivial⟩ (ih (k + 1) _ d _ (by omega) h3)
              · skip
                refine Ex.iconst (pc := 64) (v := 5) dX4_readProduct_64 rfl ?_
                refine Ex.goto (pc := 65) (tgt := 70) dX4_readProduct_65 (by decide) ?_
                refine Ex.istore_n (pc := 70) (ls' := [some (.ref 81), some (.int _), some (.int _), some (.int 5)]) dX4_readProduct_70 rfl (by decide) rfl rfl ?_
                have hyes : (isS 42 r || (isS 47 r || isS 37 r)) = true := by rw [bI_1 c39]; simp
                have hpay := h.pay (isS_k (bI_1 c39))
                refine Ex.aload_n (pc := 71) dX4_readProduct_71 rfl rfl ?_
                refine Ex.callV (pc := 72) (As := []) (rest := []) dX4_readProduct_72 cX4_61 (t_next hB hpay) (s2_81 _ _) rfl rfl (by omega) (Nat.le_refl _) (Nat.le_refl _) (Nat.le_of_ble_eq_true rfl) (Or.inl (fun r S' h => by obtain ⟨_, _, h, _⟩ := h; subst h; rfl)) (fun r S' hq _ _ => ?_)
                obtain ⟨I1, rfl, rfl, h1⟩ := hq
                refine Ex.aload_n (pc := 75) dX4_readProduct_75 rfl rfl ?_
                refine Ex.iload_n (pc := 76) dX4_readProduct_76 rfl rfl ?_
                refine Ex.callV (pc := 77) (As := [.int _]) (rest := []) dX4_readProduct_77 cX4_174 (hp _ _ _ h1) (s2_81 _ _) rfl rfl (by omega) (Nat.le_refl _) (Nat.le_refl _) (Nat.le_of_ble_eq_true rfl) (Or.inl (fun r S' h => by obtain ⟨_, _, h, _⟩ := h; subst h; rfl)) (fun r S' hq _ _ => ?_)
                obtain ⟨I2, rfl, rfl, h2⟩ := hq
                refine Ex.aload_n (pc := 80) dX4_readProduct_80 rfl rfl ?_
                refine Ex.getR (pc := 81) dX4_readProduct_81 fX4_57 (s2_81 _ _) r2_81_2 ?_
                refine Ex.iload_n (pc := 84) dX4_readProduct_84 rfl rfl ?_
                refine Ex.iconst (pc := 85) (v := 0) dX4_readProduct_85 rfl ?_
                refine Ex.callV (pc := 86) (As := [.int 5, .int 0]) (rest := []) dX4_readProduct_86 cX4_171 (t_adS (k := 5) (v := 0) (d2 := d) (p2 := false) h2 hB.2.2 (by decide) (by decide) h2.room) (s2_82 _ _) rfl rfl (by omega) (Nat.le_refl _) (Nat.le_refl _) (Nat.le_of_ble_eq_true rfl) (Or.inl (fun r S' h => by obtain ⟨_, _, h, _⟩ := h; subst h; rfl)) (fun r S' hq _ _ => ?_)
                obtain ⟨I3, rfl, rfl, h3⟩ := hq
                refine Ex.iinc (pc := 89) (ls' := [some (.ref 81), some (.int _), some (.int _), some (.int 5)]) dX4_readProduct_89 rfl rfl (by decide) rfl rfl ?_
                refine Ex.goto (pc := 92) (tgt := 7) dX4_readProduct_92 (by decide) ?_
                have hop : opP r = 5 := by unfold opP; rw [if_neg (by rw [bI_0 c48]; decide), if_pos (bI_1 c61)]
                rw [if_pos hyes, hop]
                rw [show nI k + Int32.ofInt 1 = nI (k + 1) from nI_1 k]
                exact Ex.le (ls' := [some (.ref 81), some (.int (nI o)), some (.int (nI (k + 1))), none]) ⟨rfl, rfl, rfl, trivial⟩ (ih (k + 1) _ d _ (by omega) h3)
            · skip
              refine Ex.iconst (pc := 51) (v := 4) dX4_readProduct_51 rfl ?_
              refine Ex.goto (pc := 52) (tgt := 70) dX4_readProduct_52 (by decide) ?_
              refine Ex.istore_n (pc := 70) (ls' := [some (.ref 81), some (.int _), some (.int _), some (.int 4)]) dX4_readProduct_70 rfl (by decide) rfl rfl ?_
              have hyes : (isS 42 r || (isS 47 r || isS 37 r)) = true := by rw [bI_1 c39]; simp
              have hpay := h.pay (isS_k (bI_1 c39))
              refine Ex.aload_n (pc := 71) dX4_readProduct_71 rfl rfl ?_
              refine Ex.callV (pc := 72) (As := []) (rest := []) dX4_readProduct_72 cX4_61 (t_next hB hpay) (s2_81 _ _) rfl rfl (by omega) (Nat.le_refl _) (Nat.le_refl _) (Nat.le_of_ble_eq_true rfl) (Or.inl (fun r S' h => by obtain ⟨_, _, h, _⟩ := h; subst h; rfl)) (fun r S' hq _ _ => ?_)
              obtain ⟨I1, rfl, rfl, h1⟩ := hq
              refine Ex.aload_n (pc := 75) dX4_readProduct_75 rfl rfl ?_
              refine Ex.iload_n (pc := 76) dX4_readProduct_76 rfl rfl ?_
              refine Ex.callV (pc := 77) (As := [.int _]) (rest := []) dX4_readProduct_77 cX4_174 (hp _ _ _ h1) (s2_81 _ _) rfl rfl (by omega) (Nat.le_refl _) (Nat.le_refl _) (Nat.le_of_ble_eq_true rfl) (Or.inl (fun r S' h => by obtain ⟨_, _, h, _⟩ := h; subst h; rfl)) (fun r S' hq _ _ => ?_)
              obtain ⟨I2, rfl, rfl, h2⟩ := hq
              refine Ex.aload_n (pc := 80) dX4_readProduct_80 rfl rfl ?_
              refine Ex.getR (pc := 81) dX4_readProduct_81 fX4_57 (s2_81 _ _) r2_81_2 ?_
              refine Ex.iload_n (pc := 84) dX4_readProduct_84 rfl rfl ?_
              refine Ex.iconst (pc := 85) (v := 0) dX4_readProduct_85 rfl ?_
              refine Ex.callV (pc := 86) (As := [.int 4, .int 0]) (rest := []) dX4_readProduct_86 cX4_171 (t_adS (k := 4) (v := 0) (d2 := d) (p2 := false) h2 hB.2.2 (by decide) (by decide) h2.room) (s2_82 _ _) rfl rfl (by omega) (Nat.le_refl _) (Nat.le_refl _) (Nat.le_of_ble_eq_true rfl) (Or.inl (fun r S' h => by obtain ⟨_, _, h, _⟩ := h; subst h; rfl)) (fun r S' hq _ _ => ?_)
              obtain ⟨I3, rfl, rfl, h3⟩ := hq
              refine Ex.iinc (pc := 89) (ls' := [some (.ref 81), some (.int _), some (.int _), some (.int 4)]) dX4_readProduct_89 rfl rfl (by decide) rfl rfl ?_
              refine Ex.goto (pc := 92) (tgt := 7) dX4_readProduct_92 (by decide) ?_
              have hop : opP r = 4 := by unfold opP; rw [if_pos (bI_1 c48)]
              rw [if_pos hyes, hop]
              rw [show nI k + Int32.ofInt 1 = nI (k + 1) from nI_1 k]
              exact Ex.le (ls' := [some (.ref 81), some (.int (nI o)), some (.int (nI (k + 1))), none]) ⟨rfl, rfl, rfl, trivial⟩ (ih (k + 1) _ d _ (by omega) h3)
  intro I d r h
  refine Run.of (ls := [some (.ref 81), some (.int _), none, none]) (by decide) (Nat.le_of_ble_eq_true rfl) rfl ?_
  refine Ex.aload_n (pc := 0) dX4_readProduct_0 rfl rfl ?_
  refine Ex.iload_n (pc := 1) dX4_readProduct_1 rfl rfl ?_
  refine Ex.callV (pc := 2) (As := [.int _]) (rest := []) dX4_readProduct_2 cX4_174 (hp _ _ _ h) (s2_81 _ _) rfl rfl (by omega) (Nat.le_refl _) (Nat.le_refl _) (Nat.le_of_ble_eq_true rfl) (Or.inl (fun r S' h => by obtain ⟨_, _, h, _⟩ := h; subst h; rfl)) (fun r S' hq _ _ => ?_)
  obtain ⟨I1, rfl, rfl, h1⟩ := hq
  refine Ex.iconst (pc := 5) (v := 0) dX4_readProduct_5 rfl ?_
  refine Ex.istore_n (pc := 6) (ls' := [some (.ref 81), some (.int _), some (.int 0), none]) dX4_readProduct_6 rfl (by decide) rfl rfl ?_
  exact kl n 0 I1 d _ (by omega) h1
set_option maxRecDepth 20000 in
theorem t_sum {N n o D : Nat} {I0 : aI} {L : aL} {tb : Nat → Nat} {pt : Er → Er} (hB : PB tb n I0) (hp : CtX N n L I0 D mX4_readProduct o pt) (hD : 6 ≤ D) : CtX N n L I0 (D + 1) mX4_readSum o (sumF tb n pt) := by
  have kl : ∀ (f k : Nat) (I : aI) (d : Nat) (r : Er), k + f = n → Px n I0 I d false r → Ex (D + 1) 0 0 mX4_readSum 0 0 7 [some (.ref 81), some (.int (nI o)), some (.int (nI k)), none] [] (St2 N n I L) (RP2 none N n L (fun I2 => Px n I0 I2 d false (sumL tb n pt f r))) := by
    intro f
    induction f with
    | zero =>
      intro k I d r hk h
      have hsz : I 81 1 = nI n := (hB.tx h.1).2.1
      have hn := hB.2.2
      refine Ex.iload_n (pc := 7) dX4_readSum_7 rfl rfl ?_
      refine Ex.aload_n (pc := 8) dX4_readSum_8 rfl rfl ?_
      refine Ex.getI (pc := 9) dX4_readSum_9 fX4_49 (s2_81 _ _) ?_
      refine Ex.icmp_ge (pc := 12) (tgt := 72) dX4_readSum_12 (by decide) (fun _ => ?_) (fun c12 => absurd (by rw [hsz]; exact nI_le (by omega) (by omega)) c12)
      refine Ex.vret (pc := 72) rfl dX4_readSum_72 (Nat.le_refl _) (Nat.le_refl _) ?_
      exact ⟨_, rfl, rfl, h⟩
    | succ f ih =>
      intro k I d r hk h
      have hsz : I 81 1 = nI n := (hB.tx h.1).2.1
      have hn := hB.2.2
      have hst : sumL tb n pt (f + 1) r = if (isS 43 r || isS 45 r) = true then sumL tb n pt f (adS (opS r, 0) (pt (nx tb n r))) else r := rfl
      rw [hst]
      refine Ex.iload_n (pc := 7) dX4_readSum_7 rfl rfl ?_
      refine Ex.aload_n (pc := 8) dX4_readSum_8 rfl rfl ?_
      refine Ex.getI (pc := 9) dX4_readSum_9 fX4_49 (s2_81 _ _) ?_
      refine Ex.icmp_ge (pc := 12) (tgt := 72) dX4_readSum_12 (by decide) (fun c12 => absurd c12 (by rw [hsz]; exact nI_ge (by omega) (by omega))) (fun _ => ?_)
      refine Ex.aload_n (pc := 15) dX4_readSum_15 rfl rfl ?_
      refine Ex.bipush (pc := 16) (v := 43) dX4_readSum_16 rfl ?_
      refine Ex.callV (pc := 18) (As := [.int 43]) (rest := []) dX4_readSum_18 cX4_105 (t_isS (k := 43) h (by decide)) (s2_81 _ _) rfl rfl (by omega) (Nat.le_refl _) (Nat.le_refl _) (Nat.le_of_ble_eq_true rfl) (Or.inl (fun r S' h => by obtain ⟨_, h⟩ := h; subst h; rfl)) (fun r S' hq _ _ => ?_)
      obtain ⟨rfl, rfl⟩ := hq
      refine Ex.if_ne (pc := 21) (tgt := 33) dX4_readSum_21 (by decide) (fun c21 => ?_) (fun c21 => ?_)
      · skip
        refine Ex.aload_n (pc := 33) dX4_readSum_33 rfl rfl ?_
        refine Ex.bipush (pc := 34) (v := 43) dX4_readSum_34 rfl ?_
        refine Ex.callV (pc := 36) (As := [.int 43]) (rest := []) dX4_readSum_36 cX4_105 (t_isS (k := 43) h (by decide)) (s2_81 _ _) rfl rfl (by omega) (Nat.le_refl _) (Nat.le_refl _) (Nat.le_of_ble_eq_true rfl) (Or.inl (fun r S' h => by obtain ⟨_, h⟩ := h; subst h; rfl)) (fun r S' hq _ _ => ?_)
        obtain ⟨rfl, rfl⟩ := hq
        refine Ex.if_eq (pc := 39) (tgt := 46) dX4_readSum_39 (by decide) (fun c39 => ?_) (fun c39 => ?_)
        · skip
          refine Ex.iconst (pc := 46) (v := 3) dX4_readSum_46 rfl ?_
          refine Ex.istore_n (pc := 47) (ls' := [some (.ref 81), some (.int _), some (.int _), some (.int 3)]) dX4_readSum_47 rfl (by decide) rfl rfl ?_
          have hyes : (isS 43 r || isS 45 r) = true := by rw [bI_1 c21]; rfl
          have hpay := h.pay (isS_k (bI_1 c21))
          refine Ex.aload_n (pc := 48) dX4_readSum_48 rfl rfl ?_
          refine Ex.callV (pc := 49) (As := []) (rest := []) dX4_readSum_49 cX4_61 (t_next hB hpay) (s2_81 _ _) rfl rfl (by omega) (Nat.le_refl _) (Nat.le_refl _) (Nat.le_of_ble_eq_true rfl) (Or.inl (fun r S' h => by obtain ⟨_, _, h, _⟩ := h; subst h; rfl)) (fun r S' hq _ _ => ?_)
          obtain ⟨I1, rfl, rfl, h1⟩ := hq
          refine Ex.aload_n (pc := 52) dX4_readSum_52 rfl rfl ?_
          refine Ex.iload_n (pc := 53) dX4_readSum_53 rfl rfl ?_
          refine Ex.callV (pc := 54) (As := [.int _]) (rest := []) dX4_readSum_54 cX4_168 (hp _ _ _ h1) (s2_81 _ _) rfl rfl (by omega) (Nat.le_refl _) (Nat.le_refl _) (Nat.le_of_ble_eq_true rfl) (Or.inl (fun r S' h => by obtain ⟨_, _, h, _⟩ := h; subst h; rfl)) (fun r S' hq _ _ => ?_)
          obtain ⟨I2, rfl, rfl, h2⟩ := hq
          refine Ex.aload_n (pc := 57) dX4_readSum_57 rfl rfl ?_
          refine Ex.getR (pc := 58) dX4_readSum_58 fX4_57 (s2_81 _ _) r2_81_2 ?_
          refine Ex.iload_n (pc := 61) dX4_readSum_61 rfl rfl ?_
          refine Ex.iconst (pc := 62) (v := 0) dX4_readSum_62 rfl ?_
          refine Ex.callV (pc := 63) (As := [.int 3, .int 0]) (rest := []) dX4_readSum_63 cX4_171 (t_adS (k := 3) (v := 0) (d2 := d) (p2 := false) h2 hB.2.2 (by decide) (by decide) h2.room) (s2_82 _ _) rfl rfl (by omega) (Nat.le_refl _) (Nat.le_refl _) (Nat.le_of_ble_eq_true rfl) (Or.inl (fun r S' h => by obtain ⟨_, _, h, _⟩ := h; subst h; rfl)) (fun r S' hq _ _ => ?_)
          obtain ⟨I3, rfl, rfl, h3⟩ := hq
          refine Ex.iinc (pc := 66) (ls' := [some (.ref 81), some (.int _), some (.int _), some (.int 3)]) dX4_readSum_66 rfl rfl (by decide) rfl rfl ?_
          refine Ex.goto (pc := 69) (tgt := 7) dX4_readSum_69 (by decide) ?_
          have hop : opS r = 3 := by unfold opS; rw [if_neg (by rw [bI_0 c39]; decide)]
          rw [if_pos hyes, hop]
          rw [show nI k + Int32.ofInt 1 = nI (k + 1) from nI_1 k]
          exact Ex.le (ls' := [some (.ref 81), some (.int (nI o)), some (.int (nI (k + 1))), none]) ⟨rfl, rfl, rfl, trivial⟩ (ih (k + 1) _ d _ (by omega) h3)
        · skip
          refine Ex.iconst (pc := 42) (v := 2) dX4_readSum_42 rfl ?_
          refine Ex.goto (pc := 43) (tgt := 47) dX4_readSum_43 (by decide) ?_
          refine Ex.istore_n (pc := 47) (ls' := [some (.ref 81), some (.int _), some (.int _), some (.int 2)]) dX4_readSum_47 rfl (by decide) rfl rfl ?_
          have hyes : (isS 43 r || isS 45 r) = true := by rw [bI_1 c21]; rfl
          have hpay := h.pay (isS_k (bI_1 c21))
          refine Ex.aload_n (pc := 48) dX4_readSum_48 rfl rfl ?_
          refine Ex.callV (pc := 49) (As := []) (rest := []) dX4_readSum_49 cX4_61 (t_next hB hpay) (s2_81 _ _) rfl rfl (by omega) (Nat.le_refl _) (Nat.le_refl _) (Nat.le_of_ble_eq_true rfl) (Or.inl (fun r S' h => by obtain ⟨_, _, h, _⟩ := h; subst h; rfl)) (fun r S' hq _ _ => ?_)
          obtain ⟨I1, rfl, rfl, h1⟩ := hq
          refine Ex.aload_n (pc := 52) dX4_readSum_52 rfl rfl ?_
          refine Ex.iload_n (pc := 53) dX4_readSum_53 rfl rfl ?_
          refine Ex.callV (pc := 54) (As := [.int _]) (rest := []) dX4_readSum_54 cX4_168 (hp _ _ _ h1) (s2_81 _ _) rfl rfl (by omega) (Nat.le_refl _) (Nat.le_refl _) (Nat.le_of_ble_eq_true rfl) (Or.inl (fun r S' h => by obtain ⟨_, _, h, _⟩ := h; subst h; rfl)) (fun r S' hq _ _ => ?_)
          obtain ⟨I2, rfl, rfl, h2⟩ := hq
          refine Ex.aload_n (pc := 57) dX4_readSum_57 rfl rfl ?_
          refine Ex.getR (pc := 58) dX4_readSum_58 fX4_57 (s2_81 _ _) r2_81_2 ?_
          refine Ex.iload_n (pc := 61) dX4_readSum_61 rfl rfl ?_
          refine Ex.iconst (pc := 62) (v := 0) dX4_readSum_62 rfl ?_
          refine Ex.callV (pc := 63) (As := [.int 2, .int 0]) (rest := []) dX4_readSum_63 cX4_171 (t_adS (k := 2) (v := 0) (d2 := d) (p2 := false) h2 hB.2.2 (by decide) (by decide) h2.room) (s2_82 _ _) rfl rfl (by omega) (Nat.le_refl _) (Nat.le_refl _) (Nat.le_of_ble_eq_true rfl) (Or.inl (fun r S' h => by obtain ⟨_, _, h, _⟩ := h; subst h; rfl)) (fun r S' hq _ _ => ?_)
          obtain ⟨I3, rfl, rfl, h3⟩ := hq
          refine Ex.iinc (pc := 66) (ls' := [some (.ref 81), some (.int _), some (.int _), some (.int 2)]) dX4_readSum_66 rfl rfl (by decide) rfl rfl ?_
          refine Ex.goto (pc := 69) (tgt := 7) dX4_readSum_69 (by decide) ?_
          have hop : opS r = 2 := by unfold opS; rw [if_pos (bI_1 c39)]
          rw [if_pos hyes, hop]
          rw [show nI k + Int32.ofInt 1 = nI (k + 1) from nI_1 k]
          exact Ex.le (ls' := [some (.ref 81), some (.int (nI o)), some (.int (nI (k + 1))), none]) ⟨rfl, rfl, rfl, trivial⟩ (ih (k + 1) _ d _ (by omega) h3)
      · skip
        refine Ex.aload_n (pc := 24) dX4_readSum_24 rfl rfl ?_
        refine Ex.bipush (pc := 25) (v := 45) dX4_readSum_25 rfl ?_
        refine Ex.callV (pc := 27) (As := [.int 45]) (rest := []) dX4_readSum_27 cX4_105 (t_isS (k := 45) h (by decide)) (s2_81 _ _) rfl rfl (by omega) (Nat.le_refl _) (Nat.le_refl _) (Nat.le_of_ble_eq_true rfl) (Or.inl (fun r S' h => by obtain ⟨_, h⟩ := h; subst h; rfl)) (fun r S' hq _ _ => ?_)
        obtain ⟨rfl, rfl⟩ := hq
        refine Ex.if_eq (pc := 30) (tgt := 72) dX4_readSum_30 (by decide) (fun c30 => ?_) (fun c30 => ?_)
        · skip
          refine Ex.vret (pc := 72) rfl dX4_readSum_72 (Nat.le_refl _) (Nat.le_refl _) ?_
          rw [if_neg (by rw [bI_0 c21, bI_0 c30]; decide)]
          exact ⟨_, rfl, rfl, h⟩
        · skip
          refine Ex.aload_n (pc := 33) dX4_readSum_33 rfl rfl ?_
          refine Ex.bipush (pc := 34) (v := 43) dX4_readSum_34 rfl ?_
          refine Ex.callV (pc := 36) (As := [.int 43]) (rest := []) dX4_readSum_36 cX4_105 (t_isS (k := 43) h (by decide)) (s2_81 _ _) rfl rfl (by omega) (Nat.le_refl _) (Nat.le_refl _) (Nat.le_of_ble_eq_true rfl) (Or.inl (fun r S' h => by obtain ⟨_, h⟩ := h; subst h; rfl)) (fun r S' hq _ _ => ?_)
          obtain ⟨rfl, rfl⟩ := hq
          refine Ex.if_eq (pc := 39) (tgt := 46) dX4_readSum_39 (by decide) (fun c39 => ?_) (fun c39 => ?_)
          · skip
            refine Ex.iconst (pc := 46) (v := 3) dX4_readSum_46 rfl ?_
            refine Ex.istore_n (pc := 47) (ls' := [some (.ref 81), some (.int _), some (.int _), some (.int 3)]) dX4_readSum_47 rfl (by decide) rfl rfl ?_
            have hyes : (isS 43 r || isS 45 r) = true := by rw [bI_1 c30]; simp
            have hpay := h.pay (isS_k (bI_1 c30))
            refine Ex.aload_n (pc := 48) dX4_readSum_48 rfl rfl ?_
            refine Ex.callV (pc := 49) (As := []) (rest := []) dX4_readSum_49 cX4_61 (t_next hB hpay) (s2_81 _ _) rfl rfl (by omega) (Nat.le_refl _) (Nat.le_refl _) (Nat.le_of_ble_eq_true rfl) (Or.inl (fun r S' h => by obtain ⟨_, _, h, _⟩ := h; subst h; rfl)) (fun r S' hq _ _ => ?_)
            obtain ⟨I1, rfl, rfl, h1⟩ := hq
            refine Ex.aload_n (pc := 52) dX4_readSum_52 rfl rfl ?_
            refine Ex.iload_n (pc := 53) dX4_readSum_53 rfl rfl ?_
            refine Ex.callV (pc := 54) (As := [.int _]) (rest := []) dX4_readSum_54 cX4_168 (hp _ _ _ h1) (s2_81 _ _) rfl rfl (by omega) (Nat.le_refl _) (Nat.le_refl _) (Nat.le_of_ble_eq_true rfl) (Or.inl (fun r S' h => by obtain ⟨_, _, h, _⟩ := h; subst h; rfl)) (fun r S' hq _ _ => ?_)
            obtain ⟨I2, rfl, rfl, h2⟩ := hq
            refine Ex.aload_n (pc := 57) dX4_readSum_57 rfl rfl ?_
            refine Ex.getR (pc := 58) dX4_readSum_58 fX4_57 (s2_81 _ _) r2_81_2 ?_
            refine Ex.iload_n (pc := 61) dX4_readSum_61 rfl rfl ?_
            refine Ex.iconst (pc := 62) (v := 0) dX4_readSum_62 rfl ?_
            refine Ex.callV (pc := 63) (As := [.int 3, .int 0]) (rest := []) dX4_readSum_63 cX4_171 (t_adS (k := 3) (v := 0) (d2 := d) (p2 := false) h2 hB.2.2 (by decide) (by decide) h2.room) (s2_82 _ _) rfl rfl (by omega) (Nat.le_refl _) (Nat.le_refl _) (Nat.le_of_ble_eq_true rfl) (Or.inl (fun r S' h => by obtain ⟨_, _, h, _⟩ := h; subst h; rfl)) (fun r S' hq _ _ => ?_)
            obtain ⟨I3, rfl, rfl, h3⟩ := hq
            refine Ex.iinc (pc := 66) (ls' := [some (.ref 81), some (.int _), some (.int _), some (.int 3)]) dX4_readSum_66 rfl rfl (by decide) rfl rfl ?_
            refine Ex.goto (pc := 69) (tgt := 7) dX4_readSum_69 (by decide) ?_
            have hop : opS r = 3 := by unfold opS; rw [if_neg (by rw [bI_0 c39]; decide)]
            rw [if_pos hyes, hop]
            rw [show nI k + Int32.ofInt 1 = nI (k + 1) from nI_1 k]
            exact Ex.le (ls' := [some (.ref 81), some (.int (nI o)), some (.int (nI (k + 1))), none]) ⟨rfl, rfl, rfl, trivial⟩ (ih (k + 1) _ d _ (by omega) h3)
          · skip
            refine Ex.iconst (pc := 42) (v := 2) dX4_readSum_42 rfl ?_
            refine Ex.goto (pc := 43) (tgt := 47) dX4_readSum_43 (by decide) ?_
            refine Ex.istore_n (pc := 47) (ls' := [some (.ref 81), some (.int _), some (.int _), some (.int 2)]) dX4_readSum_47 rfl (by decide) rfl rfl ?_
            have hyes : (isS 43 r || isS 45 r) = true := by rw [bI_1 c30]; simp
            have hpay := h.pay (isS_k (bI_1 c30))
            refine Ex.aload_n (pc := 48) dX4_readSum_48 rfl rfl ?_
            refine Ex.callV (pc := 49) (As := []) (rest := []) dX4_readSum_49 cX4_61 (t_next hB hpay) (s2_81 _ _) rfl rfl (by omega) (Nat.le_refl _) (Nat.le_refl _) (Nat.le_of_ble_eq_true rfl) (Or.inl (fun r S' h => by obtain ⟨_, _, h, _⟩ := h; subst h; rfl)) (fun r S' hq _ _ => ?_)
            obtain ⟨I1, rfl, rfl, h1⟩ := hq
            refine Ex.aload_n (pc := 52) dX4_readSum_52 rfl rfl ?_
            refine Ex.iload_n (pc := 53) dX4_readSum_53 rfl rfl ?_
            refine Ex.callV (pc := 54) (As := [.int _]) (rest := []) dX4_readSum_54 cX4_168 (hp _ _ _ h1) (s2_81 _ _) rfl rfl (by omega) (Nat.le_refl _) (Nat.le_refl _) (Nat.le_of_ble_eq_true rfl) (Or.inl (fun r S' h => by obtain ⟨_, _, h, _⟩ := h; subst h; rfl)) (fun r S' hq _ _ => ?_)
            obtain ⟨I2, rfl, rfl, h2⟩ := hq
            refine Ex.aload_n (pc := 57) dX4_readSum_57 rfl rfl ?_
            refine Ex.getR (pc := 58) dX4_readSum_58 fX4_57 (s2_81 _ _) r2_81_2 ?_
            refine Ex.iload_n (pc := 61) dX4_readSum_61 rfl rfl ?_
            refine Ex.iconst (pc := 62) (v := 0) dX4_readSum_62 rfl ?_
            refine Ex.callV (pc := 63) (As := [.int 2, .int 0]) (rest := []) dX4_readSum_63 cX4_171 (t_adS (k := 2) (v := 0) (d2 := d) (p2 := false) h2 hB.2.2 (by decide) (by decide) h2.room) (s2_82 _ _) rfl rfl (by omega) (Nat.le_refl _) (Nat.le_refl _) (Nat.le_of_ble_eq_true rfl) (Or.inl (fun r S' h => by obtain ⟨_, _, h, _⟩ := h; subst h; rfl)) (fun r S' hq _ _ => ?_)
            obtain ⟨I3, rfl, rfl, h3⟩ := hq
            refine Ex.iinc (pc := 66) (ls' := [some (.ref 81), some (.int _), some (.int _), some (.int 2)]) dX4_readSum_66 rfl rfl (by decide) rfl rfl ?_
            refine Ex.goto (pc := 69) (tgt := 7) dX4_readSum_69 (by decide) ?_
            have hop : opS r = 2 := by unfold opS; rw [if_pos (bI_1 c39)]
            rw [if_pos hyes, hop]
            rw [show nI k + Int32.ofInt 1 = nI (k + 1) from nI_1 k]
            exact Ex.le (ls' := [some (.ref 81), some (.int (nI o)), some (.int (nI (k + 1))), none]) ⟨rfl, rfl, rfl, trivial⟩ (ih (k + 1) _ d _ (by omega) h3)
  intro I d r h
  refine Run.of (ls := [some (.ref 81), some (.int _), none, none]) (by decide) (Nat.le_of_ble_eq_true rfl) rfl ?_
  refine Ex.aload_n (pc := 0) dX4_readSum_0 rfl rfl ?_
  refine Ex.iload_n (pc := 1) dX4_readSum_1 rfl rfl ?_
  refine Ex.callV (pc := 2) (As := [.int _]) (rest := []) dX4_readSum_2 cX4_168 (hp _ _ _ h) (s2_81 _ _) rfl rfl (by omega) (Nat.le_refl _) (Nat.le_refl _) (Nat.le_of_ble_eq_true rfl) (Or.inl (fun r S' h => by obtain ⟨_, _, h, _⟩ := h; subst h; rfl)) (fun r S' hq _ _ => ?_)
  obtain ⟨I1, rfl, rfl, h1⟩ := hq
  refine Ex.iconst (pc := 5) (v := 0) dX4_readSum_5 rfl ?_
  refine Ex.istore_n (pc := 6) (ls' := [some (.ref 81), some (.int _), some (.int 0), none]) dX4_readSum_6 rfl (by decide) rfl rfl ?_
  exact kl n 0 I1 d _ (by omega) h1
set_option maxRecDepth 20000 in
theorem t_both {N n o D : Nat} {I0 : aI} {L : aL} {tb : Nat → Nat} {pt : Er → Er} (hB : PB tb n I0) (hp : CtX N n L I0 D mX4_readFact o pt) (hD : 6 ≤ D) : CtX N n L I0 (D + 1) mX4_readBoth o (bothF tb n pt) := by
  have kl : ∀ (f k : Nat) (I : aI) (d : Nat) (r : Er), k + f = n → Px n I0 I d false r → Ex (D + 1) 0 0 mX4_readBoth 0 0 7 [some (.ref 81), some (.int (nI o)), some (.int (nI k))] [] (St2 N n I L) (RP2 none N n L (fun I2 => Px n I0 I2 d false (wordL tb n 22 13 pt f r))) := by
    intro f
    induction f with
    | zero =>
      intro k I d r hk h
      have hsz : I 81 1 = nI n := (hB.tx h.1).2.1
      have hn := hB.2.2
      refine Ex.iload_n (pc := 7) dX4_readBoth_7 rfl rfl ?_
      refine Ex.aload_n (pc := 8) dX4_readBoth_8 rfl rfl ?_
      refine Ex.getI (pc := 9) dX4_readBoth_9 fX4_49 (s2_81 _ _) ?_
      refine Ex.icmp_ge (pc := 12) (tgt := 49) dX4_readBoth_12 (by decide) (fun _ => ?_) (fun c12 => absurd (by rw [hsz]; exact nI_le (by omega) (by omega)) c12)
      refine Ex.vret (pc := 49) rfl dX4_readBoth_49 (Nat.le_refl _) (Nat.le_refl _) ?_
      exact ⟨_, rfl, rfl, h⟩
    | succ f ih =>
      intro k I d r hk h
      have hsz : I 81 1 = nI n := (hB.tx h.1).2.1
      have hn := hB.2.2
      have hst : wordL tb n 22 13 pt (f + 1) r = if isW 22 r = true then wordL tb n 22 13 pt f (adS (13, 0) (pt (nx tb n r))) else r := rfl
      rw [hst]
      refine Ex.iload_n (pc := 7) dX4_readBoth_7 rfl rfl ?_
      refine Ex.aload_n (pc := 8) dX4_readBoth_8 rfl rfl ?_
      refine Ex.getI (pc := 9) dX4_readBoth_9 fX4_49 (s2_81 _ _) ?_
      refine Ex.icmp_ge (pc := 12) (tgt := 49) dX4_readBoth_12 (by decide) (fun c12 => absurd c12 (by rw [hsz]; exact nI_ge (by omega) (by omega))) (fun _ => ?_)
      refine Ex.aload_n (pc := 15) dX4_readBoth_15 rfl rfl ?_
      refine Ex.bipush (pc := 16) (v := 22) dX4_readBoth_16 rfl ?_
      refine Ex.callV (pc := 18) (As := [.int 22]) (rest := []) dX4_readBoth_18 cX4_102 (t_isW (k := 22) h (by decide)) (s2_81 _ _) rfl rfl (by omega) (Nat.le_refl _) (Nat.le_refl _) (Nat.le_of_ble_eq_true rfl) (Or.inl (fun r S' h => by obtain ⟨_, h⟩ := h; subst h; rfl)) (fun r S' hq _ _ => ?_)
      obtain ⟨rfl, rfl⟩ := hq
      refine Ex.if_eq (pc := 21) (tgt := 49) dX4_readBoth_21 (by decide) (fun c21 => ?_) (fun c21 => ?_)
      · skip
        refine Ex.vret (pc := 49) rfl dX4_readBoth_49 (Nat.le_refl _) (Nat.le_refl _) ?_
        rw [if_neg (by rw [bI_0 c21]; decide)]
        exact ⟨_, rfl, rfl, h⟩
      · skip
        refine Ex.aload_n (pc := 24) dX4_readBoth_24 rfl rfl ?_
        refine Ex.callV (pc := 25) (As := []) (rest := []) dX4_readBoth_25 cX4_61 (t_next hB (h.pay (isW_k (bI_1 c21)))) (s2_81 _ _) rfl rfl (by omega) (Nat.le_refl _) (Nat.le_refl _) (Nat.le_of_ble_eq_true rfl) (Or.inl (fun r S' h => by obtain ⟨_, _, h, _⟩ := h; subst h; rfl)) (fun r S' hq _ _ => ?_)
        obtain ⟨I1, rfl, rfl, h1⟩ := hq
        refine Ex.aload_n (pc := 28) dX4_readBoth_28 rfl rfl ?_
        refine Ex.iload_n (pc := 29) dX4_readBoth_29 rfl rfl ?_
        refine Ex.callV (pc := 30) (As := [.int _]) (rest := []) dX4_readBoth_30 cX4_193 (hp _ _ _ h1) (s2_81 _ _) rfl rfl (by omega) (Nat.le_refl _) (Nat.le_refl _) (Nat.le_of_ble_eq_true rfl) (Or.inl (fun r S' h => by obtain ⟨_, _, h, _⟩ := h; subst h; rfl)) (fun r S' hq _ _ => ?_)
        obtain ⟨I2, rfl, rfl, h2⟩ := hq
        refine Ex.aload_n (pc := 33) dX4_readBoth_33 rfl rfl ?_
        refine Ex.getR (pc := 34) dX4_readBoth_34 fX4_57 (s2_81 _ _) r2_81_2 ?_
        refine Ex.bipush (pc := 37) (v := 13) dX4_readBoth_37 rfl ?_
        refine Ex.iconst (pc := 39) (v := 0) dX4_readBoth_39 rfl ?_
        refine Ex.callV (pc := 40) (As := [.int 13, .int 0]) (rest := []) dX4_readBoth_40 cX4_171 (t_adS (k := 13) (v := 0) (d2 := d) (p2 := false) h2 hB.2.2 (by decide) (by decide) h2.room) (s2_82 _ _) rfl rfl (by omega) (Nat.le_refl _) (Nat.le_refl _) (Nat.le_of_ble_eq_true rfl) (Or.inl (fun r S' h => by obtain ⟨_, _, h, _⟩ := h; subst h; rfl)) (fun r S' hq _ _ => ?_)
        obtain ⟨I3, rfl, rfl, h3⟩ := hq
        refine Ex.iinc (pc := 43) (ls' := [some (.ref 81), some (.int _), some (.int _)]) dX4_readBoth_43 rfl rfl (by decide) rfl rfl ?_
        refine Ex.goto (pc := 46) (tgt := 7) dX4_readBoth_46 (by decide) ?_
        rw [if_pos (bI_1 c21)]
        rw [show nI k + Int32.ofInt 1 = nI (k + 1) from nI_1 k]
        exact ih (k + 1) _ d _ (by omega) h3
  intro I d r h
  refine Run.of (ls := [some (.ref 81), some (.int _), none]) (by decide) (Nat.le_of_ble_eq_true rfl) rfl ?_
  refine Ex.aload_n (pc := 0) dX4_readBoth_0 rfl rfl ?_
  refine Ex.iload_n (pc := 1) dX4_readBoth_1 rfl rfl ?_
  refine Ex.callV (pc := 2) (As := [.int _]) (rest := []) dX4_readBoth_2 cX4_193 (hp _ _ _ h) (s2_81 _ _) rfl rfl (by omega) (Nat.le_refl _) (Nat.le_refl _) (Nat.le_of_ble_eq_true rfl) (Or.inl (fun r S' h => by obtain ⟨_, _, h, _⟩ := h; subst h; rfl)) (fun r S' hq _ _ => ?_)
  obtain ⟨I1, rfl, rfl, h1⟩ := hq
  refine Ex.iconst (pc := 5) (v := 0) dX4_readBoth_5 rfl ?_
  refine Ex.istore_n (pc := 6) (ls' := [some (.ref 81), some (.int _), some (.int 0)]) dX4_readBoth_6 rfl (by decide) rfl rfl ?_
  exact kl n 0 I1 d _ (by omega) h1
set_option maxRecDepth 20000 in
theorem t_test {N n o D : Nat} {I0 : aI} {L : aL} {tb : Nat → Nat} {pt : Er → Er} (hB : PB tb n I0) (hp : CtX N n L I0 D mX4_readBoth o pt) (hD : 6 ≤ D) : CtX N n L I0 (D + 1) mX4_readTest o (testF tb n pt) := by
  have kl : ∀ (f k : Nat) (I : aI) (d : Nat) (r : Er), k + f = n → Px n I0 I d false r → Ex (D + 1) 0 0 mX4_readTest 0 0 7 [some (.ref 81), some (.int (nI o)), some (.int (nI k))] [] (St2 N n I L) (RP2 none N n L (fun I2 => Px n I0 I2 d false (wordL tb n 21 12 pt f r))) := by
    intro f
    induction f with
    | zero =>
      intro k I d r hk h
      have hsz : I 81 1 = nI n := (hB.tx h.1).2.1
      have hn := hB.2.2
      refine Ex.iload_n (pc := 7) dX4_readTest_7 rfl rfl ?_
      refine Ex.aload_n (pc := 8) dX4_readTest_8 rfl rfl ?_
      refine Ex.getI (pc := 9) dX4_readTest_9 fX4_49 (s2_81 _ _) ?_
      refine Ex.icmp_ge (pc := 12) (tgt := 49) dX4_readTest_12 (by decide) (fun _ => ?_) (fun c12 => absurd (by rw [hsz]; exact nI_le (by omega) (by omega)) c12)
      refine Ex.vret (pc := 49) rfl dX4_readTest_49 (Nat.le_refl _) (Nat.le_refl _) ?_
      exact ⟨_, rfl, rfl, h⟩
    | succ f ih =>
      intro k I d r hk h
      have hsz : I 81 1 = nI n := (hB.tx h.1).2.1
      have hn := hB.2.2
      have hst : wordL tb n 21 12 pt (f + 1) r = if isW 21 r = true then wordL tb n 21 12 pt f (adS (12, 0) (pt (nx tb n r))) else r := rfl
      rw [hst]
      refine Ex.iload_n (pc := 7) dX4_readTest_7 rfl rfl ?_
      refine Ex.aload_n (pc := 8) dX4_readTest_8 rfl rfl ?_
      refine Ex.getI (pc := 9) dX4_readTest_9 fX4_49 (s2_81 _ _) ?_
      refine Ex.icmp_ge (pc := 12) (tgt := 49) dX4_readTest_12 (by decide) (fun c12 => absurd c12 (by rw [hsz]; exact nI_ge (by omega) (by omega))) (fun _ => ?_)
      refine Ex.aload_n (pc := 15) dX4_readTest_15 rfl rfl ?_
      refine Ex.bipush (pc := 16) (v := 21) dX4_readTest_16 rfl ?_
      refine Ex.callV (pc := 18) (As := [.int 21]) (rest := []) dX4_readTest_18 cX4_102 (t_isW (k := 21) h (by decide)) (s2_81 _ _) rfl rfl (by omega) (Nat.le_refl _) (Nat.le_refl _) (Nat.le_of_ble_eq_true rfl) (Or.inl (fun r S' h => by obtain ⟨_, h⟩ := h; subst h; rfl)) (fun r S' hq _ _ => ?_)
      obtain ⟨rfl, rfl⟩ := hq
      refine Ex.if_eq (pc := 21) (tgt := 49) dX4_readTest_21 (by decide) (fun c21 => ?_) (fun c21 => ?_)
      · skip
        refine Ex.vret (pc := 49) rfl dX4_readTest_49 (Nat.le_refl _) (Nat.le_refl _) ?_
        rw [if_neg (by rw [bI_0 c21]; decide)]
        exact ⟨_, rfl, rfl, h⟩
      · skip
        refine Ex.aload_n (pc := 24) dX4_readTest_24 rfl rfl ?_
        refine Ex.callV (pc := 25) (As := []) (rest := []) dX4_readTest_25 cX4_61 (t_next hB (h.pay (isW_k (bI_1 c21)))) (s2_81 _ _) rfl rfl (by omega) (Nat.le_refl _) (Nat.le_refl _) (Nat.le_of_ble_eq_true rfl) (Or.inl (fun r S' h => by obtain ⟨_, _, h, _⟩ := h; subst h; rfl)) (fun r S' hq _ _ => ?_)
        obtain ⟨I1, rfl, rfl, h1⟩ := hq
        refine Ex.aload_n (pc := 28) dX4_readTest_28 rfl rfl ?_
        refine Ex.iload_n (pc := 29) dX4_readTest_29 rfl rfl ?_
        refine Ex.callV (pc := 30) (As := [.int _]) (rest := []) dX4_readTest_30 cX4_190 (hp _ _ _ h1) (s2_81 _ _) rfl rfl (by omega) (Nat.le_refl _) (Nat.le_refl _) (Nat.le_of_ble_eq_true rfl) (Or.inl (fun r S' h => by obtain ⟨_, _, h, _⟩ := h; subst h; rfl)) (fun r S' hq _ _ => ?_)
        obtain ⟨I2, rfl, rfl, h2⟩ := hq
        refine Ex.aload_n (pc := 33) dX4_readTest_33 rfl rfl ?_
        refine Ex.getR (pc := 34) dX4_readTest_34 fX4_57 (s2_81 _ _) r2_81_2 ?_
        refine Ex.bipush (pc := 37) (v := 12) dX4_readTest_37 rfl ?_
        refine Ex.iconst (pc := 39) (v := 0) dX4_readTest_39 rfl ?_
        refine Ex.callV (pc := 40) (As := [.int 12, .int 0]) (rest := []) dX4_readTest_40 cX4_171 (t_adS (k := 12) (v := 0) (d2 := d) (p2 := false) h2 hB.2.2 (by decide) (by decide) h2.room) (s2_82 _ _) rfl rfl (by omega) (Nat.le_refl _) (Nat.le_refl _) (Nat.le_of_ble_eq_true rfl) (Or.inl (fun r S' h => by obtain ⟨_, _, h, _⟩ := h; subst h; rfl)) (fun r S' hq _ _ => ?_)
        obtain ⟨I3, rfl, rfl, h3⟩ := hq
        refine Ex.iinc (pc := 43) (ls' := [some (.ref 81), some (.int _), some (.int _)]) dX4_readTest_43 rfl rfl (by decide) rfl rfl ?_
        refine Ex.goto (pc := 46) (tgt := 7) dX4_readTest_46 (by decide) ?_
        rw [if_pos (bI_1 c21)]
        rw [show nI k + Int32.ofInt 1 = nI (k + 1) from nI_1 k]
        exact ih (k + 1) _ d _ (by omega) h3
  intro I d r h
  refine Run.of (ls := [some (.ref 81), some (.int _), none]) (by decide) (Nat.le_of_ble_eq_true rfl) rfl ?_
  refine Ex.aload_n (pc := 0) dX4_readTest_0 rfl rfl ?_
  refine Ex.iload_n (pc := 1) dX4_readTest_1 rfl rfl ?_
  refine Ex.callV (pc := 2) (As := [.int _]) (rest := []) dX4_readTest_2 cX4_190 (hp _ _ _ h) (s2_81 _ _) rfl rfl (by omega) (Nat.le_refl _) (Nat.le_refl _) (Nat.le_of_ble_eq_true rfl) (Or.inl (fun r S' h => by obtain ⟨_, _, h, _⟩ := h; subst h; rfl)) (fun r S' hq _ _ => ?_)
  obtain ⟨I1, rfl, rfl, h1⟩ := hq
  refine Ex.iconst (pc := 5) (v := 0) dX4_readTest_5 rfl ?_
  refine Ex.istore_n (pc := 6) (ls' := [some (.ref 81), some (.int _), some (.int 0)]) dX4_readTest_6 rfl (by decide) rfl rfl ?_
  exact kl n 0 I1 d _ (by omega) h1
set_option maxRecDepth 20000 in
theorem t_comp {N n o D : Nat} {I0 : aI} {L : aL} {tb : Nat → Nat} {sm : Er → Er} (hB : PB tb n I0) (hp : CtX N n L I0 D mX4_readSum o sm) (hD : 6 ≤ D) : CtX N n L I0 (D + 1) mX4_readComparison o (compF tb n sm) := by
  intro I d r h
  refine Run.of (ls := [some (.ref 81), some (.int _), none]) (by decide) (Nat.le_of_ble_eq_true rfl) rfl ?_
  unfold compF
  generalize hr1 : sm r = r1
  refine Ex.aload_n (pc := 0) dX4_readComparison_0 rfl rfl ?_
  refine Ex.iload_n (pc := 1) dX4_readComparison_1 rfl rfl ?_
  refine Ex.callV (pc := 2) (As := [.int _]) (rest := []) dX4_readComparison_2 cX4_133 (hp _ _ _ h) (s2_81 _ _) rfl rfl (by omega) (Nat.le_refl _) (Nat.le_refl _) (Nat.le_of_ble_eq_true rfl) (Or.inl (fun r S' h => by obtain ⟨_, _, h, _⟩ := h; subst h; rfl)) (fun r S' hq _ _ => ?_)
  obtain ⟨I1, rfl, rfl, h1⟩ := hq
  rw [hr1] at h1
  refine Ex.aload_n (pc := 5) dX4_readComparison_5 rfl rfl ?_
  refine Ex.bipush (pc := 6) (v := 60) dX4_readComparison_6 rfl ?_
  refine Ex.callV (pc := 8) (As := [.int 60]) (rest := []) dX4_readComparison_8 cX4_105 (t_isS (k := 60) h1 (by decide)) (s2_81 _ _) rfl rfl (by omega) (Nat.le_refl _) (Nat.le_refl _) (Nat.le_of_ble_eq_true rfl) (Or.inl (fun r S' h => by obtain ⟨_, h⟩ := h; subst h; rfl)) (fun r S' hq _ _ => ?_)
  obtain ⟨rfl, rfl⟩ := hq
  refine Ex.if_ne (pc := 11) (tgt := 42) dX4_readComparison_11 (by decide) (fun c11 => ?_) (fun c11 => ?_)
  · skip
    refine Ex.aload_n (pc := 42) dX4_readComparison_42 rfl rfl ?_
    refine Ex.bipush (pc := 43) (v := 60) dX4_readComparison_43 rfl ?_
    refine Ex.callV (pc := 45) (As := [.int 60]) (rest := []) dX4_readComparison_45 cX4_105 (t_isS (k := 60) h1 (by decide)) (s2_81 _ _) rfl rfl (by omega) (Nat.le_refl _) (Nat.le_refl _) (Nat.le_of_ble_eq_true rfl) (Or.inl (fun r S' h => by obtain ⟨_, h⟩ := h; subst h; rfl)) (fun r S' hq _ _ => ?_)
    obtain ⟨rfl, rfl⟩ := hq
    refine Ex.if_eq (pc := 48) (tgt := 56) dX4_readComparison_48 (by decide) (fun c48 => ?_) (fun c48 => ?_)
    · skip
      refine Ex.aload_n (pc := 56) dX4_readComparison_56 rfl rfl ?_
      refine Ex.bipush (pc := 57) (v := 62) dX4_readComparison_57 rfl ?_
      refine Ex.callV (pc := 59) (As := [.int 62]) (rest := []) dX4_readComparison_59 cX4_105 (t_isS (k := 62) h1 (by decide)) (s2_81 _ _) rfl rfl (by omega) (Nat.le_refl _) (Nat.le_refl _) (Nat.le_of_ble_eq_true rfl) (Or.inl (fun r S' h => by obtain ⟨_, h⟩ := h; subst h; rfl)) (fun r S' hq _ _ => ?_)
      obtain ⟨rfl, rfl⟩ := hq
      refine Ex.if_eq (pc := 62) (tgt := 70) dX4_readComparison_62 (by decide) (fun c62 => ?_) (fun c62 => ?_)
      · skip
        refine Ex.bipush (pc := 70) (v := 11) dX4_readComparison_70 rfl ?_
        refine Ex.istore_n (pc := 72) (ls' := [some (.ref 81), some (.int _), some (.int 11)]) dX4_readComparison_72 rfl (by decide) rfl rfl ?_
        have hyes : (isS 60 r1 || (isS 62 r1 || isS 61 r1)) = true := by rw [bI_1 c11]; rfl
        have hpay := h1.pay (isS_k (bI_1 c11))
        refine Ex.aload_n (pc := 73) dX4_readComparison_73 rfl rfl ?_
        refine Ex.callV (pc := 74) (As := []) (rest := []) dX4_readComparison_74 cX4_61 (t_next hB hpay) (s2_81 _ _) rfl rfl (by omega) (Nat.le_refl _) (Nat.le_refl _) (Nat.le_of_ble_eq_true rfl) (Or.inl (fun r S' h => by obtain ⟨_, _, h, _⟩ := h; subst h; rfl)) (fun r S' hq _ _ => ?_)
        obtain ⟨I2, rfl, rfl, h2⟩ := hq
        refine Ex.aload_n (pc := 77) dX4_readComparison_77 rfl rfl ?_
        refine Ex.iload_n (pc := 78) dX4_readComparison_78 rfl rfl ?_
        refine Ex.callV (pc := 79) (As := [.int _]) (rest := []) dX4_readComparison_79 cX4_133 (hp _ _ _ h2) (s2_81 _ _) rfl rfl (by omega) (Nat.le_refl _) (Nat.le_refl _) (Nat.le_of_ble_eq_true rfl) (Or.inl (fun r S' h => by obtain ⟨_, _, h, _⟩ := h; subst h; rfl)) (fun r S' hq _ _ => ?_)
        obtain ⟨I3, rfl, rfl, h3⟩ := hq
        refine Ex.aload_n (pc := 82) dX4_readComparison_82 rfl rfl ?_
        refine Ex.getR (pc := 83) dX4_readComparison_83 fX4_57 (s2_81 _ _) r2_81_2 ?_
        refine Ex.iload_n (pc := 86) dX4_readComparison_86 rfl rfl ?_
        refine Ex.iconst (pc := 87) (v := 0) dX4_readComparison_87 rfl ?_
        refine Ex.callV (pc := 88) (As := [.int 11, .int 0]) (rest := []) dX4_readComparison_88 cX4_171 (t_adS (k := 11) (v := 0) (d2 := d) (p2 := false) h3 hB.2.2 (by decide) (by decide) h3.room) (s2_82 _ _) rfl rfl (by omega) (Nat.le_refl _) (Nat.le_refl _) (Nat.le_of_ble_eq_true rfl) (Or.inl (fun r S' h => by obtain ⟨_, _, h, _⟩ := h; subst h; rfl)) (fun r S' hq _ _ => ?_)
        obtain ⟨I4, rfl, rfl, h4⟩ := hq
        refine Ex.vret (pc := 91) rfl dX4_readComparison_91 (Nat.le_refl _) (Nat.le_refl _) ?_
        have hop : opC r1 = 11 := by unfold opC; rw [if_neg (by rw [bI_0 c48]; decide), if_neg (by rw [bI_0 c62]; decide)]
        rw [if_pos hyes, hop]
        exact ⟨_, rfl, rfl, h4⟩
      · skip
        refine Ex.bipush (pc := 65) (v := 10) dX4_readComparison_65 rfl ?_
        refine Ex.goto (pc := 67) (tgt := 72) dX4_readComparison_67 (by decide) ?_
        refine Ex.istore_n (pc := 72) (ls' := [some (.ref 81), some (.int _), some (.int 10)]) dX4_readComparison_72 rfl (by decide) rfl rfl ?_
        have hyes : (isS 60 r1 || (isS 62 r1 || isS 61 r1)) = true := by rw [bI_1 c11]; rfl
        have hpay := h1.pay (isS_k (bI_1 c11))
        refine Ex.aload_n (pc := 73) dX4_readComparison_73 rfl rfl ?_
        refine Ex.callV (pc := 74) (As := []) (rest := []) dX4_readComparison_74 cX4_61 (t_next hB hpay) (s2_81 _ _) rfl rfl (by omega) (Nat.le_refl _) (Nat.le_refl _) (Nat.le_of_ble_eq_true rfl) (Or.inl (fun r S' h => by obtain ⟨_, _, h, _⟩ := h; subst h; rfl)) (fun r S' hq _ _ => ?_)
        obtain ⟨I2, rfl, rfl, h2⟩ := hq
        refine Ex.aload_n (pc := 77) dX4_readComparison_77 rfl rfl ?_
        refine Ex.iload_n (pc := 78) dX4_readComparison_78 rfl rfl ?_
        refine Ex.callV (pc := 79) (As := [.int _]) (rest := []) dX4_readComparison_79 cX4_133 (hp _ _ _ h2) (s2_81 _ _) rfl rfl (by omega) (Nat.le_refl _) (Nat.le_refl _) (Nat.le_of_ble_eq_true rfl) (Or.inl (fun r S' h => by obtain ⟨_, _, h, _⟩ := h; subst h; rfl)) (fun r S' hq _ _ => ?_)
        obtain ⟨I3, rfl, rfl, h3⟩ := hq
        refine Ex.aload_n (pc := 82) dX4_readComparison_82 rfl rfl ?_
        refine Ex.getR (pc := 83) dX4_readComparison_83 fX4_57 (s2_81 _ _) r2_81_2 ?_
        refine Ex.iload_n (pc := 86) dX4_readComparison_86 rfl rfl ?_
        refine Ex.iconst (pc := 87) (v := 0) dX4_readComparison_87 rfl ?_
        refine Ex.callV (pc := 88) (As := [.int 10, .int 0]) (rest := []) dX4_readComparison_88 cX4_171 (t_adS (k := 10) (v := 0) (d2 := d) (p2 := false) h3 hB.2.2 (by decide) (by decide) h3.room) (s2_82 _ _) rfl rfl (by omega) (Nat.le_refl _) (Nat.le_refl _) (Nat.le_of_ble_eq_true rfl) (Or.inl (fun r S' h => by obtain ⟨_, _, h, _⟩ := h; subst h; rfl)) (fun r S' hq _ _ => ?_)
        obtain ⟨I4, rfl, rfl, h4⟩ := hq
        refine Ex.vret (pc := 91) rfl dX4_readComparison_91 (Nat.le_refl _) (Nat.le_refl _) ?_
        have hop : opC r1 = 10 := by unfold opC; rw [if_neg (by rw [bI_0 c48]; decide), if_pos (bI_1 c62)]
        rw [if_pos hyes, hop]
        exact ⟨_, rfl, rfl, h4⟩
    · skip
      refine Ex.bipush (pc := 51) (v := 9) dX4_readComparison_51 rfl ?_
      refine Ex.goto (pc := 53) (tgt := 72) dX4_readComparison_53 (by decide) ?_
      refine Ex.istore_n (pc := 72) (ls' := [some (.ref 81), some (.int _), some (.int 9)]) dX4_readComparison_72 rfl (by decide) rfl rfl ?_
      have hyes : (isS 60 r1 || (isS 62 r1 || isS 61 r1)) = true := by rw [bI_1 c11]; rfl
      have hpay := h1.pay (isS_k (bI_1 c11))
      refine Ex.aload_n (pc := 73) dX4_readComparison_73 rfl rfl ?_
      refine Ex.callV (pc := 74) (As := []) (rest := []) dX4_readComparison_74 cX4_61 (t_next hB hpay) (s2_81 _ _) rfl rfl (by omega) (Nat.le_refl _) (Nat.le_refl _) (Nat.le_of_ble_eq_true rfl) (Or.inl (fun r S' h => by obtain ⟨_, _, h, _⟩ := h; subst h; rfl)) (fun r S' hq _ _ => ?_)
      obtain ⟨I2, rfl, rfl, h2⟩ := hq
      refine Ex.aload_n (pc := 77) dX4_readComparison_77 rfl rfl ?_
      refine Ex.iload_n (pc := 78) dX4_readComparison_78 rfl rfl ?_
      refine Ex.callV (pc := 79) (As := [.int _]) (rest := []) dX4_readComparison_79 cX4_133 (hp _ _ _ h2) (s2_81 _ _) rfl rfl (by omega) (Nat.le_refl _) (Nat.le_refl _) (Nat.le_of_ble_eq_true rfl) (Or.inl (fun r S' h => by obtain ⟨_, _, h, _⟩ := h; subst h; rfl)) (fun r S' hq _ _ => ?_)
      obtain ⟨I3, rfl, rfl, h3⟩ := hq
      refine Ex.aload_n (pc := 82) dX4_readComparison_82 rfl rfl ?_
      refine Ex.getR (pc := 83) dX4_readComparison_83 fX4_57 (s2_81 _ _) r2_81_2 ?_
      refine Ex.iload_n (pc := 86) dX4_readComparison_86 rfl rfl ?_
      refine Ex.iconst (pc := 87) (v := 0) dX4_readComparison_87 rfl ?_
      refine Ex.callV (pc := 88) (As := [.int 9, .int 0]) (rest := []) dX4_readComparison_88 cX4_171 (t_adS (k := 9) (v := 0) (d2 := d) (p2 := false) h3 hB.2.2 (by decide) (by decide) h3.room) (s2_82 _ _) rfl rfl (by omega) (Nat.le_refl _) (Nat.le_refl _) (Nat.le_of_ble_eq_true rfl) (Or.inl (fun r S' h => by obtain ⟨_, _, h, _⟩ := h; subst h; rfl)) (fun r S' hq _ _ => ?_)
      obtain ⟨I4, rfl, rfl, h4⟩ := hq
      refine Ex.vret (pc := 91) rfl dX4_readComparison_91 (Nat.le_refl _) (Nat.le_refl _) ?_
      have hop : opC r1 = 9 := by unfold opC; rw [if_pos (bI_1 c48)]
      rw [if_pos hyes, hop]
      exact ⟨_, rfl, rfl, h4⟩
  · skip
    refine Ex.aload_n (pc := 14) dX4_readComparison_14 rfl rfl ?_
    refine Ex.bipush (pc := 15) (v := 62) dX4_readComparison_15 rfl ?_
    refine Ex.callV (pc := 17) (As := [.int 62]) (rest := []) dX4_readComparison_17 cX4_105 (t_isS (k := 62) h1 (by decide)) (s2_81 _ _) rfl rfl (by omega) (Nat.le_refl _) (Nat.le_refl _) (Nat.le_of_ble_eq_true rfl) (Or.inl (fun r S' h => by obtain ⟨_, h⟩ := h; subst h; rfl)) (fun r S' hq _ _ => ?_)
    obtain ⟨rfl, rfl⟩ := hq
    refine Ex.if_ne (pc := 20) (tgt := 42) dX4_readComparison_20 (by decide) (fun c20 => ?_) (fun c20 => ?_)
    · skip
      refine Ex.aload_n (pc := 42) dX4_readComparison_42 rfl rfl ?_
      refine Ex.bipush (pc := 43) (v := 60) dX4_readComparison_43 rfl ?_
      refine Ex.callV (pc := 45) (As := [.int 60]) (rest := []) dX4_readComparison_45 cX4_105 (t_isS (k := 60) h1 (by decide)) (s2_81 _ _) rfl rfl (by omega) (Nat.le_refl _) (Nat.le_refl _) (Nat.le_of_ble_eq_true rfl) (Or.inl (fun r S' h => by obtain ⟨_, h⟩ := h; subst h; rfl)) (fun r S' hq _ _ => ?_)
      obtain ⟨rfl, rfl⟩ := hq
      refine Ex.if_eq (pc := 48) (tgt := 56) dX4_readComparison_48 (by decide) (fun c48 => ?_) (fun c48 => ?_)
      · skip
        refine Ex.aload_n (pc := 56) dX4_readComparison_56 rfl rfl ?_
        refine Ex.bipush (pc := 57) (v := 62) dX4_readComparison_57 rfl ?_
        refine Ex.callV (pc := 59) (As := [.int 62]) (rest := []) dX4_readComparison_59 cX4_105 (t_isS (k := 62) h1 (by decide)) (s2_81 _ _) rfl rfl (by omega) (Nat.le_refl _) (Nat.le_refl _) (Nat.le_of_ble_eq_true rfl) (Or.inl (fun r S' h => by obtain ⟨_, h⟩ := h; subst h; rfl)) (fun r S' hq _ _ => ?_)
        obtain ⟨rfl, rfl⟩ := hq
        refine Ex.if_eq (pc := 62) (tgt := 70) dX4_readComparison_62 (by decide) (fun c62 => ?_) (fun c62 => ?_)
        · skip
          refine Ex.bipush (pc := 70) (v := 11) dX4_readComparison_70 rfl ?_
          refine Ex.istore_n (pc := 72) (ls' := [some (.ref 81), some (.int _), some (.int 11)]) dX4_readComparison_72 rfl (by decide) rfl rfl ?_
          have hyes : (isS 60 r1 || (isS 62 r1 || isS 61 r1)) = true := by rw [bI_1 c20]; simp
          have hpay := h1.pay (isS_k (bI_1 c20))
          refine Ex.aload_n (pc := 73) dX4_readComparison_73 rfl rfl ?_
          refine Ex.callV (pc := 74) (As := []) (rest := []) dX4_readComparison_74 cX4_61 (t_next hB hpay) (s2_81 _ _) rfl rfl (by omega) (Nat.le_refl _) (Nat.le_refl _) (Nat.le_of_ble_eq_true rfl) (Or.inl (fun r S' h => by obtain ⟨_, _, h, _⟩ := h; subst h; rfl)) (fun r S' hq _ _ => ?_)
          obtain ⟨I2, rfl, rfl, h2⟩ := hq
          refine Ex.aload_n (pc := 77) dX4_readComparison_77 rfl rfl ?_
          refine Ex.iload_n (pc := 78) dX4_readComparison_78 rfl rfl ?_
          refine Ex.callV (pc := 79) (As := [.int _]) (rest := []) dX4_readComparison_79 cX4_133 (hp _ _ _ h2) (s2_81 _ _) rfl rfl (by omega) (Nat.le_refl _) (Nat.le_refl _) (Nat.le_of_ble_eq_true rfl) (Or.inl (fun r S' h => by obtain ⟨_, _, h, _⟩ := h; subst h; rfl)) (fun r S' hq _ _ => ?_)
          obtain ⟨I3, rfl, rfl, h3⟩ := hq
          refine Ex.aload_n (pc := 82) dX4_readComparison_82 rfl rfl ?_
          refine Ex.getR (pc := 83) dX4_readComparison_83 fX4_57 (s2_81 _ _) r2_81_2 ?_
          refine Ex.iload_n (pc := 86) dX4_readComparison_86 rfl rfl ?_
          refine Ex.iconst (pc := 87) (v := 0) dX4_readComparison_87 rfl ?_
          refine Ex.callV (pc := 88) (As := [.int 11, .int 0]) (rest := []) dX4_readComparison_88 cX4_171 (t_adS (k := 11) (v := 0) (d2 := d) (p2 := false) h3 hB.2.2 (by decide) (by decide) h3.room) (s2_82 _ _) rfl rfl (by omega) (Nat.le_refl _) (Nat.le_refl _) (Nat.le_of_ble_eq_true rfl) (Or.inl (fun r S' h => by obtain ⟨_, _, h, _⟩ := h; subst h; rfl)) (fun r S' hq _ _ => ?_)
          obtain ⟨I4, rfl, rfl, h4⟩ := hq
          refine Ex.vret (pc := 91) rfl dX4_readComparison_91 (Nat.le_refl _) (Nat.le_refl _) ?_
          have hop : opC r1 = 11 := by unfold opC; rw [if_neg (by rw [bI_0 c48]; decide), if_neg (by rw [bI_0 c62]; decide)]
          rw [if_pos hyes, hop]
          exact ⟨_, rfl, rfl, h4⟩
        · skip
          refine Ex.bipush (pc := 65) (v := 10) dX4_readComparison_65 rfl ?_
          refine Ex.goto (pc := 67) (tgt := 72) dX4_readComparison_67 (by decide) ?_
          refine Ex.istore_n (pc := 72) (ls' := [some (.ref 81), some (.int _), some (.int 10)]) dX4_readComparison_72 rfl (by decide) rfl rfl ?_
          have hyes : (isS 60 r1 || (isS 62 r1 || isS 61 r1)) = true := by rw [bI_1 c20]; simp
          have hpay := h1.pay (isS_k (bI_1 c20))
          refine Ex.aload_n (pc := 73) dX4_readComparison_73 rfl rfl ?_
          refine Ex.callV (pc := 74) (As := []) (rest := []) dX4_readComparison_74 cX4_61 (t_next hB hpay) (s2_81 _ _) rfl rfl (by omega) (Nat.le_refl _) (Nat.le_refl _) (Nat.le_of_ble_eq_true rfl) (Or.inl (fun r S' h => by obtain ⟨_, _, h, _⟩ := h; subst h; rfl)) (fun r S' hq _ _ => ?_)
          obtain ⟨I2, rfl, rfl, h2⟩ := hq
          refine Ex.aload_n (pc := 77) dX4_readComparison_77 rfl rfl ?_
          refine Ex.iload_n (pc := 78) dX4_readComparison_78 rfl rfl ?_
          refine Ex.callV (pc := 79) (As := [.int _]) (rest := []) dX4_readComparison_79 cX4_133 (hp _ _ _ h2) (s2_81 _ _) rfl rfl (by omega) (Nat.le_refl _) (Nat.le_refl _) (Nat.le_of_ble_eq_true rfl) (Or.inl (fun r S' h => by obtain ⟨_, _, h, _⟩ := h; subst h; rfl)) (fun r S' hq _ _ => ?_)
          obtain ⟨I3, rfl, rfl, h3⟩ := hq
          refine Ex.aload_n (pc := 82) dX4_readComparison_82 rfl rfl ?_
          refine Ex.getR (pc := 83) dX4_readComparison_83 fX4_57 (s2_81 _ _) r2_81_2 ?_
          refine Ex.iload_n (pc := 86) dX4_readComparison_86 rfl rfl ?_
          refine Ex.iconst (pc := 87) (v := 0) dX4_readComparison_87 rfl ?_
          refine Ex.callV (pc := 88) (As := [.int 10, .int 0]) (rest := []) dX4_readComparison_88 cX4_171 (t_adS (k := 10) (v := 0) (d2 := d) (p2 := false) h3 hB.2.2 (by decide) (by decide) h3.room) (s2_82 _ _) rfl rfl (by omega) (Nat.le_refl _) (Nat.le_refl _) (Nat.le_of_ble_eq_true rfl) (Or.inl (fun r S' h => by obtain ⟨_, _, h, _⟩ := h; subst h; rfl)) (fun r S' hq _ _ => ?_)
          obtain ⟨I4, rfl, rfl, h4⟩ := hq
          refine Ex.vret (pc := 91) rfl dX4_readComparison_91 (Nat.le_refl _) (Nat.le_refl _) ?_
          have hop : opC r1 = 10 := by unfold opC; rw [if_neg (by rw [bI_0 c48]; decide), if_pos (bI_1 c62)]
          rw [if_pos hyes, hop]
          exact ⟨_, rfl, rfl, h4⟩
      · skip
        refine Ex.bipush (pc := 51) (v := 9) dX4_readComparison_51 rfl ?_
        refine Ex.goto (pc := 53) (tgt := 72) dX4_readComparison_53 (by decide) ?_
        refine Ex.istore_n (pc := 72) (ls' := [some (.ref 81), some (.int _), some (.int 9)]) dX4_readComparison_72 rfl (by decide) rfl rfl ?_
        have hyes : (isS 60 r1 || (isS 62 r1 || isS 61 r1)) = true := by rw [bI_1 c20]; simp
        have hpay := h1.pay (isS_k (bI_1 c20))
        refine Ex.aload_n (pc := 73) dX4_readComparison_73 rfl rfl ?_
        refine Ex.callV (pc := 74) (As := []) (rest := []) dX4_readComparison_74 cX4_61 (t_next hB hpay) (s2_81 _ _) rfl rfl (by omega) (Nat.le_refl _) (Nat.le_refl _) (Nat.le_of_ble_eq_true rfl) (Or.inl (fun r S' h => by obtain ⟨_, _, h, _⟩ := h; subst h; rfl)) (fun r S' hq _ _ => ?_)
        obtain ⟨I2, rfl, rfl, h2⟩ := hq
        refine Ex.aload_n (pc := 77) dX4_readComparison_77 rfl rfl ?_
        refine Ex.iload_n (pc := 78) dX4_readComparison_78 rfl rfl ?_
        refine Ex.callV (pc := 79) (As := [.int _]) (rest := []) dX4_readComparison_79 cX4_133 (hp _ _ _ h2) (s2_81 _ _) rfl rfl (by omega) (Nat.le_refl _) (Nat.le_refl _) (Nat.le_of_ble_eq_true rfl) (Or.inl (fun r S' h => by obtain ⟨_, _, h, _⟩ := h; subst h; rfl)) (fun r S' hq _ _ => ?_)
        obtain ⟨I3, rfl, rfl, h3⟩ := hq
        refine Ex.aload_n (pc := 82) dX4_readComparison_82 rfl rfl ?_
        refine Ex.getR (pc := 83) dX4_readComparison_83 fX4_57 (s2_81 _ _) r2_81_2 ?_
        refine Ex.iload_n (pc := 86) dX4_readComparison_86 rfl rfl ?_
        refine Ex.iconst (pc := 87) (v := 0) dX4_readComparison_87 rfl ?_
        refine Ex.callV (pc := 88) (As := [.int 9, .int 0]) (rest := []) dX4_readComparison_88 cX4_171 (t_adS (k := 9) (v := 0) (d2 := d) (p2 := false) h3 hB.2.2 (by decide) (by decide) h3.room) (s2_82 _ _) rfl rfl (by omega) (Nat.le_refl _) (Nat.le_refl _) (Nat.le_of_ble_eq_true rfl) (Or.inl (fun r S' h => by obtain ⟨_, _, h, _⟩ := h; subst h; rfl)) (fun r S' hq _ _ => ?_)
        obtain ⟨I4, rfl, rfl, h4⟩ := hq
        refine Ex.vret (pc := 91) rfl dX4_readComparison_91 (Nat.le_refl _) (Nat.le_refl _) ?_
        have hop : opC r1 = 9 := by unfold opC; rw [if_pos (bI_1 c48)]
        rw [if_pos hyes, hop]
        exact ⟨_, rfl, rfl, h4⟩
    · skip
      refine Ex.aload_n (pc := 23) dX4_readComparison_23 rfl rfl ?_
      refine Ex.bipush (pc := 24) (v := 61) dX4_readComparison_24 rfl ?_
      refine Ex.callV (pc := 26) (As := [.int 61]) (rest := []) dX4_readComparison_26 cX4_105 (t_isS (k := 61) h1 (by decide)) (s2_81 _ _) rfl rfl (by omega) (Nat.le_refl _) (Nat.le_refl _) (Nat.le_of_ble_eq_true rfl) (Or.inl (fun r S' h => by obtain ⟨_, h⟩ := h; subst h; rfl)) (fun r S' hq _ _ => ?_)
      obtain ⟨rfl, rfl⟩ := hq
      refine Ex.if_ne (pc := 29) (tgt := 42) dX4_readComparison_29 (by decide) (fun c29 => ?_) (fun c29 => ?_)
      · skip
        refine Ex.aload_n (pc := 42) dX4_readComparison_42 rfl rfl ?_
        refine Ex.bipush (pc := 43) (v := 60) dX4_readComparison_43 rfl ?_
        refine Ex.callV (pc := 45) (As := [.int 60]) (rest := []) dX4_readComparison_45 cX4_105 (t_isS (k := 60) h1 (by decide)) (s2_81 _ _) rfl rfl (by omega) (Nat.le_refl _) (Nat.le_refl _) (Nat.le_of_ble_eq_true rfl) (Or.inl (fun r S' h => by obtain ⟨_, h⟩ := h; subst h; rfl)) (fun r S' hq _ _ => ?_)
        obtain ⟨rfl, rfl⟩ := hq
        refine Ex.if_eq (pc := 48) (tgt := 56) dX4_readComparison_48 (by decide) (fun c48 => ?_) (fun c48 => ?_)
        · skip
          refine Ex.aload_n (pc := 56) dX4_readComparison_56 rfl rfl ?_
          refine Ex.bipush (pc := 57) (v := 62) dX4_readComparison_57 rfl ?_
          refine Ex.callV (pc := 59) (As := [.int 62]) (rest := []) dX4_readComparison_59 cX4_105 (t_isS (k := 62) h1 (by decide)) (s2_81 _ _) rfl rfl (by omega) (Nat.le_refl _) (Nat.le_refl _) (Nat.le_of_ble_eq_true rfl) (Or.inl (fun r S' h => by obtain ⟨_, h⟩ := h; subst h; rfl)) (fun r S' hq _ _ => ?_)
          obtain ⟨rfl, rfl⟩ := hq
          refine Ex.if_eq (pc := 62) (tgt := 70) dX4_readComparison_62 (by decide) (fun c62 => ?_) (fun c62 => ?_)
          · skip
            refine Ex.bipush (pc := 70) (v := 11) dX4_readComparison_70 rfl ?_
            refine Ex.istore_n (pc := 72) (ls' := [some (.ref 81), some (.int _), some (.int 11)]) dX4_readComparison_72 rfl (by decide) rfl rfl ?_
            have hyes : (isS 60 r1 || (isS 62 r1 || isS 61 r1)) = true := by rw [bI_1 c29]; simp
            have hpay := h1.pay (isS_k (bI_1 c29))
            refine Ex.aload_n (pc := 73) dX4_readComparison_73 rfl rfl ?_
            refine Ex.callV (pc := 74) (As := []) (rest := []) dX4_readComparison_74 cX4_61 (t_next hB hpay) (s2_81 _ _) rfl rfl (by omega) (Nat.le_refl _) (Nat.le_refl _) (Nat.le_of_ble_eq_true rfl) (Or.inl (fun r S' h => by obtain ⟨_, _, h, _⟩ := h; subst h; rfl)) (fun r S' hq _ _ => ?_)
            obtain ⟨I2, rfl, rfl, h2⟩ := hq
            refine Ex.aload_n (pc := 77) dX4_readComparison_77 rfl rfl ?_
            refine Ex.iload_n (pc := 78) dX4_readComparison_78 rfl rfl ?_
            refine Ex.callV (pc := 79) (As := [.int _]) (rest := []) dX4_readComparison_79 cX4_133 (hp _ _ _ h2) (s2_81 _ _) rfl rfl (by omega) (Nat.le_refl _) (Nat.le_refl _) (Nat.le_of_ble_eq_true rfl) (Or.inl (fun r S' h => by obtain ⟨_, _, h, _⟩ := h; subst h; rfl)) (fun r S' hq _ _ => ?_)
            obtain ⟨I3, rfl, rfl, h3⟩ := hq
            refine Ex.aload_n (pc := 82) dX4_readComparison_82 rfl rfl ?_
            refine Ex.getR (pc := 83) dX4_readComparison_83 fX4_57 (s2_81 _ _) r2_81_2 ?_
            refine Ex.iload_n (pc := 86) dX4_readComparison_86 rfl rfl ?_
            refine Ex.iconst (pc := 87) (v := 0) dX4_readComparison_87 rfl ?_
            refine Ex.callV (pc := 88) (As := [.int 11, .int 0]) (rest := []) dX4_readComparison_88 cX4_171 (t_adS (k := 11) (v := 0) (d2 := d) (p2 := false) h3 hB.2.2 (by decide) (by decide) h3.room) (s2_82 _ _) rfl rfl (by omega) (Nat.le_refl _) (Nat.le_refl _) (Nat.le_of_ble_eq_true rfl) (Or.inl (fun r S' h => by obtain ⟨_, _, h, _⟩ := h; subst h; rfl)) (fun r S' hq _ _ => ?_)
            obtain ⟨I4, rfl, rfl, h4⟩ := hq
            refine Ex.vret (pc := 91) rfl dX4_readComparison_91 (Nat.le_refl _) (Nat.le_refl _) ?_
            have hop : opC r1 = 11 := by unfold opC; rw [if_neg (by rw [bI_0 c48]; decide), if_neg (by rw [bI_0 c62]; decide)]
            rw [if_pos hyes, hop]
            exact ⟨_, rfl, rfl, h4⟩
          · skip
            refine Ex.bipush (pc := 65) (v := 10) dX4_readComparison_65 rfl ?_
            refine Ex.goto (pc := 67) (tgt := 72) dX4_readComparison_67 (by decide) ?_
            refine Ex.istore_n (pc := 72) (ls' := [some (.ref 81), some (.int _), some (.int 10)]) dX4_readComparison_72 rfl (by decide) rfl rfl ?_
            have hyes : (isS 60 r1 || (isS 62 r1 || isS 61 r1)) = true := by rw [bI_1 c29]; simp
            have hpay := h1.pay (isS_k (bI_1 c29))
            refine Ex.aload_n (pc := 73) dX4_readComparison_73 rfl rfl ?_
            refine Ex.callV (pc := 74) (As := []) (rest := []) dX4_readComparison_74 cX4_61 (t_next hB hpay) (s2_81 _ _) rfl rfl (by omega) (Nat.le_refl _) (Nat.le_refl _) (Nat.le_of_ble_eq_true rfl) (Or.inl (fun r S' h => by obtain ⟨_, _, h, _⟩ := h; subst h; rfl)) (fun r S' hq _ _ => ?_)
            obtain ⟨I2, rfl, rfl, h2⟩ := hq
            refine Ex.aload_n (pc := 77) dX4_readComparison_77 rfl rfl ?_
            refine Ex.iload_n (pc := 78) dX4_readComparison_78 rfl rfl ?_
            refine Ex.callV (pc := 79) (As := [.int _]) (rest := []) dX4_readComparison_79 cX4_133 (hp _ _ _ h2) (s2_81 _ _) rfl rfl (by omega) (Nat.le_refl _) (Nat.le_refl _) (Nat.le_of_ble_eq_true rfl) (Or.inl (fun r S' h => by obtain ⟨_, _, h, _⟩ := h; subst h; rfl)) (fun r S' hq _ _ => ?_)
            obtain ⟨I3, rfl, rfl, h3⟩ := hq
            refine Ex.aload_n (pc := 82) dX4_readComparison_82 rfl rfl ?_
            refine Ex.getR (pc := 83) dX4_readComparison_83 fX4_57 (s2_81 _ _) r2_81_2 ?_
            refine Ex.iload_n (pc := 86) dX4_readComparison_86 rfl rfl ?_
            refine Ex.iconst (pc := 87) (v := 0) dX4_readComparison_87 rfl ?_
            refine Ex.callV (pc := 88) (As := [.int 10, .int 0]) (rest := []) dX4_readComparison_88 cX4_171 (t_adS (k := 10) (v := 0) (d2 := d) (p2 := false) h3 hB.2.2 (by decide) (by decide) h3.room) (s2_82 _ _) rfl rfl (by omega) (Nat.le_refl _) (Nat.le_refl _) (Nat.le_of_ble_eq_true rfl) (Or.inl (fun r S' h => by obtain ⟨_, _, h, _⟩ := h; subst h; rfl)) (fun r S' hq _ _ => ?_)
            obtain ⟨I4, rfl, rfl, h4⟩ := hq
            refine Ex.vret (pc := 91) rfl dX4_readComparison_91 (Nat.le_refl _) (Nat.le_refl _) ?_
            have hop : opC r1 = 10 := by unfold opC; rw [if_neg (by rw [bI_0 c48]; decide), if_pos (bI_1 c62)]
            rw [if_pos hyes, hop]
            exact ⟨_, rfl, rfl, h4⟩
        · skip
          refine Ex.bipush (pc := 51) (v := 9) dX4_readComparison_51 rfl ?_
          refine Ex.goto (pc := 53) (tgt := 72) dX4_readComparison_53 (by decide) ?_
          refine Ex.istore_n (pc := 72) (ls' := [some (.ref 81), some (.int _), some (.int 9)]) dX4_readComparison_72 rfl (by decide) rfl rfl ?_
          have hyes : (isS 60 r1 || (isS 62 r1 || isS 61 r1)) = true := by rw [bI_1 c29]; simp
          have hpay := h1.pay (isS_k (bI_1 c29))
          refine Ex.aload_n (pc := 73) dX4_readComparison_73 rfl rfl ?_
          refine Ex.callV (pc := 74) (As := []) (rest := []) dX4_readComparison_74 cX4_61 (t_next hB hpay) (s2_81 _ _) rfl rfl (by omega) (Nat.le_refl _) (Nat.le_refl _) (Nat.le_of_ble_eq_true rfl) (Or.inl (fun r S' h => by obtain ⟨_, _, h, _⟩ := h; subst h; rfl)) (fun r S' hq _ _ => ?_)
          obtain ⟨I2, rfl, rfl, h2⟩ := hq
          refine Ex.aload_n (pc := 77) dX4_readComparison_77 rfl rfl ?_
          refine Ex.iload_n (pc := 78) dX4_readComparison_78 rfl rfl ?_
          refine Ex.callV (pc := 79) (As := [.int _]) (rest := []) dX4_readComparison_79 cX4_133 (hp _ _ _ h2) (s2_81 _ _) rfl rfl (by omega) (Nat.le_refl _) (Nat.le_refl _) (Nat.le_of_ble_eq_true rfl) (Or.inl (fun r S' h => by obtain ⟨_, _, h, _⟩ := h; subst h; rfl)) (fun r S' hq _ _ => ?_)
          obtain ⟨I3, rfl, rfl, h3⟩ := hq
          refine Ex.aload_n (pc := 82) dX4_readComparison_82 rfl rfl ?_
          refine Ex.getR (pc := 83) dX4_readComparison_83 fX4_57 (s2_81 _ _) r2_81_2 ?_
          refine Ex.iload_n (pc := 86) dX4_readComparison_86 rfl rfl ?_
          refine Ex.iconst (pc := 87) (v := 0) dX4_readComparison_87 rfl ?_
          refine Ex.callV (pc := 88) (As := [.int 9, .int 0]) (rest := []) dX4_readComparison_88 cX4_171 (t_adS (k := 9) (v := 0) (d2 := d) (p2 := false) h3 hB.2.2 (by decide) (by decide) h3.room) (s2_82 _ _) rfl rfl (by omega) (Nat.le_refl _) (Nat.le_refl _) (Nat.le_of_ble_eq_true rfl) (Or.inl (fun r S' h => by obtain ⟨_, _, h, _⟩ := h; subst h; rfl)) (fun r S' hq _ _ => ?_)
          obtain ⟨I4, rfl, rfl, h4⟩ := hq
          refine Ex.vret (pc := 91) rfl dX4_readComparison_91 (Nat.le_refl _) (Nat.le_refl _) ?_
          have hop : opC r1 = 9 := by unfold opC; rw [if_pos (bI_1 c48)]
          rw [if_pos hyes, hop]
          exact ⟨_, rfl, rfl, h4⟩
      · skip
        refine Ex.aload_n (pc := 32) dX4_readComparison_32 rfl rfl ?_
        refine Ex.iconst (pc := 33) (v := 1) dX4_readComparison_33 rfl ?_
        refine Ex.aload_n (pc := 34) dX4_readComparison_34 rfl rfl ?_
        refine Ex.getI (pc := 35) dX4_readComparison_35 fX4_21 (s2_81 _ _) ?_
        refine Ex.callV (pc := 38) (As := [.int 1, .int _]) (rest := []) dX4_readComparison_38 cX4_77 (t_stp (k := 1) h1 (by decide) (by decide) h1.start) (s2_81 _ _) rfl rfl (by omega) (Nat.le_refl _) (Nat.le_refl _) (Nat.le_of_ble_eq_true rfl) (Or.inl (fun r S' h => by obtain ⟨_, _, h, _⟩ := h; subst h; rfl)) (fun r S' hq _ _ => ?_)
        obtain ⟨I2, rfl, rfl, h2⟩ := hq
        refine Ex.vret (pc := 41) rfl dX4_readComparison_41 (Nat.le_refl _) (Nat.le_refl _) ?_
        rw [if_neg (by rw [bI_0 c11, bI_0 c20, bI_0 c29]; decide)]
        exact ⟨_, rfl, rfl, h2⟩
set_option maxRecDepth 20000 in
theorem t_fact {N n o D Dc : Nat} {I0 : aI} {L : aL} {tb : Nat → Nat} {fa te cm : Er → Er} (hB : PB tb n I0) (hfa : o < 7 → CtX N n L I0 D mX4_readFact (o + 1) fa) (hte : o < 7 → CtX N n L I0 D mX4_readTest (o + 1) te) (hcm : CtX N n L I0 Dc mX4_readComparison o cm) (hD : 7 ≤ Dc) (hDc : D ≤ Dc) (ho2 : o < 100) : CtX N n L I0 (Dc + 1) mX4_readFact o (factF tb n o fa te cm) := by
  intro I d r h
  refine Run.of (ls := [some (.ref 81), some (.int _)]) (by decide) (Nat.le_of_ble_eq_true rfl) rfl ?_
  unfold factF
  by_cases ho : 7 ≤ o
  · skip
    refine Ex.aload_n (pc := 0) dX4_readFact_0 rfl rfl ?_
    refine Ex.bipush (pc := 1) (v := 23) dX4_readFact_1 rfl ?_
    refine Ex.callV (pc := 3) (As := [.int 23]) (rest := []) dX4_readFact_3 cX4_102 (t_isW (k := 23) h (by decide)) (s2_81 _ _) rfl rfl (by omega) (Nat.le_refl _) (Nat.le_refl _) (Nat.le_of_ble_eq_true rfl) (Or.inl (fun r S' h => by obtain ⟨_, h⟩ := h; subst h; rfl)) (fun r S' hq _ _ => ?_)
    obtain ⟨rfl, rfl⟩ := hq
    refine Ex.if_eq (pc := 6) (tgt := 38) dX4_readFact_6 (by decide) (fun c6 => ?_) (fun c6 => ?_)
    · skip
      refine Ex.aload_n (pc := 38) dX4_readFact_38 rfl rfl ?_
      refine Ex.bipush (pc := 39) (v := 91) dX4_readFact_39 rfl ?_
      refine Ex.callV (pc := 41) (As := [.int 91]) (rest := []) dX4_readFact_41 cX4_105 (t_isS (k := 91) h (by decide)) (s2_81 _ _) rfl rfl (by omega) (Nat.le_refl _) (Nat.le_refl _) (Nat.le_of_ble_eq_true rfl) (Or.inl (fun r S' h => by obtain ⟨_, h⟩ := h; subst h; rfl)) (fun r S' hq _ _ => ?_)
      obtain ⟨rfl, rfl⟩ := hq
      refine Ex.if_eq (pc := 44) (tgt := 72) dX4_readFact_44 (by decide) (fun c44 => ?_) (fun c44 => ?_)
      · skip
        refine Ex.aload_n (pc := 72) dX4_readFact_72 rfl rfl ?_
        refine Ex.bipush (pc := 73) (v := 24) dX4_readFact_73 rfl ?_
        refine Ex.callV (pc := 75) (As := [.int 24]) (rest := []) dX4_readFact_75 cX4_102 (t_isW (k := 24) h (by decide)) (s2_81 _ _) rfl rfl (by omega) (Nat.le_refl _) (Nat.le_refl _) (Nat.le_of_ble_eq_true rfl) (Or.inl (fun r S' h => by obtain ⟨_, h⟩ := h; subst h; rfl)) (fun r S' hq _ _ => ?_)
        obtain ⟨rfl, rfl⟩ := hq
        refine Ex.if_eq (pc := 78) (tgt := 97) dX4_readFact_78 (by decide) (fun c78 => ?_) (fun c78 => ?_)
        · skip
          refine Ex.aload_n (pc := 97) dX4_readFact_97 rfl rfl ?_
          refine Ex.iload_n (pc := 98) dX4_readFact_98 rfl rfl ?_
          refine Ex.callV (pc := 99) (As := [.int _]) (rest := []) dX4_readFact_99 cX4_196 (hcm _ _ _ h) (s2_81 _ _) rfl rfl (by omega) (Nat.le_refl _) (Nat.le_refl _) (Nat.le_of_ble_eq_true rfl) (Or.inl (fun r S' h => by obtain ⟨_, _, h, _⟩ := h; subst h; rfl)) (fun r S' hq _ _ => ?_)
          obtain ⟨I1, rfl, rfl, h1⟩ := hq
          refine Ex.vret (pc := 102) rfl dX4_readFact_102 (Nat.le_refl _) (Nat.le_refl _) ?_
          rw [if_neg (by rw [bI_0 c6]; decide)]
          rw [if_neg (by rw [bI_0 c44]; decide)]
          rw [if_neg (by rw [bI_0 c78]; decide)]
          exact ⟨_, rfl, rfl, h1⟩
        · skip
          refine Ex.aload_n (pc := 81) dX4_readFact_81 rfl rfl ?_
          refine Ex.getR (pc := 82) dX4_readFact_82 fX4_57 (s2_81 _ _) r2_81_2 ?_
          refine Ex.iconst (pc := 85) (v := 0) dX4_readFact_85 rfl ?_
          refine Ex.iconst (pc := 86) (v := 1) dX4_readFact_86 rfl ?_
          refine Ex.callV (pc := 87) (As := [.int 0, .int 1]) (rest := []) dX4_readFact_87 cX4_171 (t_adS (k := 0) (v := 1) (d2 := d) (p2 := true) h hB.2.2 (by decide) (by decide) (h.roomE (isW_k (bI_1 c78)))) (s2_82 _ _) rfl rfl (by omega) (Nat.le_refl _) (Nat.le_refl _) (Nat.le_of_ble_eq_true rfl) (Or.inl (fun r S' h => by obtain ⟨_, _, h, _⟩ := h; subst h; rfl)) (fun r S' hq _ _ => ?_)
          obtain ⟨I1, rfl, rfl, h1⟩ := hq
          refine Ex.aload_n (pc := 90) dX4_readFact_90 rfl rfl ?_
          refine Ex.callV (pc := 91) (As := []) (rest := []) dX4_readFact_91 cX4_61 (t_next hB h1) (s2_81 _ _) rfl rfl (by omega) (Nat.le_refl _) (Nat.le_refl _) (Nat.le_of_ble_eq_true rfl) (Or.inl (fun r S' h => by obtain ⟨_, _, h, _⟩ := h; subst h; rfl)) (fun r S' hq _ _ => ?_)
          obtain ⟨I2, rfl, rfl, h2⟩ := hq
          refine Ex.goto (pc := 94) (tgt := 102) dX4_readFact_94 (by decide) ?_
          refine Ex.vret (pc := 102) rfl dX4_readFact_102 (Nat.le_refl _) (Nat.le_refl _) ?_
          rw [if_neg (by rw [bI_0 c6]; decide)]
          rw [if_neg (by rw [bI_0 c44]; decide)]
          rw [if_pos (bI_1 c78)]
          exact ⟨_, rfl, rfl, h2⟩
      · skip
        refine Ex.aload_n (pc := 47) dX4_readFact_47 rfl rfl ?_
        refine Ex.iload_n (pc := 48) dX4_readFact_48 rfl rfl ?_
        refine Ex.iconst (pc := 49) (v := 1) dX4_readFact_49 rfl ?_
        refine Ex.callV (pc := 50) (As := [.int _, .int 1]) (rest := []) dX4_readFact_50 cX4_186 (t_openN (w := 1) (by decide) h ho ho2) (s2_81 _ _) rfl rfl (by omega) (Nat.le_refl _) (Nat.le_refl _) (Nat.le_of_ble_eq_true rfl) (Or.inl (fun r S' h => by obtain ⟨_, _, h, _⟩ := h; subst h; rfl)) (fun r S' hq _ _ => ?_)
        obtain ⟨I1, rfl, rfl, h1⟩ := hq
        refine Ex.if_eq (pc := 53) (tgt := 102) dX4_readFact_53 (by decide) (fun _ => ?_) (fun c53 => absurd rfl c53)
        refine Ex.vret (pc := 102) rfl dX4_readFact_102 (Nat.le_refl _) (Nat.le_refl _) ?_
        rw [if_neg (by rw [bI_0 c6]; decide)]
        rw [if_pos (bI_1 c44), if_pos ho]
        exact ⟨_, rfl, rfl, h1⟩
    · skip
      refine Ex.aload_n (pc := 9) dX4_readFact_9 rfl rfl ?_
      refine Ex.iload_n (pc := 10) dX4_readFact_10 rfl rfl ?_
      refine Ex.iconst (pc := 11) (v := 1) dX4_readFact_11 rfl ?_
      refine Ex.callV (pc := 12) (As := [.int _, .int 1]) (rest := []) dX4_readFact_12 cX4_186 (t_openN (w := 1) (by decide) h ho ho2) (s2_81 _ _) rfl rfl (by omega) (Nat.le_refl _) (Nat.le_refl _) (Nat.le_of_ble_eq_true rfl) (Or.inl (fun r S' h => by obtain ⟨_, _, h, _⟩ := h; subst h; rfl)) (fun r S' hq _ _ => ?_)
      obtain ⟨I1, rfl, rfl, h1⟩ := hq
      refine Ex.if_eq (pc := 15) (tgt := 102) dX4_readFact_15 (by decide) (fun _ => ?_) (fun c15 => absurd rfl c15)
      refine Ex.vret (pc := 102) rfl dX4_readFact_102 (Nat.le_refl _) (Nat.le_refl _) ?_
      rw [if_pos (bI_1 c6), if_pos ho]
      exact ⟨_, rfl, rfl, h1⟩
  · have ho7 : o < 7 := by omega
    refine Ex.aload_n (pc := 0) dX4_readFact_0 rfl rfl ?_
    refine Ex.bipush (pc := 1) (v := 23) dX4_readFact_1 rfl ?_
    refine Ex.callV (pc := 3) (As := [.int 23]) (rest := []) dX4_readFact_3 cX4_102 (t_isW (k := 23) h (by decide)) (s2_81 _ _) rfl rfl (by omega) (Nat.le_refl _) (Nat.le_refl _) (Nat.le_of_ble_eq_true rfl) (Or.inl (fun r S' h => by obtain ⟨_, h⟩ := h; subst h; rfl)) (fun r S' hq _ _ => ?_)
    obtain ⟨rfl, rfl⟩ := hq
    refine Ex.if_eq (pc := 6) (tgt := 38) dX4_readFact_6 (by decide) (fun c6 => ?_) (fun c6 => ?_)
    · skip
      refine Ex.aload_n (pc := 38) dX4_readFact_38 rfl rfl ?_
      refine Ex.bipush (pc := 39) (v := 91) dX4_readFact_39 rfl ?_
      refine Ex.callV (pc := 41) (As := [.int 91]) (rest := []) dX4_readFact_41 cX4_105 (t_isS (k := 91) h (by decide)) (s2_81 _ _) rfl rfl (by omega) (Nat.le_refl _) (Nat.le_refl _) (Nat.le_of_ble_eq_true rfl) (Or.inl (fun r S' h => by obtain ⟨_, h⟩ := h; subst h; rfl)) (fun r S' hq _ _ => ?_)
      obtain ⟨rfl, rfl⟩ := hq
      refine Ex.if_eq (pc := 44) (tgt := 72) dX4_readFact_44 (by decide) (fun c44 => ?_) (fun c44 => ?_)
      · skip
        refine Ex.aload_n (pc := 72) dX4_readFact_72 rfl rfl ?_
        refine Ex.bipush (pc := 73) (v := 24) dX4_readFact_73 rfl ?_
        refine Ex.callV (pc := 75) (As := [.int 24]) (rest := []) dX4_readFact_75 cX4_102 (t_isW (k := 24) h (by decide)) (s2_81 _ _) rfl rfl (by omega) (Nat.le_refl _) (Nat.le_refl _) (Nat.le_of_ble_eq_true rfl) (Or.inl (fun r S' h => by obtain ⟨_, h⟩ := h; subst h; rfl)) (fun r S' hq _ _ => ?_)
        obtain ⟨rfl, rfl⟩ := hq
        refine Ex.if_eq (pc := 78) (tgt := 97) dX4_readFact_78 (by decide) (fun c78 => ?_) (fun c78 => ?_)
        · skip
          refine Ex.aload_n (pc := 97) dX4_readFact_97 rfl rfl ?_
          refine Ex.iload_n (pc := 98) dX4_readFact_98 rfl rfl ?_
          refine Ex.callV (pc := 99) (As := [.int _]) (rest := []) dX4_readFact_99 cX4_196 (hcm _ _ _ h) (s2_81 _ _) rfl rfl (by omega) (Nat.le_refl _) (Nat.le_refl _) (Nat.le_of_ble_eq_true rfl) (Or.inl (fun r S' h => by obtain ⟨_, _, h, _⟩ := h; subst h; rfl)) (fun r S' hq _ _ => ?_)
          obtain ⟨I1, rfl, rfl, h1⟩ := hq
          refine Ex.vret (pc := 102) rfl dX4_readFact_102 (Nat.le_refl _) (Nat.le_refl _) ?_
          rw [if_neg (by rw [bI_0 c6]; decide)]
          rw [if_neg (by rw [bI_0 c44]; decide)]
          rw [if_neg (by rw [bI_0 c78]; decide)]
          exact ⟨_, rfl, rfl, h1⟩
        · skip
          refine Ex.aload_n (pc := 81) dX4_readFact_81 rfl rfl ?_
          refine Ex.getR (pc := 82) dX4_readFact_82 fX4_57 (s2_81 _ _) r2_81_2 ?_
          refine Ex.iconst (pc := 85) (v := 0) dX4_readFact_85 rfl ?_
          refine Ex.iconst (pc := 86) (v := 1) dX4_readFact_86 rfl ?_
          refine Ex.callV (pc := 87) (As := [.int 0, .int 1]) (rest := []) dX4_readFact_87 cX4_171 (t_adS (k := 0) (v := 1) (d2 := d) (p2 := true) h hB.2.2 (by decide) (by decide) (h.roomE (isW_k (bI_1 c78)))) (s2_82 _ _) rfl rfl (by omega) (Nat.le_refl _) (Nat.le_refl _) (Nat.le_of_ble_eq_true rfl) (Or.inl (fun r S' h => by obtain ⟨_, _, h, _⟩ := h; subst h; rfl)) (fun r S' hq _ _ => ?_)
          obtain ⟨I1, rfl, rfl, h1⟩ := hq
          refine Ex.aload_n (pc := 90) dX4_readFact_90 rfl rfl ?_
          refine Ex.callV (pc := 91) (As := []) (rest := []) dX4_readFact_91 cX4_61 (t_next hB h1) (s2_81 _ _) rfl rfl (by omega) (Nat.le_refl _) (Nat.le_refl _) (Nat.le_of_ble_eq_true rfl) (Or.inl (fun r S' h => by obtain ⟨_, _, h, _⟩ := h; subst h; rfl)) (fun r S' hq _ _ => ?_)
          obtain ⟨I2, rfl, rfl, h2⟩ := hq
          refine Ex.goto (pc := 94) (tgt := 102) dX4_readFact_94 (by decide) ?_
          refine Ex.vret (pc := 102) rfl dX4_readFact_102 (Nat.le_refl _) (Nat.le_refl _) ?_
          rw [if_neg (by rw [bI_0 c6]; decide)]
          rw [if_neg (by rw [bI_0 c44]; decide)]
          rw [if_pos (bI_1 c78)]
          exact ⟨_, rfl, rfl, h2⟩
      · skip
        refine Ex.aload_n (pc := 47) dX4_readFact_47 rfl rfl ?_
        refine Ex.iload_n (pc := 48) dX4_readFact_48 rfl rfl ?_
        refine Ex.iconst (pc := 49) (v := 1) dX4_readFact_49 rfl ?_
        refine Ex.callV (pc := 50) (As := [.int _, .int 1]) (rest := []) dX4_readFact_50 cX4_186 (t_openY (w := 1) (by decide) hB (h.pay (isS_k (bI_1 c44))) ho7) (s2_81 _ _) rfl rfl (by omega) (Nat.le_refl _) (Nat.le_refl _) (Nat.le_of_ble_eq_true rfl) (Or.inl (fun r S' h => by obtain ⟨_, _, h, _⟩ := h; subst h; rfl)) (fun r S' hq _ _ => ?_)
        obtain ⟨I1, rfl, rfl, h1⟩ := hq
        refine Ex.if_eq (pc := 53) (tgt := 102) dX4_readFact_53 (by decide) (fun c53 => absurd c53 (by decide)) (fun _ => ?_)
        refine Ex.aload_n (pc := 56) dX4_readFact_56 rfl rfl ?_
        refine Ex.iload_n (pc := 57) dX4_readFact_57 rfl rfl ?_
        refine Ex.iconst (pc := 58) (v := 1) dX4_readFact_58 rfl ?_
        refine Ex.iadd (pc := 59) dX4_readFact_59 ?_
        rw [show nI o + 1 = nI (o + 1) from nI_1 o]
        refine Ex.callV (pc := 60) (As := [.int _]) (rest := []) dX4_readFact_60 cX4_130 (hte ho7 _ _ _ h1.less) (s2_81 _ _) rfl rfl (by omega) (Nat.le_refl _) (Nat.le_refl _) (Nat.le_of_ble_eq_true rfl) (Or.inl (fun r S' h => by obtain ⟨_, _, h, _⟩ := h; subst h; rfl)) (fun r S' hq _ _ => ?_)
        obtain ⟨I2, rfl, rfl, h2⟩ := hq
        refine Ex.aload_n (pc := 63) dX4_readFact_63 rfl rfl ?_
        refine Ex.bipush (pc := 64) (v := 93) dX4_readFact_64 rfl ?_
        refine Ex.callV (pc := 66) (As := [.int 93]) (rest := []) dX4_readFact_66 cX4_145 (t_tkS (k := 93) hB h2 (by decide)) (s2_81 _ _) rfl rfl (by omega) (Nat.le_refl _) (Nat.le_refl _) (Nat.le_of_ble_eq_true rfl) (Or.inl (fun r S' h => by obtain ⟨_, _, h, _⟩ := h; subst h; rfl)) (fun r S' hq _ _ => ?_)
        obtain ⟨I3, rfl, rfl, h3⟩ := hq
        refine Ex.goto (pc := 69) (tgt := 102) dX4_readFact_69 (by decide) ?_
        refine Ex.vret (pc := 102) rfl dX4_readFact_102 (Nat.le_refl _) (Nat.le_refl _) ?_
        rw [if_neg (by rw [bI_0 c6]; decide)]
        rw [if_pos (bI_1 c44), if_neg ho]
        exact ⟨_, rfl, rfl, h3⟩
    · skip
      refine Ex.aload_n (pc := 9) dX4_readFact_9 rfl rfl ?_
      refine Ex.iload_n (pc := 10) dX4_readFact_10 rfl rfl ?_
      refine Ex.iconst (pc := 11) (v := 1) dX4_readFact_11 rfl ?_
      refine Ex.callV (pc := 12) (As := [.int _, .int 1]) (rest := []) dX4_readFact_12 cX4_186 (t_openY (w := 1) (by decide) hB (h.pay (isW_k (bI_1 c6))) ho7) (s2_81 _ _) rfl rfl (by omega) (Nat.le_refl _) (Nat.le_refl _) (Nat.le_of_ble_eq_true rfl) (Or.inl (fun r S' h => by obtain ⟨_, _, h, _⟩ := h; subst h; rfl)) (fun r S' hq _ _ => ?_)
      obtain ⟨I1, rfl, rfl, h1⟩ := hq
      refine Ex.if_eq (pc := 15) (tgt := 102) dX4_readFact_15 (by decide) (fun c15 => absurd c15 (by decide)) (fun _ => ?_)
      refine Ex.aload_n (pc := 18) dX4_readFact_18 rfl rfl ?_
      refine Ex.iload_n (pc := 19) dX4_readFact_19 rfl rfl ?_
      refine Ex.iconst (pc := 20) (v := 1) dX4_readFact_20 rfl ?_
      refine Ex.iadd (pc := 21) dX4_readFact_21 ?_
      rw [show nI o + 1 = nI (o + 1) from nI_1 o]
      refine Ex.callV (pc := 22) (As := [.int _]) (rest := []) dX4_readFact_22 cX4_193 (hfa ho7 _ _ _ h1) (s2_81 _ _) rfl rfl (by omega) (Nat.le_refl _) (Nat.le_refl _) (Nat.le_of_ble_eq_true rfl) (Or.inl (fun r S' h => by obtain ⟨_, _, h, _⟩ := h; subst h; rfl)) (fun r S' hq _ _ => ?_)
      obtain ⟨I2, rfl, rfl, h2⟩ := hq
      refine Ex.aload_n (pc := 25) dX4_readFact_25 rfl rfl ?_
      refine Ex.getR (pc := 26) dX4_readFact_26 fX4_57 (s2_81 _ _) r2_81_2 ?_
      refine Ex.bipush (pc := 29) (v := 14) dX4_readFact_29 rfl ?_
      refine Ex.iconst (pc := 31) (v := 0) dX4_readFact_31 rfl ?_
      refine Ex.callV (pc := 32) (As := [.int 14, .int 0]) (rest := []) dX4_readFact_32 cX4_171 (t_adS (k := 14) (v := 0) (d2 := d) (p2 := false) h2 hB.2.2 (by decide) (by decide) h2.room) (s2_82 _ _) rfl rfl (by omega) (Nat.le_refl _) (Nat.le_refl _) (Nat.le_of_ble_eq_true rfl) (Or.inl (fun r S' h => by obtain ⟨_, _, h, _⟩ := h; subst h; rfl)) (fun r S' hq _ _ => ?_)
      obtain ⟨I3, rfl, rfl, h3⟩ := hq
      refine Ex.goto (pc := 35) (tgt := 102) dX4_readFact_35 (by decide) ?_
      refine Ex.vret (pc := 102) rfl dX4_readFact_102 (Nat.le_refl _) (Nat.le_refl _) ?_
      rw [if_pos (bI_1 c6), if_neg ho]
      exact ⟨_, rfl, rfl, h3⟩
theorem room_up {s : State} {pl : Platform} {r r' : Room} (hf : r.frames ≤ r'.frames) (hl : r.locals ≤ r'.locals) (hc : r.cells ≤ r'.cells) (hs : r.slots ≤ r'.slots) (h : s.hasRoom pl r' = true) : s.hasRoom pl r = true := by
  simp only [State.hasRoom, Bool.and_eq_true, decide_eq_true_eq] at h ⊢
  obtain ⟨⟨⟨⟨y, a, b, c, d, e⟩, f⟩, g⟩, i⟩ := h
  exact ⟨⟨⟨⟨by omega, by omega, by omega, by omega, by omega, e⟩, by omega⟩, by omega⟩, i⟩
theorem Run.up {d d2 mc ms : Nat} {mi : aM} {av : List Value} {S : aS} {Q : aQ} (h : d ≤ d2) (hr : Run d mc ms mi av S Q) : Run d2 mc ms mi av S Q := by
  intro l G ρ sz p e ha hc hk s m args below hf happ hP hK
  obtain ⟨a1, a2, a3, a4, a5, a6, a7, a8⟩ := (Spec.appliesLoose_iff hf).mp happ
  exact hr l G ρ sz p e ha hc hk s m args below hf ((Spec.appliesLoose_iff hf).mpr ⟨a1, a2, a3, a4, a5, a6, room_up (r := aRoom d mc ms) (r' := aRoom d2 mc ms) h (Nat.mul_le_mul_left 64 h) (Nat.le_refl _) (Nat.le_refl _) a7, a8⟩) hP hK
theorem CtX.up {N n : Nat} {L : aL} {I0 : aI} {d d2 : Nat} {mi : aM} {o : Nat} {F : Er → Er} (h : d ≤ d2) (hr : CtX N n L I0 d mi o F) : CtX N n L I0 d2 mi o F := fun I k r hp => (hr I k r hp).up h
theorem t_mk {N n o sc D : Nat} {I0 : aI} {L : aL} {tb : Nat → Nat} {q : (Er → Er) × (Er → Er) × (Er → Er)} (hB : PB tb n I0) (hsc : I0 81 10 = nI sc) (hsc9 : sc < 100) (ho2 : o < 100) (hD : 7 ≤ D) (h1 : o < 7 → CtX N n L I0 D mX4_readSum (o + 1) q.1) (h2 : o < 7 → CtX N n L I0 D mX4_readTest (o + 1) q.2.1) (h3 : o < 7 → CtX N n L I0 D mX4_readFact (o + 1) q.2.2) :
    CtX N n L I0 (D + 4) mX4_readSum o (mkL tb n sc o q).1 ∧ CtX N n L I0 (D + 8) mX4_readTest o (mkL tb n sc o q).2.1 ∧ CtX N n L I0 (D + 6) mX4_readFact o (mkL tb n sc o q).2.2 := by
  have a1 := t_part (N := N) (L := L) (sm := q.1) (te := q.2.1) (sc := sc) hB h1 hD ho2 h2 hsc hsc9
  have a2 := t_prod hB a1 (by omega)
  have a3 := t_sum hB a2 (by omega)
  have a4 := t_comp hB a3 (by omega)
  have a5 := t_fact (D := D) hB h3 h2 a4 (by omega) (by omega) ho2
  have a6 := t_both hB a5 (by omega)
  have a7 := t_test hB a6 (by omega)
  exact ⟨a3, a7, a5⟩
theorem RunD {d d2 mc ms : Nat} {mi : aM} {av : List Value} {S : aS} {Q : aQ} (h : d = d2) (hr : Run d mc ms mi av S Q) : Run d2 mc ms mi av S Q := h ▸ hr
theorem t_lvl {N n sc : Nat} {I0 : aI} {L : aL} {tb : Nat → Nat} (hB : PB tb n I0) (hsc : I0 81 10 = nI sc) (hsc9 : sc < 100) : ∀ m, m ≤ 7 → CtX N n L I0 (11 + 8 * m) mX4_readSum (7 - m) (lvl tb n sc m).1 ∧ CtX N n L I0 (15 + 8 * m) mX4_readTest (7 - m) (lvl tb n sc m).2.1 ∧ CtX N n L I0 (13 + 8 * m) mX4_readFact (7 - m) (lvl tb n sc m).2.2
  | 0, _ => t_mk (o := 7) (D := 7) hB hsc hsc9 (by decide) (by decide) (fun h => absurd h (by decide)) (fun h => absurd h (by decide)) (fun h => absurd h (by decide))
  | m + 1, hm => by
    obtain ⟨i1, i2, i3⟩ := t_lvl (N := N) (L := L) hB hsc hsc9 m (by omega)
    have e : 7 - m = 6 - m + 1 := by omega
    rw [e] at i1 i2 i3
    obtain ⟨g1, g2, g3⟩ := t_mk (N := N) (L := L) (o := 6 - m) (D := 15 + 8 * m) (q := lvl tb n sc m) hB hsc hsc9 (by omega) (by omega) (fun _ => CtX.up (by omega) i1) (fun _ => i2) (fun _ => CtX.up (by omega) i3)
    rw [show 7 - (m + 1) = 6 - m by omega]
    exact ⟨CtX.up (by omega) g1, CtX.up (by omega) g2, CtX.up (by omega) g3⟩
