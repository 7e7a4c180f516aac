set_option maxRecDepth 20000 in
theorem tm_g32 {N n b w : Nat} {tb : Nat → Nat} {I J : aI} {L M : aL} {f : Fr} {fs : List Fr} {o : Nat} {t : Tk} {c : Cd} {C : Cf} (W : Wk tb n b w I L J M (f :: fs) o t c) (hb : b < 2) (hi : IvO n true (f :: fs) o t c) (h44 : J 36 44 = 1) (hC : C = gnF tb n f fs o (.ok (t, c))) : Ex 3 0 0 mX10_goesOn 0 0 32 [some (.ref 36), some (.int (nI fs.length)), some (.int (nI f.k)), some (.int (bI (tst f.k))), none] [] (St N J M) (RX N (fun x I2 L2 => ∃ v : Bool, x = some (.int (bI v)) ∧ RdF b I L I2 L2 ∧ ReG tb n b I2 L2 C v)) := by
  obtain ⟨v1, v2, v3, v4⟩ := hi.bd (by simp)
  have v1 : fs.length + 1 ≤ 8 := v1
  have hF : FsK (f :: fs) := hi.2.2.1
  have hk6 := hF.1.2.2.2.2.1
  have m0 : RMs tb n J M (.ok (t, c)) := W.2.2.2.1
  have hdl : ∀ m, opN ((⟨f.k, f.ph, f.bg, f.pr, dr m f.ω⟩ : Fr) :: fs) < 500 := fun m => by
    have := tk_len m f.ω
    have e : opN (f :: fs) = opN fs + f.ω.length := rfl
    show opN fs + (dr m f.ω).length < 500
    omega
  have kI : ∀ k, k < 1000 → (nI f.k = nI k ↔ f.k = k) := fun k hk => nI_iff (by omega) hk
  have p57 : J 57 fs.length = nI f.ph := W.2.2.2.2.2.2.2.2.2.1
  have hp2 := hF.1.2.2.2.1
  have pI : ∀ k, k < 1000 → (J 57 fs.length = nI k ↔ f.ph = k) := fun k hk => by rw [p57]; exact nI_iff (by omega) hk
  unfold gnF at hC
  have h2 : 2 ≤ J 57 fs.length ↔ ¬ f.ph < 2 := by
    rw [p57, show (2 : Int32) = nI 2 from rfl, ← Int32.not_lt, nI_ltI (by omega) (by omega)]
  refine Ex.aload_n (pc := 32) dX10_goesOn_32 rfl rfl ?_
  refine Ex.getR (pc := 33) dX10_goesOn_33 fX10_121 (sh36 _) r36_36 ?_
  refine Ex.iload_n (pc := 36) dX10_goesOn_36 rfl rfl ?_
  refine Ex.iald (pc := 37) (j := fs.length) dX10_goesOn_37 (sh57 _) (vp_in_nI (by omega) (by decide)) (nI_clamp (by omega)) ?_
  refine Ex.iconst (pc := 38) (v := 2) dX10_goesOn_38 rfl ?_
  refine Ex.icmp_ge (pc := 39) (tgt := 188) dX10_goesOn_39 (by decide) (fun c39 => ?_) (fun c39 => ?_)
  · skip
    rw [if_neg (by rw [decide_eq_false (h2.mp c39), Bool.false_and]; decide)] at hC
    exact tm_g188 W hb hi h44 hC
  · skip
    refine Ex.aload_n (pc := 42) dX10_goesOn_42 rfl rfl ?_
    refine Ex.bipush (pc := 43) (v := 43) dX10_goesOn_43 rfl ?_
    refine Ex.callV (pc := 45) (As := [.int 43]) (rest := []) dX10_goesOn_45 cX10_244 (tm_sW W.2.2.2.1 (k := 43) (by decide) c) (sh36 _) rfl rfl (by decide) (Nat.le_refl _) (Nat.le_refl _) (Nat.le_of_ble_eq_true rfl) (Or.inl (fun r S' h => by obtain ⟨_, h⟩ := h; subst h; rfl)) (fun r S' hq _ _ => ?_)
    obtain ⟨rfl, rfl⟩ := hq
    refine Ex.if_ne (pc := 48) (tgt := 87) dX10_goesOn_48 (by decide) (fun c48 => ?_) (fun c48 => ?_)
    · skip
      refine Ex.aload_n (pc := 87) dX10_goesOn_87 rfl rfl ?_
      refine Ex.aload_n (pc := 88) dX10_goesOn_88 rfl rfl ?_
      refine Ex.bipush (pc := 89) (v := 43) dX10_goesOn_89 rfl ?_
      refine Ex.callV (pc := 91) (As := [.int 43]) (rest := [.ref 36]) dX10_goesOn_91 cX10_244 (tm_sW W.2.2.2.1 (k := 43) (by decide) c) (sh36 _) rfl rfl (by decide) (Nat.le_refl _) (Nat.le_refl _) (Nat.le_of_ble_eq_true rfl) (Or.inl (fun r S' h => by obtain ⟨_, h⟩ := h; subst h; rfl)) (fun r S' hq _ _ => ?_)
      obtain ⟨rfl, rfl⟩ := hq
      refine Ex.if_ne (pc := 94) (tgt := 106) dX10_goesOn_94 (by decide) (fun _ => ?_) (fun c94 => absurd c94 c48)
      refine Ex.iconst (pc := 106) (v := 5) dX10_goesOn_106 rfl ?_
      refine Ex.goto (pc := 107) (tgt := 112) dX10_goesOn_107 (by decide) ?_
      refine Ex.callV (pc := 112) (As := [.int 5]) (rest := []) dX10_goesOn_112 cX10_338 (tm_jnW (m := 5) hb (by decide) W hi) (sh36 _) rfl rfl (by decide) (Nat.le_refl _) (Nat.le_refl _) (Nat.le_of_ble_eq_true rfl) (Or.inl (fun r S' h => by obtain ⟨_, _, h, _⟩ := h; subst h; rfl)) (fun r S' hq _ _ => ?_)
      obtain ⟨I7, L7, rfl, rfl, o7, W7⟩ := hq
      refine Ex.aload_n (pc := 115) dX10_goesOn_115 rfl rfl ?_
      refine Ex.aload_n (pc := 116) dX10_goesOn_116 rfl rfl ?_
      refine Ex.bipush (pc := 117) (v := 43) dX10_goesOn_117 rfl ?_
      refine Ex.callV (pc := 119) (As := [.int 43]) (rest := [.ref 36]) dX10_goesOn_119 cX10_244 (tm_sW W7.2.2.2.1 (k := 43) (by decide) c) (sh36 _) rfl rfl (by decide) (Nat.le_refl _) (Nat.le_refl _) (Nat.le_of_ble_eq_true rfl) (Or.inl (fun r S' h => by obtain ⟨_, h⟩ := h; subst h; rfl)) (fun r S' hq _ _ => ?_)
      obtain ⟨rfl, rfl⟩ := hq
      refine Ex.if_eq (pc := 122) (tgt := 130) dX10_goesOn_122 (by decide) (fun c122 => absurd c122 c48) (fun _ => ?_)
      refine Ex.bipush (pc := 125) (v := 31) dX10_goesOn_125 rfl ?_
      refine Ex.goto (pc := 127) (tgt := 174) dX10_goesOn_127 (by decide) ?_
      refine Ex.callV (pc := 174) (As := [.int 31]) (rest := []) dX10_goesOn_174 cX10_332 (tm_holds (m := opN ((⟨f.k, f.ph, f.bg, f.pr, dr 5 f.ω⟩ : Fr) :: fs)) (hdl 5) W7.2.2.2.2.2.2.2.1) (sh36 _) rfl rfl (by decide) (Nat.le_refl _) (Nat.le_refl _) (Nat.le_of_ble_eq_true rfl) (Or.inl (fun r S' h => by obtain ⟨_, h⟩ := h; subst h; rfl)) (fun r S' hq _ _ => ?_)
      obtain ⟨rfl, rfl⟩ := hq
      have W8 : Wk tb n b w I L (hbM I7 (opN ((⟨f.k, f.ph, f.bg, f.pr, dr 5 f.ω⟩ : Fr) :: fs)) (nI (sN 2))) L7 (⟨f.k, f.ph, f.bg, f.pr, 2 :: dr 5 f.ω⟩ :: fs) (o - cd14 (tk 5 f.ω)) t (c ++ (tk 5 f.ω).map (fun x => (x, 0))) := W7.u uf_hb (W7.2.2.2.2.push 2)
      refine Ex.mm (S' := St N (hbM I7 (opN ((⟨f.k, f.ph, f.bg, f.pr, dr 5 f.ω⟩ : Fr) :: fs)) (nI (sN 2))) L7) rfl ?_
      refine Ex.aload_n (pc := 177) dX10_goesOn_177 rfl rfl ?_
      refine Ex.callV (pc := 178) (As := []) (rest := []) dX10_goesOn_178 cX10_247 (Wk.nx W8) (sh36 _) rfl rfl (by decide) (Nat.le_refl _) (Nat.le_refl _) (Nat.le_of_ble_eq_true rfl) (Or.inl (fun r S' h => by obtain ⟨_, _, h, _⟩ := h; subst h; rfl)) (fun r S' hq _ _ => ?_)
      obtain ⟨I3, L3, rfl, rfl, g3, m3, z3, f3, k3⟩ := hq
      refine Ex.aload_n (pc := 181) dX10_goesOn_181 rfl rfl ?_
      refine Ex.iconst (pc := 182) (v := 0) dX10_goesOn_182 rfl ?_
      refine Ex.putI (pc := 183) dX10_goesOn_183 fX10_146 (sh36 _) (Or.inl rfl) ⟨rfl, rfl⟩ ?_
      refine Ex.mm (S' := St N (mf I3 44 0) L3) rfl ?_
      refine Ex.iconst (pc := 186) (v := 1) dX10_goesOn_186 rfl ?_
      refine Ex.iret (pc := 187) rfl rfl rfl dX10_goesOn_187 (Nat.le_refl _) (Nat.le_refl _) ?_
      have q0 := bI_1 c48
      have har : isAr (.ok (t, c)) = true := by unfold isAr; rw [q0]; rfl
      have hop : opA (.ok (t, c)) = 2 := by unfold opA; rw [q0]; rfl
      have hrk : rkA (.ok (t, c)) = 5 := by unfold rkA; rw [q0]; rfl
      have hp : f.ph < 2 := Classical.byContradiction (fun z => c39 (h2.mpr z))
      rw [if_pos (by rw [decide_eq_true hp, har]; rfl), hop, hrk] at hC
      subst hC
      exact ⟨_, _, rfl, true, rfl, g3.tr (UF.rd (uf_m (by decide))), ReG.n (c := c ++ (tk 5 f.ω).map (fun x => (x, 0))) (m3.u (b := b) (uf_m (by decide))) mf_s (f3.nop 0)⟩
    · skip
      refine Ex.aload_n (pc := 51) dX10_goesOn_51 rfl rfl ?_
      refine Ex.bipush (pc := 52) (v := 45) dX10_goesOn_52 rfl ?_
      refine Ex.callV (pc := 54) (As := [.int 45]) (rest := []) dX10_goesOn_54 cX10_244 (tm_sW W.2.2.2.1 (k := 45) (by decide) c) (sh36 _) rfl rfl (by decide) (Nat.le_refl _) (Nat.le_refl _) (Nat.le_of_ble_eq_true rfl) (Or.inl (fun r S' h => by obtain ⟨_, h⟩ := h; subst h; rfl)) (fun r S' hq _ _ => ?_)
      obtain ⟨rfl, rfl⟩ := hq
      refine Ex.if_ne (pc := 57) (tgt := 87) dX10_goesOn_57 (by decide) (fun c57 => ?_) (fun c57 => ?_)
      · skip
        refine Ex.aload_n (pc := 87) dX10_goesOn_87 rfl rfl ?_
        refine Ex.aload_n (pc := 88) dX10_goesOn_88 rfl rfl ?_
        refine Ex.bipush (pc := 89) (v := 43) dX10_goesOn_89 rfl ?_
        refine Ex.callV (pc := 91) (As := [.int 43]) (rest := [.ref 36]) dX10_goesOn_91 cX10_244 (tm_sW W.2.2.2.1 (k := 43) (by decide) c) (sh36 _) rfl rfl (by decide) (Nat.le_refl _) (Nat.le_refl _) (Nat.le_of_ble_eq_true rfl) (Or.inl (fun r S' h => by obtain ⟨_, h⟩ := h; subst h; rfl)) (fun r S' hq _ _ => ?_)
        obtain ⟨rfl, rfl⟩ := hq
        refine Ex.if_ne (pc := 94) (tgt := 106) dX10_goesOn_94 (by decide) (fun c94 => absurd c48 c94) (fun _ => ?_)
        refine Ex.aload_n (pc := 97) dX10_goesOn_97 rfl rfl ?_
        refine Ex.bipush (pc := 98) (v := 45) dX10_goesOn_98 rfl ?_
        refine Ex.callV (pc := 100) (As := [.int 45]) (rest := [.ref 36]) dX10_goesOn_100 cX10_244 (tm_sW W.2.2.2.1 (k := 45) (by decide) c) (sh36 _) rfl rfl (by decide) (Nat.le_refl _) (Nat.le_refl _) (Nat.le_of_ble_eq_true rfl) (Or.inl (fun r S' h => by obtain ⟨_, h⟩ := h; subst h; rfl)) (fun r S' hq _ _ => ?_)
        obtain ⟨rfl, rfl⟩ := hq
        refine Ex.if_eq (pc := 103) (tgt := 110) dX10_goesOn_103 (by decide) (fun c103 => absurd c103 c57) (fun _ => ?_)
        refine Ex.iconst (pc := 106) (v := 5) dX10_goesOn_106 rfl ?_
        refine Ex.goto (pc := 107) (tgt := 112) dX10_goesOn_107 (by decide) ?_
        refine Ex.callV (pc := 112) (As := [.int 5]) (rest := []) dX10_goesOn_112 cX10_338 (tm_jnW (m := 5) hb (by decide) W hi) (sh36 _) rfl rfl (by decide) (Nat.le_refl _) (Nat.le_refl _) (Nat.le_of_ble_eq_true rfl) (Or.inl (fun r S' h => by obtain ⟨_, _, h, _⟩ := h; subst h; rfl)) (fun r S' hq _ _ => ?_)
        obtain ⟨I7, L7, rfl, rfl, o7, W7⟩ := hq
        refine Ex.aload_n (pc := 115) dX10_goesOn_115 rfl rfl ?_
        refine Ex.aload_n (pc := 116) dX10_goesOn_116 rfl rfl ?_
        refine Ex.bipush (pc := 117) (v := 43) dX10_goesOn_117 rfl ?_
        refine Ex.callV (pc := 119) (As := [.int 43]) (rest := [.ref 36]) dX10_goesOn_119 cX10_244 (tm_sW W7.2.2.2.1 (k := 43) (by decide) c) (sh36 _) rfl rfl (by decide) (Nat.le_refl _) (Nat.le_refl _) (Nat.le_of_ble_eq_true rfl) (Or.inl (fun r S' h => by obtain ⟨_, h⟩ := h; subst h; rfl)) (fun r S' hq _ _ => ?_)
        obtain ⟨rfl, rfl⟩ := hq
        refine Ex.if_eq (pc := 122) (tgt := 130) dX10_goesOn_122 (by decide) (fun _ => ?_) (fun c122 => absurd c48 c122)
        refine Ex.aload_n (pc := 130) dX10_goesOn_130 rfl rfl ?_
        refine Ex.bipush (pc := 131) (v := 45) dX10_goesOn_131 rfl ?_
        refine Ex.callV (pc := 133) (As := [.int 45]) (rest := [.ref 36]) dX10_goesOn_133 cX10_244 (tm_sW W7.2.2.2.1 (k := 45) (by decide) c) (sh36 _) rfl rfl (by decide) (Nat.le_refl _) (Nat.le_refl _) (Nat.le_of_ble_eq_true rfl) (Or.inl (fun r S' h => by obtain ⟨_, h⟩ := h; subst h; rfl)) (fun r S' hq _ _ => ?_)
        obtain ⟨rfl, rfl⟩ := hq
        refine Ex.if_eq (pc := 136) (tgt := 144) dX10_goesOn_136 (by decide) (fun c136 => absurd c136 c57) (fun _ => ?_)
        refine Ex.bipush (pc := 139) (v := 32) dX10_goesOn_139 rfl ?_
        refine Ex.goto (pc := 141) (tgt := 174) dX10_goesOn_141 (by decide) ?_
        refine Ex.callV (pc := 174) (As := [.int 32]) (rest := []) dX10_goesOn_174 cX10_332 (tm_holds (m := opN ((⟨f.k, f.ph, f.bg, f.pr, dr 5 f.ω⟩ : Fr) :: fs)) (hdl 5) W7.2.2.2.2.2.2.2.1) (sh36 _) rfl rfl (by decide) (Nat.le_refl _) (Nat.le_refl _) (Nat.le_of_ble_eq_true rfl) (Or.inl (fun r S' h => by obtain ⟨_, h⟩ := h; subst h; rfl)) (fun r S' hq _ _ => ?_)
        obtain ⟨rfl, rfl⟩ := hq
        have W8 : Wk tb n b w I L (hbM I7 (opN ((⟨f.k, f.ph, f.bg, f.pr, dr 5 f.ω⟩ : Fr) :: fs)) (nI (sN 3))) L7 (⟨f.k, f.ph, f.bg, f.pr, 3 :: dr 5 f.ω⟩ :: fs) (o - cd14 (tk 5 f.ω)) t (c ++ (tk 5 f.ω).map (fun x => (x, 0))) := W7.u uf_hb (W7.2.2.2.2.push 3)
        refine Ex.mm (S' := St N (hbM I7 (opN ((⟨f.k, f.ph, f.bg, f.pr, dr 5 f.ω⟩ : Fr) :: fs)) (nI (sN 3))) L7) rfl ?_
        refine Ex.aload_n (pc := 177) dX10_goesOn_177 rfl rfl ?_
        refine Ex.callV (pc := 178) (As := []) (rest := []) dX10_goesOn_178 cX10_247 (Wk.nx W8) (sh36 _) rfl rfl (by decide) (Nat.le_refl _) (Nat.le_refl _) (Nat.le_of_ble_eq_true rfl) (Or.inl (fun r S' h => by obtain ⟨_, _, h, _⟩ := h; subst h; rfl)) (fun r S' hq _ _ => ?_)
        obtain ⟨I3, L3, rfl, rfl, g3, m3, z3, f3, k3⟩ := hq
        refine Ex.aload_n (pc := 181) dX10_goesOn_181 rfl rfl ?_
        refine Ex.iconst (pc := 182) (v := 0) dX10_goesOn_182 rfl ?_
        refine Ex.putI (pc := 183) dX10_goesOn_183 fX10_146 (sh36 _) (Or.inl rfl) ⟨rfl, rfl⟩ ?_
        refine Ex.mm (S' := St N (mf I3 44 0) L3) rfl ?_
        refine Ex.iconst (pc := 186) (v := 1) dX10_goesOn_186 rfl ?_
        refine Ex.iret (pc := 187) rfl rfl rfl dX10_goesOn_187 (Nat.le_refl _) (Nat.le_refl _) ?_
        have q0 := bI_0 c48
        have q1 := bI_1 c57
        have har : isAr (.ok (t, c)) = true := by unfold isAr; rw [q0, q1]; rfl
        have hop : opA (.ok (t, c)) = 3 := by unfold opA; rw [q0, q1]; rfl
        have hrk : rkA (.ok (t, c)) = 5 := by unfold rkA; rw [q0, q1]; rfl
        have hp : f.ph < 2 := Classical.byContradiction (fun z => c39 (h2.mpr z))
        rw [if_pos (by rw [decide_eq_true hp, har]; rfl), hop, hrk] at hC
        subst hC
        exact ⟨_, _, rfl, true, rfl, g3.tr (UF.rd (uf_m (by decide))), ReG.n (c := c ++ (tk 5 f.ω).map (fun x => (x, 0))) (m3.u (b := b) (uf_m (by decide))) mf_s (f3.nop 0)⟩
      · skip
        refine Ex.aload_n (pc := 60) dX10_goesOn_60 rfl rfl ?_
        refine Ex.bipush (pc := 61) (v := 42) dX10_goesOn_61 rfl ?_
        refine Ex.callV (pc := 63) (As := [.int 42]) (rest := []) dX10_goesOn_63 cX10_244 (tm_sW W.2.2.2.1 (k := 42) (by decide) c) (sh36 _) rfl rfl (by decide) (Nat.le_refl _) (Nat.le_refl _) (Nat.le_of_ble_eq_true rfl) (Or.inl (fun r S' h => by obtain ⟨_, h⟩ := h; subst h; rfl)) (fun r S' hq _ _ => ?_)
        obtain ⟨rfl, rfl⟩ := hq
        refine Ex.if_ne (pc := 66) (tgt := 87) dX10_goesOn_66 (by decide) (fun c66 => ?_) (fun c66 => ?_)
        · skip
          refine Ex.aload_n (pc := 87) dX10_goesOn_87 rfl rfl ?_
          refine Ex.aload_n (pc := 88) dX10_goesOn_88 rfl rfl ?_
          refine Ex.bipush (pc := 89) (v := 43) dX10_goesOn_89 rfl ?_
          refine Ex.callV (pc := 91) (As := [.int 43]) (rest := [.ref 36]) dX10_goesOn_91 cX10_244 (tm_sW W.2.2.2.1 (k := 43) (by decide) c) (sh36 _) rfl rfl (by decide) (Nat.le_refl _) (Nat.le_refl _) (Nat.le_of_ble_eq_true rfl) (Or.inl (fun r S' h => by obtain ⟨_, h⟩ := h; subst h; rfl)) (fun r S' hq _ _ => ?_)
          obtain ⟨rfl, rfl⟩ := hq
          refine Ex.if_ne (pc := 94) (tgt := 106) dX10_goesOn_94 (by decide) (fun c94 => absurd c48 c94) (fun _ => ?_)
          refine Ex.aload_n (pc := 97) dX10_goesOn_97 rfl rfl ?_
          refine Ex.bipush (pc := 98) (v := 45) dX10_goesOn_98 rfl ?_
          refine Ex.callV (pc := 100) (As := [.int 45]) (rest := [.ref 36]) dX10_goesOn_100 cX10_244 (tm_sW W.2.2.2.1 (k := 45) (by decide) c) (sh36 _) rfl rfl (by decide) (Nat.le_refl _) (Nat.le_refl _) (Nat.le_of_ble_eq_true rfl) (Or.inl (fun r S' h => by obtain ⟨_, h⟩ := h; subst h; rfl)) (fun r S' hq _ _ => ?_)
          obtain ⟨rfl, rfl⟩ := hq
          refine Ex.if_eq (pc := 103) (tgt := 110) dX10_goesOn_103 (by decide) (fun _ => ?_) (fun c103 => absurd c57 c103)
          refine Ex.bipush (pc := 110) (v := 6) dX10_goesOn_110 rfl ?_
          refine Ex.callV (pc := 112) (As := [.int 6]) (rest := []) dX10_goesOn_112 cX10_338 (tm_jnW (m := 6) hb (by decide) W hi) (sh36 _) rfl rfl (by decide) (Nat.le_refl _) (Nat.le_refl _) (Nat.le_of_ble_eq_true rfl) (Or.inl (fun r S' h => by obtain ⟨_, _, h, _⟩ := h; subst h; rfl)) (fun r S' hq _ _ => ?_)
          obtain ⟨I7, L7, rfl, rfl, o7, W7⟩ := hq
          refine Ex.aload_n (pc := 115) dX10_goesOn_115 rfl rfl ?_
          refine Ex.aload_n (pc := 116) dX10_goesOn_116 rfl rfl ?_
          refine Ex.bipush (pc := 117) (v := 43) dX10_goesOn_117 rfl ?_
          refine Ex.callV (pc := 119) (As := [.int 43]) (rest := [.ref 36]) dX10_goesOn_119 cX10_244 (tm_sW W7.2.2.2.1 (k := 43) (by decide) c) (sh36 _) rfl rfl (by decide) (Nat.le_refl _) (Nat.le_refl _) (Nat.le_of_ble_eq_true rfl) (Or.inl (fun r S' h => by obtain ⟨_, h⟩ := h; subst h; rfl)) (fun r S' hq _ _ => ?_)
          obtain ⟨rfl, rfl⟩ := hq
          refine Ex.if_eq (pc := 122) (tgt := 130) dX10_goesOn_122 (by decide) (fun _ => ?_) (fun c122 => absurd c48 c122)
          refine Ex.aload_n (pc := 130) dX10_goesOn_130 rfl rfl ?_
          refine Ex.bipush (pc := 131) (v := 45) dX10_goesOn_131 rfl ?_
          refine Ex.callV (pc := 133) (As := [.int 45]) (rest := [.ref 36]) dX10_goesOn_133 cX10_244 (tm_sW W7.2.2.2.1 (k := 45) (by decide) c) (sh36 _) rfl rfl (by decide) (Nat.le_refl _) (Nat.le_refl _) (Nat.le_of_ble_eq_true rfl) (Or.inl (fun r S' h => by obtain ⟨_, h⟩ := h; subst h; rfl)) (fun r S' hq _ _ => ?_)
          obtain ⟨rfl, rfl⟩ := hq
          refine Ex.if_eq (pc := 136) (tgt := 144) dX10_goesOn_136 (by decide) (fun _ => ?_) (fun c136 => absurd c57 c136)
          refine Ex.aload_n (pc := 144) dX10_goesOn_144 rfl rfl ?_
          refine Ex.bipush (pc := 145) (v := 42) dX10_goesOn_145 rfl ?_
          refine Ex.callV (pc := 147) (As := [.int 42]) (rest := [.ref 36]) dX10_goesOn_147 cX10_244 (tm_sW W7.2.2.2.1 (k := 42) (by decide) c) (sh36 _) rfl rfl (by decide) (Nat.le_refl _) (Nat.le_refl _) (Nat.le_of_ble_eq_true rfl) (Or.inl (fun r S' h => by obtain ⟨_, h⟩ := h; subst h; rfl)) (fun r S' hq _ _ => ?_)
          obtain ⟨rfl, rfl⟩ := hq
          refine Ex.if_eq (pc := 150) (tgt := 158) dX10_goesOn_150 (by decide) (fun c150 => absurd c150 c66) (fun _ => ?_)
          refine Ex.bipush (pc := 153) (v := 33) dX10_goesOn_153 rfl ?_
          refine Ex.goto (pc := 155) (tgt := 174) dX10_goesOn_155 (by decide) ?_
          refine Ex.callV (pc := 174) (As := [.int 33]) (rest := []) dX10_goesOn_174 cX10_332 (tm_holds (m := opN ((⟨f.k, f.ph, f.bg, f.pr, dr 6 f.ω⟩ : Fr) :: fs)) (hdl 6) W7.2.2.2.2.2.2.2.1) (sh36 _) rfl rfl (by decide) (Nat.le_refl _) (Nat.le_refl _) (Nat.le_of_ble_eq_true rfl) (Or.inl (fun r S' h => by obtain ⟨_, h⟩ := h; subst h; rfl)) (fun r S' hq _ _ => ?_)
          obtain ⟨rfl, rfl⟩ := hq
          have W8 : Wk tb n b w I L (hbM I7 (opN ((⟨f.k, f.ph, f.bg, f.pr, dr 6 f.ω⟩ : Fr) :: fs)) (nI (sN 4))) L7 (⟨f.k, f.ph, f.bg, f.pr, 4 :: dr 6 f.ω⟩ :: fs) (o - cd14 (tk 6 f.ω)) t (c ++ (tk 6 f.ω).map (fun x => (x, 0))) := W7.u uf_hb (W7.2.2.2.2.push 4)
          refine Ex.mm (S' := St N (hbM I7 (opN ((⟨f.k, f.ph, f.bg, f.pr, dr 6 f.ω⟩ : Fr) :: fs)) (nI (sN 4))) L7) rfl ?_
          refine Ex.aload_n (pc := 177) dX10_goesOn_177 rfl rfl ?_
          refine Ex.callV (pc := 178) (As := []) (rest := []) dX10_goesOn_178 cX10_247 (Wk.nx W8) (sh36 _) rfl rfl (by decide) (Nat.le_refl _) (Nat.le_refl _) (Nat.le_of_ble_eq_true rfl) (Or.inl (fun r S' h => by obtain ⟨_, _, h, _⟩ := h; subst h; rfl)) (fun r S' hq _ _ => ?_)
          obtain ⟨I3, L3, rfl, rfl, g3, m3, z3, f3, k3⟩ := hq
          refine Ex.aload_n (pc := 181) dX10_goesOn_181 rfl rfl ?_
          refine Ex.iconst (pc := 182) (v := 0) dX10_goesOn_182 rfl ?_
          refine Ex.putI (pc := 183) dX10_goesOn_183 fX10_146 (sh36 _) (Or.inl rfl) ⟨rfl, rfl⟩ ?_
          refine Ex.mm (S' := St N (mf I3 44 0) L3) rfl ?_
          refine Ex.iconst (pc := 186) (v := 1) dX10_goesOn_186 rfl ?_
          refine Ex.iret (pc := 187) rfl rfl rfl dX10_goesOn_187 (Nat.le_refl _) (Nat.le_refl _) ?_
          have q0 := bI_0 c48
          have q1 := bI_0 c57
          have q2 := bI_1 c66
          have har : isAr (.ok (t, c)) = true := by unfold isAr; rw [q0, q1, q2]; rfl
          have hop : opA (.ok (t, c)) = 4 := by unfold opA; rw [q0, q1, q2]; rfl
          have hrk : rkA (.ok (t, c)) = 6 := by unfold rkA; rw [q0, q1]; rfl
          have hp : f.ph < 2 := Classical.byContradiction (fun z => c39 (h2.mpr z))
          rw [if_pos (by rw [decide_eq_true hp, har]; rfl), hop, hrk] at hC
          subst hC
          exact ⟨_, _, rfl, true, rfl, g3.tr (UF.rd (uf_m (by decide))), ReG.n (c := c ++ (tk 6 f.ω).map (fun x => (x, 0))) (m3.u (b := b) (uf_m (by decide))) mf_s (f3.nop 0)⟩
        · skip
          refine Ex.aload_n (pc := 69) dX10_goesOn_69 rfl rfl ?_
          refine Ex.bipush (pc := 70) (v := 47) dX10_goesOn_70 rfl ?_
          refine Ex.callV (pc := 72) (As := [.int 47]) (rest := []) dX10_goesOn_72 cX10_244 (tm_sW W.2.2.2.1 (k := 47) (by decide) c) (sh36 _) rfl rfl (by decide) (Nat.le_refl _) (Nat.le_refl _) (Nat.le_of_ble_eq_true rfl) (Or.inl (fun r S' h => by obtain ⟨_, h⟩ := h; subst h; rfl)) (fun r S' hq _ _ => ?_)
          obtain ⟨rfl, rfl⟩ := hq
          refine Ex.if_ne (pc := 75) (tgt := 87) dX10_goesOn_75 (by decide) (fun c75 => ?_) (fun c75 => ?_)
          · skip
            refine Ex.aload_n (pc := 87) dX10_goesOn_87 rfl rfl ?_
            refine Ex.aload_n (pc := 88) dX10_goesOn_88 rfl rfl ?_
            refine Ex.bipush (pc := 89) (v := 43) dX10_goesOn_89 rfl ?_
            refine Ex.callV (pc := 91) (As := [.int 43]) (rest := [.ref 36]) dX10_goesOn_91 cX10_244 (tm_sW W.2.2.2.1 (k := 43) (by decide) c) (sh36 _) rfl rfl (by decide) (Nat.le_refl _) (Nat.le_refl _) (Nat.le_of_ble_eq_true rfl) (Or.inl (fun r S' h => by obtain ⟨_, h⟩ := h; subst h; rfl)) (fun r S' hq _ _ => ?_)
            obtain ⟨rfl, rfl⟩ := hq
            refine Ex.if_ne (pc := 94) (tgt := 106) dX10_goesOn_94 (by decide) (fun c94 => absurd c48 c94) (fun _ => ?_)
            refine Ex.aload_n (pc := 97) dX10_goesOn_97 rfl rfl ?_
            refine Ex.bipush (pc := 98) (v := 45) dX10_goesOn_98 rfl ?_
            refine Ex.callV (pc := 100) (As := [.int 45]) (rest := [.ref 36]) dX10_goesOn_100 cX10_244 (tm_sW W.2.2.2.1 (k := 45) (by decide) c) (sh36 _) rfl rfl (by decide) (Nat.le_refl _) (Nat.le_refl _) (Nat.le_of_ble_eq_true rfl) (Or.inl (fun r S' h => by obtain ⟨_, h⟩ := h; subst h; rfl)) (fun r S' hq _ _ => ?_)
            obtain ⟨rfl, rfl⟩ := hq
            refine Ex.if_eq (pc := 103) (tgt := 110) dX10_goesOn_103 (by decide) (fun _ => ?_) (fun c103 => absurd c57 c103)
            refine Ex.bipush (pc := 110) (v := 6) dX10_goesOn_110 rfl ?_
            refine Ex.callV (pc := 112) (As := [.int 6]) (rest := []) dX10_goesOn_112 cX10_338 (tm_jnW (m := 6) hb (by decide) W hi) (sh36 _) rfl rfl (by decide) (Nat.le_refl _) (Nat.le_refl _) (Nat.le_of_ble_eq_true rfl) (Or.inl (fun r S' h => by obtain ⟨_, _, h, _⟩ := h; subst h; rfl)) (fun r S' hq _ _ => ?_)
            obtain ⟨I7, L7, rfl, rfl, o7, W7⟩ := hq
            refine Ex.aload_n (pc := 115) dX10_goesOn_115 rfl rfl ?_
            refine Ex.aload_n (pc := 116) dX10_goesOn_116 rfl rfl ?_
            refine Ex.bipush (pc := 117) (v := 43) dX10_goesOn_117 rfl ?_
            refine Ex.callV (pc := 119) (As := [.int 43]) (rest := [.ref 36]) dX10_goesOn_119 cX10_244 (tm_sW W7.2.2.2.1 (k := 43) (by decide) c) (sh36 _) rfl rfl (by decide) (Nat.le_refl _) (Nat.le_refl _) (Nat.le_of_ble_eq_true rfl) (Or.inl (fun r S' h => by obtain ⟨_, h⟩ := h; subst h; rfl)) (fun r S' hq _ _ => ?_)
            obtain ⟨rfl, rfl⟩ := hq
            refine Ex.if_eq (pc := 122) (tgt := 130) dX10_goesOn_122 (by decide) (fun _ => ?_) (fun c122 => absurd c48 c122)
            refine Ex.aload_n (pc := 130) dX10_goesOn_130 rfl rfl ?_
            refine Ex.bipush (pc := 131) (v := 45) dX10_goesOn_131 rfl ?_
            refine Ex.callV (pc := 133) (As := [.int 45]) (rest := [.ref 36]) dX10_goesOn_133 cX10_244 (tm_sW W7.2.2.2.1 (k := 45) (by decide) c) (sh36 _) rfl rfl (by decide) (Nat.le_refl _) (Nat.le_refl _) (Nat.le_of_ble_eq_true rfl) (Or.inl (fun r S' h => by obtain ⟨_, h⟩ := h; subst h; rfl)) (fun r S' hq _ _ => ?_)
            obtain ⟨rfl, rfl⟩ := hq
            refine Ex.if_eq (pc := 136) (tgt := 144) dX10_goesOn_136 (by decide) (fun _ => ?_) (fun c136 => absurd c57 c136)
            refine Ex.aload_n (pc := 144) dX10_goesOn_144 rfl rfl ?_
            refine Ex.bipush (pc := 145) (v := 42) dX10_goesOn_145 rfl ?_
            refine Ex.callV (pc := 147) (As := [.int 42]) (rest := [.ref 36]) dX10_goesOn_147 cX10_244 (tm_sW W7.2.2.2.1 (k := 42) (by decide) c) (sh36 _) rfl rfl (by decide) (Nat.le_refl _) (Nat.le_refl _) (Nat.le_of_ble_eq_true rfl) (Or.inl (fun r S' h => by obtain ⟨_, h⟩ := h; subst h; rfl)) (fun r S' hq _ _ => ?_)
            obtain ⟨rfl, rfl⟩ := hq
            refine Ex.if_eq (pc := 150) (tgt := 158) dX10_goesOn_150 (by decide) (fun _ => ?_) (fun c150 => absurd c66 c150)
            refine Ex.aload_n (pc := 158) dX10_goesOn_158 rfl rfl ?_
            refine Ex.bipush (pc := 159) (v := 47) dX10_goesOn_159 rfl ?_
            refine Ex.callV (pc := 161) (As := [.int 47]) (rest := [.ref 36]) dX10_goesOn_161 cX10_244 (tm_sW W7.2.2.2.1 (k := 47) (by decide) c) (sh36 _) rfl rfl (by decide) (Nat.le_refl _) (Nat.le_refl _) (Nat.le_of_ble_eq_true rfl) (Or.inl (fun r S' h => by obtain ⟨_, h⟩ := h; subst h; rfl)) (fun r S' hq _ _ => ?_)
            obtain ⟨rfl, rfl⟩ := hq
            refine Ex.if_eq (pc := 164) (tgt := 172) dX10_goesOn_164 (by decide) (fun c164 => absurd c164 c75) (fun _ => ?_)
            refine Ex.bipush (pc := 167) (v := 34) dX10_goesOn_167 rfl ?_
            refine Ex.goto (pc := 169) (tgt := 174) dX10_goesOn_169 (by decide) ?_
            refine Ex.callV (pc := 174) (As := [.int 34]) (rest := []) dX10_goesOn_174 cX10_332 (tm_holds (m := opN ((⟨f.k, f.ph, f.bg, f.pr, dr 6 f.ω⟩ : Fr) :: fs)) (hdl 6) W7.2.2.2.2.2.2.2.1) (sh36 _) rfl rfl (by decide) (Nat.le_refl _) (Nat.le_refl _) (Nat.le_of_ble_eq_true rfl) (Or.inl (fun r S' h => by obtain ⟨_, h⟩ := h; subst h; rfl)) (fun r S' hq _ _ => ?_)
            obtain ⟨rfl, rfl⟩ := hq
            have W8 : Wk tb n b w I L (hbM I7 (opN ((⟨f.k, f.ph, f.bg, f.pr, dr 6 f.ω⟩ : Fr) :: fs)) (nI (sN 5))) L7 (⟨f.k, f.ph, f.bg, f.pr, 5 :: dr 6 f.ω⟩ :: fs) (o - cd14 (tk 6 f.ω)) t (c ++ (tk 6 f.ω).map (fun x => (x, 0))) := W7.u uf_hb (W7.2.2.2.2.push 5)
            refine Ex.mm (S' := St N (hbM I7 (opN ((⟨f.k, f.ph, f.bg, f.pr, dr 6 f.ω⟩ : Fr) :: fs)) (nI (sN 5))) L7) rfl ?_
            refine Ex.aload_n (pc := 177) dX10_goesOn_177 rfl rfl ?_
            refine Ex.callV (pc := 178) (As := []) (rest := []) dX10_goesOn_178 cX10_247 (Wk.nx W8) (sh36 _) rfl rfl (by decide) (Nat.le_refl _) (Nat.le_refl _) (Nat.le_of_ble_eq_true rfl) (Or.inl (fun r S' h => by obtain ⟨_, _, h, _⟩ := h; subst h; rfl)) (fun r S' hq _ _ => ?_)
            obtain ⟨I3, L3, rfl, rfl, g3, m3, z3, f3, k3⟩ := hq
            refine Ex.aload_n (pc := 181) dX10_goesOn_181 rfl rfl ?_
            refine Ex.iconst (pc := 182) (v := 0) dX10_goesOn_182 rfl ?_
            refine Ex.putI (pc := 183) dX10_goesOn_183 fX10_146 (sh36 _) (Or.inl rfl) ⟨rfl, rfl⟩ ?_
            refine Ex.mm (S' := St N (mf I3 44 0) L3) rfl ?_
            refine Ex.iconst (pc := 186) (v := 1) dX10_goesOn_186 rfl ?_
            refine Ex.iret (pc := 187) rfl rfl rfl dX10_goesOn_187 (Nat.le_refl _) (Nat.le_refl _) ?_
            have q0 := bI_0 c48
            have q1 := bI_0 c57
            have q2 := bI_0 c66
            have q3 := bI_1 c75
            have har : isAr (.ok (t, c)) = true := by unfold isAr; rw [q0, q1, q2, q3]; rfl
            have hop : opA (.ok (t, c)) = 5 := by unfold opA; rw [q0, q1, q2, q3]; rfl
            have hrk : rkA (.ok (t, c)) = 6 := by unfold rkA; rw [q0, q1]; rfl
            have hp : f.ph < 2 := Classical.byContradiction (fun z => c39 (h2.mpr z))
            rw [if_pos (by rw [decide_eq_true hp, har]; rfl), hop, hrk] at hC
            subst hC
            exact ⟨_, _, rfl, true, rfl, g3.tr (UF.rd (uf_m (by decide))), ReG.n (c := c ++ (tk 6 f.ω).map (fun x => (x, 0))) (m3.u (b := b) (uf_m (by decide))) mf_s (f3.nop 0)⟩
          · skip
            refine Ex.aload_n (pc := 78) dX10_goesOn_78 rfl rfl ?_
            refine Ex.bipush (pc := 79) (v := 37) dX10_goesOn_79 rfl ?_
            refine Ex.callV (pc := 81) (As := [.int 37]) (rest := []) dX10_goesOn_81 cX10_244 (tm_sW W.2.2.2.1 (k := 37) (by decide) c) (sh36 _) rfl rfl (by decide) (Nat.le_refl _) (Nat.le_refl _) (Nat.le_of_ble_eq_true rfl) (Or.inl (fun r S' h => by obtain ⟨_, h⟩ := h; subst h; rfl)) (fun r S' hq _ _ => ?_)
            obtain ⟨rfl, rfl⟩ := hq
            refine Ex.if_eq (pc := 84) (tgt := 188) dX10_goesOn_84 (by decide) (fun c84 => ?_) (fun c84 => ?_)
            · skip
              have har : isAr (.ok (t, c)) = false := by unfold isAr; rw [bI_0 c48, bI_0 c57, bI_0 c66, bI_0 c75, bI_0 c84]; rfl
              rw [if_neg (by rw [har, Bool.and_false]; decide)] at hC
              exact tm_g188 W hb hi h44 hC
            · skip
              refine Ex.aload_n (pc := 87) dX10_goesOn_87 rfl rfl ?_
              refine Ex.aload_n (pc := 88) dX10_goesOn_88 rfl rfl ?_
              refine Ex.bipush (pc := 89) (v := 43) dX10_goesOn_89 rfl ?_
              refine Ex.callV (pc := 91) (As := [.int 43]) (rest := [.ref 36]) dX10_goesOn_91 cX10_244 (tm_sW W.2.2.2.1 (k := 43) (by decide) c) (sh36 _) rfl rfl (by decide) (Nat.le_refl _) (Nat.le_refl _) (Nat.le_of_ble_eq_true rfl) (Or.inl (fun r S' h => by obtain ⟨_, h⟩ := h; subst h; rfl)) (fun r S' hq _ _ => ?_)
              obtain ⟨rfl, rfl⟩ := hq
              refine Ex.if_ne (pc := 94) (tgt := 106) dX10_goesOn_94 (by decide) (fun c94 => absurd c48 c94) (fun _ => ?_)
              refine Ex.aload_n (pc := 97) dX10_goesOn_97 rfl rfl ?_
              refine Ex.bipush (pc := 98) (v := 45) dX10_goesOn_98 rfl ?_
              refine Ex.callV (pc := 100) (As := [.int 45]) (rest := [.ref 36]) dX10_goesOn_100 cX10_244 (tm_sW W.2.2.2.1 (k := 45) (by decide) c) (sh36 _) rfl rfl (by decide) (Nat.le_refl _) (Nat.le_refl _) (Nat.le_of_ble_eq_true rfl) (Or.inl (fun r S' h => by obtain ⟨_, h⟩ := h; subst h; rfl)) (fun r S' hq _ _ => ?_)
              obtain ⟨rfl, rfl⟩ := hq
              refine Ex.if_eq (pc := 103) (tgt := 110) dX10_goesOn_103 (by decide) (fun _ => ?_) (fun c103 => absurd c57 c103)
              refine Ex.bipush (pc := 110) (v := 6) dX10_goesOn_110 rfl ?_
              refine Ex.callV (pc := 112) (As := [.int 6]) (rest := []) dX10_goesOn_112 cX10_338 (tm_jnW (m := 6) hb (by decide) W hi) (sh36 _) rfl rfl (by decide) (Nat.le_refl _) (Nat.le_refl _) (Nat.le_of_ble_eq_true rfl) (Or.inl (fun r S' h => by obtain ⟨_, _, h, _⟩ := h; subst h; rfl)) (fun r S' hq _ _ => ?_)
              obtain ⟨I7, L7, rfl, rfl, o7, W7⟩ := hq
              refine Ex.aload_n (pc := 115) dX10_goesOn_115 rfl rfl ?_
              refine Ex.aload_n (pc := 116) dX10_goesOn_116 rfl rfl ?_
              refine Ex.bipush (pc := 117) (v := 43) dX10_goesOn_117 rfl ?_
              refine Ex.callV (pc := 119) (As := [.int 43]) (rest := [.ref 36]) dX10_goesOn_119 cX10_244 (tm_sW W7.2.2.2.1 (k := 43) (by decide) c) (sh36 _) rfl rfl (by decide) (Nat.le_refl _) (Nat.le_refl _) (Nat.le_of_ble_eq_true rfl) (Or.inl (fun r S' h => by obtain ⟨_, h⟩ := h; subst h; rfl)) (fun r S' hq _ _ => ?_)
              obtain ⟨rfl, rfl⟩ := hq
              refine Ex.if_eq (pc := 122) (tgt := 130) dX10_goesOn_122 (by decide) (fun _ => ?_) (fun c122 => absurd c48 c122)
              refine Ex.aload_n (pc := 130) dX10_goesOn_130 rfl rfl ?_
              refine Ex.bipush (pc := 131) (v := 45) dX10_goesOn_131 rfl ?_
              refine Ex.callV (pc := 133) (As := [.int 45]) (rest := [.ref 36]) dX10_goesOn_133 cX10_244 (tm_sW W7.2.2.2.1 (k := 45) (by decide) c) (sh36 _) rfl rfl (by decide) (Nat.le_refl _) (Nat.le_refl _) (Nat.le_of_ble_eq_true rfl) (Or.inl (fun r S' h => by obtain ⟨_, h⟩ := h; subst h; rfl)) (fun r S' hq _ _ => ?_)
              obtain ⟨rfl, rfl⟩ := hq
              refine Ex.if_eq (pc := 136) (tgt := 144) dX10_goesOn_136 (by decide) (fun _ => ?_) (fun c136 => absurd c57 c136)
              refine Ex.aload_n (pc := 144) dX10_goesOn_144 rfl rfl ?_
              refine Ex.bipush (pc := 145) (v := 42) dX10_goesOn_145 rfl ?_
              refine Ex.callV (pc := 147) (As := [.int 42]) (rest := [.ref 36]) dX10_goesOn_147 cX10_244 (tm_sW W7.2.2.2.1 (k := 42) (by decide) c) (sh36 _) rfl rfl (by decide) (Nat.le_refl _) (Nat.le_refl _) (Nat.le_of_ble_eq_true rfl) (Or.inl (fun r S' h => by obtain ⟨_, h⟩ := h; subst h; rfl)) (fun r S' hq _ _ => ?_)
              obtain ⟨rfl, rfl⟩ := hq
              refine Ex.if_eq (pc := 150) (tgt := 158) dX10_goesOn_150 (by decide) (fun _ => ?_) (fun c150 => absurd c66 c150)
              refine Ex.aload_n (pc := 158) dX10_goesOn_158 rfl rfl ?_
              refine Ex.bipush (pc := 159) (v := 47) dX10_goesOn_159 rfl ?_
              refine Ex.callV (pc := 161) (As := [.int 47]) (rest := [.ref 36]) dX10_goesOn_161 cX10_244 (tm_sW W7.2.2.2.1 (k := 47) (by decide) c) (sh36 _) rfl rfl (by decide) (Nat.le_refl _) (Nat.le_refl _) (Nat.le_of_ble_eq_true rfl) (Or.inl (fun r S' h => by obtain ⟨_, h⟩ := h; subst h; rfl)) (fun r S' hq _ _ => ?_)
              obtain ⟨rfl, rfl⟩ := hq
              refine Ex.if_eq (pc := 164) (tgt := 172) dX10_goesOn_164 (by decide) (fun _ => ?_) (fun c164 => absurd c75 c164)
              refine Ex.bipush (pc := 172) (v := 35) dX10_goesOn_172 rfl ?_
              refine Ex.callV (pc := 174) (As := [.int 35]) (rest := []) dX10_goesOn_174 cX10_332 (tm_holds (m := opN ((⟨f.k, f.ph, f.bg, f.pr, dr 6 f.ω⟩ : Fr) :: fs)) (hdl 6) W7.2.2.2.2.2.2.2.1) (sh36 _) rfl rfl (by decide) (Nat.le_refl _) (Nat.le_refl _) (Nat.le_of_ble_eq_true rfl) (Or.inl (fun r S' h => by obtain ⟨_, h⟩ := h; subst h; rfl)) (fun r S' hq _ _ => ?_)
              obtain ⟨rfl, rfl⟩ := hq
              have W8 : Wk tb n b w I L (hbM I7 (opN ((⟨f.k, f.ph, f.bg, f.pr, dr 6 f.ω⟩ : Fr) :: fs)) (nI (sN 6))) L7 (⟨f.k, f.ph, f.bg, f.pr, 6 :: dr 6 f.ω⟩ :: fs) (o - cd14 (tk 6 f.ω)) t (c ++ (tk 6 f.ω).map (fun x => (x, 0))) := W7.u uf_hb (W7.2.2.2.2.push 6)
              refine Ex.mm (S' := St N (hbM I7 (opN ((⟨f.k, f.ph, f.bg, f.pr, dr 6 f.ω⟩ : Fr) :: fs)) (nI (sN 6))) L7) rfl ?_
              refine Ex.aload_n (pc := 177) dX10_goesOn_177 rfl rfl ?_
              refine Ex.callV (pc := 178) (As := []) (rest := []) dX10_goesOn_178 cX10_247 (Wk.nx W8) (sh36 _) rfl rfl (by decide) (Nat.le_refl _) (Nat.le_refl _) (Nat.le_of_ble_eq_true rfl) (Or.inl (fun r S' h => by obtain ⟨_, _, h, _⟩ := h; subst h; rfl)) (fun r S' hq _ _ => ?_)
              obtain ⟨I3, L3, rfl, rfl, g3, m3, z3, f3, k3⟩ := hq
              refine Ex.aload_n (pc := 181) dX10_goesOn_181 rfl rfl ?_
              refine Ex.iconst (pc := 182) (v := 0) dX10_goesOn_182 rfl ?_
              refine Ex.putI (pc := 183) dX10_goesOn_183 fX10_146 (sh36 _) (Or.inl rfl) ⟨rfl, rfl⟩ ?_
              refine Ex.mm (S' := St N (mf I3 44 0) L3) rfl ?_
              refine Ex.iconst (pc := 186) (v := 1) dX10_goesOn_186 rfl ?_
              refine Ex.iret (pc := 187) rfl rfl rfl dX10_goesOn_187 (Nat.le_refl _) (Nat.le_refl _) ?_
              have q0 := bI_0 c48
              have q1 := bI_0 c57
              have q2 := bI_0 c66
              have q3 := bI_0 c75
              have q4 := bI_1 c84
              have har : isAr (.ok (t, c)) = true := by unfold isAr; rw [q0, q1, q2, q3, q4]; rfl
              have hop : opA (.ok (t, c)) = 6 := by unfold opA; rw [q0, q1, q2, q3]; rfl
              have hrk : rkA (.ok (t, c)) = 6 := by unfold rkA; rw [q0, q1]; rfl
              have hp : f.ph < 2 := Classical.byContradiction (fun z => c39 (h2.mpr z))
              rw [if_pos (by rw [decide_eq_true hp, har]; rfl), hop, hrk] at hC
              subst hC
              exact ⟨_, _, rfl, true, rfl, g3.tr (UF.rd (uf_m (by decide))), ReG.n (c := c ++ (tk 6 f.ω).map (fun x => (x, 0))) (m3.u (b := b) (uf_m (by decide))) mf_s (f3.nop 0)⟩
set_option maxRecDepth 20000 in
theorem tm_goesOn {N n b w : Nat} {tb : Nat → Nat} {I : aI} {L : aL} {f : Fr} {fs : List Fr} {o : Nat} {r : Er} (hb : b < 2) (hB : MB tb n I) (h33 : I 36 33 = nI b) (h34 : I 36 34 = nI w) (hM : ReM tb n b I L (f :: fs) o r) (hi : Iv n (true, f :: fs, o, r)) (h44 : ∀ t c, r = .ok (t, c) → I 36 44 = 1) : Run 3 0 0 mX10_goesOn [.ref 36] (St N I L) (RX N (fun x I2 L2 => ∃ v : Bool, x = some (.int (bI v)) ∧ RdF b I L I2 L2 ∧ ReG tb n b I2 L2 (gnF tb n f fs o r) v)) := by
  refine Run.of (ls := [some (.ref 36), none, none, none, none]) (by decide) (Nat.le_of_ble_eq_true rfl) rfl ?_
  have h := hM.1
  refine Ex.aload_n (pc := 0) dX10_goesOn_0 rfl rfl ?_
  refine Ex.callV (pc := 1) (As := []) (rest := []) dX10_goesOn_1 cX10_241 (tm_lexR (tb := tb) hB.2.2 h) (sh36 _) rfl rfl (by decide) (Nat.le_refl _) (Nat.le_refl _) (Nat.le_of_ble_eq_true rfl) (Or.inl (fun r S' h => by obtain ⟨_, _, h, _⟩ := h; subst h; rfl)) (fun r S' hq _ _ => ?_)
  obtain ⟨I1, L1, rfl, rfl, g1, m1⟩ := hq
  have b1 := hB.g g1
  refine Ex.aload_n (pc := 4) dX10_goesOn_4 rfl rfl ?_
  refine Ex.getI (pc := 5) dX10_goesOn_5 fX10_36 (sh36 _) ?_
  refine Ex.if_le (pc := 8) (tgt := 13) dX10_goesOn_8 (by decide) (fun c8 => ?_) (fun c8 => ?_)
  · skip
    obtain ⟨t, c, hr⟩ : ∃ t c, r = .ok (t, c) := by
      cases hr : r with
      | error e => rw [hr] at m1; exact absurd (Int32.le_antisymm c8 (Int32.not_lt.mp m1.t.n8)) m1.bad
      | ok q => exact ⟨q.1, q.2, rfl⟩
    subst hr
    have m1 : RMo tb n I1 L1 t := m1
    have W : Wk tb n b w I L I1 L1 (f :: fs) o t c := ⟨g1.rd, b1, ⟨by rw [g1.2.1 33 (by decide)]; exact h33, by rw [g1.2.1 34 (by decide)]; exact h34⟩, m1, (hM.2 t c rfl).g g1⟩
    have hiv := hi t c rfl
    obtain ⟨v1, v2, v3, v4⟩ := hiv.bd (by simp)
    have hF : FsK (f :: fs) := hiv.2.2.1
    have hk6 := hF.1.2.2.2.2.1
    have v1 : fs.length + 1 ≤ 8 := v1
    have hd1 : I1 36 40 - 1 = nI fs.length := by
      rw [W.2.2.2.2.2.1, show (1 : Int32) = nI 1 from rfl]; exact pk_sub (a := fs.length + 1) (by omega)
    refine Ex.aload_n (pc := 13) dX10_goesOn_13 rfl rfl ?_
    refine Ex.getI (pc := 14) dX10_goesOn_14 fX10_134 (sh36 _) ?_
    refine Ex.iconst (pc := 17) (v := 1) dX10_goesOn_17 rfl ?_
    refine Ex.isub (pc := 18) dX10_goesOn_18 ?_
    refine Ex.istore_n (pc := 19) (ls' := [some (.ref 36), some (.int _), none, none, none]) dX10_goesOn_19 rfl (by decide) rfl rfl ?_
    rw [hd1]
    refine Ex.aload_n (pc := 20) dX10_goesOn_20 rfl rfl ?_
    refine Ex.getR (pc := 21) dX10_goesOn_21 fX10_118 (sh36 _) r36_35 ?_
    refine Ex.iload_n (pc := 24) dX10_goesOn_24 rfl rfl ?_
    refine Ex.iald (pc := 25) (j := fs.length) dX10_goesOn_25 (sh56 _) (vp_in_nI (by omega) (by decide)) (nI_clamp (by omega)) ?_
    rw [W.2.2.2.2.2.2.2.2.1]
    refine Ex.istore_n (pc := 26) (ls' := [some (.ref 36), some (.int _), some (.int _), none, none]) dX10_goesOn_26 rfl (by decide) rfl rfl ?_
    refine Ex.iload_n (pc := 27) dX10_goesOn_27 rfl rfl ?_
    refine Ex.callS (pc := 28) (As := [.int _]) (rest := []) dX10_goesOn_28 cX10_325 (tm_tW rfl hk6) rfl rfl (by decide) (Nat.le_refl _) (Nat.le_refl _) (Nat.le_of_ble_eq_true rfl) (Or.inl (fun r S' h => by obtain ⟨_, h⟩ := h; subst h; rfl)) (fun r S' hq _ _ => ?_)
    obtain ⟨rfl, rfl⟩ := hq
    refine Ex.istore_n (pc := 31) (ls' := [some (.ref 36), some (.int _), some (.int _), some (.int _), none]) dX10_goesOn_31 rfl (by decide) rfl rfl ?_
    exact tm_g32 W hb hiv (by rw [g1.2.1 44 (by decide)]; exact h44 t c rfl) rfl
  · skip
    refine Ex.iconst (pc := 11) (v := 0) dX10_goesOn_11 rfl ?_
    refine Ex.iret (pc := 12) rfl rfl rfl dX10_goesOn_12 (Nat.le_refl _) (Nat.le_refl _) ?_
    obtain ⟨e, hr⟩ : ∃ e, r = .error e := by
      cases hr : r with
      | error e => exact ⟨e, rfl⟩
      | ok q => rw [hr] at m1; obtain ⟨t, c⟩ := q; exact absurd (show I1 36 8 ≤ 0 by rw [(show RMo tb n I1 L1 t from m1).1]; decide) c8
    subst hr
    obtain ⟨b', fs', o', q⟩ := gnF_e (tb := tb) (n := n) f fs o e
    exact ⟨_, _, rfl, false, rfl, g1.rd, ReG.e (r := .error e) (by rw [q]) ⟨e, rfl⟩ m1⟩
