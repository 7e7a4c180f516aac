set_option maxRecDepth 20000 in
theorem tm_o187 {N n b w : Nat} {tb : Nat → Nat} {I J : aI} {L M : aL} {f : Fr} {fs : List Fr} {o : Nat} {t : Tk} {c : Cd} {C : Cf} {x1 x2 : Int32} (W : Wk tb n b w I L J M (f :: fs) o t c) (hb : b < 2) (hw : w < 5) (hc : t.1 ≠ 1 → c.length < 1600) (ho : o ≤ 7) (hd : fs.length < 19) (hC : C = (if (isW 25 (.ok (t, c)) || (isW 26 (.ok (t, c)) || isW 20 (.ok (t, c)))) = true then (if isS 40 (nx tb n (.ok (t, c))) = true then opnF tb n (if isW 25 (.ok (t, c)) = true then 3 else if isW 26 (.ok (t, c)) = true then 3 else 6) (if isW 25 (.ok (t, c)) = true then 7 else if isW 26 (.ok (t, c)) = true then 8 else 15) (f :: fs) o (nx tb n (.ok (t, c))) else (false, f :: fs, o, stp 1 (nx tb n (.ok (t, c))))) else (if isK 3 (.ok (t, c) : Er) = true then (true, f :: fs, o, nx tb n (adS (0, numR (.ok (t, c))) (.ok (t, c)))) else if isNm (9 + w) (.ok (t, c)) = true then (true, f :: fs, o, nx tb n (adS (1, ownR (.ok (t, c))) (.ok (t, c)))) else (true, f :: fs, o, stp 1 (.ok (t, c))) : Cf) : Cf)) : Ex 3 0 0 mX10_operand 0 0 187 [some (.ref 36), some (.int x1), some (.int x2), none] [] (St N J M) (RX N (fun x I2 L2 => ∃ v : Bool, x = some (.int (bI v)) ∧ RdF b I L I2 L2 ∧ ReC tb n b I2 L2 C v)) := by
  have ff : ¬ (false = true) := by decide
  refine Ex.aload_n (pc := 187) dX10_operand_187 rfl rfl ?_
  refine Ex.ldc2 (pc := 188) dX10_operand_188 kv_X10_300 ?_
  refine Ex.callV (pc := 191) (As := [.long _]) (rest := []) dX10_operand_191 cX10_328 (tm_wW W.2.2.2.1 (k := 25) (by decide) (by decide) c) (sh36 _) rfl rfl (by decide) (Nat.le_refl _) (Nat.le_refl _) (Nat.le_of_ble_eq_true rfl) (Or.inl (fun r S' h => by obtain ⟨_, h⟩ := h; subst h; rfl)) (fun r S' hq _ _ => ?_)
  obtain ⟨rfl, rfl⟩ := hq
  refine Ex.if_ne (pc := 194) (tgt := 217) dX10_operand_194 (by decide) (fun c194 => ?_) (fun c194 => ?_)
  · skip
    refine Ex.aload_n (pc := 217) dX10_operand_217 rfl rfl ?_
    refine Ex.ldc2 (pc := 218) dX10_operand_218 kv_X10_300 ?_
    refine Ex.callV (pc := 221) (As := [.long _]) (rest := []) dX10_operand_221 cX10_328 (tm_wW W.2.2.2.1 (k := 25) (by decide) (by decide) c) (sh36 _) rfl rfl (by decide) (Nat.le_refl _) (Nat.le_refl _) (Nat.le_of_ble_eq_true rfl) (Or.inl (fun r S' h => by obtain ⟨_, h⟩ := h; subst h; rfl)) (fun r S' hq _ _ => ?_)
    obtain ⟨rfl, rfl⟩ := hq
    refine Ex.if_eq (pc := 224) (tgt := 232) dX10_operand_224 (by decide) (fun c224 => absurd c224 c194) (fun _ => ?_)
    refine Ex.bipush (pc := 227) (v := 36) dX10_operand_227 rfl ?_
    refine Ex.goto (pc := 229) (tgt := 249) dX10_operand_229 (by decide) ?_
    refine Ex.istore_n (pc := 249) (ls' := [some (.ref 36), some (.int _), some (.int _), some (.int 36)]) dX10_operand_249 rfl (by decide) rfl rfl ?_
    have h1 := bI_1 c194
    rw [h1, Bool.true_or, if_pos rfl, if_pos rfl, if_pos rfl] at hC
    exact tm_o250 (p := 7) W hb hw hc ho hd (by decide) hC
  · skip
    refine Ex.aload_n (pc := 197) dX10_operand_197 rfl rfl ?_
    refine Ex.ldc2 (pc := 198) dX10_operand_198 kv_X10_302 ?_
    refine Ex.callV (pc := 201) (As := [.long _]) (rest := []) dX10_operand_201 cX10_328 (tm_wW W.2.2.2.1 (k := 26) (by decide) (by decide) c) (sh36 _) rfl rfl (by decide) (Nat.le_refl _) (Nat.le_refl _) (Nat.le_of_ble_eq_true rfl) (Or.inl (fun r S' h => by obtain ⟨_, h⟩ := h; subst h; rfl)) (fun r S' hq _ _ => ?_)
    obtain ⟨rfl, rfl⟩ := hq
    refine Ex.if_ne (pc := 204) (tgt := 217) dX10_operand_204 (by decide) (fun c204 => ?_) (fun c204 => ?_)
    · skip
      refine Ex.aload_n (pc := 217) dX10_operand_217 rfl rfl ?_
      refine Ex.ldc2 (pc := 218) dX10_operand_218 kv_X10_300 ?_
      refine Ex.callV (pc := 221) (As := [.long _]) (rest := []) dX10_operand_221 cX10_328 (tm_wW W.2.2.2.1 (k := 25) (by decide) (by decide) c) (sh36 _) rfl rfl (by decide) (Nat.le_refl _) (Nat.le_refl _) (Nat.le_of_ble_eq_true rfl) (Or.inl (fun r S' h => by obtain ⟨_, h⟩ := h; subst h; rfl)) (fun r S' hq _ _ => ?_)
      obtain ⟨rfl, rfl⟩ := hq
      refine Ex.if_eq (pc := 224) (tgt := 232) dX10_operand_224 (by decide) (fun _ => ?_) (fun c224 => absurd c194 c224)
      refine Ex.aload_n (pc := 232) dX10_operand_232 rfl rfl ?_
      refine Ex.ldc2 (pc := 233) dX10_operand_233 kv_X10_302 ?_
      refine Ex.callV (pc := 236) (As := [.long _]) (rest := []) dX10_operand_236 cX10_328 (tm_wW W.2.2.2.1 (k := 26) (by decide) (by decide) c) (sh36 _) rfl rfl (by decide) (Nat.le_refl _) (Nat.le_refl _) (Nat.le_of_ble_eq_true rfl) (Or.inl (fun r S' h => by obtain ⟨_, h⟩ := h; subst h; rfl)) (fun r S' hq _ _ => ?_)
      obtain ⟨rfl, rfl⟩ := hq
      refine Ex.if_eq (pc := 239) (tgt := 247) dX10_operand_239 (by decide) (fun c239 => absurd c239 c204) (fun _ => ?_)
      refine Ex.bipush (pc := 242) (v := 37) dX10_operand_242 rfl ?_
      refine Ex.goto (pc := 244) (tgt := 249) dX10_operand_244 (by decide) ?_
      refine Ex.istore_n (pc := 249) (ls' := [some (.ref 36), some (.int _), some (.int _), some (.int 37)]) dX10_operand_249 rfl (by decide) rfl rfl ?_
      have h0 := bI_0 c194
      have h1 := bI_1 c204
      rw [h0, h1, Bool.false_or, Bool.true_or, if_pos rfl, if_neg ff, if_pos rfl, if_neg ff, if_pos rfl] at hC
      exact tm_o250 (p := 8) W hb hw hc ho hd (by decide) hC
    · skip
      refine Ex.aload_n (pc := 207) dX10_operand_207 rfl rfl ?_
      refine Ex.ldc2 (pc := 208) dX10_operand_208 kv_X10_290 ?_
      refine Ex.callV (pc := 211) (As := [.long _]) (rest := []) dX10_operand_211 cX10_328 (tm_wW W.2.2.2.1 (k := 20) (by decide) (by decide) c) (sh36 _) rfl rfl (by decide) (Nat.le_refl _) (Nat.le_refl _) (Nat.le_of_ble_eq_true rfl) (Or.inl (fun r S' h => by obtain ⟨_, h⟩ := h; subst h; rfl)) (fun r S' hq _ _ => ?_)
      obtain ⟨rfl, rfl⟩ := hq
      refine Ex.if_eq (pc := 214) (tgt := 313) dX10_operand_214 (by decide) (fun c214 => ?_) (fun c214 => ?_)
      · skip
        rw [if_neg (by rw [bI_0 c194, bI_0 c204, bI_0 c214]; decide)] at hC
        exact tm_o313 W hb hw hc hC
      · skip
        refine Ex.aload_n (pc := 217) dX10_operand_217 rfl rfl ?_
        refine Ex.ldc2 (pc := 218) dX10_operand_218 kv_X10_300 ?_
        refine Ex.callV (pc := 221) (As := [.long _]) (rest := []) dX10_operand_221 cX10_328 (tm_wW W.2.2.2.1 (k := 25) (by decide) (by decide) c) (sh36 _) rfl rfl (by decide) (Nat.le_refl _) (Nat.le_refl _) (Nat.le_of_ble_eq_true rfl) (Or.inl (fun r S' h => by obtain ⟨_, h⟩ := h; subst h; rfl)) (fun r S' hq _ _ => ?_)
        obtain ⟨rfl, rfl⟩ := hq
        refine Ex.if_eq (pc := 224) (tgt := 232) dX10_operand_224 (by decide) (fun _ => ?_) (fun c224 => absurd c194 c224)
        refine Ex.aload_n (pc := 232) dX10_operand_232 rfl rfl ?_
        refine Ex.ldc2 (pc := 233) dX10_operand_233 kv_X10_302 ?_
        refine Ex.callV (pc := 236) (As := [.long _]) (rest := []) dX10_operand_236 cX10_328 (tm_wW W.2.2.2.1 (k := 26) (by decide) (by decide) c) (sh36 _) rfl rfl (by decide) (Nat.le_refl _) (Nat.le_refl _) (Nat.le_of_ble_eq_true rfl) (Or.inl (fun r S' h => by obtain ⟨_, h⟩ := h; subst h; rfl)) (fun r S' hq _ _ => ?_)
        obtain ⟨rfl, rfl⟩ := hq
        refine Ex.if_eq (pc := 239) (tgt := 247) dX10_operand_239 (by decide) (fun _ => ?_) (fun c239 => absurd c204 c239)
        refine Ex.bipush (pc := 247) (v := 44) dX10_operand_247 rfl ?_
        refine Ex.istore_n (pc := 249) (ls' := [some (.ref 36), some (.int _), some (.int _), some (.int 44)]) dX10_operand_249 rfl (by decide) rfl rfl ?_
        have h0 := bI_0 c194
        have h1 := bI_0 c204
        have h2 := bI_1 c214
        rw [h0, h1, h2, Bool.false_or, Bool.false_or, if_pos rfl, if_neg ff, if_neg ff, if_neg ff, if_neg ff] at hC
        exact tm_o250 (p := 15) W hb hw hc ho hd (by decide) hC
set_option maxRecDepth 20000 in
theorem tm_o171 {N n b w : Nat} {tb : Nat → Nat} {I J : aI} {L M : aL} {f : Fr} {fs : List Fr} {o : Nat} {t : Tk} {c : Cd} {C : Cf} {x1 x2 : Int32} (W : Wk tb n b w I L J M (f :: fs) o t c) (hb : b < 2) (hw : w < 5) (hc : t.1 ≠ 1 → c.length < 1600) (ho : o ≤ 7) (hd : fs.length < 19) (hC : C = (if isS 40 (.ok (t, c)) = true then opnF tb n 2 0 (f :: fs) o (.ok (t, c)) else (if (isW 25 (.ok (t, c)) || (isW 26 (.ok (t, c)) || isW 20 (.ok (t, c)))) = true then (if isS 40 (nx tb n (.ok (t, c))) = true then opnF tb n (if isW 25 (.ok (t, c)) = true then 3 else if isW 26 (.ok (t, c)) = true then 3 else 6) (if isW 25 (.ok (t, c)) = true then 7 else if isW 26 (.ok (t, c)) = true then 8 else 15) (f :: fs) o (nx tb n (.ok (t, c))) else (false, f :: fs, o, stp 1 (nx tb n (.ok (t, c))))) else (if isK 3 (.ok (t, c) : Er) = true then (true, f :: fs, o, nx tb n (adS (0, numR (.ok (t, c))) (.ok (t, c)))) else if isNm (9 + w) (.ok (t, c)) = true then (true, f :: fs, o, nx tb n (adS (1, ownR (.ok (t, c))) (.ok (t, c)))) else (true, f :: fs, o, stp 1 (.ok (t, c))) : Cf) : Cf) : Cf)) : Ex 3 0 0 mX10_operand 0 0 171 [some (.ref 36), some (.int x1), some (.int x2), none] [] (St N J M) (RX N (fun x I2 L2 => ∃ v : Bool, x = some (.int (bI v)) ∧ RdF b I L I2 L2 ∧ ReC tb n b I2 L2 C v)) := by
  refine Ex.aload_n (pc := 171) dX10_operand_171 rfl rfl ?_
  refine Ex.bipush (pc := 172) (v := 40) dX10_operand_172 rfl ?_
  refine Ex.callV (pc := 174) (As := [.int 40]) (rest := []) dX10_operand_174 cX10_244 (tm_sW W.2.2.2.1 (k := 40) (by decide) c) (sh36 _) rfl rfl (by decide) (Nat.le_refl _) (Nat.le_refl _) (Nat.le_of_ble_eq_true rfl) (Or.inl (fun r S' h => by obtain ⟨_, h⟩ := h; subst h; rfl)) (fun r S' hq _ _ => ?_)
  obtain ⟨rfl, rfl⟩ := hq
  refine Ex.if_eq (pc := 177) (tgt := 187) dX10_operand_177 (by decide) (fun c177 => ?_) (fun c177 => ?_)
  · skip
    rw [if_neg (by rw [bI_0 c177]; decide)] at hC
    exact tm_o187 W hb hw hc ho hd hC
  · skip
    refine Ex.aload_n (pc := 180) dX10_operand_180 rfl rfl ?_
    refine Ex.iconst (pc := 181) (v := 2) dX10_operand_181 rfl ?_
    refine Ex.callV (pc := 182) (As := [.int 2]) (rest := []) dX10_operand_182 cX10_335 (tm_opnO (k := 2) W ho (by show fs.length + 1 < 20; omega)) (sh36 _) rfl rfl (by decide) (Nat.le_refl _) (Nat.le_refl _) (Nat.le_of_ble_eq_true rfl) (Or.inl (fun r S' h => by obtain ⟨_, _, h, _⟩ := h; subst h; rfl)) (fun r S' hq _ _ => ?_)
    obtain ⟨I6, L6, rfl, rfl, g6, m6⟩ := hq
    rw [if_pos (bI_1 c177)] at hC
    unfold opnF at hC
    rcases m6 with ⟨h7, m6⟩ | ⟨h7, m6, z6, K, fK, eK⟩
    · skip
      refine Ex.iconst (pc := 185) (v := 0) dX10_operand_185 rfl ?_
      refine Ex.iret (pc := 186) rfl rfl rfl dX10_operand_186 (Nat.le_refl _) (Nat.le_refl _) ?_
      rw [if_pos h7] at hC
      exact ⟨_, _, rfl, false, rfl, g6, ReC.e (r := stp 5 (.ok (t, c))) (by rw [hC]) (stp_r _) m6.t⟩
    · skip
      refine Ex.iconst (pc := 185) (v := 0) dX10_operand_185 rfl ?_
      refine Ex.iret (pc := 186) rfl rfl rfl dX10_operand_186 (Nat.le_refl _) (Nat.le_refl _) ?_
      rw [if_neg (by omega)] at hC
      subst hC
      refine ⟨_, _, rfl, false, rfl, g6, m6, fun t3 c3 q => ⟨rfl, ?_⟩⟩
      rw [nx_c q]
      refine FrM.pu fK (fun a ha => by rw [eK]) (fun j hj => ?_) (fun z => absurd z (by decide))
      rw [eK]; unfold puM; rw [mf_o (by decide), va_up_n (by decide), va_up_n (by decide), va_up_n (by decide), va_up_n (by decide)]
set_option maxRecDepth 20000 in
theorem tm_o110 {N n b w : Nat} {tb : Nat → Nat} {I J : aI} {L M : aL} {f : Fr} {fs : List Fr} {o : Nat} {t : Tk} {c : Cd} {C : Cf} {fi : Bool} (W : Wk tb n b w I L J M (f :: fs) o t c) (hb : b < 2) (hw : w < 5) (hc : t.1 ≠ 1 → c.length < 1600) (ho : o ≤ 7) (hd : fs.length < 19) (hC : C = (if (fi && isS 91 (.ok (t, c))) = true then opnF tb n 5 0 (⟨f.k, f.ph, false, f.pr, f.ω⟩ :: fs) o (.ok (t, c)) else if (fi && isW 24 (.ok (t, c))) = true then (true, (⟨f.k, 2, false, f.pr, f.ω⟩ : Fr) :: fs, o, nx tb n (adS (0, 1) (.ok (t, c)))) else (if isS 40 (.ok (t, c)) = true then opnF tb n 2 0 (⟨f.k, f.ph, false, f.pr, f.ω⟩ :: fs) o (.ok (t, c)) else (if (isW 25 (.ok (t, c)) || (isW 26 (.ok (t, c)) || isW 20 (.ok (t, c)))) = true then (if isS 40 (nx tb n (.ok (t, c))) = true then opnF tb n (if isW 25 (.ok (t, c)) = true then 3 else if isW 26 (.ok (t, c)) = true then 3 else 6) (if isW 25 (.ok (t, c)) = true then 7 else if isW 26 (.ok (t, c)) = true then 8 else 15) (⟨f.k, f.ph, false, f.pr, f.ω⟩ :: fs) o (nx tb n (.ok (t, c))) else (false, ⟨f.k, f.ph, false, f.pr, f.ω⟩ :: fs, o, stp 1 (nx tb n (.ok (t, c))))) else (if isK 3 (.ok (t, c) : Er) = true then (true, ⟨f.k, f.ph, false, f.pr, f.ω⟩ :: fs, o, nx tb n (adS (0, numR (.ok (t, c))) (.ok (t, c)))) else if isNm (9 + w) (.ok (t, c)) = true then (true, ⟨f.k, f.ph, false, f.pr, f.ω⟩ :: fs, o, nx tb n (adS (1, ownR (.ok (t, c))) (.ok (t, c)))) else (true, ⟨f.k, f.ph, false, f.pr, f.ω⟩ :: fs, o, stp 1 (.ok (t, c))) : Cf) : Cf) : Cf))) : Ex 3 0 0 mX10_operand 0 0 110 [some (.ref 36), some (.int (nI fs.length)), some (.int (bI fi)), none] [] (St N J M) (RX N (fun x I2 L2 => ∃ v : Bool, x = some (.int (bI v)) ∧ RdF b I L I2 L2 ∧ ReC tb n b I2 L2 C v)) := by
  refine Ex.aload_n (pc := 110) dX10_operand_110 rfl rfl ?_
  refine Ex.getR (pc := 111) dX10_operand_111 fX10_124 (sh36 _) r36_37 ?_
  refine Ex.iload_n (pc := 114) dX10_operand_114 rfl rfl ?_
  refine Ex.iconst (pc := 115) (v := 0) dX10_operand_115 rfl ?_
  refine Ex.zast (pc := 116) (j := fs.length) dX10_operand_116 (sh58 _) (vp_in_nI (by omega) (by decide)) (nI_clamp (by omega)) ?_
  refine Ex.mm (S' := St N (va_up J 58 (upd (J 58) fs.length (bI false))) M) rfl ?_
  have W2 : Wk tb n b w I L (va_up J 58 (upd (J 58) fs.length (bI false))) M (⟨f.k, f.ph, false, f.pr, f.ω⟩ :: fs) o t c := W.u (uf_a (by decide)) (W.2.2.2.2.bg false)
  generalize va_up J 58 (upd (J 58) fs.length (bI false)) = J2 at W2 ⊢
  refine Ex.iload_n (pc := 117) dX10_operand_117 rfl rfl ?_
  refine Ex.if_eq (pc := 118) (tgt := 137) dX10_operand_118 (by decide) (fun c118 => ?_) (fun c118 => ?_)
  · skip
    refine Ex.iload_n (pc := 137) dX10_operand_137 rfl rfl ?_
    refine Ex.if_eq (pc := 138) (tgt := 171) dX10_operand_138 (by decide) (fun _ => ?_) (fun c138 => absurd c118 c138)
    have h0 := bI_0 c118
    rw [h0, Bool.false_and, Bool.false_and, if_neg (by decide), if_neg (by decide)] at hC
    exact tm_o171 (f := (⟨f.k, f.ph, false, f.pr, f.ω⟩ : Fr)) W2 hb hw hc ho hd hC
  · skip
    refine Ex.aload_n (pc := 121) dX10_operand_121 rfl rfl ?_
    refine Ex.bipush (pc := 122) (v := 91) dX10_operand_122 rfl ?_
    refine Ex.callV (pc := 124) (As := [.int 91]) (rest := []) dX10_operand_124 cX10_244 (tm_sW W2.2.2.2.1 (k := 91) (by decide) c) (sh36 _) rfl rfl (by decide) (Nat.le_refl _) (Nat.le_refl _) (Nat.le_of_ble_eq_true rfl) (Or.inl (fun r S' h => by obtain ⟨_, h⟩ := h; subst h; rfl)) (fun r S' hq _ _ => ?_)
    obtain ⟨rfl, rfl⟩ := hq
    refine Ex.if_eq (pc := 127) (tgt := 137) dX10_operand_127 (by decide) (fun c127 => ?_) (fun c127 => ?_)
    · skip
      refine Ex.iload_n (pc := 137) dX10_operand_137 rfl rfl ?_
      refine Ex.if_eq (pc := 138) (tgt := 171) dX10_operand_138 (by decide) (fun c138 => absurd c138 c118) (fun _ => ?_)
      refine Ex.aload_n (pc := 141) dX10_operand_141 rfl rfl ?_
      refine Ex.ldc2 (pc := 142) dX10_operand_142 kv_X10_298 ?_
      refine Ex.callV (pc := 145) (As := [.long _]) (rest := []) dX10_operand_145 cX10_328 (tm_wW W2.2.2.2.1 (k := 24) (by decide) (by decide) c) (sh36 _) rfl rfl (by decide) (Nat.le_refl _) (Nat.le_refl _) (Nat.le_of_ble_eq_true rfl) (Or.inl (fun r S' h => by obtain ⟨_, h⟩ := h; subst h; rfl)) (fun r S' hq _ _ => ?_)
      obtain ⟨rfl, rfl⟩ := hq
      refine Ex.if_eq (pc := 148) (tgt := 171) dX10_operand_148 (by decide) (fun c148 => ?_) (fun c148 => ?_)
      · skip
        have h1 := bI_0 c127
        have h2 := bI_0 c148
        rw [h1, h2, Bool.and_false, if_neg (by decide), if_neg (by decide)] at hC
        exact tm_o171 (f := (⟨f.k, f.ph, false, f.pr, f.ω⟩ : Fr)) W2 hb hw hc ho hd hC
      · skip
        have h2k : t.1 = 2 := (of_decide_eq_true (bI_1 c148)).1
        have hc1 := hc (by omega)
        refine Ex.aload_n (pc := 151) dX10_operand_151 rfl rfl ?_
        refine Ex.bipush (pc := 152) (v := 30) dX10_operand_152 rfl ?_
        refine Ex.iconst (pc := 154) (v := 0) dX10_operand_154 rfl ?_
        refine Ex.callV (pc := 155) (As := [.int 30, .int 0]) (rest := []) dX10_operand_155 cX10_319 (tm_add (c := c.length) hb hc1 W2.2.2.1.1 W2.2.2.2.2.1.1) (sh36 _) rfl rfl (by decide) (Nat.le_refl _) (Nat.le_refl _) (Nat.le_of_ble_eq_true rfl) (Or.inl (fun r S' h => by obtain ⟨_, h⟩ := h; subst h; rfl)) (fun r S' hq _ _ => ?_)
        obtain ⟨rfl, rfl⟩ := hq
        have W3 : Wk tb n b w I L (adM2 J2 b c.length 30 0) M (⟨f.k, f.ph, false, f.pr, f.ω⟩ :: fs) o t (c ++ [(0, 1)]) := W2.u (uf_ad hc1) (W2.2.2.2.2.add (s := (0, 1)) (Or.inr (Or.inl ⟨rfl, rfl, rfl⟩)))
        generalize adM2 J2 b c.length 30 0 = J3 at W3 ⊢
        refine Ex.aload_n (pc := 158) dX10_operand_158 rfl rfl ?_
        refine Ex.getR (pc := 159) dX10_operand_159 fX10_121 (sh36 _) r36_36 ?_
        refine Ex.iload_n (pc := 162) dX10_operand_162 rfl rfl ?_
        refine Ex.iconst (pc := 163) (v := 2) dX10_operand_163 rfl ?_
        refine Ex.iast (pc := 164) (j := fs.length) dX10_operand_164 (sh57 _) (vp_in_nI (by omega) (by decide)) (nI_clamp (by omega)) ?_
        refine Ex.mm (S' := St N (va_up J3 57 (upd (J3 57) fs.length (nI 2))) M) rfl ?_
        have W4 : Wk tb n b w I L (va_up J3 57 (upd (J3 57) fs.length (nI 2))) M (⟨f.k, 2, false, f.pr, f.ω⟩ :: fs) o t (c ++ [(0, 1)]) := W3.u (uf_a (by decide)) (W3.2.2.2.2.ph 2)
        refine Ex.aload_n (pc := 165) dX10_operand_165 rfl rfl ?_
        refine Ex.callV (pc := 166) (As := []) (rest := []) dX10_operand_166 cX10_247 (Wk.nx W4) (sh36 _) rfl rfl (by decide) (Nat.le_refl _) (Nat.le_refl _) (Nat.le_of_ble_eq_true rfl) (Or.inl (fun r S' h => by obtain ⟨_, _, h, _⟩ := h; subst h; rfl)) (fun r S' hq _ _ => ?_)
        obtain ⟨I3, L3, rfl, rfl, g3, m3, z3, f3, k3⟩ := hq
        refine Ex.iconst (pc := 169) (v := 1) dX10_operand_169 rfl ?_
        refine Ex.iret (pc := 170) rfl rfl rfl dX10_operand_170 (Nat.le_refl _) (Nat.le_refl _) ?_
        have h0 := bI_1 c118
        have h1 := bI_0 c127
        have h2 := bI_1 c148
        rw [h0, h1, h2, Bool.true_and, if_neg (by decide), Bool.true_and, if_pos rfl] at hC
        subst hC
        exact ⟨_, _, rfl, true, rfl, g3, ReC.n m3 f3⟩
    · skip
      refine Ex.aload_n (pc := 130) dX10_operand_130 rfl rfl ?_
      refine Ex.iconst (pc := 131) (v := 5) dX10_operand_131 rfl ?_
      refine Ex.callV (pc := 132) (As := [.int 5]) (rest := []) dX10_operand_132 cX10_335 (tm_opnO (k := 5) W2 ho (by show fs.length + 1 < 20; omega)) (sh36 _) rfl rfl (by decide) (Nat.le_refl _) (Nat.le_refl _) (Nat.le_of_ble_eq_true rfl) (Or.inl (fun r S' h => by obtain ⟨_, _, h, _⟩ := h; subst h; rfl)) (fun r S' hq _ _ => ?_)
      obtain ⟨I6, L6, rfl, rfl, g6, m6⟩ := hq
      have h0 := bI_1 c118
      have h1 := bI_1 c127
      rw [h0, h1, Bool.true_and, if_pos rfl] at hC
      unfold opnF at hC
      rcases m6 with ⟨h7, m6⟩ | ⟨h7, m6, z6, K, fK, eK⟩
      · skip
        refine Ex.iconst (pc := 135) (v := 0) dX10_operand_135 rfl ?_
        refine Ex.iret (pc := 136) rfl rfl rfl dX10_operand_136 (Nat.le_refl _) (Nat.le_refl _) ?_
        rw [if_pos h7] at hC
        exact ⟨_, _, rfl, false, rfl, g6, ReC.e (r := stp 5 (.ok (t, c))) (by rw [hC]) (stp_r _) m6.t⟩
      · skip
        refine Ex.iconst (pc := 135) (v := 0) dX10_operand_135 rfl ?_
        refine Ex.iret (pc := 136) rfl rfl rfl dX10_operand_136 (Nat.le_refl _) (Nat.le_refl _) ?_
        rw [if_neg (by omega)] at hC
        subst hC
        refine ⟨_, _, rfl, false, rfl, g6, m6, fun t3 c3 q => ⟨rfl, ?_⟩⟩
        rw [nx_c q]
        refine FrM.pu fK (fun a ha => by rw [eK]) (fun j hj => ?_) (fun z => absurd z (by decide))
        rw [eK]; unfold puM; rw [mf_o (by decide), va_up_n (by decide), va_up_n (by decide), va_up_n (by decide), va_up_n (by decide)]
set_option maxRecDepth 20000 in
theorem tm_o47 {N n b w : Nat} {tb : Nat → Nat} {I J : aI} {L M : aL} {f : Fr} {fs : List Fr} {o : Nat} {t : Tk} {c : Cd} {C : Cf} {fi : Bool} (W : Wk tb n b w I L J M (f :: fs) o t c) (hb : b < 2) (hw : w < 5) (hc : t.1 ≠ 1 → c.length < 1600) (ho : o ≤ 7) (hd : fs.length < 19) (ho2 : opN (f :: fs) < 500) (hfi : fi = (tst f.k && f.bg)) (hC : C = opF tb n (9 + w) f fs o (.ok (t, c))) : Ex 3 0 0 mX10_operand 0 0 47 [some (.ref 36), some (.int (nI fs.length)), some (.int (bI fi)), none] [] (St N J M) (RX N (fun x I2 L2 => ∃ v : Bool, x = some (.int (bI v)) ∧ RdF b I L I2 L2 ∧ ReC tb n b I2 L2 C v)) := by
  unfold opF at hC
  rw [← hfi] at hC
  have h41 := W.2.2.2.2.2.2.1
  have m0 : RMs tb n J M (.ok (t, c)) := W.2.2.2.1
  refine Ex.iload_n (pc := 47) dX10_operand_47 rfl rfl ?_
  refine Ex.if_eq (pc := 48) (tgt := 110) dX10_operand_48 (by decide) (fun c48 => ?_) (fun c48 => ?_)
  · skip
    rw [if_neg (by rw [bI_0 c48, Bool.false_and]; decide)] at hC
    exact tm_o110 W hb hw hc ho hd hC
  · skip
    refine Ex.aload_n (pc := 51) dX10_operand_51 rfl rfl ?_
    refine Ex.ldc2 (pc := 52) dX10_operand_52 kv_X10_296 ?_
    refine Ex.callV (pc := 55) (As := [.long _]) (rest := []) dX10_operand_55 cX10_328 (tm_wW W.2.2.2.1 (k := 23) (by decide) (by decide) c) (sh36 _) rfl rfl (by decide) (Nat.le_refl _) (Nat.le_refl _) (Nat.le_of_ble_eq_true rfl) (Or.inl (fun r S' h => by obtain ⟨_, h⟩ := h; subst h; rfl)) (fun r S' hq _ _ => ?_)
    obtain ⟨rfl, rfl⟩ := hq
    refine Ex.if_eq (pc := 58) (tgt := 110) dX10_operand_58 (by decide) (fun c58 => ?_) (fun c58 => ?_)
    · skip
      rw [if_neg (by rw [bI_0 c58, Bool.and_false]; decide)] at hC
      exact tm_o110 W hb hw hc ho hd hC
    · skip
      refine Ex.aload_n (pc := 61) dX10_operand_61 rfl rfl ?_
      refine Ex.getI (pc := 62) dX10_operand_62 fX10_137 (sh36 _) ?_
      refine Ex.bipush (pc := 65) (v := 7) dX10_operand_65 rfl ?_
      refine Ex.icmp_ne (pc := 67) (tgt := 79) dX10_operand_67 (by decide) (fun c67 => ?_) (fun c67 => ?_)
      · skip
        refine Ex.aload_n (pc := 79) dX10_operand_79 rfl rfl ?_
        refine Ex.getI (pc := 80) dX10_operand_80 fX10_36 (sh36 _) ?_
        refine Ex.if_le (pc := 83) (tgt := 88) dX10_operand_83 (by decide) (fun _ => ?_) (fun c83 => absurd (by rw [W.2.2.2.1.1]; decide) c83)
        have h7 : o < 7 := by
          refine Nat.lt_of_le_of_ne ho (fun e => c67 ?_)
          rw [h41, e]; rfl
        refine Ex.aload_n (pc := 88) dX10_operand_88 rfl rfl ?_
        refine Ex.dup (pc := 89) dX10_operand_89 rfl ?_
        refine Ex.getI (pc := 90) dX10_operand_90 fX10_137 (sh36 _) ?_
        refine Ex.iconst (pc := 93) (v := 1) dX10_operand_93 rfl ?_
        refine Ex.iadd (pc := 94) dX10_operand_94 ?_
        refine Ex.putI (pc := 95) dX10_operand_95 fX10_137 (sh36 _) (Or.inl rfl) ⟨rfl, rfl⟩ ?_
        refine Ex.mm (S' := St N (mf J 41 (nI (o + 1))) M) ?_ ?_
        · rw [h41, show nI o + 1 = nI (o + 1) from nI_1 o]; rfl
        have W1 : Wk tb n b w I L (mf J 41 (nI (o + 1))) M (f :: fs) (o + 1) t c := W.u (uf_m (by decide)) (W.2.2.2.2.o (o + 1))
        generalize mf J 41 (nI (o + 1)) = J1 at W1 ⊢
        refine Ex.aload_n (pc := 98) dX10_operand_98 rfl rfl ?_
        refine Ex.bipush (pc := 99) (v := 43) dX10_operand_99 rfl ?_
        refine Ex.callV (pc := 101) (As := [.int 43]) (rest := []) dX10_operand_101 cX10_332 (tm_holds (m := opN (f :: fs)) ho2 W1.2.2.2.2.2.2.2.1) (sh36 _) rfl rfl (by decide) (Nat.le_refl _) (Nat.le_refl _) (Nat.le_of_ble_eq_true rfl) (Or.inl (fun r S' h => by obtain ⟨_, h⟩ := h; subst h; rfl)) (fun r S' hq _ _ => ?_)
        obtain ⟨rfl, rfl⟩ := hq
        have W2 : Wk tb n b w I L (hbM J1 (opN (f :: fs)) (nI (sN 14))) M (⟨f.k, f.ph, f.bg, f.pr, 14 :: f.ω⟩ :: fs) (o + 1) t c := W1.u uf_hb (W1.2.2.2.2.push 14)
        refine Ex.aload_n (pc := 104) dX10_operand_104 rfl rfl ?_
        refine Ex.callV (pc := 105) (As := []) (rest := []) dX10_operand_105 cX10_247 (Wk.nx W2) (sh36 _) rfl rfl (by decide) (Nat.le_refl _) (Nat.le_refl _) (Nat.le_of_ble_eq_true rfl) (Or.inl (fun r S' h => by obtain ⟨_, _, h, _⟩ := h; subst h; rfl)) (fun r S' hq _ _ => ?_)
        obtain ⟨I3, L3, rfl, rfl, g3, m3, z3, f3, k3⟩ := hq
        refine Ex.iconst (pc := 108) (v := 0) dX10_operand_108 rfl ?_
        refine Ex.iret (pc := 109) rfl rfl rfl dX10_operand_109 (Nat.le_refl _) (Nat.le_refl _) ?_
        rw [if_pos (by rw [bI_1 c48, bI_1 c58]; rfl)] at hC
        rw [if_neg (by omega)] at hC
        subst hC
        exact ⟨_, _, rfl, false, rfl, g3, ReC.n m3 f3⟩
      · skip
        refine Ex.aload_n (pc := 70) dX10_operand_70 rfl rfl ?_
        refine Ex.iconst (pc := 71) (v := 5) dX10_operand_71 rfl ?_
        refine Ex.aload_n (pc := 72) dX10_operand_72 rfl rfl ?_
        refine Ex.getI (pc := 73) dX10_operand_73 fX10_23 (sh36 _) ?_
        refine Ex.callV (pc := 76) (As := [.int 5, .int _]) (rest := []) dX10_operand_76 cX10_230 (tm_stp (r := .ok (t, c)) (k := 5) m0 (by decide) (by decide) m0.at) (sh36 _) rfl rfl (by decide) (Nat.le_refl _) (Nat.le_refl _) (Nat.le_of_ble_eq_true rfl) (Or.inl (fun r S' h => by obtain ⟨_, _, h, _⟩ := h; subst h; rfl)) (fun r S' hq _ _ => ?_)
        obtain ⟨I2, L2, rfl, rfl, g2, m2⟩ := hq
        have hbad : ¬ I2 36 8 = 0 := fun z => RMs.bad (e := (5, t.2.2.2.1)) m2 z
        have hb2 : ¬ I2 36 8 ≤ 0 := fun z => hbad (Int32.le_antisymm z (Int32.not_lt.mp m2.t.n8))
        refine Ex.aload_n (pc := 79) dX10_operand_79 rfl rfl ?_
        refine Ex.getI (pc := 80) dX10_operand_80 fX10_36 (sh36 _) ?_
        refine Ex.if_le (pc := 83) (tgt := 88) dX10_operand_83 (by decide) (fun c83 => absurd c83 hb2) (fun _ => ?_)
        refine Ex.iconst (pc := 86) (v := 1) dX10_operand_86 rfl ?_
        refine Ex.iret (pc := 87) rfl rfl rfl dX10_operand_87 (Nat.le_refl _) (Nat.le_refl _) ?_
        rw [if_pos (by rw [bI_1 c48, bI_1 c58]; rfl)] at hC
        have h7 : o = 7 := by
          rw [h41] at c67
          exact (nI_iff (by omega) (by omega)).mp c67
        rw [if_pos (by omega)] at hC
        exact ⟨_, _, rfl, true, rfl, W.1.tr g2.rd, ReC.e (r := stp 5 (.ok (t, c))) (by rw [hC]) (stp_r _) m2.t⟩
set_option maxRecDepth 20000 in
theorem tm_operand {N n b w : Nat} {tb : Nat → Nat} {I : aI} {L : aL} {f : Fr} {fs : List Fr} {o : Nat} {r : Er} (hb : b < 2) (hw : w < 5) (hB : MB tb n I) (h33 : I 36 33 = nI b) (h34 : I 36 34 = nI w) (hM : ReM tb n b I L (f :: fs) o r) (hi : Iv n (false, f :: fs, o, r)) : Run 3 0 0 mX10_operand [.ref 36] (St N I L) (RX N (fun x I2 L2 => ∃ v : Bool, x = some (.int (bI v)) ∧ RdF b I L I2 L2 ∧ ReC tb n b I2 L2 (opF tb n (9 + w) f fs o r) v)) := by
  refine Run.of (ls := [some (.ref 36), none, none, none]) (by decide) (Nat.le_of_ble_eq_true rfl) rfl ?_
  have h := hM.1
  refine Ex.aload_n (pc := 0) dX10_operand_0 rfl rfl ?_
  refine Ex.callV (pc := 1) (As := []) (rest := []) dX10_operand_1 cX10_241 (tm_lexR (tb := tb) hB.2.2 h) (sh36 _) rfl rfl (by decide) (Nat.le_refl _) (Nat.le_refl _) (Nat.le_of_ble_eq_true rfl) (Or.inl (fun r S' h => by obtain ⟨_, _, h, _⟩ := h; subst h; rfl)) (fun r S' hq _ _ => ?_)
  obtain ⟨I1, L1, rfl, rfl, g1, m1⟩ := hq
  have b1 := hB.g g1
  refine Ex.aload_n (pc := 4) dX10_operand_4 rfl rfl ?_
  refine Ex.getI (pc := 5) dX10_operand_5 fX10_36 (sh36 _) ?_
  refine Ex.if_le (pc := 8) (tgt := 13) dX10_operand_8 (by decide) (fun c8 => ?_) (fun c8 => ?_)
  · skip
    obtain ⟨t, c, hr⟩ : ∃ t c, r = .ok (t, c) := by
      cases hr : r with
      | error e => rw [hr] at m1; exact absurd (Int32.le_antisymm c8 (Int32.not_lt.mp m1.t.n8)) m1.bad
      | ok q => exact ⟨q.1, q.2, rfl⟩
    subst hr
    have m1 : RMo tb n I1 L1 t := m1
    have W : Wk tb n b w I L I1 L1 (f :: fs) o t c := ⟨g1.rd, b1, ⟨by rw [g1.2.1 33 (by decide)]; exact h33, by rw [g1.2.1 34 (by decide)]; exact h34⟩, m1, (hM.2 t c rfl).g g1⟩
    have hiv := hi t c rfl
    obtain ⟨v1, v2, v3, v4⟩ := hiv.bd (by simp)
    have hF : FsK (f :: fs) := hiv.2.2.1
    have hk6 := hF.1.2.2.2.2.1
    have hst : t.2.2.2.1 ≤ n := Nat.le_trans hiv.1.2.2.1 hiv.1.2.2.2.1
    have v1 : fs.length + 1 ≤ 8 := v1
    have v2 : opN (f :: fs) ≤ 63 := v2
    have v3 : o ≤ 7 := v3
    have hd1 : I1 36 40 - 1 = nI fs.length := by
      rw [W.2.2.2.2.2.1, show (1 : Int32) = nI 1 from rfl]; exact pk_sub (a := fs.length + 1) (by omega)
    have b4 : c.length + opN (f :: fs) + prN (f :: fs) ≤ t.2.2.2.1 := hiv.2.1
    refine Ex.aload_n (pc := 13) dX10_operand_13 rfl rfl ?_
    refine Ex.getI (pc := 14) dX10_operand_14 fX10_134 (sh36 _) ?_
    refine Ex.iconst (pc := 17) (v := 1) dX10_operand_17 rfl ?_
    refine Ex.isub (pc := 18) dX10_operand_18 ?_
    refine Ex.istore_n (pc := 19) (ls' := [some (.ref 36), some (.int _), none, none]) dX10_operand_19 rfl (by decide) rfl rfl ?_
    rw [hd1]
    refine Ex.aload_n (pc := 20) dX10_operand_20 rfl rfl ?_
    refine Ex.getR (pc := 21) dX10_operand_21 fX10_118 (sh36 _) r36_35 ?_
    refine Ex.iload_n (pc := 24) dX10_operand_24 rfl rfl ?_
    refine Ex.iald (pc := 25) (j := fs.length) dX10_operand_25 (sh56 _) (vp_in_nI (by omega) (by decide)) (nI_clamp (by omega)) ?_
    refine Ex.callS (pc := 26) (As := [.int _]) (rest := []) dX10_operand_26 cX10_325 (tm_tW W.2.2.2.2.2.2.2.2.1 hk6) rfl rfl (by decide) (Nat.le_refl _) (Nat.le_refl _) (Nat.le_of_ble_eq_true rfl) (Or.inl (fun r S' h => by obtain ⟨_, h⟩ := h; subst h; rfl)) (fun r S' hq _ _ => ?_)
    obtain ⟨rfl, rfl⟩ := hq
    refine Ex.if_eq (pc := 29) (tgt := 45) dX10_operand_29 (by decide) (fun c29 => ?_) (fun c29 => ?_)
    · skip
      refine Ex.iconst (pc := 45) (v := 0) dX10_operand_45 rfl ?_
      refine Ex.istore_n (pc := 46) (ls' := [some (.ref 36), some (.int _), some (.int 0), none]) dX10_operand_46 rfl (by decide) rfl rfl ?_
      exact tm_o47 (fi := false) W hb hw (fun z => by have := hiv.1.2.2.2.2.1 z; have := hiv.1.2.2.2.1; have := hB.2.2; omega) v3 (by omega) (by omega) (by rw [bI_0 c29]; rfl) rfl
    · skip
      refine Ex.aload_n (pc := 32) dX10_operand_32 rfl rfl ?_
      refine Ex.getR (pc := 33) dX10_operand_33 fX10_124 (sh36 _) r36_37 ?_
      refine Ex.iload_n (pc := 36) dX10_operand_36 rfl rfl ?_
      refine Ex.zald (pc := 37) (j := fs.length) dX10_operand_37 (sh58 _) (vp_in_nI (by omega) (by decide)) (nI_clamp (by omega)) ?_
      rw [W.2.2.2.2.2.2.2.2.2.2.1]
      refine Ex.if_eq (pc := 38) (tgt := 45) dX10_operand_38 (by decide) (fun c38 => ?_) (fun c38 => ?_)
      · skip
        refine Ex.iconst (pc := 45) (v := 0) dX10_operand_45 rfl ?_
        refine Ex.istore_n (pc := 46) (ls' := [some (.ref 36), some (.int _), some (.int 0), none]) dX10_operand_46 rfl (by decide) rfl rfl ?_
        exact tm_o47 (fi := false) W hb hw (fun z => by have := hiv.1.2.2.2.2.1 z; have := hiv.1.2.2.2.1; have := hB.2.2; omega) v3 (by omega) (by omega) (by rw [bI_1 c29, bI_0 c38]; rfl) rfl
      · skip
        refine Ex.iconst (pc := 41) (v := 1) dX10_operand_41 rfl ?_
        refine Ex.goto (pc := 42) (tgt := 46) dX10_operand_42 (by decide) ?_
        refine Ex.istore_n (pc := 46) (ls' := [some (.ref 36), some (.int _), some (.int 1), none]) dX10_operand_46 rfl (by decide) rfl rfl ?_
        exact tm_o47 (fi := true) W hb hw (fun z => by have := hiv.1.2.2.2.2.1 z; have := hiv.1.2.2.2.1; have := hB.2.2; omega) v3 (by omega) (by omega) (by rw [bI_1 c29, bI_1 c38]; rfl) rfl
  · skip
    refine Ex.iconst (pc := 11) (v := 1) dX10_operand_11 rfl ?_
    refine Ex.iret (pc := 12) rfl rfl rfl dX10_operand_12 (Nat.le_refl _) (Nat.le_refl _) ?_
    obtain ⟨e, hr⟩ : ∃ e, r = .error e := by
      cases hr : r with
      | error e => exact ⟨e, rfl⟩
      | ok q => rw [hr] at m1; obtain ⟨t, c⟩ := q; exact absurd (show I1 36 8 ≤ 0 by rw [(show RMo tb n I1 L1 t from m1).1]; decide) c8
    subst hr
    obtain ⟨b', fs', o', q⟩ := opF_e (tb := tb) (n := n) (sc := 9 + w) f fs o e
    exact ⟨_, _, rfl, true, rfl, g1.rd, ReC.e (r := .error e) (by rw [q]) ⟨e, rfl⟩ m1.t⟩
