/-- the ring of what can be undone, the last first -/
def uSl (uf n k : Nat) : Nat := 2 + (uf + (n - 1 - k)) % 20
def UR (I : aI) (nb ns uf : Nat) (ul : List (aX × List aRow)) : Prop := uf < 20 ∧ I 36 53 = nI uf ∧ I 36 54 = nI ul.length ∧ ul.length ≤ 20 ∧ ∀ (k : Nat) (x : aX) (rs : List aRow), ul[k]? = some (x, rs) → XR I (uSl uf ul.length k) nb ns x ∧ KR I (uSl uf ul.length k) rs
theorem UR.fr {I I2 : aI} {nb ns uf v : Nat} {ul : List (aX × List aRow)} (h : UR I nb ns uf ul) (hf : SlF v I I2) (hv : v < 2) (h53 : I2 36 53 = I 36 53) (h54 : I2 36 54 = I 36 54) (hb : nb ≤ 5) (hs : ns ≤ 6) : UR I2 nb ns uf ul := by
  obtain ⟨a1, a2, a3, a4, a5⟩ := h
  refine ⟨a1, h53.trans a2, h54.trans a3, a4, fun k x rs hk => ?_⟩
  obtain ⟨b1, b2⟩ := a5 k x rs hk
  exact ⟨b1.fr hf (by unfold uSl; omega) hb hs, b2.fr hf (by unfold uSl; omega)⟩
theorem XR.sm7 {I I2 : aI} {v nb ns : Nat} {x : aX} {l : List Nat} (h : XR I v nb ns x) (hS : Sm l I I2) (hl : ∀ a ∈ l, a ≤ 62 ∨ 70 ≤ a) : XR I2 v nb ns x := h.sm hS (fun a ha => by have := hl a ha; omega)
theorem KR.sm7 {I I2 : aI} {v : Nat} {rs : List aRow} {l : List Nat} (h : KR I v rs) (hS : Sm l I I2) (hl : ∀ a ∈ l, a ≤ 62 ∨ 70 ≤ a) : KR I2 v rs := h.sm hS (fun q => by have := hl _ q; omega) (fun q => by have := hl _ q; omega)
set_option maxRecDepth 20000 in
theorem tm_slot {N : Nat} {I : aI} {L : aL} {uf k : Nat} (hu : I 36 53 = nI uf) (h20 : uf < 20) (hk : k ≤ 20) : Run 0 0 0 mX10_slot [.ref 36, .int (nI k)] (St N I L) (RI (nI (2 + (uf + k) % 20)) (St N I L)) := by
  refine Run.of (ls := [some (.ref 36), some (.int _)]) (by decide) (Nat.le_of_ble_eq_true rfl) rfl ?_
  refine Ex.iconst (pc := 0) (v := 2) dX10_slot_0 rfl ?_
  refine Ex.aload_n (pc := 1) dX10_slot_1 rfl rfl ?_
  refine Ex.getI (pc := 2) dX10_slot_2 fX10_174 (sh36 _) ?_
  refine Ex.iload_n (pc := 5) dX10_slot_5 rfl rfl ?_
  refine Ex.iadd (pc := 6) dX10_slot_6 ?_
  refine Ex.bipush (pc := 7) (v := 20) dX10_slot_7 rfl ?_
  refine Ex.irem (pc := 9) dX10_slot_9 (by decide) ?_
  refine Ex.iadd (pc := 10) dX10_slot_10 ?_
  refine Ex.iret (pc := 11) rfl rfl rfl dX10_slot_11 (Nat.le_refl _) (Nat.le_refl _) ?_
  refine ⟨?_, rfl⟩
  rw [hu, nI_add, show (20 : Int32) = nI 20 from rfl, pk_rem (by omega) (by decide) (by decide), show (2 : Int32) = nI 2 from rfl, nI_add]
set_option maxRecDepth 20000 in
theorem tm_keeps {N : Nat} {I : aI} {L : aL} {p : aP} {bk nb ns nh : Nat} {f5 f6 : Nat → Int32} {x : aX} {rs : List aRow} (hR : RS I bk nb ns nh p f5 f6 x rs) {uf : Nat} {ul : List (aX × List aRow)} (hU : UR I nb ns uf ul) : Run 1 0 0 mX10_keeps [.ref 36] (St N I L) (RP none N L (fun I2 => Sm [36, 63, 64, 65, 66, 67, 68, 69] I I2 ∧ (∀ j, j ≠ 53 → j ≠ 54 → I2 36 j = I 36 j) ∧ XR I2 0 nb ns x ∧ KR I2 0 rs ∧ ∃ uf2, UR I2 nb ns uf2 (((x, rs) :: ul).take 20))) := by
  refine Run.of (ls := [some (.ref 36)]) (by decide) (Nat.le_of_ble_eq_true rfl) rfl ?_
  obtain ⟨hP, hX, hK, hG, hrb⟩ := id hR
  obtain ⟨⟨h1, h2, hnb, hns, hnh, hcb, hcs, hch⟩, -⟩ := id hP
  have k32 : ∀ (I1 : aI) (u1 : Nat) (l1 : List (aX × List aRow)), Sm [36] I I1 → (∀ j, j ≠ 53 → j ≠ 54 → I1 36 j = I 36 j) → UR I1 nb ns u1 l1 → l1.length < 20 → Ex 1 0 0 mX10_keeps 0 0 32 [some (.ref 36)] [] (St N I1 L) (RP none N L (fun I2 => Sm [36, 63, 64, 65, 66, 67, 68, 69] I I2 ∧ (∀ j, j ≠ 53 → j ≠ 54 → I2 36 j = I 36 j) ∧ XR I2 0 nb ns x ∧ KR I2 0 rs ∧ ∃ uf2, UR I2 nb ns uf2 ((x, rs) :: l1))) := by
    intro I1 u1 l1 hS1 h36 hU1 hlt
    obtain ⟨a1, a2, a3, a4, a5⟩ := hU1
    have hX1 : XR I1 0 nb ns x := hX.sm7 hS1 (by decide)
    have hK1 : KR I1 0 rs := hK.sm7 hS1 (by decide)
    refine Ex.aload_n (pc := 32) dX10_keeps_32 rfl rfl ?_
    refine Ex.aload_n (pc := 33) dX10_keeps_33 rfl rfl ?_
    refine Ex.aload_n (pc := 34) dX10_keeps_34 rfl rfl ?_
    refine Ex.getI (pc := 35) dX10_keeps_35 fX10_177 (sh36 _) ?_
    rw [a3]
    refine Ex.callV (pc := 38) (As := [.int _]) (rest := [.ref 36]) dX10_keeps_38 cX10_402 (tm_slot a2 a1 (by omega)) (sh36 _) rfl rfl (by decide) (Nat.le_refl _) (Nat.le_refl _) (Nat.le_of_ble_eq_true rfl) (Or.inl (fun r S' h => by obtain ⟨_, h⟩ := h; subst h; rfl)) (fun r S' hq _ _ => ?_)
    obtain ⟨rfl, rfl⟩ := hq
    refine Ex.iconst (pc := 41) (v := 0) dX10_keeps_41 rfl ?_
    refine Ex.callV (pc := 42) (As := [.int _, .int 0]) (rest := []) dX10_keeps_42 cX10_405 (tm_copies (to := 2 + (u1 + l1.length) % 20) (fr := 0) (by omega) (by decide) (by omega) hnb hns hX1 hK1) (sh36 _) rfl rfl (by decide) (Nat.le_refl _) (Nat.le_refl _) (Nat.le_of_ble_eq_true rfl) (Or.inl (fun r S' h => by obtain ⟨_, _, h, _⟩ := h; subst h; rfl)) (fun r S' hq _ _ => ?_)
    obtain ⟨I2, rfl, rfl, hS2, hF2, hX2, hK2⟩ := hq
    have e54 : I2 36 54 = nI l1.length := by rw [hS2 36 (by decide), a3]
    refine Ex.aload_n (pc := 45) dX10_keeps_45 rfl rfl ?_
    refine Ex.dup (pc := 46) dX10_keeps_46 rfl ?_
    refine Ex.getI (pc := 47) dX10_keeps_47 fX10_177 (sh36 _) ?_
    refine Ex.iconst (pc := 50) (v := 1) dX10_keeps_50 rfl ?_
    refine Ex.iadd (pc := 51) dX10_keeps_51 ?_
    refine Ex.putI (pc := 52) dX10_keeps_52 fX10_177 (sh36 _) (Or.inl rfl) ⟨rfl, rfl⟩ ?_
    refine Ex.vret (pc := 55) rfl dX10_keeps_55 (Nat.le_refl _) (Nat.le_refl _) ?_
    have hS3 : Sm [36] I2 (va_up I2 36 (upd (I2 36) 54 (I2 36 54 + 1))) := Sm.rf.up (by decide)
    refine ⟨_, rfl, rfl, ?_, ?_, ?_, ?_, u1, a1, ?_, ?_, ?_, ?_⟩
    · exact (hS1.tr hS2 (by decide) (by decide)).up (by decide)
    · intro j h53 h54; rw [va_up_s, upd_n h54, hS2 36 (by decide)]; exact h36 j h53 h54
    · exact (hX1.fr hF2 (by omega) hnb hns).sm7 hS3 (by decide)
    · exact (hK1.fr hF2 (by omega)).sm7 hS3 (by decide)
    · rw [va_up_s, upd_n (by decide), hS2 36 (by decide), a2]
    · rw [va_up_s, upd_s, e54, List.length_cons]; exact nI_1 _
    · rw [List.length_cons]; omega
    · intro k y ys hk
      cases k with
      | zero =>
        rw [List.getElem?_cons_zero] at hk
        cases hk
        rw [List.length_cons, show uSl u1 (l1.length + 1) 0 = 2 + (u1 + l1.length) % 20 from by unfold uSl; rfl]
        exact ⟨hX2.sm7 hS3 (by decide), hK2.sm7 hS3 (by decide)⟩
      | succ k =>
        rw [List.getElem?_cons_succ] at hk
        have hkl : k < l1.length := (List.getElem?_eq_some_iff.mp hk).1
        obtain ⟨b1, b2⟩ := a5 k y ys hk
        have e : uSl u1 (List.length ((x, rs) :: l1)) (k + 1) = uSl u1 l1.length k := by rw [List.length_cons]; unfold uSl; congr 3; omega
        rw [e]
        have hne : uSl u1 l1.length k ≠ 2 + (u1 + l1.length) % 20 := by unfold uSl; omega
        exact ⟨(b1.fr hF2 hne hnb hns).sm7 hS3 (by decide), (b2.fr hF2 hne).sm7 hS3 (by decide)⟩
  rw [show ((x, rs) :: ul).take 20 = (x, rs) :: ul.take 19 from rfl]
  obtain ⟨a1, a2, a3, a4, a5⟩ := id hU
  refine Ex.aload_n (pc := 0) dX10_keeps_0 rfl rfl ?_
  refine Ex.getI (pc := 1) dX10_keeps_1 fX10_177 (sh36 _) ?_
  refine Ex.bipush (pc := 4) (v := 20) dX10_keeps_4 rfl ?_
  refine Ex.icmp_ne (pc := 6) (tgt := 32) dX10_keeps_6 (by decide) (fun c6 => ?_) (fun c6 => ?_)
  · skip
    rw [a3] at c6
    have hlt : ul.length < 20 := by
      rcases Nat.lt_or_ge ul.length 20 with q | q
      · exact q
      · exact absurd (show nI ul.length = 20 from by rw [show ul.length = 20 by omega]; rfl) c6
    rw [List.take_of_length_le (by omega)]
    exact k32 I uf ul Sm.rf (fun _ _ _ => rfl) hU hlt
  · skip
    refine Ex.aload_n (pc := 9) dX10_keeps_9 rfl rfl ?_
    refine Ex.aload_n (pc := 10) dX10_keeps_10 rfl rfl ?_
    refine Ex.getI (pc := 11) dX10_keeps_11 fX10_174 (sh36 _) ?_
    refine Ex.iconst (pc := 14) (v := 1) dX10_keeps_14 rfl ?_
    refine Ex.iadd (pc := 15) dX10_keeps_15 ?_
    refine Ex.bipush (pc := 16) (v := 20) dX10_keeps_16 rfl ?_
    refine Ex.irem (pc := 18) dX10_keeps_18 (by decide) ?_
    refine Ex.putI (pc := 19) dX10_keeps_19 fX10_174 (sh36 _) (Or.inl rfl) ⟨rfl, rfl⟩ ?_
    refine Ex.aload_n (pc := 22) dX10_keeps_22 rfl rfl ?_
    refine Ex.dup (pc := 23) dX10_keeps_23 rfl ?_
    refine Ex.getI (pc := 24) dX10_keeps_24 fX10_177 (sh36 _) ?_
    refine Ex.iconst (pc := 27) (v := 1) dX10_keeps_27 rfl ?_
    refine Ex.isub (pc := 28) dX10_keeps_28 ?_
    refine Ex.putI (pc := 29) dX10_keeps_29 fX10_177 (sh36 _) (Or.inl rfl) ⟨rfl, rfl⟩ ?_
    rw [a3] at c6
    have h20 : ul.length = 20 := (nI_eq (by omega) (by decide)).mp (show nI ul.length = nI 20 from c6)
    have hS3 : Sm [36] I (va_up (va_up I 36 (upd (I 36) 53 ((I 36 53 + 1) - (I 36 53 + 1) / 20 * 20))) 36 (upd (va_up I 36 (upd (I 36) 53 ((I 36 53 + 1) - (I 36 53 + 1) / 20 * 20)) 36) 54 (va_up I 36 (upd (I 36) 53 ((I 36 53 + 1) - (I 36 53 + 1) / 20 * 20)) 36 54 - 1))) := (Sm.rf.up (by decide)).up (by decide)
    refine k32 _ ((uf + 1) % 20) (ul.take 19) hS3 ?_ ⟨by omega, ?_, ?_, ?_, ?_⟩ (by rw [List.length_take]; omega)
    · intro j h53 h54; rw [va_up_s, upd_n h54, va_up_s, upd_n h53]
    · rw [va_up_s, upd_n (by decide), va_up_s, upd_s, a2, show nI uf + 1 = nI (uf + 1) from nI_1 uf]; exact pk_rem (d := 20) (by omega) (by decide) (by decide)
    · rw [va_up_s, upd_s, va_up_s, upd_n (by decide), a3, h20, List.length_take, h20]; rfl
    · rw [List.length_take]; omega
    · intro k y ys hk
      have hk19 : k < 19 := by have := (List.getElem?_eq_some_iff.mp hk).1; rw [List.length_take] at this; omega
      rw [List.getElem?_take_of_lt hk19] at hk
      obtain ⟨b1, b2⟩ := a5 k y ys hk
      have e : uSl ((uf + 1) % 20) (ul.take 19).length k = uSl uf ul.length k := by rw [List.length_take, h20]; unfold uSl; omega
      rw [e]
      exact ⟨b1.sm7 hS3 (by decide), b2.sm7 hS3 (by decide)⟩
set_option maxRecDepth 20000 in
theorem tm_undo0 {N : Nat} {I : aI} {L : aL} (h0 : I 36 54 = 0) : Run 1 0 0 mX10_undo [.ref 36] (St N I L) (RI 0 (St N (refM I 4) L)) := by
  refine Run.of (ls := [some (.ref 36)]) (by decide) (Nat.le_of_ble_eq_true rfl) rfl ?_
  refine Ex.aload_n (pc := 0) dX10_undo_0 rfl rfl ?_
  refine Ex.getI (pc := 1) dX10_undo_1 fX10_177 (sh36 _) ?_
  refine Ex.if_ne (pc := 4) (tgt := 21) dX10_undo_4 (by decide) (fun c4 => absurd h0 c4) (fun _ => ?_)
  refine Ex.aload_n (pc := 7) dX10_undo_7 rfl rfl ?_
  refine Ex.iconst (pc := 8) (v := 4) dX10_undo_8 rfl ?_
  refine Ex.callV (pc := 9) (As := [.int 4]) (rest := []) dX10_undo_9 cX10_222 (tm_refuses (k := 4) (by decide)) (sh36 _) rfl rfl (by decide) (Nat.le_refl _) (Nat.le_refl _) (Nat.le_of_ble_eq_true rfl) (Or.inl (fun r S' h => by obtain ⟨_, h⟩ := h; subst h; rfl)) (fun r S' hq _ _ => ?_)
  obtain ⟨rfl, rfl⟩ := hq
  refine Ex.if_lt (pc := 12) (tgt := 19) dX10_undo_12 (by decide) (fun _ => ?_) (fun c12 => absurd (by decide) c12)
  refine Ex.iconst (pc := 19) (v := 0) dX10_undo_19 rfl ?_
  refine Ex.iret (pc := 20) rfl rfl rfl dX10_undo_20 (Nat.le_refl _) (Nat.le_refl _) ?_
  exact ⟨rfl, rfl⟩
set_option maxRecDepth 20000 in
theorem tm_undo1 {N : Nat} {I : aI} {L : aL} {nb ns uf : Nat} {x : aX} {rs : List aRow} {ul : List (aX × List aRow)} (hnb : nb ≤ 5) (hns : ns ≤ 6) (hU : UR I nb ns uf ((x, rs) :: ul)) : Run 1 0 0 mX10_undo [.ref 36] (St N I L) (RP (some (.int 1)) N L (fun I2 => Sm [36, 63, 64, 65, 66, 67, 68, 69] I I2 ∧ (∀ j, j ≠ 53 → j ≠ 54 → I2 36 j = I 36 j) ∧ XR I2 0 nb ns x ∧ KR I2 0 rs ∧ UR I2 nb ns uf ul)) := by
  refine Run.of (ls := [some (.ref 36)]) (by decide) (Nat.le_of_ble_eq_true rfl) rfl ?_
  obtain ⟨a1, a2, a3, a4, a5⟩ := hU
  rw [List.length_cons] at a3 a4
  have hS1 : Sm [36] I (va_up I 36 (upd (I 36) 54 (nI ul.length))) := Sm.rf.up (by decide)
  obtain ⟨b1, b2⟩ := a5 0 x rs rfl
  rw [List.length_cons, show uSl uf (ul.length + 1) 0 = 2 + (uf + ul.length) % 20 from by unfold uSl; rfl] at b1 b2
  have b1 := b1.sm7 hS1 (by decide)
  have b2 := b2.sm7 hS1 (by decide)
  refine Ex.aload_n (pc := 0) dX10_undo_0 rfl rfl ?_
  refine Ex.getI (pc := 1) dX10_undo_1 fX10_177 (sh36 _) ?_
  refine Ex.if_ne (pc := 4) (tgt := 21) dX10_undo_4 (by decide) (fun _ => ?_) (fun c4 => absurd c4 (by rw [a3]; exact nI_ne0 (by omega) (by omega)))
  refine Ex.aload_n (pc := 21) dX10_undo_21 rfl rfl ?_
  refine Ex.dup (pc := 22) dX10_undo_22 rfl ?_
  refine Ex.getI (pc := 23) dX10_undo_23 fX10_177 (sh36 _) ?_
  refine Ex.iconst (pc := 26) (v := 1) dX10_undo_26 rfl ?_
  refine Ex.isub (pc := 27) dX10_undo_27 ?_
  refine Ex.putI (pc := 28) dX10_undo_28 fX10_177 (sh36 _) (Or.inl rfl) ⟨rfl, rfl⟩ ?_
  rw [a3, show nI (ul.length + 1) - 1 = nI ul.length from nI_pred _]
  refine Ex.aload_n (pc := 31) dX10_undo_31 rfl rfl ?_
  refine Ex.iconst (pc := 32) (v := 0) dX10_undo_32 rfl ?_
  refine Ex.aload_n (pc := 33) dX10_undo_33 rfl rfl ?_
  refine Ex.aload_n (pc := 34) dX10_undo_34 rfl rfl ?_
  refine Ex.getI (pc := 35) dX10_undo_35 fX10_177 (sh36 _) ?_
  rw [va_up_s, upd_s]
  refine Ex.callV (pc := 38) (As := [.int _]) (rest := [.int 0, .ref 36]) dX10_undo_38 cX10_402 (tm_slot (uf := uf) (by rw [va_up_s, upd_n (by decide), a2]) a1 (by omega)) (sh36 _) rfl rfl (by decide) (Nat.le_refl _) (Nat.le_refl _) (Nat.le_of_ble_eq_true rfl) (Or.inl (fun r S' h => by obtain ⟨_, h⟩ := h; subst h; rfl)) (fun r S' hq _ _ => ?_)
  obtain ⟨rfl, rfl⟩ := hq
  refine Ex.callV (pc := 41) (As := [.int 0, .int _]) (rest := []) dX10_undo_41 cX10_405 (tm_copies (to := 0) (fr := 2 + (uf + ul.length) % 20) (by decide) (by omega) (by omega) hnb hns b1 b2) (sh36 _) rfl rfl (by decide) (Nat.le_refl _) (Nat.le_refl _) (Nat.le_of_ble_eq_true rfl) (Or.inl (fun r S' h => by obtain ⟨_, _, h, _⟩ := h; subst h; rfl)) (fun r S' hq _ _ => ?_)
  obtain ⟨I2, rfl, rfl, hS2, hF2, hX2, hK2⟩ := hq
  refine Ex.iconst (pc := 44) (v := 1) dX10_undo_44 rfl ?_
  refine Ex.iret (pc := 45) rfl rfl rfl dX10_undo_45 (Nat.le_refl _) (Nat.le_refl _) ?_
  refine ⟨_, rfl, rfl, hS1.tr hS2 (by decide) (by decide), ?_, hX2, hK2, a1, ?_, ?_, by omega, ?_⟩
  · intro j _ h54; rw [hS2 36 (by decide), va_up_s, upd_n h54]
  · rw [hS2 36 (by decide), va_up_s, upd_n (by decide), a2]
  · rw [hS2 36 (by decide), va_up_s, upd_s]
  · intro k y ys hk
    have hkl : k < ul.length := (List.getElem?_eq_some_iff.mp hk).1
    obtain ⟨c1, c2⟩ := a5 (k + 1) y ys (by rw [List.getElem?_cons_succ]; exact hk)
    have e : uSl uf (List.length ((x, rs) :: ul)) (k + 1) = uSl uf ul.length k := by rw [List.length_cons]; unfold uSl; congr 3; omega
    rw [e] at c1 c2
    have c1 := c1.sm7 hS1 (by decide)
    have c2 := c2.sm7 hS1 (by decide)
    have hne : uSl uf ul.length k ≠ 0 := by unfold uSl; omega
    exact ⟨c1.fr hF2 hne hnb hns, c2.fr hF2 hne⟩
set_option maxRecDepth 20000 in
theorem tm_seed0 {N : Nat} {I : aI} {L : aL} {w : Int32} (h : ¬ 0 ≤ w) : Run 1 0 0 mX10_seed [.ref 36, .int w] (St N I L) (RI 0 (St N (refM I 5) L)) := by
  refine Run.of (ls := [some (.ref 36), some (.int _)]) (by decide) (Nat.le_of_ble_eq_true rfl) rfl ?_
  refine Ex.iload_n (pc := 0) dX10_seed_0 rfl rfl ?_
  refine Ex.if_ge (pc := 1) (tgt := 18) dX10_seed_1 (by decide) (fun c1 => absurd c1 h) (fun _ => ?_)
  refine Ex.aload_n (pc := 4) dX10_seed_4 rfl rfl ?_
  refine Ex.iconst (pc := 5) (v := 5) dX10_seed_5 rfl ?_
  refine Ex.callV (pc := 6) (As := [.int 5]) (rest := []) dX10_seed_6 cX10_222 (tm_refuses (k := 5) (by decide)) (sh36 _) rfl rfl (by decide) (Nat.le_refl _) (Nat.le_refl _) (Nat.le_of_ble_eq_true rfl) (Or.inl (fun r S' h => by obtain ⟨_, h⟩ := h; subst h; rfl)) (fun r S' hq _ _ => ?_)
  obtain ⟨rfl, rfl⟩ := hq
  refine Ex.if_lt (pc := 9) (tgt := 16) dX10_seed_9 (by decide) (fun _ => ?_) (fun c9 => absurd (by decide) c9)
  refine Ex.iconst (pc := 16) (v := 0) dX10_seed_16 rfl ?_
  refine Ex.iret (pc := 17) rfl rfl rfl dX10_seed_17 (Nat.le_refl _) (Nat.le_refl _) ?_
  exact ⟨rfl, rfl⟩
def setE (L : aL) (d : Int64) : aL := va_up L 36 (vp_updL (L 36) 55 d)
set_option maxRecDepth 20000 in
theorem tm_seed1 {N : Nat} {I : aI} {L : aL} {w : Int32} (h : 0 ≤ w) : Run 1 0 0 mX10_seed [.ref 36, .int w] (St N I L) (RI 1 (St N I (setE L w.toInt64))) := by
  refine Run.of (ls := [some (.ref 36), some (.int _)]) (by decide) (Nat.le_of_ble_eq_true rfl) rfl ?_
  refine Ex.iload_n (pc := 0) dX10_seed_0 rfl rfl ?_
  refine Ex.if_ge (pc := 1) (tgt := 18) dX10_seed_1 (by decide) (fun _ => ?_) (fun c1 => absurd h c1)
  refine Ex.aload_n (pc := 18) dX10_seed_18 rfl rfl ?_
  refine Ex.iload_n (pc := 19) dX10_seed_19 rfl rfl ?_
  refine Ex.i2l (pc := 20) dX10_seed_20 ?_
  refine Ex.putL (pc := 21) dX10_seed_21 fX10_180 (sh36 _) (Or.inl rfl) ⟨rfl, rfl⟩ ?_
  refine Ex.iconst (pc := 24) (v := 1) dX10_seed_24 rfl ?_
  refine Ex.iret (pc := 25) rfl rfl rfl dX10_seed_25 (Nat.le_refl _) (Nat.le_refl _) ?_
  exact ⟨rfl, rfl⟩
theorem lN_and31 {m : Nat} (h : m < 2 ^ 63) : lN m &&& 2147483647 = lN (m % 2147483648) := by
  apply Int64.toBitVec_inj.mp
  apply BitVec.eq_of_toNat_eq
  have e : ∀ k, k < 2 ^ 63 → (lN k).toBitVec.toNat = k := fun k hk => by
    show (BitVec.ofNat 64 k).toNat = k
    rw [BitVec.toNat_ofNat]; exact Nat.mod_eq_of_lt (by omega)
  rw [Int64.toBitVec_and, BitVec.toNat_and, e m h, e _ (by omega)]
  show m &&& 2147483647 = _
  exact Nat.and_two_pow_sub_one_eq_mod m 31
theorem drw_rel {m : Nat} (h : m < 2 ^ 31) : (1103515245 * lN m + 12345) - (1103515245 * lN m + 12345) / 2147483648 * 2147483648 = drw (lN m) := by
  have e : (1103515245 * lN m + 12345 : Int64) = lN (1103515245 * m + 12345) := by
    show lN 1103515245 * lN m + lN 12345 = _
    unfold lN
    rw [Int64.ofNat_add, Int64.ofNat_mul]
  unfold drw
  rw [e, lN_and31 (by omega)]
  exact pk_lRem (by omega) (by decide) (by decide)
theorem drw_lt {m : Nat} (h : m < 2 ^ 31) : ∃ k, k < 2 ^ 31 ∧ drw (lN m) = lN k := by
  have e : (1103515245 * lN m + 12345 : Int64) = lN (1103515245 * m + 12345) := by
    show lN 1103515245 * lN m + lN 12345 = _
    unfold lN
    rw [Int64.ofNat_add, Int64.ofNat_mul]
  refine ⟨_, ?_, show drw (lN m) = lN ((1103515245 * m + 12345) % 2147483648) from ?_⟩
  · exact Nat.mod_lt _ (by decide)
  · unfold drw
    rw [e, lN_and31 (by omega)]
theorem setE_s {L : aL} {d : Int64} : setE L d 36 55 = d := by simp [setE, va_up, vp_updL]
theorem setE_d {L : aL} {d e : Int64} : setE (setE L d) e = setE L e := by
  funext a j
  by_cases h : a = 36
  · subst h
    by_cases h2 : j = 55 <;> simp [setE, va_up, vp_updL, h2]
  · simp [setE, va_up, h]
theorem setE_0 {L : aL} : setE L (L 36 55) = L := by
  funext a j
  by_cases h : a = 36
  · subst h
    by_cases h2 : j = 55 <;> simp [setE, va_up, vp_updL, h2]
  · simp [setE, va_up, h]
set_option maxRecDepth 20000 in
theorem tm_draw {N : Nat} {I : aI} {L : aL} {m : Nat} (hm : m < 2 ^ 31) (hs : L 36 55 = lN m) : Run 0 0 0 mX10_draw [.ref 36, .int 100] (St N I L) (RI (drV (lN m)) (St N I (setE L (drw (lN m))))) := by
  refine Run.of (ls := [some (.ref 36), some (.int _)]) (by decide) (Nat.le_of_ble_eq_true rfl) rfl ?_
  refine Ex.aload_n (pc := 0) dX10_draw_0 rfl rfl ?_
  refine Ex.ldc2 (pc := 1) dX10_draw_1 kv_X10_522 ?_
  refine Ex.aload_n (pc := 4) dX10_draw_4 rfl rfl ?_
  refine Ex.getL (pc := 5) dX10_draw_5 fX10_180 (sh36 _) ?_
  refine Ex.lmul (pc := 8) dX10_draw_8 ?_
  refine Ex.ldc2 (pc := 9) dX10_draw_9 kv_X10_524 ?_
  refine Ex.ladd (pc := 12) dX10_draw_12 ?_
  refine Ex.ldc2 (pc := 13) dX10_draw_13 kv_X10_526 ?_
  refine Ex.lrem (pc := 16) dX10_draw_16 (by decide) ?_
  rw [hs, drw_rel hm]
  refine Ex.putL (pc := 17) dX10_draw_17 fX10_180 (sh36 _) (Or.inl rfl) ⟨rfl, rfl⟩ ?_
  refine Ex.mm (S' := St N I (setE L (drw (lN m)))) rfl ?_
  refine Ex.aload_n (pc := 20) dX10_draw_20 rfl rfl ?_
  refine Ex.getL (pc := 21) dX10_draw_21 fX10_180 (sh36 _) ?_
  rw [setE_s]
  refine Ex.ldc2 (pc := 24) dX10_draw_24 kv_X10_528 ?_
  refine Ex.ldiv (pc := 27) dX10_draw_27 (by decide) ?_
  refine Ex.iload_n (pc := 28) dX10_draw_28 rfl rfl ?_
  refine Ex.i2l (pc := 29) dX10_draw_29 ?_
  refine Ex.lrem (pc := 30) dX10_draw_30 (by decide) ?_
  refine Ex.l2i (pc := 31) dX10_draw_31 ?_
  refine Ex.iret (pc := 32) rfl rfl rfl dX10_draw_32 (Nat.le_refl _) (Nat.le_refl _) ?_
  refine ⟨?_, rfl⟩
  rfl
