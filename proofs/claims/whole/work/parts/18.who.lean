def alw (r j : Nat) : Prop := j = 1 ∨ j = 2 ∨ j = 4 ∨ j = 5 ∨ j = 14 ∨ j = 16 ∨ (r ≤ 1 ∧ (j = 17 ∨ j = 18)) ∨ ((r = 2 ∨ r = 3) ∧ (j = 7 ∨ j = 8 ∨ j = 19))
/-- the names in a sum are those that may stand there -/
def PlanIx (p : aP) : Prop := ∀ r, r < 5 → ∀ t, p.2.2.1 r ≤ t → t < p.2.2.2 r → p.1 t = 1 → alw r (p.2.1 t)
def PlanG (N : Nat) (I : aI) (p : aP) : Prop := PlanOk N I p ∧ PlanIx p
theorem PlanG.sm {N : Nat} {I I2 : aI} {p : aP} {l : List Nat} (h : PlanG N I p) (hS : Sm l I I2) (h2 : 2 ∉ l) (h7 : 7 ∉ l) (h8 : 8 ∉ l) (h9 : 9 ∉ l) : PlanG N I2 p := ⟨h.1.sm hS h2 h7 h8 h9, h.2⟩
theorem gAt_congr (nm nm' : Nat → Int32) (kd nu : Nat → Nat) (f : Nat) (g : Nat → Int32) : ∀ n, (∀ i, i < n → kd (f + i) = 1 → nm (nu (f + i)) = nm' (nu (f + i))) → gAt nm kd nu f g n = gAt nm' kd nu f g n
  | 0, _ => rfl
  | n + 1, h => by
    simp only [gAt]
    rw [gAt_congr nm nm' kd nu f g n (fun i hi => h i (by omega))]
    unfold stG
    by_cases e : kd (f + n) ≤ 1
    · by_cases e0 : kd (f + n) = 0
      · simp [e, e0]
      · have e1 : kd (f + n) = 1 := by omega
        simp [e1, h n (by omega) e1]
    · simp [e]
theorem evV_congr {p : aP} (hx : PlanIx p) {nm nm' : Nat → Int32} {r : Nat} (hr : r < 5) {w0 : Int32} (h : ∀ j, alw r j → nm j = nm' j) : evV p nm r w0 = evV p nm' r w0 := by
  unfold evV
  rw [gAt_congr nm nm' _ _ _ _ _ (fun i hi he => h _ (hx r hr _ (by omega) (by omega) he))]
def nmL (a b c d : Int32) : Nat → Int32 := upd (upd (upd (upd (fun _ => 0) 1 a) 5 b) 14 c) 16 d
theorem strk_congr {p : aP} (hx : PlanIx p) {nm nm' : Nat → Int32} (h : ∀ j, j = 1 ∨ j = 5 ∨ j = 14 ∨ j = 16 → nm j = nm' j) (t : aT) : strk p nm t = strk p nm' t := by
  have e : ∀ r, r ≤ 1 → ∀ w0, evV p (nmS nm t.1 t.2.1 (t.2.2.1 + 1)) r w0 = evV p (nmS nm' t.1 t.2.1 (t.2.2.1 + 1)) r w0 := by
    intro r hr w0
    refine evV_congr hx (by omega) (fun j hj => ?_)
    unfold nmS upd
    by_cases h18 : j = 18
    · simp [h18]
    · by_cases h17 : j = 17
      · simp [h17]
      · by_cases h4 : j = 4
        · simp [h4]
        · by_cases h2 : j = 2
          · simp [h2]
          · simp only [h18, h17, h4, h2, if_false]
            refine h j ?_
            rcases hj with q | q | q | q | q | q | ⟨_, q | q⟩ | ⟨q, _⟩ <;> first | (exact absurd q (by omega)) | omega
  simp only [strk, e 0 (by decide), e 1 (by decide)]
theorem rubF_congr {p : aP} (hx : PlanIx p) {nm nm' : Nat → Int32} (h : ∀ j, j = 1 ∨ j = 5 ∨ j = 14 ∨ j = 16 → nm j = nm' j) : ∀ n t, rubF p nm n t = rubF p nm' n t
  | 0, _ => rfl
  | n + 1, t => by simp only [rubF, strk_congr hx h t, rubF_congr hx h n]
/-- n strokes of the stain s on the board b as the State a has them -/
def rubA (p : aP) (I : aI) (a b s n : Nat) : aT := rubF p (nmL (I 5 b) (I 6 (6 + s)) (I a 1) (I a 0)) n (I (a + 1) b, I (a + 2) s, 0, 0)
theorem nmL_upd {f : Nat → Int32} {a b c d : Int32} (j : Nat) (h : j = 1 ∨ j = 5 ∨ j = 14 ∨ j = 16) : upd (upd (upd (upd f 1 a) 5 b) 14 c) 16 d j = nmL a b c d j := by
  rcases h with rfl | rfl | rfl | rfl <;> simp [nmL, upd]

set_option maxRecDepth 20000 in
theorem t_bringOut10 {N : Nat} {I : aI} {L : aL} {p : aP} {b s : Nat} (hp : PlanG N I p) (hb : b < 5) (hs : s < 6) : Run 4 0 0 mX6_bringOut [.ref 16, .ref 10, .int (nI b), .int (nI s)] (St N I L) (RP (some (.int (if (rubA p I 10 b s 99).2.1 = 0 then 1 else 0))) N L (fun I2 => Sm [16, 17, 18] I I2 ∧ tOf I2 = rubA p I 10 b s 99)) := by
  refine Run.of (ls := [some (.ref 16), some (.ref 10), some (.int _), some (.int _)]) (by decide) (Nat.le_of_ble_eq_true rfl) rfl ?_
  refine Ex.aload_n (pc := 0) dX6_bringOut_0 rfl rfl ?_
  refine Ex.aload_n (pc := 1) dX6_bringOut_1 rfl rfl ?_
  refine Ex.iload_n (pc := 2) dX6_bringOut_2 rfl rfl ?_
  refine Ex.iload_n (pc := 3) dX6_bringOut_3 rfl rfl ?_
  refine Ex.callV (pc := 4) (As := [.ref 10, .int _, .int _]) (rest := []) dX6_bringOut_4 cX6_74 (t_lay10 (b := b) (s := s) hb hs) (sh16 _) rfl rfl (by decide) (Nat.le_refl _) (Nat.le_refl _) (Nat.le_of_ble_eq_true rfl) (Or.inl (fun r S' h => by obtain ⟨_, _, h, _⟩ := h; subst h; rfl)) (fun r S' hq _ _ => ?_)
  obtain ⟨I3, rfl, rfl, hS3, hb3, hs3, ht3, hn3⟩ := hq
  have hp3 := hp.sm hS3 (by decide) (by decide) (by decide) (by decide)
  refine Ex.aload_n (pc := 7) dX6_bringOut_7 rfl rfl ?_
  refine Ex.bipush (pc := 8) (v := 99) dX6_bringOut_8 rfl ?_
  refine Ex.callV (pc := 10) (As := [.int 99]) (rest := []) dX6_bringOut_10 cX6_78 (t_rub (p := p) (n := 99) hp3.1 (by decide)) (sh16 _) rfl rfl (by decide) (Nat.le_refl _) (Nat.le_refl _) (Nat.le_of_ble_eq_true rfl) (Or.inl (fun r S' h => by obtain ⟨_, _, h, _⟩ := h; subst h; rfl)) (fun r S' hq _ _ => ?_)
  obtain ⟨I4, rfl, rfl, hS4, hj4, ht4, hm4⟩ := hq
  have hr4 : tOf I4 = rubA p I 10 b s 99 := by
    rw [ht4, ht3, hn3]
    exact rubF_congr hp.2 (fun j hj => nmL_upd j hj) _ _
  have hS34 : Sm [16, 17, 18] I I4 := hS3.tr hS4 (by decide) (by decide)
  refine Ex.aload_n (pc := 13) dX6_bringOut_13 rfl rfl ?_
  refine Ex.getI (pc := 14) dX6_bringOut_14 fX6_28 (sh16 _) ?_
  refine Ex.if_ne (pc := 17) (tgt := 24) dX6_bringOut_17 (by decide) (fun c17 => ?_) (fun c17 => ?_)
  · skip
    refine Ex.iconst (pc := 24) (v := 0) dX6_bringOut_24 rfl ?_
    refine Ex.iret (pc := 25) rfl rfl rfl dX6_bringOut_25 (Nat.le_refl _) (Nat.le_refl _) ?_
    have h6 : I4 16 6 = (rubA p I 10 b s 99).2.1 := by rw [← hr4]; rfl
    refine ⟨_, ?_, rfl, hS34, hr4⟩
    rw [h6] at c17
    rw [if_neg c17]
  · skip
    refine Ex.iconst (pc := 20) (v := 1) dX6_bringOut_20 rfl ?_
    refine Ex.goto (pc := 21) (tgt := 25) dX6_bringOut_21 (by decide) ?_
    refine Ex.iret (pc := 25) rfl rfl rfl dX6_bringOut_25 (Nat.le_refl _) (Nat.le_refl _) ?_
    have h6 : I4 16 6 = (rubA p I 10 b s 99).2.1 := by rw [← hr4]; rfl
    refine ⟨_, ?_, rfl, hS34, hr4⟩
    rw [h6] at c17
    rw [if_pos c17]
/-- those of the hearers (as bits) for whom the test holds -/
def whoF (p : aP) (nm : Nat → Int32) (r : Nat) (sn er : Nat → Int32) (hb : Int32) : Nat → Int32
  | 0 => 0
  | k + 1 => if ¬ hb >>> (nI k &&& 31) &&& 1 = 1 then whoF p nm r sn er hb k else whoF p nm r sn er hb k ||| (if evV p (upd (upd nm 7 (sn k)) 8 (er k)) r 0 = 0 then (0 : Int32) else (1 : Int32) <<< (nI k &&& 31))
set_option maxRecDepth 20000 in
theorem t_whoHolds {N : Nat} {I : aI} {L : aL} {p : aP} {r nh : Nat} {hb : Int32} (hp : PlanG N I p) (hr : r < 5) (hh : I 3 2 = nI nh) (hn : nh ≤ 6) : Run 3 0 0 mX6_whoHolds [.ref 16, .int (nI (9 + r)), .int hb] (St N I L) (RP (some (.int (whoF p (I 17) r (fun k => I 5 (12 + k)) (fun k => I 6 (12 + k)) hb nh))) N L (fun I2 => Sm [17, 18] I I2 ∧ ∀ j, j ≠ 7 → j ≠ 8 → I2 17 j = I 17 j)) := by
  refine Run.of (ls := [some (.ref 16), some (.int _), some (.int _), none, none]) (by decide) (Nat.le_of_ble_eq_true rfl) rfl ?_
  refine Ex.iconst (pc := 0) (v := 0) dX6_whoHolds_0 rfl ?_
  refine Ex.istore_n (pc := 1) (ls' := [some (.ref 16), some (.int _), some (.int _), some (.int 0), none]) dX6_whoHolds_1 rfl (by decide) rfl rfl ?_
  refine Ex.iconst (pc := 2) (v := 0) dX6_whoHolds_2 rfl ?_
  refine Ex.istore (pc := 3) (ls' := [some (.ref 16), some (.int _), some (.int _), some (.int 0), some (.int 0)]) dX6_whoHolds_3 (by decide) rfl rfl ?_
  refine forUp (σ := aI) (P := fun k I2 => Ex 3 0 0 mX6_whoHolds 0 0 5 [some (.ref 16), some (.int (nI (9 + r))), some (.int hb), some (.int (whoF p (I 17) r (fun k => I 5 (12 + k)) (fun k => I 6 (12 + k)) hb k)), some (.int (nI k))] [] (St N I2 L) _) (Inv := fun k I2 => Sm [17, 18] I I2 ∧ ∀ j, j ≠ 7 → j ≠ 8 → I2 17 j = I 17 j) nh ?_ ?_ 0 _ (Nat.zero_le _) ⟨Sm.rf, fun _ _ _ => rfl⟩
  · rintro I2 ⟨hS, hj⟩
    have h32 : I2 3 2 = nI nh := by rw [hS 3 (by decide)]; exact hh
    refine Ex.iload (pc := 5) dX6_whoHolds_5 rfl ?_
    refine Ex.aload_n (pc := 7) dX6_whoHolds_7 rfl rfl ?_
    refine Ex.getR (pc := 8) dX6_whoHolds_8 fX6_37 (sh16 _) r16_0 ?_
    refine Ex.getR (pc := 11) dX6_whoHolds_11 fX6_92 (sh2 _) r2_0 ?_
    refine Ex.iconst (pc := 14) (v := 2) dX6_whoHolds_14 rfl ?_
    refine Ex.iald (pc := 15) (j := 2) dX6_whoHolds_15 (sh3 _) (by unfold vp_in; decide) (by decide) ?_
    refine Ex.icmp_ge (pc := 16) (tgt := 87) dX6_whoHolds_16 (by decide) (fun _ => ?_) (fun c16 => absurd (by rw [h32]; exact nI_le (Nat.le_refl nh) (by omega)) c16)
    refine Ex.iload_n (pc := 87) dX6_whoHolds_87 rfl rfl ?_
    refine Ex.iret (pc := 88) rfl rfl rfl dX6_whoHolds_88 (Nat.le_refl _) (Nat.le_refl _) ?_
    exact ⟨_, rfl, rfl, hS, hj⟩
  · rintro k I2 hk ⟨hS, hj⟩ ih
    have h32 : I2 3 2 = nI nh := by rw [hS 3 (by decide)]; exact hh
    have hp2 := hp.sm hS (by decide) (by decide) (by decide) (by decide)
    refine Ex.iload (pc := 5) dX6_whoHolds_5 rfl ?_
    refine Ex.aload_n (pc := 7) dX6_whoHolds_7 rfl rfl ?_
    refine Ex.getR (pc := 8) dX6_whoHolds_8 fX6_37 (sh16 _) r16_0 ?_
    refine Ex.getR (pc := 11) dX6_whoHolds_11 fX6_92 (sh2 _) r2_0 ?_
    refine Ex.iconst (pc := 14) (v := 2) dX6_whoHolds_14 rfl ?_
    refine Ex.iald (pc := 15) (j := 2) dX6_whoHolds_15 (sh3 _) (by unfold vp_in; decide) (by decide) ?_
    refine Ex.icmp_ge (pc := 16) (tgt := 87) dX6_whoHolds_16 (by decide) (fun c16 => absurd c16 (by rw [h32]; exact nI_ge hk (by omega))) (fun _ => ?_)
    refine Ex.iload_n (pc := 19) dX6_whoHolds_19 rfl rfl ?_
    refine Ex.iload (pc := 20) dX6_whoHolds_20 rfl ?_
    refine Ex.ishr (pc := 22) dX6_whoHolds_22 ?_
    refine Ex.iconst (pc := 23) (v := 1) dX6_whoHolds_23 rfl ?_
    refine Ex.iand (pc := 24) dX6_whoHolds_24 ?_
    refine Ex.iconst (pc := 25) (v := 1) dX6_whoHolds_25 rfl ?_
    refine Ex.icmp_ne (pc := 26) (tgt := 81) dX6_whoHolds_26 (by decide) (fun c26 => ?_) (fun c26 => ?_)
    · skip
      refine Ex.iinc (pc := 81) (ls' := [some (.ref 16), some (.int _), some (.int _), some (.int _), some (.int _)]) dX6_whoHolds_81 rfl rfl (by decide) rfl rfl ?_
      refine Ex.goto (pc := 84) (tgt := 5) dX6_whoHolds_84 (by decide) ?_
      rw [show nI k + Int32.ofInt 1 = nI (k + 1) from nI_1 k]
      refine Ex.le (ls' := [some (.ref 16), some (.int (nI (9 + r))), some (.int hb), some (.int (whoF p (I 17) r (fun k => I 5 (12 + k)) (fun k => I 6 (12 + k)) hb (k + 1))), some (.int (nI (k + 1)))]) ⟨rfl, rfl, rfl, ?_, rfl, trivial⟩ (ih _ ⟨hS, hj⟩)
      refine congrArg Value.int ?_
      simp only [whoF]
      rw [if_pos c26]
    · skip
      refine Ex.aload_n (pc := 29) dX6_whoHolds_29 rfl rfl ?_
      refine Ex.getR (pc := 30) dX6_whoHolds_30 fX6_9 (sh16 _) r16_1 ?_
      refine Ex.bipush (pc := 33) (v := 7) dX6_whoHolds_33 rfl ?_
      refine Ex.aload_n (pc := 35) dX6_whoHolds_35 rfl rfl ?_
      refine Ex.getR (pc := 36) dX6_whoHolds_36 fX6_37 (sh16 _) r16_0 ?_
      refine Ex.iload (pc := 39) dX6_whoHolds_39 rfl ?_
      refine Ex.callV (pc := 41) (As := [.int _]) (rest := [.int 7, .ref 17]) dX6_whoHolds_41 cX6_107 (t_sin (j := k) (by omega)) (sh2 _) rfl rfl (by decide) (Nat.le_refl _) (Nat.le_refl _) (Nat.le_of_ble_eq_true rfl) (Or.inl (fun r S' h => by obtain ⟨_, h⟩ := h; subst h; rfl)) (fun r S' hq _ _ => ?_)
      obtain ⟨rfl, rfl⟩ := hq
      refine Ex.iast (pc := 44) (j := 7) dX6_whoHolds_44 (sh17 _) (by unfold vp_in; decide) (by decide) ?_
      refine Ex.aload_n (pc := 45) dX6_whoHolds_45 rfl rfl ?_
      refine Ex.getR (pc := 46) dX6_whoHolds_46 fX6_9 (sh16 _) r16_1 ?_
      refine Ex.bipush (pc := 49) (v := 8) dX6_whoHolds_49 rfl ?_
      refine Ex.aload_n (pc := 51) dX6_whoHolds_51 rfl rfl ?_
      refine Ex.getR (pc := 52) dX6_whoHolds_52 fX6_37 (sh16 _) r16_0 ?_
      refine Ex.iload (pc := 55) dX6_whoHolds_55 rfl ?_
      refine Ex.callV (pc := 57) (As := [.int _]) (rest := [.int 8, .ref 17]) dX6_whoHolds_57 cX6_110 (t_ear (j := k) (by omega)) (sh2 _) rfl rfl (by decide) (Nat.le_refl _) (Nat.le_refl _) (Nat.le_of_ble_eq_true rfl) (Or.inl (fun r S' h => by obtain ⟨_, h⟩ := h; subst h; rfl)) (fun r S' hq _ _ => ?_)
      obtain ⟨rfl, rfl⟩ := hq
      refine Ex.iast (pc := 60) (j := 8) dX6_whoHolds_60 (sh17 _) (by unfold vp_in; decide) (by decide) ?_
      refine Ex.iload_n (pc := 61) dX6_whoHolds_61 rfl rfl ?_
      refine Ex.aload_n (pc := 62) dX6_whoHolds_62 rfl rfl ?_
      refine Ex.iload_n (pc := 63) dX6_whoHolds_63 rfl rfl ?_
      refine Ex.iconst (pc := 64) (v := 0) dX6_whoHolds_64 rfl ?_
      refine Ex.callV (pc := 65) (As := [.int _, .int 0]) (rest := [.int _]) dX6_whoHolds_65 cX6_62 (t_value (r := r) (p := p) (hp2.sm (((Sm.rf (l := [17])).up (by decide)).up (by decide)) (by decide) (by decide) (by decide) (by decide)).1 hr) (sh16 _) rfl rfl (by decide) (Nat.le_refl _) (Nat.le_refl _) (Nat.le_of_ble_eq_true rfl) (Or.inl (fun r S' h => by obtain ⟨_, _, h, _⟩ := h; subst h; rfl)) (fun r S' hq _ _ => ?_)
      obtain ⟨I4, rfl, rfl, hS4⟩ := hq
      have hev : evV p (va_up (va_up I2 17 (upd (I2 17) 7 (I2 5 (12 + k)))) 17 (upd (va_up I2 17 (upd (I2 17) 7 (I2 5 (12 + k))) 17) 8 (va_up I2 17 (upd (I2 17) 7 (I2 5 (12 + k))) 6 (12 + k))) 17) r 0 = evV p (upd (upd (I 17) 7 (I 5 (12 + k))) 8 (I 6 (12 + k))) r 0 := by
        refine congrArg (fun z => evV p z r 0) ?_
        funext j
        rw [va_up_s, va_up_s, va_up_n (by decide), hS 5 (by decide), hS 6 (by decide)]
        by_cases h8 : j = 8
        · rw [h8, upd_s, upd_s]
        · rw [upd_n h8, upd_n h8]
          by_cases h7 : j = 7
          · rw [h7, upd_s, upd_s]
          · rw [upd_n h7, upd_n h7]; exact hj j h7 h8
      refine Ex.if_eq (pc := 68) (tgt := 78) dX6_whoHolds_68 (by decide) (fun c68 => ?_) (fun c68 => ?_)
      · skip
        refine Ex.iconst (pc := 78) (v := 0) dX6_whoHolds_78 rfl ?_
        refine Ex.ior (pc := 79) dX6_whoHolds_79 ?_
        refine Ex.istore_n (pc := 80) (ls' := [some (.ref 16), some (.int _), some (.int _), some (.int _), some (.int _)]) dX6_whoHolds_80 rfl (by decide) rfl rfl ?_
        refine Ex.iinc (pc := 81) (ls' := [some (.ref 16), some (.int _), some (.int _), some (.int _), some (.int _)]) dX6_whoHolds_81 rfl rfl (by decide) rfl rfl ?_
        refine Ex.goto (pc := 84) (tgt := 5) dX6_whoHolds_84 (by decide) ?_
        rw [show nI k + Int32.ofInt 1 = nI (k + 1) from nI_1 k]
        rw [hev] at c68
        refine Ex.le (ls' := [some (.ref 16), some (.int (nI (9 + r))), some (.int hb), some (.int (whoF p (I 17) r (fun k => I 5 (12 + k)) (fun k => I 6 (12 + k)) hb (k + 1))), some (.int (nI (k + 1)))]) ⟨rfl, rfl, rfl, ?_, rfl, trivial⟩ (ih _ ⟨((hS.up (by decide)).up (by decide)).tr hS4 (by decide) (by decide), ?_⟩)
        · refine congrArg Value.int ?_
          simp only [whoF]
          rw [if_neg (fun q => q c26), if_pos c68]
        · intro j h7 h8
          rw [hS4 17 (by decide), va_up_s, upd_n h8, va_up_s, upd_n h7]
          exact hj j h7 h8
      · skip
        refine Ex.iconst (pc := 71) (v := 1) dX6_whoHolds_71 rfl ?_
        refine Ex.iload (pc := 72) dX6_whoHolds_72 rfl ?_
        refine Ex.ishl (pc := 74) dX6_whoHolds_74 ?_
        refine Ex.goto (pc := 75) (tgt := 79) dX6_whoHolds_75 (by decide) ?_
        refine Ex.ior (pc := 79) dX6_whoHolds_79 ?_
        refine Ex.istore_n (pc := 80) (ls' := [some (.ref 16), some (.int _), some (.int _), some (.int _), some (.int _)]) dX6_whoHolds_80 rfl (by decide) rfl rfl ?_
        refine Ex.iinc (pc := 81) (ls' := [some (.ref 16), some (.int _), some (.int _), some (.int _), some (.int _)]) dX6_whoHolds_81 rfl rfl (by decide) rfl rfl ?_
        refine Ex.goto (pc := 84) (tgt := 5) dX6_whoHolds_84 (by decide) ?_
        rw [show nI k + Int32.ofInt 1 = nI (k + 1) from nI_1 k]
        rw [hev] at c68
        refine Ex.le (ls' := [some (.ref 16), some (.int (nI (9 + r))), some (.int hb), some (.int (whoF p (I 17) r (fun k => I 5 (12 + k)) (fun k => I 6 (12 + k)) hb (k + 1))), some (.int (nI (k + 1)))]) ⟨rfl, rfl, rfl, ?_, rfl, trivial⟩ (ih _ ⟨((hS.up (by decide)).up (by decide)).tr hS4 (by decide) (by decide), ?_⟩)
        · refine congrArg Value.int ?_
          simp only [whoF]
          rw [if_neg (fun q => q c26), if_neg c68]
        · intro j h7 h8
          rw [hS4 17 (by decide), va_up_s, upd_n h8, va_up_s, upd_n h7]
          exact hj j h7 h8
