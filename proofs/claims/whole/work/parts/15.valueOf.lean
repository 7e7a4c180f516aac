/-- how many values a step takes -/
def nd (k : Nat) : Nat := if k ≤ 1 then 0 else if k = 14 then 1 else if k = 15 then 3 else 2
/-- the stack's row behind a step of kind k, number v, at z values -/
def stG (nm : Nat → Int32) (k v z : Nat) (g : Nat → Int32) : Nat → Int32 :=
  upd g (z - nd k) (if k ≤ 1 then (if k = 0 then nI v else nm v) else if k ≤ 6 then clampM (rkL (nI k) (g (z - nd k)).toInt64 (g (z - nd k + 1)).toInt64) else weighV (nI k) (g (z - nd k)) (g (z - nd k + 1)) (g (z - nd k + 2)))
/-- how many values behind n steps from f on -/
def zAt (kd : Nat → Nat) (f : Nat) : Nat → Nat
  | 0 => 0
  | n + 1 => zAt kd f n - nd (kd (f + n)) + 1
def gAt (nm : Nat → Int32) (kd nu : Nat → Nat) (f : Nat) (g : Nat → Int32) : Nat → Nat → Int32
  | 0 => g
  | n + 1 => stG nm (kd (f + n)) (nu (f + n)) (zAt kd f n) (gAt nm kd nu f g n)
/-- n steps from f on keep the stack between 0 and 62 values -/
def okAt (kd : Nat → Nat) (f n : Nat) : Prop := ∀ i, i < n → nd (kd (f + i)) ≤ zAt kd f i ∧ zAt kd f i ≤ 61
theorem nd_le (k : Nat) : nd k ≤ 3 := by unfold nd; split <;> (try split) <;> (try split) <;> omega
/-- the row of steps tells kinds and numbers -/
def stepsOk (I : aI) (kd nu : Nat → Nat) (f u : Nat) : Prop := ∀ t, f ≤ t → t < u → I 9 t = nI (kd t * 16384 + nu t) ∧ kd t < 16 ∧ nu t < 16384 ∧ (kd t = 1 → nu t < 20)
theorem kd_of {k v : Nat} (hk : k < 16) (hv : v < 16384) : nI (k * 16384 + v) >>> ((14 : Int32) &&& 31) = nI k := by
  rw [pk_shrN (by omega) _ 14 (by decide)]
  congr 1
  omega
theorem nu_of {k v : Nat} (hk : k < 16) (hv : v < 16384) : nI (k * 16384 + v) &&& (16383 : Int32) = nI v := by
  rw [pk_andN (by omega) 14 (by decide)]
  congr 1
  omega
theorem Ex.mm {d mc ms : Nat} {mi : aM} {k n pc : Nat} {ls : aLs} {st : List Value} {S S' : aS} {Q : aQ} (h : S = S') (kk : Ex d mc ms mi k n pc ls st S' Q) : Ex d mc ms mi k n pc ls st S Q := h ▸ kk
theorem zAt_pos (kd : Nat → Nat) (f n : Nat) (h : 0 < n) : 0 < zAt kd f n := by
  cases n with
  | zero => omega
  | succ n => simp only [zAt]; omega

set_option maxRecDepth 20000 in
theorem t_valueOf {N : Nat} {I : aI} {L : aL} {r f u c : Nat} {w0 : Int32} {kd nu : Nat → Nat} (hr : r < 5) (hf : I 7 r = nI f) (hu : I 8 r = nI u) (hc : I 2 8 = nI c) (hfu : f ≤ u) (huc : u ≤ c) (hcN : c ≤ N) (hN : N ≤ 1600) (hst : stepsOk I kd nu f u) (hok : okAt kd f (u - f)) : Run 2 0 0 mX6_valueOf [.ref 16, .int (nI (9 + r)), .int w0] (St N I L) (RI (if f = u then w0 else gAt (I 17) kd nu f (I 18) (u - f) 0) (St N (va_up I 18 (gAt (I 17) kd nu f (I 18) (u - f))) L)) := by
  refine Run.of (ls := [some (.ref 16), some (.int _), some (.int _), none, none, none, none, none, none]) (by decide) (Nat.le_of_ble_eq_true rfl) rfl ?_
  refine Ex.aload_n (pc := 0) dX6_valueOf_0 rfl rfl ?_
  refine Ex.getR (pc := 1) dX6_valueOf_1 fX6_37 (sh16 _) r16_0 ?_
  refine Ex.getR (pc := 4) dX6_valueOf_4 fX6_113 (sh2 _) r2_9 ?_
  refine Ex.iload_n (pc := 7) dX6_valueOf_7 rfl rfl ?_
  refine Ex.bipush (pc := 8) (v := 9) dX6_valueOf_8 rfl ?_
  refine Ex.isub (pc := 10) dX6_valueOf_10 ?_
  refine Ex.iald (pc := 11) (j := r) dX6_valueOf_11 (sh7 _) (by rw [show nI (9 + r) - 9 = nI r from by rw [show nI (9 + r) - 9 = nI (9 + r - 9) from pk_sub (b := 9) (by omega), Nat.add_sub_cancel_left]]; exact vp_in_nI hr (by decide)) (by rw [show nI (9 + r) - 9 = nI r from by rw [show nI (9 + r) - 9 = nI (9 + r - 9) from pk_sub (b := 9) (by omega), Nat.add_sub_cancel_left]]; exact nI_clamp (by omega)) ?_
  rw [hf]
  refine Ex.istore_n (pc := 12) (ls' := [some (.ref 16), some (.int _), some (.int _), some (.int _), none, none, none, none, none]) dX6_valueOf_12 rfl (by decide) rfl rfl ?_
  refine Ex.aload_n (pc := 13) dX6_valueOf_13 rfl rfl ?_
  refine Ex.getR (pc := 14) dX6_valueOf_14 fX6_37 (sh16 _) r16_0 ?_
  refine Ex.getR (pc := 17) dX6_valueOf_17 fX6_116 (sh2 _) r2_10 ?_
  refine Ex.iload_n (pc := 20) dX6_valueOf_20 rfl rfl ?_
  refine Ex.bipush (pc := 21) (v := 9) dX6_valueOf_21 rfl ?_
  refine Ex.isub (pc := 23) dX6_valueOf_23 ?_
  refine Ex.iald (pc := 24) (j := r) dX6_valueOf_24 (sh8 _) (by rw [show nI (9 + r) - 9 = nI r from by rw [show nI (9 + r) - 9 = nI (9 + r - 9) from pk_sub (b := 9) (by omega), Nat.add_sub_cancel_left]]; exact vp_in_nI hr (by decide)) (by rw [show nI (9 + r) - 9 = nI r from by rw [show nI (9 + r) - 9 = nI (9 + r - 9) from pk_sub (b := 9) (by omega), Nat.add_sub_cancel_left]]; exact nI_clamp (by omega)) ?_
  refine Ex.aload_n (pc := 25) dX6_valueOf_25 rfl rfl ?_
  refine Ex.getR (pc := 26) dX6_valueOf_26 fX6_37 (sh16 _) r16_0 ?_
  refine Ex.getI (pc := 29) dX6_valueOf_29 fX6_119 (sh2 _) ?_
  refine Ex.min (pc := 32) dX6_valueOf_32 kl_X6_71 (by decide) (Nat.le_of_ble_eq_true rfl) (Nat.le_refl _) (Nat.le_refl _) ?_
  rw [show (if I 2 8 < I 8 r then I 2 8 else I 8 r) = nI u from by rw [hc, hu, if_neg (nI_nlt huc (by omega))]]
  refine Ex.istore (pc := 35) (ls' := [some (.ref 16), some (.int _), some (.int _), some (.int _), some (.int _), none, none, none, none]) dX6_valueOf_35 (by decide) rfl rfl ?_
  refine Ex.iconst (pc := 37) (v := 0) dX6_valueOf_37 rfl ?_
  refine Ex.istore (pc := 38) (ls' := [some (.ref 16), some (.int _), some (.int _), some (.int _), some (.int _), some (.int 0), none, none, none]) dX6_valueOf_38 (by decide) rfl rfl ?_
  refine Ex.iload_n (pc := 40) dX6_valueOf_40 rfl rfl ?_
  refine Ex.istore (pc := 41) (ls' := [some (.ref 16), some (.int _), some (.int _), some (.int _), some (.int _), some (.int 0), some (.int _), none, none]) dX6_valueOf_41 (by decide) rfl rfl ?_
  obtain ⟨n, hn⟩ : ∃ n, n = u - f := ⟨_, rfl⟩
  rw [← hn] at hok ⊢
  have e0 : va_up I 18 (gAt (I 17) kd nu f (I 18) 0) = I := by
    funext a
    by_cases h : a = 18
    · subst h; rw [va_up_s]; rfl
    · rw [va_up_n h]
  refine forUp (σ := Unit) (P := fun k _ => Ex 2 0 0 mX6_valueOf 0 0 43 [some (.ref 16), some (.int (nI (9 + r))), some (.int w0), some (.int (nI f)), some (.int (nI u)), some (.int (nI (zAt kd f k))), some (.int (nI (f + k))), none, none] [] (St N (va_up I 18 (gAt (I 17) kd nu f (I 18) k)) L) _) (Inv := fun k _ => k ≤ n) n ?_ ?_ 0 () (Nat.zero_le _) (Nat.zero_le _) |> fun h => by rw [e0] at h; exact h
  · rintro - hk
    have efu : f + n = u := by omega
    rw [efu]
    by_cases h0 : n = 0
    · have e5 : f = u := by omega
      subst h0
      refine Ex.iload (pc := 43) dX6_valueOf_43 rfl ?_
      refine Ex.iload (pc := 45) dX6_valueOf_45 rfl ?_
      refine Ex.icmp_ge (pc := 47) (tgt := 230) dX6_valueOf_47 (by decide) (fun _ => ?_) (fun c47 => absurd (nI_le (Nat.le_refl u) (by omega)) c47)
      refine Ex.iload (pc := 230) dX6_valueOf_230 rfl ?_
      refine Ex.if_le (pc := 232) (tgt := 244) dX6_valueOf_232 (by decide) (fun _ => ?_) (fun c232 => absurd (show nI 0 ≤ 0 from by decide) c232)
      refine Ex.iload_n (pc := 244) dX6_valueOf_244 rfl rfl ?_
      refine Ex.iret (pc := 245) rfl rfl rfl dX6_valueOf_245 (Nat.le_refl _) (Nat.le_refl _) ?_
      exact ⟨by rw [if_pos e5], rfl⟩
    · have e5 : ¬ f = u := by omega
      have hz := zAt_pos kd f n (by omega)
      have hz2 : zAt kd f n ≤ 62 := by
        obtain ⟨n1, rfl⟩ : ∃ n1, n = n1 + 1 := ⟨n - 1, by omega⟩
        have := (hok n1 (by omega)).2
        simp only [zAt]; omega
      refine Ex.iload (pc := 43) dX6_valueOf_43 rfl ?_
      refine Ex.iload (pc := 45) dX6_valueOf_45 rfl ?_
      refine Ex.icmp_ge (pc := 47) (tgt := 230) dX6_valueOf_47 (by decide) (fun _ => ?_) (fun c47 => absurd (nI_le (Nat.le_refl u) (by omega)) c47)
      refine Ex.iload (pc := 230) dX6_valueOf_230 rfl ?_
      refine Ex.if_le (pc := 232) (tgt := 244) dX6_valueOf_232 (by decide) (fun c232 => absurd c232 (nI_nle hz (by omega))) (fun _ => ?_)
      refine Ex.aload_n (pc := 235) dX6_valueOf_235 rfl rfl ?_
      refine Ex.getR (pc := 236) dX6_valueOf_236 fX6_15 (sh16 _) r16_2 ?_
      refine Ex.iconst (pc := 239) (v := 0) dX6_valueOf_239 rfl ?_
      refine Ex.iald (pc := 240) (j := 0) dX6_valueOf_240 (sh18 _) (by unfold vp_in; decide) (by decide) ?_
      refine Ex.goto (pc := 241) (tgt := 245) dX6_valueOf_241 (by decide) ?_
      refine Ex.iret (pc := 245) rfl rfl rfl dX6_valueOf_245 (Nat.le_refl _) (Nat.le_refl _) ?_
      exact ⟨by rw [if_neg e5, va_up_s], rfl⟩
  · rintro k - hk - ih
    obtain ⟨hz1, hz2⟩ := hok k hk
    obtain ⟨hw, hκ, hν, hν2⟩ := hst (f + k) (by omega) (by omega)
    have hν3 := hν
    generalize hG : gAt (I 17) kd nu f (I 18) k = G
    have hGn : gAt (I 17) kd nu f (I 18) (k + 1) = stG (I 17) (kd (f + k)) (nu (f + k)) (zAt kd f k) G := by rw [← hG]; rfl
    have hzn : zAt kd f (k + 1) = zAt kd f k - nd (kd (f + k)) + 1 := rfl
    rw [hGn, hzn] at ih
    generalize hκe : kd (f + k) = κ at *
    generalize hνe : nu (f + k) = ν at *
    generalize hze : zAt kd f k = z at *
    have h9 : va_up I 18 G 9 (f + k) = nI (κ * 16384 + ν) := by rw [va_up_n (by decide), hw]
    rcases (show κ ≤ 1 ∨ (2 ≤ κ ∧ κ ≤ 6) ∨ (7 ≤ κ ∧ κ ≤ 13) ∨ κ = 14 ∨ κ = 15 by omega) with h | h | h | h | h
    · have hnd : nd κ = 0 := by simp [nd, h]
      refine Ex.iload (pc := 43) dX6_valueOf_43 rfl ?_
      refine Ex.iload (pc := 45) dX6_valueOf_45 rfl ?_
      refine Ex.icmp_ge (pc := 47) (tgt := 230) dX6_valueOf_47 (by decide) (fun c47 => absurd c47 (nI_ge (by omega) (by omega))) (fun _ => ?_)
      refine Ex.aload_n (pc := 50) dX6_valueOf_50 rfl rfl ?_
      refine Ex.getR (pc := 51) dX6_valueOf_51 fX6_37 (sh16 _) r16_0 ?_
      refine Ex.getR (pc := 54) dX6_valueOf_54 fX6_122 (sh2 _) r2_7 ?_
      refine Ex.iload (pc := 57) dX6_valueOf_57 rfl ?_
      refine Ex.iald (pc := 59) (j := f + k) dX6_valueOf_59 (sh9 _) (vp_in_nI (by omega) (by omega)) (ixN2 (by omega)) ?_
      refine Ex.bipush (pc := 60) (v := 14) dX6_valueOf_60 rfl ?_
      refine Ex.ishr (pc := 62) dX6_valueOf_62 ?_
      refine Ex.istore (pc := 63) (ls' := [some (.ref 16), some (.int _), some (.int _), some (.int _), some (.int _), some (.int _), some (.int _), some (.int _), none]) dX6_valueOf_63 (by decide) rfl rfl ?_
      refine Ex.le (ls' := [some (.ref 16), some (.int (nI (9 + r))), some (.int w0), some (.int (nI f)), some (.int (nI u)), some (.int (nI z)), some (.int (nI (f + k))), some (.int (nI κ)), none]) ⟨rfl, rfl, rfl, rfl, rfl, rfl, rfl, ?_, trivial⟩ ?_
      · rw [h9, kd_of hκ hν]
      refine Ex.iload (pc := 65) dX6_valueOf_65 rfl ?_
      refine Ex.iconst (pc := 67) (v := 1) dX6_valueOf_67 rfl ?_
      refine Ex.icmp_gt (pc := 68) (tgt := 75) dX6_valueOf_68 (by decide) (fun c68 => absurd c68 (by rw [Int32.not_lt]; exact nI_le (b := 1) h (by decide))) (fun _ => ?_)
      refine Ex.iconst (pc := 71) (v := 0) dX6_valueOf_71 rfl ?_
      refine Ex.goto (pc := 72) (tgt := 98) dX6_valueOf_72 (by decide) ?_
      refine Ex.istore (pc := 98) (ls' := [some (.ref 16), some (.int _), some (.int _), some (.int _), some (.int _), some (.int _), some (.int _), some (.int _), some (.int 0)]) dX6_valueOf_98 (by decide) rfl rfl ?_
      refine Ex.iload (pc := 100) dX6_valueOf_100 rfl ?_
      refine Ex.iload (pc := 102) dX6_valueOf_102 rfl ?_
      refine Ex.icmp_lt (pc := 104) (tgt := 117) dX6_valueOf_104 (by decide) (fun c104 => absurd c104 (nI_nlt (b := 0) (by omega) (by omega))) (fun _ => ?_)
      refine Ex.iload (pc := 107) dX6_valueOf_107 rfl ?_
      refine Ex.iload (pc := 109) dX6_valueOf_109 rfl ?_
      refine Ex.isub (pc := 111) dX6_valueOf_111 ?_
      refine Ex.bipush (pc := 112) (v := 64) dX6_valueOf_112 rfl ?_
      refine Ex.icmp_lt (pc := 114) (tgt := 119) dX6_valueOf_114 (by decide) (fun _ => ?_) (fun c114 => absurd (by rw [show nI z - 0 = nI (z - 0) from pk_sub (b := 0) (by omega)]; exact nI_lt (b := 64) (by omega) (by decide)) c114)
      refine Ex.iload (pc := 119) dX6_valueOf_119 rfl ?_
      refine Ex.iload (pc := 121) dX6_valueOf_121 rfl ?_
      refine Ex.isub (pc := 123) dX6_valueOf_123 ?_
      refine Ex.istore (pc := 124) (ls' := [some (.ref 16), some (.int _), some (.int _), some (.int _), some (.int _), some (.int _), some (.int _), some (.int _), some (.int 0)]) dX6_valueOf_124 (by decide) rfl rfl ?_
      refine Ex.le (ls' := [some (.ref 16), some (.int (nI (9 + r))), some (.int w0), some (.int (nI f)), some (.int (nI u)), some (.int (nI (z - 0))), some (.int (nI (f + k))), some (.int (nI κ)), some (.int 0)]) ⟨rfl, rfl, rfl, rfl, rfl, ?_, rfl, rfl, rfl, trivial⟩ ?_
      · rw [Int32.sub_zero]; rfl
      refine Ex.iload (pc := 126) dX6_valueOf_126 rfl ?_
      refine Ex.if_ne (pc := 128) (tgt := 161) dX6_valueOf_128 (by decide) (fun c128 => absurd rfl c128) (fun _ => ?_)
      refine Ex.aload_n (pc := 131) dX6_valueOf_131 rfl rfl ?_
      refine Ex.getR (pc := 132) dX6_valueOf_132 fX6_15 (sh16 _) r16_2 ?_
      refine Ex.iload (pc := 135) dX6_valueOf_135 rfl ?_
      refine Ex.aload_n (pc := 137) dX6_valueOf_137 rfl rfl ?_
      refine Ex.iload (pc := 138) dX6_valueOf_138 rfl ?_
      refine Ex.aload_n (pc := 140) dX6_valueOf_140 rfl rfl ?_
      refine Ex.getR (pc := 141) dX6_valueOf_141 fX6_37 (sh16 _) r16_0 ?_
      refine Ex.getR (pc := 144) dX6_valueOf_144 fX6_122 (sh2 _) r2_7 ?_
      refine Ex.iload (pc := 147) dX6_valueOf_147 rfl ?_
      refine Ex.iald (pc := 149) (j := f + k) dX6_valueOf_149 (sh9 _) (vp_in_nI (by omega) (by omega)) (ixN2 (by omega)) ?_
      refine Ex.sipush (pc := 150) (v := 16383) dX6_valueOf_150 rfl ?_
      refine Ex.iand (pc := 153) dX6_valueOf_153 ?_
      rw [h9, nu_of hκ hν]
      refine Ex.callV (pc := 154) (As := [.int _, .int _]) (rest := [.int _, .ref 18]) dX6_valueOf_154 cX6_125 (t_put (k := κ) (v := ν) (by omega) hν2 hν) (sh16 _) rfl rfl (by decide) (Nat.le_refl _) (Nat.le_refl _) (Nat.le_of_ble_eq_true rfl) (Or.inl (fun r S' h => by obtain ⟨_, h⟩ := h; subst h; rfl)) (fun r S' hq _ _ => ?_)
      obtain ⟨rfl, rfl⟩ := hq
      refine Ex.iast (pc := 157) (j := z) dX6_valueOf_157 (sh18 _) (vp_in_nI (by omega) (by decide)) (ixN2 (by omega)) ?_
      refine Ex.goto (pc := 158) (tgt := 221) dX6_valueOf_158 (by decide) ?_
      refine Ex.iinc (pc := 221) (ls' := [some (.ref 16), some (.int _), some (.int _), some (.int _), some (.int _), some (.int _), some (.int _), some (.int _), some (.int 0)]) dX6_valueOf_221 rfl rfl (by decide) rfl rfl ?_
      refine Ex.iinc (pc := 224) (ls' := [some (.ref 16), some (.int _), some (.int _), some (.int _), some (.int _), some (.int _), some (.int _), some (.int _), some (.int 0)]) dX6_valueOf_224 rfl rfl (by decide) rfl rfl ?_
      refine Ex.goto (pc := 227) (tgt := 43) dX6_valueOf_227 (by decide) ?_
      refine Ex.mm (S' := St N (va_up I 18 (stG (I 17) κ ν z G)) L) ?_ ?_
      · rw [bx_uu]
        unfold stG
        rw [hnd, if_pos h, va_up_s, va_up_n (by decide)]; rfl
      refine Ex.le (ls' := [some (.ref 16), some (.int (nI (9 + r))), some (.int w0), some (.int (nI f)), some (.int (nI u)), some (.int (nI (z - nd κ + 1))), some (.int (nI (f + (k + 1)))), none, none]) ⟨rfl, rfl, rfl, rfl, rfl, ?_, ?_, trivial⟩ (ih () (by omega))
      · rw [hnd]; rw [show nI (z - 0) + Int32.ofInt 1 = nI (z - 0 + 1) from nI_1 _]
      · rw [show nI (f + k) + Int32.ofInt 1 = nI (f + (k + 1)) from nI_1 _]
    · have hnd : nd κ = 2 := by unfold nd; rw [if_neg (by omega), if_neg (by omega), if_neg (by omega)]
      rw [hnd] at hz1
      refine Ex.iload (pc := 43) dX6_valueOf_43 rfl ?_
      refine Ex.iload (pc := 45) dX6_valueOf_45 rfl ?_
      refine Ex.icmp_ge (pc := 47) (tgt := 230) dX6_valueOf_47 (by decide) (fun c47 => absurd c47 (nI_ge (by omega) (by omega))) (fun _ => ?_)
      refine Ex.aload_n (pc := 50) dX6_valueOf_50 rfl rfl ?_
      refine Ex.getR (pc := 51) dX6_valueOf_51 fX6_37 (sh16 _) r16_0 ?_
      refine Ex.getR (pc := 54) dX6_valueOf_54 fX6_122 (sh2 _) r2_7 ?_
      refine Ex.iload (pc := 57) dX6_valueOf_57 rfl ?_
      refine Ex.iald (pc := 59) (j := f + k) dX6_valueOf_59 (sh9 _) (vp_in_nI (by omega) (by omega)) (ixN2 (by omega)) ?_
      refine Ex.bipush (pc := 60) (v := 14) dX6_valueOf_60 rfl ?_
      refine Ex.ishr (pc := 62) dX6_valueOf_62 ?_
      refine Ex.istore (pc := 63) (ls' := [some (.ref 16), some (.int _), some (.int _), some (.int _), some (.int _), some (.int _), some (.int _), some (.int _), none]) dX6_valueOf_63 (by decide) rfl rfl ?_
      refine Ex.le (ls' := [some (.ref 16), some (.int (nI (9 + r))), some (.int w0), some (.int (nI f)), some (.int (nI u)), some (.int (nI z)), some (.int (nI (f + k))), some (.int (nI κ)), none]) ⟨rfl, rfl, rfl, rfl, rfl, rfl, rfl, ?_, trivial⟩ ?_
      · rw [h9, kd_of hκ hν]
      refine Ex.iload (pc := 65) dX6_valueOf_65 rfl ?_
      refine Ex.iconst (pc := 67) (v := 1) dX6_valueOf_67 rfl ?_
      refine Ex.icmp_gt (pc := 68) (tgt := 75) dX6_valueOf_68 (by decide) (fun _ => ?_) (fun c68 => absurd (nI_lt (a := 1) (by omega) (by omega)) c68)
      refine Ex.iload (pc := 75) dX6_valueOf_75 rfl ?_
      refine Ex.bipush (pc := 77) (v := 14) dX6_valueOf_77 rfl ?_
      refine Ex.icmp_ne (pc := 79) (tgt := 86) dX6_valueOf_79 (by decide) (fun _ => ?_) (fun c79 => absurd c79 (fun q => absurd ((nI_eq (b := 14) (by omega) (by decide)).mp q) (by omega)))
      refine Ex.iload (pc := 86) dX6_valueOf_86 rfl ?_
      refine Ex.bipush (pc := 88) (v := 15) dX6_valueOf_88 rfl ?_
      refine Ex.icmp_ne (pc := 90) (tgt := 97) dX6_valueOf_90 (by decide) (fun _ => ?_) (fun c90 => absurd c90 (fun q => absurd ((nI_eq (b := 15) (by omega) (by decide)).mp q) (by omega)))
      refine Ex.iconst (pc := 97) (v := 2) dX6_valueOf_97 rfl ?_
      refine Ex.istore (pc := 98) (ls' := [some (.ref 16), some (.int _), some (.int _), some (.int _), some (.int _), some (.int _), some (.int _), some (.int _), some (.int 2)]) dX6_valueOf_98 (by decide) rfl rfl ?_
      refine Ex.iload (pc := 100) dX6_valueOf_100 rfl ?_
      refine Ex.iload (pc := 102) dX6_valueOf_102 rfl ?_
      refine Ex.icmp_lt (pc := 104) (tgt := 117) dX6_valueOf_104 (by decide) (fun c104 => absurd c104 (nI_nlt (b := 2) (by omega) (by omega))) (fun _ => ?_)
      refine Ex.iload (pc := 107) dX6_valueOf_107 rfl ?_
      refine Ex.iload (pc := 109) dX6_valueOf_109 rfl ?_
      refine Ex.isub (pc := 111) dX6_valueOf_111 ?_
      refine Ex.bipush (pc := 112) (v := 64) dX6_valueOf_112 rfl ?_
      refine Ex.icmp_lt (pc := 114) (tgt := 119) dX6_valueOf_114 (by decide) (fun _ => ?_) (fun c114 => absurd (by rw [show nI z - 2 = nI (z - 2) from pk_sub (b := 2) (by omega)]; exact nI_lt (b := 64) (by omega) (by decide)) c114)
      refine Ex.iload (pc := 119) dX6_valueOf_119 rfl ?_
      refine Ex.iload (pc := 121) dX6_valueOf_121 rfl ?_
      refine Ex.isub (pc := 123) dX6_valueOf_123 ?_
      refine Ex.istore (pc := 124) (ls' := [some (.ref 16), some (.int _), some (.int _), some (.int _), some (.int _), some (.int _), some (.int _), some (.int _), some (.int 2)]) dX6_valueOf_124 (by decide) rfl rfl ?_
      refine Ex.le (ls' := [some (.ref 16), some (.int (nI (9 + r))), some (.int w0), some (.int (nI f)), some (.int (nI u)), some (.int (nI (z - 2))), some (.int (nI (f + k))), some (.int (nI κ)), some (.int 2)]) ⟨rfl, rfl, rfl, rfl, rfl, ?_, rfl, rfl, rfl, trivial⟩ ?_
      · rw [show nI z - 2 = nI (z - 2) from pk_sub (b := 2) (by omega)]
      refine Ex.iload (pc := 126) dX6_valueOf_126 rfl ?_
      refine Ex.if_ne (pc := 128) (tgt := 161) dX6_valueOf_128 (by decide) (fun _ => ?_) (fun c128 => absurd c128 (by decide))
      refine Ex.iload (pc := 161) dX6_valueOf_161 rfl ?_
      refine Ex.bipush (pc := 163) (v := 6) dX6_valueOf_163 rfl ?_
      refine Ex.icmp_gt (pc := 165) (tgt := 206) dX6_valueOf_165 (by decide) (fun c165 => absurd c165 (by rw [Int32.not_lt]; exact nI_le (b := 6) (by omega) (by decide))) (fun _ => ?_)
      refine Ex.aload_n (pc := 168) dX6_valueOf_168 rfl rfl ?_
      refine Ex.getR (pc := 169) dX6_valueOf_169 fX6_15 (sh16 _) r16_2 ?_
      refine Ex.iload (pc := 172) dX6_valueOf_172 rfl ?_
      refine Ex.iload (pc := 174) dX6_valueOf_174 rfl ?_
      refine Ex.aload_n (pc := 176) dX6_valueOf_176 rfl rfl ?_
      refine Ex.getR (pc := 177) dX6_valueOf_177 fX6_15 (sh16 _) r16_2 ?_
      refine Ex.iload (pc := 180) dX6_valueOf_180 rfl ?_
      refine Ex.iald (pc := 182) (j := z - 2) dX6_valueOf_182 (sh18 _) (vp_in_nI (by omega) (by decide)) (ixN2 (by omega)) ?_
      refine Ex.i2l (pc := 183) dX6_valueOf_183 ?_
      refine Ex.aload_n (pc := 184) dX6_valueOf_184 rfl rfl ?_
      refine Ex.getR (pc := 185) dX6_valueOf_185 fX6_15 (sh16 _) r16_2 ?_
      refine Ex.iload (pc := 188) dX6_valueOf_188 rfl ?_
      refine Ex.iconst (pc := 190) (v := 1) dX6_valueOf_190 rfl ?_
      refine Ex.iadd (pc := 191) dX6_valueOf_191 ?_
      refine Ex.bipush (pc := 192) (v := 63) dX6_valueOf_192 rfl ?_
      refine Ex.min (pc := 194) dX6_valueOf_194 kl_X6_71 (by decide) (Nat.le_of_ble_eq_true rfl) (Nat.le_refl _) (Nat.le_refl _) ?_
      refine Ex.iald (pc := 197) (j := z - 2 + 1) dX6_valueOf_197 (sh18 _) (by rw [show (if (63 : Int32) < nI (z - 2) + 1 then (63 : Int32) else nI (z - 2) + 1) = nI (if 63 < z - 2 + 1 then 63 else z - 2 + 1) from mn63 (q := 1) (by omega) (by decide), if_neg (by omega)]; exact vp_in_nI (by omega) (by decide)) (by rw [show (if (63 : Int32) < nI (z - 2) + 1 then (63 : Int32) else nI (z - 2) + 1) = nI (if 63 < z - 2 + 1 then 63 else z - 2 + 1) from mn63 (q := 1) (by omega) (by decide), if_neg (by omega)]; exact nI_clamp (by omega)) ?_
      refine Ex.i2l (pc := 198) dX6_valueOf_198 ?_
      refine Ex.callS (pc := 199) (As := [.int _, .long _, .long _]) (rest := [.int _, .ref 18]) dX6_valueOf_199 cX6_128 t_reckon rfl rfl (by decide) (Nat.le_refl _) (Nat.le_refl _) (Nat.le_of_ble_eq_true rfl) (Or.inl (fun r S' h => by obtain ⟨_, h⟩ := h; subst h; rfl)) (fun r S' hq _ _ => ?_)
      obtain ⟨rfl, rfl⟩ := hq
      refine Ex.iast (pc := 202) (j := z - 2) dX6_valueOf_202 (sh18 _) (vp_in_nI (by omega) (by decide)) (ixN2 (by omega)) ?_
      refine Ex.goto (pc := 203) (tgt := 221) dX6_valueOf_203 (by decide) ?_
      refine Ex.iinc (pc := 221) (ls' := [some (.ref 16), some (.int _), some (.int _), some (.int _), some (.int _), some (.int _), some (.int _), some (.int _), some (.int 2)]) dX6_valueOf_221 rfl rfl (by decide) rfl rfl ?_
      refine Ex.iinc (pc := 224) (ls' := [some (.ref 16), some (.int _), some (.int _), some (.int _), some (.int _), some (.int _), some (.int _), some (.int _), some (.int 2)]) dX6_valueOf_224 rfl rfl (by decide) rfl rfl ?_
      refine Ex.goto (pc := 227) (tgt := 43) dX6_valueOf_227 (by decide) ?_
      refine Ex.mm (S' := St N (va_up I 18 (stG (I 17) κ ν z G)) L) ?_ ?_
      · rw [bx_uu]
        unfold stG
        rw [hnd, if_neg (by omega), if_pos (by omega), va_up_s]
      refine Ex.le (ls' := [some (.ref 16), some (.int (nI (9 + r))), some (.int w0), some (.int (nI f)), some (.int (nI u)), some (.int (nI (z - nd κ + 1))), some (.int (nI (f + (k + 1)))), none, none]) ⟨rfl, rfl, rfl, rfl, rfl, ?_, ?_, trivial⟩ (ih () (by omega))
      · rw [hnd]; rw [show nI (z - 2) + Int32.ofInt 1 = nI (z - 2 + 1) from nI_1 _]
      · rw [show nI (f + k) + Int32.ofInt 1 = nI (f + (k + 1)) from nI_1 _]
    · have hnd : nd κ = 2 := by unfold nd; rw [if_neg (by omega), if_neg (by omega), if_neg (by omega)]
      rw [hnd] at hz1
      refine Ex.iload (pc := 43) dX6_valueOf_43 rfl ?_
      refine Ex.iload (pc := 45) dX6_valueOf_45 rfl ?_
      refine Ex.icmp_ge (pc := 47) (tgt := 230) dX6_valueOf_47 (by decide) (fun c47 => absurd c47 (nI_ge (by omega) (by omega))) (fun _ => ?_)
      refine Ex.aload_n (pc := 50) dX6_valueOf_50 rfl rfl ?_
      refine Ex.getR (pc := 51) dX6_valueOf_51 fX6_37 (sh16 _) r16_0 ?_
      refine Ex.getR (pc := 54) dX6_valueOf_54 fX6_122 (sh2 _) r2_7 ?_
      refine Ex.iload (pc := 57) dX6_valueOf_57 rfl ?_
      refine Ex.iald (pc := 59) (j := f + k) dX6_valueOf_59 (sh9 _) (vp_in_nI (by omega) (by omega)) (ixN2 (by omega)) ?_
      refine Ex.bipush (pc := 60) (v := 14) dX6_valueOf_60 rfl ?_
      refine Ex.ishr (pc := 62) dX6_valueOf_62 ?_
      refine Ex.istore (pc := 63) (ls' := [some (.ref 16), some (.int _), some (.int _), some (.int _), some (.int _), some (.int _), some (.int _), some (.int _), none]) dX6_valueOf_63 (by decide) rfl rfl ?_
      refine Ex.le (ls' := [some (.ref 16), some (.int (nI (9 + r))), some (.int w0), some (.int (nI f)), some (.int (nI u)), some (.int (nI z)), some (.int (nI (f + k))), some (.int (nI κ)), none]) ⟨rfl, rfl, rfl, rfl, rfl, rfl, rfl, ?_, trivial⟩ ?_
      · rw [h9, kd_of hκ hν]
      refine Ex.iload (pc := 65) dX6_valueOf_65 rfl ?_
      refine Ex.iconst (pc := 67) (v := 1) dX6_valueOf_67 rfl ?_
      refine Ex.icmp_gt (pc := 68) (tgt := 75) dX6_valueOf_68 (by decide) (fun _ => ?_) (fun c68 => absurd (nI_lt (a := 1) (by omega) (by omega)) c68)
      refine Ex.iload (pc := 75) dX6_valueOf_75 rfl ?_
      refine Ex.bipush (pc := 77) (v := 14) dX6_valueOf_77 rfl ?_
      refine Ex.icmp_ne (pc := 79) (tgt := 86) dX6_valueOf_79 (by decide) (fun _ => ?_) (fun c79 => absurd c79 (fun q => absurd ((nI_eq (b := 14) (by omega) (by decide)).mp q) (by omega)))
      refine Ex.iload (pc := 86) dX6_valueOf_86 rfl ?_
      refine Ex.bipush (pc := 88) (v := 15) dX6_valueOf_88 rfl ?_
      refine Ex.icmp_ne (pc := 90) (tgt := 97) dX6_valueOf_90 (by decide) (fun _ => ?_) (fun c90 => absurd c90 (fun q => absurd ((nI_eq (b := 15) (by omega) (by decide)).mp q) (by omega)))
      refine Ex.iconst (pc := 97) (v := 2) dX6_valueOf_97 rfl ?_
      refine Ex.istore (pc := 98) (ls' := [some (.ref 16), some (.int _), some (.int _), some (.int _), some (.int _), some (.int _), some (.int _), some (.int _), some (.int 2)]) dX6_valueOf_98 (by decide) rfl rfl ?_
      refine Ex.iload (pc := 100) dX6_valueOf_100 rfl ?_
      refine Ex.iload (pc := 102) dX6_valueOf_102 rfl ?_
      refine Ex.icmp_lt (pc := 104) (tgt := 117) dX6_valueOf_104 (by decide) (fun c104 => absurd c104 (nI_nlt (b := 2) (by omega) (by omega))) (fun _ => ?_)
      refine Ex.iload (pc := 107) dX6_valueOf_107 rfl ?_
      refine Ex.iload (pc := 109) dX6_valueOf_109 rfl ?_
      refine Ex.isub (pc := 111) dX6_valueOf_111 ?_
      refine Ex.bipush (pc := 112) (v := 64) dX6_valueOf_112 rfl ?_
      refine Ex.icmp_lt (pc := 114) (tgt := 119) dX6_valueOf_114 (by decide) (fun _ => ?_) (fun c114 => absurd (by rw [show nI z - 2 = nI (z - 2) from pk_sub (b := 2) (by omega)]; exact nI_lt (b := 64) (by omega) (by decide)) c114)
      refine Ex.iload (pc := 119) dX6_valueOf_119 rfl ?_
      refine Ex.iload (pc := 121) dX6_valueOf_121 rfl ?_
      refine Ex.isub (pc := 123) dX6_valueOf_123 ?_
      refine Ex.istore (pc := 124) (ls' := [some (.ref 16), some (.int _), some (.int _), some (.int _), some (.int _), some (.int _), some (.int _), some (.int _), some (.int 2)]) dX6_valueOf_124 (by decide) rfl rfl ?_
      refine Ex.le (ls' := [some (.ref 16), some (.int (nI (9 + r))), some (.int w0), some (.int (nI f)), some (.int (nI u)), some (.int (nI (z - 2))), some (.int (nI (f + k))), some (.int (nI κ)), some (.int 2)]) ⟨rfl, rfl, rfl, rfl, rfl, ?_, rfl, rfl, rfl, trivial⟩ ?_
      · rw [show nI z - 2 = nI (z - 2) from pk_sub (b := 2) (by omega)]
      refine Ex.iload (pc := 126) dX6_valueOf_126 rfl ?_
      refine Ex.if_ne (pc := 128) (tgt := 161) dX6_valueOf_128 (by decide) (fun _ => ?_) (fun c128 => absurd c128 (by decide))
      refine Ex.iload (pc := 161) dX6_valueOf_161 rfl ?_
      refine Ex.bipush (pc := 163) (v := 6) dX6_valueOf_163 rfl ?_
      refine Ex.icmp_gt (pc := 165) (tgt := 206) dX6_valueOf_165 (by decide) (fun _ => ?_) (fun c165 => absurd (nI_lt (a := 6) (by omega) (by omega)) c165)
      refine Ex.aload_n (pc := 206) dX6_valueOf_206 rfl rfl ?_
      refine Ex.getR (pc := 207) dX6_valueOf_207 fX6_15 (sh16 _) r16_2 ?_
      refine Ex.iload (pc := 210) dX6_valueOf_210 rfl ?_
      refine Ex.aload_n (pc := 212) dX6_valueOf_212 rfl rfl ?_
      refine Ex.iload (pc := 213) dX6_valueOf_213 rfl ?_
      refine Ex.iload (pc := 215) dX6_valueOf_215 rfl ?_
      refine Ex.callV (pc := 217) (As := [.int _, .int _]) (rest := [.int _, .ref 18]) dX6_valueOf_217 cX6_132 (t_weigh (p := z - 2) (by omega)) (sh16 _) rfl rfl (by decide) (Nat.le_refl _) (Nat.le_refl _) (Nat.le_of_ble_eq_true rfl) (Or.inl (fun r S' h => by obtain ⟨_, h⟩ := h; subst h; rfl)) (fun r S' hq _ _ => ?_)
      obtain ⟨rfl, rfl⟩ := hq
      refine Ex.iast (pc := 220) (j := z - 2) dX6_valueOf_220 (sh18 _) (vp_in_nI (by omega) (by decide)) (ixN2 (by omega)) ?_
      refine Ex.iinc (pc := 221) (ls' := [some (.ref 16), some (.int _), some (.int _), some (.int _), some (.int _), some (.int _), some (.int _), some (.int _), some (.int 2)]) dX6_valueOf_221 rfl rfl (by decide) rfl rfl ?_
      refine Ex.iinc (pc := 224) (ls' := [some (.ref 16), some (.int _), some (.int _), some (.int _), some (.int _), some (.int _), some (.int _), some (.int _), some (.int 2)]) dX6_valueOf_224 rfl rfl (by decide) rfl rfl ?_
      refine Ex.goto (pc := 227) (tgt := 43) dX6_valueOf_227 (by decide) ?_
      refine Ex.mm (S' := St N (va_up I 18 (stG (I 17) κ ν z G)) L) ?_ ?_
      · rw [bx_uu]
        unfold stG
        rw [hnd, if_neg (show ¬ κ ≤ 1 by omega), if_neg (show ¬ κ ≤ 6 by omega), va_up_s, if_neg (show ¬ 63 < z - 2 + 1 by omega), if_neg (show ¬ 63 < z - 2 + 2 by omega)]
      refine Ex.le (ls' := [some (.ref 16), some (.int (nI (9 + r))), some (.int w0), some (.int (nI f)), some (.int (nI u)), some (.int (nI (z - nd κ + 1))), some (.int (nI (f + (k + 1)))), none, none]) ⟨rfl, rfl, rfl, rfl, rfl, ?_, ?_, trivial⟩ (ih () (by omega))
      · rw [hnd]; rw [show nI (z - 2) + Int32.ofInt 1 = nI (z - 2 + 1) from nI_1 _]
      · rw [show nI (f + k) + Int32.ofInt 1 = nI (f + (k + 1)) from nI_1 _]
    · have hnd : nd κ = 1 := by subst h; rfl
      rw [hnd] at hz1
      refine Ex.iload (pc := 43) dX6_valueOf_43 rfl ?_
      refine Ex.iload (pc := 45) dX6_valueOf_45 rfl ?_
      refine Ex.icmp_ge (pc := 47) (tgt := 230) dX6_valueOf_47 (by decide) (fun c47 => absurd c47 (nI_ge (by omega) (by omega))) (fun _ => ?_)
      refine Ex.aload_n (pc := 50) dX6_valueOf_50 rfl rfl ?_
      refine Ex.getR (pc := 51) dX6_valueOf_51 fX6_37 (sh16 _) r16_0 ?_
      refine Ex.getR (pc := 54) dX6_valueOf_54 fX6_122 (sh2 _) r2_7 ?_
      refine Ex.iload (pc := 57) dX6_valueOf_57 rfl ?_
      refine Ex.iald (pc := 59) (j := f + k) dX6_valueOf_59 (sh9 _) (vp_in_nI (by omega) (by omega)) (ixN2 (by omega)) ?_
      refine Ex.bipush (pc := 60) (v := 14) dX6_valueOf_60 rfl ?_
      refine Ex.ishr (pc := 62) dX6_valueOf_62 ?_
      refine Ex.istore (pc := 63) (ls' := [some (.ref 16), some (.int _), some (.int _), some (.int _), some (.int _), some (.int _), some (.int _), some (.int _), none]) dX6_valueOf_63 (by decide) rfl rfl ?_
      refine Ex.le (ls' := [some (.ref 16), some (.int (nI (9 + r))), some (.int w0), some (.int (nI f)), some (.int (nI u)), some (.int (nI z)), some (.int (nI (f + k))), some (.int (nI κ)), none]) ⟨rfl, rfl, rfl, rfl, rfl, rfl, rfl, ?_, trivial⟩ ?_
      · rw [h9, kd_of hκ hν]
      refine Ex.iload (pc := 65) dX6_valueOf_65 rfl ?_
      refine Ex.iconst (pc := 67) (v := 1) dX6_valueOf_67 rfl ?_
      refine Ex.icmp_gt (pc := 68) (tgt := 75) dX6_valueOf_68 (by decide) (fun _ => ?_) (fun c68 => absurd (nI_lt (a := 1) (by omega) (by omega)) c68)
      refine Ex.iload (pc := 75) dX6_valueOf_75 rfl ?_
      refine Ex.bipush (pc := 77) (v := 14) dX6_valueOf_77 rfl ?_
      refine Ex.icmp_ne (pc := 79) (tgt := 86) dX6_valueOf_79 (by decide) (fun c79 => absurd (by rw [h]; rfl) c79) (fun _ => ?_)
      refine Ex.iconst (pc := 82) (v := 1) dX6_valueOf_82 rfl ?_
      refine Ex.goto (pc := 83) (tgt := 98) dX6_valueOf_83 (by decide) ?_
      refine Ex.istore (pc := 98) (ls' := [some (.ref 16), some (.int _), some (.int _), some (.int _), some (.int _), some (.int _), some (.int _), some (.int _), some (.int 1)]) dX6_valueOf_98 (by decide) rfl rfl ?_
      refine Ex.iload (pc := 100) dX6_valueOf_100 rfl ?_
      refine Ex.iload (pc := 102) dX6_valueOf_102 rfl ?_
      refine Ex.icmp_lt (pc := 104) (tgt := 117) dX6_valueOf_104 (by decide) (fun c104 => absurd c104 (nI_nlt (b := 1) (by omega) (by omega))) (fun _ => ?_)
      refine Ex.iload (pc := 107) dX6_valueOf_107 rfl ?_
      refine Ex.iload (pc := 109) dX6_valueOf_109 rfl ?_
      refine Ex.isub (pc := 111) dX6_valueOf_111 ?_
      refine Ex.bipush (pc := 112) (v := 64) dX6_valueOf_112 rfl ?_
      refine Ex.icmp_lt (pc := 114) (tgt := 119) dX6_valueOf_114 (by decide) (fun _ => ?_) (fun c114 => absurd (by rw [show nI z - 1 = nI (z - 1) from pk_sub (b := 1) (by omega)]; exact nI_lt (b := 64) (by omega) (by decide)) c114)
      refine Ex.iload (pc := 119) dX6_valueOf_119 rfl ?_
      refine Ex.iload (pc := 121) dX6_valueOf_121 rfl ?_
      refine Ex.isub (pc := 123) dX6_valueOf_123 ?_
      refine Ex.istore (pc := 124) (ls' := [some (.ref 16), some (.int _), some (.int _), some (.int _), some (.int _), some (.int _), some (.int _), some (.int _), some (.int 1)]) dX6_valueOf_124 (by decide) rfl rfl ?_
      refine Ex.le (ls' := [some (.ref 16), some (.int (nI (9 + r))), some (.int w0), some (.int (nI f)), some (.int (nI u)), some (.int (nI (z - 1))), some (.int (nI (f + k))), some (.int (nI κ)), some (.int 1)]) ⟨rfl, rfl, rfl, rfl, rfl, ?_, rfl, rfl, rfl, trivial⟩ ?_
      · rw [show nI z - 1 = nI (z - 1) from pk_sub (b := 1) (by omega)]
      refine Ex.iload (pc := 126) dX6_valueOf_126 rfl ?_
      refine Ex.if_ne (pc := 128) (tgt := 161) dX6_valueOf_128 (by decide) (fun _ => ?_) (fun c128 => absurd c128 (by decide))
      refine Ex.iload (pc := 161) dX6_valueOf_161 rfl ?_
      refine Ex.bipush (pc := 163) (v := 6) dX6_valueOf_163 rfl ?_
      refine Ex.icmp_gt (pc := 165) (tgt := 206) dX6_valueOf_165 (by decide) (fun _ => ?_) (fun c165 => absurd (nI_lt (a := 6) (by omega) (by omega)) c165)
      refine Ex.aload_n (pc := 206) dX6_valueOf_206 rfl rfl ?_
      refine Ex.getR (pc := 207) dX6_valueOf_207 fX6_15 (sh16 _) r16_2 ?_
      refine Ex.iload (pc := 210) dX6_valueOf_210 rfl ?_
      refine Ex.aload_n (pc := 212) dX6_valueOf_212 rfl rfl ?_
      refine Ex.iload (pc := 213) dX6_valueOf_213 rfl ?_
      refine Ex.iload (pc := 215) dX6_valueOf_215 rfl ?_
      refine Ex.callV (pc := 217) (As := [.int _, .int _]) (rest := [.int _, .ref 18]) dX6_valueOf_217 cX6_132 (t_weigh (p := z - 1) (by omega)) (sh16 _) rfl rfl (by decide) (Nat.le_refl _) (Nat.le_refl _) (Nat.le_of_ble_eq_true rfl) (Or.inl (fun r S' h => by obtain ⟨_, h⟩ := h; subst h; rfl)) (fun r S' hq _ _ => ?_)
      obtain ⟨rfl, rfl⟩ := hq
      refine Ex.iast (pc := 220) (j := z - 1) dX6_valueOf_220 (sh18 _) (vp_in_nI (by omega) (by decide)) (ixN2 (by omega)) ?_
      refine Ex.iinc (pc := 221) (ls' := [some (.ref 16), some (.int _), some (.int _), some (.int _), some (.int _), some (.int _), some (.int _), some (.int _), some (.int 1)]) dX6_valueOf_221 rfl rfl (by decide) rfl rfl ?_
      refine Ex.iinc (pc := 224) (ls' := [some (.ref 16), some (.int _), some (.int _), some (.int _), some (.int _), some (.int _), some (.int _), some (.int _), some (.int 1)]) dX6_valueOf_224 rfl rfl (by decide) rfl rfl ?_
      refine Ex.goto (pc := 227) (tgt := 43) dX6_valueOf_227 (by decide) ?_
      refine Ex.mm (S' := St N (va_up I 18 (stG (I 17) κ ν z G)) L) ?_ ?_
      · rw [bx_uu]
        unfold stG
        rw [hnd, if_neg (show ¬ κ ≤ 1 by omega), if_neg (show ¬ κ ≤ 6 by omega), va_up_s, if_neg (show ¬ 63 < z - 1 + 1 by omega), if_neg (show ¬ 63 < z - 1 + 2 by omega)]
      refine Ex.le (ls' := [some (.ref 16), some (.int (nI (9 + r))), some (.int w0), some (.int (nI f)), some (.int (nI u)), some (.int (nI (z - nd κ + 1))), some (.int (nI (f + (k + 1)))), none, none]) ⟨rfl, rfl, rfl, rfl, rfl, ?_, ?_, trivial⟩ (ih () (by omega))
      · rw [hnd]; rw [show nI (z - 1) + Int32.ofInt 1 = nI (z - 1 + 1) from nI_1 _]
      · rw [show nI (f + k) + Int32.ofInt 1 = nI (f + (k + 1)) from nI_1 _]
    · have hnd : nd κ = 3 := by subst h; rfl
      rw [hnd] at hz1
      refine Ex.iload (pc := 43) dX6_valueOf_43 rfl ?_
      refine Ex.iload (pc := 45) dX6_valueOf_45 rfl ?_
      refine Ex.icmp_ge (pc := 47) (tgt := 230) dX6_valueOf_47 (by decide) (fun c47 => absurd c47 (nI_ge (by omega) (by omega))) (fun _ => ?_)
      refine Ex.aload_n (pc := 50) dX6_valueOf_50 rfl rfl ?_
      refine Ex.getR (pc := 51) dX6_valueOf_51 fX6_37 (sh16 _) r16_0 ?_
      refine Ex.getR (pc := 54) dX6_valueOf_54 fX6_122 (sh2 _) r2_7 ?_
      refine Ex.iload (pc := 57) dX6_valueOf_57 rfl ?_
      refine Ex.iald (pc := 59) (j := f + k) dX6_valueOf_59 (sh9 _) (vp_in_nI (by omega) (by omega)) (ixN2 (by omega)) ?_
      refine Ex.bipush (pc := 60) (v := 14) dX6_valueOf_60 rfl ?_
      refine Ex.ishr (pc := 62) dX6_valueOf_62 ?_
      refine Ex.istore (pc := 63) (ls' := [some (.ref 16), some (.int _), some (.int _), some (.int _), some (.int _), some (.int _), some (.int _), some (.int _), none]) dX6_valueOf_63 (by decide) rfl rfl ?_
      refine Ex.le (ls' := [some (.ref 16), some (.int (nI (9 + r))), some (.int w0), some (.int (nI f)), some (.int (nI u)), some (.int (nI z)), some (.int (nI (f + k))), some (.int (nI κ)), none]) ⟨rfl, rfl, rfl, rfl, rfl, rfl, rfl, ?_, trivial⟩ ?_
      · rw [h9, kd_of hκ hν]
      refine Ex.iload (pc := 65) dX6_valueOf_65 rfl ?_
      refine Ex.iconst (pc := 67) (v := 1) dX6_valueOf_67 rfl ?_
      refine Ex.icmp_gt (pc := 68) (tgt := 75) dX6_valueOf_68 (by decide) (fun _ => ?_) (fun c68 => absurd (nI_lt (a := 1) (by omega) (by omega)) c68)
      refine Ex.iload (pc := 75) dX6_valueOf_75 rfl ?_
      refine Ex.bipush (pc := 77) (v := 14) dX6_valueOf_77 rfl ?_
      refine Ex.icmp_ne (pc := 79) (tgt := 86) dX6_valueOf_79 (by decide) (fun _ => ?_) (fun c79 => absurd c79 (fun q => absurd ((nI_eq (b := 14) (by omega) (by decide)).mp q) (by omega)))
      refine Ex.iload (pc := 86) dX6_valueOf_86 rfl ?_
      refine Ex.bipush (pc := 88) (v := 15) dX6_valueOf_88 rfl ?_
      refine Ex.icmp_ne (pc := 90) (tgt := 97) dX6_valueOf_90 (by decide) (fun c90 => absurd (by rw [h]; rfl) c90) (fun _ => ?_)
      refine Ex.iconst (pc := 93) (v := 3) dX6_valueOf_93 rfl ?_
      refine Ex.goto (pc := 94) (tgt := 98) dX6_valueOf_94 (by decide) ?_
      refine Ex.istore (pc := 98) (ls' := [some (.ref 16), some (.int _), some (.int _), some (.int _), some (.int _), some (.int _), some (.int _), some (.int _), some (.int 3)]) dX6_valueOf_98 (by decide) rfl rfl ?_
      refine Ex.iload (pc := 100) dX6_valueOf_100 rfl ?_
      refine Ex.iload (pc := 102) dX6_valueOf_102 rfl ?_
      refine Ex.icmp_lt (pc := 104) (tgt := 117) dX6_valueOf_104 (by decide) (fun c104 => absurd c104 (nI_nlt (b := 3) (by omega) (by omega))) (fun _ => ?_)
      refine Ex.iload (pc := 107) dX6_valueOf_107 rfl ?_
      refine Ex.iload (pc := 109) dX6_valueOf_109 rfl ?_
      refine Ex.isub (pc := 111) dX6_valueOf_111 ?_
      refine Ex.bipush (pc := 112) (v := 64) dX6_valueOf_112 rfl ?_
      refine Ex.icmp_lt (pc := 114) (tgt := 119) dX6_valueOf_114 (by decide) (fun _ => ?_) (fun c114 => absurd (by rw [show nI z - 3 = nI (z - 3) from pk_sub (b := 3) (by omega)]; exact nI_lt (b := 64) (by omega) (by decide)) c114)
      refine Ex.iload (pc := 119) dX6_valueOf_119 rfl ?_
      refine Ex.iload (pc := 121) dX6_valueOf_121 rfl ?_
      refine Ex.isub (pc := 123) dX6_valueOf_123 ?_
      refine Ex.istore (pc := 124) (ls' := [some (.ref 16), some (.int _), some (.int _), some (.int _), some (.int _), some (.int _), some (.int _), some (.int _), some (.int 3)]) dX6_valueOf_124 (by decide) rfl rfl ?_
      refine Ex.le (ls' := [some (.ref 16), some (.int (nI (9 + r))), some (.int w0), some (.int (nI f)), some (.int (nI u)), some (.int (nI (z - 3))), some (.int (nI (f + k))), some (.int (nI κ)), some (.int 3)]) ⟨rfl, rfl, rfl, rfl, rfl, ?_, rfl, rfl, rfl, trivial⟩ ?_
      · rw [show nI z - 3 = nI (z - 3) from pk_sub (b := 3) (by omega)]
      refine Ex.iload (pc := 126) dX6_valueOf_126 rfl ?_
      refine Ex.if_ne (pc := 128) (tgt := 161) dX6_valueOf_128 (by decide) (fun _ => ?_) (fun c128 => absurd c128 (by decide))
      refine Ex.iload (pc := 161) dX6_valueOf_161 rfl ?_
      refine Ex.bipush (pc := 163) (v := 6) dX6_valueOf_163 rfl ?_
      refine Ex.icmp_gt (pc := 165) (tgt := 206) dX6_valueOf_165 (by decide) (fun _ => ?_) (fun c165 => absurd (nI_lt (a := 6) (by omega) (by omega)) c165)
      refine Ex.aload_n (pc := 206) dX6_valueOf_206 rfl rfl ?_
      refine Ex.getR (pc := 207) dX6_valueOf_207 fX6_15 (sh16 _) r16_2 ?_
      refine Ex.iload (pc := 210) dX6_valueOf_210 rfl ?_
      refine Ex.aload_n (pc := 212) dX6_valueOf_212 rfl rfl ?_
      refine Ex.iload (pc := 213) dX6_valueOf_213 rfl ?_
      refine Ex.iload (pc := 215) dX6_valueOf_215 rfl ?_
      refine Ex.callV (pc := 217) (As := [.int _, .int _]) (rest := [.int _, .ref 18]) dX6_valueOf_217 cX6_132 (t_weigh (p := z - 3) (by omega)) (sh16 _) rfl rfl (by decide) (Nat.le_refl _) (Nat.le_refl _) (Nat.le_of_ble_eq_true rfl) (Or.inl (fun r S' h => by obtain ⟨_, h⟩ := h; subst h; rfl)) (fun r S' hq _ _ => ?_)
      obtain ⟨rfl, rfl⟩ := hq
      refine Ex.iast (pc := 220) (j := z - 3) dX6_valueOf_220 (sh18 _) (vp_in_nI (by omega) (by decide)) (ixN2 (by omega)) ?_
      refine Ex.iinc (pc := 221) (ls' := [some (.ref 16), some (.int _), some (.int _), some (.int _), some (.int _), some (.int _), some (.int _), some (.int _), some (.int 3)]) dX6_valueOf_221 rfl rfl (by decide) rfl rfl ?_
      refine Ex.iinc (pc := 224) (ls' := [some (.ref 16), some (.int _), some (.int _), some (.int _), some (.int _), some (.int _), some (.int _), some (.int _), some (.int 3)]) dX6_valueOf_224 rfl rfl (by decide) rfl rfl ?_
      refine Ex.goto (pc := 227) (tgt := 43) dX6_valueOf_227 (by decide) ?_
      refine Ex.mm (S' := St N (va_up I 18 (stG (I 17) κ ν z G)) L) ?_ ?_
      · rw [bx_uu]
        unfold stG
        rw [hnd, if_neg (show ¬ κ ≤ 1 by omega), if_neg (show ¬ κ ≤ 6 by omega), va_up_s, if_neg (show ¬ 63 < z - 3 + 1 by omega), if_neg (show ¬ 63 < z - 3 + 2 by omega)]
      refine Ex.le (ls' := [some (.ref 16), some (.int (nI (9 + r))), some (.int w0), some (.int (nI f)), some (.int (nI u)), some (.int (nI (z - nd κ + 1))), some (.int (nI (f + (k + 1)))), none, none]) ⟨rfl, rfl, rfl, rfl, rfl, ?_, ?_, trivial⟩ (ih () (by omega))
      · rw [hnd]; rw [show nI (z - 3) + Int32.ofInt 1 = nI (z - 3 + 1) from nI_1 _]
      · rw [show nI (f + k) + Int32.ofInt 1 = nI (f + (k + 1)) from nI_1 _]
