/-! THE CONSTRUCTORS: a cell b that grows, new rows behind it -/
def Zq (P : Nat → (Nat → Int32) → (Nat → Int64) → (Nat → Option Nat) → Prop) (b h : Nat) (f : Nat → Int32) (g : Nat → Int64) (r : Nat → Option Nat) (I : aI) (L : aL) (R : aR) : Prop := I b = f ∧ L b = g ∧ R b = r ∧ ∀ i, i < h → i ≠ b → P i (I i) (L i) (R i)
def f0 : Nat → Int32 := fun _ => 0
def g0 : Nat → Int64 := fun _ => 0
def r0 : Nat → Option Nat := fun _ => none
theorem upd_0 {f : Nat → Int32} {k : Nat} (h : f k = 0) : upd f k 0 = f := by
  funext j
  by_cases e : j = k
  · subst e; rw [upd_s, h]
  · rw [upd_n e]
theorem updL_0 {f : Nat → Int64} {k : Nat} (h : f k = 0) : vp_updL f k 0 = f := by
  funext j
  unfold vp_updL
  by_cases e : j = k
  · subst e; rw [if_pos rfl, h]
  · rw [if_neg e]
section ZQ
variable {d mc ms : Nat} {mi : aM} {k n pc : Nat} {ls : aLs} {st : List Value} {sh : aSh} {I : aI} {L : aL} {R : aR} {Q : aQ} {P : Nat → (Nat → Int32) → (Nat → Int64) → (Nat → Option Nat) → Prop} {b h : Nat} {f : Nat → Int32} {g : Nat → Int64} {r : Nat → Option Nat}
theorem Zq.nI (hz : Zq P b h f g r I L R) (hbh : b < h) (hP : ∀ li ri, P h f0 li ri) : Zq P b (h + 1) f g r (va_up I h (fun _ => 0)) L R := by
  obtain ⟨a1, a2, a3, a4⟩ := hz
  refine ⟨by rw [va_up_n (by omega)]; exact a1, a2, a3, fun i hi hb => ?_⟩
  by_cases e : i = h
  · subst e; rw [va_up_s]; exact hP _ _
  · rw [va_up_n e]; exact a4 i (by omega) hb
theorem Zq.nL (hz : Zq P b h f g r I L R) (hbh : b < h) (hP : ∀ fi ri, P h fi g0 ri) : Zq P b (h + 1) f g r I (va_up L h (fun _ => 0)) R := by
  obtain ⟨a1, a2, a3, a4⟩ := hz
  refine ⟨a1, by rw [va_up_n (by omega)]; exact a2, a3, fun i hi hb => ?_⟩
  by_cases e : i = h
  · subst e; rw [va_up_s]; exact hP _ _
  · rw [va_up_n e]; exact a4 i (by omega) hb
theorem Ex.zI {N : Nat} {x : Int32} (hz : Zq P b h f g r I L R) (hlen : sh.length = h) (hbh : b < h) (hP : ∀ li ri, P h f0 li ri) (hd : decode mi.2.1 pc = .ok (.newarray .int, 2)) (hx : ¬ x < 0) (hN : x.toNatClampNeg = N) (hsz : N ≤ 1000000) (h1 : k + 1 ≤ mc) (h2 : n + N ≤ ms) (hst : aOkS h st) (hls : aOkL h ls)
    (kk : ∀ I' L' R', Zq P b (h + 1) f g r I' L' R' → Ex d mc ms mi (k + 1) (n + N) (pc + 2) ls (.ref h :: st) (sh ++ [(11, N)], I', L', R') Q) : Ex d mc ms mi k n pc ls (.int x :: st) (sh, I, L, R) Q := by
  subst hlen; exact Ex.newI hd hx hN hsz h1 h2 hst hls (kk _ _ _ (hz.nI hbh hP))
theorem Ex.zB {N : Nat} {x : Int32} (hz : Zq P b h f g r I L R) (hlen : sh.length = h) (hbh : b < h) (hP : ∀ li ri, P h f0 li ri) (hd : decode mi.2.1 pc = .ok (.newarray .byte, 2)) (hx : ¬ x < 0) (hN : x.toNatClampNeg = N) (hsz : N ≤ 1000000) (h1 : k + 1 ≤ mc) (h2 : n + N ≤ ms) (hst : aOkS h st) (hls : aOkL h ls)
    (kk : ∀ I' L' R', Zq P b (h + 1) f g r I' L' R' → Ex d mc ms mi (k + 1) (n + N) (pc + 2) ls (.ref h :: st) (sh ++ [(12, N)], I', L', R') Q) : Ex d mc ms mi k n pc ls (.int x :: st) (sh, I, L, R) Q := by
  subst hlen; exact Ex.newB hd hx hN hsz h1 h2 hst hls (kk _ _ _ (hz.nI hbh hP))
theorem Ex.zZ {N : Nat} {x : Int32} (hz : Zq P b h f g r I L R) (hlen : sh.length = h) (hbh : b < h) (hP : ∀ li ri, P h f0 li ri) (hd : decode mi.2.1 pc = .ok (.newarray .boolean, 2)) (hx : ¬ x < 0) (hN : x.toNatClampNeg = N) (hsz : N ≤ 1000000) (h1 : k + 1 ≤ mc) (h2 : n + N ≤ ms) (hst : aOkS h st) (hls : aOkL h ls)
    (kk : ∀ I' L' R', Zq P b (h + 1) f g r I' L' R' → Ex d mc ms mi (k + 1) (n + N) (pc + 2) ls (.ref h :: st) (sh ++ [(13, N)], I', L', R') Q) : Ex d mc ms mi k n pc ls (.int x :: st) (sh, I, L, R) Q := by
  subst hlen; exact Ex.newZ hd hx hN hsz h1 h2 hst hls (kk _ _ _ (hz.nI hbh hP))
theorem Ex.zL {N : Nat} {x : Int32} (hz : Zq P b h f g r I L R) (hlen : sh.length = h) (hbh : b < h) (hP : ∀ fi ri, P h fi g0 ri) (hd : decode mi.2.1 pc = .ok (.newarray .long, 2)) (hx : ¬ x < 0) (hN : x.toNatClampNeg = N) (hsz : N ≤ 1000000) (h1 : k + 1 ≤ mc) (h2 : n + N ≤ ms) (hst : aOkS h st) (hls : aOkL h ls)
    (kk : ∀ I' L' R', Zq P b (h + 1) f g r I' L' R' → Ex d mc ms mi (k + 1) (n + N) (pc + 2) ls (.ref h :: st) (sh ++ [(14, N)], I', L', R') Q) : Ex d mc ms mi k n pc ls (.int x :: st) (sh, I, L, R) Q := by
  subst hlen; exact Ex.newL hd hx hN hsz h1 h2 hst hls (kk _ _ _ (hz.nL hbh hP))
theorem Ex.zPI {idx ci fk z md : Nat} {v : Int32} (hz : Zq P b h f g r I L R) (hd : decode mi.2.1 pc = .ok (.putfield idx, 3)) (hf : aFd mi.1.cls idx ci fk 0 md) (hs : sh[b]? = some (ci, z)) (hini : md = 1 ∨ (md = 2 ∧ mi.1.name = "<init>")) (hn : narrow (cT ci fk) (.int v) = .int v ∧ fits (cT ci fk) (.int v) = true)
    (kk : ∀ I' L' R', Zq P b h (upd f fk v) g r I' L' R' → Ex d mc ms mi k n (pc + 3) ls st (sh, I', L', R') Q) : Ex d mc ms mi k n pc ls (.int v :: .ref b :: st) (sh, I, L, R) Q := by
  obtain ⟨a1, a2, a3, a4⟩ := hz
  exact Ex.putI hd hf hs hini hn (kk _ _ _ ⟨by rw [va_up_s, a1], a2, a3, fun i hi hb => by rw [va_up_n hb]; exact a4 i hi hb⟩)
theorem Ex.zP0 {idx ci fk z md : Nat} (hz : Zq P b h f g r I L R) (h0 : f fk = 0) (hd : decode mi.2.1 pc = .ok (.putfield idx, 3)) (hf : aFd mi.1.cls idx ci fk 0 md) (hs : sh[b]? = some (ci, z)) (hini : md = 1 ∨ (md = 2 ∧ mi.1.name = "<init>")) (hn : narrow (cT ci fk) (.int 0) = .int 0 ∧ fits (cT ci fk) (.int 0) = true)
    (kk : ∀ I' L' R', Zq P b h f g r I' L' R' → Ex d mc ms mi k n (pc + 3) ls st (sh, I', L', R') Q) : Ex d mc ms mi k n pc ls (.int 0 :: .ref b :: st) (sh, I, L, R) Q :=
  Ex.zPI hz hd hf hs hini hn (fun I' L' R' hq => kk I' L' R' (by rw [upd_0 h0] at hq; exact hq))
theorem Ex.zPL {idx ci fk z md : Nat} {v : Int64} (hz : Zq P b h f g r I L R) (hd : decode mi.2.1 pc = .ok (.putfield idx, 3)) (hf : aFd mi.1.cls idx ci fk 1 md) (hs : sh[b]? = some (ci, z)) (hini : md = 1 ∨ (md = 2 ∧ mi.1.name = "<init>")) (hn : narrow (cT ci fk) (.long v) = .long v ∧ fits (cT ci fk) (.long v) = true)
    (kk : ∀ I' L' R', Zq P b h f (vp_updL g fk v) r I' L' R' → Ex d mc ms mi k n (pc + 3) ls st (sh, I', L', R') Q) : Ex d mc ms mi k n pc ls (.long v :: .ref b :: st) (sh, I, L, R) Q := by
  obtain ⟨a1, a2, a3, a4⟩ := hz
  exact Ex.putL hd hf hs hini hn (kk _ _ _ ⟨a1, by rw [va_up_s, a2], a3, fun i hi hb => by rw [va_up_n hb]; exact a4 i hi hb⟩)
theorem Ex.zPR {idx ci fk c z md : Nat} (hz : Zq P b h f g r I L R) (hd : decode mi.2.1 pc = .ok (.putfield idx, 3)) (hf : aFd mi.1.cls idx ci fk 2 md) (hs : sh[b]? = some (ci, z)) (hini : md = 1 ∨ (md = 2 ∧ mi.1.name = "<init>")) (hc : c < sh.length)
    (kk : ∀ I' L' R', Zq P b h f g (va_up r fk (some c)) I' L' R' → Ex d mc ms mi k n (pc + 3) ls st (sh, I', L', R') Q) : Ex d mc ms mi k n pc ls (.ref c :: .ref b :: st) (sh, I, L, R) Q := by
  obtain ⟨a1, a2, a3, a4⟩ := hz
  exact Ex.putR hd hf hs hini hc (kk _ _ _ ⟨a1, a2, by rw [va_up_s, a3], fun i hi hb => by rw [va_up_n hb]; exact a4 i hi hb⟩)
def Pn (P : Nat → (Nat → Int32) → (Nat → Int64) → (Nat → Option Nat) → Prop) (h : Nat) (i : Nat) (fi : Nat → Int32) (li : Nat → Int64) (ri : Nat → Option Nat) : Prop := (i < h → P i fi li ri) ∧ (i = h → fi = f0 ∧ li = g0 ∧ ri = r0)
def Psb (I0 : aI) (L0 : aL) (R0 : aR) (h0 : Nat) (i : Nat) (fi : Nat → Int32) (li : Nat → Int64) (ri : Nat → Option Nat) : Prop := (i < h0 → fi = I0 i ∧ li = L0 i ∧ ri = R0 i) ∧ (h0 ≤ i → fi = f0)
theorem Ex.zN {idx ci : Nat} (hz : Zq P b h f g r I L R) (hlen : sh.length = h) (hbh : b < h) (hd : decode mi.2.1 pc = .ok (.new idx, 3)) (hc : aNw mi.1.cls idx ci) (h1 : k + 1 ≤ mc) (h2 : n + cN ci ≤ ms) (hst : aOkS h st) (hls : aOkL h ls)
    (kk : ∀ I' L' R', Zq (Pn P h) b (h + 1) f g r I' L' R' → Ex d mc ms mi (k + 1) (n + cN ci) (pc + 3) ls (.ref h :: st) (sh ++ [(ci, 0)], I', L', R') Q) : Ex d mc ms mi k n pc ls st (sh, I, L, R) Q := by
  obtain ⟨a1, a2, a3, a4⟩ := hz
  refine Ex.newh hlen hd hc h1 h2 hst hls (kk _ _ _ ⟨by rw [va_up_n (by omega)]; exact a1, by rw [va_up_n (by omega)]; exact a2, by rw [va_up_n (by omega)]; exact a3, fun i hi hb => ⟨fun q => by rw [va_up_n (by omega), va_up_n (by omega), va_up_n (by omega)]; exact a4 i q hb, fun q => ?_⟩⟩)
  subst q; rw [va_up_s, va_up_s, va_up_s]; exact ⟨rfl, rfl, rfl⟩
theorem Zq.new (hz : Zq (Pn P h) b (h + 1) f g r I L R) (hbh : b < h) : I h = f0 ∧ L h = g0 ∧ R h = r0 := (hz.2.2.2 h (Nat.lt_succ_self _) (by omega)).2 rfl
theorem Zq.back {h' : Nat} {fs : Nat → Int32} {gs : Nat → Int64} {rs : Nat → Option Nat} {I' : aI} {L' : aL} {R' : aR} (hz : Zq (Pn P h) b (h + 1) f g r I L R) (hq : Zq (Psb I L R (h + 1)) h h' fs gs rs I' L' R') (hbh : b < h) (hh : h < h') (hP1 : P h fs gs rs) (hP2 : ∀ i, h < i → i < h' → ∀ li ri, P i f0 li ri) : Zq P b h' f g r I' L' R' := by
  obtain ⟨a1, a2, a3, a4⟩ := hz
  obtain ⟨b1, b2, b3, b4⟩ := hq
  have e0 := (b4 b (by omega) (by omega)).1 (by omega)
  refine ⟨e0.1.trans a1, e0.2.1.trans a2, e0.2.2.trans a3, fun i hi hb => ?_⟩
  by_cases e : i = h
  · subst e; rw [b1, b2, b3]; exact hP1
  · by_cases q : i < h
    · obtain ⟨c1, c2, c3⟩ := (b4 i hi e).1 (by omega)
      rw [c1, c2, c3]; exact (a4 i (by omega) hb).1 q
    · rw [(b4 i hi e).2 (by omega)]; exact hP2 i (by omega) hi _ _
end ZQ
/-- the end of a constructor -/
def NwQ (sh' : aSh) (b h h' : Nat) (fs : Nat → Int32) (gs : Nat → Int64) (rs : Nat → Option Nat) (I : aI) (L : aL) (R : aR) : aQ := fun x S' => ∃ I' L' R', x = none ∧ S' = (sh', I', L', R') ∧ Zq (Psb I L R h) b h' fs gs rs I' L' R'
theorem Zq.start {I : aI} {L : aL} {R : aR} {b h : Nat} (hbh : b < h) (hI : I b = f0) (hL : L b = g0) (hR : R b = r0) : Zq (Psb I L R h) b h f0 g0 r0 I L R := ⟨hI, hL, hR, fun i hi _ => ⟨fun _ => ⟨rfl, rfl, rfl⟩, fun q => absurd hi (by omega)⟩⟩
set_option maxRecDepth 20000 in
theorem t_X8_init {h b : Nat} {sh : aSh} {I : aI} {L : aL} {R : aR} (hlen : sh.length = h) (hb : sh[b]? = some (8, 0)) (hbh : b < h) (hI : I b = f0) (hL : L b = g0) (hR : R b = r0) : Run 1 2 11 mX8_init [.ref b] (sh, I, L, R) (NwQ ((sh ++ [(11, 5)]) ++ [(11, 6)]) b h (h + 2) f0 g0 (va_up (va_up r0 4 (some (h))) 5 (some (h + 1))) I L R) := by
  refine Run.of (ls := [some (.ref b)]) (by decide) (Nat.le_of_ble_eq_true rfl) rfl ?_
  have hz := Zq.start hbh hI hL hR
  unfold NwQ
  obtain ⟨P, hP⟩ : ∃ P, P = Psb I L R h := ⟨_, rfl⟩
  rw [← hP] at hz ⊢
  have hPI : ∀ j, h ≤ j → ∀ li ri, P j f0 li ri := fun j hj li ri => by rw [hP]; exact ⟨fun q => absurd q (by omega), fun _ => rfl⟩
  clear hP hI hL hR
  refine Ex.aload_n (pc := 0) dX8_init_0 rfl rfl ?_
  refine Ex.objI (pc := 1) dX8_init_1 kl_X8_3 (by decide) (by decide) ?_
  refine Ex.aload_n (pc := 4) dX8_init_4 rfl rfl ?_
  refine Ex.iconst (pc := 5) (v := 0) dX8_init_5 rfl ?_
  refine Ex.zP0 (pc := 6) hz rfl dX8_init_6 fX8_9 hb (Or.inl rfl) ⟨rfl, rfl⟩ (fun I L R hz => ?_)
  refine Ex.aload_n (pc := 9) dX8_init_9 rfl rfl ?_
  refine Ex.iconst (pc := 10) (v := 0) dX8_init_10 rfl ?_
  refine Ex.zP0 (pc := 11) hz rfl dX8_init_11 fX8_15 hb (Or.inl rfl) ⟨rfl, rfl⟩ (fun I L R hz => ?_)
  refine Ex.aload_n (pc := 14) dX8_init_14 rfl rfl ?_
  refine Ex.iconst (pc := 15) (v := 0) dX8_init_15 rfl ?_
  refine Ex.zP0 (pc := 16) hz rfl dX8_init_16 fX8_18 hb (Or.inl rfl) ⟨rfl, rfl⟩ (fun I L R hz => ?_)
  refine Ex.aload_n (pc := 19) dX8_init_19 rfl rfl ?_
  refine Ex.iconst (pc := 20) (v := 0) dX8_init_20 rfl ?_
  refine Ex.zP0 (pc := 21) hz rfl dX8_init_21 fX8_21 hb (Or.inl rfl) ⟨rfl, rfl⟩ (fun I L R hz => ?_)
  refine Ex.aload_n (pc := 24) dX8_init_24 rfl rfl ?_
  refine Ex.iconst (pc := 25) (v := 5) dX8_init_25 rfl ?_
  refine Ex.zI (pc := 26) (N := 5) (h := h) hz hlen (by omega) (hPI _ (by omega)) dX8_init_26 (by decide) (by decide) (by decide) (by omega) (by omega) (oks_r (by omega) oks_0) (okl_r (by omega) okl_0) (fun I L R hz => ?_)
  refine Ex.zPR (pc := 28) (c := h) hz dX8_init_28 fX8_24 (sh_ap hb) (Or.inr ⟨rfl, rfl⟩) (by rw [(len_ap hlen)]; omega) (fun I L R hz => ?_)
  refine Ex.aload_n (pc := 31) dX8_init_31 rfl rfl ?_
  refine Ex.bipush (pc := 32) (v := 6) dX8_init_32 rfl ?_
  refine Ex.zI (pc := 34) (N := 6) (h := h + 1) hz (len_ap hlen) (by omega) (hPI _ (by omega)) dX8_init_34 (by decide) (by decide) (by decide) (by omega) (by omega) (oks_r (by omega) oks_0) (okl_r (by omega) okl_0) (fun I L R hz => ?_)
  refine Ex.zPR (pc := 36) (c := h + 1) hz dX8_init_36 fX8_28 (sh_ap (sh_ap hb)) (Or.inr ⟨rfl, rfl⟩) (by rw [(len_ap (len_ap hlen))]; omega) (fun I L R hz => ?_)
  refine Ex.vret (pc := 39) rfl dX8_init_39 (by omega) (by omega) ?_
  exact ⟨I, L, R, rfl, rfl, hz⟩
set_option maxRecDepth 20000 in
theorem t_X6_init {h b c : Nat} {sh : aSh} {I : aI} {L : aL} {R : aR} (hlen : sh.length = h) (hb : sh[b]? = some (6, 0)) (hbh : b < h) (hc : c < h) (hI : I b = f0) (hL : L b = g0) (hR : R b = r0) : Run 1 2 84 mX6_init [.ref b, .ref c] (sh, I, L, R) (NwQ ((sh ++ [(11, 20)]) ++ [(11, 64)]) b h (h + 2) (upd (upd f0 3 (-1)) 4 (-1)) g0 (va_up (va_up (va_up r0 1 (some (h))) 2 (some (h + 1))) 0 (some (c))) I L R) := by
  refine Run.of (ls := [some (.ref b), some (.ref c)]) (by decide) (Nat.le_of_ble_eq_true rfl) rfl ?_
  have hz := Zq.start hbh hI hL hR
  unfold NwQ
  obtain ⟨P, hP⟩ : ∃ P, P = Psb I L R h := ⟨_, rfl⟩
  rw [← hP] at hz ⊢
  have hPI : ∀ j, h ≤ j → ∀ li ri, P j f0 li ri := fun j hj li ri => by rw [hP]; exact ⟨fun q => absurd q (by omega), fun _ => rfl⟩
  clear hP hI hL hR
  refine Ex.aload_n (pc := 0) dX6_init_0 rfl rfl ?_
  refine Ex.objI (pc := 1) dX6_init_1 kl_X6_3 (by decide) (by decide) ?_
  refine Ex.aload_n (pc := 4) dX6_init_4 rfl rfl ?_
  refine Ex.bipush (pc := 5) (v := 20) dX6_init_5 rfl ?_
  refine Ex.zI (pc := 7) (N := 20) (h := h) hz hlen (by omega) (hPI _ (by omega)) dX6_init_7 (by decide) (by decide) (by decide) (by omega) (by omega) (oks_r (by omega) oks_0) (okl_r (by omega) (okl_r (by omega) okl_0)) (fun I L R hz => ?_)
  refine Ex.zPR (pc := 9) (c := h) hz dX6_init_9 fX6_9 (sh_ap hb) (Or.inr ⟨rfl, rfl⟩) (by rw [(len_ap hlen)]; omega) (fun I L R hz => ?_)
  refine Ex.aload_n (pc := 12) dX6_init_12 rfl rfl ?_
  refine Ex.bipush (pc := 13) (v := 64) dX6_init_13 rfl ?_
  refine Ex.zI (pc := 15) (N := 64) (h := h + 1) hz (len_ap hlen) (by omega) (hPI _ (by omega)) dX6_init_15 (by decide) (by decide) (by decide) (by omega) (by omega) (oks_r (by omega) oks_0) (okl_r (by omega) (okl_r (by omega) okl_0)) (fun I L R hz => ?_)
  refine Ex.zPR (pc := 17) (c := h + 1) hz dX6_init_17 fX6_15 (sh_ap (sh_ap hb)) (Or.inr ⟨rfl, rfl⟩) (by rw [(len_ap (len_ap hlen))]; omega) (fun I L R hz => ?_)
  refine Ex.aload_n (pc := 20) dX6_init_20 rfl rfl ?_
  refine Ex.iconst (pc := 21) (v := -1) dX6_init_21 rfl ?_
  refine Ex.zPI (pc := 22) hz dX6_init_22 fX6_18 (sh_ap (sh_ap hb)) (Or.inl rfl) ⟨rfl, rfl⟩ (fun I L R hz => ?_)
  refine Ex.aload_n (pc := 25) dX6_init_25 rfl rfl ?_
  refine Ex.iconst (pc := 26) (v := -1) dX6_init_26 rfl ?_
  refine Ex.zPI (pc := 27) hz dX6_init_27 fX6_22 (sh_ap (sh_ap hb)) (Or.inl rfl) ⟨rfl, rfl⟩ (fun I L R hz => ?_)
  refine Ex.aload_n (pc := 30) dX6_init_30 rfl rfl ?_
  refine Ex.iconst (pc := 31) (v := 0) dX6_init_31 rfl ?_
  refine Ex.zP0 (pc := 32) hz rfl dX6_init_32 fX6_25 (sh_ap (sh_ap hb)) (Or.inl rfl) ⟨rfl, rfl⟩ (fun I L R hz => ?_)
  refine Ex.aload_n (pc := 35) dX6_init_35 rfl rfl ?_
  refine Ex.iconst (pc := 36) (v := 0) dX6_init_36 rfl ?_
  refine Ex.zP0 (pc := 37) hz rfl dX6_init_37 fX6_28 (sh_ap (sh_ap hb)) (Or.inl rfl) ⟨rfl, rfl⟩ (fun I L R hz => ?_)
  refine Ex.aload_n (pc := 40) dX6_init_40 rfl rfl ?_
  refine Ex.iconst (pc := 41) (v := 0) dX6_init_41 rfl ?_
  refine Ex.zP0 (pc := 42) hz rfl dX6_init_42 fX6_31 (sh_ap (sh_ap hb)) (Or.inl rfl) ⟨rfl, rfl⟩ (fun I L R hz => ?_)
  refine Ex.aload_n (pc := 45) dX6_init_45 rfl rfl ?_
  refine Ex.iconst (pc := 46) (v := 0) dX6_init_46 rfl ?_
  refine Ex.zP0 (pc := 47) hz rfl dX6_init_47 fX6_34 (sh_ap (sh_ap hb)) (Or.inl rfl) ⟨rfl, rfl⟩ (fun I L R hz => ?_)
  refine Ex.aload_n (pc := 50) dX6_init_50 rfl rfl ?_
  refine Ex.aload_n (pc := 51) dX6_init_51 rfl rfl ?_
  refine Ex.zPR (pc := 52) (c := c) hz dX6_init_52 fX6_37 (sh_ap (sh_ap hb)) (Or.inl rfl) (by rw [(len_ap (len_ap hlen))]; omega) (fun I L R hz => ?_)
  refine Ex.vret (pc := 55) rfl dX6_init_55 (by omega) (by omega) ?_
  exact ⟨I, L, R, rfl, rfl, hz⟩
set_option maxRecDepth 20000 in
theorem t_X0_init {h b : Nat} {sh : aSh} {I : aI} {L : aL} {R : aR} (hlen : sh.length = h) (hb : sh[b]? = some (0, 0)) (hbh : b < h) (hI : I b = f0) (hL : L b = g0) (hR : R b = r0) : Run 1 1 300 mX0_init [.ref b] (sh, I, L, R) (NwQ (sh ++ [(11, 300)]) b h (h + 1) f0 g0 (va_up r0 0 (some (h))) I L R) := by
  refine Run.of (ls := [some (.ref b)]) (by decide) (Nat.le_of_ble_eq_true rfl) rfl ?_
  have hz := Zq.start hbh hI hL hR
  unfold NwQ
  obtain ⟨P, hP⟩ : ∃ P, P = Psb I L R h := ⟨_, rfl⟩
  rw [← hP] at hz ⊢
  have hPI : ∀ j, h ≤ j → ∀ li ri, P j f0 li ri := fun j hj li ri => by rw [hP]; exact ⟨fun q => absurd q (by omega), fun _ => rfl⟩
  clear hP hI hL hR
  refine Ex.aload_n (pc := 0) dX0_init_0 rfl rfl ?_
  refine Ex.objI (pc := 1) dX0_init_1 kl_X0_3 (by decide) (by decide) ?_
  refine Ex.aload_n (pc := 4) dX0_init_4 rfl rfl ?_
  refine Ex.sipush (pc := 5) (v := 300) dX0_init_5 rfl ?_
  refine Ex.zI (pc := 8) (N := 300) (h := h) hz hlen (by omega) (hPI _ (by omega)) dX0_init_8 (by decide) (by decide) (by decide) (by omega) (by omega) (oks_r (by omega) oks_0) (okl_r (by omega) okl_0) (fun I L R hz => ?_)
  refine Ex.zPR (pc := 10) (c := h) hz dX0_init_10 fX0_11 (sh_ap hb) (Or.inr ⟨rfl, rfl⟩) (by rw [(len_ap hlen)]; omega) (fun I L R hz => ?_)
  refine Ex.aload_n (pc := 13) dX0_init_13 rfl rfl ?_
  refine Ex.iconst (pc := 14) (v := 0) dX0_init_14 rfl ?_
  refine Ex.zP0 (pc := 15) hz rfl dX0_init_15 fX0_17 (sh_ap hb) (Or.inl rfl) ⟨rfl, rfl⟩ (fun I L R hz => ?_)
  refine Ex.aload_n (pc := 18) dX0_init_18 rfl rfl ?_
  refine Ex.iconst (pc := 19) (v := 0) dX0_init_19 rfl ?_
  refine Ex.zP0 (pc := 20) hz rfl dX0_init_20 fX0_21 (sh_ap hb) (Or.inl rfl) ⟨rfl, rfl⟩ (fun I L R hz => ?_)
  refine Ex.vret (pc := 23) rfl dX0_init_23 (by omega) (by omega) ?_
  exact ⟨I, L, R, rfl, rfl, hz⟩
set_option maxRecDepth 20000 in
theorem t_X2_init {h b : Nat} {sh : aSh} {I : aI} {L : aL} {R : aR} (hlen : sh.length = h) (hb : sh[b]? = some (2, 0)) (hbh : b < h) (hI : I b = f0) (hL : L b = g0) (hR : R b = r0) : Run 1 1 840 mX2_init [.ref b] (sh, I, L, R) (NwQ (sh ++ [(11, 840)]) b h (h + 1) f0 g0 (va_up r0 0 (some (h))) I L R) := by
  refine Run.of (ls := [some (.ref b)]) (by decide) (Nat.le_of_ble_eq_true rfl) rfl ?_
  have hz := Zq.start hbh hI hL hR
  unfold NwQ
  obtain ⟨P, hP⟩ : ∃ P, P = Psb I L R h := ⟨_, rfl⟩
  rw [← hP] at hz ⊢
  have hPI : ∀ j, h ≤ j → ∀ li ri, P j f0 li ri := fun j hj li ri => by rw [hP]; exact ⟨fun q => absurd q (by omega), fun _ => rfl⟩
  clear hP hI hL hR
  refine Ex.aload_n (pc := 0) dX2_init_0 rfl rfl ?_
  refine Ex.objI (pc := 1) dX2_init_1 kl_X2_3 (by decide) (by decide) ?_
  refine Ex.aload_n (pc := 4) dX2_init_4 rfl rfl ?_
  refine Ex.sipush (pc := 5) (v := 840) dX2_init_5 rfl ?_
  refine Ex.zI (pc := 8) (N := 840) (h := h) hz hlen (by omega) (hPI _ (by omega)) dX2_init_8 (by decide) (by decide) (by decide) (by omega) (by omega) (oks_r (by omega) oks_0) (okl_r (by omega) okl_0) (fun I L R hz => ?_)
  refine Ex.zPR (pc := 10) (c := h) hz dX2_init_10 fX2_11 (sh_ap hb) (Or.inr ⟨rfl, rfl⟩) (by rw [(len_ap hlen)]; omega) (fun I L R hz => ?_)
  refine Ex.vret (pc := 13) rfl dX2_init_13 (by omega) (by omega) ?_
  exact ⟨I, L, R, rfl, rfl, hz⟩
set_option maxRecDepth 20000 in
theorem t_X7_init {h b c e : Nat} {sh : aSh} {I : aI} {L : aL} {R : aR} (hlen : sh.length = h) (hb : sh[b]? = some (7, 0)) (hbh : b < h) (hc : c < h) (he : e < h) (hI : I b = f0) (hL : L b = g0) (hR : R b = r0) : Run 1 2 294 mX7_init [.ref b, .ref c, .ref e] (sh, I, L, R) (NwQ ((sh ++ [(11, 48)]) ++ [(11, 246)]) b h (h + 2) (upd (upd f0 2 (-1)) 3 (-1)) g0 (va_up (va_up (va_up (va_up r0 1 (some (h))) 4 (some (h + 1))) 5 (some (c))) 6 (some (e))) I L R) := by
  refine Run.of (ls := [some (.ref b), some (.ref c), some (.ref e)]) (by decide) (Nat.le_of_ble_eq_true rfl) rfl ?_
  have hz := Zq.start hbh hI hL hR
  unfold NwQ
  obtain ⟨P, hP⟩ : ∃ P, P = Psb I L R h := ⟨_, rfl⟩
  rw [← hP] at hz ⊢
  have hPI : ∀ j, h ≤ j → ∀ li ri, P j f0 li ri := fun j hj li ri => by rw [hP]; exact ⟨fun q => absurd q (by omega), fun _ => rfl⟩
  clear hP hI hL hR
  refine Ex.aload_n (pc := 0) dX7_init_0 rfl rfl ?_
  refine Ex.objI (pc := 1) dX7_init_1 kl_X7_3 (by decide) (by decide) ?_
  refine Ex.aload_n (pc := 4) dX7_init_4 rfl rfl ?_
  refine Ex.iconst (pc := 5) (v := 0) dX7_init_5 rfl ?_
  refine Ex.zP0 (pc := 6) hz rfl dX7_init_6 fX7_9 hb (Or.inl rfl) ⟨rfl, rfl⟩ (fun I L R hz => ?_)
  refine Ex.aload_n (pc := 9) dX7_init_9 rfl rfl ?_
  refine Ex.bipush (pc := 10) (v := 48) dX7_init_10 rfl ?_
  refine Ex.zI (pc := 12) (N := 48) (h := h) hz hlen (by omega) (hPI _ (by omega)) dX7_init_12 (by decide) (by decide) (by decide) (by omega) (by omega) (oks_r (by omega) oks_0) (okl_r (by omega) (okl_r (by omega) (okl_r (by omega) okl_0))) (fun I L R hz => ?_)
  refine Ex.zPR (pc := 14) (c := h) hz dX7_init_14 fX7_15 (sh_ap hb) (Or.inr ⟨rfl, rfl⟩) (by rw [(len_ap hlen)]; omega) (fun I L R hz => ?_)
  refine Ex.aload_n (pc := 17) dX7_init_17 rfl rfl ?_
  refine Ex.iconst (pc := 18) (v := -1) dX7_init_18 rfl ?_
  refine Ex.zPI (pc := 19) hz dX7_init_19 fX7_19 (sh_ap hb) (Or.inl rfl) ⟨rfl, rfl⟩ (fun I L R hz => ?_)
  refine Ex.aload_n (pc := 22) dX7_init_22 rfl rfl ?_
  refine Ex.iconst (pc := 23) (v := -1) dX7_init_23 rfl ?_
  refine Ex.zPI (pc := 24) hz dX7_init_24 fX7_22 (sh_ap hb) (Or.inl rfl) ⟨rfl, rfl⟩ (fun I L R hz => ?_)
  refine Ex.aload_n (pc := 27) dX7_init_27 rfl rfl ?_
  refine Ex.sipush (pc := 28) (v := 246) dX7_init_28 rfl ?_
  refine Ex.zI (pc := 31) (N := 246) (h := h + 1) hz (len_ap hlen) (by omega) (hPI _ (by omega)) dX7_init_31 (by decide) (by decide) (by decide) (by omega) (by omega) (oks_r (by omega) oks_0) (okl_r (by omega) (okl_r (by omega) (okl_r (by omega) okl_0))) (fun I L R hz => ?_)
  refine Ex.zPR (pc := 33) (c := h + 1) hz dX7_init_33 fX7_25 (sh_ap (sh_ap hb)) (Or.inr ⟨rfl, rfl⟩) (by rw [(len_ap (len_ap hlen))]; omega) (fun I L R hz => ?_)
  refine Ex.aload_n (pc := 36) dX7_init_36 rfl rfl ?_
  refine Ex.aload_n (pc := 37) dX7_init_37 rfl rfl ?_
  refine Ex.zPR (pc := 38) (c := c) hz dX7_init_38 fX7_28 (sh_ap (sh_ap hb)) (Or.inr ⟨rfl, rfl⟩) (by rw [(len_ap (len_ap hlen))]; omega) (fun I L R hz => ?_)
  refine Ex.aload_n (pc := 41) dX7_init_41 rfl rfl ?_
  refine Ex.aload_n (pc := 42) dX7_init_42 rfl rfl ?_
  refine Ex.zPR (pc := 43) (c := e) hz dX7_init_43 fX7_32 (sh_ap (sh_ap hb)) (Or.inr ⟨rfl, rfl⟩) (by rw [(len_ap (len_ap hlen))]; omega) (fun I L R hz => ?_)
  refine Ex.vret (pc := 46) rfl dX7_init_46 (by omega) (by omega) ?_
  exact ⟨I, L, R, rfl, rfl, hz⟩
set_option maxRecDepth 20000 in
theorem t_X3_init {h b c e : Nat} {sh : aSh} {I : aI} {L : aL} {R : aR} (hlen : sh.length = h) (hb : sh[b]? = some (3, 0)) (hbh : b < h) (hc : c < h) (he : e < h) (hI : I b = f0) (hL : L b = g0) (hR : R b = r0) : Run 1 3 42 mX3_init [.ref b, .ref c, .ref e] (sh, I, L, R) (NwQ (((sh ++ [(11, 6)]) ++ [(11, 6)]) ++ [(11, 30)]) b h (h + 3) (upd f0 1 (-1)) g0 (va_up (va_up (va_up (va_up (va_up r0 2 (some (h))) 3 (some (h + 1))) 4 (some (h + 2))) 5 (some (c))) 6 (some (e))) I L R) := by
  refine Run.of (ls := [some (.ref b), some (.ref c), some (.ref e)]) (by decide) (Nat.le_of_ble_eq_true rfl) rfl ?_
  have hz := Zq.start hbh hI hL hR
  unfold NwQ
  obtain ⟨P, hP⟩ : ∃ P, P = Psb I L R h := ⟨_, rfl⟩
  rw [← hP] at hz ⊢
  have hPI : ∀ j, h ≤ j → ∀ li ri, P j f0 li ri := fun j hj li ri => by rw [hP]; exact ⟨fun q => absurd q (by omega), fun _ => rfl⟩
  clear hP hI hL hR
  refine Ex.aload_n (pc := 0) dX3_init_0 rfl rfl ?_
  refine Ex.objI (pc := 1) dX3_init_1 kl_X3_3 (by decide) (by decide) ?_
  refine Ex.aload_n (pc := 4) dX3_init_4 rfl rfl ?_
  refine Ex.iconst (pc := 5) (v := 0) dX3_init_5 rfl ?_
  refine Ex.zP0 (pc := 6) hz rfl dX3_init_6 fX3_9 hb (Or.inl rfl) ⟨rfl, rfl⟩ (fun I L R hz => ?_)
  refine Ex.aload_n (pc := 9) dX3_init_9 rfl rfl ?_
  refine Ex.iconst (pc := 10) (v := -1) dX3_init_10 rfl ?_
  refine Ex.zPI (pc := 11) hz dX3_init_11 fX3_15 hb (Or.inl rfl) ⟨rfl, rfl⟩ (fun I L R hz => ?_)
  refine Ex.aload_n (pc := 14) dX3_init_14 rfl rfl ?_
  refine Ex.bipush (pc := 15) (v := 6) dX3_init_15 rfl ?_
  refine Ex.zI (pc := 17) (N := 6) (h := h) hz hlen (by omega) (hPI _ (by omega)) dX3_init_17 (by decide) (by decide) (by decide) (by omega) (by omega) (oks_r (by omega) oks_0) (okl_r (by omega) (okl_r (by omega) (okl_r (by omega) okl_0))) (fun I L R hz => ?_)
  refine Ex.zPR (pc := 19) (c := h) hz dX3_init_19 fX3_19 (sh_ap hb) (Or.inr ⟨rfl, rfl⟩) (by rw [(len_ap hlen)]; omega) (fun I L R hz => ?_)
  refine Ex.aload_n (pc := 22) dX3_init_22 rfl rfl ?_
  refine Ex.bipush (pc := 23) (v := 6) dX3_init_23 rfl ?_
  refine Ex.zI (pc := 25) (N := 6) (h := h + 1) hz (len_ap hlen) (by omega) (hPI _ (by omega)) dX3_init_25 (by decide) (by decide) (by decide) (by omega) (by omega) (oks_r (by omega) oks_0) (okl_r (by omega) (okl_r (by omega) (okl_r (by omega) okl_0))) (fun I L R hz => ?_)
  refine Ex.zPR (pc := 27) (c := h + 1) hz dX3_init_27 fX3_23 (sh_ap (sh_ap hb)) (Or.inr ⟨rfl, rfl⟩) (by rw [(len_ap (len_ap hlen))]; omega) (fun I L R hz => ?_)
  refine Ex.aload_n (pc := 30) dX3_init_30 rfl rfl ?_
  refine Ex.bipush (pc := 31) (v := 30) dX3_init_31 rfl ?_
  refine Ex.zI (pc := 33) (N := 30) (h := h + 2) hz (len_ap (len_ap hlen)) (by omega) (hPI _ (by omega)) dX3_init_33 (by decide) (by decide) (by decide) (by omega) (by omega) (oks_r (by omega) oks_0) (okl_r (by omega) (okl_r (by omega) (okl_r (by omega) okl_0))) (fun I L R hz => ?_)
  refine Ex.zPR (pc := 35) (c := h + 2) hz dX3_init_35 fX3_26 (sh_ap (sh_ap (sh_ap hb))) (Or.inr ⟨rfl, rfl⟩) (by rw [(len_ap (len_ap (len_ap hlen)))]; omega) (fun I L R hz => ?_)
  refine Ex.aload_n (pc := 38) dX3_init_38 rfl rfl ?_
  refine Ex.aload_n (pc := 39) dX3_init_39 rfl rfl ?_
  refine Ex.zPR (pc := 40) (c := c) hz dX3_init_40 fX3_29 (sh_ap (sh_ap (sh_ap hb))) (Or.inr ⟨rfl, rfl⟩) (by rw [(len_ap (len_ap (len_ap hlen)))]; omega) (fun I L R hz => ?_)
  refine Ex.aload_n (pc := 43) dX3_init_43 rfl rfl ?_
  refine Ex.aload_n (pc := 44) dX3_init_44 rfl rfl ?_
  refine Ex.zPR (pc := 45) (c := e) hz dX3_init_45 fX3_33 (sh_ap (sh_ap (sh_ap hb))) (Or.inr ⟨rfl, rfl⟩) (by rw [(len_ap (len_ap (len_ap hlen)))]; omega) (fun I L R hz => ?_)
  refine Ex.vret (pc := 48) rfl dX3_init_48 (by omega) (by omega) ?_
  exact ⟨I, L, R, rfl, rfl, hz⟩
set_option maxRecDepth 20000 in
theorem t_X1_init {h b c e : Nat} {sh : aSh} {I : aI} {L : aL} {R : aR} (hlen : sh.length = h) (hb : sh[b]? = some (1, 0)) (hbh : b < h) (hc : c < h) (he : e < h) (hI : I b = f0) (hL : L b = g0) (hR : R b = r0) : Run 1 3 612 mX1_init [.ref b, .ref c, .ref e] (sh, I, L, R) (NwQ (((sh ++ [(11, 6)]) ++ [(11, 6)]) ++ [(11, 600)]) b h (h + 3) (upd f0 0 (-1)) g0 (va_up (va_up (va_up (va_up (va_up r0 3 (some (h))) 4 (some (h + 1))) 5 (some (h + 2))) 6 (some (c))) 7 (some (e))) I L R) := by
  refine Run.of (ls := [some (.ref b), some (.ref c), some (.ref e)]) (by decide) (Nat.le_of_ble_eq_true rfl) rfl ?_
  have hz := Zq.start hbh hI hL hR
  unfold NwQ
  obtain ⟨P, hP⟩ : ∃ P, P = Psb I L R h := ⟨_, rfl⟩
  rw [← hP] at hz ⊢
  have hPI : ∀ j, h ≤ j → ∀ li ri, P j f0 li ri := fun j hj li ri => by rw [hP]; exact ⟨fun q => absurd q (by omega), fun _ => rfl⟩
  clear hP hI hL hR
  refine Ex.aload_n (pc := 0) dX1_init_0 rfl rfl ?_
  refine Ex.objI (pc := 1) dX1_init_1 kl_X1_3 (by decide) (by decide) ?_
  refine Ex.aload_n (pc := 4) dX1_init_4 rfl rfl ?_
  refine Ex.iconst (pc := 5) (v := -1) dX1_init_5 rfl ?_
  refine Ex.zPI (pc := 6) hz dX1_init_6 fX1_9 hb (Or.inl rfl) ⟨rfl, rfl⟩ (fun I L R hz => ?_)
  refine Ex.aload_n (pc := 9) dX1_init_9 rfl rfl ?_
  refine Ex.iconst (pc := 10) (v := 0) dX1_init_10 rfl ?_
  refine Ex.zP0 (pc := 11) hz rfl dX1_init_11 fX1_15 hb (Or.inl rfl) ⟨rfl, rfl⟩ (fun I L R hz => ?_)
  refine Ex.aload_n (pc := 14) dX1_init_14 rfl rfl ?_
  refine Ex.iconst (pc := 15) (v := 0) dX1_init_15 rfl ?_
  refine Ex.zP0 (pc := 16) hz rfl dX1_init_16 fX1_18 hb (Or.inl rfl) ⟨rfl, rfl⟩ (fun I L R hz => ?_)
  refine Ex.aload_n (pc := 19) dX1_init_19 rfl rfl ?_
  refine Ex.bipush (pc := 20) (v := 6) dX1_init_20 rfl ?_
  refine Ex.zI (pc := 22) (N := 6) (h := h) hz hlen (by omega) (hPI _ (by omega)) dX1_init_22 (by decide) (by decide) (by decide) (by omega) (by omega) (oks_r (by omega) oks_0) (okl_r (by omega) (okl_r (by omega) (okl_r (by omega) okl_0))) (fun I L R hz => ?_)
  refine Ex.zPR (pc := 24) (c := h) hz dX1_init_24 fX1_21 (sh_ap hb) (Or.inr ⟨rfl, rfl⟩) (by rw [(len_ap hlen)]; omega) (fun I L R hz => ?_)
  refine Ex.aload_n (pc := 27) dX1_init_27 rfl rfl ?_
  refine Ex.bipush (pc := 28) (v := 6) dX1_init_28 rfl ?_
  refine Ex.zI (pc := 30) (N := 6) (h := h + 1) hz (len_ap hlen) (by omega) (hPI _ (by omega)) dX1_init_30 (by decide) (by decide) (by decide) (by omega) (by omega) (oks_r (by omega) oks_0) (okl_r (by omega) (okl_r (by omega) (okl_r (by omega) okl_0))) (fun I L R hz => ?_)
  refine Ex.zPR (pc := 32) (c := h + 1) hz dX1_init_32 fX1_25 (sh_ap (sh_ap hb)) (Or.inr ⟨rfl, rfl⟩) (by rw [(len_ap (len_ap hlen))]; omega) (fun I L R hz => ?_)
  refine Ex.aload_n (pc := 35) dX1_init_35 rfl rfl ?_
  refine Ex.sipush (pc := 36) (v := 600) dX1_init_36 rfl ?_
  refine Ex.zI (pc := 39) (N := 600) (h := h + 2) hz (len_ap (len_ap hlen)) (by omega) (hPI _ (by omega)) dX1_init_39 (by decide) (by decide) (by decide) (by omega) (by omega) (oks_r (by omega) oks_0) (okl_r (by omega) (okl_r (by omega) (okl_r (by omega) okl_0))) (fun I L R hz => ?_)
  refine Ex.zPR (pc := 41) (c := h + 2) hz dX1_init_41 fX1_28 (sh_ap (sh_ap (sh_ap hb))) (Or.inr ⟨rfl, rfl⟩) (by rw [(len_ap (len_ap (len_ap hlen)))]; omega) (fun I L R hz => ?_)
  refine Ex.aload_n (pc := 44) dX1_init_44 rfl rfl ?_
  refine Ex.aload_n (pc := 45) dX1_init_45 rfl rfl ?_
  refine Ex.zPR (pc := 46) (c := c) hz dX1_init_46 fX1_31 (sh_ap (sh_ap (sh_ap hb))) (Or.inr ⟨rfl, rfl⟩) (by rw [(len_ap (len_ap (len_ap hlen)))]; omega) (fun I L R hz => ?_)
  refine Ex.aload_n (pc := 49) dX1_init_49 rfl rfl ?_
  refine Ex.aload_n (pc := 50) dX1_init_50 rfl rfl ?_
  refine Ex.zPR (pc := 51) (c := e) hz dX1_init_51 fX1_35 (sh_ap (sh_ap (sh_ap hb))) (Or.inr ⟨rfl, rfl⟩) (by rw [(len_ap (len_ap (len_ap hlen)))]; omega) (fun I L R hz => ?_)
  refine Ex.vret (pc := 54) rfl dX1_init_54 (by omega) (by omega) ?_
  exact ⟨I, L, R, rfl, rfl, hz⟩
theorem t_planZ {h b : Nat} {sh : aSh} {I : aI} {L : aL} {R : aR} (hlen : sh.length = h) (hb : sh[b]? = some (5, 0)) (hbh : b < h) (hI : I b = f0) (hL : L b = g0) (hR : R b = r0) : Run 1 7 67 mX5_init [.ref b, .int 0] (sh, I, L, R) (NwQ (shP sh 0) b h (h + 7) f0 g0 (PR h) I L R) := by
  refine (t_planI (n := 0) hlen hb hbh (by decide) hI hR).imp ?_
  rintro x S' ⟨I', rfl, rfl, p1, p2, p3⟩
  refine ⟨I', L, _, rfl, rfl, p3, hL, by rw [va_up_s], fun i hi hib => ⟨fun q => ⟨p1 i hib (Or.inl q), rfl, by rw [va_up_n hib]⟩, fun q => p2 i q (by omega)⟩⟩
def P9 (i : Nat) (fi : Nat → Int32) (_ : Nat → Int64) (ri : Nat → Option Nat) : Prop := (i ∈ [2, 10, 13, 16, 19, 21, 23, 26, 30] → ∀ k, k < 17 → ri k = RR i k) ∧ (i = 23 → fi 0 = 0) ∧ (i = 26 → fi 0 = 0) ∧ (i = 30 → fi 0 = -1) ∧ (i ∉ [16, 23, 26, 30] → fi = f0)
theorem P9_a {i : Nat} {li : Nat → Int64} {ri : Nat → Option Nat} (h : i ∉ [2, 10, 13, 16, 19, 21, 23, 26, 30]) : P9 i f0 li ri := by
  simp at h
  exact ⟨fun q => absurd q (by simp; omega), fun q => absurd q (by omega), fun q => absurd q (by omega), fun q => absurd q (by omega), fun _ => rfl⟩
def SHa : aSh := (SH 0).take 36
set_option maxRecDepth 20000 in
theorem t_X9_init {I : aI} {L : aL} {R : aR} (hI : I 0 = f0) (hL : L 0 = g0) (hR : R 0 = r0) : Run 2 35 3946 mX9_init [.ref 0] ([(9, 0)], I, L, R) (fun x S' => ∃ I' L' R', x = none ∧ S' = (SHa, I', L', R') ∧ Zq P9 0 36 (upd f0 4 (-1)) (vp_updL g0 13 (1)) (va_up (va_up (va_up (va_up (va_up (va_up (va_up (va_up (va_up (va_up (va_up (va_up r0 0 (some (1))) 2 (some (2))) 5 (some (10))) 6 (some (13))) 7 (some (16))) 8 (some (19))) 9 (some (21))) 10 (some (23))) 11 (some (26))) 12 (some (30))) 14 (some (34))) 16 (some (35))) I' L' R') := by
  refine Run.of (ls := [some (.ref 0)]) (by decide) (Nat.le_of_ble_eq_true rfl) rfl ?_
  have hz : Zq P9 0 1 f0 g0 r0 I L R := ⟨hI, hL, hR, fun i a b => absurd a (by omega)⟩
  clear hI hL hR
  refine Ex.aload_n (pc := 0) dX9_init_0 rfl rfl ?_
  refine Ex.objI (pc := 1) dX9_init_1 kl_X9_1 (by decide) (by decide) ?_
  refine Ex.aload_n (pc := 4) dX9_init_4 rfl rfl ?_
  refine Ex.sipush (pc := 5) (v := 1600) dX9_init_5 rfl ?_
  refine Ex.zB (pc := 8) (N := 1600) (h := 1) hz rfl (by omega) (fun _ _ => P9_a (by decide)) dX9_init_8 (by decide) (by decide) (by decide) (by decide) (by decide) (oks_r (by omega) oks_0) (okl_r (by decide) okl_0) (fun I L R hz => ?_)
  refine Ex.zPR (pc := 10) (c := 1) hz dX9_init_10 fX9_9 rfl (Or.inr ⟨rfl, rfl⟩) (by decide) (fun I L R hz => ?_)
  refine Ex.aload_n (pc := 13) dX9_init_13 rfl rfl ?_
  refine Ex.iconst (pc := 14) (v := 0) dX9_init_14 rfl ?_
  refine Ex.zP0 (pc := 15) hz rfl dX9_init_15 fX9_13 rfl (Or.inl rfl) ⟨rfl, rfl⟩ (fun I L R hz => ?_)
  refine Ex.aload_n (pc := 18) dX9_init_18 rfl rfl ?_
  refine Ex.zN (pc := 19) (h := 2) (ci := 5) hz rfl (by omega) dX9_init_19 nX9_17 (by decide) (by decide) (oks_r (by omega) oks_0) (okl_r (by decide) okl_0) (fun I L R hz => ?_)
  refine Ex.dup (pc := 22) dX9_init_22 rfl ?_
  refine Ex.iconst (pc := 23) (v := 0) dX9_init_23 rfl ?_
  have hn := hz.new (by omega)
  refine Ex.callI (pc := 24) (b := 2) (As := [.int 0]) dX9_init_24 cX9_19 (t_planZ (h := 3) (b := 2) rfl rfl (by decide) hn.1 hn.2.1 hn.2.2) rfl rfl (by decide) (by decide) (by decide) (by decide) (Or.inr ⟨oks_r (Nat.le_of_ble_eq_true rfl) (oks_r (Nat.le_of_ble_eq_true rfl) oks_0), okl_r (Nat.le_of_ble_eq_true rfl) okl_0⟩) ?_
  rintro S2 ⟨I, L, R, -, rfl, hq⟩
  replace hz := hz.back (h' := 10) hq (by omega) (by omega) ⟨fun _ => by decide, by decide, by decide, by decide, fun _ => rfl⟩ (fun i a b li ri => P9_a (by simp; omega))
  clear hq hn
  refine Ex.zPR (pc := 27) (c := 2) hz dX9_init_27 fX9_22 rfl (Or.inl rfl) (by decide) (fun I L R hz => ?_)
  refine Ex.aload_n (pc := 30) dX9_init_30 rfl rfl ?_
  refine Ex.iconst (pc := 31) (v := 0) dX9_init_31 rfl ?_
  refine Ex.zP0 (pc := 32) hz rfl dX9_init_32 fX9_26 rfl (Or.inl rfl) ⟨rfl, rfl⟩ (fun I L R hz => ?_)
  refine Ex.aload_n (pc := 35) dX9_init_35 rfl rfl ?_
  refine Ex.iconst (pc := 36) (v := -1) dX9_init_36 rfl ?_
  refine Ex.zPI (pc := 37) hz dX9_init_37 fX9_29 rfl (Or.inl rfl) ⟨rfl, rfl⟩ (fun I L R hz => ?_)
  refine Ex.aload_n (pc := 40) dX9_init_40 rfl rfl ?_
  refine Ex.zN (pc := 41) (h := 10) (ci := 8) hz rfl (by omega) dX9_init_41 nX9_32 (by decide) (by decide) (oks_r (by omega) oks_0) (okl_r (by decide) okl_0) (fun I L R hz => ?_)
  refine Ex.dup (pc := 44) dX9_init_44 rfl ?_
  have hn := hz.new (by omega)
  refine Ex.callIN (pc := 45) (b := 10) (As := []) dX9_init_45 cX9_34 (t_X8_init (h := 11) (b := 10) rfl rfl (by decide) hn.1 hn.2.1 hn.2.2) rfl rfl (by decide) (by decide) (by decide) (by decide) (Or.inr ⟨oks_r (Nat.le_of_ble_eq_true rfl) (oks_r (Nat.le_of_ble_eq_true rfl) oks_0), okl_r (Nat.le_of_ble_eq_true rfl) okl_0⟩) ?_
  rintro S2 ⟨I, L, R, -, rfl, hq⟩
  replace hz := hz.back (h' := 13) hq (by omega) (by omega) ⟨fun _ => by decide, by decide, by decide, by decide, fun _ => rfl⟩ (fun i a b li ri => P9_a (by simp; omega))
  clear hq hn
  refine Ex.zPR (pc := 48) (c := 10) hz dX9_init_48 fX9_35 rfl (Or.inr ⟨rfl, rfl⟩) (by decide) (fun I L R hz => ?_)
  refine Ex.aload_n (pc := 51) dX9_init_51 rfl rfl ?_
  refine Ex.zN (pc := 52) (h := 13) (ci := 8) hz rfl (by omega) dX9_init_52 nX9_32 (by decide) (by decide) (oks_r (by omega) oks_0) (okl_r (by decide) okl_0) (fun I L R hz => ?_)
  refine Ex.dup (pc := 55) dX9_init_55 rfl ?_
  have hn := hz.new (by omega)
  refine Ex.callIN (pc := 56) (b := 13) (As := []) dX9_init_56 cX9_34 (t_X8_init (h := 14) (b := 13) rfl rfl (by decide) hn.1 hn.2.1 hn.2.2) rfl rfl (by decide) (by decide) (by decide) (by decide) (Or.inr ⟨oks_r (Nat.le_of_ble_eq_true rfl) (oks_r (Nat.le_of_ble_eq_true rfl) oks_0), okl_r (Nat.le_of_ble_eq_true rfl) okl_0⟩) ?_
  rintro S2 ⟨I, L, R, -, rfl, hq⟩
  replace hz := hz.back (h' := 16) hq (by omega) (by omega) ⟨fun _ => by decide, by decide, by decide, by decide, fun _ => rfl⟩ (fun i a b li ri => P9_a (by simp; omega))
  clear hq hn
  refine Ex.zPR (pc := 59) (c := 13) hz dX9_init_59 fX9_39 rfl (Or.inr ⟨rfl, rfl⟩) (by decide) (fun I L R hz => ?_)
  refine Ex.aload_n (pc := 62) dX9_init_62 rfl rfl ?_
  refine Ex.zN (pc := 63) (h := 16) (ci := 6) hz rfl (by omega) dX9_init_63 nX9_42 (by decide) (by decide) (oks_r (by omega) oks_0) (okl_r (by decide) okl_0) (fun I L R hz => ?_)
  refine Ex.dup (pc := 66) dX9_init_66 rfl ?_
  refine Ex.aload_n (pc := 67) dX9_init_67 rfl rfl ?_
  refine Ex.getR (pc := 68) (b := 2) dX9_init_68 fX9_22 rfl (by rw [hz.2.2.1]; rfl) ?_
  have hn := hz.new (by omega)
  refine Ex.callI (pc := 71) (b := 16) (As := [.ref 2]) dX9_init_71 cX9_44 (t_X6_init (h := 17) (b := 16) rfl rfl (by decide) (by decide) hn.1 hn.2.1 hn.2.2) rfl rfl (by decide) (by decide) (by decide) (by decide) (Or.inr ⟨oks_r (Nat.le_of_ble_eq_true rfl) (oks_r (Nat.le_of_ble_eq_true rfl) oks_0), okl_r (Nat.le_of_ble_eq_true rfl) okl_0⟩) ?_
  rintro S2 ⟨I, L, R, -, rfl, hq⟩
  replace hz := hz.back (h' := 19) hq (by omega) (by omega) ⟨fun _ => by decide, by decide, by decide, by decide, fun q => absurd (by decide) q⟩ (fun i a b li ri => P9_a (by simp; omega))
  clear hq hn
  refine Ex.zPR (pc := 74) (c := 16) hz dX9_init_74 fX9_47 rfl (Or.inr ⟨rfl, rfl⟩) (by decide) (fun I L R hz => ?_)
  refine Ex.aload_n (pc := 77) dX9_init_77 rfl rfl ?_
  refine Ex.zN (pc := 78) (h := 19) (ci := 0) hz rfl (by omega) dX9_init_78 nX9_51 (by decide) (by decide) (oks_r (by omega) oks_0) (okl_r (by decide) okl_0) (fun I L R hz => ?_)
  refine Ex.dup (pc := 81) dX9_init_81 rfl ?_
  have hn := hz.new (by omega)
  refine Ex.callIN (pc := 82) (b := 19) (As := []) dX9_init_82 cX9_53 (t_X0_init (h := 20) (b := 19) rfl rfl (by decide) hn.1 hn.2.1 hn.2.2) rfl rfl (by decide) (by decide) (by decide) (by decide) (Or.inr ⟨oks_r (Nat.le_of_ble_eq_true rfl) (oks_r (Nat.le_of_ble_eq_true rfl) oks_0), okl_r (Nat.le_of_ble_eq_true rfl) okl_0⟩) ?_
  rintro S2 ⟨I, L, R, -, rfl, hq⟩
  replace hz := hz.back (h' := 21) hq (by omega) (by omega) ⟨fun _ => by decide, by decide, by decide, by decide, fun _ => rfl⟩ (fun i a b li ri => P9_a (by simp; omega))
  clear hq hn
  refine Ex.zPR (pc := 85) (c := 19) hz dX9_init_85 fX9_54 rfl (Or.inr ⟨rfl, rfl⟩) (by decide) (fun I L R hz => ?_)
  refine Ex.aload_n (pc := 88) dX9_init_88 rfl rfl ?_
  refine Ex.zN (pc := 89) (h := 21) (ci := 2) hz rfl (by omega) dX9_init_89 nX9_58 (by decide) (by decide) (oks_r (by omega) oks_0) (okl_r (by decide) okl_0) (fun I L R hz => ?_)
  refine Ex.dup (pc := 92) dX9_init_92 rfl ?_
  have hn := hz.new (by omega)
  refine Ex.callIN (pc := 93) (b := 21) (As := []) dX9_init_93 cX9_60 (t_X2_init (h := 22) (b := 21) rfl rfl (by decide) hn.1 hn.2.1 hn.2.2) rfl rfl (by decide) (by decide) (by decide) (by decide) (Or.inr ⟨oks_r (Nat.le_of_ble_eq_true rfl) (oks_r (Nat.le_of_ble_eq_true rfl) oks_0), okl_r (Nat.le_of_ble_eq_true rfl) okl_0⟩) ?_
  rintro S2 ⟨I, L, R, -, rfl, hq⟩
  replace hz := hz.back (h' := 23) hq (by omega) (by omega) ⟨fun _ => by decide, by decide, by decide, by decide, fun _ => rfl⟩ (fun i a b li ri => P9_a (by simp; omega))
  clear hq hn
  refine Ex.zPR (pc := 96) (c := 21) hz dX9_init_96 fX9_61 rfl (Or.inr ⟨rfl, rfl⟩) (by decide) (fun I L R hz => ?_)
  refine Ex.aload_n (pc := 99) dX9_init_99 rfl rfl ?_
  refine Ex.zN (pc := 100) (h := 23) (ci := 7) hz rfl (by omega) dX9_init_100 nX9_65 (by decide) (by decide) (oks_r (by omega) oks_0) (okl_r (by decide) okl_0) (fun I L R hz => ?_)
  refine Ex.dup (pc := 103) dX9_init_103 rfl ?_
  refine Ex.aload_n (pc := 104) dX9_init_104 rfl rfl ?_
  refine Ex.getR (pc := 105) (b := 16) dX9_init_105 fX9_47 rfl (by rw [hz.2.2.1]; rfl) ?_
  refine Ex.aload_n (pc := 108) dX9_init_108 rfl rfl ?_
  refine Ex.getR (pc := 109) (b := 10) dX9_init_109 fX9_35 rfl (by rw [hz.2.2.1]; rfl) ?_
  have hn := hz.new (by omega)
  refine Ex.callI (pc := 112) (b := 23) (As := [.ref 16, .ref 10]) dX9_init_112 cX9_67 (t_X7_init (h := 24) (b := 23) rfl rfl (by decide) (by decide) (by decide) hn.1 hn.2.1 hn.2.2) rfl rfl (by decide) (by decide) (by decide) (by decide) (Or.inr ⟨oks_r (Nat.le_of_ble_eq_true rfl) (oks_r (Nat.le_of_ble_eq_true rfl) oks_0), okl_r (Nat.le_of_ble_eq_true rfl) okl_0⟩) ?_
  rintro S2 ⟨I, L, R, -, rfl, hq⟩
  replace hz := hz.back (h' := 26) hq (by omega) (by omega) ⟨fun _ => by decide, by decide, by decide, by decide, fun q => absurd (by decide) q⟩ (fun i a b li ri => P9_a (by simp; omega))
  clear hq hn
  refine Ex.zPR (pc := 115) (c := 23) hz dX9_init_115 fX9_70 rfl (Or.inr ⟨rfl, rfl⟩) (by decide) (fun I L R hz => ?_)
  refine Ex.aload_n (pc := 118) dX9_init_118 rfl rfl ?_
  refine Ex.zN (pc := 119) (h := 26) (ci := 3) hz rfl (by omega) dX9_init_119 nX9_74 (by decide) (by decide) (oks_r (by omega) oks_0) (okl_r (by decide) okl_0) (fun I L R hz => ?_)
  refine Ex.dup (pc := 122) dX9_init_122 rfl ?_
  refine Ex.aload_n (pc := 123) dX9_init_123 rfl rfl ?_
  refine Ex.getR (pc := 124) (b := 16) dX9_init_124 fX9_47 rfl (by rw [hz.2.2.1]; rfl) ?_
  refine Ex.aload_n (pc := 127) dX9_init_127 rfl rfl ?_
  refine Ex.getR (pc := 128) (b := 10) dX9_init_128 fX9_35 rfl (by rw [hz.2.2.1]; rfl) ?_
  have hn := hz.new (by omega)
  refine Ex.callI (pc := 131) (b := 26) (As := [.ref 16, .ref 10]) dX9_init_131 cX9_76 (t_X3_init (h := 27) (b := 26) rfl rfl (by decide) (by decide) (by decide) hn.1 hn.2.1 hn.2.2) rfl rfl (by decide) (by decide) (by decide) (by decide) (Or.inr ⟨oks_r (Nat.le_of_ble_eq_true rfl) (oks_r (Nat.le_of_ble_eq_true rfl) oks_0), okl_r (Nat.le_of_ble_eq_true rfl) okl_0⟩) ?_
  rintro S2 ⟨I, L, R, -, rfl, hq⟩
  replace hz := hz.back (h' := 30) hq (by omega) (by omega) ⟨fun _ => by decide, by decide, by decide, by decide, fun q => absurd (by decide) q⟩ (fun i a b li ri => P9_a (by simp; omega))
  clear hq hn
  refine Ex.zPR (pc := 134) (c := 26) hz dX9_init_134 fX9_77 rfl (Or.inr ⟨rfl, rfl⟩) (by decide) (fun I L R hz => ?_)
  refine Ex.aload_n (pc := 137) dX9_init_137 rfl rfl ?_
  refine Ex.zN (pc := 138) (h := 30) (ci := 1) hz rfl (by omega) dX9_init_138 nX9_81 (by decide) (by decide) (oks_r (by omega) oks_0) (okl_r (by decide) okl_0) (fun I L R hz => ?_)
  refine Ex.dup (pc := 141) dX9_init_141 rfl ?_
  refine Ex.aload_n (pc := 142) dX9_init_142 rfl rfl ?_
  refine Ex.getR (pc := 143) (b := 16) dX9_init_143 fX9_47 rfl (by rw [hz.2.2.1]; rfl) ?_
  refine Ex.aload_n (pc := 146) dX9_init_146 rfl rfl ?_
  refine Ex.getR (pc := 147) (b := 10) dX9_init_147 fX9_35 rfl (by rw [hz.2.2.1]; rfl) ?_
  have hn := hz.new (by omega)
  refine Ex.callI (pc := 150) (b := 30) (As := [.ref 16, .ref 10]) dX9_init_150 cX9_83 (t_X1_init (h := 31) (b := 30) rfl rfl (by decide) (by decide) (by decide) hn.1 hn.2.1 hn.2.2) rfl rfl (by decide) (by decide) (by decide) (by decide) (Or.inr ⟨oks_r (Nat.le_of_ble_eq_true rfl) (oks_r (Nat.le_of_ble_eq_true rfl) oks_0), okl_r (Nat.le_of_ble_eq_true rfl) okl_0⟩) ?_
  rintro S2 ⟨I, L, R, -, rfl, hq⟩
  replace hz := hz.back (h' := 34) hq (by omega) (by omega) ⟨fun _ => by decide, by decide, by decide, by decide, fun q => absurd (by decide) q⟩ (fun i a b li ri => P9_a (by simp; omega))
  clear hq hn
  refine Ex.zPR (pc := 153) (c := 30) hz dX9_init_153 fX9_84 rfl (Or.inr ⟨rfl, rfl⟩) (by decide) (fun I L R hz => ?_)
  refine Ex.aload_n (pc := 156) dX9_init_156 rfl rfl ?_
  refine Ex.lconst (pc := 157) (v := 1) dX9_init_157 rfl ?_
  refine Ex.zPL (pc := 158) hz dX9_init_158 fX9_88 rfl (Or.inl rfl) ⟨rfl, rfl⟩ (fun I L R hz => ?_)
  refine Ex.aload_n (pc := 161) dX9_init_161 rfl rfl ?_
  refine Ex.bipush (pc := 162) (v := 21) dX9_init_162 rfl ?_
  refine Ex.zI (pc := 164) (N := 21) (h := 34) hz rfl (by omega) (fun _ _ => P9_a (by decide)) dX9_init_164 (by decide) (by decide) (by decide) (by decide) (by decide) (oks_r (by omega) oks_0) (okl_r (by decide) okl_0) (fun I L R hz => ?_)
  refine Ex.zPR (pc := 166) (c := 34) hz dX9_init_166 fX9_92 rfl (Or.inr ⟨rfl, rfl⟩) (by decide) (fun I L R hz => ?_)
  refine Ex.aload_n (pc := 169) dX9_init_169 rfl rfl ?_
  refine Ex.iconst (pc := 170) (v := 0) dX9_init_170 rfl ?_
  refine Ex.zP0 (pc := 171) hz rfl dX9_init_171 fX9_96 rfl (Or.inl rfl) ⟨rfl, rfl⟩ (fun I L R hz => ?_)
  refine Ex.aload_n (pc := 174) dX9_init_174 rfl rfl ?_
  refine Ex.bipush (pc := 175) (v := 6) dX9_init_175 rfl ?_
  refine Ex.zI (pc := 177) (N := 6) (h := 35) hz rfl (by omega) (fun _ _ => P9_a (by decide)) dX9_init_177 (by decide) (by decide) (by decide) (by decide) (by decide) (oks_r (by omega) oks_0) (okl_r (by decide) okl_0) (fun I L R hz => ?_)
  refine Ex.zPR (pc := 179) (c := 35) hz dX9_init_179 fX9_99 rfl (Or.inr ⟨rfl, rfl⟩) (by decide) (fun I L R hz => ?_)
  refine Ex.vret (pc := 182) rfl dX9_init_182 (by decide) (by decide) ?_
  exact ⟨I, L, R, rfl, rfl, hz⟩
def P10 (I0 : aI) (L0 : aL) (R0 : aR) (i : Nat) (fi : Nat → Int32) (li : Nat → Int64) (ri : Nat → Option Nat) : Prop := (i < 36 → fi = I0 i ∧ li = L0 i ∧ ri = R0 i) ∧ (36 < i → i ∉ [49, 53, 54, 55, 70] → fi = f0)
set_option maxRecDepth 20000 in
theorem t_X10_init {I : aI} {L : aL} {R : aR} (hI : I 36 = f0) (hL : L 36 = g0) (hR : R 36 = r0) : Run 1 44 13444 mX10_init [.ref 36] (SHa ++ [(10, 0)], I, L, R) (fun x S' => ∃ I' L' R', x = none ∧ S' = (SH 0, I', L', R') ∧ Zq (P10 I L R) 36 81 (upd (upd (upd (upd f0 9 (-1)) 11 (-1)) 12 (-1)) 33 (1)) (vp_updL (vp_updL g0 7 (0)) 55 (1)) (va_up (va_up (va_up (va_up (va_up (va_up (va_up (va_up (va_up (va_up (va_up (va_up (va_up (va_up (va_up (va_up (va_up (va_up (va_up (va_up (va_up (va_up (va_up (va_up (va_up (va_up (va_up (va_up (va_up (va_up (va_up (va_up (va_up (va_up (va_up (va_up (va_up (va_up (va_up (va_up (va_up (va_up (va_up (va_up r0 0 (some (37))) 14 (some (38))) 15 (some (39))) 16 (some (40))) 17 (some (41))) 18 (some (42))) 19 (some (43))) 20 (some (44))) 21 (some (45))) 22 (some (46))) 23 (some (47))) 24 (some (48))) 25 (some (49))) 26 (some (50))) 27 (some (51))) 28 (some (52))) 29 (some (53))) 30 (some (54))) 31 (some (55))) 35 (some (56))) 36 (some (57))) 37 (some (58))) 38 (some (59))) 39 (some (60))) 42 (some (61))) 45 (some (62))) 46 (some (63))) 47 (some (64))) 48 (some (65))) 49 (some (66))) 50 (some (67))) 51 (some (68))) 52 (some (69))) 56 (some (70))) 57 (some (71))) 58 (some (72))) 59 (some (73))) 60 (some (74))) 61 (some (75))) 63 (some (76))) 64 (some (77))) 65 (some (78))) 66 (some (79))) 67 (some (80))) I' L' R' ∧ ∀ j, j < 10 → I' 49 j = -1) := by
  refine Run.of (ls := [some (.ref 36), none]) (by decide) (Nat.le_of_ble_eq_true rfl) rfl ?_
  have hz : Zq (P10 I L R) 36 37 f0 g0 r0 I L R := ⟨hI, hL, hR, fun i a b => ⟨fun _ => ⟨rfl, rfl, rfl⟩, fun q => absurd q (by omega)⟩⟩
  obtain ⟨P, hP⟩ : ∃ P, P = P10 I L R := ⟨_, rfl⟩
  rw [← hP] at hz ⊢
  have hPI : ∀ j, 36 < j → ∀ li ri, P j f0 li ri := fun j hj li ri => by rw [hP]; exact ⟨fun q => absurd q (by omega), fun _ _ => rfl⟩
  have hPL : ∀ j, 36 < j ∧ j ∈ [49, 53, 54, 55, 70] → ∀ fi ri, P j fi g0 ri := fun j hj fi ri => by rw [hP]; exact ⟨fun q => absurd q (by omega), fun _ q => absurd hj.2 q⟩
  have hP9 : ∀ fi li ri, P 49 fi li ri := fun fi li ri => by rw [hP]; exact ⟨fun q => absurd q (by decide), fun _ q => absurd (by decide) q⟩
  clear hP hI hL hR
  refine Ex.aload_n (pc := 0) dX10_init_0 rfl rfl ?_
  refine Ex.objI (pc := 1) dX10_init_1 kl_X10_1 (by decide) (by decide) ?_
  refine Ex.aload_n (pc := 4) dX10_init_4 rfl rfl ?_
  refine Ex.sipush (pc := 5) (v := 1800) dX10_init_5 rfl ?_
  refine Ex.zI (pc := 8) (N := 1800) (h := 37) hz rfl (by omega) (hPI _ (by decide)) dX10_init_8 (by decide) (by decide) (by decide) (by decide) (by decide) (oks_r (by omega) oks_0) (okl_r (by decide) (okl_n okl_0)) (fun I L R hz => ?_)
  refine Ex.zPR (pc := 10) (c := 37) hz dX10_init_10 fX10_7 rfl (Or.inr ⟨rfl, rfl⟩) (by decide) (fun I L R hz => ?_)
  refine Ex.aload_n (pc := 13) dX10_init_13 rfl rfl ?_
  refine Ex.iconst (pc := 14) (v := 0) dX10_init_14 rfl ?_
  refine Ex.zP0 (pc := 15) hz rfl dX10_init_15 fX10_13 rfl (Or.inl rfl) ⟨rfl, rfl⟩ (fun I L R hz => ?_)
  refine Ex.aload_n (pc := 18) dX10_init_18 rfl rfl ?_
  refine Ex.iconst (pc := 19) (v := 0) dX10_init_19 rfl ?_
  refine Ex.zP0 (pc := 20) hz rfl dX10_init_20 fX10_17 rfl (Or.inl rfl) ⟨rfl, rfl⟩ (fun I L R hz => ?_)
  refine Ex.aload_n (pc := 23) dX10_init_23 rfl rfl ?_
  refine Ex.iconst (pc := 24) (v := 0) dX10_init_24 rfl ?_
  refine Ex.zP0 (pc := 25) hz rfl dX10_init_25 fX10_20 rfl (Or.inl rfl) ⟨rfl, rfl⟩ (fun I L R hz => ?_)
  refine Ex.aload_n (pc := 28) dX10_init_28 rfl rfl ?_
  refine Ex.iconst (pc := 29) (v := 0) dX10_init_29 rfl ?_
  refine Ex.zP0 (pc := 30) hz rfl dX10_init_30 fX10_23 rfl (Or.inl rfl) ⟨rfl, rfl⟩ (fun I L R hz => ?_)
  refine Ex.aload_n (pc := 33) dX10_init_33 rfl rfl ?_
  refine Ex.iconst (pc := 34) (v := 0) dX10_init_34 rfl ?_
  refine Ex.zP0 (pc := 35) hz rfl dX10_init_35 fX10_26 rfl (Or.inl rfl) ⟨rfl, rfl⟩ (fun I L R hz => ?_)
  refine Ex.aload_n (pc := 38) dX10_init_38 rfl rfl ?_
  refine Ex.iconst (pc := 39) (v := 0) dX10_init_39 rfl ?_
  refine Ex.zP0 (pc := 40) hz rfl dX10_init_40 fX10_29 rfl (Or.inl rfl) ⟨rfl, rfl⟩ (fun I L R hz => ?_)
  refine Ex.aload_n (pc := 43) dX10_init_43 rfl rfl ?_
  refine Ex.lconst (pc := 44) (v := 0) dX10_init_44 rfl ?_
  refine Ex.zPL (pc := 45) hz dX10_init_45 fX10_32 rfl (Or.inl rfl) ⟨rfl, rfl⟩ (fun I L R hz => ?_)
  refine Ex.aload_n (pc := 48) dX10_init_48 rfl rfl ?_
  refine Ex.iconst (pc := 49) (v := 0) dX10_init_49 rfl ?_
  refine Ex.zP0 (pc := 50) hz rfl dX10_init_50 fX10_36 rfl (Or.inl rfl) ⟨rfl, rfl⟩ (fun I L R hz => ?_)
  refine Ex.aload_n (pc := 53) dX10_init_53 rfl rfl ?_
  refine Ex.iconst (pc := 54) (v := -1) dX10_init_54 rfl ?_
  refine Ex.zPI (pc := 55) hz dX10_init_55 fX10_39 rfl (Or.inl rfl) ⟨rfl, rfl⟩ (fun I L R hz => ?_)
  refine Ex.aload_n (pc := 58) dX10_init_58 rfl rfl ?_
  refine Ex.iconst (pc := 59) (v := 0) dX10_init_59 rfl ?_
  refine Ex.zP0 (pc := 60) hz rfl dX10_init_60 fX10_42 rfl (Or.inl rfl) ⟨rfl, rfl⟩ (fun I L R hz => ?_)
  refine Ex.aload_n (pc := 63) dX10_init_63 rfl rfl ?_
  refine Ex.iconst (pc := 64) (v := -1) dX10_init_64 rfl ?_
  refine Ex.zPI (pc := 65) hz dX10_init_65 fX10_45 rfl (Or.inl rfl) ⟨rfl, rfl⟩ (fun I L R hz => ?_)
  refine Ex.aload_n (pc := 68) dX10_init_68 rfl rfl ?_
  refine Ex.iconst (pc := 69) (v := -1) dX10_init_69 rfl ?_
  refine Ex.zPI (pc := 70) hz dX10_init_70 fX10_48 rfl (Or.inl rfl) ⟨rfl, rfl⟩ (fun I L R hz => ?_)
  refine Ex.aload_n (pc := 73) dX10_init_73 rfl rfl ?_
  refine Ex.iconst (pc := 74) (v := 0) dX10_init_74 rfl ?_
  refine Ex.zP0 (pc := 75) hz rfl dX10_init_75 fX10_51 rfl (Or.inl rfl) ⟨rfl, rfl⟩ (fun I L R hz => ?_)
  refine Ex.aload_n (pc := 78) dX10_init_78 rfl rfl ?_
  refine Ex.iconst (pc := 79) (v := 2) dX10_init_79 rfl ?_
  refine Ex.zI (pc := 80) (N := 2) (h := 38) hz rfl (by omega) (hPI _ (by decide)) dX10_init_80 (by decide) (by decide) (by decide) (by decide) (by decide) (oks_r (by omega) oks_0) (okl_r (by decide) (okl_n okl_0)) (fun I L R hz => ?_)
  refine Ex.zPR (pc := 82) (c := 38) hz dX10_init_82 fX10_54 rfl (Or.inr ⟨rfl, rfl⟩) (by decide) (fun I L R hz => ?_)
  refine Ex.aload_n (pc := 85) dX10_init_85 rfl rfl ?_
  refine Ex.bipush (pc := 86) (v := 10) dX10_init_86 rfl ?_
  refine Ex.zI (pc := 88) (N := 10) (h := 39) hz rfl (by omega) (hPI _ (by decide)) dX10_init_88 (by decide) (by decide) (by decide) (by decide) (by decide) (oks_r (by omega) oks_0) (okl_r (by decide) (okl_n okl_0)) (fun I L R hz => ?_)
  refine Ex.zPR (pc := 90) (c := 39) hz dX10_init_90 fX10_57 rfl (Or.inr ⟨rfl, rfl⟩) (by decide) (fun I L R hz => ?_)
  refine Ex.aload_n (pc := 93) dX10_init_93 rfl rfl ?_
  refine Ex.bipush (pc := 94) (v := 10) dX10_init_94 rfl ?_
  refine Ex.zI (pc := 96) (N := 10) (h := 40) hz rfl (by omega) (hPI _ (by decide)) dX10_init_96 (by decide) (by decide) (by decide) (by decide) (by decide) (oks_r (by omega) oks_0) (okl_r (by decide) (okl_n okl_0)) (fun I L R hz => ?_)
  refine Ex.zPR (pc := 98) (c := 40) hz dX10_init_98 fX10_60 rfl (Or.inr ⟨rfl, rfl⟩) (by decide) (fun I L R hz => ?_)
  refine Ex.aload_n (pc := 101) dX10_init_101 rfl rfl ?_
  refine Ex.iconst (pc := 102) (v := 2) dX10_init_102 rfl ?_
  refine Ex.zI (pc := 103) (N := 2) (h := 41) hz rfl (by omega) (hPI _ (by decide)) dX10_init_103 (by decide) (by decide) (by decide) (by decide) (by decide) (oks_r (by omega) oks_0) (okl_r (by decide) (okl_n okl_0)) (fun I L R hz => ?_)
  refine Ex.zPR (pc := 105) (c := 41) hz dX10_init_105 fX10_63 rfl (Or.inr ⟨rfl, rfl⟩) (by decide) (fun I L R hz => ?_)
  refine Ex.aload_n (pc := 108) dX10_init_108 rfl rfl ?_
  refine Ex.bipush (pc := 109) (v := 12) dX10_init_109 rfl ?_
  refine Ex.zI (pc := 111) (N := 12) (h := 42) hz rfl (by omega) (hPI _ (by decide)) dX10_init_111 (by decide) (by decide) (by decide) (by decide) (by decide) (oks_r (by omega) oks_0) (okl_r (by decide) (okl_n okl_0)) (fun I L R hz => ?_)
  refine Ex.zPR (pc := 113) (c := 42) hz dX10_init_113 fX10_66 rfl (Or.inr ⟨rfl, rfl⟩) (by decide) (fun I L R hz => ?_)
  refine Ex.aload_n (pc := 116) dX10_init_116 rfl rfl ?_
  refine Ex.bipush (pc := 117) (v := 12) dX10_init_117 rfl ?_
  refine Ex.zI (pc := 119) (N := 12) (h := 43) hz rfl (by omega) (hPI _ (by decide)) dX10_init_119 (by decide) (by decide) (by decide) (by decide) (by decide) (oks_r (by omega) oks_0) (okl_r (by decide) (okl_n okl_0)) (fun I L R hz => ?_)
  refine Ex.zPR (pc := 121) (c := 43) hz dX10_init_121 fX10_69 rfl (Or.inr ⟨rfl, rfl⟩) (by decide) (fun I L R hz => ?_)
  refine Ex.aload_n (pc := 124) dX10_init_124 rfl rfl ?_
  refine Ex.iconst (pc := 125) (v := 2) dX10_init_125 rfl ?_
  refine Ex.zI (pc := 126) (N := 2) (h := 44) hz rfl (by omega) (hPI _ (by decide)) dX10_init_126 (by decide) (by decide) (by decide) (by decide) (by decide) (oks_r (by omega) oks_0) (okl_r (by decide) (okl_n okl_0)) (fun I L R hz => ?_)
  refine Ex.zPR (pc := 128) (c := 44) hz dX10_init_128 fX10_72 rfl (Or.inr ⟨rfl, rfl⟩) (by decide) (fun I L R hz => ?_)
  refine Ex.aload_n (pc := 131) dX10_init_131 rfl rfl ?_
  refine Ex.bipush (pc := 132) (v := 12) dX10_init_132 rfl ?_
  refine Ex.zI (pc := 134) (N := 12) (h := 45) hz rfl (by omega) (hPI _ (by decide)) dX10_init_134 (by decide) (by decide) (by decide) (by decide) (by decide) (oks_r (by omega) oks_0) (okl_r (by decide) (okl_n okl_0)) (fun I L R hz => ?_)
  refine Ex.zPR (pc := 136) (c := 45) hz dX10_init_136 fX10_75 rfl (Or.inr ⟨rfl, rfl⟩) (by decide) (fun I L R hz => ?_)
  refine Ex.aload_n (pc := 139) dX10_init_139 rfl rfl ?_
  refine Ex.bipush (pc := 140) (v := 12) dX10_init_140 rfl ?_
  refine Ex.zI (pc := 142) (N := 12) (h := 46) hz rfl (by omega) (hPI _ (by decide)) dX10_init_142 (by decide) (by decide) (by decide) (by decide) (by decide) (oks_r (by omega) oks_0) (okl_r (by decide) (okl_n okl_0)) (fun I L R hz => ?_)
  refine Ex.zPR (pc := 144) (c := 46) hz dX10_init_144 fX10_78 rfl (Or.inr ⟨rfl, rfl⟩) (by decide) (fun I L R hz => ?_)
  refine Ex.aload_n (pc := 147) dX10_init_147 rfl rfl ?_
  refine Ex.iconst (pc := 148) (v := 2) dX10_init_148 rfl ?_
  refine Ex.zI (pc := 149) (N := 2) (h := 47) hz rfl (by omega) (hPI _ (by decide)) dX10_init_149 (by decide) (by decide) (by decide) (by decide) (by decide) (oks_r (by omega) oks_0) (okl_r (by decide) (okl_n okl_0)) (fun I L R hz => ?_)
  refine Ex.zPR (pc := 151) (c := 47) hz dX10_init_151 fX10_81 rfl (Or.inr ⟨rfl, rfl⟩) (by decide) (fun I L R hz => ?_)
  refine Ex.aload_n (pc := 154) dX10_init_154 rfl rfl ?_
  refine Ex.iconst (pc := 155) (v := 2) dX10_init_155 rfl ?_
  refine Ex.zI (pc := 156) (N := 2) (h := 48) hz rfl (by omega) (hPI _ (by decide)) dX10_init_156 (by decide) (by decide) (by decide) (by decide) (by decide) (oks_r (by omega) oks_0) (okl_r (by decide) (okl_n okl_0)) (fun I L R hz => ?_)
  refine Ex.zPR (pc := 158) (c := 48) hz dX10_init_158 fX10_84 rfl (Or.inr ⟨rfl, rfl⟩) (by decide) (fun I L R hz => ?_)
  refine Ex.aload_n (pc := 161) dX10_init_161 rfl rfl ?_
  refine Ex.bipush (pc := 162) (v := 10) dX10_init_162 rfl ?_
  refine Ex.zI (pc := 164) (N := 10) (h := 49) hz rfl (by omega) (hPI _ (by decide)) dX10_init_164 (by decide) (by decide) (by decide) (by decide) (by decide) (oks_r (by omega) oks_0) (okl_r (by decide) (okl_n okl_0)) (fun I L R hz => ?_)
  refine Ex.zPR (pc := 166) (c := 49) hz dX10_init_166 fX10_87 rfl (Or.inr ⟨rfl, rfl⟩) (by decide) (fun I L R hz => ?_)
  refine Ex.aload_n (pc := 169) dX10_init_169 rfl rfl ?_
  refine Ex.bipush (pc := 170) (v := 10) dX10_init_170 rfl ?_
  refine Ex.zI (pc := 172) (N := 10) (h := 50) hz rfl (by omega) (hPI _ (by decide)) dX10_init_172 (by decide) (by decide) (by decide) (by decide) (by decide) (oks_r (by omega) oks_0) (okl_r (by decide) (okl_n okl_0)) (fun I L R hz => ?_)
  refine Ex.zPR (pc := 174) (c := 50) hz dX10_init_174 fX10_90 rfl (Or.inr ⟨rfl, rfl⟩) (by decide) (fun I L R hz => ?_)
  refine Ex.aload_n (pc := 177) dX10_init_177 rfl rfl ?_
  refine Ex.sipush (pc := 178) (v := 3200) dX10_init_178 rfl ?_
  refine Ex.zI (pc := 181) (N := 3200) (h := 51) hz rfl (by omega) (hPI _ (by decide)) dX10_init_181 (by decide) (by decide) (by decide) (by decide) (by decide) (oks_r (by omega) oks_0) (okl_r (by decide) (okl_n okl_0)) (fun I L R hz => ?_)
  refine Ex.zPR (pc := 183) (c := 51) hz dX10_init_183 fX10_93 rfl (Or.inr ⟨rfl, rfl⟩) (by decide) (fun I L R hz => ?_)
  refine Ex.aload_n (pc := 186) dX10_init_186 rfl rfl ?_
  refine Ex.sipush (pc := 187) (v := 3200) dX10_init_187 rfl ?_
  refine Ex.zI (pc := 190) (N := 3200) (h := 52) hz rfl (by omega) (hPI _ (by decide)) dX10_init_190 (by decide) (by decide) (by decide) (by decide) (by decide) (oks_r (by omega) oks_0) (okl_r (by decide) (okl_n okl_0)) (fun I L R hz => ?_)
  refine Ex.zPR (pc := 192) (c := 52) hz dX10_init_192 fX10_96 rfl (Or.inr ⟨rfl, rfl⟩) (by decide) (fun I L R hz => ?_)
  refine Ex.aload_n (pc := 195) dX10_init_195 rfl rfl ?_
  refine Ex.bipush (pc := 196) (v := 10) dX10_init_196 rfl ?_
  refine Ex.zL (pc := 198) (N := 10) (h := 53) hz rfl (by omega) (hPL _ (by decide)) dX10_init_198 (by decide) (by decide) (by decide) (by decide) (by decide) (oks_r (by omega) oks_0) (okl_r (by decide) (okl_n okl_0)) (fun I L R hz => ?_)
  refine Ex.zPR (pc := 200) (c := 53) hz dX10_init_200 fX10_99 rfl (Or.inr ⟨rfl, rfl⟩) (by decide) (fun I L R hz => ?_)
  refine Ex.aload_n (pc := 203) dX10_init_203 rfl rfl ?_
  refine Ex.bipush (pc := 204) (v := 12) dX10_init_204 rfl ?_
  refine Ex.zL (pc := 206) (N := 12) (h := 54) hz rfl (by omega) (hPL _ (by decide)) dX10_init_206 (by decide) (by decide) (by decide) (by decide) (by decide) (oks_r (by omega) oks_0) (okl_r (by decide) (okl_n okl_0)) (fun I L R hz => ?_)
  refine Ex.zPR (pc := 208) (c := 54) hz dX10_init_208 fX10_103 rfl (Or.inr ⟨rfl, rfl⟩) (by decide) (fun I L R hz => ?_)
  refine Ex.aload_n (pc := 211) dX10_init_211 rfl rfl ?_
  refine Ex.bipush (pc := 212) (v := 12) dX10_init_212 rfl ?_
  refine Ex.zL (pc := 214) (N := 12) (h := 55) hz rfl (by omega) (hPL _ (by decide)) dX10_init_214 (by decide) (by decide) (by decide) (by decide) (by decide) (oks_r (by omega) oks_0) (okl_r (by decide) (okl_n okl_0)) (fun I L R hz => ?_)
  refine Ex.zPR (pc := 216) (c := 55) hz dX10_init_216 fX10_106 rfl (Or.inr ⟨rfl, rfl⟩) (by decide) (fun I L R hz => ?_)
  refine Ex.aload_n (pc := 219) dX10_init_219 rfl rfl ?_
  refine Ex.iconst (pc := 220) (v := 0) dX10_init_220 rfl ?_
  refine Ex.zP0 (pc := 221) hz rfl dX10_init_221 fX10_109 rfl (Or.inl rfl) ⟨rfl, rfl⟩ (fun I L R hz => ?_)
  refine Ex.aload_n (pc := 224) dX10_init_224 rfl rfl ?_
  refine Ex.iconst (pc := 225) (v := 1) dX10_init_225 rfl ?_
  refine Ex.zPI (pc := 226) hz dX10_init_226 fX10_112 rfl (Or.inl rfl) ⟨rfl, rfl⟩ (fun I L R hz => ?_)
  refine Ex.aload_n (pc := 229) dX10_init_229 rfl rfl ?_
  refine Ex.iconst (pc := 230) (v := 0) dX10_init_230 rfl ?_
  refine Ex.zP0 (pc := 231) hz rfl dX10_init_231 fX10_115 rfl (Or.inl rfl) ⟨rfl, rfl⟩ (fun I L R hz => ?_)
  refine Ex.aload_n (pc := 234) dX10_init_234 rfl rfl ?_
  refine Ex.bipush (pc := 235) (v := 20) dX10_init_235 rfl ?_
  refine Ex.zI (pc := 237) (N := 20) (h := 56) hz rfl (by omega) (hPI _ (by decide)) dX10_init_237 (by decide) (by decide) (by decide) (by decide) (by decide) (oks_r (by omega) oks_0) (okl_r (by decide) (okl_n okl_0)) (fun I L R hz => ?_)
  refine Ex.zPR (pc := 239) (c := 56) hz dX10_init_239 fX10_118 rfl (Or.inr ⟨rfl, rfl⟩) (by decide) (fun I L R hz => ?_)
  refine Ex.aload_n (pc := 242) dX10_init_242 rfl rfl ?_
  refine Ex.bipush (pc := 243) (v := 20) dX10_init_243 rfl ?_
  refine Ex.zI (pc := 245) (N := 20) (h := 57) hz rfl (by omega) (hPI _ (by decide)) dX10_init_245 (by decide) (by decide) (by decide) (by decide) (by decide) (oks_r (by omega) oks_0) (okl_r (by decide) (okl_n okl_0)) (fun I L R hz => ?_)
  refine Ex.zPR (pc := 247) (c := 57) hz dX10_init_247 fX10_121 rfl (Or.inr ⟨rfl, rfl⟩) (by decide) (fun I L R hz => ?_)
  refine Ex.aload_n (pc := 250) dX10_init_250 rfl rfl ?_
  refine Ex.bipush (pc := 251) (v := 20) dX10_init_251 rfl ?_
  refine Ex.zZ (pc := 253) (N := 20) (h := 58) hz rfl (by omega) (hPI _ (by decide)) dX10_init_253 (by decide) (by decide) (by decide) (by decide) (by decide) (oks_r (by omega) oks_0) (okl_r (by decide) (okl_n okl_0)) (fun I L R hz => ?_)
  refine Ex.zPR (pc := 255) (c := 58) hz dX10_init_255 fX10_124 rfl (Or.inr ⟨rfl, rfl⟩) (by decide) (fun I L R hz => ?_)
  refine Ex.aload_n (pc := 258) dX10_init_258 rfl rfl ?_
  refine Ex.bipush (pc := 259) (v := 20) dX10_init_259 rfl ?_
  refine Ex.zI (pc := 261) (N := 20) (h := 59) hz rfl (by omega) (hPI _ (by decide)) dX10_init_261 (by decide) (by decide) (by decide) (by decide) (by decide) (oks_r (by omega) oks_0) (okl_r (by decide) (okl_n okl_0)) (fun I L R hz => ?_)
  refine Ex.zPR (pc := 263) (c := 59) hz dX10_init_263 fX10_128 rfl (Or.inr ⟨rfl, rfl⟩) (by decide) (fun I L R hz => ?_)
  refine Ex.aload_n (pc := 266) dX10_init_266 rfl rfl ?_
  refine Ex.bipush (pc := 267) (v := 20) dX10_init_267 rfl ?_
  refine Ex.zI (pc := 269) (N := 20) (h := 60) hz rfl (by omega) (hPI _ (by decide)) dX10_init_269 (by decide) (by decide) (by decide) (by decide) (by decide) (oks_r (by omega) oks_0) (okl_r (by decide) (okl_n okl_0)) (fun I L R hz => ?_)
  refine Ex.zPR (pc := 271) (c := 60) hz dX10_init_271 fX10_131 rfl (Or.inr ⟨rfl, rfl⟩) (by decide) (fun I L R hz => ?_)
  refine Ex.aload_n (pc := 274) dX10_init_274 rfl rfl ?_
  refine Ex.iconst (pc := 275) (v := 0) dX10_init_275 rfl ?_
  refine Ex.zP0 (pc := 276) hz rfl dX10_init_276 fX10_134 rfl (Or.inl rfl) ⟨rfl, rfl⟩ (fun I L R hz => ?_)
  refine Ex.aload_n (pc := 279) dX10_init_279 rfl rfl ?_
  refine Ex.iconst (pc := 280) (v := 0) dX10_init_280 rfl ?_
  refine Ex.zP0 (pc := 281) hz rfl dX10_init_281 fX10_137 rfl (Or.inl rfl) ⟨rfl, rfl⟩ (fun I L R hz => ?_)
  refine Ex.aload_n (pc := 284) dX10_init_284 rfl rfl ?_
  refine Ex.sipush (pc := 285) (v := 500) dX10_init_285 rfl ?_
  refine Ex.zI (pc := 288) (N := 500) (h := 61) hz rfl (by omega) (hPI _ (by decide)) dX10_init_288 (by decide) (by decide) (by decide) (by decide) (by decide) (oks_r (by omega) oks_0) (okl_r (by decide) (okl_n okl_0)) (fun I L R hz => ?_)
  refine Ex.zPR (pc := 290) (c := 61) hz dX10_init_290 fX10_140 rfl (Or.inr ⟨rfl, rfl⟩) (by decide) (fun I L R hz => ?_)
  refine Ex.aload_n (pc := 293) dX10_init_293 rfl rfl ?_
  refine Ex.iconst (pc := 294) (v := 0) dX10_init_294 rfl ?_
  refine Ex.zP0 (pc := 295) hz rfl dX10_init_295 fX10_143 rfl (Or.inl rfl) ⟨rfl, rfl⟩ (fun I L R hz => ?_)
  refine Ex.aload_n (pc := 298) dX10_init_298 rfl rfl ?_
  refine Ex.iconst (pc := 299) (v := 0) dX10_init_299 rfl ?_
  refine Ex.zP0 (pc := 300) hz rfl dX10_init_300 fX10_146 rfl (Or.inl rfl) ⟨rfl, rfl⟩ (fun I L R hz => ?_)
  refine Ex.aload_n (pc := 303) dX10_init_303 rfl rfl ?_
  refine Ex.bipush (pc := 304) (v := 6) dX10_init_304 rfl ?_
  refine Ex.zI (pc := 306) (N := 6) (h := 62) hz rfl (by omega) (hPI _ (by decide)) dX10_init_306 (by decide) (by decide) (by decide) (by decide) (by decide) (oks_r (by omega) oks_0) (okl_r (by decide) (okl_n okl_0)) (fun I L R hz => ?_)
  refine Ex.zPR (pc := 308) (c := 62) hz dX10_init_308 fX10_150 rfl (Or.inr ⟨rfl, rfl⟩) (by decide) (fun I L R hz => ?_)
  refine Ex.aload_n (pc := 311) dX10_init_311 rfl rfl ?_
  refine Ex.bipush (pc := 312) (v := 22) dX10_init_312 rfl ?_
  refine Ex.zI (pc := 314) (N := 22) (h := 63) hz rfl (by omega) (hPI _ (by decide)) dX10_init_314 (by decide) (by decide) (by decide) (by decide) (by decide) (oks_r (by omega) oks_0) (okl_r (by decide) (okl_n okl_0)) (fun I L R hz => ?_)
  refine Ex.zPR (pc := 316) (c := 63) hz dX10_init_316 fX10_153 rfl (Or.inr ⟨rfl, rfl⟩) (by decide) (fun I L R hz => ?_)
  refine Ex.aload_n (pc := 319) dX10_init_319 rfl rfl ?_
  refine Ex.bipush (pc := 320) (v := 22) dX10_init_320 rfl ?_
  refine Ex.zI (pc := 322) (N := 22) (h := 64) hz rfl (by omega) (hPI _ (by decide)) dX10_init_322 (by decide) (by decide) (by decide) (by decide) (by decide) (oks_r (by omega) oks_0) (okl_r (by decide) (okl_n okl_0)) (fun I L R hz => ?_)
  refine Ex.zPR (pc := 324) (c := 64) hz dX10_init_324 fX10_156 rfl (Or.inr ⟨rfl, rfl⟩) (by decide) (fun I L R hz => ?_)
  refine Ex.aload_n (pc := 327) dX10_init_327 rfl rfl ?_
  refine Ex.bipush (pc := 328) (v := 110) dX10_init_328 rfl ?_
  refine Ex.zI (pc := 330) (N := 110) (h := 65) hz rfl (by omega) (hPI _ (by decide)) dX10_init_330 (by decide) (by decide) (by decide) (by decide) (by decide) (oks_r (by omega) oks_0) (okl_r (by decide) (okl_n okl_0)) (fun I L R hz => ?_)
  refine Ex.zPR (pc := 332) (c := 65) hz dX10_init_332 fX10_159 rfl (Or.inr ⟨rfl, rfl⟩) (by decide) (fun I L R hz => ?_)
  refine Ex.aload_n (pc := 335) dX10_init_335 rfl rfl ?_
  refine Ex.sipush (pc := 336) (v := 132) dX10_init_336 rfl ?_
  refine Ex.zI (pc := 339) (N := 132) (h := 66) hz rfl (by omega) (hPI _ (by decide)) dX10_init_339 (by decide) (by decide) (by decide) (by decide) (by decide) (oks_r (by omega) oks_0) (okl_r (by decide) (okl_n okl_0)) (fun I L R hz => ?_)
  refine Ex.zPR (pc := 341) (c := 66) hz dX10_init_341 fX10_162 rfl (Or.inr ⟨rfl, rfl⟩) (by decide) (fun I L R hz => ?_)
  refine Ex.aload_n (pc := 344) dX10_init_344 rfl rfl ?_
  refine Ex.bipush (pc := 345) (v := 22) dX10_init_345 rfl ?_
  refine Ex.zI (pc := 347) (N := 22) (h := 67) hz rfl (by omega) (hPI _ (by decide)) dX10_init_347 (by decide) (by decide) (by decide) (by decide) (by decide) (oks_r (by omega) oks_0) (okl_r (by decide) (okl_n okl_0)) (fun I L R hz => ?_)
  refine Ex.zPR (pc := 349) (c := 67) hz dX10_init_349 fX10_165 rfl (Or.inr ⟨rfl, rfl⟩) (by decide) (fun I L R hz => ?_)
  refine Ex.aload_n (pc := 352) dX10_init_352 rfl rfl ?_
  refine Ex.bipush (pc := 353) (v := 22) dX10_init_353 rfl ?_
  refine Ex.zI (pc := 355) (N := 22) (h := 68) hz rfl (by omega) (hPI _ (by decide)) dX10_init_355 (by decide) (by decide) (by decide) (by decide) (by decide) (oks_r (by omega) oks_0) (okl_r (by decide) (okl_n okl_0)) (fun I L R hz => ?_)
  refine Ex.zPR (pc := 357) (c := 68) hz dX10_init_357 fX10_168 rfl (Or.inr ⟨rfl, rfl⟩) (by decide) (fun I L R hz => ?_)
  refine Ex.aload_n (pc := 360) dX10_init_360 rfl rfl ?_
  refine Ex.sipush (pc := 361) (v := 3520) dX10_init_361 rfl ?_
  refine Ex.zI (pc := 364) (N := 3520) (h := 69) hz rfl (by omega) (hPI _ (by decide)) dX10_init_364 (by decide) (by decide) (by decide) (by decide) (by decide) (oks_r (by omega) oks_0) (okl_r (by decide) (okl_n okl_0)) (fun I L R hz => ?_)
  refine Ex.zPR (pc := 366) (c := 69) hz dX10_init_366 fX10_171 rfl (Or.inr ⟨rfl, rfl⟩) (by decide) (fun I L R hz => ?_)
  refine Ex.aload_n (pc := 369) dX10_init_369 rfl rfl ?_
  refine Ex.iconst (pc := 370) (v := 0) dX10_init_370 rfl ?_
  refine Ex.zP0 (pc := 371) hz rfl dX10_init_371 fX10_174 rfl (Or.inl rfl) ⟨rfl, rfl⟩ (fun I L R hz => ?_)
  refine Ex.aload_n (pc := 374) dX10_init_374 rfl rfl ?_
  refine Ex.iconst (pc := 375) (v := 0) dX10_init_375 rfl ?_
  refine Ex.zP0 (pc := 376) hz rfl dX10_init_376 fX10_177 rfl (Or.inl rfl) ⟨rfl, rfl⟩ (fun I L R hz => ?_)
  refine Ex.aload_n (pc := 379) dX10_init_379 rfl rfl ?_
  refine Ex.lconst (pc := 380) (v := 1) dX10_init_380 rfl ?_
  refine Ex.zPL (pc := 381) hz dX10_init_381 fX10_180 rfl (Or.inl rfl) ⟨rfl, rfl⟩ (fun I L R hz => ?_)
  refine Ex.aload_n (pc := 384) dX10_init_384 rfl rfl ?_
  refine Ex.sipush (pc := 385) (v := 500) dX10_init_385 rfl ?_
  refine Ex.zL (pc := 388) (N := 500) (h := 70) hz rfl (by omega) (hPL _ (by decide)) dX10_init_388 (by decide) (by decide) (by decide) (by decide) (by decide) (oks_r (by omega) oks_0) (okl_r (by decide) (okl_n okl_0)) (fun I L R hz => ?_)
  refine Ex.zPR (pc := 390) (c := 70) hz dX10_init_390 fX10_183 rfl (Or.inr ⟨rfl, rfl⟩) (by decide) (fun I L R hz => ?_)
  refine Ex.aload_n (pc := 393) dX10_init_393 rfl rfl ?_
  refine Ex.bipush (pc := 394) (v := 14) dX10_init_394 rfl ?_
  refine Ex.zI (pc := 396) (N := 14) (h := 71) hz rfl (by omega) (hPI _ (by decide)) dX10_init_396 (by decide) (by decide) (by decide) (by decide) (by decide) (oks_r (by omega) oks_0) (okl_r (by decide) (okl_n okl_0)) (fun I L R hz => ?_)
  refine Ex.zPR (pc := 398) (c := 71) hz dX10_init_398 fX10_186 rfl (Or.inr ⟨rfl, rfl⟩) (by decide) (fun I L R hz => ?_)
  refine Ex.aload_n (pc := 401) dX10_init_401 rfl rfl ?_
  refine Ex.bipush (pc := 402) (v := 6) dX10_init_402 rfl ?_
  refine Ex.zI (pc := 404) (N := 6) (h := 72) hz rfl (by omega) (hPI _ (by decide)) dX10_init_404 (by decide) (by decide) (by decide) (by decide) (by decide) (oks_r (by omega) oks_0) (okl_r (by decide) (okl_n okl_0)) (fun I L R hz => ?_)
  refine Ex.zPR (pc := 406) (c := 72) hz dX10_init_406 fX10_189 rfl (Or.inr ⟨rfl, rfl⟩) (by decide) (fun I L R hz => ?_)
  refine Ex.aload_n (pc := 409) dX10_init_409 rfl rfl ?_
  refine Ex.bipush (pc := 410) (v := 6) dX10_init_410 rfl ?_
  refine Ex.zI (pc := 412) (N := 6) (h := 73) hz rfl (by omega) (hPI _ (by decide)) dX10_init_412 (by decide) (by decide) (by decide) (by decide) (by decide) (oks_r (by omega) oks_0) (okl_r (by decide) (okl_n okl_0)) (fun I L R hz => ?_)
  refine Ex.zPR (pc := 414) (c := 73) hz dX10_init_414 fX10_192 rfl (Or.inr ⟨rfl, rfl⟩) (by decide) (fun I L R hz => ?_)
  refine Ex.aload_n (pc := 417) dX10_init_417 rfl rfl ?_
  refine Ex.bipush (pc := 418) (v := 6) dX10_init_418 rfl ?_
  refine Ex.zI (pc := 420) (N := 6) (h := 74) hz rfl (by omega) (hPI _ (by decide)) dX10_init_420 (by decide) (by decide) (by decide) (by decide) (by decide) (oks_r (by omega) oks_0) (okl_r (by decide) (okl_n okl_0)) (fun I L R hz => ?_)
  refine Ex.zPR (pc := 422) (c := 74) hz dX10_init_422 fX10_195 rfl (Or.inr ⟨rfl, rfl⟩) (by decide) (fun I L R hz => ?_)
  refine Ex.aload_n (pc := 425) dX10_init_425 rfl rfl ?_
  refine Ex.bipush (pc := 426) (v := 30) dX10_init_426 rfl ?_
  refine Ex.zI (pc := 428) (N := 30) (h := 75) hz rfl (by omega) (hPI _ (by decide)) dX10_init_428 (by decide) (by decide) (by decide) (by decide) (by decide) (oks_r (by omega) oks_0) (okl_r (by decide) (okl_n okl_0)) (fun I L R hz => ?_)
  refine Ex.zPR (pc := 430) (c := 75) hz dX10_init_430 fX10_198 rfl (Or.inr ⟨rfl, rfl⟩) (by decide) (fun I L R hz => ?_)
  refine Ex.aload_n (pc := 433) dX10_init_433 rfl rfl ?_
  refine Ex.iconst (pc := 434) (v := 0) dX10_init_434 rfl ?_
  refine Ex.zP0 (pc := 435) hz rfl dX10_init_435 fX10_201 rfl (Or.inl rfl) ⟨rfl, rfl⟩ (fun I L R hz => ?_)
  refine Ex.aload_n (pc := 438) dX10_init_438 rfl rfl ?_
  refine Ex.bipush (pc := 439) (v := 16) dX10_init_439 rfl ?_
  refine Ex.zI (pc := 441) (N := 16) (h := 76) hz rfl (by omega) (hPI _ (by decide)) dX10_init_441 (by decide) (by decide) (by decide) (by decide) (by decide) (oks_r (by omega) oks_0) (okl_r (by decide) (okl_n okl_0)) (fun I L R hz => ?_)
  refine Ex.zPR (pc := 443) (c := 76) hz dX10_init_443 fX10_204 rfl (Or.inr ⟨rfl, rfl⟩) (by decide) (fun I L R hz => ?_)
  refine Ex.aload_n (pc := 446) dX10_init_446 rfl rfl ?_
  refine Ex.bipush (pc := 447) (v := 16) dX10_init_447 rfl ?_
  refine Ex.zI (pc := 449) (N := 16) (h := 77) hz rfl (by omega) (hPI _ (by decide)) dX10_init_449 (by decide) (by decide) (by decide) (by decide) (by decide) (oks_r (by omega) oks_0) (okl_r (by decide) (okl_n okl_0)) (fun I L R hz => ?_)
  refine Ex.zPR (pc := 451) (c := 77) hz dX10_init_451 fX10_207 rfl (Or.inr ⟨rfl, rfl⟩) (by decide) (fun I L R hz => ?_)
  refine Ex.aload_n (pc := 454) dX10_init_454 rfl rfl ?_
  refine Ex.bipush (pc := 455) (v := 16) dX10_init_455 rfl ?_
  refine Ex.zI (pc := 457) (N := 16) (h := 78) hz rfl (by omega) (hPI _ (by decide)) dX10_init_457 (by decide) (by decide) (by decide) (by decide) (by decide) (oks_r (by omega) oks_0) (okl_r (by decide) (okl_n okl_0)) (fun I L R hz => ?_)
  refine Ex.zPR (pc := 459) (c := 78) hz dX10_init_459 fX10_210 rfl (Or.inr ⟨rfl, rfl⟩) (by decide) (fun I L R hz => ?_)
  refine Ex.aload_n (pc := 462) dX10_init_462 rfl rfl ?_
  refine Ex.bipush (pc := 463) (v := 6) dX10_init_463 rfl ?_
  refine Ex.zI (pc := 465) (N := 6) (h := 79) hz rfl (by omega) (hPI _ (by decide)) dX10_init_465 (by decide) (by decide) (by decide) (by decide) (by decide) (oks_r (by omega) oks_0) (okl_r (by decide) (okl_n okl_0)) (fun I L R hz => ?_)
  refine Ex.zPR (pc := 467) (c := 79) hz dX10_init_467 fX10_213 rfl (Or.inr ⟨rfl, rfl⟩) (by decide) (fun I L R hz => ?_)
  refine Ex.aload_n (pc := 470) dX10_init_470 rfl rfl ?_
  refine Ex.bipush (pc := 471) (v := 40) dX10_init_471 rfl ?_
  refine Ex.zI (pc := 473) (N := 40) (h := 80) hz rfl (by omega) (hPI _ (by decide)) dX10_init_473 (by decide) (by decide) (by decide) (by decide) (by decide) (oks_r (by omega) oks_0) (okl_r (by decide) (okl_n okl_0)) (fun I L R hz => ?_)
  refine Ex.zPR (pc := 475) (c := 80) hz dX10_init_475 fX10_216 rfl (Or.inr ⟨rfl, rfl⟩) (by decide) (fun I L R hz => ?_)
  refine Ex.aload_n (pc := 478) dX10_init_478 rfl rfl ?_
  refine Ex.iconst (pc := 479) (v := 0) dX10_init_479 rfl ?_
  refine Ex.zP0 (pc := 480) hz rfl dX10_init_480 fX10_219 rfl (Or.inl rfl) ⟨rfl, rfl⟩ (fun I L R hz => ?_)
  refine Ex.iconst (pc := 483) (v := 0) dX10_init_483 rfl ?_
  refine Ex.istore_n (pc := 484) dX10_init_484 rfl (by decide) (by decide) rfl ?_
  refine forUp (σ := aI) (P := fun k I2 => Ex 1 44 13444 mX10_init (0 + 44) 13444 485 [some (.ref 36), some (.int (nI k))] [] (SH 0, I2, L, R) _) (Inv := fun k I2 => Zq P 36 81 (upd (upd (upd (upd f0 9 (-1)) 11 (-1)) 12 (-1)) 33 (1)) (vp_updL (vp_updL g0 7 (0)) 55 (1)) (va_up (va_up (va_up (va_up (va_up (va_up (va_up (va_up (va_up (va_up (va_up (va_up (va_up (va_up (va_up (va_up (va_up (va_up (va_up (va_up (va_up (va_up (va_up (va_up (va_up (va_up (va_up (va_up (va_up (va_up (va_up (va_up (va_up (va_up (va_up (va_up (va_up (va_up (va_up (va_up (va_up (va_up (va_up (va_up r0 0 (some (37))) 14 (some (38))) 15 (some (39))) 16 (some (40))) 17 (some (41))) 18 (some (42))) 19 (some (43))) 20 (some (44))) 21 (some (45))) 22 (some (46))) 23 (some (47))) 24 (some (48))) 25 (some (49))) 26 (some (50))) 27 (some (51))) 28 (some (52))) 29 (some (53))) 30 (some (54))) 31 (some (55))) 35 (some (56))) 36 (some (57))) 37 (some (58))) 38 (some (59))) 39 (some (60))) 42 (some (61))) 45 (some (62))) 46 (some (63))) 47 (some (64))) 48 (some (65))) 49 (some (66))) 50 (some (67))) 51 (some (68))) 52 (some (69))) 56 (some (70))) 57 (some (71))) 58 (some (72))) 59 (some (73))) 60 (some (74))) 61 (some (75))) 63 (some (76))) 64 (some (77))) 65 (some (78))) 66 (some (79))) 67 (some (80))) I2 L R ∧ ∀ j, j < k → I2 49 j = -1) 10 ?_ ?_ 0 I (by decide) ⟨hz, fun j hj => absurd hj (by omega)⟩
  · intro I2 hi
    refine Ex.iload_n (pc := 485) dX10_init_485 rfl rfl ?_
    refine Ex.bipush (pc := 486) (v := 10) dX10_init_486 rfl ?_
    refine Ex.icmp_ge (pc := 488) (tgt := 504) dX10_init_488 (by decide) (fun _ => ?_) (fun q => absurd (by decide) q)
    refine Ex.vret (pc := 504) rfl dX10_init_504 (by decide) (by decide) ?_
    exact ⟨I2, L, R, rfl, rfl, hi.1, hi.2⟩
  · intro k I2 hk hi ih
    refine Ex.iload_n (pc := 485) dX10_init_485 rfl rfl ?_
    refine Ex.bipush (pc := 486) (v := 10) dX10_init_486 rfl ?_
    refine Ex.icmp_ge (pc := 488) (tgt := 504) dX10_init_488 (by decide) (fun q => absurd (nI_leR (a := 10) (b := k) q (by decide) (by omega)) (by omega)) (fun _ => ?_)
    refine Ex.aload_n (pc := 491) dX10_init_491 rfl rfl ?_
    refine Ex.getR (pc := 492) (b := 49) dX10_init_492 fX10_87 rfl (by rw [hi.1.2.2.1]; rfl) ?_
    refine Ex.iload_n (pc := 495) dX10_init_495 rfl rfl ?_
    refine Ex.iconst (pc := 496) (v := -1) dX10_init_496 rfl ?_
    refine Ex.iast (pc := 497) (j := k) dX10_init_497 rfl (vp_in_nI hk (by decide)) (nI_clamp (by omega)) ?_
    refine Ex.iinc (pc := 498) dX10_init_498 rfl (nI_1 k) (by decide) rfl rfl ?_
    refine Ex.goto (pc := 501) (tgt := 485) dX10_init_501 (by decide) ?_
    obtain ⟨⟨a1, a2, a3, a4⟩, a5⟩ := hi
    refine ih _ ⟨⟨by rw [va_up_n (by decide)]; exact a1, a2, a3, fun i x y => ?_⟩, fun j hj => ?_⟩
    · by_cases e : i = 49
      · subst e; exact hP9 _ _ _
      · rw [va_up_n e]; exact a4 i x y
    · rw [va_up_s]
      by_cases e : j = k
      · rw [e, upd_s]
      · rw [upd_n e]; exact a5 j (by omega)
