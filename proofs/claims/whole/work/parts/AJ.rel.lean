/-! ONE RELATION between the class's and the reference's cells -/
def WsR (us : List (Nat → Int32)) (ws : List (aX × Nat)) : Prop := us.length = ws.length ∧ ∀ (k : Nat) (u : Nat → Int32) (w : aX × Nat), us[k]? = some u → ws[k]? = some w → u 0 = w.1.1 ∧ u 1 = w.1.2.1 ∧ u 2 = w.1.2.2.1 ∧ u 3 = nI w.2 ∧ (∀ j, j < 5 → u (4 + j) = w.1.2.2.2.1 j) ∧ ∀ j, j < 6 → u (9 + j) = w.1.2.2.2.2 j
def WsC : Nat → Nat → List (aX × Nat) → Prop
  | m, lo, [] => lo + 40 ≤ m ∨ lo = 0
  | m, lo, w :: ws => w.2 ≤ m ∧ m ≤ w.2 + 40 ∧ WsC w.2 lo ws
theorem WsC.lo : ∀ (ws : List (aX × Nat)) (m lo : Nat), WsC m lo ws → lo + 40 ≤ m ∨ lo = 0
  | [], _, _, h => h
  | w :: ws, m, lo, h => by
    rcases WsC.lo ws w.2 lo h.2.2 with q | q
    · left; have := h.1; omega
    · exact Or.inr q
theorem WsC.mem : ∀ (ws : List (aX × Nat)) (m lo : Nat), WsC m lo ws → ∀ w ∈ ws, w.2 ≤ m
  | [], _, _, _, w, hw => by cases hw
  | v :: ws, m, lo, h, w, hw => by
    rcases List.mem_cons.mp hw with e | e
    · rw [e]; exact h.1
    · have := WsC.mem ws v.2 lo h.2.2 w e; have := h.1; omega
theorem WsC.cut : ∀ (n : Nat) (ws : List (aX × Nat)) (m lo : Nat), WsC m lo ws → ∃ lo', lo ≤ lo' ∧ m ≤ lo' + 40 + 40 * n ∧ WsC m lo' (ws.take n)
  | 0, ws, m, lo, h => by
    rcases WsC.lo ws m lo h with q | q
    · exact ⟨m - 40, by omega, by omega, Or.inl (by omega)⟩
    · exact ⟨m - 40, by omega, by omega, by show m - 40 + 40 ≤ m ∨ m - 40 = 0; omega⟩
  | n + 1, [], m, lo, h => by
    rcases (show lo + 40 ≤ m ∨ lo = 0 from h) with q | q
    · exact ⟨m - 40, by omega, by omega, Or.inl (by omega)⟩
    · exact ⟨m - 40, by omega, by omega, by show m - 40 + 40 ≤ m ∨ m - 40 = 0; omega⟩
  | n + 1, w :: ws, m, lo, h => by
    obtain ⟨lo', h1, h2, h3⟩ := WsC.cut n ws w.2 lo h.2.2
    exact ⟨lo', h1, by have := h.2.1; omega, h.1, h.2.1, h3⟩
/-- an act: the state as it was goes before the rest -/
theorem WsC.act {ws : List (aX × Nat)} {m lo : Nat} (h : WsC m lo ws) (x : aX) : ∃ lo', lo ≤ lo' ∧ m + 40 ≤ lo' + 840 ∧ ∀ m', m ≤ m' → m' ≤ m + 40 → WsC m' lo' (((x, m) :: ws).take 20) := by
  obtain ⟨lo', h1, h2, h3⟩ := WsC.cut 19 ws m lo h
  exact ⟨lo', h1, by omega, fun m' a b => ⟨a, b, h3⟩⟩
theorem KeptR.up {I : aI} {lo lo' : Nat} {ks : List aRow} (h : KeptR I lo ks) (h1 : lo ≤ lo') (h2 : ks.length ≤ lo' + 840) : KeptR I lo' ks := ⟨h.1, h.2.1, h2, fun i r hi hr => h.2.2.2 i r (by omega) hr⟩
def ulOf (ks : List aRow) (ws : List (aX × Nat)) : List (aX × List aRow) := ws.map (fun w => (w.1, l40 (ks.take w.2)))
theorem ulOf_ext {ks ks' : List aRow} {ws : List (aX × Nat)} (h : ∀ w ∈ ws, w.2 ≤ ks.length) (hp : ks <+: ks') : ulOf ks' ws = ulOf ks ws := by
  unfold ulOf
  refine List.map_congr_left (fun w hw => ?_)
  obtain ⟨t, rfl⟩ := hp
  rw [List.take_append_of_le_length (h w hw)]
theorem ulOf_act {ks : List aRow} {ws : List (aX × Nat)} {x : aX} : ((x, l40 ks) :: ulOf ks ws).take 20 = ulOf ks (((x, ks.length) :: ws).take 20) := by
  unfold ulOf
  rw [List.map_take, List.map_cons, List.take_length]
theorem WsR.act {us : List (Nat → Int32)} {ws : List (aX × Nat)} (h : WsR us ws) {u : Nat → Int32} {w : aX × Nat} (hu : u 0 = w.1.1 ∧ u 1 = w.1.2.1 ∧ u 2 = w.1.2.2.1 ∧ u 3 = nI w.2 ∧ (∀ j, j < 5 → u (4 + j) = w.1.2.2.2.1 j) ∧ ∀ j, j < 6 → u (9 + j) = w.1.2.2.2.2 j) : WsR ((u :: us).take 20) ((w :: ws).take 20) := by
  refine ⟨by rw [List.length_take, List.length_take, List.length_cons, List.length_cons, h.1], fun k u' w' e1 e2 => ?_⟩
  rw [List.getElem?_take] at e1 e2
  split at e1
  · rename_i hk
    rw [if_pos hk] at e2
    cases k with
    | zero => cases e1; cases e2; exact hu
    | succ k => exact h.2 k u' w' e1 e2
  · cases e1
def G1 (I : aI) : Prop := ∃ tb t, t ≤ 1600 ∧ I 0 1 = nI t ∧ I 36 1 = nI t ∧ TxR I tb t ∧ TxM I tb t
def G2 (I : aI) (L : aL) : Prop := I 0 3 = I 36 10 ∧ I 0 4 = I 36 11 ∧ (∀ j, j < 6 → I 35 j = I 62 j) ∧ (∃ m, m < 2 ^ 31 ∧ L 0 13 = lN m ∧ L 36 55 = lN m) ∧ ∃ n, n ≤ 21 ∧ I 0 15 = nI n ∧ I 36 68 = nI n ∧ ∀ j, j < n → I 34 j = I 80 j
def G3 (N : Nat) (I : aI) (L : aL) (p : aP) (nb ns nh bk : Nat) : Prop := PlanG N I p ∧ CntOk I nb ns nh ∧ RefP I bk nb ns nh p (I 5) (I 6) ∧ (∃ nm, NmC I nb ns nh nm ∧ NmM L bk nb ns nh nm) ∧ I 2 5 = I 48 bk ∧ (∀ j, j < nb → le99 (I 6 j)) ∧ (∀ j, nb ≤ j → j < 5 → I 6 j = 0) ∧ (∀ j, ns ≤ j → j < 6 → I 5 (6 + j) = 0)
def RwI (ks : List aRow) : Prop := ∀ r ∈ ks, ∃ w b s c, w ≤ 999 ∧ b < 5 ∧ s < 6 ∧ c ≤ 99 ∧ r = ((nI w, nI b, nI s, nI c) : aRow)
def G4 (I : aI) (nb ns K : Nat) : Prop := ∃ (ks : List aRow) (lo nx : Nat) (us : List (Nat → Int32)) (uf : Nat) (ws : List (aX × Nat)), XR I 0 nb ns (xOf I 10) ∧ KR I 0 (l40 ks) ∧ XG nb ns (xOf I 10) ∧ XOk (xOf I 13) ∧ KeptR I lo ks ∧ ActsR I nx us ∧ UR I nb ns uf (ulOf ks ws) ∧ WsR us ws ∧ WsC ks.length lo ws ∧ (∀ w ∈ ws, XG nb ns w.1) ∧ ks.length ≤ 40 * K ∧ RwI ks
def G5 (I : aI) (nb : Nat) : Prop := ∃ rs, SeenR I rs ∧ SeeM I nb rs
def mtW (p : aP) (I : aI) (nb ns : Nat) : Nat × List Nat := mtR (needN p (I 5) (I 6) (xOf I 10) (lft (I 12) ns)) nb (lft (I 12) ns).length
def hdW (p : aP) (I : aI) (b ns : Nat) : aHn := hdN p (I 5) (I 6) (xOf I 10) b (lft (I 12) ns) (lft (I 12) ns).length
def G6 (I : aI) (p : aP) (nb ns : Nat) : Prop := (I 26 0 = 0 ∨ (I 26 0 = 1 ∧ AR (I 12) ns (seOf I) (mtW p I nb ns))) ∧ (I 30 0 = -1 ∨ ∃ b, b < nb ∧ I 30 0 = nI b ∧ HR (heOf I) (hdW p I b ns))
def Rel (N K : Nat) (I : aI) (L : aL) : Prop := ∃ p nb ns nh bk, G1 I ∧ G2 I L ∧ G3 N I L p nb ns nh bk ∧ G4 I nb ns K ∧ G5 I nb ∧ G6 I p nb ns
/-! what keeps each of them: equal cells -/
theorem G1.c {I I2 : aI} (h : G1 I) (h0 : I2 0 1 = I 0 1) (h1 : I2 1 = I 1) (h36 : I2 36 1 = I 36 1) (h37 : I2 37 = I 37) : G1 I2 := by
  unfold G1 TxR TxM at *
  rw [h0, h1, h36, h37]; exact h
theorem G2.c {I I2 : aI} {L L2 : aL} (h : G2 I L) (h0 : ∀ j, j ∈ [3, 4, 15] → I2 0 j = I 0 j) (h34 : I2 34 = I 34) (h35 : I2 35 = I 35) (h36 : ∀ j, j ∈ [10, 11, 68] → I2 36 j = I 36 j) (h62 : I2 62 = I 62) (h80 : I2 80 = I 80) (hL0 : L2 0 13 = L 0 13) (hL36 : L2 36 55 = L 36 55) : G2 I2 L2 := by
  unfold G2 at *
  rw [h0 3 (by decide), h0 4 (by decide), h0 15 (by decide), h34, h35, h36 10 (by decide), h36 11 (by decide), h36 68 (by decide), h62, h80, hL0, hL36]; exact h
theorem PlanG.c {N : Nat} {I I2 : aI} {p : aP} (h : PlanG N I p) (h2 : I2 2 8 = I 2 8) (h7 : I2 7 = I 7) (h8 : I2 8 = I 8) (h9 : I2 9 = I 9) : PlanG N I2 p := by
  unfold PlanG PlanOk stepsOk at *
  rw [h2, h7, h8, h9]; exact h
theorem CntOk.c {I I2 : aI} {nb ns nh : Nat} (h : CntOk I nb ns nh) (h3 : I2 3 = I 3) (h5 : I2 5 = I 5) : CntOk I2 nb ns nh := by
  unfold CntOk at *
  rw [h3, h5]; exact h
theorem RefP.c {I I2 : aI} {bk nb ns nh : Nat} {p : aP} {f5 f6 : Nat → Int32} (h : RefP I bk nb ns nh p f5 f6) (h36 : I2 36 13 = I 36 13) (hc : ∀ a, 38 ≤ a → a ≤ 52 → I2 a = I a) : RefP I2 bk nb ns nh p f5 f6 := by
  unfold RefP RefB RefC at *
  rw [h36, hc 38 (by decide) (by decide), hc 39 (by decide) (by decide), hc 40 (by decide) (by decide), hc 41 (by decide) (by decide), hc 42 (by decide) (by decide), hc 43 (by decide) (by decide), hc 44 (by decide) (by decide), hc 45 (by decide) (by decide), hc 46 (by decide) (by decide), hc 49 (by decide) (by decide), hc 50 (by decide) (by decide), hc 51 (by decide) (by decide), hc 52 (by decide) (by decide)]; exact h
theorem G3.c {N : Nat} {I I2 : aI} {L L2 : aL} {p : aP} {nb ns nh bk : Nat} (h : G3 N I L p nb ns nh bk) (h2 : ∀ j, j ∈ [5, 8] → I2 2 j = I 2 j) (hlo : ∀ a, 3 ≤ a → a ≤ 9 → I2 a = I a) (h36 : I2 36 13 = I 36 13) (hhi : ∀ a, 38 ≤ a → a ≤ 52 → I2 a = I a) (hL : ∀ q, q < 3 → L2 (53 + q) = L (53 + q)) : G3 N I2 L2 p nb ns nh bk := by
  obtain ⟨a1, a2, a3, ⟨nm, a4, a5⟩, a6, a7, a8, a9⟩ := h
  have e5 := hlo 5 (by decide) (by decide)
  have e6 := hlo 6 (by decide) (by decide)
  refine ⟨a1.c (h2 8 (by decide)) (hlo 7 (by decide) (by decide)) (hlo 8 (by decide) (by decide)) (hlo 9 (by decide) (by decide)), a2.c (hlo 3 (by decide) (by decide)) e5, by rw [e5, e6]; exact a3.c h36 hhi, ⟨nm, ?_, ?_⟩, by rw [h2 5 (by decide), hhi 48 (by decide) (by decide)]; exact a6, by rw [e6]; exact a7, by rw [e6]; exact a8, by rw [e5]; exact a9⟩
  · unfold NmC at *; rw [hlo 4 (by decide) (by decide)]; exact a4
  · intro q j hq hj; rw [hL q hq]; exact a5 q j hq hj
theorem XR.c {I I2 : aI} {v nb ns : Nat} {x : aX} (h : XR I v nb ns x) (hc : ∀ a, 63 ≤ a → a ≤ 67 → I2 a = I a) : XR I2 v nb ns x := by
  unfold XR at *
  rw [hc 63 (by decide) (by decide), hc 64 (by decide) (by decide), hc 65 (by decide) (by decide), hc 66 (by decide) (by decide), hc 67 (by decide) (by decide)]; exact h
theorem KR.c {I I2 : aI} {v : Nat} {rs : List aRow} (h : KR I v rs) (h68 : I2 68 = I 68) (h69 : I2 69 = I 69) : KR I2 v rs := by
  unfold KR at *; rw [h68, h69]; exact h
theorem UR.c {I I2 : aI} {nb ns uf : Nat} {ul : List (aX × List aRow)} (h : UR I nb ns uf ul) (h53 : I2 36 53 = I 36 53) (h54 : I2 36 54 = I 36 54) (hc : ∀ a, 63 ≤ a → a ≤ 69 → I2 a = I a) : UR I2 nb ns uf ul := by
  obtain ⟨a1, a2, a3, a4, a5⟩ := h
  exact ⟨a1, by rw [h53]; exact a2, by rw [h54]; exact a3, a4, fun k x rs e => ⟨(a5 k x rs e).1.c (fun a h1 h2 => hc a h1 (by omega)), (a5 k x rs e).2.c (hc 68 (by decide) (by decide)) (hc 69 (by decide) (by decide))⟩⟩
theorem KeptR.c {I I2 : aI} {lo : Nat} {ks : List aRow} (h : KeptR I lo ks) (h10 : I2 10 3 = I 10 3) (h22 : I2 22 = I 22) : KeptR I2 lo ks := by
  unfold KeptR at *; rw [h10, h22]; exact h
theorem ActsR.c {I I2 : aI} {nx : Nat} {us : List (Nat → Int32)} (h : ActsR I nx us) (h19 : I2 19 = I 19) (h20 : I2 20 = I 20) : ActsR I2 nx us := by
  unfold ActsR at *; rw [h19, h20]; exact h
theorem xOf_c {I I2 : aI} {a : Nat} (h0 : I2 a = I a) (h1 : I2 (a + 1) = I (a + 1)) (h2 : I2 (a + 2) = I (a + 2)) : xOf I2 a = xOf I a := by unfold xOf; rw [h0, h1, h2]
theorem G4.c {I I2 : aI} {nb ns K : Nat} (h : G4 I nb ns K) (hcl : ∀ a, a ∈ [10, 11, 12, 19, 20, 22] → I2 a = I a) (h13 : XOk (xOf I2 13)) (h53 : I2 36 53 = I 36 53) (h54 : I2 36 54 = I 36 54) (hX : ∀ x, XR I 0 nb ns x → XR I2 0 nb ns x) (hK : ∀ r, KR I 0 r → KR I2 0 r) (hU : ∀ uf ul, UR I nb ns uf ul → UR I2 nb ns uf ul) : G4 I2 nb ns K := by
  obtain ⟨ks, lo, nx, us, uf, ws, a1, a2, a3, a4, a5, a6, a7, a8, a9, b1, b2, b3⟩ := h
  have ex : xOf I2 10 = xOf I 10 := xOf_c (hcl 10 (by decide)) (hcl 11 (by decide)) (hcl 12 (by decide))
  exact ⟨ks, lo, nx, us, uf, ws, by rw [ex]; exact hX _ a1, hK _ a2, by rw [ex]; exact a3, h13, a5.c (by rw [hcl 10 (by decide)]) (hcl 22 (by decide)), a6.c (hcl 19 (by decide)) (hcl 20 (by decide)), hU _ _ a7, a8, a9, b1, b2, b3⟩
theorem G4.up {I : aI} {nb ns K K2 : Nat} (h : G4 I nb ns K) (hk : K ≤ K2) : G4 I nb ns K2 := by
  obtain ⟨ks, lo, nx, us, uf, ws, a1, a2, a3, a4, a5, a6, a7, a8, a9, b1, b2, b3⟩ := h
  exact ⟨ks, lo, nx, us, uf, ws, a1, a2, a3, a4, a5, a6, a7, a8, a9, b1, by omega, b3⟩
theorem G5.c {I I2 : aI} {nb : Nat} (h : G5 I nb) (h23 : I2 23 0 = I 23 0) (h24 : I2 24 = I 24) (h36 : I2 36 62 = I 36 62) (hc : ∀ a, 76 ≤ a → a ≤ 78 → I2 a = I a) : G5 I2 nb := by
  unfold G5 SeenR SeeM at *
  rw [h23, h24, h36, hc 76 (by decide) (by decide), hc 77 (by decide) (by decide), hc 78 (by decide) (by decide)]; exact h
theorem G6.c {I I2 : aI} {p : aP} {nb ns : Nat} (h : G6 I p nb ns) (hc : ∀ a, a ∈ [5, 6, 10, 11, 12, 26, 27, 28, 30, 31, 32] → I2 a = I a) : G6 I2 p nb ns := by
  unfold G6 mtW hdW seOf heOf at *
  have ex : xOf I2 10 = xOf I 10 := xOf_c (hc 10 (by decide)) (hc 11 (by decide)) (hc 12 (by decide))
  rw [ex, hc 5 (by decide), hc 6 (by decide), hc 12 (by decide), hc 26 (by decide), hc 27 (by decide), hc 28 (by decide), hc 30 (by decide), hc 31 (by decide), hc 32 (by decide)]; exact h
theorem G6.no {I : aI} {p : aP} {nb ns : Nat} (h26 : I 26 0 = 0) (h30 : I 30 0 = -1) : G6 I p nb ns := ⟨Or.inl h26, Or.inl h30⟩
theorem Rel.rs {N K : Nat} {I : aI} {L : aL} {p : aP} {nb ns nh bk : Nat} (h3 : G3 N I L p nb ns nh bk) (h4 : G4 I nb ns K) : ∃ ks, RS I bk nb ns nh p (I 5) (I 6) (xOf I 10) (l40 ks) := by
  obtain ⟨ks, lo, nx, us, uf, ws, a1, a2, a3, _⟩ := h4
  exact ⟨ks, h3.2.2.1, a1, a2, a3, h3.2.1.2.2.2.2.2.2⟩
/-- both are asked: the same answer, and the relation holds behind it -/
def Two (N K : Nat) (I : aI) (L : aL) (mx mm : aM) (av : List Value) : Prop := ∃ v : Int32, Run 80 0 0 mx (.ref 0 :: av) (St N I L) (fun r S' => r = some (.int v) ∧ ∃ I1 L1, S' = St N I1 L1 ∧ Run 80 0 0 mm (.ref 36 :: av) (St N I1 L1) (fun r2 S2 => r2 = some (.int v) ∧ ∃ I2 L2, S2 = St N I2 L2 ∧ Rel N (K + 1) I2 L2))
theorem Rel.up {N K K2 : Nat} {I : aI} {L : aL} (h : Rel N K I L) (hk : K ≤ K2) : Rel N K2 I L := by
  obtain ⟨p, nb, ns, nh, bk, g1, g2, g3, g4, g5, g6⟩ := h
  exact ⟨p, nb, ns, nh, bk, g1, g2, g3, g4.up hk, g5, g6⟩
/-- two questions that change nothing -/
theorem two_q {N K dx dm : Nat} {I : aI} {L : aL} {mx mm : aM} {av : List Value} {v : Int32} (hR : Rel N K I L) (hd : dx ≤ 80) (hd2 : dm ≤ 80) (hc : Run dx 0 0 mx (.ref 0 :: av) (St N I L) (RI v (St N I L))) (hm : Run dm 0 0 mm (.ref 36 :: av) (St N I L) (RI v (St N I L))) : Two N K I L mx mm av := by
  refine ⟨v, (hc.imp ?_).up hd⟩
  rintro r S' ⟨rfl, rfl⟩
  refine ⟨rfl, I, L, rfl, (hm.imp ?_).up hd2⟩
  rintro r S' ⟨rfl, rfl⟩
  exact ⟨rfl, I, L, rfl, hR.up (Nat.le_succ _)⟩
