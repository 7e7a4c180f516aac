/-- digits -/
def dg (B : Nat) (l : List Nat) : Nat := l.foldl (fun a c => a * B + c) 0
theorem dg_snoc (B : Nat) (l : List Nat) (c : Nat) : dg B (l ++ [c]) = dg B l * B + c := by simp [dg, List.foldl_append]
theorem dg_take {B : Nat} {l : List Nat} {k c : Nat} (h : l[k]? = some c) : dg B (l.take (k + 1)) = dg B (l.take k) * B + c := by
  rw [List.take_succ, h]
  exact dg_snoc B _ c
theorem dg_div {B : Nat} {l : List Nat} (hB : 0 < B) (h : ∀ c ∈ l, c < B) (k : Nat) : ∀ d, k + d ≤ l.length → dg B (l.take (k + d)) / B ^ d = dg B (l.take k)
  | 0, _ => by rw [Nat.pow_zero, Nat.div_one]; rfl
  | d + 1, hd => by
    obtain ⟨c, hc⟩ : ∃ c, l[k + d]? = some c := ⟨_, List.getElem?_eq_getElem (by omega)⟩
    have hcB : c < B := h c (List.mem_of_getElem? hc)
    rw [show k + (d + 1) = k + d + 1 by omega, dg_take hc, Nat.pow_succ, Nat.mul_comm (B ^ d) B, ← Nat.div_div_eq_div_mul]
    rw [show (dg B (l.take (k + d)) * B + c) / B = dg B (l.take (k + d)) from ?_]
    · exact dg_div hB h k d (by omega)
    · rw [Nat.add_comm, Nat.add_mul_div_right _ _ hB, Nat.div_eq_of_lt hcB, Nat.zero_add]
theorem dg_get {B : Nat} {l : List Nat} {u c n : Nat} (hB : 0 < B) (h : ∀ c ∈ l, c < B) (hn : l.length = n) (hu : l[u]? = some c) : dg B l / B ^ (n - 1 - u) % B = c := by
  have hl : u < l.length := (List.getElem?_eq_some_iff.mp hu).1
  have e := dg_div hB h (u + 1) (n - 1 - u) (by omega)
  rw [show u + 1 + (n - 1 - u) = l.length by omega, List.take_length] at e
  rw [e, dg_take hu, Nat.add_comm, Nat.add_mul_mod_self_right]
  exact Nat.mod_eq_of_lt (h c (List.mem_of_getElem? hu))
theorem dg_lt {B : Nat} (hB : 0 < B) {l : List Nat} (h : ∀ c ∈ l, c < B) : ∀ k, k ≤ l.length → dg B (l.take k) < B ^ k
  | 0, _ => by simp [dg]
  | k + 1, hk => by
    obtain ⟨c, hc⟩ : ∃ c, l[k]? = some c := ⟨_, List.getElem?_eq_getElem (by omega)⟩
    have hcB : c < B := h c (List.mem_of_getElem? hc)
    have ih := dg_lt hB h k (by omega)
    rw [dg_take hc, Nat.pow_succ]
    calc dg B (l.take k) * B + c < dg B (l.take k) * B + B := by omega
      _ = (dg B (l.take k) + 1) * B := by rw [Nat.add_mul, Nat.one_mul]
      _ ≤ B ^ k * B := Nat.mul_le_mul_right _ ih
/-- a name's letters, 1 .. 26 -/
def okN (l : List Nat) : Prop := 1 ≤ l.length ∧ l.length ≤ 6 ∧ ∀ c ∈ l, 1 ≤ c ∧ c ≤ 26
def n5 (l : List Nat) : Nat := dg 32 (l ++ List.replicate (6 - l.length) 0)
def n8 (l : List Nat) : Nat := dg 256 (l.map (96 + ·))
def wd (q : Nat) : Nat := if q = 0 then 5 else 6
def cnR (q nb ns nh : Nat) : Nat := if q = 0 then nb else if q = 1 then ns else nh
/-- names: as the class packs them, as the reference does -/
def NmC (I : aI) (nb ns nh : Nat) (nm : Nat → Nat → List Nat) : Prop := ∀ q j, q < 3 → j < cnR q nb ns nh → okN (nm q j) ∧ I 4 (6 * q + j) = nI (n5 (nm q j))
def NmM (L : aL) (bk nb ns nh : Nat) (nm : Nat → Nat → List Nat) : Prop := ∀ q j, q < 3 → j < cnR q nb ns nh → okN (nm q j) ∧ L (53 + q) (wd q * bk + j) = lN (n8 (nm q j))
theorem n5_get {l : List Nat} (h : okN l) {u : Nat} (hu : u < 6) : n5 l / 32 ^ (5 - u) % 32 = l.getD u 0 := by
  obtain ⟨h1, h2, h3⟩ := h
  have hlen : (l ++ List.replicate (6 - l.length) 0).length = 6 := by simp; omega
  have hall : ∀ c ∈ l ++ List.replicate (6 - l.length) 0, c < 32 := by
    intro c hc
    rcases List.mem_append.mp hc with q | q
    · have := h3 c q; omega
    · rw [List.eq_of_mem_replicate q]; decide
  have e : (l ++ List.replicate (6 - l.length) 0)[u]? = some (l.getD u 0) := by
    by_cases q : u < l.length
    · rw [List.getElem?_append_left q, List.getElem?_eq_getElem q, List.getD_eq_getElem?_getD, List.getElem?_eq_getElem q]; rfl
    · rw [List.getElem?_append_right (by omega), List.getElem?_replicate, if_pos (by omega), List.getD_eq_getElem?_getD, List.getElem?_eq_none (by omega)]; rfl
  have := dg_get (by decide) hall hlen e
  exact this
theorem n5_lt {l : List Nat} (h : okN l) : n5 l < 2 ^ 30 := by
  obtain ⟨h1, h2, h3⟩ := h
  have hlen : (l ++ List.replicate (6 - l.length) 0).length = 6 := by simp; omega
  have hall : ∀ c ∈ l ++ List.replicate (6 - l.length) 0, c < 32 := by
    intro c hc
    rcases List.mem_append.mp hc with q | q
    · have := h3 c q; omega
    · rw [List.eq_of_mem_replicate q]; decide
  have := dg_lt (by decide) hall 6 (by omega)
  rw [List.take_of_length_le (by omega)] at this
  exact this
theorem n8_all {l : List Nat} (h : okN l) : ∀ c ∈ l.map (96 + ·), c < 256 := by
  intro c hc
  obtain ⟨d, hd, rfl⟩ := List.mem_map.mp hc
  have := h.2.2 d hd
  omega
theorem n8_lt {l : List Nat} (h : okN l) {k : Nat} (hk : k ≤ l.length) : dg 256 ((l.map (96 + ·)).take k) < 2 ^ 48 := by
  have := dg_lt (B := 256) (by decide) (n8_all h) k (by rw [List.length_map]; exact hk)
  refine Nat.lt_of_lt_of_le this ?_
  have h6 : k ≤ 6 := by have := h.2.1; omega
  calc 256 ^ k ≤ 256 ^ 6 := Nat.pow_le_pow_right (by decide) h6
    _ = 2 ^ 48 := by decide
theorem lshrN {a k : Nat} (h : a < 2 ^ 62) (hk : k < 64) : lN a >>> ((nI k).toInt64 &&& 63) = lN (a / 2 ^ k) := by
  have hD : (((nI k).toInt64 &&& 63).toBitVec.smod 64).toNat = k := by
    have : ∀ k, k < 64 → (((nI k).toInt64 &&& 63).toBitVec.smod 64).toNat = k := by decide +kernel
    exact this k hk
  have hd : a / 2 ^ k ≤ a := Nat.div_le_self _ _
  apply Int64.toInt_inj.mp
  have e : (lN a >>> ((nI k).toInt64 &&& 63)).toInt = (lN a).toInt >>> k := by
    conv => rhs; rw [← hD]
    exact BitVec.toInt_sshiftRight ..
  rw [e, Int.shiftRight_eq_div_pow, pk_lT (by omega), pk_lT (by omega)]
  rfl
theorem landN (a b : Nat) : lN a &&& lN b = lN (a &&& b) := by
  apply Int64.toBitVec_inj.1
  show BitVec.ofNat 64 a &&& BitVec.ofNat 64 b = BitVec.ofNat 64 (a &&& b)
  apply BitVec.eq_of_getLsbD_eq
  intro i hi
  simp [hi]
/-- the class's letter -/
theorem let_c {l : List Nat} (h : okN l) {u : Nat} (hu : u < 6) : nI (n5 l) >>> (5 * (5 - nI u) &&& 31) &&& 31 = nI (l.getD u 0) := by
  rw [← n5_get h hu]
  have e : (5 : Int32) * (5 - nI u) = nI (5 * (5 - u)) := by
    rw [show (5 : Int32) - nI u = nI (5 - u) from pk_sub (a := 5) (by omega)]
    exact pk_mul 5 _
  rw [e, pk_shrN (by have := n5_lt h; omega) _ (5 * (5 - u)) (by
    have : ∀ k, k < 6 → ((nI (5 * (5 - k)) &&& 31).toBitVec.smod 32).toNat = 5 * (5 - k) := by decide +kernel
    exact this u hu)]
  rw [pk_andN (by have := n5_lt h; have := Nat.div_le_self (n5 l) (2 ^ (5 * (5 - u))); omega) 5 (by decide), Nat.pow_mul]
set_option maxRecDepth 20000 in
theorem tm_manyOf {N : Nat} {I : aI} {L : aL} {b q : Nat} (hb : b < 2) (hq : q < 3) : Run 0 0 0 mX10_manyOf [.ref 36, .int (nI b), .int (nI q)] (St N I L) (RI (if q = 0 then I 38 b else if q = 1 then I 41 b else I 44 b) (St N I L)) := by
  refine Run.of (ls := [some (.ref 36), some (.int _), some (.int _)]) (by decide) (Nat.le_of_ble_eq_true rfl) rfl ?_
  rcases (show q = 0 ∨ q = 1 ∨ q = 2 by omega) with rfl | rfl | rfl
  · skip
    refine Ex.iload_n (pc := 0) dX10_manyOf_0 rfl rfl ?_
    refine Ex.if_ne (pc := 1) (tgt := 13) dX10_manyOf_1 (by decide) (fun c1 => absurd rfl c1) (fun _ => ?_)
    refine Ex.aload_n (pc := 4) dX10_manyOf_4 rfl rfl ?_
    refine Ex.getR (pc := 5) dX10_manyOf_5 fX10_54 (sh36 _) r36_14 ?_
    refine Ex.iload_n (pc := 8) dX10_manyOf_8 rfl rfl ?_
    refine Ex.iald (pc := 9) (j := b) dX10_manyOf_9 (sh38 _) (vp_in_nI (by omega) (by decide)) (ixN2 (by omega)) ?_
    refine Ex.goto (pc := 10) (tgt := 33) dX10_manyOf_10 (by decide) ?_
    refine Ex.iret (pc := 33) rfl rfl rfl dX10_manyOf_33 (Nat.le_refl _) (Nat.le_refl _) ?_
    exact ⟨rfl, rfl⟩
  · skip
    refine Ex.iload_n (pc := 0) dX10_manyOf_0 rfl rfl ?_
    refine Ex.if_ne (pc := 1) (tgt := 13) dX10_manyOf_1 (by decide) (fun _ => ?_) (fun c1 => absurd c1 (by decide))
    refine Ex.iload_n (pc := 13) dX10_manyOf_13 rfl rfl ?_
    refine Ex.iconst (pc := 14) (v := 1) dX10_manyOf_14 rfl ?_
    refine Ex.icmp_ne (pc := 15) (tgt := 27) dX10_manyOf_15 (by decide) (fun c15 => absurd rfl c15) (fun _ => ?_)
    refine Ex.aload_n (pc := 18) dX10_manyOf_18 rfl rfl ?_
    refine Ex.getR (pc := 19) dX10_manyOf_19 fX10_63 (sh36 _) r36_17 ?_
    refine Ex.iload_n (pc := 22) dX10_manyOf_22 rfl rfl ?_
    refine Ex.iald (pc := 23) (j := b) dX10_manyOf_23 (sh41 _) (vp_in_nI (by omega) (by decide)) (ixN2 (by omega)) ?_
    refine Ex.goto (pc := 24) (tgt := 33) dX10_manyOf_24 (by decide) ?_
    refine Ex.iret (pc := 33) rfl rfl rfl dX10_manyOf_33 (Nat.le_refl _) (Nat.le_refl _) ?_
    exact ⟨rfl, rfl⟩
  · skip
    refine Ex.iload_n (pc := 0) dX10_manyOf_0 rfl rfl ?_
    refine Ex.if_ne (pc := 1) (tgt := 13) dX10_manyOf_1 (by decide) (fun _ => ?_) (fun c1 => absurd c1 (by decide))
    refine Ex.iload_n (pc := 13) dX10_manyOf_13 rfl rfl ?_
    refine Ex.iconst (pc := 14) (v := 1) dX10_manyOf_14 rfl ?_
    refine Ex.icmp_ne (pc := 15) (tgt := 27) dX10_manyOf_15 (by decide) (fun _ => ?_) (fun c15 => absurd c15 (by decide))
    refine Ex.aload_n (pc := 27) dX10_manyOf_27 rfl rfl ?_
    refine Ex.getR (pc := 28) dX10_manyOf_28 fX10_72 (sh36 _) r36_20 ?_
    refine Ex.iload_n (pc := 31) dX10_manyOf_31 rfl rfl ?_
    refine Ex.iald (pc := 32) (j := b) dX10_manyOf_32 (sh44 _) (vp_in_nI (by omega) (by decide)) (ixN2 (by omega)) ?_
    refine Ex.iret (pc := 33) rfl rfl rfl dX10_manyOf_33 (Nat.le_refl _) (Nat.le_refl _) ?_
    exact ⟨rfl, rfl⟩
set_option maxRecDepth 20000 in
theorem tm_nameOf {N : Nat} {I : aI} {L : aL} {b q j : Nat} (hb : b < 2) (hq : q < 3) (hj : j < wd q) : Run 0 0 0 mX10_nameOf [.ref 36, .int (nI b), .int (nI q), .int (nI j)] (St N I L) (RL64 (L (53 + q) (wd q * b + j)) (St N I L)) := by
  refine Run.of (ls := [some (.ref 36), some (.int _), some (.int _), some (.int _)]) (by decide) (Nat.le_of_ble_eq_true rfl) rfl ?_
  rcases (show q = 0 ∨ q = 1 ∨ q = 2 by omega) with rfl | rfl | rfl
  · rw [show wd 0 = 5 from rfl] at *
    refine Ex.iload_n (pc := 0) dX10_nameOf_0 rfl rfl ?_
    refine Ex.if_ne (pc := 1) (tgt := 17) dX10_nameOf_1 (by decide) (fun c1 => absurd rfl c1) (fun _ => ?_)
    refine Ex.aload_n (pc := 4) dX10_nameOf_4 rfl rfl ?_
    refine Ex.getR (pc := 5) dX10_nameOf_5 fX10_99 (sh36 _) r36_29 ?_
    refine Ex.iconst (pc := 8) (v := 5) dX10_nameOf_8 rfl ?_
    refine Ex.iload_n (pc := 9) dX10_nameOf_9 rfl rfl ?_
    refine Ex.imul (pc := 10) dX10_nameOf_10 ?_
    refine Ex.iload_n (pc := 11) dX10_nameOf_11 rfl rfl ?_
    refine Ex.iadd (pc := 12) dX10_nameOf_12 ?_
    refine Ex.lald (pc := 13) (j := 5 * b + j) dX10_nameOf_13 (sh53 _) (ixE (c := 5) (a := b) (b := j) rfl rfl (by omega) (by decide)) (ixE2 (c := 5) rfl rfl (by omega)) ?_
    refine Ex.goto (pc := 14) (tgt := 47) dX10_nameOf_14 (by decide) ?_
    refine Ex.lret (pc := 47) rfl dX10_nameOf_47 (Nat.le_refl _) (Nat.le_refl _) ?_
    exact ⟨rfl, rfl⟩
  · rw [show wd 1 = 6 from rfl] at *
    refine Ex.iload_n (pc := 0) dX10_nameOf_0 rfl rfl ?_
    refine Ex.if_ne (pc := 1) (tgt := 17) dX10_nameOf_1 (by decide) (fun _ => ?_) (fun c1 => absurd c1 (by decide))
    refine Ex.iload_n (pc := 17) dX10_nameOf_17 rfl rfl ?_
    refine Ex.iconst (pc := 18) (v := 1) dX10_nameOf_18 rfl ?_
    refine Ex.icmp_ne (pc := 19) (tgt := 36) dX10_nameOf_19 (by decide) (fun c19 => absurd rfl c19) (fun _ => ?_)
    refine Ex.aload_n (pc := 22) dX10_nameOf_22 rfl rfl ?_
    refine Ex.getR (pc := 23) dX10_nameOf_23 fX10_103 (sh36 _) r36_30 ?_
    refine Ex.bipush (pc := 26) (v := 6) dX10_nameOf_26 rfl ?_
    refine Ex.iload_n (pc := 28) dX10_nameOf_28 rfl rfl ?_
    refine Ex.imul (pc := 29) dX10_nameOf_29 ?_
    refine Ex.iload_n (pc := 30) dX10_nameOf_30 rfl rfl ?_
    refine Ex.iadd (pc := 31) dX10_nameOf_31 ?_
    refine Ex.lald (pc := 32) (j := 6 * b + j) dX10_nameOf_32 (sh54 _) (ixE (c := 6) (a := b) (b := j) rfl rfl (by omega) (by decide)) (ixE2 (c := 6) rfl rfl (by omega)) ?_
    refine Ex.goto (pc := 33) (tgt := 47) dX10_nameOf_33 (by decide) ?_
    refine Ex.lret (pc := 47) rfl dX10_nameOf_47 (Nat.le_refl _) (Nat.le_refl _) ?_
    exact ⟨rfl, rfl⟩
  · rw [show wd 2 = 6 from rfl] at *
    refine Ex.iload_n (pc := 0) dX10_nameOf_0 rfl rfl ?_
    refine Ex.if_ne (pc := 1) (tgt := 17) dX10_nameOf_1 (by decide) (fun _ => ?_) (fun c1 => absurd c1 (by decide))
    refine Ex.iload_n (pc := 17) dX10_nameOf_17 rfl rfl ?_
    refine Ex.iconst (pc := 18) (v := 1) dX10_nameOf_18 rfl ?_
    refine Ex.icmp_ne (pc := 19) (tgt := 36) dX10_nameOf_19 (by decide) (fun _ => ?_) (fun c19 => absurd c19 (by decide))
    refine Ex.aload_n (pc := 36) dX10_nameOf_36 rfl rfl ?_
    refine Ex.getR (pc := 37) dX10_nameOf_37 fX10_106 (sh36 _) r36_31 ?_
    refine Ex.bipush (pc := 40) (v := 6) dX10_nameOf_40 rfl ?_
    refine Ex.iload_n (pc := 42) dX10_nameOf_42 rfl rfl ?_
    refine Ex.imul (pc := 43) dX10_nameOf_43 ?_
    refine Ex.iload_n (pc := 44) dX10_nameOf_44 rfl rfl ?_
    refine Ex.iadd (pc := 45) dX10_nameOf_45 ?_
    refine Ex.lald (pc := 46) (j := 6 * b + j) dX10_nameOf_46 (sh55 _) (ixE (c := 6) (a := b) (b := j) rfl rfl (by omega) (by decide)) (ixE2 (c := 6) rfl rfl (by omega)) ?_
    refine Ex.lret (pc := 47) rfl dX10_nameOf_47 (Nat.le_refl _) (Nat.le_refl _) ?_
    exact ⟨rfl, rfl⟩
set_option maxRecDepth 20000 in
theorem tm_letter {N : Nat} {I : aI} {L : aL} {bk nb ns nh : Nat} {nm : Nat → Nat → List Nat} {w v u : Int32} (hB : RefB I bk nb ns nh) (hN : NmM L bk nb ns nh nm) : Run 1 0 0 mX10_letter [.ref 36, .int w, .int v, .int u] (St N I L) (RI (if inR w 3 = false then -1 else if inR u 6 = false then -1 else if inR v (if w = 0 then nb else if w = 1 then ns else nh) = false then -1 else nI ((nm w.toNatClampNeg v.toNatClampNeg).getD u.toNatClampNeg 0)) (St N I L)) := by
  refine Run.of (ls := [some (.ref 36), some (.int _), some (.int _), some (.int _), none, none, none, none, none]) (by decide) (Nat.le_of_ble_eq_true rfl) rfl ?_
  obtain ⟨h1, h2, hnb, hns, hnh, hcb, hcs, hch⟩ := id hB
  have i3 : isB w 0 2 = inR w 3 := isB_in (n := 3) (by decide)
  have i6 : isB u 0 5 = inR u 6 := isB_in (n := 6) (by decide)
  have k39 : ∀ q j u : Nat, q < 3 → j < cnR q nb ns nh → u < 6 → Ex 1 0 0 mX10_letter 0 0 39 [some (.ref 36), some (.int (nI q)), some (.int (nI j)), some (.int (nI u)), none, none, none, none, none] [] (St N I L) (RI (nI ((nm q j).getD u 0)) (St N I L)) := by
    intro q j u hq hj hu
    obtain ⟨hok, hL⟩ := hN q j hq hj
    have hjw : j < wd q := by
      unfold cnR at hj; unfold wd
      split at hj
      · rw [if_pos (by assumption)]; omega
      · rw [if_neg (by assumption)]; split at hj <;> omega
    generalize nm q j = l at *
    have hlen := hok.2.1
    have hml : (l.map (96 + ·)).length = l.length := List.length_map ..
    refine Ex.aload_n (pc := 39) dX10_letter_39 rfl rfl ?_
    refine Ex.aload_n (pc := 40) dX10_letter_40 rfl rfl ?_
    refine Ex.getI (pc := 41) dX10_letter_41 fX10_51 (sh36 _) ?_
    rw [h2]
    refine Ex.iload_n (pc := 44) dX10_letter_44 rfl rfl ?_
    refine Ex.iload_n (pc := 45) dX10_letter_45 rfl rfl ?_
    refine Ex.callV (pc := 46) (As := [.int _, .int _, .int _]) (rest := []) dX10_letter_46 cX10_308 (tm_nameOf h1 hq hjw) (sh36 _) rfl rfl (by decide) (Nat.le_refl _) (Nat.le_refl _) (Nat.le_of_ble_eq_true rfl) (Or.inl (fun r S' h => by obtain ⟨_, h⟩ := h; subst h; rfl)) (fun r S' hq _ _ => ?_)
    obtain ⟨rfl, rfl⟩ := hq
    rw [hL]
    refine Ex.lstore (pc := 49) (ls' := [some (.ref 36), some (.int _), some (.int _), some (.int _), some (.long _), none, none, none, none]) dX10_letter_49 (by decide) rfl rfl ?_
    refine Ex.iconst (pc := 51) (v := 0) dX10_letter_51 rfl ?_
    refine Ex.istore (pc := 52) (ls' := [some (.ref 36), some (.int _), some (.int _), some (.int _), some (.long _), none, some (.int 0), none, none]) dX10_letter_52 (by decide) rfl rfl ?_
    refine Ex.lload (pc := 54) dX10_letter_54 rfl ?_
    refine Ex.lstore (pc := 56) (ls' := [some (.ref 36), some (.int _), some (.int _), some (.int _), some (.long _), none, some (.int 0), some (.long _), none]) dX10_letter_56 (by decide) rfl rfl ?_
    refine Ex.le (ls' := [some (.ref 36), some (.int (nI q)), some (.int (nI j)), some (.int (nI u)), some (.long (lN (n8 l))), none, some (.int (nI 0)), some (.long (lN (dg 256 ((l.map (96 + ·)).take (l.length - 0))))), none]) ⟨rfl, rfl, rfl, rfl, rfl, rfl, ?_, trivial⟩ ?_
    · rw [Nat.sub_zero, ← hml, List.take_length]; rfl
    refine forUp (σ := Unit) (P := fun i _ => Ex 1 0 0 mX10_letter 0 0 58 [some (.ref 36), some (.int (nI q)), some (.int (nI j)), some (.int (nI u)), some (.long (lN (n8 l))), none, some (.int (nI i)), some (.long (lN (dg 256 ((l.map (96 + ·)).take (l.length - i))))), none] [] (St N I L) _) (Inv := fun _ _ => True) l.length ?_ ?_ 0 () (Nat.zero_le _) trivial
    · rintro - -
      rw [Nat.sub_self]
      refine Ex.lload (pc := 58) dX10_letter_58 rfl ?_
      refine Ex.lconst (pc := 60) (v := 0) dX10_letter_60 rfl ?_
      refine Ex.lcmp (pc := 61) dX10_letter_61 ?_
      refine Ex.if_le (pc := 62) (tgt := 78) dX10_letter_62 (by decide) (fun _ => ?_) (fun c62 => absurd (by rw [lg_cmp_le, List.take_zero]; decide) c62)
      refine Ex.iload_n (pc := 78) dX10_letter_78 rfl rfl ?_
      refine Ex.iload (pc := 79) dX10_letter_79 rfl ?_
      refine Ex.icmp_lt (pc := 81) (tgt := 88) dX10_letter_81 (by decide) (fun c81 => ?_) (fun c81 => ?_)
      · skip
        refine Ex.lload (pc := 88) dX10_letter_88 rfl ?_
        refine Ex.bipush (pc := 90) (v := 8) dX10_letter_90 rfl ?_
        refine Ex.iload (pc := 92) dX10_letter_92 rfl ?_
        refine Ex.iconst (pc := 94) (v := 1) dX10_letter_94 rfl ?_
        refine Ex.isub (pc := 95) dX10_letter_95 ?_
        refine Ex.iload_n (pc := 96) dX10_letter_96 rfl rfl ?_
        refine Ex.isub (pc := 97) dX10_letter_97 ?_
        refine Ex.imul (pc := 98) dX10_letter_98 ?_
        refine Ex.lshr (pc := 99) dX10_letter_99 ?_
        refine Ex.ldc2 (pc := 100) dX10_letter_100 kv_X10_468 ?_
        refine Ex.land (pc := 103) dX10_letter_103 ?_
        refine Ex.l2i (pc := 104) dX10_letter_104 ?_
        refine Ex.bipush (pc := 105) (v := 97) dX10_letter_105 rfl ?_
        refine Ex.isub (pc := 107) dX10_letter_107 ?_
        refine Ex.iconst (pc := 108) (v := 1) dX10_letter_108 rfl ?_
        refine Ex.iadd (pc := 109) dX10_letter_109 ?_
        refine Ex.iret (pc := 110) rfl rfl rfl dX10_letter_110 (Nat.le_refl _) (Nat.le_refl _) ?_
        refine ⟨congrArg (fun z => some (Value.int z)) ?_, rfl⟩
        rw [nI_ltI (by omega) (by omega)] at c81
        have e : (8 : Int32) * (nI l.length - 1 - nI u) = nI (8 * (l.length - 1 - u)) := by
          rw [show nI l.length - 1 = nI (l.length - 1) from pk_sub (b := 1) (by omega), pk_sub (by omega)]
          exact pk_mul 8 _
        have hn8 : n8 l < 2 ^ 48 := by have := n8_lt hok (Nat.le_refl _); rw [← hml, List.take_length] at this; exact this
        rw [e, lshrN (by omega) (by omega), show (255 : Int64) = lN (2 ^ 8 - 1) from rfl, landN, Nat.and_two_pow_sub_one_eq_mod, lN_i]
        obtain ⟨c, hc⟩ : ∃ c, l[u]? = some c := ⟨_, List.getElem?_eq_getElem c81⟩
        have hd := dg_get (B := 256) (u := u) (c := 96 + c) (n := l.length) (by decide) (n8_all hok) hml (by rw [List.getElem?_map, hc]; rfl)
        rw [Nat.pow_mul, show (2 : Nat) ^ 8 = 256 from rfl]
        rw [show n8 l / 256 ^ (l.length - 1 - u) % 256 = 96 + c from hd]
        have hcr := hok.2.2 c (List.mem_of_getElem? hc)
        rw [List.getD_eq_getElem?_getD, hc]
        rcases Nat.eq_or_lt_of_le hcr.1 with e1 | e1
        · rw [← e1]; rfl
        · rw [show nI (96 + c) - 97 = nI (c - 1) from by rw [show (97 : Int32) = nI 97 from rfl, pk_sub (by omega)]; congr 1; omega]
          rw [show nI (c - 1) + 1 = nI (c - 1 + 1) from nI_1 _, show c - 1 + 1 = c by omega]; rfl
      · skip
        refine Ex.iconst (pc := 84) (v := 0) dX10_letter_84 rfl ?_
        refine Ex.goto (pc := 85) (tgt := 110) dX10_letter_85 (by decide) ?_
        refine Ex.iret (pc := 110) rfl rfl rfl dX10_letter_110 (Nat.le_refl _) (Nat.le_refl _) ?_
        refine ⟨congrArg (fun z => some (Value.int z)) ?_, rfl⟩
        rw [nI_ltI (by omega) (by omega)] at c81
        rw [List.getD_eq_getElem?_getD, List.getElem?_eq_none (by omega)]; rfl
    · rintro i - hi - ih
      obtain ⟨m, hm⟩ : ∃ m, l.length - i = m + 1 := ⟨l.length - i - 1, by omega⟩
      rw [show l.length - (i + 1) = m by omega] at ih
      rw [hm]
      obtain ⟨c, hc⟩ : ∃ c, l[m]? = some c := ⟨_, List.getElem?_eq_getElem (by omega)⟩
      have hcr := hok.2.2 c (List.mem_of_getElem? hc)
      have hc2 : (l.map (96 + ·))[m]? = some (96 + c) := by rw [List.getElem?_map, hc]; rfl
      have hb1 := n8_lt hok (k := m + 1) (by omega)
      have hdt := dg_take (B := 256) hc2
      have hdv := dg_div (B := 256) (by decide) (n8_all hok) m 1 (by omega)
      rw [Nat.pow_one] at hdv
      refine Ex.lload (pc := 58) dX10_letter_58 rfl ?_
      refine Ex.lconst (pc := 60) (v := 0) dX10_letter_60 rfl ?_
      refine Ex.lcmp (pc := 61) dX10_letter_61 ?_
      refine Ex.if_le (pc := 62) (tgt := 78) dX10_letter_62 (by decide) (fun c62 => absurd c62 (by rw [lg_cmp_le, show (0 : Int64) = lN 0 from rfl, pk_lLE (by omega) (by decide)]; omega)) (fun _ => ?_)
      refine Ex.iinc (pc := 65) (ls' := [some (.ref 36), some (.int _), some (.int _), some (.int _), some (.long _), none, some (.int _), some (.long _), none]) dX10_letter_65 rfl rfl (by decide) rfl rfl ?_
      refine Ex.lload (pc := 68) dX10_letter_68 rfl ?_
      refine Ex.bipush (pc := 70) (v := 8) dX10_letter_70 rfl ?_
      refine Ex.lshr (pc := 72) dX10_letter_72 ?_
      refine Ex.lstore (pc := 73) (ls' := [some (.ref 36), some (.int _), some (.int _), some (.int _), some (.long _), none, some (.int _), some (.long _), none]) dX10_letter_73 (by decide) rfl rfl ?_
      refine Ex.goto (pc := 75) (tgt := 58) dX10_letter_75 (by decide) ?_
      rw [show nI i + Int32.ofInt 1 = nI (i + 1) from nI_1 i]
      rw [show lN (dg 256 ((l.map (96 + ·)).take (m + 1))) >>> ((8 : Int32).toInt64 &&& 63) = lN (dg 256 ((l.map (96 + ·)).take m)) from by rw [show (8 : Int32) = nI 8 from rfl, lshrN (by omega) (by decide), ← hdv]]
      exact ih () trivial
  refine Ex.iload_n (pc := 0) dX10_letter_0 rfl rfl ?_
  refine Ex.iconst (pc := 1) (v := 0) dX10_letter_1 rfl ?_
  refine Ex.iconst (pc := 2) (v := 2) dX10_letter_2 rfl ?_
  refine Ex.callS (pc := 3) (As := [.int _, .int 0, .int 2]) (rest := []) dX10_letter_3 cX10_312 tm_is rfl rfl (by decide) (Nat.le_refl _) (Nat.le_refl _) (Nat.le_of_ble_eq_true rfl) (Or.inl (fun r S' h => by obtain ⟨_, h⟩ := h; subst h; rfl)) (fun r S' hq _ _ => ?_)
  obtain ⟨rfl, rfl⟩ := hq
  refine Ex.if_eq (pc := 6) (tgt := 37) dX10_letter_6 (by decide) (fun c6 => ?_) (fun c6 => ?_)
  · skip
    refine Ex.iconst (pc := 37) (v := (-1)) dX10_letter_37 rfl ?_
    refine Ex.iret (pc := 38) rfl rfl rfl dX10_letter_38 (Nat.le_refl _) (Nat.le_refl _) ?_
    rw [i3] at c6
    exact ⟨by rw [bI_0 c6]; rfl, rfl⟩
  · skip
    have hw3 : inR w 3 = true := by rw [← i3]; exact bI_1 c6
    obtain ⟨q, hq, rfl⟩ := inR_of hw3 (by decide)
    have hcq : (if nI q = 0 then nb else if nI q = 1 then ns else nh) = cnR q nb ns nh := by rcases (show q = 0 ∨ q = 1 ∨ q = 2 by omega) with rfl | rfl | rfl <;> rfl
    have hc6 : cnR q nb ns nh ≤ 6 := by unfold cnR; split; omega; split <;> omega
    have hcI : (if q = 0 then I 38 bk else if q = 1 then I 41 bk else I 44 bk) = nI (cnR q nb ns nh) := by rcases (show q = 0 ∨ q = 1 ∨ q = 2 by omega) with rfl | rfl | rfl <;> assumption
    refine Ex.iload_n (pc := 9) dX10_letter_9 rfl rfl ?_
    refine Ex.iconst (pc := 10) (v := 0) dX10_letter_10 rfl ?_
    refine Ex.aload_n (pc := 11) dX10_letter_11 rfl rfl ?_
    refine Ex.aload_n (pc := 12) dX10_letter_12 rfl rfl ?_
    refine Ex.getI (pc := 13) dX10_letter_13 fX10_51 (sh36 _) ?_
    rw [h2]
    refine Ex.iload_n (pc := 16) dX10_letter_16 rfl rfl ?_
    refine Ex.callV (pc := 17) (As := [.int _, .int _]) (rest := [.int 0, .int _]) dX10_letter_17 cX10_304 (tm_manyOf h1 hq) (sh36 _) rfl rfl (by decide) (Nat.le_refl _) (Nat.le_refl _) (Nat.le_of_ble_eq_true rfl) (Or.inl (fun r S' h => by obtain ⟨_, h⟩ := h; subst h; rfl)) (fun r S' hq _ _ => ?_)
    obtain ⟨rfl, rfl⟩ := hq
    rw [hcI]
    refine Ex.iconst (pc := 20) (v := 1) dX10_letter_20 rfl ?_
    refine Ex.isub (pc := 21) dX10_letter_21 ?_
    refine Ex.callS (pc := 22) (As := [.int _, .int 0, .int _]) (rest := []) dX10_letter_22 cX10_312 tm_is rfl rfl (by decide) (Nat.le_refl _) (Nat.le_refl _) (Nat.le_of_ble_eq_true rfl) (Or.inl (fun r S' h => by obtain ⟨_, h⟩ := h; subst h; rfl)) (fun r S' hq _ _ => ?_)
    obtain ⟨rfl, rfl⟩ := hq
    refine Ex.if_eq (pc := 25) (tgt := 37) dX10_letter_25 (by decide) (fun c25 => ?_) (fun c25 => ?_)
    · skip
      refine Ex.iconst (pc := 37) (v := (-1)) dX10_letter_37 rfl ?_
      refine Ex.iret (pc := 38) rfl rfl rfl dX10_letter_38 (Nat.le_refl _) (Nat.le_refl _) ?_
      rw [isB_in (by omega)] at c25
      refine ⟨congrArg (fun z => some (Value.int z)) ?_, rfl⟩
      rw [hw3, if_neg (show ¬ true = false by decide)]
      rw [hcq, bI_0 c25]
      split
      · rfl
      · rfl
    · skip
      refine Ex.iload_n (pc := 28) dX10_letter_28 rfl rfl ?_
      refine Ex.iconst (pc := 29) (v := 0) dX10_letter_29 rfl ?_
      refine Ex.iconst (pc := 30) (v := 5) dX10_letter_30 rfl ?_
      refine Ex.callS (pc := 31) (As := [.int _, .int 0, .int 5]) (rest := []) dX10_letter_31 cX10_312 tm_is rfl rfl (by decide) (Nat.le_refl _) (Nat.le_refl _) (Nat.le_of_ble_eq_true rfl) (Or.inl (fun r S' h => by obtain ⟨_, h⟩ := h; subst h; rfl)) (fun r S' hq _ _ => ?_)
      obtain ⟨rfl, rfl⟩ := hq
      refine Ex.if_ne (pc := 34) (tgt := 39) dX10_letter_34 (by decide) (fun c34 => ?_) (fun c34 => ?_)
      · skip
        rw [isB_in (by omega)] at c25
        rw [i6] at c34
        have hv := bI_1 c25
        have hu := bI_1 c34
        obtain ⟨j, hj, rfl⟩ := inR_of hv (by omega)
        obtain ⟨u, hu6, rfl⟩ := inR_of hu (by decide)
        rw [hcq, hw3, hv, hu, if_neg (show ¬ true = false by decide), if_neg (show ¬ true = false by decide), if_neg (show ¬ true = false by decide), nI_clamp (by omega), nI_clamp (by omega), nI_clamp (by omega)]
        exact k39 q j u hq hj hu6
      · skip
        refine Ex.iconst (pc := 37) (v := (-1)) dX10_letter_37 rfl ?_
        refine Ex.iret (pc := 38) rfl rfl rfl dX10_letter_38 (Nat.le_refl _) (Nat.le_refl _) ?_
        rw [i6] at c34
        refine ⟨congrArg (fun z => some (Value.int z)) ?_, rfl⟩
        rw [hw3, if_neg (show ¬ true = false by decide), bI_0 c34, if_pos rfl]
set_option maxRecDepth 20000 in
theorem tm_begin {N : Nat} {I : aI} {L : aL} {bk : Nat} (h1 : bk < 2) (h2 : I 36 13 = nI bk) : Run 0 0 0 mX10_begin [.ref 36] (St N I L) (RP none N L (fun I2 => Sm [36, 63, 64, 65, 66, 67, 68] I I2 ∧ (∀ j, j ≠ 54 → j ≠ 62 → I2 36 j = I 36 j) ∧ I2 36 54 = 0 ∧ I2 36 62 = 0 ∧ I2 63 0 = 0 ∧ I2 64 0 = I 47 bk ∧ I2 67 0 = 0 ∧ I2 68 0 = 0 ∧ (∀ k, k < 5 → I2 65 k = I 40 (5 * bk + k)) ∧ ∀ k, k < 6 → I2 66 k = I 42 (6 * bk + k))) := by
  refine Run.of (ls := [some (.ref 36), none]) (by decide) (Nat.le_of_ble_eq_true rfl) rfl ?_
  refine Ex.aload_n (pc := 0) dX10_begin_0 rfl rfl ?_
  refine Ex.getR (pc := 1) dX10_begin_1 fX10_153 (sh36 _) r36_46 ?_
  refine Ex.iconst (pc := 4) (v := 0) dX10_begin_4 rfl ?_
  refine Ex.iconst (pc := 5) (v := 0) dX10_begin_5 rfl ?_
  refine Ex.iast (pc := 6) (j := 0) dX10_begin_6 (sh63 _) (by unfold vp_in; decide) (by decide) ?_
  refine Ex.aload_n (pc := 7) dX10_begin_7 rfl rfl ?_
  refine Ex.getR (pc := 8) dX10_begin_8 fX10_156 (sh36 _) r36_47 ?_
  refine Ex.iconst (pc := 11) (v := 0) dX10_begin_11 rfl ?_
  refine Ex.aload_n (pc := 12) dX10_begin_12 rfl rfl ?_
  refine Ex.getR (pc := 13) dX10_begin_13 fX10_81 (sh36 _) r36_23 ?_
  refine Ex.aload_n (pc := 16) dX10_begin_16 rfl rfl ?_
  refine Ex.getI (pc := 17) dX10_begin_17 fX10_51 (sh36 _) ?_
  refine Ex.iald (pc := 20) (j := bk) dX10_begin_20 (sh47 _) (ixX (show va_up I 63 (upd (I 63) 0 0) 36 13 = nI bk by rw [va_up_n (by decide)]; exact h2) h1 (by decide)) (ixX2 (show va_up I 63 (upd (I 63) 0 0) 36 13 = nI bk by rw [va_up_n (by decide)]; exact h2) (by omega)) ?_
  refine Ex.iast (pc := 21) (j := 0) dX10_begin_21 (sh64 _) (by unfold vp_in; decide) (by decide) ?_
  refine Ex.aload_n (pc := 22) dX10_begin_22 rfl rfl ?_
  refine Ex.getR (pc := 23) dX10_begin_23 fX10_165 (sh36 _) r36_50 ?_
  refine Ex.iconst (pc := 26) (v := 0) dX10_begin_26 rfl ?_
  refine Ex.iconst (pc := 27) (v := 0) dX10_begin_27 rfl ?_
  refine Ex.iast (pc := 28) (j := 0) dX10_begin_28 (sh67 _) (by unfold vp_in; decide) (by decide) ?_
  refine Ex.iconst (pc := 29) (v := 0) dX10_begin_29 rfl ?_
  refine Ex.istore_n (pc := 30) (ls' := [some (.ref 36), some (.int 0)]) dX10_begin_30 rfl (by decide) rfl rfl ?_
  refine forUp (σ := aI) (P := fun k I2 => Ex 0 0 0 mX10_begin 0 0 31 [some (.ref 36), some (.int (nI k))] [] (St N I2 L) _) (Inv := fun k I2 => (Sm [36, 63, 64, 65, 66, 67, 68] I I2 ∧ I2 36 = I 36 ∧ I2 63 0 = 0 ∧ I2 64 0 = I 47 bk ∧ I2 67 0 = 0) ∧ ∀ i, i < k → I2 65 i = I 40 (5 * bk + i)) 5 ?_ ?_ 0 _ (Nat.zero_le _) ⟨⟨((Sm.rf.up (by decide)).up (by decide)).up (by decide), ?_, ?_, ?_, ?_⟩, fun i hi => absurd hi (Nat.not_lt_zero _)⟩
  · rintro I2 ⟨⟨hS, h36, e63, e64, e67⟩, hz⟩
    refine Ex.iload_n (pc := 31) dX10_begin_31 rfl rfl ?_
    refine Ex.iconst (pc := 32) (v := 5) dX10_begin_32 rfl ?_
    refine Ex.icmp_ge (pc := 33) (tgt := 61) dX10_begin_33 (by decide) (fun _ => ?_) (fun c33 => absurd (by decide) c33)
    refine Ex.iconst (pc := 61) (v := 0) dX10_begin_61 rfl ?_
    refine Ex.istore_n (pc := 62) (ls' := [some (.ref 36), some (.int 0)]) dX10_begin_62 rfl (by decide) rfl rfl ?_
    refine forUp (σ := aI) (P := fun k I2 => Ex 0 0 0 mX10_begin 0 0 63 [some (.ref 36), some (.int (nI k))] [] (St N I2 L) _) (Inv := fun k I2 => ((Sm [36, 63, 64, 65, 66, 67, 68] I I2 ∧ I2 36 = I 36 ∧ I2 63 0 = 0 ∧ I2 64 0 = I 47 bk ∧ I2 67 0 = 0) ∧ ∀ i, i < 5 → I2 65 i = I 40 (5 * bk + i)) ∧ ∀ i, i < k → I2 66 i = I 42 (6 * bk + i)) 6 ?_ ?_ 0 I2 (Nat.zero_le _) ⟨⟨⟨hS, h36, e63, e64, e67⟩, hz⟩, fun i hi => absurd hi (Nat.not_lt_zero _)⟩
    · clear hS h36 e63 e64 e67 hz I2
      rintro I2 ⟨⟨⟨hS, h36, e63, e64, e67⟩, hz⟩, hd⟩
      refine Ex.iload_n (pc := 63) dX10_begin_63 rfl rfl ?_
      refine Ex.bipush (pc := 64) (v := 6) dX10_begin_64 rfl ?_
      refine Ex.icmp_ge (pc := 66) (tgt := 95) dX10_begin_66 (by decide) (fun _ => ?_) (fun c66 => absurd (by decide) c66)
      refine Ex.aload_n (pc := 95) dX10_begin_95 rfl rfl ?_
      refine Ex.getR (pc := 96) dX10_begin_96 fX10_168 (sh36 _) r36_51 ?_
      refine Ex.iconst (pc := 99) (v := 0) dX10_begin_99 rfl ?_
      refine Ex.iconst (pc := 100) (v := 0) dX10_begin_100 rfl ?_
      refine Ex.iast (pc := 101) (j := 0) dX10_begin_101 (sh68 _) (by unfold vp_in; decide) (by decide) ?_
      refine Ex.aload_n (pc := 102) dX10_begin_102 rfl rfl ?_
      refine Ex.iconst (pc := 103) (v := 0) dX10_begin_103 rfl ?_
      refine Ex.putI (pc := 104) dX10_begin_104 fX10_177 (sh36 _) (Or.inl rfl) ⟨rfl, rfl⟩ ?_
      refine Ex.aload_n (pc := 107) dX10_begin_107 rfl rfl ?_
      refine Ex.iconst (pc := 108) (v := 0) dX10_begin_108 rfl ?_
      refine Ex.putI (pc := 109) dX10_begin_109 fX10_201 (sh36 _) (Or.inl rfl) ⟨rfl, rfl⟩ ?_
      refine Ex.vret (pc := 112) rfl dX10_begin_112 (Nat.le_refl _) (Nat.le_refl _) ?_
      refine ⟨_, rfl, rfl, ((hS.up (by decide)).up (by decide)).up (by decide), ?_, ?_, ?_, ?_, ?_, ?_, ?_, ?_, ?_⟩
      · intro j a b; simp [va_up, upd, a, b]; rw [h36]
      · simp [va_up, upd]
      · simp [va_up, upd]
      · simp [va_up]; exact e63
      · simp [va_up]; exact e64
      · simp [va_up]; exact e67
      · simp [va_up, upd]
      · intro k hk; simp [va_up]; exact hz k hk
      · intro k hk; simp [va_up]; exact hd k hk
    · clear hS h36 e63 e64 e67 hz I2
      rintro k I2 hk ⟨⟨⟨hS, h36, e63, e64, e67⟩, hz⟩, hd⟩ ih
      have hb2 : I2 36 13 = nI bk := by rw [h36]; exact h2
      refine Ex.iload_n (pc := 63) dX10_begin_63 rfl rfl ?_
      refine Ex.bipush (pc := 64) (v := 6) dX10_begin_64 rfl ?_
      refine Ex.icmp_ge (pc := 66) (tgt := 95) dX10_begin_66 (by decide) (fun c66 => absurd c66 (nI_ge (b := 6) hk (by decide))) (fun _ => ?_)
      refine Ex.aload_n (pc := 69) dX10_begin_69 rfl rfl ?_
      refine Ex.getR (pc := 70) dX10_begin_70 fX10_162 (sh36 _) r36_49 ?_
      refine Ex.iload_n (pc := 73) dX10_begin_73 rfl rfl ?_
      refine Ex.aload_n (pc := 74) dX10_begin_74 rfl rfl ?_
      refine Ex.getR (pc := 75) dX10_begin_75 fX10_66 (sh36 _) r36_18 ?_
      refine Ex.bipush (pc := 78) (v := 6) dX10_begin_78 rfl ?_
      refine Ex.aload_n (pc := 80) dX10_begin_80 rfl rfl ?_
      refine Ex.getI (pc := 81) dX10_begin_81 fX10_51 (sh36 _) ?_
      refine Ex.imul (pc := 84) dX10_begin_84 ?_
      refine Ex.iload_n (pc := 85) dX10_begin_85 rfl rfl ?_
      refine Ex.iadd (pc := 86) dX10_begin_86 ?_
      refine Ex.iald (pc := 87) (j := 6 * bk + k) dX10_begin_87 (sh42 _) (ixE (c := 6) (a := bk) (b := k) hb2 rfl (by omega) (by decide)) (ixE2 (c := 6) hb2 rfl (by omega)) ?_
      refine Ex.iast (pc := 88) (j := k) dX10_begin_88 (sh66 _) (vp_in_nI (by omega) (by decide)) (ixN2 (by omega)) ?_
      refine Ex.iinc (pc := 89) (ls' := [some (.ref 36), some (.int _)]) dX10_begin_89 rfl rfl (by decide) rfl rfl ?_
      refine Ex.goto (pc := 92) (tgt := 63) dX10_begin_92 (by decide) ?_
      rw [show nI k + Int32.ofInt 1 = nI (k + 1) from nI_1 k]
      refine ih _ ⟨⟨⟨hS.up (by decide), ?_, ?_, ?_, ?_⟩, ?_⟩, ?_⟩
      · rw [va_up_n (by decide)]; exact h36
      · rw [va_up_n (by decide)]; exact e63
      · rw [va_up_n (by decide)]; exact e64
      · rw [va_up_n (by decide)]; exact e67
      · intro i hi; rw [va_up_n (by decide)]; exact hz i hi
      · intro i hi; rw [va_up_s]
        by_cases e : i = k
        · rw [e, upd_s, hS 42 (by decide)]
        · rw [upd_n e]; exact hd i (by omega)
  · rintro k I2 hk ⟨⟨hS, h36, e63, e64, e67⟩, hz⟩ ih
    have hb2 : I2 36 13 = nI bk := by rw [h36]; exact h2
    refine Ex.iload_n (pc := 31) dX10_begin_31 rfl rfl ?_
    refine Ex.iconst (pc := 32) (v := 5) dX10_begin_32 rfl ?_
    refine Ex.icmp_ge (pc := 33) (tgt := 61) dX10_begin_33 (by decide) (fun c33 => absurd c33 (nI_ge (b := 5) hk (by decide))) (fun _ => ?_)
    refine Ex.aload_n (pc := 36) dX10_begin_36 rfl rfl ?_
    refine Ex.getR (pc := 37) dX10_begin_37 fX10_159 (sh36 _) r36_48 ?_
    refine Ex.iload_n (pc := 40) dX10_begin_40 rfl rfl ?_
    refine Ex.aload_n (pc := 41) dX10_begin_41 rfl rfl ?_
    refine Ex.getR (pc := 42) dX10_begin_42 fX10_60 (sh36 _) r36_16 ?_
    refine Ex.iconst (pc := 45) (v := 5) dX10_begin_45 rfl ?_
    refine Ex.aload_n (pc := 46) dX10_begin_46 rfl rfl ?_
    refine Ex.getI (pc := 47) dX10_begin_47 fX10_51 (sh36 _) ?_
    refine Ex.imul (pc := 50) dX10_begin_50 ?_
    refine Ex.iload_n (pc := 51) dX10_begin_51 rfl rfl ?_
    refine Ex.iadd (pc := 52) dX10_begin_52 ?_
    refine Ex.iald (pc := 53) (j := 5 * bk + k) dX10_begin_53 (sh40 _) (ixE (c := 5) (a := bk) (b := k) hb2 rfl (by omega) (by decide)) (ixE2 (c := 5) hb2 rfl (by omega)) ?_
    refine Ex.iast (pc := 54) (j := k) dX10_begin_54 (sh65 _) (vp_in_nI (by omega) (by decide)) (ixN2 (by omega)) ?_
    refine Ex.iinc (pc := 55) (ls' := [some (.ref 36), some (.int _)]) dX10_begin_55 rfl rfl (by decide) rfl rfl ?_
    refine Ex.goto (pc := 58) (tgt := 31) dX10_begin_58 (by decide) ?_
    rw [show nI k + Int32.ofInt 1 = nI (k + 1) from nI_1 k]
    refine ih _ ⟨⟨hS.up (by decide), ?_, ?_, ?_, ?_⟩, ?_⟩
    · rw [va_up_n (by decide)]; exact h36
    · rw [va_up_n (by decide)]; exact e63
    · rw [va_up_n (by decide)]; exact e64
    · rw [va_up_n (by decide)]; exact e67
    · intro i hi; rw [va_up_s]
      by_cases e : i = k
      · rw [e, upd_s, hS 40 (by decide)]
      · rw [upd_n e]; exact hz i (by omega)
  · simp [va_up]
  · simp [va_up, upd]
  · simp [va_up, upd]
  · simp [va_up, upd]
