/-! THE CLASS'S CONSTRUCTORS OF A PLAN AND A PARSER -/
theorem okl_0 {n : Nat} : aOkL n [] := fun i v h => by simp at h
theorem okl_r {n b : Nat} {l : aLs} (hb : b < n) (h : aOkL n l) : aOkL n (some (.ref b) :: l) := fun i v q => by
  cases i with
  | zero => cases q; exact hb
  | succ i => exact h i v q
theorem okl_i {n : Nat} {x : Int32} {l : aLs} (h : aOkL n l) : aOkL n (some (.int x) :: l) := fun i v q => by
  cases i with
  | zero => cases q; exact trivial
  | succ i => exact h i v q
theorem okl_n {n : Nat} {l : aLs} (h : aOkL n l) : aOkL n (none :: l) := fun i v q => by
  cases i with
  | zero => cases q
  | succ i => exact h i v q
theorem oks_0 {n : Nat} : aOkS n [] := fun v h => by cases h
theorem oks_r {n b : Nat} {l : List Value} (hb : b < n) (h : aOkS n l) : aOkS n (.ref b :: l) := fun v q => by
  cases q with
  | head => exact hb
  | tail _ q => exact h v q
theorem oks_i {n : Nat} {x : Int32} {l : List Value} (h : aOkS n l) : aOkS n (.int x :: l) := fun v q => by
  cases q with
  | head => exact trivial
  | tail _ q => exact h v q
theorem va_vv {α : Type} {f : Nat → α} {a : Nat} {v w : α} : va_up (va_up f a v) a w = va_up f a w := by
  funext b
  by_cases h : b = a
  · subst h; rw [va_up_s, va_up_s]
  · rw [va_up_n h, va_up_n h, va_up_n h]
theorem sh_ap {sh l : aSh} {b : Nat} {x : Nat × Nat} (h : sh[b]? = some x) : (sh ++ l)[b]? = some x := by
  rw [List.getElem?_append_left (List.getElem?_eq_some_iff.mp h).1]; exact h
theorem len_ap {sh : aSh} {h : Nat} {x : Nat × Nat} (e : sh.length = h) : (sh ++ [x]).length = h + 1 := by rw [List.length_append, e]; rfl
section NEWH
variable {d mc ms : Nat} {mi : aM} {k n pc : Nat} {ls : aLs} {st : List Value} {sh : aSh} {I : aI} {L : aL} {R : aR} {Q : aQ}
theorem Ex.newIh {N h : Nat} {x : Int32} (hlen : sh.length = h) (hd : decode mi.2.1 pc = .ok (.newarray .int, 2)) (hx : ¬ x < 0) (hN : x.toNatClampNeg = N) (hsz : N ≤ 1000000) (h1 : k + 1 ≤ mc) (h2 : n + N ≤ ms) (hst : aOkS h st) (hls : aOkL h ls)
    (kk : Ex d mc ms mi (k + 1) (n + N) (pc + 2) ls (.ref h :: st) (sh ++ [(11, N)], va_up I h (fun _ => 0), L, R) Q) : Ex d mc ms mi k n pc ls (.int x :: st) (sh, I, L, R) Q := by
  subst hlen; exact Ex.newI hd hx hN hsz h1 h2 hst hls kk
theorem Ex.newh {idx ci h : Nat} (hlen : sh.length = h) (hd : decode mi.2.1 pc = .ok (.new idx, 3)) (hc : aNw mi.1.cls idx ci) (h1 : k + 1 ≤ mc) (h2 : n + cN ci ≤ ms) (hst : aOkS h st) (hls : aOkL h ls)
    (kk : Ex d mc ms mi (k + 1) (n + cN ci) (pc + 3) ls (.ref h :: st) (sh ++ [(ci, 0)], va_up I h (fun _ => 0), va_up L h (fun _ => 0), va_up R h (fun _ => none)) Q) : Ex d mc ms mi k n pc ls st (sh, I, L, R) Q := by
  subst hlen; exact Ex.new hd hc h1 h2 hst hls kk
end NEWH
theorem upd_z {k : Nat} : upd (fun _ => 0) k 0 = fun _ => 0 := by funext j; simp [upd]
def PR (h : Nat) : Nat → Option Nat := va_up (va_up (va_up (va_up (va_up (va_up (va_up (fun _ => none) 0 (some h)) 1 (some (h + 1))) 2 (some (h + 2))) 3 (some (h + 3))) 9 (some (h + 4))) 10 (some (h + 5))) 7 (some (h + 6))
def shP (sh : aSh) (n : Nat) : aSh := ((((((sh ++ [(11, 3)]) ++ [(11, 18)]) ++ [(11, 18)]) ++ [(11, 18)]) ++ [(11, 5)]) ++ [(11, 5)]) ++ [(11, n)]
def PlI (h b : Nat) (I I' : aI) : Prop := (∀ a, a ≠ b → a < h ∨ h + 6 < a → I' a = I a) ∧ (∀ i, h ≤ i → i ≤ h + 6 → I' i = fun _ => 0) ∧ I' b = fun _ => 0
set_option maxRecDepth 20000 in
theorem t_planI {h b n : Nat} {sh : aSh} {I : aI} {L : aL} {R : aR} (hlen : sh.length = h) (hb : sh[b]? = some (5, 0)) (hbh : b < h) (hn : n ≤ 1600) (hI : I b = fun _ => 0) (hR : R b = fun _ => none) : Run 1 7 (67 + n) mX5_init [.ref b, .int (nI n)] (sh, I, L, R) (fun r S' => ∃ I', r = none ∧ S' = (shP sh n, I', L, va_up R b (PR h)) ∧ PlI h b I I') := by
  refine Run.of (ls := [some (.ref b), some (.int (nI n))]) (by decide) (Nat.le_of_ble_eq_true rfl) rfl ?_
  have hls : ∀ z, h ≤ z → aOkL z [some (.ref b), some (.int (nI n))] := fun z q => okl_r (by omega) (okl_i okl_0)
  have hst : ∀ z, h ≤ z → aOkS z [.ref b] := fun z q => oks_r (by omega) oks_0
  refine Ex.aload_n (pc := 0) dX5_init_0 rfl rfl ?_
  refine Ex.objI (pc := 1) dX5_init_1 kl_X5_3 (by decide) (by decide) ?_
  refine Ex.aload_n (pc := 4) dX5_init_4 rfl rfl ?_
  refine Ex.iconst (pc := 5) (v := 3) dX5_init_5 rfl ?_
  refine Ex.newIh (pc := 6) (N := 3) (h := h) hlen dX5_init_6 (by decide) (by decide) (by omega) (by omega) (by omega) (hst _ (by omega)) (hls _ (by omega)) ?_
  refine Ex.putR (pc := 8) dX5_init_8 fX5_9 (sh_ap hb) (Or.inr ⟨rfl, rfl⟩) (by rw [(len_ap hlen)]; omega) ?_
  refine Ex.aload_n (pc := 11) dX5_init_11 rfl rfl ?_
  refine Ex.bipush (pc := 12) (v := 18) dX5_init_12 rfl ?_
  refine Ex.newIh (pc := 14) (N := 18) (h := h + 1) (len_ap hlen) dX5_init_14 (by decide) (by decide) (by omega) (by omega) (by omega) (hst _ (by omega)) (hls _ (by omega)) ?_
  refine Ex.putR (pc := 16) dX5_init_16 fX5_15 (sh_ap (sh_ap hb)) (Or.inr ⟨rfl, rfl⟩) (by rw [(len_ap (len_ap hlen))]; omega) ?_
  refine Ex.aload_n (pc := 19) dX5_init_19 rfl rfl ?_
  refine Ex.bipush (pc := 20) (v := 18) dX5_init_20 rfl ?_
  refine Ex.newIh (pc := 22) (N := 18) (h := h + 2) (len_ap (len_ap hlen)) dX5_init_22 (by decide) (by decide) (by omega) (by omega) (by omega) (hst _ (by omega)) (hls _ (by omega)) ?_
  refine Ex.putR (pc := 24) dX5_init_24 fX5_18 (sh_ap (sh_ap (sh_ap hb))) (Or.inr ⟨rfl, rfl⟩) (by rw [(len_ap (len_ap (len_ap hlen)))]; omega) ?_
  refine Ex.aload_n (pc := 27) dX5_init_27 rfl rfl ?_
  refine Ex.bipush (pc := 28) (v := 18) dX5_init_28 rfl ?_
  refine Ex.newIh (pc := 30) (N := 18) (h := h + 3) (len_ap (len_ap (len_ap hlen))) dX5_init_30 (by decide) (by decide) (by omega) (by omega) (by omega) (hst _ (by omega)) (hls _ (by omega)) ?_
  refine Ex.putR (pc := 32) dX5_init_32 fX5_21 (sh_ap (sh_ap (sh_ap (sh_ap hb)))) (Or.inr ⟨rfl, rfl⟩) (by rw [(len_ap (len_ap (len_ap (len_ap hlen))))]; omega) ?_
  refine Ex.aload_n (pc := 35) dX5_init_35 rfl rfl ?_
  refine Ex.iconst (pc := 36) (v := 0) dX5_init_36 rfl ?_
  refine Ex.putI (pc := 37) dX5_init_37 fX5_24 (sh_ap (sh_ap (sh_ap (sh_ap hb)))) (Or.inl rfl) ⟨rfl, rfl⟩ ?_
  refine Ex.aload_n (pc := 40) dX5_init_40 rfl rfl ?_
  refine Ex.iconst (pc := 41) (v := 0) dX5_init_41 rfl ?_
  refine Ex.putI (pc := 42) dX5_init_42 fX5_28 (sh_ap (sh_ap (sh_ap (sh_ap hb)))) (Or.inl rfl) ⟨rfl, rfl⟩ ?_
  refine Ex.aload_n (pc := 45) dX5_init_45 rfl rfl ?_
  refine Ex.iconst (pc := 46) (v := 0) dX5_init_46 rfl ?_
  refine Ex.putI (pc := 47) dX5_init_47 fX5_31 (sh_ap (sh_ap (sh_ap (sh_ap hb)))) (Or.inl rfl) ⟨rfl, rfl⟩ ?_
  refine Ex.aload_n (pc := 50) dX5_init_50 rfl rfl ?_
  refine Ex.iconst (pc := 51) (v := 0) dX5_init_51 rfl ?_
  refine Ex.putI (pc := 52) dX5_init_52 fX5_34 (sh_ap (sh_ap (sh_ap (sh_ap hb)))) (Or.inl rfl) ⟨rfl, rfl⟩ ?_
  refine Ex.aload_n (pc := 55) dX5_init_55 rfl rfl ?_
  refine Ex.iconst (pc := 56) (v := 5) dX5_init_56 rfl ?_
  refine Ex.newIh (pc := 57) (N := 5) (h := h + 4) (len_ap (len_ap (len_ap (len_ap hlen)))) dX5_init_57 (by decide) (by decide) (by omega) (by omega) (by omega) (hst _ (by omega)) (hls _ (by omega)) ?_
  refine Ex.putR (pc := 59) dX5_init_59 fX5_37 (sh_ap (sh_ap (sh_ap (sh_ap (sh_ap hb))))) (Or.inr ⟨rfl, rfl⟩) (by rw [(len_ap (len_ap (len_ap (len_ap (len_ap hlen)))))]; omega) ?_
  refine Ex.aload_n (pc := 62) dX5_init_62 rfl rfl ?_
  refine Ex.iconst (pc := 63) (v := 5) dX5_init_63 rfl ?_
  refine Ex.newIh (pc := 64) (N := 5) (h := h + 5) (len_ap (len_ap (len_ap (len_ap (len_ap hlen))))) dX5_init_64 (by decide) (by decide) (by omega) (by omega) (by omega) (hst _ (by omega)) (hls _ (by omega)) ?_
  refine Ex.putR (pc := 66) dX5_init_66 fX5_40 (sh_ap (sh_ap (sh_ap (sh_ap (sh_ap (sh_ap hb)))))) (Or.inr ⟨rfl, rfl⟩) (by rw [(len_ap (len_ap (len_ap (len_ap (len_ap (len_ap hlen))))))]; omega) ?_
  refine Ex.aload_n (pc := 69) dX5_init_69 rfl rfl ?_
  refine Ex.iconst (pc := 70) (v := 0) dX5_init_70 rfl ?_
  refine Ex.iload_n (pc := 71) dX5_init_71 rfl rfl ?_
  refine Ex.max (pc := 72) dX5_init_72 kl_X5_43 (by decide) (Nat.le_of_ble_eq_true rfl) (by decide) (by omega) ?_
  rw [show (if (0 : Int32) < nI n then nI n else 0) = nI n from by split; rfl; rename_i q; have : n = 0 := Nat.le_antisymm (Nat.le_of_not_lt (fun z => q (nI_lt (a := 0) z (by omega)))) (Nat.zero_le _); rw [this]; rfl]
  refine Ex.newIh (pc := 75) (N := n) (h := h + 6) (len_ap (len_ap (len_ap (len_ap (len_ap (len_ap hlen)))))) dX5_init_75 (nI_pos (by omega)) (nI_clamp (by omega)) (by omega) (by omega) (by omega) (hst _ (by omega)) (hls _ (by omega)) ?_
  refine Ex.putR (pc := 77) dX5_init_77 fX5_49 (sh_ap (sh_ap (sh_ap (sh_ap (sh_ap (sh_ap (sh_ap hb))))))) (Or.inr ⟨rfl, rfl⟩) (by rw [(len_ap (len_ap (len_ap (len_ap (len_ap (len_ap (len_ap hlen)))))))]; omega) ?_
  refine Ex.vret (pc := 80) rfl dX5_init_80 (by decide) (by omega) ?_
  obtain ⟨J, hJ⟩ : ∃ z : aI, z = _ := ⟨_, rfl⟩
  refine ⟨J, rfl, Prod.ext rfl (Prod.ext hJ.symm (Prod.ext rfl ?_)), ?_⟩
  · show _ = va_up R b (PR h)
    simp only [va_up_s, va_vv, hR]
    rfl
  dsimp only at hJ
  refine ⟨fun a h1 h2 => ?_, fun i h1 h2 => ?_, ?_⟩
  · rw [hJ]
    repeat rw [va_up_n (by omega)]
  · rw [hJ]
    rcases (show i = h ∨ i = h + 1 ∨ i = h + 2 ∨ i = h + 3 ∨ i = h + 4 ∨ i = h + 5 ∨ i = h + 6 by omega) with rfl | rfl | rfl | rfl | rfl | rfl | rfl
    all_goals (repeat (first | rw [va_up_s] | rw [va_up_n (by omega)]))
  · rw [hJ]
    repeat (first | rw [va_up_s] | rw [va_up_n (by omega)])
    rw [hI]
    simp only [upd_z]
