/-! the law's start -/
theorem kind_o : ∀ i, i < 81 → ((SH 0).getD i (11, 0)).1 < 11 → i ∈ [0, 2, 10, 13, 16, 19, 21, 23, 26, 30, 36] := by decide +kernel
theorem lw_begin {len : Nat} {xs : Nat → Int32} (hl : len ≤ 3072) : ExL len xs 0 0 0 [none, none, none, none] [] ([], fun _ _ => 0, fun _ _ => 0, fun _ _ => none) := by
  refine ExL.new (pc := 0) (h := 0) (ci := 9) (st := []) rfl dL_0 nL_7 (by decide) (by decide) oks_0 (okl_n (okl_n (okl_n (okl_n okl_0)))) ?_
  refine ExL.dup (pc := 3) dL_3 rfl ?_
  refine ExL.callI (pc := 4) (b0 := 0) (As := []) (rest := [.ref 0]) dL_4 cL_9 (t_X9_init va_up_s va_up_s va_up_s) rfl rfl (by decide) (by decide) (by decide) (by decide) (Or.inr ⟨oks_r (Nat.le_of_ble_eq_true rfl) oks_0, okl_n (okl_n (okl_n (okl_n okl_0)))⟩) ?_
  rintro S' ⟨I1, L1, R1, -, rfl, z1, z2, z3, z4⟩
  refine ExL.astore_n (pc := 7) (i := 1) (ls' := [none, some (.ref 0), none, none]) dL_7 rfl (by decide) (by decide) rfl rfl ?_
  refine ExL.new (pc := 8) (h := 36) (ci := 10) (st := []) rfl dL_8 nL_10 (by decide) (by decide) oks_0 (okl_n (okl_r (by decide) (okl_n (okl_n okl_0)))) ?_
  refine ExL.dup (pc := 11) dL_11 rfl ?_
  refine ExL.callI (pc := 12) (b0 := 36) (As := []) (rest := [.ref 36]) dL_12 cL_12 (t_X10_init va_up_s va_up_s va_up_s) rfl rfl (by decide) (by decide) (by decide) (by decide) (Or.inr ⟨oks_r (Nat.le_of_ble_eq_true rfl) oks_0, okl_n (okl_r (Nat.le_of_ble_eq_true rfl) (okl_n (okl_n okl_0)))⟩) ?_
  rintro S' ⟨I2, L2, R2, -, rfl, ⟨y1, y2, y3, y4⟩, h49⟩
  refine ExL.astore_n (pc := 15) (i := 2) (ls' := [none, some (.ref 0), some (.ref 36), none]) dL_15 rfl (by decide) (by decide) rfl rfl ?_
  refine ExL.iconst (pc := 16) (v := 0) dL_16 rfl ?_
  refine ExL.istore_n (pc := 17) (i := 3) (ls' := lsI 0) dL_17 rfl (by decide) (by decide) rfl rfl ?_
  have cl : ∀ i, i < 36 → I2 i = I1 i ∧ L2 i = L1 i ∧ R2 i = R1 i := fun i hi => by
    obtain ⟨q1, q2, q3⟩ := (y4 i (by omega) (by omega)).1 hi
    exact ⟨by rw [q1, va_up_n (by omega)], by rw [q2, va_up_n (by omega)], by rw [q3, va_up_n (by omega)]⟩
  refine ExL.ren (sh' := SH 0) (R' := RR) (ls' := lsI 0) (st' := []) id (fun i _ => rfl) (fun i j _ _ h => h) (fun i k b h => RR_lt i k b h) (fun i kn hk h11 k hkk => ?_) (fun b ρ ρ' h => rfl) (fun j u hj => ⟨u, hj, fun ρ ρ' h => ?_⟩) ?_
  · have hi : i < 81 := (List.getElem?_eq_some_iff.mp hk).1
    have hm := kind_o i hi (by rw [List.getD_eq_getElem?_getD, hk]; exact h11)
    show R2 i k = (RR i k).map id
    rw [Option.map_id]
    show R2 i k = RR i k
    simp only [List.mem_cons, List.not_mem_nil, or_false] at hm
    have pob : ∀ i, i ∈ [2, 10, 13, 16, 19, 21, 23, 26, 30] → k < 17 → R2 i k = RR i k := fun i hi hk => by
      simp at hi
      rw [(cl i (by omega)).2.2]
      exact (z4 i (by omega) (by omega)).1 (by simp; omega) k hk
    rcases hm with e | e | e | e | e | e | e | e | e | e | e <;> subst e <;> cases hk
    · rw [(cl 0 (by decide)).2.2, z3]
      have key : ∀ k, k < 17 → (va_up (va_up (va_up (va_up (va_up (va_up (va_up (va_up (va_up (va_up (va_up (va_up r0 0 (some (1))) 2 (some (2))) 5 (some (10))) 6 (some (13))) 7 (some (16))) 8 (some (19))) 9 (some (21))) 10 (some (23))) 11 (some (26))) 12 (some (30))) 14 (some (34))) 16 (some (35))) k = RR 0 k := by decide
      exact key k hkk
    · exact pob 2 (by decide) (Nat.lt_of_lt_of_le hkk (by decide))
    · exact pob 10 (by decide) (Nat.lt_of_lt_of_le hkk (by decide))
    · exact pob 13 (by decide) (Nat.lt_of_lt_of_le hkk (by decide))
    · exact pob 16 (by decide) (Nat.lt_of_lt_of_le hkk (by decide))
    · exact pob 19 (by decide) (Nat.lt_of_lt_of_le hkk (by decide))
    · exact pob 21 (by decide) (Nat.lt_of_lt_of_le hkk (by decide))
    · exact pob 23 (by decide) (Nat.lt_of_lt_of_le hkk (by decide))
    · exact pob 26 (by decide) (Nat.lt_of_lt_of_le hkk (by decide))
    · exact pob 30 (by decide) (Nat.lt_of_lt_of_le hkk (by decide))
    · rw [y3]
      replace hkk : k < 69 := hkk
      clear pob
      revert hkk
      revert k
      decide +kernel
  · match j, hj with
    | 0, hj => cases hj
    | 1, hj => cases hj; show Value.ref _ = Value.ref _; rw [h 0 (by show 0 < 81; decide)]; rfl
    | 2, hj => cases hj; show Value.ref _ = Value.ref _; rw [h 36 (by show 36 < 81; decide)]; rfl
    | 3, hj => cases hj; rfl
    | j + 4, hj => cases hj
  · have hR : Rel 0 0 I2 L2 := by
      refine rel_0 (fun i hi hn => ?_) ?_ ?_ ?_ ?_ y1 (fun i a b hn => ?_) h49 ?_ ?_
      · rw [(cl i hi).1]
        simp at hn
        exact (z4 i (by omega) (by omega)).2.2.2.2 (by simp; omega)
      · rw [(cl 0 (by decide)).1]; exact z1
      · rw [(cl 23 (by decide)).1]; exact (z4 23 (by decide) (by decide)).2.1 rfl
      · rw [(cl 26 (by decide)).1]; exact (z4 26 (by decide) (by decide)).2.2.1 rfl
      · rw [(cl 30 (by decide)).1]; exact (z4 30 (by decide) (by decide)).2.2.2.1 rfl
      · exact (y4 i b (by omega)).2 a hn
      · rw [(cl 0 (by decide)).2.1, z2]; rfl
      · rw [y2]; rfl
    exact ExL.wide (k' := 81 + 9 * 0) (n' := 17476 + 1689 * 0) (by decide) (by decide) (lw_loop hl 513 0 (by decide) (by decide) 0 I2 L2 hR)
