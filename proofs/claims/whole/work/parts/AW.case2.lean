theorem chL_lo {L : aL} {a : Nat} (h : a < 81) : chL L a = L a := by unfold chL; rw [va_up_n (by omega), va_up_n (by omega)]
theorem okl_I {i : Nat} : aOkL 81 (lsI i) := okl_n (okl_r (by decide) (okl_r (by decide) (okl_i okl_0)))
theorem lw_c2 {len : Nat} {xs : Nat → Int32} {k n i N K : Nat} {I : aI} {L : aL} (hR : Rel N K I L) (hk : k + 9 ≤ 600000) (hn : n + 1689 ≤ 7302250) (kk : ∀ N' I' L', Rel N' (K + 1) I' L' → ExL len xs (k + 9) (n + 1689) 1106 (lsI i) [] (St N' I' L')) : ExL len xs k n 270 (lsI i) [] (St N I L) := by
  obtain ⟨p, nb, ns, nh, bk, g1, g2, g3, g4, g5, g6⟩ := hR
  obtain ⟨tb, t, t16, c1, c2, c3, c4⟩ := g1
  have hbk : bk < 2 := g3.2.2.1.1.1
  have h13 : I 36 13 = nI bk := g3.2.2.1.1.2.1
  refine ExL.aload_n (pc := 270) (i := 1) dL_270 rfl rfl ?_
  have hms : n + (0 + cN 4 + (78 + t)) ≤ n + 1689 := by show n + (0 + 11 + (78 + t)) ≤ _; omega
  refine ExL.callV (pc := 271) (As := []) (rest := []) dL_271 cL_23 (t_chapel c3 t16 c1) (sh0 N) rfl rfl (by decide) hk (Nat.le_trans hms hn) (by decide) (Or.inr ⟨oks_0, okl_I⟩) ?_
  intro r S' hq _ _
  rcases hq with hE | hO
  · obtain ⟨e, I', he, rfl, rfl, e1, e2, e3, i1, i0, i35⟩ := hE
    refine ExL.wide (k' := k + 9) (n' := n + 1689) (Nat.le_refl _) hms ?_
    refine ExL.renS (v := -1) (N := N) id rfl rfl id_sh (fun i j _ _ h => h) id_rr ?_
    refine ExL.aload_n (pc := 274) (i := 2) dL_274 rfl rfl ?_
    refine ExL.callV (pc := 275) (As := []) (rest := [.int (-1)]) dL_275 cL_27 (tm_chapel (tb := tb) (n := t) (bk := bk) (b := 1 - bk) (I := I') (L := chL L) (fun j hj => by rw [i1 37 (by decide) (by decide)]; exact c4 j hj) t16 (by rw [i1 36 (by decide) (by decide)]; exact c2) hbk (by rw [i1 36 (by decide) (by decide)]; exact h13) rfl) rfl rfl rfl (by decide) hk hn (by decide) (Or.inl ?_) ?_
    · rintro r S' ⟨_, _, rfl, -⟩; rfl
    rintro r S' ⟨I2, L2, rfl, hq⟩ - -
    rcases hq with ⟨e', he', rfl, hF, m1, m10, m11, m13, m54, m62, m6, ms⟩ | ⟨t', c', he', -⟩
    · rw [he] at he'
      cases he'
      refine ExL.icmp_eq (pc := 278) (tgt := 1106) dL_278 (by decide) (fun _ => ?_) (fun q => absurd rfl q)
      exact kk N I2 L2 (rel_chE g2 g3 g4 g5 g6 rfl i1 i0 i35 (fun a ha => chL_lo ha) hF m1 m10 m11 m13 m54 m62 m6 ms)
    · rw [he] at he'; cases he'
  · obtain ⟨tk, c, I', he, rfl, rfl, i1, i0, ia, ib, ic, id', ie, if', i19, i23, i26, i30, i6, hpo, hpx⟩ := hO
    obtain ⟨hV, -⟩ := prs_I (fun j hj => (c3 j hj).1) he
    refine ExL.wide (k' := k + 9) (n' := n + 1689) (Nat.le_refl _) hms ?_
    refine ExL.renS (v := nI (prs tb t).1) (N := t) sg rfl rfl sg_sh sg_in sg_rr ?_
    obtain ⟨J, hJ⟩ : ∃ J : aI, J = fun a j => if (a = 11 ∧ 5 ≤ j) ∨ (a = 12 ∧ 6 ≤ j) then 0 else I' (sg a) j := ⟨_, rfl⟩
    have jo : ∀ a, a ≠ 11 → a ≠ 12 → J a = I' (sg a) := fun a x y => by
      rw [hJ]; funext j
      show (if _ then _ else _) = _
      rw [if_neg (by omega)]
    have j11 : ∀ j, J 11 j = if j < 5 then I' 11 j else 0 := fun j => by
      rw [hJ]
      show (if _ then _ else _) = _
      by_cases h5 : j < 5
      · rw [if_neg (by omega), if_pos h5]; rfl
      · rw [if_pos (by omega), if_neg h5]
    have j12 : ∀ j, J 12 j = if j < 6 then I' 12 j else 0 := fun j => by
      rw [hJ]
      show (if _ then _ else _) = _
      by_cases h5 : j < 6
      · rw [if_neg (by omega), if_pos h5]; rfl
      · rw [if_pos (by omega), if_neg h5]
    have e37 : J 37 = I 37 := by rw [jo 37 (by decide) (by decide)]; exact i1 37 (by decide) (by decide)
    have e36 : J 36 = I 36 := by rw [jo 36 (by decide) (by decide)]; exact i1 36 (by decide) (by decide)
    refine ExL.nrm (I' := J) (fun a kn hkn => ?_) ?_
    · by_cases x : a = 11
      · subst x
        cases hkn
        exact ⟨fun q => absurd q (by decide), fun j hj => by rw [j11 j, if_pos hj]; rfl⟩
      · by_cases y : a = 12
        · subst y
          cases hkn
          exact ⟨fun q => absurd q (by decide), fun j hj => by rw [j12 j, if_pos hj]; rfl⟩
        · exact ⟨fun _ => jo a x y, fun j _ => by rw [jo a x y]⟩
    refine ExL.aload_n (pc := 274) (i := 2) dL_274 rfl rfl ?_
    refine ExL.callV (pc := 275) (As := []) (rest := [.int (nI (prs tb t).1)]) dL_275 cL_27 (tm_chapel (tb := tb) (n := t) (bk := bk) (b := 1 - bk) (fun j hj => by rw [e37]; exact c4 j hj) t16 (by rw [e36]; exact c2) hbk (by rw [e36]; exact h13) rfl) rfl rfl rfl (by decide) hk hn (Nat.le_of_ble_eq_true rfl) (Or.inl ?_) ?_
    · rintro r S' ⟨_, _, rfl, -⟩; rfl
    rintro r S' ⟨I2, L2, rfl, hq⟩ - -
    rcases hq with ⟨e', he', -⟩ | ⟨t', c', he', rfl, hF, m1, m10, m11, m13, m54, m62, m6, m63, m64, m67, m68, m65, m66, hPM, hCM, hc16⟩
    · rw [he] at he'; cases he'
    · rw [he] at he'
      cases he'
      refine ExL.icmp_eq (pc := 278) (tgt := 1106) dL_278 (by decide) (fun _ => ?_) (fun q => absurd rfl q)
      exact kk t I2 L2 (rel_chO (N := N) (tb := tb) (p := p) (nh := nh) g2 g4 hbk rfl t16 hV i1 i0 ia ib ic id' ie if' i19 i23 i26 i30 hpo hpx jo j11 j12 (fun a ha h => by show chL L (sg a) = L a; unfold sg; rw [if_neg h]; exact chL_lo ha) hF m1 m10 m11 m13 m54 m62 m6 m63 m64 m67 m68 m65 m66 hPM hCM hc16)
