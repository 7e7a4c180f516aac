/-! the law's calls -/
theorem aZsL {p : Program} {s : State} {m : MethodId} {meth : Method} {c : Code} {b len : Nat} {xs : Nat → Int32} {G : aG} (C : LC p s m meth c b len xs G) {ρ : List Nat} {S : aS} {H : Heap} {locs : List Loc} (hR : aRep G (aLo s) ρ S H) (hS : va_S (aLo s) s.heap H locs) {U : State} (hU : U.heap = H) (hW : s.WarmedH U.vm) : aZs (va_A (aW G ρ S) H.size) U U.heap := by
  refine C.2.2.mv hW (fun a ha hn => by rw [hU]; exact hS.2.1 a ha hn) ?_
  rintro q (⟨j, x, hj⟩ | hq)
  · exact hR.2.2.2.2 j _ hj
  · exact Nat.le_trans hS.1 hq
theorem aws_L {mi' : aM} {args : Array Value} {s : State} (hts : ∀ w ∈ GW, w.before args s = true) (h : Cond.code mi'.1 mi'.2.1 mi'.2.2.1 mi'.2.2.2 ∈ GW) : ∀ w ∈ aws mi', ∀ (a' : Array Value) (U : State), s.WarmedH U.vm → w.before a' U = true := by
  intro w hw a' U hW
  rcases List.mem_cons.mp hw with rfl | hw
  · exact GW_mv h hW (hts _ h)
  · exact GW_mv hw hW (hts _ hw)
theorem aVo_map (b : Nat) (ρ : List Nat) (l : List Value) : (l.map some).map (aVo b ρ) = l.map (aV ρ) := by rw [List.map_map]; rfl
theorem aOnL {mc' ms' : Nat} {mi' : aM} {len : Nat} {xs : Nat → Int32} {k n pc : Nat} {ls : aLs} {st0 rest : List Value} {S : aS} {Q' : aQ} {p : Program} {l : Launch} {e : Env} {s : State} {m : MethodId} {below : List Frame} {meth : Method} {c : Code} {b : Nat} {G : aG} (C : LC p s m meth c b len xs G)
    {H : Heap} {ρ : List Nat} {cs : Array Slot} (hR : aRep G (aLo s) ρ S H) (hS : va_S (aLo s) s.heap H []) (hL : aHl ρ b ls cs) {av : Array Value}
    (hext : (∀ r S', Q' r S' → S'.1.length = S.1.length) ∨ (aOkS S.1.length rest ∧ aOkL S.1.length ls))
    (hr : va_Run p l e room_1 s m #[Value.ref b] below meth c H [] k n mc' ms' (F0 m pc cs st0) (rest.map (aV ρ)) (aQc G (va_A (aW G ρ S) H.size) ρ Q' (aKd mi'.2.2.2) av) (va_A (aW G ρ S) H.size))
    (kk : ∀ r S', Q' r S' → (aKd mi'.2.2.2 = 0 → r = none) → (aKd mi'.2.2.2 = 1 → ∃ x, r = some (.int x)) → ExL len xs (k + mc') (n + ms') (pc + 3) ls ((r.toList ++ rest).map some) S') :
    W p l e room_1 s m #[Value.ref b] below meth c H [] k n (lw_Z below #[Value.ref b] s) (F0 m pc cs st0) := by
  have hF : ∀ q, va_A (aW G ρ S) H.size q → aLo s q := by
    rintro q (⟨j, x, hj⟩ | hq)
    · exact hR.2.2.2.2 j _ hj
    · exact Nat.le_trans hS.1 hq
  have hgo : ∀ (r : Option Value) (u : List Nat × aS) (t : State) (H1 : Heap) (locs1 : List Loc), t.heap = H1 → Q' r u.2 → ρ <+: u.1 → (aKd mi'.2.2.2 = 0 → r = none) → (aKd mi'.2.2.2 = 1 → ∃ x, r = some (.int x)) → aB G (va_A (aW G ρ S) H.size) u t → va_S (aLo s) s.heap H1 locs1 → (∀ ρ', r.toList.map (aV ρ') = r.toList) → W p l e room_1 s m #[Value.ref b] below meth c H1 locs1 (k + mc') (n + ms') (lw_Z below #[Value.ref b] s) (F0 m (pc + 3) cs (r.toList ++ rest.map (aV ρ))) := by
    intro r u t H1 locs1 ht hq hp hk0 hk1 hB hS1 hrv
    obtain ⟨ρ', S'⟩ := u
    obtain ⟨⟨hρ', hok', hP', hD'⟩, -⟩ := hB
    rw [ht] at hP'
    have hD2 : va_D (aLo s) (aW G ρ' S') := hD'.weaken (fun _ _ _ h => hF _ h)
    have key : rest.map (aV ρ') = rest.map (aV ρ) ∧ aHl ρ' b ls cs := by
      rcases hext with h | ⟨h1, h2⟩
      · have e : ρ' = ρ := (hp.eq_of_length (by rw [hR.1, hρ']; exact (h r S' hq).symm)).symm
        subst e
        exact ⟨rfl, hL⟩
      · exact ⟨aV_exts hp (by rw [hR.1]; exact h1), aHl.of (aHas_ext hp (by rw [hR.1]; exact h2) hL.has) hL.b⟩
    refine va_forget (fun q hq => hS1.2.2 q hq) ?_
    have K := kk r S' hq hk0 hk1 p l e s m below meth c b G C H1 ρ' cs ⟨hρ', hok', hP', hD2⟩ ⟨hS1.1, hS1.2.1, fun q hq => by cases hq⟩ key.2
    rw [aVo_map, List.map_append, hrv, key.1] at K
    exact K
  generalize hkd : aKd mi'.2.2.2 = kd at hr hgo
  match kd, hr with
  | 0, hr => exact va_callv (a := av) hr hS (fun q _ h => hF q h) hF (fun u t H1 locs1 ht hvm hw hB hz1 hk1 hS1 => hgo none u t H1 locs1 ht hw.1 hw.2 (fun _ => rfl) (fun h => absurd h (by decide)) hB hS1 (fun _ => rfl))
  | 1, hr => exact va_calli (a := av) hr hS (fun q _ h => hF q h) hF (fun r u t H1 locs1 ht hvm hw hB hz1 hk1 hS1 => hgo (some (.int r)) u t H1 locs1 ht hw.1 hw.2 (fun h => absurd h (by decide)) (fun _ => ⟨r, rfl⟩) hB hS1 (fun _ => rfl))
  | j + 2, hr => exact va_calll (a := av) hr hS (fun q _ h => hF q h) hF (fun r u t H1 locs1 ht hvm hw hB hz1 hk1 hS1 => hgo (some (.long r)) u t H1 locs1 ht hw.1 hw.2 (fun h => absurd h (by omega)) (fun h => absurd h (by omega)) hB hS1 (fun _ => rfl))
section EXLC
variable {d' mc' ms' : Nat} {mi' : aM} {len : Nat} {xs : Nat → Int32} {k n pc : Nat} {ls : aLs} {st : List (Option Value)} {rest : List Value} {S : aS} {Q' : aQ}
theorem ExL.callV {idx ci np b0 z : Nat} {As : List Value} (hd : decode code pc = .ok (.invokevirtual idx, 3)) (hc : aCv R_law idx ci mi' np) (hrun : Run d' mc' ms' mi' (.ref b0 :: As) S Q') (hb : S.1[b0]? = some (ci, z)) (hst : st = (As.reverse ++ .ref b0 :: rest).map some) (hn : As.length = np) (hdd : d' ≤ 80) (h1 : k + mc' ≤ 600000) (h2 : n + ms' ≤ 7302250) (hW : (rest.map fun v => v.category).sum ≤ 8)
    (hext : (∀ r S', Q' r S' → S'.1.length = S.1.length) ∨ (aOkS S.1.length rest ∧ aOkL S.1.length ls))
    (kk : ∀ r S', Q' r S' → (aKd mi'.2.2.2 = 0 → r = none) → (aKd mi'.2.2.2 = 1 → ∃ x, r = some (.int x)) → ExL len xs (k + mc') (n + ms') (pc + 3) ls ((r.toList ++ rest).map some) S') : ExL len xs k n pc ls st S := by
  intro p l e s m below meth c b G C H ρ cs hR hS hL
  obtain ⟨⟨w1, w2, w3, hdn, hml⟩, w4, w5, T, N, hcl⟩ := hc
  have hts := C.1.2.2.2.2.2.1
  have ok : ∀ w ∈ GW, w.before #[Value.ref b] s = true := fun w h => hts w (GW_tbl h)
  subst hst
  rw [aVo_map]
  have hobj := aObj (G := G) (ρ := ρ) (sh := S.1) (I := S.2.1) (L := S.2.2.1) (R := S.2.2.2) hcl hb
  refine aOnL (av := (Value.ref (ρ.getD b0 0) :: As.map (aV ρ)).toArray) (rest := rest) (mi' := mi') (Q' := Q') C hR hS hL hext ?_ kk
  refine va_runV (As := As.map (aV ρ)) (b := ρ.getD b0 0) (rest := rest.map (aV ρ)) (own := R_law) (Ts := lw_tbl) ⟨C.1.1, C.1.2.1, C.1.2.2.2.1, C.1.2.2.2.2.1, hts⟩ (hrun l G ρ H.size) (C := mi'.1.cls) (n := np) (bytes := mi'.2.1) (maxL := mi'.2.2.1) (ret := mi'.2.2.2) ⟨⟨rfl, rfl, ?_, ?_, aws_L ok w1, List.mem_cons_self, ok _ w1, ok _ w3, ⟨hdn.1, hdn.2.1⟩, sig_len hdn.2.2, ok _ w2⟩, ok _ w4, ok _ w5⟩ ⟨aPc_blind, ?_, fun U hU hW => ?_⟩ rfl (by rw [List.length_map]; exact hn) hL.1 ?_ ?_ hd ⟨h1, h2⟩
  · show d' + 1 ≤ 2048
    omega
  · show 8 + (mi'.2.2.1 + 11) + 64 * d' ≤ 84000
    omega
  · exact va_recv C.2.1 hR.2.2.1 hcl hobj
  · refine ⟨rfl, by rw [hU], ⟨hR.1, hR.2.1, by rw [hU]; exact hR.2.2.1, hR.2.2.2.weaken (fun _ _ _ _ => trivial)⟩, va_K.moved hW.alike C.2.1, aZsL C hR hS hU hW⟩
  · show (As.reverse ++ .ref b0 :: rest).map (aV ρ) = _
    rw [List.map_append, List.map_reverse]; rfl
  · rw [aCat]; show 2 * 0 + _ ≤ 8; omega
theorem ExL.callI {idx np b0 : Nat} {As : List Value} (hd : decode code pc = .ok (.invokespecial idx, 3)) (hc : aCi R_law idx mi' np) (hrun : Run d' mc' ms' mi' (.ref b0 :: As) S Q') (hst : st = (As.reverse ++ .ref b0 :: rest).map some) (hn : As.length = np) (hdd : d' ≤ 80) (h1 : k + mc' ≤ 600000) (h2 : n + ms' ≤ 7302250) (hW : (rest.map fun v => v.category).sum ≤ 8)
    (hext : (∀ r S', Q' r S' → S'.1.length = S.1.length) ∨ (aOkS S.1.length rest ∧ aOkL S.1.length ls))
    (kk : ∀ S', Q' none S' → ExL len xs (k + mc') (n + ms') (pc + 3) ls (rest.map some) S') : ExL len xs k n pc ls st S := by
  intro p l e s m below meth c b G C H ρ cs hR hS hL
  obtain ⟨⟨w1, w2, w3, hdn, hml⟩, w4, w5, w6⟩ := hc
  have hts := C.1.2.2.2.2.2.1
  have ok : ∀ w ∈ GW, w.before #[Value.ref b] s = true := fun w h => hts w (GW_tbl h)
  subst hst
  rw [aVo_map]
  refine aOnL (av := (Value.ref (ρ.getD b0 0) :: As.map (aV ρ)).toArray) (rest := rest) (mi' := mi') (Q' := Q') C hR hS hL hext ?_ (fun r S' hq hk0 _ => by have e := hk0 (by rw [w6]; rfl); subst e; exact kk S' hq)
  have hws : aws mi' = Cond.code mi'.1 mi'.2.1 mi'.2.2.1 none :: GW := by unfold aws; rw [w6]
  refine va_runI (As := As.map (aV ρ)) (b := ρ.getD b0 0) (rest := rest.map (aV ρ)) (own := R_law) (Ts := lw_tbl) ⟨C.1.1, C.1.2.1, C.1.2.2.2.1, C.1.2.2.2.2.1, hts⟩ (hrun l G ρ H.size) (n := np) (bytes := mi'.2.1) (maxL := mi'.2.2.1) ⟨⟨rfl, rfl, ?_, ?_, aws_L ok w1, by rw [hws]; exact List.mem_cons_self, by have := ok _ w1; rw [w6] at this; exact this, ok _ w3, ⟨hdn.1, hdn.2.1⟩, sig_len hdn.2.2, ok _ w2⟩, w5, ok _ w4⟩ ⟨aPc_blind, fun U hU hW => ?_⟩ rfl (by rw [List.length_map]; exact hn) hL.1 ?_ ?_ hd ⟨h1, h2⟩
  · show d' + 1 ≤ 2048
    omega
  · show 8 + (mi'.2.2.1 + 11) + 64 * d' ≤ 84000
    omega
  · refine ⟨rfl, by rw [hU], ⟨hR.1, hR.2.1, by rw [hU]; exact hR.2.2.1, hR.2.2.2.weaken (fun _ _ _ _ => trivial)⟩, va_K.moved hW.alike C.2.1, aZsL C hR hS hU hW⟩
  · show (As.reverse ++ .ref b0 :: rest).map (aV ρ) = _
    rw [List.map_append, List.map_reverse]; rfl
  · rw [aCat]; show 2 * 0 + _ ≤ 8; omega
end EXLC
section EXLN
variable {len : Nat} {xs : Nat → Int32} {k n pc : Nat} {ls : aLs} {st : List Value} {sh : aSh} {I : aI} {L : aL} {R : aR}
set_option maxRecDepth 20000 in
theorem ExL.new {idx ci h : Nat} (hlen : sh.length = h) (hd : decode code pc = .ok (.new idx, 3)) (hc : aNw R_law idx ci) (h1 : k + 1 ≤ 600000) (h2 : n + cN ci ≤ 7302250) (hst : aOkS h st) (hls : aOkL h ls)
    (kk : ExL len xs (k + 1) (n + cN ci) (pc + 3) ls ((.ref h :: st).map some) (sh ++ [(ci, 0)], va_up I h (fun _ => 0), va_up L h (fun _ => 0), va_up R h (fun _ => none))) : ExL len xs k n pc ls (st.map some) (sh, I, L, R) := by
  subst hlen
  intro p l e s m below meth c b G C H ρ cs hR hS hL
  obtain ⟨CN, T, N, hc, hw1, hw2, hw3⟩ := hc
  obtain ⟨hN, hty, hnm, hin, h11⟩ := acl_ok ci CN T N hc
  subst hN
  have hts := C.1.2.2.2.2.2.1
  have ok : ∀ w ∈ GW, w.before #[Value.ref b] s = true := fun w h => hts w (GW_tbl h)
  have hρ : ρ.length = sh.length := hR.1
  rw [aVo_map]
  refine va_new (fs := aFs ρ (va_up I sh.length (fun _ => 0)) (va_up L sh.length (fun _ => 0)) (va_up R sh.length (fun _ => none)) sh.length ci) C.1.1 C.1.2.1 ok hin (cT ci) hty C.1.2.2.2.2.1 (ok _ hw1) (ok _ hw2) (ok _ hw3) C.2.1 hR.2.2.1 hR.2.2.2 hS (fun q hq => hq) hc (fun j hj => ?_) h1 h2 hd (fun q H1 hP1 hD1 hS1 => ?_)
  · rw [vp_V, List.getD_eq_getElem?_getD, aFs_get hj]
    obtain ⟨f1, f2⟩ := cT_ok ci h11 j hj
    show _ = aFv _ _ _ _ _ _ _
    cases hct : cT ci j <;> first | (exact absurd hct f1) | (exact absurd hct f2) | simp [aFv, va_up, defaultValue, va_rf]
  have hp : ρ <+: ρ ++ [q] := List.prefix_append _ _
  have hr : ∀ i k b, R i k = some b → b < ρ.length := fun i k b h => by rw [hρ]; exact hR.2.1 i k b h
  rw [aW_push (kn := (ci, 0)) (I' := va_up I sh.length (fun _ => 0)) (L' := va_up L sh.length (fun _ => 0)) (R' := va_up R sh.length (fun _ => none)) hρ (by
      rw [aCell_o h11]
      congr 2
      unfold aFs
      congr 1
      funext k
      exact aFv_ext hp (fun b hb => by rw [va_up_s] at hb; cases hb)) (fun i kn' hi => aCell_ext hp (hr i) (va_up_n (by omega)) (va_up_n (by omega)) (va_up_n (by omega)))] at hP1 hD1
  have K := kk p l e s m below meth c b G C H1 (ρ ++ [q]) cs ⟨by simp [hρ], fun i j b hb => by
      have hb : va_up R sh.length (fun _ => none) i j = some b := hb
      by_cases hi : i = sh.length
      · subst hi; rw [va_up_s] at hb; cases hb
      · rw [va_up_n hi] at hb
        have h5 : b < sh.length := hR.2.1 i j b hb
        simp only [List.length_append, List.length_singleton]; omega, hP1, hD1⟩ hS1 (aHl.of (aHas_ext hp (by rw [hρ]; exact hls) hL.has) hL.b)
  have e5 : (Value.ref sh.length :: st).map (aV (ρ ++ [q])) = .ref q :: st.map (aV ρ) := by
    rw [List.map_cons, aV_exts hp (by rw [hρ]; exact hst)]
    simp [aV, List.getD_eq_getElem?_getD, ← hρ]
  rw [aVo_map, e5] at K
  exact K
/-- a world told anew by other numbers -/
theorem aRep_ren {G : aG} {A : Nat → Prop} {ρ : List Nat} {H : Heap} {sh' : aSh} {R' : aR} (σ : Nat → Nat) (hR : aRep G A ρ (sh, I, L, R) H) (hs : ∀ i, i < sh'.length → sh[σ i]? = sh'[i]?) (hin : ∀ i j, i < sh'.length → j < sh'.length → σ i = σ j → i = j) (hok : aRok (sh', fun i => I (σ i), fun i => L (σ i), R')) (hr : ∀ (i : Nat) (kn : Nat × Nat), sh'[i]? = some kn → kn.1 < 11 → ∀ k, k < cN kn.1 → R (σ i) k = (R' i k).map σ) :
    aRep G A ((List.range sh'.length).map fun i => ρ.getD (σ i) 0) (sh', fun i => I (σ i), fun i => L (σ i), R') H := by
  obtain ⟨h1, h2, h3, h4⟩ := hR
  have hg : ∀ j, j < sh'.length → ((List.range sh'.length).map fun i => ρ.getD (σ i) 0).getD j 0 = ρ.getD (σ j) 0 := fun j hj => by
    rw [List.getD_eq_getElem?_getD, List.getElem?_map, List.getElem?_range hj]; rfl
  have hw : ∀ (i : Nat) (q : Nat × va_E), (aW G ((List.range sh'.length).map fun i => ρ.getD (σ i) 0) (sh', fun i => I (σ i), fun i => L (σ i), R'))[i]? = some q → i < sh'.length ∧ (aW G ρ (sh, I, L, R))[σ i]? = some q := fun i q hq => by
    have hi : i < sh'.length := by
      have := (List.getElem?_eq_some_iff.mp hq).1
      rw [aW_len] at this; exact this
    have hkn : sh'[i]? = some sh'[i] := List.getElem?_eq_getElem hi
    rw [aW_get (S := (sh', fun i => I (σ i), fun i => L (σ i), R')) hkn] at hq
    refine ⟨hi, ?_⟩
    rw [aW_get (S := (sh, I, L, R)) ((hs i hi).trans hkn), ← hq, hg i hi]
    congr 2
    unfold aCell
    split
    · next hk =>
      congr 2
      unfold aFs
      refine List.map_congr_left (fun k hk2 => ?_)
      have hk2 := List.mem_range.mp hk2
      have e := hr i _ hkn hk k hk2
      have e3 : ((R (σ i) k).map fun b => ρ.getD b 0) = ((R' i k).map fun b => ((List.range sh'.length).map fun i => ρ.getD (σ i) 0).getD b 0) := by
        rw [e]
        cases hb : R' i k with
        | none => rfl
        | some b =>
          exact (congrArg some (hg b (hok i k b hb))).symm
      show aFv _ _ _ _ _ _ _ = aFv _ _ _ _ _ _ _
      cases cT sh'[i].1 k <;> first | rfl | (simp only [aFv]; rw [e3])
    · rfl
  refine ⟨by simp, hok, fun i q hq => h3 (σ i) q (hw i q hq).2, fun i j p q hp hq e => ?_, fun i q hq => h4.2 (σ i) q (hw i q hq).2⟩
  obtain ⟨a1, a2⟩ := hw i p hp
  obtain ⟨b1, b2⟩ := hw j q hq
  exact hin i j a1 b1 (h4.1 _ _ p q a2 b2 e)
theorem ExL.ren {sh' : aSh} {R' : aR} {ls' : aLs} {st' : List (Option Value)} {st0 : List (Option Value)} (σ : Nat → Nat) (hs : ∀ i, i < sh'.length → sh[σ i]? = sh'[i]?) (hin : ∀ i j, i < sh'.length → j < sh'.length → σ i = σ j → i = j) (hok : aRok (sh', fun i => I (σ i), fun i => L (σ i), R')) (hr : ∀ (i : Nat) (kn : Nat × Nat), sh'[i]? = some kn → kn.1 < 11 → ∀ k, k < cN kn.1 → R (σ i) k = (R' i k).map σ)
    (hst : ∀ b ρ ρ', (∀ j, j < sh'.length → ρ'.getD j 0 = ρ.getD (σ j) 0) → st'.map (aVo b ρ') = st0.map (aVo b ρ)) (hls : ∀ (i : Nat) (v : Value), ls'[i]? = some (some v) → ∃ u, ls[i]? = some (some u) ∧ ∀ ρ ρ' : List Nat, (∀ j, j < sh'.length → ρ'.getD j 0 = ρ.getD (σ j) 0) → aV ρ' v = aV ρ u)
    (kk : ExL len xs k n pc ls' st' (sh', fun i => I (σ i), fun i => L (σ i), R')) : ExL len xs k n pc ls st0 (sh, I, L, R) := by
  intro p l e s m below meth c b G C H ρ cs hR hS hL
  have hg : ∀ j, j < sh'.length → ((List.range sh'.length).map fun i => ρ.getD (σ i) 0).getD j 0 = ρ.getD (σ j) 0 := fun j hj => by
    rw [List.getD_eq_getElem?_getD, List.getElem?_map, List.getElem?_range hj]; rfl
  have K := kk p l e s m below meth c b G C H _ cs (aRep_ren σ hR hs hin hok hr) hS (aHl.of ⟨hL.1, hL.2.1, fun q hq => ?_⟩ hL.b)
  · rw [hst b ρ _ hg] at K
    exact K
  · obtain ⟨j, x⟩ := q
    obtain ⟨v, h1, rfl⟩ := aAs_mem.mp hq
    obtain ⟨u, h2, h3⟩ := hls j v h1
    rw [h3 ρ _ hg]
    exact hL.has.at h2
end EXLN
