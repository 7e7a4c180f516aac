/-! new cells, copies, min and max, calls -/
def aOk (n : Nat) : Value → Prop
  | .ref a => a < n
  | _ => True
def aOkS (n : Nat) (st : List Value) : Prop := ∀ v ∈ st, aOk n v
def aOkL (n : Nat) (ls : aLs) : Prop := ∀ (i : Nat) (v : Value), ls[i]? = some (some v) → aOk n v
theorem aV_ext {ρ ρ' : List Nat} {v : Value} (hp : ρ <+: ρ') (h : aOk ρ.length v) : aV ρ' v = aV ρ v := by
  cases v <;> first | rfl | skip
  rename_i a
  obtain ⟨t, rfl⟩ := hp
  have h : a < ρ.length := h
  simp only [aV]
  rw [List.getD_eq_getElem?_getD, List.getD_eq_getElem?_getD, List.getElem?_append_left h]
theorem aV_exts {ρ ρ' : List Nat} {st : List Value} (hp : ρ <+: ρ') (h : aOkS ρ.length st) : st.map (aV ρ') = st.map (aV ρ) := List.map_congr_left fun v hv => aV_ext hp (h v hv)
theorem aHas_ext {ρ ρ' : List Nat} {ls : aLs} {cs : Array Slot} {nL : Nat} (hp : ρ <+: ρ') (h : aOkL ρ.length ls) (hL : aHas ρ ls cs nL) : aHas ρ' ls cs nL := by
  refine ⟨hL.1, hL.2.1, fun q hq => ?_⟩
  obtain ⟨j, x⟩ := q
  obtain ⟨u, h1, rfl⟩ := aAs_mem.mp hq
  have e := hL.at h1
  rw [← aV_ext hp (h j u h1)] at e
  exact e
theorem aFv_ext {ρ ρ' : List Nat} {I : aI} {L : aL} {R : aR} {i k : Nat} {t : FieldType} (hp : ρ <+: ρ') (h : ∀ b, R i k = some b → b < ρ.length) : aFv ρ' I L R i k t = aFv ρ I L R i k t := by
  have e : ((R i k).map fun b => ρ'.getD b 0) = ((R i k).map fun b => ρ.getD b 0) := by
    cases hr : R i k with
    | none => rfl
    | some b =>
      obtain ⟨t, rfl⟩ := hp
      simp only [Option.map_some]
      rw [List.getD_eq_getElem?_getD, List.getD_eq_getElem?_getD, List.getElem?_append_left (h b hr)]
  cases t <;> first | rfl | (simp only [aFv]; rw [e])
theorem aCell_ext {G : aG} {ρ ρ' : List Nat} {I I' : aI} {L L' : aL} {R R' : aR} {i : Nat} {kn : Nat × Nat} (hp : ρ <+: ρ') (h : ∀ k b, R i k = some b → b < ρ.length) (h1 : I' i = I i) (h2 : L' i = L i) (h3 : R' i = R i) : aCell G ρ' I' L' R' i kn = aCell G ρ I L R i kn := by
  rw [aCell_c h1 h2 h3]
  unfold aCell aFs
  have e : (fun k => aFv ρ' I L R i k (cT kn.1 k)) = (fun k => aFv ρ I L R i k (cT kn.1 k)) := by
    funext k
    exact aFv_ext hp (h k)
  rw [e]
theorem cT_ok : ∀ ci, ci < 11 → ∀ j, j < cN ci → ¬ cT ci j = .float ∧ ¬ cT ci j = .double := by decide +kernel
section EXN
variable {d mc ms : Nat} {mi : aM} {k n pc : Nat} {ls : aLs} {st : List Value} {sh : aSh} {I : aI} {L : aL} {R : aR} {Q : aQ}
theorem aNewX {t N : Nat} {ty : FieldType} {x : Int32} {aty : ArrayType} {I' : aI} {L' : aL} {a0 : vp_A} (hd : decode mi.2.1 pc = .ok (.newarray aty, 2)) (hty : newarray.typeOf aty = ty) (hw : Cond.arrayClass (newarray.typeOf aty) ∈ GW) (htt : ∀ G : aG, (atys G)[t]? = some (G.2 t, ty)) (hra : ∀ (U : State) (c : ClassId), va_RA U c ty → U.vm.findClass ("[" ++ ty.toString) = some c)
    (ha : ∀ cA : ClassId, vp_cell cA a0 = arrV cA N (fun _ => defaultValue ty)) (hx : ¬ x < 0) (hN : x.toNatClampNeg = N) (hsz : N ≤ 1000000) (hcb : componentBytes ty ≤ 8) (h1 : k + 1 ≤ mc) (h2 : n + N ≤ ms) (hst : aOkS sh.length st) (hls : aOkL sh.length ls)
    (hI : ∀ i, i < sh.length → I' i = I i) (hL' : ∀ i, i < sh.length → L' i = L i) (hcell : ∀ (G : aG) (ρ : List Nat), aCell G ρ I' L' R sh.length (11 + t, N) = .inl (G.2 t, a0))
    (kk : Ex d mc ms mi (k + 1) (n + N) (pc + 2) ls (.ref sh.length :: st) (sh ++ [(11 + t, N)], I', L', R) Q) : Ex d mc ms mi k n pc ls (.int x :: st) (sh, I, L, R) Q := by
  intro p l e s m args below meth c G A ρ0 C H locs ρ cs h0 hR hS hL
  refine va_newa C.1 C.2.1 (C.2.2.2.2.2.1 _ (List.mem_cons_of_mem _ hw)) hty C.2.2.2.2.2.2.2.2.1 hR.2.2.1 hR.2.2.2 hS C.2.2.2.2.2.2.2.2.2.1 ha hx hN (Nat.le_trans (Nat.mul_le_mul hsz hcb) (by decide)) h1 h2 hd (fun q cA H1 hK1 hP1 hD1 hS1 => ?_)
  have e1 := hra s cA (hK1.2 (atys G).length (cA, ty) (by simp)).2
  have e2 := hra s (G.2 t) (C.2.2.2.2.2.2.2.2.1.2 t _ (htt G)).2
  have e3 : cA = G.2 t := Option.some.inj (e1.symm.trans e2)
  subst e3
  have hρ : ρ.length = sh.length := hR.1
  have hp : ρ <+: ρ ++ [q] := List.prefix_append _ _
  have hr : ∀ i k b, R i k = some b → b < ρ.length := fun i k b h => by rw [hρ]; exact hR.2.1 i k b h
  rw [aW_push (kn := (11 + t, N)) (I' := I') (L' := L') (R' := R) hρ (hcell G _) (fun i kn' hi => aCell_ext hp (hr i) (hI i hi) (hL' i hi) rfl)] at hP1 hD1
  have K := kk p l e s m args below meth c G A ρ0 C H1 locs (ρ ++ [q]) cs (h0.trans hp) ⟨by simp [hρ], fun i j b hb => by have h5 : b < sh.length := hR.2.1 i j b hb; simp only [List.length_append, List.length_singleton]; omega, hP1, hD1⟩ hS1 (aHas_ext hp (by rw [hρ]; exact hls) hL)
  have e5 : (Value.ref sh.length :: st).map (aV (ρ ++ [q])) = .ref q :: st.map (aV ρ) := by
    rw [List.map_cons, aV_exts hp (by rw [hρ]; exact hst)]
    simp [aV, List.getD_eq_getElem?_getD, ← hρ]
  rw [e5] at K
  exact K
/-- a new row of ints (t = 0), bytes (1), booleans (2) -/
theorem Ex.newI {N : Nat} {x : Int32} (hd : decode mi.2.1 pc = .ok (.newarray .int, 2)) (hx : ¬ x < 0) (hN : x.toNatClampNeg = N) (hsz : N ≤ 1000000) (h1 : k + 1 ≤ mc) (h2 : n + N ≤ ms) (hst : aOkS sh.length st) (hls : aOkL sh.length ls)
    (kk : Ex d mc ms mi (k + 1) (n + N) (pc + 2) ls (.ref sh.length :: st) (sh ++ [(11, N)], va_up I sh.length (fun _ => 0), L, R) Q) : Ex d mc ms mi k n pc ls (.int x :: st) (sh, I, L, R) Q :=
  aNewX (t := 0) (ty := .int) (a0 := (N, .inl (fun _ => 0))) hd rfl (by decide +kernel) (fun _ => rfl) (fun _ _ h => h) (fun _ => rfl) hx hN hsz (by decide) h1 h2 hst hls (fun i hi => va_up_n (by omega)) (fun _ _ => rfl) (fun G ρ => by rw [aCell_a (t := 0) (by decide), va_up_s]) kk
theorem Ex.newB {N : Nat} {x : Int32} (hd : decode mi.2.1 pc = .ok (.newarray .byte, 2)) (hx : ¬ x < 0) (hN : x.toNatClampNeg = N) (hsz : N ≤ 1000000) (h1 : k + 1 ≤ mc) (h2 : n + N ≤ ms) (hst : aOkS sh.length st) (hls : aOkL sh.length ls)
    (kk : Ex d mc ms mi (k + 1) (n + N) (pc + 2) ls (.ref sh.length :: st) (sh ++ [(12, N)], va_up I sh.length (fun _ => 0), L, R) Q) : Ex d mc ms mi k n pc ls (.int x :: st) (sh, I, L, R) Q :=
  aNewX (t := 1) (ty := .byte) (a0 := (N, .inl (fun _ => 0))) hd rfl (by decide +kernel) (fun _ => rfl) (fun _ _ h => h) (fun _ => rfl) hx hN hsz (by decide) h1 h2 hst hls (fun i hi => va_up_n (by omega)) (fun _ _ => rfl) (fun G ρ => by rw [aCell_a (t := 1) (by decide), va_up_s]) kk
theorem Ex.newZ {N : Nat} {x : Int32} (hd : decode mi.2.1 pc = .ok (.newarray .boolean, 2)) (hx : ¬ x < 0) (hN : x.toNatClampNeg = N) (hsz : N ≤ 1000000) (h1 : k + 1 ≤ mc) (h2 : n + N ≤ ms) (hst : aOkS sh.length st) (hls : aOkL sh.length ls)
    (kk : Ex d mc ms mi (k + 1) (n + N) (pc + 2) ls (.ref sh.length :: st) (sh ++ [(13, N)], va_up I sh.length (fun _ => 0), L, R) Q) : Ex d mc ms mi k n pc ls (.int x :: st) (sh, I, L, R) Q :=
  aNewX (t := 2) (ty := .boolean) (a0 := (N, .inl (fun _ => 0))) hd rfl (by decide +kernel) (fun _ => rfl) (fun _ _ h => h) (fun _ => rfl) hx hN hsz (by decide) h1 h2 hst hls (fun i hi => va_up_n (by omega)) (fun _ _ => rfl) (fun G ρ => by rw [aCell_a (t := 2) (by decide), va_up_s]) kk
theorem Ex.newL {N : Nat} {x : Int32} (hd : decode mi.2.1 pc = .ok (.newarray .long, 2)) (hx : ¬ x < 0) (hN : x.toNatClampNeg = N) (hsz : N ≤ 1000000) (h1 : k + 1 ≤ mc) (h2 : n + N ≤ ms) (hst : aOkS sh.length st) (hls : aOkL sh.length ls)
    (kk : Ex d mc ms mi (k + 1) (n + N) (pc + 2) ls (.ref sh.length :: st) (sh ++ [(14, N)], I, va_up L sh.length (fun _ => 0), R) Q) : Ex d mc ms mi k n pc ls (.int x :: st) (sh, I, L, R) Q :=
  aNewX (t := 3) (ty := .long) (a0 := (N, .inr (.inl (fun _ => 0)))) hd rfl (by decide +kernel) (fun _ => rfl) (fun _ _ h => h) (fun _ => rfl) hx hN hsz (by decide) h1 h2 hst hls (fun _ _ => rfl) (fun i hi => va_up_n (by omega)) (fun G ρ => by rw [aCell_l, va_up_s]) kk
/-- the class at 'idx' of the pool of 'own' is ci -/
def aNw (own : String) (idx ci : Nat) : Prop := ∃ (C : String) (T : u_T) (N : Nat), acl[ci]? = some (C, T, N) ∧ Cond.classLink own idx C ∈ GW ∧ Cond.instantiable C N ∈ GW ∧ Cond.initialized C ∈ GW
theorem Ex.new {idx ci : Nat} (hd : decode mi.2.1 pc = .ok (.new idx, 3)) (hc : aNw mi.1.cls idx ci) (h1 : k + 1 ≤ mc) (h2 : n + cN ci ≤ ms) (hst : aOkS sh.length st) (hls : aOkL sh.length ls)
    (kk : Ex d mc ms mi (k + 1) (n + cN ci) (pc + 3) ls (.ref sh.length :: st) (sh ++ [(ci, 0)], va_up I sh.length (fun _ => 0), va_up L sh.length (fun _ => 0), va_up R sh.length (fun _ => none)) Q) : Ex d mc ms mi k n pc ls st (sh, I, L, R) Q := by
  intro p l e s m args below meth c G A ρ0 C H locs ρ cs h0 hR hS hL
  obtain ⟨CN, T, N, hc, hw1, hw2, hw3⟩ := hc
  obtain ⟨hN, hty, hnm, hin, h11⟩ := acl_ok ci CN T N hc
  subst hN
  have hρ : ρ.length = sh.length := hR.1
  refine va_new (fs := aFs ρ (va_up I sh.length (fun _ => 0)) (va_up L sh.length (fun _ => 0)) (va_up R sh.length (fun _ => none)) sh.length ci) C.1 C.2.1 C.2.2.2.2.2.1 (fun w h => List.mem_cons_of_mem _ (hin w h)) (cT ci) hty C.2.2.2.2.1 (C.2.2.2.2.2.1 _ (List.mem_cons_of_mem _ hw1)) (C.2.2.2.2.2.1 _ (List.mem_cons_of_mem _ hw2)) (C.2.2.2.2.2.1 _ (List.mem_cons_of_mem _ hw3)) C.2.2.2.2.2.2.2.2.1 hR.2.2.1 hR.2.2.2 hS C.2.2.2.2.2.2.2.2.2.1 hc (fun j hj => ?_) h1 h2 hd (fun q H1 hP1 hD1 hS1 => ?_)
  · rw [vp_V, List.getD_eq_getElem?_getD, aFs_get hj]
    obtain ⟨f1, f2⟩ := cT_ok ci h11 j hj
    show _ = aFv _ _ _ _ _ _ _
    cases hct : cT ci j <;> first | (exact absurd hct f1) | (exact absurd hct f2) | simp [aFv, va_up, defaultValue, va_rf]
  have hp : ρ <+: ρ ++ [q] := List.prefix_append _ _
  have hr : ∀ i k b, R i k = some b → b < ρ.length := fun i k b h => by rw [hρ]; exact hR.2.1 i k b h
  rw [aW_push (kn := (ci, 0)) (I' := va_up I sh.length (fun _ => 0)) (L' := va_up L sh.length (fun _ => 0)) (R' := va_up R sh.length (fun _ => none)) hρ (by
      rw [aCell_o h11]
      congr 2
      unfold aFs
      congr 1
      funext k
      exact aFv_ext hp (fun b hb => by rw [va_up_s] at hb; cases hb)) (fun i kn' hi => aCell_ext hp (hr i) (va_up_n (by omega)) (va_up_n (by omega)) (va_up_n (by omega)))] at hP1 hD1
  have K := kk p l e s m args below meth c G A ρ0 C H1 locs (ρ ++ [q]) cs (h0.trans hp) ⟨by simp [hρ], fun i j b hb => by
      have hb : va_up R sh.length (fun _ => none) i j = some b := hb
      by_cases hi : i = sh.length
      · subst hi; rw [va_up_s] at hb; cases hb
      · rw [va_up_n hi] at hb
        have h5 : b < sh.length := hR.2.1 i j b hb
        simp only [List.length_append, List.length_singleton]; omega, hP1, hD1⟩ hS1 (aHas_ext hp (by rw [hρ]; exact hls) hL)
  have e5 : (Value.ref sh.length :: st).map (aV (ρ ++ [q])) = .ref q :: st.map (aV ρ) := by
    rw [List.map_cons, aV_exts hp (by rw [hρ]; exact hst)]
    simp [aV, List.getD_eq_getElem?_getD, ← hρ]
  rw [e5] at K
  exact K
theorem aCat (ρ : List Nat) (st : List Value) : ((st.map (aV ρ)).map fun v => v.category).sum = (st.map fun v => v.category).sum := by
  rw [List.map_map]
  congr 1
  exact List.map_congr_left fun v _ => aV_cat ρ v
theorem gwCp1 : Cond.native arraycopyName ∈ GW := by decide +kernel
theorem gwCp2 : Cond.static arraycopyName ∈ GW := by decide +kernel
theorem gwCp3 : Cond.initialized "java/lang/System" ∈ GW := by decide +kernel
/-- System.arraycopy between rows of ints -/
theorem Ex.copyI {idx a b N0 N1 : Nat} {sp dp len : Int32} (hd : decode mi.2.1 pc = .ok (.invokestatic idx, 3)) (hw : Cond.methodLink mi.1.cls idx arraycopyName ∈ GW) (ha : sh[a]? = some (11, N0)) (hb : sh[b]? = some (11, N1)) (h1 : ¬ sp < 0) (h2 : ¬ dp < 0) (h3 : ¬ len < 0) (h4 : sp.toNatClampNeg + len.toNatClampNeg ≤ N0) (h5 : dp.toNatClampNeg + len.toNatClampNeg ≤ N1) (hdp : 1 ≤ d) (hW : (st.map fun v => v.category).sum ≤ 8)
    (kk : Ex d mc ms mi k n (pc + 3) ls st (sh, va_up I b (va_cpy (I a) (I b) sp.toNatClampNeg dp.toNatClampNeg len.toNatClampNeg), L, R) Q) : Ex d mc ms mi k n pc ls (.int len :: .int dp :: .ref b :: .int sp :: .ref a :: st) (sh, I, L, R) Q := by
  intro p l e s m args below meth c G A ρ0 C H locs ρ cs h0 hR hS hL
  refine va_copyi C.1 C.2.1 (C.2.2.2.1.trans hL.1.symm) C.2.2.2.2.1 (C.2.2.2.2.2.1 _ (List.mem_cons_of_mem _ hw)) (C.2.2.2.2.2.1 _ (List.mem_cons_of_mem _ gwCp1)) (C.2.2.2.2.2.1 _ (List.mem_cons_of_mem _ gwCp2)) (C.2.2.2.2.2.1 _ (List.mem_cons_of_mem _ gwCp3)) C.2.2.2.2.2.2.2.2.1 hR.2.2.1 hR.2.2.2 hS a b 0 0 (f := I a) (g := I b) (ty := .int) (by rw [aW_get (S := (sh, I, L, R)) ha, aCell_a (t := 0) (by decide)]) (by rw [aW_get (S := (sh, I, L, R)) hb, aCell_a (t := 0) (by decide)]) rfl rfl rfl h1 h2 h3 h4 h5 (fun _ _ => rfl) hdp ?_ hd (fun H1 locs1 hP1 hD1 hS1 => ?_)
  · rw [aCat]
    have : nativeFrameWords "java/lang/System" "arraycopy" 5 = 7 := by decide +kernel
    rw [this]
    show _ ≤ 64 * d
    omega
  · rw [aW_row (t := 0) (by decide) hb] at hP1 hD1
    exact kk p l e s m args below meth c G A ρ0 C H1 locs1 ρ cs h0 ⟨hR.1, hR.2.1, hP1, hD1⟩ hS1 hL
theorem gwMa1 : Cond.static Lib.Math.max.name ∈ GW := by decide +kernel
theorem gwMa2 : Cond.initialized "java/lang/Math" ∈ GW := by decide +kernel
theorem gwMa3 : Cond.code Lib.Math.max.name Lib.Math.max.code 2 (some .int) ∈ GW := by decide +kernel
theorem gwMi1 : Cond.static Lib.Math.min.name ∈ GW := by decide +kernel
theorem gwMi3 : Cond.code Lib.Math.min.name Lib.Math.min.code 2 (some .int) ∈ GW := by decide +kernel
theorem Ex.max {S : aS} {idx : Nat} {x y : Int32} (hd : decode mi.2.1 pc = .ok (.invokestatic idx, 3)) (hw : Cond.methodLink mi.1.cls idx Lib.Math.max.name ∈ GW) (hdp : 1 ≤ d) (hW : (st.map fun v => v.category).sum ≤ 8) (h1 : k ≤ mc) (h2 : n ≤ ms)
    (kk : Ex d mc ms mi k n (pc + 3) ls (.int (if x < y then y else x) :: st) S Q) : Ex d mc ms mi k n pc ls (.int y :: .int x :: st) S Q := by
  intro p l e s m args below meth c G A ρ0 C H locs ρ cs h0 hR hS hL
  exact va_mmax C.1 C.2.1 (C.2.2.2.1.trans hL.1.symm) C.2.2.2.2.1 (C.2.2.2.2.2.1 _ (List.mem_cons_of_mem _ hw)) (C.2.2.2.2.2.1 _ (List.mem_cons_of_mem _ gwMa1)) (C.2.2.2.2.2.1 _ (List.mem_cons_of_mem _ gwMa2)) (C.2.2.2.2.2.1 _ (List.mem_cons_of_mem _ gwMa3)) hdp (by rw [aCat]; show _ ≤ 64 * d; omega) h1 h2 hd (kk p l e s m args below meth c G A ρ0 C H locs ρ cs h0 hR hS hL)
theorem Ex.min {S : aS} {idx : Nat} {x y : Int32} (hd : decode mi.2.1 pc = .ok (.invokestatic idx, 3)) (hw : Cond.methodLink mi.1.cls idx Lib.Math.min.name ∈ GW) (hdp : 1 ≤ d) (hW : (st.map fun v => v.category).sum ≤ 8) (h1 : k ≤ mc) (h2 : n ≤ ms)
    (kk : Ex d mc ms mi k n (pc + 3) ls (.int (if y < x then y else x) :: st) S Q) : Ex d mc ms mi k n pc ls (.int y :: .int x :: st) S Q := by
  intro p l e s m args below meth c G A ρ0 C H locs ρ cs h0 hR hS hL
  exact va_mmin C.1 C.2.1 (C.2.2.2.1.trans hL.1.symm) C.2.2.2.2.1 (C.2.2.2.2.2.1 _ (List.mem_cons_of_mem _ hw)) (C.2.2.2.2.2.1 _ (List.mem_cons_of_mem _ gwMi1)) (C.2.2.2.2.2.1 _ (List.mem_cons_of_mem _ gwMa2)) (C.2.2.2.2.2.1 _ (List.mem_cons_of_mem _ gwMi3)) hdp (by rw [aCat]; show _ ≤ 64 * d; omega) h1 h2 hd (kk p l e s m args below meth c G A ρ0 C H locs ρ cs h0 hR hS hL)
theorem gwOi1 : Cond.instanceMethod Lib.objectInit ∈ GW := by decide +kernel
theorem gwOi2 : Cond.code Lib.objectInit ⟨#[0xb1]⟩ 1 none ∈ GW := by decide +kernel
theorem Ex.objI {S : aS} {idx a : Nat} (hd : decode mi.2.1 pc = .ok (.invokespecial idx, 3)) (hw : Cond.methodLink mi.1.cls idx Lib.objectInit ∈ GW) (hdp : 1 ≤ d) (hW : (st.map fun v => v.category).sum ≤ 8) (kk : Ex d mc ms mi k n (pc + 3) ls st S Q) : Ex d mc ms mi k n pc ls (.ref a :: st) S Q := by
  intro p l e s m args below meth c G A ρ0 C H locs ρ cs h0 hR hS hL
  refine W.objInit C.1 C.2.1 C.2.2.2.2.1 (C.2.2.2.2.2.1 _ (List.mem_cons_of_mem _ hw)) (C.2.2.2.2.2.1 _ (List.mem_cons_of_mem _ gwOi1)) (C.2.2.2.2.2.1 _ (List.mem_cons_of_mem _ gwOi2)) rfl (hL.1.trans C.2.2.2.1.symm) (a := ρ.getD a 0) (rest := st.map (aV ρ)) rfl hd hdp ?_ (kk p l e s m args below meth c G A ρ0 C H locs ρ cs h0 hR hS hL)
  rw [aCat]
  show 2 * 0 + _ + 12 ≤ 64 * d
  omega
end EXN
/-! calls -/
theorem aPc_blind {G : aG} {ρ : List Nat} {av : List Value} {S : aS} {sz : Nat} : FrameBlind (aPc G ρ av S sz) := by
  intro a U g mk h
  obtain ⟨q0, q1, q2, q3, q4⟩ := h
  exact ⟨q0, q1, q2, va_K.moved (u := U) (U := U.calling g mk a) (Vm.Alike.refl U.vm) q3, aZs.same (U := U.calling g mk a) rfl q4⟩
theorem aZsC {p : Program} {s : State} {m : MethodId} {args : Array Value} {meth : Method} {c : Code} {G : aG} {A : Nat → Prop} {mi : aM} (C : aCtx p s m args meth c G A mi) {ρ : List Nat} {S : aS} {H : Heap} {locs : List Loc} (hR : aRep G A ρ S H) (hS : va_S A s.heap H locs) {U : State} (hU : U.heap = H) (hW : s.WarmedH U.vm) : aZs (va_A (aW G ρ S) H.size) U U.heap := by
  refine C.2.2.2.2.2.2.2.2.2.2.mv hW (fun a ha hn => by rw [hU]; exact hS.2.1 a ha hn) ?_
  rintro q (⟨j, x, hj⟩ | hq)
  · exact hR.2.2.2.2 j _ hj
  · exact C.2.2.2.2.2.2.2.2.2.1 q (Nat.le_trans hS.1 hq)
theorem aws_mv {mi mi' : aM} {args : Array Value} {s : State} (hts : ∀ w ∈ aws mi, w.before args s = true) (h : Cond.code mi'.1 mi'.2.1 mi'.2.2.1 mi'.2.2.2 ∈ GW) : ∀ w ∈ aws mi', ∀ (a' : Array Value) (U : State), s.WarmedH U.vm → w.before a' U = true := by
  intro w hw a' U hW
  rcases List.mem_cons.mp hw with rfl | hw
  · exact GW_mv h hW (hts _ (List.mem_cons_of_mem _ h))
  · exact GW_mv hw hW (hts _ (List.mem_cons_of_mem _ hw))
theorem sig_len {y : MethodName} {np : Nat} (h : (parseMethodDescriptor y.desc).map (fun d => d.parameters.length) = some np) : ∀ sig, parseMethodDescriptor y.desc = some sig → np = sig.parameters.length := by
  intro sig hs
  rw [hs] at h
  exact (Option.some.inj h).symm
/-- the way on behind a call -/
theorem aOn {d mc ms d' mc' ms' : Nat} {mi mi' : aM} {k n pc : Nat} {ls : aLs} {st0 rest : List Value} {S : aS} {Q Q' : aQ} {p : Program} {l : Launch} {e : Env} {s : State} {m : MethodId} {args : Array Value} {below : List Frame} {meth : Method} {c : Code} {G : aG} {A : Nat → Prop} {ρ0 : List Nat} (C : aCtx p s m args meth c G A mi)
    {H : Heap} {locs : List Loc} {ρ : List Nat} {cs : Array Slot} (h0 : ρ0 <+: ρ) (hR : aRep G A ρ S H) (hS : va_S A s.heap H locs) (hL : aHas ρ ls cs mi.2.2.1) {av : Array Value}
    (hext : (∀ r S', Q' r S' → S'.1.length = S.1.length) ∨ (aOkS S.1.length rest ∧ aOkL S.1.length ls))
    (hr : va_Run p l e (aRoom d mc ms) s m args below meth c H locs k n mc' ms' (F0 m pc cs st0) (rest.map (aV ρ)) (aQc G (va_A (aW G ρ S) H.size) ρ Q' (aKd mi'.2.2.2) av) (va_A (aW G ρ S) H.size))
    (kk : ∀ r S', Q' r S' → (aKd mi'.2.2.2 = 0 → r = none) → (aKd mi'.2.2.2 = 1 → ∃ x, r = some (.int x)) → Ex d mc ms mi (k + mc') (n + ms') (pc + 3) ls (r.toList ++ rest) S' Q) :
    W p l e (aRoom d mc ms) s m args below meth c H locs k n (MQ below (aQc G A ρ0 Q (aKd mi.2.2.2)) args s mc ms A) (F0 m pc cs st0) := by
  have hF : ∀ q, va_A (aW G ρ S) H.size q → A q := by
    rintro q (⟨j, x, hj⟩ | hq)
    · exact hR.2.2.2.2 j _ hj
    · exact C.2.2.2.2.2.2.2.2.2.1 q (Nat.le_trans hS.1 hq)
  have hgo : ∀ (r : Option Value) (u : List Nat × aS) (t : State) (H1 : Heap) (locs1 : List Loc), t.heap = H1 → Q' r u.2 → ρ <+: u.1 → (aKd mi'.2.2.2 = 0 → r = none) → (aKd mi'.2.2.2 = 1 → ∃ x, r = some (.int x)) → aB G (va_A (aW G ρ S) H.size) u t → va_S A s.heap H1 locs1 → (∀ ρ', r.toList.map (aV ρ') = r.toList) → W p l e (aRoom d mc ms) s m args below meth c H1 locs1 (k + mc') (n + ms') (MQ below (aQc G A ρ0 Q (aKd mi.2.2.2)) args s mc ms A) (F0 m (pc + 3) cs (r.toList ++ rest.map (aV ρ))) := by
    intro r u t H1 locs1 ht hq hp hk0 hk1 hB hS1 hrv
    obtain ⟨ρ', S'⟩ := u
    obtain ⟨⟨hρ', hok', hP', hD'⟩, -⟩ := hB
    rw [ht] at hP'
    have hD2 : va_D A (aW G ρ' S') := hD'.weaken (fun _ _ _ h => hF _ h)
    have key : rest.map (aV ρ') = rest.map (aV ρ) ∧ aHas ρ' ls cs mi.2.2.1 := by
      rcases hext with h | ⟨h1, h2⟩
      · have e : ρ' = ρ := (hp.eq_of_length (by rw [hR.1, hρ']; exact (h r S' hq).symm)).symm
        subst e
        exact ⟨rfl, hL⟩
      · exact ⟨aV_exts hp (by rw [hR.1]; exact h1), aHas_ext hp (by rw [hR.1]; exact h2) hL⟩
    have K := kk r S' hq hk0 hk1 p l e s m args below meth c G A ρ0 C H1 locs1 ρ' cs (h0.trans hp) ⟨hρ', hok', hP', hD2⟩ hS1 key.2
    rw [List.map_append, hrv, key.1] at K
    exact K
  generalize hkd : aKd mi'.2.2.2 = kd at hr hgo
  match kd, hr with
  | 0, hr => exact va_callv (a := av) hr hS (fun q _ h => hF q h) hF (fun u t H1 locs1 ht hvm hw hB hz1 hk1 hS1 => hgo none u t H1 locs1 ht hw.1 hw.2 (fun _ => rfl) (fun h => absurd h (by decide)) hB hS1 (fun _ => rfl))
  | 1, hr => exact va_calli (a := av) hr hS (fun q _ h => hF q h) hF (fun r u t H1 locs1 ht hvm hw hB hz1 hk1 hS1 => hgo (some (.int r)) u t H1 locs1 ht hw.1 hw.2 (fun h => absurd h (by decide)) (fun _ => ⟨r, rfl⟩) hB hS1 (fun _ => rfl))
  | j + 2, hr => exact va_calll (a := av) hr hS (fun q _ h => hF q h) hF (fun r u t H1 locs1 ht hvm hw hB hz1 hk1 hS1 => hgo (some (.long r)) u t H1 locs1 ht hw.1 hw.2 (fun h => absurd h (by omega)) (fun h => absurd h (by omega)) hB hS1 (fun _ => rfl))
/-- the call at 'idx' of the pool of 'own' is one of mi, np arguments -/
def aCm (own : String) (idx : Nat) (mi : aM) (np : Nat) : Prop := Cond.code mi.1 mi.2.1 mi.2.2.1 mi.2.2.2 ∈ GW ∧ Cond.methodLink own idx mi.1 ∈ GW ∧ Cond.initialized mi.1.cls ∈ GW ∧ (mi.1.cls ≠ "java/lang/invoke/MethodHandle" ∧ mi.1.cls ≠ "java/lang/invoke/VarHandle" ∧ (parseMethodDescriptor mi.1.desc).map (fun d => d.parameters.length) = some np) ∧ mi.2.2.1 ≤ 45
def aCv (own : String) (idx ci : Nat) (mi : aM) (np : Nat) : Prop := aCm own idx mi np ∧ Cond.instanceMethod mi.1 ∈ GW ∧ Cond.selects mi.1.cls mi.1 mi.1 ∈ GW ∧ ∃ (T : u_T) (N : Nat), acl[ci]? = some (mi.1.cls, T, N)
def aCs (own : String) (idx : Nat) (mi : aM) (np : Nat) : Prop := aCm own idx mi np ∧ Cond.static mi.1 ∈ GW
def aCi (own : String) (idx : Nat) (mi : aM) (np : Nat) : Prop := aCm own idx mi np ∧ Cond.instanceMethod mi.1 ∈ GW ∧ mi.1.name = "<init>" ∧ mi.2.2.2 = none
/-- the same, of a nest mate's private constructor -/
def aCn (own : String) (idx : Nat) (mi : aM) (np : Nat) (host : String) : Prop := Cond.code mi.1 mi.2.1 mi.2.2.1 mi.2.2.2 ∈ GW ∧ Cond.methodLinkNest own idx mi.1 host ∈ GW ∧ Cond.initialized mi.1.cls ∈ GW ∧ (mi.1.cls ≠ "java/lang/invoke/MethodHandle" ∧ mi.1.cls ≠ "java/lang/invoke/VarHandle" ∧ (parseMethodDescriptor mi.1.desc).map (fun d => d.parameters.length) = some np) ∧ mi.2.2.1 ≤ 45 ∧ Cond.instanceMethod mi.1 ∈ GW ∧ mi.1.name = "<init>" ∧ mi.2.2.2 = none
section EXC
variable {d mc ms d' mc' ms' : Nat} {mi mi' : aM} {k n pc : Nat} {ls : aLs} {st rest : List Value} {S : aS} {Q Q' : aQ}
theorem Ex.callV {idx ci np b z : Nat} {As : List Value} (hd : decode mi.2.1 pc = .ok (.invokevirtual idx, 3)) (hc : aCv mi.1.cls idx ci mi' np) (hrun : Run d' mc' ms' mi' (.ref b :: As) S Q') (hb : S.1[b]? = some (ci, z)) (hst : st = As.reverse ++ .ref b :: rest) (hn : As.length = np) (hdd : d' + 1 ≤ d) (h1 : k + mc' ≤ mc) (h2 : n + ms' ≤ ms) (hW : (rest.map fun v => v.category).sum ≤ 8)
    (hext : (∀ r S', Q' r S' → S'.1.length = S.1.length) ∨ (aOkS S.1.length rest ∧ aOkL S.1.length ls))
    (kk : ∀ r S', Q' r S' → (aKd mi'.2.2.2 = 0 → r = none) → (aKd mi'.2.2.2 = 1 → ∃ x, r = some (.int x)) → Ex d mc ms mi (k + mc') (n + ms') (pc + 3) ls (r.toList ++ rest) S' Q) : Ex d mc ms mi k n pc ls st S Q := by
  intro p l e s m args below meth c G A ρ0 C H locs ρ cs h0 hR hS hL
  obtain ⟨⟨w1, w2, w3, hdn, hml⟩, w4, w5, T, N, hcl⟩ := hc
  have hts := C.2.2.2.2.2.1
  have ok : ∀ w ∈ GW, w.before args s = true := fun w h => hts w (List.mem_cons_of_mem _ h)
  subst hst
  have hobj := aObj (G := G) (ρ := ρ) (sh := S.1) (I := S.2.1) (L := S.2.2.1) (R := S.2.2.2) hcl hb
  refine aOn (d' := d') (av := (Value.ref (ρ.getD b 0) :: As.map (aV ρ)).toArray) (rest := rest) (mi' := mi') (Q' := Q') C h0 hR hS hL hext ?_ kk
  refine va_runV (As := As.map (aV ρ)) (b := ρ.getD b 0) (rest := rest.map (aV ρ)) (own := mi.1.cls) (Ts := aws mi) ⟨C.1, C.2.1, C.2.2.2.1, C.2.2.2.2.1, hts⟩ (hrun l G ρ H.size) (C := mi'.1.cls) (n := np) (bytes := mi'.2.1) (maxL := mi'.2.2.1) (ret := mi'.2.2.2) ⟨⟨rfl, rfl, hdd, ?_, aws_mv hts w1, List.mem_cons_self, ok _ w1, ok _ w3, ⟨hdn.1, hdn.2.1⟩, sig_len hdn.2.2, ok _ w2⟩, ok _ w4, ok _ w5⟩ ⟨aPc_blind, ?_, fun U hU hW => ?_⟩ rfl (by rw [List.length_map]; exact hn) hL.1 ?_ ?_ hd ⟨h1, h2⟩
  · show 8 + (mi'.2.2.1 + 11) + 64 * d' ≤ 64 * d
    omega
  · exact va_recv C.2.2.2.2.2.2.2.2.1 hR.2.2.1 hcl hobj
  · refine ⟨rfl, by rw [hU], ⟨hR.1, hR.2.1, by rw [hU]; exact hR.2.2.1, hR.2.2.2.weaken (fun _ _ _ _ => trivial)⟩, va_K.moved hW.alike C.2.2.2.2.2.2.2.2.1, aZsC C hR hS hU hW⟩
  · show (As.reverse ++ .ref b :: rest).map (aV ρ) = _
    rw [List.map_append, List.map_reverse]; rfl
  · rw [aCat]; show 2 * 0 + _ ≤ 8; omega
theorem Ex.callS {idx np : Nat} {As : List Value} (hd : decode mi.2.1 pc = .ok (.invokestatic idx, 3)) (hc : aCs mi.1.cls idx mi' np) (hrun : Run d' mc' ms' mi' As S Q') (hst : st = As.reverse ++ rest) (hn : As.length = np) (hdd : d' + 1 ≤ d) (h1 : k + mc' ≤ mc) (h2 : n + ms' ≤ ms) (hW : (rest.map fun v => v.category).sum ≤ 8)
    (hext : (∀ r S', Q' r S' → S'.1.length = S.1.length) ∨ (aOkS S.1.length rest ∧ aOkL S.1.length ls))
    (kk : ∀ r S', Q' r S' → (aKd mi'.2.2.2 = 0 → r = none) → (aKd mi'.2.2.2 = 1 → ∃ x, r = some (.int x)) → Ex d mc ms mi (k + mc') (n + ms') (pc + 3) ls (r.toList ++ rest) S' Q) : Ex d mc ms mi k n pc ls st S Q := by
  intro p l e s m args below meth c G A ρ0 C H locs ρ cs h0 hR hS hL
  obtain ⟨⟨w1, w2, w3, hdn, hml⟩, w4⟩ := hc
  have hts := C.2.2.2.2.2.1
  have ok : ∀ w ∈ GW, w.before args s = true := fun w h => hts w (List.mem_cons_of_mem _ h)
  subst hst
  refine aOn (d' := d') (av := (As.map (aV ρ)).toArray) (rest := rest) (mi' := mi') (Q' := Q') C h0 hR hS hL hext ?_ kk
  refine va_runS (As := As.map (aV ρ)) (rest := rest.map (aV ρ)) (own := mi.1.cls) (Ts := aws mi) ⟨C.1, C.2.1, C.2.2.2.1, C.2.2.2.2.1, hts⟩ (hrun l G ρ H.size) (n := np) (bytes := mi'.2.1) (maxL := mi'.2.2.1) (ret := mi'.2.2.2) ⟨⟨rfl, rfl, hdd, ?_, aws_mv hts w1, List.mem_cons_self, ok _ w1, ok _ w3, ⟨hdn.1, hdn.2.1⟩, sig_len hdn.2.2, ok _ w2⟩, ok _ w4⟩ ⟨aPc_blind, fun U hU hW => ?_⟩ rfl (by rw [List.length_map]; exact hn) hL.1 ?_ ?_ hd ⟨h1, h2⟩
  · show 8 + (mi'.2.2.1 + 11) + 64 * d' ≤ 64 * d
    omega
  · refine ⟨rfl, by rw [hU], ⟨hR.1, hR.2.1, by rw [hU]; exact hR.2.2.1, hR.2.2.2.weaken (fun _ _ _ _ => trivial)⟩, va_K.moved hW.alike C.2.2.2.2.2.2.2.2.1, aZsC C hR hS hU hW⟩
  · show (As.reverse ++ rest).map (aV ρ) = _
    rw [List.map_append, List.map_reverse]
  · rw [aCat]; show 2 * 0 + _ ≤ 8; omega
theorem Ex.callI {idx np b : Nat} {As : List Value} (hd : decode mi.2.1 pc = .ok (.invokespecial idx, 3)) (hc : aCi mi.1.cls idx mi' np) (hrun : Run d' mc' ms' mi' (.ref b :: As) S Q') (hst : st = As.reverse ++ .ref b :: rest) (hn : As.length = np) (hdd : d' + 1 ≤ d) (h1 : k + mc' ≤ mc) (h2 : n + ms' ≤ ms) (hW : (rest.map fun v => v.category).sum ≤ 8)
    (hext : (∀ r S', Q' r S' → S'.1.length = S.1.length) ∨ (aOkS S.1.length rest ∧ aOkL S.1.length ls))
    (kk : ∀ S', Q' none S' → Ex d mc ms mi (k + mc') (n + ms') (pc + 3) ls rest S' Q) : Ex d mc ms mi k n pc ls st S Q := by
  intro p l e s m args below meth c G A ρ0 C H locs ρ cs h0 hR hS hL
  obtain ⟨⟨w1, w2, w3, hdn, hml⟩, w4, w5, w6⟩ := hc
  have hts := C.2.2.2.2.2.1
  have ok : ∀ w ∈ GW, w.before args s = true := fun w h => hts w (List.mem_cons_of_mem _ h)
  subst hst
  refine aOn (d' := d') (av := (Value.ref (ρ.getD b 0) :: As.map (aV ρ)).toArray) (rest := rest) (mi' := mi') (Q' := Q') C h0 hR hS hL hext ?_ (fun r S' hq hk0 _ => by have e := hk0 (by rw [w6]; rfl); subst e; exact kk S' hq)
  have hws : aws mi' = Cond.code mi'.1 mi'.2.1 mi'.2.2.1 none :: GW := by unfold aws; rw [w6]
  refine va_runI (As := As.map (aV ρ)) (b := ρ.getD b 0) (rest := rest.map (aV ρ)) (own := mi.1.cls) (Ts := aws mi) ⟨C.1, C.2.1, C.2.2.2.1, C.2.2.2.2.1, hts⟩ (hrun l G ρ H.size) (n := np) (bytes := mi'.2.1) (maxL := mi'.2.2.1) ⟨⟨rfl, rfl, hdd, ?_, aws_mv hts w1, by rw [hws]; exact List.mem_cons_self, by have := ok _ w1; rw [w6] at this; exact this, ok _ w3, ⟨hdn.1, hdn.2.1⟩, sig_len hdn.2.2, ok _ w2⟩, w5, ok _ w4⟩ ⟨aPc_blind, fun U hU hW => ?_⟩ rfl (by rw [List.length_map]; exact hn) hL.1 ?_ ?_ hd ⟨h1, h2⟩
  · show 8 + (mi'.2.2.1 + 11) + 64 * d' ≤ 64 * d
    omega
  · refine ⟨rfl, by rw [hU], ⟨hR.1, hR.2.1, by rw [hU]; exact hR.2.2.1, hR.2.2.2.weaken (fun _ _ _ _ => trivial)⟩, va_K.moved hW.alike C.2.2.2.2.2.2.2.2.1, aZsC C hR hS hU hW⟩
  · show (As.reverse ++ .ref b :: rest).map (aV ρ) = _
    rw [List.map_append, List.map_reverse]; rfl
  · rw [aCat]; show 2 * 0 + _ ≤ 8; omega
theorem Ex.callIN {idx np b : Nat} {As : List Value} (hd : decode mi.2.1 pc = .ok (.invokespecial idx, 3)) {host : String} (hc : aCn mi.1.cls idx mi' np host) (hrun : Run d' mc' ms' mi' (.ref b :: As) S Q') (hst : st = As.reverse ++ .ref b :: rest) (hn : As.length = np) (hdd : d' + 1 ≤ d) (h1 : k + mc' ≤ mc) (h2 : n + ms' ≤ ms) (hW : (rest.map fun v => v.category).sum ≤ 8)
    (hext : (∀ r S', Q' r S' → S'.1.length = S.1.length) ∨ (aOkS S.1.length rest ∧ aOkL S.1.length ls))
    (kk : ∀ S', Q' none S' → Ex d mc ms mi (k + mc') (n + ms') (pc + 3) ls rest S' Q) : Ex d mc ms mi k n pc ls st S Q := by
  intro p l e s m args below meth c G A ρ0 C H locs ρ cs h0 hR hS hL
  obtain ⟨w1, w2, w3, hdn, hml, w4, w5, w6⟩ := hc
  have hts := C.2.2.2.2.2.1
  have ok : ∀ w ∈ GW, w.before args s = true := fun w h => hts w (List.mem_cons_of_mem _ h)
  subst hst
  refine aOn (d' := d') (av := (Value.ref (ρ.getD b 0) :: As.map (aV ρ)).toArray) (rest := rest) (mi' := mi') (Q' := Q') C h0 hR hS hL hext ?_ (fun r S' hq hk0 _ => by have e := hk0 (by rw [w6]; rfl); subst e; exact kk S' hq)
  have hws : aws mi' = Cond.code mi'.1 mi'.2.1 mi'.2.2.1 none :: GW := by unfold aws; rw [w6]
  refine va_runIN (host := host) (As := As.map (aV ρ)) (b := ρ.getD b 0) (rest := rest.map (aV ρ)) (own := mi.1.cls) (Ts := aws mi) ⟨C.1, C.2.1, C.2.2.2.1, C.2.2.2.2.1, hts⟩ (hrun l G ρ H.size) (n := np) (bytes := mi'.2.1) (maxL := mi'.2.2.1) ⟨⟨⟨rfl, rfl, hdd, ?_, aws_mv hts w1, by rw [hws]; exact List.mem_cons_self⟩, by have := ok _ w1; rw [w6] at this; exact this, ok _ w3, ⟨hdn.1, hdn.2.1⟩, sig_len hdn.2.2, ok _ w2⟩, w5, ok _ w4⟩ ⟨aPc_blind, fun U hU hW => ?_⟩ rfl (by rw [List.length_map]; exact hn) hL.1 ?_ ?_ hd ⟨h1, h2⟩
  · show 8 + (mi'.2.2.1 + 11) + 64 * d' ≤ 64 * d
    omega
  · refine ⟨rfl, by rw [hU], ⟨hR.1, hR.2.1, by rw [hU]; exact hR.2.2.1, hR.2.2.2.weaken (fun _ _ _ _ => trivial)⟩, va_K.moved hW.alike C.2.2.2.2.2.2.2.2.1, aZsC C hR hS hU hW⟩
  · show (As.reverse ++ .ref b :: rest).map (aV ρ) = _
    rw [List.map_append, List.map_reverse]; rfl
  · rw [aCat]; show 2 * 0 + _ ≤ 8; omega
end EXC
