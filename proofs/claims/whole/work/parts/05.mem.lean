/-! fields, arrays, new cells -/
def aTk : FieldType → Nat
  | .long => 1
  | .object _ => 2
  | .array _ => 2
  | _ => 0
/-- the field at 'idx' of the pool of 'own': place fk of the class ci; kd: 0 a number of 32 bits, 1 a long, 2 a reference; md: 1 not final, 2 final and own -/
def aFd (own : String) (idx ci fk kd md : Nat) : Prop := ∃ (C : String) (T : u_T) (N : Nat), acl[ci]? = some (C, T, N) ∧ fk < N ∧ Cond.fieldLink own idx (T fk).1 (T fk).2.1 (T fk).2.2.1 ∈ GW ∧ aTk (cT ci fk) = kd ∧ (md = 1 → (T fk).2.2.2 = false) ∧ (md = 2 → (T fk).2.2.2 = true ∧ (T fk).1 = own)
theorem aFv_0 {ρ : List Nat} {I : aI} {L : aL} {R : aR} {i k : Nat} {t : FieldType} (h : aTk t = 0) : aFv ρ I L R i k t = .int (I i k) := by cases t <;> first | rfl | (simp [aTk] at h)
theorem aFv_1 {ρ : List Nat} {I : aI} {L : aL} {R : aR} {i k : Nat} {t : FieldType} (h : aTk t = 1) : aFv ρ I L R i k t = .long (L i k) := by cases t <;> first | rfl | (simp [aTk] at h)
theorem aFv_2 {ρ : List Nat} {I : aI} {L : aL} {R : aR} {i k : Nat} {t : FieldType} (h : aTk t = 2) : aFv ρ I L R i k t = va_rf ((R i k).map fun b => ρ.getD b 0) := by cases t <;> first | rfl | (simp [aTk] at h)
theorem aFv_c {ρ : List Nat} {I I' : aI} {L L' : aL} {R R' : aR} {i k : Nat} {t : FieldType} (h1 : I' i k = I i k) (h2 : L' i k = L i k) (h3 : R' i k = R i k) : aFv ρ I' L' R' i k t = aFv ρ I L R i k t := by cases t <;> simp [aFv, h1, h2, h3]
theorem aCell_c {G : aG} {ρ : List Nat} {I I' : aI} {L L' : aL} {R R' : aR} {i : Nat} {kn : Nat × Nat} (h1 : I' i = I i) (h2 : L' i = L i) (h3 : R' i = R i) : aCell G ρ I' L' R' i kn = aCell G ρ I L R i kn := by
  unfold aCell aFs
  rw [h1, h2]
  have e : (fun k => aFv ρ I' L' R' i k (cT kn.1 k)) = (fun k => aFv ρ I L R i k (cT kn.1 k)) := by
    funext k
    exact aFv_c (by rw [h1]) (by rw [h2]) (by rw [h3])
  rw [e]
theorem aFs_set {ρ : List Nat} {I I' : aI} {L L' : aL} {R R' : aR} {i ci k : Nat} {v : Value} (hk : aFv ρ I' L' R' i k (cT ci k) = v) (h : ∀ j, j ≠ k → I' i j = I i j ∧ L' i j = L i j ∧ R' i j = R i j) : aFs ρ I' L' R' i ci = (aFs ρ I L R i ci).set k v := by
  apply List.ext_getElem?
  intro j
  by_cases hj : j < cN ci
  · rw [aFs_get hj, List.getElem?_set]
    by_cases e : k = j
    · subst e
      rw [if_pos rfl, if_pos (by rw [aFs_len]; exact hj), hk]
    · rw [if_neg e, aFs_get hj]
      obtain ⟨h1, h2, h3⟩ := h j (Ne.symm e)
      rw [aFv_c h1 h2 h3]
  · rw [List.getElem?_eq_none (by rw [aFs_len]; omega), List.getElem?_eq_none (by rw [List.length_set, aFs_len]; omega)]
theorem va_up_s {α : Type} {f : Nat → α} {a : Nat} {v : α} : va_up f a v a = v := by simp [va_up]
theorem va_up_n {α : Type} {f : Nat → α} {a b : Nat} {v : α} (h : b ≠ a) : va_up f a v b = f b := by simp [va_up, h]
section EXM
variable {d mc ms : Nat} {mi : aM} {k n pc : Nat} {ls : aLs} {st : List Value} {sh : aSh} {I : aI} {L : aL} {R : aR} {Q : aQ}
theorem aObj {G : aG} {ρ : List Nat} {a ci z : Nat} {C : String} {T : u_T} {N : Nat} (hc : acl[ci]? = some (C, T, N)) (hs : sh[a]? = some (ci, z)) : (aW G ρ (sh, I, L, R))[a]? = some (ρ.getD a 0, .inr (ci, aFs ρ I L R a ci)) := by
  rw [aW_get (S := (sh, I, L, R)) hs, aCell_o (acl_ok ci C T N hc).2.2.2.2]
theorem Ex.getI {idx ci fk a z md : Nat} (hd : decode mi.2.1 pc = .ok (.getfield idx, 3)) (hf : aFd mi.1.cls idx ci fk 0 md) (hs : sh[a]? = some (ci, z)) (kk : Ex d mc ms mi k n (pc + 3) ls (.int (I a fk) :: st) (sh, I, L, R) Q) : Ex d mc ms mi k n pc ls (.ref a :: st) (sh, I, L, R) Q := by
  intro p l e s m args below meth c G A ρ0 C H locs ρ cs h0 hR hS hL
  obtain ⟨CN, T, N, hc, hk, hlk, htk, -, -⟩ := hf
  obtain ⟨hN, hty, hnm, hin, -⟩ := acl_ok ci CN T N hc
  exact va_get C.1 C.2.1 C.2.2.2.2.2.1 (fun w h => List.mem_cons_of_mem _ (hin w h)) C.2.2.2.2.1 C.2.2.2.2.2.2.2.2.1 hR.2.2.1 a (aObj hc hs) hc fk hk (C.2.2.2.2.2.1 _ (List.mem_cons_of_mem _ hlk)) (fun _ h => h) (by rw [aFs_get (by rw [hN]; exact hk), aFv_0 htk]; rfl) hd (kk p l e s m args below meth c G A ρ0 C H locs ρ cs h0 hR hS hL)
theorem Ex.getL {idx ci fk a z md : Nat} (hd : decode mi.2.1 pc = .ok (.getfield idx, 3)) (hf : aFd mi.1.cls idx ci fk 1 md) (hs : sh[a]? = some (ci, z)) (kk : Ex d mc ms mi k n (pc + 3) ls (.long (L a fk) :: st) (sh, I, L, R) Q) : Ex d mc ms mi k n pc ls (.ref a :: st) (sh, I, L, R) Q := by
  intro p l e s m args below meth c G A ρ0 C H locs ρ cs h0 hR hS hL
  obtain ⟨CN, T, N, hc, hk, hlk, htk, -, -⟩ := hf
  obtain ⟨hN, hty, hnm, hin, -⟩ := acl_ok ci CN T N hc
  exact va_get C.1 C.2.1 C.2.2.2.2.2.1 (fun w h => List.mem_cons_of_mem _ (hin w h)) C.2.2.2.2.1 C.2.2.2.2.2.2.2.2.1 hR.2.2.1 a (aObj hc hs) hc fk hk (C.2.2.2.2.2.1 _ (List.mem_cons_of_mem _ hlk)) (fun _ h => h) (by rw [aFs_get (by rw [hN]; exact hk), aFv_1 htk]; rfl) hd (kk p l e s m args below meth c G A ρ0 C H locs ρ cs h0 hR hS hL)
theorem Ex.getR {idx ci fk a b z md : Nat} (hd : decode mi.2.1 pc = .ok (.getfield idx, 3)) (hf : aFd mi.1.cls idx ci fk 2 md) (hs : sh[a]? = some (ci, z)) (hr : R a fk = some b) (kk : Ex d mc ms mi k n (pc + 3) ls (.ref b :: st) (sh, I, L, R) Q) : Ex d mc ms mi k n pc ls (.ref a :: st) (sh, I, L, R) Q := by
  intro p l e s m args below meth c G A ρ0 C H locs ρ cs h0 hR hS hL
  obtain ⟨CN, T, N, hc, hk, hlk, htk, -, -⟩ := hf
  obtain ⟨hN, hty, hnm, hin, -⟩ := acl_ok ci CN T N hc
  exact va_get C.1 C.2.1 C.2.2.2.2.2.1 (fun w h => List.mem_cons_of_mem _ (hin w h)) C.2.2.2.2.1 C.2.2.2.2.2.2.2.2.1 hR.2.2.1 a (aObj hc hs) hc fk hk (C.2.2.2.2.2.1 _ (List.mem_cons_of_mem _ hlk)) (fun _ h => h) (by rw [aFs_get (by rw [hN]; exact hk), aFv_2 htk, hr]; rfl) hd (kk p l e s m args below meth c G A ρ0 C H locs ρ cs h0 hR hS hL)
/-- any store into a field -/
theorem Ex.putX {idx ci fk kd a z md : Nat} {v : Value} {I' : aI} {L' : aL} {R' : aR} (hd : decode mi.2.1 pc = .ok (.putfield idx, 3)) (hf : aFd mi.1.cls idx ci fk kd md) (hs : sh[a]? = some (ci, z)) (hini : md = 1 ∨ (md = 2 ∧ mi.1.name = "<init>")) (hn : ∀ ρ, narrow (cT ci fk) (aV ρ v) = aV ρ v) (hfit : ∀ ρ, fits (cT ci fk) (aV ρ v) = true)
    (hv : ∀ ρ, aFv ρ I' L' R' a fk (cT ci fk) = aV ρ v) (hj : ∀ j, j ≠ fk → I' a j = I a j ∧ L' a j = L a j ∧ R' a j = R a j) (ho : ∀ i, i ≠ a → I' i = I i ∧ L' i = L i ∧ R' i = R i) (hok : aRok (sh, I, L, R) → aRok (sh, I', L', R'))
    (kk : Ex d mc ms mi k n (pc + 3) ls st (sh, I', L', R') Q) : Ex d mc ms mi k n pc ls (v :: .ref a :: st) (sh, I, L, R) Q := by
  intro p l e s m args below meth c G A ρ0 C H locs ρ cs h0 hR hS hL
  obtain ⟨CN, T, N, hc, hk, hlk, htk, hfin, hown⟩ := hf
  obtain ⟨hN, hty, hnm, hin, h11⟩ := acl_ok ci CN T N hc
  have hset : (aW G ρ (sh, I, L, R)).set a (ρ.getD a 0, .inr (ci, (aFs ρ I L R a ci).set fk (aV ρ v))) = aW G ρ (sh, I', L', R') := by
    refine aW_set hs ?_ (fun i kn' hi => aCell_c (ho i hi).1 (ho i hi).2.1 (ho i hi).2.2)
    rw [aCell_o h11, aFs_set (hv ρ) hj]
  have kk' : ∀ (H1 : Heap) (locs1 : List Loc), va_P G.1 acl ((aW G ρ (sh, I, L, R)).set a (ρ.getD a 0, .inr (ci, (aFs ρ I L R a ci).set fk (aV ρ v)))) H1 → va_D A ((aW G ρ (sh, I, L, R)).set a (ρ.getD a 0, .inr (ci, (aFs ρ I L R a ci).set fk (aV ρ v)))) → va_S A s.heap H1 locs1 → W p l e (aRoom d mc ms) s m args below meth c H1 locs1 k n (MQ below (aQc G A ρ0 Q (aKd mi.2.2.2)) args s mc ms A) (F0 m (pc + 3) cs (st.map (aV ρ))) := by
    intro H1 locs1 hP1 hD1 hS1
    rw [hset] at hP1 hD1
    exact kk p l e s m args below meth c G A ρ0 C H1 locs1 ρ cs h0 ⟨hR.1, hok hR.2.1, hP1, hD1⟩ hS1 hL
  have hlen : fk < (aFs ρ I L R a ci).length := by rw [aFs_len, hN]; exact hk
  rcases hini with rfl | ⟨rfl, hini⟩
  · exact va_put C.1 C.2.1 C.2.2.2.2.2.1 (fun w h => List.mem_cons_of_mem _ (hin w h)) (cT ci) hty hnm C.2.2.2.2.1 C.2.2.2.2.2.2.2.2.1 hR.2.2.1 hR.2.2.2 hS a (aObj hc hs) hc fk hk (C.2.2.2.2.2.1 _ (List.mem_cons_of_mem _ hlk)) (fun _ h => h) (hfin rfl) (hty fk hk) (hn ρ) (hfit ρ) hlen hd kk'
  · exact va_putF C.1 C.2.1 C.2.2.2.2.2.1 (fun w h => List.mem_cons_of_mem _ (hin w h)) (cT ci) hty hnm C.2.2.2.2.1 C.2.2.2.2.2.2.2.2.1 hR.2.2.1 hR.2.2.2 hS a (aObj hc hs) hc fk hk (C.2.2.2.2.2.1 _ (List.mem_cons_of_mem _ hlk)) (fun _ h => h) (hown rfl).1 (C.2.2.2.2.2.2.2.1.trans hini) (hown rfl).2 (hty fk hk) (hn ρ) (hfit ρ) hlen hd kk'
theorem Ex.putI {idx ci fk a z md : Nat} {v : Int32} (hd : decode mi.2.1 pc = .ok (.putfield idx, 3)) (hf : aFd mi.1.cls idx ci fk 0 md) (hs : sh[a]? = some (ci, z)) (hini : md = 1 ∨ (md = 2 ∧ mi.1.name = "<init>")) (hn : narrow (cT ci fk) (.int v) = .int v ∧ fits (cT ci fk) (.int v) = true)
    (kk : Ex d mc ms mi k n (pc + 3) ls st (sh, va_up I a (upd (I a) fk v), L, R) Q) : Ex d mc ms mi k n pc ls (.int v :: .ref a :: st) (sh, I, L, R) Q := by
  have htk : aTk (cT ci fk) = 0 := hf.choose_spec.choose_spec.choose_spec.2.2.2.1
  refine Ex.putX hd hf hs hini (fun _ => hn.1) (fun _ => hn.2) (fun ρ => ?_) (fun j hj => ⟨?_, rfl, rfl⟩) (fun i hi => ⟨va_up_n hi, rfl, rfl⟩) (fun h => h) kk
  · rw [aFv_0 htk, va_up_s]; simp [upd, aV]
  · rw [va_up_s]; simp [upd, hj]
theorem Ex.putL {idx ci fk a z md : Nat} {v : Int64} (hd : decode mi.2.1 pc = .ok (.putfield idx, 3)) (hf : aFd mi.1.cls idx ci fk 1 md) (hs : sh[a]? = some (ci, z)) (hini : md = 1 ∨ (md = 2 ∧ mi.1.name = "<init>")) (hn : narrow (cT ci fk) (.long v) = .long v ∧ fits (cT ci fk) (.long v) = true)
    (kk : Ex d mc ms mi k n (pc + 3) ls st (sh, I, va_up L a (vp_updL (L a) fk v), R) Q) : Ex d mc ms mi k n pc ls (.long v :: .ref a :: st) (sh, I, L, R) Q := by
  have htk : aTk (cT ci fk) = 1 := hf.choose_spec.choose_spec.choose_spec.2.2.2.1
  refine Ex.putX hd hf hs hini (fun _ => hn.1) (fun _ => hn.2) (fun ρ => ?_) (fun j hj => ⟨rfl, ?_, rfl⟩) (fun i hi => ⟨rfl, va_up_n hi, rfl⟩) (fun h => h) kk
  · rw [aFv_1 htk, va_up_s]; simp [vp_updL, aV]
  · rw [va_up_s]; simp [vp_updL, hj]
theorem Ex.putR {idx ci fk a b z md : Nat} (hd : decode mi.2.1 pc = .ok (.putfield idx, 3)) (hf : aFd mi.1.cls idx ci fk 2 md) (hs : sh[a]? = some (ci, z)) (hini : md = 1 ∨ (md = 2 ∧ mi.1.name = "<init>")) (hb : b < sh.length)
    (kk : Ex d mc ms mi k n (pc + 3) ls st (sh, I, L, va_up R a (va_up (R a) fk (some b))) Q) : Ex d mc ms mi k n pc ls (.ref b :: .ref a :: st) (sh, I, L, R) Q := by
  have htk : aTk (cT ci fk) = 2 := hf.choose_spec.choose_spec.choose_spec.2.2.2.1
  refine Ex.putX hd hf hs hini (fun ρ => ?_) (fun ρ => ?_) (fun ρ => ?_) (fun j hj => ⟨rfl, rfl, ?_⟩) (fun i hi => ⟨rfl, rfl, va_up_n hi⟩) (fun h i j c hc => ?_) kk
  · revert htk; cases cT ci fk <;> intro htk <;> first | rfl | (simp [aTk] at htk)
  · revert htk; cases cT ci fk <;> intro htk <;> first | rfl | (simp [aTk] at htk)
  · rw [aFv_2 htk, va_up_s, va_up_s]; rfl
  · rw [va_up_s, va_up_n hj]
  · show c < sh.length
    have hc : va_up R a (va_up (R a) fk (some b)) i j = some c := hc
    by_cases e1 : i = a
    · subst e1
      rw [va_up_s] at hc
      by_cases e2 : j = fk
      · subst e2
        rw [va_up_s] at hc
        cases hc
        exact hb
      · rw [va_up_n e2] at hc
        exact h i j c hc
    · rw [va_up_n e1] at hc
      exact h i j c hc
theorem aCell_a {G : aG} {ρ : List Nat} {i N t : Nat} (ht : t < 3) : aCell G ρ I L R i (11 + t, N) = .inl (G.2 t, N, .inl (I i)) := by
  simp only [aCell]
  rw [if_neg (by omega), if_neg (by omega), Nat.add_sub_cancel_left]
theorem aCell_l {G : aG} {ρ : List Nat} {i N : Nat} : aCell G ρ I L R i (14, N) = .inl (G.2 3, N, .inr (.inl (L i))) := by simp [aCell]
theorem Ex.iald {a N j : Nat} {i : Int32} (hd : decode mi.2.1 pc = .ok (.iaload, 1)) (hs : sh[a]? = some (11, N)) (hi : vp_in i N) (hj : i.toNatClampNeg = j) (kk : Ex d mc ms mi k n (pc + 1) ls (.int (I a j) :: st) (sh, I, L, R) Q) : Ex d mc ms mi k n pc ls (.int i :: .ref a :: st) (sh, I, L, R) Q := by
  subst hj
  intro p l e s m args below meth c G A ρ0 C H locs ρ cs h0 hR hS hL
  exact va_iald C.1 C.2.1 C.2.2.2.2.2.2.2.2.1 hR.2.2.1 a 0 (by rw [aW_get (S := (sh, I, L, R)) hs, aCell_a (t := 0) (by decide)]) rfl hi hd (kk p l e s m args below meth c G A ρ0 C H locs ρ cs h0 hR hS hL)
theorem Ex.bald {a N j : Nat} {i : Int32} (hd : decode mi.2.1 pc = .ok (.baload, 1)) (hs : sh[a]? = some (12, N)) (hi : vp_in i N) (hj : i.toNatClampNeg = j) (kk : Ex d mc ms mi k n (pc + 1) ls (.int (I a j) :: st) (sh, I, L, R) Q) : Ex d mc ms mi k n pc ls (.int i :: .ref a :: st) (sh, I, L, R) Q := by
  subst hj
  intro p l e s m args below meth c G A ρ0 C H locs ρ cs h0 hR hS hL
  exact va_bald C.1 C.2.1 C.2.2.2.2.2.2.2.2.1 hR.2.2.1 a 1 (by rw [aW_get (S := (sh, I, L, R)) hs, aCell_a (t := 1) (by decide)]) rfl hi hd (kk p l e s m args below meth c G A ρ0 C H locs ρ cs h0 hR hS hL)
theorem Ex.zald {a N j : Nat} {i : Int32} (hd : decode mi.2.1 pc = .ok (.baload, 1)) (hs : sh[a]? = some (13, N)) (hi : vp_in i N) (hj : i.toNatClampNeg = j) (kk : Ex d mc ms mi k n (pc + 1) ls (.int (I a j) :: st) (sh, I, L, R) Q) : Ex d mc ms mi k n pc ls (.int i :: .ref a :: st) (sh, I, L, R) Q := by
  subst hj
  intro p l e s m args below meth c G A ρ0 C H locs ρ cs h0 hR hS hL
  exact va_zald C.1 C.2.1 C.2.2.2.2.2.2.2.2.1 hR.2.2.1 a 2 (by rw [aW_get (S := (sh, I, L, R)) hs, aCell_a (t := 2) (by decide)]) rfl hi hd (kk p l e s m args below meth c G A ρ0 C H locs ρ cs h0 hR hS hL)
theorem Ex.lald {a N j : Nat} {i : Int32} (hd : decode mi.2.1 pc = .ok (.laload, 1)) (hs : sh[a]? = some (14, N)) (hi : vp_in i N) (hj : i.toNatClampNeg = j) (kk : Ex d mc ms mi k n (pc + 1) ls (.long (L a j) :: st) (sh, I, L, R) Q) : Ex d mc ms mi k n pc ls (.int i :: .ref a :: st) (sh, I, L, R) Q := by
  subst hj
  intro p l e s m args below meth c G A ρ0 C H locs ρ cs h0 hR hS hL
  exact va_lald C.1 C.2.1 C.2.2.2.2.2.2.2.2.1 hR.2.2.1 a 3 (by rw [aW_get (S := (sh, I, L, R)) hs, aCell_l]) rfl hi hd (kk p l e s m args below meth c G A ρ0 C H locs ρ cs h0 hR hS hL)
theorem aW_row {G : aG} {ρ : List Nat} {a N t : Nat} {f : Nat → Int32} (ht : t < 3) (hs : sh[a]? = some (11 + t, N)) : (aW G ρ (sh, I, L, R)).set a (ρ.getD a 0, .inl (G.2 t, N, .inl f)) = aW G ρ (sh, va_up I a f, L, R) := by
  refine aW_set hs ?_ (fun i kn' hi => aCell_c (va_up_n hi) rfl rfl)
  rw [aCell_a ht, va_up_s]
theorem Ex.iast {a N j : Nat} {i x : Int32} (hd : decode mi.2.1 pc = .ok (.iastore, 1)) (hs : sh[a]? = some (11, N)) (hi : vp_in i N) (hj : i.toNatClampNeg = j) (kk : Ex d mc ms mi k n (pc + 1) ls st (sh, va_up I a (upd (I a) j x), L, R) Q) : Ex d mc ms mi k n pc ls (.int x :: .int i :: .ref a :: st) (sh, I, L, R) Q := by
  subst hj
  intro p l e s m args below meth c G A ρ0 C H locs ρ cs h0 hR hS hL
  refine va_iast C.1 C.2.1 C.2.2.2.2.2.2.2.2.1 hR.2.2.1 hR.2.2.2 hS a 0 (by rw [aW_get (S := (sh, I, L, R)) hs, aCell_a (t := 0) (by decide)]) rfl hi hd (fun H1 locs1 hP1 hD1 hS1 => ?_)
  rw [aW_row (t := 0) (by decide) hs] at hP1 hD1
  exact kk p l e s m args below meth c G A ρ0 C H1 locs1 ρ cs h0 ⟨hR.1, hR.2.1, hP1, hD1⟩ hS1 hL
theorem Ex.bast {a N j : Nat} {i x : Int32} (hd : decode mi.2.1 pc = .ok (.bastore, 1)) (hs : sh[a]? = some (12, N)) (hi : vp_in i N) (hj : i.toNatClampNeg = j) (kk : Ex d mc ms mi k n (pc + 1) ls st (sh, va_up I a (upd (I a) j (vp_nar .byte x)), L, R) Q) : Ex d mc ms mi k n pc ls (.int x :: .int i :: .ref a :: st) (sh, I, L, R) Q := by
  subst hj
  intro p l e s m args below meth c G A ρ0 C H locs ρ cs h0 hR hS hL
  refine va_bast C.1 C.2.1 C.2.2.2.2.2.2.2.2.1 hR.2.2.1 hR.2.2.2 hS a 1 (by rw [aW_get (S := (sh, I, L, R)) hs, aCell_a (t := 1) (by decide)]) rfl hi hd (fun H1 locs1 hP1 hD1 hS1 => ?_)
  rw [aW_row (t := 1) (by decide) hs] at hP1 hD1
  exact kk p l e s m args below meth c G A ρ0 C H1 locs1 ρ cs h0 ⟨hR.1, hR.2.1, hP1, hD1⟩ hS1 hL
theorem Ex.zast {a N j : Nat} {i x : Int32} (hd : decode mi.2.1 pc = .ok (.bastore, 1)) (hs : sh[a]? = some (13, N)) (hi : vp_in i N) (hj : i.toNatClampNeg = j) (kk : Ex d mc ms mi k n (pc + 1) ls st (sh, va_up I a (upd (I a) j (vp_nar .boolean x)), L, R) Q) : Ex d mc ms mi k n pc ls (.int x :: .int i :: .ref a :: st) (sh, I, L, R) Q := by
  subst hj
  intro p l e s m args below meth c G A ρ0 C H locs ρ cs h0 hR hS hL
  refine va_zast C.1 C.2.1 C.2.2.2.2.2.2.2.2.1 hR.2.2.1 hR.2.2.2 hS a 2 (by rw [aW_get (S := (sh, I, L, R)) hs, aCell_a (t := 2) (by decide)]) rfl hi hd (fun H1 locs1 hP1 hD1 hS1 => ?_)
  rw [aW_row (t := 2) (by decide) hs] at hP1 hD1
  exact kk p l e s m args below meth c G A ρ0 C H1 locs1 ρ cs h0 ⟨hR.1, hR.2.1, hP1, hD1⟩ hS1 hL
theorem Ex.last {a N j : Nat} {i : Int32} {x : Int64} (hd : decode mi.2.1 pc = .ok (.lastore, 1)) (hs : sh[a]? = some (14, N)) (hi : vp_in i N) (hj : i.toNatClampNeg = j) (kk : Ex d mc ms mi k n (pc + 1) ls st (sh, I, va_up L a (vp_updL (L a) j x), R) Q) : Ex d mc ms mi k n pc ls (.long x :: .int i :: .ref a :: st) (sh, I, L, R) Q := by
  subst hj
  intro p l e s m args below meth c G A ρ0 C H locs ρ cs h0 hR hS hL
  refine va_last C.1 C.2.1 C.2.2.2.2.2.2.2.2.1 hR.2.2.1 hR.2.2.2 hS a 3 (by rw [aW_get (S := (sh, I, L, R)) hs, aCell_l]) rfl hi hd (fun H1 locs1 hP1 hD1 hS1 => ?_)
  rw [aW_set hs (I' := I) (L' := va_up L a (vp_updL (L a) i.toNatClampNeg x)) (R' := R) (by rw [aCell_l, va_up_s]) (fun i kn' hi => aCell_c rfl (va_up_n hi) rfl)] at hP1 hD1
  exact kk p l e s m args below meth c G A ρ0 C H1 locs1 ρ cs h0 ⟨hR.1, hR.2.1, hP1, hD1⟩ hS1 hL
theorem Ex.alen {a N t : Nat} (hd : decode mi.2.1 pc = .ok (.arraylength, 1)) (hs : sh[a]? = some (11 + t, N)) (ht : t < 3) (kk : Ex d mc ms mi k n (pc + 1) ls (.int (Int32.ofNat N) :: st) (sh, I, L, R) Q) : Ex d mc ms mi k n pc ls (.ref a :: st) (sh, I, L, R) Q := by
  intro p l e s m args below meth c G A ρ0 C H locs ρ cs h0 hR hS hL
  have hty : ∃ ty, (atys G)[t]? = some (G.2 t, ty) := by
    match t, ht with
    | 0, _ => exact ⟨_, rfl⟩
    | 1, _ => exact ⟨_, rfl⟩
    | 2, _ => exact ⟨_, rfl⟩
  obtain ⟨ty, hty⟩ := hty
  exact va_alen (x := (N, .inl (I a))) C.1 C.2.1 C.2.2.2.2.2.2.2.2.1 hR.2.2.1 a t (by rw [aW_get (S := (sh, I, L, R)) hs, aCell_a ht]) hty rfl hd (kk p l e s m args below meth c G A ρ0 C H locs ρ cs h0 hR hS hL)
end EXM
