/-! THE TWO JUDGEMENTS over the abstract memory: Run (a method's contract), Ex (the rest of a method's body). -/
def aws (mi : aM) : List Cond := .code mi.1 mi.2.1 mi.2.2.1 mi.2.2.2 :: GW
def aRoom (d mc ms : Nat) : Room := { frames := d, cells := mc, slots := ms, locals := 64 * d }
def aKd : Option FieldType → Nat
  | none => 0
  | some .long => 2
  | some _ => 1
def aB (G : aG) (A : Nat → Prop) (u : List Nat × aS) (t : State) : Prop := aRep G A u.1 u.2 t.heap ∧ va_K G.1 acl (atys G) t
def aQc (G : aG) (A : Nat → Prop) (ρ : List Nat) (Q : aQ) : Nat → Array Value → State → Outcome → State → Prop
  | 0 => va_Qv (S := List Nat × aS) (fun u => Q none u.2 ∧ ρ <+: u.1) (aB G A) A
  | 1 => va_Qi (S := List Nat × aS) (fun r u => Q (some (.int r)) u.2 ∧ ρ <+: u.1) (aB G A) A
  | _ => va_Ql (S := List Nat × aS) (fun r u => Q (some (.long r)) u.2 ∧ ρ <+: u.1) (aB G A) A
/-- the class's text, and the statics that the JDK's members read: what they hold, and nobody writes them -/
def ownT : String := "board ribs  zinc  stain deep  stuff hearersin   ear   out   wear  saved slide picks water dry   week  rub   bone  came  if    or    and   not   all   min   max   "
def ownB : List Int32 := [98, 111, 97, 114, 100, 32, 114, 105, 98, 115, 32, 32, 122, 105, 110, 99, 32, 32, 115, 116, 97, 105, 110, 32, 100, 101, 101, 112, 32, 32, 115, 116, 117, 102, 102, 32, 104, 101, 97, 114, 101, 114, 115, 105, 110, 32, 32, 32, 101, 97, 114, 32, 32, 32, 111, 117, 116, 32, 32, 32, 119, 101, 97, 114, 32, 32, 115, 97, 118, 101, 100, 32, 115, 108, 105, 100, 101, 32, 112, 105, 99, 107, 115, 32, 119, 97, 116, 101, 114, 32, 100, 114, 121, 32, 32, 32, 119, 101, 101, 107, 32, 32, 114, 117, 98, 32, 32, 32, 98, 111, 110, 101, 32, 32, 99, 97, 109, 101, 32, 32, 105, 102, 32, 32, 32, 32, 111, 114, 32, 32, 32, 32, 97, 110, 100, 32, 32, 32, 110, 111, 116, 32, 32, 32, 97, 108, 108, 32, 32, 32, 109, 105, 110, 32, 32, 32, 109, 97, 120, 32, 32, 32]
def aZs (A : Nat → Prop) (U : State) (H : Heap) : Prop := (∃ aK aV : Nat, vk_S 1 [162] [ownB] (fun _ => aK) (fun _ => aV) A U H ∧ vk_R "ZincSermon$Parser" 91 ownT aK U) ∧ va_Z "java/lang/String" "COMPACT_STRINGS" "Z" (.int 1) A U H ∧ ∃ b : Option Nat, va_Z "jdk/internal/util/Preconditions" "SIOOBE_FORMATTER" "Ljava/util/function/BiFunction;" (va_rf b) A U H
theorem aZs.mv {A B : Nat → Prop} {s U : State} {H H1 : Heap} (hW : s.WarmedH U.vm) (hq : ∀ a : Nat, a < H.size → ¬ A a → H1[a]? = H[a]?) (hAB : ∀ q, B q → A q) (h : aZs A s H) : aZs B U H1 := by
  obtain ⟨⟨aK, aV, h1, h2⟩, h3, b, h4⟩ := h
  exact ⟨⟨aK, aV, ((h1.kept hq).narrow hAB).moved hW.alike, h2.warm hW⟩, ((h3.kept hq).narrow hAB).moved hW.alike, b, ((h4.kept hq).narrow hAB).moved hW.alike⟩
theorem aZs.same {A : Nat → Prop} {s U : State} {H : Heap} (hv : U.vm = s.vm) (h : aZs A s H) : aZs A U H := by
  have ha : s.vm.Alike U.vm := by rw [hv]; exact Vm.Alike.refl s.vm
  obtain ⟨⟨aK, aV, h1, h2⟩, h3, b, h4⟩ := h
  exact ⟨⟨aK, aV, h1.moved ha, h2.same hv⟩, h3.moved ha, b, h4.moved ha⟩
def aPc (G : aG) (ρ : List Nat) (av : List Value) (S : aS) (sz : Nat) : Array Value → State → Prop := va_Pc (av.map (aV ρ)) (fun U => U.heap.size = sz ∧ aRep G (fun _ => True) ρ S U.heap ∧ va_K G.1 acl (atys G) U ∧ aZs (va_A (aW G ρ S) sz) U U.heap)
/-- the method mi with the arguments av in the memory S: it returns, and Q holds of its answer and the memory then; at most d frames, mc cells, ms slots more -/
def Run (d mc ms : Nat) (mi : aM) (av : List Value) (S : aS) (Q : aQ) : Prop :=
  ∀ (l : Launch) (G : aG) (ρ : List Nat) (sz : Nat), Met l mi.1 (aws mi) (aRoom d mc ms) (aPc G ρ av S sz) (aQc G (va_A (aW G ρ S) sz) ρ Q (aKd mi.2.2.2)) mc ms (va_A (aW G ρ S) sz)
def aCtx (p : Program) (s : State) (m : MethodId) (args : Array Value) (meth : Method) (c : Code) (G : aG) (A : Nat → Prop) (mi : aM) : Prop :=
  p.tables.exec = Jvm.exec ∧ c.code = mi.2.1 ∧ meth.sig.returnType = mi.2.2.2 ∧ c.maxLocals = mi.2.2.1 ∧ s.vm.findClass mi.1.cls = some m.cls ∧ (∀ w ∈ aws mi, w.before args s = true) ∧ meth.locks = false ∧ meth.name = mi.1.name ∧ va_K G.1 acl (atys G) s ∧ (∀ q, s.heap.size ≤ q → A q) ∧ aZs A s s.heap
/-- from pc on, with these locals, this stack, this memory, k cells and n slots taken: the method mi returns and Q holds then -/
def Ex (d mc ms : Nat) (mi : aM) (k n pc : Nat) (ls : aLs) (st : List Value) (S : aS) (Q : aQ) : Prop :=
  ∀ (p : Program) (l : Launch) (e : Env) (s : State) (m : MethodId) (args : Array Value) (below : List Frame) (meth : Method) (c : Code) (G : aG) (A : Nat → Prop) (ρ0 : List Nat), aCtx p s m args meth c G A mi →
  ∀ (H : Heap) (locs : List Loc) (ρ : List Nat) (cs : Array Slot), ρ0 <+: ρ → aRep G A ρ S H → va_S A s.heap H locs → aHas ρ ls cs mi.2.2.1 →
  W p l e (aRoom d mc ms) s m args below meth c H locs k n (MQ below (aQc G A ρ0 Q (aKd mi.2.2.2)) args s mc ms A) (F0 m pc cs (st.map (aV ρ)))
def aEn : List Value → aLs
  | [] => []
  | v :: vs => if v.category = 2 then some v :: none :: aEn vs else some v :: aEn vs
theorem aEn_mem (ρ : List Nat) : ∀ (av : List Value) (i0 i : Nat) (v : Value), (aEn av)[i]? = some (some v) → (i0 + i, aV ρ v) ∈ lv_args i0 (av.map (aV ρ))
  | [], _, _, _, h => by simp [aEn] at h
  | x :: xs, i0, i, v, h => by
    simp only [aEn] at h
    show (i0 + i, aV ρ v) ∈ (i0, aV ρ x) :: lv_args (if (aV ρ x).category = 2 then i0 + 2 else i0 + 1) (xs.map (aV ρ))
    rw [aV_cat]
    by_cases hc : x.category = 2
    · rw [if_pos hc] at h ⊢
      match i, h with
      | 0, h => simp at h; subst h; exact List.mem_cons_self
      | 1, h => simp at h
      | j + 2, h =>
        have := aEn_mem ρ xs (i0 + 2) j v (by simpa using h)
        rw [show i0 + (j + 2) = i0 + 2 + j by omega]
        exact List.mem_cons_of_mem _ this
    · rw [if_neg hc] at h ⊢
      match i, h with
      | 0, h => simp at h; subst h; exact List.mem_cons_self
      | j + 1, h =>
        have := aEn_mem ρ xs (i0 + 1) j v (by simpa using h)
        rw [show i0 + (j + 1) = i0 + 1 + j by omega]
        exact List.mem_cons_of_mem _ this
theorem lg_len (ρ : List Nat) : ∀ av : List Value, (lg_sl (av.map (aV ρ))).length = (aEn av).length
  | [] => rfl
  | x :: xs => by
    have h := lg_len ρ xs
    simp only [lg_sl, List.map_cons, List.flatMap_cons, List.length_append] at h ⊢
    rw [h]
    simp only [aEn, aV_cat]
    by_cases hc : x.category = 2 <;> simp [hc] <;> omega
theorem Met.ofWF {l : Launch} {y : MethodName} {ws ws' : List Cond} {rm : Room} {Pc : Array Value → State → Prop} {Qc : Array Value → State → Outcome → State → Prop} {mc ms : Nat} {free : Addr → Prop} {cc : ByteArray} {maxL : Nat} {ret : Option FieldType}
    (hy : plainFor y = true) (hw : ws = Cond.code y cc maxL ret :: ws')
    (body : ∀ p e s m args below meth c s₁, BodyLoose p l y (headSpec ws rm) cc maxL ret e s m args below meth c s₁ → c.maxLocals = maxL → Pc args s →
      W p l e (headSpec ws rm).room s m args below meth c s.heap [] 0 0 (MQ below Qc args s mc ms free) (entryFrame m args maxL)) : Met l y ws rm Pc Qc mc ms free := by
  refine MetFree.of_bodySF (code := cc) (maxLocals := maxL) (ret := ret) hy ?_ ?_
  · intro args s m h hn
    obtain ⟨meth, c, h1, h2, h3, h4, h5, h6, -, -⟩ := Cond.code_spec hn (atoms_spec (ws := ws) h _ (by rw [hw]; exact List.mem_cons_self))
    exact ⟨meth, c, h1, h2, h3, h4, h5, h6⟩
  · intro p e s m args below meth c s₁ B hml hP _
    have hh0 : s₁.heap = s.heap := by rw [B.state]; rfl
    obtain ⟨t, a1, o, b1, b2, b3⟩ := body p e s m args below meth c s₁ B hml hP s₁ hh0 (Stand.of_body B)
    exact ⟨t, o, a1, b1, b2, ⟨b3.1, b3.2⟩⟩
theorem Run.of {d mc ms : Nat} {mi : aM} {av : List Value} {S : aS} {Q : aQ} {ls : aLs} (hy : plainFor mi.1 = true) (hn : (aEn av).length ≤ mi.2.2.1) (hls : aEn av ++ List.replicate (mi.2.2.1 - (aEn av).length) none = ls) (h : Ex d mc ms mi 0 0 0 ls [] S Q) : Run d mc ms mi av S Q := by
  intro l G ρ sz
  refine Met.ofWF (cc := mi.2.1) (maxL := mi.2.2.1) (ret := mi.2.2.2) hy rfl ?_
  intro p e s m args below meth c s₁ B hml hv
  obtain ⟨rfl, hsz, ⟨hρ, hok, hP, hD⟩, hK, hZ⟩ := hv
  subst hsz
  have hts := atoms_spec (ws := aws mi) B.pre
  have hown : s.vm.findClass mi.1.cls = some m.cls := findClass_of_methodNamed B.named
  have hA : ∀ q : Nat, s.heap.size ≤ q → va_A (aW G ρ S) s.heap.size q := fun q h => Or.inr h
  have hl := lv_entry (av.map (aV ρ)) (n := mi.2.2.1) (by rw [lg_len]; exact hn)
  have K : W p l e (aRoom d mc ms) s m (av.map (aV ρ)).toArray below meth c s.heap [] 0 0 (MQ below (aQc G (va_A (aW G ρ S) s.heap.size) ρ Q (aKd mi.2.2.2)) (av.map (aV ρ)).toArray s mc ms (va_A (aW G ρ S) s.heap.size)) (F0 m 0 ((lg_sl (av.map (aV ρ)) ++ List.replicate (mi.2.2.1 - (lg_sl (av.map (aV ρ))).length) Slot.unset).toArray) []) := by
    refine h p l e s m (av.map (aV ρ)).toArray below meth c G (va_A (aW G ρ S) s.heap.size) ρ ⟨B.exec, B.bytes, B.returns, hml, hown, hts, B.notSynchronized, (name_of_methodNamed B.named B.method).1, hK, hA, hZ⟩ s.heap [] ρ ((lg_sl (av.map (aV ρ)) ++ List.replicate (mi.2.2.1 - (lg_sl (av.map (aV ρ))).length) Slot.unset).toArray) (List.prefix_refl _) ⟨hρ, hok, hP, hD.self⟩ va_S.rf ?_
    refine ⟨hl.1, hl.2.1, fun q hq => ?_⟩
    obtain ⟨j, x⟩ := q
    obtain ⟨u, h1, rfl⟩ := aAs_mem.mp hq
    rw [← hls, List.getElem?_append] at h1
    split at h1
    · have h2 := aEn_mem ρ av 0 j u h1
      rw [Nat.zero_add] at h2
      exact hl.2.2 _ h2
    · rw [List.getElem?_replicate] at h1
      split at h1 <;> cases h1
  rw [lg_entry_eq]
  exact K
section EX
variable {d mc ms : Nat} {mi : aM} {k n pc : Nat} {ls : aLs} {st : List Value} {S : aS} {Q : aQ}
theorem Ex.le {ls' : aLs} (hl : aLe ls' ls) (kk : Ex d mc ms mi k n pc ls' st S Q) : Ex d mc ms mi k n pc ls st S Q :=
  fun p l e s m args below meth c G A ρ0 C H locs ρ cs h0 hR hS hL => kk p l e s m args below meth c G A ρ0 C H locs ρ cs h0 hR hS (hL.le hl)
theorem Ex.stk {st' : List Value} (h : st = st') (kk : Ex d mc ms mi k n pc ls st' S Q) : Ex d mc ms mi k n pc ls st S Q := h ▸ kk
theorem Ex.wide {k' n' : Nat} (h1 : k ≤ k') (h2 : n ≤ n') (kk : Ex d mc ms mi k' n' pc ls st S Q) : Ex d mc ms mi k n pc ls st S Q :=
  fun p l e s m args below meth c G A ρ0 C H locs ρ cs h0 hR hS hL => W.widen h1 h2 (kk p l e s m args below meth c G A ρ0 C H locs ρ cs h0 hR hS hL)
theorem Ex.iconst {z : Int} {v : Int32} (hd : decode mi.2.1 pc = .ok (.iconst z, 1)) (hv : Int32.ofInt z = v) (kk : Ex d mc ms mi k n (pc + 1) ls (.int v :: st) S Q) : Ex d mc ms mi k n pc ls st S Q :=
  fun p l e s m args below meth c G A ρ0 C H locs ρ cs h0 hR hS hL => lv_iconst C.1 C.2.1 hd hv (kk p l e s m args below meth c G A ρ0 C H locs ρ cs h0 hR hS hL)
theorem Ex.bipush {z : Int} {v : Int32} (hd : decode mi.2.1 pc = .ok (.bipush z, 2)) (hv : (Int8.ofInt z).toInt32 = v) (kk : Ex d mc ms mi k n (pc + 2) ls (.int v :: st) S Q) : Ex d mc ms mi k n pc ls st S Q :=
  fun p l e s m args below meth c G A ρ0 C H locs ρ cs h0 hR hS hL => lv_bipush C.1 C.2.1 hd hv (kk p l e s m args below meth c G A ρ0 C H locs ρ cs h0 hR hS hL)
theorem Ex.sipush {z : Int} {v : Int32} (hd : decode mi.2.1 pc = .ok (.sipush z, 3)) (hv : (Int16.ofInt z).toInt32 = v) (kk : Ex d mc ms mi k n (pc + 3) ls (.int v :: st) S Q) : Ex d mc ms mi k n pc ls st S Q :=
  fun p l e s m args below meth c G A ρ0 C H locs ρ cs h0 hR hS hL => lv_sipush C.1 C.2.1 hd hv (kk p l e s m args below meth c G A ρ0 C H locs ρ cs h0 hR hS hL)
theorem Ex.lconst {z : Fin 2} {v : Int64} (hd : decode mi.2.1 pc = .ok (.lconst z, 1)) (hv : Int64.ofNat (z : Nat) = v) (kk : Ex d mc ms mi k n (pc + 1) ls (.long v :: st) S Q) : Ex d mc ms mi k n pc ls st S Q :=
  fun p l e s m args below meth c G A ρ0 C H locs ρ cs h0 hR hS hL => lv_lconst C.1 C.2.1 hd hv (kk p l e s m args below meth c G A ρ0 C H locs ρ cs h0 hR hS hL)
theorem Ex.ldcw {index : Nat} {v : Int32} (hd : decode mi.2.1 pc = .ok (.ldc_w index, 3)) (hw : Jvm.Cond.constant mi.1.cls index v ∈ GW) (kk : Ex d mc ms mi k n (pc + 3) ls (.int v :: st) S Q) : Ex d mc ms mi k n pc ls st S Q :=
  fun p l e s m args below meth c G A ρ0 C H locs ρ cs h0 hR hS hL => lv_ldcw C.1 C.2.1 C.2.2.2.2.1 (C.2.2.2.2.2.1 _ (List.mem_cons_of_mem _ hw)) hd (kk p l e s m args below meth c G A ρ0 C H locs ρ cs h0 hR hS hL)
theorem Ex.ldc {index : Nat} {v : Int32} (hd : decode mi.2.1 pc = .ok (.ldc index, 2)) (hw : Jvm.Cond.constant mi.1.cls index v ∈ GW) (kk : Ex d mc ms mi k n (pc + 2) ls (.int v :: st) S Q) : Ex d mc ms mi k n pc ls st S Q :=
  fun p l e s m args below meth c G A ρ0 C H locs ρ cs h0 hR hS hL => lv_ldc C.1 C.2.1 C.2.2.2.2.1 (C.2.2.2.2.2.1 _ (List.mem_cons_of_mem _ hw)) hd (kk p l e s m args below meth c G A ρ0 C H locs ρ cs h0 hR hS hL)
theorem Ex.ldc2 {index : Nat} {v : Int64} (hd : decode mi.2.1 pc = .ok (.ldc2_w index, 3)) (hw : Jvm.Cond.constantLong mi.1.cls index v ∈ GW) (kk : Ex d mc ms mi k n (pc + 3) ls (.long v :: st) S Q) : Ex d mc ms mi k n pc ls st S Q :=
  fun p l e s m args below meth c G A ρ0 C H locs ρ cs h0 hR hS hL => lv_ldc2 C.1 C.2.1 C.2.2.2.2.1 (C.2.2.2.2.2.1 _ (List.mem_cons_of_mem _ hw)) hd (kk p l e s m args below meth c G A ρ0 C H locs ρ cs h0 hR hS hL)
theorem Ex.iload_n {z : Fin 4} {i : Nat} {x : Int32} (hd : decode mi.2.1 pc = .ok (.iload_n z, 1)) (hi : (z : Nat) = i) (hl : ls[i]? = some (some (.int x))) (kk : Ex d mc ms mi k n (pc + 1) ls (.int x :: st) S Q) : Ex d mc ms mi k n pc ls st S Q :=
  fun p l e s m args below meth c G A ρ0 C H locs ρ cs h0 hR hS hL => lv_iload_n C.1 C.2.1 hd hi (hL.at hl) (kk p l e s m args below meth c G A ρ0 C H locs ρ cs h0 hR hS hL)
theorem Ex.iload {i : Nat} {x : Int32} (hd : decode mi.2.1 pc = .ok (.iload i, 2)) (hl : ls[i]? = some (some (.int x))) (kk : Ex d mc ms mi k n (pc + 2) ls (.int x :: st) S Q) : Ex d mc ms mi k n pc ls st S Q :=
  fun p l e s m args below meth c G A ρ0 C H locs ρ cs h0 hR hS hL => lv_iload C.1 C.2.1 hd (hL.at hl) (kk p l e s m args below meth c G A ρ0 C H locs ρ cs h0 hR hS hL)
theorem Ex.lload_n {z : Fin 4} {i : Nat} {x : Int64} (hd : decode mi.2.1 pc = .ok (.lload_n z, 1)) (hi : (z : Nat) = i) (hl : ls[i]? = some (some (.long x))) (kk : Ex d mc ms mi k n (pc + 1) ls (.long x :: st) S Q) : Ex d mc ms mi k n pc ls st S Q :=
  fun p l e s m args below meth c G A ρ0 C H locs ρ cs h0 hR hS hL => lv_lload_n C.1 C.2.1 hd hi (hL.at hl) (kk p l e s m args below meth c G A ρ0 C H locs ρ cs h0 hR hS hL)
theorem Ex.lload {i : Nat} {x : Int64} (hd : decode mi.2.1 pc = .ok (.lload i, 2)) (hl : ls[i]? = some (some (.long x))) (kk : Ex d mc ms mi k n (pc + 2) ls (.long x :: st) S Q) : Ex d mc ms mi k n pc ls st S Q :=
  fun p l e s m args below meth c G A ρ0 C H locs ρ cs h0 hR hS hL => lv_lload C.1 C.2.1 hd (hL.at hl) (kk p l e s m args below meth c G A ρ0 C H locs ρ cs h0 hR hS hL)
theorem Ex.aload_n {z : Fin 4} {i : Nat} {x : Nat} (hd : decode mi.2.1 pc = .ok (.aload_n z, 1)) (hi : (z : Nat) = i) (hl : ls[i]? = some (some (.ref x))) (kk : Ex d mc ms mi k n (pc + 1) ls (.ref x :: st) S Q) : Ex d mc ms mi k n pc ls st S Q :=
  fun p l e s m args below meth c G A ρ0 C H locs ρ cs h0 hR hS hL => lv_aload_n C.1 C.2.1 hd hi (hL.at hl) (kk p l e s m args below meth c G A ρ0 C H locs ρ cs h0 hR hS hL)
theorem Ex.aload {i : Nat} {x : Nat} (hd : decode mi.2.1 pc = .ok (.aload i, 2)) (hl : ls[i]? = some (some (.ref x))) (kk : Ex d mc ms mi k n (pc + 2) ls (.ref x :: st) S Q) : Ex d mc ms mi k n pc ls st S Q :=
  fun p l e s m args below meth c G A ρ0 C H locs ρ cs h0 hR hS hL => lv_aload C.1 C.2.1 hd (hL.at hl) (kk p l e s m args below meth c G A ρ0 C H locs ρ cs h0 hR hS hL)
theorem Ex.istore_n {z : Fin 4} {i : Nat} {x : Int32} {ls' : aLs} (hd : decode mi.2.1 pc = .ok (.istore_n z, 1)) (hi : (z : Nat) = i) (hn : i < mi.2.2.1) (hl : aNl ls i = true) (he : ls.set i (some (.int x)) = ls') (kk : Ex d mc ms mi k n (pc + 1) ls' st S Q) : Ex d mc ms mi k n pc ls (.int x :: st) S Q :=
  fun p l e s m args below meth c G A ρ0 C H locs ρ cs h0 hR hS hL => lv_istore_n C.1 C.2.1 hd hi hL hn rfl (fun cs' h' => kk p l e s m args below meth c G A ρ0 C H locs ρ cs' h0 hR hS (he ▸ aHas_set1 hl rfl h'))
theorem Ex.istore {i : Nat} {x : Int32} {ls' : aLs} (hd : decode mi.2.1 pc = .ok (.istore i, 2)) (hn : i < mi.2.2.1) (hl : aNl ls i = true) (he : ls.set i (some (.int x)) = ls') (kk : Ex d mc ms mi k n (pc + 2) ls' st S Q) : Ex d mc ms mi k n pc ls (.int x :: st) S Q :=
  fun p l e s m args below meth c G A ρ0 C H locs ρ cs h0 hR hS hL => lv_istore C.1 C.2.1 hd hL hn rfl (fun cs' h' => kk p l e s m args below meth c G A ρ0 C H locs ρ cs' h0 hR hS (he ▸ aHas_set1 hl rfl h'))
theorem Ex.astore_n {z : Fin 4} {i : Nat} {x : Nat} {ls' : aLs} (hd : decode mi.2.1 pc = .ok (.astore_n z, 1)) (hi : (z : Nat) = i) (hn : i < mi.2.2.1) (hl : aNl ls i = true) (he : ls.set i (some (.ref x)) = ls') (kk : Ex d mc ms mi k n (pc + 1) ls' st S Q) : Ex d mc ms mi k n pc ls (.ref x :: st) S Q :=
  fun p l e s m args below meth c G A ρ0 C H locs ρ cs h0 hR hS hL => lv_astore_n C.1 C.2.1 hd hi hL hn rfl (fun cs' h' => kk p l e s m args below meth c G A ρ0 C H locs ρ cs' h0 hR hS (he ▸ aHas_set1 hl rfl h'))
theorem Ex.astore {i : Nat} {x : Nat} {ls' : aLs} (hd : decode mi.2.1 pc = .ok (.astore i, 2)) (hn : i < mi.2.2.1) (hl : aNl ls i = true) (he : ls.set i (some (.ref x)) = ls') (kk : Ex d mc ms mi k n (pc + 2) ls' st S Q) : Ex d mc ms mi k n pc ls (.ref x :: st) S Q :=
  fun p l e s m args below meth c G A ρ0 C H locs ρ cs h0 hR hS hL => lv_astore C.1 C.2.1 hd hL hn rfl (fun cs' h' => kk p l e s m args below meth c G A ρ0 C H locs ρ cs' h0 hR hS (he ▸ aHas_set1 hl rfl h'))
theorem Ex.lstore_n {z : Fin 4} {i : Nat} {x : Int64} {ls' : aLs} (hd : decode mi.2.1 pc = .ok (.lstore_n z, 1)) (hi : (z : Nat) = i) (hn : i + 1 < mi.2.2.1) (hl : aNl ls i = true) (he : (ls.set i (some (.long x))).set (i + 1) none = ls') (kk : Ex d mc ms mi k n (pc + 1) ls' st S Q) : Ex d mc ms mi k n pc ls (.long x :: st) S Q :=
  fun p l e s m args below meth c G A ρ0 C H locs ρ cs h0 hR hS hL => lv_lstore_n C.1 C.2.1 hd hi hL hn rfl (fun cs' h' => kk p l e s m args below meth c G A ρ0 C H locs ρ cs' h0 hR hS (he ▸ aHas_set2 hl rfl h'))
theorem Ex.lstore {i : Nat} {x : Int64} {ls' : aLs} (hd : decode mi.2.1 pc = .ok (.lstore i, 2)) (hn : i + 1 < mi.2.2.1) (hl : aNl ls i = true) (he : (ls.set i (some (.long x))).set (i + 1) none = ls') (kk : Ex d mc ms mi k n (pc + 2) ls' st S Q) : Ex d mc ms mi k n pc ls (.long x :: st) S Q :=
  fun p l e s m args below meth c G A ρ0 C H locs ρ cs h0 hR hS hL => lv_lstore C.1 C.2.1 hd hL hn rfl (fun cs' h' => kk p l e s m args below meth c G A ρ0 C H locs ρ cs' h0 hR hS (he ▸ aHas_set2 hl rfl h'))
theorem Ex.iinc {i : Nat} {z : Int} {x v : Int32} {ls' : aLs} (hd : decode mi.2.1 pc = .ok (.iinc i z, 3)) (hx : ls[i]? = some (some (.int x))) (hv : x + Int32.ofInt z = v) (hn : i < mi.2.2.1) (hl : aNl ls i = true) (he : ls.set i (some (.int v)) = ls') (kk : Ex d mc ms mi k n (pc + 3) ls' st S Q) : Ex d mc ms mi k n pc ls st S Q := by
  intro p l e s m args below meth c G A ρ0 C H locs ρ cs h0 hR hS hL
  obtain ⟨j, hj⟩ := List.getElem?_of_mem (aAs_mem.mpr ⟨_, hx, rfl⟩ : (i, aV ρ (.int x)) ∈ aAs ρ ls)
  exact lv_iinc C.1 C.2.1 hd hL (k := j) hj hv hn rfl (fun cs' h' => kk p l e s m args below meth c G A ρ0 C H locs ρ cs' h0 hR hS (he ▸ aHas_set1 hl rfl h'))
theorem Ex.dup {v : Value} (hd : decode mi.2.1 pc = .ok (.dup, 1)) (hv : v.category = 1) (kk : Ex d mc ms mi k n (pc + 1) ls (v :: v :: st) S Q) : Ex d mc ms mi k n pc ls (v :: st) S Q :=
  fun p l e s m args below meth c G A ρ0 C H locs ρ cs h0 hR hS hL => lv_dup C.1 C.2.1 hd ((aV_cat ρ v).trans hv) (kk p l e s m args below meth c G A ρ0 C H locs ρ cs h0 hR hS hL)
theorem Ex.pop {v : Value} (hd : decode mi.2.1 pc = .ok (.pop, 1)) (hv : v.category = 1) (kk : Ex d mc ms mi k n (pc + 1) ls st S Q) : Ex d mc ms mi k n pc ls (v :: st) S Q :=
  fun p l e s m args below meth c G A ρ0 C H locs ρ cs h0 hR hS hL => lv_pop C.1 C.2.1 hd ((aV_cat ρ v).trans hv) (kk p l e s m args below meth c G A ρ0 C H locs ρ cs h0 hR hS hL)
theorem Ex.dup_x1 {v w : Value} (hd : decode mi.2.1 pc = .ok (.dup_x1, 1)) (hv : v.category = 1) (hw : w.category = 1) (kk : Ex d mc ms mi k n (pc + 1) ls (v :: w :: v :: st) S Q) : Ex d mc ms mi k n pc ls (v :: w :: st) S Q :=
  fun p l e s m args below meth c G A ρ0 C H locs ρ cs h0 hR hS hL => lv_dup_x1 C.1 C.2.1 hd ((aV_cat ρ v).trans hv) ((aV_cat ρ w).trans hw) (kk p l e s m args below meth c G A ρ0 C H locs ρ cs h0 hR hS hL)
theorem Ex.dup2 {v w : Value} (hd : decode mi.2.1 pc = .ok (.dup2, 1)) (hv : v.category = 1) (hw : w.category = 1) (kk : Ex d mc ms mi k n (pc + 1) ls (v :: w :: v :: w :: st) S Q) : Ex d mc ms mi k n pc ls (v :: w :: st) S Q :=
  fun p l e s m args below meth c G A ρ0 C H locs ρ cs h0 hR hS hL => lv_dup2_11 C.1 C.2.1 hd ((aV_cat ρ v).trans hv) ((aV_cat ρ w).trans hw) (kk p l e s m args below meth c G A ρ0 C H locs ρ cs h0 hR hS hL)
theorem Ex.iadd {x y : Int32} (hd : decode mi.2.1 pc = .ok (.iadd, 1)) (kk : Ex d mc ms mi k n (pc + 1) ls (.int (x + y) :: st) S Q) : Ex d mc ms mi k n pc ls (.int y :: .int x :: st) S Q :=
  fun p l e s m args below meth c G A ρ0 C H locs ρ cs h0 hR hS hL => lv_iadd C.1 C.2.1 hd (kk p l e s m args below meth c G A ρ0 C H locs ρ cs h0 hR hS hL)
theorem Ex.isub {x y : Int32} (hd : decode mi.2.1 pc = .ok (.isub, 1)) (kk : Ex d mc ms mi k n (pc + 1) ls (.int (x - y) :: st) S Q) : Ex d mc ms mi k n pc ls (.int y :: .int x :: st) S Q :=
  fun p l e s m args below meth c G A ρ0 C H locs ρ cs h0 hR hS hL => lv_isub C.1 C.2.1 hd (kk p l e s m args below meth c G A ρ0 C H locs ρ cs h0 hR hS hL)
theorem Ex.imul {x y : Int32} (hd : decode mi.2.1 pc = .ok (.imul, 1)) (kk : Ex d mc ms mi k n (pc + 1) ls (.int (x * y) :: st) S Q) : Ex d mc ms mi k n pc ls (.int y :: .int x :: st) S Q :=
  fun p l e s m args below meth c G A ρ0 C H locs ρ cs h0 hR hS hL => lv_imul C.1 C.2.1 hd (kk p l e s m args below meth c G A ρ0 C H locs ρ cs h0 hR hS hL)
theorem Ex.iand {x y : Int32} (hd : decode mi.2.1 pc = .ok (.iand, 1)) (kk : Ex d mc ms mi k n (pc + 1) ls (.int (x &&& y) :: st) S Q) : Ex d mc ms mi k n pc ls (.int y :: .int x :: st) S Q :=
  fun p l e s m args below meth c G A ρ0 C H locs ρ cs h0 hR hS hL => lv_iand C.1 C.2.1 hd (kk p l e s m args below meth c G A ρ0 C H locs ρ cs h0 hR hS hL)
theorem Ex.ior {x y : Int32} (hd : decode mi.2.1 pc = .ok (.ior, 1)) (kk : Ex d mc ms mi k n (pc + 1) ls (.int (x ||| y) :: st) S Q) : Ex d mc ms mi k n pc ls (.int y :: .int x :: st) S Q :=
  fun p l e s m args below meth c G A ρ0 C H locs ρ cs h0 hR hS hL => lv_ior C.1 C.2.1 hd (kk p l e s m args below meth c G A ρ0 C H locs ρ cs h0 hR hS hL)
theorem Ex.ixor {x y : Int32} (hd : decode mi.2.1 pc = .ok (.ixor, 1)) (kk : Ex d mc ms mi k n (pc + 1) ls (.int (x ^^^ y) :: st) S Q) : Ex d mc ms mi k n pc ls (.int y :: .int x :: st) S Q :=
  fun p l e s m args below meth c G A ρ0 C H locs ρ cs h0 hR hS hL => lv_ixor C.1 C.2.1 hd (kk p l e s m args below meth c G A ρ0 C H locs ρ cs h0 hR hS hL)
theorem Ex.ishl {x y : Int32} (hd : decode mi.2.1 pc = .ok (.ishl, 1)) (kk : Ex d mc ms mi k n (pc + 1) ls (.int (x <<< (y &&& 31)) :: st) S Q) : Ex d mc ms mi k n pc ls (.int y :: .int x :: st) S Q :=
  fun p l e s m args below meth c G A ρ0 C H locs ρ cs h0 hR hS hL => lv_ishl C.1 C.2.1 hd (kk p l e s m args below meth c G A ρ0 C H locs ρ cs h0 hR hS hL)
theorem Ex.ishr {x y : Int32} (hd : decode mi.2.1 pc = .ok (.ishr, 1)) (kk : Ex d mc ms mi k n (pc + 1) ls (.int (x >>> (y &&& 31)) :: st) S Q) : Ex d mc ms mi k n pc ls (.int y :: .int x :: st) S Q :=
  fun p l e s m args below meth c G A ρ0 C H locs ρ cs h0 hR hS hL => lv_ishr C.1 C.2.1 hd (kk p l e s m args below meth c G A ρ0 C H locs ρ cs h0 hR hS hL)
theorem Ex.ladd {x y : Int64} (hd : decode mi.2.1 pc = .ok (.ladd, 1)) (kk : Ex d mc ms mi k n (pc + 1) ls (.long (x + y) :: st) S Q) : Ex d mc ms mi k n pc ls (.long y :: .long x :: st) S Q :=
  fun p l e s m args below meth c G A ρ0 C H locs ρ cs h0 hR hS hL => lv_ladd C.1 C.2.1 hd (kk p l e s m args below meth c G A ρ0 C H locs ρ cs h0 hR hS hL)
theorem Ex.lsub {x y : Int64} (hd : decode mi.2.1 pc = .ok (.lsub, 1)) (kk : Ex d mc ms mi k n (pc + 1) ls (.long (x - y) :: st) S Q) : Ex d mc ms mi k n pc ls (.long y :: .long x :: st) S Q :=
  fun p l e s m args below meth c G A ρ0 C H locs ρ cs h0 hR hS hL => lv_lsub C.1 C.2.1 hd (kk p l e s m args below meth c G A ρ0 C H locs ρ cs h0 hR hS hL)
theorem Ex.lmul {x y : Int64} (hd : decode mi.2.1 pc = .ok (.lmul, 1)) (kk : Ex d mc ms mi k n (pc + 1) ls (.long (x * y) :: st) S Q) : Ex d mc ms mi k n pc ls (.long y :: .long x :: st) S Q :=
  fun p l e s m args below meth c G A ρ0 C H locs ρ cs h0 hR hS hL => lv_lmul C.1 C.2.1 hd (kk p l e s m args below meth c G A ρ0 C H locs ρ cs h0 hR hS hL)
theorem Ex.land {x y : Int64} (hd : decode mi.2.1 pc = .ok (.land, 1)) (kk : Ex d mc ms mi k n (pc + 1) ls (.long (x &&& y) :: st) S Q) : Ex d mc ms mi k n pc ls (.long y :: .long x :: st) S Q :=
  fun p l e s m args below meth c G A ρ0 C H locs ρ cs h0 hR hS hL => lv_land C.1 C.2.1 hd (kk p l e s m args below meth c G A ρ0 C H locs ρ cs h0 hR hS hL)
theorem Ex.lor {x y : Int64} (hd : decode mi.2.1 pc = .ok (.lor, 1)) (kk : Ex d mc ms mi k n (pc + 1) ls (.long (x ||| y) :: st) S Q) : Ex d mc ms mi k n pc ls (.long y :: .long x :: st) S Q :=
  fun p l e s m args below meth c G A ρ0 C H locs ρ cs h0 hR hS hL => lv_lor C.1 C.2.1 hd (kk p l e s m args below meth c G A ρ0 C H locs ρ cs h0 hR hS hL)
theorem Ex.idiv {x y : Int32} (hd : decode mi.2.1 pc = .ok (.idiv, 1)) (hne : ¬ y = 0) (kk : Ex d mc ms mi k n (pc + 1) ls (.int (x / y) :: st) S Q) : Ex d mc ms mi k n pc ls (.int y :: .int x :: st) S Q :=
  fun p l e s m args below meth c G A ρ0 C H locs ρ cs h0 hR hS hL => lv_idiv C.1 C.2.1 hd hne (kk p l e s m args below meth c G A ρ0 C H locs ρ cs h0 hR hS hL)
theorem Ex.irem {x y : Int32} (hd : decode mi.2.1 pc = .ok (.irem, 1)) (hne : ¬ y = 0) (kk : Ex d mc ms mi k n (pc + 1) ls (.int (x - x / y * y) :: st) S Q) : Ex d mc ms mi k n pc ls (.int y :: .int x :: st) S Q :=
  fun p l e s m args below meth c G A ρ0 C H locs ρ cs h0 hR hS hL => lv_irem C.1 C.2.1 hd hne (kk p l e s m args below meth c G A ρ0 C H locs ρ cs h0 hR hS hL)
theorem Ex.ldiv {x y : Int64} (hd : decode mi.2.1 pc = .ok (.ldiv, 1)) (hne : ¬ y = 0) (kk : Ex d mc ms mi k n (pc + 1) ls (.long (x / y) :: st) S Q) : Ex d mc ms mi k n pc ls (.long y :: .long x :: st) S Q :=
  fun p l e s m args below meth c G A ρ0 C H locs ρ cs h0 hR hS hL => lv_ldiv C.1 C.2.1 hd hne (kk p l e s m args below meth c G A ρ0 C H locs ρ cs h0 hR hS hL)
theorem Ex.lrem {x y : Int64} (hd : decode mi.2.1 pc = .ok (.lrem, 1)) (hne : ¬ y = 0) (kk : Ex d mc ms mi k n (pc + 1) ls (.long (x - x / y * y) :: st) S Q) : Ex d mc ms mi k n pc ls (.long y :: .long x :: st) S Q :=
  fun p l e s m args below meth c G A ρ0 C H locs ρ cs h0 hR hS hL => lv_lrem C.1 C.2.1 hd hne (kk p l e s m args below meth c G A ρ0 C H locs ρ cs h0 hR hS hL)
theorem Ex.iushr {x y : Int32} (hd : decode mi.2.1 pc = .ok (.iushr, 1)) (kk : Ex d mc ms mi k n (pc + 1) ls (.int (x.toUInt32 >>> (y.toUInt32 &&& Int32.toUInt32 31)).toInt32 :: st) S Q) : Ex d mc ms mi k n pc ls (.int y :: .int x :: st) S Q :=
  fun p l e s m args below meth c G A ρ0 C H locs ρ cs h0 hR hS hL => lv_iushr C.1 C.2.1 hd rfl (kk p l e s m args below meth c G A ρ0 C H locs ρ cs h0 hR hS hL)
theorem Ex.lshl {x : Int64} {y : Int32} (hd : decode mi.2.1 pc = .ok (.lshl, 1)) (kk : Ex d mc ms mi k n (pc + 1) ls (.long (x <<< (y.toInt64 &&& 63)) :: st) S Q) : Ex d mc ms mi k n pc ls (.int y :: .long x :: st) S Q :=
  fun p l e s m args below meth c G A ρ0 C H locs ρ cs h0 hR hS hL => lv_lshl C.1 C.2.1 hd rfl (kk p l e s m args below meth c G A ρ0 C H locs ρ cs h0 hR hS hL)
theorem Ex.lshr {x : Int64} {y : Int32} (hd : decode mi.2.1 pc = .ok (.lshr, 1)) (kk : Ex d mc ms mi k n (pc + 1) ls (.long (x >>> (y.toInt64 &&& 63)) :: st) S Q) : Ex d mc ms mi k n pc ls (.int y :: .long x :: st) S Q :=
  fun p l e s m args below meth c G A ρ0 C H locs ρ cs h0 hR hS hL => lv_lshr C.1 C.2.1 hd rfl (kk p l e s m args below meth c G A ρ0 C H locs ρ cs h0 hR hS hL)
theorem Ex.i2l {x : Int32} (hd : decode mi.2.1 pc = .ok (.i2l, 1)) (kk : Ex d mc ms mi k n (pc + 1) ls (.long x.toInt64 :: st) S Q) : Ex d mc ms mi k n pc ls (.int x :: st) S Q :=
  fun p l e s m args below meth c G A ρ0 C H locs ρ cs h0 hR hS hL => lv_i2l C.1 C.2.1 hd rfl (kk p l e s m args below meth c G A ρ0 C H locs ρ cs h0 hR hS hL)
theorem Ex.l2i {x : Int64} (hd : decode mi.2.1 pc = .ok (.l2i, 1)) (kk : Ex d mc ms mi k n (pc + 1) ls (.int x.toInt32 :: st) S Q) : Ex d mc ms mi k n pc ls (.long x :: st) S Q :=
  fun p l e s m args below meth c G A ρ0 C H locs ρ cs h0 hR hS hL => lv_l2i C.1 C.2.1 hd rfl (kk p l e s m args below meth c G A ρ0 C H locs ρ cs h0 hR hS hL)
theorem Ex.i2b {x : Int32} (hd : decode mi.2.1 pc = .ok (.i2b, 1)) (kk : Ex d mc ms mi k n (pc + 1) ls (.int x.toInt8.toInt32 :: st) S Q) : Ex d mc ms mi k n pc ls (.int x :: st) S Q :=
  fun p l e s m args below meth c G A ρ0 C H locs ρ cs h0 hR hS hL => lv_i2b C.1 C.2.1 hd rfl (kk p l e s m args below meth c G A ρ0 C H locs ρ cs h0 hR hS hL)
theorem Ex.ineg {x : Int32} (hd : decode mi.2.1 pc = .ok (.ineg, 1)) (kk : Ex d mc ms mi k n (pc + 1) ls (.int (-x) :: st) S Q) : Ex d mc ms mi k n pc ls (.int x :: st) S Q :=
  fun p l e s m args below meth c G A ρ0 C H locs ρ cs h0 hR hS hL => lv_ineg C.1 C.2.1 hd (kk p l e s m args below meth c G A ρ0 C H locs ρ cs h0 hR hS hL)
theorem Ex.lcmp {x y : Int64} (hd : decode mi.2.1 pc = .ok (.lcmp, 1)) (kk : Ex d mc ms mi k n (pc + 1) ls (.int (lg_cmp x y) :: st) S Q) : Ex d mc ms mi k n pc ls (.long y :: .long x :: st) S Q :=
  fun p l e s m args below meth c G A ρ0 C H locs ρ cs h0 hR hS hL => W.lcmp C.1 C.2.1 hd (kk p l e s m args below meth c G A ρ0 C H locs ρ cs h0 hR hS hL)
theorem Ex.goto {off : Int} {tgt : Nat} (hd : decode mi.2.1 pc = .ok (.goto off, 3)) (ht : (pc : Int) + off = (tgt : Int)) (kk : Ex d mc ms mi k n tgt ls st S Q) : Ex d mc ms mi k n pc ls st S Q :=
  fun p l e s m args below meth c G A ρ0 C H locs ρ cs h0 hR hS hL => lv_goto C.1 C.2.1 hd ht (kk p l e s m args below meth c G A ρ0 C H locs ρ cs h0 hR hS hL)
theorem Ex.if_eq {x : Int32} {off : Int} {tgt : Nat} (hd : decode mi.2.1 pc = .ok (.ifCond .eq off, 3)) (ht : (pc : Int) + off = (tgt : Int)) (kt : x = 0 → Ex d mc ms mi k n tgt ls st S Q) (kf : ¬ (x = 0) → Ex d mc ms mi k n (pc + 3) ls st S Q) : Ex d mc ms mi k n pc ls (.int x :: st) S Q :=
  fun p l e s m args below meth c G A ρ0 C H locs ρ cs h0 hR hS hL => lv_if_eq C.1 C.2.1 hd ht (fun q => kt q p l e s m args below meth c G A ρ0 C H locs ρ cs h0 hR hS hL) (fun q => kf q p l e s m args below meth c G A ρ0 C H locs ρ cs h0 hR hS hL)
theorem Ex.icmp_eq {x y : Int32} {off : Int} {tgt : Nat} (hd : decode mi.2.1 pc = .ok (.if_icmp .eq off, 3)) (ht : (pc : Int) + off = (tgt : Int)) (kt : x = y → Ex d mc ms mi k n tgt ls st S Q) (kf : ¬ (x = y) → Ex d mc ms mi k n (pc + 3) ls st S Q) : Ex d mc ms mi k n pc ls (.int y :: .int x :: st) S Q :=
  fun p l e s m args below meth c G A ρ0 C H locs ρ cs h0 hR hS hL => lv_icmp_eq C.1 C.2.1 hd ht (fun q => kt q p l e s m args below meth c G A ρ0 C H locs ρ cs h0 hR hS hL) (fun q => kf q p l e s m args below meth c G A ρ0 C H locs ρ cs h0 hR hS hL)
theorem Ex.if_ne {x : Int32} {off : Int} {tgt : Nat} (hd : decode mi.2.1 pc = .ok (.ifCond .ne off, 3)) (ht : (pc : Int) + off = (tgt : Int)) (kt : ¬ x = 0 → Ex d mc ms mi k n tgt ls st S Q) (kf : x = 0 → Ex d mc ms mi k n (pc + 3) ls st S Q) : Ex d mc ms mi k n pc ls (.int x :: st) S Q :=
  fun p l e s m args below meth c G A ρ0 C H locs ρ cs h0 hR hS hL => lv_if_ne C.1 C.2.1 hd ht (fun q => kt q p l e s m args below meth c G A ρ0 C H locs ρ cs h0 hR hS hL) (fun q => kf q p l e s m args below meth c G A ρ0 C H locs ρ cs h0 hR hS hL)
theorem Ex.icmp_ne {x y : Int32} {off : Int} {tgt : Nat} (hd : decode mi.2.1 pc = .ok (.if_icmp .ne off, 3)) (ht : (pc : Int) + off = (tgt : Int)) (kt : ¬ x = y → Ex d mc ms mi k n tgt ls st S Q) (kf : x = y → Ex d mc ms mi k n (pc + 3) ls st S Q) : Ex d mc ms mi k n pc ls (.int y :: .int x :: st) S Q :=
  fun p l e s m args below meth c G A ρ0 C H locs ρ cs h0 hR hS hL => lv_icmp_ne C.1 C.2.1 hd ht (fun q => kt q p l e s m args below meth c G A ρ0 C H locs ρ cs h0 hR hS hL) (fun q => kf q p l e s m args below meth c G A ρ0 C H locs ρ cs h0 hR hS hL)
theorem Ex.if_lt {x : Int32} {off : Int} {tgt : Nat} (hd : decode mi.2.1 pc = .ok (.ifCond .lt off, 3)) (ht : (pc : Int) + off = (tgt : Int)) (kt : x < 0 → Ex d mc ms mi k n tgt ls st S Q) (kf : ¬ (x < 0) → Ex d mc ms mi k n (pc + 3) ls st S Q) : Ex d mc ms mi k n pc ls (.int x :: st) S Q :=
  fun p l e s m args below meth c G A ρ0 C H locs ρ cs h0 hR hS hL => lv_if_lt C.1 C.2.1 hd ht (fun q => kt q p l e s m args below meth c G A ρ0 C H locs ρ cs h0 hR hS hL) (fun q => kf q p l e s m args below meth c G A ρ0 C H locs ρ cs h0 hR hS hL)
theorem Ex.icmp_lt {x y : Int32} {off : Int} {tgt : Nat} (hd : decode mi.2.1 pc = .ok (.if_icmp .lt off, 3)) (ht : (pc : Int) + off = (tgt : Int)) (kt : x < y → Ex d mc ms mi k n tgt ls st S Q) (kf : ¬ (x < y) → Ex d mc ms mi k n (pc + 3) ls st S Q) : Ex d mc ms mi k n pc ls (.int y :: .int x :: st) S Q :=
  fun p l e s m args below meth c G A ρ0 C H locs ρ cs h0 hR hS hL => lv_icmp_lt C.1 C.2.1 hd ht (fun q => kt q p l e s m args below meth c G A ρ0 C H locs ρ cs h0 hR hS hL) (fun q => kf q p l e s m args below meth c G A ρ0 C H locs ρ cs h0 hR hS hL)
theorem Ex.if_ge {x : Int32} {off : Int} {tgt : Nat} (hd : decode mi.2.1 pc = .ok (.ifCond .ge off, 3)) (ht : (pc : Int) + off = (tgt : Int)) (kt : 0 ≤ x → Ex d mc ms mi k n tgt ls st S Q) (kf : ¬ (0 ≤ x) → Ex d mc ms mi k n (pc + 3) ls st S Q) : Ex d mc ms mi k n pc ls (.int x :: st) S Q :=
  fun p l e s m args below meth c G A ρ0 C H locs ρ cs h0 hR hS hL => lv_if_ge C.1 C.2.1 hd ht (fun q => kt q p l e s m args below meth c G A ρ0 C H locs ρ cs h0 hR hS hL) (fun q => kf q p l e s m args below meth c G A ρ0 C H locs ρ cs h0 hR hS hL)
theorem Ex.icmp_ge {x y : Int32} {off : Int} {tgt : Nat} (hd : decode mi.2.1 pc = .ok (.if_icmp .ge off, 3)) (ht : (pc : Int) + off = (tgt : Int)) (kt : y ≤ x → Ex d mc ms mi k n tgt ls st S Q) (kf : ¬ (y ≤ x) → Ex d mc ms mi k n (pc + 3) ls st S Q) : Ex d mc ms mi k n pc ls (.int y :: .int x :: st) S Q :=
  fun p l e s m args below meth c G A ρ0 C H locs ρ cs h0 hR hS hL => lv_icmp_ge C.1 C.2.1 hd ht (fun q => kt q p l e s m args below meth c G A ρ0 C H locs ρ cs h0 hR hS hL) (fun q => kf q p l e s m args below meth c G A ρ0 C H locs ρ cs h0 hR hS hL)
theorem Ex.if_gt {x : Int32} {off : Int} {tgt : Nat} (hd : decode mi.2.1 pc = .ok (.ifCond .gt off, 3)) (ht : (pc : Int) + off = (tgt : Int)) (kt : 0 < x → Ex d mc ms mi k n tgt ls st S Q) (kf : ¬ (0 < x) → Ex d mc ms mi k n (pc + 3) ls st S Q) : Ex d mc ms mi k n pc ls (.int x :: st) S Q :=
  fun p l e s m args below meth c G A ρ0 C H locs ρ cs h0 hR hS hL => lv_if_gt C.1 C.2.1 hd ht (fun q => kt q p l e s m args below meth c G A ρ0 C H locs ρ cs h0 hR hS hL) (fun q => kf q p l e s m args below meth c G A ρ0 C H locs ρ cs h0 hR hS hL)
theorem Ex.icmp_gt {x y : Int32} {off : Int} {tgt : Nat} (hd : decode mi.2.1 pc = .ok (.if_icmp .gt off, 3)) (ht : (pc : Int) + off = (tgt : Int)) (kt : y < x → Ex d mc ms mi k n tgt ls st S Q) (kf : ¬ (y < x) → Ex d mc ms mi k n (pc + 3) ls st S Q) : Ex d mc ms mi k n pc ls (.int y :: .int x :: st) S Q :=
  fun p l e s m args below meth c G A ρ0 C H locs ρ cs h0 hR hS hL => lv_icmp_gt C.1 C.2.1 hd ht (fun q => kt q p l e s m args below meth c G A ρ0 C H locs ρ cs h0 hR hS hL) (fun q => kf q p l e s m args below meth c G A ρ0 C H locs ρ cs h0 hR hS hL)
theorem Ex.if_le {x : Int32} {off : Int} {tgt : Nat} (hd : decode mi.2.1 pc = .ok (.ifCond .le off, 3)) (ht : (pc : Int) + off = (tgt : Int)) (kt : x ≤ 0 → Ex d mc ms mi k n tgt ls st S Q) (kf : ¬ (x ≤ 0) → Ex d mc ms mi k n (pc + 3) ls st S Q) : Ex d mc ms mi k n pc ls (.int x :: st) S Q :=
  fun p l e s m args below meth c G A ρ0 C H locs ρ cs h0 hR hS hL => lv_if_le C.1 C.2.1 hd ht (fun q => kt q p l e s m args below meth c G A ρ0 C H locs ρ cs h0 hR hS hL) (fun q => kf q p l e s m args below meth c G A ρ0 C H locs ρ cs h0 hR hS hL)
theorem Ex.icmp_le {x y : Int32} {off : Int} {tgt : Nat} (hd : decode mi.2.1 pc = .ok (.if_icmp .le off, 3)) (ht : (pc : Int) + off = (tgt : Int)) (kt : x ≤ y → Ex d mc ms mi k n tgt ls st S Q) (kf : ¬ (x ≤ y) → Ex d mc ms mi k n (pc + 3) ls st S Q) : Ex d mc ms mi k n pc ls (.int y :: .int x :: st) S Q :=
  fun p l e s m args below meth c G A ρ0 C H locs ρ cs h0 hR hS hL => lv_icmp_le C.1 C.2.1 hd ht (fun q => kt q p l e s m args below meth c G A ρ0 C H locs ρ cs h0 hR hS hL) (fun q => kf q p l e s m args below meth c G A ρ0 C H locs ρ cs h0 hR hS hL)
theorem Ex.tableOut {dflt lo hi : Int} {offs : Array Int} {len : Nat} {x : Int32} {tgt : Nat} (hd : decode mi.2.1 pc = .ok (.tableswitch dflt lo hi offs, len)) (h : x.toInt < lo ∨ hi < x.toInt) (ht : (pc : Int) + dflt = (tgt : Int)) (kk : Ex d mc ms mi k n tgt ls st S Q) : Ex d mc ms mi k n pc ls (.int x :: st) S Q :=
  fun p l e s m args below meth c G A ρ0 C H locs ρ cs h0 hR hS hL => lv_tableOut C.1 C.2.1 hd h ht (kk p l e s m args below meth c G A ρ0 C H locs ρ cs h0 hR hS hL)
theorem Ex.tableIn {dflt lo hi : Int} {offs : Array Int} {len : Nat} {x : Int32} {off : Int} {tgt : Nat} (hd : decode mi.2.1 pc = .ok (.tableswitch dflt lo hi offs, len)) (h1 : ¬ x.toInt < lo) (h2 : ¬ hi < x.toInt) (ho : offs[(x.toInt - lo).toNat]? = some off) (ht : (pc : Int) + off = (tgt : Int)) (kk : Ex d mc ms mi k n tgt ls st S Q) : Ex d mc ms mi k n pc ls (.int x :: st) S Q :=
  fun p l e s m args below meth c G A ρ0 C H locs ρ cs h0 hR hS hL => lv_tableIn C.1 C.2.1 hd h1 h2 ho ht (kk p l e s m args below meth c G A ρ0 C H locs ρ cs h0 hR hS hL)
theorem Ex.lookup {dflt : Int} {ps : Array (Int × Int)} {len : Nat} {x : Int32} {off : Int} {tgt : Nat} (hd : decode mi.2.1 pc = .ok (.lookupswitch dflt ps, len)) (hp : (ps.toList.zip (ps.toList.drop 1)).all (fun (a, next) => a.1 < next.1) = true) (ho : Op.lookupswitch.offset ps.toList dflt x.toInt = off) (ht : (pc : Int) + off = (tgt : Int)) (kk : Ex d mc ms mi k n tgt ls st S Q) : Ex d mc ms mi k n pc ls (.int x :: st) S Q :=
  fun p l e s m args below meth c G A ρ0 C H locs ρ cs h0 hR hS hL => lv_lookup C.1 C.2.1 hd hp ho ht (kk p l e s m args below meth c G A ρ0 C H locs ρ cs h0 hR hS hL)
theorem Ex.vret (hr : mi.2.2.2 = none) (hd : decode mi.2.1 pc = .ok (.return_, 1)) (h1 : k ≤ mc) (h2 : n ≤ ms) (hq : Q none S) : Ex d mc ms mi k n pc ls [] S Q := by
  intro p l e s m args below meth c G A ρ0 C H locs ρ cs h0 hR hS hL
  refine W.widen h1 h2 (W.vret C.1 C.2.1 (C.2.2.1.trans hr) (fun t ht hW => ?_) hS.2.2 hd C.2.2.2.2.2.2.1)
  rw [hr]
  exact ⟨⟨(ρ, S), rfl, ⟨hq, h0⟩, by rw [ht]; exact hR, va_K.moved hW.alike C.2.2.2.2.2.2.2.2.1⟩, hS.F ht⟩
theorem Ex.iret {ty : FieldType} {v : Int32} (hr : mi.2.2.2 = some ty) (hk : aKd (some ty) = 1) (hn : narrow ty (.int v) = .int v) (hd : decode mi.2.1 pc = .ok (.ireturn, 1)) (h1 : k ≤ mc) (h2 : n ≤ ms) (hq : Q (some (.int v)) S) : Ex d mc ms mi k n pc ls [.int v] S Q := by
  intro p l e s m args below meth c G A ρ0 C H locs ρ cs h0 hR hS hL
  refine W.widen h1 h2 (W.zret C.1 C.2.1 (C.2.2.1.trans hr) hn (fun t ht hW => ?_) hS.2.2 hd C.2.2.2.2.2.2.1)
  rw [hr, hk]
  exact ⟨⟨v, (ρ, S), rfl, ⟨hq, h0⟩, by rw [ht]; exact hR, va_K.moved hW.alike C.2.2.2.2.2.2.2.2.1⟩, hS.F ht⟩
theorem Ex.lret {v : Int64} (hr : mi.2.2.2 = some .long) (hd : decode mi.2.1 pc = .ok (.lreturn, 1)) (h1 : k ≤ mc) (h2 : n ≤ ms) (hq : Q (some (.long v)) S) : Ex d mc ms mi k n pc ls [.long v] S Q := by
  intro p l e s m args below meth c G A ρ0 C H locs ρ cs h0 hR hS hL
  refine W.widen h1 h2 (W.lret C.1 C.2.1 (C.2.2.1.trans hr) (fun t ht hW => ?_) hS.2.2 hd C.2.2.2.2.2.2.1)
  rw [hr]
  exact ⟨⟨v, (ρ, S), rfl, ⟨hq, h0⟩, by rw [ht]; exact hR, va_K.moved hW.alike C.2.2.2.2.2.2.2.2.1⟩, hS.F ht⟩
end EX
