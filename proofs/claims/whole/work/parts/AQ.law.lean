/-! THE CLAIM OUT OF ONE WALK OF THE LAW'S BODY. Your part is whole_start (and what it stands on); all else here is the same for every law, but numbers. -/
def R_law : String := "ZincSermonLaw"
def lw_P (b : Addr) (xs : List Int32) (args : Array Value) (s : State) : Prop := args = #[.ref b] ∧ s.IntsAt b xs ∧ xs.length ≤ 3072 ∧ (Jvm.Cond.and given_1 narrow_1).before args s = true
def lw_Q (_ : Array Value) (s : State) (o : Outcome) (t : State) : Prop := o = .returned (some (.int 1)) ∧ Framed s o t [] 600000 7302250
def lw_Z (below : List Frame) (a : Array Value) (s : State) : State → Prop := fun t => ∃ o, t.status = .running ∧ Ended t below o ∧ lw_Q a s o t
/-- the law's own end, with 1 on the stack, nothing written that was there before, its room as the claim has it -/
theorem lw_ret {p : Program} {l : Launch} {e : Env} {s : State} {m : MethodId} {below : List Frame} {meth : Method} {c : Code} {b : Nat} (hx : p.tables.exec = Jvm.exec) (hb : c.code = code) (hr : meth.sig.returnType = ret) (hlocks : meth.locks = false) {pc : Nat} {H : Heap} {ls : Array Slot} (hdg : decode code pc = .ok (.ireturn, 1)) : W p l e room_1 s m #[Value.ref b] below meth c H [] 600000 7302250 (lw_Z below #[Value.ref b] s) (F0 m pc ls [.int 1]) := by
  intro T hT X
  obtain ⟨fs, hret, hrun, hended, hW, hframe⟩ := X.leave (v := some (.int 1)) (hlocks := hlocks) (fun h => by rw [hr] at h; cases h)
  have hmeth' : T.vm.method? m = some meth := X.method'
  refine ⟨T.setFrames fs, ?_, .returned (some (.int 1)), hrun, hended, rfl, ⟨_, rfl⟩, hW, hframe⟩
  jvm_step X.here [X.here.top, hx, hb, hdg, hmeth', hr, ret, narrow_b1]
  (try refine ⟨rfl, ?_⟩); (try refine ⟨rfl, ?_⟩)
  first | (intro acts; rw [hret _ acts rfl rfl rfl]) | rw [hret _ _ rfl rfl rfl]
  exact Steps.refl _
/-- what holds at the law's entry: the machine, the code, the tables' words (any of lw_tbl by 'hts w (by decide +kernel)'), the script of L ints xs at the cell b, what the Statement gives of the start (any of its parts by flat_of_before) -/
def lw_At (p : Program) (s : State) (m : MethodId) (meth : Method) (c : Code) (b L : Nat) (xs : Nat → Int32) : Prop :=
  p.tables.exec = Jvm.exec ∧ c.code = code ∧ meth.sig.returnType = ret ∧ c.maxLocals = 4 ∧ s.vm.findClass R_law = some m.cls ∧ (∀ w ∈ lw_tbl, w.before #[Value.ref b] s = true) ∧ va_X b L xs s s.heap ∧ b < s.heap.size ∧ meth.locks = false ∧ (Jvm.Cond.and given_1 narrow_1).before #[Value.ref b] s = true
/-! the law's own rows -/
abbrev aLo (s : State) : Nat → Prop := fun q => s.heap.size ≤ q
def LC (p : Program) (s : State) (m : MethodId) (meth : Method) (c : Code) (b len : Nat) (xs : Nat → Int32) (G : aG) : Prop := lw_At p s m meth c b len xs ∧ va_K G.1 acl (atys G) s ∧ aZs (aLo s) s s.heap
def aVo (b : Nat) (ρ : List Nat) : Option Value → Value
  | none => .ref b
  | some v => aV ρ v
def aHl (ρ : List Nat) (b : Nat) (ls : aLs) (cs : Array Slot) : Prop := lv_has cs 4 ((0, .ref b) :: aAs ρ ls)
def ExL (len : Nat) (xs : Nat → Int32) (k n pc : Nat) (ls : aLs) (st : List (Option Value)) (S : aS) : Prop :=
  ∀ (p : Program) (l : Launch) (e : Env) (s : State) (m : MethodId) (below : List Frame) (meth : Method) (c : Code) (b : Nat) (G : aG), LC p s m meth c b len xs G →
  ∀ (H : Heap) (ρ : List Nat) (cs : Array Slot), aRep G (aLo s) ρ S H → va_S (aLo s) s.heap H [] → aHl ρ b ls cs →
  W p l e room_1 s m #[Value.ref b] below meth c H [] k n (lw_Z below #[Value.ref b] s) (F0 m pc cs (st.map (aVo b ρ)))
theorem aHl.has {ρ : List Nat} {b : Nat} {ls : aLs} {cs : Array Slot} (h : aHl ρ b ls cs) : aHas ρ ls cs 4 := ⟨h.1, h.2.1, fun q hq => h.2.2 q (List.mem_cons_of_mem _ hq)⟩
theorem aHl.of {ρ : List Nat} {b : Nat} {ls : aLs} {cs : Array Slot} (h : aHas ρ ls cs 4) (h0 : cs[0]? = some (.val (.ref b))) : aHl ρ b ls cs := ⟨h.1, h.2.1, fun q hq => by
  rcases List.mem_cons.mp hq with e | e
  · rw [e]; exact h0
  · exact h.2.2 q e⟩
theorem aHl.b {ρ : List Nat} {b : Nat} {ls : aLs} {cs : Array Slot} (h : aHl ρ b ls cs) : cs[0]? = some (.val (.ref b)) := h.2.2 (0, .ref b) List.mem_cons_self
theorem aHl_set {ρ : List Nat} {b i : Nat} {ls : aLs} {cs : Array Slot} {v w : Value} (hi : 0 < i) (hl : aNl ls i = true) (hw : aV ρ v = w) (h : lv_has cs 4 ((i, w) :: (((0, Value.ref b) :: aAs ρ ls) : List (Nat × Value)).filter (fun q => !(q.1 == i) && !(q.1 + 1 == i && q.2.category == 2)))) : aHl ρ b (ls.set i (some v)) cs := by
  refine aHl.of (aHas_set1 hl hw ⟨h.1, h.2.1, fun q hq => ?_⟩) (h.2.2 (0, .ref b) (List.mem_cons_of_mem _ (List.mem_filter.mpr ⟨List.mem_cons_self, ?_⟩)))
  · refine h.2.2 q ?_
    rcases List.mem_cons.mp hq with e | e
    · rw [e]; exact List.mem_cons_self
    · obtain ⟨e1, e2⟩ := List.mem_filter.mp e
      exact List.mem_cons_of_mem _ (List.mem_filter.mpr ⟨List.mem_cons_of_mem _ e1, e2⟩)
  · have e1 : ((0 : Nat) == i) = false := by simp; omega
    show (!((0 : Nat) == i) && !(0 + 1 == i && (Value.ref b).category == 2)) = true
    rw [e1]
    have : ((Value.ref b).category == 2) = false := rfl
    rw [this, Bool.and_false]; rfl
section EXL
variable {len : Nat} {xs : Nat → Int32} {k n pc : Nat} {ls : aLs} {st : List (Option Value)} {S : aS}
theorem ExL.iconst {z : Int} {v : Int32} (hd : decode code pc = .ok (.iconst z, 1)) (hv : Int32.ofInt z = v) (kk : ExL len xs k n (pc + 1) ls (some (.int v) :: st) S) : ExL len xs k n pc ls st S :=
  fun p l e s m below meth c b G C H ρ cs hR hS hL => lv_iconst C.1.1 C.1.2.1 hd hv (kk p l e s m below meth c b G C H ρ cs hR hS hL)
theorem ExL.bipush {z : Int} {v : Int32} (hd : decode code pc = .ok (.bipush z, 2)) (hv : (Int8.ofInt z).toInt32 = v) (kk : ExL len xs k n (pc + 2) ls (some (.int v) :: st) S) : ExL len xs k n pc ls st S :=
  fun p l e s m below meth c b G C H ρ cs hR hS hL => lv_bipush C.1.1 C.1.2.1 hd hv (kk p l e s m below meth c b G C H ρ cs hR hS hL)
theorem ExL.iload_n {z : Fin 4} {i : Nat} {x : Int32} (hd : decode code pc = .ok (.iload_n z, 1)) (hi : (z : Nat) = i) (hl : ls[i]? = some (some (.int x))) (kk : ExL len xs k n (pc + 1) ls (some (.int x) :: st) S) : ExL len xs k n pc ls st S :=
  fun p l e s m below meth c b G C H ρ cs hR hS hL => lv_iload_n C.1.1 C.1.2.1 hd hi (hL.has.at hl) (kk p l e s m below meth c b G C H ρ cs hR hS hL)
theorem ExL.aload_n {z : Fin 4} {i x : Nat} (hd : decode code pc = .ok (.aload_n z, 1)) (hi : (z : Nat) = i) (hl : ls[i]? = some (some (.ref x))) (kk : ExL len xs k n (pc + 1) ls (some (.ref x) :: st) S) : ExL len xs k n pc ls st S :=
  fun p l e s m below meth c b G C H ρ cs hR hS hL => lv_aload_n C.1.1 C.1.2.1 hd hi (hL.has.at hl) (kk p l e s m below meth c b G C H ρ cs hR hS hL)
theorem ExL.aload0 {z : Fin 4} (hd : decode code pc = .ok (.aload_n z, 1)) (hi : (z : Nat) = 0) (kk : ExL len xs k n (pc + 1) ls (none :: st) S) : ExL len xs k n pc ls st S :=
  fun p l e s m below meth c b G C H ρ cs hR hS hL => lv_aload_n C.1.1 C.1.2.1 hd hi hL.b (kk p l e s m below meth c b G C H ρ cs hR hS hL)
theorem ExL.iadd {x y : Int32} (hd : decode code pc = .ok (.iadd, 1)) (kk : ExL len xs k n (pc + 1) ls (some (.int (x + y)) :: st) S) : ExL len xs k n pc ls (some (.int y) :: some (.int x) :: st) S :=
  fun p l e s m below meth c b G C H ρ cs hR hS hL => lv_iadd C.1.1 C.1.2.1 hd (kk p l e s m below meth c b G C H ρ cs hR hS hL)
theorem ExL.isub {x y : Int32} (hd : decode code pc = .ok (.isub, 1)) (kk : ExL len xs k n (pc + 1) ls (some (.int (x - y)) :: st) S) : ExL len xs k n pc ls (some (.int y) :: some (.int x) :: st) S :=
  fun p l e s m below meth c b G C H ρ cs hR hS hL => lv_isub C.1.1 C.1.2.1 hd (kk p l e s m below meth c b G C H ρ cs hR hS hL)
theorem ExL.iand {x y : Int32} (hd : decode code pc = .ok (.iand, 1)) (kk : ExL len xs k n (pc + 1) ls (some (.int (x &&& y)) :: st) S) : ExL len xs k n pc ls (some (.int y) :: some (.int x) :: st) S :=
  fun p l e s m below meth c b G C H ρ cs hR hS hL => lv_iand C.1.1 C.1.2.1 hd (kk p l e s m below meth c b G C H ρ cs hR hS hL)
theorem ExL.alen (hd : decode code pc = .ok (.arraylength, 1)) (kk : ExL len xs k n (pc + 1) ls (some (.int (nI len)) :: st) S) : ExL len xs k n pc ls (none :: st) S :=
  fun p l e s m below meth c b G C H ρ cs hR hS hL => va_slen C.1.1 C.1.2.1 C.1.2.2.2.2.2.2.1 C.1.2.2.2.2.2.2.2.1 (fun q => absurd (show s.heap.size ≤ b from q) (Nat.not_le.mpr C.1.2.2.2.2.2.2.2.1)) hS hd (kk p l e s m below meth c b G C H ρ cs hR hS hL)
theorem ExL.iald {i : Int32} {j : Nat} (hd : decode code pc = .ok (.iaload, 1)) (hi : vp_in i len) (hj : i.toNatClampNeg = j) (kk : ExL len xs k n (pc + 1) ls (some (.int (xs j)) :: st) S) : ExL len xs k n pc ls (some (.int i) :: none :: st) S := by
  subst hj
  exact fun p l e s m below meth c b G C H ρ cs hR hS hL => va_sld C.1.1 C.1.2.1 C.1.2.2.2.2.2.2.1 C.1.2.2.2.2.2.2.2.1 (fun q => absurd (show s.heap.size ≤ b from q) (Nat.not_le.mpr C.1.2.2.2.2.2.2.2.1)) hS hi hd (kk p l e s m below meth c b G C H ρ cs hR hS hL)
theorem ExL.icmp_gt {x y : Int32} {off : Int} {tgt : Nat} (hd : decode code pc = .ok (.if_icmp .gt off, 3)) (ht : (pc : Int) + off = (tgt : Int)) (kt : y < x → ExL len xs k n tgt ls st S) (kf : ¬ (y < x) → ExL len xs k n (pc + 3) ls st S) : ExL len xs k n pc ls (some (.int y) :: some (.int x) :: st) S :=
  fun p l e s m below meth c b G C H ρ cs hR hS hL => lv_icmp_gt C.1.1 C.1.2.1 hd ht (fun q => kt q p l e s m below meth c b G C H ρ cs hR hS hL) (fun q => kf q p l e s m below meth c b G C H ρ cs hR hS hL)
theorem ExL.icmp_eq {x y : Int32} {off : Int} {tgt : Nat} (hd : decode code pc = .ok (.if_icmp .eq off, 3)) (ht : (pc : Int) + off = (tgt : Int)) (kt : x = y → ExL len xs k n tgt ls st S) (kf : ¬ (x = y) → ExL len xs k n (pc + 3) ls st S) : ExL len xs k n pc ls (some (.int y) :: some (.int x) :: st) S :=
  fun p l e s m below meth c b G C H ρ cs hR hS hL => lv_icmp_eq C.1.1 C.1.2.1 hd ht (fun q => kt q p l e s m below meth c b G C H ρ cs hR hS hL) (fun q => kf q p l e s m below meth c b G C H ρ cs hR hS hL)
theorem ExL.goto {off : Int} {tgt : Nat} (hd : decode code pc = .ok (.goto off, 3)) (ht : (pc : Int) + off = (tgt : Int)) (kk : ExL len xs k n tgt ls st S) : ExL len xs k n pc ls st S :=
  fun p l e s m below meth c b G C H ρ cs hR hS hL => lv_goto C.1.1 C.1.2.1 hd ht (kk p l e s m below meth c b G C H ρ cs hR hS hL)
theorem ExL.tableOut {dflt lo hi : Int} {offs : Array Int} {ln : Nat} {x : Int32} {tgt : Nat} (hd : decode code pc = .ok (.tableswitch dflt lo hi offs, ln)) (h : x.toInt < lo ∨ hi < x.toInt) (ht : (pc : Int) + dflt = (tgt : Int)) (kk : ExL len xs k n tgt ls st S) : ExL len xs k n pc ls (some (.int x) :: st) S :=
  fun p l e s m below meth c b G C H ρ cs hR hS hL => lv_tableOut C.1.1 C.1.2.1 hd h ht (kk p l e s m below meth c b G C H ρ cs hR hS hL)
theorem ExL.tableIn {dflt lo hi : Int} {offs : Array Int} {ln : Nat} {x : Int32} {off : Int} {tgt : Nat} (hd : decode code pc = .ok (.tableswitch dflt lo hi offs, ln)) (h1 : ¬ x.toInt < lo) (h2 : ¬ hi < x.toInt) (ho : offs[(x.toInt - lo).toNat]? = some off) (ht : (pc : Int) + off = (tgt : Int)) (kk : ExL len xs k n tgt ls st S) : ExL len xs k n pc ls (some (.int x) :: st) S :=
  fun p l e s m below meth c b G C H ρ cs hR hS hL => lv_tableIn C.1.1 C.1.2.1 hd h1 h2 ho ht (kk p l e s m below meth c b G C H ρ cs hR hS hL)
theorem ExL.dup {v : Value} (hd : decode code pc = .ok (.dup, 1)) (hv : v.category = 1) (kk : ExL len xs k n (pc + 1) ls (some v :: some v :: st) S) : ExL len xs k n pc ls (some v :: st) S :=
  fun p l e s m below meth c b G C H ρ cs hR hS hL => lv_dup C.1.1 C.1.2.1 hd ((aV_cat ρ v).trans hv) (kk p l e s m below meth c b G C H ρ cs hR hS hL)
theorem ExL.istore_n {z : Fin 4} {i : Nat} {x : Int32} {ls' : aLs} (hd : decode code pc = .ok (.istore_n z, 1)) (hi : (z : Nat) = i) (hn : i < 4) (h0 : 0 < i) (hl : aNl ls i = true) (he : ls.set i (some (.int x)) = ls') (kk : ExL len xs k n (pc + 1) ls' st S) : ExL len xs k n pc ls (some (.int x) :: st) S :=
  fun p l e s m below meth c b G C H ρ cs hR hS hL => lv_istore_n C.1.1 C.1.2.1 hd hi hL hn rfl (fun cs' h' => kk p l e s m below meth c b G C H ρ cs' hR hS (he ▸ aHl_set h0 hl rfl h'))
theorem ExL.astore_n {z : Fin 4} {i x : Nat} {ls' : aLs} (hd : decode code pc = .ok (.astore_n z, 1)) (hi : (z : Nat) = i) (hn : i < 4) (h0 : 0 < i) (hl : aNl ls i = true) (he : ls.set i (some (.ref x)) = ls') (kk : ExL len xs k n (pc + 1) ls' st S) : ExL len xs k n pc ls (some (.ref x) :: st) S :=
  fun p l e s m below meth c b G C H ρ cs hR hS hL => lv_astore_n C.1.1 C.1.2.1 hd hi hL hn rfl (fun cs' h' => kk p l e s m below meth c b G C H ρ cs' hR hS (he ▸ aHl_set h0 hl rfl h'))
theorem ExL.iinc {i : Nat} {z : Int} {x v : Int32} {ls' : aLs} (hd : decode code pc = .ok (.iinc i z, 3)) (hx : ls[i]? = some (some (.int x))) (hv : x + Int32.ofInt z = v) (hn : i < 4) (h0 : 0 < i) (hl : aNl ls i = true) (he : ls.set i (some (.int v)) = ls') (kk : ExL len xs k n (pc + 3) ls' st S) : ExL len xs k n pc ls st S := by
  intro p l e s m below meth c b G C H ρ cs hR hS hL
  obtain ⟨j, hj⟩ := List.getElem?_of_mem (List.mem_cons_of_mem (0, Value.ref b) (aAs_mem.mpr ⟨_, hx, rfl⟩ : (i, aV ρ (.int x)) ∈ aAs ρ ls))
  exact lv_iinc C.1.1 C.1.2.1 hd hL (k := j) hj hv hn rfl (fun cs' h' => kk p l e s m below meth c b G C H ρ cs' hR hS (he ▸ aHl_set h0 hl rfl h'))
theorem ExL.wide {k' n' : Nat} (h1 : k ≤ k') (h2 : n ≤ n') (kk : ExL len xs k' n' pc ls st S) : ExL len xs k n pc ls st S :=
  fun p l e s m below meth c b G C H ρ cs hR hS hL => W.widen h1 h2 (kk p l e s m below meth c b G C H ρ cs hR hS hL)
theorem ExL.ret (hd : decode code pc = .ok (.ireturn, 1)) (h1 : k ≤ 600000) (h2 : n ≤ 7302250) : ExL len xs k n pc ls [some (.int 1)] S :=
  fun p l e s m below meth c b G C H ρ cs hR hS hL => W.widen h1 h2 (lw_ret C.1.1 C.1.2.1 C.1.2.2.1 C.1.2.2.2.2.2.2.2.2.1 hd)
end EXL
