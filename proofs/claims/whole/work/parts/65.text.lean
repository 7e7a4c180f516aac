abbrev mJ0_coder_7d493 : aM := (yJ0_coder_7d493, cJ0_coder_7d493, 1, (some .byte))
theorem dJ0_coder_7d493_0 : decode mJ0_coder_7d493.2.1 0 = .ok (.getstatic 38, 3) := by decide +kernel
theorem dJ0_coder_7d493_3 : decode mJ0_coder_7d493.2.1 3 = .ok (.ifCond .eq 10, 3) := by decide +kernel
theorem dJ0_coder_7d493_6 : decode mJ0_coder_7d493.2.1 6 = .ok (.aload_n 0, 1) := by decide +kernel
theorem dJ0_coder_7d493_7 : decode mJ0_coder_7d493.2.1 7 = .ok (.getfield 15, 3) := by decide +kernel
theorem dJ0_coder_7d493_10 : decode mJ0_coder_7d493.2.1 10 = .ok (.goto 4, 3) := by decide +kernel
theorem dJ0_coder_7d493_13 : decode mJ0_coder_7d493.2.1 13 = .ok (.iconst 1, 1) := by decide +kernel
theorem dJ0_coder_7d493_14 : decode mJ0_coder_7d493.2.1 14 = .ok (.ireturn, 1) := by decide +kernel
abbrev mJ0_isLatin1_aae02 : aM := (yJ0_isLatin1_aae02, cJ0_isLatin1_aae02, 1, (some .boolean))
theorem dJ0_isLatin1_aae02_0 : decode mJ0_isLatin1_aae02.2.1 0 = .ok (.getstatic 38, 3) := by decide +kernel
theorem dJ0_isLatin1_aae02_3 : decode mJ0_isLatin1_aae02.2.1 3 = .ok (.ifCond .eq 14, 3) := by decide +kernel
theorem dJ0_isLatin1_aae02_6 : decode mJ0_isLatin1_aae02.2.1 6 = .ok (.aload_n 0, 1) := by decide +kernel
theorem dJ0_isLatin1_aae02_7 : decode mJ0_isLatin1_aae02.2.1 7 = .ok (.getfield 15, 3) := by decide +kernel
theorem dJ0_isLatin1_aae02_10 : decode mJ0_isLatin1_aae02.2.1 10 = .ok (.ifCond .ne 7, 3) := by decide +kernel
theorem dJ0_isLatin1_aae02_13 : decode mJ0_isLatin1_aae02.2.1 13 = .ok (.iconst 1, 1) := by decide +kernel
theorem dJ0_isLatin1_aae02_14 : decode mJ0_isLatin1_aae02.2.1 14 = .ok (.goto 4, 3) := by decide +kernel
theorem dJ0_isLatin1_aae02_17 : decode mJ0_isLatin1_aae02.2.1 17 = .ok (.iconst 0, 1) := by decide +kernel
theorem dJ0_isLatin1_aae02_18 : decode mJ0_isLatin1_aae02.2.1 18 = .ok (.ireturn, 1) := by decide +kernel
abbrev mJ0_length_8abf5 : aM := (yJ0_length_8abf5, cJ0_length_8abf5, 1, (some .int))
theorem dJ0_length_8abf5_0 : decode mJ0_length_8abf5.2.1 0 = .ok (.aload_n 0, 1) := by decide +kernel
theorem dJ0_length_8abf5_1 : decode mJ0_length_8abf5.2.1 1 = .ok (.getfield 9, 3) := by decide +kernel
theorem dJ0_length_8abf5_4 : decode mJ0_length_8abf5.2.1 4 = .ok (.arraylength, 1) := by decide +kernel
theorem dJ0_length_8abf5_5 : decode mJ0_length_8abf5.2.1 5 = .ok (.aload_n 0, 1) := by decide +kernel
theorem dJ0_length_8abf5_6 : decode mJ0_length_8abf5.2.1 6 = .ok (.invokevirtual 335, 3) := by decide +kernel
theorem dJ0_length_8abf5_9 : decode mJ0_length_8abf5.2.1 9 = .ok (.ishr, 1) := by decide +kernel
theorem dJ0_length_8abf5_10 : decode mJ0_length_8abf5.2.1 10 = .ok (.ireturn, 1) := by decide +kernel
abbrev mJ3_checkIndex_8e157 : aM := (yJ3_checkIndex_8e157, cJ3_checkIndex_8e157, 3, (some .int))
theorem dJ3_checkIndex_8e157_0 : decode mJ3_checkIndex_8e157.2.1 0 = .ok (.iload_n 0, 1) := by decide +kernel
theorem dJ3_checkIndex_8e157_1 : decode mJ3_checkIndex_8e157.2.1 1 = .ok (.ifCond .lt 8, 3) := by decide +kernel
theorem dJ3_checkIndex_8e157_4 : decode mJ3_checkIndex_8e157.2.1 4 = .ok (.iload_n 0, 1) := by decide +kernel
theorem dJ3_checkIndex_8e157_5 : decode mJ3_checkIndex_8e157.2.1 5 = .ok (.iload_n 1, 1) := by decide +kernel
theorem dJ3_checkIndex_8e157_6 : decode mJ3_checkIndex_8e157.2.1 6 = .ok (.if_icmp .lt 10, 3) := by decide +kernel
theorem dJ3_checkIndex_8e157_9 : decode mJ3_checkIndex_8e157.2.1 9 = .ok (.aload_n 2, 1) := by decide +kernel
theorem dJ3_checkIndex_8e157_10 : decode mJ3_checkIndex_8e157.2.1 10 = .ok (.iload_n 0, 1) := by decide +kernel
theorem dJ3_checkIndex_8e157_11 : decode mJ3_checkIndex_8e157.2.1 11 = .ok (.iload_n 1, 1) := by decide +kernel
theorem dJ3_checkIndex_8e157_12 : decode mJ3_checkIndex_8e157.2.1 12 = .ok (.invokestatic 95, 3) := by decide +kernel
theorem dJ3_checkIndex_8e157_16 : decode mJ3_checkIndex_8e157.2.1 16 = .ok (.iload_n 0, 1) := by decide +kernel
theorem dJ3_checkIndex_8e157_17 : decode mJ3_checkIndex_8e157.2.1 17 = .ok (.ireturn, 1) := by decide +kernel
abbrev mJ0_checkIndex_df160 : aM := (yJ0_checkIndex_df160, cJ0_checkIndex_df160, 2, none)
theorem dJ0_checkIndex_df160_0 : decode mJ0_checkIndex_df160.2.1 0 = .ok (.iload_n 0, 1) := by decide +kernel
theorem dJ0_checkIndex_df160_1 : decode mJ0_checkIndex_df160.2.1 1 = .ok (.iload_n 1, 1) := by decide +kernel
theorem dJ0_checkIndex_df160_2 : decode mJ0_checkIndex_df160.2.1 2 = .ok (.getstatic 1053, 3) := by decide +kernel
theorem dJ0_checkIndex_df160_5 : decode mJ0_checkIndex_df160.2.1 5 = .ok (.invokestatic 1059, 3) := by decide +kernel
theorem dJ0_checkIndex_df160_8 : decode mJ0_checkIndex_df160.2.1 8 = .ok (.pop, 1) := by decide +kernel
theorem dJ0_checkIndex_df160_9 : decode mJ0_checkIndex_df160.2.1 9 = .ok (.return_, 1) := by decide +kernel
abbrev mJ1_charAt_3b067 : aM := (yJ1_charAt_3b067, cJ1_charAt_3b067, 2, (some .char))
theorem dJ1_charAt_3b067_0 : decode mJ1_charAt_3b067.2.1 0 = .ok (.iload_n 1, 1) := by decide +kernel
theorem dJ1_charAt_3b067_1 : decode mJ1_charAt_3b067.2.1 1 = .ok (.aload_n 0, 1) := by decide +kernel
theorem dJ1_charAt_3b067_2 : decode mJ1_charAt_3b067.2.1 2 = .ok (.arraylength, 1) := by decide +kernel
theorem dJ1_charAt_3b067_3 : decode mJ1_charAt_3b067.2.1 3 = .ok (.invokestatic 9, 3) := by decide +kernel
theorem dJ1_charAt_3b067_6 : decode mJ1_charAt_3b067.2.1 6 = .ok (.aload_n 0, 1) := by decide +kernel
theorem dJ1_charAt_3b067_7 : decode mJ1_charAt_3b067.2.1 7 = .ok (.iload_n 1, 1) := by decide +kernel
theorem dJ1_charAt_3b067_8 : decode mJ1_charAt_3b067.2.1 8 = .ok (.baload, 1) := by decide +kernel
theorem dJ1_charAt_3b067_9 : decode mJ1_charAt_3b067.2.1 9 = .ok (.sipush 255, 3) := by decide +kernel
theorem dJ1_charAt_3b067_12 : decode mJ1_charAt_3b067.2.1 12 = .ok (.iand, 1) := by decide +kernel
theorem dJ1_charAt_3b067_13 : decode mJ1_charAt_3b067.2.1 13 = .ok (.i2c, 1) := by decide +kernel
theorem dJ1_charAt_3b067_14 : decode mJ1_charAt_3b067.2.1 14 = .ok (.ireturn, 1) := by decide +kernel
abbrev mJ0_charAt_5068e : aM := (yJ0_charAt_5068e, cJ0_charAt_5068e, 2, (some .char))
theorem dJ0_charAt_5068e_0 : decode mJ0_charAt_5068e.2.1 0 = .ok (.aload_n 0, 1) := by decide +kernel
theorem dJ0_charAt_5068e_1 : decode mJ0_charAt_5068e.2.1 1 = .ok (.invokevirtual 492, 3) := by decide +kernel
theorem dJ0_charAt_5068e_4 : decode mJ0_charAt_5068e.2.1 4 = .ok (.ifCond .eq 12, 3) := by decide +kernel
theorem dJ0_charAt_5068e_7 : decode mJ0_charAt_5068e.2.1 7 = .ok (.aload_n 0, 1) := by decide +kernel
theorem dJ0_charAt_5068e_8 : decode mJ0_charAt_5068e.2.1 8 = .ok (.getfield 9, 3) := by decide +kernel
theorem dJ0_charAt_5068e_11 : decode mJ0_charAt_5068e.2.1 11 = .ok (.iload_n 1, 1) := by decide +kernel
theorem dJ0_charAt_5068e_12 : decode mJ0_charAt_5068e.2.1 12 = .ok (.invokestatic 495, 3) := by decide +kernel
theorem dJ0_charAt_5068e_15 : decode mJ0_charAt_5068e.2.1 15 = .ok (.ireturn, 1) := by decide +kernel
theorem dJ0_charAt_5068e_16 : decode mJ0_charAt_5068e.2.1 16 = .ok (.aload_n 0, 1) := by decide +kernel
theorem dJ0_charAt_5068e_17 : decode mJ0_charAt_5068e.2.1 17 = .ok (.getfield 9, 3) := by decide +kernel
theorem dJ0_charAt_5068e_20 : decode mJ0_charAt_5068e.2.1 20 = .ok (.iload_n 1, 1) := by decide +kernel
theorem dJ0_charAt_5068e_21 : decode mJ0_charAt_5068e.2.1 21 = .ok (.invokestatic 498, 3) := by decide +kernel
theorem dJ0_charAt_5068e_24 : decode mJ0_charAt_5068e.2.1 24 = .ok (.ireturn, 1) := by decide +kernel
/-! the class's text: String's members over it -/
def Zf (kK kV : Nat) (b : Option Nat) (U : State) (H : Heap) : Prop := vk_S 1 [162] [ownB] (fun _ => kK) (fun _ => kV) (fun _ => False) U H ∧ va_Z "java/lang/String" "COMPACT_STRINGS" "Z" (.int 1) (fun _ => False) U H ∧ va_Z "jdk/internal/util/Preconditions" "SIOOBE_FORMATTER" "Ljava/util/function/BiFunction;" (va_rf b) (fun _ => False) U H
theorem Zf.mv {kK kV : Nat} {b : Option Nat} {s U : State} {H H1 : Heap} (hW : s.WarmedH U.vm) (hq : ∀ a : Nat, a < H.size → H1[a]? = H[a]?) (h : Zf kK kV b s H) : Zf kK kV b U H1 :=
  ⟨(h.1.kept (fun a h1 _ => hq a h1)).moved hW.alike, (h.2.1.kept (fun a h1 _ => hq a h1)).moved hW.alike, (h.2.2.kept (fun a h1 _ => hq a h1)).moved hW.alike⟩
theorem Zf.same {kK kV : Nat} {b : Option Nat} {s U : State} {H : Heap} (hv : U.vm = s.vm) (h : Zf kK kV b s H) : Zf kK kV b U H := by
  have ha : s.vm.Alike U.vm := by rw [hv]; exact Vm.Alike.refl s.vm
  exact ⟨h.1.moved ha, h.2.1.moved ha, h.2.2.moved ha⟩
def zQ (r : Option Value) : Nat → Array Value → State → Outcome → State → Prop
  | 0 => va_Qv (S := Unit) (fun _ => r = none) (fun _ _ => True) (fun _ => False)
  | _ => va_Qi (S := Unit) (fun x _ => r = some (.int x)) (fun _ _ => True) (fun _ => False)
def zPc (raw : List Value) (kK kV : Nat) (b : Option Nat) : Array Value → State → Prop := va_Pc raw (fun U => Zf kK kV b U U.heap)
theorem zPc_blind {raw : List Value} {kK kV : Nat} {b : Option Nat} : FrameBlind (zPc raw kK kV b) := by
  intro a U g mk h
  exact ⟨h.1, Zf.same (U := U.calling g mk a) rfl h.2⟩
def ZMet (d : Nat) (mi : aM) (raw : List Value) (kK kV : Nat) (b : Option Nat) (r : Option Value) : Prop := ∀ l : Launch, Met l mi.1 (aws mi) (aRoom d 0 0) (zPc raw kK kV b) (zQ r (aKd mi.2.2.2)) 0 0 (fun _ => False)
def zCtx (p : Program) (s : State) (m : MethodId) (args : Array Value) (meth : Method) (c : Code) (mi : aM) (kK kV : Nat) (b : Option Nat) : Prop :=
  p.tables.exec = Jvm.exec ∧ c.code = mi.2.1 ∧ meth.sig.returnType = mi.2.2.2 ∧ c.maxLocals = mi.2.2.1 ∧ s.vm.findClass mi.1.cls = some m.cls ∧ (∀ w ∈ aws mi, w.before args s = true) ∧ meth.locks = false ∧ Zf kK kV b s s.heap
def Zx (d : Nat) (mi : aM) (raw : List Value) (kK kV : Nat) (b : Option Nat) (pc : Nat) (st : List Value) (r : Option Value) : Prop :=
  ∀ (p : Program) (l : Launch) (e : Env) (s : State) (m : MethodId) (args : Array Value) (below : List Frame) (meth : Method) (c : Code), zCtx p s m args meth c mi kK kV b → ∀ (cs : Array Slot), lv_has cs mi.2.2.1 (lv_args 0 raw) → ∀ (H : Heap) (locs : List Loc), va_S (fun _ => False) s.heap H locs →
  W p l e (aRoom d 0 0) s m args below meth c H locs 0 0 (MQ below (zQ r (aKd mi.2.2.2)) args s 0 0 (fun _ => False)) (F0 m pc cs st)
theorem ZMet.of {d : Nat} {mi : aM} {raw : List Value} {kK kV : Nat} {b : Option Nat} {r : Option Value} (hy : plainFor mi.1 = true) (hn : (lg_sl raw).length ≤ mi.2.2.1) (h : Zx d mi raw kK kV b 0 [] r) : ZMet d mi raw kK kV b r := by
  intro l
  refine Met.ofWF (cc := mi.2.1) (maxL := mi.2.2.1) (ret := mi.2.2.2) hy rfl ?_
  intro p e s m args below meth c s₁ B hml hv
  obtain ⟨rfl, hZ⟩ := hv
  have hts := atoms_spec (ws := aws mi) B.pre
  have hown : s.vm.findClass mi.1.cls = some m.cls := findClass_of_methodNamed B.named
  have hl := lv_entry raw (n := mi.2.2.1) hn
  have K := h p l e s m raw.toArray below meth c ⟨B.exec, B.bytes, B.returns, hml, hown, hts, B.notSynchronized, hZ⟩ _ hl s.heap [] va_S.rf
  rw [lg_entry_eq]
  exact K
def zCv (own : String) (idx : Nat) (mi : aM) (np : Nat) : Prop := aCm own idx mi np ∧ Cond.instanceMethod mi.1 ∈ GW ∧ Cond.selects mi.1.cls mi.1 mi.1 ∈ GW
section ZXR
variable {d d' : Nat} {mi mi' : aM} {raw : List Value} {kK kV pc : Nat} {b : Option Nat} {st rest : List Value} {r : Option Value}
theorem Zx.callV {idx np : Nat} {As : List Value} {x : Int32} (hd : decode mi.2.1 pc = .ok (.invokevirtual idx, 3)) (hc : zCv mi.1.cls idx mi' np) (hcls : mi'.1.cls = "java/lang/String") (hrun : ZMet d' mi' (.ref kK :: As) kK kV b (some (.int x))) (hk : aKd mi'.2.2.2 = 1) (hst : st = As.reverse ++ .ref kK :: rest) (hn : As.length = np) (hdd : d' + 1 ≤ d) (hW : (rest.map fun v => v.category).sum ≤ 8)
    (kk : Zx d mi raw kK kV b (pc + 3) (.int x :: rest) r) : Zx d mi raw kK kV b pc st r := by
  intro p l e s m args below meth c C cs hL H locs hS
  obtain ⟨⟨w1, w2, w3, hdn, hml⟩, w4, w5⟩ := hc
  have hts := C.2.2.2.2.2.1
  have ok : ∀ w ∈ GW, w.before args s = true := fun w h => hts w (List.mem_cons_of_mem _ h)
  subst hst
  have hM := hrun l
  rw [hk] at hM
  refine va_calli (S := Unit) (A1 := fun _ => False) (a := (Value.ref kK :: As).toArray) (va_runV (As := As) (b := kK) (rest := rest) (own := mi.1.cls) (Ts := aws mi) ⟨C.1, C.2.1, C.2.2.2.1, C.2.2.2.2.1, hts⟩ hM (C := mi'.1.cls) (n := np) (bytes := mi'.2.1) (maxL := mi'.2.2.1) (ret := mi'.2.2.2) ⟨⟨rfl, rfl, hdd, ?_, aws_mv hts w1, List.mem_cons_self, ok _ w1, ok _ w3, ⟨hdn.1, hdn.2.1⟩, sig_len hdn.2.2, ok _ w2⟩, ok _ w4, ok _ w5⟩ ⟨zPc_blind, ?_, fun U hU hW => ?_⟩ rfl hn hL.1 rfl ?_ hd ⟨Nat.le_refl _, Nat.le_refl _⟩) hS (fun q _ h => h) (fun q h => h) (fun r' u t H1 locs1 ht hvm hw hB hz1 hk1 hS1 => ?_)
  · show 8 + (mi'.2.2.1 + 11) + 64 * d' ≤ 64 * d
    omega
  · rw [hcls]
    exact vk_recv C.2.2.2.2.2.2.2.1 (i := 0) (by decide) hS
  · exact ⟨rfl, by show Zf kK kV b U U.heap; rw [hU]; exact C.2.2.2.2.2.2.2.mv hW (fun a ha => hS.2.1 a ha (fun h => h))⟩
  · show 2 * 0 + _ ≤ 8; omega
  · cases Option.some.inj hw
    exact kk p l e s m args below meth c C cs hL H1 locs1 hS1
theorem Zx.callS {idx np : Nat} {As : List Value} {x : Int32} (hd : decode mi.2.1 pc = .ok (.invokestatic idx, 3)) (hc : aCs mi.1.cls idx mi' np) (hrun : ZMet d' mi' As kK kV b (some (.int x))) (hk : aKd mi'.2.2.2 = 1) (hst : st = As.reverse ++ rest) (hn : As.length = np) (hdd : d' + 1 ≤ d) (hW : (rest.map fun v => v.category).sum ≤ 8)
    (kk : Zx d mi raw kK kV b (pc + 3) (.int x :: rest) r) : Zx d mi raw kK kV b pc st r := by
  intro p l e s m args below meth c C cs hL H locs hS
  obtain ⟨⟨w1, w2, w3, hdn, hml⟩, w4⟩ := hc
  have hts := C.2.2.2.2.2.1
  have ok : ∀ w ∈ GW, w.before args s = true := fun w h => hts w (List.mem_cons_of_mem _ h)
  subst hst
  have hM := hrun l
  rw [hk] at hM
  refine va_calli (S := Unit) (A1 := fun _ => False) (a := As.toArray) (va_runS (As := As) (rest := rest) (own := mi.1.cls) (Ts := aws mi) ⟨C.1, C.2.1, C.2.2.2.1, C.2.2.2.2.1, hts⟩ hM (n := np) (bytes := mi'.2.1) (maxL := mi'.2.2.1) (ret := mi'.2.2.2) ⟨⟨rfl, rfl, hdd, ?_, aws_mv hts w1, List.mem_cons_self, ok _ w1, ok _ w3, ⟨hdn.1, hdn.2.1⟩, sig_len hdn.2.2, ok _ w2⟩, ok _ w4⟩ ⟨zPc_blind, fun U hU hW => ?_⟩ rfl hn hL.1 rfl ?_ hd ⟨Nat.le_refl _, Nat.le_refl _⟩) hS (fun q _ h => h) (fun q h => h) (fun r' u t H1 locs1 ht hvm hw hB hz1 hk1 hS1 => ?_)
  · show 8 + (mi'.2.2.1 + 11) + 64 * d' ≤ 64 * d
    omega
  · exact ⟨rfl, by show Zf kK kV b U U.heap; rw [hU]; exact C.2.2.2.2.2.2.2.mv hW (fun a ha => hS.2.1 a ha (fun h => h))⟩
  · show 2 * 0 + _ ≤ 8; omega
  · cases Option.some.inj hw
    exact kk p l e s m args below meth c C cs hL H1 locs1 hS1
theorem Zx.callSv {idx np : Nat} {As : List Value} (hd : decode mi.2.1 pc = .ok (.invokestatic idx, 3)) (hc : aCs mi.1.cls idx mi' np) (hrun : ZMet d' mi' As kK kV b none) (hk : aKd mi'.2.2.2 = 0) (hst : st = As.reverse ++ rest) (hn : As.length = np) (hdd : d' + 1 ≤ d) (hW : (rest.map fun v => v.category).sum ≤ 8)
    (kk : Zx d mi raw kK kV b (pc + 3) rest r) : Zx d mi raw kK kV b pc st r := by
  intro p l e s m args below meth c C cs hL H locs hS
  obtain ⟨⟨w1, w2, w3, hdn, hml⟩, w4⟩ := hc
  have hts := C.2.2.2.2.2.1
  have ok : ∀ w ∈ GW, w.before args s = true := fun w h => hts w (List.mem_cons_of_mem _ h)
  subst hst
  have hM := hrun l
  rw [hk] at hM
  refine va_callv (S := Unit) (A1 := fun _ => False) (a := As.toArray) (va_runS (As := As) (rest := rest) (own := mi.1.cls) (Ts := aws mi) ⟨C.1, C.2.1, C.2.2.2.1, C.2.2.2.2.1, hts⟩ hM (n := np) (bytes := mi'.2.1) (maxL := mi'.2.2.1) (ret := mi'.2.2.2) ⟨⟨rfl, rfl, hdd, ?_, aws_mv hts w1, List.mem_cons_self, ok _ w1, ok _ w3, ⟨hdn.1, hdn.2.1⟩, sig_len hdn.2.2, ok _ w2⟩, ok _ w4⟩ ⟨zPc_blind, fun U hU hW => ?_⟩ rfl hn hL.1 rfl ?_ hd ⟨Nat.le_refl _, Nat.le_refl _⟩) hS (fun q _ h => h) (fun q h => h) (fun u t H1 locs1 ht hvm hw hB hz1 hk1 hS1 => ?_)
  · show 8 + (mi'.2.2.1 + 11) + 64 * d' ≤ 64 * d
    omega
  · exact ⟨rfl, by show Zf kK kV b U U.heap; rw [hU]; exact C.2.2.2.2.2.2.2.mv hW (fun a ha => hS.2.1 a ha (fun h => h))⟩
  · show 2 * 0 + _ ≤ 8; omega
  · exact kk p l e s m args below meth c C cs hL H1 locs1 hS1
theorem Zx.ld {z : Fin 4} {i : Nat} {x : Nat} (hd : decode mi.2.1 pc = .ok (.aload_n z, 1)) (hi : (z : Nat) = i) (hl : (lv_args 0 raw)[i]? = some (i, .ref x)) (kk : Zx d mi raw kK kV b (pc + 1) (.ref x :: st) r) : Zx d mi raw kK kV b pc st r :=
  fun p l e s m args below meth c C cs hL H locs hS => lv_aload_n C.1 C.2.1 hd hi (hL.2.2 _ (List.mem_of_getElem? hl)) (kk p l e s m args below meth c C cs hL H locs hS)
theorem Zx.il {z : Fin 4} {i : Nat} {x : Int32} (hd : decode mi.2.1 pc = .ok (.iload_n z, 1)) (hi : (z : Nat) = i) (hl : (lv_args 0 raw)[i]? = some (i, .int x)) (kk : Zx d mi raw kK kV b (pc + 1) (.int x :: st) r) : Zx d mi raw kK kV b pc st r :=
  fun p l e s m args below meth c C cs hL H locs hS => lv_iload_n C.1 C.2.1 hd hi (hL.2.2 _ (List.mem_of_getElem? hl)) (kk p l e s m args below meth c C cs hL H locs hS)
theorem Zx.zr {ty : FieldType} {v : Int32} (hr : mi.2.2.2 = some ty) (hk : aKd (some ty) = 1) (hn : narrow ty (.int v) = .int v) (hd : decode mi.2.1 pc = .ok (.ireturn, 1)) : Zx d mi raw kK kV b pc [.int v] (some (.int v)) := by
  intro p l e s m args below meth c C cs hL H locs hS
  refine W.zret C.1 C.2.1 (C.2.2.1.trans hr) hn (fun t ht hW => ?_) hS.2.2 hd C.2.2.2.2.2.2.1
  rw [hr, hk]
  exact ⟨⟨v, (), rfl, rfl, trivial⟩, hS.F ht⟩
theorem Zx.getK {idx : Nat} (hd : decode mi.2.1 pc = .ok (.getfield idx, 3)) (hlk : Cond.fieldLink mi.1.cls idx "java/lang/String" "coder" "B" ∈ GW) (kk : Zx d mi raw kK kV b (pc + 3) (.int 0 :: st) r) : Zx d mi raw kK kV b pc (.ref kK :: st) r :=
  fun p l e s m args below meth c C cs hL H locs hS => vk_getf C.1 C.2.1 (C.2.2.2.2.2.2.2.1.1 0 (by decide)).2.1 hS C.2.2.2.2.1 (C.2.2.2.2.2.1 _ (List.mem_cons_of_mem _ hlk)) (fun _ h => h) hd (kk p l e s m args below meth c C cs hL H locs hS)
theorem Zx.getV {idx : Nat} (hd : decode mi.2.1 pc = .ok (.getfield idx, 3)) (hlk : Cond.fieldLink mi.1.cls idx "java/lang/String" "value" "[B" ∈ GW) (kk : Zx d mi raw kK kV b (pc + 3) (.ref kV :: st) r) : Zx d mi raw kK kV b pc (.ref kK :: st) r :=
  fun p l e s m args below meth c C cs hL H locs hS => vk_getf C.1 C.2.1 (C.2.2.2.2.2.2.2.1.1 0 (by decide)).2.2.1 hS C.2.2.2.2.1 (C.2.2.2.2.2.1 _ (List.mem_cons_of_mem _ hlk)) (fun _ h => h) hd (kk p l e s m args below meth c C cs hL H locs hS)
theorem Zx.getC {idx : Nat} (hd : decode mi.2.1 pc = .ok (.getstatic idx, 3)) (hlk : Cond.fieldLink mi.1.cls idx "java/lang/String" "COMPACT_STRINGS" "Z" ∈ GW) (kk : Zx d mi raw kK kV b (pc + 3) (.int 1 :: st) r) : Zx d mi raw kK kV b pc st r :=
  fun p l e s m args below meth c C cs hL H locs hS => va_gets C.1 C.2.1 C.2.2.2.2.2.2.2.2.1 hS C.2.2.2.2.1 (C.2.2.2.2.2.1 _ (List.mem_cons_of_mem _ hlk)) (fun _ h => h) hd (kk p l e s m args below meth c C cs hL H locs hS)
theorem Zx.getP {idx : Nat} (hd : decode mi.2.1 pc = .ok (.getstatic idx, 3)) (hlk : Cond.fieldLink mi.1.cls idx "jdk/internal/util/Preconditions" "SIOOBE_FORMATTER" "Ljava/util/function/BiFunction;" ∈ GW) (kk : Zx d mi raw kK kV b (pc + 3) (va_rf b :: st) r) : Zx d mi raw kK kV b pc st r :=
  fun p l e s m args below meth c C cs hL H locs hS => va_gets C.1 C.2.1 C.2.2.2.2.2.2.2.2.2 hS C.2.2.2.2.1 (C.2.2.2.2.2.1 _ (List.mem_cons_of_mem _ hlk)) (fun _ h => h) hd (kk p l e s m args below meth c C cs hL H locs hS)
theorem Zx.len (hd : decode mi.2.1 pc = .ok (.arraylength, 1)) (kk : Zx d mi raw kK kV b (pc + 1) (.int 162 :: st) r) : Zx d mi raw kK kV b pc (.ref kV :: st) r :=
  fun p l e s m args below meth c C cs hL H locs hS => va_tlen C.1 C.2.1 (C.2.2.2.2.2.2.2.1.1 0 (by decide)).2.2.2 hS rfl hd (kk p l e s m args below meth c C cs hL H locs hS)
theorem Zx.bld {k : Nat} (hk : k < 162) (hd : decode mi.2.1 pc = .ok (.baload, 1)) (kk : Zx d mi raw kK kV b (pc + 1) (.int (ownB.getD k 0) :: st) r) : Zx d mi raw kK kV b pc (.int (nI k) :: .ref kV :: st) r :=
  fun p l e s m args below meth c C cs hL H locs hS => va_tb C.1 C.2.1 (C.2.2.2.2.2.2.2.1.1 0 (by decide)).2.2.2 hS (i := nI k) (vp_in_nI hk (by decide)) (v := .int (ownB.getD k 0)) (by rw [nI_clamp (by omega)]; rfl) hd (kk p l e s m args below meth c C cs hL H locs hS)
end ZXR
theorem zc_335 : zCv RJ0 335 mJ0_coder_7d493 0 := by unfold zCv aCm; refine ⟨⟨?_, ?_, ?_, ⟨by decide, by decide, by decide +kernel⟩, by decide⟩, ?_, ?_⟩ <;> decide +kernel
theorem zc_492 : zCv RJ0 492 mJ0_isLatin1_aae02 0 := by unfold zCv aCm; refine ⟨⟨?_, ?_, ?_, ⟨by decide, by decide, by decide +kernel⟩, by decide⟩, ?_, ?_⟩ <;> decide +kernel
theorem zc_93 : zCv RX4 93 mJ0_length_8abf5 0 := by unfold zCv aCm; refine ⟨⟨?_, ?_, ?_, ⟨by decide, by decide, by decide +kernel⟩, by decide⟩, ?_, ?_⟩ <;> decide +kernel
theorem zc_98 : zCv RX4 98 mJ0_charAt_5068e 1 := by unfold zCv aCm; refine ⟨⟨?_, ?_, ?_, ⟨by decide, by decide, by decide +kernel⟩, by decide⟩, ?_, ?_⟩ <;> decide +kernel
theorem zs_1059 : aCs RJ0 1059 mJ3_checkIndex_8e157 3 := by unfold aCs aCm; refine ⟨⟨?_, ?_, ?_, ⟨by decide, by decide, by decide +kernel⟩, by decide⟩, ?_⟩ <;> decide +kernel
theorem zs_9 : aCs RJ1 9 mJ0_checkIndex_df160 2 := by unfold aCs aCm; refine ⟨⟨?_, ?_, ?_, ⟨by decide, by decide, by decide +kernel⟩, by decide⟩, ?_⟩ <;> decide +kernel
theorem zs_495 : aCs RJ0 495 mJ1_charAt_3b067 2 := by unfold aCs aCm; refine ⟨⟨?_, ?_, ?_, ⟨by decide, by decide, by decide +kernel⟩, by decide⟩, ?_⟩ <;> decide +kernel
theorem zf_38 : Cond.fieldLink RJ0 38 "java/lang/String" "COMPACT_STRINGS" "Z" ∈ GW := by decide +kernel
theorem zf_15 : Cond.fieldLink RJ0 15 "java/lang/String" "coder" "B" ∈ GW := by decide +kernel
theorem zf_9 : Cond.fieldLink RJ0 9 "java/lang/String" "value" "[B" ∈ GW := by decide +kernel
theorem zf_1053 : Cond.fieldLink RJ0 1053 "jdk/internal/util/Preconditions" "SIOOBE_FORMATTER" "Ljava/util/function/BiFunction;" ∈ GW := by decide +kernel
section ZXI
variable {d : Nat} {mi : aM} {raw : List Value} {kK kV pc : Nat} {b : Option Nat} {st : List Value} {r : Option Value}
theorem Zx.ifeqF {x : Int32} {off : Int} {tgt : Nat} (hd : decode mi.2.1 pc = .ok (.ifCond .eq off, 3)) (ht : (pc : Int) + off = (tgt : Int)) (hx : ¬ x = 0) (kk : Zx d mi raw kK kV b (pc + 3) st r) : Zx d mi raw kK kV b pc (.int x :: st) r :=
  fun p l e s m args below meth c C cs hL H locs hS => lv_if_eq C.1 C.2.1 hd ht (fun q => absurd q hx) (fun _ => kk p l e s m args below meth c C cs hL H locs hS)
theorem Zx.ifneF {x : Int32} {off : Int} {tgt : Nat} (hd : decode mi.2.1 pc = .ok (.ifCond .ne off, 3)) (ht : (pc : Int) + off = (tgt : Int)) (hx : x = 0) (kk : Zx d mi raw kK kV b (pc + 3) st r) : Zx d mi raw kK kV b pc (.int x :: st) r :=
  fun p l e s m args below meth c C cs hL H locs hS => lv_if_ne C.1 C.2.1 hd ht (fun q => absurd hx q) (fun _ => kk p l e s m args below meth c C cs hL H locs hS)
theorem Zx.ifltF {x : Int32} {off : Int} {tgt : Nat} (hd : decode mi.2.1 pc = .ok (.ifCond .lt off, 3)) (ht : (pc : Int) + off = (tgt : Int)) (hx : ¬ x < 0) (kk : Zx d mi raw kK kV b (pc + 3) st r) : Zx d mi raw kK kV b pc (.int x :: st) r :=
  fun p l e s m args below meth c C cs hL H locs hS => lv_if_lt C.1 C.2.1 hd ht (fun q => absurd q hx) (fun _ => kk p l e s m args below meth c C cs hL H locs hS)
theorem Zx.icltT {x y : Int32} {off : Int} {tgt : Nat} (hd : decode mi.2.1 pc = .ok (.if_icmp .lt off, 3)) (ht : (pc : Int) + off = (tgt : Int)) (hx : x < y) (kk : Zx d mi raw kK kV b tgt st r) : Zx d mi raw kK kV b pc (.int y :: .int x :: st) r :=
  fun p l e s m args below meth c C cs hL H locs hS => lv_icmp_lt C.1 C.2.1 hd ht (fun _ => kk p l e s m args below meth c C cs hL H locs hS) (fun q => absurd hx q)
theorem Zx.goto {off : Int} {tgt : Nat} (hd : decode mi.2.1 pc = .ok (.goto off, 3)) (ht : (pc : Int) + off = (tgt : Int)) (kk : Zx d mi raw kK kV b tgt st r) : Zx d mi raw kK kV b pc st r :=
  fun p l e s m args below meth c C cs hL H locs hS => lv_goto C.1 C.2.1 hd ht (kk p l e s m args below meth c C cs hL H locs hS)
theorem Zx.iconst {z : Int} {v : Int32} (hd : decode mi.2.1 pc = .ok (.iconst z, 1)) (hv : Int32.ofInt z = v) (kk : Zx d mi raw kK kV b (pc + 1) (.int v :: st) r) : Zx d mi raw kK kV b pc st r :=
  fun p l e s m args below meth c C cs hL H locs hS => lv_iconst C.1 C.2.1 hd hv (kk p l e s m args below meth c C cs hL H locs hS)
theorem Zx.sipush {z : Int} {v : Int32} (hd : decode mi.2.1 pc = .ok (.sipush z, 3)) (hv : (Int16.ofInt z).toInt32 = v) (kk : Zx d mi raw kK kV b (pc + 3) (.int v :: st) r) : Zx d mi raw kK kV b pc st r :=
  fun p l e s m args below meth c C cs hL H locs hS => lv_sipush C.1 C.2.1 hd hv (kk p l e s m args below meth c C cs hL H locs hS)
theorem Zx.iand {x y : Int32} (hd : decode mi.2.1 pc = .ok (.iand, 1)) (kk : Zx d mi raw kK kV b (pc + 1) (.int (x &&& y) :: st) r) : Zx d mi raw kK kV b pc (.int y :: .int x :: st) r :=
  fun p l e s m args below meth c C cs hL H locs hS => lv_iand C.1 C.2.1 hd (kk p l e s m args below meth c C cs hL H locs hS)
theorem Zx.ishr {x y : Int32} (hd : decode mi.2.1 pc = .ok (.ishr, 1)) (kk : Zx d mi raw kK kV b (pc + 1) (.int (x >>> (y &&& 31)) :: st) r) : Zx d mi raw kK kV b pc (.int y :: .int x :: st) r :=
  fun p l e s m args below meth c C cs hL H locs hS => lv_ishr C.1 C.2.1 hd (kk p l e s m args below meth c C cs hL H locs hS)
theorem Zx.i2c {x v : Int32} (hd : decode mi.2.1 pc = .ok (.i2c, 1)) (hv : (x.toUInt32 % 65536).toInt32 = v) (kk : Zx d mi raw kK kV b (pc + 1) (.int v :: st) r) : Zx d mi raw kK kV b pc (.int x :: st) r :=
  fun p l e s m args below meth c C cs hL H locs hS => lv_i2c C.1 C.2.1 hd hv (kk p l e s m args below meth c C cs hL H locs hS)
theorem Zx.pop {v : Value} (hd : decode mi.2.1 pc = .ok (.pop, 1)) (hv : v.category = 1) (kk : Zx d mi raw kK kV b (pc + 1) st r) : Zx d mi raw kK kV b pc (v :: st) r :=
  fun p l e s m args below meth c C cs hL H locs hS => lv_pop C.1 C.2.1 hd hv (kk p l e s m args below meth c C cs hL H locs hS)
theorem Zx.vr (hr : mi.2.2.2 = none) (hd : decode mi.2.1 pc = .ok (.return_, 1)) : Zx d mi raw kK kV b pc [] none := by
  intro p l e s m args below meth c C cs hL H locs hS
  refine W.vret C.1 C.2.1 (C.2.2.1.trans hr) (fun t ht hW => ?_) hS.2.2 hd C.2.2.2.2.2.2.1
  rw [hr]
  exact ⟨⟨(), rfl, rfl, trivial⟩, hS.F ht⟩
end ZXI
variable {kK kV : Nat} {b : Option Nat}
theorem z_coder : ZMet 0 mJ0_coder_7d493 [.ref kK] kK kV b (some (.int 0)) := by
  refine ZMet.of (by decide +kernel) (Nat.le_refl _) ?_
  refine Zx.getC dJ0_coder_7d493_0 zf_38 ?_
  refine Zx.ifeqF (tgt := 13) dJ0_coder_7d493_3 (by decide) (by decide) ?_
  refine Zx.ld dJ0_coder_7d493_6 rfl rfl ?_
  refine Zx.getK dJ0_coder_7d493_7 zf_15 ?_
  refine Zx.goto (tgt := 14) dJ0_coder_7d493_10 (by decide) ?_
  exact Zx.zr rfl rfl (by decide) dJ0_coder_7d493_14
theorem z_isLatin1 : ZMet 0 mJ0_isLatin1_aae02 [.ref kK] kK kV b (some (.int 1)) := by
  refine ZMet.of (by decide +kernel) (Nat.le_refl _) ?_
  refine Zx.getC dJ0_isLatin1_aae02_0 zf_38 ?_
  refine Zx.ifeqF (tgt := 17) dJ0_isLatin1_aae02_3 (by decide) (by decide) ?_
  refine Zx.ld dJ0_isLatin1_aae02_6 rfl rfl ?_
  refine Zx.getK dJ0_isLatin1_aae02_7 zf_15 ?_
  refine Zx.ifneF (tgt := 17) dJ0_isLatin1_aae02_10 (by decide) rfl ?_
  refine Zx.iconst (v := 1) dJ0_isLatin1_aae02_13 rfl ?_
  refine Zx.goto (tgt := 18) dJ0_isLatin1_aae02_14 (by decide) ?_
  exact Zx.zr rfl rfl (by decide) dJ0_isLatin1_aae02_18
theorem z_length : ZMet 1 mJ0_length_8abf5 [.ref kK] kK kV b (some (.int 162)) := by
  refine ZMet.of (by decide +kernel) (Nat.le_refl _) ?_
  refine Zx.ld dJ0_length_8abf5_0 rfl rfl ?_
  refine Zx.getV dJ0_length_8abf5_1 zf_9 ?_
  refine Zx.len dJ0_length_8abf5_4 ?_
  refine Zx.ld dJ0_length_8abf5_5 rfl rfl ?_
  refine Zx.callV (As := []) (rest := [.int 162]) dJ0_length_8abf5_6 zc_335 rfl z_coder rfl rfl rfl (by decide) (by decide) ?_
  refine Zx.ishr dJ0_length_8abf5_9 ?_
  exact Zx.zr rfl rfl (by decide) dJ0_length_8abf5_10
theorem z_checkP {k : Nat} (hk : k < 162) : ZMet 0 mJ3_checkIndex_8e157 [.int (nI k), .int 162, va_rf b] kK kV b (some (.int (nI k))) := by
  refine ZMet.of (by decide +kernel) (by cases b <;> exact Nat.le_refl _) ?_
  refine Zx.il dJ3_checkIndex_8e157_0 rfl rfl ?_
  refine Zx.ifltF (tgt := 9) dJ3_checkIndex_8e157_1 (by decide) (nI_pos (by omega)) ?_
  refine Zx.il dJ3_checkIndex_8e157_4 rfl rfl ?_
  refine Zx.il dJ3_checkIndex_8e157_5 rfl rfl ?_
  refine Zx.icltT (tgt := 16) dJ3_checkIndex_8e157_6 (by decide) (nI_lt (b := 162) hk (by decide)) ?_
  refine Zx.il dJ3_checkIndex_8e157_16 rfl rfl ?_
  exact Zx.zr rfl rfl rfl dJ3_checkIndex_8e157_17
theorem z_check {k : Nat} (hk : k < 162) : ZMet 1 mJ0_checkIndex_df160 [.int (nI k), .int 162] kK kV b none := by
  refine ZMet.of (by decide +kernel) (Nat.le_refl _) ?_
  refine Zx.il dJ0_checkIndex_df160_0 rfl rfl ?_
  refine Zx.il dJ0_checkIndex_df160_1 rfl rfl ?_
  refine Zx.getP dJ0_checkIndex_df160_2 zf_1053 ?_
  refine Zx.callS (As := [.int (nI k), .int 162, va_rf b]) (rest := []) dJ0_checkIndex_df160_5 zs_1059 (z_checkP hk) rfl rfl rfl (by decide) (by decide) ?_
  refine Zx.pop dJ0_checkIndex_df160_8 rfl ?_
  exact Zx.vr rfl dJ0_checkIndex_df160_9
theorem own_b : ∀ k, k < 162 → ((((ownB.getD k 0) &&& 255).toUInt32 % 65536).toInt32 = ownB.getD k 0 ∧ narrow .char (.int (ownB.getD k 0)) = .int (ownB.getD k 0)) := by decide +kernel
theorem z_charAt1 {k : Nat} (hk : k < 162) : ZMet 2 mJ1_charAt_3b067 [.ref kV, .int (nI k)] kK kV b (some (.int (ownB.getD k 0))) := by
  refine ZMet.of (by decide +kernel) (Nat.le_refl _) ?_
  refine Zx.il dJ1_charAt_3b067_0 rfl rfl ?_
  refine Zx.ld dJ1_charAt_3b067_1 rfl rfl ?_
  refine Zx.len dJ1_charAt_3b067_2 ?_
  refine Zx.callSv (As := [.int (nI k), .int 162]) (rest := []) dJ1_charAt_3b067_3 zs_9 (z_check hk) rfl rfl rfl (by decide) (by decide) ?_
  refine Zx.ld dJ1_charAt_3b067_6 rfl rfl ?_
  refine Zx.il dJ1_charAt_3b067_7 rfl rfl ?_
  refine Zx.bld hk dJ1_charAt_3b067_8 ?_
  refine Zx.sipush (v := 255) dJ1_charAt_3b067_9 rfl ?_
  refine Zx.iand dJ1_charAt_3b067_12 ?_
  refine Zx.i2c dJ1_charAt_3b067_13 (own_b k hk).1 ?_
  exact Zx.zr rfl rfl (own_b k hk).2 dJ1_charAt_3b067_14
theorem z_charAt {k : Nat} (hk : k < 162) : ZMet 3 mJ0_charAt_5068e [.ref kK, .int (nI k)] kK kV b (some (.int (ownB.getD k 0))) := by
  refine ZMet.of (by decide +kernel) (Nat.le_refl _) ?_
  refine Zx.ld dJ0_charAt_5068e_0 rfl rfl ?_
  refine Zx.callV (As := []) (rest := []) dJ0_charAt_5068e_1 zc_492 rfl z_isLatin1 rfl rfl rfl (by decide) (by decide) ?_
  refine Zx.ifeqF (tgt := 16) dJ0_charAt_5068e_4 (by decide) (by decide) ?_
  refine Zx.ld dJ0_charAt_5068e_7 rfl rfl ?_
  refine Zx.getV dJ0_charAt_5068e_8 zf_9 ?_
  refine Zx.il dJ0_charAt_5068e_11 rfl rfl ?_
  refine Zx.callS (As := [.ref kV, .int (nI k)]) (rest := []) dJ0_charAt_5068e_12 zs_495 (z_charAt1 hk) rfl rfl rfl (by decide) (by decide) ?_
  exact Zx.zr rfl rfl (own_b k hk).2 dJ0_charAt_5068e_15
/-! the two uses of the text in a body -/
theorem aZs.kp {A : Nat → Prop} {s : State} {H H1 : Heap} (hq : ∀ a : Nat, a < H.size → ¬ A a → H1[a]? = H[a]?) (h : aZs A s H) : aZs A s H1 := by
  obtain ⟨⟨kK, kV, h1, h2⟩, h3, b, h4⟩ := h
  exact ⟨⟨kK, kV, h1.kept hq, h2⟩, h3.kept hq, b, h4.kept hq⟩
theorem aZf {A : Nat → Prop} {s : State} {H : Heap} (h : aZs A s H) : ∃ kK kV b, Zf kK kV b s H ∧ vk_R "ZincSermon$Parser" 91 ownT kK s ∧ vk_S 1 [162] [ownB] (fun _ => kK) (fun _ => kV) A s H := by
  obtain ⟨⟨kK, kV, h1, h2⟩, h3, b, h4⟩ := h
  exact ⟨kK, kV, b, ⟨h1.narrow (fun _ q => q.elim), h3.narrow (fun _ q => q.elim), h4.narrow (fun _ q => q.elim)⟩, h2, h1⟩
theorem aRepK {G : aG} {A : Nat → Prop} {ρ : List Nat} {S : aS} {H H1 : Heap} (h : aRep G A ρ S H) (hk : ∀ q : Nat, q < H.size → H1[q]? = H[q]?) : aRep G A ρ S H1 := by
  refine ⟨h.1, h.2.1, fun k q hq => ?_, h.2.2.2⟩
  exact (h.2.2.1 k q hq).kept (hk q.1 (h.2.2.1 k q hq).lt)
section EXS
variable {d mc ms k n pc : Nat} {ls : aLs} {st : List Value} {S : aS} {Q : aQ} {mi : aM}
theorem Ex.strLen (hcls : mi.1.cls = RX4) (hd0 : decode mi.2.1 pc = .ok (.ldc 91, 2)) (hd1 : decode mi.2.1 (pc + 2) = .ok (.invokevirtual 93, 3)) (hdd : 2 ≤ d) (h1 : k ≤ mc) (h2 : n ≤ ms) (hW : (st.map fun v => v.category).sum ≤ 8) (kk : Ex d mc ms mi k n (pc + 5) ls (.int 162 :: st) S Q) : Ex d mc ms mi k n pc ls st S Q := by
  intro p l e s m args below meth c G A ρ0 C H locs ρ cs h0 hR hS hL
  obtain ⟨kK, kV, b, hZ, hR9, hV⟩ := aZf (C.2.2.2.2.2.2.2.2.2.2.kp (fun a h1 h2 => hS.2.1 a h1 h2))
  have hown : s.vm.findClass "ZincSermon$Parser" = some m.cls := by have := C.2.2.2.2.1; rw [hcls] at this; exact this
  refine va_ldcS C.1 C.2.1 hown hR9 hd0 ?_
  have hts := C.2.2.2.2.2.1
  have ok : ∀ w ∈ GW, w.before args s = true := fun w h => hts w (List.mem_cons_of_mem _ h)
  obtain ⟨⟨w1, w2, w3, hdn, hml⟩, w4, w5⟩ := zc_93
  have hM := z_length (kK := kK) (kV := kV) (b := b) l
  refine va_calli (S := Unit) (A1 := fun _ => False) (a := [Value.ref kK].toArray) (va_runV (As := []) (b := kK) (rest := st.map (aV ρ)) (own := mi.1.cls) (Ts := aws mi) ⟨C.1, C.2.1, C.2.2.2.1, C.2.2.2.2.1, hts⟩ hM (C := RJ0) (n := 0) (bytes := mJ0_length_8abf5.2.1) (maxL := 1) (ret := some .int) ⟨⟨rfl, rfl, ?_, ?_, aws_mv hts w1, List.mem_cons_self, ok _ w1, ok _ w3, ⟨hdn.1, hdn.2.1⟩, sig_len hdn.2.2, by rw [hcls]; exact ok _ w2⟩, ok _ w4, ok _ w5⟩ ⟨zPc_blind, ?_, fun U hU hW => ?_⟩ rfl rfl hL.1 rfl ?_ hd1 ⟨?_, ?_⟩) hS (fun q _ h => h.elim) (fun q h => h.elim) (fun r' u t H1 locs1 ht hvm hw hB hz1 hk1 hS1 => ?_)
  · show 1 + 1 ≤ d; omega
  · show 8 + (1 + 11) + 64 * 1 ≤ 64 * d; omega
  · obtain ⟨cell, g1, g2, g3, -⟩ := (hV.1 0 (by decide)).1
    exact ⟨cell, g1, g2, g3⟩
  · refine ⟨rfl, ?_⟩
    show Zf kK kV b U U.heap
    rw [hU]
    exact hZ.mv hW (fun _ _ => rfl)
  · rw [aCat]; show 2 * 0 + _ ≤ 8; omega
  · show k + 0 ≤ mc; omega
  · show n + 0 ≤ ms; omega
  · cases Option.some.inj hw
    exact kk p l e s m args below meth c G A ρ0 C H1 locs1 ρ cs h0 (aRepK hR (fun q hq => hk1 q hq (fun h => h))) hS1 hL
theorem Ex.strAt {i j : Nat} {z : Fin 4} (hcls : mi.1.cls = RX4) (hd0 : decode mi.2.1 pc = .ok (.ldc 91, 2)) (hdi : decode mi.2.1 (pc + 2) = .ok (.iload_n z, 1)) (hi : (z : Nat) = i) (hl : ls[i]? = some (some (.int (nI j)))) (hj : j < 162) (hd1 : decode mi.2.1 (pc + 3) = .ok (.invokevirtual 98, 3)) (hdd : 4 ≤ d) (h1 : k ≤ mc) (h2 : n ≤ ms) (hW : (st.map fun v => v.category).sum ≤ 8) (kk : Ex d mc ms mi k n (pc + 6) ls (.int (ownB.getD j 0) :: st) S Q) : Ex d mc ms mi k n pc ls st S Q := by
  intro p l e s m args below meth c G A ρ0 C H locs ρ cs h0 hR hS hL
  obtain ⟨kK, kV, b, hZ, hR9, hV⟩ := aZf (C.2.2.2.2.2.2.2.2.2.2.kp (fun a h1 h2 => hS.2.1 a h1 h2))
  have hown : s.vm.findClass "ZincSermon$Parser" = some m.cls := by have := C.2.2.2.2.1; rw [hcls] at this; exact this
  refine va_ldcS C.1 C.2.1 hown hR9 hd0 ?_
  refine lv_iload_n C.1 C.2.1 hdi hi (hL.at hl) ?_
  have hts := C.2.2.2.2.2.1
  have ok : ∀ w ∈ GW, w.before args s = true := fun w h => hts w (List.mem_cons_of_mem _ h)
  obtain ⟨⟨w1, w2, w3, hdn, hml⟩, w4, w5⟩ := zc_98
  have hM := z_charAt (kK := kK) (kV := kV) (b := b) hj l
  refine va_calli (S := Unit) (A1 := fun _ => False) (a := [Value.ref kK, .int (nI j)].toArray) (va_runV (As := [.int (nI j)]) (b := kK) (rest := st.map (aV ρ)) (own := mi.1.cls) (Ts := aws mi) ⟨C.1, C.2.1, C.2.2.2.1, C.2.2.2.2.1, hts⟩ hM (C := RJ0) (n := 1) (bytes := mJ0_charAt_5068e.2.1) (maxL := 2) (ret := some .char) ⟨⟨rfl, rfl, ?_, ?_, aws_mv hts w1, List.mem_cons_self, ok _ w1, ok _ w3, ⟨hdn.1, hdn.2.1⟩, sig_len hdn.2.2, by rw [hcls]; exact ok _ w2⟩, ok _ w4, ok _ w5⟩ ⟨zPc_blind, ?_, fun U hU hW => ?_⟩ rfl rfl hL.1 rfl ?_ hd1 ⟨?_, ?_⟩) hS (fun q _ h => h.elim) (fun q h => h.elim) (fun r' u t H1 locs1 ht hvm hw hB hz1 hk1 hS1 => ?_)
  · show 3 + 1 ≤ d; omega
  · show 8 + (2 + 11) + 64 * 3 ≤ 64 * d; omega
  · obtain ⟨cell, g1, g2, g3, -⟩ := (hV.1 0 (by decide)).1
    exact ⟨cell, g1, g2, g3⟩
  · refine ⟨rfl, ?_⟩
    show Zf kK kV b U U.heap
    rw [hU]
    exact hZ.mv hW (fun _ _ => rfl)
  · rw [aCat]; show 2 * 0 + _ ≤ 8; omega
  · show k + 0 ≤ mc; omega
  · show n + 0 ≤ ms; omega
  · cases Option.some.inj hw
    exact kk p l e s m args below meth c G A ρ0 C H1 locs1 ρ cs h0 (aRepK hR (fun q hq => hk1 q hq (fun h => h))) hS1 hL
end EXS
