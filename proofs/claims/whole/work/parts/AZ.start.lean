/-! what the law has at its entry -/
theorem kn_all {s : State} {b : Nat} (ok : ∀ w ∈ GW, w.before #[Value.ref b] s = true) : ∃ (D : va_G), ∀ (c : Nat) (q : vw_C), acl[c]? = some q → u_Kn s q.1 q.2.1 q.2.2 (D.1 c) (D.2 c) := by
  have h : ∀ c : Nat, ∃ x : ClassId × (Nat → Nat), ∀ q : vw_C, acl[c]? = some q → u_Kn s q.1 q.2.1 q.2.2 x.1 x.2 := fun c => by
    cases hq : acl[c]? with
    | none => exact ⟨(0, fun _ => 0), fun q h => by cases h⟩
    | some q =>
      obtain ⟨C, T, N⟩ := q
      obtain ⟨hN, -, -, hin, h11⟩ := acl_ok c C T N hq
      have hi : (Cond.instantiable C N).before #[Value.ref b] s = true := by
        have : ∀ c, c < 11 → ∀ C T N, acl[c]? = some (C, T, N) → Cond.instantiable C N ∈ GW := fun c hc C T N h => by
          rcases (show c = 0 ∨ c = 1 ∨ c = 2 ∨ c = 3 ∨ c = 4 ∨ c = 5 ∨ c = 6 ∨ c = 7 ∨ c = 8 ∨ c = 9 ∨ c = 10 by omega) with e | e | e | e | e | e | e | e | e | e | e <;> subst e <;> cases h
          · exact kx_X0
          · exact kx_X1
          · exact kx_X2
          · exact kx_X3
          · exact kx_X4
          · exact kx_X5
          · exact kx_X6
          · exact kx_X7
          · exact kx_X8
          · exact kx_X9
          · exact kx_X10
        exact ok _ (this c h11 C T N hq)
      obtain ⟨cC, iS, hK⟩ := u_known (ws := GW) ok hin hi
      exact ⟨(cC, iS), fun q h => by cases h; exact hK⟩
  obtain ⟨f, hf⟩ := Classical.axiomOfChoice h
  exact ⟨(fun c => (f c).1, fun c => (f c).2), fun c q hq => hf c q hq⟩
theorem ar_one {s : State} {b : Nat} {ty : FieldType} (h : (Cond.arrayClass ty).before #[Value.ref b] s = true) (hra : ∀ c : ClassId, s.vm.findClass ("[" ++ ty.toString) = some c → va_RA s c ty) : ∃ cA : ClassId, ArrOfT s cA ty ∧ va_RA s cA ty := by
  obtain ⟨cA, kA, comp, h1, h2, h3⟩ := Cond.arrayClass_spec h
  exact ⟨cA, fun n z => ⟨fun k h => (by cases h), kA, h2, comp, h3⟩, hra cA h1⟩
theorem gwA0 : Cond.arrayClass .int ∈ GW := by decide +kernel
theorem gwA1 : Cond.arrayClass .byte ∈ GW := by decide +kernel
theorem gwA2 : Cond.arrayClass .boolean ∈ GW := by decide +kernel
theorem gwA3 : Cond.arrayClass .long ∈ GW := by decide +kernel
theorem kn_G {s : State} {b : Nat} (ok : ∀ w ∈ GW, w.before #[Value.ref b] s = true) : ∃ G : aG, va_K G.1 acl (atys G) s := by
  obtain ⟨D, hD⟩ := kn_all ok
  obtain ⟨c0, h0⟩ := ar_one (ok _ gwA0) (fun _ h => h)
  obtain ⟨c1, h1⟩ := ar_one (ok _ gwA1) (fun _ h => h)
  obtain ⟨c2, h2⟩ := ar_one (ok _ gwA2) (fun _ h => h)
  obtain ⟨c3, h3⟩ := ar_one (ok _ gwA3) (fun _ h => h)
  refine ⟨(D, fun t => if t = 0 then c0 else if t = 1 then c1 else if t = 2 then c2 else c3), hD, fun k q hk => ?_⟩
  match k, hk with
  | 0, hk => cases hk; exact h0
  | 1, hk => cases hk; exact h1
  | 2, hk => cases hk; exact h2
  | 3, hk => cases hk; exact h3
  | k + 4, hk => cases hk
abbrev tmO : Term := .string "ZincSermon$Parser" 91
theorem gv1 : Cond.exactly tmO "java/lang/String" ∈ flatC (Jvm.Cond.and given_1 narrow_1) := by decide +kernel
theorem gv2 : Cond.eq (.field tmO "java/lang/String" "coder" "B") (.int 0) ∈ flatC (Jvm.Cond.and given_1 narrow_1) := by decide +kernel
theorem gv3 : Cond.arrayOf (.field tmO "java/lang/String" "value" "[B") .byte ∈ flatC (Jvm.Cond.and given_1 narrow_1) := by decide +kernel
theorem gv4 : Cond.eq (.length (.field tmO "java/lang/String" "value" "[B")) (.int 162) ∈ flatC (Jvm.Cond.and given_1 narrow_1) := by decide +kernel
theorem gv5l : ((flatC (Jvm.Cond.and given_1 narrow_1)).drop 13).take 162 = (List.range 162).map (fun j => Cond.eq (.elem (.field tmO "java/lang/String" "value" "[B") (.int (Int32.ofNat j))) (.int (ownB.getD j 0))) := by decide +kernel
theorem gv5 (j : Nat) (hj : j < 162) : Cond.eq (.elem (.field tmO "java/lang/String" "value" "[B") (.int (Int32.ofNat j))) (.int (ownB.getD j 0)) ∈ flatC (Jvm.Cond.and given_1 narrow_1) := by
  have h : Cond.eq (.elem (.field tmO "java/lang/String" "value" "[B") (.int (Int32.ofNat j))) (.int (ownB.getD j 0)) ∈ ((flatC (Jvm.Cond.and given_1 narrow_1)).drop 13).take 162 := by
    rw [gv5l]; exact List.mem_map.mpr ⟨j, List.mem_range.mpr hj, rfl⟩
  exact List.mem_of_mem_drop (List.mem_of_mem_take h)
theorem gv6 : Cond.eq (.static "java/lang/String" "COMPACT_STRINGS" "Z") (.int 1) ∈ flatC (Jvm.Cond.and given_1 narrow_1) := by decide +kernel
theorem gv7 : Cond.isRef (.static "jdk/internal/util/Preconditions" "SIOOBE_FORMATTER" "Ljava/util/function/BiFunction;") ∈ flatC (Jvm.Cond.and given_1 narrow_1) := by decide +kernel
theorem gt1 : Cond.stringRef "ZincSermon$Parser" 91 ownT ∈ lw_tbl := by decide +kernel
theorem gt2 : Cond.laysStatic "java/lang/String" "COMPACT_STRINGS" "Z" ∈ lw_tbl := by decide +kernel
theorem gt3 : Cond.laysStatic "jdk/internal/util/Preconditions" "SIOOBE_FORMATTER" "Ljava/util/function/BiFunction;" ∈ lw_tbl := by decide +kernel
theorem gt4 : Cond.initialized "java/lang/String" ∈ lw_tbl := by decide +kernel
theorem gt5 : Cond.initialized "jdk/internal/util/Preconditions" ∈ lw_tbl := by decide +kernel
theorem zs_0 {s : State} {b : Nat} (hts : ∀ w ∈ lw_tbl, w.before #[Value.ref b] s = true) (hg : (Jvm.Cond.and given_1 narrow_1).before #[Value.ref b] s = true) : aZs (aLo s) s s.heap := by
  have hs := flat_of_before _ hg
  have hA : ∀ a : Nat, a < s.heap.size → ¬ aLo s a := fun a h => Nat.not_le.mpr h
  obtain ⟨adK, adV, hK, hE⟩ := vk_Sof (args := #[Value.ref b]) (s := s) (N := 1) (tm := fun _ => tmO) (len := [162]) (byt := [ownB]) (A := aLo s) (fun i hi => by rw [show i = 0 by omega]; decide) (fun i _ => hs _ gv1) (fun i _ => hs _ gv2) (fun i _ => hs _ gv3) (fun i hi => by rw [show i = 0 by omega]; exact hs _ gv4) (fun i hi j hj => by
    have e : i = 0 := by omega
    subst e
    exact hs _ (gv5 j hj)) (fun i j hi hj h => absurd (show i = j by omega) h) hA
  have e0 : (fun _ : Nat => adK 0) = fun i => adK 0 := rfl
  refine ⟨⟨adK 0, adV 0, ⟨fun i hi => ?_, fun i j hi hj _ => by omega⟩, vk_R.of (A := #[Value.ref b]) (hts _ gt1) (hE 0 (by decide))⟩, va_Zof (hts _ gt2) (hts _ gt4) (va_eqt (hs _ gv6)) hA, ?_⟩
  · have e : i = 0 := by omega
    subst e
    exact hK.1 0 hi
  · obtain ⟨v, hv, hr⟩ := Cond.isRef_spec (hs _ gv7)
    cases v with
    | ref a => exact ⟨some a, va_Zof (hts _ gt3) (hts _ gt5) hv hA⟩
    | null => exact ⟨none, va_Zof (hts _ gt3) (hts _ gt5) hv hA⟩
    | int _ => cases hr
    | long _ => cases hr
    | float _ => cases hr
    | double _ => cases hr
    | retAddr _ => cases hr
/-- from the entry, for every script of at most 3072 ints, the law comes to its end with true -/
theorem whole_start {p : Program} {e : Env} {s : State} {m : MethodId} {below : List Frame} {meth : Method} {c : Code} (l : Launch) {b L : Nat} {xs : Nat → Int32} (hL : L ≤ 3072) (C0 : lw_At p s m meth c b L xs) : W p l e room_1 s m #[Value.ref b] below meth c s.heap [] 0 0 (lw_Z below #[Value.ref b] s) (entryFrame m ([Value.ref b] : List Value).toArray 4) := by
  have hts := C0.2.2.2.2.2.1
  obtain ⟨G, hK⟩ := kn_G (s := s) (b := b) (fun w h => hts w (GW_tbl h))
  have hZ := zs_0 hts C0.2.2.2.2.2.2.2.2.2
  have hl := lv_entry [Value.ref b] (n := 4) (Nat.le_of_ble_eq_true rfl)
  have K := lw_begin (xs := xs) hL p l e s m below meth c b G ⟨C0, hK, hZ⟩ s.heap [] ((lg_sl [Value.ref b] ++ List.replicate (4 - (lg_sl [Value.ref b]).length) Slot.unset).toArray) ⟨rfl, fun i k b h => (by cases h), fun k q h => (by cases h), fun i j p q h => (by cases h), fun k q h => (by cases h)⟩ va_S.rf ⟨hl.1, hl.2.1, fun q hq => ?_⟩
  · rw [lg_entry_eq]
    exact K
  · rcases List.mem_cons.mp hq with e | e
    · rw [e]; exact hl.2.2 _ List.mem_cons_self
    · cases e
