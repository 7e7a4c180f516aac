/-! the shape of the code that the class's parser writes: heights and truths on the stack -/
def stT (s : Nat × Nat) (st : List Bool) : Option (List Bool) :=
  if 61 < st.length then none
  else if s.1 = 0 then some (decide (s.2 ≤ 1) :: st)
  else if s.1 = 1 then some (false :: st)
  else if s.1 = 14 then (match st with
    | a :: r => if a = true then some (true :: r) else none
    | _ => none)
  else if s.1 = 15 then (match st with
    | _ :: _ :: a :: r => if a = true then some (false :: r) else none
    | _ => none)
  else (match st with
    | b :: a :: r => some ((if 9 ≤ s.1 ∧ s.1 ≤ 11 then true else if s.1 = 12 ∨ s.1 = 13 then a && b else false) :: r)
    | _ => none)
def runT : List (Nat × Nat) → List Bool → Option (List Bool)
  | [], st => some st
  | s :: l, st => (stT s st).bind (runT l)
theorem runT_a : ∀ (a b : List (Nat × Nat)) (st : List Bool), runT (a ++ b) st = (runT a st).bind (runT b)
  | [], _, _ => rfl
  | s :: a, b, st => by
    show (stT s st).bind (runT (a ++ b)) = ((stT s st).bind (runT a)).bind (runT b)
    cases stT s st with
    | none => rfl
    | some x => exact runT_a a b x
def Sh (d : List (Nat × Nat)) (h : Nat) (q : Bool) : Prop := ∀ st : List Bool, st.length + h ≤ 61 → ∃ b, runT d st = some (b :: st) ∧ (q = true → b = true)
theorem Sh.up {d : List (Nat × Nat)} {h h2 : Nat} {q : Bool} (s : Sh d h q) (hh : h ≤ h2) : Sh d h2 q := fun st hs => s st (by omega)
theorem Sh.wk {d : List (Nat × Nat)} {h : Nat} {q : Bool} (s : Sh d h q) : Sh d h false := fun st hs => by
  obtain ⟨b, e, _⟩ := s st hs
  exact ⟨b, e, fun z => by cases z⟩
theorem Sh.num (v : Nat) : Sh [(0, v)] 0 (decide (v ≤ 1)) := fun st hs => by
  refine ⟨decide (v ≤ 1), ?_, fun z => z⟩
  show (stT (0, v) st).bind (runT []) = _
  unfold stT
  rw [if_neg (by omega), if_pos rfl]; rfl
theorem Sh.nam (v : Nat) : Sh [(1, v)] 0 false := fun st hs => by
  refine ⟨false, ?_, fun z => z⟩
  show (stT (1, v) st).bind (runT []) = _
  unfold stT
  rw [if_neg (by omega), if_neg (show ¬ (1 : Nat) = 0 by decide), if_pos rfl]; rfl
theorem Sh.bin {d1 d2 : List (Nat × Nat)} {h h2 op : Nat} {q1 q2 q : Bool} (s1 : Sh d1 h q1) (s2 : Sh d2 h2 q2) (hh : h2 + 1 ≤ h) (h2' : 2 ≤ h) (ho : 2 ≤ op ∧ op ≤ 13) (hq : q = true → (9 ≤ op ∧ op ≤ 11) ∨ ((op = 12 ∨ op = 13) ∧ q1 = true ∧ q2 = true)) : Sh (d1 ++ d2 ++ [(op, 0)]) h q := fun st hs => by
  obtain ⟨a, e1, t1⟩ := s1 st hs
  obtain ⟨b, e2, t2⟩ := s2 (a :: st) (by show st.length + 1 + h2 ≤ 61; omega)
  rw [runT_a, runT_a, e1]
  show ∃ x, ((runT d2 (a :: st)).bind (runT [(op, 0)])) = _ ∧ _
  rw [e2]
  show ∃ x, (stT (op, 0) (b :: a :: st)).bind (runT []) = _ ∧ _
  unfold stT
  rw [if_neg (by show ¬ 61 < st.length + 1 + 1; omega), if_neg (by show ¬ op = 0; omega), if_neg (by show ¬ op = 1; omega), if_neg (by show ¬ op = 14; omega), if_neg (by show ¬ op = 15; omega)]
  refine ⟨_, rfl, fun z => ?_⟩
  show (if 9 ≤ op ∧ op ≤ 11 then true else if op = 12 ∨ op = 13 then a && b else false) = true
  rcases hq z with w | ⟨w, w1, w2⟩
  · rw [if_pos w]
  · rw [if_neg (by omega), if_pos w, t1 w1, t2 w2]; rfl
theorem Sh.nt {d : List (Nat × Nat)} {h : Nat} (s : Sh d h true) (hh : 1 ≤ h) : Sh (d ++ [(14, 0)]) h true := fun st hs => by
  obtain ⟨a, e1, t1⟩ := s st hs
  rw [runT_a, e1]
  show ∃ x, (stT (14, 0) (a :: st)).bind (runT []) = _ ∧ _
  unfold stT
  rw [if_neg (by show ¬ 61 < st.length + 1; omega), if_neg (by decide), if_neg (by decide), if_pos rfl]
  refine ⟨true, ?_, fun _ => rfl⟩
  show (if a = true then some (true :: st) else none).bind (runT []) = _
  rw [if_pos (t1 rfl)]; rfl
theorem Sh.cho {d1 d2 d3 : List (Nat × Nat)} {h h2 h3 : Nat} {q2 q3 : Bool} (s1 : Sh d1 h true) (s2 : Sh d2 h2 q2) (s3 : Sh d3 h3 q3) (hh : h2 + 1 ≤ h) (hh3 : h3 + 2 ≤ h) (h3' : 3 ≤ h) : Sh (d1 ++ d2 ++ d3 ++ [(15, 0)]) h false := fun st hs => by
  obtain ⟨a, e1, t1⟩ := s1 st hs
  obtain ⟨b, e2, t2⟩ := s2 (a :: st) (by show st.length + 1 + h2 ≤ 61; omega)
  obtain ⟨c, e3, t3⟩ := s3 (b :: a :: st) (by show st.length + 1 + 1 + h3 ≤ 61; omega)
  rw [runT_a, runT_a, runT_a, e1]
  show ∃ x, (((runT d2 (a :: st)).bind (runT d3)).bind (runT [(15, 0)])) = _ ∧ _
  rw [e2]
  show ∃ x, ((runT d3 (b :: a :: st)).bind (runT [(15, 0)])) = _ ∧ _
  rw [e3]
  show ∃ x, (stT (15, 0) (c :: b :: a :: st)).bind (runT []) = _ ∧ _
  unfold stT
  rw [if_neg (by show ¬ 61 < st.length + 1 + 1 + 1; omega), if_neg (by decide), if_neg (by decide), if_neg (by decide), if_pos rfl]
  refine ⟨false, ?_, fun z => by cases z⟩
  show (if a = true then some (false :: st) else none).bind (runT []) = _
  rw [if_pos (t1 rfl)]; rfl
/-- one step's kind and number, in a rule of the word sc -/
def OkS (sc : Nat) (s : Nat × Nat) : Prop := (s.1 = 0 ∧ s.2 < 10000) ∨ (s.1 = 1 ∧ s.2 < 27 ∧ mayW (nI s.2) sc = true) ∨ (2 ≤ s.1 ∧ s.1 ≤ 15 ∧ s.2 = 0)
def Apn (sc h : Nat) (q : Bool) (c c' : Cd) : Prop := ∃ d, c' = c ++ d ∧ Sh d h q ∧ ∀ s ∈ d, OkS sc s
def App (n sc h : Nat) (q : Bool) (F : Er → Er) : Prop := ∀ t c t' c', TkW n t → F (.ok (t, c)) = .ok (t', c') → Apn sc h q c c'
theorem adS_ok {s : Nat × Nat} {r : Er} {t : Tk} {c : Cd} (h : adS s r = .ok (t, c)) : ∃ c1, r = .ok (t, c1) ∧ c = c1 ++ [s] := by
  rcases r with e | ⟨t1, c1⟩
  · cases h
  · cases h; exact ⟨c1, rfl, rfl⟩
theorem nx_ok {tb : Nat → Nat} {n : Nat} {r : Er} {t : Tk} {c : Cd} (hb : ∀ i, i < n → tb i < 256) (hr : TkR n r) (h : nx tb n r = .ok (t, c)) : (∃ t1, r = .ok (t1, c) ∧ TkW n t1) ∧ TkW n t := by
  have hw : TkR n (nx tb n r) := (ad_nx0 hb r).1.1 hr
  rw [h] at hw
  rcases r with e | ⟨t1, c1⟩
  · cases h
  · have := nx_c h
    subst this
    exact ⟨⟨t1, rfl, hr⟩, hw⟩
theorem F_ok {n b : Nat} {F : Er → Er} (hg : GF n b F) {r : Er} {t : Tk} {c : Cd} (hr : TkR n r) (h : F r = .ok (t, c)) : (∃ t1 c1, r = .ok (t1, c1) ∧ TkW n t1) ∧ TkW n t := by
  have hw : TkR n (F r) := (hg r).1 hr
  rw [h] at hw
  rcases r with e | ⟨t1, c1⟩
  · rw [(hg _).2.1 e rfl] at h; cases h
  · exact ⟨⟨t1, c1, rfl, hr⟩, hw⟩
theorem tkS_o {tb : Nat → Nat} {n k : Nat} {r : Er} {t : Tk} {c : Cd} (hb : ∀ i, i < n → tb i < 256) (hr : TkR n r) (h : tkS tb n k r = .ok (t, c)) : (∃ t1, r = .ok (t1, c) ∧ TkW n t1) ∧ TkW n t := nx_ok hb hr (tkS_ok h).2
theorem sh_lp {tb : Nat → Nat} {n sc h : Nat} {cond : Er → Bool} {opk : Er → Nat} {pt : Er → Er} {q : Bool} (hb : ∀ i, i < n → tb i < 256) (hg : GF n 0 pt) (hpt : App n sc h q pt) (h1 : 1 ≤ h) (hop : ∀ r, 2 ≤ opk r ∧ opk r ≤ 13 ∧ (q = true → opk r = 12 ∨ opk r = 13)) {c0 : Cd} : ∀ (f : Nat) (r : Er) (t : Tk) (c : Cd) (t' : Tk) (c' : Cd), r = .ok (t, c) → TkW n t → Apn sc (h + 1) q c0 c → lpL tb n cond opk pt f r = .ok (t', c') → Apn sc (h + 1) q c0 c'
  | 0, r, t, c, t', c', e, _, ha, hl => by
    simp only [lpL] at hl
    rw [e] at hl; cases hl; exact ha
  | f + 1, r, t, c, t', c', e, hW, ha, hl => by
    simp only [lpL] at hl
    split at hl
    · have hrn : TkR n (nx tb n r) := (ad_nx0 hb r).1.1 (by rw [e]; exact hW)
      rcases hx : pt (nx tb n r) with e2 | ⟨t2, c2⟩
      · rw [hx] at hl
        have : lpL tb n cond opk pt f (.error e2) = .error e2 := ((lp_ad hb hg f) _).2.1 e2 rfl
        rw [show adS (opk r, 0) (.error e2) = .error e2 from rfl, this] at hl; cases hl
      · obtain ⟨⟨t1, c1, hn, hw1⟩, hw2⟩ := F_ok hg hrn hx
        have hc1 : c1 = c := by rw [e] at hn; exact nx_c hn
        subst hc1
        rw [hn] at hx
        obtain ⟨d2, e2, s2, o2⟩ := hpt t1 c1 t2 c2 hw1 hx
        obtain ⟨d1, e1, s1, o1⟩ := ha
        rw [hn, hx] at hl
        obtain ⟨p1, p2, p3⟩ := hop r
        refine sh_lp hb hg hpt h1 hop f _ t2 (c2 ++ [(opk r, 0)]) t' c' rfl hw2 ⟨d1 ++ d2 ++ [(opk r, 0)], ?_, ?_, fun s hs => ?_⟩ hl
        · rw [e2, e1]; simp [List.append_assoc]
        · exact s1.bin s2 (Nat.le_refl _) (by omega) ⟨p1, p2⟩ (fun z => Or.inr ⟨p3 z, z, z⟩)
        · rcases List.mem_append.mp hs with w | w
          · rcases List.mem_append.mp w with w | w
            · exact o1 s w
            · exact o2 s w
          · simp at w; rw [w]; exact Or.inr (Or.inr ⟨p1, by omega, rfl⟩)
    · rw [e] at hl; cases hl; exact ha
theorem Apn.up {sc h h2 : Nat} {q : Bool} {c c' : Cd} (a : Apn sc h q c c') (hh : h ≤ h2) : Apn sc h2 q c c' := by
  obtain ⟨d, e, s, o⟩ := a
  exact ⟨d, e, s.up hh, o⟩
theorem sh_prod {tb : Nat → Nat} {n sc h : Nat} {pt : Er → Er} (hb : ∀ i, i < n → tb i < 256) (hg : GF n 0 pt) (hpt : App n sc h false pt) (h1 : 1 ≤ h) : App n sc (h + 1) false (prodF tb n pt) := by
  intro t c t' c' hW hx
  unfold prodF at hx
  rw [prodL_lp] at hx
  rcases hy : pt (.ok (t, c)) with e | ⟨t1, c1⟩
  · rw [hy, ((lp_ad hb hg n) _).2.1 e rfl] at hx; cases hx
  · rw [hy] at hx
    exact sh_lp hb hg hpt h1 (fun r => by unfold opP; (repeat' split) <;> simp) n _ t1 c1 t' c' rfl (F_ok hg (r := .ok (t, c)) hW hy).2 ((hpt t c t1 c1 hW hy).up (by omega)) hx
theorem sh_sum {tb : Nat → Nat} {n sc h : Nat} {pt : Er → Er} (hb : ∀ i, i < n → tb i < 256) (hg : GF n 0 pt) (hpt : App n sc h false pt) (h1 : 1 ≤ h) : App n sc (h + 1) false (sumF tb n pt) := by
  intro t c t' c' hW hx
  unfold sumF at hx
  rw [sumL_lp] at hx
  rcases hy : pt (.ok (t, c)) with e | ⟨t1, c1⟩
  · rw [hy, ((lp_ad hb hg n) _).2.1 e rfl] at hx; cases hx
  · rw [hy] at hx
    exact sh_lp hb hg hpt h1 (fun r => by unfold opS; (repeat' split) <;> simp) n _ t1 c1 t' c' rfl (F_ok hg (r := .ok (t, c)) hW hy).2 ((hpt t c t1 c1 hW hy).up (by omega)) hx
theorem sh_word {tb : Nat → Nat} {n sc h w k : Nat} {pt : Er → Er} (hb : ∀ i, i < n → tb i < 256) (hg : GF n 0 pt) (hpt : App n sc h true pt) (h1 : 1 ≤ h) (hk : k = 12 ∨ k = 13) : App n sc (h + 1) true (fun r => wordL tb n w k pt n (pt r)) := by
  intro t c t' c' hW hx
  simp only at hx
  rw [wordL_lp] at hx
  rcases hy : pt (.ok (t, c)) with e | ⟨t1, c1⟩
  · rw [hy, ((lp_ad hb hg n) _).2.1 e rfl] at hx; cases hx
  · rw [hy] at hx
    exact sh_lp hb hg hpt h1 (fun r => ⟨by omega, by omega, fun _ => hk⟩) n _ t1 c1 t' c' rfl (F_ok hg (r := .ok (t, c)) hW hy).2 ((hpt t c t1 c1 hW hy).up (by omega)) hx
theorem one_nx {tb : Nat → Nat} {n sc h : Nat} {q : Bool} {t : Tk} {c : Cd} {s : Nat × Nat} {t' : Tk} {c' : Cd} (hx : nx tb n (adS s (.ok (t, c))) = .ok (t', c')) (hs : Sh [s] h q) (ho : OkS sc s) : Apn sc h q c c' := by
  have := nx_c (t := t) (c := c ++ [s]) hx
  exact ⟨[s], this, hs, fun x hx => by simp at hx; rw [hx]; exact ho⟩
/-- two or three sums in brackets, told one by one -/
theorem two_ok {tb : Nat → Nat} {n sc h o : Nat} {sm : Er → Er} (hb : ∀ i, i < n → tb i < 256) (hg : GF n 1 sm) (hs : App n sc h false sm) {X : Er} {t : Tk} {c : Cd} {t' : Tk} {c' : Cd} (hX : X = .ok (t, c)) (hW : TkW n t) {k : Nat} (hx : tkS tb n k (sm X) = .ok (t', c')) : Apn sc h false c c' ∧ TkW n t' := by
  subst hX
  have hr : TkR n (sm (.ok (t, c))) := (hg _).1 hW
  obtain ⟨⟨t1, e1, w1⟩, w2⟩ := tkS_o hb hr hx
  exact ⟨hs t c t1 c' hW e1, w2⟩
theorem sh_part {tb : Nat → Nat} {n sc o h : Nat} {sm te : Er → Er} (hb : ∀ i, i < n → tb i < 256) (h1 : 3 ≤ h) (hs : o < 7 → GF n 1 sm ∧ App n sc (h - 3) false sm) (ht : o < 7 → GF n 1 te ∧ App n sc h true te) : App n sc h false (partF tb n sc o sm te) := by
  intro t c t' c' hW hx
  have hrn : TkR n (nx tb n (.ok (t, c))) := (ad_nx0 hb _).1.1 (show TkR n (.ok (t, c)) from hW)
  have hrnn : TkR n (nx tb n (nx tb n (.ok (t, c)))) := (ad_nx0 hb _).1.1 hrn
  have inn : ∀ (t2 : Tk) (c2 : Cd), nx tb n (nx tb n (.ok (t, c))) = .ok (t2, c2) → c2 = c ∧ TkW n t2 := fun t2 c2 e => by
    obtain ⟨⟨t1, e1, w1⟩, w2⟩ := nx_ok hb hrn e
    exact ⟨nx_c e1, w2⟩
  unfold partF at hx
  split at hx
  · rename_i hk
    exact one_nx hx ((Sh.num _).wk.up (by omega)) (Or.inl ⟨rfl, (show TkW n t from hW).2.2.2.2.2.2.1 (of_decide_eq_true hk)⟩)
  · split at hx
    · rename_i hk hn
      have hn2 := (Bool.and_eq_true _ _).mp hn
      refine one_nx hx ((Sh.nam _).up (by omega)) (Or.inr (Or.inl ⟨rfl, ?_, ?_⟩))
      · rcases own_c t.2.2.1 with q | q
        · rw [q.1] at hn2; exact absurd hn2.2 (by unfold mayW; simp)
        · exact q.1
      · rcases own_c t.2.2.1 with q | q
        · rw [q.1] at hn2; exact absurd hn2.2 (by unfold mayW; simp)
        · show mayW (nI (ownN t.2.2.1)) sc = true
          rw [← q.2]; exact hn2.2
    · split at hx
      · unfold lesF at hx
        split at hx
        · split at hx
          · obtain ⟨e, he⟩ := stp_r (k := 5) (nx tb n (.ok (t, c)))
            rw [he] at hx; cases hx
          · have h7 : o < 7 := by omega
            obtain ⟨gs, as⟩ := hs h7
            obtain ⟨c1, e1, ec⟩ := adS_ok hx
            have hr3 : TkR n (sm (nx tb n (nx tb n (.ok (t, c))))) := (gs _).1 hrnn
            have hr4 : TkR n (tkS tb n 44 (sm (nx tb n (nx tb n (.ok (t, c)))))) := (ad_tkS hb 44 _).1 hr3
            have hr5 := (gs _).1 hr4
            obtain ⟨⟨t2, e2, w2⟩, _⟩ := tkS_o hb hr5 e1
            obtain ⟨⟨t3, c3, e3, w3⟩, _⟩ := F_ok gs hr4 e2
            obtain ⟨⟨t4, e4, w4⟩, _⟩ := tkS_o hb hr3 e3
            obtain ⟨⟨t5, c5, e5, w5⟩, _⟩ := F_ok gs hrnn e4
            obtain ⟨hc5, _⟩ := inn t5 c5 e5
            subst hc5
            rw [e5] at e4
            rw [e3] at e2
            obtain ⟨d1, f1, s1, o1⟩ := as t5 c5 t4 c3 w5 e4
            obtain ⟨d2, f2, s2, o2⟩ := as t3 c3 t2 c1 w3 e2
            refine ⟨d1 ++ d2 ++ [(if isW 25 (.ok (t, c5)) = true then 7 else 8, 0)], by rw [ec, f2, f1]; simp [List.append_assoc], Sh.bin (s1.up (h2 := h) (by omega)) s2 (by omega) (by omega) (by split <;> decide) (fun z => by cases z), fun s hs => ?_⟩
            rcases List.mem_append.mp hs with w | w
            · rcases List.mem_append.mp w with w | w
              · exact o1 s w
              · exact o2 s w
            · simp at w; rw [w]; exact Or.inr (Or.inr ⟨by show 2 ≤ (if _ then 7 else 8); split <;> decide, by show (if _ then 7 else 8) ≤ 15; split <;> decide, rfl⟩)
        · obtain ⟨e, he⟩ := stp_r (k := 1) (nx tb n (.ok (t, c)))
          rw [he] at hx; cases hx
      · split at hx
        · unfold choF at hx
          split at hx
          · split at hx
            · obtain ⟨e, he⟩ := stp_r (k := 5) (nx tb n (.ok (t, c)))
              rw [he] at hx; cases hx
            · have h7 : o < 7 := by omega
              obtain ⟨gs, as⟩ := hs h7
              obtain ⟨gt, at'⟩ := ht h7
              obtain ⟨c1, e1, ec⟩ := adS_ok hx
              have hr3 : TkR n (te (nx tb n (nx tb n (.ok (t, c))))) := (gt _).1 hrnn
              have hr4 := (ad_tkS hb 44 _).1 hr3
              have hr5 := (gs _).1 hr4
              have hr6 := (ad_tkS hb 44 _).1 hr5
              have hr7 := (gs _).1 hr6
              obtain ⟨⟨t2, e2, w2⟩, _⟩ := tkS_o hb hr7 e1
              obtain ⟨⟨t3, c3, e3, w3⟩, _⟩ := F_ok gs hr6 e2
              obtain ⟨⟨t4, e4, w4⟩, _⟩ := tkS_o hb hr5 e3
              obtain ⟨⟨t5, c5, e5, w5⟩, _⟩ := F_ok gs hr4 e4
              obtain ⟨⟨t6, e6, w6⟩, _⟩ := tkS_o hb hr3 e5
              obtain ⟨⟨t7, c7, e7, w7⟩, _⟩ := F_ok gt hrnn e6
              obtain ⟨hc7, _⟩ := inn t7 c7 e7
              subst hc7
              rw [e7] at e6
              rw [e5] at e4
              rw [e3] at e2
              obtain ⟨d1, f1, s1, o1⟩ := at' t7 c7 t6 c5 w7 e6
              obtain ⟨d2, f2, s2, o2⟩ := as t5 c5 t4 c3 w5 e4
              obtain ⟨d3, f3, s3, o3⟩ := as t3 c3 t2 c1 w3 e2
              refine ⟨d1 ++ d2 ++ d3 ++ [(15, 0)], by rw [ec, f3, f2, f1]; simp [List.append_assoc], Sh.cho s1 s2 s3 (by omega) (by omega) h1, fun s hs => ?_⟩
              rcases List.mem_append.mp hs with w | w
              · rcases List.mem_append.mp w with w | w
                · rcases List.mem_append.mp w with w | w
                  · exact o1 s w
                  · exact o2 s w
                · exact o3 s w
              · simp at w; rw [w]; exact Or.inr (Or.inr ⟨by decide, by decide, rfl⟩)
          · obtain ⟨e, he⟩ := stp_r (k := 1) (nx tb n (.ok (t, c)))
            rw [he] at hx; cases hx
        · split at hx
          · split at hx
            · cases hx
            · have h7 : o < 7 := by omega
              obtain ⟨gs, as⟩ := hs h7
              have hr3 := (gs _).1 hrn
              obtain ⟨⟨t2, e2, w2⟩, _⟩ := tkS_o hb hr3 hx
              obtain ⟨⟨t3, c3, e3, w3⟩, _⟩ := F_ok gs hrn e2
              have hc3 := nx_c e3
              subst hc3
              rw [e3] at e2
              exact (as t3 c3 t2 c' w3 e2).up (by omega)
          · cases hx
theorem sh_comp {tb : Nat → Nat} {n sc h : Nat} {sm : Er → Er} (hb : ∀ i, i < n → tb i < 256) (hg : GF n 1 sm) (hs : App n sc h false sm) (h1 : 1 ≤ h) : App n sc (h + 1) true (compF tb n sm) := by
  intro t c t' c' hW hx
  unfold compF at hx
  split at hx
  · obtain ⟨c1, e1, ec⟩ := adS_ok hx
    have hr1 : TkR n (sm (.ok (t, c))) := (hg _).1 (show TkR n (.ok (t, c)) from hW)
    have hr2 : TkR n (nx tb n (sm (.ok (t, c)))) := (ad_nx0 hb _).1.1 hr1
    obtain ⟨⟨t2, c2, e2, w2⟩, _⟩ := F_ok hg hr2 e1
    obtain ⟨⟨t3, e3, w3⟩, _⟩ := nx_ok hb hr1 e2
    rw [e2] at e1
    obtain ⟨d1, f1, s1, o1⟩ := hs t c t3 c2 hW e3
    obtain ⟨d2, f2, s2, o2⟩ := hs t2 c2 t' c1 w2 e1
    have ho : 9 ≤ opC (sm (.ok (t, c))) ∧ opC (sm (.ok (t, c))) ≤ 11 := by unfold opC; (repeat' split) <;> decide
    refine ⟨d1 ++ d2 ++ [(opC (sm (.ok (t, c))), 0)], by rw [ec, f2, f1]; simp [List.append_assoc], Sh.bin (s1.up (h2 := h + 1) (by omega)) s2 (by omega) (by omega) (by omega) (fun _ => Or.inl ho), fun s hs => ?_⟩
    rcases List.mem_append.mp hs with w | w
    · rcases List.mem_append.mp w with w | w
      · exact o1 s w
      · exact o2 s w
    · simp at w; rw [w]; exact Or.inr (Or.inr ⟨by show 2 ≤ opC _; omega, by show opC _ ≤ 15; omega, rfl⟩)
  · obtain ⟨e, he⟩ := stp_r (k := 1) (sm (.ok (t, c)))
    rw [he] at hx; cases hx
theorem sh_fact {tb : Nat → Nat} {n sc o h : Nat} {fa te cm : Er → Er} (hb : ∀ i, i < n → tb i < 256) (h1 : 1 ≤ h) (hf : o < 7 → GF n 1 fa ∧ App n sc h true fa) (ht : o < 7 → GF n 1 te ∧ App n sc h true te) (hc : App n sc h true cm) : App n sc h true (factF tb n o fa te cm) := by
  intro t c t' c' hW hx
  have hrn : TkR n (nx tb n (.ok (t, c))) := (ad_nx0 hb _).1.1 (show TkR n (.ok (t, c)) from hW)
  unfold factF at hx
  split at hx
  · split at hx
    · cases hx
    · obtain ⟨gf, af⟩ := hf (by omega)
      obtain ⟨c1, e1, ec⟩ := adS_ok hx
      obtain ⟨⟨t2, c2, e2, w2⟩, _⟩ := F_ok gf hrn e1
      have hc2 := nx_c e2
      subst hc2
      rw [e2] at e1
      obtain ⟨d1, f1, s1, o1⟩ := af t2 c2 t' c1 w2 e1
      refine ⟨d1 ++ [(14, 0)], by rw [ec, f1]; simp [List.append_assoc], s1.nt h1, fun s hs => ?_⟩
      rcases List.mem_append.mp hs with w | w
      · exact o1 s w
      · simp at w; rw [w]; exact Or.inr (Or.inr ⟨by decide, by decide, rfl⟩)
  · split at hx
    · split at hx
      · cases hx
      · obtain ⟨gt, at'⟩ := ht (by omega)
        have hr3 := (gt _).1 hrn
        obtain ⟨⟨t2, e2, w2⟩, _⟩ := tkS_o hb hr3 hx
        obtain ⟨⟨t3, c3, e3, w3⟩, _⟩ := F_ok gt hrn e2
        have hc3 := nx_c e3
        subst hc3
        rw [e3] at e2
        exact at' t3 c3 t2 c' w3 e2
    · split at hx
      · exact one_nx hx ((Sh.num 1).up (by omega)) (Or.inl ⟨rfl, by decide⟩)
      · exact hc t c t' c' hW hx
theorem sh_lvl {tb : Nat → Nat} {n sc : Nat} (hb : ∀ i, i < n → tb i < 256) : ∀ m, App n sc (5 * m + 5) false (lvl tb n sc m).1 ∧ App n sc (5 * m + 8) true (lvl tb n sc m).2.1 ∧ App n sc (5 * m + 6) true (lvl tb n sc m).2.2 := by
  have z : ∀ {F : Er → Er}, GF n 1 F → GF n 0 F := fun h r => (h r).le (by omega)
  have step : ∀ (m o : Nat) (q : (Er → Er) × (Er → Er) × (Er → Er)), (o < 7 → GF n 1 q.1 ∧ GF n 1 q.2.1 ∧ GF n 1 q.2.2) → (o < 7 → 1 ≤ m ∧ App n sc (5 * (m - 1) + 5) false q.1 ∧ App n sc (5 * (m - 1) + 8) true q.2.1 ∧ App n sc (5 * (m - 1) + 6) true q.2.2) → App n sc (5 * m + 5) false (mkL tb n sc o q).1 ∧ App n sc (5 * m + 8) true (mkL tb n sc o q).2.1 ∧ App n sc (5 * m + 6) true (mkL tb n sc o q).2.2 := by
    intro m o q hq hA
    have up : ∀ {h h2 : Nat} {b : Bool} {F : Er → Er}, App n sc h b F → h ≤ h2 → App n sc h2 b F := fun a hh t c t' c' w e => (a t c t' c' w e).up hh
    have hp : GF n 1 (partF tb n sc o q.1 q.2.1) := g_part hb (fun h => (hq h).1) (fun h => (hq h).2.1)
    have gm := g_mk (sc := sc) hb hq
    have ap : App n sc (5 * m + 3) false (partF tb n sc o q.1 q.2.1) := sh_part hb (by omega) (fun h => ⟨(hq h).1, up (hA h).2.1 (by have := (hA h).1; omega)⟩) (fun h => ⟨(hq h).2.1, up (hA h).2.2.1 (by have := (hA h).1; omega)⟩)
    have as : App n sc (5 * m + 5) false (mkL tb n sc o q).1 := sh_sum hb (z (g_prod hb hp)) (sh_prod hb (z hp) ap (by omega)) (by omega)
    have af : App n sc (5 * m + 6) true (mkL tb n sc o q).2.2 := sh_fact hb (by omega) (fun h => ⟨(hq h).2.2, up (hA h).2.2.2 (by have := (hA h).1; omega)⟩) (fun h => ⟨(hq h).2.1, up (hA h).2.2.1 (by have := (hA h).1; omega)⟩) (sh_comp hb gm.1 as (by omega))
    exact ⟨as, sh_word hb (z (g_word hb gm.2.2)) (sh_word hb (z gm.2.2) af (by omega) (Or.inr rfl)) (by omega) (Or.inl rfl), af⟩
  intro m
  induction m with
  | zero => exact step 0 7 _ (fun h => absurd h (by decide)) (fun h => absurd h (by decide))
  | succ m ih => exact step (m + 1) (6 - m) _ (fun _ => g_lvl hb m) (fun _ => ⟨by omega, ih⟩)
theorem sh_ru {tb : Nat → Nat} {n k : Nat} (hb : ∀ i, i < n → tb i < 256) : App n k 43 (decide (k = 11 ∨ k = 12)) (ruF tb n k) := by
  intro t c t' c' hW hx
  unfold ruF at hx
  split at hx
  · rename_i h
    rw [decide_eq_true h]
    exact (sh_lvl hb 7).2.1 t c t' c' hW hx
  · rename_i h
    rw [decide_eq_false h]
    exact ((sh_lvl hb 7).1 t c t' c' hW hx).up (by omega)
