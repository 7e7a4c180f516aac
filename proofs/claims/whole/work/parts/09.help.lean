/-! ends of contracts, indices -/
def RI (x : Int32) (S : aS) : aQ := fun r S' => r = some (.int x) ∧ S' = S
def RV (S : aS) : aQ := fun r S' => r = none ∧ S' = S
theorem nI_lit (n : Nat) : (OfNat.ofNat n : Int32) = nI n := rfl
theorem ixN {j N : Nat} (h : j < N) (hN : N < 2 ^ 31) : vp_in (nI j) N ∧ (nI j).toNatClampNeg = j := ⟨vp_in_nI h hN, nI_clamp (by omega)⟩
theorem ixA {x : Int32} {a j N : Nat} (hx : x = nI a) (h : a + j < N) (hN : N < 2 ^ 31) : vp_in (x + nI j) N ∧ (x + nI j).toNatClampNeg = a + j := by
  rw [hx, nI_add]
  exact ixN h hN
/-- the words of a switch that is left -/
theorem toInt_ne {x : Int32} {k : Int32} {z : Int} (h : ¬ x = k) (hk : k.toInt = z) : ¬ x.toInt = z := fun q => h (Int32.toInt_inj.mp (by rw [hk]; exact q))
theorem ixA2 {x : Int32} {a j : Nat} (hx : x = nI a) (h : a + j < 2 ^ 31) : (x + nI j).toNatClampNeg = a + j := by
  rw [hx, nI_add]
  exact nI_clamp h
theorem ixN2 {j : Nat} (h : j < 2 ^ 31) : (nI j).toNatClampNeg = j := nI_clamp h
/-- an end that tells of the ints then what P says -/
def RP (x : Option Value) (N : Nat) (L : aL) (P : aI → Prop) : aQ := fun r S' => ∃ I' : aI, r = x ∧ S' = St N I' L ∧ P I'
/-- only the cells of l may have changed -/
def Sm (l : List Nat) (I I' : aI) : Prop := ∀ a, a ∉ l → I' a = I a
theorem Sm.rf {l : List Nat} {I : aI} : Sm l I I := fun _ _ => rfl
theorem Sm.up {l : List Nat} {I I' : aI} {a : Nat} {f : Nat → Int32} (h : Sm l I I') (ha : a ∈ l) : Sm l I (va_up I' a f) := fun b hb => by
  have e : b ≠ a := fun e => hb (by rw [e]; exact ha)
  rw [va_up_n e]
  exact h b hb
theorem Sm.tr {l l1 l2 : List Nat} {I I1 I2 : aI} (h1 : Sm l1 I I1) (h2 : Sm l2 I1 I2) (s1 : ∀ a ∈ l1, a ∈ l) (s2 : ∀ a ∈ l2, a ∈ l) : Sm l I I2 := fun a ha => (h2 a (fun h => ha (s2 a h))).trans (h1 a (fun h => ha (s1 a h)))
theorem forUp {σ : Type} {P Inv : Nat → σ → Prop} (K : Nat) (hend : ∀ s, Inv K s → P K s) (hstep : ∀ k s, k < K → Inv k s → (∀ s', Inv (k + 1) s' → P (k + 1) s') → P k s) : ∀ k s, k ≤ K → Inv k s → P k s := by
  intro k s hk
  obtain ⟨n, rfl⟩ : ∃ n, K = k + n := ⟨K - k, by omega⟩
  clear hk
  induction n generalizing k s with
  | zero => exact hend s
  | succ n ih =>
    intro hi
    exact hstep k s (by omega) hi (fun s' h' => ih (k + 1) s' (by rw [show k + 1 + n = k + (n + 1) by omega]; exact hend) (fun k' s1 h1 => hstep k' s1 (by omega)) h')
theorem upd_s {f : Nat → Int32} {k : Nat} {x : Int32} : upd f k x k = x := by simp [upd]
theorem upd_n {f : Nat → Int32} {k j : Nat} {x : Int32} (h : j ≠ k) : upd f k x j = f j := by simp [upd, h]
theorem Ex.lxor {d mc ms : Nat} {mi : aM} {k n pc : Nat} {ls : aLs} {st : List Value} {S : aS} {Q : aQ} {x y : Int64} (hd : decode mi.2.1 pc = .ok (.lxor, 1)) (kk : Ex d mc ms mi k n (pc + 1) ls (.long (x ^^^ y) :: st) S Q) : Ex d mc ms mi k n pc ls (.long y :: .long x :: st) S Q :=
  fun p l e s m args below meth c G A ρ0 C H locs ρ cs h0 hR hS hL => lv_lxor C.1 C.2.1 hd (kk p l e s m args below meth c G A ρ0 C H locs ρ cs h0 hR hS hL)
def RL64 (x : Int64) (S : aS) : aQ := fun r S' => r = some (.long x) ∧ S' = S
