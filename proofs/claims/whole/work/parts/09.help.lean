/-! ends of contracts, indices -/
def RI (x : Int32) (S : aS) : aQ := fun r S' => r = some (.int x) ∧ S' = S
def RV (S : aS) : aQ := fun r S' => r = none ∧ S' = S
theorem nI_lit (n : Nat) : (OfNat.ofNat n : Int32) = nI n := rfl
theorem ixN {j N : Nat} (h : j < N) (hN : N < 2 ^ 31) : vp_in (nI j) N ∧ (nI j).toNatClampNeg = j := ⟨vp_in_nI h hN, nI_clamp (by omega)⟩
theorem ixA {x : Int32} {a j N : Nat} (hx : x = nI a) (h : a + j < N) (hN : N < 2 ^ 31) : vp_in (x + nI j) N ∧ (x + nI j).toNatClampNeg = a + j := by
  rw [hx, nI_add]
  exact ixN h hN
/-- the words of a switch that is left -/
theorem toInt_ne {x : Int32} {k : Int32} {z : Int} (h : ¬ x = k) (hk : k.toInt = z) : ¬ x.toInt = z := fun q => h (Int32.toInt_inj.mp (by rw [hk]; exact q))
theorem ixA2 {x : Int32} {a j : Nat} (hx : x = nI a) (h : a + j < 2 ^ 31) : (x + nI j).toNatClampNeg = a + j := by
  rw [hx, nI_add]
  exact nI_clamp h
theorem ixN2 {j : Nat} (h : j < 2 ^ 31) : (nI j).toNatClampNeg = j := nI_clamp h
