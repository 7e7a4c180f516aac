/-! rows: the reference's enumeration -/
def isInB (r : List Nat) (a : Nat) : Bool := (r.take a).any (fun c => Nat.beq c (r.getD a 0))
def bumpF (o a : Nat) : Nat → List Nat → List Nat
  | 0, r => r
  | f + 1, r => if (Nat.blt (r.getD a 0) o && isInB r a) = true then bumpF o a f (r.set a (r.getD a 0 + 1)) else r
def fillF (o many : Nat) : Nat → Nat → List Nat → List Nat × Bool
  | 0, _, r => (r, true)
  | f + 1, k, r => if Nat.blt (((bumpF o k 7 (r.set k 0)).getD k 0)) o = true then fillF o many f (k + 1) (bumpF o k 7 (r.set k 0)) else (bumpF o k 7 (r.set k 0), false)
def nextF (o many : Nat) : Nat → List Nat → List Nat × Bool
  | 0, r => (r, false)
  | a + 1, r => if Nat.blt ((bumpF o a 7 (r.set a (r.getD a 0 + 1))).getD a 0) o = true then fillF o many (many - (a + 1)) (a + 1) (bumpF o a 7 (r.set a (r.getD a 0 + 1))) else nextF o many a (bumpF o a 7 (r.set a (r.getD a 0 + 1)))
def enumF (o : Nat) : Nat → List Nat → List (List Nat)
  | 0, p => [p]
  | n + 1, p => (List.range o).flatMap (fun b => if p.any (fun c => Nat.beq c b) = true then [] else enumF o n (p ++ [b]))
def nodB : List Nat → Bool
  | [] => true
  | c :: l => !(l.any (fun d => Nat.beq d c)) && nodB l
def lEq : List Nat → List Nat → Bool
  | [], [] => true
  | a :: l, b :: m => Nat.beq a b && lEq l m
  | _, _ => false
def rowB (o many : Nat) (r : List Nat) : Bool := Nat.beq r.length many && (r.all (fun c => Nat.blt c o) && nodB r)
def chainB (o many : Nat) : List (List Nat) → Bool
  | [] => true
  | r :: l => rowB o many r && ((match l with
    | [] => !(nextF o many many r).2
    | r' :: _ => (nextF o many many r).2 && lEq (nextF o many many r).1 r') && chainB o many l)
def firstB (o many : Nat) : Bool := match enumF o many [] with
  | [] => false
  | r :: _ => lEq r (List.range many)
def allB (o many : Nat) : Bool := chainB o many (enumF o many []) && firstB o many
theorem all_chain : ∀ o, o < 7 → ∀ many, many < o + 1 → allB o many = true := by decide +kernel
