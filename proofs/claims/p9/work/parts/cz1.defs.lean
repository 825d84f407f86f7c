/-- the burns by their numbers -/
def nA (k : Nat) : Int := (k / 25 : Nat) - 2
def nB (k : Nat) : Int := (k / 5 % 5 : Nat) - 2
def nC (k : Nat) : Int := (k % 5 : Nat) - 2
def nF (k : Nat) : Int := (nA k).natAbs + (nB k).natAbs + (nC k).natAbs
def cb1 (F D : Int → Nat → Prop) (f : Int) : Prop := ∀ (s : Int) (k : Nat), D s k → 0 < nF k → F s k → f ≤ nF k
def cb2 (F D : Int → Nat → Prop) (f t : Int) : Prop := ∀ (s : Int) (k : Nat), D s k → 0 < nF k → F s k → f ≤ nF k ∧ (nF k = f → s ≤ t)
