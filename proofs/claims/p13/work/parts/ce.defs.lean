/-- a sum over the first axes -/
def acc (F : Int → Int) : Nat → Int
  | 0 => 0
  | n + 1 => acc F n + F n
/-- of two ways a, b along the axes -/
def wD (a b : Int → Int) : Int := acc (fun j => a j * b j) 3
abbrev wIn (a b : Int → Int) : Prop := wD a b < 0 ∧ 0 < wD a b + wD b b
def wP (a b : Int → Int) : Int := if wIn a b then -wD a b else 0
/-- the gap of two at a step, and how it goes on -/
def gA (f1 : Int32) (g1 : Nat → Int32) (f2 : Int32) (g2 : Nat → Int32) (k : Int) : Int → Int := fun j => xg f1 g1 k j - xg f2 g2 k j
def gB (f1 : Int32) (g1 : Nat → Int32) (f2 : Int32) (g2 : Nat → Int32) (k : Int) (go : Prop) [Decidable go] : Int → Int := fun j => if go then gA f1 g1 f2 g2 (k + 1) j - gA f1 g1 f2 g2 k j else 0
def qK (f1 : Int32) (g1 : Nat → Int32) (f2 : Int32) (g2 : Nat → Int32) (b k : Int) : Int := wP (gA f1 g1 f2 g2 k) (gB f1 g1 f2 g2 k (k < b))
