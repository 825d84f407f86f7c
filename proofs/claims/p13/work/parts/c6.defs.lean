def ixi (fi st ax : Int) : Nat := (3 * (st - fi) + ax).toNat
/-- a path's number at a step, along an axis -/
def xg (fi : Int32) (g : Nat → Int32) (s ax : Int) : Int := (g (ixi fi.toInt s ax)).toInt
theorem xg_bd {fi pl : Int32} {g : Nat → Int32} {s ax : Int} (hco : cOK pl g) (h1 : fi.toInt ≤ s) (h2 : s < fi.toInt + pl.toInt) (h3 : 0 ≤ ax) (h4 : ax ≤ 2) : -5000 ≤ xg fi g s ax ∧ xg fi g s ax ≤ 5000 := hco (ixi fi.toInt s ax) (by unfold ixi; omega)
