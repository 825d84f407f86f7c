def ixi (fi st ax : Int) : Nat := (3 * (st - fi) + ax).toNat
/-- a path's number at a step, along an axis -/
def xg (fi : Int32) (g : Nat → Int32) (s ax : Int) : Int := (g (ixi fi.toInt s ax)).toInt
