def mTV (Fi Ma Db Go Sp : Nat → Int32) (i : Nat) : TV := (Fi i, Ma i, Db i, Go i, fun k => Sp (36 * i + k))
def mDV (Ds Dp : Nat → Int32) (i : Nat) : DV := (Ds i, Dp (3 * i), Dp (3 * i + 1), Dp (3 * i + 2))
/-- a dot in a thing's box, along one axis -/
abbrev inX (x d db : Int32) : Prop := -db.toInt ≤ x.toInt - d.toInt ∧ x.toInt - d.toInt ≤ db.toInt
abbrev boxd (fi pl db : Int32) (g : Nat → Int32) (s x y z : Int32) : Prop := (fi.toInt ≤ s.toInt ∧ s.toInt < fi.toInt + pl.toInt) ∧ inX (g (ixc fi s 0)) x db ∧ inX (g (ixc fi s 1)) y db ∧ inX (g (ixc fi s 2)) z db
abbrev hold (t : TV) (d : DV) : Prop := t.2.2.2.1.toInt = 0 ∧ boxd t.1 t.2.1 t.2.2.1 t.2.2.2.2 d.1 d.2.1 d.2.2.1 d.2.2.2
