def ixi (fi st ax : Int) : Nat := (3 * (st - fi) + ax).toNat
/-- a path's number at a step, along an axis -/
def xg (fi : Int32) (g : Nat → Int32) (s ax : Int) : Int := (g (ixi fi.toInt s ax)).toInt
theorem xg_bd {fi pl : Int32} {g : Nat → Int32} {s ax : Int} (hco : cOK pl g) (h1 : fi.toInt ≤ s) (h2 : s < fi.toInt + pl.toInt) (h3 : 0 ≤ ax) (h4 : ax ≤ 2) : -5000 ≤ xg fi g s ax ∧ xg fi g s ax ≤ 5000 := hco (ixi fi.toInt s ax) (by unfold ixi; omega)
/-- two truth values in one -/
theorem tv_1 {r : Int32} {P : Prop} (h : (r = 1 ∧ P) ∨ (r = 0 ∧ ¬ P)) (c : ¬ r = 0) : P := h.elim (fun z => z.2) (fun z => absurd z.1 c)
theorem tv_0 {r : Int32} {P : Prop} (h : (r = 1 ∧ P) ∨ (r = 0 ∧ ¬ P)) (c : r = 0) : ¬ P := h.elim (fun z => absurd (z.1.symm.trans c) (by decide)) (fun z => z.2)
