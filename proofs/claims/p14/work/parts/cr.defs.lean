theorem tv_mv {th : Int32} {Fi Ma Db Go Sp : Nat → Int32} (hT : ∀ k : Nat, (k : Int) < th.toInt → tvOK (mTV Fi Ma Db Go Sp k)) {i q n : Nat} {a b c : Int32} (hi : (i : Int) < th.toInt) (hq : q + 3 * n ≤ (3 * (Ma i).toInt).toNat) (hs : stK Sp (36 * i + q) a b c n) : ∀ k : Nat, (k : Int) < th.toInt → tvOK (mTV Fi Ma Db Go (mvK Sp (36 * i + q) a b c n) k) := fun k hk => by
  obtain ⟨t1, t2, t3, t4, t5⟩ := hT k hk
  refine ⟨t1, t2, t3, ?_, t5⟩
  have pl : (Ma k).toInt ≤ 12 := t1.2.2.2
  have pi : (Ma i).toInt ≤ 12 := (hT i hi).1.2.2.2
  by_cases e : k = i
  · subst e
    have s2 : stK (fun j => Sp (36 * k + j)) q a b c n := (st_row (g := fun j => Sp (36 * k + j)) (Sp := Sp) (b := 36 * k) (m := (3 * (Ma k).toInt).toNat) (fun j _ => rfl) hq).mpr hs
    have c2 := cOK_mv (pl := Ma k) (g := fun j => Sp (36 * k + j)) t4 s2
    intro j hj
    have e2 := mv_row (g := fun j => Sp (36 * k + j)) (Sp := Sp) (b := 36 * k) (q := q) (n := n) (x := a) (y := b) (z := c) (m := (3 * (Ma k).toInt).toNat) (fun j _ => rfl) hq j (by have : (j : Int) < 3 * (Ma k).toInt := hj; omega)
    have c3 := c2 j hj
    rw [e2] at c3
    exact c3
  · intro j hj
    have hj' : (j : Int) < 3 * (Ma k).toInt := hj
    show -5000 ≤ (mvK Sp (36 * i + q) a b c n (36 * k + j)).toInt ∧ (mvK Sp (36 * i + q) a b c n (36 * k + j)).toInt ≤ 5000
    rw [mvK_off _ _ _ _ _ _ _ (by omega)]
    exact t4 j hj
