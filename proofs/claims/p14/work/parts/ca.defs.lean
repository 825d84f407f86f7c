theorem lrem_I {x y : Int64} (hx : 0 ≤ x.toInt) (hy : 0 < y.toInt) : (x - x / y * y).toInt = x.toInt % y.toInt := by
  have e : (x - x / y * y).toInt = (x.toInt - x.toInt.tdiv y.toInt * y.toInt).bmod (2 ^ 64) := by
    simp [Int64.toInt_sub, Int64.toInt_mul, Int64.toInt_div]
  have d : x.toInt - x.toInt.tdiv y.toInt * y.toInt = x.toInt.tmod y.toInt := by
    rw [Int.tmod_def, Int.mul_comm]
  have m : x.toInt.tmod y.toInt = x.toInt % y.toInt := Int.tmod_eq_emod_of_nonneg hx
  have l1 := Int.emod_nonneg x.toInt (b := y.toInt) (by omega)
  have l2 := Int.emod_lt_of_pos x.toInt hy
  have r := fb_rngL y
  rw [e, d, m, Int.bmod_eq_of_le (by omega) (by omega)]
theorem ldiv_I {x y : Int64} (hx : 0 ≤ x.toInt) (hy : 0 < y.toInt) : (x / y).toInt = x.toInt / y.toInt := by
  have d : x.toInt.tdiv y.toInt = x.toInt / y.toInt := Int.tdiv_eq_ediv_of_nonneg hx
  have l1 : 0 ≤ x.toInt / y.toInt := Int.ediv_nonneg hx (by omega)
  have l2 : x.toInt / y.toInt ≤ x.toInt := Int.ediv_le_self _ hx
  have r := fb_rngL x
  rw [Int64.toInt_div, d, Int.bmod_eq_of_le (by omega) (by omega)]
