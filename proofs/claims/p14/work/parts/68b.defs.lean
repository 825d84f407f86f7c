theorem dec_I {x y : Int32} (e : y = x + (-1)) (h : -2147483648 < x.toInt) : y.toInt = x.toInt - 1 := by
  have r := fb_rng x
  rw [e, Int32.toInt_add, show ((-1 : Int32).toInt) = -1 by decide, fb_bmod (by omega) (by omega)]
  omega
