theorem lrem_I {x y : Int64} (hx : 0 ≤ x.toInt) (hy : 0 < y.toInt) : (x - x / y * y).toInt = x.toInt % y.toInt := by
  have e : (x - x / y * y).toInt = (x.toInt - x.toInt.tdiv y.toInt * y.toInt).bmod (2 ^ 64) := by
    simp [Int64.toInt_sub, Int64.toInt_mul, Int64.toInt_div]
  have d : x.toInt - x.toInt.tdiv y.toInt * y.toInt = x.toInt.tmod y.toInt := by
    rw [Int.tmod_def, Int.mul_comm]
  have m : x.toInt.tmod y.toInt = x.toInt % y.toInt := Int.tmod_eq_emod_of_nonneg hx
  have l1 := Int.emod_nonneg x.toInt (b := y.toInt) (by omega)
  have l2 := Int.emod_lt_of_pos x.toInt hy
  have r := fb_rngL y
  rw [e, d, m, Int.bmod_eq_of_le (by omega) (by omega)]
theorem ldiv_I {x y : Int64} (hx : 0 ≤ x.toInt) (hy : 0 < y.toInt) : (x / y).toInt = x.toInt / y.toInt := by
  have d : x.toInt.tdiv y.toInt = x.toInt / y.toInt := Int.tdiv_eq_ediv_of_nonneg hx
  have l1 : 0 ≤ x.toInt / y.toInt := Int.ediv_nonneg hx (by omega)
  have l2 : x.toInt / y.toInt ≤ x.toInt := Int.ediv_le_self _ hx
  have r := fb_rngL x
  rw [Int64.toInt_div, d, Int.bmod_eq_of_le (by omega) (by omega)]
def gN (a b : Int) : Nat := Nat.gcd a.toNat b.toNat
theorem g_step {x y r : Int} (hx : 0 ≤ x) (hy : 0 < y) (hr : r = x % y) : gN y r = gN x y := by
  obtain ⟨X, rfl⟩ := Int.eq_ofNat_of_zero_le hx
  obtain ⟨Y, rfl⟩ := Int.eq_ofNat_of_zero_le (Int.le_of_lt hy)
  subst hr
  have e : ((X : Int) % (Y : Int)).toNat = X % Y := by
    rw [← Int.natCast_emod]; rfl
  show Nat.gcd Y ((X : Int) % (Y : Int)).toNat = Nat.gcd X Y
  rw [e, Nat.gcd_comm X Y, Nat.gcd_rec Y X, Nat.gcd_comm]
theorem g_end {x : Int} (hx : 0 ≤ x) : ((gN x 0 : Nat) : Int) = x := by
  unfold gN
  show ((Nat.gcd x.toNat 0 : Nat) : Int) = x
  rw [Nat.gcd_zero_right]
  omega
theorem g_pos {x y : Int} (hy : 0 < y) : 0 < gN x y := Nat.gcd_pos_of_pos_right _ (by omega)
theorem p_step {x y r : Int} (hxy : y ≤ x) (hy : 0 < y) (hr : r = x % y) : 2 * (y * r) ≤ x * y := by
  have l1 := Int.emod_nonneg x (b := y) (by omega)
  have l2 := Int.emod_lt_of_pos x hy
  have q1 : 1 ≤ x / y := Int.le_ediv_of_mul_le hy (by omega)
  have e := Int.mul_ediv_add_emod x y
  have q2 : y * 1 ≤ y * (x / y) := Int.mul_le_mul_of_nonneg_left q1 (by omega)
  subst hr
  have q3 : 2 * (x % y) ≤ x := by omega
  have q4 : y * (2 * (x % y)) ≤ y * x := Int.mul_le_mul_of_nonneg_left q3 (by omega)
  have e2 : 2 * (y * (x % y)) = y * (2 * (x % y)) := by rw [← Int.mul_assoc, ← Int.mul_assoc, Int.mul_comm 2 y]
  rw [e2, Int.mul_comm x y]
  exact q4
/-- how far the class's division has come: the product of the two halves at each round -/
def gInv (v w x y : Int) (i : Nat) : Prop := 0 ≤ x ∧ 0 ≤ y ∧ gN x y = gN v w ∧ (i = 0 → x = v ∧ y = w) ∧ (1 ≤ i → y < x ∧ x * y * 2 ^ (i - 1) ≤ w * w)
theorem gInv_0 {v w : Int} (hv : 0 ≤ v) (hw : 0 ≤ w) : gInv v w v w 0 := ⟨hv, hw, rfl, fun _ => ⟨rfl, rfl⟩, fun h => absurd h (by omega)⟩
theorem gInv_1 {v w x y r : Int} {i : Nat} (h : gInv v w x y i) (hy : 0 < y) (hr : r = x % y) : gInv v w y r (i + 1) := by
  obtain ⟨h1, h2, h3, h4, h5⟩ := h
  have l1 := Int.emod_nonneg x (b := y) (by omega)
  have l2 := Int.emod_lt_of_pos x hy
  refine ⟨h2, by omega, (g_step h1 hy hr).trans h3, fun z => absurd z (by omega), fun _ => ⟨by omega, ?_⟩⟩
  rcases Nat.eq_zero_or_pos i with e | e
  · obtain ⟨rfl, rfl⟩ := h4 e
    subst e
    have q : y * r ≤ y * y := Int.mul_le_mul_of_nonneg_left (by omega) (by omega)
    show y * r * 2 ^ 0 ≤ y * y
    rw [show (2 : Int) ^ 0 = 1 from rfl, Int.mul_one]
    exact q
  · obtain ⟨k1, k2⟩ := h5 e
    have q := p_step (Int.le_of_lt k1) hy hr
    obtain ⟨j, rfl⟩ : ∃ j, i = j + 1 := ⟨i - 1, by omega⟩
    have p0 : (0 : Int) ≤ 2 ^ j := Int.pow_nonneg (by omega)
    have q2 : 2 * (y * r) * 2 ^ j ≤ x * y * 2 ^ j := Int.mul_le_mul_of_nonneg_right q p0
    have e2 : y * r * 2 ^ (j + 1) = 2 * (y * r) * 2 ^ j := by rw [Int.pow_succ, Int.mul_comm (2 ^ j) 2, ← Int.mul_assoc, Int.mul_comm (y * r) 2]
    show y * r * 2 ^ (j + 1) ≤ w * w
    rw [e2]
    exact Int.le_trans q2 k2
theorem gInv_end {v w x y : Int} {i : Nat} (h : gInv v w x y i) (hw : w < 9223372036854775808) (hw0 : 0 ≤ w) (hi : i = 200 ∨ y = 0) : x = ((gN v w : Nat) : Int) := by
  obtain ⟨h1, h2, h3, h4, h5⟩ := h
  have hy : y = 0 := by
    rcases hi with e | e
    · subst e
      obtain ⟨k1, k2⟩ := h5 (by omega)
      rcases Int.lt_or_le 0 y with z | z
      · exfalso
        have p1 : 1 * 1 ≤ x * y := Int.mul_le_mul (by omega) (by omega) (by omega) (by omega)
        have p2 : (1 : Int) * 2 ^ 199 ≤ x * y * 2 ^ 199 := Int.mul_le_mul_of_nonneg_right (by omega) (Int.pow_nonneg (by omega))
        have p3 : w * w ≤ 9223372036854775808 * 9223372036854775808 := Int.mul_le_mul (by omega) (by omega) (by omega) (by omega)
        have p4 : (9223372036854775808 * 9223372036854775808 : Int) < 1 * 2 ^ 199 := by decide
        exact absurd (Int.le_trans p2 (Int.le_trans k2 p3)) (by omega)
      · omega
    · exact e
  subst hy
  rw [← h3, g_end h1]
