theorem fa_lt (a b : Int32) : a < b ↔ a.toInt < b.toInt := Int32.lt_iff_toInt_lt
theorem fa_le (a b : Int32) : a ≤ b ↔ a.toInt ≤ b.toInt := Int32.le_iff_toInt_le
theorem fa_eq (a b : Int32) : a = b ↔ a.toInt = b.toInt := Int32.toInt_inj.symm
theorem fa_lt64 (a b : Int64) : a < b ↔ a.toInt < b.toInt := Int64.lt_iff_toInt_lt
theorem fa_le64 (a b : Int64) : a ≤ b ↔ a.toInt ≤ b.toInt := Int64.le_iff_toInt_le
theorem fa_eq64 (a b : Int64) : a = b ↔ a.toInt = b.toInt := Int64.toInt_inj.symm
theorem fb_rng (x : Int32) : -2147483648 ≤ x.toInt ∧ x.toInt < 2147483648 := by
  have h1 := Int32.le_toInt x
  have h2 := Int32.toInt_lt x
  omega
theorem fb_bmod {z : Int} (h1 : -2147483648 ≤ z) (h2 : z < 2147483648) : z.bmod (2 ^ 32) = z := by
  rw [Int.bmod_eq_of_le (by omega) (by omega)]
theorem fb_addI {x y : Int32} (h1 : -2147483648 ≤ x.toInt + y.toInt) (h2 : x.toInt + y.toInt < 2147483648) : (x + y).toInt = x.toInt + y.toInt := by
  rw [Int32.toInt_add, fb_bmod h1 h2]
theorem fb_subI {x y : Int32} (h1 : -2147483648 ≤ x.toInt - y.toInt) (h2 : x.toInt - y.toInt < 2147483648) : (x - y).toInt = x.toInt - y.toInt := by
  rw [Int32.toInt_sub, fb_bmod h1 h2]
theorem fb_mulI {x y : Int32} (h1 : -2147483648 ≤ x.toInt * y.toInt) (h2 : x.toInt * y.toInt < 2147483648) : (x * y).toInt = x.toInt * y.toInt := by
  rw [Int32.toInt_mul, fb_bmod h1 h2]
theorem fb_negI {x : Int32} (h : x.toInt ≠ -2147483648) : (-x).toInt = -x.toInt := by
  have := fb_rng x
  rw [Int32.toInt_neg, fb_bmod (by omega) (by omega)]
theorem fb_rngL (x : Int64) : -9223372036854775808 ≤ x.toInt ∧ x.toInt < 9223372036854775808 := by
  have h1 := Int64.le_toInt x
  have h2 := Int64.toInt_lt x
  omega
theorem fm_lI {c y : Int32} {n : Int} (hc : c.toInt = n) (h1 : -2147483648 ≤ n * y.toInt) (h2 : n * y.toInt < 2147483648) : (c * y).toInt = n * y.toInt := by
  subst hc; exact fb_mulI h1 h2
theorem tc_I {x : Int32} (h : 0 ≤ x.toInt) : ((x.toNatClampNeg : Nat) : Int) = x.toInt := by
  show ((x.toInt.toNat : Nat) : Int) = x.toInt
  omega
theorem ix_eq {S : Nat → Int32} {r y : Int32} {z : Int} (e : r = S y.toNatClampNeg) (h : y.toInt = z) : r = S z.toNat := by
  rw [e, ← h]; rfl
theorem bo_split {r : Int32} {c : Prop} [Decidable c] (h : r = if c then 1 else 0) : (r = 1 ∧ c) ∨ (r = 0 ∧ ¬ c) := by
  by_cases q : c
  · exact Or.inl ⟨by rw [h, if_pos q], q⟩
  · exact Or.inr ⟨by rw [h, if_neg q], q⟩
theorem max_I {y a b : Int32} (e : y = if a < b then b else a) : (a.toInt < b.toInt ∧ y.toInt = b.toInt) ∨ (¬ a.toInt < b.toInt ∧ y.toInt = a.toInt) := by
  by_cases h : a < b
  · rw [if_pos h] at e; subst e; exact Or.inl ⟨(fa_lt _ _).mp h, rfl⟩
  · rw [if_neg h] at e; subst e; exact Or.inr ⟨mt (fa_lt _ _).mpr h, rfl⟩
theorem min_I {y a b : Int32} (e : y = if b < a then b else a) : (b.toInt < a.toInt ∧ y.toInt = b.toInt) ∨ (¬ b.toInt < a.toInt ∧ y.toInt = a.toInt) := by
  by_cases h : b < a
  · rw [if_pos h] at e; subst e; exact Or.inl ⟨(fa_lt _ _).mp h, rfl⟩
  · rw [if_neg h] at e; subst e; exact Or.inr ⟨mt (fa_lt _ _).mpr h, rfl⟩
theorem ab_I {y a : Int32} (e : y = if 0 ≤ a then a else 0 - a) (h : a.toInt ≠ -2147483648) : (0 ≤ a.toInt ∧ y.toInt = a.toInt) ∨ (a.toInt < 0 ∧ y.toInt = -a.toInt) := by
  have k0 : (0 : Int32).toInt = 0 := by decide
  have hr := fb_rng a
  by_cases q : 0 ≤ a
  · rw [if_pos q] at e; subst e
    have := (fa_le _ _).mp q
    exact Or.inl ⟨by omega, rfl⟩
  · rw [if_neg q] at e; subst e
    have := mt (fa_le _ _).mpr q
    have := fb_subI (x := 0) (y := a) (by omega) (by omega)
    exact Or.inr ⟨by omega, by omega⟩
/-- a remainder is nearer to nought than the divisor -/
theorem lr_lt {x y : Int64} {k : Nat} (hy : y.toInt ≠ 0) (hk : y.toInt.natAbs < k + 1) : (x - x / y * y).toInt.natAbs < k := by
  have e : (x - x / y * y).toInt = (x.toInt - x.toInt.tdiv y.toInt * y.toInt).bmod (2 ^ 64) := by
    simp [Int64.toInt_sub, Int64.toInt_mul, Int64.toInt_div]
  have d : x.toInt - x.toInt.tdiv y.toInt * y.toInt = x.toInt.tmod y.toInt := by
    rw [Int.tmod_def, Int.mul_comm]
  have n : (x.toInt.tmod y.toInt).natAbs < y.toInt.natAbs := by
    rw [Int.natAbs_tmod]
    exact Nat.mod_lt _ (by omega)
  have r := fb_rngL y
  rw [e, d, Int.bmod_eq_of_le (by omega) (by omega)]
  omega
/-- the place of a coordinate in the reference's row of spots -/
def ixm (Fi : Nat → Int32) (t st ax : Int32) : Nat := (36 * t.toInt + 3 * (st.toInt - (Fi t.toNatClampNeg).toInt) + ax.toInt).toNat
def mOK (th : Int32) (Fi Ma : Nat → Int32) : Prop := 0 ≤ th.toInt ∧ th.toInt ≤ 16 ∧ ∀ k : Nat, (k : Int) < th.toInt → 0 ≤ (Fi k).toInt ∧ (Fi k).toInt ≤ 39 ∧ 1 ≤ (Ma k).toInt ∧ (Ma k).toInt ≤ 12
def dOK (th : Int32) (Db : Nat → Int32) : Prop := ∀ k : Nat, (k : Int) < th.toInt → 0 ≤ (Db k).toInt ∧ (Db k).toInt ≤ 200
