theorem lrem_I {x y : Int64} (hx : 0 ≤ x.toInt) (hy : 0 < y.toInt) : (x - x / y * y).toInt = x.toInt % y.toInt := by
  have e : (x - x / y * y).toInt = (x.toInt - x.toInt.tdiv y.toInt * y.toInt).bmod (2 ^ 64) := by
    simp [Int64.toInt_sub, Int64.toInt_mul, Int64.toInt_div]
  have d : x.toInt - x.toInt.tdiv y.toInt * y.toInt = x.toInt.tmod y.toInt := by
    rw [Int.tmod_def, Int.mul_comm]
  have m : x.toInt.tmod y.toInt = x.toInt % y.toInt := Int.tmod_eq_emod_of_nonneg hx
  have l1 := Int.emod_nonneg x.toInt (b := y.toInt) (by omega)
  have l2 := Int.emod_lt_of_pos x.toInt hy
  have r := fb_rngL y
  rw [e, d, m, Int.bmod_eq_of_le (by omega) (by omega)]
theorem ldiv_I {x y : Int64} (hx : 0 ≤ x.toInt) (hy : 0 < y.toInt) : (x / y).toInt = x.toInt / y.toInt := by
  have d : x.toInt.tdiv y.toInt = x.toInt / y.toInt := Int.tdiv_eq_ediv_of_nonneg hx
  have l1 : 0 ≤ x.toInt / y.toInt := Int.ediv_nonneg hx (by omega)
  have l2 : x.toInt / y.toInt ≤ x.toInt := Int.ediv_le_self _ hx
  have r := fb_rngL x
  rw [Int64.toInt_div, d, Int.bmod_eq_of_le (by omega) (by omega)]
def gN (a b : Int) : Nat := Nat.gcd a.toNat b.toNat
theorem g_step {x y r : Int} (hx : 0 ≤ x) (hy : 0 < y) (hr : r = x % y) : gN y r = gN x y := by
  obtain ⟨X, rfl⟩ := Int.eq_ofNat_of_zero_le hx
  obtain ⟨Y, rfl⟩ := Int.eq_ofNat_of_zero_le (Int.le_of_lt hy)
  subst hr
  have e : ((X : Int) % (Y : Int)).toNat = X % Y := by
    rw [← Int.natCast_emod]; rfl
  show Nat.gcd Y ((X : Int) % (Y : Int)).toNat = Nat.gcd X Y
  rw [e, Nat.gcd_comm X Y, Nat.gcd_rec Y X, Nat.gcd_comm]
theorem g_end {x : Int} (hx : 0 ≤ x) : ((gN x 0 : Nat) : Int) = x := by
  unfold gN
  show ((Nat.gcd x.toNat 0 : Nat) : Int) = x
  rw [Nat.gcd_zero_right]
  omega
theorem g_pos {x y : Int} (hy : 0 < y) : 0 < gN x y := Nat.gcd_pos_of_pos_right _ (by omega)
theorem p_step {x y r : Int} (hxy : y ≤ x) (hy : 0 < y) (hr : r = x % y) : 2 * (y * r) ≤ x * y := by
  have l1 := Int.emod_nonneg x (b := y) (by omega)
  have l2 := Int.emod_lt_of_pos x hy
  have q1 : 1 ≤ x / y := Int.le_ediv_of_mul_le hy (by omega)
  have e := Int.mul_ediv_add_emod x y
  have q2 : y * 1 ≤ y * (x / y) := Int.mul_le_mul_of_nonneg_left q1 (by omega)
  subst hr
  have q3 : 2 * (x % y) ≤ x := by omega
  have q4 : y * (2 * (x % y)) ≤ y * x := Int.mul_le_mul_of_nonneg_left q3 (by omega)
  have e2 : 2 * (y * (x % y)) = y * (2 * (x % y)) := by rw [← Int.mul_assoc, ← Int.mul_assoc, Int.mul_comm 2 y]
  rw [e2, Int.mul_comm x y]
  exact q4
/-- how far the class's division has come: the product of the two halves at each round -/
def gInv (v w x y : Int) (i : Nat) : Prop := 0 ≤ x ∧ 0 ≤ y ∧ gN x y = gN v w ∧ (i = 0 → x = v ∧ y = w) ∧ (1 ≤ i → y < x ∧ x * y * 2 ^ (i - 1) ≤ w * w)
theorem gInv_0 {v w : Int} (hv : 0 ≤ v) (hw : 0 ≤ w) : gInv v w v w 0 := ⟨hv, hw, rfl, fun _ => ⟨rfl, rfl⟩, fun h => absurd h (by omega)⟩
theorem gInv_1 {v w x y r : Int} {i : Nat} (h : gInv v w x y i) (hy : 0 < y) (hr : r = x % y) : gInv v w y r (i + 1) := by
  obtain ⟨h1, h2, h3, h4, h5⟩ := h
  have l1 := Int.emod_nonneg x (b := y) (by omega)
  have l2 := Int.emod_lt_of_pos x hy
  refine ⟨h2, by omega, (g_step h1 hy hr).trans h3, fun z => absurd z (by omega), fun _ => ⟨by omega, ?_⟩⟩
  rcases Nat.eq_zero_or_pos i with e | e
  · obtain ⟨rfl, rfl⟩ := h4 e
    subst e
    have q : y * r ≤ y * y := Int.mul_le_mul_of_nonneg_left (by omega) (by omega)
    show y * r * 2 ^ 0 ≤ y * y
    rw [show (2 : Int) ^ 0 = 1 from rfl, Int.mul_one]
    exact q
  · obtain ⟨k1, k2⟩ := h5 e
    have q := p_step (Int.le_of_lt k1) hy hr
    obtain ⟨j, rfl⟩ : ∃ j, i = j + 1 := ⟨i - 1, by omega⟩
    have p0 : (0 : Int) ≤ 2 ^ j := Int.pow_nonneg (by omega)
    have q2 : 2 * (y * r) * 2 ^ j ≤ x * y * 2 ^ j := Int.mul_le_mul_of_nonneg_right q p0
    have e2 : y * r * 2 ^ (j + 1) = 2 * (y * r) * 2 ^ j := by rw [Int.pow_succ, Int.mul_comm (2 ^ j) 2, ← Int.mul_assoc, Int.mul_comm (y * r) 2]
    show y * r * 2 ^ (j + 1) ≤ w * w
    rw [e2]
    exact Int.le_trans q2 k2
theorem gInv_end {v w x y : Int} {i : Nat} (h : gInv v w x y i) (hw : w < 9223372036854775808) (hw0 : 0 ≤ w) (hi : i = 200 ∨ y = 0) : x = ((gN v w : Nat) : Int) := by
  obtain ⟨h1, h2, h3, h4, h5⟩ := h
  have hy : y = 0 := by
    rcases hi with e | e
    · subst e
      obtain ⟨k1, k2⟩ := h5 (by omega)
      rcases Int.lt_or_le 0 y with z | z
      · exfalso
        have p1 : 1 * 1 ≤ x * y := Int.mul_le_mul (by omega) (by omega) (by omega) (by omega)
        have p2 : (1 : Int) * 2 ^ 199 ≤ x * y * 2 ^ 199 := Int.mul_le_mul_of_nonneg_right (by omega) (Int.pow_nonneg (by omega))
        have p3 : w * w ≤ 9223372036854775808 * 9223372036854775808 := Int.mul_le_mul (by omega) (by omega) (by omega) (by omega)
        have p4 : (9223372036854775808 * 9223372036854775808 : Int) < 1 * 2 ^ 199 := by decide
        exact absurd (Int.le_trans p2 (Int.le_trans k2 p3)) (by omega)
      · omega
    · exact e
  subst hy
  rw [← h3, g_end h1]
theorem lm_nn {x y z : Int64} (a b : Int) (e : z = x * y) (hx1 : 0 ≤ x.toInt) (hx2 : x.toInt ≤ a) (hy1 : 0 ≤ y.toInt) (hy2 : y.toInt ≤ b) (h : a * b < 9223372036854775808) : z.toInt = x.toInt * y.toInt := by
  have p1 : 0 ≤ x.toInt * y.toInt := Int.mul_nonneg hx1 hy1
  have p2 : x.toInt * y.toInt ≤ a * b := Int.mul_le_mul hx2 hy2 hy1 (by omega)
  rw [e, fb_mulL (by omega) (by omega)]
/-- of the cells of one along an axis: how many of the other's are near cell c -/
def prI (y du w c : Int) : Int := max 0 (min (y + du) (c + w) - max (y - du) (c - w) + 1)
theorem pr_bd {y du w c : Int} (h0 : 0 ≤ du) (h1 : du ≤ 200) : 0 ≤ prI y du w c ∧ prI y du w c ≤ 401 := by
  unfold prI; omega
def sumI (F : Int → Int) (a : Int) : Nat → Int
  | 0 => 0
  | n + 1 => sumI F a n + F (a + n)
theorem sum_bd {F : Int → Int} {a : Int} (h : ∀ c : Int, 0 ≤ F c ∧ F c ≤ 401) : ∀ n : Nat, 0 ≤ sumI F a n ∧ sumI F a n ≤ 401 * n
  | 0 => ⟨Int.le_refl 0, by show (0 : Int) ≤ 401 * ((0 : Nat) : Int); omega⟩
  | n + 1 => by
    have := sum_bd (a := a) h n
    have := h (a + n)
    show 0 ≤ sumI F a n + F (a + n) ∧ sumI F a n + F (a + n) ≤ 401 * ((n + 1 : Nat) : Int)
    omega
theorem sum_sh {F G : Int → Int} {a b : Int} : ∀ {n : Nat}, (∀ k : Nat, k < n → F (a + k) = G (b + k)) → sumI F a n = sumI G b n
  | 0, _ => rfl
  | n + 1, h => by
    show sumI F a n + F (a + n) = sumI G b n + G (b + n)
    rw [sum_sh (fun k hk => h k (by omega)), h n (by omega)]
/-- pairs of cells along an axis: x, y the places, d, e the doubts, w WIDE -/
def prs (x d y e w : Int) : Int := sumI (prI y e w) (x - d) (2 * d + 1).toNat
theorem prs_bd {x d y e w : Int} (h0 : 0 ≤ e) (h1 : e ≤ 200) (h2 : 0 ≤ d) (h3 : d ≤ 200) : 0 ≤ prs x d y e w ∧ prs x d y e w ≤ 160801 := by
  have := sum_bd (F := prI y e w) (a := x - d) (fun c => pr_bd h0 h1) (2 * d + 1).toNat
  unfold prs
  omega
theorem prs_m {x d y e w : Int} : prs x d y e w = sumI (fun i => prI 0 e w (x - y + i)) (-d) (2 * d + 1).toNat := sum_sh (fun k hk => by show prI y e w (x - d + k) = prI 0 e w (x - y + (-d + k)); unfold prI; omega)
/-- all pairs of cells, and those that are near, of two things at a step -/
def shU (t1 t2 : TV) (s w : Int) : Int := prs (xg t1.1 t1.2.2.2.2 s 0) t1.2.2.1.toInt (xg t2.1 t2.2.2.2.2 s 0) t2.2.2.1.toInt w * prs (xg t1.1 t1.2.2.2.2 s 1) t1.2.2.1.toInt (xg t2.1 t2.2.2.2.2 s 1) t2.2.2.1.toInt w * prs (xg t1.1 t1.2.2.2.2 s 2) t1.2.2.1.toInt (xg t2.1 t2.2.2.2.2 s 2) t2.2.2.1.toInt w
def shL (t1 t2 : TV) : Int := ((2 * t1.2.2.1.toInt + 1) * (2 * t2.2.2.1.toInt + 1)) * ((2 * t1.2.2.1.toInt + 1) * (2 * t2.2.2.1.toInt + 1)) * ((2 * t1.2.2.1.toInt + 1) * (2 * t2.2.2.1.toInt + 1))
def pdI (F : Int → Int) : Nat → Int
  | 0 => 1
  | n + 1 => pdI F n * F n
theorem pd_3 (F : Int → Int) : pdI F 3 = F 0 * F 1 * F 2 := by
  show 1 * F 0 * F 1 * F 2 = _
  rw [Int.one_mul]
theorem pd_1 (F : Int → Int) (n : Nat) : pdI F (n + 1) = pdI F n * F n := rfl
theorem pd_bd {F : Int → Int} (h : ∀ j : Int, 0 ≤ F j ∧ F j ≤ 160801) {n : Nat} (hn : n ≤ 2) : 0 ≤ pdI F n ∧ pdI F n ≤ 25856961601 := by
  rcases (show n = 0 ∨ n = 1 ∨ n = 2 by omega) with rfl | rfl | rfl
  · show (0 : Int) ≤ 1 ∧ (1 : Int) ≤ 25856961601
    omega
  · have := h 0
    show 0 ≤ 1 * F 0 ∧ 1 * F 0 ≤ 25856961601
    rw [Int.one_mul]; omega
  · have a := h 0
    have b := h 1
    show 0 ≤ 1 * F 0 * F 1 ∧ 1 * F 0 * F 1 ≤ 25856961601
    rw [Int.one_mul]
    exact ⟨Int.mul_nonneg a.1 b.1, Int.le_trans (Int.mul_le_mul a.2 b.2 b.1 (by omega)) (by decide)⟩
abbrev hpl (t : TV) (s : Int) : Prop := t.1.toInt ≤ s ∧ s < t.1.toInt + t.2.1.toInt
theorem bx_bd {a b : Int} (ha : 0 ≤ a) (ha2 : a ≤ 200) (hb : 0 ≤ b) (hb2 : b ≤ 200) : 1 ≤ (2 * a + 1) * (2 * b + 1) ∧ (2 * a + 1) * (2 * b + 1) ≤ 160801 := by
  have p : 1 * 1 ≤ (2 * a + 1) * (2 * b + 1) := Int.mul_le_mul (by omega) (by omega) (by omega) (by omega)
  have q : (2 * a + 1) * (2 * b + 1) ≤ 401 * 401 := Int.mul_le_mul (by omega) (by omega) (by omega) (by omega)
  omega
theorem sh_pos {t1 t2 : TV} (h1 : 0 ≤ t1.2.2.1.toInt ∧ t1.2.2.1.toInt ≤ 200) (h2 : 0 ≤ t2.2.2.1.toInt ∧ t2.2.2.1.toInt ≤ 200) : 0 < shL t1 t2 := by
  have b := bx_bd h1.1 h1.2 h2.1 h2.2
  unfold shL
  exact Int.mul_pos (Int.mul_pos (by omega) (by omega)) (by omega)
theorem sh_nn {t1 t2 : TV} {s w : Int} (h1 : 0 ≤ t1.2.2.1.toInt ∧ t1.2.2.1.toInt ≤ 200) (h2 : 0 ≤ t2.2.2.1.toInt ∧ t2.2.2.1.toInt ≤ 200) : 0 ≤ shU t1 t2 s w := by
  unfold shU
  exact Int.mul_nonneg (Int.mul_nonneg (prs_bd h2.1 h2.2 h1.1 h1.2).1 (prs_bd h2.1 h2.2 h1.1 h1.2).1) (prs_bd h2.1 h2.2 h1.1 h1.2).1
