theorem lag (a b c x y z : Int) : (a * a + b * b + c * c) * (x * x + y * y + z * z) - (a * x + b * y + c * z) * (a * x + b * y + c * z) = (a * y - b * x) * (a * y - b * x) + (a * z - c * x) * (a * z - c * x) + (b * z - c * y) * (b * z - c * y) := by grind
theorem sq_nn (x : Int) : 0 ≤ x * x := by
  rcases Int.le_total 0 x with h | h
  · exact Int.mul_nonneg h h
  · exact Int.mul_nonneg_of_nonpos_of_nonpos h h
theorem mul_bd {x y a b : Int} (h1 : -a ≤ x) (h2 : x ≤ a) (h3 : -b ≤ y) (h4 : y ≤ b) : -(a * b) ≤ x * y ∧ x * y ≤ a * b := by
  have hx : x.natAbs ≤ a.natAbs := by omega
  have hy : y.natAbs ≤ b.natAbs := by omega
  have h : (x * y).natAbs ≤ (a * b).natAbs := by
    rw [Int.natAbs_mul, Int.natAbs_mul]
    exact Nat.mul_le_mul hx hy
  have hab : 0 ≤ a * b := Int.mul_nonneg (by omega) (by omega)
  omega
/-- two fractions held against each other by their whole parts, then by the rests -/
theorem fr_lt {a b c d : Int} (ha : 0 ≤ a) (hb : 0 < b) (hc : 0 ≤ c) (hd : 0 < d) : (c / d < a / b ∨ (a / b = c / d ∧ c % d * b < a % b * d)) ↔ c * b < a * d := by
  have ea := Int.mul_ediv_add_emod a b
  have ec := Int.mul_ediv_add_emod c d
  have a1 := Int.emod_nonneg a (b := b) (by omega)
  have a2 := Int.emod_lt_of_pos a hb
  have c1 := Int.emod_nonneg c (b := d) (by omega)
  have c2 := Int.emod_lt_of_pos c hd
  obtain ⟨q, hq⟩ : ∃ q, a / b = q := ⟨_, rfl⟩
  obtain ⟨r, hr⟩ : ∃ r, a % b = r := ⟨_, rfl⟩
  obtain ⟨k, hk⟩ : ∃ k, c / d = k := ⟨_, rfl⟩
  obtain ⟨t, ht⟩ : ∃ t, c % d = t := ⟨_, rfl⟩
  rw [hq, hr] at ea
  rw [hr] at a1 a2
  rw [hk, ht] at ec
  rw [ht] at c1 c2
  rw [hq, hk, hr, ht]
  have tb1 : 0 ≤ t * b := Int.mul_nonneg c1 (by omega)
  have tb2 : t * b ≤ (d - 1) * b := Int.mul_le_mul_of_nonneg_right (by omega) (by omega)
  have rd1 : 0 ≤ r * d := Int.mul_nonneg a1 (by omega)
  have rd2 : r * d ≤ (b - 1) * d := Int.mul_le_mul_of_nonneg_right (by omega) (by omega)
  have hbd : 0 < b * d := Int.mul_pos hb hd
  have e1 : a * d = b * d * q + r * d := by rw [← ea]; grind
  have e2 : c * b = b * d * k + t * b := by rw [← ec]; grind
  have e3 : (d - 1) * b = b * d - b := by grind
  have e4 : (b - 1) * d = b * d - d := by grind
  rcases Int.lt_trichotomy k q with h | h | h
  · have m : b * d * (k + 1) ≤ b * d * q := Int.mul_le_mul_of_nonneg_left (by omega) (by omega)
    have m2 : b * d * (k + 1) = b * d * k + b * d := by grind
    constructor
    · intro _; omega
    · intro _; exact Or.inl h
  · subst h
    constructor
    · rintro (z | ⟨-, z⟩)
      · omega
      · omega
    · intro z; exact Or.inr ⟨rfl, by omega⟩
  · have m : b * d * (q + 1) ≤ b * d * k := Int.mul_le_mul_of_nonneg_left (by omega) (by omega)
    have m2 : b * d * (q + 1) = b * d * q + b * d := by grind
    constructor
    · rintro (z | ⟨z, -⟩)
      · omega
      · omega
    · intro z; omega
theorem lm_ab {x y z : Int64} (a b : Int) (e : z = x * y) (h1 : -a ≤ x.toInt) (h2 : x.toInt ≤ a) (h3 : -b ≤ y.toInt) (h4 : y.toInt ≤ b) (h : a * b < 9223372036854775808) : z.toInt = x.toInt * y.toInt := by
  have m := mul_bd h1 h2 h3 h4
  rw [e, fb_mulL (by omega) (by omega)]
/-- a sum over the first axes -/
def acc (F : Int → Int) : Nat → Int
  | 0 => 0
  | n + 1 => acc F n + F n
theorem acc_1 (F : Int → Int) (n : Nat) : acc F (n + 1) = acc F n + F n := rfl
theorem acc_bd {F : Int → Int} {B : Int} (h : ∀ j : Int, 0 ≤ j → j < 3 → -B ≤ F j ∧ F j ≤ B) : ∀ n : Nat, n ≤ 3 → -(B * n) ≤ acc F n ∧ acc F n ≤ B * n
  | 0, _ => by show -(B * ((0 : Nat) : Int)) ≤ 0 ∧ (0 : Int) ≤ B * ((0 : Nat) : Int); simp
  | n + 1, hn => by
    have i := acc_bd h n (by omega)
    have f := h n (by omega) (by omega)
    have e : B * ((n + 1 : Nat) : Int) = B * n + B := by rw [Int.natCast_add]; grind
    show -(B * ((n + 1 : Nat) : Int)) ≤ acc F n + F n ∧ acc F n + F n ≤ B * ((n + 1 : Nat) : Int)
    rw [e]
    omega
theorem acc_nn {F : Int → Int} (h : ∀ j : Int, 0 ≤ F j) : ∀ n : Nat, 0 ≤ acc F n
  | 0 => Int.le_refl 0
  | n + 1 => by
    have i := acc_nn h n
    have f := h n
    show 0 ≤ acc F n + F n
    omega
/-- of two ways a, b along the axes -/
def wD (a b : Int → Int) : Int := acc (fun j => a j * b j) 3
abbrev wIn (a b : Int → Int) : Prop := wD a b < 0 ∧ 0 < wD a b + wD b b
def wU (a b : Int → Int) : Int := if wIn a b then wD a a * wD b b - wD a b * wD a b else wD a a
def wL (a b : Int → Int) : Int := if wIn a b then wD b b else 1
def wP (a b : Int → Int) : Int := if wIn a b then -wD a b else 0
theorem wD_3 (a b : Int → Int) : wD a b = a 0 * b 0 + a 1 * b 1 + a 2 * b 2 := by
  show 0 + a 0 * b 0 + a 1 * b 1 + a 2 * b 2 = _
  rw [Int.zero_add]
theorem wD_cs (a b : Int → Int) : 0 ≤ wD a a * wD b b - wD a b * wD a b := by
  rw [wD_3, wD_3, wD_3, lag]
  have h1 := sq_nn (a 0 * b 1 - a 1 * b 0)
  have h2 := sq_nn (a 0 * b 2 - a 2 * b 0)
  have h3 := sq_nn (a 1 * b 2 - a 2 * b 1)
  omega
/-- how large the numbers of a way are -/
def wOK (a b : Int → Int) : Prop := ∀ j : Int, 0 ≤ j → j < 3 → (-10000 ≤ a j ∧ a j ≤ 10000) ∧ (-20000 ≤ b j ∧ b j ≤ 20000)
theorem wS_bd {a b : Int → Int} (h : wOK a b) : 0 ≤ wD a a ∧ wD a a ≤ 300000000 := by
  have n := acc_nn (F := fun j => a j * a j) (fun j => sq_nn _) 3
  have m := acc_bd (F := fun j => a j * a j) (B := 100000000) (fun j j0 j3 => by
    have z := (h j j0 j3).1
    have := mul_bd z.1 z.2 z.1 z.2
    show -100000000 ≤ a j * a j ∧ a j * a j ≤ 100000000
    omega) 3 (by omega)
  unfold wD
  omega
theorem wT_bd {a b : Int → Int} (h : wOK a b) : -600000000 ≤ wD a b ∧ wD a b ≤ 600000000 := by
  have m := acc_bd (F := fun j => a j * b j) (B := 200000000) (fun j j0 j3 => by
    have z := h j j0 j3
    have := mul_bd z.1.1 z.1.2 z.2.1 z.2.2
    show -200000000 ≤ a j * b j ∧ a j * b j ≤ 200000000
    omega) 3 (by omega)
  unfold wD
  omega
theorem wC_bd {a b : Int → Int} (h : wOK a b) : 0 ≤ wD b b ∧ wD b b ≤ 1200000000 := by
  have n := acc_nn (F := fun j => b j * b j) (fun j => sq_nn _) 3
  have m := acc_bd (F := fun j => b j * b j) (B := 400000000) (fun j j0 j3 => by
    have z := (h j j0 j3).2
    have := mul_bd z.1 z.2 z.1 z.2
    show -400000000 ≤ b j * b j ∧ b j * b j ≤ 400000000
    omega) 3 (by omega)
  unfold wD
  omega
theorem wU_bd {a b : Int → Int} (h : wOK a b) : 0 ≤ wU a b ∧ wU a b ≤ 360000000000000000 := by
  have s := wS_bd h
  have c := wC_bd h
  have cs := wD_cs a b
  have q := sq_nn (wD a b)
  have p : wD a a * wD b b ≤ 300000000 * 1200000000 := Int.mul_le_mul s.2 c.2 c.1 (by omega)
  unfold wU
  split
  · omega
  · omega
theorem wL_bd {a b : Int → Int} (h : wOK a b) : 1 ≤ wL a b ∧ wL a b ≤ 1200000000 := by
  have c := wC_bd h
  have t := wT_bd h
  unfold wL
  split
  · rename_i z; have z1 := z.1; have z2 := z.2; omega
  · omega
theorem wP_bd {a b : Int → Int} (h : wOK a b) : 0 ≤ wP a b ∧ wP a b < wL a b := by
  unfold wP wL
  by_cases z : wIn a b
  · rw [if_pos z, if_pos z]
    have z1 := z.1
    have z2 := z.2
    omega
  · rw [if_neg z, if_neg z]; omega
/-- the gap of two at a step, and how it goes on -/
def gA (f1 : Int32) (g1 : Nat → Int32) (f2 : Int32) (g2 : Nat → Int32) (k : Int) : Int → Int := fun j => xg f1 g1 k j - xg f2 g2 k j
def gB (f1 : Int32) (g1 : Nat → Int32) (f2 : Int32) (g2 : Nat → Int32) (k : Int) (go : Prop) [Decidable go] : Int → Int := fun j => if go then gA f1 g1 f2 g2 (k + 1) j - gA f1 g1 f2 g2 k j else 0
theorem gA_bd {f1 p1 f2 p2 : Int32} {g1 g2 : Nat → Int32} (h1 : cOK p1 g1) (h2 : cOK p2 g2) {k : Int} (a1 : f1.toInt ≤ k) (a2 : k < f1.toInt + p1.toInt) (b1 : f2.toInt ≤ k) (b2 : k < f2.toInt + p2.toInt) {j : Int} (j0 : 0 ≤ j) (j3 : j < 3) : -10000 ≤ gA f1 g1 f2 g2 k j ∧ gA f1 g1 f2 g2 k j ≤ 10000 := by
  have x := xg_bd (fi := f1) h1 a1 a2 j0 (by omega)
  have y := xg_bd (fi := f2) h2 b1 b2 j0 (by omega)
  show -10000 ≤ xg f1 g1 k j - xg f2 g2 k j ∧ xg f1 g1 k j - xg f2 g2 k j ≤ 10000
  omega
theorem gw_ok {f1 p1 f2 p2 : Int32} {g1 g2 : Nat → Int32} (h1 : cOK p1 g1) (h2 : cOK p2 g2) {k : Int} (a1 : f1.toInt ≤ k) (a2 : k < f1.toInt + p1.toInt) (b1 : f2.toInt ≤ k) (b2 : k < f2.toInt + p2.toInt) {go : Prop} [Decidable go] (hg : go → k + 1 < f1.toInt + p1.toInt ∧ k + 1 < f2.toInt + p2.toInt) : wOK (gA f1 g1 f2 g2 k) (gB f1 g1 f2 g2 k go) := fun j j0 j3 => by
  have x := gA_bd h1 h2 a1 a2 b1 b2 j0 j3
  refine ⟨x, ?_⟩
  by_cases z : go
  · obtain ⟨c1, c2⟩ := hg z
    have y := gA_bd (k := k + 1) h1 h2 (by omega) c1 (by omega) c2 j0 j3
    show -20000 ≤ (if go then gA f1 g1 f2 g2 (k + 1) j - gA f1 g1 f2 g2 k j else 0) ∧ (if go then gA f1 g1 f2 g2 (k + 1) j - gA f1 g1 f2 g2 k j else 0) ≤ 20000
    rw [if_pos z]
    omega
  · show -20000 ≤ (if go then gA f1 g1 f2 g2 (k + 1) j - gA f1 g1 f2 g2 k j else 0) ∧ (if go then gA f1 g1 f2 g2 (k + 1) j - gA f1 g1 f2 g2 k j else 0) ≤ 20000
    rw [if_neg z]
    omega
/-- the first of the least: n steps behind a -/
def kbF (U L : Int → Int) (a : Int) : Nat → Int
  | 0 => a
  | n + 1 => if U (a + n + 1) * L (kbF U L a n) < U (kbF U L a n) * L (a + n + 1) then a + n + 1 else kbF U L a n
theorem kb_rg (U L : Int → Int) (a : Int) : ∀ n : Nat, a ≤ kbF U L a n ∧ kbF U L a n ≤ a + n
  | 0 => ⟨Int.le_refl a, by show a ≤ a + ((0 : Nat) : Int); omega⟩
  | n + 1 => by
    have i := kb_rg U L a n
    by_cases z : U (a + n + 1) * L (kbF U L a n) < U (kbF U L a n) * L (a + n + 1)
    · have e : kbF U L a (n + 1) = a + n + 1 := if_pos z
      rw [e]; omega
    · have e : kbF U L a (n + 1) = kbF U L a n := if_neg z
      rw [e]; omega
theorem gB_eq {f1 f2 : Int32} {g1 g2 : Nat → Int32} {k : Int} {p q : Prop} [Decidable p] [Decidable q] (h : p ↔ q) : gB f1 g1 f2 g2 k p = gB f1 g1 f2 g2 k q := by
  funext j
  show (if p then _ else (0 : Int)) = (if q then _ else (0 : Int))
  by_cases z : p
  · rw [if_pos z, if_pos (h.mp z)]
  · rw [if_neg z, if_neg (fun w => z (h.mpr w))]
/-- the three numbers of the way at step k, where the last common step is b -/
def uK (f1 : Int32) (g1 : Nat → Int32) (f2 : Int32) (g2 : Nat → Int32) (b k : Int) : Int := wU (gA f1 g1 f2 g2 k) (gB f1 g1 f2 g2 k (k < b))
def lK (f1 : Int32) (g1 : Nat → Int32) (f2 : Int32) (g2 : Nat → Int32) (b k : Int) : Int := wL (gA f1 g1 f2 g2 k) (gB f1 g1 f2 g2 k (k < b))
def qK (f1 : Int32) (g1 : Nat → Int32) (f2 : Int32) (g2 : Nat → Int32) (b k : Int) : Int := wP (gA f1 g1 f2 g2 k) (gB f1 g1 f2 g2 k (k < b))
theorem K_bd {f1 p1 f2 p2 : Int32} {g1 g2 : Nat → Int32} (h1 : cOK p1 g1) (h2 : cOK p2 g2) {b k : Int} (a1 : f1.toInt ≤ k) (b1 : f2.toInt ≤ k) (hk : k ≤ b) (a2 : b < f1.toInt + p1.toInt) (b2 : b < f2.toInt + p2.toInt) : (0 ≤ uK f1 g1 f2 g2 b k ∧ uK f1 g1 f2 g2 b k ≤ 360000000000000000) ∧ (1 ≤ lK f1 g1 f2 g2 b k ∧ lK f1 g1 f2 g2 b k ≤ 1200000000) ∧ (0 ≤ qK f1 g1 f2 g2 b k ∧ qK f1 g1 f2 g2 b k < lK f1 g1 f2 g2 b k) := by
  have ok := gw_ok (go := k < b) h1 h2 a1 (by omega) b1 (by omega) (fun z => ⟨by omega, by omega⟩)
  exact ⟨wU_bd ok, wL_bd ok, wP_bd ok⟩
theorem kb_T {U L : Int → Int} {a : Int} {n : Nat} {k : Int} (hk : k = a + n + 1) (h : U k * L (kbF U L a n) < U (kbF U L a n) * L k) : kbF U L a (n + 1) = k := by
  subst hk
  show (if _ then a + n + 1 else kbF U L a n) = _
  rw [if_pos h]
theorem kb_F {U L : Int → Int} {a : Int} {n : Nat} {k : Int} (hk : k = a + n + 1) (h : ¬ U k * L (kbF U L a n) < U (kbF U L a n) * L k) : kbF U L a (n + 1) = kbF U L a n := by
  subst hk
  show (if _ then a + n + 1 else kbF U L a n) = _
  rw [if_neg h]
theorem neg_L {x : Int64} (h : -9223372036854775808 < x.toInt) : (-x).toInt = -x.toInt := by
  have r := fb_rngL x
  rw [Int64.toInt_neg, fb_bmodL (by omega) (by omega)]
