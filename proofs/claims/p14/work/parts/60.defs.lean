/-- three cells side by side -/
def st3 (S : Nat → Int32) (i : Nat) (x y z : Int32) : Nat → Int32 := upd (upd (upd S i x) (i + 1) y) (i + 2) z
theorem st3_eq {S : Nat → Int32} {y0 y1 y2 x y z : Int32} {i : Int} (hi : 0 ≤ i) (h0 : y0.toInt = i) (h1 : y1.toInt = i + 1) (h2 : y2.toInt = i + 2) : upd (upd (upd S y0.toNatClampNeg x) y1.toNatClampNeg y) y2.toNatClampNeg z = st3 S i.toNat x y z := by
  have e0 : y0.toNatClampNeg = i.toNat := by rw [← h0]; rfl
  have e1 : y1.toNatClampNeg = i.toNat + 1 := by
    have : y1.toNatClampNeg = y1.toInt.toNat := rfl
    rw [this, h1]; omega
  have e2 : y2.toNatClampNeg = i.toNat + 2 := by
    have : y2.toNatClampNeg = y2.toInt.toNat := rfl
    rw [this, h2]; omega
  rw [e0, e1, e2]; rfl
/-- three cells side by side moved by i times a, b, c -/
def mv3 (S : Nat → Int32) (q : Nat) (i a b c : Int32) : Nat → Int32 := st3 S q (S q + i * a) (S (q + 1) + i * b) (S (q + 2) + i * c)
theorem mv3_eq {S : Nat → Int32} {y0 y1 y2 v0 v1 v2 w0 w1 w2 x0 x1 x2 j a b c : Int32} {i : Int} (hi : 0 ≤ i) (h0 : y0.toInt = i) (h1 : y1.toInt = i + 1) (h2 : y2.toInt = i + 2)
    (e0 : v0 = S y0.toNatClampNeg) (f0 : w0 = j * a) (g0 : x0 = v0 + w0)
    (e1 : v1 = upd S y0.toNatClampNeg x0 y1.toNatClampNeg) (f1 : w1 = j * b) (g1 : x1 = v1 + w1)
    (e2 : v2 = upd (upd S y0.toNatClampNeg x0) y1.toNatClampNeg x1 y2.toNatClampNeg) (f2 : w2 = j * c) (g2 : x2 = v2 + w2) :
    upd (upd (upd S y0.toNatClampNeg x0) y1.toNatClampNeg x1) y2.toNatClampNeg x2 = mv3 S i.toNat j a b c := by
  have z0 : y0.toNatClampNeg = i.toNat := by rw [← h0]; rfl
  have z1 : y1.toNatClampNeg = i.toNat + 1 := by
    have : y1.toNatClampNeg = y1.toInt.toNat := rfl
    rw [this, h1]; omega
  have z2 : y2.toNatClampNeg = i.toNat + 2 := by
    have : y2.toNatClampNeg = y2.toInt.toNat := rfl
    rw [this, h2]; omega
  rw [z0] at e0
  rw [z0, z1] at e1
  rw [z0, z1, z2] at e2
  rw [z0, z1, z2]
  have u1 : upd S i.toNat x0 (i.toNat + 1) = S (i.toNat + 1) := if_neg (by omega)
  have u2 : upd (upd S i.toNat x0) (i.toNat + 1) x1 (i.toNat + 2) = S (i.toNat + 2) := by
    show (if i.toNat + 2 = i.toNat + 1 then x1 else upd S i.toNat x0 (i.toNat + 2)) = _
    rw [if_neg (by omega)]
    exact if_neg (by omega)
  rw [u1] at e1
  rw [u2] at e2
  unfold mv3 st3
  rw [g2, g1, g0, f2, f1, f0, e2, e1, e0]
/-- a path moved behind a step: n steps of it, the first at q, i steps behind by i times a, b, c -/
def mvK (S : Nat → Int32) (q : Nat) (a b c : Int32) : Nat → (Nat → Int32)
  | 0 => S
  | n + 1 => mv3 (mvK S q a b c n) (q + 3 * n) (nI (n + 1)) a b c
abbrev inP (x y z : Int32) : Prop := (-5000 ≤ x.toInt ∧ x.toInt ≤ 5000) ∧ (-5000 ≤ y.toInt ∧ y.toInt ≤ 5000) ∧ (-5000 ≤ z.toInt ∧ z.toInt ≤ 5000)
/-- the n steps at q stay inside, moved so -/
def stK (S : Nat → Int32) (q : Nat) (a b c : Int32) (n : Nat) : Prop := ∀ j : Nat, j < n → inP (S (q + 3 * j) + nI (j + 1) * a) (S (q + 3 * j + 1) + nI (j + 1) * b) (S (q + 3 * j + 2) + nI (j + 1) * c)
theorem mvK_off (S : Nat → Int32) (q : Nat) (a b c : Int32) : ∀ (n j : Nat), (j < q ∨ q + 3 * n ≤ j) → mvK S q a b c n j = S j
  | 0, _, _ => rfl
  | n + 1, j, h => by
    have ih := mvK_off S q a b c n j (by omega)
    show (if j = q + 3 * n + 2 then _ else if j = q + 3 * n + 1 then _ else if j = q + 3 * n then _ else mvK S q a b c n j) = S j
    rw [if_neg (by omega), if_neg (by omega), if_neg (by omega), ih]
theorem mvK_in (S : Nat → Int32) (q : Nat) (a b c : Int32) : ∀ (n j : Nat), j < n → mvK S q a b c n (q + 3 * j) = S (q + 3 * j) + nI (j + 1) * a ∧ mvK S q a b c n (q + 3 * j + 1) = S (q + 3 * j + 1) + nI (j + 1) * b ∧ mvK S q a b c n (q + 3 * j + 2) = S (q + 3 * j + 2) + nI (j + 1) * c
  | 0, _, h => absurd h (Nat.not_lt_zero _)
  | n + 1, j, h => by
    rcases Nat.lt_or_ge j n with h1 | h1
    · obtain ⟨i1, i2, i3⟩ := mvK_in S q a b c n j h1
      refine ⟨?_, ?_, ?_⟩
      · show (if q + 3 * j = q + 3 * n + 2 then _ else if q + 3 * j = q + 3 * n + 1 then _ else if q + 3 * j = q + 3 * n then _ else mvK S q a b c n (q + 3 * j)) = _
        rw [if_neg (by omega), if_neg (by omega), if_neg (by omega), i1]
      · show (if q + 3 * j + 1 = q + 3 * n + 2 then _ else if q + 3 * j + 1 = q + 3 * n + 1 then _ else if q + 3 * j + 1 = q + 3 * n then _ else mvK S q a b c n (q + 3 * j + 1)) = _
        rw [if_neg (by omega), if_neg (by omega), if_neg (by omega), i2]
      · show (if q + 3 * j + 2 = q + 3 * n + 2 then _ else if q + 3 * j + 2 = q + 3 * n + 1 then _ else if q + 3 * j + 2 = q + 3 * n then _ else mvK S q a b c n (q + 3 * j + 2)) = _
        rw [if_neg (by omega), if_neg (by omega), if_neg (by omega), i3]
    · have e : j = n := by omega
      subst e
      have o1 := mvK_off S q a b c j (q + 3 * j) (by omega)
      have o2 := mvK_off S q a b c j (q + 3 * j + 1) (by omega)
      have o3 := mvK_off S q a b c j (q + 3 * j + 2) (by omega)
      refine ⟨?_, ?_, ?_⟩
      · show (if q + 3 * j = q + 3 * j + 2 then _ else if q + 3 * j = q + 3 * j + 1 then _ else if q + 3 * j = q + 3 * j then mvK S q a b c j (q + 3 * j) + nI (j + 1) * a else _) = _
        rw [if_neg (by omega), if_neg (by omega), if_pos rfl, o1]
      · show (if q + 3 * j + 1 = q + 3 * j + 2 then _ else if q + 3 * j + 1 = q + 3 * j + 1 then mvK S q a b c j (q + 3 * j + 1) + nI (j + 1) * b else _) = _
        rw [if_neg (by omega), if_pos rfl, o2]
      · show (if q + 3 * j + 2 = q + 3 * j + 2 then mvK S q a b c j (q + 3 * j + 2) + nI (j + 1) * c else _) = _
        rw [if_pos rfl, o3]
theorem rg_back (x i a : Int32) : x + i * a + i * -a = x := by
  apply Int32.toBitVec_inj.mp
  simp [Int32.toBitVec_add, Int32.toBitVec_mul, Int32.toBitVec_neg]
  rw [BitVec.add_assoc, BitVec.add_right_neg, BitVec.add_zero]
/-- moved there and back: as before -/
theorem mvK_back (S : Nat → Int32) (q : Nat) (a b c : Int32) (n : Nat) : mvK (mvK S q a b c n) q (-a) (-b) (-c) n = S := by
  funext j
  rcases Nat.lt_or_ge j q with h | h
  · rw [mvK_off _ _ _ _ _ n j (by omega), mvK_off _ _ _ _ _ n j (by omega)]
  · rcases Nat.lt_or_ge j (q + 3 * n) with h2 | h2
    · obtain ⟨d, r, hr, rfl⟩ : ∃ d r : Nat, r < 3 ∧ j = q + 3 * d + r := ⟨(j - q) / 3, (j - q) % 3, Nat.mod_lt _ (by omega), by omega⟩
      have hd : d < n := by omega
      obtain ⟨i1, i2, i3⟩ := mvK_in S q a b c n d hd
      obtain ⟨k1, k2, k3⟩ := mvK_in (mvK S q a b c n) q (-a) (-b) (-c) n d hd
      rcases (show r = 0 ∨ r = 1 ∨ r = 2 by omega) with rfl | rfl | rfl
      · rw [Nat.add_zero, k1, i1, rg_back]
      · rw [k2, i2, rg_back]
      · rw [k3, i3, rg_back]
    · rw [mvK_off _ _ _ _ _ n j (by omega), mvK_off _ _ _ _ _ n j (by omega)]
theorem shk_step {S S7 S8 : Nat → Int32} {q n : Nat} {a b c j : Int32} {i : Int} (h7 : S7 = mvK S q a b c n) (h8 : S8 = mv3 S7 i.toNat j a b c) (hi : i.toNat = q + 3 * n) (hj : j = nI (n + 1)) : S8 = mvK S q a b c (n + 1) := by
  subst h7; subst hj
  rw [h8, hi]; rfl
theorem vv_0 {S S8 : Nat → Int32} {q n : Nat} {a b c v y : Int32} (e : v = S8 y.toNatClampNeg) (h : S8 = mvK S q a b c (n + 1)) (hi : y.toInt = q + 3 * n) : v = S (q + 3 * n) + nI (n + 1) * a := by
  have z : y.toNatClampNeg = q + 3 * n := by
    have : y.toNatClampNeg = y.toInt.toNat := rfl
    omega
  rw [e, z, h]; exact (mvK_in S q a b c (n + 1) n (Nat.lt_succ_self n)).1
theorem vv_1 {S S8 : Nat → Int32} {q n : Nat} {a b c v y : Int32} (e : v = S8 y.toNatClampNeg) (h : S8 = mvK S q a b c (n + 1)) (hi : y.toInt = q + 3 * n + 1) : v = S (q + 3 * n + 1) + nI (n + 1) * b := by
  have z : y.toNatClampNeg = q + 3 * n + 1 := by
    have : y.toNatClampNeg = y.toInt.toNat := rfl
    omega
  rw [e, z, h]; exact (mvK_in S q a b c (n + 1) n (Nat.lt_succ_self n)).2.1
theorem vv_2 {S S8 : Nat → Int32} {q n : Nat} {a b c v y : Int32} (e : v = S8 y.toNatClampNeg) (h : S8 = mvK S q a b c (n + 1)) (hi : y.toInt = q + 3 * n + 2) : v = S (q + 3 * n + 2) + nI (n + 1) * c := by
  have z : y.toNatClampNeg = q + 3 * n + 2 := by
    have : y.toNatClampNeg = y.toInt.toNat := rfl
    omega
  rw [e, z, h]; exact (mvK_in S q a b c (n + 1) n (Nat.lt_succ_self n)).2.2
theorem stK_down {S : Nat → Int32} {q n : Nat} {a b c : Int32} (h : stK S q a b c (n + 1)) : stK S q a b c n := fun j hj => h j (by omega)
theorem stK_up {S : Nat → Int32} {q n : Nat} {a b c : Int32} (h : stK S q a b c n) (h2 : inP (S (q + 3 * n) + nI (n + 1) * a) (S (q + 3 * n + 1) + nI (n + 1) * b) (S (q + 3 * n + 2) + nI (n + 1) * c)) : stK S q a b c (n + 1) := fun j hj => by
  rcases Nat.lt_or_ge j n with g | g
  · exact h j g
  · have e : j = n := by omega
    subst e; exact h2
theorem gk_0 {S : Nat → Int32} {q n : Nat} {a b c gd : Int32} (hg : (gd = 1 ∧ stK S q a b c n) ∨ (gd = 0 ∧ ¬ stK S q a b c n)) (h : gd = 0) : ((0 : Int32) = 1 ∧ stK S q a b c (n + 1)) ∨ ((0 : Int32) = 0 ∧ ¬ stK S q a b c (n + 1)) := by
  rcases hg with ⟨e, -⟩ | ⟨-, e⟩
  · rw [h] at e; exact absurd e (by decide)
  · exact Or.inr ⟨rfl, fun z => e (stK_down z)⟩
theorem gk_1 {S : Nat → Int32} {q n : Nat} {a b c gd v0 v1 v2 : Int32} (hg : (gd = 1 ∧ stK S q a b c n) ∨ (gd = 0 ∧ ¬ stK S q a b c n)) (h : ¬ gd = 0) (w0 : v0 = S (q + 3 * n) + nI (n + 1) * a) (w1 : v1 = S (q + 3 * n + 1) + nI (n + 1) * b) (w2 : v2 = S (q + 3 * n + 2) + nI (n + 1) * c) (p : inP v0 v1 v2) : ((1 : Int32) = 1 ∧ stK S q a b c (n + 1)) ∨ ((1 : Int32) = 0 ∧ ¬ stK S q a b c (n + 1)) := by
  rcases hg with ⟨-, e⟩ | ⟨e, -⟩
  · subst w0; subst w1; subst w2; exact Or.inl ⟨rfl, stK_up e p⟩
  · exact absurd e h
theorem gk_2 {S : Nat → Int32} {q n : Nat} {a b c v0 v1 v2 : Int32} (w0 : v0 = S (q + 3 * n) + nI (n + 1) * a) (w1 : v1 = S (q + 3 * n + 1) + nI (n + 1) * b) (w2 : v2 = S (q + 3 * n + 2) + nI (n + 1) * c) (p : ¬ inP v0 v1 v2) : ((0 : Int32) = 1 ∧ stK S q a b c (n + 1)) ∨ ((0 : Int32) = 0 ∧ ¬ stK S q a b c (n + 1)) := by
  subst w0; subst w1; subst w2
  exact Or.inr ⟨rfl, fun z => p (z n (Nat.lt_succ_self n))⟩
theorem nI_of_toInt {x : Int32} {n : Nat} (h : x.toInt = n) : x = nI n := by
  have hr := fb_rng x
  apply Int32.toInt_inj.mp
  rw [h, nI_toInt (by omega)]
