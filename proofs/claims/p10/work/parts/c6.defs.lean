def ixi (fi st ax : Int) : Nat := (3 * (st - fi) + ax).toNat
/-- a path's number at a step, along an axis -/
def xg (fi : Int32) (g : Nat → Int32) (s ax : Int) : Int := (g (ixi fi.toInt s ax)).toInt
def lowP (x : Int → Int) (a b r : Int) : Prop := (∀ s : Int, a ≤ s → s ≤ b → r ≤ x s) ∧ ∃ s : Int, a ≤ s ∧ s ≤ b ∧ r = x s
def higP (x : Int → Int) (a b r : Int) : Prop := (∀ s : Int, a ≤ s → s ≤ b → x s ≤ r) ∧ ∃ s : Int, a ≤ s ∧ s ≤ b ∧ r = x s
def farA (x y : Int → Int) (a b n : Int) : Prop := (∀ s t : Int, a ≤ s → s ≤ b → a ≤ t → t ≤ b → n ≤ x s - y t) ∨ (∀ s t : Int, a ≤ s → s ≤ b → a ≤ t → t ≤ b → n ≤ y t - x s)
theorem far_1 {x y : Int → Int} {a b n lo hi : Int} (h1 : lowP x a b lo) (h2 : higP y a b hi) (h : n ≤ lo - hi) : farA x y a b n := Or.inl (fun s t s1 s2 t1 t2 => by
  have := h1.1 s s1 s2
  have := h2.1 t t1 t2
  omega)
theorem far_2 {x y : Int → Int} {a b n lo hi : Int} (h1 : lowP y a b lo) (h2 : higP x a b hi) (h : n ≤ lo - hi) : farA x y a b n := Or.inr (fun s t s1 s2 t1 t2 => by
  have := h1.1 t t1 t2
  have := h2.1 s s1 s2
  omega)
theorem far_no {x y : Int → Int} {a b n lo1 hi1 lo2 hi2 : Int} (h1 : lowP x a b lo1) (h2 : higP x a b hi1) (h3 : lowP y a b lo2) (h4 : higP y a b hi2) (k1 : ¬ n ≤ lo1 - hi2) (k2 : ¬ n ≤ lo2 - hi1) : ¬ farA x y a b n := by
  obtain ⟨-, s1, a1, b1, e1⟩ := h1
  obtain ⟨-, s2, a2, b2, e2⟩ := h2
  obtain ⟨-, s3, a3, b3, e3⟩ := h3
  obtain ⟨-, s4, a4, b4, e4⟩ := h4
  rintro (h | h)
  · have := h s1 s4 a1 b1 a4 b4; omega
  · have := h s2 s3 a2 b2 a3 b3; omega
theorem xg_bd {fi pl : Int32} {g : Nat → Int32} {s ax : Int} (hco : cOK pl g) (h1 : fi.toInt ≤ s) (h2 : s < fi.toInt + pl.toInt) (h3 : 0 ≤ ax) (h4 : ax ≤ 2) : -5000 ≤ xg fi g s ax ∧ xg fi g s ax ≤ 5000 := hco (ixi fi.toInt s ax) (by unfold ixi; omega)
theorem low_bd {fi pl : Int32} {g : Nat → Int32} {a b r ax : Int} (hco : cOK pl g) (h : lowP (fun s => xg fi g s ax) a b r) (h1 : fi.toInt ≤ a) (h2 : b < fi.toInt + pl.toInt) (h3 : 0 ≤ ax) (h4 : ax ≤ 2) : -5000 ≤ r ∧ r ≤ 5000 := by
  obtain ⟨-, s, a1, b1, e⟩ := h
  have := xg_bd (fi := fi) hco (s := s) (by omega) (by omega) h3 h4
  rw [e]; exact this
theorem hig_bd {fi pl : Int32} {g : Nat → Int32} {a b r ax : Int} (hco : cOK pl g) (h : higP (fun s => xg fi g s ax) a b r) (h1 : fi.toInt ≤ a) (h2 : b < fi.toInt + pl.toInt) (h3 : 0 ≤ ax) (h4 : ax ≤ 2) : -5000 ≤ r ∧ r ≤ 5000 := by
  obtain ⟨-, s, a1, b1, e⟩ := h
  have := xg_bd (fi := fi) hco (s := s) (by omega) (by omega) h3 h4
  rw [e]; exact this
/-- apart along one of the three -/
def farS (f1 : Int32) (g1 : Nat → Int32) (f2 : Int32) (g2 : Nat → Int32) (a b n : Int) : Prop := ∃ j : Int, 0 ≤ j ∧ j < 3 ∧ farA (fun s => xg f1 g1 s j) (fun s => xg f2 g2 s j) a b n
def farW (f1 : Int32) (g1 : Nat → Int32) (f2 : Int32) (g2 : Nat → Int32) (a b n : Int) : Prop := a < b ∧ ∀ k : Int, a ≤ k → k < b → farS f1 g1 f2 g2 k (k + 1) n
/-- the sieve's answer for two that are not one -/
def svP (t1 t2 : TV) (n r : Int) : Prop := ∃ a b : Int, (t1.1.toInt ≤ a ∧ t2.1.toInt ≤ a ∧ (a = t1.1.toInt ∨ a = t2.1.toInt)) ∧ (b < t1.1.toInt + t1.2.1.toInt ∧ b < t2.1.toInt + t2.2.1.toInt ∧ (b = t1.1.toInt + t1.2.1.toInt - 1 ∨ b = t2.1.toInt + t2.2.1.toInt - 1)) ∧
  ((¬ (t1.2.2.2.1.toInt = 0 ∧ t2.2.2.2.1.toInt = 0 ∧ a ≤ b) ∧ r = 0) ∨ ((t1.2.2.2.1.toInt = 0 ∧ t2.2.2.2.1.toInt = 0 ∧ a ≤ b) ∧ farS t1.1 t1.2.2.2.2 t2.1 t2.2.2.2.2 a b n ∧ r = 1) ∨ ((t1.2.2.2.1.toInt = 0 ∧ t2.2.2.2.1.toInt = 0 ∧ a ≤ b) ∧ ¬ farS t1.1 t1.2.2.2.2 t2.1 t2.2.2.2.2 a b n ∧ farW t1.1 t1.2.2.2.2 t2.1 t2.2.2.2.2 a b n ∧ r = 2) ∨ ((t1.2.2.2.1.toInt = 0 ∧ t2.2.2.2.1.toInt = 0 ∧ a ≤ b) ∧ ¬ farS t1.1 t1.2.2.2.2 t2.1 t2.2.2.2.2 a b n ∧ ¬ farW t1.1 t1.2.2.2.2 t2.1 t2.2.2.2.2 a b n ∧ r = 3))
theorem sv_one {t1 t2 s1 s2 : TV} {n r q : Int} (hr : svP t1 t2 n r) (hq : svP s1 s2 n q) (e1 : t1.1 = s1.1) (e2 : t2.1 = s2.1) (p1 : t1.2.1 = s1.2.1) (p2 : t2.2.1 = s2.2.1) (g1 : t1.2.2.2.1 = s1.2.2.2.1) (g2 : t2.2.2.2.1 = s2.2.2.2.1)
    (x1 : ∀ s j : Int, t1.1.toInt ≤ s → s < t1.1.toInt + t1.2.1.toInt → 0 ≤ j → j < 3 → xg t1.1 t1.2.2.2.2 s j = xg s1.1 s1.2.2.2.2 s j) (x2 : ∀ s j : Int, t2.1.toInt ≤ s → s < t2.1.toInt + t2.2.1.toInt → 0 ≤ j → j < 3 → xg t2.1 t2.2.2.2.2 s j = xg s2.1 s2.2.2.2.2 s j) : r = q := by
  obtain ⟨a, b, ha, hb, hr⟩ := hr
  obtain ⟨a2, b2, ha2, hb2, hq⟩ := hq
  rw [← e1, ← e2] at ha2 hb2
  rw [← p1, ← p2] at hb2
  have ea : a2 = a := by omega
  have eb : b2 = b := by omega
  subst ea
  subst eb
  rw [← g1, ← g2] at hq
  have fS : ∀ c d : Int, a2 ≤ c → d ≤ b2 → (farS t1.1 t1.2.2.2.2 t2.1 t2.2.2.2.2 c d n ↔ farS s1.1 s1.2.2.2.2 s2.1 s2.2.2.2.2 c d n) := fun c d hc hd => by
    have fA : ∀ j : Int, 0 ≤ j → j < 3 → (farA (fun s => xg t1.1 t1.2.2.2.2 s j) (fun s => xg t2.1 t2.2.2.2.2 s j) c d n ↔ farA (fun s => xg s1.1 s1.2.2.2.2 s j) (fun s => xg s2.1 s2.2.2.2.2 s j) c d n) := fun j j0 j3 => by
      unfold farA
      constructor
      · rintro (h | h)
        · refine Or.inl (fun s t q1 q2 q3 q4 => ?_)
          show n ≤ xg s1.1 s1.2.2.2.2 s j - xg s2.1 s2.2.2.2.2 t j
          rw [← x1 s j (by omega) (by omega) j0 j3, ← x2 t j (by omega) (by omega) j0 j3]; exact h s t q1 q2 q3 q4
        · refine Or.inr (fun s t q1 q2 q3 q4 => ?_)
          show n ≤ xg s2.1 s2.2.2.2.2 t j - xg s1.1 s1.2.2.2.2 s j
          rw [← x1 s j (by omega) (by omega) j0 j3, ← x2 t j (by omega) (by omega) j0 j3]; exact h s t q1 q2 q3 q4
      · rintro (h | h)
        · refine Or.inl (fun s t q1 q2 q3 q4 => ?_)
          show n ≤ xg t1.1 t1.2.2.2.2 s j - xg t2.1 t2.2.2.2.2 t j
          rw [x1 s j (by omega) (by omega) j0 j3, x2 t j (by omega) (by omega) j0 j3]; exact h s t q1 q2 q3 q4
        · refine Or.inr (fun s t q1 q2 q3 q4 => ?_)
          show n ≤ xg t2.1 t2.2.2.2.2 t j - xg t1.1 t1.2.2.2.2 s j
          rw [x1 s j (by omega) (by omega) j0 j3, x2 t j (by omega) (by omega) j0 j3]; exact h s t q1 q2 q3 q4
    constructor
    · rintro ⟨j, j0, j3, h⟩; exact ⟨j, j0, j3, (fA j j0 j3).mp h⟩
    · rintro ⟨j, j0, j3, h⟩; exact ⟨j, j0, j3, (fA j j0 j3).mpr h⟩
  have fW : farW t1.1 t1.2.2.2.2 t2.1 t2.2.2.2.2 a2 b2 n ↔ farW s1.1 s1.2.2.2.2 s2.1 s2.2.2.2.2 a2 b2 n := by
    constructor
    · rintro ⟨h0, h⟩; exact ⟨h0, fun k k1 k2 => (fS k (k + 1) (by omega) (by omega)).mp (h k k1 k2)⟩
    · rintro ⟨h0, h⟩; exact ⟨h0, fun k k1 k2 => (fS k (k + 1) (by omega) (by omega)).mpr (h k k1 k2)⟩
  rw [← fS a2 b2 (by omega) (by omega), ← fW] at hq
  rcases hr with ⟨h, rfl⟩ | ⟨h, h2, rfl⟩ | ⟨h, h2, h3, rfl⟩ | ⟨h, h2, h3, rfl⟩
  · rcases hq with ⟨k, rfl⟩ | ⟨k, -⟩ | ⟨k, -⟩ | ⟨k, -⟩
    · rfl
    · exact absurd k h
    · exact absurd k h
    · exact absurd k h
  · rcases hq with ⟨k, -⟩ | ⟨k, k2, rfl⟩ | ⟨k, k2, -⟩ | ⟨k, k2, -⟩
    · exact absurd h k
    · rfl
    · exact absurd h2 k2
    · exact absurd h2 k2
  · rcases hq with ⟨k, -⟩ | ⟨k, k2, -⟩ | ⟨k, k2, k3, rfl⟩ | ⟨k, k2, k3, -⟩
    · exact absurd h k
    · exact absurd k2 h2
    · rfl
    · exact absurd h3 k3
  · rcases hq with ⟨k, -⟩ | ⟨k, k2, -⟩ | ⟨k, k2, k3, -⟩ | ⟨k, k2, k3, rfl⟩
    · exact absurd h k
    · exact absurd k2 h2
    · exact absurd k3 h3
    · rfl
/-- two truth values in one -/
theorem tv_1 {r : Int32} {P : Prop} (h : (r = 1 ∧ P) ∨ (r = 0 ∧ ¬ P)) (c : ¬ r = 0) : P := h.elim (fun z => z.2) (fun z => absurd z.1 c)
theorem tv_0 {r : Int32} {P : Prop} (h : (r = 1 ∧ P) ∨ (r = 0 ∧ ¬ P)) (c : r = 0) : ¬ P := h.elim (fun z => absurd (z.1.symm.trans c) (by decide)) (fun z => z.2)
theorem sv_mk {f1 p1 d1 o1 f2 p2 d2 o2 : Int32} {g1 g2 : Nat → Int32} {n r a b : Int} (ha : f1.toInt ≤ a ∧ f2.toInt ≤ a ∧ (a = f1.toInt ∨ a = f2.toInt)) (hb : b < f1.toInt + p1.toInt ∧ b < f2.toInt + p2.toInt ∧ (b = f1.toInt + p1.toInt - 1 ∨ b = f2.toInt + p2.toInt - 1))
    (h : (¬ (o1.toInt = 0 ∧ o2.toInt = 0 ∧ a ≤ b) ∧ r = 0) ∨ ((o1.toInt = 0 ∧ o2.toInt = 0 ∧ a ≤ b) ∧ farS f1 g1 f2 g2 a b n ∧ r = 1) ∨ ((o1.toInt = 0 ∧ o2.toInt = 0 ∧ a ≤ b) ∧ ¬ farS f1 g1 f2 g2 a b n ∧ farW f1 g1 f2 g2 a b n ∧ r = 2) ∨ ((o1.toInt = 0 ∧ o2.toInt = 0 ∧ a ≤ b) ∧ ¬ farS f1 g1 f2 g2 a b n ∧ ¬ farW f1 g1 f2 g2 a b n ∧ r = 3)) : svP (f1, p1, d1, o1, g1) (f2, p2, d2, o2, g2) n r := ⟨a, b, ha, hb, h⟩
theorem wy_2 {S W : Prop} {e : Prop} (h : (e ∧ S) ∨ W) (n : ¬ S) : W := h.elim (fun z => absurd z.2 n) id
theorem wy_3 {S W : Prop} {e : Prop} (h : ¬ ((e ∧ S) ∨ W)) : ¬ W := fun z => h (Or.inr z)
theorem sv_no {f1 p1 d1 o1 f2 p2 d2 o2 : Int32} {g1 g2 : Nat → Int32} {n : Int} (h : ¬ (o1.toInt = 0 ∧ o2.toInt = 0 ∧ f1.toInt < f2.toInt + p2.toInt ∧ f2.toInt < f1.toInt + p1.toInt ∧ 1 ≤ p1.toInt ∧ 1 ≤ p2.toInt)) : svP (f1, p1, d1, o1, g1) (f2, p2, d2, o2, g2) n (0 : Int32).toInt := by
  refine ⟨if f1.toInt < f2.toInt then f2.toInt else f1.toInt, if f1.toInt + p1.toInt < f2.toInt + p2.toInt then f1.toInt + p1.toInt - 1 else f2.toInt + p2.toInt - 1, ?_, ?_, Or.inl ⟨?_, by decide⟩⟩
  · show f1.toInt ≤ _ ∧ f2.toInt ≤ _ ∧ (_ = f1.toInt ∨ _ = f2.toInt)
    split <;> omega
  · show _ < f1.toInt + p1.toInt ∧ _ < f2.toInt + p2.toInt ∧ (_ = f1.toInt + p1.toInt - 1 ∨ _ = f2.toInt + p2.toInt - 1)
    split <;> omega
  · show ¬ (o1.toInt = 0 ∧ o2.toInt = 0 ∧ _ ≤ _)
    split <;> split <;> omega
theorem wn_1 {S : Int → Int → Prop} {w5 : Int32} {a b k6 y z : Int} {W : Prop} (h : (w5 = 1 ∧ a < b ∧ ∀ k : Int, a ≤ k → k < k6 → S k (k + 1)) ∨ (w5 = 0 ∧ ¬ W)) (c : ¬ w5 = 0) (q : S k6 y) (hy : y = k6 + 1) (hz : z = k6 + 1) : ((1 : Int32) = 1 ∧ a < b ∧ ∀ k : Int, a ≤ k → k < z → S k (k + 1)) ∨ ((1 : Int32) = 0 ∧ ¬ W) := by
  subst hy
  rcases h with ⟨-, h1, h2⟩ | ⟨h, -⟩
  · refine Or.inl ⟨rfl, h1, fun k a9 b9 => ?_⟩
    rcases (show k < k6 ∨ k = k6 by omega) with e | e
    · exact h2 k a9 e
    · rw [e]; exact q
  · exact absurd h c
theorem wn_2 {S : Int → Int → Prop} {a b k6 y z : Int} (q : ¬ S k6 y) (hy : y = k6 + 1) (h1 : a ≤ k6) (h2 : k6 < b) : ((0 : Int32) = 1 ∧ a < b ∧ ∀ k : Int, a ≤ k → k < z → S k (k + 1)) ∨ ((0 : Int32) = 0 ∧ ¬ (a < b ∧ ∀ k : Int, a ≤ k → k < b → S k (k + 1))) := by
  subst hy
  exact Or.inr ⟨rfl, fun h => q (h.2 k6 h1 h2)⟩
theorem wn_0 {S : Int → Int → Prop} {w5 : Int32} {a b k6 z : Int} {W : Prop} (h : (w5 = 1 ∧ a < b ∧ ∀ k : Int, a ≤ k → k < k6 → S k (k + 1)) ∨ (w5 = 0 ∧ ¬ W)) (c : w5 = 0) : ((0 : Int32) = 1 ∧ a < b ∧ ∀ k : Int, a ≤ k → k < z → S k (k + 1)) ∨ ((0 : Int32) = 0 ∧ ¬ W) := by
  rcases h with ⟨h, -⟩ | ⟨-, h⟩
  · exact absurd (h.symm.trans c) (by decide)
  · exact Or.inr ⟨rfl, h⟩
