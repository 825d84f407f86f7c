theorem K_same {f1 f2 : Int32} {g1 g2 : Nat → Int32} {b c k : Int} (h : k < b ↔ k < c) : uK f1 g1 f2 g2 b k = uK f1 g1 f2 g2 c k ∧ lK f1 g1 f2 g2 b k = lK f1 g1 f2 g2 c k := by
  have e := gB_eq (f1 := f1) (g1 := g1) (f2 := f2) (g2 := g2) (k := k) h
  unfold uK lK
  rw [e]
  exact ⟨rfl, rfl⟩
theorem K_end {f1 f2 : Int32} {g1 g2 : Nat → Int32} {b k : Int} (h : ¬ k < b) : uK f1 g1 f2 g2 b k = wD (gA f1 g1 f2 g2 k) (gA f1 g1 f2 g2 k) ∧ lK f1 g1 f2 g2 b k = 1 := by
  have z : ∀ j : Int, 0 ≤ j → j < 3 → gB f1 g1 f2 g2 k (k < b) j = (fun _ : Int => (0 : Int)) j := fun j _ _ => if_neg h
  have t0 : wD (gA f1 g1 f2 g2 k) (gB f1 g1 f2 g2 k (k < b)) = 0 := by
    rw [wD_3, z 0 (by omega) (by omega), z 1 (by omega) (by omega), z 2 (by omega) (by omega)]
    show _ * (0 : Int) + _ * (0 : Int) + _ * (0 : Int) = 0
    omega
  have ni : ¬ wIn (gA f1 g1 f2 g2 k) (gB f1 g1 f2 g2 k (k < b)) := fun w => by have := w.1; omega
  exact ⟨if_neg ni, if_neg ni⟩
theorem K_le {f1 f2 : Int32} {g1 g2 : Nat → Int32} {b k : Int} : uK f1 g1 f2 g2 b k ≤ wD (gA f1 g1 f2 g2 k) (gA f1 g1 f2 g2 k) * lK f1 g1 f2 g2 b k := by
  unfold uK lK wU wL
  by_cases w : wIn (gA f1 g1 f2 g2 k) (gB f1 g1 f2 g2 k (k < b))
  · rw [if_pos w, if_pos w]
    have := sq_nn (wD (gA f1 g1 f2 g2 k) (gB f1 g1 f2 g2 k (k < b)))
    omega
  · rw [if_neg w, if_neg w, Int.mul_one]
    exact Int.le_refl _
/-- a path's nearness, cut at a step -/
theorem me_split {t o : TV} {s hi ne : Int} (ok1 : tvOK t) (ok2 : tvOK o) (hs : s ≤ hi) : meP t o 0 hi ne ↔ meP t o 0 s ne ∨ meP t o s hi ne := by
  have f0 : 0 ≤ t.1.toInt := ok1.1.1
  obtain ⟨A, hA⟩ : ∃ A, max t.1.toInt o.1.toInt = A := ⟨_, rfl⟩
  obtain ⟨M, hM⟩ : ∃ M, min (t.1.toInt + t.2.1.toInt - 1) (o.1.toInt + o.2.1.toInt - 1) = M := ⟨_, rfl⟩
  have a0 : aK t o 0 = A := by unfold aK; omega
  have a1 : aK t o s = max s A := by unfold aK; rw [hA]
  have b0 : bK t o hi = min hi M := by unfold bK; rw [hM]
  have b1 : bK t o s = min s M := by unfold bK; rw [hM]
  unfold meP
  rw [a0, a1, b0, b1]
  constructor
  · rintro ⟨k, k1, k2, h⟩
    by_cases q : s ≤ k
    · exact Or.inr ⟨k, by omega, k2, h⟩
    · obtain ⟨e1, e2⟩ := K_same (f1 := t.1) (g1 := t.2.2.2.2) (f2 := o.1) (g2 := o.2.2.2.2) (b := min s M) (c := min hi M) (k := k) (by omega)
      exact Or.inl ⟨k, k1, by omega, by rw [e1, e2]; exact h⟩
  · rintro (⟨k, k1, k2, h⟩ | ⟨k, k1, k2, h⟩)
    · by_cases q : k < min s M ∨ ¬ k < min hi M
      · obtain ⟨e1, e2⟩ := K_same (f1 := t.1) (g1 := t.2.2.2.2) (f2 := o.1) (g2 := o.2.2.2.2) (b := min hi M) (c := min s M) (k := k) (by omega)
        exact ⟨k, k1, by omega, by rw [e1, e2]; exact h⟩
      · obtain ⟨e1, e2⟩ := K_end (f1 := t.1) (g1 := t.2.2.2.2) (f2 := o.1) (g2 := o.2.2.2.2) (b := min s M) (k := k) (by omega)
        rw [e1, e2, Int.mul_one] at h
        have le := K_le (f1 := t.1) (g1 := t.2.2.2.2) (f2 := o.1) (g2 := o.2.2.2.2) (b := min hi M) (k := k)
        have bd := K_bd (f1 := t.1) (f2 := o.1) (k := k) (b := min hi M) ok1.2.2.2.1 ok2.2.2.2.1 (by omega) (by omega) (by omega) (by omega) (by omega)
        have lp := bd.2.1.1
        refine ⟨k, k1, by omega, Int.lt_of_le_of_lt le ?_⟩
        exact Int.mul_lt_mul_of_pos_right h (by omega)
    · exact ⟨k, by omega, k2, h⟩
/-- only the steps up to hi are looked at -/
theorem me_upto {t m o : TV} {hi ne : Int} (e1 : t.1 = m.1) (e2 : t.2.1 = m.2.1) (hx : ∀ s j : Int, t.1.toInt ≤ s → s < t.1.toInt + t.2.1.toInt → s ≤ hi → 0 ≤ j → j < 3 → xg t.1 t.2.2.2.2 s j = xg m.1 m.2.2.2.2 s j) : meP t o 0 hi ne ↔ meP m o 0 hi ne := by
  have ea : aK t o 0 = aK m o 0 := by unfold aK; rw [e1]
  have eb : bK t o hi = bK m o hi := by unfold bK; rw [e1, e2]
  have qb : bK t o hi = min hi (min (t.1.toInt + t.2.1.toInt - 1) (o.1.toInt + o.2.1.toInt - 1)) := rfl
  have ga : ∀ k : Int, t.1.toInt ≤ k → k ≤ bK t o hi → ∀ j : Int, 0 ≤ j → j < 3 → gA t.1 t.2.2.2.2 o.1 o.2.2.2.2 k j = gA m.1 m.2.2.2.2 o.1 o.2.2.2.2 k j := fun k k1 k2 j j0 j3 => by
    show xg _ _ _ _ - xg _ _ _ _ = xg _ _ _ _ - xg _ _ _ _
    rw [hx k j k1 (by omega) (by omega) j0 j3]
  have ke : ∀ k : Int, aK t o 0 ≤ k → k ≤ bK t o hi → uK t.1 t.2.2.2.2 o.1 o.2.2.2.2 (bK t o hi) k = uK m.1 m.2.2.2.2 o.1 o.2.2.2.2 (bK t o hi) k ∧ lK t.1 t.2.2.2.2 o.1 o.2.2.2.2 (bK t o hi) k = lK m.1 m.2.2.2.2 o.1 o.2.2.2.2 (bK t o hi) k := fun k k1 k2 => by
    have q1 : max 0 (max t.1.toInt o.1.toInt) ≤ k := k1
    have w := w_eq (ga k (by omega) k2) (b := gB t.1 t.2.2.2.2 o.1 o.2.2.2.2 k (k < bK t o hi)) (b' := gB m.1 m.2.2.2.2 o.1 o.2.2.2.2 k (k < bK t o hi)) (fun j j0 j3 => by
      show (if k < bK t o hi then _ - _ else (0 : Int)) = (if k < bK t o hi then _ - _ else (0 : Int))
      by_cases z : k < bK t o hi
      · rw [if_pos z, if_pos z, ga k (by omega) k2 j j0 j3, ga (k + 1) (by omega) (by omega) j j0 j3]
      · rw [if_neg z, if_neg z])
    exact ⟨w.1, w.2.1⟩
  unfold meP
  rw [← ea, ← eb]
  constructor
  · rintro ⟨k, k1, k2, h⟩
    obtain ⟨d1, d2⟩ := ke k k1 k2
    exact ⟨k, k1, k2, by rw [← d1, ← d2]; exact h⟩
  · rintro ⟨k, k1, k2, h⟩
    obtain ⟨d1, d2⟩ := ke k k1 k2
    exact ⟨k, k1, k2, by rw [d1, d2]; exact h⟩
/-- thing number i of the view t meets another between two steps -/
def anyM (t : TV) (v : Nat → TV) (sz : Nat) (i lo hi ne : Int) : Prop := ∃ u : Nat, u < sz ∧ i ≠ (u : Int) ∧ (v u).2.2.2.1.toInt = 0 ∧ meP t (v u) lo hi ne
theorem any_split {t : TV} {v : Nat → TV} {sz : Nat} {i s hi ne : Int} (ok1 : tvOK t) (ok2 : ∀ u : Nat, u < sz → tvOK (v u)) (hs : s ≤ hi) : anyM t v sz i 0 hi ne ↔ anyM t v sz i 0 s ne ∨ anyM t v sz i s hi ne := by
  constructor
  · rintro ⟨u, h1, h2, h3, h4⟩
    rcases (me_split ok1 (ok2 u h1) hs).mp h4 with z | z
    · exact Or.inl ⟨u, h1, h2, h3, z⟩
    · exact Or.inr ⟨u, h1, h2, h3, z⟩
  · rintro (⟨u, h1, h2, h3, h4⟩ | ⟨u, h1, h2, h3, h4⟩)
    · exact ⟨u, h1, h2, h3, (me_split ok1 (ok2 u h1) hs).mpr (Or.inl h4)⟩
    · exact ⟨u, h1, h2, h3, (me_split ok1 (ok2 u h1) hs).mpr (Or.inr h4)⟩
theorem any_none {t : TV} {v : Nat → TV} {sz : Nat} {i hi ne : Int} (h : hi < t.1.toInt) : ¬ anyM t v sz i 0 hi ne := by
  rintro ⟨u, -, -, -, k, k1, k2, -⟩
  have q1 : max 0 (max t.1.toInt (v u).1.toInt) ≤ k := k1
  have q2 : k ≤ min hi (min (t.1.toInt + t.2.1.toInt - 1) ((v u).1.toInt + (v u).2.1.toInt - 1)) := k2
  omega
theorem any_tr {t m : TV} {v : Nat → TV} {sz : Nat} {i lo hi ne : Int} (h : teq t m) : anyM t v sz i lo hi ne ↔ anyM m v sz i lo hi ne := by
  have r : ∀ x : TV, teq x x := fun x => ⟨rfl, rfl, rfl, rfl, fun _ _ _ _ _ _ => rfl⟩
  constructor
  · rintro ⟨u, h1, h2, h3, h4⟩
    exact ⟨u, h1, h2, h3, (me_tr h (r _) lo hi ne).mp h4⟩
  · rintro ⟨u, h1, h2, h3, h4⟩
    exact ⟨u, h1, h2, h3, (me_tr h (r _) lo hi ne).mpr h4⟩
theorem mo_none {t : TV} {v : Nat → TV} {sz : Nat} {i ne : Int} (hg : t.2.2.2.1.toInt = 0) : cnC (mo t v ne i) sz = 0 ↔ ¬ anyM t v sz i 0 39 ne := by
  have key : ∀ n : Nat, cnC (mo t v ne i) n = 0 ↔ ∀ u : Nat, u < n → ¬ mo t v ne i u := by
    intro n
    induction n with
    | zero => exact ⟨fun _ u hu => absurd hu (by omega), fun _ => rfl⟩
    | succ n ih =>
      by_cases q : mo t v ne i n
      · rw [cnC_1 q]
        exact ⟨fun h => absurd h (by omega), fun h => absurd q (h n (by omega))⟩
      · rw [cnC_0 q, ih]
        constructor
        · intro h u hu
          rcases (show u < n ∨ u = n by omega) with z | z
          · exact h u z
          · subst z; exact q
        · intro h u hu
          exact h u (by omega)
  rw [key]
  constructor
  · rintro h ⟨u, h1, h2, h3, h4⟩
    exact h u h1 (mo_mk h2 hg h3 h4)
  · intro h u hu z
    exact h ⟨u, hu, z.1, z.2.2.1, z.2.2.2⟩
/-- a burned path is the old one up to its step -/
theorem bDo_old {t : TV} {st a b c : Int32} {s j : Int} (h1 : t.1.toInt ≤ s) (h2 : s ≤ st.toInt) (j0 : 0 ≤ j) (j3 : j < 3) : xg (bDo t st a b c).1 (bDo t st a b c).2.2.2.2 s j = xg t.1 t.2.2.2.2 s j := by
  show (mvK t.2.2.2.2 (dfQ t st) a b c (dfN t st) (ixi t.1.toInt s j)).toInt = (t.2.2.2.2 (ixi t.1.toInt s j)).toInt
  rw [mvK_off _ _ _ _ _ _ _ (Or.inl (by unfold ixi dfQ; omega))]
/-- free of meetings, as the class asks it: up to the step, and behind it -/
theorem fr_iff {t : TV} {v : Nat → TV} {sz : Nat} {i ne : Int} {st a b c : Int32} (ok1 : tvOK (bDo t st a b c)) (ok2 : ∀ u : Nat, u < sz → tvOK (v u)) (h39 : st.toInt ≤ 39) : ¬ anyM (bDo t st a b c) v sz i 0 39 ne ↔ ¬ anyM t v sz i 0 st.toInt ne ∧ ¬ anyM (bDo t st a b c) v sz i st.toInt 39 ne := by
  have e : anyM (bDo t st a b c) v sz i 0 st.toInt ne ↔ anyM t v sz i 0 st.toInt ne := by
    constructor
    · rintro ⟨u, h1, h2, h3, h4⟩
      exact ⟨u, h1, h2, h3, (me_upto (t := bDo t st a b c) (m := t) rfl rfl (fun s j s1 _ s3 j0 j3 => bDo_old s1 s3 j0 j3)).mp h4⟩
    · rintro ⟨u, h1, h2, h3, h4⟩
      exact ⟨u, h1, h2, h3, (me_upto (t := bDo t st a b c) (m := t) rfl rfl (fun s j s1 _ s3 j0 j3 => bDo_old s1 s3 j0 j3)).mpr h4⟩
  rw [any_split ok1 ok2 h39, e]
  constructor
  · intro h; exact ⟨fun z => h (Or.inl z), fun z => h (Or.inr z)⟩
  · rintro ⟨h1, h2⟩ (z | z)
    · exact h1 z
    · exact h2 z
/-- the burns by their numbers -/
def nA (k : Nat) : Int := (k / 25 : Nat) - 2
def nB (k : Nat) : Int := (k / 5 % 5 : Nat) - 2
def nC (k : Nat) : Int := (k % 5 : Nat) - 2
def nF (k : Nat) : Int := (nA k).natAbs + (nB k).natAbs + (nC k).natAbs
theorem n_rg {k : Nat} (h : k < 125) : (-2 ≤ nA k ∧ nA k ≤ 2) ∧ (-2 ≤ nB k ∧ nB k ≤ 2) ∧ (-2 ≤ nC k ∧ nC k ≤ 2) ∧ 0 ≤ nF k ∧ nF k ≤ 6 := by
  unfold nF nA nB nC
  omega
/-- the best of the burns with F: the least fuel, the latest step, the least number -/
def bsW (F : Int → Nat → Prop) (D : Int → Nat → Prop) (s : Int) (k : Nat) : Prop := D s k ∧ 0 < nF k ∧ F s k ∧ ∀ (s' : Int) (k' : Nat), D s' k' → 0 < nF k' → F s' k' → nF k < nF k' ∨ (nF k = nF k' ∧ (s' < s ∨ (s' = s ∧ k ≤ k')))
def bsP (F : Int → Nat → Prop) (D : Int → Nat → Prop) (f s a b c : Int) : Prop := (∃ k : Nat, bsW F D s k ∧ f = nF k ∧ a = nA k ∧ b = nB k ∧ c = nC k) ∨ ((∀ (s' : Int) (k' : Nat), D s' k' → 0 < nF k' → ¬ F s' k') ∧ f = -1 ∧ s = -1 ∧ a = 0 ∧ b = 0 ∧ c = 0)
theorem bs_one {F D : Int → Nat → Prop} {f s a b c f' s' a' b' c' : Int} (h : bsP F D f s a b c) (h' : bsP F D f' s' a' b' c') : f = f' ∧ s = s' ∧ a = a' ∧ b = b' ∧ c = c' := by
  rcases h with ⟨k, ⟨w1, w2, w3, w4⟩, rfl, rfl, rfl, rfl⟩ | ⟨n, rfl, rfl, rfl, rfl, rfl⟩
  · rcases h' with ⟨k', ⟨x1, x2, x3, x4⟩, rfl, rfl, rfl, rfl⟩ | ⟨n', -⟩
    · have y1 := w4 s' k' x1 x2 x3
      have y2 := x4 s k w1 w2 w3
      have ek : k = k' := by omega
      have es : s = s' := by omega
      subst ek; subst es
      exact ⟨rfl, rfl, rfl, rfl, rfl⟩
    · exact absurd w3 (n' s k w1 w2)
  · rcases h' with ⟨k', ⟨x1, x2, x3, x4⟩, -⟩ | ⟨-, rfl, rfl, rfl, rfl, rfl⟩
    · exact absurd x3 (n s' k' x1 x2)
    · exact ⟨rfl, rfl, rfl, rfl, rfl⟩
theorem bs_tr {F G D : Int → Nat → Prop} (e : ∀ (s : Int) (k : Nat), D s k → 0 < nF k → (F s k ↔ G s k)) {f s a b c : Int} (h : bsP F D f s a b c) : bsP G D f s a b c := by
  rcases h with ⟨k, ⟨w1, w2, w3, w4⟩, r⟩ | ⟨n, r⟩
  · exact Or.inl ⟨k, ⟨w1, w2, (e s k w1 w2).mp w3, fun s' k' d p g => w4 s' k' d p ((e s' k' d p).mpr g)⟩, r⟩
  · exact Or.inr ⟨fun s' k' d p g => n s' k' d p ((e s' k' d p).mpr g), r⟩
theorem idiv_I {x y : Int32} (hx : 0 ≤ x.toInt) (hy : 0 < y.toInt) : (x / y).toInt = x.toInt / y.toInt := by
  have d : x.toInt.tdiv y.toInt = x.toInt / y.toInt := Int.tdiv_eq_ediv_of_nonneg hx
  have l1 : 0 ≤ x.toInt / y.toInt := Int.ediv_nonneg hx (by omega)
  have l2 : x.toInt / y.toInt ≤ x.toInt := Int.ediv_le_self _ hx
  have r := fb_rng x
  rw [Int32.toInt_div, d, Int.bmod_eq_of_le (by omega) (by omega)]
theorem irem_I {x y : Int32} (hx : 0 ≤ x.toInt) (hy : 0 < y.toInt) : (x - x / y * y).toInt = x.toInt % y.toInt := by
  have e : (x - x / y * y).toInt = (x.toInt - x.toInt.tdiv y.toInt * y.toInt).bmod (2 ^ 32) := by
    simp [Int32.toInt_sub, Int32.toInt_mul, Int32.toInt_div]
  have d : x.toInt - x.toInt.tdiv y.toInt * y.toInt = x.toInt.tmod y.toInt := by
    rw [Int.tmod_def, Int.mul_comm]
  have m : x.toInt.tmod y.toInt = x.toInt % y.toInt := Int.tmod_eq_emod_of_nonneg hx
  have l1 := Int.emod_nonneg x.toInt (b := y.toInt) (by omega)
  have l2 := Int.emod_lt_of_pos x.toInt hy
  have r := fb_rng y
  rw [e, d, m, Int.bmod_eq_of_le (by omega) (by omega)]
theorem any_mono {t : TV} {v : Nat → TV} {sz : Nat} {i s hi ne : Int} (ok1 : tvOK t) (ok2 : ∀ u : Nat, u < sz → tvOK (v u)) (hs : s ≤ hi) (h : anyM t v sz i 0 s ne) : anyM t v sz i 0 hi ne := (any_split ok1 ok2 hs).mpr (Or.inl h)
theorem lc_mk {t : TV} {v : Nat → TV} {sz : Nat} {i c ne : Int} (ok1 : tvOK t) (ok2 : ∀ u : Nat, u < sz → tvOK (v u)) (h1 : ¬ anyM t v sz i 0 c ne) (h2 : c = t.1.toInt + t.2.1.toInt - 1 ∨ anyM t v sz i 0 (c + 1) ne) : ∀ s : Int, t.1.toInt ≤ s → s < t.1.toInt + t.2.1.toInt → (s ≤ c ↔ ¬ anyM t v sz i 0 s ne) := fun s s1 s2 => by
  constructor
  · intro q z
    exact h1 (any_mono ok1 ok2 q z)
  · intro z
    rcases h2 with e | e
    · omega
    · rcases Int.lt_or_le c s with y | y
      · exact absurd (any_mono ok1 ok2 (by omega) e) z
      · exact y
theorem bDo_ok {t : TV} {st a b c : Int32} (ok : tvOK t) (hs : bSt t st a b c) : tvOK (bDo t st a b c) := ⟨ok.1, ok.2.1, ok.2.2.1, cOK_mv ok.2.2.2.1 hs, ok.2.2.2.2⟩
theorem tr_teq {fi pl pl9 db go st a b c : Int32} {tg g1 : Nat → Int32} {q n Q m : Nat} (e9 : pl9.toInt = pl.toInt) (hq : q = 0) (hn : (n : Int) = pl.toInt) (hQ : Q = dfQ (fi, pl, db, go, g1) st) (hm : m = dfN (fi, pl, db, go, g1) st) (hs0 : fi.toInt ≤ st.toInt) (hs1 : st.toInt < fi.toInt + pl.toInt) : teq (fi, pl9, db, go, mvK (cpK tg g1 q n) Q a b c m) (bDo (fi, pl, db, go, g1) st a b c) := by
  subst hq; subst hQ; subst hm
  have ep : pl9 = pl := Int32.toInt_inj.mp e9
  subst ep
  refine ⟨rfl, rfl, rfl, rfl, fun s j s1 s2 j0 j3 => ?_⟩
  have s1' : fi.toInt ≤ s := s1
  have s2' : s < fi.toInt + pl9.toInt := s2
  show (mvK (cpK tg g1 0 n) _ a b c _ (ixi fi.toInt s j)).toInt = (mvK g1 _ a b c _ (ixi fi.toInt s j)).toInt
  have e := mv_row (g := cpK tg g1 0 n) (Sp := g1) (b := 0) (q := dfQ (fi, pl9, db, go, g1) st) (n := dfN (fi, pl9, db, go, g1) st) (x := a) (y := b) (z := c) (m := 3 * n) (fun k hk => cpK_in tg g1 0 n k hk) (by unfold dfQ dfN; show (3 * (st.toInt + 1 - fi.toInt)).toNat + 3 * (fi.toInt + pl9.toInt - 1 - st.toInt).toNat ≤ 3 * n; omega) (ixi fi.toInt s j) (by unfold ixi; omega)
  rw [Nat.zero_add, Nat.zero_add] at e
  rw [e]
/-- the burn number k at step s is free -/
def frK (t : TV) (v : Nat → TV) (sz : Nat) (i ne s : Int) (k : Nat) : Prop := bSt t (Int32.ofInt s) (Int32.ofInt (nA k)) (Int32.ofInt (nB k)) (Int32.ofInt (nC k)) ∧ ¬ anyM (bDo t (Int32.ofInt s) (Int32.ofInt (nA k)) (Int32.ofInt (nB k)) (Int32.ofInt (nC k))) v sz i 0 39 ne
def dmK (lo hi s : Int) (k : Nat) : Prop := lo ≤ s ∧ s < hi ∧ k < 125
theorem ofI {x : Int32} {z : Int} (h : x.toInt = z) : Int32.ofInt z = x := by rw [← h]; exact Int32.ofInt_toInt x
theorem fr_mk {t : TV} {v : Nat → TV} {sz : Nat} {i ne s : Int} {k : Nat} {st a b c : Int32} (ok1 : tvOK t) (ok2 : ∀ u : Nat, u < sz → tvOK (v u)) (es : st.toInt = s) (ea : a.toInt = nA k) (eb : b.toInt = nB k) (ec : c.toInt = nC k) (h39 : s ≤ 39) : frK t v sz i ne s k ↔ bSt t st a b c ∧ ¬ anyM t v sz i 0 s ne ∧ ¬ anyM (bDo t st a b c) v sz i s 39 ne := by
  unfold frK
  rw [ofI es, ofI ea, ofI eb, ofI ec]
  subst es
  constructor
  · rintro ⟨h1, h2⟩
    exact ⟨h1, (fr_iff (bDo_ok ok1 h1) ok2 h39).mp h2⟩
  · rintro ⟨h1, h2⟩
    exact ⟨h1, (fr_iff (bDo_ok ok1 h1) ok2 h39).mpr h2⟩
theorem fr_cl {t : TV} {v : Nat → TV} {sz : Nat} {i ne s : Int} {k : Nat} (ok1 : tvOK t) (ok2 : ∀ u : Nat, u < sz → tvOK (v u)) (h0 : 0 ≤ s) (h39 : s ≤ 39) (h : frK t v sz i ne s k) : ¬ anyM t v sz i 0 s ne := by
  have es : (Int32.ofInt s).toInt = s := Int32.toInt_ofInt_of_le (by omega) (by omega)
  have q := (fr_iff (bDo_ok ok1 h.1) ok2 (by rw [es]; exact h39)).mp h.2
  rw [es] at q
  exact q.1
def cb1 (F D : Int → Nat → Prop) (f : Int) : Prop := ∀ (s : Int) (k : Nat), D s k → 0 < nF k → F s k → f ≤ nF k
def cb2 (F D : Int → Nat → Prop) (f t : Int) : Prop := ∀ (s : Int) (k : Nat), D s k → 0 < nF k → F s k → f ≤ nF k ∧ (nF k = f → s ≤ t)
def cb3 (F D : Int → Nat → Prop) (f t : Int) (n : Nat) : Prop := ∀ (s : Int) (k : Nat), D s k → 0 < nF k → F s k → f ≤ nF k ∧ (nF k = f → s < t ∨ (s = t ∧ n ≤ k))
theorem cb1_0 (F D : Int → Nat → Prop) : cb1 F D 1 := fun s k _ p _ => by omega
theorem cb12 {F D : Int → Nat → Prop} {f t : Int} (h : cb1 F D f) (hl : ∀ (s : Int) (k : Nat), D s k → F s k → s ≤ t) : cb2 F D f t := fun s k d p q => ⟨h s k d p q, fun _ => hl s k d q⟩
theorem cb23 {F D : Int → Nat → Prop} {f t : Int} (h : cb2 F D f t) : cb3 F D f t 0 := fun s k d p q => ⟨(h s k d p q).1, fun e => by have := (h s k d p q).2 e; omega⟩
theorem cb33 {F D : Int → Nat → Prop} {f t : Int} {n : Nat} (h : cb3 F D f t n) (hn : nF n ≠ f ∨ ¬ F t n) : cb3 F D f t (n + 1) := fun s k d p q => ⟨(h s k d p q).1, fun e => by
  rcases (h s k d p q).2 e with z | ⟨z, y⟩
  · exact Or.inl z
  · refine Or.inr ⟨z, ?_⟩
    rcases (show n + 1 ≤ k ∨ k = n by omega) with x | x
    · exact x
    · subst x; subst z
      rcases hn with w | w
      · exact absurd e w
      · exact absurd q w⟩
theorem cb32 {F : Int → Nat → Prop} {lo hi f t : Int} {n : Nat} (hn : 125 ≤ n) (h : cb3 F (dmK lo hi) f t n) : cb2 F (dmK lo hi) f (t - 1) := fun s k d p q => ⟨(h s k d p q).1, fun e => by
  have := (h s k d p q).2 e
  have := d.2.2
  omega⟩
theorem cb21 {F : Int → Nat → Prop} {lo hi f t : Int} (ht : t < lo) (h : cb2 F (dmK lo hi) f t) : cb1 F (dmK lo hi) (f + 1) := fun s k d p q => by
  have w := h s k d p q
  have := d.1
  by_cases e : nF k = f
  · have := w.2 e; omega
  · omega
theorem cb_win {F D : Int → Nat → Prop} {f s : Int} {k : Nat} (h : cb3 F D f s k) (d : D s k) (hf : 0 < f) (e : nF k = f) (q : F s k) : bsW F D s k := ⟨d, by omega, q, fun s' k' d' p' q' => by
  have w := h s' k' d' p' q'
  by_cases z : nF k' = f
  · have := w.2 z; omega
  · omega⟩
theorem cb_none {F : Int → Nat → Prop} {lo hi : Int} (h : cb1 F (dmK lo hi) 7) : ∀ (s : Int) (k : Nat), dmK lo hi s k → 0 < nF k → ¬ F s k := fun s k d p q => by
  have := h s k d p q
  have := n_rg d.2.2
  omega
/-- the answer about the best burn -/
def beP (R B G : Prop) (F D : Int → Nat → Prop) (w r : Int) : Prop := (¬ R ∧ r = -100001) ∨ (R ∧ ¬ B ∧ r = -100002) ∨ (R ∧ B ∧ ¬ G ∧ r = -100003) ∨ (R ∧ B ∧ G ∧ ∃ f s a b c : Int, bsP F D f s a b c ∧ ((w = 0 ∧ r = f) ∨ (w = 1 ∧ r = s) ∨ (w = 2 ∧ r = a) ∨ (w = 3 ∧ r = b) ∨ (w = 4 ∧ r = c)))
theorem tr_cok {fi pl pl9 db go st a b c : Int32} {tg g1 : Nat → Int32} {q n Q m : Nat} (hco : cOK pl g1) (hst : bSt (fi, pl, db, go, g1) st a b c) (e9 : pl9.toInt = pl.toInt) (hq : q = 0) (hn : (n : Int) = pl.toInt) (hQ : Q = dfQ (fi, pl, db, go, g1) st) (hm : m = dfN (fi, pl, db, go, g1) st) (hs0 : fi.toInt ≤ st.toInt) (hs1 : st.toInt < fi.toInt + pl.toInt) : cOK pl9 (mvK (cpK tg g1 q n) Q a b c m) := by
  subst hq; subst hQ; subst hm
  refine cOK_mv (cOK_cp hco (by omega) (by omega)) ?_
  have e := st_row (g := cpK tg g1 0 n) (Sp := g1) (b := 0) (q := dfQ (fi, pl, db, go, g1) st) (n := dfN (fi, pl, db, go, g1) st) (x := a) (y := b) (z := c) (m := 3 * n) (fun k hk => cpK_in tg g1 0 n k hk) (by unfold dfQ dfN; show (3 * (st.toInt + 1 - fi.toInt)).toNat + 3 * (fi.toInt + pl.toInt - 1 - st.toInt).toNat ≤ 3 * n; omega)
  rw [Nat.zero_add] at e
  exact e.mpr hst
