def aK (t1 t2 : TV) (lo : Int) : Int := max lo (max t1.1.toInt t2.1.toInt)
def bK (t1 t2 : TV) (hi : Int) : Int := min hi (min (t1.1.toInt + t1.2.1.toInt - 1) (t2.1.toInt + t2.2.1.toInt - 1))
/-- two paths come nearer than ne, in what they share of the steps lo to hi -/
def meP (t1 t2 : TV) (lo hi ne : Int) : Prop := ∃ k : Int, aK t1 t2 lo ≤ k ∧ k ≤ bK t1 t2 hi ∧ uK t1.1 t1.2.2.2.2 t2.1 t2.2.2.2.2 (bK t1 t2 hi) k < ne * ne * lK t1.1 t1.2.2.2.2 t2.1 t2.2.2.2.2 (bK t1 t2 hi) k
theorem me_mk {f1 p1 d1 o1 f2 p2 d2 o2 : Int32} {g1 g2 : Nat → Int32} {lo hi ne a b k : Int} (ha : a = max lo (max f1.toInt f2.toInt)) (hb : b = min hi (min (f1.toInt + p1.toInt - 1) (f2.toInt + p2.toInt - 1))) (h1 : a ≤ k) (h2 : k ≤ b) (h : uK f1 g1 f2 g2 b k < ne * ne * lK f1 g1 f2 g2 b k) : meP (f1, p1, d1, o1, g1) (f2, p2, d2, o2, g2) lo hi ne := by
  subst ha; subst hb
  exact ⟨k, h1, h2, h⟩
theorem me_no {f1 p1 d1 o1 f2 p2 d2 o2 : Int32} {g1 g2 : Nat → Int32} {lo hi ne a b c : Int} (ha : a = max lo (max f1.toInt f2.toInt)) (hb : b = min hi (min (f1.toInt + p1.toInt - 1) (f2.toInt + p2.toInt - 1))) (h : ∀ k : Int, a ≤ k → k < c → ¬ uK f1 g1 f2 g2 b k < ne * ne * lK f1 g1 f2 g2 b k) (hc : b < c) : ¬ meP (f1, p1, d1, o1, g1) (f2, p2, d2, o2, g2) lo hi ne := by
  subst ha; subst hb
  rintro ⟨k, h1, h2, h3⟩
  exact h k h1 (Int.lt_of_le_of_lt h2 hc) h3
theorem me_tr {t1 t2 m1 m2 : TV} (h1 : teq t1 m1) (h2 : teq t2 m2) (lo hi ne : Int) : meP t1 t2 lo hi ne ↔ meP m1 m2 lo hi ne := by
  have ea : aK t1 t2 lo = aK m1 m2 lo := by unfold aK; rw [h1.1, h2.1]
  have eb : bK t1 t2 hi = bK m1 m2 hi := by unfold bK; rw [h1.1, h2.1, h1.2.1, h2.2.1]
  have ke : ∀ k : Int, aK t1 t2 lo ≤ k → k ≤ bK t1 t2 hi → uK t1.1 t1.2.2.2.2 t2.1 t2.2.2.2.2 (bK t1 t2 hi) k = uK m1.1 m1.2.2.2.2 m2.1 m2.2.2.2.2 (bK t1 t2 hi) k ∧ lK t1.1 t1.2.2.2.2 t2.1 t2.2.2.2.2 (bK t1 t2 hi) k = lK m1.1 m1.2.2.2.2 m2.1 m2.2.2.2.2 (bK t1 t2 hi) k := fun k k1 k2 => by
    have q1 : max lo (max t1.1.toInt t2.1.toInt) ≤ k := k1
    have q2 : bK t1 t2 hi = min hi (min (t1.1.toInt + t1.2.1.toInt - 1) (t2.1.toInt + t2.2.1.toInt - 1)) := rfl
    obtain ⟨d1, d2, -⟩ := K_eq h1 h2 (b := bK t1 t2 hi) (k := k) (by omega) (by omega) k2 (by omega) (by omega)
    exact ⟨d1, d2⟩
  unfold meP
  rw [← ea, ← eb]
  constructor
  · rintro ⟨k, k1, k2, h⟩
    obtain ⟨d1, d2⟩ := ke k k1 k2
    exact ⟨k, k1, k2, by rw [← d1, ← d2]; exact h⟩
  · rintro ⟨k, k1, k2, h⟩
    obtain ⟨d1, d2⟩ := ke k k1 k2
    exact ⟨k, k1, k2, by rw [d1, d2]; exact h⟩
/-- the least one is below, or none is -/
theorem kb_min {U L : Int → Int} {a : Int} : ∀ n : Nat, (∀ k : Int, a ≤ k → k ≤ a + n → 0 < L k) → ∀ k : Int, a ≤ k → k ≤ a + n → U (kbF U L a n) * L k ≤ U k * L (kbF U L a n)
  | 0, _, k, k1, k2 => by
    have e : k = a := by omega
    subst e
    exact Int.le_refl _
  | n + 1, hL, k, k1, k2 => by
    have ih := kb_min (U := U) (L := L) (a := a) n (fun k h1 h2 => hL k h1 (by omega))
    have rg := kb_rg U L a n
    obtain ⟨c, hc⟩ : ∃ c, kbF U L a n = c := ⟨_, rfl⟩
    rw [hc] at ih rg
    have lc := hL c rg.1 (by omega)
    have ln := hL (a + n + 1) (by omega) (by omega)
    have lk := hL k k1 k2
    by_cases z : U (a + n + 1) * L c < U c * L (a + n + 1)
    · have e : kbF U L a (n + 1) = a + n + 1 := kb_T (by omega) (by rw [hc]; exact z)
      rw [e]
      rcases (show k ≤ a + n ∨ k = a + n + 1 by omega) with q | q
      · have i1 := ih k k1 q
        have m1 : U (a + n + 1) * L c * L k ≤ U c * L (a + n + 1) * L k := Int.mul_le_mul_of_nonneg_right (by omega) (by omega)
        have m2 : U c * L k * L (a + n + 1) ≤ U k * L c * L (a + n + 1) := Int.mul_le_mul_of_nonneg_right i1 (by omega)
        have m3 : U c * L (a + n + 1) * L k = U c * L k * L (a + n + 1) := by grind
        have m4 : (U (a + n + 1) * L k) * L c ≤ (U k * L (a + n + 1)) * L c := by
          have m5 : (U (a + n + 1) * L k) * L c = U (a + n + 1) * L c * L k := by grind
          have m6 : (U k * L (a + n + 1)) * L c = U k * L c * L (a + n + 1) := by grind
          omega
        exact Int.le_of_mul_le_mul_right m4 lc
      · subst q; exact Int.le_refl _
    · have e : kbF U L a (n + 1) = c := (kb_F (k := a + n + 1) (by omega) (by rw [hc]; exact z)).trans hc
      rw [e]
      rcases (show k ≤ a + n ∨ k = a + n + 1 by omega) with q | q
      · exact ih k k1 q
      · subst q; omega
theorem kb_lt {U L : Int → Int} {a N : Int} {n : Nat} (hL : ∀ k : Int, a ≤ k → k ≤ a + n → 0 < L k) {k : Int} (k1 : a ≤ k) (k2 : k ≤ a + n) (h : U k < N * L k) : U (kbF U L a n) < N * L (kbF U L a n) := by
  have q := kb_min (U := U) n hL k k1 k2
  have rg := kb_rg U L a n
  obtain ⟨c, hc⟩ : ∃ c, kbF U L a n = c := ⟨_, rfl⟩
  rw [hc] at q rg ⊢
  have lc := hL c rg.1 rg.2
  have lk := hL k k1 k2
  have m1 : U k * L c < N * L k * L c := Int.mul_lt_mul_of_pos_right h lc
  have m2 : U c * L k < (N * L c) * L k := by
    have m3 : N * L k * L c = N * L c * L k := by grind
    omega
  exact Int.lt_of_mul_lt_mul_right m2 (by omega)
/-- meeting of two things of a catalogue -/
def mtM (v : Nat → TV) (ne : Int) (t u : Nat) : Prop := (v t).2.2.2.1.toInt = 0 ∧ (v u).2.2.2.1.toInt = 0 ∧ meP (v t) (v u) 0 39 ne
noncomputable def cnC (P : Nat → Prop) : Nat → Nat
  | 0 => 0
  | n + 1 => cnC P n + @ite Nat (P n) (Classical.propDecidable (P n)) 1 0
theorem cnC_1 {P : Nat → Prop} {n : Nat} (h : P n) : cnC P (n + 1) = cnC P n + 1 := by
  show cnC P n + @ite Nat (P n) (Classical.propDecidable (P n)) 1 0 = _
  rw [if_pos h]
theorem cnC_0 {P : Nat → Prop} {n : Nat} (h : ¬ P n) : cnC P (n + 1) = cnC P n := by
  show cnC P n + @ite Nat (P n) (Classical.propDecidable (P n)) 1 0 = _
  rw [if_neg h, Nat.add_zero]
theorem cnC_le (P : Nat → Prop) : ∀ n : Nat, cnC P n ≤ n
  | 0 => Nat.le_refl 0
  | n + 1 => by
    have := cnC_le P n
    by_cases h : P n
    · rw [cnC_1 h]; omega
    · rw [cnC_0 h]; omega
theorem mt_mk {v : Nat → TV} {ne : Int} {t u : Nat} (h1 : (v t).2.2.2.1.toInt = 0) (h2 : (v u).2.2.2.1.toInt = 0) (h3 : meP (v t) (v u) 0 39 ne) : mtM v ne t u := by
  unfold mtM
  exact ⟨h1, h2, h3⟩
/-- what thing number i of the view t meets -/
def mo (t : TV) (v : Nat → TV) (ne i : Int) (u : Nat) : Prop := i ≠ (u : Int) ∧ t.2.2.2.1.toInt = 0 ∧ (v u).2.2.2.1.toInt = 0 ∧ meP t (v u) 0 39 ne
theorem mo_mk {t : TV} {v : Nat → TV} {ne i : Int} {u : Nat} (h0 : i ≠ (u : Int)) (h1 : t.2.2.2.1.toInt = 0) (h2 : (v u).2.2.2.1.toInt = 0) (h3 : meP t (v u) 0 39 ne) : mo t v ne i u := by
  unfold mo
  exact ⟨h0, h1, h2, h3⟩
/-- the state of the least of two, at the steps that they share -/
def msQ (t1 t2 : TV) (up lw wh pu pw : Int) : Prop := msP (uK t1.1 t1.2.2.2.2 t2.1 t2.2.2.2.2 (bK t1 t2 39)) (lK t1.1 t1.2.2.2.2 t2.1 t2.2.2.2.2 (bK t1 t2 39)) (qK t1.1 t1.2.2.2.2 t2.1 t2.2.2.2.2 (bK t1 t2 39)) (kbF (uK t1.1 t1.2.2.2.2 t2.1 t2.2.2.2.2 (bK t1 t2 39)) (lK t1.1 t1.2.2.2.2 t2.1 t2.2.2.2.2 (bK t1 t2 39)) (aK t1 t2 0) (bK t1 t2 39 - aK t1 t2 0).toNat) up lw wh pu pw
theorem im_mk {t1 t2 : TV} {fr to ne up lw wh pu pw : Int} (hct : cOK t1.2.1 t1.2.2.2.2) (hcu : cOK t2.2.1 t2.2.2.2.2) (hf : t1.1.toInt ≤ fr ∧ t2.1.toInt ≤ fr ∧ (fr = t1.1.toInt ∨ fr = t2.1.toInt)) (ht : to < t1.1.toInt + t1.2.1.toInt ∧ to < t2.1.toInt + t2.2.1.toInt ∧ (to = t1.1.toInt + t1.2.1.toInt - 1 ∨ to = t2.1.toInt + t2.2.1.toInt - 1)) (h0 : 0 ≤ t1.1.toInt) (h1 : 0 ≤ t2.1.toInt) (h2 : t1.1.toInt + t1.2.1.toInt ≤ 40) (h3 : t2.1.toInt + t2.2.1.toInt ≤ 40) (hab : fr ≤ to)
    (hm : msP (uK t1.1 t1.2.2.2.2 t2.1 t2.2.2.2.2 to) (lK t1.1 t1.2.2.2.2 t2.1 t2.2.2.2.2 to) (qK t1.1 t1.2.2.2.2 t2.1 t2.2.2.2.2 to) (kbF (uK t1.1 t1.2.2.2.2 t2.1 t2.2.2.2.2 to) (lK t1.1 t1.2.2.2.2 t2.1 t2.2.2.2.2 to) fr (to - fr).toNat) up lw wh pu pw) :
    msQ t1 t2 up lw wh pu pw ∧ (1 ≤ lw ∧ lw ≤ 1200000000 ∧ 0 ≤ up ∧ 0 ≤ wh) ∧ (up < ne * ne * lw ↔ meP t1 t2 0 39 ne) := by
  have ea : fr = aK t1 t2 0 := by show _ = max 0 (max t1.1.toInt t2.1.toInt); omega
  have eb : to = bK t1 t2 39 := by show _ = min 39 (min (t1.1.toInt + t1.2.1.toInt - 1) (t2.1.toInt + t2.2.1.toInt - 1)); omega
  have hm2 := hm
  rw [ea, eb] at hm2
  refine ⟨hm2, ?_⟩
  obtain ⟨kb, hkb⟩ : ∃ kb, kbF (uK t1.1 t1.2.2.2.2 t2.1 t2.2.2.2.2 to) (lK t1.1 t1.2.2.2.2 t2.1 t2.2.2.2.2 to) fr (to - fr).toNat = kb := ⟨_, rfl⟩
  have rg := kb_rg (uK t1.1 t1.2.2.2.2 t2.1 t2.2.2.2.2 to) (lK t1.1 t1.2.2.2.2 t2.1 t2.2.2.2.2 to) fr (to - fr).toNat
  have bd := fun k (k1 : fr ≤ k) (k2 : k ≤ to) => K_bd (f1 := t1.1) (f2 := t2.1) (k := k) (b := to) hct hcu (by omega) (by omega) k2 (by omega) (by omega)
  have lt := fun k (N : Int) (k1 : fr ≤ k) (k2 : k ≤ to) (h : uK t1.1 t1.2.2.2.2 t2.1 t2.2.2.2.2 to k < N * lK t1.1 t1.2.2.2.2 t2.1 t2.2.2.2.2 to k) => kb_lt (U := uK t1.1 t1.2.2.2.2 t2.1 t2.2.2.2.2 to) (L := lK t1.1 t1.2.2.2.2 t2.1 t2.2.2.2.2 to) (a := fr) (n := (to - fr).toNat) (N := N) (fun k q1 q2 => by have := (bd k q1 (by omega)).2.1.1; omega) k1 (by omega) h
  rw [hkb] at hm rg lt
  obtain ⟨b1, b2, b3⟩ := bd kb (by omega) (by omega)
  obtain ⟨m1, m2, m3, -⟩ := hm
  refine ⟨⟨by omega, by omega, by omega, by omega⟩, ?_⟩
  rw [m1, m2]
  constructor
  · intro h
    refine ⟨kb, ?_, ?_, ?_⟩
    · rw [← ea]; omega
    · rw [← eb]; omega
    · rw [← eb]; exact h
  · rintro ⟨k, k1, k2, h⟩
    rw [← ea] at k1
    rw [← eb] at k2 h
    exact lt k _ k1 k2 h
