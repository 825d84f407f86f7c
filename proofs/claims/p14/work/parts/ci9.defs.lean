/-- the reference's state of the least: not in least terms -/
def msP (U L Q : Int → Int) (k a b c d e : Int) : Prop := a = U k ∧ b = L k ∧ c = k ∧ d = Q k ∧ e = L k
theorem ms_mk {U L Q : Int → Int} {k kb a b c d e : Int} (hk : kb = k) (h1 : a = U k) (h2 : b = L k) (h3 : c = k) (h4 : d = Q k) (h5 : e = L k) : msP U L Q kb a b c d e := by
  subst hk; exact ⟨h1, h2, h3, h4, h5⟩
theorem fl_no {U L Q : Int → Int} {a k S u l w p d u1 l1 w1 p1 d1 : Int} (h : (k = a ∧ w < 0) ∨ (a < k ∧ msP U L Q (kbF U L a (k - a - 1).toNat) u l w p d)) (ha : 0 ≤ a) (hka : a ≤ k) (eU : U k = S) (eL : L k = 1) (eQ : Q k = 0)
    (ht : ((w < 0 ∨ S * l < u * 1) ∧ u1 = S ∧ l1 = 1 ∧ w1 = k ∧ p1 = 0 ∧ d1 = 1) ∨ (¬ (w < 0 ∨ S * l < u * 1) ∧ u1 = u ∧ l1 = l ∧ w1 = w ∧ p1 = p ∧ d1 = d)) : msP U L Q (kbF U L a (k - a).toNat) u1 l1 w1 p1 d1 := by
  rcases h with ⟨e, hw⟩ | ⟨hk, m⟩
  · rw [show (k - a).toNat = 0 by omega]
    rcases ht with ⟨-, h1, h2, h3, h4, h5⟩ | ⟨q, -⟩
    · exact ms_mk (by show a = k; omega) (h1.trans eU.symm) (h2.trans eL.symm) h3 (h4.trans eQ.symm) (h5.trans eL.symm)
    · exact absurd (Or.inl hw) q
  · obtain ⟨n, hn⟩ : ∃ n : Nat, (k - a - 1).toNat = n := ⟨_, rfl⟩
    have rg := kb_rg U L a n
    rw [hn] at m
    rw [show (k - a).toNat = n + 1 by omega]
    obtain ⟨m1, m2, m3, m4, m5⟩ := m
    rcases ht with ⟨q, h1, h2, h3, h4, h5⟩ | ⟨q, h1, h2, h3, h4, h5⟩
    · have c : S * l < u * 1 := q.resolve_left (by omega)
      exact ms_mk (kb_T (by omega) (by rw [eU, eL, ← m1, ← m2]; exact c)) (h1.trans eU.symm) (h2.trans eL.symm) h3 (h4.trans eQ.symm) (h5.trans eL.symm)
    · rw [kb_F (k := k) (by omega) (fun z => q (Or.inr (by rw [eU, eL, ← m1, ← m2] at z; exact z)))]
      exact ⟨h1.trans m1, h2.trans m2, h3.trans m3, h4.trans m4, h5.trans m5⟩
theorem fl_in {U L Q : Int → Int} {a k S T C u l w p d u1 l1 w1 p1 d1 u2 l2 w2 p2 d2 : Int} (h : (k = a ∧ w < 0) ∨ (a < k ∧ msP U L Q (kbF U L a (k - a - 1).toNat) u l w p d)) (ha : 0 ≤ a) (hka : a ≤ k) (hl : 0 < l) (hS : 0 ≤ S) (hT : T < 0) (hC : 0 < C) (eU : U k = S * C - T * T) (eL : L k = C) (eQ : Q k = -T)
    (ht : ((w < 0 ∨ S * l < u * 1) ∧ u1 = S ∧ l1 = 1 ∧ w1 = k ∧ p1 = 0 ∧ d1 = 1) ∨ (¬ (w < 0 ∨ S * l < u * 1) ∧ u1 = u ∧ l1 = l ∧ w1 = w ∧ p1 = p ∧ d1 = d))
    (ht2 : ((w1 < 0 ∨ (S * C - T * T) * l1 < u1 * C) ∧ u2 = S * C - T * T ∧ l2 = C ∧ w2 = k ∧ p2 = -T ∧ d2 = C) ∨ (¬ (w1 < 0 ∨ (S * C - T * T) * l1 < u1 * C) ∧ u2 = u1 ∧ l2 = l1 ∧ w2 = w1 ∧ p2 = p1 ∧ d2 = d1)) : msP U L Q (kbF U L a (k - a).toNat) u2 l2 w2 p2 d2 := by
  have tt : 0 < T * T := Int.mul_pos_of_neg_of_neg hT hT
  obtain ⟨X, hX⟩ : ∃ X, S * C - T * T = X := ⟨_, rfl⟩
  rw [hX] at eU ht2
  have xs : X < S * C := by omega
  have took : u1 = S → l1 = 1 → (u2 = X ∧ l2 = C ∧ w2 = k ∧ p2 = -T ∧ d2 = C) := fun e1 e2 => by
    rcases ht2 with ⟨-, h⟩ | ⟨q, -⟩
    · exact h
    · exact absurd (Or.inr (by rw [e1, e2, Int.mul_one]; exact xs)) q
  rcases h with ⟨e, hw⟩ | ⟨hk, m⟩
  · rw [show (k - a).toNat = 0 by omega]
    rcases ht with ⟨-, e1, e2, -⟩ | ⟨q, -⟩
    · obtain ⟨h1, h2, h3, h4, h5⟩ := took e1 e2
      exact ms_mk (by show a = k; omega) (h1.trans eU.symm) (h2.trans eL.symm) h3 (h4.trans eQ.symm) (h5.trans eL.symm)
    · exact absurd (Or.inl hw) q
  · obtain ⟨n, hn⟩ : ∃ n : Nat, (k - a - 1).toNat = n := ⟨_, rfl⟩
    have rg := kb_rg U L a n
    rw [hn] at m
    rw [show (k - a).toNat = n + 1 by omega]
    obtain ⟨m1, m2, m3, m4, m5⟩ := m
    rcases ht with ⟨q, e1, e2, -⟩ | ⟨q, e1, e2, e3, e4, e5⟩
    · have c : S * l < u * 1 := q.resolve_left (by omega)
      obtain ⟨h1, h2, h3, h4, h5⟩ := took e1 e2
      have c1 : X * l < S * C * l := Int.mul_lt_mul_of_pos_right xs hl
      have c2 : C * (S * l) < C * u := Int.mul_lt_mul_of_pos_left (by omega) hC
      have c3 : S * C * l = C * (S * l) := by grind
      have c4 : u * C = C * u := Int.mul_comm u C
      exact ms_mk (kb_T (by omega) (by rw [eU, eL, ← m1, ← m2]; omega)) (h1.trans eU.symm) (h2.trans eL.symm) h3 (h4.trans eQ.symm) (h5.trans eL.symm)
    · subst e1; subst e2; subst e3
      rcases ht2 with ⟨q2, h1, h2, h3, h4, h5⟩ | ⟨q2, h1, h2, h3, h4, h5⟩
      · have c : X * l1 < u1 * C := q2.resolve_left (by omega)
        exact ms_mk (kb_T (by omega) (by rw [eU, eL, ← m1, ← m2]; exact c)) (h1.trans eU.symm) (h2.trans eL.symm) h3 (h4.trans eQ.symm) (h5.trans eL.symm)
      · rw [kb_F (k := k) (by omega) (fun z => q2 (Or.inr (by rw [eU, eL, ← m1, ← m2] at z; exact z)))]
        exact ⟨h1.trans m1, h2.trans m2, h3.trans m3, (h4.trans e4).trans m4, (h5.trans e5).trans m5⟩
theorem tr_I {b1 b2 b3 b4 up lw pu pw up9 lw9 pu9 pw9 : Int64} {wh p5 wh9 : Int32} (h : ((wh.toInt < 0 ∨ b1.toInt * lw.toInt < up.toInt * b2.toInt) ∧ up9 = b1 ∧ lw9 = b2 ∧ wh9 = p5 ∧ pu9 = b3 ∧ pw9 = b4) ∨ (¬ (wh.toInt < 0 ∨ b1.toInt * lw.toInt < up.toInt * b2.toInt) ∧ up9 = up ∧ lw9 = lw ∧ wh9 = wh ∧ pu9 = pu ∧ pw9 = pw)) : ((wh.toInt < 0 ∨ b1.toInt * lw.toInt < up.toInt * b2.toInt) ∧ up9.toInt = b1.toInt ∧ lw9.toInt = b2.toInt ∧ wh9.toInt = p5.toInt ∧ pu9.toInt = b3.toInt ∧ pw9.toInt = b4.toInt) ∨ (¬ (wh.toInt < 0 ∨ b1.toInt * lw.toInt < up.toInt * b2.toInt) ∧ up9.toInt = up.toInt ∧ lw9.toInt = lw.toInt ∧ wh9.toInt = wh.toInt ∧ pu9.toInt = pu.toInt ∧ pw9.toInt = pw.toInt) := by
  rcases h with ⟨q, rfl, rfl, rfl, rfl, rfl⟩ | ⟨q, rfl, rfl, rfl, rfl, rfl⟩
  · exact Or.inl ⟨q, rfl, rfl, rfl, rfl, rfl⟩
  · exact Or.inr ⟨q, rfl, rfl, rfl, rfl, rfl⟩
