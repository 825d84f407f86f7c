/-- two views that agree wherever a place is -/
def teq (t m : TV) : Prop := t.1 = m.1 ∧ t.2.1 = m.2.1 ∧ t.2.2.1 = m.2.2.1 ∧ t.2.2.2.1 = m.2.2.2.1 ∧ ∀ s j : Int, t.1.toInt ≤ s → s < t.1.toInt + t.2.1.toInt → 0 ≤ j → j < 3 → xg t.1 t.2.2.2.2 s j = xg m.1 m.2.2.2.2 s j
theorem cp_teq {sz th : Int32} {v : Nat → TV} {Fi Ma Db Go Sp : Nat → Int32} (hc : cpT sz th v Fi Ma Db Go Sp) {i : Nat} (hi : (i : Int) < sz.toInt) : teq (v i) (mTV Fi Ma Db Go Sp i) := by
  obtain ⟨h1, h2, h3, h4, h5⟩ := hc.2 i hi
  refine ⟨h1, h2, h3, h4, fun s j s1 s2 j1 j2 => ?_⟩
  show ((v i).2.2.2.2 (ixi (v i).1.toInt s j)).toInt = (Sp (36 * i + ixi (Fi i).toInt s j)).toInt
  rw [h5 _ (by unfold ixi; omega), h1]
theorem wD_eq {a b a' b' : Int → Int} (ha : ∀ j : Int, 0 ≤ j → j < 3 → a j = a' j) (hb : ∀ j : Int, 0 ≤ j → j < 3 → b j = b' j) : wD a b = wD a' b' := by
  rw [wD_3, wD_3, ha 0 (by omega) (by omega), ha 1 (by omega) (by omega), ha 2 (by omega) (by omega), hb 0 (by omega) (by omega), hb 1 (by omega) (by omega), hb 2 (by omega) (by omega)]
theorem w_eq {a b a' b' : Int → Int} (ha : ∀ j : Int, 0 ≤ j → j < 3 → a j = a' j) (hb : ∀ j : Int, 0 ≤ j → j < 3 → b j = b' j) : wU a b = wU a' b' ∧ wL a b = wL a' b' ∧ wP a b = wP a' b' := by
  unfold wU wL wP wIn
  rw [wD_eq ha ha, wD_eq ha hb, wD_eq hb hb]
  exact ⟨rfl, rfl, rfl⟩
theorem gA_eq {t1 t2 m1 m2 : TV} (h1 : teq t1 m1) (h2 : teq t2 m2) {k : Int} (a1 : t1.1.toInt ≤ k) (b1 : t2.1.toInt ≤ k) (a2 : k < t1.1.toInt + t1.2.1.toInt) (b2 : k < t2.1.toInt + t2.2.1.toInt) : ∀ j : Int, 0 ≤ j → j < 3 → gA t1.1 t1.2.2.2.2 t2.1 t2.2.2.2.2 k j = gA m1.1 m1.2.2.2.2 m2.1 m2.2.2.2.2 k j := fun j j0 j3 => by
  show xg _ _ _ _ - xg _ _ _ _ = xg _ _ _ _ - xg _ _ _ _
  rw [h1.2.2.2.2 k j a1 a2 j0 j3, h2.2.2.2.2 k j b1 b2 j0 j3]
theorem K_eq {t1 t2 m1 m2 : TV} (h1 : teq t1 m1) (h2 : teq t2 m2) {b k : Int} (a1 : t1.1.toInt ≤ k) (b1 : t2.1.toInt ≤ k) (hk : k ≤ b) (a2 : b < t1.1.toInt + t1.2.1.toInt) (b2 : b < t2.1.toInt + t2.2.1.toInt) : uK t1.1 t1.2.2.2.2 t2.1 t2.2.2.2.2 b k = uK m1.1 m1.2.2.2.2 m2.1 m2.2.2.2.2 b k ∧ lK t1.1 t1.2.2.2.2 t2.1 t2.2.2.2.2 b k = lK m1.1 m1.2.2.2.2 m2.1 m2.2.2.2.2 b k ∧ qK t1.1 t1.2.2.2.2 t2.1 t2.2.2.2.2 b k = qK m1.1 m1.2.2.2.2 m2.1 m2.2.2.2.2 b k := by
  have e1 := gA_eq h1 h2 (k := k) a1 b1 (by omega) (by omega)
  refine w_eq e1 (fun j j0 j3 => ?_)
  show (if k < b then _ - _ else (0 : Int)) = (if k < b then _ - _ else (0 : Int))
  by_cases z : k < b
  · rw [if_pos z, if_pos z, e1 j j0 j3, gA_eq h1 h2 (k := k + 1) (by omega) (by omega) (by omega) (by omega) j j0 j3]
  · rw [if_neg z, if_neg z]
