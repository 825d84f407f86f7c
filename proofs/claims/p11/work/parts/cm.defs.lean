/-- two views that agree wherever a place is -/
def teq (t m : TV) : Prop := t.1 = m.1 ∧ t.2.1 = m.2.1 ∧ t.2.2.1 = m.2.2.1 ∧ t.2.2.2.1 = m.2.2.2.1 ∧ ∀ s j : Int, t.1.toInt ≤ s → s < t.1.toInt + t.2.1.toInt → 0 ≤ j → j < 3 → xg t.1 t.2.2.2.2 s j = xg m.1 m.2.2.2.2 s j
theorem cp_teq {sz th : Int32} {v : Nat → TV} {Fi Ma Db Go Sp : Nat → Int32} (hc : cpT sz th v Fi Ma Db Go Sp) {i : Nat} (hi : (i : Int) < sz.toInt) : teq (v i) (mTV Fi Ma Db Go Sp i) := by
  obtain ⟨h1, h2, h3, h4, h5⟩ := hc.2 i hi
  refine ⟨h1, h2, h3, h4, fun s j s1 s2 j1 j2 => ?_⟩
  show ((v i).2.2.2.2 (ixi (v i).1.toInt s j)).toInt = (Sp (36 * i + ixi (Fi i).toInt s j)).toInt
  rw [h5 _ (by unfold ixi; omega), h1]
theorem wD_eq {a b a' b' : Int → Int} (ha : ∀ j : Int, 0 ≤ j → j < 3 → a j = a' j) (hb : ∀ j : Int, 0 ≤ j → j < 3 → b j = b' j) : wD a b = wD a' b' := by
  rw [wD_3, wD_3, ha 0 (by omega) (by omega), ha 1 (by omega) (by omega), ha 2 (by omega) (by omega), hb 0 (by omega) (by omega), hb 1 (by omega) (by omega), hb 2 (by omega) (by omega)]
theorem w_eq {a b a' b' : Int → Int} (ha : ∀ j : Int, 0 ≤ j → j < 3 → a j = a' j) (hb : ∀ j : Int, 0 ≤ j → j < 3 → b j = b' j) : wU a b = wU a' b' ∧ wL a b = wL a' b' ∧ wP a b = wP a' b' := by
  unfold wU wL wP wIn
  rw [wD_eq ha ha, wD_eq ha hb, wD_eq hb hb]
  exact ⟨rfl, rfl, rfl⟩
theorem gA_eq {t1 t2 m1 m2 : TV} (h1 : teq t1 m1) (h2 : teq t2 m2) {k : Int} (a1 : t1.1.toInt ≤ k) (b1 : t2.1.toInt ≤ k) (a2 : k < t1.1.toInt + t1.2.1.toInt) (b2 : k < t2.1.toInt + t2.2.1.toInt) : ∀ j : Int, 0 ≤ j → j < 3 → gA t1.1 t1.2.2.2.2 t2.1 t2.2.2.2.2 k j = gA m1.1 m1.2.2.2.2 m2.1 m2.2.2.2.2 k j := fun j j0 j3 => by
  show xg _ _ _ _ - xg _ _ _ _ = xg _ _ _ _ - xg _ _ _ _
  rw [h1.2.2.2.2 k j a1 a2 j0 j3, h2.2.2.2.2 k j b1 b2 j0 j3]
theorem K_eq {t1 t2 m1 m2 : TV} (h1 : teq t1 m1) (h2 : teq t2 m2) {b k : Int} (a1 : t1.1.toInt ≤ k) (b1 : t2.1.toInt ≤ k) (hk : k ≤ b) (a2 : b < t1.1.toInt + t1.2.1.toInt) (b2 : b < t2.1.toInt + t2.2.1.toInt) : uK t1.1 t1.2.2.2.2 t2.1 t2.2.2.2.2 b k = uK m1.1 m1.2.2.2.2 m2.1 m2.2.2.2.2 b k ∧ lK t1.1 t1.2.2.2.2 t2.1 t2.2.2.2.2 b k = lK m1.1 m1.2.2.2.2 m2.1 m2.2.2.2.2 b k ∧ qK t1.1 t1.2.2.2.2 t2.1 t2.2.2.2.2 b k = qK m1.1 m1.2.2.2.2 m2.1 m2.2.2.2.2 b k := by
  have e1 := gA_eq h1 h2 (k := k) a1 b1 (by omega) (by omega)
  refine w_eq e1 (fun j j0 j3 => ?_)
  show (if k < b then _ - _ else (0 : Int)) = (if k < b then _ - _ else (0 : Int))
  by_cases z : k < b
  · rw [if_pos z, if_pos z, e1 j j0 j3, gA_eq h1 h2 (k := k + 1) (by omega) (by omega) (by omega) (by omega) j j0 j3]
  · rw [if_neg z, if_neg z]
theorem kb_eq {U L U' L' : Int → Int} {a : Int} : ∀ n : Nat, (∀ k : Int, a ≤ k → k ≤ a + n → U k = U' k ∧ L k = L' k) → kbF U L a n = kbF U' L' a n
  | 0, _ => rfl
  | n + 1, h => by
    have ih := kb_eq (U := U) (L := L) (U' := U') (L' := L') (a := a) n (fun k h1 h2 => h k h1 (by omega))
    have rg := kb_rg U L a n
    obtain ⟨e1, e2⟩ := h (kbF U L a n) rg.1 (by omega)
    obtain ⟨e3, e4⟩ := h (a + n + 1) (by omega) (by omega)
    show (if _ then _ else _) = (if _ then _ else _)
    rw [e3, e4, e1, e2, ih]
theorem le_tr {t1 t2 m1 m2 : TV} (h1 : teq t1 m1) (h2 : teq t2 m2) {w r : Int} (h : leP t1 t2 w r) : leP m1 m2 w r := by
  obtain ⟨a, b, ha, hb, hab, x, y, z, u, e, hn, hr⟩ := h
  have q1 := h1.1; have q2 := h1.2.1; have q3 := h2.1; have q4 := h2.2.1
  have ke := fun k (k1 : a ≤ k) (k2 : k ≤ b) => K_eq h1 h2 (b := b) (k := k) (by omega) (by omega) k2 (by omega) (by omega)
  have kk := kb_eq (a := a) (b - a).toNat (fun k k1 k2 => ⟨(ke k k1 (by omega)).1, (ke k k1 (by omega)).2.1⟩)
  obtain ⟨kb, hkb⟩ : ∃ kb, kbF (uK t1.1 t1.2.2.2.2 t2.1 t2.2.2.2.2 b) (lK t1.1 t1.2.2.2.2 t2.1 t2.2.2.2.2 b) a (b - a).toNat = kb := ⟨_, rfl⟩
  have rg := kb_rg (uK t1.1 t1.2.2.2.2 t2.1 t2.2.2.2.2 b) (lK t1.1 t1.2.2.2.2 t2.1 t2.2.2.2.2 b) a (b - a).toNat
  obtain ⟨d1, d2, d3⟩ := ke kb (by omega) (by omega)
  rw [hkb] at kk hn
  refine ⟨a, b, by rw [← q1, ← q3]; exact ha, by rw [← q1, ← q2, ← q3, ← q4]; exact hb, hab, x, y, z, u, e, ?_, hr⟩
  rw [← kk]
  unfold nsP at hn ⊢
  rw [← d1, ← d2, ← d3]; exact hn
theorem le_one {m1 m2 : TV} {w r r' : Int} (h : leP m1 m2 w r) (h' : leP m1 m2 w r') : r = r' := by
  obtain ⟨a, b, ha, hb, hab, x, y, z, u, e, hn, hr⟩ := h
  obtain ⟨a', b', ha', hb', hab', x', y', z', u', e', hn', hr'⟩ := h'
  have ea : a = a' := by omega
  have eb : b = b' := by omega
  subst ea; subst eb
  obtain ⟨n1, n2, n3, n4, n5⟩ := hn
  obtain ⟨o1, o2, o3, o4, o5⟩ := hn'
  have p1 := n1.trans o1.symm; have p2 := n2.trans o2.symm; have p3 := n3.trans o3.symm; have p4 := n4.trans o4.symm; have p5 := n5.trans o5.symm
  clear n1 n2 n3 n4 n5 o1 o2 o3 o4 o5 ha hb ha' hb'
  omega
theorem le_tg {t1 t2 : TV} {w r : Int} (h : leP t1 t2 w r) : tgP t1 t2 := by
  obtain ⟨a, b, ha, hb, hab, -⟩ := h
  exact ⟨by omega, by omega⟩
theorem tg_tr {t1 t2 m1 m2 : TV} (h1 : teq t1 m1) (h2 : teq t2 m2) : tgP t1 t2 ↔ tgP m1 m2 := by
  unfold tgP
  rw [h1.1, h1.2.1, h2.1, h2.2.1]
theorem an_least {sz th p1 p2 p3 : Int32} {rx rm : Int64} {v : Nat → TV} {Fi Ma Db Go Sp : Nat → Int32} (hc : cpT sz th v Fi Ma Db Go Sp)
    (hx : (¬ ((0 ≤ p1.toInt ∧ p1.toInt < sz.toInt) ∧ (0 ≤ p2.toInt ∧ p2.toInt < sz.toInt)) ∧ rx = -100001) ∨ (((0 ≤ p1.toInt ∧ p1.toInt < sz.toInt) ∧ (0 ≤ p2.toInt ∧ p2.toInt < sz.toInt)) ∧ ¬ (0 ≤ p3.toInt ∧ p3.toInt ≤ 4) ∧ rx = -100002) ∨ (((0 ≤ p1.toInt ∧ p1.toInt < sz.toInt) ∧ (0 ≤ p2.toInt ∧ p2.toInt < sz.toInt)) ∧ (0 ≤ p3.toInt ∧ p3.toInt ≤ 4) ∧ (p1.toInt = p2.toInt ∨ ¬ tgP (v p1.toNatClampNeg) (v p2.toNatClampNeg)) ∧ rx = -100003) ∨ (((0 ≤ p1.toInt ∧ p1.toInt < sz.toInt) ∧ (0 ≤ p2.toInt ∧ p2.toInt < sz.toInt)) ∧ (0 ≤ p3.toInt ∧ p3.toInt ≤ 4) ∧ p1.toInt ≠ p2.toInt ∧ leP (v p1.toNatClampNeg) (v p2.toNatClampNeg) p3.toInt rx.toInt))
    (hm : (¬ ((0 ≤ p1.toInt ∧ p1.toInt < th.toInt) ∧ (0 ≤ p2.toInt ∧ p2.toInt < th.toInt)) ∧ rm = -100001) ∨ (((0 ≤ p1.toInt ∧ p1.toInt < th.toInt) ∧ (0 ≤ p2.toInt ∧ p2.toInt < th.toInt)) ∧ ¬ (0 ≤ p3.toInt ∧ p3.toInt ≤ 4) ∧ rm = -100002) ∨ (((0 ≤ p1.toInt ∧ p1.toInt < th.toInt) ∧ (0 ≤ p2.toInt ∧ p2.toInt < th.toInt)) ∧ (0 ≤ p3.toInt ∧ p3.toInt ≤ 4) ∧ (p1.toInt = p2.toInt ∨ ¬ tgP (mTV Fi Ma Db Go Sp p1.toNatClampNeg) (mTV Fi Ma Db Go Sp p2.toNatClampNeg)) ∧ rm = -100003) ∨ (((0 ≤ p1.toInt ∧ p1.toInt < th.toInt) ∧ (0 ≤ p2.toInt ∧ p2.toInt < th.toInt)) ∧ (0 ≤ p3.toInt ∧ p3.toInt ≤ 4) ∧ p1.toInt ≠ p2.toInt ∧ leP (mTV Fi Ma Db Go Sp p1.toNatClampNeg) (mTV Fi Ma Db Go Sp p2.toNatClampNeg) p3.toInt rm.toInt)) : rx = rm := by
  have es := hc.1
  subst es
  rcases hx with ⟨q, rfl⟩ | ⟨q, q2, rfl⟩ | ⟨q, q2, q3, rfl⟩ | ⟨q, q2, q3, h1⟩
  · rcases hm with ⟨-, rfl⟩ | ⟨w, -⟩ | ⟨w, -⟩ | ⟨w, -⟩
    · rfl
    all_goals exact absurd w q
  · rcases hm with ⟨w, -⟩ | ⟨-, -, rfl⟩ | ⟨-, w, -⟩ | ⟨-, w, -⟩
    · exact absurd q w
    · rfl
    all_goals exact absurd w q2
  all_goals
    have n1 : ((p1.toNatClampNeg : Nat) : Int) = p1.toInt := tc_I q.1.1
    have n2 : ((p2.toNatClampNeg : Nat) : Int) = p2.toInt := tc_I q.2.1
    have t1 := cp_teq hc (i := p1.toNatClampNeg) (by omega)
    have t2 := cp_teq hc (i := p2.toNatClampNeg) (by omega)
    have tg := tg_tr t1 t2
  · rcases hm with ⟨w, -⟩ | ⟨-, w, -⟩ | ⟨-, -, -, rfl⟩ | ⟨-, -, w, h2⟩
    · exact absurd q w
    · exact absurd q2 w
    · rfl
    · rcases q3 with q3 | q3
      · exact absurd q3 w
      · exact absurd (tg.mpr (le_tg h2)) q3
  · rcases hm with ⟨w, -⟩ | ⟨-, w, -⟩ | ⟨-, -, w, -⟩ | ⟨-, -, -, h2⟩
    · exact absurd q w
    · exact absurd q2 w
    · rcases w with w | w
      · exact absurd w q3
      · exact absurd (tg.mp (le_tg h1)) w
    · exact Int64.toInt_inj.mp (le_one (le_tr t1 t2 h1) h2)
