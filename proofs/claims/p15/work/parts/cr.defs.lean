theorem tv_mv {th : Int32} {Fi Ma Db Go Sp : Nat → Int32} (hT : ∀ k : Nat, (k : Int) < th.toInt → tvOK (mTV Fi Ma Db Go Sp k)) {i q n : Nat} {a b c : Int32} (hi : (i : Int) < th.toInt) (hq : q + 3 * n ≤ (3 * (Ma i).toInt).toNat) (hs : stK Sp (36 * i + q) a b c n) : ∀ k : Nat, (k : Int) < th.toInt → tvOK (mTV Fi Ma Db Go (mvK Sp (36 * i + q) a b c n) k) := fun k hk => by
  obtain ⟨t1, t2, t3, t4, t5⟩ := hT k hk
  refine ⟨t1, t2, t3, ?_, t5⟩
  have pl : (Ma k).toInt ≤ 12 := t1.2.2.2
  have pi : (Ma i).toInt ≤ 12 := (hT i hi).1.2.2.2
  by_cases e : k = i
  · subst e
    have s2 : stK (fun j => Sp (36 * k + j)) q a b c n := (st_row (g := fun j => Sp (36 * k + j)) (Sp := Sp) (b := 36 * k) (m := (3 * (Ma k).toInt).toNat) (fun j _ => rfl) hq).mpr hs
    have c2 := cOK_mv (pl := Ma k) (g := fun j => Sp (36 * k + j)) t4 s2
    intro j hj
    have e2 := mv_row (g := fun j => Sp (36 * k + j)) (Sp := Sp) (b := 36 * k) (q := q) (n := n) (x := a) (y := b) (z := c) (m := (3 * (Ma k).toInt).toNat) (fun j _ => rfl) hq j (by have : (j : Int) < 3 * (Ma k).toInt := hj; omega)
    have c3 := c2 j hj
    rw [e2] at c3
    exact c3
  · intro j hj
    have hj' : (j : Int) < 3 * (Ma k).toInt := hj
    show -5000 ≤ (mvK Sp (36 * i + q) a b c n (36 * k + j)).toInt ∧ (mvK Sp (36 * i + q) a b c n (36 * k + j)).toInt ≤ 5000
    rw [mvK_off _ _ _ _ _ _ _ (by omega)]
    exact t4 j hj
abbrev bR0 (t : TV) (st a b c : Int32) : Prop := (t.1.toInt ≤ st.toInt ∧ st.toInt < t.1.toInt + t.2.1.toInt) ∧ ((-2 ≤ a.toInt ∧ a.toInt ≤ 2) ∧ (-2 ≤ b.toInt ∧ b.toInt ≤ 2) ∧ (-2 ≤ c.toInt ∧ c.toInt ≤ 2)) ∧ ¬ (a.toInt = 0 ∧ b.toInt = 0 ∧ c.toInt = 0)
def buP (R B C : Prop) (K : Nat) (r : Int) : Prop := (¬ R ∧ r = -100001) ∨ (R ∧ ¬ B ∧ r = -100002) ∨ (R ∧ B ∧ ¬ C ∧ r = -100003) ∨ (R ∧ B ∧ C ∧ r = K)
theorem bu_one {R B C R' B' C' : Prop} {K K' : Nat} {r r' : Int} (h1 : R ↔ R') (h2 : R → (B ↔ B')) (h3 : R → B → (C ↔ C')) (h4 : R → B → C → K = K') (h : buP R B C K r) (h' : buP R' B' C' K' r') : r = r' := by
  rcases h with ⟨a1, rfl⟩ | ⟨a1, a2, rfl⟩ | ⟨a1, a2, a3, rfl⟩ | ⟨a1, a2, a3, rfl⟩
  · rcases h' with ⟨-, rfl⟩ | ⟨b, -⟩ | ⟨b, -⟩ | ⟨b, -⟩
    · rfl
    all_goals exact absurd (h1.mpr b) a1
  · rcases h' with ⟨b, -⟩ | ⟨-, -, rfl⟩ | ⟨-, b, -⟩ | ⟨-, b, -⟩
    · exact absurd (h1.mp a1) b
    · rfl
    all_goals exact absurd ((h2 a1).mpr b) a2
  · rcases h' with ⟨b, -⟩ | ⟨-, b, -⟩ | ⟨-, -, -, rfl⟩ | ⟨-, -, b, -⟩
    · exact absurd (h1.mp a1) b
    · exact absurd ((h2 a1).mp a2) b
    · rfl
    · exact absurd ((h3 a1 a2).mpr b) a3
  · rcases h' with ⟨b, -⟩ | ⟨-, b, -⟩ | ⟨-, -, b, -⟩ | ⟨-, -, -, rfl⟩
    · exact absurd (h1.mp a1) b
    · exact absurd ((h2 a1).mp a2) b
    · exact absurd ((h3 a1 a2).mp a3) b
    · rw [h4 a1 a2 a3]
theorem an_burn {sz th ne me p1 p2 p3 p4 p5 rx rm : Int32} {v : Nat → TV} {Fi Ma Db Go Sp : Nat → Int32} (hc : cpT sz th v Fi Ma Db Go Sp) (hV : vOK sz v) (e : ne = me)
    (hx : buP (0 ≤ p1.toInt ∧ p1.toInt < sz.toInt) (bR0 (v p1.toNatClampNeg) p2 p3 p4 p5) ((v p1.toNatClampNeg).2.2.2.1.toInt = 0 ∧ bSt (v p1.toNatClampNeg) p2 p3 p4 p5) (cnC (mo (bDo (v p1.toNatClampNeg) p2 p3 p4 p5) (va_up v p1.toNatClampNeg (bDo (v p1.toNatClampNeg) p2 p3 p4 p5)) ne.toInt p1.toInt) sz.toInt.toNat) rx.toInt)
    (hm : buP (0 ≤ p1.toInt ∧ p1.toInt < th.toInt) (bR0 (mTV Fi Ma Db Go Sp p1.toNatClampNeg) p2 p3 p4 p5) ((Go p1.toNatClampNeg).toInt = 0 ∧ stK Sp (36 * p1.toInt + 3 * (p2.toInt + 1 - (Fi p1.toNatClampNeg).toInt)).toNat p3 p4 p5 ((Fi p1.toNatClampNeg).toInt + (Ma p1.toNatClampNeg).toInt - 1 - p2.toInt).toNat) (cnC (mo (mTV Fi Ma Db Go (mvK Sp (36 * p1.toInt + 3 * (p2.toInt + 1 - (Fi p1.toNatClampNeg).toInt)).toNat p3 p4 p5 ((Fi p1.toNatClampNeg).toInt + (Ma p1.toNatClampNeg).toInt - 1 - p2.toInt).toNat) p1.toNatClampNeg) (mTV Fi Ma Db Go (mvK Sp (36 * p1.toInt + 3 * (p2.toInt + 1 - (Fi p1.toNatClampNeg).toInt)).toNat p3 p4 p5 ((Fi p1.toNatClampNeg).toInt + (Ma p1.toNatClampNeg).toInt - 1 - p2.toInt).toNat)) me.toInt p1.toInt) th.toInt.toNat) rm.toInt) : rx = rm := by
  subst e
  have es := hc.1
  have ru : (0 ≤ p1.toInt ∧ p1.toInt < sz.toInt) ↔ (0 ≤ p1.toInt ∧ p1.toInt < th.toInt) := by rw [es]
  have bu : (0 ≤ p1.toInt ∧ p1.toInt < sz.toInt) → (bR0 (v p1.toNatClampNeg) p2 p3 p4 p5 ↔ bR0 (mTV Fi Ma Db Go Sp p1.toNatClampNeg) p2 p3 p4 p5) := fun R => by
    have ni : ((p1.toNatClampNeg : Nat) : Int) = p1.toInt := tc_I R.1
    have t1 := cp_teq hc (i := p1.toNatClampNeg) (by omega)
    unfold bR0
    rw [t1.1, t1.2.1]
  have cu : (0 ≤ p1.toInt ∧ p1.toInt < sz.toInt) → bR0 (v p1.toNatClampNeg) p2 p3 p4 p5 → (((v p1.toNatClampNeg).2.2.2.1.toInt = 0 ∧ bSt (v p1.toNatClampNeg) p2 p3 p4 p5) ↔ ((Go p1.toNatClampNeg).toInt = 0 ∧ stK Sp (36 * p1.toInt + 3 * (p2.toInt + 1 - (Fi p1.toNatClampNeg).toInt)).toNat p3 p4 p5 ((Fi p1.toNatClampNeg).toInt + (Ma p1.toNatClampNeg).toInt - 1 - p2.toInt).toNat)) := fun R B => by
    have ni : ((p1.toNatClampNeg : Nat) : Int) = p1.toInt := tc_I R.1
    have R2 := B.1
    obtain ⟨h1, h2, h3, h4, h5⟩ := hc.2 p1.toNatClampNeg (by omega)
    obtain ⟨⟨t1, t2, t3, t4⟩, -⟩ := hV.2 p1.toNatClampNeg (by omega)
    have c1 := congrArg Int32.toInt h1
    have c2 := congrArg Int32.toInt h2
    have hrow : ∀ k : Nat, k < (3 * (v p1.toNatClampNeg).2.1.toInt).toNat → (v p1.toNatClampNeg).2.2.2.2 k = Sp (36 * p1.toNatClampNeg + k) := fun k hk => h5 k (by omega)
    have eN : ((Fi p1.toNatClampNeg).toInt + (Ma p1.toNatClampNeg).toInt - 1 - p2.toInt).toNat = dfN (v p1.toNatClampNeg) p2 := by unfold dfN; omega
    have eQ : (36 * p1.toInt + 3 * (p2.toInt + 1 - (Fi p1.toNatClampNeg).toInt)).toNat = 36 * p1.toNatClampNeg + dfQ (v p1.toNatClampNeg) p2 := by unfold dfQ; omega
    have hmx : dfQ (v p1.toNatClampNeg) p2 + 3 * dfN (v p1.toNatClampNeg) p2 ≤ (3 * (v p1.toNatClampNeg).2.1.toInt).toNat := by unfold dfQ dfN; omega
    have hst := st_row (x := p3) (y := p4) (z := p5) hrow hmx
    rw [eN, eQ, h4]
    exact ⟨fun z => ⟨z.1, hst.mp z.2⟩, fun z => ⟨z.1, hst.mpr z.2⟩⟩
  refine Int32.toInt_inj.mp (bu_one ru bu cu (fun R B C => ?_) hx hm)
  have ni : ((p1.toNatClampNeg : Nat) : Int) = p1.toInt := tc_I R.1
  have C' := (cu R B).mp C
  have B' : ((Fi p1.toNatClampNeg).toInt ≤ p2.toInt ∧ p2.toInt < (Fi p1.toNatClampNeg).toInt + (Ma p1.toNatClampNeg).toInt) ∧ ((-2 ≤ p3.toInt ∧ p3.toInt ≤ 2) ∧ (-2 ≤ p4.toInt ∧ p4.toInt ≤ 2) ∧ (-2 ≤ p5.toInt ∧ p5.toInt ≤ 2)) ∧ ¬ (p3.toInt = 0 ∧ p4.toInt = 0 ∧ p5.toInt = 0) := (bu R).mp B
  have h9 := cp_burn hc hV (Or.inl ⟨⟨⟨R, B.1, B.2.1, B.2.2, C.1⟩, C.2⟩, rfl⟩) (Or.inl ⟨⟨⟨ru.mp R, B'.1, B'.2.1, B'.2.2, C'.1⟩, C'.2⟩, rfl⟩)
  have q := mo_tr h9 (i := p1.toNatClampNeg) (by omega) ne.toInt p1.toInt
  rw [va_up_self] at q
  exact q
