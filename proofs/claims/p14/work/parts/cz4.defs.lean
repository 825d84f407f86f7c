/-- the burns looked at so far: the steps below st, and below n at st -/
def vsK (lo st : Int) (n : Nat) (s : Int) (k : Nat) : Prop := lo ≤ s ∧ k < 125 ∧ (s < st ∨ (s = st ∧ k < n))
theorem bs_no {F : Int → Nat → Prop} {lo st : Int} {n : Nat} {f s a b c : Int} (h : bsP F (vsK lo st n) f s a b c) (hx : nF n ≤ 0 ∨ ¬ F st n ∨ ¬ (f < 0 ∨ nF n < f ∨ (nF n = f ∧ s < st))) : bsP F (vsK lo st (n + 1)) f s a b c := by
  have sp : ∀ (s' : Int) (k' : Nat), vsK lo st (n + 1) s' k' → vsK lo st n s' k' ∨ (s' = st ∧ k' = n) := fun s' k' d => by
    obtain ⟨d1, d2, d3⟩ := d
    rcases (show (s' < st ∨ (s' = st ∧ k' < n)) ∨ (s' = st ∧ k' = n) by omega) with z | z
    · exact Or.inl ⟨d1, d2, z⟩
    · exact Or.inr z
  rcases h with ⟨k, ⟨w1, w2, w3, w4⟩, e1, e2⟩ | ⟨w, e1, e2⟩
  · refine Or.inl ⟨k, ⟨⟨w1.1, w1.2.1, by have := w1.2.2; omega⟩, w2, w3, fun s' k' d p q => ?_⟩, e1, e2⟩
    rcases sp s' k' d with z | ⟨rfl, rfl⟩
    · exact w4 s' k' z p q
    · have := w1.2.2
      rcases hx with z | z | z
      · omega
      · exact absurd q z
      · omega
  · refine Or.inr ⟨fun s' k' d p q => ?_, e1, e2⟩
    rcases sp s' k' d with z | ⟨rfl, rfl⟩
    · exact w s' k' z p q
    · rcases hx with z | z | z
      · omega
      · exact z q
      · omega
theorem bs_yes {F : Int → Nat → Prop} {lo st : Int} {n : Nat} {f s a b c f1 a1 b1 c1 : Int} (hn : n < 125) (hl : lo ≤ st) (h : bsP F (vsK lo st n) f s a b c) (h0 : 0 < nF n) (hF : F st n) (hb : f < 0 ∨ nF n < f ∨ (nF n = f ∧ s < st)) (ef : f1 = nF n) (ea : a1 = nA n) (eb : b1 = nB n) (ec : c1 = nC n) : bsP F (vsK lo st (n + 1)) f1 st a1 b1 c1 := by
  refine Or.inl ⟨n, ⟨⟨hl, hn, Or.inr ⟨rfl, by omega⟩⟩, h0, hF, fun s' k' d p q => ?_⟩, ef, ea, eb, ec⟩
  obtain ⟨d1, d2, d3⟩ := d
  by_cases z : s' < st ∨ (s' = st ∧ k' < n)
  · rcases h with ⟨k, ⟨w1, w2, w3, w4⟩, e1, e2⟩ | ⟨w, e1, e2⟩
    · have w := w4 s' k' ⟨d1, d2, z⟩ p q
      have := w1.2.2
      omega
    · exact absurd q (w s' k' ⟨d1, d2, z⟩ p)
  · have e1 : s' = st := by omega
    have e2 : k' = n := by omega
    subst e1; subst e2
    exact Or.inr ⟨rfl, Or.inr ⟨rfl, Nat.le_refl _⟩⟩
theorem bs_dm {F D E : Int → Nat → Prop} (e : ∀ (s : Int) (k : Nat), D s k ↔ E s k) {f s a b c : Int} (h : bsP F D f s a b c) : bsP F E f s a b c := by
  rcases h with ⟨k, ⟨w1, w2, w3, w4⟩, r⟩ | ⟨n, r⟩
  · exact Or.inl ⟨k, ⟨(e s k).mp w1, w2, w3, fun s' k' d p q => w4 s' k' ((e s' k').mpr d) p q⟩, r⟩
  · exact Or.inr ⟨fun s' k' d p q => n s' k' ((e s' k').mpr d) p q, r⟩
theorem bs_row {F : Int → Nat → Prop} {lo st : Int} {n : Nat} {f s a b c : Int} (hn : 125 ≤ n) (h : bsP F (vsK lo st n) f s a b c) : bsP F (vsK lo (st + 1) 0) f s a b c := bs_dm (fun s k => ⟨fun d => ⟨d.1, d.2.1, by have := d.2.2; omega⟩, fun d => ⟨d.1, d.2.1, by have := d.2.2; have := d.2.1; omega⟩⟩) h
theorem bs_end {F : Int → Nat → Prop} {lo st hi : Int} {f s a b c : Int} (e : st = hi) (h : bsP F (vsK lo st 0) f s a b c) : bsP F (dmK lo hi) f s a b c := bs_dm (fun s k => ⟨fun d => ⟨d.1, by have := d.2.2; omega, d.2.1⟩, fun d => ⟨d.1, d.2.2, by have := d.2.1; omega⟩⟩) h
theorem bs_start {F : Int → Nat → Prop} {lo : Int} : bsP F (vsK lo lo 0) (-1) (-1) 0 0 0 := Or.inr ⟨fun s k d _ _ => by have := d.1; have := d.2.2; omega, rfl, rfl, rfl, rfl, rfl⟩
theorem bu_set {B : Nat → Int32} {i0 i1 i2 i3 i4 : Nat} {x0 x1 x2 x3 x4 : Int32} (h0 : i0 = 0) (h1 : i1 = 1) (h2 : i2 = 2) (h3 : i3 = 3) (h4 : i4 = 4) : upd (upd (upd (upd (upd B i0 x0) i1 x1) i2 x2) i3 x3) i4 x4 0 = x0 ∧ upd (upd (upd (upd (upd B i0 x0) i1 x1) i2 x2) i3 x3) i4 x4 1 = x1 ∧ upd (upd (upd (upd (upd B i0 x0) i1 x1) i2 x2) i3 x3) i4 x4 2 = x2 ∧ upd (upd (upd (upd (upd B i0 x0) i1 x1) i2 x2) i3 x3) i4 x4 3 = x3 ∧ upd (upd (upd (upd (upd B i0 x0) i1 x1) i2 x2) i3 x3) i4 x4 4 = x4 := by
  subst h0; subst h1; subst h2; subst h3; subst h4
  exact ⟨rfl, rfl, rfl, rfl, rfl⟩
theorem fr_def {t : TV} {v : Nat → TV} {sz : Nat} {i ne s : Int} {k : Nat} {st a b c : Int32} (es : st.toInt = s) (ea : a.toInt = nA k) (eb : b.toInt = nB k) (ec : c.toInt = nC k) : frK t v sz i ne s k ↔ bSt t st a b c ∧ ¬ anyM (bDo t st a b c) v sz i 0 39 ne := by
  unfold frK
  rw [ofI es, ofI ea, ofI eb, ofI ec]
theorem any_eq {t m : TV} {v w : Nat → TV} {sz : Nat} {i lo hi ne : Int} (h : teq t m) (hv : ∀ u : Nat, u < sz → i ≠ (u : Int) → teq (v u) (w u)) : anyM t v sz i lo hi ne ↔ anyM m w sz i lo hi ne := by
  constructor
  · rintro ⟨u, h1, h2, h3, h4⟩
    have q := hv u h1 h2
    exact ⟨u, h1, h2, by rw [← q.2.2.2.1]; exact h3, (me_tr h q lo hi ne).mp h4⟩
  · rintro ⟨u, h1, h2, h3, h4⟩
    have q := hv u h1 h2
    exact ⟨u, h1, h2, by rw [q.2.2.2.1]; exact h3, (me_tr h q lo hi ne).mpr h4⟩
/-- a row of the reference moved, and the view of it moved -/
theorem mv_teq {Fi Ma Db Go Sp : Nat → Int32} {i : Nat} {st a b c : Int32} (ok : tvOK (mTV Fi Ma Db Go Sp i)) (h1 : (Fi i).toInt ≤ st.toInt) (h2 : st.toInt < (Fi i).toInt + (Ma i).toInt) : teq (mTV Fi Ma Db Go (mvK Sp (36 * i + dfQ (mTV Fi Ma Db Go Sp i) st) a b c (dfN (mTV Fi Ma Db Go Sp i) st)) i) (bDo (mTV Fi Ma Db Go Sp i) st a b c) := by
  refine ⟨rfl, rfl, rfl, rfl, fun s j s1 s2 j0 j3 => ?_⟩
  have s1' : (Fi i).toInt ≤ s := s1
  have s2' : s < (Fi i).toInt + (Ma i).toInt := s2
  show (mvK Sp _ a b c _ (36 * i + ixi (Fi i).toInt s j)).toInt = (mvK (fun k => Sp (36 * i + k)) _ a b c _ (ixi (Fi i).toInt s j)).toInt
  have e := mv_row (g := fun k => Sp (36 * i + k)) (Sp := Sp) (b := 36 * i) (q := dfQ (mTV Fi Ma Db Go Sp i) st) (n := dfN (mTV Fi Ma Db Go Sp i) st) (x := a) (y := b) (z := c) (m := (3 * (Ma i).toInt).toNat) (fun k _ => rfl) (by unfold dfQ dfN; show (3 * (st.toInt + 1 - (Fi i).toInt)).toNat + 3 * ((Fi i).toInt + (Ma i).toInt - 1 - st.toInt).toNat ≤ _; omega) (ixi (Fi i).toInt s j) (by unfold ixi; omega)
  rw [e]
theorem mv_oth {Fi Ma Db Go Sp : Nat → Int32} {i u q n : Nat} {a b c : Int32} (ou : tvOK (mTV Fi Ma Db Go Sp u)) (hq : q + 3 * n ≤ 36) (h : u ≠ i) : teq (mTV Fi Ma Db Go (mvK Sp (36 * i + q) a b c n) u) (mTV Fi Ma Db Go Sp u) := by
  have pl : (Ma u).toInt ≤ 12 := ou.1.2.2.2
  refine ⟨rfl, rfl, rfl, rfl, fun s j s1 s2 j0 j3 => ?_⟩
  have s1' : (Fi u).toInt ≤ s := s1
  have s2' : s < (Fi u).toInt + (Ma u).toInt := s2
  show (mvK Sp _ a b c _ (36 * u + ixi (Fi u).toInt s j)).toInt = (Sp (36 * u + ixi (Fi u).toInt s j)).toInt
  rw [mvK_off _ _ _ _ _ _ _ (by unfold ixi; omega)]
theorem fm_all {th : Int32} {Fi Ma Db Go Sp : Nat → Int32} {ne s p : Int} {i k Q N : Nat} {st a b c : Int32} (hT : ∀ k : Nat, (k : Int) < th.toInt → tvOK (mTV Fi Ma Db Go Sp k)) (hi : (i : Int) < th.toInt) (hp : p = (i : Int)) (hg : (Go i).toInt = 0) (h1 : (Fi i).toInt ≤ st.toInt) (h2 : st.toInt < (Fi i).toInt + (Ma i).toInt) (es : st.toInt = s) (ea : a.toInt = nA k) (eb : b.toInt = nB k) (ec : c.toInt = nC k) (hQ : Q = 36 * i + dfQ (mTV Fi Ma Db Go Sp i) st) (hN : N = dfN (mTV Fi Ma Db Go Sp i) st) :
    frK (mTV Fi Ma Db Go Sp i) (mTV Fi Ma Db Go Sp) th.toInt.toNat p ne s k ↔ stK Sp Q a b c N ∧ cnC (mo (mTV Fi Ma Db Go (mvK Sp Q a b c N) i) (mTV Fi Ma Db Go (mvK Sp Q a b c N)) ne p) th.toInt.toNat = 0 := by
  subst hQ; subst hN
  rw [fr_def es ea eb ec]
  have ok := hT i hi
  have pl : (Ma i).toInt ≤ 12 := ok.1.2.2.2
  have hmx : dfQ (mTV Fi Ma Db Go Sp i) st + 3 * dfN (mTV Fi Ma Db Go Sp i) st ≤ (3 * (Ma i).toInt).toNat := by
    unfold dfQ dfN
    show (3 * (st.toInt + 1 - (Fi i).toInt)).toNat + 3 * ((Fi i).toInt + (Ma i).toInt - 1 - st.toInt).toNat ≤ _
    omega
  have e1 : bSt (mTV Fi Ma Db Go Sp i) st a b c ↔ stK Sp (36 * i + dfQ (mTV Fi Ma Db Go Sp i) st) a b c (dfN (mTV Fi Ma Db Go Sp i) st) := st_row (g := fun k => Sp (36 * i + k)) (Sp := Sp) (b := 36 * i) (m := (3 * (Ma i).toInt).toNat) (fun k _ => rfl) hmx
  have e2 := mo_none (t := mTV Fi Ma Db Go (mvK Sp (36 * i + dfQ (mTV Fi Ma Db Go Sp i) st) a b c (dfN (mTV Fi Ma Db Go Sp i) st)) i) (v := mTV Fi Ma Db Go (mvK Sp (36 * i + dfQ (mTV Fi Ma Db Go Sp i) st) a b c (dfN (mTV Fi Ma Db Go Sp i) st))) (sz := th.toInt.toNat) (i := p) (ne := ne) hg
  have e3 := any_eq (sz := th.toInt.toNat) (i := p) (lo := 0) (hi := 39) (ne := ne) (v := mTV Fi Ma Db Go (mvK Sp (36 * i + dfQ (mTV Fi Ma Db Go Sp i) st) a b c (dfN (mTV Fi Ma Db Go Sp i) st))) (w := mTV Fi Ma Db Go Sp) (mv_teq (a := a) (b := b) (c := c) ok h1 h2) (fun u hu hne => mv_oth (hT u (by omega)) (by omega) (by omega))
  rw [e1, e2, e3]
theorem bD_teq {sz th : Int32} {v : Nat → TV} {Fi Ma Db Go Sp : Nat → Int32} (hc : cpT sz th v Fi Ma Db Go Sp) {i : Nat} (hi : (i : Int) < sz.toInt) {st a b c : Int32} (h1 : (v i).1.toInt ≤ st.toInt) (h2 : st.toInt < (v i).1.toInt + (v i).2.1.toInt) : teq (bDo (v i) st a b c) (bDo (mTV Fi Ma Db Go Sp i) st a b c) ∧ (bSt (v i) st a b c ↔ bSt (mTV Fi Ma Db Go Sp i) st a b c) := by
  obtain ⟨g1, g2, g3, g4, g5⟩ := hc.2 i hi
  have eQ : dfQ (mTV Fi Ma Db Go Sp i) st = dfQ (v i) st := by unfold dfQ; show (3 * (st.toInt + 1 - (Fi i).toInt)).toNat = _; rw [g1]
  have eN : dfN (mTV Fi Ma Db Go Sp i) st = dfN (v i) st := by unfold dfN; show ((Fi i).toInt + (Ma i).toInt - 1 - st.toInt).toNat = _; rw [g1, g2]
  have hmx : dfQ (v i) st + 3 * dfN (v i) st ≤ (3 * (v i).2.1.toInt).toNat := by unfold dfQ dfN; omega
  have rw1 : ∀ k : Nat, k < (3 * (v i).2.1.toInt).toNat → (v i).2.2.2.2 k = (fun j => Sp (36 * i + j)) (0 + k) := fun k hk => by rw [Nat.zero_add]; exact g5 k (by omega)
  constructor
  · refine ⟨g1, g2, g3, g4, fun s j s1 s2 j0 j3 => ?_⟩
    have s1' : (v i).1.toInt ≤ s := s1
    have s2' : s < (v i).1.toInt + (v i).2.1.toInt := s2
    show (mvK (v i).2.2.2.2 _ a b c _ (ixi (v i).1.toInt s j)).toInt = (mvK (fun k => Sp (36 * i + k)) _ a b c _ (ixi (Fi i).toInt s j)).toInt
    rw [eQ, eN, ← g1]
    have e := mv_row (g := (v i).2.2.2.2) (Sp := fun j => Sp (36 * i + j)) (b := 0) (q := dfQ (v i) st) (n := dfN (v i) st) (x := a) (y := b) (z := c) rw1 hmx (ixi (v i).1.toInt s j) (by unfold ixi; omega)
    rw [Nat.zero_add, Nat.zero_add] at e
    rw [e]
  · have e := st_row (g := (v i).2.2.2.2) (Sp := fun j => Sp (36 * i + j)) (b := 0) (q := dfQ (v i) st) (n := dfN (v i) st) (x := a) (y := b) (z := c) rw1 hmx
    rw [Nat.zero_add] at e
    unfold bSt
    rw [eQ, eN]
    exact e
theorem an_best {sz th ne me p1 p2 p3 rx rm : Int32} {v : Nat → TV} {Fi Ma Db Go Sp : Nat → Int32} (hc : cpT sz th v Fi Ma Db Go Sp) (hV : vOK sz v) (e : ne = me)
    (hx : beP (0 ≤ p1.toInt ∧ p1.toInt < sz.toInt) (((v p1.toNatClampNeg).1.toInt ≤ p2.toInt ∧ p2.toInt < (v p1.toNatClampNeg).1.toInt + (v p1.toNatClampNeg).2.1.toInt) ∧ (0 ≤ p3.toInt ∧ p3.toInt ≤ 4)) ((v p1.toNatClampNeg).2.2.2.1.toInt = 0) (frK (v p1.toNatClampNeg) v sz.toInt.toNat p1.toInt ne.toInt) (dmK p2.toInt ((v p1.toNatClampNeg).1.toInt + (v p1.toNatClampNeg).2.1.toInt - 1)) p3.toInt rx.toInt)
    (hm : beP (0 ≤ p1.toInt ∧ p1.toInt < th.toInt) (((mTV Fi Ma Db Go Sp p1.toNatClampNeg).1.toInt ≤ p2.toInt ∧ p2.toInt < (mTV Fi Ma Db Go Sp p1.toNatClampNeg).1.toInt + (mTV Fi Ma Db Go Sp p1.toNatClampNeg).2.1.toInt) ∧ (0 ≤ p3.toInt ∧ p3.toInt ≤ 4)) ((mTV Fi Ma Db Go Sp p1.toNatClampNeg).2.2.2.1.toInt = 0) (frK (mTV Fi Ma Db Go Sp p1.toNatClampNeg) (mTV Fi Ma Db Go Sp) th.toInt.toNat p1.toInt me.toInt) (dmK p2.toInt ((mTV Fi Ma Db Go Sp p1.toNatClampNeg).1.toInt + (mTV Fi Ma Db Go Sp p1.toNatClampNeg).2.1.toInt - 1)) p3.toInt rm.toInt) : rx = rm := by
  have es := hc.1
  subst es; subst e
  refine Int32.toInt_inj.mp ?_
  by_cases R : 0 ≤ p1.toInt ∧ p1.toInt < sz.toInt
  · have ni : ((p1.toNatClampNeg : Nat) : Int) = p1.toInt := tc_I R.1
    have t1 := cp_teq hc (i := p1.toNatClampNeg) (by omega)
    have ok := hV.2 p1.toNatClampNeg (by omega)
    rw [← t1.1, ← t1.2.1, ← t1.2.2.2.1] at hm
    rcases hx with ⟨a1, -⟩ | ⟨-, a2, a3⟩ | ⟨-, a2, a3, a4⟩ | ⟨-, a2, a3, f, s, a, b, c, a4, a5⟩
    · exact absurd R a1
    · rcases hm with ⟨b1, -⟩ | ⟨-, -, b3⟩ | ⟨-, b2, -⟩ | ⟨-, b2, -⟩
      · exact absurd R b1
      · rw [a3, b3]
      all_goals exact absurd b2 a2
    · rcases hm with ⟨b1, -⟩ | ⟨-, b2, -⟩ | ⟨-, -, -, b4⟩ | ⟨-, -, b3, -⟩
      · exact absurd R b1
      · exact absurd a2 b2
      · rw [a4, b4]
      · exact absurd b3 a3
    · rcases hm with ⟨b1, -⟩ | ⟨-, b2, -⟩ | ⟨-, -, b3, -⟩ | ⟨-, -, -, f', s', a', b', c', b4, b5⟩
      · exact absurd R b1
      · exact absurd a2 b2
      · exact absurd a3 b3
      · have fe : ∀ (s : Int) (k : Nat), dmK p2.toInt ((v p1.toNatClampNeg).1.toInt + (v p1.toNatClampNeg).2.1.toInt - 1) s k → 0 < nF k → (frK (v p1.toNatClampNeg) v sz.toInt.toNat p1.toInt ne.toInt s k ↔ frK (mTV Fi Ma Db Go Sp p1.toNatClampNeg) (mTV Fi Ma Db Go Sp) sz.toInt.toNat p1.toInt ne.toInt s k) := fun s k d _ => by
          obtain ⟨d1, d2, -⟩ := d
          have f0 : 0 ≤ (v p1.toNatClampNeg).1.toInt := ok.1.1
          have f4 : (v p1.toNatClampNeg).1.toInt + (v p1.toNatClampNeg).2.1.toInt ≤ 40 := ok.2.2.2.2.2
          have es : (Int32.ofInt s).toInt = s := Int32.toInt_ofInt_of_le (by omega) (by omega)
          obtain ⟨q1, q2⟩ := bD_teq hc (i := p1.toNatClampNeg) (by omega) (st := Int32.ofInt s) (a := Int32.ofInt (nA k)) (b := Int32.ofInt (nB k)) (c := Int32.ofInt (nC k)) (by omega) (by omega)
          unfold frK
          rw [q2, any_eq (v := v) (w := mTV Fi Ma Db Go Sp) q1 (fun u hu _ => cp_teq hc (by omega))]
        have q := bs_one (bs_tr fe a4) b4
        omega
  · rcases hx with ⟨-, a1⟩ | ⟨a1, -⟩ | ⟨a1, -⟩ | ⟨a1, -⟩
    · rcases hm with ⟨-, b1⟩ | ⟨b1, -⟩ | ⟨b1, -⟩ | ⟨b1, -⟩
      · rw [a1, b1]
      all_goals exact absurd b1 R
    all_goals exact absurd a1 R
theorem bu_ini {B : Nat → Int32} {k3 x : Int32} (h : (0 < k3.toInt → (B 0).toInt = -1) ∧ (1 < k3.toInt → (B 1).toInt = -1) ∧ (2 < k3.toInt → (B 2).toInt = 0) ∧ (3 < k3.toInt → (B 3).toInt = 0) ∧ (4 < k3.toInt → (B 4).toInt = 0)) (h0 : 0 ≤ k3.toInt) (hx : (k3.toInt < 2 ∧ x.toInt = -1) ∨ (2 ≤ k3.toInt ∧ x.toInt = 0)) : (0 < k3.toInt + 1 → (upd B k3.toNatClampNeg x 0).toInt = -1) ∧ (1 < k3.toInt + 1 → (upd B k3.toNatClampNeg x 1).toInt = -1) ∧ (2 < k3.toInt + 1 → (upd B k3.toNatClampNeg x 2).toInt = 0) ∧ (3 < k3.toInt + 1 → (upd B k3.toNatClampNeg x 3).toInt = 0) ∧ (4 < k3.toInt + 1 → (upd B k3.toNatClampNeg x 4).toInt = 0) := by
  have ni : ((k3.toNatClampNeg : Nat) : Int) = k3.toInt := tc_I h0
  obtain ⟨h1, h2, h3, h4, h5⟩ := h
  have key : ∀ (j : Nat) (z : Int), ((j : Int) < k3.toInt → (B j).toInt = z) → ((j : Int) = k3.toInt → x.toInt = z) → ((j : Int) < k3.toInt + 1 → (upd B k3.toNatClampNeg x j).toInt = z) := fun j z a b c => by
    by_cases e : j = k3.toNatClampNeg
    · have q : upd B k3.toNatClampNeg x j = x := if_pos e
      rw [q]; exact b (by omega)
    · have q : upd B k3.toNatClampNeg x j = B j := if_neg e
      rw [q]; exact a (by omega)
  exact ⟨key 0 (-1) h1 (fun e => by omega), key 1 (-1) h2 (fun e => by omega), key 2 0 h3 (fun e => by omega), key 3 0 h4 (fun e => by omega), key 4 0 h5 (fun e => by omega)⟩
theorem be_sel {B : Nat → Int32} {w r : Int32} (h0 : 0 ≤ w.toInt) (h4 : w.toInt ≤ 4) (e : r.toInt = (B w.toNatClampNeg).toInt) : (w.toInt = 0 ∧ r.toInt = (B 0).toInt) ∨ (w.toInt = 1 ∧ r.toInt = (B 1).toInt) ∨ (w.toInt = 2 ∧ r.toInt = (B 2).toInt) ∨ (w.toInt = 3 ∧ r.toInt = (B 3).toInt) ∨ (w.toInt = 4 ∧ r.toInt = (B 4).toInt) := by
  have ni : ((w.toNatClampNeg : Nat) : Int) = w.toInt := tc_I h0
  rcases (show w.toNatClampNeg = 0 ∨ w.toNatClampNeg = 1 ∨ w.toNatClampNeg = 2 ∨ w.toNatClampNeg = 3 ∨ w.toNatClampNeg = 4 by omega) with z | z | z | z | z
  · rw [z] at e; exact Or.inl ⟨by omega, e⟩
  · rw [z] at e; exact Or.inr (Or.inl ⟨by omega, e⟩)
  · rw [z] at e; exact Or.inr (Or.inr (Or.inl ⟨by omega, e⟩))
  · rw [z] at e; exact Or.inr (Or.inr (Or.inr (Or.inl ⟨by omega, e⟩)))
  · rw [z] at e; exact Or.inr (Or.inr (Or.inr (Or.inr ⟨by omega, e⟩)))
