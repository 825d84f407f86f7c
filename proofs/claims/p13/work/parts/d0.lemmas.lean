theorem nowV_0 {f : Nat → va_E} {cI : ClassId} {ow : Nat → Nat} {v : Nat → TV} : nowV [] f cI ow 0 (fun _ => none) v := ⟨⟨by decide, by decide⟩, fun _ _ => rfl, fun i hi => absurd hi (by rw [show (0 : Int32).toInt = 0 by decide]; omega)⟩
theorem shV_0 {f : Nat → va_E} {cI : ClassId} {ow : Nat → Nat} {base : Nat} : shV [] f cI ow base 0 (fun _ => none) := ⟨⟨by decide, by decide⟩, fun i hi a h => (by cases h), fun i hi => absurd hi (by rw [show (0 : Int32).toInt = 0 by decide]; omega)⟩
theorem dotV_0 {f : Nat → va_E} {ow : Nat → Nat} {u : Nat → DV} : dotV [] f ow 0 (fun _ => none) u := ⟨⟨by decide, by decide⟩, fun i hi => absurd hi (by rw [show (0 : Int32).toInt = 0 by decide]; omega)⟩
theorem notV_0 {f : Nat → va_E} {ow : Nat → Nat} {w : Nat → NV} : notV [] f ow 0 (fun _ => none) w := ⟨⟨by decide, by decide⟩, fun i hi => absurd hi (by rw [show (0 : Int32).toInt = 0 by decide]; omega)⟩
theorem cpT_0 {v : Nat → TV} {Fi Ma Db Go Sp : Nat → Int32} : cpT 0 0 v Fi Ma Db Go Sp := ⟨rfl, fun i hi => absurd hi (by rw [show (0 : Int32).toInt = 0 by decide]; omega)⟩
theorem sm_0 : ∀ k : Nat, k < 2 → (upd (upd (fun _ => 0) (0 : Int32).toNatClampNeg (-1)) (1 : Int32).toNatClampNeg (-1) k).toInt ≤ 16 := fun k hk => by
  rcases (show k = 0 ∨ k = 1 by omega) with rfl | rfl <;> decide
theorem cp_dot {dn mdn dn8 mdn9 p1 p2 p3 p4 : Int32} {U U2 V V2 : Prop} (e : dn = mdn) (hx : ((okD p1 p2 p3 p4 ∧ dn.toInt < 40) ∧ dn8.toInt = dn.toInt + 1 ∧ U) ∨ (¬ (okD p1 p2 p3 p4 ∧ dn.toInt < 40) ∧ dn8 = dn ∧ U2)) (hm : (okD p1 p2 p3 p4 ∧ mdn.toInt < 40 ∧ mdn9.toInt = mdn.toInt + 1 ∧ V) ∨ (¬ (okD p1 p2 p3 p4 ∧ mdn.toInt < 40) ∧ mdn9 = mdn ∧ V2)) : dn8 = mdn9 := by
  subst e
  rcases hx with ⟨q, h1, -⟩ | ⟨q, h1, -⟩
  · rcases hm with ⟨-, -, h2, -⟩ | ⟨q2, -⟩
    · exact Int32.toInt_inj.mp (h1.trans h2.symm)
    · exact absurd q q2
  · rcases hm with ⟨a, c, -⟩ | ⟨-, h2, -⟩
    · exact absurd ⟨a, c⟩ q
    · exact h1.trans h2.symm
def cpD (dn : Int32) (u : Nat → DV) (Ds Dp : Nat → Int32) : Prop := ∀ i : Nat, (i : Int) < dn.toInt → u i = mDV Ds Dp i
theorem cpD_0 {u : Nat → DV} {Ds Dp : Nat → Int32} : cpD 0 u Ds Dp := fun i hi => absurd hi (by rw [show (0 : Int32).toInt = 0 by decide]; omega)
theorem cp_tv {sz th : Int32} {v : Nat → TV} {Fi Ma Db Go Sp : Nat → Int32} (hc : cpT sz th v Fi Ma Db Go Sp) (hV : vOK sz v) : ∀ k : Nat, (k : Int) < th.toInt → tvOK (mTV Fi Ma Db Go Sp k) := fun k hk => by
  obtain ⟨rfl, h⟩ := hc
  obtain ⟨t1, t2, t3, t4, t5⟩ := hV.2 k hk
  obtain ⟨h1, h2, h3, h4, h5⟩ := h k hk
  rw [h1, h2] at t1 t5
  rw [h3] at t2
  rw [h4] at t3
  refine ⟨t1, t2, t3, fun j hj => ?_, t5⟩
  have hj' : (j : Int) < 3 * (v k).2.1.toInt := by rw [h2]; exact hj
  have := t4 j hj'
  rw [h5 j hj'] at this
  exact this
theorem cp_dk {dn mdn : Int32} {L : List Nat} {f : Nat → va_E} {ow : Nat → Nat} {gd : Nat → Option Nat} {u : Nat → DV} {Ds Dp : Nat → Int32} (e : dn = mdn) (hD : dotV L f ow dn gd u) (h : cpD dn u Ds Dp) : ∀ k : Nat, (k : Int) < mdn.toInt → okD (Ds k) (Dp (3 * k)) (Dp (3 * k + 1)) (Dp (3 * k + 2)) := fun k hk => by
  subst e
  obtain ⟨a, -, -, -, -, z⟩ := hD.2 k hk
  rw [h k hk] at z
  exact z
theorem cp_dots {dn mdn dn8 mdn9 p1 p2 p3 p4 : Int32} {u u9 : Nat → DV} {Ds Dp Ds9 Dp9 : Nat → Int32} (e : dn = mdn) (hb : 0 ≤ mdn.toInt ∧ mdn.toInt ≤ 40) (h : cpD dn u Ds Dp) (hx : ((okD p1 p2 p3 p4 ∧ dn.toInt < 40) ∧ dn8.toInt = dn.toInt + 1 ∧ u9 = va_up u dn.toNatClampNeg (p1, p2, p3, p4)) ∨ (¬ (okD p1 p2 p3 p4 ∧ dn.toInt < 40) ∧ dn8 = dn ∧ u9 = u))
    (hm : (okD p1 p2 p3 p4 ∧ mdn.toInt < 40 ∧ mdn9.toInt = mdn.toInt + 1 ∧ Ds9 = upd Ds mdn.toNatClampNeg p1 ∧ Dp9 = st3 Dp (3 * mdn.toInt).toNat p2 p3 p4) ∨ (¬ (okD p1 p2 p3 p4 ∧ mdn.toInt < 40) ∧ mdn9 = mdn ∧ Ds9 = Ds ∧ Dp9 = Dp)) : cpD dn8 u9 Ds9 Dp9 := by
  subst e
  have nd : ((dn.toNatClampNeg : Nat) : Int) = dn.toInt := tc_I hb.1
  rcases hx with ⟨q, e8, rfl⟩ | ⟨q, rfl, rfl⟩
  · rcases hm with ⟨-, -, -, rfl, rfl⟩ | ⟨q2, -⟩
    · intro i hi
      unfold mDV
      by_cases ei : i = dn.toNatClampNeg
      · subst ei
        rw [va_up_self, upd_s, show (3 * dn.toInt).toNat = 3 * dn.toNatClampNeg by omega, st3_at, st3_at, st3_at, if_neg (by omega), if_neg (by omega), if_pos rfl, if_neg (by omega), if_pos rfl, if_pos rfl]
      · rw [va_up_ne _ _ ei, upd_n _ _ ei, st3_off _ _ _ _ _ (by omega), st3_off _ _ _ _ _ (by omega), st3_off _ _ _ _ _ (by omega)]
        exact h i (by omega)
    · exact absurd q q2
  · rcases hm with ⟨a, c, -⟩ | ⟨-, -, rfl, rfl⟩
    · exact absurd ⟨a, c⟩ q
    · exact h
theorem sh_cp {sz th : Int32} {v : Nat → TV} {Fi Ma Db Go Sp : Nat → Int32} (hc : cpT sz th v Fi Ma Db Go Sp) {i j : Nat} (hi : (i : Int) < sz.toInt) (hj : (j : Int) < sz.toInt) {s w : Int} (h1 : hpl (v i) s) (h2 : hpl (v j) s) : shU (v i) (v j) s w = shU (mTV Fi Ma Db Go Sp i) (mTV Fi Ma Db Go Sp j) s w ∧ shL (v i) (v j) = shL (mTV Fi Ma Db Go Sp i) (mTV Fi Ma Db Go Sp j) := by
  have xr : ∀ i : Nat, (i : Int) < sz.toInt → hpl (v i) s → ∀ j : Int, 0 ≤ j → j < 3 → xg (v i).1 (v i).2.2.2.2 s j = xg (mTV Fi Ma Db Go Sp i).1 (mTV Fi Ma Db Go Sp i).2.2.2.2 s j := fun i hi hs j j1 j2 => by
    obtain ⟨h1, h2, -, -, h5⟩ := hc.2 i hi
    show ((v i).2.2.2.2 (ixi (v i).1.toInt s j)).toInt = (Sp (36 * i + ixi (Fi i).toInt s j)).toInt
    rw [h5 _ (by unfold ixi; omega), h1]
  have e1 : (v i).2.2.1 = (mTV Fi Ma Db Go Sp i).2.2.1 := (hc.2 i hi).2.2.1
  have e2 : (v j).2.2.1 = (mTV Fi Ma Db Go Sp j).2.2.1 := (hc.2 j hj).2.2.1
  constructor
  · unfold shU
    rw [xr i hi h1 0 (by omega) (by omega), xr i hi h1 1 (by omega) (by omega), xr i hi h1 2 (by omega) (by omega), xr j hj h2 0 (by omega) (by omega), xr j hj h2 1 (by omega) (by omega), xr j hj h2 2 (by omega) (by omega), e1, e2]
  · unfold shL
    rw [e1, e2]
theorem an_share {sz th wi mwi p1 p2 p3 p4 : Int32} {rx rm : Int64} {v : Nat → TV} {Fi Ma Db Go Sp : Nat → Int32} (hc : cpT sz th v Fi Ma Db Go Sp) (hV : vOK sz v) (e : wi = mwi)
    (hx : (¬ ((0 ≤ p1.toInt ∧ p1.toInt < sz.toInt) ∧ (0 ≤ p2.toInt ∧ p2.toInt < sz.toInt)) ∧ rx = -100001) ∨ (((0 ≤ p1.toInt ∧ p1.toInt < sz.toInt) ∧ (0 ≤ p2.toInt ∧ p2.toInt < sz.toInt)) ∧ ¬ ((0 ≤ p3.toInt ∧ p3.toInt ≤ 39) ∧ (0 ≤ p4.toInt ∧ p4.toInt ≤ 1)) ∧ rx = -100002) ∨ (((0 ≤ p1.toInt ∧ p1.toInt < sz.toInt) ∧ (0 ≤ p2.toInt ∧ p2.toInt < sz.toInt)) ∧ ((0 ≤ p3.toInt ∧ p3.toInt ≤ 39) ∧ (0 ≤ p4.toInt ∧ p4.toInt ≤ 1)) ∧ ¬ (p1.toInt ≠ p2.toInt ∧ hpl (v p1.toNatClampNeg) p3.toInt ∧ hpl (v p2.toNatClampNeg) p3.toInt) ∧ rx = -100003) ∨ (((0 ≤ p1.toInt ∧ p1.toInt < sz.toInt) ∧ (0 ≤ p2.toInt ∧ p2.toInt < sz.toInt)) ∧ ((0 ≤ p3.toInt ∧ p3.toInt ≤ 39) ∧ (0 ≤ p4.toInt ∧ p4.toInt ≤ 1)) ∧ (p1.toInt ≠ p2.toInt ∧ hpl (v p1.toNatClampNeg) p3.toInt ∧ hpl (v p2.toNatClampNeg) p3.toInt) ∧ p4.toInt = 0 ∧ rx.toInt = shU (v p1.toNatClampNeg) (v p2.toNatClampNeg) p3.toInt wi.toInt / (gN (shU (v p1.toNatClampNeg) (v p2.toNatClampNeg) p3.toInt wi.toInt) (shL (v p1.toNatClampNeg) (v p2.toNatClampNeg)) : Nat)) ∨ (((0 ≤ p1.toInt ∧ p1.toInt < sz.toInt) ∧ (0 ≤ p2.toInt ∧ p2.toInt < sz.toInt)) ∧ ((0 ≤ p3.toInt ∧ p3.toInt ≤ 39) ∧ (0 ≤ p4.toInt ∧ p4.toInt ≤ 1)) ∧ (p1.toInt ≠ p2.toInt ∧ hpl (v p1.toNatClampNeg) p3.toInt ∧ hpl (v p2.toNatClampNeg) p3.toInt) ∧ p4.toInt = 1 ∧ rx.toInt = shL (v p1.toNatClampNeg) (v p2.toNatClampNeg) / (gN (shU (v p1.toNatClampNeg) (v p2.toNatClampNeg) p3.toInt wi.toInt) (shL (v p1.toNatClampNeg) (v p2.toNatClampNeg)) : Nat)))
    (hm : (¬ ((0 ≤ p1.toInt ∧ p1.toInt < th.toInt) ∧ (0 ≤ p2.toInt ∧ p2.toInt < th.toInt)) ∧ rm = -100001) ∨ (((0 ≤ p1.toInt ∧ p1.toInt < th.toInt) ∧ (0 ≤ p2.toInt ∧ p2.toInt < th.toInt)) ∧ ¬ ((0 ≤ p3.toInt ∧ p3.toInt ≤ 39) ∧ (0 ≤ p4.toInt ∧ p4.toInt ≤ 1)) ∧ rm = -100002) ∨ (((0 ≤ p1.toInt ∧ p1.toInt < th.toInt) ∧ (0 ≤ p2.toInt ∧ p2.toInt < th.toInt)) ∧ ((0 ≤ p3.toInt ∧ p3.toInt ≤ 39) ∧ (0 ≤ p4.toInt ∧ p4.toInt ≤ 1)) ∧ ¬ (p1.toInt ≠ p2.toInt ∧ hpl (mTV Fi Ma Db Go Sp p1.toNatClampNeg) p3.toInt ∧ hpl (mTV Fi Ma Db Go Sp p2.toNatClampNeg) p3.toInt) ∧ rm = -100003) ∨ (((0 ≤ p1.toInt ∧ p1.toInt < th.toInt) ∧ (0 ≤ p2.toInt ∧ p2.toInt < th.toInt)) ∧ ((0 ≤ p3.toInt ∧ p3.toInt ≤ 39) ∧ (0 ≤ p4.toInt ∧ p4.toInt ≤ 1)) ∧ (p1.toInt ≠ p2.toInt ∧ hpl (mTV Fi Ma Db Go Sp p1.toNatClampNeg) p3.toInt ∧ hpl (mTV Fi Ma Db Go Sp p2.toNatClampNeg) p3.toInt) ∧ p4.toInt = 0 ∧ rm.toInt = shU (mTV Fi Ma Db Go Sp p1.toNatClampNeg) (mTV Fi Ma Db Go Sp p2.toNatClampNeg) p3.toInt mwi.toInt / (gN (shU (mTV Fi Ma Db Go Sp p1.toNatClampNeg) (mTV Fi Ma Db Go Sp p2.toNatClampNeg) p3.toInt mwi.toInt) (shL (mTV Fi Ma Db Go Sp p1.toNatClampNeg) (mTV Fi Ma Db Go Sp p2.toNatClampNeg)) : Nat)) ∨ (((0 ≤ p1.toInt ∧ p1.toInt < th.toInt) ∧ (0 ≤ p2.toInt ∧ p2.toInt < th.toInt)) ∧ ((0 ≤ p3.toInt ∧ p3.toInt ≤ 39) ∧ (0 ≤ p4.toInt ∧ p4.toInt ≤ 1)) ∧ (p1.toInt ≠ p2.toInt ∧ hpl (mTV Fi Ma Db Go Sp p1.toNatClampNeg) p3.toInt ∧ hpl (mTV Fi Ma Db Go Sp p2.toNatClampNeg) p3.toInt) ∧ p4.toInt = 1 ∧ rm.toInt = shL (mTV Fi Ma Db Go Sp p1.toNatClampNeg) (mTV Fi Ma Db Go Sp p2.toNatClampNeg) / (gN (shU (mTV Fi Ma Db Go Sp p1.toNatClampNeg) (mTV Fi Ma Db Go Sp p2.toNatClampNeg) p3.toInt mwi.toInt) (shL (mTV Fi Ma Db Go Sp p1.toNatClampNeg) (mTV Fi Ma Db Go Sp p2.toNatClampNeg)) : Nat))) : rx = rm := by
  subst e
  obtain ⟨rfl, h⟩ := id hc
  by_cases R : (0 ≤ p1.toInt ∧ p1.toInt < sz.toInt) ∧ (0 ≤ p2.toInt ∧ p2.toInt < sz.toInt)
  · have n1 : ((p1.toNatClampNeg : Nat) : Int) = p1.toInt := tc_I R.1.1
    have n2 : ((p2.toNatClampNeg : Nat) : Int) = p2.toInt := tc_I R.2.1
    obtain ⟨a1, a2, -⟩ := h p1.toNatClampNeg (by omega)
    obtain ⟨b1, b2, -⟩ := h p2.toNatClampNeg (by omega)
    have P1 : hpl (v p1.toNatClampNeg) p3.toInt ↔ hpl (mTV Fi Ma Db Go Sp p1.toNatClampNeg) p3.toInt := by
      show _ ↔ (Fi p1.toNatClampNeg).toInt ≤ p3.toInt ∧ p3.toInt < (Fi p1.toNatClampNeg).toInt + (Ma p1.toNatClampNeg).toInt
      rw [← a1, ← a2]
    have P2 : hpl (v p2.toNatClampNeg) p3.toInt ↔ hpl (mTV Fi Ma Db Go Sp p2.toNatClampNeg) p3.toInt := by
      show _ ↔ (Fi p2.toNatClampNeg).toInt ≤ p3.toInt ∧ p3.toInt < (Fi p2.toNatClampNeg).toInt + (Ma p2.toNatClampNeg).toInt
      rw [← b1, ← b2]
    rw [← P1, ← P2] at hm
    rcases hx with ⟨q, -⟩ | ⟨-, q, rfl⟩ | ⟨-, q, q2, rfl⟩ | ⟨-, q, q2, q3, q4⟩ | ⟨-, q, q2, q3, q4⟩
    · exact absurd R q
    · rcases hm with ⟨w, -⟩ | ⟨-, -, rfl⟩ | ⟨-, w, -⟩ | ⟨-, w, -⟩ | ⟨-, w, -⟩
      · exact absurd R w
      · rfl
      · exact absurd w q
      · exact absurd w q
      · exact absurd w q
    · rcases hm with ⟨w, -⟩ | ⟨-, w, -⟩ | ⟨-, -, -, rfl⟩ | ⟨-, -, w, -⟩ | ⟨-, -, w, -⟩
      · exact absurd R w
      · exact absurd q w
      · rfl
      · exact absurd w q2
      · exact absurd w q2
    · obtain ⟨E1, E2⟩ := sh_cp (w := wi.toInt) hc (i := p1.toNatClampNeg) (j := p2.toNatClampNeg) (by omega) (by omega) q2.2.1 q2.2.2
      rcases hm with ⟨w, -⟩ | ⟨-, w, -⟩ | ⟨-, -, w, -⟩ | ⟨-, -, -, -, w⟩ | ⟨-, -, -, w, -⟩
      · exact absurd R w
      · exact absurd q w
      · exact absurd q2 w
      · exact Int64.toInt_inj.mp (by rw [q4, w, E1, E2])
      · omega
    · obtain ⟨E1, E2⟩ := sh_cp (w := wi.toInt) hc (i := p1.toNatClampNeg) (j := p2.toNatClampNeg) (by omega) (by omega) q2.2.1 q2.2.2
      rcases hm with ⟨w, -⟩ | ⟨-, w, -⟩ | ⟨-, -, w, -⟩ | ⟨-, -, -, w, -⟩ | ⟨-, -, -, -, w⟩
      · exact absurd R w
      · exact absurd q w
      · exact absurd q2 w
      · omega
      · exact Int64.toInt_inj.mp (by rw [q4, w, E1, E2])
  · rcases hx with ⟨-, rfl⟩ | ⟨q, -⟩ | ⟨q, -⟩ | ⟨q, -⟩ | ⟨q, -⟩
    · rcases hm with ⟨-, rfl⟩ | ⟨w, -⟩ | ⟨w, -⟩ | ⟨w, -⟩ | ⟨w, -⟩
      · rfl
      · exact absurd w R
      · exact absurd w R
      · exact absurd w R
      · exact absurd w R
    · exact absurd q R
    · exact absurd q R
    · exact absurd q R
    · exact absurd q R
