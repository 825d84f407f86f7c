theorem nowV_0 {f : Nat → va_E} {cI : ClassId} {ow : Nat → Nat} {v : Nat → TV} : nowV [] f cI ow 0 (fun _ => none) v := ⟨⟨by decide, by decide⟩, fun _ _ => rfl, fun i hi => absurd hi (by rw [show (0 : Int32).toInt = 0 by decide]; omega)⟩
theorem shV_0 {f : Nat → va_E} {cI : ClassId} {ow : Nat → Nat} {base : Nat} : shV [] f cI ow base 0 (fun _ => none) := ⟨⟨by decide, by decide⟩, fun i hi a h => (by cases h), fun i hi => absurd hi (by rw [show (0 : Int32).toInt = 0 by decide]; omega)⟩
theorem dotV_0 {f : Nat → va_E} {ow : Nat → Nat} {u : Nat → DV} : dotV [] f ow 0 (fun _ => none) u := ⟨⟨by decide, by decide⟩, fun i hi => absurd hi (by rw [show (0 : Int32).toInt = 0 by decide]; omega)⟩
theorem notV_0 {f : Nat → va_E} {ow : Nat → Nat} {w : Nat → NV} : notV [] f ow 0 (fun _ => none) w := ⟨⟨by decide, by decide⟩, fun i hi => absurd hi (by rw [show (0 : Int32).toInt = 0 by decide]; omega)⟩
theorem cpT_0 {v : Nat → TV} {Fi Ma Db Go Sp : Nat → Int32} : cpT 0 0 v Fi Ma Db Go Sp := ⟨rfl, fun i hi => absurd hi (by rw [show (0 : Int32).toInt = 0 by decide]; omega)⟩
theorem sm_0 : ∀ k : Nat, k < 2 → (upd (upd (fun _ => 0) (0 : Int32).toNatClampNeg (-1)) (1 : Int32).toNatClampNeg (-1) k).toInt ≤ 16 := fun k hk => by
  rcases (show k = 0 ∨ k = 1 by omega) with rfl | rfl <;> decide
theorem cp_dot {dn mdn dn8 mdn9 p1 p2 p3 p4 : Int32} {U U2 V V2 : Prop} (e : dn = mdn) (hx : ((okD p1 p2 p3 p4 ∧ dn.toInt < 40) ∧ dn8.toInt = dn.toInt + 1 ∧ U) ∨ (¬ (okD p1 p2 p3 p4 ∧ dn.toInt < 40) ∧ dn8 = dn ∧ U2)) (hm : (okD p1 p2 p3 p4 ∧ mdn.toInt < 40 ∧ mdn9.toInt = mdn.toInt + 1 ∧ V) ∨ (¬ (okD p1 p2 p3 p4 ∧ mdn.toInt < 40) ∧ mdn9 = mdn ∧ V2)) : dn8 = mdn9 := by
  subst e
  rcases hx with ⟨q, h1, -⟩ | ⟨q, h1, -⟩
  · rcases hm with ⟨-, -, h2, -⟩ | ⟨q2, -⟩
    · exact Int32.toInt_inj.mp (h1.trans h2.symm)
    · exact absurd q q2
  · rcases hm with ⟨a, c, -⟩ | ⟨-, h2, -⟩
    · exact absurd ⟨a, c⟩ q
    · exact h1.trans h2.symm
def cpD (dn : Int32) (u : Nat → DV) (Ds Dp : Nat → Int32) : Prop := ∀ i : Nat, (i : Int) < dn.toInt → u i = mDV Ds Dp i
theorem cpD_0 {u : Nat → DV} {Ds Dp : Nat → Int32} : cpD 0 u Ds Dp := fun i hi => absurd hi (by rw [show (0 : Int32).toInt = 0 by decide]; omega)
theorem cp_tv {sz th : Int32} {v : Nat → TV} {Fi Ma Db Go Sp : Nat → Int32} (hc : cpT sz th v Fi Ma Db Go Sp) (hV : vOK sz v) : ∀ k : Nat, (k : Int) < th.toInt → tvOK (mTV Fi Ma Db Go Sp k) := fun k hk => by
  obtain ⟨rfl, h⟩ := hc
  obtain ⟨t1, t2, t3, t4, t5⟩ := hV.2 k hk
  obtain ⟨h1, h2, h3, h4, h5⟩ := h k hk
  rw [h1, h2] at t1 t5
  rw [h3] at t2
  rw [h4] at t3
  refine ⟨t1, t2, t3, fun j hj => ?_, t5⟩
  have hj' : (j : Int) < 3 * (v k).2.1.toInt := by rw [h2]; exact hj
  have := t4 j hj'
  rw [h5 j hj'] at this
  exact this
theorem cp_dk {dn mdn : Int32} {L : List Nat} {f : Nat → va_E} {ow : Nat → Nat} {gd : Nat → Option Nat} {u : Nat → DV} {Ds Dp : Nat → Int32} (e : dn = mdn) (hD : dotV L f ow dn gd u) (h : cpD dn u Ds Dp) : ∀ k : Nat, (k : Int) < mdn.toInt → okD (Ds k) (Dp (3 * k)) (Dp (3 * k + 1)) (Dp (3 * k + 2)) := fun k hk => by
  subst e
  obtain ⟨a, -, -, -, -, z⟩ := hD.2 k hk
  rw [h k hk] at z
  exact z
theorem cp_dots {dn mdn dn8 mdn9 p1 p2 p3 p4 : Int32} {u u9 : Nat → DV} {Ds Dp Ds9 Dp9 : Nat → Int32} (e : dn = mdn) (hb : 0 ≤ mdn.toInt ∧ mdn.toInt ≤ 40) (h : cpD dn u Ds Dp) (hx : ((okD p1 p2 p3 p4 ∧ dn.toInt < 40) ∧ dn8.toInt = dn.toInt + 1 ∧ u9 = va_up u dn.toNatClampNeg (p1, p2, p3, p4)) ∨ (¬ (okD p1 p2 p3 p4 ∧ dn.toInt < 40) ∧ dn8 = dn ∧ u9 = u))
    (hm : (okD p1 p2 p3 p4 ∧ mdn.toInt < 40 ∧ mdn9.toInt = mdn.toInt + 1 ∧ Ds9 = upd Ds mdn.toNatClampNeg p1 ∧ Dp9 = st3 Dp (3 * mdn.toInt).toNat p2 p3 p4) ∨ (¬ (okD p1 p2 p3 p4 ∧ mdn.toInt < 40) ∧ mdn9 = mdn ∧ Ds9 = Ds ∧ Dp9 = Dp)) : cpD dn8 u9 Ds9 Dp9 := by
  subst e
  have nd : ((dn.toNatClampNeg : Nat) : Int) = dn.toInt := tc_I hb.1
  rcases hx with ⟨q, e8, rfl⟩ | ⟨q, rfl, rfl⟩
  · rcases hm with ⟨-, -, -, rfl, rfl⟩ | ⟨q2, -⟩
    · intro i hi
      unfold mDV
      by_cases ei : i = dn.toNatClampNeg
      · subst ei
        rw [va_up_self, upd_s, show (3 * dn.toInt).toNat = 3 * dn.toNatClampNeg by omega, st3_at, st3_at, st3_at, if_neg (by omega), if_neg (by omega), if_pos rfl, if_neg (by omega), if_pos rfl, if_pos rfl]
      · rw [va_up_ne _ _ ei, upd_n _ _ ei, st3_off _ _ _ _ _ (by omega), st3_off _ _ _ _ _ (by omega), st3_off _ _ _ _ _ (by omega)]
        exact h i (by omega)
    · exact absurd q q2
  · rcases hm with ⟨a, c, -⟩ | ⟨-, -, rfl, rfl⟩
    · exact absurd ⟨a, c⟩ q
    · exact h
