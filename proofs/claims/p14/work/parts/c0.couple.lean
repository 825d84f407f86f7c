theorem upd_s (F : Nat → Int32) (i : Nat) (x : Int32) : upd F i x i = x := if_pos rfl
theorem upd_n (F : Nat → Int32) {i j : Nat} (x : Int32) (h : j ≠ i) : upd F i x j = F j := if_neg h
theorem st3_at (S : Nat → Int32) (i : Nat) (x y z : Int32) (k : Nat) : st3 S i x y z k = if k = i + 2 then z else if k = i + 1 then y else if k = i then x else S k := rfl
theorem st3_off (S : Nat → Int32) (i : Nat) (x y z : Int32) {k : Nat} (h : k < i ∨ i + 3 ≤ k) : st3 S i x y z k = S k := by
  rw [st3_at, if_neg (by omega), if_neg (by omega), if_neg (by omega)]
theorem st3_rel {S S2 : Nat → Int32} {i i2 k k2 : Nat} {x y z : Int32} (h2 : k = i + 2 ↔ k2 = i2 + 2) (h1 : k = i + 1 ↔ k2 = i2 + 1) (h0 : k = i ↔ k2 = i2) (h : k ≠ i → k ≠ i + 1 → k ≠ i + 2 → S k = S2 k2) : st3 S i x y z k = st3 S2 i2 x y z k2 := by
  rw [st3_at, st3_at]
  by_cases g2 : k = i + 2
  · rw [if_pos g2, if_pos (h2.mp g2)]
  · rw [if_neg g2, if_neg (fun e => g2 (h2.mpr e))]
    by_cases g1 : k = i + 1
    · rw [if_pos g1, if_pos (h1.mp g1)]
    · rw [if_neg g1, if_neg (fun e => g1 (h1.mpr e))]
      by_cases g0 : k = i
      · rw [if_pos g0, if_pos (h0.mp g0)]
      · rw [if_neg g0, if_neg (fun e => g0 (h0.mpr e))]
        exact h g0 g1 g2
/-- the class's things are the reference's -/
def cpT (sz th : Int32) (v : Nat → TV) (Fi Ma Db Go Sp : Nat → Int32) : Prop := sz = th ∧ ∀ i : Nat, (i : Int) < sz.toInt → (v i).1 = Fi i ∧ (v i).2.1 = Ma i ∧ (v i).2.2.1 = Db i ∧ (v i).2.2.2.1 = Go i ∧ ∀ k : Nat, (k : Int) < 3 * (v i).2.1.toInt → (v i).2.2.2.2 k = Sp (36 * i + k)
def vOK (sz : Int32) (v : Nat → TV) : Prop := (0 ≤ sz.toInt ∧ sz.toInt ≤ 16) ∧ ∀ i : Nat, (i : Int) < sz.toInt → tvOK (v i)
theorem nowV_vOK {L : List Nat} {f : Nat → va_E} {cI : ClassId} {ow : Nat → Nat} {sz : Int32} {ga : Nat → Option Nat} {v : Nat → TV} (h : nowV L f cI ow sz ga v) : vOK sz v := ⟨h.1, fun i hi => by
  obtain ⟨a, -, x, -, -, -, -, -, -, ok⟩ := h.2.2 i hi
  exact ok⟩
theorem cp_mOK {sz th : Int32} {v : Nat → TV} {Fi Ma Db Go Sp : Nat → Int32} (hc : cpT sz th v Fi Ma Db Go Sp) (hV : vOK sz v) : mOK th Fi Ma ∧ dOK th Db := by
  obtain ⟨rfl, h⟩ := hc
  refine ⟨⟨hV.1.1, hV.1.2, fun k hk => ?_⟩, fun k hk => ?_⟩
  · obtain ⟨⟨t1, t2, t3, t4⟩, -, -, -, e1, -⟩ := hV.2 k hk
    obtain ⟨h1, h2, -⟩ := h k hk
    rw [← h1, ← h2]; exact ⟨t1, t2, e1, t4⟩
  · obtain ⟨-, ⟨d1, d2⟩, -⟩ := hV.2 k hk
    obtain ⟨-, -, h3, -⟩ := h k hk
    rw [← h3]; exact ⟨d1, d2⟩
theorem cp_gone {sz th p1 : Int32} {v v9 : Nat → TV} {Fi Ma Db Go Go9 Sp : Nat → Int32} (hc : cpT sz th v Fi Ma Db Go Sp) (hV : vOK sz v)
    (hx : ((0 ≤ p1.toInt ∧ p1.toInt < sz.toInt) ∧ ((v p1.toNatClampNeg).2.2.2.1.toInt = 0) ∧ v9 = va_up v p1.toNatClampNeg (tvGo (v p1.toNatClampNeg))) ∨ (¬ ((0 ≤ p1.toInt ∧ p1.toInt < sz.toInt) ∧ ((v p1.toNatClampNeg).2.2.2.1.toInt = 0)) ∧ v9 = v))
    (hm : ((((0 ≤ p1.toInt ∧ p1.toInt < th.toInt) ∧ (Go p1.toNatClampNeg).toInt = 0) ∧ Go9 = upd Go p1.toNatClampNeg (vp_nar .boolean 1)) ∨ (¬ ((0 ≤ p1.toInt ∧ p1.toInt < th.toInt) ∧ (Go p1.toNatClampNeg).toInt = 0) ∧ Go9 = Go))) : cpT sz th v9 Fi Ma Db Go9 Sp := by
  obtain ⟨rfl, h⟩ := id hc
  have key : (0 ≤ p1.toInt ∧ p1.toInt < sz.toInt) → (v p1.toNatClampNeg).2.2.2.1.toInt = (Go p1.toNatClampNeg).toInt := fun q => by
    have ni : ((p1.toNatClampNeg : Nat) : Int) = p1.toInt := tc_I q.1
    rw [(h p1.toNatClampNeg (by omega)).2.2.2.1]
  rcases hx with ⟨q, g0, rfl⟩ | ⟨q, rfl⟩
  · rcases hm with ⟨-, rfl⟩ | ⟨q2, -⟩
    · refine ⟨rfl, fun j hj => ?_⟩
      by_cases e : j = p1.toNatClampNeg
      · subst e
        obtain ⟨h1, h2, h3, -, h5⟩ := h p1.toNatClampNeg hj
        rw [va_up_self]
        exact ⟨h1, h2, h3, (upd_s _ _ _).symm, h5⟩
      · rw [va_up_ne _ _ e, upd_n _ _ e]
        exact h j hj
    · exact absurd ⟨q, by rw [← key q]; exact g0⟩ q2
  · rcases hm with ⟨⟨q1, q2⟩, -⟩ | ⟨-, rfl⟩
    · exact absurd ⟨q1, by rw [key q1]; exact q2⟩ q
    · exact hc
theorem cp_thing {sz sz8 th th9 p1 p2 p3 p4 p5 : Int32} {v v9 : Nat → TV} {Fi Ma Db Go Sp Fi9 Ma9 Db9 Go9 Sp9 : Nat → Int32} (hc : cpT sz th v Fi Ma Db Go Sp) (hV : vOK sz v)
    (hx : (((okT p1 p2 p3 p4 p5 ∧ sz.toInt < 16) ∧ sz8.toInt = sz.toInt + 1 ∧ v9 = va_up v sz.toNatClampNeg (p1, 1, p5, 0, st3 (fun _ => 0) 0 p2 p3 p4)) ∨ (¬ (okT p1 p2 p3 p4 p5 ∧ sz.toInt < 16) ∧ sz8 = sz ∧ v9 = v)))
    (hm : ((okT p1 p2 p3 p4 p5 ∧ th.toInt < 16 ∧ th9.toInt = th.toInt + 1 ∧ Fi9 = upd Fi th.toNatClampNeg p1 ∧ Ma9 = upd (upd Ma th.toNatClampNeg 0) th.toNatClampNeg 1 ∧ Db9 = upd Db th.toNatClampNeg p5 ∧ Go9 = upd Go th.toNatClampNeg (vp_nar .boolean 0) ∧ Sp9 = st3 Sp (36 * th.toInt + 3 * (0 : Int32).toInt).toNat p2 p3 p4) ∨ (¬ (okT p1 p2 p3 p4 p5 ∧ th.toInt < 16) ∧ th9 = th ∧ Fi9 = Fi ∧ Ma9 = Ma ∧ Db9 = Db ∧ Go9 = Go ∧ Sp9 = Sp))) : cpT sz8 th9 v9 Fi9 Ma9 Db9 Go9 Sp9 := by
  obtain ⟨rfl, h⟩ := id hc
  have k0 : (0 : Int32).toInt = 0 := by decide
  have k1 : (1 : Int32).toInt = 1 := by decide
  obtain ⟨⟨z0, z1⟩, hv⟩ := id hV
  have nz : ((sz.toNatClampNeg : Nat) : Int) = sz.toInt := tc_I z0
  rcases hx with ⟨⟨q, q16⟩, e8, rfl⟩ | ⟨q, rfl, rfl⟩
  · rcases hm with ⟨-, -, e9, rfl, rfl, rfl, rfl, rfl⟩ | ⟨q2, -⟩
    · refine ⟨Int32.toInt_inj.mp (by omega), fun j hj => ?_⟩
      by_cases e : j = sz.toNatClampNeg
      · subst e
        rw [va_up_self, upd_s, upd_s, upd_s, upd_s]
        refine ⟨rfl, rfl, rfl, rfl, fun k hk => ?_⟩
        have hk3 : k < 3 := by
          have : (k : Int) < 3 * (1 : Int32).toInt := hk
          omega
        show st3 (fun _ => 0) 0 p2 p3 p4 k = st3 Sp _ p2 p3 p4 _
        rw [st3_at, st3_at]
        rcases (show k = 0 ∨ k = 1 ∨ k = 2 by omega) with rfl | rfl | rfl
        · rw [if_neg (by omega), if_neg (by omega), if_pos (by omega), if_neg (by omega), if_neg (by omega), if_pos (by omega)]
        · rw [if_neg (by omega), if_pos (by omega), if_neg (by omega), if_pos (by omega)]
        · rw [if_pos (by omega), if_pos (by omega)]
      · rw [va_up_ne _ _ e, upd_n _ _ e, upd_n _ _ e, upd_n _ _ e, upd_n _ _ e, upd_n _ _ e]
        obtain ⟨h1, h2, h3, h4, h5⟩ := h j (by omega)
        obtain ⟨⟨-, -, -, t4⟩, -⟩ := hv j (by omega)
        refine ⟨h1, h2, h3, h4, fun k hk => ?_⟩
        rw [st3_off _ _ _ _ _ (by omega)]
        exact h5 k hk
    · exact absurd ⟨q, q16⟩ q2
  · rcases hm with ⟨q1, q2, -⟩ | ⟨-, rfl, rfl, rfl, rfl, rfl, rfl⟩
    · exact absurd ⟨q1, q2⟩ q
    · exact hc
theorem cp_place {sz th p1 p2 p3 p4 : Int32} {v v9 : Nat → TV} {Fi Ma Db Go Sp Ma9 Sp9 : Nat → Int32} (hc : cpT sz th v Fi Ma Db Go Sp) (hV : vOK sz v)
    (hx : (((0 ≤ p1.toInt ∧ p1.toInt < sz.toInt) ∧ inP p2 p3 p4 ∧ (((v p1.toNatClampNeg).2.2.2.1.toInt = 0) ∧ (v p1.toNatClampNeg).1.toInt + (v p1.toNatClampNeg).2.1.toInt ≤ 39) ∧ (v p1.toNatClampNeg).2.1.toInt ≠ 12) ∧ v9 = va_up v p1.toNatClampNeg ((v p1.toNatClampNeg).1, (v p1.toNatClampNeg).2.1 + 1, (v p1.toNatClampNeg).2.2.1, (v p1.toNatClampNeg).2.2.2.1, st3 (v p1.toNatClampNeg).2.2.2.2 (3 * (v p1.toNatClampNeg).2.1.toInt).toNat p2 p3 p4)) ∨ (¬ ((0 ≤ p1.toInt ∧ p1.toInt < sz.toInt) ∧ inP p2 p3 p4 ∧ (((v p1.toNatClampNeg).2.2.2.1.toInt = 0) ∧ (v p1.toNatClampNeg).1.toInt + (v p1.toNatClampNeg).2.1.toInt ≤ 39) ∧ (v p1.toNatClampNeg).2.1.toInt ≠ 12) ∧ v9 = v))
    (hm : ((((0 ≤ p1.toInt ∧ p1.toInt < th.toInt) ∧ inP p2 p3 p4 ∧ ((Go p1.toNatClampNeg).toInt = 0 ∧ (Fi p1.toNatClampNeg).toInt + (Ma p1.toNatClampNeg).toInt ≤ 39) ∧ (Ma p1.toNatClampNeg).toInt ≠ 12) ∧ Ma9 = upd Ma p1.toNatClampNeg (Ma p1.toNatClampNeg + 1) ∧ Sp9 = st3 Sp (36 * p1.toInt + 3 * (Ma p1.toNatClampNeg).toInt).toNat p2 p3 p4) ∨ (¬ ((0 ≤ p1.toInt ∧ p1.toInt < th.toInt) ∧ inP p2 p3 p4 ∧ ((Go p1.toNatClampNeg).toInt = 0 ∧ (Fi p1.toNatClampNeg).toInt + (Ma p1.toNatClampNeg).toInt ≤ 39) ∧ (Ma p1.toNatClampNeg).toInt ≠ 12) ∧ Ma9 = Ma ∧ Sp9 = Sp))) : cpT sz th v9 Fi Ma9 Db Go Sp9 := by
  obtain ⟨rfl, h⟩ := id hc
  obtain ⟨⟨z0, z1⟩, hv⟩ := id hV
  have k1 : (1 : Int32).toInt = 1 := by decide
  by_cases R : 0 ≤ p1.toInt ∧ p1.toInt < sz.toInt
  · have ni : ((p1.toNatClampNeg : Nat) : Int) = p1.toInt := tc_I R.1
    generalize p1.toNatClampNeg = i at *
    obtain ⟨h1, h2, h3, h4, h5⟩ := h i (by omega)
    obtain ⟨⟨-, -, t3, t4⟩, -⟩ := hv i (by omega)
    have c1 := congrArg Int32.toInt h1
    have c2 := congrArg Int32.toInt h2
    have c4 := congrArg Int32.toInt h4
    rcases hx with ⟨q, rfl⟩ | ⟨q, rfl⟩
    · rcases hm with ⟨-, rfl, rfl⟩ | ⟨q2, -⟩
      · have hp1 : ((v i).2.1 + 1).toInt = (v i).2.1.toInt + 1 := by rw [fb_addI (by omega) (by omega), k1]
        refine ⟨rfl, fun j hj => ?_⟩
        by_cases e : j = i
        · subst e
          rw [va_up_self, upd_s]
          refine ⟨h1, by rw [← h2], h3, h4, fun k hk => ?_⟩
          have hk' : (k : Int) < 3 * ((v j).2.1 + 1).toInt := hk
          exact st3_rel (by omega) (by omega) (by omega) (fun g0 g1 g2 => h5 k (by omega))
        · rw [va_up_ne _ _ e, upd_n _ _ e]
          obtain ⟨g1, g2, g3, g4, g5⟩ := h j hj
          obtain ⟨⟨-, -, -, u4⟩, -⟩ := hv j hj
          refine ⟨g1, g2, g3, g4, fun k hk => ?_⟩
          rw [st3_off _ _ _ _ _ (by omega)]
          exact g5 k hk
      · exact absurd ⟨q.1, q.2.1, ⟨by omega, by omega⟩, by omega⟩ q2
    · rcases hm with ⟨q2, -⟩ | ⟨-, rfl, rfl⟩
      · exact absurd ⟨q2.1, q2.2.1, ⟨by omega, by omega⟩, by omega⟩ q
      · exact hc
  · rcases hx with ⟨q, -⟩ | ⟨-, rfl⟩
    · exact absurd q.1 R
    · rcases hm with ⟨q2, -⟩ | ⟨-, rfl, rfl⟩
      · exact absurd q2.1 R
      · exact hc
/-- a row seen in the whole -/
theorem mv_row {g Sp : Nat → Int32} {q n b m : Nat} {x y z : Int32} (h : ∀ k : Nat, k < m → g k = Sp (b + k)) (hm : q + 3 * n ≤ m) : ∀ k : Nat, k < m → mvK g q x y z n k = mvK Sp (b + q) x y z n (b + k) := fun k hk => by
  by_cases ho : k < q ∨ q + 3 * n ≤ k
  · rw [mvK_off g q x y z n k ho, mvK_off Sp (b + q) x y z n (b + k) (by omega)]; exact h k hk
  · obtain ⟨d, r, hr, rfl⟩ : ∃ d r : Nat, r < 3 ∧ k = q + 3 * d + r := ⟨(k - q) / 3, (k - q) % 3, Nat.mod_lt _ (by omega), by omega⟩
    have hd : d < n := by omega
    obtain ⟨i1, i2, i3⟩ := mvK_in g q x y z n d hd
    obtain ⟨j1, j2, j3⟩ := mvK_in Sp (b + q) x y z n d hd
    rcases (show r = 0 ∨ r = 1 ∨ r = 2 by omega) with rfl | rfl | rfl
    · rw [show b + (q + 3 * d + 0) = b + q + 3 * d by omega, Nat.add_zero, i1, j1, h _ (by omega), show b + (q + 3 * d) = b + q + 3 * d by omega]
    · rw [show b + (q + 3 * d + 1) = b + q + 3 * d + 1 by omega, i2, j2, h _ (by omega), show b + (q + 3 * d + 1) = b + q + 3 * d + 1 by omega]
    · rw [show b + (q + 3 * d + 2) = b + q + 3 * d + 2 by omega, i3, j3, h _ (by omega), show b + (q + 3 * d + 2) = b + q + 3 * d + 2 by omega]
theorem st_row {g Sp : Nat → Int32} {q n b m : Nat} {x y z : Int32} (h : ∀ k : Nat, k < m → g k = Sp (b + k)) (hm : q + 3 * n ≤ m) : stK g q x y z n ↔ stK Sp (b + q) x y z n := by
  have e : ∀ j : Nat, j < n → g (q + 3 * j) = Sp (b + q + 3 * j) ∧ g (q + 3 * j + 1) = Sp (b + q + 3 * j + 1) ∧ g (q + 3 * j + 2) = Sp (b + q + 3 * j + 2) := fun j hj => by
    refine ⟨?_, ?_, ?_⟩
    · rw [h _ (by omega), show b + (q + 3 * j) = b + q + 3 * j by omega]
    · rw [h _ (by omega), show b + (q + 3 * j + 1) = b + q + 3 * j + 1 by omega]
    · rw [h _ (by omega), show b + (q + 3 * j + 2) = b + q + 3 * j + 2 by omega]
  constructor
  · intro w j hj
    obtain ⟨a1, a2, a3⟩ := e j hj
    rw [← a1, ← a2, ← a3]; exact w j hj
  · intro w j hj
    obtain ⟨a1, a2, a3⟩ := e j hj
    rw [a1, a2, a3]; exact w j hj
theorem cp_burn {sz th p1 p2 p3 p4 p5 : Int32} {v v9 : Nat → TV} {Fi Ma Db Go Sp Sp9 : Nat → Int32} (hc : cpT sz th v Fi Ma Db Go Sp) (hV : vOK sz v)
    (hx : ((((0 ≤ p1.toInt ∧ p1.toInt < sz.toInt) ∧ bRng (v p1.toNatClampNeg) p2 p3 p4 p5) ∧ bSt (v p1.toNatClampNeg) p2 p3 p4 p5) ∧ v9 = va_up v p1.toNatClampNeg (bDo (v p1.toNatClampNeg) p2 p3 p4 p5)) ∨ (¬ (((0 ≤ p1.toInt ∧ p1.toInt < sz.toInt) ∧ bRng (v p1.toNatClampNeg) p2 p3 p4 p5) ∧ bSt (v p1.toNatClampNeg) p2 p3 p4 p5) ∧ v9 = v))
    (hm : ((((0 ≤ p1.toInt ∧ p1.toInt < th.toInt) ∧ ((Fi p1.toNatClampNeg).toInt ≤ p2.toInt ∧ p2.toInt < (Fi p1.toNatClampNeg).toInt + (Ma p1.toNatClampNeg).toInt) ∧ ((-2 ≤ p3.toInt ∧ p3.toInt ≤ 2) ∧ (-2 ≤ p4.toInt ∧ p4.toInt ≤ 2) ∧ (-2 ≤ p5.toInt ∧ p5.toInt ≤ 2)) ∧ ¬ (p3.toInt = 0 ∧ p4.toInt = 0 ∧ p5.toInt = 0) ∧ (Go p1.toNatClampNeg).toInt = 0) ∧ stK Sp (36 * p1.toInt + 3 * (p2.toInt + 1 - (Fi p1.toNatClampNeg).toInt)).toNat p3 p4 p5 ((Fi p1.toNatClampNeg).toInt + (Ma p1.toNatClampNeg).toInt - 1 - p2.toInt).toNat) ∧ Sp9 = mvK Sp (36 * p1.toInt + 3 * (p2.toInt + 1 - (Fi p1.toNatClampNeg).toInt)).toNat p3 p4 p5 ((Fi p1.toNatClampNeg).toInt + (Ma p1.toNatClampNeg).toInt - 1 - p2.toInt).toNat) ∨ (¬ (((0 ≤ p1.toInt ∧ p1.toInt < th.toInt) ∧ ((Fi p1.toNatClampNeg).toInt ≤ p2.toInt ∧ p2.toInt < (Fi p1.toNatClampNeg).toInt + (Ma p1.toNatClampNeg).toInt) ∧ ((-2 ≤ p3.toInt ∧ p3.toInt ≤ 2) ∧ (-2 ≤ p4.toInt ∧ p4.toInt ≤ 2) ∧ (-2 ≤ p5.toInt ∧ p5.toInt ≤ 2)) ∧ ¬ (p3.toInt = 0 ∧ p4.toInt = 0 ∧ p5.toInt = 0) ∧ (Go p1.toNatClampNeg).toInt = 0) ∧ stK Sp (36 * p1.toInt + 3 * (p2.toInt + 1 - (Fi p1.toNatClampNeg).toInt)).toNat p3 p4 p5 ((Fi p1.toNatClampNeg).toInt + (Ma p1.toNatClampNeg).toInt - 1 - p2.toInt).toNat) ∧ Sp9 = Sp)) : cpT sz th v9 Fi Ma Db Go Sp9 := by
  obtain ⟨rfl, h⟩ := id hc
  obtain ⟨⟨z0, z1⟩, hv⟩ := id hV
  by_cases R : 0 ≤ p1.toInt ∧ p1.toInt < sz.toInt
  · have ni : ((p1.toNatClampNeg : Nat) : Int) = p1.toInt := tc_I R.1
    generalize p1.toNatClampNeg = i at *
    obtain ⟨h1, h2, h3, h4, h5⟩ := h i (by omega)
    obtain ⟨⟨t1, t2, t3, t4⟩, -⟩ := hv i (by omega)
    have c1 := congrArg Int32.toInt h1
    have c2 := congrArg Int32.toInt h2
    have c4 := congrArg Int32.toInt h4
    have hrow : ∀ k : Nat, k < (3 * (v i).2.1.toInt).toNat → (v i).2.2.2.2 k = Sp (36 * i + k) := fun k hk => h5 k (by omega)
    by_cases R2 : (v i).1.toInt ≤ p2.toInt ∧ p2.toInt < (v i).1.toInt + (v i).2.1.toInt
    · have eN : ((Fi i).toInt + (Ma i).toInt - 1 - p2.toInt).toNat = dfN (v i) p2 := by unfold dfN; omega
      have eQ : (36 * p1.toInt + 3 * (p2.toInt + 1 - (Fi i).toInt)).toNat = 36 * i + dfQ (v i) p2 := by unfold dfQ; omega
      have hmx : dfQ (v i) p2 + 3 * dfN (v i) p2 ≤ (3 * (v i).2.1.toInt).toNat := by unfold dfQ dfN; omega
      have hst := st_row (x := p3) (y := p4) (z := p5) hrow hmx
      rw [eN, eQ] at hm
      rcases hx with ⟨q, rfl⟩ | ⟨q, rfl⟩
      · rcases hm with ⟨-, rfl⟩ | ⟨q2, -⟩
        · refine ⟨rfl, fun j hj => ?_⟩
          by_cases e : j = i
          · subst e
            rw [va_up_self]
            refine ⟨h1, h2, h3, h4, fun k hk => ?_⟩
            exact mv_row hrow hmx k (by have : (k : Int) < 3 * (v j).2.1.toInt := hk; omega)
          · rw [va_up_ne _ _ e]
            obtain ⟨g1, g2, g3, g4, g5⟩ := h j hj
            obtain ⟨⟨-, -, -, u4⟩, -⟩ := hv j hj
            refine ⟨g1, g2, g3, g4, fun k hk => ?_⟩
            rw [mvK_off _ _ _ _ _ _ _ (by omega)]
            exact g5 k hk
        · refine absurd ⟨⟨R, ?_, q.1.2.2.1, q.1.2.2.2.1, ?_⟩, hst.mp q.2⟩ q2
          · omega
          · have := q.1.2.2.2.2; omega
      · rcases hm with ⟨q2, -⟩ | ⟨-, rfl⟩
        · refine absurd ⟨⟨R, R2, q2.1.2.2.1, q2.1.2.2.2.1, ?_⟩, hst.mpr q2.2⟩ q
          have := q2.1.2.2.2.2; omega
        · exact hc
    · rcases hx with ⟨q, -⟩ | ⟨-, rfl⟩
      · exact absurd q.1.2.1 R2
      · rcases hm with ⟨q2, -⟩ | ⟨-, rfl⟩
        · exact absurd (by have := q2.1.2.1; omega) R2
        · exact hc
  · rcases hx with ⟨q, -⟩ | ⟨-, rfl⟩
    · exact absurd q.1.1 R
    · rcases hm with ⟨q2, -⟩ | ⟨-, rfl⟩
      · exact absurd q2.1.1 R
      · exact hc
