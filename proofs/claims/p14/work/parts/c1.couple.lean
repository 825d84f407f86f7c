theorem zm_I (x a : Int32) : x + nI 0 * a = x := by
  rw [show nI 0 = 0 from rfl]; simp
theorem mz_I (x : Int32) (j : Nat) : x + nI j * 0 = x := by simp
theorem in_0 : -5000 ≤ (0 : Int32).toInt ∧ (0 : Int32).toInt ≤ 5000 := by decide
/-- one part stays inside: the class's words and the reference's -/
theorem gs_one {g Sp : Nat → Int32} {Q q b m M : Nat} {x y : Int32} (h : ∀ k : Nat, k < m → g k = Sp (b + k)) (hco : ∀ k : Nat, k < m → -5000 ≤ (g k).toInt ∧ (g k).toInt ≤ 5000) (hQ : Q = q + 3) (hm : Q + 3 * M ≤ m) : stK g Q x y 0 M ↔ gdI Sp (b + q) x y (M + 1) := by
  constructor
  · intro w k hk
    rcases Nat.eq_zero_or_pos k with e | e
    · subst e
      rw [zm_I, zm_I, show b + q + 3 * 0 = b + q by omega, show b + q + 1 = b + (q + 1) by omega, ← h q (by omega), ← h (q + 1) (by omega)]
      exact ⟨hco q (by omega), hco (q + 1) (by omega), in_0⟩
    · obtain ⟨j, rfl⟩ : ∃ j, k = j + 1 := ⟨k - 1, by omega⟩
      obtain ⟨w1, w2, -⟩ := w j (by omega)
      rw [h _ (by omega), show b + (Q + 3 * j) = b + q + 3 * (j + 1) by omega] at w1
      rw [h _ (by omega), show b + (Q + 3 * j + 1) = b + q + 3 * (j + 1) + 1 by omega] at w2
      exact ⟨w1, w2, in_0⟩
  · intro w j hj
    obtain ⟨w1, w2, -⟩ := w (j + 1) (by omega)
    rw [h (Q + 3 * j) (by omega), h (Q + 3 * j + 1) (by omega), mz_I, show b + (Q + 3 * j) = b + q + 3 * (j + 1) by omega, show b + (Q + 3 * j + 1) = b + q + 3 * (j + 1) + 1 by omega]
    exact ⟨w1, w2, hco (Q + 3 * j + 2) (by omega)⟩
theorem bkK_in (S0 S : Nat → Int32) (src dst : Nat) (a b : Int32) : ∀ (n j : Nat), j < n → bkK S0 S src dst a b n (dst + 3 * j) = S0 (src + 3 * j) + nI j * a ∧ bkK S0 S src dst a b n (dst + 3 * j + 1) = S0 (src + 3 * j + 1) + nI j * b ∧ bkK S0 S src dst a b n (dst + 3 * j + 2) = S0 (src + 3 * j + 2)
  | 0, _, h => absurd h (Nat.not_lt_zero _)
  | n + 1, j, h => by
    rcases Nat.lt_or_ge j n with h1 | h1
    · obtain ⟨i1, i2, i3⟩ := bkK_in S0 S src dst a b n j h1
      refine ⟨?_, ?_, ?_⟩
      · show st3 _ _ _ _ _ _ = _
        rw [st3_off _ _ _ _ _ (by omega), i1]
      · show st3 _ _ _ _ _ _ = _
        rw [st3_off _ _ _ _ _ (by omega), i2]
      · show st3 _ _ _ _ _ _ = _
        rw [st3_off _ _ _ _ _ (by omega), i3]
    · have e : j = n := by omega
      subst e
      refine ⟨?_, ?_, ?_⟩
      · show st3 _ _ _ _ _ _ = _
        rw [st3_at, if_neg (by omega), if_neg (by omega), if_pos rfl]
      · show st3 _ _ _ _ _ _ = _
        rw [st3_at, if_neg (by omega), if_pos rfl]
      · show st3 _ _ _ _ _ _ = _
        rw [st3_at, if_pos rfl]
theorem bkN_in (S0 : Nat → Int32) (src th left : Nat) (n : Int32) (hl : 3 * left ≤ 36) : ∀ (i k j : Nat), k < i → j < left → bkN S0 src th left n i (36 * (th + k) + 3 * j) = S0 (src + 3 * j) + nI j * dX (nI k) n ∧ bkN S0 src th left n i (36 * (th + k) + 3 * j + 1) = S0 (src + 3 * j + 1) + nI j * dY (nI k) ∧ bkN S0 src th left n i (36 * (th + k) + 3 * j + 2) = S0 (src + 3 * j + 2)
  | 0, _, _, h, _ => absurd h (Nat.not_lt_zero _)
  | i + 1, k, j, h, hj => by
    rcases Nat.lt_or_ge k i with h1 | h1
    · obtain ⟨i1, i2, i3⟩ := bkN_in S0 src th left n hl i k j h1 hj
      refine ⟨?_, ?_, ?_⟩
      · show bkK _ _ _ _ _ _ left _ = _
        rw [bkK_off _ _ _ _ _ _ left _ (by omega), i1]
      · show bkK _ _ _ _ _ _ left _ = _
        rw [bkK_off _ _ _ _ _ _ left _ (by omega), i2]
      · show bkK _ _ _ _ _ _ left _ = _
        rw [bkK_off _ _ _ _ _ _ left _ (by omega), i3]
    · have e : k = i := by omega
      subst e
      exact bkK_in S0 _ src (36 * (th + k)) _ _ left j hj
theorem bkN_lo (S0 : Nat → Int32) (src th left : Nat) (n : Int32) (i k : Nat) (h : k < 36 * th) : bkN S0 src th left n i k = S0 k := bkN_off S0 src th left n i k h
theorem upN_in (F : Nat → Int32) (th : Nat) (x : Int32) : ∀ (i k : Nat), k < i → upN F th x i (th + k) = x
  | 0, _, h => absurd h (Nat.not_lt_zero _)
  | i + 1, k, h => by
    show upd (upN F th x i) (th + i) x (th + k) = x
    by_cases e : k = i
    · subst e; exact upd_s _ _ _
    · rw [upd_n _ _ (by omega)]; exact upN_in F th x i k (by omega)
theorem maN_in (F : Nat → Int32) (th : Nat) (x : Int32) : ∀ (i k : Nat), k < i → maN F th x i (th + k) = x
  | 0, _, h => absurd h (Nat.not_lt_zero _)
  | i + 1, k, h => by
    show upd (upd (maN F th x i) (th + i) 0) (th + i) x (th + k) = x
    by_cases e : k = i
    · subst e; exact upd_s _ _ _
    · rw [upd_n _ _ (by omega), upd_n _ _ (by omega)]; exact maN_in F th x i k (by omega)
theorem maN_off (F : Nat → Int32) (th : Nat) (x : Int32) : ∀ (i k : Nat), k < th → maN F th x i k = F k
  | 0, _, _ => rfl
  | i + 1, k, h => by
    show upd (upd (maN F th x i) (th + i) 0) (th + i) x k = F k
    rw [upd_n _ _ (by omega), upd_n _ _ (by omega)]; exact maN_off F th x i k h
theorem brV_in (v : Nat → TV) (n0 : Nat) (t : TV) (st n : Int32) : ∀ (i k : Nat), k < i → brV v n0 t st n i (n0 + k) = ptV t st (nI k - n / 2) ((nI k - nI k / 2 * 2) * 2 - 1)
  | 0, _, h => absurd h (Nat.not_lt_zero _)
  | i + 1, k, h => by
    show va_up (brV v n0 t st n i) (n0 + i) _ (n0 + k) = _
    by_cases e : k = i
    · subst e; exact va_up_self _ _ _
    · rw [va_up_ne _ _ (by omega)]; exact brV_in v n0 t st n i k (by omega)
/-- a part's row, in the class and in the reference -/
theorem pt_row {g Sp : Nat → Int32} {q b m LF : Nat} {x y : Int32} (h : ∀ k : Nat, k < m → g k = Sp (b + k)) (hm : q + 3 * LF ≤ m) (k : Nat) (hk : k < 3 * LF) :
    ∃ j c : Nat, j < LF ∧ c < 3 ∧ k = 3 * j + c ∧ mvK (cpK (fun _ => 0) g q LF) 3 x y 0 (LF - 1) k = (if c = 0 then Sp (b + q + 3 * j) + nI j * x else if c = 1 then Sp (b + q + 3 * j + 1) + nI j * y else Sp (b + q + 3 * j + 2)) := by
  refine ⟨k / 3, k % 3, by omega, Nat.mod_lt _ (by omega), by omega, ?_⟩
  obtain ⟨j, hj⟩ : ∃ j, k / 3 = j := ⟨_, rfl⟩
  obtain ⟨c, hc⟩ : ∃ c, k % 3 = c := ⟨_, rfl⟩
  rw [hj, hc]
  have hc3 : c < 3 := by omega
  have hk2 : k = 3 * j + c := by omega
  clear hj hc
  subst hk2
  rcases Nat.eq_zero_or_pos j with e | e
  · subst e
    rw [mvK_off _ _ _ _ _ _ _ (by omega), cpK_in _ _ _ _ _ (by omega), h _ (by omega), zm_I, zm_I]
    rcases (show c = 0 ∨ c = 1 ∨ c = 2 by omega) with rfl | rfl | rfl
    · rw [if_pos rfl]; exact congrArg Sp (by omega)
    · rw [if_neg (by omega), if_pos rfl]; exact congrArg Sp (by omega)
    · rw [if_neg (by omega), if_neg (by omega)]; exact congrArg Sp (by omega)
  · obtain ⟨d, rfl⟩ : ∃ d, j = d + 1 := ⟨j - 1, by omega⟩
    obtain ⟨i1, i2, i3⟩ := mvK_in (cpK (fun _ => 0) g q LF) 3 x y 0 (LF - 1) d (by omega)
    rcases (show c = 0 ∨ c = 1 ∨ c = 2 by omega) with rfl | rfl | rfl
    · rw [if_pos rfl, show 3 * (d + 1) + 0 = 3 + 3 * d by omega, i1, cpK_in _ _ _ _ _ (by omega), h _ (by omega), show b + (q + (3 + 3 * d)) = b + q + 3 * (d + 1) by omega]
    · rw [if_neg (by omega), if_pos rfl, show 3 * (d + 1) + 1 = 3 + 3 * d + 1 by omega, i2, cpK_in _ _ _ _ _ (by omega), h _ (by omega), show b + (q + (3 + 3 * d + 1)) = b + q + 3 * (d + 1) + 1 by omega]
    · rw [if_neg (by omega), if_neg (by omega), show 3 * (d + 1) + 2 = 3 + 3 * d + 2 by omega, i3, mz_I, cpK_in _ _ _ _ _ (by omega), h _ (by omega), show b + (q + (3 + 3 * d + 2)) = b + q + 3 * (d + 1) + 2 by omega]
abbrev xBC (t : TV) (sz p1 p2 p3 : Int32) : Prop := ((0 ≤ p1.toInt ∧ p1.toInt < sz.toInt) ∧ ((2 ≤ p3.toInt ∧ p3.toInt ≤ 6) ∧ (t.1.toInt ≤ p2.toInt ∧ p2.toInt < t.1.toInt + t.2.1.toInt)))
def xGA (t : TV) (p2 p3 : Int32) : Prop := (t.2.2.2.1.toInt = 0 ∧ (gsN t.2.2.2.2 t.1 t.2.1 p2 p3 p3.toInt.toNat))
abbrev mBC (Fi Ma : Nat → Int32) (i : Nat) (th p1 p2 p3 : Int32) : Prop := ((0 ≤ p1.toInt ∧ p1.toInt < th.toInt) ∧ ((2 ≤ p3.toInt ∧ p3.toInt ≤ 6) ∧ ((Fi i).toInt ≤ p2.toInt ∧ p2.toInt < (Fi i).toInt + (Ma i).toInt)))
def mGA (Fi Ma Go Sp : Nat → Int32) (i : Nat) (p1 p2 p3 : Int32) : Prop := ((Go i).toInt = 0 ∧ gdN Sp (36 * p1.toInt + 3 * (p2.toInt - (Fi i).toInt)).toNat ((Fi i).toInt + (Ma i).toInt - p2.toInt).toNat p3 p3.toInt.toNat)
theorem ga_iff {sz p1 p2 p3 : Int32} {v : Nat → TV} {Fi Ma Db Go Sp : Nat → Int32} (hc : cpT sz sz v Fi Ma Db Go Sp) (hV : vOK sz v) (R : 0 ≤ p1.toInt ∧ p1.toInt < sz.toInt) (R2 : (v p1.toNatClampNeg).1.toInt ≤ p2.toInt ∧ p2.toInt < (v p1.toNatClampNeg).1.toInt + (v p1.toNatClampNeg).2.1.toInt) : xGA (v p1.toNatClampNeg) p2 p3 ↔ mGA Fi Ma Go Sp p1.toNatClampNeg p1 p2 p3 := by
  have ni : ((p1.toNatClampNeg : Nat) : Int) = p1.toInt := tc_I R.1
  generalize p1.toNatClampNeg = i at *
  obtain ⟨h1, h2, h3, h4, h5⟩ := hc.2 i (by omega)
  obtain ⟨⟨t1, t2, t3, t4⟩, -, -, hco, -⟩ := hV.2 i (by omega)
  have c1 := congrArg Int32.toInt h1
  have c2 := congrArg Int32.toInt h2
  have c4 := congrArg Int32.toInt h4
  obtain ⟨q, hq⟩ : ∃ q : Nat, (3 * (p2.toInt - (v i).1.toInt)).toNat = q := ⟨_, rfl⟩
  obtain ⟨M, hM⟩ : ∃ M : Nat, ((v i).1.toInt + (v i).2.1.toInt - 1 - p2.toInt).toNat = M := ⟨_, rfl⟩
  have one : ∀ x y : Int32, stK (v i).2.2.2.2 (3 * (p2.toInt + 1 - (v i).1.toInt)).toNat x y 0 M ↔ gdI Sp (36 * i + q) x y (M + 1) := fun x y => gs_one (m := (3 * (v i).2.1.toInt).toNat) (fun k hk => h5 k (by omega)) (fun k hk => hco k (by omega)) (by omega) (by omega)
  unfold xGA mGA gsN gdN
  rw [hM, show (36 * p1.toInt + 3 * (p2.toInt - (Fi i).toInt)).toNat = 36 * i + q by omega, show ((Fi i).toInt + (Ma i).toInt - p2.toInt).toNat = M + 1 by omega]
  constructor
  · intro w
    exact ⟨by omega, fun k hk => (one _ _).mp (w.2 k hk)⟩
  · intro w
    exact ⟨by omega, fun k hk => (one _ _).mpr (w.2 k hk)⟩
theorem cp_breaks {sz sz8 th th9 p1 p2 p3 : Int32} {v v9 : Nat → TV} {Fi Ma Db Go Sp Fi9 Ma9 Db9 Go9 Sp9 : Nat → Int32} (hc : cpT sz th v Fi Ma Db Go Sp) (hV : vOK sz v)
    (hx : ((xBC (v p1.toNatClampNeg) sz p1 p2 p3 ∧ xGA (v p1.toNatClampNeg) p2 p3 ∧ sz.toInt + p3.toInt ≤ 16) ∧ sz8.toInt = sz.toInt + p3.toInt ∧ v9 = va_up (brV v sz.toInt.toNat (v p1.toNatClampNeg) p2 p3 p3.toInt.toNat) p1.toNatClampNeg (tvGo (v p1.toNatClampNeg))) ∨ (¬ (xBC (v p1.toNatClampNeg) sz p1 p2 p3 ∧ xGA (v p1.toNatClampNeg) p2 p3 ∧ sz.toInt + p3.toInt ≤ 16) ∧ sz8 = sz ∧ v9 = v))
    (hm : ((mBC Fi Ma p1.toNatClampNeg th p1 p2 p3 ∧ mGA Fi Ma Go Sp p1.toNatClampNeg p1 p2 p3 ∧ th.toInt + p3.toInt ≤ 16) ∧ th9.toInt = th.toInt + p3.toInt ∧ Fi9 = upN Fi th.toInt.toNat p2 p3.toInt.toNat ∧ Ma9 = maN Ma th.toInt.toNat (Fi p1.toNatClampNeg + Ma p1.toNatClampNeg - p2) p3.toInt.toNat ∧ Db9 = upN Db th.toInt.toNat (Db p1.toNatClampNeg) p3.toInt.toNat ∧ Go9 = upd (upN Go th.toInt.toNat (vp_nar .boolean 0) p3.toInt.toNat) p1.toNatClampNeg (vp_nar .boolean 1) ∧ Sp9 = bkN Sp (36 * p1.toInt + 3 * (p2.toInt - (Fi p1.toNatClampNeg).toInt)).toNat th.toInt.toNat ((Fi p1.toNatClampNeg).toInt + (Ma p1.toNatClampNeg).toInt - p2.toInt).toNat p3 p3.toInt.toNat) ∨ (¬ (mBC Fi Ma p1.toNatClampNeg th p1 p2 p3 ∧ mGA Fi Ma Go Sp p1.toNatClampNeg p1 p2 p3 ∧ th.toInt + p3.toInt ≤ 16) ∧ th9 = th ∧ Fi9 = Fi ∧ Ma9 = Ma ∧ Db9 = Db ∧ Go9 = Go ∧ Sp9 = Sp)) : cpT sz8 th9 v9 Fi9 Ma9 Db9 Go9 Sp9 := by
  obtain ⟨rfl, h⟩ := id hc
  obtain ⟨⟨z0, z1⟩, hv⟩ := id hV
  by_cases R : 0 ≤ p1.toInt ∧ p1.toInt < sz.toInt
  · by_cases R2 : (v p1.toNatClampNeg).1.toInt ≤ p2.toInt ∧ p2.toInt < (v p1.toNatClampNeg).1.toInt + (v p1.toNatClampNeg).2.1.toInt
    · have iff := ga_iff (p3 := p3) hc hV R R2
      have ni : ((p1.toNatClampNeg : Nat) : Int) = p1.toInt := tc_I R.1
      generalize p1.toNatClampNeg = i at *
      obtain ⟨h1, h2, h3, h4, h5⟩ := h i (by omega)
      obtain ⟨⟨t1, t2, t3, t4⟩, -⟩ := hv i (by omega)
      have c1 := congrArg Int32.toInt h1
      have c2 := congrArg Int32.toInt h2
      rcases hx with ⟨q, e8, rfl⟩ | ⟨q, rfl, rfl⟩
      · rcases hm with ⟨-, e9, rfl, rfl, rfl, rfl, rfl⟩ | ⟨q2, -⟩
        · obtain ⟨⟨-, q3, -⟩, ⟨qg, -⟩, qf⟩ := q
          refine ⟨Int32.toInt_inj.mp (by omega), fun j hj => ?_⟩
          rcases Nat.lt_or_ge j sz.toInt.toNat with hjs | hjs
          · obtain ⟨g1, g2, g3, g4, g5⟩ := h j (by omega)
            obtain ⟨⟨-, -, -, u4⟩, -⟩ := hv j (by omega)
            rw [upN_off _ _ _ _ _ hjs, maN_off _ _ _ _ _ hjs, upN_off _ _ _ _ _ hjs]
            by_cases e : j = i
            · subst e
              rw [va_up_self, upd_s]
              refine ⟨g1, g2, g3, rfl, fun k hk => ?_⟩
              have hk' : (k : Int) < 3 * (v j).2.1.toInt := hk
              rw [bkN_lo _ _ _ _ _ _ _ (by omega)]
              exact g5 k hk
            · rw [va_up_ne _ _ e, upd_n _ _ e, upN_off _ _ _ _ _ hjs, brV_off _ _ _ _ _ _ _ hjs]
              refine ⟨g1, g2, g3, g4, fun k hk => ?_⟩
              rw [bkN_lo _ _ _ _ _ _ _ (by omega)]
              exact g5 k hk
          · obtain ⟨k, rfl⟩ : ∃ k, j = sz.toInt.toNat + k := ⟨j - sz.toInt.toNat, by omega⟩
            have hk : k < p3.toInt.toNat := by omega
            have e : sz.toInt.toNat + k ≠ i := by omega
            rw [va_up_ne _ _ e, upd_n _ _ e, upN_in _ _ _ _ _ hk, maN_in _ _ _ _ _ hk, upN_in _ _ _ _ _ hk, upN_in _ _ _ _ _ hk, brV_in _ _ _ _ _ _ _ hk]
            have epl : ((v i).1 + (v i).2.1 - p2).toInt = (v i).1.toInt + (v i).2.1.toInt - p2.toInt := by
              have e1 : ((v i).1 + (v i).2.1).toInt = (v i).1.toInt + (v i).2.1.toInt := fb_addI (by omega) (by omega)
              rw [fb_subI (by omega) (by omega), e1]
            refine ⟨rfl, by show (v i).1 + (v i).2.1 - p2 = _; rw [h1, h2], h3, ?_, fun r hr => ?_⟩
            · show (v i).2.2.2.1 = _
              exact Int32.toInt_inj.mp (qg.trans (by decide))
            · have hr' : (r : Int) < 3 * ((v i).1 + (v i).2.1 - p2).toInt := hr
              have e1 : ((v i).1.toInt + (v i).2.1.toInt - p2.toInt).toNat = ((Fi i).toInt + (Ma i).toInt - p2.toInt).toNat := by omega
              have e2 : ((v i).1.toInt + (v i).2.1.toInt - 1 - p2.toInt).toNat = ((Fi i).toInt + (Ma i).toInt - p2.toInt).toNat - 1 := by omega
              have e3 : (36 * p1.toInt + 3 * (p2.toInt - (Fi i).toInt)).toNat = 36 * i + (3 * (p2.toInt - (v i).1.toInt)).toNat := by omega
              show mvK (cpK (fun _ => 0) (v i).2.2.2.2 (3 * (p2.toInt - (v i).1.toInt)).toNat ((v i).1.toInt + (v i).2.1.toInt - p2.toInt).toNat) 3 _ _ 0 ((v i).1.toInt + (v i).2.1.toInt - 1 - p2.toInt).toNat r = _
              rw [e1, e2, e3]
              obtain ⟨LF, hLF⟩ : ∃ n : Nat, ((Fi i).toInt + (Ma i).toInt - p2.toInt).toNat = n := ⟨_, rfl⟩
              rw [hLF]
              obtain ⟨d, cc, hd, hcc, rfl, hrow⟩ := pt_row (x := nI k - p3 / 2) (y := (nI k - nI k / 2 * 2) * 2 - 1) (b := 36 * i) (q := (3 * (p2.toInt - (v i).1.toInt)).toNat) (m := (3 * (v i).2.1.toInt).toNat) (LF := LF) (fun k hk => h5 k (by omega)) (by omega) r (by omega)
              rw [hrow]
              obtain ⟨b1, b2, b3⟩ := bkN_in Sp (36 * i + (3 * (p2.toInt - (v i).1.toInt)).toNat) sz.toInt.toNat LF p3 (by omega) p3.toInt.toNat k d hk hd
              rcases (show cc = 0 ∨ cc = 1 ∨ cc = 2 by omega) with rfl | rfl | rfl
              · rw [if_pos rfl, show 36 * (sz.toInt.toNat + k) + (3 * d + 0) = 36 * (sz.toInt.toNat + k) + 3 * d by omega, b1]; rfl
              · rw [if_neg (by omega), if_pos rfl, show 36 * (sz.toInt.toNat + k) + (3 * d + 1) = 36 * (sz.toInt.toNat + k) + 3 * d + 1 by omega, b2]; rfl
              · rw [if_neg (by omega), if_neg (by omega), show 36 * (sz.toInt.toNat + k) + (3 * d + 2) = 36 * (sz.toInt.toNat + k) + 3 * d + 2 by omega, b3]
        · exact absurd ⟨⟨R, q.1.2.1, by omega⟩, iff.mp q.2.1, q.2.2⟩ q2
      · rcases hm with ⟨q2, -⟩ | ⟨-, rfl, rfl, rfl, rfl, rfl, rfl⟩
        · exact absurd ⟨⟨R, q2.1.2.1, R2⟩, iff.mpr q2.2.1, q2.2.2⟩ q
        · exact hc
    · have ni : ((p1.toNatClampNeg : Nat) : Int) = p1.toInt := tc_I R.1
      obtain ⟨h1, h2, -⟩ := h p1.toNatClampNeg (by omega)
      have c1 := congrArg Int32.toInt h1
      have c2 := congrArg Int32.toInt h2
      rcases hx with ⟨q, -⟩ | ⟨-, rfl, rfl⟩
      · exact absurd q.1.2.2 R2
      · rcases hm with ⟨q2, -⟩ | ⟨-, rfl, rfl, rfl, rfl, rfl, rfl⟩
        · exact absurd (by have := q2.1.2.2; omega) R2
        · exact hc
  · rcases hx with ⟨q, -⟩ | ⟨-, rfl, rfl⟩
    · exact absurd q.1.1 R
    · rcases hm with ⟨q2, -⟩ | ⟨-, rfl, rfl, rfl, rfl, rfl, rfl⟩
      · exact absurd q2.1.1 R
      · exact hc
