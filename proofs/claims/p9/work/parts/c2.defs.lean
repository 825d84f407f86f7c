def mTV (Fi Ma Db Go Sp : Nat → Int32) (i : Nat) : TV := (Fi i, Ma i, Db i, Go i, fun k => Sp (36 * i + k))
def mDV (Ds Dp : Nat → Int32) (i : Nat) : DV := (Ds i, Dp (3 * i), Dp (3 * i + 1), Dp (3 * i + 2))
/-- a dot in a thing's box, along one axis -/
abbrev inX (x d db : Int32) : Prop := -db.toInt ≤ x.toInt - d.toInt ∧ x.toInt - d.toInt ≤ db.toInt
abbrev boxd (fi pl db : Int32) (g : Nat → Int32) (s x y z : Int32) : Prop := (fi.toInt ≤ s.toInt ∧ s.toInt < fi.toInt + pl.toInt) ∧ inX (g (ixc fi s 0)) x db ∧ inX (g (ixc fi s 1)) y db ∧ inX (g (ixc fi s 2)) z db
abbrev hold (t : TV) (d : DV) : Prop := t.2.2.2.1.toInt = 0 ∧ boxd t.1 t.2.1 t.2.2.1 t.2.2.2.2 d.1 d.2.1 d.2.2.1 d.2.2.2
def mbx (Fi Db Sp Ds Dp : Nat → Int32) (t d j : Nat) : Prop := inX (Sp (36 * t + ((3 * ((Ds d).toInt - (Fi t).toInt)).toNat + j))) (Dp (3 * d + j)) (Db t)
theorem hold_m {Fi Ma Db Go Sp Ds Dp : Nat → Int32} {t d : Nat} : hold (mTV Fi Ma Db Go Sp t) (mDV Ds Dp d) ↔ ((Go t).toInt = 0 ∧ ((Fi t).toInt ≤ (Ds d).toInt ∧ (Ds d).toInt < (Fi t).toInt + (Ma t).toInt)) ∧ mbx Fi Db Sp Ds Dp t d 0 ∧ mbx Fi Db Sp Ds Dp t d 1 ∧ mbx Fi Db Sp Ds Dp t d 2 := by
  have k0 : (0 : Int32).toInt = 0 := by decide
  have k1 : (1 : Int32).toInt = 1 := by decide
  have k2 : (2 : Int32).toInt = 2 := by decide
  have key : ((Fi t).toInt ≤ (Ds d).toInt) → ixc (Fi t) (Ds d) 0 = (3 * ((Ds d).toInt - (Fi t).toInt)).toNat + 0 ∧ ixc (Fi t) (Ds d) 1 = (3 * ((Ds d).toInt - (Fi t).toInt)).toNat + 1 ∧ ixc (Fi t) (Ds d) 2 = (3 * ((Ds d).toInt - (Fi t).toInt)).toNat + 2 := fun h => by
    unfold ixc
    omega
  unfold mbx
  constructor
  · rintro ⟨g0, ⟨r1, r2⟩, x0, x1, x2⟩
    obtain ⟨e0, e1, e2⟩ := key r1
    have r1' : (Fi t).toInt ≤ (Ds d).toInt := r1
    refine ⟨⟨g0, r1', r2⟩, ?_, ?_, ?_⟩
    · have x0' : inX (Sp (36 * t + ixc (Fi t) (Ds d) 0)) (Dp (3 * d)) (Db t) := x0
      rw [e0] at x0'; exact x0'
    · have x1' : inX (Sp (36 * t + ixc (Fi t) (Ds d) 1)) (Dp (3 * d + 1)) (Db t) := x1
      rw [e1] at x1'; exact x1'
    · have x2' : inX (Sp (36 * t + ixc (Fi t) (Ds d) 2)) (Dp (3 * d + 2)) (Db t) := x2
      rw [e2] at x2'; exact x2'
  · rintro ⟨⟨g0, r1, r2⟩, x0, x1, x2⟩
    obtain ⟨e0, e1, e2⟩ := key r1
    refine ⟨g0, ⟨r1, r2⟩, ?_, ?_, ?_⟩
    · show inX (Sp (36 * t + ixc (Fi t) (Ds d) 0)) (Dp (3 * d)) (Db t)
      rw [e0]; exact x0
    · show inX (Sp (36 * t + ixc (Fi t) (Ds d) 1)) (Dp (3 * d + 1)) (Db t)
      rw [e1]; exact x1
    · show inX (Sp (36 * t + ixc (Fi t) (Ds d) 2)) (Dp (3 * d + 2)) (Db t)
      rw [e2]; exact x2
/-- one box more -/
theorem mbx_1 {B : Prop} {is : Int32} {Fi Db Sp Ds Dp : Nat → Int32} {t d n : Nat} (h : (is = 1 ∧ B ∧ ∀ j : Nat, j < n → mbx Fi Db Sp Ds Dp t d j) ∨ (is = 0 ∧ ¬ (B ∧ mbx Fi Db Sp Ds Dp t d 0 ∧ mbx Fi Db Sp Ds Dp t d 1 ∧ mbx Fi Db Sp Ds Dp t d 2))) (c : ¬ is = 0) (hb : mbx Fi Db Sp Ds Dp t d n) : ((1 : Int32) = 1 ∧ B ∧ ∀ j : Nat, j < n + 1 → mbx Fi Db Sp Ds Dp t d j) ∨ ((1 : Int32) = 0 ∧ ¬ (B ∧ mbx Fi Db Sp Ds Dp t d 0 ∧ mbx Fi Db Sp Ds Dp t d 1 ∧ mbx Fi Db Sp Ds Dp t d 2)) := by
  rcases h with ⟨-, h1, h2⟩ | ⟨h, -⟩
  · refine Or.inl ⟨rfl, h1, fun j hj => ?_⟩
    rcases Nat.lt_or_ge j n with z | z
    · exact h2 j z
    · have e : j = n := by omega
      subst e; exact hb
  · exact absurd h c
theorem mbx_0 {B : Prop} {Fi Db Sp Ds Dp : Nat → Int32} {t d n : Nat} (hn : n < 3) (hb : ¬ mbx Fi Db Sp Ds Dp t d n) : ((0 : Int32) = 1 ∧ B ∧ ∀ j : Nat, j < n + 1 → mbx Fi Db Sp Ds Dp t d j) ∨ ((0 : Int32) = 0 ∧ ¬ (B ∧ mbx Fi Db Sp Ds Dp t d 0 ∧ mbx Fi Db Sp Ds Dp t d 1 ∧ mbx Fi Db Sp Ds Dp t d 2)) := by
  refine Or.inr ⟨rfl, fun h => ?_⟩
  rcases (show n = 0 ∨ n = 1 ∨ n = 2 by omega) with rfl | rfl | rfl
  · exact hb h.2.1
  · exact hb h.2.2.1
  · exact hb h.2.2.2
theorem mbx_end {B : Prop} {is : Int32} {Fi Db Sp Ds Dp : Nat → Int32} {t d : Nat} {n : Nat} (h : (is = 1 ∧ B ∧ ∀ j : Nat, j < n → mbx Fi Db Sp Ds Dp t d j) ∨ (is = 0 ∧ ¬ (B ∧ mbx Fi Db Sp Ds Dp t d 0 ∧ mbx Fi Db Sp Ds Dp t d 1 ∧ mbx Fi Db Sp Ds Dp t d 2))) (hn : n = 3 ∨ is = 0) : (is = 1 ∧ B ∧ mbx Fi Db Sp Ds Dp t d 0 ∧ mbx Fi Db Sp Ds Dp t d 1 ∧ mbx Fi Db Sp Ds Dp t d 2) ∨ (is = 0 ∧ ¬ (B ∧ mbx Fi Db Sp Ds Dp t d 0 ∧ mbx Fi Db Sp Ds Dp t d 1 ∧ mbx Fi Db Sp Ds Dp t d 2)) := by
  rcases h with ⟨h0, h1, h2⟩ | h
  · rcases hn with rfl | hn
    · exact Or.inl ⟨h0, h1, h2 0 (by omega), h2 1 (by omega), h2 2 (by omega)⟩
    · rw [hn] at h0; exact absurd h0 (by decide)
  · exact Or.inr h
def cntP (P : Nat → Prop) [DecidablePred P] : Nat → Nat
  | 0 => 0
  | n + 1 => cntP P n + if P n then 1 else 0
theorem cntP_le (P : Nat → Prop) [DecidablePred P] : ∀ n : Nat, cntP P n ≤ n
  | 0 => Nat.le_refl 0
  | n + 1 => by
    have := cntP_le P n
    show cntP P n + (if P n then 1 else 0) ≤ n + 1
    split <;> omega
theorem cntP_1 {P : Nat → Prop} [DecidablePred P] {n : Nat} (h : P n) : cntP P (n + 1) = cntP P n + 1 := by
  show cntP P n + (if P n then 1 else 0) = _
  rw [if_pos h]
theorem cntP_0 {P : Nat → Prop} [DecidablePred P] {n : Nat} (h : ¬ P n) : cntP P (n + 1) = cntP P n := by
  show cntP P n + (if P n then 1 else 0) = _
  rw [if_neg h, Nat.add_zero]
theorem cntP_eq {P Q : Nat → Prop} [DecidablePred P] [DecidablePred Q] : ∀ {n : Nat}, (∀ k : Nat, k < n → (P k ↔ Q k)) → cntP P n = cntP Q n
  | 0, _ => rfl
  | n + 1, h => by
    have ih := cntP_eq (n := n) (fun k hk => h k (by omega))
    by_cases q : P n
    · rw [cntP_1 q, cntP_1 ((h n (by omega)).mp q), ih]
    · rw [cntP_0 q, cntP_0 (fun z => q ((h n (by omega)).mpr z)), ih]
theorem dp_all {Ds Dp : Nat → Int32} {d : Nat} (h : okD (Ds d) (Dp (3 * d)) (Dp (3 * d + 1)) (Dp (3 * d + 2))) : ∀ j : Nat, j < 3 → -5000 ≤ (Dp (3 * d + j)).toInt ∧ (Dp (3 * d + j)).toInt ≤ 5000 := fun j hj => by
  obtain ⟨-, ⟨a1, a2⟩, ⟨b1, b2⟩, c1, c2⟩ := h
  rcases (show j = 0 ∨ j = 1 ∨ j = 2 by omega) with rfl | rfl | rfl
  · exact ⟨a1, a2⟩
  · exact ⟨b1, b2⟩
  · exact ⟨c1, c2⟩
theorem fd_noD {L : List Nat} {f : Nat → va_E} {ow : Nat → Nat} {dn t : Int32} {gd : Nat → Option Nat} {u : Nat → DV} (hC : dotV L f ow dn gd u) (h : none = if 0 ≤ t.toInt ∧ t.toInt < dn.toInt ∧ t.toInt < 40 then gd t.toNatClampNeg else none) : ¬ (0 ≤ t.toInt ∧ t.toInt < dn.toInt) := by
  intro q
  have := hC.1.2
  rw [if_pos (by omega)] at h
  obtain ⟨a, ha, -⟩ := hC.2 t.toNatClampNeg (by rw [tc_I (by omega)]; omega)
  rw [ha] at h
  cases h
