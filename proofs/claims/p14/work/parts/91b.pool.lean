def isDot (L : List Nat) (f : Nat → va_E) (a : Nat) : Prop := ∃ (s x y z : Int32), a ∈ L ∧ f a = .inr (2, [.int s, .int x, .int y, .int z])
def dotOK (L : List Nat) (f : Nat → va_E) (dn : Int32) (gd : Nat → Option Nat) : Prop := 0 ≤ dn.toInt ∧ dn.toInt ≤ 40 ∧ ∀ i : Nat, (i : Int) < dn.toInt → ∃ a, gd i = some a ∧ isDot L f a
def isNote (L : List Nat) (f : Nat → va_E) (a : Nat) : Prop := ∃ (v1 v2 v3 v4 v5 v6 v7 v8 : Int32), a ∈ L ∧ f a = .inr (5, [.int v1, .int v2, .int v3, .int v4, .int v5, .int v6, .int v7, .int v8]) ∧ (v8 = 0 ∨ v8 = 1)
def notOK (L : List Nat) (f : Nat → va_E) (nn : Int32) (gn : Nat → Option Nat) : Prop := 0 ≤ nn.toInt ∧ nn.toInt ≤ 40 ∧ ∀ i : Nat, (i : Int) < nn.toInt → ∃ a, gn i = some a ∧ isNote L f a
theorem dt_of {L : List Nat} {f : Nat → va_E} {dn : Int32} {gd : Nat → Option Nat} {i w : Nat} (hC : dotOK L f dn gd) (hi : (i : Int) < dn.toInt) (hw : gd i = some w) : isDot L f w := by
  obtain ⟨a, ha, h⟩ := hC.2.2 i hi
  rw [hw] at ha
  cases ha
  exact h
theorem nt_of {L : List Nat} {f : Nat → va_E} {nn : Int32} {gn : Nat → Option Nat} {i w : Nat} (hC : notOK L f nn gn) (hi : (i : Int) < nn.toInt) (hw : gn i = some w) : isNote L f w := by
  obtain ⟨a, ha, h⟩ := hC.2.2 i hi
  rw [hw] at ha
  cases ha
  exact h
theorem fd_none {L : List Nat} {f : Nat → va_E} {cI : ClassId} {sz t : Int32} {ga : Nat → Option Nat} (hC : catOK L f cI sz ga) (h : none = if 0 ≤ t.toInt ∧ t.toInt < sz.toInt ∧ t.toInt < 16 then ga t.toNatClampNeg else none) : ¬ (0 ≤ t.toInt ∧ t.toInt < sz.toInt) := by
  intro q
  have := hC.2.1
  rw [if_pos (by omega)] at h
  obtain ⟨a, ha, -⟩ := hC.2.2 t.toNatClampNeg (by rw [tc_I (by omega)]; omega)
  rw [ha] at h
  cases h
