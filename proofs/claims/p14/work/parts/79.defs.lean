def cpK (g g1 : Nat → Int32) (q : Nat) : Nat → (Nat → Int32)
  | 0 => g
  | n + 1 => st3 (cpK g g1 q n) (3 * n) (g1 (q + 3 * n)) (g1 (q + 3 * n + 1)) (g1 (q + 3 * n + 2))
theorem cp_step {g g1 S7 S8 : Nat → Int32} {q n i0 i1 i2 : Nat} {z : Int} {v0 v1 v2 : Int32} (h7 : S7 = cpK g g1 q n) (h8 : S8 = st3 S7 z.toNat v0 v1 v2) (e0 : v0 = g1 i0) (e1 : v1 = g1 i1) (e2 : v2 = g1 i2) (hz : z.toNat = 3 * n) (h0 : i0 = q + 3 * n) (h1 : i1 = q + 3 * n + 1) (h2 : i2 = q + 3 * n + 2) : S8 = cpK g g1 q (n + 1) := by
  subst h7; subst e0; subst e1; subst e2; subst h0; subst h1; subst h2
  rw [h8, hz]; rfl
def gsN (g : Nat → Int32) (fi pl st n : Int32) (i : Nat) : Prop := ∀ k : Nat, k < i → stK g (3 * (st.toInt + 1 - fi.toInt)).toNat (nI k - n / 2) ((nI k - nI k / 2 * 2) * 2 - 1) 0 (fi.toInt + pl.toInt - 1 - st.toInt).toNat
theorem gsN_up {g : Nat → Int32} {fi pl st n : Int32} {i : Nat} (h : gsN g fi pl st n i) (h2 : stK g (3 * (st.toInt + 1 - fi.toInt)).toNat (nI i - n / 2) ((nI i - nI i / 2 * 2) * 2 - 1) 0 (fi.toInt + pl.toInt - 1 - st.toInt).toNat) : gsN g fi pl st n (i + 1) := fun k hk => by
  rcases Nat.lt_or_ge k i with q | q
  · exact h k q
  · have e : k = i := by omega
    subst e; exact h2
def tOK (fi pl : Int32) : Prop := 0 ≤ fi.toInt ∧ fi.toInt ≤ 39 ∧ 0 ≤ pl.toInt ∧ pl.toInt ≤ 12
/-- the place of a coordinate in a thing's own row -/
def ixc (fi st ax : Int32) : Nat := (3 * (st.toInt - fi.toInt) + ax.toInt).toNat
theorem cl_eq {y : Int32} {z : Int} (h : y.toInt = z) : y.toNatClampNeg = z.toNat := by
  rw [← h]; rfl
theorem co_v {g : Nat → Int32} {q n k i : Nat} {r w v j a : Int32} (e : r = g i) (hi : i = q + 3 * n + k) (f : w = j * a) (h : v = r + w) (hj : j = nI (n + 1)) : v = g (q + 3 * n + k) + nI (n + 1) * a := by
  rw [h, f, e, hi, hj]
theorem mv3_seq {S S1 S2 S3 : Nat → Int32} {k0 k1 k2 : Nat} {w0 w1 w2 j a b c : Int32} {i : Int} (hi : 0 ≤ i) (h0 : k0 = i.toNat) (h1 : k1 = i.toNat + 1) (h2 : k2 = i.toNat + 2)
    (e1 : S1 = upd S k0 (S k0 + w0)) (e2 : S2 = upd S1 k1 (S1 k1 + w1)) (e3 : S3 = upd S2 k2 (S2 k2 + w2)) (f0 : w0 = j * a) (f1 : w1 = j * b) (f2 : w2 = j * c) : S3 = mv3 S i.toNat j a b c := by
  subst h0; subst h1; subst h2
  have u1 : S1 (i.toNat + 1) = S (i.toNat + 1) := by rw [e1]; exact if_neg (by omega)
  have u2 : S2 (i.toNat + 2) = S (i.toNat + 2) := by
    rw [e2]
    refine (if_neg (by omega)).trans ?_
    rw [e1]; exact if_neg (by omega)
  rw [e3, u2, e2, u1, e1, f0, f1, f2]; rfl
def XN (U : State) : Prop := va_Nw (.methodLinkNest RX0 24 yX8_fuelOf RX8) U ∧ va_Nw (.methodLinkNest RX1 21 yX6_init RX8) U ∧ va_Nw (.methodLinkNest RX4 9 yX3_init RX8) U ∧ va_Nw (.methodLinkNest RX6 71 yX8_isPlace RX8) U ∧ va_Nw (.methodLinkNest RX8 11 yX1_init RX8) U ∧ va_Nw (.methodLinkNest RX8 43 yX7_init RX8) U ∧ va_Nw (.methodLinkNest RX8 50 yX4_init RX8) U ∧ va_Nw (.methodLinkNest RX8 57 yX3_init RX8) U ∧ va_Nw (.methodLinkNest RX8 64 yX6_init RX8) U ∧ va_Nw (.methodLinkNest RX8 71 yX0_init RX8) U ∧ va_AO "MeetingsAbove$Dot" U ∧ va_AO "MeetingsAbove$Notice" U ∧ va_AO "MeetingsAbove$Thing" U
theorem XN_X0_24 {U : State} (h : XN U) : va_Nw (.methodLinkNest RX0 24 yX8_fuelOf RX8) U := h.1
theorem XN_X1_21 {U : State} (h : XN U) : va_Nw (.methodLinkNest RX1 21 yX6_init RX8) U := h.2.1
theorem XN_X4_9 {U : State} (h : XN U) : va_Nw (.methodLinkNest RX4 9 yX3_init RX8) U := h.2.2.1
theorem XN_X6_71 {U : State} (h : XN U) : va_Nw (.methodLinkNest RX6 71 yX8_isPlace RX8) U := h.2.2.2.1
theorem XN_X8_11 {U : State} (h : XN U) : va_Nw (.methodLinkNest RX8 11 yX1_init RX8) U := h.2.2.2.2.1
theorem XN_X8_43 {U : State} (h : XN U) : va_Nw (.methodLinkNest RX8 43 yX7_init RX8) U := h.2.2.2.2.2.1
theorem XN_X8_50 {U : State} (h : XN U) : va_Nw (.methodLinkNest RX8 50 yX4_init RX8) U := h.2.2.2.2.2.2.1
theorem XN_X8_57 {U : State} (h : XN U) : va_Nw (.methodLinkNest RX8 57 yX3_init RX8) U := h.2.2.2.2.2.2.2.1
theorem XN_X8_64 {U : State} (h : XN U) : va_Nw (.methodLinkNest RX8 64 yX6_init RX8) U := h.2.2.2.2.2.2.2.2.1
theorem XN_X8_71 {U : State} (h : XN U) : va_Nw (.methodLinkNest RX8 71 yX0_init RX8) U := h.2.2.2.2.2.2.2.2.2.1
theorem XN_ao_X2 {U : State} (h : XN U) : va_AO "MeetingsAbove$Dot" U := h.2.2.2.2.2.2.2.2.2.2.1
theorem XN_ao_X5 {U : State} (h : XN U) : va_AO "MeetingsAbove$Notice" U := h.2.2.2.2.2.2.2.2.2.2.2.1
theorem XN_ao_X6 {U : State} (h : XN U) : va_AO "MeetingsAbove$Thing" U := h.2.2.2.2.2.2.2.2.2.2.2.2
theorem XN_warm {s U : State} (hW : s.WarmedH U.vm) (h : XN s) : XN U := ⟨va_Nw.warmM hW (XN_X0_24 h), va_Nw.warmM hW (XN_X1_21 h), va_Nw.warmM hW (XN_X4_9 h), va_Nw.warmM hW (XN_X6_71 h), va_Nw.warmM hW (XN_X8_11 h), va_Nw.warmM hW (XN_X8_43 h), va_Nw.warmM hW (XN_X8_50 h), va_Nw.warmM hW (XN_X8_57 h), va_Nw.warmM hW (XN_X8_64 h), va_Nw.warmM hW (XN_X8_71 h), va_AO.moved hW.alike (XN_ao_X2 h), va_AO.moved hW.alike (XN_ao_X5 h), va_AO.moved hW.alike (XN_ao_X6 h)⟩
theorem XN_same {U U2 : State} (e : U.vm = U2.vm) (h : XN U) : XN U2 := ⟨va_Nw.same rfl e (XN_X0_24 h), va_Nw.same rfl e (XN_X1_21 h), va_Nw.same rfl e (XN_X4_9 h), va_Nw.same rfl e (XN_X6_71 h), va_Nw.same rfl e (XN_X8_11 h), va_Nw.same rfl e (XN_X8_43 h), va_Nw.same rfl e (XN_X8_50 h), va_Nw.same rfl e (XN_X8_57 h), va_Nw.same rfl e (XN_X8_64 h), va_Nw.same rfl e (XN_X8_71 h), va_AO.moved (by rw [e]; exact Vm.Alike.refl U2.vm) (XN_ao_X2 h), va_AO.moved (by rw [e]; exact Vm.Alike.refl U2.vm) (XN_ao_X5 h), va_AO.moved (by rw [e]; exact Vm.Alike.refl U2.vm) (XN_ao_X6 h)⟩
