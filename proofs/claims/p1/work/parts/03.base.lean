theorem fa_lt (a b : Int32) : a < b ↔ a.toInt < b.toInt := Int32.lt_iff_toInt_lt
theorem fa_le (a b : Int32) : a ≤ b ↔ a.toInt ≤ b.toInt := Int32.le_iff_toInt_le
theorem fa_eq (a b : Int32) : a = b ↔ a.toInt = b.toInt := Int32.toInt_inj.symm
theorem fa_le64 (a b : Int64) : a ≤ b ↔ a.toInt ≤ b.toInt := Int64.le_iff_toInt_le
theorem fa_wide_le (a b : Int32) : a.toInt64 ≤ b.toInt64 ↔ a ≤ b := by rw [fa_le64, fa_le, Int32.toInt_toInt64, Int32.toInt_toInt64]
theorem bo_split {r : Int32} {c : Prop} [Decidable c] (h : r = if c then 1 else 0) : (r = 1 ∧ c) ∨ (r = 0 ∧ ¬ c) := by
  by_cases q : c
  · exact Or.inl ⟨by rw [h, if_pos q], q⟩
  · exact Or.inr ⟨by rw [h, if_neg q], q⟩
theorem w64 {L H : Int64} (lo hi x : Int32) (hl : lo.toInt64 = L) (hh : hi.toInt64 = H) : (L ≤ x.toInt64 ∧ x.toInt64 ≤ H) ↔ (lo ≤ x ∧ x ≤ hi) := by
  subst hl; subst hh
  rw [fa_wide_le, fa_wide_le]
theorem lk_01 (x : Int32) : (¬ x = 0 ∧ ¬ x = 1) ∨ x = 0 ∨ x = 1 := by
  by_cases h : x = 0
  · exact Or.inr (Or.inl h)
  · by_cases h1 : x = 1
    · exact Or.inr (Or.inr h1)
    · exact Or.inl ⟨h, h1⟩
theorem lk_01_df {x : Int32} {a b d : Int} (n0 : ¬ x = 0) (n1 : ¬ x = 1) : Op.lookupswitch.offset [(0, a), (1, b)] d x.toInt = d := (lv_osw n0 (by decide)).trans ((lv_osw n1 (by decide)).trans rfl)
theorem in_01 {x : Int32} (q : 0 ≤ x ∧ x ≤ 1) : x = 0 ∨ x = 1 := by
  have e0 : (0 : Int32).toInt = 0 := by decide
  have e1 : (1 : Int32).toInt = 1 := by decide
  simp only [fa_le, fa_eq] at q ⊢
  omega
theorem no_01 {x : Int32} (q : ¬ (0 ≤ x ∧ x ≤ 1)) : ¬ x = 0 ∧ ¬ x = 1 := by
  have e0 : (0 : Int32).toInt = 0 := by decide
  have e1 : (1 : Int32).toInt = 1 := by decide
  simp only [fa_le, fa_eq] at q ⊢
  omega
def an_thing (a x y z d : Int32) : Int32 := if (0 ≤ a ∧ a ≤ 39) ∧ ((-5000 ≤ x ∧ x ≤ 5000) ∧ (-5000 ≤ y ∧ y ≤ 5000) ∧ (-5000 ≤ z ∧ z ≤ 5000)) ∧ (0 ≤ d ∧ d ≤ 200) then 0 else -100002
theorem an_thing_ok {a x y z d : Int32} (q1 : 0 ≤ a ∧ a ≤ 39) (q2 : (-5000 ≤ x ∧ x ≤ 5000) ∧ (-5000 ≤ y ∧ y ≤ 5000) ∧ (-5000 ≤ z ∧ z ≤ 5000)) (q3 : 0 ≤ d ∧ d ≤ 200) : an_thing a x y z d = 0 := if_pos ⟨q1, q2, q3⟩
theorem an_thing_1 {a x y z d : Int32} (q : ¬ (0 ≤ a ∧ a ≤ 39)) : an_thing a x y z d = -100002 := if_neg (fun h => q h.1)
theorem an_thing_2 {a x y z d : Int32} (q : ¬ ((-5000 ≤ x ∧ x ≤ 5000) ∧ (-5000 ≤ y ∧ y ≤ 5000) ∧ (-5000 ≤ z ∧ z ≤ 5000))) : an_thing a x y z d = -100002 := if_neg (fun h => q h.2.1)
theorem an_thing_3 {a x y z d : Int32} (q : ¬ (0 ≤ d ∧ d ≤ 200)) : an_thing a x y z d = -100002 := if_neg (fun h => q h.2.2)
def an_dot (a x y z : Int32) : Int32 := if (0 ≤ a ∧ a ≤ 39) ∧ ((-5000 ≤ x ∧ x ≤ 5000) ∧ (-5000 ≤ y ∧ y ≤ 5000) ∧ (-5000 ≤ z ∧ z ≤ 5000)) then 0 else -100002
theorem an_dot_ok {a x y z : Int32} (q1 : 0 ≤ a ∧ a ≤ 39) (q2 : (-5000 ≤ x ∧ x ≤ 5000) ∧ (-5000 ≤ y ∧ y ≤ 5000) ∧ (-5000 ≤ z ∧ z ≤ 5000)) : an_dot a x y z = 0 := if_pos ⟨q1, q2⟩
theorem an_dot_1 {a x y z : Int32} (q : ¬ (0 ≤ a ∧ a ≤ 39)) : an_dot a x y z = -100002 := if_neg (fun h => q h.1)
theorem an_dot_2 {a x y z : Int32} (q : ¬ ((-5000 ≤ x ∧ x ≤ 5000) ∧ (-5000 ≤ y ∧ y ≤ 5000) ∧ (-5000 ≤ z ∧ z ≤ 5000))) : an_dot a x y z = -100002 := if_neg (fun h => q h.2)
def an_count (w : Int32) : Int32 := if 0 ≤ w ∧ w ≤ 9 then 0 else -100002
theorem an_count_out {w : Int32} (h : w.toInt < 0 ∨ 9 < w.toInt) : an_count w = -100002 := if_neg (fun q => by
  have e0 : (0 : Int32).toInt = 0 := by decide
  have e9 : (9 : Int32).toInt = 9 := by decide
  simp only [fa_le] at q
  omega)
def an_meeting (w : Int32) : Int32 := if 0 ≤ w ∧ w ≤ 1 then -1 else -100002
def an_keep (w : Int32) : Int32 := if w = 0 ∨ w = 1 then 0 else -100001
theorem an_keep_n {w : Int32} (n0 : ¬ w = 0) (n1 : ¬ w = 1) : an_keep w = -100001 := if_neg (fun h => h.elim n0 n1)
def an_differs (w : Int32) : Int32 := if w = 0 ∨ w = 1 then -100003 else -100001
theorem an_differs_n {w : Int32} (n0 : ¬ w = 0) (n1 : ¬ w = 1) : an_differs w = -100001 := if_neg (fun h => h.elim n0 n1)
def an_rule (w v : Int32) : Int32 := if w = 0 then (if 1 ≤ v ∧ v ≤ 3000 then 50 else -100002) else if w = 1 then (if 0 ≤ v ∧ v ≤ 400 then 20 else -100002) else -100002
theorem an_rule_n {w v : Int32} (n0 : ¬ w = 0) (n1 : ¬ w = 1) : an_rule w v = -100002 := by unfold an_rule; rw [if_neg n0, if_neg n1]
theorem an_rule_0 (v : Int32) : an_rule 0 v = if 1 ≤ v ∧ v ≤ 3000 then 50 else -100002 := by unfold an_rule; rw [if_pos rfl]
theorem an_rule_1 (v : Int32) : an_rule 1 v = if 0 ≤ v ∧ v ≤ 400 then 20 else -100002 := by unfold an_rule; rw [if_neg (by decide), if_pos rfl]
theorem sw_10 (x : Int32) : (x.toInt < 0 ∨ 9 < x.toInt) ∨ x = 0 ∨ x = 1 ∨ x = 2 ∨ x = 3 ∨ x = 4 ∨ x = 5 ∨ x = 6 ∨ x = 7 ∨ x = 8 ∨ x = 9 := by
  have e0 : (0 : Int32).toInt = 0 := by decide
  have e1 : (1 : Int32).toInt = 1 := by decide
  have e2 : (2 : Int32).toInt = 2 := by decide
  have e3 : (3 : Int32).toInt = 3 := by decide
  have e4 : (4 : Int32).toInt = 4 := by decide
  have e5 : (5 : Int32).toInt = 5 := by decide
  have e6 : (6 : Int32).toInt = 6 := by decide
  have e7 : (7 : Int32).toInt = 7 := by decide
  have e8 : (8 : Int32).toInt = 8 := by decide
  have e9 : (9 : Int32).toInt = 9 := by decide
  simp only [fa_eq]
  omega
theorem sw_21 (x : Int32) : (x.toInt < 0 ∨ 20 < x.toInt) ∨ x = 0 ∨ x = 1 ∨ x = 2 ∨ x = 3 ∨ x = 4 ∨ x = 5 ∨ x = 6 ∨ x = 7 ∨ x = 8 ∨ x = 9 ∨ x = 10 ∨ x = 11 ∨ x = 12 ∨ x = 13 ∨ x = 14 ∨ x = 15 ∨ x = 16 ∨ x = 17 ∨ x = 18 ∨ x = 19 ∨ x = 20 := by
  have e0 : (0 : Int32).toInt = 0 := by decide
  have e1 : (1 : Int32).toInt = 1 := by decide
  have e2 : (2 : Int32).toInt = 2 := by decide
  have e3 : (3 : Int32).toInt = 3 := by decide
  have e4 : (4 : Int32).toInt = 4 := by decide
  have e5 : (5 : Int32).toInt = 5 := by decide
  have e6 : (6 : Int32).toInt = 6 := by decide
  have e7 : (7 : Int32).toInt = 7 := by decide
  have e8 : (8 : Int32).toInt = 8 := by decide
  have e9 : (9 : Int32).toInt = 9 := by decide
  have e10 : (10 : Int32).toInt = 10 := by decide
  have e11 : (11 : Int32).toInt = 11 := by decide
  have e12 : (12 : Int32).toInt = 12 := by decide
  have e13 : (13 : Int32).toInt = 13 := by decide
  have e14 : (14 : Int32).toInt = 14 := by decide
  have e15 : (15 : Int32).toInt = 15 := by decide
  have e16 : (16 : Int32).toInt = 16 := by decide
  have e17 : (17 : Int32).toInt = 17 := by decide
  have e18 : (18 : Int32).toInt = 18 := by decide
  have e19 : (19 : Int32).toInt = 19 := by decide
  have e20 : (20 : Int32).toInt = 20 := by decide
  simp only [fa_eq]
  omega
def XN (U : State) : Prop := va_Nw (.methodLinkNest RX0 24 yX8_fuelOf RX8) U ∧ va_Nw (.methodLinkNest RX1 21 yX6_init RX8) U ∧ va_Nw (.methodLinkNest RX4 9 yX3_init RX8) U ∧ va_Nw (.methodLinkNest RX6 71 yX8_isPlace RX8) U ∧ va_Nw (.methodLinkNest RX8 11 yX1_init RX8) U ∧ va_Nw (.methodLinkNest RX8 43 yX7_init RX8) U ∧ va_Nw (.methodLinkNest RX8 50 yX4_init RX8) U ∧ va_Nw (.methodLinkNest RX8 57 yX3_init RX8) U ∧ va_Nw (.methodLinkNest RX8 64 yX6_init RX8) U ∧ va_Nw (.methodLinkNest RX8 71 yX0_init RX8) U ∧ va_AO "MeetingsAbove$Dot" U ∧ va_AO "MeetingsAbove$Notice" U ∧ va_AO "MeetingsAbove$Thing" U
theorem XN_X0_24 {U : State} (h : XN U) : va_Nw (.methodLinkNest RX0 24 yX8_fuelOf RX8) U := h.1
theorem XN_X1_21 {U : State} (h : XN U) : va_Nw (.methodLinkNest RX1 21 yX6_init RX8) U := h.2.1
theorem XN_X4_9 {U : State} (h : XN U) : va_Nw (.methodLinkNest RX4 9 yX3_init RX8) U := h.2.2.1
theorem XN_X6_71 {U : State} (h : XN U) : va_Nw (.methodLinkNest RX6 71 yX8_isPlace RX8) U := h.2.2.2.1
theorem XN_X8_11 {U : State} (h : XN U) : va_Nw (.methodLinkNest RX8 11 yX1_init RX8) U := h.2.2.2.2.1
theorem XN_X8_43 {U : State} (h : XN U) : va_Nw (.methodLinkNest RX8 43 yX7_init RX8) U := h.2.2.2.2.2.1
theorem XN_X8_50 {U : State} (h : XN U) : va_Nw (.methodLinkNest RX8 50 yX4_init RX8) U := h.2.2.2.2.2.2.1
theorem XN_X8_57 {U : State} (h : XN U) : va_Nw (.methodLinkNest RX8 57 yX3_init RX8) U := h.2.2.2.2.2.2.2.1
theorem XN_X8_64 {U : State} (h : XN U) : va_Nw (.methodLinkNest RX8 64 yX6_init RX8) U := h.2.2.2.2.2.2.2.2.1
theorem XN_X8_71 {U : State} (h : XN U) : va_Nw (.methodLinkNest RX8 71 yX0_init RX8) U := h.2.2.2.2.2.2.2.2.2.1
theorem XN_ao_X2 {U : State} (h : XN U) : va_AO "MeetingsAbove$Dot" U := h.2.2.2.2.2.2.2.2.2.2.1
theorem XN_ao_X5 {U : State} (h : XN U) : va_AO "MeetingsAbove$Notice" U := h.2.2.2.2.2.2.2.2.2.2.2.1
theorem XN_ao_X6 {U : State} (h : XN U) : va_AO "MeetingsAbove$Thing" U := h.2.2.2.2.2.2.2.2.2.2.2.2
theorem XN_warm {s U : State} (hW : s.WarmedH U.vm) (h : XN s) : XN U := ⟨va_Nw.warmM hW (XN_X0_24 h), va_Nw.warmM hW (XN_X1_21 h), va_Nw.warmM hW (XN_X4_9 h), va_Nw.warmM hW (XN_X6_71 h), va_Nw.warmM hW (XN_X8_11 h), va_Nw.warmM hW (XN_X8_43 h), va_Nw.warmM hW (XN_X8_50 h), va_Nw.warmM hW (XN_X8_57 h), va_Nw.warmM hW (XN_X8_64 h), va_Nw.warmM hW (XN_X8_71 h), va_AO.moved hW.alike (XN_ao_X2 h), va_AO.moved hW.alike (XN_ao_X5 h), va_AO.moved hW.alike (XN_ao_X6 h)⟩
theorem XN_same {U U2 : State} (e : U.vm = U2.vm) (h : XN U) : XN U2 := ⟨va_Nw.same rfl e (XN_X0_24 h), va_Nw.same rfl e (XN_X1_21 h), va_Nw.same rfl e (XN_X4_9 h), va_Nw.same rfl e (XN_X6_71 h), va_Nw.same rfl e (XN_X8_11 h), va_Nw.same rfl e (XN_X8_43 h), va_Nw.same rfl e (XN_X8_50 h), va_Nw.same rfl e (XN_X8_57 h), va_Nw.same rfl e (XN_X8_64 h), va_Nw.same rfl e (XN_X8_71 h), va_AO.moved (by rw [e]; exact Vm.Alike.refl U2.vm) (XN_ao_X2 h), va_AO.moved (by rw [e]; exact Vm.Alike.refl U2.vm) (XN_ao_X5 h), va_AO.moved (by rw [e]; exact Vm.Alike.refl U2.vm) (XN_ao_X6 h)⟩
