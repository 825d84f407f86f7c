def wk_X8_fuelB : List Cond := .code yX8_fuelOf cX8_fuelOf 3 (some .int) :: (([.methodLink RX8 354 Lib.Math.abs.name, .static Lib.Math.abs.name, .initialized "java/lang/Math", .code Lib.Math.abs.name Lib.Math.abs.code 1 (some .int)] : List Cond) ++ ([]))
theorem gw_X8_fuelB : AG wk_X8_fuelB := AG_ca (AG_l (by decide +kernel)) (AG_nil)
set_option maxHeartbeats 4000000 in
set_option maxRecDepth 100000 in
theorem c_X8_fuelB (l : Launch) (dC : Nat → ClassId) (dI : Nat → Nat → Nat) (p1 : Int32) (p2 : Int32) (p3 : Int32) (hb : (-2 ≤ p1.toInt ∧ p1.toInt ≤ 2) ∧ (-2 ≤ p2.toInt ∧ p2.toInt ≤ 2) ∧ (-2 ≤ p3.toInt ∧ p3.toInt ≤ 2)) : Met l yX8_fuelOf wk_X8_fuelB ({ frames := 1, cells := 0, slots := 0, locals := 14 }) (va_Pc [.int p1, .int p2, .int p3] (fun _ => True)) (vp_Si (fun r => 0 ≤ r.toInt ∧ (r.toInt = 0 ↔ p1.toInt = 0 ∧ p2.toInt = 0 ∧ p3.toInt = 0))) 0 0 (fun _ => False) := by
  refine Met.ofW (cc := cX8_fuelOf) (maxL := 3) (ret := (some .int)) (by decide) rfl ?_
  intro p e s m args below meth c s₁ B hml hv
  obtain ⟨rfl, -⟩ := hv
  have hx := B.exec
  have hb := B.bytes
  have hr := B.returns
  have hts := atoms_spec (ws := wk_X8_fuelB) B.pre
  have hown : s.vm.findClass RX8 = some m.cls := findClass_of_methodNamed B.named
  have hlocks := B.notSynchronized
  have hl := lv_entry ([.int p1, .int p2, .int p3]) (n := 3) (Nat.le_of_ble_eq_true rfl)
  rw [lg_entry_eq]
  generalize (lg_sl ([.int p1, .int p2, .int p3]) ++ List.replicate (3 - (lg_sl ([.int p1, .int p2, .int p3])).length) Slot.unset).toArray = ls at hl ⊢
  have hl : lv_has ls 3 [(0, .int p1), (1, .int p2), (2, .int p3)] := hl
  have kl_0 : (0 : Int32).toInt = 0 := by decide
  refine lv_iload_n hx hb dX8_fuelOf_0 rfl (lv_at hl 0 rfl) ?_
  refine va_mabs hx hb (by rw [hml]; exact hl.1.symm) hown (hts (.methodLink RX8 354 Lib.Math.abs.name) (by decide +kernel)) (hts (.static Lib.Math.abs.name) (by decide +kernel)) (hts (.initialized "java/lang/Math") (by decide +kernel)) (hts _ (List.mem_of_getElem? (i := 4) rfl)) (Nat.le_of_ble_eq_true rfl) (Nat.le_of_ble_eq_true rfl) (Nat.le_of_ble_eq_true rfl) (Nat.le_of_ble_eq_true rfl) dX8_fuelOf_1 ?_
  refine lv_topi (fun y_1 ey_1 => ?_)
  have ty_1 := ab_I ey_1 (by omega)
  refine lv_iload_n hx hb dX8_fuelOf_4 rfl (lv_at hl 1 rfl) ?_
  refine va_mabs hx hb (by rw [hml]; exact hl.1.symm) hown (hts (.methodLink RX8 354 Lib.Math.abs.name) (by decide +kernel)) (hts (.static Lib.Math.abs.name) (by decide +kernel)) (hts (.initialized "java/lang/Math") (by decide +kernel)) (hts _ (List.mem_of_getElem? (i := 4) rfl)) (Nat.le_of_ble_eq_true rfl) (Nat.le_of_ble_eq_true rfl) (Nat.le_of_ble_eq_true rfl) (Nat.le_of_ble_eq_true rfl) dX8_fuelOf_5 ?_
  refine lv_topi (fun y_2 ey_2 => ?_)
  have ty_2 := ab_I ey_2 (by omega)
  refine lv_iadd hx hb dX8_fuelOf_8 ?_
  refine lv_topi (fun y_3 ey_3 => ?_)
  have ty_3 : y_3.toInt = y_1.toInt + y_2.toInt := by rw [ey_3]; have := fb_addI (x := y_1) (y := y_2) (by omega) (by omega); omega
  refine lv_iload_n hx hb dX8_fuelOf_9 rfl (lv_at hl 2 rfl) ?_
  refine va_mabs hx hb (by rw [hml]; exact hl.1.symm) hown (hts (.methodLink RX8 354 Lib.Math.abs.name) (by decide +kernel)) (hts (.static Lib.Math.abs.name) (by decide +kernel)) (hts (.initialized "java/lang/Math") (by decide +kernel)) (hts _ (List.mem_of_getElem? (i := 4) rfl)) (Nat.le_of_ble_eq_true rfl) (Nat.le_of_ble_eq_true rfl) (Nat.le_of_ble_eq_true rfl) (Nat.le_of_ble_eq_true rfl) dX8_fuelOf_10 ?_
  refine lv_topi (fun y_4 ey_4 => ?_)
  have ty_4 := ab_I ey_4 (by omega)
  refine lv_iadd hx hb dX8_fuelOf_13 ?_
  refine lv_topi (fun y_5 ey_5 => ?_)
  have ty_5 : y_5.toInt = y_3.toInt + y_4.toInt := by rw [ey_5]; have := fb_addI (x := y_3) (y := y_4) (by omega) (by omega); omega
  exact W.iret (v := y_5) hx hb hr (fun t ht _ => ⟨_, rfl, (by omega), ht⟩) (fun _ h => absurd h List.not_mem_nil) dX8_fuelOf_14
def wk_X8_isBurn : List Cond := .code yX8_isBurn cX8_isBurn 3 (some .boolean) :: (([] : List Cond) ++ ((va_wsS RX8 84 yX8_isWithin wk_X8_isWithin) ++ ((va_wsS RX8 320 yX8_fuelOf wk_X8_fuelB) ++ ([]))))
theorem gw_X8_isBurn : AG wk_X8_isBurn := AG_ca (AG_l (by decide +kernel)) (AG_app (AG_S gw_X8_isWithin) (AG_app (AG_S gw_X8_fuelB) (AG_nil)))
theorem g_X8_isBurn__X8_isWithin_84 : GoodIn wk_X8_isBurn (va_wsS RX8 84 yX8_isWithin wk_X8_isWithin) := goodIn_m (fun _ h => List.mem_cons_of_mem _ (List.mem_append_right _ (List.mem_append_left _ h))) (AG_S gw_X8_isWithin)
theorem g_X8_isBurn__X8_fuelB_320 : GoodIn wk_X8_isBurn (va_wsS RX8 320 yX8_fuelOf wk_X8_fuelB) := goodIn_m (fun _ h => List.mem_cons_of_mem _ (List.mem_append_right _ (List.mem_append_right _ (List.mem_append_left _ h)))) (AG_S gw_X8_fuelB)
set_option maxHeartbeats 4000000 in
set_option maxRecDepth 100000 in
theorem c_X8_isBurn (l : Launch) (dC : Nat → ClassId) (dI : Nat → Nat → Nat) (p1 : Int32) (p2 : Int32) (p3 : Int32) : Met l yX8_isBurn wk_X8_isBurn ({ frames := 2, cells := 0, slots := 0, locals := 36 }) (va_Pc [.int p1, .int p2, .int p3] (fun _ => True)) (vp_Si (fun r => r = if ((-2 ≤ p1.toInt ∧ p1.toInt ≤ 2) ∧ (-2 ≤ p2.toInt ∧ p2.toInt ≤ 2) ∧ (-2 ≤ p3.toInt ∧ p3.toInt ≤ 2)) ∧ ¬ (p1.toInt = 0 ∧ p2.toInt = 0 ∧ p3.toInt = 0) then 1 else 0)) 0 0 (fun _ => False) := by
  refine Met.ofW (cc := cX8_isBurn) (maxL := 3) (ret := (some .boolean)) (by decide) rfl ?_
  intro p e s m args below meth c s₁ B hml hv
  obtain ⟨rfl, -⟩ := hv
  have hx := B.exec
  have hb := B.bytes
  have hr := B.returns
  have hts := atoms_spec (ws := wk_X8_isBurn) B.pre
  have hown : s.vm.findClass RX8 = some m.cls := findClass_of_methodNamed B.named
  have hlocks := B.notSynchronized
  have hl := lv_entry ([.int p1, .int p2, .int p3]) (n := 3) (Nat.le_of_ble_eq_true rfl)
  rw [lg_entry_eq]
  generalize (lg_sl ([.int p1, .int p2, .int p3]) ++ List.replicate (3 - (lg_sl ([.int p1, .int p2, .int p3])).length) Slot.unset).toArray = ls at hl ⊢
  have hl : lv_has ls 3 [(0, .int p1), (1, .int p2), (2, .int p3)] := hl
  have kl_m2 : (-2 : Int32).toInt = -2 := by decide
  have kl_0 : (0 : Int32).toInt = 0 := by decide
  have kl_1 : (1 : Int32).toInt = 1 := by decide
  have kl_2 : (2 : Int32).toInt = 2 := by decide
  refine lv_iload_n hx hb dX8_isBurn_0 rfl (lv_at hl 0 rfl) ?_
  refine lv_bipush (v := (-2)) hx hb dX8_isBurn_1 (by decide) ?_
  refine lv_iconst (v := 2) hx hb dX8_isBurn_3 (by decide) ?_
  refine vp_callSi (W.runS (As := [.int p1, .int (-2), .int 2]) (rest := []) ⟨hx, hb, hml, hown, hts⟩ (c_X8_isWithin l dC dI p1 (-2) 2) (va_cwS 3 hts g_X8_isBurn__X8_isWithin_84 rfl rfl rfl (by decide +kernel) ⟨Nat.le_of_ble_eq_true rfl, Nat.le_of_ble_eq_true rfl⟩) ⟨fun a U g mk q => by obtain ⟨q0, q1⟩ := q; exact ⟨q0, q1⟩, fun U hU hW => ⟨rfl, trivial⟩⟩ rfl rfl hl.1 rfl (lv_room (Nat.le_of_ble_eq_true rfl)) dX8_isBurn_4 ⟨Nat.le_of_ble_eq_true rfl, Nat.le_of_ble_eq_true rfl⟩) (fun r_1 hr_1 => ?_)
  try dsimp only at hr_1
  rcases bo_split hr_1 with ⟨rfl, q_4⟩ | ⟨rfl, q_4⟩
  · refine lv_if_eq (tgt := 43) hx hb dX8_isBurn_7 (by decide) (fun h9 => absurd h9 (by decide)) (fun _ => ?_)
    refine lv_iload_n hx hb dX8_isBurn_10 rfl (lv_at hl 1 rfl) ?_
    refine lv_bipush (v := (-2)) hx hb dX8_isBurn_11 (by decide) ?_
    refine lv_iconst (v := 2) hx hb dX8_isBurn_13 (by decide) ?_
    refine vp_callSi (W.runS (As := [.int p2, .int (-2), .int 2]) (rest := []) ⟨hx, hb, hml, hown, hts⟩ (c_X8_isWithin l dC dI p2 (-2) 2) (va_cwS 3 hts g_X8_isBurn__X8_isWithin_84 rfl rfl rfl (by decide +kernel) ⟨Nat.le_of_ble_eq_true rfl, Nat.le_of_ble_eq_true rfl⟩) ⟨fun a U g mk q => by obtain ⟨q0, q1⟩ := q; exact ⟨q0, q1⟩, fun U hU hW => ⟨rfl, trivial⟩⟩ rfl rfl hl.1 rfl (lv_room (Nat.le_of_ble_eq_true rfl)) dX8_isBurn_14 ⟨Nat.le_of_ble_eq_true rfl, Nat.le_of_ble_eq_true rfl⟩) (fun r_2 hr_2 => ?_)
    try dsimp only at hr_2
    rcases bo_split hr_2 with ⟨rfl, q_14⟩ | ⟨rfl, q_14⟩
    · refine lv_if_eq (tgt := 43) hx hb dX8_isBurn_17 (by decide) (fun h9 => absurd h9 (by decide)) (fun _ => ?_)
      refine lv_iload_n hx hb dX8_isBurn_20 rfl (lv_at hl 2 rfl) ?_
      refine lv_bipush (v := (-2)) hx hb dX8_isBurn_21 (by decide) ?_
      refine lv_iconst (v := 2) hx hb dX8_isBurn_23 (by decide) ?_
      refine vp_callSi (W.runS (As := [.int p3, .int (-2), .int 2]) (rest := []) ⟨hx, hb, hml, hown, hts⟩ (c_X8_isWithin l dC dI p3 (-2) 2) (va_cwS 3 hts g_X8_isBurn__X8_isWithin_84 rfl rfl rfl (by decide +kernel) ⟨Nat.le_of_ble_eq_true rfl, Nat.le_of_ble_eq_true rfl⟩) ⟨fun a U g mk q => by obtain ⟨q0, q1⟩ := q; exact ⟨q0, q1⟩, fun U hU hW => ⟨rfl, trivial⟩⟩ rfl rfl hl.1 rfl (lv_room (Nat.le_of_ble_eq_true rfl)) dX8_isBurn_24 ⟨Nat.le_of_ble_eq_true rfl, Nat.le_of_ble_eq_true rfl⟩) (fun r_3 hr_3 => ?_)
      try dsimp only at hr_3
      rcases bo_split hr_3 with ⟨rfl, q_24⟩ | ⟨rfl, q_24⟩
      · refine lv_if_eq (tgt := 43) hx hb dX8_isBurn_27 (by decide) (fun h9 => absurd h9 (by decide)) (fun _ => ?_)
        refine lv_iload_n hx hb dX8_isBurn_30 rfl (lv_at hl 0 rfl) ?_
        refine lv_iload_n hx hb dX8_isBurn_31 rfl (lv_at hl 1 rfl) ?_
        refine lv_iload_n hx hb dX8_isBurn_32 rfl (lv_at hl 2 rfl) ?_
        refine vp_callSi (W.runS (As := [.int p1, .int p2, .int p3]) (rest := []) ⟨hx, hb, hml, hown, hts⟩ (c_X8_fuelB l dC dI p1 p2 p3 (by first | omega | assumption)) (va_cwS 3 hts g_X8_isBurn__X8_fuelB_320 rfl rfl rfl (by decide +kernel) ⟨Nat.le_of_ble_eq_true rfl, Nat.le_of_ble_eq_true rfl⟩) ⟨fun a U g mk q => by obtain ⟨q0, q1⟩ := q; exact ⟨q0, q1⟩, fun U hU hW => ⟨rfl, trivial⟩⟩ rfl rfl hl.1 rfl (lv_room (Nat.le_of_ble_eq_true rfl)) dX8_isBurn_33 ⟨Nat.le_of_ble_eq_true rfl, Nat.le_of_ble_eq_true rfl⟩) (fun r_4 hr_4 => ?_)
        try dsimp only at hr_4
        refine lv_if_le (tgt := 43) hx hb dX8_isBurn_36 (by decide) (fun c_36 => ?_) (fun c_36 => ?_)
        · have t_36 := (fa_le _ _).mp c_36
          refine lv_iconst (v := 0) hx hb dX8_isBurn_43 (by decide) ?_
          exact W.zret (v := 0) hx hb hr rfl (fun t ht _ => ⟨_, rfl, (by first | exact (if_pos (by omega)).symm | exact (if_neg (by omega)).symm), ht⟩) (fun _ h => absurd h List.not_mem_nil) dX8_isBurn_44
        · have t_36 := mt (fa_le _ _).mpr c_36
          refine lv_iconst (v := 1) hx hb dX8_isBurn_39 (by decide) ?_
          refine lv_goto (tgt := 44) hx hb dX8_isBurn_40 (by decide) ?_
          exact W.zret (v := 1) hx hb hr rfl (fun t ht _ => ⟨_, rfl, (by first | exact (if_pos (by omega)).symm | exact (if_neg (by omega)).symm), ht⟩) (fun _ h => absurd h List.not_mem_nil) dX8_isBurn_44
      · refine lv_if_eq (tgt := 43) hx hb dX8_isBurn_27 (by decide) (fun _ => ?_) (fun h9 => absurd h9 (by decide))
        refine lv_iconst (v := 0) hx hb dX8_isBurn_43 (by decide) ?_
        exact W.zret (v := 0) hx hb hr rfl (fun t ht _ => ⟨_, rfl, (by first | exact (if_pos (by omega)).symm | exact (if_neg (by omega)).symm), ht⟩) (fun _ h => absurd h List.not_mem_nil) dX8_isBurn_44
    · refine lv_if_eq (tgt := 43) hx hb dX8_isBurn_17 (by decide) (fun _ => ?_) (fun h9 => absurd h9 (by decide))
      refine lv_iconst (v := 0) hx hb dX8_isBurn_43 (by decide) ?_
      exact W.zret (v := 0) hx hb hr rfl (fun t ht _ => ⟨_, rfl, (by first | exact (if_pos (by omega)).symm | exact (if_neg (by omega)).symm), ht⟩) (fun _ h => absurd h List.not_mem_nil) dX8_isBurn_44
  · refine lv_if_eq (tgt := 43) hx hb dX8_isBurn_7 (by decide) (fun _ => ?_) (fun h9 => absurd h9 (by decide))
    refine lv_iconst (v := 0) hx hb dX8_isBurn_43 (by decide) ?_
    exact W.zret (v := 0) hx hb hr rfl (fun t ht _ => ⟨_, rfl, (by first | exact (if_pos (by omega)).symm | exact (if_neg (by omega)).symm), ht⟩) (fun _ h => absurd h List.not_mem_nil) dX8_isBurn_44
def wk_X0_becomeNone : List Cond := .code yX0_becomeNone cX0_becomeNone 1 none :: (([.fieldLink RX0 9 "MeetingsAbove$Burn" "step" "I", .fieldLink RX0 15 "MeetingsAbove$Burn" "a" "I", .fieldLink RX0 18 "MeetingsAbove$Burn" "b" "I", .fieldLink RX0 21 "MeetingsAbove$Burn" "c" "I", .fieldLink RX0 28 "MeetingsAbove$Burn" "fuel" "I"] : List Cond) ++ (wsX00 ++ ([])))
theorem in_X0_becomeNone_X0 : ∀ w ∈ wsX00, w ∈ wk_X0_becomeNone := fun _ h => List.mem_cons_of_mem _ (List.mem_append_right _ (List.mem_append_left _ h))
theorem gw_X0_becomeNone : AG wk_X0_becomeNone := AG_ca (AG_l (by decide +kernel)) (AG_app ag_X0 (AG_nil))
set_option maxHeartbeats 4000000 in
set_option maxRecDepth 100000 in
theorem c_X0_becomeNone (l : Launch) (dC : Nat → ClassId) (dI : Nat → Nat → Nat) (h0 : Nat) (bf : Int32) (bs : Int32) (ba : Int32) (bb : Int32) (bc : Int32) (sz : Nat) : Met l yX0_becomeNone wk_X0_becomeNone ({ frames := 0, cells := 0, slots := 0, locals := 0 }) (va_Pc [.ref h0] (fun U => U.heap.size = sz ∧ va_P (dC, dI) vwCl [(h0, .inr (0, [.int bf, .int bs, .int ba, .int bb, .int bc]))] U.heap ∧ va_K (dC, dI) vwCl [] U ∧ va_D (fun _ => True) [(h0, .inr (0, [.int bf, .int bs, .int ba, .int bb, .int bc]))])) (va_Qv (fun (_ : Unit) => True) (fun (_ : Unit) (t : State) => va_P (dC, dI) vwCl [(h0, .inr (0, [.int (-1), .int (-1), .int 0, .int 0, .int 0]))] t.heap ∧ va_K (dC, dI) vwCl [] t ∧ va_D (va_A [(h0, .inr (0, [.int bf, .int bs, .int ba, .int bb, .int bc]))] sz) [(h0, .inr (0, [.int (-1), .int (-1), .int 0, .int 0, .int 0]))]) (va_A [(h0, .inr (0, [.int bf, .int bs, .int ba, .int bb, .int bc]))] sz)) 0 0 (va_A [(h0, .inr (0, [.int bf, .int bs, .int ba, .int bb, .int bc]))] sz) := by
  refine Met.ofW (cc := cX0_becomeNone) (maxL := 1) (ret := none) (by decide) rfl ?_
  intro p e s m args below meth c s₁ B hml hv
  obtain ⟨rfl, hsz, hP, hK, hD0⟩ := hv
  have hx := B.exec
  have hb := B.bytes
  have hr := B.returns
  have hts := atoms_spec (ws := wk_X0_becomeNone) B.pre
  have hown : s.vm.findClass RX0 = some m.cls := findClass_of_methodNamed B.named
  have hlocks := B.notSynchronized
  subst hsz
  have hD := hD0.self (sz := s.heap.size)
  generalize hAe : va_A [(h0, .inr (0, [.int bf, .int bs, .int ba, .int bb, .int bc]))] s.heap.size = A at hD ⊢
  have hA : ∀ q : Nat, s.heap.size ≤ q → A q := fun q h => by rw [← hAe]; exact Or.inr h
  have hS : va_S A s.heap s.heap [] := va_S.rf
  have hP : va_P (dC, dI) vwCl [(h0, .inr (0, [.int bf, .int bs, .int ba, .int bb, .int bc]))] s.heap := hP
  have hl := lv_entry ([.ref h0]) (n := 1) (Nat.le_of_ble_eq_true rfl)
  rw [lg_entry_eq]
  generalize (lg_sl ([.ref h0]) ++ List.replicate (1 - (lg_sl ([.ref h0])).length) Slot.unset).toArray = ls at hl ⊢
  have hl : lv_has ls 1 [(0, .ref h0)] := hl
  refine lv_aload_n hx hb dX0_becomeNone_0 rfl (lv_at hl 0 rfl) ?_
  refine lv_iconst (v := (-1)) hx hb dX0_becomeNone_1 (by decide) ?_
  refine va_put (D := (dC, dI)) (ci := 0) (v := .int (-1)) (ty := .int) (C := RX0) (T := TX0) (N := 5) hx hb hts in_X0_becomeNone_X0 tyX0 tyX0_ok nmX0 hown hK hP hD hS 0 rfl rfl 1 (by decide) (hts (.fieldLink RX0 9 "MeetingsAbove$Burn" "step" "I") (by decide +kernel)) (fun _ h9 => h9) rfl (by decide +kernel) rfl rfl (Nat.le_of_ble_eq_true rfl) dX0_becomeNone_2 (fun H locs hP hD hS => ?_)
  have hP : va_P (dC, dI) vwCl [(h0, .inr (0, [.int bf, .int (-1), .int ba, .int bb, .int bc]))] H := hP
  have hD : va_D A [(h0, .inr (0, [.int bf, .int (-1), .int ba, .int bb, .int bc]))] := hD
  refine lv_aload_n hx hb dX0_becomeNone_5 rfl (lv_at hl 0 rfl) ?_
  refine lv_iconst (v := 0) hx hb dX0_becomeNone_6 (by decide) ?_
  refine va_put (D := (dC, dI)) (ci := 0) (v := .int 0) (ty := .int) (C := RX0) (T := TX0) (N := 5) hx hb hts in_X0_becomeNone_X0 tyX0 tyX0_ok nmX0 hown hK hP hD hS 0 rfl rfl 2 (by decide) (hts (.fieldLink RX0 15 "MeetingsAbove$Burn" "a" "I") (by decide +kernel)) (fun _ h9 => h9) rfl (by decide +kernel) rfl rfl (Nat.le_of_ble_eq_true rfl) dX0_becomeNone_7 (fun H locs hP hD hS => ?_)
  have hP : va_P (dC, dI) vwCl [(h0, .inr (0, [.int bf, .int (-1), .int 0, .int bb, .int bc]))] H := hP
  have hD : va_D A [(h0, .inr (0, [.int bf, .int (-1), .int 0, .int bb, .int bc]))] := hD
  refine lv_aload_n hx hb dX0_becomeNone_10 rfl (lv_at hl 0 rfl) ?_
  refine lv_iconst (v := 0) hx hb dX0_becomeNone_11 (by decide) ?_
  refine va_put (D := (dC, dI)) (ci := 0) (v := .int 0) (ty := .int) (C := RX0) (T := TX0) (N := 5) hx hb hts in_X0_becomeNone_X0 tyX0 tyX0_ok nmX0 hown hK hP hD hS 0 rfl rfl 3 (by decide) (hts (.fieldLink RX0 18 "MeetingsAbove$Burn" "b" "I") (by decide +kernel)) (fun _ h9 => h9) rfl (by decide +kernel) rfl rfl (Nat.le_of_ble_eq_true rfl) dX0_becomeNone_12 (fun H locs hP hD hS => ?_)
  have hP : va_P (dC, dI) vwCl [(h0, .inr (0, [.int bf, .int (-1), .int 0, .int 0, .int bc]))] H := hP
  have hD : va_D A [(h0, .inr (0, [.int bf, .int (-1), .int 0, .int 0, .int bc]))] := hD
  refine lv_aload_n hx hb dX0_becomeNone_15 rfl (lv_at hl 0 rfl) ?_
  refine lv_iconst (v := 0) hx hb dX0_becomeNone_16 (by decide) ?_
  refine va_put (D := (dC, dI)) (ci := 0) (v := .int 0) (ty := .int) (C := RX0) (T := TX0) (N := 5) hx hb hts in_X0_becomeNone_X0 tyX0 tyX0_ok nmX0 hown hK hP hD hS 0 rfl rfl 4 (by decide) (hts (.fieldLink RX0 21 "MeetingsAbove$Burn" "c" "I") (by decide +kernel)) (fun _ h9 => h9) rfl (by decide +kernel) rfl rfl (Nat.le_of_ble_eq_true rfl) dX0_becomeNone_17 (fun H locs hP hD hS => ?_)
  have hP : va_P (dC, dI) vwCl [(h0, .inr (0, [.int bf, .int (-1), .int 0, .int 0, .int 0]))] H := hP
  have hD : va_D A [(h0, .inr (0, [.int bf, .int (-1), .int 0, .int 0, .int 0]))] := hD
  refine lv_aload_n hx hb dX0_becomeNone_20 rfl (lv_at hl 0 rfl) ?_
  refine lv_iconst (v := (-1)) hx hb dX0_becomeNone_21 (by decide) ?_
  refine va_put (D := (dC, dI)) (ci := 0) (v := .int (-1)) (ty := .int) (C := RX0) (T := TX0) (N := 5) hx hb hts in_X0_becomeNone_X0 tyX0 tyX0_ok nmX0 hown hK hP hD hS 0 rfl rfl 0 (by decide) (hts (.fieldLink RX0 28 "MeetingsAbove$Burn" "fuel" "I") (by decide +kernel)) (fun _ h9 => h9) rfl (by decide +kernel) rfl rfl (Nat.le_of_ble_eq_true rfl) dX0_becomeNone_22 (fun H locs hP hD hS => ?_)
  have hP : va_P (dC, dI) vwCl [(h0, .inr (0, [.int (-1), .int (-1), .int 0, .int 0, .int 0]))] H := hP
  have hD : va_D A [(h0, .inr (0, [.int (-1), .int (-1), .int 0, .int 0, .int 0]))] := hD
  have hP9 := hP.sub (ws' := [(h0, .inr (0, [.int (-1), .int (-1), .int 0, .int 0, .int 0]))]) [0] rfl
  have hD9 := hD.sub (ws' := [(h0, .inr (0, [.int (-1), .int (-1), .int 0, .int 0, .int 0]))]) [0] (by decide) rfl
  have hK9 := hK.sub (tys' := []) [] rfl
  refine W.widen (k := 0) (n := 0) (by omega) (by omega) ?_
  exact W.vret hx hb hr (fun t ht hW => ⟨⟨(), rfl, trivial, by rw [ht]; exact hP9, va_K.moved hW.alike hK9, hD9⟩, hS.F ht⟩) hS.2.2 dX0_becomeNone_25
def wk_X8_partDriftX : List Cond := .code yX8_partDriftX cX8_partDriftX 2 (some .int) :: (([] : List Cond) ++ ([]))
theorem gw_X8_partDriftX : AG wk_X8_partDriftX := AG_ca (AG_l (by decide +kernel)) (AG_nil)
set_option maxHeartbeats 4000000 in
set_option maxRecDepth 100000 in
theorem c_X8_partDriftX (l : Launch) (dC : Nat → ClassId) (dI : Nat → Nat → Nat) (p1 : Int32) (p2 : Int32) : Met l yX8_partDriftX wk_X8_partDriftX ({ frames := 0, cells := 0, slots := 0, locals := 0 }) (va_Pc [.int p1, .int p2] (fun _ => True)) (vp_Si (fun r => r = p1 - p2 / 2)) 0 0 (fun _ => False) := by
  refine Met.ofW (cc := cX8_partDriftX) (maxL := 2) (ret := (some .int)) (by decide) rfl ?_
  intro p e s m args below meth c s₁ B hml hv
  obtain ⟨rfl, -⟩ := hv
  have hx := B.exec
  have hb := B.bytes
  have hr := B.returns
  have hts := atoms_spec (ws := wk_X8_partDriftX) B.pre
  have hown : s.vm.findClass RX8 = some m.cls := findClass_of_methodNamed B.named
  have hlocks := B.notSynchronized
  have hl := lv_entry ([.int p1, .int p2]) (n := 2) (Nat.le_of_ble_eq_true rfl)
  rw [lg_entry_eq]
  generalize (lg_sl ([.int p1, .int p2]) ++ List.replicate (2 - (lg_sl ([.int p1, .int p2])).length) Slot.unset).toArray = ls at hl ⊢
  have hl : lv_has ls 2 [(0, .int p1), (1, .int p2)] := hl
  refine lv_iload_n hx hb dX8_partDriftX_0 rfl (lv_at hl 0 rfl) ?_
  refine lv_iload_n hx hb dX8_partDriftX_1 rfl (lv_at hl 1 rfl) ?_
  refine lv_iconst (v := 2) hx hb dX8_partDriftX_2 (by decide) ?_
  refine lv_idiv hx hb dX8_partDriftX_3 (by decide) ?_
  refine lv_topi (fun y_1 ey_1 => ?_)
  refine lv_isub hx hb dX8_partDriftX_4 ?_
  refine lv_topi (fun y_2 ey_2 => ?_)
  exact W.iret (v := y_2) hx hb hr (fun t ht _ => ⟨_, rfl, (by rw [ey_2, ey_1]), ht⟩) (fun _ h => absurd h List.not_mem_nil) dX8_partDriftX_5
def wk_X8_partDriftY : List Cond := .code yX8_partDriftY cX8_partDriftY 1 (some .int) :: (([] : List Cond) ++ ([]))
theorem gw_X8_partDriftY : AG wk_X8_partDriftY := AG_ca (AG_l (by decide +kernel)) (AG_nil)
set_option maxHeartbeats 4000000 in
set_option maxRecDepth 100000 in
theorem c_X8_partDriftY (l : Launch) (dC : Nat → ClassId) (dI : Nat → Nat → Nat) (p1 : Int32) : Met l yX8_partDriftY wk_X8_partDriftY ({ frames := 0, cells := 0, slots := 0, locals := 0 }) (va_Pc [.int p1] (fun _ => True)) (vp_Si (fun r => r = (p1 - p1 / 2 * 2) * 2 - 1)) 0 0 (fun _ => False) := by
  refine Met.ofW (cc := cX8_partDriftY) (maxL := 1) (ret := (some .int)) (by decide) rfl ?_
  intro p e s m args below meth c s₁ B hml hv
  obtain ⟨rfl, -⟩ := hv
  have hx := B.exec
  have hb := B.bytes
  have hr := B.returns
  have hts := atoms_spec (ws := wk_X8_partDriftY) B.pre
  have hown : s.vm.findClass RX8 = some m.cls := findClass_of_methodNamed B.named
  have hlocks := B.notSynchronized
  have hl := lv_entry ([.int p1]) (n := 1) (Nat.le_of_ble_eq_true rfl)
  rw [lg_entry_eq]
  generalize (lg_sl ([.int p1]) ++ List.replicate (1 - (lg_sl ([.int p1])).length) Slot.unset).toArray = ls at hl ⊢
  have hl : lv_has ls 1 [(0, .int p1)] := hl
  refine lv_iload_n hx hb dX8_partDriftY_0 rfl (lv_at hl 0 rfl) ?_
  refine lv_iconst (v := 2) hx hb dX8_partDriftY_1 (by decide) ?_
  refine lv_irem hx hb dX8_partDriftY_2 (by decide) ?_
  refine lv_topi (fun y_1 ey_1 => ?_)
  refine lv_iconst (v := 2) hx hb dX8_partDriftY_3 (by decide) ?_
  refine lv_imul hx hb dX8_partDriftY_4 ?_
  refine lv_topi (fun y_2 ey_2 => ?_)
  refine lv_iconst (v := 1) hx hb dX8_partDriftY_5 (by decide) ?_
  refine lv_isub hx hb dX8_partDriftY_6 ?_
  refine lv_topi (fun y_3 ey_3 => ?_)
  exact W.iret (v := y_3) hx hb hr (fun t ht _ => ⟨_, rfl, (by rw [ey_3, ey_2, ey_1]), ht⟩) (fun _ h => absurd h List.not_mem_nil) dX8_partDriftY_7
def wk_X8_firstTogether : List Cond := .code yX8_firstTogether cX8_firstTogether 2 (some .int) :: (([.fieldLink RX8 139 "MeetingsAbove$Thing" "first" "I", .methodLink RX8 274 Lib.Math.max.name, .static Lib.Math.max.name, .initialized "java/lang/Math", .code Lib.Math.max.name Lib.Math.max.code 2 (some .int)] : List Cond) ++ (wsX60 ++ ([])))
theorem in_X8_firstTogether_X6 : ∀ w ∈ wsX60, w ∈ wk_X8_firstTogether := fun _ h => List.mem_cons_of_mem _ (List.mem_append_right _ (List.mem_append_left _ h))
theorem gw_X8_firstTogether : AG wk_X8_firstTogether := AG_ca (AG_l (by decide +kernel)) (AG_app ag_X6 (AG_nil))
set_option maxHeartbeats 4000000 in
set_option maxRecDepth 100000 in
theorem c_X8_firstTogether (l : Launch) (dC : Nat → ClassId) (dI : Nat → Nat → Nat) (h1 : Nat) (x1 : Nat) (fi1 : Int32) (pl1 : Int32) (db1 : Int32) (go1 : Int32) (h2 : Nat) (x2 : Nat) (fi2 : Int32) (pl2 : Int32) (db2 : Int32) (go2 : Int32) : Met l yX8_firstTogether wk_X8_firstTogether ({ frames := 1, cells := 0, slots := 0, locals := 13 }) (va_Pc [.ref h1, .ref h2] (fun U => va_P (dC, dI) vwCl [(h1, .inr (6, [.ref x1, .int fi1, .int pl1, .int db1, .int go1])), (h2, .inr (6, [.ref x2, .int fi2, .int pl2, .int db2, .int go2]))] U.heap ∧ va_K (dC, dI) vwCl [] U)) (vp_Si (fun r => fi1.toInt ≤ r.toInt ∧ fi2.toInt ≤ r.toInt ∧ (r.toInt = fi1.toInt ∨ r.toInt = fi2.toInt))) 0 0 (fun _ => False) := by
  refine Met.ofW (cc := cX8_firstTogether) (maxL := 2) (ret := (some .int)) (by decide) rfl ?_
  intro p e s m args below meth c s₁ B hml hv
  obtain ⟨rfl, hP, hK⟩ := hv
  have hx := B.exec
  have hb := B.bytes
  have hr := B.returns
  have hts := atoms_spec (ws := wk_X8_firstTogether) B.pre
  have hown : s.vm.findClass RX8 = some m.cls := findClass_of_methodNamed B.named
  have hlocks := B.notSynchronized
  have hP : va_P (dC, dI) vwCl [(h1, .inr (6, [.ref x1, .int fi1, .int pl1, .int db1, .int go1])), (h2, .inr (6, [.ref x2, .int fi2, .int pl2, .int db2, .int go2]))] s.heap := hP
  have hl := lv_entry ([.ref h1, .ref h2]) (n := 2) (Nat.le_of_ble_eq_true rfl)
  rw [lg_entry_eq]
  generalize (lg_sl ([.ref h1, .ref h2]) ++ List.replicate (2 - (lg_sl ([.ref h1, .ref h2])).length) Slot.unset).toArray = ls at hl ⊢
  have hl : lv_has ls 2 [(0, .ref h1), (1, .ref h2)] := hl
  refine lv_aload_n hx hb dX8_firstTogether_0 rfl (lv_at hl 0 rfl) ?_
  refine va_get (D := (dC, dI)) (ci := 6) (v := .int fi1) (C := RX6) (T := TX6) (N := 5) hx hb hts in_X8_firstTogether_X6 hown hK hP 0 rfl rfl 1 (by decide) (hts (.fieldLink RX8 139 "MeetingsAbove$Thing" "first" "I") (by decide +kernel)) (fun _ h9 => h9) rfl dX8_firstTogether_1 ?_
  refine lv_aload_n hx hb dX8_firstTogether_4 rfl (lv_at hl 1 rfl) ?_
  refine va_get (D := (dC, dI)) (ci := 6) (v := .int fi2) (C := RX6) (T := TX6) (N := 5) hx hb hts in_X8_firstTogether_X6 hown hK hP 1 rfl rfl 1 (by decide) (hts (.fieldLink RX8 139 "MeetingsAbove$Thing" "first" "I") (by decide +kernel)) (fun _ h9 => h9) rfl dX8_firstTogether_5 ?_
  refine va_mmax hx hb (by rw [hml]; exact hl.1.symm) hown (hts (.methodLink RX8 274 Lib.Math.max.name) (by decide +kernel)) (hts (.static Lib.Math.max.name) (by decide +kernel)) (hts (.initialized "java/lang/Math") (by decide +kernel)) (hts _ (List.mem_of_getElem? (i := 5) rfl)) (Nat.le_of_ble_eq_true rfl) (Nat.le_of_ble_eq_true rfl) (Nat.le_of_ble_eq_true rfl) (Nat.le_of_ble_eq_true rfl) dX8_firstTogether_8 ?_
  refine lv_topi (fun y_1 ey_1 => ?_)
  have ty_1 := max_I ey_1
  exact W.iret (v := y_1) hx hb hr (fun t ht _ => ⟨_, rfl, (by omega), ht⟩) (fun _ h => absurd h List.not_mem_nil) dX8_firstTogether_11
def wk_X8_lastTogether : List Cond := .code yX8_lastTogether cX8_lastTogether 2 (some .int) :: (([.methodLink RX8 269 Lib.Math.min.name, .static Lib.Math.min.name, .initialized "java/lang/Math", .code Lib.Math.min.name Lib.Math.min.code 2 (some .int)] : List Cond) ++ ((wsV RX8 112 RX6 yX6_lastStep wk_X6_lastStep) ++ ([])))
theorem gw_X8_lastTogether : AG wk_X8_lastTogether := AG_ca (AG_l (by decide +kernel)) (AG_app (AG_V gw_X6_lastStep) (AG_nil))
theorem g_X8_lastTogether__X6_lastStep_112 : GoodIn wk_X8_lastTogether (wsV RX8 112 RX6 yX6_lastStep wk_X6_lastStep) := goodIn_m (fun _ h => List.mem_cons_of_mem _ (List.mem_append_right _ (List.mem_append_left _ h))) (AG_V gw_X6_lastStep)
set_option maxHeartbeats 4000000 in
set_option maxRecDepth 100000 in
theorem c_X8_lastTogether (l : Launch) (dC : Nat → ClassId) (dI : Nat → Nat → Nat) (h1 : Nat) (x1 : Nat) (fi1 : Int32) (pl1 : Int32) (db1 : Int32) (go1 : Int32) (h2 : Nat) (x2 : Nat) (fi2 : Int32) (pl2 : Int32) (db2 : Int32) (go2 : Int32) (ht1 : tOK fi1 pl1) (ht2 : tOK fi2 pl2) : Met l yX8_lastTogether wk_X8_lastTogether ({ frames := 1, cells := 0, slots := 0, locals := 20 }) (va_Pc [.ref h1, .ref h2] (fun U => va_P (dC, dI) vwCl [(h1, .inr (6, [.ref x1, .int fi1, .int pl1, .int db1, .int go1])), (h2, .inr (6, [.ref x2, .int fi2, .int pl2, .int db2, .int go2]))] U.heap ∧ va_K (dC, dI) vwCl [] U)) (vp_Si (fun r => r.toInt < fi1.toInt + pl1.toInt ∧ r.toInt < fi2.toInt + pl2.toInt ∧ (r.toInt = fi1.toInt + pl1.toInt - 1 ∨ r.toInt = fi2.toInt + pl2.toInt - 1))) 0 0 (fun _ => False) := by
  refine Met.ofW (cc := cX8_lastTogether) (maxL := 2) (ret := (some .int)) (by decide) rfl ?_
  intro p e s m args below meth c s₁ B hml hv
  obtain ⟨rfl, hP, hK⟩ := hv
  have hx := B.exec
  have hb := B.bytes
  have hr := B.returns
  have hts := atoms_spec (ws := wk_X8_lastTogether) B.pre
  have hown : s.vm.findClass RX8 = some m.cls := findClass_of_methodNamed B.named
  have hlocks := B.notSynchronized
  have hP : va_P (dC, dI) vwCl [(h1, .inr (6, [.ref x1, .int fi1, .int pl1, .int db1, .int go1])), (h2, .inr (6, [.ref x2, .int fi2, .int pl2, .int db2, .int go2]))] s.heap := hP
  have hl := lv_entry ([.ref h1, .ref h2]) (n := 2) (Nat.le_of_ble_eq_true rfl)
  rw [lg_entry_eq]
  generalize (lg_sl ([.ref h1, .ref h2]) ++ List.replicate (2 - (lg_sl ([.ref h1, .ref h2])).length) Slot.unset).toArray = ls at hl ⊢
  have hl : lv_has ls 2 [(0, .ref h1), (1, .ref h2)] := hl
  refine lv_aload_n hx hb dX8_lastTogether_0 rfl (lv_at hl 0 rfl) ?_
  have hPc := hP.sub (ws' := [(h1, .inr (6, [.ref x1, .int fi1, .int pl1, .int db1, .int go1]))]) [0] rfl
  have hKc := hK.sub (tys' := []) [] rfl
  refine vp_callSi (W.runV (As := []) (rest := []) ⟨hx, hb, hml, hown, hts⟩ (c_X6_lastStep l dC dI h1 x1 fi1 pl1 db1 go1 (by first | assumption | omega)) (cwV 0 hts g_X8_lastTogether__X6_lastStep_112 rfl rfl rfl (by decide +kernel) ⟨Nat.le_of_ble_eq_true rfl, Nat.le_of_ble_eq_true rfl⟩) ⟨fun a U g mk q => by obtain ⟨q0, qP, qK⟩ := q; exact ⟨q0, qP, va_K.moved (u := U) (U := U.calling g mk a) (Vm.Alike.refl U.vm) qK⟩, va_recv hKc hPc (ci := 6) (q0 := 0) rfl rfl, fun U hU hW => ⟨rfl, by rw [hU]; exact hPc, va_K.moved hW.alike hKc⟩⟩ rfl rfl hl.1 rfl (lv_room (Nat.le_of_ble_eq_true rfl)) dX8_lastTogether_1 ⟨Nat.le_of_ble_eq_true rfl, Nat.le_of_ble_eq_true rfl⟩) (fun r_1 hr_1 => ?_)
  try dsimp only at hr_1
  refine lv_aload_n hx hb dX8_lastTogether_4 rfl (lv_at hl 1 rfl) ?_
  have hPc := hP.sub (ws' := [(h2, .inr (6, [.ref x2, .int fi2, .int pl2, .int db2, .int go2]))]) [1] rfl
  have hKc := hK.sub (tys' := []) [] rfl
  refine vp_callSi (W.runV (As := []) (rest := [.int r_1]) ⟨hx, hb, hml, hown, hts⟩ (c_X6_lastStep l dC dI h2 x2 fi2 pl2 db2 go2 (by first | assumption | omega)) (cwV 0 hts g_X8_lastTogether__X6_lastStep_112 rfl rfl rfl (by decide +kernel) ⟨Nat.le_of_ble_eq_true rfl, Nat.le_of_ble_eq_true rfl⟩) ⟨fun a U g mk q => by obtain ⟨q0, qP, qK⟩ := q; exact ⟨q0, qP, va_K.moved (u := U) (U := U.calling g mk a) (Vm.Alike.refl U.vm) qK⟩, va_recv hKc hPc (ci := 6) (q0 := 0) rfl rfl, fun U hU hW => ⟨rfl, by rw [hU]; exact hPc, va_K.moved hW.alike hKc⟩⟩ rfl rfl hl.1 rfl (lv_room (Nat.le_of_ble_eq_true rfl)) dX8_lastTogether_5 ⟨Nat.le_of_ble_eq_true rfl, Nat.le_of_ble_eq_true rfl⟩) (fun r_2 hr_2 => ?_)
  try dsimp only at hr_2
  refine va_mmin hx hb (by rw [hml]; exact hl.1.symm) hown (hts (.methodLink RX8 269 Lib.Math.min.name) (by decide +kernel)) (hts (.static Lib.Math.min.name) (by decide +kernel)) (hts (.initialized "java/lang/Math") (by decide +kernel)) (hts _ (List.mem_of_getElem? (i := 4) rfl)) (Nat.le_of_ble_eq_true rfl) (Nat.le_of_ble_eq_true rfl) (Nat.le_of_ble_eq_true rfl) (Nat.le_of_ble_eq_true rfl) dX8_lastTogether_8 ?_
  refine lv_topi (fun y_3 ey_3 => ?_)
  have ty_3 := min_I ey_3
  exact W.iret (v := y_3) hx hb hr (fun t ht _ => ⟨_, rfl, (by omega), ht⟩) (fun _ h => absurd h List.not_mem_nil) dX8_lastTogether_11
def wk_X1_find : List Cond := .code yX1_find cX1_find 2 (some (.object "MeetingsAbove$Thing")) :: (([.fieldLink RX1 17 "MeetingsAbove$Catalogue" "size" "I", .fieldLink RX1 11 "MeetingsAbove$Catalogue" "all" "[LMeetingsAbove$Thing;"] : List Cond) ++ (wsX10 ++ ([])))
theorem in_X1_find_X1 : ∀ w ∈ wsX10, w ∈ wk_X1_find := fun _ h => List.mem_cons_of_mem _ (List.mem_append_right _ (List.mem_append_left _ h))
theorem gw_X1_find : AG wk_X1_find := AG_ca (AG_l (by decide +kernel)) (AG_app ag_X1 (AG_nil))
set_option maxHeartbeats 4000000 in
set_option maxRecDepth 100000 in
theorem c_X1_find (l : Launch) (dC : Nat → ClassId) (dI : Nat → Nat → Nat) (h0 : Nat) (na : Nat) (cT : ClassId) (sz9 : Int32) (ga : Nat → Option Nat) (p1 : Int32) : Met l yX1_find wk_X1_find ({ frames := 0, cells := 0, slots := 0, locals := 0 }) (va_Pc [.ref h0, .int p1] (fun U => va_P (dC, dI) vwCl [(h0, .inr (1, [.ref na, .int sz9])), (na, .inl (cT, 16, .inr (.inr (.inr (.inr ga)))))] U.heap ∧ va_K (dC, dI) vwCl [(cT, .object "MeetingsAbove$Thing")] U)) (va_Sq (fun r => r = if 0 ≤ p1.toInt ∧ p1.toInt < sz9.toInt ∧ p1.toInt < 16 then ga p1.toNatClampNeg else none)) 0 0 (fun _ => False) := by
  refine Met.ofW (cc := cX1_find) (maxL := 2) (ret := (some (.object "MeetingsAbove$Thing"))) (by decide) rfl ?_
  intro p e s m args below meth c s₁ B hml hv
  obtain ⟨rfl, hP, hK⟩ := hv
  have hx := B.exec
  have hb := B.bytes
  have hr := B.returns
  have hts := atoms_spec (ws := wk_X1_find) B.pre
  have hown : s.vm.findClass RX1 = some m.cls := findClass_of_methodNamed B.named
  have hlocks := B.notSynchronized
  have hP : va_P (dC, dI) vwCl [(h0, .inr (1, [.ref na, .int sz9])), (na, .inl (cT, 16, .inr (.inr (.inr (.inr ga)))))] s.heap := hP
  have hl := lv_entry ([.ref h0, .int p1]) (n := 2) (Nat.le_of_ble_eq_true rfl)
  rw [lg_entry_eq]
  generalize (lg_sl ([.ref h0, .int p1]) ++ List.replicate (2 - (lg_sl ([.ref h0, .int p1])).length) Slot.unset).toArray = ls at hl ⊢
  have hl : lv_has ls 2 [(0, .ref h0), (1, .int p1)] := hl
  have kl_0 : (0 : Int32).toInt = 0 := by decide
  have kl_16 : (16 : Int32).toInt = 16 := by decide
  refine lv_iload_n hx hb dX1_find_0 rfl (lv_at hl 1 rfl) ?_
  refine lv_if_lt (tgt := 30) hx hb dX1_find_1 (by decide) (fun c_1 => ?_) (fun c_1 => ?_)
  · have t_1 := (fa_lt _ _).mp c_1
    refine lv_null hx hb dX1_find_30 ?_
    exact W.aret hx hb hr (Or.inl ⟨_, rfl⟩) (Or.inl rfl) (fun t ht _ => ⟨none, rfl, (by first | exact (if_pos (by omega)).symm | exact (if_neg (by omega)).symm), ht⟩) (fun _ h => absurd h List.not_mem_nil) dX1_find_31
  · have t_1 := mt (fa_lt _ _).mpr c_1
    refine lv_iload_n hx hb dX1_find_4 rfl (lv_at hl 1 rfl) ?_
    refine lv_aload_n hx hb dX1_find_5 rfl (lv_at hl 0 rfl) ?_
    refine va_get (D := (dC, dI)) (ci := 1) (v := .int sz9) (C := RX1) (T := TX1) (N := 2) hx hb hts in_X1_find_X1 hown hK hP 0 rfl rfl 1 (by decide) (hts (.fieldLink RX1 17 "MeetingsAbove$Catalogue" "size" "I") (by decide +kernel)) (fun _ h9 => h9) rfl dX1_find_6 ?_
    refine lv_icmp_ge (tgt := 30) hx hb dX1_find_9 (by decide) (fun c_9 => ?_) (fun c_9 => ?_)
    · have t_9 := (fa_le _ _).mp c_9
      refine lv_null hx hb dX1_find_30 ?_
      exact W.aret hx hb hr (Or.inl ⟨_, rfl⟩) (Or.inl rfl) (fun t ht _ => ⟨none, rfl, (by first | exact (if_pos (by omega)).symm | exact (if_neg (by omega)).symm), ht⟩) (fun _ h => absurd h List.not_mem_nil) dX1_find_31
    · have t_9 := mt (fa_le _ _).mpr c_9
      refine lv_iload_n hx hb dX1_find_12 rfl (lv_at hl 1 rfl) ?_
      refine lv_aload_n hx hb dX1_find_13 rfl (lv_at hl 0 rfl) ?_
      refine va_get (D := (dC, dI)) (ci := 1) (v := .ref na) (C := RX1) (T := TX1) (N := 2) hx hb hts in_X1_find_X1 hown hK hP 0 rfl rfl 0 (by decide) (hts (.fieldLink RX1 11 "MeetingsAbove$Catalogue" "all" "[LMeetingsAbove$Thing;") (by decide +kernel)) (fun _ h9 => h9) rfl dX1_find_14 ?_
      refine va_alen (v := 16) hx hb hK hP 1 0 rfl rfl rfl dX1_find_17 ?_
      refine lv_icmp_ge (tgt := 30) hx hb dX1_find_18 (by decide) (fun c_18 => ?_) (fun c_18 => ?_)
      · have t_18 := (fa_le _ _).mp c_18
        refine lv_null hx hb dX1_find_30 ?_
        exact W.aret hx hb hr (Or.inl ⟨_, rfl⟩) (Or.inl rfl) (fun t ht _ => ⟨none, rfl, (by first | exact (if_pos (by omega)).symm | exact (if_neg (by omega)).symm), ht⟩) (fun _ h => absurd h List.not_mem_nil) dX1_find_31
      · have t_18 := mt (fa_le _ _).mpr c_18
        refine lv_aload_n hx hb dX1_find_21 rfl (lv_at hl 0 rfl) ?_
        refine va_get (D := (dC, dI)) (ci := 1) (v := .ref na) (C := RX1) (T := TX1) (N := 2) hx hb hts in_X1_find_X1 hown hK hP 0 rfl rfl 0 (by decide) (hts (.fieldLink RX1 11 "MeetingsAbove$Catalogue" "all" "[LMeetingsAbove$Thing;") (by decide +kernel)) (fun _ h9 => h9) rfl dX1_find_22 ?_
        refine lv_iload_n hx hb dX1_find_25 rfl (lv_at hl 1 rfl) ?_
        refine va_aldq hx hb hK hP 1 0 rfl rfl (vp_in_iff.mpr ⟨by omega, by omega⟩) dX1_find_26 ?_
        refine lv_goto (tgt := 31) hx hb dX1_find_27 (by decide) ?_
        exact W.aret hx hb hr (Or.inl ⟨_, rfl⟩) (va_rf_or _) (fun t ht _ => ⟨(ga (p1 : Int32).toNatClampNeg), rfl, (by first | exact (if_pos (by omega)).symm | exact (if_neg (by omega)).symm), ht⟩) (fun _ h => absurd h List.not_mem_nil) dX1_find_31
