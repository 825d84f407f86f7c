def wk_X9_in : List Cond := .code yX9_in cX9_in 6 (some .boolean) :: (([] : List Cond) ++ ([]))
theorem gw_X9_in : AG wk_X9_in := AG_ca (AG_l (by decide +kernel)) (AG_nil)
set_option maxHeartbeats 4000000 in
set_option maxRecDepth 100000 in
theorem c_X9_in (l : Launch) (dC : Nat → ClassId) (dI : Nat → Nat → Nat) (v : Int64) (lo : Int64) (hi : Int64) : Met l yX9_in wk_X9_in ({ frames := 0, cells := 0, slots := 0, locals := 0 }) (va_Pc [.long v, .long lo, .long hi] (fun _ => True)) (vp_Si (fun r => r = if lo.toInt ≤ v.toInt ∧ v.toInt ≤ hi.toInt then 1 else 0)) 0 0 (fun _ => False) := by
  refine Met.ofW (cc := cX9_in) (maxL := 6) (ret := (some .boolean)) (by decide) rfl ?_
  intro p e s m args below meth c s₁ B hml hv
  obtain ⟨rfl, -⟩ := hv
  have hx := B.exec
  have hb := B.bytes
  have hr := B.returns
  have hts := atoms_spec (ws := wk_X9_in) B.pre
  have hown : s.vm.findClass RX9 = some m.cls := findClass_of_methodNamed B.named
  have hlocks := B.notSynchronized
  have hl := lv_entry ([.long v, .long lo, .long hi]) (n := 6) (Nat.le_of_ble_eq_true rfl)
  rw [lg_entry_eq]
  generalize (lg_sl ([.long v, .long lo, .long hi]) ++ List.replicate (6 - (lg_sl ([.long v, .long lo, .long hi])).length) Slot.unset).toArray = ls at hl ⊢
  have hl : lv_has ls 6 [(0, .long v), (2, .long lo), (4, .long hi)] := hl
  have kl_0 : (0 : Int32).toInt = 0 := by decide
  have kl_1 : (1 : Int32).toInt = 1 := by decide
  refine lv_lload_n hx hb dX9_in_0 rfl (lv_at hl 0 rfl) ?_
  refine lv_lload_n hx hb dX9_in_1 rfl (lv_at hl 1 rfl) ?_
  refine W.lcmp hx hb dX9_in_2 ?_
  refine lv_if_lt (tgt := 17) hx hb dX9_in_3 (by decide) (fun c_3 => ?_) (fun c_3 => ?_)
  · have t_3 := (fa_lt64 _ _).mp ((lg_cmp_lt _ _).mp c_3)
    refine lv_iconst (v := 0) hx hb dX9_in_17 (by decide) ?_
    exact W.zret (v := 0) hx hb hr rfl (fun t ht _ => ⟨_, rfl, (by first | exact (if_pos ⟨by omega, by omega⟩).symm | exact (if_neg (by omega)).symm), ht⟩) (fun _ h => absurd h List.not_mem_nil) dX9_in_18
  · have t_3 := mt (fa_lt64 _ _).mpr (mt (lg_cmp_lt _ _).mpr c_3)
    refine lv_lload_n hx hb dX9_in_6 rfl (lv_at hl 0 rfl) ?_
    refine lv_lload hx hb dX9_in_7 (lv_at hl 2 rfl) ?_
    refine W.lcmp hx hb dX9_in_9 ?_
    refine lv_if_gt (tgt := 17) hx hb dX9_in_10 (by decide) (fun c_10 => ?_) (fun c_10 => ?_)
    · have t_10 := (fa_lt64 _ _).mp ((lg_cmp_gt _ _).mp c_10)
      refine lv_iconst (v := 0) hx hb dX9_in_17 (by decide) ?_
      exact W.zret (v := 0) hx hb hr rfl (fun t ht _ => ⟨_, rfl, (by first | exact (if_pos ⟨by omega, by omega⟩).symm | exact (if_neg (by omega)).symm), ht⟩) (fun _ h => absurd h List.not_mem_nil) dX9_in_18
    · have t_10 := mt (fa_lt64 _ _).mpr (mt (lg_cmp_gt _ _).mpr c_10)
      refine lv_iconst (v := 1) hx hb dX9_in_13 (by decide) ?_
      refine lv_goto (tgt := 18) hx hb dX9_in_14 (by decide) ?_
      exact W.zret (v := 1) hx hb hr rfl (fun t ht _ => ⟨_, rfl, (by first | exact (if_pos ⟨by omega, by omega⟩).symm | exact (if_neg (by omega)).symm), ht⟩) (fun _ h => absurd h List.not_mem_nil) dX9_in_18
def wk_X9_isPlace : List Cond := .code yX9_isPlace cX9_isPlace 3 (some .boolean) :: (([.constantLong RX9 51 (-5000), .constantLong RX9 53 5000] : List Cond) ++ ((va_wsS RX9 55 yX9_in wk_X9_in) ++ ([])))
theorem gw_X9_isPlace : AG wk_X9_isPlace := AG_ca (AG_l (by decide +kernel)) (AG_app (AG_S gw_X9_in) (AG_nil))
theorem g_X9_isPlace__X9_in_55 : GoodIn wk_X9_isPlace (va_wsS RX9 55 yX9_in wk_X9_in) := goodIn_m (fun _ h => List.mem_cons_of_mem _ (List.mem_append_right _ (List.mem_append_left _ h))) (AG_S gw_X9_in)
set_option maxHeartbeats 4000000 in
set_option maxRecDepth 100000 in
theorem c_X9_isPlace (l : Launch) (dC : Nat → ClassId) (dI : Nat → Nat → Nat) (p1 : Int32) (p2 : Int32) (p3 : Int32) : Met l yX9_isPlace wk_X9_isPlace ({ frames := 1, cells := 0, slots := 0, locals := 25 }) (va_Pc [.int p1, .int p2, .int p3] (fun _ => True)) (vp_Si (fun r => r = if (-5000 ≤ p1.toInt ∧ p1.toInt ≤ 5000) ∧ (-5000 ≤ p2.toInt ∧ p2.toInt ≤ 5000) ∧ (-5000 ≤ p3.toInt ∧ p3.toInt ≤ 5000) then 1 else 0)) 0 0 (fun _ => False) := by
  refine Met.ofW (cc := cX9_isPlace) (maxL := 3) (ret := (some .boolean)) (by decide) rfl ?_
  intro p e s m args below meth c s₁ B hml hv
  obtain ⟨rfl, -⟩ := hv
  have hx := B.exec
  have hb := B.bytes
  have hr := B.returns
  have hts := atoms_spec (ws := wk_X9_isPlace) B.pre
  have hown : s.vm.findClass RX9 = some m.cls := findClass_of_methodNamed B.named
  have hlocks := B.notSynchronized
  have hl := lv_entry ([.int p1, .int p2, .int p3]) (n := 3) (Nat.le_of_ble_eq_true rfl)
  rw [lg_entry_eq]
  generalize (lg_sl ([.int p1, .int p2, .int p3]) ++ List.replicate (3 - (lg_sl ([.int p1, .int p2, .int p3])).length) Slot.unset).toArray = ls at hl ⊢
  have hl : lv_has ls 3 [(0, .int p1), (1, .int p2), (2, .int p3)] := hl
  have kl_m5000 : (-5000 : Int32).toInt = -5000 := by decide
  have kl_0 : (0 : Int32).toInt = 0 := by decide
  have kl_1 : (1 : Int32).toInt = 1 := by decide
  have kl_5000 : (5000 : Int32).toInt = 5000 := by decide
  have klL_m5000 : (-5000 : Int64).toInt = -5000 := by decide
  have klL_5000 : (5000 : Int64).toInt = 5000 := by decide
  refine lv_iload_n hx hb dX9_isPlace_0 rfl (lv_at hl 0 rfl) ?_
  refine lv_i2l hx hb dX9_isPlace_1 rfl ?_
  refine lv_ldc2 hx hb hown (hts (.constantLong RX9 51 (-5000)) (by decide +kernel)) dX9_isPlace_2 ?_
  refine lv_ldc2 hx hb hown (hts (.constantLong RX9 53 5000) (by decide +kernel)) dX9_isPlace_5 ?_
  refine vp_callSi (W.runS (As := [.long p1.toInt64, .long (-5000), .long 5000]) (rest := []) ⟨hx, hb, hml, hown, hts⟩ (c_X9_in l dC dI p1.toInt64 (-5000) 5000) (va_cwS 3 hts g_X9_isPlace__X9_in_55 rfl rfl rfl (by decide +kernel) ⟨Nat.le_of_ble_eq_true rfl, Nat.le_of_ble_eq_true rfl⟩) ⟨fun a U g mk q => by obtain ⟨q0, q1⟩ := q; exact ⟨q0, q1⟩, fun U hU hW => ⟨rfl, trivial⟩⟩ rfl rfl hl.1 rfl (lv_room (Nat.le_of_ble_eq_true rfl)) dX9_isPlace_8 ⟨Nat.le_of_ble_eq_true rfl, Nat.le_of_ble_eq_true rfl⟩) (fun r_1 hr_1 => ?_)
  try dsimp only at hr_1
  rcases bo_split hr_1 with ⟨rfl, q_8⟩ | ⟨rfl, q_8⟩
  · simp only [Int32.toInt_toInt64, klL_m5000, klL_5000] at q_8
    refine lv_if_eq (tgt := 46) hx hb dX9_isPlace_11 (by decide) (fun h9 => absurd h9 (by decide)) (fun _ => ?_)
    refine lv_iload_n hx hb dX9_isPlace_14 rfl (lv_at hl 1 rfl) ?_
    refine lv_i2l hx hb dX9_isPlace_15 rfl ?_
    refine lv_ldc2 hx hb hown (hts (.constantLong RX9 51 (-5000)) (by decide +kernel)) dX9_isPlace_16 ?_
    refine lv_ldc2 hx hb hown (hts (.constantLong RX9 53 5000) (by decide +kernel)) dX9_isPlace_19 ?_
    refine vp_callSi (W.runS (As := [.long p2.toInt64, .long (-5000), .long 5000]) (rest := []) ⟨hx, hb, hml, hown, hts⟩ (c_X9_in l dC dI p2.toInt64 (-5000) 5000) (va_cwS 3 hts g_X9_isPlace__X9_in_55 rfl rfl rfl (by decide +kernel) ⟨Nat.le_of_ble_eq_true rfl, Nat.le_of_ble_eq_true rfl⟩) ⟨fun a U g mk q => by obtain ⟨q0, q1⟩ := q; exact ⟨q0, q1⟩, fun U hU hW => ⟨rfl, trivial⟩⟩ rfl rfl hl.1 rfl (lv_room (Nat.le_of_ble_eq_true rfl)) dX9_isPlace_22 ⟨Nat.le_of_ble_eq_true rfl, Nat.le_of_ble_eq_true rfl⟩) (fun r_2 hr_2 => ?_)
    try dsimp only at hr_2
    rcases bo_split hr_2 with ⟨rfl, q_22⟩ | ⟨rfl, q_22⟩
    · simp only [Int32.toInt_toInt64, klL_m5000, klL_5000] at q_22
      refine lv_if_eq (tgt := 46) hx hb dX9_isPlace_25 (by decide) (fun h9 => absurd h9 (by decide)) (fun _ => ?_)
      refine lv_iload_n hx hb dX9_isPlace_28 rfl (lv_at hl 2 rfl) ?_
      refine lv_i2l hx hb dX9_isPlace_29 rfl ?_
      refine lv_ldc2 hx hb hown (hts (.constantLong RX9 51 (-5000)) (by decide +kernel)) dX9_isPlace_30 ?_
      refine lv_ldc2 hx hb hown (hts (.constantLong RX9 53 5000) (by decide +kernel)) dX9_isPlace_33 ?_
      refine vp_callSi (W.runS (As := [.long p3.toInt64, .long (-5000), .long 5000]) (rest := []) ⟨hx, hb, hml, hown, hts⟩ (c_X9_in l dC dI p3.toInt64 (-5000) 5000) (va_cwS 3 hts g_X9_isPlace__X9_in_55 rfl rfl rfl (by decide +kernel) ⟨Nat.le_of_ble_eq_true rfl, Nat.le_of_ble_eq_true rfl⟩) ⟨fun a U g mk q => by obtain ⟨q0, q1⟩ := q; exact ⟨q0, q1⟩, fun U hU hW => ⟨rfl, trivial⟩⟩ rfl rfl hl.1 rfl (lv_room (Nat.le_of_ble_eq_true rfl)) dX9_isPlace_36 ⟨Nat.le_of_ble_eq_true rfl, Nat.le_of_ble_eq_true rfl⟩) (fun r_3 hr_3 => ?_)
      try dsimp only at hr_3
      rcases bo_split hr_3 with ⟨rfl, q_36⟩ | ⟨rfl, q_36⟩
      · simp only [Int32.toInt_toInt64, klL_m5000, klL_5000] at q_36
        refine lv_if_eq (tgt := 46) hx hb dX9_isPlace_39 (by decide) (fun h9 => absurd h9 (by decide)) (fun _ => ?_)
        refine lv_iconst (v := 1) hx hb dX9_isPlace_42 (by decide) ?_
        refine lv_goto (tgt := 47) hx hb dX9_isPlace_43 (by decide) ?_
        exact W.zret (v := 1) hx hb hr rfl (fun t ht _ => ⟨_, rfl, (by first | exact (if_pos (by omega)).symm | exact (if_neg (by omega)).symm), ht⟩) (fun _ h => absurd h List.not_mem_nil) dX9_isPlace_47
      · simp only [Int32.toInt_toInt64, klL_m5000, klL_5000] at q_36
        refine lv_if_eq (tgt := 46) hx hb dX9_isPlace_39 (by decide) (fun _ => ?_) (fun h9 => absurd h9 (by decide))
        refine lv_iconst (v := 0) hx hb dX9_isPlace_46 (by decide) ?_
        exact W.zret (v := 0) hx hb hr rfl (fun t ht _ => ⟨_, rfl, (by first | exact (if_pos (by omega)).symm | exact (if_neg (by omega)).symm), ht⟩) (fun _ h => absurd h List.not_mem_nil) dX9_isPlace_47
    · simp only [Int32.toInt_toInt64, klL_m5000, klL_5000] at q_22
      refine lv_if_eq (tgt := 46) hx hb dX9_isPlace_25 (by decide) (fun _ => ?_) (fun h9 => absurd h9 (by decide))
      refine lv_iconst (v := 0) hx hb dX9_isPlace_46 (by decide) ?_
      exact W.zret (v := 0) hx hb hr rfl (fun t ht _ => ⟨_, rfl, (by first | exact (if_pos (by omega)).symm | exact (if_neg (by omega)).symm), ht⟩) (fun _ h => absurd h List.not_mem_nil) dX9_isPlace_47
  · simp only [Int32.toInt_toInt64, klL_m5000, klL_5000] at q_8
    refine lv_if_eq (tgt := 46) hx hb dX9_isPlace_11 (by decide) (fun _ => ?_) (fun h9 => absurd h9 (by decide))
    refine lv_iconst (v := 0) hx hb dX9_isPlace_46 (by decide) ?_
    exact W.zret (v := 0) hx hb hr rfl (fun t ht _ => ⟨_, rfl, (by first | exact (if_pos (by omega)).symm | exact (if_neg (by omega)).symm), ht⟩) (fun _ h => absurd h List.not_mem_nil) dX9_isPlace_47
def wk_X9_size : List Cond := .code yX9_size cX9_size 1 (some .int) :: (([] : List Cond) ++ ([]))
theorem gw_X9_size : AG wk_X9_size := AG_ca (AG_l (by decide +kernel)) (AG_nil)
set_option maxHeartbeats 4000000 in
set_option maxRecDepth 100000 in
theorem c_X9_size (l : Launch) (dC : Nat → ClassId) (dI : Nat → Nat → Nat) (p1 : Int32) : Met l yX9_size wk_X9_size ({ frames := 0, cells := 0, slots := 0, locals := 0 }) (va_Pc [.int p1] (fun _ => True)) (vp_Si (fun r => True)) 0 0 (fun _ => False) := by
  refine Met.ofW (cc := cX9_size) (maxL := 1) (ret := (some .int)) (by decide) rfl ?_
  intro p e s m args below meth c s₁ B hml hv
  obtain ⟨rfl, -⟩ := hv
  have hx := B.exec
  have hb := B.bytes
  have hr := B.returns
  have hts := atoms_spec (ws := wk_X9_size) B.pre
  have hown : s.vm.findClass RX9 = some m.cls := findClass_of_methodNamed B.named
  have hlocks := B.notSynchronized
  have hl := lv_entry ([.int p1]) (n := 1) (Nat.le_of_ble_eq_true rfl)
  rw [lg_entry_eq]
  generalize (lg_sl ([.int p1]) ++ List.replicate (1 - (lg_sl ([.int p1])).length) Slot.unset).toArray = ls at hl ⊢
  have hl : lv_has ls 1 [(0, .int p1)] := hl
  have kl_0 : (0 : Int32).toInt = 0 := by decide
  refine lv_iload_n hx hb dX9_size_0 rfl (lv_at hl 0 rfl) ?_
  refine lv_if_ge (tgt := 9) hx hb dX9_size_1 (by decide) (fun c_1 => ?_) (fun c_1 => ?_)
  · have t_1 := (fa_le _ _).mp c_1
    refine lv_iload_n hx hb dX9_size_9 rfl (lv_at hl 0 rfl) ?_
    exact W.iret (v := p1) hx hb hr (fun t ht _ => ⟨_, rfl, trivial, ht⟩) (fun _ h => absurd h List.not_mem_nil) dX9_size_10
  · have t_1 := mt (fa_le _ _).mpr c_1
    refine lv_iload_n hx hb dX9_size_4 rfl (lv_at hl 0 rfl) ?_
    refine lv_ineg hx hb dX9_size_5 ?_
    refine lv_topi (fun y_1 ey_1 => ?_)
    refine lv_goto (tgt := 10) hx hb dX9_size_6 (by decide) ?_
    exact W.iret (v := y_1) hx hb hr (fun t ht _ => ⟨_, rfl, trivial, ht⟩) (fun _ h => absurd h List.not_mem_nil) dX9_size_10
def wk_X9_common : List Cond := .code yX9_common cX9_common 10 (some .long) :: (([] : List Cond) ++ ([]))
theorem gw_X9_common : AG wk_X9_common := AG_ca (AG_l (by decide +kernel)) (AG_nil)
set_option maxHeartbeats 4000000 in
set_option maxRecDepth 100000 in
theorem c_X9_common (l : Launch) (dC : Nat → ClassId) (dI : Nat → Nat → Nat) (v : Int64) (w : Int64) : Met l yX9_common wk_X9_common ({ frames := 0, cells := 0, slots := 0, locals := 0 }) (va_Pc [.long v, .long w] (fun _ => True)) (vp_Sl (fun r => w.toInt ≠ 0 → r.toInt ≠ 0)) 0 0 (fun _ => False) := by
  refine Met.ofW (cc := cX9_common) (maxL := 10) (ret := (some .long)) (by decide) rfl ?_
  intro p e s m args below meth c s₁ B hml hv
  obtain ⟨rfl, -⟩ := hv
  have hx := B.exec
  have hb := B.bytes
  have hr := B.returns
  have hts := atoms_spec (ws := wk_X9_common) B.pre
  have hown : s.vm.findClass RX9 = some m.cls := findClass_of_methodNamed B.named
  have hlocks := B.notSynchronized
  have hl := lv_entry ([.long v, .long w]) (n := 10) (Nat.le_of_ble_eq_true rfl)
  rw [lg_entry_eq]
  generalize (lg_sl ([.long v, .long w]) ++ List.replicate (10 - (lg_sl ([.long v, .long w])).length) Slot.unset).toArray = ls at hl ⊢
  have hl : lv_has ls 10 [(0, .long v), (2, .long w)] := hl
  have klL_0 : (0 : Int64).toInt = 0 := by decide
  refine lv_lload_n hx hb dX9_common_0 rfl (lv_at hl 0 rfl) ?_
  refine lv_lstore (lv' := [(4, .long v), (0, .long v), (2, .long w)]) hx hb dX9_common_1 hl (by decide) rfl (fun ls hl => ?_)
  refine lv_lload_n hx hb dX9_common_3 rfl (lv_at hl 2 rfl) ?_
  refine lv_lstore (lv' := [(6, .long w), (4, .long v), (0, .long v), (2, .long w)]) hx hb dX9_common_4 hl (by decide) rfl (fun ls hl => ?_)
  refine (show ∀ (k : Nat) (x : Int64) (y : Int64) (hxy : w.toInt ≠ 0 → (x.toInt ≠ 0 ∨ y.toInt ≠ 0)) (hk_6 : y.toInt.natAbs < k) (ls : Array Slot) (hl : lv_has ls 10 [(0, .long v), (2, .long w), (4, .long x), (6, .long y)]), W p l e _ s m _ below meth c s.heap [] 0 0 _ (F0 m 6 ls []) from ?_) _ v w (by omega) (Nat.lt_succ_self _) ls (lv_sub hl [2, 3, 1, 0] rfl)
  intro k
  induction k with
  | zero => intro x y hxy hk_6; exact absurd hk_6 (Nat.not_lt_zero _)
  | succ k ih_6 =>
    intro x y hxy hk_6 ls hl
    refine lv_lload hx hb dX9_common_6 (lv_at hl 3 rfl) ?_
    refine lv_lconst (v := 0) hx hb dX9_common_8 (by decide) ?_
    refine W.lcmp hx hb dX9_common_9 ?_
    refine lv_if_eq (tgt := 31) hx hb dX9_common_10 (by decide) (fun c_10 => ?_) (fun c_10 => ?_)
    · have t_10 := (fa_eq64 _ _).mp ((lg_cmp_eq _ _).mp c_10)
      refine lv_lload hx hb dX9_common_31 (lv_at hl 2 rfl) ?_
      exact W.lret (v := x) hx hb hr (fun t ht _ => ⟨_, rfl, (fun hw => by have := hxy hw; omega), ht⟩) (fun _ h => absurd h List.not_mem_nil) dX9_common_33
    · have t_10 := mt (fa_eq64 _ _).mpr (mt (lg_cmp_eq _ _).mpr c_10)
      refine lv_lload hx hb dX9_common_13 (lv_at hl 2 rfl) ?_
      refine lv_lload hx hb dX9_common_15 (lv_at hl 3 rfl) ?_
      refine lv_lrem hx hb dX9_common_17 (fun h => t_10 (by rw [h])) ?_
      refine lv_topl (fun y_1 ey_1 => ?_)
      refine lv_lstore (lv' := [(8, .long y_1), (0, .long v), (2, .long w), (4, .long x), (6, .long y)]) hx hb dX9_common_18 hl (by decide) rfl (fun ls hl => ?_)
      refine lv_lload hx hb dX9_common_20 (lv_at hl 4 rfl) ?_
      refine lv_lstore (lv' := [(4, .long y), (8, .long y_1), (0, .long v), (2, .long w), (6, .long y)]) hx hb dX9_common_22 hl (by decide) rfl (fun ls hl => ?_)
      refine lv_lload hx hb dX9_common_24 (lv_at hl 1 rfl) ?_
      refine lv_lstore (lv' := [(6, .long y_1), (4, .long y), (8, .long y_1), (0, .long v), (2, .long w)]) hx hb dX9_common_26 hl (by decide) rfl (fun ls hl => ?_)
      refine lv_goto (tgt := 6) hx hb dX9_common_28 (by decide) ?_
      exact ih_6 y y_1 (by intro hw; left; omega) (by rw [ey_1]; exact lr_lt (by omega) (by omega)) ls (lv_sub hl [3, 4, 1, 0] rfl)
def wk_X9_isThing : List Cond := .code yX9_isThing cX9_isThing 2 (some .boolean) :: (([.fieldLink RX9 59 "MeetingsAboveModel" "things" "I"] : List Cond) ++ (wsX90 ++ ((va_wsS RX9 55 yX9_in wk_X9_in) ++ ([]))))
theorem in_X9_isThing_X9 : ∀ w ∈ wsX90, w ∈ wk_X9_isThing := fun _ h => List.mem_cons_of_mem _ (List.mem_append_right _ (List.mem_append_left _ h))
theorem gw_X9_isThing : AG wk_X9_isThing := AG_ca (AG_l (by decide +kernel)) (AG_app ag_X9 (AG_app (AG_S gw_X9_in) (AG_nil)))
theorem g_X9_isThing__X9_in_55 : GoodIn wk_X9_isThing (va_wsS RX9 55 yX9_in wk_X9_in) := goodIn_m (fun _ h => List.mem_cons_of_mem _ (List.mem_append_right _ (List.mem_append_right _ (List.mem_append_left _ h)))) (AG_S gw_X9_in)
set_option maxHeartbeats 4000000 in
set_option maxRecDepth 100000 in
theorem c_X9_isThing (l : Launch) (dC : Nat → ClassId) (dI : Nat → Nat → Nat) (h0 : Nat) (a1 : Nat) (a2 : Nat) (a3 : Nat) (a4 : Nat) (a5 : Nat) (a6 : Nat) (a7 : Nat) (a8 : Nat) (a9 : Nat) (a10 : Nat) (a11 : Nat) (th : Int32) (ne : Int32) (wi : Int32) (dn : Int32) (nn : Int32) (la : Int32) (wh : Int32) (up : Int64) (lw : Int64) (pu : Int64) (pw : Int64) (p1 : Int32) (hT0 : 0 ≤ th.toInt) (hT1 : th.toInt ≤ 16) : Met l yX9_isThing wk_X9_isThing ({ frames := 1, cells := 0, slots := 0, locals := 25 }) (va_Pc [.ref h0, .int p1] (fun U => va_P (dC, dI) vwCl [(h0, .inr (9, [.int th, .ref a1, .ref a2, .ref a3, .ref a4, .ref a5, .int ne, .int wi, .int dn, .ref a6, .ref a7, .int nn, .ref a8, .int la, .ref a9, .ref a10, .long up, .long lw, .int wh, .long pu, .long pw, .ref a11]))] U.heap ∧ va_K (dC, dI) vwCl [] U)) (vp_Si (fun r => r = if 0 ≤ p1.toInt ∧ p1.toInt < th.toInt then 1 else 0)) 0 0 (fun _ => False) := by
  refine Met.ofW (cc := cX9_isThing) (maxL := 2) (ret := (some .boolean)) (by decide) rfl ?_
  intro p e s m args below meth c s₁ B hml hv
  obtain ⟨rfl, hP, hK⟩ := hv
  have hx := B.exec
  have hb := B.bytes
  have hr := B.returns
  have hts := atoms_spec (ws := wk_X9_isThing) B.pre
  have hown : s.vm.findClass RX9 = some m.cls := findClass_of_methodNamed B.named
  have hlocks := B.notSynchronized
  have hP : va_P (dC, dI) vwCl [(h0, .inr (9, [.int th, .ref a1, .ref a2, .ref a3, .ref a4, .ref a5, .int ne, .int wi, .int dn, .ref a6, .ref a7, .int nn, .ref a8, .int la, .ref a9, .ref a10, .long up, .long lw, .int wh, .long pu, .long pw, .ref a11]))] s.heap := hP
  have hl := lv_entry ([.ref h0, .int p1]) (n := 2) (Nat.le_of_ble_eq_true rfl)
  rw [lg_entry_eq]
  generalize (lg_sl ([.ref h0, .int p1]) ++ List.replicate (2 - (lg_sl ([.ref h0, .int p1])).length) Slot.unset).toArray = ls at hl ⊢
  have hl : lv_has ls 2 [(0, .ref h0), (1, .int p1)] := hl
  have kl_0 : (0 : Int32).toInt = 0 := by decide
  have kl_1 : (1 : Int32).toInt = 1 := by decide
  have klL_0 : (0 : Int64).toInt = 0 := by decide
  refine lv_iload_n hx hb dX9_isThing_0 rfl (lv_at hl 1 rfl) ?_
  refine lv_i2l hx hb dX9_isThing_1 rfl ?_
  refine lv_lconst (v := 0) hx hb dX9_isThing_2 (by decide) ?_
  refine lv_aload_n hx hb dX9_isThing_3 rfl (lv_at hl 0 rfl) ?_
  refine va_get (D := (dC, dI)) (ci := 9) (v := .int th) (C := RX9) (T := TX9) (N := 22) hx hb hts in_X9_isThing_X9 hown hK hP 0 rfl rfl 0 (by decide) (hts (.fieldLink RX9 59 "MeetingsAboveModel" "things" "I") (by decide +kernel)) (fun _ h9 => h9) rfl dX9_isThing_4 ?_
  refine lv_iconst (v := 1) hx hb dX9_isThing_7 (by decide) ?_
  refine lv_isub hx hb dX9_isThing_8 ?_
  refine lv_topi (fun y_1 ey_1 => ?_)
  have ty_1 : y_1.toInt = th.toInt - 1 := by rw [ey_1]; have := fb_subI (x := th) (y := 1) (by omega) (by omega); omega
  refine lv_i2l hx hb dX9_isThing_9 rfl ?_
  refine vp_callSi (W.runS (As := [.long p1.toInt64, .long 0, .long y_1.toInt64]) (rest := []) ⟨hx, hb, hml, hown, hts⟩ (c_X9_in l dC dI p1.toInt64 0 y_1.toInt64) (va_cwS 3 hts g_X9_isThing__X9_in_55 rfl rfl rfl (by decide +kernel) ⟨Nat.le_of_ble_eq_true rfl, Nat.le_of_ble_eq_true rfl⟩) ⟨fun a U g mk q => by obtain ⟨q0, q1⟩ := q; exact ⟨q0, q1⟩, fun U hU hW => ⟨rfl, trivial⟩⟩ rfl rfl hl.1 rfl (lv_room (Nat.le_of_ble_eq_true rfl)) dX9_isThing_10 ⟨Nat.le_of_ble_eq_true rfl, Nat.le_of_ble_eq_true rfl⟩) (fun r_2 hr_2 => ?_)
  try dsimp only at hr_2
  rcases bo_split hr_2 with ⟨rfl, q_10⟩ | ⟨rfl, q_10⟩
  · simp only [Int32.toInt_toInt64, klL_0] at q_10
    exact W.zret (v := 1) hx hb hr rfl (fun t ht _ => ⟨_, rfl, (by first | exact (if_pos (by omega)).symm | exact (if_neg (by omega)).symm), ht⟩) (fun _ h => absurd h List.not_mem_nil) dX9_isThing_13
  · simp only [Int32.toInt_toInt64, klL_0] at q_10
    exact W.zret (v := 0) hx hb hr rfl (fun t ht _ => ⟨_, rfl, (by first | exact (if_pos (by omega)).symm | exact (if_neg (by omega)).symm), ht⟩) (fun _ h => absurd h List.not_mem_nil) dX9_isThing_13
def wk_X9_hasPlace : List Cond := .code yX9_hasPlace cX9_hasPlace 3 (some .boolean) :: (([.fieldLink RX9 7 "MeetingsAboveModel" "firsts" "[I", .fieldLink RX9 13 "MeetingsAboveModel" "many" "[I"] : List Cond) ++ (wsX90 ++ ((va_wsS RX9 55 yX9_in wk_X9_in) ++ ([]))))
theorem in_X9_hasPlace_X9 : ∀ w ∈ wsX90, w ∈ wk_X9_hasPlace := fun _ h => List.mem_cons_of_mem _ (List.mem_append_right _ (List.mem_append_left _ h))
theorem gw_X9_hasPlace : AG wk_X9_hasPlace := AG_ca (AG_l (by decide +kernel)) (AG_app ag_X9 (AG_app (AG_S gw_X9_in) (AG_nil)))
theorem g_X9_hasPlace__X9_in_55 : GoodIn wk_X9_hasPlace (va_wsS RX9 55 yX9_in wk_X9_in) := goodIn_m (fun _ h => List.mem_cons_of_mem _ (List.mem_append_right _ (List.mem_append_right _ (List.mem_append_left _ h)))) (AG_S gw_X9_in)
set_option maxHeartbeats 4000000 in
set_option maxRecDepth 100000 in
theorem c_X9_hasPlace (l : Launch) (dC : Nat → ClassId) (dI : Nat → Nat → Nat) (h0 : Nat) (a1 : Nat) (a2 : Nat) (a3 : Nat) (a4 : Nat) (a5 : Nat) (a6 : Nat) (a7 : Nat) (a8 : Nat) (a9 : Nat) (a10 : Nat) (a11 : Nat) (th : Int32) (ne : Int32) (wi : Int32) (dn : Int32) (nn : Int32) (la : Int32) (wh : Int32) (up : Int64) (lw : Int64) (pu : Int64) (pw : Int64) (cI : ClassId) (Fi : Nat → Int32) (Ma : Nat → Int32) (p1 : Int32) (p2 : Int32) (hM : mOK th Fi Ma) (hp10 : 0 ≤ p1.toInt) (hp11 : p1.toInt < th.toInt) : Met l yX9_hasPlace wk_X9_hasPlace ({ frames := 1, cells := 0, slots := 0, locals := 25 }) (va_Pc [.ref h0, .int p1, .int p2] (fun U => va_P (dC, dI) vwCl [(h0, .inr (9, [.int th, .ref a1, .ref a2, .ref a3, .ref a4, .ref a5, .int ne, .int wi, .int dn, .ref a6, .ref a7, .int nn, .ref a8, .int la, .ref a9, .ref a10, .long up, .long lw, .int wh, .long pu, .long pw, .ref a11])), (a1, .inl (cI, 16, .inl Fi)), (a2, .inl (cI, 16, .inl Ma))] U.heap ∧ va_K (dC, dI) vwCl [(cI, .int)] U)) (vp_Si (fun r => r = if (Fi p1.toNatClampNeg).toInt ≤ p2.toInt ∧ p2.toInt < (Fi p1.toNatClampNeg).toInt + (Ma p1.toNatClampNeg).toInt then 1 else 0)) 0 0 (fun _ => False) := by
  refine Met.ofW (cc := cX9_hasPlace) (maxL := 3) (ret := (some .boolean)) (by decide) rfl ?_
  intro p e s m args below meth c s₁ B hml hv
  obtain ⟨rfl, hP, hK⟩ := hv
  have hx := B.exec
  have hb := B.bytes
  have hr := B.returns
  have hts := atoms_spec (ws := wk_X9_hasPlace) B.pre
  have hown : s.vm.findClass RX9 = some m.cls := findClass_of_methodNamed B.named
  have hlocks := B.notSynchronized
  have hP : va_P (dC, dI) vwCl [(h0, .inr (9, [.int th, .ref a1, .ref a2, .ref a3, .ref a4, .ref a5, .int ne, .int wi, .int dn, .ref a6, .ref a7, .int nn, .ref a8, .int la, .ref a9, .ref a10, .long up, .long lw, .int wh, .long pu, .long pw, .ref a11])), (a1, .inl (cI, 16, .inl Fi)), (a2, .inl (cI, 16, .inl Ma))] s.heap := hP
  have hl := lv_entry ([.ref h0, .int p1, .int p2]) (n := 3) (Nat.le_of_ble_eq_true rfl)
  rw [lg_entry_eq]
  generalize (lg_sl ([.ref h0, .int p1, .int p2]) ++ List.replicate (3 - (lg_sl ([.ref h0, .int p1, .int p2])).length) Slot.unset).toArray = ls at hl ⊢
  have hl : lv_has ls 3 [(0, .ref h0), (1, .int p1), (2, .int p2)] := hl
  have kl_0 : (0 : Int32).toInt = 0 := by decide
  have kl_1 : (1 : Int32).toInt = 1 := by decide
  obtain ⟨hM0, hM1, hM2⟩ := id hM
  have np1 : ((p1.toNatClampNeg : Nat) : Int) = p1.toInt := tc_I (by omega)
  have bp1 := hM2 p1.toNatClampNeg (by omega)
  refine lv_iload_n hx hb dX9_hasPlace_0 rfl (lv_at hl 2 rfl) ?_
  refine lv_i2l hx hb dX9_hasPlace_1 rfl ?_
  refine lv_aload_n hx hb dX9_hasPlace_2 rfl (lv_at hl 0 rfl) ?_
  refine va_get (D := (dC, dI)) (ci := 9) (v := .ref a1) (C := RX9) (T := TX9) (N := 22) hx hb hts in_X9_hasPlace_X9 hown hK hP 0 rfl rfl 1 (by decide) (hts (.fieldLink RX9 7 "MeetingsAboveModel" "firsts" "[I") (by decide +kernel)) (fun _ h9 => h9) rfl dX9_hasPlace_3 ?_
  refine lv_iload_n hx hb dX9_hasPlace_6 rfl (lv_at hl 1 rfl) ?_
  refine va_iald hx hb hK hP 1 0 rfl rfl (vp_in_iff.mpr ⟨by omega, by omega⟩) dX9_hasPlace_7 ?_
  refine lv_topi (fun y_1 ey_1 => ?_)
  have uy_1 : y_1.toInt = (Fi (p1 : Int32).toNatClampNeg).toInt := by rw [ey_1]
  refine lv_i2l hx hb dX9_hasPlace_8 rfl ?_
  refine lv_aload_n hx hb dX9_hasPlace_9 rfl (lv_at hl 0 rfl) ?_
  refine va_get (D := (dC, dI)) (ci := 9) (v := .ref a1) (C := RX9) (T := TX9) (N := 22) hx hb hts in_X9_hasPlace_X9 hown hK hP 0 rfl rfl 1 (by decide) (hts (.fieldLink RX9 7 "MeetingsAboveModel" "firsts" "[I") (by decide +kernel)) (fun _ h9 => h9) rfl dX9_hasPlace_10 ?_
  refine lv_iload_n hx hb dX9_hasPlace_13 rfl (lv_at hl 1 rfl) ?_
  refine va_iald hx hb hK hP 1 0 rfl rfl (vp_in_iff.mpr ⟨by omega, by omega⟩) dX9_hasPlace_14 ?_
  refine lv_topi (fun y_2 ey_2 => ?_)
  have uy_2 : y_2.toInt = (Fi (p1 : Int32).toNatClampNeg).toInt := by rw [ey_2]
  refine lv_aload_n hx hb dX9_hasPlace_15 rfl (lv_at hl 0 rfl) ?_
  refine va_get (D := (dC, dI)) (ci := 9) (v := .ref a2) (C := RX9) (T := TX9) (N := 22) hx hb hts in_X9_hasPlace_X9 hown hK hP 0 rfl rfl 2 (by decide) (hts (.fieldLink RX9 13 "MeetingsAboveModel" "many" "[I") (by decide +kernel)) (fun _ h9 => h9) rfl dX9_hasPlace_16 ?_
  refine lv_iload_n hx hb dX9_hasPlace_19 rfl (lv_at hl 1 rfl) ?_
  refine va_iald hx hb hK hP 2 0 rfl rfl (vp_in_iff.mpr ⟨by omega, by omega⟩) dX9_hasPlace_20 ?_
  refine lv_topi (fun y_3 ey_3 => ?_)
  have uy_3 : y_3.toInt = (Ma (p1 : Int32).toNatClampNeg).toInt := by rw [ey_3]
  refine lv_iadd hx hb dX9_hasPlace_21 ?_
  refine lv_topi (fun y_4 ey_4 => ?_)
  have ty_4 : y_4.toInt = y_2.toInt + y_3.toInt := by rw [ey_4]; have := fb_addI (x := y_2) (y := y_3) (by omega) (by omega); omega
  refine lv_iconst (v := 1) hx hb dX9_hasPlace_22 (by decide) ?_
  refine lv_isub hx hb dX9_hasPlace_23 ?_
  refine lv_topi (fun y_5 ey_5 => ?_)
  have ty_5 : y_5.toInt = y_4.toInt - 1 := by rw [ey_5]; have := fb_subI (x := y_4) (y := 1) (by omega) (by omega); omega
  refine lv_i2l hx hb dX9_hasPlace_24 rfl ?_
  refine vp_callSi (W.runS (As := [.long p2.toInt64, .long y_1.toInt64, .long y_5.toInt64]) (rest := []) ⟨hx, hb, hml, hown, hts⟩ (c_X9_in l dC dI p2.toInt64 y_1.toInt64 y_5.toInt64) (va_cwS 3 hts g_X9_hasPlace__X9_in_55 rfl rfl rfl (by decide +kernel) ⟨Nat.le_of_ble_eq_true rfl, Nat.le_of_ble_eq_true rfl⟩) ⟨fun a U g mk q => by obtain ⟨q0, q1⟩ := q; exact ⟨q0, q1⟩, fun U hU hW => ⟨rfl, trivial⟩⟩ rfl rfl hl.1 rfl (lv_room (Nat.le_of_ble_eq_true rfl)) dX9_hasPlace_25 ⟨Nat.le_of_ble_eq_true rfl, Nat.le_of_ble_eq_true rfl⟩) (fun r_6 hr_6 => ?_)
  try dsimp only at hr_6
  rcases bo_split hr_6 with ⟨rfl, q_25⟩ | ⟨rfl, q_25⟩
  · simp only [Int32.toInt_toInt64] at q_25
    exact W.zret (v := 1) hx hb hr rfl (fun t ht _ => ⟨_, rfl, (by first | exact (if_pos (by omega)).symm | exact (if_neg (by omega)).symm), ht⟩) (fun _ h => absurd h List.not_mem_nil) dX9_hasPlace_28
  · simp only [Int32.toInt_toInt64] at q_25
    exact W.zret (v := 0) hx hb hr rfl (fun t ht _ => ⟨_, rfl, (by first | exact (if_pos (by omega)).symm | exact (if_neg (by omega)).symm), ht⟩) (fun _ h => absurd h List.not_mem_nil) dX9_hasPlace_28
def wk_X9_spot : List Cond := .code yX9_spot cX9_spot 4 (some .int) :: (([.fieldLink RX9 23 "MeetingsAboveModel" "spots" "[I", .fieldLink RX9 7 "MeetingsAboveModel" "firsts" "[I"] : List Cond) ++ (wsX90 ++ ([])))
theorem in_X9_spot_X9 : ∀ w ∈ wsX90, w ∈ wk_X9_spot := fun _ h => List.mem_cons_of_mem _ (List.mem_append_right _ (List.mem_append_left _ h))
theorem gw_X9_spot : AG wk_X9_spot := AG_ca (AG_l (by decide +kernel)) (AG_app ag_X9 (AG_nil))
set_option maxHeartbeats 4000000 in
set_option maxRecDepth 100000 in
theorem c_X9_spot (l : Launch) (dC : Nat → ClassId) (dI : Nat → Nat → Nat) (Ma : Nat → Int32) (h0 : Nat) (a1 : Nat) (a2 : Nat) (a3 : Nat) (a4 : Nat) (a5 : Nat) (a6 : Nat) (a7 : Nat) (a8 : Nat) (a9 : Nat) (a10 : Nat) (a11 : Nat) (th : Int32) (ne : Int32) (wi : Int32) (dn : Int32) (nn : Int32) (la : Int32) (wh : Int32) (up : Int64) (lw : Int64) (pu : Int64) (pw : Int64) (cI : ClassId) (Fi : Nat → Int32) (Sp : Nat → Int32) (p1 : Int32) (p2 : Int32) (p3 : Int32) (hM : mOK th Fi Ma) (hp10 : 0 ≤ p1.toInt) (hp11 : p1.toInt < th.toInt) (hs0 : (Fi p1.toNatClampNeg).toInt ≤ p2.toInt) (hs1 : p2.toInt < (Fi p1.toNatClampNeg).toInt + (Ma p1.toNatClampNeg).toInt) (hx0 : 0 ≤ p3.toInt) (hx1 : p3.toInt ≤ 2) : Met l yX9_spot wk_X9_spot ({ frames := 0, cells := 0, slots := 0, locals := 0 }) (va_Pc [.ref h0, .int p1, .int p2, .int p3] (fun U => va_P (dC, dI) vwCl [(h0, .inr (9, [.int th, .ref a1, .ref a2, .ref a3, .ref a4, .ref a5, .int ne, .int wi, .int dn, .ref a6, .ref a7, .int nn, .ref a8, .int la, .ref a9, .ref a10, .long up, .long lw, .int wh, .long pu, .long pw, .ref a11])), (a1, .inl (cI, 16, .inl Fi)), (a5, .inl (cI, 576, .inl Sp))] U.heap ∧ va_K (dC, dI) vwCl [(cI, .int)] U)) (vp_Si (fun r => r = Sp (ixm Fi p1 p2 p3))) 0 0 (fun _ => False) := by
  refine Met.ofW (cc := cX9_spot) (maxL := 4) (ret := (some .int)) (by decide) rfl ?_
  intro p e s m args below meth c s₁ B hml hv
  obtain ⟨rfl, hP, hK⟩ := hv
  have hx := B.exec
  have hb := B.bytes
  have hr := B.returns
  have hts := atoms_spec (ws := wk_X9_spot) B.pre
  have hown : s.vm.findClass RX9 = some m.cls := findClass_of_methodNamed B.named
  have hlocks := B.notSynchronized
  have hP : va_P (dC, dI) vwCl [(h0, .inr (9, [.int th, .ref a1, .ref a2, .ref a3, .ref a4, .ref a5, .int ne, .int wi, .int dn, .ref a6, .ref a7, .int nn, .ref a8, .int la, .ref a9, .ref a10, .long up, .long lw, .int wh, .long pu, .long pw, .ref a11])), (a1, .inl (cI, 16, .inl Fi)), (a5, .inl (cI, 576, .inl Sp))] s.heap := hP
  have hl := lv_entry ([.ref h0, .int p1, .int p2, .int p3]) (n := 4) (Nat.le_of_ble_eq_true rfl)
  rw [lg_entry_eq]
  generalize (lg_sl ([.ref h0, .int p1, .int p2, .int p3]) ++ List.replicate (4 - (lg_sl ([.ref h0, .int p1, .int p2, .int p3])).length) Slot.unset).toArray = ls at hl ⊢
  have hl : lv_has ls 4 [(0, .ref h0), (1, .int p1), (2, .int p2), (3, .int p3)] := hl
  have kl_3 : (3 : Int32).toInt = 3 := by decide
  have kl_36 : (36 : Int32).toInt = 36 := by decide
  obtain ⟨hM0, hM1, hM2⟩ := id hM
  have np1 : ((p1.toNatClampNeg : Nat) : Int) = p1.toInt := tc_I (by omega)
  have bp1 := hM2 p1.toNatClampNeg (by omega)
  refine lv_aload_n hx hb dX9_spot_0 rfl (lv_at hl 0 rfl) ?_
  refine va_get (D := (dC, dI)) (ci := 9) (v := .ref a5) (C := RX9) (T := TX9) (N := 22) hx hb hts in_X9_spot_X9 hown hK hP 0 rfl rfl 5 (by decide) (hts (.fieldLink RX9 23 "MeetingsAboveModel" "spots" "[I") (by decide +kernel)) (fun _ h9 => h9) rfl dX9_spot_1 ?_
  refine lv_bipush (v := 36) hx hb dX9_spot_4 (by decide) ?_
  refine lv_iload_n hx hb dX9_spot_6 rfl (lv_at hl 1 rfl) ?_
  refine lv_imul hx hb dX9_spot_7 ?_
  refine lv_topi (fun y_1 ey_1 => ?_)
  have ty_1 : y_1.toInt = 36 * p1.toInt := by rw [ey_1]; exact fm_lI kl_36 (by omega) (by omega)
  refine lv_iconst (v := 3) hx hb dX9_spot_8 (by decide) ?_
  refine lv_iload_n hx hb dX9_spot_9 rfl (lv_at hl 2 rfl) ?_
  refine lv_aload_n hx hb dX9_spot_10 rfl (lv_at hl 0 rfl) ?_
  refine va_get (D := (dC, dI)) (ci := 9) (v := .ref a1) (C := RX9) (T := TX9) (N := 22) hx hb hts in_X9_spot_X9 hown hK hP 0 rfl rfl 1 (by decide) (hts (.fieldLink RX9 7 "MeetingsAboveModel" "firsts" "[I") (by decide +kernel)) (fun _ h9 => h9) rfl dX9_spot_11 ?_
  refine lv_iload_n hx hb dX9_spot_14 rfl (lv_at hl 1 rfl) ?_
  refine va_iald hx hb hK hP 1 0 rfl rfl (vp_in_iff.mpr ⟨by omega, by omega⟩) dX9_spot_15 ?_
  refine lv_topi (fun y_2 ey_2 => ?_)
  have uy_2 : y_2.toInt = (Fi (p1 : Int32).toNatClampNeg).toInt := by rw [ey_2]
  refine lv_isub hx hb dX9_spot_16 ?_
  refine lv_topi (fun y_3 ey_3 => ?_)
  have ty_3 : y_3.toInt = p2.toInt - y_2.toInt := by rw [ey_3]; have := fb_subI (x := p2) (y := y_2) (by omega) (by omega); omega
  refine lv_imul hx hb dX9_spot_17 ?_
  refine lv_topi (fun y_4 ey_4 => ?_)
  have ty_4 : y_4.toInt = 3 * y_3.toInt := by rw [ey_4]; exact fm_lI kl_3 (by omega) (by omega)
  refine lv_iadd hx hb dX9_spot_18 ?_
  refine lv_topi (fun y_5 ey_5 => ?_)
  have ty_5 : y_5.toInt = y_1.toInt + y_4.toInt := by rw [ey_5]; have := fb_addI (x := y_1) (y := y_4) (by omega) (by omega); omega
  refine lv_iload_n hx hb dX9_spot_19 rfl (lv_at hl 3 rfl) ?_
  refine lv_iadd hx hb dX9_spot_20 ?_
  refine lv_topi (fun y_6 ey_6 => ?_)
  have ty_6 : y_6.toInt = y_5.toInt + p3.toInt := by rw [ey_6]; have := fb_addI (x := y_5) (y := p3) (by omega) (by omega); omega
  refine va_iald hx hb hK hP 2 0 rfl rfl (vp_in_iff.mpr ⟨by omega, by omega⟩) dX9_spot_21 ?_
  refine lv_topi (fun y_7 ey_7 => ?_)
  exact W.iret (v := y_7) hx hb hr (fun t ht _ => ⟨_, rfl, (ix_eq ey_7 (by omega)), ht⟩) (fun _ h => absurd h List.not_mem_nil) dX9_spot_22
