def wk_X3_commonDivisor : List Cond := .code yX3_commonDivisor cX3_commonDivisor 11 (some .long) :: (([] : List Cond) ++ ([]))
theorem gw_X3_commonDivisor : AG wk_X3_commonDivisor := AG_ca (AG_l (by decide +kernel)) (AG_nil)
set_option maxHeartbeats 4000000 in
set_option maxRecDepth 100000 in
theorem c_X3_commonDivisor (l : Launch) (dC : Nat → ClassId) (dI : Nat → Nat → Nat) (v : Int64) (w : Int64) : Met l yX3_commonDivisor wk_X3_commonDivisor ({ frames := 0, cells := 0, slots := 0, locals := 0 }) (va_Pc [.long v, .long w] (fun _ => True)) (vp_Sl (fun r => True)) 0 0 (fun _ => False) := by
  refine Met.ofW (cc := cX3_commonDivisor) (maxL := 11) (ret := (some .long)) (by decide) rfl ?_
  intro p e s m args below meth c s₁ B hml hv
  obtain ⟨rfl, -⟩ := hv
  have hx := B.exec
  have hb := B.bytes
  have hr := B.returns
  have hts := atoms_spec (ws := wk_X3_commonDivisor) B.pre
  have hown : s.vm.findClass RX3 = some m.cls := findClass_of_methodNamed B.named
  have hlocks := B.notSynchronized
  have hl := lv_entry ([.long v, .long w]) (n := 11) (Nat.le_of_ble_eq_true rfl)
  rw [lg_entry_eq]
  generalize (lg_sl ([.long v, .long w]) ++ List.replicate (11 - (lg_sl ([.long v, .long w])).length) Slot.unset).toArray = ls at hl ⊢
  have hl : lv_has ls 11 [(0, .long v), (2, .long w)] := hl
  have kl_0 : (0 : Int32).toInt = 0 := by decide
  have kl_1 : (1 : Int32).toInt = 1 := by decide
  have kl_200 : (200 : Int32).toInt = 200 := by decide
  have klL_0 : (0 : Int64).toInt = 0 := by decide
  refine lv_lload_n hx hb dX3_commonDivisor_0 rfl (lv_at hl 0 rfl) ?_
  refine lv_lstore (lv' := [(4, .long v), (0, .long v), (2, .long w)]) hx hb dX3_commonDivisor_1 hl (by decide) rfl (fun ls hl => ?_)
  refine lv_lload_n hx hb dX3_commonDivisor_3 rfl (lv_at hl 2 rfl) ?_
  refine lv_lstore (lv' := [(6, .long w), (4, .long v), (0, .long v), (2, .long w)]) hx hb dX3_commonDivisor_4 hl (by decide) rfl (fun ls hl => ?_)
  refine lv_iconst (v := 0) hx hb dX3_commonDivisor_6 (by decide) ?_
  refine lv_istore (lv' := [(8, .int 0), (6, .long w), (4, .long v), (0, .long v), (2, .long w)]) hx hb dX3_commonDivisor_7 hl (by decide) rfl (fun ls hl => ?_)
  refine (show ∀ (k : Nat) (x : Int64) (y : Int64) (i8 : Int32) (hi0 : 0 ≤ i8.toInt) (hi1 : i8.toInt ≤ 200) (hk_9 : (200 - i8.toInt).toNat < k) (ls : Array Slot) (hl : lv_has ls 11 [(0, .long v), (2, .long w), (4, .long x), (6, .long y), (8, .int i8)]), W p l e _ s m _ below meth c s.heap [] 0 0 _ (F0 m 9 ls []) from ?_) _ v w 0 (by omega) (by omega) (Nat.lt_succ_self _) ls (lv_sub hl [3, 4, 2, 1, 0] rfl)
  intro k
  induction k with
  | zero => intro x y i8 hi0 hi1 hk_9; exact absurd hk_9 (Nat.not_lt_zero _)
  | succ k ih_9 =>
    intro x y i8 hi0 hi1 hk_9 ls hl
    refine lv_iload hx hb dX3_commonDivisor_9 (lv_at hl 4 rfl) ?_
    refine lv_sipush (v := 200) hx hb dX3_commonDivisor_11 (by decide) ?_
    refine lv_icmp_ge (tgt := 45) hx hb dX3_commonDivisor_14 (by decide) (fun c_14 => ?_) (fun c_14 => ?_)
    · have t_14 := (fa_le _ _).mp c_14
      refine lv_lload hx hb dX3_commonDivisor_45 (lv_at hl 2 rfl) ?_
      exact W.lret (v := x) hx hb hr (fun t ht _ => ⟨_, rfl, trivial, ht⟩) (fun _ h => absurd h List.not_mem_nil) dX3_commonDivisor_47
    · have t_14 := mt (fa_le _ _).mpr c_14
      refine lv_lload hx hb dX3_commonDivisor_17 (lv_at hl 3 rfl) ?_
      refine lv_lconst (v := 0) hx hb dX3_commonDivisor_19 (by decide) ?_
      refine W.lcmp hx hb dX3_commonDivisor_20 ?_
      refine lv_if_eq (tgt := 45) hx hb dX3_commonDivisor_21 (by decide) (fun c_21 => ?_) (fun c_21 => ?_)
      · have t_21 := (fa_eq64 _ _).mp ((lg_cmp_eq _ _).mp c_21)
        refine lv_lload hx hb dX3_commonDivisor_45 (lv_at hl 2 rfl) ?_
        exact W.lret (v := x) hx hb hr (fun t ht _ => ⟨_, rfl, trivial, ht⟩) (fun _ h => absurd h List.not_mem_nil) dX3_commonDivisor_47
      · have t_21 := mt (fa_eq64 _ _).mpr (mt (lg_cmp_eq _ _).mpr c_21)
        refine lv_lload hx hb dX3_commonDivisor_24 (lv_at hl 2 rfl) ?_
        refine lv_lload hx hb dX3_commonDivisor_26 (lv_at hl 3 rfl) ?_
        refine lv_lrem hx hb dX3_commonDivisor_28 (fun h => t_21 (by rw [h])) ?_
        refine lv_topl (fun y_1 ey_1 => ?_)
        refine lv_lstore (lv' := [(9, .long y_1), (0, .long v), (2, .long w), (4, .long x), (6, .long y), (8, .int i8)]) hx hb dX3_commonDivisor_29 hl (by decide) rfl (fun ls hl => ?_)
        refine lv_lload hx hb dX3_commonDivisor_31 (lv_at hl 4 rfl) ?_
        refine lv_lstore (lv' := [(4, .long y), (9, .long y_1), (0, .long v), (2, .long w), (6, .long y), (8, .int i8)]) hx hb dX3_commonDivisor_33 hl (by decide) rfl (fun ls hl => ?_)
        refine lv_lload hx hb dX3_commonDivisor_35 (lv_at hl 1 rfl) ?_
        refine lv_lstore (lv' := [(6, .long y_1), (4, .long y), (9, .long y_1), (0, .long v), (2, .long w), (8, .int i8)]) hx hb dX3_commonDivisor_37 hl (by decide) rfl (fun ls hl => ?_)
        obtain ⟨y_2, ey_2⟩ : ∃ y : Int32, y = i8 + 1 := ⟨_, rfl⟩
        have ty_2 : y_2.toInt = i8.toInt + 1 := by rw [ey_2]; have := fb_addI (x := i8) (y := 1) (by omega) (by omega); omega
        refine lv_iinc (v := y_2) (lv' := [(8, .int y_2), (6, .long y_1), (4, .long y), (9, .long y_1), (0, .long v), (2, .long w)]) hx hb dX3_commonDivisor_39 hl (k := 5) rfl (by rw [ey_2]; rfl) (by decide) rfl (fun ls hl => ?_)
        refine lv_goto (tgt := 9) hx hb dX3_commonDivisor_42 (by decide) ?_
        exact ih_9 y y_1 y_2 (by omega) (by omega) (by omega) ls (lv_sub hl [4, 5, 2, 1, 0] rfl)
def wk_X3_become : List Cond := .code yX3_become cX3_become 7 none :: (([.fieldLink RX3 7 "MeetingsAbove$Fraction" "upper" "J", .fieldLink RX3 13 "MeetingsAbove$Fraction" "lower" "J"] : List Cond) ++ (wsX30 ++ ((va_wsS RX3 16 yX3_commonDivisor wk_X3_commonDivisor) ++ ([]))))
theorem in_X3_become_X3 : ∀ w ∈ wsX30, w ∈ wk_X3_become := fun _ h => List.mem_cons_of_mem _ (List.mem_append_right _ (List.mem_append_left _ h))
theorem gw_X3_become : AG wk_X3_become := AG_ca (AG_l (by decide +kernel)) (AG_app ag_X3 (AG_app (AG_S gw_X3_commonDivisor) (AG_nil)))
theorem g_X3_become__X3_commonDivisor_16 : GoodIn wk_X3_become (va_wsS RX3 16 yX3_commonDivisor wk_X3_commonDivisor) := goodIn_m (fun _ h => List.mem_cons_of_mem _ (List.mem_append_right _ (List.mem_append_right _ (List.mem_append_left _ h)))) (AG_S gw_X3_commonDivisor)
set_option maxHeartbeats 4000000 in
set_option maxRecDepth 100000 in
theorem c_X3_become (l : Launch) (dC : Nat → ClassId) (dI : Nat → Nat → Nat) (h0 : Nat) (up : Int64) (lo : Int64) (v : Int64) (w : Int64) (sz : Nat) : Met l yX3_become wk_X3_become ({ frames := 1, cells := 0, slots := 0, locals := 30 }) (va_Pc [.ref h0, .long v, .long w] (fun U => U.heap.size = sz ∧ va_P (dC, dI) vwCl [(h0, .inr (3, [.long up, .long lo]))] U.heap ∧ va_K (dC, dI) vwCl [] U ∧ va_D (fun _ => True) [(h0, .inr (3, [.long up, .long lo]))])) (va_Qv (fun (_ : Unit) => True) (fun (_ : Unit) (t : State) => ∃ (u9 : Int64) (l9 : Int64), va_P (dC, dI) vwCl [(h0, .inr (3, [.long u9, .long l9]))] t.heap ∧ va_K (dC, dI) vwCl [] t ∧ va_D (va_A [(h0, .inr (3, [.long up, .long lo]))] sz) [(h0, .inr (3, [.long u9, .long l9]))]) (va_A [(h0, .inr (3, [.long up, .long lo]))] sz)) 0 0 (va_A [(h0, .inr (3, [.long up, .long lo]))] sz) := by
  refine Met.ofW (cc := cX3_become) (maxL := 7) (ret := none) (by decide) rfl ?_
  intro p e s m args below meth c s₁ B hml hv
  obtain ⟨rfl, hsz, hP, hK, hD0⟩ := hv
  have hx := B.exec
  have hb := B.bytes
  have hr := B.returns
  have hts := atoms_spec (ws := wk_X3_become) B.pre
  have hown : s.vm.findClass RX3 = some m.cls := findClass_of_methodNamed B.named
  have hlocks := B.notSynchronized
  subst hsz
  have hD := hD0.self (sz := s.heap.size)
  generalize hAe : va_A [(h0, .inr (3, [.long up, .long lo]))] s.heap.size = A at hD ⊢
  have hA : ∀ q : Nat, s.heap.size ≤ q → A q := fun q h => by rw [← hAe]; exact Or.inr h
  have hS : va_S A s.heap s.heap [] := va_S.rf
  have hP : va_P (dC, dI) vwCl [(h0, .inr (3, [.long up, .long lo]))] s.heap := hP
  have hl := lv_entry ([.ref h0, .long v, .long w]) (n := 7) (Nat.le_of_ble_eq_true rfl)
  rw [lg_entry_eq]
  generalize (lg_sl ([.ref h0, .long v, .long w]) ++ List.replicate (7 - (lg_sl ([.ref h0, .long v, .long w])).length) Slot.unset).toArray = ls at hl ⊢
  have hl : lv_has ls 7 [(0, .ref h0), (1, .long v), (3, .long w)] := hl
  have klL_0 : (0 : Int64).toInt = 0 := by decide
  refine lv_lload_n hx hb dX3_become_0 rfl (lv_at hl 1 rfl) ?_
  refine lv_lload_n hx hb dX3_become_1 rfl (lv_at hl 2 rfl) ?_
  refine vp_callSl (W.runS (As := [.long v, .long w]) (rest := []) ⟨hx, hb, hml, hown, hts⟩ (c_X3_commonDivisor l dC dI v w) (va_cwS 2 hts g_X3_become__X3_commonDivisor_16 rfl rfl rfl (by decide +kernel) ⟨Nat.le_of_ble_eq_true rfl, Nat.le_of_ble_eq_true rfl⟩) ⟨fun a U g mk q => by obtain ⟨q0, q1⟩ := q; exact ⟨q0, q1⟩, fun U hU hW => ⟨rfl, trivial⟩⟩ rfl rfl hl.1 rfl (lv_room (Nat.le_of_ble_eq_true rfl)) dX3_become_2 ⟨Nat.le_of_ble_eq_true rfl, Nat.le_of_ble_eq_true rfl⟩) (fun r_1 hr_1 => ?_)
  try dsimp only at hr_1
  refine lv_lstore (lv' := [(5, .long r_1), (0, .ref h0), (1, .long v), (3, .long w)]) hx hb dX3_become_5 hl (by decide) rfl (fun ls hl => ?_)
  refine lv_aload_n hx hb dX3_become_7 rfl (lv_at hl 1 rfl) ?_
  refine lv_lload hx hb dX3_become_8 (lv_at hl 0 rfl) ?_
  refine lv_lconst (v := 0) hx hb dX3_become_10 (by decide) ?_
  refine W.lcmp hx hb dX3_become_11 ?_
  refine lv_if_le (tgt := 22) hx hb dX3_become_12 (by decide) (fun c_12 => ?_) (fun c_12 => ?_)
  · have t_12 := (fa_le64 _ _).mp ((lg_cmp_le _ _).mp c_12)
    refine lv_lload_n hx hb dX3_become_22 rfl (lv_at hl 2 rfl) ?_
    refine va_put (D := (dC, dI)) (ci := 3) (v := .long v) (ty := .long) (C := RX3) (T := TX3) (N := 2) hx hb hts in_X3_become_X3 tyX3 tyX3_ok nmX3 hown hK hP hD hS 0 rfl rfl 0 (by decide) (hts (.fieldLink RX3 7 "MeetingsAbove$Fraction" "upper" "J") (by decide +kernel)) (fun _ h9 => h9) rfl (by decide +kernel) rfl rfl (Nat.le_of_ble_eq_true rfl) dX3_become_23 (fun H locs hP hD hS => ?_)
    have hP : va_P (dC, dI) vwCl [(h0, .inr (3, [.long v, .long lo]))] H := hP
    have hD : va_D A [(h0, .inr (3, [.long v, .long lo]))] := hD
    refine lv_aload_n hx hb dX3_become_26 rfl (lv_at hl 1 rfl) ?_
    refine lv_lload hx hb dX3_become_27 (lv_at hl 0 rfl) ?_
    refine lv_lconst (v := 0) hx hb dX3_become_29 (by decide) ?_
    refine W.lcmp hx hb dX3_become_30 ?_
    refine lv_if_le (tgt := 41) hx hb dX3_become_31 (by decide) (fun c_31 => ?_) (fun c_31 => ?_)
    · have t_31 := (fa_le64 _ _).mp ((lg_cmp_le _ _).mp c_31)
      refine lv_lload_n hx hb dX3_become_41 rfl (lv_at hl 3 rfl) ?_
      refine va_put (D := (dC, dI)) (ci := 3) (v := .long w) (ty := .long) (C := RX3) (T := TX3) (N := 2) hx hb hts in_X3_become_X3 tyX3 tyX3_ok nmX3 hown hK hP hD hS 0 rfl rfl 1 (by decide) (hts (.fieldLink RX3 13 "MeetingsAbove$Fraction" "lower" "J") (by decide +kernel)) (fun _ h9 => h9) rfl (by decide +kernel) rfl rfl (Nat.le_of_ble_eq_true rfl) dX3_become_42 (fun H locs hP hD hS => ?_)
      have hP : va_P (dC, dI) vwCl [(h0, .inr (3, [.long v, .long w]))] H := hP
      have hD : va_D A [(h0, .inr (3, [.long v, .long w]))] := hD
      have hP9 := hP.sub (ws' := [(h0, .inr (3, [.long v, .long w]))]) [0] rfl
      have hD9 := hD.sub (ws' := [(h0, .inr (3, [.long v, .long w]))]) [0] (by decide) rfl
      have hK9 := hK.sub (tys' := []) [] rfl
      refine W.widen (k := 0) (n := 0) (by omega) (by omega) ?_
      exact W.vret hx hb hr (fun t ht hW => ⟨⟨(), rfl, trivial, v, w, by rw [ht]; exact hP9, va_K.moved hW.alike hK9, hD9⟩, hS.F ht⟩) hS.2.2 dX3_become_45
    · have t_31 := mt (fa_le64 _ _).mpr (mt (lg_cmp_le _ _).mpr c_31)
      refine lv_lload_n hx hb dX3_become_34 rfl (lv_at hl 3 rfl) ?_
      refine lv_lload hx hb dX3_become_35 (lv_at hl 0 rfl) ?_
      refine lv_ldiv hx hb dX3_become_37 (fun h9 => by rw [h9, klL_0] at t_31; omega) ?_
      refine lv_topl (fun y_2 ey_2 => ?_)
      refine lv_goto (tgt := 42) hx hb dX3_become_38 (by decide) ?_
      refine va_put (D := (dC, dI)) (ci := 3) (v := .long y_2) (ty := .long) (C := RX3) (T := TX3) (N := 2) hx hb hts in_X3_become_X3 tyX3 tyX3_ok nmX3 hown hK hP hD hS 0 rfl rfl 1 (by decide) (hts (.fieldLink RX3 13 "MeetingsAbove$Fraction" "lower" "J") (by decide +kernel)) (fun _ h9 => h9) rfl (by decide +kernel) rfl rfl (Nat.le_of_ble_eq_true rfl) dX3_become_42 (fun H locs hP hD hS => ?_)
      have hP : va_P (dC, dI) vwCl [(h0, .inr (3, [.long v, .long y_2]))] H := hP
      have hD : va_D A [(h0, .inr (3, [.long v, .long y_2]))] := hD
      have hP9 := hP.sub (ws' := [(h0, .inr (3, [.long v, .long y_2]))]) [0] rfl
      have hD9 := hD.sub (ws' := [(h0, .inr (3, [.long v, .long y_2]))]) [0] (by decide) rfl
      have hK9 := hK.sub (tys' := []) [] rfl
      refine W.widen (k := 0) (n := 0) (by omega) (by omega) ?_
      exact W.vret hx hb hr (fun t ht hW => ⟨⟨(), rfl, trivial, v, y_2, by rw [ht]; exact hP9, va_K.moved hW.alike hK9, hD9⟩, hS.F ht⟩) hS.2.2 dX3_become_45
  · have t_12 := mt (fa_le64 _ _).mpr (mt (lg_cmp_le _ _).mpr c_12)
    refine lv_lload_n hx hb dX3_become_15 rfl (lv_at hl 2 rfl) ?_
    refine lv_lload hx hb dX3_become_16 (lv_at hl 0 rfl) ?_
    refine lv_ldiv hx hb dX3_become_18 (fun h9 => by rw [h9, klL_0] at t_12; omega) ?_
    refine lv_topl (fun y_3 ey_3 => ?_)
    refine lv_goto (tgt := 23) hx hb dX3_become_19 (by decide) ?_
    refine va_put (D := (dC, dI)) (ci := 3) (v := .long y_3) (ty := .long) (C := RX3) (T := TX3) (N := 2) hx hb hts in_X3_become_X3 tyX3 tyX3_ok nmX3 hown hK hP hD hS 0 rfl rfl 0 (by decide) (hts (.fieldLink RX3 7 "MeetingsAbove$Fraction" "upper" "J") (by decide +kernel)) (fun _ h9 => h9) rfl (by decide +kernel) rfl rfl (Nat.le_of_ble_eq_true rfl) dX3_become_23 (fun H locs hP hD hS => ?_)
    have hP : va_P (dC, dI) vwCl [(h0, .inr (3, [.long y_3, .long lo]))] H := hP
    have hD : va_D A [(h0, .inr (3, [.long y_3, .long lo]))] := hD
    refine lv_aload_n hx hb dX3_become_26 rfl (lv_at hl 1 rfl) ?_
    refine lv_lload hx hb dX3_become_27 (lv_at hl 0 rfl) ?_
    refine lv_lconst (v := 0) hx hb dX3_become_29 (by decide) ?_
    refine W.lcmp hx hb dX3_become_30 ?_
    refine lv_if_le (tgt := 41) hx hb dX3_become_31 (by decide) (fun c_31 => ?_) (fun c_31 => ?_)
    · have t_31 := (fa_le64 _ _).mp ((lg_cmp_le _ _).mp c_31)
      refine lv_lload_n hx hb dX3_become_41 rfl (lv_at hl 3 rfl) ?_
      refine va_put (D := (dC, dI)) (ci := 3) (v := .long w) (ty := .long) (C := RX3) (T := TX3) (N := 2) hx hb hts in_X3_become_X3 tyX3 tyX3_ok nmX3 hown hK hP hD hS 0 rfl rfl 1 (by decide) (hts (.fieldLink RX3 13 "MeetingsAbove$Fraction" "lower" "J") (by decide +kernel)) (fun _ h9 => h9) rfl (by decide +kernel) rfl rfl (Nat.le_of_ble_eq_true rfl) dX3_become_42 (fun H locs hP hD hS => ?_)
      have hP : va_P (dC, dI) vwCl [(h0, .inr (3, [.long y_3, .long w]))] H := hP
      have hD : va_D A [(h0, .inr (3, [.long y_3, .long w]))] := hD
      have hP9 := hP.sub (ws' := [(h0, .inr (3, [.long y_3, .long w]))]) [0] rfl
      have hD9 := hD.sub (ws' := [(h0, .inr (3, [.long y_3, .long w]))]) [0] (by decide) rfl
      have hK9 := hK.sub (tys' := []) [] rfl
      refine W.widen (k := 0) (n := 0) (by omega) (by omega) ?_
      exact W.vret hx hb hr (fun t ht hW => ⟨⟨(), rfl, trivial, y_3, w, by rw [ht]; exact hP9, va_K.moved hW.alike hK9, hD9⟩, hS.F ht⟩) hS.2.2 dX3_become_45
    · have t_31 := mt (fa_le64 _ _).mpr (mt (lg_cmp_le _ _).mpr c_31)
      refine lv_lload_n hx hb dX3_become_34 rfl (lv_at hl 3 rfl) ?_
      refine lv_lload hx hb dX3_become_35 (lv_at hl 0 rfl) ?_
      refine lv_ldiv hx hb dX3_become_37 (fun h9 => by rw [h9, klL_0] at t_31; omega) ?_
      refine lv_topl (fun y_4 ey_4 => ?_)
      refine lv_goto (tgt := 42) hx hb dX3_become_38 (by decide) ?_
      refine va_put (D := (dC, dI)) (ci := 3) (v := .long y_4) (ty := .long) (C := RX3) (T := TX3) (N := 2) hx hb hts in_X3_become_X3 tyX3 tyX3_ok nmX3 hown hK hP hD hS 0 rfl rfl 1 (by decide) (hts (.fieldLink RX3 13 "MeetingsAbove$Fraction" "lower" "J") (by decide +kernel)) (fun _ h9 => h9) rfl (by decide +kernel) rfl rfl (Nat.le_of_ble_eq_true rfl) dX3_become_42 (fun H locs hP hD hS => ?_)
      have hP : va_P (dC, dI) vwCl [(h0, .inr (3, [.long y_3, .long y_4]))] H := hP
      have hD : va_D A [(h0, .inr (3, [.long y_3, .long y_4]))] := hD
      have hP9 := hP.sub (ws' := [(h0, .inr (3, [.long y_3, .long y_4]))]) [0] rfl
      have hD9 := hD.sub (ws' := [(h0, .inr (3, [.long y_3, .long y_4]))]) [0] (by decide) rfl
      have hK9 := hK.sub (tys' := []) [] rfl
      refine W.widen (k := 0) (n := 0) (by omega) (by omega) ?_
      exact W.vret hx hb hr (fun t ht hW => ⟨⟨(), rfl, trivial, y_3, y_4, by rw [ht]; exact hP9, va_K.moved hW.alike hK9, hD9⟩, hS.F ht⟩) hS.2.2 dX3_become_45
def wk_X3_isAbove : List Cond := .code yX3_isAbove cX3_isAbove 9 (some .boolean) :: (([.fieldLink RX3 13 "MeetingsAbove$Fraction" "lower" "J", .fieldLink RX3 7 "MeetingsAbove$Fraction" "upper" "J"] : List Cond) ++ (wsX30 ++ ([])))
theorem in_X3_isAbove_X3 : ∀ w ∈ wsX30, w ∈ wk_X3_isAbove := fun _ h => List.mem_cons_of_mem _ (List.mem_append_right _ (List.mem_append_left _ h))
theorem gw_X3_isAbove : AG wk_X3_isAbove := AG_ca (AG_l (by decide +kernel)) (AG_app ag_X3 (AG_nil))
set_option maxHeartbeats 4000000 in
set_option maxRecDepth 100000 in
theorem c_X3_isAbove (l : Launch) (dC : Nat → ClassId) (dI : Nat → Nat → Nat) (h0 : Nat) (up : Int64) (lo : Int64) (v : Int64) (w : Int64) : Met l yX3_isAbove wk_X3_isAbove ({ frames := 0, cells := 0, slots := 0, locals := 0 }) (va_Pc [.ref h0, .long v, .long w] (fun U => va_P (dC, dI) vwCl [(h0, .inr (3, [.long up, .long lo]))] U.heap ∧ va_K (dC, dI) vwCl [] U)) (vp_Si (fun r => True)) 0 0 (fun _ => False) := by
  refine Met.ofW (cc := cX3_isAbove) (maxL := 9) (ret := (some .boolean)) (by decide) rfl ?_
  intro p e s m args below meth c s₁ B hml hv
  obtain ⟨rfl, hP, hK⟩ := hv
  have hx := B.exec
  have hb := B.bytes
  have hr := B.returns
  have hts := atoms_spec (ws := wk_X3_isAbove) B.pre
  have hown : s.vm.findClass RX3 = some m.cls := findClass_of_methodNamed B.named
  have hlocks := B.notSynchronized
  have hP : va_P (dC, dI) vwCl [(h0, .inr (3, [.long up, .long lo]))] s.heap := hP
  have hl := lv_entry ([.ref h0, .long v, .long w]) (n := 9) (Nat.le_of_ble_eq_true rfl)
  rw [lg_entry_eq]
  generalize (lg_sl ([.ref h0, .long v, .long w]) ++ List.replicate (9 - (lg_sl ([.ref h0, .long v, .long w])).length) Slot.unset).toArray = ls at hl ⊢
  have hl : lv_has ls 9 [(0, .ref h0), (1, .long v), (3, .long w)] := hl
  have kl_0 : (0 : Int32).toInt = 0 := by decide
  have kl_1 : (1 : Int32).toInt = 1 := by decide
  have klL_0 : (0 : Int64).toInt = 0 := by decide
  refine lv_aload_n hx hb dX3_isAbove_0 rfl (lv_at hl 0 rfl) ?_
  refine va_get (D := (dC, dI)) (ci := 3) (v := .long lo) (C := RX3) (T := TX3) (N := 2) hx hb hts in_X3_isAbove_X3 hown hK hP 0 rfl rfl 1 (by decide) (hts (.fieldLink RX3 13 "MeetingsAbove$Fraction" "lower" "J") (by decide +kernel)) (fun _ h9 => h9) rfl dX3_isAbove_1 ?_
  refine lv_lconst (v := 0) hx hb dX3_isAbove_4 (by decide) ?_
  refine W.lcmp hx hb dX3_isAbove_5 ?_
  refine lv_if_le (tgt := 15) hx hb dX3_isAbove_6 (by decide) (fun c_6 => ?_) (fun c_6 => ?_)
  · have t_6 := (fa_le64 _ _).mp ((lg_cmp_le _ _).mp c_6)
    refine lv_iconst (v := 0) hx hb dX3_isAbove_15 (by decide) ?_
    exact W.zret (v := 0) hx hb hr rfl (fun t ht _ => ⟨_, rfl, trivial, ht⟩) (fun _ h => absurd h List.not_mem_nil) dX3_isAbove_16
  · have t_6 := mt (fa_le64 _ _).mpr (mt (lg_cmp_le _ _).mpr c_6)
    refine lv_lload_n hx hb dX3_isAbove_9 rfl (lv_at hl 2 rfl) ?_
    refine lv_lconst (v := 0) hx hb dX3_isAbove_10 (by decide) ?_
    refine W.lcmp hx hb dX3_isAbove_11 ?_
    refine lv_if_gt (tgt := 17) hx hb dX3_isAbove_12 (by decide) (fun c_12 => ?_) (fun c_12 => ?_)
    · have t_12 := (fa_lt64 _ _).mp ((lg_cmp_gt _ _).mp c_12)
      refine lv_aload_n hx hb dX3_isAbove_17 rfl (lv_at hl 0 rfl) ?_
      refine va_get (D := (dC, dI)) (ci := 3) (v := .long up) (C := RX3) (T := TX3) (N := 2) hx hb hts in_X3_isAbove_X3 hown hK hP 0 rfl rfl 0 (by decide) (hts (.fieldLink RX3 7 "MeetingsAbove$Fraction" "upper" "J") (by decide +kernel)) (fun _ h9 => h9) rfl dX3_isAbove_18 ?_
      refine lv_aload_n hx hb dX3_isAbove_21 rfl (lv_at hl 0 rfl) ?_
      refine va_get (D := (dC, dI)) (ci := 3) (v := .long lo) (C := RX3) (T := TX3) (N := 2) hx hb hts in_X3_isAbove_X3 hown hK hP 0 rfl rfl 1 (by decide) (hts (.fieldLink RX3 13 "MeetingsAbove$Fraction" "lower" "J") (by decide +kernel)) (fun _ h9 => h9) rfl dX3_isAbove_22 ?_
      refine lv_ldiv hx hb dX3_isAbove_25 (fun h9 => by rw [h9, klL_0] at t_6; omega) ?_
      refine lv_topl (fun y_1 ey_1 => ?_)
      refine lv_lstore (lv' := [(5, .long y_1), (0, .ref h0), (1, .long v), (3, .long w)]) hx hb dX3_isAbove_26 hl (by decide) rfl (fun ls hl => ?_)
      refine lv_lload_n hx hb dX3_isAbove_28 rfl (lv_at hl 2 rfl) ?_
      refine lv_lload_n hx hb dX3_isAbove_29 rfl (lv_at hl 3 rfl) ?_
      refine lv_ldiv hx hb dX3_isAbove_30 (fun h9 => by rw [h9, klL_0] at t_12; omega) ?_
      refine lv_topl (fun y_2 ey_2 => ?_)
      refine lv_lstore (lv' := [(7, .long y_2), (5, .long y_1), (0, .ref h0), (1, .long v), (3, .long w)]) hx hb dX3_isAbove_31 hl (by decide) rfl (fun ls hl => ?_)
      refine lv_lload hx hb dX3_isAbove_33 (lv_at hl 1 rfl) ?_
      refine lv_lload hx hb dX3_isAbove_35 (lv_at hl 0 rfl) ?_
      refine W.lcmp hx hb dX3_isAbove_37 ?_
      refine lv_if_eq (tgt := 55) hx hb dX3_isAbove_38 (by decide) (fun c_38 => ?_) (fun c_38 => ?_)
      · have t_38 := (fa_eq64 _ _).mp ((lg_cmp_eq _ _).mp c_38)
        refine lv_aload_n hx hb dX3_isAbove_55 rfl (lv_at hl 2 rfl) ?_
        refine va_get (D := (dC, dI)) (ci := 3) (v := .long up) (C := RX3) (T := TX3) (N := 2) hx hb hts in_X3_isAbove_X3 hown hK hP 0 rfl rfl 0 (by decide) (hts (.fieldLink RX3 7 "MeetingsAbove$Fraction" "upper" "J") (by decide +kernel)) (fun _ h9 => h9) rfl dX3_isAbove_56 ?_
        refine lv_aload_n hx hb dX3_isAbove_59 rfl (lv_at hl 2 rfl) ?_
        refine va_get (D := (dC, dI)) (ci := 3) (v := .long lo) (C := RX3) (T := TX3) (N := 2) hx hb hts in_X3_isAbove_X3 hown hK hP 0 rfl rfl 1 (by decide) (hts (.fieldLink RX3 13 "MeetingsAbove$Fraction" "lower" "J") (by decide +kernel)) (fun _ h9 => h9) rfl dX3_isAbove_60 ?_
        refine lv_lrem hx hb dX3_isAbove_63 (fun h9 => by rw [h9, klL_0] at t_6; omega) ?_
        refine lv_topl (fun y_3 ey_3 => ?_)
        refine lv_lload_n hx hb dX3_isAbove_64 rfl (lv_at hl 4 rfl) ?_
        refine lv_lmul hx hb dX3_isAbove_65 ?_
        refine lv_topl (fun y_4 ey_4 => ?_)
        refine lv_lload_n hx hb dX3_isAbove_66 rfl (lv_at hl 3 rfl) ?_
        refine lv_lload_n hx hb dX3_isAbove_67 rfl (lv_at hl 4 rfl) ?_
        refine lv_lrem hx hb dX3_isAbove_68 (fun h9 => by rw [h9, klL_0] at t_12; omega) ?_
        refine lv_topl (fun y_5 ey_5 => ?_)
        refine lv_aload_n hx hb dX3_isAbove_69 rfl (lv_at hl 2 rfl) ?_
        refine va_get (D := (dC, dI)) (ci := 3) (v := .long lo) (C := RX3) (T := TX3) (N := 2) hx hb hts in_X3_isAbove_X3 hown hK hP 0 rfl rfl 1 (by decide) (hts (.fieldLink RX3 13 "MeetingsAbove$Fraction" "lower" "J") (by decide +kernel)) (fun _ h9 => h9) rfl dX3_isAbove_70 ?_
        refine lv_lmul hx hb dX3_isAbove_73 ?_
        refine lv_topl (fun y_6 ey_6 => ?_)
        refine W.lcmp hx hb dX3_isAbove_74 ?_
        refine lv_if_le (tgt := 82) hx hb dX3_isAbove_75 (by decide) (fun c_75 => ?_) (fun c_75 => ?_)
        · have t_75 := (fa_le64 _ _).mp ((lg_cmp_le _ _).mp c_75)
          refine lv_iconst (v := 0) hx hb dX3_isAbove_82 (by decide) ?_
          exact W.zret (v := 0) hx hb hr rfl (fun t ht _ => ⟨_, rfl, trivial, ht⟩) (fun _ h => absurd h List.not_mem_nil) dX3_isAbove_83
        · have t_75 := mt (fa_le64 _ _).mpr (mt (lg_cmp_le _ _).mpr c_75)
          refine lv_iconst (v := 1) hx hb dX3_isAbove_78 (by decide) ?_
          refine lv_goto (tgt := 83) hx hb dX3_isAbove_79 (by decide) ?_
          exact W.zret (v := 1) hx hb hr rfl (fun t ht _ => ⟨_, rfl, trivial, ht⟩) (fun _ h => absurd h List.not_mem_nil) dX3_isAbove_83
      · have t_38 := mt (fa_eq64 _ _).mpr (mt (lg_cmp_eq _ _).mpr c_38)
        refine lv_lload hx hb dX3_isAbove_41 (lv_at hl 1 rfl) ?_
        refine lv_lload hx hb dX3_isAbove_43 (lv_at hl 0 rfl) ?_
        refine W.lcmp hx hb dX3_isAbove_45 ?_
        refine lv_if_le (tgt := 53) hx hb dX3_isAbove_46 (by decide) (fun c_46 => ?_) (fun c_46 => ?_)
        · have t_46 := (fa_le64 _ _).mp ((lg_cmp_le _ _).mp c_46)
          refine lv_iconst (v := 0) hx hb dX3_isAbove_53 (by decide) ?_
          exact W.zret (v := 0) hx hb hr rfl (fun t ht _ => ⟨_, rfl, trivial, ht⟩) (fun _ h => absurd h List.not_mem_nil) dX3_isAbove_54
        · have t_46 := mt (fa_le64 _ _).mpr (mt (lg_cmp_le _ _).mpr c_46)
          refine lv_iconst (v := 1) hx hb dX3_isAbove_49 (by decide) ?_
          refine lv_goto (tgt := 54) hx hb dX3_isAbove_50 (by decide) ?_
          exact W.zret (v := 1) hx hb hr rfl (fun t ht _ => ⟨_, rfl, trivial, ht⟩) (fun _ h => absurd h List.not_mem_nil) dX3_isAbove_54
    · have t_12 := mt (fa_lt64 _ _).mpr (mt (lg_cmp_gt _ _).mpr c_12)
      refine lv_iconst (v := 0) hx hb dX3_isAbove_15 (by decide) ?_
      exact W.zret (v := 0) hx hb hr rfl (fun t ht _ => ⟨_, rfl, trivial, ht⟩) (fun _ h => absurd h List.not_mem_nil) dX3_isAbove_16
def wk_X3_cut : List Cond := .code yX3_cut cX3_cut 1 (some .int) :: (([.fieldLink RX3 13 "MeetingsAbove$Fraction" "lower" "J", .fieldLink RX3 7 "MeetingsAbove$Fraction" "upper" "J"] : List Cond) ++ (wsX30 ++ ([])))
theorem in_X3_cut_X3 : ∀ w ∈ wsX30, w ∈ wk_X3_cut := fun _ h => List.mem_cons_of_mem _ (List.mem_append_right _ (List.mem_append_left _ h))
theorem gw_X3_cut : AG wk_X3_cut := AG_ca (AG_l (by decide +kernel)) (AG_app ag_X3 (AG_nil))
set_option maxHeartbeats 4000000 in
set_option maxRecDepth 100000 in
theorem c_X3_cut (l : Launch) (dC : Nat → ClassId) (dI : Nat → Nat → Nat) (h0 : Nat) (up : Int64) (lo : Int64) : Met l yX3_cut wk_X3_cut ({ frames := 0, cells := 0, slots := 0, locals := 0 }) (va_Pc [.ref h0] (fun U => va_P (dC, dI) vwCl [(h0, .inr (3, [.long up, .long lo]))] U.heap ∧ va_K (dC, dI) vwCl [] U)) (vp_Si (fun r => True)) 0 0 (fun _ => False) := by
  refine Met.ofW (cc := cX3_cut) (maxL := 1) (ret := (some .int)) (by decide) rfl ?_
  intro p e s m args below meth c s₁ B hml hv
  obtain ⟨rfl, hP, hK⟩ := hv
  have hx := B.exec
  have hb := B.bytes
  have hr := B.returns
  have hts := atoms_spec (ws := wk_X3_cut) B.pre
  have hown : s.vm.findClass RX3 = some m.cls := findClass_of_methodNamed B.named
  have hlocks := B.notSynchronized
  have hP : va_P (dC, dI) vwCl [(h0, .inr (3, [.long up, .long lo]))] s.heap := hP
  have hl := lv_entry ([.ref h0]) (n := 1) (Nat.le_of_ble_eq_true rfl)
  rw [lg_entry_eq]
  generalize (lg_sl ([.ref h0]) ++ List.replicate (1 - (lg_sl ([.ref h0])).length) Slot.unset).toArray = ls at hl ⊢
  have hl : lv_has ls 1 [(0, .ref h0)] := hl
  have kl_0 : (0 : Int32).toInt = 0 := by decide
  have klL_0 : (0 : Int64).toInt = 0 := by decide
  refine lv_aload_n hx hb dX3_cut_0 rfl (lv_at hl 0 rfl) ?_
  refine va_get (D := (dC, dI)) (ci := 3) (v := .long lo) (C := RX3) (T := TX3) (N := 2) hx hb hts in_X3_cut_X3 hown hK hP 0 rfl rfl 1 (by decide) (hts (.fieldLink RX3 13 "MeetingsAbove$Fraction" "lower" "J") (by decide +kernel)) (fun _ h9 => h9) rfl dX3_cut_1 ?_
  refine lv_lconst (v := 0) hx hb dX3_cut_4 (by decide) ?_
  refine W.lcmp hx hb dX3_cut_5 ?_
  refine lv_if_le (tgt := 22) hx hb dX3_cut_6 (by decide) (fun c_6 => ?_) (fun c_6 => ?_)
  · have t_6 := (fa_le64 _ _).mp ((lg_cmp_le _ _).mp c_6)
    refine lv_iconst (v := 0) hx hb dX3_cut_22 (by decide) ?_
    exact W.iret (v := 0) hx hb hr (fun t ht _ => ⟨_, rfl, trivial, ht⟩) (fun _ h => absurd h List.not_mem_nil) dX3_cut_23
  · have t_6 := mt (fa_le64 _ _).mpr (mt (lg_cmp_le _ _).mpr c_6)
    refine lv_aload_n hx hb dX3_cut_9 rfl (lv_at hl 0 rfl) ?_
    refine va_get (D := (dC, dI)) (ci := 3) (v := .long up) (C := RX3) (T := TX3) (N := 2) hx hb hts in_X3_cut_X3 hown hK hP 0 rfl rfl 0 (by decide) (hts (.fieldLink RX3 7 "MeetingsAbove$Fraction" "upper" "J") (by decide +kernel)) (fun _ h9 => h9) rfl dX3_cut_10 ?_
    refine lv_aload_n hx hb dX3_cut_13 rfl (lv_at hl 0 rfl) ?_
    refine va_get (D := (dC, dI)) (ci := 3) (v := .long lo) (C := RX3) (T := TX3) (N := 2) hx hb hts in_X3_cut_X3 hown hK hP 0 rfl rfl 1 (by decide) (hts (.fieldLink RX3 13 "MeetingsAbove$Fraction" "lower" "J") (by decide +kernel)) (fun _ h9 => h9) rfl dX3_cut_14 ?_
    refine lv_ldiv hx hb dX3_cut_17 (fun h9 => by rw [h9, klL_0] at t_6; omega) ?_
    refine lv_topl (fun y_1 ey_1 => ?_)
    refine lv_l2i hx hb dX3_cut_18 rfl ?_
    refine lv_topi (fun y_2 ey_2 => ?_)
    refine lv_goto (tgt := 23) hx hb dX3_cut_19 (by decide) ?_
    exact W.iret (v := y_2) hx hb hr (fun t ht _ => ⟨_, rfl, trivial, ht⟩) (fun _ h => absurd h List.not_mem_nil) dX3_cut_23
def wk_X4_take : List Cond := .code yX4_take cX4_take 3 none :: (([.fieldLink RX4 10 "MeetingsAbove$Nearest" "square" "LMeetingsAbove$Fraction;", .fieldLink RX4 19 "MeetingsAbove$Way" "upper" "J", .fieldLink RX4 25 "MeetingsAbove$Way" "lower" "J", .fieldLink RX4 16 "MeetingsAbove$Nearest" "part" "LMeetingsAbove$Fraction;", .fieldLink RX4 32 "MeetingsAbove$Way" "partUpper" "J", .fieldLink RX4 35 "MeetingsAbove$Nearest" "step" "I"] : List Cond) ++ (wsX40 ++ (wsX70 ++ ((wsV RX4 28 RX3 yX3_become wk_X3_become) ++ ([])))))
theorem in_X4_take_X4 : ∀ w ∈ wsX40, w ∈ wk_X4_take := fun _ h => List.mem_cons_of_mem _ (List.mem_append_right _ (List.mem_append_left _ h))
theorem in_X4_take_X7 : ∀ w ∈ wsX70, w ∈ wk_X4_take := fun _ h => List.mem_cons_of_mem _ (List.mem_append_right _ (List.mem_append_right _ (List.mem_append_left _ h)))
theorem gw_X4_take : AG wk_X4_take := AG_ca (AG_l (by decide +kernel)) (AG_app ag_X4 (AG_app ag_X7 (AG_app (AG_V gw_X3_become) (AG_nil))))
theorem g_X4_take__X3_become_28 : GoodIn wk_X4_take (wsV RX4 28 RX3 yX3_become wk_X3_become) := goodIn_m (fun _ h => List.mem_cons_of_mem _ (List.mem_append_right _ (List.mem_append_right _ (List.mem_append_right _ (List.mem_append_left _ h))))) (AG_V gw_X3_become)
set_option maxHeartbeats 4000000 in
set_option maxRecDepth 100000 in
theorem c_X4_take (l : Launch) (dC : Nat → ClassId) (dI : Nat → Nat → Nat) (h0 : Nat) (hs : Nat) (hp : Nat) (hw : Nat) (ns : Int32) (su : Int64) (sl : Int64) (pu : Int64) (pl : Int64) (wu : Int64) (wl : Int64) (wp : Int64) (p1 : Int32) (sz : Nat) : Met l yX4_take wk_X4_take ({ frames := 2, cells := 0, slots := 0, locals := 56 }) (va_Pc [.ref h0, .ref hw, .int p1] (fun U => U.heap.size = sz ∧ va_P (dC, dI) vwCl [(h0, .inr (4, [.ref hs, .ref hp, .int ns])), (hs, .inr (3, [.long su, .long sl])), (hp, .inr (3, [.long pu, .long pl])), (hw, .inr (7, [.long wu, .long wl, .long wp]))] U.heap ∧ va_K (dC, dI) vwCl [] U ∧ va_D (fun _ => True) [(h0, .inr (4, [.ref hs, .ref hp, .int ns])), (hs, .inr (3, [.long su, .long sl])), (hp, .inr (3, [.long pu, .long pl])), (hw, .inr (7, [.long wu, .long wl, .long wp]))])) (va_Qv (fun (_ : Unit) => True) (fun (_ : Unit) (t : State) => ∃ (su9 : Int64) (sl9 : Int64) (pu9 : Int64) (pl9 : Int64), va_P (dC, dI) vwCl [(h0, .inr (4, [.ref hs, .ref hp, .int p1])), (hs, .inr (3, [.long su9, .long sl9])), (hp, .inr (3, [.long pu9, .long pl9])), (hw, .inr (7, [.long wu, .long wl, .long wp]))] t.heap ∧ va_K (dC, dI) vwCl [] t ∧ va_D (va_A [(h0, .inr (4, [.ref hs, .ref hp, .int ns])), (hs, .inr (3, [.long su, .long sl])), (hp, .inr (3, [.long pu, .long pl])), (hw, .inr (7, [.long wu, .long wl, .long wp]))] sz) [(h0, .inr (4, [.ref hs, .ref hp, .int p1])), (hs, .inr (3, [.long su9, .long sl9])), (hp, .inr (3, [.long pu9, .long pl9])), (hw, .inr (7, [.long wu, .long wl, .long wp]))]) (va_A [(h0, .inr (4, [.ref hs, .ref hp, .int ns])), (hs, .inr (3, [.long su, .long sl])), (hp, .inr (3, [.long pu, .long pl])), (hw, .inr (7, [.long wu, .long wl, .long wp]))] sz)) 0 0 (va_A [(h0, .inr (4, [.ref hs, .ref hp, .int ns])), (hs, .inr (3, [.long su, .long sl])), (hp, .inr (3, [.long pu, .long pl])), (hw, .inr (7, [.long wu, .long wl, .long wp]))] sz) := by
  refine Met.ofW (cc := cX4_take) (maxL := 3) (ret := none) (by decide) rfl ?_
  intro p e s m args below meth c s₁ B hml hv
  obtain ⟨rfl, hsz, hP, hK, hD0⟩ := hv
  have hx := B.exec
  have hb := B.bytes
  have hr := B.returns
  have hts := atoms_spec (ws := wk_X4_take) B.pre
  have hown : s.vm.findClass RX4 = some m.cls := findClass_of_methodNamed B.named
  have hlocks := B.notSynchronized
  subst hsz
  have hD := hD0.self (sz := s.heap.size)
  generalize hAe : va_A [(h0, .inr (4, [.ref hs, .ref hp, .int ns])), (hs, .inr (3, [.long su, .long sl])), (hp, .inr (3, [.long pu, .long pl])), (hw, .inr (7, [.long wu, .long wl, .long wp]))] s.heap.size = A at hD ⊢
  have hA : ∀ q : Nat, s.heap.size ≤ q → A q := fun q h => by rw [← hAe]; exact Or.inr h
  have hS : va_S A s.heap s.heap [] := va_S.rf
  have hP : va_P (dC, dI) vwCl [(h0, .inr (4, [.ref hs, .ref hp, .int ns])), (hs, .inr (3, [.long su, .long sl])), (hp, .inr (3, [.long pu, .long pl])), (hw, .inr (7, [.long wu, .long wl, .long wp]))] s.heap := hP
  have hl := lv_entry ([.ref h0, .ref hw, .int p1]) (n := 3) (Nat.le_of_ble_eq_true rfl)
  rw [lg_entry_eq]
  generalize (lg_sl ([.ref h0, .ref hw, .int p1]) ++ List.replicate (3 - (lg_sl ([.ref h0, .ref hw, .int p1])).length) Slot.unset).toArray = ls at hl ⊢
  have hl : lv_has ls 3 [(0, .ref h0), (1, .ref hw), (2, .int p1)] := hl
  refine lv_aload_n hx hb dX4_take_0 rfl (lv_at hl 0 rfl) ?_
  refine va_get (D := (dC, dI)) (ci := 4) (v := .ref hs) (C := RX4) (T := TX4) (N := 3) hx hb hts in_X4_take_X4 hown hK hP 0 rfl rfl 0 (by decide) (hts (.fieldLink RX4 10 "MeetingsAbove$Nearest" "square" "LMeetingsAbove$Fraction;") (by decide +kernel)) (fun _ h9 => h9) rfl dX4_take_1 ?_
  refine lv_aload_n hx hb dX4_take_4 rfl (lv_at hl 1 rfl) ?_
  refine va_get (D := (dC, dI)) (ci := 7) (v := .long wu) (C := RX7) (T := TX7) (N := 3) hx hb hts in_X4_take_X7 hown hK hP 3 rfl rfl 0 (by decide) (hts (.fieldLink RX4 19 "MeetingsAbove$Way" "upper" "J") (by decide +kernel)) (fun _ h9 => h9) rfl dX4_take_5 ?_
  refine lv_aload_n hx hb dX4_take_8 rfl (lv_at hl 1 rfl) ?_
  refine va_get (D := (dC, dI)) (ci := 7) (v := .long wl) (C := RX7) (T := TX7) (N := 3) hx hb hts in_X4_take_X7 hown hK hP 3 rfl rfl 1 (by decide) (hts (.fieldLink RX4 25 "MeetingsAbove$Way" "lower" "J") (by decide +kernel)) (fun _ h9 => h9) rfl dX4_take_9 ?_
  have hPc := hP.sub (ws' := [(hs, .inr (3, [.long su, .long sl]))]) [1] rfl
  have hKc := hK.sub (tys' := []) [] rfl
  have hDc := hD.sub (ws' := [(hs, .inr (3, [.long su, .long sl]))]) [1] (by decide) rfl
  have hFc := va_free (wc := [(hs, .inr (3, [.long su, .long sl]))]) hD hS hA [1] rfl
  refine va_callv (va_runV (As := [.long wu, .long wl]) (rest := []) ⟨hx, hb, hml, hown, hts⟩ (c_X3_become l dC dI hs su sl wu wl s.heap.size) (cwV 2 hts g_X4_take__X3_become_28 rfl rfl rfl (by decide +kernel) ⟨Nat.le_of_ble_eq_true rfl, Nat.le_of_ble_eq_true rfl⟩) ⟨fun a U g mk q => by obtain ⟨q0, q1, qP, qK, qD⟩ := q; exact ⟨q0, q1, qP, va_K.moved (u := U) (U := U.calling g mk a) (Vm.Alike.refl U.vm) qK, qD⟩, va_recv hKc hPc (ci := 3) (q0 := 0) rfl rfl, fun U hU hW => ⟨rfl, by rw [hU], by rw [hU]; exact hPc, va_K.moved hW.alike hKc, hDc.weaken (fun _ _ _ _ => trivial)⟩⟩ rfl rfl hl.1 rfl (lv_room (Nat.le_of_ble_eq_true rfl)) dX4_take_12 ⟨Nat.le_of_ble_eq_true rfl, Nat.le_of_ble_eq_true rfl⟩) hS (fun q _ h => hFc q h) hFc (fun u_1 t H1 locs ht hvm hw_2 hB hz1 hk1 hS => ?_)
  obtain ⟨u9_3, l9_4, hP1, hK1, hD1⟩ := hB
  rw [ht] at hP1
  have hK1 := va_K.moved hvm.symm hK1
  obtain ⟨hP, hD⟩ := va_join (wr := [(h0, .inr (4, [.ref hs, .ref hp, .int ns])), (hp, .inr (3, [.long pu, .long pl])), (hw, .inr (7, [.long wu, .long wl, .long wp]))]) (w1 := [(hs, .inr (3, [.long u9_3, .long l9_4]))]) hP hD [1] [0, 2, 3] rfl rfl (by decide) (by decide) hk1 hFc hP1 hD1
  have hK := (hK.sub (tys' := []) [] rfl).app hK1
  generalize H1 = H at hP hS ⊢
  have hP : va_P (dC, dI) vwCl [(h0, .inr (4, [.ref hs, .ref hp, .int ns])), (hp, .inr (3, [.long pu, .long pl])), (hw, .inr (7, [.long wu, .long wl, .long wp])), (hs, .inr (3, [.long u9_3, .long l9_4]))] H := hP
  have hD : va_D A [(h0, .inr (4, [.ref hs, .ref hp, .int ns])), (hp, .inr (3, [.long pu, .long pl])), (hw, .inr (7, [.long wu, .long wl, .long wp])), (hs, .inr (3, [.long u9_3, .long l9_4]))] := hD
  have hK : va_K (dC, dI) vwCl [] s := hK
  refine W.widen (k := 0) (n := 0) (by omega) (by omega) ?_
  refine lv_aload_n hx hb dX4_take_15 rfl (lv_at hl 0 rfl) ?_
  refine va_get (D := (dC, dI)) (ci := 4) (v := .ref hp) (C := RX4) (T := TX4) (N := 3) hx hb hts in_X4_take_X4 hown hK hP 0 rfl rfl 1 (by decide) (hts (.fieldLink RX4 16 "MeetingsAbove$Nearest" "part" "LMeetingsAbove$Fraction;") (by decide +kernel)) (fun _ h9 => h9) rfl dX4_take_16 ?_
  refine lv_aload_n hx hb dX4_take_19 rfl (lv_at hl 1 rfl) ?_
  refine va_get (D := (dC, dI)) (ci := 7) (v := .long wp) (C := RX7) (T := TX7) (N := 3) hx hb hts in_X4_take_X7 hown hK hP 2 rfl rfl 2 (by decide) (hts (.fieldLink RX4 32 "MeetingsAbove$Way" "partUpper" "J") (by decide +kernel)) (fun _ h9 => h9) rfl dX4_take_20 ?_
  refine lv_aload_n hx hb dX4_take_23 rfl (lv_at hl 1 rfl) ?_
  refine va_get (D := (dC, dI)) (ci := 7) (v := .long wl) (C := RX7) (T := TX7) (N := 3) hx hb hts in_X4_take_X7 hown hK hP 2 rfl rfl 1 (by decide) (hts (.fieldLink RX4 25 "MeetingsAbove$Way" "lower" "J") (by decide +kernel)) (fun _ h9 => h9) rfl dX4_take_24 ?_
  have hPc := hP.sub (ws' := [(hp, .inr (3, [.long pu, .long pl]))]) [1] rfl
  have hKc := hK.sub (tys' := []) [] rfl
  have hDc := hD.sub (ws' := [(hp, .inr (3, [.long pu, .long pl]))]) [1] (by decide) rfl
  have hFc := va_free (wc := [(hp, .inr (3, [.long pu, .long pl]))]) hD hS hA [1] rfl
  refine va_callv (va_runV (As := [.long wp, .long wl]) (rest := []) ⟨hx, hb, hml, hown, hts⟩ (c_X3_become l dC dI hp pu pl wp wl H.size) (cwV 2 hts g_X4_take__X3_become_28 rfl rfl rfl (by decide +kernel) ⟨Nat.le_of_ble_eq_true rfl, Nat.le_of_ble_eq_true rfl⟩) ⟨fun a U g mk q => by obtain ⟨q0, q1, qP, qK, qD⟩ := q; exact ⟨q0, q1, qP, va_K.moved (u := U) (U := U.calling g mk a) (Vm.Alike.refl U.vm) qK, qD⟩, va_recv hKc hPc (ci := 3) (q0 := 0) rfl rfl, fun U hU hW => ⟨rfl, by rw [hU], by rw [hU]; exact hPc, va_K.moved hW.alike hKc, hDc.weaken (fun _ _ _ _ => trivial)⟩⟩ rfl rfl hl.1 rfl (lv_room (Nat.le_of_ble_eq_true rfl)) dX4_take_27 ⟨Nat.le_of_ble_eq_true rfl, Nat.le_of_ble_eq_true rfl⟩) hS (fun q _ h => hFc q h) hFc (fun u_5 t H1 locs ht hvm hw_6 hB hz1 hk1 hS => ?_)
  obtain ⟨u9_7, l9_8, hP1, hK1, hD1⟩ := hB
  rw [ht] at hP1
  have hK1 := va_K.moved hvm.symm hK1
  obtain ⟨hP, hD⟩ := va_join (wr := [(h0, .inr (4, [.ref hs, .ref hp, .int ns])), (hw, .inr (7, [.long wu, .long wl, .long wp])), (hs, .inr (3, [.long u9_3, .long l9_4]))]) (w1 := [(hp, .inr (3, [.long u9_7, .long l9_8]))]) hP hD [1] [0, 2, 3] rfl rfl (by decide) (by decide) hk1 hFc hP1 hD1
  have hK := (hK.sub (tys' := []) [] rfl).app hK1
  generalize H1 = H at hP hS ⊢
  have hP : va_P (dC, dI) vwCl [(h0, .inr (4, [.ref hs, .ref hp, .int ns])), (hw, .inr (7, [.long wu, .long wl, .long wp])), (hs, .inr (3, [.long u9_3, .long l9_4])), (hp, .inr (3, [.long u9_7, .long l9_8]))] H := hP
  have hD : va_D A [(h0, .inr (4, [.ref hs, .ref hp, .int ns])), (hw, .inr (7, [.long wu, .long wl, .long wp])), (hs, .inr (3, [.long u9_3, .long l9_4])), (hp, .inr (3, [.long u9_7, .long l9_8]))] := hD
  have hK : va_K (dC, dI) vwCl [] s := hK
  refine W.widen (k := 0) (n := 0) (by omega) (by omega) ?_
  refine lv_aload_n hx hb dX4_take_30 rfl (lv_at hl 0 rfl) ?_
  refine lv_iload_n hx hb dX4_take_31 rfl (lv_at hl 2 rfl) ?_
  refine va_put (D := (dC, dI)) (ci := 4) (v := .int p1) (ty := .int) (C := RX4) (T := TX4) (N := 3) hx hb hts in_X4_take_X4 tyX4 tyX4_ok nmX4 hown hK hP hD hS 0 rfl rfl 2 (by decide) (hts (.fieldLink RX4 35 "MeetingsAbove$Nearest" "step" "I") (by decide +kernel)) (fun _ h9 => h9) rfl (by decide +kernel) rfl rfl (Nat.le_of_ble_eq_true rfl) dX4_take_32 (fun H locs hP hD hS => ?_)
  have hP : va_P (dC, dI) vwCl [(h0, .inr (4, [.ref hs, .ref hp, .int p1])), (hw, .inr (7, [.long wu, .long wl, .long wp])), (hs, .inr (3, [.long u9_3, .long l9_4])), (hp, .inr (3, [.long u9_7, .long l9_8]))] H := hP
  have hD : va_D A [(h0, .inr (4, [.ref hs, .ref hp, .int p1])), (hw, .inr (7, [.long wu, .long wl, .long wp])), (hs, .inr (3, [.long u9_3, .long l9_4])), (hp, .inr (3, [.long u9_7, .long l9_8]))] := hD
  have hP9 := hP.sub (ws' := [(h0, .inr (4, [.ref hs, .ref hp, .int p1])), (hs, .inr (3, [.long u9_3, .long l9_4])), (hp, .inr (3, [.long u9_7, .long l9_8])), (hw, .inr (7, [.long wu, .long wl, .long wp]))]) [0, 2, 3, 1] rfl
  have hD9 := hD.sub (ws' := [(h0, .inr (4, [.ref hs, .ref hp, .int p1])), (hs, .inr (3, [.long u9_3, .long l9_4])), (hp, .inr (3, [.long u9_7, .long l9_8])), (hw, .inr (7, [.long wu, .long wl, .long wp]))]) [0, 2, 3, 1] (by decide) rfl
  have hK9 := hK.sub (tys' := []) [] rfl
  refine W.widen (k := 0) (n := 0) (by omega) (by omega) ?_
  exact W.vret hx hb hr (fun t ht hW => ⟨⟨(), rfl, trivial, u9_3, l9_4, u9_7, l9_8, by rw [ht]; exact hP9, va_K.moved hW.alike hK9, hD9⟩, hS.F ht⟩) hS.2.2 dX4_take_35
