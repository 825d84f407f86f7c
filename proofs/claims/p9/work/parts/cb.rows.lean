def wk_X3_commonDivisorE : List Cond := .code yX3_commonDivisor cX3_commonDivisor 11 (some .long) :: (([] : List Cond) ++ ([]))
theorem gw_X3_commonDivisorE : AG wk_X3_commonDivisorE := AG_ca (AG_l (by decide +kernel)) (AG_nil)
set_option maxHeartbeats 4000000 in
set_option maxRecDepth 100000 in
theorem c_X3_commonDivisorE (l : Launch) (dC : Nat → ClassId) (dI : Nat → Nat → Nat) (v : Int64) (w : Int64) (hv0 : 0 ≤ v.toInt) (hw0 : 0 ≤ w.toInt) : Met l yX3_commonDivisor wk_X3_commonDivisorE ({ frames := 0, cells := 0, slots := 0, locals := 0 }) (va_Pc [.long v, .long w] (fun _ => True)) (vp_Sl (fun r => r.toInt = gN v.toInt w.toInt)) 0 0 (fun _ => False) := by
  refine Met.ofW (cc := cX3_commonDivisor) (maxL := 11) (ret := (some .long)) (by decide) rfl ?_
  intro p e s m args below meth c s₁ B hml hv
  obtain ⟨rfl, -⟩ := hv
  have hx := B.exec
  have hb := B.bytes
  have hr := B.returns
  have hts := atoms_spec (ws := wk_X3_commonDivisorE) B.pre
  have hown : s.vm.findClass RX3 = some m.cls := findClass_of_methodNamed B.named
  have hlocks := B.notSynchronized
  have hl := lv_entry ([.long v, .long w]) (n := 11) (Nat.le_of_ble_eq_true rfl)
  rw [lg_entry_eq]
  generalize (lg_sl ([.long v, .long w]) ++ List.replicate (11 - (lg_sl ([.long v, .long w])).length) Slot.unset).toArray = ls at hl ⊢
  have hl : lv_has ls 11 [(0, .long v), (2, .long w)] := hl
  have kl_0 : (0 : Int32).toInt = 0 := by decide
  have kl_1 : (1 : Int32).toInt = 1 := by decide
  have kl_200 : (200 : Int32).toInt = 200 := by decide
  have klL_0 : (0 : Int64).toInt = 0 := by decide
  have rw9 := fb_rngL w
  refine lv_lload_n hx hb dX3_commonDivisor_0 rfl (lv_at hl 0 rfl) ?_
  refine lv_lstore (lv' := [(4, .long v), (0, .long v), (2, .long w)]) hx hb dX3_commonDivisor_1 hl (by decide) rfl (fun ls hl => ?_)
  refine lv_lload_n hx hb dX3_commonDivisor_3 rfl (lv_at hl 2 rfl) ?_
  refine lv_lstore (lv' := [(6, .long w), (4, .long v), (0, .long v), (2, .long w)]) hx hb dX3_commonDivisor_4 hl (by decide) rfl (fun ls hl => ?_)
  refine lv_iconst (v := 0) hx hb dX3_commonDivisor_6 (by decide) ?_
  refine lv_istore (lv' := [(8, .int 0), (6, .long w), (4, .long v), (0, .long v), (2, .long w)]) hx hb dX3_commonDivisor_7 hl (by decide) rfl (fun ls hl => ?_)
  refine (show ∀ (k : Nat) (x : Int64) (y : Int64) (i8 : Int32) (hi0 : 0 ≤ i8.toInt) (hi1 : i8.toInt ≤ 200) (hI : gInv v.toInt w.toInt x.toInt y.toInt i8.toInt.toNat) (hk_9 : (200 - i8.toInt).toNat < k) (ls : Array Slot) (hl : lv_has ls 11 [(0, .long v), (2, .long w), (4, .long x), (6, .long y), (8, .int i8)]), W p l e _ s m _ below meth c s.heap [] 0 0 _ (F0 m 9 ls []) from ?_) _ v w 0 (by omega) (by omega) (by rw [show (0 : Int32).toInt.toNat = 0 by omega]; exact gInv_0 hv0 hw0) (Nat.lt_succ_self _) ls (lv_sub hl [3, 4, 2, 1, 0] rfl)
  intro k
  induction k with
  | zero => intro x y i8 hi0 hi1 hI hk_9; exact absurd hk_9 (Nat.not_lt_zero _)
  | succ k ih_9 =>
    intro x y i8 hi0 hi1 hI hk_9 ls hl
    refine lv_iload hx hb dX3_commonDivisor_9 (lv_at hl 4 rfl) ?_
    refine lv_sipush (v := 200) hx hb dX3_commonDivisor_11 (by decide) ?_
    refine lv_icmp_ge (tgt := 45) hx hb dX3_commonDivisor_14 (by decide) (fun c_14 => ?_) (fun c_14 => ?_)
    · have t_14 := (fa_le _ _).mp c_14
      refine lv_lload hx hb dX3_commonDivisor_45 (lv_at hl 2 rfl) ?_
      exact W.lret (v := x) hx hb hr (fun t ht _ => ⟨_, rfl, (gInv_end hI (by omega) hw0 (by omega)), ht⟩) (fun _ h => absurd h List.not_mem_nil) dX3_commonDivisor_47
    · have t_14 := mt (fa_le _ _).mpr c_14
      refine lv_lload hx hb dX3_commonDivisor_17 (lv_at hl 3 rfl) ?_
      refine lv_lconst (v := 0) hx hb dX3_commonDivisor_19 (by decide) ?_
      refine W.lcmp hx hb dX3_commonDivisor_20 ?_
      refine lv_if_eq (tgt := 45) hx hb dX3_commonDivisor_21 (by decide) (fun c_21 => ?_) (fun c_21 => ?_)
      · have t_21 := (fa_eq64 _ _).mp ((lg_cmp_eq _ _).mp c_21)
        refine lv_lload hx hb dX3_commonDivisor_45 (lv_at hl 2 rfl) ?_
        exact W.lret (v := x) hx hb hr (fun t ht _ => ⟨_, rfl, (gInv_end hI (by omega) hw0 (by omega)), ht⟩) (fun _ h => absurd h List.not_mem_nil) dX3_commonDivisor_47
      · have t_21 := mt (fa_eq64 _ _).mpr (mt (lg_cmp_eq _ _).mpr c_21)
        refine lv_lload hx hb dX3_commonDivisor_24 (lv_at hl 2 rfl) ?_
        refine lv_lload hx hb dX3_commonDivisor_26 (lv_at hl 3 rfl) ?_
        refine lv_lrem hx hb dX3_commonDivisor_28 (fun h => t_21 (by rw [h])) ?_
        refine lv_topl (fun y_1 ey_1 => ?_)
        refine lv_lstore (lv' := [(9, .long y_1), (0, .long v), (2, .long w), (4, .long x), (6, .long y), (8, .int i8)]) hx hb dX3_commonDivisor_29 hl (by decide) rfl (fun ls hl => ?_)
        refine lv_lload hx hb dX3_commonDivisor_31 (lv_at hl 4 rfl) ?_
        refine lv_lstore (lv' := [(4, .long y), (9, .long y_1), (0, .long v), (2, .long w), (6, .long y), (8, .int i8)]) hx hb dX3_commonDivisor_33 hl (by decide) rfl (fun ls hl => ?_)
        refine lv_lload hx hb dX3_commonDivisor_35 (lv_at hl 1 rfl) ?_
        refine lv_lstore (lv' := [(6, .long y_1), (4, .long y), (9, .long y_1), (0, .long v), (2, .long w), (8, .int i8)]) hx hb dX3_commonDivisor_37 hl (by decide) rfl (fun ls hl => ?_)
        obtain ⟨y_2, ey_2⟩ : ∃ y : Int32, y = i8 + 1 := ⟨_, rfl⟩
        have ty_2 : y_2.toInt = i8.toInt + 1 := by rw [ey_2]; have := fb_addI (x := i8) (y := 1) (by omega) (by omega); omega
        refine lv_iinc (v := y_2) (lv' := [(8, .int y_2), (6, .long y_1), (4, .long y), (9, .long y_1), (0, .long v), (2, .long w)]) hx hb dX3_commonDivisor_39 hl (k := 5) rfl (by rw [ey_2]; rfl) (by decide) rfl (fun ls hl => ?_)
        refine lv_goto (tgt := 9) hx hb dX3_commonDivisor_42 (by decide) ?_
        exact ih_9 y y_1 y_2 (by omega) (by omega) (by rw [show (y_2).toInt.toNat = i8.toInt.toNat + 1 by omega]; have y0 := hI.2.1; exact gInv_1 hI (by omega) (by rw [ey_1]; exact lrem_I hI.1 (by omega))) (by omega) ls (lv_sub hl [4, 5, 2, 1, 0] rfl)
def wk_X3_becomeE : List Cond := .code yX3_become cX3_become 7 none :: (([.fieldLink RX3 7 "MeetingsAbove$Fraction" "upper" "J", .fieldLink RX3 13 "MeetingsAbove$Fraction" "lower" "J"] : List Cond) ++ (wsX30 ++ ((va_wsS RX3 16 yX3_commonDivisor wk_X3_commonDivisorE) ++ ([]))))
theorem in_X3_becomeE_X3 : ∀ w ∈ wsX30, w ∈ wk_X3_becomeE := fun _ h => List.mem_cons_of_mem _ (List.mem_append_right _ (List.mem_append_left _ h))
theorem gw_X3_becomeE : AG wk_X3_becomeE := AG_ca (AG_l (by decide +kernel)) (AG_app ag_X3 (AG_app (AG_S gw_X3_commonDivisorE) (AG_nil)))
theorem g_X3_becomeE__X3_commonDivisorE_16 : GoodIn wk_X3_becomeE (va_wsS RX3 16 yX3_commonDivisor wk_X3_commonDivisorE) := goodIn_m (fun _ h => List.mem_cons_of_mem _ (List.mem_append_right _ (List.mem_append_right _ (List.mem_append_left _ h)))) (AG_S gw_X3_commonDivisorE)
set_option maxHeartbeats 4000000 in
set_option maxRecDepth 100000 in
theorem c_X3_becomeE (l : Launch) (dC : Nat → ClassId) (dI : Nat → Nat → Nat) (h0 : Nat) (up : Int64) (lo : Int64) (v : Int64) (w : Int64) (sz : Nat) (hv0 : 0 ≤ v.toInt) (hw1 : 0 < w.toInt) : Met l yX3_become wk_X3_becomeE ({ frames := 1, cells := 0, slots := 0, locals := 30 }) (va_Pc [.ref h0, .long v, .long w] (fun U => U.heap.size = sz ∧ va_P (dC, dI) vwCl [(h0, .inr (3, [.long up, .long lo]))] U.heap ∧ va_K (dC, dI) vwCl [] U ∧ va_D (fun _ => True) [(h0, .inr (3, [.long up, .long lo]))])) (va_Qv (fun (_ : Unit) => True) (fun (_ : Unit) (t : State) => ∃ (u9 : Int64) (l9 : Int64), va_P (dC, dI) vwCl [(h0, .inr (3, [.long u9, .long l9]))] t.heap ∧ va_K (dC, dI) vwCl [] t ∧ va_D (va_A [(h0, .inr (3, [.long up, .long lo]))] sz) [(h0, .inr (3, [.long u9, .long l9]))] ∧ u9.toInt = v.toInt / (gN v.toInt w.toInt : Nat) ∧ l9.toInt = w.toInt / (gN v.toInt w.toInt : Nat)) (va_A [(h0, .inr (3, [.long up, .long lo]))] sz)) 0 0 (va_A [(h0, .inr (3, [.long up, .long lo]))] sz) := by
  refine Met.ofW (cc := cX3_become) (maxL := 7) (ret := none) (by decide) rfl ?_
  intro p e s m args below meth c s₁ B hml hv
  obtain ⟨rfl, hsz, hP, hK, hD0⟩ := hv
  have hx := B.exec
  have hb := B.bytes
  have hr := B.returns
  have hts := atoms_spec (ws := wk_X3_becomeE) B.pre
  have hown : s.vm.findClass RX3 = some m.cls := findClass_of_methodNamed B.named
  have hlocks := B.notSynchronized
  subst hsz
  have hD := hD0.self (sz := s.heap.size)
  generalize hAe : va_A [(h0, .inr (3, [.long up, .long lo]))] s.heap.size = A at hD ⊢
  have hA : ∀ q : Nat, s.heap.size ≤ q → A q := fun q h => by rw [← hAe]; exact Or.inr h
  have hS : va_S A s.heap s.heap [] := va_S.rf
  have hP : va_P (dC, dI) vwCl [(h0, .inr (3, [.long up, .long lo]))] s.heap := hP
  have hl := lv_entry ([.ref h0, .long v, .long w]) (n := 7) (Nat.le_of_ble_eq_true rfl)
  rw [lg_entry_eq]
  generalize (lg_sl ([.ref h0, .long v, .long w]) ++ List.replicate (7 - (lg_sl ([.ref h0, .long v, .long w])).length) Slot.unset).toArray = ls at hl ⊢
  have hl : lv_has ls 7 [(0, .ref h0), (1, .long v), (3, .long w)] := hl
  have klL_0 : (0 : Int64).toInt = 0 := by decide
  refine lv_lload_n hx hb dX3_become_0 rfl (lv_at hl 1 rfl) ?_
  refine lv_lload_n hx hb dX3_become_1 rfl (lv_at hl 2 rfl) ?_
  refine vp_callSl (W.runS (As := [.long v, .long w]) (rest := []) ⟨hx, hb, hml, hown, hts⟩ (c_X3_commonDivisorE l dC dI v w (by first | omega | assumption) (by first | omega | assumption)) (va_cwS 2 hts g_X3_becomeE__X3_commonDivisorE_16 rfl rfl rfl (by decide +kernel) ⟨Nat.le_of_ble_eq_true rfl, Nat.le_of_ble_eq_true rfl⟩) ⟨fun a U g mk q => by obtain ⟨q0, q1⟩ := q; exact ⟨q0, q1⟩, fun U hU hW => ⟨rfl, trivial⟩⟩ rfl rfl hl.1 rfl (lv_room (Nat.le_of_ble_eq_true rfl)) dX3_become_2 ⟨Nat.le_of_ble_eq_true rfl, Nat.le_of_ble_eq_true rfl⟩) (fun r_1 hr_1 => ?_)
  try dsimp only at hr_1
  refine lv_lstore (lv' := [(5, .long r_1), (0, .ref h0), (1, .long v), (3, .long w)]) hx hb dX3_become_5 hl (by decide) rfl (fun ls hl => ?_)
  have gp := g_pos (x := v.toInt) hw1
  refine lv_aload_n hx hb dX3_become_7 rfl (lv_at hl 1 rfl) ?_
  refine lv_lload hx hb dX3_become_8 (lv_at hl 0 rfl) ?_
  refine lv_lconst (v := 0) hx hb dX3_become_10 (by decide) ?_
  refine W.lcmp hx hb dX3_become_11 ?_
  refine lv_if_le (tgt := 22) hx hb dX3_become_12 (by decide) (fun c_12 => by have t_12 := (fa_le64 _ _).mp ((lg_cmp_le _ _).mp c_12); exfalso; omega) (fun c_12 => ?_)
  have t_12 := mt (fa_le64 _ _).mpr (mt (lg_cmp_le _ _).mpr c_12)
  refine lv_lload_n hx hb dX3_become_15 rfl (lv_at hl 2 rfl) ?_
  refine lv_lload hx hb dX3_become_16 (lv_at hl 0 rfl) ?_
  refine lv_ldiv hx hb dX3_become_18 (fun h9 => by rw [h9, klL_0] at t_12; omega) ?_
  refine lv_topl (fun y_2 ey_2 => ?_)
  refine lv_goto (tgt := 23) hx hb dX3_become_19 (by decide) ?_
  refine va_put (D := (dC, dI)) (ci := 3) (v := .long y_2) (ty := .long) (C := RX3) (T := TX3) (N := 2) hx hb hts in_X3_becomeE_X3 tyX3 tyX3_ok nmX3 hown hK hP hD hS 0 rfl rfl 0 (by decide) (hts (.fieldLink RX3 7 "MeetingsAbove$Fraction" "upper" "J") (by decide +kernel)) (fun _ h9 => h9) rfl (by decide +kernel) rfl rfl (Nat.le_of_ble_eq_true rfl) dX3_become_23 (fun H locs hP hD hS => ?_)
  have hP : va_P (dC, dI) vwCl [(h0, .inr (3, [.long y_2, .long lo]))] H := hP
  have hD : va_D A [(h0, .inr (3, [.long y_2, .long lo]))] := hD
  refine lv_aload_n hx hb dX3_become_26 rfl (lv_at hl 1 rfl) ?_
  refine lv_lload hx hb dX3_become_27 (lv_at hl 0 rfl) ?_
  refine lv_lconst (v := 0) hx hb dX3_become_29 (by decide) ?_
  refine W.lcmp hx hb dX3_become_30 ?_
  refine lv_if_le (tgt := 41) hx hb dX3_become_31 (by decide) (fun c_31 => by have t_31 := (fa_le64 _ _).mp ((lg_cmp_le _ _).mp c_31); exfalso; omega) (fun c_31 => ?_)
  have t_31 := mt (fa_le64 _ _).mpr (mt (lg_cmp_le _ _).mpr c_31)
  refine lv_lload_n hx hb dX3_become_34 rfl (lv_at hl 3 rfl) ?_
  refine lv_lload hx hb dX3_become_35 (lv_at hl 0 rfl) ?_
  refine lv_ldiv hx hb dX3_become_37 (fun h9 => by rw [h9, klL_0] at t_31; omega) ?_
  refine lv_topl (fun y_3 ey_3 => ?_)
  refine lv_goto (tgt := 42) hx hb dX3_become_38 (by decide) ?_
  refine va_put (D := (dC, dI)) (ci := 3) (v := .long y_3) (ty := .long) (C := RX3) (T := TX3) (N := 2) hx hb hts in_X3_becomeE_X3 tyX3 tyX3_ok nmX3 hown hK hP hD hS 0 rfl rfl 1 (by decide) (hts (.fieldLink RX3 13 "MeetingsAbove$Fraction" "lower" "J") (by decide +kernel)) (fun _ h9 => h9) rfl (by decide +kernel) rfl rfl (Nat.le_of_ble_eq_true rfl) dX3_become_42 (fun H locs hP hD hS => ?_)
  have hP : va_P (dC, dI) vwCl [(h0, .inr (3, [.long y_2, .long y_3]))] H := hP
  have hD : va_D A [(h0, .inr (3, [.long y_2, .long y_3]))] := hD
  have hP9 := hP.sub (ws' := [(h0, .inr (3, [.long y_2, .long y_3]))]) [0] rfl
  have hD9 := hD.sub (ws' := [(h0, .inr (3, [.long y_2, .long y_3]))]) [0] (by decide) rfl
  have hK9 := hK.sub (tys' := []) [] rfl
  refine W.widen (k := 0) (n := 0) (by omega) (by omega) ?_
  exact W.vret hx hb hr (fun t ht hW => ⟨⟨(), rfl, trivial, y_2, y_3, by rw [ht]; exact hP9, va_K.moved hW.alike hK9, hD9, (by rw [ey_2, ldiv_I hv0 (by omega), hr_1]), (by rw [ey_3, ldiv_I (by omega) (by omega), hr_1])⟩, hS.F ht⟩) hS.2.2 dX3_become_45
