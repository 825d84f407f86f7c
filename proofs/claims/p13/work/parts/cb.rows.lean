def wk_X3_commonDivisorE : List Cond := .code yX3_commonDivisor cX3_commonDivisor 11 (some .long) :: (([] : List Cond) ++ ([]))
theorem gw_X3_commonDivisorE : AG wk_X3_commonDivisorE := AG_ca (AG_l (by decide +kernel)) (AG_nil)
set_option maxHeartbeats 4000000 in
set_option maxRecDepth 100000 in
theorem c_X3_commonDivisorE (l : Launch) (dC : Nat → ClassId) (dI : Nat → Nat → Nat) (v : Int64) (w : Int64) (hv0 : 0 ≤ v.toInt) (hw0 : 0 ≤ w.toInt) : Met l yX3_commonDivisor wk_X3_commonDivisorE ({ frames := 0, cells := 0, slots := 0, locals := 0 }) (va_Pc [.long v, .long w] (fun _ => True)) (vp_Sl (fun r => r.toInt = gN v.toInt w.toInt)) 0 0 (fun _ => False) := by
  refine Met.ofW (cc := cX3_commonDivisor) (maxL := 11) (ret := (some .long)) (by decide) rfl ?_
  intro p e s m args below meth c s₁ B hml hv
  obtain ⟨rfl, -⟩ := hv
  have hx := B.exec
  have hb := B.bytes
  have hr := B.returns
  have hts := atoms_spec (ws := wk_X3_commonDivisorE) B.pre
  have hown : s.vm.findClass RX3 = some m.cls := findClass_of_methodNamed B.named
  have hlocks := B.notSynchronized
  have hl := lv_entry ([.long v, .long w]) (n := 11) (Nat.le_of_ble_eq_true rfl)
  rw [lg_entry_eq]
  generalize (lg_sl ([.long v, .long w]) ++ List.replicate (11 - (lg_sl ([.long v, .long w])).length) Slot.unset).toArray = ls at hl ⊢
  have hl : lv_has ls 11 [(0, .long v), (2, .long w)] := hl
  have kl_0 : (0 : Int32).toInt = 0 := by decide
  have kl_1 : (1 : Int32).toInt = 1 := by decide
  have kl_200 : (200 : Int32).toInt = 200 := by decide
  have klL_0 : (0 : Int64).toInt = 0 := by decide
  have rw9 := fb_rngL w
  refine lv_lload_n hx hb dX3_commonDivisor_0 rfl (lv_at hl 0 rfl) ?_
  refine lv_lstore (lv' := [(4, .long v), (0, .long v), (2, .long w)]) hx hb dX3_commonDivisor_1 hl (by decide) rfl (fun ls hl => ?_)
  refine lv_lload_n hx hb dX3_commonDivisor_3 rfl (lv_at hl 2 rfl) ?_
  refine lv_lstore (lv' := [(6, .long w), (4, .long v), (0, .long v), (2, .long w)]) hx hb dX3_commonDivisor_4 hl (by decide) rfl (fun ls hl => ?_)
  refine lv_iconst (v := 0) hx hb dX3_commonDivisor_6 (by decide) ?_
  refine lv_istore (lv' := [(8, .int 0), (6, .long w), (4, .long v), (0, .long v), (2, .long w)]) hx hb dX3_commonDivisor_7 hl (by decide) rfl (fun ls hl => ?_)
  refine (show ∀ (k : Nat) (x : Int64) (y : Int64) (i8 : Int32) (hi0 : 0 ≤ i8.toInt) (hi1 : i8.toInt ≤ 200) (hI : gInv v.toInt w.toInt x.toInt y.toInt i8.toInt.toNat) (hk_9 : (200 - i8.toInt).toNat < k) (ls : Array Slot) (hl : lv_has ls 11 [(0, .long v), (2, .long w), (4, .long x), (6, .long y), (8, .int i8)]), W p l e _ s m _ below meth c s.heap [] 0 0 _ (F0 m 9 ls []) from ?_) _ v w 0 (by omega) (by omega) (by rw [show (0 : Int32).toInt.toNat = 0 by omega]; exact gInv_0 hv0 hw0) (Nat.lt_succ_self _) ls (lv_sub hl [3, 4, 2, 1, 0] rfl)
  intro k
  induction k with
  | zero => intro x y i8 hi0 hi1 hI hk_9; exact absurd hk_9 (Nat.not_lt_zero _)
  | succ k ih_9 =>
    intro x y i8 hi0 hi1 hI hk_9 ls hl
    refine lv_iload hx hb dX3_commonDivisor_9 (lv_at hl 4 rfl) ?_
    refine lv_sipush (v := 200) hx hb dX3_commonDivisor_11 (by decide) ?_
    refine lv_icmp_ge (tgt := 45) hx hb dX3_commonDivisor_14 (by decide) (fun c_14 => ?_) (fun c_14 => ?_)
    · have t_14 := (fa_le _ _).mp c_14
      refine lv_lload hx hb dX3_commonDivisor_45 (lv_at hl 2 rfl) ?_
      exact W.lret (v := x) hx hb hr (fun t ht _ => ⟨_, rfl, (gInv_end hI (by omega) hw0 (by omega)), ht⟩) (fun _ h => absurd h List.not_mem_nil) dX3_commonDivisor_47
    · have t_14 := mt (fa_le _ _).mpr c_14
      refine lv_lload hx hb dX3_commonDivisor_17 (lv_at hl 3 rfl) ?_
      refine lv_lconst (v := 0) hx hb dX3_commonDivisor_19 (by decide) ?_
      refine W.lcmp hx hb dX3_commonDivisor_20 ?_
      refine lv_if_eq (tgt := 45) hx hb dX3_commonDivisor_21 (by decide) (fun c_21 => ?_) (fun c_21 => ?_)
      · have t_21 := (fa_eq64 _ _).mp ((lg_cmp_eq _ _).mp c_21)
        refine lv_lload hx hb dX3_commonDivisor_45 (lv_at hl 2 rfl) ?_
        exact W.lret (v := x) hx hb hr (fun t ht _ => ⟨_, rfl, (gInv_end hI (by omega) hw0 (by omega)), ht⟩) (fun _ h => absurd h List.not_mem_nil) dX3_commonDivisor_47
      · have t_21 := mt (fa_eq64 _ _).mpr (mt (lg_cmp_eq _ _).mpr c_21)
        refine lv_lload hx hb dX3_commonDivisor_24 (lv_at hl 2 rfl) ?_
        refine lv_lload hx hb dX3_commonDivisor_26 (lv_at hl 3 rfl) ?_
        refine lv_lrem hx hb dX3_commonDivisor_28 (fun h => t_21 (by rw [h])) ?_
        refine lv_topl (fun y_1 ey_1 => ?_)
        refine lv_lstore (lv' := [(9, .long y_1), (0, .long v), (2, .long w), (4, .long x), (6, .long y), (8, .int i8)]) hx hb dX3_commonDivisor_29 hl (by decide) rfl (fun ls hl => ?_)
        refine lv_lload hx hb dX3_commonDivisor_31 (lv_at hl 4 rfl) ?_
        refine lv_lstore (lv' := [(4, .long y), (9, .long y_1), (0, .long v), (2, .long w), (6, .long y), (8, .int i8)]) hx hb dX3_commonDivisor_33 hl (by decide) rfl (fun ls hl => ?_)
        refine lv_lload hx hb dX3_commonDivisor_35 (lv_at hl 1 rfl) ?_
        refine lv_lstore (lv' := [(6, .long y_1), (4, .long y), (9, .long y_1), (0, .long v), (2, .long w), (8, .int i8)]) hx hb dX3_commonDivisor_37 hl (by decide) rfl (fun ls hl => ?_)
        obtain ⟨y_2, ey_2⟩ : ∃ y : Int32, y = i8 + 1 := ⟨_, rfl⟩
        have ty_2 : y_2.toInt = i8.toInt + 1 := by rw [ey_2]; have := fb_addI (x := i8) (y := 1) (by omega) (by omega); omega
        refine lv_iinc (v := y_2) (lv' := [(8, .int y_2), (6, .long y_1), (4, .long y), (9, .long y_1), (0, .long v), (2, .long w)]) hx hb dX3_commonDivisor_39 hl (k := 5) rfl (by rw [ey_2]; rfl) (by decide) rfl (fun ls hl => ?_)
        refine lv_goto (tgt := 9) hx hb dX3_commonDivisor_42 (by decide) ?_
        exact ih_9 y y_1 y_2 (by omega) (by omega) (by rw [show (y_2).toInt.toNat = i8.toInt.toNat + 1 by omega]; have y0 := hI.2.1; exact gInv_1 hI (by omega) (by rw [ey_1]; exact lrem_I hI.1 (by omega))) (by omega) ls (lv_sub hl [4, 5, 2, 1, 0] rfl)
def wk_X9_commonE : List Cond := .code yX9_common cX9_common 10 (some .long) :: (([] : List Cond) ++ ([]))
theorem gw_X9_commonE : AG wk_X9_commonE := AG_ca (AG_l (by decide +kernel)) (AG_nil)
set_option maxHeartbeats 4000000 in
set_option maxRecDepth 100000 in
theorem c_X9_commonE (l : Launch) (dC : Nat → ClassId) (dI : Nat → Nat → Nat) (v : Int64) (w : Int64) (hv0 : 0 ≤ v.toInt) (hw0 : 0 ≤ w.toInt) : Met l yX9_common wk_X9_commonE ({ frames := 0, cells := 0, slots := 0, locals := 0 }) (va_Pc [.long v, .long w] (fun _ => True)) (vp_Sl (fun r => r.toInt = gN v.toInt w.toInt)) 0 0 (fun _ => False) := by
  refine Met.ofW (cc := cX9_common) (maxL := 10) (ret := (some .long)) (by decide) rfl ?_
  intro p e s m args below meth c s₁ B hml hv
  obtain ⟨rfl, -⟩ := hv
  have hx := B.exec
  have hb := B.bytes
  have hr := B.returns
  have hts := atoms_spec (ws := wk_X9_commonE) B.pre
  have hown : s.vm.findClass RX9 = some m.cls := findClass_of_methodNamed B.named
  have hlocks := B.notSynchronized
  have hl := lv_entry ([.long v, .long w]) (n := 10) (Nat.le_of_ble_eq_true rfl)
  rw [lg_entry_eq]
  generalize (lg_sl ([.long v, .long w]) ++ List.replicate (10 - (lg_sl ([.long v, .long w])).length) Slot.unset).toArray = ls at hl ⊢
  have hl : lv_has ls 10 [(0, .long v), (2, .long w)] := hl
  have klL_0 : (0 : Int64).toInt = 0 := by decide
  refine lv_lload_n hx hb dX9_common_0 rfl (lv_at hl 0 rfl) ?_
  refine lv_lstore (lv' := [(4, .long v), (0, .long v), (2, .long w)]) hx hb dX9_common_1 hl (by decide) rfl (fun ls hl => ?_)
  refine lv_lload_n hx hb dX9_common_3 rfl (lv_at hl 2 rfl) ?_
  refine lv_lstore (lv' := [(6, .long w), (4, .long v), (0, .long v), (2, .long w)]) hx hb dX9_common_4 hl (by decide) rfl (fun ls hl => ?_)
  refine (show ∀ (k : Nat) (x : Int64) (y : Int64) (hx0 : 0 ≤ x.toInt) (hy0 : 0 ≤ y.toInt) (hg : gN x.toInt y.toInt = gN v.toInt w.toInt) (hk_6 : y.toInt.natAbs < k) (ls : Array Slot) (hl : lv_has ls 10 [(0, .long v), (2, .long w), (4, .long x), (6, .long y)]), W p l e _ s m _ below meth c s.heap [] 0 0 _ (F0 m 6 ls []) from ?_) _ v w (by omega) (by omega) (by rfl) (Nat.lt_succ_self _) ls (lv_sub hl [2, 3, 1, 0] rfl)
  intro k
  induction k with
  | zero => intro x y hx0 hy0 hg hk_6; exact absurd hk_6 (Nat.not_lt_zero _)
  | succ k ih_6 =>
    intro x y hx0 hy0 hg hk_6 ls hl
    refine lv_lload hx hb dX9_common_6 (lv_at hl 3 rfl) ?_
    refine lv_lconst (v := 0) hx hb dX9_common_8 (by decide) ?_
    refine W.lcmp hx hb dX9_common_9 ?_
    refine lv_if_eq (tgt := 31) hx hb dX9_common_10 (by decide) (fun c_10 => ?_) (fun c_10 => ?_)
    · have t_10 := (fa_eq64 _ _).mp ((lg_cmp_eq _ _).mp c_10)
      refine lv_lload hx hb dX9_common_31 (lv_at hl 2 rfl) ?_
      exact W.lret (v := x) hx hb hr (fun t ht _ => ⟨_, rfl, (by rw [← hg, show y.toInt = 0 by omega, g_end hx0]), ht⟩) (fun _ h => absurd h List.not_mem_nil) dX9_common_33
    · have t_10 := mt (fa_eq64 _ _).mpr (mt (lg_cmp_eq _ _).mpr c_10)
      refine lv_lload hx hb dX9_common_13 (lv_at hl 2 rfl) ?_
      refine lv_lload hx hb dX9_common_15 (lv_at hl 3 rfl) ?_
      refine lv_lrem hx hb dX9_common_17 (fun h => t_10 (by rw [h])) ?_
      refine lv_topl (fun y_1 ey_1 => ?_)
      refine lv_lstore (lv' := [(8, .long y_1), (0, .long v), (2, .long w), (4, .long x), (6, .long y)]) hx hb dX9_common_18 hl (by decide) rfl (fun ls hl => ?_)
      refine lv_lload hx hb dX9_common_20 (lv_at hl 4 rfl) ?_
      refine lv_lstore (lv' := [(4, .long y), (8, .long y_1), (0, .long v), (2, .long w), (6, .long y)]) hx hb dX9_common_22 hl (by decide) rfl (fun ls hl => ?_)
      refine lv_lload hx hb dX9_common_24 (lv_at hl 1 rfl) ?_
      refine lv_lstore (lv' := [(6, .long y_1), (4, .long y), (8, .long y_1), (0, .long v), (2, .long w)]) hx hb dX9_common_26 hl (by decide) rfl (fun ls hl => ?_)
      refine lv_goto (tgt := 6) hx hb dX9_common_28 (by decide) ?_
      exact ih_6 y y_1 (by exact hy0) (by rw [ey_1, lrem_I hx0 (by omega)]; exact Int.emod_nonneg _ (by omega)) (by exact (g_step hx0 (by omega) (by rw [ey_1]; exact lrem_I hx0 (by omega))).trans hg) (by rw [ey_1]; exact lr_lt (by omega) (by omega)) ls (lv_sub hl [3, 4, 1, 0] rfl)
def wk_X3_becomeE : List Cond := .code yX3_become cX3_become 7 none :: (([.fieldLink RX3 7 "MeetingsAbove$Fraction" "upper" "J", .fieldLink RX3 13 "MeetingsAbove$Fraction" "lower" "J"] : List Cond) ++ (wsX30 ++ ((va_wsS RX3 16 yX3_commonDivisor wk_X3_commonDivisorE) ++ ([]))))
theorem in_X3_becomeE_X3 : ∀ w ∈ wsX30, w ∈ wk_X3_becomeE := fun _ h => List.mem_cons_of_mem _ (List.mem_append_right _ (List.mem_append_left _ h))
theorem gw_X3_becomeE : AG wk_X3_becomeE := AG_ca (AG_l (by decide +kernel)) (AG_app ag_X3 (AG_app (AG_S gw_X3_commonDivisorE) (AG_nil)))
theorem g_X3_becomeE__X3_commonDivisorE_16 : GoodIn wk_X3_becomeE (va_wsS RX3 16 yX3_commonDivisor wk_X3_commonDivisorE) := goodIn_m (fun _ h => List.mem_cons_of_mem _ (List.mem_append_right _ (List.mem_append_right _ (List.mem_append_left _ h)))) (AG_S gw_X3_commonDivisorE)
set_option maxHeartbeats 4000000 in
set_option maxRecDepth 100000 in
theorem c_X3_becomeE (l : Launch) (dC : Nat → ClassId) (dI : Nat → Nat → Nat) (h0 : Nat) (up : Int64) (lo : Int64) (v : Int64) (w : Int64) (sz : Nat) (hv0 : 0 ≤ v.toInt) (hw1 : 0 < w.toInt) : Met l yX3_become wk_X3_becomeE ({ frames := 1, cells := 0, slots := 0, locals := 30 }) (va_Pc [.ref h0, .long v, .long w] (fun U => U.heap.size = sz ∧ va_P (dC, dI) vwCl [(h0, .inr (3, [.long up, .long lo]))] U.heap ∧ va_K (dC, dI) vwCl [] U ∧ va_D (fun _ => True) [(h0, .inr (3, [.long up, .long lo]))])) (va_Qv (fun (_ : Unit) => True) (fun (_ : Unit) (t : State) => ∃ (u9 : Int64) (l9 : Int64), va_P (dC, dI) vwCl [(h0, .inr (3, [.long u9, .long l9]))] t.heap ∧ va_K (dC, dI) vwCl [] t ∧ va_D (va_A [(h0, .inr (3, [.long up, .long lo]))] sz) [(h0, .inr (3, [.long u9, .long l9]))] ∧ u9.toInt = v.toInt / (gN v.toInt w.toInt : Nat) ∧ l9.toInt = w.toInt / (gN v.toInt w.toInt : Nat)) (va_A [(h0, .inr (3, [.long up, .long lo]))] sz)) 0 0 (va_A [(h0, .inr (3, [.long up, .long lo]))] sz) := by
  refine Met.ofW (cc := cX3_become) (maxL := 7) (ret := none) (by decide) rfl ?_
  intro p e s m args below meth c s₁ B hml hv
  obtain ⟨rfl, hsz, hP, hK, hD0⟩ := hv
  have hx := B.exec
  have hb := B.bytes
  have hr := B.returns
  have hts := atoms_spec (ws := wk_X3_becomeE) B.pre
  have hown : s.vm.findClass RX3 = some m.cls := findClass_of_methodNamed B.named
  have hlocks := B.notSynchronized
  subst hsz
  have hD := hD0.self (sz := s.heap.size)
  generalize hAe : va_A [(h0, .inr (3, [.long up, .long lo]))] s.heap.size = A at hD ⊢
  have hA : ∀ q : Nat, s.heap.size ≤ q → A q := fun q h => by rw [← hAe]; exact Or.inr h
  have hS : va_S A s.heap s.heap [] := va_S.rf
  have hP : va_P (dC, dI) vwCl [(h0, .inr (3, [.long up, .long lo]))] s.heap := hP
  have hl := lv_entry ([.ref h0, .long v, .long w]) (n := 7) (Nat.le_of_ble_eq_true rfl)
  rw [lg_entry_eq]
  generalize (lg_sl ([.ref h0, .long v, .long w]) ++ List.replicate (7 - (lg_sl ([.ref h0, .long v, .long w])).length) Slot.unset).toArray = ls at hl ⊢
  have hl : lv_has ls 7 [(0, .ref h0), (1, .long v), (3, .long w)] := hl
  have klL_0 : (0 : Int64).toInt = 0 := by decide
  refine lv_lload_n hx hb dX3_become_0 rfl (lv_at hl 1 rfl) ?_
  refine lv_lload_n hx hb dX3_become_1 rfl (lv_at hl 2 rfl) ?_
  refine vp_callSl (W.runS (As := [.long v, .long w]) (rest := []) ⟨hx, hb, hml, hown, hts⟩ (c_X3_commonDivisorE l dC dI v w (by first | omega | assumption) (by first | omega | assumption)) (va_cwS 2 hts g_X3_becomeE__X3_commonDivisorE_16 rfl rfl rfl (by decide +kernel) ⟨Nat.le_of_ble_eq_true rfl, Nat.le_of_ble_eq_true rfl⟩) ⟨fun a U g mk q => by obtain ⟨q0, q1⟩ := q; exact ⟨q0, q1⟩, fun U hU hW => ⟨rfl, trivial⟩⟩ rfl rfl hl.1 rfl (lv_room (Nat.le_of_ble_eq_true rfl)) dX3_become_2 ⟨Nat.le_of_ble_eq_true rfl, Nat.le_of_ble_eq_true rfl⟩) (fun r_1 hr_1 => ?_)
  try dsimp only at hr_1
  refine lv_lstore (lv' := [(5, .long r_1), (0, .ref h0), (1, .long v), (3, .long w)]) hx hb dX3_become_5 hl (by decide) rfl (fun ls hl => ?_)
  have gp := g_pos (x := v.toInt) hw1
  refine lv_aload_n hx hb dX3_become_7 rfl (lv_at hl 1 rfl) ?_
  refine lv_lload hx hb dX3_become_8 (lv_at hl 0 rfl) ?_
  refine lv_lconst (v := 0) hx hb dX3_become_10 (by decide) ?_
  refine W.lcmp hx hb dX3_become_11 ?_
  refine lv_if_le (tgt := 22) hx hb dX3_become_12 (by decide) (fun c_12 => by have t_12 := (fa_le64 _ _).mp ((lg_cmp_le _ _).mp c_12); exfalso; omega) (fun c_12 => ?_)
  have t_12 := mt (fa_le64 _ _).mpr (mt (lg_cmp_le _ _).mpr c_12)
  refine lv_lload_n hx hb dX3_become_15 rfl (lv_at hl 2 rfl) ?_
  refine lv_lload hx hb dX3_become_16 (lv_at hl 0 rfl) ?_
  refine lv_ldiv hx hb dX3_become_18 (fun h9 => by rw [h9, klL_0] at t_12; omega) ?_
  refine lv_topl (fun y_2 ey_2 => ?_)
  refine lv_goto (tgt := 23) hx hb dX3_become_19 (by decide) ?_
  refine va_put (D := (dC, dI)) (ci := 3) (v := .long y_2) (ty := .long) (C := RX3) (T := TX3) (N := 2) hx hb hts in_X3_becomeE_X3 tyX3 tyX3_ok nmX3 hown hK hP hD hS 0 rfl rfl 0 (by decide) (hts (.fieldLink RX3 7 "MeetingsAbove$Fraction" "upper" "J") (by decide +kernel)) (fun _ h9 => h9) rfl (by decide +kernel) rfl rfl (Nat.le_of_ble_eq_true rfl) dX3_become_23 (fun H locs hP hD hS => ?_)
  have hP : va_P (dC, dI) vwCl [(h0, .inr (3, [.long y_2, .long lo]))] H := hP
  have hD : va_D A [(h0, .inr (3, [.long y_2, .long lo]))] := hD
  refine lv_aload_n hx hb dX3_become_26 rfl (lv_at hl 1 rfl) ?_
  refine lv_lload hx hb dX3_become_27 (lv_at hl 0 rfl) ?_
  refine lv_lconst (v := 0) hx hb dX3_become_29 (by decide) ?_
  refine W.lcmp hx hb dX3_become_30 ?_
  refine lv_if_le (tgt := 41) hx hb dX3_become_31 (by decide) (fun c_31 => by have t_31 := (fa_le64 _ _).mp ((lg_cmp_le _ _).mp c_31); exfalso; omega) (fun c_31 => ?_)
  have t_31 := mt (fa_le64 _ _).mpr (mt (lg_cmp_le _ _).mpr c_31)
  refine lv_lload_n hx hb dX3_become_34 rfl (lv_at hl 3 rfl) ?_
  refine lv_lload hx hb dX3_become_35 (lv_at hl 0 rfl) ?_
  refine lv_ldiv hx hb dX3_become_37 (fun h9 => by rw [h9, klL_0] at t_31; omega) ?_
  refine lv_topl (fun y_3 ey_3 => ?_)
  refine lv_goto (tgt := 42) hx hb dX3_become_38 (by decide) ?_
  refine va_put (D := (dC, dI)) (ci := 3) (v := .long y_3) (ty := .long) (C := RX3) (T := TX3) (N := 2) hx hb hts in_X3_becomeE_X3 tyX3 tyX3_ok nmX3 hown hK hP hD hS 0 rfl rfl 1 (by decide) (hts (.fieldLink RX3 13 "MeetingsAbove$Fraction" "lower" "J") (by decide +kernel)) (fun _ h9 => h9) rfl (by decide +kernel) rfl rfl (Nat.le_of_ble_eq_true rfl) dX3_become_42 (fun H locs hP hD hS => ?_)
  have hP : va_P (dC, dI) vwCl [(h0, .inr (3, [.long y_2, .long y_3]))] H := hP
  have hD : va_D A [(h0, .inr (3, [.long y_2, .long y_3]))] := hD
  have hP9 := hP.sub (ws' := [(h0, .inr (3, [.long y_2, .long y_3]))]) [0] rfl
  have hD9 := hD.sub (ws' := [(h0, .inr (3, [.long y_2, .long y_3]))]) [0] (by decide) rfl
  have hK9 := hK.sub (tys' := []) [] rfl
  refine W.widen (k := 0) (n := 0) (by omega) (by omega) ?_
  exact W.vret hx hb hr (fun t ht hW => ⟨⟨(), rfl, trivial, y_2, y_3, by rw [ht]; exact hP9, va_K.moved hW.alike hK9, hD9, (by rw [ey_2, ldiv_I hv0 (by omega), hr_1]), (by rw [ey_3, ldiv_I (by omega) (by omega), hr_1])⟩, hS.F ht⟩) hS.2.2 dX3_become_45
def wk_X6_boxSideE : List Cond := .code yX6_boxSide cX6_boxSide 1 (some .int) :: (([.fieldLink RX6 22 "MeetingsAbove$Thing" "doubt" "I"] : List Cond) ++ (wsX60 ++ ([])))
theorem in_X6_boxSideE_X6 : ∀ w ∈ wsX60, w ∈ wk_X6_boxSideE := fun _ h => List.mem_cons_of_mem _ (List.mem_append_right _ (List.mem_append_left _ h))
theorem gw_X6_boxSideE : AG wk_X6_boxSideE := AG_ca (AG_l (by decide +kernel)) (AG_app ag_X6 (AG_nil))
set_option maxHeartbeats 4000000 in
set_option maxRecDepth 100000 in
theorem c_X6_boxSideE (l : Launch) (dC : Nat → ClassId) (dI : Nat → Nat → Nat) (h0 : Nat) (x0 : Nat) (fi : Int32) (pl : Int32) (db : Int32) (go : Int32) (hdb : 0 ≤ db.toInt ∧ db.toInt ≤ 200) : Met l yX6_boxSide wk_X6_boxSideE ({ frames := 0, cells := 0, slots := 0, locals := 0 }) (va_Pc [.ref h0] (fun U => va_P (dC, dI) vwCl [(h0, .inr (6, [.ref x0, .int fi, .int pl, .int db, .int go]))] U.heap ∧ va_K (dC, dI) vwCl [] U)) (vp_Si (fun r => r.toInt = 2 * db.toInt + 1)) 0 0 (fun _ => False) := by
  refine Met.ofW (cc := cX6_boxSide) (maxL := 1) (ret := (some .int)) (by decide) rfl ?_
  intro p e s m args below meth c s₁ B hml hv
  obtain ⟨rfl, hP, hK⟩ := hv
  have hx := B.exec
  have hb := B.bytes
  have hr := B.returns
  have hts := atoms_spec (ws := wk_X6_boxSideE) B.pre
  have hown : s.vm.findClass RX6 = some m.cls := findClass_of_methodNamed B.named
  have hlocks := B.notSynchronized
  have hP : va_P (dC, dI) vwCl [(h0, .inr (6, [.ref x0, .int fi, .int pl, .int db, .int go]))] s.heap := hP
  have hl := lv_entry ([.ref h0]) (n := 1) (Nat.le_of_ble_eq_true rfl)
  rw [lg_entry_eq]
  generalize (lg_sl ([.ref h0]) ++ List.replicate (1 - (lg_sl ([.ref h0])).length) Slot.unset).toArray = ls at hl ⊢
  have hl : lv_has ls 1 [(0, .ref h0)] := hl
  have kl_1 : (1 : Int32).toInt = 1 := by decide
  have kl_2 : (2 : Int32).toInt = 2 := by decide
  obtain ⟨b1, b2⟩ := id hdb
  refine lv_iconst (v := 2) hx hb dX6_boxSide_0 (by decide) ?_
  refine lv_aload_n hx hb dX6_boxSide_1 rfl (lv_at hl 0 rfl) ?_
  refine va_get (D := (dC, dI)) (ci := 6) (v := .int db) (C := RX6) (T := TX6) (N := 5) hx hb hts in_X6_boxSideE_X6 hown hK hP 0 rfl rfl 3 (by decide) (hts (.fieldLink RX6 22 "MeetingsAbove$Thing" "doubt" "I") (by decide +kernel)) (fun _ h9 => h9) rfl dX6_boxSide_2 ?_
  refine lv_imul hx hb dX6_boxSide_5 ?_
  refine lv_topi (fun y_1 ey_1 => ?_)
  have ty_1 : y_1.toInt = 2 * db.toInt := by rw [ey_1]; exact fm_lI kl_2 (by omega) (by omega)
  refine lv_iconst (v := 1) hx hb dX6_boxSide_6 (by decide) ?_
  refine lv_iadd hx hb dX6_boxSide_7 ?_
  refine lv_topi (fun y_2 ey_2 => ?_)
  have ty_2 : y_2.toInt = y_1.toInt + 1 := by rw [ey_2]; have := fb_addI (x := y_1) (y := 1) (by omega) (by omega); omega
  exact W.iret (v := y_2) hx hb hr (fun t ht _ => ⟨_, rfl, (by omega), ht⟩) (fun _ h => absurd h List.not_mem_nil) dX6_boxSide_8
def wk_X8_closePairsE : List Cond := .code yX8_closePairs cX8_closePairs 11 (some .long) :: (([.fieldLink RX8 142 "MeetingsAbove$Thing" "doubt" "I", .fieldLink RX8 38 "MeetingsAbove" "wide" "I", .methodLink RX8 269 Lib.Math.min.name, .static Lib.Math.min.name, .initialized "java/lang/Math", .code Lib.Math.min.name Lib.Math.min.code 2 (some .int), .methodLink RX8 274 Lib.Math.max.name, .static Lib.Math.max.name, .code Lib.Math.max.name Lib.Math.max.code 2 (some .int)] : List Cond) ++ (wsX60 ++ (wsX80 ++ ((wsV RX8 149 RX6 yX6_coord wk_X6_coord) ++ ([])))))
theorem in_X8_closePairsE_X6 : ∀ w ∈ wsX60, w ∈ wk_X8_closePairsE := fun _ h => List.mem_cons_of_mem _ (List.mem_append_right _ (List.mem_append_left _ h))
theorem in_X8_closePairsE_X8 : ∀ w ∈ wsX80, w ∈ wk_X8_closePairsE := fun _ h => List.mem_cons_of_mem _ (List.mem_append_right _ (List.mem_append_right _ (List.mem_append_left _ h)))
theorem gw_X8_closePairsE : AG wk_X8_closePairsE := AG_ca (AG_l (by decide +kernel)) (AG_app ag_X6 (AG_app ag_X8 (AG_app (AG_V gw_X6_coord) (AG_nil))))
theorem g_X8_closePairsE__X6_coord_149 : GoodIn wk_X8_closePairsE (wsV RX8 149 RX6 yX6_coord wk_X6_coord) := goodIn_m (fun _ h => List.mem_cons_of_mem _ (List.mem_append_right _ (List.mem_append_right _ (List.mem_append_right _ (List.mem_append_left _ h))))) (AG_V gw_X6_coord)
set_option maxHeartbeats 4000000 in
set_option maxRecDepth 100000 in
theorem c_X8_closePairsE (l : Launch) (dC : Nat → ClassId) (dI : Nat → Nat → Nat) (h0 : Nat) (n0 : Nat) (s0 : Nat) (s1 : Nat) (d0 : Nat) (o0 : Nat) (w0 : Nat) (e0 : Nat) (f0 : Nat) (t0 : Nat) (b0 : Nat) (dn : Int32) (nn : Int32) (la : Int32) (ne : Int32) (wi : Int32) (lm : Int32) (h1 : Nat) (x1 : Nat) (fi1 : Int32) (pl1 : Int32) (db1 : Int32) (go1 : Int32) (g1 : Nat → Int32) (h2 : Nat) (x2 : Nat) (fi2 : Int32) (pl2 : Int32) (db2 : Int32) (go2 : Int32) (g2 : Nat → Int32) (cI : ClassId) (p1 : Int32) (p2 : Int32) (ht1 : tOK fi1 pl1) (ht2 : tOK fi2 pl2) (hf1 : fi1.toInt ≤ p1.toInt) (hf2 : fi2.toInt ≤ p1.toInt) (hl1 : p1.toInt < fi1.toInt + pl1.toInt) (hl2 : p1.toInt < fi2.toInt + pl2.toInt) (hx0 : 0 ≤ p2.toInt) (hx1 : p2.toInt ≤ 2) (hco1 : cOK pl1 g1) (hco2 : cOK pl2 g2) (hdb1 : 0 ≤ db1.toInt ∧ db1.toInt ≤ 200) (hdb2 : 0 ≤ db2.toInt ∧ db2.toInt ≤ 200) (hw0 : 0 ≤ wi.toInt) (hw1 : wi.toInt ≤ 400) : Met l yX8_closePairs wk_X8_closePairsE ({ frames := 1, cells := 0, slots := 0, locals := 23 }) (va_Pc [.ref h0, .ref h1, .ref h2, .int p1, .int p2] (fun U => va_P (dC, dI) vwCl [(h0, .inr (8, [.ref n0, .ref s0, .ref s1, .ref d0, .ref o0, .int dn, .int nn, .int la, .int ne, .int wi, .ref w0, .ref e0, .ref f0, .ref t0, .ref b0, .int lm])), (h1, .inr (6, [.ref x1, .int fi1, .int pl1, .int db1, .int go1])), (x1, .inl (cI, 36, .inl g1)), (h2, .inr (6, [.ref x2, .int fi2, .int pl2, .int db2, .int go2])), (x2, .inl (cI, 36, .inl g2))] U.heap ∧ va_K (dC, dI) vwCl [(cI, .int)] U)) (vp_Sl (fun r => r.toInt = prs (xg fi1 g1 p1.toInt p2.toInt) db1.toInt (xg fi2 g2 p1.toInt p2.toInt) db2.toInt wi.toInt)) 0 0 (fun _ => False) := by
  refine Met.ofW (cc := cX8_closePairs) (maxL := 11) (ret := (some .long)) (by decide) rfl ?_
  intro p e s m args below meth c s₁ B hml hv
  obtain ⟨rfl, hP, hK⟩ := hv
  have hx := B.exec
  have hb := B.bytes
  have hr := B.returns
  have hts := atoms_spec (ws := wk_X8_closePairsE) B.pre
  have hown : s.vm.findClass RX8 = some m.cls := findClass_of_methodNamed B.named
  have hlocks := B.notSynchronized
  have hP : va_P (dC, dI) vwCl [(h0, .inr (8, [.ref n0, .ref s0, .ref s1, .ref d0, .ref o0, .int dn, .int nn, .int la, .int ne, .int wi, .ref w0, .ref e0, .ref f0, .ref t0, .ref b0, .int lm])), (h1, .inr (6, [.ref x1, .int fi1, .int pl1, .int db1, .int go1])), (x1, .inl (cI, 36, .inl g1)), (h2, .inr (6, [.ref x2, .int fi2, .int pl2, .int db2, .int go2])), (x2, .inl (cI, 36, .inl g2))] s.heap := hP
  have hl := lv_entry ([.ref h0, .ref h1, .ref h2, .int p1, .int p2]) (n := 11) (Nat.le_of_ble_eq_true rfl)
  rw [lg_entry_eq]
  generalize (lg_sl ([.ref h0, .ref h1, .ref h2, .int p1, .int p2]) ++ List.replicate (11 - (lg_sl ([.ref h0, .ref h1, .ref h2, .int p1, .int p2])).length) Slot.unset).toArray = ls at hl ⊢
  have hl : lv_has ls 11 [(0, .ref h0), (1, .ref h1), (2, .ref h2), (3, .int p1), (4, .int p2)] := hl
  have kl_0 : (0 : Int32).toInt = 0 := by decide
  have kl_1 : (1 : Int32).toInt = 1 := by decide
  have klL_0 : (0 : Int64).toInt = 0 := by decide
  obtain ⟨hf10, hf11, hq10, hq11⟩ := id ht1
  obtain ⟨hf20, hf21, hq20, hq21⟩ := id ht2
  obtain ⟨b1, b2⟩ := id hdb1
  obtain ⟨b3, b4⟩ := id hdb2
  obtain ⟨c1, c2⟩ := xg_bd hco1 hf1 hl1 hx0 hx1
  obtain ⟨c3, c4⟩ := xg_bd hco2 hf2 hl2 hx0 hx1
  refine lv_aload_n hx hb dX8_closePairs_0 rfl (lv_at hl 1 rfl) ?_
  refine lv_iload_n hx hb dX8_closePairs_1 rfl (lv_at hl 3 rfl) ?_
  refine lv_iload hx hb dX8_closePairs_2 (lv_at hl 4 rfl) ?_
  have hPc := hP.sub (ws' := [(h1, .inr (6, [.ref x1, .int fi1, .int pl1, .int db1, .int go1])), (x1, .inl (cI, 36, .inl g1))]) [1, 2] rfl
  have hKc := hK.sub (tys' := [(cI, .int)]) [0] rfl
  refine vp_callSi (W.runV (As := [.int p1, .int p2]) (rest := []) ⟨hx, hb, hml, hown, hts⟩ (c_X6_coord l dC dI h1 x1 fi1 pl1 db1 go1 g1 cI p1 p2 (by first | omega | assumption) (by first | omega | assumption) (by first | omega | assumption) (by first | omega | assumption) (by first | omega | assumption) (by first | omega | assumption)) (cwV 2 hts g_X8_closePairsE__X6_coord_149 rfl rfl rfl (by decide +kernel) ⟨Nat.le_of_ble_eq_true rfl, Nat.le_of_ble_eq_true rfl⟩) ⟨fun a U g mk q => by obtain ⟨q0, qP, qK⟩ := q; exact ⟨q0, qP, va_K.moved (u := U) (U := U.calling g mk a) (Vm.Alike.refl U.vm) qK⟩, va_recv hKc hPc (ci := 6) (q0 := 0) rfl rfl, fun U hU hW => ⟨rfl, by rw [hU]; exact hPc, va_K.moved hW.alike hKc⟩⟩ rfl rfl hl.1 rfl (lv_room (Nat.le_of_ble_eq_true rfl)) dX8_closePairs_4 ⟨Nat.le_of_ble_eq_true rfl, Nat.le_of_ble_eq_true rfl⟩) (fun r_1 hr_1 => ?_)
  try dsimp only at hr_1
  have m1 : r_1.toInt = xg fi1 g1 p1.toInt p2.toInt := by rw [hr_1]; rfl
  refine lv_istore (lv' := [(5, .int r_1), (0, .ref h0), (1, .ref h1), (2, .ref h2), (3, .int p1), (4, .int p2)]) hx hb dX8_closePairs_7 hl (by decide) rfl (fun ls hl => ?_)
  refine lv_aload_n hx hb dX8_closePairs_9 rfl (lv_at hl 3 rfl) ?_
  refine lv_iload_n hx hb dX8_closePairs_10 rfl (lv_at hl 4 rfl) ?_
  refine lv_iload hx hb dX8_closePairs_11 (lv_at hl 5 rfl) ?_
  have hPc := hP.sub (ws' := [(h2, .inr (6, [.ref x2, .int fi2, .int pl2, .int db2, .int go2])), (x2, .inl (cI, 36, .inl g2))]) [3, 4] rfl
  have hKc := hK.sub (tys' := [(cI, .int)]) [0] rfl
  refine vp_callSi (W.runV (As := [.int p1, .int p2]) (rest := []) ⟨hx, hb, hml, hown, hts⟩ (c_X6_coord l dC dI h2 x2 fi2 pl2 db2 go2 g2 cI p1 p2 (by first | omega | assumption) (by first | omega | assumption) (by first | omega | assumption) (by first | omega | assumption) (by first | omega | assumption) (by first | omega | assumption)) (cwV 2 hts g_X8_closePairsE__X6_coord_149 rfl rfl rfl (by decide +kernel) ⟨Nat.le_of_ble_eq_true rfl, Nat.le_of_ble_eq_true rfl⟩) ⟨fun a U g mk q => by obtain ⟨q0, qP, qK⟩ := q; exact ⟨q0, qP, va_K.moved (u := U) (U := U.calling g mk a) (Vm.Alike.refl U.vm) qK⟩, va_recv hKc hPc (ci := 6) (q0 := 0) rfl rfl, fun U hU hW => ⟨rfl, by rw [hU]; exact hPc, va_K.moved hW.alike hKc⟩⟩ rfl rfl hl.1 rfl (lv_room (Nat.le_of_ble_eq_true rfl)) dX8_closePairs_13 ⟨Nat.le_of_ble_eq_true rfl, Nat.le_of_ble_eq_true rfl⟩) (fun r_2 hr_2 => ?_)
  try dsimp only at hr_2
  have m2 : r_2.toInt = xg fi2 g2 p1.toInt p2.toInt := by rw [hr_2]; rfl
  refine lv_aload_n hx hb dX8_closePairs_16 rfl (lv_at hl 3 rfl) ?_
  refine va_get (D := (dC, dI)) (ci := 6) (v := .int db2) (C := RX6) (T := TX6) (N := 5) hx hb hts in_X8_closePairsE_X6 hown hK hP 3 rfl rfl 3 (by decide) (hts (.fieldLink RX8 142 "MeetingsAbove$Thing" "doubt" "I") (by decide +kernel)) (fun _ h9 => h9) rfl dX8_closePairs_17 ?_
  refine lv_isub hx hb dX8_closePairs_20 ?_
  refine lv_topi (fun y_3 ey_3 => ?_)
  have ty_3 : y_3.toInt = r_2.toInt - db2.toInt := by rw [ey_3]; have := fb_subI (x := r_2) (y := db2) (by omega) (by omega); omega
  refine lv_istore (lv' := [(6, .int y_3), (5, .int r_1), (0, .ref h0), (1, .ref h1), (2, .ref h2), (3, .int p1), (4, .int p2)]) hx hb dX8_closePairs_21 hl (by decide) rfl (fun ls hl => ?_)
  refine lv_aload_n hx hb dX8_closePairs_23 rfl (lv_at hl 4 rfl) ?_
  refine lv_iload_n hx hb dX8_closePairs_24 rfl (lv_at hl 5 rfl) ?_
  refine lv_iload hx hb dX8_closePairs_25 (lv_at hl 6 rfl) ?_
  have hPc := hP.sub (ws' := [(h2, .inr (6, [.ref x2, .int fi2, .int pl2, .int db2, .int go2])), (x2, .inl (cI, 36, .inl g2))]) [3, 4] rfl
  have hKc := hK.sub (tys' := [(cI, .int)]) [0] rfl
  refine vp_callSi (W.runV (As := [.int p1, .int p2]) (rest := []) ⟨hx, hb, hml, hown, hts⟩ (c_X6_coord l dC dI h2 x2 fi2 pl2 db2 go2 g2 cI p1 p2 (by first | omega | assumption) (by first | omega | assumption) (by first | omega | assumption) (by first | omega | assumption) (by first | omega | assumption) (by first | omega | assumption)) (cwV 2 hts g_X8_closePairsE__X6_coord_149 rfl rfl rfl (by decide +kernel) ⟨Nat.le_of_ble_eq_true rfl, Nat.le_of_ble_eq_true rfl⟩) ⟨fun a U g mk q => by obtain ⟨q0, qP, qK⟩ := q; exact ⟨q0, qP, va_K.moved (u := U) (U := U.calling g mk a) (Vm.Alike.refl U.vm) qK⟩, va_recv hKc hPc (ci := 6) (q0 := 0) rfl rfl, fun U hU hW => ⟨rfl, by rw [hU]; exact hPc, va_K.moved hW.alike hKc⟩⟩ rfl rfl hl.1 rfl (lv_room (Nat.le_of_ble_eq_true rfl)) dX8_closePairs_27 ⟨Nat.le_of_ble_eq_true rfl, Nat.le_of_ble_eq_true rfl⟩) (fun r_4 hr_4 => ?_)
  try dsimp only at hr_4
  have m3 : r_4.toInt = xg fi2 g2 p1.toInt p2.toInt := by rw [hr_4]; rfl
  refine lv_aload_n hx hb dX8_closePairs_30 rfl (lv_at hl 4 rfl) ?_
  refine va_get (D := (dC, dI)) (ci := 6) (v := .int db2) (C := RX6) (T := TX6) (N := 5) hx hb hts in_X8_closePairsE_X6 hown hK hP 3 rfl rfl 3 (by decide) (hts (.fieldLink RX8 142 "MeetingsAbove$Thing" "doubt" "I") (by decide +kernel)) (fun _ h9 => h9) rfl dX8_closePairs_31 ?_
  refine lv_iadd hx hb dX8_closePairs_34 ?_
  refine lv_topi (fun y_5 ey_5 => ?_)
  have ty_5 : y_5.toInt = r_4.toInt + db2.toInt := by rw [ey_5]; have := fb_addI (x := r_4) (y := db2) (by omega) (by omega); omega
  refine lv_istore (lv' := [(7, .int y_5), (6, .int y_3), (5, .int r_1), (0, .ref h0), (1, .ref h1), (2, .ref h2), (3, .int p1), (4, .int p2)]) hx hb dX8_closePairs_35 hl (by decide) rfl (fun ls hl => ?_)
  refine lv_lconst (v := 0) hx hb dX8_closePairs_37 (by decide) ?_
  refine lv_lstore (lv' := [(8, .long 0), (7, .int y_5), (6, .int y_3), (5, .int r_1), (0, .ref h0), (1, .ref h1), (2, .ref h2), (3, .int p1), (4, .int p2)]) hx hb dX8_closePairs_38 hl (by decide) rfl (fun ls hl => ?_)
  refine lv_iload hx hb dX8_closePairs_40 (lv_at hl 3 rfl) ?_
  refine lv_aload_n hx hb dX8_closePairs_42 rfl (lv_at hl 5 rfl) ?_
  refine va_get (D := (dC, dI)) (ci := 6) (v := .int db1) (C := RX6) (T := TX6) (N := 5) hx hb hts in_X8_closePairsE_X6 hown hK hP 1 rfl rfl 3 (by decide) (hts (.fieldLink RX8 142 "MeetingsAbove$Thing" "doubt" "I") (by decide +kernel)) (fun _ h9 => h9) rfl dX8_closePairs_43 ?_
  refine lv_isub hx hb dX8_closePairs_46 ?_
  refine lv_topi (fun y_6 ey_6 => ?_)
  have ty_6 : y_6.toInt = r_1.toInt - db1.toInt := by rw [ey_6]; have := fb_subI (x := r_1) (y := db1) (by omega) (by omega); omega
  refine lv_istore (lv' := [(10, .int y_6), (8, .long 0), (7, .int y_5), (6, .int y_3), (5, .int r_1), (0, .ref h0), (1, .ref h1), (2, .ref h2), (3, .int p1), (4, .int p2)]) hx hb dX8_closePairs_47 hl (by decide) rfl (fun ls hl => ?_)
  refine (show ∀ (k : Nat) (n8 : Int64) (c10 : Int32) (hk0 : r_1.toInt - db1.toInt ≤ c10.toInt) (hk1 : c10.toInt ≤ r_1.toInt + db1.toInt + 1) (hsum : n8.toInt = sumI (prI (xg fi2 g2 p1.toInt p2.toInt) db2.toInt wi.toInt) (xg fi1 g1 p1.toInt p2.toInt - db1.toInt) (c10.toInt - (xg fi1 g1 p1.toInt p2.toInt - db1.toInt)).toNat) (hk_49 : (r_1.toInt + db1.toInt + 1 - c10.toInt).toNat < k) (ls : Array Slot) (hl : lv_has ls 11 [(0, .ref h0), (1, .ref h1), (2, .ref h2), (3, .int p1), (4, .int p2), (5, .int r_1), (6, .int y_3), (7, .int y_5), (8, .long n8), (10, .int c10)]), W p l e _ s m _ below meth c s.heap [] 0 0 _ (F0 m 49 ls []) from ?_) _ 0 y_6 (by omega) (by omega) (by rw [show (y_6.toInt - (xg fi1 g1 p1.toInt p2.toInt - db1.toInt)).toNat = 0 by omega]; exact klL_0) (Nat.lt_succ_self _) ls (lv_sub hl [5, 6, 7, 8, 9, 4, 3, 2, 1, 0] rfl)
  intro k
  induction k with
  | zero => intro n8 c10 hk0 hk1 hsum hk_49; exact absurd hk_49 (Nat.not_lt_zero _)
  | succ k ih_49 =>
    intro n8 c10 hk0 hk1 hsum hk_49 ls hl
    refine lv_iload hx hb dX8_closePairs_49 (lv_at hl 9 rfl) ?_
    refine lv_iload hx hb dX8_closePairs_51 (lv_at hl 5 rfl) ?_
    refine lv_aload_n hx hb dX8_closePairs_53 rfl (lv_at hl 1 rfl) ?_
    refine va_get (D := (dC, dI)) (ci := 6) (v := .int db1) (C := RX6) (T := TX6) (N := 5) hx hb hts in_X8_closePairsE_X6 hown hK hP 1 rfl rfl 3 (by decide) (hts (.fieldLink RX8 142 "MeetingsAbove$Thing" "doubt" "I") (by decide +kernel)) (fun _ h9 => h9) rfl dX8_closePairs_54 ?_
    refine lv_iadd hx hb dX8_closePairs_57 ?_
    refine lv_topi (fun y_7 ey_7 => ?_)
    have ty_7 : y_7.toInt = r_1.toInt + db1.toInt := by rw [ey_7]; have := fb_addI (x := r_1) (y := db1) (by omega) (by omega); omega
    refine lv_icmp_gt (tgt := 104) hx hb dX8_closePairs_58 (by decide) (fun c_58 => ?_) (fun c_58 => ?_)
    · have t_58 := (fa_lt _ _).mp c_58
      refine lv_lload hx hb dX8_closePairs_104 (lv_at hl 8 rfl) ?_
      exact W.lret (v := n8) hx hb hr (fun t ht _ => ⟨_, rfl, (by unfold prs; rw [show (2 * db1.toInt + 1).toNat = (c10.toInt - (xg fi1 g1 p1.toInt p2.toInt - db1.toInt)).toNat by omega]; exact hsum), ht⟩) (fun _ h => absurd h List.not_mem_nil) dX8_closePairs_106
    · have t_58 := mt (fa_lt _ _).mpr c_58
      obtain ⟨sb1, sb2⟩ := sum_bd (F := prI (xg fi2 g2 p1.toInt p2.toInt) db2.toInt wi.toInt) (a := xg fi1 g1 p1.toInt p2.toInt - db1.toInt) (fun c => pr_bd b3 b4) (c10.toInt - (xg fi1 g1 p1.toInt p2.toInt - db1.toInt)).toNat
      refine lv_lload hx hb dX8_closePairs_61 (lv_at hl 8 rfl) ?_
      refine lv_iconst (v := 0) hx hb dX8_closePairs_63 (by decide) ?_
      refine lv_iload hx hb dX8_closePairs_64 (lv_at hl 7 rfl) ?_
      refine lv_iload hx hb dX8_closePairs_66 (lv_at hl 9 rfl) ?_
      refine lv_aload_n hx hb dX8_closePairs_68 rfl (lv_at hl 0 rfl) ?_
      refine va_get (D := (dC, dI)) (ci := 8) (v := .int wi) (C := RX8) (T := TX8) (N := 16) hx hb hts in_X8_closePairsE_X8 hown hK hP 0 rfl rfl 9 (by decide) (hts (.fieldLink RX8 38 "MeetingsAbove" "wide" "I") (by decide +kernel)) (fun _ h9 => h9) rfl dX8_closePairs_69 ?_
      refine lv_iadd hx hb dX8_closePairs_72 ?_
      refine lv_topi (fun y_8 ey_8 => ?_)
      have ty_8 : y_8.toInt = c10.toInt + wi.toInt := by rw [ey_8]; have := fb_addI (x := c10) (y := wi) (by omega) (by omega); omega
      refine va_mmin hx hb (by rw [hml]; exact hl.1.symm) hown (hts (.methodLink RX8 269 Lib.Math.min.name) (by decide +kernel)) (hts (.static Lib.Math.min.name) (by decide +kernel)) (hts (.initialized "java/lang/Math") (by decide +kernel)) (hts _ (List.mem_of_getElem? (i := 6) rfl)) (Nat.le_of_ble_eq_true rfl) (Nat.le_of_ble_eq_true rfl) (Nat.le_of_ble_eq_true rfl) (Nat.le_of_ble_eq_true rfl) dX8_closePairs_73 ?_
      refine lv_topi (fun y_9 ey_9 => ?_)
      have ty_9 := min_I ey_9
      refine lv_iload hx hb dX8_closePairs_76 (lv_at hl 6 rfl) ?_
      refine lv_iload hx hb dX8_closePairs_78 (lv_at hl 9 rfl) ?_
      refine lv_aload_n hx hb dX8_closePairs_80 rfl (lv_at hl 0 rfl) ?_
      refine va_get (D := (dC, dI)) (ci := 8) (v := .int wi) (C := RX8) (T := TX8) (N := 16) hx hb hts in_X8_closePairsE_X8 hown hK hP 0 rfl rfl 9 (by decide) (hts (.fieldLink RX8 38 "MeetingsAbove" "wide" "I") (by decide +kernel)) (fun _ h9 => h9) rfl dX8_closePairs_81 ?_
      refine lv_isub hx hb dX8_closePairs_84 ?_
      refine lv_topi (fun y_10 ey_10 => ?_)
      have ty_10 : y_10.toInt = c10.toInt - wi.toInt := by rw [ey_10]; have := fb_subI (x := c10) (y := wi) (by omega) (by omega); omega
      refine va_mmax hx hb (by rw [hml]; exact hl.1.symm) hown (hts (.methodLink RX8 274 Lib.Math.max.name) (by decide +kernel)) (hts (.static Lib.Math.max.name) (by decide +kernel)) (hts (.initialized "java/lang/Math") (by decide +kernel)) (hts _ (List.mem_of_getElem? (i := 9) rfl)) (Nat.le_of_ble_eq_true rfl) (Nat.le_of_ble_eq_true rfl) (Nat.le_of_ble_eq_true rfl) (Nat.le_of_ble_eq_true rfl) dX8_closePairs_85 ?_
      refine lv_topi (fun y_11 ey_11 => ?_)
      have ty_11 := max_I ey_11
      refine lv_isub hx hb dX8_closePairs_88 ?_
      refine lv_topi (fun y_12 ey_12 => ?_)
      have ty_12 : y_12.toInt = y_9.toInt - y_11.toInt := by rw [ey_12]; have := fb_subI (x := y_9) (y := y_11) (by omega) (by omega); omega
      refine lv_iconst (v := 1) hx hb dX8_closePairs_89 (by decide) ?_
      refine lv_iadd hx hb dX8_closePairs_90 ?_
      refine lv_topi (fun y_13 ey_13 => ?_)
      have ty_13 : y_13.toInt = y_12.toInt + 1 := by rw [ey_13]; have := fb_addI (x := y_12) (y := 1) (by omega) (by omega); omega
      refine va_mmax hx hb (by rw [hml]; exact hl.1.symm) hown (hts (.methodLink RX8 274 Lib.Math.max.name) (by decide +kernel)) (hts (.static Lib.Math.max.name) (by decide +kernel)) (hts (.initialized "java/lang/Math") (by decide +kernel)) (hts _ (List.mem_of_getElem? (i := 9) rfl)) (Nat.le_of_ble_eq_true rfl) (Nat.le_of_ble_eq_true rfl) (Nat.le_of_ble_eq_true rfl) (Nat.le_of_ble_eq_true rfl) dX8_closePairs_91 ?_
      refine lv_topi (fun y_14 ey_14 => ?_)
      have ty_14 := max_I ey_14
      have hq9 : y_14.toInt = prI (xg fi2 g2 p1.toInt p2.toInt) db2.toInt wi.toInt c10.toInt := by unfold prI; omega
      obtain ⟨pb1, pb2⟩ := pr_bd (y := xg fi2 g2 p1.toInt p2.toInt) (w := wi.toInt) (c := c10.toInt) b3 b4
      refine lv_i2l hx hb dX8_closePairs_94 rfl ?_
      have ti_94 : (y_14.toInt64).toInt = y_14.toInt := Int32.toInt_toInt64 _
      refine lv_ladd hx hb dX8_closePairs_95 ?_
      refine lv_topl (fun y_15 ey_15 => ?_)
      have ty_15 : y_15.toInt = n8.toInt + y_14.toInt64.toInt := by rw [ey_15]; have := fb_addL (x := n8) (y := y_14.toInt64) (by omega) (by omega); omega
      refine lv_lstore (lv' := [(8, .long y_15), (0, .ref h0), (1, .ref h1), (2, .ref h2), (3, .int p1), (4, .int p2), (5, .int r_1), (6, .int y_3), (7, .int y_5), (10, .int c10)]) hx hb dX8_closePairs_96 hl (by decide) rfl (fun ls hl => ?_)
      obtain ⟨y_16, ey_16⟩ : ∃ y : Int32, y = c10 + 1 := ⟨_, rfl⟩
      have ty_16 : y_16.toInt = c10.toInt + 1 := by rw [ey_16]; have := fb_addI (x := c10) (y := 1) (by omega) (by omega); omega
      refine lv_iinc (v := y_16) (lv' := [(10, .int y_16), (8, .long y_15), (0, .ref h0), (1, .ref h1), (2, .ref h2), (3, .int p1), (4, .int p2), (5, .int r_1), (6, .int y_3), (7, .int y_5)]) hx hb dX8_closePairs_98 hl (k := 9) rfl (by rw [ey_16]; rfl) (by decide) rfl (fun ls hl => ?_)
      refine lv_goto (tgt := 49) hx hb dX8_closePairs_101 (by decide) ?_
      exact ih_49 y_15 y_16 (by omega) (by omega) (by rw [show (y_16.toInt - (xg fi1 g1 p1.toInt p2.toInt - db1.toInt)).toNat = (c10.toInt - (xg fi1 g1 p1.toInt p2.toInt - db1.toInt)).toNat + 1 by omega]; show _ = sumI _ _ _ + prI _ _ _ (_ + _); rw [show (xg fi1 g1 p1.toInt p2.toInt - db1.toInt + (((c10.toInt - (xg fi1 g1 p1.toInt p2.toInt - db1.toInt)).toNat : Nat) : Int)) = c10.toInt by omega, ← hsum, ← hq9]; omega) (by omega) ls (lv_sub hl [2, 3, 4, 5, 6, 7, 8, 9, 1, 0] rfl)
