def wk_X9_keep : List Cond := .code yX9_keep cX9_keep 4 (some .int) :: ([.methodLink RX9 55 yX9_in, .static yX9_in, .initialized RX9, .code yX9_in cX9_in 6 (some .boolean), .fieldLink RX9 42 "MeetingsAboveModel" "shelfMany" "[I", .fieldLink RX9 59 "MeetingsAboveModel" "things" "I", .constant RX9 84 (-100001)] ++ wsX90)
theorem in_X9_keep_X9 : ∀ w ∈ wsX90, w ∈ wk_X9_keep := fun _ h => List.mem_cons_of_mem _ (List.mem_append_right _ h)
set_option maxRecDepth 20000 in
theorem g_X9_keep__X9_in_55 : GoodIn wk_X9_keep (va_wsS RX9 55 yX9_in wk_X9_in) := goodIn_r _ [1, 2, 3, 4] (by decide +kernel) (by decide +kernel)
set_option maxHeartbeats 4000000 in
set_option maxRecDepth 100000 in
theorem c_X9_keep (l : Launch) (dC : Nat → ClassId) (dI : Nat → Nat → Nat) (h0 : Nat) (a1 : Nat) (a2 : Nat) (a3 : Nat) (a4 : Nat) (a5 : Nat) (a6 : Nat) (a7 : Nat) (a8 : Nat) (a9 : Nat) (a10 : Nat) (a11 : Nat) (k9 : ClassId) (p1 : Int32) (sz : Nat) : Met l yX9_keep wk_X9_keep ({ frames := 1, cells := 0, slots := 0, locals := 25 }) (va_Pc [.ref h0, .int p1] (fun U => U.heap.size = sz ∧ va_P (dC, dI) vwCl [(h0, .inr (9, [.int 0, .ref a1, .ref a2, .ref a3, .ref a4, .ref a5, .int 50, .int 20, .int 0, .ref a6, .ref a7, .int 0, .ref a8, .int 0, .ref a9, .ref a10, .long 0, .long 0, .int 0, .long 0, .long 0, .ref a11])), (a9, .inl (k9, 2, .inl (upd (upd (fun _ => 0) (0 : Int32).toNatClampNeg (-1)) (1 : Int32).toNatClampNeg (-1))))] U.heap ∧ va_K (dC, dI) vwCl [(k9, .int)] U ∧ va_D (fun _ => True) [(h0, .inr (9, [.int 0, .ref a1, .ref a2, .ref a3, .ref a4, .ref a5, .int 50, .int 20, .int 0, .ref a6, .ref a7, .int 0, .ref a8, .int 0, .ref a9, .ref a10, .long 0, .long 0, .int 0, .long 0, .long 0, .ref a11])), (a9, .inl (k9, 2, .inl (upd (upd (fun _ => 0) (0 : Int32).toNatClampNeg (-1)) (1 : Int32).toNatClampNeg (-1))))])) (va_Qi (fun (r : Int32) (_ : Unit) => r = an_keep p1) (fun (_ : Unit) (t : State) => va_P (dC, dI) vwCl [] t.heap ∧ va_K (dC, dI) vwCl [] t ∧ va_D (va_A [(h0, .inr (9, [.int 0, .ref a1, .ref a2, .ref a3, .ref a4, .ref a5, .int 50, .int 20, .int 0, .ref a6, .ref a7, .int 0, .ref a8, .int 0, .ref a9, .ref a10, .long 0, .long 0, .int 0, .long 0, .long 0, .ref a11])), (a9, .inl (k9, 2, .inl (upd (upd (fun _ => 0) (0 : Int32).toNatClampNeg (-1)) (1 : Int32).toNatClampNeg (-1))))] sz) []) (va_A [(h0, .inr (9, [.int 0, .ref a1, .ref a2, .ref a3, .ref a4, .ref a5, .int 50, .int 20, .int 0, .ref a6, .ref a7, .int 0, .ref a8, .int 0, .ref a9, .ref a10, .long 0, .long 0, .int 0, .long 0, .long 0, .ref a11])), (a9, .inl (k9, 2, .inl (upd (upd (fun _ => 0) (0 : Int32).toNatClampNeg (-1)) (1 : Int32).toNatClampNeg (-1))))] sz)) 0 0 (va_A [(h0, .inr (9, [.int 0, .ref a1, .ref a2, .ref a3, .ref a4, .ref a5, .int 50, .int 20, .int 0, .ref a6, .ref a7, .int 0, .ref a8, .int 0, .ref a9, .ref a10, .long 0, .long 0, .int 0, .long 0, .long 0, .ref a11])), (a9, .inl (k9, 2, .inl (upd (upd (fun _ => 0) (0 : Int32).toNatClampNeg (-1)) (1 : Int32).toNatClampNeg (-1))))] sz) := by
  refine Met.ofW (cc := cX9_keep) (maxL := 4) (ret := (some .int)) (by decide) rfl ?_
  intro p e s m args below meth c s₁ B hml hv
  obtain ⟨rfl, hsz, hP, hK, hD0⟩ := hv
  have hx := B.exec
  have hb := B.bytes
  have hr := B.returns
  have hts := atoms_spec (ws := wk_X9_keep) B.pre
  have hown : s.vm.findClass RX9 = some m.cls := findClass_of_methodNamed B.named
  have hlocks := B.notSynchronized
  subst hsz
  have hD := hD0.self (sz := s.heap.size)
  generalize hAe : va_A [(h0, .inr (9, [.int 0, .ref a1, .ref a2, .ref a3, .ref a4, .ref a5, .int 50, .int 20, .int 0, .ref a6, .ref a7, .int 0, .ref a8, .int 0, .ref a9, .ref a10, .long 0, .long 0, .int 0, .long 0, .long 0, .ref a11])), (a9, .inl (k9, 2, .inl (upd (upd (fun _ => 0) (0 : Int32).toNatClampNeg (-1)) (1 : Int32).toNatClampNeg (-1))))] s.heap.size = A at hD ⊢
  have hA : ∀ q : Nat, s.heap.size ≤ q → A q := fun q h => by rw [← hAe]; exact Or.inr h
  have hS : va_S A s.heap s.heap [] := va_S.rf
  have hP : va_P (dC, dI) vwCl [(h0, .inr (9, [.int 0, .ref a1, .ref a2, .ref a3, .ref a4, .ref a5, .int 50, .int 20, .int 0, .ref a6, .ref a7, .int 0, .ref a8, .int 0, .ref a9, .ref a10, .long 0, .long 0, .int 0, .long 0, .long 0, .ref a11])), (a9, .inl (k9, 2, .inl (upd (upd (fun _ => 0) (0 : Int32).toNatClampNeg (-1)) (1 : Int32).toNatClampNeg (-1))))] s.heap := hP
  have hl := lv_entry ([.ref h0, .int p1]) (n := 4) (Nat.le_of_ble_eq_true rfl)
  rw [lg_entry_eq]
  generalize (lg_sl ([.ref h0, .int p1]) ++ List.replicate (4 - (lg_sl ([.ref h0, .int p1])).length) Slot.unset).toArray = ls at hl ⊢
  have hl : lv_has ls 4 [(0, .ref h0), (1, .int p1)] := hl
  refine lv_iload_n hx hb dX9_keep_0 rfl (lv_at hl 1 rfl) ?_
  refine lv_i2l hx hb dX9_keep_1 rfl ?_
  refine lv_lconst (v := 0) hx hb dX9_keep_2 (by decide) ?_
  refine lv_lconst (v := 1) hx hb dX9_keep_3 (by decide) ?_
  refine vp_callSi (W.runS (As := [.long p1.toInt64, .long 0, .long 1]) (rest := []) ⟨hx, hb, hml, hown, hts⟩ (c_X9_in l dC dI p1.toInt64 0 1) (va_cwS 3 hts g_X9_keep__X9_in_55 rfl rfl rfl (by decide +kernel) ⟨Nat.le_of_ble_eq_true rfl, Nat.le_of_ble_eq_true rfl⟩) ⟨fun a U g mk q => by obtain ⟨q0, q1⟩ := q; exact ⟨q0, q1⟩, fun U hU hW => ⟨rfl, trivial⟩⟩ rfl rfl hl.1 rfl (lv_room (Nat.le_of_ble_eq_true rfl)) dX9_keep_4 ⟨Nat.le_of_ble_eq_true rfl, Nat.le_of_ble_eq_true rfl⟩) (fun r_1 hr_1 => ?_)
  try dsimp only at hr_1
  rcases bo_split hr_1 with ⟨rfl, q_4⟩ | ⟨rfl, q_4⟩
  · have q_4 := (w64 0 1 p1 (by decide) (by decide)).mp q_4
    rcases (in_01 q_4) with rfl | rfl
    · refine lv_if_ne (tgt := 13) hx hb dX9_keep_7 (by decide) (fun _ => ?_) (fun h9 => absurd h9 (by decide))
      refine lv_aload_n hx hb dX9_keep_13 rfl (lv_at hl 0 rfl) ?_
      refine va_get (D := (dC, dI)) (ci := 9) (v := .ref a9) (C := RX9) (T := TX9) (N := 22) hx hb hts in_X9_keep_X9 hown hK hP 0 rfl rfl 14 (by decide) (hts (.fieldLink RX9 42 "MeetingsAboveModel" "shelfMany" "[I") (by decide +kernel)) (fun _ h9 => h9) rfl dX9_keep_14 ?_
      refine lv_iload_n hx hb dX9_keep_17 rfl (lv_at hl 1 rfl) ?_
      refine lv_aload_n hx hb dX9_keep_18 rfl (lv_at hl 0 rfl) ?_
      refine va_get (D := (dC, dI)) (ci := 9) (v := .int 0) (C := RX9) (T := TX9) (N := 22) hx hb hts in_X9_keep_X9 hown hK hP 0 rfl rfl 0 (by decide) (hts (.fieldLink RX9 59 "MeetingsAboveModel" "things" "I") (by decide +kernel)) (fun _ h9 => h9) rfl dX9_keep_19 ?_
      refine va_iast hx hb hK hP hD hS 1 0 rfl rfl (by unfold vp_in; decide) dX9_keep_22 (fun H locs hP hD hS => ?_)
      have hP : va_P (dC, dI) vwCl [(h0, .inr (9, [.int 0, .ref a1, .ref a2, .ref a3, .ref a4, .ref a5, .int 50, .int 20, .int 0, .ref a6, .ref a7, .int 0, .ref a8, .int 0, .ref a9, .ref a10, .long 0, .long 0, .int 0, .long 0, .long 0, .ref a11])), (a9, .inl (k9, 2, .inl (upd (upd (upd (fun _ => 0) (0 : Int32).toNatClampNeg (-1)) (1 : Int32).toNatClampNeg (-1)) (0 : Int32).toNatClampNeg 0)))] H := hP
      have hD : va_D A [(h0, .inr (9, [.int 0, .ref a1, .ref a2, .ref a3, .ref a4, .ref a5, .int 50, .int 20, .int 0, .ref a6, .ref a7, .int 0, .ref a8, .int 0, .ref a9, .ref a10, .long 0, .long 0, .int 0, .long 0, .long 0, .ref a11])), (a9, .inl (k9, 2, .inl (upd (upd (upd (fun _ => 0) (0 : Int32).toNatClampNeg (-1)) (1 : Int32).toNatClampNeg (-1)) (0 : Int32).toNatClampNeg 0)))] := hD
      refine lv_iconst (v := 0) hx hb dX9_keep_23 (by decide) ?_
      refine lv_istore_n (lv' := [(2, .int 0), (0, .ref h0), (1, .int 0)]) hx hb dX9_keep_24 rfl hl (by decide) rfl (fun ls hl => ?_)
      refine lv_iload_n hx hb dX9_keep_25 rfl (lv_at hl 0 rfl) ?_
      refine lv_aload_n hx hb dX9_keep_26 rfl (lv_at hl 1 rfl) ?_
      refine va_get (D := (dC, dI)) (ci := 9) (v := .int 0) (C := RX9) (T := TX9) (N := 22) hx hb hts in_X9_keep_X9 hown hK hP 0 rfl rfl 0 (by decide) (hts (.fieldLink RX9 59 "MeetingsAboveModel" "things" "I") (by decide +kernel)) (fun _ h9 => h9) rfl dX9_keep_27 ?_
      refine lv_icmp_ge (tgt := 76) hx hb dX9_keep_30 (by decide) (fun _ => ?_) (fun h9 => absurd h9 (by decide))
      refine lv_aload_n hx hb dX9_keep_76 rfl (lv_at hl 1 rfl) ?_
      refine va_get (D := (dC, dI)) (ci := 9) (v := .int 0) (C := RX9) (T := TX9) (N := 22) hx hb hts in_X9_keep_X9 hown hK hP 0 rfl rfl 0 (by decide) (hts (.fieldLink RX9 59 "MeetingsAboveModel" "things" "I") (by decide +kernel)) (fun _ h9 => h9) rfl dX9_keep_77 ?_
      have hP9 := hP.sub (ws' := []) [] rfl
      have hD9 := hD.sub (ws' := []) [] (by decide) rfl
      have hK9 := hK.sub (tys' := []) [] rfl
      refine W.widen (k := 0) (n := 0) (by omega) (by omega) ?_
      exact W.iret (v := 0) hx hb hr (fun t ht hW => ⟨⟨_, (), rfl, (by first | rfl | exact (an_keep_n (no_01 q_4).1 (no_01 q_4).2).symm), by rw [ht]; exact hP9, va_K.moved hW.alike hK9, hD9⟩, hS.F ht⟩) hS.2.2 dX9_keep_80
    · refine lv_if_ne (tgt := 13) hx hb dX9_keep_7 (by decide) (fun _ => ?_) (fun h9 => absurd h9 (by decide))
      refine lv_aload_n hx hb dX9_keep_13 rfl (lv_at hl 0 rfl) ?_
      refine va_get (D := (dC, dI)) (ci := 9) (v := .ref a9) (C := RX9) (T := TX9) (N := 22) hx hb hts in_X9_keep_X9 hown hK hP 0 rfl rfl 14 (by decide) (hts (.fieldLink RX9 42 "MeetingsAboveModel" "shelfMany" "[I") (by decide +kernel)) (fun _ h9 => h9) rfl dX9_keep_14 ?_
      refine lv_iload_n hx hb dX9_keep_17 rfl (lv_at hl 1 rfl) ?_
      refine lv_aload_n hx hb dX9_keep_18 rfl (lv_at hl 0 rfl) ?_
      refine va_get (D := (dC, dI)) (ci := 9) (v := .int 0) (C := RX9) (T := TX9) (N := 22) hx hb hts in_X9_keep_X9 hown hK hP 0 rfl rfl 0 (by decide) (hts (.fieldLink RX9 59 "MeetingsAboveModel" "things" "I") (by decide +kernel)) (fun _ h9 => h9) rfl dX9_keep_19 ?_
      refine va_iast hx hb hK hP hD hS 1 0 rfl rfl (by unfold vp_in; decide) dX9_keep_22 (fun H locs hP hD hS => ?_)
      have hP : va_P (dC, dI) vwCl [(h0, .inr (9, [.int 0, .ref a1, .ref a2, .ref a3, .ref a4, .ref a5, .int 50, .int 20, .int 0, .ref a6, .ref a7, .int 0, .ref a8, .int 0, .ref a9, .ref a10, .long 0, .long 0, .int 0, .long 0, .long 0, .ref a11])), (a9, .inl (k9, 2, .inl (upd (upd (upd (fun _ => 0) (0 : Int32).toNatClampNeg (-1)) (1 : Int32).toNatClampNeg (-1)) (1 : Int32).toNatClampNeg 0)))] H := hP
      have hD : va_D A [(h0, .inr (9, [.int 0, .ref a1, .ref a2, .ref a3, .ref a4, .ref a5, .int 50, .int 20, .int 0, .ref a6, .ref a7, .int 0, .ref a8, .int 0, .ref a9, .ref a10, .long 0, .long 0, .int 0, .long 0, .long 0, .ref a11])), (a9, .inl (k9, 2, .inl (upd (upd (upd (fun _ => 0) (0 : Int32).toNatClampNeg (-1)) (1 : Int32).toNatClampNeg (-1)) (1 : Int32).toNatClampNeg 0)))] := hD
      refine lv_iconst (v := 0) hx hb dX9_keep_23 (by decide) ?_
      refine lv_istore_n (lv' := [(2, .int 0), (0, .ref h0), (1, .int 1)]) hx hb dX9_keep_24 rfl hl (by decide) rfl (fun ls hl => ?_)
      refine lv_iload_n hx hb dX9_keep_25 rfl (lv_at hl 0 rfl) ?_
      refine lv_aload_n hx hb dX9_keep_26 rfl (lv_at hl 1 rfl) ?_
      refine va_get (D := (dC, dI)) (ci := 9) (v := .int 0) (C := RX9) (T := TX9) (N := 22) hx hb hts in_X9_keep_X9 hown hK hP 0 rfl rfl 0 (by decide) (hts (.fieldLink RX9 59 "MeetingsAboveModel" "things" "I") (by decide +kernel)) (fun _ h9 => h9) rfl dX9_keep_27 ?_
      refine lv_icmp_ge (tgt := 76) hx hb dX9_keep_30 (by decide) (fun _ => ?_) (fun h9 => absurd h9 (by decide))
      refine lv_aload_n hx hb dX9_keep_76 rfl (lv_at hl 1 rfl) ?_
      refine va_get (D := (dC, dI)) (ci := 9) (v := .int 0) (C := RX9) (T := TX9) (N := 22) hx hb hts in_X9_keep_X9 hown hK hP 0 rfl rfl 0 (by decide) (hts (.fieldLink RX9 59 "MeetingsAboveModel" "things" "I") (by decide +kernel)) (fun _ h9 => h9) rfl dX9_keep_77 ?_
      have hP9 := hP.sub (ws' := []) [] rfl
      have hD9 := hD.sub (ws' := []) [] (by decide) rfl
      have hK9 := hK.sub (tys' := []) [] rfl
      refine W.widen (k := 0) (n := 0) (by omega) (by omega) ?_
      exact W.iret (v := 0) hx hb hr (fun t ht hW => ⟨⟨_, (), rfl, (by first | rfl | exact (an_keep_n (no_01 q_4).1 (no_01 q_4).2).symm), by rw [ht]; exact hP9, va_K.moved hW.alike hK9, hD9⟩, hS.F ht⟩) hS.2.2 dX9_keep_80
  · have q_4 := mt (w64 0 1 p1 (by decide) (by decide)).mpr q_4
    refine lv_if_ne (tgt := 13) hx hb dX9_keep_7 (by decide) (fun h9 => absurd h9 (by decide)) (fun _ => ?_)
    refine lv_ldc hx hb hown (hts (.constant RX9 84 (-100001)) (by decide +kernel)) dX9_keep_10 ?_
    have hP9 := hP.sub (ws' := []) [] rfl
    have hD9 := hD.sub (ws' := []) [] (by decide) rfl
    have hK9 := hK.sub (tys' := []) [] rfl
    refine W.widen (k := 0) (n := 0) (by omega) (by omega) ?_
    exact W.iret (v := (-100001)) hx hb hr (fun t ht hW => ⟨⟨_, (), rfl, (by first | rfl | exact (an_keep_n (no_01 q_4).1 (no_01 q_4).2).symm), by rw [ht]; exact hP9, va_K.moved hW.alike hK9, hD9⟩, hS.F ht⟩) hS.2.2 dX9_keep_12
def wk_X9_rule : List Cond := .code yX9_rule cX9_rule 4 (some .int) :: ([.methodLink RX9 55 yX9_in, .static yX9_in, .initialized RX9, .code yX9_in cX9_in 6 (some .boolean), .constantLong RX9 98 3000, .fieldLink RX9 26 "MeetingsAboveModel" "near" "I", .fieldLink RX9 30 "MeetingsAboveModel" "wide" "I", .constant RX9 70 (-100002), .constantLong RX9 100 400] ++ wsX90)
theorem in_X9_rule_X9 : ∀ w ∈ wsX90, w ∈ wk_X9_rule := fun _ h => List.mem_cons_of_mem _ (List.mem_append_right _ h)
set_option maxRecDepth 20000 in
theorem g_X9_rule__X9_in_55 : GoodIn wk_X9_rule (va_wsS RX9 55 yX9_in wk_X9_in) := goodIn_r _ [1, 2, 3, 4] (by decide +kernel) (by decide +kernel)
set_option maxHeartbeats 4000000 in
set_option maxRecDepth 100000 in
theorem c_X9_rule (l : Launch) (dC : Nat → ClassId) (dI : Nat → Nat → Nat) (h0 : Nat) (a1 : Nat) (a2 : Nat) (a3 : Nat) (a4 : Nat) (a5 : Nat) (a6 : Nat) (a7 : Nat) (a8 : Nat) (a9 : Nat) (a10 : Nat) (a11 : Nat) (p1 : Int32) (p2 : Int32) (sz : Nat) : Met l yX9_rule wk_X9_rule ({ frames := 1, cells := 0, slots := 0, locals := 25 }) (va_Pc [.ref h0, .int p1, .int p2] (fun U => U.heap.size = sz ∧ va_P (dC, dI) vwCl [(h0, .inr (9, [.int 0, .ref a1, .ref a2, .ref a3, .ref a4, .ref a5, .int 50, .int 20, .int 0, .ref a6, .ref a7, .int 0, .ref a8, .int 0, .ref a9, .ref a10, .long 0, .long 0, .int 0, .long 0, .long 0, .ref a11]))] U.heap ∧ va_K (dC, dI) vwCl [] U ∧ va_D (fun _ => True) [(h0, .inr (9, [.int 0, .ref a1, .ref a2, .ref a3, .ref a4, .ref a5, .int 50, .int 20, .int 0, .ref a6, .ref a7, .int 0, .ref a8, .int 0, .ref a9, .ref a10, .long 0, .long 0, .int 0, .long 0, .long 0, .ref a11]))])) (va_Qi (fun (r : Int32) (_ : Unit) => r = an_rule p1 p2) (fun (_ : Unit) (t : State) => va_P (dC, dI) vwCl [] t.heap ∧ va_K (dC, dI) vwCl [] t ∧ va_D (va_A [(h0, .inr (9, [.int 0, .ref a1, .ref a2, .ref a3, .ref a4, .ref a5, .int 50, .int 20, .int 0, .ref a6, .ref a7, .int 0, .ref a8, .int 0, .ref a9, .ref a10, .long 0, .long 0, .int 0, .long 0, .long 0, .ref a11]))] sz) []) (va_A [(h0, .inr (9, [.int 0, .ref a1, .ref a2, .ref a3, .ref a4, .ref a5, .int 50, .int 20, .int 0, .ref a6, .ref a7, .int 0, .ref a8, .int 0, .ref a9, .ref a10, .long 0, .long 0, .int 0, .long 0, .long 0, .ref a11]))] sz)) 0 0 (va_A [(h0, .inr (9, [.int 0, .ref a1, .ref a2, .ref a3, .ref a4, .ref a5, .int 50, .int 20, .int 0, .ref a6, .ref a7, .int 0, .ref a8, .int 0, .ref a9, .ref a10, .long 0, .long 0, .int 0, .long 0, .long 0, .ref a11]))] sz) := by
  refine Met.ofW (cc := cX9_rule) (maxL := 4) (ret := (some .int)) (by decide) rfl ?_
  intro p e s m args below meth c s₁ B hml hv
  obtain ⟨rfl, hsz, hP, hK, hD0⟩ := hv
  have hx := B.exec
  have hb := B.bytes
  have hr := B.returns
  have hts := atoms_spec (ws := wk_X9_rule) B.pre
  have hown : s.vm.findClass RX9 = some m.cls := findClass_of_methodNamed B.named
  have hlocks := B.notSynchronized
  subst hsz
  have hD := hD0.self (sz := s.heap.size)
  generalize hAe : va_A [(h0, .inr (9, [.int 0, .ref a1, .ref a2, .ref a3, .ref a4, .ref a5, .int 50, .int 20, .int 0, .ref a6, .ref a7, .int 0, .ref a8, .int 0, .ref a9, .ref a10, .long 0, .long 0, .int 0, .long 0, .long 0, .ref a11]))] s.heap.size = A at hD ⊢
  have hA : ∀ q : Nat, s.heap.size ≤ q → A q := fun q h => by rw [← hAe]; exact Or.inr h
  have hS : va_S A s.heap s.heap [] := va_S.rf
  have hP : va_P (dC, dI) vwCl [(h0, .inr (9, [.int 0, .ref a1, .ref a2, .ref a3, .ref a4, .ref a5, .int 50, .int 20, .int 0, .ref a6, .ref a7, .int 0, .ref a8, .int 0, .ref a9, .ref a10, .long 0, .long 0, .int 0, .long 0, .long 0, .ref a11]))] s.heap := hP
  have hl := lv_entry ([.ref h0, .int p1, .int p2]) (n := 4) (Nat.le_of_ble_eq_true rfl)
  rw [lg_entry_eq]
  generalize (lg_sl ([.ref h0, .int p1, .int p2]) ++ List.replicate (4 - (lg_sl ([.ref h0, .int p1, .int p2])).length) Slot.unset).toArray = ls at hl ⊢
  have hl : lv_has ls 4 [(0, .ref h0), (1, .int p1), (2, .int p2)] := hl
  refine lv_iload_n hx hb dX9_rule_0 rfl (lv_at hl 1 rfl) ?_
  refine lv_i2l hx hb dX9_rule_1 rfl ?_
  refine lv_lconst (v := 0) hx hb dX9_rule_2 (by decide) ?_
  refine lv_lconst (v := 1) hx hb dX9_rule_3 (by decide) ?_
  refine vp_callSi (W.runS (As := [.long p1.toInt64, .long 0, .long 1]) (rest := []) ⟨hx, hb, hml, hown, hts⟩ (c_X9_in l dC dI p1.toInt64 0 1) (va_cwS 3 hts g_X9_rule__X9_in_55 rfl rfl rfl (by decide +kernel) ⟨Nat.le_of_ble_eq_true rfl, Nat.le_of_ble_eq_true rfl⟩) ⟨fun a U g mk q => by obtain ⟨q0, q1⟩ := q; exact ⟨q0, q1⟩, fun U hU hW => ⟨rfl, trivial⟩⟩ rfl rfl hl.1 rfl (lv_room (Nat.le_of_ble_eq_true rfl)) dX9_rule_4 ⟨Nat.le_of_ble_eq_true rfl, Nat.le_of_ble_eq_true rfl⟩) (fun r_1 hr_1 => ?_)
  try dsimp only at hr_1
  rcases bo_split hr_1 with ⟨rfl, q_4⟩ | ⟨rfl, q_4⟩
  · have q_4 := (w64 0 1 p1 (by decide) (by decide)).mp q_4
    rcases (in_01 q_4) with rfl | rfl
    · refine lv_if_eq (tgt := 40) hx hb dX9_rule_7 (by decide) (fun h9 => absurd h9 (by decide)) (fun _ => ?_)
      refine lv_iload_n hx hb dX9_rule_10 rfl (lv_at hl 2 rfl) ?_
      refine lv_i2l hx hb dX9_rule_11 rfl ?_
      refine lv_iload_n hx hb dX9_rule_12 rfl (lv_at hl 1 rfl) ?_
      refine lv_if_ne (tgt := 20) hx hb dX9_rule_13 (by decide) (fun h9 => absurd h9 (by decide)) (fun _ => ?_)
      refine lv_lconst (v := 1) hx hb dX9_rule_16 (by decide) ?_
      refine lv_goto (tgt := 21) hx hb dX9_rule_17 (by decide) ?_
      refine lv_iload_n hx hb dX9_rule_21 rfl (lv_at hl 1 rfl) ?_
      refine lv_if_ne (tgt := 31) hx hb dX9_rule_22 (by decide) (fun h9 => absurd h9 (by decide)) (fun _ => ?_)
      refine lv_ldc2 hx hb hown (hts (.constantLong RX9 98 3000) (by decide +kernel)) dX9_rule_25 ?_
      refine lv_goto (tgt := 34) hx hb dX9_rule_28 (by decide) ?_
      refine vp_callSi (W.runS (As := [.long p2.toInt64, .long 1, .long 3000]) (rest := []) ⟨hx, hb, hml, hown, hts⟩ (c_X9_in l dC dI p2.toInt64 1 3000) (va_cwS 3 hts g_X9_rule__X9_in_55 rfl rfl rfl (by decide +kernel) ⟨Nat.le_of_ble_eq_true rfl, Nat.le_of_ble_eq_true rfl⟩) ⟨fun a U g mk q => by obtain ⟨q0, q1⟩ := q; exact ⟨q0, q1⟩, fun U hU hW => ⟨rfl, trivial⟩⟩ rfl rfl hl.1 rfl (lv_room (Nat.le_of_ble_eq_true rfl)) dX9_rule_34 ⟨Nat.le_of_ble_eq_true rfl, Nat.le_of_ble_eq_true rfl⟩) (fun r_2 hr_2 => ?_)
      try dsimp only at hr_2
      rcases bo_split hr_2 with ⟨rfl, q_34⟩ | ⟨rfl, q_34⟩
      · have q_34 := (w64 1 3000 p2 (by decide) (by decide)).mp q_34
        refine lv_if_ne (tgt := 43) hx hb dX9_rule_37 (by decide) (fun _ => ?_) (fun h9 => absurd h9 (by decide))
        refine lv_iload_n hx hb dX9_rule_43 rfl (lv_at hl 1 rfl) ?_
        refine lv_if_ne (tgt := 54) hx hb dX9_rule_44 (by decide) (fun h9 => absurd h9 (by decide)) (fun _ => ?_)
        refine lv_aload_n hx hb dX9_rule_47 rfl (lv_at hl 0 rfl) ?_
        refine va_get (D := (dC, dI)) (ci := 9) (v := .int 50) (C := RX9) (T := TX9) (N := 22) hx hb hts in_X9_rule_X9 hown hK hP 0 rfl rfl 6 (by decide) (hts (.fieldLink RX9 26 "MeetingsAboveModel" "near" "I") (by decide +kernel)) (fun _ h9 => h9) rfl dX9_rule_48 ?_
        refine lv_goto (tgt := 58) hx hb dX9_rule_51 (by decide) ?_
        refine lv_istore_n (lv' := [(3, .int 50), (0, .ref h0), (1, .int 0), (2, .int p2)]) hx hb dX9_rule_58 rfl hl (by decide) rfl (fun ls hl => ?_)
        refine lv_aload_n hx hb dX9_rule_59 rfl (lv_at hl 1 rfl) ?_
        refine lv_iload_n hx hb dX9_rule_60 rfl (lv_at hl 2 rfl) ?_
        refine lv_if_ne (tgt := 68) hx hb dX9_rule_61 (by decide) (fun h9 => absurd h9 (by decide)) (fun _ => ?_)
        refine lv_iload_n hx hb dX9_rule_64 rfl (lv_at hl 3 rfl) ?_
        refine lv_goto (tgt := 72) hx hb dX9_rule_65 (by decide) ?_
        refine va_put (D := (dC, dI)) (ci := 9) (v := .int p2) (ty := .int) (C := RX9) (T := TX9) (N := 22) hx hb hts in_X9_rule_X9 tyX9 tyX9_ok nmX9 hown hK hP hD hS 0 rfl rfl 6 (by decide) (hts (.fieldLink RX9 26 "MeetingsAboveModel" "near" "I") (by decide +kernel)) (fun _ h9 => h9) rfl (by decide +kernel) rfl rfl (Nat.le_of_ble_eq_true rfl) dX9_rule_72 (fun H locs hP hD hS => ?_)
        have hP : va_P (dC, dI) vwCl [(h0, .inr (9, [.int 0, .ref a1, .ref a2, .ref a3, .ref a4, .ref a5, .int p2, .int 20, .int 0, .ref a6, .ref a7, .int 0, .ref a8, .int 0, .ref a9, .ref a10, .long 0, .long 0, .int 0, .long 0, .long 0, .ref a11]))] H := hP
        have hD : va_D A [(h0, .inr (9, [.int 0, .ref a1, .ref a2, .ref a3, .ref a4, .ref a5, .int p2, .int 20, .int 0, .ref a6, .ref a7, .int 0, .ref a8, .int 0, .ref a9, .ref a10, .long 0, .long 0, .int 0, .long 0, .long 0, .ref a11]))] := hD
        refine lv_aload_n hx hb dX9_rule_75 rfl (lv_at hl 1 rfl) ?_
        refine lv_iload_n hx hb dX9_rule_76 rfl (lv_at hl 2 rfl) ?_
        refine lv_iconst (v := 1) hx hb dX9_rule_77 (by decide) ?_
        refine lv_icmp_ne (tgt := 85) hx hb dX9_rule_78 (by decide) (fun _ => ?_) (fun h9 => absurd h9 (by decide))
        refine lv_aload_n hx hb dX9_rule_85 rfl (lv_at hl 1 rfl) ?_
        refine va_get (D := (dC, dI)) (ci := 9) (v := .int 20) (C := RX9) (T := TX9) (N := 22) hx hb hts in_X9_rule_X9 hown hK hP 0 rfl rfl 7 (by decide) (hts (.fieldLink RX9 30 "MeetingsAboveModel" "wide" "I") (by decide +kernel)) (fun _ h9 => h9) rfl dX9_rule_86 ?_
        refine va_put (D := (dC, dI)) (ci := 9) (v := .int 20) (ty := .int) (C := RX9) (T := TX9) (N := 22) hx hb hts in_X9_rule_X9 tyX9 tyX9_ok nmX9 hown hK hP hD hS 0 rfl rfl 7 (by decide) (hts (.fieldLink RX9 30 "MeetingsAboveModel" "wide" "I") (by decide +kernel)) (fun _ h9 => h9) rfl (by decide +kernel) rfl rfl (Nat.le_of_ble_eq_true rfl) dX9_rule_89 (fun H locs hP hD hS => ?_)
        have hP : va_P (dC, dI) vwCl [(h0, .inr (9, [.int 0, .ref a1, .ref a2, .ref a3, .ref a4, .ref a5, .int p2, .int 20, .int 0, .ref a6, .ref a7, .int 0, .ref a8, .int 0, .ref a9, .ref a10, .long 0, .long 0, .int 0, .long 0, .long 0, .ref a11]))] H := hP
        have hD : va_D A [(h0, .inr (9, [.int 0, .ref a1, .ref a2, .ref a3, .ref a4, .ref a5, .int p2, .int 20, .int 0, .ref a6, .ref a7, .int 0, .ref a8, .int 0, .ref a9, .ref a10, .long 0, .long 0, .int 0, .long 0, .long 0, .ref a11]))] := hD
        refine lv_iload_n hx hb dX9_rule_92 rfl (lv_at hl 0 rfl) ?_
        have hP9 := hP.sub (ws' := []) [] rfl
        have hD9 := hD.sub (ws' := []) [] (by decide) rfl
        have hK9 := hK.sub (tys' := []) [] rfl
        refine W.widen (k := 0) (n := 0) (by omega) (by omega) ?_
        exact W.iret (v := 50) hx hb hr (fun t ht hW => ⟨⟨_, (), rfl, (by first | exact (an_rule_n (no_01 q_4).1 (no_01 q_4).2).symm | exact (if_pos q_34).symm | exact (if_neg q_34).symm), by rw [ht]; exact hP9, va_K.moved hW.alike hK9, hD9⟩, hS.F ht⟩) hS.2.2 dX9_rule_93
      · have q_34 := mt (w64 1 3000 p2 (by decide) (by decide)).mpr q_34
        refine lv_if_ne (tgt := 43) hx hb dX9_rule_37 (by decide) (fun h9 => absurd h9 (by decide)) (fun _ => ?_)
        refine lv_ldc hx hb hown (hts (.constant RX9 70 (-100002)) (by decide +kernel)) dX9_rule_40 ?_
        have hP9 := hP.sub (ws' := []) [] rfl
        have hD9 := hD.sub (ws' := []) [] (by decide) rfl
        have hK9 := hK.sub (tys' := []) [] rfl
        refine W.widen (k := 0) (n := 0) (by omega) (by omega) ?_
        exact W.iret (v := (-100002)) hx hb hr (fun t ht hW => ⟨⟨_, (), rfl, (by first | exact (an_rule_n (no_01 q_4).1 (no_01 q_4).2).symm | exact (if_pos q_34).symm | exact (if_neg q_34).symm), by rw [ht]; exact hP9, va_K.moved hW.alike hK9, hD9⟩, hS.F ht⟩) hS.2.2 dX9_rule_42
    · refine lv_if_eq (tgt := 40) hx hb dX9_rule_7 (by decide) (fun h9 => absurd h9 (by decide)) (fun _ => ?_)
      refine lv_iload_n hx hb dX9_rule_10 rfl (lv_at hl 2 rfl) ?_
      refine lv_i2l hx hb dX9_rule_11 rfl ?_
      refine lv_iload_n hx hb dX9_rule_12 rfl (lv_at hl 1 rfl) ?_
      refine lv_if_ne (tgt := 20) hx hb dX9_rule_13 (by decide) (fun _ => ?_) (fun h9 => absurd h9 (by decide))
      refine lv_lconst (v := 0) hx hb dX9_rule_20 (by decide) ?_
      refine lv_iload_n hx hb dX9_rule_21 rfl (lv_at hl 1 rfl) ?_
      refine lv_if_ne (tgt := 31) hx hb dX9_rule_22 (by decide) (fun _ => ?_) (fun h9 => absurd h9 (by decide))
      refine lv_ldc2 hx hb hown (hts (.constantLong RX9 100 400) (by decide +kernel)) dX9_rule_31 ?_
      refine vp_callSi (W.runS (As := [.long p2.toInt64, .long 0, .long 400]) (rest := []) ⟨hx, hb, hml, hown, hts⟩ (c_X9_in l dC dI p2.toInt64 0 400) (va_cwS 3 hts g_X9_rule__X9_in_55 rfl rfl rfl (by decide +kernel) ⟨Nat.le_of_ble_eq_true rfl, Nat.le_of_ble_eq_true rfl⟩) ⟨fun a U g mk q => by obtain ⟨q0, q1⟩ := q; exact ⟨q0, q1⟩, fun U hU hW => ⟨rfl, trivial⟩⟩ rfl rfl hl.1 rfl (lv_room (Nat.le_of_ble_eq_true rfl)) dX9_rule_34 ⟨Nat.le_of_ble_eq_true rfl, Nat.le_of_ble_eq_true rfl⟩) (fun r_3 hr_3 => ?_)
      try dsimp only at hr_3
      rcases bo_split hr_3 with ⟨rfl, q_34⟩ | ⟨rfl, q_34⟩
      · have q_34 := (w64 0 400 p2 (by decide) (by decide)).mp q_34
        refine lv_if_ne (tgt := 43) hx hb dX9_rule_37 (by decide) (fun _ => ?_) (fun h9 => absurd h9 (by decide))
        refine lv_iload_n hx hb dX9_rule_43 rfl (lv_at hl 1 rfl) ?_
        refine lv_if_ne (tgt := 54) hx hb dX9_rule_44 (by decide) (fun _ => ?_) (fun h9 => absurd h9 (by decide))
        refine lv_aload_n hx hb dX9_rule_54 rfl (lv_at hl 0 rfl) ?_
        refine va_get (D := (dC, dI)) (ci := 9) (v := .int 20) (C := RX9) (T := TX9) (N := 22) hx hb hts in_X9_rule_X9 hown hK hP 0 rfl rfl 7 (by decide) (hts (.fieldLink RX9 30 "MeetingsAboveModel" "wide" "I") (by decide +kernel)) (fun _ h9 => h9) rfl dX9_rule_55 ?_
        refine lv_istore_n (lv' := [(3, .int 20), (0, .ref h0), (1, .int 1), (2, .int p2)]) hx hb dX9_rule_58 rfl hl (by decide) rfl (fun ls hl => ?_)
        refine lv_aload_n hx hb dX9_rule_59 rfl (lv_at hl 1 rfl) ?_
        refine lv_iload_n hx hb dX9_rule_60 rfl (lv_at hl 2 rfl) ?_
        refine lv_if_ne (tgt := 68) hx hb dX9_rule_61 (by decide) (fun _ => ?_) (fun h9 => absurd h9 (by decide))
        refine lv_aload_n hx hb dX9_rule_68 rfl (lv_at hl 1 rfl) ?_
        refine va_get (D := (dC, dI)) (ci := 9) (v := .int 50) (C := RX9) (T := TX9) (N := 22) hx hb hts in_X9_rule_X9 hown hK hP 0 rfl rfl 6 (by decide) (hts (.fieldLink RX9 26 "MeetingsAboveModel" "near" "I") (by decide +kernel)) (fun _ h9 => h9) rfl dX9_rule_69 ?_
        refine va_put (D := (dC, dI)) (ci := 9) (v := .int 50) (ty := .int) (C := RX9) (T := TX9) (N := 22) hx hb hts in_X9_rule_X9 tyX9 tyX9_ok nmX9 hown hK hP hD hS 0 rfl rfl 6 (by decide) (hts (.fieldLink RX9 26 "MeetingsAboveModel" "near" "I") (by decide +kernel)) (fun _ h9 => h9) rfl (by decide +kernel) rfl rfl (Nat.le_of_ble_eq_true rfl) dX9_rule_72 (fun H locs hP hD hS => ?_)
        have hP : va_P (dC, dI) vwCl [(h0, .inr (9, [.int 0, .ref a1, .ref a2, .ref a3, .ref a4, .ref a5, .int 50, .int 20, .int 0, .ref a6, .ref a7, .int 0, .ref a8, .int 0, .ref a9, .ref a10, .long 0, .long 0, .int 0, .long 0, .long 0, .ref a11]))] H := hP
        have hD : va_D A [(h0, .inr (9, [.int 0, .ref a1, .ref a2, .ref a3, .ref a4, .ref a5, .int 50, .int 20, .int 0, .ref a6, .ref a7, .int 0, .ref a8, .int 0, .ref a9, .ref a10, .long 0, .long 0, .int 0, .long 0, .long 0, .ref a11]))] := hD
        refine lv_aload_n hx hb dX9_rule_75 rfl (lv_at hl 1 rfl) ?_
        refine lv_iload_n hx hb dX9_rule_76 rfl (lv_at hl 2 rfl) ?_
        refine lv_iconst (v := 1) hx hb dX9_rule_77 (by decide) ?_
        refine lv_icmp_ne (tgt := 85) hx hb dX9_rule_78 (by decide) (fun h9 => absurd h9 (by decide)) (fun _ => ?_)
        refine lv_iload_n hx hb dX9_rule_81 rfl (lv_at hl 3 rfl) ?_
        refine lv_goto (tgt := 89) hx hb dX9_rule_82 (by decide) ?_
        refine va_put (D := (dC, dI)) (ci := 9) (v := .int p2) (ty := .int) (C := RX9) (T := TX9) (N := 22) hx hb hts in_X9_rule_X9 tyX9 tyX9_ok nmX9 hown hK hP hD hS 0 rfl rfl 7 (by decide) (hts (.fieldLink RX9 30 "MeetingsAboveModel" "wide" "I") (by decide +kernel)) (fun _ h9 => h9) rfl (by decide +kernel) rfl rfl (Nat.le_of_ble_eq_true rfl) dX9_rule_89 (fun H locs hP hD hS => ?_)
        have hP : va_P (dC, dI) vwCl [(h0, .inr (9, [.int 0, .ref a1, .ref a2, .ref a3, .ref a4, .ref a5, .int 50, .int p2, .int 0, .ref a6, .ref a7, .int 0, .ref a8, .int 0, .ref a9, .ref a10, .long 0, .long 0, .int 0, .long 0, .long 0, .ref a11]))] H := hP
        have hD : va_D A [(h0, .inr (9, [.int 0, .ref a1, .ref a2, .ref a3, .ref a4, .ref a5, .int 50, .int p2, .int 0, .ref a6, .ref a7, .int 0, .ref a8, .int 0, .ref a9, .ref a10, .long 0, .long 0, .int 0, .long 0, .long 0, .ref a11]))] := hD
        refine lv_iload_n hx hb dX9_rule_92 rfl (lv_at hl 0 rfl) ?_
        have hP9 := hP.sub (ws' := []) [] rfl
        have hD9 := hD.sub (ws' := []) [] (by decide) rfl
        have hK9 := hK.sub (tys' := []) [] rfl
        refine W.widen (k := 0) (n := 0) (by omega) (by omega) ?_
        exact W.iret (v := 20) hx hb hr (fun t ht hW => ⟨⟨_, (), rfl, (by first | exact (an_rule_n (no_01 q_4).1 (no_01 q_4).2).symm | exact (if_pos q_34).symm | exact (if_neg q_34).symm), by rw [ht]; exact hP9, va_K.moved hW.alike hK9, hD9⟩, hS.F ht⟩) hS.2.2 dX9_rule_93
      · have q_34 := mt (w64 0 400 p2 (by decide) (by decide)).mpr q_34
        refine lv_if_ne (tgt := 43) hx hb dX9_rule_37 (by decide) (fun h9 => absurd h9 (by decide)) (fun _ => ?_)
        refine lv_ldc hx hb hown (hts (.constant RX9 70 (-100002)) (by decide +kernel)) dX9_rule_40 ?_
        have hP9 := hP.sub (ws' := []) [] rfl
        have hD9 := hD.sub (ws' := []) [] (by decide) rfl
        have hK9 := hK.sub (tys' := []) [] rfl
        refine W.widen (k := 0) (n := 0) (by omega) (by omega) ?_
        exact W.iret (v := (-100002)) hx hb hr (fun t ht hW => ⟨⟨_, (), rfl, (by first | exact (an_rule_n (no_01 q_4).1 (no_01 q_4).2).symm | exact (if_pos q_34).symm | exact (if_neg q_34).symm), by rw [ht]; exact hP9, va_K.moved hW.alike hK9, hD9⟩, hS.F ht⟩) hS.2.2 dX9_rule_42
  · have q_4 := mt (w64 0 1 p1 (by decide) (by decide)).mpr q_4
    refine lv_if_eq (tgt := 40) hx hb dX9_rule_7 (by decide) (fun _ => ?_) (fun h9 => absurd h9 (by decide))
    refine lv_ldc hx hb hown (hts (.constant RX9 70 (-100002)) (by decide +kernel)) dX9_rule_40 ?_
    have hP9 := hP.sub (ws' := []) [] rfl
    have hD9 := hD.sub (ws' := []) [] (by decide) rfl
    have hK9 := hK.sub (tys' := []) [] rfl
    refine W.widen (k := 0) (n := 0) (by omega) (by omega) ?_
    exact W.iret (v := (-100002)) hx hb hr (fun t ht hW => ⟨⟨_, (), rfl, (by first | exact (an_rule_n (no_01 q_4).1 (no_01 q_4).2).symm | exact (if_pos q_34).symm | exact (if_neg q_34).symm), by rw [ht]; exact hP9, va_K.moved hW.alike hK9, hD9⟩, hS.F ht⟩) hS.2.2 dX9_rule_42
def wk_X9_dot : List Cond := .code yX9_dot cX9_dot 5 (some .int) :: ([.constantLong RX9 62 39, .methodLink RX9 55 yX9_in, .static yX9_in, .initialized RX9, .code yX9_in cX9_in 6 (some .boolean), .methodLink RX9 64 yX9_isPlace, .static yX9_isPlace, .code yX9_isPlace cX9_isPlace 3 (some .boolean), .constantLong RX9 51 (-5000), .constantLong RX9 53 5000, .fieldLink RX9 109 "MeetingsAboveModel" "dots" "I", .fieldLink RX9 33 "MeetingsAboveModel" "dotSteps" "[I", .fieldLink RX9 36 "MeetingsAboveModel" "dotSpots" "[I", .constant RX9 70 (-100002)] ++ wsX90)
theorem in_X9_dot_X9 : ∀ w ∈ wsX90, w ∈ wk_X9_dot := fun _ h => List.mem_cons_of_mem _ (List.mem_append_right _ h)
set_option maxRecDepth 20000 in
theorem g_X9_dot__X9_in_55 : GoodIn wk_X9_dot (va_wsS RX9 55 yX9_in wk_X9_in) := goodIn_r _ [2, 3, 4, 5] (by decide +kernel) (by decide +kernel)
set_option maxRecDepth 20000 in
theorem g_X9_dot__X9_isPlace_64 : GoodIn wk_X9_dot (va_wsS RX9 64 yX9_isPlace wk_X9_isPlace) := goodIn_r _ [6, 7, 4, 8, 9, 10, 2, 3, 4, 5] (by decide +kernel) (by decide +kernel)
set_option maxHeartbeats 4000000 in
set_option maxRecDepth 100000 in
theorem c_X9_dot (l : Launch) (dC : Nat → ClassId) (dI : Nat → Nat → Nat) (h0 : Nat) (a1 : Nat) (a2 : Nat) (a3 : Nat) (a4 : Nat) (a5 : Nat) (a6 : Nat) (a7 : Nat) (a8 : Nat) (a9 : Nat) (a10 : Nat) (a11 : Nat) (k6 : ClassId) (k7 : ClassId) (p1 : Int32) (p2 : Int32) (p3 : Int32) (p4 : Int32) (sz : Nat) : Met l yX9_dot wk_X9_dot ({ frames := 2, cells := 0, slots := 0, locals := 47 }) (va_Pc [.ref h0, .int p1, .int p2, .int p3, .int p4] (fun U => U.heap.size = sz ∧ va_P (dC, dI) vwCl [(h0, .inr (9, [.int 0, .ref a1, .ref a2, .ref a3, .ref a4, .ref a5, .int 50, .int 20, .int 0, .ref a6, .ref a7, .int 0, .ref a8, .int 0, .ref a9, .ref a10, .long 0, .long 0, .int 0, .long 0, .long 0, .ref a11])), (a6, .inl (k6, 40, .inl (fun _ => 0))), (a7, .inl (k7, 120, .inl (fun _ => 0)))] U.heap ∧ va_K (dC, dI) vwCl [(k6, .int), (k7, .int)] U ∧ va_D (fun _ => True) [(h0, .inr (9, [.int 0, .ref a1, .ref a2, .ref a3, .ref a4, .ref a5, .int 50, .int 20, .int 0, .ref a6, .ref a7, .int 0, .ref a8, .int 0, .ref a9, .ref a10, .long 0, .long 0, .int 0, .long 0, .long 0, .ref a11])), (a6, .inl (k6, 40, .inl (fun _ => 0))), (a7, .inl (k7, 120, .inl (fun _ => 0)))])) (va_Qi (fun (r : Int32) (_ : Unit) => r = an_dot p1 p2 p3 p4) (fun (_ : Unit) (t : State) => va_P (dC, dI) vwCl [] t.heap ∧ va_K (dC, dI) vwCl [] t ∧ va_D (va_A [(h0, .inr (9, [.int 0, .ref a1, .ref a2, .ref a3, .ref a4, .ref a5, .int 50, .int 20, .int 0, .ref a6, .ref a7, .int 0, .ref a8, .int 0, .ref a9, .ref a10, .long 0, .long 0, .int 0, .long 0, .long 0, .ref a11])), (a6, .inl (k6, 40, .inl (fun _ => 0))), (a7, .inl (k7, 120, .inl (fun _ => 0)))] sz) []) (va_A [(h0, .inr (9, [.int 0, .ref a1, .ref a2, .ref a3, .ref a4, .ref a5, .int 50, .int 20, .int 0, .ref a6, .ref a7, .int 0, .ref a8, .int 0, .ref a9, .ref a10, .long 0, .long 0, .int 0, .long 0, .long 0, .ref a11])), (a6, .inl (k6, 40, .inl (fun _ => 0))), (a7, .inl (k7, 120, .inl (fun _ => 0)))] sz)) 0 0 (va_A [(h0, .inr (9, [.int 0, .ref a1, .ref a2, .ref a3, .ref a4, .ref a5, .int 50, .int 20, .int 0, .ref a6, .ref a7, .int 0, .ref a8, .int 0, .ref a9, .ref a10, .long 0, .long 0, .int 0, .long 0, .long 0, .ref a11])), (a6, .inl (k6, 40, .inl (fun _ => 0))), (a7, .inl (k7, 120, .inl (fun _ => 0)))] sz) := by
  refine Met.ofW (cc := cX9_dot) (maxL := 5) (ret := (some .int)) (by decide) rfl ?_
  intro p e s m args below meth c s₁ B hml hv
  obtain ⟨rfl, hsz, hP, hK, hD0⟩ := hv
  have hx := B.exec
  have hb := B.bytes
  have hr := B.returns
  have hts := atoms_spec (ws := wk_X9_dot) B.pre
  have hown : s.vm.findClass RX9 = some m.cls := findClass_of_methodNamed B.named
  have hlocks := B.notSynchronized
  subst hsz
  have hD := hD0.self (sz := s.heap.size)
  generalize hAe : va_A [(h0, .inr (9, [.int 0, .ref a1, .ref a2, .ref a3, .ref a4, .ref a5, .int 50, .int 20, .int 0, .ref a6, .ref a7, .int 0, .ref a8, .int 0, .ref a9, .ref a10, .long 0, .long 0, .int 0, .long 0, .long 0, .ref a11])), (a6, .inl (k6, 40, .inl (fun _ => 0))), (a7, .inl (k7, 120, .inl (fun _ => 0)))] s.heap.size = A at hD ⊢
  have hA : ∀ q : Nat, s.heap.size ≤ q → A q := fun q h => by rw [← hAe]; exact Or.inr h
  have hS : va_S A s.heap s.heap [] := va_S.rf
  have hP : va_P (dC, dI) vwCl [(h0, .inr (9, [.int 0, .ref a1, .ref a2, .ref a3, .ref a4, .ref a5, .int 50, .int 20, .int 0, .ref a6, .ref a7, .int 0, .ref a8, .int 0, .ref a9, .ref a10, .long 0, .long 0, .int 0, .long 0, .long 0, .ref a11])), (a6, .inl (k6, 40, .inl (fun _ => 0))), (a7, .inl (k7, 120, .inl (fun _ => 0)))] s.heap := hP
  have hl := lv_entry ([.ref h0, .int p1, .int p2, .int p3, .int p4]) (n := 5) (Nat.le_of_ble_eq_true rfl)
  rw [lg_entry_eq]
  generalize (lg_sl ([.ref h0, .int p1, .int p2, .int p3, .int p4]) ++ List.replicate (5 - (lg_sl ([.ref h0, .int p1, .int p2, .int p3, .int p4])).length) Slot.unset).toArray = ls at hl ⊢
  have hl : lv_has ls 5 [(0, .ref h0), (1, .int p1), (2, .int p2), (3, .int p3), (4, .int p4)] := hl
  refine lv_iload_n hx hb dX9_dot_0 rfl (lv_at hl 1 rfl) ?_
  refine lv_i2l hx hb dX9_dot_1 rfl ?_
  refine lv_lconst (v := 0) hx hb dX9_dot_2 (by decide) ?_
  refine lv_ldc2 hx hb hown (hts (.constantLong RX9 62 39) (by decide +kernel)) dX9_dot_3 ?_
  refine vp_callSi (W.runS (As := [.long p1.toInt64, .long 0, .long 39]) (rest := []) ⟨hx, hb, hml, hown, hts⟩ (c_X9_in l dC dI p1.toInt64 0 39) (va_cwS 3 hts g_X9_dot__X9_in_55 rfl rfl rfl (by decide +kernel) ⟨Nat.le_of_ble_eq_true rfl, Nat.le_of_ble_eq_true rfl⟩) ⟨fun a U g mk q => by obtain ⟨q0, q1⟩ := q; exact ⟨q0, q1⟩, fun U hU hW => ⟨rfl, trivial⟩⟩ rfl rfl hl.1 rfl (lv_room (Nat.le_of_ble_eq_true rfl)) dX9_dot_6 ⟨Nat.le_of_ble_eq_true rfl, Nat.le_of_ble_eq_true rfl⟩) (fun r_1 hr_1 => ?_)
  try dsimp only at hr_1
  rcases bo_split hr_1 with ⟨rfl, q_6⟩ | ⟨rfl, q_6⟩
  · have q_6 := (w64 0 39 p1 (by decide) (by decide)).mp q_6
    refine lv_if_eq (tgt := 22) hx hb dX9_dot_9 (by decide) (fun h9 => absurd h9 (by decide)) (fun _ => ?_)
    refine lv_iload_n hx hb dX9_dot_12 rfl (lv_at hl 2 rfl) ?_
    refine lv_iload_n hx hb dX9_dot_13 rfl (lv_at hl 3 rfl) ?_
    refine lv_iload hx hb dX9_dot_14 (lv_at hl 4 rfl) ?_
    refine vp_callSi (W.runS (As := [.int p2, .int p3, .int p4]) (rest := []) ⟨hx, hb, hml, hown, hts⟩ (c_X9_isPlace l dC dI p2 p3 p4) (va_cwS 3 hts g_X9_dot__X9_isPlace_64 rfl rfl rfl (by decide +kernel) ⟨Nat.le_of_ble_eq_true rfl, Nat.le_of_ble_eq_true rfl⟩) ⟨fun a U g mk q => by obtain ⟨q0, q1⟩ := q; exact ⟨q0, q1⟩, fun U hU hW => ⟨rfl, trivial⟩⟩ rfl rfl hl.1 rfl (lv_room (Nat.le_of_ble_eq_true rfl)) dX9_dot_16 ⟨Nat.le_of_ble_eq_true rfl, Nat.le_of_ble_eq_true rfl⟩) (fun r_2 hr_2 => ?_)
    try dsimp only at hr_2
    rcases bo_split hr_2 with ⟨rfl, q_16⟩ | ⟨rfl, q_16⟩
    · refine lv_if_ne (tgt := 25) hx hb dX9_dot_19 (by decide) (fun _ => ?_) (fun h9 => absurd h9 (by decide))
      refine lv_aload_n hx hb dX9_dot_25 rfl (lv_at hl 0 rfl) ?_
      refine va_get (D := (dC, dI)) (ci := 9) (v := .int 0) (C := RX9) (T := TX9) (N := 22) hx hb hts in_X9_dot_X9 hown hK hP 0 rfl rfl 8 (by decide) (hts (.fieldLink RX9 109 "MeetingsAboveModel" "dots" "I") (by decide +kernel)) (fun _ h9 => h9) rfl dX9_dot_26 ?_
      refine lv_bipush (v := 40) hx hb dX9_dot_29 (by decide) ?_
      refine lv_icmp_ne (tgt := 37) hx hb dX9_dot_31 (by decide) (fun _ => ?_) (fun h9 => absurd h9 (by decide))
      refine lv_aload_n hx hb dX9_dot_37 rfl (lv_at hl 0 rfl) ?_
      refine va_get (D := (dC, dI)) (ci := 9) (v := .ref a6) (C := RX9) (T := TX9) (N := 22) hx hb hts in_X9_dot_X9 hown hK hP 0 rfl rfl 9 (by decide) (hts (.fieldLink RX9 33 "MeetingsAboveModel" "dotSteps" "[I") (by decide +kernel)) (fun _ h9 => h9) rfl dX9_dot_38 ?_
      refine lv_aload_n hx hb dX9_dot_41 rfl (lv_at hl 0 rfl) ?_
      refine va_get (D := (dC, dI)) (ci := 9) (v := .int 0) (C := RX9) (T := TX9) (N := 22) hx hb hts in_X9_dot_X9 hown hK hP 0 rfl rfl 8 (by decide) (hts (.fieldLink RX9 109 "MeetingsAboveModel" "dots" "I") (by decide +kernel)) (fun _ h9 => h9) rfl dX9_dot_42 ?_
      refine lv_iload_n hx hb dX9_dot_45 rfl (lv_at hl 1 rfl) ?_
      refine va_iast hx hb hK hP hD hS 1 0 rfl rfl (by unfold vp_in; decide) dX9_dot_46 (fun H locs hP hD hS => ?_)
      have hP : va_P (dC, dI) vwCl [(h0, .inr (9, [.int 0, .ref a1, .ref a2, .ref a3, .ref a4, .ref a5, .int 50, .int 20, .int 0, .ref a6, .ref a7, .int 0, .ref a8, .int 0, .ref a9, .ref a10, .long 0, .long 0, .int 0, .long 0, .long 0, .ref a11])), (a6, .inl (k6, 40, .inl (upd (fun _ => 0) (0 : Int32).toNatClampNeg p1))), (a7, .inl (k7, 120, .inl (fun _ => 0)))] H := hP
      have hD : va_D A [(h0, .inr (9, [.int 0, .ref a1, .ref a2, .ref a3, .ref a4, .ref a5, .int 50, .int 20, .int 0, .ref a6, .ref a7, .int 0, .ref a8, .int 0, .ref a9, .ref a10, .long 0, .long 0, .int 0, .long 0, .long 0, .ref a11])), (a6, .inl (k6, 40, .inl (upd (fun _ => 0) (0 : Int32).toNatClampNeg p1))), (a7, .inl (k7, 120, .inl (fun _ => 0)))] := hD
      refine lv_aload_n hx hb dX9_dot_47 rfl (lv_at hl 0 rfl) ?_
      refine va_get (D := (dC, dI)) (ci := 9) (v := .ref a7) (C := RX9) (T := TX9) (N := 22) hx hb hts in_X9_dot_X9 hown hK hP 0 rfl rfl 10 (by decide) (hts (.fieldLink RX9 36 "MeetingsAboveModel" "dotSpots" "[I") (by decide +kernel)) (fun _ h9 => h9) rfl dX9_dot_48 ?_
      refine lv_iconst (v := 3) hx hb dX9_dot_51 (by decide) ?_
      refine lv_aload_n hx hb dX9_dot_52 rfl (lv_at hl 0 rfl) ?_
      refine va_get (D := (dC, dI)) (ci := 9) (v := .int 0) (C := RX9) (T := TX9) (N := 22) hx hb hts in_X9_dot_X9 hown hK hP 0 rfl rfl 8 (by decide) (hts (.fieldLink RX9 109 "MeetingsAboveModel" "dots" "I") (by decide +kernel)) (fun _ h9 => h9) rfl dX9_dot_53 ?_
      refine lv_imul hx hb dX9_dot_56 ?_
      refine lv_topi (fun y_3 ey_3 => ?_)
      obtain rfl : y_3 = 0 := ey_3.trans (by decide)
      refine lv_iload_n hx hb dX9_dot_57 rfl (lv_at hl 2 rfl) ?_
      refine va_iast hx hb hK hP hD hS 2 1 rfl rfl (by unfold vp_in; decide) dX9_dot_58 (fun H locs hP hD hS => ?_)
      have hP : va_P (dC, dI) vwCl [(h0, .inr (9, [.int 0, .ref a1, .ref a2, .ref a3, .ref a4, .ref a5, .int 50, .int 20, .int 0, .ref a6, .ref a7, .int 0, .ref a8, .int 0, .ref a9, .ref a10, .long 0, .long 0, .int 0, .long 0, .long 0, .ref a11])), (a6, .inl (k6, 40, .inl (upd (fun _ => 0) (0 : Int32).toNatClampNeg p1))), (a7, .inl (k7, 120, .inl (upd (fun _ => 0) (0 : Int32).toNatClampNeg p2)))] H := hP
      have hD : va_D A [(h0, .inr (9, [.int 0, .ref a1, .ref a2, .ref a3, .ref a4, .ref a5, .int 50, .int 20, .int 0, .ref a6, .ref a7, .int 0, .ref a8, .int 0, .ref a9, .ref a10, .long 0, .long 0, .int 0, .long 0, .long 0, .ref a11])), (a6, .inl (k6, 40, .inl (upd (fun _ => 0) (0 : Int32).toNatClampNeg p1))), (a7, .inl (k7, 120, .inl (upd (fun _ => 0) (0 : Int32).toNatClampNeg p2)))] := hD
      refine lv_aload_n hx hb dX9_dot_59 rfl (lv_at hl 0 rfl) ?_
      refine va_get (D := (dC, dI)) (ci := 9) (v := .ref a7) (C := RX9) (T := TX9) (N := 22) hx hb hts in_X9_dot_X9 hown hK hP 0 rfl rfl 10 (by decide) (hts (.fieldLink RX9 36 "MeetingsAboveModel" "dotSpots" "[I") (by decide +kernel)) (fun _ h9 => h9) rfl dX9_dot_60 ?_
      refine lv_iconst (v := 3) hx hb dX9_dot_63 (by decide) ?_
      refine lv_aload_n hx hb dX9_dot_64 rfl (lv_at hl 0 rfl) ?_
      refine va_get (D := (dC, dI)) (ci := 9) (v := .int 0) (C := RX9) (T := TX9) (N := 22) hx hb hts in_X9_dot_X9 hown hK hP 0 rfl rfl 8 (by decide) (hts (.fieldLink RX9 109 "MeetingsAboveModel" "dots" "I") (by decide +kernel)) (fun _ h9 => h9) rfl dX9_dot_65 ?_
      refine lv_imul hx hb dX9_dot_68 ?_
      refine lv_topi (fun y_4 ey_4 => ?_)
      obtain rfl : y_4 = 0 := ey_4.trans (by decide)
      refine lv_iconst (v := 1) hx hb dX9_dot_69 (by decide) ?_
      refine lv_iadd hx hb dX9_dot_70 ?_
      refine lv_topi (fun y_5 ey_5 => ?_)
      obtain rfl : y_5 = 1 := ey_5.trans (by decide)
      refine lv_iload_n hx hb dX9_dot_71 rfl (lv_at hl 3 rfl) ?_
      refine va_iast hx hb hK hP hD hS 2 1 rfl rfl (by unfold vp_in; decide) dX9_dot_72 (fun H locs hP hD hS => ?_)
      have hP : va_P (dC, dI) vwCl [(h0, .inr (9, [.int 0, .ref a1, .ref a2, .ref a3, .ref a4, .ref a5, .int 50, .int 20, .int 0, .ref a6, .ref a7, .int 0, .ref a8, .int 0, .ref a9, .ref a10, .long 0, .long 0, .int 0, .long 0, .long 0, .ref a11])), (a6, .inl (k6, 40, .inl (upd (fun _ => 0) (0 : Int32).toNatClampNeg p1))), (a7, .inl (k7, 120, .inl (upd (upd (fun _ => 0) (0 : Int32).toNatClampNeg p2) (1 : Int32).toNatClampNeg p3)))] H := hP
      have hD : va_D A [(h0, .inr (9, [.int 0, .ref a1, .ref a2, .ref a3, .ref a4, .ref a5, .int 50, .int 20, .int 0, .ref a6, .ref a7, .int 0, .ref a8, .int 0, .ref a9, .ref a10, .long 0, .long 0, .int 0, .long 0, .long 0, .ref a11])), (a6, .inl (k6, 40, .inl (upd (fun _ => 0) (0 : Int32).toNatClampNeg p1))), (a7, .inl (k7, 120, .inl (upd (upd (fun _ => 0) (0 : Int32).toNatClampNeg p2) (1 : Int32).toNatClampNeg p3)))] := hD
      refine lv_aload_n hx hb dX9_dot_73 rfl (lv_at hl 0 rfl) ?_
      refine va_get (D := (dC, dI)) (ci := 9) (v := .ref a7) (C := RX9) (T := TX9) (N := 22) hx hb hts in_X9_dot_X9 hown hK hP 0 rfl rfl 10 (by decide) (hts (.fieldLink RX9 36 "MeetingsAboveModel" "dotSpots" "[I") (by decide +kernel)) (fun _ h9 => h9) rfl dX9_dot_74 ?_
      refine lv_iconst (v := 3) hx hb dX9_dot_77 (by decide) ?_
      refine lv_aload_n hx hb dX9_dot_78 rfl (lv_at hl 0 rfl) ?_
      refine va_get (D := (dC, dI)) (ci := 9) (v := .int 0) (C := RX9) (T := TX9) (N := 22) hx hb hts in_X9_dot_X9 hown hK hP 0 rfl rfl 8 (by decide) (hts (.fieldLink RX9 109 "MeetingsAboveModel" "dots" "I") (by decide +kernel)) (fun _ h9 => h9) rfl dX9_dot_79 ?_
      refine lv_imul hx hb dX9_dot_82 ?_
      refine lv_topi (fun y_6 ey_6 => ?_)
      obtain rfl : y_6 = 0 := ey_6.trans (by decide)
      refine lv_iconst (v := 2) hx hb dX9_dot_83 (by decide) ?_
      refine lv_iadd hx hb dX9_dot_84 ?_
      refine lv_topi (fun y_7 ey_7 => ?_)
      obtain rfl : y_7 = 2 := ey_7.trans (by decide)
      refine lv_iload hx hb dX9_dot_85 (lv_at hl 4 rfl) ?_
      refine va_iast hx hb hK hP hD hS 2 1 rfl rfl (by unfold vp_in; decide) dX9_dot_87 (fun H locs hP hD hS => ?_)
      have hP : va_P (dC, dI) vwCl [(h0, .inr (9, [.int 0, .ref a1, .ref a2, .ref a3, .ref a4, .ref a5, .int 50, .int 20, .int 0, .ref a6, .ref a7, .int 0, .ref a8, .int 0, .ref a9, .ref a10, .long 0, .long 0, .int 0, .long 0, .long 0, .ref a11])), (a6, .inl (k6, 40, .inl (upd (fun _ => 0) (0 : Int32).toNatClampNeg p1))), (a7, .inl (k7, 120, .inl (upd (upd (upd (fun _ => 0) (0 : Int32).toNatClampNeg p2) (1 : Int32).toNatClampNeg p3) (2 : Int32).toNatClampNeg p4)))] H := hP
      have hD : va_D A [(h0, .inr (9, [.int 0, .ref a1, .ref a2, .ref a3, .ref a4, .ref a5, .int 50, .int 20, .int 0, .ref a6, .ref a7, .int 0, .ref a8, .int 0, .ref a9, .ref a10, .long 0, .long 0, .int 0, .long 0, .long 0, .ref a11])), (a6, .inl (k6, 40, .inl (upd (fun _ => 0) (0 : Int32).toNatClampNeg p1))), (a7, .inl (k7, 120, .inl (upd (upd (upd (fun _ => 0) (0 : Int32).toNatClampNeg p2) (1 : Int32).toNatClampNeg p3) (2 : Int32).toNatClampNeg p4)))] := hD
      refine lv_aload_n hx hb dX9_dot_88 rfl (lv_at hl 0 rfl) ?_
      refine lv_dup hx hb dX9_dot_89 rfl ?_
      refine va_get (D := (dC, dI)) (ci := 9) (v := .int 0) (C := RX9) (T := TX9) (N := 22) hx hb hts in_X9_dot_X9 hown hK hP 0 rfl rfl 8 (by decide) (hts (.fieldLink RX9 109 "MeetingsAboveModel" "dots" "I") (by decide +kernel)) (fun _ h9 => h9) rfl dX9_dot_90 ?_
      refine lv_iconst (v := 1) hx hb dX9_dot_93 (by decide) ?_
      refine lv_iadd hx hb dX9_dot_94 ?_
      refine lv_topi (fun y_8 ey_8 => ?_)
      obtain rfl : y_8 = 1 := ey_8.trans (by decide)
      refine va_put (D := (dC, dI)) (ci := 9) (v := .int 1) (ty := .int) (C := RX9) (T := TX9) (N := 22) hx hb hts in_X9_dot_X9 tyX9 tyX9_ok nmX9 hown hK hP hD hS 0 rfl rfl 8 (by decide) (hts (.fieldLink RX9 109 "MeetingsAboveModel" "dots" "I") (by decide +kernel)) (fun _ h9 => h9) rfl (by decide +kernel) rfl rfl (Nat.le_of_ble_eq_true rfl) dX9_dot_95 (fun H locs hP hD hS => ?_)
      have hP : va_P (dC, dI) vwCl [(h0, .inr (9, [.int 0, .ref a1, .ref a2, .ref a3, .ref a4, .ref a5, .int 50, .int 20, .int 1, .ref a6, .ref a7, .int 0, .ref a8, .int 0, .ref a9, .ref a10, .long 0, .long 0, .int 0, .long 0, .long 0, .ref a11])), (a6, .inl (k6, 40, .inl (upd (fun _ => 0) (0 : Int32).toNatClampNeg p1))), (a7, .inl (k7, 120, .inl (upd (upd (upd (fun _ => 0) (0 : Int32).toNatClampNeg p2) (1 : Int32).toNatClampNeg p3) (2 : Int32).toNatClampNeg p4)))] H := hP
      have hD : va_D A [(h0, .inr (9, [.int 0, .ref a1, .ref a2, .ref a3, .ref a4, .ref a5, .int 50, .int 20, .int 1, .ref a6, .ref a7, .int 0, .ref a8, .int 0, .ref a9, .ref a10, .long 0, .long 0, .int 0, .long 0, .long 0, .ref a11])), (a6, .inl (k6, 40, .inl (upd (fun _ => 0) (0 : Int32).toNatClampNeg p1))), (a7, .inl (k7, 120, .inl (upd (upd (upd (fun _ => 0) (0 : Int32).toNatClampNeg p2) (1 : Int32).toNatClampNeg p3) (2 : Int32).toNatClampNeg p4)))] := hD
      refine lv_aload_n hx hb dX9_dot_98 rfl (lv_at hl 0 rfl) ?_
      refine va_get (D := (dC, dI)) (ci := 9) (v := .int 1) (C := RX9) (T := TX9) (N := 22) hx hb hts in_X9_dot_X9 hown hK hP 0 rfl rfl 8 (by decide) (hts (.fieldLink RX9 109 "MeetingsAboveModel" "dots" "I") (by decide +kernel)) (fun _ h9 => h9) rfl dX9_dot_99 ?_
      refine lv_iconst (v := 1) hx hb dX9_dot_102 (by decide) ?_
      refine lv_isub hx hb dX9_dot_103 ?_
      refine lv_topi (fun y_9 ey_9 => ?_)
      obtain rfl : y_9 = 0 := ey_9.trans (by decide)
      have hP9 := hP.sub (ws' := []) [] rfl
      have hD9 := hD.sub (ws' := []) [] (by decide) rfl
      have hK9 := hK.sub (tys' := []) [] rfl
      refine W.widen (k := 0) (n := 0) (by omega) (by omega) ?_
      exact W.iret (v := 0) hx hb hr (fun t ht hW => ⟨⟨_, (), rfl, (by first | exact (an_dot_ok q_6 q_16).symm | exact (an_dot_1 q_6).symm | exact (an_dot_2 q_16).symm), by rw [ht]; exact hP9, va_K.moved hW.alike hK9, hD9⟩, hS.F ht⟩) hS.2.2 dX9_dot_104
    · refine lv_if_ne (tgt := 25) hx hb dX9_dot_19 (by decide) (fun h9 => absurd h9 (by decide)) (fun _ => ?_)
      refine lv_ldc hx hb hown (hts (.constant RX9 70 (-100002)) (by decide +kernel)) dX9_dot_22 ?_
      have hP9 := hP.sub (ws' := []) [] rfl
      have hD9 := hD.sub (ws' := []) [] (by decide) rfl
      have hK9 := hK.sub (tys' := []) [] rfl
      refine W.widen (k := 0) (n := 0) (by omega) (by omega) ?_
      exact W.iret (v := (-100002)) hx hb hr (fun t ht hW => ⟨⟨_, (), rfl, (by first | exact (an_dot_ok q_6 q_16).symm | exact (an_dot_1 q_6).symm | exact (an_dot_2 q_16).symm), by rw [ht]; exact hP9, va_K.moved hW.alike hK9, hD9⟩, hS.F ht⟩) hS.2.2 dX9_dot_24
  · have q_6 := mt (w64 0 39 p1 (by decide) (by decide)).mpr q_6
    refine lv_if_eq (tgt := 22) hx hb dX9_dot_9 (by decide) (fun _ => ?_) (fun h9 => absurd h9 (by decide))
    refine lv_ldc hx hb hown (hts (.constant RX9 70 (-100002)) (by decide +kernel)) dX9_dot_22 ?_
    have hP9 := hP.sub (ws' := []) [] rfl
    have hD9 := hD.sub (ws' := []) [] (by decide) rfl
    have hK9 := hK.sub (tys' := []) [] rfl
    refine W.widen (k := 0) (n := 0) (by omega) (by omega) ?_
    exact W.iret (v := (-100002)) hx hb hr (fun t ht hW => ⟨⟨_, (), rfl, (by first | exact (an_dot_ok q_6 q_16).symm | exact (an_dot_1 q_6).symm | exact (an_dot_2 q_16).symm), by rw [ht]; exact hP9, va_K.moved hW.alike hK9, hD9⟩, hS.F ht⟩) hS.2.2 dX9_dot_24
def wk_X9_fresh : List Cond := .code yX9_fresh cX9_fresh 3 (some .int) :: ([.fieldLink RX9 7 "MeetingsAboveModel" "firsts" "[I", .fieldLink RX9 59 "MeetingsAboveModel" "things" "I", .fieldLink RX9 13 "MeetingsAboveModel" "many" "[I", .fieldLink RX9 16 "MeetingsAboveModel" "doubts" "[I", .fieldLink RX9 19 "MeetingsAboveModel" "isGone" "[Z"] ++ wsX90)
theorem in_X9_fresh_X9 : ∀ w ∈ wsX90, w ∈ wk_X9_fresh := fun _ h => List.mem_cons_of_mem _ (List.mem_append_right _ h)
set_option maxHeartbeats 4000000 in
set_option maxRecDepth 100000 in
theorem c_X9_fresh (l : Launch) (dC : Nat → ClassId) (dI : Nat → Nat → Nat) (h0 : Nat) (a1 : Nat) (a2 : Nat) (a3 : Nat) (a4 : Nat) (a5 : Nat) (a6 : Nat) (a7 : Nat) (a8 : Nat) (a9 : Nat) (a10 : Nat) (a11 : Nat) (k1 : ClassId) (k2 : ClassId) (k3 : ClassId) (k4 : ClassId) (p1 : Int32) (p2 : Int32) (sz : Nat) : Met l yX9_fresh wk_X9_fresh ({ frames := 0, cells := 0, slots := 0, locals := 0 }) (va_Pc [.ref h0, .int p1, .int p2] (fun U => U.heap.size = sz ∧ va_P (dC, dI) vwCl [(h0, .inr (9, [.int 0, .ref a1, .ref a2, .ref a3, .ref a4, .ref a5, .int 50, .int 20, .int 0, .ref a6, .ref a7, .int 0, .ref a8, .int 0, .ref a9, .ref a10, .long 0, .long 0, .int 0, .long 0, .long 0, .ref a11])), (a1, .inl (k1, 16, .inl (fun _ => 0))), (a2, .inl (k2, 16, .inl (fun _ => 0))), (a3, .inl (k3, 16, .inl (fun _ => 0))), (a4, .inl (k4, 16, .inl (fun _ => 0)))] U.heap ∧ va_K (dC, dI) vwCl [(k1, .int), (k2, .int), (k3, .int), (k4, .boolean)] U ∧ va_D (fun _ => True) [(h0, .inr (9, [.int 0, .ref a1, .ref a2, .ref a3, .ref a4, .ref a5, .int 50, .int 20, .int 0, .ref a6, .ref a7, .int 0, .ref a8, .int 0, .ref a9, .ref a10, .long 0, .long 0, .int 0, .long 0, .long 0, .ref a11])), (a1, .inl (k1, 16, .inl (fun _ => 0))), (a2, .inl (k2, 16, .inl (fun _ => 0))), (a3, .inl (k3, 16, .inl (fun _ => 0))), (a4, .inl (k4, 16, .inl (fun _ => 0)))])) (va_Qi (fun (r : Int32) (_ : Unit) => r = 0) (fun (_ : Unit) (t : State) => va_P (dC, dI) vwCl [(h0, .inr (9, [.int 1, .ref a1, .ref a2, .ref a3, .ref a4, .ref a5, .int 50, .int 20, .int 0, .ref a6, .ref a7, .int 0, .ref a8, .int 0, .ref a9, .ref a10, .long 0, .long 0, .int 0, .long 0, .long 0, .ref a11])), (a2, .inl (k2, 16, .inl (upd (fun _ => 0) (0 : Int32).toNatClampNeg 0)))] t.heap ∧ va_K (dC, dI) vwCl [(k2, .int)] t ∧ va_D (va_A [(h0, .inr (9, [.int 0, .ref a1, .ref a2, .ref a3, .ref a4, .ref a5, .int 50, .int 20, .int 0, .ref a6, .ref a7, .int 0, .ref a8, .int 0, .ref a9, .ref a10, .long 0, .long 0, .int 0, .long 0, .long 0, .ref a11])), (a1, .inl (k1, 16, .inl (fun _ => 0))), (a2, .inl (k2, 16, .inl (fun _ => 0))), (a3, .inl (k3, 16, .inl (fun _ => 0))), (a4, .inl (k4, 16, .inl (fun _ => 0)))] sz) [(h0, .inr (9, [.int 1, .ref a1, .ref a2, .ref a3, .ref a4, .ref a5, .int 50, .int 20, .int 0, .ref a6, .ref a7, .int 0, .ref a8, .int 0, .ref a9, .ref a10, .long 0, .long 0, .int 0, .long 0, .long 0, .ref a11])), (a2, .inl (k2, 16, .inl (upd (fun _ => 0) (0 : Int32).toNatClampNeg 0)))]) (va_A [(h0, .inr (9, [.int 0, .ref a1, .ref a2, .ref a3, .ref a4, .ref a5, .int 50, .int 20, .int 0, .ref a6, .ref a7, .int 0, .ref a8, .int 0, .ref a9, .ref a10, .long 0, .long 0, .int 0, .long 0, .long 0, .ref a11])), (a1, .inl (k1, 16, .inl (fun _ => 0))), (a2, .inl (k2, 16, .inl (fun _ => 0))), (a3, .inl (k3, 16, .inl (fun _ => 0))), (a4, .inl (k4, 16, .inl (fun _ => 0)))] sz)) 0 0 (va_A [(h0, .inr (9, [.int 0, .ref a1, .ref a2, .ref a3, .ref a4, .ref a5, .int 50, .int 20, .int 0, .ref a6, .ref a7, .int 0, .ref a8, .int 0, .ref a9, .ref a10, .long 0, .long 0, .int 0, .long 0, .long 0, .ref a11])), (a1, .inl (k1, 16, .inl (fun _ => 0))), (a2, .inl (k2, 16, .inl (fun _ => 0))), (a3, .inl (k3, 16, .inl (fun _ => 0))), (a4, .inl (k4, 16, .inl (fun _ => 0)))] sz) := by
  refine Met.ofW (cc := cX9_fresh) (maxL := 3) (ret := (some .int)) (by decide) rfl ?_
  intro p e s m args below meth c s₁ B hml hv
  obtain ⟨rfl, hsz, hP, hK, hD0⟩ := hv
  have hx := B.exec
  have hb := B.bytes
  have hr := B.returns
  have hts := atoms_spec (ws := wk_X9_fresh) B.pre
  have hown : s.vm.findClass RX9 = some m.cls := findClass_of_methodNamed B.named
  have hlocks := B.notSynchronized
  subst hsz
  have hD := hD0.self (sz := s.heap.size)
  generalize hAe : va_A [(h0, .inr (9, [.int 0, .ref a1, .ref a2, .ref a3, .ref a4, .ref a5, .int 50, .int 20, .int 0, .ref a6, .ref a7, .int 0, .ref a8, .int 0, .ref a9, .ref a10, .long 0, .long 0, .int 0, .long 0, .long 0, .ref a11])), (a1, .inl (k1, 16, .inl (fun _ => 0))), (a2, .inl (k2, 16, .inl (fun _ => 0))), (a3, .inl (k3, 16, .inl (fun _ => 0))), (a4, .inl (k4, 16, .inl (fun _ => 0)))] s.heap.size = A at hD ⊢
  have hA : ∀ q : Nat, s.heap.size ≤ q → A q := fun q h => by rw [← hAe]; exact Or.inr h
  have hS : va_S A s.heap s.heap [] := va_S.rf
  have hP : va_P (dC, dI) vwCl [(h0, .inr (9, [.int 0, .ref a1, .ref a2, .ref a3, .ref a4, .ref a5, .int 50, .int 20, .int 0, .ref a6, .ref a7, .int 0, .ref a8, .int 0, .ref a9, .ref a10, .long 0, .long 0, .int 0, .long 0, .long 0, .ref a11])), (a1, .inl (k1, 16, .inl (fun _ => 0))), (a2, .inl (k2, 16, .inl (fun _ => 0))), (a3, .inl (k3, 16, .inl (fun _ => 0))), (a4, .inl (k4, 16, .inl (fun _ => 0)))] s.heap := hP
  have hl := lv_entry ([.ref h0, .int p1, .int p2]) (n := 3) (Nat.le_of_ble_eq_true rfl)
  rw [lg_entry_eq]
  generalize (lg_sl ([.ref h0, .int p1, .int p2]) ++ List.replicate (3 - (lg_sl ([.ref h0, .int p1, .int p2])).length) Slot.unset).toArray = ls at hl ⊢
  have hl : lv_has ls 3 [(0, .ref h0), (1, .int p1), (2, .int p2)] := hl
  refine lv_aload_n hx hb dX9_fresh_0 rfl (lv_at hl 0 rfl) ?_
  refine va_get (D := (dC, dI)) (ci := 9) (v := .ref a1) (C := RX9) (T := TX9) (N := 22) hx hb hts in_X9_fresh_X9 hown hK hP 0 rfl rfl 1 (by decide) (hts (.fieldLink RX9 7 "MeetingsAboveModel" "firsts" "[I") (by decide +kernel)) (fun _ h9 => h9) rfl dX9_fresh_1 ?_
  refine lv_aload_n hx hb dX9_fresh_4 rfl (lv_at hl 0 rfl) ?_
  refine va_get (D := (dC, dI)) (ci := 9) (v := .int 0) (C := RX9) (T := TX9) (N := 22) hx hb hts in_X9_fresh_X9 hown hK hP 0 rfl rfl 0 (by decide) (hts (.fieldLink RX9 59 "MeetingsAboveModel" "things" "I") (by decide +kernel)) (fun _ h9 => h9) rfl dX9_fresh_5 ?_
  refine lv_iload_n hx hb dX9_fresh_8 rfl (lv_at hl 1 rfl) ?_
  refine va_iast hx hb hK hP hD hS 1 0 rfl rfl (by unfold vp_in; decide) dX9_fresh_9 (fun H locs hP hD hS => ?_)
  have hP : va_P (dC, dI) vwCl [(h0, .inr (9, [.int 0, .ref a1, .ref a2, .ref a3, .ref a4, .ref a5, .int 50, .int 20, .int 0, .ref a6, .ref a7, .int 0, .ref a8, .int 0, .ref a9, .ref a10, .long 0, .long 0, .int 0, .long 0, .long 0, .ref a11])), (a1, .inl (k1, 16, .inl (upd (fun _ => 0) (0 : Int32).toNatClampNeg p1))), (a2, .inl (k2, 16, .inl (fun _ => 0))), (a3, .inl (k3, 16, .inl (fun _ => 0))), (a4, .inl (k4, 16, .inl (fun _ => 0)))] H := hP
  have hD : va_D A [(h0, .inr (9, [.int 0, .ref a1, .ref a2, .ref a3, .ref a4, .ref a5, .int 50, .int 20, .int 0, .ref a6, .ref a7, .int 0, .ref a8, .int 0, .ref a9, .ref a10, .long 0, .long 0, .int 0, .long 0, .long 0, .ref a11])), (a1, .inl (k1, 16, .inl (upd (fun _ => 0) (0 : Int32).toNatClampNeg p1))), (a2, .inl (k2, 16, .inl (fun _ => 0))), (a3, .inl (k3, 16, .inl (fun _ => 0))), (a4, .inl (k4, 16, .inl (fun _ => 0)))] := hD
  refine lv_aload_n hx hb dX9_fresh_10 rfl (lv_at hl 0 rfl) ?_
  refine va_get (D := (dC, dI)) (ci := 9) (v := .ref a2) (C := RX9) (T := TX9) (N := 22) hx hb hts in_X9_fresh_X9 hown hK hP 0 rfl rfl 2 (by decide) (hts (.fieldLink RX9 13 "MeetingsAboveModel" "many" "[I") (by decide +kernel)) (fun _ h9 => h9) rfl dX9_fresh_11 ?_
  refine lv_aload_n hx hb dX9_fresh_14 rfl (lv_at hl 0 rfl) ?_
  refine va_get (D := (dC, dI)) (ci := 9) (v := .int 0) (C := RX9) (T := TX9) (N := 22) hx hb hts in_X9_fresh_X9 hown hK hP 0 rfl rfl 0 (by decide) (hts (.fieldLink RX9 59 "MeetingsAboveModel" "things" "I") (by decide +kernel)) (fun _ h9 => h9) rfl dX9_fresh_15 ?_
  refine lv_iconst (v := 0) hx hb dX9_fresh_18 (by decide) ?_
  refine va_iast hx hb hK hP hD hS 2 1 rfl rfl (by unfold vp_in; decide) dX9_fresh_19 (fun H locs hP hD hS => ?_)
  have hP : va_P (dC, dI) vwCl [(h0, .inr (9, [.int 0, .ref a1, .ref a2, .ref a3, .ref a4, .ref a5, .int 50, .int 20, .int 0, .ref a6, .ref a7, .int 0, .ref a8, .int 0, .ref a9, .ref a10, .long 0, .long 0, .int 0, .long 0, .long 0, .ref a11])), (a1, .inl (k1, 16, .inl (upd (fun _ => 0) (0 : Int32).toNatClampNeg p1))), (a2, .inl (k2, 16, .inl (upd (fun _ => 0) (0 : Int32).toNatClampNeg 0))), (a3, .inl (k3, 16, .inl (fun _ => 0))), (a4, .inl (k4, 16, .inl (fun _ => 0)))] H := hP
  have hD : va_D A [(h0, .inr (9, [.int 0, .ref a1, .ref a2, .ref a3, .ref a4, .ref a5, .int 50, .int 20, .int 0, .ref a6, .ref a7, .int 0, .ref a8, .int 0, .ref a9, .ref a10, .long 0, .long 0, .int 0, .long 0, .long 0, .ref a11])), (a1, .inl (k1, 16, .inl (upd (fun _ => 0) (0 : Int32).toNatClampNeg p1))), (a2, .inl (k2, 16, .inl (upd (fun _ => 0) (0 : Int32).toNatClampNeg 0))), (a3, .inl (k3, 16, .inl (fun _ => 0))), (a4, .inl (k4, 16, .inl (fun _ => 0)))] := hD
  refine lv_aload_n hx hb dX9_fresh_20 rfl (lv_at hl 0 rfl) ?_
  refine va_get (D := (dC, dI)) (ci := 9) (v := .ref a3) (C := RX9) (T := TX9) (N := 22) hx hb hts in_X9_fresh_X9 hown hK hP 0 rfl rfl 3 (by decide) (hts (.fieldLink RX9 16 "MeetingsAboveModel" "doubts" "[I") (by decide +kernel)) (fun _ h9 => h9) rfl dX9_fresh_21 ?_
  refine lv_aload_n hx hb dX9_fresh_24 rfl (lv_at hl 0 rfl) ?_
  refine va_get (D := (dC, dI)) (ci := 9) (v := .int 0) (C := RX9) (T := TX9) (N := 22) hx hb hts in_X9_fresh_X9 hown hK hP 0 rfl rfl 0 (by decide) (hts (.fieldLink RX9 59 "MeetingsAboveModel" "things" "I") (by decide +kernel)) (fun _ h9 => h9) rfl dX9_fresh_25 ?_
  refine lv_iload_n hx hb dX9_fresh_28 rfl (lv_at hl 2 rfl) ?_
  refine va_iast hx hb hK hP hD hS 3 2 rfl rfl (by unfold vp_in; decide) dX9_fresh_29 (fun H locs hP hD hS => ?_)
  have hP : va_P (dC, dI) vwCl [(h0, .inr (9, [.int 0, .ref a1, .ref a2, .ref a3, .ref a4, .ref a5, .int 50, .int 20, .int 0, .ref a6, .ref a7, .int 0, .ref a8, .int 0, .ref a9, .ref a10, .long 0, .long 0, .int 0, .long 0, .long 0, .ref a11])), (a1, .inl (k1, 16, .inl (upd (fun _ => 0) (0 : Int32).toNatClampNeg p1))), (a2, .inl (k2, 16, .inl (upd (fun _ => 0) (0 : Int32).toNatClampNeg 0))), (a3, .inl (k3, 16, .inl (upd (fun _ => 0) (0 : Int32).toNatClampNeg p2))), (a4, .inl (k4, 16, .inl (fun _ => 0)))] H := hP
  have hD : va_D A [(h0, .inr (9, [.int 0, .ref a1, .ref a2, .ref a3, .ref a4, .ref a5, .int 50, .int 20, .int 0, .ref a6, .ref a7, .int 0, .ref a8, .int 0, .ref a9, .ref a10, .long 0, .long 0, .int 0, .long 0, .long 0, .ref a11])), (a1, .inl (k1, 16, .inl (upd (fun _ => 0) (0 : Int32).toNatClampNeg p1))), (a2, .inl (k2, 16, .inl (upd (fun _ => 0) (0 : Int32).toNatClampNeg 0))), (a3, .inl (k3, 16, .inl (upd (fun _ => 0) (0 : Int32).toNatClampNeg p2))), (a4, .inl (k4, 16, .inl (fun _ => 0)))] := hD
  refine lv_aload_n hx hb dX9_fresh_30 rfl (lv_at hl 0 rfl) ?_
  refine va_get (D := (dC, dI)) (ci := 9) (v := .ref a4) (C := RX9) (T := TX9) (N := 22) hx hb hts in_X9_fresh_X9 hown hK hP 0 rfl rfl 4 (by decide) (hts (.fieldLink RX9 19 "MeetingsAboveModel" "isGone" "[Z") (by decide +kernel)) (fun _ h9 => h9) rfl dX9_fresh_31 ?_
  refine lv_aload_n hx hb dX9_fresh_34 rfl (lv_at hl 0 rfl) ?_
  refine va_get (D := (dC, dI)) (ci := 9) (v := .int 0) (C := RX9) (T := TX9) (N := 22) hx hb hts in_X9_fresh_X9 hown hK hP 0 rfl rfl 0 (by decide) (hts (.fieldLink RX9 59 "MeetingsAboveModel" "things" "I") (by decide +kernel)) (fun _ h9 => h9) rfl dX9_fresh_35 ?_
  refine lv_iconst (v := 0) hx hb dX9_fresh_38 (by decide) ?_
  refine va_zast hx hb hK hP hD hS 4 3 rfl rfl (by unfold vp_in; decide) dX9_fresh_39 (fun H locs hP hD hS => ?_)
  have hP : va_P (dC, dI) vwCl [(h0, .inr (9, [.int 0, .ref a1, .ref a2, .ref a3, .ref a4, .ref a5, .int 50, .int 20, .int 0, .ref a6, .ref a7, .int 0, .ref a8, .int 0, .ref a9, .ref a10, .long 0, .long 0, .int 0, .long 0, .long 0, .ref a11])), (a1, .inl (k1, 16, .inl (upd (fun _ => 0) (0 : Int32).toNatClampNeg p1))), (a2, .inl (k2, 16, .inl (upd (fun _ => 0) (0 : Int32).toNatClampNeg 0))), (a3, .inl (k3, 16, .inl (upd (fun _ => 0) (0 : Int32).toNatClampNeg p2))), (a4, .inl (k4, 16, .inl (upd (fun _ => 0) (0 : Int32).toNatClampNeg (vp_nar .boolean 0))))] H := hP
  have hD : va_D A [(h0, .inr (9, [.int 0, .ref a1, .ref a2, .ref a3, .ref a4, .ref a5, .int 50, .int 20, .int 0, .ref a6, .ref a7, .int 0, .ref a8, .int 0, .ref a9, .ref a10, .long 0, .long 0, .int 0, .long 0, .long 0, .ref a11])), (a1, .inl (k1, 16, .inl (upd (fun _ => 0) (0 : Int32).toNatClampNeg p1))), (a2, .inl (k2, 16, .inl (upd (fun _ => 0) (0 : Int32).toNatClampNeg 0))), (a3, .inl (k3, 16, .inl (upd (fun _ => 0) (0 : Int32).toNatClampNeg p2))), (a4, .inl (k4, 16, .inl (upd (fun _ => 0) (0 : Int32).toNatClampNeg (vp_nar .boolean 0))))] := hD
  refine lv_aload_n hx hb dX9_fresh_40 rfl (lv_at hl 0 rfl) ?_
  refine lv_dup hx hb dX9_fresh_41 rfl ?_
  refine va_get (D := (dC, dI)) (ci := 9) (v := .int 0) (C := RX9) (T := TX9) (N := 22) hx hb hts in_X9_fresh_X9 hown hK hP 0 rfl rfl 0 (by decide) (hts (.fieldLink RX9 59 "MeetingsAboveModel" "things" "I") (by decide +kernel)) (fun _ h9 => h9) rfl dX9_fresh_42 ?_
  refine lv_iconst (v := 1) hx hb dX9_fresh_45 (by decide) ?_
  refine lv_iadd hx hb dX9_fresh_46 ?_
  refine lv_topi (fun y_1 ey_1 => ?_)
  obtain rfl : y_1 = 1 := ey_1.trans (by decide)
  refine va_put (D := (dC, dI)) (ci := 9) (v := .int 1) (ty := .int) (C := RX9) (T := TX9) (N := 22) hx hb hts in_X9_fresh_X9 tyX9 tyX9_ok nmX9 hown hK hP hD hS 0 rfl rfl 0 (by decide) (hts (.fieldLink RX9 59 "MeetingsAboveModel" "things" "I") (by decide +kernel)) (fun _ h9 => h9) rfl (by decide +kernel) rfl rfl (Nat.le_of_ble_eq_true rfl) dX9_fresh_47 (fun H locs hP hD hS => ?_)
  have hP : va_P (dC, dI) vwCl [(h0, .inr (9, [.int 1, .ref a1, .ref a2, .ref a3, .ref a4, .ref a5, .int 50, .int 20, .int 0, .ref a6, .ref a7, .int 0, .ref a8, .int 0, .ref a9, .ref a10, .long 0, .long 0, .int 0, .long 0, .long 0, .ref a11])), (a1, .inl (k1, 16, .inl (upd (fun _ => 0) (0 : Int32).toNatClampNeg p1))), (a2, .inl (k2, 16, .inl (upd (fun _ => 0) (0 : Int32).toNatClampNeg 0))), (a3, .inl (k3, 16, .inl (upd (fun _ => 0) (0 : Int32).toNatClampNeg p2))), (a4, .inl (k4, 16, .inl (upd (fun _ => 0) (0 : Int32).toNatClampNeg (vp_nar .boolean 0))))] H := hP
  have hD : va_D A [(h0, .inr (9, [.int 1, .ref a1, .ref a2, .ref a3, .ref a4, .ref a5, .int 50, .int 20, .int 0, .ref a6, .ref a7, .int 0, .ref a8, .int 0, .ref a9, .ref a10, .long 0, .long 0, .int 0, .long 0, .long 0, .ref a11])), (a1, .inl (k1, 16, .inl (upd (fun _ => 0) (0 : Int32).toNatClampNeg p1))), (a2, .inl (k2, 16, .inl (upd (fun _ => 0) (0 : Int32).toNatClampNeg 0))), (a3, .inl (k3, 16, .inl (upd (fun _ => 0) (0 : Int32).toNatClampNeg p2))), (a4, .inl (k4, 16, .inl (upd (fun _ => 0) (0 : Int32).toNatClampNeg (vp_nar .boolean 0))))] := hD
  refine lv_aload_n hx hb dX9_fresh_50 rfl (lv_at hl 0 rfl) ?_
  refine va_get (D := (dC, dI)) (ci := 9) (v := .int 1) (C := RX9) (T := TX9) (N := 22) hx hb hts in_X9_fresh_X9 hown hK hP 0 rfl rfl 0 (by decide) (hts (.fieldLink RX9 59 "MeetingsAboveModel" "things" "I") (by decide +kernel)) (fun _ h9 => h9) rfl dX9_fresh_51 ?_
  refine lv_iconst (v := 1) hx hb dX9_fresh_54 (by decide) ?_
  refine lv_isub hx hb dX9_fresh_55 ?_
  refine lv_topi (fun y_2 ey_2 => ?_)
  obtain rfl : y_2 = 0 := ey_2.trans (by decide)
  have hP9 := hP.sub (ws' := [(h0, .inr (9, [.int 1, .ref a1, .ref a2, .ref a3, .ref a4, .ref a5, .int 50, .int 20, .int 0, .ref a6, .ref a7, .int 0, .ref a8, .int 0, .ref a9, .ref a10, .long 0, .long 0, .int 0, .long 0, .long 0, .ref a11])), (a2, .inl (k2, 16, .inl (upd (fun _ => 0) (0 : Int32).toNatClampNeg 0)))]) [0, 2] rfl
  have hD9 := hD.sub (ws' := [(h0, .inr (9, [.int 1, .ref a1, .ref a2, .ref a3, .ref a4, .ref a5, .int 50, .int 20, .int 0, .ref a6, .ref a7, .int 0, .ref a8, .int 0, .ref a9, .ref a10, .long 0, .long 0, .int 0, .long 0, .long 0, .ref a11])), (a2, .inl (k2, 16, .inl (upd (fun _ => 0) (0 : Int32).toNatClampNeg 0)))]) [0, 2] (by decide) rfl
  have hK9 := hK.sub (tys' := [(k2, .int)]) [1] rfl
  refine W.widen (k := 0) (n := 0) (by omega) (by omega) ?_
  exact W.iret (v := 0) hx hb hr (fun t ht hW => ⟨⟨_, (), rfl, rfl, by rw [ht]; exact hP9, va_K.moved hW.alike hK9, hD9⟩, hS.F ht⟩) hS.2.2 dX9_fresh_56
def wk_X9_setSpot : List Cond := .code yX9_setSpot cX9_setSpot 6 none :: ([.fieldLink RX9 23 "MeetingsAboveModel" "spots" "[I"] ++ wsX90)
theorem in_X9_setSpot_X9 : ∀ w ∈ wsX90, w ∈ wk_X9_setSpot := fun _ h => List.mem_cons_of_mem _ (List.mem_append_right _ h)
set_option maxHeartbeats 4000000 in
set_option maxRecDepth 100000 in
theorem c_X9_setSpot (l : Launch) (dC : Nat → ClassId) (dI : Nat → Nat → Nat) (h0 : Nat) (a1 : Nat) (a2 : Nat) (a3 : Nat) (a4 : Nat) (a5 : Nat) (a6 : Nat) (a7 : Nat) (a8 : Nat) (a9 : Nat) (a10 : Nat) (a11 : Nat) (k5 : ClassId) (p3 : Int32) (p4 : Int32) (p5 : Int32) (sz : Nat) : Met l yX9_setSpot wk_X9_setSpot ({ frames := 0, cells := 0, slots := 0, locals := 0 }) (va_Pc [.ref h0, .int 0, .int 0, .int p3, .int p4, .int p5] (fun U => U.heap.size = sz ∧ va_P (dC, dI) vwCl [(h0, .inr (9, [.int 1, .ref a1, .ref a2, .ref a3, .ref a4, .ref a5, .int 50, .int 20, .int 0, .ref a6, .ref a7, .int 0, .ref a8, .int 0, .ref a9, .ref a10, .long 0, .long 0, .int 0, .long 0, .long 0, .ref a11])), (a5, .inl (k5, 576, .inl (fun _ => 0)))] U.heap ∧ va_K (dC, dI) vwCl [(k5, .int)] U ∧ va_D (fun _ => True) [(h0, .inr (9, [.int 1, .ref a1, .ref a2, .ref a3, .ref a4, .ref a5, .int 50, .int 20, .int 0, .ref a6, .ref a7, .int 0, .ref a8, .int 0, .ref a9, .ref a10, .long 0, .long 0, .int 0, .long 0, .long 0, .ref a11])), (a5, .inl (k5, 576, .inl (fun _ => 0)))])) (va_Qv (fun (_ : Unit) => True) (fun (_ : Unit) (t : State) => va_P (dC, dI) vwCl [(h0, .inr (9, [.int 1, .ref a1, .ref a2, .ref a3, .ref a4, .ref a5, .int 50, .int 20, .int 0, .ref a6, .ref a7, .int 0, .ref a8, .int 0, .ref a9, .ref a10, .long 0, .long 0, .int 0, .long 0, .long 0, .ref a11]))] t.heap ∧ va_K (dC, dI) vwCl [] t ∧ va_D (va_A [(h0, .inr (9, [.int 1, .ref a1, .ref a2, .ref a3, .ref a4, .ref a5, .int 50, .int 20, .int 0, .ref a6, .ref a7, .int 0, .ref a8, .int 0, .ref a9, .ref a10, .long 0, .long 0, .int 0, .long 0, .long 0, .ref a11])), (a5, .inl (k5, 576, .inl (fun _ => 0)))] sz) [(h0, .inr (9, [.int 1, .ref a1, .ref a2, .ref a3, .ref a4, .ref a5, .int 50, .int 20, .int 0, .ref a6, .ref a7, .int 0, .ref a8, .int 0, .ref a9, .ref a10, .long 0, .long 0, .int 0, .long 0, .long 0, .ref a11]))]) (va_A [(h0, .inr (9, [.int 1, .ref a1, .ref a2, .ref a3, .ref a4, .ref a5, .int 50, .int 20, .int 0, .ref a6, .ref a7, .int 0, .ref a8, .int 0, .ref a9, .ref a10, .long 0, .long 0, .int 0, .long 0, .long 0, .ref a11])), (a5, .inl (k5, 576, .inl (fun _ => 0)))] sz)) 0 0 (va_A [(h0, .inr (9, [.int 1, .ref a1, .ref a2, .ref a3, .ref a4, .ref a5, .int 50, .int 20, .int 0, .ref a6, .ref a7, .int 0, .ref a8, .int 0, .ref a9, .ref a10, .long 0, .long 0, .int 0, .long 0, .long 0, .ref a11])), (a5, .inl (k5, 576, .inl (fun _ => 0)))] sz) := by
  refine Met.ofW (cc := cX9_setSpot) (maxL := 6) (ret := none) (by decide) rfl ?_
  intro p e s m args below meth c s₁ B hml hv
  obtain ⟨rfl, hsz, hP, hK, hD0⟩ := hv
  have hx := B.exec
  have hb := B.bytes
  have hr := B.returns
  have hts := atoms_spec (ws := wk_X9_setSpot) B.pre
  have hown : s.vm.findClass RX9 = some m.cls := findClass_of_methodNamed B.named
  have hlocks := B.notSynchronized
  subst hsz
  have hD := hD0.self (sz := s.heap.size)
  generalize hAe : va_A [(h0, .inr (9, [.int 1, .ref a1, .ref a2, .ref a3, .ref a4, .ref a5, .int 50, .int 20, .int 0, .ref a6, .ref a7, .int 0, .ref a8, .int 0, .ref a9, .ref a10, .long 0, .long 0, .int 0, .long 0, .long 0, .ref a11])), (a5, .inl (k5, 576, .inl (fun _ => 0)))] s.heap.size = A at hD ⊢
  have hA : ∀ q : Nat, s.heap.size ≤ q → A q := fun q h => by rw [← hAe]; exact Or.inr h
  have hS : va_S A s.heap s.heap [] := va_S.rf
  have hP : va_P (dC, dI) vwCl [(h0, .inr (9, [.int 1, .ref a1, .ref a2, .ref a3, .ref a4, .ref a5, .int 50, .int 20, .int 0, .ref a6, .ref a7, .int 0, .ref a8, .int 0, .ref a9, .ref a10, .long 0, .long 0, .int 0, .long 0, .long 0, .ref a11])), (a5, .inl (k5, 576, .inl (fun _ => 0)))] s.heap := hP
  have hl := lv_entry ([.ref h0, .int 0, .int 0, .int p3, .int p4, .int p5]) (n := 6) (Nat.le_of_ble_eq_true rfl)
  rw [lg_entry_eq]
  generalize (lg_sl ([.ref h0, .int 0, .int 0, .int p3, .int p4, .int p5]) ++ List.replicate (6 - (lg_sl ([.ref h0, .int 0, .int 0, .int p3, .int p4, .int p5])).length) Slot.unset).toArray = ls at hl ⊢
  have hl : lv_has ls 6 [(0, .ref h0), (1, .int 0), (2, .int 0), (3, .int p3), (4, .int p4), (5, .int p5)] := hl
  refine lv_aload_n hx hb dX9_setSpot_0 rfl (lv_at hl 0 rfl) ?_
  refine va_get (D := (dC, dI)) (ci := 9) (v := .ref a5) (C := RX9) (T := TX9) (N := 22) hx hb hts in_X9_setSpot_X9 hown hK hP 0 rfl rfl 5 (by decide) (hts (.fieldLink RX9 23 "MeetingsAboveModel" "spots" "[I") (by decide +kernel)) (fun _ h9 => h9) rfl dX9_setSpot_1 ?_
  refine lv_bipush (v := 36) hx hb dX9_setSpot_4 (by decide) ?_
  refine lv_iload_n hx hb dX9_setSpot_6 rfl (lv_at hl 1 rfl) ?_
  refine lv_imul hx hb dX9_setSpot_7 ?_
  refine lv_topi (fun y_1 ey_1 => ?_)
  obtain rfl : y_1 = 0 := ey_1.trans (by decide)
  refine lv_iconst (v := 3) hx hb dX9_setSpot_8 (by decide) ?_
  refine lv_iload_n hx hb dX9_setSpot_9 rfl (lv_at hl 2 rfl) ?_
  refine lv_imul hx hb dX9_setSpot_10 ?_
  refine lv_topi (fun y_2 ey_2 => ?_)
  obtain rfl : y_2 = 0 := ey_2.trans (by decide)
  refine lv_iadd hx hb dX9_setSpot_11 ?_
  refine lv_topi (fun y_3 ey_3 => ?_)
  obtain rfl : y_3 = 0 := ey_3.trans (by decide)
  refine lv_iload_n hx hb dX9_setSpot_12 rfl (lv_at hl 3 rfl) ?_
  refine va_iast hx hb hK hP hD hS 1 0 rfl rfl (by unfold vp_in; decide) dX9_setSpot_13 (fun H locs hP hD hS => ?_)
  have hP : va_P (dC, dI) vwCl [(h0, .inr (9, [.int 1, .ref a1, .ref a2, .ref a3, .ref a4, .ref a5, .int 50, .int 20, .int 0, .ref a6, .ref a7, .int 0, .ref a8, .int 0, .ref a9, .ref a10, .long 0, .long 0, .int 0, .long 0, .long 0, .ref a11])), (a5, .inl (k5, 576, .inl (upd (fun _ => 0) (0 : Int32).toNatClampNeg p3)))] H := hP
  have hD : va_D A [(h0, .inr (9, [.int 1, .ref a1, .ref a2, .ref a3, .ref a4, .ref a5, .int 50, .int 20, .int 0, .ref a6, .ref a7, .int 0, .ref a8, .int 0, .ref a9, .ref a10, .long 0, .long 0, .int 0, .long 0, .long 0, .ref a11])), (a5, .inl (k5, 576, .inl (upd (fun _ => 0) (0 : Int32).toNatClampNeg p3)))] := hD
  refine lv_aload_n hx hb dX9_setSpot_14 rfl (lv_at hl 0 rfl) ?_
  refine va_get (D := (dC, dI)) (ci := 9) (v := .ref a5) (C := RX9) (T := TX9) (N := 22) hx hb hts in_X9_setSpot_X9 hown hK hP 0 rfl rfl 5 (by decide) (hts (.fieldLink RX9 23 "MeetingsAboveModel" "spots" "[I") (by decide +kernel)) (fun _ h9 => h9) rfl dX9_setSpot_15 ?_
  refine lv_bipush (v := 36) hx hb dX9_setSpot_18 (by decide) ?_
  refine lv_iload_n hx hb dX9_setSpot_20 rfl (lv_at hl 1 rfl) ?_
  refine lv_imul hx hb dX9_setSpot_21 ?_
  refine lv_topi (fun y_4 ey_4 => ?_)
  obtain rfl : y_4 = 0 := ey_4.trans (by decide)
  refine lv_iconst (v := 3) hx hb dX9_setSpot_22 (by decide) ?_
  refine lv_iload_n hx hb dX9_setSpot_23 rfl (lv_at hl 2 rfl) ?_
  refine lv_imul hx hb dX9_setSpot_24 ?_
  refine lv_topi (fun y_5 ey_5 => ?_)
  obtain rfl : y_5 = 0 := ey_5.trans (by decide)
  refine lv_iadd hx hb dX9_setSpot_25 ?_
  refine lv_topi (fun y_6 ey_6 => ?_)
  obtain rfl : y_6 = 0 := ey_6.trans (by decide)
  refine lv_iconst (v := 1) hx hb dX9_setSpot_26 (by decide) ?_
  refine lv_iadd hx hb dX9_setSpot_27 ?_
  refine lv_topi (fun y_7 ey_7 => ?_)
  obtain rfl : y_7 = 1 := ey_7.trans (by decide)
  refine lv_iload hx hb dX9_setSpot_28 (lv_at hl 4 rfl) ?_
  refine va_iast hx hb hK hP hD hS 1 0 rfl rfl (by unfold vp_in; decide) dX9_setSpot_30 (fun H locs hP hD hS => ?_)
  have hP : va_P (dC, dI) vwCl [(h0, .inr (9, [.int 1, .ref a1, .ref a2, .ref a3, .ref a4, .ref a5, .int 50, .int 20, .int 0, .ref a6, .ref a7, .int 0, .ref a8, .int 0, .ref a9, .ref a10, .long 0, .long 0, .int 0, .long 0, .long 0, .ref a11])), (a5, .inl (k5, 576, .inl (upd (upd (fun _ => 0) (0 : Int32).toNatClampNeg p3) (1 : Int32).toNatClampNeg p4)))] H := hP
  have hD : va_D A [(h0, .inr (9, [.int 1, .ref a1, .ref a2, .ref a3, .ref a4, .ref a5, .int 50, .int 20, .int 0, .ref a6, .ref a7, .int 0, .ref a8, .int 0, .ref a9, .ref a10, .long 0, .long 0, .int 0, .long 0, .long 0, .ref a11])), (a5, .inl (k5, 576, .inl (upd (upd (fun _ => 0) (0 : Int32).toNatClampNeg p3) (1 : Int32).toNatClampNeg p4)))] := hD
  refine lv_aload_n hx hb dX9_setSpot_31 rfl (lv_at hl 0 rfl) ?_
  refine va_get (D := (dC, dI)) (ci := 9) (v := .ref a5) (C := RX9) (T := TX9) (N := 22) hx hb hts in_X9_setSpot_X9 hown hK hP 0 rfl rfl 5 (by decide) (hts (.fieldLink RX9 23 "MeetingsAboveModel" "spots" "[I") (by decide +kernel)) (fun _ h9 => h9) rfl dX9_setSpot_32 ?_
  refine lv_bipush (v := 36) hx hb dX9_setSpot_35 (by decide) ?_
  refine lv_iload_n hx hb dX9_setSpot_37 rfl (lv_at hl 1 rfl) ?_
  refine lv_imul hx hb dX9_setSpot_38 ?_
  refine lv_topi (fun y_8 ey_8 => ?_)
  obtain rfl : y_8 = 0 := ey_8.trans (by decide)
  refine lv_iconst (v := 3) hx hb dX9_setSpot_39 (by decide) ?_
  refine lv_iload_n hx hb dX9_setSpot_40 rfl (lv_at hl 2 rfl) ?_
  refine lv_imul hx hb dX9_setSpot_41 ?_
  refine lv_topi (fun y_9 ey_9 => ?_)
  obtain rfl : y_9 = 0 := ey_9.trans (by decide)
  refine lv_iadd hx hb dX9_setSpot_42 ?_
  refine lv_topi (fun y_10 ey_10 => ?_)
  obtain rfl : y_10 = 0 := ey_10.trans (by decide)
  refine lv_iconst (v := 2) hx hb dX9_setSpot_43 (by decide) ?_
  refine lv_iadd hx hb dX9_setSpot_44 ?_
  refine lv_topi (fun y_11 ey_11 => ?_)
  obtain rfl : y_11 = 2 := ey_11.trans (by decide)
  refine lv_iload hx hb dX9_setSpot_45 (lv_at hl 5 rfl) ?_
  refine va_iast hx hb hK hP hD hS 1 0 rfl rfl (by unfold vp_in; decide) dX9_setSpot_47 (fun H locs hP hD hS => ?_)
  have hP : va_P (dC, dI) vwCl [(h0, .inr (9, [.int 1, .ref a1, .ref a2, .ref a3, .ref a4, .ref a5, .int 50, .int 20, .int 0, .ref a6, .ref a7, .int 0, .ref a8, .int 0, .ref a9, .ref a10, .long 0, .long 0, .int 0, .long 0, .long 0, .ref a11])), (a5, .inl (k5, 576, .inl (upd (upd (upd (fun _ => 0) (0 : Int32).toNatClampNeg p3) (1 : Int32).toNatClampNeg p4) (2 : Int32).toNatClampNeg p5)))] H := hP
  have hD : va_D A [(h0, .inr (9, [.int 1, .ref a1, .ref a2, .ref a3, .ref a4, .ref a5, .int 50, .int 20, .int 0, .ref a6, .ref a7, .int 0, .ref a8, .int 0, .ref a9, .ref a10, .long 0, .long 0, .int 0, .long 0, .long 0, .ref a11])), (a5, .inl (k5, 576, .inl (upd (upd (upd (fun _ => 0) (0 : Int32).toNatClampNeg p3) (1 : Int32).toNatClampNeg p4) (2 : Int32).toNatClampNeg p5)))] := hD
  have hP9 := hP.sub (ws' := [(h0, .inr (9, [.int 1, .ref a1, .ref a2, .ref a3, .ref a4, .ref a5, .int 50, .int 20, .int 0, .ref a6, .ref a7, .int 0, .ref a8, .int 0, .ref a9, .ref a10, .long 0, .long 0, .int 0, .long 0, .long 0, .ref a11]))]) [0] rfl
  have hD9 := hD.sub (ws' := [(h0, .inr (9, [.int 1, .ref a1, .ref a2, .ref a3, .ref a4, .ref a5, .int 50, .int 20, .int 0, .ref a6, .ref a7, .int 0, .ref a8, .int 0, .ref a9, .ref a10, .long 0, .long 0, .int 0, .long 0, .long 0, .ref a11]))]) [0] (by decide) rfl
  have hK9 := hK.sub (tys' := []) [] rfl
  refine W.widen (k := 0) (n := 0) (by omega) (by omega) ?_
  exact W.vret hx hb hr (fun t ht hW => ⟨⟨(), rfl, trivial, by rw [ht]; exact hP9, va_K.moved hW.alike hK9, hD9⟩, hS.F ht⟩) hS.2.2 dX9_setSpot_48
def wk_X9_thing : List Cond := .code yX9_thing cX9_thing 7 (some .int) :: ([.constantLong RX9 62 39, .methodLink RX9 55 yX9_in, .static yX9_in, .initialized RX9, .code yX9_in cX9_in 6 (some .boolean), .methodLink RX9 64 yX9_isPlace, .static yX9_isPlace, .code yX9_isPlace cX9_isPlace 3 (some .boolean), .constantLong RX9 51 (-5000), .constantLong RX9 53 5000, .constantLong RX9 68 200, .fieldLink RX9 59 "MeetingsAboveModel" "things" "I", .methodLink RX9 72 yX9_fresh, .instanceMethod yX9_fresh, .selects RX9 yX9_fresh yX9_fresh, .code yX9_fresh cX9_fresh 3 (some .int), .fieldLink RX9 7 "MeetingsAboveModel" "firsts" "[I", .fieldLink RX9 13 "MeetingsAboveModel" "many" "[I", .fieldLink RX9 16 "MeetingsAboveModel" "doubts" "[I", .fieldLink RX9 19 "MeetingsAboveModel" "isGone" "[Z", .methodLink RX9 76 yX9_setSpot, .instanceMethod yX9_setSpot, .selects RX9 yX9_setSpot yX9_setSpot, .code yX9_setSpot cX9_setSpot 6 none, .fieldLink RX9 23 "MeetingsAboveModel" "spots" "[I", .constant RX9 70 (-100002)] ++ wsX90)
theorem in_X9_thing_X9 : ∀ w ∈ wsX90, w ∈ wk_X9_thing := fun _ h => List.mem_cons_of_mem _ (List.mem_append_right _ h)
set_option maxRecDepth 20000 in
theorem g_X9_thing__X9_in_55 : GoodIn wk_X9_thing (va_wsS RX9 55 yX9_in wk_X9_in) := goodIn_r _ [2, 3, 4, 5] (by decide +kernel) (by decide +kernel)
set_option maxRecDepth 20000 in
theorem g_X9_thing__X9_isPlace_64 : GoodIn wk_X9_thing (va_wsS RX9 64 yX9_isPlace wk_X9_isPlace) := goodIn_r _ [6, 7, 4, 8, 9, 10, 2, 3, 4, 5] (by decide +kernel) (by decide +kernel)
set_option maxRecDepth 20000 in
theorem g_X9_thing__X9_fresh_72 : GoodIn wk_X9_thing (wsV RX9 72 RX9 yX9_fresh wk_X9_fresh) := goodIn_r _ [13, 14, 15, 4, 16, 17, 12, 18, 19, 20, 27, 28, 29, 30, 31, 32, 33, 34, 35, 36, 37, 38, 39, 40, 41, 42, 43, 44, 45, 46, 47, 48] (by decide +kernel) (by decide +kernel)
set_option maxRecDepth 20000 in
theorem g_X9_thing__X9_setSpot_76 : GoodIn wk_X9_thing (wsV RX9 76 RX9 yX9_setSpot wk_X9_setSpot) := goodIn_r _ [21, 22, 23, 4, 24, 25, 27, 28, 29, 30, 31, 32, 33, 34, 35, 36, 37, 38, 39, 40, 41, 42, 43, 44, 45, 46, 47, 48] (by decide +kernel) (by decide +kernel)
set_option maxHeartbeats 4000000 in
set_option maxRecDepth 100000 in
theorem c_X9_thing (l : Launch) (dC : Nat → ClassId) (dI : Nat → Nat → Nat) (h0 : Nat) (a1 : Nat) (a2 : Nat) (a3 : Nat) (a4 : Nat) (a5 : Nat) (a6 : Nat) (a7 : Nat) (a8 : Nat) (a9 : Nat) (a10 : Nat) (a11 : Nat) (k1 : ClassId) (k2 : ClassId) (k3 : ClassId) (k4 : ClassId) (k5 : ClassId) (p1 : Int32) (p2 : Int32) (p3 : Int32) (p4 : Int32) (p5 : Int32) (sz : Nat) : Met l yX9_thing wk_X9_thing ({ frames := 2, cells := 0, slots := 0, locals := 47 }) (va_Pc [.ref h0, .int p1, .int p2, .int p3, .int p4, .int p5] (fun U => U.heap.size = sz ∧ va_P (dC, dI) vwCl [(h0, .inr (9, [.int 0, .ref a1, .ref a2, .ref a3, .ref a4, .ref a5, .int 50, .int 20, .int 0, .ref a6, .ref a7, .int 0, .ref a8, .int 0, .ref a9, .ref a10, .long 0, .long 0, .int 0, .long 0, .long 0, .ref a11])), (a1, .inl (k1, 16, .inl (fun _ => 0))), (a2, .inl (k2, 16, .inl (fun _ => 0))), (a3, .inl (k3, 16, .inl (fun _ => 0))), (a4, .inl (k4, 16, .inl (fun _ => 0))), (a5, .inl (k5, 576, .inl (fun _ => 0)))] U.heap ∧ va_K (dC, dI) vwCl [(k1, .int), (k2, .int), (k3, .int), (k4, .boolean), (k5, .int)] U ∧ va_D (fun _ => True) [(h0, .inr (9, [.int 0, .ref a1, .ref a2, .ref a3, .ref a4, .ref a5, .int 50, .int 20, .int 0, .ref a6, .ref a7, .int 0, .ref a8, .int 0, .ref a9, .ref a10, .long 0, .long 0, .int 0, .long 0, .long 0, .ref a11])), (a1, .inl (k1, 16, .inl (fun _ => 0))), (a2, .inl (k2, 16, .inl (fun _ => 0))), (a3, .inl (k3, 16, .inl (fun _ => 0))), (a4, .inl (k4, 16, .inl (fun _ => 0))), (a5, .inl (k5, 576, .inl (fun _ => 0)))])) (va_Qi (fun (r : Int32) (_ : Unit) => r = an_thing p1 p2 p3 p4 p5) (fun (_ : Unit) (t : State) => va_P (dC, dI) vwCl [] t.heap ∧ va_K (dC, dI) vwCl [] t ∧ va_D (va_A [(h0, .inr (9, [.int 0, .ref a1, .ref a2, .ref a3, .ref a4, .ref a5, .int 50, .int 20, .int 0, .ref a6, .ref a7, .int 0, .ref a8, .int 0, .ref a9, .ref a10, .long 0, .long 0, .int 0, .long 0, .long 0, .ref a11])), (a1, .inl (k1, 16, .inl (fun _ => 0))), (a2, .inl (k2, 16, .inl (fun _ => 0))), (a3, .inl (k3, 16, .inl (fun _ => 0))), (a4, .inl (k4, 16, .inl (fun _ => 0))), (a5, .inl (k5, 576, .inl (fun _ => 0)))] sz) []) (va_A [(h0, .inr (9, [.int 0, .ref a1, .ref a2, .ref a3, .ref a4, .ref a5, .int 50, .int 20, .int 0, .ref a6, .ref a7, .int 0, .ref a8, .int 0, .ref a9, .ref a10, .long 0, .long 0, .int 0, .long 0, .long 0, .ref a11])), (a1, .inl (k1, 16, .inl (fun _ => 0))), (a2, .inl (k2, 16, .inl (fun _ => 0))), (a3, .inl (k3, 16, .inl (fun _ => 0))), (a4, .inl (k4, 16, .inl (fun _ => 0))), (a5, .inl (k5, 576, .inl (fun _ => 0)))] sz)) 0 0 (va_A [(h0, .inr (9, [.int 0, .ref a1, .ref a2, .ref a3, .ref a4, .ref a5, .int 50, .int 20, .int 0, .ref a6, .ref a7, .int 0, .ref a8, .int 0, .ref a9, .ref a10, .long 0, .long 0, .int 0, .long 0, .long 0, .ref a11])), (a1, .inl (k1, 16, .inl (fun _ => 0))), (a2, .inl (k2, 16, .inl (fun _ => 0))), (a3, .inl (k3, 16, .inl (fun _ => 0))), (a4, .inl (k4, 16, .inl (fun _ => 0))), (a5, .inl (k5, 576, .inl (fun _ => 0)))] sz) := by
  refine Met.ofW (cc := cX9_thing) (maxL := 7) (ret := (some .int)) (by decide) rfl ?_
  intro p e s m args below meth c s₁ B hml hv
  obtain ⟨rfl, hsz, hP, hK, hD0⟩ := hv
  have hx := B.exec
  have hb := B.bytes
  have hr := B.returns
  have hts := atoms_spec (ws := wk_X9_thing) B.pre
  have hown : s.vm.findClass RX9 = some m.cls := findClass_of_methodNamed B.named
  have hlocks := B.notSynchronized
  subst hsz
  have hD := hD0.self (sz := s.heap.size)
  generalize hAe : va_A [(h0, .inr (9, [.int 0, .ref a1, .ref a2, .ref a3, .ref a4, .ref a5, .int 50, .int 20, .int 0, .ref a6, .ref a7, .int 0, .ref a8, .int 0, .ref a9, .ref a10, .long 0, .long 0, .int 0, .long 0, .long 0, .ref a11])), (a1, .inl (k1, 16, .inl (fun _ => 0))), (a2, .inl (k2, 16, .inl (fun _ => 0))), (a3, .inl (k3, 16, .inl (fun _ => 0))), (a4, .inl (k4, 16, .inl (fun _ => 0))), (a5, .inl (k5, 576, .inl (fun _ => 0)))] s.heap.size = A at hD ⊢
  have hA : ∀ q : Nat, s.heap.size ≤ q → A q := fun q h => by rw [← hAe]; exact Or.inr h
  have hS : va_S A s.heap s.heap [] := va_S.rf
  have hP : va_P (dC, dI) vwCl [(h0, .inr (9, [.int 0, .ref a1, .ref a2, .ref a3, .ref a4, .ref a5, .int 50, .int 20, .int 0, .ref a6, .ref a7, .int 0, .ref a8, .int 0, .ref a9, .ref a10, .long 0, .long 0, .int 0, .long 0, .long 0, .ref a11])), (a1, .inl (k1, 16, .inl (fun _ => 0))), (a2, .inl (k2, 16, .inl (fun _ => 0))), (a3, .inl (k3, 16, .inl (fun _ => 0))), (a4, .inl (k4, 16, .inl (fun _ => 0))), (a5, .inl (k5, 576, .inl (fun _ => 0)))] s.heap := hP
  have hl := lv_entry ([.ref h0, .int p1, .int p2, .int p3, .int p4, .int p5]) (n := 7) (Nat.le_of_ble_eq_true rfl)
  rw [lg_entry_eq]
  generalize (lg_sl ([.ref h0, .int p1, .int p2, .int p3, .int p4, .int p5]) ++ List.replicate (7 - (lg_sl ([.ref h0, .int p1, .int p2, .int p3, .int p4, .int p5])).length) Slot.unset).toArray = ls at hl ⊢
  have hl : lv_has ls 7 [(0, .ref h0), (1, .int p1), (2, .int p2), (3, .int p3), (4, .int p4), (5, .int p5)] := hl
  refine lv_iload_n hx hb dX9_thing_0 rfl (lv_at hl 1 rfl) ?_
  refine lv_i2l hx hb dX9_thing_1 rfl ?_
  refine lv_lconst (v := 0) hx hb dX9_thing_2 (by decide) ?_
  refine lv_ldc2 hx hb hown (hts (.constantLong RX9 62 39) (by decide +kernel)) dX9_thing_3 ?_
  refine vp_callSi (W.runS (As := [.long p1.toInt64, .long 0, .long 39]) (rest := []) ⟨hx, hb, hml, hown, hts⟩ (c_X9_in l dC dI p1.toInt64 0 39) (va_cwS 3 hts g_X9_thing__X9_in_55 rfl rfl rfl (by decide +kernel) ⟨Nat.le_of_ble_eq_true rfl, Nat.le_of_ble_eq_true rfl⟩) ⟨fun a U g mk q => by obtain ⟨q0, q1⟩ := q; exact ⟨q0, q1⟩, fun U hU hW => ⟨rfl, trivial⟩⟩ rfl rfl hl.1 rfl (lv_room (Nat.le_of_ble_eq_true rfl)) dX9_thing_6 ⟨Nat.le_of_ble_eq_true rfl, Nat.le_of_ble_eq_true rfl⟩) (fun r_1 hr_1 => ?_)
  try dsimp only at hr_1
  rcases bo_split hr_1 with ⟨rfl, q_6⟩ | ⟨rfl, q_6⟩
  · have q_6 := (w64 0 39 p1 (by decide) (by decide)).mp q_6
    refine lv_if_eq (tgt := 35) hx hb dX9_thing_9 (by decide) (fun h9 => absurd h9 (by decide)) (fun _ => ?_)
    refine lv_iload_n hx hb dX9_thing_12 rfl (lv_at hl 2 rfl) ?_
    refine lv_iload_n hx hb dX9_thing_13 rfl (lv_at hl 3 rfl) ?_
    refine lv_iload hx hb dX9_thing_14 (lv_at hl 4 rfl) ?_
    refine vp_callSi (W.runS (As := [.int p2, .int p3, .int p4]) (rest := []) ⟨hx, hb, hml, hown, hts⟩ (c_X9_isPlace l dC dI p2 p3 p4) (va_cwS 3 hts g_X9_thing__X9_isPlace_64 rfl rfl rfl (by decide +kernel) ⟨Nat.le_of_ble_eq_true rfl, Nat.le_of_ble_eq_true rfl⟩) ⟨fun a U g mk q => by obtain ⟨q0, q1⟩ := q; exact ⟨q0, q1⟩, fun U hU hW => ⟨rfl, trivial⟩⟩ rfl rfl hl.1 rfl (lv_room (Nat.le_of_ble_eq_true rfl)) dX9_thing_16 ⟨Nat.le_of_ble_eq_true rfl, Nat.le_of_ble_eq_true rfl⟩) (fun r_2 hr_2 => ?_)
    try dsimp only at hr_2
    rcases bo_split hr_2 with ⟨rfl, q_16⟩ | ⟨rfl, q_16⟩
    · refine lv_if_eq (tgt := 35) hx hb dX9_thing_19 (by decide) (fun h9 => absurd h9 (by decide)) (fun _ => ?_)
      refine lv_iload hx hb dX9_thing_22 (lv_at hl 5 rfl) ?_
      refine lv_i2l hx hb dX9_thing_24 rfl ?_
      refine lv_lconst (v := 0) hx hb dX9_thing_25 (by decide) ?_
      refine lv_ldc2 hx hb hown (hts (.constantLong RX9 68 200) (by decide +kernel)) dX9_thing_26 ?_
      refine vp_callSi (W.runS (As := [.long p5.toInt64, .long 0, .long 200]) (rest := []) ⟨hx, hb, hml, hown, hts⟩ (c_X9_in l dC dI p5.toInt64 0 200) (va_cwS 3 hts g_X9_thing__X9_in_55 rfl rfl rfl (by decide +kernel) ⟨Nat.le_of_ble_eq_true rfl, Nat.le_of_ble_eq_true rfl⟩) ⟨fun a U g mk q => by obtain ⟨q0, q1⟩ := q; exact ⟨q0, q1⟩, fun U hU hW => ⟨rfl, trivial⟩⟩ rfl rfl hl.1 rfl (lv_room (Nat.le_of_ble_eq_true rfl)) dX9_thing_29 ⟨Nat.le_of_ble_eq_true rfl, Nat.le_of_ble_eq_true rfl⟩) (fun r_3 hr_3 => ?_)
      try dsimp only at hr_3
      rcases bo_split hr_3 with ⟨rfl, q_29⟩ | ⟨rfl, q_29⟩
      · have q_29 := (w64 0 200 p5 (by decide) (by decide)).mp q_29
        refine lv_if_ne (tgt := 38) hx hb dX9_thing_32 (by decide) (fun _ => ?_) (fun h9 => absurd h9 (by decide))
        refine lv_aload_n hx hb dX9_thing_38 rfl (lv_at hl 0 rfl) ?_
        refine va_get (D := (dC, dI)) (ci := 9) (v := .int 0) (C := RX9) (T := TX9) (N := 22) hx hb hts in_X9_thing_X9 hown hK hP 0 rfl rfl 0 (by decide) (hts (.fieldLink RX9 59 "MeetingsAboveModel" "things" "I") (by decide +kernel)) (fun _ h9 => h9) rfl dX9_thing_39 ?_
        refine lv_bipush (v := 16) hx hb dX9_thing_42 (by decide) ?_
        refine lv_icmp_ne (tgt := 50) hx hb dX9_thing_44 (by decide) (fun _ => ?_) (fun h9 => absurd h9 (by decide))
        refine lv_aload_n hx hb dX9_thing_50 rfl (lv_at hl 0 rfl) ?_
        refine lv_iload_n hx hb dX9_thing_51 rfl (lv_at hl 1 rfl) ?_
        refine lv_iload hx hb dX9_thing_52 (lv_at hl 5 rfl) ?_
        have hPc := hP.sub (ws' := [(h0, .inr (9, [.int 0, .ref a1, .ref a2, .ref a3, .ref a4, .ref a5, .int 50, .int 20, .int 0, .ref a6, .ref a7, .int 0, .ref a8, .int 0, .ref a9, .ref a10, .long 0, .long 0, .int 0, .long 0, .long 0, .ref a11])), (a1, .inl (k1, 16, .inl (fun _ => 0))), (a2, .inl (k2, 16, .inl (fun _ => 0))), (a3, .inl (k3, 16, .inl (fun _ => 0))), (a4, .inl (k4, 16, .inl (fun _ => 0)))]) [0, 1, 2, 3, 4] rfl
        have hKc := hK.sub (tys' := [(k1, .int), (k2, .int), (k3, .int), (k4, .boolean)]) [0, 1, 2, 3] rfl
        have hDc := hD.sub (ws' := [(h0, .inr (9, [.int 0, .ref a1, .ref a2, .ref a3, .ref a4, .ref a5, .int 50, .int 20, .int 0, .ref a6, .ref a7, .int 0, .ref a8, .int 0, .ref a9, .ref a10, .long 0, .long 0, .int 0, .long 0, .long 0, .ref a11])), (a1, .inl (k1, 16, .inl (fun _ => 0))), (a2, .inl (k2, 16, .inl (fun _ => 0))), (a3, .inl (k3, 16, .inl (fun _ => 0))), (a4, .inl (k4, 16, .inl (fun _ => 0)))]) [0, 1, 2, 3, 4] (by decide) rfl
        have hFc := va_free (wc := [(h0, .inr (9, [.int 0, .ref a1, .ref a2, .ref a3, .ref a4, .ref a5, .int 50, .int 20, .int 0, .ref a6, .ref a7, .int 0, .ref a8, .int 0, .ref a9, .ref a10, .long 0, .long 0, .int 0, .long 0, .long 0, .ref a11])), (a1, .inl (k1, 16, .inl (fun _ => 0))), (a2, .inl (k2, 16, .inl (fun _ => 0))), (a3, .inl (k3, 16, .inl (fun _ => 0))), (a4, .inl (k4, 16, .inl (fun _ => 0)))]) hD hS hA [0, 1, 2, 3, 4] rfl
        refine va_calli (va_runV (As := [.int p1, .int p5]) (rest := []) ⟨hx, hb, hml, hown, hts⟩ (c_X9_fresh l dC dI h0 a1 a2 a3 a4 a5 a6 a7 a8 a9 a10 a11 k1 k2 k3 k4 p1 p5 s.heap.size) (cwV 2 hts g_X9_thing__X9_fresh_72 rfl rfl rfl (by decide +kernel) ⟨Nat.le_of_ble_eq_true rfl, Nat.le_of_ble_eq_true rfl⟩) ⟨fun a U g mk q => by obtain ⟨q0, q1, qP, qK, qD⟩ := q; exact ⟨q0, q1, qP, va_K.moved (u := U) (U := U.calling g mk a) (Vm.Alike.refl U.vm) qK, qD⟩, va_recv hKc hPc (ci := 9) (q0 := 0) rfl rfl, fun U hU hW => ⟨rfl, by rw [hU], by rw [hU]; exact hPc, va_K.moved hW.alike hKc, hDc.weaken (fun _ _ _ _ => trivial)⟩⟩ rfl rfl hl.1 rfl (lv_room (Nat.le_of_ble_eq_true rfl)) dX9_thing_54 ⟨Nat.le_of_ble_eq_true rfl, Nat.le_of_ble_eq_true rfl⟩) hS (fun q _ h => hFc q h) hFc (fun r_5 u_4 t H1 locs ht hvm hw_5 hB hz1 hk1 hS => ?_)
        obtain ⟨hP1, hK1, hD1⟩ := hB
        rw [ht] at hP1
        have hK1 := va_K.moved hvm.symm hK1
        obtain ⟨hP, hD⟩ := va_join (wr := [(a5, .inl (k5, 576, .inl (fun _ => 0)))]) (w1 := [(h0, .inr (9, [.int 1, .ref a1, .ref a2, .ref a3, .ref a4, .ref a5, .int 50, .int 20, .int 0, .ref a6, .ref a7, .int 0, .ref a8, .int 0, .ref a9, .ref a10, .long 0, .long 0, .int 0, .long 0, .long 0, .ref a11])), (a2, .inl (k2, 16, .inl (upd (fun _ => 0) (0 : Int32).toNatClampNeg 0)))]) hP hD [0, 1, 2, 3, 4] [5] rfl rfl (by decide) (by decide) hk1 hFc hP1 hD1
        have hK := (hK.sub (tys' := [(k1, .int), (k2, .int), (k3, .int), (k4, .boolean), (k5, .int)]) [0, 1, 2, 3, 4] rfl).app hK1
        generalize H1 = H at hP hS ⊢
        have hP : va_P (dC, dI) vwCl [(a5, .inl (k5, 576, .inl (fun _ => 0))), (h0, .inr (9, [.int 1, .ref a1, .ref a2, .ref a3, .ref a4, .ref a5, .int 50, .int 20, .int 0, .ref a6, .ref a7, .int 0, .ref a8, .int 0, .ref a9, .ref a10, .long 0, .long 0, .int 0, .long 0, .long 0, .ref a11])), (a2, .inl (k2, 16, .inl (upd (fun _ => 0) (0 : Int32).toNatClampNeg 0)))] H := hP
        have hD : va_D A [(a5, .inl (k5, 576, .inl (fun _ => 0))), (h0, .inr (9, [.int 1, .ref a1, .ref a2, .ref a3, .ref a4, .ref a5, .int 50, .int 20, .int 0, .ref a6, .ref a7, .int 0, .ref a8, .int 0, .ref a9, .ref a10, .long 0, .long 0, .int 0, .long 0, .long 0, .ref a11])), (a2, .inl (k2, 16, .inl (upd (fun _ => 0) (0 : Int32).toNatClampNeg 0)))] := hD
        have hK : va_K (dC, dI) vwCl [(k1, .int), (k2, .int), (k3, .int), (k4, .boolean), (k5, .int), (k2, .int)] s := hK
        refine W.widen (k := 0) (n := 0) (by omega) (by omega) ?_
        try dsimp only at hw_5
        subst hw_5
        refine lv_istore (lv' := [(6, .int 0), (0, .ref h0), (1, .int p1), (2, .int p2), (3, .int p3), (4, .int p4), (5, .int p5)]) hx hb dX9_thing_57 hl (by decide) rfl (fun ls hl => ?_)
        refine lv_aload_n hx hb dX9_thing_59 rfl (lv_at hl 1 rfl) ?_
        refine lv_iload hx hb dX9_thing_60 (lv_at hl 0 rfl) ?_
        refine lv_iconst (v := 0) hx hb dX9_thing_62 (by decide) ?_
        refine lv_iload_n hx hb dX9_thing_63 rfl (lv_at hl 3 rfl) ?_
        refine lv_iload_n hx hb dX9_thing_64 rfl (lv_at hl 4 rfl) ?_
        refine lv_iload hx hb dX9_thing_65 (lv_at hl 5 rfl) ?_
        have hPc := hP.sub (ws' := [(h0, .inr (9, [.int 1, .ref a1, .ref a2, .ref a3, .ref a4, .ref a5, .int 50, .int 20, .int 0, .ref a6, .ref a7, .int 0, .ref a8, .int 0, .ref a9, .ref a10, .long 0, .long 0, .int 0, .long 0, .long 0, .ref a11])), (a5, .inl (k5, 576, .inl (fun _ => 0)))]) [1, 0] rfl
        have hKc := hK.sub (tys' := [(k5, .int)]) [4] rfl
        have hDc := hD.sub (ws' := [(h0, .inr (9, [.int 1, .ref a1, .ref a2, .ref a3, .ref a4, .ref a5, .int 50, .int 20, .int 0, .ref a6, .ref a7, .int 0, .ref a8, .int 0, .ref a9, .ref a10, .long 0, .long 0, .int 0, .long 0, .long 0, .ref a11])), (a5, .inl (k5, 576, .inl (fun _ => 0)))]) [1, 0] (by decide) rfl
        have hFc := va_free (wc := [(h0, .inr (9, [.int 1, .ref a1, .ref a2, .ref a3, .ref a4, .ref a5, .int 50, .int 20, .int 0, .ref a6, .ref a7, .int 0, .ref a8, .int 0, .ref a9, .ref a10, .long 0, .long 0, .int 0, .long 0, .long 0, .ref a11])), (a5, .inl (k5, 576, .inl (fun _ => 0)))]) hD hS hA [1, 0] rfl
        refine va_callv (va_runV (As := [.int 0, .int 0, .int p2, .int p3, .int p4]) (rest := []) ⟨hx, hb, hml, hown, hts⟩ (c_X9_setSpot l dC dI h0 a1 a2 a3 a4 a5 a6 a7 a8 a9 a10 a11 k5 p2 p3 p4 H.size) (cwV 5 hts g_X9_thing__X9_setSpot_76 rfl rfl rfl (by decide +kernel) ⟨Nat.le_of_ble_eq_true rfl, Nat.le_of_ble_eq_true rfl⟩) ⟨fun a U g mk q => by obtain ⟨q0, q1, qP, qK, qD⟩ := q; exact ⟨q0, q1, qP, va_K.moved (u := U) (U := U.calling g mk a) (Vm.Alike.refl U.vm) qK, qD⟩, va_recv hKc hPc (ci := 9) (q0 := 0) rfl rfl, fun U hU hW => ⟨rfl, by rw [hU], by rw [hU]; exact hPc, va_K.moved hW.alike hKc, hDc.weaken (fun _ _ _ _ => trivial)⟩⟩ rfl rfl hl.1 rfl (lv_room (Nat.le_of_ble_eq_true rfl)) dX9_thing_67 ⟨Nat.le_of_ble_eq_true rfl, Nat.le_of_ble_eq_true rfl⟩) hS (fun q _ h => hFc q h) hFc (fun u_6 t H1 locs ht hvm hw_7 hB hz1 hk1 hS => ?_)
        obtain ⟨hP1, hK1, hD1⟩ := hB
        rw [ht] at hP1
        have hK1 := va_K.moved hvm.symm hK1
        obtain ⟨hP, hD⟩ := va_join (wr := [(a2, .inl (k2, 16, .inl (upd (fun _ => 0) (0 : Int32).toNatClampNeg 0)))]) (w1 := [(h0, .inr (9, [.int 1, .ref a1, .ref a2, .ref a3, .ref a4, .ref a5, .int 50, .int 20, .int 0, .ref a6, .ref a7, .int 0, .ref a8, .int 0, .ref a9, .ref a10, .long 0, .long 0, .int 0, .long 0, .long 0, .ref a11]))]) hP hD [1, 0] [2] rfl rfl (by decide) (by decide) hk1 hFc hP1 hD1
        have hK := (hK.sub (tys' := [(k1, .int), (k2, .int), (k3, .int), (k4, .boolean), (k5, .int), (k2, .int)]) [0, 1, 2, 3, 4, 5] rfl).app hK1
        generalize H1 = H at hP hS ⊢
        have hP : va_P (dC, dI) vwCl [(a2, .inl (k2, 16, .inl (upd (fun _ => 0) (0 : Int32).toNatClampNeg 0))), (h0, .inr (9, [.int 1, .ref a1, .ref a2, .ref a3, .ref a4, .ref a5, .int 50, .int 20, .int 0, .ref a6, .ref a7, .int 0, .ref a8, .int 0, .ref a9, .ref a10, .long 0, .long 0, .int 0, .long 0, .long 0, .ref a11]))] H := hP
        have hD : va_D A [(a2, .inl (k2, 16, .inl (upd (fun _ => 0) (0 : Int32).toNatClampNeg 0))), (h0, .inr (9, [.int 1, .ref a1, .ref a2, .ref a3, .ref a4, .ref a5, .int 50, .int 20, .int 0, .ref a6, .ref a7, .int 0, .ref a8, .int 0, .ref a9, .ref a10, .long 0, .long 0, .int 0, .long 0, .long 0, .ref a11]))] := hD
        have hK : va_K (dC, dI) vwCl [(k1, .int), (k2, .int), (k3, .int), (k4, .boolean), (k5, .int), (k2, .int)] s := hK
        refine W.widen (k := 0) (n := 0) (by omega) (by omega) ?_
        refine lv_aload_n hx hb dX9_thing_70 rfl (lv_at hl 1 rfl) ?_
        refine va_get (D := (dC, dI)) (ci := 9) (v := .ref a2) (C := RX9) (T := TX9) (N := 22) hx hb hts in_X9_thing_X9 hown hK hP 1 rfl rfl 2 (by decide) (hts (.fieldLink RX9 13 "MeetingsAboveModel" "many" "[I") (by decide +kernel)) (fun _ h9 => h9) rfl dX9_thing_71 ?_
        refine lv_iload hx hb dX9_thing_74 (lv_at hl 0 rfl) ?_
        refine lv_iconst (v := 1) hx hb dX9_thing_76 (by decide) ?_
        refine va_iast hx hb hK hP hD hS 0 1 rfl rfl (by unfold vp_in; decide) dX9_thing_77 (fun H locs hP hD hS => ?_)
        have hP : va_P (dC, dI) vwCl [(a2, .inl (k2, 16, .inl (upd (upd (fun _ => 0) (0 : Int32).toNatClampNeg 0) (0 : Int32).toNatClampNeg 1))), (h0, .inr (9, [.int 1, .ref a1, .ref a2, .ref a3, .ref a4, .ref a5, .int 50, .int 20, .int 0, .ref a6, .ref a7, .int 0, .ref a8, .int 0, .ref a9, .ref a10, .long 0, .long 0, .int 0, .long 0, .long 0, .ref a11]))] H := hP
        have hD : va_D A [(a2, .inl (k2, 16, .inl (upd (upd (fun _ => 0) (0 : Int32).toNatClampNeg 0) (0 : Int32).toNatClampNeg 1))), (h0, .inr (9, [.int 1, .ref a1, .ref a2, .ref a3, .ref a4, .ref a5, .int 50, .int 20, .int 0, .ref a6, .ref a7, .int 0, .ref a8, .int 0, .ref a9, .ref a10, .long 0, .long 0, .int 0, .long 0, .long 0, .ref a11]))] := hD
        refine lv_iload hx hb dX9_thing_78 (lv_at hl 0 rfl) ?_
        have hP9 := hP.sub (ws' := []) [] rfl
        have hD9 := hD.sub (ws' := []) [] (by decide) rfl
        have hK9 := hK.sub (tys' := []) [] rfl
        refine W.widen (k := 0) (n := 0) (by omega) (by omega) ?_
        exact W.iret (v := 0) hx hb hr (fun t ht hW => ⟨⟨_, (), rfl, (by first | exact (an_thing_ok q_6 q_16 q_29).symm | exact (an_thing_1 q_6).symm | exact (an_thing_2 q_16).symm | exact (an_thing_3 q_29).symm), by rw [ht]; exact hP9, va_K.moved hW.alike hK9, hD9⟩, hS.F ht⟩) hS.2.2 dX9_thing_80
      · have q_29 := mt (w64 0 200 p5 (by decide) (by decide)).mpr q_29
        refine lv_if_ne (tgt := 38) hx hb dX9_thing_32 (by decide) (fun h9 => absurd h9 (by decide)) (fun _ => ?_)
        refine lv_ldc hx hb hown (hts (.constant RX9 70 (-100002)) (by decide +kernel)) dX9_thing_35 ?_
        have hP9 := hP.sub (ws' := []) [] rfl
        have hD9 := hD.sub (ws' := []) [] (by decide) rfl
        have hK9 := hK.sub (tys' := []) [] rfl
        refine W.widen (k := 0) (n := 0) (by omega) (by omega) ?_
        exact W.iret (v := (-100002)) hx hb hr (fun t ht hW => ⟨⟨_, (), rfl, (by first | exact (an_thing_ok q_6 q_16 q_29).symm | exact (an_thing_1 q_6).symm | exact (an_thing_2 q_16).symm | exact (an_thing_3 q_29).symm), by rw [ht]; exact hP9, va_K.moved hW.alike hK9, hD9⟩, hS.F ht⟩) hS.2.2 dX9_thing_37
    · refine lv_if_eq (tgt := 35) hx hb dX9_thing_19 (by decide) (fun _ => ?_) (fun h9 => absurd h9 (by decide))
      refine lv_ldc hx hb hown (hts (.constant RX9 70 (-100002)) (by decide +kernel)) dX9_thing_35 ?_
      have hP9 := hP.sub (ws' := []) [] rfl
      have hD9 := hD.sub (ws' := []) [] (by decide) rfl
      have hK9 := hK.sub (tys' := []) [] rfl
      refine W.widen (k := 0) (n := 0) (by omega) (by omega) ?_
      exact W.iret (v := (-100002)) hx hb hr (fun t ht hW => ⟨⟨_, (), rfl, (by first | exact (an_thing_ok q_6 q_16 q_29).symm | exact (an_thing_1 q_6).symm | exact (an_thing_2 q_16).symm | exact (an_thing_3 q_29).symm), by rw [ht]; exact hP9, va_K.moved hW.alike hK9, hD9⟩, hS.F ht⟩) hS.2.2 dX9_thing_37
  · have q_6 := mt (w64 0 39 p1 (by decide) (by decide)).mpr q_6
    refine lv_if_eq (tgt := 35) hx hb dX9_thing_9 (by decide) (fun _ => ?_) (fun h9 => absurd h9 (by decide))
    refine lv_ldc hx hb hown (hts (.constant RX9 70 (-100002)) (by decide +kernel)) dX9_thing_35 ?_
    have hP9 := hP.sub (ws' := []) [] rfl
    have hD9 := hD.sub (ws' := []) [] (by decide) rfl
    have hK9 := hK.sub (tys' := []) [] rfl
    refine W.widen (k := 0) (n := 0) (by omega) (by omega) ?_
    exact W.iret (v := (-100002)) hx hb hr (fun t ht hW => ⟨⟨_, (), rfl, (by first | exact (an_thing_ok q_6 q_16 q_29).symm | exact (an_thing_1 q_6).symm | exact (an_thing_2 q_16).symm | exact (an_thing_3 q_29).symm), by rw [ht]; exact hP9, va_K.moved hW.alike hK9, hD9⟩, hS.F ht⟩) hS.2.2 dX9_thing_37
