def wk_X6_begin : List Cond := .code yX6_begin cX6_begin 3 none :: (([.fieldLink RX6 15 "MeetingsAbove$Thing" "first" "I", .fieldLink RX6 19 "MeetingsAbove$Thing" "places" "I", .fieldLink RX6 22 "MeetingsAbove$Thing" "doubt" "I", .fieldLink RX6 25 "MeetingsAbove$Thing" "gone" "Z"] : List Cond) ++ (wsX60 ++ ([])))
theorem in_X6_begin_X6 : ∀ w ∈ wsX60, w ∈ wk_X6_begin := fun _ h => List.mem_cons_of_mem _ (List.mem_append_right _ (List.mem_append_left _ h))
theorem gw_X6_begin : AG wk_X6_begin := AG_ca (AG_l (by decide +kernel)) (AG_app ag_X6 (AG_nil))
set_option maxHeartbeats 4000000 in
set_option maxRecDepth 100000 in
theorem c_X6_begin (l : Launch) (dC : Nat → ClassId) (dI : Nat → Nat → Nat) (h0 : Nat) (x0 : Nat) (fi : Int32) (pl : Int32) (db : Int32) (go : Int32) (p1 : Int32) (p2 : Int32) (sz : Nat) : Met l yX6_begin wk_X6_begin ({ frames := 0, cells := 0, slots := 0, locals := 0 }) (va_Pc [.ref h0, .int p1, .int p2] (fun U => U.heap.size = sz ∧ va_P (dC, dI) vwCl [(h0, .inr (6, [.ref x0, .int fi, .int pl, .int db, .int go]))] U.heap ∧ va_K (dC, dI) vwCl [] U ∧ va_D (fun _ => True) [(h0, .inr (6, [.ref x0, .int fi, .int pl, .int db, .int go]))])) (va_Qv (fun (_ : Unit) => True) (fun (_ : Unit) (t : State) => va_P (dC, dI) vwCl [(h0, .inr (6, [.ref x0, .int p1, .int 0, .int p2, .int 0]))] t.heap ∧ va_K (dC, dI) vwCl [] t ∧ va_D (va_A [(h0, .inr (6, [.ref x0, .int fi, .int pl, .int db, .int go]))] sz) [(h0, .inr (6, [.ref x0, .int p1, .int 0, .int p2, .int 0]))]) (va_A [(h0, .inr (6, [.ref x0, .int fi, .int pl, .int db, .int go]))] sz)) 0 0 (va_A [(h0, .inr (6, [.ref x0, .int fi, .int pl, .int db, .int go]))] sz) := by
  refine Met.ofW (cc := cX6_begin) (maxL := 3) (ret := none) (by decide) rfl ?_
  intro p e s m args below meth c s₁ B hml hv
  obtain ⟨rfl, hsz, hP, hK, hD0⟩ := hv
  have hx := B.exec
  have hb := B.bytes
  have hr := B.returns
  have hts := atoms_spec (ws := wk_X6_begin) B.pre
  have hown : s.vm.findClass RX6 = some m.cls := findClass_of_methodNamed B.named
  have hlocks := B.notSynchronized
  subst hsz
  have hD := hD0.self (sz := s.heap.size)
  generalize hAe : va_A [(h0, .inr (6, [.ref x0, .int fi, .int pl, .int db, .int go]))] s.heap.size = A at hD ⊢
  have hA : ∀ q : Nat, s.heap.size ≤ q → A q := fun q h => by rw [← hAe]; exact Or.inr h
  have hS : va_S A s.heap s.heap [] := va_S.rf
  have hP : va_P (dC, dI) vwCl [(h0, .inr (6, [.ref x0, .int fi, .int pl, .int db, .int go]))] s.heap := hP
  have hl := lv_entry ([.ref h0, .int p1, .int p2]) (n := 3) (Nat.le_of_ble_eq_true rfl)
  rw [lg_entry_eq]
  generalize (lg_sl ([.ref h0, .int p1, .int p2]) ++ List.replicate (3 - (lg_sl ([.ref h0, .int p1, .int p2])).length) Slot.unset).toArray = ls at hl ⊢
  have hl : lv_has ls 3 [(0, .ref h0), (1, .int p1), (2, .int p2)] := hl
  refine lv_aload_n hx hb dX6_begin_0 rfl (lv_at hl 0 rfl) ?_
  refine lv_iload_n hx hb dX6_begin_1 rfl (lv_at hl 1 rfl) ?_
  refine va_put (D := (dC, dI)) (ci := 6) (v := .int p1) (ty := .int) (C := RX6) (T := TX6) (N := 5) hx hb hts in_X6_begin_X6 tyX6 tyX6_ok nmX6 hown hK hP hD hS 0 rfl rfl 1 (by decide) (hts (.fieldLink RX6 15 "MeetingsAbove$Thing" "first" "I") (by decide +kernel)) (fun _ h9 => h9) rfl (by decide +kernel) rfl rfl (Nat.le_of_ble_eq_true rfl) dX6_begin_2 (fun H locs hP hD hS => ?_)
  have hP : va_P (dC, dI) vwCl [(h0, .inr (6, [.ref x0, .int p1, .int pl, .int db, .int go]))] H := hP
  have hD : va_D A [(h0, .inr (6, [.ref x0, .int p1, .int pl, .int db, .int go]))] := hD
  refine lv_aload_n hx hb dX6_begin_5 rfl (lv_at hl 0 rfl) ?_
  refine lv_iconst (v := 0) hx hb dX6_begin_6 (by decide) ?_
  refine va_put (D := (dC, dI)) (ci := 6) (v := .int 0) (ty := .int) (C := RX6) (T := TX6) (N := 5) hx hb hts in_X6_begin_X6 tyX6 tyX6_ok nmX6 hown hK hP hD hS 0 rfl rfl 2 (by decide) (hts (.fieldLink RX6 19 "MeetingsAbove$Thing" "places" "I") (by decide +kernel)) (fun _ h9 => h9) rfl (by decide +kernel) rfl rfl (Nat.le_of_ble_eq_true rfl) dX6_begin_7 (fun H locs hP hD hS => ?_)
  have hP : va_P (dC, dI) vwCl [(h0, .inr (6, [.ref x0, .int p1, .int 0, .int db, .int go]))] H := hP
  have hD : va_D A [(h0, .inr (6, [.ref x0, .int p1, .int 0, .int db, .int go]))] := hD
  refine lv_aload_n hx hb dX6_begin_10 rfl (lv_at hl 0 rfl) ?_
  refine lv_iload_n hx hb dX6_begin_11 rfl (lv_at hl 2 rfl) ?_
  refine va_put (D := (dC, dI)) (ci := 6) (v := .int p2) (ty := .int) (C := RX6) (T := TX6) (N := 5) hx hb hts in_X6_begin_X6 tyX6 tyX6_ok nmX6 hown hK hP hD hS 0 rfl rfl 3 (by decide) (hts (.fieldLink RX6 22 "MeetingsAbove$Thing" "doubt" "I") (by decide +kernel)) (fun _ h9 => h9) rfl (by decide +kernel) rfl rfl (Nat.le_of_ble_eq_true rfl) dX6_begin_12 (fun H locs hP hD hS => ?_)
  have hP : va_P (dC, dI) vwCl [(h0, .inr (6, [.ref x0, .int p1, .int 0, .int p2, .int go]))] H := hP
  have hD : va_D A [(h0, .inr (6, [.ref x0, .int p1, .int 0, .int p2, .int go]))] := hD
  refine lv_aload_n hx hb dX6_begin_15 rfl (lv_at hl 0 rfl) ?_
  refine lv_iconst (v := 0) hx hb dX6_begin_16 (by decide) ?_
  refine va_put (D := (dC, dI)) (ci := 6) (v := .int 0) (ty := .boolean) (C := RX6) (T := TX6) (N := 5) hx hb hts in_X6_begin_X6 tyX6 tyX6_ok nmX6 hown hK hP hD hS 0 rfl rfl 4 (by decide) (hts (.fieldLink RX6 25 "MeetingsAbove$Thing" "gone" "Z") (by decide +kernel)) (fun _ h9 => h9) rfl (by decide +kernel) rfl rfl (Nat.le_of_ble_eq_true rfl) dX6_begin_17 (fun H locs hP hD hS => ?_)
  have hP : va_P (dC, dI) vwCl [(h0, .inr (6, [.ref x0, .int p1, .int 0, .int p2, .int 0]))] H := hP
  have hD : va_D A [(h0, .inr (6, [.ref x0, .int p1, .int 0, .int p2, .int 0]))] := hD
  have hP9 := hP.sub (ws' := [(h0, .inr (6, [.ref x0, .int p1, .int 0, .int p2, .int 0]))]) [0] rfl
  have hD9 := hD.sub (ws' := [(h0, .inr (6, [.ref x0, .int p1, .int 0, .int p2, .int 0]))]) [0] (by decide) rfl
  have hK9 := hK.sub (tys' := []) [] rfl
  refine W.widen (k := 0) (n := 0) (by omega) (by omega) ?_
  exact W.vret hx hb hr (fun t ht hW => ⟨⟨(), rfl, trivial, by rw [ht]; exact hP9, va_K.moved hW.alike hK9, hD9⟩, hS.F ht⟩) hS.2.2 dX6_begin_20
def wk_X6_append : List Cond := .code yX6_append cX6_append 5 (some .boolean) :: (([.fieldLink RX6 19 "MeetingsAbove$Thing" "places" "I", .fieldLink RX6 9 "MeetingsAbove$Thing" "coords" "[I"] : List Cond) ++ (wsX60 ++ ([])))
theorem in_X6_append_X6 : ∀ w ∈ wsX60, w ∈ wk_X6_append := fun _ h => List.mem_cons_of_mem _ (List.mem_append_right _ (List.mem_append_left _ h))
theorem gw_X6_append : AG wk_X6_append := AG_ca (AG_l (by decide +kernel)) (AG_app ag_X6 (AG_nil))
set_option maxHeartbeats 4000000 in
set_option maxRecDepth 100000 in
theorem c_X6_append (l : Launch) (dC : Nat → ClassId) (dI : Nat → Nat → Nat) (h0 : Nat) (x0 : Nat) (fi : Int32) (pl : Int32) (db : Int32) (go : Int32) (g : Nat → Int32) (cI : ClassId) (p1 : Int32) (p2 : Int32) (p3 : Int32) (sz : Nat) (hq0 : 0 ≤ pl.toInt) (hq1 : pl.toInt ≤ 12) : Met l yX6_append wk_X6_append ({ frames := 0, cells := 0, slots := 0, locals := 0 }) (va_Pc [.ref h0, .int p1, .int p2, .int p3] (fun U => U.heap.size = sz ∧ va_P (dC, dI) vwCl [(h0, .inr (6, [.ref x0, .int fi, .int pl, .int db, .int go])), (x0, .inl (cI, 36, .inl g))] U.heap ∧ va_K (dC, dI) vwCl [(cI, .int)] U ∧ va_D (fun _ => True) [(h0, .inr (6, [.ref x0, .int fi, .int pl, .int db, .int go])), (x0, .inl (cI, 36, .inl g))])) (va_Qi (fun (r : Int32) (_ : Unit) => r = if pl.toInt < 12 then 1 else 0) (fun (_ : Unit) (t : State) => ∃ (pl9 : Int32) (g9 : Nat → Int32), va_P (dC, dI) vwCl [(h0, .inr (6, [.ref x0, .int fi, .int pl9, .int db, .int go])), (x0, .inl (cI, 36, .inl g9))] t.heap ∧ va_K (dC, dI) vwCl [(cI, .int)] t ∧ va_D (va_A [(h0, .inr (6, [.ref x0, .int fi, .int pl, .int db, .int go])), (x0, .inl (cI, 36, .inl g))] sz) [(h0, .inr (6, [.ref x0, .int fi, .int pl9, .int db, .int go])), (x0, .inl (cI, 36, .inl g9))] ∧ ((pl.toInt < 12 ∧ pl9.toInt = pl.toInt + 1 ∧ g9 = st3 g (3 * pl.toInt).toNat p1 p2 p3) ∨ (¬ pl.toInt < 12 ∧ pl9 = pl ∧ g9 = g))) (va_A [(h0, .inr (6, [.ref x0, .int fi, .int pl, .int db, .int go])), (x0, .inl (cI, 36, .inl g))] sz)) 0 0 (va_A [(h0, .inr (6, [.ref x0, .int fi, .int pl, .int db, .int go])), (x0, .inl (cI, 36, .inl g))] sz) := by
  refine Met.ofW (cc := cX6_append) (maxL := 5) (ret := (some .boolean)) (by decide) rfl ?_
  intro p e s m args below meth c s₁ B hml hv
  obtain ⟨rfl, hsz, hP, hK, hD0⟩ := hv
  have hx := B.exec
  have hb := B.bytes
  have hr := B.returns
  have hts := atoms_spec (ws := wk_X6_append) B.pre
  have hown : s.vm.findClass RX6 = some m.cls := findClass_of_methodNamed B.named
  have hlocks := B.notSynchronized
  subst hsz
  have hD := hD0.self (sz := s.heap.size)
  generalize hAe : va_A [(h0, .inr (6, [.ref x0, .int fi, .int pl, .int db, .int go])), (x0, .inl (cI, 36, .inl g))] s.heap.size = A at hD ⊢
  have hA : ∀ q : Nat, s.heap.size ≤ q → A q := fun q h => by rw [← hAe]; exact Or.inr h
  have hS : va_S A s.heap s.heap [] := va_S.rf
  have hP : va_P (dC, dI) vwCl [(h0, .inr (6, [.ref x0, .int fi, .int pl, .int db, .int go])), (x0, .inl (cI, 36, .inl g))] s.heap := hP
  have hl := lv_entry ([.ref h0, .int p1, .int p2, .int p3]) (n := 5) (Nat.le_of_ble_eq_true rfl)
  rw [lg_entry_eq]
  generalize (lg_sl ([.ref h0, .int p1, .int p2, .int p3]) ++ List.replicate (5 - (lg_sl ([.ref h0, .int p1, .int p2, .int p3])).length) Slot.unset).toArray = ls at hl ⊢
  have hl : lv_has ls 5 [(0, .ref h0), (1, .int p1), (2, .int p2), (3, .int p3)] := hl
  have kl_0 : (0 : Int32).toInt = 0 := by decide
  have kl_1 : (1 : Int32).toInt = 1 := by decide
  have kl_2 : (2 : Int32).toInt = 2 := by decide
  have kl_3 : (3 : Int32).toInt = 3 := by decide
  have kl_33 : (33 : Int32).toInt = 33 := by decide
  refine lv_iconst (v := 3) hx hb dX6_append_0 (by decide) ?_
  refine lv_aload_n hx hb dX6_append_1 rfl (lv_at hl 0 rfl) ?_
  refine va_get (D := (dC, dI)) (ci := 6) (v := .int pl) (C := RX6) (T := TX6) (N := 5) hx hb hts in_X6_append_X6 hown hK hP 0 rfl rfl 2 (by decide) (hts (.fieldLink RX6 19 "MeetingsAbove$Thing" "places" "I") (by decide +kernel)) (fun _ h9 => h9) rfl dX6_append_2 ?_
  refine lv_imul hx hb dX6_append_5 ?_
  refine lv_topi (fun y_1 ey_1 => ?_)
  have ty_1 : y_1.toInt = 3 * pl.toInt := by rw [ey_1]; exact fm_lI kl_3 (by omega) (by omega)
  refine lv_istore (lv' := [(4, .int y_1), (0, .ref h0), (1, .int p1), (2, .int p2), (3, .int p3)]) hx hb dX6_append_6 hl (by decide) rfl (fun ls hl => ?_)
  refine lv_iload hx hb dX6_append_8 (lv_at hl 0 rfl) ?_
  refine lv_if_lt (tgt := 25) hx hb dX6_append_10 (by decide) (fun c_10 => by have t_10 := (fa_lt _ _).mp c_10; exfalso; omega) (fun c_10 => ?_)
  have t_10 := mt (fa_lt _ _).mpr c_10
  refine lv_iload hx hb dX6_append_13 (lv_at hl 0 rfl) ?_
  refine lv_aload_n hx hb dX6_append_15 rfl (lv_at hl 1 rfl) ?_
  refine va_get (D := (dC, dI)) (ci := 6) (v := .ref x0) (C := RX6) (T := TX6) (N := 5) hx hb hts in_X6_append_X6 hown hK hP 0 rfl rfl 0 (by decide) (hts (.fieldLink RX6 9 "MeetingsAbove$Thing" "coords" "[I") (by decide +kernel)) (fun _ h9 => h9) rfl dX6_append_16 ?_
  refine va_alen (v := 36) hx hb hK hP 1 0 rfl rfl rfl dX6_append_19 ?_
  refine lv_iconst (v := 3) hx hb dX6_append_20 (by decide) ?_
  refine lv_isub hx hb dX6_append_21 ?_
  refine lv_topi (fun y_2 ey_2 => ?_)
  obtain rfl : y_2 = 33 := ey_2.trans (by decide)
  refine lv_icmp_le (tgt := 27) hx hb dX6_append_22 (by decide) (fun c_22 => ?_) (fun c_22 => ?_)
  · have t_22 := (fa_le _ _).mp c_22
    refine lv_aload_n hx hb dX6_append_27 rfl (lv_at hl 1 rfl) ?_
    refine va_get (D := (dC, dI)) (ci := 6) (v := .ref x0) (C := RX6) (T := TX6) (N := 5) hx hb hts in_X6_append_X6 hown hK hP 0 rfl rfl 0 (by decide) (hts (.fieldLink RX6 9 "MeetingsAbove$Thing" "coords" "[I") (by decide +kernel)) (fun _ h9 => h9) rfl dX6_append_28 ?_
    refine lv_iload hx hb dX6_append_31 (lv_at hl 0 rfl) ?_
    refine lv_iload_n hx hb dX6_append_33 rfl (lv_at hl 2 rfl) ?_
    refine va_iast hx hb hK hP hD hS 1 0 rfl rfl (vp_in_iff.mpr ⟨by omega, by omega⟩) dX6_append_34 (fun H locs hP hD hS => ?_)
    have hP : va_P (dC, dI) vwCl [(h0, .inr (6, [.ref x0, .int fi, .int pl, .int db, .int go])), (x0, .inl (cI, 36, .inl (upd g (y_1 : Int32).toNatClampNeg p1)))] H := hP
    have hD : va_D A [(h0, .inr (6, [.ref x0, .int fi, .int pl, .int db, .int go])), (x0, .inl (cI, 36, .inl (upd g (y_1 : Int32).toNatClampNeg p1)))] := hD
    refine lv_aload_n hx hb dX6_append_35 rfl (lv_at hl 1 rfl) ?_
    refine va_get (D := (dC, dI)) (ci := 6) (v := .ref x0) (C := RX6) (T := TX6) (N := 5) hx hb hts in_X6_append_X6 hown hK hP 0 rfl rfl 0 (by decide) (hts (.fieldLink RX6 9 "MeetingsAbove$Thing" "coords" "[I") (by decide +kernel)) (fun _ h9 => h9) rfl dX6_append_36 ?_
    refine lv_iload hx hb dX6_append_39 (lv_at hl 0 rfl) ?_
    refine lv_iconst (v := 1) hx hb dX6_append_41 (by decide) ?_
    refine lv_iadd hx hb dX6_append_42 ?_
    refine lv_topi (fun y_3 ey_3 => ?_)
    have ty_3 : y_3.toInt = y_1.toInt + 1 := by rw [ey_3]; have := fb_addI (x := y_1) (y := 1) (by omega) (by omega); omega
    refine lv_iload_n hx hb dX6_append_43 rfl (lv_at hl 3 rfl) ?_
    refine va_iast hx hb hK hP hD hS 1 0 rfl rfl (vp_in_iff.mpr ⟨by omega, by omega⟩) dX6_append_44 (fun H locs hP hD hS => ?_)
    have hP : va_P (dC, dI) vwCl [(h0, .inr (6, [.ref x0, .int fi, .int pl, .int db, .int go])), (x0, .inl (cI, 36, .inl (upd (upd g (y_1 : Int32).toNatClampNeg p1) (y_3 : Int32).toNatClampNeg p2)))] H := hP
    have hD : va_D A [(h0, .inr (6, [.ref x0, .int fi, .int pl, .int db, .int go])), (x0, .inl (cI, 36, .inl (upd (upd g (y_1 : Int32).toNatClampNeg p1) (y_3 : Int32).toNatClampNeg p2)))] := hD
    refine lv_aload_n hx hb dX6_append_45 rfl (lv_at hl 1 rfl) ?_
    refine va_get (D := (dC, dI)) (ci := 6) (v := .ref x0) (C := RX6) (T := TX6) (N := 5) hx hb hts in_X6_append_X6 hown hK hP 0 rfl rfl 0 (by decide) (hts (.fieldLink RX6 9 "MeetingsAbove$Thing" "coords" "[I") (by decide +kernel)) (fun _ h9 => h9) rfl dX6_append_46 ?_
    refine lv_iload hx hb dX6_append_49 (lv_at hl 0 rfl) ?_
    refine lv_iconst (v := 2) hx hb dX6_append_51 (by decide) ?_
    refine lv_iadd hx hb dX6_append_52 ?_
    refine lv_topi (fun y_4 ey_4 => ?_)
    have ty_4 : y_4.toInt = y_1.toInt + 2 := by rw [ey_4]; have := fb_addI (x := y_1) (y := 2) (by omega) (by omega); omega
    refine lv_iload_n hx hb dX6_append_53 rfl (lv_at hl 4 rfl) ?_
    refine va_iast hx hb hK hP hD hS 1 0 rfl rfl (vp_in_iff.mpr ⟨by omega, by omega⟩) dX6_append_54 (fun H locs hP hD hS => ?_)
    have hP : va_P (dC, dI) vwCl [(h0, .inr (6, [.ref x0, .int fi, .int pl, .int db, .int go])), (x0, .inl (cI, 36, .inl (upd (upd (upd g (y_1 : Int32).toNatClampNeg p1) (y_3 : Int32).toNatClampNeg p2) (y_4 : Int32).toNatClampNeg p3)))] H := hP
    have hD : va_D A [(h0, .inr (6, [.ref x0, .int fi, .int pl, .int db, .int go])), (x0, .inl (cI, 36, .inl (upd (upd (upd g (y_1 : Int32).toNatClampNeg p1) (y_3 : Int32).toNatClampNeg p2) (y_4 : Int32).toNatClampNeg p3)))] := hD
    refine lv_aload_n hx hb dX6_append_55 rfl (lv_at hl 1 rfl) ?_
    refine lv_dup hx hb dX6_append_56 rfl ?_
    refine va_get (D := (dC, dI)) (ci := 6) (v := .int pl) (C := RX6) (T := TX6) (N := 5) hx hb hts in_X6_append_X6 hown hK hP 0 rfl rfl 2 (by decide) (hts (.fieldLink RX6 19 "MeetingsAbove$Thing" "places" "I") (by decide +kernel)) (fun _ h9 => h9) rfl dX6_append_57 ?_
    refine lv_iconst (v := 1) hx hb dX6_append_60 (by decide) ?_
    refine lv_iadd hx hb dX6_append_61 ?_
    refine lv_topi (fun y_5 ey_5 => ?_)
    have ty_5 : y_5.toInt = pl.toInt + 1 := by rw [ey_5]; have := fb_addI (x := pl) (y := 1) (by omega) (by omega); omega
    refine va_put (D := (dC, dI)) (ci := 6) (v := .int y_5) (ty := .int) (C := RX6) (T := TX6) (N := 5) hx hb hts in_X6_append_X6 tyX6 tyX6_ok nmX6 hown hK hP hD hS 0 rfl rfl 2 (by decide) (hts (.fieldLink RX6 19 "MeetingsAbove$Thing" "places" "I") (by decide +kernel)) (fun _ h9 => h9) rfl (by decide +kernel) rfl rfl (Nat.le_of_ble_eq_true rfl) dX6_append_62 (fun H locs hP hD hS => ?_)
    have hP : va_P (dC, dI) vwCl [(h0, .inr (6, [.ref x0, .int fi, .int y_5, .int db, .int go])), (x0, .inl (cI, 36, .inl (upd (upd (upd g (y_1 : Int32).toNatClampNeg p1) (y_3 : Int32).toNatClampNeg p2) (y_4 : Int32).toNatClampNeg p3)))] H := hP
    have hD : va_D A [(h0, .inr (6, [.ref x0, .int fi, .int y_5, .int db, .int go])), (x0, .inl (cI, 36, .inl (upd (upd (upd g (y_1 : Int32).toNatClampNeg p1) (y_3 : Int32).toNatClampNeg p2) (y_4 : Int32).toNatClampNeg p3)))] := hD
    refine lv_iconst (v := 1) hx hb dX6_append_65 (by decide) ?_
    have hP9 := hP.sub (ws' := [(h0, .inr (6, [.ref x0, .int fi, .int y_5, .int db, .int go])), (x0, .inl (cI, 36, .inl (upd (upd (upd g (y_1 : Int32).toNatClampNeg p1) (y_3 : Int32).toNatClampNeg p2) (y_4 : Int32).toNatClampNeg p3)))]) [0, 1] rfl
    have hD9 := hD.sub (ws' := [(h0, .inr (6, [.ref x0, .int fi, .int y_5, .int db, .int go])), (x0, .inl (cI, 36, .inl (upd (upd (upd g (y_1 : Int32).toNatClampNeg p1) (y_3 : Int32).toNatClampNeg p2) (y_4 : Int32).toNatClampNeg p3)))]) [0, 1] (by decide) rfl
    have hK9 := hK.sub (tys' := [(cI, .int)]) [0] rfl
    refine W.widen (k := 0) (n := 0) (by omega) (by omega) ?_
    exact W.zret (v := 1) hx hb hr rfl (fun t ht hW => ⟨⟨_, (), rfl, (by first | exact (if_pos (by omega)).symm | exact (if_neg (by omega)).symm), y_5, (upd (upd (upd g (y_1 : Int32).toNatClampNeg p1) (y_3 : Int32).toNatClampNeg p2) (y_4 : Int32).toNatClampNeg p3), by rw [ht]; exact hP9, va_K.moved hW.alike hK9, hD9, (by first | exact Or.inr ⟨by omega, rfl, rfl⟩ | exact Or.inl ⟨by omega, by omega, st3_eq (by omega) (by omega) (by omega) (by omega)⟩)⟩, hS.F ht⟩) hS.2.2 dX6_append_66
  · have t_22 := mt (fa_le _ _).mpr c_22
    refine lv_iconst (v := 0) hx hb dX6_append_25 (by decide) ?_
    have hP9 := hP.sub (ws' := [(h0, .inr (6, [.ref x0, .int fi, .int pl, .int db, .int go])), (x0, .inl (cI, 36, .inl g))]) [0, 1] rfl
    have hD9 := hD.sub (ws' := [(h0, .inr (6, [.ref x0, .int fi, .int pl, .int db, .int go])), (x0, .inl (cI, 36, .inl g))]) [0, 1] (by decide) rfl
    have hK9 := hK.sub (tys' := [(cI, .int)]) [0] rfl
    refine W.widen (k := 0) (n := 0) (by omega) (by omega) ?_
    exact W.zret (v := 0) hx hb hr rfl (fun t ht hW => ⟨⟨_, (), rfl, (by first | exact (if_pos (by omega)).symm | exact (if_neg (by omega)).symm), pl, g, by rw [ht]; exact hP9, va_K.moved hW.alike hK9, hD9, (by first | exact Or.inr ⟨by omega, rfl, rfl⟩ | exact Or.inl ⟨by omega, by omega, st3_eq (by omega) (by omega) (by omega) (by omega)⟩)⟩, hS.F ht⟩) hS.2.2 dX6_append_26
def wk_X6_isSame : List Cond := .code yX6_isSame cX6_isSame 3 (some .boolean) :: (([.fieldLink RX6 15 "MeetingsAbove$Thing" "first" "I", .fieldLink RX6 19 "MeetingsAbove$Thing" "places" "I", .fieldLink RX6 22 "MeetingsAbove$Thing" "doubt" "I", .fieldLink RX6 25 "MeetingsAbove$Thing" "gone" "Z", .fieldLink RX6 9 "MeetingsAbove$Thing" "coords" "[I"] : List Cond) ++ (wsX60 ++ ([])))
theorem in_X6_isSame_X6 : ∀ w ∈ wsX60, w ∈ wk_X6_isSame := fun _ h => List.mem_cons_of_mem _ (List.mem_append_right _ (List.mem_append_left _ h))
theorem gw_X6_isSame : AG wk_X6_isSame := AG_ca (AG_l (by decide +kernel)) (AG_app ag_X6 (AG_nil))
set_option maxHeartbeats 4000000 in
set_option maxRecDepth 100000 in
theorem c_X6_isSame (l : Launch) (dC : Nat → ClassId) (dI : Nat → Nat → Nat) (h0 : Nat) (x0 : Nat) (fi : Int32) (pl : Int32) (db : Int32) (go : Int32) (g : Nat → Int32) (h1 : Nat) (x1 : Nat) (fi1 : Int32) (pl1 : Int32) (db1 : Int32) (go1 : Int32) (g1 : Nat → Int32) (cI : ClassId) (ht : tOK fi pl) : Met l yX6_isSame wk_X6_isSame ({ frames := 0, cells := 0, slots := 0, locals := 0 }) (va_Pc [.ref h0, .ref h1] (fun U => va_P (dC, dI) vwCl [(h0, .inr (6, [.ref x0, .int fi, .int pl, .int db, .int go])), (x0, .inl (cI, 36, .inl g)), (h1, .inr (6, [.ref x1, .int fi1, .int pl1, .int db1, .int go1])), (x1, .inl (cI, 36, .inl g1))] U.heap ∧ va_K (dC, dI) vwCl [(cI, .int)] U)) (vp_Si (fun r => True)) 0 0 (fun _ => False) := by
  refine Met.ofW (cc := cX6_isSame) (maxL := 3) (ret := (some .boolean)) (by decide) rfl ?_
  intro p e s m args below meth c s₁ B hml hv
  obtain ⟨rfl, hP, hK⟩ := hv
  have hx := B.exec
  have hb := B.bytes
  have hr := B.returns
  have hts := atoms_spec (ws := wk_X6_isSame) B.pre
  have hown : s.vm.findClass RX6 = some m.cls := findClass_of_methodNamed B.named
  have hlocks := B.notSynchronized
  have hP : va_P (dC, dI) vwCl [(h0, .inr (6, [.ref x0, .int fi, .int pl, .int db, .int go])), (x0, .inl (cI, 36, .inl g)), (h1, .inr (6, [.ref x1, .int fi1, .int pl1, .int db1, .int go1])), (x1, .inl (cI, 36, .inl g1))] s.heap := hP
  have hl := lv_entry ([.ref h0, .ref h1]) (n := 3) (Nat.le_of_ble_eq_true rfl)
  rw [lg_entry_eq]
  generalize (lg_sl ([.ref h0, .ref h1]) ++ List.replicate (3 - (lg_sl ([.ref h0, .ref h1])).length) Slot.unset).toArray = ls at hl ⊢
  have hl : lv_has ls 3 [(0, .ref h0), (1, .ref h1)] := hl
  have kl_0 : (0 : Int32).toInt = 0 := by decide
  have kl_1 : (1 : Int32).toInt = 1 := by decide
  have kl_3 : (3 : Int32).toInt = 3 := by decide
  have kl_36 : (36 : Int32).toInt = 36 := by decide
  obtain ⟨hf0, hf1, hq0, hq1⟩ := id ht
  refine lv_aload_n hx hb dX6_isSame_0 rfl (lv_at hl 0 rfl) ?_
  refine va_get (D := (dC, dI)) (ci := 6) (v := .int fi) (C := RX6) (T := TX6) (N := 5) hx hb hts in_X6_isSame_X6 hown hK hP 0 rfl rfl 1 (by decide) (hts (.fieldLink RX6 15 "MeetingsAbove$Thing" "first" "I") (by decide +kernel)) (fun _ h9 => h9) rfl dX6_isSame_1 ?_
  refine lv_aload_n hx hb dX6_isSame_4 rfl (lv_at hl 1 rfl) ?_
  refine va_get (D := (dC, dI)) (ci := 6) (v := .int fi1) (C := RX6) (T := TX6) (N := 5) hx hb hts in_X6_isSame_X6 hown hK hP 2 rfl rfl 1 (by decide) (hts (.fieldLink RX6 15 "MeetingsAbove$Thing" "first" "I") (by decide +kernel)) (fun _ h9 => h9) rfl dX6_isSame_5 ?_
  refine lv_icmp_ne (tgt := 44) hx hb dX6_isSame_8 (by decide) (fun c_8 => ?_) (fun c_8 => ?_)
  · have t_8 := mt (fa_eq _ _).mpr c_8
    refine lv_iconst (v := 0) hx hb dX6_isSame_44 (by decide) ?_
    exact W.zret (v := 0) hx hb hr rfl (fun t ht _ => ⟨_, rfl, trivial, ht⟩) (fun _ h => absurd h List.not_mem_nil) dX6_isSame_45
  · have t_8 := (fa_eq _ _).mp c_8
    refine lv_aload_n hx hb dX6_isSame_11 rfl (lv_at hl 0 rfl) ?_
    refine va_get (D := (dC, dI)) (ci := 6) (v := .int pl) (C := RX6) (T := TX6) (N := 5) hx hb hts in_X6_isSame_X6 hown hK hP 0 rfl rfl 2 (by decide) (hts (.fieldLink RX6 19 "MeetingsAbove$Thing" "places" "I") (by decide +kernel)) (fun _ h9 => h9) rfl dX6_isSame_12 ?_
    refine lv_aload_n hx hb dX6_isSame_15 rfl (lv_at hl 1 rfl) ?_
    refine va_get (D := (dC, dI)) (ci := 6) (v := .int pl1) (C := RX6) (T := TX6) (N := 5) hx hb hts in_X6_isSame_X6 hown hK hP 2 rfl rfl 2 (by decide) (hts (.fieldLink RX6 19 "MeetingsAbove$Thing" "places" "I") (by decide +kernel)) (fun _ h9 => h9) rfl dX6_isSame_16 ?_
    refine lv_icmp_ne (tgt := 44) hx hb dX6_isSame_19 (by decide) (fun c_19 => ?_) (fun c_19 => ?_)
    · have t_19 := mt (fa_eq _ _).mpr c_19
      refine lv_iconst (v := 0) hx hb dX6_isSame_44 (by decide) ?_
      exact W.zret (v := 0) hx hb hr rfl (fun t ht _ => ⟨_, rfl, trivial, ht⟩) (fun _ h => absurd h List.not_mem_nil) dX6_isSame_45
    · have t_19 := (fa_eq _ _).mp c_19
      refine lv_aload_n hx hb dX6_isSame_22 rfl (lv_at hl 0 rfl) ?_
      refine va_get (D := (dC, dI)) (ci := 6) (v := .int db) (C := RX6) (T := TX6) (N := 5) hx hb hts in_X6_isSame_X6 hown hK hP 0 rfl rfl 3 (by decide) (hts (.fieldLink RX6 22 "MeetingsAbove$Thing" "doubt" "I") (by decide +kernel)) (fun _ h9 => h9) rfl dX6_isSame_23 ?_
      refine lv_aload_n hx hb dX6_isSame_26 rfl (lv_at hl 1 rfl) ?_
      refine va_get (D := (dC, dI)) (ci := 6) (v := .int db1) (C := RX6) (T := TX6) (N := 5) hx hb hts in_X6_isSame_X6 hown hK hP 2 rfl rfl 3 (by decide) (hts (.fieldLink RX6 22 "MeetingsAbove$Thing" "doubt" "I") (by decide +kernel)) (fun _ h9 => h9) rfl dX6_isSame_27 ?_
      refine lv_icmp_ne (tgt := 44) hx hb dX6_isSame_30 (by decide) (fun c_30 => ?_) (fun c_30 => ?_)
      · have t_30 := mt (fa_eq _ _).mpr c_30
        refine lv_iconst (v := 0) hx hb dX6_isSame_44 (by decide) ?_
        exact W.zret (v := 0) hx hb hr rfl (fun t ht _ => ⟨_, rfl, trivial, ht⟩) (fun _ h => absurd h List.not_mem_nil) dX6_isSame_45
      · have t_30 := (fa_eq _ _).mp c_30
        refine lv_aload_n hx hb dX6_isSame_33 rfl (lv_at hl 0 rfl) ?_
        refine va_get (D := (dC, dI)) (ci := 6) (v := .int go) (C := RX6) (T := TX6) (N := 5) hx hb hts in_X6_isSame_X6 hown hK hP 0 rfl rfl 4 (by decide) (hts (.fieldLink RX6 25 "MeetingsAbove$Thing" "gone" "Z") (by decide +kernel)) (fun _ h9 => h9) rfl dX6_isSame_34 ?_
        refine lv_aload_n hx hb dX6_isSame_37 rfl (lv_at hl 1 rfl) ?_
        refine va_get (D := (dC, dI)) (ci := 6) (v := .int go1) (C := RX6) (T := TX6) (N := 5) hx hb hts in_X6_isSame_X6 hown hK hP 2 rfl rfl 4 (by decide) (hts (.fieldLink RX6 25 "MeetingsAbove$Thing" "gone" "Z") (by decide +kernel)) (fun _ h9 => h9) rfl dX6_isSame_38 ?_
        refine lv_icmp_eq (tgt := 46) hx hb dX6_isSame_41 (by decide) (fun c_41 => ?_) (fun c_41 => ?_)
        · have t_41 := (fa_eq _ _).mp c_41
          refine lv_iconst (v := 0) hx hb dX6_isSame_46 (by decide) ?_
          refine lv_istore_n (lv' := [(2, .int 0), (0, .ref h0), (1, .ref h1)]) hx hb dX6_isSame_47 rfl hl (by decide) rfl (fun ls hl => ?_)
          refine (show ∀ (k : Nat) (i2 : Int32) (hi0 : 0 ≤ i2.toInt) (hi1 : i2.toInt ≤ 36) (hk_48 : (36 - i2.toInt).toNat < k) (ls : Array Slot) (hl : lv_has ls 3 [(0, .ref h0), (1, .ref h1), (2, .int i2)]), W p l e _ s m _ below meth c s.heap [] 0 0 _ (F0 m 48 ls []) from ?_) _ 0 (by omega) (by omega) (Nat.lt_succ_self _) ls (lv_sub hl [1, 2, 0] rfl)
          intro k
          induction k with
          | zero => intro i2 hi0 hi1 hk_48; exact absurd hk_48 (Nat.not_lt_zero _)
          | succ k ih_48 =>
            intro i2 hi0 hi1 hk_48 ls hl
            refine lv_iload_n hx hb dX6_isSame_48 rfl (lv_at hl 2 rfl) ?_
            refine lv_iconst (v := 3) hx hb dX6_isSame_49 (by decide) ?_
            refine lv_aload_n hx hb dX6_isSame_50 rfl (lv_at hl 0 rfl) ?_
            refine va_get (D := (dC, dI)) (ci := 6) (v := .int pl) (C := RX6) (T := TX6) (N := 5) hx hb hts in_X6_isSame_X6 hown hK hP 0 rfl rfl 2 (by decide) (hts (.fieldLink RX6 19 "MeetingsAbove$Thing" "places" "I") (by decide +kernel)) (fun _ h9 => h9) rfl dX6_isSame_51 ?_
            refine lv_imul hx hb dX6_isSame_54 ?_
            refine lv_topi (fun y_1 ey_1 => ?_)
            have ty_1 : y_1.toInt = 3 * pl.toInt := by rw [ey_1]; exact fm_lI kl_3 (by omega) (by omega)
            refine lv_icmp_ge (tgt := 99) hx hb dX6_isSame_55 (by decide) (fun c_55 => ?_) (fun c_55 => ?_)
            · have t_55 := (fa_le _ _).mp c_55
              refine lv_iconst (v := 1) hx hb dX6_isSame_99 (by decide) ?_
              exact W.zret (v := 1) hx hb hr rfl (fun t ht _ => ⟨_, rfl, trivial, ht⟩) (fun _ h => absurd h List.not_mem_nil) dX6_isSame_100
            · have t_55 := mt (fa_le _ _).mpr c_55
              refine lv_iload_n hx hb dX6_isSame_58 rfl (lv_at hl 2 rfl) ?_
              refine lv_aload_n hx hb dX6_isSame_59 rfl (lv_at hl 0 rfl) ?_
              refine va_get (D := (dC, dI)) (ci := 6) (v := .ref x0) (C := RX6) (T := TX6) (N := 5) hx hb hts in_X6_isSame_X6 hown hK hP 0 rfl rfl 0 (by decide) (hts (.fieldLink RX6 9 "MeetingsAbove$Thing" "coords" "[I") (by decide +kernel)) (fun _ h9 => h9) rfl dX6_isSame_60 ?_
              refine va_alen (v := 36) hx hb hK hP 1 0 rfl rfl rfl dX6_isSame_63 ?_
              refine lv_icmp_ge (tgt := 99) hx hb dX6_isSame_64 (by decide) (fun c_64 => ?_) (fun c_64 => ?_)
              · have t_64 := (fa_le _ _).mp c_64
                refine lv_iconst (v := 1) hx hb dX6_isSame_99 (by decide) ?_
                exact W.zret (v := 1) hx hb hr rfl (fun t ht _ => ⟨_, rfl, trivial, ht⟩) (fun _ h => absurd h List.not_mem_nil) dX6_isSame_100
              · have t_64 := mt (fa_le _ _).mpr c_64
                refine lv_iload_n hx hb dX6_isSame_67 rfl (lv_at hl 2 rfl) ?_
                refine lv_aload_n hx hb dX6_isSame_68 rfl (lv_at hl 1 rfl) ?_
                refine va_get (D := (dC, dI)) (ci := 6) (v := .ref x1) (C := RX6) (T := TX6) (N := 5) hx hb hts in_X6_isSame_X6 hown hK hP 2 rfl rfl 0 (by decide) (hts (.fieldLink RX6 9 "MeetingsAbove$Thing" "coords" "[I") (by decide +kernel)) (fun _ h9 => h9) rfl dX6_isSame_69 ?_
                refine va_alen (v := 36) hx hb hK hP 3 0 rfl rfl rfl dX6_isSame_72 ?_
                refine lv_icmp_ge (tgt := 99) hx hb dX6_isSame_73 (by decide) (fun c_73 => ?_) (fun c_73 => ?_)
                · have t_73 := (fa_le _ _).mp c_73
                  refine lv_iconst (v := 1) hx hb dX6_isSame_99 (by decide) ?_
                  exact W.zret (v := 1) hx hb hr rfl (fun t ht _ => ⟨_, rfl, trivial, ht⟩) (fun _ h => absurd h List.not_mem_nil) dX6_isSame_100
                · have t_73 := mt (fa_le _ _).mpr c_73
                  refine lv_aload_n hx hb dX6_isSame_76 rfl (lv_at hl 0 rfl) ?_
                  refine va_get (D := (dC, dI)) (ci := 6) (v := .ref x0) (C := RX6) (T := TX6) (N := 5) hx hb hts in_X6_isSame_X6 hown hK hP 0 rfl rfl 0 (by decide) (hts (.fieldLink RX6 9 "MeetingsAbove$Thing" "coords" "[I") (by decide +kernel)) (fun _ h9 => h9) rfl dX6_isSame_77 ?_
                  refine lv_iload_n hx hb dX6_isSame_80 rfl (lv_at hl 2 rfl) ?_
                  refine va_iald hx hb hK hP 1 0 rfl rfl (vp_in_iff.mpr ⟨by omega, by omega⟩) dX6_isSame_81 ?_
                  refine lv_topi (fun y_2 ey_2 => ?_)
                  refine lv_aload_n hx hb dX6_isSame_82 rfl (lv_at hl 1 rfl) ?_
                  refine va_get (D := (dC, dI)) (ci := 6) (v := .ref x1) (C := RX6) (T := TX6) (N := 5) hx hb hts in_X6_isSame_X6 hown hK hP 2 rfl rfl 0 (by decide) (hts (.fieldLink RX6 9 "MeetingsAbove$Thing" "coords" "[I") (by decide +kernel)) (fun _ h9 => h9) rfl dX6_isSame_83 ?_
                  refine lv_iload_n hx hb dX6_isSame_86 rfl (lv_at hl 2 rfl) ?_
                  refine va_iald hx hb hK hP 3 0 rfl rfl (vp_in_iff.mpr ⟨by omega, by omega⟩) dX6_isSame_87 ?_
                  refine lv_topi (fun y_3 ey_3 => ?_)
                  refine lv_icmp_eq (tgt := 93) hx hb dX6_isSame_88 (by decide) (fun c_88 => ?_) (fun c_88 => ?_)
                  · have t_88 := (fa_eq _ _).mp c_88
                    obtain ⟨y_4, ey_4⟩ : ∃ y : Int32, y = i2 + 1 := ⟨_, rfl⟩
                    have ty_4 : y_4.toInt = i2.toInt + 1 := by rw [ey_4]; have := fb_addI (x := i2) (y := 1) (by omega) (by omega); omega
                    refine lv_iinc (v := y_4) (lv' := [(2, .int y_4), (0, .ref h0), (1, .ref h1)]) hx hb dX6_isSame_93 hl (k := 2) rfl (by rw [ey_4]; rfl) (by decide) rfl (fun ls hl => ?_)
                    refine lv_goto (tgt := 48) hx hb dX6_isSame_96 (by decide) ?_
                    exact ih_48 y_4 (by omega) (by omega) (by omega) ls (lv_sub hl [1, 2, 0] rfl)
                  · have t_88 := mt (fa_eq _ _).mpr c_88
                    refine lv_iconst (v := 0) hx hb dX6_isSame_91 (by decide) ?_
                    exact W.zret (v := 0) hx hb hr rfl (fun t ht _ => ⟨_, rfl, trivial, ht⟩) (fun _ h => absurd h List.not_mem_nil) dX6_isSame_92
        · have t_41 := mt (fa_eq _ _).mpr c_41
          refine lv_iconst (v := 0) hx hb dX6_isSame_44 (by decide) ?_
          exact W.zret (v := 0) hx hb hr rfl (fun t ht _ => ⟨_, rfl, trivial, ht⟩) (fun _ h => absurd h List.not_mem_nil) dX6_isSame_45
