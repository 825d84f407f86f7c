def wk_X6_begin : List Cond := .code yX6_begin cX6_begin 3 none :: ([.fieldLink RX6 15 "MeetingsAbove$Thing" "first" "I", .fieldLink RX6 19 "MeetingsAbove$Thing" "places" "I", .fieldLink RX6 22 "MeetingsAbove$Thing" "doubt" "I", .fieldLink RX6 25 "MeetingsAbove$Thing" "gone" "Z"] ++ wsX60)
theorem in_X6_begin_X6 : ∀ w ∈ wsX60, w ∈ wk_X6_begin := fun _ h => List.mem_cons_of_mem _ (List.mem_append_right _ h)
set_option maxHeartbeats 4000000 in
set_option maxRecDepth 100000 in
theorem c_X6_begin (l : Launch) (dC : Nat → ClassId) (dI : Nat → Nat → Nat) (h0 : Nat) (x0 : Nat) (fi : Int32) (pl : Int32) (db : Int32) (go : Int32) (p1 : Int32) (p2 : Int32) (sz : Nat) : Met l yX6_begin wk_X6_begin ({ frames := 0, cells := 0, slots := 0, locals := 0 }) (va_Pc [.ref h0, .int p1, .int p2] (fun U => U.heap.size = sz ∧ va_P (dC, dI) vwCl [(h0, .inr (6, [.ref x0, .int fi, .int pl, .int db, .int go]))] U.heap ∧ va_K (dC, dI) vwCl [] U ∧ va_D (fun _ => True) [(h0, .inr (6, [.ref x0, .int fi, .int pl, .int db, .int go]))])) (va_Qv (fun (_ : Unit) => True) (fun (_ : Unit) (t : State) => va_P (dC, dI) vwCl [(h0, .inr (6, [.ref x0, .int p1, .int 0, .int p2, .int 0]))] t.heap ∧ va_K (dC, dI) vwCl [] t ∧ va_D (va_A [(h0, .inr (6, [.ref x0, .int fi, .int pl, .int db, .int go]))] sz) [(h0, .inr (6, [.ref x0, .int p1, .int 0, .int p2, .int 0]))]) (va_A [(h0, .inr (6, [.ref x0, .int fi, .int pl, .int db, .int go]))] sz)) 0 0 (va_A [(h0, .inr (6, [.ref x0, .int fi, .int pl, .int db, .int go]))] sz) := by
  refine Met.ofW (cc := cX6_begin) (maxL := 3) (ret := none) (by decide) rfl ?_
  intro p e s m args below meth c s₁ B hml hv
  obtain ⟨rfl, hsz, hP, hK, hD0⟩ := hv
  have hx := B.exec
  have hb := B.bytes
  have hr := B.returns
  have hts := atoms_spec (ws := wk_X6_begin) B.pre
  have hown : s.vm.findClass RX6 = some m.cls := findClass_of_methodNamed B.named
  have hlocks := B.notSynchronized
  subst hsz
  have hD := hD0.self (sz := s.heap.size)
  generalize hAe : va_A [(h0, .inr (6, [.ref x0, .int fi, .int pl, .int db, .int go]))] s.heap.size = A at hD ⊢
  have hA : ∀ q : Nat, s.heap.size ≤ q → A q := fun q h => by rw [← hAe]; exact Or.inr h
  have hS : va_S A s.heap s.heap [] := va_S.rf
  have hP : va_P (dC, dI) vwCl [(h0, .inr (6, [.ref x0, .int fi, .int pl, .int db, .int go]))] s.heap := hP
  have hl := lv_entry ([.ref h0, .int p1, .int p2]) (n := 3) (Nat.le_of_ble_eq_true rfl)
  rw [lg_entry_eq]
  generalize (lg_sl ([.ref h0, .int p1, .int p2]) ++ List.replicate (3 - (lg_sl ([.ref h0, .int p1, .int p2])).length) Slot.unset).toArray = ls at hl ⊢
  have hl : lv_has ls 3 [(0, .ref h0), (1, .int p1), (2, .int p2)] := hl
  refine lv_aload_n hx hb dX6_begin_0 rfl (lv_at hl 0 rfl) ?_
  refine lv_iload_n hx hb dX6_begin_1 rfl (lv_at hl 1 rfl) ?_
  refine va_put (D := (dC, dI)) (ci := 6) (v := .int p1) (ty := .int) (C := RX6) (T := TX6) (N := 5) hx hb hts in_X6_begin_X6 tyX6 tyX6_ok nmX6 hown hK hP hD hS 0 rfl rfl 1 (by decide) (hts (.fieldLink RX6 15 "MeetingsAbove$Thing" "first" "I") (by decide +kernel)) (fun _ h9 => h9) rfl (by decide +kernel) rfl rfl (Nat.le_of_ble_eq_true rfl) dX6_begin_2 (fun H locs hP hD hS => ?_)
  have hP : va_P (dC, dI) vwCl [(h0, .inr (6, [.ref x0, .int p1, .int pl, .int db, .int go]))] H := hP
  have hD : va_D A [(h0, .inr (6, [.ref x0, .int p1, .int pl, .int db, .int go]))] := hD
  refine lv_aload_n hx hb dX6_begin_5 rfl (lv_at hl 0 rfl) ?_
  refine lv_iconst (v := 0) hx hb dX6_begin_6 (by decide) ?_
  refine va_put (D := (dC, dI)) (ci := 6) (v := .int 0) (ty := .int) (C := RX6) (T := TX6) (N := 5) hx hb hts in_X6_begin_X6 tyX6 tyX6_ok nmX6 hown hK hP hD hS 0 rfl rfl 2 (by decide) (hts (.fieldLink RX6 19 "MeetingsAbove$Thing" "places" "I") (by decide +kernel)) (fun _ h9 => h9) rfl (by decide +kernel) rfl rfl (Nat.le_of_ble_eq_true rfl) dX6_begin_7 (fun H locs hP hD hS => ?_)
  have hP : va_P (dC, dI) vwCl [(h0, .inr (6, [.ref x0, .int p1, .int 0, .int db, .int go]))] H := hP
  have hD : va_D A [(h0, .inr (6, [.ref x0, .int p1, .int 0, .int db, .int go]))] := hD
  refine lv_aload_n hx hb dX6_begin_10 rfl (lv_at hl 0 rfl) ?_
  refine lv_iload_n hx hb dX6_begin_11 rfl (lv_at hl 2 rfl) ?_
  refine va_put (D := (dC, dI)) (ci := 6) (v := .int p2) (ty := .int) (C := RX6) (T := TX6) (N := 5) hx hb hts in_X6_begin_X6 tyX6 tyX6_ok nmX6 hown hK hP hD hS 0 rfl rfl 3 (by decide) (hts (.fieldLink RX6 22 "MeetingsAbove$Thing" "doubt" "I") (by decide +kernel)) (fun _ h9 => h9) rfl (by decide +kernel) rfl rfl (Nat.le_of_ble_eq_true rfl) dX6_begin_12 (fun H locs hP hD hS => ?_)
  have hP : va_P (dC, dI) vwCl [(h0, .inr (6, [.ref x0, .int p1, .int 0, .int p2, .int go]))] H := hP
  have hD : va_D A [(h0, .inr (6, [.ref x0, .int p1, .int 0, .int p2, .int go]))] := hD
  refine lv_aload_n hx hb dX6_begin_15 rfl (lv_at hl 0 rfl) ?_
  refine lv_iconst (v := 0) hx hb dX6_begin_16 (by decide) ?_
  refine va_put (D := (dC, dI)) (ci := 6) (v := .int 0) (ty := .boolean) (C := RX6) (T := TX6) (N := 5) hx hb hts in_X6_begin_X6 tyX6 tyX6_ok nmX6 hown hK hP hD hS 0 rfl rfl 4 (by decide) (hts (.fieldLink RX6 25 "MeetingsAbove$Thing" "gone" "Z") (by decide +kernel)) (fun _ h9 => h9) rfl (by decide +kernel) rfl rfl (Nat.le_of_ble_eq_true rfl) dX6_begin_17 (fun H locs hP hD hS => ?_)
  have hP : va_P (dC, dI) vwCl [(h0, .inr (6, [.ref x0, .int p1, .int 0, .int p2, .int 0]))] H := hP
  have hD : va_D A [(h0, .inr (6, [.ref x0, .int p1, .int 0, .int p2, .int 0]))] := hD
  have hP9 := hP.sub (ws' := [(h0, .inr (6, [.ref x0, .int p1, .int 0, .int p2, .int 0]))]) [0] rfl
  have hD9 := hD.sub (ws' := [(h0, .inr (6, [.ref x0, .int p1, .int 0, .int p2, .int 0]))]) [0] (by decide) rfl
  have hK9 := hK.sub (tys' := []) [] rfl
  refine W.widen (k := 0) (n := 0) (by omega) (by omega) ?_
  exact W.vret hx hb hr (fun t ht hW => ⟨⟨(), rfl, trivial, by rw [ht]; exact hP9, va_K.moved hW.alike hK9, hD9⟩, hS.F ht⟩) hS.2.2 dX6_begin_20
def wk_X6_append : List Cond := .code yX6_append cX6_append 5 (some .boolean) :: ([.fieldLink RX6 19 "MeetingsAbove$Thing" "places" "I", .fieldLink RX6 9 "MeetingsAbove$Thing" "coords" "[I"] ++ wsX60)
theorem in_X6_append_X6 : ∀ w ∈ wsX60, w ∈ wk_X6_append := fun _ h => List.mem_cons_of_mem _ (List.mem_append_right _ h)
set_option maxHeartbeats 4000000 in
set_option maxRecDepth 100000 in
theorem c_X6_append (l : Launch) (dC : Nat → ClassId) (dI : Nat → Nat → Nat) (h0 : Nat) (x0 : Nat) (fi : Int32) (pl : Int32) (db : Int32) (go : Int32) (g : Nat → Int32) (cI : ClassId) (p1 : Int32) (p2 : Int32) (p3 : Int32) (sz : Nat) (hq0 : 0 ≤ pl.toInt) (hq1 : pl.toInt ≤ 12) : Met l yX6_append wk_X6_append ({ frames := 0, cells := 0, slots := 0, locals := 0 }) (va_Pc [.ref h0, .int p1, .int p2, .int p3] (fun U => U.heap.size = sz ∧ va_P (dC, dI) vwCl [(h0, .inr (6, [.ref x0, .int fi, .int pl, .int db, .int go])), (x0, .inl (cI, 36, .inl g))] U.heap ∧ va_K (dC, dI) vwCl [(cI, .int)] U ∧ va_D (fun _ => True) [(h0, .inr (6, [.ref x0, .int fi, .int pl, .int db, .int go])), (x0, .inl (cI, 36, .inl g))])) (va_Qi (fun (r : Int32) (_ : Unit) => r = if pl.toInt < 12 then 1 else 0) (fun (_ : Unit) (t : State) => ∃ (pl9 : Int32) (g9 : Nat → Int32), va_P (dC, dI) vwCl [(h0, .inr (6, [.ref x0, .int fi, .int pl9, .int db, .int go])), (x0, .inl (cI, 36, .inl g9))] t.heap ∧ va_K (dC, dI) vwCl [(cI, .int)] t ∧ va_D (va_A [(h0, .inr (6, [.ref x0, .int fi, .int pl, .int db, .int go])), (x0, .inl (cI, 36, .inl g))] sz) [(h0, .inr (6, [.ref x0, .int fi, .int pl9, .int db, .int go])), (x0, .inl (cI, 36, .inl g9))] ∧ ((pl.toInt < 12 ∧ pl9.toInt = pl.toInt + 1 ∧ g9 = st3 g (3 * pl.toInt).toNat p1 p2 p3) ∨ (¬ pl.toInt < 12 ∧ pl9 = pl ∧ g9 = g))) (va_A [(h0, .inr (6, [.ref x0, .int fi, .int pl, .int db, .int go])), (x0, .inl (cI, 36, .inl g))] sz)) 0 0 (va_A [(h0, .inr (6, [.ref x0, .int fi, .int pl, .int db, .int go])), (x0, .inl (cI, 36, .inl g))] sz) := by
  refine Met.ofW (cc := cX6_append) (maxL := 5) (ret := (some .boolean)) (by decide) rfl ?_
  intro p e s m args below meth c s₁ B hml hv
  obtain ⟨rfl, hsz, hP, hK, hD0⟩ := hv
  have hx := B.exec
  have hb := B.bytes
  have hr := B.returns
  have hts := atoms_spec (ws := wk_X6_append) B.pre
  have hown : s.vm.findClass RX6 = some m.cls := findClass_of_methodNamed B.named
  have hlocks := B.notSynchronized
  subst hsz
  have hD := hD0.self (sz := s.heap.size)
  generalize hAe : va_A [(h0, .inr (6, [.ref x0, .int fi, .int pl, .int db, .int go])), (x0, .inl (cI, 36, .inl g))] s.heap.size = A at hD ⊢
  have hA : ∀ q : Nat, s.heap.size ≤ q → A q := fun q h => by rw [← hAe]; exact Or.inr h
  have hS : va_S A s.heap s.heap [] := va_S.rf
  have hP : va_P (dC, dI) vwCl [(h0, .inr (6, [.ref x0, .int fi, .int pl, .int db, .int go])), (x0, .inl (cI, 36, .inl g))] s.heap := hP
  have hl := lv_entry ([.ref h0, .int p1, .int p2, .int p3]) (n := 5) (Nat.le_of_ble_eq_true rfl)
  rw [lg_entry_eq]
  generalize (lg_sl ([.ref h0, .int p1, .int p2, .int p3]) ++ List.replicate (5 - (lg_sl ([.ref h0, .int p1, .int p2, .int p3])).length) Slot.unset).toArray = ls at hl ⊢
  have hl : lv_has ls 5 [(0, .ref h0), (1, .int p1), (2, .int p2), (3, .int p3)] := hl
  have kl_0 : (0 : Int32).toInt = 0 := by decide
  have kl_1 : (1 : Int32).toInt = 1 := by decide
  have kl_2 : (2 : Int32).toInt = 2 := by decide
  have kl_3 : (3 : Int32).toInt = 3 := by decide
  have kl_33 : (33 : Int32).toInt = 33 := by decide
  refine lv_iconst (v := 3) hx hb dX6_append_0 (by decide) ?_
  refine lv_aload_n hx hb dX6_append_1 rfl (lv_at hl 0 rfl) ?_
  refine va_get (D := (dC, dI)) (ci := 6) (v := .int pl) (C := RX6) (T := TX6) (N := 5) hx hb hts in_X6_append_X6 hown hK hP 0 rfl rfl 2 (by decide) (hts (.fieldLink RX6 19 "MeetingsAbove$Thing" "places" "I") (by decide +kernel)) (fun _ h9 => h9) rfl dX6_append_2 ?_
  refine lv_imul hx hb dX6_append_5 ?_
  refine lv_topi (fun y_1 ey_1 => ?_)
  have ty_1 : y_1.toInt = 3 * pl.toInt := by rw [ey_1]; exact fm_lI kl_3 (by omega) (by omega)
  refine lv_istore (lv' := [(4, .int y_1), (0, .ref h0), (1, .int p1), (2, .int p2), (3, .int p3)]) hx hb dX6_append_6 hl (by decide) rfl (fun ls hl => ?_)
  refine lv_iload hx hb dX6_append_8 (lv_at hl 0 rfl) ?_
  refine lv_if_lt (tgt := 25) hx hb dX6_append_10 (by decide) (fun c_10 => by have t_10 := (fa_lt _ _).mp c_10; exfalso; omega) (fun c_10 => ?_)
  have t_10 := mt (fa_lt _ _).mpr c_10
  refine lv_iload hx hb dX6_append_13 (lv_at hl 0 rfl) ?_
  refine lv_aload_n hx hb dX6_append_15 rfl (lv_at hl 1 rfl) ?_
  refine va_get (D := (dC, dI)) (ci := 6) (v := .ref x0) (C := RX6) (T := TX6) (N := 5) hx hb hts in_X6_append_X6 hown hK hP 0 rfl rfl 0 (by decide) (hts (.fieldLink RX6 9 "MeetingsAbove$Thing" "coords" "[I") (by decide +kernel)) (fun _ h9 => h9) rfl dX6_append_16 ?_
  refine va_alen (v := 36) hx hb hK hP 1 0 rfl rfl rfl dX6_append_19 ?_
  refine lv_iconst (v := 3) hx hb dX6_append_20 (by decide) ?_
  refine lv_isub hx hb dX6_append_21 ?_
  refine lv_topi (fun y_2 ey_2 => ?_)
  obtain rfl : y_2 = 33 := ey_2.trans (by decide)
  refine lv_icmp_le (tgt := 27) hx hb dX6_append_22 (by decide) (fun c_22 => ?_) (fun c_22 => ?_)
  · have t_22 := (fa_le _ _).mp c_22
    refine lv_aload_n hx hb dX6_append_27 rfl (lv_at hl 1 rfl) ?_
    refine va_get (D := (dC, dI)) (ci := 6) (v := .ref x0) (C := RX6) (T := TX6) (N := 5) hx hb hts in_X6_append_X6 hown hK hP 0 rfl rfl 0 (by decide) (hts (.fieldLink RX6 9 "MeetingsAbove$Thing" "coords" "[I") (by decide +kernel)) (fun _ h9 => h9) rfl dX6_append_28 ?_
    refine lv_iload hx hb dX6_append_31 (lv_at hl 0 rfl) ?_
    refine lv_iload_n hx hb dX6_append_33 rfl (lv_at hl 2 rfl) ?_
    refine va_iast hx hb hK hP hD hS 1 0 rfl rfl (vp_in_iff.mpr ⟨by omega, by omega⟩) dX6_append_34 (fun H locs hP hD hS => ?_)
    have hP : va_P (dC, dI) vwCl [(h0, .inr (6, [.ref x0, .int fi, .int pl, .int db, .int go])), (x0, .inl (cI, 36, .inl (upd g (y_1 : Int32).toNatClampNeg p1)))] H := hP
    have hD : va_D A [(h0, .inr (6, [.ref x0, .int fi, .int pl, .int db, .int go])), (x0, .inl (cI, 36, .inl (upd g (y_1 : Int32).toNatClampNeg p1)))] := hD
    refine lv_aload_n hx hb dX6_append_35 rfl (lv_at hl 1 rfl) ?_
    refine va_get (D := (dC, dI)) (ci := 6) (v := .ref x0) (C := RX6) (T := TX6) (N := 5) hx hb hts in_X6_append_X6 hown hK hP 0 rfl rfl 0 (by decide) (hts (.fieldLink RX6 9 "MeetingsAbove$Thing" "coords" "[I") (by decide +kernel)) (fun _ h9 => h9) rfl dX6_append_36 ?_
    refine lv_iload hx hb dX6_append_39 (lv_at hl 0 rfl) ?_
    refine lv_iconst (v := 1) hx hb dX6_append_41 (by decide) ?_
    refine lv_iadd hx hb dX6_append_42 ?_
    refine lv_topi (fun y_3 ey_3 => ?_)
    have ty_3 : y_3.toInt = y_1.toInt + 1 := by rw [ey_3]; have := fb_addI (x := y_1) (y := 1) (by omega) (by omega); omega
    refine lv_iload_n hx hb dX6_append_43 rfl (lv_at hl 3 rfl) ?_
    refine va_iast hx hb hK hP hD hS 1 0 rfl rfl (vp_in_iff.mpr ⟨by omega, by omega⟩) dX6_append_44 (fun H locs hP hD hS => ?_)
    have hP : va_P (dC, dI) vwCl [(h0, .inr (6, [.ref x0, .int fi, .int pl, .int db, .int go])), (x0, .inl (cI, 36, .inl (upd (upd g (y_1 : Int32).toNatClampNeg p1) (y_3 : Int32).toNatClampNeg p2)))] H := hP
    have hD : va_D A [(h0, .inr (6, [.ref x0, .int fi, .int pl, .int db, .int go])), (x0, .inl (cI, 36, .inl (upd (upd g (y_1 : Int32).toNatClampNeg p1) (y_3 : Int32).toNatClampNeg p2)))] := hD
    refine lv_aload_n hx hb dX6_append_45 rfl (lv_at hl 1 rfl) ?_
    refine va_get (D := (dC, dI)) (ci := 6) (v := .ref x0) (C := RX6) (T := TX6) (N := 5) hx hb hts in_X6_append_X6 hown hK hP 0 rfl rfl 0 (by decide) (hts (.fieldLink RX6 9 "MeetingsAbove$Thing" "coords" "[I") (by decide +kernel)) (fun _ h9 => h9) rfl dX6_append_46 ?_
    refine lv_iload hx hb dX6_append_49 (lv_at hl 0 rfl) ?_
    refine lv_iconst (v := 2) hx hb dX6_append_51 (by decide) ?_
    refine lv_iadd hx hb dX6_append_52 ?_
    refine lv_topi (fun y_4 ey_4 => ?_)
    have ty_4 : y_4.toInt = y_1.toInt + 2 := by rw [ey_4]; have := fb_addI (x := y_1) (y := 2) (by omega) (by omega); omega
    refine lv_iload_n hx hb dX6_append_53 rfl (lv_at hl 4 rfl) ?_
    refine va_iast hx hb hK hP hD hS 1 0 rfl rfl (vp_in_iff.mpr ⟨by omega, by omega⟩) dX6_append_54 (fun H locs hP hD hS => ?_)
    have hP : va_P (dC, dI) vwCl [(h0, .inr (6, [.ref x0, .int fi, .int pl, .int db, .int go])), (x0, .inl (cI, 36, .inl (upd (upd (upd g (y_1 : Int32).toNatClampNeg p1) (y_3 : Int32).toNatClampNeg p2) (y_4 : Int32).toNatClampNeg p3)))] H := hP
    have hD : va_D A [(h0, .inr (6, [.ref x0, .int fi, .int pl, .int db, .int go])), (x0, .inl (cI, 36, .inl (upd (upd (upd g (y_1 : Int32).toNatClampNeg p1) (y_3 : Int32).toNatClampNeg p2) (y_4 : Int32).toNatClampNeg p3)))] := hD
    refine lv_aload_n hx hb dX6_append_55 rfl (lv_at hl 1 rfl) ?_
    refine lv_dup hx hb dX6_append_56 rfl ?_
    refine va_get (D := (dC, dI)) (ci := 6) (v := .int pl) (C := RX6) (T := TX6) (N := 5) hx hb hts in_X6_append_X6 hown hK hP 0 rfl rfl 2 (by decide) (hts (.fieldLink RX6 19 "MeetingsAbove$Thing" "places" "I") (by decide +kernel)) (fun _ h9 => h9) rfl dX6_append_57 ?_
    refine lv_iconst (v := 1) hx hb dX6_append_60 (by decide) ?_
    refine lv_iadd hx hb dX6_append_61 ?_
    refine lv_topi (fun y_5 ey_5 => ?_)
    have ty_5 : y_5.toInt = pl.toInt + 1 := by rw [ey_5]; have := fb_addI (x := pl) (y := 1) (by omega) (by omega); omega
    refine va_put (D := (dC, dI)) (ci := 6) (v := .int y_5) (ty := .int) (C := RX6) (T := TX6) (N := 5) hx hb hts in_X6_append_X6 tyX6 tyX6_ok nmX6 hown hK hP hD hS 0 rfl rfl 2 (by decide) (hts (.fieldLink RX6 19 "MeetingsAbove$Thing" "places" "I") (by decide +kernel)) (fun _ h9 => h9) rfl (by decide +kernel) rfl rfl (Nat.le_of_ble_eq_true rfl) dX6_append_62 (fun H locs hP hD hS => ?_)
    have hP : va_P (dC, dI) vwCl [(h0, .inr (6, [.ref x0, .int fi, .int y_5, .int db, .int go])), (x0, .inl (cI, 36, .inl (upd (upd (upd g (y_1 : Int32).toNatClampNeg p1) (y_3 : Int32).toNatClampNeg p2) (y_4 : Int32).toNatClampNeg p3)))] H := hP
    have hD : va_D A [(h0, .inr (6, [.ref x0, .int fi, .int y_5, .int db, .int go])), (x0, .inl (cI, 36, .inl (upd (upd (upd g (y_1 : Int32).toNatClampNeg p1) (y_3 : Int32).toNatClampNeg p2) (y_4 : Int32).toNatClampNeg p3)))] := hD
    refine lv_iconst (v := 1) hx hb dX6_append_65 (by decide) ?_
    have hP9 := hP.sub (ws' := [(h0, .inr (6, [.ref x0, .int fi, .int y_5, .int db, .int go])), (x0, .inl (cI, 36, .inl (upd (upd (upd g (y_1 : Int32).toNatClampNeg p1) (y_3 : Int32).toNatClampNeg p2) (y_4 : Int32).toNatClampNeg p3)))]) [0, 1] rfl
    have hD9 := hD.sub (ws' := [(h0, .inr (6, [.ref x0, .int fi, .int y_5, .int db, .int go])), (x0, .inl (cI, 36, .inl (upd (upd (upd g (y_1 : Int32).toNatClampNeg p1) (y_3 : Int32).toNatClampNeg p2) (y_4 : Int32).toNatClampNeg p3)))]) [0, 1] (by decide) rfl
    have hK9 := hK.sub (tys' := [(cI, .int)]) [0] rfl
    refine W.widen (k := 0) (n := 0) (by omega) (by omega) ?_
    exact W.zret (v := 1) hx hb hr rfl (fun t ht hW => ⟨⟨_, (), rfl, (by first | exact (if_pos (by omega)).symm | exact (if_neg (by omega)).symm), y_5, (upd (upd (upd g (y_1 : Int32).toNatClampNeg p1) (y_3 : Int32).toNatClampNeg p2) (y_4 : Int32).toNatClampNeg p3), by rw [ht]; exact hP9, va_K.moved hW.alike hK9, hD9, (by first | exact Or.inr ⟨by omega, rfl, rfl⟩ | exact Or.inl ⟨by omega, by omega, st3_eq (by omega) (by omega) (by omega) (by omega)⟩)⟩, hS.F ht⟩) hS.2.2 dX6_append_66
  · have t_22 := mt (fa_le _ _).mpr c_22
    refine lv_iconst (v := 0) hx hb dX6_append_25 (by decide) ?_
    have hP9 := hP.sub (ws' := [(h0, .inr (6, [.ref x0, .int fi, .int pl, .int db, .int go])), (x0, .inl (cI, 36, .inl g))]) [0, 1] rfl
    have hD9 := hD.sub (ws' := [(h0, .inr (6, [.ref x0, .int fi, .int pl, .int db, .int go])), (x0, .inl (cI, 36, .inl g))]) [0, 1] (by decide) rfl
    have hK9 := hK.sub (tys' := [(cI, .int)]) [0] rfl
    refine W.widen (k := 0) (n := 0) (by omega) (by omega) ?_
    exact W.zret (v := 0) hx hb hr rfl (fun t ht hW => ⟨⟨_, (), rfl, (by first | exact (if_pos (by omega)).symm | exact (if_neg (by omega)).symm), pl, g, by rw [ht]; exact hP9, va_K.moved hW.alike hK9, hD9, (by first | exact Or.inr ⟨by omega, rfl, rfl⟩ | exact Or.inl ⟨by omega, by omega, st3_eq (by omega) (by omega) (by omega) (by omega)⟩)⟩, hS.F ht⟩) hS.2.2 dX6_append_26
def wk_X6_copyFrom : List Cond := .code yX6_copyFrom cX6_copyFrom 4 none :: ([.fieldLink RX6 22 "MeetingsAbove$Thing" "doubt" "I", .methodLink RX6 75 yX6_begin, .instanceMethod yX6_begin, .selects RX6 yX6_begin yX6_begin, .initialized RX6, .code yX6_begin cX6_begin 3 none, .fieldLink RX6 15 "MeetingsAbove$Thing" "first" "I", .fieldLink RX6 19 "MeetingsAbove$Thing" "places" "I", .fieldLink RX6 25 "MeetingsAbove$Thing" "gone" "Z", .methodLink RX6 29 yX6_lastStep, .instanceMethod yX6_lastStep, .selects RX6 yX6_lastStep yX6_lastStep, .code yX6_lastStep cX6_lastStep 1 (some .int), .methodLink RX6 33 yX6_coord, .instanceMethod yX6_coord, .selects RX6 yX6_coord yX6_coord, .code yX6_coord cX6_coord 4 (some .int), .fieldLink RX6 9 "MeetingsAbove$Thing" "coords" "[I", .methodLink RX6 79 yX6_append, .instanceMethod yX6_append, .selects RX6 yX6_append yX6_append, .code yX6_append cX6_append 5 (some .boolean)] ++ wsX60)
theorem in_X6_copyFrom_X6 : ∀ w ∈ wsX60, w ∈ wk_X6_copyFrom := fun _ h => List.mem_cons_of_mem _ (List.mem_append_right _ h)
set_option maxRecDepth 20000 in
theorem g_X6_copyFrom__X6_begin_75 : GoodIn wk_X6_copyFrom (wsV RX6 75 RX6 yX6_begin wk_X6_begin) := goodIn_r _ [2, 3, 4, 5, 6, 7, 8, 1, 9, 23, 24, 25, 26, 27] (by decide +kernel) (by decide +kernel)
set_option maxRecDepth 20000 in
theorem g_X6_copyFrom__X6_lastStep_29 : GoodIn wk_X6_copyFrom (wsV RX6 29 RX6 yX6_lastStep wk_X6_lastStep) := goodIn_r _ [10, 11, 12, 5, 13, 7, 8, 23, 24, 25, 26, 27] (by decide +kernel) (by decide +kernel)
set_option maxRecDepth 20000 in
theorem g_X6_copyFrom__X6_coord_33 : GoodIn wk_X6_copyFrom (wsV RX6 33 RX6 yX6_coord wk_X6_coord) := goodIn_r _ [14, 15, 16, 5, 17, 7, 18, 23, 24, 25, 26, 27] (by decide +kernel) (by decide +kernel)
set_option maxRecDepth 20000 in
theorem g_X6_copyFrom__X6_append_79 : GoodIn wk_X6_copyFrom (wsV RX6 79 RX6 yX6_append wk_X6_append) := goodIn_r _ [19, 20, 21, 5, 22, 8, 18, 23, 24, 25, 26, 27] (by decide +kernel) (by decide +kernel)
set_option maxHeartbeats 4000000 in
set_option maxRecDepth 100000 in
theorem c_X6_copyFrom (l : Launch) (dC : Nat → ClassId) (dI : Nat → Nat → Nat) (h0 : Nat) (x0 : Nat) (fi : Int32) (pl : Int32) (db : Int32) (go : Int32) (g : Nat → Int32) (h1 : Nat) (x1 : Nat) (fi1 : Int32) (pl1 : Int32) (db1 : Int32) (go1 : Int32) (g1 : Nat → Int32) (cI : ClassId) (p1 : Int32) (sz : Nat) (ht1 : tOK fi1 pl1) (hs0 : fi1.toInt ≤ p1.toInt) (hs1 : p1.toInt ≤ fi1.toInt + pl1.toInt) (hs2 : p1.toInt ≤ 39) (hgo : go1 = 0 ∨ go1 = 1) : Met l yX6_copyFrom wk_X6_copyFrom ({ frames := 1, cells := 0, slots := 0, locals := 24 }) (va_Pc [.ref h0, .ref h1, .int p1] (fun U => U.heap.size = sz ∧ va_P (dC, dI) vwCl [(h0, .inr (6, [.ref x0, .int fi, .int pl, .int db, .int go])), (x0, .inl (cI, 36, .inl g)), (h1, .inr (6, [.ref x1, .int fi1, .int pl1, .int db1, .int go1])), (x1, .inl (cI, 36, .inl g1))] U.heap ∧ va_K (dC, dI) vwCl [(cI, .int)] U ∧ va_D (fun _ => True) [(h0, .inr (6, [.ref x0, .int fi, .int pl, .int db, .int go])), (x0, .inl (cI, 36, .inl g)), (h1, .inr (6, [.ref x1, .int fi1, .int pl1, .int db1, .int go1])), (x1, .inl (cI, 36, .inl g1))])) (va_Qv (fun (_ : Unit) => True) (fun (_ : Unit) (t : State) => ∃ (pl9 : Int32) (g9 : Nat → Int32), va_P (dC, dI) vwCl [(h0, .inr (6, [.ref x0, .int p1, .int pl9, .int db1, .int go1])), (x0, .inl (cI, 36, .inl g9)), (h1, .inr (6, [.ref x1, .int fi1, .int pl1, .int db1, .int go1])), (x1, .inl (cI, 36, .inl g1))] t.heap ∧ va_K (dC, dI) vwCl [(cI, .int)] t ∧ va_D (va_A [(h0, .inr (6, [.ref x0, .int fi, .int pl, .int db, .int go])), (x0, .inl (cI, 36, .inl g)), (h1, .inr (6, [.ref x1, .int fi1, .int pl1, .int db1, .int go1])), (x1, .inl (cI, 36, .inl g1))] sz) [(h0, .inr (6, [.ref x0, .int p1, .int pl9, .int db1, .int go1])), (x0, .inl (cI, 36, .inl g9)), (h1, .inr (6, [.ref x1, .int fi1, .int pl1, .int db1, .int go1])), (x1, .inl (cI, 36, .inl g1))] ∧ pl9.toInt = fi1.toInt + pl1.toInt - p1.toInt ∧ g9 = cpK g g1 (3 * (p1.toInt - fi1.toInt)).toNat (fi1.toInt + pl1.toInt - p1.toInt).toNat) (va_A [(h0, .inr (6, [.ref x0, .int fi, .int pl, .int db, .int go])), (x0, .inl (cI, 36, .inl g)), (h1, .inr (6, [.ref x1, .int fi1, .int pl1, .int db1, .int go1])), (x1, .inl (cI, 36, .inl g1))] sz)) 0 0 (va_A [(h0, .inr (6, [.ref x0, .int fi, .int pl, .int db, .int go])), (x0, .inl (cI, 36, .inl g)), (h1, .inr (6, [.ref x1, .int fi1, .int pl1, .int db1, .int go1])), (x1, .inl (cI, 36, .inl g1))] sz) := by
  refine Met.ofW (cc := cX6_copyFrom) (maxL := 4) (ret := none) (by decide) rfl ?_
  intro p e s m args below meth c s₁ B hml hv
  obtain ⟨rfl, hsz, hP, hK, hD0⟩ := hv
  have hx := B.exec
  have hb := B.bytes
  have hr := B.returns
  have hts := atoms_spec (ws := wk_X6_copyFrom) B.pre
  have hown : s.vm.findClass RX6 = some m.cls := findClass_of_methodNamed B.named
  have hlocks := B.notSynchronized
  subst hsz
  have hD := hD0.self (sz := s.heap.size)
  generalize hAe : va_A [(h0, .inr (6, [.ref x0, .int fi, .int pl, .int db, .int go])), (x0, .inl (cI, 36, .inl g)), (h1, .inr (6, [.ref x1, .int fi1, .int pl1, .int db1, .int go1])), (x1, .inl (cI, 36, .inl g1))] s.heap.size = A at hD ⊢
  have hA : ∀ q : Nat, s.heap.size ≤ q → A q := fun q h => by rw [← hAe]; exact Or.inr h
  have hS : va_S A s.heap s.heap [] := va_S.rf
  have hP : va_P (dC, dI) vwCl [(h0, .inr (6, [.ref x0, .int fi, .int pl, .int db, .int go])), (x0, .inl (cI, 36, .inl g)), (h1, .inr (6, [.ref x1, .int fi1, .int pl1, .int db1, .int go1])), (x1, .inl (cI, 36, .inl g1))] s.heap := hP
  have hl := lv_entry ([.ref h0, .ref h1, .int p1]) (n := 4) (Nat.le_of_ble_eq_true rfl)
  rw [lg_entry_eq]
  generalize (lg_sl ([.ref h0, .ref h1, .int p1]) ++ List.replicate (4 - (lg_sl ([.ref h0, .ref h1, .int p1])).length) Slot.unset).toArray = ls at hl ⊢
  have hl : lv_has ls 4 [(0, .ref h0), (1, .ref h1), (2, .int p1)] := hl
  have kl_0 : (0 : Int32).toInt = 0 := by decide
  have kl_1 : (1 : Int32).toInt = 1 := by decide
  have kl_2 : (2 : Int32).toInt = 2 := by decide
  obtain ⟨hf10, hf11, hq10, hq11⟩ := id ht1
  refine lv_aload_n hx hb dX6_copyFrom_0 rfl (lv_at hl 0 rfl) ?_
  refine lv_iload_n hx hb dX6_copyFrom_1 rfl (lv_at hl 2 rfl) ?_
  refine lv_aload_n hx hb dX6_copyFrom_2 rfl (lv_at hl 1 rfl) ?_
  refine va_get (D := (dC, dI)) (ci := 6) (v := .int db1) (C := RX6) (T := TX6) (N := 5) hx hb hts in_X6_copyFrom_X6 hown hK hP 2 rfl rfl 3 (by decide) (hts (.fieldLink RX6 22 "MeetingsAbove$Thing" "doubt" "I") (by decide +kernel)) (fun _ h9 => h9) rfl dX6_copyFrom_3 ?_
  have hPc := hP.sub (ws' := [(h0, .inr (6, [.ref x0, .int fi, .int pl, .int db, .int go]))]) [0] rfl
  have hKc := hK.sub (tys' := []) [] rfl
  have hDc := hD.sub (ws' := [(h0, .inr (6, [.ref x0, .int fi, .int pl, .int db, .int go]))]) [0] (by decide) rfl
  have hFc := va_free (wc := [(h0, .inr (6, [.ref x0, .int fi, .int pl, .int db, .int go]))]) hD hS hA [0] rfl
  refine va_callv (va_runV (As := [.int p1, .int db1]) (rest := []) ⟨hx, hb, hml, hown, hts⟩ (c_X6_begin l dC dI h0 x0 fi pl db go p1 db1 s.heap.size) (cwV 2 hts g_X6_copyFrom__X6_begin_75 rfl rfl rfl (by decide +kernel) ⟨Nat.le_of_ble_eq_true rfl, Nat.le_of_ble_eq_true rfl⟩) ⟨fun a U g mk q => by obtain ⟨q0, q1, qP, qK, qD⟩ := q; exact ⟨q0, q1, qP, va_K.moved (u := U) (U := U.calling g mk a) (Vm.Alike.refl U.vm) qK, qD⟩, va_recv hKc hPc (ci := 6) (q0 := 0) rfl rfl, fun U hU hW => ⟨rfl, by rw [hU], by rw [hU]; exact hPc, va_K.moved hW.alike hKc, hDc.weaken (fun _ _ _ _ => trivial)⟩⟩ rfl rfl hl.1 rfl (lv_room (Nat.le_of_ble_eq_true rfl)) dX6_copyFrom_6 ⟨Nat.le_of_ble_eq_true rfl, Nat.le_of_ble_eq_true rfl⟩) hS (fun q _ h => hFc q h) hFc (fun u_1 t H1 locs ht hvm hw_2 hB hz1 hk1 hS => ?_)
  obtain ⟨hP1, hK1, hD1⟩ := hB
  rw [ht] at hP1
  have hK1 := va_K.moved hvm.symm hK1
  obtain ⟨hP, hD⟩ := va_join (wr := [(x0, .inl (cI, 36, .inl g)), (h1, .inr (6, [.ref x1, .int fi1, .int pl1, .int db1, .int go1])), (x1, .inl (cI, 36, .inl g1))]) (w1 := [(h0, .inr (6, [.ref x0, .int p1, .int 0, .int db1, .int 0]))]) hP hD [0] [1, 2, 3] rfl rfl (by decide) (by decide) hk1 hFc hP1 hD1
  have hK := (hK.sub (tys' := [(cI, .int)]) [0] rfl).app hK1
  generalize H1 = H at hP hS ⊢
  have hP : va_P (dC, dI) vwCl [(x0, .inl (cI, 36, .inl g)), (h1, .inr (6, [.ref x1, .int fi1, .int pl1, .int db1, .int go1])), (x1, .inl (cI, 36, .inl g1)), (h0, .inr (6, [.ref x0, .int p1, .int 0, .int db1, .int 0]))] H := hP
  have hD : va_D A [(x0, .inl (cI, 36, .inl g)), (h1, .inr (6, [.ref x1, .int fi1, .int pl1, .int db1, .int go1])), (x1, .inl (cI, 36, .inl g1)), (h0, .inr (6, [.ref x0, .int p1, .int 0, .int db1, .int 0]))] := hD
  have hK : va_K (dC, dI) vwCl [(cI, .int)] s := hK
  refine W.widen (k := 0) (n := 0) (by omega) (by omega) ?_
  refine lv_aload_n hx hb dX6_copyFrom_9 rfl (lv_at hl 0 rfl) ?_
  refine lv_aload_n hx hb dX6_copyFrom_10 rfl (lv_at hl 1 rfl) ?_
  refine va_get (D := (dC, dI)) (ci := 6) (v := .int go1) (C := RX6) (T := TX6) (N := 5) hx hb hts in_X6_copyFrom_X6 hown hK hP 1 rfl rfl 4 (by decide) (hts (.fieldLink RX6 25 "MeetingsAbove$Thing" "gone" "Z") (by decide +kernel)) (fun _ h9 => h9) rfl dX6_copyFrom_11 ?_
  refine va_put (D := (dC, dI)) (ci := 6) (v := .int go1) (ty := .boolean) (C := RX6) (T := TX6) (N := 5) hx hb hts in_X6_copyFrom_X6 tyX6 tyX6_ok nmX6 hown hK hP hD hS 3 rfl rfl 4 (by decide) (hts (.fieldLink RX6 25 "MeetingsAbove$Thing" "gone" "Z") (by decide +kernel)) (fun _ h9 => h9) rfl (by decide +kernel) (by rcases hgo with h | h <;> rw [h] <;> rfl) (by rcases hgo with h | h <;> rw [h] <;> rfl) (Nat.le_of_ble_eq_true rfl) dX6_copyFrom_14 (fun H locs hP hD hS => ?_)
  have hP : va_P (dC, dI) vwCl [(x0, .inl (cI, 36, .inl g)), (h1, .inr (6, [.ref x1, .int fi1, .int pl1, .int db1, .int go1])), (x1, .inl (cI, 36, .inl g1)), (h0, .inr (6, [.ref x0, .int p1, .int 0, .int db1, .int go1]))] H := hP
  have hD : va_D A [(x0, .inl (cI, 36, .inl g)), (h1, .inr (6, [.ref x1, .int fi1, .int pl1, .int db1, .int go1])), (x1, .inl (cI, 36, .inl g1)), (h0, .inr (6, [.ref x0, .int p1, .int 0, .int db1, .int go1]))] := hD
  refine lv_iload_n hx hb dX6_copyFrom_17 rfl (lv_at hl 2 rfl) ?_
  refine lv_istore_n (lv' := [(3, .int p1), (0, .ref h0), (1, .ref h1), (2, .int p1)]) hx hb dX6_copyFrom_18 rfl hl (by decide) rfl (fun ls hl => ?_)
  refine (show ∀ (k : Nat) (k3 : Int32) (p7 : Int32) (S7 : Nat → Int32) (hk0 : p1.toInt ≤ k3.toInt) (hk1 : k3.toInt ≤ fi1.toInt + pl1.toInt) (hp7 : p7.toInt = k3.toInt - p1.toInt) (hS7 : S7 = cpK g g1 (3 * (p1.toInt - fi1.toInt)).toNat (k3.toInt - p1.toInt).toNat) (hk_19 : (fi1.toInt + pl1.toInt - k3.toInt).toNat < k) (H : Heap) (locs : List Loc) (hP : va_P (dC, dI) vwCl [(x0, .inl (cI, 36, .inl S7)), (h1, .inr (6, [.ref x1, .int fi1, .int pl1, .int db1, .int go1])), (x1, .inl (cI, 36, .inl g1)), (h0, .inr (6, [.ref x0, .int p1, .int p7, .int db1, .int go1]))] H) (hD : va_D A [(x0, .inl (cI, 36, .inl S7)), (h1, .inr (6, [.ref x1, .int fi1, .int pl1, .int db1, .int go1])), (x1, .inl (cI, 36, .inl g1)), (h0, .inr (6, [.ref x0, .int p1, .int p7, .int db1, .int go1]))]) (hS : va_S A s.heap H locs) (ls : Array Slot) (hl : lv_has ls 4 [(0, .ref h0), (1, .ref h1), (2, .int p1), (3, .int k3)]), W p l e _ s m _ below meth c H locs 0 0 _ (F0 m 19 ls []) from ?_) _ p1 0 g (by omega) (by omega) (by omega) (by rw [show (p1.toInt - p1.toInt).toNat = 0 by omega]; rfl) (Nat.lt_succ_self _) H _ hP hD hS ls (lv_sub hl [1, 2, 3, 0] rfl)
  intro k
  induction k with
  | zero => intro k3 p7 S7 hk0 hk1 hp7 hS7 hk_19; exact absurd hk_19 (Nat.not_lt_zero _)
  | succ k ih_19 =>
    intro k3 p7 S7 hk0 hk1 hp7 hS7 hk_19 H locs hP hD hS ls hl
    refine lv_iload_n hx hb dX6_copyFrom_19 rfl (lv_at hl 3 rfl) ?_
    refine lv_aload_n hx hb dX6_copyFrom_20 rfl (lv_at hl 1 rfl) ?_
    have hPc := hP.sub (ws' := [(h1, .inr (6, [.ref x1, .int fi1, .int pl1, .int db1, .int go1]))]) [1] rfl
    have hKc := hK.sub (tys' := []) [] rfl
    refine vp_callSi (W.runV (As := []) (rest := [.int k3]) ⟨hx, hb, hml, hown, hts⟩ (c_X6_lastStep l dC dI h1 x1 fi1 pl1 db1 go1 (by first | assumption | omega)) (cwV 0 hts g_X6_copyFrom__X6_lastStep_29 rfl rfl rfl (by decide +kernel) ⟨Nat.le_of_ble_eq_true rfl, Nat.le_of_ble_eq_true rfl⟩) ⟨fun a U g mk q => by obtain ⟨q0, qP, qK⟩ := q; exact ⟨q0, qP, va_K.moved (u := U) (U := U.calling g mk a) (Vm.Alike.refl U.vm) qK⟩, va_recv hKc hPc (ci := 6) (q0 := 0) rfl rfl, fun U hU hW => ⟨rfl, by rw [hU]; exact hPc, va_K.moved hW.alike hKc⟩⟩ rfl rfl hl.1 rfl (lv_room (Nat.le_of_ble_eq_true rfl)) dX6_copyFrom_21 ⟨Nat.le_of_ble_eq_true rfl, Nat.le_of_ble_eq_true rfl⟩) (fun r_3 hr_3 => ?_)
    try dsimp only at hr_3
    refine lv_icmp_gt (tgt := 56) hx hb dX6_copyFrom_24 (by decide) (fun c_24 => ?_) (fun c_24 => ?_)
    · have t_24 := (fa_lt _ _).mp c_24
      have hP9 := hP.sub (ws' := [(h0, .inr (6, [.ref x0, .int p1, .int p7, .int db1, .int go1])), (x0, .inl (cI, 36, .inl S7)), (h1, .inr (6, [.ref x1, .int fi1, .int pl1, .int db1, .int go1])), (x1, .inl (cI, 36, .inl g1))]) [3, 0, 1, 2] rfl
      have hD9 := hD.sub (ws' := [(h0, .inr (6, [.ref x0, .int p1, .int p7, .int db1, .int go1])), (x0, .inl (cI, 36, .inl S7)), (h1, .inr (6, [.ref x1, .int fi1, .int pl1, .int db1, .int go1])), (x1, .inl (cI, 36, .inl g1))]) [3, 0, 1, 2] (by decide) rfl
      have hK9 := hK.sub (tys' := [(cI, .int)]) [0] rfl
      refine W.widen (k := 0) (n := 0) (by omega) (by omega) ?_
      exact W.vret hx hb hr (fun t ht hW => ⟨⟨(), rfl, trivial, p7, S7, by rw [ht]; exact hP9, va_K.moved hW.alike hK9, hD9, (by omega), (by rw [show (fi1.toInt + pl1.toInt - p1.toInt).toNat = (k3.toInt - p1.toInt).toNat by omega]; exact hS7)⟩, hS.F ht⟩) hS.2.2 dX6_copyFrom_56
    · have t_24 := mt (fa_lt _ _).mpr c_24
      refine lv_aload_n hx hb dX6_copyFrom_27 rfl (lv_at hl 0 rfl) ?_
      refine lv_aload_n hx hb dX6_copyFrom_28 rfl (lv_at hl 1 rfl) ?_
      refine lv_iload_n hx hb dX6_copyFrom_29 rfl (lv_at hl 3 rfl) ?_
      refine lv_iconst (v := 0) hx hb dX6_copyFrom_30 (by decide) ?_
      have hPc := hP.sub (ws' := [(h1, .inr (6, [.ref x1, .int fi1, .int pl1, .int db1, .int go1])), (x1, .inl (cI, 36, .inl g1))]) [1, 2] rfl
      have hKc := hK.sub (tys' := [(cI, .int)]) [0] rfl
      refine vp_callSi (W.runV (As := [.int k3, .int 0]) (rest := [.ref h0]) ⟨hx, hb, hml, hown, hts⟩ (c_X6_coord l dC dI h1 x1 fi1 pl1 db1 go1 g1 cI k3 0 (by first | assumption | omega) (by first | assumption | omega) (by first | assumption | omega) (by first | assumption | omega) (by first | assumption | omega) (by first | assumption | omega)) (cwV 2 hts g_X6_copyFrom__X6_coord_33 rfl rfl rfl (by decide +kernel) ⟨Nat.le_of_ble_eq_true rfl, Nat.le_of_ble_eq_true rfl⟩) ⟨fun a U g mk q => by obtain ⟨q0, qP, qK⟩ := q; exact ⟨q0, qP, va_K.moved (u := U) (U := U.calling g mk a) (Vm.Alike.refl U.vm) qK⟩, va_recv hKc hPc (ci := 6) (q0 := 0) rfl rfl, fun U hU hW => ⟨rfl, by rw [hU]; exact hPc, va_K.moved hW.alike hKc⟩⟩ rfl rfl hl.1 rfl (lv_room (Nat.le_of_ble_eq_true rfl)) dX6_copyFrom_31 ⟨Nat.le_of_ble_eq_true rfl, Nat.le_of_ble_eq_true rfl⟩) (fun r_4 hr_4 => ?_)
      try dsimp only at hr_4
      refine lv_aload_n hx hb dX6_copyFrom_34 rfl (lv_at hl 1 rfl) ?_
      refine lv_iload_n hx hb dX6_copyFrom_35 rfl (lv_at hl 3 rfl) ?_
      refine lv_iconst (v := 1) hx hb dX6_copyFrom_36 (by decide) ?_
      have hPc := hP.sub (ws' := [(h1, .inr (6, [.ref x1, .int fi1, .int pl1, .int db1, .int go1])), (x1, .inl (cI, 36, .inl g1))]) [1, 2] rfl
      have hKc := hK.sub (tys' := [(cI, .int)]) [0] rfl
      refine vp_callSi (W.runV (As := [.int k3, .int 1]) (rest := [.int r_4, .ref h0]) ⟨hx, hb, hml, hown, hts⟩ (c_X6_coord l dC dI h1 x1 fi1 pl1 db1 go1 g1 cI k3 1 (by first | assumption | omega) (by first | assumption | omega) (by first | assumption | omega) (by first | assumption | omega) (by first | assumption | omega) (by first | assumption | omega)) (cwV 2 hts g_X6_copyFrom__X6_coord_33 rfl rfl rfl (by decide +kernel) ⟨Nat.le_of_ble_eq_true rfl, Nat.le_of_ble_eq_true rfl⟩) ⟨fun a U g mk q => by obtain ⟨q0, qP, qK⟩ := q; exact ⟨q0, qP, va_K.moved (u := U) (U := U.calling g mk a) (Vm.Alike.refl U.vm) qK⟩, va_recv hKc hPc (ci := 6) (q0 := 0) rfl rfl, fun U hU hW => ⟨rfl, by rw [hU]; exact hPc, va_K.moved hW.alike hKc⟩⟩ rfl rfl hl.1 rfl (lv_room (Nat.le_of_ble_eq_true rfl)) dX6_copyFrom_37 ⟨Nat.le_of_ble_eq_true rfl, Nat.le_of_ble_eq_true rfl⟩) (fun r_5 hr_5 => ?_)
      try dsimp only at hr_5
      refine lv_aload_n hx hb dX6_copyFrom_40 rfl (lv_at hl 1 rfl) ?_
      refine lv_iload_n hx hb dX6_copyFrom_41 rfl (lv_at hl 3 rfl) ?_
      refine lv_iconst (v := 2) hx hb dX6_copyFrom_42 (by decide) ?_
      have hPc := hP.sub (ws' := [(h1, .inr (6, [.ref x1, .int fi1, .int pl1, .int db1, .int go1])), (x1, .inl (cI, 36, .inl g1))]) [1, 2] rfl
      have hKc := hK.sub (tys' := [(cI, .int)]) [0] rfl
      refine vp_callSi (W.runV (As := [.int k3, .int 2]) (rest := [.int r_5, .int r_4, .ref h0]) ⟨hx, hb, hml, hown, hts⟩ (c_X6_coord l dC dI h1 x1 fi1 pl1 db1 go1 g1 cI k3 2 (by first | assumption | omega) (by first | assumption | omega) (by first | assumption | omega) (by first | assumption | omega) (by first | assumption | omega) (by first | assumption | omega)) (cwV 2 hts g_X6_copyFrom__X6_coord_33 rfl rfl rfl (by decide +kernel) ⟨Nat.le_of_ble_eq_true rfl, Nat.le_of_ble_eq_true rfl⟩) ⟨fun a U g mk q => by obtain ⟨q0, qP, qK⟩ := q; exact ⟨q0, qP, va_K.moved (u := U) (U := U.calling g mk a) (Vm.Alike.refl U.vm) qK⟩, va_recv hKc hPc (ci := 6) (q0 := 0) rfl rfl, fun U hU hW => ⟨rfl, by rw [hU]; exact hPc, va_K.moved hW.alike hKc⟩⟩ rfl rfl hl.1 rfl (lv_room (Nat.le_of_ble_eq_true rfl)) dX6_copyFrom_43 ⟨Nat.le_of_ble_eq_true rfl, Nat.le_of_ble_eq_true rfl⟩) (fun r_6 hr_6 => ?_)
      try dsimp only at hr_6
      have hPc := hP.sub (ws' := [(h0, .inr (6, [.ref x0, .int p1, .int p7, .int db1, .int go1])), (x0, .inl (cI, 36, .inl S7))]) [3, 0] rfl
      have hKc := hK.sub (tys' := [(cI, .int)]) [0] rfl
      have hDc := hD.sub (ws' := [(h0, .inr (6, [.ref x0, .int p1, .int p7, .int db1, .int go1])), (x0, .inl (cI, 36, .inl S7))]) [3, 0] (by decide) rfl
      have hFc := va_free (wc := [(h0, .inr (6, [.ref x0, .int p1, .int p7, .int db1, .int go1])), (x0, .inl (cI, 36, .inl S7))]) hD hS hA [3, 0] rfl
      refine va_calli (va_runV (As := [.int r_4, .int r_5, .int r_6]) (rest := []) ⟨hx, hb, hml, hown, hts⟩ (c_X6_append l dC dI h0 x0 p1 p7 db1 go1 S7 cI r_4 r_5 r_6 H.size (by first | assumption | omega) (by first | assumption | omega)) (cwV 3 hts g_X6_copyFrom__X6_append_79 rfl rfl rfl (by decide +kernel) ⟨Nat.le_of_ble_eq_true rfl, Nat.le_of_ble_eq_true rfl⟩) ⟨fun a U g mk q => by obtain ⟨q0, q1, qP, qK, qD⟩ := q; exact ⟨q0, q1, qP, va_K.moved (u := U) (U := U.calling g mk a) (Vm.Alike.refl U.vm) qK, qD⟩, va_recv hKc hPc (ci := 6) (q0 := 0) rfl rfl, fun U hU hW => ⟨rfl, by rw [hU], by rw [hU]; exact hPc, va_K.moved hW.alike hKc, hDc.weaken (fun _ _ _ _ => trivial)⟩⟩ rfl rfl hl.1 rfl (lv_room (Nat.le_of_ble_eq_true rfl)) dX6_copyFrom_46 ⟨Nat.le_of_ble_eq_true rfl, Nat.le_of_ble_eq_true rfl⟩) hS (fun q _ h => hFc q h) hFc (fun r_8 u_7 t H1 locs ht hvm hw_8 hB hz1 hk1 hS => ?_)
      obtain ⟨pl9_9, g9_10, hP1, hK1, hD1, hap_11⟩ := hB
      rw [ht] at hP1
      have hK1 := va_K.moved hvm.symm hK1
      obtain ⟨hP, hD⟩ := va_join (wr := [(h1, .inr (6, [.ref x1, .int fi1, .int pl1, .int db1, .int go1])), (x1, .inl (cI, 36, .inl g1))]) (w1 := [(h0, .inr (6, [.ref x0, .int p1, .int pl9_9, .int db1, .int go1])), (x0, .inl (cI, 36, .inl g9_10))]) hP hD [3, 0] [1, 2] rfl rfl (by decide) (by decide) hk1 hFc hP1 hD1
      have hK := (hK.sub (tys' := [(cI, .int)]) [0] rfl).app hK1
      generalize H1 = H at hP hS ⊢
      have hP : va_P (dC, dI) vwCl [(h1, .inr (6, [.ref x1, .int fi1, .int pl1, .int db1, .int go1])), (x1, .inl (cI, 36, .inl g1)), (h0, .inr (6, [.ref x0, .int p1, .int pl9_9, .int db1, .int go1])), (x0, .inl (cI, 36, .inl g9_10))] H := hP
      have hD : va_D A [(h1, .inr (6, [.ref x1, .int fi1, .int pl1, .int db1, .int go1])), (x1, .inl (cI, 36, .inl g1)), (h0, .inr (6, [.ref x0, .int p1, .int pl9_9, .int db1, .int go1])), (x0, .inl (cI, 36, .inl g9_10))] := hD
      have hK : va_K (dC, dI) vwCl [(cI, .int), (cI, .int)] s := hK
      refine W.widen (k := 0) (n := 0) (by omega) (by omega) ?_
      try dsimp only at hw_8
      refine lv_pop hx hb dX6_copyFrom_49 rfl ?_
      obtain ⟨n, hn⟩ : ∃ n : Nat, (k3.toInt - p1.toInt).toNat = n := ⟨_, rfl⟩
      obtain ⟨q, hq⟩ : ∃ q : Nat, (3 * (p1.toInt - fi1.toInt)).toNat = q := ⟨_, rfl⟩
      rw [hn, hq] at hS7
      obtain ⟨-, hp8, hS8⟩ : S7 = S7 ∧ pl9_9.toInt = p7.toInt + 1 ∧ g9_10 = st3 S7 (3 * p7.toInt).toNat r_4 r_5 r_6 := hap_11.elim (fun h => ⟨rfl, h.2⟩) (fun h => absurd h.1 (by omega))
      have hS9 := cp_step hS7 hS8 hr_4 hr_5 hr_6 (by omega) (by unfold ixc; omega) (by unfold ixc; omega) (by unfold ixc; omega)
      obtain ⟨y_12, ey_12⟩ : ∃ y : Int32, y = k3 + 1 := ⟨_, rfl⟩
      have ty_12 : y_12.toInt = k3.toInt + 1 := by rw [ey_12]; have := fb_addI (x := k3) (y := 1) (by omega) (by omega); omega
      refine lv_iinc (v := y_12) (lv' := [(3, .int y_12), (0, .ref h0), (1, .ref h1), (2, .int p1)]) hx hb dX6_copyFrom_50 hl (k := 3) rfl (by rw [ey_12]; rfl) (by decide) rfl (fun ls hl => ?_)
      refine lv_goto (tgt := 19) hx hb dX6_copyFrom_53 (by decide) ?_
      exact ih_19 y_12 pl9_9 g9_10 (by omega) (by omega) (by omega) (by rw [show (y_12.toInt - p1.toInt).toNat = n + 1 by omega, hq]; exact hS9) (by omega) H _ (hP.sub [3, 0, 1, 2] rfl) (hD.sub [3, 0, 1, 2] (by decide) rfl) hS ls (lv_sub hl [1, 2, 3, 0] rfl)
def wk_X6_isSame : List Cond := .code yX6_isSame cX6_isSame 3 (some .boolean) :: ([.fieldLink RX6 15 "MeetingsAbove$Thing" "first" "I", .fieldLink RX6 19 "MeetingsAbove$Thing" "places" "I", .fieldLink RX6 22 "MeetingsAbove$Thing" "doubt" "I", .fieldLink RX6 25 "MeetingsAbove$Thing" "gone" "Z", .fieldLink RX6 9 "MeetingsAbove$Thing" "coords" "[I"] ++ wsX60)
theorem in_X6_isSame_X6 : ∀ w ∈ wsX60, w ∈ wk_X6_isSame := fun _ h => List.mem_cons_of_mem _ (List.mem_append_right _ h)
set_option maxHeartbeats 4000000 in
set_option maxRecDepth 100000 in
theorem c_X6_isSame (l : Launch) (dC : Nat → ClassId) (dI : Nat → Nat → Nat) (h0 : Nat) (x0 : Nat) (fi : Int32) (pl : Int32) (db : Int32) (go : Int32) (g : Nat → Int32) (h1 : Nat) (x1 : Nat) (fi1 : Int32) (pl1 : Int32) (db1 : Int32) (go1 : Int32) (g1 : Nat → Int32) (cI : ClassId) (ht : tOK fi pl) : Met l yX6_isSame wk_X6_isSame ({ frames := 0, cells := 0, slots := 0, locals := 0 }) (va_Pc [.ref h0, .ref h1] (fun U => va_P (dC, dI) vwCl [(h0, .inr (6, [.ref x0, .int fi, .int pl, .int db, .int go])), (x0, .inl (cI, 36, .inl g)), (h1, .inr (6, [.ref x1, .int fi1, .int pl1, .int db1, .int go1])), (x1, .inl (cI, 36, .inl g1))] U.heap ∧ va_K (dC, dI) vwCl [(cI, .int)] U)) (vp_Si (fun r => True)) 0 0 (fun _ => False) := by
  refine Met.ofW (cc := cX6_isSame) (maxL := 3) (ret := (some .boolean)) (by decide) rfl ?_
  intro p e s m args below meth c s₁ B hml hv
  obtain ⟨rfl, hP, hK⟩ := hv
  have hx := B.exec
  have hb := B.bytes
  have hr := B.returns
  have hts := atoms_spec (ws := wk_X6_isSame) B.pre
  have hown : s.vm.findClass RX6 = some m.cls := findClass_of_methodNamed B.named
  have hlocks := B.notSynchronized
  have hP : va_P (dC, dI) vwCl [(h0, .inr (6, [.ref x0, .int fi, .int pl, .int db, .int go])), (x0, .inl (cI, 36, .inl g)), (h1, .inr (6, [.ref x1, .int fi1, .int pl1, .int db1, .int go1])), (x1, .inl (cI, 36, .inl g1))] s.heap := hP
  have hl := lv_entry ([.ref h0, .ref h1]) (n := 3) (Nat.le_of_ble_eq_true rfl)
  rw [lg_entry_eq]
  generalize (lg_sl ([.ref h0, .ref h1]) ++ List.replicate (3 - (lg_sl ([.ref h0, .ref h1])).length) Slot.unset).toArray = ls at hl ⊢
  have hl : lv_has ls 3 [(0, .ref h0), (1, .ref h1)] := hl
  have kl_0 : (0 : Int32).toInt = 0 := by decide
  have kl_1 : (1 : Int32).toInt = 1 := by decide
  have kl_3 : (3 : Int32).toInt = 3 := by decide
  have kl_36 : (36 : Int32).toInt = 36 := by decide
  obtain ⟨hf0, hf1, hq0, hq1⟩ := id ht
  refine lv_aload_n hx hb dX6_isSame_0 rfl (lv_at hl 0 rfl) ?_
  refine va_get (D := (dC, dI)) (ci := 6) (v := .int fi) (C := RX6) (T := TX6) (N := 5) hx hb hts in_X6_isSame_X6 hown hK hP 0 rfl rfl 1 (by decide) (hts (.fieldLink RX6 15 "MeetingsAbove$Thing" "first" "I") (by decide +kernel)) (fun _ h9 => h9) rfl dX6_isSame_1 ?_
  refine lv_aload_n hx hb dX6_isSame_4 rfl (lv_at hl 1 rfl) ?_
  refine va_get (D := (dC, dI)) (ci := 6) (v := .int fi1) (C := RX6) (T := TX6) (N := 5) hx hb hts in_X6_isSame_X6 hown hK hP 2 rfl rfl 1 (by decide) (hts (.fieldLink RX6 15 "MeetingsAbove$Thing" "first" "I") (by decide +kernel)) (fun _ h9 => h9) rfl dX6_isSame_5 ?_
  refine lv_icmp_ne (tgt := 44) hx hb dX6_isSame_8 (by decide) (fun c_8 => ?_) (fun c_8 => ?_)
  · have t_8 := mt (fa_eq _ _).mpr c_8
    refine lv_iconst (v := 0) hx hb dX6_isSame_44 (by decide) ?_
    exact W.zret (v := 0) hx hb hr rfl (fun t ht _ => ⟨_, rfl, trivial, ht⟩) (fun _ h => absurd h List.not_mem_nil) dX6_isSame_45
  · have t_8 := (fa_eq _ _).mp c_8
    refine lv_aload_n hx hb dX6_isSame_11 rfl (lv_at hl 0 rfl) ?_
    refine va_get (D := (dC, dI)) (ci := 6) (v := .int pl) (C := RX6) (T := TX6) (N := 5) hx hb hts in_X6_isSame_X6 hown hK hP 0 rfl rfl 2 (by decide) (hts (.fieldLink RX6 19 "MeetingsAbove$Thing" "places" "I") (by decide +kernel)) (fun _ h9 => h9) rfl dX6_isSame_12 ?_
    refine lv_aload_n hx hb dX6_isSame_15 rfl (lv_at hl 1 rfl) ?_
    refine va_get (D := (dC, dI)) (ci := 6) (v := .int pl1) (C := RX6) (T := TX6) (N := 5) hx hb hts in_X6_isSame_X6 hown hK hP 2 rfl rfl 2 (by decide) (hts (.fieldLink RX6 19 "MeetingsAbove$Thing" "places" "I") (by decide +kernel)) (fun _ h9 => h9) rfl dX6_isSame_16 ?_
    refine lv_icmp_ne (tgt := 44) hx hb dX6_isSame_19 (by decide) (fun c_19 => ?_) (fun c_19 => ?_)
    · have t_19 := mt (fa_eq _ _).mpr c_19
      refine lv_iconst (v := 0) hx hb dX6_isSame_44 (by decide) ?_
      exact W.zret (v := 0) hx hb hr rfl (fun t ht _ => ⟨_, rfl, trivial, ht⟩) (fun _ h => absurd h List.not_mem_nil) dX6_isSame_45
    · have t_19 := (fa_eq _ _).mp c_19
      refine lv_aload_n hx hb dX6_isSame_22 rfl (lv_at hl 0 rfl) ?_
      refine va_get (D := (dC, dI)) (ci := 6) (v := .int db) (C := RX6) (T := TX6) (N := 5) hx hb hts in_X6_isSame_X6 hown hK hP 0 rfl rfl 3 (by decide) (hts (.fieldLink RX6 22 "MeetingsAbove$Thing" "doubt" "I") (by decide +kernel)) (fun _ h9 => h9) rfl dX6_isSame_23 ?_
      refine lv_aload_n hx hb dX6_isSame_26 rfl (lv_at hl 1 rfl) ?_
      refine va_get (D := (dC, dI)) (ci := 6) (v := .int db1) (C := RX6) (T := TX6) (N := 5) hx hb hts in_X6_isSame_X6 hown hK hP 2 rfl rfl 3 (by decide) (hts (.fieldLink RX6 22 "MeetingsAbove$Thing" "doubt" "I") (by decide +kernel)) (fun _ h9 => h9) rfl dX6_isSame_27 ?_
      refine lv_icmp_ne (tgt := 44) hx hb dX6_isSame_30 (by decide) (fun c_30 => ?_) (fun c_30 => ?_)
      · have t_30 := mt (fa_eq _ _).mpr c_30
        refine lv_iconst (v := 0) hx hb dX6_isSame_44 (by decide) ?_
        exact W.zret (v := 0) hx hb hr rfl (fun t ht _ => ⟨_, rfl, trivial, ht⟩) (fun _ h => absurd h List.not_mem_nil) dX6_isSame_45
      · have t_30 := (fa_eq _ _).mp c_30
        refine lv_aload_n hx hb dX6_isSame_33 rfl (lv_at hl 0 rfl) ?_
        refine va_get (D := (dC, dI)) (ci := 6) (v := .int go) (C := RX6) (T := TX6) (N := 5) hx hb hts in_X6_isSame_X6 hown hK hP 0 rfl rfl 4 (by decide) (hts (.fieldLink RX6 25 "MeetingsAbove$Thing" "gone" "Z") (by decide +kernel)) (fun _ h9 => h9) rfl dX6_isSame_34 ?_
        refine lv_aload_n hx hb dX6_isSame_37 rfl (lv_at hl 1 rfl) ?_
        refine va_get (D := (dC, dI)) (ci := 6) (v := .int go1) (C := RX6) (T := TX6) (N := 5) hx hb hts in_X6_isSame_X6 hown hK hP 2 rfl rfl 4 (by decide) (hts (.fieldLink RX6 25 "MeetingsAbove$Thing" "gone" "Z") (by decide +kernel)) (fun _ h9 => h9) rfl dX6_isSame_38 ?_
        refine lv_icmp_eq (tgt := 46) hx hb dX6_isSame_41 (by decide) (fun c_41 => ?_) (fun c_41 => ?_)
        · have t_41 := (fa_eq _ _).mp c_41
          refine lv_iconst (v := 0) hx hb dX6_isSame_46 (by decide) ?_
          refine lv_istore_n (lv' := [(2, .int 0), (0, .ref h0), (1, .ref h1)]) hx hb dX6_isSame_47 rfl hl (by decide) rfl (fun ls hl => ?_)
          refine (show ∀ (k : Nat) (i2 : Int32) (hi0 : 0 ≤ i2.toInt) (hi1 : i2.toInt ≤ 36) (hk_48 : (36 - i2.toInt).toNat < k) (ls : Array Slot) (hl : lv_has ls 3 [(0, .ref h0), (1, .ref h1), (2, .int i2)]), W p l e _ s m _ below meth c s.heap [] 0 0 _ (F0 m 48 ls []) from ?_) _ 0 (by omega) (by omega) (Nat.lt_succ_self _) ls (lv_sub hl [1, 2, 0] rfl)
          intro k
          induction k with
          | zero => intro i2 hi0 hi1 hk_48; exact absurd hk_48 (Nat.not_lt_zero _)
          | succ k ih_48 =>
            intro i2 hi0 hi1 hk_48 ls hl
            refine lv_iload_n hx hb dX6_isSame_48 rfl (lv_at hl 2 rfl) ?_
            refine lv_iconst (v := 3) hx hb dX6_isSame_49 (by decide) ?_
            refine lv_aload_n hx hb dX6_isSame_50 rfl (lv_at hl 0 rfl) ?_
            refine va_get (D := (dC, dI)) (ci := 6) (v := .int pl) (C := RX6) (T := TX6) (N := 5) hx hb hts in_X6_isSame_X6 hown hK hP 0 rfl rfl 2 (by decide) (hts (.fieldLink RX6 19 "MeetingsAbove$Thing" "places" "I") (by decide +kernel)) (fun _ h9 => h9) rfl dX6_isSame_51 ?_
            refine lv_imul hx hb dX6_isSame_54 ?_
            refine lv_topi (fun y_1 ey_1 => ?_)
            have ty_1 : y_1.toInt = 3 * pl.toInt := by rw [ey_1]; exact fm_lI kl_3 (by omega) (by omega)
            refine lv_icmp_ge (tgt := 99) hx hb dX6_isSame_55 (by decide) (fun c_55 => ?_) (fun c_55 => ?_)
            · have t_55 := (fa_le _ _).mp c_55
              refine lv_iconst (v := 1) hx hb dX6_isSame_99 (by decide) ?_
              exact W.zret (v := 1) hx hb hr rfl (fun t ht _ => ⟨_, rfl, trivial, ht⟩) (fun _ h => absurd h List.not_mem_nil) dX6_isSame_100
            · have t_55 := mt (fa_le _ _).mpr c_55
              refine lv_iload_n hx hb dX6_isSame_58 rfl (lv_at hl 2 rfl) ?_
              refine lv_aload_n hx hb dX6_isSame_59 rfl (lv_at hl 0 rfl) ?_
              refine va_get (D := (dC, dI)) (ci := 6) (v := .ref x0) (C := RX6) (T := TX6) (N := 5) hx hb hts in_X6_isSame_X6 hown hK hP 0 rfl rfl 0 (by decide) (hts (.fieldLink RX6 9 "MeetingsAbove$Thing" "coords" "[I") (by decide +kernel)) (fun _ h9 => h9) rfl dX6_isSame_60 ?_
              refine va_alen (v := 36) hx hb hK hP 1 0 rfl rfl rfl dX6_isSame_63 ?_
              refine lv_icmp_ge (tgt := 99) hx hb dX6_isSame_64 (by decide) (fun c_64 => ?_) (fun c_64 => ?_)
              · have t_64 := (fa_le _ _).mp c_64
                refine lv_iconst (v := 1) hx hb dX6_isSame_99 (by decide) ?_
                exact W.zret (v := 1) hx hb hr rfl (fun t ht _ => ⟨_, rfl, trivial, ht⟩) (fun _ h => absurd h List.not_mem_nil) dX6_isSame_100
              · have t_64 := mt (fa_le _ _).mpr c_64
                refine lv_iload_n hx hb dX6_isSame_67 rfl (lv_at hl 2 rfl) ?_
                refine lv_aload_n hx hb dX6_isSame_68 rfl (lv_at hl 1 rfl) ?_
                refine va_get (D := (dC, dI)) (ci := 6) (v := .ref x1) (C := RX6) (T := TX6) (N := 5) hx hb hts in_X6_isSame_X6 hown hK hP 2 rfl rfl 0 (by decide) (hts (.fieldLink RX6 9 "MeetingsAbove$Thing" "coords" "[I") (by decide +kernel)) (fun _ h9 => h9) rfl dX6_isSame_69 ?_
                refine va_alen (v := 36) hx hb hK hP 3 0 rfl rfl rfl dX6_isSame_72 ?_
                refine lv_icmp_ge (tgt := 99) hx hb dX6_isSame_73 (by decide) (fun c_73 => ?_) (fun c_73 => ?_)
                · have t_73 := (fa_le _ _).mp c_73
                  refine lv_iconst (v := 1) hx hb dX6_isSame_99 (by decide) ?_
                  exact W.zret (v := 1) hx hb hr rfl (fun t ht _ => ⟨_, rfl, trivial, ht⟩) (fun _ h => absurd h List.not_mem_nil) dX6_isSame_100
                · have t_73 := mt (fa_le _ _).mpr c_73
                  refine lv_aload_n hx hb dX6_isSame_76 rfl (lv_at hl 0 rfl) ?_
                  refine va_get (D := (dC, dI)) (ci := 6) (v := .ref x0) (C := RX6) (T := TX6) (N := 5) hx hb hts in_X6_isSame_X6 hown hK hP 0 rfl rfl 0 (by decide) (hts (.fieldLink RX6 9 "MeetingsAbove$Thing" "coords" "[I") (by decide +kernel)) (fun _ h9 => h9) rfl dX6_isSame_77 ?_
                  refine lv_iload_n hx hb dX6_isSame_80 rfl (lv_at hl 2 rfl) ?_
                  refine va_iald hx hb hK hP 1 0 rfl rfl (vp_in_iff.mpr ⟨by omega, by omega⟩) dX6_isSame_81 ?_
                  refine lv_topi (fun y_2 ey_2 => ?_)
                  refine lv_aload_n hx hb dX6_isSame_82 rfl (lv_at hl 1 rfl) ?_
                  refine va_get (D := (dC, dI)) (ci := 6) (v := .ref x1) (C := RX6) (T := TX6) (N := 5) hx hb hts in_X6_isSame_X6 hown hK hP 2 rfl rfl 0 (by decide) (hts (.fieldLink RX6 9 "MeetingsAbove$Thing" "coords" "[I") (by decide +kernel)) (fun _ h9 => h9) rfl dX6_isSame_83 ?_
                  refine lv_iload_n hx hb dX6_isSame_86 rfl (lv_at hl 2 rfl) ?_
                  refine va_iald hx hb hK hP 3 0 rfl rfl (vp_in_iff.mpr ⟨by omega, by omega⟩) dX6_isSame_87 ?_
                  refine lv_topi (fun y_3 ey_3 => ?_)
                  refine lv_icmp_eq (tgt := 93) hx hb dX6_isSame_88 (by decide) (fun c_88 => ?_) (fun c_88 => ?_)
                  · have t_88 := (fa_eq _ _).mp c_88
                    obtain ⟨y_4, ey_4⟩ : ∃ y : Int32, y = i2 + 1 := ⟨_, rfl⟩
                    have ty_4 : y_4.toInt = i2.toInt + 1 := by rw [ey_4]; have := fb_addI (x := i2) (y := 1) (by omega) (by omega); omega
                    refine lv_iinc (v := y_4) (lv' := [(2, .int y_4), (0, .ref h0), (1, .ref h1)]) hx hb dX6_isSame_93 hl (k := 2) rfl (by rw [ey_4]; rfl) (by decide) rfl (fun ls hl => ?_)
                    refine lv_goto (tgt := 48) hx hb dX6_isSame_96 (by decide) ?_
                    exact ih_48 y_4 (by omega) (by omega) (by omega) ls (lv_sub hl [1, 2, 0] rfl)
                  · have t_88 := mt (fa_eq _ _).mpr c_88
                    refine lv_iconst (v := 0) hx hb dX6_isSame_91 (by decide) ?_
                    exact W.zret (v := 0) hx hb hr rfl (fun t ht _ => ⟨_, rfl, trivial, ht⟩) (fun _ h => absurd h List.not_mem_nil) dX6_isSame_92
        · have t_41 := mt (fa_eq _ _).mpr c_41
          refine lv_iconst (v := 0) hx hb dX6_isSame_44 (by decide) ?_
          exact W.zret (v := 0) hx hb hr rfl (fun t ht _ => ⟨_, rfl, trivial, ht⟩) (fun _ h => absurd h List.not_mem_nil) dX6_isSame_45
