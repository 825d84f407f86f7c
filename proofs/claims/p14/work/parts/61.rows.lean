def wk_X9_setSpot : List Cond := .code yX9_setSpot cX9_setSpot 6 none :: (([.fieldLink RX9 23 "MeetingsAboveModel" "spots" "[I"] : List Cond) ++ (wsX90 ++ ([])))
theorem in_X9_setSpot_X9 : ∀ w ∈ wsX90, w ∈ wk_X9_setSpot := fun _ h => List.mem_cons_of_mem _ (List.mem_append_right _ (List.mem_append_left _ h))
theorem gw_X9_setSpot : AG wk_X9_setSpot := AG_ca (AG_l (by decide +kernel)) (AG_app ag_X9 (AG_nil))
set_option maxHeartbeats 4000000 in
set_option maxRecDepth 100000 in
theorem c_X9_setSpot (l : Launch) (dC : Nat → ClassId) (dI : Nat → Nat → Nat) (h0 : Nat) (a1 : Nat) (a2 : Nat) (a3 : Nat) (a4 : Nat) (a5 : Nat) (a6 : Nat) (a7 : Nat) (a8 : Nat) (a9 : Nat) (a10 : Nat) (a11 : Nat) (th : Int32) (ne : Int32) (wi : Int32) (dn : Int32) (nn : Int32) (la : Int32) (wh : Int32) (up : Int64) (lw : Int64) (pu : Int64) (pw : Int64) (cI : ClassId) (Sp : Nat → Int32) (p1 : Int32) (p2 : Int32) (p3 : Int32) (p4 : Int32) (p5 : Int32) (sz : Nat) (h10 : 0 ≤ p1.toInt) (h11 : p1.toInt < 16) (h20 : 0 ≤ p2.toInt) (h21 : p2.toInt < 12) : Met l yX9_setSpot wk_X9_setSpot ({ frames := 0, cells := 0, slots := 0, locals := 0 }) (va_Pc [.ref h0, .int p1, .int p2, .int p3, .int p4, .int p5] (fun U => U.heap.size = sz ∧ va_P (dC, dI) vwCl [(h0, .inr (9, [.int th, .ref a1, .ref a2, .ref a3, .ref a4, .ref a5, .int ne, .int wi, .int dn, .ref a6, .ref a7, .int nn, .ref a8, .int la, .ref a9, .ref a10, .long up, .long lw, .int wh, .long pu, .long pw, .ref a11])), (a5, .inl (cI, 576, .inl Sp))] U.heap ∧ va_K (dC, dI) vwCl [(cI, .int)] U ∧ va_D (fun _ => True) [(h0, .inr (9, [.int th, .ref a1, .ref a2, .ref a3, .ref a4, .ref a5, .int ne, .int wi, .int dn, .ref a6, .ref a7, .int nn, .ref a8, .int la, .ref a9, .ref a10, .long up, .long lw, .int wh, .long pu, .long pw, .ref a11])), (a5, .inl (cI, 576, .inl Sp))])) (va_Qv (fun (_ : Unit) => True) (fun (_ : Unit) (t : State) => ∃ (Sp9 : Nat → Int32), va_P (dC, dI) vwCl [(h0, .inr (9, [.int th, .ref a1, .ref a2, .ref a3, .ref a4, .ref a5, .int ne, .int wi, .int dn, .ref a6, .ref a7, .int nn, .ref a8, .int la, .ref a9, .ref a10, .long up, .long lw, .int wh, .long pu, .long pw, .ref a11])), (a5, .inl (cI, 576, .inl Sp9))] t.heap ∧ va_K (dC, dI) vwCl [(cI, .int)] t ∧ va_D (va_A [(h0, .inr (9, [.int th, .ref a1, .ref a2, .ref a3, .ref a4, .ref a5, .int ne, .int wi, .int dn, .ref a6, .ref a7, .int nn, .ref a8, .int la, .ref a9, .ref a10, .long up, .long lw, .int wh, .long pu, .long pw, .ref a11])), (a5, .inl (cI, 576, .inl Sp))] sz) [(h0, .inr (9, [.int th, .ref a1, .ref a2, .ref a3, .ref a4, .ref a5, .int ne, .int wi, .int dn, .ref a6, .ref a7, .int nn, .ref a8, .int la, .ref a9, .ref a10, .long up, .long lw, .int wh, .long pu, .long pw, .ref a11])), (a5, .inl (cI, 576, .inl Sp9))] ∧ Sp9 = st3 Sp (36 * p1.toInt + 3 * p2.toInt).toNat p3 p4 p5) (va_A [(h0, .inr (9, [.int th, .ref a1, .ref a2, .ref a3, .ref a4, .ref a5, .int ne, .int wi, .int dn, .ref a6, .ref a7, .int nn, .ref a8, .int la, .ref a9, .ref a10, .long up, .long lw, .int wh, .long pu, .long pw, .ref a11])), (a5, .inl (cI, 576, .inl Sp))] sz)) 0 0 (va_A [(h0, .inr (9, [.int th, .ref a1, .ref a2, .ref a3, .ref a4, .ref a5, .int ne, .int wi, .int dn, .ref a6, .ref a7, .int nn, .ref a8, .int la, .ref a9, .ref a10, .long up, .long lw, .int wh, .long pu, .long pw, .ref a11])), (a5, .inl (cI, 576, .inl Sp))] sz) := by
  refine Met.ofW (cc := cX9_setSpot) (maxL := 6) (ret := none) (by decide) rfl ?_
  intro p e s m args below meth c s₁ B hml hv
  obtain ⟨rfl, hsz, hP, hK, hD0⟩ := hv
  have hx := B.exec
  have hb := B.bytes
  have hr := B.returns
  have hts := atoms_spec (ws := wk_X9_setSpot) B.pre
  have hown : s.vm.findClass RX9 = some m.cls := findClass_of_methodNamed B.named
  have hlocks := B.notSynchronized
  subst hsz
  have hD := hD0.self (sz := s.heap.size)
  generalize hAe : va_A [(h0, .inr (9, [.int th, .ref a1, .ref a2, .ref a3, .ref a4, .ref a5, .int ne, .int wi, .int dn, .ref a6, .ref a7, .int nn, .ref a8, .int la, .ref a9, .ref a10, .long up, .long lw, .int wh, .long pu, .long pw, .ref a11])), (a5, .inl (cI, 576, .inl Sp))] s.heap.size = A at hD ⊢
  have hA : ∀ q : Nat, s.heap.size ≤ q → A q := fun q h => by rw [← hAe]; exact Or.inr h
  have hS : va_S A s.heap s.heap [] := va_S.rf
  have hP : va_P (dC, dI) vwCl [(h0, .inr (9, [.int th, .ref a1, .ref a2, .ref a3, .ref a4, .ref a5, .int ne, .int wi, .int dn, .ref a6, .ref a7, .int nn, .ref a8, .int la, .ref a9, .ref a10, .long up, .long lw, .int wh, .long pu, .long pw, .ref a11])), (a5, .inl (cI, 576, .inl Sp))] s.heap := hP
  have hl := lv_entry ([.ref h0, .int p1, .int p2, .int p3, .int p4, .int p5]) (n := 6) (Nat.le_of_ble_eq_true rfl)
  rw [lg_entry_eq]
  generalize (lg_sl ([.ref h0, .int p1, .int p2, .int p3, .int p4, .int p5]) ++ List.replicate (6 - (lg_sl ([.ref h0, .int p1, .int p2, .int p3, .int p4, .int p5])).length) Slot.unset).toArray = ls at hl ⊢
  have hl : lv_has ls 6 [(0, .ref h0), (1, .int p1), (2, .int p2), (3, .int p3), (4, .int p4), (5, .int p5)] := hl
  have kl_1 : (1 : Int32).toInt = 1 := by decide
  have kl_2 : (2 : Int32).toInt = 2 := by decide
  have kl_3 : (3 : Int32).toInt = 3 := by decide
  have kl_36 : (36 : Int32).toInt = 36 := by decide
  refine lv_aload_n hx hb dX9_setSpot_0 rfl (lv_at hl 0 rfl) ?_
  refine va_get (D := (dC, dI)) (ci := 9) (v := .ref a5) (C := RX9) (T := TX9) (N := 22) hx hb hts in_X9_setSpot_X9 hown hK hP 0 rfl rfl 5 (by decide) (hts (.fieldLink RX9 23 "MeetingsAboveModel" "spots" "[I") (by decide +kernel)) (fun _ h9 => h9) rfl dX9_setSpot_1 ?_
  refine lv_bipush (v := 36) hx hb dX9_setSpot_4 (by decide) ?_
  refine lv_iload_n hx hb dX9_setSpot_6 rfl (lv_at hl 1 rfl) ?_
  refine lv_imul hx hb dX9_setSpot_7 ?_
  refine lv_topi (fun y_1 ey_1 => ?_)
  have ty_1 : y_1.toInt = 36 * p1.toInt := by rw [ey_1]; exact fm_lI kl_36 (by omega) (by omega)
  refine lv_iconst (v := 3) hx hb dX9_setSpot_8 (by decide) ?_
  refine lv_iload_n hx hb dX9_setSpot_9 rfl (lv_at hl 2 rfl) ?_
  refine lv_imul hx hb dX9_setSpot_10 ?_
  refine lv_topi (fun y_2 ey_2 => ?_)
  have ty_2 : y_2.toInt = 3 * p2.toInt := by rw [ey_2]; exact fm_lI kl_3 (by omega) (by omega)
  refine lv_iadd hx hb dX9_setSpot_11 ?_
  refine lv_topi (fun y_3 ey_3 => ?_)
  have ty_3 : y_3.toInt = y_1.toInt + y_2.toInt := by rw [ey_3]; have := fb_addI (x := y_1) (y := y_2) (by omega) (by omega); omega
  refine lv_iload_n hx hb dX9_setSpot_12 rfl (lv_at hl 3 rfl) ?_
  refine va_iast hx hb hK hP hD hS 1 0 rfl rfl (vp_in_iff.mpr ⟨by omega, by omega⟩) dX9_setSpot_13 (fun H locs hP hD hS => ?_)
  have hP : va_P (dC, dI) vwCl [(h0, .inr (9, [.int th, .ref a1, .ref a2, .ref a3, .ref a4, .ref a5, .int ne, .int wi, .int dn, .ref a6, .ref a7, .int nn, .ref a8, .int la, .ref a9, .ref a10, .long up, .long lw, .int wh, .long pu, .long pw, .ref a11])), (a5, .inl (cI, 576, .inl (upd Sp (y_3 : Int32).toNatClampNeg p3)))] H := hP
  have hD : va_D A [(h0, .inr (9, [.int th, .ref a1, .ref a2, .ref a3, .ref a4, .ref a5, .int ne, .int wi, .int dn, .ref a6, .ref a7, .int nn, .ref a8, .int la, .ref a9, .ref a10, .long up, .long lw, .int wh, .long pu, .long pw, .ref a11])), (a5, .inl (cI, 576, .inl (upd Sp (y_3 : Int32).toNatClampNeg p3)))] := hD
  refine lv_aload_n hx hb dX9_setSpot_14 rfl (lv_at hl 0 rfl) ?_
  refine va_get (D := (dC, dI)) (ci := 9) (v := .ref a5) (C := RX9) (T := TX9) (N := 22) hx hb hts in_X9_setSpot_X9 hown hK hP 0 rfl rfl 5 (by decide) (hts (.fieldLink RX9 23 "MeetingsAboveModel" "spots" "[I") (by decide +kernel)) (fun _ h9 => h9) rfl dX9_setSpot_15 ?_
  refine lv_bipush (v := 36) hx hb dX9_setSpot_18 (by decide) ?_
  refine lv_iload_n hx hb dX9_setSpot_20 rfl (lv_at hl 1 rfl) ?_
  refine lv_imul hx hb dX9_setSpot_21 ?_
  refine lv_topi (fun y_4 ey_4 => ?_)
  have ty_4 : y_4.toInt = 36 * p1.toInt := by rw [ey_4]; exact fm_lI kl_36 (by omega) (by omega)
  refine lv_iconst (v := 3) hx hb dX9_setSpot_22 (by decide) ?_
  refine lv_iload_n hx hb dX9_setSpot_23 rfl (lv_at hl 2 rfl) ?_
  refine lv_imul hx hb dX9_setSpot_24 ?_
  refine lv_topi (fun y_5 ey_5 => ?_)
  have ty_5 : y_5.toInt = 3 * p2.toInt := by rw [ey_5]; exact fm_lI kl_3 (by omega) (by omega)
  refine lv_iadd hx hb dX9_setSpot_25 ?_
  refine lv_topi (fun y_6 ey_6 => ?_)
  have ty_6 : y_6.toInt = y_4.toInt + y_5.toInt := by rw [ey_6]; have := fb_addI (x := y_4) (y := y_5) (by omega) (by omega); omega
  refine lv_iconst (v := 1) hx hb dX9_setSpot_26 (by decide) ?_
  refine lv_iadd hx hb dX9_setSpot_27 ?_
  refine lv_topi (fun y_7 ey_7 => ?_)
  have ty_7 : y_7.toInt = y_6.toInt + 1 := by rw [ey_7]; have := fb_addI (x := y_6) (y := 1) (by omega) (by omega); omega
  refine lv_iload hx hb dX9_setSpot_28 (lv_at hl 4 rfl) ?_
  refine va_iast hx hb hK hP hD hS 1 0 rfl rfl (vp_in_iff.mpr ⟨by omega, by omega⟩) dX9_setSpot_30 (fun H locs hP hD hS => ?_)
  have hP : va_P (dC, dI) vwCl [(h0, .inr (9, [.int th, .ref a1, .ref a2, .ref a3, .ref a4, .ref a5, .int ne, .int wi, .int dn, .ref a6, .ref a7, .int nn, .ref a8, .int la, .ref a9, .ref a10, .long up, .long lw, .int wh, .long pu, .long pw, .ref a11])), (a5, .inl (cI, 576, .inl (upd (upd Sp (y_3 : Int32).toNatClampNeg p3) (y_7 : Int32).toNatClampNeg p4)))] H := hP
  have hD : va_D A [(h0, .inr (9, [.int th, .ref a1, .ref a2, .ref a3, .ref a4, .ref a5, .int ne, .int wi, .int dn, .ref a6, .ref a7, .int nn, .ref a8, .int la, .ref a9, .ref a10, .long up, .long lw, .int wh, .long pu, .long pw, .ref a11])), (a5, .inl (cI, 576, .inl (upd (upd Sp (y_3 : Int32).toNatClampNeg p3) (y_7 : Int32).toNatClampNeg p4)))] := hD
  refine lv_aload_n hx hb dX9_setSpot_31 rfl (lv_at hl 0 rfl) ?_
  refine va_get (D := (dC, dI)) (ci := 9) (v := .ref a5) (C := RX9) (T := TX9) (N := 22) hx hb hts in_X9_setSpot_X9 hown hK hP 0 rfl rfl 5 (by decide) (hts (.fieldLink RX9 23 "MeetingsAboveModel" "spots" "[I") (by decide +kernel)) (fun _ h9 => h9) rfl dX9_setSpot_32 ?_
  refine lv_bipush (v := 36) hx hb dX9_setSpot_35 (by decide) ?_
  refine lv_iload_n hx hb dX9_setSpot_37 rfl (lv_at hl 1 rfl) ?_
  refine lv_imul hx hb dX9_setSpot_38 ?_
  refine lv_topi (fun y_8 ey_8 => ?_)
  have ty_8 : y_8.toInt = 36 * p1.toInt := by rw [ey_8]; exact fm_lI kl_36 (by omega) (by omega)
  refine lv_iconst (v := 3) hx hb dX9_setSpot_39 (by decide) ?_
  refine lv_iload_n hx hb dX9_setSpot_40 rfl (lv_at hl 2 rfl) ?_
  refine lv_imul hx hb dX9_setSpot_41 ?_
  refine lv_topi (fun y_9 ey_9 => ?_)
  have ty_9 : y_9.toInt = 3 * p2.toInt := by rw [ey_9]; exact fm_lI kl_3 (by omega) (by omega)
  refine lv_iadd hx hb dX9_setSpot_42 ?_
  refine lv_topi (fun y_10 ey_10 => ?_)
  have ty_10 : y_10.toInt = y_8.toInt + y_9.toInt := by rw [ey_10]; have := fb_addI (x := y_8) (y := y_9) (by omega) (by omega); omega
  refine lv_iconst (v := 2) hx hb dX9_setSpot_43 (by decide) ?_
  refine lv_iadd hx hb dX9_setSpot_44 ?_
  refine lv_topi (fun y_11 ey_11 => ?_)
  have ty_11 : y_11.toInt = y_10.toInt + 2 := by rw [ey_11]; have := fb_addI (x := y_10) (y := 2) (by omega) (by omega); omega
  refine lv_iload hx hb dX9_setSpot_45 (lv_at hl 5 rfl) ?_
  refine va_iast hx hb hK hP hD hS 1 0 rfl rfl (vp_in_iff.mpr ⟨by omega, by omega⟩) dX9_setSpot_47 (fun H locs hP hD hS => ?_)
  have hP : va_P (dC, dI) vwCl [(h0, .inr (9, [.int th, .ref a1, .ref a2, .ref a3, .ref a4, .ref a5, .int ne, .int wi, .int dn, .ref a6, .ref a7, .int nn, .ref a8, .int la, .ref a9, .ref a10, .long up, .long lw, .int wh, .long pu, .long pw, .ref a11])), (a5, .inl (cI, 576, .inl (upd (upd (upd Sp (y_3 : Int32).toNatClampNeg p3) (y_7 : Int32).toNatClampNeg p4) (y_11 : Int32).toNatClampNeg p5)))] H := hP
  have hD : va_D A [(h0, .inr (9, [.int th, .ref a1, .ref a2, .ref a3, .ref a4, .ref a5, .int ne, .int wi, .int dn, .ref a6, .ref a7, .int nn, .ref a8, .int la, .ref a9, .ref a10, .long up, .long lw, .int wh, .long pu, .long pw, .ref a11])), (a5, .inl (cI, 576, .inl (upd (upd (upd Sp (y_3 : Int32).toNatClampNeg p3) (y_7 : Int32).toNatClampNeg p4) (y_11 : Int32).toNatClampNeg p5)))] := hD
  have hP9 := hP.sub (ws' := [(h0, .inr (9, [.int th, .ref a1, .ref a2, .ref a3, .ref a4, .ref a5, .int ne, .int wi, .int dn, .ref a6, .ref a7, .int nn, .ref a8, .int la, .ref a9, .ref a10, .long up, .long lw, .int wh, .long pu, .long pw, .ref a11])), (a5, .inl (cI, 576, .inl (upd (upd (upd Sp (y_3 : Int32).toNatClampNeg p3) (y_7 : Int32).toNatClampNeg p4) (y_11 : Int32).toNatClampNeg p5)))]) [0, 1] rfl
  have hD9 := hD.sub (ws' := [(h0, .inr (9, [.int th, .ref a1, .ref a2, .ref a3, .ref a4, .ref a5, .int ne, .int wi, .int dn, .ref a6, .ref a7, .int nn, .ref a8, .int la, .ref a9, .ref a10, .long up, .long lw, .int wh, .long pu, .long pw, .ref a11])), (a5, .inl (cI, 576, .inl (upd (upd (upd Sp (y_3 : Int32).toNatClampNeg p3) (y_7 : Int32).toNatClampNeg p4) (y_11 : Int32).toNatClampNeg p5)))]) [0, 1] (by decide) rfl
  have hK9 := hK.sub (tys' := [(cI, .int)]) [0] rfl
  refine W.widen (k := 0) (n := 0) (by omega) (by omega) ?_
  exact W.vret hx hb hr (fun t ht hW => ⟨⟨(), rfl, trivial, (upd (upd (upd Sp (y_3 : Int32).toNatClampNeg p3) (y_7 : Int32).toNatClampNeg p4) (y_11 : Int32).toNatClampNeg p5), by rw [ht]; exact hP9, va_K.moved hW.alike hK9, hD9, (st3_eq (by omega) (by omega) (by omega) (by omega))⟩, hS.F ht⟩) hS.2.2 dX9_setSpot_48
def wk_X9_fresh : List Cond := .code yX9_fresh cX9_fresh 3 (some .int) :: (([.fieldLink RX9 7 "MeetingsAboveModel" "firsts" "[I", .fieldLink RX9 59 "MeetingsAboveModel" "things" "I", .fieldLink RX9 13 "MeetingsAboveModel" "many" "[I", .fieldLink RX9 16 "MeetingsAboveModel" "doubts" "[I", .fieldLink RX9 19 "MeetingsAboveModel" "isGone" "[Z"] : List Cond) ++ (wsX90 ++ ([])))
theorem in_X9_fresh_X9 : ∀ w ∈ wsX90, w ∈ wk_X9_fresh := fun _ h => List.mem_cons_of_mem _ (List.mem_append_right _ (List.mem_append_left _ h))
theorem gw_X9_fresh : AG wk_X9_fresh := AG_ca (AG_l (by decide +kernel)) (AG_app ag_X9 (AG_nil))
set_option maxHeartbeats 4000000 in
set_option maxRecDepth 100000 in
theorem c_X9_fresh (l : Launch) (dC : Nat → ClassId) (dI : Nat → Nat → Nat) (h0 : Nat) (a1 : Nat) (a2 : Nat) (a3 : Nat) (a4 : Nat) (a5 : Nat) (a6 : Nat) (a7 : Nat) (a8 : Nat) (a9 : Nat) (a10 : Nat) (a11 : Nat) (th : Int32) (ne : Int32) (wi : Int32) (dn : Int32) (nn : Int32) (la : Int32) (wh : Int32) (up : Int64) (lw : Int64) (pu : Int64) (pw : Int64) (cI : ClassId) (cZ : ClassId) (Fi : Nat → Int32) (Ma : Nat → Int32) (Db : Nat → Int32) (Go : Nat → Int32) (p1 : Int32) (p2 : Int32) (sz : Nat) (hT0 : 0 ≤ th.toInt) (hT1 : th.toInt < 16) : Met l yX9_fresh wk_X9_fresh ({ frames := 0, cells := 0, slots := 0, locals := 0 }) (va_Pc [.ref h0, .int p1, .int p2] (fun U => U.heap.size = sz ∧ va_P (dC, dI) vwCl [(h0, .inr (9, [.int th, .ref a1, .ref a2, .ref a3, .ref a4, .ref a5, .int ne, .int wi, .int dn, .ref a6, .ref a7, .int nn, .ref a8, .int la, .ref a9, .ref a10, .long up, .long lw, .int wh, .long pu, .long pw, .ref a11])), (a1, .inl (cI, 16, .inl Fi)), (a2, .inl (cI, 16, .inl Ma)), (a3, .inl (cI, 16, .inl Db)), (a4, .inl (cZ, 16, .inl Go))] U.heap ∧ va_K (dC, dI) vwCl [(cI, .int), (cZ, .boolean)] U ∧ va_D (fun _ => True) [(h0, .inr (9, [.int th, .ref a1, .ref a2, .ref a3, .ref a4, .ref a5, .int ne, .int wi, .int dn, .ref a6, .ref a7, .int nn, .ref a8, .int la, .ref a9, .ref a10, .long up, .long lw, .int wh, .long pu, .long pw, .ref a11])), (a1, .inl (cI, 16, .inl Fi)), (a2, .inl (cI, 16, .inl Ma)), (a3, .inl (cI, 16, .inl Db)), (a4, .inl (cZ, 16, .inl Go))])) (va_Qi (fun (r : Int32) (_ : Unit) => r = th) (fun (_ : Unit) (t : State) => ∃ (th9 : Int32), va_P (dC, dI) vwCl [(h0, .inr (9, [.int th9, .ref a1, .ref a2, .ref a3, .ref a4, .ref a5, .int ne, .int wi, .int dn, .ref a6, .ref a7, .int nn, .ref a8, .int la, .ref a9, .ref a10, .long up, .long lw, .int wh, .long pu, .long pw, .ref a11])), (a1, .inl (cI, 16, .inl (upd Fi (th : Int32).toNatClampNeg p1))), (a2, .inl (cI, 16, .inl (upd Ma (th : Int32).toNatClampNeg 0))), (a3, .inl (cI, 16, .inl (upd Db (th : Int32).toNatClampNeg p2))), (a4, .inl (cZ, 16, .inl (upd Go (th : Int32).toNatClampNeg (vp_nar .boolean 0))))] t.heap ∧ va_K (dC, dI) vwCl [(cI, .int), (cZ, .boolean)] t ∧ va_D (va_A [(h0, .inr (9, [.int th, .ref a1, .ref a2, .ref a3, .ref a4, .ref a5, .int ne, .int wi, .int dn, .ref a6, .ref a7, .int nn, .ref a8, .int la, .ref a9, .ref a10, .long up, .long lw, .int wh, .long pu, .long pw, .ref a11])), (a1, .inl (cI, 16, .inl Fi)), (a2, .inl (cI, 16, .inl Ma)), (a3, .inl (cI, 16, .inl Db)), (a4, .inl (cZ, 16, .inl Go))] sz) [(h0, .inr (9, [.int th9, .ref a1, .ref a2, .ref a3, .ref a4, .ref a5, .int ne, .int wi, .int dn, .ref a6, .ref a7, .int nn, .ref a8, .int la, .ref a9, .ref a10, .long up, .long lw, .int wh, .long pu, .long pw, .ref a11])), (a1, .inl (cI, 16, .inl (upd Fi (th : Int32).toNatClampNeg p1))), (a2, .inl (cI, 16, .inl (upd Ma (th : Int32).toNatClampNeg 0))), (a3, .inl (cI, 16, .inl (upd Db (th : Int32).toNatClampNeg p2))), (a4, .inl (cZ, 16, .inl (upd Go (th : Int32).toNatClampNeg (vp_nar .boolean 0))))] ∧ th9.toInt = th.toInt + 1) (va_A [(h0, .inr (9, [.int th, .ref a1, .ref a2, .ref a3, .ref a4, .ref a5, .int ne, .int wi, .int dn, .ref a6, .ref a7, .int nn, .ref a8, .int la, .ref a9, .ref a10, .long up, .long lw, .int wh, .long pu, .long pw, .ref a11])), (a1, .inl (cI, 16, .inl Fi)), (a2, .inl (cI, 16, .inl Ma)), (a3, .inl (cI, 16, .inl Db)), (a4, .inl (cZ, 16, .inl Go))] sz)) 0 0 (va_A [(h0, .inr (9, [.int th, .ref a1, .ref a2, .ref a3, .ref a4, .ref a5, .int ne, .int wi, .int dn, .ref a6, .ref a7, .int nn, .ref a8, .int la, .ref a9, .ref a10, .long up, .long lw, .int wh, .long pu, .long pw, .ref a11])), (a1, .inl (cI, 16, .inl Fi)), (a2, .inl (cI, 16, .inl Ma)), (a3, .inl (cI, 16, .inl Db)), (a4, .inl (cZ, 16, .inl Go))] sz) := by
  refine Met.ofW (cc := cX9_fresh) (maxL := 3) (ret := (some .int)) (by decide) rfl ?_
  intro p e s m args below meth c s₁ B hml hv
  obtain ⟨rfl, hsz, hP, hK, hD0⟩ := hv
  have hx := B.exec
  have hb := B.bytes
  have hr := B.returns
  have hts := atoms_spec (ws := wk_X9_fresh) B.pre
  have hown : s.vm.findClass RX9 = some m.cls := findClass_of_methodNamed B.named
  have hlocks := B.notSynchronized
  subst hsz
  have hD := hD0.self (sz := s.heap.size)
  generalize hAe : va_A [(h0, .inr (9, [.int th, .ref a1, .ref a2, .ref a3, .ref a4, .ref a5, .int ne, .int wi, .int dn, .ref a6, .ref a7, .int nn, .ref a8, .int la, .ref a9, .ref a10, .long up, .long lw, .int wh, .long pu, .long pw, .ref a11])), (a1, .inl (cI, 16, .inl Fi)), (a2, .inl (cI, 16, .inl Ma)), (a3, .inl (cI, 16, .inl Db)), (a4, .inl (cZ, 16, .inl Go))] s.heap.size = A at hD ⊢
  have hA : ∀ q : Nat, s.heap.size ≤ q → A q := fun q h => by rw [← hAe]; exact Or.inr h
  have hS : va_S A s.heap s.heap [] := va_S.rf
  have hP : va_P (dC, dI) vwCl [(h0, .inr (9, [.int th, .ref a1, .ref a2, .ref a3, .ref a4, .ref a5, .int ne, .int wi, .int dn, .ref a6, .ref a7, .int nn, .ref a8, .int la, .ref a9, .ref a10, .long up, .long lw, .int wh, .long pu, .long pw, .ref a11])), (a1, .inl (cI, 16, .inl Fi)), (a2, .inl (cI, 16, .inl Ma)), (a3, .inl (cI, 16, .inl Db)), (a4, .inl (cZ, 16, .inl Go))] s.heap := hP
  have hl := lv_entry ([.ref h0, .int p1, .int p2]) (n := 3) (Nat.le_of_ble_eq_true rfl)
  rw [lg_entry_eq]
  generalize (lg_sl ([.ref h0, .int p1, .int p2]) ++ List.replicate (3 - (lg_sl ([.ref h0, .int p1, .int p2])).length) Slot.unset).toArray = ls at hl ⊢
  have hl : lv_has ls 3 [(0, .ref h0), (1, .int p1), (2, .int p2)] := hl
  have kl_1 : (1 : Int32).toInt = 1 := by decide
  refine lv_aload_n hx hb dX9_fresh_0 rfl (lv_at hl 0 rfl) ?_
  refine va_get (D := (dC, dI)) (ci := 9) (v := .ref a1) (C := RX9) (T := TX9) (N := 22) hx hb hts in_X9_fresh_X9 hown hK hP 0 rfl rfl 1 (by decide) (hts (.fieldLink RX9 7 "MeetingsAboveModel" "firsts" "[I") (by decide +kernel)) (fun _ h9 => h9) rfl dX9_fresh_1 ?_
  refine lv_aload_n hx hb dX9_fresh_4 rfl (lv_at hl 0 rfl) ?_
  refine va_get (D := (dC, dI)) (ci := 9) (v := .int th) (C := RX9) (T := TX9) (N := 22) hx hb hts in_X9_fresh_X9 hown hK hP 0 rfl rfl 0 (by decide) (hts (.fieldLink RX9 59 "MeetingsAboveModel" "things" "I") (by decide +kernel)) (fun _ h9 => h9) rfl dX9_fresh_5 ?_
  refine lv_iload_n hx hb dX9_fresh_8 rfl (lv_at hl 1 rfl) ?_
  refine va_iast hx hb hK hP hD hS 1 0 rfl rfl (vp_in_iff.mpr ⟨by omega, by omega⟩) dX9_fresh_9 (fun H locs hP hD hS => ?_)
  have hP : va_P (dC, dI) vwCl [(h0, .inr (9, [.int th, .ref a1, .ref a2, .ref a3, .ref a4, .ref a5, .int ne, .int wi, .int dn, .ref a6, .ref a7, .int nn, .ref a8, .int la, .ref a9, .ref a10, .long up, .long lw, .int wh, .long pu, .long pw, .ref a11])), (a1, .inl (cI, 16, .inl (upd Fi (th : Int32).toNatClampNeg p1))), (a2, .inl (cI, 16, .inl Ma)), (a3, .inl (cI, 16, .inl Db)), (a4, .inl (cZ, 16, .inl Go))] H := hP
  have hD : va_D A [(h0, .inr (9, [.int th, .ref a1, .ref a2, .ref a3, .ref a4, .ref a5, .int ne, .int wi, .int dn, .ref a6, .ref a7, .int nn, .ref a8, .int la, .ref a9, .ref a10, .long up, .long lw, .int wh, .long pu, .long pw, .ref a11])), (a1, .inl (cI, 16, .inl (upd Fi (th : Int32).toNatClampNeg p1))), (a2, .inl (cI, 16, .inl Ma)), (a3, .inl (cI, 16, .inl Db)), (a4, .inl (cZ, 16, .inl Go))] := hD
  refine lv_aload_n hx hb dX9_fresh_10 rfl (lv_at hl 0 rfl) ?_
  refine va_get (D := (dC, dI)) (ci := 9) (v := .ref a2) (C := RX9) (T := TX9) (N := 22) hx hb hts in_X9_fresh_X9 hown hK hP 0 rfl rfl 2 (by decide) (hts (.fieldLink RX9 13 "MeetingsAboveModel" "many" "[I") (by decide +kernel)) (fun _ h9 => h9) rfl dX9_fresh_11 ?_
  refine lv_aload_n hx hb dX9_fresh_14 rfl (lv_at hl 0 rfl) ?_
  refine va_get (D := (dC, dI)) (ci := 9) (v := .int th) (C := RX9) (T := TX9) (N := 22) hx hb hts in_X9_fresh_X9 hown hK hP 0 rfl rfl 0 (by decide) (hts (.fieldLink RX9 59 "MeetingsAboveModel" "things" "I") (by decide +kernel)) (fun _ h9 => h9) rfl dX9_fresh_15 ?_
  refine lv_iconst (v := 0) hx hb dX9_fresh_18 (by decide) ?_
  refine va_iast hx hb hK hP hD hS 2 0 rfl rfl (vp_in_iff.mpr ⟨by omega, by omega⟩) dX9_fresh_19 (fun H locs hP hD hS => ?_)
  have hP : va_P (dC, dI) vwCl [(h0, .inr (9, [.int th, .ref a1, .ref a2, .ref a3, .ref a4, .ref a5, .int ne, .int wi, .int dn, .ref a6, .ref a7, .int nn, .ref a8, .int la, .ref a9, .ref a10, .long up, .long lw, .int wh, .long pu, .long pw, .ref a11])), (a1, .inl (cI, 16, .inl (upd Fi (th : Int32).toNatClampNeg p1))), (a2, .inl (cI, 16, .inl (upd Ma (th : Int32).toNatClampNeg 0))), (a3, .inl (cI, 16, .inl Db)), (a4, .inl (cZ, 16, .inl Go))] H := hP
  have hD : va_D A [(h0, .inr (9, [.int th, .ref a1, .ref a2, .ref a3, .ref a4, .ref a5, .int ne, .int wi, .int dn, .ref a6, .ref a7, .int nn, .ref a8, .int la, .ref a9, .ref a10, .long up, .long lw, .int wh, .long pu, .long pw, .ref a11])), (a1, .inl (cI, 16, .inl (upd Fi (th : Int32).toNatClampNeg p1))), (a2, .inl (cI, 16, .inl (upd Ma (th : Int32).toNatClampNeg 0))), (a3, .inl (cI, 16, .inl Db)), (a4, .inl (cZ, 16, .inl Go))] := hD
  refine lv_aload_n hx hb dX9_fresh_20 rfl (lv_at hl 0 rfl) ?_
  refine va_get (D := (dC, dI)) (ci := 9) (v := .ref a3) (C := RX9) (T := TX9) (N := 22) hx hb hts in_X9_fresh_X9 hown hK hP 0 rfl rfl 3 (by decide) (hts (.fieldLink RX9 16 "MeetingsAboveModel" "doubts" "[I") (by decide +kernel)) (fun _ h9 => h9) rfl dX9_fresh_21 ?_
  refine lv_aload_n hx hb dX9_fresh_24 rfl (lv_at hl 0 rfl) ?_
  refine va_get (D := (dC, dI)) (ci := 9) (v := .int th) (C := RX9) (T := TX9) (N := 22) hx hb hts in_X9_fresh_X9 hown hK hP 0 rfl rfl 0 (by decide) (hts (.fieldLink RX9 59 "MeetingsAboveModel" "things" "I") (by decide +kernel)) (fun _ h9 => h9) rfl dX9_fresh_25 ?_
  refine lv_iload_n hx hb dX9_fresh_28 rfl (lv_at hl 2 rfl) ?_
  refine va_iast hx hb hK hP hD hS 3 0 rfl rfl (vp_in_iff.mpr ⟨by omega, by omega⟩) dX9_fresh_29 (fun H locs hP hD hS => ?_)
  have hP : va_P (dC, dI) vwCl [(h0, .inr (9, [.int th, .ref a1, .ref a2, .ref a3, .ref a4, .ref a5, .int ne, .int wi, .int dn, .ref a6, .ref a7, .int nn, .ref a8, .int la, .ref a9, .ref a10, .long up, .long lw, .int wh, .long pu, .long pw, .ref a11])), (a1, .inl (cI, 16, .inl (upd Fi (th : Int32).toNatClampNeg p1))), (a2, .inl (cI, 16, .inl (upd Ma (th : Int32).toNatClampNeg 0))), (a3, .inl (cI, 16, .inl (upd Db (th : Int32).toNatClampNeg p2))), (a4, .inl (cZ, 16, .inl Go))] H := hP
  have hD : va_D A [(h0, .inr (9, [.int th, .ref a1, .ref a2, .ref a3, .ref a4, .ref a5, .int ne, .int wi, .int dn, .ref a6, .ref a7, .int nn, .ref a8, .int la, .ref a9, .ref a10, .long up, .long lw, .int wh, .long pu, .long pw, .ref a11])), (a1, .inl (cI, 16, .inl (upd Fi (th : Int32).toNatClampNeg p1))), (a2, .inl (cI, 16, .inl (upd Ma (th : Int32).toNatClampNeg 0))), (a3, .inl (cI, 16, .inl (upd Db (th : Int32).toNatClampNeg p2))), (a4, .inl (cZ, 16, .inl Go))] := hD
  refine lv_aload_n hx hb dX9_fresh_30 rfl (lv_at hl 0 rfl) ?_
  refine va_get (D := (dC, dI)) (ci := 9) (v := .ref a4) (C := RX9) (T := TX9) (N := 22) hx hb hts in_X9_fresh_X9 hown hK hP 0 rfl rfl 4 (by decide) (hts (.fieldLink RX9 19 "MeetingsAboveModel" "isGone" "[Z") (by decide +kernel)) (fun _ h9 => h9) rfl dX9_fresh_31 ?_
  refine lv_aload_n hx hb dX9_fresh_34 rfl (lv_at hl 0 rfl) ?_
  refine va_get (D := (dC, dI)) (ci := 9) (v := .int th) (C := RX9) (T := TX9) (N := 22) hx hb hts in_X9_fresh_X9 hown hK hP 0 rfl rfl 0 (by decide) (hts (.fieldLink RX9 59 "MeetingsAboveModel" "things" "I") (by decide +kernel)) (fun _ h9 => h9) rfl dX9_fresh_35 ?_
  refine lv_iconst (v := 0) hx hb dX9_fresh_38 (by decide) ?_
  refine va_zast hx hb hK hP hD hS 4 1 rfl rfl (vp_in_iff.mpr ⟨by omega, by omega⟩) dX9_fresh_39 (fun H locs hP hD hS => ?_)
  have hP : va_P (dC, dI) vwCl [(h0, .inr (9, [.int th, .ref a1, .ref a2, .ref a3, .ref a4, .ref a5, .int ne, .int wi, .int dn, .ref a6, .ref a7, .int nn, .ref a8, .int la, .ref a9, .ref a10, .long up, .long lw, .int wh, .long pu, .long pw, .ref a11])), (a1, .inl (cI, 16, .inl (upd Fi (th : Int32).toNatClampNeg p1))), (a2, .inl (cI, 16, .inl (upd Ma (th : Int32).toNatClampNeg 0))), (a3, .inl (cI, 16, .inl (upd Db (th : Int32).toNatClampNeg p2))), (a4, .inl (cZ, 16, .inl (upd Go (th : Int32).toNatClampNeg (vp_nar .boolean 0))))] H := hP
  have hD : va_D A [(h0, .inr (9, [.int th, .ref a1, .ref a2, .ref a3, .ref a4, .ref a5, .int ne, .int wi, .int dn, .ref a6, .ref a7, .int nn, .ref a8, .int la, .ref a9, .ref a10, .long up, .long lw, .int wh, .long pu, .long pw, .ref a11])), (a1, .inl (cI, 16, .inl (upd Fi (th : Int32).toNatClampNeg p1))), (a2, .inl (cI, 16, .inl (upd Ma (th : Int32).toNatClampNeg 0))), (a3, .inl (cI, 16, .inl (upd Db (th : Int32).toNatClampNeg p2))), (a4, .inl (cZ, 16, .inl (upd Go (th : Int32).toNatClampNeg (vp_nar .boolean 0))))] := hD
  refine lv_aload_n hx hb dX9_fresh_40 rfl (lv_at hl 0 rfl) ?_
  refine lv_dup hx hb dX9_fresh_41 rfl ?_
  refine va_get (D := (dC, dI)) (ci := 9) (v := .int th) (C := RX9) (T := TX9) (N := 22) hx hb hts in_X9_fresh_X9 hown hK hP 0 rfl rfl 0 (by decide) (hts (.fieldLink RX9 59 "MeetingsAboveModel" "things" "I") (by decide +kernel)) (fun _ h9 => h9) rfl dX9_fresh_42 ?_
  refine lv_iconst (v := 1) hx hb dX9_fresh_45 (by decide) ?_
  refine lv_iadd hx hb dX9_fresh_46 ?_
  refine lv_topi (fun y_1 ey_1 => ?_)
  have ty_1 : y_1.toInt = th.toInt + 1 := by rw [ey_1]; have := fb_addI (x := th) (y := 1) (by omega) (by omega); omega
  refine va_put (D := (dC, dI)) (ci := 9) (v := .int y_1) (ty := .int) (C := RX9) (T := TX9) (N := 22) hx hb hts in_X9_fresh_X9 tyX9 tyX9_ok nmX9 hown hK hP hD hS 0 rfl rfl 0 (by decide) (hts (.fieldLink RX9 59 "MeetingsAboveModel" "things" "I") (by decide +kernel)) (fun _ h9 => h9) rfl (by decide +kernel) rfl rfl (Nat.le_of_ble_eq_true rfl) dX9_fresh_47 (fun H locs hP hD hS => ?_)
  have hP : va_P (dC, dI) vwCl [(h0, .inr (9, [.int y_1, .ref a1, .ref a2, .ref a3, .ref a4, .ref a5, .int ne, .int wi, .int dn, .ref a6, .ref a7, .int nn, .ref a8, .int la, .ref a9, .ref a10, .long up, .long lw, .int wh, .long pu, .long pw, .ref a11])), (a1, .inl (cI, 16, .inl (upd Fi (th : Int32).toNatClampNeg p1))), (a2, .inl (cI, 16, .inl (upd Ma (th : Int32).toNatClampNeg 0))), (a3, .inl (cI, 16, .inl (upd Db (th : Int32).toNatClampNeg p2))), (a4, .inl (cZ, 16, .inl (upd Go (th : Int32).toNatClampNeg (vp_nar .boolean 0))))] H := hP
  have hD : va_D A [(h0, .inr (9, [.int y_1, .ref a1, .ref a2, .ref a3, .ref a4, .ref a5, .int ne, .int wi, .int dn, .ref a6, .ref a7, .int nn, .ref a8, .int la, .ref a9, .ref a10, .long up, .long lw, .int wh, .long pu, .long pw, .ref a11])), (a1, .inl (cI, 16, .inl (upd Fi (th : Int32).toNatClampNeg p1))), (a2, .inl (cI, 16, .inl (upd Ma (th : Int32).toNatClampNeg 0))), (a3, .inl (cI, 16, .inl (upd Db (th : Int32).toNatClampNeg p2))), (a4, .inl (cZ, 16, .inl (upd Go (th : Int32).toNatClampNeg (vp_nar .boolean 0))))] := hD
  refine lv_aload_n hx hb dX9_fresh_50 rfl (lv_at hl 0 rfl) ?_
  refine va_get (D := (dC, dI)) (ci := 9) (v := .int y_1) (C := RX9) (T := TX9) (N := 22) hx hb hts in_X9_fresh_X9 hown hK hP 0 rfl rfl 0 (by decide) (hts (.fieldLink RX9 59 "MeetingsAboveModel" "things" "I") (by decide +kernel)) (fun _ h9 => h9) rfl dX9_fresh_51 ?_
  refine lv_iconst (v := 1) hx hb dX9_fresh_54 (by decide) ?_
  refine lv_isub hx hb dX9_fresh_55 ?_
  refine lv_topi (fun y_2 ey_2 => ?_)
  have ty_2 : y_2.toInt = y_1.toInt - 1 := by rw [ey_2]; have := fb_subI (x := y_1) (y := 1) (by omega) (by omega); omega
  have hP9 := hP.sub (ws' := [(h0, .inr (9, [.int y_1, .ref a1, .ref a2, .ref a3, .ref a4, .ref a5, .int ne, .int wi, .int dn, .ref a6, .ref a7, .int nn, .ref a8, .int la, .ref a9, .ref a10, .long up, .long lw, .int wh, .long pu, .long pw, .ref a11])), (a1, .inl (cI, 16, .inl (upd Fi (th : Int32).toNatClampNeg p1))), (a2, .inl (cI, 16, .inl (upd Ma (th : Int32).toNatClampNeg 0))), (a3, .inl (cI, 16, .inl (upd Db (th : Int32).toNatClampNeg p2))), (a4, .inl (cZ, 16, .inl (upd Go (th : Int32).toNatClampNeg (vp_nar .boolean 0))))]) [0, 1, 2, 3, 4] rfl
  have hD9 := hD.sub (ws' := [(h0, .inr (9, [.int y_1, .ref a1, .ref a2, .ref a3, .ref a4, .ref a5, .int ne, .int wi, .int dn, .ref a6, .ref a7, .int nn, .ref a8, .int la, .ref a9, .ref a10, .long up, .long lw, .int wh, .long pu, .long pw, .ref a11])), (a1, .inl (cI, 16, .inl (upd Fi (th : Int32).toNatClampNeg p1))), (a2, .inl (cI, 16, .inl (upd Ma (th : Int32).toNatClampNeg 0))), (a3, .inl (cI, 16, .inl (upd Db (th : Int32).toNatClampNeg p2))), (a4, .inl (cZ, 16, .inl (upd Go (th : Int32).toNatClampNeg (vp_nar .boolean 0))))]) [0, 1, 2, 3, 4] (by decide) rfl
  have hK9 := hK.sub (tys' := [(cI, .int), (cZ, .boolean)]) [0, 1] rfl
  refine W.widen (k := 0) (n := 0) (by omega) (by omega) ?_
  exact W.iret (v := y_2) hx hb hr (fun t ht hW => ⟨⟨_, (), rfl, (Int32.toInt_inj.mp (by omega)), y_1, by rw [ht]; exact hP9, va_K.moved hW.alike hK9, hD9, (by omega)⟩, hS.F ht⟩) hS.2.2 dX9_fresh_56
