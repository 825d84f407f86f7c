def wk_X9_firstOf : List Cond := .code yX9_firstOf cX9_firstOf 3 (some .int) :: (([.fieldLink RX9 7 "MeetingsAboveModel" "firsts" "[I"] : List Cond) ++ (wsX90 ++ ([])))
theorem in_X9_firstOf_X9 : ∀ w ∈ wsX90, w ∈ wk_X9_firstOf := fun _ h => List.mem_cons_of_mem _ (List.mem_append_right _ (List.mem_append_left _ h))
theorem gw_X9_firstOf : AG wk_X9_firstOf := AG_ca (AG_l (by decide +kernel)) (AG_app ag_X9 (AG_nil))
set_option maxHeartbeats 4000000 in
set_option maxRecDepth 100000 in
theorem c_X9_firstOf (l : Launch) (dC : Nat → ClassId) (dI : Nat → Nat → Nat) (Ma : Nat → Int32) (h0 : Nat) (a1 : Nat) (a2 : Nat) (a3 : Nat) (a4 : Nat) (a5 : Nat) (a6 : Nat) (a7 : Nat) (a8 : Nat) (a9 : Nat) (a10 : Nat) (a11 : Nat) (th : Int32) (ne : Int32) (wi : Int32) (dn : Int32) (nn : Int32) (la : Int32) (wh : Int32) (up : Int64) (lw : Int64) (pu : Int64) (pw : Int64) (cI : ClassId) (Fi : Nat → Int32) (p1 : Int32) (p2 : Int32) (hM : mOK th Fi Ma) (hp10 : 0 ≤ p1.toInt) (hp11 : p1.toInt < th.toInt) (hp20 : 0 ≤ p2.toInt) (hp21 : p2.toInt < th.toInt) : Met l yX9_firstOf wk_X9_firstOf ({ frames := 0, cells := 0, slots := 0, locals := 0 }) (va_Pc [.ref h0, .int p1, .int p2] (fun U => va_P (dC, dI) vwCl [(h0, .inr (9, [.int th, .ref a1, .ref a2, .ref a3, .ref a4, .ref a5, .int ne, .int wi, .int dn, .ref a6, .ref a7, .int nn, .ref a8, .int la, .ref a9, .ref a10, .long up, .long lw, .int wh, .long pu, .long pw, .ref a11])), (a1, .inl (cI, 16, .inl Fi))] U.heap ∧ va_K (dC, dI) vwCl [(cI, .int)] U)) (vp_Si (fun r => (Fi p1.toNatClampNeg).toInt ≤ r.toInt ∧ (Fi p2.toNatClampNeg).toInt ≤ r.toInt ∧ (r.toInt = (Fi p1.toNatClampNeg).toInt ∨ r.toInt = (Fi p2.toNatClampNeg).toInt))) 0 0 (fun _ => False) := by
  refine Met.ofW (cc := cX9_firstOf) (maxL := 3) (ret := (some .int)) (by decide) rfl ?_
  intro p e s m args below meth c s₁ B hml hv
  obtain ⟨rfl, hP, hK⟩ := hv
  have hx := B.exec
  have hb := B.bytes
  have hr := B.returns
  have hts := atoms_spec (ws := wk_X9_firstOf) B.pre
  have hown : s.vm.findClass RX9 = some m.cls := findClass_of_methodNamed B.named
  have hlocks := B.notSynchronized
  have hP : va_P (dC, dI) vwCl [(h0, .inr (9, [.int th, .ref a1, .ref a2, .ref a3, .ref a4, .ref a5, .int ne, .int wi, .int dn, .ref a6, .ref a7, .int nn, .ref a8, .int la, .ref a9, .ref a10, .long up, .long lw, .int wh, .long pu, .long pw, .ref a11])), (a1, .inl (cI, 16, .inl Fi))] s.heap := hP
  have hl := lv_entry ([.ref h0, .int p1, .int p2]) (n := 3) (Nat.le_of_ble_eq_true rfl)
  rw [lg_entry_eq]
  generalize (lg_sl ([.ref h0, .int p1, .int p2]) ++ List.replicate (3 - (lg_sl ([.ref h0, .int p1, .int p2])).length) Slot.unset).toArray = ls at hl ⊢
  have hl : lv_has ls 3 [(0, .ref h0), (1, .int p1), (2, .int p2)] := hl
  obtain ⟨hM0, hM1, hM2⟩ := id hM
  have np1 : ((p1.toNatClampNeg : Nat) : Int) = p1.toInt := tc_I (by omega)
  have bp1 := hM2 p1.toNatClampNeg (by omega)
  have np2 : ((p2.toNatClampNeg : Nat) : Int) = p2.toInt := tc_I (by omega)
  have bp2 := hM2 p2.toNatClampNeg (by omega)
  refine lv_aload_n hx hb dX9_firstOf_0 rfl (lv_at hl 0 rfl) ?_
  refine va_get (D := (dC, dI)) (ci := 9) (v := .ref a1) (C := RX9) (T := TX9) (N := 22) hx hb hts in_X9_firstOf_X9 hown hK hP 0 rfl rfl 1 (by decide) (hts (.fieldLink RX9 7 "MeetingsAboveModel" "firsts" "[I") (by decide +kernel)) (fun _ h9 => h9) rfl dX9_firstOf_1 ?_
  refine lv_iload_n hx hb dX9_firstOf_4 rfl (lv_at hl 1 rfl) ?_
  refine va_iald hx hb hK hP 1 0 rfl rfl (vp_in_iff.mpr ⟨by omega, by omega⟩) dX9_firstOf_5 ?_
  refine lv_topi (fun y_1 ey_1 => ?_)
  have uy_1 : y_1.toInt = (Fi (p1 : Int32).toNatClampNeg).toInt := by rw [ey_1]
  refine lv_aload_n hx hb dX9_firstOf_6 rfl (lv_at hl 0 rfl) ?_
  refine va_get (D := (dC, dI)) (ci := 9) (v := .ref a1) (C := RX9) (T := TX9) (N := 22) hx hb hts in_X9_firstOf_X9 hown hK hP 0 rfl rfl 1 (by decide) (hts (.fieldLink RX9 7 "MeetingsAboveModel" "firsts" "[I") (by decide +kernel)) (fun _ h9 => h9) rfl dX9_firstOf_7 ?_
  refine lv_iload_n hx hb dX9_firstOf_10 rfl (lv_at hl 2 rfl) ?_
  refine va_iald hx hb hK hP 1 0 rfl rfl (vp_in_iff.mpr ⟨by omega, by omega⟩) dX9_firstOf_11 ?_
  refine lv_topi (fun y_2 ey_2 => ?_)
  have uy_2 : y_2.toInt = (Fi (p2 : Int32).toNatClampNeg).toInt := by rw [ey_2]
  refine lv_icmp_le (tgt := 24) hx hb dX9_firstOf_12 (by decide) (fun c_12 => ?_) (fun c_12 => ?_)
  · have t_12 := (fa_le _ _).mp c_12
    refine lv_aload_n hx hb dX9_firstOf_24 rfl (lv_at hl 0 rfl) ?_
    refine va_get (D := (dC, dI)) (ci := 9) (v := .ref a1) (C := RX9) (T := TX9) (N := 22) hx hb hts in_X9_firstOf_X9 hown hK hP 0 rfl rfl 1 (by decide) (hts (.fieldLink RX9 7 "MeetingsAboveModel" "firsts" "[I") (by decide +kernel)) (fun _ h9 => h9) rfl dX9_firstOf_25 ?_
    refine lv_iload_n hx hb dX9_firstOf_28 rfl (lv_at hl 2 rfl) ?_
    refine va_iald hx hb hK hP 1 0 rfl rfl (vp_in_iff.mpr ⟨by omega, by omega⟩) dX9_firstOf_29 ?_
    refine lv_topi (fun y_3 ey_3 => ?_)
    have uy_3 : y_3.toInt = (Fi (p2 : Int32).toNatClampNeg).toInt := by rw [ey_3]
    exact W.iret (v := y_3) hx hb hr (fun t ht _ => ⟨_, rfl, (by omega), ht⟩) (fun _ h => absurd h List.not_mem_nil) dX9_firstOf_30
  · have t_12 := mt (fa_le _ _).mpr c_12
    refine lv_aload_n hx hb dX9_firstOf_15 rfl (lv_at hl 0 rfl) ?_
    refine va_get (D := (dC, dI)) (ci := 9) (v := .ref a1) (C := RX9) (T := TX9) (N := 22) hx hb hts in_X9_firstOf_X9 hown hK hP 0 rfl rfl 1 (by decide) (hts (.fieldLink RX9 7 "MeetingsAboveModel" "firsts" "[I") (by decide +kernel)) (fun _ h9 => h9) rfl dX9_firstOf_16 ?_
    refine lv_iload_n hx hb dX9_firstOf_19 rfl (lv_at hl 1 rfl) ?_
    refine va_iald hx hb hK hP 1 0 rfl rfl (vp_in_iff.mpr ⟨by omega, by omega⟩) dX9_firstOf_20 ?_
    refine lv_topi (fun y_4 ey_4 => ?_)
    have uy_4 : y_4.toInt = (Fi (p1 : Int32).toNatClampNeg).toInt := by rw [ey_4]
    refine lv_goto (tgt := 30) hx hb dX9_firstOf_21 (by decide) ?_
    exact W.iret (v := y_4) hx hb hr (fun t ht _ => ⟨_, rfl, (by omega), ht⟩) (fun _ h => absurd h List.not_mem_nil) dX9_firstOf_30
def wk_X9_lastOf : List Cond := .code yX9_lastOf cX9_lastOf 5 (some .int) :: (([.fieldLink RX9 7 "MeetingsAboveModel" "firsts" "[I", .fieldLink RX9 13 "MeetingsAboveModel" "many" "[I"] : List Cond) ++ (wsX90 ++ ([])))
theorem in_X9_lastOf_X9 : ∀ w ∈ wsX90, w ∈ wk_X9_lastOf := fun _ h => List.mem_cons_of_mem _ (List.mem_append_right _ (List.mem_append_left _ h))
theorem gw_X9_lastOf : AG wk_X9_lastOf := AG_ca (AG_l (by decide +kernel)) (AG_app ag_X9 (AG_nil))
set_option maxHeartbeats 4000000 in
set_option maxRecDepth 100000 in
theorem c_X9_lastOf (l : Launch) (dC : Nat → ClassId) (dI : Nat → Nat → Nat) (h0 : Nat) (a1 : Nat) (a2 : Nat) (a3 : Nat) (a4 : Nat) (a5 : Nat) (a6 : Nat) (a7 : Nat) (a8 : Nat) (a9 : Nat) (a10 : Nat) (a11 : Nat) (th : Int32) (ne : Int32) (wi : Int32) (dn : Int32) (nn : Int32) (la : Int32) (wh : Int32) (up : Int64) (lw : Int64) (pu : Int64) (pw : Int64) (cI : ClassId) (Fi : Nat → Int32) (Ma : Nat → Int32) (p1 : Int32) (p2 : Int32) (hM : mOK th Fi Ma) (hp10 : 0 ≤ p1.toInt) (hp11 : p1.toInt < th.toInt) (hp20 : 0 ≤ p2.toInt) (hp21 : p2.toInt < th.toInt) : Met l yX9_lastOf wk_X9_lastOf ({ frames := 0, cells := 0, slots := 0, locals := 0 }) (va_Pc [.ref h0, .int p1, .int p2] (fun U => va_P (dC, dI) vwCl [(h0, .inr (9, [.int th, .ref a1, .ref a2, .ref a3, .ref a4, .ref a5, .int ne, .int wi, .int dn, .ref a6, .ref a7, .int nn, .ref a8, .int la, .ref a9, .ref a10, .long up, .long lw, .int wh, .long pu, .long pw, .ref a11])), (a1, .inl (cI, 16, .inl Fi)), (a2, .inl (cI, 16, .inl Ma))] U.heap ∧ va_K (dC, dI) vwCl [(cI, .int)] U)) (vp_Si (fun r => r.toInt < (Fi p1.toNatClampNeg).toInt + (Ma p1.toNatClampNeg).toInt ∧ r.toInt < (Fi p2.toNatClampNeg).toInt + (Ma p2.toNatClampNeg).toInt ∧ (r.toInt = (Fi p1.toNatClampNeg).toInt + (Ma p1.toNatClampNeg).toInt - 1 ∨ r.toInt = (Fi p2.toNatClampNeg).toInt + (Ma p2.toNatClampNeg).toInt - 1))) 0 0 (fun _ => False) := by
  refine Met.ofW (cc := cX9_lastOf) (maxL := 5) (ret := (some .int)) (by decide) rfl ?_
  intro p e s m args below meth c s₁ B hml hv
  obtain ⟨rfl, hP, hK⟩ := hv
  have hx := B.exec
  have hb := B.bytes
  have hr := B.returns
  have hts := atoms_spec (ws := wk_X9_lastOf) B.pre
  have hown : s.vm.findClass RX9 = some m.cls := findClass_of_methodNamed B.named
  have hlocks := B.notSynchronized
  have hP : va_P (dC, dI) vwCl [(h0, .inr (9, [.int th, .ref a1, .ref a2, .ref a3, .ref a4, .ref a5, .int ne, .int wi, .int dn, .ref a6, .ref a7, .int nn, .ref a8, .int la, .ref a9, .ref a10, .long up, .long lw, .int wh, .long pu, .long pw, .ref a11])), (a1, .inl (cI, 16, .inl Fi)), (a2, .inl (cI, 16, .inl Ma))] s.heap := hP
  have hl := lv_entry ([.ref h0, .int p1, .int p2]) (n := 5) (Nat.le_of_ble_eq_true rfl)
  rw [lg_entry_eq]
  generalize (lg_sl ([.ref h0, .int p1, .int p2]) ++ List.replicate (5 - (lg_sl ([.ref h0, .int p1, .int p2])).length) Slot.unset).toArray = ls at hl ⊢
  have hl : lv_has ls 5 [(0, .ref h0), (1, .int p1), (2, .int p2)] := hl
  have kl_1 : (1 : Int32).toInt = 1 := by decide
  obtain ⟨hM0, hM1, hM2⟩ := id hM
  have np1 : ((p1.toNatClampNeg : Nat) : Int) = p1.toInt := tc_I (by omega)
  have bp1 := hM2 p1.toNatClampNeg (by omega)
  have np2 : ((p2.toNatClampNeg : Nat) : Int) = p2.toInt := tc_I (by omega)
  have bp2 := hM2 p2.toNatClampNeg (by omega)
  refine lv_aload_n hx hb dX9_lastOf_0 rfl (lv_at hl 0 rfl) ?_
  refine va_get (D := (dC, dI)) (ci := 9) (v := .ref a1) (C := RX9) (T := TX9) (N := 22) hx hb hts in_X9_lastOf_X9 hown hK hP 0 rfl rfl 1 (by decide) (hts (.fieldLink RX9 7 "MeetingsAboveModel" "firsts" "[I") (by decide +kernel)) (fun _ h9 => h9) rfl dX9_lastOf_1 ?_
  refine lv_iload_n hx hb dX9_lastOf_4 rfl (lv_at hl 1 rfl) ?_
  refine va_iald hx hb hK hP 1 0 rfl rfl (vp_in_iff.mpr ⟨by omega, by omega⟩) dX9_lastOf_5 ?_
  refine lv_topi (fun y_1 ey_1 => ?_)
  have uy_1 : y_1.toInt = (Fi (p1 : Int32).toNatClampNeg).toInt := by rw [ey_1]
  refine lv_aload_n hx hb dX9_lastOf_6 rfl (lv_at hl 0 rfl) ?_
  refine va_get (D := (dC, dI)) (ci := 9) (v := .ref a2) (C := RX9) (T := TX9) (N := 22) hx hb hts in_X9_lastOf_X9 hown hK hP 0 rfl rfl 2 (by decide) (hts (.fieldLink RX9 13 "MeetingsAboveModel" "many" "[I") (by decide +kernel)) (fun _ h9 => h9) rfl dX9_lastOf_7 ?_
  refine lv_iload_n hx hb dX9_lastOf_10 rfl (lv_at hl 1 rfl) ?_
  refine va_iald hx hb hK hP 2 0 rfl rfl (vp_in_iff.mpr ⟨by omega, by omega⟩) dX9_lastOf_11 ?_
  refine lv_topi (fun y_2 ey_2 => ?_)
  have uy_2 : y_2.toInt = (Ma (p1 : Int32).toNatClampNeg).toInt := by rw [ey_2]
  refine lv_iadd hx hb dX9_lastOf_12 ?_
  refine lv_topi (fun y_3 ey_3 => ?_)
  have ty_3 : y_3.toInt = y_1.toInt + y_2.toInt := by rw [ey_3]; have := fb_addI (x := y_1) (y := y_2) (by omega) (by omega); omega
  refine lv_iconst (v := 1) hx hb dX9_lastOf_13 (by decide) ?_
  refine lv_isub hx hb dX9_lastOf_14 ?_
  refine lv_topi (fun y_4 ey_4 => ?_)
  have ty_4 : y_4.toInt = y_3.toInt - 1 := by rw [ey_4]; have := fb_subI (x := y_3) (y := 1) (by omega) (by omega); omega
  refine lv_istore_n (lv' := [(3, .int y_4), (0, .ref h0), (1, .int p1), (2, .int p2)]) hx hb dX9_lastOf_15 rfl hl (by decide) rfl (fun ls hl => ?_)
  refine lv_aload_n hx hb dX9_lastOf_16 rfl (lv_at hl 1 rfl) ?_
  refine va_get (D := (dC, dI)) (ci := 9) (v := .ref a1) (C := RX9) (T := TX9) (N := 22) hx hb hts in_X9_lastOf_X9 hown hK hP 0 rfl rfl 1 (by decide) (hts (.fieldLink RX9 7 "MeetingsAboveModel" "firsts" "[I") (by decide +kernel)) (fun _ h9 => h9) rfl dX9_lastOf_17 ?_
  refine lv_iload_n hx hb dX9_lastOf_20 rfl (lv_at hl 3 rfl) ?_
  refine va_iald hx hb hK hP 1 0 rfl rfl (vp_in_iff.mpr ⟨by omega, by omega⟩) dX9_lastOf_21 ?_
  refine lv_topi (fun y_5 ey_5 => ?_)
  have uy_5 : y_5.toInt = (Fi (p2 : Int32).toNatClampNeg).toInt := by rw [ey_5]
  refine lv_aload_n hx hb dX9_lastOf_22 rfl (lv_at hl 1 rfl) ?_
  refine va_get (D := (dC, dI)) (ci := 9) (v := .ref a2) (C := RX9) (T := TX9) (N := 22) hx hb hts in_X9_lastOf_X9 hown hK hP 0 rfl rfl 2 (by decide) (hts (.fieldLink RX9 13 "MeetingsAboveModel" "many" "[I") (by decide +kernel)) (fun _ h9 => h9) rfl dX9_lastOf_23 ?_
  refine lv_iload_n hx hb dX9_lastOf_26 rfl (lv_at hl 3 rfl) ?_
  refine va_iald hx hb hK hP 2 0 rfl rfl (vp_in_iff.mpr ⟨by omega, by omega⟩) dX9_lastOf_27 ?_
  refine lv_topi (fun y_6 ey_6 => ?_)
  have uy_6 : y_6.toInt = (Ma (p2 : Int32).toNatClampNeg).toInt := by rw [ey_6]
  refine lv_iadd hx hb dX9_lastOf_28 ?_
  refine lv_topi (fun y_7 ey_7 => ?_)
  have ty_7 : y_7.toInt = y_5.toInt + y_6.toInt := by rw [ey_7]; have := fb_addI (x := y_5) (y := y_6) (by omega) (by omega); omega
  refine lv_iconst (v := 1) hx hb dX9_lastOf_29 (by decide) ?_
  refine lv_isub hx hb dX9_lastOf_30 ?_
  refine lv_topi (fun y_8 ey_8 => ?_)
  have ty_8 : y_8.toInt = y_7.toInt - 1 := by rw [ey_8]; have := fb_subI (x := y_7) (y := 1) (by omega) (by omega); omega
  refine lv_istore (lv' := [(4, .int y_8), (3, .int y_4), (0, .ref h0), (1, .int p1), (2, .int p2)]) hx hb dX9_lastOf_31 hl (by decide) rfl (fun ls hl => ?_)
  refine lv_iload_n hx hb dX9_lastOf_33 rfl (lv_at hl 1 rfl) ?_
  refine lv_iload hx hb dX9_lastOf_34 (lv_at hl 0 rfl) ?_
  refine lv_icmp_ge (tgt := 43) hx hb dX9_lastOf_36 (by decide) (fun c_36 => ?_) (fun c_36 => ?_)
  · have t_36 := (fa_le _ _).mp c_36
    refine lv_iload hx hb dX9_lastOf_43 (lv_at hl 0 rfl) ?_
    exact W.iret (v := y_8) hx hb hr (fun t ht _ => ⟨_, rfl, (by omega), ht⟩) (fun _ h => absurd h List.not_mem_nil) dX9_lastOf_45
  · have t_36 := mt (fa_le _ _).mpr c_36
    refine lv_iload_n hx hb dX9_lastOf_39 rfl (lv_at hl 1 rfl) ?_
    refine lv_goto (tgt := 45) hx hb dX9_lastOf_40 (by decide) ?_
    exact W.iret (v := y_4) hx hb hr (fun t ht _ => ⟨_, rfl, (by omega), ht⟩) (fun _ h => absurd h List.not_mem_nil) dX9_lastOf_45
def wk_X9_apart : List Cond := .code yX9_apart cX9_apart 5 (some .long) :: (([] : List Cond) ++ ((wsV RX9 94 RX9 yX9_spot wk_X9_spot) ++ ([])))
theorem gw_X9_apart : AG wk_X9_apart := AG_ca (AG_l (by decide +kernel)) (AG_app (AG_V gw_X9_spot) (AG_nil))
theorem g_X9_apart__X9_spot_94 : GoodIn wk_X9_apart (wsV RX9 94 RX9 yX9_spot wk_X9_spot) := goodIn_m (fun _ h => List.mem_cons_of_mem _ (List.mem_append_right _ (List.mem_append_left _ h))) (AG_V gw_X9_spot)
set_option maxHeartbeats 4000000 in
set_option maxRecDepth 100000 in
theorem c_X9_apart (l : Launch) (dC : Nat → ClassId) (dI : Nat → Nat → Nat) (h0 : Nat) (a1 : Nat) (a2 : Nat) (a3 : Nat) (a4 : Nat) (a5 : Nat) (a6 : Nat) (a7 : Nat) (a8 : Nat) (a9 : Nat) (a10 : Nat) (a11 : Nat) (th : Int32) (ne : Int32) (wi : Int32) (dn : Int32) (nn : Int32) (la : Int32) (wh : Int32) (up : Int64) (lw : Int64) (pu : Int64) (pw : Int64) (cI : ClassId) (Fi : Nat → Int32) (Ma : Nat → Int32) (Sp : Nat → Int32) (p1 : Int32) (p2 : Int32) (p3 : Int32) (p4 : Int32) (hM : mOK th Fi Ma) (hp10 : 0 ≤ p1.toInt) (hp11 : p1.toInt < th.toInt) (hp20 : 0 ≤ p2.toInt) (hp21 : p2.toInt < th.toInt) (hsp10 : (Fi p1.toNatClampNeg).toInt ≤ p3.toInt) (hsp11 : p3.toInt < (Fi p1.toNatClampNeg).toInt + (Ma p1.toNatClampNeg).toInt) (hsp20 : (Fi p2.toNatClampNeg).toInt ≤ p3.toInt) (hsp21 : p3.toInt < (Fi p2.toNatClampNeg).toInt + (Ma p2.toNatClampNeg).toInt) (hx0 : 0 ≤ p4.toInt) (hx1 : p4.toInt ≤ 2) : Met l yX9_apart wk_X9_apart ({ frames := 1, cells := 0, slots := 0, locals := 23 }) (va_Pc [.ref h0, .int p1, .int p2, .int p3, .int p4] (fun U => va_P (dC, dI) vwCl [(h0, .inr (9, [.int th, .ref a1, .ref a2, .ref a3, .ref a4, .ref a5, .int ne, .int wi, .int dn, .ref a6, .ref a7, .int nn, .ref a8, .int la, .ref a9, .ref a10, .long up, .long lw, .int wh, .long pu, .long pw, .ref a11])), (a1, .inl (cI, 16, .inl Fi)), (a2, .inl (cI, 16, .inl Ma)), (a5, .inl (cI, 576, .inl Sp))] U.heap ∧ va_K (dC, dI) vwCl [(cI, .int)] U)) (vp_Sl (fun r => r = (Sp (ixm Fi p1 p3 p4) - Sp (ixm Fi p2 p3 p4)).toInt64)) 0 0 (fun _ => False) := by
  refine Met.ofW (cc := cX9_apart) (maxL := 5) (ret := (some .long)) (by decide) rfl ?_
  intro p e s m args below meth c s₁ B hml hv
  obtain ⟨rfl, hP, hK⟩ := hv
  have hx := B.exec
  have hb := B.bytes
  have hr := B.returns
  have hts := atoms_spec (ws := wk_X9_apart) B.pre
  have hown : s.vm.findClass RX9 = some m.cls := findClass_of_methodNamed B.named
  have hlocks := B.notSynchronized
  have hP : va_P (dC, dI) vwCl [(h0, .inr (9, [.int th, .ref a1, .ref a2, .ref a3, .ref a4, .ref a5, .int ne, .int wi, .int dn, .ref a6, .ref a7, .int nn, .ref a8, .int la, .ref a9, .ref a10, .long up, .long lw, .int wh, .long pu, .long pw, .ref a11])), (a1, .inl (cI, 16, .inl Fi)), (a2, .inl (cI, 16, .inl Ma)), (a5, .inl (cI, 576, .inl Sp))] s.heap := hP
  have hl := lv_entry ([.ref h0, .int p1, .int p2, .int p3, .int p4]) (n := 5) (Nat.le_of_ble_eq_true rfl)
  rw [lg_entry_eq]
  generalize (lg_sl ([.ref h0, .int p1, .int p2, .int p3, .int p4]) ++ List.replicate (5 - (lg_sl ([.ref h0, .int p1, .int p2, .int p3, .int p4])).length) Slot.unset).toArray = ls at hl ⊢
  have hl : lv_has ls 5 [(0, .ref h0), (1, .int p1), (2, .int p2), (3, .int p3), (4, .int p4)] := hl
  refine lv_aload_n hx hb dX9_apart_0 rfl (lv_at hl 0 rfl) ?_
  refine lv_iload_n hx hb dX9_apart_1 rfl (lv_at hl 1 rfl) ?_
  refine lv_iload_n hx hb dX9_apart_2 rfl (lv_at hl 3 rfl) ?_
  refine lv_iload hx hb dX9_apart_3 (lv_at hl 4 rfl) ?_
  have hPc := hP.sub (ws' := [(h0, .inr (9, [.int th, .ref a1, .ref a2, .ref a3, .ref a4, .ref a5, .int ne, .int wi, .int dn, .ref a6, .ref a7, .int nn, .ref a8, .int la, .ref a9, .ref a10, .long up, .long lw, .int wh, .long pu, .long pw, .ref a11])), (a1, .inl (cI, 16, .inl Fi)), (a5, .inl (cI, 576, .inl Sp))]) [0, 1, 3] rfl
  have hKc := hK.sub (tys' := [(cI, .int)]) [0] rfl
  refine vp_callSi (W.runV (As := [.int p1, .int p3, .int p4]) (rest := []) ⟨hx, hb, hml, hown, hts⟩ (c_X9_spot l dC dI Ma h0 a1 a2 a3 a4 a5 a6 a7 a8 a9 a10 a11 th ne wi dn nn la wh up lw pu pw cI Fi Sp p1 p3 p4 (by first | assumption | omega) (by first | omega | assumption) (by first | omega | assumption) (by first | omega | assumption) (by first | omega | assumption) (by first | omega | assumption) (by first | omega | assumption)) (cwV 3 hts g_X9_apart__X9_spot_94 rfl rfl rfl (by decide +kernel) ⟨Nat.le_of_ble_eq_true rfl, Nat.le_of_ble_eq_true rfl⟩) ⟨fun a U g mk q => by obtain ⟨q0, qP, qK⟩ := q; exact ⟨q0, qP, va_K.moved (u := U) (U := U.calling g mk a) (Vm.Alike.refl U.vm) qK⟩, va_recv hKc hPc (ci := 9) (q0 := 0) rfl rfl, fun U hU hW => ⟨rfl, by rw [hU]; exact hPc, va_K.moved hW.alike hKc⟩⟩ rfl rfl hl.1 rfl (lv_room (Nat.le_of_ble_eq_true rfl)) dX9_apart_5 ⟨Nat.le_of_ble_eq_true rfl, Nat.le_of_ble_eq_true rfl⟩) (fun r_1 hr_1 => ?_)
  try dsimp only at hr_1
  refine lv_aload_n hx hb dX9_apart_8 rfl (lv_at hl 0 rfl) ?_
  refine lv_iload_n hx hb dX9_apart_9 rfl (lv_at hl 2 rfl) ?_
  refine lv_iload_n hx hb dX9_apart_10 rfl (lv_at hl 3 rfl) ?_
  refine lv_iload hx hb dX9_apart_11 (lv_at hl 4 rfl) ?_
  have hPc := hP.sub (ws' := [(h0, .inr (9, [.int th, .ref a1, .ref a2, .ref a3, .ref a4, .ref a5, .int ne, .int wi, .int dn, .ref a6, .ref a7, .int nn, .ref a8, .int la, .ref a9, .ref a10, .long up, .long lw, .int wh, .long pu, .long pw, .ref a11])), (a1, .inl (cI, 16, .inl Fi)), (a5, .inl (cI, 576, .inl Sp))]) [0, 1, 3] rfl
  have hKc := hK.sub (tys' := [(cI, .int)]) [0] rfl
  refine vp_callSi (W.runV (As := [.int p2, .int p3, .int p4]) (rest := [.int r_1]) ⟨hx, hb, hml, hown, hts⟩ (c_X9_spot l dC dI Ma h0 a1 a2 a3 a4 a5 a6 a7 a8 a9 a10 a11 th ne wi dn nn la wh up lw pu pw cI Fi Sp p2 p3 p4 (by first | assumption | omega) (by first | omega | assumption) (by first | omega | assumption) (by first | omega | assumption) (by first | omega | assumption) (by first | omega | assumption) (by first | omega | assumption)) (cwV 3 hts g_X9_apart__X9_spot_94 rfl rfl rfl (by decide +kernel) ⟨Nat.le_of_ble_eq_true rfl, Nat.le_of_ble_eq_true rfl⟩) ⟨fun a U g mk q => by obtain ⟨q0, qP, qK⟩ := q; exact ⟨q0, qP, va_K.moved (u := U) (U := U.calling g mk a) (Vm.Alike.refl U.vm) qK⟩, va_recv hKc hPc (ci := 9) (q0 := 0) rfl rfl, fun U hU hW => ⟨rfl, by rw [hU]; exact hPc, va_K.moved hW.alike hKc⟩⟩ rfl rfl hl.1 rfl (lv_room (Nat.le_of_ble_eq_true rfl)) dX9_apart_13 ⟨Nat.le_of_ble_eq_true rfl, Nat.le_of_ble_eq_true rfl⟩) (fun r_2 hr_2 => ?_)
  try dsimp only at hr_2
  refine lv_isub hx hb dX9_apart_16 ?_
  refine lv_topi (fun y_3 ey_3 => ?_)
  refine lv_i2l hx hb dX9_apart_17 rfl ?_
  exact W.lret (v := y_3.toInt64) hx hb hr (fun t ht _ => ⟨_, rfl, (by rw [ey_3, hr_1, hr_2]), ht⟩) (fun _ h => absurd h List.not_mem_nil) dX9_apart_18
def wk_X9_areTogether : List Cond := .code yX9_areTogether cX9_areTogether 3 (some .boolean) :: (([] : List Cond) ++ ((wsV RX9 140 RX9 yX9_firstOf wk_X9_firstOf) ++ ((wsV RX9 137 RX9 yX9_lastOf wk_X9_lastOf) ++ ([]))))
theorem gw_X9_areTogether : AG wk_X9_areTogether := AG_ca (AG_l (by decide +kernel)) (AG_app (AG_V gw_X9_firstOf) (AG_app (AG_V gw_X9_lastOf) (AG_nil)))
theorem g_X9_areTogether__X9_firstOf_140 : GoodIn wk_X9_areTogether (wsV RX9 140 RX9 yX9_firstOf wk_X9_firstOf) := goodIn_m (fun _ h => List.mem_cons_of_mem _ (List.mem_append_right _ (List.mem_append_left _ h))) (AG_V gw_X9_firstOf)
theorem g_X9_areTogether__X9_lastOf_137 : GoodIn wk_X9_areTogether (wsV RX9 137 RX9 yX9_lastOf wk_X9_lastOf) := goodIn_m (fun _ h => List.mem_cons_of_mem _ (List.mem_append_right _ (List.mem_append_right _ (List.mem_append_left _ h)))) (AG_V gw_X9_lastOf)
set_option maxHeartbeats 4000000 in
set_option maxRecDepth 100000 in
theorem c_X9_areTogether (l : Launch) (dC : Nat → ClassId) (dI : Nat → Nat → Nat) (h0 : Nat) (a1 : Nat) (a2 : Nat) (a3 : Nat) (a4 : Nat) (a5 : Nat) (a6 : Nat) (a7 : Nat) (a8 : Nat) (a9 : Nat) (a10 : Nat) (a11 : Nat) (th : Int32) (ne : Int32) (wi : Int32) (dn : Int32) (nn : Int32) (la : Int32) (wh : Int32) (up : Int64) (lw : Int64) (pu : Int64) (pw : Int64) (cI : ClassId) (Fi : Nat → Int32) (Ma : Nat → Int32) (p1 : Int32) (p2 : Int32) (hM : mOK th Fi Ma) (hp10 : 0 ≤ p1.toInt) (hp11 : p1.toInt < th.toInt) (hp20 : 0 ≤ p2.toInt) (hp21 : p2.toInt < th.toInt) : Met l yX9_areTogether wk_X9_areTogether ({ frames := 1, cells := 0, slots := 0, locals := 24 }) (va_Pc [.ref h0, .int p1, .int p2] (fun U => va_P (dC, dI) vwCl [(h0, .inr (9, [.int th, .ref a1, .ref a2, .ref a3, .ref a4, .ref a5, .int ne, .int wi, .int dn, .ref a6, .ref a7, .int nn, .ref a8, .int la, .ref a9, .ref a10, .long up, .long lw, .int wh, .long pu, .long pw, .ref a11])), (a1, .inl (cI, 16, .inl Fi)), (a2, .inl (cI, 16, .inl Ma))] U.heap ∧ va_K (dC, dI) vwCl [(cI, .int)] U)) (vp_Si (fun r => r = if (Fi p1.toNatClampNeg).toInt < (Fi p2.toNatClampNeg).toInt + (Ma p2.toNatClampNeg).toInt ∧ (Fi p2.toNatClampNeg).toInt < (Fi p1.toNatClampNeg).toInt + (Ma p1.toNatClampNeg).toInt then 1 else 0)) 0 0 (fun _ => False) := by
  refine Met.ofW (cc := cX9_areTogether) (maxL := 3) (ret := (some .boolean)) (by decide) rfl ?_
  intro p e s m args below meth c s₁ B hml hv
  obtain ⟨rfl, hP, hK⟩ := hv
  have hx := B.exec
  have hb := B.bytes
  have hr := B.returns
  have hts := atoms_spec (ws := wk_X9_areTogether) B.pre
  have hown : s.vm.findClass RX9 = some m.cls := findClass_of_methodNamed B.named
  have hlocks := B.notSynchronized
  have hP : va_P (dC, dI) vwCl [(h0, .inr (9, [.int th, .ref a1, .ref a2, .ref a3, .ref a4, .ref a5, .int ne, .int wi, .int dn, .ref a6, .ref a7, .int nn, .ref a8, .int la, .ref a9, .ref a10, .long up, .long lw, .int wh, .long pu, .long pw, .ref a11])), (a1, .inl (cI, 16, .inl Fi)), (a2, .inl (cI, 16, .inl Ma))] s.heap := hP
  have hl := lv_entry ([.ref h0, .int p1, .int p2]) (n := 3) (Nat.le_of_ble_eq_true rfl)
  rw [lg_entry_eq]
  generalize (lg_sl ([.ref h0, .int p1, .int p2]) ++ List.replicate (3 - (lg_sl ([.ref h0, .int p1, .int p2])).length) Slot.unset).toArray = ls at hl ⊢
  have hl : lv_has ls 3 [(0, .ref h0), (1, .int p1), (2, .int p2)] := hl
  have kl_0 : (0 : Int32).toInt = 0 := by decide
  have kl_1 : (1 : Int32).toInt = 1 := by decide
  obtain ⟨hM0, hM1, hM2⟩ := id hM
  have np1 : ((p1.toNatClampNeg : Nat) : Int) = p1.toInt := tc_I (by omega)
  have bp1 := hM2 p1.toNatClampNeg (by omega)
  have np2 : ((p2.toNatClampNeg : Nat) : Int) = p2.toInt := tc_I (by omega)
  have bp2 := hM2 p2.toNatClampNeg (by omega)
  refine lv_aload_n hx hb dX9_areTogether_0 rfl (lv_at hl 0 rfl) ?_
  refine lv_iload_n hx hb dX9_areTogether_1 rfl (lv_at hl 1 rfl) ?_
  refine lv_iload_n hx hb dX9_areTogether_2 rfl (lv_at hl 2 rfl) ?_
  have hPc := hP.sub (ws' := [(h0, .inr (9, [.int th, .ref a1, .ref a2, .ref a3, .ref a4, .ref a5, .int ne, .int wi, .int dn, .ref a6, .ref a7, .int nn, .ref a8, .int la, .ref a9, .ref a10, .long up, .long lw, .int wh, .long pu, .long pw, .ref a11])), (a1, .inl (cI, 16, .inl Fi))]) [0, 1] rfl
  have hKc := hK.sub (tys' := [(cI, .int)]) [0] rfl
  refine vp_callSi (W.runV (As := [.int p1, .int p2]) (rest := []) ⟨hx, hb, hml, hown, hts⟩ (c_X9_firstOf l dC dI Ma h0 a1 a2 a3 a4 a5 a6 a7 a8 a9 a10 a11 th ne wi dn nn la wh up lw pu pw cI Fi p1 p2 (by first | assumption | omega) (by first | omega | assumption) (by first | omega | assumption) (by first | omega | assumption) (by first | omega | assumption)) (cwV 2 hts g_X9_areTogether__X9_firstOf_140 rfl rfl rfl (by decide +kernel) ⟨Nat.le_of_ble_eq_true rfl, Nat.le_of_ble_eq_true rfl⟩) ⟨fun a U g mk q => by obtain ⟨q0, qP, qK⟩ := q; exact ⟨q0, qP, va_K.moved (u := U) (U := U.calling g mk a) (Vm.Alike.refl U.vm) qK⟩, va_recv hKc hPc (ci := 9) (q0 := 0) rfl rfl, fun U hU hW => ⟨rfl, by rw [hU]; exact hPc, va_K.moved hW.alike hKc⟩⟩ rfl rfl hl.1 rfl (lv_room (Nat.le_of_ble_eq_true rfl)) dX9_areTogether_3 ⟨Nat.le_of_ble_eq_true rfl, Nat.le_of_ble_eq_true rfl⟩) (fun r_1 hr_1 => ?_)
  try dsimp only at hr_1
  refine lv_aload_n hx hb dX9_areTogether_6 rfl (lv_at hl 0 rfl) ?_
  refine lv_iload_n hx hb dX9_areTogether_7 rfl (lv_at hl 1 rfl) ?_
  refine lv_iload_n hx hb dX9_areTogether_8 rfl (lv_at hl 2 rfl) ?_
  have hPc := hP.sub (ws' := [(h0, .inr (9, [.int th, .ref a1, .ref a2, .ref a3, .ref a4, .ref a5, .int ne, .int wi, .int dn, .ref a6, .ref a7, .int nn, .ref a8, .int la, .ref a9, .ref a10, .long up, .long lw, .int wh, .long pu, .long pw, .ref a11])), (a1, .inl (cI, 16, .inl Fi)), (a2, .inl (cI, 16, .inl Ma))]) [0, 1, 2] rfl
  have hKc := hK.sub (tys' := [(cI, .int)]) [0] rfl
  refine vp_callSi (W.runV (As := [.int p1, .int p2]) (rest := [.int r_1]) ⟨hx, hb, hml, hown, hts⟩ (c_X9_lastOf l dC dI h0 a1 a2 a3 a4 a5 a6 a7 a8 a9 a10 a11 th ne wi dn nn la wh up lw pu pw cI Fi Ma p1 p2 (by first | assumption | omega) (by first | omega | assumption) (by first | omega | assumption) (by first | omega | assumption) (by first | omega | assumption)) (cwV 2 hts g_X9_areTogether__X9_lastOf_137 rfl rfl rfl (by decide +kernel) ⟨Nat.le_of_ble_eq_true rfl, Nat.le_of_ble_eq_true rfl⟩) ⟨fun a U g mk q => by obtain ⟨q0, qP, qK⟩ := q; exact ⟨q0, qP, va_K.moved (u := U) (U := U.calling g mk a) (Vm.Alike.refl U.vm) qK⟩, va_recv hKc hPc (ci := 9) (q0 := 0) rfl rfl, fun U hU hW => ⟨rfl, by rw [hU]; exact hPc, va_K.moved hW.alike hKc⟩⟩ rfl rfl hl.1 rfl (lv_room (Nat.le_of_ble_eq_true rfl)) dX9_areTogether_9 ⟨Nat.le_of_ble_eq_true rfl, Nat.le_of_ble_eq_true rfl⟩) (fun r_2 hr_2 => ?_)
  try dsimp only at hr_2
  refine lv_icmp_gt (tgt := 19) hx hb dX9_areTogether_12 (by decide) (fun c_12 => ?_) (fun c_12 => ?_)
  · have t_12 := (fa_lt _ _).mp c_12
    refine lv_iconst (v := 0) hx hb dX9_areTogether_19 (by decide) ?_
    exact W.zret (v := 0) hx hb hr rfl (fun t ht _ => ⟨_, rfl, (by first | exact (if_pos (by omega)).symm | exact (if_neg (by omega)).symm), ht⟩) (fun _ h => absurd h List.not_mem_nil) dX9_areTogether_20
  · have t_12 := mt (fa_lt _ _).mpr c_12
    refine lv_iconst (v := 1) hx hb dX9_areTogether_15 (by decide) ?_
    refine lv_goto (tgt := 20) hx hb dX9_areTogether_16 (by decide) ?_
    exact W.zret (v := 1) hx hb hr rfl (fun t ht _ => ⟨_, rfl, (by first | exact (if_pos (by omega)).symm | exact (if_neg (by omega)).symm), ht⟩) (fun _ h => absurd h List.not_mem_nil) dX9_areTogether_20
def wk_X9_tryOne : List Cond := .code yX9_tryOne cX9_tryOne 13 none :: (([.fieldLink RX9 121 "MeetingsAboveModel" "upper" "J", .fieldLink RX9 125 "MeetingsAboveModel" "lower" "J", .fieldLink RX9 128 "MeetingsAboveModel" "when" "I", .fieldLink RX9 131 "MeetingsAboveModel" "partUpper" "J", .fieldLink RX9 134 "MeetingsAboveModel" "partLower" "J"] : List Cond) ++ (wsX90 ++ ([])))
theorem in_X9_tryOne_X9 : ∀ w ∈ wsX90, w ∈ wk_X9_tryOne := fun _ h => List.mem_cons_of_mem _ (List.mem_append_right _ (List.mem_append_left _ h))
theorem gw_X9_tryOne : AG wk_X9_tryOne := AG_ca (AG_l (by decide +kernel)) (AG_app ag_X9 (AG_nil))
set_option maxHeartbeats 4000000 in
set_option maxRecDepth 100000 in
theorem c_X9_tryOne (l : Launch) (dC : Nat → ClassId) (dI : Nat → Nat → Nat) (h0 : Nat) (a1 : Nat) (a2 : Nat) (a3 : Nat) (a4 : Nat) (a5 : Nat) (a6 : Nat) (a7 : Nat) (a8 : Nat) (a9 : Nat) (a10 : Nat) (a11 : Nat) (th : Int32) (ne : Int32) (wi : Int32) (dn : Int32) (nn : Int32) (la : Int32) (wh : Int32) (up : Int64) (lw : Int64) (pu : Int64) (pw : Int64) (b1 : Int64) (b2 : Int64) (p5 : Int32) (b3 : Int64) (b4 : Int64) (sz : Nat) (hb2 : 1 ≤ b2.toInt) (hlw : 1 ≤ lw.toInt) (hp5 : 0 ≤ p5.toInt) (hb4 : 1 ≤ b4.toInt) (hwp : 0 ≤ wh.toInt → 1 ≤ pw.toInt) : Met l yX9_tryOne wk_X9_tryOne ({ frames := 0, cells := 0, slots := 0, locals := 0 }) (va_Pc [.ref h0, .long b1, .long b2, .int p5, .long b3, .long b4] (fun U => U.heap.size = sz ∧ va_P (dC, dI) vwCl [(h0, .inr (9, [.int th, .ref a1, .ref a2, .ref a3, .ref a4, .ref a5, .int ne, .int wi, .int dn, .ref a6, .ref a7, .int nn, .ref a8, .int la, .ref a9, .ref a10, .long up, .long lw, .int wh, .long pu, .long pw, .ref a11]))] U.heap ∧ va_K (dC, dI) vwCl [] U ∧ va_D (fun _ => True) [(h0, .inr (9, [.int th, .ref a1, .ref a2, .ref a3, .ref a4, .ref a5, .int ne, .int wi, .int dn, .ref a6, .ref a7, .int nn, .ref a8, .int la, .ref a9, .ref a10, .long up, .long lw, .int wh, .long pu, .long pw, .ref a11]))])) (va_Qv (fun (_ : Unit) => True) (fun (_ : Unit) (t : State) => ∃ (up9 : Int64) (lw9 : Int64) (wh9 : Int32) (pu9 : Int64) (pw9 : Int64), va_P (dC, dI) vwCl [(h0, .inr (9, [.int th, .ref a1, .ref a2, .ref a3, .ref a4, .ref a5, .int ne, .int wi, .int dn, .ref a6, .ref a7, .int nn, .ref a8, .int la, .ref a9, .ref a10, .long up9, .long lw9, .int wh9, .long pu9, .long pw9, .ref a11]))] t.heap ∧ va_K (dC, dI) vwCl [] t ∧ va_D (va_A [(h0, .inr (9, [.int th, .ref a1, .ref a2, .ref a3, .ref a4, .ref a5, .int ne, .int wi, .int dn, .ref a6, .ref a7, .int nn, .ref a8, .int la, .ref a9, .ref a10, .long up, .long lw, .int wh, .long pu, .long pw, .ref a11]))] sz) [(h0, .inr (9, [.int th, .ref a1, .ref a2, .ref a3, .ref a4, .ref a5, .int ne, .int wi, .int dn, .ref a6, .ref a7, .int nn, .ref a8, .int la, .ref a9, .ref a10, .long up9, .long lw9, .int wh9, .long pu9, .long pw9, .ref a11]))] ∧ 1 ≤ lw9.toInt ∧ 0 ≤ wh9.toInt ∧ 1 ≤ pw9.toInt) (va_A [(h0, .inr (9, [.int th, .ref a1, .ref a2, .ref a3, .ref a4, .ref a5, .int ne, .int wi, .int dn, .ref a6, .ref a7, .int nn, .ref a8, .int la, .ref a9, .ref a10, .long up, .long lw, .int wh, .long pu, .long pw, .ref a11]))] sz)) 0 0 (va_A [(h0, .inr (9, [.int th, .ref a1, .ref a2, .ref a3, .ref a4, .ref a5, .int ne, .int wi, .int dn, .ref a6, .ref a7, .int nn, .ref a8, .int la, .ref a9, .ref a10, .long up, .long lw, .int wh, .long pu, .long pw, .ref a11]))] sz) := by
  refine Met.ofW (cc := cX9_tryOne) (maxL := 13) (ret := none) (by decide) rfl ?_
  intro p e s m args below meth c s₁ B hml hv
  obtain ⟨rfl, hsz, hP, hK, hD0⟩ := hv
  have hx := B.exec
  have hb := B.bytes
  have hr := B.returns
  have hts := atoms_spec (ws := wk_X9_tryOne) B.pre
  have hown : s.vm.findClass RX9 = some m.cls := findClass_of_methodNamed B.named
  have hlocks := B.notSynchronized
  subst hsz
  have hD := hD0.self (sz := s.heap.size)
  generalize hAe : va_A [(h0, .inr (9, [.int th, .ref a1, .ref a2, .ref a3, .ref a4, .ref a5, .int ne, .int wi, .int dn, .ref a6, .ref a7, .int nn, .ref a8, .int la, .ref a9, .ref a10, .long up, .long lw, .int wh, .long pu, .long pw, .ref a11]))] s.heap.size = A at hD ⊢
  have hA : ∀ q : Nat, s.heap.size ≤ q → A q := fun q h => by rw [← hAe]; exact Or.inr h
  have hS : va_S A s.heap s.heap [] := va_S.rf
  have hP : va_P (dC, dI) vwCl [(h0, .inr (9, [.int th, .ref a1, .ref a2, .ref a3, .ref a4, .ref a5, .int ne, .int wi, .int dn, .ref a6, .ref a7, .int nn, .ref a8, .int la, .ref a9, .ref a10, .long up, .long lw, .int wh, .long pu, .long pw, .ref a11]))] s.heap := hP
  have hl := lv_entry ([.ref h0, .long b1, .long b2, .int p5, .long b3, .long b4]) (n := 13) (Nat.le_of_ble_eq_true rfl)
  rw [lg_entry_eq]
  generalize (lg_sl ([.ref h0, .long b1, .long b2, .int p5, .long b3, .long b4]) ++ List.replicate (13 - (lg_sl ([.ref h0, .long b1, .long b2, .int p5, .long b3, .long b4])).length) Slot.unset).toArray = ls at hl ⊢
  have hl : lv_has ls 13 [(0, .ref h0), (1, .long b1), (3, .long b2), (5, .int p5), (6, .long b3), (8, .long b4)] := hl
  have kl_0 : (0 : Int32).toInt = 0 := by decide
  have klL_0 : (0 : Int64).toInt = 0 := by decide
  refine lv_lload_n hx hb dX9_tryOne_0 rfl (lv_at hl 1 rfl) ?_
  refine lv_lload_n hx hb dX9_tryOne_1 rfl (lv_at hl 2 rfl) ?_
  refine lv_ldiv hx hb dX9_tryOne_2 (fun h => by rw [h, klL_0] at hb2; omega) ?_
  refine lv_topl (fun y_1 ey_1 => ?_)
  refine lv_aload_n hx hb dX9_tryOne_3 rfl (lv_at hl 0 rfl) ?_
  refine va_get (D := (dC, dI)) (ci := 9) (v := .long up) (C := RX9) (T := TX9) (N := 22) hx hb hts in_X9_tryOne_X9 hown hK hP 0 rfl rfl 16 (by decide) (hts (.fieldLink RX9 121 "MeetingsAboveModel" "upper" "J") (by decide +kernel)) (fun _ h9 => h9) rfl dX9_tryOne_4 ?_
  refine lv_aload_n hx hb dX9_tryOne_7 rfl (lv_at hl 0 rfl) ?_
  refine va_get (D := (dC, dI)) (ci := 9) (v := .long lw) (C := RX9) (T := TX9) (N := 22) hx hb hts in_X9_tryOne_X9 hown hK hP 0 rfl rfl 17 (by decide) (hts (.fieldLink RX9 125 "MeetingsAboveModel" "lower" "J") (by decide +kernel)) (fun _ h9 => h9) rfl dX9_tryOne_8 ?_
  refine lv_ldiv hx hb dX9_tryOne_11 (fun h => by rw [h, klL_0] at hlw; omega) ?_
  refine lv_topl (fun y_2 ey_2 => ?_)
  refine lv_lsub hx hb dX9_tryOne_12 ?_
  refine lv_topl (fun y_3 ey_3 => ?_)
  refine lv_lstore (lv' := [(10, .long y_3), (0, .ref h0), (1, .long b1), (3, .long b2), (5, .int p5), (6, .long b3), (8, .long b4)]) hx hb dX9_tryOne_13 hl (by decide) rfl (fun ls hl => ?_)
  refine lv_lload hx hb dX9_tryOne_15 (lv_at hl 0 rfl) ?_
  refine lv_lconst (v := 0) hx hb dX9_tryOne_17 (by decide) ?_
  refine W.lcmp hx hb dX9_tryOne_18 ?_
  refine lv_if_lt (tgt := 52) hx hb dX9_tryOne_19 (by decide) (fun c_19 => ?_) (fun c_19 => ?_)
  · have t_19 := (fa_lt64 _ _).mp ((lg_cmp_lt _ _).mp c_19)
    refine lv_iconst (v := 1) hx hb dX9_tryOne_52 (by decide) ?_
    refine lv_goto (tgt := 57) hx hb dX9_tryOne_53 (by decide) ?_
    refine lv_istore (lv' := [(12, .int 1), (10, .long y_3), (0, .ref h0), (1, .long b1), (3, .long b2), (5, .int p5), (6, .long b3), (8, .long b4)]) hx hb dX9_tryOne_57 hl (by decide) rfl (fun ls hl => ?_)
    refine lv_aload_n hx hb dX9_tryOne_59 rfl (lv_at hl 2 rfl) ?_
    refine va_get (D := (dC, dI)) (ci := 9) (v := .int wh) (C := RX9) (T := TX9) (N := 22) hx hb hts in_X9_tryOne_X9 hown hK hP 0 rfl rfl 18 (by decide) (hts (.fieldLink RX9 128 "MeetingsAboveModel" "when" "I") (by decide +kernel)) (fun _ h9 => h9) rfl dX9_tryOne_60 ?_
    refine lv_if_lt (tgt := 71) hx hb dX9_tryOne_63 (by decide) (fun c_63 => ?_) (fun c_63 => ?_)
    · have t_63 := (fa_lt _ _).mp c_63
      refine lv_aload_n hx hb dX9_tryOne_71 rfl (lv_at hl 2 rfl) ?_
      refine lv_lload_n hx hb dX9_tryOne_72 rfl (lv_at hl 3 rfl) ?_
      refine va_put (D := (dC, dI)) (ci := 9) (v := .long b1) (ty := .long) (C := RX9) (T := TX9) (N := 22) hx hb hts in_X9_tryOne_X9 tyX9 tyX9_ok nmX9 hown hK hP hD hS 0 rfl rfl 16 (by decide) (hts (.fieldLink RX9 121 "MeetingsAboveModel" "upper" "J") (by decide +kernel)) (fun _ h9 => h9) rfl (by decide +kernel) rfl rfl (Nat.le_of_ble_eq_true rfl) dX9_tryOne_73 (fun H locs hP hD hS => ?_)
      have hP : va_P (dC, dI) vwCl [(h0, .inr (9, [.int th, .ref a1, .ref a2, .ref a3, .ref a4, .ref a5, .int ne, .int wi, .int dn, .ref a6, .ref a7, .int nn, .ref a8, .int la, .ref a9, .ref a10, .long b1, .long lw, .int wh, .long pu, .long pw, .ref a11]))] H := hP
      have hD : va_D A [(h0, .inr (9, [.int th, .ref a1, .ref a2, .ref a3, .ref a4, .ref a5, .int ne, .int wi, .int dn, .ref a6, .ref a7, .int nn, .ref a8, .int la, .ref a9, .ref a10, .long b1, .long lw, .int wh, .long pu, .long pw, .ref a11]))] := hD
      refine lv_aload_n hx hb dX9_tryOne_76 rfl (lv_at hl 2 rfl) ?_
      refine lv_lload_n hx hb dX9_tryOne_77 rfl (lv_at hl 4 rfl) ?_
      refine va_put (D := (dC, dI)) (ci := 9) (v := .long b2) (ty := .long) (C := RX9) (T := TX9) (N := 22) hx hb hts in_X9_tryOne_X9 tyX9 tyX9_ok nmX9 hown hK hP hD hS 0 rfl rfl 17 (by decide) (hts (.fieldLink RX9 125 "MeetingsAboveModel" "lower" "J") (by decide +kernel)) (fun _ h9 => h9) rfl (by decide +kernel) rfl rfl (Nat.le_of_ble_eq_true rfl) dX9_tryOne_78 (fun H locs hP hD hS => ?_)
      have hP : va_P (dC, dI) vwCl [(h0, .inr (9, [.int th, .ref a1, .ref a2, .ref a3, .ref a4, .ref a5, .int ne, .int wi, .int dn, .ref a6, .ref a7, .int nn, .ref a8, .int la, .ref a9, .ref a10, .long b1, .long b2, .int wh, .long pu, .long pw, .ref a11]))] H := hP
      have hD : va_D A [(h0, .inr (9, [.int th, .ref a1, .ref a2, .ref a3, .ref a4, .ref a5, .int ne, .int wi, .int dn, .ref a6, .ref a7, .int nn, .ref a8, .int la, .ref a9, .ref a10, .long b1, .long b2, .int wh, .long pu, .long pw, .ref a11]))] := hD
      refine lv_aload_n hx hb dX9_tryOne_81 rfl (lv_at hl 2 rfl) ?_
      refine lv_iload hx hb dX9_tryOne_82 (lv_at hl 5 rfl) ?_
      refine va_put (D := (dC, dI)) (ci := 9) (v := .int p5) (ty := .int) (C := RX9) (T := TX9) (N := 22) hx hb hts in_X9_tryOne_X9 tyX9 tyX9_ok nmX9 hown hK hP hD hS 0 rfl rfl 18 (by decide) (hts (.fieldLink RX9 128 "MeetingsAboveModel" "when" "I") (by decide +kernel)) (fun _ h9 => h9) rfl (by decide +kernel) rfl rfl (Nat.le_of_ble_eq_true rfl) dX9_tryOne_84 (fun H locs hP hD hS => ?_)
      have hP : va_P (dC, dI) vwCl [(h0, .inr (9, [.int th, .ref a1, .ref a2, .ref a3, .ref a4, .ref a5, .int ne, .int wi, .int dn, .ref a6, .ref a7, .int nn, .ref a8, .int la, .ref a9, .ref a10, .long b1, .long b2, .int p5, .long pu, .long pw, .ref a11]))] H := hP
      have hD : va_D A [(h0, .inr (9, [.int th, .ref a1, .ref a2, .ref a3, .ref a4, .ref a5, .int ne, .int wi, .int dn, .ref a6, .ref a7, .int nn, .ref a8, .int la, .ref a9, .ref a10, .long b1, .long b2, .int p5, .long pu, .long pw, .ref a11]))] := hD
      refine lv_aload_n hx hb dX9_tryOne_87 rfl (lv_at hl 2 rfl) ?_
      refine lv_lload hx hb dX9_tryOne_88 (lv_at hl 6 rfl) ?_
      refine va_put (D := (dC, dI)) (ci := 9) (v := .long b3) (ty := .long) (C := RX9) (T := TX9) (N := 22) hx hb hts in_X9_tryOne_X9 tyX9 tyX9_ok nmX9 hown hK hP hD hS 0 rfl rfl 19 (by decide) (hts (.fieldLink RX9 131 "MeetingsAboveModel" "partUpper" "J") (by decide +kernel)) (fun _ h9 => h9) rfl (by decide +kernel) rfl rfl (Nat.le_of_ble_eq_true rfl) dX9_tryOne_90 (fun H locs hP hD hS => ?_)
      have hP : va_P (dC, dI) vwCl [(h0, .inr (9, [.int th, .ref a1, .ref a2, .ref a3, .ref a4, .ref a5, .int ne, .int wi, .int dn, .ref a6, .ref a7, .int nn, .ref a8, .int la, .ref a9, .ref a10, .long b1, .long b2, .int p5, .long b3, .long pw, .ref a11]))] H := hP
      have hD : va_D A [(h0, .inr (9, [.int th, .ref a1, .ref a2, .ref a3, .ref a4, .ref a5, .int ne, .int wi, .int dn, .ref a6, .ref a7, .int nn, .ref a8, .int la, .ref a9, .ref a10, .long b1, .long b2, .int p5, .long b3, .long pw, .ref a11]))] := hD
      refine lv_aload_n hx hb dX9_tryOne_93 rfl (lv_at hl 2 rfl) ?_
      refine lv_lload hx hb dX9_tryOne_94 (lv_at hl 7 rfl) ?_
      refine va_put (D := (dC, dI)) (ci := 9) (v := .long b4) (ty := .long) (C := RX9) (T := TX9) (N := 22) hx hb hts in_X9_tryOne_X9 tyX9 tyX9_ok nmX9 hown hK hP hD hS 0 rfl rfl 20 (by decide) (hts (.fieldLink RX9 134 "MeetingsAboveModel" "partLower" "J") (by decide +kernel)) (fun _ h9 => h9) rfl (by decide +kernel) rfl rfl (Nat.le_of_ble_eq_true rfl) dX9_tryOne_96 (fun H locs hP hD hS => ?_)
      have hP : va_P (dC, dI) vwCl [(h0, .inr (9, [.int th, .ref a1, .ref a2, .ref a3, .ref a4, .ref a5, .int ne, .int wi, .int dn, .ref a6, .ref a7, .int nn, .ref a8, .int la, .ref a9, .ref a10, .long b1, .long b2, .int p5, .long b3, .long b4, .ref a11]))] H := hP
      have hD : va_D A [(h0, .inr (9, [.int th, .ref a1, .ref a2, .ref a3, .ref a4, .ref a5, .int ne, .int wi, .int dn, .ref a6, .ref a7, .int nn, .ref a8, .int la, .ref a9, .ref a10, .long b1, .long b2, .int p5, .long b3, .long b4, .ref a11]))] := hD
      have hP9 := hP.sub (ws' := [(h0, .inr (9, [.int th, .ref a1, .ref a2, .ref a3, .ref a4, .ref a5, .int ne, .int wi, .int dn, .ref a6, .ref a7, .int nn, .ref a8, .int la, .ref a9, .ref a10, .long b1, .long b2, .int p5, .long b3, .long b4, .ref a11]))]) [0] rfl
      have hD9 := hD.sub (ws' := [(h0, .inr (9, [.int th, .ref a1, .ref a2, .ref a3, .ref a4, .ref a5, .int ne, .int wi, .int dn, .ref a6, .ref a7, .int nn, .ref a8, .int la, .ref a9, .ref a10, .long b1, .long b2, .int p5, .long b3, .long b4, .ref a11]))]) [0] (by decide) rfl
      have hK9 := hK.sub (tys' := []) [] rfl
      refine W.widen (k := 0) (n := 0) (by omega) (by omega) ?_
      exact W.vret hx hb hr (fun t ht hW => ⟨⟨(), rfl, trivial, b1, b2, p5, b3, b4, by rw [ht]; exact hP9, va_K.moved hW.alike hK9, hD9, (by omega), (by omega), (by omega)⟩, hS.F ht⟩) hS.2.2 dX9_tryOne_99
    · have t_63 := mt (fa_lt _ _).mpr c_63
      refine lv_iload hx hb dX9_tryOne_66 (lv_at hl 0 rfl) ?_
      refine lv_if_eq (tgt := 99) hx hb dX9_tryOne_68 (by decide) (fun h9 => absurd h9 (by decide)) (fun _ => ?_)
      refine lv_aload_n hx hb dX9_tryOne_71 rfl (lv_at hl 2 rfl) ?_
      refine lv_lload_n hx hb dX9_tryOne_72 rfl (lv_at hl 3 rfl) ?_
      refine va_put (D := (dC, dI)) (ci := 9) (v := .long b1) (ty := .long) (C := RX9) (T := TX9) (N := 22) hx hb hts in_X9_tryOne_X9 tyX9 tyX9_ok nmX9 hown hK hP hD hS 0 rfl rfl 16 (by decide) (hts (.fieldLink RX9 121 "MeetingsAboveModel" "upper" "J") (by decide +kernel)) (fun _ h9 => h9) rfl (by decide +kernel) rfl rfl (Nat.le_of_ble_eq_true rfl) dX9_tryOne_73 (fun H locs hP hD hS => ?_)
      have hP : va_P (dC, dI) vwCl [(h0, .inr (9, [.int th, .ref a1, .ref a2, .ref a3, .ref a4, .ref a5, .int ne, .int wi, .int dn, .ref a6, .ref a7, .int nn, .ref a8, .int la, .ref a9, .ref a10, .long b1, .long lw, .int wh, .long pu, .long pw, .ref a11]))] H := hP
      have hD : va_D A [(h0, .inr (9, [.int th, .ref a1, .ref a2, .ref a3, .ref a4, .ref a5, .int ne, .int wi, .int dn, .ref a6, .ref a7, .int nn, .ref a8, .int la, .ref a9, .ref a10, .long b1, .long lw, .int wh, .long pu, .long pw, .ref a11]))] := hD
      refine lv_aload_n hx hb dX9_tryOne_76 rfl (lv_at hl 2 rfl) ?_
      refine lv_lload_n hx hb dX9_tryOne_77 rfl (lv_at hl 4 rfl) ?_
      refine va_put (D := (dC, dI)) (ci := 9) (v := .long b2) (ty := .long) (C := RX9) (T := TX9) (N := 22) hx hb hts in_X9_tryOne_X9 tyX9 tyX9_ok nmX9 hown hK hP hD hS 0 rfl rfl 17 (by decide) (hts (.fieldLink RX9 125 "MeetingsAboveModel" "lower" "J") (by decide +kernel)) (fun _ h9 => h9) rfl (by decide +kernel) rfl rfl (Nat.le_of_ble_eq_true rfl) dX9_tryOne_78 (fun H locs hP hD hS => ?_)
      have hP : va_P (dC, dI) vwCl [(h0, .inr (9, [.int th, .ref a1, .ref a2, .ref a3, .ref a4, .ref a5, .int ne, .int wi, .int dn, .ref a6, .ref a7, .int nn, .ref a8, .int la, .ref a9, .ref a10, .long b1, .long b2, .int wh, .long pu, .long pw, .ref a11]))] H := hP
      have hD : va_D A [(h0, .inr (9, [.int th, .ref a1, .ref a2, .ref a3, .ref a4, .ref a5, .int ne, .int wi, .int dn, .ref a6, .ref a7, .int nn, .ref a8, .int la, .ref a9, .ref a10, .long b1, .long b2, .int wh, .long pu, .long pw, .ref a11]))] := hD
      refine lv_aload_n hx hb dX9_tryOne_81 rfl (lv_at hl 2 rfl) ?_
      refine lv_iload hx hb dX9_tryOne_82 (lv_at hl 5 rfl) ?_
      refine va_put (D := (dC, dI)) (ci := 9) (v := .int p5) (ty := .int) (C := RX9) (T := TX9) (N := 22) hx hb hts in_X9_tryOne_X9 tyX9 tyX9_ok nmX9 hown hK hP hD hS 0 rfl rfl 18 (by decide) (hts (.fieldLink RX9 128 "MeetingsAboveModel" "when" "I") (by decide +kernel)) (fun _ h9 => h9) rfl (by decide +kernel) rfl rfl (Nat.le_of_ble_eq_true rfl) dX9_tryOne_84 (fun H locs hP hD hS => ?_)
      have hP : va_P (dC, dI) vwCl [(h0, .inr (9, [.int th, .ref a1, .ref a2, .ref a3, .ref a4, .ref a5, .int ne, .int wi, .int dn, .ref a6, .ref a7, .int nn, .ref a8, .int la, .ref a9, .ref a10, .long b1, .long b2, .int p5, .long pu, .long pw, .ref a11]))] H := hP
      have hD : va_D A [(h0, .inr (9, [.int th, .ref a1, .ref a2, .ref a3, .ref a4, .ref a5, .int ne, .int wi, .int dn, .ref a6, .ref a7, .int nn, .ref a8, .int la, .ref a9, .ref a10, .long b1, .long b2, .int p5, .long pu, .long pw, .ref a11]))] := hD
      refine lv_aload_n hx hb dX9_tryOne_87 rfl (lv_at hl 2 rfl) ?_
      refine lv_lload hx hb dX9_tryOne_88 (lv_at hl 6 rfl) ?_
      refine va_put (D := (dC, dI)) (ci := 9) (v := .long b3) (ty := .long) (C := RX9) (T := TX9) (N := 22) hx hb hts in_X9_tryOne_X9 tyX9 tyX9_ok nmX9 hown hK hP hD hS 0 rfl rfl 19 (by decide) (hts (.fieldLink RX9 131 "MeetingsAboveModel" "partUpper" "J") (by decide +kernel)) (fun _ h9 => h9) rfl (by decide +kernel) rfl rfl (Nat.le_of_ble_eq_true rfl) dX9_tryOne_90 (fun H locs hP hD hS => ?_)
      have hP : va_P (dC, dI) vwCl [(h0, .inr (9, [.int th, .ref a1, .ref a2, .ref a3, .ref a4, .ref a5, .int ne, .int wi, .int dn, .ref a6, .ref a7, .int nn, .ref a8, .int la, .ref a9, .ref a10, .long b1, .long b2, .int p5, .long b3, .long pw, .ref a11]))] H := hP
      have hD : va_D A [(h0, .inr (9, [.int th, .ref a1, .ref a2, .ref a3, .ref a4, .ref a5, .int ne, .int wi, .int dn, .ref a6, .ref a7, .int nn, .ref a8, .int la, .ref a9, .ref a10, .long b1, .long b2, .int p5, .long b3, .long pw, .ref a11]))] := hD
      refine lv_aload_n hx hb dX9_tryOne_93 rfl (lv_at hl 2 rfl) ?_
      refine lv_lload hx hb dX9_tryOne_94 (lv_at hl 7 rfl) ?_
      refine va_put (D := (dC, dI)) (ci := 9) (v := .long b4) (ty := .long) (C := RX9) (T := TX9) (N := 22) hx hb hts in_X9_tryOne_X9 tyX9 tyX9_ok nmX9 hown hK hP hD hS 0 rfl rfl 20 (by decide) (hts (.fieldLink RX9 134 "MeetingsAboveModel" "partLower" "J") (by decide +kernel)) (fun _ h9 => h9) rfl (by decide +kernel) rfl rfl (Nat.le_of_ble_eq_true rfl) dX9_tryOne_96 (fun H locs hP hD hS => ?_)
      have hP : va_P (dC, dI) vwCl [(h0, .inr (9, [.int th, .ref a1, .ref a2, .ref a3, .ref a4, .ref a5, .int ne, .int wi, .int dn, .ref a6, .ref a7, .int nn, .ref a8, .int la, .ref a9, .ref a10, .long b1, .long b2, .int p5, .long b3, .long b4, .ref a11]))] H := hP
      have hD : va_D A [(h0, .inr (9, [.int th, .ref a1, .ref a2, .ref a3, .ref a4, .ref a5, .int ne, .int wi, .int dn, .ref a6, .ref a7, .int nn, .ref a8, .int la, .ref a9, .ref a10, .long b1, .long b2, .int p5, .long b3, .long b4, .ref a11]))] := hD
      have hP9 := hP.sub (ws' := [(h0, .inr (9, [.int th, .ref a1, .ref a2, .ref a3, .ref a4, .ref a5, .int ne, .int wi, .int dn, .ref a6, .ref a7, .int nn, .ref a8, .int la, .ref a9, .ref a10, .long b1, .long b2, .int p5, .long b3, .long b4, .ref a11]))]) [0] rfl
      have hD9 := hD.sub (ws' := [(h0, .inr (9, [.int th, .ref a1, .ref a2, .ref a3, .ref a4, .ref a5, .int ne, .int wi, .int dn, .ref a6, .ref a7, .int nn, .ref a8, .int la, .ref a9, .ref a10, .long b1, .long b2, .int p5, .long b3, .long b4, .ref a11]))]) [0] (by decide) rfl
      have hK9 := hK.sub (tys' := []) [] rfl
      refine W.widen (k := 0) (n := 0) (by omega) (by omega) ?_
      exact W.vret hx hb hr (fun t ht hW => ⟨⟨(), rfl, trivial, b1, b2, p5, b3, b4, by rw [ht]; exact hP9, va_K.moved hW.alike hK9, hD9, (by omega), (by omega), (by omega)⟩, hS.F ht⟩) hS.2.2 dX9_tryOne_99
  · have t_19 := mt (fa_lt64 _ _).mpr (mt (lg_cmp_lt _ _).mpr c_19)
    refine lv_lload hx hb dX9_tryOne_22 (lv_at hl 0 rfl) ?_
    refine lv_lconst (v := 0) hx hb dX9_tryOne_24 (by decide) ?_
    refine W.lcmp hx hb dX9_tryOne_25 ?_
    refine lv_if_ne (tgt := 56) hx hb dX9_tryOne_26 (by decide) (fun c_26 => ?_) (fun c_26 => ?_)
    · have t_26 := mt (fa_eq64 _ _).mpr (mt (lg_cmp_eq _ _).mpr c_26)
      refine lv_iconst (v := 0) hx hb dX9_tryOne_56 (by decide) ?_
      refine lv_istore (lv' := [(12, .int 0), (10, .long y_3), (0, .ref h0), (1, .long b1), (3, .long b2), (5, .int p5), (6, .long b3), (8, .long b4)]) hx hb dX9_tryOne_57 hl (by decide) rfl (fun ls hl => ?_)
      refine lv_aload_n hx hb dX9_tryOne_59 rfl (lv_at hl 2 rfl) ?_
      refine va_get (D := (dC, dI)) (ci := 9) (v := .int wh) (C := RX9) (T := TX9) (N := 22) hx hb hts in_X9_tryOne_X9 hown hK hP 0 rfl rfl 18 (by decide) (hts (.fieldLink RX9 128 "MeetingsAboveModel" "when" "I") (by decide +kernel)) (fun _ h9 => h9) rfl dX9_tryOne_60 ?_
      refine lv_if_lt (tgt := 71) hx hb dX9_tryOne_63 (by decide) (fun c_63 => ?_) (fun c_63 => ?_)
      · have t_63 := (fa_lt _ _).mp c_63
        refine lv_aload_n hx hb dX9_tryOne_71 rfl (lv_at hl 2 rfl) ?_
        refine lv_lload_n hx hb dX9_tryOne_72 rfl (lv_at hl 3 rfl) ?_
        refine va_put (D := (dC, dI)) (ci := 9) (v := .long b1) (ty := .long) (C := RX9) (T := TX9) (N := 22) hx hb hts in_X9_tryOne_X9 tyX9 tyX9_ok nmX9 hown hK hP hD hS 0 rfl rfl 16 (by decide) (hts (.fieldLink RX9 121 "MeetingsAboveModel" "upper" "J") (by decide +kernel)) (fun _ h9 => h9) rfl (by decide +kernel) rfl rfl (Nat.le_of_ble_eq_true rfl) dX9_tryOne_73 (fun H locs hP hD hS => ?_)
        have hP : va_P (dC, dI) vwCl [(h0, .inr (9, [.int th, .ref a1, .ref a2, .ref a3, .ref a4, .ref a5, .int ne, .int wi, .int dn, .ref a6, .ref a7, .int nn, .ref a8, .int la, .ref a9, .ref a10, .long b1, .long lw, .int wh, .long pu, .long pw, .ref a11]))] H := hP
        have hD : va_D A [(h0, .inr (9, [.int th, .ref a1, .ref a2, .ref a3, .ref a4, .ref a5, .int ne, .int wi, .int dn, .ref a6, .ref a7, .int nn, .ref a8, .int la, .ref a9, .ref a10, .long b1, .long lw, .int wh, .long pu, .long pw, .ref a11]))] := hD
        refine lv_aload_n hx hb dX9_tryOne_76 rfl (lv_at hl 2 rfl) ?_
        refine lv_lload_n hx hb dX9_tryOne_77 rfl (lv_at hl 4 rfl) ?_
        refine va_put (D := (dC, dI)) (ci := 9) (v := .long b2) (ty := .long) (C := RX9) (T := TX9) (N := 22) hx hb hts in_X9_tryOne_X9 tyX9 tyX9_ok nmX9 hown hK hP hD hS 0 rfl rfl 17 (by decide) (hts (.fieldLink RX9 125 "MeetingsAboveModel" "lower" "J") (by decide +kernel)) (fun _ h9 => h9) rfl (by decide +kernel) rfl rfl (Nat.le_of_ble_eq_true rfl) dX9_tryOne_78 (fun H locs hP hD hS => ?_)
        have hP : va_P (dC, dI) vwCl [(h0, .inr (9, [.int th, .ref a1, .ref a2, .ref a3, .ref a4, .ref a5, .int ne, .int wi, .int dn, .ref a6, .ref a7, .int nn, .ref a8, .int la, .ref a9, .ref a10, .long b1, .long b2, .int wh, .long pu, .long pw, .ref a11]))] H := hP
        have hD : va_D A [(h0, .inr (9, [.int th, .ref a1, .ref a2, .ref a3, .ref a4, .ref a5, .int ne, .int wi, .int dn, .ref a6, .ref a7, .int nn, .ref a8, .int la, .ref a9, .ref a10, .long b1, .long b2, .int wh, .long pu, .long pw, .ref a11]))] := hD
        refine lv_aload_n hx hb dX9_tryOne_81 rfl (lv_at hl 2 rfl) ?_
        refine lv_iload hx hb dX9_tryOne_82 (lv_at hl 5 rfl) ?_
        refine va_put (D := (dC, dI)) (ci := 9) (v := .int p5) (ty := .int) (C := RX9) (T := TX9) (N := 22) hx hb hts in_X9_tryOne_X9 tyX9 tyX9_ok nmX9 hown hK hP hD hS 0 rfl rfl 18 (by decide) (hts (.fieldLink RX9 128 "MeetingsAboveModel" "when" "I") (by decide +kernel)) (fun _ h9 => h9) rfl (by decide +kernel) rfl rfl (Nat.le_of_ble_eq_true rfl) dX9_tryOne_84 (fun H locs hP hD hS => ?_)
        have hP : va_P (dC, dI) vwCl [(h0, .inr (9, [.int th, .ref a1, .ref a2, .ref a3, .ref a4, .ref a5, .int ne, .int wi, .int dn, .ref a6, .ref a7, .int nn, .ref a8, .int la, .ref a9, .ref a10, .long b1, .long b2, .int p5, .long pu, .long pw, .ref a11]))] H := hP
        have hD : va_D A [(h0, .inr (9, [.int th, .ref a1, .ref a2, .ref a3, .ref a4, .ref a5, .int ne, .int wi, .int dn, .ref a6, .ref a7, .int nn, .ref a8, .int la, .ref a9, .ref a10, .long b1, .long b2, .int p5, .long pu, .long pw, .ref a11]))] := hD
        refine lv_aload_n hx hb dX9_tryOne_87 rfl (lv_at hl 2 rfl) ?_
        refine lv_lload hx hb dX9_tryOne_88 (lv_at hl 6 rfl) ?_
        refine va_put (D := (dC, dI)) (ci := 9) (v := .long b3) (ty := .long) (C := RX9) (T := TX9) (N := 22) hx hb hts in_X9_tryOne_X9 tyX9 tyX9_ok nmX9 hown hK hP hD hS 0 rfl rfl 19 (by decide) (hts (.fieldLink RX9 131 "MeetingsAboveModel" "partUpper" "J") (by decide +kernel)) (fun _ h9 => h9) rfl (by decide +kernel) rfl rfl (Nat.le_of_ble_eq_true rfl) dX9_tryOne_90 (fun H locs hP hD hS => ?_)
        have hP : va_P (dC, dI) vwCl [(h0, .inr (9, [.int th, .ref a1, .ref a2, .ref a3, .ref a4, .ref a5, .int ne, .int wi, .int dn, .ref a6, .ref a7, .int nn, .ref a8, .int la, .ref a9, .ref a10, .long b1, .long b2, .int p5, .long b3, .long pw, .ref a11]))] H := hP
        have hD : va_D A [(h0, .inr (9, [.int th, .ref a1, .ref a2, .ref a3, .ref a4, .ref a5, .int ne, .int wi, .int dn, .ref a6, .ref a7, .int nn, .ref a8, .int la, .ref a9, .ref a10, .long b1, .long b2, .int p5, .long b3, .long pw, .ref a11]))] := hD
        refine lv_aload_n hx hb dX9_tryOne_93 rfl (lv_at hl 2 rfl) ?_
        refine lv_lload hx hb dX9_tryOne_94 (lv_at hl 7 rfl) ?_
        refine va_put (D := (dC, dI)) (ci := 9) (v := .long b4) (ty := .long) (C := RX9) (T := TX9) (N := 22) hx hb hts in_X9_tryOne_X9 tyX9 tyX9_ok nmX9 hown hK hP hD hS 0 rfl rfl 20 (by decide) (hts (.fieldLink RX9 134 "MeetingsAboveModel" "partLower" "J") (by decide +kernel)) (fun _ h9 => h9) rfl (by decide +kernel) rfl rfl (Nat.le_of_ble_eq_true rfl) dX9_tryOne_96 (fun H locs hP hD hS => ?_)
        have hP : va_P (dC, dI) vwCl [(h0, .inr (9, [.int th, .ref a1, .ref a2, .ref a3, .ref a4, .ref a5, .int ne, .int wi, .int dn, .ref a6, .ref a7, .int nn, .ref a8, .int la, .ref a9, .ref a10, .long b1, .long b2, .int p5, .long b3, .long b4, .ref a11]))] H := hP
        have hD : va_D A [(h0, .inr (9, [.int th, .ref a1, .ref a2, .ref a3, .ref a4, .ref a5, .int ne, .int wi, .int dn, .ref a6, .ref a7, .int nn, .ref a8, .int la, .ref a9, .ref a10, .long b1, .long b2, .int p5, .long b3, .long b4, .ref a11]))] := hD
        have hP9 := hP.sub (ws' := [(h0, .inr (9, [.int th, .ref a1, .ref a2, .ref a3, .ref a4, .ref a5, .int ne, .int wi, .int dn, .ref a6, .ref a7, .int nn, .ref a8, .int la, .ref a9, .ref a10, .long b1, .long b2, .int p5, .long b3, .long b4, .ref a11]))]) [0] rfl
        have hD9 := hD.sub (ws' := [(h0, .inr (9, [.int th, .ref a1, .ref a2, .ref a3, .ref a4, .ref a5, .int ne, .int wi, .int dn, .ref a6, .ref a7, .int nn, .ref a8, .int la, .ref a9, .ref a10, .long b1, .long b2, .int p5, .long b3, .long b4, .ref a11]))]) [0] (by decide) rfl
        have hK9 := hK.sub (tys' := []) [] rfl
        refine W.widen (k := 0) (n := 0) (by omega) (by omega) ?_
        exact W.vret hx hb hr (fun t ht hW => ⟨⟨(), rfl, trivial, b1, b2, p5, b3, b4, by rw [ht]; exact hP9, va_K.moved hW.alike hK9, hD9, (by omega), (by omega), (by omega)⟩, hS.F ht⟩) hS.2.2 dX9_tryOne_99
      · have t_63 := mt (fa_lt _ _).mpr c_63
        refine lv_iload hx hb dX9_tryOne_66 (lv_at hl 0 rfl) ?_
        refine lv_if_eq (tgt := 99) hx hb dX9_tryOne_68 (by decide) (fun _ => ?_) (fun h9 => absurd h9 (by decide))
        have hP9 := hP.sub (ws' := [(h0, .inr (9, [.int th, .ref a1, .ref a2, .ref a3, .ref a4, .ref a5, .int ne, .int wi, .int dn, .ref a6, .ref a7, .int nn, .ref a8, .int la, .ref a9, .ref a10, .long up, .long lw, .int wh, .long pu, .long pw, .ref a11]))]) [0] rfl
        have hD9 := hD.sub (ws' := [(h0, .inr (9, [.int th, .ref a1, .ref a2, .ref a3, .ref a4, .ref a5, .int ne, .int wi, .int dn, .ref a6, .ref a7, .int nn, .ref a8, .int la, .ref a9, .ref a10, .long up, .long lw, .int wh, .long pu, .long pw, .ref a11]))]) [0] (by decide) rfl
        have hK9 := hK.sub (tys' := []) [] rfl
        refine W.widen (k := 0) (n := 0) (by omega) (by omega) ?_
        exact W.vret hx hb hr (fun t ht hW => ⟨⟨(), rfl, trivial, up, lw, wh, pu, pw, by rw [ht]; exact hP9, va_K.moved hW.alike hK9, hD9, (by omega), (by omega), (by omega)⟩, hS.F ht⟩) hS.2.2 dX9_tryOne_99
    · have t_26 := (fa_eq64 _ _).mp ((lg_cmp_eq _ _).mp c_26)
      refine lv_lload_n hx hb dX9_tryOne_29 rfl (lv_at hl 2 rfl) ?_
      refine lv_lload_n hx hb dX9_tryOne_30 rfl (lv_at hl 3 rfl) ?_
      refine lv_lrem hx hb dX9_tryOne_31 (fun h => by rw [h, klL_0] at hb2; omega) ?_
      refine lv_topl (fun y_4 ey_4 => ?_)
      refine lv_aload_n hx hb dX9_tryOne_32 rfl (lv_at hl 1 rfl) ?_
      refine va_get (D := (dC, dI)) (ci := 9) (v := .long lw) (C := RX9) (T := TX9) (N := 22) hx hb hts in_X9_tryOne_X9 hown hK hP 0 rfl rfl 17 (by decide) (hts (.fieldLink RX9 125 "MeetingsAboveModel" "lower" "J") (by decide +kernel)) (fun _ h9 => h9) rfl dX9_tryOne_33 ?_
      refine lv_lmul hx hb dX9_tryOne_36 ?_
      refine lv_topl (fun y_5 ey_5 => ?_)
      refine lv_aload_n hx hb dX9_tryOne_37 rfl (lv_at hl 1 rfl) ?_
      refine va_get (D := (dC, dI)) (ci := 9) (v := .long up) (C := RX9) (T := TX9) (N := 22) hx hb hts in_X9_tryOne_X9 hown hK hP 0 rfl rfl 16 (by decide) (hts (.fieldLink RX9 121 "MeetingsAboveModel" "upper" "J") (by decide +kernel)) (fun _ h9 => h9) rfl dX9_tryOne_38 ?_
      refine lv_aload_n hx hb dX9_tryOne_41 rfl (lv_at hl 1 rfl) ?_
      refine va_get (D := (dC, dI)) (ci := 9) (v := .long lw) (C := RX9) (T := TX9) (N := 22) hx hb hts in_X9_tryOne_X9 hown hK hP 0 rfl rfl 17 (by decide) (hts (.fieldLink RX9 125 "MeetingsAboveModel" "lower" "J") (by decide +kernel)) (fun _ h9 => h9) rfl dX9_tryOne_42 ?_
      refine lv_lrem hx hb dX9_tryOne_45 (fun h => by rw [h, klL_0] at hlw; omega) ?_
      refine lv_topl (fun y_6 ey_6 => ?_)
      refine lv_lload_n hx hb dX9_tryOne_46 rfl (lv_at hl 3 rfl) ?_
      refine lv_lmul hx hb dX9_tryOne_47 ?_
      refine lv_topl (fun y_7 ey_7 => ?_)
      refine W.lcmp hx hb dX9_tryOne_48 ?_
      refine lv_if_ge (tgt := 56) hx hb dX9_tryOne_49 (by decide) (fun c_49 => ?_) (fun c_49 => ?_)
      · have t_49 := (fa_le64 _ _).mp ((lg_cmp_ge _ _).mp c_49)
        refine lv_iconst (v := 0) hx hb dX9_tryOne_56 (by decide) ?_
        refine lv_istore (lv' := [(12, .int 0), (10, .long y_3), (0, .ref h0), (1, .long b1), (3, .long b2), (5, .int p5), (6, .long b3), (8, .long b4)]) hx hb dX9_tryOne_57 hl (by decide) rfl (fun ls hl => ?_)
        refine lv_aload_n hx hb dX9_tryOne_59 rfl (lv_at hl 2 rfl) ?_
        refine va_get (D := (dC, dI)) (ci := 9) (v := .int wh) (C := RX9) (T := TX9) (N := 22) hx hb hts in_X9_tryOne_X9 hown hK hP 0 rfl rfl 18 (by decide) (hts (.fieldLink RX9 128 "MeetingsAboveModel" "when" "I") (by decide +kernel)) (fun _ h9 => h9) rfl dX9_tryOne_60 ?_
        refine lv_if_lt (tgt := 71) hx hb dX9_tryOne_63 (by decide) (fun c_63 => ?_) (fun c_63 => ?_)
        · have t_63 := (fa_lt _ _).mp c_63
          refine lv_aload_n hx hb dX9_tryOne_71 rfl (lv_at hl 2 rfl) ?_
          refine lv_lload_n hx hb dX9_tryOne_72 rfl (lv_at hl 3 rfl) ?_
          refine va_put (D := (dC, dI)) (ci := 9) (v := .long b1) (ty := .long) (C := RX9) (T := TX9) (N := 22) hx hb hts in_X9_tryOne_X9 tyX9 tyX9_ok nmX9 hown hK hP hD hS 0 rfl rfl 16 (by decide) (hts (.fieldLink RX9 121 "MeetingsAboveModel" "upper" "J") (by decide +kernel)) (fun _ h9 => h9) rfl (by decide +kernel) rfl rfl (Nat.le_of_ble_eq_true rfl) dX9_tryOne_73 (fun H locs hP hD hS => ?_)
          have hP : va_P (dC, dI) vwCl [(h0, .inr (9, [.int th, .ref a1, .ref a2, .ref a3, .ref a4, .ref a5, .int ne, .int wi, .int dn, .ref a6, .ref a7, .int nn, .ref a8, .int la, .ref a9, .ref a10, .long b1, .long lw, .int wh, .long pu, .long pw, .ref a11]))] H := hP
          have hD : va_D A [(h0, .inr (9, [.int th, .ref a1, .ref a2, .ref a3, .ref a4, .ref a5, .int ne, .int wi, .int dn, .ref a6, .ref a7, .int nn, .ref a8, .int la, .ref a9, .ref a10, .long b1, .long lw, .int wh, .long pu, .long pw, .ref a11]))] := hD
          refine lv_aload_n hx hb dX9_tryOne_76 rfl (lv_at hl 2 rfl) ?_
          refine lv_lload_n hx hb dX9_tryOne_77 rfl (lv_at hl 4 rfl) ?_
          refine va_put (D := (dC, dI)) (ci := 9) (v := .long b2) (ty := .long) (C := RX9) (T := TX9) (N := 22) hx hb hts in_X9_tryOne_X9 tyX9 tyX9_ok nmX9 hown hK hP hD hS 0 rfl rfl 17 (by decide) (hts (.fieldLink RX9 125 "MeetingsAboveModel" "lower" "J") (by decide +kernel)) (fun _ h9 => h9) rfl (by decide +kernel) rfl rfl (Nat.le_of_ble_eq_true rfl) dX9_tryOne_78 (fun H locs hP hD hS => ?_)
          have hP : va_P (dC, dI) vwCl [(h0, .inr (9, [.int th, .ref a1, .ref a2, .ref a3, .ref a4, .ref a5, .int ne, .int wi, .int dn, .ref a6, .ref a7, .int nn, .ref a8, .int la, .ref a9, .ref a10, .long b1, .long b2, .int wh, .long pu, .long pw, .ref a11]))] H := hP
          have hD : va_D A [(h0, .inr (9, [.int th, .ref a1, .ref a2, .ref a3, .ref a4, .ref a5, .int ne, .int wi, .int dn, .ref a6, .ref a7, .int nn, .ref a8, .int la, .ref a9, .ref a10, .long b1, .long b2, .int wh, .long pu, .long pw, .ref a11]))] := hD
          refine lv_aload_n hx hb dX9_tryOne_81 rfl (lv_at hl 2 rfl) ?_
          refine lv_iload hx hb dX9_tryOne_82 (lv_at hl 5 rfl) ?_
          refine va_put (D := (dC, dI)) (ci := 9) (v := .int p5) (ty := .int) (C := RX9) (T := TX9) (N := 22) hx hb hts in_X9_tryOne_X9 tyX9 tyX9_ok nmX9 hown hK hP hD hS 0 rfl rfl 18 (by decide) (hts (.fieldLink RX9 128 "MeetingsAboveModel" "when" "I") (by decide +kernel)) (fun _ h9 => h9) rfl (by decide +kernel) rfl rfl (Nat.le_of_ble_eq_true rfl) dX9_tryOne_84 (fun H locs hP hD hS => ?_)
          have hP : va_P (dC, dI) vwCl [(h0, .inr (9, [.int th, .ref a1, .ref a2, .ref a3, .ref a4, .ref a5, .int ne, .int wi, .int dn, .ref a6, .ref a7, .int nn, .ref a8, .int la, .ref a9, .ref a10, .long b1, .long b2, .int p5, .long pu, .long pw, .ref a11]))] H := hP
          have hD : va_D A [(h0, .inr (9, [.int th, .ref a1, .ref a2, .ref a3, .ref a4, .ref a5, .int ne, .int wi, .int dn, .ref a6, .ref a7, .int nn, .ref a8, .int la, .ref a9, .ref a10, .long b1, .long b2, .int p5, .long pu, .long pw, .ref a11]))] := hD
          refine lv_aload_n hx hb dX9_tryOne_87 rfl (lv_at hl 2 rfl) ?_
          refine lv_lload hx hb dX9_tryOne_88 (lv_at hl 6 rfl) ?_
          refine va_put (D := (dC, dI)) (ci := 9) (v := .long b3) (ty := .long) (C := RX9) (T := TX9) (N := 22) hx hb hts in_X9_tryOne_X9 tyX9 tyX9_ok nmX9 hown hK hP hD hS 0 rfl rfl 19 (by decide) (hts (.fieldLink RX9 131 "MeetingsAboveModel" "partUpper" "J") (by decide +kernel)) (fun _ h9 => h9) rfl (by decide +kernel) rfl rfl (Nat.le_of_ble_eq_true rfl) dX9_tryOne_90 (fun H locs hP hD hS => ?_)
          have hP : va_P (dC, dI) vwCl [(h0, .inr (9, [.int th, .ref a1, .ref a2, .ref a3, .ref a4, .ref a5, .int ne, .int wi, .int dn, .ref a6, .ref a7, .int nn, .ref a8, .int la, .ref a9, .ref a10, .long b1, .long b2, .int p5, .long b3, .long pw, .ref a11]))] H := hP
          have hD : va_D A [(h0, .inr (9, [.int th, .ref a1, .ref a2, .ref a3, .ref a4, .ref a5, .int ne, .int wi, .int dn, .ref a6, .ref a7, .int nn, .ref a8, .int la, .ref a9, .ref a10, .long b1, .long b2, .int p5, .long b3, .long pw, .ref a11]))] := hD
          refine lv_aload_n hx hb dX9_tryOne_93 rfl (lv_at hl 2 rfl) ?_
          refine lv_lload hx hb dX9_tryOne_94 (lv_at hl 7 rfl) ?_
          refine va_put (D := (dC, dI)) (ci := 9) (v := .long b4) (ty := .long) (C := RX9) (T := TX9) (N := 22) hx hb hts in_X9_tryOne_X9 tyX9 tyX9_ok nmX9 hown hK hP hD hS 0 rfl rfl 20 (by decide) (hts (.fieldLink RX9 134 "MeetingsAboveModel" "partLower" "J") (by decide +kernel)) (fun _ h9 => h9) rfl (by decide +kernel) rfl rfl (Nat.le_of_ble_eq_true rfl) dX9_tryOne_96 (fun H locs hP hD hS => ?_)
          have hP : va_P (dC, dI) vwCl [(h0, .inr (9, [.int th, .ref a1, .ref a2, .ref a3, .ref a4, .ref a5, .int ne, .int wi, .int dn, .ref a6, .ref a7, .int nn, .ref a8, .int la, .ref a9, .ref a10, .long b1, .long b2, .int p5, .long b3, .long b4, .ref a11]))] H := hP
          have hD : va_D A [(h0, .inr (9, [.int th, .ref a1, .ref a2, .ref a3, .ref a4, .ref a5, .int ne, .int wi, .int dn, .ref a6, .ref a7, .int nn, .ref a8, .int la, .ref a9, .ref a10, .long b1, .long b2, .int p5, .long b3, .long b4, .ref a11]))] := hD
          have hP9 := hP.sub (ws' := [(h0, .inr (9, [.int th, .ref a1, .ref a2, .ref a3, .ref a4, .ref a5, .int ne, .int wi, .int dn, .ref a6, .ref a7, .int nn, .ref a8, .int la, .ref a9, .ref a10, .long b1, .long b2, .int p5, .long b3, .long b4, .ref a11]))]) [0] rfl
          have hD9 := hD.sub (ws' := [(h0, .inr (9, [.int th, .ref a1, .ref a2, .ref a3, .ref a4, .ref a5, .int ne, .int wi, .int dn, .ref a6, .ref a7, .int nn, .ref a8, .int la, .ref a9, .ref a10, .long b1, .long b2, .int p5, .long b3, .long b4, .ref a11]))]) [0] (by decide) rfl
          have hK9 := hK.sub (tys' := []) [] rfl
          refine W.widen (k := 0) (n := 0) (by omega) (by omega) ?_
          exact W.vret hx hb hr (fun t ht hW => ⟨⟨(), rfl, trivial, b1, b2, p5, b3, b4, by rw [ht]; exact hP9, va_K.moved hW.alike hK9, hD9, (by omega), (by omega), (by omega)⟩, hS.F ht⟩) hS.2.2 dX9_tryOne_99
        · have t_63 := mt (fa_lt _ _).mpr c_63
          refine lv_iload hx hb dX9_tryOne_66 (lv_at hl 0 rfl) ?_
          refine lv_if_eq (tgt := 99) hx hb dX9_tryOne_68 (by decide) (fun _ => ?_) (fun h9 => absurd h9 (by decide))
          have hP9 := hP.sub (ws' := [(h0, .inr (9, [.int th, .ref a1, .ref a2, .ref a3, .ref a4, .ref a5, .int ne, .int wi, .int dn, .ref a6, .ref a7, .int nn, .ref a8, .int la, .ref a9, .ref a10, .long up, .long lw, .int wh, .long pu, .long pw, .ref a11]))]) [0] rfl
          have hD9 := hD.sub (ws' := [(h0, .inr (9, [.int th, .ref a1, .ref a2, .ref a3, .ref a4, .ref a5, .int ne, .int wi, .int dn, .ref a6, .ref a7, .int nn, .ref a8, .int la, .ref a9, .ref a10, .long up, .long lw, .int wh, .long pu, .long pw, .ref a11]))]) [0] (by decide) rfl
          have hK9 := hK.sub (tys' := []) [] rfl
          refine W.widen (k := 0) (n := 0) (by omega) (by omega) ?_
          exact W.vret hx hb hr (fun t ht hW => ⟨⟨(), rfl, trivial, up, lw, wh, pu, pw, by rw [ht]; exact hP9, va_K.moved hW.alike hK9, hD9, (by omega), (by omega), (by omega)⟩, hS.F ht⟩) hS.2.2 dX9_tryOne_99
      · have t_49 := mt (fa_le64 _ _).mpr (mt (lg_cmp_ge _ _).mpr c_49)
        refine lv_iconst (v := 1) hx hb dX9_tryOne_52 (by decide) ?_
        refine lv_goto (tgt := 57) hx hb dX9_tryOne_53 (by decide) ?_
        refine lv_istore (lv' := [(12, .int 1), (10, .long y_3), (0, .ref h0), (1, .long b1), (3, .long b2), (5, .int p5), (6, .long b3), (8, .long b4)]) hx hb dX9_tryOne_57 hl (by decide) rfl (fun ls hl => ?_)
        refine lv_aload_n hx hb dX9_tryOne_59 rfl (lv_at hl 2 rfl) ?_
        refine va_get (D := (dC, dI)) (ci := 9) (v := .int wh) (C := RX9) (T := TX9) (N := 22) hx hb hts in_X9_tryOne_X9 hown hK hP 0 rfl rfl 18 (by decide) (hts (.fieldLink RX9 128 "MeetingsAboveModel" "when" "I") (by decide +kernel)) (fun _ h9 => h9) rfl dX9_tryOne_60 ?_
        refine lv_if_lt (tgt := 71) hx hb dX9_tryOne_63 (by decide) (fun c_63 => ?_) (fun c_63 => ?_)
        · have t_63 := (fa_lt _ _).mp c_63
          refine lv_aload_n hx hb dX9_tryOne_71 rfl (lv_at hl 2 rfl) ?_
          refine lv_lload_n hx hb dX9_tryOne_72 rfl (lv_at hl 3 rfl) ?_
          refine va_put (D := (dC, dI)) (ci := 9) (v := .long b1) (ty := .long) (C := RX9) (T := TX9) (N := 22) hx hb hts in_X9_tryOne_X9 tyX9 tyX9_ok nmX9 hown hK hP hD hS 0 rfl rfl 16 (by decide) (hts (.fieldLink RX9 121 "MeetingsAboveModel" "upper" "J") (by decide +kernel)) (fun _ h9 => h9) rfl (by decide +kernel) rfl rfl (Nat.le_of_ble_eq_true rfl) dX9_tryOne_73 (fun H locs hP hD hS => ?_)
          have hP : va_P (dC, dI) vwCl [(h0, .inr (9, [.int th, .ref a1, .ref a2, .ref a3, .ref a4, .ref a5, .int ne, .int wi, .int dn, .ref a6, .ref a7, .int nn, .ref a8, .int la, .ref a9, .ref a10, .long b1, .long lw, .int wh, .long pu, .long pw, .ref a11]))] H := hP
          have hD : va_D A [(h0, .inr (9, [.int th, .ref a1, .ref a2, .ref a3, .ref a4, .ref a5, .int ne, .int wi, .int dn, .ref a6, .ref a7, .int nn, .ref a8, .int la, .ref a9, .ref a10, .long b1, .long lw, .int wh, .long pu, .long pw, .ref a11]))] := hD
          refine lv_aload_n hx hb dX9_tryOne_76 rfl (lv_at hl 2 rfl) ?_
          refine lv_lload_n hx hb dX9_tryOne_77 rfl (lv_at hl 4 rfl) ?_
          refine va_put (D := (dC, dI)) (ci := 9) (v := .long b2) (ty := .long) (C := RX9) (T := TX9) (N := 22) hx hb hts in_X9_tryOne_X9 tyX9 tyX9_ok nmX9 hown hK hP hD hS 0 rfl rfl 17 (by decide) (hts (.fieldLink RX9 125 "MeetingsAboveModel" "lower" "J") (by decide +kernel)) (fun _ h9 => h9) rfl (by decide +kernel) rfl rfl (Nat.le_of_ble_eq_true rfl) dX9_tryOne_78 (fun H locs hP hD hS => ?_)
          have hP : va_P (dC, dI) vwCl [(h0, .inr (9, [.int th, .ref a1, .ref a2, .ref a3, .ref a4, .ref a5, .int ne, .int wi, .int dn, .ref a6, .ref a7, .int nn, .ref a8, .int la, .ref a9, .ref a10, .long b1, .long b2, .int wh, .long pu, .long pw, .ref a11]))] H := hP
          have hD : va_D A [(h0, .inr (9, [.int th, .ref a1, .ref a2, .ref a3, .ref a4, .ref a5, .int ne, .int wi, .int dn, .ref a6, .ref a7, .int nn, .ref a8, .int la, .ref a9, .ref a10, .long b1, .long b2, .int wh, .long pu, .long pw, .ref a11]))] := hD
          refine lv_aload_n hx hb dX9_tryOne_81 rfl (lv_at hl 2 rfl) ?_
          refine lv_iload hx hb dX9_tryOne_82 (lv_at hl 5 rfl) ?_
          refine va_put (D := (dC, dI)) (ci := 9) (v := .int p5) (ty := .int) (C := RX9) (T := TX9) (N := 22) hx hb hts in_X9_tryOne_X9 tyX9 tyX9_ok nmX9 hown hK hP hD hS 0 rfl rfl 18 (by decide) (hts (.fieldLink RX9 128 "MeetingsAboveModel" "when" "I") (by decide +kernel)) (fun _ h9 => h9) rfl (by decide +kernel) rfl rfl (Nat.le_of_ble_eq_true rfl) dX9_tryOne_84 (fun H locs hP hD hS => ?_)
          have hP : va_P (dC, dI) vwCl [(h0, .inr (9, [.int th, .ref a1, .ref a2, .ref a3, .ref a4, .ref a5, .int ne, .int wi, .int dn, .ref a6, .ref a7, .int nn, .ref a8, .int la, .ref a9, .ref a10, .long b1, .long b2, .int p5, .long pu, .long pw, .ref a11]))] H := hP
          have hD : va_D A [(h0, .inr (9, [.int th, .ref a1, .ref a2, .ref a3, .ref a4, .ref a5, .int ne, .int wi, .int dn, .ref a6, .ref a7, .int nn, .ref a8, .int la, .ref a9, .ref a10, .long b1, .long b2, .int p5, .long pu, .long pw, .ref a11]))] := hD
          refine lv_aload_n hx hb dX9_tryOne_87 rfl (lv_at hl 2 rfl) ?_
          refine lv_lload hx hb dX9_tryOne_88 (lv_at hl 6 rfl) ?_
          refine va_put (D := (dC, dI)) (ci := 9) (v := .long b3) (ty := .long) (C := RX9) (T := TX9) (N := 22) hx hb hts in_X9_tryOne_X9 tyX9 tyX9_ok nmX9 hown hK hP hD hS 0 rfl rfl 19 (by decide) (hts (.fieldLink RX9 131 "MeetingsAboveModel" "partUpper" "J") (by decide +kernel)) (fun _ h9 => h9) rfl (by decide +kernel) rfl rfl (Nat.le_of_ble_eq_true rfl) dX9_tryOne_90 (fun H locs hP hD hS => ?_)
          have hP : va_P (dC, dI) vwCl [(h0, .inr (9, [.int th, .ref a1, .ref a2, .ref a3, .ref a4, .ref a5, .int ne, .int wi, .int dn, .ref a6, .ref a7, .int nn, .ref a8, .int la, .ref a9, .ref a10, .long b1, .long b2, .int p5, .long b3, .long pw, .ref a11]))] H := hP
          have hD : va_D A [(h0, .inr (9, [.int th, .ref a1, .ref a2, .ref a3, .ref a4, .ref a5, .int ne, .int wi, .int dn, .ref a6, .ref a7, .int nn, .ref a8, .int la, .ref a9, .ref a10, .long b1, .long b2, .int p5, .long b3, .long pw, .ref a11]))] := hD
          refine lv_aload_n hx hb dX9_tryOne_93 rfl (lv_at hl 2 rfl) ?_
          refine lv_lload hx hb dX9_tryOne_94 (lv_at hl 7 rfl) ?_
          refine va_put (D := (dC, dI)) (ci := 9) (v := .long b4) (ty := .long) (C := RX9) (T := TX9) (N := 22) hx hb hts in_X9_tryOne_X9 tyX9 tyX9_ok nmX9 hown hK hP hD hS 0 rfl rfl 20 (by decide) (hts (.fieldLink RX9 134 "MeetingsAboveModel" "partLower" "J") (by decide +kernel)) (fun _ h9 => h9) rfl (by decide +kernel) rfl rfl (Nat.le_of_ble_eq_true rfl) dX9_tryOne_96 (fun H locs hP hD hS => ?_)
          have hP : va_P (dC, dI) vwCl [(h0, .inr (9, [.int th, .ref a1, .ref a2, .ref a3, .ref a4, .ref a5, .int ne, .int wi, .int dn, .ref a6, .ref a7, .int nn, .ref a8, .int la, .ref a9, .ref a10, .long b1, .long b2, .int p5, .long b3, .long b4, .ref a11]))] H := hP
          have hD : va_D A [(h0, .inr (9, [.int th, .ref a1, .ref a2, .ref a3, .ref a4, .ref a5, .int ne, .int wi, .int dn, .ref a6, .ref a7, .int nn, .ref a8, .int la, .ref a9, .ref a10, .long b1, .long b2, .int p5, .long b3, .long b4, .ref a11]))] := hD
          have hP9 := hP.sub (ws' := [(h0, .inr (9, [.int th, .ref a1, .ref a2, .ref a3, .ref a4, .ref a5, .int ne, .int wi, .int dn, .ref a6, .ref a7, .int nn, .ref a8, .int la, .ref a9, .ref a10, .long b1, .long b2, .int p5, .long b3, .long b4, .ref a11]))]) [0] rfl
          have hD9 := hD.sub (ws' := [(h0, .inr (9, [.int th, .ref a1, .ref a2, .ref a3, .ref a4, .ref a5, .int ne, .int wi, .int dn, .ref a6, .ref a7, .int nn, .ref a8, .int la, .ref a9, .ref a10, .long b1, .long b2, .int p5, .long b3, .long b4, .ref a11]))]) [0] (by decide) rfl
          have hK9 := hK.sub (tys' := []) [] rfl
          refine W.widen (k := 0) (n := 0) (by omega) (by omega) ?_
          exact W.vret hx hb hr (fun t ht hW => ⟨⟨(), rfl, trivial, b1, b2, p5, b3, b4, by rw [ht]; exact hP9, va_K.moved hW.alike hK9, hD9, (by omega), (by omega), (by omega)⟩, hS.F ht⟩) hS.2.2 dX9_tryOne_99
        · have t_63 := mt (fa_lt _ _).mpr c_63
          refine lv_iload hx hb dX9_tryOne_66 (lv_at hl 0 rfl) ?_
          refine lv_if_eq (tgt := 99) hx hb dX9_tryOne_68 (by decide) (fun h9 => absurd h9 (by decide)) (fun _ => ?_)
          refine lv_aload_n hx hb dX9_tryOne_71 rfl (lv_at hl 2 rfl) ?_
          refine lv_lload_n hx hb dX9_tryOne_72 rfl (lv_at hl 3 rfl) ?_
          refine va_put (D := (dC, dI)) (ci := 9) (v := .long b1) (ty := .long) (C := RX9) (T := TX9) (N := 22) hx hb hts in_X9_tryOne_X9 tyX9 tyX9_ok nmX9 hown hK hP hD hS 0 rfl rfl 16 (by decide) (hts (.fieldLink RX9 121 "MeetingsAboveModel" "upper" "J") (by decide +kernel)) (fun _ h9 => h9) rfl (by decide +kernel) rfl rfl (Nat.le_of_ble_eq_true rfl) dX9_tryOne_73 (fun H locs hP hD hS => ?_)
          have hP : va_P (dC, dI) vwCl [(h0, .inr (9, [.int th, .ref a1, .ref a2, .ref a3, .ref a4, .ref a5, .int ne, .int wi, .int dn, .ref a6, .ref a7, .int nn, .ref a8, .int la, .ref a9, .ref a10, .long b1, .long lw, .int wh, .long pu, .long pw, .ref a11]))] H := hP
          have hD : va_D A [(h0, .inr (9, [.int th, .ref a1, .ref a2, .ref a3, .ref a4, .ref a5, .int ne, .int wi, .int dn, .ref a6, .ref a7, .int nn, .ref a8, .int la, .ref a9, .ref a10, .long b1, .long lw, .int wh, .long pu, .long pw, .ref a11]))] := hD
          refine lv_aload_n hx hb dX9_tryOne_76 rfl (lv_at hl 2 rfl) ?_
          refine lv_lload_n hx hb dX9_tryOne_77 rfl (lv_at hl 4 rfl) ?_
          refine va_put (D := (dC, dI)) (ci := 9) (v := .long b2) (ty := .long) (C := RX9) (T := TX9) (N := 22) hx hb hts in_X9_tryOne_X9 tyX9 tyX9_ok nmX9 hown hK hP hD hS 0 rfl rfl 17 (by decide) (hts (.fieldLink RX9 125 "MeetingsAboveModel" "lower" "J") (by decide +kernel)) (fun _ h9 => h9) rfl (by decide +kernel) rfl rfl (Nat.le_of_ble_eq_true rfl) dX9_tryOne_78 (fun H locs hP hD hS => ?_)
          have hP : va_P (dC, dI) vwCl [(h0, .inr (9, [.int th, .ref a1, .ref a2, .ref a3, .ref a4, .ref a5, .int ne, .int wi, .int dn, .ref a6, .ref a7, .int nn, .ref a8, .int la, .ref a9, .ref a10, .long b1, .long b2, .int wh, .long pu, .long pw, .ref a11]))] H := hP
          have hD : va_D A [(h0, .inr (9, [.int th, .ref a1, .ref a2, .ref a3, .ref a4, .ref a5, .int ne, .int wi, .int dn, .ref a6, .ref a7, .int nn, .ref a8, .int la, .ref a9, .ref a10, .long b1, .long b2, .int wh, .long pu, .long pw, .ref a11]))] := hD
          refine lv_aload_n hx hb dX9_tryOne_81 rfl (lv_at hl 2 rfl) ?_
          refine lv_iload hx hb dX9_tryOne_82 (lv_at hl 5 rfl) ?_
          refine va_put (D := (dC, dI)) (ci := 9) (v := .int p5) (ty := .int) (C := RX9) (T := TX9) (N := 22) hx hb hts in_X9_tryOne_X9 tyX9 tyX9_ok nmX9 hown hK hP hD hS 0 rfl rfl 18 (by decide) (hts (.fieldLink RX9 128 "MeetingsAboveModel" "when" "I") (by decide +kernel)) (fun _ h9 => h9) rfl (by decide +kernel) rfl rfl (Nat.le_of_ble_eq_true rfl) dX9_tryOne_84 (fun H locs hP hD hS => ?_)
          have hP : va_P (dC, dI) vwCl [(h0, .inr (9, [.int th, .ref a1, .ref a2, .ref a3, .ref a4, .ref a5, .int ne, .int wi, .int dn, .ref a6, .ref a7, .int nn, .ref a8, .int la, .ref a9, .ref a10, .long b1, .long b2, .int p5, .long pu, .long pw, .ref a11]))] H := hP
          have hD : va_D A [(h0, .inr (9, [.int th, .ref a1, .ref a2, .ref a3, .ref a4, .ref a5, .int ne, .int wi, .int dn, .ref a6, .ref a7, .int nn, .ref a8, .int la, .ref a9, .ref a10, .long b1, .long b2, .int p5, .long pu, .long pw, .ref a11]))] := hD
          refine lv_aload_n hx hb dX9_tryOne_87 rfl (lv_at hl 2 rfl) ?_
          refine lv_lload hx hb dX9_tryOne_88 (lv_at hl 6 rfl) ?_
          refine va_put (D := (dC, dI)) (ci := 9) (v := .long b3) (ty := .long) (C := RX9) (T := TX9) (N := 22) hx hb hts in_X9_tryOne_X9 tyX9 tyX9_ok nmX9 hown hK hP hD hS 0 rfl rfl 19 (by decide) (hts (.fieldLink RX9 131 "MeetingsAboveModel" "partUpper" "J") (by decide +kernel)) (fun _ h9 => h9) rfl (by decide +kernel) rfl rfl (Nat.le_of_ble_eq_true rfl) dX9_tryOne_90 (fun H locs hP hD hS => ?_)
          have hP : va_P (dC, dI) vwCl [(h0, .inr (9, [.int th, .ref a1, .ref a2, .ref a3, .ref a4, .ref a5, .int ne, .int wi, .int dn, .ref a6, .ref a7, .int nn, .ref a8, .int la, .ref a9, .ref a10, .long b1, .long b2, .int p5, .long b3, .long pw, .ref a11]))] H := hP
          have hD : va_D A [(h0, .inr (9, [.int th, .ref a1, .ref a2, .ref a3, .ref a4, .ref a5, .int ne, .int wi, .int dn, .ref a6, .ref a7, .int nn, .ref a8, .int la, .ref a9, .ref a10, .long b1, .long b2, .int p5, .long b3, .long pw, .ref a11]))] := hD
          refine lv_aload_n hx hb dX9_tryOne_93 rfl (lv_at hl 2 rfl) ?_
          refine lv_lload hx hb dX9_tryOne_94 (lv_at hl 7 rfl) ?_
          refine va_put (D := (dC, dI)) (ci := 9) (v := .long b4) (ty := .long) (C := RX9) (T := TX9) (N := 22) hx hb hts in_X9_tryOne_X9 tyX9 tyX9_ok nmX9 hown hK hP hD hS 0 rfl rfl 20 (by decide) (hts (.fieldLink RX9 134 "MeetingsAboveModel" "partLower" "J") (by decide +kernel)) (fun _ h9 => h9) rfl (by decide +kernel) rfl rfl (Nat.le_of_ble_eq_true rfl) dX9_tryOne_96 (fun H locs hP hD hS => ?_)
          have hP : va_P (dC, dI) vwCl [(h0, .inr (9, [.int th, .ref a1, .ref a2, .ref a3, .ref a4, .ref a5, .int ne, .int wi, .int dn, .ref a6, .ref a7, .int nn, .ref a8, .int la, .ref a9, .ref a10, .long b1, .long b2, .int p5, .long b3, .long b4, .ref a11]))] H := hP
          have hD : va_D A [(h0, .inr (9, [.int th, .ref a1, .ref a2, .ref a3, .ref a4, .ref a5, .int ne, .int wi, .int dn, .ref a6, .ref a7, .int nn, .ref a8, .int la, .ref a9, .ref a10, .long b1, .long b2, .int p5, .long b3, .long b4, .ref a11]))] := hD
          have hP9 := hP.sub (ws' := [(h0, .inr (9, [.int th, .ref a1, .ref a2, .ref a3, .ref a4, .ref a5, .int ne, .int wi, .int dn, .ref a6, .ref a7, .int nn, .ref a8, .int la, .ref a9, .ref a10, .long b1, .long b2, .int p5, .long b3, .long b4, .ref a11]))]) [0] rfl
          have hD9 := hD.sub (ws' := [(h0, .inr (9, [.int th, .ref a1, .ref a2, .ref a3, .ref a4, .ref a5, .int ne, .int wi, .int dn, .ref a6, .ref a7, .int nn, .ref a8, .int la, .ref a9, .ref a10, .long b1, .long b2, .int p5, .long b3, .long b4, .ref a11]))]) [0] (by decide) rfl
          have hK9 := hK.sub (tys' := []) [] rfl
          refine W.widen (k := 0) (n := 0) (by omega) (by omega) ?_
          exact W.vret hx hb hr (fun t ht hW => ⟨⟨(), rfl, trivial, b1, b2, p5, b3, b4, by rw [ht]; exact hP9, va_K.moved hW.alike hK9, hD9, (by omega), (by omega), (by omega)⟩, hS.F ht⟩) hS.2.2 dX9_tryOne_99
def wk_X9_findLeast : List Cond := .code yX9_findLeast cX9_findLeast 16 none :: (([.fieldLink RX9 121 "MeetingsAboveModel" "upper" "J", .fieldLink RX9 125 "MeetingsAboveModel" "lower" "J", .fieldLink RX9 128 "MeetingsAboveModel" "when" "I"] : List Cond) ++ (wsX90 ++ ((wsV RX9 137 RX9 yX9_lastOf wk_X9_lastOf) ++ ((wsV RX9 140 RX9 yX9_firstOf wk_X9_firstOf) ++ ((wsV RX9 147 RX9 yX9_tryOne wk_X9_tryOne) ++ ((wsV RX9 143 RX9 yX9_apart wk_X9_apart) ++ ([])))))))
theorem in_X9_findLeast_X9 : ∀ w ∈ wsX90, w ∈ wk_X9_findLeast := fun _ h => List.mem_cons_of_mem _ (List.mem_append_right _ (List.mem_append_left _ h))
theorem gw_X9_findLeast : AG wk_X9_findLeast := AG_ca (AG_l (by decide +kernel)) (AG_app ag_X9 (AG_app (AG_V gw_X9_lastOf) (AG_app (AG_V gw_X9_firstOf) (AG_app (AG_V gw_X9_tryOne) (AG_app (AG_V gw_X9_apart) (AG_nil))))))
theorem g_X9_findLeast__X9_lastOf_137 : GoodIn wk_X9_findLeast (wsV RX9 137 RX9 yX9_lastOf wk_X9_lastOf) := goodIn_m (fun _ h => List.mem_cons_of_mem _ (List.mem_append_right _ (List.mem_append_right _ (List.mem_append_left _ h)))) (AG_V gw_X9_lastOf)
theorem g_X9_findLeast__X9_firstOf_140 : GoodIn wk_X9_findLeast (wsV RX9 140 RX9 yX9_firstOf wk_X9_firstOf) := goodIn_m (fun _ h => List.mem_cons_of_mem _ (List.mem_append_right _ (List.mem_append_right _ (List.mem_append_right _ (List.mem_append_left _ h))))) (AG_V gw_X9_firstOf)
theorem g_X9_findLeast__X9_tryOne_147 : GoodIn wk_X9_findLeast (wsV RX9 147 RX9 yX9_tryOne wk_X9_tryOne) := goodIn_m (fun _ h => List.mem_cons_of_mem _ (List.mem_append_right _ (List.mem_append_right _ (List.mem_append_right _ (List.mem_append_right _ (List.mem_append_left _ h)))))) (AG_V gw_X9_tryOne)
theorem g_X9_findLeast__X9_apart_143 : GoodIn wk_X9_findLeast (wsV RX9 143 RX9 yX9_apart wk_X9_apart) := goodIn_m (fun _ h => List.mem_cons_of_mem _ (List.mem_append_right _ (List.mem_append_right _ (List.mem_append_right _ (List.mem_append_right _ (List.mem_append_right _ (List.mem_append_left _ h))))))) (AG_V gw_X9_apart)
set_option maxHeartbeats 4000000 in
set_option maxRecDepth 100000 in
theorem c_X9_findLeast (l : Launch) (dC : Nat → ClassId) (dI : Nat → Nat → Nat) (h0 : Nat) (a1 : Nat) (a2 : Nat) (a3 : Nat) (a4 : Nat) (a5 : Nat) (a6 : Nat) (a7 : Nat) (a8 : Nat) (a9 : Nat) (a10 : Nat) (a11 : Nat) (th : Int32) (ne : Int32) (wi : Int32) (dn : Int32) (nn : Int32) (la : Int32) (wh : Int32) (up : Int64) (lw : Int64) (pu : Int64) (pw : Int64) (cI : ClassId) (Fi : Nat → Int32) (Ma : Nat → Int32) (Sp : Nat → Int32) (p1 : Int32) (p2 : Int32) (sz : Nat) (hM : mOK th Fi Ma) (hp10 : 0 ≤ p1.toInt) (hp11 : p1.toInt < th.toInt) (hp20 : 0 ≤ p2.toInt) (hp21 : p2.toInt < th.toInt) (hg1 : (Fi p1.toNatClampNeg).toInt < (Fi p2.toNatClampNeg).toInt + (Ma p2.toNatClampNeg).toInt) (hg2 : (Fi p2.toNatClampNeg).toInt < (Fi p1.toNatClampNeg).toInt + (Ma p1.toNatClampNeg).toInt) : Met l yX9_findLeast wk_X9_findLeast ({ frames := 2, cells := 0, slots := 0, locals := 47 }) (va_Pc [.ref h0, .int p1, .int p2] (fun U => U.heap.size = sz ∧ va_P (dC, dI) vwCl [(h0, .inr (9, [.int th, .ref a1, .ref a2, .ref a3, .ref a4, .ref a5, .int ne, .int wi, .int dn, .ref a6, .ref a7, .int nn, .ref a8, .int la, .ref a9, .ref a10, .long up, .long lw, .int wh, .long pu, .long pw, .ref a11])), (a1, .inl (cI, 16, .inl Fi)), (a2, .inl (cI, 16, .inl Ma)), (a5, .inl (cI, 576, .inl Sp))] U.heap ∧ va_K (dC, dI) vwCl [(cI, .int)] U ∧ va_D (fun _ => True) [(h0, .inr (9, [.int th, .ref a1, .ref a2, .ref a3, .ref a4, .ref a5, .int ne, .int wi, .int dn, .ref a6, .ref a7, .int nn, .ref a8, .int la, .ref a9, .ref a10, .long up, .long lw, .int wh, .long pu, .long pw, .ref a11])), (a1, .inl (cI, 16, .inl Fi)), (a2, .inl (cI, 16, .inl Ma)), (a5, .inl (cI, 576, .inl Sp))])) (va_Qv (fun (_ : Unit) => True) (fun (_ : Unit) (t : State) => ∃ (up9 : Int64) (lw9 : Int64) (wh9 : Int32) (pu9 : Int64) (pw9 : Int64), va_P (dC, dI) vwCl [(h0, .inr (9, [.int th, .ref a1, .ref a2, .ref a3, .ref a4, .ref a5, .int ne, .int wi, .int dn, .ref a6, .ref a7, .int nn, .ref a8, .int la, .ref a9, .ref a10, .long up9, .long lw9, .int wh9, .long pu9, .long pw9, .ref a11])), (a1, .inl (cI, 16, .inl Fi)), (a2, .inl (cI, 16, .inl Ma)), (a5, .inl (cI, 576, .inl Sp))] t.heap ∧ va_K (dC, dI) vwCl [(cI, .int)] t ∧ va_D (va_A [(h0, .inr (9, [.int th, .ref a1, .ref a2, .ref a3, .ref a4, .ref a5, .int ne, .int wi, .int dn, .ref a6, .ref a7, .int nn, .ref a8, .int la, .ref a9, .ref a10, .long up, .long lw, .int wh, .long pu, .long pw, .ref a11])), (a1, .inl (cI, 16, .inl Fi)), (a2, .inl (cI, 16, .inl Ma)), (a5, .inl (cI, 576, .inl Sp))] sz) [(h0, .inr (9, [.int th, .ref a1, .ref a2, .ref a3, .ref a4, .ref a5, .int ne, .int wi, .int dn, .ref a6, .ref a7, .int nn, .ref a8, .int la, .ref a9, .ref a10, .long up9, .long lw9, .int wh9, .long pu9, .long pw9, .ref a11])), (a1, .inl (cI, 16, .inl Fi)), (a2, .inl (cI, 16, .inl Ma)), (a5, .inl (cI, 576, .inl Sp))] ∧ 1 ≤ lw9.toInt ∧ 0 ≤ wh9.toInt ∧ 1 ≤ pw9.toInt) (va_A [(h0, .inr (9, [.int th, .ref a1, .ref a2, .ref a3, .ref a4, .ref a5, .int ne, .int wi, .int dn, .ref a6, .ref a7, .int nn, .ref a8, .int la, .ref a9, .ref a10, .long up, .long lw, .int wh, .long pu, .long pw, .ref a11])), (a1, .inl (cI, 16, .inl Fi)), (a2, .inl (cI, 16, .inl Ma)), (a5, .inl (cI, 576, .inl Sp))] sz)) 0 0 (va_A [(h0, .inr (9, [.int th, .ref a1, .ref a2, .ref a3, .ref a4, .ref a5, .int ne, .int wi, .int dn, .ref a6, .ref a7, .int nn, .ref a8, .int la, .ref a9, .ref a10, .long up, .long lw, .int wh, .long pu, .long pw, .ref a11])), (a1, .inl (cI, 16, .inl Fi)), (a2, .inl (cI, 16, .inl Ma)), (a5, .inl (cI, 576, .inl Sp))] sz) := by
  refine Met.ofW (cc := cX9_findLeast) (maxL := 16) (ret := none) (by decide) rfl ?_
  intro p e s m args below meth c s₁ B hml hv
  obtain ⟨rfl, hsz, hP, hK, hD0⟩ := hv
  have hx := B.exec
  have hb := B.bytes
  have hr := B.returns
  have hts := atoms_spec (ws := wk_X9_findLeast) B.pre
  have hown : s.vm.findClass RX9 = some m.cls := findClass_of_methodNamed B.named
  have hlocks := B.notSynchronized
  subst hsz
  have hD := hD0.self (sz := s.heap.size)
  generalize hAe : va_A [(h0, .inr (9, [.int th, .ref a1, .ref a2, .ref a3, .ref a4, .ref a5, .int ne, .int wi, .int dn, .ref a6, .ref a7, .int nn, .ref a8, .int la, .ref a9, .ref a10, .long up, .long lw, .int wh, .long pu, .long pw, .ref a11])), (a1, .inl (cI, 16, .inl Fi)), (a2, .inl (cI, 16, .inl Ma)), (a5, .inl (cI, 576, .inl Sp))] s.heap.size = A at hD ⊢
  have hA : ∀ q : Nat, s.heap.size ≤ q → A q := fun q h => by rw [← hAe]; exact Or.inr h
  have hS : va_S A s.heap s.heap [] := va_S.rf
  have hP : va_P (dC, dI) vwCl [(h0, .inr (9, [.int th, .ref a1, .ref a2, .ref a3, .ref a4, .ref a5, .int ne, .int wi, .int dn, .ref a6, .ref a7, .int nn, .ref a8, .int la, .ref a9, .ref a10, .long up, .long lw, .int wh, .long pu, .long pw, .ref a11])), (a1, .inl (cI, 16, .inl Fi)), (a2, .inl (cI, 16, .inl Ma)), (a5, .inl (cI, 576, .inl Sp))] s.heap := hP
  have hl := lv_entry ([.ref h0, .int p1, .int p2]) (n := 16) (Nat.le_of_ble_eq_true rfl)
  rw [lg_entry_eq]
  generalize (lg_sl ([.ref h0, .int p1, .int p2]) ++ List.replicate (16 - (lg_sl ([.ref h0, .int p1, .int p2])).length) Slot.unset).toArray = ls at hl ⊢
  have hl : lv_has ls 16 [(0, .ref h0), (1, .int p1), (2, .int p2)] := hl
  have kl_m1 : (-1 : Int32).toInt = -1 := by decide
  have kl_0 : (0 : Int32).toInt = 0 := by decide
  have kl_1 : (1 : Int32).toInt = 1 := by decide
  have kl_3 : (3 : Int32).toInt = 3 := by decide
  have klL_0 : (0 : Int64).toInt = 0 := by decide
  have klL_1 : (1 : Int64).toInt = 1 := by decide
  obtain ⟨hM0, hM1, hM2⟩ := id hM
  have np1 : ((p1.toNatClampNeg : Nat) : Int) = p1.toInt := tc_I (by omega)
  have bp1 := hM2 p1.toNatClampNeg (by omega)
  have np2 : ((p2.toNatClampNeg : Nat) : Int) = p2.toInt := tc_I (by omega)
  have bp2 := hM2 p2.toNatClampNeg (by omega)
  refine lv_aload_n hx hb dX9_findLeast_0 rfl (lv_at hl 0 rfl) ?_
  refine lv_lconst (v := 0) hx hb dX9_findLeast_1 (by decide) ?_
  refine va_put (D := (dC, dI)) (ci := 9) (v := .long 0) (ty := .long) (C := RX9) (T := TX9) (N := 22) hx hb hts in_X9_findLeast_X9 tyX9 tyX9_ok nmX9 hown hK hP hD hS 0 rfl rfl 16 (by decide) (hts (.fieldLink RX9 121 "MeetingsAboveModel" "upper" "J") (by decide +kernel)) (fun _ h9 => h9) rfl (by decide +kernel) rfl rfl (Nat.le_of_ble_eq_true rfl) dX9_findLeast_2 (fun H locs hP hD hS => ?_)
  have hP : va_P (dC, dI) vwCl [(h0, .inr (9, [.int th, .ref a1, .ref a2, .ref a3, .ref a4, .ref a5, .int ne, .int wi, .int dn, .ref a6, .ref a7, .int nn, .ref a8, .int la, .ref a9, .ref a10, .long 0, .long lw, .int wh, .long pu, .long pw, .ref a11])), (a1, .inl (cI, 16, .inl Fi)), (a2, .inl (cI, 16, .inl Ma)), (a5, .inl (cI, 576, .inl Sp))] H := hP
  have hD : va_D A [(h0, .inr (9, [.int th, .ref a1, .ref a2, .ref a3, .ref a4, .ref a5, .int ne, .int wi, .int dn, .ref a6, .ref a7, .int nn, .ref a8, .int la, .ref a9, .ref a10, .long 0, .long lw, .int wh, .long pu, .long pw, .ref a11])), (a1, .inl (cI, 16, .inl Fi)), (a2, .inl (cI, 16, .inl Ma)), (a5, .inl (cI, 576, .inl Sp))] := hD
  refine lv_aload_n hx hb dX9_findLeast_5 rfl (lv_at hl 0 rfl) ?_
  refine lv_lconst (v := 1) hx hb dX9_findLeast_6 (by decide) ?_
  refine va_put (D := (dC, dI)) (ci := 9) (v := .long 1) (ty := .long) (C := RX9) (T := TX9) (N := 22) hx hb hts in_X9_findLeast_X9 tyX9 tyX9_ok nmX9 hown hK hP hD hS 0 rfl rfl 17 (by decide) (hts (.fieldLink RX9 125 "MeetingsAboveModel" "lower" "J") (by decide +kernel)) (fun _ h9 => h9) rfl (by decide +kernel) rfl rfl (Nat.le_of_ble_eq_true rfl) dX9_findLeast_7 (fun H locs hP hD hS => ?_)
  have hP : va_P (dC, dI) vwCl [(h0, .inr (9, [.int th, .ref a1, .ref a2, .ref a3, .ref a4, .ref a5, .int ne, .int wi, .int dn, .ref a6, .ref a7, .int nn, .ref a8, .int la, .ref a9, .ref a10, .long 0, .long 1, .int wh, .long pu, .long pw, .ref a11])), (a1, .inl (cI, 16, .inl Fi)), (a2, .inl (cI, 16, .inl Ma)), (a5, .inl (cI, 576, .inl Sp))] H := hP
  have hD : va_D A [(h0, .inr (9, [.int th, .ref a1, .ref a2, .ref a3, .ref a4, .ref a5, .int ne, .int wi, .int dn, .ref a6, .ref a7, .int nn, .ref a8, .int la, .ref a9, .ref a10, .long 0, .long 1, .int wh, .long pu, .long pw, .ref a11])), (a1, .inl (cI, 16, .inl Fi)), (a2, .inl (cI, 16, .inl Ma)), (a5, .inl (cI, 576, .inl Sp))] := hD
  refine lv_aload_n hx hb dX9_findLeast_10 rfl (lv_at hl 0 rfl) ?_
  refine lv_iconst (v := (-1)) hx hb dX9_findLeast_11 (by decide) ?_
  refine va_put (D := (dC, dI)) (ci := 9) (v := .int (-1)) (ty := .int) (C := RX9) (T := TX9) (N := 22) hx hb hts in_X9_findLeast_X9 tyX9 tyX9_ok nmX9 hown hK hP hD hS 0 rfl rfl 18 (by decide) (hts (.fieldLink RX9 128 "MeetingsAboveModel" "when" "I") (by decide +kernel)) (fun _ h9 => h9) rfl (by decide +kernel) rfl rfl (Nat.le_of_ble_eq_true rfl) dX9_findLeast_12 (fun H locs hP hD hS => ?_)
  have hP : va_P (dC, dI) vwCl [(h0, .inr (9, [.int th, .ref a1, .ref a2, .ref a3, .ref a4, .ref a5, .int ne, .int wi, .int dn, .ref a6, .ref a7, .int nn, .ref a8, .int la, .ref a9, .ref a10, .long 0, .long 1, .int (-1), .long pu, .long pw, .ref a11])), (a1, .inl (cI, 16, .inl Fi)), (a2, .inl (cI, 16, .inl Ma)), (a5, .inl (cI, 576, .inl Sp))] H := hP
  have hD : va_D A [(h0, .inr (9, [.int th, .ref a1, .ref a2, .ref a3, .ref a4, .ref a5, .int ne, .int wi, .int dn, .ref a6, .ref a7, .int nn, .ref a8, .int la, .ref a9, .ref a10, .long 0, .long 1, .int (-1), .long pu, .long pw, .ref a11])), (a1, .inl (cI, 16, .inl Fi)), (a2, .inl (cI, 16, .inl Ma)), (a5, .inl (cI, 576, .inl Sp))] := hD
  refine lv_aload_n hx hb dX9_findLeast_15 rfl (lv_at hl 0 rfl) ?_
  refine lv_iload_n hx hb dX9_findLeast_16 rfl (lv_at hl 1 rfl) ?_
  refine lv_iload_n hx hb dX9_findLeast_17 rfl (lv_at hl 2 rfl) ?_
  have hPc := hP.sub (ws' := [(h0, .inr (9, [.int th, .ref a1, .ref a2, .ref a3, .ref a4, .ref a5, .int ne, .int wi, .int dn, .ref a6, .ref a7, .int nn, .ref a8, .int la, .ref a9, .ref a10, .long 0, .long 1, .int (-1), .long pu, .long pw, .ref a11])), (a1, .inl (cI, 16, .inl Fi)), (a2, .inl (cI, 16, .inl Ma))]) [0, 1, 2] rfl
  have hKc := hK.sub (tys' := [(cI, .int)]) [0] rfl
  refine vp_callSi (W.runV (As := [.int p1, .int p2]) (rest := []) ⟨hx, hb, hml, hown, hts⟩ (c_X9_lastOf l dC dI h0 a1 a2 a3 a4 a5 a6 a7 a8 a9 a10 a11 th ne wi dn nn la (-1) 0 1 pu pw cI Fi Ma p1 p2 (by first | assumption | omega) (by first | omega | assumption) (by first | omega | assumption) (by first | omega | assumption) (by first | omega | assumption)) (cwV 2 hts g_X9_findLeast__X9_lastOf_137 rfl rfl rfl (by decide +kernel) ⟨Nat.le_of_ble_eq_true rfl, Nat.le_of_ble_eq_true rfl⟩) ⟨fun a U g mk q => by obtain ⟨q0, qP, qK⟩ := q; exact ⟨q0, qP, va_K.moved (u := U) (U := U.calling g mk a) (Vm.Alike.refl U.vm) qK⟩, va_recv hKc hPc (ci := 9) (q0 := 0) rfl rfl, fun U hU hW => ⟨rfl, by rw [hU]; exact hPc, va_K.moved hW.alike hKc⟩⟩ rfl rfl hl.1 rfl (lv_room (Nat.le_of_ble_eq_true rfl)) dX9_findLeast_18 ⟨Nat.le_of_ble_eq_true rfl, Nat.le_of_ble_eq_true rfl⟩) (fun r_1 hr_1 => ?_)
  try dsimp only at hr_1
  refine lv_istore_n (lv' := [(3, .int r_1), (0, .ref h0), (1, .int p1), (2, .int p2)]) hx hb dX9_findLeast_21 rfl hl (by decide) rfl (fun ls hl => ?_)
  refine lv_aload_n hx hb dX9_findLeast_22 rfl (lv_at hl 1 rfl) ?_
  refine lv_iload_n hx hb dX9_findLeast_23 rfl (lv_at hl 2 rfl) ?_
  refine lv_iload_n hx hb dX9_findLeast_24 rfl (lv_at hl 3 rfl) ?_
  have hPc := hP.sub (ws' := [(h0, .inr (9, [.int th, .ref a1, .ref a2, .ref a3, .ref a4, .ref a5, .int ne, .int wi, .int dn, .ref a6, .ref a7, .int nn, .ref a8, .int la, .ref a9, .ref a10, .long 0, .long 1, .int (-1), .long pu, .long pw, .ref a11])), (a1, .inl (cI, 16, .inl Fi))]) [0, 1] rfl
  have hKc := hK.sub (tys' := [(cI, .int)]) [0] rfl
  refine vp_callSi (W.runV (As := [.int p1, .int p2]) (rest := []) ⟨hx, hb, hml, hown, hts⟩ (c_X9_firstOf l dC dI Ma h0 a1 a2 a3 a4 a5 a6 a7 a8 a9 a10 a11 th ne wi dn nn la (-1) 0 1 pu pw cI Fi p1 p2 (by first | assumption | omega) (by first | omega | assumption) (by first | omega | assumption) (by first | omega | assumption) (by first | omega | assumption)) (cwV 2 hts g_X9_findLeast__X9_firstOf_140 rfl rfl rfl (by decide +kernel) ⟨Nat.le_of_ble_eq_true rfl, Nat.le_of_ble_eq_true rfl⟩) ⟨fun a U g mk q => by obtain ⟨q0, qP, qK⟩ := q; exact ⟨q0, qP, va_K.moved (u := U) (U := U.calling g mk a) (Vm.Alike.refl U.vm) qK⟩, va_recv hKc hPc (ci := 9) (q0 := 0) rfl rfl, fun U hU hW => ⟨rfl, by rw [hU]; exact hPc, va_K.moved hW.alike hKc⟩⟩ rfl rfl hl.1 rfl (lv_room (Nat.le_of_ble_eq_true rfl)) dX9_findLeast_25 ⟨Nat.le_of_ble_eq_true rfl, Nat.le_of_ble_eq_true rfl⟩) (fun r_2 hr_2 => ?_)
  try dsimp only at hr_2
  refine lv_istore (lv' := [(4, .int r_2), (3, .int r_1), (0, .ref h0), (1, .int p1), (2, .int p2)]) hx hb dX9_findLeast_28 hl (by decide) rfl (fun ls hl => ?_)
  refine (show ∀ (k : Nat) (kk : Int32) (uq : Int64) (lq : Int64) (wq : Int32) (pq : Int64) (dq : Int64) (hk0 : r_2.toInt ≤ kk.toInt) (hk1 : kk.toInt ≤ r_1.toInt + 1) (hlq : 1 ≤ lq.toInt) (hwq : 0 ≤ wq.toInt → 1 ≤ dq.toInt) (hkw : r_2.toInt < kk.toInt → 0 ≤ wq.toInt) (hk_30 : (r_1.toInt + 1 - kk.toInt).toNat < k) (H : Heap) (locs : List Loc) (hP : va_P (dC, dI) vwCl [(h0, .inr (9, [.int th, .ref a1, .ref a2, .ref a3, .ref a4, .ref a5, .int ne, .int wi, .int dn, .ref a6, .ref a7, .int nn, .ref a8, .int la, .ref a9, .ref a10, .long uq, .long lq, .int wq, .long pq, .long dq, .ref a11])), (a1, .inl (cI, 16, .inl Fi)), (a2, .inl (cI, 16, .inl Ma)), (a5, .inl (cI, 576, .inl Sp))] H) (hD : va_D A [(h0, .inr (9, [.int th, .ref a1, .ref a2, .ref a3, .ref a4, .ref a5, .int ne, .int wi, .int dn, .ref a6, .ref a7, .int nn, .ref a8, .int la, .ref a9, .ref a10, .long uq, .long lq, .int wq, .long pq, .long dq, .ref a11])), (a1, .inl (cI, 16, .inl Fi)), (a2, .inl (cI, 16, .inl Ma)), (a5, .inl (cI, 576, .inl Sp))]) (hS : va_S A s.heap H locs) (ls : Array Slot) (hl : lv_has ls 16 [(0, .ref h0), (1, .int p1), (2, .int p2), (3, .int r_1), (4, .int kk)]), W p l e _ s m _ below meth c H locs 0 0 _ (F0 m 30 ls []) from ?_) _ r_2 0 1 (-1) pu pw (by omega) (by omega) (by omega) (by omega) (by omega) (Nat.lt_succ_self _) H _ hP hD hS ls (lv_sub hl [2, 3, 4, 1, 0] rfl)
  intro k
  induction k with
  | zero => intro kk uq lq wq pq dq hk0 hk1 hlq hwq hkw hk_30; exact absurd hk_30 (Nat.not_lt_zero _)
  | succ k ih_30 =>
    intro kk uq lq wq pq dq hk0 hk1 hlq hwq hkw hk_30 H locs hP hD hS ls hl
    refine lv_iload hx hb dX9_findLeast_30 (lv_at hl 4 rfl) ?_
    refine lv_iload_n hx hb dX9_findLeast_32 rfl (lv_at hl 3 rfl) ?_
    refine lv_icmp_gt (tgt := 184) hx hb dX9_findLeast_33 (by decide) (fun c_33 => ?_) (fun c_33 => ?_)
    · have t_33 := (fa_lt _ _).mp c_33
      have hP9 := hP.sub (ws' := [(h0, .inr (9, [.int th, .ref a1, .ref a2, .ref a3, .ref a4, .ref a5, .int ne, .int wi, .int dn, .ref a6, .ref a7, .int nn, .ref a8, .int la, .ref a9, .ref a10, .long uq, .long lq, .int wq, .long pq, .long dq, .ref a11])), (a1, .inl (cI, 16, .inl Fi)), (a2, .inl (cI, 16, .inl Ma)), (a5, .inl (cI, 576, .inl Sp))]) [0, 1, 2, 3] rfl
      have hD9 := hD.sub (ws' := [(h0, .inr (9, [.int th, .ref a1, .ref a2, .ref a3, .ref a4, .ref a5, .int ne, .int wi, .int dn, .ref a6, .ref a7, .int nn, .ref a8, .int la, .ref a9, .ref a10, .long uq, .long lq, .int wq, .long pq, .long dq, .ref a11])), (a1, .inl (cI, 16, .inl Fi)), (a2, .inl (cI, 16, .inl Ma)), (a5, .inl (cI, 576, .inl Sp))]) [0, 1, 2, 3] (by decide) rfl
      have hK9 := hK.sub (tys' := [(cI, .int)]) [0] rfl
      refine W.widen (k := 0) (n := 0) (by omega) (by omega) ?_
      exact W.vret hx hb hr (fun t ht hW => ⟨⟨(), rfl, trivial, uq, lq, wq, pq, dq, by rw [ht]; exact hP9, va_K.moved hW.alike hK9, hD9, (by omega), (by omega), (by omega)⟩, hS.F ht⟩) hS.2.2 dX9_findLeast_184
    · have t_33 := mt (fa_lt _ _).mpr c_33
      refine lv_lconst (v := 0) hx hb dX9_findLeast_36 (by decide) ?_
      refine lv_lstore (lv' := [(5, .long 0), (0, .ref h0), (1, .int p1), (2, .int p2), (3, .int r_1), (4, .int kk)]) hx hb dX9_findLeast_37 hl (by decide) rfl (fun ls hl => ?_)
      refine lv_lconst (v := 0) hx hb dX9_findLeast_39 (by decide) ?_
      refine lv_lstore (lv' := [(7, .long 0), (5, .long 0), (0, .ref h0), (1, .int p1), (2, .int p2), (3, .int r_1), (4, .int kk)]) hx hb dX9_findLeast_40 hl (by decide) rfl (fun ls hl => ?_)
      refine lv_lconst (v := 0) hx hb dX9_findLeast_42 (by decide) ?_
      refine lv_lstore (lv' := [(9, .long 0), (7, .long 0), (5, .long 0), (0, .ref h0), (1, .int p1), (2, .int p2), (3, .int r_1), (4, .int kk)]) hx hb dX9_findLeast_43 hl (by decide) rfl (fun ls hl => ?_)
      refine lv_iconst (v := 0) hx hb dX9_findLeast_45 (by decide) ?_
      refine lv_istore (lv' := [(11, .int 0), (9, .long 0), (7, .long 0), (5, .long 0), (0, .ref h0), (1, .int p1), (2, .int p2), (3, .int r_1), (4, .int kk)]) hx hb dX9_findLeast_46 hl (by decide) rfl (fun ls hl => ?_)
      refine (show ∀ (k : Nat) (z5 : Int64) (z7 : Int64) (z9 : Int64) (ax : Int32) (ha0 : 0 ≤ ax.toInt) (ha1 : ax.toInt ≤ 3) (hk_48 : (3 - ax.toInt).toNat < k) (H : Heap) (locs : List Loc) (hP : va_P (dC, dI) vwCl [(h0, .inr (9, [.int th, .ref a1, .ref a2, .ref a3, .ref a4, .ref a5, .int ne, .int wi, .int dn, .ref a6, .ref a7, .int nn, .ref a8, .int la, .ref a9, .ref a10, .long uq, .long lq, .int wq, .long pq, .long dq, .ref a11])), (a1, .inl (cI, 16, .inl Fi)), (a2, .inl (cI, 16, .inl Ma)), (a5, .inl (cI, 576, .inl Sp))] H) (hD : va_D A [(h0, .inr (9, [.int th, .ref a1, .ref a2, .ref a3, .ref a4, .ref a5, .int ne, .int wi, .int dn, .ref a6, .ref a7, .int nn, .ref a8, .int la, .ref a9, .ref a10, .long uq, .long lq, .int wq, .long pq, .long dq, .ref a11])), (a1, .inl (cI, 16, .inl Fi)), (a2, .inl (cI, 16, .inl Ma)), (a5, .inl (cI, 576, .inl Sp))]) (hS : va_S A s.heap H locs) (ls : Array Slot) (hl : lv_has ls 16 [(0, .ref h0), (1, .int p1), (2, .int p2), (3, .int r_1), (4, .int kk), (5, .long z5), (7, .long z7), (9, .long z9), (11, .int ax)]), W p l e _ s m _ below meth c H locs 0 0 _ (F0 m 48 ls []) from ?_) _ 0 0 0 0 (by omega) (by omega) (Nat.lt_succ_self _) H _ hP hD hS ls (lv_sub hl [4, 5, 6, 7, 8, 3, 2, 1, 0] rfl)
      intro k
      induction k with
      | zero => intro z5 z7 z9 ax ha0 ha1 hk_48; exact absurd hk_48 (Nat.not_lt_zero _)
      | succ k ih_48 =>
        intro z5 z7 z9 ax ha0 ha1 hk_48 H locs hP hD hS ls hl
        refine lv_iload hx hb dX9_findLeast_48 (lv_at hl 8 rfl) ?_
        refine lv_iconst (v := 3) hx hb dX9_findLeast_50 (by decide) ?_
        refine lv_icmp_ge (tgt := 129) hx hb dX9_findLeast_51 (by decide) (fun c_51 => ?_) (fun c_51 => ?_)
        · have t_51 := (fa_le _ _).mp c_51
          refine lv_aload_n hx hb dX9_findLeast_129 rfl (lv_at hl 0 rfl) ?_
          refine lv_lload hx hb dX9_findLeast_130 (lv_at hl 5 rfl) ?_
          refine lv_lconst (v := 1) hx hb dX9_findLeast_132 (by decide) ?_
          refine lv_iload hx hb dX9_findLeast_133 (lv_at hl 4 rfl) ?_
          refine lv_lconst (v := 0) hx hb dX9_findLeast_135 (by decide) ?_
          refine lv_lconst (v := 1) hx hb dX9_findLeast_136 (by decide) ?_
          have hPc := hP.sub (ws' := [(h0, .inr (9, [.int th, .ref a1, .ref a2, .ref a3, .ref a4, .ref a5, .int ne, .int wi, .int dn, .ref a6, .ref a7, .int nn, .ref a8, .int la, .ref a9, .ref a10, .long uq, .long lq, .int wq, .long pq, .long dq, .ref a11]))]) [0] rfl
          have hKc := hK.sub (tys' := []) [] rfl
          have hDc := hD.sub (ws' := [(h0, .inr (9, [.int th, .ref a1, .ref a2, .ref a3, .ref a4, .ref a5, .int ne, .int wi, .int dn, .ref a6, .ref a7, .int nn, .ref a8, .int la, .ref a9, .ref a10, .long uq, .long lq, .int wq, .long pq, .long dq, .ref a11]))]) [0] (by decide) rfl
          have hFc := va_free (wc := [(h0, .inr (9, [.int th, .ref a1, .ref a2, .ref a3, .ref a4, .ref a5, .int ne, .int wi, .int dn, .ref a6, .ref a7, .int nn, .ref a8, .int la, .ref a9, .ref a10, .long uq, .long lq, .int wq, .long pq, .long dq, .ref a11]))]) hD hS hA [0] rfl
          refine va_callv (va_runV (As := [.long z5, .long 1, .int kk, .long 0, .long 1]) (rest := []) ⟨hx, hb, hml, hown, hts⟩ (c_X9_tryOne l dC dI h0 a1 a2 a3 a4 a5 a6 a7 a8 a9 a10 a11 th ne wi dn nn la wq uq lq pq dq z5 1 kk 0 1 H.size (by first | omega | assumption) (by first | omega | assumption) (by first | omega | assumption) (by first | omega | assumption) (by first | assumption | omega)) (cwV 5 hts g_X9_findLeast__X9_tryOne_147 rfl rfl rfl (by decide +kernel) ⟨Nat.le_of_ble_eq_true rfl, Nat.le_of_ble_eq_true rfl⟩) ⟨fun a U g mk q => by obtain ⟨q0, q1, qP, qK, qD⟩ := q; exact ⟨q0, q1, qP, va_K.moved (u := U) (U := U.calling g mk a) (Vm.Alike.refl U.vm) qK, qD⟩, va_recv hKc hPc (ci := 9) (q0 := 0) rfl rfl, fun U hU hW => ⟨rfl, by rw [hU], by rw [hU]; exact hPc, va_K.moved hW.alike hKc, hDc.weaken (fun _ _ _ _ => trivial)⟩⟩ rfl rfl hl.1 rfl (lv_room (Nat.le_of_ble_eq_true rfl)) dX9_findLeast_137 ⟨Nat.le_of_ble_eq_true rfl, Nat.le_of_ble_eq_true rfl⟩) hS (fun q _ h => hFc q h) hFc (fun u_3 t H1 locs ht hvm hw_4 hB hz1 hk1 hS => ?_)
          obtain ⟨up9_5, lw9_6, wh9_7, pu9_8, pw9_9, hP1, hK1, hD1, hlw9_10, hwh9_11, hpw9_12⟩ := hB
          rw [ht] at hP1
          have hK1 := va_K.moved hvm.symm hK1
          obtain ⟨hP, hD⟩ := va_join (wr := [(a1, .inl (cI, 16, .inl Fi)), (a2, .inl (cI, 16, .inl Ma)), (a5, .inl (cI, 576, .inl Sp))]) (w1 := [(h0, .inr (9, [.int th, .ref a1, .ref a2, .ref a3, .ref a4, .ref a5, .int ne, .int wi, .int dn, .ref a6, .ref a7, .int nn, .ref a8, .int la, .ref a9, .ref a10, .long up9_5, .long lw9_6, .int wh9_7, .long pu9_8, .long pw9_9, .ref a11]))]) hP hD [0] [1, 2, 3] rfl rfl (by decide) (by decide) hk1 hFc hP1 hD1
          have hK := (hK.sub (tys' := [(cI, .int)]) [0] rfl).app hK1
          generalize H1 = H at hP hS ⊢
          have hP : va_P (dC, dI) vwCl [(a1, .inl (cI, 16, .inl Fi)), (a2, .inl (cI, 16, .inl Ma)), (a5, .inl (cI, 576, .inl Sp)), (h0, .inr (9, [.int th, .ref a1, .ref a2, .ref a3, .ref a4, .ref a5, .int ne, .int wi, .int dn, .ref a6, .ref a7, .int nn, .ref a8, .int la, .ref a9, .ref a10, .long up9_5, .long lw9_6, .int wh9_7, .long pu9_8, .long pw9_9, .ref a11]))] H := hP
          have hD : va_D A [(a1, .inl (cI, 16, .inl Fi)), (a2, .inl (cI, 16, .inl Ma)), (a5, .inl (cI, 576, .inl Sp)), (h0, .inr (9, [.int th, .ref a1, .ref a2, .ref a3, .ref a4, .ref a5, .int ne, .int wi, .int dn, .ref a6, .ref a7, .int nn, .ref a8, .int la, .ref a9, .ref a10, .long up9_5, .long lw9_6, .int wh9_7, .long pu9_8, .long pw9_9, .ref a11]))] := hD
          have hK : va_K (dC, dI) vwCl [(cI, .int)] s := hK
          refine W.widen (k := 0) (n := 0) (by omega) (by omega) ?_
          refine lv_lload hx hb dX9_findLeast_140 (lv_at hl 6 rfl) ?_
          refine lv_lconst (v := 0) hx hb dX9_findLeast_142 (by decide) ?_
          refine W.lcmp hx hb dX9_findLeast_143 ?_
          refine lv_if_le (tgt := 178) hx hb dX9_findLeast_144 (by decide) (fun c_144 => ?_) (fun c_144 => ?_)
          · have t_144 := (fa_le64 _ _).mp ((lg_cmp_le _ _).mp c_144)
            obtain ⟨y_13, ey_13⟩ : ∃ y : Int32, y = kk + 1 := ⟨_, rfl⟩
            have ty_13 : y_13.toInt = kk.toInt + 1 := by rw [ey_13]; have := fb_addI (x := kk) (y := 1) (by omega) (by omega); omega
            refine lv_iinc (v := y_13) (lv' := [(4, .int y_13), (0, .ref h0), (1, .int p1), (2, .int p2), (3, .int r_1), (5, .long z5), (7, .long z7), (9, .long z9), (11, .int ax)]) hx hb dX9_findLeast_178 hl (k := 4) rfl (by rw [ey_13]; rfl) (by decide) rfl (fun ls hl => ?_)
            refine lv_goto (tgt := 30) hx hb dX9_findLeast_181 (by decide) ?_
            exact ih_30 y_13 up9_5 lw9_6 wh9_7 pu9_8 pw9_9 (by omega) (by omega) (by omega) (by omega) (by omega) (by omega) H _ (hP.sub [3, 0, 1, 2] rfl) (hD.sub [3, 0, 1, 2] (by decide) rfl) hS ls (lv_sub hl [1, 2, 3, 4, 0] rfl)
          · have t_144 := mt (fa_le64 _ _).mpr (mt (lg_cmp_le _ _).mpr c_144)
            refine lv_lload hx hb dX9_findLeast_147 (lv_at hl 6 rfl) ?_
            refine lv_lload hx hb dX9_findLeast_149 (lv_at hl 7 rfl) ?_
            refine W.lcmp hx hb dX9_findLeast_151 ?_
            refine lv_if_ge (tgt := 178) hx hb dX9_findLeast_152 (by decide) (fun c_152 => ?_) (fun c_152 => ?_)
            · have t_152 := (fa_le64 _ _).mp ((lg_cmp_ge _ _).mp c_152)
              obtain ⟨y_14, ey_14⟩ : ∃ y : Int32, y = kk + 1 := ⟨_, rfl⟩
              have ty_14 : y_14.toInt = kk.toInt + 1 := by rw [ey_14]; have := fb_addI (x := kk) (y := 1) (by omega) (by omega); omega
              refine lv_iinc (v := y_14) (lv' := [(4, .int y_14), (0, .ref h0), (1, .int p1), (2, .int p2), (3, .int r_1), (5, .long z5), (7, .long z7), (9, .long z9), (11, .int ax)]) hx hb dX9_findLeast_178 hl (k := 4) rfl (by rw [ey_14]; rfl) (by decide) rfl (fun ls hl => ?_)
              refine lv_goto (tgt := 30) hx hb dX9_findLeast_181 (by decide) ?_
              exact ih_30 y_14 up9_5 lw9_6 wh9_7 pu9_8 pw9_9 (by omega) (by omega) (by omega) (by omega) (by omega) (by omega) H _ (hP.sub [3, 0, 1, 2] rfl) (hD.sub [3, 0, 1, 2] (by decide) rfl) hS ls (lv_sub hl [1, 2, 3, 4, 0] rfl)
            · have t_152 := mt (fa_le64 _ _).mpr (mt (lg_cmp_ge _ _).mpr c_152)
              refine lv_aload_n hx hb dX9_findLeast_155 rfl (lv_at hl 0 rfl) ?_
              refine lv_lload hx hb dX9_findLeast_156 (lv_at hl 5 rfl) ?_
              refine lv_lload hx hb dX9_findLeast_158 (lv_at hl 7 rfl) ?_
              refine lv_lmul hx hb dX9_findLeast_160 ?_
              refine lv_topl (fun y_15 ey_15 => ?_)
              refine lv_lload hx hb dX9_findLeast_161 (lv_at hl 6 rfl) ?_
              refine lv_lload hx hb dX9_findLeast_163 (lv_at hl 6 rfl) ?_
              refine lv_lmul hx hb dX9_findLeast_165 ?_
              refine lv_topl (fun y_16 ey_16 => ?_)
              refine lv_lsub hx hb dX9_findLeast_166 ?_
              refine lv_topl (fun y_17 ey_17 => ?_)
              refine lv_lload hx hb dX9_findLeast_167 (lv_at hl 7 rfl) ?_
              refine lv_iload hx hb dX9_findLeast_169 (lv_at hl 4 rfl) ?_
              refine lv_lload hx hb dX9_findLeast_171 (lv_at hl 6 rfl) ?_
              refine lv_lload hx hb dX9_findLeast_173 (lv_at hl 7 rfl) ?_
              have hPc := hP.sub (ws' := [(h0, .inr (9, [.int th, .ref a1, .ref a2, .ref a3, .ref a4, .ref a5, .int ne, .int wi, .int dn, .ref a6, .ref a7, .int nn, .ref a8, .int la, .ref a9, .ref a10, .long up9_5, .long lw9_6, .int wh9_7, .long pu9_8, .long pw9_9, .ref a11]))]) [3] rfl
              have hKc := hK.sub (tys' := []) [] rfl
              have hDc := hD.sub (ws' := [(h0, .inr (9, [.int th, .ref a1, .ref a2, .ref a3, .ref a4, .ref a5, .int ne, .int wi, .int dn, .ref a6, .ref a7, .int nn, .ref a8, .int la, .ref a9, .ref a10, .long up9_5, .long lw9_6, .int wh9_7, .long pu9_8, .long pw9_9, .ref a11]))]) [3] (by decide) rfl
              have hFc := va_free (wc := [(h0, .inr (9, [.int th, .ref a1, .ref a2, .ref a3, .ref a4, .ref a5, .int ne, .int wi, .int dn, .ref a6, .ref a7, .int nn, .ref a8, .int la, .ref a9, .ref a10, .long up9_5, .long lw9_6, .int wh9_7, .long pu9_8, .long pw9_9, .ref a11]))]) hD hS hA [3] rfl
              refine va_callv (va_runV (As := [.long y_17, .long z9, .int kk, .long z7, .long z9]) (rest := []) ⟨hx, hb, hml, hown, hts⟩ (c_X9_tryOne l dC dI h0 a1 a2 a3 a4 a5 a6 a7 a8 a9 a10 a11 th ne wi dn nn la wh9_7 up9_5 lw9_6 pu9_8 pw9_9 y_17 z9 kk z7 z9 H.size (by first | omega | assumption) (by first | omega | assumption) (by first | omega | assumption) (by first | omega | assumption) (by first | assumption | omega)) (cwV 5 hts g_X9_findLeast__X9_tryOne_147 rfl rfl rfl (by decide +kernel) ⟨Nat.le_of_ble_eq_true rfl, Nat.le_of_ble_eq_true rfl⟩) ⟨fun a U g mk q => by obtain ⟨q0, q1, qP, qK, qD⟩ := q; exact ⟨q0, q1, qP, va_K.moved (u := U) (U := U.calling g mk a) (Vm.Alike.refl U.vm) qK, qD⟩, va_recv hKc hPc (ci := 9) (q0 := 0) rfl rfl, fun U hU hW => ⟨rfl, by rw [hU], by rw [hU]; exact hPc, va_K.moved hW.alike hKc, hDc.weaken (fun _ _ _ _ => trivial)⟩⟩ rfl rfl hl.1 rfl (lv_room (Nat.le_of_ble_eq_true rfl)) dX9_findLeast_175 ⟨Nat.le_of_ble_eq_true rfl, Nat.le_of_ble_eq_true rfl⟩) hS (fun q _ h => hFc q h) hFc (fun u_18 t H1 locs ht hvm hw_19 hB hz1 hk1 hS => ?_)
              obtain ⟨up9_20, lw9_21, wh9_22, pu9_23, pw9_24, hP1, hK1, hD1, hlw9_25, hwh9_26, hpw9_27⟩ := hB
              rw [ht] at hP1
              have hK1 := va_K.moved hvm.symm hK1
              obtain ⟨hP, hD⟩ := va_join (wr := [(a1, .inl (cI, 16, .inl Fi)), (a2, .inl (cI, 16, .inl Ma)), (a5, .inl (cI, 576, .inl Sp))]) (w1 := [(h0, .inr (9, [.int th, .ref a1, .ref a2, .ref a3, .ref a4, .ref a5, .int ne, .int wi, .int dn, .ref a6, .ref a7, .int nn, .ref a8, .int la, .ref a9, .ref a10, .long up9_20, .long lw9_21, .int wh9_22, .long pu9_23, .long pw9_24, .ref a11]))]) hP hD [3] [0, 1, 2] rfl rfl (by decide) (by decide) hk1 hFc hP1 hD1
              have hK := (hK.sub (tys' := [(cI, .int)]) [0] rfl).app hK1
              generalize H1 = H at hP hS ⊢
              have hP : va_P (dC, dI) vwCl [(a1, .inl (cI, 16, .inl Fi)), (a2, .inl (cI, 16, .inl Ma)), (a5, .inl (cI, 576, .inl Sp)), (h0, .inr (9, [.int th, .ref a1, .ref a2, .ref a3, .ref a4, .ref a5, .int ne, .int wi, .int dn, .ref a6, .ref a7, .int nn, .ref a8, .int la, .ref a9, .ref a10, .long up9_20, .long lw9_21, .int wh9_22, .long pu9_23, .long pw9_24, .ref a11]))] H := hP
              have hD : va_D A [(a1, .inl (cI, 16, .inl Fi)), (a2, .inl (cI, 16, .inl Ma)), (a5, .inl (cI, 576, .inl Sp)), (h0, .inr (9, [.int th, .ref a1, .ref a2, .ref a3, .ref a4, .ref a5, .int ne, .int wi, .int dn, .ref a6, .ref a7, .int nn, .ref a8, .int la, .ref a9, .ref a10, .long up9_20, .long lw9_21, .int wh9_22, .long pu9_23, .long pw9_24, .ref a11]))] := hD
              have hK : va_K (dC, dI) vwCl [(cI, .int)] s := hK
              refine W.widen (k := 0) (n := 0) (by omega) (by omega) ?_
              obtain ⟨y_28, ey_28⟩ : ∃ y : Int32, y = kk + 1 := ⟨_, rfl⟩
              have ty_28 : y_28.toInt = kk.toInt + 1 := by rw [ey_28]; have := fb_addI (x := kk) (y := 1) (by omega) (by omega); omega
              refine lv_iinc (v := y_28) (lv' := [(4, .int y_28), (0, .ref h0), (1, .int p1), (2, .int p2), (3, .int r_1), (5, .long z5), (7, .long z7), (9, .long z9), (11, .int ax)]) hx hb dX9_findLeast_178 hl (k := 4) rfl (by rw [ey_28]; rfl) (by decide) rfl (fun ls hl => ?_)
              refine lv_goto (tgt := 30) hx hb dX9_findLeast_181 (by decide) ?_
              exact ih_30 y_28 up9_20 lw9_21 wh9_22 pu9_23 pw9_24 (by omega) (by omega) (by omega) (by omega) (by omega) (by omega) H _ (hP.sub [3, 0, 1, 2] rfl) (hD.sub [3, 0, 1, 2] (by decide) rfl) hS ls (lv_sub hl [1, 2, 3, 4, 0] rfl)
        · have t_51 := mt (fa_le _ _).mpr c_51
          refine lv_aload_n hx hb dX9_findLeast_54 rfl (lv_at hl 0 rfl) ?_
          refine lv_iload_n hx hb dX9_findLeast_55 rfl (lv_at hl 1 rfl) ?_
          refine lv_iload_n hx hb dX9_findLeast_56 rfl (lv_at hl 2 rfl) ?_
          refine lv_iload hx hb dX9_findLeast_57 (lv_at hl 4 rfl) ?_
          refine lv_iload hx hb dX9_findLeast_59 (lv_at hl 8 rfl) ?_
          have hPc := hP.sub (ws' := [(h0, .inr (9, [.int th, .ref a1, .ref a2, .ref a3, .ref a4, .ref a5, .int ne, .int wi, .int dn, .ref a6, .ref a7, .int nn, .ref a8, .int la, .ref a9, .ref a10, .long uq, .long lq, .int wq, .long pq, .long dq, .ref a11])), (a1, .inl (cI, 16, .inl Fi)), (a2, .inl (cI, 16, .inl Ma)), (a5, .inl (cI, 576, .inl Sp))]) [0, 1, 2, 3] rfl
          have hKc := hK.sub (tys' := [(cI, .int)]) [0] rfl
          refine vp_callSl (W.runV (As := [.int p1, .int p2, .int kk, .int ax]) (rest := []) ⟨hx, hb, hml, hown, hts⟩ (c_X9_apart l dC dI h0 a1 a2 a3 a4 a5 a6 a7 a8 a9 a10 a11 th ne wi dn nn la wq uq lq pq dq cI Fi Ma Sp p1 p2 kk ax (by first | assumption | omega) (by first | omega | assumption) (by first | omega | assumption) (by first | omega | assumption) (by first | omega | assumption) (by first | omega | assumption) (by first | omega | assumption) (by first | omega | assumption) (by first | omega | assumption) (by first | omega | assumption) (by first | omega | assumption)) (cwV 4 hts g_X9_findLeast__X9_apart_143 rfl rfl rfl (by decide +kernel) ⟨Nat.le_of_ble_eq_true rfl, Nat.le_of_ble_eq_true rfl⟩) ⟨fun a U g mk q => by obtain ⟨q0, qP, qK⟩ := q; exact ⟨q0, qP, va_K.moved (u := U) (U := U.calling g mk a) (Vm.Alike.refl U.vm) qK⟩, va_recv hKc hPc (ci := 9) (q0 := 0) rfl rfl, fun U hU hW => ⟨rfl, by rw [hU]; exact hPc, va_K.moved hW.alike hKc⟩⟩ rfl rfl hl.1 rfl (lv_room (Nat.le_of_ble_eq_true rfl)) dX9_findLeast_61 ⟨Nat.le_of_ble_eq_true rfl, Nat.le_of_ble_eq_true rfl⟩) (fun r_29 hr_29 => ?_)
          try dsimp only at hr_29
          refine lv_lstore (lv' := [(12, .long r_29), (0, .ref h0), (1, .int p1), (2, .int p2), (3, .int r_1), (4, .int kk), (5, .long z5), (7, .long z7), (9, .long z9), (11, .int ax)]) hx hb dX9_findLeast_64 hl (by decide) rfl (fun ls hl => ?_)
          refine lv_iload hx hb dX9_findLeast_66 (lv_at hl 5 rfl) ?_
          refine lv_iload_n hx hb dX9_findLeast_68 rfl (lv_at hl 4 rfl) ?_
          refine lv_icmp_ge (tgt := 90) hx hb dX9_findLeast_69 (by decide) (fun c_69 => ?_) (fun c_69 => ?_)
          · have t_69 := (fa_le _ _).mp c_69
            refine lv_lconst (v := 0) hx hb dX9_findLeast_90 (by decide) ?_
            refine lv_lstore (lv' := [(14, .long 0), (12, .long r_29), (0, .ref h0), (1, .int p1), (2, .int p2), (3, .int r_1), (4, .int kk), (5, .long z5), (7, .long z7), (9, .long z9), (11, .int ax)]) hx hb dX9_findLeast_91 hl (by decide) rfl (fun ls hl => ?_)
            refine lv_lload hx hb dX9_findLeast_93 (lv_at hl 7 rfl) ?_
            refine lv_lload hx hb dX9_findLeast_95 (lv_at hl 1 rfl) ?_
            refine lv_lload hx hb dX9_findLeast_97 (lv_at hl 1 rfl) ?_
            refine lv_lmul hx hb dX9_findLeast_99 ?_
            refine lv_topl (fun y_30 ey_30 => ?_)
            refine lv_ladd hx hb dX9_findLeast_100 ?_
            refine lv_topl (fun y_31 ey_31 => ?_)
            refine lv_lstore (lv' := [(5, .long y_31), (14, .long 0), (12, .long r_29), (0, .ref h0), (1, .int p1), (2, .int p2), (3, .int r_1), (4, .int kk), (7, .long z7), (9, .long z9), (11, .int ax)]) hx hb dX9_findLeast_101 hl (by decide) rfl (fun ls hl => ?_)
            refine lv_lload hx hb dX9_findLeast_103 (lv_at hl 8 rfl) ?_
            refine lv_lload hx hb dX9_findLeast_105 (lv_at hl 2 rfl) ?_
            refine lv_lload hx hb dX9_findLeast_107 (lv_at hl 1 rfl) ?_
            refine lv_lmul hx hb dX9_findLeast_109 ?_
            refine lv_topl (fun y_32 ey_32 => ?_)
            refine lv_lsub hx hb dX9_findLeast_110 ?_
            refine lv_topl (fun y_33 ey_33 => ?_)
            refine lv_lstore (lv' := [(7, .long y_33), (5, .long y_31), (14, .long 0), (12, .long r_29), (0, .ref h0), (1, .int p1), (2, .int p2), (3, .int r_1), (4, .int kk), (9, .long z9), (11, .int ax)]) hx hb dX9_findLeast_111 hl (by decide) rfl (fun ls hl => ?_)
            refine lv_lload hx hb dX9_findLeast_113 (lv_at hl 9 rfl) ?_
            refine lv_lload hx hb dX9_findLeast_115 (lv_at hl 2 rfl) ?_
            refine lv_lload hx hb dX9_findLeast_117 (lv_at hl 2 rfl) ?_
            refine lv_lmul hx hb dX9_findLeast_119 ?_
            refine lv_topl (fun y_34 ey_34 => ?_)
            obtain rfl : y_34 = 0 := ey_34.trans (by decide)
            refine lv_ladd hx hb dX9_findLeast_120 ?_
            refine lv_topl (fun y_35 ey_35 => ?_)
            refine lv_lstore (lv' := [(9, .long y_35), (7, .long y_33), (5, .long y_31), (14, .long 0), (12, .long r_29), (0, .ref h0), (1, .int p1), (2, .int p2), (3, .int r_1), (4, .int kk), (11, .int ax)]) hx hb dX9_findLeast_121 hl (by decide) rfl (fun ls hl => ?_)
            obtain ⟨y_36, ey_36⟩ : ∃ y : Int32, y = ax + 1 := ⟨_, rfl⟩
            have ty_36 : y_36.toInt = ax.toInt + 1 := by rw [ey_36]; have := fb_addI (x := ax) (y := 1) (by omega) (by omega); omega
            refine lv_iinc (v := y_36) (lv' := [(11, .int y_36), (9, .long y_35), (7, .long y_33), (5, .long y_31), (14, .long 0), (12, .long r_29), (0, .ref h0), (1, .int p1), (2, .int p2), (3, .int r_1), (4, .int kk)]) hx hb dX9_findLeast_123 hl (k := 10) rfl (by rw [ey_36]; rfl) (by decide) rfl (fun ls hl => ?_)
            refine lv_goto (tgt := 48) hx hb dX9_findLeast_126 (by decide) ?_
            exact ih_48 y_31 y_33 y_35 y_36 (by omega) (by omega) (by omega) H _ (hP.sub [0, 1, 2, 3] rfl) (hD.sub [0, 1, 2, 3] (by decide) rfl) hS ls (lv_sub hl [6, 7, 8, 9, 10, 3, 2, 1, 0] rfl)
          · have t_69 := mt (fa_le _ _).mpr c_69
            refine lv_aload_n hx hb dX9_findLeast_72 rfl (lv_at hl 1 rfl) ?_
            refine lv_iload_n hx hb dX9_findLeast_73 rfl (lv_at hl 2 rfl) ?_
            refine lv_iload_n hx hb dX9_findLeast_74 rfl (lv_at hl 3 rfl) ?_
            refine lv_iload hx hb dX9_findLeast_75 (lv_at hl 5 rfl) ?_
            refine lv_iconst (v := 1) hx hb dX9_findLeast_77 (by decide) ?_
            refine lv_iadd hx hb dX9_findLeast_78 ?_
            refine lv_topi (fun y_37 ey_37 => ?_)
            have ty_37 : y_37.toInt = kk.toInt + 1 := by rw [ey_37]; have := fb_addI (x := kk) (y := 1) (by omega) (by omega); omega
            refine lv_iload hx hb dX9_findLeast_79 (lv_at hl 9 rfl) ?_
            have hPc := hP.sub (ws' := [(h0, .inr (9, [.int th, .ref a1, .ref a2, .ref a3, .ref a4, .ref a5, .int ne, .int wi, .int dn, .ref a6, .ref a7, .int nn, .ref a8, .int la, .ref a9, .ref a10, .long uq, .long lq, .int wq, .long pq, .long dq, .ref a11])), (a1, .inl (cI, 16, .inl Fi)), (a2, .inl (cI, 16, .inl Ma)), (a5, .inl (cI, 576, .inl Sp))]) [0, 1, 2, 3] rfl
            have hKc := hK.sub (tys' := [(cI, .int)]) [0] rfl
            refine vp_callSl (W.runV (As := [.int p1, .int p2, .int y_37, .int ax]) (rest := []) ⟨hx, hb, hml, hown, hts⟩ (c_X9_apart l dC dI h0 a1 a2 a3 a4 a5 a6 a7 a8 a9 a10 a11 th ne wi dn nn la wq uq lq pq dq cI Fi Ma Sp p1 p2 y_37 ax (by first | assumption | omega) (by first | omega | assumption) (by first | omega | assumption) (by first | omega | assumption) (by first | omega | assumption) (by first | omega | assumption) (by first | omega | assumption) (by first | omega | assumption) (by first | omega | assumption) (by first | omega | assumption) (by first | omega | assumption)) (cwV 4 hts g_X9_findLeast__X9_apart_143 rfl rfl rfl (by decide +kernel) ⟨Nat.le_of_ble_eq_true rfl, Nat.le_of_ble_eq_true rfl⟩) ⟨fun a U g mk q => by obtain ⟨q0, qP, qK⟩ := q; exact ⟨q0, qP, va_K.moved (u := U) (U := U.calling g mk a) (Vm.Alike.refl U.vm) qK⟩, va_recv hKc hPc (ci := 9) (q0 := 0) rfl rfl, fun U hU hW => ⟨rfl, by rw [hU]; exact hPc, va_K.moved hW.alike hKc⟩⟩ rfl rfl hl.1 rfl (lv_room (Nat.le_of_ble_eq_true rfl)) dX9_findLeast_81 ⟨Nat.le_of_ble_eq_true rfl, Nat.le_of_ble_eq_true rfl⟩) (fun r_38 hr_38 => ?_)
            try dsimp only at hr_38
            refine lv_lload hx hb dX9_findLeast_84 (lv_at hl 0 rfl) ?_
            refine lv_lsub hx hb dX9_findLeast_86 ?_
            refine lv_topl (fun y_39 ey_39 => ?_)
            refine lv_goto (tgt := 91) hx hb dX9_findLeast_87 (by decide) ?_
            refine lv_lstore (lv' := [(14, .long y_39), (12, .long r_29), (0, .ref h0), (1, .int p1), (2, .int p2), (3, .int r_1), (4, .int kk), (5, .long z5), (7, .long z7), (9, .long z9), (11, .int ax)]) hx hb dX9_findLeast_91 hl (by decide) rfl (fun ls hl => ?_)
            refine lv_lload hx hb dX9_findLeast_93 (lv_at hl 7 rfl) ?_
            refine lv_lload hx hb dX9_findLeast_95 (lv_at hl 1 rfl) ?_
            refine lv_lload hx hb dX9_findLeast_97 (lv_at hl 1 rfl) ?_
            refine lv_lmul hx hb dX9_findLeast_99 ?_
            refine lv_topl (fun y_40 ey_40 => ?_)
            refine lv_ladd hx hb dX9_findLeast_100 ?_
            refine lv_topl (fun y_41 ey_41 => ?_)
            refine lv_lstore (lv' := [(5, .long y_41), (14, .long y_39), (12, .long r_29), (0, .ref h0), (1, .int p1), (2, .int p2), (3, .int r_1), (4, .int kk), (7, .long z7), (9, .long z9), (11, .int ax)]) hx hb dX9_findLeast_101 hl (by decide) rfl (fun ls hl => ?_)
            refine lv_lload hx hb dX9_findLeast_103 (lv_at hl 8 rfl) ?_
            refine lv_lload hx hb dX9_findLeast_105 (lv_at hl 2 rfl) ?_
            refine lv_lload hx hb dX9_findLeast_107 (lv_at hl 1 rfl) ?_
            refine lv_lmul hx hb dX9_findLeast_109 ?_
            refine lv_topl (fun y_42 ey_42 => ?_)
            refine lv_lsub hx hb dX9_findLeast_110 ?_
            refine lv_topl (fun y_43 ey_43 => ?_)
            refine lv_lstore (lv' := [(7, .long y_43), (5, .long y_41), (14, .long y_39), (12, .long r_29), (0, .ref h0), (1, .int p1), (2, .int p2), (3, .int r_1), (4, .int kk), (9, .long z9), (11, .int ax)]) hx hb dX9_findLeast_111 hl (by decide) rfl (fun ls hl => ?_)
            refine lv_lload hx hb dX9_findLeast_113 (lv_at hl 9 rfl) ?_
            refine lv_lload hx hb dX9_findLeast_115 (lv_at hl 2 rfl) ?_
            refine lv_lload hx hb dX9_findLeast_117 (lv_at hl 2 rfl) ?_
            refine lv_lmul hx hb dX9_findLeast_119 ?_
            refine lv_topl (fun y_44 ey_44 => ?_)
            refine lv_ladd hx hb dX9_findLeast_120 ?_
            refine lv_topl (fun y_45 ey_45 => ?_)
            refine lv_lstore (lv' := [(9, .long y_45), (7, .long y_43), (5, .long y_41), (14, .long y_39), (12, .long r_29), (0, .ref h0), (1, .int p1), (2, .int p2), (3, .int r_1), (4, .int kk), (11, .int ax)]) hx hb dX9_findLeast_121 hl (by decide) rfl (fun ls hl => ?_)
            obtain ⟨y_46, ey_46⟩ : ∃ y : Int32, y = ax + 1 := ⟨_, rfl⟩
            have ty_46 : y_46.toInt = ax.toInt + 1 := by rw [ey_46]; have := fb_addI (x := ax) (y := 1) (by omega) (by omega); omega
            refine lv_iinc (v := y_46) (lv' := [(11, .int y_46), (9, .long y_45), (7, .long y_43), (5, .long y_41), (14, .long y_39), (12, .long r_29), (0, .ref h0), (1, .int p1), (2, .int p2), (3, .int r_1), (4, .int kk)]) hx hb dX9_findLeast_123 hl (k := 10) rfl (by rw [ey_46]; rfl) (by decide) rfl (fun ls hl => ?_)
            refine lv_goto (tgt := 48) hx hb dX9_findLeast_126 (by decide) ?_
            exact ih_48 y_41 y_43 y_45 y_46 (by omega) (by omega) (by omega) H _ (hP.sub [0, 1, 2, 3] rfl) (hD.sub [0, 1, 2, 3] (by decide) rfl) hS ls (lv_sub hl [6, 7, 8, 9, 10, 3, 2, 1, 0] rfl)
