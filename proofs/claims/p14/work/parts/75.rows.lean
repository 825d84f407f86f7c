def wk_X9_spotW : List Cond := .code yX9_spot cX9_spot 4 (some .int) :: (([.fieldLink RX9 23 "MeetingsAboveModel" "spots" "[I", .fieldLink RX9 7 "MeetingsAboveModel" "firsts" "[I"] : List Cond) ++ (wsX90 ++ ([])))
theorem in_X9_spotW_X9 : ∀ w ∈ wsX90, w ∈ wk_X9_spotW := fun _ h => List.mem_cons_of_mem _ (List.mem_append_right _ (List.mem_append_left _ h))
theorem gw_X9_spotW : AG wk_X9_spotW := AG_ca (AG_l (by decide +kernel)) (AG_app ag_X9 (AG_nil))
set_option maxHeartbeats 4000000 in
set_option maxRecDepth 100000 in
theorem c_X9_spotW (l : Launch) (dC : Nat → ClassId) (dI : Nat → Nat → Nat) (h0 : Nat) (a1 : Nat) (a2 : Nat) (a3 : Nat) (a4 : Nat) (a5 : Nat) (a6 : Nat) (a7 : Nat) (a8 : Nat) (a9 : Nat) (a10 : Nat) (a11 : Nat) (th : Int32) (ne : Int32) (wi : Int32) (dn : Int32) (nn : Int32) (la : Int32) (wh : Int32) (up : Int64) (lw : Int64) (pu : Int64) (pw : Int64) (cI : ClassId) (Fi : Nat → Int32) (Sp : Nat → Int32) (p1 : Int32) (p2 : Int32) (p3 : Int32) (h10 : 0 ≤ p1.toInt) (h11 : p1.toInt < 16) (hF0 : 0 ≤ (Fi p1.toNatClampNeg).toInt) (hF1 : (Fi p1.toNatClampNeg).toInt ≤ 39) (hs0 : (Fi p1.toNatClampNeg).toInt ≤ p2.toInt) (hs1 : p2.toInt < (Fi p1.toNatClampNeg).toInt + 12) (hx0 : 0 ≤ p3.toInt) (hx1 : p3.toInt ≤ 2) : Met l yX9_spot wk_X9_spotW ({ frames := 0, cells := 0, slots := 0, locals := 0 }) (va_Pc [.ref h0, .int p1, .int p2, .int p3] (fun U => va_P (dC, dI) vwCl [(h0, .inr (9, [.int th, .ref a1, .ref a2, .ref a3, .ref a4, .ref a5, .int ne, .int wi, .int dn, .ref a6, .ref a7, .int nn, .ref a8, .int la, .ref a9, .ref a10, .long up, .long lw, .int wh, .long pu, .long pw, .ref a11])), (a1, .inl (cI, 16, .inl Fi)), (a5, .inl (cI, 576, .inl Sp))] U.heap ∧ va_K (dC, dI) vwCl [(cI, .int)] U)) (vp_Si (fun r => r = Sp (ixm Fi p1 p2 p3))) 0 0 (fun _ => False) := by
  refine Met.ofW (cc := cX9_spot) (maxL := 4) (ret := (some .int)) (by decide) rfl ?_
  intro p e s m args below meth c s₁ B hml hv
  obtain ⟨rfl, hP, hK⟩ := hv
  have hx := B.exec
  have hb := B.bytes
  have hr := B.returns
  have hts := atoms_spec (ws := wk_X9_spotW) B.pre
  have hown : s.vm.findClass RX9 = some m.cls := findClass_of_methodNamed B.named
  have hlocks := B.notSynchronized
  have hP : va_P (dC, dI) vwCl [(h0, .inr (9, [.int th, .ref a1, .ref a2, .ref a3, .ref a4, .ref a5, .int ne, .int wi, .int dn, .ref a6, .ref a7, .int nn, .ref a8, .int la, .ref a9, .ref a10, .long up, .long lw, .int wh, .long pu, .long pw, .ref a11])), (a1, .inl (cI, 16, .inl Fi)), (a5, .inl (cI, 576, .inl Sp))] s.heap := hP
  have hl := lv_entry ([.ref h0, .int p1, .int p2, .int p3]) (n := 4) (Nat.le_of_ble_eq_true rfl)
  rw [lg_entry_eq]
  generalize (lg_sl ([.ref h0, .int p1, .int p2, .int p3]) ++ List.replicate (4 - (lg_sl ([.ref h0, .int p1, .int p2, .int p3])).length) Slot.unset).toArray = ls at hl ⊢
  have hl : lv_has ls 4 [(0, .ref h0), (1, .int p1), (2, .int p2), (3, .int p3)] := hl
  have kl_3 : (3 : Int32).toInt = 3 := by decide
  have kl_36 : (36 : Int32).toInt = 36 := by decide
  refine lv_aload_n hx hb dX9_spot_0 rfl (lv_at hl 0 rfl) ?_
  refine va_get (D := (dC, dI)) (ci := 9) (v := .ref a5) (C := RX9) (T := TX9) (N := 22) hx hb hts in_X9_spotW_X9 hown hK hP 0 rfl rfl 5 (by decide) (hts (.fieldLink RX9 23 "MeetingsAboveModel" "spots" "[I") (by decide +kernel)) (fun _ h9 => h9) rfl dX9_spot_1 ?_
  refine lv_bipush (v := 36) hx hb dX9_spot_4 (by decide) ?_
  refine lv_iload_n hx hb dX9_spot_6 rfl (lv_at hl 1 rfl) ?_
  refine lv_imul hx hb dX9_spot_7 ?_
  refine lv_topi (fun y_1 ey_1 => ?_)
  have ty_1 : y_1.toInt = 36 * p1.toInt := by rw [ey_1]; exact fm_lI kl_36 (by omega) (by omega)
  refine lv_iconst (v := 3) hx hb dX9_spot_8 (by decide) ?_
  refine lv_iload_n hx hb dX9_spot_9 rfl (lv_at hl 2 rfl) ?_
  refine lv_aload_n hx hb dX9_spot_10 rfl (lv_at hl 0 rfl) ?_
  refine va_get (D := (dC, dI)) (ci := 9) (v := .ref a1) (C := RX9) (T := TX9) (N := 22) hx hb hts in_X9_spotW_X9 hown hK hP 0 rfl rfl 1 (by decide) (hts (.fieldLink RX9 7 "MeetingsAboveModel" "firsts" "[I") (by decide +kernel)) (fun _ h9 => h9) rfl dX9_spot_11 ?_
  refine lv_iload_n hx hb dX9_spot_14 rfl (lv_at hl 1 rfl) ?_
  refine va_iald hx hb hK hP 1 0 rfl rfl (vp_in_iff.mpr ⟨by omega, by omega⟩) dX9_spot_15 ?_
  refine lv_topi (fun y_2 ey_2 => ?_)
  have uy_2 : y_2.toInt = (Fi (p1 : Int32).toNatClampNeg).toInt := by rw [ey_2]
  refine lv_isub hx hb dX9_spot_16 ?_
  refine lv_topi (fun y_3 ey_3 => ?_)
  have ty_3 : y_3.toInt = p2.toInt - y_2.toInt := by rw [ey_3]; have := fb_subI (x := p2) (y := y_2) (by omega) (by omega); omega
  refine lv_imul hx hb dX9_spot_17 ?_
  refine lv_topi (fun y_4 ey_4 => ?_)
  have ty_4 : y_4.toInt = 3 * y_3.toInt := by rw [ey_4]; exact fm_lI kl_3 (by omega) (by omega)
  refine lv_iadd hx hb dX9_spot_18 ?_
  refine lv_topi (fun y_5 ey_5 => ?_)
  have ty_5 : y_5.toInt = y_1.toInt + y_4.toInt := by rw [ey_5]; have := fb_addI (x := y_1) (y := y_4) (by omega) (by omega); omega
  refine lv_iload_n hx hb dX9_spot_19 rfl (lv_at hl 3 rfl) ?_
  refine lv_iadd hx hb dX9_spot_20 ?_
  refine lv_topi (fun y_6 ey_6 => ?_)
  have ty_6 : y_6.toInt = y_5.toInt + p3.toInt := by rw [ey_6]; have := fb_addI (x := y_5) (y := p3) (by omega) (by omega); omega
  refine va_iald hx hb hK hP 2 0 rfl rfl (vp_in_iff.mpr ⟨by omega, by omega⟩) dX9_spot_21 ?_
  refine lv_topi (fun y_7 ey_7 => ?_)
  exact W.iret (v := y_7) hx hb hr (fun t ht _ => ⟨_, rfl, (ix_eq ey_7 (by omega)), ht⟩) (fun _ h => absurd h List.not_mem_nil) dX9_spot_22
