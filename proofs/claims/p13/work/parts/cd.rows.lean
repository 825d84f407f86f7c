def wk_X9_pairsOfE : List Cond := .code yX9_pairsOf cX9_pairsOf 11 (some .long) :: (([.fieldLink RX9 16 "MeetingsAboveModel" "doubts" "[I", .fieldLink RX9 30 "MeetingsAboveModel" "wide" "I"] : List Cond) ++ (wsX90 ++ ((wsV RX9 94 RX9 yX9_spot wk_X9_spot) ++ ([]))))
theorem in_X9_pairsOfE_X9 : ∀ w ∈ wsX90, w ∈ wk_X9_pairsOfE := fun _ h => List.mem_cons_of_mem _ (List.mem_append_right _ (List.mem_append_left _ h))
theorem gw_X9_pairsOfE : AG wk_X9_pairsOfE := AG_ca (AG_l (by decide +kernel)) (AG_app ag_X9 (AG_app (AG_V gw_X9_spot) (AG_nil)))
theorem g_X9_pairsOfE__X9_spot_94 : GoodIn wk_X9_pairsOfE (wsV RX9 94 RX9 yX9_spot wk_X9_spot) := goodIn_m (fun _ h => List.mem_cons_of_mem _ (List.mem_append_right _ (List.mem_append_right _ (List.mem_append_left _ h)))) (AG_V gw_X9_spot)
set_option maxHeartbeats 4000000 in
set_option maxRecDepth 100000 in
theorem c_X9_pairsOfE (l : Launch) (dC : Nat → ClassId) (dI : Nat → Nat → Nat) (h0 : Nat) (a1 : Nat) (a2 : Nat) (a3 : Nat) (a4 : Nat) (a5 : Nat) (a6 : Nat) (a7 : Nat) (a8 : Nat) (a9 : Nat) (a10 : Nat) (a11 : Nat) (th : Int32) (ne : Int32) (wi : Int32) (dn : Int32) (nn : Int32) (la : Int32) (wh : Int32) (up : Int64) (lw : Int64) (pu : Int64) (pw : Int64) (cI : ClassId) (Fi : Nat → Int32) (Ma : Nat → Int32) (Db : Nat → Int32) (Sp : Nat → Int32) (p1 : Int32) (p2 : Int32) (p3 : Int32) (p4 : Int32) (hM : mOK th Fi Ma) (hDb : dOK th Db) (hp10 : 0 ≤ p1.toInt) (hp11 : p1.toInt < th.toInt) (hp20 : 0 ≤ p2.toInt) (hp21 : p2.toInt < th.toInt) (hsp10 : (Fi p1.toNatClampNeg).toInt ≤ p3.toInt) (hsp11 : p3.toInt < (Fi p1.toNatClampNeg).toInt + (Ma p1.toNatClampNeg).toInt) (hsp20 : (Fi p2.toNatClampNeg).toInt ≤ p3.toInt) (hsp21 : p3.toInt < (Fi p2.toNatClampNeg).toInt + (Ma p2.toNatClampNeg).toInt) (hx0 : 0 ≤ p4.toInt) (hx1 : p4.toInt ≤ 2) (hct : cOK (Ma p1.toNatClampNeg) (fun k => Sp (36 * p1.toNatClampNeg + k))) (hcu : cOK (Ma p2.toNatClampNeg) (fun k => Sp (36 * p2.toNatClampNeg + k))) (hwi0 : 0 ≤ wi.toInt) (hwi1 : wi.toInt ≤ 400) : Met l yX9_pairsOf wk_X9_pairsOfE ({ frames := 1, cells := 0, slots := 0, locals := 23 }) (va_Pc [.ref h0, .int p1, .int p2, .int p3, .int p4] (fun U => va_P (dC, dI) vwCl [(h0, .inr (9, [.int th, .ref a1, .ref a2, .ref a3, .ref a4, .ref a5, .int ne, .int wi, .int dn, .ref a6, .ref a7, .int nn, .ref a8, .int la, .ref a9, .ref a10, .long up, .long lw, .int wh, .long pu, .long pw, .ref a11])), (a1, .inl (cI, 16, .inl Fi)), (a2, .inl (cI, 16, .inl Ma)), (a3, .inl (cI, 16, .inl Db)), (a5, .inl (cI, 576, .inl Sp))] U.heap ∧ va_K (dC, dI) vwCl [(cI, .int)] U)) (vp_Sl (fun r => r.toInt = prs (xg (Fi p1.toNatClampNeg) (fun k => Sp (36 * p1.toNatClampNeg + k)) p3.toInt p4.toInt) (Db p1.toNatClampNeg).toInt (xg (Fi p2.toNatClampNeg) (fun k => Sp (36 * p2.toNatClampNeg + k)) p3.toInt p4.toInt) (Db p2.toNatClampNeg).toInt wi.toInt)) 0 0 (fun _ => False) := by
  refine Met.ofW (cc := cX9_pairsOf) (maxL := 11) (ret := (some .long)) (by decide) rfl ?_
  intro p e s m args below meth c s₁ B hml hv
  obtain ⟨rfl, hP, hK⟩ := hv
  have hx := B.exec
  have hb := B.bytes
  have hr := B.returns
  have hts := atoms_spec (ws := wk_X9_pairsOfE) B.pre
  have hown : s.vm.findClass RX9 = some m.cls := findClass_of_methodNamed B.named
  have hlocks := B.notSynchronized
  have hP : va_P (dC, dI) vwCl [(h0, .inr (9, [.int th, .ref a1, .ref a2, .ref a3, .ref a4, .ref a5, .int ne, .int wi, .int dn, .ref a6, .ref a7, .int nn, .ref a8, .int la, .ref a9, .ref a10, .long up, .long lw, .int wh, .long pu, .long pw, .ref a11])), (a1, .inl (cI, 16, .inl Fi)), (a2, .inl (cI, 16, .inl Ma)), (a3, .inl (cI, 16, .inl Db)), (a5, .inl (cI, 576, .inl Sp))] s.heap := hP
  have hl := lv_entry ([.ref h0, .int p1, .int p2, .int p3, .int p4]) (n := 11) (Nat.le_of_ble_eq_true rfl)
  rw [lg_entry_eq]
  generalize (lg_sl ([.ref h0, .int p1, .int p2, .int p3, .int p4]) ++ List.replicate (11 - (lg_sl ([.ref h0, .int p1, .int p2, .int p3, .int p4])).length) Slot.unset).toArray = ls at hl ⊢
  have hl : lv_has ls 11 [(0, .ref h0), (1, .int p1), (2, .int p2), (3, .int p3), (4, .int p4)] := hl
  have kl_1 : (1 : Int32).toInt = 1 := by decide
  have klL_0 : (0 : Int64).toInt = 0 := by decide
  obtain ⟨hM0, hM1, hM2⟩ := id hM
  have np1 : ((p1.toNatClampNeg : Nat) : Int) = p1.toInt := tc_I (by omega)
  have bp1 := hM2 p1.toNatClampNeg (by omega)
  have np2 : ((p2.toNatClampNeg : Nat) : Int) = p2.toInt := tc_I (by omega)
  have bp2 := hM2 p2.toNatClampNeg (by omega)
  obtain ⟨d1, d2⟩ := hDb p1.toNatClampNeg (by omega)
  obtain ⟨d3, d4⟩ := hDb p2.toNatClampNeg (by omega)
  obtain ⟨c1, c2⟩ := xg_bd hct hsp10 hsp11 hx0 hx1
  obtain ⟨c3, c4⟩ := xg_bd hcu hsp20 hsp21 hx0 hx1
  refine lv_aload_n hx hb dX9_pairsOf_0 rfl (lv_at hl 0 rfl) ?_
  refine lv_iload_n hx hb dX9_pairsOf_1 rfl (lv_at hl 1 rfl) ?_
  refine lv_iload_n hx hb dX9_pairsOf_2 rfl (lv_at hl 3 rfl) ?_
  refine lv_iload hx hb dX9_pairsOf_3 (lv_at hl 4 rfl) ?_
  have hPc := hP.sub (ws' := [(h0, .inr (9, [.int th, .ref a1, .ref a2, .ref a3, .ref a4, .ref a5, .int ne, .int wi, .int dn, .ref a6, .ref a7, .int nn, .ref a8, .int la, .ref a9, .ref a10, .long up, .long lw, .int wh, .long pu, .long pw, .ref a11])), (a1, .inl (cI, 16, .inl Fi)), (a5, .inl (cI, 576, .inl Sp))]) [0, 1, 4] rfl
  have hKc := hK.sub (tys' := [(cI, .int)]) [0] rfl
  refine vp_callSi (W.runV (As := [.int p1, .int p3, .int p4]) (rest := []) ⟨hx, hb, hml, hown, hts⟩ (c_X9_spot l dC dI Ma h0 a1 a2 a3 a4 a5 a6 a7 a8 a9 a10 a11 th ne wi dn nn la wh up lw pu pw cI Fi Sp p1 p3 p4 (by first | assumption | omega) (by first | omega | assumption) (by first | omega | assumption) (by first | omega | assumption) (by first | omega | assumption) (by first | omega | assumption) (by first | omega | assumption)) (cwV 3 hts g_X9_pairsOfE__X9_spot_94 rfl rfl rfl (by decide +kernel) ⟨Nat.le_of_ble_eq_true rfl, Nat.le_of_ble_eq_true rfl⟩) ⟨fun a U g mk q => by obtain ⟨q0, qP, qK⟩ := q; exact ⟨q0, qP, va_K.moved (u := U) (U := U.calling g mk a) (Vm.Alike.refl U.vm) qK⟩, va_recv hKc hPc (ci := 9) (q0 := 0) rfl rfl, fun U hU hW => ⟨rfl, by rw [hU]; exact hPc, va_K.moved hW.alike hKc⟩⟩ rfl rfl hl.1 rfl (lv_room (Nat.le_of_ble_eq_true rfl)) dX9_pairsOf_5 ⟨Nat.le_of_ble_eq_true rfl, Nat.le_of_ble_eq_true rfl⟩) (fun r_1 hr_1 => ?_)
  try dsimp only at hr_1
  have x_r_1 : r_1.toInt = xg (Fi p1.toNatClampNeg) (fun k => Sp (36 * p1.toNatClampNeg + k)) p3.toInt p4.toInt := by rw [hr_1]; exact congrArg (fun k => (Sp k).toInt) (by unfold ixm ixi; omega)
  refine lv_aload_n hx hb dX9_pairsOf_8 rfl (lv_at hl 0 rfl) ?_
  refine lv_iload_n hx hb dX9_pairsOf_9 rfl (lv_at hl 2 rfl) ?_
  refine lv_iload_n hx hb dX9_pairsOf_10 rfl (lv_at hl 3 rfl) ?_
  refine lv_iload hx hb dX9_pairsOf_11 (lv_at hl 4 rfl) ?_
  have hPc := hP.sub (ws' := [(h0, .inr (9, [.int th, .ref a1, .ref a2, .ref a3, .ref a4, .ref a5, .int ne, .int wi, .int dn, .ref a6, .ref a7, .int nn, .ref a8, .int la, .ref a9, .ref a10, .long up, .long lw, .int wh, .long pu, .long pw, .ref a11])), (a1, .inl (cI, 16, .inl Fi)), (a5, .inl (cI, 576, .inl Sp))]) [0, 1, 4] rfl
  have hKc := hK.sub (tys' := [(cI, .int)]) [0] rfl
  refine vp_callSi (W.runV (As := [.int p2, .int p3, .int p4]) (rest := [.int r_1]) ⟨hx, hb, hml, hown, hts⟩ (c_X9_spot l dC dI Ma h0 a1 a2 a3 a4 a5 a6 a7 a8 a9 a10 a11 th ne wi dn nn la wh up lw pu pw cI Fi Sp p2 p3 p4 (by first | assumption | omega) (by first | omega | assumption) (by first | omega | assumption) (by first | omega | assumption) (by first | omega | assumption) (by first | omega | assumption) (by first | omega | assumption)) (cwV 3 hts g_X9_pairsOfE__X9_spot_94 rfl rfl rfl (by decide +kernel) ⟨Nat.le_of_ble_eq_true rfl, Nat.le_of_ble_eq_true rfl⟩) ⟨fun a U g mk q => by obtain ⟨q0, qP, qK⟩ := q; exact ⟨q0, qP, va_K.moved (u := U) (U := U.calling g mk a) (Vm.Alike.refl U.vm) qK⟩, va_recv hKc hPc (ci := 9) (q0 := 0) rfl rfl, fun U hU hW => ⟨rfl, by rw [hU]; exact hPc, va_K.moved hW.alike hKc⟩⟩ rfl rfl hl.1 rfl (lv_room (Nat.le_of_ble_eq_true rfl)) dX9_pairsOf_13 ⟨Nat.le_of_ble_eq_true rfl, Nat.le_of_ble_eq_true rfl⟩) (fun r_2 hr_2 => ?_)
  try dsimp only at hr_2
  have x_r_2 : r_2.toInt = xg (Fi p2.toNatClampNeg) (fun k => Sp (36 * p2.toNatClampNeg + k)) p3.toInt p4.toInt := by rw [hr_2]; exact congrArg (fun k => (Sp k).toInt) (by unfold ixm ixi; omega)
  refine lv_isub hx hb dX9_pairsOf_16 ?_
  refine lv_topi (fun y_3 ey_3 => ?_)
  have ty_3 : y_3.toInt = r_1.toInt - r_2.toInt := by rw [ey_3]; have := fb_subI (x := r_1) (y := r_2) (by omega) (by omega); omega
  refine lv_istore (lv' := [(5, .int y_3), (0, .ref h0), (1, .int p1), (2, .int p2), (3, .int p3), (4, .int p4)]) hx hb dX9_pairsOf_17 hl (by decide) rfl (fun ls hl => ?_)
  refine lv_lconst (v := 0) hx hb dX9_pairsOf_19 (by decide) ?_
  refine lv_lstore (lv' := [(6, .long 0), (5, .int y_3), (0, .ref h0), (1, .int p1), (2, .int p2), (3, .int p3), (4, .int p4)]) hx hb dX9_pairsOf_20 hl (by decide) rfl (fun ls hl => ?_)
  refine lv_aload_n hx hb dX9_pairsOf_22 rfl (lv_at hl 2 rfl) ?_
  refine va_get (D := (dC, dI)) (ci := 9) (v := .ref a3) (C := RX9) (T := TX9) (N := 22) hx hb hts in_X9_pairsOfE_X9 hown hK hP 0 rfl rfl 3 (by decide) (hts (.fieldLink RX9 16 "MeetingsAboveModel" "doubts" "[I") (by decide +kernel)) (fun _ h9 => h9) rfl dX9_pairsOf_23 ?_
  refine lv_iload_n hx hb dX9_pairsOf_26 rfl (lv_at hl 3 rfl) ?_
  refine va_iald hx hb hK hP 3 0 rfl rfl (vp_in_iff.mpr ⟨by omega, by omega⟩) dX9_pairsOf_27 ?_
  refine lv_topi (fun y_4 ey_4 => ?_)
  have uy_4 : y_4.toInt = (Db (p1 : Int32).toNatClampNeg).toInt := by rw [ey_4]
  refine lv_ineg hx hb dX9_pairsOf_28 ?_
  refine lv_topi (fun y_5 ey_5 => ?_)
  have ty_5 : y_5.toInt = -y_4.toInt := by rw [ey_5]; exact fb_negI (by omega)
  refine lv_istore (lv' := [(8, .int y_5), (6, .long 0), (5, .int y_3), (0, .ref h0), (1, .int p1), (2, .int p2), (3, .int p3), (4, .int p4)]) hx hb dX9_pairsOf_29 hl (by decide) rfl (fun ls hl => ?_)
  refine (show ∀ (k : Nat) (n6 : Int64) (i8 : Int32) (hi0 : -(Db p1.toNatClampNeg).toInt ≤ i8.toInt) (hi1 : i8.toInt ≤ (Db p1.toNatClampNeg).toInt + 1) (hsum : n6.toInt = sumI (fun i => prI 0 (Db p2.toNatClampNeg).toInt wi.toInt (xg (Fi p1.toNatClampNeg) (fun k => Sp (36 * p1.toNatClampNeg + k)) p3.toInt p4.toInt - xg (Fi p2.toNatClampNeg) (fun k => Sp (36 * p2.toNatClampNeg + k)) p3.toInt p4.toInt + i)) (-(Db p1.toNatClampNeg).toInt) (i8.toInt + (Db p1.toNatClampNeg).toInt).toNat) (hk_31 : ((Db p1.toNatClampNeg).toInt + 1 - i8.toInt).toNat < k) (ls : Array Slot) (hl : lv_has ls 11 [(0, .ref h0), (1, .int p1), (2, .int p2), (3, .int p3), (4, .int p4), (5, .int y_3), (6, .long n6), (8, .int i8)]), W p l e _ s m _ below meth c s.heap [] 0 0 _ (F0 m 31 ls []) from ?_) _ 0 y_5 (by omega) (by omega) (by rw [show (y_5.toInt + (Db p1.toNatClampNeg).toInt).toNat = 0 by omega]; exact klL_0) (Nat.lt_succ_self _) ls (lv_sub hl [3, 4, 5, 6, 7, 2, 1, 0] rfl)
  intro k
  induction k with
  | zero => intro n6 i8 hi0 hi1 hsum hk_31; exact absurd hk_31 (Nat.not_lt_zero _)
  | succ k ih_31 =>
    intro n6 i8 hi0 hi1 hsum hk_31 ls hl
    refine lv_iload hx hb dX9_pairsOf_31 (lv_at hl 7 rfl) ?_
    refine lv_aload_n hx hb dX9_pairsOf_33 rfl (lv_at hl 0 rfl) ?_
    refine va_get (D := (dC, dI)) (ci := 9) (v := .ref a3) (C := RX9) (T := TX9) (N := 22) hx hb hts in_X9_pairsOfE_X9 hown hK hP 0 rfl rfl 3 (by decide) (hts (.fieldLink RX9 16 "MeetingsAboveModel" "doubts" "[I") (by decide +kernel)) (fun _ h9 => h9) rfl dX9_pairsOf_34 ?_
    refine lv_iload_n hx hb dX9_pairsOf_37 rfl (lv_at hl 1 rfl) ?_
    refine va_iald hx hb hK hP 3 0 rfl rfl (vp_in_iff.mpr ⟨by omega, by omega⟩) dX9_pairsOf_38 ?_
    refine lv_topi (fun y_6 ey_6 => ?_)
    have uy_6 : y_6.toInt = (Db (p1 : Int32).toNatClampNeg).toInt := by rw [ey_6]
    refine lv_icmp_gt (tgt := 146) hx hb dX9_pairsOf_39 (by decide) (fun c_39 => ?_) (fun c_39 => ?_)
    · have t_39 := (fa_lt _ _).mp c_39
      refine lv_lload hx hb dX9_pairsOf_146 (lv_at hl 6 rfl) ?_
      exact W.lret (v := n6) hx hb hr (fun t ht _ => ⟨_, rfl, (by rw [prs_m, show (2 * (Db p1.toNatClampNeg).toInt + 1).toNat = (i8.toInt + (Db p1.toNatClampNeg).toInt).toNat by omega]; exact hsum), ht⟩) (fun _ h => absurd h List.not_mem_nil) dX9_pairsOf_148
    · have t_39 := mt (fa_lt _ _).mpr c_39
      obtain ⟨sb1, sb2⟩ := sum_bd (F := (fun i => prI 0 (Db p2.toNatClampNeg).toInt wi.toInt (xg (Fi p1.toNatClampNeg) (fun k => Sp (36 * p1.toNatClampNeg + k)) p3.toInt p4.toInt - xg (Fi p2.toNatClampNeg) (fun k => Sp (36 * p2.toNatClampNeg + k)) p3.toInt p4.toInt + i))) (a := -(Db p1.toNatClampNeg).toInt) (fun c => pr_bd d3 d4) (i8.toInt + (Db p1.toNatClampNeg).toInt).toNat
      obtain ⟨pb1, pb2⟩ := pr_bd (y := 0) (w := wi.toInt) (c := xg (Fi p1.toNatClampNeg) (fun k => Sp (36 * p1.toNatClampNeg + k)) p3.toInt p4.toInt - xg (Fi p2.toNatClampNeg) (fun k => Sp (36 * p2.toNatClampNeg + k)) p3.toInt p4.toInt + i8.toInt) d3 d4
      refine lv_iload hx hb dX9_pairsOf_42 (lv_at hl 5 rfl) ?_
      refine lv_iload hx hb dX9_pairsOf_44 (lv_at hl 7 rfl) ?_
      refine lv_iadd hx hb dX9_pairsOf_46 ?_
      refine lv_topi (fun y_7 ey_7 => ?_)
      have ty_7 : y_7.toInt = y_3.toInt + i8.toInt := by rw [ey_7]; have := fb_addI (x := y_3) (y := i8) (by omega) (by omega); omega
      refine lv_aload_n hx hb dX9_pairsOf_47 rfl (lv_at hl 0 rfl) ?_
      refine va_get (D := (dC, dI)) (ci := 9) (v := .int wi) (C := RX9) (T := TX9) (N := 22) hx hb hts in_X9_pairsOfE_X9 hown hK hP 0 rfl rfl 7 (by decide) (hts (.fieldLink RX9 30 "MeetingsAboveModel" "wide" "I") (by decide +kernel)) (fun _ h9 => h9) rfl dX9_pairsOf_48 ?_
      refine lv_isub hx hb dX9_pairsOf_51 ?_
      refine lv_topi (fun y_8 ey_8 => ?_)
      have ty_8 : y_8.toInt = y_7.toInt - wi.toInt := by rw [ey_8]; have := fb_subI (x := y_7) (y := wi) (by omega) (by omega); omega
      refine lv_istore (lv' := [(9, .int y_8), (0, .ref h0), (1, .int p1), (2, .int p2), (3, .int p3), (4, .int p4), (5, .int y_3), (6, .long n6), (8, .int i8)]) hx hb dX9_pairsOf_52 hl (by decide) rfl (fun ls hl => ?_)
      refine lv_iload hx hb dX9_pairsOf_54 (lv_at hl 6 rfl) ?_
      refine lv_iload hx hb dX9_pairsOf_56 (lv_at hl 8 rfl) ?_
      refine lv_iadd hx hb dX9_pairsOf_58 ?_
      refine lv_topi (fun y_9 ey_9 => ?_)
      have ty_9 : y_9.toInt = y_3.toInt + i8.toInt := by rw [ey_9]; have := fb_addI (x := y_3) (y := i8) (by omega) (by omega); omega
      refine lv_aload_n hx hb dX9_pairsOf_59 rfl (lv_at hl 1 rfl) ?_
      refine va_get (D := (dC, dI)) (ci := 9) (v := .int wi) (C := RX9) (T := TX9) (N := 22) hx hb hts in_X9_pairsOfE_X9 hown hK hP 0 rfl rfl 7 (by decide) (hts (.fieldLink RX9 30 "MeetingsAboveModel" "wide" "I") (by decide +kernel)) (fun _ h9 => h9) rfl dX9_pairsOf_60 ?_
      refine lv_iadd hx hb dX9_pairsOf_63 ?_
      refine lv_topi (fun y_10 ey_10 => ?_)
      have ty_10 : y_10.toInt = y_9.toInt + wi.toInt := by rw [ey_10]; have := fb_addI (x := y_9) (y := wi) (by omega) (by omega); omega
      refine lv_istore (lv' := [(10, .int y_10), (9, .int y_8), (0, .ref h0), (1, .int p1), (2, .int p2), (3, .int p3), (4, .int p4), (5, .int y_3), (6, .long n6), (8, .int i8)]) hx hb dX9_pairsOf_64 hl (by decide) rfl (fun ls hl => ?_)
      refine lv_iload hx hb dX9_pairsOf_66 (lv_at hl 1 rfl) ?_
      refine lv_aload_n hx hb dX9_pairsOf_68 rfl (lv_at hl 2 rfl) ?_
      refine va_get (D := (dC, dI)) (ci := 9) (v := .ref a3) (C := RX9) (T := TX9) (N := 22) hx hb hts in_X9_pairsOfE_X9 hown hK hP 0 rfl rfl 3 (by decide) (hts (.fieldLink RX9 16 "MeetingsAboveModel" "doubts" "[I") (by decide +kernel)) (fun _ h9 => h9) rfl dX9_pairsOf_69 ?_
      refine lv_iload_n hx hb dX9_pairsOf_72 rfl (lv_at hl 4 rfl) ?_
      refine va_iald hx hb hK hP 3 0 rfl rfl (vp_in_iff.mpr ⟨by omega, by omega⟩) dX9_pairsOf_73 ?_
      refine lv_topi (fun y_11 ey_11 => ?_)
      have uy_11 : y_11.toInt = (Db (p2 : Int32).toNatClampNeg).toInt := by rw [ey_11]
      refine lv_ineg hx hb dX9_pairsOf_74 ?_
      refine lv_topi (fun y_12 ey_12 => ?_)
      have ty_12 : y_12.toInt = -y_11.toInt := by rw [ey_12]; exact fb_negI (by omega)
      refine lv_icmp_ge (tgt := 88) hx hb dX9_pairsOf_75 (by decide) (fun c_75 => ?_) (fun c_75 => ?_)
      · have t_75 := (fa_le _ _).mp c_75
        refine lv_iload hx hb dX9_pairsOf_88 (lv_at hl 1 rfl) ?_
        refine lv_istore (lv' := [(9, .int y_8), (10, .int y_10), (0, .ref h0), (1, .int p1), (2, .int p2), (3, .int p3), (4, .int p4), (5, .int y_3), (6, .long n6), (8, .int i8)]) hx hb dX9_pairsOf_90 hl (by decide) rfl (fun ls hl => ?_)
        refine lv_iload hx hb dX9_pairsOf_92 (lv_at hl 1 rfl) ?_
        refine lv_aload_n hx hb dX9_pairsOf_94 rfl (lv_at hl 2 rfl) ?_
        refine va_get (D := (dC, dI)) (ci := 9) (v := .ref a3) (C := RX9) (T := TX9) (N := 22) hx hb hts in_X9_pairsOfE_X9 hown hK hP 0 rfl rfl 3 (by decide) (hts (.fieldLink RX9 16 "MeetingsAboveModel" "doubts" "[I") (by decide +kernel)) (fun _ h9 => h9) rfl dX9_pairsOf_95 ?_
        refine lv_iload_n hx hb dX9_pairsOf_98 rfl (lv_at hl 4 rfl) ?_
        refine va_iald hx hb hK hP 3 0 rfl rfl (vp_in_iff.mpr ⟨by omega, by omega⟩) dX9_pairsOf_99 ?_
        refine lv_topi (fun y_13 ey_13 => ?_)
        have uy_13 : y_13.toInt = (Db (p2 : Int32).toNatClampNeg).toInt := by rw [ey_13]
        refine lv_icmp_le (tgt := 112) hx hb dX9_pairsOf_100 (by decide) (fun c_100 => ?_) (fun c_100 => ?_)
        · have t_100 := (fa_le _ _).mp c_100
          refine lv_iload hx hb dX9_pairsOf_112 (lv_at hl 1 rfl) ?_
          refine lv_istore (lv' := [(10, .int y_10), (9, .int y_8), (0, .ref h0), (1, .int p1), (2, .int p2), (3, .int p3), (4, .int p4), (5, .int y_3), (6, .long n6), (8, .int i8)]) hx hb dX9_pairsOf_114 hl (by decide) rfl (fun ls hl => ?_)
          refine lv_lload hx hb dX9_pairsOf_116 (lv_at hl 8 rfl) ?_
          refine lv_iload hx hb dX9_pairsOf_118 (lv_at hl 0 rfl) ?_
          refine lv_iload hx hb dX9_pairsOf_120 (lv_at hl 1 rfl) ?_
          refine lv_icmp_ge (tgt := 129) hx hb dX9_pairsOf_122 (by decide) (fun c_122 => ?_) (fun c_122 => ?_)
          · have t_122 := (fa_le _ _).mp c_122
            refine lv_iload hx hb dX9_pairsOf_129 (lv_at hl 0 rfl) ?_
            refine lv_iload hx hb dX9_pairsOf_131 (lv_at hl 1 rfl) ?_
            refine lv_isub hx hb dX9_pairsOf_133 ?_
            refine lv_topi (fun y_14 ey_14 => ?_)
            have ty_14 : y_14.toInt = y_10.toInt - y_8.toInt := by rw [ey_14]; have := fb_subI (x := y_10) (y := y_8) (by omega) (by omega); omega
            refine lv_iconst (v := 1) hx hb dX9_pairsOf_134 (by decide) ?_
            refine lv_iadd hx hb dX9_pairsOf_135 ?_
            refine lv_topi (fun y_15 ey_15 => ?_)
            have ty_15 : y_15.toInt = y_14.toInt + 1 := by rw [ey_15]; have := fb_addI (x := y_14) (y := 1) (by omega) (by omega); omega
            refine lv_i2l hx hb dX9_pairsOf_136 rfl ?_
            have ti_136 : (y_15.toInt64).toInt = y_15.toInt := Int32.toInt_toInt64 _
            refine lv_ladd hx hb dX9_pairsOf_137 ?_
            refine lv_topl (fun y_16 ey_16 => ?_)
            have ty_16 : y_16.toInt = n6.toInt + y_15.toInt64.toInt := by rw [ey_16]; have := fb_addL (x := n6) (y := y_15.toInt64) (by omega) (by omega); omega
            refine lv_lstore (lv' := [(6, .long y_16), (10, .int y_10), (9, .int y_8), (0, .ref h0), (1, .int p1), (2, .int p2), (3, .int p3), (4, .int p4), (5, .int y_3), (8, .int i8)]) hx hb dX9_pairsOf_138 hl (by decide) rfl (fun ls hl => ?_)
            obtain ⟨y_17, ey_17⟩ : ∃ y : Int32, y = i8 + 1 := ⟨_, rfl⟩
            have ty_17 : y_17.toInt = i8.toInt + 1 := by rw [ey_17]; have := fb_addI (x := i8) (y := 1) (by omega) (by omega); omega
            refine lv_iinc (v := y_17) (lv' := [(8, .int y_17), (6, .long y_16), (10, .int y_10), (9, .int y_8), (0, .ref h0), (1, .int p1), (2, .int p2), (3, .int p3), (4, .int p4), (5, .int y_3)]) hx hb dX9_pairsOf_140 hl (k := 9) rfl (by rw [ey_17]; rfl) (by decide) rfl (fun ls hl => ?_)
            refine lv_goto (tgt := 31) hx hb dX9_pairsOf_143 (by decide) ?_
            exact ih_31 y_16 y_17 (by omega) (by omega) (by rw [show (y_17.toInt + (Db p1.toNatClampNeg).toInt).toNat = (i8.toInt + (Db p1.toNatClampNeg).toInt).toNat + 1 by omega]; show _ = sumI _ _ _ + prI 0 _ _ (_ + (_ + _)); rw [show (-(Db p1.toNatClampNeg).toInt + (((i8.toInt + (Db p1.toNatClampNeg).toInt).toNat : Nat) : Int)) = i8.toInt by omega, ← hsum]; unfold prI; omega) (by omega) ls (lv_sub hl [4, 5, 6, 7, 8, 9, 1, 0] rfl)
          · have t_122 := mt (fa_le _ _).mpr c_122
            refine lv_lconst (v := 0) hx hb dX9_pairsOf_125 (by decide) ?_
            refine lv_goto (tgt := 137) hx hb dX9_pairsOf_126 (by decide) ?_
            refine lv_ladd hx hb dX9_pairsOf_137 ?_
            refine lv_topl (fun y_18 ey_18 => ?_)
            have ty_18 : y_18.toInt = n6.toInt + 0 := by rw [ey_18]; have := fb_addL (x := n6) (y := 0) (by omega) (by omega); omega
            refine lv_lstore (lv' := [(6, .long y_18), (10, .int y_10), (9, .int y_8), (0, .ref h0), (1, .int p1), (2, .int p2), (3, .int p3), (4, .int p4), (5, .int y_3), (8, .int i8)]) hx hb dX9_pairsOf_138 hl (by decide) rfl (fun ls hl => ?_)
            obtain ⟨y_19, ey_19⟩ : ∃ y : Int32, y = i8 + 1 := ⟨_, rfl⟩
            have ty_19 : y_19.toInt = i8.toInt + 1 := by rw [ey_19]; have := fb_addI (x := i8) (y := 1) (by omega) (by omega); omega
            refine lv_iinc (v := y_19) (lv' := [(8, .int y_19), (6, .long y_18), (10, .int y_10), (9, .int y_8), (0, .ref h0), (1, .int p1), (2, .int p2), (3, .int p3), (4, .int p4), (5, .int y_3)]) hx hb dX9_pairsOf_140 hl (k := 9) rfl (by rw [ey_19]; rfl) (by decide) rfl (fun ls hl => ?_)
            refine lv_goto (tgt := 31) hx hb dX9_pairsOf_143 (by decide) ?_
            exact ih_31 y_18 y_19 (by omega) (by omega) (by rw [show (y_19.toInt + (Db p1.toNatClampNeg).toInt).toNat = (i8.toInt + (Db p1.toNatClampNeg).toInt).toNat + 1 by omega]; show _ = sumI _ _ _ + prI 0 _ _ (_ + (_ + _)); rw [show (-(Db p1.toNatClampNeg).toInt + (((i8.toInt + (Db p1.toNatClampNeg).toInt).toNat : Nat) : Int)) = i8.toInt by omega, ← hsum]; unfold prI; omega) (by omega) ls (lv_sub hl [4, 5, 6, 7, 8, 9, 1, 0] rfl)
        · have t_100 := mt (fa_le _ _).mpr c_100
          refine lv_aload_n hx hb dX9_pairsOf_103 rfl (lv_at hl 2 rfl) ?_
          refine va_get (D := (dC, dI)) (ci := 9) (v := .ref a3) (C := RX9) (T := TX9) (N := 22) hx hb hts in_X9_pairsOfE_X9 hown hK hP 0 rfl rfl 3 (by decide) (hts (.fieldLink RX9 16 "MeetingsAboveModel" "doubts" "[I") (by decide +kernel)) (fun _ h9 => h9) rfl dX9_pairsOf_104 ?_
          refine lv_iload_n hx hb dX9_pairsOf_107 rfl (lv_at hl 4 rfl) ?_
          refine va_iald hx hb hK hP 3 0 rfl rfl (vp_in_iff.mpr ⟨by omega, by omega⟩) dX9_pairsOf_108 ?_
          refine lv_topi (fun y_20 ey_20 => ?_)
          have uy_20 : y_20.toInt = (Db (p2 : Int32).toNatClampNeg).toInt := by rw [ey_20]
          refine lv_goto (tgt := 114) hx hb dX9_pairsOf_109 (by decide) ?_
          refine lv_istore (lv' := [(10, .int y_20), (9, .int y_8), (0, .ref h0), (1, .int p1), (2, .int p2), (3, .int p3), (4, .int p4), (5, .int y_3), (6, .long n6), (8, .int i8)]) hx hb dX9_pairsOf_114 hl (by decide) rfl (fun ls hl => ?_)
          refine lv_lload hx hb dX9_pairsOf_116 (lv_at hl 8 rfl) ?_
          refine lv_iload hx hb dX9_pairsOf_118 (lv_at hl 0 rfl) ?_
          refine lv_iload hx hb dX9_pairsOf_120 (lv_at hl 1 rfl) ?_
          refine lv_icmp_ge (tgt := 129) hx hb dX9_pairsOf_122 (by decide) (fun c_122 => ?_) (fun c_122 => ?_)
          · have t_122 := (fa_le _ _).mp c_122
            refine lv_iload hx hb dX9_pairsOf_129 (lv_at hl 0 rfl) ?_
            refine lv_iload hx hb dX9_pairsOf_131 (lv_at hl 1 rfl) ?_
            refine lv_isub hx hb dX9_pairsOf_133 ?_
            refine lv_topi (fun y_21 ey_21 => ?_)
            have ty_21 : y_21.toInt = y_20.toInt - y_8.toInt := by rw [ey_21]; have := fb_subI (x := y_20) (y := y_8) (by omega) (by omega); omega
            refine lv_iconst (v := 1) hx hb dX9_pairsOf_134 (by decide) ?_
            refine lv_iadd hx hb dX9_pairsOf_135 ?_
            refine lv_topi (fun y_22 ey_22 => ?_)
            have ty_22 : y_22.toInt = y_21.toInt + 1 := by rw [ey_22]; have := fb_addI (x := y_21) (y := 1) (by omega) (by omega); omega
            refine lv_i2l hx hb dX9_pairsOf_136 rfl ?_
            have ti_136 : (y_22.toInt64).toInt = y_22.toInt := Int32.toInt_toInt64 _
            refine lv_ladd hx hb dX9_pairsOf_137 ?_
            refine lv_topl (fun y_23 ey_23 => ?_)
            have ty_23 : y_23.toInt = n6.toInt + y_22.toInt64.toInt := by rw [ey_23]; have := fb_addL (x := n6) (y := y_22.toInt64) (by omega) (by omega); omega
            refine lv_lstore (lv' := [(6, .long y_23), (10, .int y_20), (9, .int y_8), (0, .ref h0), (1, .int p1), (2, .int p2), (3, .int p3), (4, .int p4), (5, .int y_3), (8, .int i8)]) hx hb dX9_pairsOf_138 hl (by decide) rfl (fun ls hl => ?_)
            obtain ⟨y_24, ey_24⟩ : ∃ y : Int32, y = i8 + 1 := ⟨_, rfl⟩
            have ty_24 : y_24.toInt = i8.toInt + 1 := by rw [ey_24]; have := fb_addI (x := i8) (y := 1) (by omega) (by omega); omega
            refine lv_iinc (v := y_24) (lv' := [(8, .int y_24), (6, .long y_23), (10, .int y_20), (9, .int y_8), (0, .ref h0), (1, .int p1), (2, .int p2), (3, .int p3), (4, .int p4), (5, .int y_3)]) hx hb dX9_pairsOf_140 hl (k := 9) rfl (by rw [ey_24]; rfl) (by decide) rfl (fun ls hl => ?_)
            refine lv_goto (tgt := 31) hx hb dX9_pairsOf_143 (by decide) ?_
            exact ih_31 y_23 y_24 (by omega) (by omega) (by rw [show (y_24.toInt + (Db p1.toNatClampNeg).toInt).toNat = (i8.toInt + (Db p1.toNatClampNeg).toInt).toNat + 1 by omega]; show _ = sumI _ _ _ + prI 0 _ _ (_ + (_ + _)); rw [show (-(Db p1.toNatClampNeg).toInt + (((i8.toInt + (Db p1.toNatClampNeg).toInt).toNat : Nat) : Int)) = i8.toInt by omega, ← hsum]; unfold prI; omega) (by omega) ls (lv_sub hl [4, 5, 6, 7, 8, 9, 1, 0] rfl)
          · have t_122 := mt (fa_le _ _).mpr c_122
            refine lv_lconst (v := 0) hx hb dX9_pairsOf_125 (by decide) ?_
            refine lv_goto (tgt := 137) hx hb dX9_pairsOf_126 (by decide) ?_
            refine lv_ladd hx hb dX9_pairsOf_137 ?_
            refine lv_topl (fun y_25 ey_25 => ?_)
            have ty_25 : y_25.toInt = n6.toInt + 0 := by rw [ey_25]; have := fb_addL (x := n6) (y := 0) (by omega) (by omega); omega
            refine lv_lstore (lv' := [(6, .long y_25), (10, .int y_20), (9, .int y_8), (0, .ref h0), (1, .int p1), (2, .int p2), (3, .int p3), (4, .int p4), (5, .int y_3), (8, .int i8)]) hx hb dX9_pairsOf_138 hl (by decide) rfl (fun ls hl => ?_)
            obtain ⟨y_26, ey_26⟩ : ∃ y : Int32, y = i8 + 1 := ⟨_, rfl⟩
            have ty_26 : y_26.toInt = i8.toInt + 1 := by rw [ey_26]; have := fb_addI (x := i8) (y := 1) (by omega) (by omega); omega
            refine lv_iinc (v := y_26) (lv' := [(8, .int y_26), (6, .long y_25), (10, .int y_20), (9, .int y_8), (0, .ref h0), (1, .int p1), (2, .int p2), (3, .int p3), (4, .int p4), (5, .int y_3)]) hx hb dX9_pairsOf_140 hl (k := 9) rfl (by rw [ey_26]; rfl) (by decide) rfl (fun ls hl => ?_)
            refine lv_goto (tgt := 31) hx hb dX9_pairsOf_143 (by decide) ?_
            exact ih_31 y_25 y_26 (by omega) (by omega) (by rw [show (y_26.toInt + (Db p1.toNatClampNeg).toInt).toNat = (i8.toInt + (Db p1.toNatClampNeg).toInt).toNat + 1 by omega]; show _ = sumI _ _ _ + prI 0 _ _ (_ + (_ + _)); rw [show (-(Db p1.toNatClampNeg).toInt + (((i8.toInt + (Db p1.toNatClampNeg).toInt).toNat : Nat) : Int)) = i8.toInt by omega, ← hsum]; unfold prI; omega) (by omega) ls (lv_sub hl [4, 5, 6, 7, 8, 9, 1, 0] rfl)
      · have t_75 := mt (fa_le _ _).mpr c_75
        refine lv_aload_n hx hb dX9_pairsOf_78 rfl (lv_at hl 2 rfl) ?_
        refine va_get (D := (dC, dI)) (ci := 9) (v := .ref a3) (C := RX9) (T := TX9) (N := 22) hx hb hts in_X9_pairsOfE_X9 hown hK hP 0 rfl rfl 3 (by decide) (hts (.fieldLink RX9 16 "MeetingsAboveModel" "doubts" "[I") (by decide +kernel)) (fun _ h9 => h9) rfl dX9_pairsOf_79 ?_
        refine lv_iload_n hx hb dX9_pairsOf_82 rfl (lv_at hl 4 rfl) ?_
        refine va_iald hx hb hK hP 3 0 rfl rfl (vp_in_iff.mpr ⟨by omega, by omega⟩) dX9_pairsOf_83 ?_
        refine lv_topi (fun y_27 ey_27 => ?_)
        have uy_27 : y_27.toInt = (Db (p2 : Int32).toNatClampNeg).toInt := by rw [ey_27]
        refine lv_ineg hx hb dX9_pairsOf_84 ?_
        refine lv_topi (fun y_28 ey_28 => ?_)
        have ty_28 : y_28.toInt = -y_27.toInt := by rw [ey_28]; exact fb_negI (by omega)
        refine lv_goto (tgt := 90) hx hb dX9_pairsOf_85 (by decide) ?_
        refine lv_istore (lv' := [(9, .int y_28), (10, .int y_10), (0, .ref h0), (1, .int p1), (2, .int p2), (3, .int p3), (4, .int p4), (5, .int y_3), (6, .long n6), (8, .int i8)]) hx hb dX9_pairsOf_90 hl (by decide) rfl (fun ls hl => ?_)
        refine lv_iload hx hb dX9_pairsOf_92 (lv_at hl 1 rfl) ?_
        refine lv_aload_n hx hb dX9_pairsOf_94 rfl (lv_at hl 2 rfl) ?_
        refine va_get (D := (dC, dI)) (ci := 9) (v := .ref a3) (C := RX9) (T := TX9) (N := 22) hx hb hts in_X9_pairsOfE_X9 hown hK hP 0 rfl rfl 3 (by decide) (hts (.fieldLink RX9 16 "MeetingsAboveModel" "doubts" "[I") (by decide +kernel)) (fun _ h9 => h9) rfl dX9_pairsOf_95 ?_
        refine lv_iload_n hx hb dX9_pairsOf_98 rfl (lv_at hl 4 rfl) ?_
        refine va_iald hx hb hK hP 3 0 rfl rfl (vp_in_iff.mpr ⟨by omega, by omega⟩) dX9_pairsOf_99 ?_
        refine lv_topi (fun y_29 ey_29 => ?_)
        have uy_29 : y_29.toInt = (Db (p2 : Int32).toNatClampNeg).toInt := by rw [ey_29]
        refine lv_icmp_le (tgt := 112) hx hb dX9_pairsOf_100 (by decide) (fun c_100 => ?_) (fun c_100 => ?_)
        · have t_100 := (fa_le _ _).mp c_100
          refine lv_iload hx hb dX9_pairsOf_112 (lv_at hl 1 rfl) ?_
          refine lv_istore (lv' := [(10, .int y_10), (9, .int y_28), (0, .ref h0), (1, .int p1), (2, .int p2), (3, .int p3), (4, .int p4), (5, .int y_3), (6, .long n6), (8, .int i8)]) hx hb dX9_pairsOf_114 hl (by decide) rfl (fun ls hl => ?_)
          refine lv_lload hx hb dX9_pairsOf_116 (lv_at hl 8 rfl) ?_
          refine lv_iload hx hb dX9_pairsOf_118 (lv_at hl 0 rfl) ?_
          refine lv_iload hx hb dX9_pairsOf_120 (lv_at hl 1 rfl) ?_
          refine lv_icmp_ge (tgt := 129) hx hb dX9_pairsOf_122 (by decide) (fun c_122 => ?_) (fun c_122 => ?_)
          · have t_122 := (fa_le _ _).mp c_122
            refine lv_iload hx hb dX9_pairsOf_129 (lv_at hl 0 rfl) ?_
            refine lv_iload hx hb dX9_pairsOf_131 (lv_at hl 1 rfl) ?_
            refine lv_isub hx hb dX9_pairsOf_133 ?_
            refine lv_topi (fun y_30 ey_30 => ?_)
            have ty_30 : y_30.toInt = y_10.toInt - y_28.toInt := by rw [ey_30]; have := fb_subI (x := y_10) (y := y_28) (by omega) (by omega); omega
            refine lv_iconst (v := 1) hx hb dX9_pairsOf_134 (by decide) ?_
            refine lv_iadd hx hb dX9_pairsOf_135 ?_
            refine lv_topi (fun y_31 ey_31 => ?_)
            have ty_31 : y_31.toInt = y_30.toInt + 1 := by rw [ey_31]; have := fb_addI (x := y_30) (y := 1) (by omega) (by omega); omega
            refine lv_i2l hx hb dX9_pairsOf_136 rfl ?_
            have ti_136 : (y_31.toInt64).toInt = y_31.toInt := Int32.toInt_toInt64 _
            refine lv_ladd hx hb dX9_pairsOf_137 ?_
            refine lv_topl (fun y_32 ey_32 => ?_)
            have ty_32 : y_32.toInt = n6.toInt + y_31.toInt64.toInt := by rw [ey_32]; have := fb_addL (x := n6) (y := y_31.toInt64) (by omega) (by omega); omega
            refine lv_lstore (lv' := [(6, .long y_32), (10, .int y_10), (9, .int y_28), (0, .ref h0), (1, .int p1), (2, .int p2), (3, .int p3), (4, .int p4), (5, .int y_3), (8, .int i8)]) hx hb dX9_pairsOf_138 hl (by decide) rfl (fun ls hl => ?_)
            obtain ⟨y_33, ey_33⟩ : ∃ y : Int32, y = i8 + 1 := ⟨_, rfl⟩
            have ty_33 : y_33.toInt = i8.toInt + 1 := by rw [ey_33]; have := fb_addI (x := i8) (y := 1) (by omega) (by omega); omega
            refine lv_iinc (v := y_33) (lv' := [(8, .int y_33), (6, .long y_32), (10, .int y_10), (9, .int y_28), (0, .ref h0), (1, .int p1), (2, .int p2), (3, .int p3), (4, .int p4), (5, .int y_3)]) hx hb dX9_pairsOf_140 hl (k := 9) rfl (by rw [ey_33]; rfl) (by decide) rfl (fun ls hl => ?_)
            refine lv_goto (tgt := 31) hx hb dX9_pairsOf_143 (by decide) ?_
            exact ih_31 y_32 y_33 (by omega) (by omega) (by rw [show (y_33.toInt + (Db p1.toNatClampNeg).toInt).toNat = (i8.toInt + (Db p1.toNatClampNeg).toInt).toNat + 1 by omega]; show _ = sumI _ _ _ + prI 0 _ _ (_ + (_ + _)); rw [show (-(Db p1.toNatClampNeg).toInt + (((i8.toInt + (Db p1.toNatClampNeg).toInt).toNat : Nat) : Int)) = i8.toInt by omega, ← hsum]; unfold prI; omega) (by omega) ls (lv_sub hl [4, 5, 6, 7, 8, 9, 1, 0] rfl)
          · have t_122 := mt (fa_le _ _).mpr c_122
            refine lv_lconst (v := 0) hx hb dX9_pairsOf_125 (by decide) ?_
            refine lv_goto (tgt := 137) hx hb dX9_pairsOf_126 (by decide) ?_
            refine lv_ladd hx hb dX9_pairsOf_137 ?_
            refine lv_topl (fun y_34 ey_34 => ?_)
            have ty_34 : y_34.toInt = n6.toInt + 0 := by rw [ey_34]; have := fb_addL (x := n6) (y := 0) (by omega) (by omega); omega
            refine lv_lstore (lv' := [(6, .long y_34), (10, .int y_10), (9, .int y_28), (0, .ref h0), (1, .int p1), (2, .int p2), (3, .int p3), (4, .int p4), (5, .int y_3), (8, .int i8)]) hx hb dX9_pairsOf_138 hl (by decide) rfl (fun ls hl => ?_)
            obtain ⟨y_35, ey_35⟩ : ∃ y : Int32, y = i8 + 1 := ⟨_, rfl⟩
            have ty_35 : y_35.toInt = i8.toInt + 1 := by rw [ey_35]; have := fb_addI (x := i8) (y := 1) (by omega) (by omega); omega
            refine lv_iinc (v := y_35) (lv' := [(8, .int y_35), (6, .long y_34), (10, .int y_10), (9, .int y_28), (0, .ref h0), (1, .int p1), (2, .int p2), (3, .int p3), (4, .int p4), (5, .int y_3)]) hx hb dX9_pairsOf_140 hl (k := 9) rfl (by rw [ey_35]; rfl) (by decide) rfl (fun ls hl => ?_)
            refine lv_goto (tgt := 31) hx hb dX9_pairsOf_143 (by decide) ?_
            exact ih_31 y_34 y_35 (by omega) (by omega) (by rw [show (y_35.toInt + (Db p1.toNatClampNeg).toInt).toNat = (i8.toInt + (Db p1.toNatClampNeg).toInt).toNat + 1 by omega]; show _ = sumI _ _ _ + prI 0 _ _ (_ + (_ + _)); rw [show (-(Db p1.toNatClampNeg).toInt + (((i8.toInt + (Db p1.toNatClampNeg).toInt).toNat : Nat) : Int)) = i8.toInt by omega, ← hsum]; unfold prI; omega) (by omega) ls (lv_sub hl [4, 5, 6, 7, 8, 9, 1, 0] rfl)
        · have t_100 := mt (fa_le _ _).mpr c_100
          refine lv_aload_n hx hb dX9_pairsOf_103 rfl (lv_at hl 2 rfl) ?_
          refine va_get (D := (dC, dI)) (ci := 9) (v := .ref a3) (C := RX9) (T := TX9) (N := 22) hx hb hts in_X9_pairsOfE_X9 hown hK hP 0 rfl rfl 3 (by decide) (hts (.fieldLink RX9 16 "MeetingsAboveModel" "doubts" "[I") (by decide +kernel)) (fun _ h9 => h9) rfl dX9_pairsOf_104 ?_
          refine lv_iload_n hx hb dX9_pairsOf_107 rfl (lv_at hl 4 rfl) ?_
          refine va_iald hx hb hK hP 3 0 rfl rfl (vp_in_iff.mpr ⟨by omega, by omega⟩) dX9_pairsOf_108 ?_
          refine lv_topi (fun y_36 ey_36 => ?_)
          have uy_36 : y_36.toInt = (Db (p2 : Int32).toNatClampNeg).toInt := by rw [ey_36]
          refine lv_goto (tgt := 114) hx hb dX9_pairsOf_109 (by decide) ?_
          refine lv_istore (lv' := [(10, .int y_36), (9, .int y_28), (0, .ref h0), (1, .int p1), (2, .int p2), (3, .int p3), (4, .int p4), (5, .int y_3), (6, .long n6), (8, .int i8)]) hx hb dX9_pairsOf_114 hl (by decide) rfl (fun ls hl => ?_)
          refine lv_lload hx hb dX9_pairsOf_116 (lv_at hl 8 rfl) ?_
          refine lv_iload hx hb dX9_pairsOf_118 (lv_at hl 0 rfl) ?_
          refine lv_iload hx hb dX9_pairsOf_120 (lv_at hl 1 rfl) ?_
          refine lv_icmp_ge (tgt := 129) hx hb dX9_pairsOf_122 (by decide) (fun c_122 => ?_) (fun c_122 => ?_)
          · have t_122 := (fa_le _ _).mp c_122
            refine lv_iload hx hb dX9_pairsOf_129 (lv_at hl 0 rfl) ?_
            refine lv_iload hx hb dX9_pairsOf_131 (lv_at hl 1 rfl) ?_
            refine lv_isub hx hb dX9_pairsOf_133 ?_
            refine lv_topi (fun y_37 ey_37 => ?_)
            have ty_37 : y_37.toInt = y_36.toInt - y_28.toInt := by rw [ey_37]; have := fb_subI (x := y_36) (y := y_28) (by omega) (by omega); omega
            refine lv_iconst (v := 1) hx hb dX9_pairsOf_134 (by decide) ?_
            refine lv_iadd hx hb dX9_pairsOf_135 ?_
            refine lv_topi (fun y_38 ey_38 => ?_)
            have ty_38 : y_38.toInt = y_37.toInt + 1 := by rw [ey_38]; have := fb_addI (x := y_37) (y := 1) (by omega) (by omega); omega
            refine lv_i2l hx hb dX9_pairsOf_136 rfl ?_
            have ti_136 : (y_38.toInt64).toInt = y_38.toInt := Int32.toInt_toInt64 _
            refine lv_ladd hx hb dX9_pairsOf_137 ?_
            refine lv_topl (fun y_39 ey_39 => ?_)
            have ty_39 : y_39.toInt = n6.toInt + y_38.toInt64.toInt := by rw [ey_39]; have := fb_addL (x := n6) (y := y_38.toInt64) (by omega) (by omega); omega
            refine lv_lstore (lv' := [(6, .long y_39), (10, .int y_36), (9, .int y_28), (0, .ref h0), (1, .int p1), (2, .int p2), (3, .int p3), (4, .int p4), (5, .int y_3), (8, .int i8)]) hx hb dX9_pairsOf_138 hl (by decide) rfl (fun ls hl => ?_)
            obtain ⟨y_40, ey_40⟩ : ∃ y : Int32, y = i8 + 1 := ⟨_, rfl⟩
            have ty_40 : y_40.toInt = i8.toInt + 1 := by rw [ey_40]; have := fb_addI (x := i8) (y := 1) (by omega) (by omega); omega
            refine lv_iinc (v := y_40) (lv' := [(8, .int y_40), (6, .long y_39), (10, .int y_36), (9, .int y_28), (0, .ref h0), (1, .int p1), (2, .int p2), (3, .int p3), (4, .int p4), (5, .int y_3)]) hx hb dX9_pairsOf_140 hl (k := 9) rfl (by rw [ey_40]; rfl) (by decide) rfl (fun ls hl => ?_)
            refine lv_goto (tgt := 31) hx hb dX9_pairsOf_143 (by decide) ?_
            exact ih_31 y_39 y_40 (by omega) (by omega) (by rw [show (y_40.toInt + (Db p1.toNatClampNeg).toInt).toNat = (i8.toInt + (Db p1.toNatClampNeg).toInt).toNat + 1 by omega]; show _ = sumI _ _ _ + prI 0 _ _ (_ + (_ + _)); rw [show (-(Db p1.toNatClampNeg).toInt + (((i8.toInt + (Db p1.toNatClampNeg).toInt).toNat : Nat) : Int)) = i8.toInt by omega, ← hsum]; unfold prI; omega) (by omega) ls (lv_sub hl [4, 5, 6, 7, 8, 9, 1, 0] rfl)
          · have t_122 := mt (fa_le _ _).mpr c_122
            refine lv_lconst (v := 0) hx hb dX9_pairsOf_125 (by decide) ?_
            refine lv_goto (tgt := 137) hx hb dX9_pairsOf_126 (by decide) ?_
            refine lv_ladd hx hb dX9_pairsOf_137 ?_
            refine lv_topl (fun y_41 ey_41 => ?_)
            have ty_41 : y_41.toInt = n6.toInt + 0 := by rw [ey_41]; have := fb_addL (x := n6) (y := 0) (by omega) (by omega); omega
            refine lv_lstore (lv' := [(6, .long y_41), (10, .int y_36), (9, .int y_28), (0, .ref h0), (1, .int p1), (2, .int p2), (3, .int p3), (4, .int p4), (5, .int y_3), (8, .int i8)]) hx hb dX9_pairsOf_138 hl (by decide) rfl (fun ls hl => ?_)
            obtain ⟨y_42, ey_42⟩ : ∃ y : Int32, y = i8 + 1 := ⟨_, rfl⟩
            have ty_42 : y_42.toInt = i8.toInt + 1 := by rw [ey_42]; have := fb_addI (x := i8) (y := 1) (by omega) (by omega); omega
            refine lv_iinc (v := y_42) (lv' := [(8, .int y_42), (6, .long y_41), (10, .int y_36), (9, .int y_28), (0, .ref h0), (1, .int p1), (2, .int p2), (3, .int p3), (4, .int p4), (5, .int y_3)]) hx hb dX9_pairsOf_140 hl (k := 9) rfl (by rw [ey_42]; rfl) (by decide) rfl (fun ls hl => ?_)
            refine lv_goto (tgt := 31) hx hb dX9_pairsOf_143 (by decide) ?_
            exact ih_31 y_41 y_42 (by omega) (by omega) (by rw [show (y_42.toInt + (Db p1.toNatClampNeg).toInt).toNat = (i8.toInt + (Db p1.toNatClampNeg).toInt).toNat + 1 by omega]; show _ = sumI _ _ _ + prI 0 _ _ (_ + (_ + _)); rw [show (-(Db p1.toNatClampNeg).toInt + (((i8.toInt + (Db p1.toNatClampNeg).toInt).toNat : Nat) : Int)) = i8.toInt by omega, ← hsum]; unfold prI; omega) (by omega) ls (lv_sub hl [4, 5, 6, 7, 8, 9, 1, 0] rfl)
def wk_X9_shareE : List Cond := .code yX9_share cX9_share 13 (some .long) :: (([.constantLong RX9 62 39, .constantLong RX9 164 (-100003), .constantLong RX9 86 2, .fieldLink RX9 16 "MeetingsAboveModel" "doubts" "[I", .constantLong RX9 162 (-100002), .constantLong RX9 158 (-100001)] : List Cond) ++ (wsX90 ++ ((wsV RX9 80 RX9 yX9_isThing wk_X9_isThing) ++ ((va_wsS RX9 55 yX9_in wk_X9_in) ++ ((wsV RX9 90 RX9 yX9_hasPlace wk_X9_hasPlace) ++ ((wsV RX9 178 RX9 yX9_pairsOf wk_X9_pairsOfE) ++ ((va_wsS RX9 166 yX9_common wk_X9_commonE) ++ ([]))))))))
theorem in_X9_shareE_X9 : ∀ w ∈ wsX90, w ∈ wk_X9_shareE := fun _ h => List.mem_cons_of_mem _ (List.mem_append_right _ (List.mem_append_left _ h))
theorem gw_X9_shareE : AG wk_X9_shareE := AG_ca (AG_l (by decide +kernel)) (AG_app ag_X9 (AG_app (AG_V gw_X9_isThing) (AG_app (AG_S gw_X9_in) (AG_app (AG_V gw_X9_hasPlace) (AG_app (AG_V gw_X9_pairsOfE) (AG_app (AG_S gw_X9_commonE) (AG_nil)))))))
theorem g_X9_shareE__X9_isThing_80 : GoodIn wk_X9_shareE (wsV RX9 80 RX9 yX9_isThing wk_X9_isThing) := goodIn_m (fun _ h => List.mem_cons_of_mem _ (List.mem_append_right _ (List.mem_append_right _ (List.mem_append_left _ h)))) (AG_V gw_X9_isThing)
theorem g_X9_shareE__X9_in_55 : GoodIn wk_X9_shareE (va_wsS RX9 55 yX9_in wk_X9_in) := goodIn_m (fun _ h => List.mem_cons_of_mem _ (List.mem_append_right _ (List.mem_append_right _ (List.mem_append_right _ (List.mem_append_left _ h))))) (AG_S gw_X9_in)
theorem g_X9_shareE__X9_hasPlace_90 : GoodIn wk_X9_shareE (wsV RX9 90 RX9 yX9_hasPlace wk_X9_hasPlace) := goodIn_m (fun _ h => List.mem_cons_of_mem _ (List.mem_append_right _ (List.mem_append_right _ (List.mem_append_right _ (List.mem_append_right _ (List.mem_append_left _ h)))))) (AG_V gw_X9_hasPlace)
theorem g_X9_shareE__X9_pairsOfE_178 : GoodIn wk_X9_shareE (wsV RX9 178 RX9 yX9_pairsOf wk_X9_pairsOfE) := goodIn_m (fun _ h => List.mem_cons_of_mem _ (List.mem_append_right _ (List.mem_append_right _ (List.mem_append_right _ (List.mem_append_right _ (List.mem_append_right _ (List.mem_append_left _ h))))))) (AG_V gw_X9_pairsOfE)
theorem g_X9_shareE__X9_commonE_166 : GoodIn wk_X9_shareE (va_wsS RX9 166 yX9_common wk_X9_commonE) := goodIn_m (fun _ h => List.mem_cons_of_mem _ (List.mem_append_right _ (List.mem_append_right _ (List.mem_append_right _ (List.mem_append_right _ (List.mem_append_right _ (List.mem_append_right _ (List.mem_append_left _ h)))))))) (AG_S gw_X9_commonE)
set_option maxHeartbeats 4000000 in
set_option maxRecDepth 100000 in
theorem c_X9_shareE (l : Launch) (dC : Nat → ClassId) (dI : Nat → Nat → Nat) (Go : Nat → Int32) (h0 : Nat) (a1 : Nat) (a2 : Nat) (a3 : Nat) (a4 : Nat) (a5 : Nat) (a6 : Nat) (a7 : Nat) (a8 : Nat) (a9 : Nat) (a10 : Nat) (a11 : Nat) (th : Int32) (ne : Int32) (wi : Int32) (dn : Int32) (nn : Int32) (la : Int32) (wh : Int32) (up : Int64) (lw : Int64) (pu : Int64) (pw : Int64) (cI : ClassId) (Fi : Nat → Int32) (Ma : Nat → Int32) (Db : Nat → Int32) (Sp : Nat → Int32) (p1 : Int32) (p2 : Int32) (p3 : Int32) (p4 : Int32) (hM : mOK th Fi Ma) (hDb : dOK th Db) (hTk : ∀ k : Nat, (k : Int) < th.toInt → tvOK (mTV Fi Ma Db Go Sp k)) (hwi0 : 0 ≤ wi.toInt) (hwi1 : wi.toInt ≤ 400) : Met l yX9_share wk_X9_shareE ({ frames := 2, cells := 0, slots := 0, locals := 53 }) (va_Pc [.ref h0, .int p1, .int p2, .int p3, .int p4] (fun U => va_P (dC, dI) vwCl [(h0, .inr (9, [.int th, .ref a1, .ref a2, .ref a3, .ref a4, .ref a5, .int ne, .int wi, .int dn, .ref a6, .ref a7, .int nn, .ref a8, .int la, .ref a9, .ref a10, .long up, .long lw, .int wh, .long pu, .long pw, .ref a11])), (a1, .inl (cI, 16, .inl Fi)), (a2, .inl (cI, 16, .inl Ma)), (a3, .inl (cI, 16, .inl Db)), (a5, .inl (cI, 576, .inl Sp))] U.heap ∧ va_K (dC, dI) vwCl [(cI, .int)] U)) (vp_Sl (fun r => (¬ ((0 ≤ p1.toInt ∧ p1.toInt < th.toInt) ∧ (0 ≤ p2.toInt ∧ p2.toInt < th.toInt)) ∧ r = -100001) ∨ (((0 ≤ p1.toInt ∧ p1.toInt < th.toInt) ∧ (0 ≤ p2.toInt ∧ p2.toInt < th.toInt)) ∧ ¬ ((0 ≤ p3.toInt ∧ p3.toInt ≤ 39) ∧ (0 ≤ p4.toInt ∧ p4.toInt ≤ 1)) ∧ r = -100002) ∨ (((0 ≤ p1.toInt ∧ p1.toInt < th.toInt) ∧ (0 ≤ p2.toInt ∧ p2.toInt < th.toInt)) ∧ ((0 ≤ p3.toInt ∧ p3.toInt ≤ 39) ∧ (0 ≤ p4.toInt ∧ p4.toInt ≤ 1)) ∧ ¬ (p1.toInt ≠ p2.toInt ∧ hpl (mTV Fi Ma Db Go Sp p1.toNatClampNeg) p3.toInt ∧ hpl (mTV Fi Ma Db Go Sp p2.toNatClampNeg) p3.toInt) ∧ r = -100003) ∨ (((0 ≤ p1.toInt ∧ p1.toInt < th.toInt) ∧ (0 ≤ p2.toInt ∧ p2.toInt < th.toInt)) ∧ ((0 ≤ p3.toInt ∧ p3.toInt ≤ 39) ∧ (0 ≤ p4.toInt ∧ p4.toInt ≤ 1)) ∧ (p1.toInt ≠ p2.toInt ∧ hpl (mTV Fi Ma Db Go Sp p1.toNatClampNeg) p3.toInt ∧ hpl (mTV Fi Ma Db Go Sp p2.toNatClampNeg) p3.toInt) ∧ p4.toInt = 0 ∧ r.toInt = shU (mTV Fi Ma Db Go Sp p1.toNatClampNeg) (mTV Fi Ma Db Go Sp p2.toNatClampNeg) p3.toInt wi.toInt / (gN (shU (mTV Fi Ma Db Go Sp p1.toNatClampNeg) (mTV Fi Ma Db Go Sp p2.toNatClampNeg) p3.toInt wi.toInt) (shL (mTV Fi Ma Db Go Sp p1.toNatClampNeg) (mTV Fi Ma Db Go Sp p2.toNatClampNeg)) : Nat)) ∨ (((0 ≤ p1.toInt ∧ p1.toInt < th.toInt) ∧ (0 ≤ p2.toInt ∧ p2.toInt < th.toInt)) ∧ ((0 ≤ p3.toInt ∧ p3.toInt ≤ 39) ∧ (0 ≤ p4.toInt ∧ p4.toInt ≤ 1)) ∧ (p1.toInt ≠ p2.toInt ∧ hpl (mTV Fi Ma Db Go Sp p1.toNatClampNeg) p3.toInt ∧ hpl (mTV Fi Ma Db Go Sp p2.toNatClampNeg) p3.toInt) ∧ p4.toInt = 1 ∧ r.toInt = shL (mTV Fi Ma Db Go Sp p1.toNatClampNeg) (mTV Fi Ma Db Go Sp p2.toNatClampNeg) / (gN (shU (mTV Fi Ma Db Go Sp p1.toNatClampNeg) (mTV Fi Ma Db Go Sp p2.toNatClampNeg) p3.toInt wi.toInt) (shL (mTV Fi Ma Db Go Sp p1.toNatClampNeg) (mTV Fi Ma Db Go Sp p2.toNatClampNeg)) : Nat)))) 0 0 (fun _ => False) := by
  refine Met.ofW (cc := cX9_share) (maxL := 13) (ret := (some .long)) (by decide) rfl ?_
  intro p e s m args below meth c s₁ B hml hv
  obtain ⟨rfl, hP, hK⟩ := hv
  have hx := B.exec
  have hb := B.bytes
  have hr := B.returns
  have hts := atoms_spec (ws := wk_X9_shareE) B.pre
  have hown : s.vm.findClass RX9 = some m.cls := findClass_of_methodNamed B.named
  have hlocks := B.notSynchronized
  have hP : va_P (dC, dI) vwCl [(h0, .inr (9, [.int th, .ref a1, .ref a2, .ref a3, .ref a4, .ref a5, .int ne, .int wi, .int dn, .ref a6, .ref a7, .int nn, .ref a8, .int la, .ref a9, .ref a10, .long up, .long lw, .int wh, .long pu, .long pw, .ref a11])), (a1, .inl (cI, 16, .inl Fi)), (a2, .inl (cI, 16, .inl Ma)), (a3, .inl (cI, 16, .inl Db)), (a5, .inl (cI, 576, .inl Sp))] s.heap := hP
  have hl := lv_entry ([.ref h0, .int p1, .int p2, .int p3, .int p4]) (n := 13) (Nat.le_of_ble_eq_true rfl)
  rw [lg_entry_eq]
  generalize (lg_sl ([.ref h0, .int p1, .int p2, .int p3, .int p4]) ++ List.replicate (13 - (lg_sl ([.ref h0, .int p1, .int p2, .int p3, .int p4])).length) Slot.unset).toArray = ls at hl ⊢
  have hl : lv_has ls 13 [(0, .ref h0), (1, .int p1), (2, .int p2), (3, .int p3), (4, .int p4)] := hl
  have kl_0 : (0 : Int32).toInt = 0 := by decide
  have kl_1 : (1 : Int32).toInt = 1 := by decide
  have kl_2 : (2 : Int32).toInt = 2 := by decide
  have kl_39 : (39 : Int32).toInt = 39 := by decide
  have klL_m100003 : (-100003 : Int64).toInt = -100003 := by decide
  have klL_m100002 : (-100002 : Int64).toInt = -100002 := by decide
  have klL_m100001 : (-100001 : Int64).toInt = -100001 := by decide
  have klL_0 : (0 : Int64).toInt = 0 := by decide
  have klL_1 : (1 : Int64).toInt = 1 := by decide
  have klL_2 : (2 : Int64).toInt = 2 := by decide
  have klL_39 : (39 : Int64).toInt = 39 := by decide
  obtain ⟨hM0, hM1, hM2⟩ := id hM
  refine lv_aload_n hx hb dX9_share_0 rfl (lv_at hl 0 rfl) ?_
  refine lv_iload_n hx hb dX9_share_1 rfl (lv_at hl 1 rfl) ?_
  have hPc := hP.sub (ws' := [(h0, .inr (9, [.int th, .ref a1, .ref a2, .ref a3, .ref a4, .ref a5, .int ne, .int wi, .int dn, .ref a6, .ref a7, .int nn, .ref a8, .int la, .ref a9, .ref a10, .long up, .long lw, .int wh, .long pu, .long pw, .ref a11]))]) [0] rfl
  have hKc := hK.sub (tys' := []) [] rfl
  refine vp_callSi (W.runV (As := [.int p1]) (rest := []) ⟨hx, hb, hml, hown, hts⟩ (c_X9_isThing l dC dI h0 a1 a2 a3 a4 a5 a6 a7 a8 a9 a10 a11 th ne wi dn nn la wh up lw pu pw p1 (by first | omega | assumption) (by first | omega | assumption)) (cwV 1 hts g_X9_shareE__X9_isThing_80 rfl rfl rfl (by decide +kernel) ⟨Nat.le_of_ble_eq_true rfl, Nat.le_of_ble_eq_true rfl⟩) ⟨fun a U g mk q => by obtain ⟨q0, qP, qK⟩ := q; exact ⟨q0, qP, va_K.moved (u := U) (U := U.calling g mk a) (Vm.Alike.refl U.vm) qK⟩, va_recv hKc hPc (ci := 9) (q0 := 0) rfl rfl, fun U hU hW => ⟨rfl, by rw [hU]; exact hPc, va_K.moved hW.alike hKc⟩⟩ rfl rfl hl.1 rfl (lv_room (Nat.le_of_ble_eq_true rfl)) dX9_share_2 ⟨Nat.le_of_ble_eq_true rfl, Nat.le_of_ble_eq_true rfl⟩) (fun r_1 hr_1 => ?_)
  try dsimp only at hr_1
  rcases bo_split hr_1 with ⟨rfl, q_2⟩ | ⟨rfl, q_2⟩
  · refine lv_if_eq (tgt := 16) hx hb dX9_share_5 (by decide) (fun h9 => absurd h9 (by decide)) (fun _ => ?_)
    refine lv_aload_n hx hb dX9_share_8 rfl (lv_at hl 0 rfl) ?_
    refine lv_iload_n hx hb dX9_share_9 rfl (lv_at hl 2 rfl) ?_
    have hPc := hP.sub (ws' := [(h0, .inr (9, [.int th, .ref a1, .ref a2, .ref a3, .ref a4, .ref a5, .int ne, .int wi, .int dn, .ref a6, .ref a7, .int nn, .ref a8, .int la, .ref a9, .ref a10, .long up, .long lw, .int wh, .long pu, .long pw, .ref a11]))]) [0] rfl
    have hKc := hK.sub (tys' := []) [] rfl
    refine vp_callSi (W.runV (As := [.int p2]) (rest := []) ⟨hx, hb, hml, hown, hts⟩ (c_X9_isThing l dC dI h0 a1 a2 a3 a4 a5 a6 a7 a8 a9 a10 a11 th ne wi dn nn la wh up lw pu pw p2 (by first | omega | assumption) (by first | omega | assumption)) (cwV 1 hts g_X9_shareE__X9_isThing_80 rfl rfl rfl (by decide +kernel) ⟨Nat.le_of_ble_eq_true rfl, Nat.le_of_ble_eq_true rfl⟩) ⟨fun a U g mk q => by obtain ⟨q0, qP, qK⟩ := q; exact ⟨q0, qP, va_K.moved (u := U) (U := U.calling g mk a) (Vm.Alike.refl U.vm) qK⟩, va_recv hKc hPc (ci := 9) (q0 := 0) rfl rfl, fun U hU hW => ⟨rfl, by rw [hU]; exact hPc, va_K.moved hW.alike hKc⟩⟩ rfl rfl hl.1 rfl (lv_room (Nat.le_of_ble_eq_true rfl)) dX9_share_10 ⟨Nat.le_of_ble_eq_true rfl, Nat.le_of_ble_eq_true rfl⟩) (fun r_2 hr_2 => ?_)
    try dsimp only at hr_2
    rcases bo_split hr_2 with ⟨rfl, q_10⟩ | ⟨rfl, q_10⟩
    · refine lv_if_ne (tgt := 20) hx hb dX9_share_13 (by decide) (fun _ => ?_) (fun h9 => absurd h9 (by decide))
      refine lv_iload_n hx hb dX9_share_20 rfl (lv_at hl 3 rfl) ?_
      refine lv_i2l hx hb dX9_share_21 rfl ?_
      have ti_21 : (p3.toInt64).toInt = p3.toInt := Int32.toInt_toInt64 _
      refine lv_lconst (v := 0) hx hb dX9_share_22 (by decide) ?_
      refine lv_ldc2 hx hb hown (hts (.constantLong RX9 62 39) (by decide +kernel)) dX9_share_23 ?_
      refine vp_callSi (W.runS (As := [.long p3.toInt64, .long 0, .long 39]) (rest := []) ⟨hx, hb, hml, hown, hts⟩ (c_X9_in l dC dI p3.toInt64 0 39) (va_cwS 3 hts g_X9_shareE__X9_in_55 rfl rfl rfl (by decide +kernel) ⟨Nat.le_of_ble_eq_true rfl, Nat.le_of_ble_eq_true rfl⟩) ⟨fun a U g mk q => by obtain ⟨q0, q1⟩ := q; exact ⟨q0, q1⟩, fun U hU hW => ⟨rfl, trivial⟩⟩ rfl rfl hl.1 rfl (lv_room (Nat.le_of_ble_eq_true rfl)) dX9_share_26 ⟨Nat.le_of_ble_eq_true rfl, Nat.le_of_ble_eq_true rfl⟩) (fun r_3 hr_3 => ?_)
      try dsimp only at hr_3
      rcases bo_split hr_3 with ⟨rfl, q_26⟩ | ⟨rfl, q_26⟩
      · simp only [Int32.toInt_toInt64, klL_0, klL_39] at q_26
        refine lv_if_eq (tgt := 43) hx hb dX9_share_29 (by decide) (fun h9 => absurd h9 (by decide)) (fun _ => ?_)
        refine lv_iload hx hb dX9_share_32 (lv_at hl 4 rfl) ?_
        refine lv_i2l hx hb dX9_share_34 rfl ?_
        have ti_34 : (p4.toInt64).toInt = p4.toInt := Int32.toInt_toInt64 _
        refine lv_lconst (v := 0) hx hb dX9_share_35 (by decide) ?_
        refine lv_lconst (v := 1) hx hb dX9_share_36 (by decide) ?_
        refine vp_callSi (W.runS (As := [.long p4.toInt64, .long 0, .long 1]) (rest := []) ⟨hx, hb, hml, hown, hts⟩ (c_X9_in l dC dI p4.toInt64 0 1) (va_cwS 3 hts g_X9_shareE__X9_in_55 rfl rfl rfl (by decide +kernel) ⟨Nat.le_of_ble_eq_true rfl, Nat.le_of_ble_eq_true rfl⟩) ⟨fun a U g mk q => by obtain ⟨q0, q1⟩ := q; exact ⟨q0, q1⟩, fun U hU hW => ⟨rfl, trivial⟩⟩ rfl rfl hl.1 rfl (lv_room (Nat.le_of_ble_eq_true rfl)) dX9_share_37 ⟨Nat.le_of_ble_eq_true rfl, Nat.le_of_ble_eq_true rfl⟩) (fun r_4 hr_4 => ?_)
        try dsimp only at hr_4
        rcases bo_split hr_4 with ⟨rfl, q_37⟩ | ⟨rfl, q_37⟩
        · simp only [Int32.toInt_toInt64, klL_0, klL_1] at q_37
          refine lv_if_ne (tgt := 47) hx hb dX9_share_40 (by decide) (fun _ => ?_) (fun h9 => absurd h9 (by decide))
          have np1 : ((p1.toNatClampNeg : Nat) : Int) = p1.toInt := tc_I (by omega)
          have bp1 := hM2 p1.toNatClampNeg (by omega)
          have np2 : ((p2.toNatClampNeg : Nat) : Int) = p2.toInt := tc_I (by omega)
          have bp2 := hM2 p2.toNatClampNeg (by omega)
          refine lv_iload_n hx hb dX9_share_47 rfl (lv_at hl 1 rfl) ?_
          refine lv_iload_n hx hb dX9_share_48 rfl (lv_at hl 2 rfl) ?_
          refine lv_icmp_eq (tgt := 70) hx hb dX9_share_49 (by decide) (fun c_49 => ?_) (fun c_49 => ?_)
          · have t_49 := (fa_eq _ _).mp c_49
            refine lv_ldc2 hx hb hown (hts (.constantLong RX9 164 (-100003)) (by decide +kernel)) dX9_share_70 ?_
            exact W.lret (v := (-100003)) hx hb hr (fun t ht _ => ⟨_, rfl, (Or.inr (Or.inr (Or.inl ⟨⟨by omega, by omega⟩, ⟨by omega, by omega⟩, fun z9 => by have z1 : (Fi p1.toNatClampNeg).toInt ≤ p3.toInt ∧ p3.toInt < (Fi p1.toNatClampNeg).toInt + (Ma p1.toNatClampNeg).toInt := z9.2.1; have z2 : (Fi p2.toNatClampNeg).toInt ≤ p3.toInt ∧ p3.toInt < (Fi p2.toNatClampNeg).toInt + (Ma p2.toNatClampNeg).toInt := z9.2.2; have z3 := z9.1; omega, rfl⟩))), ht⟩) (fun _ h => absurd h List.not_mem_nil) dX9_share_73
          · have t_49 := mt (fa_eq _ _).mpr c_49
            refine lv_aload_n hx hb dX9_share_52 rfl (lv_at hl 0 rfl) ?_
            refine lv_iload_n hx hb dX9_share_53 rfl (lv_at hl 1 rfl) ?_
            refine lv_iload_n hx hb dX9_share_54 rfl (lv_at hl 3 rfl) ?_
            have hPc := hP.sub (ws' := [(h0, .inr (9, [.int th, .ref a1, .ref a2, .ref a3, .ref a4, .ref a5, .int ne, .int wi, .int dn, .ref a6, .ref a7, .int nn, .ref a8, .int la, .ref a9, .ref a10, .long up, .long lw, .int wh, .long pu, .long pw, .ref a11])), (a1, .inl (cI, 16, .inl Fi)), (a2, .inl (cI, 16, .inl Ma))]) [0, 1, 2] rfl
            have hKc := hK.sub (tys' := [(cI, .int)]) [0] rfl
            refine vp_callSi (W.runV (As := [.int p1, .int p3]) (rest := []) ⟨hx, hb, hml, hown, hts⟩ (c_X9_hasPlace l dC dI h0 a1 a2 a3 a4 a5 a6 a7 a8 a9 a10 a11 th ne wi dn nn la wh up lw pu pw cI Fi Ma p1 p3 (by first | assumption | omega) (by first | omega | assumption) (by first | omega | assumption)) (cwV 2 hts g_X9_shareE__X9_hasPlace_90 rfl rfl rfl (by decide +kernel) ⟨Nat.le_of_ble_eq_true rfl, Nat.le_of_ble_eq_true rfl⟩) ⟨fun a U g mk q => by obtain ⟨q0, qP, qK⟩ := q; exact ⟨q0, qP, va_K.moved (u := U) (U := U.calling g mk a) (Vm.Alike.refl U.vm) qK⟩, va_recv hKc hPc (ci := 9) (q0 := 0) rfl rfl, fun U hU hW => ⟨rfl, by rw [hU]; exact hPc, va_K.moved hW.alike hKc⟩⟩ rfl rfl hl.1 rfl (lv_room (Nat.le_of_ble_eq_true rfl)) dX9_share_55 ⟨Nat.le_of_ble_eq_true rfl, Nat.le_of_ble_eq_true rfl⟩) (fun r_5 hr_5 => ?_)
            try dsimp only at hr_5
            rcases bo_split hr_5 with ⟨rfl, q_55⟩ | ⟨rfl, q_55⟩
            · refine lv_if_eq (tgt := 70) hx hb dX9_share_58 (by decide) (fun h9 => absurd h9 (by decide)) (fun _ => ?_)
              refine lv_aload_n hx hb dX9_share_61 rfl (lv_at hl 0 rfl) ?_
              refine lv_iload_n hx hb dX9_share_62 rfl (lv_at hl 2 rfl) ?_
              refine lv_iload_n hx hb dX9_share_63 rfl (lv_at hl 3 rfl) ?_
              have hPc := hP.sub (ws' := [(h0, .inr (9, [.int th, .ref a1, .ref a2, .ref a3, .ref a4, .ref a5, .int ne, .int wi, .int dn, .ref a6, .ref a7, .int nn, .ref a8, .int la, .ref a9, .ref a10, .long up, .long lw, .int wh, .long pu, .long pw, .ref a11])), (a1, .inl (cI, 16, .inl Fi)), (a2, .inl (cI, 16, .inl Ma))]) [0, 1, 2] rfl
              have hKc := hK.sub (tys' := [(cI, .int)]) [0] rfl
              refine vp_callSi (W.runV (As := [.int p2, .int p3]) (rest := []) ⟨hx, hb, hml, hown, hts⟩ (c_X9_hasPlace l dC dI h0 a1 a2 a3 a4 a5 a6 a7 a8 a9 a10 a11 th ne wi dn nn la wh up lw pu pw cI Fi Ma p2 p3 (by first | assumption | omega) (by first | omega | assumption) (by first | omega | assumption)) (cwV 2 hts g_X9_shareE__X9_hasPlace_90 rfl rfl rfl (by decide +kernel) ⟨Nat.le_of_ble_eq_true rfl, Nat.le_of_ble_eq_true rfl⟩) ⟨fun a U g mk q => by obtain ⟨q0, qP, qK⟩ := q; exact ⟨q0, qP, va_K.moved (u := U) (U := U.calling g mk a) (Vm.Alike.refl U.vm) qK⟩, va_recv hKc hPc (ci := 9) (q0 := 0) rfl rfl, fun U hU hW => ⟨rfl, by rw [hU]; exact hPc, va_K.moved hW.alike hKc⟩⟩ rfl rfl hl.1 rfl (lv_room (Nat.le_of_ble_eq_true rfl)) dX9_share_64 ⟨Nat.le_of_ble_eq_true rfl, Nat.le_of_ble_eq_true rfl⟩) (fun r_6 hr_6 => ?_)
              try dsimp only at hr_6
              rcases bo_split hr_6 with ⟨rfl, q_64⟩ | ⟨rfl, q_64⟩
              · refine lv_if_ne (tgt := 74) hx hb dX9_share_67 (by decide) (fun _ => ?_) (fun h9 => absurd h9 (by decide))
                obtain ⟨d1, d2⟩ := hDb p1.toNatClampNeg (by omega)
                obtain ⟨d3, d4⟩ := hDb p2.toNatClampNeg (by omega)
                have hct : cOK (Ma p1.toNatClampNeg) (fun k => Sp (36 * p1.toNatClampNeg + k)) := (hTk p1.toNatClampNeg (by omega)).2.2.2.1
                have hcu : cOK (Ma p2.toNatClampNeg) (fun k => Sp (36 * p2.toNatClampNeg + k)) := (hTk p2.toNatClampNeg (by omega)).2.2.2.1
                obtain ⟨bz1, bz2⟩ := bx_bd d1 d2 d3 d4
                refine lv_ldc2 hx hb hown (hts (.constantLong RX9 86 2) (by decide +kernel)) dX9_share_74 ?_
                refine lv_aload_n hx hb dX9_share_77 rfl (lv_at hl 0 rfl) ?_
                refine va_get (D := (dC, dI)) (ci := 9) (v := .ref a3) (C := RX9) (T := TX9) (N := 22) hx hb hts in_X9_shareE_X9 hown hK hP 0 rfl rfl 3 (by decide) (hts (.fieldLink RX9 16 "MeetingsAboveModel" "doubts" "[I") (by decide +kernel)) (fun _ h9 => h9) rfl dX9_share_78 ?_
                refine lv_iload_n hx hb dX9_share_81 rfl (lv_at hl 1 rfl) ?_
                refine va_iald hx hb hK hP 3 0 rfl rfl (vp_in_iff.mpr ⟨by omega, by omega⟩) dX9_share_82 ?_
                refine lv_topi (fun y_7 ey_7 => ?_)
                have uy_7 : y_7.toInt = (Db (p1 : Int32).toNatClampNeg).toInt := by rw [ey_7]
                refine lv_i2l hx hb dX9_share_83 rfl ?_
                have ti_83 : (y_7.toInt64).toInt = y_7.toInt := Int32.toInt_toInt64 _
                refine lv_lmul hx hb dX9_share_84 ?_
                refine lv_topl (fun y_8 ey_8 => ?_)
                have ty_8 : y_8.toInt = 2 * y_7.toInt64.toInt := by rw [ey_8]; exact fm_lL klL_2 (by omega) (by omega)
                refine lv_lconst (v := 1) hx hb dX9_share_85 (by decide) ?_
                refine lv_ladd hx hb dX9_share_86 ?_
                refine lv_topl (fun y_9 ey_9 => ?_)
                have ty_9 : y_9.toInt = y_8.toInt + 1 := by rw [ey_9]; have := fb_addL (x := y_8) (y := 1) (by omega) (by omega); omega
                refine lv_ldc2 hx hb hown (hts (.constantLong RX9 86 2) (by decide +kernel)) dX9_share_87 ?_
                refine lv_aload_n hx hb dX9_share_90 rfl (lv_at hl 0 rfl) ?_
                refine va_get (D := (dC, dI)) (ci := 9) (v := .ref a3) (C := RX9) (T := TX9) (N := 22) hx hb hts in_X9_shareE_X9 hown hK hP 0 rfl rfl 3 (by decide) (hts (.fieldLink RX9 16 "MeetingsAboveModel" "doubts" "[I") (by decide +kernel)) (fun _ h9 => h9) rfl dX9_share_91 ?_
                refine lv_iload_n hx hb dX9_share_94 rfl (lv_at hl 2 rfl) ?_
                refine va_iald hx hb hK hP 3 0 rfl rfl (vp_in_iff.mpr ⟨by omega, by omega⟩) dX9_share_95 ?_
                refine lv_topi (fun y_10 ey_10 => ?_)
                have uy_10 : y_10.toInt = (Db (p2 : Int32).toNatClampNeg).toInt := by rw [ey_10]
                refine lv_i2l hx hb dX9_share_96 rfl ?_
                have ti_96 : (y_10.toInt64).toInt = y_10.toInt := Int32.toInt_toInt64 _
                refine lv_lmul hx hb dX9_share_97 ?_
                refine lv_topl (fun y_11 ey_11 => ?_)
                have ty_11 : y_11.toInt = 2 * y_10.toInt64.toInt := by rw [ey_11]; exact fm_lL klL_2 (by omega) (by omega)
                refine lv_lconst (v := 1) hx hb dX9_share_98 (by decide) ?_
                refine lv_ladd hx hb dX9_share_99 ?_
                refine lv_topl (fun y_12 ey_12 => ?_)
                have ty_12 : y_12.toInt = y_11.toInt + 1 := by rw [ey_12]; have := fb_addL (x := y_11) (y := 1) (by omega) (by omega); omega
                refine lv_lmul hx hb dX9_share_100 ?_
                refine lv_topl (fun y_13 ey_13 => ?_)
                have o1 := lm_nn 401 401 ey_13 (by omega) (by omega) (by omega) (by omega) (by decide)
                have o2 : y_13.toInt = (2 * (Db p1.toNatClampNeg).toInt + 1) * (2 * (Db p2.toNatClampNeg).toInt + 1) := by rw [o1, show y_9.toInt = 2 * (Db p1.toNatClampNeg).toInt + 1 by omega, show y_12.toInt = 2 * (Db p2.toNatClampNeg).toInt + 1 by omega]
                refine lv_lstore (lv' := [(5, .long y_13), (0, .ref h0), (1, .int p1), (2, .int p2), (3, .int p3), (4, .int p4)]) hx hb dX9_share_101 hl (by decide) rfl (fun ls hl => ?_)
                refine lv_lload hx hb dX9_share_103 (lv_at hl 0 rfl) ?_
                refine lv_lload hx hb dX9_share_105 (lv_at hl 0 rfl) ?_
                refine lv_lmul hx hb dX9_share_107 ?_
                refine lv_topl (fun y_14 ey_14 => ?_)
                have o3 := lm_nn 160801 160801 ey_14 (by omega) (by omega) (by omega) (by omega) (by decide)
                have o4 := lm_pos 160801 160801 ey_14 (by omega) (by omega) (by omega) (by omega) (by decide)
                refine lv_lload hx hb dX9_share_108 (lv_at hl 0 rfl) ?_
                refine lv_lmul hx hb dX9_share_110 ?_
                refine lv_topl (fun y_15 ey_15 => ?_)
                have o5 := lm_nn 25856961601 160801 ey_15 (by omega) (by omega) (by omega) (by omega) (by decide)
                have hSL : y_15.toInt = shL (mTV Fi Ma Db Go Sp p1.toNatClampNeg) (mTV Fi Ma Db Go Sp p2.toNatClampNeg) := by rw [o5, o3, o2]; rfl
                refine lv_lstore (lv' := [(7, .long y_15), (5, .long y_13), (0, .ref h0), (1, .int p1), (2, .int p2), (3, .int p3), (4, .int p4)]) hx hb dX9_share_111 hl (by decide) rfl (fun ls hl => ?_)
                refine lv_aload_n hx hb dX9_share_113 rfl (lv_at hl 2 rfl) ?_
                refine lv_iload_n hx hb dX9_share_114 rfl (lv_at hl 3 rfl) ?_
                refine lv_iload_n hx hb dX9_share_115 rfl (lv_at hl 4 rfl) ?_
                refine lv_iload_n hx hb dX9_share_116 rfl (lv_at hl 5 rfl) ?_
                refine lv_iconst (v := 0) hx hb dX9_share_117 (by decide) ?_
                have hPc := hP.sub (ws' := [(h0, .inr (9, [.int th, .ref a1, .ref a2, .ref a3, .ref a4, .ref a5, .int ne, .int wi, .int dn, .ref a6, .ref a7, .int nn, .ref a8, .int la, .ref a9, .ref a10, .long up, .long lw, .int wh, .long pu, .long pw, .ref a11])), (a1, .inl (cI, 16, .inl Fi)), (a2, .inl (cI, 16, .inl Ma)), (a3, .inl (cI, 16, .inl Db)), (a5, .inl (cI, 576, .inl Sp))]) [0, 1, 2, 3, 4] rfl
                have hKc := hK.sub (tys' := [(cI, .int)]) [0] rfl
                refine vp_callSl (W.runV (As := [.int p1, .int p2, .int p3, .int 0]) (rest := []) ⟨hx, hb, hml, hown, hts⟩ (c_X9_pairsOfE l dC dI h0 a1 a2 a3 a4 a5 a6 a7 a8 a9 a10 a11 th ne wi dn nn la wh up lw pu pw cI Fi Ma Db Sp p1 p2 p3 0 (by first | assumption | omega) (by first | assumption | omega) (by first | omega | assumption) (by first | omega | assumption) (by first | omega | assumption) (by first | omega | assumption) (by first | omega | assumption) (by first | omega | assumption) (by first | omega | assumption) (by first | omega | assumption) (by first | omega | assumption) (by first | omega | assumption) (by first | assumption | omega) (by first | assumption | omega) (by first | omega | assumption) (by first | omega | assumption)) (cwV 4 hts g_X9_shareE__X9_pairsOfE_178 rfl rfl rfl (by decide +kernel) ⟨Nat.le_of_ble_eq_true rfl, Nat.le_of_ble_eq_true rfl⟩) ⟨fun a U g mk q => by obtain ⟨q0, qP, qK⟩ := q; exact ⟨q0, qP, va_K.moved (u := U) (U := U.calling g mk a) (Vm.Alike.refl U.vm) qK⟩, va_recv hKc hPc (ci := 9) (q0 := 0) rfl rfl, fun U hU hW => ⟨rfl, by rw [hU]; exact hPc, va_K.moved hW.alike hKc⟩⟩ rfl rfl hl.1 rfl (lv_room (Nat.le_of_ble_eq_true rfl)) dX9_share_118 ⟨Nat.le_of_ble_eq_true rfl, Nat.le_of_ble_eq_true rfl⟩) (fun r_16 hr_16 => ?_)
                try dsimp only at hr_16
                refine lv_aload_n hx hb dX9_share_121 rfl (lv_at hl 2 rfl) ?_
                refine lv_iload_n hx hb dX9_share_122 rfl (lv_at hl 3 rfl) ?_
                refine lv_iload_n hx hb dX9_share_123 rfl (lv_at hl 4 rfl) ?_
                refine lv_iload_n hx hb dX9_share_124 rfl (lv_at hl 5 rfl) ?_
                refine lv_iconst (v := 1) hx hb dX9_share_125 (by decide) ?_
                have hPc := hP.sub (ws' := [(h0, .inr (9, [.int th, .ref a1, .ref a2, .ref a3, .ref a4, .ref a5, .int ne, .int wi, .int dn, .ref a6, .ref a7, .int nn, .ref a8, .int la, .ref a9, .ref a10, .long up, .long lw, .int wh, .long pu, .long pw, .ref a11])), (a1, .inl (cI, 16, .inl Fi)), (a2, .inl (cI, 16, .inl Ma)), (a3, .inl (cI, 16, .inl Db)), (a5, .inl (cI, 576, .inl Sp))]) [0, 1, 2, 3, 4] rfl
                have hKc := hK.sub (tys' := [(cI, .int)]) [0] rfl
                refine vp_callSl (W.runV (As := [.int p1, .int p2, .int p3, .int 1]) (rest := [.long r_16]) ⟨hx, hb, hml, hown, hts⟩ (c_X9_pairsOfE l dC dI h0 a1 a2 a3 a4 a5 a6 a7 a8 a9 a10 a11 th ne wi dn nn la wh up lw pu pw cI Fi Ma Db Sp p1 p2 p3 1 (by first | assumption | omega) (by first | assumption | omega) (by first | omega | assumption) (by first | omega | assumption) (by first | omega | assumption) (by first | omega | assumption) (by first | omega | assumption) (by first | omega | assumption) (by first | omega | assumption) (by first | omega | assumption) (by first | omega | assumption) (by first | omega | assumption) (by first | assumption | omega) (by first | assumption | omega) (by first | omega | assumption) (by first | omega | assumption)) (cwV 4 hts g_X9_shareE__X9_pairsOfE_178 rfl rfl rfl (by decide +kernel) ⟨Nat.le_of_ble_eq_true rfl, Nat.le_of_ble_eq_true rfl⟩) ⟨fun a U g mk q => by obtain ⟨q0, qP, qK⟩ := q; exact ⟨q0, qP, va_K.moved (u := U) (U := U.calling g mk a) (Vm.Alike.refl U.vm) qK⟩, va_recv hKc hPc (ci := 9) (q0 := 0) rfl rfl, fun U hU hW => ⟨rfl, by rw [hU]; exact hPc, va_K.moved hW.alike hKc⟩⟩ rfl rfl hl.1 rfl (lv_room (Nat.le_of_ble_eq_true rfl)) dX9_share_126 ⟨Nat.le_of_ble_eq_true rfl, Nat.le_of_ble_eq_true rfl⟩) (fun r_17 hr_17 => ?_)
                try dsimp only at hr_17
                obtain ⟨f1, f2⟩ : 0 ≤ r_16.toInt ∧ r_16.toInt ≤ 160801 := by rw [hr_16]; exact prs_bd d3 d4 d1 d2
                obtain ⟨f3, f4⟩ : 0 ≤ r_17.toInt ∧ r_17.toInt ≤ 160801 := by rw [hr_17]; exact prs_bd d3 d4 d1 d2
                refine lv_lmul hx hb dX9_share_129 ?_
                refine lv_topl (fun y_18 ey_18 => ?_)
                have o6 := lm_nn 160801 160801 ey_18 f1 f2 f3 f4 (by decide)
                have o7 : 0 ≤ y_18.toInt ∧ y_18.toInt ≤ 25856961601 := by rw [o6]; exact ⟨Int.mul_nonneg f1 f3, Int.le_trans (Int.mul_le_mul f2 f4 f3 (by omega)) (by decide)⟩
                refine lv_aload_n hx hb dX9_share_130 rfl (lv_at hl 2 rfl) ?_
                refine lv_iload_n hx hb dX9_share_131 rfl (lv_at hl 3 rfl) ?_
                refine lv_iload_n hx hb dX9_share_132 rfl (lv_at hl 4 rfl) ?_
                refine lv_iload_n hx hb dX9_share_133 rfl (lv_at hl 5 rfl) ?_
                refine lv_iconst (v := 2) hx hb dX9_share_134 (by decide) ?_
                have hPc := hP.sub (ws' := [(h0, .inr (9, [.int th, .ref a1, .ref a2, .ref a3, .ref a4, .ref a5, .int ne, .int wi, .int dn, .ref a6, .ref a7, .int nn, .ref a8, .int la, .ref a9, .ref a10, .long up, .long lw, .int wh, .long pu, .long pw, .ref a11])), (a1, .inl (cI, 16, .inl Fi)), (a2, .inl (cI, 16, .inl Ma)), (a3, .inl (cI, 16, .inl Db)), (a5, .inl (cI, 576, .inl Sp))]) [0, 1, 2, 3, 4] rfl
                have hKc := hK.sub (tys' := [(cI, .int)]) [0] rfl
                refine vp_callSl (W.runV (As := [.int p1, .int p2, .int p3, .int 2]) (rest := [.long y_18]) ⟨hx, hb, hml, hown, hts⟩ (c_X9_pairsOfE l dC dI h0 a1 a2 a3 a4 a5 a6 a7 a8 a9 a10 a11 th ne wi dn nn la wh up lw pu pw cI Fi Ma Db Sp p1 p2 p3 2 (by first | assumption | omega) (by first | assumption | omega) (by first | omega | assumption) (by first | omega | assumption) (by first | omega | assumption) (by first | omega | assumption) (by first | omega | assumption) (by first | omega | assumption) (by first | omega | assumption) (by first | omega | assumption) (by first | omega | assumption) (by first | omega | assumption) (by first | assumption | omega) (by first | assumption | omega) (by first | omega | assumption) (by first | omega | assumption)) (cwV 4 hts g_X9_shareE__X9_pairsOfE_178 rfl rfl rfl (by decide +kernel) ⟨Nat.le_of_ble_eq_true rfl, Nat.le_of_ble_eq_true rfl⟩) ⟨fun a U g mk q => by obtain ⟨q0, qP, qK⟩ := q; exact ⟨q0, qP, va_K.moved (u := U) (U := U.calling g mk a) (Vm.Alike.refl U.vm) qK⟩, va_recv hKc hPc (ci := 9) (q0 := 0) rfl rfl, fun U hU hW => ⟨rfl, by rw [hU]; exact hPc, va_K.moved hW.alike hKc⟩⟩ rfl rfl hl.1 rfl (lv_room (Nat.le_of_ble_eq_true rfl)) dX9_share_135 ⟨Nat.le_of_ble_eq_true rfl, Nat.le_of_ble_eq_true rfl⟩) (fun r_19 hr_19 => ?_)
                try dsimp only at hr_19
                obtain ⟨f5, f6⟩ : 0 ≤ r_19.toInt ∧ r_19.toInt ≤ 160801 := by rw [hr_19]; exact prs_bd d3 d4 d1 d2
                refine lv_lmul hx hb dX9_share_138 ?_
                refine lv_topl (fun y_20 ey_20 => ?_)
                have o8 := lm_nn 25856961601 160801 ey_20 o7.1 o7.2 f5 f6 (by decide)
                have hSU : y_20.toInt = shU (mTV Fi Ma Db Go Sp p1.toNatClampNeg) (mTV Fi Ma Db Go Sp p2.toNatClampNeg) p3.toInt wi.toInt := by rw [o8, o6, hr_16, hr_17, hr_19, kl_0, kl_1, kl_2]; rfl
                have hp7 : 0 ≤ y_20.toInt := by rw [hSU]; exact sh_nn ⟨d1, d2⟩ ⟨d3, d4⟩
                have hp9 : 0 < y_15.toInt := by rw [hSL]; exact sh_pos ⟨d1, d2⟩ ⟨d3, d4⟩
                refine lv_lstore (lv' := [(9, .long y_20), (7, .long y_15), (5, .long y_13), (0, .ref h0), (1, .int p1), (2, .int p2), (3, .int p3), (4, .int p4)]) hx hb dX9_share_139 hl (by decide) rfl (fun ls hl => ?_)
                refine lv_lload hx hb dX9_share_141 (lv_at hl 0 rfl) ?_
                refine lv_lload hx hb dX9_share_143 (lv_at hl 1 rfl) ?_
                refine vp_callSl (W.runS (As := [.long y_20, .long y_15]) (rest := []) ⟨hx, hb, hml, hown, hts⟩ (c_X9_commonE l dC dI y_20 y_15 (by first | omega | assumption) (by first | omega | assumption)) (va_cwS 2 hts g_X9_shareE__X9_commonE_166 rfl rfl rfl (by decide +kernel) ⟨Nat.le_of_ble_eq_true rfl, Nat.le_of_ble_eq_true rfl⟩) ⟨fun a U g mk q => by obtain ⟨q0, q1⟩ := q; exact ⟨q0, q1⟩, fun U hU hW => ⟨rfl, trivial⟩⟩ rfl rfl hl.1 rfl (lv_room (Nat.le_of_ble_eq_true rfl)) dX9_share_145 ⟨Nat.le_of_ble_eq_true rfl, Nat.le_of_ble_eq_true rfl⟩) (fun r_21 hr_21 => ?_)
                try dsimp only at hr_21
                have gp := g_pos (x := y_20.toInt) hp9
                refine lv_lstore (lv' := [(11, .long r_21), (9, .long y_20), (7, .long y_15), (5, .long y_13), (0, .ref h0), (1, .int p1), (2, .int p2), (3, .int p3), (4, .int p4)]) hx hb dX9_share_148 hl (by decide) rfl (fun ls hl => ?_)
                refine lv_iload hx hb dX9_share_150 (lv_at hl 8 rfl) ?_
                refine lv_if_ne (tgt := 163) hx hb dX9_share_152 (by decide) (fun c_152 => ?_) (fun c_152 => ?_)
                · have t_152 := mt (fa_eq _ _).mpr c_152
                  refine lv_lload hx hb dX9_share_163 (lv_at hl 2 rfl) ?_
                  refine lv_lload hx hb dX9_share_165 (lv_at hl 0 rfl) ?_
                  refine lv_ldiv hx hb dX9_share_167 (fun h9 => by rw [h9, klL_0] at hr_21; omega) ?_
                  refine lv_topl (fun y_22 ey_22 => ?_)
                  exact W.lret (v := y_22) hx hb hr (fun t ht _ => ⟨_, rfl, (Or.inr (Or.inr (Or.inr (Or.inr ⟨⟨by omega, by omega⟩, ⟨by omega, by omega⟩, ⟨by omega, ⟨q_55.1, q_55.2⟩, ⟨q_64.1, q_64.2⟩⟩, by omega, by rw [ey_22, ldiv_I (by omega) (by omega), hr_21, hSU, hSL]⟩)))), ht⟩) (fun _ h => absurd h List.not_mem_nil) dX9_share_168
                · have t_152 := (fa_eq _ _).mp c_152
                  refine lv_lload hx hb dX9_share_155 (lv_at hl 1 rfl) ?_
                  refine lv_lload hx hb dX9_share_157 (lv_at hl 0 rfl) ?_
                  refine lv_ldiv hx hb dX9_share_159 (fun h9 => by rw [h9, klL_0] at hr_21; omega) ?_
                  refine lv_topl (fun y_23 ey_23 => ?_)
                  refine lv_goto (tgt := 168) hx hb dX9_share_160 (by decide) ?_
                  exact W.lret (v := y_23) hx hb hr (fun t ht _ => ⟨_, rfl, (Or.inr (Or.inr (Or.inr (Or.inl ⟨⟨by omega, by omega⟩, ⟨by omega, by omega⟩, ⟨by omega, ⟨q_55.1, q_55.2⟩, ⟨q_64.1, q_64.2⟩⟩, by omega, by rw [ey_23, ldiv_I (by omega) (by omega), hr_21, hSU, hSL]⟩)))), ht⟩) (fun _ h => absurd h List.not_mem_nil) dX9_share_168
              · refine lv_if_ne (tgt := 74) hx hb dX9_share_67 (by decide) (fun h9 => absurd h9 (by decide)) (fun _ => ?_)
                refine lv_ldc2 hx hb hown (hts (.constantLong RX9 164 (-100003)) (by decide +kernel)) dX9_share_70 ?_
                exact W.lret (v := (-100003)) hx hb hr (fun t ht _ => ⟨_, rfl, (Or.inr (Or.inr (Or.inl ⟨⟨by omega, by omega⟩, ⟨by omega, by omega⟩, fun z9 => by have z1 : (Fi p1.toNatClampNeg).toInt ≤ p3.toInt ∧ p3.toInt < (Fi p1.toNatClampNeg).toInt + (Ma p1.toNatClampNeg).toInt := z9.2.1; have z2 : (Fi p2.toNatClampNeg).toInt ≤ p3.toInt ∧ p3.toInt < (Fi p2.toNatClampNeg).toInt + (Ma p2.toNatClampNeg).toInt := z9.2.2; have z3 := z9.1; omega, rfl⟩))), ht⟩) (fun _ h => absurd h List.not_mem_nil) dX9_share_73
            · refine lv_if_eq (tgt := 70) hx hb dX9_share_58 (by decide) (fun _ => ?_) (fun h9 => absurd h9 (by decide))
              refine lv_ldc2 hx hb hown (hts (.constantLong RX9 164 (-100003)) (by decide +kernel)) dX9_share_70 ?_
              exact W.lret (v := (-100003)) hx hb hr (fun t ht _ => ⟨_, rfl, (Or.inr (Or.inr (Or.inl ⟨⟨by omega, by omega⟩, ⟨by omega, by omega⟩, fun z9 => by have z1 : (Fi p1.toNatClampNeg).toInt ≤ p3.toInt ∧ p3.toInt < (Fi p1.toNatClampNeg).toInt + (Ma p1.toNatClampNeg).toInt := z9.2.1; have z2 : (Fi p2.toNatClampNeg).toInt ≤ p3.toInt ∧ p3.toInt < (Fi p2.toNatClampNeg).toInt + (Ma p2.toNatClampNeg).toInt := z9.2.2; have z3 := z9.1; omega, rfl⟩))), ht⟩) (fun _ h => absurd h List.not_mem_nil) dX9_share_73
        · simp only [Int32.toInt_toInt64, klL_0, klL_1] at q_37
          refine lv_if_ne (tgt := 47) hx hb dX9_share_40 (by decide) (fun h9 => absurd h9 (by decide)) (fun _ => ?_)
          refine lv_ldc2 hx hb hown (hts (.constantLong RX9 162 (-100002)) (by decide +kernel)) dX9_share_43 ?_
          exact W.lret (v := (-100002)) hx hb hr (fun t ht _ => ⟨_, rfl, (Or.inr (Or.inl ⟨⟨by omega, by omega⟩, by omega, rfl⟩)), ht⟩) (fun _ h => absurd h List.not_mem_nil) dX9_share_46
      · simp only [Int32.toInt_toInt64, klL_0, klL_39] at q_26
        refine lv_if_eq (tgt := 43) hx hb dX9_share_29 (by decide) (fun _ => ?_) (fun h9 => absurd h9 (by decide))
        refine lv_ldc2 hx hb hown (hts (.constantLong RX9 162 (-100002)) (by decide +kernel)) dX9_share_43 ?_
        exact W.lret (v := (-100002)) hx hb hr (fun t ht _ => ⟨_, rfl, (Or.inr (Or.inl ⟨⟨by omega, by omega⟩, by omega, rfl⟩)), ht⟩) (fun _ h => absurd h List.not_mem_nil) dX9_share_46
    · refine lv_if_ne (tgt := 20) hx hb dX9_share_13 (by decide) (fun h9 => absurd h9 (by decide)) (fun _ => ?_)
      refine lv_ldc2 hx hb hown (hts (.constantLong RX9 158 (-100001)) (by decide +kernel)) dX9_share_16 ?_
      exact W.lret (v := (-100001)) hx hb hr (fun t ht _ => ⟨_, rfl, (Or.inl ⟨by omega, rfl⟩), ht⟩) (fun _ h => absurd h List.not_mem_nil) dX9_share_19
  · refine lv_if_eq (tgt := 16) hx hb dX9_share_5 (by decide) (fun _ => ?_) (fun h9 => absurd h9 (by decide))
    refine lv_ldc2 hx hb hown (hts (.constantLong RX9 158 (-100001)) (by decide +kernel)) dX9_share_16 ?_
    exact W.lret (v := (-100001)) hx hb hr (fun t ht _ => ⟨_, rfl, (Or.inl ⟨by omega, rfl⟩), ht⟩) (fun _ h => absurd h List.not_mem_nil) dX9_share_19
