def wk_X9_pairsOf : List Cond := .code yX9_pairsOf cX9_pairsOf 11 (some .long) :: (([.fieldLink RX9 16 "MeetingsAboveModel" "doubts" "[I", .fieldLink RX9 30 "MeetingsAboveModel" "wide" "I"] : List Cond) ++ (wsX90 ++ ((wsV RX9 94 RX9 yX9_spot wk_X9_spot) ++ ([]))))
theorem in_X9_pairsOf_X9 : ∀ w ∈ wsX90, w ∈ wk_X9_pairsOf := fun _ h => List.mem_cons_of_mem _ (List.mem_append_right _ (List.mem_append_left _ h))
theorem gw_X9_pairsOf : AG wk_X9_pairsOf := AG_ca (AG_l (by decide +kernel)) (AG_app ag_X9 (AG_app (AG_V gw_X9_spot) (AG_nil)))
theorem g_X9_pairsOf__X9_spot_94 : GoodIn wk_X9_pairsOf (wsV RX9 94 RX9 yX9_spot wk_X9_spot) := goodIn_m (fun _ h => List.mem_cons_of_mem _ (List.mem_append_right _ (List.mem_append_right _ (List.mem_append_left _ h)))) (AG_V gw_X9_spot)
set_option maxHeartbeats 4000000 in
set_option maxRecDepth 100000 in
theorem c_X9_pairsOf (l : Launch) (dC : Nat → ClassId) (dI : Nat → Nat → Nat) (h0 : Nat) (a1 : Nat) (a2 : Nat) (a3 : Nat) (a4 : Nat) (a5 : Nat) (a6 : Nat) (a7 : Nat) (a8 : Nat) (a9 : Nat) (a10 : Nat) (a11 : Nat) (th : Int32) (ne : Int32) (wi : Int32) (dn : Int32) (nn : Int32) (la : Int32) (wh : Int32) (up : Int64) (lw : Int64) (pu : Int64) (pw : Int64) (cI : ClassId) (Fi : Nat → Int32) (Ma : Nat → Int32) (Db : Nat → Int32) (Sp : Nat → Int32) (p1 : Int32) (p2 : Int32) (p3 : Int32) (p4 : Int32) (hM : mOK th Fi Ma) (hDb : dOK th Db) (hp10 : 0 ≤ p1.toInt) (hp11 : p1.toInt < th.toInt) (hp20 : 0 ≤ p2.toInt) (hp21 : p2.toInt < th.toInt) (hsp10 : (Fi p1.toNatClampNeg).toInt ≤ p3.toInt) (hsp11 : p3.toInt < (Fi p1.toNatClampNeg).toInt + (Ma p1.toNatClampNeg).toInt) (hsp20 : (Fi p2.toNatClampNeg).toInt ≤ p3.toInt) (hsp21 : p3.toInt < (Fi p2.toNatClampNeg).toInt + (Ma p2.toNatClampNeg).toInt) (hx0 : 0 ≤ p4.toInt) (hx1 : p4.toInt ≤ 2) : Met l yX9_pairsOf wk_X9_pairsOf ({ frames := 1, cells := 0, slots := 0, locals := 23 }) (va_Pc [.ref h0, .int p1, .int p2, .int p3, .int p4] (fun U => va_P (dC, dI) vwCl [(h0, .inr (9, [.int th, .ref a1, .ref a2, .ref a3, .ref a4, .ref a5, .int ne, .int wi, .int dn, .ref a6, .ref a7, .int nn, .ref a8, .int la, .ref a9, .ref a10, .long up, .long lw, .int wh, .long pu, .long pw, .ref a11])), (a1, .inl (cI, 16, .inl Fi)), (a2, .inl (cI, 16, .inl Ma)), (a3, .inl (cI, 16, .inl Db)), (a5, .inl (cI, 576, .inl Sp))] U.heap ∧ va_K (dC, dI) vwCl [(cI, .int)] U)) (vp_Sl (fun r => True)) 0 0 (fun _ => False) := by
  refine Met.ofW (cc := cX9_pairsOf) (maxL := 11) (ret := (some .long)) (by decide) rfl ?_
  intro p e s m args below meth c s₁ B hml hv
  obtain ⟨rfl, hP, hK⟩ := hv
  have hx := B.exec
  have hb := B.bytes
  have hr := B.returns
  have hts := atoms_spec (ws := wk_X9_pairsOf) B.pre
  have hown : s.vm.findClass RX9 = some m.cls := findClass_of_methodNamed B.named
  have hlocks := B.notSynchronized
  have hP : va_P (dC, dI) vwCl [(h0, .inr (9, [.int th, .ref a1, .ref a2, .ref a3, .ref a4, .ref a5, .int ne, .int wi, .int dn, .ref a6, .ref a7, .int nn, .ref a8, .int la, .ref a9, .ref a10, .long up, .long lw, .int wh, .long pu, .long pw, .ref a11])), (a1, .inl (cI, 16, .inl Fi)), (a2, .inl (cI, 16, .inl Ma)), (a3, .inl (cI, 16, .inl Db)), (a5, .inl (cI, 576, .inl Sp))] s.heap := hP
  have hl := lv_entry ([.ref h0, .int p1, .int p2, .int p3, .int p4]) (n := 11) (Nat.le_of_ble_eq_true rfl)
  rw [lg_entry_eq]
  generalize (lg_sl ([.ref h0, .int p1, .int p2, .int p3, .int p4]) ++ List.replicate (11 - (lg_sl ([.ref h0, .int p1, .int p2, .int p3, .int p4])).length) Slot.unset).toArray = ls at hl ⊢
  have hl : lv_has ls 11 [(0, .ref h0), (1, .int p1), (2, .int p2), (3, .int p3), (4, .int p4)] := hl
  have kl_1 : (1 : Int32).toInt = 1 := by decide
  have klL_0 : (0 : Int64).toInt = 0 := by decide
  obtain ⟨hM0, hM1, hM2⟩ := id hM
  have np1 : ((p1.toNatClampNeg : Nat) : Int) = p1.toInt := tc_I (by omega)
  have bp1 := hM2 p1.toNatClampNeg (by omega)
  have np2 : ((p2.toNatClampNeg : Nat) : Int) = p2.toInt := tc_I (by omega)
  have bp2 := hM2 p2.toNatClampNeg (by omega)
  have d1 := hDb p1.toNatClampNeg (by omega)
  have d2 := hDb p2.toNatClampNeg (by omega)
  refine lv_aload_n hx hb dX9_pairsOf_0 rfl (lv_at hl 0 rfl) ?_
  refine lv_iload_n hx hb dX9_pairsOf_1 rfl (lv_at hl 1 rfl) ?_
  refine lv_iload_n hx hb dX9_pairsOf_2 rfl (lv_at hl 3 rfl) ?_
  refine lv_iload hx hb dX9_pairsOf_3 (lv_at hl 4 rfl) ?_
  have hPc := hP.sub (ws' := [(h0, .inr (9, [.int th, .ref a1, .ref a2, .ref a3, .ref a4, .ref a5, .int ne, .int wi, .int dn, .ref a6, .ref a7, .int nn, .ref a8, .int la, .ref a9, .ref a10, .long up, .long lw, .int wh, .long pu, .long pw, .ref a11])), (a1, .inl (cI, 16, .inl Fi)), (a5, .inl (cI, 576, .inl Sp))]) [0, 1, 4] rfl
  have hKc := hK.sub (tys' := [(cI, .int)]) [0] rfl
  refine vp_callSi (W.runV (As := [.int p1, .int p3, .int p4]) (rest := []) ⟨hx, hb, hml, hown, hts⟩ (c_X9_spot l dC dI Ma h0 a1 a2 a3 a4 a5 a6 a7 a8 a9 a10 a11 th ne wi dn nn la wh up lw pu pw cI Fi Sp p1 p3 p4 (by first | assumption | omega) (by first | omega | assumption) (by first | omega | assumption) (by first | omega | assumption) (by first | omega | assumption) (by first | omega | assumption) (by first | omega | assumption)) (cwV 3 hts g_X9_pairsOf__X9_spot_94 rfl rfl rfl (by decide +kernel) ⟨Nat.le_of_ble_eq_true rfl, Nat.le_of_ble_eq_true rfl⟩) ⟨fun a U g mk q => by obtain ⟨q0, qP, qK⟩ := q; exact ⟨q0, qP, va_K.moved (u := U) (U := U.calling g mk a) (Vm.Alike.refl U.vm) qK⟩, va_recv hKc hPc (ci := 9) (q0 := 0) rfl rfl, fun U hU hW => ⟨rfl, by rw [hU]; exact hPc, va_K.moved hW.alike hKc⟩⟩ rfl rfl hl.1 rfl (lv_room (Nat.le_of_ble_eq_true rfl)) dX9_pairsOf_5 ⟨Nat.le_of_ble_eq_true rfl, Nat.le_of_ble_eq_true rfl⟩) (fun r_1 hr_1 => ?_)
  try dsimp only at hr_1
  refine lv_aload_n hx hb dX9_pairsOf_8 rfl (lv_at hl 0 rfl) ?_
  refine lv_iload_n hx hb dX9_pairsOf_9 rfl (lv_at hl 2 rfl) ?_
  refine lv_iload_n hx hb dX9_pairsOf_10 rfl (lv_at hl 3 rfl) ?_
  refine lv_iload hx hb dX9_pairsOf_11 (lv_at hl 4 rfl) ?_
  have hPc := hP.sub (ws' := [(h0, .inr (9, [.int th, .ref a1, .ref a2, .ref a3, .ref a4, .ref a5, .int ne, .int wi, .int dn, .ref a6, .ref a7, .int nn, .ref a8, .int la, .ref a9, .ref a10, .long up, .long lw, .int wh, .long pu, .long pw, .ref a11])), (a1, .inl (cI, 16, .inl Fi)), (a5, .inl (cI, 576, .inl Sp))]) [0, 1, 4] rfl
  have hKc := hK.sub (tys' := [(cI, .int)]) [0] rfl
  refine vp_callSi (W.runV (As := [.int p2, .int p3, .int p4]) (rest := [.int r_1]) ⟨hx, hb, hml, hown, hts⟩ (c_X9_spot l dC dI Ma h0 a1 a2 a3 a4 a5 a6 a7 a8 a9 a10 a11 th ne wi dn nn la wh up lw pu pw cI Fi Sp p2 p3 p4 (by first | assumption | omega) (by first | omega | assumption) (by first | omega | assumption) (by first | omega | assumption) (by first | omega | assumption) (by first | omega | assumption) (by first | omega | assumption)) (cwV 3 hts g_X9_pairsOf__X9_spot_94 rfl rfl rfl (by decide +kernel) ⟨Nat.le_of_ble_eq_true rfl, Nat.le_of_ble_eq_true rfl⟩) ⟨fun a U g mk q => by obtain ⟨q0, qP, qK⟩ := q; exact ⟨q0, qP, va_K.moved (u := U) (U := U.calling g mk a) (Vm.Alike.refl U.vm) qK⟩, va_recv hKc hPc (ci := 9) (q0 := 0) rfl rfl, fun U hU hW => ⟨rfl, by rw [hU]; exact hPc, va_K.moved hW.alike hKc⟩⟩ rfl rfl hl.1 rfl (lv_room (Nat.le_of_ble_eq_true rfl)) dX9_pairsOf_13 ⟨Nat.le_of_ble_eq_true rfl, Nat.le_of_ble_eq_true rfl⟩) (fun r_2 hr_2 => ?_)
  try dsimp only at hr_2
  refine lv_isub hx hb dX9_pairsOf_16 ?_
  refine lv_topi (fun y_3 ey_3 => ?_)
  refine lv_istore (lv' := [(5, .int y_3), (0, .ref h0), (1, .int p1), (2, .int p2), (3, .int p3), (4, .int p4)]) hx hb dX9_pairsOf_17 hl (by decide) rfl (fun ls hl => ?_)
  refine lv_lconst (v := 0) hx hb dX9_pairsOf_19 (by decide) ?_
  refine lv_lstore (lv' := [(6, .long 0), (5, .int y_3), (0, .ref h0), (1, .int p1), (2, .int p2), (3, .int p3), (4, .int p4)]) hx hb dX9_pairsOf_20 hl (by decide) rfl (fun ls hl => ?_)
  refine lv_aload_n hx hb dX9_pairsOf_22 rfl (lv_at hl 2 rfl) ?_
  refine va_get (D := (dC, dI)) (ci := 9) (v := .ref a3) (C := RX9) (T := TX9) (N := 22) hx hb hts in_X9_pairsOf_X9 hown hK hP 0 rfl rfl 3 (by decide) (hts (.fieldLink RX9 16 "MeetingsAboveModel" "doubts" "[I") (by decide +kernel)) (fun _ h9 => h9) rfl dX9_pairsOf_23 ?_
  refine lv_iload_n hx hb dX9_pairsOf_26 rfl (lv_at hl 3 rfl) ?_
  refine va_iald hx hb hK hP 3 0 rfl rfl (vp_in_iff.mpr ⟨by omega, by omega⟩) dX9_pairsOf_27 ?_
  refine lv_topi (fun y_4 ey_4 => ?_)
  have uy_4 : y_4.toInt = (Db (p1 : Int32).toNatClampNeg).toInt := by rw [ey_4]
  refine lv_ineg hx hb dX9_pairsOf_28 ?_
  refine lv_topi (fun y_5 ey_5 => ?_)
  have ty_5 : y_5.toInt = -y_4.toInt := by rw [ey_5]; exact fb_negI (by omega)
  refine lv_istore (lv' := [(8, .int y_5), (6, .long 0), (5, .int y_3), (0, .ref h0), (1, .int p1), (2, .int p2), (3, .int p3), (4, .int p4)]) hx hb dX9_pairsOf_29 hl (by decide) rfl (fun ls hl => ?_)
  refine (show ∀ (k : Nat) (n6 : Int64) (i8 : Int32) (hi0 : -(Db p1.toNatClampNeg).toInt ≤ i8.toInt) (hi1 : i8.toInt ≤ (Db p1.toNatClampNeg).toInt + 1) (hk_31 : ((Db p1.toNatClampNeg).toInt + 1 - i8.toInt).toNat < k) (ls : Array Slot) (hl : lv_has ls 11 [(0, .ref h0), (1, .int p1), (2, .int p2), (3, .int p3), (4, .int p4), (5, .int y_3), (6, .long n6), (8, .int i8)]), W p l e _ s m _ below meth c s.heap [] 0 0 _ (F0 m 31 ls []) from ?_) _ 0 y_5 (by omega) (by omega) (Nat.lt_succ_self _) ls (lv_sub hl [3, 4, 5, 6, 7, 2, 1, 0] rfl)
  intro k
  induction k with
  | zero => intro n6 i8 hi0 hi1 hk_31; exact absurd hk_31 (Nat.not_lt_zero _)
  | succ k ih_31 =>
    intro n6 i8 hi0 hi1 hk_31 ls hl
    refine lv_iload hx hb dX9_pairsOf_31 (lv_at hl 7 rfl) ?_
    refine lv_aload_n hx hb dX9_pairsOf_33 rfl (lv_at hl 0 rfl) ?_
    refine va_get (D := (dC, dI)) (ci := 9) (v := .ref a3) (C := RX9) (T := TX9) (N := 22) hx hb hts in_X9_pairsOf_X9 hown hK hP 0 rfl rfl 3 (by decide) (hts (.fieldLink RX9 16 "MeetingsAboveModel" "doubts" "[I") (by decide +kernel)) (fun _ h9 => h9) rfl dX9_pairsOf_34 ?_
    refine lv_iload_n hx hb dX9_pairsOf_37 rfl (lv_at hl 1 rfl) ?_
    refine va_iald hx hb hK hP 3 0 rfl rfl (vp_in_iff.mpr ⟨by omega, by omega⟩) dX9_pairsOf_38 ?_
    refine lv_topi (fun y_6 ey_6 => ?_)
    have uy_6 : y_6.toInt = (Db (p1 : Int32).toNatClampNeg).toInt := by rw [ey_6]
    refine lv_icmp_gt (tgt := 146) hx hb dX9_pairsOf_39 (by decide) (fun c_39 => ?_) (fun c_39 => ?_)
    · have t_39 := (fa_lt _ _).mp c_39
      refine lv_lload hx hb dX9_pairsOf_146 (lv_at hl 6 rfl) ?_
      exact W.lret (v := n6) hx hb hr (fun t ht _ => ⟨_, rfl, trivial, ht⟩) (fun _ h => absurd h List.not_mem_nil) dX9_pairsOf_148
    · have t_39 := mt (fa_lt _ _).mpr c_39
      refine lv_iload hx hb dX9_pairsOf_42 (lv_at hl 5 rfl) ?_
      refine lv_iload hx hb dX9_pairsOf_44 (lv_at hl 7 rfl) ?_
      refine lv_iadd hx hb dX9_pairsOf_46 ?_
      refine lv_topi (fun y_7 ey_7 => ?_)
      refine lv_aload_n hx hb dX9_pairsOf_47 rfl (lv_at hl 0 rfl) ?_
      refine va_get (D := (dC, dI)) (ci := 9) (v := .int wi) (C := RX9) (T := TX9) (N := 22) hx hb hts in_X9_pairsOf_X9 hown hK hP 0 rfl rfl 7 (by decide) (hts (.fieldLink RX9 30 "MeetingsAboveModel" "wide" "I") (by decide +kernel)) (fun _ h9 => h9) rfl dX9_pairsOf_48 ?_
      refine lv_isub hx hb dX9_pairsOf_51 ?_
      refine lv_topi (fun y_8 ey_8 => ?_)
      refine lv_istore (lv' := [(9, .int y_8), (0, .ref h0), (1, .int p1), (2, .int p2), (3, .int p3), (4, .int p4), (5, .int y_3), (6, .long n6), (8, .int i8)]) hx hb dX9_pairsOf_52 hl (by decide) rfl (fun ls hl => ?_)
      refine lv_iload hx hb dX9_pairsOf_54 (lv_at hl 6 rfl) ?_
      refine lv_iload hx hb dX9_pairsOf_56 (lv_at hl 8 rfl) ?_
      refine lv_iadd hx hb dX9_pairsOf_58 ?_
      refine lv_topi (fun y_9 ey_9 => ?_)
      refine lv_aload_n hx hb dX9_pairsOf_59 rfl (lv_at hl 1 rfl) ?_
      refine va_get (D := (dC, dI)) (ci := 9) (v := .int wi) (C := RX9) (T := TX9) (N := 22) hx hb hts in_X9_pairsOf_X9 hown hK hP 0 rfl rfl 7 (by decide) (hts (.fieldLink RX9 30 "MeetingsAboveModel" "wide" "I") (by decide +kernel)) (fun _ h9 => h9) rfl dX9_pairsOf_60 ?_
      refine lv_iadd hx hb dX9_pairsOf_63 ?_
      refine lv_topi (fun y_10 ey_10 => ?_)
      refine lv_istore (lv' := [(10, .int y_10), (9, .int y_8), (0, .ref h0), (1, .int p1), (2, .int p2), (3, .int p3), (4, .int p4), (5, .int y_3), (6, .long n6), (8, .int i8)]) hx hb dX9_pairsOf_64 hl (by decide) rfl (fun ls hl => ?_)
      refine lv_iload hx hb dX9_pairsOf_66 (lv_at hl 1 rfl) ?_
      refine lv_aload_n hx hb dX9_pairsOf_68 rfl (lv_at hl 2 rfl) ?_
      refine va_get (D := (dC, dI)) (ci := 9) (v := .ref a3) (C := RX9) (T := TX9) (N := 22) hx hb hts in_X9_pairsOf_X9 hown hK hP 0 rfl rfl 3 (by decide) (hts (.fieldLink RX9 16 "MeetingsAboveModel" "doubts" "[I") (by decide +kernel)) (fun _ h9 => h9) rfl dX9_pairsOf_69 ?_
      refine lv_iload_n hx hb dX9_pairsOf_72 rfl (lv_at hl 4 rfl) ?_
      refine va_iald hx hb hK hP 3 0 rfl rfl (vp_in_iff.mpr ⟨by omega, by omega⟩) dX9_pairsOf_73 ?_
      refine lv_topi (fun y_11 ey_11 => ?_)
      refine lv_ineg hx hb dX9_pairsOf_74 ?_
      refine lv_topi (fun y_12 ey_12 => ?_)
      refine lv_icmp_ge (tgt := 88) hx hb dX9_pairsOf_75 (by decide) (fun c_75 => ?_) (fun c_75 => ?_)
      · have t_75 := (fa_le _ _).mp c_75
        refine lv_iload hx hb dX9_pairsOf_88 (lv_at hl 1 rfl) ?_
        refine lv_istore (lv' := [(9, .int y_8), (10, .int y_10), (0, .ref h0), (1, .int p1), (2, .int p2), (3, .int p3), (4, .int p4), (5, .int y_3), (6, .long n6), (8, .int i8)]) hx hb dX9_pairsOf_90 hl (by decide) rfl (fun ls hl => ?_)
        refine lv_iload hx hb dX9_pairsOf_92 (lv_at hl 1 rfl) ?_
        refine lv_aload_n hx hb dX9_pairsOf_94 rfl (lv_at hl 2 rfl) ?_
        refine va_get (D := (dC, dI)) (ci := 9) (v := .ref a3) (C := RX9) (T := TX9) (N := 22) hx hb hts in_X9_pairsOf_X9 hown hK hP 0 rfl rfl 3 (by decide) (hts (.fieldLink RX9 16 "MeetingsAboveModel" "doubts" "[I") (by decide +kernel)) (fun _ h9 => h9) rfl dX9_pairsOf_95 ?_
        refine lv_iload_n hx hb dX9_pairsOf_98 rfl (lv_at hl 4 rfl) ?_
        refine va_iald hx hb hK hP 3 0 rfl rfl (vp_in_iff.mpr ⟨by omega, by omega⟩) dX9_pairsOf_99 ?_
        refine lv_topi (fun y_13 ey_13 => ?_)
        refine lv_icmp_le (tgt := 112) hx hb dX9_pairsOf_100 (by decide) (fun c_100 => ?_) (fun c_100 => ?_)
        · have t_100 := (fa_le _ _).mp c_100
          refine lv_iload hx hb dX9_pairsOf_112 (lv_at hl 1 rfl) ?_
          refine lv_istore (lv' := [(10, .int y_10), (9, .int y_8), (0, .ref h0), (1, .int p1), (2, .int p2), (3, .int p3), (4, .int p4), (5, .int y_3), (6, .long n6), (8, .int i8)]) hx hb dX9_pairsOf_114 hl (by decide) rfl (fun ls hl => ?_)
          refine lv_lload hx hb dX9_pairsOf_116 (lv_at hl 8 rfl) ?_
          refine lv_iload hx hb dX9_pairsOf_118 (lv_at hl 0 rfl) ?_
          refine lv_iload hx hb dX9_pairsOf_120 (lv_at hl 1 rfl) ?_
          refine lv_icmp_ge (tgt := 129) hx hb dX9_pairsOf_122 (by decide) (fun c_122 => ?_) (fun c_122 => ?_)
          · have t_122 := (fa_le _ _).mp c_122
            refine lv_iload hx hb dX9_pairsOf_129 (lv_at hl 0 rfl) ?_
            refine lv_iload hx hb dX9_pairsOf_131 (lv_at hl 1 rfl) ?_
            refine lv_isub hx hb dX9_pairsOf_133 ?_
            refine lv_topi (fun y_14 ey_14 => ?_)
            refine lv_iconst (v := 1) hx hb dX9_pairsOf_134 (by decide) ?_
            refine lv_iadd hx hb dX9_pairsOf_135 ?_
            refine lv_topi (fun y_15 ey_15 => ?_)
            refine lv_i2l hx hb dX9_pairsOf_136 rfl ?_
            refine lv_ladd hx hb dX9_pairsOf_137 ?_
            refine lv_topl (fun y_16 ey_16 => ?_)
            refine lv_lstore (lv' := [(6, .long y_16), (10, .int y_10), (9, .int y_8), (0, .ref h0), (1, .int p1), (2, .int p2), (3, .int p3), (4, .int p4), (5, .int y_3), (8, .int i8)]) hx hb dX9_pairsOf_138 hl (by decide) rfl (fun ls hl => ?_)
            obtain ⟨y_17, ey_17⟩ : ∃ y : Int32, y = i8 + 1 := ⟨_, rfl⟩
            have ty_17 : y_17.toInt = i8.toInt + 1 := by rw [ey_17]; have := fb_addI (x := i8) (y := 1) (by omega) (by omega); omega
            refine lv_iinc (v := y_17) (lv' := [(8, .int y_17), (6, .long y_16), (10, .int y_10), (9, .int y_8), (0, .ref h0), (1, .int p1), (2, .int p2), (3, .int p3), (4, .int p4), (5, .int y_3)]) hx hb dX9_pairsOf_140 hl (k := 9) rfl (by rw [ey_17]; rfl) (by decide) rfl (fun ls hl => ?_)
            refine lv_goto (tgt := 31) hx hb dX9_pairsOf_143 (by decide) ?_
            exact ih_31 y_16 y_17 (by omega) (by omega) (by omega) ls (lv_sub hl [4, 5, 6, 7, 8, 9, 1, 0] rfl)
          · have t_122 := mt (fa_le _ _).mpr c_122
            refine lv_lconst (v := 0) hx hb dX9_pairsOf_125 (by decide) ?_
            refine lv_goto (tgt := 137) hx hb dX9_pairsOf_126 (by decide) ?_
            refine lv_ladd hx hb dX9_pairsOf_137 ?_
            refine lv_topl (fun y_18 ey_18 => ?_)
            refine lv_lstore (lv' := [(6, .long y_18), (10, .int y_10), (9, .int y_8), (0, .ref h0), (1, .int p1), (2, .int p2), (3, .int p3), (4, .int p4), (5, .int y_3), (8, .int i8)]) hx hb dX9_pairsOf_138 hl (by decide) rfl (fun ls hl => ?_)
            obtain ⟨y_19, ey_19⟩ : ∃ y : Int32, y = i8 + 1 := ⟨_, rfl⟩
            have ty_19 : y_19.toInt = i8.toInt + 1 := by rw [ey_19]; have := fb_addI (x := i8) (y := 1) (by omega) (by omega); omega
            refine lv_iinc (v := y_19) (lv' := [(8, .int y_19), (6, .long y_18), (10, .int y_10), (9, .int y_8), (0, .ref h0), (1, .int p1), (2, .int p2), (3, .int p3), (4, .int p4), (5, .int y_3)]) hx hb dX9_pairsOf_140 hl (k := 9) rfl (by rw [ey_19]; rfl) (by decide) rfl (fun ls hl => ?_)
            refine lv_goto (tgt := 31) hx hb dX9_pairsOf_143 (by decide) ?_
            exact ih_31 y_18 y_19 (by omega) (by omega) (by omega) ls (lv_sub hl [4, 5, 6, 7, 8, 9, 1, 0] rfl)
        · have t_100 := mt (fa_le _ _).mpr c_100
          refine lv_aload_n hx hb dX9_pairsOf_103 rfl (lv_at hl 2 rfl) ?_
          refine va_get (D := (dC, dI)) (ci := 9) (v := .ref a3) (C := RX9) (T := TX9) (N := 22) hx hb hts in_X9_pairsOf_X9 hown hK hP 0 rfl rfl 3 (by decide) (hts (.fieldLink RX9 16 "MeetingsAboveModel" "doubts" "[I") (by decide +kernel)) (fun _ h9 => h9) rfl dX9_pairsOf_104 ?_
          refine lv_iload_n hx hb dX9_pairsOf_107 rfl (lv_at hl 4 rfl) ?_
          refine va_iald hx hb hK hP 3 0 rfl rfl (vp_in_iff.mpr ⟨by omega, by omega⟩) dX9_pairsOf_108 ?_
          refine lv_topi (fun y_20 ey_20 => ?_)
          refine lv_goto (tgt := 114) hx hb dX9_pairsOf_109 (by decide) ?_
          refine lv_istore (lv' := [(10, .int y_20), (9, .int y_8), (0, .ref h0), (1, .int p1), (2, .int p2), (3, .int p3), (4, .int p4), (5, .int y_3), (6, .long n6), (8, .int i8)]) hx hb dX9_pairsOf_114 hl (by decide) rfl (fun ls hl => ?_)
          refine lv_lload hx hb dX9_pairsOf_116 (lv_at hl 8 rfl) ?_
          refine lv_iload hx hb dX9_pairsOf_118 (lv_at hl 0 rfl) ?_
          refine lv_iload hx hb dX9_pairsOf_120 (lv_at hl 1 rfl) ?_
          refine lv_icmp_ge (tgt := 129) hx hb dX9_pairsOf_122 (by decide) (fun c_122 => ?_) (fun c_122 => ?_)
          · have t_122 := (fa_le _ _).mp c_122
            refine lv_iload hx hb dX9_pairsOf_129 (lv_at hl 0 rfl) ?_
            refine lv_iload hx hb dX9_pairsOf_131 (lv_at hl 1 rfl) ?_
            refine lv_isub hx hb dX9_pairsOf_133 ?_
            refine lv_topi (fun y_21 ey_21 => ?_)
            refine lv_iconst (v := 1) hx hb dX9_pairsOf_134 (by decide) ?_
            refine lv_iadd hx hb dX9_pairsOf_135 ?_
            refine lv_topi (fun y_22 ey_22 => ?_)
            refine lv_i2l hx hb dX9_pairsOf_136 rfl ?_
            refine lv_ladd hx hb dX9_pairsOf_137 ?_
            refine lv_topl (fun y_23 ey_23 => ?_)
            refine lv_lstore (lv' := [(6, .long y_23), (10, .int y_20), (9, .int y_8), (0, .ref h0), (1, .int p1), (2, .int p2), (3, .int p3), (4, .int p4), (5, .int y_3), (8, .int i8)]) hx hb dX9_pairsOf_138 hl (by decide) rfl (fun ls hl => ?_)
            obtain ⟨y_24, ey_24⟩ : ∃ y : Int32, y = i8 + 1 := ⟨_, rfl⟩
            have ty_24 : y_24.toInt = i8.toInt + 1 := by rw [ey_24]; have := fb_addI (x := i8) (y := 1) (by omega) (by omega); omega
            refine lv_iinc (v := y_24) (lv' := [(8, .int y_24), (6, .long y_23), (10, .int y_20), (9, .int y_8), (0, .ref h0), (1, .int p1), (2, .int p2), (3, .int p3), (4, .int p4), (5, .int y_3)]) hx hb dX9_pairsOf_140 hl (k := 9) rfl (by rw [ey_24]; rfl) (by decide) rfl (fun ls hl => ?_)
            refine lv_goto (tgt := 31) hx hb dX9_pairsOf_143 (by decide) ?_
            exact ih_31 y_23 y_24 (by omega) (by omega) (by omega) ls (lv_sub hl [4, 5, 6, 7, 8, 9, 1, 0] rfl)
          · have t_122 := mt (fa_le _ _).mpr c_122
            refine lv_lconst (v := 0) hx hb dX9_pairsOf_125 (by decide) ?_
            refine lv_goto (tgt := 137) hx hb dX9_pairsOf_126 (by decide) ?_
            refine lv_ladd hx hb dX9_pairsOf_137 ?_
            refine lv_topl (fun y_25 ey_25 => ?_)
            refine lv_lstore (lv' := [(6, .long y_25), (10, .int y_20), (9, .int y_8), (0, .ref h0), (1, .int p1), (2, .int p2), (3, .int p3), (4, .int p4), (5, .int y_3), (8, .int i8)]) hx hb dX9_pairsOf_138 hl (by decide) rfl (fun ls hl => ?_)
            obtain ⟨y_26, ey_26⟩ : ∃ y : Int32, y = i8 + 1 := ⟨_, rfl⟩
            have ty_26 : y_26.toInt = i8.toInt + 1 := by rw [ey_26]; have := fb_addI (x := i8) (y := 1) (by omega) (by omega); omega
            refine lv_iinc (v := y_26) (lv' := [(8, .int y_26), (6, .long y_25), (10, .int y_20), (9, .int y_8), (0, .ref h0), (1, .int p1), (2, .int p2), (3, .int p3), (4, .int p4), (5, .int y_3)]) hx hb dX9_pairsOf_140 hl (k := 9) rfl (by rw [ey_26]; rfl) (by decide) rfl (fun ls hl => ?_)
            refine lv_goto (tgt := 31) hx hb dX9_pairsOf_143 (by decide) ?_
            exact ih_31 y_25 y_26 (by omega) (by omega) (by omega) ls (lv_sub hl [4, 5, 6, 7, 8, 9, 1, 0] rfl)
      · have t_75 := mt (fa_le _ _).mpr c_75
        refine lv_aload_n hx hb dX9_pairsOf_78 rfl (lv_at hl 2 rfl) ?_
        refine va_get (D := (dC, dI)) (ci := 9) (v := .ref a3) (C := RX9) (T := TX9) (N := 22) hx hb hts in_X9_pairsOf_X9 hown hK hP 0 rfl rfl 3 (by decide) (hts (.fieldLink RX9 16 "MeetingsAboveModel" "doubts" "[I") (by decide +kernel)) (fun _ h9 => h9) rfl dX9_pairsOf_79 ?_
        refine lv_iload_n hx hb dX9_pairsOf_82 rfl (lv_at hl 4 rfl) ?_
        refine va_iald hx hb hK hP 3 0 rfl rfl (vp_in_iff.mpr ⟨by omega, by omega⟩) dX9_pairsOf_83 ?_
        refine lv_topi (fun y_27 ey_27 => ?_)
        refine lv_ineg hx hb dX9_pairsOf_84 ?_
        refine lv_topi (fun y_28 ey_28 => ?_)
        refine lv_goto (tgt := 90) hx hb dX9_pairsOf_85 (by decide) ?_
        refine lv_istore (lv' := [(9, .int y_28), (10, .int y_10), (0, .ref h0), (1, .int p1), (2, .int p2), (3, .int p3), (4, .int p4), (5, .int y_3), (6, .long n6), (8, .int i8)]) hx hb dX9_pairsOf_90 hl (by decide) rfl (fun ls hl => ?_)
        refine lv_iload hx hb dX9_pairsOf_92 (lv_at hl 1 rfl) ?_
        refine lv_aload_n hx hb dX9_pairsOf_94 rfl (lv_at hl 2 rfl) ?_
        refine va_get (D := (dC, dI)) (ci := 9) (v := .ref a3) (C := RX9) (T := TX9) (N := 22) hx hb hts in_X9_pairsOf_X9 hown hK hP 0 rfl rfl 3 (by decide) (hts (.fieldLink RX9 16 "MeetingsAboveModel" "doubts" "[I") (by decide +kernel)) (fun _ h9 => h9) rfl dX9_pairsOf_95 ?_
        refine lv_iload_n hx hb dX9_pairsOf_98 rfl (lv_at hl 4 rfl) ?_
        refine va_iald hx hb hK hP 3 0 rfl rfl (vp_in_iff.mpr ⟨by omega, by omega⟩) dX9_pairsOf_99 ?_
        refine lv_topi (fun y_29 ey_29 => ?_)
        refine lv_icmp_le (tgt := 112) hx hb dX9_pairsOf_100 (by decide) (fun c_100 => ?_) (fun c_100 => ?_)
        · have t_100 := (fa_le _ _).mp c_100
          refine lv_iload hx hb dX9_pairsOf_112 (lv_at hl 1 rfl) ?_
          refine lv_istore (lv' := [(10, .int y_10), (9, .int y_28), (0, .ref h0), (1, .int p1), (2, .int p2), (3, .int p3), (4, .int p4), (5, .int y_3), (6, .long n6), (8, .int i8)]) hx hb dX9_pairsOf_114 hl (by decide) rfl (fun ls hl => ?_)
          refine lv_lload hx hb dX9_pairsOf_116 (lv_at hl 8 rfl) ?_
          refine lv_iload hx hb dX9_pairsOf_118 (lv_at hl 0 rfl) ?_
          refine lv_iload hx hb dX9_pairsOf_120 (lv_at hl 1 rfl) ?_
          refine lv_icmp_ge (tgt := 129) hx hb dX9_pairsOf_122 (by decide) (fun c_122 => ?_) (fun c_122 => ?_)
          · have t_122 := (fa_le _ _).mp c_122
            refine lv_iload hx hb dX9_pairsOf_129 (lv_at hl 0 rfl) ?_
            refine lv_iload hx hb dX9_pairsOf_131 (lv_at hl 1 rfl) ?_
            refine lv_isub hx hb dX9_pairsOf_133 ?_
            refine lv_topi (fun y_30 ey_30 => ?_)
            refine lv_iconst (v := 1) hx hb dX9_pairsOf_134 (by decide) ?_
            refine lv_iadd hx hb dX9_pairsOf_135 ?_
            refine lv_topi (fun y_31 ey_31 => ?_)
            refine lv_i2l hx hb dX9_pairsOf_136 rfl ?_
            refine lv_ladd hx hb dX9_pairsOf_137 ?_
            refine lv_topl (fun y_32 ey_32 => ?_)
            refine lv_lstore (lv' := [(6, .long y_32), (10, .int y_10), (9, .int y_28), (0, .ref h0), (1, .int p1), (2, .int p2), (3, .int p3), (4, .int p4), (5, .int y_3), (8, .int i8)]) hx hb dX9_pairsOf_138 hl (by decide) rfl (fun ls hl => ?_)
            obtain ⟨y_33, ey_33⟩ : ∃ y : Int32, y = i8 + 1 := ⟨_, rfl⟩
            have ty_33 : y_33.toInt = i8.toInt + 1 := by rw [ey_33]; have := fb_addI (x := i8) (y := 1) (by omega) (by omega); omega
            refine lv_iinc (v := y_33) (lv' := [(8, .int y_33), (6, .long y_32), (10, .int y_10), (9, .int y_28), (0, .ref h0), (1, .int p1), (2, .int p2), (3, .int p3), (4, .int p4), (5, .int y_3)]) hx hb dX9_pairsOf_140 hl (k := 9) rfl (by rw [ey_33]; rfl) (by decide) rfl (fun ls hl => ?_)
            refine lv_goto (tgt := 31) hx hb dX9_pairsOf_143 (by decide) ?_
            exact ih_31 y_32 y_33 (by omega) (by omega) (by omega) ls (lv_sub hl [4, 5, 6, 7, 8, 9, 1, 0] rfl)
          · have t_122 := mt (fa_le _ _).mpr c_122
            refine lv_lconst (v := 0) hx hb dX9_pairsOf_125 (by decide) ?_
            refine lv_goto (tgt := 137) hx hb dX9_pairsOf_126 (by decide) ?_
            refine lv_ladd hx hb dX9_pairsOf_137 ?_
            refine lv_topl (fun y_34 ey_34 => ?_)
            refine lv_lstore (lv' := [(6, .long y_34), (10, .int y_10), (9, .int y_28), (0, .ref h0), (1, .int p1), (2, .int p2), (3, .int p3), (4, .int p4), (5, .int y_3), (8, .int i8)]) hx hb dX9_pairsOf_138 hl (by decide) rfl (fun ls hl => ?_)
            obtain ⟨y_35, ey_35⟩ : ∃ y : Int32, y = i8 + 1 := ⟨_, rfl⟩
            have ty_35 : y_35.toInt = i8.toInt + 1 := by rw [ey_35]; have := fb_addI (x := i8) (y := 1) (by omega) (by omega); omega
            refine lv_iinc (v := y_35) (lv' := [(8, .int y_35), (6, .long y_34), (10, .int y_10), (9, .int y_28), (0, .ref h0), (1, .int p1), (2, .int p2), (3, .int p3), (4, .int p4), (5, .int y_3)]) hx hb dX9_pairsOf_140 hl (k := 9) rfl (by rw [ey_35]; rfl) (by decide) rfl (fun ls hl => ?_)
            refine lv_goto (tgt := 31) hx hb dX9_pairsOf_143 (by decide) ?_
            exact ih_31 y_34 y_35 (by omega) (by omega) (by omega) ls (lv_sub hl [4, 5, 6, 7, 8, 9, 1, 0] rfl)
        · have t_100 := mt (fa_le _ _).mpr c_100
          refine lv_aload_n hx hb dX9_pairsOf_103 rfl (lv_at hl 2 rfl) ?_
          refine va_get (D := (dC, dI)) (ci := 9) (v := .ref a3) (C := RX9) (T := TX9) (N := 22) hx hb hts in_X9_pairsOf_X9 hown hK hP 0 rfl rfl 3 (by decide) (hts (.fieldLink RX9 16 "MeetingsAboveModel" "doubts" "[I") (by decide +kernel)) (fun _ h9 => h9) rfl dX9_pairsOf_104 ?_
          refine lv_iload_n hx hb dX9_pairsOf_107 rfl (lv_at hl 4 rfl) ?_
          refine va_iald hx hb hK hP 3 0 rfl rfl (vp_in_iff.mpr ⟨by omega, by omega⟩) dX9_pairsOf_108 ?_
          refine lv_topi (fun y_36 ey_36 => ?_)
          refine lv_goto (tgt := 114) hx hb dX9_pairsOf_109 (by decide) ?_
          refine lv_istore (lv' := [(10, .int y_36), (9, .int y_28), (0, .ref h0), (1, .int p1), (2, .int p2), (3, .int p3), (4, .int p4), (5, .int y_3), (6, .long n6), (8, .int i8)]) hx hb dX9_pairsOf_114 hl (by decide) rfl (fun ls hl => ?_)
          refine lv_lload hx hb dX9_pairsOf_116 (lv_at hl 8 rfl) ?_
          refine lv_iload hx hb dX9_pairsOf_118 (lv_at hl 0 rfl) ?_
          refine lv_iload hx hb dX9_pairsOf_120 (lv_at hl 1 rfl) ?_
          refine lv_icmp_ge (tgt := 129) hx hb dX9_pairsOf_122 (by decide) (fun c_122 => ?_) (fun c_122 => ?_)
          · have t_122 := (fa_le _ _).mp c_122
            refine lv_iload hx hb dX9_pairsOf_129 (lv_at hl 0 rfl) ?_
            refine lv_iload hx hb dX9_pairsOf_131 (lv_at hl 1 rfl) ?_
            refine lv_isub hx hb dX9_pairsOf_133 ?_
            refine lv_topi (fun y_37 ey_37 => ?_)
            refine lv_iconst (v := 1) hx hb dX9_pairsOf_134 (by decide) ?_
            refine lv_iadd hx hb dX9_pairsOf_135 ?_
            refine lv_topi (fun y_38 ey_38 => ?_)
            refine lv_i2l hx hb dX9_pairsOf_136 rfl ?_
            refine lv_ladd hx hb dX9_pairsOf_137 ?_
            refine lv_topl (fun y_39 ey_39 => ?_)
            refine lv_lstore (lv' := [(6, .long y_39), (10, .int y_36), (9, .int y_28), (0, .ref h0), (1, .int p1), (2, .int p2), (3, .int p3), (4, .int p4), (5, .int y_3), (8, .int i8)]) hx hb dX9_pairsOf_138 hl (by decide) rfl (fun ls hl => ?_)
            obtain ⟨y_40, ey_40⟩ : ∃ y : Int32, y = i8 + 1 := ⟨_, rfl⟩
            have ty_40 : y_40.toInt = i8.toInt + 1 := by rw [ey_40]; have := fb_addI (x := i8) (y := 1) (by omega) (by omega); omega
            refine lv_iinc (v := y_40) (lv' := [(8, .int y_40), (6, .long y_39), (10, .int y_36), (9, .int y_28), (0, .ref h0), (1, .int p1), (2, .int p2), (3, .int p3), (4, .int p4), (5, .int y_3)]) hx hb dX9_pairsOf_140 hl (k := 9) rfl (by rw [ey_40]; rfl) (by decide) rfl (fun ls hl => ?_)
            refine lv_goto (tgt := 31) hx hb dX9_pairsOf_143 (by decide) ?_
            exact ih_31 y_39 y_40 (by omega) (by omega) (by omega) ls (lv_sub hl [4, 5, 6, 7, 8, 9, 1, 0] rfl)
          · have t_122 := mt (fa_le _ _).mpr c_122
            refine lv_lconst (v := 0) hx hb dX9_pairsOf_125 (by decide) ?_
            refine lv_goto (tgt := 137) hx hb dX9_pairsOf_126 (by decide) ?_
            refine lv_ladd hx hb dX9_pairsOf_137 ?_
            refine lv_topl (fun y_41 ey_41 => ?_)
            refine lv_lstore (lv' := [(6, .long y_41), (10, .int y_36), (9, .int y_28), (0, .ref h0), (1, .int p1), (2, .int p2), (3, .int p3), (4, .int p4), (5, .int y_3), (8, .int i8)]) hx hb dX9_pairsOf_138 hl (by decide) rfl (fun ls hl => ?_)
            obtain ⟨y_42, ey_42⟩ : ∃ y : Int32, y = i8 + 1 := ⟨_, rfl⟩
            have ty_42 : y_42.toInt = i8.toInt + 1 := by rw [ey_42]; have := fb_addI (x := i8) (y := 1) (by omega) (by omega); omega
            refine lv_iinc (v := y_42) (lv' := [(8, .int y_42), (6, .long y_41), (10, .int y_36), (9, .int y_28), (0, .ref h0), (1, .int p1), (2, .int p2), (3, .int p3), (4, .int p4), (5, .int y_3)]) hx hb dX9_pairsOf_140 hl (k := 9) rfl (by rw [ey_42]; rfl) (by decide) rfl (fun ls hl => ?_)
            refine lv_goto (tgt := 31) hx hb dX9_pairsOf_143 (by decide) ?_
            exact ih_31 y_41 y_42 (by omega) (by omega) (by omega) ls (lv_sub hl [4, 5, 6, 7, 8, 9, 1, 0] rfl)
