def wk_X9_isClear : List Cond := .code yX9_isClear cX9_isClear 13 (some .boolean) :: (([.fieldLink RX9 26 "MeetingsAboveModel" "near" "I"] : List Cond) ++ (wsX90 ++ ((wsV RX9 94 RX9 yX9_spot wk_X9_spot) ++ ([]))))
theorem in_X9_isClear_X9 : ∀ w ∈ wsX90, w ∈ wk_X9_isClear := fun _ h => List.mem_cons_of_mem _ (List.mem_append_right _ (List.mem_append_left _ h))
theorem gw_X9_isClear : AG wk_X9_isClear := AG_ca (AG_l (by decide +kernel)) (AG_app ag_X9 (AG_app (AG_V gw_X9_spot) (AG_nil)))
theorem g_X9_isClear__X9_spot_94 : GoodIn wk_X9_isClear (wsV RX9 94 RX9 yX9_spot wk_X9_spot) := goodIn_m (fun _ h => List.mem_cons_of_mem _ (List.mem_append_right _ (List.mem_append_right _ (List.mem_append_left _ h)))) (AG_V gw_X9_spot)
set_option maxHeartbeats 4000000 in
set_option maxRecDepth 100000 in
theorem c_X9_isClear (l : Launch) (dC : Nat → ClassId) (dI : Nat → Nat → Nat) (h0 : Nat) (a1 : Nat) (a2 : Nat) (a3 : Nat) (a4 : Nat) (a5 : Nat) (a6 : Nat) (a7 : Nat) (a8 : Nat) (a9 : Nat) (a10 : Nat) (a11 : Nat) (th : Int32) (ne : Int32) (wi : Int32) (dn : Int32) (nn : Int32) (la : Int32) (wh : Int32) (up : Int64) (lw : Int64) (pu : Int64) (pw : Int64) (cI : ClassId) (Fi : Nat → Int32) (Ma : Nat → Int32) (Sp : Nat → Int32) (p1 : Int32) (p2 : Int32) (p3 : Int32) (p4 : Int32) (p5 : Int32) (hM : mOK th Fi Ma) (hp10 : 0 ≤ p1.toInt) (hp11 : p1.toInt < th.toInt) (hp20 : 0 ≤ p2.toInt) (hp21 : p2.toInt < th.toInt) (hx0 : 0 ≤ p3.toInt) (hx1 : p3.toInt ≤ 2) (hf1 : (Fi p1.toNatClampNeg).toInt ≤ p4.toInt) (hf2 : (Fi p2.toNatClampNeg).toInt ≤ p4.toInt) (hl1 : p5.toInt < (Fi p1.toNatClampNeg).toInt + (Ma p1.toNatClampNeg).toInt) (hl2 : p5.toInt < (Fi p2.toNatClampNeg).toInt + (Ma p2.toNatClampNeg).toInt) (hft : p4.toInt ≤ p5.toInt) : Met l yX9_isClear wk_X9_isClear ({ frames := 1, cells := 0, slots := 0, locals := 23 }) (va_Pc [.ref h0, .int p1, .int p2, .int p3, .int p4, .int p5] (fun U => va_P (dC, dI) vwCl [(h0, .inr (9, [.int th, .ref a1, .ref a2, .ref a3, .ref a4, .ref a5, .int ne, .int wi, .int dn, .ref a6, .ref a7, .int nn, .ref a8, .int la, .ref a9, .ref a10, .long up, .long lw, .int wh, .long pu, .long pw, .ref a11])), (a1, .inl (cI, 16, .inl Fi)), (a2, .inl (cI, 16, .inl Ma)), (a5, .inl (cI, 576, .inl Sp))] U.heap ∧ va_K (dC, dI) vwCl [(cI, .int)] U)) (vp_Si (fun r => True)) 0 0 (fun _ => False) := by
  refine Met.ofW (cc := cX9_isClear) (maxL := 13) (ret := (some .boolean)) (by decide) rfl ?_
  intro p e s m args below meth c s₁ B hml hv
  obtain ⟨rfl, hP, hK⟩ := hv
  have hx := B.exec
  have hb := B.bytes
  have hr := B.returns
  have hts := atoms_spec (ws := wk_X9_isClear) B.pre
  have hown : s.vm.findClass RX9 = some m.cls := findClass_of_methodNamed B.named
  have hlocks := B.notSynchronized
  have hP : va_P (dC, dI) vwCl [(h0, .inr (9, [.int th, .ref a1, .ref a2, .ref a3, .ref a4, .ref a5, .int ne, .int wi, .int dn, .ref a6, .ref a7, .int nn, .ref a8, .int la, .ref a9, .ref a10, .long up, .long lw, .int wh, .long pu, .long pw, .ref a11])), (a1, .inl (cI, 16, .inl Fi)), (a2, .inl (cI, 16, .inl Ma)), (a5, .inl (cI, 576, .inl Sp))] s.heap := hP
  have hl := lv_entry ([.ref h0, .int p1, .int p2, .int p3, .int p4, .int p5]) (n := 13) (Nat.le_of_ble_eq_true rfl)
  rw [lg_entry_eq]
  generalize (lg_sl ([.ref h0, .int p1, .int p2, .int p3, .int p4, .int p5]) ++ List.replicate (13 - (lg_sl ([.ref h0, .int p1, .int p2, .int p3, .int p4, .int p5])).length) Slot.unset).toArray = ls at hl ⊢
  have hl : lv_has ls 13 [(0, .ref h0), (1, .int p1), (2, .int p2), (3, .int p3), (4, .int p4), (5, .int p5)] := hl
  have kl_0 : (0 : Int32).toInt = 0 := by decide
  have kl_1 : (1 : Int32).toInt = 1 := by decide
  obtain ⟨hM0, hM1, hM2⟩ := id hM
  have np1 : ((p1.toNatClampNeg : Nat) : Int) = p1.toInt := tc_I (by omega)
  have bp1 := hM2 p1.toNatClampNeg (by omega)
  have np2 : ((p2.toNatClampNeg : Nat) : Int) = p2.toInt := tc_I (by omega)
  have bp2 := hM2 p2.toNatClampNeg (by omega)
  refine lv_aload_n hx hb dX9_isClear_0 rfl (lv_at hl 0 rfl) ?_
  refine lv_iload_n hx hb dX9_isClear_1 rfl (lv_at hl 1 rfl) ?_
  refine lv_iload hx hb dX9_isClear_2 (lv_at hl 4 rfl) ?_
  refine lv_iload_n hx hb dX9_isClear_4 rfl (lv_at hl 3 rfl) ?_
  have hPc := hP.sub (ws' := [(h0, .inr (9, [.int th, .ref a1, .ref a2, .ref a3, .ref a4, .ref a5, .int ne, .int wi, .int dn, .ref a6, .ref a7, .int nn, .ref a8, .int la, .ref a9, .ref a10, .long up, .long lw, .int wh, .long pu, .long pw, .ref a11])), (a1, .inl (cI, 16, .inl Fi)), (a5, .inl (cI, 576, .inl Sp))]) [0, 1, 3] rfl
  have hKc := hK.sub (tys' := [(cI, .int)]) [0] rfl
  refine vp_callSi (W.runV (As := [.int p1, .int p4, .int p3]) (rest := []) ⟨hx, hb, hml, hown, hts⟩ (c_X9_spot l dC dI Ma h0 a1 a2 a3 a4 a5 a6 a7 a8 a9 a10 a11 th ne wi dn nn la wh up lw pu pw cI Fi Sp p1 p4 p3 (by first | assumption | omega) (by first | omega | assumption) (by first | omega | assumption) (by first | omega | assumption) (by first | omega | assumption) (by first | omega | assumption) (by first | omega | assumption)) (cwV 3 hts g_X9_isClear__X9_spot_94 rfl rfl rfl (by decide +kernel) ⟨Nat.le_of_ble_eq_true rfl, Nat.le_of_ble_eq_true rfl⟩) ⟨fun a U g mk q => by obtain ⟨q0, qP, qK⟩ := q; exact ⟨q0, qP, va_K.moved (u := U) (U := U.calling g mk a) (Vm.Alike.refl U.vm) qK⟩, va_recv hKc hPc (ci := 9) (q0 := 0) rfl rfl, fun U hU hW => ⟨rfl, by rw [hU]; exact hPc, va_K.moved hW.alike hKc⟩⟩ rfl rfl hl.1 rfl (lv_room (Nat.le_of_ble_eq_true rfl)) dX9_isClear_5 ⟨Nat.le_of_ble_eq_true rfl, Nat.le_of_ble_eq_true rfl⟩) (fun r_1 hr_1 => ?_)
  try dsimp only at hr_1
  refine lv_istore (lv' := [(6, .int r_1), (0, .ref h0), (1, .int p1), (2, .int p2), (3, .int p3), (4, .int p4), (5, .int p5)]) hx hb dX9_isClear_8 hl (by decide) rfl (fun ls hl => ?_)
  refine lv_iload hx hb dX9_isClear_10 (lv_at hl 0 rfl) ?_
  refine lv_istore (lv' := [(7, .int r_1), (6, .int r_1), (0, .ref h0), (1, .int p1), (2, .int p2), (3, .int p3), (4, .int p4), (5, .int p5)]) hx hb dX9_isClear_12 hl (by decide) rfl (fun ls hl => ?_)
  refine lv_aload_n hx hb dX9_isClear_14 rfl (lv_at hl 2 rfl) ?_
  refine lv_iload_n hx hb dX9_isClear_15 rfl (lv_at hl 4 rfl) ?_
  refine lv_iload hx hb dX9_isClear_16 (lv_at hl 6 rfl) ?_
  refine lv_iload_n hx hb dX9_isClear_18 rfl (lv_at hl 5 rfl) ?_
  have hPc := hP.sub (ws' := [(h0, .inr (9, [.int th, .ref a1, .ref a2, .ref a3, .ref a4, .ref a5, .int ne, .int wi, .int dn, .ref a6, .ref a7, .int nn, .ref a8, .int la, .ref a9, .ref a10, .long up, .long lw, .int wh, .long pu, .long pw, .ref a11])), (a1, .inl (cI, 16, .inl Fi)), (a5, .inl (cI, 576, .inl Sp))]) [0, 1, 3] rfl
  have hKc := hK.sub (tys' := [(cI, .int)]) [0] rfl
  refine vp_callSi (W.runV (As := [.int p2, .int p4, .int p3]) (rest := []) ⟨hx, hb, hml, hown, hts⟩ (c_X9_spot l dC dI Ma h0 a1 a2 a3 a4 a5 a6 a7 a8 a9 a10 a11 th ne wi dn nn la wh up lw pu pw cI Fi Sp p2 p4 p3 (by first | assumption | omega) (by first | omega | assumption) (by first | omega | assumption) (by first | omega | assumption) (by first | omega | assumption) (by first | omega | assumption) (by first | omega | assumption)) (cwV 3 hts g_X9_isClear__X9_spot_94 rfl rfl rfl (by decide +kernel) ⟨Nat.le_of_ble_eq_true rfl, Nat.le_of_ble_eq_true rfl⟩) ⟨fun a U g mk q => by obtain ⟨q0, qP, qK⟩ := q; exact ⟨q0, qP, va_K.moved (u := U) (U := U.calling g mk a) (Vm.Alike.refl U.vm) qK⟩, va_recv hKc hPc (ci := 9) (q0 := 0) rfl rfl, fun U hU hW => ⟨rfl, by rw [hU]; exact hPc, va_K.moved hW.alike hKc⟩⟩ rfl rfl hl.1 rfl (lv_room (Nat.le_of_ble_eq_true rfl)) dX9_isClear_19 ⟨Nat.le_of_ble_eq_true rfl, Nat.le_of_ble_eq_true rfl⟩) (fun r_2 hr_2 => ?_)
  try dsimp only at hr_2
  refine lv_istore (lv' := [(8, .int r_2), (7, .int r_1), (6, .int r_1), (0, .ref h0), (1, .int p1), (2, .int p2), (3, .int p3), (4, .int p4), (5, .int p5)]) hx hb dX9_isClear_22 hl (by decide) rfl (fun ls hl => ?_)
  refine lv_iload hx hb dX9_isClear_24 (lv_at hl 0 rfl) ?_
  refine lv_istore (lv' := [(9, .int r_2), (8, .int r_2), (7, .int r_1), (6, .int r_1), (0, .ref h0), (1, .int p1), (2, .int p2), (3, .int p3), (4, .int p4), (5, .int p5)]) hx hb dX9_isClear_26 hl (by decide) rfl (fun ls hl => ?_)
  refine lv_iload hx hb dX9_isClear_28 (lv_at hl 8 rfl) ?_
  refine lv_iconst (v := 1) hx hb dX9_isClear_30 (by decide) ?_
  refine lv_iadd hx hb dX9_isClear_31 ?_
  refine lv_topi (fun y_3 ey_3 => ?_)
  have ty_3 : y_3.toInt = p4.toInt + 1 := by rw [ey_3]; have := fb_addI (x := p4) (y := 1) (by omega) (by omega); omega
  refine lv_istore (lv' := [(10, .int y_3), (9, .int r_2), (8, .int r_2), (7, .int r_1), (6, .int r_1), (0, .ref h0), (1, .int p1), (2, .int p2), (3, .int p3), (4, .int p4), (5, .int p5)]) hx hb dX9_isClear_32 hl (by decide) rfl (fun ls hl => ?_)
  refine (show ∀ (k : Nat) (v6 : Int32) (v7 : Int32) (v8 : Int32) (v9 : Int32) (v10 : Int32) (hk0 : p4.toInt < v10.toInt) (hk1 : v10.toInt ≤ p5.toInt + 1) (hk_34 : (p5.toInt + 1 - v10.toInt).toNat < k) (ls : Array Slot) (hl : lv_has ls 13 [(0, .ref h0), (1, .int p1), (2, .int p2), (3, .int p3), (4, .int p4), (5, .int p5), (6, .int v6), (7, .int v7), (8, .int v8), (9, .int v9), (10, .int v10)]), W p l e _ s m _ below meth c s.heap [] 0 0 _ (F0 m 34 ls []) from ?_) _ r_1 r_1 r_2 r_2 y_3 (by omega) (by omega) (Nat.lt_succ_self _) ls (lv_sub hl [5, 6, 7, 8, 9, 10, 4, 3, 2, 1, 0] rfl)
  intro k
  induction k with
  | zero => intro v6 v7 v8 v9 v10 hk0 hk1 hk_34; exact absurd hk_34 (Nat.not_lt_zero _)
  | succ k ih_34 =>
    intro v6 v7 v8 v9 v10 hk0 hk1 hk_34 ls hl
    refine lv_iload hx hb dX9_isClear_34 (lv_at hl 10 rfl) ?_
    refine lv_iload hx hb dX9_isClear_36 (lv_at hl 5 rfl) ?_
    refine lv_icmp_gt (tgt := 131) hx hb dX9_isClear_38 (by decide) (fun c_38 => ?_) (fun c_38 => ?_)
    · have t_38 := (fa_lt _ _).mp c_38
      refine lv_iload hx hb dX9_isClear_131 (lv_at hl 6 rfl) ?_
      refine lv_iload hx hb dX9_isClear_133 (lv_at hl 9 rfl) ?_
      refine lv_isub hx hb dX9_isClear_135 ?_
      refine lv_topi (fun y_4 ey_4 => ?_)
      refine lv_aload_n hx hb dX9_isClear_136 rfl (lv_at hl 0 rfl) ?_
      refine va_get (D := (dC, dI)) (ci := 9) (v := .int ne) (C := RX9) (T := TX9) (N := 22) hx hb hts in_X9_isClear_X9 hown hK hP 0 rfl rfl 6 (by decide) (hts (.fieldLink RX9 26 "MeetingsAboveModel" "near" "I") (by decide +kernel)) (fun _ h9 => h9) rfl dX9_isClear_137 ?_
      refine lv_icmp_ge (tgt := 155) hx hb dX9_isClear_140 (by decide) (fun c_140 => ?_) (fun c_140 => ?_)
      · have t_140 := (fa_le _ _).mp c_140
        refine lv_iconst (v := 1) hx hb dX9_isClear_155 (by decide) ?_
        refine lv_goto (tgt := 160) hx hb dX9_isClear_156 (by decide) ?_
        exact W.zret (v := 1) hx hb hr rfl (fun t ht _ => ⟨_, rfl, trivial, ht⟩) (fun _ h => absurd h List.not_mem_nil) dX9_isClear_160
      · have t_140 := mt (fa_le _ _).mpr c_140
        refine lv_iload hx hb dX9_isClear_143 (lv_at hl 8 rfl) ?_
        refine lv_iload hx hb dX9_isClear_145 (lv_at hl 7 rfl) ?_
        refine lv_isub hx hb dX9_isClear_147 ?_
        refine lv_topi (fun y_5 ey_5 => ?_)
        refine lv_aload_n hx hb dX9_isClear_148 rfl (lv_at hl 0 rfl) ?_
        refine va_get (D := (dC, dI)) (ci := 9) (v := .int ne) (C := RX9) (T := TX9) (N := 22) hx hb hts in_X9_isClear_X9 hown hK hP 0 rfl rfl 6 (by decide) (hts (.fieldLink RX9 26 "MeetingsAboveModel" "near" "I") (by decide +kernel)) (fun _ h9 => h9) rfl dX9_isClear_149 ?_
        refine lv_icmp_lt (tgt := 159) hx hb dX9_isClear_152 (by decide) (fun c_152 => ?_) (fun c_152 => ?_)
        · have t_152 := (fa_lt _ _).mp c_152
          refine lv_iconst (v := 0) hx hb dX9_isClear_159 (by decide) ?_
          exact W.zret (v := 0) hx hb hr rfl (fun t ht _ => ⟨_, rfl, trivial, ht⟩) (fun _ h => absurd h List.not_mem_nil) dX9_isClear_160
        · have t_152 := mt (fa_lt _ _).mpr c_152
          refine lv_iconst (v := 1) hx hb dX9_isClear_155 (by decide) ?_
          refine lv_goto (tgt := 160) hx hb dX9_isClear_156 (by decide) ?_
          exact W.zret (v := 1) hx hb hr rfl (fun t ht _ => ⟨_, rfl, trivial, ht⟩) (fun _ h => absurd h List.not_mem_nil) dX9_isClear_160
    · have t_38 := mt (fa_lt _ _).mpr c_38
      refine lv_aload_n hx hb dX9_isClear_41 rfl (lv_at hl 0 rfl) ?_
      refine lv_iload_n hx hb dX9_isClear_42 rfl (lv_at hl 1 rfl) ?_
      refine lv_iload hx hb dX9_isClear_43 (lv_at hl 10 rfl) ?_
      refine lv_iload_n hx hb dX9_isClear_45 rfl (lv_at hl 3 rfl) ?_
      have hPc := hP.sub (ws' := [(h0, .inr (9, [.int th, .ref a1, .ref a2, .ref a3, .ref a4, .ref a5, .int ne, .int wi, .int dn, .ref a6, .ref a7, .int nn, .ref a8, .int la, .ref a9, .ref a10, .long up, .long lw, .int wh, .long pu, .long pw, .ref a11])), (a1, .inl (cI, 16, .inl Fi)), (a5, .inl (cI, 576, .inl Sp))]) [0, 1, 3] rfl
      have hKc := hK.sub (tys' := [(cI, .int)]) [0] rfl
      refine vp_callSi (W.runV (As := [.int p1, .int v10, .int p3]) (rest := []) ⟨hx, hb, hml, hown, hts⟩ (c_X9_spot l dC dI Ma h0 a1 a2 a3 a4 a5 a6 a7 a8 a9 a10 a11 th ne wi dn nn la wh up lw pu pw cI Fi Sp p1 v10 p3 (by first | assumption | omega) (by first | omega | assumption) (by first | omega | assumption) (by first | omega | assumption) (by first | omega | assumption) (by first | omega | assumption) (by first | omega | assumption)) (cwV 3 hts g_X9_isClear__X9_spot_94 rfl rfl rfl (by decide +kernel) ⟨Nat.le_of_ble_eq_true rfl, Nat.le_of_ble_eq_true rfl⟩) ⟨fun a U g mk q => by obtain ⟨q0, qP, qK⟩ := q; exact ⟨q0, qP, va_K.moved (u := U) (U := U.calling g mk a) (Vm.Alike.refl U.vm) qK⟩, va_recv hKc hPc (ci := 9) (q0 := 0) rfl rfl, fun U hU hW => ⟨rfl, by rw [hU]; exact hPc, va_K.moved hW.alike hKc⟩⟩ rfl rfl hl.1 rfl (lv_room (Nat.le_of_ble_eq_true rfl)) dX9_isClear_46 ⟨Nat.le_of_ble_eq_true rfl, Nat.le_of_ble_eq_true rfl⟩) (fun r_6 hr_6 => ?_)
      try dsimp only at hr_6
      refine lv_istore (lv' := [(11, .int r_6), (0, .ref h0), (1, .int p1), (2, .int p2), (3, .int p3), (4, .int p4), (5, .int p5), (6, .int v6), (7, .int v7), (8, .int v8), (9, .int v9), (10, .int v10)]) hx hb dX9_isClear_49 hl (by decide) rfl (fun ls hl => ?_)
      refine lv_aload_n hx hb dX9_isClear_51 rfl (lv_at hl 1 rfl) ?_
      refine lv_iload_n hx hb dX9_isClear_52 rfl (lv_at hl 3 rfl) ?_
      refine lv_iload hx hb dX9_isClear_53 (lv_at hl 11 rfl) ?_
      refine lv_iload_n hx hb dX9_isClear_55 rfl (lv_at hl 4 rfl) ?_
      have hPc := hP.sub (ws' := [(h0, .inr (9, [.int th, .ref a1, .ref a2, .ref a3, .ref a4, .ref a5, .int ne, .int wi, .int dn, .ref a6, .ref a7, .int nn, .ref a8, .int la, .ref a9, .ref a10, .long up, .long lw, .int wh, .long pu, .long pw, .ref a11])), (a1, .inl (cI, 16, .inl Fi)), (a5, .inl (cI, 576, .inl Sp))]) [0, 1, 3] rfl
      have hKc := hK.sub (tys' := [(cI, .int)]) [0] rfl
      refine vp_callSi (W.runV (As := [.int p2, .int v10, .int p3]) (rest := []) ⟨hx, hb, hml, hown, hts⟩ (c_X9_spot l dC dI Ma h0 a1 a2 a3 a4 a5 a6 a7 a8 a9 a10 a11 th ne wi dn nn la wh up lw pu pw cI Fi Sp p2 v10 p3 (by first | assumption | omega) (by first | omega | assumption) (by first | omega | assumption) (by first | omega | assumption) (by first | omega | assumption) (by first | omega | assumption) (by first | omega | assumption)) (cwV 3 hts g_X9_isClear__X9_spot_94 rfl rfl rfl (by decide +kernel) ⟨Nat.le_of_ble_eq_true rfl, Nat.le_of_ble_eq_true rfl⟩) ⟨fun a U g mk q => by obtain ⟨q0, qP, qK⟩ := q; exact ⟨q0, qP, va_K.moved (u := U) (U := U.calling g mk a) (Vm.Alike.refl U.vm) qK⟩, va_recv hKc hPc (ci := 9) (q0 := 0) rfl rfl, fun U hU hW => ⟨rfl, by rw [hU]; exact hPc, va_K.moved hW.alike hKc⟩⟩ rfl rfl hl.1 rfl (lv_room (Nat.le_of_ble_eq_true rfl)) dX9_isClear_56 ⟨Nat.le_of_ble_eq_true rfl, Nat.le_of_ble_eq_true rfl⟩) (fun r_7 hr_7 => ?_)
      try dsimp only at hr_7
      refine lv_istore (lv' := [(12, .int r_7), (11, .int r_6), (0, .ref h0), (1, .int p1), (2, .int p2), (3, .int p3), (4, .int p4), (5, .int p5), (6, .int v6), (7, .int v7), (8, .int v8), (9, .int v9), (10, .int v10)]) hx hb dX9_isClear_59 hl (by decide) rfl (fun ls hl => ?_)
      refine lv_iload hx hb dX9_isClear_61 (lv_at hl 1 rfl) ?_
      refine lv_iload hx hb dX9_isClear_63 (lv_at hl 8 rfl) ?_
      refine lv_icmp_ge (tgt := 73) hx hb dX9_isClear_65 (by decide) (fun c_65 => ?_) (fun c_65 => ?_)
      · have t_65 := (fa_le _ _).mp c_65
        refine lv_iload hx hb dX9_isClear_73 (lv_at hl 8 rfl) ?_
        refine lv_istore (lv' := [(6, .int v6), (12, .int r_7), (11, .int r_6), (0, .ref h0), (1, .int p1), (2, .int p2), (3, .int p3), (4, .int p4), (5, .int p5), (7, .int v7), (8, .int v8), (9, .int v9), (10, .int v10)]) hx hb dX9_isClear_75 hl (by decide) rfl (fun ls hl => ?_)
        refine lv_iload hx hb dX9_isClear_77 (lv_at hl 2 rfl) ?_
        refine lv_iload hx hb dX9_isClear_79 (lv_at hl 9 rfl) ?_
        refine lv_icmp_le (tgt := 89) hx hb dX9_isClear_81 (by decide) (fun c_81 => ?_) (fun c_81 => ?_)
        · have t_81 := (fa_le _ _).mp c_81
          refine lv_iload hx hb dX9_isClear_89 (lv_at hl 9 rfl) ?_
          refine lv_istore (lv' := [(7, .int v7), (6, .int v6), (12, .int r_7), (11, .int r_6), (0, .ref h0), (1, .int p1), (2, .int p2), (3, .int p3), (4, .int p4), (5, .int p5), (8, .int v8), (9, .int v9), (10, .int v10)]) hx hb dX9_isClear_91 hl (by decide) rfl (fun ls hl => ?_)
          refine lv_iload hx hb dX9_isClear_93 (lv_at hl 2 rfl) ?_
          refine lv_iload hx hb dX9_isClear_95 (lv_at hl 10 rfl) ?_
          refine lv_icmp_ge (tgt := 105) hx hb dX9_isClear_97 (by decide) (fun c_97 => ?_) (fun c_97 => ?_)
          · have t_97 := (fa_le _ _).mp c_97
            refine lv_iload hx hb dX9_isClear_105 (lv_at hl 10 rfl) ?_
            refine lv_istore (lv' := [(8, .int v8), (7, .int v7), (6, .int v6), (12, .int r_7), (11, .int r_6), (0, .ref h0), (1, .int p1), (2, .int p2), (3, .int p3), (4, .int p4), (5, .int p5), (9, .int v9), (10, .int v10)]) hx hb dX9_isClear_107 hl (by decide) rfl (fun ls hl => ?_)
            refine lv_iload hx hb dX9_isClear_109 (lv_at hl 3 rfl) ?_
            refine lv_iload hx hb dX9_isClear_111 (lv_at hl 11 rfl) ?_
            refine lv_icmp_le (tgt := 121) hx hb dX9_isClear_113 (by decide) (fun c_113 => ?_) (fun c_113 => ?_)
            · have t_113 := (fa_le _ _).mp c_113
              refine lv_iload hx hb dX9_isClear_121 (lv_at hl 11 rfl) ?_
              refine lv_istore (lv' := [(9, .int v9), (8, .int v8), (7, .int v7), (6, .int v6), (12, .int r_7), (11, .int r_6), (0, .ref h0), (1, .int p1), (2, .int p2), (3, .int p3), (4, .int p4), (5, .int p5), (10, .int v10)]) hx hb dX9_isClear_123 hl (by decide) rfl (fun ls hl => ?_)
              obtain ⟨y_8, ey_8⟩ : ∃ y : Int32, y = v10 + 1 := ⟨_, rfl⟩
              have ty_8 : y_8.toInt = v10.toInt + 1 := by rw [ey_8]; have := fb_addI (x := v10) (y := 1) (by omega) (by omega); omega
              refine lv_iinc (v := y_8) (lv' := [(10, .int y_8), (9, .int v9), (8, .int v8), (7, .int v7), (6, .int v6), (12, .int r_7), (11, .int r_6), (0, .ref h0), (1, .int p1), (2, .int p2), (3, .int p3), (4, .int p4), (5, .int p5)]) hx hb dX9_isClear_125 hl (k := 12) rfl (by rw [ey_8]; rfl) (by decide) rfl (fun ls hl => ?_)
              refine lv_goto (tgt := 34) hx hb dX9_isClear_128 (by decide) ?_
              exact ih_34 v6 v7 v8 v9 y_8 (by omega) (by omega) (by omega) ls (lv_sub hl [7, 8, 9, 10, 11, 12, 4, 3, 2, 1, 0] rfl)
            · have t_113 := mt (fa_le _ _).mpr c_113
              refine lv_iload hx hb dX9_isClear_116 (lv_at hl 3 rfl) ?_
              refine lv_goto (tgt := 123) hx hb dX9_isClear_118 (by decide) ?_
              refine lv_istore (lv' := [(9, .int r_7), (8, .int v8), (7, .int v7), (6, .int v6), (12, .int r_7), (11, .int r_6), (0, .ref h0), (1, .int p1), (2, .int p2), (3, .int p3), (4, .int p4), (5, .int p5), (10, .int v10)]) hx hb dX9_isClear_123 hl (by decide) rfl (fun ls hl => ?_)
              obtain ⟨y_9, ey_9⟩ : ∃ y : Int32, y = v10 + 1 := ⟨_, rfl⟩
              have ty_9 : y_9.toInt = v10.toInt + 1 := by rw [ey_9]; have := fb_addI (x := v10) (y := 1) (by omega) (by omega); omega
              refine lv_iinc (v := y_9) (lv' := [(10, .int y_9), (9, .int r_7), (8, .int v8), (7, .int v7), (6, .int v6), (12, .int r_7), (11, .int r_6), (0, .ref h0), (1, .int p1), (2, .int p2), (3, .int p3), (4, .int p4), (5, .int p5)]) hx hb dX9_isClear_125 hl (k := 12) rfl (by rw [ey_9]; rfl) (by decide) rfl (fun ls hl => ?_)
              refine lv_goto (tgt := 34) hx hb dX9_isClear_128 (by decide) ?_
              exact ih_34 v6 v7 v8 r_7 y_9 (by omega) (by omega) (by omega) ls (lv_sub hl [7, 8, 9, 10, 11, 12, 4, 3, 2, 1, 0] rfl)
          · have t_97 := mt (fa_le _ _).mpr c_97
            refine lv_iload hx hb dX9_isClear_100 (lv_at hl 2 rfl) ?_
            refine lv_goto (tgt := 107) hx hb dX9_isClear_102 (by decide) ?_
            refine lv_istore (lv' := [(8, .int r_7), (7, .int v7), (6, .int v6), (12, .int r_7), (11, .int r_6), (0, .ref h0), (1, .int p1), (2, .int p2), (3, .int p3), (4, .int p4), (5, .int p5), (9, .int v9), (10, .int v10)]) hx hb dX9_isClear_107 hl (by decide) rfl (fun ls hl => ?_)
            refine lv_iload hx hb dX9_isClear_109 (lv_at hl 3 rfl) ?_
            refine lv_iload hx hb dX9_isClear_111 (lv_at hl 11 rfl) ?_
            refine lv_icmp_le (tgt := 121) hx hb dX9_isClear_113 (by decide) (fun c_113 => ?_) (fun c_113 => ?_)
            · have t_113 := (fa_le _ _).mp c_113
              refine lv_iload hx hb dX9_isClear_121 (lv_at hl 11 rfl) ?_
              refine lv_istore (lv' := [(9, .int v9), (8, .int r_7), (7, .int v7), (6, .int v6), (12, .int r_7), (11, .int r_6), (0, .ref h0), (1, .int p1), (2, .int p2), (3, .int p3), (4, .int p4), (5, .int p5), (10, .int v10)]) hx hb dX9_isClear_123 hl (by decide) rfl (fun ls hl => ?_)
              obtain ⟨y_10, ey_10⟩ : ∃ y : Int32, y = v10 + 1 := ⟨_, rfl⟩
              have ty_10 : y_10.toInt = v10.toInt + 1 := by rw [ey_10]; have := fb_addI (x := v10) (y := 1) (by omega) (by omega); omega
              refine lv_iinc (v := y_10) (lv' := [(10, .int y_10), (9, .int v9), (8, .int r_7), (7, .int v7), (6, .int v6), (12, .int r_7), (11, .int r_6), (0, .ref h0), (1, .int p1), (2, .int p2), (3, .int p3), (4, .int p4), (5, .int p5)]) hx hb dX9_isClear_125 hl (k := 12) rfl (by rw [ey_10]; rfl) (by decide) rfl (fun ls hl => ?_)
              refine lv_goto (tgt := 34) hx hb dX9_isClear_128 (by decide) ?_
              exact ih_34 v6 v7 r_7 v9 y_10 (by omega) (by omega) (by omega) ls (lv_sub hl [7, 8, 9, 10, 11, 12, 4, 3, 2, 1, 0] rfl)
            · have t_113 := mt (fa_le _ _).mpr c_113
              refine lv_iload hx hb dX9_isClear_116 (lv_at hl 3 rfl) ?_
              refine lv_goto (tgt := 123) hx hb dX9_isClear_118 (by decide) ?_
              refine lv_istore (lv' := [(9, .int r_7), (8, .int r_7), (7, .int v7), (6, .int v6), (12, .int r_7), (11, .int r_6), (0, .ref h0), (1, .int p1), (2, .int p2), (3, .int p3), (4, .int p4), (5, .int p5), (10, .int v10)]) hx hb dX9_isClear_123 hl (by decide) rfl (fun ls hl => ?_)
              obtain ⟨y_11, ey_11⟩ : ∃ y : Int32, y = v10 + 1 := ⟨_, rfl⟩
              have ty_11 : y_11.toInt = v10.toInt + 1 := by rw [ey_11]; have := fb_addI (x := v10) (y := 1) (by omega) (by omega); omega
              refine lv_iinc (v := y_11) (lv' := [(10, .int y_11), (9, .int r_7), (8, .int r_7), (7, .int v7), (6, .int v6), (12, .int r_7), (11, .int r_6), (0, .ref h0), (1, .int p1), (2, .int p2), (3, .int p3), (4, .int p4), (5, .int p5)]) hx hb dX9_isClear_125 hl (k := 12) rfl (by rw [ey_11]; rfl) (by decide) rfl (fun ls hl => ?_)
              refine lv_goto (tgt := 34) hx hb dX9_isClear_128 (by decide) ?_
              exact ih_34 v6 v7 r_7 r_7 y_11 (by omega) (by omega) (by omega) ls (lv_sub hl [7, 8, 9, 10, 11, 12, 4, 3, 2, 1, 0] rfl)
        · have t_81 := mt (fa_le _ _).mpr c_81
          refine lv_iload hx hb dX9_isClear_84 (lv_at hl 2 rfl) ?_
          refine lv_goto (tgt := 91) hx hb dX9_isClear_86 (by decide) ?_
          refine lv_istore (lv' := [(7, .int r_6), (6, .int v6), (12, .int r_7), (11, .int r_6), (0, .ref h0), (1, .int p1), (2, .int p2), (3, .int p3), (4, .int p4), (5, .int p5), (8, .int v8), (9, .int v9), (10, .int v10)]) hx hb dX9_isClear_91 hl (by decide) rfl (fun ls hl => ?_)
          refine lv_iload hx hb dX9_isClear_93 (lv_at hl 2 rfl) ?_
          refine lv_iload hx hb dX9_isClear_95 (lv_at hl 10 rfl) ?_
          refine lv_icmp_ge (tgt := 105) hx hb dX9_isClear_97 (by decide) (fun c_97 => ?_) (fun c_97 => ?_)
          · have t_97 := (fa_le _ _).mp c_97
            refine lv_iload hx hb dX9_isClear_105 (lv_at hl 10 rfl) ?_
            refine lv_istore (lv' := [(8, .int v8), (7, .int r_6), (6, .int v6), (12, .int r_7), (11, .int r_6), (0, .ref h0), (1, .int p1), (2, .int p2), (3, .int p3), (4, .int p4), (5, .int p5), (9, .int v9), (10, .int v10)]) hx hb dX9_isClear_107 hl (by decide) rfl (fun ls hl => ?_)
            refine lv_iload hx hb dX9_isClear_109 (lv_at hl 3 rfl) ?_
            refine lv_iload hx hb dX9_isClear_111 (lv_at hl 11 rfl) ?_
            refine lv_icmp_le (tgt := 121) hx hb dX9_isClear_113 (by decide) (fun c_113 => ?_) (fun c_113 => ?_)
            · have t_113 := (fa_le _ _).mp c_113
              refine lv_iload hx hb dX9_isClear_121 (lv_at hl 11 rfl) ?_
              refine lv_istore (lv' := [(9, .int v9), (8, .int v8), (7, .int r_6), (6, .int v6), (12, .int r_7), (11, .int r_6), (0, .ref h0), (1, .int p1), (2, .int p2), (3, .int p3), (4, .int p4), (5, .int p5), (10, .int v10)]) hx hb dX9_isClear_123 hl (by decide) rfl (fun ls hl => ?_)
              obtain ⟨y_12, ey_12⟩ : ∃ y : Int32, y = v10 + 1 := ⟨_, rfl⟩
              have ty_12 : y_12.toInt = v10.toInt + 1 := by rw [ey_12]; have := fb_addI (x := v10) (y := 1) (by omega) (by omega); omega
              refine lv_iinc (v := y_12) (lv' := [(10, .int y_12), (9, .int v9), (8, .int v8), (7, .int r_6), (6, .int v6), (12, .int r_7), (11, .int r_6), (0, .ref h0), (1, .int p1), (2, .int p2), (3, .int p3), (4, .int p4), (5, .int p5)]) hx hb dX9_isClear_125 hl (k := 12) rfl (by rw [ey_12]; rfl) (by decide) rfl (fun ls hl => ?_)
              refine lv_goto (tgt := 34) hx hb dX9_isClear_128 (by decide) ?_
              exact ih_34 v6 r_6 v8 v9 y_12 (by omega) (by omega) (by omega) ls (lv_sub hl [7, 8, 9, 10, 11, 12, 4, 3, 2, 1, 0] rfl)
            · have t_113 := mt (fa_le _ _).mpr c_113
              refine lv_iload hx hb dX9_isClear_116 (lv_at hl 3 rfl) ?_
              refine lv_goto (tgt := 123) hx hb dX9_isClear_118 (by decide) ?_
              refine lv_istore (lv' := [(9, .int r_7), (8, .int v8), (7, .int r_6), (6, .int v6), (12, .int r_7), (11, .int r_6), (0, .ref h0), (1, .int p1), (2, .int p2), (3, .int p3), (4, .int p4), (5, .int p5), (10, .int v10)]) hx hb dX9_isClear_123 hl (by decide) rfl (fun ls hl => ?_)
              obtain ⟨y_13, ey_13⟩ : ∃ y : Int32, y = v10 + 1 := ⟨_, rfl⟩
              have ty_13 : y_13.toInt = v10.toInt + 1 := by rw [ey_13]; have := fb_addI (x := v10) (y := 1) (by omega) (by omega); omega
              refine lv_iinc (v := y_13) (lv' := [(10, .int y_13), (9, .int r_7), (8, .int v8), (7, .int r_6), (6, .int v6), (12, .int r_7), (11, .int r_6), (0, .ref h0), (1, .int p1), (2, .int p2), (3, .int p3), (4, .int p4), (5, .int p5)]) hx hb dX9_isClear_125 hl (k := 12) rfl (by rw [ey_13]; rfl) (by decide) rfl (fun ls hl => ?_)
              refine lv_goto (tgt := 34) hx hb dX9_isClear_128 (by decide) ?_
              exact ih_34 v6 r_6 v8 r_7 y_13 (by omega) (by omega) (by omega) ls (lv_sub hl [7, 8, 9, 10, 11, 12, 4, 3, 2, 1, 0] rfl)
          · have t_97 := mt (fa_le _ _).mpr c_97
            refine lv_iload hx hb dX9_isClear_100 (lv_at hl 2 rfl) ?_
            refine lv_goto (tgt := 107) hx hb dX9_isClear_102 (by decide) ?_
            refine lv_istore (lv' := [(8, .int r_7), (7, .int r_6), (6, .int v6), (12, .int r_7), (11, .int r_6), (0, .ref h0), (1, .int p1), (2, .int p2), (3, .int p3), (4, .int p4), (5, .int p5), (9, .int v9), (10, .int v10)]) hx hb dX9_isClear_107 hl (by decide) rfl (fun ls hl => ?_)
            refine lv_iload hx hb dX9_isClear_109 (lv_at hl 3 rfl) ?_
            refine lv_iload hx hb dX9_isClear_111 (lv_at hl 11 rfl) ?_
            refine lv_icmp_le (tgt := 121) hx hb dX9_isClear_113 (by decide) (fun c_113 => ?_) (fun c_113 => ?_)
            · have t_113 := (fa_le _ _).mp c_113
              refine lv_iload hx hb dX9_isClear_121 (lv_at hl 11 rfl) ?_
              refine lv_istore (lv' := [(9, .int v9), (8, .int r_7), (7, .int r_6), (6, .int v6), (12, .int r_7), (11, .int r_6), (0, .ref h0), (1, .int p1), (2, .int p2), (3, .int p3), (4, .int p4), (5, .int p5), (10, .int v10)]) hx hb dX9_isClear_123 hl (by decide) rfl (fun ls hl => ?_)
              obtain ⟨y_14, ey_14⟩ : ∃ y : Int32, y = v10 + 1 := ⟨_, rfl⟩
              have ty_14 : y_14.toInt = v10.toInt + 1 := by rw [ey_14]; have := fb_addI (x := v10) (y := 1) (by omega) (by omega); omega
              refine lv_iinc (v := y_14) (lv' := [(10, .int y_14), (9, .int v9), (8, .int r_7), (7, .int r_6), (6, .int v6), (12, .int r_7), (11, .int r_6), (0, .ref h0), (1, .int p1), (2, .int p2), (3, .int p3), (4, .int p4), (5, .int p5)]) hx hb dX9_isClear_125 hl (k := 12) rfl (by rw [ey_14]; rfl) (by decide) rfl (fun ls hl => ?_)
              refine lv_goto (tgt := 34) hx hb dX9_isClear_128 (by decide) ?_
              exact ih_34 v6 r_6 r_7 v9 y_14 (by omega) (by omega) (by omega) ls (lv_sub hl [7, 8, 9, 10, 11, 12, 4, 3, 2, 1, 0] rfl)
            · have t_113 := mt (fa_le _ _).mpr c_113
              refine lv_iload hx hb dX9_isClear_116 (lv_at hl 3 rfl) ?_
              refine lv_goto (tgt := 123) hx hb dX9_isClear_118 (by decide) ?_
              refine lv_istore (lv' := [(9, .int r_7), (8, .int r_7), (7, .int r_6), (6, .int v6), (12, .int r_7), (11, .int r_6), (0, .ref h0), (1, .int p1), (2, .int p2), (3, .int p3), (4, .int p4), (5, .int p5), (10, .int v10)]) hx hb dX9_isClear_123 hl (by decide) rfl (fun ls hl => ?_)
              obtain ⟨y_15, ey_15⟩ : ∃ y : Int32, y = v10 + 1 := ⟨_, rfl⟩
              have ty_15 : y_15.toInt = v10.toInt + 1 := by rw [ey_15]; have := fb_addI (x := v10) (y := 1) (by omega) (by omega); omega
              refine lv_iinc (v := y_15) (lv' := [(10, .int y_15), (9, .int r_7), (8, .int r_7), (7, .int r_6), (6, .int v6), (12, .int r_7), (11, .int r_6), (0, .ref h0), (1, .int p1), (2, .int p2), (3, .int p3), (4, .int p4), (5, .int p5)]) hx hb dX9_isClear_125 hl (k := 12) rfl (by rw [ey_15]; rfl) (by decide) rfl (fun ls hl => ?_)
              refine lv_goto (tgt := 34) hx hb dX9_isClear_128 (by decide) ?_
              exact ih_34 v6 r_6 r_7 r_7 y_15 (by omega) (by omega) (by omega) ls (lv_sub hl [7, 8, 9, 10, 11, 12, 4, 3, 2, 1, 0] rfl)
      · have t_65 := mt (fa_le _ _).mpr c_65
        refine lv_iload hx hb dX9_isClear_68 (lv_at hl 1 rfl) ?_
        refine lv_goto (tgt := 75) hx hb dX9_isClear_70 (by decide) ?_
        refine lv_istore (lv' := [(6, .int r_6), (12, .int r_7), (11, .int r_6), (0, .ref h0), (1, .int p1), (2, .int p2), (3, .int p3), (4, .int p4), (5, .int p5), (7, .int v7), (8, .int v8), (9, .int v9), (10, .int v10)]) hx hb dX9_isClear_75 hl (by decide) rfl (fun ls hl => ?_)
        refine lv_iload hx hb dX9_isClear_77 (lv_at hl 2 rfl) ?_
        refine lv_iload hx hb dX9_isClear_79 (lv_at hl 9 rfl) ?_
        refine lv_icmp_le (tgt := 89) hx hb dX9_isClear_81 (by decide) (fun c_81 => ?_) (fun c_81 => ?_)
        · have t_81 := (fa_le _ _).mp c_81
          refine lv_iload hx hb dX9_isClear_89 (lv_at hl 9 rfl) ?_
          refine lv_istore (lv' := [(7, .int v7), (6, .int r_6), (12, .int r_7), (11, .int r_6), (0, .ref h0), (1, .int p1), (2, .int p2), (3, .int p3), (4, .int p4), (5, .int p5), (8, .int v8), (9, .int v9), (10, .int v10)]) hx hb dX9_isClear_91 hl (by decide) rfl (fun ls hl => ?_)
          refine lv_iload hx hb dX9_isClear_93 (lv_at hl 2 rfl) ?_
          refine lv_iload hx hb dX9_isClear_95 (lv_at hl 10 rfl) ?_
          refine lv_icmp_ge (tgt := 105) hx hb dX9_isClear_97 (by decide) (fun c_97 => ?_) (fun c_97 => ?_)
          · have t_97 := (fa_le _ _).mp c_97
            refine lv_iload hx hb dX9_isClear_105 (lv_at hl 10 rfl) ?_
            refine lv_istore (lv' := [(8, .int v8), (7, .int v7), (6, .int r_6), (12, .int r_7), (11, .int r_6), (0, .ref h0), (1, .int p1), (2, .int p2), (3, .int p3), (4, .int p4), (5, .int p5), (9, .int v9), (10, .int v10)]) hx hb dX9_isClear_107 hl (by decide) rfl (fun ls hl => ?_)
            refine lv_iload hx hb dX9_isClear_109 (lv_at hl 3 rfl) ?_
            refine lv_iload hx hb dX9_isClear_111 (lv_at hl 11 rfl) ?_
            refine lv_icmp_le (tgt := 121) hx hb dX9_isClear_113 (by decide) (fun c_113 => ?_) (fun c_113 => ?_)
            · have t_113 := (fa_le _ _).mp c_113
              refine lv_iload hx hb dX9_isClear_121 (lv_at hl 11 rfl) ?_
              refine lv_istore (lv' := [(9, .int v9), (8, .int v8), (7, .int v7), (6, .int r_6), (12, .int r_7), (11, .int r_6), (0, .ref h0), (1, .int p1), (2, .int p2), (3, .int p3), (4, .int p4), (5, .int p5), (10, .int v10)]) hx hb dX9_isClear_123 hl (by decide) rfl (fun ls hl => ?_)
              obtain ⟨y_16, ey_16⟩ : ∃ y : Int32, y = v10 + 1 := ⟨_, rfl⟩
              have ty_16 : y_16.toInt = v10.toInt + 1 := by rw [ey_16]; have := fb_addI (x := v10) (y := 1) (by omega) (by omega); omega
              refine lv_iinc (v := y_16) (lv' := [(10, .int y_16), (9, .int v9), (8, .int v8), (7, .int v7), (6, .int r_6), (12, .int r_7), (11, .int r_6), (0, .ref h0), (1, .int p1), (2, .int p2), (3, .int p3), (4, .int p4), (5, .int p5)]) hx hb dX9_isClear_125 hl (k := 12) rfl (by rw [ey_16]; rfl) (by decide) rfl (fun ls hl => ?_)
              refine lv_goto (tgt := 34) hx hb dX9_isClear_128 (by decide) ?_
              exact ih_34 r_6 v7 v8 v9 y_16 (by omega) (by omega) (by omega) ls (lv_sub hl [7, 8, 9, 10, 11, 12, 4, 3, 2, 1, 0] rfl)
            · have t_113 := mt (fa_le _ _).mpr c_113
              refine lv_iload hx hb dX9_isClear_116 (lv_at hl 3 rfl) ?_
              refine lv_goto (tgt := 123) hx hb dX9_isClear_118 (by decide) ?_
              refine lv_istore (lv' := [(9, .int r_7), (8, .int v8), (7, .int v7), (6, .int r_6), (12, .int r_7), (11, .int r_6), (0, .ref h0), (1, .int p1), (2, .int p2), (3, .int p3), (4, .int p4), (5, .int p5), (10, .int v10)]) hx hb dX9_isClear_123 hl (by decide) rfl (fun ls hl => ?_)
              obtain ⟨y_17, ey_17⟩ : ∃ y : Int32, y = v10 + 1 := ⟨_, rfl⟩
              have ty_17 : y_17.toInt = v10.toInt + 1 := by rw [ey_17]; have := fb_addI (x := v10) (y := 1) (by omega) (by omega); omega
              refine lv_iinc (v := y_17) (lv' := [(10, .int y_17), (9, .int r_7), (8, .int v8), (7, .int v7), (6, .int r_6), (12, .int r_7), (11, .int r_6), (0, .ref h0), (1, .int p1), (2, .int p2), (3, .int p3), (4, .int p4), (5, .int p5)]) hx hb dX9_isClear_125 hl (k := 12) rfl (by rw [ey_17]; rfl) (by decide) rfl (fun ls hl => ?_)
              refine lv_goto (tgt := 34) hx hb dX9_isClear_128 (by decide) ?_
              exact ih_34 r_6 v7 v8 r_7 y_17 (by omega) (by omega) (by omega) ls (lv_sub hl [7, 8, 9, 10, 11, 12, 4, 3, 2, 1, 0] rfl)
          · have t_97 := mt (fa_le _ _).mpr c_97
            refine lv_iload hx hb dX9_isClear_100 (lv_at hl 2 rfl) ?_
            refine lv_goto (tgt := 107) hx hb dX9_isClear_102 (by decide) ?_
            refine lv_istore (lv' := [(8, .int r_7), (7, .int v7), (6, .int r_6), (12, .int r_7), (11, .int r_6), (0, .ref h0), (1, .int p1), (2, .int p2), (3, .int p3), (4, .int p4), (5, .int p5), (9, .int v9), (10, .int v10)]) hx hb dX9_isClear_107 hl (by decide) rfl (fun ls hl => ?_)
            refine lv_iload hx hb dX9_isClear_109 (lv_at hl 3 rfl) ?_
            refine lv_iload hx hb dX9_isClear_111 (lv_at hl 11 rfl) ?_
            refine lv_icmp_le (tgt := 121) hx hb dX9_isClear_113 (by decide) (fun c_113 => ?_) (fun c_113 => ?_)
            · have t_113 := (fa_le _ _).mp c_113
              refine lv_iload hx hb dX9_isClear_121 (lv_at hl 11 rfl) ?_
              refine lv_istore (lv' := [(9, .int v9), (8, .int r_7), (7, .int v7), (6, .int r_6), (12, .int r_7), (11, .int r_6), (0, .ref h0), (1, .int p1), (2, .int p2), (3, .int p3), (4, .int p4), (5, .int p5), (10, .int v10)]) hx hb dX9_isClear_123 hl (by decide) rfl (fun ls hl => ?_)
              obtain ⟨y_18, ey_18⟩ : ∃ y : Int32, y = v10 + 1 := ⟨_, rfl⟩
              have ty_18 : y_18.toInt = v10.toInt + 1 := by rw [ey_18]; have := fb_addI (x := v10) (y := 1) (by omega) (by omega); omega
              refine lv_iinc (v := y_18) (lv' := [(10, .int y_18), (9, .int v9), (8, .int r_7), (7, .int v7), (6, .int r_6), (12, .int r_7), (11, .int r_6), (0, .ref h0), (1, .int p1), (2, .int p2), (3, .int p3), (4, .int p4), (5, .int p5)]) hx hb dX9_isClear_125 hl (k := 12) rfl (by rw [ey_18]; rfl) (by decide) rfl (fun ls hl => ?_)
              refine lv_goto (tgt := 34) hx hb dX9_isClear_128 (by decide) ?_
              exact ih_34 r_6 v7 r_7 v9 y_18 (by omega) (by omega) (by omega) ls (lv_sub hl [7, 8, 9, 10, 11, 12, 4, 3, 2, 1, 0] rfl)
            · have t_113 := mt (fa_le _ _).mpr c_113
              refine lv_iload hx hb dX9_isClear_116 (lv_at hl 3 rfl) ?_
              refine lv_goto (tgt := 123) hx hb dX9_isClear_118 (by decide) ?_
              refine lv_istore (lv' := [(9, .int r_7), (8, .int r_7), (7, .int v7), (6, .int r_6), (12, .int r_7), (11, .int r_6), (0, .ref h0), (1, .int p1), (2, .int p2), (3, .int p3), (4, .int p4), (5, .int p5), (10, .int v10)]) hx hb dX9_isClear_123 hl (by decide) rfl (fun ls hl => ?_)
              obtain ⟨y_19, ey_19⟩ : ∃ y : Int32, y = v10 + 1 := ⟨_, rfl⟩
              have ty_19 : y_19.toInt = v10.toInt + 1 := by rw [ey_19]; have := fb_addI (x := v10) (y := 1) (by omega) (by omega); omega
              refine lv_iinc (v := y_19) (lv' := [(10, .int y_19), (9, .int r_7), (8, .int r_7), (7, .int v7), (6, .int r_6), (12, .int r_7), (11, .int r_6), (0, .ref h0), (1, .int p1), (2, .int p2), (3, .int p3), (4, .int p4), (5, .int p5)]) hx hb dX9_isClear_125 hl (k := 12) rfl (by rw [ey_19]; rfl) (by decide) rfl (fun ls hl => ?_)
              refine lv_goto (tgt := 34) hx hb dX9_isClear_128 (by decide) ?_
              exact ih_34 r_6 v7 r_7 r_7 y_19 (by omega) (by omega) (by omega) ls (lv_sub hl [7, 8, 9, 10, 11, 12, 4, 3, 2, 1, 0] rfl)
        · have t_81 := mt (fa_le _ _).mpr c_81
          refine lv_iload hx hb dX9_isClear_84 (lv_at hl 2 rfl) ?_
          refine lv_goto (tgt := 91) hx hb dX9_isClear_86 (by decide) ?_
          refine lv_istore (lv' := [(7, .int r_6), (6, .int r_6), (12, .int r_7), (11, .int r_6), (0, .ref h0), (1, .int p1), (2, .int p2), (3, .int p3), (4, .int p4), (5, .int p5), (8, .int v8), (9, .int v9), (10, .int v10)]) hx hb dX9_isClear_91 hl (by decide) rfl (fun ls hl => ?_)
          refine lv_iload hx hb dX9_isClear_93 (lv_at hl 2 rfl) ?_
          refine lv_iload hx hb dX9_isClear_95 (lv_at hl 10 rfl) ?_
          refine lv_icmp_ge (tgt := 105) hx hb dX9_isClear_97 (by decide) (fun c_97 => ?_) (fun c_97 => ?_)
          · have t_97 := (fa_le _ _).mp c_97
            refine lv_iload hx hb dX9_isClear_105 (lv_at hl 10 rfl) ?_
            refine lv_istore (lv' := [(8, .int v8), (7, .int r_6), (6, .int r_6), (12, .int r_7), (11, .int r_6), (0, .ref h0), (1, .int p1), (2, .int p2), (3, .int p3), (4, .int p4), (5, .int p5), (9, .int v9), (10, .int v10)]) hx hb dX9_isClear_107 hl (by decide) rfl (fun ls hl => ?_)
            refine lv_iload hx hb dX9_isClear_109 (lv_at hl 3 rfl) ?_
            refine lv_iload hx hb dX9_isClear_111 (lv_at hl 11 rfl) ?_
            refine lv_icmp_le (tgt := 121) hx hb dX9_isClear_113 (by decide) (fun c_113 => ?_) (fun c_113 => ?_)
            · have t_113 := (fa_le _ _).mp c_113
              refine lv_iload hx hb dX9_isClear_121 (lv_at hl 11 rfl) ?_
              refine lv_istore (lv' := [(9, .int v9), (8, .int v8), (7, .int r_6), (6, .int r_6), (12, .int r_7), (11, .int r_6), (0, .ref h0), (1, .int p1), (2, .int p2), (3, .int p3), (4, .int p4), (5, .int p5), (10, .int v10)]) hx hb dX9_isClear_123 hl (by decide) rfl (fun ls hl => ?_)
              obtain ⟨y_20, ey_20⟩ : ∃ y : Int32, y = v10 + 1 := ⟨_, rfl⟩
              have ty_20 : y_20.toInt = v10.toInt + 1 := by rw [ey_20]; have := fb_addI (x := v10) (y := 1) (by omega) (by omega); omega
              refine lv_iinc (v := y_20) (lv' := [(10, .int y_20), (9, .int v9), (8, .int v8), (7, .int r_6), (6, .int r_6), (12, .int r_7), (11, .int r_6), (0, .ref h0), (1, .int p1), (2, .int p2), (3, .int p3), (4, .int p4), (5, .int p5)]) hx hb dX9_isClear_125 hl (k := 12) rfl (by rw [ey_20]; rfl) (by decide) rfl (fun ls hl => ?_)
              refine lv_goto (tgt := 34) hx hb dX9_isClear_128 (by decide) ?_
              exact ih_34 r_6 r_6 v8 v9 y_20 (by omega) (by omega) (by omega) ls (lv_sub hl [7, 8, 9, 10, 11, 12, 4, 3, 2, 1, 0] rfl)
            · have t_113 := mt (fa_le _ _).mpr c_113
              refine lv_iload hx hb dX9_isClear_116 (lv_at hl 3 rfl) ?_
              refine lv_goto (tgt := 123) hx hb dX9_isClear_118 (by decide) ?_
              refine lv_istore (lv' := [(9, .int r_7), (8, .int v8), (7, .int r_6), (6, .int r_6), (12, .int r_7), (11, .int r_6), (0, .ref h0), (1, .int p1), (2, .int p2), (3, .int p3), (4, .int p4), (5, .int p5), (10, .int v10)]) hx hb dX9_isClear_123 hl (by decide) rfl (fun ls hl => ?_)
              obtain ⟨y_21, ey_21⟩ : ∃ y : Int32, y = v10 + 1 := ⟨_, rfl⟩
              have ty_21 : y_21.toInt = v10.toInt + 1 := by rw [ey_21]; have := fb_addI (x := v10) (y := 1) (by omega) (by omega); omega
              refine lv_iinc (v := y_21) (lv' := [(10, .int y_21), (9, .int r_7), (8, .int v8), (7, .int r_6), (6, .int r_6), (12, .int r_7), (11, .int r_6), (0, .ref h0), (1, .int p1), (2, .int p2), (3, .int p3), (4, .int p4), (5, .int p5)]) hx hb dX9_isClear_125 hl (k := 12) rfl (by rw [ey_21]; rfl) (by decide) rfl (fun ls hl => ?_)
              refine lv_goto (tgt := 34) hx hb dX9_isClear_128 (by decide) ?_
              exact ih_34 r_6 r_6 v8 r_7 y_21 (by omega) (by omega) (by omega) ls (lv_sub hl [7, 8, 9, 10, 11, 12, 4, 3, 2, 1, 0] rfl)
          · have t_97 := mt (fa_le _ _).mpr c_97
            refine lv_iload hx hb dX9_isClear_100 (lv_at hl 2 rfl) ?_
            refine lv_goto (tgt := 107) hx hb dX9_isClear_102 (by decide) ?_
            refine lv_istore (lv' := [(8, .int r_7), (7, .int r_6), (6, .int r_6), (12, .int r_7), (11, .int r_6), (0, .ref h0), (1, .int p1), (2, .int p2), (3, .int p3), (4, .int p4), (5, .int p5), (9, .int v9), (10, .int v10)]) hx hb dX9_isClear_107 hl (by decide) rfl (fun ls hl => ?_)
            refine lv_iload hx hb dX9_isClear_109 (lv_at hl 3 rfl) ?_
            refine lv_iload hx hb dX9_isClear_111 (lv_at hl 11 rfl) ?_
            refine lv_icmp_le (tgt := 121) hx hb dX9_isClear_113 (by decide) (fun c_113 => ?_) (fun c_113 => ?_)
            · have t_113 := (fa_le _ _).mp c_113
              refine lv_iload hx hb dX9_isClear_121 (lv_at hl 11 rfl) ?_
              refine lv_istore (lv' := [(9, .int v9), (8, .int r_7), (7, .int r_6), (6, .int r_6), (12, .int r_7), (11, .int r_6), (0, .ref h0), (1, .int p1), (2, .int p2), (3, .int p3), (4, .int p4), (5, .int p5), (10, .int v10)]) hx hb dX9_isClear_123 hl (by decide) rfl (fun ls hl => ?_)
              obtain ⟨y_22, ey_22⟩ : ∃ y : Int32, y = v10 + 1 := ⟨_, rfl⟩
              have ty_22 : y_22.toInt = v10.toInt + 1 := by rw [ey_22]; have := fb_addI (x := v10) (y := 1) (by omega) (by omega); omega
              refine lv_iinc (v := y_22) (lv' := [(10, .int y_22), (9, .int v9), (8, .int r_7), (7, .int r_6), (6, .int r_6), (12, .int r_7), (11, .int r_6), (0, .ref h0), (1, .int p1), (2, .int p2), (3, .int p3), (4, .int p4), (5, .int p5)]) hx hb dX9_isClear_125 hl (k := 12) rfl (by rw [ey_22]; rfl) (by decide) rfl (fun ls hl => ?_)
              refine lv_goto (tgt := 34) hx hb dX9_isClear_128 (by decide) ?_
              exact ih_34 r_6 r_6 r_7 v9 y_22 (by omega) (by omega) (by omega) ls (lv_sub hl [7, 8, 9, 10, 11, 12, 4, 3, 2, 1, 0] rfl)
            · have t_113 := mt (fa_le _ _).mpr c_113
              refine lv_iload hx hb dX9_isClear_116 (lv_at hl 3 rfl) ?_
              refine lv_goto (tgt := 123) hx hb dX9_isClear_118 (by decide) ?_
              refine lv_istore (lv' := [(9, .int r_7), (8, .int r_7), (7, .int r_6), (6, .int r_6), (12, .int r_7), (11, .int r_6), (0, .ref h0), (1, .int p1), (2, .int p2), (3, .int p3), (4, .int p4), (5, .int p5), (10, .int v10)]) hx hb dX9_isClear_123 hl (by decide) rfl (fun ls hl => ?_)
              obtain ⟨y_23, ey_23⟩ : ∃ y : Int32, y = v10 + 1 := ⟨_, rfl⟩
              have ty_23 : y_23.toInt = v10.toInt + 1 := by rw [ey_23]; have := fb_addI (x := v10) (y := 1) (by omega) (by omega); omega
              refine lv_iinc (v := y_23) (lv' := [(10, .int y_23), (9, .int r_7), (8, .int r_7), (7, .int r_6), (6, .int r_6), (12, .int r_7), (11, .int r_6), (0, .ref h0), (1, .int p1), (2, .int p2), (3, .int p3), (4, .int p4), (5, .int p5)]) hx hb dX9_isClear_125 hl (k := 12) rfl (by rw [ey_23]; rfl) (by decide) rfl (fun ls hl => ?_)
              refine lv_goto (tgt := 34) hx hb dX9_isClear_128 (by decide) ?_
              exact ih_34 r_6 r_6 r_7 r_7 y_23 (by omega) (by omega) (by omega) ls (lv_sub hl [7, 8, 9, 10, 11, 12, 4, 3, 2, 1, 0] rfl)
def wk_X9_isClearSome : List Cond := .code yX9_isClearSome cX9_isClearSome 5 (some .boolean) :: (([] : List Cond) ++ ((wsV RX9 170 RX9 yX9_isClear wk_X9_isClear) ++ ([])))
theorem gw_X9_isClearSome : AG wk_X9_isClearSome := AG_ca (AG_l (by decide +kernel)) (AG_app (AG_V gw_X9_isClear) (AG_nil))
theorem g_X9_isClearSome__X9_isClear_170 : GoodIn wk_X9_isClearSome (wsV RX9 170 RX9 yX9_isClear wk_X9_isClear) := goodIn_m (fun _ h => List.mem_cons_of_mem _ (List.mem_append_right _ (List.mem_append_left _ h))) (AG_V gw_X9_isClear)
set_option maxHeartbeats 4000000 in
set_option maxRecDepth 100000 in
theorem c_X9_isClearSome (l : Launch) (dC : Nat → ClassId) (dI : Nat → Nat → Nat) (h0 : Nat) (a1 : Nat) (a2 : Nat) (a3 : Nat) (a4 : Nat) (a5 : Nat) (a6 : Nat) (a7 : Nat) (a8 : Nat) (a9 : Nat) (a10 : Nat) (a11 : Nat) (th : Int32) (ne : Int32) (wi : Int32) (dn : Int32) (nn : Int32) (la : Int32) (wh : Int32) (up : Int64) (lw : Int64) (pu : Int64) (pw : Int64) (cI : ClassId) (Fi : Nat → Int32) (Ma : Nat → Int32) (Sp : Nat → Int32) (p1 : Int32) (p2 : Int32) (p3 : Int32) (p4 : Int32) (hM : mOK th Fi Ma) (hp10 : 0 ≤ p1.toInt) (hp11 : p1.toInt < th.toInt) (hp20 : 0 ≤ p2.toInt) (hp21 : p2.toInt < th.toInt) (hf1 : (Fi p1.toNatClampNeg).toInt ≤ p3.toInt) (hf2 : (Fi p2.toNatClampNeg).toInt ≤ p3.toInt) (hl1 : p4.toInt < (Fi p1.toNatClampNeg).toInt + (Ma p1.toNatClampNeg).toInt) (hl2 : p4.toInt < (Fi p2.toNatClampNeg).toInt + (Ma p2.toNatClampNeg).toInt) (hft : p3.toInt ≤ p4.toInt) : Met l yX9_isClearSome wk_X9_isClearSome ({ frames := 2, cells := 0, slots := 0, locals := 55 }) (va_Pc [.ref h0, .int p1, .int p2, .int p3, .int p4] (fun U => va_P (dC, dI) vwCl [(h0, .inr (9, [.int th, .ref a1, .ref a2, .ref a3, .ref a4, .ref a5, .int ne, .int wi, .int dn, .ref a6, .ref a7, .int nn, .ref a8, .int la, .ref a9, .ref a10, .long up, .long lw, .int wh, .long pu, .long pw, .ref a11])), (a1, .inl (cI, 16, .inl Fi)), (a2, .inl (cI, 16, .inl Ma)), (a5, .inl (cI, 576, .inl Sp))] U.heap ∧ va_K (dC, dI) vwCl [(cI, .int)] U)) (vp_Si (fun r => True)) 0 0 (fun _ => False) := by
  refine Met.ofW (cc := cX9_isClearSome) (maxL := 5) (ret := (some .boolean)) (by decide) rfl ?_
  intro p e s m args below meth c s₁ B hml hv
  obtain ⟨rfl, hP, hK⟩ := hv
  have hx := B.exec
  have hb := B.bytes
  have hr := B.returns
  have hts := atoms_spec (ws := wk_X9_isClearSome) B.pre
  have hown : s.vm.findClass RX9 = some m.cls := findClass_of_methodNamed B.named
  have hlocks := B.notSynchronized
  have hP : va_P (dC, dI) vwCl [(h0, .inr (9, [.int th, .ref a1, .ref a2, .ref a3, .ref a4, .ref a5, .int ne, .int wi, .int dn, .ref a6, .ref a7, .int nn, .ref a8, .int la, .ref a9, .ref a10, .long up, .long lw, .int wh, .long pu, .long pw, .ref a11])), (a1, .inl (cI, 16, .inl Fi)), (a2, .inl (cI, 16, .inl Ma)), (a5, .inl (cI, 576, .inl Sp))] s.heap := hP
  have hl := lv_entry ([.ref h0, .int p1, .int p2, .int p3, .int p4]) (n := 5) (Nat.le_of_ble_eq_true rfl)
  rw [lg_entry_eq]
  generalize (lg_sl ([.ref h0, .int p1, .int p2, .int p3, .int p4]) ++ List.replicate (5 - (lg_sl ([.ref h0, .int p1, .int p2, .int p3, .int p4])).length) Slot.unset).toArray = ls at hl ⊢
  have hl : lv_has ls 5 [(0, .ref h0), (1, .int p1), (2, .int p2), (3, .int p3), (4, .int p4)] := hl
  have kl_0 : (0 : Int32).toInt = 0 := by decide
  have kl_1 : (1 : Int32).toInt = 1 := by decide
  have kl_2 : (2 : Int32).toInt = 2 := by decide
  obtain ⟨hM0, hM1, hM2⟩ := id hM
  have np1 : ((p1.toNatClampNeg : Nat) : Int) = p1.toInt := tc_I (by omega)
  have bp1 := hM2 p1.toNatClampNeg (by omega)
  have np2 : ((p2.toNatClampNeg : Nat) : Int) = p2.toInt := tc_I (by omega)
  have bp2 := hM2 p2.toNatClampNeg (by omega)
  refine lv_aload_n hx hb dX9_isClearSome_0 rfl (lv_at hl 0 rfl) ?_
  refine lv_iload_n hx hb dX9_isClearSome_1 rfl (lv_at hl 1 rfl) ?_
  refine lv_iload_n hx hb dX9_isClearSome_2 rfl (lv_at hl 2 rfl) ?_
  refine lv_iconst (v := 0) hx hb dX9_isClearSome_3 (by decide) ?_
  refine lv_iload_n hx hb dX9_isClearSome_4 rfl (lv_at hl 3 rfl) ?_
  refine lv_iload hx hb dX9_isClearSome_5 (lv_at hl 4 rfl) ?_
  have hPc := hP.sub (ws' := [(h0, .inr (9, [.int th, .ref a1, .ref a2, .ref a3, .ref a4, .ref a5, .int ne, .int wi, .int dn, .ref a6, .ref a7, .int nn, .ref a8, .int la, .ref a9, .ref a10, .long up, .long lw, .int wh, .long pu, .long pw, .ref a11])), (a1, .inl (cI, 16, .inl Fi)), (a2, .inl (cI, 16, .inl Ma)), (a5, .inl (cI, 576, .inl Sp))]) [0, 1, 2, 3] rfl
  have hKc := hK.sub (tys' := [(cI, .int)]) [0] rfl
  refine vp_callSi (W.runV (As := [.int p1, .int p2, .int 0, .int p3, .int p4]) (rest := []) ⟨hx, hb, hml, hown, hts⟩ (c_X9_isClear l dC dI h0 a1 a2 a3 a4 a5 a6 a7 a8 a9 a10 a11 th ne wi dn nn la wh up lw pu pw cI Fi Ma Sp p1 p2 0 p3 p4 (by first | assumption | omega) (by first | omega | assumption) (by first | omega | assumption) (by first | omega | assumption) (by first | omega | assumption) (by first | omega | assumption) (by first | omega | assumption) (by first | omega | assumption) (by first | omega | assumption) (by first | omega | assumption) (by first | omega | assumption) (by first | omega | assumption)) (cwV 5 hts g_X9_isClearSome__X9_isClear_170 rfl rfl rfl (by decide +kernel) ⟨Nat.le_of_ble_eq_true rfl, Nat.le_of_ble_eq_true rfl⟩) ⟨fun a U g mk q => by obtain ⟨q0, qP, qK⟩ := q; exact ⟨q0, qP, va_K.moved (u := U) (U := U.calling g mk a) (Vm.Alike.refl U.vm) qK⟩, va_recv hKc hPc (ci := 9) (q0 := 0) rfl rfl, fun U hU hW => ⟨rfl, by rw [hU]; exact hPc, va_K.moved hW.alike hKc⟩⟩ rfl rfl hl.1 rfl (lv_room (Nat.le_of_ble_eq_true rfl)) dX9_isClearSome_7 ⟨Nat.le_of_ble_eq_true rfl, Nat.le_of_ble_eq_true rfl⟩) (fun r_1 hr_1 => ?_)
  try dsimp only at hr_1
  refine lv_if_ne (tgt := 39) hx hb dX9_isClearSome_10 (by decide) (fun c_10 => ?_) (fun c_10 => ?_)
  · have t_10 := mt (fa_eq _ _).mpr c_10
    refine lv_iconst (v := 1) hx hb dX9_isClearSome_39 (by decide) ?_
    refine lv_goto (tgt := 44) hx hb dX9_isClearSome_40 (by decide) ?_
    exact W.zret (v := 1) hx hb hr rfl (fun t ht _ => ⟨_, rfl, trivial, ht⟩) (fun _ h => absurd h List.not_mem_nil) dX9_isClearSome_44
  · have t_10 := (fa_eq _ _).mp c_10
    refine lv_aload_n hx hb dX9_isClearSome_13 rfl (lv_at hl 0 rfl) ?_
    refine lv_iload_n hx hb dX9_isClearSome_14 rfl (lv_at hl 1 rfl) ?_
    refine lv_iload_n hx hb dX9_isClearSome_15 rfl (lv_at hl 2 rfl) ?_
    refine lv_iconst (v := 1) hx hb dX9_isClearSome_16 (by decide) ?_
    refine lv_iload_n hx hb dX9_isClearSome_17 rfl (lv_at hl 3 rfl) ?_
    refine lv_iload hx hb dX9_isClearSome_18 (lv_at hl 4 rfl) ?_
    have hPc := hP.sub (ws' := [(h0, .inr (9, [.int th, .ref a1, .ref a2, .ref a3, .ref a4, .ref a5, .int ne, .int wi, .int dn, .ref a6, .ref a7, .int nn, .ref a8, .int la, .ref a9, .ref a10, .long up, .long lw, .int wh, .long pu, .long pw, .ref a11])), (a1, .inl (cI, 16, .inl Fi)), (a2, .inl (cI, 16, .inl Ma)), (a5, .inl (cI, 576, .inl Sp))]) [0, 1, 2, 3] rfl
    have hKc := hK.sub (tys' := [(cI, .int)]) [0] rfl
    refine vp_callSi (W.runV (As := [.int p1, .int p2, .int 1, .int p3, .int p4]) (rest := []) ⟨hx, hb, hml, hown, hts⟩ (c_X9_isClear l dC dI h0 a1 a2 a3 a4 a5 a6 a7 a8 a9 a10 a11 th ne wi dn nn la wh up lw pu pw cI Fi Ma Sp p1 p2 1 p3 p4 (by first | assumption | omega) (by first | omega | assumption) (by first | omega | assumption) (by first | omega | assumption) (by first | omega | assumption) (by first | omega | assumption) (by first | omega | assumption) (by first | omega | assumption) (by first | omega | assumption) (by first | omega | assumption) (by first | omega | assumption) (by first | omega | assumption)) (cwV 5 hts g_X9_isClearSome__X9_isClear_170 rfl rfl rfl (by decide +kernel) ⟨Nat.le_of_ble_eq_true rfl, Nat.le_of_ble_eq_true rfl⟩) ⟨fun a U g mk q => by obtain ⟨q0, qP, qK⟩ := q; exact ⟨q0, qP, va_K.moved (u := U) (U := U.calling g mk a) (Vm.Alike.refl U.vm) qK⟩, va_recv hKc hPc (ci := 9) (q0 := 0) rfl rfl, fun U hU hW => ⟨rfl, by rw [hU]; exact hPc, va_K.moved hW.alike hKc⟩⟩ rfl rfl hl.1 rfl (lv_room (Nat.le_of_ble_eq_true rfl)) dX9_isClearSome_20 ⟨Nat.le_of_ble_eq_true rfl, Nat.le_of_ble_eq_true rfl⟩) (fun r_2 hr_2 => ?_)
    try dsimp only at hr_2
    refine lv_if_ne (tgt := 39) hx hb dX9_isClearSome_23 (by decide) (fun c_23 => ?_) (fun c_23 => ?_)
    · have t_23 := mt (fa_eq _ _).mpr c_23
      refine lv_iconst (v := 1) hx hb dX9_isClearSome_39 (by decide) ?_
      refine lv_goto (tgt := 44) hx hb dX9_isClearSome_40 (by decide) ?_
      exact W.zret (v := 1) hx hb hr rfl (fun t ht _ => ⟨_, rfl, trivial, ht⟩) (fun _ h => absurd h List.not_mem_nil) dX9_isClearSome_44
    · have t_23 := (fa_eq _ _).mp c_23
      refine lv_aload_n hx hb dX9_isClearSome_26 rfl (lv_at hl 0 rfl) ?_
      refine lv_iload_n hx hb dX9_isClearSome_27 rfl (lv_at hl 1 rfl) ?_
      refine lv_iload_n hx hb dX9_isClearSome_28 rfl (lv_at hl 2 rfl) ?_
      refine lv_iconst (v := 2) hx hb dX9_isClearSome_29 (by decide) ?_
      refine lv_iload_n hx hb dX9_isClearSome_30 rfl (lv_at hl 3 rfl) ?_
      refine lv_iload hx hb dX9_isClearSome_31 (lv_at hl 4 rfl) ?_
      have hPc := hP.sub (ws' := [(h0, .inr (9, [.int th, .ref a1, .ref a2, .ref a3, .ref a4, .ref a5, .int ne, .int wi, .int dn, .ref a6, .ref a7, .int nn, .ref a8, .int la, .ref a9, .ref a10, .long up, .long lw, .int wh, .long pu, .long pw, .ref a11])), (a1, .inl (cI, 16, .inl Fi)), (a2, .inl (cI, 16, .inl Ma)), (a5, .inl (cI, 576, .inl Sp))]) [0, 1, 2, 3] rfl
      have hKc := hK.sub (tys' := [(cI, .int)]) [0] rfl
      refine vp_callSi (W.runV (As := [.int p1, .int p2, .int 2, .int p3, .int p4]) (rest := []) ⟨hx, hb, hml, hown, hts⟩ (c_X9_isClear l dC dI h0 a1 a2 a3 a4 a5 a6 a7 a8 a9 a10 a11 th ne wi dn nn la wh up lw pu pw cI Fi Ma Sp p1 p2 2 p3 p4 (by first | assumption | omega) (by first | omega | assumption) (by first | omega | assumption) (by first | omega | assumption) (by first | omega | assumption) (by first | omega | assumption) (by first | omega | assumption) (by first | omega | assumption) (by first | omega | assumption) (by first | omega | assumption) (by first | omega | assumption) (by first | omega | assumption)) (cwV 5 hts g_X9_isClearSome__X9_isClear_170 rfl rfl rfl (by decide +kernel) ⟨Nat.le_of_ble_eq_true rfl, Nat.le_of_ble_eq_true rfl⟩) ⟨fun a U g mk q => by obtain ⟨q0, qP, qK⟩ := q; exact ⟨q0, qP, va_K.moved (u := U) (U := U.calling g mk a) (Vm.Alike.refl U.vm) qK⟩, va_recv hKc hPc (ci := 9) (q0 := 0) rfl rfl, fun U hU hW => ⟨rfl, by rw [hU]; exact hPc, va_K.moved hW.alike hKc⟩⟩ rfl rfl hl.1 rfl (lv_room (Nat.le_of_ble_eq_true rfl)) dX9_isClearSome_33 ⟨Nat.le_of_ble_eq_true rfl, Nat.le_of_ble_eq_true rfl⟩) (fun r_3 hr_3 => ?_)
      try dsimp only at hr_3
      refine lv_if_eq (tgt := 43) hx hb dX9_isClearSome_36 (by decide) (fun c_36 => ?_) (fun c_36 => ?_)
      · have t_36 := (fa_eq _ _).mp c_36
        refine lv_iconst (v := 0) hx hb dX9_isClearSome_43 (by decide) ?_
        exact W.zret (v := 0) hx hb hr rfl (fun t ht _ => ⟨_, rfl, trivial, ht⟩) (fun _ h => absurd h List.not_mem_nil) dX9_isClearSome_44
      · have t_36 := mt (fa_eq _ _).mpr c_36
        refine lv_iconst (v := 1) hx hb dX9_isClearSome_39 (by decide) ?_
        refine lv_goto (tgt := 44) hx hb dX9_isClearSome_40 (by decide) ?_
        exact W.zret (v := 1) hx hb hr rfl (fun t ht _ => ⟨_, rfl, trivial, ht⟩) (fun _ h => absurd h List.not_mem_nil) dX9_isClearSome_44
