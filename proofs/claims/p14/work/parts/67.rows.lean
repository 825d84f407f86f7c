def wk_X9_share : List Cond := .code yX9_share cX9_share 13 (some .long) :: (([.constantLong RX9 62 39, .constantLong RX9 164 (-100003), .constantLong RX9 86 2, .fieldLink RX9 16 "MeetingsAboveModel" "doubts" "[I", .constantLong RX9 162 (-100002), .constantLong RX9 158 (-100001)] : List Cond) ++ (wsX90 ++ ((wsV RX9 80 RX9 yX9_isThing wk_X9_isThing) ++ ((va_wsS RX9 55 yX9_in wk_X9_in) ++ ((wsV RX9 90 RX9 yX9_hasPlace wk_X9_hasPlace) ++ ((wsV RX9 178 RX9 yX9_pairsOf wk_X9_pairsOf) ++ ((va_wsS RX9 166 yX9_common wk_X9_common) ++ ([]))))))))
theorem in_X9_share_X9 : ∀ w ∈ wsX90, w ∈ wk_X9_share := fun _ h => List.mem_cons_of_mem _ (List.mem_append_right _ (List.mem_append_left _ h))
theorem gw_X9_share : AG wk_X9_share := AG_ca (AG_l (by decide +kernel)) (AG_app ag_X9 (AG_app (AG_V gw_X9_isThing) (AG_app (AG_S gw_X9_in) (AG_app (AG_V gw_X9_hasPlace) (AG_app (AG_V gw_X9_pairsOf) (AG_app (AG_S gw_X9_common) (AG_nil)))))))
theorem g_X9_share__X9_isThing_80 : GoodIn wk_X9_share (wsV RX9 80 RX9 yX9_isThing wk_X9_isThing) := goodIn_m (fun _ h => List.mem_cons_of_mem _ (List.mem_append_right _ (List.mem_append_right _ (List.mem_append_left _ h)))) (AG_V gw_X9_isThing)
theorem g_X9_share__X9_in_55 : GoodIn wk_X9_share (va_wsS RX9 55 yX9_in wk_X9_in) := goodIn_m (fun _ h => List.mem_cons_of_mem _ (List.mem_append_right _ (List.mem_append_right _ (List.mem_append_right _ (List.mem_append_left _ h))))) (AG_S gw_X9_in)
theorem g_X9_share__X9_hasPlace_90 : GoodIn wk_X9_share (wsV RX9 90 RX9 yX9_hasPlace wk_X9_hasPlace) := goodIn_m (fun _ h => List.mem_cons_of_mem _ (List.mem_append_right _ (List.mem_append_right _ (List.mem_append_right _ (List.mem_append_right _ (List.mem_append_left _ h)))))) (AG_V gw_X9_hasPlace)
theorem g_X9_share__X9_pairsOf_178 : GoodIn wk_X9_share (wsV RX9 178 RX9 yX9_pairsOf wk_X9_pairsOf) := goodIn_m (fun _ h => List.mem_cons_of_mem _ (List.mem_append_right _ (List.mem_append_right _ (List.mem_append_right _ (List.mem_append_right _ (List.mem_append_right _ (List.mem_append_left _ h))))))) (AG_V gw_X9_pairsOf)
theorem g_X9_share__X9_common_166 : GoodIn wk_X9_share (va_wsS RX9 166 yX9_common wk_X9_common) := goodIn_m (fun _ h => List.mem_cons_of_mem _ (List.mem_append_right _ (List.mem_append_right _ (List.mem_append_right _ (List.mem_append_right _ (List.mem_append_right _ (List.mem_append_right _ (List.mem_append_left _ h)))))))) (AG_S gw_X9_common)
set_option maxHeartbeats 4000000 in
set_option maxRecDepth 100000 in
theorem c_X9_share (l : Launch) (dC : Nat → ClassId) (dI : Nat → Nat → Nat) (h0 : Nat) (a1 : Nat) (a2 : Nat) (a3 : Nat) (a4 : Nat) (a5 : Nat) (a6 : Nat) (a7 : Nat) (a8 : Nat) (a9 : Nat) (a10 : Nat) (a11 : Nat) (th : Int32) (ne : Int32) (wi : Int32) (dn : Int32) (nn : Int32) (la : Int32) (wh : Int32) (up : Int64) (lw : Int64) (pu : Int64) (pw : Int64) (cI : ClassId) (Fi : Nat → Int32) (Ma : Nat → Int32) (Db : Nat → Int32) (Sp : Nat → Int32) (p1 : Int32) (p2 : Int32) (p3 : Int32) (p4 : Int32) (hM : mOK th Fi Ma) (hDb : dOK th Db) : Met l yX9_share wk_X9_share ({ frames := 2, cells := 0, slots := 0, locals := 53 }) (va_Pc [.ref h0, .int p1, .int p2, .int p3, .int p4] (fun U => va_P (dC, dI) vwCl [(h0, .inr (9, [.int th, .ref a1, .ref a2, .ref a3, .ref a4, .ref a5, .int ne, .int wi, .int dn, .ref a6, .ref a7, .int nn, .ref a8, .int la, .ref a9, .ref a10, .long up, .long lw, .int wh, .long pu, .long pw, .ref a11])), (a1, .inl (cI, 16, .inl Fi)), (a2, .inl (cI, 16, .inl Ma)), (a3, .inl (cI, 16, .inl Db)), (a5, .inl (cI, 576, .inl Sp))] U.heap ∧ va_K (dC, dI) vwCl [(cI, .int)] U)) (vp_Sl (fun r => True)) 0 0 (fun _ => False) := by
  refine Met.ofW (cc := cX9_share) (maxL := 13) (ret := (some .long)) (by decide) rfl ?_
  intro p e s m args below meth c s₁ B hml hv
  obtain ⟨rfl, hP, hK⟩ := hv
  have hx := B.exec
  have hb := B.bytes
  have hr := B.returns
  have hts := atoms_spec (ws := wk_X9_share) B.pre
  have hown : s.vm.findClass RX9 = some m.cls := findClass_of_methodNamed B.named
  have hlocks := B.notSynchronized
  have hP : va_P (dC, dI) vwCl [(h0, .inr (9, [.int th, .ref a1, .ref a2, .ref a3, .ref a4, .ref a5, .int ne, .int wi, .int dn, .ref a6, .ref a7, .int nn, .ref a8, .int la, .ref a9, .ref a10, .long up, .long lw, .int wh, .long pu, .long pw, .ref a11])), (a1, .inl (cI, 16, .inl Fi)), (a2, .inl (cI, 16, .inl Ma)), (a3, .inl (cI, 16, .inl Db)), (a5, .inl (cI, 576, .inl Sp))] s.heap := hP
  have hl := lv_entry ([.ref h0, .int p1, .int p2, .int p3, .int p4]) (n := 13) (Nat.le_of_ble_eq_true rfl)
  rw [lg_entry_eq]
  generalize (lg_sl ([.ref h0, .int p1, .int p2, .int p3, .int p4]) ++ List.replicate (13 - (lg_sl ([.ref h0, .int p1, .int p2, .int p3, .int p4])).length) Slot.unset).toArray = ls at hl ⊢
  have hl : lv_has ls 13 [(0, .ref h0), (1, .int p1), (2, .int p2), (3, .int p3), (4, .int p4)] := hl
  have kl_0 : (0 : Int32).toInt = 0 := by decide
  have kl_1 : (1 : Int32).toInt = 1 := by decide
  have kl_2 : (2 : Int32).toInt = 2 := by decide
  have kl_39 : (39 : Int32).toInt = 39 := by decide
  have klL_m100003 : (-100003 : Int64).toInt = -100003 := by decide
  have klL_m100002 : (-100002 : Int64).toInt = -100002 := by decide
  have klL_m100001 : (-100001 : Int64).toInt = -100001 := by decide
  have klL_0 : (0 : Int64).toInt = 0 := by decide
  have klL_1 : (1 : Int64).toInt = 1 := by decide
  have klL_2 : (2 : Int64).toInt = 2 := by decide
  have klL_39 : (39 : Int64).toInt = 39 := by decide
  obtain ⟨hM0, hM1, hM2⟩ := id hM
  refine lv_aload_n hx hb dX9_share_0 rfl (lv_at hl 0 rfl) ?_
  refine lv_iload_n hx hb dX9_share_1 rfl (lv_at hl 1 rfl) ?_
  have hPc := hP.sub (ws' := [(h0, .inr (9, [.int th, .ref a1, .ref a2, .ref a3, .ref a4, .ref a5, .int ne, .int wi, .int dn, .ref a6, .ref a7, .int nn, .ref a8, .int la, .ref a9, .ref a10, .long up, .long lw, .int wh, .long pu, .long pw, .ref a11]))]) [0] rfl
  have hKc := hK.sub (tys' := []) [] rfl
  refine vp_callSi (W.runV (As := [.int p1]) (rest := []) ⟨hx, hb, hml, hown, hts⟩ (c_X9_isThing l dC dI h0 a1 a2 a3 a4 a5 a6 a7 a8 a9 a10 a11 th ne wi dn nn la wh up lw pu pw p1 (by first | omega | assumption) (by first | omega | assumption)) (cwV 1 hts g_X9_share__X9_isThing_80 rfl rfl rfl (by decide +kernel) ⟨Nat.le_of_ble_eq_true rfl, Nat.le_of_ble_eq_true rfl⟩) ⟨fun a U g mk q => by obtain ⟨q0, qP, qK⟩ := q; exact ⟨q0, qP, va_K.moved (u := U) (U := U.calling g mk a) (Vm.Alike.refl U.vm) qK⟩, va_recv hKc hPc (ci := 9) (q0 := 0) rfl rfl, fun U hU hW => ⟨rfl, by rw [hU]; exact hPc, va_K.moved hW.alike hKc⟩⟩ rfl rfl hl.1 rfl (lv_room (Nat.le_of_ble_eq_true rfl)) dX9_share_2 ⟨Nat.le_of_ble_eq_true rfl, Nat.le_of_ble_eq_true rfl⟩) (fun r_1 hr_1 => ?_)
  try dsimp only at hr_1
  rcases bo_split hr_1 with ⟨rfl, q_2⟩ | ⟨rfl, q_2⟩
  · refine lv_if_eq (tgt := 16) hx hb dX9_share_5 (by decide) (fun h9 => absurd h9 (by decide)) (fun _ => ?_)
    refine lv_aload_n hx hb dX9_share_8 rfl (lv_at hl 0 rfl) ?_
    refine lv_iload_n hx hb dX9_share_9 rfl (lv_at hl 2 rfl) ?_
    have hPc := hP.sub (ws' := [(h0, .inr (9, [.int th, .ref a1, .ref a2, .ref a3, .ref a4, .ref a5, .int ne, .int wi, .int dn, .ref a6, .ref a7, .int nn, .ref a8, .int la, .ref a9, .ref a10, .long up, .long lw, .int wh, .long pu, .long pw, .ref a11]))]) [0] rfl
    have hKc := hK.sub (tys' := []) [] rfl
    refine vp_callSi (W.runV (As := [.int p2]) (rest := []) ⟨hx, hb, hml, hown, hts⟩ (c_X9_isThing l dC dI h0 a1 a2 a3 a4 a5 a6 a7 a8 a9 a10 a11 th ne wi dn nn la wh up lw pu pw p2 (by first | omega | assumption) (by first | omega | assumption)) (cwV 1 hts g_X9_share__X9_isThing_80 rfl rfl rfl (by decide +kernel) ⟨Nat.le_of_ble_eq_true rfl, Nat.le_of_ble_eq_true rfl⟩) ⟨fun a U g mk q => by obtain ⟨q0, qP, qK⟩ := q; exact ⟨q0, qP, va_K.moved (u := U) (U := U.calling g mk a) (Vm.Alike.refl U.vm) qK⟩, va_recv hKc hPc (ci := 9) (q0 := 0) rfl rfl, fun U hU hW => ⟨rfl, by rw [hU]; exact hPc, va_K.moved hW.alike hKc⟩⟩ rfl rfl hl.1 rfl (lv_room (Nat.le_of_ble_eq_true rfl)) dX9_share_10 ⟨Nat.le_of_ble_eq_true rfl, Nat.le_of_ble_eq_true rfl⟩) (fun r_2 hr_2 => ?_)
    try dsimp only at hr_2
    rcases bo_split hr_2 with ⟨rfl, q_10⟩ | ⟨rfl, q_10⟩
    · refine lv_if_ne (tgt := 20) hx hb dX9_share_13 (by decide) (fun _ => ?_) (fun h9 => absurd h9 (by decide))
      refine lv_iload_n hx hb dX9_share_20 rfl (lv_at hl 3 rfl) ?_
      refine lv_i2l hx hb dX9_share_21 rfl ?_
      have ti_21 : (p3.toInt64).toInt = p3.toInt := Int32.toInt_toInt64 _
      refine lv_lconst (v := 0) hx hb dX9_share_22 (by decide) ?_
      refine lv_ldc2 hx hb hown (hts (.constantLong RX9 62 39) (by decide +kernel)) dX9_share_23 ?_
      refine vp_callSi (W.runS (As := [.long p3.toInt64, .long 0, .long 39]) (rest := []) ⟨hx, hb, hml, hown, hts⟩ (c_X9_in l dC dI p3.toInt64 0 39) (va_cwS 3 hts g_X9_share__X9_in_55 rfl rfl rfl (by decide +kernel) ⟨Nat.le_of_ble_eq_true rfl, Nat.le_of_ble_eq_true rfl⟩) ⟨fun a U g mk q => by obtain ⟨q0, q1⟩ := q; exact ⟨q0, q1⟩, fun U hU hW => ⟨rfl, trivial⟩⟩ rfl rfl hl.1 rfl (lv_room (Nat.le_of_ble_eq_true rfl)) dX9_share_26 ⟨Nat.le_of_ble_eq_true rfl, Nat.le_of_ble_eq_true rfl⟩) (fun r_3 hr_3 => ?_)
      try dsimp only at hr_3
      rcases bo_split hr_3 with ⟨rfl, q_26⟩ | ⟨rfl, q_26⟩
      · simp only [Int32.toInt_toInt64, klL_0, klL_39] at q_26
        refine lv_if_eq (tgt := 43) hx hb dX9_share_29 (by decide) (fun h9 => absurd h9 (by decide)) (fun _ => ?_)
        refine lv_iload hx hb dX9_share_32 (lv_at hl 4 rfl) ?_
        refine lv_i2l hx hb dX9_share_34 rfl ?_
        have ti_34 : (p4.toInt64).toInt = p4.toInt := Int32.toInt_toInt64 _
        refine lv_lconst (v := 0) hx hb dX9_share_35 (by decide) ?_
        refine lv_lconst (v := 1) hx hb dX9_share_36 (by decide) ?_
        refine vp_callSi (W.runS (As := [.long p4.toInt64, .long 0, .long 1]) (rest := []) ⟨hx, hb, hml, hown, hts⟩ (c_X9_in l dC dI p4.toInt64 0 1) (va_cwS 3 hts g_X9_share__X9_in_55 rfl rfl rfl (by decide +kernel) ⟨Nat.le_of_ble_eq_true rfl, Nat.le_of_ble_eq_true rfl⟩) ⟨fun a U g mk q => by obtain ⟨q0, q1⟩ := q; exact ⟨q0, q1⟩, fun U hU hW => ⟨rfl, trivial⟩⟩ rfl rfl hl.1 rfl (lv_room (Nat.le_of_ble_eq_true rfl)) dX9_share_37 ⟨Nat.le_of_ble_eq_true rfl, Nat.le_of_ble_eq_true rfl⟩) (fun r_4 hr_4 => ?_)
        try dsimp only at hr_4
        rcases bo_split hr_4 with ⟨rfl, q_37⟩ | ⟨rfl, q_37⟩
        · simp only [Int32.toInt_toInt64, klL_0, klL_1] at q_37
          refine lv_if_ne (tgt := 47) hx hb dX9_share_40 (by decide) (fun _ => ?_) (fun h9 => absurd h9 (by decide))
          refine lv_iload_n hx hb dX9_share_47 rfl (lv_at hl 1 rfl) ?_
          refine lv_iload_n hx hb dX9_share_48 rfl (lv_at hl 2 rfl) ?_
          refine lv_icmp_eq (tgt := 70) hx hb dX9_share_49 (by decide) (fun c_49 => ?_) (fun c_49 => ?_)
          · have t_49 := (fa_eq _ _).mp c_49
            refine lv_ldc2 hx hb hown (hts (.constantLong RX9 164 (-100003)) (by decide +kernel)) dX9_share_70 ?_
            exact W.lret (v := (-100003)) hx hb hr (fun t ht _ => ⟨_, rfl, trivial, ht⟩) (fun _ h => absurd h List.not_mem_nil) dX9_share_73
          · have t_49 := mt (fa_eq _ _).mpr c_49
            refine lv_aload_n hx hb dX9_share_52 rfl (lv_at hl 0 rfl) ?_
            refine lv_iload_n hx hb dX9_share_53 rfl (lv_at hl 1 rfl) ?_
            refine lv_iload_n hx hb dX9_share_54 rfl (lv_at hl 3 rfl) ?_
            have hPc := hP.sub (ws' := [(h0, .inr (9, [.int th, .ref a1, .ref a2, .ref a3, .ref a4, .ref a5, .int ne, .int wi, .int dn, .ref a6, .ref a7, .int nn, .ref a8, .int la, .ref a9, .ref a10, .long up, .long lw, .int wh, .long pu, .long pw, .ref a11])), (a1, .inl (cI, 16, .inl Fi)), (a2, .inl (cI, 16, .inl Ma))]) [0, 1, 2] rfl
            have hKc := hK.sub (tys' := [(cI, .int)]) [0] rfl
            refine vp_callSi (W.runV (As := [.int p1, .int p3]) (rest := []) ⟨hx, hb, hml, hown, hts⟩ (c_X9_hasPlace l dC dI h0 a1 a2 a3 a4 a5 a6 a7 a8 a9 a10 a11 th ne wi dn nn la wh up lw pu pw cI Fi Ma p1 p3 (by first | assumption | omega) (by first | omega | assumption) (by first | omega | assumption)) (cwV 2 hts g_X9_share__X9_hasPlace_90 rfl rfl rfl (by decide +kernel) ⟨Nat.le_of_ble_eq_true rfl, Nat.le_of_ble_eq_true rfl⟩) ⟨fun a U g mk q => by obtain ⟨q0, qP, qK⟩ := q; exact ⟨q0, qP, va_K.moved (u := U) (U := U.calling g mk a) (Vm.Alike.refl U.vm) qK⟩, va_recv hKc hPc (ci := 9) (q0 := 0) rfl rfl, fun U hU hW => ⟨rfl, by rw [hU]; exact hPc, va_K.moved hW.alike hKc⟩⟩ rfl rfl hl.1 rfl (lv_room (Nat.le_of_ble_eq_true rfl)) dX9_share_55 ⟨Nat.le_of_ble_eq_true rfl, Nat.le_of_ble_eq_true rfl⟩) (fun r_5 hr_5 => ?_)
            try dsimp only at hr_5
            rcases bo_split hr_5 with ⟨rfl, q_55⟩ | ⟨rfl, q_55⟩
            · refine lv_if_eq (tgt := 70) hx hb dX9_share_58 (by decide) (fun h9 => absurd h9 (by decide)) (fun _ => ?_)
              refine lv_aload_n hx hb dX9_share_61 rfl (lv_at hl 0 rfl) ?_
              refine lv_iload_n hx hb dX9_share_62 rfl (lv_at hl 2 rfl) ?_
              refine lv_iload_n hx hb dX9_share_63 rfl (lv_at hl 3 rfl) ?_
              have hPc := hP.sub (ws' := [(h0, .inr (9, [.int th, .ref a1, .ref a2, .ref a3, .ref a4, .ref a5, .int ne, .int wi, .int dn, .ref a6, .ref a7, .int nn, .ref a8, .int la, .ref a9, .ref a10, .long up, .long lw, .int wh, .long pu, .long pw, .ref a11])), (a1, .inl (cI, 16, .inl Fi)), (a2, .inl (cI, 16, .inl Ma))]) [0, 1, 2] rfl
              have hKc := hK.sub (tys' := [(cI, .int)]) [0] rfl
              refine vp_callSi (W.runV (As := [.int p2, .int p3]) (rest := []) ⟨hx, hb, hml, hown, hts⟩ (c_X9_hasPlace l dC dI h0 a1 a2 a3 a4 a5 a6 a7 a8 a9 a10 a11 th ne wi dn nn la wh up lw pu pw cI Fi Ma p2 p3 (by first | assumption | omega) (by first | omega | assumption) (by first | omega | assumption)) (cwV 2 hts g_X9_share__X9_hasPlace_90 rfl rfl rfl (by decide +kernel) ⟨Nat.le_of_ble_eq_true rfl, Nat.le_of_ble_eq_true rfl⟩) ⟨fun a U g mk q => by obtain ⟨q0, qP, qK⟩ := q; exact ⟨q0, qP, va_K.moved (u := U) (U := U.calling g mk a) (Vm.Alike.refl U.vm) qK⟩, va_recv hKc hPc (ci := 9) (q0 := 0) rfl rfl, fun U hU hW => ⟨rfl, by rw [hU]; exact hPc, va_K.moved hW.alike hKc⟩⟩ rfl rfl hl.1 rfl (lv_room (Nat.le_of_ble_eq_true rfl)) dX9_share_64 ⟨Nat.le_of_ble_eq_true rfl, Nat.le_of_ble_eq_true rfl⟩) (fun r_6 hr_6 => ?_)
              try dsimp only at hr_6
              rcases bo_split hr_6 with ⟨rfl, q_64⟩ | ⟨rfl, q_64⟩
              · refine lv_if_ne (tgt := 74) hx hb dX9_share_67 (by decide) (fun _ => ?_) (fun h9 => absurd h9 (by decide))
                have np1 : ((p1.toNatClampNeg : Nat) : Int) = p1.toInt := tc_I (by omega)
                have bp1 := hM2 p1.toNatClampNeg (by omega)
                have np2 : ((p2.toNatClampNeg : Nat) : Int) = p2.toInt := tc_I (by omega)
                have bp2 := hM2 p2.toNatClampNeg (by omega)
                have d1 := hDb p1.toNatClampNeg (by omega)
                have d2 := hDb p2.toNatClampNeg (by omega)
                refine lv_ldc2 hx hb hown (hts (.constantLong RX9 86 2) (by decide +kernel)) dX9_share_74 ?_
                refine lv_aload_n hx hb dX9_share_77 rfl (lv_at hl 0 rfl) ?_
                refine va_get (D := (dC, dI)) (ci := 9) (v := .ref a3) (C := RX9) (T := TX9) (N := 22) hx hb hts in_X9_share_X9 hown hK hP 0 rfl rfl 3 (by decide) (hts (.fieldLink RX9 16 "MeetingsAboveModel" "doubts" "[I") (by decide +kernel)) (fun _ h9 => h9) rfl dX9_share_78 ?_
                refine lv_iload_n hx hb dX9_share_81 rfl (lv_at hl 1 rfl) ?_
                refine va_iald hx hb hK hP 3 0 rfl rfl (vp_in_iff.mpr ⟨by omega, by omega⟩) dX9_share_82 ?_
                refine lv_topi (fun y_7 ey_7 => ?_)
                have uy_7 : y_7.toInt = (Db (p1 : Int32).toNatClampNeg).toInt := by rw [ey_7]
                refine lv_i2l hx hb dX9_share_83 rfl ?_
                have ti_83 : (y_7.toInt64).toInt = y_7.toInt := Int32.toInt_toInt64 _
                refine lv_lmul hx hb dX9_share_84 ?_
                refine lv_topl (fun y_8 ey_8 => ?_)
                have ty_8 : y_8.toInt = 2 * y_7.toInt64.toInt := by rw [ey_8]; exact fm_lL klL_2 (by omega) (by omega)
                refine lv_lconst (v := 1) hx hb dX9_share_85 (by decide) ?_
                refine lv_ladd hx hb dX9_share_86 ?_
                refine lv_topl (fun y_9 ey_9 => ?_)
                have ty_9 : y_9.toInt = y_8.toInt + 1 := by rw [ey_9]; have := fb_addL (x := y_8) (y := 1) (by omega) (by omega); omega
                refine lv_ldc2 hx hb hown (hts (.constantLong RX9 86 2) (by decide +kernel)) dX9_share_87 ?_
                refine lv_aload_n hx hb dX9_share_90 rfl (lv_at hl 0 rfl) ?_
                refine va_get (D := (dC, dI)) (ci := 9) (v := .ref a3) (C := RX9) (T := TX9) (N := 22) hx hb hts in_X9_share_X9 hown hK hP 0 rfl rfl 3 (by decide) (hts (.fieldLink RX9 16 "MeetingsAboveModel" "doubts" "[I") (by decide +kernel)) (fun _ h9 => h9) rfl dX9_share_91 ?_
                refine lv_iload_n hx hb dX9_share_94 rfl (lv_at hl 2 rfl) ?_
                refine va_iald hx hb hK hP 3 0 rfl rfl (vp_in_iff.mpr ⟨by omega, by omega⟩) dX9_share_95 ?_
                refine lv_topi (fun y_10 ey_10 => ?_)
                have uy_10 : y_10.toInt = (Db (p2 : Int32).toNatClampNeg).toInt := by rw [ey_10]
                refine lv_i2l hx hb dX9_share_96 rfl ?_
                have ti_96 : (y_10.toInt64).toInt = y_10.toInt := Int32.toInt_toInt64 _
                refine lv_lmul hx hb dX9_share_97 ?_
                refine lv_topl (fun y_11 ey_11 => ?_)
                have ty_11 : y_11.toInt = 2 * y_10.toInt64.toInt := by rw [ey_11]; exact fm_lL klL_2 (by omega) (by omega)
                refine lv_lconst (v := 1) hx hb dX9_share_98 (by decide) ?_
                refine lv_ladd hx hb dX9_share_99 ?_
                refine lv_topl (fun y_12 ey_12 => ?_)
                have ty_12 : y_12.toInt = y_11.toInt + 1 := by rw [ey_12]; have := fb_addL (x := y_11) (y := 1) (by omega) (by omega); omega
                refine lv_lmul hx hb dX9_share_100 ?_
                refine lv_topl (fun y_13 ey_13 => ?_)
                have m1 := lm_pos 401 401 ey_13 (by omega) (by omega) (by omega) (by omega) (by decide)
                refine lv_lstore (lv' := [(5, .long y_13), (0, .ref h0), (1, .int p1), (2, .int p2), (3, .int p3), (4, .int p4)]) hx hb dX9_share_101 hl (by decide) rfl (fun ls hl => ?_)
                refine lv_lload hx hb dX9_share_103 (lv_at hl 0 rfl) ?_
                refine lv_lload hx hb dX9_share_105 (lv_at hl 0 rfl) ?_
                refine lv_lmul hx hb dX9_share_107 ?_
                refine lv_topl (fun y_14 ey_14 => ?_)
                have m2 := lm_pos 160801 160801 ey_14 (by omega) (by omega) (by omega) (by omega) (by decide)
                refine lv_lload hx hb dX9_share_108 (lv_at hl 0 rfl) ?_
                refine lv_lmul hx hb dX9_share_110 ?_
                refine lv_topl (fun y_15 ey_15 => ?_)
                have m3 := lm_pos 25856961601 160801 ey_15 (by omega) (by omega) (by omega) (by omega) (by decide)
                refine lv_lstore (lv' := [(7, .long y_15), (5, .long y_13), (0, .ref h0), (1, .int p1), (2, .int p2), (3, .int p3), (4, .int p4)]) hx hb dX9_share_111 hl (by decide) rfl (fun ls hl => ?_)
                refine lv_aload_n hx hb dX9_share_113 rfl (lv_at hl 2 rfl) ?_
                refine lv_iload_n hx hb dX9_share_114 rfl (lv_at hl 3 rfl) ?_
                refine lv_iload_n hx hb dX9_share_115 rfl (lv_at hl 4 rfl) ?_
                refine lv_iload_n hx hb dX9_share_116 rfl (lv_at hl 5 rfl) ?_
                refine lv_iconst (v := 0) hx hb dX9_share_117 (by decide) ?_
                have hPc := hP.sub (ws' := [(h0, .inr (9, [.int th, .ref a1, .ref a2, .ref a3, .ref a4, .ref a5, .int ne, .int wi, .int dn, .ref a6, .ref a7, .int nn, .ref a8, .int la, .ref a9, .ref a10, .long up, .long lw, .int wh, .long pu, .long pw, .ref a11])), (a1, .inl (cI, 16, .inl Fi)), (a2, .inl (cI, 16, .inl Ma)), (a3, .inl (cI, 16, .inl Db)), (a5, .inl (cI, 576, .inl Sp))]) [0, 1, 2, 3, 4] rfl
                have hKc := hK.sub (tys' := [(cI, .int)]) [0] rfl
                refine vp_callSl (W.runV (As := [.int p1, .int p2, .int p3, .int 0]) (rest := []) ⟨hx, hb, hml, hown, hts⟩ (c_X9_pairsOf l dC dI h0 a1 a2 a3 a4 a5 a6 a7 a8 a9 a10 a11 th ne wi dn nn la wh up lw pu pw cI Fi Ma Db Sp p1 p2 p3 0 (by first | assumption | omega) (by first | assumption | omega) (by first | omega | assumption) (by first | omega | assumption) (by first | omega | assumption) (by first | omega | assumption) (by first | omega | assumption) (by first | omega | assumption) (by first | omega | assumption) (by first | omega | assumption) (by first | omega | assumption) (by first | omega | assumption)) (cwV 4 hts g_X9_share__X9_pairsOf_178 rfl rfl rfl (by decide +kernel) ⟨Nat.le_of_ble_eq_true rfl, Nat.le_of_ble_eq_true rfl⟩) ⟨fun a U g mk q => by obtain ⟨q0, qP, qK⟩ := q; exact ⟨q0, qP, va_K.moved (u := U) (U := U.calling g mk a) (Vm.Alike.refl U.vm) qK⟩, va_recv hKc hPc (ci := 9) (q0 := 0) rfl rfl, fun U hU hW => ⟨rfl, by rw [hU]; exact hPc, va_K.moved hW.alike hKc⟩⟩ rfl rfl hl.1 rfl (lv_room (Nat.le_of_ble_eq_true rfl)) dX9_share_118 ⟨Nat.le_of_ble_eq_true rfl, Nat.le_of_ble_eq_true rfl⟩) (fun r_16 hr_16 => ?_)
                try dsimp only at hr_16
                refine lv_aload_n hx hb dX9_share_121 rfl (lv_at hl 2 rfl) ?_
                refine lv_iload_n hx hb dX9_share_122 rfl (lv_at hl 3 rfl) ?_
                refine lv_iload_n hx hb dX9_share_123 rfl (lv_at hl 4 rfl) ?_
                refine lv_iload_n hx hb dX9_share_124 rfl (lv_at hl 5 rfl) ?_
                refine lv_iconst (v := 1) hx hb dX9_share_125 (by decide) ?_
                have hPc := hP.sub (ws' := [(h0, .inr (9, [.int th, .ref a1, .ref a2, .ref a3, .ref a4, .ref a5, .int ne, .int wi, .int dn, .ref a6, .ref a7, .int nn, .ref a8, .int la, .ref a9, .ref a10, .long up, .long lw, .int wh, .long pu, .long pw, .ref a11])), (a1, .inl (cI, 16, .inl Fi)), (a2, .inl (cI, 16, .inl Ma)), (a3, .inl (cI, 16, .inl Db)), (a5, .inl (cI, 576, .inl Sp))]) [0, 1, 2, 3, 4] rfl
                have hKc := hK.sub (tys' := [(cI, .int)]) [0] rfl
                refine vp_callSl (W.runV (As := [.int p1, .int p2, .int p3, .int 1]) (rest := [.long r_16]) ⟨hx, hb, hml, hown, hts⟩ (c_X9_pairsOf l dC dI h0 a1 a2 a3 a4 a5 a6 a7 a8 a9 a10 a11 th ne wi dn nn la wh up lw pu pw cI Fi Ma Db Sp p1 p2 p3 1 (by first | assumption | omega) (by first | assumption | omega) (by first | omega | assumption) (by first | omega | assumption) (by first | omega | assumption) (by first | omega | assumption) (by first | omega | assumption) (by first | omega | assumption) (by first | omega | assumption) (by first | omega | assumption) (by first | omega | assumption) (by first | omega | assumption)) (cwV 4 hts g_X9_share__X9_pairsOf_178 rfl rfl rfl (by decide +kernel) ⟨Nat.le_of_ble_eq_true rfl, Nat.le_of_ble_eq_true rfl⟩) ⟨fun a U g mk q => by obtain ⟨q0, qP, qK⟩ := q; exact ⟨q0, qP, va_K.moved (u := U) (U := U.calling g mk a) (Vm.Alike.refl U.vm) qK⟩, va_recv hKc hPc (ci := 9) (q0 := 0) rfl rfl, fun U hU hW => ⟨rfl, by rw [hU]; exact hPc, va_K.moved hW.alike hKc⟩⟩ rfl rfl hl.1 rfl (lv_room (Nat.le_of_ble_eq_true rfl)) dX9_share_126 ⟨Nat.le_of_ble_eq_true rfl, Nat.le_of_ble_eq_true rfl⟩) (fun r_17 hr_17 => ?_)
                try dsimp only at hr_17
                refine lv_lmul hx hb dX9_share_129 ?_
                refine lv_topl (fun y_18 ey_18 => ?_)
                refine lv_aload_n hx hb dX9_share_130 rfl (lv_at hl 2 rfl) ?_
                refine lv_iload_n hx hb dX9_share_131 rfl (lv_at hl 3 rfl) ?_
                refine lv_iload_n hx hb dX9_share_132 rfl (lv_at hl 4 rfl) ?_
                refine lv_iload_n hx hb dX9_share_133 rfl (lv_at hl 5 rfl) ?_
                refine lv_iconst (v := 2) hx hb dX9_share_134 (by decide) ?_
                have hPc := hP.sub (ws' := [(h0, .inr (9, [.int th, .ref a1, .ref a2, .ref a3, .ref a4, .ref a5, .int ne, .int wi, .int dn, .ref a6, .ref a7, .int nn, .ref a8, .int la, .ref a9, .ref a10, .long up, .long lw, .int wh, .long pu, .long pw, .ref a11])), (a1, .inl (cI, 16, .inl Fi)), (a2, .inl (cI, 16, .inl Ma)), (a3, .inl (cI, 16, .inl Db)), (a5, .inl (cI, 576, .inl Sp))]) [0, 1, 2, 3, 4] rfl
                have hKc := hK.sub (tys' := [(cI, .int)]) [0] rfl
                refine vp_callSl (W.runV (As := [.int p1, .int p2, .int p3, .int 2]) (rest := [.long y_18]) ⟨hx, hb, hml, hown, hts⟩ (c_X9_pairsOf l dC dI h0 a1 a2 a3 a4 a5 a6 a7 a8 a9 a10 a11 th ne wi dn nn la wh up lw pu pw cI Fi Ma Db Sp p1 p2 p3 2 (by first | assumption | omega) (by first | assumption | omega) (by first | omega | assumption) (by first | omega | assumption) (by first | omega | assumption) (by first | omega | assumption) (by first | omega | assumption) (by first | omega | assumption) (by first | omega | assumption) (by first | omega | assumption) (by first | omega | assumption) (by first | omega | assumption)) (cwV 4 hts g_X9_share__X9_pairsOf_178 rfl rfl rfl (by decide +kernel) ⟨Nat.le_of_ble_eq_true rfl, Nat.le_of_ble_eq_true rfl⟩) ⟨fun a U g mk q => by obtain ⟨q0, qP, qK⟩ := q; exact ⟨q0, qP, va_K.moved (u := U) (U := U.calling g mk a) (Vm.Alike.refl U.vm) qK⟩, va_recv hKc hPc (ci := 9) (q0 := 0) rfl rfl, fun U hU hW => ⟨rfl, by rw [hU]; exact hPc, va_K.moved hW.alike hKc⟩⟩ rfl rfl hl.1 rfl (lv_room (Nat.le_of_ble_eq_true rfl)) dX9_share_135 ⟨Nat.le_of_ble_eq_true rfl, Nat.le_of_ble_eq_true rfl⟩) (fun r_19 hr_19 => ?_)
                try dsimp only at hr_19
                refine lv_lmul hx hb dX9_share_138 ?_
                refine lv_topl (fun y_20 ey_20 => ?_)
                refine lv_lstore (lv' := [(9, .long y_20), (7, .long y_15), (5, .long y_13), (0, .ref h0), (1, .int p1), (2, .int p2), (3, .int p3), (4, .int p4)]) hx hb dX9_share_139 hl (by decide) rfl (fun ls hl => ?_)
                refine lv_lload hx hb dX9_share_141 (lv_at hl 0 rfl) ?_
                refine lv_lload hx hb dX9_share_143 (lv_at hl 1 rfl) ?_
                refine vp_callSl (W.runS (As := [.long y_20, .long y_15]) (rest := []) ⟨hx, hb, hml, hown, hts⟩ (c_X9_common l dC dI y_20 y_15) (va_cwS 2 hts g_X9_share__X9_common_166 rfl rfl rfl (by decide +kernel) ⟨Nat.le_of_ble_eq_true rfl, Nat.le_of_ble_eq_true rfl⟩) ⟨fun a U g mk q => by obtain ⟨q0, q1⟩ := q; exact ⟨q0, q1⟩, fun U hU hW => ⟨rfl, trivial⟩⟩ rfl rfl hl.1 rfl (lv_room (Nat.le_of_ble_eq_true rfl)) dX9_share_145 ⟨Nat.le_of_ble_eq_true rfl, Nat.le_of_ble_eq_true rfl⟩) (fun r_21 hr_21 => ?_)
                try dsimp only at hr_21
                refine lv_lstore (lv' := [(11, .long r_21), (9, .long y_20), (7, .long y_15), (5, .long y_13), (0, .ref h0), (1, .int p1), (2, .int p2), (3, .int p3), (4, .int p4)]) hx hb dX9_share_148 hl (by decide) rfl (fun ls hl => ?_)
                refine lv_iload hx hb dX9_share_150 (lv_at hl 8 rfl) ?_
                refine lv_if_ne (tgt := 163) hx hb dX9_share_152 (by decide) (fun c_152 => ?_) (fun c_152 => ?_)
                · have t_152 := mt (fa_eq _ _).mpr c_152
                  refine lv_lload hx hb dX9_share_163 (lv_at hl 2 rfl) ?_
                  refine lv_lload hx hb dX9_share_165 (lv_at hl 0 rfl) ?_
                  refine lv_ldiv hx hb dX9_share_167 (fun h9 => by have h8 := hr_21 (by omega); rw [h9, klL_0] at h8; omega) ?_
                  refine lv_topl (fun y_22 ey_22 => ?_)
                  exact W.lret (v := y_22) hx hb hr (fun t ht _ => ⟨_, rfl, trivial, ht⟩) (fun _ h => absurd h List.not_mem_nil) dX9_share_168
                · have t_152 := (fa_eq _ _).mp c_152
                  refine lv_lload hx hb dX9_share_155 (lv_at hl 1 rfl) ?_
                  refine lv_lload hx hb dX9_share_157 (lv_at hl 0 rfl) ?_
                  refine lv_ldiv hx hb dX9_share_159 (fun h9 => by have h8 := hr_21 (by omega); rw [h9, klL_0] at h8; omega) ?_
                  refine lv_topl (fun y_23 ey_23 => ?_)
                  refine lv_goto (tgt := 168) hx hb dX9_share_160 (by decide) ?_
                  exact W.lret (v := y_23) hx hb hr (fun t ht _ => ⟨_, rfl, trivial, ht⟩) (fun _ h => absurd h List.not_mem_nil) dX9_share_168
              · refine lv_if_ne (tgt := 74) hx hb dX9_share_67 (by decide) (fun h9 => absurd h9 (by decide)) (fun _ => ?_)
                refine lv_ldc2 hx hb hown (hts (.constantLong RX9 164 (-100003)) (by decide +kernel)) dX9_share_70 ?_
                exact W.lret (v := (-100003)) hx hb hr (fun t ht _ => ⟨_, rfl, trivial, ht⟩) (fun _ h => absurd h List.not_mem_nil) dX9_share_73
            · refine lv_if_eq (tgt := 70) hx hb dX9_share_58 (by decide) (fun _ => ?_) (fun h9 => absurd h9 (by decide))
              refine lv_ldc2 hx hb hown (hts (.constantLong RX9 164 (-100003)) (by decide +kernel)) dX9_share_70 ?_
              exact W.lret (v := (-100003)) hx hb hr (fun t ht _ => ⟨_, rfl, trivial, ht⟩) (fun _ h => absurd h List.not_mem_nil) dX9_share_73
        · simp only [Int32.toInt_toInt64, klL_0, klL_1] at q_37
          refine lv_if_ne (tgt := 47) hx hb dX9_share_40 (by decide) (fun h9 => absurd h9 (by decide)) (fun _ => ?_)
          refine lv_ldc2 hx hb hown (hts (.constantLong RX9 162 (-100002)) (by decide +kernel)) dX9_share_43 ?_
          exact W.lret (v := (-100002)) hx hb hr (fun t ht _ => ⟨_, rfl, trivial, ht⟩) (fun _ h => absurd h List.not_mem_nil) dX9_share_46
      · simp only [Int32.toInt_toInt64, klL_0, klL_39] at q_26
        refine lv_if_eq (tgt := 43) hx hb dX9_share_29 (by decide) (fun _ => ?_) (fun h9 => absurd h9 (by decide))
        refine lv_ldc2 hx hb hown (hts (.constantLong RX9 162 (-100002)) (by decide +kernel)) dX9_share_43 ?_
        exact W.lret (v := (-100002)) hx hb hr (fun t ht _ => ⟨_, rfl, trivial, ht⟩) (fun _ h => absurd h List.not_mem_nil) dX9_share_46
    · refine lv_if_ne (tgt := 20) hx hb dX9_share_13 (by decide) (fun h9 => absurd h9 (by decide)) (fun _ => ?_)
      refine lv_ldc2 hx hb hown (hts (.constantLong RX9 158 (-100001)) (by decide +kernel)) dX9_share_16 ?_
      exact W.lret (v := (-100001)) hx hb hr (fun t ht _ => ⟨_, rfl, trivial, ht⟩) (fun _ h => absurd h List.not_mem_nil) dX9_share_19
  · refine lv_if_eq (tgt := 16) hx hb dX9_share_5 (by decide) (fun _ => ?_) (fun h9 => absurd h9 (by decide))
    refine lv_ldc2 hx hb hown (hts (.constantLong RX9 158 (-100001)) (by decide +kernel)) dX9_share_16 ?_
    exact W.lret (v := (-100001)) hx hb hr (fun t ht _ => ⟨_, rfl, trivial, ht⟩) (fun _ h => absurd h List.not_mem_nil) dX9_share_19
