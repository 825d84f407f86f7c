def wk_X8_sieve : List Cond := .code yX8_sieve cX8_sieve 7 (some .int) :: (([.fieldLink RX8 12 "MeetingsAbove" "now" "LMeetingsAbove$Catalogue;", .constant RX8 107 (-100001), .fieldLink RX8 108 "MeetingsAbove$Thing" "gone" "Z", .constant RX8 116 (-100003)] : List Cond) ++ (wsX80 ++ (wsX60 ++ ((wsV RX8 103 RX1 yX1_find wk_X1_find) ++ ((va_wsS RX8 173 yX8_firstTogether wk_X8_firstTogether) ++ ((va_wsS RX8 177 yX8_lastTogether wk_X8_lastTogether) ++ ((wsV RX8 180 RX8 yX8_areApart wk_X8_areApart) ++ ((wsV RX8 184 RX8 yX8_areApartOnEachWay wk_X8_areApartOnEachWay) ++ ([])))))))))
theorem in_X8_sieve_X6 : ∀ w ∈ wsX60, w ∈ wk_X8_sieve := fun _ h => List.mem_cons_of_mem _ (List.mem_append_right _ (List.mem_append_right _ (List.mem_append_left _ h)))
theorem in_X8_sieve_X8 : ∀ w ∈ wsX80, w ∈ wk_X8_sieve := fun _ h => List.mem_cons_of_mem _ (List.mem_append_right _ (List.mem_append_left _ h))
theorem gw_X8_sieve : AG wk_X8_sieve := AG_ca (AG_l (by decide +kernel)) (AG_app ag_X8 (AG_app ag_X6 (AG_app (AG_V gw_X1_find) (AG_app (AG_S gw_X8_firstTogether) (AG_app (AG_S gw_X8_lastTogether) (AG_app (AG_V gw_X8_areApart) (AG_app (AG_V gw_X8_areApartOnEachWay) (AG_nil))))))))
theorem g_X8_sieve__X1_find_103 : GoodIn wk_X8_sieve (wsV RX8 103 RX1 yX1_find wk_X1_find) := goodIn_m (fun _ h => List.mem_cons_of_mem _ (List.mem_append_right _ (List.mem_append_right _ (List.mem_append_right _ (List.mem_append_left _ h))))) (AG_V gw_X1_find)
theorem g_X8_sieve__X8_firstTogether_173 : GoodIn wk_X8_sieve (va_wsS RX8 173 yX8_firstTogether wk_X8_firstTogether) := goodIn_m (fun _ h => List.mem_cons_of_mem _ (List.mem_append_right _ (List.mem_append_right _ (List.mem_append_right _ (List.mem_append_right _ (List.mem_append_left _ h)))))) (AG_S gw_X8_firstTogether)
theorem g_X8_sieve__X8_lastTogether_177 : GoodIn wk_X8_sieve (va_wsS RX8 177 yX8_lastTogether wk_X8_lastTogether) := goodIn_m (fun _ h => List.mem_cons_of_mem _ (List.mem_append_right _ (List.mem_append_right _ (List.mem_append_right _ (List.mem_append_right _ (List.mem_append_right _ (List.mem_append_left _ h))))))) (AG_S gw_X8_lastTogether)
theorem g_X8_sieve__X8_areApart_180 : GoodIn wk_X8_sieve (wsV RX8 180 RX8 yX8_areApart wk_X8_areApart) := goodIn_m (fun _ h => List.mem_cons_of_mem _ (List.mem_append_right _ (List.mem_append_right _ (List.mem_append_right _ (List.mem_append_right _ (List.mem_append_right _ (List.mem_append_right _ (List.mem_append_left _ h)))))))) (AG_V gw_X8_areApart)
theorem g_X8_sieve__X8_areApartOnEachWay_184 : GoodIn wk_X8_sieve (wsV RX8 184 RX8 yX8_areApartOnEachWay wk_X8_areApartOnEachWay) := goodIn_m (fun _ h => List.mem_cons_of_mem _ (List.mem_append_right _ (List.mem_append_right _ (List.mem_append_right _ (List.mem_append_right _ (List.mem_append_right _ (List.mem_append_right _ (List.mem_append_right _ (List.mem_append_left _ h))))))))) (AG_V gw_X8_areApartOnEachWay)
set_option maxHeartbeats 4000000 in
set_option maxRecDepth 100000 in
theorem c_X8_sieve (l : Launch) (dC : Nat → ClassId) (dI : Nat → Nat → Nat) (h0 : Nat) (n0 : Nat) (s0 : Nat) (s1 : Nat) (d0 : Nat) (o0 : Nat) (w0 : Nat) (e0 : Nat) (f0 : Nat) (t0 : Nat) (b0 : Nat) (dn : Int32) (nn : Int32) (la : Int32) (ne : Int32) (wi : Int32) (lm : Int32) (na : Nat) (cT : ClassId) (sz9 : Int32) (ga : Nat → Option Nat) (cI : ClassId) (L : List Nat) (f : Nat → va_E) (p1 : Int32) (p2 : Int32) (hC : catOK L f cI sz9 ga) : Met l yX8_sieve wk_X8_sieve ({ frames := 4, cells := 0, slots := 0, locals := 98 }) (va_Pc [.ref h0, .int p1, .int p2] (fun U => va_P (dC, dI) vwCl (([(h0, .inr (8, [.ref n0, .ref s0, .ref s1, .ref d0, .ref o0, .int dn, .int nn, .int la, .int ne, .int wi, .ref w0, .ref e0, .ref f0, .ref t0, .ref b0, .int lm])), (n0, .inr (1, [.ref na, .int sz9])), (na, .inl (cT, 16, .inr (.inr (.inr (.inr ga)))))] : va_W) ++ va_pl L f) U.heap ∧ va_K (dC, dI) vwCl [(cT, .object "MeetingsAbove$Thing"), (cI, .int)] U)) (vp_Si (fun r => True)) 0 0 (fun _ => False) := by
  refine Met.ofW (cc := cX8_sieve) (maxL := 7) (ret := (some .int)) (by decide) rfl ?_
  intro p e s m args below meth c s₁ B hml hv
  obtain ⟨rfl, hP, hK⟩ := hv
  have hx := B.exec
  have hb := B.bytes
  have hr := B.returns
  have hts := atoms_spec (ws := wk_X8_sieve) B.pre
  have hown : s.vm.findClass RX8 = some m.cls := findClass_of_methodNamed B.named
  have hlocks := B.notSynchronized
  have hP : va_P (dC, dI) vwCl (([(h0, .inr (8, [.ref n0, .ref s0, .ref s1, .ref d0, .ref o0, .int dn, .int nn, .int la, .int ne, .int wi, .ref w0, .ref e0, .ref f0, .ref t0, .ref b0, .int lm])), (n0, .inr (1, [.ref na, .int sz9])), (na, .inl (cT, 16, .inr (.inr (.inr (.inr ga)))))] : va_W) ++ va_pl L f) s.heap := hP
  have hl := lv_entry ([.ref h0, .int p1, .int p2]) (n := 7) (Nat.le_of_ble_eq_true rfl)
  rw [lg_entry_eq]
  generalize (lg_sl ([.ref h0, .int p1, .int p2]) ++ List.replicate (7 - (lg_sl ([.ref h0, .int p1, .int p2])).length) Slot.unset).toArray = ls at hl ⊢
  have hl : lv_has ls 7 [(0, .ref h0), (1, .int p1), (2, .int p2)] := hl
  have kl_m100003 : (-100003 : Int32).toInt = -100003 := by decide
  have kl_m100001 : (-100001 : Int32).toInt = -100001 := by decide
  have kl_0 : (0 : Int32).toInt = 0 := by decide
  have kl_1 : (1 : Int32).toInt = 1 := by decide
  have kl_2 : (2 : Int32).toInt = 2 := by decide
  have kl_3 : (3 : Int32).toInt = 3 := by decide
  obtain ⟨hC0, hC1, hC2⟩ := id hC
  refine lv_aload_n hx hb dX8_sieve_0 rfl (lv_at hl 0 rfl) ?_
  refine va_get (D := (dC, dI)) (ci := 8) (v := .ref n0) (C := RX8) (T := TX8) (N := 16) hx hb hts in_X8_sieve_X8 hown hK hP 0 rfl rfl 0 (by decide) (hts (.fieldLink RX8 12 "MeetingsAbove" "now" "LMeetingsAbove$Catalogue;") (by decide +kernel)) (fun _ h9 => h9) rfl dX8_sieve_1 ?_
  refine lv_iload_n hx hb dX8_sieve_4 rfl (lv_at hl 1 rfl) ?_
  have hPc := hP.sub (ws' := [(n0, .inr (1, [.ref na, .int sz9])), (na, .inl (cT, 16, .inr (.inr (.inr (.inr ga)))))]) [1, 2] rfl
  have hKc := hK.sub (tys' := [(cT, .object "MeetingsAbove$Thing")]) [0] rfl
  refine va_csq (W.runV (As := [.int p1]) (rest := []) ⟨hx, hb, hml, hown, hts⟩ (c_X1_find l dC dI n0 na cT sz9 ga p1) (cwV 1 hts g_X8_sieve__X1_find_103 rfl rfl rfl (by decide +kernel) ⟨Nat.le_of_ble_eq_true rfl, Nat.le_of_ble_eq_true rfl⟩) ⟨fun a U g mk q => by obtain ⟨q0, qP, qK⟩ := q; exact ⟨q0, qP, va_K.moved (u := U) (U := U.calling g mk a) (Vm.Alike.refl U.vm) qK⟩, va_recv hKc hPc (ci := 1) (q0 := 0) rfl rfl, fun U hU hW => ⟨rfl, by rw [hU]; exact hPc, va_K.moved hW.alike hKc⟩⟩ rfl rfl hl.1 rfl (lv_room (Nat.le_of_ble_eq_true rfl)) dX8_sieve_5 ⟨Nat.le_of_ble_eq_true rfl, Nat.le_of_ble_eq_true rfl⟩) (fun r_1 hr_1 => ?_)
  try dsimp only at hr_1
  rcases r_1 with _ | w_2
  · refine W.eq (g2 := F0 m 8 ls [.null]) rfl ?_
    refine lv_astore_nN (lv' := [(3, .null), (0, .ref h0), (1, .int p1), (2, .int p2)]) hx hb dX8_sieve_8 rfl hl (by decide) rfl (fun ls hl => ?_)
    refine lv_aload_n hx hb dX8_sieve_9 rfl (lv_at hl 1 rfl) ?_
    refine va_get (D := (dC, dI)) (ci := 8) (v := .ref n0) (C := RX8) (T := TX8) (N := 16) hx hb hts in_X8_sieve_X8 hown hK hP 0 rfl rfl 0 (by decide) (hts (.fieldLink RX8 12 "MeetingsAbove" "now" "LMeetingsAbove$Catalogue;") (by decide +kernel)) (fun _ h9 => h9) rfl dX8_sieve_10 ?_
    refine lv_iload_n hx hb dX8_sieve_13 rfl (lv_at hl 3 rfl) ?_
    have hPc := hP.sub (ws' := [(n0, .inr (1, [.ref na, .int sz9])), (na, .inl (cT, 16, .inr (.inr (.inr (.inr ga)))))]) [1, 2] rfl
    have hKc := hK.sub (tys' := [(cT, .object "MeetingsAbove$Thing")]) [0] rfl
    refine va_csq (W.runV (As := [.int p2]) (rest := []) ⟨hx, hb, hml, hown, hts⟩ (c_X1_find l dC dI n0 na cT sz9 ga p2) (cwV 1 hts g_X8_sieve__X1_find_103 rfl rfl rfl (by decide +kernel) ⟨Nat.le_of_ble_eq_true rfl, Nat.le_of_ble_eq_true rfl⟩) ⟨fun a U g mk q => by obtain ⟨q0, qP, qK⟩ := q; exact ⟨q0, qP, va_K.moved (u := U) (U := U.calling g mk a) (Vm.Alike.refl U.vm) qK⟩, va_recv hKc hPc (ci := 1) (q0 := 0) rfl rfl, fun U hU hW => ⟨rfl, by rw [hU]; exact hPc, va_K.moved hW.alike hKc⟩⟩ rfl rfl hl.1 rfl (lv_room (Nat.le_of_ble_eq_true rfl)) dX8_sieve_14 ⟨Nat.le_of_ble_eq_true rfl, Nat.le_of_ble_eq_true rfl⟩) (fun r_3 hr_3 => ?_)
    try dsimp only at hr_3
    rcases r_3 with _ | w_4
    · refine W.eq (g2 := F0 m 17 ls [.null]) rfl ?_
      refine lv_astoreN (lv' := [(4, .null), (3, .null), (0, .ref h0), (1, .int p1), (2, .int p2)]) hx hb dX8_sieve_17 hl (by decide) rfl (fun ls hl => ?_)
      refine lv_aload_nN hx hb dX8_sieve_19 rfl (lv_at hl 1 rfl) ?_
      refine lv_ifnullN (tgt := 28) hx hb dX8_sieve_20 (by decide) ?_
      refine lv_ldc hx hb hown (hts (.constant RX8 107 (-100001)) (by decide +kernel)) dX8_sieve_28 ?_
      exact W.iret (v := (-100001)) hx hb hr (fun t ht _ => ⟨_, rfl, trivial, ht⟩) (fun _ h => absurd h List.not_mem_nil) dX8_sieve_30
    · refine W.eq (g2 := F0 m 17 ls [.ref w_4]) rfl ?_
      obtain ⟨hi_w_4, hw_w_4⟩ := fd_some hr_3
      obtain ⟨x_w_4, fi_w_4, pl_w_4, db_w_4, go_w_4, g_w_4, hL_w_4, hX_w_4, hf_w_4, hg_w_4, ht_w_4, hgo_w_4⟩ := th_of hC (by rw [tc_I (by omega)]; omega) hw_w_4
      obtain ⟨q1_w_4, q2_w_4, q3_w_4, q4_w_4⟩ := id ht_w_4
      refine lv_astore (lv' := [(4, .ref w_4), (3, .null), (0, .ref h0), (1, .int p1), (2, .int p2)]) hx hb dX8_sieve_17 hl (by decide) rfl (fun ls hl => ?_)
      refine lv_aload_nN hx hb dX8_sieve_19 rfl (lv_at hl 1 rfl) ?_
      refine lv_ifnullN (tgt := 28) hx hb dX8_sieve_20 (by decide) ?_
      refine lv_ldc hx hb hown (hts (.constant RX8 107 (-100001)) (by decide +kernel)) dX8_sieve_28 ?_
      exact W.iret (v := (-100001)) hx hb hr (fun t ht _ => ⟨_, rfl, trivial, ht⟩) (fun _ h => absurd h List.not_mem_nil) dX8_sieve_30
  · refine W.eq (g2 := F0 m 8 ls [.ref w_2]) rfl ?_
    obtain ⟨hi_w_2, hw_w_2⟩ := fd_some hr_1
    obtain ⟨x_w_2, fi_w_2, pl_w_2, db_w_2, go_w_2, g_w_2, hL_w_2, hX_w_2, hf_w_2, hg_w_2, ht_w_2, hgo_w_2⟩ := th_of hC (by rw [tc_I (by omega)]; omega) hw_w_2
    obtain ⟨q1_w_2, q2_w_2, q3_w_2, q4_w_2⟩ := id ht_w_2
    refine lv_astore_n (lv' := [(3, .ref w_2), (0, .ref h0), (1, .int p1), (2, .int p2)]) hx hb dX8_sieve_8 rfl hl (by decide) rfl (fun ls hl => ?_)
    refine lv_aload_n hx hb dX8_sieve_9 rfl (lv_at hl 1 rfl) ?_
    refine va_get (D := (dC, dI)) (ci := 8) (v := .ref n0) (C := RX8) (T := TX8) (N := 16) hx hb hts in_X8_sieve_X8 hown hK hP 0 rfl rfl 0 (by decide) (hts (.fieldLink RX8 12 "MeetingsAbove" "now" "LMeetingsAbove$Catalogue;") (by decide +kernel)) (fun _ h9 => h9) rfl dX8_sieve_10 ?_
    refine lv_iload_n hx hb dX8_sieve_13 rfl (lv_at hl 3 rfl) ?_
    have hPc := hP.sub (ws' := [(n0, .inr (1, [.ref na, .int sz9])), (na, .inl (cT, 16, .inr (.inr (.inr (.inr ga)))))]) [1, 2] rfl
    have hKc := hK.sub (tys' := [(cT, .object "MeetingsAbove$Thing")]) [0] rfl
    refine va_csq (W.runV (As := [.int p2]) (rest := []) ⟨hx, hb, hml, hown, hts⟩ (c_X1_find l dC dI n0 na cT sz9 ga p2) (cwV 1 hts g_X8_sieve__X1_find_103 rfl rfl rfl (by decide +kernel) ⟨Nat.le_of_ble_eq_true rfl, Nat.le_of_ble_eq_true rfl⟩) ⟨fun a U g mk q => by obtain ⟨q0, qP, qK⟩ := q; exact ⟨q0, qP, va_K.moved (u := U) (U := U.calling g mk a) (Vm.Alike.refl U.vm) qK⟩, va_recv hKc hPc (ci := 1) (q0 := 0) rfl rfl, fun U hU hW => ⟨rfl, by rw [hU]; exact hPc, va_K.moved hW.alike hKc⟩⟩ rfl rfl hl.1 rfl (lv_room (Nat.le_of_ble_eq_true rfl)) dX8_sieve_14 ⟨Nat.le_of_ble_eq_true rfl, Nat.le_of_ble_eq_true rfl⟩) (fun r_7 hr_7 => ?_)
    try dsimp only at hr_7
    rcases r_7 with _ | w_8
    · refine W.eq (g2 := F0 m 17 ls [.null]) rfl ?_
      refine lv_astoreN (lv' := [(4, .null), (3, .ref w_2), (0, .ref h0), (1, .int p1), (2, .int p2)]) hx hb dX8_sieve_17 hl (by decide) rfl (fun ls hl => ?_)
      refine lv_aload_n hx hb dX8_sieve_19 rfl (lv_at hl 1 rfl) ?_
      refine lv_ifnull hx hb dX8_sieve_20 ?_
      refine lv_aloadN hx hb dX8_sieve_23 (lv_at hl 0 rfl) ?_
      refine lv_ifnonnullN hx hb dX8_sieve_25 ?_
      refine lv_ldc hx hb hown (hts (.constant RX8 107 (-100001)) (by decide +kernel)) dX8_sieve_28 ?_
      exact W.iret (v := (-100001)) hx hb hr (fun t ht _ => ⟨_, rfl, trivial, ht⟩) (fun _ h => absurd h List.not_mem_nil) dX8_sieve_30
    · refine W.eq (g2 := F0 m 17 ls [.ref w_8]) rfl ?_
      obtain ⟨hi_w_8, hw_w_8⟩ := fd_some hr_7
      obtain ⟨x_w_8, fi_w_8, pl_w_8, db_w_8, go_w_8, g_w_8, hL_w_8, hX_w_8, hf_w_8, hg_w_8, ht_w_8, hgo_w_8⟩ := th_of hC (by rw [tc_I (by omega)]; omega) hw_w_8
      obtain ⟨q1_w_8, q2_w_8, q3_w_8, q4_w_8⟩ := id ht_w_8
      refine lv_astore (lv' := [(4, .ref w_8), (3, .ref w_2), (0, .ref h0), (1, .int p1), (2, .int p2)]) hx hb dX8_sieve_17 hl (by decide) rfl (fun ls hl => ?_)
      refine lv_aload_n hx hb dX8_sieve_19 rfl (lv_at hl 1 rfl) ?_
      refine lv_ifnull hx hb dX8_sieve_20 ?_
      refine lv_aload hx hb dX8_sieve_23 (lv_at hl 0 rfl) ?_
      refine lv_ifnonnull (tgt := 31) hx hb dX8_sieve_25 (by decide) ?_
      refine lv_iload_n hx hb dX8_sieve_31 rfl (lv_at hl 3 rfl) ?_
      refine lv_iload_n hx hb dX8_sieve_32 rfl (lv_at hl 4 rfl) ?_
      refine lv_icmp_ne (tgt := 39) hx hb dX8_sieve_33 (by decide) (fun c_33 => ?_) (fun c_33 => ?_)
      · have t_33 := mt (fa_eq _ _).mpr c_33
        refine lv_aload_n hx hb dX8_sieve_39 rfl (lv_at hl 1 rfl) ?_
        refine lv_aload hx hb dX8_sieve_40 (lv_at hl 0 rfl) ?_
        have hPc : va_P (dC, dI) vwCl [(w_2, .inr (6, [.ref x_w_2, .int fi_w_2, .int pl_w_2, .int db_w_2, .int go_w_2])), (w_8, .inr (6, [.ref x_w_8, .int fi_w_8, .int pl_w_8, .int db_w_8, .int go_w_8]))] s.heap := P_cons (pl_at (X := [(h0, .inr (8, [.ref n0, .ref s0, .ref s1, .ref d0, .ref o0, .int dn, .int nn, .int la, .int ne, .int wi, .ref w0, .ref e0, .ref f0, .ref t0, .ref b0, .int lm])), (n0, .inr (1, [.ref na, .int sz9])), (na, .inl (cT, 16, .inr (.inr (.inr (.inr ga)))))]) hP hL_w_2 hf_w_2) (P_cons (pl_at (X := [(h0, .inr (8, [.ref n0, .ref s0, .ref s1, .ref d0, .ref o0, .int dn, .int nn, .int la, .int ne, .int wi, .ref w0, .ref e0, .ref f0, .ref t0, .ref b0, .int lm])), (n0, .inr (1, [.ref na, .int sz9])), (na, .inl (cT, 16, .inr (.inr (.inr (.inr ga)))))]) hP hL_w_8 hf_w_8) (P_nil))
        have hKc := hK.sub (tys' := []) [] rfl
        refine vp_callSi (W.runS (As := [.ref w_2, .ref w_8]) (rest := []) ⟨hx, hb, hml, hown, hts⟩ (c_X8_firstTogether l dC dI w_2 x_w_2 fi_w_2 pl_w_2 db_w_2 go_w_2 w_8 x_w_8 fi_w_8 pl_w_8 db_w_8 go_w_8) (va_cwS 2 hts g_X8_sieve__X8_firstTogether_173 rfl rfl rfl (by decide +kernel) ⟨Nat.le_of_ble_eq_true rfl, Nat.le_of_ble_eq_true rfl⟩) ⟨fun a U g mk q => by obtain ⟨q0, qP, qK⟩ := q; exact ⟨q0, qP, va_K.moved (u := U) (U := U.calling g mk a) (Vm.Alike.refl U.vm) qK⟩, fun U hU hW => ⟨rfl, by rw [hU]; exact hPc, va_K.moved hW.alike hKc⟩⟩ rfl rfl hl.1 rfl (lv_room (Nat.le_of_ble_eq_true rfl)) dX8_sieve_42 ⟨Nat.le_of_ble_eq_true rfl, Nat.le_of_ble_eq_true rfl⟩) (fun r_10 hr_10 => ?_)
        try dsimp only at hr_10
        refine lv_istore (lv' := [(5, .int r_10), (4, .ref w_8), (3, .ref w_2), (0, .ref h0), (1, .int p1), (2, .int p2)]) hx hb dX8_sieve_45 hl (by decide) rfl (fun ls hl => ?_)
        refine lv_aload_n hx hb dX8_sieve_47 rfl (lv_at hl 2 rfl) ?_
        refine lv_aload hx hb dX8_sieve_48 (lv_at hl 1 rfl) ?_
        have hPc : va_P (dC, dI) vwCl [(w_2, .inr (6, [.ref x_w_2, .int fi_w_2, .int pl_w_2, .int db_w_2, .int go_w_2])), (w_8, .inr (6, [.ref x_w_8, .int fi_w_8, .int pl_w_8, .int db_w_8, .int go_w_8]))] s.heap := P_cons (pl_at (X := [(h0, .inr (8, [.ref n0, .ref s0, .ref s1, .ref d0, .ref o0, .int dn, .int nn, .int la, .int ne, .int wi, .ref w0, .ref e0, .ref f0, .ref t0, .ref b0, .int lm])), (n0, .inr (1, [.ref na, .int sz9])), (na, .inl (cT, 16, .inr (.inr (.inr (.inr ga)))))]) hP hL_w_2 hf_w_2) (P_cons (pl_at (X := [(h0, .inr (8, [.ref n0, .ref s0, .ref s1, .ref d0, .ref o0, .int dn, .int nn, .int la, .int ne, .int wi, .ref w0, .ref e0, .ref f0, .ref t0, .ref b0, .int lm])), (n0, .inr (1, [.ref na, .int sz9])), (na, .inl (cT, 16, .inr (.inr (.inr (.inr ga)))))]) hP hL_w_8 hf_w_8) (P_nil))
        have hKc := hK.sub (tys' := []) [] rfl
        refine vp_callSi (W.runS (As := [.ref w_2, .ref w_8]) (rest := []) ⟨hx, hb, hml, hown, hts⟩ (c_X8_lastTogether l dC dI w_2 x_w_2 fi_w_2 pl_w_2 db_w_2 go_w_2 w_8 x_w_8 fi_w_8 pl_w_8 db_w_8 go_w_8 (by first | assumption | omega) (by first | assumption | omega)) (va_cwS 2 hts g_X8_sieve__X8_lastTogether_177 rfl rfl rfl (by decide +kernel) ⟨Nat.le_of_ble_eq_true rfl, Nat.le_of_ble_eq_true rfl⟩) ⟨fun a U g mk q => by obtain ⟨q0, qP, qK⟩ := q; exact ⟨q0, qP, va_K.moved (u := U) (U := U.calling g mk a) (Vm.Alike.refl U.vm) qK⟩, fun U hU hW => ⟨rfl, by rw [hU]; exact hPc, va_K.moved hW.alike hKc⟩⟩ rfl rfl hl.1 rfl (lv_room (Nat.le_of_ble_eq_true rfl)) dX8_sieve_50 ⟨Nat.le_of_ble_eq_true rfl, Nat.le_of_ble_eq_true rfl⟩) (fun r_11 hr_11 => ?_)
        try dsimp only at hr_11
        refine lv_istore (lv' := [(6, .int r_11), (5, .int r_10), (4, .ref w_8), (3, .ref w_2), (0, .ref h0), (1, .int p1), (2, .int p2)]) hx hb dX8_sieve_53 hl (by decide) rfl (fun ls hl => ?_)
        refine lv_aload_n hx hb dX8_sieve_55 rfl (lv_at hl 3 rfl) ?_
        obtain ⟨k_12, hk_12⟩ := pl_ix (X := [(h0, .inr (8, [.ref n0, .ref s0, .ref s1, .ref d0, .ref o0, .int dn, .int nn, .int la, .int ne, .int wi, .ref w0, .ref e0, .ref f0, .ref t0, .ref b0, .int lm])), (n0, .inr (1, [.ref na, .int sz9])), (na, .inl (cT, 16, .inr (.inr (.inr (.inr ga)))))]) hL_w_2 hf_w_2
        refine va_get (D := (dC, dI)) (ci := 6) (v := .int go_w_2) (C := RX6) (T := TX6) (N := 5) hx hb hts in_X8_sieve_X6 hown hK hP k_12 hk_12 rfl 4 (by decide) (hts (.fieldLink RX8 108 "MeetingsAbove$Thing" "gone" "Z") (by decide +kernel)) (fun _ h9 => h9) rfl dX8_sieve_56 ?_
        refine lv_if_ne (tgt := 77) hx hb dX8_sieve_59 (by decide) (fun c_59 => ?_) (fun c_59 => ?_)
        · have t_59 := mt (fa_eq _ _).mpr c_59
          refine lv_iconst (v := 0) hx hb dX8_sieve_77 (by decide) ?_
          exact W.iret (v := 0) hx hb hr (fun t ht _ => ⟨_, rfl, trivial, ht⟩) (fun _ h => absurd h List.not_mem_nil) dX8_sieve_78
        · have t_59 := (fa_eq _ _).mp c_59
          refine lv_aload hx hb dX8_sieve_62 (lv_at hl 2 rfl) ?_
          obtain ⟨k_13, hk_13⟩ := pl_ix (X := [(h0, .inr (8, [.ref n0, .ref s0, .ref s1, .ref d0, .ref o0, .int dn, .int nn, .int la, .int ne, .int wi, .ref w0, .ref e0, .ref f0, .ref t0, .ref b0, .int lm])), (n0, .inr (1, [.ref na, .int sz9])), (na, .inl (cT, 16, .inr (.inr (.inr (.inr ga)))))]) hL_w_8 hf_w_8
          refine va_get (D := (dC, dI)) (ci := 6) (v := .int go_w_8) (C := RX6) (T := TX6) (N := 5) hx hb hts in_X8_sieve_X6 hown hK hP k_13 hk_13 rfl 4 (by decide) (hts (.fieldLink RX8 108 "MeetingsAbove$Thing" "gone" "Z") (by decide +kernel)) (fun _ h9 => h9) rfl dX8_sieve_64 ?_
          refine lv_if_ne (tgt := 77) hx hb dX8_sieve_67 (by decide) (fun c_67 => ?_) (fun c_67 => ?_)
          · have t_67 := mt (fa_eq _ _).mpr c_67
            refine lv_iconst (v := 0) hx hb dX8_sieve_77 (by decide) ?_
            exact W.iret (v := 0) hx hb hr (fun t ht _ => ⟨_, rfl, trivial, ht⟩) (fun _ h => absurd h List.not_mem_nil) dX8_sieve_78
          · have t_67 := (fa_eq _ _).mp c_67
            refine lv_iload hx hb dX8_sieve_70 (lv_at hl 1 rfl) ?_
            refine lv_iload hx hb dX8_sieve_72 (lv_at hl 0 rfl) ?_
            refine lv_icmp_le (tgt := 79) hx hb dX8_sieve_74 (by decide) (fun c_74 => ?_) (fun c_74 => ?_)
            · have t_74 := (fa_le _ _).mp c_74
              refine lv_aload_n hx hb dX8_sieve_79 rfl (lv_at hl 4 rfl) ?_
              refine lv_aload_n hx hb dX8_sieve_80 rfl (lv_at hl 3 rfl) ?_
              refine lv_aload hx hb dX8_sieve_81 (lv_at hl 2 rfl) ?_
              refine lv_iload hx hb dX8_sieve_83 (lv_at hl 1 rfl) ?_
              refine lv_iload hx hb dX8_sieve_85 (lv_at hl 0 rfl) ?_
              have hPc : va_P (dC, dI) vwCl [(h0, .inr (8, [.ref n0, .ref s0, .ref s1, .ref d0, .ref o0, .int dn, .int nn, .int la, .int ne, .int wi, .ref w0, .ref e0, .ref f0, .ref t0, .ref b0, .int lm])), (w_2, .inr (6, [.ref x_w_2, .int fi_w_2, .int pl_w_2, .int db_w_2, .int go_w_2])), (x_w_2, .inl (cI, 36, .inl g_w_2)), (w_8, .inr (6, [.ref x_w_8, .int fi_w_8, .int pl_w_8, .int db_w_8, .int go_w_8])), (x_w_8, .inl (cI, 36, .inl g_w_8))] s.heap := P_cons (hP.sub (ws' := [(h0, .inr (8, [.ref n0, .ref s0, .ref s1, .ref d0, .ref o0, .int dn, .int nn, .int la, .int ne, .int wi, .ref w0, .ref e0, .ref f0, .ref t0, .ref b0, .int lm]))]) [0] rfl) (P_cons (pl_at (X := [(h0, .inr (8, [.ref n0, .ref s0, .ref s1, .ref d0, .ref o0, .int dn, .int nn, .int la, .int ne, .int wi, .ref w0, .ref e0, .ref f0, .ref t0, .ref b0, .int lm])), (n0, .inr (1, [.ref na, .int sz9])), (na, .inl (cT, 16, .inr (.inr (.inr (.inr ga)))))]) hP hL_w_2 hf_w_2) (P_cons (pl_at (X := [(h0, .inr (8, [.ref n0, .ref s0, .ref s1, .ref d0, .ref o0, .int dn, .int nn, .int la, .int ne, .int wi, .ref w0, .ref e0, .ref f0, .ref t0, .ref b0, .int lm])), (n0, .inr (1, [.ref na, .int sz9])), (na, .inl (cT, 16, .inr (.inr (.inr (.inr ga)))))]) hP hX_w_2 hg_w_2) (P_cons (pl_at (X := [(h0, .inr (8, [.ref n0, .ref s0, .ref s1, .ref d0, .ref o0, .int dn, .int nn, .int la, .int ne, .int wi, .ref w0, .ref e0, .ref f0, .ref t0, .ref b0, .int lm])), (n0, .inr (1, [.ref na, .int sz9])), (na, .inl (cT, 16, .inr (.inr (.inr (.inr ga)))))]) hP hL_w_8 hf_w_8) (P_cons (pl_at (X := [(h0, .inr (8, [.ref n0, .ref s0, .ref s1, .ref d0, .ref o0, .int dn, .int nn, .int la, .int ne, .int wi, .ref w0, .ref e0, .ref f0, .ref t0, .ref b0, .int lm])), (n0, .inr (1, [.ref na, .int sz9])), (na, .inl (cT, 16, .inr (.inr (.inr (.inr ga)))))]) hP hX_w_8 hg_w_8) (P_nil)))))
              have hKc := hK.sub (tys' := [(cI, .int)]) [1] rfl
              refine vp_callSi (W.runV (As := [.ref w_2, .ref w_8, .int r_10, .int r_11]) (rest := []) ⟨hx, hb, hml, hown, hts⟩ (c_X8_areApart l dC dI h0 n0 s0 s1 d0 o0 w0 e0 f0 t0 b0 dn nn la ne wi lm w_2 x_w_2 fi_w_2 pl_w_2 db_w_2 go_w_2 g_w_2 w_8 x_w_8 fi_w_8 pl_w_8 db_w_8 go_w_8 g_w_8 cI r_10 r_11 (by first | assumption | omega) (by first | assumption | omega) (by first | omega | assumption) (by first | omega | assumption) (by first | omega | assumption) (by first | omega | assumption) (by first | omega | assumption)) (cwV 4 hts g_X8_sieve__X8_areApart_180 rfl rfl rfl (by decide +kernel) ⟨Nat.le_of_ble_eq_true rfl, Nat.le_of_ble_eq_true rfl⟩) ⟨fun a U g mk q => by obtain ⟨q0, qP, qK⟩ := q; exact ⟨q0, qP, va_K.moved (u := U) (U := U.calling g mk a) (Vm.Alike.refl U.vm) qK⟩, va_recv hKc hPc (ci := 8) (q0 := 0) rfl rfl, fun U hU hW => ⟨rfl, by rw [hU]; exact hPc, va_K.moved hW.alike hKc⟩⟩ rfl rfl hl.1 rfl (lv_room (Nat.le_of_ble_eq_true rfl)) dX8_sieve_87 ⟨Nat.le_of_ble_eq_true rfl, Nat.le_of_ble_eq_true rfl⟩) (fun r_14 hr_14 => ?_)
              try dsimp only at hr_14
              refine lv_if_eq (tgt := 95) hx hb dX8_sieve_90 (by decide) (fun c_90 => ?_) (fun c_90 => ?_)
              · have t_90 := (fa_eq _ _).mp c_90
                refine lv_aload_n hx hb dX8_sieve_95 rfl (lv_at hl 4 rfl) ?_
                refine lv_aload_n hx hb dX8_sieve_96 rfl (lv_at hl 3 rfl) ?_
                refine lv_aload hx hb dX8_sieve_97 (lv_at hl 2 rfl) ?_
                refine lv_iload hx hb dX8_sieve_99 (lv_at hl 1 rfl) ?_
                refine lv_iload hx hb dX8_sieve_101 (lv_at hl 0 rfl) ?_
                have hPc : va_P (dC, dI) vwCl [(h0, .inr (8, [.ref n0, .ref s0, .ref s1, .ref d0, .ref o0, .int dn, .int nn, .int la, .int ne, .int wi, .ref w0, .ref e0, .ref f0, .ref t0, .ref b0, .int lm])), (w_2, .inr (6, [.ref x_w_2, .int fi_w_2, .int pl_w_2, .int db_w_2, .int go_w_2])), (x_w_2, .inl (cI, 36, .inl g_w_2)), (w_8, .inr (6, [.ref x_w_8, .int fi_w_8, .int pl_w_8, .int db_w_8, .int go_w_8])), (x_w_8, .inl (cI, 36, .inl g_w_8))] s.heap := P_cons (hP.sub (ws' := [(h0, .inr (8, [.ref n0, .ref s0, .ref s1, .ref d0, .ref o0, .int dn, .int nn, .int la, .int ne, .int wi, .ref w0, .ref e0, .ref f0, .ref t0, .ref b0, .int lm]))]) [0] rfl) (P_cons (pl_at (X := [(h0, .inr (8, [.ref n0, .ref s0, .ref s1, .ref d0, .ref o0, .int dn, .int nn, .int la, .int ne, .int wi, .ref w0, .ref e0, .ref f0, .ref t0, .ref b0, .int lm])), (n0, .inr (1, [.ref na, .int sz9])), (na, .inl (cT, 16, .inr (.inr (.inr (.inr ga)))))]) hP hL_w_2 hf_w_2) (P_cons (pl_at (X := [(h0, .inr (8, [.ref n0, .ref s0, .ref s1, .ref d0, .ref o0, .int dn, .int nn, .int la, .int ne, .int wi, .ref w0, .ref e0, .ref f0, .ref t0, .ref b0, .int lm])), (n0, .inr (1, [.ref na, .int sz9])), (na, .inl (cT, 16, .inr (.inr (.inr (.inr ga)))))]) hP hX_w_2 hg_w_2) (P_cons (pl_at (X := [(h0, .inr (8, [.ref n0, .ref s0, .ref s1, .ref d0, .ref o0, .int dn, .int nn, .int la, .int ne, .int wi, .ref w0, .ref e0, .ref f0, .ref t0, .ref b0, .int lm])), (n0, .inr (1, [.ref na, .int sz9])), (na, .inl (cT, 16, .inr (.inr (.inr (.inr ga)))))]) hP hL_w_8 hf_w_8) (P_cons (pl_at (X := [(h0, .inr (8, [.ref n0, .ref s0, .ref s1, .ref d0, .ref o0, .int dn, .int nn, .int la, .int ne, .int wi, .ref w0, .ref e0, .ref f0, .ref t0, .ref b0, .int lm])), (n0, .inr (1, [.ref na, .int sz9])), (na, .inl (cT, 16, .inr (.inr (.inr (.inr ga)))))]) hP hX_w_8 hg_w_8) (P_nil)))))
                have hKc := hK.sub (tys' := [(cI, .int)]) [1] rfl
                refine vp_callSi (W.runV (As := [.ref w_2, .ref w_8, .int r_10, .int r_11]) (rest := []) ⟨hx, hb, hml, hown, hts⟩ (c_X8_areApartOnEachWay l dC dI h0 n0 s0 s1 d0 o0 w0 e0 f0 t0 b0 dn nn la ne wi lm w_2 x_w_2 fi_w_2 pl_w_2 db_w_2 go_w_2 g_w_2 w_8 x_w_8 fi_w_8 pl_w_8 db_w_8 go_w_8 g_w_8 cI r_10 r_11 (by first | assumption | omega) (by first | assumption | omega) (by first | omega | assumption) (by first | omega | assumption) (by first | omega | assumption) (by first | omega | assumption) (by first | omega | assumption)) (cwV 4 hts g_X8_sieve__X8_areApartOnEachWay_184 rfl rfl rfl (by decide +kernel) ⟨Nat.le_of_ble_eq_true rfl, Nat.le_of_ble_eq_true rfl⟩) ⟨fun a U g mk q => by obtain ⟨q0, qP, qK⟩ := q; exact ⟨q0, qP, va_K.moved (u := U) (U := U.calling g mk a) (Vm.Alike.refl U.vm) qK⟩, va_recv hKc hPc (ci := 8) (q0 := 0) rfl rfl, fun U hU hW => ⟨rfl, by rw [hU]; exact hPc, va_K.moved hW.alike hKc⟩⟩ rfl rfl hl.1 rfl (lv_room (Nat.le_of_ble_eq_true rfl)) dX8_sieve_103 ⟨Nat.le_of_ble_eq_true rfl, Nat.le_of_ble_eq_true rfl⟩) (fun r_15 hr_15 => ?_)
                try dsimp only at hr_15
                refine lv_if_eq (tgt := 113) hx hb dX8_sieve_106 (by decide) (fun c_106 => ?_) (fun c_106 => ?_)
                · have t_106 := (fa_eq _ _).mp c_106
                  refine lv_iconst (v := 3) hx hb dX8_sieve_113 (by decide) ?_
                  exact W.iret (v := 3) hx hb hr (fun t ht _ => ⟨_, rfl, trivial, ht⟩) (fun _ h => absurd h List.not_mem_nil) dX8_sieve_114
                · have t_106 := mt (fa_eq _ _).mpr c_106
                  refine lv_iconst (v := 2) hx hb dX8_sieve_109 (by decide) ?_
                  refine lv_goto (tgt := 114) hx hb dX8_sieve_110 (by decide) ?_
                  exact W.iret (v := 2) hx hb hr (fun t ht _ => ⟨_, rfl, trivial, ht⟩) (fun _ h => absurd h List.not_mem_nil) dX8_sieve_114
              · have t_90 := mt (fa_eq _ _).mpr c_90
                refine lv_iconst (v := 1) hx hb dX8_sieve_93 (by decide) ?_
                exact W.iret (v := 1) hx hb hr (fun t ht _ => ⟨_, rfl, trivial, ht⟩) (fun _ h => absurd h List.not_mem_nil) dX8_sieve_94
            · have t_74 := mt (fa_le _ _).mpr c_74
              refine lv_iconst (v := 0) hx hb dX8_sieve_77 (by decide) ?_
              exact W.iret (v := 0) hx hb hr (fun t ht _ => ⟨_, rfl, trivial, ht⟩) (fun _ h => absurd h List.not_mem_nil) dX8_sieve_78
      · have t_33 := (fa_eq _ _).mp c_33
        refine lv_ldc hx hb hown (hts (.constant RX8 116 (-100003)) (by decide +kernel)) dX8_sieve_36 ?_
        exact W.iret (v := (-100003)) hx hb hr (fun t ht _ => ⟨_, rfl, trivial, ht⟩) (fun _ h => absurd h List.not_mem_nil) dX8_sieve_38
def wk_X8_noticed : List Cond := .code yX8_noticed cX8_noticed 4 (some .int) :: (([.constant RX8 107 (-100001), .constant RX8 87 (-100002), .fieldLink RX8 280 "MeetingsAbove$Notice" "lesser" "I", .fieldLink RX8 283 "MeetingsAbove$Notice" "greater" "I", .fieldLink RX8 305 "MeetingsAbove$Notice" "square" "I", .fieldLink RX8 307 "MeetingsAbove$Notice" "step" "I", .fieldLink RX8 296 "MeetingsAbove$Notice" "holds" "Z", .fieldLink RX8 299 "MeetingsAbove$Notice" "answerOfLesser" "I", .fieldLink RX8 302 "MeetingsAbove$Notice" "answerOfGreater" "I", .fieldLink RX8 289 "MeetingsAbove$Notice" "ahead" "I"] : List Cond) ++ (wsX50 ++ ((wsV RX8 292 RX8 yX8_findNotice wk_X8_findNotice) ++ ([]))))
theorem in_X8_noticed_X5 : ∀ w ∈ wsX50, w ∈ wk_X8_noticed := fun _ h => List.mem_cons_of_mem _ (List.mem_append_right _ (List.mem_append_left _ h))
theorem gw_X8_noticed : AG wk_X8_noticed := AG_ca (AG_l (by decide +kernel)) (AG_app ag_X5 (AG_app (AG_V gw_X8_findNotice) (AG_nil)))
theorem g_X8_noticed__X8_findNotice_292 : GoodIn wk_X8_noticed (wsV RX8 292 RX8 yX8_findNotice wk_X8_findNotice) := goodIn_m (fun _ h => List.mem_cons_of_mem _ (List.mem_append_right _ (List.mem_append_right _ (List.mem_append_left _ h)))) (AG_V gw_X8_findNotice)
set_option maxHeartbeats 4000000 in
set_option maxRecDepth 100000 in
theorem c_X8_noticed (l : Launch) (dC : Nat → ClassId) (dI : Nat → Nat → Nat) (h0 : Nat) (n0 : Nat) (s0 : Nat) (s1 : Nat) (d0 : Nat) (o0 : Nat) (w0 : Nat) (e0 : Nat) (f0 : Nat) (t0 : Nat) (b0 : Nat) (dn : Int32) (nn : Int32) (la : Int32) (ne : Int32) (wi : Int32) (lm : Int32) (cO : ClassId) (gn : Nat → Option Nat) (L : List Nat) (f : Nat → va_E) (p1 : Int32) (p2 : Int32) (hNO : notOK L f nn gn) : Met l yX8_noticed wk_X8_noticed ({ frames := 1, cells := 0, slots := 0, locals := 21 }) (va_Pc [.ref h0, .int p1, .int p2] (fun U => va_P (dC, dI) vwCl (([(h0, .inr (8, [.ref n0, .ref s0, .ref s1, .ref d0, .ref o0, .int dn, .int nn, .int la, .int ne, .int wi, .ref w0, .ref e0, .ref f0, .ref t0, .ref b0, .int lm])), (o0, .inl (cO, 40, .inr (.inr (.inr (.inr gn)))))] : va_W) ++ va_pl L f) U.heap ∧ va_K (dC, dI) vwCl [(cO, .object "MeetingsAbove$Notice")] U)) (vp_Si (fun r => True)) 0 0 (fun _ => False) := by
  refine Met.ofW (cc := cX8_noticed) (maxL := 4) (ret := (some .int)) (by decide) rfl ?_
  intro p e s m args below meth c s₁ B hml hv
  obtain ⟨rfl, hP, hK⟩ := hv
  have hx := B.exec
  have hb := B.bytes
  have hr := B.returns
  have hts := atoms_spec (ws := wk_X8_noticed) B.pre
  have hown : s.vm.findClass RX8 = some m.cls := findClass_of_methodNamed B.named
  have hlocks := B.notSynchronized
  have hP : va_P (dC, dI) vwCl (([(h0, .inr (8, [.ref n0, .ref s0, .ref s1, .ref d0, .ref o0, .int dn, .int nn, .int la, .int ne, .int wi, .ref w0, .ref e0, .ref f0, .ref t0, .ref b0, .int lm])), (o0, .inl (cO, 40, .inr (.inr (.inr (.inr gn)))))] : va_W) ++ va_pl L f) s.heap := hP
  have hl := lv_entry ([.ref h0, .int p1, .int p2]) (n := 4) (Nat.le_of_ble_eq_true rfl)
  rw [lg_entry_eq]
  generalize (lg_sl ([.ref h0, .int p1, .int p2]) ++ List.replicate (4 - (lg_sl ([.ref h0, .int p1, .int p2])).length) Slot.unset).toArray = ls at hl ⊢
  have hl : lv_has ls 4 [(0, .ref h0), (1, .int p1), (2, .int p2)] := hl
  have kl_m100002 : (-100002 : Int32).toInt = -100002 := by decide
  have kl_m100001 : (-100001 : Int32).toInt = -100001 := by decide
  have kl_0 : (0 : Int32).toInt = 0 := by decide
  have kl_1 : (1 : Int32).toInt = 1 := by decide
  obtain ⟨hN0, hN1, hN2⟩ := id hNO
  refine lv_aload_n hx hb dX8_noticed_0 rfl (lv_at hl 0 rfl) ?_
  refine lv_iload_n hx hb dX8_noticed_1 rfl (lv_at hl 1 rfl) ?_
  have hPc := hP.sub (ws' := [(h0, .inr (8, [.ref n0, .ref s0, .ref s1, .ref d0, .ref o0, .int dn, .int nn, .int la, .int ne, .int wi, .ref w0, .ref e0, .ref f0, .ref t0, .ref b0, .int lm])), (o0, .inl (cO, 40, .inr (.inr (.inr (.inr gn)))))]) [0, 1] rfl
  have hKc := hK.sub (tys' := [(cO, .object "MeetingsAbove$Notice")]) [0] rfl
  refine va_csq (W.runV (As := [.int p1]) (rest := []) ⟨hx, hb, hml, hown, hts⟩ (c_X8_findNotice l dC dI h0 n0 s0 s1 d0 o0 w0 e0 f0 t0 b0 dn nn la ne wi lm cO gn p1) (cwV 1 hts g_X8_noticed__X8_findNotice_292 rfl rfl rfl (by decide +kernel) ⟨Nat.le_of_ble_eq_true rfl, Nat.le_of_ble_eq_true rfl⟩) ⟨fun a U g mk q => by obtain ⟨q0, qP, qK⟩ := q; exact ⟨q0, qP, va_K.moved (u := U) (U := U.calling g mk a) (Vm.Alike.refl U.vm) qK⟩, va_recv hKc hPc (ci := 8) (q0 := 0) rfl rfl, fun U hU hW => ⟨rfl, by rw [hU]; exact hPc, va_K.moved hW.alike hKc⟩⟩ rfl rfl hl.1 rfl (lv_room (Nat.le_of_ble_eq_true rfl)) dX8_noticed_2 ⟨Nat.le_of_ble_eq_true rfl, Nat.le_of_ble_eq_true rfl⟩) (fun r_1 hr_1 => ?_)
  try dsimp only at hr_1
  rcases r_1 with _ | w_2
  · refine W.eq (g2 := F0 m 5 ls [.null]) rfl ?_
    refine lv_astore_nN (lv' := [(3, .null), (0, .ref h0), (1, .int p1), (2, .int p2)]) hx hb dX8_noticed_5 rfl hl (by decide) rfl (fun ls hl => ?_)
    refine lv_aload_nN hx hb dX8_noticed_6 rfl (lv_at hl 0 rfl) ?_
    refine lv_ifnonnullN hx hb dX8_noticed_7 ?_
    refine lv_ldc hx hb hown (hts (.constant RX8 107 (-100001)) (by decide +kernel)) dX8_noticed_10 ?_
    exact W.iret (v := (-100001)) hx hb hr (fun t ht _ => ⟨_, rfl, trivial, ht⟩) (fun _ h => absurd h List.not_mem_nil) dX8_noticed_12
  · refine W.eq (g2 := F0 m 5 ls [.ref w_2]) rfl ?_
    obtain ⟨hi_w_2, hw_w_2⟩ := fd_some hr_1
    obtain ⟨v1_w_2, v2_w_2, v3_w_2, v4_w_2, v5_w_2, v6_w_2, v7_w_2, v8_w_2, hL_w_2, hf_w_2, hh_w_2⟩ := nt_of hNO (by rw [tc_I (by omega)]; omega) hw_w_2
    refine lv_astore_n (lv' := [(3, .ref w_2), (0, .ref h0), (1, .int p1), (2, .int p2)]) hx hb dX8_noticed_5 rfl hl (by decide) rfl (fun ls hl => ?_)
    refine lv_aload_n hx hb dX8_noticed_6 rfl (lv_at hl 0 rfl) ?_
    refine lv_ifnonnull (tgt := 13) hx hb dX8_noticed_7 (by decide) ?_
    refine lv_iload_n hx hb dX8_noticed_13 rfl (lv_at hl 3 rfl) ?_
    rcases sw_8 p2 with o_14 | rfl | rfl | rfl | rfl | rfl | rfl | rfl | rfl
    · refine lv_tableOut (tgt := 108) hx hb dX8_noticed_14 o_14 (by decide) ?_
      refine lv_ldc hx hb hown (hts (.constant RX8 87 (-100002)) (by decide +kernel)) dX8_noticed_108 ?_
      exact W.iret (v := (-100002)) hx hb hr (fun t ht _ => ⟨_, rfl, trivial, ht⟩) (fun _ h => absurd h List.not_mem_nil) dX8_noticed_110
    · refine lv_tableIn (tgt := 60) (off := 46) hx hb dX8_noticed_14 (by decide) (by decide) (by decide) (by decide) ?_
      refine lv_aload_n hx hb dX8_noticed_60 rfl (lv_at hl 0 rfl) ?_
      obtain ⟨k_3, hk_3⟩ := pl_ix (X := [(h0, .inr (8, [.ref n0, .ref s0, .ref s1, .ref d0, .ref o0, .int dn, .int nn, .int la, .int ne, .int wi, .ref w0, .ref e0, .ref f0, .ref t0, .ref b0, .int lm])), (o0, .inl (cO, 40, .inr (.inr (.inr (.inr gn)))))]) hL_w_2 hf_w_2
      refine va_get (D := (dC, dI)) (ci := 5) (v := .int v1_w_2) (C := RX5) (T := TX5) (N := 8) hx hb hts in_X8_noticed_X5 hown hK hP k_3 hk_3 rfl 0 (by decide) (hts (.fieldLink RX8 280 "MeetingsAbove$Notice" "lesser" "I") (by decide +kernel)) (fun _ h9 => h9) rfl dX8_noticed_61 ?_
      exact W.iret (v := v1_w_2) hx hb hr (fun t ht _ => ⟨_, rfl, trivial, ht⟩) (fun _ h => absurd h List.not_mem_nil) dX8_noticed_64
    · refine lv_tableIn (tgt := 65) (off := 51) hx hb dX8_noticed_14 (by decide) (by decide) (by decide) (by decide) ?_
      refine lv_aload_n hx hb dX8_noticed_65 rfl (lv_at hl 0 rfl) ?_
      obtain ⟨k_4, hk_4⟩ := pl_ix (X := [(h0, .inr (8, [.ref n0, .ref s0, .ref s1, .ref d0, .ref o0, .int dn, .int nn, .int la, .int ne, .int wi, .ref w0, .ref e0, .ref f0, .ref t0, .ref b0, .int lm])), (o0, .inl (cO, 40, .inr (.inr (.inr (.inr gn)))))]) hL_w_2 hf_w_2
      refine va_get (D := (dC, dI)) (ci := 5) (v := .int v2_w_2) (C := RX5) (T := TX5) (N := 8) hx hb hts in_X8_noticed_X5 hown hK hP k_4 hk_4 rfl 1 (by decide) (hts (.fieldLink RX8 283 "MeetingsAbove$Notice" "greater" "I") (by decide +kernel)) (fun _ h9 => h9) rfl dX8_noticed_66 ?_
      exact W.iret (v := v2_w_2) hx hb hr (fun t ht _ => ⟨_, rfl, trivial, ht⟩) (fun _ h => absurd h List.not_mem_nil) dX8_noticed_69
    · refine lv_tableIn (tgt := 70) (off := 56) hx hb dX8_noticed_14 (by decide) (by decide) (by decide) (by decide) ?_
      refine lv_aload_n hx hb dX8_noticed_70 rfl (lv_at hl 0 rfl) ?_
      obtain ⟨k_5, hk_5⟩ := pl_ix (X := [(h0, .inr (8, [.ref n0, .ref s0, .ref s1, .ref d0, .ref o0, .int dn, .int nn, .int la, .int ne, .int wi, .ref w0, .ref e0, .ref f0, .ref t0, .ref b0, .int lm])), (o0, .inl (cO, 40, .inr (.inr (.inr (.inr gn)))))]) hL_w_2 hf_w_2
      refine va_get (D := (dC, dI)) (ci := 5) (v := .int v3_w_2) (C := RX5) (T := TX5) (N := 8) hx hb hts in_X8_noticed_X5 hown hK hP k_5 hk_5 rfl 2 (by decide) (hts (.fieldLink RX8 305 "MeetingsAbove$Notice" "square" "I") (by decide +kernel)) (fun _ h9 => h9) rfl dX8_noticed_71 ?_
      exact W.iret (v := v3_w_2) hx hb hr (fun t ht _ => ⟨_, rfl, trivial, ht⟩) (fun _ h => absurd h List.not_mem_nil) dX8_noticed_74
    · refine lv_tableIn (tgt := 75) (off := 61) hx hb dX8_noticed_14 (by decide) (by decide) (by decide) (by decide) ?_
      refine lv_aload_n hx hb dX8_noticed_75 rfl (lv_at hl 0 rfl) ?_
      obtain ⟨k_6, hk_6⟩ := pl_ix (X := [(h0, .inr (8, [.ref n0, .ref s0, .ref s1, .ref d0, .ref o0, .int dn, .int nn, .int la, .int ne, .int wi, .ref w0, .ref e0, .ref f0, .ref t0, .ref b0, .int lm])), (o0, .inl (cO, 40, .inr (.inr (.inr (.inr gn)))))]) hL_w_2 hf_w_2
      refine va_get (D := (dC, dI)) (ci := 5) (v := .int v4_w_2) (C := RX5) (T := TX5) (N := 8) hx hb hts in_X8_noticed_X5 hown hK hP k_6 hk_6 rfl 3 (by decide) (hts (.fieldLink RX8 307 "MeetingsAbove$Notice" "step" "I") (by decide +kernel)) (fun _ h9 => h9) rfl dX8_noticed_76 ?_
      exact W.iret (v := v4_w_2) hx hb hr (fun t ht _ => ⟨_, rfl, trivial, ht⟩) (fun _ h => absurd h List.not_mem_nil) dX8_noticed_79
    · refine lv_tableIn (tgt := 80) (off := 66) hx hb dX8_noticed_14 (by decide) (by decide) (by decide) (by decide) ?_
      refine lv_aload_n hx hb dX8_noticed_80 rfl (lv_at hl 0 rfl) ?_
      obtain ⟨k_7, hk_7⟩ := pl_ix (X := [(h0, .inr (8, [.ref n0, .ref s0, .ref s1, .ref d0, .ref o0, .int dn, .int nn, .int la, .int ne, .int wi, .ref w0, .ref e0, .ref f0, .ref t0, .ref b0, .int lm])), (o0, .inl (cO, 40, .inr (.inr (.inr (.inr gn)))))]) hL_w_2 hf_w_2
      refine va_get (D := (dC, dI)) (ci := 5) (v := .int v8_w_2) (C := RX5) (T := TX5) (N := 8) hx hb hts in_X8_noticed_X5 hown hK hP k_7 hk_7 rfl 7 (by decide) (hts (.fieldLink RX8 296 "MeetingsAbove$Notice" "holds" "Z") (by decide +kernel)) (fun _ h9 => h9) rfl dX8_noticed_81 ?_
      refine lv_if_eq (tgt := 91) hx hb dX8_noticed_84 (by decide) (fun c_84 => ?_) (fun c_84 => ?_)
      · have t_84 := (fa_eq _ _).mp c_84
        refine lv_iconst (v := 0) hx hb dX8_noticed_91 (by decide) ?_
        exact W.iret (v := 0) hx hb hr (fun t ht _ => ⟨_, rfl, trivial, ht⟩) (fun _ h => absurd h List.not_mem_nil) dX8_noticed_92
      · have t_84 := mt (fa_eq _ _).mpr c_84
        refine lv_iconst (v := 1) hx hb dX8_noticed_87 (by decide) ?_
        refine lv_goto (tgt := 92) hx hb dX8_noticed_88 (by decide) ?_
        exact W.iret (v := 1) hx hb hr (fun t ht _ => ⟨_, rfl, trivial, ht⟩) (fun _ h => absurd h List.not_mem_nil) dX8_noticed_92
    · refine lv_tableIn (tgt := 93) (off := 79) hx hb dX8_noticed_14 (by decide) (by decide) (by decide) (by decide) ?_
      refine lv_aload_n hx hb dX8_noticed_93 rfl (lv_at hl 0 rfl) ?_
      obtain ⟨k_8, hk_8⟩ := pl_ix (X := [(h0, .inr (8, [.ref n0, .ref s0, .ref s1, .ref d0, .ref o0, .int dn, .int nn, .int la, .int ne, .int wi, .ref w0, .ref e0, .ref f0, .ref t0, .ref b0, .int lm])), (o0, .inl (cO, 40, .inr (.inr (.inr (.inr gn)))))]) hL_w_2 hf_w_2
      refine va_get (D := (dC, dI)) (ci := 5) (v := .int v6_w_2) (C := RX5) (T := TX5) (N := 8) hx hb hts in_X8_noticed_X5 hown hK hP k_8 hk_8 rfl 5 (by decide) (hts (.fieldLink RX8 299 "MeetingsAbove$Notice" "answerOfLesser" "I") (by decide +kernel)) (fun _ h9 => h9) rfl dX8_noticed_94 ?_
      exact W.iret (v := v6_w_2) hx hb hr (fun t ht _ => ⟨_, rfl, trivial, ht⟩) (fun _ h => absurd h List.not_mem_nil) dX8_noticed_97
    · refine lv_tableIn (tgt := 98) (off := 84) hx hb dX8_noticed_14 (by decide) (by decide) (by decide) (by decide) ?_
      refine lv_aload_n hx hb dX8_noticed_98 rfl (lv_at hl 0 rfl) ?_
      obtain ⟨k_9, hk_9⟩ := pl_ix (X := [(h0, .inr (8, [.ref n0, .ref s0, .ref s1, .ref d0, .ref o0, .int dn, .int nn, .int la, .int ne, .int wi, .ref w0, .ref e0, .ref f0, .ref t0, .ref b0, .int lm])), (o0, .inl (cO, 40, .inr (.inr (.inr (.inr gn)))))]) hL_w_2 hf_w_2
      refine va_get (D := (dC, dI)) (ci := 5) (v := .int v7_w_2) (C := RX5) (T := TX5) (N := 8) hx hb hts in_X8_noticed_X5 hown hK hP k_9 hk_9 rfl 6 (by decide) (hts (.fieldLink RX8 302 "MeetingsAbove$Notice" "answerOfGreater" "I") (by decide +kernel)) (fun _ h9 => h9) rfl dX8_noticed_99 ?_
      exact W.iret (v := v7_w_2) hx hb hr (fun t ht _ => ⟨_, rfl, trivial, ht⟩) (fun _ h => absurd h List.not_mem_nil) dX8_noticed_102
    · refine lv_tableIn (tgt := 103) (off := 89) hx hb dX8_noticed_14 (by decide) (by decide) (by decide) (by decide) ?_
      refine lv_aload_n hx hb dX8_noticed_103 rfl (lv_at hl 0 rfl) ?_
      obtain ⟨k_10, hk_10⟩ := pl_ix (X := [(h0, .inr (8, [.ref n0, .ref s0, .ref s1, .ref d0, .ref o0, .int dn, .int nn, .int la, .int ne, .int wi, .ref w0, .ref e0, .ref f0, .ref t0, .ref b0, .int lm])), (o0, .inl (cO, 40, .inr (.inr (.inr (.inr gn)))))]) hL_w_2 hf_w_2
      refine va_get (D := (dC, dI)) (ci := 5) (v := .int v5_w_2) (C := RX5) (T := TX5) (N := 8) hx hb hts in_X8_noticed_X5 hown hK hP k_10 hk_10 rfl 4 (by decide) (hts (.fieldLink RX8 289 "MeetingsAbove$Notice" "ahead" "I") (by decide +kernel)) (fun _ h9 => h9) rfl dX8_noticed_104 ?_
      exact W.iret (v := v5_w_2) hx hb hr (fun t ht _ => ⟨_, rfl, trivial, ht⟩) (fun _ h => absurd h List.not_mem_nil) dX8_noticed_107
def wk_X8_dotted : List Cond := .code yX8_dotted cX8_dotted 4 (some .int) :: (([.constant RX8 107 (-100001), .constant RX8 87 (-100002), .fieldLink RX8 12 "MeetingsAbove" "now" "LMeetingsAbove$Catalogue;"] : List Cond) ++ (wsX80 ++ ((wsV RX8 258 RX8 yX8_findDot wk_X8_findDot) ++ ((wsV RX8 262 RX1 yX1_countHolders wk_X1_countHolders) ++ ((wsV RX8 266 RX1 yX1_firstHolder wk_X1_firstHolder) ++ ([]))))))
theorem in_X8_dotted_X8 : ∀ w ∈ wsX80, w ∈ wk_X8_dotted := fun _ h => List.mem_cons_of_mem _ (List.mem_append_right _ (List.mem_append_left _ h))
theorem gw_X8_dotted : AG wk_X8_dotted := AG_ca (AG_l (by decide +kernel)) (AG_app ag_X8 (AG_app (AG_V gw_X8_findDot) (AG_app (AG_V gw_X1_countHolders) (AG_app (AG_V gw_X1_firstHolder) (AG_nil)))))
theorem g_X8_dotted__X8_findDot_258 : GoodIn wk_X8_dotted (wsV RX8 258 RX8 yX8_findDot wk_X8_findDot) := goodIn_m (fun _ h => List.mem_cons_of_mem _ (List.mem_append_right _ (List.mem_append_right _ (List.mem_append_left _ h)))) (AG_V gw_X8_findDot)
theorem g_X8_dotted__X1_countHolders_262 : GoodIn wk_X8_dotted (wsV RX8 262 RX1 yX1_countHolders wk_X1_countHolders) := goodIn_m (fun _ h => List.mem_cons_of_mem _ (List.mem_append_right _ (List.mem_append_right _ (List.mem_append_right _ (List.mem_append_left _ h))))) (AG_V gw_X1_countHolders)
theorem g_X8_dotted__X1_firstHolder_266 : GoodIn wk_X8_dotted (wsV RX8 266 RX1 yX1_firstHolder wk_X1_firstHolder) := goodIn_m (fun _ h => List.mem_cons_of_mem _ (List.mem_append_right _ (List.mem_append_right _ (List.mem_append_right _ (List.mem_append_right _ (List.mem_append_left _ h)))))) (AG_V gw_X1_firstHolder)
set_option maxHeartbeats 4000000 in
set_option maxRecDepth 100000 in
theorem c_X8_dotted (l : Launch) (dC : Nat → ClassId) (dI : Nat → Nat → Nat) (h0 : Nat) (n0 : Nat) (s0 : Nat) (s1 : Nat) (d0 : Nat) (o0 : Nat) (w0 : Nat) (e0 : Nat) (f0 : Nat) (t0 : Nat) (b0 : Nat) (dn : Int32) (nn : Int32) (la : Int32) (ne : Int32) (wi : Int32) (lm : Int32) (na : Nat) (cT : ClassId) (sz9 : Int32) (ga : Nat → Option Nat) (cI : ClassId) (L : List Nat) (f : Nat → va_E) (cD : ClassId) (gd : Nat → Option Nat) (p1 : Int32) (p2 : Int32) (hC : catOK L f cI sz9 ga) (hDO : dotOK L f dn gd) : Met l yX8_dotted wk_X8_dotted ({ frames := 5, cells := 0, slots := 0, locals := 108 }) (va_Pc [.ref h0, .int p1, .int p2] (fun U => va_P (dC, dI) vwCl (([(h0, .inr (8, [.ref n0, .ref s0, .ref s1, .ref d0, .ref o0, .int dn, .int nn, .int la, .int ne, .int wi, .ref w0, .ref e0, .ref f0, .ref t0, .ref b0, .int lm])), (n0, .inr (1, [.ref na, .int sz9])), (na, .inl (cT, 16, .inr (.inr (.inr (.inr ga))))), (d0, .inl (cD, 40, .inr (.inr (.inr (.inr gd)))))] : va_W) ++ va_pl L f) U.heap ∧ va_K (dC, dI) vwCl [(cT, .object "MeetingsAbove$Thing"), (cI, .int), (cD, .object "MeetingsAbove$Dot")] U)) (vp_Si (fun r => True)) 0 0 (fun _ => False) := by
  refine Met.ofW (cc := cX8_dotted) (maxL := 4) (ret := (some .int)) (by decide) rfl ?_
  intro p e s m args below meth c s₁ B hml hv
  obtain ⟨rfl, hP, hK⟩ := hv
  have hx := B.exec
  have hb := B.bytes
  have hr := B.returns
  have hts := atoms_spec (ws := wk_X8_dotted) B.pre
  have hown : s.vm.findClass RX8 = some m.cls := findClass_of_methodNamed B.named
  have hlocks := B.notSynchronized
  have hP : va_P (dC, dI) vwCl (([(h0, .inr (8, [.ref n0, .ref s0, .ref s1, .ref d0, .ref o0, .int dn, .int nn, .int la, .int ne, .int wi, .ref w0, .ref e0, .ref f0, .ref t0, .ref b0, .int lm])), (n0, .inr (1, [.ref na, .int sz9])), (na, .inl (cT, 16, .inr (.inr (.inr (.inr ga))))), (d0, .inl (cD, 40, .inr (.inr (.inr (.inr gd)))))] : va_W) ++ va_pl L f) s.heap := hP
  have hl := lv_entry ([.ref h0, .int p1, .int p2]) (n := 4) (Nat.le_of_ble_eq_true rfl)
  rw [lg_entry_eq]
  generalize (lg_sl ([.ref h0, .int p1, .int p2]) ++ List.replicate (4 - (lg_sl ([.ref h0, .int p1, .int p2])).length) Slot.unset).toArray = ls at hl ⊢
  have hl : lv_has ls 4 [(0, .ref h0), (1, .int p1), (2, .int p2)] := hl
  have kl_m100002 : (-100002 : Int32).toInt = -100002 := by decide
  have kl_m100001 : (-100001 : Int32).toInt = -100001 := by decide
  obtain ⟨hC0, hC1, hC2⟩ := id hC
  obtain ⟨hD0, hD1, hD2⟩ := id hDO
  refine lv_aload_n hx hb dX8_dotted_0 rfl (lv_at hl 0 rfl) ?_
  refine lv_iload_n hx hb dX8_dotted_1 rfl (lv_at hl 1 rfl) ?_
  have hPc := hP.sub (ws' := [(h0, .inr (8, [.ref n0, .ref s0, .ref s1, .ref d0, .ref o0, .int dn, .int nn, .int la, .int ne, .int wi, .ref w0, .ref e0, .ref f0, .ref t0, .ref b0, .int lm])), (d0, .inl (cD, 40, .inr (.inr (.inr (.inr gd)))))]) [0, 3] rfl
  have hKc := hK.sub (tys' := [(cD, .object "MeetingsAbove$Dot")]) [2] rfl
  refine va_csq (W.runV (As := [.int p1]) (rest := []) ⟨hx, hb, hml, hown, hts⟩ (c_X8_findDot l dC dI h0 n0 s0 s1 d0 o0 w0 e0 f0 t0 b0 dn nn la ne wi lm cD gd p1) (cwV 1 hts g_X8_dotted__X8_findDot_258 rfl rfl rfl (by decide +kernel) ⟨Nat.le_of_ble_eq_true rfl, Nat.le_of_ble_eq_true rfl⟩) ⟨fun a U g mk q => by obtain ⟨q0, qP, qK⟩ := q; exact ⟨q0, qP, va_K.moved (u := U) (U := U.calling g mk a) (Vm.Alike.refl U.vm) qK⟩, va_recv hKc hPc (ci := 8) (q0 := 0) rfl rfl, fun U hU hW => ⟨rfl, by rw [hU]; exact hPc, va_K.moved hW.alike hKc⟩⟩ rfl rfl hl.1 rfl (lv_room (Nat.le_of_ble_eq_true rfl)) dX8_dotted_2 ⟨Nat.le_of_ble_eq_true rfl, Nat.le_of_ble_eq_true rfl⟩) (fun r_1 hr_1 => ?_)
  try dsimp only at hr_1
  rcases r_1 with _ | w_2
  · refine W.eq (g2 := F0 m 5 ls [.null]) rfl ?_
    refine lv_astore_nN (lv' := [(3, .null), (0, .ref h0), (1, .int p1), (2, .int p2)]) hx hb dX8_dotted_5 rfl hl (by decide) rfl (fun ls hl => ?_)
    refine lv_aload_nN hx hb dX8_dotted_6 rfl (lv_at hl 0 rfl) ?_
    refine lv_ifnonnullN hx hb dX8_dotted_7 ?_
    refine lv_ldc hx hb hown (hts (.constant RX8 107 (-100001)) (by decide +kernel)) dX8_dotted_10 ?_
    exact W.iret (v := (-100001)) hx hb hr (fun t ht _ => ⟨_, rfl, trivial, ht⟩) (fun _ h => absurd h List.not_mem_nil) dX8_dotted_12
  · refine W.eq (g2 := F0 m 5 ls [.ref w_2]) rfl ?_
    obtain ⟨hi_w_2, hw_w_2⟩ := fd_some hr_1
    obtain ⟨s_w_2, x_w_2, y_w_2, z_w_2, hL_w_2, hf_w_2⟩ := dt_of hDO (by rw [tc_I (by omega)]; omega) hw_w_2
    refine lv_astore_n (lv' := [(3, .ref w_2), (0, .ref h0), (1, .int p1), (2, .int p2)]) hx hb dX8_dotted_5 rfl hl (by decide) rfl (fun ls hl => ?_)
    refine lv_aload_n hx hb dX8_dotted_6 rfl (lv_at hl 0 rfl) ?_
    refine lv_ifnonnull (tgt := 13) hx hb dX8_dotted_7 (by decide) ?_
    refine lv_iload_n hx hb dX8_dotted_13 rfl (lv_at hl 3 rfl) ?_
    rcases lk_01 p2 with ⟨n0_14, n1_14⟩ | rfl | rfl
    · refine lv_lookup (off := 44) (tgt := 58) hx hb dX8_dotted_14 (by decide) (lk_01_df n0_14 n1_14) (by decide) ?_
      refine lv_ldc hx hb hown (hts (.constant RX8 87 (-100002)) (by decide +kernel)) dX8_dotted_58 ?_
      exact W.iret (v := (-100002)) hx hb hr (fun t ht _ => ⟨_, rfl, trivial, ht⟩) (fun _ h => absurd h List.not_mem_nil) dX8_dotted_60
    · refine lv_lookup (off := 26) (tgt := 40) hx hb dX8_dotted_14 (by decide) (by decide) (by decide) ?_
      refine lv_aload_n hx hb dX8_dotted_40 rfl (lv_at hl 1 rfl) ?_
      refine va_get (D := (dC, dI)) (ci := 8) (v := .ref n0) (C := RX8) (T := TX8) (N := 16) hx hb hts in_X8_dotted_X8 hown hK hP 0 rfl rfl 0 (by decide) (hts (.fieldLink RX8 12 "MeetingsAbove" "now" "LMeetingsAbove$Catalogue;") (by decide +kernel)) (fun _ h9 => h9) rfl dX8_dotted_41 ?_
      refine lv_aload_n hx hb dX8_dotted_44 rfl (lv_at hl 0 rfl) ?_
      have hP : va_P (dC, dI) vwCl (([(h0, .inr (8, [.ref n0, .ref s0, .ref s1, .ref d0, .ref o0, .int dn, .int nn, .int la, .int ne, .int wi, .ref w0, .ref e0, .ref f0, .ref t0, .ref b0, .int lm])), (n0, .inr (1, [.ref na, .int sz9])), (na, .inl (cT, 16, .inr (.inr (.inr (.inr ga))))), (d0, .inl (cD, 40, .inr (.inr (.inr (.inr gd))))), (w_2, .inr (2, [.int s_w_2, .int x_w_2, .int y_w_2, .int z_w_2]))] : va_W) ++ va_pl L f) s.heap := P_open (X := [(h0, .inr (8, [.ref n0, .ref s0, .ref s1, .ref d0, .ref o0, .int dn, .int nn, .int la, .int ne, .int wi, .ref w0, .ref e0, .ref f0, .ref t0, .ref b0, .int lm])), (n0, .inr (1, [.ref na, .int sz9])), (na, .inl (cT, 16, .inr (.inr (.inr (.inr ga))))), (d0, .inl (cD, 40, .inr (.inr (.inr (.inr gd)))))]) hP hL_w_2 hf_w_2
      have hPc := hP.part (cx := [(n0, .inr (1, [.ref na, .int sz9])), (na, .inl (cT, 16, .inr (.inr (.inr (.inr ga))))), (w_2, .inr (2, [.int s_w_2, .int x_w_2, .int y_w_2, .int z_w_2]))]) [1, 2, 4] rfl
      have hKc := hK.sub (tys' := [(cT, .object "MeetingsAbove$Thing"), (cI, .int)]) [0, 1] rfl
      refine vp_callSi (W.runV (As := [.ref w_2]) (rest := []) ⟨hx, hb, hml, hown, hts⟩ (c_X1_countHolders l dC dI n0 na cT sz9 ga cI L f w_2 s_w_2 x_w_2 y_w_2 z_w_2 (by first | assumption | omega)) (cwV 1 hts g_X8_dotted__X1_countHolders_262 rfl rfl rfl (by decide +kernel) ⟨Nat.le_of_ble_eq_true rfl, Nat.le_of_ble_eq_true rfl⟩) ⟨fun a U g mk q => by obtain ⟨q0, qP, qK⟩ := q; exact ⟨q0, qP, va_K.moved (u := U) (U := U.calling g mk a) (Vm.Alike.refl U.vm) qK⟩, va_recv hKc hPc (ci := 1) (q0 := 0) rfl rfl, fun U hU hW => ⟨rfl, by rw [hU]; exact hPc, va_K.moved hW.alike hKc⟩⟩ rfl rfl hl.1 rfl (lv_room (Nat.le_of_ble_eq_true rfl)) dX8_dotted_45 ⟨Nat.le_of_ble_eq_true rfl, Nat.le_of_ble_eq_true rfl⟩) (fun r_3 hr_3 => ?_)
      try dsimp only at hr_3
      exact W.iret (v := r_3) hx hb hr (fun t ht _ => ⟨_, rfl, trivial, ht⟩) (fun _ h => absurd h List.not_mem_nil) dX8_dotted_48
    · refine lv_lookup (off := 35) (tgt := 49) hx hb dX8_dotted_14 (by decide) (by decide) (by decide) ?_
      refine lv_aload_n hx hb dX8_dotted_49 rfl (lv_at hl 1 rfl) ?_
      refine va_get (D := (dC, dI)) (ci := 8) (v := .ref n0) (C := RX8) (T := TX8) (N := 16) hx hb hts in_X8_dotted_X8 hown hK hP 0 rfl rfl 0 (by decide) (hts (.fieldLink RX8 12 "MeetingsAbove" "now" "LMeetingsAbove$Catalogue;") (by decide +kernel)) (fun _ h9 => h9) rfl dX8_dotted_50 ?_
      refine lv_aload_n hx hb dX8_dotted_53 rfl (lv_at hl 0 rfl) ?_
      have hP : va_P (dC, dI) vwCl (([(h0, .inr (8, [.ref n0, .ref s0, .ref s1, .ref d0, .ref o0, .int dn, .int nn, .int la, .int ne, .int wi, .ref w0, .ref e0, .ref f0, .ref t0, .ref b0, .int lm])), (n0, .inr (1, [.ref na, .int sz9])), (na, .inl (cT, 16, .inr (.inr (.inr (.inr ga))))), (d0, .inl (cD, 40, .inr (.inr (.inr (.inr gd))))), (w_2, .inr (2, [.int s_w_2, .int x_w_2, .int y_w_2, .int z_w_2]))] : va_W) ++ va_pl L f) s.heap := P_open (X := [(h0, .inr (8, [.ref n0, .ref s0, .ref s1, .ref d0, .ref o0, .int dn, .int nn, .int la, .int ne, .int wi, .ref w0, .ref e0, .ref f0, .ref t0, .ref b0, .int lm])), (n0, .inr (1, [.ref na, .int sz9])), (na, .inl (cT, 16, .inr (.inr (.inr (.inr ga))))), (d0, .inl (cD, 40, .inr (.inr (.inr (.inr gd)))))]) hP hL_w_2 hf_w_2
      have hPc := hP.part (cx := [(n0, .inr (1, [.ref na, .int sz9])), (na, .inl (cT, 16, .inr (.inr (.inr (.inr ga))))), (w_2, .inr (2, [.int s_w_2, .int x_w_2, .int y_w_2, .int z_w_2]))]) [1, 2, 4] rfl
      have hKc := hK.sub (tys' := [(cT, .object "MeetingsAbove$Thing"), (cI, .int)]) [0, 1] rfl
      refine vp_callSi (W.runV (As := [.ref w_2]) (rest := []) ⟨hx, hb, hml, hown, hts⟩ (c_X1_firstHolder l dC dI n0 na cT sz9 ga cI L f w_2 s_w_2 x_w_2 y_w_2 z_w_2 (by first | assumption | omega)) (cwV 1 hts g_X8_dotted__X1_firstHolder_266 rfl rfl rfl (by decide +kernel) ⟨Nat.le_of_ble_eq_true rfl, Nat.le_of_ble_eq_true rfl⟩) ⟨fun a U g mk q => by obtain ⟨q0, qP, qK⟩ := q; exact ⟨q0, qP, va_K.moved (u := U) (U := U.calling g mk a) (Vm.Alike.refl U.vm) qK⟩, va_recv hKc hPc (ci := 1) (q0 := 0) rfl rfl, fun U hU hW => ⟨rfl, by rw [hU]; exact hPc, va_K.moved hW.alike hKc⟩⟩ rfl rfl hl.1 rfl (lv_room (Nat.le_of_ble_eq_true rfl)) dX8_dotted_54 ⟨Nat.le_of_ble_eq_true rfl, Nat.le_of_ble_eq_true rfl⟩) (fun r_4 hr_4 => ?_)
      try dsimp only at hr_4
      exact W.iret (v := r_4) hx hb hr (fun t ht _ => ⟨_, rfl, trivial, ht⟩) (fun _ h => absurd h List.not_mem_nil) dX8_dotted_57
def wk_X8_countDotsOf : List Cond := .code yX8_countDotsOf cX8_countDotsOf 6 (some .int) :: (([.fieldLink RX8 158 "MeetingsAbove" "dotCount" "I", .fieldLink RX8 12 "MeetingsAbove" "now" "LMeetingsAbove$Catalogue;"] : List Cond) ++ (wsX80 ++ ((wsV RX8 258 RX8 yX8_findDot wk_X8_findDot) ++ ((wsV RX8 262 RX1 yX1_countHolders wk_X1_countHolders) ++ ((va_wsS RX8 84 yX8_isWithin wk_X8_isWithin) ++ ([]))))))
theorem in_X8_countDotsOf_X8 : ∀ w ∈ wsX80, w ∈ wk_X8_countDotsOf := fun _ h => List.mem_cons_of_mem _ (List.mem_append_right _ (List.mem_append_left _ h))
theorem gw_X8_countDotsOf : AG wk_X8_countDotsOf := AG_ca (AG_l (by decide +kernel)) (AG_app ag_X8 (AG_app (AG_V gw_X8_findDot) (AG_app (AG_V gw_X1_countHolders) (AG_app (AG_S gw_X8_isWithin) (AG_nil)))))
theorem g_X8_countDotsOf__X8_findDot_258 : GoodIn wk_X8_countDotsOf (wsV RX8 258 RX8 yX8_findDot wk_X8_findDot) := goodIn_m (fun _ h => List.mem_cons_of_mem _ (List.mem_append_right _ (List.mem_append_right _ (List.mem_append_left _ h)))) (AG_V gw_X8_findDot)
theorem g_X8_countDotsOf__X1_countHolders_262 : GoodIn wk_X8_countDotsOf (wsV RX8 262 RX1 yX1_countHolders wk_X1_countHolders) := goodIn_m (fun _ h => List.mem_cons_of_mem _ (List.mem_append_right _ (List.mem_append_right _ (List.mem_append_right _ (List.mem_append_left _ h))))) (AG_V gw_X1_countHolders)
theorem g_X8_countDotsOf__X8_isWithin_84 : GoodIn wk_X8_countDotsOf (va_wsS RX8 84 yX8_isWithin wk_X8_isWithin) := goodIn_m (fun _ h => List.mem_cons_of_mem _ (List.mem_append_right _ (List.mem_append_right _ (List.mem_append_right _ (List.mem_append_right _ (List.mem_append_left _ h)))))) (AG_S gw_X8_isWithin)
set_option maxHeartbeats 4000000 in
set_option maxRecDepth 100000 in
theorem c_X8_countDotsOf (l : Launch) (dC : Nat → ClassId) (dI : Nat → Nat → Nat) (h0 : Nat) (n0 : Nat) (s0 : Nat) (s1 : Nat) (d0 : Nat) (o0 : Nat) (w0 : Nat) (e0 : Nat) (f0 : Nat) (t0 : Nat) (b0 : Nat) (dn : Int32) (nn : Int32) (la : Int32) (ne : Int32) (wi : Int32) (lm : Int32) (na : Nat) (cT : ClassId) (sz9 : Int32) (ga : Nat → Option Nat) (cI : ClassId) (L : List Nat) (f : Nat → va_E) (cD : ClassId) (gd : Nat → Option Nat) (p1 : Int32) (p2 : Int32) (hC : catOK L f cI sz9 ga) (hDO : dotOK L f dn gd) : Met l yX8_countDotsOf wk_X8_countDotsOf ({ frames := 5, cells := 0, slots := 0, locals := 108 }) (va_Pc [.ref h0, .int p1, .int p2] (fun U => va_P (dC, dI) vwCl (([(h0, .inr (8, [.ref n0, .ref s0, .ref s1, .ref d0, .ref o0, .int dn, .int nn, .int la, .int ne, .int wi, .ref w0, .ref e0, .ref f0, .ref t0, .ref b0, .int lm])), (n0, .inr (1, [.ref na, .int sz9])), (na, .inl (cT, 16, .inr (.inr (.inr (.inr ga))))), (d0, .inl (cD, 40, .inr (.inr (.inr (.inr gd)))))] : va_W) ++ va_pl L f) U.heap ∧ va_K (dC, dI) vwCl [(cT, .object "MeetingsAbove$Thing"), (cI, .int), (cD, .object "MeetingsAbove$Dot")] U)) (vp_Si (fun r => True)) 0 0 (fun _ => False) := by
  refine Met.ofW (cc := cX8_countDotsOf) (maxL := 6) (ret := (some .int)) (by decide) rfl ?_
  intro p e s m args below meth c s₁ B hml hv
  obtain ⟨rfl, hP, hK⟩ := hv
  have hx := B.exec
  have hb := B.bytes
  have hr := B.returns
  have hts := atoms_spec (ws := wk_X8_countDotsOf) B.pre
  have hown : s.vm.findClass RX8 = some m.cls := findClass_of_methodNamed B.named
  have hlocks := B.notSynchronized
  have hP : va_P (dC, dI) vwCl (([(h0, .inr (8, [.ref n0, .ref s0, .ref s1, .ref d0, .ref o0, .int dn, .int nn, .int la, .int ne, .int wi, .ref w0, .ref e0, .ref f0, .ref t0, .ref b0, .int lm])), (n0, .inr (1, [.ref na, .int sz9])), (na, .inl (cT, 16, .inr (.inr (.inr (.inr ga))))), (d0, .inl (cD, 40, .inr (.inr (.inr (.inr gd)))))] : va_W) ++ va_pl L f) s.heap := hP
  have hl := lv_entry ([.ref h0, .int p1, .int p2]) (n := 6) (Nat.le_of_ble_eq_true rfl)
  rw [lg_entry_eq]
  generalize (lg_sl ([.ref h0, .int p1, .int p2]) ++ List.replicate (6 - (lg_sl ([.ref h0, .int p1, .int p2])).length) Slot.unset).toArray = ls at hl ⊢
  have hl : lv_has ls 6 [(0, .ref h0), (1, .int p1), (2, .int p2)] := hl
  have kl_0 : (0 : Int32).toInt = 0 := by decide
  have kl_1 : (1 : Int32).toInt = 1 := by decide
  obtain ⟨hC0, hC1, hC2⟩ := id hC
  obtain ⟨hD0, hD1, hD2⟩ := id hDO
  refine lv_iconst (v := 0) hx hb dX8_countDotsOf_0 (by decide) ?_
  refine lv_istore_n (lv' := [(3, .int 0), (0, .ref h0), (1, .int p1), (2, .int p2)]) hx hb dX8_countDotsOf_1 rfl hl (by decide) rfl (fun ls hl => ?_)
  refine lv_iconst (v := 0) hx hb dX8_countDotsOf_2 (by decide) ?_
  refine lv_istore (lv' := [(4, .int 0), (3, .int 0), (0, .ref h0), (1, .int p1), (2, .int p2)]) hx hb dX8_countDotsOf_3 hl (by decide) rfl (fun ls hl => ?_)
  refine (show ∀ (k : Nat) (n3 : Int32) (d4 : Int32) (hk0 : 0 ≤ d4.toInt) (hk1 : d4.toInt ≤ dn.toInt) (hk_5 : (dn.toInt - d4.toInt).toNat < k) (ls : Array Slot) (hl : lv_has ls 6 [(0, .ref h0), (1, .int p1), (2, .int p2), (3, .int n3), (4, .int d4)]), W p l e _ s m _ below meth c s.heap [] 0 0 _ (F0 m 5 ls []) from ?_) _ 0 0 (by omega) (by omega) (Nat.lt_succ_self _) ls (lv_sub hl [2, 3, 4, 1, 0] rfl)
  intro k
  induction k with
  | zero => intro n3 d4 hk0 hk1 hk_5; exact absurd hk_5 (Nat.not_lt_zero _)
  | succ k ih_5 =>
    intro n3 d4 hk0 hk1 hk_5 ls hl
    refine lv_iload hx hb dX8_countDotsOf_5 (lv_at hl 4 rfl) ?_
    refine lv_aload_n hx hb dX8_countDotsOf_7 rfl (lv_at hl 0 rfl) ?_
    refine va_get (D := (dC, dI)) (ci := 8) (v := .int dn) (C := RX8) (T := TX8) (N := 16) hx hb hts in_X8_countDotsOf_X8 hown hK hP 0 rfl rfl 5 (by decide) (hts (.fieldLink RX8 158 "MeetingsAbove" "dotCount" "I") (by decide +kernel)) (fun _ h9 => h9) rfl dX8_countDotsOf_8 ?_
    refine lv_icmp_ge (tgt := 53) hx hb dX8_countDotsOf_11 (by decide) (fun c_11 => ?_) (fun c_11 => ?_)
    · have t_11 := (fa_le _ _).mp c_11
      refine lv_iload_n hx hb dX8_countDotsOf_53 rfl (lv_at hl 3 rfl) ?_
      exact W.iret (v := n3) hx hb hr (fun t ht _ => ⟨_, rfl, trivial, ht⟩) (fun _ h => absurd h List.not_mem_nil) dX8_countDotsOf_54
    · have t_11 := mt (fa_le _ _).mpr c_11
      refine lv_aload_n hx hb dX8_countDotsOf_14 rfl (lv_at hl 0 rfl) ?_
      refine lv_iload hx hb dX8_countDotsOf_15 (lv_at hl 4 rfl) ?_
      have hPc := hP.sub (ws' := [(h0, .inr (8, [.ref n0, .ref s0, .ref s1, .ref d0, .ref o0, .int dn, .int nn, .int la, .int ne, .int wi, .ref w0, .ref e0, .ref f0, .ref t0, .ref b0, .int lm])), (d0, .inl (cD, 40, .inr (.inr (.inr (.inr gd)))))]) [0, 3] rfl
      have hKc := hK.sub (tys' := [(cD, .object "MeetingsAbove$Dot")]) [2] rfl
      refine va_csq (W.runV (As := [.int d4]) (rest := []) ⟨hx, hb, hml, hown, hts⟩ (c_X8_findDot l dC dI h0 n0 s0 s1 d0 o0 w0 e0 f0 t0 b0 dn nn la ne wi lm cD gd d4) (cwV 1 hts g_X8_countDotsOf__X8_findDot_258 rfl rfl rfl (by decide +kernel) ⟨Nat.le_of_ble_eq_true rfl, Nat.le_of_ble_eq_true rfl⟩) ⟨fun a U g mk q => by obtain ⟨q0, qP, qK⟩ := q; exact ⟨q0, qP, va_K.moved (u := U) (U := U.calling g mk a) (Vm.Alike.refl U.vm) qK⟩, va_recv hKc hPc (ci := 8) (q0 := 0) rfl rfl, fun U hU hW => ⟨rfl, by rw [hU]; exact hPc, va_K.moved hW.alike hKc⟩⟩ rfl rfl hl.1 rfl (lv_room (Nat.le_of_ble_eq_true rfl)) dX8_countDotsOf_17 ⟨Nat.le_of_ble_eq_true rfl, Nat.le_of_ble_eq_true rfl⟩) (fun r_1 hr_1 => ?_)
      try dsimp only at hr_1
      rcases r_1 with _ | w_2
      · refine W.eq (g2 := F0 m 20 ls [.null]) rfl ?_
        refine lv_astoreN (lv' := [(5, .null), (0, .ref h0), (1, .int p1), (2, .int p2), (3, .int n3), (4, .int d4)]) hx hb dX8_countDotsOf_20 hl (by decide) rfl (fun ls hl => ?_)
        refine lv_aloadN hx hb dX8_countDotsOf_22 (lv_at hl 0 rfl) ?_
        refine lv_ifnullN (tgt := 47) hx hb dX8_countDotsOf_24 (by decide) ?_
        obtain ⟨y_3, ey_3⟩ : ∃ y : Int32, y = d4 + 1 := ⟨_, rfl⟩
        have ty_3 : y_3.toInt = d4.toInt + 1 := by rw [ey_3]; have := fb_addI (x := d4) (y := 1) (by omega) (by omega); omega
        refine lv_iinc (v := y_3) (lv' := [(4, .int y_3), (5, .null), (0, .ref h0), (1, .int p1), (2, .int p2), (3, .int n3)]) hx hb dX8_countDotsOf_47 hl (k := 5) rfl (by rw [ey_3]; rfl) (by decide) rfl (fun ls hl => ?_)
        refine lv_goto (tgt := 5) hx hb dX8_countDotsOf_50 (by decide) ?_
        exact ih_5 n3 y_3 (by omega) (by omega) (by omega) ls (lv_sub hl [2, 3, 4, 5, 0] rfl)
      · refine W.eq (g2 := F0 m 20 ls [.ref w_2]) rfl ?_
        obtain ⟨hi_w_2, hw_w_2⟩ := fd_some hr_1
        obtain ⟨s_w_2, x_w_2, y_w_2, z_w_2, hL_w_2, hf_w_2⟩ := dt_of hDO (by rw [tc_I (by omega)]; omega) hw_w_2
        refine lv_astore (lv' := [(5, .ref w_2), (0, .ref h0), (1, .int p1), (2, .int p2), (3, .int n3), (4, .int d4)]) hx hb dX8_countDotsOf_20 hl (by decide) rfl (fun ls hl => ?_)
        refine lv_aload hx hb dX8_countDotsOf_22 (lv_at hl 0 rfl) ?_
        refine lv_ifnull hx hb dX8_countDotsOf_24 ?_
        refine lv_aload_n hx hb dX8_countDotsOf_27 rfl (lv_at hl 1 rfl) ?_
        refine va_get (D := (dC, dI)) (ci := 8) (v := .ref n0) (C := RX8) (T := TX8) (N := 16) hx hb hts in_X8_countDotsOf_X8 hown hK hP 0 rfl rfl 0 (by decide) (hts (.fieldLink RX8 12 "MeetingsAbove" "now" "LMeetingsAbove$Catalogue;") (by decide +kernel)) (fun _ h9 => h9) rfl dX8_countDotsOf_28 ?_
        refine lv_aload hx hb dX8_countDotsOf_31 (lv_at hl 0 rfl) ?_
        have hP : va_P (dC, dI) vwCl (([(h0, .inr (8, [.ref n0, .ref s0, .ref s1, .ref d0, .ref o0, .int dn, .int nn, .int la, .int ne, .int wi, .ref w0, .ref e0, .ref f0, .ref t0, .ref b0, .int lm])), (n0, .inr (1, [.ref na, .int sz9])), (na, .inl (cT, 16, .inr (.inr (.inr (.inr ga))))), (d0, .inl (cD, 40, .inr (.inr (.inr (.inr gd))))), (w_2, .inr (2, [.int s_w_2, .int x_w_2, .int y_w_2, .int z_w_2]))] : va_W) ++ va_pl L f) s.heap := P_open (X := [(h0, .inr (8, [.ref n0, .ref s0, .ref s1, .ref d0, .ref o0, .int dn, .int nn, .int la, .int ne, .int wi, .ref w0, .ref e0, .ref f0, .ref t0, .ref b0, .int lm])), (n0, .inr (1, [.ref na, .int sz9])), (na, .inl (cT, 16, .inr (.inr (.inr (.inr ga))))), (d0, .inl (cD, 40, .inr (.inr (.inr (.inr gd)))))]) hP hL_w_2 hf_w_2
        have hPc := hP.part (cx := [(n0, .inr (1, [.ref na, .int sz9])), (na, .inl (cT, 16, .inr (.inr (.inr (.inr ga))))), (w_2, .inr (2, [.int s_w_2, .int x_w_2, .int y_w_2, .int z_w_2]))]) [1, 2, 4] rfl
        have hKc := hK.sub (tys' := [(cT, .object "MeetingsAbove$Thing"), (cI, .int)]) [0, 1] rfl
        refine vp_callSi (W.runV (As := [.ref w_2]) (rest := []) ⟨hx, hb, hml, hown, hts⟩ (c_X1_countHolders l dC dI n0 na cT sz9 ga cI L f w_2 s_w_2 x_w_2 y_w_2 z_w_2 (by first | assumption | omega)) (cwV 1 hts g_X8_countDotsOf__X1_countHolders_262 rfl rfl rfl (by decide +kernel) ⟨Nat.le_of_ble_eq_true rfl, Nat.le_of_ble_eq_true rfl⟩) ⟨fun a U g mk q => by obtain ⟨q0, qP, qK⟩ := q; exact ⟨q0, qP, va_K.moved (u := U) (U := U.calling g mk a) (Vm.Alike.refl U.vm) qK⟩, va_recv hKc hPc (ci := 1) (q0 := 0) rfl rfl, fun U hU hW => ⟨rfl, by rw [hU]; exact hPc, va_K.moved hW.alike hKc⟩⟩ rfl rfl hl.1 rfl (lv_room (Nat.le_of_ble_eq_true rfl)) dX8_countDotsOf_33 ⟨Nat.le_of_ble_eq_true rfl, Nat.le_of_ble_eq_true rfl⟩) (fun r_4 hr_4 => ?_)
        try dsimp only at hr_4
        refine lv_iload_n hx hb dX8_countDotsOf_36 rfl (lv_at hl 2 rfl) ?_
        refine lv_iload_n hx hb dX8_countDotsOf_37 rfl (lv_at hl 3 rfl) ?_
        refine vp_callSi (W.runS (As := [.int r_4, .int p1, .int p2]) (rest := []) ⟨hx, hb, hml, hown, hts⟩ (c_X8_isWithin l dC dI r_4 p1 p2) (va_cwS 3 hts g_X8_countDotsOf__X8_isWithin_84 rfl rfl rfl (by decide +kernel) ⟨Nat.le_of_ble_eq_true rfl, Nat.le_of_ble_eq_true rfl⟩) ⟨fun a U g mk q => by obtain ⟨q0, q1⟩ := q; exact ⟨q0, q1⟩, fun U hU hW => ⟨rfl, trivial⟩⟩ rfl rfl hl.1 rfl (lv_room (Nat.le_of_ble_eq_true rfl)) dX8_countDotsOf_38 ⟨Nat.le_of_ble_eq_true rfl, Nat.le_of_ble_eq_true rfl⟩) (fun r_5 hr_5 => ?_)
        try dsimp only at hr_5
        rcases bo_split hr_5 with ⟨rfl, q_38⟩ | ⟨rfl, q_38⟩
        · refine lv_if_eq (tgt := 47) hx hb dX8_countDotsOf_41 (by decide) (fun h9 => absurd h9 (by decide)) (fun _ => ?_)
          obtain ⟨y_6, ey_6⟩ : ∃ y : Int32, y = n3 + 1 := ⟨_, rfl⟩
          refine lv_iinc (v := y_6) (lv' := [(3, .int y_6), (5, .ref w_2), (0, .ref h0), (1, .int p1), (2, .int p2), (4, .int d4)]) hx hb dX8_countDotsOf_44 hl (k := 4) rfl (by rw [ey_6]; rfl) (by decide) rfl (fun ls hl => ?_)
          obtain ⟨y_7, ey_7⟩ : ∃ y : Int32, y = d4 + 1 := ⟨_, rfl⟩
          have ty_7 : y_7.toInt = d4.toInt + 1 := by rw [ey_7]; have := fb_addI (x := d4) (y := 1) (by omega) (by omega); omega
          refine lv_iinc (v := y_7) (lv' := [(4, .int y_7), (3, .int y_6), (5, .ref w_2), (0, .ref h0), (1, .int p1), (2, .int p2)]) hx hb dX8_countDotsOf_47 hl (k := 5) rfl (by rw [ey_7]; rfl) (by decide) rfl (fun ls hl => ?_)
          refine lv_goto (tgt := 5) hx hb dX8_countDotsOf_50 (by decide) ?_
          exact ih_5 y_6 y_7 (by omega) (by omega) (by omega) ls (lv_sub hl [3, 4, 5, 1, 0] rfl)
        · refine lv_if_eq (tgt := 47) hx hb dX8_countDotsOf_41 (by decide) (fun _ => ?_) (fun h9 => absurd h9 (by decide))
          obtain ⟨y_8, ey_8⟩ : ∃ y : Int32, y = d4 + 1 := ⟨_, rfl⟩
          have ty_8 : y_8.toInt = d4.toInt + 1 := by rw [ey_8]; have := fb_addI (x := d4) (y := 1) (by omega) (by omega); omega
          refine lv_iinc (v := y_8) (lv' := [(4, .int y_8), (5, .ref w_2), (0, .ref h0), (1, .int p1), (2, .int p2), (3, .int n3)]) hx hb dX8_countDotsOf_47 hl (k := 5) rfl (by rw [ey_8]; rfl) (by decide) rfl (fun ls hl => ?_)
          refine lv_goto (tgt := 5) hx hb dX8_countDotsOf_50 (by decide) ?_
          exact ih_5 n3 y_8 (by omega) (by omega) (by omega) ls (lv_sub hl [2, 3, 4, 5, 0] rfl)
def wk_X8_countHolding : List Cond := .code yX8_countHolding cX8_countHolding 4 (some .int) :: (([.fieldLink RX8 164 "MeetingsAbove" "noticeCount" "I", .fieldLink RX8 296 "MeetingsAbove$Notice" "holds" "Z"] : List Cond) ++ (wsX80 ++ (wsX50 ++ ((wsV RX8 292 RX8 yX8_findNotice wk_X8_findNotice) ++ ([])))))
theorem in_X8_countHolding_X5 : ∀ w ∈ wsX50, w ∈ wk_X8_countHolding := fun _ h => List.mem_cons_of_mem _ (List.mem_append_right _ (List.mem_append_right _ (List.mem_append_left _ h)))
theorem in_X8_countHolding_X8 : ∀ w ∈ wsX80, w ∈ wk_X8_countHolding := fun _ h => List.mem_cons_of_mem _ (List.mem_append_right _ (List.mem_append_left _ h))
theorem gw_X8_countHolding : AG wk_X8_countHolding := AG_ca (AG_l (by decide +kernel)) (AG_app ag_X8 (AG_app ag_X5 (AG_app (AG_V gw_X8_findNotice) (AG_nil))))
theorem g_X8_countHolding__X8_findNotice_292 : GoodIn wk_X8_countHolding (wsV RX8 292 RX8 yX8_findNotice wk_X8_findNotice) := goodIn_m (fun _ h => List.mem_cons_of_mem _ (List.mem_append_right _ (List.mem_append_right _ (List.mem_append_right _ (List.mem_append_left _ h))))) (AG_V gw_X8_findNotice)
set_option maxHeartbeats 4000000 in
set_option maxRecDepth 100000 in
theorem c_X8_countHolding (l : Launch) (dC : Nat → ClassId) (dI : Nat → Nat → Nat) (h0 : Nat) (n0 : Nat) (s0 : Nat) (s1 : Nat) (d0 : Nat) (o0 : Nat) (w0 : Nat) (e0 : Nat) (f0 : Nat) (t0 : Nat) (b0 : Nat) (dn : Int32) (nn : Int32) (la : Int32) (ne : Int32) (wi : Int32) (lm : Int32) (cO : ClassId) (gn : Nat → Option Nat) (L : List Nat) (f : Nat → va_E) (hNO : notOK L f nn gn) : Met l yX8_countHolding wk_X8_countHolding ({ frames := 1, cells := 0, slots := 0, locals := 21 }) (va_Pc [.ref h0] (fun U => va_P (dC, dI) vwCl (([(h0, .inr (8, [.ref n0, .ref s0, .ref s1, .ref d0, .ref o0, .int dn, .int nn, .int la, .int ne, .int wi, .ref w0, .ref e0, .ref f0, .ref t0, .ref b0, .int lm])), (o0, .inl (cO, 40, .inr (.inr (.inr (.inr gn)))))] : va_W) ++ va_pl L f) U.heap ∧ va_K (dC, dI) vwCl [(cO, .object "MeetingsAbove$Notice")] U)) (vp_Si (fun r => True)) 0 0 (fun _ => False) := by
  refine Met.ofW (cc := cX8_countHolding) (maxL := 4) (ret := (some .int)) (by decide) rfl ?_
  intro p e s m args below meth c s₁ B hml hv
  obtain ⟨rfl, hP, hK⟩ := hv
  have hx := B.exec
  have hb := B.bytes
  have hr := B.returns
  have hts := atoms_spec (ws := wk_X8_countHolding) B.pre
  have hown : s.vm.findClass RX8 = some m.cls := findClass_of_methodNamed B.named
  have hlocks := B.notSynchronized
  have hP : va_P (dC, dI) vwCl (([(h0, .inr (8, [.ref n0, .ref s0, .ref s1, .ref d0, .ref o0, .int dn, .int nn, .int la, .int ne, .int wi, .ref w0, .ref e0, .ref f0, .ref t0, .ref b0, .int lm])), (o0, .inl (cO, 40, .inr (.inr (.inr (.inr gn)))))] : va_W) ++ va_pl L f) s.heap := hP
  have hl := lv_entry ([.ref h0]) (n := 4) (Nat.le_of_ble_eq_true rfl)
  rw [lg_entry_eq]
  generalize (lg_sl ([.ref h0]) ++ List.replicate (4 - (lg_sl ([.ref h0])).length) Slot.unset).toArray = ls at hl ⊢
  have hl : lv_has ls 4 [(0, .ref h0)] := hl
  have kl_0 : (0 : Int32).toInt = 0 := by decide
  have kl_1 : (1 : Int32).toInt = 1 := by decide
  obtain ⟨hN0, hN1, hN2⟩ := id hNO
  refine lv_iconst (v := 0) hx hb dX8_countHolding_0 (by decide) ?_
  refine lv_istore_n (lv' := [(1, .int 0), (0, .ref h0)]) hx hb dX8_countHolding_1 rfl hl (by decide) rfl (fun ls hl => ?_)
  refine lv_iconst (v := 0) hx hb dX8_countHolding_2 (by decide) ?_
  refine lv_istore_n (lv' := [(2, .int 0), (1, .int 0), (0, .ref h0)]) hx hb dX8_countHolding_3 rfl hl (by decide) rfl (fun ls hl => ?_)
  refine (show ∀ (k : Nat) (n1 : Int32) (k2 : Int32) (hk0 : 0 ≤ k2.toInt) (hk1 : k2.toInt ≤ nn.toInt) (hk_4 : (nn.toInt - k2.toInt).toNat < k) (ls : Array Slot) (hl : lv_has ls 4 [(0, .ref h0), (1, .int n1), (2, .int k2)]), W p l e _ s m _ below meth c s.heap [] 0 0 _ (F0 m 4 ls []) from ?_) _ 0 0 (by omega) (by omega) (Nat.lt_succ_self _) ls (lv_sub hl [2, 1, 0] rfl)
  intro k
  induction k with
  | zero => intro n1 k2 hk0 hk1 hk_4; exact absurd hk_4 (Nat.not_lt_zero _)
  | succ k ih_4 =>
    intro n1 k2 hk0 hk1 hk_4 ls hl
    refine lv_iload_n hx hb dX8_countHolding_4 rfl (lv_at hl 2 rfl) ?_
    refine lv_aload_n hx hb dX8_countHolding_5 rfl (lv_at hl 0 rfl) ?_
    refine va_get (D := (dC, dI)) (ci := 8) (v := .int nn) (C := RX8) (T := TX8) (N := 16) hx hb hts in_X8_countHolding_X8 hown hK hP 0 rfl rfl 6 (by decide) (hts (.fieldLink RX8 164 "MeetingsAbove" "noticeCount" "I") (by decide +kernel)) (fun _ h9 => h9) rfl dX8_countHolding_6 ?_
    refine lv_icmp_ge (tgt := 38) hx hb dX8_countHolding_9 (by decide) (fun c_9 => ?_) (fun c_9 => ?_)
    · have t_9 := (fa_le _ _).mp c_9
      refine lv_iload_n hx hb dX8_countHolding_38 rfl (lv_at hl 1 rfl) ?_
      exact W.iret (v := n1) hx hb hr (fun t ht _ => ⟨_, rfl, trivial, ht⟩) (fun _ h => absurd h List.not_mem_nil) dX8_countHolding_39
    · have t_9 := mt (fa_le _ _).mpr c_9
      refine lv_aload_n hx hb dX8_countHolding_12 rfl (lv_at hl 0 rfl) ?_
      refine lv_iload_n hx hb dX8_countHolding_13 rfl (lv_at hl 2 rfl) ?_
      have hPc := hP.sub (ws' := [(h0, .inr (8, [.ref n0, .ref s0, .ref s1, .ref d0, .ref o0, .int dn, .int nn, .int la, .int ne, .int wi, .ref w0, .ref e0, .ref f0, .ref t0, .ref b0, .int lm])), (o0, .inl (cO, 40, .inr (.inr (.inr (.inr gn)))))]) [0, 1] rfl
      have hKc := hK.sub (tys' := [(cO, .object "MeetingsAbove$Notice")]) [0] rfl
      refine va_csq (W.runV (As := [.int k2]) (rest := []) ⟨hx, hb, hml, hown, hts⟩ (c_X8_findNotice l dC dI h0 n0 s0 s1 d0 o0 w0 e0 f0 t0 b0 dn nn la ne wi lm cO gn k2) (cwV 1 hts g_X8_countHolding__X8_findNotice_292 rfl rfl rfl (by decide +kernel) ⟨Nat.le_of_ble_eq_true rfl, Nat.le_of_ble_eq_true rfl⟩) ⟨fun a U g mk q => by obtain ⟨q0, qP, qK⟩ := q; exact ⟨q0, qP, va_K.moved (u := U) (U := U.calling g mk a) (Vm.Alike.refl U.vm) qK⟩, va_recv hKc hPc (ci := 8) (q0 := 0) rfl rfl, fun U hU hW => ⟨rfl, by rw [hU]; exact hPc, va_K.moved hW.alike hKc⟩⟩ rfl rfl hl.1 rfl (lv_room (Nat.le_of_ble_eq_true rfl)) dX8_countHolding_14 ⟨Nat.le_of_ble_eq_true rfl, Nat.le_of_ble_eq_true rfl⟩) (fun r_1 hr_1 => ?_)
      try dsimp only at hr_1
      rcases r_1 with _ | w_2
      · refine W.eq (g2 := F0 m 17 ls [.null]) rfl ?_
        refine lv_astore_nN (lv' := [(3, .null), (0, .ref h0), (1, .int n1), (2, .int k2)]) hx hb dX8_countHolding_17 rfl hl (by decide) rfl (fun ls hl => ?_)
        refine lv_aload_nN hx hb dX8_countHolding_18 rfl (lv_at hl 0 rfl) ?_
        refine lv_ifnullN (tgt := 32) hx hb dX8_countHolding_19 (by decide) ?_
        obtain ⟨y_3, ey_3⟩ : ∃ y : Int32, y = k2 + 1 := ⟨_, rfl⟩
        have ty_3 : y_3.toInt = k2.toInt + 1 := by rw [ey_3]; have := fb_addI (x := k2) (y := 1) (by omega) (by omega); omega
        refine lv_iinc (v := y_3) (lv' := [(2, .int y_3), (3, .null), (0, .ref h0), (1, .int n1)]) hx hb dX8_countHolding_32 hl (k := 3) rfl (by rw [ey_3]; rfl) (by decide) rfl (fun ls hl => ?_)
        refine lv_goto (tgt := 4) hx hb dX8_countHolding_35 (by decide) ?_
        exact ih_4 n1 y_3 (by omega) (by omega) (by omega) ls (lv_sub hl [2, 3, 0] rfl)
      · refine W.eq (g2 := F0 m 17 ls [.ref w_2]) rfl ?_
        obtain ⟨hi_w_2, hw_w_2⟩ := fd_some hr_1
        obtain ⟨v1_w_2, v2_w_2, v3_w_2, v4_w_2, v5_w_2, v6_w_2, v7_w_2, v8_w_2, hL_w_2, hf_w_2, hh_w_2⟩ := nt_of hNO (by rw [tc_I (by omega)]; omega) hw_w_2
        refine lv_astore_n (lv' := [(3, .ref w_2), (0, .ref h0), (1, .int n1), (2, .int k2)]) hx hb dX8_countHolding_17 rfl hl (by decide) rfl (fun ls hl => ?_)
        refine lv_aload_n hx hb dX8_countHolding_18 rfl (lv_at hl 0 rfl) ?_
        refine lv_ifnull hx hb dX8_countHolding_19 ?_
        refine lv_aload_n hx hb dX8_countHolding_22 rfl (lv_at hl 0 rfl) ?_
        obtain ⟨k_4, hk_4⟩ := pl_ix (X := [(h0, .inr (8, [.ref n0, .ref s0, .ref s1, .ref d0, .ref o0, .int dn, .int nn, .int la, .int ne, .int wi, .ref w0, .ref e0, .ref f0, .ref t0, .ref b0, .int lm])), (o0, .inl (cO, 40, .inr (.inr (.inr (.inr gn)))))]) hL_w_2 hf_w_2
        refine va_get (D := (dC, dI)) (ci := 5) (v := .int v8_w_2) (C := RX5) (T := TX5) (N := 8) hx hb hts in_X8_countHolding_X5 hown hK hP k_4 hk_4 rfl 7 (by decide) (hts (.fieldLink RX8 296 "MeetingsAbove$Notice" "holds" "Z") (by decide +kernel)) (fun _ h9 => h9) rfl dX8_countHolding_23 ?_
        refine lv_if_eq (tgt := 32) hx hb dX8_countHolding_26 (by decide) (fun c_26 => ?_) (fun c_26 => ?_)
        · have t_26 := (fa_eq _ _).mp c_26
          obtain ⟨y_5, ey_5⟩ : ∃ y : Int32, y = k2 + 1 := ⟨_, rfl⟩
          have ty_5 : y_5.toInt = k2.toInt + 1 := by rw [ey_5]; have := fb_addI (x := k2) (y := 1) (by omega) (by omega); omega
          refine lv_iinc (v := y_5) (lv' := [(2, .int y_5), (3, .ref w_2), (0, .ref h0), (1, .int n1)]) hx hb dX8_countHolding_32 hl (k := 3) rfl (by rw [ey_5]; rfl) (by decide) rfl (fun ls hl => ?_)
          refine lv_goto (tgt := 4) hx hb dX8_countHolding_35 (by decide) ?_
          exact ih_4 n1 y_5 (by omega) (by omega) (by omega) ls (lv_sub hl [2, 3, 0] rfl)
        · have t_26 := mt (fa_eq _ _).mpr c_26
          obtain ⟨y_6, ey_6⟩ : ∃ y : Int32, y = n1 + 1 := ⟨_, rfl⟩
          refine lv_iinc (v := y_6) (lv' := [(1, .int y_6), (3, .ref w_2), (0, .ref h0), (2, .int k2)]) hx hb dX8_countHolding_29 hl (k := 2) rfl (by rw [ey_6]; rfl) (by decide) rfl (fun ls hl => ?_)
          obtain ⟨y_7, ey_7⟩ : ∃ y : Int32, y = k2 + 1 := ⟨_, rfl⟩
          have ty_7 : y_7.toInt = k2.toInt + 1 := by rw [ey_7]; have := fb_addI (x := k2) (y := 1) (by omega) (by omega); omega
          refine lv_iinc (v := y_7) (lv' := [(2, .int y_7), (1, .int y_6), (3, .ref w_2), (0, .ref h0)]) hx hb dX8_countHolding_32 hl (k := 3) rfl (by rw [ey_7]; rfl) (by decide) rfl (fun ls hl => ?_)
          refine lv_goto (tgt := 4) hx hb dX8_countHolding_35 (by decide) ?_
          exact ih_4 y_6 y_7 (by omega) (by omega) (by omega) ls (lv_sub hl [3, 1, 0] rfl)
