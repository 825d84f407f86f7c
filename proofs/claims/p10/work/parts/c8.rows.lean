def wk_X8_sieveE : List Cond := .code yX8_sieve cX8_sieve 7 (some .int) :: (([.fieldLink RX8 12 "MeetingsAbove" "now" "LMeetingsAbove$Catalogue;", .constant RX8 107 (-100001), .fieldLink RX8 108 "MeetingsAbove$Thing" "gone" "Z", .constant RX8 116 (-100003)] : List Cond) ++ (wsX80 ++ (wsX60 ++ ((wsV RX8 103 RX1 yX1_find wk_X1_find) ++ ((va_wsS RX8 173 yX8_firstTogether wk_X8_firstTogether) ++ ((va_wsS RX8 177 yX8_lastTogether wk_X8_lastTogether) ++ ((wsV RX8 180 RX8 yX8_areApart wk_X8_areApartE) ++ ((wsV RX8 184 RX8 yX8_areApartOnEachWay wk_X8_areApartOnEachWayE) ++ ([])))))))))
theorem in_X8_sieveE_X6 : ∀ w ∈ wsX60, w ∈ wk_X8_sieveE := fun _ h => List.mem_cons_of_mem _ (List.mem_append_right _ (List.mem_append_right _ (List.mem_append_left _ h)))
theorem in_X8_sieveE_X8 : ∀ w ∈ wsX80, w ∈ wk_X8_sieveE := fun _ h => List.mem_cons_of_mem _ (List.mem_append_right _ (List.mem_append_left _ h))
theorem gw_X8_sieveE : AG wk_X8_sieveE := AG_ca (AG_l (by decide +kernel)) (AG_app ag_X8 (AG_app ag_X6 (AG_app (AG_V gw_X1_find) (AG_app (AG_S gw_X8_firstTogether) (AG_app (AG_S gw_X8_lastTogether) (AG_app (AG_V gw_X8_areApartE) (AG_app (AG_V gw_X8_areApartOnEachWayE) (AG_nil))))))))
theorem g_X8_sieveE__X1_find_103 : GoodIn wk_X8_sieveE (wsV RX8 103 RX1 yX1_find wk_X1_find) := goodIn_m (fun _ h => List.mem_cons_of_mem _ (List.mem_append_right _ (List.mem_append_right _ (List.mem_append_right _ (List.mem_append_left _ h))))) (AG_V gw_X1_find)
theorem g_X8_sieveE__X8_firstTogether_173 : GoodIn wk_X8_sieveE (va_wsS RX8 173 yX8_firstTogether wk_X8_firstTogether) := goodIn_m (fun _ h => List.mem_cons_of_mem _ (List.mem_append_right _ (List.mem_append_right _ (List.mem_append_right _ (List.mem_append_right _ (List.mem_append_left _ h)))))) (AG_S gw_X8_firstTogether)
theorem g_X8_sieveE__X8_lastTogether_177 : GoodIn wk_X8_sieveE (va_wsS RX8 177 yX8_lastTogether wk_X8_lastTogether) := goodIn_m (fun _ h => List.mem_cons_of_mem _ (List.mem_append_right _ (List.mem_append_right _ (List.mem_append_right _ (List.mem_append_right _ (List.mem_append_right _ (List.mem_append_left _ h))))))) (AG_S gw_X8_lastTogether)
theorem g_X8_sieveE__X8_areApartE_180 : GoodIn wk_X8_sieveE (wsV RX8 180 RX8 yX8_areApart wk_X8_areApartE) := goodIn_m (fun _ h => List.mem_cons_of_mem _ (List.mem_append_right _ (List.mem_append_right _ (List.mem_append_right _ (List.mem_append_right _ (List.mem_append_right _ (List.mem_append_right _ (List.mem_append_left _ h)))))))) (AG_V gw_X8_areApartE)
theorem g_X8_sieveE__X8_areApartOnEachWayE_184 : GoodIn wk_X8_sieveE (wsV RX8 184 RX8 yX8_areApartOnEachWay wk_X8_areApartOnEachWayE) := goodIn_m (fun _ h => List.mem_cons_of_mem _ (List.mem_append_right _ (List.mem_append_right _ (List.mem_append_right _ (List.mem_append_right _ (List.mem_append_right _ (List.mem_append_right _ (List.mem_append_right _ (List.mem_append_left _ h))))))))) (AG_V gw_X8_areApartOnEachWayE)
set_option maxHeartbeats 4000000 in
set_option maxRecDepth 100000 in
theorem c_X8_sieveE (l : Launch) (dC : Nat → ClassId) (dI : Nat → Nat → Nat) (h0 : Nat) (n0 : Nat) (s0 : Nat) (s1 : Nat) (d0 : Nat) (o0 : Nat) (w0 : Nat) (e0 : Nat) (f0 : Nat) (t0 : Nat) (b0 : Nat) (dn : Int32) (nn : Int32) (la : Int32) (ne : Int32) (wi : Int32) (lm : Int32) (na : Nat) (cT : ClassId) (sz9 : Int32) (ga : Nat → Option Nat) (cI : ClassId) (L : List Nat) (f : Nat → va_E) (ow : Nat → Nat) (v : Nat → TV) (p1 : Int32) (p2 : Int32) (hV : nowV L f cI ow sz9 ga v) (hne0 : 0 ≤ ne.toInt) (hne1 : ne.toInt ≤ 3000) : Met l yX8_sieve wk_X8_sieveE ({ frames := 4, cells := 0, slots := 0, locals := 98 }) (va_Pc [.ref h0, .int p1, .int p2] (fun U => va_P (dC, dI) vwCl (([(h0, .inr (8, [.ref n0, .ref s0, .ref s1, .ref d0, .ref o0, .int dn, .int nn, .int la, .int ne, .int wi, .ref w0, .ref e0, .ref f0, .ref t0, .ref b0, .int lm])), (n0, .inr (1, [.ref na, .int sz9])), (na, .inl (cT, 16, .inr (.inr (.inr (.inr ga)))))] : va_W) ++ va_pl L f) U.heap ∧ va_K (dC, dI) vwCl [(cT, .object "MeetingsAbove$Thing"), (cI, .int)] U)) (vp_Si (fun r => (¬ ((0 ≤ p1.toInt ∧ p1.toInt < sz9.toInt) ∧ (0 ≤ p2.toInt ∧ p2.toInt < sz9.toInt)) ∧ r = -100001) ∨ (((0 ≤ p1.toInt ∧ p1.toInt < sz9.toInt) ∧ (0 ≤ p2.toInt ∧ p2.toInt < sz9.toInt)) ∧ p1.toInt = p2.toInt ∧ r = -100003) ∨ (((0 ≤ p1.toInt ∧ p1.toInt < sz9.toInt) ∧ (0 ≤ p2.toInt ∧ p2.toInt < sz9.toInt)) ∧ p1.toInt ≠ p2.toInt ∧ svP (v p1.toNatClampNeg) (v p2.toNatClampNeg) ne.toInt r.toInt))) 0 0 (fun _ => False) := by
  refine Met.ofW (cc := cX8_sieve) (maxL := 7) (ret := (some .int)) (by decide) rfl ?_
  intro p e s m args below meth c s₁ B hml hv
  obtain ⟨rfl, hP, hK⟩ := hv
  have hx := B.exec
  have hb := B.bytes
  have hr := B.returns
  have hts := atoms_spec (ws := wk_X8_sieveE) B.pre
  have hown : s.vm.findClass RX8 = some m.cls := findClass_of_methodNamed B.named
  have hlocks := B.notSynchronized
  have hP : va_P (dC, dI) vwCl (([(h0, .inr (8, [.ref n0, .ref s0, .ref s1, .ref d0, .ref o0, .int dn, .int nn, .int la, .int ne, .int wi, .ref w0, .ref e0, .ref f0, .ref t0, .ref b0, .int lm])), (n0, .inr (1, [.ref na, .int sz9])), (na, .inl (cT, 16, .inr (.inr (.inr (.inr ga)))))] : va_W) ++ va_pl L f) s.heap := hP
  have hl := lv_entry ([.ref h0, .int p1, .int p2]) (n := 7) (Nat.le_of_ble_eq_true rfl)
  rw [lg_entry_eq]
  generalize (lg_sl ([.ref h0, .int p1, .int p2]) ++ List.replicate (7 - (lg_sl ([.ref h0, .int p1, .int p2])).length) Slot.unset).toArray = ls at hl ⊢
  have hl : lv_has ls 7 [(0, .ref h0), (1, .int p1), (2, .int p2)] := hl
  have kl_m100003 : (-100003 : Int32).toInt = -100003 := by decide
  have kl_m100001 : (-100001 : Int32).toInt = -100001 := by decide
  have kl_0 : (0 : Int32).toInt = 0 := by decide
  have kl_1 : (1 : Int32).toInt = 1 := by decide
  have kl_2 : (2 : Int32).toInt = 2 := by decide
  have kl_3 : (3 : Int32).toInt = 3 := by decide
  have hC := nowV_cat hV
  obtain ⟨hC0, hC1, hC2⟩ := id hC
  refine lv_aload_n hx hb dX8_sieve_0 rfl (lv_at hl 0 rfl) ?_
  refine va_get (D := (dC, dI)) (ci := 8) (v := .ref n0) (C := RX8) (T := TX8) (N := 16) hx hb hts in_X8_sieveE_X8 hown hK hP 0 rfl rfl 0 (by decide) (hts (.fieldLink RX8 12 "MeetingsAbove" "now" "LMeetingsAbove$Catalogue;") (by decide +kernel)) (fun _ h9 => h9) rfl dX8_sieve_1 ?_
  refine lv_iload_n hx hb dX8_sieve_4 rfl (lv_at hl 1 rfl) ?_
  have hPc := hP.sub (ws' := [(n0, .inr (1, [.ref na, .int sz9])), (na, .inl (cT, 16, .inr (.inr (.inr (.inr ga)))))]) [1, 2] rfl
  have hKc := hK.sub (tys' := [(cT, .object "MeetingsAbove$Thing")]) [0] rfl
  refine va_csq (W.runV (As := [.int p1]) (rest := []) ⟨hx, hb, hml, hown, hts⟩ (c_X1_find l dC dI n0 na cT sz9 ga p1) (cwV 1 hts g_X8_sieveE__X1_find_103 rfl rfl rfl (by decide +kernel) ⟨Nat.le_of_ble_eq_true rfl, Nat.le_of_ble_eq_true rfl⟩) ⟨fun a U g mk q => by obtain ⟨q0, qP, qK⟩ := q; exact ⟨q0, qP, va_K.moved (u := U) (U := U.calling g mk a) (Vm.Alike.refl U.vm) qK⟩, va_recv hKc hPc (ci := 1) (q0 := 0) rfl rfl, fun U hU hW => ⟨rfl, by rw [hU]; exact hPc, va_K.moved hW.alike hKc⟩⟩ rfl rfl hl.1 rfl (lv_room (Nat.le_of_ble_eq_true rfl)) dX8_sieve_5 ⟨Nat.le_of_ble_eq_true rfl, Nat.le_of_ble_eq_true rfl⟩) (fun r_1 hr_1 => ?_)
  try dsimp only at hr_1
  rcases r_1 with _ | w_2
  · refine W.eq (g2 := F0 m 8 ls [.null]) rfl ?_
    have hno_8 := fd_none hC hr_1
    refine lv_astore_nN (lv' := [(3, .null), (0, .ref h0), (1, .int p1), (2, .int p2)]) hx hb dX8_sieve_8 rfl hl (by decide) rfl (fun ls hl => ?_)
    refine lv_aload_n hx hb dX8_sieve_9 rfl (lv_at hl 1 rfl) ?_
    refine va_get (D := (dC, dI)) (ci := 8) (v := .ref n0) (C := RX8) (T := TX8) (N := 16) hx hb hts in_X8_sieveE_X8 hown hK hP 0 rfl rfl 0 (by decide) (hts (.fieldLink RX8 12 "MeetingsAbove" "now" "LMeetingsAbove$Catalogue;") (by decide +kernel)) (fun _ h9 => h9) rfl dX8_sieve_10 ?_
    refine lv_iload_n hx hb dX8_sieve_13 rfl (lv_at hl 3 rfl) ?_
    have hPc := hP.sub (ws' := [(n0, .inr (1, [.ref na, .int sz9])), (na, .inl (cT, 16, .inr (.inr (.inr (.inr ga)))))]) [1, 2] rfl
    have hKc := hK.sub (tys' := [(cT, .object "MeetingsAbove$Thing")]) [0] rfl
    refine va_csq (W.runV (As := [.int p2]) (rest := []) ⟨hx, hb, hml, hown, hts⟩ (c_X1_find l dC dI n0 na cT sz9 ga p2) (cwV 1 hts g_X8_sieveE__X1_find_103 rfl rfl rfl (by decide +kernel) ⟨Nat.le_of_ble_eq_true rfl, Nat.le_of_ble_eq_true rfl⟩) ⟨fun a U g mk q => by obtain ⟨q0, qP, qK⟩ := q; exact ⟨q0, qP, va_K.moved (u := U) (U := U.calling g mk a) (Vm.Alike.refl U.vm) qK⟩, va_recv hKc hPc (ci := 1) (q0 := 0) rfl rfl, fun U hU hW => ⟨rfl, by rw [hU]; exact hPc, va_K.moved hW.alike hKc⟩⟩ rfl rfl hl.1 rfl (lv_room (Nat.le_of_ble_eq_true rfl)) dX8_sieve_14 ⟨Nat.le_of_ble_eq_true rfl, Nat.le_of_ble_eq_true rfl⟩) (fun r_3 hr_3 => ?_)
    try dsimp only at hr_3
    rcases r_3 with _ | w_4
    · refine W.eq (g2 := F0 m 17 ls [.null]) rfl ?_
      have hno_17 := fd_none hC hr_3
      refine lv_astoreN (lv' := [(4, .null), (3, .null), (0, .ref h0), (1, .int p1), (2, .int p2)]) hx hb dX8_sieve_17 hl (by decide) rfl (fun ls hl => ?_)
      refine lv_aload_nN hx hb dX8_sieve_19 rfl (lv_at hl 1 rfl) ?_
      refine lv_ifnullN (tgt := 28) hx hb dX8_sieve_20 (by decide) ?_
      refine lv_ldc hx hb hown (hts (.constant RX8 107 (-100001)) (by decide +kernel)) dX8_sieve_28 ?_
      exact W.iret (v := (-100001)) hx hb hr (fun t ht _ => ⟨_, rfl, (Or.inl ⟨by omega, rfl⟩), ht⟩) (fun _ h => absurd h List.not_mem_nil) dX8_sieve_30
    · refine W.eq (g2 := F0 m 17 ls [.ref w_4]) rfl ?_
      obtain ⟨hi_w_4, hw_w_4⟩ := fd_some hr_3
      obtain ⟨x_w_4, fi_w_4, pl_w_4, db_w_4, go_w_4, g_w_4, hL_w_4, hX_w_4, hf_w_4, hg_w_4, ht_w_4, hgo_w_4, hdb_w_4, hco_w_4, h4_w_4, hv_w_4, oa_w_4, ox_w_4, hne_w_4⟩ := nv_of hV (by rw [tc_I (by omega)]; omega) hw_w_4
      obtain ⟨q1_w_4, q2_w_4, q3_w_4, q4_w_4⟩ := id ht_w_4
      obtain ⟨d1_w_4, d2_w_4⟩ := id hdb_w_4
      obtain ⟨e1_w_4, e2_w_4⟩ := id h4_w_4
      refine lv_astore (lv' := [(4, .ref w_4), (3, .null), (0, .ref h0), (1, .int p1), (2, .int p2)]) hx hb dX8_sieve_17 hl (by decide) rfl (fun ls hl => ?_)
      refine lv_aload_nN hx hb dX8_sieve_19 rfl (lv_at hl 1 rfl) ?_
      refine lv_ifnullN (tgt := 28) hx hb dX8_sieve_20 (by decide) ?_
      refine lv_ldc hx hb hown (hts (.constant RX8 107 (-100001)) (by decide +kernel)) dX8_sieve_28 ?_
      exact W.iret (v := (-100001)) hx hb hr (fun t ht _ => ⟨_, rfl, (Or.inl ⟨by omega, rfl⟩), ht⟩) (fun _ h => absurd h List.not_mem_nil) dX8_sieve_30
  · refine W.eq (g2 := F0 m 8 ls [.ref w_2]) rfl ?_
    obtain ⟨hi_w_2, hw_w_2⟩ := fd_some hr_1
    obtain ⟨x_w_2, fi_w_2, pl_w_2, db_w_2, go_w_2, g_w_2, hL_w_2, hX_w_2, hf_w_2, hg_w_2, ht_w_2, hgo_w_2, hdb_w_2, hco_w_2, h4_w_2, hv_w_2, oa_w_2, ox_w_2, hne_w_2⟩ := nv_of hV (by rw [tc_I (by omega)]; omega) hw_w_2
    obtain ⟨q1_w_2, q2_w_2, q3_w_2, q4_w_2⟩ := id ht_w_2
    obtain ⟨d1_w_2, d2_w_2⟩ := id hdb_w_2
    obtain ⟨e1_w_2, e2_w_2⟩ := id h4_w_2
    refine lv_astore_n (lv' := [(3, .ref w_2), (0, .ref h0), (1, .int p1), (2, .int p2)]) hx hb dX8_sieve_8 rfl hl (by decide) rfl (fun ls hl => ?_)
    refine lv_aload_n hx hb dX8_sieve_9 rfl (lv_at hl 1 rfl) ?_
    refine va_get (D := (dC, dI)) (ci := 8) (v := .ref n0) (C := RX8) (T := TX8) (N := 16) hx hb hts in_X8_sieveE_X8 hown hK hP 0 rfl rfl 0 (by decide) (hts (.fieldLink RX8 12 "MeetingsAbove" "now" "LMeetingsAbove$Catalogue;") (by decide +kernel)) (fun _ h9 => h9) rfl dX8_sieve_10 ?_
    refine lv_iload_n hx hb dX8_sieve_13 rfl (lv_at hl 3 rfl) ?_
    have hPc := hP.sub (ws' := [(n0, .inr (1, [.ref na, .int sz9])), (na, .inl (cT, 16, .inr (.inr (.inr (.inr ga)))))]) [1, 2] rfl
    have hKc := hK.sub (tys' := [(cT, .object "MeetingsAbove$Thing")]) [0] rfl
    refine va_csq (W.runV (As := [.int p2]) (rest := []) ⟨hx, hb, hml, hown, hts⟩ (c_X1_find l dC dI n0 na cT sz9 ga p2) (cwV 1 hts g_X8_sieveE__X1_find_103 rfl rfl rfl (by decide +kernel) ⟨Nat.le_of_ble_eq_true rfl, Nat.le_of_ble_eq_true rfl⟩) ⟨fun a U g mk q => by obtain ⟨q0, qP, qK⟩ := q; exact ⟨q0, qP, va_K.moved (u := U) (U := U.calling g mk a) (Vm.Alike.refl U.vm) qK⟩, va_recv hKc hPc (ci := 1) (q0 := 0) rfl rfl, fun U hU hW => ⟨rfl, by rw [hU]; exact hPc, va_K.moved hW.alike hKc⟩⟩ rfl rfl hl.1 rfl (lv_room (Nat.le_of_ble_eq_true rfl)) dX8_sieve_14 ⟨Nat.le_of_ble_eq_true rfl, Nat.le_of_ble_eq_true rfl⟩) (fun r_5 hr_5 => ?_)
    try dsimp only at hr_5
    rcases r_5 with _ | w_6
    · refine W.eq (g2 := F0 m 17 ls [.null]) rfl ?_
      have hno_17 := fd_none hC hr_5
      refine lv_astoreN (lv' := [(4, .null), (3, .ref w_2), (0, .ref h0), (1, .int p1), (2, .int p2)]) hx hb dX8_sieve_17 hl (by decide) rfl (fun ls hl => ?_)
      refine lv_aload_n hx hb dX8_sieve_19 rfl (lv_at hl 1 rfl) ?_
      refine lv_ifnull hx hb dX8_sieve_20 ?_
      refine lv_aloadN hx hb dX8_sieve_23 (lv_at hl 0 rfl) ?_
      refine lv_ifnonnullN hx hb dX8_sieve_25 ?_
      refine lv_ldc hx hb hown (hts (.constant RX8 107 (-100001)) (by decide +kernel)) dX8_sieve_28 ?_
      exact W.iret (v := (-100001)) hx hb hr (fun t ht _ => ⟨_, rfl, (Or.inl ⟨by omega, rfl⟩), ht⟩) (fun _ h => absurd h List.not_mem_nil) dX8_sieve_30
    · refine W.eq (g2 := F0 m 17 ls [.ref w_6]) rfl ?_
      obtain ⟨hi_w_6, hw_w_6⟩ := fd_some hr_5
      obtain ⟨x_w_6, fi_w_6, pl_w_6, db_w_6, go_w_6, g_w_6, hL_w_6, hX_w_6, hf_w_6, hg_w_6, ht_w_6, hgo_w_6, hdb_w_6, hco_w_6, h4_w_6, hv_w_6, oa_w_6, ox_w_6, hne_w_6⟩ := nv_of hV (by rw [tc_I (by omega)]; omega) hw_w_6
      obtain ⟨q1_w_6, q2_w_6, q3_w_6, q4_w_6⟩ := id ht_w_6
      obtain ⟨d1_w_6, d2_w_6⟩ := id hdb_w_6
      obtain ⟨e1_w_6, e2_w_6⟩ := id h4_w_6
      refine lv_astore (lv' := [(4, .ref w_6), (3, .ref w_2), (0, .ref h0), (1, .int p1), (2, .int p2)]) hx hb dX8_sieve_17 hl (by decide) rfl (fun ls hl => ?_)
      refine lv_aload_n hx hb dX8_sieve_19 rfl (lv_at hl 1 rfl) ?_
      refine lv_ifnull hx hb dX8_sieve_20 ?_
      refine lv_aload hx hb dX8_sieve_23 (lv_at hl 0 rfl) ?_
      refine lv_ifnonnull (tgt := 31) hx hb dX8_sieve_25 (by decide) ?_
      refine lv_iload_n hx hb dX8_sieve_31 rfl (lv_at hl 3 rfl) ?_
      refine lv_iload_n hx hb dX8_sieve_32 rfl (lv_at hl 4 rfl) ?_
      refine lv_icmp_ne (tgt := 39) hx hb dX8_sieve_33 (by decide) (fun c_33 => ?_) (fun c_33 => ?_)
      · have t_33 := mt (fa_eq _ _).mpr c_33
        refine lv_aload_n hx hb dX8_sieve_39 rfl (lv_at hl 1 rfl) ?_
        refine lv_aload hx hb dX8_sieve_40 (lv_at hl 0 rfl) ?_
        have hPc : va_P (dC, dI) vwCl [(w_2, .inr (6, [.ref x_w_2, .int fi_w_2, .int pl_w_2, .int db_w_2, .int go_w_2])), (w_6, .inr (6, [.ref x_w_6, .int fi_w_6, .int pl_w_6, .int db_w_6, .int go_w_6]))] s.heap := P_cons (pl_at (X := [(h0, .inr (8, [.ref n0, .ref s0, .ref s1, .ref d0, .ref o0, .int dn, .int nn, .int la, .int ne, .int wi, .ref w0, .ref e0, .ref f0, .ref t0, .ref b0, .int lm])), (n0, .inr (1, [.ref na, .int sz9])), (na, .inl (cT, 16, .inr (.inr (.inr (.inr ga)))))]) hP hL_w_2 hf_w_2) (P_cons (pl_at (X := [(h0, .inr (8, [.ref n0, .ref s0, .ref s1, .ref d0, .ref o0, .int dn, .int nn, .int la, .int ne, .int wi, .ref w0, .ref e0, .ref f0, .ref t0, .ref b0, .int lm])), (n0, .inr (1, [.ref na, .int sz9])), (na, .inl (cT, 16, .inr (.inr (.inr (.inr ga)))))]) hP hL_w_6 hf_w_6) (P_nil))
        have hKc := hK.sub (tys' := []) [] rfl
        refine vp_callSi (W.runS (As := [.ref w_2, .ref w_6]) (rest := []) ⟨hx, hb, hml, hown, hts⟩ (c_X8_firstTogether l dC dI w_2 x_w_2 fi_w_2 pl_w_2 db_w_2 go_w_2 w_6 x_w_6 fi_w_6 pl_w_6 db_w_6 go_w_6) (va_cwS 2 hts g_X8_sieveE__X8_firstTogether_173 rfl rfl rfl (by decide +kernel) ⟨Nat.le_of_ble_eq_true rfl, Nat.le_of_ble_eq_true rfl⟩) ⟨fun a U g mk q => by obtain ⟨q0, qP, qK⟩ := q; exact ⟨q0, qP, va_K.moved (u := U) (U := U.calling g mk a) (Vm.Alike.refl U.vm) qK⟩, fun U hU hW => ⟨rfl, by rw [hU]; exact hPc, va_K.moved hW.alike hKc⟩⟩ rfl rfl hl.1 rfl (lv_room (Nat.le_of_ble_eq_true rfl)) dX8_sieve_42 ⟨Nat.le_of_ble_eq_true rfl, Nat.le_of_ble_eq_true rfl⟩) (fun r_7 hr_7 => ?_)
        try dsimp only at hr_7
        refine lv_istore (lv' := [(5, .int r_7), (4, .ref w_6), (3, .ref w_2), (0, .ref h0), (1, .int p1), (2, .int p2)]) hx hb dX8_sieve_45 hl (by decide) rfl (fun ls hl => ?_)
        refine lv_aload_n hx hb dX8_sieve_47 rfl (lv_at hl 2 rfl) ?_
        refine lv_aload hx hb dX8_sieve_48 (lv_at hl 1 rfl) ?_
        have hPc : va_P (dC, dI) vwCl [(w_2, .inr (6, [.ref x_w_2, .int fi_w_2, .int pl_w_2, .int db_w_2, .int go_w_2])), (w_6, .inr (6, [.ref x_w_6, .int fi_w_6, .int pl_w_6, .int db_w_6, .int go_w_6]))] s.heap := P_cons (pl_at (X := [(h0, .inr (8, [.ref n0, .ref s0, .ref s1, .ref d0, .ref o0, .int dn, .int nn, .int la, .int ne, .int wi, .ref w0, .ref e0, .ref f0, .ref t0, .ref b0, .int lm])), (n0, .inr (1, [.ref na, .int sz9])), (na, .inl (cT, 16, .inr (.inr (.inr (.inr ga)))))]) hP hL_w_2 hf_w_2) (P_cons (pl_at (X := [(h0, .inr (8, [.ref n0, .ref s0, .ref s1, .ref d0, .ref o0, .int dn, .int nn, .int la, .int ne, .int wi, .ref w0, .ref e0, .ref f0, .ref t0, .ref b0, .int lm])), (n0, .inr (1, [.ref na, .int sz9])), (na, .inl (cT, 16, .inr (.inr (.inr (.inr ga)))))]) hP hL_w_6 hf_w_6) (P_nil))
        have hKc := hK.sub (tys' := []) [] rfl
        refine vp_callSi (W.runS (As := [.ref w_2, .ref w_6]) (rest := []) ⟨hx, hb, hml, hown, hts⟩ (c_X8_lastTogether l dC dI w_2 x_w_2 fi_w_2 pl_w_2 db_w_2 go_w_2 w_6 x_w_6 fi_w_6 pl_w_6 db_w_6 go_w_6 (by first | assumption | omega) (by first | assumption | omega)) (va_cwS 2 hts g_X8_sieveE__X8_lastTogether_177 rfl rfl rfl (by decide +kernel) ⟨Nat.le_of_ble_eq_true rfl, Nat.le_of_ble_eq_true rfl⟩) ⟨fun a U g mk q => by obtain ⟨q0, qP, qK⟩ := q; exact ⟨q0, qP, va_K.moved (u := U) (U := U.calling g mk a) (Vm.Alike.refl U.vm) qK⟩, fun U hU hW => ⟨rfl, by rw [hU]; exact hPc, va_K.moved hW.alike hKc⟩⟩ rfl rfl hl.1 rfl (lv_room (Nat.le_of_ble_eq_true rfl)) dX8_sieve_50 ⟨Nat.le_of_ble_eq_true rfl, Nat.le_of_ble_eq_true rfl⟩) (fun r_8 hr_8 => ?_)
        try dsimp only at hr_8
        refine lv_istore (lv' := [(6, .int r_8), (5, .int r_7), (4, .ref w_6), (3, .ref w_2), (0, .ref h0), (1, .int p1), (2, .int p2)]) hx hb dX8_sieve_53 hl (by decide) rfl (fun ls hl => ?_)
        refine lv_aload_n hx hb dX8_sieve_55 rfl (lv_at hl 3 rfl) ?_
        obtain ⟨k_9, hk_9⟩ := pl_ix (X := [(h0, .inr (8, [.ref n0, .ref s0, .ref s1, .ref d0, .ref o0, .int dn, .int nn, .int la, .int ne, .int wi, .ref w0, .ref e0, .ref f0, .ref t0, .ref b0, .int lm])), (n0, .inr (1, [.ref na, .int sz9])), (na, .inl (cT, 16, .inr (.inr (.inr (.inr ga)))))]) hL_w_2 hf_w_2
        refine va_get (D := (dC, dI)) (ci := 6) (v := .int go_w_2) (C := RX6) (T := TX6) (N := 5) hx hb hts in_X8_sieveE_X6 hown hK hP k_9 hk_9 rfl 4 (by decide) (hts (.fieldLink RX8 108 "MeetingsAbove$Thing" "gone" "Z") (by decide +kernel)) (fun _ h9 => h9) rfl dX8_sieve_56 ?_
        refine lv_if_ne (tgt := 77) hx hb dX8_sieve_59 (by decide) (fun c_59 => ?_) (fun c_59 => ?_)
        · have t_59 := mt (fa_eq _ _).mpr c_59
          refine lv_iconst (v := 0) hx hb dX8_sieve_77 (by decide) ?_
          exact W.iret (v := 0) hx hb hr (fun t ht _ => ⟨_, rfl, (Or.inr (Or.inr ⟨⟨by omega, by omega⟩, by omega, by rw [hv_w_2, hv_w_6]; exact sv_mk hr_7 hr_8 (Or.inl ⟨by omega, by decide⟩)⟩)), ht⟩) (fun _ h => absurd h List.not_mem_nil) dX8_sieve_78
        · have t_59 := (fa_eq _ _).mp c_59
          refine lv_aload hx hb dX8_sieve_62 (lv_at hl 2 rfl) ?_
          obtain ⟨k_10, hk_10⟩ := pl_ix (X := [(h0, .inr (8, [.ref n0, .ref s0, .ref s1, .ref d0, .ref o0, .int dn, .int nn, .int la, .int ne, .int wi, .ref w0, .ref e0, .ref f0, .ref t0, .ref b0, .int lm])), (n0, .inr (1, [.ref na, .int sz9])), (na, .inl (cT, 16, .inr (.inr (.inr (.inr ga)))))]) hL_w_6 hf_w_6
          refine va_get (D := (dC, dI)) (ci := 6) (v := .int go_w_6) (C := RX6) (T := TX6) (N := 5) hx hb hts in_X8_sieveE_X6 hown hK hP k_10 hk_10 rfl 4 (by decide) (hts (.fieldLink RX8 108 "MeetingsAbove$Thing" "gone" "Z") (by decide +kernel)) (fun _ h9 => h9) rfl dX8_sieve_64 ?_
          refine lv_if_ne (tgt := 77) hx hb dX8_sieve_67 (by decide) (fun c_67 => ?_) (fun c_67 => ?_)
          · have t_67 := mt (fa_eq _ _).mpr c_67
            refine lv_iconst (v := 0) hx hb dX8_sieve_77 (by decide) ?_
            exact W.iret (v := 0) hx hb hr (fun t ht _ => ⟨_, rfl, (Or.inr (Or.inr ⟨⟨by omega, by omega⟩, by omega, by rw [hv_w_2, hv_w_6]; exact sv_mk hr_7 hr_8 (Or.inl ⟨by omega, by decide⟩)⟩)), ht⟩) (fun _ h => absurd h List.not_mem_nil) dX8_sieve_78
          · have t_67 := (fa_eq _ _).mp c_67
            refine lv_iload hx hb dX8_sieve_70 (lv_at hl 1 rfl) ?_
            refine lv_iload hx hb dX8_sieve_72 (lv_at hl 0 rfl) ?_
            refine lv_icmp_le (tgt := 79) hx hb dX8_sieve_74 (by decide) (fun c_74 => ?_) (fun c_74 => ?_)
            · have t_74 := (fa_le _ _).mp c_74
              refine lv_aload_n hx hb dX8_sieve_79 rfl (lv_at hl 4 rfl) ?_
              refine lv_aload_n hx hb dX8_sieve_80 rfl (lv_at hl 3 rfl) ?_
              refine lv_aload hx hb dX8_sieve_81 (lv_at hl 2 rfl) ?_
              refine lv_iload hx hb dX8_sieve_83 (lv_at hl 1 rfl) ?_
              refine lv_iload hx hb dX8_sieve_85 (lv_at hl 0 rfl) ?_
              have hPc : va_P (dC, dI) vwCl [(h0, .inr (8, [.ref n0, .ref s0, .ref s1, .ref d0, .ref o0, .int dn, .int nn, .int la, .int ne, .int wi, .ref w0, .ref e0, .ref f0, .ref t0, .ref b0, .int lm])), (w_2, .inr (6, [.ref x_w_2, .int fi_w_2, .int pl_w_2, .int db_w_2, .int go_w_2])), (x_w_2, .inl (cI, 36, .inl g_w_2)), (w_6, .inr (6, [.ref x_w_6, .int fi_w_6, .int pl_w_6, .int db_w_6, .int go_w_6])), (x_w_6, .inl (cI, 36, .inl g_w_6))] s.heap := P_cons (hP.sub (ws' := [(h0, .inr (8, [.ref n0, .ref s0, .ref s1, .ref d0, .ref o0, .int dn, .int nn, .int la, .int ne, .int wi, .ref w0, .ref e0, .ref f0, .ref t0, .ref b0, .int lm]))]) [0] rfl) (P_cons (pl_at (X := [(h0, .inr (8, [.ref n0, .ref s0, .ref s1, .ref d0, .ref o0, .int dn, .int nn, .int la, .int ne, .int wi, .ref w0, .ref e0, .ref f0, .ref t0, .ref b0, .int lm])), (n0, .inr (1, [.ref na, .int sz9])), (na, .inl (cT, 16, .inr (.inr (.inr (.inr ga)))))]) hP hL_w_2 hf_w_2) (P_cons (pl_at (X := [(h0, .inr (8, [.ref n0, .ref s0, .ref s1, .ref d0, .ref o0, .int dn, .int nn, .int la, .int ne, .int wi, .ref w0, .ref e0, .ref f0, .ref t0, .ref b0, .int lm])), (n0, .inr (1, [.ref na, .int sz9])), (na, .inl (cT, 16, .inr (.inr (.inr (.inr ga)))))]) hP hX_w_2 hg_w_2) (P_cons (pl_at (X := [(h0, .inr (8, [.ref n0, .ref s0, .ref s1, .ref d0, .ref o0, .int dn, .int nn, .int la, .int ne, .int wi, .ref w0, .ref e0, .ref f0, .ref t0, .ref b0, .int lm])), (n0, .inr (1, [.ref na, .int sz9])), (na, .inl (cT, 16, .inr (.inr (.inr (.inr ga)))))]) hP hL_w_6 hf_w_6) (P_cons (pl_at (X := [(h0, .inr (8, [.ref n0, .ref s0, .ref s1, .ref d0, .ref o0, .int dn, .int nn, .int la, .int ne, .int wi, .ref w0, .ref e0, .ref f0, .ref t0, .ref b0, .int lm])), (n0, .inr (1, [.ref na, .int sz9])), (na, .inl (cT, 16, .inr (.inr (.inr (.inr ga)))))]) hP hX_w_6 hg_w_6) (P_nil)))))
              have hKc := hK.sub (tys' := [(cI, .int)]) [1] rfl
              refine vp_callSi (W.runV (As := [.ref w_2, .ref w_6, .int r_7, .int r_8]) (rest := []) ⟨hx, hb, hml, hown, hts⟩ (c_X8_areApartE l dC dI h0 n0 s0 s1 d0 o0 w0 e0 f0 t0 b0 dn nn la ne wi lm w_2 x_w_2 fi_w_2 pl_w_2 db_w_2 go_w_2 g_w_2 w_6 x_w_6 fi_w_6 pl_w_6 db_w_6 go_w_6 g_w_6 cI r_7 r_8 (by first | assumption | omega) (by first | assumption | omega) (by first | assumption | omega) (by first | assumption | omega) (by first | assumption | omega) (by first | assumption | omega) (by first | assumption | omega) (by first | assumption | omega) (by first | assumption | omega) (by first | assumption | omega) (by first | assumption | omega)) (cwV 4 hts g_X8_sieveE__X8_areApartE_180 rfl rfl rfl (by decide +kernel) ⟨Nat.le_of_ble_eq_true rfl, Nat.le_of_ble_eq_true rfl⟩) ⟨fun a U g mk q => by obtain ⟨q0, qP, qK⟩ := q; exact ⟨q0, qP, va_K.moved (u := U) (U := U.calling g mk a) (Vm.Alike.refl U.vm) qK⟩, va_recv hKc hPc (ci := 8) (q0 := 0) rfl rfl, fun U hU hW => ⟨rfl, by rw [hU]; exact hPc, va_K.moved hW.alike hKc⟩⟩ rfl rfl hl.1 rfl (lv_room (Nat.le_of_ble_eq_true rfl)) dX8_sieve_87 ⟨Nat.le_of_ble_eq_true rfl, Nat.le_of_ble_eq_true rfl⟩) (fun r_11 hr_11 => ?_)
              try dsimp only at hr_11
              refine lv_if_eq (tgt := 95) hx hb dX8_sieve_90 (by decide) (fun c_90 => ?_) (fun c_90 => ?_)
              · have t_90 := (fa_eq _ _).mp c_90
                refine lv_aload_n hx hb dX8_sieve_95 rfl (lv_at hl 4 rfl) ?_
                refine lv_aload_n hx hb dX8_sieve_96 rfl (lv_at hl 3 rfl) ?_
                refine lv_aload hx hb dX8_sieve_97 (lv_at hl 2 rfl) ?_
                refine lv_iload hx hb dX8_sieve_99 (lv_at hl 1 rfl) ?_
                refine lv_iload hx hb dX8_sieve_101 (lv_at hl 0 rfl) ?_
                have hPc : va_P (dC, dI) vwCl [(h0, .inr (8, [.ref n0, .ref s0, .ref s1, .ref d0, .ref o0, .int dn, .int nn, .int la, .int ne, .int wi, .ref w0, .ref e0, .ref f0, .ref t0, .ref b0, .int lm])), (w_2, .inr (6, [.ref x_w_2, .int fi_w_2, .int pl_w_2, .int db_w_2, .int go_w_2])), (x_w_2, .inl (cI, 36, .inl g_w_2)), (w_6, .inr (6, [.ref x_w_6, .int fi_w_6, .int pl_w_6, .int db_w_6, .int go_w_6])), (x_w_6, .inl (cI, 36, .inl g_w_6))] s.heap := P_cons (hP.sub (ws' := [(h0, .inr (8, [.ref n0, .ref s0, .ref s1, .ref d0, .ref o0, .int dn, .int nn, .int la, .int ne, .int wi, .ref w0, .ref e0, .ref f0, .ref t0, .ref b0, .int lm]))]) [0] rfl) (P_cons (pl_at (X := [(h0, .inr (8, [.ref n0, .ref s0, .ref s1, .ref d0, .ref o0, .int dn, .int nn, .int la, .int ne, .int wi, .ref w0, .ref e0, .ref f0, .ref t0, .ref b0, .int lm])), (n0, .inr (1, [.ref na, .int sz9])), (na, .inl (cT, 16, .inr (.inr (.inr (.inr ga)))))]) hP hL_w_2 hf_w_2) (P_cons (pl_at (X := [(h0, .inr (8, [.ref n0, .ref s0, .ref s1, .ref d0, .ref o0, .int dn, .int nn, .int la, .int ne, .int wi, .ref w0, .ref e0, .ref f0, .ref t0, .ref b0, .int lm])), (n0, .inr (1, [.ref na, .int sz9])), (na, .inl (cT, 16, .inr (.inr (.inr (.inr ga)))))]) hP hX_w_2 hg_w_2) (P_cons (pl_at (X := [(h0, .inr (8, [.ref n0, .ref s0, .ref s1, .ref d0, .ref o0, .int dn, .int nn, .int la, .int ne, .int wi, .ref w0, .ref e0, .ref f0, .ref t0, .ref b0, .int lm])), (n0, .inr (1, [.ref na, .int sz9])), (na, .inl (cT, 16, .inr (.inr (.inr (.inr ga)))))]) hP hL_w_6 hf_w_6) (P_cons (pl_at (X := [(h0, .inr (8, [.ref n0, .ref s0, .ref s1, .ref d0, .ref o0, .int dn, .int nn, .int la, .int ne, .int wi, .ref w0, .ref e0, .ref f0, .ref t0, .ref b0, .int lm])), (n0, .inr (1, [.ref na, .int sz9])), (na, .inl (cT, 16, .inr (.inr (.inr (.inr ga)))))]) hP hX_w_6 hg_w_6) (P_nil)))))
                have hKc := hK.sub (tys' := [(cI, .int)]) [1] rfl
                refine vp_callSi (W.runV (As := [.ref w_2, .ref w_6, .int r_7, .int r_8]) (rest := []) ⟨hx, hb, hml, hown, hts⟩ (c_X8_areApartOnEachWayE l dC dI h0 n0 s0 s1 d0 o0 w0 e0 f0 t0 b0 dn nn la ne wi lm w_2 x_w_2 fi_w_2 pl_w_2 db_w_2 go_w_2 g_w_2 w_6 x_w_6 fi_w_6 pl_w_6 db_w_6 go_w_6 g_w_6 cI r_7 r_8 (by first | assumption | omega) (by first | assumption | omega) (by first | assumption | omega) (by first | assumption | omega) (by first | assumption | omega) (by first | assumption | omega) (by first | assumption | omega) (by first | assumption | omega) (by first | assumption | omega) (by first | assumption | omega) (by first | assumption | omega)) (cwV 4 hts g_X8_sieveE__X8_areApartOnEachWayE_184 rfl rfl rfl (by decide +kernel) ⟨Nat.le_of_ble_eq_true rfl, Nat.le_of_ble_eq_true rfl⟩) ⟨fun a U g mk q => by obtain ⟨q0, qP, qK⟩ := q; exact ⟨q0, qP, va_K.moved (u := U) (U := U.calling g mk a) (Vm.Alike.refl U.vm) qK⟩, va_recv hKc hPc (ci := 8) (q0 := 0) rfl rfl, fun U hU hW => ⟨rfl, by rw [hU]; exact hPc, va_K.moved hW.alike hKc⟩⟩ rfl rfl hl.1 rfl (lv_room (Nat.le_of_ble_eq_true rfl)) dX8_sieve_103 ⟨Nat.le_of_ble_eq_true rfl, Nat.le_of_ble_eq_true rfl⟩) (fun r_12 hr_12 => ?_)
                try dsimp only at hr_12
                refine lv_if_eq (tgt := 113) hx hb dX8_sieve_106 (by decide) (fun c_106 => ?_) (fun c_106 => ?_)
                · have t_106 := (fa_eq _ _).mp c_106
                  refine lv_iconst (v := 3) hx hb dX8_sieve_113 (by decide) ?_
                  exact W.iret (v := 3) hx hb hr (fun t ht _ => ⟨_, rfl, (Or.inr (Or.inr ⟨⟨by omega, by omega⟩, by omega, by rw [hv_w_2, hv_w_6]; exact sv_mk hr_7 hr_8 (Or.inr (Or.inr (Or.inr ⟨⟨by omega, by omega, by omega⟩, tv_0 hr_11 c_90, wy_3 (tv_0 hr_12 c_106), by decide⟩)))⟩)), ht⟩) (fun _ h => absurd h List.not_mem_nil) dX8_sieve_114
                · have t_106 := mt (fa_eq _ _).mpr c_106
                  refine lv_iconst (v := 2) hx hb dX8_sieve_109 (by decide) ?_
                  refine lv_goto (tgt := 114) hx hb dX8_sieve_110 (by decide) ?_
                  exact W.iret (v := 2) hx hb hr (fun t ht _ => ⟨_, rfl, (Or.inr (Or.inr ⟨⟨by omega, by omega⟩, by omega, by rw [hv_w_2, hv_w_6]; exact sv_mk hr_7 hr_8 (Or.inr (Or.inr (Or.inl ⟨⟨by omega, by omega, by omega⟩, tv_0 hr_11 c_90, wy_2 (tv_1 hr_12 c_106) (tv_0 hr_11 c_90), by decide⟩)))⟩)), ht⟩) (fun _ h => absurd h List.not_mem_nil) dX8_sieve_114
              · have t_90 := mt (fa_eq _ _).mpr c_90
                refine lv_iconst (v := 1) hx hb dX8_sieve_93 (by decide) ?_
                exact W.iret (v := 1) hx hb hr (fun t ht _ => ⟨_, rfl, (Or.inr (Or.inr ⟨⟨by omega, by omega⟩, by omega, by rw [hv_w_2, hv_w_6]; exact sv_mk hr_7 hr_8 (Or.inr (Or.inl ⟨⟨by omega, by omega, by omega⟩, tv_1 hr_11 c_90, by decide⟩))⟩)), ht⟩) (fun _ h => absurd h List.not_mem_nil) dX8_sieve_94
            · have t_74 := mt (fa_le _ _).mpr c_74
              refine lv_iconst (v := 0) hx hb dX8_sieve_77 (by decide) ?_
              exact W.iret (v := 0) hx hb hr (fun t ht _ => ⟨_, rfl, (Or.inr (Or.inr ⟨⟨by omega, by omega⟩, by omega, by rw [hv_w_2, hv_w_6]; exact sv_mk hr_7 hr_8 (Or.inl ⟨by omega, by decide⟩)⟩)), ht⟩) (fun _ h => absurd h List.not_mem_nil) dX8_sieve_78
      · have t_33 := (fa_eq _ _).mp c_33
        refine lv_ldc hx hb hown (hts (.constant RX8 116 (-100003)) (by decide +kernel)) dX8_sieve_36 ?_
        exact W.iret (v := (-100003)) hx hb hr (fun t ht _ => ⟨_, rfl, (Or.inr (Or.inl ⟨⟨by omega, by omega⟩, by omega, rfl⟩)), ht⟩) (fun _ h => absurd h List.not_mem_nil) dX8_sieve_38
