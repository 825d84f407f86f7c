def wk_X8_share : List Cond := .code yX8_share cX8_share 12 (some .long) :: (([.fieldLink RX8 12 "MeetingsAbove" "now" "LMeetingsAbove$Catalogue;", .constantLong RX8 187 (-100001), .constantLong RX8 195 (-100003), .fieldLink RX8 58 "MeetingsAbove" "shared" "LMeetingsAbove$Fraction;", .fieldLink RX8 204 "MeetingsAbove$Fraction" "lower" "J", .fieldLink RX8 200 "MeetingsAbove$Fraction" "upper" "J", .constantLong RX8 189 (-100002)] : List Cond) ++ (wsX80 ++ (wsX30 ++ ((wsV RX8 103 RX1 yX1_find wk_X1_find) ++ ((va_wsS RX8 76 yX8_isStep wk_X8_isStep) ++ ((va_wsS RX8 84 yX8_isWithin wk_X8_isWithin) ++ ((wsV RX8 120 RX6 yX6_hasPlace wk_X6_hasPlace) ++ ((wsV RX8 224 RX3 yX3_become wk_X3_become) ++ ((wsV RX8 217 RX8 yX8_closePairs wk_X8_closePairs) ++ ((wsV RX8 221 RX6 yX6_boxSide wk_X6_boxSide) ++ ([])))))))))))
theorem in_X8_share_X3 : ∀ w ∈ wsX30, w ∈ wk_X8_share := fun _ h => List.mem_cons_of_mem _ (List.mem_append_right _ (List.mem_append_right _ (List.mem_append_left _ h)))
theorem in_X8_share_X8 : ∀ w ∈ wsX80, w ∈ wk_X8_share := fun _ h => List.mem_cons_of_mem _ (List.mem_append_right _ (List.mem_append_left _ h))
theorem gw_X8_share : AG wk_X8_share := AG_ca (AG_l (by decide +kernel)) (AG_app ag_X8 (AG_app ag_X3 (AG_app (AG_V gw_X1_find) (AG_app (AG_S gw_X8_isStep) (AG_app (AG_S gw_X8_isWithin) (AG_app (AG_V gw_X6_hasPlace) (AG_app (AG_V gw_X3_become) (AG_app (AG_V gw_X8_closePairs) (AG_app (AG_V gw_X6_boxSide) (AG_nil))))))))))
theorem g_X8_share__X1_find_103 : GoodIn wk_X8_share (wsV RX8 103 RX1 yX1_find wk_X1_find) := goodIn_m (fun _ h => List.mem_cons_of_mem _ (List.mem_append_right _ (List.mem_append_right _ (List.mem_append_right _ (List.mem_append_left _ h))))) (AG_V gw_X1_find)
theorem g_X8_share__X8_isStep_76 : GoodIn wk_X8_share (va_wsS RX8 76 yX8_isStep wk_X8_isStep) := goodIn_m (fun _ h => List.mem_cons_of_mem _ (List.mem_append_right _ (List.mem_append_right _ (List.mem_append_right _ (List.mem_append_right _ (List.mem_append_left _ h)))))) (AG_S gw_X8_isStep)
theorem g_X8_share__X8_isWithin_84 : GoodIn wk_X8_share (va_wsS RX8 84 yX8_isWithin wk_X8_isWithin) := goodIn_m (fun _ h => List.mem_cons_of_mem _ (List.mem_append_right _ (List.mem_append_right _ (List.mem_append_right _ (List.mem_append_right _ (List.mem_append_right _ (List.mem_append_left _ h))))))) (AG_S gw_X8_isWithin)
theorem g_X8_share__X6_hasPlace_120 : GoodIn wk_X8_share (wsV RX8 120 RX6 yX6_hasPlace wk_X6_hasPlace) := goodIn_m (fun _ h => List.mem_cons_of_mem _ (List.mem_append_right _ (List.mem_append_right _ (List.mem_append_right _ (List.mem_append_right _ (List.mem_append_right _ (List.mem_append_right _ (List.mem_append_left _ h)))))))) (AG_V gw_X6_hasPlace)
theorem g_X8_share__X3_become_224 : GoodIn wk_X8_share (wsV RX8 224 RX3 yX3_become wk_X3_become) := goodIn_m (fun _ h => List.mem_cons_of_mem _ (List.mem_append_right _ (List.mem_append_right _ (List.mem_append_right _ (List.mem_append_right _ (List.mem_append_right _ (List.mem_append_right _ (List.mem_append_right _ (List.mem_append_left _ h))))))))) (AG_V gw_X3_become)
theorem g_X8_share__X8_closePairs_217 : GoodIn wk_X8_share (wsV RX8 217 RX8 yX8_closePairs wk_X8_closePairs) := goodIn_m (fun _ h => List.mem_cons_of_mem _ (List.mem_append_right _ (List.mem_append_right _ (List.mem_append_right _ (List.mem_append_right _ (List.mem_append_right _ (List.mem_append_right _ (List.mem_append_right _ (List.mem_append_right _ (List.mem_append_left _ h)))))))))) (AG_V gw_X8_closePairs)
theorem g_X8_share__X6_boxSide_221 : GoodIn wk_X8_share (wsV RX8 221 RX6 yX6_boxSide wk_X6_boxSide) := goodIn_m (fun _ h => List.mem_cons_of_mem _ (List.mem_append_right _ (List.mem_append_right _ (List.mem_append_right _ (List.mem_append_right _ (List.mem_append_right _ (List.mem_append_right _ (List.mem_append_right _ (List.mem_append_right _ (List.mem_append_right _ (List.mem_append_left _ h))))))))))) (AG_V gw_X6_boxSide)
set_option maxHeartbeats 4000000 in
set_option maxRecDepth 100000 in
theorem c_X8_share (l : Launch) (dC : Nat → ClassId) (dI : Nat → Nat → Nat) (h0 : Nat) (n0 : Nat) (s0 : Nat) (s1 : Nat) (d0 : Nat) (o0 : Nat) (w0 : Nat) (e0 : Nat) (f0 : Nat) (t0 : Nat) (b0 : Nat) (dn : Int32) (nn : Int32) (la : Int32) (ne : Int32) (wi : Int32) (lm : Int32) (na : Nat) (cT : ClassId) (sz9 : Int32) (ga : Nat → Option Nat) (cI : ClassId) (L : List Nat) (f : Nat → va_E) (ow : Nat → Nat) (v : Nat → TV) (su : Int64) (sl : Int64) (p1 : Int32) (p2 : Int32) (p3 : Int32) (p4 : Int32) (sz : Nat) (hV : nowV L f cI ow sz9 ga v) : Met l yX8_share wk_X8_share ({ frames := 2, cells := 0, slots := 0, locals := 56 }) (va_Pc [.ref h0, .int p1, .int p2, .int p3, .int p4] (fun U => U.heap.size = sz ∧ va_P (dC, dI) vwCl (([(h0, .inr (8, [.ref n0, .ref s0, .ref s1, .ref d0, .ref o0, .int dn, .int nn, .int la, .int ne, .int wi, .ref w0, .ref e0, .ref f0, .ref t0, .ref b0, .int lm])), (n0, .inr (1, [.ref na, .int sz9])), (na, .inl (cT, 16, .inr (.inr (.inr (.inr ga))))), (f0, .inr (3, [.long su, .long sl]))] : va_W) ++ va_pl L f) U.heap ∧ va_K (dC, dI) vwCl [(cT, .object "MeetingsAbove$Thing"), (cI, .int)] U ∧ va_D (fun _ => True) (([(h0, .inr (8, [.ref n0, .ref s0, .ref s1, .ref d0, .ref o0, .int dn, .int nn, .int la, .int ne, .int wi, .ref w0, .ref e0, .ref f0, .ref t0, .ref b0, .int lm])), (n0, .inr (1, [.ref na, .int sz9])), (na, .inl (cT, 16, .inr (.inr (.inr (.inr ga))))), (f0, .inr (3, [.long su, .long sl]))] : va_W) ++ va_pl L f))) (va_Ql (fun (r : Int64) (_ : Unit) => True) (fun (_ : Unit) (t : State) => ∃ (u9 : Int64) (l9 : Int64), va_P (dC, dI) vwCl (([(h0, .inr (8, [.ref n0, .ref s0, .ref s1, .ref d0, .ref o0, .int dn, .int nn, .int la, .int ne, .int wi, .ref w0, .ref e0, .ref f0, .ref t0, .ref b0, .int lm])), (n0, .inr (1, [.ref na, .int sz9])), (na, .inl (cT, 16, .inr (.inr (.inr (.inr ga))))), (f0, .inr (3, [.long u9, .long l9]))] : va_W) ++ va_pl L f) t.heap ∧ va_K (dC, dI) vwCl [(cT, .object "MeetingsAbove$Thing"), (cI, .int)] t ∧ va_D (va_A (([(h0, .inr (8, [.ref n0, .ref s0, .ref s1, .ref d0, .ref o0, .int dn, .int nn, .int la, .int ne, .int wi, .ref w0, .ref e0, .ref f0, .ref t0, .ref b0, .int lm])), (n0, .inr (1, [.ref na, .int sz9])), (na, .inl (cT, 16, .inr (.inr (.inr (.inr ga))))), (f0, .inr (3, [.long su, .long sl]))] : va_W) ++ va_pl L f) sz) (([(h0, .inr (8, [.ref n0, .ref s0, .ref s1, .ref d0, .ref o0, .int dn, .int nn, .int la, .int ne, .int wi, .ref w0, .ref e0, .ref f0, .ref t0, .ref b0, .int lm])), (n0, .inr (1, [.ref na, .int sz9])), (na, .inl (cT, 16, .inr (.inr (.inr (.inr ga))))), (f0, .inr (3, [.long u9, .long l9]))] : va_W) ++ va_pl L f)) (va_A (([(h0, .inr (8, [.ref n0, .ref s0, .ref s1, .ref d0, .ref o0, .int dn, .int nn, .int la, .int ne, .int wi, .ref w0, .ref e0, .ref f0, .ref t0, .ref b0, .int lm])), (n0, .inr (1, [.ref na, .int sz9])), (na, .inl (cT, 16, .inr (.inr (.inr (.inr ga))))), (f0, .inr (3, [.long su, .long sl]))] : va_W) ++ va_pl L f) sz)) 0 0 (va_A (([(h0, .inr (8, [.ref n0, .ref s0, .ref s1, .ref d0, .ref o0, .int dn, .int nn, .int la, .int ne, .int wi, .ref w0, .ref e0, .ref f0, .ref t0, .ref b0, .int lm])), (n0, .inr (1, [.ref na, .int sz9])), (na, .inl (cT, 16, .inr (.inr (.inr (.inr ga))))), (f0, .inr (3, [.long su, .long sl]))] : va_W) ++ va_pl L f) sz) := by
  refine Met.ofW (cc := cX8_share) (maxL := 12) (ret := (some .long)) (by decide) rfl ?_
  intro p e s m args below meth c s₁ B hml hv
  obtain ⟨rfl, hsz, hP, hK, hD0⟩ := hv
  have hx := B.exec
  have hb := B.bytes
  have hr := B.returns
  have hts := atoms_spec (ws := wk_X8_share) B.pre
  have hown : s.vm.findClass RX8 = some m.cls := findClass_of_methodNamed B.named
  have hlocks := B.notSynchronized
  subst hsz
  have hD := hD0.self (sz := s.heap.size)
  generalize hAe : va_A (([(h0, .inr (8, [.ref n0, .ref s0, .ref s1, .ref d0, .ref o0, .int dn, .int nn, .int la, .int ne, .int wi, .ref w0, .ref e0, .ref f0, .ref t0, .ref b0, .int lm])), (n0, .inr (1, [.ref na, .int sz9])), (na, .inl (cT, 16, .inr (.inr (.inr (.inr ga))))), (f0, .inr (3, [.long su, .long sl]))] : va_W) ++ va_pl L f) s.heap.size = A at hD ⊢
  have hA : ∀ q : Nat, s.heap.size ≤ q → A q := fun q h => by rw [← hAe]; exact Or.inr h
  have hS : va_S A s.heap s.heap [] := va_S.rf
  have hP : va_P (dC, dI) vwCl (([(h0, .inr (8, [.ref n0, .ref s0, .ref s1, .ref d0, .ref o0, .int dn, .int nn, .int la, .int ne, .int wi, .ref w0, .ref e0, .ref f0, .ref t0, .ref b0, .int lm])), (n0, .inr (1, [.ref na, .int sz9])), (na, .inl (cT, 16, .inr (.inr (.inr (.inr ga))))), (f0, .inr (3, [.long su, .long sl]))] : va_W) ++ va_pl L f) s.heap := hP
  have hl := lv_entry ([.ref h0, .int p1, .int p2, .int p3, .int p4]) (n := 12) (Nat.le_of_ble_eq_true rfl)
  rw [lg_entry_eq]
  generalize (lg_sl ([.ref h0, .int p1, .int p2, .int p3, .int p4]) ++ List.replicate (12 - (lg_sl ([.ref h0, .int p1, .int p2, .int p3, .int p4])).length) Slot.unset).toArray = ls at hl ⊢
  have hl : lv_has ls 12 [(0, .ref h0), (1, .int p1), (2, .int p2), (3, .int p3), (4, .int p4)] := hl
  have kl_0 : (0 : Int32).toInt = 0 := by decide
  have kl_1 : (1 : Int32).toInt = 1 := by decide
  have kl_3 : (3 : Int32).toInt = 3 := by decide
  have klL_m100003 : (-100003 : Int64).toInt = -100003 := by decide
  have klL_m100002 : (-100002 : Int64).toInt = -100002 := by decide
  have klL_m100001 : (-100001 : Int64).toInt = -100001 := by decide
  have klL_1 : (1 : Int64).toInt = 1 := by decide
  have hC := nowV_cat hV
  obtain ⟨hC0, hC1, hC2⟩ := id hC
  refine lv_aload_n hx hb dX8_share_0 rfl (lv_at hl 0 rfl) ?_
  refine va_get (D := (dC, dI)) (ci := 8) (v := .ref n0) (C := RX8) (T := TX8) (N := 16) hx hb hts in_X8_share_X8 hown hK hP 0 rfl rfl 0 (by decide) (hts (.fieldLink RX8 12 "MeetingsAbove" "now" "LMeetingsAbove$Catalogue;") (by decide +kernel)) (fun _ h9 => h9) rfl dX8_share_1 ?_
  refine lv_iload_n hx hb dX8_share_4 rfl (lv_at hl 1 rfl) ?_
  have hPc := hP.sub (ws' := [(n0, .inr (1, [.ref na, .int sz9])), (na, .inl (cT, 16, .inr (.inr (.inr (.inr ga)))))]) [1, 2] rfl
  have hKc := hK.sub (tys' := [(cT, .object "MeetingsAbove$Thing")]) [0] rfl
  refine va_csq (W.runV (As := [.int p1]) (rest := []) ⟨hx, hb, hml, hown, hts⟩ (c_X1_find l dC dI n0 na cT sz9 ga p1) (cwV 1 hts g_X8_share__X1_find_103 rfl rfl rfl (by decide +kernel) ⟨Nat.le_of_ble_eq_true rfl, Nat.le_of_ble_eq_true rfl⟩) ⟨fun a U g mk q => by obtain ⟨q0, qP, qK⟩ := q; exact ⟨q0, qP, va_K.moved (u := U) (U := U.calling g mk a) (Vm.Alike.refl U.vm) qK⟩, va_recv hKc hPc (ci := 1) (q0 := 0) rfl rfl, fun U hU hW => ⟨rfl, by rw [hU]; exact hPc, va_K.moved hW.alike hKc⟩⟩ rfl rfl hl.1 rfl (lv_room (Nat.le_of_ble_eq_true rfl)) dX8_share_5 ⟨Nat.le_of_ble_eq_true rfl, Nat.le_of_ble_eq_true rfl⟩) (fun r_1 hr_1 => ?_)
  try dsimp only at hr_1
  rcases r_1 with _ | w_2
  · refine W.eq (g2 := F0 m 8 ls [.null]) rfl ?_
    refine lv_astoreN (lv' := [(5, .null), (0, .ref h0), (1, .int p1), (2, .int p2), (3, .int p3), (4, .int p4)]) hx hb dX8_share_8 hl (by decide) rfl (fun ls hl => ?_)
    refine lv_aload_n hx hb dX8_share_10 rfl (lv_at hl 1 rfl) ?_
    refine va_get (D := (dC, dI)) (ci := 8) (v := .ref n0) (C := RX8) (T := TX8) (N := 16) hx hb hts in_X8_share_X8 hown hK hP 0 rfl rfl 0 (by decide) (hts (.fieldLink RX8 12 "MeetingsAbove" "now" "LMeetingsAbove$Catalogue;") (by decide +kernel)) (fun _ h9 => h9) rfl dX8_share_11 ?_
    refine lv_iload_n hx hb dX8_share_14 rfl (lv_at hl 3 rfl) ?_
    have hPc := hP.sub (ws' := [(n0, .inr (1, [.ref na, .int sz9])), (na, .inl (cT, 16, .inr (.inr (.inr (.inr ga)))))]) [1, 2] rfl
    have hKc := hK.sub (tys' := [(cT, .object "MeetingsAbove$Thing")]) [0] rfl
    refine va_csq (W.runV (As := [.int p2]) (rest := []) ⟨hx, hb, hml, hown, hts⟩ (c_X1_find l dC dI n0 na cT sz9 ga p2) (cwV 1 hts g_X8_share__X1_find_103 rfl rfl rfl (by decide +kernel) ⟨Nat.le_of_ble_eq_true rfl, Nat.le_of_ble_eq_true rfl⟩) ⟨fun a U g mk q => by obtain ⟨q0, qP, qK⟩ := q; exact ⟨q0, qP, va_K.moved (u := U) (U := U.calling g mk a) (Vm.Alike.refl U.vm) qK⟩, va_recv hKc hPc (ci := 1) (q0 := 0) rfl rfl, fun U hU hW => ⟨rfl, by rw [hU]; exact hPc, va_K.moved hW.alike hKc⟩⟩ rfl rfl hl.1 rfl (lv_room (Nat.le_of_ble_eq_true rfl)) dX8_share_15 ⟨Nat.le_of_ble_eq_true rfl, Nat.le_of_ble_eq_true rfl⟩) (fun r_3 hr_3 => ?_)
    try dsimp only at hr_3
    rcases r_3 with _ | w_4
    · refine W.eq (g2 := F0 m 18 ls [.null]) rfl ?_
      refine lv_astoreN (lv' := [(6, .null), (5, .null), (0, .ref h0), (1, .int p1), (2, .int p2), (3, .int p3), (4, .int p4)]) hx hb dX8_share_18 hl (by decide) rfl (fun ls hl => ?_)
      refine lv_aloadN hx hb dX8_share_20 (lv_at hl 1 rfl) ?_
      refine lv_ifnullN (tgt := 30) hx hb dX8_share_22 (by decide) ?_
      refine lv_ldc2 hx hb hown (hts (.constantLong RX8 187 (-100001)) (by decide +kernel)) dX8_share_30 ?_
      have hP9 := hP.part (cx := [(h0, .inr (8, [.ref n0, .ref s0, .ref s1, .ref d0, .ref o0, .int dn, .int nn, .int la, .int ne, .int wi, .ref w0, .ref e0, .ref f0, .ref t0, .ref b0, .int lm])), (n0, .inr (1, [.ref na, .int sz9])), (na, .inl (cT, 16, .inr (.inr (.inr (.inr ga))))), (f0, .inr (3, [.long su, .long sl]))]) [0, 1, 2, 3] rfl
      have hD9 := hD.part (cx := [(h0, .inr (8, [.ref n0, .ref s0, .ref s1, .ref d0, .ref o0, .int dn, .int nn, .int la, .int ne, .int wi, .ref w0, .ref e0, .ref f0, .ref t0, .ref b0, .int lm])), (n0, .inr (1, [.ref na, .int sz9])), (na, .inl (cT, 16, .inr (.inr (.inr (.inr ga))))), (f0, .inr (3, [.long su, .long sl]))]) [0, 1, 2, 3] (by decide) rfl
      have hK9 := hK.sub (tys' := [(cT, .object "MeetingsAbove$Thing"), (cI, .int)]) [0, 1] rfl
      refine W.widen (k := 0) (n := 0) (by omega) (by omega) ?_
      exact W.lret (v := (-100001)) hx hb hr (fun t ht hW => ⟨⟨_, (), rfl, trivial, su, sl, by rw [ht]; exact hP9, va_K.moved hW.alike hK9, hD9⟩, hS.F ht⟩) hS.2.2 dX8_share_33
    · refine W.eq (g2 := F0 m 18 ls [.ref w_4]) rfl ?_
      obtain ⟨hi_w_4, hw_w_4⟩ := fd_some hr_3
      obtain ⟨x_w_4, fi_w_4, pl_w_4, db_w_4, go_w_4, g_w_4, hL_w_4, hX_w_4, hf_w_4, hg_w_4, ht_w_4, hgo_w_4, hdb_w_4, hco_w_4, h4_w_4, hv_w_4, oa_w_4, ox_w_4, hne_w_4⟩ := nv_of hV (by rw [tc_I (by omega)]; omega) hw_w_4
      obtain ⟨q1_w_4, q2_w_4, q3_w_4, q4_w_4⟩ := id ht_w_4
      obtain ⟨d1_w_4, d2_w_4⟩ := id hdb_w_4
      obtain ⟨e1_w_4, e2_w_4⟩ := id h4_w_4
      refine lv_astore (lv' := [(6, .ref w_4), (5, .null), (0, .ref h0), (1, .int p1), (2, .int p2), (3, .int p3), (4, .int p4)]) hx hb dX8_share_18 hl (by decide) rfl (fun ls hl => ?_)
      refine lv_aloadN hx hb dX8_share_20 (lv_at hl 1 rfl) ?_
      refine lv_ifnullN (tgt := 30) hx hb dX8_share_22 (by decide) ?_
      refine lv_ldc2 hx hb hown (hts (.constantLong RX8 187 (-100001)) (by decide +kernel)) dX8_share_30 ?_
      have hP9 := hP.part (cx := [(h0, .inr (8, [.ref n0, .ref s0, .ref s1, .ref d0, .ref o0, .int dn, .int nn, .int la, .int ne, .int wi, .ref w0, .ref e0, .ref f0, .ref t0, .ref b0, .int lm])), (n0, .inr (1, [.ref na, .int sz9])), (na, .inl (cT, 16, .inr (.inr (.inr (.inr ga))))), (f0, .inr (3, [.long su, .long sl]))]) [0, 1, 2, 3] rfl
      have hD9 := hD.part (cx := [(h0, .inr (8, [.ref n0, .ref s0, .ref s1, .ref d0, .ref o0, .int dn, .int nn, .int la, .int ne, .int wi, .ref w0, .ref e0, .ref f0, .ref t0, .ref b0, .int lm])), (n0, .inr (1, [.ref na, .int sz9])), (na, .inl (cT, 16, .inr (.inr (.inr (.inr ga))))), (f0, .inr (3, [.long su, .long sl]))]) [0, 1, 2, 3] (by decide) rfl
      have hK9 := hK.sub (tys' := [(cT, .object "MeetingsAbove$Thing"), (cI, .int)]) [0, 1] rfl
      refine W.widen (k := 0) (n := 0) (by omega) (by omega) ?_
      exact W.lret (v := (-100001)) hx hb hr (fun t ht hW => ⟨⟨_, (), rfl, trivial, su, sl, by rw [ht]; exact hP9, va_K.moved hW.alike hK9, hD9⟩, hS.F ht⟩) hS.2.2 dX8_share_33
  · refine W.eq (g2 := F0 m 8 ls [.ref w_2]) rfl ?_
    obtain ⟨hi_w_2, hw_w_2⟩ := fd_some hr_1
    obtain ⟨x_w_2, fi_w_2, pl_w_2, db_w_2, go_w_2, g_w_2, hL_w_2, hX_w_2, hf_w_2, hg_w_2, ht_w_2, hgo_w_2, hdb_w_2, hco_w_2, h4_w_2, hv_w_2, oa_w_2, ox_w_2, hne_w_2⟩ := nv_of hV (by rw [tc_I (by omega)]; omega) hw_w_2
    obtain ⟨q1_w_2, q2_w_2, q3_w_2, q4_w_2⟩ := id ht_w_2
    obtain ⟨d1_w_2, d2_w_2⟩ := id hdb_w_2
    obtain ⟨e1_w_2, e2_w_2⟩ := id h4_w_2
    refine lv_astore (lv' := [(5, .ref w_2), (0, .ref h0), (1, .int p1), (2, .int p2), (3, .int p3), (4, .int p4)]) hx hb dX8_share_8 hl (by decide) rfl (fun ls hl => ?_)
    refine lv_aload_n hx hb dX8_share_10 rfl (lv_at hl 1 rfl) ?_
    refine va_get (D := (dC, dI)) (ci := 8) (v := .ref n0) (C := RX8) (T := TX8) (N := 16) hx hb hts in_X8_share_X8 hown hK hP 0 rfl rfl 0 (by decide) (hts (.fieldLink RX8 12 "MeetingsAbove" "now" "LMeetingsAbove$Catalogue;") (by decide +kernel)) (fun _ h9 => h9) rfl dX8_share_11 ?_
    refine lv_iload_n hx hb dX8_share_14 rfl (lv_at hl 3 rfl) ?_
    have hPc := hP.sub (ws' := [(n0, .inr (1, [.ref na, .int sz9])), (na, .inl (cT, 16, .inr (.inr (.inr (.inr ga)))))]) [1, 2] rfl
    have hKc := hK.sub (tys' := [(cT, .object "MeetingsAbove$Thing")]) [0] rfl
    refine va_csq (W.runV (As := [.int p2]) (rest := []) ⟨hx, hb, hml, hown, hts⟩ (c_X1_find l dC dI n0 na cT sz9 ga p2) (cwV 1 hts g_X8_share__X1_find_103 rfl rfl rfl (by decide +kernel) ⟨Nat.le_of_ble_eq_true rfl, Nat.le_of_ble_eq_true rfl⟩) ⟨fun a U g mk q => by obtain ⟨q0, qP, qK⟩ := q; exact ⟨q0, qP, va_K.moved (u := U) (U := U.calling g mk a) (Vm.Alike.refl U.vm) qK⟩, va_recv hKc hPc (ci := 1) (q0 := 0) rfl rfl, fun U hU hW => ⟨rfl, by rw [hU]; exact hPc, va_K.moved hW.alike hKc⟩⟩ rfl rfl hl.1 rfl (lv_room (Nat.le_of_ble_eq_true rfl)) dX8_share_15 ⟨Nat.le_of_ble_eq_true rfl, Nat.le_of_ble_eq_true rfl⟩) (fun r_5 hr_5 => ?_)
    try dsimp only at hr_5
    rcases r_5 with _ | w_6
    · refine W.eq (g2 := F0 m 18 ls [.null]) rfl ?_
      refine lv_astoreN (lv' := [(6, .null), (5, .ref w_2), (0, .ref h0), (1, .int p1), (2, .int p2), (3, .int p3), (4, .int p4)]) hx hb dX8_share_18 hl (by decide) rfl (fun ls hl => ?_)
      refine lv_aload hx hb dX8_share_20 (lv_at hl 1 rfl) ?_
      refine lv_ifnull hx hb dX8_share_22 ?_
      refine lv_aloadN hx hb dX8_share_25 (lv_at hl 0 rfl) ?_
      refine lv_ifnonnullN hx hb dX8_share_27 ?_
      refine lv_ldc2 hx hb hown (hts (.constantLong RX8 187 (-100001)) (by decide +kernel)) dX8_share_30 ?_
      have hP9 := hP.part (cx := [(h0, .inr (8, [.ref n0, .ref s0, .ref s1, .ref d0, .ref o0, .int dn, .int nn, .int la, .int ne, .int wi, .ref w0, .ref e0, .ref f0, .ref t0, .ref b0, .int lm])), (n0, .inr (1, [.ref na, .int sz9])), (na, .inl (cT, 16, .inr (.inr (.inr (.inr ga))))), (f0, .inr (3, [.long su, .long sl]))]) [0, 1, 2, 3] rfl
      have hD9 := hD.part (cx := [(h0, .inr (8, [.ref n0, .ref s0, .ref s1, .ref d0, .ref o0, .int dn, .int nn, .int la, .int ne, .int wi, .ref w0, .ref e0, .ref f0, .ref t0, .ref b0, .int lm])), (n0, .inr (1, [.ref na, .int sz9])), (na, .inl (cT, 16, .inr (.inr (.inr (.inr ga))))), (f0, .inr (3, [.long su, .long sl]))]) [0, 1, 2, 3] (by decide) rfl
      have hK9 := hK.sub (tys' := [(cT, .object "MeetingsAbove$Thing"), (cI, .int)]) [0, 1] rfl
      refine W.widen (k := 0) (n := 0) (by omega) (by omega) ?_
      exact W.lret (v := (-100001)) hx hb hr (fun t ht hW => ⟨⟨_, (), rfl, trivial, su, sl, by rw [ht]; exact hP9, va_K.moved hW.alike hK9, hD9⟩, hS.F ht⟩) hS.2.2 dX8_share_33
    · refine W.eq (g2 := F0 m 18 ls [.ref w_6]) rfl ?_
      obtain ⟨hi_w_6, hw_w_6⟩ := fd_some hr_5
      obtain ⟨x_w_6, fi_w_6, pl_w_6, db_w_6, go_w_6, g_w_6, hL_w_6, hX_w_6, hf_w_6, hg_w_6, ht_w_6, hgo_w_6, hdb_w_6, hco_w_6, h4_w_6, hv_w_6, oa_w_6, ox_w_6, hne_w_6⟩ := nv_of hV (by rw [tc_I (by omega)]; omega) hw_w_6
      obtain ⟨q1_w_6, q2_w_6, q3_w_6, q4_w_6⟩ := id ht_w_6
      obtain ⟨d1_w_6, d2_w_6⟩ := id hdb_w_6
      obtain ⟨e1_w_6, e2_w_6⟩ := id h4_w_6
      refine lv_astore (lv' := [(6, .ref w_6), (5, .ref w_2), (0, .ref h0), (1, .int p1), (2, .int p2), (3, .int p3), (4, .int p4)]) hx hb dX8_share_18 hl (by decide) rfl (fun ls hl => ?_)
      refine lv_aload hx hb dX8_share_20 (lv_at hl 1 rfl) ?_
      refine lv_ifnull hx hb dX8_share_22 ?_
      refine lv_aload hx hb dX8_share_25 (lv_at hl 0 rfl) ?_
      refine lv_ifnonnull (tgt := 34) hx hb dX8_share_27 (by decide) ?_
      refine lv_iload_n hx hb dX8_share_34 rfl (lv_at hl 5 rfl) ?_
      refine vp_callSi (W.runS (As := [.int p3]) (rest := []) ⟨hx, hb, hml, hown, hts⟩ (c_X8_isStep l dC dI p3) (va_cwS 1 hts g_X8_share__X8_isStep_76 rfl rfl rfl (by decide +kernel) ⟨Nat.le_of_ble_eq_true rfl, Nat.le_of_ble_eq_true rfl⟩) ⟨fun a U g mk q => by obtain ⟨q0, q1⟩ := q; exact ⟨q0, q1⟩, fun U hU hW => ⟨rfl, trivial⟩⟩ rfl rfl hl.1 rfl (lv_room (Nat.le_of_ble_eq_true rfl)) dX8_share_35 ⟨Nat.le_of_ble_eq_true rfl, Nat.le_of_ble_eq_true rfl⟩) (fun r_7 hr_7 => ?_)
      try dsimp only at hr_7
      rcases bo_split hr_7 with ⟨rfl, q_35⟩ | ⟨rfl, q_35⟩
      · refine lv_if_eq (tgt := 51) hx hb dX8_share_38 (by decide) (fun h9 => absurd h9 (by decide)) (fun _ => ?_)
        refine lv_iload hx hb dX8_share_41 (lv_at hl 6 rfl) ?_
        refine lv_iconst (v := 0) hx hb dX8_share_43 (by decide) ?_
        refine lv_iconst (v := 1) hx hb dX8_share_44 (by decide) ?_
        refine vp_callSi (W.runS (As := [.int p4, .int 0, .int 1]) (rest := []) ⟨hx, hb, hml, hown, hts⟩ (c_X8_isWithin l dC dI p4 0 1) (va_cwS 3 hts g_X8_share__X8_isWithin_84 rfl rfl rfl (by decide +kernel) ⟨Nat.le_of_ble_eq_true rfl, Nat.le_of_ble_eq_true rfl⟩) ⟨fun a U g mk q => by obtain ⟨q0, q1⟩ := q; exact ⟨q0, q1⟩, fun U hU hW => ⟨rfl, trivial⟩⟩ rfl rfl hl.1 rfl (lv_room (Nat.le_of_ble_eq_true rfl)) dX8_share_45 ⟨Nat.le_of_ble_eq_true rfl, Nat.le_of_ble_eq_true rfl⟩) (fun r_8 hr_8 => ?_)
        try dsimp only at hr_8
        rcases bo_split hr_8 with ⟨rfl, q_45⟩ | ⟨rfl, q_45⟩
        · refine lv_if_ne (tgt := 55) hx hb dX8_share_48 (by decide) (fun _ => ?_) (fun h9 => absurd h9 (by decide))
          refine lv_iload_n hx hb dX8_share_55 rfl (lv_at hl 3 rfl) ?_
          refine lv_iload_n hx hb dX8_share_56 rfl (lv_at hl 4 rfl) ?_
          refine lv_icmp_eq (tgt := 78) hx hb dX8_share_57 (by decide) (fun c_57 => ?_) (fun c_57 => ?_)
          · have t_57 := (fa_eq _ _).mp c_57
            refine lv_ldc2 hx hb hown (hts (.constantLong RX8 195 (-100003)) (by decide +kernel)) dX8_share_78 ?_
            have hP9 := hP.part (cx := [(h0, .inr (8, [.ref n0, .ref s0, .ref s1, .ref d0, .ref o0, .int dn, .int nn, .int la, .int ne, .int wi, .ref w0, .ref e0, .ref f0, .ref t0, .ref b0, .int lm])), (n0, .inr (1, [.ref na, .int sz9])), (na, .inl (cT, 16, .inr (.inr (.inr (.inr ga))))), (f0, .inr (3, [.long su, .long sl]))]) [0, 1, 2, 3] rfl
            have hD9 := hD.part (cx := [(h0, .inr (8, [.ref n0, .ref s0, .ref s1, .ref d0, .ref o0, .int dn, .int nn, .int la, .int ne, .int wi, .ref w0, .ref e0, .ref f0, .ref t0, .ref b0, .int lm])), (n0, .inr (1, [.ref na, .int sz9])), (na, .inl (cT, 16, .inr (.inr (.inr (.inr ga))))), (f0, .inr (3, [.long su, .long sl]))]) [0, 1, 2, 3] (by decide) rfl
            have hK9 := hK.sub (tys' := [(cT, .object "MeetingsAbove$Thing"), (cI, .int)]) [0, 1] rfl
            refine W.widen (k := 0) (n := 0) (by omega) (by omega) ?_
            exact W.lret (v := (-100003)) hx hb hr (fun t ht hW => ⟨⟨_, (), rfl, trivial, su, sl, by rw [ht]; exact hP9, va_K.moved hW.alike hK9, hD9⟩, hS.F ht⟩) hS.2.2 dX8_share_81
          · have t_57 := mt (fa_eq _ _).mpr c_57
            refine lv_aload hx hb dX8_share_60 (lv_at hl 1 rfl) ?_
            refine lv_iload_n hx hb dX8_share_62 rfl (lv_at hl 5 rfl) ?_
            have hPc : va_P (dC, dI) vwCl [(w_2, .inr (6, [.ref x_w_2, .int fi_w_2, .int pl_w_2, .int db_w_2, .int go_w_2]))] s.heap := P_cons (pl_at (X := [(h0, .inr (8, [.ref n0, .ref s0, .ref s1, .ref d0, .ref o0, .int dn, .int nn, .int la, .int ne, .int wi, .ref w0, .ref e0, .ref f0, .ref t0, .ref b0, .int lm])), (n0, .inr (1, [.ref na, .int sz9])), (na, .inl (cT, 16, .inr (.inr (.inr (.inr ga))))), (f0, .inr (3, [.long su, .long sl]))]) hP hL_w_2 hf_w_2) (P_nil)
            have hKc := hK.sub (tys' := []) [] rfl
            refine vp_callSi (W.runV (As := [.int p3]) (rest := []) ⟨hx, hb, hml, hown, hts⟩ (c_X6_hasPlace l dC dI w_2 x_w_2 fi_w_2 pl_w_2 db_w_2 go_w_2 p3 (by first | assumption | omega)) (cwV 1 hts g_X8_share__X6_hasPlace_120 rfl rfl rfl (by decide +kernel) ⟨Nat.le_of_ble_eq_true rfl, Nat.le_of_ble_eq_true rfl⟩) ⟨fun a U g mk q => by obtain ⟨q0, qP, qK⟩ := q; exact ⟨q0, qP, va_K.moved (u := U) (U := U.calling g mk a) (Vm.Alike.refl U.vm) qK⟩, va_recv hKc hPc (ci := 6) (q0 := 0) rfl rfl, fun U hU hW => ⟨rfl, by rw [hU]; exact hPc, va_K.moved hW.alike hKc⟩⟩ rfl rfl hl.1 rfl (lv_room (Nat.le_of_ble_eq_true rfl)) dX8_share_63 ⟨Nat.le_of_ble_eq_true rfl, Nat.le_of_ble_eq_true rfl⟩) (fun r_9 hr_9 => ?_)
            try dsimp only at hr_9
            rcases bo_split hr_9 with ⟨rfl, q_63⟩ | ⟨rfl, q_63⟩
            · refine lv_if_eq (tgt := 78) hx hb dX8_share_66 (by decide) (fun h9 => absurd h9 (by decide)) (fun _ => ?_)
              refine lv_aload hx hb dX8_share_69 (lv_at hl 0 rfl) ?_
              refine lv_iload_n hx hb dX8_share_71 rfl (lv_at hl 5 rfl) ?_
              have hPc : va_P (dC, dI) vwCl [(w_6, .inr (6, [.ref x_w_6, .int fi_w_6, .int pl_w_6, .int db_w_6, .int go_w_6]))] s.heap := P_cons (pl_at (X := [(h0, .inr (8, [.ref n0, .ref s0, .ref s1, .ref d0, .ref o0, .int dn, .int nn, .int la, .int ne, .int wi, .ref w0, .ref e0, .ref f0, .ref t0, .ref b0, .int lm])), (n0, .inr (1, [.ref na, .int sz9])), (na, .inl (cT, 16, .inr (.inr (.inr (.inr ga))))), (f0, .inr (3, [.long su, .long sl]))]) hP hL_w_6 hf_w_6) (P_nil)
              have hKc := hK.sub (tys' := []) [] rfl
              refine vp_callSi (W.runV (As := [.int p3]) (rest := []) ⟨hx, hb, hml, hown, hts⟩ (c_X6_hasPlace l dC dI w_6 x_w_6 fi_w_6 pl_w_6 db_w_6 go_w_6 p3 (by first | assumption | omega)) (cwV 1 hts g_X8_share__X6_hasPlace_120 rfl rfl rfl (by decide +kernel) ⟨Nat.le_of_ble_eq_true rfl, Nat.le_of_ble_eq_true rfl⟩) ⟨fun a U g mk q => by obtain ⟨q0, qP, qK⟩ := q; exact ⟨q0, qP, va_K.moved (u := U) (U := U.calling g mk a) (Vm.Alike.refl U.vm) qK⟩, va_recv hKc hPc (ci := 6) (q0 := 0) rfl rfl, fun U hU hW => ⟨rfl, by rw [hU]; exact hPc, va_K.moved hW.alike hKc⟩⟩ rfl rfl hl.1 rfl (lv_room (Nat.le_of_ble_eq_true rfl)) dX8_share_72 ⟨Nat.le_of_ble_eq_true rfl, Nat.le_of_ble_eq_true rfl⟩) (fun r_10 hr_10 => ?_)
              try dsimp only at hr_10
              rcases bo_split hr_10 with ⟨rfl, q_72⟩ | ⟨rfl, q_72⟩
              · refine lv_if_ne (tgt := 82) hx hb dX8_share_75 (by decide) (fun _ => ?_) (fun h9 => absurd h9 (by decide))
                refine lv_lconst (v := 1) hx hb dX8_share_82 (by decide) ?_
                refine lv_lstore (lv' := [(7, .long 1), (6, .ref w_6), (5, .ref w_2), (0, .ref h0), (1, .int p1), (2, .int p2), (3, .int p3), (4, .int p4)]) hx hb dX8_share_83 hl (by decide) rfl (fun ls hl => ?_)
                refine lv_lconst (v := 1) hx hb dX8_share_85 (by decide) ?_
                refine lv_lstore (lv' := [(9, .long 1), (7, .long 1), (6, .ref w_6), (5, .ref w_2), (0, .ref h0), (1, .int p1), (2, .int p2), (3, .int p3), (4, .int p4)]) hx hb dX8_share_86 hl (by decide) rfl (fun ls hl => ?_)
                refine lv_iconst (v := 0) hx hb dX8_share_88 (by decide) ?_
                refine lv_istore (lv' := [(11, .int 0), (9, .long 1), (7, .long 1), (6, .ref w_6), (5, .ref w_2), (0, .ref h0), (1, .int p1), (2, .int p2), (3, .int p3), (4, .int p4)]) hx hb dX8_share_89 hl (by decide) rfl (fun ls hl => ?_)
                refine (show ∀ (k : Nat) (z7 : Int64) (z9 : Int64) (ax : Int32) (ha0 : 0 ≤ ax.toInt) (ha1 : ax.toInt ≤ 3) (hk_91 : (3 - ax.toInt).toNat < k) (H : Heap) (locs : List Loc) (hP : va_P (dC, dI) vwCl (([(h0, .inr (8, [.ref n0, .ref s0, .ref s1, .ref d0, .ref o0, .int dn, .int nn, .int la, .int ne, .int wi, .ref w0, .ref e0, .ref f0, .ref t0, .ref b0, .int lm])), (n0, .inr (1, [.ref na, .int sz9])), (na, .inl (cT, 16, .inr (.inr (.inr (.inr ga))))), (f0, .inr (3, [.long su, .long sl]))] : va_W) ++ va_pl L f) H) (hD : va_D A (([(h0, .inr (8, [.ref n0, .ref s0, .ref s1, .ref d0, .ref o0, .int dn, .int nn, .int la, .int ne, .int wi, .ref w0, .ref e0, .ref f0, .ref t0, .ref b0, .int lm])), (n0, .inr (1, [.ref na, .int sz9])), (na, .inl (cT, 16, .inr (.inr (.inr (.inr ga))))), (f0, .inr (3, [.long su, .long sl]))] : va_W) ++ va_pl L f)) (hS : va_S A s.heap H locs) (ls : Array Slot) (hl : lv_has ls 12 [(0, .ref h0), (1, .int p1), (2, .int p2), (3, .int p3), (4, .int p4), (5, .ref w_2), (6, .ref w_6), (7, .long z7), (9, .long z9), (11, .int ax)]), W p l e _ s m _ below meth c H locs 0 0 _ (F0 m 91 ls []) from ?_) _ 1 1 0 (by omega) (by omega) (Nat.lt_succ_self _) _ _ hP hD hS ls (lv_sub hl [5, 6, 7, 8, 9, 4, 3, 2, 1, 0] rfl)
                intro k
                induction k with
                | zero => intro z7 z9 ax ha0 ha1 hk_91; exact absurd hk_91 (Nat.not_lt_zero _)
                | succ k ih_91 =>
                  intro z7 z9 ax ha0 ha1 hk_91 H locs hP hD hS ls hl
                  refine lv_iload hx hb dX8_share_91 (lv_at hl 9 rfl) ?_
                  refine lv_iconst (v := 3) hx hb dX8_share_93 (by decide) ?_
                  refine lv_icmp_ge (tgt := 137) hx hb dX8_share_94 (by decide) (fun c_94 => ?_) (fun c_94 => ?_)
                  · have t_94 := (fa_le _ _).mp c_94
                    refine lv_aload_n hx hb dX8_share_137 rfl (lv_at hl 0 rfl) ?_
                    refine va_get (D := (dC, dI)) (ci := 8) (v := .ref f0) (C := RX8) (T := TX8) (N := 16) hx hb hts in_X8_share_X8 hown hK hP 0 rfl rfl 12 (by decide) (hts (.fieldLink RX8 58 "MeetingsAbove" "shared" "LMeetingsAbove$Fraction;") (by decide +kernel)) (fun _ h9 => h9) rfl dX8_share_138 ?_
                    refine lv_lload hx hb dX8_share_141 (lv_at hl 7 rfl) ?_
                    refine lv_lload hx hb dX8_share_143 (lv_at hl 8 rfl) ?_
                    have hPc := hP.sub (ws' := [(f0, .inr (3, [.long su, .long sl]))]) [3] rfl
                    have hKc := hK.sub (tys' := []) [] rfl
                    have hDc := hD.sub (ws' := [(f0, .inr (3, [.long su, .long sl]))]) [3] (by decide) rfl
                    have hFc := va_free (wc := [(f0, .inr (3, [.long su, .long sl]))]) hD hS hA [3] rfl
                    refine va_callv (va_runV (As := [.long z7, .long z9]) (rest := []) ⟨hx, hb, hml, hown, hts⟩ (c_X3_become l dC dI f0 su sl z7 z9 H.size) (cwV 2 hts g_X8_share__X3_become_224 rfl rfl rfl (by decide +kernel) ⟨Nat.le_of_ble_eq_true rfl, Nat.le_of_ble_eq_true rfl⟩) ⟨fun a U g mk q => by obtain ⟨q0, q1, qP, qK, qD⟩ := q; exact ⟨q0, q1, qP, va_K.moved (u := U) (U := U.calling g mk a) (Vm.Alike.refl U.vm) qK, qD⟩, va_recv hKc hPc (ci := 3) (q0 := 0) rfl rfl, fun U hU hW => ⟨rfl, by rw [hU], by rw [hU]; exact hPc, va_K.moved hW.alike hKc, hDc.weaken (fun _ _ _ _ => trivial)⟩⟩ rfl rfl hl.1 rfl (lv_room (Nat.le_of_ble_eq_true rfl)) dX8_share_145 ⟨Nat.le_of_ble_eq_true rfl, Nat.le_of_ble_eq_true rfl⟩) hS (fun q _ h => hFc q h) hFc (fun u_11 t H1 locs ht hvm hw_12 hB hz1 hk1 hS => ?_)
                    obtain ⟨u9_13, l9_14, hP1, hK1, hD1⟩ := hB
                    rw [ht] at hP1
                    have hK1 := va_K.moved hvm.symm hK1
                    obtain ⟨hP, hD⟩ := va_joinQ (wr := [(h0, .inr (8, [.ref n0, .ref s0, .ref s1, .ref d0, .ref o0, .int dn, .int nn, .int la, .int ne, .int wi, .ref w0, .ref e0, .ref f0, .ref t0, .ref b0, .int lm])), (n0, .inr (1, [.ref na, .int sz9])), (na, .inl (cT, 16, .inr (.inr (.inr (.inr ga)))))]) (w1 := [(f0, .inr (3, [.long u9_13, .long l9_14]))]) hP hD [3] [0, 1, 2] rfl rfl (by decide) (by decide) hk1 hFc hP1 hD1
                    have hK := (hK.sub (tys' := [(cT, .object "MeetingsAbove$Thing"), (cI, .int)]) [0, 1] rfl).app hK1
                    generalize H1 = H at hP hS ⊢
                    have hP : va_P (dC, dI) vwCl (([(h0, .inr (8, [.ref n0, .ref s0, .ref s1, .ref d0, .ref o0, .int dn, .int nn, .int la, .int ne, .int wi, .ref w0, .ref e0, .ref f0, .ref t0, .ref b0, .int lm])), (n0, .inr (1, [.ref na, .int sz9])), (na, .inl (cT, 16, .inr (.inr (.inr (.inr ga))))), (f0, .inr (3, [.long u9_13, .long l9_14]))] : va_W) ++ va_pl L f) H := hP
                    have hD : va_D A (([(h0, .inr (8, [.ref n0, .ref s0, .ref s1, .ref d0, .ref o0, .int dn, .int nn, .int la, .int ne, .int wi, .ref w0, .ref e0, .ref f0, .ref t0, .ref b0, .int lm])), (n0, .inr (1, [.ref na, .int sz9])), (na, .inl (cT, 16, .inr (.inr (.inr (.inr ga))))), (f0, .inr (3, [.long u9_13, .long l9_14]))] : va_W) ++ va_pl L f) := hD
                    have hK : va_K (dC, dI) vwCl [(cT, .object "MeetingsAbove$Thing"), (cI, .int)] s := hK
                    refine W.widen (k := 0) (n := 0) (by omega) (by omega) ?_
                    refine lv_iload hx hb dX8_share_148 (lv_at hl 4 rfl) ?_
                    refine lv_if_ne (tgt := 163) hx hb dX8_share_150 (by decide) (fun c_150 => ?_) (fun c_150 => ?_)
                    · have t_150 := mt (fa_eq _ _).mpr c_150
                      refine lv_aload_n hx hb dX8_share_163 rfl (lv_at hl 0 rfl) ?_
                      refine va_get (D := (dC, dI)) (ci := 8) (v := .ref f0) (C := RX8) (T := TX8) (N := 16) hx hb hts in_X8_share_X8 hown hK hP 0 rfl rfl 12 (by decide) (hts (.fieldLink RX8 58 "MeetingsAbove" "shared" "LMeetingsAbove$Fraction;") (by decide +kernel)) (fun _ h9 => h9) rfl dX8_share_164 ?_
                      refine va_get (D := (dC, dI)) (ci := 3) (v := .long l9_14) (C := RX3) (T := TX3) (N := 2) hx hb hts in_X8_share_X3 hown hK hP 3 rfl rfl 1 (by decide) (hts (.fieldLink RX8 204 "MeetingsAbove$Fraction" "lower" "J") (by decide +kernel)) (fun _ h9 => h9) rfl dX8_share_167 ?_
                      have hP9 := hP.part (cx := [(h0, .inr (8, [.ref n0, .ref s0, .ref s1, .ref d0, .ref o0, .int dn, .int nn, .int la, .int ne, .int wi, .ref w0, .ref e0, .ref f0, .ref t0, .ref b0, .int lm])), (n0, .inr (1, [.ref na, .int sz9])), (na, .inl (cT, 16, .inr (.inr (.inr (.inr ga))))), (f0, .inr (3, [.long u9_13, .long l9_14]))]) [0, 1, 2, 3] rfl
                      have hD9 := hD.part (cx := [(h0, .inr (8, [.ref n0, .ref s0, .ref s1, .ref d0, .ref o0, .int dn, .int nn, .int la, .int ne, .int wi, .ref w0, .ref e0, .ref f0, .ref t0, .ref b0, .int lm])), (n0, .inr (1, [.ref na, .int sz9])), (na, .inl (cT, 16, .inr (.inr (.inr (.inr ga))))), (f0, .inr (3, [.long u9_13, .long l9_14]))]) [0, 1, 2, 3] (by decide) rfl
                      have hK9 := hK.sub (tys' := [(cT, .object "MeetingsAbove$Thing"), (cI, .int)]) [0, 1] rfl
                      refine W.widen (k := 0) (n := 0) (by omega) (by omega) ?_
                      exact W.lret (v := l9_14) hx hb hr (fun t ht hW => ⟨⟨_, (), rfl, trivial, u9_13, l9_14, by rw [ht]; exact hP9, va_K.moved hW.alike hK9, hD9⟩, hS.F ht⟩) hS.2.2 dX8_share_170
                    · have t_150 := (fa_eq _ _).mp c_150
                      refine lv_aload_n hx hb dX8_share_153 rfl (lv_at hl 0 rfl) ?_
                      refine va_get (D := (dC, dI)) (ci := 8) (v := .ref f0) (C := RX8) (T := TX8) (N := 16) hx hb hts in_X8_share_X8 hown hK hP 0 rfl rfl 12 (by decide) (hts (.fieldLink RX8 58 "MeetingsAbove" "shared" "LMeetingsAbove$Fraction;") (by decide +kernel)) (fun _ h9 => h9) rfl dX8_share_154 ?_
                      refine va_get (D := (dC, dI)) (ci := 3) (v := .long u9_13) (C := RX3) (T := TX3) (N := 2) hx hb hts in_X8_share_X3 hown hK hP 3 rfl rfl 0 (by decide) (hts (.fieldLink RX8 200 "MeetingsAbove$Fraction" "upper" "J") (by decide +kernel)) (fun _ h9 => h9) rfl dX8_share_157 ?_
                      refine lv_goto (tgt := 170) hx hb dX8_share_160 (by decide) ?_
                      have hP9 := hP.part (cx := [(h0, .inr (8, [.ref n0, .ref s0, .ref s1, .ref d0, .ref o0, .int dn, .int nn, .int la, .int ne, .int wi, .ref w0, .ref e0, .ref f0, .ref t0, .ref b0, .int lm])), (n0, .inr (1, [.ref na, .int sz9])), (na, .inl (cT, 16, .inr (.inr (.inr (.inr ga))))), (f0, .inr (3, [.long u9_13, .long l9_14]))]) [0, 1, 2, 3] rfl
                      have hD9 := hD.part (cx := [(h0, .inr (8, [.ref n0, .ref s0, .ref s1, .ref d0, .ref o0, .int dn, .int nn, .int la, .int ne, .int wi, .ref w0, .ref e0, .ref f0, .ref t0, .ref b0, .int lm])), (n0, .inr (1, [.ref na, .int sz9])), (na, .inl (cT, 16, .inr (.inr (.inr (.inr ga))))), (f0, .inr (3, [.long u9_13, .long l9_14]))]) [0, 1, 2, 3] (by decide) rfl
                      have hK9 := hK.sub (tys' := [(cT, .object "MeetingsAbove$Thing"), (cI, .int)]) [0, 1] rfl
                      refine W.widen (k := 0) (n := 0) (by omega) (by omega) ?_
                      exact W.lret (v := u9_13) hx hb hr (fun t ht hW => ⟨⟨_, (), rfl, trivial, u9_13, l9_14, by rw [ht]; exact hP9, va_K.moved hW.alike hK9, hD9⟩, hS.F ht⟩) hS.2.2 dX8_share_170
                  · have t_94 := mt (fa_le _ _).mpr c_94
                    refine lv_lload hx hb dX8_share_97 (lv_at hl 7 rfl) ?_
                    refine lv_aload_n hx hb dX8_share_99 rfl (lv_at hl 0 rfl) ?_
                    refine lv_aload hx hb dX8_share_100 (lv_at hl 5 rfl) ?_
                    refine lv_aload hx hb dX8_share_102 (lv_at hl 6 rfl) ?_
                    refine lv_iload_n hx hb dX8_share_104 rfl (lv_at hl 3 rfl) ?_
                    refine lv_iload hx hb dX8_share_105 (lv_at hl 9 rfl) ?_
                    have hcc := hco_w_2 (ixc fi_w_2 p3 ax) (by unfold ixc; omega)
                    obtain ⟨hcA, hcB⟩ := id hcc
                    have hPc : va_P (dC, dI) vwCl [(h0, .inr (8, [.ref n0, .ref s0, .ref s1, .ref d0, .ref o0, .int dn, .int nn, .int la, .int ne, .int wi, .ref w0, .ref e0, .ref f0, .ref t0, .ref b0, .int lm])), (w_2, .inr (6, [.ref x_w_2, .int fi_w_2, .int pl_w_2, .int db_w_2, .int go_w_2])), (x_w_2, .inl (cI, 36, .inl g_w_2)), (w_6, .inr (6, [.ref x_w_6, .int fi_w_6, .int pl_w_6, .int db_w_6, .int go_w_6])), (x_w_6, .inl (cI, 36, .inl g_w_6))] H := P_cons (hP.sub (ws' := [(h0, .inr (8, [.ref n0, .ref s0, .ref s1, .ref d0, .ref o0, .int dn, .int nn, .int la, .int ne, .int wi, .ref w0, .ref e0, .ref f0, .ref t0, .ref b0, .int lm]))]) [0] rfl) (P_cons (pl_at (X := [(h0, .inr (8, [.ref n0, .ref s0, .ref s1, .ref d0, .ref o0, .int dn, .int nn, .int la, .int ne, .int wi, .ref w0, .ref e0, .ref f0, .ref t0, .ref b0, .int lm])), (n0, .inr (1, [.ref na, .int sz9])), (na, .inl (cT, 16, .inr (.inr (.inr (.inr ga))))), (f0, .inr (3, [.long su, .long sl]))]) hP hL_w_2 hf_w_2) (P_cons (pl_at (X := [(h0, .inr (8, [.ref n0, .ref s0, .ref s1, .ref d0, .ref o0, .int dn, .int nn, .int la, .int ne, .int wi, .ref w0, .ref e0, .ref f0, .ref t0, .ref b0, .int lm])), (n0, .inr (1, [.ref na, .int sz9])), (na, .inl (cT, 16, .inr (.inr (.inr (.inr ga))))), (f0, .inr (3, [.long su, .long sl]))]) hP hX_w_2 hg_w_2) (P_cons (pl_at (X := [(h0, .inr (8, [.ref n0, .ref s0, .ref s1, .ref d0, .ref o0, .int dn, .int nn, .int la, .int ne, .int wi, .ref w0, .ref e0, .ref f0, .ref t0, .ref b0, .int lm])), (n0, .inr (1, [.ref na, .int sz9])), (na, .inl (cT, 16, .inr (.inr (.inr (.inr ga))))), (f0, .inr (3, [.long su, .long sl]))]) hP hL_w_6 hf_w_6) (P_cons (pl_at (X := [(h0, .inr (8, [.ref n0, .ref s0, .ref s1, .ref d0, .ref o0, .int dn, .int nn, .int la, .int ne, .int wi, .ref w0, .ref e0, .ref f0, .ref t0, .ref b0, .int lm])), (n0, .inr (1, [.ref na, .int sz9])), (na, .inl (cT, 16, .inr (.inr (.inr (.inr ga))))), (f0, .inr (3, [.long su, .long sl]))]) hP hX_w_6 hg_w_6) (P_nil)))))
                    have hKc := hK.sub (tys' := [(cI, .int)]) [1] rfl
                    refine vp_callSl (W.runV (As := [.ref w_2, .ref w_6, .int p3, .int ax]) (rest := [.long z7]) ⟨hx, hb, hml, hown, hts⟩ (c_X8_closePairs l dC dI h0 n0 s0 s1 d0 o0 w0 e0 f0 t0 b0 dn nn la ne wi lm w_2 x_w_2 fi_w_2 pl_w_2 db_w_2 go_w_2 g_w_2 w_6 x_w_6 fi_w_6 pl_w_6 db_w_6 go_w_6 g_w_6 cI p3 ax (by first | assumption | omega) (by first | assumption | omega) (by first | omega | assumption) (by first | omega | assumption) (by first | omega | assumption) (by first | omega | assumption) (by first | omega | assumption) (by first | omega | assumption) (by first | omega | assumption) (by first | omega | assumption) (by first | omega | assumption) (by first | omega | assumption)) (cwV 4 hts g_X8_share__X8_closePairs_217 rfl rfl rfl (by decide +kernel) ⟨Nat.le_of_ble_eq_true rfl, Nat.le_of_ble_eq_true rfl⟩) ⟨fun a U g mk q => by obtain ⟨q0, qP, qK⟩ := q; exact ⟨q0, qP, va_K.moved (u := U) (U := U.calling g mk a) (Vm.Alike.refl U.vm) qK⟩, va_recv hKc hPc (ci := 8) (q0 := 0) rfl rfl, fun U hU hW => ⟨rfl, by rw [hU]; exact hPc, va_K.moved hW.alike hKc⟩⟩ rfl rfl hl.1 rfl (lv_room (Nat.le_of_ble_eq_true rfl)) dX8_share_107 ⟨Nat.le_of_ble_eq_true rfl, Nat.le_of_ble_eq_true rfl⟩) (fun r_15 hr_15 => ?_)
                    try dsimp only at hr_15
                    refine lv_lmul hx hb dX8_share_110 ?_
                    refine lv_topl (fun y_16 ey_16 => ?_)
                    refine lv_lstore (lv' := [(7, .long y_16), (0, .ref h0), (1, .int p1), (2, .int p2), (3, .int p3), (4, .int p4), (5, .ref w_2), (6, .ref w_6), (9, .long z9), (11, .int ax)]) hx hb dX8_share_111 hl (by decide) rfl (fun ls hl => ?_)
                    refine lv_lload hx hb dX8_share_113 (lv_at hl 8 rfl) ?_
                    refine lv_aload hx hb dX8_share_115 (lv_at hl 6 rfl) ?_
                    have hPc : va_P (dC, dI) vwCl [(w_2, .inr (6, [.ref x_w_2, .int fi_w_2, .int pl_w_2, .int db_w_2, .int go_w_2]))] H := P_cons (pl_at (X := [(h0, .inr (8, [.ref n0, .ref s0, .ref s1, .ref d0, .ref o0, .int dn, .int nn, .int la, .int ne, .int wi, .ref w0, .ref e0, .ref f0, .ref t0, .ref b0, .int lm])), (n0, .inr (1, [.ref na, .int sz9])), (na, .inl (cT, 16, .inr (.inr (.inr (.inr ga))))), (f0, .inr (3, [.long su, .long sl]))]) hP hL_w_2 hf_w_2) (P_nil)
                    have hKc := hK.sub (tys' := []) [] rfl
                    refine vp_callSi (W.runV (As := []) (rest := [.long z9]) ⟨hx, hb, hml, hown, hts⟩ (c_X6_boxSide l dC dI w_2 x_w_2 fi_w_2 pl_w_2 db_w_2 go_w_2) (cwV 0 hts g_X8_share__X6_boxSide_221 rfl rfl rfl (by decide +kernel) ⟨Nat.le_of_ble_eq_true rfl, Nat.le_of_ble_eq_true rfl⟩) ⟨fun a U g mk q => by obtain ⟨q0, qP, qK⟩ := q; exact ⟨q0, qP, va_K.moved (u := U) (U := U.calling g mk a) (Vm.Alike.refl U.vm) qK⟩, va_recv hKc hPc (ci := 6) (q0 := 0) rfl rfl, fun U hU hW => ⟨rfl, by rw [hU]; exact hPc, va_K.moved hW.alike hKc⟩⟩ rfl rfl hl.1 rfl (lv_room (Nat.le_of_ble_eq_true rfl)) dX8_share_117 ⟨Nat.le_of_ble_eq_true rfl, Nat.le_of_ble_eq_true rfl⟩) (fun r_17 hr_17 => ?_)
                    try dsimp only at hr_17
                    refine lv_i2l hx hb dX8_share_120 rfl ?_
                    refine lv_aload hx hb dX8_share_121 (lv_at hl 7 rfl) ?_
                    have hPc : va_P (dC, dI) vwCl [(w_6, .inr (6, [.ref x_w_6, .int fi_w_6, .int pl_w_6, .int db_w_6, .int go_w_6]))] H := P_cons (pl_at (X := [(h0, .inr (8, [.ref n0, .ref s0, .ref s1, .ref d0, .ref o0, .int dn, .int nn, .int la, .int ne, .int wi, .ref w0, .ref e0, .ref f0, .ref t0, .ref b0, .int lm])), (n0, .inr (1, [.ref na, .int sz9])), (na, .inl (cT, 16, .inr (.inr (.inr (.inr ga))))), (f0, .inr (3, [.long su, .long sl]))]) hP hL_w_6 hf_w_6) (P_nil)
                    have hKc := hK.sub (tys' := []) [] rfl
                    refine vp_callSi (W.runV (As := []) (rest := [.long r_17.toInt64, .long z9]) ⟨hx, hb, hml, hown, hts⟩ (c_X6_boxSide l dC dI w_6 x_w_6 fi_w_6 pl_w_6 db_w_6 go_w_6) (cwV 0 hts g_X8_share__X6_boxSide_221 rfl rfl rfl (by decide +kernel) ⟨Nat.le_of_ble_eq_true rfl, Nat.le_of_ble_eq_true rfl⟩) ⟨fun a U g mk q => by obtain ⟨q0, qP, qK⟩ := q; exact ⟨q0, qP, va_K.moved (u := U) (U := U.calling g mk a) (Vm.Alike.refl U.vm) qK⟩, va_recv hKc hPc (ci := 6) (q0 := 0) rfl rfl, fun U hU hW => ⟨rfl, by rw [hU]; exact hPc, va_K.moved hW.alike hKc⟩⟩ rfl rfl hl.1 rfl (lv_room (Nat.le_of_ble_eq_true rfl)) dX8_share_123 ⟨Nat.le_of_ble_eq_true rfl, Nat.le_of_ble_eq_true rfl⟩) (fun r_18 hr_18 => ?_)
                    try dsimp only at hr_18
                    refine lv_i2l hx hb dX8_share_126 rfl ?_
                    refine lv_lmul hx hb dX8_share_127 ?_
                    refine lv_topl (fun y_19 ey_19 => ?_)
                    refine lv_lmul hx hb dX8_share_128 ?_
                    refine lv_topl (fun y_20 ey_20 => ?_)
                    refine lv_lstore (lv' := [(9, .long y_20), (7, .long y_16), (0, .ref h0), (1, .int p1), (2, .int p2), (3, .int p3), (4, .int p4), (5, .ref w_2), (6, .ref w_6), (11, .int ax)]) hx hb dX8_share_129 hl (by decide) rfl (fun ls hl => ?_)
                    obtain ⟨y_21, ey_21⟩ : ∃ y : Int32, y = ax + 1 := ⟨_, rfl⟩
                    have ty_21 : y_21.toInt = ax.toInt + 1 := by rw [ey_21]; have := fb_addI (x := ax) (y := 1) (by omega) (by omega); omega
                    refine lv_iinc (v := y_21) (lv' := [(11, .int y_21), (9, .long y_20), (7, .long y_16), (0, .ref h0), (1, .int p1), (2, .int p2), (3, .int p3), (4, .int p4), (5, .ref w_2), (6, .ref w_6)]) hx hb dX8_share_131 hl (k := 9) rfl (by rw [ey_21]; rfl) (by decide) rfl (fun ls hl => ?_)
                    refine lv_goto (tgt := 91) hx hb dX8_share_134 (by decide) ?_
                    exact ih_91 y_16 y_20 y_21 (by omega) (by omega) (by omega) H _ (hP.part [0, 1, 2, 3] rfl) (hD.part [0, 1, 2, 3] (by decide) rfl) hS ls (lv_sub hl [3, 4, 5, 6, 7, 8, 9, 2, 1, 0] rfl)
              · refine lv_if_ne (tgt := 82) hx hb dX8_share_75 (by decide) (fun h9 => absurd h9 (by decide)) (fun _ => ?_)
                refine lv_ldc2 hx hb hown (hts (.constantLong RX8 195 (-100003)) (by decide +kernel)) dX8_share_78 ?_
                have hP9 := hP.part (cx := [(h0, .inr (8, [.ref n0, .ref s0, .ref s1, .ref d0, .ref o0, .int dn, .int nn, .int la, .int ne, .int wi, .ref w0, .ref e0, .ref f0, .ref t0, .ref b0, .int lm])), (n0, .inr (1, [.ref na, .int sz9])), (na, .inl (cT, 16, .inr (.inr (.inr (.inr ga))))), (f0, .inr (3, [.long su, .long sl]))]) [0, 1, 2, 3] rfl
                have hD9 := hD.part (cx := [(h0, .inr (8, [.ref n0, .ref s0, .ref s1, .ref d0, .ref o0, .int dn, .int nn, .int la, .int ne, .int wi, .ref w0, .ref e0, .ref f0, .ref t0, .ref b0, .int lm])), (n0, .inr (1, [.ref na, .int sz9])), (na, .inl (cT, 16, .inr (.inr (.inr (.inr ga))))), (f0, .inr (3, [.long su, .long sl]))]) [0, 1, 2, 3] (by decide) rfl
                have hK9 := hK.sub (tys' := [(cT, .object "MeetingsAbove$Thing"), (cI, .int)]) [0, 1] rfl
                refine W.widen (k := 0) (n := 0) (by omega) (by omega) ?_
                exact W.lret (v := (-100003)) hx hb hr (fun t ht hW => ⟨⟨_, (), rfl, trivial, su, sl, by rw [ht]; exact hP9, va_K.moved hW.alike hK9, hD9⟩, hS.F ht⟩) hS.2.2 dX8_share_81
            · refine lv_if_eq (tgt := 78) hx hb dX8_share_66 (by decide) (fun _ => ?_) (fun h9 => absurd h9 (by decide))
              refine lv_ldc2 hx hb hown (hts (.constantLong RX8 195 (-100003)) (by decide +kernel)) dX8_share_78 ?_
              have hP9 := hP.part (cx := [(h0, .inr (8, [.ref n0, .ref s0, .ref s1, .ref d0, .ref o0, .int dn, .int nn, .int la, .int ne, .int wi, .ref w0, .ref e0, .ref f0, .ref t0, .ref b0, .int lm])), (n0, .inr (1, [.ref na, .int sz9])), (na, .inl (cT, 16, .inr (.inr (.inr (.inr ga))))), (f0, .inr (3, [.long su, .long sl]))]) [0, 1, 2, 3] rfl
              have hD9 := hD.part (cx := [(h0, .inr (8, [.ref n0, .ref s0, .ref s1, .ref d0, .ref o0, .int dn, .int nn, .int la, .int ne, .int wi, .ref w0, .ref e0, .ref f0, .ref t0, .ref b0, .int lm])), (n0, .inr (1, [.ref na, .int sz9])), (na, .inl (cT, 16, .inr (.inr (.inr (.inr ga))))), (f0, .inr (3, [.long su, .long sl]))]) [0, 1, 2, 3] (by decide) rfl
              have hK9 := hK.sub (tys' := [(cT, .object "MeetingsAbove$Thing"), (cI, .int)]) [0, 1] rfl
              refine W.widen (k := 0) (n := 0) (by omega) (by omega) ?_
              exact W.lret (v := (-100003)) hx hb hr (fun t ht hW => ⟨⟨_, (), rfl, trivial, su, sl, by rw [ht]; exact hP9, va_K.moved hW.alike hK9, hD9⟩, hS.F ht⟩) hS.2.2 dX8_share_81
        · refine lv_if_ne (tgt := 55) hx hb dX8_share_48 (by decide) (fun h9 => absurd h9 (by decide)) (fun _ => ?_)
          refine lv_ldc2 hx hb hown (hts (.constantLong RX8 189 (-100002)) (by decide +kernel)) dX8_share_51 ?_
          have hP9 := hP.part (cx := [(h0, .inr (8, [.ref n0, .ref s0, .ref s1, .ref d0, .ref o0, .int dn, .int nn, .int la, .int ne, .int wi, .ref w0, .ref e0, .ref f0, .ref t0, .ref b0, .int lm])), (n0, .inr (1, [.ref na, .int sz9])), (na, .inl (cT, 16, .inr (.inr (.inr (.inr ga))))), (f0, .inr (3, [.long su, .long sl]))]) [0, 1, 2, 3] rfl
          have hD9 := hD.part (cx := [(h0, .inr (8, [.ref n0, .ref s0, .ref s1, .ref d0, .ref o0, .int dn, .int nn, .int la, .int ne, .int wi, .ref w0, .ref e0, .ref f0, .ref t0, .ref b0, .int lm])), (n0, .inr (1, [.ref na, .int sz9])), (na, .inl (cT, 16, .inr (.inr (.inr (.inr ga))))), (f0, .inr (3, [.long su, .long sl]))]) [0, 1, 2, 3] (by decide) rfl
          have hK9 := hK.sub (tys' := [(cT, .object "MeetingsAbove$Thing"), (cI, .int)]) [0, 1] rfl
          refine W.widen (k := 0) (n := 0) (by omega) (by omega) ?_
          exact W.lret (v := (-100002)) hx hb hr (fun t ht hW => ⟨⟨_, (), rfl, trivial, su, sl, by rw [ht]; exact hP9, va_K.moved hW.alike hK9, hD9⟩, hS.F ht⟩) hS.2.2 dX8_share_54
      · refine lv_if_eq (tgt := 51) hx hb dX8_share_38 (by decide) (fun _ => ?_) (fun h9 => absurd h9 (by decide))
        refine lv_ldc2 hx hb hown (hts (.constantLong RX8 189 (-100002)) (by decide +kernel)) dX8_share_51 ?_
        have hP9 := hP.part (cx := [(h0, .inr (8, [.ref n0, .ref s0, .ref s1, .ref d0, .ref o0, .int dn, .int nn, .int la, .int ne, .int wi, .ref w0, .ref e0, .ref f0, .ref t0, .ref b0, .int lm])), (n0, .inr (1, [.ref na, .int sz9])), (na, .inl (cT, 16, .inr (.inr (.inr (.inr ga))))), (f0, .inr (3, [.long su, .long sl]))]) [0, 1, 2, 3] rfl
        have hD9 := hD.part (cx := [(h0, .inr (8, [.ref n0, .ref s0, .ref s1, .ref d0, .ref o0, .int dn, .int nn, .int la, .int ne, .int wi, .ref w0, .ref e0, .ref f0, .ref t0, .ref b0, .int lm])), (n0, .inr (1, [.ref na, .int sz9])), (na, .inl (cT, 16, .inr (.inr (.inr (.inr ga))))), (f0, .inr (3, [.long su, .long sl]))]) [0, 1, 2, 3] (by decide) rfl
        have hK9 := hK.sub (tys' := [(cT, .object "MeetingsAbove$Thing"), (cI, .int)]) [0, 1] rfl
        refine W.widen (k := 0) (n := 0) (by omega) (by omega) ?_
        exact W.lret (v := (-100002)) hx hb hr (fun t ht hW => ⟨⟨_, (), rfl, trivial, su, sl, by rw [ht]; exact hP9, va_K.moved hW.alike hK9, hD9⟩, hS.F ht⟩) hS.2.2 dX8_share_54
def wk_X6_copyFromP : List Cond := .code yX6_copyFrom cX6_copyFrom 4 none :: (([.fieldLink RX6 22 "MeetingsAbove$Thing" "doubt" "I", .fieldLink RX6 25 "MeetingsAbove$Thing" "gone" "Z"] : List Cond) ++ (wsX60 ++ ((wsV RX6 75 RX6 yX6_begin wk_X6_begin) ++ ((wsV RX6 29 RX6 yX6_lastStep wk_X6_lastStep) ++ ((wsV RX6 33 RX6 yX6_coord wk_X6_coord) ++ ((wsV RX6 79 RX6 yX6_append wk_X6_append) ++ ([])))))))
theorem in_X6_copyFromP_X6 : ∀ w ∈ wsX60, w ∈ wk_X6_copyFromP := fun _ h => List.mem_cons_of_mem _ (List.mem_append_right _ (List.mem_append_left _ h))
theorem gw_X6_copyFromP : AG wk_X6_copyFromP := AG_ca (AG_l (by decide +kernel)) (AG_app ag_X6 (AG_app (AG_V gw_X6_begin) (AG_app (AG_V gw_X6_lastStep) (AG_app (AG_V gw_X6_coord) (AG_app (AG_V gw_X6_append) (AG_nil))))))
theorem g_X6_copyFromP__X6_begin_75 : GoodIn wk_X6_copyFromP (wsV RX6 75 RX6 yX6_begin wk_X6_begin) := goodIn_m (fun _ h => List.mem_cons_of_mem _ (List.mem_append_right _ (List.mem_append_right _ (List.mem_append_left _ h)))) (AG_V gw_X6_begin)
theorem g_X6_copyFromP__X6_lastStep_29 : GoodIn wk_X6_copyFromP (wsV RX6 29 RX6 yX6_lastStep wk_X6_lastStep) := goodIn_m (fun _ h => List.mem_cons_of_mem _ (List.mem_append_right _ (List.mem_append_right _ (List.mem_append_right _ (List.mem_append_left _ h))))) (AG_V gw_X6_lastStep)
theorem g_X6_copyFromP__X6_coord_33 : GoodIn wk_X6_copyFromP (wsV RX6 33 RX6 yX6_coord wk_X6_coord) := goodIn_m (fun _ h => List.mem_cons_of_mem _ (List.mem_append_right _ (List.mem_append_right _ (List.mem_append_right _ (List.mem_append_right _ (List.mem_append_left _ h)))))) (AG_V gw_X6_coord)
theorem g_X6_copyFromP__X6_append_79 : GoodIn wk_X6_copyFromP (wsV RX6 79 RX6 yX6_append wk_X6_append) := goodIn_m (fun _ h => List.mem_cons_of_mem _ (List.mem_append_right _ (List.mem_append_right _ (List.mem_append_right _ (List.mem_append_right _ (List.mem_append_right _ (List.mem_append_left _ h))))))) (AG_V gw_X6_append)
set_option maxHeartbeats 4000000 in
set_option maxRecDepth 100000 in
theorem c_X6_copyFromP (l : Launch) (dC : Nat → ClassId) (dI : Nat → Nat → Nat) (h0 : Nat) (x0 : Nat) (fi : Int32) (pl : Int32) (db : Int32) (go : Int32) (g : Nat → Int32) (h1 : Nat) (x1 : Nat) (fi1 : Int32) (pl1 : Int32) (db1 : Int32) (go1 : Int32) (g1 : Nat → Int32) (cI : ClassId) (L : List Nat) (f : Nat → va_E) (p1 : Int32) (sz : Nat) (hL1 : h1 ∈ L) (hX1 : x1 ∈ L) (hf1 : f h1 = .inr (6, [.ref x1, .int fi1, .int pl1, .int db1, .int go1])) (hg1 : f x1 = .inl (cI, 36, .inl g1)) (ht1 : tOK fi1 pl1) (hs0 : fi1.toInt ≤ p1.toInt) (hs1 : p1.toInt ≤ fi1.toInt + pl1.toInt) (hs2 : p1.toInt ≤ 39) (hgo : go1 = 0 ∨ go1 = 1) : Met l yX6_copyFrom wk_X6_copyFromP ({ frames := 1, cells := 0, slots := 0, locals := 24 }) (va_Pc [.ref h0, .ref h1, .int p1] (fun U => U.heap.size = sz ∧ va_P (dC, dI) vwCl (([(h0, .inr (6, [.ref x0, .int fi, .int pl, .int db, .int go])), (x0, .inl (cI, 36, .inl g))] : va_W) ++ va_pl L f) U.heap ∧ va_K (dC, dI) vwCl [(cI, .int)] U ∧ va_D (fun _ => True) (([(h0, .inr (6, [.ref x0, .int fi, .int pl, .int db, .int go])), (x0, .inl (cI, 36, .inl g))] : va_W) ++ va_pl L f))) (va_Qv (fun (_ : Unit) => True) (fun (_ : Unit) (t : State) => ∃ (pl9 : Int32) (g9 : Nat → Int32), va_P (dC, dI) vwCl (([(h0, .inr (6, [.ref x0, .int p1, .int pl9, .int db1, .int go1])), (x0, .inl (cI, 36, .inl g9))] : va_W) ++ va_pl L f) t.heap ∧ va_K (dC, dI) vwCl [(cI, .int)] t ∧ va_D (va_A (([(h0, .inr (6, [.ref x0, .int fi, .int pl, .int db, .int go])), (x0, .inl (cI, 36, .inl g))] : va_W) ++ va_pl L f) sz) (([(h0, .inr (6, [.ref x0, .int p1, .int pl9, .int db1, .int go1])), (x0, .inl (cI, 36, .inl g9))] : va_W) ++ va_pl L f) ∧ pl9.toInt = fi1.toInt + pl1.toInt - p1.toInt ∧ g9 = cpK g g1 (3 * (p1.toInt - fi1.toInt)).toNat (fi1.toInt + pl1.toInt - p1.toInt).toNat) (va_A (([(h0, .inr (6, [.ref x0, .int fi, .int pl, .int db, .int go])), (x0, .inl (cI, 36, .inl g))] : va_W) ++ va_pl L f) sz)) 0 0 (va_A (([(h0, .inr (6, [.ref x0, .int fi, .int pl, .int db, .int go])), (x0, .inl (cI, 36, .inl g))] : va_W) ++ va_pl L f) sz) := by
  refine Met.ofW (cc := cX6_copyFrom) (maxL := 4) (ret := none) (by decide) rfl ?_
  intro p e s m args below meth c s₁ B hml hv
  obtain ⟨rfl, hsz, hP, hK, hD0⟩ := hv
  have hx := B.exec
  have hb := B.bytes
  have hr := B.returns
  have hts := atoms_spec (ws := wk_X6_copyFromP) B.pre
  have hown : s.vm.findClass RX6 = some m.cls := findClass_of_methodNamed B.named
  have hlocks := B.notSynchronized
  subst hsz
  have hD := hD0.self (sz := s.heap.size)
  generalize hAe : va_A (([(h0, .inr (6, [.ref x0, .int fi, .int pl, .int db, .int go])), (x0, .inl (cI, 36, .inl g))] : va_W) ++ va_pl L f) s.heap.size = A at hD ⊢
  have hA : ∀ q : Nat, s.heap.size ≤ q → A q := fun q h => by rw [← hAe]; exact Or.inr h
  have hS : va_S A s.heap s.heap [] := va_S.rf
  have hP : va_P (dC, dI) vwCl (([(h0, .inr (6, [.ref x0, .int fi, .int pl, .int db, .int go])), (x0, .inl (cI, 36, .inl g))] : va_W) ++ va_pl L f) s.heap := hP
  have hl := lv_entry ([.ref h0, .ref h1, .int p1]) (n := 4) (Nat.le_of_ble_eq_true rfl)
  rw [lg_entry_eq]
  generalize (lg_sl ([.ref h0, .ref h1, .int p1]) ++ List.replicate (4 - (lg_sl ([.ref h0, .ref h1, .int p1])).length) Slot.unset).toArray = ls at hl ⊢
  have hl : lv_has ls 4 [(0, .ref h0), (1, .ref h1), (2, .int p1)] := hl
  have kl_0 : (0 : Int32).toInt = 0 := by decide
  have kl_1 : (1 : Int32).toInt = 1 := by decide
  have kl_2 : (2 : Int32).toInt = 2 := by decide
  obtain ⟨qa1, qb1, qc1, qd1⟩ := id ht1
  refine lv_aload_n hx hb dX6_copyFrom_0 rfl (lv_at hl 0 rfl) ?_
  refine lv_iload_n hx hb dX6_copyFrom_1 rfl (lv_at hl 2 rfl) ?_
  refine lv_aload_n hx hb dX6_copyFrom_2 rfl (lv_at hl 1 rfl) ?_
  obtain ⟨k_1, hk_1⟩ := pl_ix (X := [(h0, .inr (6, [.ref x0, .int fi, .int pl, .int db, .int go])), (x0, .inl (cI, 36, .inl g))]) hL1 hf1
  refine va_get (D := (dC, dI)) (ci := 6) (v := .int db1) (C := RX6) (T := TX6) (N := 5) hx hb hts in_X6_copyFromP_X6 hown hK hP k_1 hk_1 rfl 3 (by decide) (hts (.fieldLink RX6 22 "MeetingsAbove$Thing" "doubt" "I") (by decide +kernel)) (fun _ h9 => h9) rfl dX6_copyFrom_3 ?_
  have hPc := hP.sub (ws' := [(h0, .inr (6, [.ref x0, .int fi, .int pl, .int db, .int go]))]) [0] rfl
  have hKc := hK.sub (tys' := []) [] rfl
  have hDc := hD.sub (ws' := [(h0, .inr (6, [.ref x0, .int fi, .int pl, .int db, .int go]))]) [0] (by decide) rfl
  have hFc := va_free (wc := [(h0, .inr (6, [.ref x0, .int fi, .int pl, .int db, .int go]))]) hD hS hA [0] rfl
  refine va_callv (va_runV (As := [.int p1, .int db1]) (rest := []) ⟨hx, hb, hml, hown, hts⟩ (c_X6_begin l dC dI h0 x0 fi pl db go p1 db1 s.heap.size) (cwV 2 hts g_X6_copyFromP__X6_begin_75 rfl rfl rfl (by decide +kernel) ⟨Nat.le_of_ble_eq_true rfl, Nat.le_of_ble_eq_true rfl⟩) ⟨fun a U g mk q => by obtain ⟨q0, q1, qP, qK, qD⟩ := q; exact ⟨q0, q1, qP, va_K.moved (u := U) (U := U.calling g mk a) (Vm.Alike.refl U.vm) qK, qD⟩, va_recv hKc hPc (ci := 6) (q0 := 0) rfl rfl, fun U hU hW => ⟨rfl, by rw [hU], by rw [hU]; exact hPc, va_K.moved hW.alike hKc, hDc.weaken (fun _ _ _ _ => trivial)⟩⟩ rfl rfl hl.1 rfl (lv_room (Nat.le_of_ble_eq_true rfl)) dX6_copyFrom_6 ⟨Nat.le_of_ble_eq_true rfl, Nat.le_of_ble_eq_true rfl⟩) hS (fun q _ h => hFc q h) hFc (fun u_2 t H1 locs ht hvm hw_3 hB hz1 hk1 hS => ?_)
  obtain ⟨hP1, hK1, hD1⟩ := hB
  rw [ht] at hP1
  have hK1 := va_K.moved hvm.symm hK1
  obtain ⟨hP, hD⟩ := va_joinQ (wr := [(x0, .inl (cI, 36, .inl g))]) (w1 := [(h0, .inr (6, [.ref x0, .int p1, .int 0, .int db1, .int 0]))]) hP hD [0] [1] rfl rfl (by decide) (by decide) hk1 hFc hP1 hD1
  have hK := (hK.sub (tys' := [(cI, .int)]) [0] rfl).app hK1
  generalize H1 = H at hP hS ⊢
  have hP : va_P (dC, dI) vwCl (([(x0, .inl (cI, 36, .inl g)), (h0, .inr (6, [.ref x0, .int p1, .int 0, .int db1, .int 0]))] : va_W) ++ va_pl L f) H := hP
  have hD : va_D A (([(x0, .inl (cI, 36, .inl g)), (h0, .inr (6, [.ref x0, .int p1, .int 0, .int db1, .int 0]))] : va_W) ++ va_pl L f) := hD
  have hK : va_K (dC, dI) vwCl [(cI, .int)] s := hK
  refine W.widen (k := 0) (n := 0) (by omega) (by omega) ?_
  refine lv_aload_n hx hb dX6_copyFrom_9 rfl (lv_at hl 0 rfl) ?_
  refine lv_aload_n hx hb dX6_copyFrom_10 rfl (lv_at hl 1 rfl) ?_
  obtain ⟨k_4, hk_4⟩ := pl_ix (X := [(x0, .inl (cI, 36, .inl g)), (h0, .inr (6, [.ref x0, .int p1, .int 0, .int db1, .int 0]))]) hL1 hf1
  refine va_get (D := (dC, dI)) (ci := 6) (v := .int go1) (C := RX6) (T := TX6) (N := 5) hx hb hts in_X6_copyFromP_X6 hown hK hP k_4 hk_4 rfl 4 (by decide) (hts (.fieldLink RX6 25 "MeetingsAbove$Thing" "gone" "Z") (by decide +kernel)) (fun _ h9 => h9) rfl dX6_copyFrom_11 ?_
  refine va_put (D := (dC, dI)) (ci := 6) (v := .int go1) (ty := .boolean) (C := RX6) (T := TX6) (N := 5) hx hb hts in_X6_copyFromP_X6 tyX6 tyX6_ok nmX6 hown hK hP hD hS 1 rfl rfl 4 (by decide) (hts (.fieldLink RX6 25 "MeetingsAbove$Thing" "gone" "Z") (by decide +kernel)) (fun _ h9 => h9) rfl (by decide +kernel) (by rcases hgo with h | h <;> rw [h] <;> rfl) (by rcases hgo with h | h <;> rw [h] <;> rfl) (Nat.le_of_ble_eq_true rfl) dX6_copyFrom_14 (fun H locs hP hD hS => ?_)
  have hP : va_P (dC, dI) vwCl (([(x0, .inl (cI, 36, .inl g)), (h0, .inr (6, [.ref x0, .int p1, .int 0, .int db1, .int go1]))] : va_W) ++ va_pl L f) H := hP
  have hD : va_D A (([(x0, .inl (cI, 36, .inl g)), (h0, .inr (6, [.ref x0, .int p1, .int 0, .int db1, .int go1]))] : va_W) ++ va_pl L f) := hD
  refine lv_iload_n hx hb dX6_copyFrom_17 rfl (lv_at hl 2 rfl) ?_
  refine lv_istore_n (lv' := [(3, .int p1), (0, .ref h0), (1, .ref h1), (2, .int p1)]) hx hb dX6_copyFrom_18 rfl hl (by decide) rfl (fun ls hl => ?_)
  refine (show ∀ (k : Nat) (k3 : Int32) (p7 : Int32) (S7 : Nat → Int32) (hk0 : p1.toInt ≤ k3.toInt) (hk1 : k3.toInt ≤ fi1.toInt + pl1.toInt) (hp7 : p7.toInt = k3.toInt - p1.toInt) (hS7 : S7 = cpK g g1 (3 * (p1.toInt - fi1.toInt)).toNat (k3.toInt - p1.toInt).toNat) (hk_19 : (fi1.toInt + pl1.toInt - k3.toInt).toNat < k) (H : Heap) (locs : List Loc) (hP : va_P (dC, dI) vwCl (([(x0, .inl (cI, 36, .inl S7)), (h0, .inr (6, [.ref x0, .int p1, .int p7, .int db1, .int go1]))] : va_W) ++ va_pl L f) H) (hD : va_D A (([(x0, .inl (cI, 36, .inl S7)), (h0, .inr (6, [.ref x0, .int p1, .int p7, .int db1, .int go1]))] : va_W) ++ va_pl L f)) (hS : va_S A s.heap H locs) (ls : Array Slot) (hl : lv_has ls 4 [(0, .ref h0), (1, .ref h1), (2, .int p1), (3, .int k3)]), W p l e _ s m _ below meth c H locs 0 0 _ (F0 m 19 ls []) from ?_) _ p1 0 g (by omega) (by omega) (by omega) (by rw [show (p1.toInt - p1.toInt).toNat = 0 by omega]; rfl) (Nat.lt_succ_self _) H _ hP hD hS ls (lv_sub hl [1, 2, 3, 0] rfl)
  intro k
  induction k with
  | zero => intro k3 p7 S7 hk0 hk1 hp7 hS7 hk_19; exact absurd hk_19 (Nat.not_lt_zero _)
  | succ k ih_19 =>
    intro k3 p7 S7 hk0 hk1 hp7 hS7 hk_19 H locs hP hD hS ls hl
    refine lv_iload_n hx hb dX6_copyFrom_19 rfl (lv_at hl 3 rfl) ?_
    refine lv_aload_n hx hb dX6_copyFrom_20 rfl (lv_at hl 1 rfl) ?_
    have hPc : va_P (dC, dI) vwCl [(h1, .inr (6, [.ref x1, .int fi1, .int pl1, .int db1, .int go1]))] H := P_cons (pl_at (X := [(x0, .inl (cI, 36, .inl S7)), (h0, .inr (6, [.ref x0, .int p1, .int p7, .int db1, .int go1]))]) hP hL1 hf1) (P_nil)
    have hKc := hK.sub (tys' := []) [] rfl
    refine vp_callSi (W.runV (As := []) (rest := [.int k3]) ⟨hx, hb, hml, hown, hts⟩ (c_X6_lastStep l dC dI h1 x1 fi1 pl1 db1 go1 (by first | assumption | omega)) (cwV 0 hts g_X6_copyFromP__X6_lastStep_29 rfl rfl rfl (by decide +kernel) ⟨Nat.le_of_ble_eq_true rfl, Nat.le_of_ble_eq_true rfl⟩) ⟨fun a U g mk q => by obtain ⟨q0, qP, qK⟩ := q; exact ⟨q0, qP, va_K.moved (u := U) (U := U.calling g mk a) (Vm.Alike.refl U.vm) qK⟩, va_recv hKc hPc (ci := 6) (q0 := 0) rfl rfl, fun U hU hW => ⟨rfl, by rw [hU]; exact hPc, va_K.moved hW.alike hKc⟩⟩ rfl rfl hl.1 rfl (lv_room (Nat.le_of_ble_eq_true rfl)) dX6_copyFrom_21 ⟨Nat.le_of_ble_eq_true rfl, Nat.le_of_ble_eq_true rfl⟩) (fun r_5 hr_5 => ?_)
    try dsimp only at hr_5
    refine lv_icmp_gt (tgt := 56) hx hb dX6_copyFrom_24 (by decide) (fun c_24 => ?_) (fun c_24 => ?_)
    · have t_24 := (fa_lt _ _).mp c_24
      have hP9 := hP.part (cx := [(h0, .inr (6, [.ref x0, .int p1, .int p7, .int db1, .int go1])), (x0, .inl (cI, 36, .inl S7))]) [1, 0] rfl
      have hD9 := hD.part (cx := [(h0, .inr (6, [.ref x0, .int p1, .int p7, .int db1, .int go1])), (x0, .inl (cI, 36, .inl S7))]) [1, 0] (by decide) rfl
      have hK9 := hK.sub (tys' := [(cI, .int)]) [0] rfl
      refine W.widen (k := 0) (n := 0) (by omega) (by omega) ?_
      exact W.vret hx hb hr (fun t ht hW => ⟨⟨(), rfl, trivial, p7, S7, by rw [ht]; exact hP9, va_K.moved hW.alike hK9, hD9, (by omega), (by rw [show (fi1.toInt + pl1.toInt - p1.toInt).toNat = (k3.toInt - p1.toInt).toNat by omega]; exact hS7)⟩, hS.F ht⟩) hS.2.2 dX6_copyFrom_56
    · have t_24 := mt (fa_lt _ _).mpr c_24
      refine lv_aload_n hx hb dX6_copyFrom_27 rfl (lv_at hl 0 rfl) ?_
      refine lv_aload_n hx hb dX6_copyFrom_28 rfl (lv_at hl 1 rfl) ?_
      refine lv_iload_n hx hb dX6_copyFrom_29 rfl (lv_at hl 3 rfl) ?_
      refine lv_iconst (v := 0) hx hb dX6_copyFrom_30 (by decide) ?_
      have hPc : va_P (dC, dI) vwCl [(h1, .inr (6, [.ref x1, .int fi1, .int pl1, .int db1, .int go1])), (x1, .inl (cI, 36, .inl g1))] H := P_cons (pl_at (X := [(x0, .inl (cI, 36, .inl S7)), (h0, .inr (6, [.ref x0, .int p1, .int p7, .int db1, .int go1]))]) hP hL1 hf1) (P_cons (pl_at (X := [(x0, .inl (cI, 36, .inl S7)), (h0, .inr (6, [.ref x0, .int p1, .int p7, .int db1, .int go1]))]) hP hX1 hg1) (P_nil))
      have hKc := hK.sub (tys' := [(cI, .int)]) [0] rfl
      refine vp_callSi (W.runV (As := [.int k3, .int 0]) (rest := [.ref h0]) ⟨hx, hb, hml, hown, hts⟩ (c_X6_coord l dC dI h1 x1 fi1 pl1 db1 go1 g1 cI k3 0 (by first | omega | assumption) (by first | omega | assumption) (by first | omega | assumption) (by first | omega | assumption) (by first | omega | assumption) (by first | omega | assumption)) (cwV 2 hts g_X6_copyFromP__X6_coord_33 rfl rfl rfl (by decide +kernel) ⟨Nat.le_of_ble_eq_true rfl, Nat.le_of_ble_eq_true rfl⟩) ⟨fun a U g mk q => by obtain ⟨q0, qP, qK⟩ := q; exact ⟨q0, qP, va_K.moved (u := U) (U := U.calling g mk a) (Vm.Alike.refl U.vm) qK⟩, va_recv hKc hPc (ci := 6) (q0 := 0) rfl rfl, fun U hU hW => ⟨rfl, by rw [hU]; exact hPc, va_K.moved hW.alike hKc⟩⟩ rfl rfl hl.1 rfl (lv_room (Nat.le_of_ble_eq_true rfl)) dX6_copyFrom_31 ⟨Nat.le_of_ble_eq_true rfl, Nat.le_of_ble_eq_true rfl⟩) (fun r_6 hr_6 => ?_)
      try dsimp only at hr_6
      refine lv_aload_n hx hb dX6_copyFrom_34 rfl (lv_at hl 1 rfl) ?_
      refine lv_iload_n hx hb dX6_copyFrom_35 rfl (lv_at hl 3 rfl) ?_
      refine lv_iconst (v := 1) hx hb dX6_copyFrom_36 (by decide) ?_
      have hPc : va_P (dC, dI) vwCl [(h1, .inr (6, [.ref x1, .int fi1, .int pl1, .int db1, .int go1])), (x1, .inl (cI, 36, .inl g1))] H := P_cons (pl_at (X := [(x0, .inl (cI, 36, .inl S7)), (h0, .inr (6, [.ref x0, .int p1, .int p7, .int db1, .int go1]))]) hP hL1 hf1) (P_cons (pl_at (X := [(x0, .inl (cI, 36, .inl S7)), (h0, .inr (6, [.ref x0, .int p1, .int p7, .int db1, .int go1]))]) hP hX1 hg1) (P_nil))
      have hKc := hK.sub (tys' := [(cI, .int)]) [0] rfl
      refine vp_callSi (W.runV (As := [.int k3, .int 1]) (rest := [.int r_6, .ref h0]) ⟨hx, hb, hml, hown, hts⟩ (c_X6_coord l dC dI h1 x1 fi1 pl1 db1 go1 g1 cI k3 1 (by first | omega | assumption) (by first | omega | assumption) (by first | omega | assumption) (by first | omega | assumption) (by first | omega | assumption) (by first | omega | assumption)) (cwV 2 hts g_X6_copyFromP__X6_coord_33 rfl rfl rfl (by decide +kernel) ⟨Nat.le_of_ble_eq_true rfl, Nat.le_of_ble_eq_true rfl⟩) ⟨fun a U g mk q => by obtain ⟨q0, qP, qK⟩ := q; exact ⟨q0, qP, va_K.moved (u := U) (U := U.calling g mk a) (Vm.Alike.refl U.vm) qK⟩, va_recv hKc hPc (ci := 6) (q0 := 0) rfl rfl, fun U hU hW => ⟨rfl, by rw [hU]; exact hPc, va_K.moved hW.alike hKc⟩⟩ rfl rfl hl.1 rfl (lv_room (Nat.le_of_ble_eq_true rfl)) dX6_copyFrom_37 ⟨Nat.le_of_ble_eq_true rfl, Nat.le_of_ble_eq_true rfl⟩) (fun r_7 hr_7 => ?_)
      try dsimp only at hr_7
      refine lv_aload_n hx hb dX6_copyFrom_40 rfl (lv_at hl 1 rfl) ?_
      refine lv_iload_n hx hb dX6_copyFrom_41 rfl (lv_at hl 3 rfl) ?_
      refine lv_iconst (v := 2) hx hb dX6_copyFrom_42 (by decide) ?_
      have hPc : va_P (dC, dI) vwCl [(h1, .inr (6, [.ref x1, .int fi1, .int pl1, .int db1, .int go1])), (x1, .inl (cI, 36, .inl g1))] H := P_cons (pl_at (X := [(x0, .inl (cI, 36, .inl S7)), (h0, .inr (6, [.ref x0, .int p1, .int p7, .int db1, .int go1]))]) hP hL1 hf1) (P_cons (pl_at (X := [(x0, .inl (cI, 36, .inl S7)), (h0, .inr (6, [.ref x0, .int p1, .int p7, .int db1, .int go1]))]) hP hX1 hg1) (P_nil))
      have hKc := hK.sub (tys' := [(cI, .int)]) [0] rfl
      refine vp_callSi (W.runV (As := [.int k3, .int 2]) (rest := [.int r_7, .int r_6, .ref h0]) ⟨hx, hb, hml, hown, hts⟩ (c_X6_coord l dC dI h1 x1 fi1 pl1 db1 go1 g1 cI k3 2 (by first | omega | assumption) (by first | omega | assumption) (by first | omega | assumption) (by first | omega | assumption) (by first | omega | assumption) (by first | omega | assumption)) (cwV 2 hts g_X6_copyFromP__X6_coord_33 rfl rfl rfl (by decide +kernel) ⟨Nat.le_of_ble_eq_true rfl, Nat.le_of_ble_eq_true rfl⟩) ⟨fun a U g mk q => by obtain ⟨q0, qP, qK⟩ := q; exact ⟨q0, qP, va_K.moved (u := U) (U := U.calling g mk a) (Vm.Alike.refl U.vm) qK⟩, va_recv hKc hPc (ci := 6) (q0 := 0) rfl rfl, fun U hU hW => ⟨rfl, by rw [hU]; exact hPc, va_K.moved hW.alike hKc⟩⟩ rfl rfl hl.1 rfl (lv_room (Nat.le_of_ble_eq_true rfl)) dX6_copyFrom_43 ⟨Nat.le_of_ble_eq_true rfl, Nat.le_of_ble_eq_true rfl⟩) (fun r_8 hr_8 => ?_)
      try dsimp only at hr_8
      have hPc := hP.sub (ws' := [(h0, .inr (6, [.ref x0, .int p1, .int p7, .int db1, .int go1])), (x0, .inl (cI, 36, .inl S7))]) [1, 0] rfl
      have hKc := hK.sub (tys' := [(cI, .int)]) [0] rfl
      have hDc := hD.sub (ws' := [(h0, .inr (6, [.ref x0, .int p1, .int p7, .int db1, .int go1])), (x0, .inl (cI, 36, .inl S7))]) [1, 0] (by decide) rfl
      have hFc := va_free (wc := [(h0, .inr (6, [.ref x0, .int p1, .int p7, .int db1, .int go1])), (x0, .inl (cI, 36, .inl S7))]) hD hS hA [1, 0] rfl
      refine va_calli (va_runV (As := [.int r_6, .int r_7, .int r_8]) (rest := []) ⟨hx, hb, hml, hown, hts⟩ (c_X6_append l dC dI h0 x0 p1 p7 db1 go1 S7 cI r_6 r_7 r_8 H.size (by first | omega | assumption) (by first | omega | assumption)) (cwV 3 hts g_X6_copyFromP__X6_append_79 rfl rfl rfl (by decide +kernel) ⟨Nat.le_of_ble_eq_true rfl, Nat.le_of_ble_eq_true rfl⟩) ⟨fun a U g mk q => by obtain ⟨q0, q1, qP, qK, qD⟩ := q; exact ⟨q0, q1, qP, va_K.moved (u := U) (U := U.calling g mk a) (Vm.Alike.refl U.vm) qK, qD⟩, va_recv hKc hPc (ci := 6) (q0 := 0) rfl rfl, fun U hU hW => ⟨rfl, by rw [hU], by rw [hU]; exact hPc, va_K.moved hW.alike hKc, hDc.weaken (fun _ _ _ _ => trivial)⟩⟩ rfl rfl hl.1 rfl (lv_room (Nat.le_of_ble_eq_true rfl)) dX6_copyFrom_46 ⟨Nat.le_of_ble_eq_true rfl, Nat.le_of_ble_eq_true rfl⟩) hS (fun q _ h => hFc q h) hFc (fun r_10 u_9 t H1 locs ht hvm hw_10 hB hz1 hk1 hS => ?_)
      obtain ⟨pl9_11, g9_12, hP1, hK1, hD1, hap_13⟩ := hB
      rw [ht] at hP1
      have hK1 := va_K.moved hvm.symm hK1
      obtain ⟨hP, hD⟩ := va_joinQ (wr := []) (w1 := [(h0, .inr (6, [.ref x0, .int p1, .int pl9_11, .int db1, .int go1])), (x0, .inl (cI, 36, .inl g9_12))]) hP hD [1, 0] [] rfl rfl (by decide) (by decide) hk1 hFc hP1 hD1
      have hK := (hK.sub (tys' := [(cI, .int)]) [0] rfl).app hK1
      generalize H1 = H at hP hS ⊢
      have hP : va_P (dC, dI) vwCl (([(h0, .inr (6, [.ref x0, .int p1, .int pl9_11, .int db1, .int go1])), (x0, .inl (cI, 36, .inl g9_12))] : va_W) ++ va_pl L f) H := hP
      have hD : va_D A (([(h0, .inr (6, [.ref x0, .int p1, .int pl9_11, .int db1, .int go1])), (x0, .inl (cI, 36, .inl g9_12))] : va_W) ++ va_pl L f) := hD
      have hK : va_K (dC, dI) vwCl [(cI, .int), (cI, .int)] s := hK
      refine W.widen (k := 0) (n := 0) (by omega) (by omega) ?_
      try dsimp only at hw_10
      refine lv_pop hx hb dX6_copyFrom_49 rfl ?_
      obtain ⟨n, hn⟩ : ∃ n : Nat, (k3.toInt - p1.toInt).toNat = n := ⟨_, rfl⟩
      obtain ⟨q, hq⟩ : ∃ q : Nat, (3 * (p1.toInt - fi1.toInt)).toNat = q := ⟨_, rfl⟩
      rw [hn, hq] at hS7
      obtain ⟨-, hp8, hS8⟩ : S7 = S7 ∧ pl9_11.toInt = p7.toInt + 1 ∧ g9_12 = st3 S7 (3 * p7.toInt).toNat r_6 r_7 r_8 := hap_13.elim (fun h => ⟨rfl, h.2⟩) (fun h => absurd h.1 (by omega))
      have hS9 := cp_step hS7 hS8 hr_6 hr_7 hr_8 (by omega) (by unfold ixc; omega) (by unfold ixc; omega) (by unfold ixc; omega)
      obtain ⟨y_14, ey_14⟩ : ∃ y : Int32, y = k3 + 1 := ⟨_, rfl⟩
      have ty_14 : y_14.toInt = k3.toInt + 1 := by rw [ey_14]; have := fb_addI (x := k3) (y := 1) (by omega) (by omega); omega
      refine lv_iinc (v := y_14) (lv' := [(3, .int y_14), (0, .ref h0), (1, .ref h1), (2, .int p1)]) hx hb dX6_copyFrom_50 hl (k := 3) rfl (by rw [ey_14]; rfl) (by decide) rfl (fun ls hl => ?_)
      refine lv_goto (tgt := 19) hx hb dX6_copyFrom_53 (by decide) ?_
      exact ih_19 y_14 pl9_11 g9_12 (by omega) (by omega) (by omega) (by rw [show (y_14.toInt - p1.toInt).toNat = n + 1 by omega, hq]; exact hS9) (by omega) H _ (hP.part [1, 0] rfl) (hD.part [1, 0] (by decide) rfl) hS ls (lv_sub hl [1, 2, 3, 0] rfl)
