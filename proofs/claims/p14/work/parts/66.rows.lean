def wk_X9_least : List Cond := .code yX9_least cX9_least 8 (some .long) :: (([.constantLong RX9 160 4, .constantLong RX9 164 (-100003), .fieldLink RX9 121 "MeetingsAboveModel" "upper" "J", .fieldLink RX9 125 "MeetingsAboveModel" "lower" "J", .fieldLink RX9 131 "MeetingsAboveModel" "partUpper" "J", .fieldLink RX9 134 "MeetingsAboveModel" "partLower" "J", .fieldLink RX9 128 "MeetingsAboveModel" "when" "I", .constantLong RX9 162 (-100002), .constantLong RX9 158 (-100001)] : List Cond) ++ (wsX90 ++ ((wsV RX9 80 RX9 yX9_isThing wk_X9_isThing) ++ ((va_wsS RX9 55 yX9_in wk_X9_in) ++ ((wsV RX9 151 RX9 yX9_areTogether wk_X9_areTogether) ++ ((wsV RX9 154 RX9 yX9_findLeast wk_X9_findLeast) ++ ((va_wsS RX9 166 yX9_common wk_X9_common) ++ ([]))))))))
theorem in_X9_least_X9 : ∀ w ∈ wsX90, w ∈ wk_X9_least := fun _ h => List.mem_cons_of_mem _ (List.mem_append_right _ (List.mem_append_left _ h))
theorem gw_X9_least : AG wk_X9_least := AG_ca (AG_l (by decide +kernel)) (AG_app ag_X9 (AG_app (AG_V gw_X9_isThing) (AG_app (AG_S gw_X9_in) (AG_app (AG_V gw_X9_areTogether) (AG_app (AG_V gw_X9_findLeast) (AG_app (AG_S gw_X9_common) (AG_nil)))))))
theorem g_X9_least__X9_isThing_80 : GoodIn wk_X9_least (wsV RX9 80 RX9 yX9_isThing wk_X9_isThing) := goodIn_m (fun _ h => List.mem_cons_of_mem _ (List.mem_append_right _ (List.mem_append_right _ (List.mem_append_left _ h)))) (AG_V gw_X9_isThing)
theorem g_X9_least__X9_in_55 : GoodIn wk_X9_least (va_wsS RX9 55 yX9_in wk_X9_in) := goodIn_m (fun _ h => List.mem_cons_of_mem _ (List.mem_append_right _ (List.mem_append_right _ (List.mem_append_right _ (List.mem_append_left _ h))))) (AG_S gw_X9_in)
theorem g_X9_least__X9_areTogether_151 : GoodIn wk_X9_least (wsV RX9 151 RX9 yX9_areTogether wk_X9_areTogether) := goodIn_m (fun _ h => List.mem_cons_of_mem _ (List.mem_append_right _ (List.mem_append_right _ (List.mem_append_right _ (List.mem_append_right _ (List.mem_append_left _ h)))))) (AG_V gw_X9_areTogether)
theorem g_X9_least__X9_findLeast_154 : GoodIn wk_X9_least (wsV RX9 154 RX9 yX9_findLeast wk_X9_findLeast) := goodIn_m (fun _ h => List.mem_cons_of_mem _ (List.mem_append_right _ (List.mem_append_right _ (List.mem_append_right _ (List.mem_append_right _ (List.mem_append_right _ (List.mem_append_left _ h))))))) (AG_V gw_X9_findLeast)
theorem g_X9_least__X9_common_166 : GoodIn wk_X9_least (va_wsS RX9 166 yX9_common wk_X9_common) := goodIn_m (fun _ h => List.mem_cons_of_mem _ (List.mem_append_right _ (List.mem_append_right _ (List.mem_append_right _ (List.mem_append_right _ (List.mem_append_right _ (List.mem_append_right _ (List.mem_append_left _ h)))))))) (AG_S gw_X9_common)
set_option maxHeartbeats 4000000 in
set_option maxRecDepth 100000 in
theorem c_X9_least (l : Launch) (dC : Nat → ClassId) (dI : Nat → Nat → Nat) (h0 : Nat) (a1 : Nat) (a2 : Nat) (a3 : Nat) (a4 : Nat) (a5 : Nat) (a6 : Nat) (a7 : Nat) (a8 : Nat) (a9 : Nat) (a10 : Nat) (a11 : Nat) (th : Int32) (ne : Int32) (wi : Int32) (dn : Int32) (nn : Int32) (la : Int32) (wh : Int32) (up : Int64) (lw : Int64) (pu : Int64) (pw : Int64) (cI : ClassId) (Fi : Nat → Int32) (Ma : Nat → Int32) (Sp : Nat → Int32) (p1 : Int32) (p2 : Int32) (p3 : Int32) (sz : Nat) (hM : mOK th Fi Ma) : Met l yX9_least wk_X9_least ({ frames := 3, cells := 0, slots := 0, locals := 82 }) (va_Pc [.ref h0, .int p1, .int p2, .int p3] (fun U => U.heap.size = sz ∧ va_P (dC, dI) vwCl [(h0, .inr (9, [.int th, .ref a1, .ref a2, .ref a3, .ref a4, .ref a5, .int ne, .int wi, .int dn, .ref a6, .ref a7, .int nn, .ref a8, .int la, .ref a9, .ref a10, .long up, .long lw, .int wh, .long pu, .long pw, .ref a11])), (a1, .inl (cI, 16, .inl Fi)), (a2, .inl (cI, 16, .inl Ma)), (a5, .inl (cI, 576, .inl Sp))] U.heap ∧ va_K (dC, dI) vwCl [(cI, .int)] U ∧ va_D (fun _ => True) [(h0, .inr (9, [.int th, .ref a1, .ref a2, .ref a3, .ref a4, .ref a5, .int ne, .int wi, .int dn, .ref a6, .ref a7, .int nn, .ref a8, .int la, .ref a9, .ref a10, .long up, .long lw, .int wh, .long pu, .long pw, .ref a11])), (a1, .inl (cI, 16, .inl Fi)), (a2, .inl (cI, 16, .inl Ma)), (a5, .inl (cI, 576, .inl Sp))])) (va_Ql (fun (r : Int64) (_ : Unit) => True) (fun (_ : Unit) (t : State) => ∃ (up9 : Int64) (lw9 : Int64) (wh9 : Int32) (pu9 : Int64) (pw9 : Int64), va_P (dC, dI) vwCl [(h0, .inr (9, [.int th, .ref a1, .ref a2, .ref a3, .ref a4, .ref a5, .int ne, .int wi, .int dn, .ref a6, .ref a7, .int nn, .ref a8, .int la, .ref a9, .ref a10, .long up9, .long lw9, .int wh9, .long pu9, .long pw9, .ref a11])), (a1, .inl (cI, 16, .inl Fi)), (a2, .inl (cI, 16, .inl Ma)), (a5, .inl (cI, 576, .inl Sp))] t.heap ∧ va_K (dC, dI) vwCl [(cI, .int)] t ∧ va_D (va_A [(h0, .inr (9, [.int th, .ref a1, .ref a2, .ref a3, .ref a4, .ref a5, .int ne, .int wi, .int dn, .ref a6, .ref a7, .int nn, .ref a8, .int la, .ref a9, .ref a10, .long up, .long lw, .int wh, .long pu, .long pw, .ref a11])), (a1, .inl (cI, 16, .inl Fi)), (a2, .inl (cI, 16, .inl Ma)), (a5, .inl (cI, 576, .inl Sp))] sz) [(h0, .inr (9, [.int th, .ref a1, .ref a2, .ref a3, .ref a4, .ref a5, .int ne, .int wi, .int dn, .ref a6, .ref a7, .int nn, .ref a8, .int la, .ref a9, .ref a10, .long up9, .long lw9, .int wh9, .long pu9, .long pw9, .ref a11])), (a1, .inl (cI, 16, .inl Fi)), (a2, .inl (cI, 16, .inl Ma)), (a5, .inl (cI, 576, .inl Sp))]) (va_A [(h0, .inr (9, [.int th, .ref a1, .ref a2, .ref a3, .ref a4, .ref a5, .int ne, .int wi, .int dn, .ref a6, .ref a7, .int nn, .ref a8, .int la, .ref a9, .ref a10, .long up, .long lw, .int wh, .long pu, .long pw, .ref a11])), (a1, .inl (cI, 16, .inl Fi)), (a2, .inl (cI, 16, .inl Ma)), (a5, .inl (cI, 576, .inl Sp))] sz)) 0 0 (va_A [(h0, .inr (9, [.int th, .ref a1, .ref a2, .ref a3, .ref a4, .ref a5, .int ne, .int wi, .int dn, .ref a6, .ref a7, .int nn, .ref a8, .int la, .ref a9, .ref a10, .long up, .long lw, .int wh, .long pu, .long pw, .ref a11])), (a1, .inl (cI, 16, .inl Fi)), (a2, .inl (cI, 16, .inl Ma)), (a5, .inl (cI, 576, .inl Sp))] sz) := by
  refine Met.ofW (cc := cX9_least) (maxL := 8) (ret := (some .long)) (by decide) rfl ?_
  intro p e s m args below meth c s₁ B hml hv
  obtain ⟨rfl, hsz, hP, hK, hD0⟩ := hv
  have hx := B.exec
  have hb := B.bytes
  have hr := B.returns
  have hts := atoms_spec (ws := wk_X9_least) B.pre
  have hown : s.vm.findClass RX9 = some m.cls := findClass_of_methodNamed B.named
  have hlocks := B.notSynchronized
  subst hsz
  have hD := hD0.self (sz := s.heap.size)
  generalize hAe : va_A [(h0, .inr (9, [.int th, .ref a1, .ref a2, .ref a3, .ref a4, .ref a5, .int ne, .int wi, .int dn, .ref a6, .ref a7, .int nn, .ref a8, .int la, .ref a9, .ref a10, .long up, .long lw, .int wh, .long pu, .long pw, .ref a11])), (a1, .inl (cI, 16, .inl Fi)), (a2, .inl (cI, 16, .inl Ma)), (a5, .inl (cI, 576, .inl Sp))] s.heap.size = A at hD ⊢
  have hA : ∀ q : Nat, s.heap.size ≤ q → A q := fun q h => by rw [← hAe]; exact Or.inr h
  have hS : va_S A s.heap s.heap [] := va_S.rf
  have hP : va_P (dC, dI) vwCl [(h0, .inr (9, [.int th, .ref a1, .ref a2, .ref a3, .ref a4, .ref a5, .int ne, .int wi, .int dn, .ref a6, .ref a7, .int nn, .ref a8, .int la, .ref a9, .ref a10, .long up, .long lw, .int wh, .long pu, .long pw, .ref a11])), (a1, .inl (cI, 16, .inl Fi)), (a2, .inl (cI, 16, .inl Ma)), (a5, .inl (cI, 576, .inl Sp))] s.heap := hP
  have hl := lv_entry ([.ref h0, .int p1, .int p2, .int p3]) (n := 8) (Nat.le_of_ble_eq_true rfl)
  rw [lg_entry_eq]
  generalize (lg_sl ([.ref h0, .int p1, .int p2, .int p3]) ++ List.replicate (8 - (lg_sl ([.ref h0, .int p1, .int p2, .int p3])).length) Slot.unset).toArray = ls at hl ⊢
  have hl : lv_has ls 8 [(0, .ref h0), (1, .int p1), (2, .int p2), (3, .int p3)] := hl
  have kl_0 : (0 : Int32).toInt = 0 := by decide
  have kl_1 : (1 : Int32).toInt = 1 := by decide
  have kl_2 : (2 : Int32).toInt = 2 := by decide
  have kl_3 : (3 : Int32).toInt = 3 := by decide
  have kl_4 : (4 : Int32).toInt = 4 := by decide
  have klL_m100003 : (-100003 : Int64).toInt = -100003 := by decide
  have klL_m100002 : (-100002 : Int64).toInt = -100002 := by decide
  have klL_m100001 : (-100001 : Int64).toInt = -100001 := by decide
  have klL_0 : (0 : Int64).toInt = 0 := by decide
  have klL_4 : (4 : Int64).toInt = 4 := by decide
  obtain ⟨hM0, hM1, hM2⟩ := id hM
  refine lv_aload_n hx hb dX9_least_0 rfl (lv_at hl 0 rfl) ?_
  refine lv_iload_n hx hb dX9_least_1 rfl (lv_at hl 1 rfl) ?_
  have hPc := hP.sub (ws' := [(h0, .inr (9, [.int th, .ref a1, .ref a2, .ref a3, .ref a4, .ref a5, .int ne, .int wi, .int dn, .ref a6, .ref a7, .int nn, .ref a8, .int la, .ref a9, .ref a10, .long up, .long lw, .int wh, .long pu, .long pw, .ref a11]))]) [0] rfl
  have hKc := hK.sub (tys' := []) [] rfl
  refine vp_callSi (W.runV (As := [.int p1]) (rest := []) ⟨hx, hb, hml, hown, hts⟩ (c_X9_isThing l dC dI h0 a1 a2 a3 a4 a5 a6 a7 a8 a9 a10 a11 th ne wi dn nn la wh up lw pu pw p1 (by first | omega | assumption) (by first | omega | assumption)) (cwV 1 hts g_X9_least__X9_isThing_80 rfl rfl rfl (by decide +kernel) ⟨Nat.le_of_ble_eq_true rfl, Nat.le_of_ble_eq_true rfl⟩) ⟨fun a U g mk q => by obtain ⟨q0, qP, qK⟩ := q; exact ⟨q0, qP, va_K.moved (u := U) (U := U.calling g mk a) (Vm.Alike.refl U.vm) qK⟩, va_recv hKc hPc (ci := 9) (q0 := 0) rfl rfl, fun U hU hW => ⟨rfl, by rw [hU]; exact hPc, va_K.moved hW.alike hKc⟩⟩ rfl rfl hl.1 rfl (lv_room (Nat.le_of_ble_eq_true rfl)) dX9_least_2 ⟨Nat.le_of_ble_eq_true rfl, Nat.le_of_ble_eq_true rfl⟩) (fun r_1 hr_1 => ?_)
  try dsimp only at hr_1
  rcases bo_split hr_1 with ⟨rfl, q_2⟩ | ⟨rfl, q_2⟩
  · refine lv_if_eq (tgt := 16) hx hb dX9_least_5 (by decide) (fun h9 => absurd h9 (by decide)) (fun _ => ?_)
    refine lv_aload_n hx hb dX9_least_8 rfl (lv_at hl 0 rfl) ?_
    refine lv_iload_n hx hb dX9_least_9 rfl (lv_at hl 2 rfl) ?_
    have hPc := hP.sub (ws' := [(h0, .inr (9, [.int th, .ref a1, .ref a2, .ref a3, .ref a4, .ref a5, .int ne, .int wi, .int dn, .ref a6, .ref a7, .int nn, .ref a8, .int la, .ref a9, .ref a10, .long up, .long lw, .int wh, .long pu, .long pw, .ref a11]))]) [0] rfl
    have hKc := hK.sub (tys' := []) [] rfl
    refine vp_callSi (W.runV (As := [.int p2]) (rest := []) ⟨hx, hb, hml, hown, hts⟩ (c_X9_isThing l dC dI h0 a1 a2 a3 a4 a5 a6 a7 a8 a9 a10 a11 th ne wi dn nn la wh up lw pu pw p2 (by first | omega | assumption) (by first | omega | assumption)) (cwV 1 hts g_X9_least__X9_isThing_80 rfl rfl rfl (by decide +kernel) ⟨Nat.le_of_ble_eq_true rfl, Nat.le_of_ble_eq_true rfl⟩) ⟨fun a U g mk q => by obtain ⟨q0, qP, qK⟩ := q; exact ⟨q0, qP, va_K.moved (u := U) (U := U.calling g mk a) (Vm.Alike.refl U.vm) qK⟩, va_recv hKc hPc (ci := 9) (q0 := 0) rfl rfl, fun U hU hW => ⟨rfl, by rw [hU]; exact hPc, va_K.moved hW.alike hKc⟩⟩ rfl rfl hl.1 rfl (lv_room (Nat.le_of_ble_eq_true rfl)) dX9_least_10 ⟨Nat.le_of_ble_eq_true rfl, Nat.le_of_ble_eq_true rfl⟩) (fun r_2 hr_2 => ?_)
    try dsimp only at hr_2
    rcases bo_split hr_2 with ⟨rfl, q_10⟩ | ⟨rfl, q_10⟩
    · refine lv_if_ne (tgt := 20) hx hb dX9_least_13 (by decide) (fun _ => ?_) (fun h9 => absurd h9 (by decide))
      refine lv_iload_n hx hb dX9_least_20 rfl (lv_at hl 3 rfl) ?_
      refine lv_i2l hx hb dX9_least_21 rfl ?_
      refine lv_lconst (v := 0) hx hb dX9_least_22 (by decide) ?_
      refine lv_ldc2 hx hb hown (hts (.constantLong RX9 160 4) (by decide +kernel)) dX9_least_23 ?_
      refine vp_callSi (W.runS (As := [.long p3.toInt64, .long 0, .long 4]) (rest := []) ⟨hx, hb, hml, hown, hts⟩ (c_X9_in l dC dI p3.toInt64 0 4) (va_cwS 3 hts g_X9_least__X9_in_55 rfl rfl rfl (by decide +kernel) ⟨Nat.le_of_ble_eq_true rfl, Nat.le_of_ble_eq_true rfl⟩) ⟨fun a U g mk q => by obtain ⟨q0, q1⟩ := q; exact ⟨q0, q1⟩, fun U hU hW => ⟨rfl, trivial⟩⟩ rfl rfl hl.1 rfl (lv_room (Nat.le_of_ble_eq_true rfl)) dX9_least_26 ⟨Nat.le_of_ble_eq_true rfl, Nat.le_of_ble_eq_true rfl⟩) (fun r_3 hr_3 => ?_)
      try dsimp only at hr_3
      rcases bo_split hr_3 with ⟨rfl, q_26⟩ | ⟨rfl, q_26⟩
      · simp only [Int32.toInt_toInt64, klL_0, klL_4] at q_26
        refine lv_if_ne (tgt := 36) hx hb dX9_least_29 (by decide) (fun _ => ?_) (fun h9 => absurd h9 (by decide))
        have np1 : ((p1.toNatClampNeg : Nat) : Int) = p1.toInt := tc_I (by omega)
        have bp1 := hM2 p1.toNatClampNeg (by omega)
        have np2 : ((p2.toNatClampNeg : Nat) : Int) = p2.toInt := tc_I (by omega)
        have bp2 := hM2 p2.toNatClampNeg (by omega)
        refine lv_iload_n hx hb dX9_least_36 rfl (lv_at hl 1 rfl) ?_
        refine lv_iload_n hx hb dX9_least_37 rfl (lv_at hl 2 rfl) ?_
        refine lv_icmp_eq (tgt := 50) hx hb dX9_least_38 (by decide) (fun c_38 => ?_) (fun c_38 => ?_)
        · have t_38 := (fa_eq _ _).mp c_38
          refine lv_ldc2 hx hb hown (hts (.constantLong RX9 164 (-100003)) (by decide +kernel)) dX9_least_50 ?_
          have hP9 := hP.sub (ws' := [(h0, .inr (9, [.int th, .ref a1, .ref a2, .ref a3, .ref a4, .ref a5, .int ne, .int wi, .int dn, .ref a6, .ref a7, .int nn, .ref a8, .int la, .ref a9, .ref a10, .long up, .long lw, .int wh, .long pu, .long pw, .ref a11])), (a1, .inl (cI, 16, .inl Fi)), (a2, .inl (cI, 16, .inl Ma)), (a5, .inl (cI, 576, .inl Sp))]) [0, 1, 2, 3] rfl
          have hD9 := hD.sub (ws' := [(h0, .inr (9, [.int th, .ref a1, .ref a2, .ref a3, .ref a4, .ref a5, .int ne, .int wi, .int dn, .ref a6, .ref a7, .int nn, .ref a8, .int la, .ref a9, .ref a10, .long up, .long lw, .int wh, .long pu, .long pw, .ref a11])), (a1, .inl (cI, 16, .inl Fi)), (a2, .inl (cI, 16, .inl Ma)), (a5, .inl (cI, 576, .inl Sp))]) [0, 1, 2, 3] (by decide) rfl
          have hK9 := hK.sub (tys' := [(cI, .int)]) [0] rfl
          refine W.widen (k := 0) (n := 0) (by omega) (by omega) ?_
          exact W.lret (v := (-100003)) hx hb hr (fun t ht hW => ⟨⟨_, (), rfl, trivial, up, lw, wh, pu, pw, by rw [ht]; exact hP9, va_K.moved hW.alike hK9, hD9⟩, hS.F ht⟩) hS.2.2 dX9_least_53
        · have t_38 := mt (fa_eq _ _).mpr c_38
          refine lv_aload_n hx hb dX9_least_41 rfl (lv_at hl 0 rfl) ?_
          refine lv_iload_n hx hb dX9_least_42 rfl (lv_at hl 1 rfl) ?_
          refine lv_iload_n hx hb dX9_least_43 rfl (lv_at hl 2 rfl) ?_
          have hPc := hP.sub (ws' := [(h0, .inr (9, [.int th, .ref a1, .ref a2, .ref a3, .ref a4, .ref a5, .int ne, .int wi, .int dn, .ref a6, .ref a7, .int nn, .ref a8, .int la, .ref a9, .ref a10, .long up, .long lw, .int wh, .long pu, .long pw, .ref a11])), (a1, .inl (cI, 16, .inl Fi)), (a2, .inl (cI, 16, .inl Ma))]) [0, 1, 2] rfl
          have hKc := hK.sub (tys' := [(cI, .int)]) [0] rfl
          refine vp_callSi (W.runV (As := [.int p1, .int p2]) (rest := []) ⟨hx, hb, hml, hown, hts⟩ (c_X9_areTogether l dC dI h0 a1 a2 a3 a4 a5 a6 a7 a8 a9 a10 a11 th ne wi dn nn la wh up lw pu pw cI Fi Ma p1 p2 (by first | assumption | omega) (by first | omega | assumption) (by first | omega | assumption) (by first | omega | assumption) (by first | omega | assumption)) (cwV 2 hts g_X9_least__X9_areTogether_151 rfl rfl rfl (by decide +kernel) ⟨Nat.le_of_ble_eq_true rfl, Nat.le_of_ble_eq_true rfl⟩) ⟨fun a U g mk q => by obtain ⟨q0, qP, qK⟩ := q; exact ⟨q0, qP, va_K.moved (u := U) (U := U.calling g mk a) (Vm.Alike.refl U.vm) qK⟩, va_recv hKc hPc (ci := 9) (q0 := 0) rfl rfl, fun U hU hW => ⟨rfl, by rw [hU]; exact hPc, va_K.moved hW.alike hKc⟩⟩ rfl rfl hl.1 rfl (lv_room (Nat.le_of_ble_eq_true rfl)) dX9_least_44 ⟨Nat.le_of_ble_eq_true rfl, Nat.le_of_ble_eq_true rfl⟩) (fun r_4 hr_4 => ?_)
          try dsimp only at hr_4
          rcases bo_split hr_4 with ⟨rfl, q_44⟩ | ⟨rfl, q_44⟩
          · refine lv_if_ne (tgt := 54) hx hb dX9_least_47 (by decide) (fun _ => ?_) (fun h9 => absurd h9 (by decide))
            refine lv_aload_n hx hb dX9_least_54 rfl (lv_at hl 0 rfl) ?_
            refine lv_iload_n hx hb dX9_least_55 rfl (lv_at hl 1 rfl) ?_
            refine lv_iload_n hx hb dX9_least_56 rfl (lv_at hl 2 rfl) ?_
            have hPc := hP.sub (ws' := [(h0, .inr (9, [.int th, .ref a1, .ref a2, .ref a3, .ref a4, .ref a5, .int ne, .int wi, .int dn, .ref a6, .ref a7, .int nn, .ref a8, .int la, .ref a9, .ref a10, .long up, .long lw, .int wh, .long pu, .long pw, .ref a11])), (a1, .inl (cI, 16, .inl Fi)), (a2, .inl (cI, 16, .inl Ma)), (a5, .inl (cI, 576, .inl Sp))]) [0, 1, 2, 3] rfl
            have hKc := hK.sub (tys' := [(cI, .int)]) [0] rfl
            have hDc := hD.sub (ws' := [(h0, .inr (9, [.int th, .ref a1, .ref a2, .ref a3, .ref a4, .ref a5, .int ne, .int wi, .int dn, .ref a6, .ref a7, .int nn, .ref a8, .int la, .ref a9, .ref a10, .long up, .long lw, .int wh, .long pu, .long pw, .ref a11])), (a1, .inl (cI, 16, .inl Fi)), (a2, .inl (cI, 16, .inl Ma)), (a5, .inl (cI, 576, .inl Sp))]) [0, 1, 2, 3] (by decide) rfl
            have hFc := va_free (wc := [(h0, .inr (9, [.int th, .ref a1, .ref a2, .ref a3, .ref a4, .ref a5, .int ne, .int wi, .int dn, .ref a6, .ref a7, .int nn, .ref a8, .int la, .ref a9, .ref a10, .long up, .long lw, .int wh, .long pu, .long pw, .ref a11])), (a1, .inl (cI, 16, .inl Fi)), (a2, .inl (cI, 16, .inl Ma)), (a5, .inl (cI, 576, .inl Sp))]) hD hS hA [0, 1, 2, 3] rfl
            refine va_callv (va_runV (As := [.int p1, .int p2]) (rest := []) ⟨hx, hb, hml, hown, hts⟩ (c_X9_findLeast l dC dI h0 a1 a2 a3 a4 a5 a6 a7 a8 a9 a10 a11 th ne wi dn nn la wh up lw pu pw cI Fi Ma Sp p1 p2 s.heap.size (by first | assumption | omega) (by first | omega | assumption) (by first | omega | assumption) (by first | omega | assumption) (by first | omega | assumption) (by first | omega | assumption) (by first | omega | assumption)) (cwV 2 hts g_X9_least__X9_findLeast_154 rfl rfl rfl (by decide +kernel) ⟨Nat.le_of_ble_eq_true rfl, Nat.le_of_ble_eq_true rfl⟩) ⟨fun a U g mk q => by obtain ⟨q0, q1, qP, qK, qD⟩ := q; exact ⟨q0, q1, qP, va_K.moved (u := U) (U := U.calling g mk a) (Vm.Alike.refl U.vm) qK, qD⟩, va_recv hKc hPc (ci := 9) (q0 := 0) rfl rfl, fun U hU hW => ⟨rfl, by rw [hU], by rw [hU]; exact hPc, va_K.moved hW.alike hKc, hDc.weaken (fun _ _ _ _ => trivial)⟩⟩ rfl rfl hl.1 rfl (lv_room (Nat.le_of_ble_eq_true rfl)) dX9_least_57 ⟨Nat.le_of_ble_eq_true rfl, Nat.le_of_ble_eq_true rfl⟩) hS (fun q _ h => hFc q h) hFc (fun u_5 t H1 locs ht hvm hw_6 hB hz1 hk1 hS => ?_)
            obtain ⟨up9_7, lw9_8, wh9_9, pu9_10, pw9_11, hP1, hK1, hD1, hlw9_12, hwh9_13, hpw9_14⟩ := hB
            rw [ht] at hP1
            have hK1 := va_K.moved hvm.symm hK1
            obtain ⟨hP, hD⟩ := va_join (wr := []) (w1 := [(h0, .inr (9, [.int th, .ref a1, .ref a2, .ref a3, .ref a4, .ref a5, .int ne, .int wi, .int dn, .ref a6, .ref a7, .int nn, .ref a8, .int la, .ref a9, .ref a10, .long up9_7, .long lw9_8, .int wh9_9, .long pu9_10, .long pw9_11, .ref a11])), (a1, .inl (cI, 16, .inl Fi)), (a2, .inl (cI, 16, .inl Ma)), (a5, .inl (cI, 576, .inl Sp))]) hP hD [0, 1, 2, 3] [] rfl rfl (by decide) (by decide) hk1 hFc hP1 hD1
            have hK := (hK.sub (tys' := [(cI, .int)]) [0] rfl).app hK1
            generalize H1 = H at hP hS ⊢
            have hP : va_P (dC, dI) vwCl [(h0, .inr (9, [.int th, .ref a1, .ref a2, .ref a3, .ref a4, .ref a5, .int ne, .int wi, .int dn, .ref a6, .ref a7, .int nn, .ref a8, .int la, .ref a9, .ref a10, .long up9_7, .long lw9_8, .int wh9_9, .long pu9_10, .long pw9_11, .ref a11])), (a1, .inl (cI, 16, .inl Fi)), (a2, .inl (cI, 16, .inl Ma)), (a5, .inl (cI, 576, .inl Sp))] H := hP
            have hD : va_D A [(h0, .inr (9, [.int th, .ref a1, .ref a2, .ref a3, .ref a4, .ref a5, .int ne, .int wi, .int dn, .ref a6, .ref a7, .int nn, .ref a8, .int la, .ref a9, .ref a10, .long up9_7, .long lw9_8, .int wh9_9, .long pu9_10, .long pw9_11, .ref a11])), (a1, .inl (cI, 16, .inl Fi)), (a2, .inl (cI, 16, .inl Ma)), (a5, .inl (cI, 576, .inl Sp))] := hD
            have hK : va_K (dC, dI) vwCl [(cI, .int), (cI, .int)] s := hK
            refine W.widen (k := 0) (n := 0) (by omega) (by omega) ?_
            refine lv_aload_n hx hb dX9_least_60 rfl (lv_at hl 0 rfl) ?_
            refine va_get (D := (dC, dI)) (ci := 9) (v := .long up9_7) (C := RX9) (T := TX9) (N := 22) hx hb hts in_X9_least_X9 hown hK hP 0 rfl rfl 16 (by decide) (hts (.fieldLink RX9 121 "MeetingsAboveModel" "upper" "J") (by decide +kernel)) (fun _ h9 => h9) rfl dX9_least_61 ?_
            refine lv_aload_n hx hb dX9_least_64 rfl (lv_at hl 0 rfl) ?_
            refine va_get (D := (dC, dI)) (ci := 9) (v := .long lw9_8) (C := RX9) (T := TX9) (N := 22) hx hb hts in_X9_least_X9 hown hK hP 0 rfl rfl 17 (by decide) (hts (.fieldLink RX9 125 "MeetingsAboveModel" "lower" "J") (by decide +kernel)) (fun _ h9 => h9) rfl dX9_least_65 ?_
            refine vp_callSl (W.runS (As := [.long up9_7, .long lw9_8]) (rest := []) ⟨hx, hb, hml, hown, hts⟩ (c_X9_common l dC dI up9_7 lw9_8) (va_cwS 2 hts g_X9_least__X9_common_166 rfl rfl rfl (by decide +kernel) ⟨Nat.le_of_ble_eq_true rfl, Nat.le_of_ble_eq_true rfl⟩) ⟨fun a U g mk q => by obtain ⟨q0, q1⟩ := q; exact ⟨q0, q1⟩, fun U hU hW => ⟨rfl, trivial⟩⟩ rfl rfl hl.1 rfl (lv_room (Nat.le_of_ble_eq_true rfl)) dX9_least_68 ⟨Nat.le_of_ble_eq_true rfl, Nat.le_of_ble_eq_true rfl⟩) (fun r_15 hr_15 => ?_)
            try dsimp only at hr_15
            refine lv_lstore (lv' := [(4, .long r_15), (0, .ref h0), (1, .int p1), (2, .int p2), (3, .int p3)]) hx hb dX9_least_71 hl (by decide) rfl (fun ls hl => ?_)
            refine lv_aload_n hx hb dX9_least_73 rfl (lv_at hl 1 rfl) ?_
            refine va_get (D := (dC, dI)) (ci := 9) (v := .long pu9_10) (C := RX9) (T := TX9) (N := 22) hx hb hts in_X9_least_X9 hown hK hP 0 rfl rfl 19 (by decide) (hts (.fieldLink RX9 131 "MeetingsAboveModel" "partUpper" "J") (by decide +kernel)) (fun _ h9 => h9) rfl dX9_least_74 ?_
            refine lv_aload_n hx hb dX9_least_77 rfl (lv_at hl 1 rfl) ?_
            refine va_get (D := (dC, dI)) (ci := 9) (v := .long pw9_11) (C := RX9) (T := TX9) (N := 22) hx hb hts in_X9_least_X9 hown hK hP 0 rfl rfl 20 (by decide) (hts (.fieldLink RX9 134 "MeetingsAboveModel" "partLower" "J") (by decide +kernel)) (fun _ h9 => h9) rfl dX9_least_78 ?_
            refine vp_callSl (W.runS (As := [.long pu9_10, .long pw9_11]) (rest := []) ⟨hx, hb, hml, hown, hts⟩ (c_X9_common l dC dI pu9_10 pw9_11) (va_cwS 2 hts g_X9_least__X9_common_166 rfl rfl rfl (by decide +kernel) ⟨Nat.le_of_ble_eq_true rfl, Nat.le_of_ble_eq_true rfl⟩) ⟨fun a U g mk q => by obtain ⟨q0, q1⟩ := q; exact ⟨q0, q1⟩, fun U hU hW => ⟨rfl, trivial⟩⟩ rfl rfl hl.1 rfl (lv_room (Nat.le_of_ble_eq_true rfl)) dX9_least_81 ⟨Nat.le_of_ble_eq_true rfl, Nat.le_of_ble_eq_true rfl⟩) (fun r_16 hr_16 => ?_)
            try dsimp only at hr_16
            refine lv_lstore (lv' := [(6, .long r_16), (4, .long r_15), (0, .ref h0), (1, .int p1), (2, .int p2), (3, .int p3)]) hx hb dX9_least_84 hl (by decide) rfl (fun ls hl => ?_)
            refine lv_iload_n hx hb dX9_least_86 rfl (lv_at hl 5 rfl) ?_
            refine lv_if_ne (tgt := 100) hx hb dX9_least_87 (by decide) (fun c_87 => ?_) (fun c_87 => ?_)
            · have t_87 := mt (fa_eq _ _).mpr c_87
              refine lv_iload_n hx hb dX9_least_100 rfl (lv_at hl 5 rfl) ?_
              refine lv_iconst (v := 1) hx hb dX9_least_101 (by decide) ?_
              refine lv_icmp_ne (tgt := 115) hx hb dX9_least_102 (by decide) (fun c_102 => ?_) (fun c_102 => ?_)
              · have t_102 := mt (fa_eq _ _).mpr c_102
                refine lv_iload_n hx hb dX9_least_115 rfl (lv_at hl 5 rfl) ?_
                refine lv_iconst (v := 2) hx hb dX9_least_116 (by decide) ?_
                refine lv_icmp_ne (tgt := 128) hx hb dX9_least_117 (by decide) (fun c_117 => ?_) (fun c_117 => ?_)
                · have t_117 := mt (fa_eq _ _).mpr c_117
                  refine lv_iload_n hx hb dX9_least_128 rfl (lv_at hl 5 rfl) ?_
                  refine lv_iconst (v := 3) hx hb dX9_least_129 (by decide) ?_
                  refine lv_icmp_ne (tgt := 143) hx hb dX9_least_130 (by decide) (fun c_130 => ?_) (fun c_130 => ?_)
                  · have t_130 := mt (fa_eq _ _).mpr c_130
                    refine lv_aload_n hx hb dX9_least_143 rfl (lv_at hl 2 rfl) ?_
                    refine va_get (D := (dC, dI)) (ci := 9) (v := .long pw9_11) (C := RX9) (T := TX9) (N := 22) hx hb hts in_X9_least_X9 hown hK hP 0 rfl rfl 20 (by decide) (hts (.fieldLink RX9 134 "MeetingsAboveModel" "partLower" "J") (by decide +kernel)) (fun _ h9 => h9) rfl dX9_least_144 ?_
                    refine lv_lload hx hb dX9_least_147 (lv_at hl 0 rfl) ?_
                    refine lv_ldiv hx hb dX9_least_149 (fun h9 => by have h8 := hr_16 (by omega); rw [h9, klL_0] at h8; omega) ?_
                    refine lv_topl (fun y_17 ey_17 => ?_)
                    have hP9 := hP.sub (ws' := [(h0, .inr (9, [.int th, .ref a1, .ref a2, .ref a3, .ref a4, .ref a5, .int ne, .int wi, .int dn, .ref a6, .ref a7, .int nn, .ref a8, .int la, .ref a9, .ref a10, .long up9_7, .long lw9_8, .int wh9_9, .long pu9_10, .long pw9_11, .ref a11])), (a1, .inl (cI, 16, .inl Fi)), (a2, .inl (cI, 16, .inl Ma)), (a5, .inl (cI, 576, .inl Sp))]) [0, 1, 2, 3] rfl
                    have hD9 := hD.sub (ws' := [(h0, .inr (9, [.int th, .ref a1, .ref a2, .ref a3, .ref a4, .ref a5, .int ne, .int wi, .int dn, .ref a6, .ref a7, .int nn, .ref a8, .int la, .ref a9, .ref a10, .long up9_7, .long lw9_8, .int wh9_9, .long pu9_10, .long pw9_11, .ref a11])), (a1, .inl (cI, 16, .inl Fi)), (a2, .inl (cI, 16, .inl Ma)), (a5, .inl (cI, 576, .inl Sp))]) [0, 1, 2, 3] (by decide) rfl
                    have hK9 := hK.sub (tys' := [(cI, .int)]) [0] rfl
                    refine W.widen (k := 0) (n := 0) (by omega) (by omega) ?_
                    exact W.lret (v := y_17) hx hb hr (fun t ht hW => ⟨⟨_, (), rfl, trivial, up9_7, lw9_8, wh9_9, pu9_10, pw9_11, by rw [ht]; exact hP9, va_K.moved hW.alike hK9, hD9⟩, hS.F ht⟩) hS.2.2 dX9_least_150
                  · have t_130 := (fa_eq _ _).mp c_130
                    refine lv_aload_n hx hb dX9_least_133 rfl (lv_at hl 2 rfl) ?_
                    refine va_get (D := (dC, dI)) (ci := 9) (v := .long pu9_10) (C := RX9) (T := TX9) (N := 22) hx hb hts in_X9_least_X9 hown hK hP 0 rfl rfl 19 (by decide) (hts (.fieldLink RX9 131 "MeetingsAboveModel" "partUpper" "J") (by decide +kernel)) (fun _ h9 => h9) rfl dX9_least_134 ?_
                    refine lv_lload hx hb dX9_least_137 (lv_at hl 0 rfl) ?_
                    refine lv_ldiv hx hb dX9_least_139 (fun h9 => by have h8 := hr_16 (by omega); rw [h9, klL_0] at h8; omega) ?_
                    refine lv_topl (fun y_18 ey_18 => ?_)
                    refine lv_goto (tgt := 150) hx hb dX9_least_140 (by decide) ?_
                    have hP9 := hP.sub (ws' := [(h0, .inr (9, [.int th, .ref a1, .ref a2, .ref a3, .ref a4, .ref a5, .int ne, .int wi, .int dn, .ref a6, .ref a7, .int nn, .ref a8, .int la, .ref a9, .ref a10, .long up9_7, .long lw9_8, .int wh9_9, .long pu9_10, .long pw9_11, .ref a11])), (a1, .inl (cI, 16, .inl Fi)), (a2, .inl (cI, 16, .inl Ma)), (a5, .inl (cI, 576, .inl Sp))]) [0, 1, 2, 3] rfl
                    have hD9 := hD.sub (ws' := [(h0, .inr (9, [.int th, .ref a1, .ref a2, .ref a3, .ref a4, .ref a5, .int ne, .int wi, .int dn, .ref a6, .ref a7, .int nn, .ref a8, .int la, .ref a9, .ref a10, .long up9_7, .long lw9_8, .int wh9_9, .long pu9_10, .long pw9_11, .ref a11])), (a1, .inl (cI, 16, .inl Fi)), (a2, .inl (cI, 16, .inl Ma)), (a5, .inl (cI, 576, .inl Sp))]) [0, 1, 2, 3] (by decide) rfl
                    have hK9 := hK.sub (tys' := [(cI, .int)]) [0] rfl
                    refine W.widen (k := 0) (n := 0) (by omega) (by omega) ?_
                    exact W.lret (v := y_18) hx hb hr (fun t ht hW => ⟨⟨_, (), rfl, trivial, up9_7, lw9_8, wh9_9, pu9_10, pw9_11, by rw [ht]; exact hP9, va_K.moved hW.alike hK9, hD9⟩, hS.F ht⟩) hS.2.2 dX9_least_150
                · have t_117 := (fa_eq _ _).mp c_117
                  refine lv_aload_n hx hb dX9_least_120 rfl (lv_at hl 2 rfl) ?_
                  refine va_get (D := (dC, dI)) (ci := 9) (v := .int wh9_9) (C := RX9) (T := TX9) (N := 22) hx hb hts in_X9_least_X9 hown hK hP 0 rfl rfl 18 (by decide) (hts (.fieldLink RX9 128 "MeetingsAboveModel" "when" "I") (by decide +kernel)) (fun _ h9 => h9) rfl dX9_least_121 ?_
                  refine lv_i2l hx hb dX9_least_124 rfl ?_
                  refine lv_goto (tgt := 150) hx hb dX9_least_125 (by decide) ?_
                  have hP9 := hP.sub (ws' := [(h0, .inr (9, [.int th, .ref a1, .ref a2, .ref a3, .ref a4, .ref a5, .int ne, .int wi, .int dn, .ref a6, .ref a7, .int nn, .ref a8, .int la, .ref a9, .ref a10, .long up9_7, .long lw9_8, .int wh9_9, .long pu9_10, .long pw9_11, .ref a11])), (a1, .inl (cI, 16, .inl Fi)), (a2, .inl (cI, 16, .inl Ma)), (a5, .inl (cI, 576, .inl Sp))]) [0, 1, 2, 3] rfl
                  have hD9 := hD.sub (ws' := [(h0, .inr (9, [.int th, .ref a1, .ref a2, .ref a3, .ref a4, .ref a5, .int ne, .int wi, .int dn, .ref a6, .ref a7, .int nn, .ref a8, .int la, .ref a9, .ref a10, .long up9_7, .long lw9_8, .int wh9_9, .long pu9_10, .long pw9_11, .ref a11])), (a1, .inl (cI, 16, .inl Fi)), (a2, .inl (cI, 16, .inl Ma)), (a5, .inl (cI, 576, .inl Sp))]) [0, 1, 2, 3] (by decide) rfl
                  have hK9 := hK.sub (tys' := [(cI, .int)]) [0] rfl
                  refine W.widen (k := 0) (n := 0) (by omega) (by omega) ?_
                  exact W.lret (v := wh9_9.toInt64) hx hb hr (fun t ht hW => ⟨⟨_, (), rfl, trivial, up9_7, lw9_8, wh9_9, pu9_10, pw9_11, by rw [ht]; exact hP9, va_K.moved hW.alike hK9, hD9⟩, hS.F ht⟩) hS.2.2 dX9_least_150
              · have t_102 := (fa_eq _ _).mp c_102
                refine lv_aload_n hx hb dX9_least_105 rfl (lv_at hl 2 rfl) ?_
                refine va_get (D := (dC, dI)) (ci := 9) (v := .long lw9_8) (C := RX9) (T := TX9) (N := 22) hx hb hts in_X9_least_X9 hown hK hP 0 rfl rfl 17 (by decide) (hts (.fieldLink RX9 125 "MeetingsAboveModel" "lower" "J") (by decide +kernel)) (fun _ h9 => h9) rfl dX9_least_106 ?_
                refine lv_lload hx hb dX9_least_109 (lv_at hl 1 rfl) ?_
                refine lv_ldiv hx hb dX9_least_111 (fun h9 => by have h8 := hr_15 (by omega); rw [h9, klL_0] at h8; omega) ?_
                refine lv_topl (fun y_19 ey_19 => ?_)
                refine lv_goto (tgt := 150) hx hb dX9_least_112 (by decide) ?_
                have hP9 := hP.sub (ws' := [(h0, .inr (9, [.int th, .ref a1, .ref a2, .ref a3, .ref a4, .ref a5, .int ne, .int wi, .int dn, .ref a6, .ref a7, .int nn, .ref a8, .int la, .ref a9, .ref a10, .long up9_7, .long lw9_8, .int wh9_9, .long pu9_10, .long pw9_11, .ref a11])), (a1, .inl (cI, 16, .inl Fi)), (a2, .inl (cI, 16, .inl Ma)), (a5, .inl (cI, 576, .inl Sp))]) [0, 1, 2, 3] rfl
                have hD9 := hD.sub (ws' := [(h0, .inr (9, [.int th, .ref a1, .ref a2, .ref a3, .ref a4, .ref a5, .int ne, .int wi, .int dn, .ref a6, .ref a7, .int nn, .ref a8, .int la, .ref a9, .ref a10, .long up9_7, .long lw9_8, .int wh9_9, .long pu9_10, .long pw9_11, .ref a11])), (a1, .inl (cI, 16, .inl Fi)), (a2, .inl (cI, 16, .inl Ma)), (a5, .inl (cI, 576, .inl Sp))]) [0, 1, 2, 3] (by decide) rfl
                have hK9 := hK.sub (tys' := [(cI, .int)]) [0] rfl
                refine W.widen (k := 0) (n := 0) (by omega) (by omega) ?_
                exact W.lret (v := y_19) hx hb hr (fun t ht hW => ⟨⟨_, (), rfl, trivial, up9_7, lw9_8, wh9_9, pu9_10, pw9_11, by rw [ht]; exact hP9, va_K.moved hW.alike hK9, hD9⟩, hS.F ht⟩) hS.2.2 dX9_least_150
            · have t_87 := (fa_eq _ _).mp c_87
              refine lv_aload_n hx hb dX9_least_90 rfl (lv_at hl 2 rfl) ?_
              refine va_get (D := (dC, dI)) (ci := 9) (v := .long up9_7) (C := RX9) (T := TX9) (N := 22) hx hb hts in_X9_least_X9 hown hK hP 0 rfl rfl 16 (by decide) (hts (.fieldLink RX9 121 "MeetingsAboveModel" "upper" "J") (by decide +kernel)) (fun _ h9 => h9) rfl dX9_least_91 ?_
              refine lv_lload hx hb dX9_least_94 (lv_at hl 1 rfl) ?_
              refine lv_ldiv hx hb dX9_least_96 (fun h9 => by have h8 := hr_15 (by omega); rw [h9, klL_0] at h8; omega) ?_
              refine lv_topl (fun y_20 ey_20 => ?_)
              refine lv_goto (tgt := 150) hx hb dX9_least_97 (by decide) ?_
              have hP9 := hP.sub (ws' := [(h0, .inr (9, [.int th, .ref a1, .ref a2, .ref a3, .ref a4, .ref a5, .int ne, .int wi, .int dn, .ref a6, .ref a7, .int nn, .ref a8, .int la, .ref a9, .ref a10, .long up9_7, .long lw9_8, .int wh9_9, .long pu9_10, .long pw9_11, .ref a11])), (a1, .inl (cI, 16, .inl Fi)), (a2, .inl (cI, 16, .inl Ma)), (a5, .inl (cI, 576, .inl Sp))]) [0, 1, 2, 3] rfl
              have hD9 := hD.sub (ws' := [(h0, .inr (9, [.int th, .ref a1, .ref a2, .ref a3, .ref a4, .ref a5, .int ne, .int wi, .int dn, .ref a6, .ref a7, .int nn, .ref a8, .int la, .ref a9, .ref a10, .long up9_7, .long lw9_8, .int wh9_9, .long pu9_10, .long pw9_11, .ref a11])), (a1, .inl (cI, 16, .inl Fi)), (a2, .inl (cI, 16, .inl Ma)), (a5, .inl (cI, 576, .inl Sp))]) [0, 1, 2, 3] (by decide) rfl
              have hK9 := hK.sub (tys' := [(cI, .int)]) [0] rfl
              refine W.widen (k := 0) (n := 0) (by omega) (by omega) ?_
              exact W.lret (v := y_20) hx hb hr (fun t ht hW => ⟨⟨_, (), rfl, trivial, up9_7, lw9_8, wh9_9, pu9_10, pw9_11, by rw [ht]; exact hP9, va_K.moved hW.alike hK9, hD9⟩, hS.F ht⟩) hS.2.2 dX9_least_150
          · refine lv_if_ne (tgt := 54) hx hb dX9_least_47 (by decide) (fun h9 => absurd h9 (by decide)) (fun _ => ?_)
            refine lv_ldc2 hx hb hown (hts (.constantLong RX9 164 (-100003)) (by decide +kernel)) dX9_least_50 ?_
            have hP9 := hP.sub (ws' := [(h0, .inr (9, [.int th, .ref a1, .ref a2, .ref a3, .ref a4, .ref a5, .int ne, .int wi, .int dn, .ref a6, .ref a7, .int nn, .ref a8, .int la, .ref a9, .ref a10, .long up, .long lw, .int wh, .long pu, .long pw, .ref a11])), (a1, .inl (cI, 16, .inl Fi)), (a2, .inl (cI, 16, .inl Ma)), (a5, .inl (cI, 576, .inl Sp))]) [0, 1, 2, 3] rfl
            have hD9 := hD.sub (ws' := [(h0, .inr (9, [.int th, .ref a1, .ref a2, .ref a3, .ref a4, .ref a5, .int ne, .int wi, .int dn, .ref a6, .ref a7, .int nn, .ref a8, .int la, .ref a9, .ref a10, .long up, .long lw, .int wh, .long pu, .long pw, .ref a11])), (a1, .inl (cI, 16, .inl Fi)), (a2, .inl (cI, 16, .inl Ma)), (a5, .inl (cI, 576, .inl Sp))]) [0, 1, 2, 3] (by decide) rfl
            have hK9 := hK.sub (tys' := [(cI, .int)]) [0] rfl
            refine W.widen (k := 0) (n := 0) (by omega) (by omega) ?_
            exact W.lret (v := (-100003)) hx hb hr (fun t ht hW => ⟨⟨_, (), rfl, trivial, up, lw, wh, pu, pw, by rw [ht]; exact hP9, va_K.moved hW.alike hK9, hD9⟩, hS.F ht⟩) hS.2.2 dX9_least_53
      · simp only [Int32.toInt_toInt64, klL_0, klL_4] at q_26
        refine lv_if_ne (tgt := 36) hx hb dX9_least_29 (by decide) (fun h9 => absurd h9 (by decide)) (fun _ => ?_)
        refine lv_ldc2 hx hb hown (hts (.constantLong RX9 162 (-100002)) (by decide +kernel)) dX9_least_32 ?_
        have hP9 := hP.sub (ws' := [(h0, .inr (9, [.int th, .ref a1, .ref a2, .ref a3, .ref a4, .ref a5, .int ne, .int wi, .int dn, .ref a6, .ref a7, .int nn, .ref a8, .int la, .ref a9, .ref a10, .long up, .long lw, .int wh, .long pu, .long pw, .ref a11])), (a1, .inl (cI, 16, .inl Fi)), (a2, .inl (cI, 16, .inl Ma)), (a5, .inl (cI, 576, .inl Sp))]) [0, 1, 2, 3] rfl
        have hD9 := hD.sub (ws' := [(h0, .inr (9, [.int th, .ref a1, .ref a2, .ref a3, .ref a4, .ref a5, .int ne, .int wi, .int dn, .ref a6, .ref a7, .int nn, .ref a8, .int la, .ref a9, .ref a10, .long up, .long lw, .int wh, .long pu, .long pw, .ref a11])), (a1, .inl (cI, 16, .inl Fi)), (a2, .inl (cI, 16, .inl Ma)), (a5, .inl (cI, 576, .inl Sp))]) [0, 1, 2, 3] (by decide) rfl
        have hK9 := hK.sub (tys' := [(cI, .int)]) [0] rfl
        refine W.widen (k := 0) (n := 0) (by omega) (by omega) ?_
        exact W.lret (v := (-100002)) hx hb hr (fun t ht hW => ⟨⟨_, (), rfl, trivial, up, lw, wh, pu, pw, by rw [ht]; exact hP9, va_K.moved hW.alike hK9, hD9⟩, hS.F ht⟩) hS.2.2 dX9_least_35
    · refine lv_if_ne (tgt := 20) hx hb dX9_least_13 (by decide) (fun h9 => absurd h9 (by decide)) (fun _ => ?_)
      refine lv_ldc2 hx hb hown (hts (.constantLong RX9 158 (-100001)) (by decide +kernel)) dX9_least_16 ?_
      have hP9 := hP.sub (ws' := [(h0, .inr (9, [.int th, .ref a1, .ref a2, .ref a3, .ref a4, .ref a5, .int ne, .int wi, .int dn, .ref a6, .ref a7, .int nn, .ref a8, .int la, .ref a9, .ref a10, .long up, .long lw, .int wh, .long pu, .long pw, .ref a11])), (a1, .inl (cI, 16, .inl Fi)), (a2, .inl (cI, 16, .inl Ma)), (a5, .inl (cI, 576, .inl Sp))]) [0, 1, 2, 3] rfl
      have hD9 := hD.sub (ws' := [(h0, .inr (9, [.int th, .ref a1, .ref a2, .ref a3, .ref a4, .ref a5, .int ne, .int wi, .int dn, .ref a6, .ref a7, .int nn, .ref a8, .int la, .ref a9, .ref a10, .long up, .long lw, .int wh, .long pu, .long pw, .ref a11])), (a1, .inl (cI, 16, .inl Fi)), (a2, .inl (cI, 16, .inl Ma)), (a5, .inl (cI, 576, .inl Sp))]) [0, 1, 2, 3] (by decide) rfl
      have hK9 := hK.sub (tys' := [(cI, .int)]) [0] rfl
      refine W.widen (k := 0) (n := 0) (by omega) (by omega) ?_
      exact W.lret (v := (-100001)) hx hb hr (fun t ht hW => ⟨⟨_, (), rfl, trivial, up, lw, wh, pu, pw, by rw [ht]; exact hP9, va_K.moved hW.alike hK9, hD9⟩, hS.F ht⟩) hS.2.2 dX9_least_19
  · refine lv_if_eq (tgt := 16) hx hb dX9_least_5 (by decide) (fun _ => ?_) (fun h9 => absurd h9 (by decide))
    refine lv_ldc2 hx hb hown (hts (.constantLong RX9 158 (-100001)) (by decide +kernel)) dX9_least_16 ?_
    have hP9 := hP.sub (ws' := [(h0, .inr (9, [.int th, .ref a1, .ref a2, .ref a3, .ref a4, .ref a5, .int ne, .int wi, .int dn, .ref a6, .ref a7, .int nn, .ref a8, .int la, .ref a9, .ref a10, .long up, .long lw, .int wh, .long pu, .long pw, .ref a11])), (a1, .inl (cI, 16, .inl Fi)), (a2, .inl (cI, 16, .inl Ma)), (a5, .inl (cI, 576, .inl Sp))]) [0, 1, 2, 3] rfl
    have hD9 := hD.sub (ws' := [(h0, .inr (9, [.int th, .ref a1, .ref a2, .ref a3, .ref a4, .ref a5, .int ne, .int wi, .int dn, .ref a6, .ref a7, .int nn, .ref a8, .int la, .ref a9, .ref a10, .long up, .long lw, .int wh, .long pu, .long pw, .ref a11])), (a1, .inl (cI, 16, .inl Fi)), (a2, .inl (cI, 16, .inl Ma)), (a5, .inl (cI, 576, .inl Sp))]) [0, 1, 2, 3] (by decide) rfl
    have hK9 := hK.sub (tys' := [(cI, .int)]) [0] rfl
    refine W.widen (k := 0) (n := 0) (by omega) (by omega) ?_
    exact W.lret (v := (-100001)) hx hb hr (fun t ht hW => ⟨⟨_, (), rfl, trivial, up, lw, wh, pu, pw, by rw [ht]; exact hP9, va_K.moved hW.alike hK9, hD9⟩, hS.F ht⟩) hS.2.2 dX9_least_19
def wk_X9_meeting : List Cond := .code yX9_meeting cX9_meeting 6 (some .int) :: (([.fieldLink RX9 59 "MeetingsAboveModel" "things" "I", .constant RX9 70 (-100002)] : List Cond) ++ (wsX90 ++ ((va_wsS RX9 55 yX9_in wk_X9_in) ++ ((wsV RX9 106 RX9 yX9_isMeeting wk_X9_isMeeting) ++ ([])))))
theorem in_X9_meeting_X9 : ∀ w ∈ wsX90, w ∈ wk_X9_meeting := fun _ h => List.mem_cons_of_mem _ (List.mem_append_right _ (List.mem_append_left _ h))
theorem gw_X9_meeting : AG wk_X9_meeting := AG_ca (AG_l (by decide +kernel)) (AG_app ag_X9 (AG_app (AG_S gw_X9_in) (AG_app (AG_V gw_X9_isMeeting) (AG_nil))))
theorem g_X9_meeting__X9_in_55 : GoodIn wk_X9_meeting (va_wsS RX9 55 yX9_in wk_X9_in) := goodIn_m (fun _ h => List.mem_cons_of_mem _ (List.mem_append_right _ (List.mem_append_right _ (List.mem_append_left _ h)))) (AG_S gw_X9_in)
theorem g_X9_meeting__X9_isMeeting_106 : GoodIn wk_X9_meeting (wsV RX9 106 RX9 yX9_isMeeting wk_X9_isMeeting) := goodIn_m (fun _ h => List.mem_cons_of_mem _ (List.mem_append_right _ (List.mem_append_right _ (List.mem_append_right _ (List.mem_append_left _ h))))) (AG_V gw_X9_isMeeting)
set_option maxHeartbeats 4000000 in
set_option maxRecDepth 100000 in
theorem c_X9_meeting (l : Launch) (dC : Nat → ClassId) (dI : Nat → Nat → Nat) (h0 : Nat) (a1 : Nat) (a2 : Nat) (a3 : Nat) (a4 : Nat) (a5 : Nat) (a6 : Nat) (a7 : Nat) (a8 : Nat) (a9 : Nat) (a10 : Nat) (a11 : Nat) (th : Int32) (ne : Int32) (wi : Int32) (dn : Int32) (nn : Int32) (la : Int32) (wh : Int32) (up : Int64) (lw : Int64) (pu : Int64) (pw : Int64) (cI : ClassId) (cZ : ClassId) (Fi : Nat → Int32) (Ma : Nat → Int32) (Go : Nat → Int32) (Sp : Nat → Int32) (p1 : Int32) (p2 : Int32) (sz : Nat) (hM : mOK th Fi Ma) : Met l yX9_meeting wk_X9_meeting ({ frames := 4, cells := 0, slots := 0, locals := 104 }) (va_Pc [.ref h0, .int p1, .int p2] (fun U => U.heap.size = sz ∧ va_P (dC, dI) vwCl [(h0, .inr (9, [.int th, .ref a1, .ref a2, .ref a3, .ref a4, .ref a5, .int ne, .int wi, .int dn, .ref a6, .ref a7, .int nn, .ref a8, .int la, .ref a9, .ref a10, .long up, .long lw, .int wh, .long pu, .long pw, .ref a11])), (a1, .inl (cI, 16, .inl Fi)), (a2, .inl (cI, 16, .inl Ma)), (a4, .inl (cZ, 16, .inl Go)), (a5, .inl (cI, 576, .inl Sp))] U.heap ∧ va_K (dC, dI) vwCl [(cI, .int), (cZ, .boolean)] U ∧ va_D (fun _ => True) [(h0, .inr (9, [.int th, .ref a1, .ref a2, .ref a3, .ref a4, .ref a5, .int ne, .int wi, .int dn, .ref a6, .ref a7, .int nn, .ref a8, .int la, .ref a9, .ref a10, .long up, .long lw, .int wh, .long pu, .long pw, .ref a11])), (a1, .inl (cI, 16, .inl Fi)), (a2, .inl (cI, 16, .inl Ma)), (a4, .inl (cZ, 16, .inl Go)), (a5, .inl (cI, 576, .inl Sp))])) (va_Qi (fun (r : Int32) (_ : Unit) => True) (fun (_ : Unit) (t : State) => ∃ (up9 : Int64) (lw9 : Int64) (wh9 : Int32) (pu9 : Int64) (pw9 : Int64), va_P (dC, dI) vwCl [(h0, .inr (9, [.int th, .ref a1, .ref a2, .ref a3, .ref a4, .ref a5, .int ne, .int wi, .int dn, .ref a6, .ref a7, .int nn, .ref a8, .int la, .ref a9, .ref a10, .long up9, .long lw9, .int wh9, .long pu9, .long pw9, .ref a11])), (a1, .inl (cI, 16, .inl Fi)), (a2, .inl (cI, 16, .inl Ma)), (a4, .inl (cZ, 16, .inl Go)), (a5, .inl (cI, 576, .inl Sp))] t.heap ∧ va_K (dC, dI) vwCl [(cI, .int), (cZ, .boolean)] t ∧ va_D (va_A [(h0, .inr (9, [.int th, .ref a1, .ref a2, .ref a3, .ref a4, .ref a5, .int ne, .int wi, .int dn, .ref a6, .ref a7, .int nn, .ref a8, .int la, .ref a9, .ref a10, .long up, .long lw, .int wh, .long pu, .long pw, .ref a11])), (a1, .inl (cI, 16, .inl Fi)), (a2, .inl (cI, 16, .inl Ma)), (a4, .inl (cZ, 16, .inl Go)), (a5, .inl (cI, 576, .inl Sp))] sz) [(h0, .inr (9, [.int th, .ref a1, .ref a2, .ref a3, .ref a4, .ref a5, .int ne, .int wi, .int dn, .ref a6, .ref a7, .int nn, .ref a8, .int la, .ref a9, .ref a10, .long up9, .long lw9, .int wh9, .long pu9, .long pw9, .ref a11])), (a1, .inl (cI, 16, .inl Fi)), (a2, .inl (cI, 16, .inl Ma)), (a4, .inl (cZ, 16, .inl Go)), (a5, .inl (cI, 576, .inl Sp))]) (va_A [(h0, .inr (9, [.int th, .ref a1, .ref a2, .ref a3, .ref a4, .ref a5, .int ne, .int wi, .int dn, .ref a6, .ref a7, .int nn, .ref a8, .int la, .ref a9, .ref a10, .long up, .long lw, .int wh, .long pu, .long pw, .ref a11])), (a1, .inl (cI, 16, .inl Fi)), (a2, .inl (cI, 16, .inl Ma)), (a4, .inl (cZ, 16, .inl Go)), (a5, .inl (cI, 576, .inl Sp))] sz)) 0 0 (va_A [(h0, .inr (9, [.int th, .ref a1, .ref a2, .ref a3, .ref a4, .ref a5, .int ne, .int wi, .int dn, .ref a6, .ref a7, .int nn, .ref a8, .int la, .ref a9, .ref a10, .long up, .long lw, .int wh, .long pu, .long pw, .ref a11])), (a1, .inl (cI, 16, .inl Fi)), (a2, .inl (cI, 16, .inl Ma)), (a4, .inl (cZ, 16, .inl Go)), (a5, .inl (cI, 576, .inl Sp))] sz) := by
  refine Met.ofW (cc := cX9_meeting) (maxL := 6) (ret := (some .int)) (by decide) rfl ?_
  intro p e s m args below meth c s₁ B hml hv
  obtain ⟨rfl, hsz, hP, hK, hD0⟩ := hv
  have hx := B.exec
  have hb := B.bytes
  have hr := B.returns
  have hts := atoms_spec (ws := wk_X9_meeting) B.pre
  have hown : s.vm.findClass RX9 = some m.cls := findClass_of_methodNamed B.named
  have hlocks := B.notSynchronized
  subst hsz
  have hD := hD0.self (sz := s.heap.size)
  generalize hAe : va_A [(h0, .inr (9, [.int th, .ref a1, .ref a2, .ref a3, .ref a4, .ref a5, .int ne, .int wi, .int dn, .ref a6, .ref a7, .int nn, .ref a8, .int la, .ref a9, .ref a10, .long up, .long lw, .int wh, .long pu, .long pw, .ref a11])), (a1, .inl (cI, 16, .inl Fi)), (a2, .inl (cI, 16, .inl Ma)), (a4, .inl (cZ, 16, .inl Go)), (a5, .inl (cI, 576, .inl Sp))] s.heap.size = A at hD ⊢
  have hA : ∀ q : Nat, s.heap.size ≤ q → A q := fun q h => by rw [← hAe]; exact Or.inr h
  have hS : va_S A s.heap s.heap [] := va_S.rf
  have hP : va_P (dC, dI) vwCl [(h0, .inr (9, [.int th, .ref a1, .ref a2, .ref a3, .ref a4, .ref a5, .int ne, .int wi, .int dn, .ref a6, .ref a7, .int nn, .ref a8, .int la, .ref a9, .ref a10, .long up, .long lw, .int wh, .long pu, .long pw, .ref a11])), (a1, .inl (cI, 16, .inl Fi)), (a2, .inl (cI, 16, .inl Ma)), (a4, .inl (cZ, 16, .inl Go)), (a5, .inl (cI, 576, .inl Sp))] s.heap := hP
  have hl := lv_entry ([.ref h0, .int p1, .int p2]) (n := 6) (Nat.le_of_ble_eq_true rfl)
  rw [lg_entry_eq]
  generalize (lg_sl ([.ref h0, .int p1, .int p2]) ++ List.replicate (6 - (lg_sl ([.ref h0, .int p1, .int p2])).length) Slot.unset).toArray = ls at hl ⊢
  have hl : lv_has ls 6 [(0, .ref h0), (1, .int p1), (2, .int p2)] := hl
  have kl_m100002 : (-100002 : Int32).toInt = -100002 := by decide
  have kl_m1 : (-1 : Int32).toInt = -1 := by decide
  have kl_0 : (0 : Int32).toInt = 0 := by decide
  have kl_1 : (1 : Int32).toInt = 1 := by decide
  have klL_0 : (0 : Int64).toInt = 0 := by decide
  have klL_1 : (1 : Int64).toInt = 1 := by decide
  obtain ⟨hM0, hM1, hM2⟩ := id hM
  refine lv_iload_n hx hb dX9_meeting_0 rfl (lv_at hl 2 rfl) ?_
  refine lv_i2l hx hb dX9_meeting_1 rfl ?_
  refine lv_lconst (v := 0) hx hb dX9_meeting_2 (by decide) ?_
  refine lv_lconst (v := 1) hx hb dX9_meeting_3 (by decide) ?_
  refine vp_callSi (W.runS (As := [.long p2.toInt64, .long 0, .long 1]) (rest := []) ⟨hx, hb, hml, hown, hts⟩ (c_X9_in l dC dI p2.toInt64 0 1) (va_cwS 3 hts g_X9_meeting__X9_in_55 rfl rfl rfl (by decide +kernel) ⟨Nat.le_of_ble_eq_true rfl, Nat.le_of_ble_eq_true rfl⟩) ⟨fun a U g mk q => by obtain ⟨q0, q1⟩ := q; exact ⟨q0, q1⟩, fun U hU hW => ⟨rfl, trivial⟩⟩ rfl rfl hl.1 rfl (lv_room (Nat.le_of_ble_eq_true rfl)) dX9_meeting_4 ⟨Nat.le_of_ble_eq_true rfl, Nat.le_of_ble_eq_true rfl⟩) (fun r_1 hr_1 => ?_)
  try dsimp only at hr_1
  rcases bo_split hr_1 with ⟨rfl, q_4⟩ | ⟨rfl, q_4⟩
  · simp only [Int32.toInt_toInt64, klL_0, klL_1] at q_4
    refine lv_if_ne (tgt := 13) hx hb dX9_meeting_7 (by decide) (fun _ => ?_) (fun h9 => absurd h9 (by decide))
    refine lv_iconst (v := 0) hx hb dX9_meeting_13 (by decide) ?_
    refine lv_istore_n (lv' := [(3, .int 0), (0, .ref h0), (1, .int p1), (2, .int p2)]) hx hb dX9_meeting_14 rfl hl (by decide) rfl (fun ls hl => ?_)
    refine lv_iconst (v := 0) hx hb dX9_meeting_15 (by decide) ?_
    refine lv_istore (lv' := [(4, .int 0), (3, .int 0), (0, .ref h0), (1, .int p1), (2, .int p2)]) hx hb dX9_meeting_16 hl (by decide) rfl (fun ls hl => ?_)
    refine (show ∀ (k : Nat) (n3 : Int32) (t4 : Int32) (uq : Int64) (lq : Int64) (wq : Int32) (pq : Int64) (dq : Int64) (hu0 : 0 ≤ t4.toInt) (hu1 : t4.toInt ≤ th.toInt) (hk_18 : (th.toInt - t4.toInt).toNat < k) (H : Heap) (locs : List Loc) (hP : va_P (dC, dI) vwCl [(h0, .inr (9, [.int th, .ref a1, .ref a2, .ref a3, .ref a4, .ref a5, .int ne, .int wi, .int dn, .ref a6, .ref a7, .int nn, .ref a8, .int la, .ref a9, .ref a10, .long uq, .long lq, .int wq, .long pq, .long dq, .ref a11])), (a1, .inl (cI, 16, .inl Fi)), (a2, .inl (cI, 16, .inl Ma)), (a4, .inl (cZ, 16, .inl Go)), (a5, .inl (cI, 576, .inl Sp))] H) (hD : va_D A [(h0, .inr (9, [.int th, .ref a1, .ref a2, .ref a3, .ref a4, .ref a5, .int ne, .int wi, .int dn, .ref a6, .ref a7, .int nn, .ref a8, .int la, .ref a9, .ref a10, .long uq, .long lq, .int wq, .long pq, .long dq, .ref a11])), (a1, .inl (cI, 16, .inl Fi)), (a2, .inl (cI, 16, .inl Ma)), (a4, .inl (cZ, 16, .inl Go)), (a5, .inl (cI, 576, .inl Sp))]) (hS : va_S A s.heap H locs) (ls : Array Slot) (hl : lv_has ls 6 [(0, .ref h0), (1, .int p1), (2, .int p2), (3, .int n3), (4, .int t4)]), W p l e _ s m _ below meth c H locs 0 0 _ (F0 m 18 ls []) from ?_) _ 0 0 up lw wh pu pw (by omega) (by omega) (Nat.lt_succ_self _) _ _ hP hD hS ls (lv_sub hl [2, 3, 4, 1, 0] rfl)
    intro k
    induction k with
    | zero => intro n3 t4 uq lq wq pq dq hu0 hu1 hk_18; exact absurd hk_18 (Nat.not_lt_zero _)
    | succ k ih_18 =>
      intro n3 t4 uq lq wq pq dq hu0 hu1 hk_18 H locs hP hD hS ls hl
      refine lv_iload hx hb dX9_meeting_18 (lv_at hl 4 rfl) ?_
      refine lv_aload_n hx hb dX9_meeting_20 rfl (lv_at hl 0 rfl) ?_
      refine va_get (D := (dC, dI)) (ci := 9) (v := .int th) (C := RX9) (T := TX9) (N := 22) hx hb hts in_X9_meeting_X9 hown hK hP 0 rfl rfl 0 (by decide) (hts (.fieldLink RX9 59 "MeetingsAboveModel" "things" "I") (by decide +kernel)) (fun _ h9 => h9) rfl dX9_meeting_21 ?_
      refine lv_icmp_ge (tgt := 85) hx hb dX9_meeting_24 (by decide) (fun c_24 => ?_) (fun c_24 => ?_)
      · have t_24 := (fa_le _ _).mp c_24
        refine lv_iconst (v := (-1)) hx hb dX9_meeting_85 (by decide) ?_
        have hP9 := hP.sub (ws' := [(h0, .inr (9, [.int th, .ref a1, .ref a2, .ref a3, .ref a4, .ref a5, .int ne, .int wi, .int dn, .ref a6, .ref a7, .int nn, .ref a8, .int la, .ref a9, .ref a10, .long uq, .long lq, .int wq, .long pq, .long dq, .ref a11])), (a1, .inl (cI, 16, .inl Fi)), (a2, .inl (cI, 16, .inl Ma)), (a4, .inl (cZ, 16, .inl Go)), (a5, .inl (cI, 576, .inl Sp))]) [0, 1, 2, 3, 4] rfl
        have hD9 := hD.sub (ws' := [(h0, .inr (9, [.int th, .ref a1, .ref a2, .ref a3, .ref a4, .ref a5, .int ne, .int wi, .int dn, .ref a6, .ref a7, .int nn, .ref a8, .int la, .ref a9, .ref a10, .long uq, .long lq, .int wq, .long pq, .long dq, .ref a11])), (a1, .inl (cI, 16, .inl Fi)), (a2, .inl (cI, 16, .inl Ma)), (a4, .inl (cZ, 16, .inl Go)), (a5, .inl (cI, 576, .inl Sp))]) [0, 1, 2, 3, 4] (by decide) rfl
        have hK9 := hK.sub (tys' := [(cI, .int), (cZ, .boolean)]) [0, 1] rfl
        refine W.widen (k := 0) (n := 0) (by omega) (by omega) ?_
        exact W.iret (v := (-1)) hx hb hr (fun t ht hW => ⟨⟨_, (), rfl, trivial, uq, lq, wq, pq, dq, by rw [ht]; exact hP9, va_K.moved hW.alike hK9, hD9⟩, hS.F ht⟩) hS.2.2 dX9_meeting_86
      · have t_24 := mt (fa_le _ _).mpr c_24
        refine lv_iload hx hb dX9_meeting_27 (lv_at hl 4 rfl) ?_
        refine lv_iconst (v := 1) hx hb dX9_meeting_29 (by decide) ?_
        refine lv_iadd hx hb dX9_meeting_30 ?_
        refine lv_topi (fun y_2 ey_2 => ?_)
        have ty_2 : y_2.toInt = t4.toInt + 1 := by rw [ey_2]; have := fb_addI (x := t4) (y := 1) (by omega) (by omega); omega
        refine lv_istore (lv' := [(5, .int y_2), (0, .ref h0), (1, .int p1), (2, .int p2), (3, .int n3), (4, .int t4)]) hx hb dX9_meeting_31 hl (by decide) rfl (fun ls hl => ?_)
        refine (show ∀ (k : Nat) (n4 : Int32) (u5 : Int32) (uqx : Int64) (lqx : Int64) (wqx : Int32) (pqx : Int64) (dqx : Int64) (hv0 : 0 ≤ u5.toInt) (hv1 : u5.toInt ≤ th.toInt) (hk_33 : (th.toInt - u5.toInt).toNat < k) (H : Heap) (locs : List Loc) (hP : va_P (dC, dI) vwCl [(h0, .inr (9, [.int th, .ref a1, .ref a2, .ref a3, .ref a4, .ref a5, .int ne, .int wi, .int dn, .ref a6, .ref a7, .int nn, .ref a8, .int la, .ref a9, .ref a10, .long uqx, .long lqx, .int wqx, .long pqx, .long dqx, .ref a11])), (a1, .inl (cI, 16, .inl Fi)), (a2, .inl (cI, 16, .inl Ma)), (a4, .inl (cZ, 16, .inl Go)), (a5, .inl (cI, 576, .inl Sp))] H) (hD : va_D A [(h0, .inr (9, [.int th, .ref a1, .ref a2, .ref a3, .ref a4, .ref a5, .int ne, .int wi, .int dn, .ref a6, .ref a7, .int nn, .ref a8, .int la, .ref a9, .ref a10, .long uqx, .long lqx, .int wqx, .long pqx, .long dqx, .ref a11])), (a1, .inl (cI, 16, .inl Fi)), (a2, .inl (cI, 16, .inl Ma)), (a4, .inl (cZ, 16, .inl Go)), (a5, .inl (cI, 576, .inl Sp))]) (hS : va_S A s.heap H locs) (ls : Array Slot) (hl : lv_has ls 6 [(0, .ref h0), (1, .int p1), (2, .int p2), (3, .int n4), (4, .int t4), (5, .int u5)]), W p l e _ s m _ below meth c H locs 0 0 _ (F0 m 33 ls []) from ?_) _ n3 y_2 uq lq wq pq dq (by omega) (by omega) (Nat.lt_succ_self _) H _ hP hD hS ls (lv_sub hl [1, 2, 3, 4, 5, 0] rfl)
        intro k
        induction k with
        | zero => intro n4 u5 uqx lqx wqx pqx dqx hv0 hv1 hk_33; exact absurd hk_33 (Nat.not_lt_zero _)
        | succ k ih_33 =>
          intro n4 u5 uqx lqx wqx pqx dqx hv0 hv1 hk_33 H locs hP hD hS ls hl
          refine lv_iload hx hb dX9_meeting_33 (lv_at hl 5 rfl) ?_
          refine lv_aload_n hx hb dX9_meeting_35 rfl (lv_at hl 0 rfl) ?_
          refine va_get (D := (dC, dI)) (ci := 9) (v := .int th) (C := RX9) (T := TX9) (N := 22) hx hb hts in_X9_meeting_X9 hown hK hP 0 rfl rfl 0 (by decide) (hts (.fieldLink RX9 59 "MeetingsAboveModel" "things" "I") (by decide +kernel)) (fun _ h9 => h9) rfl dX9_meeting_36 ?_
          refine lv_icmp_ge (tgt := 79) hx hb dX9_meeting_39 (by decide) (fun c_39 => ?_) (fun c_39 => ?_)
          · have t_39 := (fa_le _ _).mp c_39
            obtain ⟨y_3, ey_3⟩ : ∃ y : Int32, y = t4 + 1 := ⟨_, rfl⟩
            have ty_3 : y_3.toInt = t4.toInt + 1 := by rw [ey_3]; have := fb_addI (x := t4) (y := 1) (by omega) (by omega); omega
            refine lv_iinc (v := y_3) (lv' := [(4, .int y_3), (0, .ref h0), (1, .int p1), (2, .int p2), (3, .int n4), (5, .int u5)]) hx hb dX9_meeting_79 hl (k := 4) rfl (by rw [ey_3]; rfl) (by decide) rfl (fun ls hl => ?_)
            refine lv_goto (tgt := 18) hx hb dX9_meeting_82 (by decide) ?_
            exact ih_18 n4 y_3 uqx lqx wqx pqx dqx (by omega) (by omega) (by omega) H _ (hP.sub [0, 1, 2, 3, 4] rfl) (hD.sub [0, 1, 2, 3, 4] (by decide) rfl) hS ls (lv_sub hl [1, 2, 3, 4, 0] rfl)
          · have t_39 := mt (fa_le _ _).mpr c_39
            refine lv_aload_n hx hb dX9_meeting_42 rfl (lv_at hl 0 rfl) ?_
            refine lv_iload hx hb dX9_meeting_43 (lv_at hl 4 rfl) ?_
            refine lv_iload hx hb dX9_meeting_45 (lv_at hl 5 rfl) ?_
            have hPc := hP.sub (ws' := [(h0, .inr (9, [.int th, .ref a1, .ref a2, .ref a3, .ref a4, .ref a5, .int ne, .int wi, .int dn, .ref a6, .ref a7, .int nn, .ref a8, .int la, .ref a9, .ref a10, .long uqx, .long lqx, .int wqx, .long pqx, .long dqx, .ref a11])), (a1, .inl (cI, 16, .inl Fi)), (a2, .inl (cI, 16, .inl Ma)), (a4, .inl (cZ, 16, .inl Go)), (a5, .inl (cI, 576, .inl Sp))]) [0, 1, 2, 3, 4] rfl
            have hKc := hK.sub (tys' := [(cI, .int), (cZ, .boolean)]) [0, 1] rfl
            have hDc := hD.sub (ws' := [(h0, .inr (9, [.int th, .ref a1, .ref a2, .ref a3, .ref a4, .ref a5, .int ne, .int wi, .int dn, .ref a6, .ref a7, .int nn, .ref a8, .int la, .ref a9, .ref a10, .long uqx, .long lqx, .int wqx, .long pqx, .long dqx, .ref a11])), (a1, .inl (cI, 16, .inl Fi)), (a2, .inl (cI, 16, .inl Ma)), (a4, .inl (cZ, 16, .inl Go)), (a5, .inl (cI, 576, .inl Sp))]) [0, 1, 2, 3, 4] (by decide) rfl
            have hFc := va_free (wc := [(h0, .inr (9, [.int th, .ref a1, .ref a2, .ref a3, .ref a4, .ref a5, .int ne, .int wi, .int dn, .ref a6, .ref a7, .int nn, .ref a8, .int la, .ref a9, .ref a10, .long uqx, .long lqx, .int wqx, .long pqx, .long dqx, .ref a11])), (a1, .inl (cI, 16, .inl Fi)), (a2, .inl (cI, 16, .inl Ma)), (a4, .inl (cZ, 16, .inl Go)), (a5, .inl (cI, 576, .inl Sp))]) hD hS hA [0, 1, 2, 3, 4] rfl
            refine va_calli (va_runV (As := [.int t4, .int u5]) (rest := []) ⟨hx, hb, hml, hown, hts⟩ (c_X9_isMeeting l dC dI h0 a1 a2 a3 a4 a5 a6 a7 a8 a9 a10 a11 th ne wi dn nn la wqx uqx lqx pqx dqx cI cZ Fi Ma Go Sp t4 u5 H.size (by first | assumption | omega) (by first | omega | assumption) (by first | omega | assumption) (by first | omega | assumption) (by first | omega | assumption)) (cwV 2 hts g_X9_meeting__X9_isMeeting_106 rfl rfl rfl (by decide +kernel) ⟨Nat.le_of_ble_eq_true rfl, Nat.le_of_ble_eq_true rfl⟩) ⟨fun a U g mk q => by obtain ⟨q0, q1, qP, qK, qD⟩ := q; exact ⟨q0, q1, qP, va_K.moved (u := U) (U := U.calling g mk a) (Vm.Alike.refl U.vm) qK, qD⟩, va_recv hKc hPc (ci := 9) (q0 := 0) rfl rfl, fun U hU hW => ⟨rfl, by rw [hU], by rw [hU]; exact hPc, va_K.moved hW.alike hKc, hDc.weaken (fun _ _ _ _ => trivial)⟩⟩ rfl rfl hl.1 rfl (lv_room (Nat.le_of_ble_eq_true rfl)) dX9_meeting_47 ⟨Nat.le_of_ble_eq_true rfl, Nat.le_of_ble_eq_true rfl⟩) hS (fun q _ h => hFc q h) hFc (fun r_5 u_4 t H1 locs ht hvm hw_5 hB hz1 hk1 hS => ?_)
            obtain ⟨up9_6, wh9_7, pu9_8, pw9_9, hP1, hK1, hD1⟩ := hB
            rw [ht] at hP1
            have hK1 := va_K.moved hvm.symm hK1
            obtain ⟨hP, hD⟩ := va_join (wr := []) (w1 := [(h0, .inr (9, [.int th, .ref a1, .ref a2, .ref a3, .ref a4, .ref a5, .int ne, .int wi, .int dn, .ref a6, .ref a7, .int nn, .ref a8, .int la, .ref a9, .ref a10, .long up9_6, .long u_4, .int wh9_7, .long pu9_8, .long pw9_9, .ref a11])), (a1, .inl (cI, 16, .inl Fi)), (a2, .inl (cI, 16, .inl Ma)), (a4, .inl (cZ, 16, .inl Go)), (a5, .inl (cI, 576, .inl Sp))]) hP hD [0, 1, 2, 3, 4] [] rfl rfl (by decide) (by decide) hk1 hFc hP1 hD1
            have hK := (hK.sub (tys' := [(cI, .int), (cZ, .boolean)]) [0, 1] rfl).app hK1
            generalize H1 = H at hP hS ⊢
            have hP : va_P (dC, dI) vwCl [(h0, .inr (9, [.int th, .ref a1, .ref a2, .ref a3, .ref a4, .ref a5, .int ne, .int wi, .int dn, .ref a6, .ref a7, .int nn, .ref a8, .int la, .ref a9, .ref a10, .long up9_6, .long u_4, .int wh9_7, .long pu9_8, .long pw9_9, .ref a11])), (a1, .inl (cI, 16, .inl Fi)), (a2, .inl (cI, 16, .inl Ma)), (a4, .inl (cZ, 16, .inl Go)), (a5, .inl (cI, 576, .inl Sp))] H := hP
            have hD : va_D A [(h0, .inr (9, [.int th, .ref a1, .ref a2, .ref a3, .ref a4, .ref a5, .int ne, .int wi, .int dn, .ref a6, .ref a7, .int nn, .ref a8, .int la, .ref a9, .ref a10, .long up9_6, .long u_4, .int wh9_7, .long pu9_8, .long pw9_9, .ref a11])), (a1, .inl (cI, 16, .inl Fi)), (a2, .inl (cI, 16, .inl Ma)), (a4, .inl (cZ, 16, .inl Go)), (a5, .inl (cI, 576, .inl Sp))] := hD
            have hK : va_K (dC, dI) vwCl [(cI, .int), (cZ, .boolean), (cI, .int), (cZ, .boolean)] s := hK
            refine W.widen (k := 0) (n := 0) (by omega) (by omega) ?_
            try dsimp only at hw_5
            refine lv_if_eq (tgt := 73) hx hb dX9_meeting_50 (by decide) (fun c_50 => ?_) (fun c_50 => ?_)
            · have t_50 := (fa_eq _ _).mp c_50
              obtain ⟨y_10, ey_10⟩ : ∃ y : Int32, y = u5 + 1 := ⟨_, rfl⟩
              have ty_10 : y_10.toInt = u5.toInt + 1 := by rw [ey_10]; have := fb_addI (x := u5) (y := 1) (by omega) (by omega); omega
              refine lv_iinc (v := y_10) (lv' := [(5, .int y_10), (0, .ref h0), (1, .int p1), (2, .int p2), (3, .int n4), (4, .int t4)]) hx hb dX9_meeting_73 hl (k := 5) rfl (by rw [ey_10]; rfl) (by decide) rfl (fun ls hl => ?_)
              refine lv_goto (tgt := 33) hx hb dX9_meeting_76 (by decide) ?_
              exact ih_33 n4 y_10 up9_6 u_4 wh9_7 pu9_8 pw9_9 (by omega) (by omega) (by omega) H _ (hP.sub [0, 1, 2, 3, 4] rfl) (hD.sub [0, 1, 2, 3, 4] (by decide) rfl) hS ls (lv_sub hl [1, 2, 3, 4, 5, 0] rfl)
            · have t_50 := mt (fa_eq _ _).mpr c_50
              refine lv_iload_n hx hb dX9_meeting_53 rfl (lv_at hl 3 rfl) ?_
              refine lv_iload_n hx hb dX9_meeting_54 rfl (lv_at hl 1 rfl) ?_
              refine lv_icmp_ne (tgt := 70) hx hb dX9_meeting_55 (by decide) (fun c_55 => ?_) (fun c_55 => ?_)
              · have t_55 := mt (fa_eq _ _).mpr c_55
                obtain ⟨y_11, ey_11⟩ : ∃ y : Int32, y = n4 + 1 := ⟨_, rfl⟩
                refine lv_iinc (v := y_11) (lv' := [(3, .int y_11), (0, .ref h0), (1, .int p1), (2, .int p2), (4, .int t4), (5, .int u5)]) hx hb dX9_meeting_70 hl (k := 3) rfl (by rw [ey_11]; rfl) (by decide) rfl (fun ls hl => ?_)
                obtain ⟨y_12, ey_12⟩ : ∃ y : Int32, y = u5 + 1 := ⟨_, rfl⟩
                have ty_12 : y_12.toInt = u5.toInt + 1 := by rw [ey_12]; have := fb_addI (x := u5) (y := 1) (by omega) (by omega); omega
                refine lv_iinc (v := y_12) (lv' := [(5, .int y_12), (3, .int y_11), (0, .ref h0), (1, .int p1), (2, .int p2), (4, .int t4)]) hx hb dX9_meeting_73 hl (k := 5) rfl (by rw [ey_12]; rfl) (by decide) rfl (fun ls hl => ?_)
                refine lv_goto (tgt := 33) hx hb dX9_meeting_76 (by decide) ?_
                exact ih_33 y_11 y_12 up9_6 u_4 wh9_7 pu9_8 pw9_9 (by omega) (by omega) (by omega) H _ (hP.sub [0, 1, 2, 3, 4] rfl) (hD.sub [0, 1, 2, 3, 4] (by decide) rfl) hS ls (lv_sub hl [2, 3, 4, 1, 5, 0] rfl)
              · have t_55 := (fa_eq _ _).mp c_55
                refine lv_iload_n hx hb dX9_meeting_58 rfl (lv_at hl 2 rfl) ?_
                refine lv_if_ne (tgt := 67) hx hb dX9_meeting_59 (by decide) (fun c_59 => ?_) (fun c_59 => ?_)
                · have t_59 := mt (fa_eq _ _).mpr c_59
                  refine lv_iload hx hb dX9_meeting_67 (lv_at hl 5 rfl) ?_
                  have hP9 := hP.sub (ws' := [(h0, .inr (9, [.int th, .ref a1, .ref a2, .ref a3, .ref a4, .ref a5, .int ne, .int wi, .int dn, .ref a6, .ref a7, .int nn, .ref a8, .int la, .ref a9, .ref a10, .long up9_6, .long u_4, .int wh9_7, .long pu9_8, .long pw9_9, .ref a11])), (a1, .inl (cI, 16, .inl Fi)), (a2, .inl (cI, 16, .inl Ma)), (a4, .inl (cZ, 16, .inl Go)), (a5, .inl (cI, 576, .inl Sp))]) [0, 1, 2, 3, 4] rfl
                  have hD9 := hD.sub (ws' := [(h0, .inr (9, [.int th, .ref a1, .ref a2, .ref a3, .ref a4, .ref a5, .int ne, .int wi, .int dn, .ref a6, .ref a7, .int nn, .ref a8, .int la, .ref a9, .ref a10, .long up9_6, .long u_4, .int wh9_7, .long pu9_8, .long pw9_9, .ref a11])), (a1, .inl (cI, 16, .inl Fi)), (a2, .inl (cI, 16, .inl Ma)), (a4, .inl (cZ, 16, .inl Go)), (a5, .inl (cI, 576, .inl Sp))]) [0, 1, 2, 3, 4] (by decide) rfl
                  have hK9 := hK.sub (tys' := [(cI, .int), (cZ, .boolean)]) [0, 1] rfl
                  refine W.widen (k := 0) (n := 0) (by omega) (by omega) ?_
                  exact W.iret (v := u5) hx hb hr (fun t ht hW => ⟨⟨_, (), rfl, trivial, up9_6, u_4, wh9_7, pu9_8, pw9_9, by rw [ht]; exact hP9, va_K.moved hW.alike hK9, hD9⟩, hS.F ht⟩) hS.2.2 dX9_meeting_69
                · have t_59 := (fa_eq _ _).mp c_59
                  refine lv_iload hx hb dX9_meeting_62 (lv_at hl 4 rfl) ?_
                  refine lv_goto (tgt := 69) hx hb dX9_meeting_64 (by decide) ?_
                  have hP9 := hP.sub (ws' := [(h0, .inr (9, [.int th, .ref a1, .ref a2, .ref a3, .ref a4, .ref a5, .int ne, .int wi, .int dn, .ref a6, .ref a7, .int nn, .ref a8, .int la, .ref a9, .ref a10, .long up9_6, .long u_4, .int wh9_7, .long pu9_8, .long pw9_9, .ref a11])), (a1, .inl (cI, 16, .inl Fi)), (a2, .inl (cI, 16, .inl Ma)), (a4, .inl (cZ, 16, .inl Go)), (a5, .inl (cI, 576, .inl Sp))]) [0, 1, 2, 3, 4] rfl
                  have hD9 := hD.sub (ws' := [(h0, .inr (9, [.int th, .ref a1, .ref a2, .ref a3, .ref a4, .ref a5, .int ne, .int wi, .int dn, .ref a6, .ref a7, .int nn, .ref a8, .int la, .ref a9, .ref a10, .long up9_6, .long u_4, .int wh9_7, .long pu9_8, .long pw9_9, .ref a11])), (a1, .inl (cI, 16, .inl Fi)), (a2, .inl (cI, 16, .inl Ma)), (a4, .inl (cZ, 16, .inl Go)), (a5, .inl (cI, 576, .inl Sp))]) [0, 1, 2, 3, 4] (by decide) rfl
                  have hK9 := hK.sub (tys' := [(cI, .int), (cZ, .boolean)]) [0, 1] rfl
                  refine W.widen (k := 0) (n := 0) (by omega) (by omega) ?_
                  exact W.iret (v := t4) hx hb hr (fun t ht hW => ⟨⟨_, (), rfl, trivial, up9_6, u_4, wh9_7, pu9_8, pw9_9, by rw [ht]; exact hP9, va_K.moved hW.alike hK9, hD9⟩, hS.F ht⟩) hS.2.2 dX9_meeting_69
  · simp only [Int32.toInt_toInt64, klL_0, klL_1] at q_4
    refine lv_if_ne (tgt := 13) hx hb dX9_meeting_7 (by decide) (fun h9 => absurd h9 (by decide)) (fun _ => ?_)
    refine lv_ldc hx hb hown (hts (.constant RX9 70 (-100002)) (by decide +kernel)) dX9_meeting_10 ?_
    have hP9 := hP.sub (ws' := [(h0, .inr (9, [.int th, .ref a1, .ref a2, .ref a3, .ref a4, .ref a5, .int ne, .int wi, .int dn, .ref a6, .ref a7, .int nn, .ref a8, .int la, .ref a9, .ref a10, .long up, .long lw, .int wh, .long pu, .long pw, .ref a11])), (a1, .inl (cI, 16, .inl Fi)), (a2, .inl (cI, 16, .inl Ma)), (a4, .inl (cZ, 16, .inl Go)), (a5, .inl (cI, 576, .inl Sp))]) [0, 1, 2, 3, 4] rfl
    have hD9 := hD.sub (ws' := [(h0, .inr (9, [.int th, .ref a1, .ref a2, .ref a3, .ref a4, .ref a5, .int ne, .int wi, .int dn, .ref a6, .ref a7, .int nn, .ref a8, .int la, .ref a9, .ref a10, .long up, .long lw, .int wh, .long pu, .long pw, .ref a11])), (a1, .inl (cI, 16, .inl Fi)), (a2, .inl (cI, 16, .inl Ma)), (a4, .inl (cZ, 16, .inl Go)), (a5, .inl (cI, 576, .inl Sp))]) [0, 1, 2, 3, 4] (by decide) rfl
    have hK9 := hK.sub (tys' := [(cI, .int), (cZ, .boolean)]) [0, 1] rfl
    refine W.widen (k := 0) (n := 0) (by omega) (by omega) ?_
    exact W.iret (v := (-100002)) hx hb hr (fun t ht hW => ⟨⟨_, (), rfl, trivial, up, lw, wh, pu, pw, by rw [ht]; exact hP9, va_K.moved hW.alike hK9, hD9⟩, hS.F ht⟩) hS.2.2 dX9_meeting_12
