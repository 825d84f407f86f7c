def wk_X9_told : List Cond := .code yX9_told cX9_told 3 (some .int) :: (([.constant RX9 70 (-100002), .fieldLink RX9 7 "MeetingsAboveModel" "firsts" "[I", .fieldLink RX9 13 "MeetingsAboveModel" "many" "[I", .fieldLink RX9 16 "MeetingsAboveModel" "doubts" "[I", .fieldLink RX9 19 "MeetingsAboveModel" "isGone" "[Z", .constant RX9 84 (-100001)] : List Cond) ++ (wsX90 ++ ((wsV RX9 80 RX9 yX9_isThing wk_X9_isThing) ++ ((wsV RX9 102 RX9 yX9_meets wk_X9_meets) ++ ([])))))
theorem in_X9_told_X9 : ∀ w ∈ wsX90, w ∈ wk_X9_told := fun _ h => List.mem_cons_of_mem _ (List.mem_append_right _ (List.mem_append_left _ h))
theorem gw_X9_told : AG wk_X9_told := AG_ca (AG_l (by decide +kernel)) (AG_app ag_X9 (AG_app (AG_V gw_X9_isThing) (AG_app (AG_V gw_X9_meets) (AG_nil))))
theorem g_X9_told__X9_isThing_80 : GoodIn wk_X9_told (wsV RX9 80 RX9 yX9_isThing wk_X9_isThing) := goodIn_m (fun _ h => List.mem_cons_of_mem _ (List.mem_append_right _ (List.mem_append_right _ (List.mem_append_left _ h)))) (AG_V gw_X9_isThing)
theorem g_X9_told__X9_meets_102 : GoodIn wk_X9_told (wsV RX9 102 RX9 yX9_meets wk_X9_meets) := goodIn_m (fun _ h => List.mem_cons_of_mem _ (List.mem_append_right _ (List.mem_append_right _ (List.mem_append_right _ (List.mem_append_left _ h))))) (AG_V gw_X9_meets)
set_option maxHeartbeats 4000000 in
set_option maxRecDepth 100000 in
theorem c_X9_told (l : Launch) (dC : Nat → ClassId) (dI : Nat → Nat → Nat) (h0 : Nat) (a1 : Nat) (a2 : Nat) (a3 : Nat) (a4 : Nat) (a5 : Nat) (a6 : Nat) (a7 : Nat) (a8 : Nat) (a9 : Nat) (a10 : Nat) (a11 : Nat) (th : Int32) (ne : Int32) (wi : Int32) (dn : Int32) (nn : Int32) (la : Int32) (wh : Int32) (up : Int64) (lw : Int64) (pu : Int64) (pw : Int64) (cI : ClassId) (cZ : ClassId) (Fi : Nat → Int32) (Ma : Nat → Int32) (Db : Nat → Int32) (Go : Nat → Int32) (Sp : Nat → Int32) (p1 : Int32) (p2 : Int32) (sz : Nat) (hM : mOK th Fi Ma) : Met l yX9_told wk_X9_told ({ frames := 5, cells := 0, slots := 0, locals := 127 }) (va_Pc [.ref h0, .int p1, .int p2] (fun U => U.heap.size = sz ∧ va_P (dC, dI) vwCl [(h0, .inr (9, [.int th, .ref a1, .ref a2, .ref a3, .ref a4, .ref a5, .int ne, .int wi, .int dn, .ref a6, .ref a7, .int nn, .ref a8, .int la, .ref a9, .ref a10, .long up, .long lw, .int wh, .long pu, .long pw, .ref a11])), (a1, .inl (cI, 16, .inl Fi)), (a2, .inl (cI, 16, .inl Ma)), (a3, .inl (cI, 16, .inl Db)), (a4, .inl (cZ, 16, .inl Go)), (a5, .inl (cI, 576, .inl Sp))] U.heap ∧ va_K (dC, dI) vwCl [(cI, .int), (cZ, .boolean)] U ∧ va_D (fun _ => True) [(h0, .inr (9, [.int th, .ref a1, .ref a2, .ref a3, .ref a4, .ref a5, .int ne, .int wi, .int dn, .ref a6, .ref a7, .int nn, .ref a8, .int la, .ref a9, .ref a10, .long up, .long lw, .int wh, .long pu, .long pw, .ref a11])), (a1, .inl (cI, 16, .inl Fi)), (a2, .inl (cI, 16, .inl Ma)), (a3, .inl (cI, 16, .inl Db)), (a4, .inl (cZ, 16, .inl Go)), (a5, .inl (cI, 576, .inl Sp))])) (va_Qi (fun (r : Int32) (_ : Unit) => True) (fun (_ : Unit) (t : State) => ∃ (up9 : Int64) (lw9 : Int64) (wh9 : Int32) (pu9 : Int64) (pw9 : Int64), va_P (dC, dI) vwCl [(h0, .inr (9, [.int th, .ref a1, .ref a2, .ref a3, .ref a4, .ref a5, .int ne, .int wi, .int dn, .ref a6, .ref a7, .int nn, .ref a8, .int la, .ref a9, .ref a10, .long up9, .long lw9, .int wh9, .long pu9, .long pw9, .ref a11])), (a1, .inl (cI, 16, .inl Fi)), (a2, .inl (cI, 16, .inl Ma)), (a3, .inl (cI, 16, .inl Db)), (a4, .inl (cZ, 16, .inl Go)), (a5, .inl (cI, 576, .inl Sp))] t.heap ∧ va_K (dC, dI) vwCl [(cI, .int), (cZ, .boolean)] t ∧ va_D (va_A [(h0, .inr (9, [.int th, .ref a1, .ref a2, .ref a3, .ref a4, .ref a5, .int ne, .int wi, .int dn, .ref a6, .ref a7, .int nn, .ref a8, .int la, .ref a9, .ref a10, .long up, .long lw, .int wh, .long pu, .long pw, .ref a11])), (a1, .inl (cI, 16, .inl Fi)), (a2, .inl (cI, 16, .inl Ma)), (a3, .inl (cI, 16, .inl Db)), (a4, .inl (cZ, 16, .inl Go)), (a5, .inl (cI, 576, .inl Sp))] sz) [(h0, .inr (9, [.int th, .ref a1, .ref a2, .ref a3, .ref a4, .ref a5, .int ne, .int wi, .int dn, .ref a6, .ref a7, .int nn, .ref a8, .int la, .ref a9, .ref a10, .long up9, .long lw9, .int wh9, .long pu9, .long pw9, .ref a11])), (a1, .inl (cI, 16, .inl Fi)), (a2, .inl (cI, 16, .inl Ma)), (a3, .inl (cI, 16, .inl Db)), (a4, .inl (cZ, 16, .inl Go)), (a5, .inl (cI, 576, .inl Sp))]) (va_A [(h0, .inr (9, [.int th, .ref a1, .ref a2, .ref a3, .ref a4, .ref a5, .int ne, .int wi, .int dn, .ref a6, .ref a7, .int nn, .ref a8, .int la, .ref a9, .ref a10, .long up, .long lw, .int wh, .long pu, .long pw, .ref a11])), (a1, .inl (cI, 16, .inl Fi)), (a2, .inl (cI, 16, .inl Ma)), (a3, .inl (cI, 16, .inl Db)), (a4, .inl (cZ, 16, .inl Go)), (a5, .inl (cI, 576, .inl Sp))] sz)) 0 0 (va_A [(h0, .inr (9, [.int th, .ref a1, .ref a2, .ref a3, .ref a4, .ref a5, .int ne, .int wi, .int dn, .ref a6, .ref a7, .int nn, .ref a8, .int la, .ref a9, .ref a10, .long up, .long lw, .int wh, .long pu, .long pw, .ref a11])), (a1, .inl (cI, 16, .inl Fi)), (a2, .inl (cI, 16, .inl Ma)), (a3, .inl (cI, 16, .inl Db)), (a4, .inl (cZ, 16, .inl Go)), (a5, .inl (cI, 576, .inl Sp))] sz) := by
  refine Met.ofW (cc := cX9_told) (maxL := 3) (ret := (some .int)) (by decide) rfl ?_
  intro p e s m args below meth c s₁ B hml hv
  obtain ⟨rfl, hsz, hP, hK, hD0⟩ := hv
  have hx := B.exec
  have hb := B.bytes
  have hr := B.returns
  have hts := atoms_spec (ws := wk_X9_told) B.pre
  have hown : s.vm.findClass RX9 = some m.cls := findClass_of_methodNamed B.named
  have hlocks := B.notSynchronized
  subst hsz
  have hD := hD0.self (sz := s.heap.size)
  generalize hAe : va_A [(h0, .inr (9, [.int th, .ref a1, .ref a2, .ref a3, .ref a4, .ref a5, .int ne, .int wi, .int dn, .ref a6, .ref a7, .int nn, .ref a8, .int la, .ref a9, .ref a10, .long up, .long lw, .int wh, .long pu, .long pw, .ref a11])), (a1, .inl (cI, 16, .inl Fi)), (a2, .inl (cI, 16, .inl Ma)), (a3, .inl (cI, 16, .inl Db)), (a4, .inl (cZ, 16, .inl Go)), (a5, .inl (cI, 576, .inl Sp))] s.heap.size = A at hD ⊢
  have hA : ∀ q : Nat, s.heap.size ≤ q → A q := fun q h => by rw [← hAe]; exact Or.inr h
  have hS : va_S A s.heap s.heap [] := va_S.rf
  have hP : va_P (dC, dI) vwCl [(h0, .inr (9, [.int th, .ref a1, .ref a2, .ref a3, .ref a4, .ref a5, .int ne, .int wi, .int dn, .ref a6, .ref a7, .int nn, .ref a8, .int la, .ref a9, .ref a10, .long up, .long lw, .int wh, .long pu, .long pw, .ref a11])), (a1, .inl (cI, 16, .inl Fi)), (a2, .inl (cI, 16, .inl Ma)), (a3, .inl (cI, 16, .inl Db)), (a4, .inl (cZ, 16, .inl Go)), (a5, .inl (cI, 576, .inl Sp))] s.heap := hP
  have hl := lv_entry ([.ref h0, .int p1, .int p2]) (n := 3) (Nat.le_of_ble_eq_true rfl)
  rw [lg_entry_eq]
  generalize (lg_sl ([.ref h0, .int p1, .int p2]) ++ List.replicate (3 - (lg_sl ([.ref h0, .int p1, .int p2])).length) Slot.unset).toArray = ls at hl ⊢
  have hl : lv_has ls 3 [(0, .ref h0), (1, .int p1), (2, .int p2)] := hl
  have kl_m100002 : (-100002 : Int32).toInt = -100002 := by decide
  have kl_m100001 : (-100001 : Int32).toInt = -100001 := by decide
  have kl_0 : (0 : Int32).toInt = 0 := by decide
  have kl_1 : (1 : Int32).toInt = 1 := by decide
  obtain ⟨hM0, hM1, hM2⟩ := id hM
  refine lv_aload_n hx hb dX9_told_0 rfl (lv_at hl 0 rfl) ?_
  refine lv_iload_n hx hb dX9_told_1 rfl (lv_at hl 1 rfl) ?_
  have hPc := hP.sub (ws' := [(h0, .inr (9, [.int th, .ref a1, .ref a2, .ref a3, .ref a4, .ref a5, .int ne, .int wi, .int dn, .ref a6, .ref a7, .int nn, .ref a8, .int la, .ref a9, .ref a10, .long up, .long lw, .int wh, .long pu, .long pw, .ref a11]))]) [0] rfl
  have hKc := hK.sub (tys' := []) [] rfl
  refine vp_callSi (W.runV (As := [.int p1]) (rest := []) ⟨hx, hb, hml, hown, hts⟩ (c_X9_isThing l dC dI h0 a1 a2 a3 a4 a5 a6 a7 a8 a9 a10 a11 th ne wi dn nn la wh up lw pu pw p1 (by first | omega | assumption) (by first | omega | assumption)) (cwV 1 hts g_X9_told__X9_isThing_80 rfl rfl rfl (by decide +kernel) ⟨Nat.le_of_ble_eq_true rfl, Nat.le_of_ble_eq_true rfl⟩) ⟨fun a U g mk q => by obtain ⟨q0, qP, qK⟩ := q; exact ⟨q0, qP, va_K.moved (u := U) (U := U.calling g mk a) (Vm.Alike.refl U.vm) qK⟩, va_recv hKc hPc (ci := 9) (q0 := 0) rfl rfl, fun U hU hW => ⟨rfl, by rw [hU]; exact hPc, va_K.moved hW.alike hKc⟩⟩ rfl rfl hl.1 rfl (lv_room (Nat.le_of_ble_eq_true rfl)) dX9_told_2 ⟨Nat.le_of_ble_eq_true rfl, Nat.le_of_ble_eq_true rfl⟩) (fun r_1 hr_1 => ?_)
  try dsimp only at hr_1
  rcases bo_split hr_1 with ⟨rfl, q_2⟩ | ⟨rfl, q_2⟩
  · refine lv_if_ne (tgt := 11) hx hb dX9_told_5 (by decide) (fun _ => ?_) (fun h9 => absurd h9 (by decide))
    refine lv_iload_n hx hb dX9_told_11 rfl (lv_at hl 2 rfl) ?_
    rcases sw_5 p2 with o_12 | rfl | rfl | rfl | rfl | rfl
    · refine lv_tableOut (tgt := 90) hx hb dX9_told_12 o_12 (by decide) ?_
      refine lv_ldc hx hb hown (hts (.constant RX9 70 (-100002)) (by decide +kernel)) dX9_told_90 ?_
      have hP9 := hP.sub (ws' := [(h0, .inr (9, [.int th, .ref a1, .ref a2, .ref a3, .ref a4, .ref a5, .int ne, .int wi, .int dn, .ref a6, .ref a7, .int nn, .ref a8, .int la, .ref a9, .ref a10, .long up, .long lw, .int wh, .long pu, .long pw, .ref a11])), (a1, .inl (cI, 16, .inl Fi)), (a2, .inl (cI, 16, .inl Ma)), (a3, .inl (cI, 16, .inl Db)), (a4, .inl (cZ, 16, .inl Go)), (a5, .inl (cI, 576, .inl Sp))]) [0, 1, 2, 3, 4, 5] rfl
      have hD9 := hD.sub (ws' := [(h0, .inr (9, [.int th, .ref a1, .ref a2, .ref a3, .ref a4, .ref a5, .int ne, .int wi, .int dn, .ref a6, .ref a7, .int nn, .ref a8, .int la, .ref a9, .ref a10, .long up, .long lw, .int wh, .long pu, .long pw, .ref a11])), (a1, .inl (cI, 16, .inl Fi)), (a2, .inl (cI, 16, .inl Ma)), (a3, .inl (cI, 16, .inl Db)), (a4, .inl (cZ, 16, .inl Go)), (a5, .inl (cI, 576, .inl Sp))]) [0, 1, 2, 3, 4, 5] (by decide) rfl
      have hK9 := hK.sub (tys' := [(cI, .int), (cZ, .boolean)]) [0, 1] rfl
      refine W.widen (k := 0) (n := 0) (by omega) (by omega) ?_
      exact W.iret (v := (-100002)) hx hb hr (fun t ht hW => ⟨⟨_, (), rfl, trivial, up, lw, wh, pu, pw, by rw [ht]; exact hP9, va_K.moved hW.alike hK9, hD9⟩, hS.F ht⟩) hS.2.2 dX9_told_92
    · refine lv_tableIn (tgt := 48) (off := 36) hx hb dX9_told_12 (by decide) (by decide) (by decide) (by decide) ?_
      refine lv_aload_n hx hb dX9_told_48 rfl (lv_at hl 0 rfl) ?_
      refine va_get (D := (dC, dI)) (ci := 9) (v := .ref a1) (C := RX9) (T := TX9) (N := 22) hx hb hts in_X9_told_X9 hown hK hP 0 rfl rfl 1 (by decide) (hts (.fieldLink RX9 7 "MeetingsAboveModel" "firsts" "[I") (by decide +kernel)) (fun _ h9 => h9) rfl dX9_told_49 ?_
      refine lv_iload_n hx hb dX9_told_52 rfl (lv_at hl 1 rfl) ?_
      refine va_iald hx hb hK hP 1 0 rfl rfl (vp_in_iff.mpr ⟨by omega, by omega⟩) dX9_told_53 ?_
      refine lv_topi (fun y_2 ey_2 => ?_)
      have hP9 := hP.sub (ws' := [(h0, .inr (9, [.int th, .ref a1, .ref a2, .ref a3, .ref a4, .ref a5, .int ne, .int wi, .int dn, .ref a6, .ref a7, .int nn, .ref a8, .int la, .ref a9, .ref a10, .long up, .long lw, .int wh, .long pu, .long pw, .ref a11])), (a1, .inl (cI, 16, .inl Fi)), (a2, .inl (cI, 16, .inl Ma)), (a3, .inl (cI, 16, .inl Db)), (a4, .inl (cZ, 16, .inl Go)), (a5, .inl (cI, 576, .inl Sp))]) [0, 1, 2, 3, 4, 5] rfl
      have hD9 := hD.sub (ws' := [(h0, .inr (9, [.int th, .ref a1, .ref a2, .ref a3, .ref a4, .ref a5, .int ne, .int wi, .int dn, .ref a6, .ref a7, .int nn, .ref a8, .int la, .ref a9, .ref a10, .long up, .long lw, .int wh, .long pu, .long pw, .ref a11])), (a1, .inl (cI, 16, .inl Fi)), (a2, .inl (cI, 16, .inl Ma)), (a3, .inl (cI, 16, .inl Db)), (a4, .inl (cZ, 16, .inl Go)), (a5, .inl (cI, 576, .inl Sp))]) [0, 1, 2, 3, 4, 5] (by decide) rfl
      have hK9 := hK.sub (tys' := [(cI, .int), (cZ, .boolean)]) [0, 1] rfl
      refine W.widen (k := 0) (n := 0) (by omega) (by omega) ?_
      exact W.iret (v := y_2) hx hb hr (fun t ht hW => ⟨⟨_, (), rfl, trivial, up, lw, wh, pu, pw, by rw [ht]; exact hP9, va_K.moved hW.alike hK9, hD9⟩, hS.F ht⟩) hS.2.2 dX9_told_54
    · refine lv_tableIn (tgt := 55) (off := 43) hx hb dX9_told_12 (by decide) (by decide) (by decide) (by decide) ?_
      refine lv_aload_n hx hb dX9_told_55 rfl (lv_at hl 0 rfl) ?_
      refine va_get (D := (dC, dI)) (ci := 9) (v := .ref a2) (C := RX9) (T := TX9) (N := 22) hx hb hts in_X9_told_X9 hown hK hP 0 rfl rfl 2 (by decide) (hts (.fieldLink RX9 13 "MeetingsAboveModel" "many" "[I") (by decide +kernel)) (fun _ h9 => h9) rfl dX9_told_56 ?_
      refine lv_iload_n hx hb dX9_told_59 rfl (lv_at hl 1 rfl) ?_
      refine va_iald hx hb hK hP 2 0 rfl rfl (vp_in_iff.mpr ⟨by omega, by omega⟩) dX9_told_60 ?_
      refine lv_topi (fun y_3 ey_3 => ?_)
      have hP9 := hP.sub (ws' := [(h0, .inr (9, [.int th, .ref a1, .ref a2, .ref a3, .ref a4, .ref a5, .int ne, .int wi, .int dn, .ref a6, .ref a7, .int nn, .ref a8, .int la, .ref a9, .ref a10, .long up, .long lw, .int wh, .long pu, .long pw, .ref a11])), (a1, .inl (cI, 16, .inl Fi)), (a2, .inl (cI, 16, .inl Ma)), (a3, .inl (cI, 16, .inl Db)), (a4, .inl (cZ, 16, .inl Go)), (a5, .inl (cI, 576, .inl Sp))]) [0, 1, 2, 3, 4, 5] rfl
      have hD9 := hD.sub (ws' := [(h0, .inr (9, [.int th, .ref a1, .ref a2, .ref a3, .ref a4, .ref a5, .int ne, .int wi, .int dn, .ref a6, .ref a7, .int nn, .ref a8, .int la, .ref a9, .ref a10, .long up, .long lw, .int wh, .long pu, .long pw, .ref a11])), (a1, .inl (cI, 16, .inl Fi)), (a2, .inl (cI, 16, .inl Ma)), (a3, .inl (cI, 16, .inl Db)), (a4, .inl (cZ, 16, .inl Go)), (a5, .inl (cI, 576, .inl Sp))]) [0, 1, 2, 3, 4, 5] (by decide) rfl
      have hK9 := hK.sub (tys' := [(cI, .int), (cZ, .boolean)]) [0, 1] rfl
      refine W.widen (k := 0) (n := 0) (by omega) (by omega) ?_
      exact W.iret (v := y_3) hx hb hr (fun t ht hW => ⟨⟨_, (), rfl, trivial, up, lw, wh, pu, pw, by rw [ht]; exact hP9, va_K.moved hW.alike hK9, hD9⟩, hS.F ht⟩) hS.2.2 dX9_told_61
    · refine lv_tableIn (tgt := 62) (off := 50) hx hb dX9_told_12 (by decide) (by decide) (by decide) (by decide) ?_
      refine lv_aload_n hx hb dX9_told_62 rfl (lv_at hl 0 rfl) ?_
      refine va_get (D := (dC, dI)) (ci := 9) (v := .ref a3) (C := RX9) (T := TX9) (N := 22) hx hb hts in_X9_told_X9 hown hK hP 0 rfl rfl 3 (by decide) (hts (.fieldLink RX9 16 "MeetingsAboveModel" "doubts" "[I") (by decide +kernel)) (fun _ h9 => h9) rfl dX9_told_63 ?_
      refine lv_iload_n hx hb dX9_told_66 rfl (lv_at hl 1 rfl) ?_
      refine va_iald hx hb hK hP 3 0 rfl rfl (vp_in_iff.mpr ⟨by omega, by omega⟩) dX9_told_67 ?_
      refine lv_topi (fun y_4 ey_4 => ?_)
      have hP9 := hP.sub (ws' := [(h0, .inr (9, [.int th, .ref a1, .ref a2, .ref a3, .ref a4, .ref a5, .int ne, .int wi, .int dn, .ref a6, .ref a7, .int nn, .ref a8, .int la, .ref a9, .ref a10, .long up, .long lw, .int wh, .long pu, .long pw, .ref a11])), (a1, .inl (cI, 16, .inl Fi)), (a2, .inl (cI, 16, .inl Ma)), (a3, .inl (cI, 16, .inl Db)), (a4, .inl (cZ, 16, .inl Go)), (a5, .inl (cI, 576, .inl Sp))]) [0, 1, 2, 3, 4, 5] rfl
      have hD9 := hD.sub (ws' := [(h0, .inr (9, [.int th, .ref a1, .ref a2, .ref a3, .ref a4, .ref a5, .int ne, .int wi, .int dn, .ref a6, .ref a7, .int nn, .ref a8, .int la, .ref a9, .ref a10, .long up, .long lw, .int wh, .long pu, .long pw, .ref a11])), (a1, .inl (cI, 16, .inl Fi)), (a2, .inl (cI, 16, .inl Ma)), (a3, .inl (cI, 16, .inl Db)), (a4, .inl (cZ, 16, .inl Go)), (a5, .inl (cI, 576, .inl Sp))]) [0, 1, 2, 3, 4, 5] (by decide) rfl
      have hK9 := hK.sub (tys' := [(cI, .int), (cZ, .boolean)]) [0, 1] rfl
      refine W.widen (k := 0) (n := 0) (by omega) (by omega) ?_
      exact W.iret (v := y_4) hx hb hr (fun t ht hW => ⟨⟨_, (), rfl, trivial, up, lw, wh, pu, pw, by rw [ht]; exact hP9, va_K.moved hW.alike hK9, hD9⟩, hS.F ht⟩) hS.2.2 dX9_told_68
    · refine lv_tableIn (tgt := 69) (off := 57) hx hb dX9_told_12 (by decide) (by decide) (by decide) (by decide) ?_
      refine lv_aload_n hx hb dX9_told_69 rfl (lv_at hl 0 rfl) ?_
      refine va_get (D := (dC, dI)) (ci := 9) (v := .ref a4) (C := RX9) (T := TX9) (N := 22) hx hb hts in_X9_told_X9 hown hK hP 0 rfl rfl 4 (by decide) (hts (.fieldLink RX9 19 "MeetingsAboveModel" "isGone" "[Z") (by decide +kernel)) (fun _ h9 => h9) rfl dX9_told_70 ?_
      refine lv_iload_n hx hb dX9_told_73 rfl (lv_at hl 1 rfl) ?_
      refine va_zald hx hb hK hP 4 1 rfl rfl (vp_in_iff.mpr ⟨by omega, by omega⟩) dX9_told_74 ?_
      refine lv_topi (fun y_5 ey_5 => ?_)
      refine lv_if_eq (tgt := 82) hx hb dX9_told_75 (by decide) (fun c_75 => ?_) (fun c_75 => ?_)
      · have t_75 := (fa_eq _ _).mp c_75
        refine lv_iconst (v := 0) hx hb dX9_told_82 (by decide) ?_
        have hP9 := hP.sub (ws' := [(h0, .inr (9, [.int th, .ref a1, .ref a2, .ref a3, .ref a4, .ref a5, .int ne, .int wi, .int dn, .ref a6, .ref a7, .int nn, .ref a8, .int la, .ref a9, .ref a10, .long up, .long lw, .int wh, .long pu, .long pw, .ref a11])), (a1, .inl (cI, 16, .inl Fi)), (a2, .inl (cI, 16, .inl Ma)), (a3, .inl (cI, 16, .inl Db)), (a4, .inl (cZ, 16, .inl Go)), (a5, .inl (cI, 576, .inl Sp))]) [0, 1, 2, 3, 4, 5] rfl
        have hD9 := hD.sub (ws' := [(h0, .inr (9, [.int th, .ref a1, .ref a2, .ref a3, .ref a4, .ref a5, .int ne, .int wi, .int dn, .ref a6, .ref a7, .int nn, .ref a8, .int la, .ref a9, .ref a10, .long up, .long lw, .int wh, .long pu, .long pw, .ref a11])), (a1, .inl (cI, 16, .inl Fi)), (a2, .inl (cI, 16, .inl Ma)), (a3, .inl (cI, 16, .inl Db)), (a4, .inl (cZ, 16, .inl Go)), (a5, .inl (cI, 576, .inl Sp))]) [0, 1, 2, 3, 4, 5] (by decide) rfl
        have hK9 := hK.sub (tys' := [(cI, .int), (cZ, .boolean)]) [0, 1] rfl
        refine W.widen (k := 0) (n := 0) (by omega) (by omega) ?_
        exact W.iret (v := 0) hx hb hr (fun t ht hW => ⟨⟨_, (), rfl, trivial, up, lw, wh, pu, pw, by rw [ht]; exact hP9, va_K.moved hW.alike hK9, hD9⟩, hS.F ht⟩) hS.2.2 dX9_told_83
      · have t_75 := mt (fa_eq _ _).mpr c_75
        refine lv_iconst (v := 1) hx hb dX9_told_78 (by decide) ?_
        refine lv_goto (tgt := 83) hx hb dX9_told_79 (by decide) ?_
        have hP9 := hP.sub (ws' := [(h0, .inr (9, [.int th, .ref a1, .ref a2, .ref a3, .ref a4, .ref a5, .int ne, .int wi, .int dn, .ref a6, .ref a7, .int nn, .ref a8, .int la, .ref a9, .ref a10, .long up, .long lw, .int wh, .long pu, .long pw, .ref a11])), (a1, .inl (cI, 16, .inl Fi)), (a2, .inl (cI, 16, .inl Ma)), (a3, .inl (cI, 16, .inl Db)), (a4, .inl (cZ, 16, .inl Go)), (a5, .inl (cI, 576, .inl Sp))]) [0, 1, 2, 3, 4, 5] rfl
        have hD9 := hD.sub (ws' := [(h0, .inr (9, [.int th, .ref a1, .ref a2, .ref a3, .ref a4, .ref a5, .int ne, .int wi, .int dn, .ref a6, .ref a7, .int nn, .ref a8, .int la, .ref a9, .ref a10, .long up, .long lw, .int wh, .long pu, .long pw, .ref a11])), (a1, .inl (cI, 16, .inl Fi)), (a2, .inl (cI, 16, .inl Ma)), (a3, .inl (cI, 16, .inl Db)), (a4, .inl (cZ, 16, .inl Go)), (a5, .inl (cI, 576, .inl Sp))]) [0, 1, 2, 3, 4, 5] (by decide) rfl
        have hK9 := hK.sub (tys' := [(cI, .int), (cZ, .boolean)]) [0, 1] rfl
        refine W.widen (k := 0) (n := 0) (by omega) (by omega) ?_
        exact W.iret (v := 1) hx hb hr (fun t ht hW => ⟨⟨_, (), rfl, trivial, up, lw, wh, pu, pw, by rw [ht]; exact hP9, va_K.moved hW.alike hK9, hD9⟩, hS.F ht⟩) hS.2.2 dX9_told_83
    · refine lv_tableIn (tgt := 84) (off := 72) hx hb dX9_told_12 (by decide) (by decide) (by decide) (by decide) ?_
      refine lv_aload_n hx hb dX9_told_84 rfl (lv_at hl 0 rfl) ?_
      refine lv_iload_n hx hb dX9_told_85 rfl (lv_at hl 1 rfl) ?_
      have hPc := hP.sub (ws' := [(h0, .inr (9, [.int th, .ref a1, .ref a2, .ref a3, .ref a4, .ref a5, .int ne, .int wi, .int dn, .ref a6, .ref a7, .int nn, .ref a8, .int la, .ref a9, .ref a10, .long up, .long lw, .int wh, .long pu, .long pw, .ref a11])), (a1, .inl (cI, 16, .inl Fi)), (a2, .inl (cI, 16, .inl Ma)), (a4, .inl (cZ, 16, .inl Go)), (a5, .inl (cI, 576, .inl Sp))]) [0, 1, 2, 4, 5] rfl
      have hKc := hK.sub (tys' := [(cI, .int), (cZ, .boolean)]) [0, 1] rfl
      have hDc := hD.sub (ws' := [(h0, .inr (9, [.int th, .ref a1, .ref a2, .ref a3, .ref a4, .ref a5, .int ne, .int wi, .int dn, .ref a6, .ref a7, .int nn, .ref a8, .int la, .ref a9, .ref a10, .long up, .long lw, .int wh, .long pu, .long pw, .ref a11])), (a1, .inl (cI, 16, .inl Fi)), (a2, .inl (cI, 16, .inl Ma)), (a4, .inl (cZ, 16, .inl Go)), (a5, .inl (cI, 576, .inl Sp))]) [0, 1, 2, 4, 5] (by decide) rfl
      have hFc := va_free (wc := [(h0, .inr (9, [.int th, .ref a1, .ref a2, .ref a3, .ref a4, .ref a5, .int ne, .int wi, .int dn, .ref a6, .ref a7, .int nn, .ref a8, .int la, .ref a9, .ref a10, .long up, .long lw, .int wh, .long pu, .long pw, .ref a11])), (a1, .inl (cI, 16, .inl Fi)), (a2, .inl (cI, 16, .inl Ma)), (a4, .inl (cZ, 16, .inl Go)), (a5, .inl (cI, 576, .inl Sp))]) hD hS hA [0, 1, 2, 4, 5] rfl
      refine va_calli (va_runV (As := [.int p1]) (rest := []) ⟨hx, hb, hml, hown, hts⟩ (c_X9_meets l dC dI h0 a1 a2 a3 a4 a5 a6 a7 a8 a9 a10 a11 th ne wi dn nn la wh up lw pu pw cI cZ Fi Ma Go Sp p1 s.heap.size (by first | assumption | omega) (by first | omega | assumption) (by first | omega | assumption)) (cwV 1 hts g_X9_told__X9_meets_102 rfl rfl rfl (by decide +kernel) ⟨Nat.le_of_ble_eq_true rfl, Nat.le_of_ble_eq_true rfl⟩) ⟨fun a U g mk q => by obtain ⟨q0, q1, qP, qK, qD⟩ := q; exact ⟨q0, q1, qP, va_K.moved (u := U) (U := U.calling g mk a) (Vm.Alike.refl U.vm) qK, qD⟩, va_recv hKc hPc (ci := 9) (q0 := 0) rfl rfl, fun U hU hW => ⟨rfl, by rw [hU], by rw [hU]; exact hPc, va_K.moved hW.alike hKc, hDc.weaken (fun _ _ _ _ => trivial)⟩⟩ rfl rfl hl.1 rfl (lv_room (Nat.le_of_ble_eq_true rfl)) dX9_told_86 ⟨Nat.le_of_ble_eq_true rfl, Nat.le_of_ble_eq_true rfl⟩) hS (fun q _ h => hFc q h) hFc (fun r_7 u_6 t H1 locs ht hvm hw_7 hB hz1 hk1 hS => ?_)
      obtain ⟨up9_8, lw9_9, wh9_10, pu9_11, pw9_12, hP1, hK1, hD1⟩ := hB
      rw [ht] at hP1
      have hK1 := va_K.moved hvm.symm hK1
      obtain ⟨hP, hD⟩ := va_join (wr := [(a3, .inl (cI, 16, .inl Db))]) (w1 := [(h0, .inr (9, [.int th, .ref a1, .ref a2, .ref a3, .ref a4, .ref a5, .int ne, .int wi, .int dn, .ref a6, .ref a7, .int nn, .ref a8, .int la, .ref a9, .ref a10, .long up9_8, .long lw9_9, .int wh9_10, .long pu9_11, .long pw9_12, .ref a11])), (a1, .inl (cI, 16, .inl Fi)), (a2, .inl (cI, 16, .inl Ma)), (a4, .inl (cZ, 16, .inl Go)), (a5, .inl (cI, 576, .inl Sp))]) hP hD [0, 1, 2, 4, 5] [3] rfl rfl (by decide) (by decide) hk1 hFc hP1 hD1
      have hK := (hK.sub (tys' := [(cI, .int), (cZ, .boolean)]) [0, 1] rfl).app hK1
      generalize H1 = H at hP hS ⊢
      have hP : va_P (dC, dI) vwCl [(a3, .inl (cI, 16, .inl Db)), (h0, .inr (9, [.int th, .ref a1, .ref a2, .ref a3, .ref a4, .ref a5, .int ne, .int wi, .int dn, .ref a6, .ref a7, .int nn, .ref a8, .int la, .ref a9, .ref a10, .long up9_8, .long lw9_9, .int wh9_10, .long pu9_11, .long pw9_12, .ref a11])), (a1, .inl (cI, 16, .inl Fi)), (a2, .inl (cI, 16, .inl Ma)), (a4, .inl (cZ, 16, .inl Go)), (a5, .inl (cI, 576, .inl Sp))] H := hP
      have hD : va_D A [(a3, .inl (cI, 16, .inl Db)), (h0, .inr (9, [.int th, .ref a1, .ref a2, .ref a3, .ref a4, .ref a5, .int ne, .int wi, .int dn, .ref a6, .ref a7, .int nn, .ref a8, .int la, .ref a9, .ref a10, .long up9_8, .long lw9_9, .int wh9_10, .long pu9_11, .long pw9_12, .ref a11])), (a1, .inl (cI, 16, .inl Fi)), (a2, .inl (cI, 16, .inl Ma)), (a4, .inl (cZ, 16, .inl Go)), (a5, .inl (cI, 576, .inl Sp))] := hD
      have hK : va_K (dC, dI) vwCl [(cI, .int), (cZ, .boolean), (cI, .int), (cZ, .boolean)] s := hK
      refine W.widen (k := 0) (n := 0) (by omega) (by omega) ?_
      try dsimp only at hw_7
      have hP9 := hP.sub (ws' := [(h0, .inr (9, [.int th, .ref a1, .ref a2, .ref a3, .ref a4, .ref a5, .int ne, .int wi, .int dn, .ref a6, .ref a7, .int nn, .ref a8, .int la, .ref a9, .ref a10, .long up9_8, .long lw9_9, .int wh9_10, .long pu9_11, .long pw9_12, .ref a11])), (a1, .inl (cI, 16, .inl Fi)), (a2, .inl (cI, 16, .inl Ma)), (a3, .inl (cI, 16, .inl Db)), (a4, .inl (cZ, 16, .inl Go)), (a5, .inl (cI, 576, .inl Sp))]) [1, 2, 3, 0, 4, 5] rfl
      have hD9 := hD.sub (ws' := [(h0, .inr (9, [.int th, .ref a1, .ref a2, .ref a3, .ref a4, .ref a5, .int ne, .int wi, .int dn, .ref a6, .ref a7, .int nn, .ref a8, .int la, .ref a9, .ref a10, .long up9_8, .long lw9_9, .int wh9_10, .long pu9_11, .long pw9_12, .ref a11])), (a1, .inl (cI, 16, .inl Fi)), (a2, .inl (cI, 16, .inl Ma)), (a3, .inl (cI, 16, .inl Db)), (a4, .inl (cZ, 16, .inl Go)), (a5, .inl (cI, 576, .inl Sp))]) [1, 2, 3, 0, 4, 5] (by decide) rfl
      have hK9 := hK.sub (tys' := [(cI, .int), (cZ, .boolean)]) [0, 1] rfl
      refine W.widen (k := 0) (n := 0) (by omega) (by omega) ?_
      exact W.iret (v := r_7) hx hb hr (fun t ht hW => ⟨⟨_, (), rfl, trivial, up9_8, lw9_9, wh9_10, pu9_11, pw9_12, by rw [ht]; exact hP9, va_K.moved hW.alike hK9, hD9⟩, hS.F ht⟩) hS.2.2 dX9_told_89
  · refine lv_if_ne (tgt := 11) hx hb dX9_told_5 (by decide) (fun h9 => absurd h9 (by decide)) (fun _ => ?_)
    refine lv_ldc hx hb hown (hts (.constant RX9 84 (-100001)) (by decide +kernel)) dX9_told_8 ?_
    have hP9 := hP.sub (ws' := [(h0, .inr (9, [.int th, .ref a1, .ref a2, .ref a3, .ref a4, .ref a5, .int ne, .int wi, .int dn, .ref a6, .ref a7, .int nn, .ref a8, .int la, .ref a9, .ref a10, .long up, .long lw, .int wh, .long pu, .long pw, .ref a11])), (a1, .inl (cI, 16, .inl Fi)), (a2, .inl (cI, 16, .inl Ma)), (a3, .inl (cI, 16, .inl Db)), (a4, .inl (cZ, 16, .inl Go)), (a5, .inl (cI, 576, .inl Sp))]) [0, 1, 2, 3, 4, 5] rfl
    have hD9 := hD.sub (ws' := [(h0, .inr (9, [.int th, .ref a1, .ref a2, .ref a3, .ref a4, .ref a5, .int ne, .int wi, .int dn, .ref a6, .ref a7, .int nn, .ref a8, .int la, .ref a9, .ref a10, .long up, .long lw, .int wh, .long pu, .long pw, .ref a11])), (a1, .inl (cI, 16, .inl Fi)), (a2, .inl (cI, 16, .inl Ma)), (a3, .inl (cI, 16, .inl Db)), (a4, .inl (cZ, 16, .inl Go)), (a5, .inl (cI, 576, .inl Sp))]) [0, 1, 2, 3, 4, 5] (by decide) rfl
    have hK9 := hK.sub (tys' := [(cI, .int), (cZ, .boolean)]) [0, 1] rfl
    refine W.widen (k := 0) (n := 0) (by omega) (by omega) ?_
    exact W.iret (v := (-100001)) hx hb hr (fun t ht hW => ⟨⟨_, (), rfl, trivial, up, lw, wh, pu, pw, by rw [ht]; exact hP9, va_K.moved hW.alike hK9, hD9⟩, hS.F ht⟩) hS.2.2 dX9_told_10
def wk_X9_at : List Cond := .code yX9_at cX9_at 4 (some .int) :: (([.constantLong RX9 62 39, .constantLong RX9 86 2, .constant RX9 85 (-100003), .constant RX9 70 (-100002), .constant RX9 84 (-100001)] : List Cond) ++ ((wsV RX9 80 RX9 yX9_isThing wk_X9_isThing) ++ ((va_wsS RX9 55 yX9_in wk_X9_in) ++ ((wsV RX9 90 RX9 yX9_hasPlace wk_X9_hasPlace) ++ ((wsV RX9 94 RX9 yX9_spot wk_X9_spot) ++ ([]))))))
theorem gw_X9_at : AG wk_X9_at := AG_ca (AG_l (by decide +kernel)) (AG_app (AG_V gw_X9_isThing) (AG_app (AG_S gw_X9_in) (AG_app (AG_V gw_X9_hasPlace) (AG_app (AG_V gw_X9_spot) (AG_nil)))))
theorem g_X9_at__X9_isThing_80 : GoodIn wk_X9_at (wsV RX9 80 RX9 yX9_isThing wk_X9_isThing) := goodIn_m (fun _ h => List.mem_cons_of_mem _ (List.mem_append_right _ (List.mem_append_left _ h))) (AG_V gw_X9_isThing)
theorem g_X9_at__X9_in_55 : GoodIn wk_X9_at (va_wsS RX9 55 yX9_in wk_X9_in) := goodIn_m (fun _ h => List.mem_cons_of_mem _ (List.mem_append_right _ (List.mem_append_right _ (List.mem_append_left _ h)))) (AG_S gw_X9_in)
theorem g_X9_at__X9_hasPlace_90 : GoodIn wk_X9_at (wsV RX9 90 RX9 yX9_hasPlace wk_X9_hasPlace) := goodIn_m (fun _ h => List.mem_cons_of_mem _ (List.mem_append_right _ (List.mem_append_right _ (List.mem_append_right _ (List.mem_append_left _ h))))) (AG_V gw_X9_hasPlace)
theorem g_X9_at__X9_spot_94 : GoodIn wk_X9_at (wsV RX9 94 RX9 yX9_spot wk_X9_spot) := goodIn_m (fun _ h => List.mem_cons_of_mem _ (List.mem_append_right _ (List.mem_append_right _ (List.mem_append_right _ (List.mem_append_right _ (List.mem_append_left _ h)))))) (AG_V gw_X9_spot)
set_option maxHeartbeats 4000000 in
set_option maxRecDepth 100000 in
theorem c_X9_at (l : Launch) (dC : Nat → ClassId) (dI : Nat → Nat → Nat) (h0 : Nat) (a1 : Nat) (a2 : Nat) (a3 : Nat) (a4 : Nat) (a5 : Nat) (a6 : Nat) (a7 : Nat) (a8 : Nat) (a9 : Nat) (a10 : Nat) (a11 : Nat) (th : Int32) (ne : Int32) (wi : Int32) (dn : Int32) (nn : Int32) (la : Int32) (wh : Int32) (up : Int64) (lw : Int64) (pu : Int64) (pw : Int64) (cI : ClassId) (Fi : Nat → Int32) (Ma : Nat → Int32) (Sp : Nat → Int32) (p1 : Int32) (p2 : Int32) (p3 : Int32) (hM : mOK th Fi Ma) : Met l yX9_at wk_X9_at ({ frames := 2, cells := 0, slots := 0, locals := 47 }) (va_Pc [.ref h0, .int p1, .int p2, .int p3] (fun U => va_P (dC, dI) vwCl [(h0, .inr (9, [.int th, .ref a1, .ref a2, .ref a3, .ref a4, .ref a5, .int ne, .int wi, .int dn, .ref a6, .ref a7, .int nn, .ref a8, .int la, .ref a9, .ref a10, .long up, .long lw, .int wh, .long pu, .long pw, .ref a11])), (a1, .inl (cI, 16, .inl Fi)), (a2, .inl (cI, 16, .inl Ma)), (a5, .inl (cI, 576, .inl Sp))] U.heap ∧ va_K (dC, dI) vwCl [(cI, .int)] U)) (vp_Si (fun r => r = (if 0 ≤ p1.toInt ∧ p1.toInt < th.toInt then (if (0 ≤ p2.toInt ∧ p2.toInt ≤ 39) ∧ (0 ≤ p3.toInt ∧ p3.toInt ≤ 2) then (if (Fi p1.toNatClampNeg).toInt ≤ p2.toInt ∧ p2.toInt < (Fi p1.toNatClampNeg).toInt + (Ma p1.toNatClampNeg).toInt then Sp (ixm Fi p1 p2 p3) else -100003) else -100002) else -100001))) 0 0 (fun _ => False) := by
  refine Met.ofW (cc := cX9_at) (maxL := 4) (ret := (some .int)) (by decide) rfl ?_
  intro p e s m args below meth c s₁ B hml hv
  obtain ⟨rfl, hP, hK⟩ := hv
  have hx := B.exec
  have hb := B.bytes
  have hr := B.returns
  have hts := atoms_spec (ws := wk_X9_at) B.pre
  have hown : s.vm.findClass RX9 = some m.cls := findClass_of_methodNamed B.named
  have hlocks := B.notSynchronized
  have hP : va_P (dC, dI) vwCl [(h0, .inr (9, [.int th, .ref a1, .ref a2, .ref a3, .ref a4, .ref a5, .int ne, .int wi, .int dn, .ref a6, .ref a7, .int nn, .ref a8, .int la, .ref a9, .ref a10, .long up, .long lw, .int wh, .long pu, .long pw, .ref a11])), (a1, .inl (cI, 16, .inl Fi)), (a2, .inl (cI, 16, .inl Ma)), (a5, .inl (cI, 576, .inl Sp))] s.heap := hP
  have hl := lv_entry ([.ref h0, .int p1, .int p2, .int p3]) (n := 4) (Nat.le_of_ble_eq_true rfl)
  rw [lg_entry_eq]
  generalize (lg_sl ([.ref h0, .int p1, .int p2, .int p3]) ++ List.replicate (4 - (lg_sl ([.ref h0, .int p1, .int p2, .int p3])).length) Slot.unset).toArray = ls at hl ⊢
  have hl : lv_has ls 4 [(0, .ref h0), (1, .int p1), (2, .int p2), (3, .int p3)] := hl
  have kl_m100003 : (-100003 : Int32).toInt = -100003 := by decide
  have kl_m100002 : (-100002 : Int32).toInt = -100002 := by decide
  have kl_m100001 : (-100001 : Int32).toInt = -100001 := by decide
  have kl_0 : (0 : Int32).toInt = 0 := by decide
  have kl_2 : (2 : Int32).toInt = 2 := by decide
  have kl_39 : (39 : Int32).toInt = 39 := by decide
  have klL_0 : (0 : Int64).toInt = 0 := by decide
  have klL_2 : (2 : Int64).toInt = 2 := by decide
  have klL_39 : (39 : Int64).toInt = 39 := by decide
  obtain ⟨hM0, hM1, hM2⟩ := id hM
  refine lv_aload_n hx hb dX9_at_0 rfl (lv_at hl 0 rfl) ?_
  refine lv_iload_n hx hb dX9_at_1 rfl (lv_at hl 1 rfl) ?_
  have hPc := hP.sub (ws' := [(h0, .inr (9, [.int th, .ref a1, .ref a2, .ref a3, .ref a4, .ref a5, .int ne, .int wi, .int dn, .ref a6, .ref a7, .int nn, .ref a8, .int la, .ref a9, .ref a10, .long up, .long lw, .int wh, .long pu, .long pw, .ref a11]))]) [0] rfl
  have hKc := hK.sub (tys' := []) [] rfl
  refine vp_callSi (W.runV (As := [.int p1]) (rest := []) ⟨hx, hb, hml, hown, hts⟩ (c_X9_isThing l dC dI h0 a1 a2 a3 a4 a5 a6 a7 a8 a9 a10 a11 th ne wi dn nn la wh up lw pu pw p1 (by first | omega | assumption) (by first | omega | assumption)) (cwV 1 hts g_X9_at__X9_isThing_80 rfl rfl rfl (by decide +kernel) ⟨Nat.le_of_ble_eq_true rfl, Nat.le_of_ble_eq_true rfl⟩) ⟨fun a U g mk q => by obtain ⟨q0, qP, qK⟩ := q; exact ⟨q0, qP, va_K.moved (u := U) (U := U.calling g mk a) (Vm.Alike.refl U.vm) qK⟩, va_recv hKc hPc (ci := 9) (q0 := 0) rfl rfl, fun U hU hW => ⟨rfl, by rw [hU]; exact hPc, va_K.moved hW.alike hKc⟩⟩ rfl rfl hl.1 rfl (lv_room (Nat.le_of_ble_eq_true rfl)) dX9_at_2 ⟨Nat.le_of_ble_eq_true rfl, Nat.le_of_ble_eq_true rfl⟩) (fun r_1 hr_1 => ?_)
  try dsimp only at hr_1
  rcases bo_split hr_1 with ⟨rfl, q_2⟩ | ⟨rfl, q_2⟩
  · refine lv_if_ne (tgt := 11) hx hb dX9_at_5 (by decide) (fun _ => ?_) (fun h9 => absurd h9 (by decide))
    refine lv_iload_n hx hb dX9_at_11 rfl (lv_at hl 2 rfl) ?_
    refine lv_i2l hx hb dX9_at_12 rfl ?_
    refine lv_lconst (v := 0) hx hb dX9_at_13 (by decide) ?_
    refine lv_ldc2 hx hb hown (hts (.constantLong RX9 62 39) (by decide +kernel)) dX9_at_14 ?_
    refine vp_callSi (W.runS (As := [.long p2.toInt64, .long 0, .long 39]) (rest := []) ⟨hx, hb, hml, hown, hts⟩ (c_X9_in l dC dI p2.toInt64 0 39) (va_cwS 3 hts g_X9_at__X9_in_55 rfl rfl rfl (by decide +kernel) ⟨Nat.le_of_ble_eq_true rfl, Nat.le_of_ble_eq_true rfl⟩) ⟨fun a U g mk q => by obtain ⟨q0, q1⟩ := q; exact ⟨q0, q1⟩, fun U hU hW => ⟨rfl, trivial⟩⟩ rfl rfl hl.1 rfl (lv_room (Nat.le_of_ble_eq_true rfl)) dX9_at_17 ⟨Nat.le_of_ble_eq_true rfl, Nat.le_of_ble_eq_true rfl⟩) (fun r_2 hr_2 => ?_)
    try dsimp only at hr_2
    rcases bo_split hr_2 with ⟨rfl, q_17⟩ | ⟨rfl, q_17⟩
    · simp only [Int32.toInt_toInt64, klL_0, klL_39] at q_17
      refine lv_if_eq (tgt := 35) hx hb dX9_at_20 (by decide) (fun h9 => absurd h9 (by decide)) (fun _ => ?_)
      refine lv_iload_n hx hb dX9_at_23 rfl (lv_at hl 3 rfl) ?_
      refine lv_i2l hx hb dX9_at_24 rfl ?_
      refine lv_lconst (v := 0) hx hb dX9_at_25 (by decide) ?_
      refine lv_ldc2 hx hb hown (hts (.constantLong RX9 86 2) (by decide +kernel)) dX9_at_26 ?_
      refine vp_callSi (W.runS (As := [.long p3.toInt64, .long 0, .long 2]) (rest := []) ⟨hx, hb, hml, hown, hts⟩ (c_X9_in l dC dI p3.toInt64 0 2) (va_cwS 3 hts g_X9_at__X9_in_55 rfl rfl rfl (by decide +kernel) ⟨Nat.le_of_ble_eq_true rfl, Nat.le_of_ble_eq_true rfl⟩) ⟨fun a U g mk q => by obtain ⟨q0, q1⟩ := q; exact ⟨q0, q1⟩, fun U hU hW => ⟨rfl, trivial⟩⟩ rfl rfl hl.1 rfl (lv_room (Nat.le_of_ble_eq_true rfl)) dX9_at_29 ⟨Nat.le_of_ble_eq_true rfl, Nat.le_of_ble_eq_true rfl⟩) (fun r_3 hr_3 => ?_)
      try dsimp only at hr_3
      rcases bo_split hr_3 with ⟨rfl, q_29⟩ | ⟨rfl, q_29⟩
      · simp only [Int32.toInt_toInt64, klL_0, klL_2] at q_29
        refine lv_if_ne (tgt := 38) hx hb dX9_at_32 (by decide) (fun _ => ?_) (fun h9 => absurd h9 (by decide))
        refine lv_aload_n hx hb dX9_at_38 rfl (lv_at hl 0 rfl) ?_
        refine lv_iload_n hx hb dX9_at_39 rfl (lv_at hl 1 rfl) ?_
        refine lv_iload_n hx hb dX9_at_40 rfl (lv_at hl 2 rfl) ?_
        have hPc := hP.sub (ws' := [(h0, .inr (9, [.int th, .ref a1, .ref a2, .ref a3, .ref a4, .ref a5, .int ne, .int wi, .int dn, .ref a6, .ref a7, .int nn, .ref a8, .int la, .ref a9, .ref a10, .long up, .long lw, .int wh, .long pu, .long pw, .ref a11])), (a1, .inl (cI, 16, .inl Fi)), (a2, .inl (cI, 16, .inl Ma))]) [0, 1, 2] rfl
        have hKc := hK.sub (tys' := [(cI, .int)]) [0] rfl
        refine vp_callSi (W.runV (As := [.int p1, .int p2]) (rest := []) ⟨hx, hb, hml, hown, hts⟩ (c_X9_hasPlace l dC dI h0 a1 a2 a3 a4 a5 a6 a7 a8 a9 a10 a11 th ne wi dn nn la wh up lw pu pw cI Fi Ma p1 p2 (by first | assumption | omega) (by first | omega | assumption) (by first | omega | assumption)) (cwV 2 hts g_X9_at__X9_hasPlace_90 rfl rfl rfl (by decide +kernel) ⟨Nat.le_of_ble_eq_true rfl, Nat.le_of_ble_eq_true rfl⟩) ⟨fun a U g mk q => by obtain ⟨q0, qP, qK⟩ := q; exact ⟨q0, qP, va_K.moved (u := U) (U := U.calling g mk a) (Vm.Alike.refl U.vm) qK⟩, va_recv hKc hPc (ci := 9) (q0 := 0) rfl rfl, fun U hU hW => ⟨rfl, by rw [hU]; exact hPc, va_K.moved hW.alike hKc⟩⟩ rfl rfl hl.1 rfl (lv_room (Nat.le_of_ble_eq_true rfl)) dX9_at_41 ⟨Nat.le_of_ble_eq_true rfl, Nat.le_of_ble_eq_true rfl⟩) (fun r_4 hr_4 => ?_)
        try dsimp only at hr_4
        rcases bo_split hr_4 with ⟨rfl, q_41⟩ | ⟨rfl, q_41⟩
        · refine lv_if_eq (tgt := 57) hx hb dX9_at_44 (by decide) (fun h9 => absurd h9 (by decide)) (fun _ => ?_)
          refine lv_aload_n hx hb dX9_at_47 rfl (lv_at hl 0 rfl) ?_
          refine lv_iload_n hx hb dX9_at_48 rfl (lv_at hl 1 rfl) ?_
          refine lv_iload_n hx hb dX9_at_49 rfl (lv_at hl 2 rfl) ?_
          refine lv_iload_n hx hb dX9_at_50 rfl (lv_at hl 3 rfl) ?_
          have hPc := hP.sub (ws' := [(h0, .inr (9, [.int th, .ref a1, .ref a2, .ref a3, .ref a4, .ref a5, .int ne, .int wi, .int dn, .ref a6, .ref a7, .int nn, .ref a8, .int la, .ref a9, .ref a10, .long up, .long lw, .int wh, .long pu, .long pw, .ref a11])), (a1, .inl (cI, 16, .inl Fi)), (a5, .inl (cI, 576, .inl Sp))]) [0, 1, 3] rfl
          have hKc := hK.sub (tys' := [(cI, .int)]) [0] rfl
          refine vp_callSi (W.runV (As := [.int p1, .int p2, .int p3]) (rest := []) ⟨hx, hb, hml, hown, hts⟩ (c_X9_spot l dC dI Ma h0 a1 a2 a3 a4 a5 a6 a7 a8 a9 a10 a11 th ne wi dn nn la wh up lw pu pw cI Fi Sp p1 p2 p3 (by first | assumption | omega) (by first | omega | assumption) (by first | omega | assumption) (by first | omega | assumption) (by first | omega | assumption) (by first | omega | assumption) (by first | omega | assumption)) (cwV 3 hts g_X9_at__X9_spot_94 rfl rfl rfl (by decide +kernel) ⟨Nat.le_of_ble_eq_true rfl, Nat.le_of_ble_eq_true rfl⟩) ⟨fun a U g mk q => by obtain ⟨q0, qP, qK⟩ := q; exact ⟨q0, qP, va_K.moved (u := U) (U := U.calling g mk a) (Vm.Alike.refl U.vm) qK⟩, va_recv hKc hPc (ci := 9) (q0 := 0) rfl rfl, fun U hU hW => ⟨rfl, by rw [hU]; exact hPc, va_K.moved hW.alike hKc⟩⟩ rfl rfl hl.1 rfl (lv_room (Nat.le_of_ble_eq_true rfl)) dX9_at_51 ⟨Nat.le_of_ble_eq_true rfl, Nat.le_of_ble_eq_true rfl⟩) (fun r_5 hr_5 => ?_)
          try dsimp only at hr_5
          refine lv_goto (tgt := 59) hx hb dX9_at_54 (by decide) ?_
          exact W.iret (v := r_5) hx hb hr (fun t ht _ => ⟨_, rfl, (by first | rw [if_neg (by omega)] | rw [if_pos (by omega), if_neg (by omega)] | rw [if_pos (by omega), if_pos (by omega), if_neg (by omega)] | (rw [if_pos (by omega), if_pos (by omega), if_pos (by omega)]; exact hr_5)), ht⟩) (fun _ h => absurd h List.not_mem_nil) dX9_at_59
        · refine lv_if_eq (tgt := 57) hx hb dX9_at_44 (by decide) (fun _ => ?_) (fun h9 => absurd h9 (by decide))
          refine lv_ldc hx hb hown (hts (.constant RX9 85 (-100003)) (by decide +kernel)) dX9_at_57 ?_
          exact W.iret (v := (-100003)) hx hb hr (fun t ht _ => ⟨_, rfl, (by first | rw [if_neg (by omega)] | rw [if_pos (by omega), if_neg (by omega)] | rw [if_pos (by omega), if_pos (by omega), if_neg (by omega)] | (rw [if_pos (by omega), if_pos (by omega), if_pos (by omega)]; exact hr_5)), ht⟩) (fun _ h => absurd h List.not_mem_nil) dX9_at_59
      · simp only [Int32.toInt_toInt64, klL_0, klL_2] at q_29
        refine lv_if_ne (tgt := 38) hx hb dX9_at_32 (by decide) (fun h9 => absurd h9 (by decide)) (fun _ => ?_)
        refine lv_ldc hx hb hown (hts (.constant RX9 70 (-100002)) (by decide +kernel)) dX9_at_35 ?_
        exact W.iret (v := (-100002)) hx hb hr (fun t ht _ => ⟨_, rfl, (by first | rw [if_neg (by omega)] | rw [if_pos (by omega), if_neg (by omega)] | rw [if_pos (by omega), if_pos (by omega), if_neg (by omega)] | (rw [if_pos (by omega), if_pos (by omega), if_pos (by omega)]; exact hr_5)), ht⟩) (fun _ h => absurd h List.not_mem_nil) dX9_at_37
    · simp only [Int32.toInt_toInt64, klL_0, klL_39] at q_17
      refine lv_if_eq (tgt := 35) hx hb dX9_at_20 (by decide) (fun _ => ?_) (fun h9 => absurd h9 (by decide))
      refine lv_ldc hx hb hown (hts (.constant RX9 70 (-100002)) (by decide +kernel)) dX9_at_35 ?_
      exact W.iret (v := (-100002)) hx hb hr (fun t ht _ => ⟨_, rfl, (by first | rw [if_neg (by omega)] | rw [if_pos (by omega), if_neg (by omega)] | rw [if_pos (by omega), if_pos (by omega), if_neg (by omega)] | (rw [if_pos (by omega), if_pos (by omega), if_pos (by omega)]; exact hr_5)), ht⟩) (fun _ h => absurd h List.not_mem_nil) dX9_at_37
  · refine lv_if_ne (tgt := 11) hx hb dX9_at_5 (by decide) (fun h9 => absurd h9 (by decide)) (fun _ => ?_)
    refine lv_ldc hx hb hown (hts (.constant RX9 84 (-100001)) (by decide +kernel)) dX9_at_8 ?_
    exact W.iret (v := (-100001)) hx hb hr (fun t ht _ => ⟨_, rfl, (by first | rw [if_neg (by omega)] | rw [if_pos (by omega), if_neg (by omega)] | rw [if_pos (by omega), if_pos (by omega), if_neg (by omega)] | (rw [if_pos (by omega), if_pos (by omega), if_pos (by omega)]; exact hr_5)), ht⟩) (fun _ h => absurd h List.not_mem_nil) dX9_at_10
def wk_X9_count : List Cond := .code yX9_count cX9_count 5 (some .int) :: (([.fieldLink RX9 59 "MeetingsAboveModel" "things" "I", .fieldLink RX9 109 "MeetingsAboveModel" "dots" "I", .fieldLink RX9 115 "MeetingsAboveModel" "notices" "I", .constant RX9 70 (-100002), .fieldLink RX9 118 "MeetingsAboveModel" "late" "I", .fieldLink RX9 39 "MeetingsAboveModel" "noted" "[I", .fieldLink RX9 19 "MeetingsAboveModel" "isGone" "[Z"] : List Cond) ++ (wsX90 ++ ((wsV RX9 112 RX9 yX9_dotOf wk_X9_dotOf) ++ ((wsV RX9 106 RX9 yX9_isMeeting wk_X9_isMeeting) ++ ([])))))
theorem in_X9_count_X9 : ∀ w ∈ wsX90, w ∈ wk_X9_count := fun _ h => List.mem_cons_of_mem _ (List.mem_append_right _ (List.mem_append_left _ h))
theorem gw_X9_count : AG wk_X9_count := AG_ca (AG_l (by decide +kernel)) (AG_app ag_X9 (AG_app (AG_V gw_X9_dotOf) (AG_app (AG_V gw_X9_isMeeting) (AG_nil))))
theorem g_X9_count__X9_dotOf_112 : GoodIn wk_X9_count (wsV RX9 112 RX9 yX9_dotOf wk_X9_dotOf) := goodIn_m (fun _ h => List.mem_cons_of_mem _ (List.mem_append_right _ (List.mem_append_right _ (List.mem_append_left _ h)))) (AG_V gw_X9_dotOf)
theorem g_X9_count__X9_isMeeting_106 : GoodIn wk_X9_count (wsV RX9 106 RX9 yX9_isMeeting wk_X9_isMeeting) := goodIn_m (fun _ h => List.mem_cons_of_mem _ (List.mem_append_right _ (List.mem_append_right _ (List.mem_append_right _ (List.mem_append_left _ h))))) (AG_V gw_X9_isMeeting)
set_option maxHeartbeats 4000000 in
set_option maxRecDepth 100000 in
theorem c_X9_count (l : Launch) (dC : Nat → ClassId) (dI : Nat → Nat → Nat) (h0 : Nat) (a1 : Nat) (a2 : Nat) (a3 : Nat) (a4 : Nat) (a5 : Nat) (a6 : Nat) (a7 : Nat) (a8 : Nat) (a9 : Nat) (a10 : Nat) (a11 : Nat) (th : Int32) (ne : Int32) (wi : Int32) (dn : Int32) (nn : Int32) (la : Int32) (wh : Int32) (up : Int64) (lw : Int64) (pu : Int64) (pw : Int64) (cI : ClassId) (cZ : ClassId) (Fi : Nat → Int32) (Ma : Nat → Int32) (Db : Nat → Int32) (Go : Nat → Int32) (Sp : Nat → Int32) (Ds : Nat → Int32) (Dp : Nat → Int32) (No : Nat → Int32) (p1 : Int32) (sz : Nat) (hM : mOK th Fi Ma) (hn0 : 0 ≤ nn.toInt) (hn1 : nn.toInt ≤ 40) (hd0 : 0 ≤ dn.toInt) (hd1 : dn.toInt ≤ 40) : Met l yX9_count wk_X9_count ({ frames := 4, cells := 0, slots := 0, locals := 104 }) (va_Pc [.ref h0, .int p1] (fun U => U.heap.size = sz ∧ va_P (dC, dI) vwCl [(h0, .inr (9, [.int th, .ref a1, .ref a2, .ref a3, .ref a4, .ref a5, .int ne, .int wi, .int dn, .ref a6, .ref a7, .int nn, .ref a8, .int la, .ref a9, .ref a10, .long up, .long lw, .int wh, .long pu, .long pw, .ref a11])), (a1, .inl (cI, 16, .inl Fi)), (a2, .inl (cI, 16, .inl Ma)), (a3, .inl (cI, 16, .inl Db)), (a4, .inl (cZ, 16, .inl Go)), (a5, .inl (cI, 576, .inl Sp)), (a6, .inl (cI, 40, .inl Ds)), (a7, .inl (cI, 120, .inl Dp)), (a8, .inl (cI, 320, .inl No))] U.heap ∧ va_K (dC, dI) vwCl [(cI, .int), (cZ, .boolean)] U ∧ va_D (fun _ => True) [(h0, .inr (9, [.int th, .ref a1, .ref a2, .ref a3, .ref a4, .ref a5, .int ne, .int wi, .int dn, .ref a6, .ref a7, .int nn, .ref a8, .int la, .ref a9, .ref a10, .long up, .long lw, .int wh, .long pu, .long pw, .ref a11])), (a1, .inl (cI, 16, .inl Fi)), (a2, .inl (cI, 16, .inl Ma)), (a3, .inl (cI, 16, .inl Db)), (a4, .inl (cZ, 16, .inl Go)), (a5, .inl (cI, 576, .inl Sp)), (a6, .inl (cI, 40, .inl Ds)), (a7, .inl (cI, 120, .inl Dp)), (a8, .inl (cI, 320, .inl No))])) (va_Qi (fun (r : Int32) (_ : Unit) => True) (fun (_ : Unit) (t : State) => ∃ (up9 : Int64) (lw9 : Int64) (wh9 : Int32) (pu9 : Int64) (pw9 : Int64), va_P (dC, dI) vwCl [(h0, .inr (9, [.int th, .ref a1, .ref a2, .ref a3, .ref a4, .ref a5, .int ne, .int wi, .int dn, .ref a6, .ref a7, .int nn, .ref a8, .int la, .ref a9, .ref a10, .long up9, .long lw9, .int wh9, .long pu9, .long pw9, .ref a11])), (a1, .inl (cI, 16, .inl Fi)), (a2, .inl (cI, 16, .inl Ma)), (a3, .inl (cI, 16, .inl Db)), (a4, .inl (cZ, 16, .inl Go)), (a5, .inl (cI, 576, .inl Sp)), (a6, .inl (cI, 40, .inl Ds)), (a7, .inl (cI, 120, .inl Dp)), (a8, .inl (cI, 320, .inl No))] t.heap ∧ va_K (dC, dI) vwCl [(cI, .int), (cZ, .boolean)] t ∧ va_D (va_A [(h0, .inr (9, [.int th, .ref a1, .ref a2, .ref a3, .ref a4, .ref a5, .int ne, .int wi, .int dn, .ref a6, .ref a7, .int nn, .ref a8, .int la, .ref a9, .ref a10, .long up, .long lw, .int wh, .long pu, .long pw, .ref a11])), (a1, .inl (cI, 16, .inl Fi)), (a2, .inl (cI, 16, .inl Ma)), (a3, .inl (cI, 16, .inl Db)), (a4, .inl (cZ, 16, .inl Go)), (a5, .inl (cI, 576, .inl Sp)), (a6, .inl (cI, 40, .inl Ds)), (a7, .inl (cI, 120, .inl Dp)), (a8, .inl (cI, 320, .inl No))] sz) [(h0, .inr (9, [.int th, .ref a1, .ref a2, .ref a3, .ref a4, .ref a5, .int ne, .int wi, .int dn, .ref a6, .ref a7, .int nn, .ref a8, .int la, .ref a9, .ref a10, .long up9, .long lw9, .int wh9, .long pu9, .long pw9, .ref a11])), (a1, .inl (cI, 16, .inl Fi)), (a2, .inl (cI, 16, .inl Ma)), (a3, .inl (cI, 16, .inl Db)), (a4, .inl (cZ, 16, .inl Go)), (a5, .inl (cI, 576, .inl Sp)), (a6, .inl (cI, 40, .inl Ds)), (a7, .inl (cI, 120, .inl Dp)), (a8, .inl (cI, 320, .inl No))]) (va_A [(h0, .inr (9, [.int th, .ref a1, .ref a2, .ref a3, .ref a4, .ref a5, .int ne, .int wi, .int dn, .ref a6, .ref a7, .int nn, .ref a8, .int la, .ref a9, .ref a10, .long up, .long lw, .int wh, .long pu, .long pw, .ref a11])), (a1, .inl (cI, 16, .inl Fi)), (a2, .inl (cI, 16, .inl Ma)), (a3, .inl (cI, 16, .inl Db)), (a4, .inl (cZ, 16, .inl Go)), (a5, .inl (cI, 576, .inl Sp)), (a6, .inl (cI, 40, .inl Ds)), (a7, .inl (cI, 120, .inl Dp)), (a8, .inl (cI, 320, .inl No))] sz)) 0 0 (va_A [(h0, .inr (9, [.int th, .ref a1, .ref a2, .ref a3, .ref a4, .ref a5, .int ne, .int wi, .int dn, .ref a6, .ref a7, .int nn, .ref a8, .int la, .ref a9, .ref a10, .long up, .long lw, .int wh, .long pu, .long pw, .ref a11])), (a1, .inl (cI, 16, .inl Fi)), (a2, .inl (cI, 16, .inl Ma)), (a3, .inl (cI, 16, .inl Db)), (a4, .inl (cZ, 16, .inl Go)), (a5, .inl (cI, 576, .inl Sp)), (a6, .inl (cI, 40, .inl Ds)), (a7, .inl (cI, 120, .inl Dp)), (a8, .inl (cI, 320, .inl No))] sz) := by
  refine Met.ofW (cc := cX9_count) (maxL := 5) (ret := (some .int)) (by decide) rfl ?_
  intro p e s m args below meth c s₁ B hml hv
  obtain ⟨rfl, hsz, hP, hK, hD0⟩ := hv
  have hx := B.exec
  have hb := B.bytes
  have hr := B.returns
  have hts := atoms_spec (ws := wk_X9_count) B.pre
  have hown : s.vm.findClass RX9 = some m.cls := findClass_of_methodNamed B.named
  have hlocks := B.notSynchronized
  subst hsz
  have hD := hD0.self (sz := s.heap.size)
  generalize hAe : va_A [(h0, .inr (9, [.int th, .ref a1, .ref a2, .ref a3, .ref a4, .ref a5, .int ne, .int wi, .int dn, .ref a6, .ref a7, .int nn, .ref a8, .int la, .ref a9, .ref a10, .long up, .long lw, .int wh, .long pu, .long pw, .ref a11])), (a1, .inl (cI, 16, .inl Fi)), (a2, .inl (cI, 16, .inl Ma)), (a3, .inl (cI, 16, .inl Db)), (a4, .inl (cZ, 16, .inl Go)), (a5, .inl (cI, 576, .inl Sp)), (a6, .inl (cI, 40, .inl Ds)), (a7, .inl (cI, 120, .inl Dp)), (a8, .inl (cI, 320, .inl No))] s.heap.size = A at hD ⊢
  have hA : ∀ q : Nat, s.heap.size ≤ q → A q := fun q h => by rw [← hAe]; exact Or.inr h
  have hS : va_S A s.heap s.heap [] := va_S.rf
  have hP : va_P (dC, dI) vwCl [(h0, .inr (9, [.int th, .ref a1, .ref a2, .ref a3, .ref a4, .ref a5, .int ne, .int wi, .int dn, .ref a6, .ref a7, .int nn, .ref a8, .int la, .ref a9, .ref a10, .long up, .long lw, .int wh, .long pu, .long pw, .ref a11])), (a1, .inl (cI, 16, .inl Fi)), (a2, .inl (cI, 16, .inl Ma)), (a3, .inl (cI, 16, .inl Db)), (a4, .inl (cZ, 16, .inl Go)), (a5, .inl (cI, 576, .inl Sp)), (a6, .inl (cI, 40, .inl Ds)), (a7, .inl (cI, 120, .inl Dp)), (a8, .inl (cI, 320, .inl No))] s.heap := hP
  have hl := lv_entry ([.ref h0, .int p1]) (n := 5) (Nat.le_of_ble_eq_true rfl)
  rw [lg_entry_eq]
  generalize (lg_sl ([.ref h0, .int p1]) ++ List.replicate (5 - (lg_sl ([.ref h0, .int p1])).length) Slot.unset).toArray = ls at hl ⊢
  have hl : lv_has ls 5 [(0, .ref h0), (1, .int p1)] := hl
  have kl_m100002 : (-100002 : Int32).toInt = -100002 := by decide
  have kl_0 : (0 : Int32).toInt = 0 := by decide
  have kl_1 : (1 : Int32).toInt = 1 := by decide
  have kl_2 : (2 : Int32).toInt = 2 := by decide
  have kl_4 : (4 : Int32).toInt = 4 := by decide
  have kl_5 : (5 : Int32).toInt = 5 := by decide
  have kl_6 : (6 : Int32).toInt = 6 := by decide
  have kl_8 : (8 : Int32).toInt = 8 := by decide
  obtain ⟨hM0, hM1, hM2⟩ := id hM
  refine lv_iconst (v := 0) hx hb dX9_count_0 (by decide) ?_
  refine lv_istore_n (lv' := [(2, .int 0), (0, .ref h0), (1, .int p1)]) hx hb dX9_count_1 rfl hl (by decide) rfl (fun ls hl => ?_)
  refine lv_iconst (v := 0) hx hb dX9_count_2 (by decide) ?_
  refine lv_istore_n (lv' := [(3, .int 0), (2, .int 0), (0, .ref h0), (1, .int p1)]) hx hb dX9_count_3 rfl hl (by decide) rfl (fun ls hl => ?_)
  refine (show ∀ (k : Nat) (n2 : Int32) (t3 : Int32) (uq : Int64) (lq : Int64) (wq : Int32) (pq : Int64) (dq : Int64) (hu0 : 0 ≤ t3.toInt) (hu1 : t3.toInt ≤ th.toInt) (hk_4 : (th.toInt - t3.toInt).toNat < k) (H : Heap) (locs : List Loc) (hP : va_P (dC, dI) vwCl [(h0, .inr (9, [.int th, .ref a1, .ref a2, .ref a3, .ref a4, .ref a5, .int ne, .int wi, .int dn, .ref a6, .ref a7, .int nn, .ref a8, .int la, .ref a9, .ref a10, .long uq, .long lq, .int wq, .long pq, .long dq, .ref a11])), (a1, .inl (cI, 16, .inl Fi)), (a2, .inl (cI, 16, .inl Ma)), (a3, .inl (cI, 16, .inl Db)), (a4, .inl (cZ, 16, .inl Go)), (a5, .inl (cI, 576, .inl Sp)), (a6, .inl (cI, 40, .inl Ds)), (a7, .inl (cI, 120, .inl Dp)), (a8, .inl (cI, 320, .inl No))] H) (hD : va_D A [(h0, .inr (9, [.int th, .ref a1, .ref a2, .ref a3, .ref a4, .ref a5, .int ne, .int wi, .int dn, .ref a6, .ref a7, .int nn, .ref a8, .int la, .ref a9, .ref a10, .long uq, .long lq, .int wq, .long pq, .long dq, .ref a11])), (a1, .inl (cI, 16, .inl Fi)), (a2, .inl (cI, 16, .inl Ma)), (a3, .inl (cI, 16, .inl Db)), (a4, .inl (cZ, 16, .inl Go)), (a5, .inl (cI, 576, .inl Sp)), (a6, .inl (cI, 40, .inl Ds)), (a7, .inl (cI, 120, .inl Dp)), (a8, .inl (cI, 320, .inl No))]) (hS : va_S A s.heap H locs) (ls : Array Slot) (hl : lv_has ls 5 [(0, .ref h0), (1, .int p1), (2, .int n2), (3, .int t3)]), W p l e _ s m _ below meth c H locs 0 0 _ (F0 m 4 ls []) from ?_) _ 0 0 up lw wh pu pw (by omega) (by omega) (Nat.lt_succ_self _) _ _ hP hD hS ls (lv_sub hl [2, 3, 1, 0] rfl)
  intro k
  induction k with
  | zero => intro n2 t3 uq lq wq pq dq hu0 hu1 hk_4; exact absurd hk_4 (Nat.not_lt_zero _)
  | succ k ih_4 =>
    intro n2 t3 uq lq wq pq dq hu0 hu1 hk_4 H locs hP hD hS ls hl
    refine lv_iload_n hx hb dX9_count_4 rfl (lv_at hl 3 rfl) ?_
    refine lv_aload_n hx hb dX9_count_5 rfl (lv_at hl 0 rfl) ?_
    refine va_get (D := (dC, dI)) (ci := 9) (v := .int th) (C := RX9) (T := TX9) (N := 22) hx hb hts in_X9_count_X9 hown hK hP 0 rfl rfl 0 (by decide) (hts (.fieldLink RX9 59 "MeetingsAboveModel" "things" "I") (by decide +kernel)) (fun _ h9 => h9) rfl dX9_count_6 ?_
    refine lv_icmp_ge (tgt := 83) hx hb dX9_count_9 (by decide) (fun c_9 => ?_) (fun c_9 => ?_)
    · have t_9 := (fa_le _ _).mp c_9
      refine lv_iconst (v := 0) hx hb dX9_count_83 (by decide) ?_
      refine lv_istore_n (lv' := [(3, .int 0), (0, .ref h0), (1, .int p1), (2, .int n2)]) hx hb dX9_count_84 rfl hl (by decide) rfl (fun ls hl => ?_)
      refine (show ∀ (k : Nat) (n5 : Int32) (d3 : Int32) (hw0 : 0 ≤ d3.toInt) (hw1 : d3.toInt ≤ dn.toInt) (hk_85 : (dn.toInt - d3.toInt).toNat < k) (H : Heap) (locs : List Loc) (hP : va_P (dC, dI) vwCl [(h0, .inr (9, [.int th, .ref a1, .ref a2, .ref a3, .ref a4, .ref a5, .int ne, .int wi, .int dn, .ref a6, .ref a7, .int nn, .ref a8, .int la, .ref a9, .ref a10, .long uq, .long lq, .int wq, .long pq, .long dq, .ref a11])), (a1, .inl (cI, 16, .inl Fi)), (a2, .inl (cI, 16, .inl Ma)), (a3, .inl (cI, 16, .inl Db)), (a4, .inl (cZ, 16, .inl Go)), (a5, .inl (cI, 576, .inl Sp)), (a6, .inl (cI, 40, .inl Ds)), (a7, .inl (cI, 120, .inl Dp)), (a8, .inl (cI, 320, .inl No))] H) (hD : va_D A [(h0, .inr (9, [.int th, .ref a1, .ref a2, .ref a3, .ref a4, .ref a5, .int ne, .int wi, .int dn, .ref a6, .ref a7, .int nn, .ref a8, .int la, .ref a9, .ref a10, .long uq, .long lq, .int wq, .long pq, .long dq, .ref a11])), (a1, .inl (cI, 16, .inl Fi)), (a2, .inl (cI, 16, .inl Ma)), (a3, .inl (cI, 16, .inl Db)), (a4, .inl (cZ, 16, .inl Go)), (a5, .inl (cI, 576, .inl Sp)), (a6, .inl (cI, 40, .inl Ds)), (a7, .inl (cI, 120, .inl Dp)), (a8, .inl (cI, 320, .inl No))]) (hS : va_S A s.heap H locs) (ls : Array Slot) (hl : lv_has ls 5 [(0, .ref h0), (1, .int p1), (2, .int n5), (3, .int d3)]), W p l e _ s m _ below meth c H locs 0 0 _ (F0 m 85 ls []) from ?_) _ n2 0 (by omega) (by omega) (Nat.lt_succ_self _) H _ hP hD hS ls (lv_sub hl [1, 2, 3, 0] rfl)
      intro k
      induction k with
      | zero => intro n5 d3 hw0 hw1 hk_85; exact absurd hk_85 (Nat.not_lt_zero _)
      | succ k ih_85 =>
        intro n5 d3 hw0 hw1 hk_85 H locs hP hD hS ls hl
        refine lv_iload_n hx hb dX9_count_85 rfl (lv_at hl 3 rfl) ?_
        refine lv_aload_n hx hb dX9_count_86 rfl (lv_at hl 0 rfl) ?_
        refine va_get (D := (dC, dI)) (ci := 9) (v := .int dn) (C := RX9) (T := TX9) (N := 22) hx hb hts in_X9_count_X9 hown hK hP 0 rfl rfl 8 (by decide) (hts (.fieldLink RX9 109 "MeetingsAboveModel" "dots" "I") (by decide +kernel)) (fun _ h9 => h9) rfl dX9_count_87 ?_
        refine lv_icmp_ge (tgt := 147) hx hb dX9_count_90 (by decide) (fun c_90 => ?_) (fun c_90 => ?_)
        · have t_90 := (fa_le _ _).mp c_90
          refine lv_iconst (v := 0) hx hb dX9_count_147 (by decide) ?_
          refine lv_istore_n (lv' := [(3, .int 0), (0, .ref h0), (1, .int p1), (2, .int n5)]) hx hb dX9_count_148 rfl hl (by decide) rfl (fun ls hl => ?_)
          refine (show ∀ (k : Nat) (n6 : Int32) (k3 : Int32) (hx0 : 0 ≤ k3.toInt) (hx1 : k3.toInt ≤ nn.toInt) (hk_149 : (nn.toInt - k3.toInt).toNat < k) (H : Heap) (locs : List Loc) (hP : va_P (dC, dI) vwCl [(h0, .inr (9, [.int th, .ref a1, .ref a2, .ref a3, .ref a4, .ref a5, .int ne, .int wi, .int dn, .ref a6, .ref a7, .int nn, .ref a8, .int la, .ref a9, .ref a10, .long uq, .long lq, .int wq, .long pq, .long dq, .ref a11])), (a1, .inl (cI, 16, .inl Fi)), (a2, .inl (cI, 16, .inl Ma)), (a3, .inl (cI, 16, .inl Db)), (a4, .inl (cZ, 16, .inl Go)), (a5, .inl (cI, 576, .inl Sp)), (a6, .inl (cI, 40, .inl Ds)), (a7, .inl (cI, 120, .inl Dp)), (a8, .inl (cI, 320, .inl No))] H) (hD : va_D A [(h0, .inr (9, [.int th, .ref a1, .ref a2, .ref a3, .ref a4, .ref a5, .int ne, .int wi, .int dn, .ref a6, .ref a7, .int nn, .ref a8, .int la, .ref a9, .ref a10, .long uq, .long lq, .int wq, .long pq, .long dq, .ref a11])), (a1, .inl (cI, 16, .inl Fi)), (a2, .inl (cI, 16, .inl Ma)), (a3, .inl (cI, 16, .inl Db)), (a4, .inl (cZ, 16, .inl Go)), (a5, .inl (cI, 576, .inl Sp)), (a6, .inl (cI, 40, .inl Ds)), (a7, .inl (cI, 120, .inl Dp)), (a8, .inl (cI, 320, .inl No))]) (hS : va_S A s.heap H locs) (ls : Array Slot) (hl : lv_has ls 5 [(0, .ref h0), (1, .int p1), (2, .int n6), (3, .int k3)]), W p l e _ s m _ below meth c H locs 0 0 _ (F0 m 149 ls []) from ?_) _ n5 0 (by omega) (by omega) (Nat.lt_succ_self _) H _ hP hD hS ls (lv_sub hl [1, 2, 3, 0] rfl)
          intro k
          induction k with
          | zero => intro n6 k3 hx0 hx1 hk_149; exact absurd hk_149 (Nat.not_lt_zero _)
          | succ k ih_149 =>
            intro n6 k3 hx0 hx1 hk_149 H locs hP hD hS ls hl
            refine lv_iload_n hx hb dX9_count_149 rfl (lv_at hl 3 rfl) ?_
            refine lv_aload_n hx hb dX9_count_150 rfl (lv_at hl 0 rfl) ?_
            refine va_get (D := (dC, dI)) (ci := 9) (v := .int nn) (C := RX9) (T := TX9) (N := 22) hx hb hts in_X9_count_X9 hown hK hP 0 rfl rfl 11 (by decide) (hts (.fieldLink RX9 115 "MeetingsAboveModel" "notices" "I") (by decide +kernel)) (fun _ h9 => h9) rfl dX9_count_151 ?_
            refine lv_icmp_ge (tgt := 192) hx hb dX9_count_154 (by decide) (fun c_154 => ?_) (fun c_154 => ?_)
            · have t_154 := (fa_le _ _).mp c_154
              refine lv_iload_n hx hb dX9_count_192 rfl (lv_at hl 1 rfl) ?_
              rcases sw_10 p1 with o_193 | rfl | rfl | rfl | rfl | rfl | rfl | rfl | rfl | rfl | rfl
              · refine lv_tableOut (tgt := 270) hx hb dX9_count_193 o_193 (by decide) ?_
                refine lv_ldc hx hb hown (hts (.constant RX9 70 (-100002)) (by decide +kernel)) dX9_count_270 ?_
                have hP9 := hP.sub (ws' := [(h0, .inr (9, [.int th, .ref a1, .ref a2, .ref a3, .ref a4, .ref a5, .int ne, .int wi, .int dn, .ref a6, .ref a7, .int nn, .ref a8, .int la, .ref a9, .ref a10, .long uq, .long lq, .int wq, .long pq, .long dq, .ref a11])), (a1, .inl (cI, 16, .inl Fi)), (a2, .inl (cI, 16, .inl Ma)), (a3, .inl (cI, 16, .inl Db)), (a4, .inl (cZ, 16, .inl Go)), (a5, .inl (cI, 576, .inl Sp)), (a6, .inl (cI, 40, .inl Ds)), (a7, .inl (cI, 120, .inl Dp)), (a8, .inl (cI, 320, .inl No))]) [0, 1, 2, 3, 4, 5, 6, 7, 8] rfl
                have hD9 := hD.sub (ws' := [(h0, .inr (9, [.int th, .ref a1, .ref a2, .ref a3, .ref a4, .ref a5, .int ne, .int wi, .int dn, .ref a6, .ref a7, .int nn, .ref a8, .int la, .ref a9, .ref a10, .long uq, .long lq, .int wq, .long pq, .long dq, .ref a11])), (a1, .inl (cI, 16, .inl Fi)), (a2, .inl (cI, 16, .inl Ma)), (a3, .inl (cI, 16, .inl Db)), (a4, .inl (cZ, 16, .inl Go)), (a5, .inl (cI, 576, .inl Sp)), (a6, .inl (cI, 40, .inl Ds)), (a7, .inl (cI, 120, .inl Dp)), (a8, .inl (cI, 320, .inl No))]) [0, 1, 2, 3, 4, 5, 6, 7, 8] (by decide) rfl
                have hK9 := hK.sub (tys' := [(cI, .int), (cZ, .boolean)]) [0, 1] rfl
                refine W.widen (k := 0) (n := 0) (by omega) (by omega) ?_
                exact W.iret (v := (-100002)) hx hb hr (fun t ht hW => ⟨⟨_, (), rfl, trivial, uq, lq, wq, pq, dq, by rw [ht]; exact hP9, va_K.moved hW.alike hK9, hD9⟩, hS.F ht⟩) hS.2.2 dX9_count_272
              · refine lv_tableIn (tgt := 248) (off := 55) hx hb dX9_count_193 (by decide) (by decide) (by decide) (by decide) ?_
                refine lv_aload_n hx hb dX9_count_248 rfl (lv_at hl 0 rfl) ?_
                refine va_get (D := (dC, dI)) (ci := 9) (v := .int th) (C := RX9) (T := TX9) (N := 22) hx hb hts in_X9_count_X9 hown hK hP 0 rfl rfl 0 (by decide) (hts (.fieldLink RX9 59 "MeetingsAboveModel" "things" "I") (by decide +kernel)) (fun _ h9 => h9) rfl dX9_count_249 ?_
                have hP9 := hP.sub (ws' := [(h0, .inr (9, [.int th, .ref a1, .ref a2, .ref a3, .ref a4, .ref a5, .int ne, .int wi, .int dn, .ref a6, .ref a7, .int nn, .ref a8, .int la, .ref a9, .ref a10, .long uq, .long lq, .int wq, .long pq, .long dq, .ref a11])), (a1, .inl (cI, 16, .inl Fi)), (a2, .inl (cI, 16, .inl Ma)), (a3, .inl (cI, 16, .inl Db)), (a4, .inl (cZ, 16, .inl Go)), (a5, .inl (cI, 576, .inl Sp)), (a6, .inl (cI, 40, .inl Ds)), (a7, .inl (cI, 120, .inl Dp)), (a8, .inl (cI, 320, .inl No))]) [0, 1, 2, 3, 4, 5, 6, 7, 8] rfl
                have hD9 := hD.sub (ws' := [(h0, .inr (9, [.int th, .ref a1, .ref a2, .ref a3, .ref a4, .ref a5, .int ne, .int wi, .int dn, .ref a6, .ref a7, .int nn, .ref a8, .int la, .ref a9, .ref a10, .long uq, .long lq, .int wq, .long pq, .long dq, .ref a11])), (a1, .inl (cI, 16, .inl Fi)), (a2, .inl (cI, 16, .inl Ma)), (a3, .inl (cI, 16, .inl Db)), (a4, .inl (cZ, 16, .inl Go)), (a5, .inl (cI, 576, .inl Sp)), (a6, .inl (cI, 40, .inl Ds)), (a7, .inl (cI, 120, .inl Dp)), (a8, .inl (cI, 320, .inl No))]) [0, 1, 2, 3, 4, 5, 6, 7, 8] (by decide) rfl
                have hK9 := hK.sub (tys' := [(cI, .int), (cZ, .boolean)]) [0, 1] rfl
                refine W.widen (k := 0) (n := 0) (by omega) (by omega) ?_
                exact W.iret (v := th) hx hb hr (fun t ht hW => ⟨⟨_, (), rfl, trivial, uq, lq, wq, pq, dq, by rw [ht]; exact hP9, va_K.moved hW.alike hK9, hD9⟩, hS.F ht⟩) hS.2.2 dX9_count_252
              · refine lv_tableIn (tgt := 268) (off := 75) hx hb dX9_count_193 (by decide) (by decide) (by decide) (by decide) ?_
                refine lv_iload_n hx hb dX9_count_268 rfl (lv_at hl 2 rfl) ?_
                have hP9 := hP.sub (ws' := [(h0, .inr (9, [.int th, .ref a1, .ref a2, .ref a3, .ref a4, .ref a5, .int ne, .int wi, .int dn, .ref a6, .ref a7, .int nn, .ref a8, .int la, .ref a9, .ref a10, .long uq, .long lq, .int wq, .long pq, .long dq, .ref a11])), (a1, .inl (cI, 16, .inl Fi)), (a2, .inl (cI, 16, .inl Ma)), (a3, .inl (cI, 16, .inl Db)), (a4, .inl (cZ, 16, .inl Go)), (a5, .inl (cI, 576, .inl Sp)), (a6, .inl (cI, 40, .inl Ds)), (a7, .inl (cI, 120, .inl Dp)), (a8, .inl (cI, 320, .inl No))]) [0, 1, 2, 3, 4, 5, 6, 7, 8] rfl
                have hD9 := hD.sub (ws' := [(h0, .inr (9, [.int th, .ref a1, .ref a2, .ref a3, .ref a4, .ref a5, .int ne, .int wi, .int dn, .ref a6, .ref a7, .int nn, .ref a8, .int la, .ref a9, .ref a10, .long uq, .long lq, .int wq, .long pq, .long dq, .ref a11])), (a1, .inl (cI, 16, .inl Fi)), (a2, .inl (cI, 16, .inl Ma)), (a3, .inl (cI, 16, .inl Db)), (a4, .inl (cZ, 16, .inl Go)), (a5, .inl (cI, 576, .inl Sp)), (a6, .inl (cI, 40, .inl Ds)), (a7, .inl (cI, 120, .inl Dp)), (a8, .inl (cI, 320, .inl No))]) [0, 1, 2, 3, 4, 5, 6, 7, 8] (by decide) rfl
                have hK9 := hK.sub (tys' := [(cI, .int), (cZ, .boolean)]) [0, 1] rfl
                refine W.widen (k := 0) (n := 0) (by omega) (by omega) ?_
                exact W.iret (v := n6) hx hb hr (fun t ht hW => ⟨⟨_, (), rfl, trivial, uq, lq, wq, pq, dq, by rw [ht]; exact hP9, va_K.moved hW.alike hK9, hD9⟩, hS.F ht⟩) hS.2.2 dX9_count_269
              · refine lv_tableIn (tgt := 268) (off := 75) hx hb dX9_count_193 (by decide) (by decide) (by decide) (by decide) ?_
                refine lv_iload_n hx hb dX9_count_268 rfl (lv_at hl 2 rfl) ?_
                have hP9 := hP.sub (ws' := [(h0, .inr (9, [.int th, .ref a1, .ref a2, .ref a3, .ref a4, .ref a5, .int ne, .int wi, .int dn, .ref a6, .ref a7, .int nn, .ref a8, .int la, .ref a9, .ref a10, .long uq, .long lq, .int wq, .long pq, .long dq, .ref a11])), (a1, .inl (cI, 16, .inl Fi)), (a2, .inl (cI, 16, .inl Ma)), (a3, .inl (cI, 16, .inl Db)), (a4, .inl (cZ, 16, .inl Go)), (a5, .inl (cI, 576, .inl Sp)), (a6, .inl (cI, 40, .inl Ds)), (a7, .inl (cI, 120, .inl Dp)), (a8, .inl (cI, 320, .inl No))]) [0, 1, 2, 3, 4, 5, 6, 7, 8] rfl
                have hD9 := hD.sub (ws' := [(h0, .inr (9, [.int th, .ref a1, .ref a2, .ref a3, .ref a4, .ref a5, .int ne, .int wi, .int dn, .ref a6, .ref a7, .int nn, .ref a8, .int la, .ref a9, .ref a10, .long uq, .long lq, .int wq, .long pq, .long dq, .ref a11])), (a1, .inl (cI, 16, .inl Fi)), (a2, .inl (cI, 16, .inl Ma)), (a3, .inl (cI, 16, .inl Db)), (a4, .inl (cZ, 16, .inl Go)), (a5, .inl (cI, 576, .inl Sp)), (a6, .inl (cI, 40, .inl Ds)), (a7, .inl (cI, 120, .inl Dp)), (a8, .inl (cI, 320, .inl No))]) [0, 1, 2, 3, 4, 5, 6, 7, 8] (by decide) rfl
                have hK9 := hK.sub (tys' := [(cI, .int), (cZ, .boolean)]) [0, 1] rfl
                refine W.widen (k := 0) (n := 0) (by omega) (by omega) ?_
                exact W.iret (v := n6) hx hb hr (fun t ht hW => ⟨⟨_, (), rfl, trivial, uq, lq, wq, pq, dq, by rw [ht]; exact hP9, va_K.moved hW.alike hK9, hD9⟩, hS.F ht⟩) hS.2.2 dX9_count_269
              · refine lv_tableIn (tgt := 253) (off := 60) hx hb dX9_count_193 (by decide) (by decide) (by decide) (by decide) ?_
                refine lv_aload_n hx hb dX9_count_253 rfl (lv_at hl 0 rfl) ?_
                refine va_get (D := (dC, dI)) (ci := 9) (v := .int dn) (C := RX9) (T := TX9) (N := 22) hx hb hts in_X9_count_X9 hown hK hP 0 rfl rfl 8 (by decide) (hts (.fieldLink RX9 109 "MeetingsAboveModel" "dots" "I") (by decide +kernel)) (fun _ h9 => h9) rfl dX9_count_254 ?_
                have hP9 := hP.sub (ws' := [(h0, .inr (9, [.int th, .ref a1, .ref a2, .ref a3, .ref a4, .ref a5, .int ne, .int wi, .int dn, .ref a6, .ref a7, .int nn, .ref a8, .int la, .ref a9, .ref a10, .long uq, .long lq, .int wq, .long pq, .long dq, .ref a11])), (a1, .inl (cI, 16, .inl Fi)), (a2, .inl (cI, 16, .inl Ma)), (a3, .inl (cI, 16, .inl Db)), (a4, .inl (cZ, 16, .inl Go)), (a5, .inl (cI, 576, .inl Sp)), (a6, .inl (cI, 40, .inl Ds)), (a7, .inl (cI, 120, .inl Dp)), (a8, .inl (cI, 320, .inl No))]) [0, 1, 2, 3, 4, 5, 6, 7, 8] rfl
                have hD9 := hD.sub (ws' := [(h0, .inr (9, [.int th, .ref a1, .ref a2, .ref a3, .ref a4, .ref a5, .int ne, .int wi, .int dn, .ref a6, .ref a7, .int nn, .ref a8, .int la, .ref a9, .ref a10, .long uq, .long lq, .int wq, .long pq, .long dq, .ref a11])), (a1, .inl (cI, 16, .inl Fi)), (a2, .inl (cI, 16, .inl Ma)), (a3, .inl (cI, 16, .inl Db)), (a4, .inl (cZ, 16, .inl Go)), (a5, .inl (cI, 576, .inl Sp)), (a6, .inl (cI, 40, .inl Ds)), (a7, .inl (cI, 120, .inl Dp)), (a8, .inl (cI, 320, .inl No))]) [0, 1, 2, 3, 4, 5, 6, 7, 8] (by decide) rfl
                have hK9 := hK.sub (tys' := [(cI, .int), (cZ, .boolean)]) [0, 1] rfl
                refine W.widen (k := 0) (n := 0) (by omega) (by omega) ?_
                exact W.iret (v := dn) hx hb hr (fun t ht hW => ⟨⟨_, (), rfl, trivial, uq, lq, wq, pq, dq, by rw [ht]; exact hP9, va_K.moved hW.alike hK9, hD9⟩, hS.F ht⟩) hS.2.2 dX9_count_257
              · refine lv_tableIn (tgt := 268) (off := 75) hx hb dX9_count_193 (by decide) (by decide) (by decide) (by decide) ?_
                refine lv_iload_n hx hb dX9_count_268 rfl (lv_at hl 2 rfl) ?_
                have hP9 := hP.sub (ws' := [(h0, .inr (9, [.int th, .ref a1, .ref a2, .ref a3, .ref a4, .ref a5, .int ne, .int wi, .int dn, .ref a6, .ref a7, .int nn, .ref a8, .int la, .ref a9, .ref a10, .long uq, .long lq, .int wq, .long pq, .long dq, .ref a11])), (a1, .inl (cI, 16, .inl Fi)), (a2, .inl (cI, 16, .inl Ma)), (a3, .inl (cI, 16, .inl Db)), (a4, .inl (cZ, 16, .inl Go)), (a5, .inl (cI, 576, .inl Sp)), (a6, .inl (cI, 40, .inl Ds)), (a7, .inl (cI, 120, .inl Dp)), (a8, .inl (cI, 320, .inl No))]) [0, 1, 2, 3, 4, 5, 6, 7, 8] rfl
                have hD9 := hD.sub (ws' := [(h0, .inr (9, [.int th, .ref a1, .ref a2, .ref a3, .ref a4, .ref a5, .int ne, .int wi, .int dn, .ref a6, .ref a7, .int nn, .ref a8, .int la, .ref a9, .ref a10, .long uq, .long lq, .int wq, .long pq, .long dq, .ref a11])), (a1, .inl (cI, 16, .inl Fi)), (a2, .inl (cI, 16, .inl Ma)), (a3, .inl (cI, 16, .inl Db)), (a4, .inl (cZ, 16, .inl Go)), (a5, .inl (cI, 576, .inl Sp)), (a6, .inl (cI, 40, .inl Ds)), (a7, .inl (cI, 120, .inl Dp)), (a8, .inl (cI, 320, .inl No))]) [0, 1, 2, 3, 4, 5, 6, 7, 8] (by decide) rfl
                have hK9 := hK.sub (tys' := [(cI, .int), (cZ, .boolean)]) [0, 1] rfl
                refine W.widen (k := 0) (n := 0) (by omega) (by omega) ?_
                exact W.iret (v := n6) hx hb hr (fun t ht hW => ⟨⟨_, (), rfl, trivial, uq, lq, wq, pq, dq, by rw [ht]; exact hP9, va_K.moved hW.alike hK9, hD9⟩, hS.F ht⟩) hS.2.2 dX9_count_269
              · refine lv_tableIn (tgt := 268) (off := 75) hx hb dX9_count_193 (by decide) (by decide) (by decide) (by decide) ?_
                refine lv_iload_n hx hb dX9_count_268 rfl (lv_at hl 2 rfl) ?_
                have hP9 := hP.sub (ws' := [(h0, .inr (9, [.int th, .ref a1, .ref a2, .ref a3, .ref a4, .ref a5, .int ne, .int wi, .int dn, .ref a6, .ref a7, .int nn, .ref a8, .int la, .ref a9, .ref a10, .long uq, .long lq, .int wq, .long pq, .long dq, .ref a11])), (a1, .inl (cI, 16, .inl Fi)), (a2, .inl (cI, 16, .inl Ma)), (a3, .inl (cI, 16, .inl Db)), (a4, .inl (cZ, 16, .inl Go)), (a5, .inl (cI, 576, .inl Sp)), (a6, .inl (cI, 40, .inl Ds)), (a7, .inl (cI, 120, .inl Dp)), (a8, .inl (cI, 320, .inl No))]) [0, 1, 2, 3, 4, 5, 6, 7, 8] rfl
                have hD9 := hD.sub (ws' := [(h0, .inr (9, [.int th, .ref a1, .ref a2, .ref a3, .ref a4, .ref a5, .int ne, .int wi, .int dn, .ref a6, .ref a7, .int nn, .ref a8, .int la, .ref a9, .ref a10, .long uq, .long lq, .int wq, .long pq, .long dq, .ref a11])), (a1, .inl (cI, 16, .inl Fi)), (a2, .inl (cI, 16, .inl Ma)), (a3, .inl (cI, 16, .inl Db)), (a4, .inl (cZ, 16, .inl Go)), (a5, .inl (cI, 576, .inl Sp)), (a6, .inl (cI, 40, .inl Ds)), (a7, .inl (cI, 120, .inl Dp)), (a8, .inl (cI, 320, .inl No))]) [0, 1, 2, 3, 4, 5, 6, 7, 8] (by decide) rfl
                have hK9 := hK.sub (tys' := [(cI, .int), (cZ, .boolean)]) [0, 1] rfl
                refine W.widen (k := 0) (n := 0) (by omega) (by omega) ?_
                exact W.iret (v := n6) hx hb hr (fun t ht hW => ⟨⟨_, (), rfl, trivial, uq, lq, wq, pq, dq, by rw [ht]; exact hP9, va_K.moved hW.alike hK9, hD9⟩, hS.F ht⟩) hS.2.2 dX9_count_269
              · refine lv_tableIn (tgt := 268) (off := 75) hx hb dX9_count_193 (by decide) (by decide) (by decide) (by decide) ?_
                refine lv_iload_n hx hb dX9_count_268 rfl (lv_at hl 2 rfl) ?_
                have hP9 := hP.sub (ws' := [(h0, .inr (9, [.int th, .ref a1, .ref a2, .ref a3, .ref a4, .ref a5, .int ne, .int wi, .int dn, .ref a6, .ref a7, .int nn, .ref a8, .int la, .ref a9, .ref a10, .long uq, .long lq, .int wq, .long pq, .long dq, .ref a11])), (a1, .inl (cI, 16, .inl Fi)), (a2, .inl (cI, 16, .inl Ma)), (a3, .inl (cI, 16, .inl Db)), (a4, .inl (cZ, 16, .inl Go)), (a5, .inl (cI, 576, .inl Sp)), (a6, .inl (cI, 40, .inl Ds)), (a7, .inl (cI, 120, .inl Dp)), (a8, .inl (cI, 320, .inl No))]) [0, 1, 2, 3, 4, 5, 6, 7, 8] rfl
                have hD9 := hD.sub (ws' := [(h0, .inr (9, [.int th, .ref a1, .ref a2, .ref a3, .ref a4, .ref a5, .int ne, .int wi, .int dn, .ref a6, .ref a7, .int nn, .ref a8, .int la, .ref a9, .ref a10, .long uq, .long lq, .int wq, .long pq, .long dq, .ref a11])), (a1, .inl (cI, 16, .inl Fi)), (a2, .inl (cI, 16, .inl Ma)), (a3, .inl (cI, 16, .inl Db)), (a4, .inl (cZ, 16, .inl Go)), (a5, .inl (cI, 576, .inl Sp)), (a6, .inl (cI, 40, .inl Ds)), (a7, .inl (cI, 120, .inl Dp)), (a8, .inl (cI, 320, .inl No))]) [0, 1, 2, 3, 4, 5, 6, 7, 8] (by decide) rfl
                have hK9 := hK.sub (tys' := [(cI, .int), (cZ, .boolean)]) [0, 1] rfl
                refine W.widen (k := 0) (n := 0) (by omega) (by omega) ?_
                exact W.iret (v := n6) hx hb hr (fun t ht hW => ⟨⟨_, (), rfl, trivial, uq, lq, wq, pq, dq, by rw [ht]; exact hP9, va_K.moved hW.alike hK9, hD9⟩, hS.F ht⟩) hS.2.2 dX9_count_269
              · refine lv_tableIn (tgt := 258) (off := 65) hx hb dX9_count_193 (by decide) (by decide) (by decide) (by decide) ?_
                refine lv_aload_n hx hb dX9_count_258 rfl (lv_at hl 0 rfl) ?_
                refine va_get (D := (dC, dI)) (ci := 9) (v := .int nn) (C := RX9) (T := TX9) (N := 22) hx hb hts in_X9_count_X9 hown hK hP 0 rfl rfl 11 (by decide) (hts (.fieldLink RX9 115 "MeetingsAboveModel" "notices" "I") (by decide +kernel)) (fun _ h9 => h9) rfl dX9_count_259 ?_
                have hP9 := hP.sub (ws' := [(h0, .inr (9, [.int th, .ref a1, .ref a2, .ref a3, .ref a4, .ref a5, .int ne, .int wi, .int dn, .ref a6, .ref a7, .int nn, .ref a8, .int la, .ref a9, .ref a10, .long uq, .long lq, .int wq, .long pq, .long dq, .ref a11])), (a1, .inl (cI, 16, .inl Fi)), (a2, .inl (cI, 16, .inl Ma)), (a3, .inl (cI, 16, .inl Db)), (a4, .inl (cZ, 16, .inl Go)), (a5, .inl (cI, 576, .inl Sp)), (a6, .inl (cI, 40, .inl Ds)), (a7, .inl (cI, 120, .inl Dp)), (a8, .inl (cI, 320, .inl No))]) [0, 1, 2, 3, 4, 5, 6, 7, 8] rfl
                have hD9 := hD.sub (ws' := [(h0, .inr (9, [.int th, .ref a1, .ref a2, .ref a3, .ref a4, .ref a5, .int ne, .int wi, .int dn, .ref a6, .ref a7, .int nn, .ref a8, .int la, .ref a9, .ref a10, .long uq, .long lq, .int wq, .long pq, .long dq, .ref a11])), (a1, .inl (cI, 16, .inl Fi)), (a2, .inl (cI, 16, .inl Ma)), (a3, .inl (cI, 16, .inl Db)), (a4, .inl (cZ, 16, .inl Go)), (a5, .inl (cI, 576, .inl Sp)), (a6, .inl (cI, 40, .inl Ds)), (a7, .inl (cI, 120, .inl Dp)), (a8, .inl (cI, 320, .inl No))]) [0, 1, 2, 3, 4, 5, 6, 7, 8] (by decide) rfl
                have hK9 := hK.sub (tys' := [(cI, .int), (cZ, .boolean)]) [0, 1] rfl
                refine W.widen (k := 0) (n := 0) (by omega) (by omega) ?_
                exact W.iret (v := nn) hx hb hr (fun t ht hW => ⟨⟨_, (), rfl, trivial, uq, lq, wq, pq, dq, by rw [ht]; exact hP9, va_K.moved hW.alike hK9, hD9⟩, hS.F ht⟩) hS.2.2 dX9_count_262
              · refine lv_tableIn (tgt := 268) (off := 75) hx hb dX9_count_193 (by decide) (by decide) (by decide) (by decide) ?_
                refine lv_iload_n hx hb dX9_count_268 rfl (lv_at hl 2 rfl) ?_
                have hP9 := hP.sub (ws' := [(h0, .inr (9, [.int th, .ref a1, .ref a2, .ref a3, .ref a4, .ref a5, .int ne, .int wi, .int dn, .ref a6, .ref a7, .int nn, .ref a8, .int la, .ref a9, .ref a10, .long uq, .long lq, .int wq, .long pq, .long dq, .ref a11])), (a1, .inl (cI, 16, .inl Fi)), (a2, .inl (cI, 16, .inl Ma)), (a3, .inl (cI, 16, .inl Db)), (a4, .inl (cZ, 16, .inl Go)), (a5, .inl (cI, 576, .inl Sp)), (a6, .inl (cI, 40, .inl Ds)), (a7, .inl (cI, 120, .inl Dp)), (a8, .inl (cI, 320, .inl No))]) [0, 1, 2, 3, 4, 5, 6, 7, 8] rfl
                have hD9 := hD.sub (ws' := [(h0, .inr (9, [.int th, .ref a1, .ref a2, .ref a3, .ref a4, .ref a5, .int ne, .int wi, .int dn, .ref a6, .ref a7, .int nn, .ref a8, .int la, .ref a9, .ref a10, .long uq, .long lq, .int wq, .long pq, .long dq, .ref a11])), (a1, .inl (cI, 16, .inl Fi)), (a2, .inl (cI, 16, .inl Ma)), (a3, .inl (cI, 16, .inl Db)), (a4, .inl (cZ, 16, .inl Go)), (a5, .inl (cI, 576, .inl Sp)), (a6, .inl (cI, 40, .inl Ds)), (a7, .inl (cI, 120, .inl Dp)), (a8, .inl (cI, 320, .inl No))]) [0, 1, 2, 3, 4, 5, 6, 7, 8] (by decide) rfl
                have hK9 := hK.sub (tys' := [(cI, .int), (cZ, .boolean)]) [0, 1] rfl
                refine W.widen (k := 0) (n := 0) (by omega) (by omega) ?_
                exact W.iret (v := n6) hx hb hr (fun t ht hW => ⟨⟨_, (), rfl, trivial, uq, lq, wq, pq, dq, by rw [ht]; exact hP9, va_K.moved hW.alike hK9, hD9⟩, hS.F ht⟩) hS.2.2 dX9_count_269
              · refine lv_tableIn (tgt := 263) (off := 70) hx hb dX9_count_193 (by decide) (by decide) (by decide) (by decide) ?_
                refine lv_aload_n hx hb dX9_count_263 rfl (lv_at hl 0 rfl) ?_
                refine va_get (D := (dC, dI)) (ci := 9) (v := .int la) (C := RX9) (T := TX9) (N := 22) hx hb hts in_X9_count_X9 hown hK hP 0 rfl rfl 13 (by decide) (hts (.fieldLink RX9 118 "MeetingsAboveModel" "late" "I") (by decide +kernel)) (fun _ h9 => h9) rfl dX9_count_264 ?_
                have hP9 := hP.sub (ws' := [(h0, .inr (9, [.int th, .ref a1, .ref a2, .ref a3, .ref a4, .ref a5, .int ne, .int wi, .int dn, .ref a6, .ref a7, .int nn, .ref a8, .int la, .ref a9, .ref a10, .long uq, .long lq, .int wq, .long pq, .long dq, .ref a11])), (a1, .inl (cI, 16, .inl Fi)), (a2, .inl (cI, 16, .inl Ma)), (a3, .inl (cI, 16, .inl Db)), (a4, .inl (cZ, 16, .inl Go)), (a5, .inl (cI, 576, .inl Sp)), (a6, .inl (cI, 40, .inl Ds)), (a7, .inl (cI, 120, .inl Dp)), (a8, .inl (cI, 320, .inl No))]) [0, 1, 2, 3, 4, 5, 6, 7, 8] rfl
                have hD9 := hD.sub (ws' := [(h0, .inr (9, [.int th, .ref a1, .ref a2, .ref a3, .ref a4, .ref a5, .int ne, .int wi, .int dn, .ref a6, .ref a7, .int nn, .ref a8, .int la, .ref a9, .ref a10, .long uq, .long lq, .int wq, .long pq, .long dq, .ref a11])), (a1, .inl (cI, 16, .inl Fi)), (a2, .inl (cI, 16, .inl Ma)), (a3, .inl (cI, 16, .inl Db)), (a4, .inl (cZ, 16, .inl Go)), (a5, .inl (cI, 576, .inl Sp)), (a6, .inl (cI, 40, .inl Ds)), (a7, .inl (cI, 120, .inl Dp)), (a8, .inl (cI, 320, .inl No))]) [0, 1, 2, 3, 4, 5, 6, 7, 8] (by decide) rfl
                have hK9 := hK.sub (tys' := [(cI, .int), (cZ, .boolean)]) [0, 1] rfl
                refine W.widen (k := 0) (n := 0) (by omega) (by omega) ?_
                exact W.iret (v := la) hx hb hr (fun t ht hW => ⟨⟨_, (), rfl, trivial, uq, lq, wq, pq, dq, by rw [ht]; exact hP9, va_K.moved hW.alike hK9, hD9⟩, hS.F ht⟩) hS.2.2 dX9_count_267
            · have t_154 := mt (fa_le _ _).mpr c_154
              refine lv_iload_n hx hb dX9_count_157 rfl (lv_at hl 2 rfl) ?_
              refine lv_iload_n hx hb dX9_count_158 rfl (lv_at hl 1 rfl) ?_
              refine lv_bipush (v := 8) hx hb dX9_count_159 (by decide) ?_
              refine lv_icmp_ne (tgt := 183) hx hb dX9_count_161 (by decide) (fun c_161 => ?_) (fun c_161 => ?_)
              · have t_161 := mt (fa_eq _ _).mpr c_161
                refine lv_iconst (v := 0) hx hb dX9_count_183 (by decide) ?_
                refine lv_iadd hx hb dX9_count_184 ?_
                refine lv_topi (fun y_1 ey_1 => ?_)
                refine lv_istore_n (lv' := [(2, .int y_1), (0, .ref h0), (1, .int p1), (3, .int k3)]) hx hb dX9_count_185 rfl hl (by decide) rfl (fun ls hl => ?_)
                obtain ⟨y_2, ey_2⟩ : ∃ y : Int32, y = k3 + 1 := ⟨_, rfl⟩
                have ty_2 : y_2.toInt = k3.toInt + 1 := by rw [ey_2]; have := fb_addI (x := k3) (y := 1) (by omega) (by omega); omega
                refine lv_iinc (v := y_2) (lv' := [(3, .int y_2), (2, .int y_1), (0, .ref h0), (1, .int p1)]) hx hb dX9_count_186 hl (k := 3) rfl (by rw [ey_2]; rfl) (by decide) rfl (fun ls hl => ?_)
                refine lv_goto (tgt := 149) hx hb dX9_count_189 (by decide) ?_
                exact ih_149 y_1 y_2 (by omega) (by omega) (by omega) H _ (hP.sub [0, 1, 2, 3, 4, 5, 6, 7, 8] rfl) (hD.sub [0, 1, 2, 3, 4, 5, 6, 7, 8] (by decide) rfl) hS ls (lv_sub hl [2, 3, 1, 0] rfl)
              · have t_161 := (fa_eq _ _).mp c_161
                refine lv_aload_n hx hb dX9_count_164 rfl (lv_at hl 0 rfl) ?_
                refine va_get (D := (dC, dI)) (ci := 9) (v := .ref a8) (C := RX9) (T := TX9) (N := 22) hx hb hts in_X9_count_X9 hown hK hP 0 rfl rfl 12 (by decide) (hts (.fieldLink RX9 39 "MeetingsAboveModel" "noted" "[I") (by decide +kernel)) (fun _ h9 => h9) rfl dX9_count_165 ?_
                refine lv_bipush (v := 8) hx hb dX9_count_168 (by decide) ?_
                refine lv_iload_n hx hb dX9_count_170 rfl (lv_at hl 3 rfl) ?_
                refine lv_imul hx hb dX9_count_171 ?_
                refine lv_topi (fun y_3 ey_3 => ?_)
                have ty_3 : y_3.toInt = 8 * k3.toInt := by rw [ey_3]; exact fm_lI kl_8 (by omega) (by omega)
                refine lv_iconst (v := 5) hx hb dX9_count_172 (by decide) ?_
                refine lv_iadd hx hb dX9_count_173 ?_
                refine lv_topi (fun y_4 ey_4 => ?_)
                have ty_4 : y_4.toInt = y_3.toInt + 5 := by rw [ey_4]; have := fb_addI (x := y_3) (y := 5) (by omega) (by omega); omega
                refine va_iald hx hb hK hP 8 0 rfl rfl (vp_in_iff.mpr ⟨by omega, by omega⟩) dX9_count_174 ?_
                refine lv_topi (fun y_5 ey_5 => ?_)
                refine lv_iconst (v := 1) hx hb dX9_count_175 (by decide) ?_
                refine lv_icmp_ne (tgt := 183) hx hb dX9_count_176 (by decide) (fun c_176 => ?_) (fun c_176 => ?_)
                · have t_176 := mt (fa_eq _ _).mpr c_176
                  refine lv_iconst (v := 0) hx hb dX9_count_183 (by decide) ?_
                  refine lv_iadd hx hb dX9_count_184 ?_
                  refine lv_topi (fun y_6 ey_6 => ?_)
                  refine lv_istore_n (lv' := [(2, .int y_6), (0, .ref h0), (1, .int p1), (3, .int k3)]) hx hb dX9_count_185 rfl hl (by decide) rfl (fun ls hl => ?_)
                  obtain ⟨y_7, ey_7⟩ : ∃ y : Int32, y = k3 + 1 := ⟨_, rfl⟩
                  have ty_7 : y_7.toInt = k3.toInt + 1 := by rw [ey_7]; have := fb_addI (x := k3) (y := 1) (by omega) (by omega); omega
                  refine lv_iinc (v := y_7) (lv' := [(3, .int y_7), (2, .int y_6), (0, .ref h0), (1, .int p1)]) hx hb dX9_count_186 hl (k := 3) rfl (by rw [ey_7]; rfl) (by decide) rfl (fun ls hl => ?_)
                  refine lv_goto (tgt := 149) hx hb dX9_count_189 (by decide) ?_
                  exact ih_149 y_6 y_7 (by omega) (by omega) (by omega) H _ (hP.sub [0, 1, 2, 3, 4, 5, 6, 7, 8] rfl) (hD.sub [0, 1, 2, 3, 4, 5, 6, 7, 8] (by decide) rfl) hS ls (lv_sub hl [2, 3, 1, 0] rfl)
                · have t_176 := (fa_eq _ _).mp c_176
                  refine lv_iconst (v := 1) hx hb dX9_count_179 (by decide) ?_
                  refine lv_goto (tgt := 184) hx hb dX9_count_180 (by decide) ?_
                  refine lv_iadd hx hb dX9_count_184 ?_
                  refine lv_topi (fun y_8 ey_8 => ?_)
                  refine lv_istore_n (lv' := [(2, .int y_8), (0, .ref h0), (1, .int p1), (3, .int k3)]) hx hb dX9_count_185 rfl hl (by decide) rfl (fun ls hl => ?_)
                  obtain ⟨y_9, ey_9⟩ : ∃ y : Int32, y = k3 + 1 := ⟨_, rfl⟩
                  have ty_9 : y_9.toInt = k3.toInt + 1 := by rw [ey_9]; have := fb_addI (x := k3) (y := 1) (by omega) (by omega); omega
                  refine lv_iinc (v := y_9) (lv' := [(3, .int y_9), (2, .int y_8), (0, .ref h0), (1, .int p1)]) hx hb dX9_count_186 hl (k := 3) rfl (by rw [ey_9]; rfl) (by decide) rfl (fun ls hl => ?_)
                  refine lv_goto (tgt := 149) hx hb dX9_count_189 (by decide) ?_
                  exact ih_149 y_8 y_9 (by omega) (by omega) (by omega) H _ (hP.sub [0, 1, 2, 3, 4, 5, 6, 7, 8] rfl) (hD.sub [0, 1, 2, 3, 4, 5, 6, 7, 8] (by decide) rfl) hS ls (lv_sub hl [2, 3, 1, 0] rfl)
        · have t_90 := mt (fa_le _ _).mpr c_90
          refine lv_aload_n hx hb dX9_count_93 rfl (lv_at hl 0 rfl) ?_
          refine lv_iload_n hx hb dX9_count_94 rfl (lv_at hl 3 rfl) ?_
          have hPc := hP.sub (ws' := [(h0, .inr (9, [.int th, .ref a1, .ref a2, .ref a3, .ref a4, .ref a5, .int ne, .int wi, .int dn, .ref a6, .ref a7, .int nn, .ref a8, .int la, .ref a9, .ref a10, .long uq, .long lq, .int wq, .long pq, .long dq, .ref a11])), (a1, .inl (cI, 16, .inl Fi)), (a2, .inl (cI, 16, .inl Ma)), (a3, .inl (cI, 16, .inl Db)), (a4, .inl (cZ, 16, .inl Go)), (a5, .inl (cI, 576, .inl Sp)), (a6, .inl (cI, 40, .inl Ds)), (a7, .inl (cI, 120, .inl Dp))]) [0, 1, 2, 3, 4, 5, 6, 7] rfl
          have hKc := hK.sub (tys' := [(cI, .int), (cZ, .boolean)]) [0, 1] rfl
          refine vp_callSi (W.runV (As := [.int d3]) (rest := []) ⟨hx, hb, hml, hown, hts⟩ (c_X9_dotOf l dC dI h0 a1 a2 a3 a4 a5 a6 a7 a8 a9 a10 a11 th ne wi dn nn la wq uq lq pq dq cI cZ Fi Ma Db Go Sp Ds Dp d3 (by first | assumption | omega) (by first | omega | assumption) (by first | omega | assumption)) (cwV 1 hts g_X9_count__X9_dotOf_112 rfl rfl rfl (by decide +kernel) ⟨Nat.le_of_ble_eq_true rfl, Nat.le_of_ble_eq_true rfl⟩) ⟨fun a U g mk q => by obtain ⟨q0, qP, qK⟩ := q; exact ⟨q0, qP, va_K.moved (u := U) (U := U.calling g mk a) (Vm.Alike.refl U.vm) qK⟩, va_recv hKc hPc (ci := 9) (q0 := 0) rfl rfl, fun U hU hW => ⟨rfl, by rw [hU]; exact hPc, va_K.moved hW.alike hKc⟩⟩ rfl rfl hl.1 rfl (lv_room (Nat.le_of_ble_eq_true rfl)) dX9_count_95 ⟨Nat.le_of_ble_eq_true rfl, Nat.le_of_ble_eq_true rfl⟩) (fun r_10 hr_10 => ?_)
          try dsimp only at hr_10
          refine lv_istore (lv' := [(4, .int r_10), (0, .ref h0), (1, .int p1), (2, .int n5), (3, .int d3)]) hx hb dX9_count_98 hl (by decide) rfl (fun ls hl => ?_)
          refine lv_iload_n hx hb dX9_count_100 rfl (lv_at hl 3 rfl) ?_
          refine lv_iload_n hx hb dX9_count_101 rfl (lv_at hl 2 rfl) ?_
          refine lv_iconst (v := 4) hx hb dX9_count_102 (by decide) ?_
          refine lv_icmp_ne (tgt := 112) hx hb dX9_count_103 (by decide) (fun c_103 => ?_) (fun c_103 => ?_)
          · have t_103 := mt (fa_eq _ _).mpr c_103
            refine lv_iload_n hx hb dX9_count_112 rfl (lv_at hl 2 rfl) ?_
            refine lv_iconst (v := 5) hx hb dX9_count_113 (by decide) ?_
            refine lv_icmp_ne (tgt := 123) hx hb dX9_count_114 (by decide) (fun c_114 => ?_) (fun c_114 => ?_)
            · have t_114 := mt (fa_eq _ _).mpr c_114
              refine lv_iload_n hx hb dX9_count_123 rfl (lv_at hl 2 rfl) ?_
              refine lv_bipush (v := 6) hx hb dX9_count_124 (by decide) ?_
              refine lv_icmp_ne (tgt := 138) hx hb dX9_count_126 (by decide) (fun c_126 => ?_) (fun c_126 => ?_)
              · have t_126 := mt (fa_eq _ _).mpr c_126
                refine lv_iconst (v := 0) hx hb dX9_count_138 (by decide) ?_
                refine lv_iadd hx hb dX9_count_139 ?_
                refine lv_topi (fun y_11 ey_11 => ?_)
                refine lv_istore_n (lv' := [(2, .int y_11), (4, .int r_10), (0, .ref h0), (1, .int p1), (3, .int d3)]) hx hb dX9_count_140 rfl hl (by decide) rfl (fun ls hl => ?_)
                obtain ⟨y_12, ey_12⟩ : ∃ y : Int32, y = d3 + 1 := ⟨_, rfl⟩
                have ty_12 : y_12.toInt = d3.toInt + 1 := by rw [ey_12]; have := fb_addI (x := d3) (y := 1) (by omega) (by omega); omega
                refine lv_iinc (v := y_12) (lv' := [(3, .int y_12), (2, .int y_11), (4, .int r_10), (0, .ref h0), (1, .int p1)]) hx hb dX9_count_141 hl (k := 4) rfl (by rw [ey_12]; rfl) (by decide) rfl (fun ls hl => ?_)
                refine lv_goto (tgt := 85) hx hb dX9_count_144 (by decide) ?_
                exact ih_85 y_11 y_12 (by omega) (by omega) (by omega) H _ (hP.sub [0, 1, 2, 3, 4, 5, 6, 7, 8] rfl) (hD.sub [0, 1, 2, 3, 4, 5, 6, 7, 8] (by decide) rfl) hS ls (lv_sub hl [3, 4, 1, 0] rfl)
              · have t_126 := (fa_eq _ _).mp c_126
                refine lv_iload hx hb dX9_count_129 (lv_at hl 0 rfl) ?_
                refine lv_if_ne (tgt := 138) hx hb dX9_count_131 (by decide) (fun c_131 => ?_) (fun c_131 => ?_)
                · have t_131 := mt (fa_eq _ _).mpr c_131
                  refine lv_iconst (v := 0) hx hb dX9_count_138 (by decide) ?_
                  refine lv_iadd hx hb dX9_count_139 ?_
                  refine lv_topi (fun y_13 ey_13 => ?_)
                  refine lv_istore_n (lv' := [(2, .int y_13), (4, .int r_10), (0, .ref h0), (1, .int p1), (3, .int d3)]) hx hb dX9_count_140 rfl hl (by decide) rfl (fun ls hl => ?_)
                  obtain ⟨y_14, ey_14⟩ : ∃ y : Int32, y = d3 + 1 := ⟨_, rfl⟩
                  have ty_14 : y_14.toInt = d3.toInt + 1 := by rw [ey_14]; have := fb_addI (x := d3) (y := 1) (by omega) (by omega); omega
                  refine lv_iinc (v := y_14) (lv' := [(3, .int y_14), (2, .int y_13), (4, .int r_10), (0, .ref h0), (1, .int p1)]) hx hb dX9_count_141 hl (k := 4) rfl (by rw [ey_14]; rfl) (by decide) rfl (fun ls hl => ?_)
                  refine lv_goto (tgt := 85) hx hb dX9_count_144 (by decide) ?_
                  exact ih_85 y_13 y_14 (by omega) (by omega) (by omega) H _ (hP.sub [0, 1, 2, 3, 4, 5, 6, 7, 8] rfl) (hD.sub [0, 1, 2, 3, 4, 5, 6, 7, 8] (by decide) rfl) hS ls (lv_sub hl [3, 4, 1, 0] rfl)
                · have t_131 := (fa_eq _ _).mp c_131
                  refine lv_iconst (v := 1) hx hb dX9_count_134 (by decide) ?_
                  refine lv_goto (tgt := 139) hx hb dX9_count_135 (by decide) ?_
                  refine lv_iadd hx hb dX9_count_139 ?_
                  refine lv_topi (fun y_15 ey_15 => ?_)
                  refine lv_istore_n (lv' := [(2, .int y_15), (4, .int r_10), (0, .ref h0), (1, .int p1), (3, .int d3)]) hx hb dX9_count_140 rfl hl (by decide) rfl (fun ls hl => ?_)
                  obtain ⟨y_16, ey_16⟩ : ∃ y : Int32, y = d3 + 1 := ⟨_, rfl⟩
                  have ty_16 : y_16.toInt = d3.toInt + 1 := by rw [ey_16]; have := fb_addI (x := d3) (y := 1) (by omega) (by omega); omega
                  refine lv_iinc (v := y_16) (lv' := [(3, .int y_16), (2, .int y_15), (4, .int r_10), (0, .ref h0), (1, .int p1)]) hx hb dX9_count_141 hl (k := 4) rfl (by rw [ey_16]; rfl) (by decide) rfl (fun ls hl => ?_)
                  refine lv_goto (tgt := 85) hx hb dX9_count_144 (by decide) ?_
                  exact ih_85 y_15 y_16 (by omega) (by omega) (by omega) H _ (hP.sub [0, 1, 2, 3, 4, 5, 6, 7, 8] rfl) (hD.sub [0, 1, 2, 3, 4, 5, 6, 7, 8] (by decide) rfl) hS ls (lv_sub hl [3, 4, 1, 0] rfl)
            · have t_114 := (fa_eq _ _).mp c_114
              refine lv_iload hx hb dX9_count_117 (lv_at hl 0 rfl) ?_
              refine lv_iconst (v := 1) hx hb dX9_count_119 (by decide) ?_
              refine lv_icmp_gt (tgt := 134) hx hb dX9_count_120 (by decide) (fun c_120 => ?_) (fun c_120 => ?_)
              · have t_120 := (fa_lt _ _).mp c_120
                refine lv_iconst (v := 1) hx hb dX9_count_134 (by decide) ?_
                refine lv_goto (tgt := 139) hx hb dX9_count_135 (by decide) ?_
                refine lv_iadd hx hb dX9_count_139 ?_
                refine lv_topi (fun y_17 ey_17 => ?_)
                refine lv_istore_n (lv' := [(2, .int y_17), (4, .int r_10), (0, .ref h0), (1, .int p1), (3, .int d3)]) hx hb dX9_count_140 rfl hl (by decide) rfl (fun ls hl => ?_)
                obtain ⟨y_18, ey_18⟩ : ∃ y : Int32, y = d3 + 1 := ⟨_, rfl⟩
                have ty_18 : y_18.toInt = d3.toInt + 1 := by rw [ey_18]; have := fb_addI (x := d3) (y := 1) (by omega) (by omega); omega
                refine lv_iinc (v := y_18) (lv' := [(3, .int y_18), (2, .int y_17), (4, .int r_10), (0, .ref h0), (1, .int p1)]) hx hb dX9_count_141 hl (k := 4) rfl (by rw [ey_18]; rfl) (by decide) rfl (fun ls hl => ?_)
                refine lv_goto (tgt := 85) hx hb dX9_count_144 (by decide) ?_
                exact ih_85 y_17 y_18 (by omega) (by omega) (by omega) H _ (hP.sub [0, 1, 2, 3, 4, 5, 6, 7, 8] rfl) (hD.sub [0, 1, 2, 3, 4, 5, 6, 7, 8] (by decide) rfl) hS ls (lv_sub hl [3, 4, 1, 0] rfl)
              · have t_120 := mt (fa_lt _ _).mpr c_120
                refine lv_iload_n hx hb dX9_count_123 rfl (lv_at hl 2 rfl) ?_
                refine lv_bipush (v := 6) hx hb dX9_count_124 (by decide) ?_
                refine lv_icmp_ne (tgt := 138) hx hb dX9_count_126 (by decide) (fun c_126 => ?_) (fun c_126 => ?_)
                · have t_126 := mt (fa_eq _ _).mpr c_126
                  refine lv_iconst (v := 0) hx hb dX9_count_138 (by decide) ?_
                  refine lv_iadd hx hb dX9_count_139 ?_
                  refine lv_topi (fun y_19 ey_19 => ?_)
                  refine lv_istore_n (lv' := [(2, .int y_19), (4, .int r_10), (0, .ref h0), (1, .int p1), (3, .int d3)]) hx hb dX9_count_140 rfl hl (by decide) rfl (fun ls hl => ?_)
                  obtain ⟨y_20, ey_20⟩ : ∃ y : Int32, y = d3 + 1 := ⟨_, rfl⟩
                  have ty_20 : y_20.toInt = d3.toInt + 1 := by rw [ey_20]; have := fb_addI (x := d3) (y := 1) (by omega) (by omega); omega
                  refine lv_iinc (v := y_20) (lv' := [(3, .int y_20), (2, .int y_19), (4, .int r_10), (0, .ref h0), (1, .int p1)]) hx hb dX9_count_141 hl (k := 4) rfl (by rw [ey_20]; rfl) (by decide) rfl (fun ls hl => ?_)
                  refine lv_goto (tgt := 85) hx hb dX9_count_144 (by decide) ?_
                  exact ih_85 y_19 y_20 (by omega) (by omega) (by omega) H _ (hP.sub [0, 1, 2, 3, 4, 5, 6, 7, 8] rfl) (hD.sub [0, 1, 2, 3, 4, 5, 6, 7, 8] (by decide) rfl) hS ls (lv_sub hl [3, 4, 1, 0] rfl)
                · have t_126 := (fa_eq _ _).mp c_126
                  refine lv_iload hx hb dX9_count_129 (lv_at hl 0 rfl) ?_
                  refine lv_if_ne (tgt := 138) hx hb dX9_count_131 (by decide) (fun c_131 => ?_) (fun c_131 => ?_)
                  · have t_131 := mt (fa_eq _ _).mpr c_131
                    refine lv_iconst (v := 0) hx hb dX9_count_138 (by decide) ?_
                    refine lv_iadd hx hb dX9_count_139 ?_
                    refine lv_topi (fun y_21 ey_21 => ?_)
                    refine lv_istore_n (lv' := [(2, .int y_21), (4, .int r_10), (0, .ref h0), (1, .int p1), (3, .int d3)]) hx hb dX9_count_140 rfl hl (by decide) rfl (fun ls hl => ?_)
                    obtain ⟨y_22, ey_22⟩ : ∃ y : Int32, y = d3 + 1 := ⟨_, rfl⟩
                    have ty_22 : y_22.toInt = d3.toInt + 1 := by rw [ey_22]; have := fb_addI (x := d3) (y := 1) (by omega) (by omega); omega
                    refine lv_iinc (v := y_22) (lv' := [(3, .int y_22), (2, .int y_21), (4, .int r_10), (0, .ref h0), (1, .int p1)]) hx hb dX9_count_141 hl (k := 4) rfl (by rw [ey_22]; rfl) (by decide) rfl (fun ls hl => ?_)
                    refine lv_goto (tgt := 85) hx hb dX9_count_144 (by decide) ?_
                    exact ih_85 y_21 y_22 (by omega) (by omega) (by omega) H _ (hP.sub [0, 1, 2, 3, 4, 5, 6, 7, 8] rfl) (hD.sub [0, 1, 2, 3, 4, 5, 6, 7, 8] (by decide) rfl) hS ls (lv_sub hl [3, 4, 1, 0] rfl)
                  · have t_131 := (fa_eq _ _).mp c_131
                    refine lv_iconst (v := 1) hx hb dX9_count_134 (by decide) ?_
                    refine lv_goto (tgt := 139) hx hb dX9_count_135 (by decide) ?_
                    refine lv_iadd hx hb dX9_count_139 ?_
                    refine lv_topi (fun y_23 ey_23 => ?_)
                    refine lv_istore_n (lv' := [(2, .int y_23), (4, .int r_10), (0, .ref h0), (1, .int p1), (3, .int d3)]) hx hb dX9_count_140 rfl hl (by decide) rfl (fun ls hl => ?_)
                    obtain ⟨y_24, ey_24⟩ : ∃ y : Int32, y = d3 + 1 := ⟨_, rfl⟩
                    have ty_24 : y_24.toInt = d3.toInt + 1 := by rw [ey_24]; have := fb_addI (x := d3) (y := 1) (by omega) (by omega); omega
                    refine lv_iinc (v := y_24) (lv' := [(3, .int y_24), (2, .int y_23), (4, .int r_10), (0, .ref h0), (1, .int p1)]) hx hb dX9_count_141 hl (k := 4) rfl (by rw [ey_24]; rfl) (by decide) rfl (fun ls hl => ?_)
                    refine lv_goto (tgt := 85) hx hb dX9_count_144 (by decide) ?_
                    exact ih_85 y_23 y_24 (by omega) (by omega) (by omega) H _ (hP.sub [0, 1, 2, 3, 4, 5, 6, 7, 8] rfl) (hD.sub [0, 1, 2, 3, 4, 5, 6, 7, 8] (by decide) rfl) hS ls (lv_sub hl [3, 4, 1, 0] rfl)
          · have t_103 := (fa_eq _ _).mp c_103
            refine lv_iload hx hb dX9_count_106 (lv_at hl 0 rfl) ?_
            refine lv_iconst (v := 1) hx hb dX9_count_108 (by decide) ?_
            refine lv_icmp_eq (tgt := 134) hx hb dX9_count_109 (by decide) (fun c_109 => ?_) (fun c_109 => ?_)
            · have t_109 := (fa_eq _ _).mp c_109
              refine lv_iconst (v := 1) hx hb dX9_count_134 (by decide) ?_
              refine lv_goto (tgt := 139) hx hb dX9_count_135 (by decide) ?_
              refine lv_iadd hx hb dX9_count_139 ?_
              refine lv_topi (fun y_25 ey_25 => ?_)
              refine lv_istore_n (lv' := [(2, .int y_25), (4, .int r_10), (0, .ref h0), (1, .int p1), (3, .int d3)]) hx hb dX9_count_140 rfl hl (by decide) rfl (fun ls hl => ?_)
              obtain ⟨y_26, ey_26⟩ : ∃ y : Int32, y = d3 + 1 := ⟨_, rfl⟩
              have ty_26 : y_26.toInt = d3.toInt + 1 := by rw [ey_26]; have := fb_addI (x := d3) (y := 1) (by omega) (by omega); omega
              refine lv_iinc (v := y_26) (lv' := [(3, .int y_26), (2, .int y_25), (4, .int r_10), (0, .ref h0), (1, .int p1)]) hx hb dX9_count_141 hl (k := 4) rfl (by rw [ey_26]; rfl) (by decide) rfl (fun ls hl => ?_)
              refine lv_goto (tgt := 85) hx hb dX9_count_144 (by decide) ?_
              exact ih_85 y_25 y_26 (by omega) (by omega) (by omega) H _ (hP.sub [0, 1, 2, 3, 4, 5, 6, 7, 8] rfl) (hD.sub [0, 1, 2, 3, 4, 5, 6, 7, 8] (by decide) rfl) hS ls (lv_sub hl [3, 4, 1, 0] rfl)
            · have t_109 := mt (fa_eq _ _).mpr c_109
              refine lv_iload_n hx hb dX9_count_112 rfl (lv_at hl 2 rfl) ?_
              refine lv_iconst (v := 5) hx hb dX9_count_113 (by decide) ?_
              refine lv_icmp_ne (tgt := 123) hx hb dX9_count_114 (by decide) (fun c_114 => ?_) (fun c_114 => ?_)
              · have t_114 := mt (fa_eq _ _).mpr c_114
                refine lv_iload_n hx hb dX9_count_123 rfl (lv_at hl 2 rfl) ?_
                refine lv_bipush (v := 6) hx hb dX9_count_124 (by decide) ?_
                refine lv_icmp_ne (tgt := 138) hx hb dX9_count_126 (by decide) (fun c_126 => ?_) (fun c_126 => ?_)
                · have t_126 := mt (fa_eq _ _).mpr c_126
                  refine lv_iconst (v := 0) hx hb dX9_count_138 (by decide) ?_
                  refine lv_iadd hx hb dX9_count_139 ?_
                  refine lv_topi (fun y_27 ey_27 => ?_)
                  refine lv_istore_n (lv' := [(2, .int y_27), (4, .int r_10), (0, .ref h0), (1, .int p1), (3, .int d3)]) hx hb dX9_count_140 rfl hl (by decide) rfl (fun ls hl => ?_)
                  obtain ⟨y_28, ey_28⟩ : ∃ y : Int32, y = d3 + 1 := ⟨_, rfl⟩
                  have ty_28 : y_28.toInt = d3.toInt + 1 := by rw [ey_28]; have := fb_addI (x := d3) (y := 1) (by omega) (by omega); omega
                  refine lv_iinc (v := y_28) (lv' := [(3, .int y_28), (2, .int y_27), (4, .int r_10), (0, .ref h0), (1, .int p1)]) hx hb dX9_count_141 hl (k := 4) rfl (by rw [ey_28]; rfl) (by decide) rfl (fun ls hl => ?_)
                  refine lv_goto (tgt := 85) hx hb dX9_count_144 (by decide) ?_
                  exact ih_85 y_27 y_28 (by omega) (by omega) (by omega) H _ (hP.sub [0, 1, 2, 3, 4, 5, 6, 7, 8] rfl) (hD.sub [0, 1, 2, 3, 4, 5, 6, 7, 8] (by decide) rfl) hS ls (lv_sub hl [3, 4, 1, 0] rfl)
                · have t_126 := (fa_eq _ _).mp c_126
                  refine lv_iload hx hb dX9_count_129 (lv_at hl 0 rfl) ?_
                  refine lv_if_ne (tgt := 138) hx hb dX9_count_131 (by decide) (fun c_131 => ?_) (fun c_131 => ?_)
                  · have t_131 := mt (fa_eq _ _).mpr c_131
                    refine lv_iconst (v := 0) hx hb dX9_count_138 (by decide) ?_
                    refine lv_iadd hx hb dX9_count_139 ?_
                    refine lv_topi (fun y_29 ey_29 => ?_)
                    refine lv_istore_n (lv' := [(2, .int y_29), (4, .int r_10), (0, .ref h0), (1, .int p1), (3, .int d3)]) hx hb dX9_count_140 rfl hl (by decide) rfl (fun ls hl => ?_)
                    obtain ⟨y_30, ey_30⟩ : ∃ y : Int32, y = d3 + 1 := ⟨_, rfl⟩
                    have ty_30 : y_30.toInt = d3.toInt + 1 := by rw [ey_30]; have := fb_addI (x := d3) (y := 1) (by omega) (by omega); omega
                    refine lv_iinc (v := y_30) (lv' := [(3, .int y_30), (2, .int y_29), (4, .int r_10), (0, .ref h0), (1, .int p1)]) hx hb dX9_count_141 hl (k := 4) rfl (by rw [ey_30]; rfl) (by decide) rfl (fun ls hl => ?_)
                    refine lv_goto (tgt := 85) hx hb dX9_count_144 (by decide) ?_
                    exact ih_85 y_29 y_30 (by omega) (by omega) (by omega) H _ (hP.sub [0, 1, 2, 3, 4, 5, 6, 7, 8] rfl) (hD.sub [0, 1, 2, 3, 4, 5, 6, 7, 8] (by decide) rfl) hS ls (lv_sub hl [3, 4, 1, 0] rfl)
                  · have t_131 := (fa_eq _ _).mp c_131
                    refine lv_iconst (v := 1) hx hb dX9_count_134 (by decide) ?_
                    refine lv_goto (tgt := 139) hx hb dX9_count_135 (by decide) ?_
                    refine lv_iadd hx hb dX9_count_139 ?_
                    refine lv_topi (fun y_31 ey_31 => ?_)
                    refine lv_istore_n (lv' := [(2, .int y_31), (4, .int r_10), (0, .ref h0), (1, .int p1), (3, .int d3)]) hx hb dX9_count_140 rfl hl (by decide) rfl (fun ls hl => ?_)
                    obtain ⟨y_32, ey_32⟩ : ∃ y : Int32, y = d3 + 1 := ⟨_, rfl⟩
                    have ty_32 : y_32.toInt = d3.toInt + 1 := by rw [ey_32]; have := fb_addI (x := d3) (y := 1) (by omega) (by omega); omega
                    refine lv_iinc (v := y_32) (lv' := [(3, .int y_32), (2, .int y_31), (4, .int r_10), (0, .ref h0), (1, .int p1)]) hx hb dX9_count_141 hl (k := 4) rfl (by rw [ey_32]; rfl) (by decide) rfl (fun ls hl => ?_)
                    refine lv_goto (tgt := 85) hx hb dX9_count_144 (by decide) ?_
                    exact ih_85 y_31 y_32 (by omega) (by omega) (by omega) H _ (hP.sub [0, 1, 2, 3, 4, 5, 6, 7, 8] rfl) (hD.sub [0, 1, 2, 3, 4, 5, 6, 7, 8] (by decide) rfl) hS ls (lv_sub hl [3, 4, 1, 0] rfl)
              · have t_114 := (fa_eq _ _).mp c_114
                refine lv_iload hx hb dX9_count_117 (lv_at hl 0 rfl) ?_
                refine lv_iconst (v := 1) hx hb dX9_count_119 (by decide) ?_
                refine lv_icmp_gt (tgt := 134) hx hb dX9_count_120 (by decide) (fun c_120 => ?_) (fun c_120 => ?_)
                · have t_120 := (fa_lt _ _).mp c_120
                  refine lv_iconst (v := 1) hx hb dX9_count_134 (by decide) ?_
                  refine lv_goto (tgt := 139) hx hb dX9_count_135 (by decide) ?_
                  refine lv_iadd hx hb dX9_count_139 ?_
                  refine lv_topi (fun y_33 ey_33 => ?_)
                  refine lv_istore_n (lv' := [(2, .int y_33), (4, .int r_10), (0, .ref h0), (1, .int p1), (3, .int d3)]) hx hb dX9_count_140 rfl hl (by decide) rfl (fun ls hl => ?_)
                  obtain ⟨y_34, ey_34⟩ : ∃ y : Int32, y = d3 + 1 := ⟨_, rfl⟩
                  have ty_34 : y_34.toInt = d3.toInt + 1 := by rw [ey_34]; have := fb_addI (x := d3) (y := 1) (by omega) (by omega); omega
                  refine lv_iinc (v := y_34) (lv' := [(3, .int y_34), (2, .int y_33), (4, .int r_10), (0, .ref h0), (1, .int p1)]) hx hb dX9_count_141 hl (k := 4) rfl (by rw [ey_34]; rfl) (by decide) rfl (fun ls hl => ?_)
                  refine lv_goto (tgt := 85) hx hb dX9_count_144 (by decide) ?_
                  exact ih_85 y_33 y_34 (by omega) (by omega) (by omega) H _ (hP.sub [0, 1, 2, 3, 4, 5, 6, 7, 8] rfl) (hD.sub [0, 1, 2, 3, 4, 5, 6, 7, 8] (by decide) rfl) hS ls (lv_sub hl [3, 4, 1, 0] rfl)
                · have t_120 := mt (fa_lt _ _).mpr c_120
                  refine lv_iload_n hx hb dX9_count_123 rfl (lv_at hl 2 rfl) ?_
                  refine lv_bipush (v := 6) hx hb dX9_count_124 (by decide) ?_
                  refine lv_icmp_ne (tgt := 138) hx hb dX9_count_126 (by decide) (fun c_126 => ?_) (fun c_126 => ?_)
                  · have t_126 := mt (fa_eq _ _).mpr c_126
                    refine lv_iconst (v := 0) hx hb dX9_count_138 (by decide) ?_
                    refine lv_iadd hx hb dX9_count_139 ?_
                    refine lv_topi (fun y_35 ey_35 => ?_)
                    refine lv_istore_n (lv' := [(2, .int y_35), (4, .int r_10), (0, .ref h0), (1, .int p1), (3, .int d3)]) hx hb dX9_count_140 rfl hl (by decide) rfl (fun ls hl => ?_)
                    obtain ⟨y_36, ey_36⟩ : ∃ y : Int32, y = d3 + 1 := ⟨_, rfl⟩
                    have ty_36 : y_36.toInt = d3.toInt + 1 := by rw [ey_36]; have := fb_addI (x := d3) (y := 1) (by omega) (by omega); omega
                    refine lv_iinc (v := y_36) (lv' := [(3, .int y_36), (2, .int y_35), (4, .int r_10), (0, .ref h0), (1, .int p1)]) hx hb dX9_count_141 hl (k := 4) rfl (by rw [ey_36]; rfl) (by decide) rfl (fun ls hl => ?_)
                    refine lv_goto (tgt := 85) hx hb dX9_count_144 (by decide) ?_
                    exact ih_85 y_35 y_36 (by omega) (by omega) (by omega) H _ (hP.sub [0, 1, 2, 3, 4, 5, 6, 7, 8] rfl) (hD.sub [0, 1, 2, 3, 4, 5, 6, 7, 8] (by decide) rfl) hS ls (lv_sub hl [3, 4, 1, 0] rfl)
                  · have t_126 := (fa_eq _ _).mp c_126
                    refine lv_iload hx hb dX9_count_129 (lv_at hl 0 rfl) ?_
                    refine lv_if_ne (tgt := 138) hx hb dX9_count_131 (by decide) (fun c_131 => ?_) (fun c_131 => ?_)
                    · have t_131 := mt (fa_eq _ _).mpr c_131
                      refine lv_iconst (v := 0) hx hb dX9_count_138 (by decide) ?_
                      refine lv_iadd hx hb dX9_count_139 ?_
                      refine lv_topi (fun y_37 ey_37 => ?_)
                      refine lv_istore_n (lv' := [(2, .int y_37), (4, .int r_10), (0, .ref h0), (1, .int p1), (3, .int d3)]) hx hb dX9_count_140 rfl hl (by decide) rfl (fun ls hl => ?_)
                      obtain ⟨y_38, ey_38⟩ : ∃ y : Int32, y = d3 + 1 := ⟨_, rfl⟩
                      have ty_38 : y_38.toInt = d3.toInt + 1 := by rw [ey_38]; have := fb_addI (x := d3) (y := 1) (by omega) (by omega); omega
                      refine lv_iinc (v := y_38) (lv' := [(3, .int y_38), (2, .int y_37), (4, .int r_10), (0, .ref h0), (1, .int p1)]) hx hb dX9_count_141 hl (k := 4) rfl (by rw [ey_38]; rfl) (by decide) rfl (fun ls hl => ?_)
                      refine lv_goto (tgt := 85) hx hb dX9_count_144 (by decide) ?_
                      exact ih_85 y_37 y_38 (by omega) (by omega) (by omega) H _ (hP.sub [0, 1, 2, 3, 4, 5, 6, 7, 8] rfl) (hD.sub [0, 1, 2, 3, 4, 5, 6, 7, 8] (by decide) rfl) hS ls (lv_sub hl [3, 4, 1, 0] rfl)
                    · have t_131 := (fa_eq _ _).mp c_131
                      refine lv_iconst (v := 1) hx hb dX9_count_134 (by decide) ?_
                      refine lv_goto (tgt := 139) hx hb dX9_count_135 (by decide) ?_
                      refine lv_iadd hx hb dX9_count_139 ?_
                      refine lv_topi (fun y_39 ey_39 => ?_)
                      refine lv_istore_n (lv' := [(2, .int y_39), (4, .int r_10), (0, .ref h0), (1, .int p1), (3, .int d3)]) hx hb dX9_count_140 rfl hl (by decide) rfl (fun ls hl => ?_)
                      obtain ⟨y_40, ey_40⟩ : ∃ y : Int32, y = d3 + 1 := ⟨_, rfl⟩
                      have ty_40 : y_40.toInt = d3.toInt + 1 := by rw [ey_40]; have := fb_addI (x := d3) (y := 1) (by omega) (by omega); omega
                      refine lv_iinc (v := y_40) (lv' := [(3, .int y_40), (2, .int y_39), (4, .int r_10), (0, .ref h0), (1, .int p1)]) hx hb dX9_count_141 hl (k := 4) rfl (by rw [ey_40]; rfl) (by decide) rfl (fun ls hl => ?_)
                      refine lv_goto (tgt := 85) hx hb dX9_count_144 (by decide) ?_
                      exact ih_85 y_39 y_40 (by omega) (by omega) (by omega) H _ (hP.sub [0, 1, 2, 3, 4, 5, 6, 7, 8] rfl) (hD.sub [0, 1, 2, 3, 4, 5, 6, 7, 8] (by decide) rfl) hS ls (lv_sub hl [3, 4, 1, 0] rfl)
    · have t_9 := mt (fa_le _ _).mpr c_9
      refine lv_iload_n hx hb dX9_count_12 rfl (lv_at hl 2 rfl) ?_
      refine lv_iload_n hx hb dX9_count_13 rfl (lv_at hl 1 rfl) ?_
      refine lv_iconst (v := 1) hx hb dX9_count_14 (by decide) ?_
      refine lv_icmp_ne (tgt := 31) hx hb dX9_count_15 (by decide) (fun c_15 => ?_) (fun c_15 => ?_)
      · have t_15 := mt (fa_eq _ _).mpr c_15
        refine lv_iconst (v := 0) hx hb dX9_count_31 (by decide) ?_
        refine lv_iadd hx hb dX9_count_32 ?_
        refine lv_topi (fun y_41 ey_41 => ?_)
        refine lv_istore_n (lv' := [(2, .int y_41), (0, .ref h0), (1, .int p1), (3, .int t3)]) hx hb dX9_count_33 rfl hl (by decide) rfl (fun ls hl => ?_)
        refine lv_iload_n hx hb dX9_count_34 rfl (lv_at hl 3 rfl) ?_
        refine lv_iconst (v := 1) hx hb dX9_count_35 (by decide) ?_
        refine lv_iadd hx hb dX9_count_36 ?_
        refine lv_topi (fun y_42 ey_42 => ?_)
        have ty_42 : y_42.toInt = t3.toInt + 1 := by rw [ey_42]; have := fb_addI (x := t3) (y := 1) (by omega) (by omega); omega
        refine lv_istore (lv' := [(4, .int y_42), (2, .int y_41), (0, .ref h0), (1, .int p1), (3, .int t3)]) hx hb dX9_count_37 hl (by decide) rfl (fun ls hl => ?_)
        refine (show ∀ (k : Nat) (n4 : Int32) (u4 : Int32) (uqx : Int64) (lqx : Int64) (wqx : Int32) (pqx : Int64) (dqx : Int64) (hv0 : 0 ≤ u4.toInt) (hv1 : u4.toInt ≤ th.toInt) (hk_39 : (th.toInt - u4.toInt).toNat < k) (H : Heap) (locs : List Loc) (hP : va_P (dC, dI) vwCl [(h0, .inr (9, [.int th, .ref a1, .ref a2, .ref a3, .ref a4, .ref a5, .int ne, .int wi, .int dn, .ref a6, .ref a7, .int nn, .ref a8, .int la, .ref a9, .ref a10, .long uqx, .long lqx, .int wqx, .long pqx, .long dqx, .ref a11])), (a1, .inl (cI, 16, .inl Fi)), (a2, .inl (cI, 16, .inl Ma)), (a3, .inl (cI, 16, .inl Db)), (a4, .inl (cZ, 16, .inl Go)), (a5, .inl (cI, 576, .inl Sp)), (a6, .inl (cI, 40, .inl Ds)), (a7, .inl (cI, 120, .inl Dp)), (a8, .inl (cI, 320, .inl No))] H) (hD : va_D A [(h0, .inr (9, [.int th, .ref a1, .ref a2, .ref a3, .ref a4, .ref a5, .int ne, .int wi, .int dn, .ref a6, .ref a7, .int nn, .ref a8, .int la, .ref a9, .ref a10, .long uqx, .long lqx, .int wqx, .long pqx, .long dqx, .ref a11])), (a1, .inl (cI, 16, .inl Fi)), (a2, .inl (cI, 16, .inl Ma)), (a3, .inl (cI, 16, .inl Db)), (a4, .inl (cZ, 16, .inl Go)), (a5, .inl (cI, 576, .inl Sp)), (a6, .inl (cI, 40, .inl Ds)), (a7, .inl (cI, 120, .inl Dp)), (a8, .inl (cI, 320, .inl No))]) (hS : va_S A s.heap H locs) (ls : Array Slot) (hl : lv_has ls 5 [(0, .ref h0), (1, .int p1), (2, .int n4), (3, .int t3), (4, .int u4)]), W p l e _ s m _ below meth c H locs 0 0 _ (F0 m 39 ls []) from ?_) _ y_41 y_42 uq lq wq pq dq (by omega) (by omega) (Nat.lt_succ_self _) H _ hP hD hS ls (lv_sub hl [2, 3, 1, 4, 0] rfl)
        intro k
        induction k with
        | zero => intro n4 u4 uqx lqx wqx pqx dqx hv0 hv1 hk_39; exact absurd hk_39 (Nat.not_lt_zero _)
        | succ k ih_39 =>
          intro n4 u4 uqx lqx wqx pqx dqx hv0 hv1 hk_39 H locs hP hD hS ls hl
          refine lv_iload hx hb dX9_count_39 (lv_at hl 4 rfl) ?_
          refine lv_aload_n hx hb dX9_count_41 rfl (lv_at hl 0 rfl) ?_
          refine va_get (D := (dC, dI)) (ci := 9) (v := .int th) (C := RX9) (T := TX9) (N := 22) hx hb hts in_X9_count_X9 hown hK hP 0 rfl rfl 0 (by decide) (hts (.fieldLink RX9 59 "MeetingsAboveModel" "things" "I") (by decide +kernel)) (fun _ h9 => h9) rfl dX9_count_42 ?_
          refine lv_icmp_ge (tgt := 77) hx hb dX9_count_45 (by decide) (fun c_45 => ?_) (fun c_45 => ?_)
          · have t_45 := (fa_le _ _).mp c_45
            obtain ⟨y_43, ey_43⟩ : ∃ y : Int32, y = t3 + 1 := ⟨_, rfl⟩
            have ty_43 : y_43.toInt = t3.toInt + 1 := by rw [ey_43]; have := fb_addI (x := t3) (y := 1) (by omega) (by omega); omega
            refine lv_iinc (v := y_43) (lv' := [(3, .int y_43), (0, .ref h0), (1, .int p1), (2, .int n4), (4, .int u4)]) hx hb dX9_count_77 hl (k := 3) rfl (by rw [ey_43]; rfl) (by decide) rfl (fun ls hl => ?_)
            refine lv_goto (tgt := 4) hx hb dX9_count_80 (by decide) ?_
            exact ih_4 n4 y_43 uqx lqx wqx pqx dqx (by omega) (by omega) (by omega) H _ (hP.sub [0, 1, 2, 3, 4, 5, 6, 7, 8] rfl) (hD.sub [0, 1, 2, 3, 4, 5, 6, 7, 8] (by decide) rfl) hS ls (lv_sub hl [1, 2, 3, 0] rfl)
          · have t_45 := mt (fa_le _ _).mpr c_45
            refine lv_iload_n hx hb dX9_count_48 rfl (lv_at hl 1 rfl) ?_
            refine lv_iconst (v := 2) hx hb dX9_count_49 (by decide) ?_
            refine lv_icmp_ne (tgt := 77) hx hb dX9_count_50 (by decide) (fun c_50 => ?_) (fun c_50 => ?_)
            · have t_50 := mt (fa_eq _ _).mpr c_50
              obtain ⟨y_44, ey_44⟩ : ∃ y : Int32, y = t3 + 1 := ⟨_, rfl⟩
              have ty_44 : y_44.toInt = t3.toInt + 1 := by rw [ey_44]; have := fb_addI (x := t3) (y := 1) (by omega) (by omega); omega
              refine lv_iinc (v := y_44) (lv' := [(3, .int y_44), (0, .ref h0), (1, .int p1), (2, .int n4), (4, .int u4)]) hx hb dX9_count_77 hl (k := 3) rfl (by rw [ey_44]; rfl) (by decide) rfl (fun ls hl => ?_)
              refine lv_goto (tgt := 4) hx hb dX9_count_80 (by decide) ?_
              exact ih_4 n4 y_44 uqx lqx wqx pqx dqx (by omega) (by omega) (by omega) H _ (hP.sub [0, 1, 2, 3, 4, 5, 6, 7, 8] rfl) (hD.sub [0, 1, 2, 3, 4, 5, 6, 7, 8] (by decide) rfl) hS ls (lv_sub hl [1, 2, 3, 0] rfl)
            · have t_50 := (fa_eq _ _).mp c_50
              refine lv_iload_n hx hb dX9_count_53 rfl (lv_at hl 2 rfl) ?_
              refine lv_aload_n hx hb dX9_count_54 rfl (lv_at hl 0 rfl) ?_
              refine lv_iload_n hx hb dX9_count_55 rfl (lv_at hl 3 rfl) ?_
              refine lv_iload hx hb dX9_count_56 (lv_at hl 4 rfl) ?_
              have hPc := hP.sub (ws' := [(h0, .inr (9, [.int th, .ref a1, .ref a2, .ref a3, .ref a4, .ref a5, .int ne, .int wi, .int dn, .ref a6, .ref a7, .int nn, .ref a8, .int la, .ref a9, .ref a10, .long uqx, .long lqx, .int wqx, .long pqx, .long dqx, .ref a11])), (a1, .inl (cI, 16, .inl Fi)), (a2, .inl (cI, 16, .inl Ma)), (a4, .inl (cZ, 16, .inl Go)), (a5, .inl (cI, 576, .inl Sp))]) [0, 1, 2, 4, 5] rfl
              have hKc := hK.sub (tys' := [(cI, .int), (cZ, .boolean)]) [0, 1] rfl
              have hDc := hD.sub (ws' := [(h0, .inr (9, [.int th, .ref a1, .ref a2, .ref a3, .ref a4, .ref a5, .int ne, .int wi, .int dn, .ref a6, .ref a7, .int nn, .ref a8, .int la, .ref a9, .ref a10, .long uqx, .long lqx, .int wqx, .long pqx, .long dqx, .ref a11])), (a1, .inl (cI, 16, .inl Fi)), (a2, .inl (cI, 16, .inl Ma)), (a4, .inl (cZ, 16, .inl Go)), (a5, .inl (cI, 576, .inl Sp))]) [0, 1, 2, 4, 5] (by decide) rfl
              have hFc := va_free (wc := [(h0, .inr (9, [.int th, .ref a1, .ref a2, .ref a3, .ref a4, .ref a5, .int ne, .int wi, .int dn, .ref a6, .ref a7, .int nn, .ref a8, .int la, .ref a9, .ref a10, .long uqx, .long lqx, .int wqx, .long pqx, .long dqx, .ref a11])), (a1, .inl (cI, 16, .inl Fi)), (a2, .inl (cI, 16, .inl Ma)), (a4, .inl (cZ, 16, .inl Go)), (a5, .inl (cI, 576, .inl Sp))]) hD hS hA [0, 1, 2, 4, 5] rfl
              refine va_calli (va_runV (As := [.int t3, .int u4]) (rest := [.int n4]) ⟨hx, hb, hml, hown, hts⟩ (c_X9_isMeeting l dC dI h0 a1 a2 a3 a4 a5 a6 a7 a8 a9 a10 a11 th ne wi dn nn la wqx uqx lqx pqx dqx cI cZ Fi Ma Go Sp t3 u4 H.size (by first | assumption | omega) (by first | omega | assumption) (by first | omega | assumption) (by first | omega | assumption) (by first | omega | assumption)) (cwV 2 hts g_X9_count__X9_isMeeting_106 rfl rfl rfl (by decide +kernel) ⟨Nat.le_of_ble_eq_true rfl, Nat.le_of_ble_eq_true rfl⟩) ⟨fun a U g mk q => by obtain ⟨q0, q1, qP, qK, qD⟩ := q; exact ⟨q0, q1, qP, va_K.moved (u := U) (U := U.calling g mk a) (Vm.Alike.refl U.vm) qK, qD⟩, va_recv hKc hPc (ci := 9) (q0 := 0) rfl rfl, fun U hU hW => ⟨rfl, by rw [hU], by rw [hU]; exact hPc, va_K.moved hW.alike hKc, hDc.weaken (fun _ _ _ _ => trivial)⟩⟩ rfl rfl hl.1 rfl (lv_room (Nat.le_of_ble_eq_true rfl)) dX9_count_58 ⟨Nat.le_of_ble_eq_true rfl, Nat.le_of_ble_eq_true rfl⟩) hS (fun q _ h => hFc q h) hFc (fun r_46 u_45 t H1 locs ht hvm hw_46 hB hz1 hk1 hS => ?_)
              obtain ⟨up9_47, wh9_48, pu9_49, pw9_50, hP1, hK1, hD1⟩ := hB
              rw [ht] at hP1
              have hK1 := va_K.moved hvm.symm hK1
              obtain ⟨hP, hD⟩ := va_join (wr := [(a3, .inl (cI, 16, .inl Db)), (a6, .inl (cI, 40, .inl Ds)), (a7, .inl (cI, 120, .inl Dp)), (a8, .inl (cI, 320, .inl No))]) (w1 := [(h0, .inr (9, [.int th, .ref a1, .ref a2, .ref a3, .ref a4, .ref a5, .int ne, .int wi, .int dn, .ref a6, .ref a7, .int nn, .ref a8, .int la, .ref a9, .ref a10, .long up9_47, .long u_45, .int wh9_48, .long pu9_49, .long pw9_50, .ref a11])), (a1, .inl (cI, 16, .inl Fi)), (a2, .inl (cI, 16, .inl Ma)), (a4, .inl (cZ, 16, .inl Go)), (a5, .inl (cI, 576, .inl Sp))]) hP hD [0, 1, 2, 4, 5] [3, 6, 7, 8] rfl rfl (by decide) (by decide) hk1 hFc hP1 hD1
              have hK := (hK.sub (tys' := [(cI, .int), (cZ, .boolean)]) [0, 1] rfl).app hK1
              generalize H1 = H at hP hS ⊢
              have hP : va_P (dC, dI) vwCl [(a3, .inl (cI, 16, .inl Db)), (a6, .inl (cI, 40, .inl Ds)), (a7, .inl (cI, 120, .inl Dp)), (a8, .inl (cI, 320, .inl No)), (h0, .inr (9, [.int th, .ref a1, .ref a2, .ref a3, .ref a4, .ref a5, .int ne, .int wi, .int dn, .ref a6, .ref a7, .int nn, .ref a8, .int la, .ref a9, .ref a10, .long up9_47, .long u_45, .int wh9_48, .long pu9_49, .long pw9_50, .ref a11])), (a1, .inl (cI, 16, .inl Fi)), (a2, .inl (cI, 16, .inl Ma)), (a4, .inl (cZ, 16, .inl Go)), (a5, .inl (cI, 576, .inl Sp))] H := hP
              have hD : va_D A [(a3, .inl (cI, 16, .inl Db)), (a6, .inl (cI, 40, .inl Ds)), (a7, .inl (cI, 120, .inl Dp)), (a8, .inl (cI, 320, .inl No)), (h0, .inr (9, [.int th, .ref a1, .ref a2, .ref a3, .ref a4, .ref a5, .int ne, .int wi, .int dn, .ref a6, .ref a7, .int nn, .ref a8, .int la, .ref a9, .ref a10, .long up9_47, .long u_45, .int wh9_48, .long pu9_49, .long pw9_50, .ref a11])), (a1, .inl (cI, 16, .inl Fi)), (a2, .inl (cI, 16, .inl Ma)), (a4, .inl (cZ, 16, .inl Go)), (a5, .inl (cI, 576, .inl Sp))] := hD
              have hK : va_K (dC, dI) vwCl [(cI, .int), (cZ, .boolean), (cI, .int), (cZ, .boolean)] s := hK
              refine W.widen (k := 0) (n := 0) (by omega) (by omega) ?_
              try dsimp only at hw_46
              refine lv_if_eq (tgt := 68) hx hb dX9_count_61 (by decide) (fun c_61 => ?_) (fun c_61 => ?_)
              · have t_61 := (fa_eq _ _).mp c_61
                refine lv_iconst (v := 0) hx hb dX9_count_68 (by decide) ?_
                refine lv_iadd hx hb dX9_count_69 ?_
                refine lv_topi (fun y_51 ey_51 => ?_)
                refine lv_istore_n (lv' := [(2, .int y_51), (0, .ref h0), (1, .int p1), (3, .int t3), (4, .int u4)]) hx hb dX9_count_70 rfl hl (by decide) rfl (fun ls hl => ?_)
                obtain ⟨y_52, ey_52⟩ : ∃ y : Int32, y = u4 + 1 := ⟨_, rfl⟩
                have ty_52 : y_52.toInt = u4.toInt + 1 := by rw [ey_52]; have := fb_addI (x := u4) (y := 1) (by omega) (by omega); omega
                refine lv_iinc (v := y_52) (lv' := [(4, .int y_52), (2, .int y_51), (0, .ref h0), (1, .int p1), (3, .int t3)]) hx hb dX9_count_71 hl (k := 4) rfl (by rw [ey_52]; rfl) (by decide) rfl (fun ls hl => ?_)
                refine lv_goto (tgt := 39) hx hb dX9_count_74 (by decide) ?_
                exact ih_39 y_51 y_52 up9_47 u_45 wh9_48 pu9_49 pw9_50 (by omega) (by omega) (by omega) H _ (hP.sub [4, 5, 6, 0, 7, 8, 1, 2, 3] rfl) (hD.sub [4, 5, 6, 0, 7, 8, 1, 2, 3] (by decide) rfl) hS ls (lv_sub hl [2, 3, 1, 4, 0] rfl)
              · have t_61 := mt (fa_eq _ _).mpr c_61
                refine lv_iconst (v := 1) hx hb dX9_count_64 (by decide) ?_
                refine lv_goto (tgt := 69) hx hb dX9_count_65 (by decide) ?_
                refine lv_iadd hx hb dX9_count_69 ?_
                refine lv_topi (fun y_53 ey_53 => ?_)
                refine lv_istore_n (lv' := [(2, .int y_53), (0, .ref h0), (1, .int p1), (3, .int t3), (4, .int u4)]) hx hb dX9_count_70 rfl hl (by decide) rfl (fun ls hl => ?_)
                obtain ⟨y_54, ey_54⟩ : ∃ y : Int32, y = u4 + 1 := ⟨_, rfl⟩
                have ty_54 : y_54.toInt = u4.toInt + 1 := by rw [ey_54]; have := fb_addI (x := u4) (y := 1) (by omega) (by omega); omega
                refine lv_iinc (v := y_54) (lv' := [(4, .int y_54), (2, .int y_53), (0, .ref h0), (1, .int p1), (3, .int t3)]) hx hb dX9_count_71 hl (k := 4) rfl (by rw [ey_54]; rfl) (by decide) rfl (fun ls hl => ?_)
                refine lv_goto (tgt := 39) hx hb dX9_count_74 (by decide) ?_
                exact ih_39 y_53 y_54 up9_47 u_45 wh9_48 pu9_49 pw9_50 (by omega) (by omega) (by omega) H _ (hP.sub [4, 5, 6, 0, 7, 8, 1, 2, 3] rfl) (hD.sub [4, 5, 6, 0, 7, 8, 1, 2, 3] (by decide) rfl) hS ls (lv_sub hl [2, 3, 1, 4, 0] rfl)
      · have t_15 := (fa_eq _ _).mp c_15
        refine lv_aload_n hx hb dX9_count_18 rfl (lv_at hl 0 rfl) ?_
        refine va_get (D := (dC, dI)) (ci := 9) (v := .ref a4) (C := RX9) (T := TX9) (N := 22) hx hb hts in_X9_count_X9 hown hK hP 0 rfl rfl 4 (by decide) (hts (.fieldLink RX9 19 "MeetingsAboveModel" "isGone" "[Z") (by decide +kernel)) (fun _ h9 => h9) rfl dX9_count_19 ?_
        refine lv_iload_n hx hb dX9_count_22 rfl (lv_at hl 3 rfl) ?_
        refine va_zald hx hb hK hP 4 1 rfl rfl (vp_in_iff.mpr ⟨by omega, by omega⟩) dX9_count_23 ?_
        refine lv_topi (fun y_55 ey_55 => ?_)
        refine lv_if_ne (tgt := 31) hx hb dX9_count_24 (by decide) (fun c_24 => ?_) (fun c_24 => ?_)
        · have t_24 := mt (fa_eq _ _).mpr c_24
          refine lv_iconst (v := 0) hx hb dX9_count_31 (by decide) ?_
          refine lv_iadd hx hb dX9_count_32 ?_
          refine lv_topi (fun y_56 ey_56 => ?_)
          refine lv_istore_n (lv' := [(2, .int y_56), (0, .ref h0), (1, .int p1), (3, .int t3)]) hx hb dX9_count_33 rfl hl (by decide) rfl (fun ls hl => ?_)
          refine lv_iload_n hx hb dX9_count_34 rfl (lv_at hl 3 rfl) ?_
          refine lv_iconst (v := 1) hx hb dX9_count_35 (by decide) ?_
          refine lv_iadd hx hb dX9_count_36 ?_
          refine lv_topi (fun y_57 ey_57 => ?_)
          have ty_57 : y_57.toInt = t3.toInt + 1 := by rw [ey_57]; have := fb_addI (x := t3) (y := 1) (by omega) (by omega); omega
          refine lv_istore (lv' := [(4, .int y_57), (2, .int y_56), (0, .ref h0), (1, .int p1), (3, .int t3)]) hx hb dX9_count_37 hl (by decide) rfl (fun ls hl => ?_)
          refine (show ∀ (k : Nat) (n4 : Int32) (u4 : Int32) (uqx : Int64) (lqx : Int64) (wqx : Int32) (pqx : Int64) (dqx : Int64) (hv0 : 0 ≤ u4.toInt) (hv1 : u4.toInt ≤ th.toInt) (hk_39 : (th.toInt - u4.toInt).toNat < k) (H : Heap) (locs : List Loc) (hP : va_P (dC, dI) vwCl [(h0, .inr (9, [.int th, .ref a1, .ref a2, .ref a3, .ref a4, .ref a5, .int ne, .int wi, .int dn, .ref a6, .ref a7, .int nn, .ref a8, .int la, .ref a9, .ref a10, .long uqx, .long lqx, .int wqx, .long pqx, .long dqx, .ref a11])), (a1, .inl (cI, 16, .inl Fi)), (a2, .inl (cI, 16, .inl Ma)), (a3, .inl (cI, 16, .inl Db)), (a4, .inl (cZ, 16, .inl Go)), (a5, .inl (cI, 576, .inl Sp)), (a6, .inl (cI, 40, .inl Ds)), (a7, .inl (cI, 120, .inl Dp)), (a8, .inl (cI, 320, .inl No))] H) (hD : va_D A [(h0, .inr (9, [.int th, .ref a1, .ref a2, .ref a3, .ref a4, .ref a5, .int ne, .int wi, .int dn, .ref a6, .ref a7, .int nn, .ref a8, .int la, .ref a9, .ref a10, .long uqx, .long lqx, .int wqx, .long pqx, .long dqx, .ref a11])), (a1, .inl (cI, 16, .inl Fi)), (a2, .inl (cI, 16, .inl Ma)), (a3, .inl (cI, 16, .inl Db)), (a4, .inl (cZ, 16, .inl Go)), (a5, .inl (cI, 576, .inl Sp)), (a6, .inl (cI, 40, .inl Ds)), (a7, .inl (cI, 120, .inl Dp)), (a8, .inl (cI, 320, .inl No))]) (hS : va_S A s.heap H locs) (ls : Array Slot) (hl : lv_has ls 5 [(0, .ref h0), (1, .int p1), (2, .int n4), (3, .int t3), (4, .int u4)]), W p l e _ s m _ below meth c H locs 0 0 _ (F0 m 39 ls []) from ?_) _ y_56 y_57 uq lq wq pq dq (by omega) (by omega) (Nat.lt_succ_self _) H _ hP hD hS ls (lv_sub hl [2, 3, 1, 4, 0] rfl)
          intro k
          induction k with
          | zero => intro n4 u4 uqx lqx wqx pqx dqx hv0 hv1 hk_39; exact absurd hk_39 (Nat.not_lt_zero _)
          | succ k ih_39 =>
            intro n4 u4 uqx lqx wqx pqx dqx hv0 hv1 hk_39 H locs hP hD hS ls hl
            refine lv_iload hx hb dX9_count_39 (lv_at hl 4 rfl) ?_
            refine lv_aload_n hx hb dX9_count_41 rfl (lv_at hl 0 rfl) ?_
            refine va_get (D := (dC, dI)) (ci := 9) (v := .int th) (C := RX9) (T := TX9) (N := 22) hx hb hts in_X9_count_X9 hown hK hP 0 rfl rfl 0 (by decide) (hts (.fieldLink RX9 59 "MeetingsAboveModel" "things" "I") (by decide +kernel)) (fun _ h9 => h9) rfl dX9_count_42 ?_
            refine lv_icmp_ge (tgt := 77) hx hb dX9_count_45 (by decide) (fun c_45 => ?_) (fun c_45 => ?_)
            · have t_45 := (fa_le _ _).mp c_45
              obtain ⟨y_58, ey_58⟩ : ∃ y : Int32, y = t3 + 1 := ⟨_, rfl⟩
              have ty_58 : y_58.toInt = t3.toInt + 1 := by rw [ey_58]; have := fb_addI (x := t3) (y := 1) (by omega) (by omega); omega
              refine lv_iinc (v := y_58) (lv' := [(3, .int y_58), (0, .ref h0), (1, .int p1), (2, .int n4), (4, .int u4)]) hx hb dX9_count_77 hl (k := 3) rfl (by rw [ey_58]; rfl) (by decide) rfl (fun ls hl => ?_)
              refine lv_goto (tgt := 4) hx hb dX9_count_80 (by decide) ?_
              exact ih_4 n4 y_58 uqx lqx wqx pqx dqx (by omega) (by omega) (by omega) H _ (hP.sub [0, 1, 2, 3, 4, 5, 6, 7, 8] rfl) (hD.sub [0, 1, 2, 3, 4, 5, 6, 7, 8] (by decide) rfl) hS ls (lv_sub hl [1, 2, 3, 0] rfl)
            · have t_45 := mt (fa_le _ _).mpr c_45
              refine lv_iload_n hx hb dX9_count_48 rfl (lv_at hl 1 rfl) ?_
              refine lv_iconst (v := 2) hx hb dX9_count_49 (by decide) ?_
              refine lv_icmp_ne (tgt := 77) hx hb dX9_count_50 (by decide) (fun c_50 => ?_) (fun c_50 => ?_)
              · have t_50 := mt (fa_eq _ _).mpr c_50
                obtain ⟨y_59, ey_59⟩ : ∃ y : Int32, y = t3 + 1 := ⟨_, rfl⟩
                have ty_59 : y_59.toInt = t3.toInt + 1 := by rw [ey_59]; have := fb_addI (x := t3) (y := 1) (by omega) (by omega); omega
                refine lv_iinc (v := y_59) (lv' := [(3, .int y_59), (0, .ref h0), (1, .int p1), (2, .int n4), (4, .int u4)]) hx hb dX9_count_77 hl (k := 3) rfl (by rw [ey_59]; rfl) (by decide) rfl (fun ls hl => ?_)
                refine lv_goto (tgt := 4) hx hb dX9_count_80 (by decide) ?_
                exact ih_4 n4 y_59 uqx lqx wqx pqx dqx (by omega) (by omega) (by omega) H _ (hP.sub [0, 1, 2, 3, 4, 5, 6, 7, 8] rfl) (hD.sub [0, 1, 2, 3, 4, 5, 6, 7, 8] (by decide) rfl) hS ls (lv_sub hl [1, 2, 3, 0] rfl)
              · have t_50 := (fa_eq _ _).mp c_50
                refine lv_iload_n hx hb dX9_count_53 rfl (lv_at hl 2 rfl) ?_
                refine lv_aload_n hx hb dX9_count_54 rfl (lv_at hl 0 rfl) ?_
                refine lv_iload_n hx hb dX9_count_55 rfl (lv_at hl 3 rfl) ?_
                refine lv_iload hx hb dX9_count_56 (lv_at hl 4 rfl) ?_
                have hPc := hP.sub (ws' := [(h0, .inr (9, [.int th, .ref a1, .ref a2, .ref a3, .ref a4, .ref a5, .int ne, .int wi, .int dn, .ref a6, .ref a7, .int nn, .ref a8, .int la, .ref a9, .ref a10, .long uqx, .long lqx, .int wqx, .long pqx, .long dqx, .ref a11])), (a1, .inl (cI, 16, .inl Fi)), (a2, .inl (cI, 16, .inl Ma)), (a4, .inl (cZ, 16, .inl Go)), (a5, .inl (cI, 576, .inl Sp))]) [0, 1, 2, 4, 5] rfl
                have hKc := hK.sub (tys' := [(cI, .int), (cZ, .boolean)]) [0, 1] rfl
                have hDc := hD.sub (ws' := [(h0, .inr (9, [.int th, .ref a1, .ref a2, .ref a3, .ref a4, .ref a5, .int ne, .int wi, .int dn, .ref a6, .ref a7, .int nn, .ref a8, .int la, .ref a9, .ref a10, .long uqx, .long lqx, .int wqx, .long pqx, .long dqx, .ref a11])), (a1, .inl (cI, 16, .inl Fi)), (a2, .inl (cI, 16, .inl Ma)), (a4, .inl (cZ, 16, .inl Go)), (a5, .inl (cI, 576, .inl Sp))]) [0, 1, 2, 4, 5] (by decide) rfl
                have hFc := va_free (wc := [(h0, .inr (9, [.int th, .ref a1, .ref a2, .ref a3, .ref a4, .ref a5, .int ne, .int wi, .int dn, .ref a6, .ref a7, .int nn, .ref a8, .int la, .ref a9, .ref a10, .long uqx, .long lqx, .int wqx, .long pqx, .long dqx, .ref a11])), (a1, .inl (cI, 16, .inl Fi)), (a2, .inl (cI, 16, .inl Ma)), (a4, .inl (cZ, 16, .inl Go)), (a5, .inl (cI, 576, .inl Sp))]) hD hS hA [0, 1, 2, 4, 5] rfl
                refine va_calli (va_runV (As := [.int t3, .int u4]) (rest := [.int n4]) ⟨hx, hb, hml, hown, hts⟩ (c_X9_isMeeting l dC dI h0 a1 a2 a3 a4 a5 a6 a7 a8 a9 a10 a11 th ne wi dn nn la wqx uqx lqx pqx dqx cI cZ Fi Ma Go Sp t3 u4 H.size (by first | assumption | omega) (by first | omega | assumption) (by first | omega | assumption) (by first | omega | assumption) (by first | omega | assumption)) (cwV 2 hts g_X9_count__X9_isMeeting_106 rfl rfl rfl (by decide +kernel) ⟨Nat.le_of_ble_eq_true rfl, Nat.le_of_ble_eq_true rfl⟩) ⟨fun a U g mk q => by obtain ⟨q0, q1, qP, qK, qD⟩ := q; exact ⟨q0, q1, qP, va_K.moved (u := U) (U := U.calling g mk a) (Vm.Alike.refl U.vm) qK, qD⟩, va_recv hKc hPc (ci := 9) (q0 := 0) rfl rfl, fun U hU hW => ⟨rfl, by rw [hU], by rw [hU]; exact hPc, va_K.moved hW.alike hKc, hDc.weaken (fun _ _ _ _ => trivial)⟩⟩ rfl rfl hl.1 rfl (lv_room (Nat.le_of_ble_eq_true rfl)) dX9_count_58 ⟨Nat.le_of_ble_eq_true rfl, Nat.le_of_ble_eq_true rfl⟩) hS (fun q _ h => hFc q h) hFc (fun r_61 u_60 t H1 locs ht hvm hw_61 hB hz1 hk1 hS => ?_)
                obtain ⟨up9_62, wh9_63, pu9_64, pw9_65, hP1, hK1, hD1⟩ := hB
                rw [ht] at hP1
                have hK1 := va_K.moved hvm.symm hK1
                obtain ⟨hP, hD⟩ := va_join (wr := [(a3, .inl (cI, 16, .inl Db)), (a6, .inl (cI, 40, .inl Ds)), (a7, .inl (cI, 120, .inl Dp)), (a8, .inl (cI, 320, .inl No))]) (w1 := [(h0, .inr (9, [.int th, .ref a1, .ref a2, .ref a3, .ref a4, .ref a5, .int ne, .int wi, .int dn, .ref a6, .ref a7, .int nn, .ref a8, .int la, .ref a9, .ref a10, .long up9_62, .long u_60, .int wh9_63, .long pu9_64, .long pw9_65, .ref a11])), (a1, .inl (cI, 16, .inl Fi)), (a2, .inl (cI, 16, .inl Ma)), (a4, .inl (cZ, 16, .inl Go)), (a5, .inl (cI, 576, .inl Sp))]) hP hD [0, 1, 2, 4, 5] [3, 6, 7, 8] rfl rfl (by decide) (by decide) hk1 hFc hP1 hD1
                have hK := (hK.sub (tys' := [(cI, .int), (cZ, .boolean)]) [0, 1] rfl).app hK1
                generalize H1 = H at hP hS ⊢
                have hP : va_P (dC, dI) vwCl [(a3, .inl (cI, 16, .inl Db)), (a6, .inl (cI, 40, .inl Ds)), (a7, .inl (cI, 120, .inl Dp)), (a8, .inl (cI, 320, .inl No)), (h0, .inr (9, [.int th, .ref a1, .ref a2, .ref a3, .ref a4, .ref a5, .int ne, .int wi, .int dn, .ref a6, .ref a7, .int nn, .ref a8, .int la, .ref a9, .ref a10, .long up9_62, .long u_60, .int wh9_63, .long pu9_64, .long pw9_65, .ref a11])), (a1, .inl (cI, 16, .inl Fi)), (a2, .inl (cI, 16, .inl Ma)), (a4, .inl (cZ, 16, .inl Go)), (a5, .inl (cI, 576, .inl Sp))] H := hP
                have hD : va_D A [(a3, .inl (cI, 16, .inl Db)), (a6, .inl (cI, 40, .inl Ds)), (a7, .inl (cI, 120, .inl Dp)), (a8, .inl (cI, 320, .inl No)), (h0, .inr (9, [.int th, .ref a1, .ref a2, .ref a3, .ref a4, .ref a5, .int ne, .int wi, .int dn, .ref a6, .ref a7, .int nn, .ref a8, .int la, .ref a9, .ref a10, .long up9_62, .long u_60, .int wh9_63, .long pu9_64, .long pw9_65, .ref a11])), (a1, .inl (cI, 16, .inl Fi)), (a2, .inl (cI, 16, .inl Ma)), (a4, .inl (cZ, 16, .inl Go)), (a5, .inl (cI, 576, .inl Sp))] := hD
                have hK : va_K (dC, dI) vwCl [(cI, .int), (cZ, .boolean), (cI, .int), (cZ, .boolean)] s := hK
                refine W.widen (k := 0) (n := 0) (by omega) (by omega) ?_
                try dsimp only at hw_61
                refine lv_if_eq (tgt := 68) hx hb dX9_count_61 (by decide) (fun c_61 => ?_) (fun c_61 => ?_)
                · have t_61 := (fa_eq _ _).mp c_61
                  refine lv_iconst (v := 0) hx hb dX9_count_68 (by decide) ?_
                  refine lv_iadd hx hb dX9_count_69 ?_
                  refine lv_topi (fun y_66 ey_66 => ?_)
                  refine lv_istore_n (lv' := [(2, .int y_66), (0, .ref h0), (1, .int p1), (3, .int t3), (4, .int u4)]) hx hb dX9_count_70 rfl hl (by decide) rfl (fun ls hl => ?_)
                  obtain ⟨y_67, ey_67⟩ : ∃ y : Int32, y = u4 + 1 := ⟨_, rfl⟩
                  have ty_67 : y_67.toInt = u4.toInt + 1 := by rw [ey_67]; have := fb_addI (x := u4) (y := 1) (by omega) (by omega); omega
                  refine lv_iinc (v := y_67) (lv' := [(4, .int y_67), (2, .int y_66), (0, .ref h0), (1, .int p1), (3, .int t3)]) hx hb dX9_count_71 hl (k := 4) rfl (by rw [ey_67]; rfl) (by decide) rfl (fun ls hl => ?_)
                  refine lv_goto (tgt := 39) hx hb dX9_count_74 (by decide) ?_
                  exact ih_39 y_66 y_67 up9_62 u_60 wh9_63 pu9_64 pw9_65 (by omega) (by omega) (by omega) H _ (hP.sub [4, 5, 6, 0, 7, 8, 1, 2, 3] rfl) (hD.sub [4, 5, 6, 0, 7, 8, 1, 2, 3] (by decide) rfl) hS ls (lv_sub hl [2, 3, 1, 4, 0] rfl)
                · have t_61 := mt (fa_eq _ _).mpr c_61
                  refine lv_iconst (v := 1) hx hb dX9_count_64 (by decide) ?_
                  refine lv_goto (tgt := 69) hx hb dX9_count_65 (by decide) ?_
                  refine lv_iadd hx hb dX9_count_69 ?_
                  refine lv_topi (fun y_68 ey_68 => ?_)
                  refine lv_istore_n (lv' := [(2, .int y_68), (0, .ref h0), (1, .int p1), (3, .int t3), (4, .int u4)]) hx hb dX9_count_70 rfl hl (by decide) rfl (fun ls hl => ?_)
                  obtain ⟨y_69, ey_69⟩ : ∃ y : Int32, y = u4 + 1 := ⟨_, rfl⟩
                  have ty_69 : y_69.toInt = u4.toInt + 1 := by rw [ey_69]; have := fb_addI (x := u4) (y := 1) (by omega) (by omega); omega
                  refine lv_iinc (v := y_69) (lv' := [(4, .int y_69), (2, .int y_68), (0, .ref h0), (1, .int p1), (3, .int t3)]) hx hb dX9_count_71 hl (k := 4) rfl (by rw [ey_69]; rfl) (by decide) rfl (fun ls hl => ?_)
                  refine lv_goto (tgt := 39) hx hb dX9_count_74 (by decide) ?_
                  exact ih_39 y_68 y_69 up9_62 u_60 wh9_63 pu9_64 pw9_65 (by omega) (by omega) (by omega) H _ (hP.sub [4, 5, 6, 0, 7, 8, 1, 2, 3] rfl) (hD.sub [4, 5, 6, 0, 7, 8, 1, 2, 3] (by decide) rfl) hS ls (lv_sub hl [2, 3, 1, 4, 0] rfl)
        · have t_24 := (fa_eq _ _).mp c_24
          refine lv_iconst (v := 1) hx hb dX9_count_27 (by decide) ?_
          refine lv_goto (tgt := 32) hx hb dX9_count_28 (by decide) ?_
          refine lv_iadd hx hb dX9_count_32 ?_
          refine lv_topi (fun y_70 ey_70 => ?_)
          refine lv_istore_n (lv' := [(2, .int y_70), (0, .ref h0), (1, .int p1), (3, .int t3)]) hx hb dX9_count_33 rfl hl (by decide) rfl (fun ls hl => ?_)
          refine lv_iload_n hx hb dX9_count_34 rfl (lv_at hl 3 rfl) ?_
          refine lv_iconst (v := 1) hx hb dX9_count_35 (by decide) ?_
          refine lv_iadd hx hb dX9_count_36 ?_
          refine lv_topi (fun y_71 ey_71 => ?_)
          have ty_71 : y_71.toInt = t3.toInt + 1 := by rw [ey_71]; have := fb_addI (x := t3) (y := 1) (by omega) (by omega); omega
          refine lv_istore (lv' := [(4, .int y_71), (2, .int y_70), (0, .ref h0), (1, .int p1), (3, .int t3)]) hx hb dX9_count_37 hl (by decide) rfl (fun ls hl => ?_)
          refine (show ∀ (k : Nat) (n4 : Int32) (u4 : Int32) (uqx : Int64) (lqx : Int64) (wqx : Int32) (pqx : Int64) (dqx : Int64) (hv0 : 0 ≤ u4.toInt) (hv1 : u4.toInt ≤ th.toInt) (hk_39 : (th.toInt - u4.toInt).toNat < k) (H : Heap) (locs : List Loc) (hP : va_P (dC, dI) vwCl [(h0, .inr (9, [.int th, .ref a1, .ref a2, .ref a3, .ref a4, .ref a5, .int ne, .int wi, .int dn, .ref a6, .ref a7, .int nn, .ref a8, .int la, .ref a9, .ref a10, .long uqx, .long lqx, .int wqx, .long pqx, .long dqx, .ref a11])), (a1, .inl (cI, 16, .inl Fi)), (a2, .inl (cI, 16, .inl Ma)), (a3, .inl (cI, 16, .inl Db)), (a4, .inl (cZ, 16, .inl Go)), (a5, .inl (cI, 576, .inl Sp)), (a6, .inl (cI, 40, .inl Ds)), (a7, .inl (cI, 120, .inl Dp)), (a8, .inl (cI, 320, .inl No))] H) (hD : va_D A [(h0, .inr (9, [.int th, .ref a1, .ref a2, .ref a3, .ref a4, .ref a5, .int ne, .int wi, .int dn, .ref a6, .ref a7, .int nn, .ref a8, .int la, .ref a9, .ref a10, .long uqx, .long lqx, .int wqx, .long pqx, .long dqx, .ref a11])), (a1, .inl (cI, 16, .inl Fi)), (a2, .inl (cI, 16, .inl Ma)), (a3, .inl (cI, 16, .inl Db)), (a4, .inl (cZ, 16, .inl Go)), (a5, .inl (cI, 576, .inl Sp)), (a6, .inl (cI, 40, .inl Ds)), (a7, .inl (cI, 120, .inl Dp)), (a8, .inl (cI, 320, .inl No))]) (hS : va_S A s.heap H locs) (ls : Array Slot) (hl : lv_has ls 5 [(0, .ref h0), (1, .int p1), (2, .int n4), (3, .int t3), (4, .int u4)]), W p l e _ s m _ below meth c H locs 0 0 _ (F0 m 39 ls []) from ?_) _ y_70 y_71 uq lq wq pq dq (by omega) (by omega) (Nat.lt_succ_self _) H _ hP hD hS ls (lv_sub hl [2, 3, 1, 4, 0] rfl)
          intro k
          induction k with
          | zero => intro n4 u4 uqx lqx wqx pqx dqx hv0 hv1 hk_39; exact absurd hk_39 (Nat.not_lt_zero _)
          | succ k ih_39 =>
            intro n4 u4 uqx lqx wqx pqx dqx hv0 hv1 hk_39 H locs hP hD hS ls hl
            refine lv_iload hx hb dX9_count_39 (lv_at hl 4 rfl) ?_
            refine lv_aload_n hx hb dX9_count_41 rfl (lv_at hl 0 rfl) ?_
            refine va_get (D := (dC, dI)) (ci := 9) (v := .int th) (C := RX9) (T := TX9) (N := 22) hx hb hts in_X9_count_X9 hown hK hP 0 rfl rfl 0 (by decide) (hts (.fieldLink RX9 59 "MeetingsAboveModel" "things" "I") (by decide +kernel)) (fun _ h9 => h9) rfl dX9_count_42 ?_
            refine lv_icmp_ge (tgt := 77) hx hb dX9_count_45 (by decide) (fun c_45 => ?_) (fun c_45 => ?_)
            · have t_45 := (fa_le _ _).mp c_45
              obtain ⟨y_72, ey_72⟩ : ∃ y : Int32, y = t3 + 1 := ⟨_, rfl⟩
              have ty_72 : y_72.toInt = t3.toInt + 1 := by rw [ey_72]; have := fb_addI (x := t3) (y := 1) (by omega) (by omega); omega
              refine lv_iinc (v := y_72) (lv' := [(3, .int y_72), (0, .ref h0), (1, .int p1), (2, .int n4), (4, .int u4)]) hx hb dX9_count_77 hl (k := 3) rfl (by rw [ey_72]; rfl) (by decide) rfl (fun ls hl => ?_)
              refine lv_goto (tgt := 4) hx hb dX9_count_80 (by decide) ?_
              exact ih_4 n4 y_72 uqx lqx wqx pqx dqx (by omega) (by omega) (by omega) H _ (hP.sub [0, 1, 2, 3, 4, 5, 6, 7, 8] rfl) (hD.sub [0, 1, 2, 3, 4, 5, 6, 7, 8] (by decide) rfl) hS ls (lv_sub hl [1, 2, 3, 0] rfl)
            · have t_45 := mt (fa_le _ _).mpr c_45
              refine lv_iload_n hx hb dX9_count_48 rfl (lv_at hl 1 rfl) ?_
              refine lv_iconst (v := 2) hx hb dX9_count_49 (by decide) ?_
              refine lv_icmp_ne (tgt := 77) hx hb dX9_count_50 (by decide) (fun c_50 => ?_) (fun c_50 => ?_)
              · have t_50 := mt (fa_eq _ _).mpr c_50
                obtain ⟨y_73, ey_73⟩ : ∃ y : Int32, y = t3 + 1 := ⟨_, rfl⟩
                have ty_73 : y_73.toInt = t3.toInt + 1 := by rw [ey_73]; have := fb_addI (x := t3) (y := 1) (by omega) (by omega); omega
                refine lv_iinc (v := y_73) (lv' := [(3, .int y_73), (0, .ref h0), (1, .int p1), (2, .int n4), (4, .int u4)]) hx hb dX9_count_77 hl (k := 3) rfl (by rw [ey_73]; rfl) (by decide) rfl (fun ls hl => ?_)
                refine lv_goto (tgt := 4) hx hb dX9_count_80 (by decide) ?_
                exact ih_4 n4 y_73 uqx lqx wqx pqx dqx (by omega) (by omega) (by omega) H _ (hP.sub [0, 1, 2, 3, 4, 5, 6, 7, 8] rfl) (hD.sub [0, 1, 2, 3, 4, 5, 6, 7, 8] (by decide) rfl) hS ls (lv_sub hl [1, 2, 3, 0] rfl)
              · have t_50 := (fa_eq _ _).mp c_50
                refine lv_iload_n hx hb dX9_count_53 rfl (lv_at hl 2 rfl) ?_
                refine lv_aload_n hx hb dX9_count_54 rfl (lv_at hl 0 rfl) ?_
                refine lv_iload_n hx hb dX9_count_55 rfl (lv_at hl 3 rfl) ?_
                refine lv_iload hx hb dX9_count_56 (lv_at hl 4 rfl) ?_
                have hPc := hP.sub (ws' := [(h0, .inr (9, [.int th, .ref a1, .ref a2, .ref a3, .ref a4, .ref a5, .int ne, .int wi, .int dn, .ref a6, .ref a7, .int nn, .ref a8, .int la, .ref a9, .ref a10, .long uqx, .long lqx, .int wqx, .long pqx, .long dqx, .ref a11])), (a1, .inl (cI, 16, .inl Fi)), (a2, .inl (cI, 16, .inl Ma)), (a4, .inl (cZ, 16, .inl Go)), (a5, .inl (cI, 576, .inl Sp))]) [0, 1, 2, 4, 5] rfl
                have hKc := hK.sub (tys' := [(cI, .int), (cZ, .boolean)]) [0, 1] rfl
                have hDc := hD.sub (ws' := [(h0, .inr (9, [.int th, .ref a1, .ref a2, .ref a3, .ref a4, .ref a5, .int ne, .int wi, .int dn, .ref a6, .ref a7, .int nn, .ref a8, .int la, .ref a9, .ref a10, .long uqx, .long lqx, .int wqx, .long pqx, .long dqx, .ref a11])), (a1, .inl (cI, 16, .inl Fi)), (a2, .inl (cI, 16, .inl Ma)), (a4, .inl (cZ, 16, .inl Go)), (a5, .inl (cI, 576, .inl Sp))]) [0, 1, 2, 4, 5] (by decide) rfl
                have hFc := va_free (wc := [(h0, .inr (9, [.int th, .ref a1, .ref a2, .ref a3, .ref a4, .ref a5, .int ne, .int wi, .int dn, .ref a6, .ref a7, .int nn, .ref a8, .int la, .ref a9, .ref a10, .long uqx, .long lqx, .int wqx, .long pqx, .long dqx, .ref a11])), (a1, .inl (cI, 16, .inl Fi)), (a2, .inl (cI, 16, .inl Ma)), (a4, .inl (cZ, 16, .inl Go)), (a5, .inl (cI, 576, .inl Sp))]) hD hS hA [0, 1, 2, 4, 5] rfl
                refine va_calli (va_runV (As := [.int t3, .int u4]) (rest := [.int n4]) ⟨hx, hb, hml, hown, hts⟩ (c_X9_isMeeting l dC dI h0 a1 a2 a3 a4 a5 a6 a7 a8 a9 a10 a11 th ne wi dn nn la wqx uqx lqx pqx dqx cI cZ Fi Ma Go Sp t3 u4 H.size (by first | assumption | omega) (by first | omega | assumption) (by first | omega | assumption) (by first | omega | assumption) (by first | omega | assumption)) (cwV 2 hts g_X9_count__X9_isMeeting_106 rfl rfl rfl (by decide +kernel) ⟨Nat.le_of_ble_eq_true rfl, Nat.le_of_ble_eq_true rfl⟩) ⟨fun a U g mk q => by obtain ⟨q0, q1, qP, qK, qD⟩ := q; exact ⟨q0, q1, qP, va_K.moved (u := U) (U := U.calling g mk a) (Vm.Alike.refl U.vm) qK, qD⟩, va_recv hKc hPc (ci := 9) (q0 := 0) rfl rfl, fun U hU hW => ⟨rfl, by rw [hU], by rw [hU]; exact hPc, va_K.moved hW.alike hKc, hDc.weaken (fun _ _ _ _ => trivial)⟩⟩ rfl rfl hl.1 rfl (lv_room (Nat.le_of_ble_eq_true rfl)) dX9_count_58 ⟨Nat.le_of_ble_eq_true rfl, Nat.le_of_ble_eq_true rfl⟩) hS (fun q _ h => hFc q h) hFc (fun r_75 u_74 t H1 locs ht hvm hw_75 hB hz1 hk1 hS => ?_)
                obtain ⟨up9_76, wh9_77, pu9_78, pw9_79, hP1, hK1, hD1⟩ := hB
                rw [ht] at hP1
                have hK1 := va_K.moved hvm.symm hK1
                obtain ⟨hP, hD⟩ := va_join (wr := [(a3, .inl (cI, 16, .inl Db)), (a6, .inl (cI, 40, .inl Ds)), (a7, .inl (cI, 120, .inl Dp)), (a8, .inl (cI, 320, .inl No))]) (w1 := [(h0, .inr (9, [.int th, .ref a1, .ref a2, .ref a3, .ref a4, .ref a5, .int ne, .int wi, .int dn, .ref a6, .ref a7, .int nn, .ref a8, .int la, .ref a9, .ref a10, .long up9_76, .long u_74, .int wh9_77, .long pu9_78, .long pw9_79, .ref a11])), (a1, .inl (cI, 16, .inl Fi)), (a2, .inl (cI, 16, .inl Ma)), (a4, .inl (cZ, 16, .inl Go)), (a5, .inl (cI, 576, .inl Sp))]) hP hD [0, 1, 2, 4, 5] [3, 6, 7, 8] rfl rfl (by decide) (by decide) hk1 hFc hP1 hD1
                have hK := (hK.sub (tys' := [(cI, .int), (cZ, .boolean)]) [0, 1] rfl).app hK1
                generalize H1 = H at hP hS ⊢
                have hP : va_P (dC, dI) vwCl [(a3, .inl (cI, 16, .inl Db)), (a6, .inl (cI, 40, .inl Ds)), (a7, .inl (cI, 120, .inl Dp)), (a8, .inl (cI, 320, .inl No)), (h0, .inr (9, [.int th, .ref a1, .ref a2, .ref a3, .ref a4, .ref a5, .int ne, .int wi, .int dn, .ref a6, .ref a7, .int nn, .ref a8, .int la, .ref a9, .ref a10, .long up9_76, .long u_74, .int wh9_77, .long pu9_78, .long pw9_79, .ref a11])), (a1, .inl (cI, 16, .inl Fi)), (a2, .inl (cI, 16, .inl Ma)), (a4, .inl (cZ, 16, .inl Go)), (a5, .inl (cI, 576, .inl Sp))] H := hP
                have hD : va_D A [(a3, .inl (cI, 16, .inl Db)), (a6, .inl (cI, 40, .inl Ds)), (a7, .inl (cI, 120, .inl Dp)), (a8, .inl (cI, 320, .inl No)), (h0, .inr (9, [.int th, .ref a1, .ref a2, .ref a3, .ref a4, .ref a5, .int ne, .int wi, .int dn, .ref a6, .ref a7, .int nn, .ref a8, .int la, .ref a9, .ref a10, .long up9_76, .long u_74, .int wh9_77, .long pu9_78, .long pw9_79, .ref a11])), (a1, .inl (cI, 16, .inl Fi)), (a2, .inl (cI, 16, .inl Ma)), (a4, .inl (cZ, 16, .inl Go)), (a5, .inl (cI, 576, .inl Sp))] := hD
                have hK : va_K (dC, dI) vwCl [(cI, .int), (cZ, .boolean), (cI, .int), (cZ, .boolean)] s := hK
                refine W.widen (k := 0) (n := 0) (by omega) (by omega) ?_
                try dsimp only at hw_75
                refine lv_if_eq (tgt := 68) hx hb dX9_count_61 (by decide) (fun c_61 => ?_) (fun c_61 => ?_)
                · have t_61 := (fa_eq _ _).mp c_61
                  refine lv_iconst (v := 0) hx hb dX9_count_68 (by decide) ?_
                  refine lv_iadd hx hb dX9_count_69 ?_
                  refine lv_topi (fun y_80 ey_80 => ?_)
                  refine lv_istore_n (lv' := [(2, .int y_80), (0, .ref h0), (1, .int p1), (3, .int t3), (4, .int u4)]) hx hb dX9_count_70 rfl hl (by decide) rfl (fun ls hl => ?_)
                  obtain ⟨y_81, ey_81⟩ : ∃ y : Int32, y = u4 + 1 := ⟨_, rfl⟩
                  have ty_81 : y_81.toInt = u4.toInt + 1 := by rw [ey_81]; have := fb_addI (x := u4) (y := 1) (by omega) (by omega); omega
                  refine lv_iinc (v := y_81) (lv' := [(4, .int y_81), (2, .int y_80), (0, .ref h0), (1, .int p1), (3, .int t3)]) hx hb dX9_count_71 hl (k := 4) rfl (by rw [ey_81]; rfl) (by decide) rfl (fun ls hl => ?_)
                  refine lv_goto (tgt := 39) hx hb dX9_count_74 (by decide) ?_
                  exact ih_39 y_80 y_81 up9_76 u_74 wh9_77 pu9_78 pw9_79 (by omega) (by omega) (by omega) H _ (hP.sub [4, 5, 6, 0, 7, 8, 1, 2, 3] rfl) (hD.sub [4, 5, 6, 0, 7, 8, 1, 2, 3] (by decide) rfl) hS ls (lv_sub hl [2, 3, 1, 4, 0] rfl)
                · have t_61 := mt (fa_eq _ _).mpr c_61
                  refine lv_iconst (v := 1) hx hb dX9_count_64 (by decide) ?_
                  refine lv_goto (tgt := 69) hx hb dX9_count_65 (by decide) ?_
                  refine lv_iadd hx hb dX9_count_69 ?_
                  refine lv_topi (fun y_82 ey_82 => ?_)
                  refine lv_istore_n (lv' := [(2, .int y_82), (0, .ref h0), (1, .int p1), (3, .int t3), (4, .int u4)]) hx hb dX9_count_70 rfl hl (by decide) rfl (fun ls hl => ?_)
                  obtain ⟨y_83, ey_83⟩ : ∃ y : Int32, y = u4 + 1 := ⟨_, rfl⟩
                  have ty_83 : y_83.toInt = u4.toInt + 1 := by rw [ey_83]; have := fb_addI (x := u4) (y := 1) (by omega) (by omega); omega
                  refine lv_iinc (v := y_83) (lv' := [(4, .int y_83), (2, .int y_82), (0, .ref h0), (1, .int p1), (3, .int t3)]) hx hb dX9_count_71 hl (k := 4) rfl (by rw [ey_83]; rfl) (by decide) rfl (fun ls hl => ?_)
                  refine lv_goto (tgt := 39) hx hb dX9_count_74 (by decide) ?_
                  exact ih_39 y_82 y_83 up9_76 u_74 wh9_77 pu9_78 pw9_79 (by omega) (by omega) (by omega) H _ (hP.sub [4, 5, 6, 0, 7, 8, 1, 2, 3] rfl) (hD.sub [4, 5, 6, 0, 7, 8, 1, 2, 3] (by decide) rfl) hS ls (lv_sub hl [2, 3, 1, 4, 0] rfl)
def wk_X9_sieve : List Cond := .code yX9_sieve cX9_sieve 7 (some .int) :: (([.fieldLink RX9 19 "MeetingsAboveModel" "isGone" "[Z", .constant RX9 85 (-100003), .constant RX9 84 (-100001)] : List Cond) ++ (wsX90 ++ ((wsV RX9 80 RX9 yX9_isThing wk_X9_isThing) ++ ((wsV RX9 151 RX9 yX9_areTogether wk_X9_areTogether) ++ ((wsV RX9 140 RX9 yX9_firstOf wk_X9_firstOf) ++ ((wsV RX9 137 RX9 yX9_lastOf wk_X9_lastOf) ++ ((wsV RX9 174 RX9 yX9_isClearSome wk_X9_isClearSome) ++ ([]))))))))
theorem in_X9_sieve_X9 : ∀ w ∈ wsX90, w ∈ wk_X9_sieve := fun _ h => List.mem_cons_of_mem _ (List.mem_append_right _ (List.mem_append_left _ h))
theorem gw_X9_sieve : AG wk_X9_sieve := AG_ca (AG_l (by decide +kernel)) (AG_app ag_X9 (AG_app (AG_V gw_X9_isThing) (AG_app (AG_V gw_X9_areTogether) (AG_app (AG_V gw_X9_firstOf) (AG_app (AG_V gw_X9_lastOf) (AG_app (AG_V gw_X9_isClearSome) (AG_nil)))))))
theorem g_X9_sieve__X9_isThing_80 : GoodIn wk_X9_sieve (wsV RX9 80 RX9 yX9_isThing wk_X9_isThing) := goodIn_m (fun _ h => List.mem_cons_of_mem _ (List.mem_append_right _ (List.mem_append_right _ (List.mem_append_left _ h)))) (AG_V gw_X9_isThing)
theorem g_X9_sieve__X9_areTogether_151 : GoodIn wk_X9_sieve (wsV RX9 151 RX9 yX9_areTogether wk_X9_areTogether) := goodIn_m (fun _ h => List.mem_cons_of_mem _ (List.mem_append_right _ (List.mem_append_right _ (List.mem_append_right _ (List.mem_append_left _ h))))) (AG_V gw_X9_areTogether)
theorem g_X9_sieve__X9_firstOf_140 : GoodIn wk_X9_sieve (wsV RX9 140 RX9 yX9_firstOf wk_X9_firstOf) := goodIn_m (fun _ h => List.mem_cons_of_mem _ (List.mem_append_right _ (List.mem_append_right _ (List.mem_append_right _ (List.mem_append_right _ (List.mem_append_left _ h)))))) (AG_V gw_X9_firstOf)
theorem g_X9_sieve__X9_lastOf_137 : GoodIn wk_X9_sieve (wsV RX9 137 RX9 yX9_lastOf wk_X9_lastOf) := goodIn_m (fun _ h => List.mem_cons_of_mem _ (List.mem_append_right _ (List.mem_append_right _ (List.mem_append_right _ (List.mem_append_right _ (List.mem_append_right _ (List.mem_append_left _ h))))))) (AG_V gw_X9_lastOf)
theorem g_X9_sieve__X9_isClearSome_174 : GoodIn wk_X9_sieve (wsV RX9 174 RX9 yX9_isClearSome wk_X9_isClearSome) := goodIn_m (fun _ h => List.mem_cons_of_mem _ (List.mem_append_right _ (List.mem_append_right _ (List.mem_append_right _ (List.mem_append_right _ (List.mem_append_right _ (List.mem_append_right _ (List.mem_append_left _ h)))))))) (AG_V gw_X9_isClearSome)
set_option maxHeartbeats 4000000 in
set_option maxRecDepth 100000 in
theorem c_X9_sieve (l : Launch) (dC : Nat → ClassId) (dI : Nat → Nat → Nat) (h0 : Nat) (a1 : Nat) (a2 : Nat) (a3 : Nat) (a4 : Nat) (a5 : Nat) (a6 : Nat) (a7 : Nat) (a8 : Nat) (a9 : Nat) (a10 : Nat) (a11 : Nat) (th : Int32) (ne : Int32) (wi : Int32) (dn : Int32) (nn : Int32) (la : Int32) (wh : Int32) (up : Int64) (lw : Int64) (pu : Int64) (pw : Int64) (cI : ClassId) (cZ : ClassId) (Fi : Nat → Int32) (Ma : Nat → Int32) (Go : Nat → Int32) (Sp : Nat → Int32) (p1 : Int32) (p2 : Int32) (hM : mOK th Fi Ma) : Met l yX9_sieve wk_X9_sieve ({ frames := 3, cells := 0, slots := 0, locals := 79 }) (va_Pc [.ref h0, .int p1, .int p2] (fun U => va_P (dC, dI) vwCl [(h0, .inr (9, [.int th, .ref a1, .ref a2, .ref a3, .ref a4, .ref a5, .int ne, .int wi, .int dn, .ref a6, .ref a7, .int nn, .ref a8, .int la, .ref a9, .ref a10, .long up, .long lw, .int wh, .long pu, .long pw, .ref a11])), (a1, .inl (cI, 16, .inl Fi)), (a2, .inl (cI, 16, .inl Ma)), (a4, .inl (cZ, 16, .inl Go)), (a5, .inl (cI, 576, .inl Sp))] U.heap ∧ va_K (dC, dI) vwCl [(cI, .int), (cZ, .boolean)] U)) (vp_Si (fun r => True)) 0 0 (fun _ => False) := by
  refine Met.ofW (cc := cX9_sieve) (maxL := 7) (ret := (some .int)) (by decide) rfl ?_
  intro p e s m args below meth c s₁ B hml hv
  obtain ⟨rfl, hP, hK⟩ := hv
  have hx := B.exec
  have hb := B.bytes
  have hr := B.returns
  have hts := atoms_spec (ws := wk_X9_sieve) B.pre
  have hown : s.vm.findClass RX9 = some m.cls := findClass_of_methodNamed B.named
  have hlocks := B.notSynchronized
  have hP : va_P (dC, dI) vwCl [(h0, .inr (9, [.int th, .ref a1, .ref a2, .ref a3, .ref a4, .ref a5, .int ne, .int wi, .int dn, .ref a6, .ref a7, .int nn, .ref a8, .int la, .ref a9, .ref a10, .long up, .long lw, .int wh, .long pu, .long pw, .ref a11])), (a1, .inl (cI, 16, .inl Fi)), (a2, .inl (cI, 16, .inl Ma)), (a4, .inl (cZ, 16, .inl Go)), (a5, .inl (cI, 576, .inl Sp))] s.heap := hP
  have hl := lv_entry ([.ref h0, .int p1, .int p2]) (n := 7) (Nat.le_of_ble_eq_true rfl)
  rw [lg_entry_eq]
  generalize (lg_sl ([.ref h0, .int p1, .int p2]) ++ List.replicate (7 - (lg_sl ([.ref h0, .int p1, .int p2])).length) Slot.unset).toArray = ls at hl ⊢
  have hl : lv_has ls 7 [(0, .ref h0), (1, .int p1), (2, .int p2)] := hl
  have kl_m100003 : (-100003 : Int32).toInt = -100003 := by decide
  have kl_m100001 : (-100001 : Int32).toInt = -100001 := by decide
  have kl_0 : (0 : Int32).toInt = 0 := by decide
  have kl_1 : (1 : Int32).toInt = 1 := by decide
  have kl_2 : (2 : Int32).toInt = 2 := by decide
  have kl_3 : (3 : Int32).toInt = 3 := by decide
  obtain ⟨hM0, hM1, hM2⟩ := id hM
  refine lv_aload_n hx hb dX9_sieve_0 rfl (lv_at hl 0 rfl) ?_
  refine lv_iload_n hx hb dX9_sieve_1 rfl (lv_at hl 1 rfl) ?_
  have hPc := hP.sub (ws' := [(h0, .inr (9, [.int th, .ref a1, .ref a2, .ref a3, .ref a4, .ref a5, .int ne, .int wi, .int dn, .ref a6, .ref a7, .int nn, .ref a8, .int la, .ref a9, .ref a10, .long up, .long lw, .int wh, .long pu, .long pw, .ref a11]))]) [0] rfl
  have hKc := hK.sub (tys' := []) [] rfl
  refine vp_callSi (W.runV (As := [.int p1]) (rest := []) ⟨hx, hb, hml, hown, hts⟩ (c_X9_isThing l dC dI h0 a1 a2 a3 a4 a5 a6 a7 a8 a9 a10 a11 th ne wi dn nn la wh up lw pu pw p1 (by first | omega | assumption) (by first | omega | assumption)) (cwV 1 hts g_X9_sieve__X9_isThing_80 rfl rfl rfl (by decide +kernel) ⟨Nat.le_of_ble_eq_true rfl, Nat.le_of_ble_eq_true rfl⟩) ⟨fun a U g mk q => by obtain ⟨q0, qP, qK⟩ := q; exact ⟨q0, qP, va_K.moved (u := U) (U := U.calling g mk a) (Vm.Alike.refl U.vm) qK⟩, va_recv hKc hPc (ci := 9) (q0 := 0) rfl rfl, fun U hU hW => ⟨rfl, by rw [hU]; exact hPc, va_K.moved hW.alike hKc⟩⟩ rfl rfl hl.1 rfl (lv_room (Nat.le_of_ble_eq_true rfl)) dX9_sieve_2 ⟨Nat.le_of_ble_eq_true rfl, Nat.le_of_ble_eq_true rfl⟩) (fun r_1 hr_1 => ?_)
  try dsimp only at hr_1
  rcases bo_split hr_1 with ⟨rfl, q_2⟩ | ⟨rfl, q_2⟩
  · refine lv_if_eq (tgt := 16) hx hb dX9_sieve_5 (by decide) (fun h9 => absurd h9 (by decide)) (fun _ => ?_)
    refine lv_aload_n hx hb dX9_sieve_8 rfl (lv_at hl 0 rfl) ?_
    refine lv_iload_n hx hb dX9_sieve_9 rfl (lv_at hl 2 rfl) ?_
    have hPc := hP.sub (ws' := [(h0, .inr (9, [.int th, .ref a1, .ref a2, .ref a3, .ref a4, .ref a5, .int ne, .int wi, .int dn, .ref a6, .ref a7, .int nn, .ref a8, .int la, .ref a9, .ref a10, .long up, .long lw, .int wh, .long pu, .long pw, .ref a11]))]) [0] rfl
    have hKc := hK.sub (tys' := []) [] rfl
    refine vp_callSi (W.runV (As := [.int p2]) (rest := []) ⟨hx, hb, hml, hown, hts⟩ (c_X9_isThing l dC dI h0 a1 a2 a3 a4 a5 a6 a7 a8 a9 a10 a11 th ne wi dn nn la wh up lw pu pw p2 (by first | omega | assumption) (by first | omega | assumption)) (cwV 1 hts g_X9_sieve__X9_isThing_80 rfl rfl rfl (by decide +kernel) ⟨Nat.le_of_ble_eq_true rfl, Nat.le_of_ble_eq_true rfl⟩) ⟨fun a U g mk q => by obtain ⟨q0, qP, qK⟩ := q; exact ⟨q0, qP, va_K.moved (u := U) (U := U.calling g mk a) (Vm.Alike.refl U.vm) qK⟩, va_recv hKc hPc (ci := 9) (q0 := 0) rfl rfl, fun U hU hW => ⟨rfl, by rw [hU]; exact hPc, va_K.moved hW.alike hKc⟩⟩ rfl rfl hl.1 rfl (lv_room (Nat.le_of_ble_eq_true rfl)) dX9_sieve_10 ⟨Nat.le_of_ble_eq_true rfl, Nat.le_of_ble_eq_true rfl⟩) (fun r_2 hr_2 => ?_)
    try dsimp only at hr_2
    rcases bo_split hr_2 with ⟨rfl, q_10⟩ | ⟨rfl, q_10⟩
    · refine lv_if_ne (tgt := 19) hx hb dX9_sieve_13 (by decide) (fun _ => ?_) (fun h9 => absurd h9 (by decide))
      refine lv_iload_n hx hb dX9_sieve_19 rfl (lv_at hl 1 rfl) ?_
      refine lv_iload_n hx hb dX9_sieve_20 rfl (lv_at hl 2 rfl) ?_
      refine lv_icmp_ne (tgt := 27) hx hb dX9_sieve_21 (by decide) (fun c_21 => ?_) (fun c_21 => ?_)
      · have t_21 := mt (fa_eq _ _).mpr c_21
        have np1 : ((p1.toNatClampNeg : Nat) : Int) = p1.toInt := tc_I (by omega)
        have bp1 := hM2 p1.toNatClampNeg (by omega)
        have np2 : ((p2.toNatClampNeg : Nat) : Int) = p2.toInt := tc_I (by omega)
        have bp2 := hM2 p2.toNatClampNeg (by omega)
        refine lv_aload_n hx hb dX9_sieve_27 rfl (lv_at hl 0 rfl) ?_
        refine va_get (D := (dC, dI)) (ci := 9) (v := .ref a4) (C := RX9) (T := TX9) (N := 22) hx hb hts in_X9_sieve_X9 hown hK hP 0 rfl rfl 4 (by decide) (hts (.fieldLink RX9 19 "MeetingsAboveModel" "isGone" "[Z") (by decide +kernel)) (fun _ h9 => h9) rfl dX9_sieve_28 ?_
        refine lv_iload_n hx hb dX9_sieve_31 rfl (lv_at hl 1 rfl) ?_
        refine va_zald hx hb hK hP 3 1 rfl rfl (vp_in_iff.mpr ⟨by omega, by omega⟩) dX9_sieve_32 ?_
        refine lv_topi (fun y_3 ey_3 => ?_)
        refine lv_if_ne (tgt := 54) hx hb dX9_sieve_33 (by decide) (fun c_33 => ?_) (fun c_33 => ?_)
        · have t_33 := mt (fa_eq _ _).mpr c_33
          refine lv_iconst (v := 0) hx hb dX9_sieve_54 (by decide) ?_
          exact W.iret (v := 0) hx hb hr (fun t ht _ => ⟨_, rfl, trivial, ht⟩) (fun _ h => absurd h List.not_mem_nil) dX9_sieve_55
        · have t_33 := (fa_eq _ _).mp c_33
          refine lv_aload_n hx hb dX9_sieve_36 rfl (lv_at hl 0 rfl) ?_
          refine va_get (D := (dC, dI)) (ci := 9) (v := .ref a4) (C := RX9) (T := TX9) (N := 22) hx hb hts in_X9_sieve_X9 hown hK hP 0 rfl rfl 4 (by decide) (hts (.fieldLink RX9 19 "MeetingsAboveModel" "isGone" "[Z") (by decide +kernel)) (fun _ h9 => h9) rfl dX9_sieve_37 ?_
          refine lv_iload_n hx hb dX9_sieve_40 rfl (lv_at hl 2 rfl) ?_
          refine va_zald hx hb hK hP 3 1 rfl rfl (vp_in_iff.mpr ⟨by omega, by omega⟩) dX9_sieve_41 ?_
          refine lv_topi (fun y_4 ey_4 => ?_)
          refine lv_if_ne (tgt := 54) hx hb dX9_sieve_42 (by decide) (fun c_42 => ?_) (fun c_42 => ?_)
          · have t_42 := mt (fa_eq _ _).mpr c_42
            refine lv_iconst (v := 0) hx hb dX9_sieve_54 (by decide) ?_
            exact W.iret (v := 0) hx hb hr (fun t ht _ => ⟨_, rfl, trivial, ht⟩) (fun _ h => absurd h List.not_mem_nil) dX9_sieve_55
          · have t_42 := (fa_eq _ _).mp c_42
            refine lv_aload_n hx hb dX9_sieve_45 rfl (lv_at hl 0 rfl) ?_
            refine lv_iload_n hx hb dX9_sieve_46 rfl (lv_at hl 1 rfl) ?_
            refine lv_iload_n hx hb dX9_sieve_47 rfl (lv_at hl 2 rfl) ?_
            have hPc := hP.sub (ws' := [(h0, .inr (9, [.int th, .ref a1, .ref a2, .ref a3, .ref a4, .ref a5, .int ne, .int wi, .int dn, .ref a6, .ref a7, .int nn, .ref a8, .int la, .ref a9, .ref a10, .long up, .long lw, .int wh, .long pu, .long pw, .ref a11])), (a1, .inl (cI, 16, .inl Fi)), (a2, .inl (cI, 16, .inl Ma))]) [0, 1, 2] rfl
            have hKc := hK.sub (tys' := [(cI, .int)]) [0] rfl
            refine vp_callSi (W.runV (As := [.int p1, .int p2]) (rest := []) ⟨hx, hb, hml, hown, hts⟩ (c_X9_areTogether l dC dI h0 a1 a2 a3 a4 a5 a6 a7 a8 a9 a10 a11 th ne wi dn nn la wh up lw pu pw cI Fi Ma p1 p2 (by first | assumption | omega) (by first | omega | assumption) (by first | omega | assumption) (by first | omega | assumption) (by first | omega | assumption)) (cwV 2 hts g_X9_sieve__X9_areTogether_151 rfl rfl rfl (by decide +kernel) ⟨Nat.le_of_ble_eq_true rfl, Nat.le_of_ble_eq_true rfl⟩) ⟨fun a U g mk q => by obtain ⟨q0, qP, qK⟩ := q; exact ⟨q0, qP, va_K.moved (u := U) (U := U.calling g mk a) (Vm.Alike.refl U.vm) qK⟩, va_recv hKc hPc (ci := 9) (q0 := 0) rfl rfl, fun U hU hW => ⟨rfl, by rw [hU]; exact hPc, va_K.moved hW.alike hKc⟩⟩ rfl rfl hl.1 rfl (lv_room (Nat.le_of_ble_eq_true rfl)) dX9_sieve_48 ⟨Nat.le_of_ble_eq_true rfl, Nat.le_of_ble_eq_true rfl⟩) (fun r_5 hr_5 => ?_)
            try dsimp only at hr_5
            rcases bo_split hr_5 with ⟨rfl, q_48⟩ | ⟨rfl, q_48⟩
            · refine lv_if_ne (tgt := 56) hx hb dX9_sieve_51 (by decide) (fun _ => ?_) (fun h9 => absurd h9 (by decide))
              refine lv_aload_n hx hb dX9_sieve_56 rfl (lv_at hl 0 rfl) ?_
              refine lv_iload_n hx hb dX9_sieve_57 rfl (lv_at hl 1 rfl) ?_
              refine lv_iload_n hx hb dX9_sieve_58 rfl (lv_at hl 2 rfl) ?_
              have hPc := hP.sub (ws' := [(h0, .inr (9, [.int th, .ref a1, .ref a2, .ref a3, .ref a4, .ref a5, .int ne, .int wi, .int dn, .ref a6, .ref a7, .int nn, .ref a8, .int la, .ref a9, .ref a10, .long up, .long lw, .int wh, .long pu, .long pw, .ref a11])), (a1, .inl (cI, 16, .inl Fi))]) [0, 1] rfl
              have hKc := hK.sub (tys' := [(cI, .int)]) [0] rfl
              refine vp_callSi (W.runV (As := [.int p1, .int p2]) (rest := []) ⟨hx, hb, hml, hown, hts⟩ (c_X9_firstOf l dC dI Ma h0 a1 a2 a3 a4 a5 a6 a7 a8 a9 a10 a11 th ne wi dn nn la wh up lw pu pw cI Fi p1 p2 (by first | assumption | omega) (by first | omega | assumption) (by first | omega | assumption) (by first | omega | assumption) (by first | omega | assumption)) (cwV 2 hts g_X9_sieve__X9_firstOf_140 rfl rfl rfl (by decide +kernel) ⟨Nat.le_of_ble_eq_true rfl, Nat.le_of_ble_eq_true rfl⟩) ⟨fun a U g mk q => by obtain ⟨q0, qP, qK⟩ := q; exact ⟨q0, qP, va_K.moved (u := U) (U := U.calling g mk a) (Vm.Alike.refl U.vm) qK⟩, va_recv hKc hPc (ci := 9) (q0 := 0) rfl rfl, fun U hU hW => ⟨rfl, by rw [hU]; exact hPc, va_K.moved hW.alike hKc⟩⟩ rfl rfl hl.1 rfl (lv_room (Nat.le_of_ble_eq_true rfl)) dX9_sieve_59 ⟨Nat.le_of_ble_eq_true rfl, Nat.le_of_ble_eq_true rfl⟩) (fun r_6 hr_6 => ?_)
              try dsimp only at hr_6
              refine lv_istore_n (lv' := [(3, .int r_6), (0, .ref h0), (1, .int p1), (2, .int p2)]) hx hb dX9_sieve_62 rfl hl (by decide) rfl (fun ls hl => ?_)
              refine lv_aload_n hx hb dX9_sieve_63 rfl (lv_at hl 1 rfl) ?_
              refine lv_iload_n hx hb dX9_sieve_64 rfl (lv_at hl 2 rfl) ?_
              refine lv_iload_n hx hb dX9_sieve_65 rfl (lv_at hl 3 rfl) ?_
              have hPc := hP.sub (ws' := [(h0, .inr (9, [.int th, .ref a1, .ref a2, .ref a3, .ref a4, .ref a5, .int ne, .int wi, .int dn, .ref a6, .ref a7, .int nn, .ref a8, .int la, .ref a9, .ref a10, .long up, .long lw, .int wh, .long pu, .long pw, .ref a11])), (a1, .inl (cI, 16, .inl Fi)), (a2, .inl (cI, 16, .inl Ma))]) [0, 1, 2] rfl
              have hKc := hK.sub (tys' := [(cI, .int)]) [0] rfl
              refine vp_callSi (W.runV (As := [.int p1, .int p2]) (rest := []) ⟨hx, hb, hml, hown, hts⟩ (c_X9_lastOf l dC dI h0 a1 a2 a3 a4 a5 a6 a7 a8 a9 a10 a11 th ne wi dn nn la wh up lw pu pw cI Fi Ma p1 p2 (by first | assumption | omega) (by first | omega | assumption) (by first | omega | assumption) (by first | omega | assumption) (by first | omega | assumption)) (cwV 2 hts g_X9_sieve__X9_lastOf_137 rfl rfl rfl (by decide +kernel) ⟨Nat.le_of_ble_eq_true rfl, Nat.le_of_ble_eq_true rfl⟩) ⟨fun a U g mk q => by obtain ⟨q0, qP, qK⟩ := q; exact ⟨q0, qP, va_K.moved (u := U) (U := U.calling g mk a) (Vm.Alike.refl U.vm) qK⟩, va_recv hKc hPc (ci := 9) (q0 := 0) rfl rfl, fun U hU hW => ⟨rfl, by rw [hU]; exact hPc, va_K.moved hW.alike hKc⟩⟩ rfl rfl hl.1 rfl (lv_room (Nat.le_of_ble_eq_true rfl)) dX9_sieve_66 ⟨Nat.le_of_ble_eq_true rfl, Nat.le_of_ble_eq_true rfl⟩) (fun r_7 hr_7 => ?_)
              try dsimp only at hr_7
              refine lv_istore (lv' := [(4, .int r_7), (3, .int r_6), (0, .ref h0), (1, .int p1), (2, .int p2)]) hx hb dX9_sieve_69 hl (by decide) rfl (fun ls hl => ?_)
              refine lv_aload_n hx hb dX9_sieve_71 rfl (lv_at hl 2 rfl) ?_
              refine lv_iload_n hx hb dX9_sieve_72 rfl (lv_at hl 3 rfl) ?_
              refine lv_iload_n hx hb dX9_sieve_73 rfl (lv_at hl 4 rfl) ?_
              refine lv_iload_n hx hb dX9_sieve_74 rfl (lv_at hl 1 rfl) ?_
              refine lv_iload hx hb dX9_sieve_75 (lv_at hl 0 rfl) ?_
              have hPc := hP.sub (ws' := [(h0, .inr (9, [.int th, .ref a1, .ref a2, .ref a3, .ref a4, .ref a5, .int ne, .int wi, .int dn, .ref a6, .ref a7, .int nn, .ref a8, .int la, .ref a9, .ref a10, .long up, .long lw, .int wh, .long pu, .long pw, .ref a11])), (a1, .inl (cI, 16, .inl Fi)), (a2, .inl (cI, 16, .inl Ma)), (a5, .inl (cI, 576, .inl Sp))]) [0, 1, 2, 4] rfl
              have hKc := hK.sub (tys' := [(cI, .int)]) [0] rfl
              refine vp_callSi (W.runV (As := [.int p1, .int p2, .int r_6, .int r_7]) (rest := []) ⟨hx, hb, hml, hown, hts⟩ (c_X9_isClearSome l dC dI h0 a1 a2 a3 a4 a5 a6 a7 a8 a9 a10 a11 th ne wi dn nn la wh up lw pu pw cI Fi Ma Sp p1 p2 r_6 r_7 (by first | assumption | omega) (by first | omega | assumption) (by first | omega | assumption) (by first | omega | assumption) (by first | omega | assumption) (by first | omega | assumption) (by first | omega | assumption) (by first | omega | assumption) (by first | omega | assumption) (by first | omega | assumption)) (cwV 4 hts g_X9_sieve__X9_isClearSome_174 rfl rfl rfl (by decide +kernel) ⟨Nat.le_of_ble_eq_true rfl, Nat.le_of_ble_eq_true rfl⟩) ⟨fun a U g mk q => by obtain ⟨q0, qP, qK⟩ := q; exact ⟨q0, qP, va_K.moved (u := U) (U := U.calling g mk a) (Vm.Alike.refl U.vm) qK⟩, va_recv hKc hPc (ci := 9) (q0 := 0) rfl rfl, fun U hU hW => ⟨rfl, by rw [hU]; exact hPc, va_K.moved hW.alike hKc⟩⟩ rfl rfl hl.1 rfl (lv_room (Nat.le_of_ble_eq_true rfl)) dX9_sieve_77 ⟨Nat.le_of_ble_eq_true rfl, Nat.le_of_ble_eq_true rfl⟩) (fun r_8 hr_8 => ?_)
              try dsimp only at hr_8
              refine lv_if_eq (tgt := 85) hx hb dX9_sieve_80 (by decide) (fun c_80 => ?_) (fun c_80 => ?_)
              · have t_80 := (fa_eq _ _).mp c_80
                refine lv_iload_n hx hb dX9_sieve_85 rfl (lv_at hl 1 rfl) ?_
                refine lv_iload hx hb dX9_sieve_86 (lv_at hl 0 rfl) ?_
                refine lv_icmp_ge (tgt := 95) hx hb dX9_sieve_88 (by decide) (fun c_88 => ?_) (fun c_88 => ?_)
                · have t_88 := (fa_le _ _).mp c_88
                  refine lv_iconst (v := 0) hx hb dX9_sieve_95 (by decide) ?_
                  refine lv_istore (lv' := [(5, .int 0), (4, .int r_7), (3, .int r_6), (0, .ref h0), (1, .int p1), (2, .int p2)]) hx hb dX9_sieve_96 hl (by decide) rfl (fun ls hl => ?_)
                  refine lv_iload_n hx hb dX9_sieve_98 rfl (lv_at hl 2 rfl) ?_
                  refine lv_istore (lv' := [(6, .int r_6), (5, .int 0), (4, .int r_7), (3, .int r_6), (0, .ref h0), (1, .int p1), (2, .int p2)]) hx hb dX9_sieve_99 hl (by decide) rfl (fun ls hl => ?_)
                  refine (show ∀ (k : Nat) (w5 : Int32) (k6 : Int32) (hk0 : r_6.toInt ≤ k6.toInt) (hk1 : k6.toInt ≤ r_7.toInt) (hk_101 : (r_7.toInt - k6.toInt).toNat < k) (ls : Array Slot) (hl : lv_has ls 7 [(0, .ref h0), (1, .int p1), (2, .int p2), (3, .int r_6), (4, .int r_7), (5, .int w5), (6, .int k6)]), W p l e _ s m _ below meth c s.heap [] 0 0 _ (F0 m 101 ls []) from ?_) _ 0 r_6 (by omega) (by omega) (Nat.lt_succ_self _) ls (lv_sub hl [4, 5, 6, 3, 2, 1, 0] rfl)
                  intro k
                  induction k with
                  | zero => intro w5 k6 hk0 hk1 hk_101; exact absurd hk_101 (Nat.not_lt_zero _)
                  | succ k ih_101 =>
                    intro w5 k6 hk0 hk1 hk_101 ls hl
                    refine lv_iload hx hb dX9_sieve_101 (lv_at hl 6 rfl) ?_
                    refine lv_iload hx hb dX9_sieve_103 (lv_at hl 4 rfl) ?_
                    refine lv_icmp_ge (tgt := 141) hx hb dX9_sieve_105 (by decide) (fun c_105 => ?_) (fun c_105 => ?_)
                    · have t_105 := (fa_le _ _).mp c_105
                      refine lv_iload hx hb dX9_sieve_141 (lv_at hl 5 rfl) ?_
                      refine lv_if_eq (tgt := 150) hx hb dX9_sieve_143 (by decide) (fun c_143 => ?_) (fun c_143 => ?_)
                      · have t_143 := (fa_eq _ _).mp c_143
                        refine lv_iconst (v := 3) hx hb dX9_sieve_150 (by decide) ?_
                        exact W.iret (v := 3) hx hb hr (fun t ht _ => ⟨_, rfl, trivial, ht⟩) (fun _ h => absurd h List.not_mem_nil) dX9_sieve_151
                      · have t_143 := mt (fa_eq _ _).mpr c_143
                        refine lv_iconst (v := 2) hx hb dX9_sieve_146 (by decide) ?_
                        refine lv_goto (tgt := 151) hx hb dX9_sieve_147 (by decide) ?_
                        exact W.iret (v := 2) hx hb hr (fun t ht _ => ⟨_, rfl, trivial, ht⟩) (fun _ h => absurd h List.not_mem_nil) dX9_sieve_151
                    · have t_105 := mt (fa_le _ _).mpr c_105
                      refine lv_iload hx hb dX9_sieve_108 (lv_at hl 5 rfl) ?_
                      refine lv_if_eq (tgt := 132) hx hb dX9_sieve_110 (by decide) (fun c_110 => ?_) (fun c_110 => ?_)
                      · have t_110 := (fa_eq _ _).mp c_110
                        refine lv_iconst (v := 0) hx hb dX9_sieve_132 (by decide) ?_
                        refine lv_istore (lv' := [(5, .int 0), (0, .ref h0), (1, .int p1), (2, .int p2), (3, .int r_6), (4, .int r_7), (6, .int k6)]) hx hb dX9_sieve_133 hl (by decide) rfl (fun ls hl => ?_)
                        obtain ⟨y_9, ey_9⟩ : ∃ y : Int32, y = k6 + 1 := ⟨_, rfl⟩
                        have ty_9 : y_9.toInt = k6.toInt + 1 := by rw [ey_9]; have := fb_addI (x := k6) (y := 1) (by omega) (by omega); omega
                        refine lv_iinc (v := y_9) (lv' := [(6, .int y_9), (5, .int 0), (0, .ref h0), (1, .int p1), (2, .int p2), (3, .int r_6), (4, .int r_7)]) hx hb dX9_sieve_135 hl (k := 6) rfl (by rw [ey_9]; rfl) (by decide) rfl (fun ls hl => ?_)
                        refine lv_goto (tgt := 101) hx hb dX9_sieve_138 (by decide) ?_
                        exact ih_101 0 y_9 (by omega) (by omega) (by omega) ls (lv_sub hl [2, 3, 4, 5, 6, 1, 0] rfl)
                      · have t_110 := mt (fa_eq _ _).mpr c_110
                        refine lv_aload_n hx hb dX9_sieve_113 rfl (lv_at hl 0 rfl) ?_
                        refine lv_iload_n hx hb dX9_sieve_114 rfl (lv_at hl 1 rfl) ?_
                        refine lv_iload_n hx hb dX9_sieve_115 rfl (lv_at hl 2 rfl) ?_
                        refine lv_iload hx hb dX9_sieve_116 (lv_at hl 6 rfl) ?_
                        refine lv_iload hx hb dX9_sieve_118 (lv_at hl 6 rfl) ?_
                        refine lv_iconst (v := 1) hx hb dX9_sieve_120 (by decide) ?_
                        refine lv_iadd hx hb dX9_sieve_121 ?_
                        refine lv_topi (fun y_10 ey_10 => ?_)
                        have ty_10 : y_10.toInt = k6.toInt + 1 := by rw [ey_10]; have := fb_addI (x := k6) (y := 1) (by omega) (by omega); omega
                        have hPc := hP.sub (ws' := [(h0, .inr (9, [.int th, .ref a1, .ref a2, .ref a3, .ref a4, .ref a5, .int ne, .int wi, .int dn, .ref a6, .ref a7, .int nn, .ref a8, .int la, .ref a9, .ref a10, .long up, .long lw, .int wh, .long pu, .long pw, .ref a11])), (a1, .inl (cI, 16, .inl Fi)), (a2, .inl (cI, 16, .inl Ma)), (a5, .inl (cI, 576, .inl Sp))]) [0, 1, 2, 4] rfl
                        have hKc := hK.sub (tys' := [(cI, .int)]) [0] rfl
                        refine vp_callSi (W.runV (As := [.int p1, .int p2, .int k6, .int y_10]) (rest := []) ⟨hx, hb, hml, hown, hts⟩ (c_X9_isClearSome l dC dI h0 a1 a2 a3 a4 a5 a6 a7 a8 a9 a10 a11 th ne wi dn nn la wh up lw pu pw cI Fi Ma Sp p1 p2 k6 y_10 (by first | assumption | omega) (by first | omega | assumption) (by first | omega | assumption) (by first | omega | assumption) (by first | omega | assumption) (by first | omega | assumption) (by first | omega | assumption) (by first | omega | assumption) (by first | omega | assumption) (by first | omega | assumption)) (cwV 4 hts g_X9_sieve__X9_isClearSome_174 rfl rfl rfl (by decide +kernel) ⟨Nat.le_of_ble_eq_true rfl, Nat.le_of_ble_eq_true rfl⟩) ⟨fun a U g mk q => by obtain ⟨q0, qP, qK⟩ := q; exact ⟨q0, qP, va_K.moved (u := U) (U := U.calling g mk a) (Vm.Alike.refl U.vm) qK⟩, va_recv hKc hPc (ci := 9) (q0 := 0) rfl rfl, fun U hU hW => ⟨rfl, by rw [hU]; exact hPc, va_K.moved hW.alike hKc⟩⟩ rfl rfl hl.1 rfl (lv_room (Nat.le_of_ble_eq_true rfl)) dX9_sieve_122 ⟨Nat.le_of_ble_eq_true rfl, Nat.le_of_ble_eq_true rfl⟩) (fun r_11 hr_11 => ?_)
                        try dsimp only at hr_11
                        refine lv_if_eq (tgt := 132) hx hb dX9_sieve_125 (by decide) (fun c_125 => ?_) (fun c_125 => ?_)
                        · have t_125 := (fa_eq _ _).mp c_125
                          refine lv_iconst (v := 0) hx hb dX9_sieve_132 (by decide) ?_
                          refine lv_istore (lv' := [(5, .int 0), (0, .ref h0), (1, .int p1), (2, .int p2), (3, .int r_6), (4, .int r_7), (6, .int k6)]) hx hb dX9_sieve_133 hl (by decide) rfl (fun ls hl => ?_)
                          obtain ⟨y_12, ey_12⟩ : ∃ y : Int32, y = k6 + 1 := ⟨_, rfl⟩
                          have ty_12 : y_12.toInt = k6.toInt + 1 := by rw [ey_12]; have := fb_addI (x := k6) (y := 1) (by omega) (by omega); omega
                          refine lv_iinc (v := y_12) (lv' := [(6, .int y_12), (5, .int 0), (0, .ref h0), (1, .int p1), (2, .int p2), (3, .int r_6), (4, .int r_7)]) hx hb dX9_sieve_135 hl (k := 6) rfl (by rw [ey_12]; rfl) (by decide) rfl (fun ls hl => ?_)
                          refine lv_goto (tgt := 101) hx hb dX9_sieve_138 (by decide) ?_
                          exact ih_101 0 y_12 (by omega) (by omega) (by omega) ls (lv_sub hl [2, 3, 4, 5, 6, 1, 0] rfl)
                        · have t_125 := mt (fa_eq _ _).mpr c_125
                          refine lv_iconst (v := 1) hx hb dX9_sieve_128 (by decide) ?_
                          refine lv_goto (tgt := 133) hx hb dX9_sieve_129 (by decide) ?_
                          refine lv_istore (lv' := [(5, .int 1), (0, .ref h0), (1, .int p1), (2, .int p2), (3, .int r_6), (4, .int r_7), (6, .int k6)]) hx hb dX9_sieve_133 hl (by decide) rfl (fun ls hl => ?_)
                          obtain ⟨y_13, ey_13⟩ : ∃ y : Int32, y = k6 + 1 := ⟨_, rfl⟩
                          have ty_13 : y_13.toInt = k6.toInt + 1 := by rw [ey_13]; have := fb_addI (x := k6) (y := 1) (by omega) (by omega); omega
                          refine lv_iinc (v := y_13) (lv' := [(6, .int y_13), (5, .int 1), (0, .ref h0), (1, .int p1), (2, .int p2), (3, .int r_6), (4, .int r_7)]) hx hb dX9_sieve_135 hl (k := 6) rfl (by rw [ey_13]; rfl) (by decide) rfl (fun ls hl => ?_)
                          refine lv_goto (tgt := 101) hx hb dX9_sieve_138 (by decide) ?_
                          exact ih_101 1 y_13 (by omega) (by omega) (by omega) ls (lv_sub hl [2, 3, 4, 5, 6, 1, 0] rfl)
                · have t_88 := mt (fa_le _ _).mpr c_88
                  refine lv_iconst (v := 1) hx hb dX9_sieve_91 (by decide) ?_
                  refine lv_goto (tgt := 96) hx hb dX9_sieve_92 (by decide) ?_
                  refine lv_istore (lv' := [(5, .int 1), (4, .int r_7), (3, .int r_6), (0, .ref h0), (1, .int p1), (2, .int p2)]) hx hb dX9_sieve_96 hl (by decide) rfl (fun ls hl => ?_)
                  refine lv_iload_n hx hb dX9_sieve_98 rfl (lv_at hl 2 rfl) ?_
                  refine lv_istore (lv' := [(6, .int r_6), (5, .int 1), (4, .int r_7), (3, .int r_6), (0, .ref h0), (1, .int p1), (2, .int p2)]) hx hb dX9_sieve_99 hl (by decide) rfl (fun ls hl => ?_)
                  refine (show ∀ (k : Nat) (w5 : Int32) (k6 : Int32) (hk0 : r_6.toInt ≤ k6.toInt) (hk1 : k6.toInt ≤ r_7.toInt) (hk_101 : (r_7.toInt - k6.toInt).toNat < k) (ls : Array Slot) (hl : lv_has ls 7 [(0, .ref h0), (1, .int p1), (2, .int p2), (3, .int r_6), (4, .int r_7), (5, .int w5), (6, .int k6)]), W p l e _ s m _ below meth c s.heap [] 0 0 _ (F0 m 101 ls []) from ?_) _ 1 r_6 (by omega) (by omega) (Nat.lt_succ_self _) ls (lv_sub hl [4, 5, 6, 3, 2, 1, 0] rfl)
                  intro k
                  induction k with
                  | zero => intro w5 k6 hk0 hk1 hk_101; exact absurd hk_101 (Nat.not_lt_zero _)
                  | succ k ih_101 =>
                    intro w5 k6 hk0 hk1 hk_101 ls hl
                    refine lv_iload hx hb dX9_sieve_101 (lv_at hl 6 rfl) ?_
                    refine lv_iload hx hb dX9_sieve_103 (lv_at hl 4 rfl) ?_
                    refine lv_icmp_ge (tgt := 141) hx hb dX9_sieve_105 (by decide) (fun c_105 => ?_) (fun c_105 => ?_)
                    · have t_105 := (fa_le _ _).mp c_105
                      refine lv_iload hx hb dX9_sieve_141 (lv_at hl 5 rfl) ?_
                      refine lv_if_eq (tgt := 150) hx hb dX9_sieve_143 (by decide) (fun c_143 => ?_) (fun c_143 => ?_)
                      · have t_143 := (fa_eq _ _).mp c_143
                        refine lv_iconst (v := 3) hx hb dX9_sieve_150 (by decide) ?_
                        exact W.iret (v := 3) hx hb hr (fun t ht _ => ⟨_, rfl, trivial, ht⟩) (fun _ h => absurd h List.not_mem_nil) dX9_sieve_151
                      · have t_143 := mt (fa_eq _ _).mpr c_143
                        refine lv_iconst (v := 2) hx hb dX9_sieve_146 (by decide) ?_
                        refine lv_goto (tgt := 151) hx hb dX9_sieve_147 (by decide) ?_
                        exact W.iret (v := 2) hx hb hr (fun t ht _ => ⟨_, rfl, trivial, ht⟩) (fun _ h => absurd h List.not_mem_nil) dX9_sieve_151
                    · have t_105 := mt (fa_le _ _).mpr c_105
                      refine lv_iload hx hb dX9_sieve_108 (lv_at hl 5 rfl) ?_
                      refine lv_if_eq (tgt := 132) hx hb dX9_sieve_110 (by decide) (fun c_110 => ?_) (fun c_110 => ?_)
                      · have t_110 := (fa_eq _ _).mp c_110
                        refine lv_iconst (v := 0) hx hb dX9_sieve_132 (by decide) ?_
                        refine lv_istore (lv' := [(5, .int 0), (0, .ref h0), (1, .int p1), (2, .int p2), (3, .int r_6), (4, .int r_7), (6, .int k6)]) hx hb dX9_sieve_133 hl (by decide) rfl (fun ls hl => ?_)
                        obtain ⟨y_14, ey_14⟩ : ∃ y : Int32, y = k6 + 1 := ⟨_, rfl⟩
                        have ty_14 : y_14.toInt = k6.toInt + 1 := by rw [ey_14]; have := fb_addI (x := k6) (y := 1) (by omega) (by omega); omega
                        refine lv_iinc (v := y_14) (lv' := [(6, .int y_14), (5, .int 0), (0, .ref h0), (1, .int p1), (2, .int p2), (3, .int r_6), (4, .int r_7)]) hx hb dX9_sieve_135 hl (k := 6) rfl (by rw [ey_14]; rfl) (by decide) rfl (fun ls hl => ?_)
                        refine lv_goto (tgt := 101) hx hb dX9_sieve_138 (by decide) ?_
                        exact ih_101 0 y_14 (by omega) (by omega) (by omega) ls (lv_sub hl [2, 3, 4, 5, 6, 1, 0] rfl)
                      · have t_110 := mt (fa_eq _ _).mpr c_110
                        refine lv_aload_n hx hb dX9_sieve_113 rfl (lv_at hl 0 rfl) ?_
                        refine lv_iload_n hx hb dX9_sieve_114 rfl (lv_at hl 1 rfl) ?_
                        refine lv_iload_n hx hb dX9_sieve_115 rfl (lv_at hl 2 rfl) ?_
                        refine lv_iload hx hb dX9_sieve_116 (lv_at hl 6 rfl) ?_
                        refine lv_iload hx hb dX9_sieve_118 (lv_at hl 6 rfl) ?_
                        refine lv_iconst (v := 1) hx hb dX9_sieve_120 (by decide) ?_
                        refine lv_iadd hx hb dX9_sieve_121 ?_
                        refine lv_topi (fun y_15 ey_15 => ?_)
                        have ty_15 : y_15.toInt = k6.toInt + 1 := by rw [ey_15]; have := fb_addI (x := k6) (y := 1) (by omega) (by omega); omega
                        have hPc := hP.sub (ws' := [(h0, .inr (9, [.int th, .ref a1, .ref a2, .ref a3, .ref a4, .ref a5, .int ne, .int wi, .int dn, .ref a6, .ref a7, .int nn, .ref a8, .int la, .ref a9, .ref a10, .long up, .long lw, .int wh, .long pu, .long pw, .ref a11])), (a1, .inl (cI, 16, .inl Fi)), (a2, .inl (cI, 16, .inl Ma)), (a5, .inl (cI, 576, .inl Sp))]) [0, 1, 2, 4] rfl
                        have hKc := hK.sub (tys' := [(cI, .int)]) [0] rfl
                        refine vp_callSi (W.runV (As := [.int p1, .int p2, .int k6, .int y_15]) (rest := []) ⟨hx, hb, hml, hown, hts⟩ (c_X9_isClearSome l dC dI h0 a1 a2 a3 a4 a5 a6 a7 a8 a9 a10 a11 th ne wi dn nn la wh up lw pu pw cI Fi Ma Sp p1 p2 k6 y_15 (by first | assumption | omega) (by first | omega | assumption) (by first | omega | assumption) (by first | omega | assumption) (by first | omega | assumption) (by first | omega | assumption) (by first | omega | assumption) (by first | omega | assumption) (by first | omega | assumption) (by first | omega | assumption)) (cwV 4 hts g_X9_sieve__X9_isClearSome_174 rfl rfl rfl (by decide +kernel) ⟨Nat.le_of_ble_eq_true rfl, Nat.le_of_ble_eq_true rfl⟩) ⟨fun a U g mk q => by obtain ⟨q0, qP, qK⟩ := q; exact ⟨q0, qP, va_K.moved (u := U) (U := U.calling g mk a) (Vm.Alike.refl U.vm) qK⟩, va_recv hKc hPc (ci := 9) (q0 := 0) rfl rfl, fun U hU hW => ⟨rfl, by rw [hU]; exact hPc, va_K.moved hW.alike hKc⟩⟩ rfl rfl hl.1 rfl (lv_room (Nat.le_of_ble_eq_true rfl)) dX9_sieve_122 ⟨Nat.le_of_ble_eq_true rfl, Nat.le_of_ble_eq_true rfl⟩) (fun r_16 hr_16 => ?_)
                        try dsimp only at hr_16
                        refine lv_if_eq (tgt := 132) hx hb dX9_sieve_125 (by decide) (fun c_125 => ?_) (fun c_125 => ?_)
                        · have t_125 := (fa_eq _ _).mp c_125
                          refine lv_iconst (v := 0) hx hb dX9_sieve_132 (by decide) ?_
                          refine lv_istore (lv' := [(5, .int 0), (0, .ref h0), (1, .int p1), (2, .int p2), (3, .int r_6), (4, .int r_7), (6, .int k6)]) hx hb dX9_sieve_133 hl (by decide) rfl (fun ls hl => ?_)
                          obtain ⟨y_17, ey_17⟩ : ∃ y : Int32, y = k6 + 1 := ⟨_, rfl⟩
                          have ty_17 : y_17.toInt = k6.toInt + 1 := by rw [ey_17]; have := fb_addI (x := k6) (y := 1) (by omega) (by omega); omega
                          refine lv_iinc (v := y_17) (lv' := [(6, .int y_17), (5, .int 0), (0, .ref h0), (1, .int p1), (2, .int p2), (3, .int r_6), (4, .int r_7)]) hx hb dX9_sieve_135 hl (k := 6) rfl (by rw [ey_17]; rfl) (by decide) rfl (fun ls hl => ?_)
                          refine lv_goto (tgt := 101) hx hb dX9_sieve_138 (by decide) ?_
                          exact ih_101 0 y_17 (by omega) (by omega) (by omega) ls (lv_sub hl [2, 3, 4, 5, 6, 1, 0] rfl)
                        · have t_125 := mt (fa_eq _ _).mpr c_125
                          refine lv_iconst (v := 1) hx hb dX9_sieve_128 (by decide) ?_
                          refine lv_goto (tgt := 133) hx hb dX9_sieve_129 (by decide) ?_
                          refine lv_istore (lv' := [(5, .int 1), (0, .ref h0), (1, .int p1), (2, .int p2), (3, .int r_6), (4, .int r_7), (6, .int k6)]) hx hb dX9_sieve_133 hl (by decide) rfl (fun ls hl => ?_)
                          obtain ⟨y_18, ey_18⟩ : ∃ y : Int32, y = k6 + 1 := ⟨_, rfl⟩
                          have ty_18 : y_18.toInt = k6.toInt + 1 := by rw [ey_18]; have := fb_addI (x := k6) (y := 1) (by omega) (by omega); omega
                          refine lv_iinc (v := y_18) (lv' := [(6, .int y_18), (5, .int 1), (0, .ref h0), (1, .int p1), (2, .int p2), (3, .int r_6), (4, .int r_7)]) hx hb dX9_sieve_135 hl (k := 6) rfl (by rw [ey_18]; rfl) (by decide) rfl (fun ls hl => ?_)
                          refine lv_goto (tgt := 101) hx hb dX9_sieve_138 (by decide) ?_
                          exact ih_101 1 y_18 (by omega) (by omega) (by omega) ls (lv_sub hl [2, 3, 4, 5, 6, 1, 0] rfl)
              · have t_80 := mt (fa_eq _ _).mpr c_80
                refine lv_iconst (v := 1) hx hb dX9_sieve_83 (by decide) ?_
                exact W.iret (v := 1) hx hb hr (fun t ht _ => ⟨_, rfl, trivial, ht⟩) (fun _ h => absurd h List.not_mem_nil) dX9_sieve_84
            · refine lv_if_ne (tgt := 56) hx hb dX9_sieve_51 (by decide) (fun h9 => absurd h9 (by decide)) (fun _ => ?_)
              refine lv_iconst (v := 0) hx hb dX9_sieve_54 (by decide) ?_
              exact W.iret (v := 0) hx hb hr (fun t ht _ => ⟨_, rfl, trivial, ht⟩) (fun _ h => absurd h List.not_mem_nil) dX9_sieve_55
      · have t_21 := (fa_eq _ _).mp c_21
        refine lv_ldc hx hb hown (hts (.constant RX9 85 (-100003)) (by decide +kernel)) dX9_sieve_24 ?_
        exact W.iret (v := (-100003)) hx hb hr (fun t ht _ => ⟨_, rfl, trivial, ht⟩) (fun _ h => absurd h List.not_mem_nil) dX9_sieve_26
    · refine lv_if_ne (tgt := 19) hx hb dX9_sieve_13 (by decide) (fun h9 => absurd h9 (by decide)) (fun _ => ?_)
      refine lv_ldc hx hb hown (hts (.constant RX9 84 (-100001)) (by decide +kernel)) dX9_sieve_16 ?_
      exact W.iret (v := (-100001)) hx hb hr (fun t ht _ => ⟨_, rfl, trivial, ht⟩) (fun _ h => absurd h List.not_mem_nil) dX9_sieve_18
  · refine lv_if_eq (tgt := 16) hx hb dX9_sieve_5 (by decide) (fun _ => ?_) (fun h9 => absurd h9 (by decide))
    refine lv_ldc hx hb hown (hts (.constant RX9 84 (-100001)) (by decide +kernel)) dX9_sieve_16 ?_
    exact W.iret (v := (-100001)) hx hb hr (fun t ht _ => ⟨_, rfl, trivial, ht⟩) (fun _ h => absurd h List.not_mem_nil) dX9_sieve_18
