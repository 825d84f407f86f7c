def wk_X9_isMeeting : List Cond := .code yX9_isMeeting cX9_isMeeting 3 (some .boolean) :: (([.fieldLink RX9 19 "MeetingsAboveModel" "isGone" "[Z", .fieldLink RX9 121 "MeetingsAboveModel" "upper" "J", .fieldLink RX9 26 "MeetingsAboveModel" "near" "I", .fieldLink RX9 125 "MeetingsAboveModel" "lower" "J"] : List Cond) ++ (wsX90 ++ ((wsV RX9 151 RX9 yX9_areTogether wk_X9_areTogether) ++ ((wsV RX9 154 RX9 yX9_findLeast wk_X9_findLeast) ++ ([])))))
theorem in_X9_isMeeting_X9 : ∀ w ∈ wsX90, w ∈ wk_X9_isMeeting := fun _ h => List.mem_cons_of_mem _ (List.mem_append_right _ (List.mem_append_left _ h))
theorem gw_X9_isMeeting : AG wk_X9_isMeeting := AG_ca (AG_l (by decide +kernel)) (AG_app ag_X9 (AG_app (AG_V gw_X9_areTogether) (AG_app (AG_V gw_X9_findLeast) (AG_nil))))
theorem g_X9_isMeeting__X9_areTogether_151 : GoodIn wk_X9_isMeeting (wsV RX9 151 RX9 yX9_areTogether wk_X9_areTogether) := goodIn_m (fun _ h => List.mem_cons_of_mem _ (List.mem_append_right _ (List.mem_append_right _ (List.mem_append_left _ h)))) (AG_V gw_X9_areTogether)
theorem g_X9_isMeeting__X9_findLeast_154 : GoodIn wk_X9_isMeeting (wsV RX9 154 RX9 yX9_findLeast wk_X9_findLeast) := goodIn_m (fun _ h => List.mem_cons_of_mem _ (List.mem_append_right _ (List.mem_append_right _ (List.mem_append_right _ (List.mem_append_left _ h))))) (AG_V gw_X9_findLeast)
set_option maxHeartbeats 4000000 in
set_option maxRecDepth 100000 in
theorem c_X9_isMeeting (l : Launch) (dC : Nat → ClassId) (dI : Nat → Nat → Nat) (h0 : Nat) (a1 : Nat) (a2 : Nat) (a3 : Nat) (a4 : Nat) (a5 : Nat) (a6 : Nat) (a7 : Nat) (a8 : Nat) (a9 : Nat) (a10 : Nat) (a11 : Nat) (th : Int32) (ne : Int32) (wi : Int32) (dn : Int32) (nn : Int32) (la : Int32) (wh : Int32) (up : Int64) (lw : Int64) (pu : Int64) (pw : Int64) (cI : ClassId) (cZ : ClassId) (Fi : Nat → Int32) (Ma : Nat → Int32) (Go : Nat → Int32) (Sp : Nat → Int32) (p1 : Int32) (p2 : Int32) (sz : Nat) (hM : mOK th Fi Ma) (hp10 : 0 ≤ p1.toInt) (hp11 : p1.toInt < th.toInt) (hp20 : 0 ≤ p2.toInt) (hp21 : p2.toInt < th.toInt) : Met l yX9_isMeeting wk_X9_isMeeting ({ frames := 3, cells := 0, slots := 0, locals := 82 }) (va_Pc [.ref h0, .int p1, .int p2] (fun U => U.heap.size = sz ∧ va_P (dC, dI) vwCl [(h0, .inr (9, [.int th, .ref a1, .ref a2, .ref a3, .ref a4, .ref a5, .int ne, .int wi, .int dn, .ref a6, .ref a7, .int nn, .ref a8, .int la, .ref a9, .ref a10, .long up, .long lw, .int wh, .long pu, .long pw, .ref a11])), (a1, .inl (cI, 16, .inl Fi)), (a2, .inl (cI, 16, .inl Ma)), (a4, .inl (cZ, 16, .inl Go)), (a5, .inl (cI, 576, .inl Sp))] U.heap ∧ va_K (dC, dI) vwCl [(cI, .int), (cZ, .boolean)] U ∧ va_D (fun _ => True) [(h0, .inr (9, [.int th, .ref a1, .ref a2, .ref a3, .ref a4, .ref a5, .int ne, .int wi, .int dn, .ref a6, .ref a7, .int nn, .ref a8, .int la, .ref a9, .ref a10, .long up, .long lw, .int wh, .long pu, .long pw, .ref a11])), (a1, .inl (cI, 16, .inl Fi)), (a2, .inl (cI, 16, .inl Ma)), (a4, .inl (cZ, 16, .inl Go)), (a5, .inl (cI, 576, .inl Sp))])) (va_Qi (fun (r : Int32) (lw9 : Int64) => r.toInt ≠ 0 → 1 ≤ lw9.toInt) (fun (lw9 : Int64) (t : State) => ∃ (up9 : Int64) (wh9 : Int32) (pu9 : Int64) (pw9 : Int64), va_P (dC, dI) vwCl [(h0, .inr (9, [.int th, .ref a1, .ref a2, .ref a3, .ref a4, .ref a5, .int ne, .int wi, .int dn, .ref a6, .ref a7, .int nn, .ref a8, .int la, .ref a9, .ref a10, .long up9, .long lw9, .int wh9, .long pu9, .long pw9, .ref a11])), (a1, .inl (cI, 16, .inl Fi)), (a2, .inl (cI, 16, .inl Ma)), (a4, .inl (cZ, 16, .inl Go)), (a5, .inl (cI, 576, .inl Sp))] t.heap ∧ va_K (dC, dI) vwCl [(cI, .int), (cZ, .boolean)] t ∧ va_D (va_A [(h0, .inr (9, [.int th, .ref a1, .ref a2, .ref a3, .ref a4, .ref a5, .int ne, .int wi, .int dn, .ref a6, .ref a7, .int nn, .ref a8, .int la, .ref a9, .ref a10, .long up, .long lw, .int wh, .long pu, .long pw, .ref a11])), (a1, .inl (cI, 16, .inl Fi)), (a2, .inl (cI, 16, .inl Ma)), (a4, .inl (cZ, 16, .inl Go)), (a5, .inl (cI, 576, .inl Sp))] sz) [(h0, .inr (9, [.int th, .ref a1, .ref a2, .ref a3, .ref a4, .ref a5, .int ne, .int wi, .int dn, .ref a6, .ref a7, .int nn, .ref a8, .int la, .ref a9, .ref a10, .long up9, .long lw9, .int wh9, .long pu9, .long pw9, .ref a11])), (a1, .inl (cI, 16, .inl Fi)), (a2, .inl (cI, 16, .inl Ma)), (a4, .inl (cZ, 16, .inl Go)), (a5, .inl (cI, 576, .inl Sp))]) (va_A [(h0, .inr (9, [.int th, .ref a1, .ref a2, .ref a3, .ref a4, .ref a5, .int ne, .int wi, .int dn, .ref a6, .ref a7, .int nn, .ref a8, .int la, .ref a9, .ref a10, .long up, .long lw, .int wh, .long pu, .long pw, .ref a11])), (a1, .inl (cI, 16, .inl Fi)), (a2, .inl (cI, 16, .inl Ma)), (a4, .inl (cZ, 16, .inl Go)), (a5, .inl (cI, 576, .inl Sp))] sz)) 0 0 (va_A [(h0, .inr (9, [.int th, .ref a1, .ref a2, .ref a3, .ref a4, .ref a5, .int ne, .int wi, .int dn, .ref a6, .ref a7, .int nn, .ref a8, .int la, .ref a9, .ref a10, .long up, .long lw, .int wh, .long pu, .long pw, .ref a11])), (a1, .inl (cI, 16, .inl Fi)), (a2, .inl (cI, 16, .inl Ma)), (a4, .inl (cZ, 16, .inl Go)), (a5, .inl (cI, 576, .inl Sp))] sz) := by
  refine Met.ofW (cc := cX9_isMeeting) (maxL := 3) (ret := (some .boolean)) (by decide) rfl ?_
  intro p e s m args below meth c s₁ B hml hv
  obtain ⟨rfl, hsz, hP, hK, hD0⟩ := hv
  have hx := B.exec
  have hb := B.bytes
  have hr := B.returns
  have hts := atoms_spec (ws := wk_X9_isMeeting) B.pre
  have hown : s.vm.findClass RX9 = some m.cls := findClass_of_methodNamed B.named
  have hlocks := B.notSynchronized
  subst hsz
  have hD := hD0.self (sz := s.heap.size)
  generalize hAe : va_A [(h0, .inr (9, [.int th, .ref a1, .ref a2, .ref a3, .ref a4, .ref a5, .int ne, .int wi, .int dn, .ref a6, .ref a7, .int nn, .ref a8, .int la, .ref a9, .ref a10, .long up, .long lw, .int wh, .long pu, .long pw, .ref a11])), (a1, .inl (cI, 16, .inl Fi)), (a2, .inl (cI, 16, .inl Ma)), (a4, .inl (cZ, 16, .inl Go)), (a5, .inl (cI, 576, .inl Sp))] s.heap.size = A at hD ⊢
  have hA : ∀ q : Nat, s.heap.size ≤ q → A q := fun q h => by rw [← hAe]; exact Or.inr h
  have hS : va_S A s.heap s.heap [] := va_S.rf
  have hP : va_P (dC, dI) vwCl [(h0, .inr (9, [.int th, .ref a1, .ref a2, .ref a3, .ref a4, .ref a5, .int ne, .int wi, .int dn, .ref a6, .ref a7, .int nn, .ref a8, .int la, .ref a9, .ref a10, .long up, .long lw, .int wh, .long pu, .long pw, .ref a11])), (a1, .inl (cI, 16, .inl Fi)), (a2, .inl (cI, 16, .inl Ma)), (a4, .inl (cZ, 16, .inl Go)), (a5, .inl (cI, 576, .inl Sp))] s.heap := hP
  have hl := lv_entry ([.ref h0, .int p1, .int p2]) (n := 3) (Nat.le_of_ble_eq_true rfl)
  rw [lg_entry_eq]
  generalize (lg_sl ([.ref h0, .int p1, .int p2]) ++ List.replicate (3 - (lg_sl ([.ref h0, .int p1, .int p2])).length) Slot.unset).toArray = ls at hl ⊢
  have hl : lv_has ls 3 [(0, .ref h0), (1, .int p1), (2, .int p2)] := hl
  have kl_0 : (0 : Int32).toInt = 0 := by decide
  have kl_1 : (1 : Int32).toInt = 1 := by decide
  obtain ⟨hM0, hM1, hM2⟩ := id hM
  have np1 : ((p1.toNatClampNeg : Nat) : Int) = p1.toInt := tc_I (by omega)
  have bp1 := hM2 p1.toNatClampNeg (by omega)
  have np2 : ((p2.toNatClampNeg : Nat) : Int) = p2.toInt := tc_I (by omega)
  have bp2 := hM2 p2.toNatClampNeg (by omega)
  refine lv_iload_n hx hb dX9_isMeeting_0 rfl (lv_at hl 1 rfl) ?_
  refine lv_iload_n hx hb dX9_isMeeting_1 rfl (lv_at hl 2 rfl) ?_
  refine lv_icmp_eq (tgt := 32) hx hb dX9_isMeeting_2 (by decide) (fun c_2 => ?_) (fun c_2 => ?_)
  · have t_2 := (fa_eq _ _).mp c_2
    refine lv_iconst (v := 0) hx hb dX9_isMeeting_32 (by decide) ?_
    have hP9 := hP.sub (ws' := [(h0, .inr (9, [.int th, .ref a1, .ref a2, .ref a3, .ref a4, .ref a5, .int ne, .int wi, .int dn, .ref a6, .ref a7, .int nn, .ref a8, .int la, .ref a9, .ref a10, .long up, .long lw, .int wh, .long pu, .long pw, .ref a11])), (a1, .inl (cI, 16, .inl Fi)), (a2, .inl (cI, 16, .inl Ma)), (a4, .inl (cZ, 16, .inl Go)), (a5, .inl (cI, 576, .inl Sp))]) [0, 1, 2, 3, 4] rfl
    have hD9 := hD.sub (ws' := [(h0, .inr (9, [.int th, .ref a1, .ref a2, .ref a3, .ref a4, .ref a5, .int ne, .int wi, .int dn, .ref a6, .ref a7, .int nn, .ref a8, .int la, .ref a9, .ref a10, .long up, .long lw, .int wh, .long pu, .long pw, .ref a11])), (a1, .inl (cI, 16, .inl Fi)), (a2, .inl (cI, 16, .inl Ma)), (a4, .inl (cZ, 16, .inl Go)), (a5, .inl (cI, 576, .inl Sp))]) [0, 1, 2, 3, 4] (by decide) rfl
    have hK9 := hK.sub (tys' := [(cI, .int), (cZ, .boolean)]) [0, 1] rfl
    refine W.widen (k := 0) (n := 0) (by omega) (by omega) ?_
    exact W.zret (v := 0) hx hb hr rfl (fun t ht hW => ⟨⟨_, lw, rfl, (by intro h9; omega), up, wh, pu, pw, by rw [ht]; exact hP9, va_K.moved hW.alike hK9, hD9⟩, hS.F ht⟩) hS.2.2 dX9_isMeeting_33
  · have t_2 := mt (fa_eq _ _).mpr c_2
    refine lv_aload_n hx hb dX9_isMeeting_5 rfl (lv_at hl 0 rfl) ?_
    refine va_get (D := (dC, dI)) (ci := 9) (v := .ref a4) (C := RX9) (T := TX9) (N := 22) hx hb hts in_X9_isMeeting_X9 hown hK hP 0 rfl rfl 4 (by decide) (hts (.fieldLink RX9 19 "MeetingsAboveModel" "isGone" "[Z") (by decide +kernel)) (fun _ h9 => h9) rfl dX9_isMeeting_6 ?_
    refine lv_iload_n hx hb dX9_isMeeting_9 rfl (lv_at hl 1 rfl) ?_
    refine va_zald hx hb hK hP 3 1 rfl rfl (vp_in_iff.mpr ⟨by omega, by omega⟩) dX9_isMeeting_10 ?_
    refine lv_topi (fun y_1 ey_1 => ?_)
    refine lv_if_ne (tgt := 32) hx hb dX9_isMeeting_11 (by decide) (fun c_11 => ?_) (fun c_11 => ?_)
    · have t_11 := mt (fa_eq _ _).mpr c_11
      refine lv_iconst (v := 0) hx hb dX9_isMeeting_32 (by decide) ?_
      have hP9 := hP.sub (ws' := [(h0, .inr (9, [.int th, .ref a1, .ref a2, .ref a3, .ref a4, .ref a5, .int ne, .int wi, .int dn, .ref a6, .ref a7, .int nn, .ref a8, .int la, .ref a9, .ref a10, .long up, .long lw, .int wh, .long pu, .long pw, .ref a11])), (a1, .inl (cI, 16, .inl Fi)), (a2, .inl (cI, 16, .inl Ma)), (a4, .inl (cZ, 16, .inl Go)), (a5, .inl (cI, 576, .inl Sp))]) [0, 1, 2, 3, 4] rfl
      have hD9 := hD.sub (ws' := [(h0, .inr (9, [.int th, .ref a1, .ref a2, .ref a3, .ref a4, .ref a5, .int ne, .int wi, .int dn, .ref a6, .ref a7, .int nn, .ref a8, .int la, .ref a9, .ref a10, .long up, .long lw, .int wh, .long pu, .long pw, .ref a11])), (a1, .inl (cI, 16, .inl Fi)), (a2, .inl (cI, 16, .inl Ma)), (a4, .inl (cZ, 16, .inl Go)), (a5, .inl (cI, 576, .inl Sp))]) [0, 1, 2, 3, 4] (by decide) rfl
      have hK9 := hK.sub (tys' := [(cI, .int), (cZ, .boolean)]) [0, 1] rfl
      refine W.widen (k := 0) (n := 0) (by omega) (by omega) ?_
      exact W.zret (v := 0) hx hb hr rfl (fun t ht hW => ⟨⟨_, lw, rfl, (by intro h9; omega), up, wh, pu, pw, by rw [ht]; exact hP9, va_K.moved hW.alike hK9, hD9⟩, hS.F ht⟩) hS.2.2 dX9_isMeeting_33
    · have t_11 := (fa_eq _ _).mp c_11
      refine lv_aload_n hx hb dX9_isMeeting_14 rfl (lv_at hl 0 rfl) ?_
      refine va_get (D := (dC, dI)) (ci := 9) (v := .ref a4) (C := RX9) (T := TX9) (N := 22) hx hb hts in_X9_isMeeting_X9 hown hK hP 0 rfl rfl 4 (by decide) (hts (.fieldLink RX9 19 "MeetingsAboveModel" "isGone" "[Z") (by decide +kernel)) (fun _ h9 => h9) rfl dX9_isMeeting_15 ?_
      refine lv_iload_n hx hb dX9_isMeeting_18 rfl (lv_at hl 2 rfl) ?_
      refine va_zald hx hb hK hP 3 1 rfl rfl (vp_in_iff.mpr ⟨by omega, by omega⟩) dX9_isMeeting_19 ?_
      refine lv_topi (fun y_2 ey_2 => ?_)
      refine lv_if_ne (tgt := 32) hx hb dX9_isMeeting_20 (by decide) (fun c_20 => ?_) (fun c_20 => ?_)
      · have t_20 := mt (fa_eq _ _).mpr c_20
        refine lv_iconst (v := 0) hx hb dX9_isMeeting_32 (by decide) ?_
        have hP9 := hP.sub (ws' := [(h0, .inr (9, [.int th, .ref a1, .ref a2, .ref a3, .ref a4, .ref a5, .int ne, .int wi, .int dn, .ref a6, .ref a7, .int nn, .ref a8, .int la, .ref a9, .ref a10, .long up, .long lw, .int wh, .long pu, .long pw, .ref a11])), (a1, .inl (cI, 16, .inl Fi)), (a2, .inl (cI, 16, .inl Ma)), (a4, .inl (cZ, 16, .inl Go)), (a5, .inl (cI, 576, .inl Sp))]) [0, 1, 2, 3, 4] rfl
        have hD9 := hD.sub (ws' := [(h0, .inr (9, [.int th, .ref a1, .ref a2, .ref a3, .ref a4, .ref a5, .int ne, .int wi, .int dn, .ref a6, .ref a7, .int nn, .ref a8, .int la, .ref a9, .ref a10, .long up, .long lw, .int wh, .long pu, .long pw, .ref a11])), (a1, .inl (cI, 16, .inl Fi)), (a2, .inl (cI, 16, .inl Ma)), (a4, .inl (cZ, 16, .inl Go)), (a5, .inl (cI, 576, .inl Sp))]) [0, 1, 2, 3, 4] (by decide) rfl
        have hK9 := hK.sub (tys' := [(cI, .int), (cZ, .boolean)]) [0, 1] rfl
        refine W.widen (k := 0) (n := 0) (by omega) (by omega) ?_
        exact W.zret (v := 0) hx hb hr rfl (fun t ht hW => ⟨⟨_, lw, rfl, (by intro h9; omega), up, wh, pu, pw, by rw [ht]; exact hP9, va_K.moved hW.alike hK9, hD9⟩, hS.F ht⟩) hS.2.2 dX9_isMeeting_33
      · have t_20 := (fa_eq _ _).mp c_20
        refine lv_aload_n hx hb dX9_isMeeting_23 rfl (lv_at hl 0 rfl) ?_
        refine lv_iload_n hx hb dX9_isMeeting_24 rfl (lv_at hl 1 rfl) ?_
        refine lv_iload_n hx hb dX9_isMeeting_25 rfl (lv_at hl 2 rfl) ?_
        have hPc := hP.sub (ws' := [(h0, .inr (9, [.int th, .ref a1, .ref a2, .ref a3, .ref a4, .ref a5, .int ne, .int wi, .int dn, .ref a6, .ref a7, .int nn, .ref a8, .int la, .ref a9, .ref a10, .long up, .long lw, .int wh, .long pu, .long pw, .ref a11])), (a1, .inl (cI, 16, .inl Fi)), (a2, .inl (cI, 16, .inl Ma))]) [0, 1, 2] rfl
        have hKc := hK.sub (tys' := [(cI, .int)]) [0] rfl
        refine vp_callSi (W.runV (As := [.int p1, .int p2]) (rest := []) ⟨hx, hb, hml, hown, hts⟩ (c_X9_areTogether l dC dI h0 a1 a2 a3 a4 a5 a6 a7 a8 a9 a10 a11 th ne wi dn nn la wh up lw pu pw cI Fi Ma p1 p2 (by first | assumption | omega) (by first | omega | assumption) (by first | omega | assumption) (by first | omega | assumption) (by first | omega | assumption)) (cwV 2 hts g_X9_isMeeting__X9_areTogether_151 rfl rfl rfl (by decide +kernel) ⟨Nat.le_of_ble_eq_true rfl, Nat.le_of_ble_eq_true rfl⟩) ⟨fun a U g mk q => by obtain ⟨q0, qP, qK⟩ := q; exact ⟨q0, qP, va_K.moved (u := U) (U := U.calling g mk a) (Vm.Alike.refl U.vm) qK⟩, va_recv hKc hPc (ci := 9) (q0 := 0) rfl rfl, fun U hU hW => ⟨rfl, by rw [hU]; exact hPc, va_K.moved hW.alike hKc⟩⟩ rfl rfl hl.1 rfl (lv_room (Nat.le_of_ble_eq_true rfl)) dX9_isMeeting_26 ⟨Nat.le_of_ble_eq_true rfl, Nat.le_of_ble_eq_true rfl⟩) (fun r_3 hr_3 => ?_)
        try dsimp only at hr_3
        rcases bo_split hr_3 with ⟨rfl, q_26⟩ | ⟨rfl, q_26⟩
        · refine lv_if_ne (tgt := 34) hx hb dX9_isMeeting_29 (by decide) (fun _ => ?_) (fun h9 => absurd h9 (by decide))
          refine lv_aload_n hx hb dX9_isMeeting_34 rfl (lv_at hl 0 rfl) ?_
          refine lv_iload_n hx hb dX9_isMeeting_35 rfl (lv_at hl 1 rfl) ?_
          refine lv_iload_n hx hb dX9_isMeeting_36 rfl (lv_at hl 2 rfl) ?_
          have hPc := hP.sub (ws' := [(h0, .inr (9, [.int th, .ref a1, .ref a2, .ref a3, .ref a4, .ref a5, .int ne, .int wi, .int dn, .ref a6, .ref a7, .int nn, .ref a8, .int la, .ref a9, .ref a10, .long up, .long lw, .int wh, .long pu, .long pw, .ref a11])), (a1, .inl (cI, 16, .inl Fi)), (a2, .inl (cI, 16, .inl Ma)), (a5, .inl (cI, 576, .inl Sp))]) [0, 1, 2, 4] rfl
          have hKc := hK.sub (tys' := [(cI, .int)]) [0] rfl
          have hDc := hD.sub (ws' := [(h0, .inr (9, [.int th, .ref a1, .ref a2, .ref a3, .ref a4, .ref a5, .int ne, .int wi, .int dn, .ref a6, .ref a7, .int nn, .ref a8, .int la, .ref a9, .ref a10, .long up, .long lw, .int wh, .long pu, .long pw, .ref a11])), (a1, .inl (cI, 16, .inl Fi)), (a2, .inl (cI, 16, .inl Ma)), (a5, .inl (cI, 576, .inl Sp))]) [0, 1, 2, 4] (by decide) rfl
          have hFc := va_free (wc := [(h0, .inr (9, [.int th, .ref a1, .ref a2, .ref a3, .ref a4, .ref a5, .int ne, .int wi, .int dn, .ref a6, .ref a7, .int nn, .ref a8, .int la, .ref a9, .ref a10, .long up, .long lw, .int wh, .long pu, .long pw, .ref a11])), (a1, .inl (cI, 16, .inl Fi)), (a2, .inl (cI, 16, .inl Ma)), (a5, .inl (cI, 576, .inl Sp))]) hD hS hA [0, 1, 2, 4] rfl
          refine va_callv (va_runV (As := [.int p1, .int p2]) (rest := []) ⟨hx, hb, hml, hown, hts⟩ (c_X9_findLeast l dC dI h0 a1 a2 a3 a4 a5 a6 a7 a8 a9 a10 a11 th ne wi dn nn la wh up lw pu pw cI Fi Ma Sp p1 p2 s.heap.size (by first | assumption | omega) (by first | omega | assumption) (by first | omega | assumption) (by first | omega | assumption) (by first | omega | assumption) (by first | omega | assumption) (by first | omega | assumption)) (cwV 2 hts g_X9_isMeeting__X9_findLeast_154 rfl rfl rfl (by decide +kernel) ⟨Nat.le_of_ble_eq_true rfl, Nat.le_of_ble_eq_true rfl⟩) ⟨fun a U g mk q => by obtain ⟨q0, q1, qP, qK, qD⟩ := q; exact ⟨q0, q1, qP, va_K.moved (u := U) (U := U.calling g mk a) (Vm.Alike.refl U.vm) qK, qD⟩, va_recv hKc hPc (ci := 9) (q0 := 0) rfl rfl, fun U hU hW => ⟨rfl, by rw [hU], by rw [hU]; exact hPc, va_K.moved hW.alike hKc, hDc.weaken (fun _ _ _ _ => trivial)⟩⟩ rfl rfl hl.1 rfl (lv_room (Nat.le_of_ble_eq_true rfl)) dX9_isMeeting_37 ⟨Nat.le_of_ble_eq_true rfl, Nat.le_of_ble_eq_true rfl⟩) hS (fun q _ h => hFc q h) hFc (fun u_4 t H1 locs ht hvm hw_5 hB hz1 hk1 hS => ?_)
          obtain ⟨up9_6, lw9_7, wh9_8, pu9_9, pw9_10, hP1, hK1, hD1, hlw9_11, hwh9_12, hpw9_13⟩ := hB
          rw [ht] at hP1
          have hK1 := va_K.moved hvm.symm hK1
          obtain ⟨hP, hD⟩ := va_join (wr := [(a4, .inl (cZ, 16, .inl Go))]) (w1 := [(h0, .inr (9, [.int th, .ref a1, .ref a2, .ref a3, .ref a4, .ref a5, .int ne, .int wi, .int dn, .ref a6, .ref a7, .int nn, .ref a8, .int la, .ref a9, .ref a10, .long up9_6, .long lw9_7, .int wh9_8, .long pu9_9, .long pw9_10, .ref a11])), (a1, .inl (cI, 16, .inl Fi)), (a2, .inl (cI, 16, .inl Ma)), (a5, .inl (cI, 576, .inl Sp))]) hP hD [0, 1, 2, 4] [3] rfl rfl (by decide) (by decide) hk1 hFc hP1 hD1
          have hK := (hK.sub (tys' := [(cI, .int), (cZ, .boolean)]) [0, 1] rfl).app hK1
          generalize H1 = H at hP hS ⊢
          have hP : va_P (dC, dI) vwCl [(a4, .inl (cZ, 16, .inl Go)), (h0, .inr (9, [.int th, .ref a1, .ref a2, .ref a3, .ref a4, .ref a5, .int ne, .int wi, .int dn, .ref a6, .ref a7, .int nn, .ref a8, .int la, .ref a9, .ref a10, .long up9_6, .long lw9_7, .int wh9_8, .long pu9_9, .long pw9_10, .ref a11])), (a1, .inl (cI, 16, .inl Fi)), (a2, .inl (cI, 16, .inl Ma)), (a5, .inl (cI, 576, .inl Sp))] H := hP
          have hD : va_D A [(a4, .inl (cZ, 16, .inl Go)), (h0, .inr (9, [.int th, .ref a1, .ref a2, .ref a3, .ref a4, .ref a5, .int ne, .int wi, .int dn, .ref a6, .ref a7, .int nn, .ref a8, .int la, .ref a9, .ref a10, .long up9_6, .long lw9_7, .int wh9_8, .long pu9_9, .long pw9_10, .ref a11])), (a1, .inl (cI, 16, .inl Fi)), (a2, .inl (cI, 16, .inl Ma)), (a5, .inl (cI, 576, .inl Sp))] := hD
          have hK : va_K (dC, dI) vwCl [(cI, .int), (cZ, .boolean), (cI, .int)] s := hK
          refine W.widen (k := 0) (n := 0) (by omega) (by omega) ?_
          refine lv_aload_n hx hb dX9_isMeeting_40 rfl (lv_at hl 0 rfl) ?_
          refine va_get (D := (dC, dI)) (ci := 9) (v := .long up9_6) (C := RX9) (T := TX9) (N := 22) hx hb hts in_X9_isMeeting_X9 hown hK hP 1 rfl rfl 16 (by decide) (hts (.fieldLink RX9 121 "MeetingsAboveModel" "upper" "J") (by decide +kernel)) (fun _ h9 => h9) rfl dX9_isMeeting_41 ?_
          refine lv_aload_n hx hb dX9_isMeeting_44 rfl (lv_at hl 0 rfl) ?_
          refine va_get (D := (dC, dI)) (ci := 9) (v := .int ne) (C := RX9) (T := TX9) (N := 22) hx hb hts in_X9_isMeeting_X9 hown hK hP 1 rfl rfl 6 (by decide) (hts (.fieldLink RX9 26 "MeetingsAboveModel" "near" "I") (by decide +kernel)) (fun _ h9 => h9) rfl dX9_isMeeting_45 ?_
          refine lv_i2l hx hb dX9_isMeeting_48 rfl ?_
          refine lv_aload_n hx hb dX9_isMeeting_49 rfl (lv_at hl 0 rfl) ?_
          refine va_get (D := (dC, dI)) (ci := 9) (v := .int ne) (C := RX9) (T := TX9) (N := 22) hx hb hts in_X9_isMeeting_X9 hown hK hP 1 rfl rfl 6 (by decide) (hts (.fieldLink RX9 26 "MeetingsAboveModel" "near" "I") (by decide +kernel)) (fun _ h9 => h9) rfl dX9_isMeeting_50 ?_
          refine lv_i2l hx hb dX9_isMeeting_53 rfl ?_
          refine lv_lmul hx hb dX9_isMeeting_54 ?_
          refine lv_topl (fun y_14 ey_14 => ?_)
          refine lv_aload_n hx hb dX9_isMeeting_55 rfl (lv_at hl 0 rfl) ?_
          refine va_get (D := (dC, dI)) (ci := 9) (v := .long lw9_7) (C := RX9) (T := TX9) (N := 22) hx hb hts in_X9_isMeeting_X9 hown hK hP 1 rfl rfl 17 (by decide) (hts (.fieldLink RX9 125 "MeetingsAboveModel" "lower" "J") (by decide +kernel)) (fun _ h9 => h9) rfl dX9_isMeeting_56 ?_
          refine lv_lmul hx hb dX9_isMeeting_59 ?_
          refine lv_topl (fun y_15 ey_15 => ?_)
          refine W.lcmp hx hb dX9_isMeeting_60 ?_
          refine lv_if_ge (tgt := 68) hx hb dX9_isMeeting_61 (by decide) (fun c_61 => ?_) (fun c_61 => ?_)
          · have t_61 := (fa_le64 _ _).mp ((lg_cmp_ge _ _).mp c_61)
            refine lv_iconst (v := 0) hx hb dX9_isMeeting_68 (by decide) ?_
            have hP9 := hP.sub (ws' := [(h0, .inr (9, [.int th, .ref a1, .ref a2, .ref a3, .ref a4, .ref a5, .int ne, .int wi, .int dn, .ref a6, .ref a7, .int nn, .ref a8, .int la, .ref a9, .ref a10, .long up9_6, .long lw9_7, .int wh9_8, .long pu9_9, .long pw9_10, .ref a11])), (a1, .inl (cI, 16, .inl Fi)), (a2, .inl (cI, 16, .inl Ma)), (a4, .inl (cZ, 16, .inl Go)), (a5, .inl (cI, 576, .inl Sp))]) [1, 2, 3, 0, 4] rfl
            have hD9 := hD.sub (ws' := [(h0, .inr (9, [.int th, .ref a1, .ref a2, .ref a3, .ref a4, .ref a5, .int ne, .int wi, .int dn, .ref a6, .ref a7, .int nn, .ref a8, .int la, .ref a9, .ref a10, .long up9_6, .long lw9_7, .int wh9_8, .long pu9_9, .long pw9_10, .ref a11])), (a1, .inl (cI, 16, .inl Fi)), (a2, .inl (cI, 16, .inl Ma)), (a4, .inl (cZ, 16, .inl Go)), (a5, .inl (cI, 576, .inl Sp))]) [1, 2, 3, 0, 4] (by decide) rfl
            have hK9 := hK.sub (tys' := [(cI, .int), (cZ, .boolean)]) [0, 1] rfl
            refine W.widen (k := 0) (n := 0) (by omega) (by omega) ?_
            exact W.zret (v := 0) hx hb hr rfl (fun t ht hW => ⟨⟨_, lw9_7, rfl, (by intro h9; omega), up9_6, wh9_8, pu9_9, pw9_10, by rw [ht]; exact hP9, va_K.moved hW.alike hK9, hD9⟩, hS.F ht⟩) hS.2.2 dX9_isMeeting_69
          · have t_61 := mt (fa_le64 _ _).mpr (mt (lg_cmp_ge _ _).mpr c_61)
            refine lv_iconst (v := 1) hx hb dX9_isMeeting_64 (by decide) ?_
            refine lv_goto (tgt := 69) hx hb dX9_isMeeting_65 (by decide) ?_
            have hP9 := hP.sub (ws' := [(h0, .inr (9, [.int th, .ref a1, .ref a2, .ref a3, .ref a4, .ref a5, .int ne, .int wi, .int dn, .ref a6, .ref a7, .int nn, .ref a8, .int la, .ref a9, .ref a10, .long up9_6, .long lw9_7, .int wh9_8, .long pu9_9, .long pw9_10, .ref a11])), (a1, .inl (cI, 16, .inl Fi)), (a2, .inl (cI, 16, .inl Ma)), (a4, .inl (cZ, 16, .inl Go)), (a5, .inl (cI, 576, .inl Sp))]) [1, 2, 3, 0, 4] rfl
            have hD9 := hD.sub (ws' := [(h0, .inr (9, [.int th, .ref a1, .ref a2, .ref a3, .ref a4, .ref a5, .int ne, .int wi, .int dn, .ref a6, .ref a7, .int nn, .ref a8, .int la, .ref a9, .ref a10, .long up9_6, .long lw9_7, .int wh9_8, .long pu9_9, .long pw9_10, .ref a11])), (a1, .inl (cI, 16, .inl Fi)), (a2, .inl (cI, 16, .inl Ma)), (a4, .inl (cZ, 16, .inl Go)), (a5, .inl (cI, 576, .inl Sp))]) [1, 2, 3, 0, 4] (by decide) rfl
            have hK9 := hK.sub (tys' := [(cI, .int), (cZ, .boolean)]) [0, 1] rfl
            refine W.widen (k := 0) (n := 0) (by omega) (by omega) ?_
            exact W.zret (v := 1) hx hb hr rfl (fun t ht hW => ⟨⟨_, lw9_7, rfl, (by intro h9; omega), up9_6, wh9_8, pu9_9, pw9_10, by rw [ht]; exact hP9, va_K.moved hW.alike hK9, hD9⟩, hS.F ht⟩) hS.2.2 dX9_isMeeting_69
        · refine lv_if_ne (tgt := 34) hx hb dX9_isMeeting_29 (by decide) (fun h9 => absurd h9 (by decide)) (fun _ => ?_)
          refine lv_iconst (v := 0) hx hb dX9_isMeeting_32 (by decide) ?_
          have hP9 := hP.sub (ws' := [(h0, .inr (9, [.int th, .ref a1, .ref a2, .ref a3, .ref a4, .ref a5, .int ne, .int wi, .int dn, .ref a6, .ref a7, .int nn, .ref a8, .int la, .ref a9, .ref a10, .long up, .long lw, .int wh, .long pu, .long pw, .ref a11])), (a1, .inl (cI, 16, .inl Fi)), (a2, .inl (cI, 16, .inl Ma)), (a4, .inl (cZ, 16, .inl Go)), (a5, .inl (cI, 576, .inl Sp))]) [0, 1, 2, 3, 4] rfl
          have hD9 := hD.sub (ws' := [(h0, .inr (9, [.int th, .ref a1, .ref a2, .ref a3, .ref a4, .ref a5, .int ne, .int wi, .int dn, .ref a6, .ref a7, .int nn, .ref a8, .int la, .ref a9, .ref a10, .long up, .long lw, .int wh, .long pu, .long pw, .ref a11])), (a1, .inl (cI, 16, .inl Fi)), (a2, .inl (cI, 16, .inl Ma)), (a4, .inl (cZ, 16, .inl Go)), (a5, .inl (cI, 576, .inl Sp))]) [0, 1, 2, 3, 4] (by decide) rfl
          have hK9 := hK.sub (tys' := [(cI, .int), (cZ, .boolean)]) [0, 1] rfl
          refine W.widen (k := 0) (n := 0) (by omega) (by omega) ?_
          exact W.zret (v := 0) hx hb hr rfl (fun t ht hW => ⟨⟨_, lw, rfl, (by intro h9; omega), up, wh, pu, pw, by rw [ht]; exact hP9, va_K.moved hW.alike hK9, hD9⟩, hS.F ht⟩) hS.2.2 dX9_isMeeting_33
def wk_X9_meets : List Cond := .code yX9_meets cX9_meets 4 (some .int) :: (([.fieldLink RX9 59 "MeetingsAboveModel" "things" "I"] : List Cond) ++ (wsX90 ++ ((wsV RX9 106 RX9 yX9_isMeeting wk_X9_isMeeting) ++ ([]))))
theorem in_X9_meets_X9 : ∀ w ∈ wsX90, w ∈ wk_X9_meets := fun _ h => List.mem_cons_of_mem _ (List.mem_append_right _ (List.mem_append_left _ h))
theorem gw_X9_meets : AG wk_X9_meets := AG_ca (AG_l (by decide +kernel)) (AG_app ag_X9 (AG_app (AG_V gw_X9_isMeeting) (AG_nil)))
theorem g_X9_meets__X9_isMeeting_106 : GoodIn wk_X9_meets (wsV RX9 106 RX9 yX9_isMeeting wk_X9_isMeeting) := goodIn_m (fun _ h => List.mem_cons_of_mem _ (List.mem_append_right _ (List.mem_append_right _ (List.mem_append_left _ h)))) (AG_V gw_X9_isMeeting)
set_option maxHeartbeats 4000000 in
set_option maxRecDepth 100000 in
theorem c_X9_meets (l : Launch) (dC : Nat → ClassId) (dI : Nat → Nat → Nat) (h0 : Nat) (a1 : Nat) (a2 : Nat) (a3 : Nat) (a4 : Nat) (a5 : Nat) (a6 : Nat) (a7 : Nat) (a8 : Nat) (a9 : Nat) (a10 : Nat) (a11 : Nat) (th : Int32) (ne : Int32) (wi : Int32) (dn : Int32) (nn : Int32) (la : Int32) (wh : Int32) (up : Int64) (lw : Int64) (pu : Int64) (pw : Int64) (cI : ClassId) (cZ : ClassId) (Fi : Nat → Int32) (Ma : Nat → Int32) (Go : Nat → Int32) (Sp : Nat → Int32) (p1 : Int32) (sz : Nat) (hM : mOK th Fi Ma) (hp10 : 0 ≤ p1.toInt) (hp11 : p1.toInt < th.toInt) : Met l yX9_meets wk_X9_meets ({ frames := 4, cells := 0, slots := 0, locals := 104 }) (va_Pc [.ref h0, .int p1] (fun U => U.heap.size = sz ∧ va_P (dC, dI) vwCl [(h0, .inr (9, [.int th, .ref a1, .ref a2, .ref a3, .ref a4, .ref a5, .int ne, .int wi, .int dn, .ref a6, .ref a7, .int nn, .ref a8, .int la, .ref a9, .ref a10, .long up, .long lw, .int wh, .long pu, .long pw, .ref a11])), (a1, .inl (cI, 16, .inl Fi)), (a2, .inl (cI, 16, .inl Ma)), (a4, .inl (cZ, 16, .inl Go)), (a5, .inl (cI, 576, .inl Sp))] U.heap ∧ va_K (dC, dI) vwCl [(cI, .int), (cZ, .boolean)] U ∧ va_D (fun _ => True) [(h0, .inr (9, [.int th, .ref a1, .ref a2, .ref a3, .ref a4, .ref a5, .int ne, .int wi, .int dn, .ref a6, .ref a7, .int nn, .ref a8, .int la, .ref a9, .ref a10, .long up, .long lw, .int wh, .long pu, .long pw, .ref a11])), (a1, .inl (cI, 16, .inl Fi)), (a2, .inl (cI, 16, .inl Ma)), (a4, .inl (cZ, 16, .inl Go)), (a5, .inl (cI, 576, .inl Sp))])) (va_Qi (fun (r : Int32) (_ : Unit) => True) (fun (_ : Unit) (t : State) => ∃ (up9 : Int64) (lw9 : Int64) (wh9 : Int32) (pu9 : Int64) (pw9 : Int64), va_P (dC, dI) vwCl [(h0, .inr (9, [.int th, .ref a1, .ref a2, .ref a3, .ref a4, .ref a5, .int ne, .int wi, .int dn, .ref a6, .ref a7, .int nn, .ref a8, .int la, .ref a9, .ref a10, .long up9, .long lw9, .int wh9, .long pu9, .long pw9, .ref a11])), (a1, .inl (cI, 16, .inl Fi)), (a2, .inl (cI, 16, .inl Ma)), (a4, .inl (cZ, 16, .inl Go)), (a5, .inl (cI, 576, .inl Sp))] t.heap ∧ va_K (dC, dI) vwCl [(cI, .int), (cZ, .boolean)] t ∧ va_D (va_A [(h0, .inr (9, [.int th, .ref a1, .ref a2, .ref a3, .ref a4, .ref a5, .int ne, .int wi, .int dn, .ref a6, .ref a7, .int nn, .ref a8, .int la, .ref a9, .ref a10, .long up, .long lw, .int wh, .long pu, .long pw, .ref a11])), (a1, .inl (cI, 16, .inl Fi)), (a2, .inl (cI, 16, .inl Ma)), (a4, .inl (cZ, 16, .inl Go)), (a5, .inl (cI, 576, .inl Sp))] sz) [(h0, .inr (9, [.int th, .ref a1, .ref a2, .ref a3, .ref a4, .ref a5, .int ne, .int wi, .int dn, .ref a6, .ref a7, .int nn, .ref a8, .int la, .ref a9, .ref a10, .long up9, .long lw9, .int wh9, .long pu9, .long pw9, .ref a11])), (a1, .inl (cI, 16, .inl Fi)), (a2, .inl (cI, 16, .inl Ma)), (a4, .inl (cZ, 16, .inl Go)), (a5, .inl (cI, 576, .inl Sp))]) (va_A [(h0, .inr (9, [.int th, .ref a1, .ref a2, .ref a3, .ref a4, .ref a5, .int ne, .int wi, .int dn, .ref a6, .ref a7, .int nn, .ref a8, .int la, .ref a9, .ref a10, .long up, .long lw, .int wh, .long pu, .long pw, .ref a11])), (a1, .inl (cI, 16, .inl Fi)), (a2, .inl (cI, 16, .inl Ma)), (a4, .inl (cZ, 16, .inl Go)), (a5, .inl (cI, 576, .inl Sp))] sz)) 0 0 (va_A [(h0, .inr (9, [.int th, .ref a1, .ref a2, .ref a3, .ref a4, .ref a5, .int ne, .int wi, .int dn, .ref a6, .ref a7, .int nn, .ref a8, .int la, .ref a9, .ref a10, .long up, .long lw, .int wh, .long pu, .long pw, .ref a11])), (a1, .inl (cI, 16, .inl Fi)), (a2, .inl (cI, 16, .inl Ma)), (a4, .inl (cZ, 16, .inl Go)), (a5, .inl (cI, 576, .inl Sp))] sz) := by
  refine Met.ofW (cc := cX9_meets) (maxL := 4) (ret := (some .int)) (by decide) rfl ?_
  intro p e s m args below meth c s₁ B hml hv
  obtain ⟨rfl, hsz, hP, hK, hD0⟩ := hv
  have hx := B.exec
  have hb := B.bytes
  have hr := B.returns
  have hts := atoms_spec (ws := wk_X9_meets) B.pre
  have hown : s.vm.findClass RX9 = some m.cls := findClass_of_methodNamed B.named
  have hlocks := B.notSynchronized
  subst hsz
  have hD := hD0.self (sz := s.heap.size)
  generalize hAe : va_A [(h0, .inr (9, [.int th, .ref a1, .ref a2, .ref a3, .ref a4, .ref a5, .int ne, .int wi, .int dn, .ref a6, .ref a7, .int nn, .ref a8, .int la, .ref a9, .ref a10, .long up, .long lw, .int wh, .long pu, .long pw, .ref a11])), (a1, .inl (cI, 16, .inl Fi)), (a2, .inl (cI, 16, .inl Ma)), (a4, .inl (cZ, 16, .inl Go)), (a5, .inl (cI, 576, .inl Sp))] s.heap.size = A at hD ⊢
  have hA : ∀ q : Nat, s.heap.size ≤ q → A q := fun q h => by rw [← hAe]; exact Or.inr h
  have hS : va_S A s.heap s.heap [] := va_S.rf
  have hP : va_P (dC, dI) vwCl [(h0, .inr (9, [.int th, .ref a1, .ref a2, .ref a3, .ref a4, .ref a5, .int ne, .int wi, .int dn, .ref a6, .ref a7, .int nn, .ref a8, .int la, .ref a9, .ref a10, .long up, .long lw, .int wh, .long pu, .long pw, .ref a11])), (a1, .inl (cI, 16, .inl Fi)), (a2, .inl (cI, 16, .inl Ma)), (a4, .inl (cZ, 16, .inl Go)), (a5, .inl (cI, 576, .inl Sp))] s.heap := hP
  have hl := lv_entry ([.ref h0, .int p1]) (n := 4) (Nat.le_of_ble_eq_true rfl)
  rw [lg_entry_eq]
  generalize (lg_sl ([.ref h0, .int p1]) ++ List.replicate (4 - (lg_sl ([.ref h0, .int p1])).length) Slot.unset).toArray = ls at hl ⊢
  have hl : lv_has ls 4 [(0, .ref h0), (1, .int p1)] := hl
  have kl_0 : (0 : Int32).toInt = 0 := by decide
  have kl_1 : (1 : Int32).toInt = 1 := by decide
  obtain ⟨hM0, hM1, hM2⟩ := id hM
  have np1 : ((p1.toNatClampNeg : Nat) : Int) = p1.toInt := tc_I (by omega)
  have bp1 := hM2 p1.toNatClampNeg (by omega)
  refine lv_iconst (v := 0) hx hb dX9_meets_0 (by decide) ?_
  refine lv_istore_n (lv' := [(2, .int 0), (0, .ref h0), (1, .int p1)]) hx hb dX9_meets_1 rfl hl (by decide) rfl (fun ls hl => ?_)
  refine lv_iconst (v := 0) hx hb dX9_meets_2 (by decide) ?_
  refine lv_istore_n (lv' := [(3, .int 0), (2, .int 0), (0, .ref h0), (1, .int p1)]) hx hb dX9_meets_3 rfl hl (by decide) rfl (fun ls hl => ?_)
  refine (show ∀ (k : Nat) (n2 : Int32) (u3 : Int32) (uq : Int64) (lq : Int64) (wq : Int32) (pq : Int64) (dq : Int64) (hu0 : 0 ≤ u3.toInt) (hu1 : u3.toInt ≤ th.toInt) (hk_4 : (th.toInt - u3.toInt).toNat < k) (H : Heap) (locs : List Loc) (hP : va_P (dC, dI) vwCl [(h0, .inr (9, [.int th, .ref a1, .ref a2, .ref a3, .ref a4, .ref a5, .int ne, .int wi, .int dn, .ref a6, .ref a7, .int nn, .ref a8, .int la, .ref a9, .ref a10, .long uq, .long lq, .int wq, .long pq, .long dq, .ref a11])), (a1, .inl (cI, 16, .inl Fi)), (a2, .inl (cI, 16, .inl Ma)), (a4, .inl (cZ, 16, .inl Go)), (a5, .inl (cI, 576, .inl Sp))] H) (hD : va_D A [(h0, .inr (9, [.int th, .ref a1, .ref a2, .ref a3, .ref a4, .ref a5, .int ne, .int wi, .int dn, .ref a6, .ref a7, .int nn, .ref a8, .int la, .ref a9, .ref a10, .long uq, .long lq, .int wq, .long pq, .long dq, .ref a11])), (a1, .inl (cI, 16, .inl Fi)), (a2, .inl (cI, 16, .inl Ma)), (a4, .inl (cZ, 16, .inl Go)), (a5, .inl (cI, 576, .inl Sp))]) (hS : va_S A s.heap H locs) (ls : Array Slot) (hl : lv_has ls 4 [(0, .ref h0), (1, .int p1), (2, .int n2), (3, .int u3)]), W p l e _ s m _ below meth c H locs 0 0 _ (F0 m 4 ls []) from ?_) _ 0 0 up lw wh pu pw (by omega) (by omega) (Nat.lt_succ_self _) _ _ hP hD hS ls (lv_sub hl [2, 3, 1, 0] rfl)
  intro k
  induction k with
  | zero => intro n2 u3 uq lq wq pq dq hu0 hu1 hk_4; exact absurd hk_4 (Nat.not_lt_zero _)
  | succ k ih_4 =>
    intro n2 u3 uq lq wq pq dq hu0 hu1 hk_4 H locs hP hD hS ls hl
    refine lv_iload_n hx hb dX9_meets_4 rfl (lv_at hl 3 rfl) ?_
    refine lv_aload_n hx hb dX9_meets_5 rfl (lv_at hl 0 rfl) ?_
    refine va_get (D := (dC, dI)) (ci := 9) (v := .int th) (C := RX9) (T := TX9) (N := 22) hx hb hts in_X9_meets_X9 hown hK hP 0 rfl rfl 0 (by decide) (hts (.fieldLink RX9 59 "MeetingsAboveModel" "things" "I") (by decide +kernel)) (fun _ h9 => h9) rfl dX9_meets_6 ?_
    refine lv_icmp_ge (tgt := 35) hx hb dX9_meets_9 (by decide) (fun c_9 => ?_) (fun c_9 => ?_)
    · have t_9 := (fa_le _ _).mp c_9
      refine lv_iload_n hx hb dX9_meets_35 rfl (lv_at hl 2 rfl) ?_
      have hP9 := hP.sub (ws' := [(h0, .inr (9, [.int th, .ref a1, .ref a2, .ref a3, .ref a4, .ref a5, .int ne, .int wi, .int dn, .ref a6, .ref a7, .int nn, .ref a8, .int la, .ref a9, .ref a10, .long uq, .long lq, .int wq, .long pq, .long dq, .ref a11])), (a1, .inl (cI, 16, .inl Fi)), (a2, .inl (cI, 16, .inl Ma)), (a4, .inl (cZ, 16, .inl Go)), (a5, .inl (cI, 576, .inl Sp))]) [0, 1, 2, 3, 4] rfl
      have hD9 := hD.sub (ws' := [(h0, .inr (9, [.int th, .ref a1, .ref a2, .ref a3, .ref a4, .ref a5, .int ne, .int wi, .int dn, .ref a6, .ref a7, .int nn, .ref a8, .int la, .ref a9, .ref a10, .long uq, .long lq, .int wq, .long pq, .long dq, .ref a11])), (a1, .inl (cI, 16, .inl Fi)), (a2, .inl (cI, 16, .inl Ma)), (a4, .inl (cZ, 16, .inl Go)), (a5, .inl (cI, 576, .inl Sp))]) [0, 1, 2, 3, 4] (by decide) rfl
      have hK9 := hK.sub (tys' := [(cI, .int), (cZ, .boolean)]) [0, 1] rfl
      refine W.widen (k := 0) (n := 0) (by omega) (by omega) ?_
      exact W.iret (v := n2) hx hb hr (fun t ht hW => ⟨⟨_, (), rfl, trivial, uq, lq, wq, pq, dq, by rw [ht]; exact hP9, va_K.moved hW.alike hK9, hD9⟩, hS.F ht⟩) hS.2.2 dX9_meets_36
    · have t_9 := mt (fa_le _ _).mpr c_9
      refine lv_iload_n hx hb dX9_meets_12 rfl (lv_at hl 2 rfl) ?_
      refine lv_aload_n hx hb dX9_meets_13 rfl (lv_at hl 0 rfl) ?_
      refine lv_iload_n hx hb dX9_meets_14 rfl (lv_at hl 1 rfl) ?_
      refine lv_iload_n hx hb dX9_meets_15 rfl (lv_at hl 3 rfl) ?_
      have hPc := hP.sub (ws' := [(h0, .inr (9, [.int th, .ref a1, .ref a2, .ref a3, .ref a4, .ref a5, .int ne, .int wi, .int dn, .ref a6, .ref a7, .int nn, .ref a8, .int la, .ref a9, .ref a10, .long uq, .long lq, .int wq, .long pq, .long dq, .ref a11])), (a1, .inl (cI, 16, .inl Fi)), (a2, .inl (cI, 16, .inl Ma)), (a4, .inl (cZ, 16, .inl Go)), (a5, .inl (cI, 576, .inl Sp))]) [0, 1, 2, 3, 4] rfl
      have hKc := hK.sub (tys' := [(cI, .int), (cZ, .boolean)]) [0, 1] rfl
      have hDc := hD.sub (ws' := [(h0, .inr (9, [.int th, .ref a1, .ref a2, .ref a3, .ref a4, .ref a5, .int ne, .int wi, .int dn, .ref a6, .ref a7, .int nn, .ref a8, .int la, .ref a9, .ref a10, .long uq, .long lq, .int wq, .long pq, .long dq, .ref a11])), (a1, .inl (cI, 16, .inl Fi)), (a2, .inl (cI, 16, .inl Ma)), (a4, .inl (cZ, 16, .inl Go)), (a5, .inl (cI, 576, .inl Sp))]) [0, 1, 2, 3, 4] (by decide) rfl
      have hFc := va_free (wc := [(h0, .inr (9, [.int th, .ref a1, .ref a2, .ref a3, .ref a4, .ref a5, .int ne, .int wi, .int dn, .ref a6, .ref a7, .int nn, .ref a8, .int la, .ref a9, .ref a10, .long uq, .long lq, .int wq, .long pq, .long dq, .ref a11])), (a1, .inl (cI, 16, .inl Fi)), (a2, .inl (cI, 16, .inl Ma)), (a4, .inl (cZ, 16, .inl Go)), (a5, .inl (cI, 576, .inl Sp))]) hD hS hA [0, 1, 2, 3, 4] rfl
      refine va_calli (va_runV (As := [.int p1, .int u3]) (rest := [.int n2]) ⟨hx, hb, hml, hown, hts⟩ (c_X9_isMeeting l dC dI h0 a1 a2 a3 a4 a5 a6 a7 a8 a9 a10 a11 th ne wi dn nn la wq uq lq pq dq cI cZ Fi Ma Go Sp p1 u3 H.size (by first | assumption | omega) (by first | omega | assumption) (by first | omega | assumption) (by first | omega | assumption) (by first | omega | assumption)) (cwV 2 hts g_X9_meets__X9_isMeeting_106 rfl rfl rfl (by decide +kernel) ⟨Nat.le_of_ble_eq_true rfl, Nat.le_of_ble_eq_true rfl⟩) ⟨fun a U g mk q => by obtain ⟨q0, q1, qP, qK, qD⟩ := q; exact ⟨q0, q1, qP, va_K.moved (u := U) (U := U.calling g mk a) (Vm.Alike.refl U.vm) qK, qD⟩, va_recv hKc hPc (ci := 9) (q0 := 0) rfl rfl, fun U hU hW => ⟨rfl, by rw [hU], by rw [hU]; exact hPc, va_K.moved hW.alike hKc, hDc.weaken (fun _ _ _ _ => trivial)⟩⟩ rfl rfl hl.1 rfl (lv_room (Nat.le_of_ble_eq_true rfl)) dX9_meets_16 ⟨Nat.le_of_ble_eq_true rfl, Nat.le_of_ble_eq_true rfl⟩) hS (fun q _ h => hFc q h) hFc (fun r_2 u_1 t H1 locs ht hvm hw_2 hB hz1 hk1 hS => ?_)
      obtain ⟨up9_3, wh9_4, pu9_5, pw9_6, hP1, hK1, hD1⟩ := hB
      rw [ht] at hP1
      have hK1 := va_K.moved hvm.symm hK1
      obtain ⟨hP, hD⟩ := va_join (wr := []) (w1 := [(h0, .inr (9, [.int th, .ref a1, .ref a2, .ref a3, .ref a4, .ref a5, .int ne, .int wi, .int dn, .ref a6, .ref a7, .int nn, .ref a8, .int la, .ref a9, .ref a10, .long up9_3, .long u_1, .int wh9_4, .long pu9_5, .long pw9_6, .ref a11])), (a1, .inl (cI, 16, .inl Fi)), (a2, .inl (cI, 16, .inl Ma)), (a4, .inl (cZ, 16, .inl Go)), (a5, .inl (cI, 576, .inl Sp))]) hP hD [0, 1, 2, 3, 4] [] rfl rfl (by decide) (by decide) hk1 hFc hP1 hD1
      have hK := (hK.sub (tys' := [(cI, .int), (cZ, .boolean)]) [0, 1] rfl).app hK1
      generalize H1 = H at hP hS ⊢
      have hP : va_P (dC, dI) vwCl [(h0, .inr (9, [.int th, .ref a1, .ref a2, .ref a3, .ref a4, .ref a5, .int ne, .int wi, .int dn, .ref a6, .ref a7, .int nn, .ref a8, .int la, .ref a9, .ref a10, .long up9_3, .long u_1, .int wh9_4, .long pu9_5, .long pw9_6, .ref a11])), (a1, .inl (cI, 16, .inl Fi)), (a2, .inl (cI, 16, .inl Ma)), (a4, .inl (cZ, 16, .inl Go)), (a5, .inl (cI, 576, .inl Sp))] H := hP
      have hD : va_D A [(h0, .inr (9, [.int th, .ref a1, .ref a2, .ref a3, .ref a4, .ref a5, .int ne, .int wi, .int dn, .ref a6, .ref a7, .int nn, .ref a8, .int la, .ref a9, .ref a10, .long up9_3, .long u_1, .int wh9_4, .long pu9_5, .long pw9_6, .ref a11])), (a1, .inl (cI, 16, .inl Fi)), (a2, .inl (cI, 16, .inl Ma)), (a4, .inl (cZ, 16, .inl Go)), (a5, .inl (cI, 576, .inl Sp))] := hD
      have hK : va_K (dC, dI) vwCl [(cI, .int), (cZ, .boolean), (cI, .int), (cZ, .boolean)] s := hK
      refine W.widen (k := 0) (n := 0) (by omega) (by omega) ?_
      try dsimp only at hw_2
      refine lv_if_eq (tgt := 26) hx hb dX9_meets_19 (by decide) (fun c_19 => ?_) (fun c_19 => ?_)
      · have t_19 := (fa_eq _ _).mp c_19
        refine lv_iconst (v := 0) hx hb dX9_meets_26 (by decide) ?_
        refine lv_iadd hx hb dX9_meets_27 ?_
        refine lv_topi (fun y_7 ey_7 => ?_)
        refine lv_istore_n (lv' := [(2, .int y_7), (0, .ref h0), (1, .int p1), (3, .int u3)]) hx hb dX9_meets_28 rfl hl (by decide) rfl (fun ls hl => ?_)
        obtain ⟨y_8, ey_8⟩ : ∃ y : Int32, y = u3 + 1 := ⟨_, rfl⟩
        have ty_8 : y_8.toInt = u3.toInt + 1 := by rw [ey_8]; have := fb_addI (x := u3) (y := 1) (by omega) (by omega); omega
        refine lv_iinc (v := y_8) (lv' := [(3, .int y_8), (2, .int y_7), (0, .ref h0), (1, .int p1)]) hx hb dX9_meets_29 hl (k := 3) rfl (by rw [ey_8]; rfl) (by decide) rfl (fun ls hl => ?_)
        refine lv_goto (tgt := 4) hx hb dX9_meets_32 (by decide) ?_
        exact ih_4 y_7 y_8 up9_3 u_1 wh9_4 pu9_5 pw9_6 (by omega) (by omega) (by omega) H _ (hP.sub [0, 1, 2, 3, 4] rfl) (hD.sub [0, 1, 2, 3, 4] (by decide) rfl) hS ls (lv_sub hl [2, 3, 1, 0] rfl)
      · have t_19 := mt (fa_eq _ _).mpr c_19
        refine lv_iconst (v := 1) hx hb dX9_meets_22 (by decide) ?_
        refine lv_goto (tgt := 27) hx hb dX9_meets_23 (by decide) ?_
        refine lv_iadd hx hb dX9_meets_27 ?_
        refine lv_topi (fun y_9 ey_9 => ?_)
        refine lv_istore_n (lv' := [(2, .int y_9), (0, .ref h0), (1, .int p1), (3, .int u3)]) hx hb dX9_meets_28 rfl hl (by decide) rfl (fun ls hl => ?_)
        obtain ⟨y_10, ey_10⟩ : ∃ y : Int32, y = u3 + 1 := ⟨_, rfl⟩
        have ty_10 : y_10.toInt = u3.toInt + 1 := by rw [ey_10]; have := fb_addI (x := u3) (y := 1) (by omega) (by omega); omega
        refine lv_iinc (v := y_10) (lv' := [(3, .int y_10), (2, .int y_9), (0, .ref h0), (1, .int p1)]) hx hb dX9_meets_29 hl (k := 3) rfl (by rw [ey_10]; rfl) (by decide) rfl (fun ls hl => ?_)
        refine lv_goto (tgt := 4) hx hb dX9_meets_32 (by decide) ?_
        exact ih_4 y_9 y_10 up9_3 u_1 wh9_4 pu9_5 pw9_6 (by omega) (by omega) (by omega) H _ (hP.sub [0, 1, 2, 3, 4] rfl) (hD.sub [0, 1, 2, 3, 4] (by decide) rfl) hS ls (lv_sub hl [2, 3, 1, 0] rfl)
