def wk_X9_answerE : List Cond := .code yX9_answer cX9_answer 4 (some .int) :: (([.fieldLink RX9 115 "MeetingsAboveModel" "notices" "I", .constantLong RX9 86 2, .fieldLink RX9 39 "MeetingsAboveModel" "noted" "[I", .fieldLink RX9 118 "MeetingsAboveModel" "late" "I", .constant RX9 85 (-100003), .constant RX9 70 (-100002), .constant RX9 84 (-100001)] : List Cond) ++ (wsX90 ++ ((va_wsS RX9 55 yX9_in wk_X9_in) ++ ((wsV RX9 80 RX9 yX9_isThing wk_X9_isThing) ++ ([])))))
theorem in_X9_answerE_X9 : ∀ w ∈ wsX90, w ∈ wk_X9_answerE := fun _ h => List.mem_cons_of_mem _ (List.mem_append_right _ (List.mem_append_left _ h))
theorem gw_X9_answerE : AG wk_X9_answerE := AG_ca (AG_l (by decide +kernel)) (AG_app ag_X9 (AG_app (AG_S gw_X9_in) (AG_app (AG_V gw_X9_isThing) (AG_nil))))
theorem g_X9_answerE__X9_in_55 : GoodIn wk_X9_answerE (va_wsS RX9 55 yX9_in wk_X9_in) := goodIn_m (fun _ h => List.mem_cons_of_mem _ (List.mem_append_right _ (List.mem_append_right _ (List.mem_append_left _ h)))) (AG_S gw_X9_in)
theorem g_X9_answerE__X9_isThing_80 : GoodIn wk_X9_answerE (wsV RX9 80 RX9 yX9_isThing wk_X9_isThing) := goodIn_m (fun _ h => List.mem_cons_of_mem _ (List.mem_append_right _ (List.mem_append_right _ (List.mem_append_right _ (List.mem_append_left _ h))))) (AG_V gw_X9_isThing)
set_option maxHeartbeats 4000000 in
set_option maxRecDepth 100000 in
theorem c_X9_answerE (l : Launch) (dC : Nat → ClassId) (dI : Nat → Nat → Nat) (h0 : Nat) (a1 : Nat) (a2 : Nat) (a3 : Nat) (a4 : Nat) (a5 : Nat) (a6 : Nat) (a7 : Nat) (a8 : Nat) (a9 : Nat) (a10 : Nat) (a11 : Nat) (th : Int32) (ne : Int32) (wi : Int32) (dn : Int32) (nn : Int32) (la : Int32) (wh : Int32) (up : Int64) (lw : Int64) (pu : Int64) (pw : Int64) (cI : ClassId) (No : Nat → Int32) (p1 : Int32) (p2 : Int32) (p3 : Int32) (sz : Nat) (hT0 : 0 ≤ th.toInt) (hT1 : th.toInt ≤ 16) (hn0 : 0 ≤ nn.toInt) (hn1 : nn.toInt ≤ 40) : Met l yX9_answer wk_X9_answerE ({ frames := 2, cells := 0, slots := 0, locals := 46 }) (va_Pc [.ref h0, .int p1, .int p2, .int p3] (fun U => U.heap.size = sz ∧ va_P (dC, dI) vwCl [(h0, .inr (9, [.int th, .ref a1, .ref a2, .ref a3, .ref a4, .ref a5, .int ne, .int wi, .int dn, .ref a6, .ref a7, .int nn, .ref a8, .int la, .ref a9, .ref a10, .long up, .long lw, .int wh, .long pu, .long pw, .ref a11])), (a8, .inl (cI, 320, .inl No))] U.heap ∧ va_K (dC, dI) vwCl [(cI, .int)] U ∧ va_D (fun _ => True) [(h0, .inr (9, [.int th, .ref a1, .ref a2, .ref a3, .ref a4, .ref a5, .int ne, .int wi, .int dn, .ref a6, .ref a7, .int nn, .ref a8, .int la, .ref a9, .ref a10, .long up, .long lw, .int wh, .long pu, .long pw, .ref a11])), (a8, .inl (cI, 320, .inl No))])) (va_Qi (fun (r : Int32) (_ : Unit) => anP ((0 ≤ p1.toInt ∧ p1.toInt < nn.toInt) ∧ (0 ≤ p2.toInt ∧ p2.toInt < th.toInt)) (mNV No p1.toNatClampNeg) p2.toInt p3.toInt r.toInt) (fun (_ : Unit) (t : State) => ∃ (la9 : Int32) (No9 : Nat → Int32), va_P (dC, dI) vwCl [(h0, .inr (9, [.int th, .ref a1, .ref a2, .ref a3, .ref a4, .ref a5, .int ne, .int wi, .int dn, .ref a6, .ref a7, .int nn, .ref a8, .int la9, .ref a9, .ref a10, .long up, .long lw, .int wh, .long pu, .long pw, .ref a11])), (a8, .inl (cI, 320, .inl No9))] t.heap ∧ va_K (dC, dI) vwCl [(cI, .int)] t ∧ va_D (va_A [(h0, .inr (9, [.int th, .ref a1, .ref a2, .ref a3, .ref a4, .ref a5, .int ne, .int wi, .int dn, .ref a6, .ref a7, .int nn, .ref a8, .int la, .ref a9, .ref a10, .long up, .long lw, .int wh, .long pu, .long pw, .ref a11])), (a8, .inl (cI, 320, .inl No))] sz) [(h0, .inr (9, [.int th, .ref a1, .ref a2, .ref a3, .ref a4, .ref a5, .int ne, .int wi, .int dn, .ref a6, .ref a7, .int nn, .ref a8, .int la9, .ref a9, .ref a10, .long up, .long lw, .int wh, .long pu, .long pw, .ref a11])), (a8, .inl (cI, 320, .inl No9))] ∧ ((anC ((0 ≤ p1.toInt ∧ p1.toInt < nn.toInt) ∧ (0 ≤ p2.toInt ∧ p2.toInt < th.toInt)) (mNV No p1.toNatClampNeg) p2.toInt p3.toInt ∧ (mNV No p1.toNatClampNeg).2.2.2.2.2.2.2.toInt ≠ 0 ∧ ((p2.toInt = (No (8 * p1.toNatClampNeg)).toInt ∧ No9 = upd No (8 * p1.toNatClampNeg + 6) p3) ∨ (p2.toInt ≠ (No (8 * p1.toNatClampNeg)).toInt ∧ No9 = upd No (8 * p1.toNatClampNeg + 7) p3)) ∧ la9 = la) ∨ (anC ((0 ≤ p1.toInt ∧ p1.toInt < nn.toInt) ∧ (0 ≤ p2.toInt ∧ p2.toInt < th.toInt)) (mNV No p1.toNatClampNeg) p2.toInt p3.toInt ∧ (mNV No p1.toNatClampNeg).2.2.2.2.2.2.2.toInt = 0 ∧ No9 = No ∧ la9 = la + 1) ∨ (¬ anC ((0 ≤ p1.toInt ∧ p1.toInt < nn.toInt) ∧ (0 ≤ p2.toInt ∧ p2.toInt < th.toInt)) (mNV No p1.toNatClampNeg) p2.toInt p3.toInt ∧ No9 = No ∧ la9 = la))) (va_A [(h0, .inr (9, [.int th, .ref a1, .ref a2, .ref a3, .ref a4, .ref a5, .int ne, .int wi, .int dn, .ref a6, .ref a7, .int nn, .ref a8, .int la, .ref a9, .ref a10, .long up, .long lw, .int wh, .long pu, .long pw, .ref a11])), (a8, .inl (cI, 320, .inl No))] sz)) 0 0 (va_A [(h0, .inr (9, [.int th, .ref a1, .ref a2, .ref a3, .ref a4, .ref a5, .int ne, .int wi, .int dn, .ref a6, .ref a7, .int nn, .ref a8, .int la, .ref a9, .ref a10, .long up, .long lw, .int wh, .long pu, .long pw, .ref a11])), (a8, .inl (cI, 320, .inl No))] sz) := by
  refine Met.ofW (cc := cX9_answer) (maxL := 4) (ret := (some .int)) (by decide) rfl ?_
  intro p e s m args below meth c s₁ B hml hv
  obtain ⟨rfl, hsz, hP, hK, hD0⟩ := hv
  have hx := B.exec
  have hb := B.bytes
  have hr := B.returns
  have hts := atoms_spec (ws := wk_X9_answerE) B.pre
  have hown : s.vm.findClass RX9 = some m.cls := findClass_of_methodNamed B.named
  have hlocks := B.notSynchronized
  subst hsz
  have hD := hD0.self (sz := s.heap.size)
  generalize hAe : va_A [(h0, .inr (9, [.int th, .ref a1, .ref a2, .ref a3, .ref a4, .ref a5, .int ne, .int wi, .int dn, .ref a6, .ref a7, .int nn, .ref a8, .int la, .ref a9, .ref a10, .long up, .long lw, .int wh, .long pu, .long pw, .ref a11])), (a8, .inl (cI, 320, .inl No))] s.heap.size = A at hD ⊢
  have hA : ∀ q : Nat, s.heap.size ≤ q → A q := fun q h => by rw [← hAe]; exact Or.inr h
  have hS : va_S A s.heap s.heap [] := va_S.rf
  have hP : va_P (dC, dI) vwCl [(h0, .inr (9, [.int th, .ref a1, .ref a2, .ref a3, .ref a4, .ref a5, .int ne, .int wi, .int dn, .ref a6, .ref a7, .int nn, .ref a8, .int la, .ref a9, .ref a10, .long up, .long lw, .int wh, .long pu, .long pw, .ref a11])), (a8, .inl (cI, 320, .inl No))] s.heap := hP
  have hl := lv_entry ([.ref h0, .int p1, .int p2, .int p3]) (n := 4) (Nat.le_of_ble_eq_true rfl)
  rw [lg_entry_eq]
  generalize (lg_sl ([.ref h0, .int p1, .int p2, .int p3]) ++ List.replicate (4 - (lg_sl ([.ref h0, .int p1, .int p2, .int p3])).length) Slot.unset).toArray = ls at hl ⊢
  have hl : lv_has ls 4 [(0, .ref h0), (1, .int p1), (2, .int p2), (3, .int p3)] := hl
  have kl_m100003 : (-100003 : Int32).toInt = -100003 := by decide
  have kl_m100002 : (-100002 : Int32).toInt = -100002 := by decide
  have kl_m100001 : (-100001 : Int32).toInt = -100001 := by decide
  have kl_0 : (0 : Int32).toInt = 0 := by decide
  have kl_1 : (1 : Int32).toInt = 1 := by decide
  have kl_2 : (2 : Int32).toInt = 2 := by decide
  have kl_5 : (5 : Int32).toInt = 5 := by decide
  have kl_6 : (6 : Int32).toInt = 6 := by decide
  have kl_7 : (7 : Int32).toInt = 7 := by decide
  have kl_8 : (8 : Int32).toInt = 8 := by decide
  have klL_0 : (0 : Int64).toInt = 0 := by decide
  have klL_1 : (1 : Int64).toInt = 1 := by decide
  have klL_2 : (2 : Int64).toInt = 2 := by decide
  have np1 : 0 ≤ p1.toInt → ((p1.toNatClampNeg : Nat) : Int) = p1.toInt := fun h => tc_I h
  refine lv_iload_n hx hb dX9_answer_0 rfl (lv_at hl 1 rfl) ?_
  refine lv_i2l hx hb dX9_answer_1 rfl ?_
  refine lv_lconst (v := 0) hx hb dX9_answer_2 (by decide) ?_
  refine lv_aload_n hx hb dX9_answer_3 rfl (lv_at hl 0 rfl) ?_
  refine va_get (D := (dC, dI)) (ci := 9) (v := .int nn) (C := RX9) (T := TX9) (N := 22) hx hb hts in_X9_answerE_X9 hown hK hP 0 rfl rfl 11 (by decide) (hts (.fieldLink RX9 115 "MeetingsAboveModel" "notices" "I") (by decide +kernel)) (fun _ h9 => h9) rfl dX9_answer_4 ?_
  refine lv_iconst (v := 1) hx hb dX9_answer_7 (by decide) ?_
  refine lv_isub hx hb dX9_answer_8 ?_
  refine lv_topi (fun y_1 ey_1 => ?_)
  have ty_1 : y_1.toInt = nn.toInt - 1 := by rw [ey_1]; have := fb_subI (x := nn) (y := 1) (by omega) (by omega); omega
  refine lv_i2l hx hb dX9_answer_9 rfl ?_
  refine vp_callSi (W.runS (As := [.long p1.toInt64, .long 0, .long y_1.toInt64]) (rest := []) ⟨hx, hb, hml, hown, hts⟩ (c_X9_in l dC dI p1.toInt64 0 y_1.toInt64) (va_cwS 3 hts g_X9_answerE__X9_in_55 rfl rfl rfl (by decide +kernel) ⟨Nat.le_of_ble_eq_true rfl, Nat.le_of_ble_eq_true rfl⟩) ⟨fun a U g mk q => by obtain ⟨q0, q1⟩ := q; exact ⟨q0, q1⟩, fun U hU hW => ⟨rfl, trivial⟩⟩ rfl rfl hl.1 rfl (lv_room (Nat.le_of_ble_eq_true rfl)) dX9_answer_10 ⟨Nat.le_of_ble_eq_true rfl, Nat.le_of_ble_eq_true rfl⟩) (fun r_2 hr_2 => ?_)
  try dsimp only at hr_2
  rcases bo_split hr_2 with ⟨rfl, q_10⟩ | ⟨rfl, q_10⟩
  · simp only [Int32.toInt_toInt64, klL_0] at q_10
    refine lv_if_eq (tgt := 24) hx hb dX9_answer_13 (by decide) (fun h9 => absurd h9 (by decide)) (fun _ => ?_)
    refine lv_aload_n hx hb dX9_answer_16 rfl (lv_at hl 0 rfl) ?_
    refine lv_iload_n hx hb dX9_answer_17 rfl (lv_at hl 2 rfl) ?_
    have hPc := hP.sub (ws' := [(h0, .inr (9, [.int th, .ref a1, .ref a2, .ref a3, .ref a4, .ref a5, .int ne, .int wi, .int dn, .ref a6, .ref a7, .int nn, .ref a8, .int la, .ref a9, .ref a10, .long up, .long lw, .int wh, .long pu, .long pw, .ref a11]))]) [0] rfl
    have hKc := hK.sub (tys' := []) [] rfl
    refine vp_callSi (W.runV (As := [.int p2]) (rest := []) ⟨hx, hb, hml, hown, hts⟩ (c_X9_isThing l dC dI h0 a1 a2 a3 a4 a5 a6 a7 a8 a9 a10 a11 th ne wi dn nn la wh up lw pu pw p2 (by first | omega | assumption) (by first | omega | assumption)) (cwV 1 hts g_X9_answerE__X9_isThing_80 rfl rfl rfl (by decide +kernel) ⟨Nat.le_of_ble_eq_true rfl, Nat.le_of_ble_eq_true rfl⟩) ⟨fun a U g mk q => by obtain ⟨q0, qP, qK⟩ := q; exact ⟨q0, qP, va_K.moved (u := U) (U := U.calling g mk a) (Vm.Alike.refl U.vm) qK⟩, va_recv hKc hPc (ci := 9) (q0 := 0) rfl rfl, fun U hU hW => ⟨rfl, by rw [hU]; exact hPc, va_K.moved hW.alike hKc⟩⟩ rfl rfl hl.1 rfl (lv_room (Nat.le_of_ble_eq_true rfl)) dX9_answer_18 ⟨Nat.le_of_ble_eq_true rfl, Nat.le_of_ble_eq_true rfl⟩) (fun r_3 hr_3 => ?_)
    try dsimp only at hr_3
    rcases bo_split hr_3 with ⟨rfl, q_18⟩ | ⟨rfl, q_18⟩
    · refine lv_if_ne (tgt := 27) hx hb dX9_answer_21 (by decide) (fun _ => ?_) (fun h9 => absurd h9 (by decide))
      refine lv_iload_n hx hb dX9_answer_27 rfl (lv_at hl 3 rfl) ?_
      refine lv_i2l hx hb dX9_answer_28 rfl ?_
      refine lv_lconst (v := 1) hx hb dX9_answer_29 (by decide) ?_
      refine lv_ldc2 hx hb hown (hts (.constantLong RX9 86 2) (by decide +kernel)) dX9_answer_30 ?_
      refine vp_callSi (W.runS (As := [.long p3.toInt64, .long 1, .long 2]) (rest := []) ⟨hx, hb, hml, hown, hts⟩ (c_X9_in l dC dI p3.toInt64 1 2) (va_cwS 3 hts g_X9_answerE__X9_in_55 rfl rfl rfl (by decide +kernel) ⟨Nat.le_of_ble_eq_true rfl, Nat.le_of_ble_eq_true rfl⟩) ⟨fun a U g mk q => by obtain ⟨q0, q1⟩ := q; exact ⟨q0, q1⟩, fun U hU hW => ⟨rfl, trivial⟩⟩ rfl rfl hl.1 rfl (lv_room (Nat.le_of_ble_eq_true rfl)) dX9_answer_33 ⟨Nat.le_of_ble_eq_true rfl, Nat.le_of_ble_eq_true rfl⟩) (fun r_4 hr_4 => ?_)
      try dsimp only at hr_4
      rcases bo_split hr_4 with ⟨rfl, q_33⟩ | ⟨rfl, q_33⟩
      · simp only [Int32.toInt_toInt64, klL_1, klL_2] at q_33
        refine lv_if_ne (tgt := 42) hx hb dX9_answer_36 (by decide) (fun _ => ?_) (fun h9 => absurd h9 (by decide))
        have np2 := np1 (by omega)
        refine lv_aload_n hx hb dX9_answer_42 rfl (lv_at hl 0 rfl) ?_
        refine va_get (D := (dC, dI)) (ci := 9) (v := .ref a8) (C := RX9) (T := TX9) (N := 22) hx hb hts in_X9_answerE_X9 hown hK hP 0 rfl rfl 12 (by decide) (hts (.fieldLink RX9 39 "MeetingsAboveModel" "noted" "[I") (by decide +kernel)) (fun _ h9 => h9) rfl dX9_answer_43 ?_
        refine lv_bipush (v := 8) hx hb dX9_answer_46 (by decide) ?_
        refine lv_iload_n hx hb dX9_answer_48 rfl (lv_at hl 1 rfl) ?_
        refine lv_imul hx hb dX9_answer_49 ?_
        refine lv_topi (fun y_5 ey_5 => ?_)
        have ty_5 : y_5.toInt = 8 * p1.toInt := by rw [ey_5]; exact fm_lI kl_8 (by omega) (by omega)
        refine va_iald hx hb hK hP 1 0 rfl rfl (vp_in_iff.mpr ⟨by omega, by omega⟩) dX9_answer_50 ?_
        refine lv_topi (fun y_6 ey_6 => ?_)
        have ny_6 : (((y_5 : Int32).toNatClampNeg : Nat) : Int) = (y_5 : Int32).toInt := tc_I (by omega)
        have uy_6 : y_6.toInt = (No (8 * p1.toNatClampNeg)).toInt := by rw [ey_6, show (y_5 : Int32).toNatClampNeg = 8 * p1.toNatClampNeg by omega]
        refine lv_iload_n hx hb dX9_answer_51 rfl (lv_at hl 2 rfl) ?_
        refine lv_icmp_eq (tgt := 73) hx hb dX9_answer_52 (by decide) (fun c_52 => ?_) (fun c_52 => ?_)
        · have t_52 := (fa_eq _ _).mp c_52
          refine lv_aload_n hx hb dX9_answer_73 rfl (lv_at hl 0 rfl) ?_
          refine va_get (D := (dC, dI)) (ci := 9) (v := .ref a8) (C := RX9) (T := TX9) (N := 22) hx hb hts in_X9_answerE_X9 hown hK hP 0 rfl rfl 12 (by decide) (hts (.fieldLink RX9 39 "MeetingsAboveModel" "noted" "[I") (by decide +kernel)) (fun _ h9 => h9) rfl dX9_answer_74 ?_
          refine lv_bipush (v := 8) hx hb dX9_answer_77 (by decide) ?_
          refine lv_iload_n hx hb dX9_answer_79 rfl (lv_at hl 1 rfl) ?_
          refine lv_imul hx hb dX9_answer_80 ?_
          refine lv_topi (fun y_7 ey_7 => ?_)
          have ty_7 : y_7.toInt = 8 * p1.toInt := by rw [ey_7]; exact fm_lI kl_8 (by omega) (by omega)
          refine lv_iconst (v := 5) hx hb dX9_answer_81 (by decide) ?_
          refine lv_iadd hx hb dX9_answer_82 ?_
          refine lv_topi (fun y_8 ey_8 => ?_)
          have ty_8 : y_8.toInt = y_7.toInt + 5 := by rw [ey_8]; have := fb_addI (x := y_7) (y := 5) (by omega) (by omega); omega
          refine va_iald hx hb hK hP 1 0 rfl rfl (vp_in_iff.mpr ⟨by omega, by omega⟩) dX9_answer_83 ?_
          refine lv_topi (fun y_9 ey_9 => ?_)
          have ny_9 : (((y_8 : Int32).toNatClampNeg : Nat) : Int) = (y_8 : Int32).toInt := tc_I (by omega)
          have uy_9 : y_9.toInt = (No (8 * p1.toNatClampNeg + 5)).toInt := by rw [ey_9, show (y_8 : Int32).toNatClampNeg = 8 * p1.toNatClampNeg + 5 by omega]
          refine lv_if_ne (tgt := 99) hx hb dX9_answer_84 (by decide) (fun c_84 => ?_) (fun c_84 => ?_)
          · have t_84 := mt (fa_eq _ _).mpr c_84
            refine lv_aload_n hx hb dX9_answer_99 rfl (lv_at hl 0 rfl) ?_
            refine va_get (D := (dC, dI)) (ci := 9) (v := .ref a8) (C := RX9) (T := TX9) (N := 22) hx hb hts in_X9_answerE_X9 hown hK hP 0 rfl rfl 12 (by decide) (hts (.fieldLink RX9 39 "MeetingsAboveModel" "noted" "[I") (by decide +kernel)) (fun _ h9 => h9) rfl dX9_answer_100 ?_
            refine lv_bipush (v := 8) hx hb dX9_answer_103 (by decide) ?_
            refine lv_iload_n hx hb dX9_answer_105 rfl (lv_at hl 1 rfl) ?_
            refine lv_imul hx hb dX9_answer_106 ?_
            refine lv_topi (fun y_10 ey_10 => ?_)
            have ty_10 : y_10.toInt = 8 * p1.toInt := by rw [ey_10]; exact fm_lI kl_8 (by omega) (by omega)
            refine lv_aload_n hx hb dX9_answer_107 rfl (lv_at hl 0 rfl) ?_
            refine va_get (D := (dC, dI)) (ci := 9) (v := .ref a8) (C := RX9) (T := TX9) (N := 22) hx hb hts in_X9_answerE_X9 hown hK hP 0 rfl rfl 12 (by decide) (hts (.fieldLink RX9 39 "MeetingsAboveModel" "noted" "[I") (by decide +kernel)) (fun _ h9 => h9) rfl dX9_answer_108 ?_
            refine lv_bipush (v := 8) hx hb dX9_answer_111 (by decide) ?_
            refine lv_iload_n hx hb dX9_answer_113 rfl (lv_at hl 1 rfl) ?_
            refine lv_imul hx hb dX9_answer_114 ?_
            refine lv_topi (fun y_11 ey_11 => ?_)
            have ty_11 : y_11.toInt = 8 * p1.toInt := by rw [ey_11]; exact fm_lI kl_8 (by omega) (by omega)
            refine va_iald hx hb hK hP 1 0 rfl rfl (vp_in_iff.mpr ⟨by omega, by omega⟩) dX9_answer_115 ?_
            refine lv_topi (fun y_12 ey_12 => ?_)
            have ny_12 : (((y_11 : Int32).toNatClampNeg : Nat) : Int) = (y_11 : Int32).toInt := tc_I (by omega)
            have uy_12 : y_12.toInt = (No (8 * p1.toNatClampNeg)).toInt := by rw [ey_12, show (y_11 : Int32).toNatClampNeg = 8 * p1.toNatClampNeg by omega]
            refine lv_iload_n hx hb dX9_answer_116 rfl (lv_at hl 2 rfl) ?_
            refine lv_icmp_ne (tgt := 125) hx hb dX9_answer_117 (by decide) (fun c_117 => ?_) (fun c_117 => ?_)
            · have t_117 := mt (fa_eq _ _).mpr c_117
              refine lv_bipush (v := 7) hx hb dX9_answer_125 (by decide) ?_
              refine lv_iadd hx hb dX9_answer_127 ?_
              refine lv_topi (fun y_13 ey_13 => ?_)
              have ty_13 : y_13.toInt = y_10.toInt + 7 := by rw [ey_13]; have := fb_addI (x := y_10) (y := 7) (by omega) (by omega); omega
              refine lv_iload_n hx hb dX9_answer_128 rfl (lv_at hl 3 rfl) ?_
              refine va_iast hx hb hK hP hD hS 1 0 rfl rfl (vp_in_iff.mpr ⟨by omega, by omega⟩) dX9_answer_129 (fun H locs hP hD hS => ?_)
              have hP : va_P (dC, dI) vwCl [(h0, .inr (9, [.int th, .ref a1, .ref a2, .ref a3, .ref a4, .ref a5, .int ne, .int wi, .int dn, .ref a6, .ref a7, .int nn, .ref a8, .int la, .ref a9, .ref a10, .long up, .long lw, .int wh, .long pu, .long pw, .ref a11])), (a8, .inl (cI, 320, .inl (upd No (y_13 : Int32).toNatClampNeg p3)))] H := hP
              have hD : va_D A [(h0, .inr (9, [.int th, .ref a1, .ref a2, .ref a3, .ref a4, .ref a5, .int ne, .int wi, .int dn, .ref a6, .ref a7, .int nn, .ref a8, .int la, .ref a9, .ref a10, .long up, .long lw, .int wh, .long pu, .long pw, .ref a11])), (a8, .inl (cI, 320, .inl (upd No (y_13 : Int32).toNatClampNeg p3)))] := hD
              refine lv_iconst (v := 1) hx hb dX9_answer_130 (by decide) ?_
              have hP9 := hP.sub (ws' := [(h0, .inr (9, [.int th, .ref a1, .ref a2, .ref a3, .ref a4, .ref a5, .int ne, .int wi, .int dn, .ref a6, .ref a7, .int nn, .ref a8, .int la, .ref a9, .ref a10, .long up, .long lw, .int wh, .long pu, .long pw, .ref a11])), (a8, .inl (cI, 320, .inl (upd No (y_13 : Int32).toNatClampNeg p3)))]) [0, 1] rfl
              have hD9 := hD.sub (ws' := [(h0, .inr (9, [.int th, .ref a1, .ref a2, .ref a3, .ref a4, .ref a5, .int ne, .int wi, .int dn, .ref a6, .ref a7, .int nn, .ref a8, .int la, .ref a9, .ref a10, .long up, .long lw, .int wh, .long pu, .long pw, .ref a11])), (a8, .inl (cI, 320, .inl (upd No (y_13 : Int32).toNatClampNeg p3)))]) [0, 1] (by decide) rfl
              have hK9 := hK.sub (tys' := [(cI, .int)]) [0] rfl
              refine W.widen (k := 0) (n := 0) (by omega) (by omega) ?_
              exact W.iret (v := 1) hx hb hr (fun t ht hW => ⟨⟨_, (), rfl, (Or.inr (Or.inr (Or.inr (Or.inr ⟨⟨⟨⟨by omega, by omega⟩, ⟨by omega, by omega⟩⟩, by omega, (by omega : p2.toInt = (No (8 * p1.toNatClampNeg)).toInt ∨ p2.toInt = (No (8 * p1.toNatClampNeg + 1)).toInt)⟩, (by omega : (No (8 * p1.toNatClampNeg + 5)).toInt ≠ 0), by decide⟩)))), la, (upd No (y_13 : Int32).toNatClampNeg p3), by rw [ht]; exact hP9, va_K.moved hW.alike hK9, hD9, (Or.inl ⟨⟨⟨⟨by omega, by omega⟩, ⟨by omega, by omega⟩⟩, by omega, (by omega : p2.toInt = (No (8 * p1.toNatClampNeg)).toInt ∨ p2.toInt = (No (8 * p1.toNatClampNeg + 1)).toInt)⟩, (by omega : (No (8 * p1.toNatClampNeg + 5)).toInt ≠ 0), Or.inr ⟨by omega, up_eq (by have n9 : (((y_13).toNatClampNeg : Nat) : Int) = (y_13).toInt := tc_I (by omega); omega)⟩, rfl⟩)⟩, hS.F ht⟩) hS.2.2 dX9_answer_131
            · have t_117 := (fa_eq _ _).mp c_117
              refine lv_bipush (v := 6) hx hb dX9_answer_120 (by decide) ?_
              refine lv_goto (tgt := 127) hx hb dX9_answer_122 (by decide) ?_
              refine lv_iadd hx hb dX9_answer_127 ?_
              refine lv_topi (fun y_14 ey_14 => ?_)
              have ty_14 : y_14.toInt = y_10.toInt + 6 := by rw [ey_14]; have := fb_addI (x := y_10) (y := 6) (by omega) (by omega); omega
              refine lv_iload_n hx hb dX9_answer_128 rfl (lv_at hl 3 rfl) ?_
              refine va_iast hx hb hK hP hD hS 1 0 rfl rfl (vp_in_iff.mpr ⟨by omega, by omega⟩) dX9_answer_129 (fun H locs hP hD hS => ?_)
              have hP : va_P (dC, dI) vwCl [(h0, .inr (9, [.int th, .ref a1, .ref a2, .ref a3, .ref a4, .ref a5, .int ne, .int wi, .int dn, .ref a6, .ref a7, .int nn, .ref a8, .int la, .ref a9, .ref a10, .long up, .long lw, .int wh, .long pu, .long pw, .ref a11])), (a8, .inl (cI, 320, .inl (upd No (y_14 : Int32).toNatClampNeg p3)))] H := hP
              have hD : va_D A [(h0, .inr (9, [.int th, .ref a1, .ref a2, .ref a3, .ref a4, .ref a5, .int ne, .int wi, .int dn, .ref a6, .ref a7, .int nn, .ref a8, .int la, .ref a9, .ref a10, .long up, .long lw, .int wh, .long pu, .long pw, .ref a11])), (a8, .inl (cI, 320, .inl (upd No (y_14 : Int32).toNatClampNeg p3)))] := hD
              refine lv_iconst (v := 1) hx hb dX9_answer_130 (by decide) ?_
              have hP9 := hP.sub (ws' := [(h0, .inr (9, [.int th, .ref a1, .ref a2, .ref a3, .ref a4, .ref a5, .int ne, .int wi, .int dn, .ref a6, .ref a7, .int nn, .ref a8, .int la, .ref a9, .ref a10, .long up, .long lw, .int wh, .long pu, .long pw, .ref a11])), (a8, .inl (cI, 320, .inl (upd No (y_14 : Int32).toNatClampNeg p3)))]) [0, 1] rfl
              have hD9 := hD.sub (ws' := [(h0, .inr (9, [.int th, .ref a1, .ref a2, .ref a3, .ref a4, .ref a5, .int ne, .int wi, .int dn, .ref a6, .ref a7, .int nn, .ref a8, .int la, .ref a9, .ref a10, .long up, .long lw, .int wh, .long pu, .long pw, .ref a11])), (a8, .inl (cI, 320, .inl (upd No (y_14 : Int32).toNatClampNeg p3)))]) [0, 1] (by decide) rfl
              have hK9 := hK.sub (tys' := [(cI, .int)]) [0] rfl
              refine W.widen (k := 0) (n := 0) (by omega) (by omega) ?_
              exact W.iret (v := 1) hx hb hr (fun t ht hW => ⟨⟨_, (), rfl, (Or.inr (Or.inr (Or.inr (Or.inr ⟨⟨⟨⟨by omega, by omega⟩, ⟨by omega, by omega⟩⟩, by omega, (by omega : p2.toInt = (No (8 * p1.toNatClampNeg)).toInt ∨ p2.toInt = (No (8 * p1.toNatClampNeg + 1)).toInt)⟩, (by omega : (No (8 * p1.toNatClampNeg + 5)).toInt ≠ 0), by decide⟩)))), la, (upd No (y_14 : Int32).toNatClampNeg p3), by rw [ht]; exact hP9, va_K.moved hW.alike hK9, hD9, (Or.inl ⟨⟨⟨⟨by omega, by omega⟩, ⟨by omega, by omega⟩⟩, by omega, (by omega : p2.toInt = (No (8 * p1.toNatClampNeg)).toInt ∨ p2.toInt = (No (8 * p1.toNatClampNeg + 1)).toInt)⟩, (by omega : (No (8 * p1.toNatClampNeg + 5)).toInt ≠ 0), Or.inl ⟨by omega, up_eq (by have n9 : (((y_14).toNatClampNeg : Nat) : Int) = (y_14).toInt := tc_I (by omega); omega)⟩, rfl⟩)⟩, hS.F ht⟩) hS.2.2 dX9_answer_131
          · have t_84 := (fa_eq _ _).mp c_84
            refine lv_aload_n hx hb dX9_answer_87 rfl (lv_at hl 0 rfl) ?_
            refine lv_dup hx hb dX9_answer_88 rfl ?_
            refine va_get (D := (dC, dI)) (ci := 9) (v := .int la) (C := RX9) (T := TX9) (N := 22) hx hb hts in_X9_answerE_X9 hown hK hP 0 rfl rfl 13 (by decide) (hts (.fieldLink RX9 118 "MeetingsAboveModel" "late" "I") (by decide +kernel)) (fun _ h9 => h9) rfl dX9_answer_89 ?_
            refine lv_iconst (v := 1) hx hb dX9_answer_92 (by decide) ?_
            refine lv_iadd hx hb dX9_answer_93 ?_
            refine lv_topi (fun y_15 ey_15 => ?_)
            refine va_put (D := (dC, dI)) (ci := 9) (v := .int y_15) (ty := .int) (C := RX9) (T := TX9) (N := 22) hx hb hts in_X9_answerE_X9 tyX9 tyX9_ok nmX9 hown hK hP hD hS 0 rfl rfl 13 (by decide) (hts (.fieldLink RX9 118 "MeetingsAboveModel" "late" "I") (by decide +kernel)) (fun _ h9 => h9) rfl (by decide +kernel) rfl rfl (Nat.le_of_ble_eq_true rfl) dX9_answer_94 (fun H locs hP hD hS => ?_)
            have hP : va_P (dC, dI) vwCl [(h0, .inr (9, [.int th, .ref a1, .ref a2, .ref a3, .ref a4, .ref a5, .int ne, .int wi, .int dn, .ref a6, .ref a7, .int nn, .ref a8, .int y_15, .ref a9, .ref a10, .long up, .long lw, .int wh, .long pu, .long pw, .ref a11])), (a8, .inl (cI, 320, .inl No))] H := hP
            have hD : va_D A [(h0, .inr (9, [.int th, .ref a1, .ref a2, .ref a3, .ref a4, .ref a5, .int ne, .int wi, .int dn, .ref a6, .ref a7, .int nn, .ref a8, .int y_15, .ref a9, .ref a10, .long up, .long lw, .int wh, .long pu, .long pw, .ref a11])), (a8, .inl (cI, 320, .inl No))] := hD
            refine lv_iconst (v := 0) hx hb dX9_answer_97 (by decide) ?_
            have hP9 := hP.sub (ws' := [(h0, .inr (9, [.int th, .ref a1, .ref a2, .ref a3, .ref a4, .ref a5, .int ne, .int wi, .int dn, .ref a6, .ref a7, .int nn, .ref a8, .int y_15, .ref a9, .ref a10, .long up, .long lw, .int wh, .long pu, .long pw, .ref a11])), (a8, .inl (cI, 320, .inl No))]) [0, 1] rfl
            have hD9 := hD.sub (ws' := [(h0, .inr (9, [.int th, .ref a1, .ref a2, .ref a3, .ref a4, .ref a5, .int ne, .int wi, .int dn, .ref a6, .ref a7, .int nn, .ref a8, .int y_15, .ref a9, .ref a10, .long up, .long lw, .int wh, .long pu, .long pw, .ref a11])), (a8, .inl (cI, 320, .inl No))]) [0, 1] (by decide) rfl
            have hK9 := hK.sub (tys' := [(cI, .int)]) [0] rfl
            refine W.widen (k := 0) (n := 0) (by omega) (by omega) ?_
            exact W.iret (v := 0) hx hb hr (fun t ht hW => ⟨⟨_, (), rfl, (Or.inr (Or.inr (Or.inr (Or.inl ⟨⟨⟨⟨by omega, by omega⟩, ⟨by omega, by omega⟩⟩, by omega, (by omega : p2.toInt = (No (8 * p1.toNatClampNeg)).toInt ∨ p2.toInt = (No (8 * p1.toNatClampNeg + 1)).toInt)⟩, (by omega : (No (8 * p1.toNatClampNeg + 5)).toInt = 0), by decide⟩)))), y_15, No, by rw [ht]; exact hP9, va_K.moved hW.alike hK9, hD9, (Or.inr (Or.inl ⟨⟨⟨⟨by omega, by omega⟩, ⟨by omega, by omega⟩⟩, by omega, (by omega : p2.toInt = (No (8 * p1.toNatClampNeg)).toInt ∨ p2.toInt = (No (8 * p1.toNatClampNeg + 1)).toInt)⟩, (by omega : (No (8 * p1.toNatClampNeg + 5)).toInt = 0), rfl, ey_15⟩))⟩, hS.F ht⟩) hS.2.2 dX9_answer_98
        · have t_52 := mt (fa_eq _ _).mpr c_52
          refine lv_aload_n hx hb dX9_answer_55 rfl (lv_at hl 0 rfl) ?_
          refine va_get (D := (dC, dI)) (ci := 9) (v := .ref a8) (C := RX9) (T := TX9) (N := 22) hx hb hts in_X9_answerE_X9 hown hK hP 0 rfl rfl 12 (by decide) (hts (.fieldLink RX9 39 "MeetingsAboveModel" "noted" "[I") (by decide +kernel)) (fun _ h9 => h9) rfl dX9_answer_56 ?_
          refine lv_bipush (v := 8) hx hb dX9_answer_59 (by decide) ?_
          refine lv_iload_n hx hb dX9_answer_61 rfl (lv_at hl 1 rfl) ?_
          refine lv_imul hx hb dX9_answer_62 ?_
          refine lv_topi (fun y_16 ey_16 => ?_)
          have ty_16 : y_16.toInt = 8 * p1.toInt := by rw [ey_16]; exact fm_lI kl_8 (by omega) (by omega)
          refine lv_iconst (v := 1) hx hb dX9_answer_63 (by decide) ?_
          refine lv_iadd hx hb dX9_answer_64 ?_
          refine lv_topi (fun y_17 ey_17 => ?_)
          have ty_17 : y_17.toInt = y_16.toInt + 1 := by rw [ey_17]; have := fb_addI (x := y_16) (y := 1) (by omega) (by omega); omega
          refine va_iald hx hb hK hP 1 0 rfl rfl (vp_in_iff.mpr ⟨by omega, by omega⟩) dX9_answer_65 ?_
          refine lv_topi (fun y_18 ey_18 => ?_)
          have ny_18 : (((y_17 : Int32).toNatClampNeg : Nat) : Int) = (y_17 : Int32).toInt := tc_I (by omega)
          have uy_18 : y_18.toInt = (No (8 * p1.toNatClampNeg + 1)).toInt := by rw [ey_18, show (y_17 : Int32).toNatClampNeg = 8 * p1.toNatClampNeg + 1 by omega]
          refine lv_iload_n hx hb dX9_answer_66 rfl (lv_at hl 2 rfl) ?_
          refine lv_icmp_eq (tgt := 73) hx hb dX9_answer_67 (by decide) (fun c_67 => ?_) (fun c_67 => ?_)
          · have t_67 := (fa_eq _ _).mp c_67
            refine lv_aload_n hx hb dX9_answer_73 rfl (lv_at hl 0 rfl) ?_
            refine va_get (D := (dC, dI)) (ci := 9) (v := .ref a8) (C := RX9) (T := TX9) (N := 22) hx hb hts in_X9_answerE_X9 hown hK hP 0 rfl rfl 12 (by decide) (hts (.fieldLink RX9 39 "MeetingsAboveModel" "noted" "[I") (by decide +kernel)) (fun _ h9 => h9) rfl dX9_answer_74 ?_
            refine lv_bipush (v := 8) hx hb dX9_answer_77 (by decide) ?_
            refine lv_iload_n hx hb dX9_answer_79 rfl (lv_at hl 1 rfl) ?_
            refine lv_imul hx hb dX9_answer_80 ?_
            refine lv_topi (fun y_19 ey_19 => ?_)
            have ty_19 : y_19.toInt = 8 * p1.toInt := by rw [ey_19]; exact fm_lI kl_8 (by omega) (by omega)
            refine lv_iconst (v := 5) hx hb dX9_answer_81 (by decide) ?_
            refine lv_iadd hx hb dX9_answer_82 ?_
            refine lv_topi (fun y_20 ey_20 => ?_)
            have ty_20 : y_20.toInt = y_19.toInt + 5 := by rw [ey_20]; have := fb_addI (x := y_19) (y := 5) (by omega) (by omega); omega
            refine va_iald hx hb hK hP 1 0 rfl rfl (vp_in_iff.mpr ⟨by omega, by omega⟩) dX9_answer_83 ?_
            refine lv_topi (fun y_21 ey_21 => ?_)
            have ny_21 : (((y_20 : Int32).toNatClampNeg : Nat) : Int) = (y_20 : Int32).toInt := tc_I (by omega)
            have uy_21 : y_21.toInt = (No (8 * p1.toNatClampNeg + 5)).toInt := by rw [ey_21, show (y_20 : Int32).toNatClampNeg = 8 * p1.toNatClampNeg + 5 by omega]
            refine lv_if_ne (tgt := 99) hx hb dX9_answer_84 (by decide) (fun c_84 => ?_) (fun c_84 => ?_)
            · have t_84 := mt (fa_eq _ _).mpr c_84
              refine lv_aload_n hx hb dX9_answer_99 rfl (lv_at hl 0 rfl) ?_
              refine va_get (D := (dC, dI)) (ci := 9) (v := .ref a8) (C := RX9) (T := TX9) (N := 22) hx hb hts in_X9_answerE_X9 hown hK hP 0 rfl rfl 12 (by decide) (hts (.fieldLink RX9 39 "MeetingsAboveModel" "noted" "[I") (by decide +kernel)) (fun _ h9 => h9) rfl dX9_answer_100 ?_
              refine lv_bipush (v := 8) hx hb dX9_answer_103 (by decide) ?_
              refine lv_iload_n hx hb dX9_answer_105 rfl (lv_at hl 1 rfl) ?_
              refine lv_imul hx hb dX9_answer_106 ?_
              refine lv_topi (fun y_22 ey_22 => ?_)
              have ty_22 : y_22.toInt = 8 * p1.toInt := by rw [ey_22]; exact fm_lI kl_8 (by omega) (by omega)
              refine lv_aload_n hx hb dX9_answer_107 rfl (lv_at hl 0 rfl) ?_
              refine va_get (D := (dC, dI)) (ci := 9) (v := .ref a8) (C := RX9) (T := TX9) (N := 22) hx hb hts in_X9_answerE_X9 hown hK hP 0 rfl rfl 12 (by decide) (hts (.fieldLink RX9 39 "MeetingsAboveModel" "noted" "[I") (by decide +kernel)) (fun _ h9 => h9) rfl dX9_answer_108 ?_
              refine lv_bipush (v := 8) hx hb dX9_answer_111 (by decide) ?_
              refine lv_iload_n hx hb dX9_answer_113 rfl (lv_at hl 1 rfl) ?_
              refine lv_imul hx hb dX9_answer_114 ?_
              refine lv_topi (fun y_23 ey_23 => ?_)
              have ty_23 : y_23.toInt = 8 * p1.toInt := by rw [ey_23]; exact fm_lI kl_8 (by omega) (by omega)
              refine va_iald hx hb hK hP 1 0 rfl rfl (vp_in_iff.mpr ⟨by omega, by omega⟩) dX9_answer_115 ?_
              refine lv_topi (fun y_24 ey_24 => ?_)
              have ny_24 : (((y_23 : Int32).toNatClampNeg : Nat) : Int) = (y_23 : Int32).toInt := tc_I (by omega)
              have uy_24 : y_24.toInt = (No (8 * p1.toNatClampNeg)).toInt := by rw [ey_24, show (y_23 : Int32).toNatClampNeg = 8 * p1.toNatClampNeg by omega]
              refine lv_iload_n hx hb dX9_answer_116 rfl (lv_at hl 2 rfl) ?_
              refine lv_icmp_ne (tgt := 125) hx hb dX9_answer_117 (by decide) (fun c_117 => ?_) (fun c_117 => ?_)
              · have t_117 := mt (fa_eq _ _).mpr c_117
                refine lv_bipush (v := 7) hx hb dX9_answer_125 (by decide) ?_
                refine lv_iadd hx hb dX9_answer_127 ?_
                refine lv_topi (fun y_25 ey_25 => ?_)
                have ty_25 : y_25.toInt = y_22.toInt + 7 := by rw [ey_25]; have := fb_addI (x := y_22) (y := 7) (by omega) (by omega); omega
                refine lv_iload_n hx hb dX9_answer_128 rfl (lv_at hl 3 rfl) ?_
                refine va_iast hx hb hK hP hD hS 1 0 rfl rfl (vp_in_iff.mpr ⟨by omega, by omega⟩) dX9_answer_129 (fun H locs hP hD hS => ?_)
                have hP : va_P (dC, dI) vwCl [(h0, .inr (9, [.int th, .ref a1, .ref a2, .ref a3, .ref a4, .ref a5, .int ne, .int wi, .int dn, .ref a6, .ref a7, .int nn, .ref a8, .int la, .ref a9, .ref a10, .long up, .long lw, .int wh, .long pu, .long pw, .ref a11])), (a8, .inl (cI, 320, .inl (upd No (y_25 : Int32).toNatClampNeg p3)))] H := hP
                have hD : va_D A [(h0, .inr (9, [.int th, .ref a1, .ref a2, .ref a3, .ref a4, .ref a5, .int ne, .int wi, .int dn, .ref a6, .ref a7, .int nn, .ref a8, .int la, .ref a9, .ref a10, .long up, .long lw, .int wh, .long pu, .long pw, .ref a11])), (a8, .inl (cI, 320, .inl (upd No (y_25 : Int32).toNatClampNeg p3)))] := hD
                refine lv_iconst (v := 1) hx hb dX9_answer_130 (by decide) ?_
                have hP9 := hP.sub (ws' := [(h0, .inr (9, [.int th, .ref a1, .ref a2, .ref a3, .ref a4, .ref a5, .int ne, .int wi, .int dn, .ref a6, .ref a7, .int nn, .ref a8, .int la, .ref a9, .ref a10, .long up, .long lw, .int wh, .long pu, .long pw, .ref a11])), (a8, .inl (cI, 320, .inl (upd No (y_25 : Int32).toNatClampNeg p3)))]) [0, 1] rfl
                have hD9 := hD.sub (ws' := [(h0, .inr (9, [.int th, .ref a1, .ref a2, .ref a3, .ref a4, .ref a5, .int ne, .int wi, .int dn, .ref a6, .ref a7, .int nn, .ref a8, .int la, .ref a9, .ref a10, .long up, .long lw, .int wh, .long pu, .long pw, .ref a11])), (a8, .inl (cI, 320, .inl (upd No (y_25 : Int32).toNatClampNeg p3)))]) [0, 1] (by decide) rfl
                have hK9 := hK.sub (tys' := [(cI, .int)]) [0] rfl
                refine W.widen (k := 0) (n := 0) (by omega) (by omega) ?_
                exact W.iret (v := 1) hx hb hr (fun t ht hW => ⟨⟨_, (), rfl, (Or.inr (Or.inr (Or.inr (Or.inr ⟨⟨⟨⟨by omega, by omega⟩, ⟨by omega, by omega⟩⟩, by omega, (by omega : p2.toInt = (No (8 * p1.toNatClampNeg)).toInt ∨ p2.toInt = (No (8 * p1.toNatClampNeg + 1)).toInt)⟩, (by omega : (No (8 * p1.toNatClampNeg + 5)).toInt ≠ 0), by decide⟩)))), la, (upd No (y_25 : Int32).toNatClampNeg p3), by rw [ht]; exact hP9, va_K.moved hW.alike hK9, hD9, (Or.inl ⟨⟨⟨⟨by omega, by omega⟩, ⟨by omega, by omega⟩⟩, by omega, (by omega : p2.toInt = (No (8 * p1.toNatClampNeg)).toInt ∨ p2.toInt = (No (8 * p1.toNatClampNeg + 1)).toInt)⟩, (by omega : (No (8 * p1.toNatClampNeg + 5)).toInt ≠ 0), Or.inr ⟨by omega, up_eq (by have n9 : (((y_25).toNatClampNeg : Nat) : Int) = (y_25).toInt := tc_I (by omega); omega)⟩, rfl⟩)⟩, hS.F ht⟩) hS.2.2 dX9_answer_131
              · have t_117 := (fa_eq _ _).mp c_117
                refine lv_bipush (v := 6) hx hb dX9_answer_120 (by decide) ?_
                refine lv_goto (tgt := 127) hx hb dX9_answer_122 (by decide) ?_
                refine lv_iadd hx hb dX9_answer_127 ?_
                refine lv_topi (fun y_26 ey_26 => ?_)
                have ty_26 : y_26.toInt = y_22.toInt + 6 := by rw [ey_26]; have := fb_addI (x := y_22) (y := 6) (by omega) (by omega); omega
                refine lv_iload_n hx hb dX9_answer_128 rfl (lv_at hl 3 rfl) ?_
                refine va_iast hx hb hK hP hD hS 1 0 rfl rfl (vp_in_iff.mpr ⟨by omega, by omega⟩) dX9_answer_129 (fun H locs hP hD hS => ?_)
                have hP : va_P (dC, dI) vwCl [(h0, .inr (9, [.int th, .ref a1, .ref a2, .ref a3, .ref a4, .ref a5, .int ne, .int wi, .int dn, .ref a6, .ref a7, .int nn, .ref a8, .int la, .ref a9, .ref a10, .long up, .long lw, .int wh, .long pu, .long pw, .ref a11])), (a8, .inl (cI, 320, .inl (upd No (y_26 : Int32).toNatClampNeg p3)))] H := hP
                have hD : va_D A [(h0, .inr (9, [.int th, .ref a1, .ref a2, .ref a3, .ref a4, .ref a5, .int ne, .int wi, .int dn, .ref a6, .ref a7, .int nn, .ref a8, .int la, .ref a9, .ref a10, .long up, .long lw, .int wh, .long pu, .long pw, .ref a11])), (a8, .inl (cI, 320, .inl (upd No (y_26 : Int32).toNatClampNeg p3)))] := hD
                refine lv_iconst (v := 1) hx hb dX9_answer_130 (by decide) ?_
                have hP9 := hP.sub (ws' := [(h0, .inr (9, [.int th, .ref a1, .ref a2, .ref a3, .ref a4, .ref a5, .int ne, .int wi, .int dn, .ref a6, .ref a7, .int nn, .ref a8, .int la, .ref a9, .ref a10, .long up, .long lw, .int wh, .long pu, .long pw, .ref a11])), (a8, .inl (cI, 320, .inl (upd No (y_26 : Int32).toNatClampNeg p3)))]) [0, 1] rfl
                have hD9 := hD.sub (ws' := [(h0, .inr (9, [.int th, .ref a1, .ref a2, .ref a3, .ref a4, .ref a5, .int ne, .int wi, .int dn, .ref a6, .ref a7, .int nn, .ref a8, .int la, .ref a9, .ref a10, .long up, .long lw, .int wh, .long pu, .long pw, .ref a11])), (a8, .inl (cI, 320, .inl (upd No (y_26 : Int32).toNatClampNeg p3)))]) [0, 1] (by decide) rfl
                have hK9 := hK.sub (tys' := [(cI, .int)]) [0] rfl
                refine W.widen (k := 0) (n := 0) (by omega) (by omega) ?_
                exact W.iret (v := 1) hx hb hr (fun t ht hW => ⟨⟨_, (), rfl, (Or.inr (Or.inr (Or.inr (Or.inr ⟨⟨⟨⟨by omega, by omega⟩, ⟨by omega, by omega⟩⟩, by omega, (by omega : p2.toInt = (No (8 * p1.toNatClampNeg)).toInt ∨ p2.toInt = (No (8 * p1.toNatClampNeg + 1)).toInt)⟩, (by omega : (No (8 * p1.toNatClampNeg + 5)).toInt ≠ 0), by decide⟩)))), la, (upd No (y_26 : Int32).toNatClampNeg p3), by rw [ht]; exact hP9, va_K.moved hW.alike hK9, hD9, (Or.inl ⟨⟨⟨⟨by omega, by omega⟩, ⟨by omega, by omega⟩⟩, by omega, (by omega : p2.toInt = (No (8 * p1.toNatClampNeg)).toInt ∨ p2.toInt = (No (8 * p1.toNatClampNeg + 1)).toInt)⟩, (by omega : (No (8 * p1.toNatClampNeg + 5)).toInt ≠ 0), Or.inl ⟨by omega, up_eq (by have n9 : (((y_26).toNatClampNeg : Nat) : Int) = (y_26).toInt := tc_I (by omega); omega)⟩, rfl⟩)⟩, hS.F ht⟩) hS.2.2 dX9_answer_131
            · have t_84 := (fa_eq _ _).mp c_84
              refine lv_aload_n hx hb dX9_answer_87 rfl (lv_at hl 0 rfl) ?_
              refine lv_dup hx hb dX9_answer_88 rfl ?_
              refine va_get (D := (dC, dI)) (ci := 9) (v := .int la) (C := RX9) (T := TX9) (N := 22) hx hb hts in_X9_answerE_X9 hown hK hP 0 rfl rfl 13 (by decide) (hts (.fieldLink RX9 118 "MeetingsAboveModel" "late" "I") (by decide +kernel)) (fun _ h9 => h9) rfl dX9_answer_89 ?_
              refine lv_iconst (v := 1) hx hb dX9_answer_92 (by decide) ?_
              refine lv_iadd hx hb dX9_answer_93 ?_
              refine lv_topi (fun y_27 ey_27 => ?_)
              refine va_put (D := (dC, dI)) (ci := 9) (v := .int y_27) (ty := .int) (C := RX9) (T := TX9) (N := 22) hx hb hts in_X9_answerE_X9 tyX9 tyX9_ok nmX9 hown hK hP hD hS 0 rfl rfl 13 (by decide) (hts (.fieldLink RX9 118 "MeetingsAboveModel" "late" "I") (by decide +kernel)) (fun _ h9 => h9) rfl (by decide +kernel) rfl rfl (Nat.le_of_ble_eq_true rfl) dX9_answer_94 (fun H locs hP hD hS => ?_)
              have hP : va_P (dC, dI) vwCl [(h0, .inr (9, [.int th, .ref a1, .ref a2, .ref a3, .ref a4, .ref a5, .int ne, .int wi, .int dn, .ref a6, .ref a7, .int nn, .ref a8, .int y_27, .ref a9, .ref a10, .long up, .long lw, .int wh, .long pu, .long pw, .ref a11])), (a8, .inl (cI, 320, .inl No))] H := hP
              have hD : va_D A [(h0, .inr (9, [.int th, .ref a1, .ref a2, .ref a3, .ref a4, .ref a5, .int ne, .int wi, .int dn, .ref a6, .ref a7, .int nn, .ref a8, .int y_27, .ref a9, .ref a10, .long up, .long lw, .int wh, .long pu, .long pw, .ref a11])), (a8, .inl (cI, 320, .inl No))] := hD
              refine lv_iconst (v := 0) hx hb dX9_answer_97 (by decide) ?_
              have hP9 := hP.sub (ws' := [(h0, .inr (9, [.int th, .ref a1, .ref a2, .ref a3, .ref a4, .ref a5, .int ne, .int wi, .int dn, .ref a6, .ref a7, .int nn, .ref a8, .int y_27, .ref a9, .ref a10, .long up, .long lw, .int wh, .long pu, .long pw, .ref a11])), (a8, .inl (cI, 320, .inl No))]) [0, 1] rfl
              have hD9 := hD.sub (ws' := [(h0, .inr (9, [.int th, .ref a1, .ref a2, .ref a3, .ref a4, .ref a5, .int ne, .int wi, .int dn, .ref a6, .ref a7, .int nn, .ref a8, .int y_27, .ref a9, .ref a10, .long up, .long lw, .int wh, .long pu, .long pw, .ref a11])), (a8, .inl (cI, 320, .inl No))]) [0, 1] (by decide) rfl
              have hK9 := hK.sub (tys' := [(cI, .int)]) [0] rfl
              refine W.widen (k := 0) (n := 0) (by omega) (by omega) ?_
              exact W.iret (v := 0) hx hb hr (fun t ht hW => ⟨⟨_, (), rfl, (Or.inr (Or.inr (Or.inr (Or.inl ⟨⟨⟨⟨by omega, by omega⟩, ⟨by omega, by omega⟩⟩, by omega, (by omega : p2.toInt = (No (8 * p1.toNatClampNeg)).toInt ∨ p2.toInt = (No (8 * p1.toNatClampNeg + 1)).toInt)⟩, (by omega : (No (8 * p1.toNatClampNeg + 5)).toInt = 0), by decide⟩)))), y_27, No, by rw [ht]; exact hP9, va_K.moved hW.alike hK9, hD9, (Or.inr (Or.inl ⟨⟨⟨⟨by omega, by omega⟩, ⟨by omega, by omega⟩⟩, by omega, (by omega : p2.toInt = (No (8 * p1.toNatClampNeg)).toInt ∨ p2.toInt = (No (8 * p1.toNatClampNeg + 1)).toInt)⟩, (by omega : (No (8 * p1.toNatClampNeg + 5)).toInt = 0), rfl, ey_27⟩))⟩, hS.F ht⟩) hS.2.2 dX9_answer_98
          · have t_67 := mt (fa_eq _ _).mpr c_67
            refine lv_ldc hx hb hown (hts (.constant RX9 85 (-100003)) (by decide +kernel)) dX9_answer_70 ?_
            have hP9 := hP.sub (ws' := [(h0, .inr (9, [.int th, .ref a1, .ref a2, .ref a3, .ref a4, .ref a5, .int ne, .int wi, .int dn, .ref a6, .ref a7, .int nn, .ref a8, .int la, .ref a9, .ref a10, .long up, .long lw, .int wh, .long pu, .long pw, .ref a11])), (a8, .inl (cI, 320, .inl No))]) [0, 1] rfl
            have hD9 := hD.sub (ws' := [(h0, .inr (9, [.int th, .ref a1, .ref a2, .ref a3, .ref a4, .ref a5, .int ne, .int wi, .int dn, .ref a6, .ref a7, .int nn, .ref a8, .int la, .ref a9, .ref a10, .long up, .long lw, .int wh, .long pu, .long pw, .ref a11])), (a8, .inl (cI, 320, .inl No))]) [0, 1] (by decide) rfl
            have hK9 := hK.sub (tys' := [(cI, .int)]) [0] rfl
            refine W.widen (k := 0) (n := 0) (by omega) (by omega) ?_
            exact W.iret (v := (-100003)) hx hb hr (fun t ht hW => ⟨⟨_, (), rfl, (Or.inr (Or.inr (Or.inl ⟨⟨⟨by omega, by omega⟩, ⟨by omega, by omega⟩⟩, by omega, (by omega : ¬ (p2.toInt = (No (8 * p1.toNatClampNeg)).toInt ∨ p2.toInt = (No (8 * p1.toNatClampNeg + 1)).toInt)), by decide⟩))), la, No, by rw [ht]; exact hP9, va_K.moved hW.alike hK9, hD9, (Or.inr (Or.inr ⟨fun z9 => by have z1 := z9.1; have z2 := z9.2.1; first | omega | (have z3 : p2.toInt = (No (8 * p1.toNatClampNeg)).toInt ∨ p2.toInt = (No (8 * p1.toNatClampNeg + 1)).toInt := z9.2.2; omega), rfl, rfl⟩))⟩, hS.F ht⟩) hS.2.2 dX9_answer_72
      · simp only [Int32.toInt_toInt64, klL_1, klL_2] at q_33
        refine lv_if_ne (tgt := 42) hx hb dX9_answer_36 (by decide) (fun h9 => absurd h9 (by decide)) (fun _ => ?_)
        refine lv_ldc hx hb hown (hts (.constant RX9 70 (-100002)) (by decide +kernel)) dX9_answer_39 ?_
        have hP9 := hP.sub (ws' := [(h0, .inr (9, [.int th, .ref a1, .ref a2, .ref a3, .ref a4, .ref a5, .int ne, .int wi, .int dn, .ref a6, .ref a7, .int nn, .ref a8, .int la, .ref a9, .ref a10, .long up, .long lw, .int wh, .long pu, .long pw, .ref a11])), (a8, .inl (cI, 320, .inl No))]) [0, 1] rfl
        have hD9 := hD.sub (ws' := [(h0, .inr (9, [.int th, .ref a1, .ref a2, .ref a3, .ref a4, .ref a5, .int ne, .int wi, .int dn, .ref a6, .ref a7, .int nn, .ref a8, .int la, .ref a9, .ref a10, .long up, .long lw, .int wh, .long pu, .long pw, .ref a11])), (a8, .inl (cI, 320, .inl No))]) [0, 1] (by decide) rfl
        have hK9 := hK.sub (tys' := [(cI, .int)]) [0] rfl
        refine W.widen (k := 0) (n := 0) (by omega) (by omega) ?_
        exact W.iret (v := (-100002)) hx hb hr (fun t ht hW => ⟨⟨_, (), rfl, (Or.inr (Or.inl ⟨⟨⟨by omega, by omega⟩, ⟨by omega, by omega⟩⟩, by omega, by decide⟩)), la, No, by rw [ht]; exact hP9, va_K.moved hW.alike hK9, hD9, (Or.inr (Or.inr ⟨fun z9 => by have z1 := z9.1; have z2 := z9.2.1; first | omega | (have z3 : p2.toInt = (No (8 * p1.toNatClampNeg)).toInt ∨ p2.toInt = (No (8 * p1.toNatClampNeg + 1)).toInt := z9.2.2; omega), rfl, rfl⟩))⟩, hS.F ht⟩) hS.2.2 dX9_answer_41
    · refine lv_if_ne (tgt := 27) hx hb dX9_answer_21 (by decide) (fun h9 => absurd h9 (by decide)) (fun _ => ?_)
      refine lv_ldc hx hb hown (hts (.constant RX9 84 (-100001)) (by decide +kernel)) dX9_answer_24 ?_
      have hP9 := hP.sub (ws' := [(h0, .inr (9, [.int th, .ref a1, .ref a2, .ref a3, .ref a4, .ref a5, .int ne, .int wi, .int dn, .ref a6, .ref a7, .int nn, .ref a8, .int la, .ref a9, .ref a10, .long up, .long lw, .int wh, .long pu, .long pw, .ref a11])), (a8, .inl (cI, 320, .inl No))]) [0, 1] rfl
      have hD9 := hD.sub (ws' := [(h0, .inr (9, [.int th, .ref a1, .ref a2, .ref a3, .ref a4, .ref a5, .int ne, .int wi, .int dn, .ref a6, .ref a7, .int nn, .ref a8, .int la, .ref a9, .ref a10, .long up, .long lw, .int wh, .long pu, .long pw, .ref a11])), (a8, .inl (cI, 320, .inl No))]) [0, 1] (by decide) rfl
      have hK9 := hK.sub (tys' := [(cI, .int)]) [0] rfl
      refine W.widen (k := 0) (n := 0) (by omega) (by omega) ?_
      exact W.iret (v := (-100001)) hx hb hr (fun t ht hW => ⟨⟨_, (), rfl, (Or.inl ⟨by omega, by decide⟩), la, No, by rw [ht]; exact hP9, va_K.moved hW.alike hK9, hD9, (Or.inr (Or.inr ⟨fun z9 => by have z1 := z9.1; have z2 := z9.2.1; first | omega | (have z3 : p2.toInt = (No (8 * p1.toNatClampNeg)).toInt ∨ p2.toInt = (No (8 * p1.toNatClampNeg + 1)).toInt := z9.2.2; omega), rfl, rfl⟩))⟩, hS.F ht⟩) hS.2.2 dX9_answer_26
  · simp only [Int32.toInt_toInt64, klL_0] at q_10
    refine lv_if_eq (tgt := 24) hx hb dX9_answer_13 (by decide) (fun _ => ?_) (fun h9 => absurd h9 (by decide))
    refine lv_ldc hx hb hown (hts (.constant RX9 84 (-100001)) (by decide +kernel)) dX9_answer_24 ?_
    have hP9 := hP.sub (ws' := [(h0, .inr (9, [.int th, .ref a1, .ref a2, .ref a3, .ref a4, .ref a5, .int ne, .int wi, .int dn, .ref a6, .ref a7, .int nn, .ref a8, .int la, .ref a9, .ref a10, .long up, .long lw, .int wh, .long pu, .long pw, .ref a11])), (a8, .inl (cI, 320, .inl No))]) [0, 1] rfl
    have hD9 := hD.sub (ws' := [(h0, .inr (9, [.int th, .ref a1, .ref a2, .ref a3, .ref a4, .ref a5, .int ne, .int wi, .int dn, .ref a6, .ref a7, .int nn, .ref a8, .int la, .ref a9, .ref a10, .long up, .long lw, .int wh, .long pu, .long pw, .ref a11])), (a8, .inl (cI, 320, .inl No))]) [0, 1] (by decide) rfl
    have hK9 := hK.sub (tys' := [(cI, .int)]) [0] rfl
    refine W.widen (k := 0) (n := 0) (by omega) (by omega) ?_
    exact W.iret (v := (-100001)) hx hb hr (fun t ht hW => ⟨⟨_, (), rfl, (Or.inl ⟨by omega, by decide⟩), la, No, by rw [ht]; exact hP9, va_K.moved hW.alike hK9, hD9, (Or.inr (Or.inr ⟨fun z9 => by have z1 := z9.1; have z2 := z9.2.1; first | omega | (have z3 : p2.toInt = (No (8 * p1.toNatClampNeg)).toInt ∨ p2.toInt = (No (8 * p1.toNatClampNeg + 1)).toInt := z9.2.2; omega), rfl, rfl⟩))⟩, hS.F ht⟩) hS.2.2 dX9_answer_26
