def wk_X9_answer : List Cond := .code yX9_answer cX9_answer 4 (some .int) :: (([.fieldLink RX9 115 "MeetingsAboveModel" "notices" "I", .constantLong RX9 86 2, .fieldLink RX9 39 "MeetingsAboveModel" "noted" "[I", .fieldLink RX9 118 "MeetingsAboveModel" "late" "I", .constant RX9 85 (-100003), .constant RX9 70 (-100002), .constant RX9 84 (-100001)] : List Cond) ++ (wsX90 ++ ((va_wsS RX9 55 yX9_in wk_X9_in) ++ ((wsV RX9 80 RX9 yX9_isThing wk_X9_isThing) ++ ([])))))
theorem in_X9_answer_X9 : ∀ w ∈ wsX90, w ∈ wk_X9_answer := fun _ h => List.mem_cons_of_mem _ (List.mem_append_right _ (List.mem_append_left _ h))
theorem gw_X9_answer : AG wk_X9_answer := AG_ca (AG_l (by decide +kernel)) (AG_app ag_X9 (AG_app (AG_S gw_X9_in) (AG_app (AG_V gw_X9_isThing) (AG_nil))))
theorem g_X9_answer__X9_in_55 : GoodIn wk_X9_answer (va_wsS RX9 55 yX9_in wk_X9_in) := goodIn_m (fun _ h => List.mem_cons_of_mem _ (List.mem_append_right _ (List.mem_append_right _ (List.mem_append_left _ h)))) (AG_S gw_X9_in)
theorem g_X9_answer__X9_isThing_80 : GoodIn wk_X9_answer (wsV RX9 80 RX9 yX9_isThing wk_X9_isThing) := goodIn_m (fun _ h => List.mem_cons_of_mem _ (List.mem_append_right _ (List.mem_append_right _ (List.mem_append_right _ (List.mem_append_left _ h))))) (AG_V gw_X9_isThing)
set_option maxHeartbeats 4000000 in
set_option maxRecDepth 100000 in
theorem c_X9_answer (l : Launch) (dC : Nat → ClassId) (dI : Nat → Nat → Nat) (h0 : Nat) (a1 : Nat) (a2 : Nat) (a3 : Nat) (a4 : Nat) (a5 : Nat) (a6 : Nat) (a7 : Nat) (a8 : Nat) (a9 : Nat) (a10 : Nat) (a11 : Nat) (th : Int32) (ne : Int32) (wi : Int32) (dn : Int32) (nn : Int32) (la : Int32) (wh : Int32) (up : Int64) (lw : Int64) (pu : Int64) (pw : Int64) (cI : ClassId) (No : Nat → Int32) (p1 : Int32) (p2 : Int32) (p3 : Int32) (sz : Nat) (hT0 : 0 ≤ th.toInt) (hT1 : th.toInt ≤ 16) (hn0 : 0 ≤ nn.toInt) (hn1 : nn.toInt ≤ 40) : Met l yX9_answer wk_X9_answer ({ frames := 2, cells := 0, slots := 0, locals := 46 }) (va_Pc [.ref h0, .int p1, .int p2, .int p3] (fun U => U.heap.size = sz ∧ va_P (dC, dI) vwCl [(h0, .inr (9, [.int th, .ref a1, .ref a2, .ref a3, .ref a4, .ref a5, .int ne, .int wi, .int dn, .ref a6, .ref a7, .int nn, .ref a8, .int la, .ref a9, .ref a10, .long up, .long lw, .int wh, .long pu, .long pw, .ref a11])), (a8, .inl (cI, 320, .inl No))] U.heap ∧ va_K (dC, dI) vwCl [(cI, .int)] U ∧ va_D (fun _ => True) [(h0, .inr (9, [.int th, .ref a1, .ref a2, .ref a3, .ref a4, .ref a5, .int ne, .int wi, .int dn, .ref a6, .ref a7, .int nn, .ref a8, .int la, .ref a9, .ref a10, .long up, .long lw, .int wh, .long pu, .long pw, .ref a11])), (a8, .inl (cI, 320, .inl No))])) (va_Qi (fun (r : Int32) (_ : Unit) => True) (fun (_ : Unit) (t : State) => ∃ (la9 : Int32) (No9 : Nat → Int32), va_P (dC, dI) vwCl [(h0, .inr (9, [.int th, .ref a1, .ref a2, .ref a3, .ref a4, .ref a5, .int ne, .int wi, .int dn, .ref a6, .ref a7, .int nn, .ref a8, .int la9, .ref a9, .ref a10, .long up, .long lw, .int wh, .long pu, .long pw, .ref a11])), (a8, .inl (cI, 320, .inl No9))] t.heap ∧ va_K (dC, dI) vwCl [(cI, .int)] t ∧ va_D (va_A [(h0, .inr (9, [.int th, .ref a1, .ref a2, .ref a3, .ref a4, .ref a5, .int ne, .int wi, .int dn, .ref a6, .ref a7, .int nn, .ref a8, .int la, .ref a9, .ref a10, .long up, .long lw, .int wh, .long pu, .long pw, .ref a11])), (a8, .inl (cI, 320, .inl No))] sz) [(h0, .inr (9, [.int th, .ref a1, .ref a2, .ref a3, .ref a4, .ref a5, .int ne, .int wi, .int dn, .ref a6, .ref a7, .int nn, .ref a8, .int la9, .ref a9, .ref a10, .long up, .long lw, .int wh, .long pu, .long pw, .ref a11])), (a8, .inl (cI, 320, .inl No9))]) (va_A [(h0, .inr (9, [.int th, .ref a1, .ref a2, .ref a3, .ref a4, .ref a5, .int ne, .int wi, .int dn, .ref a6, .ref a7, .int nn, .ref a8, .int la, .ref a9, .ref a10, .long up, .long lw, .int wh, .long pu, .long pw, .ref a11])), (a8, .inl (cI, 320, .inl No))] sz)) 0 0 (va_A [(h0, .inr (9, [.int th, .ref a1, .ref a2, .ref a3, .ref a4, .ref a5, .int ne, .int wi, .int dn, .ref a6, .ref a7, .int nn, .ref a8, .int la, .ref a9, .ref a10, .long up, .long lw, .int wh, .long pu, .long pw, .ref a11])), (a8, .inl (cI, 320, .inl No))] sz) := by
  refine Met.ofW (cc := cX9_answer) (maxL := 4) (ret := (some .int)) (by decide) rfl ?_
  intro p e s m args below meth c s₁ B hml hv
  obtain ⟨rfl, hsz, hP, hK, hD0⟩ := hv
  have hx := B.exec
  have hb := B.bytes
  have hr := B.returns
  have hts := atoms_spec (ws := wk_X9_answer) B.pre
  have hown : s.vm.findClass RX9 = some m.cls := findClass_of_methodNamed B.named
  have hlocks := B.notSynchronized
  subst hsz
  have hD := hD0.self (sz := s.heap.size)
  generalize hAe : va_A [(h0, .inr (9, [.int th, .ref a1, .ref a2, .ref a3, .ref a4, .ref a5, .int ne, .int wi, .int dn, .ref a6, .ref a7, .int nn, .ref a8, .int la, .ref a9, .ref a10, .long up, .long lw, .int wh, .long pu, .long pw, .ref a11])), (a8, .inl (cI, 320, .inl No))] s.heap.size = A at hD ⊢
  have hA : ∀ q : Nat, s.heap.size ≤ q → A q := fun q h => by rw [← hAe]; exact Or.inr h
  have hS : va_S A s.heap s.heap [] := va_S.rf
  have hP : va_P (dC, dI) vwCl [(h0, .inr (9, [.int th, .ref a1, .ref a2, .ref a3, .ref a4, .ref a5, .int ne, .int wi, .int dn, .ref a6, .ref a7, .int nn, .ref a8, .int la, .ref a9, .ref a10, .long up, .long lw, .int wh, .long pu, .long pw, .ref a11])), (a8, .inl (cI, 320, .inl No))] s.heap := hP
  have hl := lv_entry ([.ref h0, .int p1, .int p2, .int p3]) (n := 4) (Nat.le_of_ble_eq_true rfl)
  rw [lg_entry_eq]
  generalize (lg_sl ([.ref h0, .int p1, .int p2, .int p3]) ++ List.replicate (4 - (lg_sl ([.ref h0, .int p1, .int p2, .int p3])).length) Slot.unset).toArray = ls at hl ⊢
  have hl : lv_has ls 4 [(0, .ref h0), (1, .int p1), (2, .int p2), (3, .int p3)] := hl
  have kl_m100003 : (-100003 : Int32).toInt = -100003 := by decide
  have kl_m100002 : (-100002 : Int32).toInt = -100002 := by decide
  have kl_m100001 : (-100001 : Int32).toInt = -100001 := by decide
  have kl_0 : (0 : Int32).toInt = 0 := by decide
  have kl_1 : (1 : Int32).toInt = 1 := by decide
  have kl_2 : (2 : Int32).toInt = 2 := by decide
  have kl_5 : (5 : Int32).toInt = 5 := by decide
  have kl_6 : (6 : Int32).toInt = 6 := by decide
  have kl_7 : (7 : Int32).toInt = 7 := by decide
  have kl_8 : (8 : Int32).toInt = 8 := by decide
  have klL_0 : (0 : Int64).toInt = 0 := by decide
  have klL_1 : (1 : Int64).toInt = 1 := by decide
  have klL_2 : (2 : Int64).toInt = 2 := by decide
  refine lv_iload_n hx hb dX9_answer_0 rfl (lv_at hl 1 rfl) ?_
  refine lv_i2l hx hb dX9_answer_1 rfl ?_
  refine lv_lconst (v := 0) hx hb dX9_answer_2 (by decide) ?_
  refine lv_aload_n hx hb dX9_answer_3 rfl (lv_at hl 0 rfl) ?_
  refine va_get (D := (dC, dI)) (ci := 9) (v := .int nn) (C := RX9) (T := TX9) (N := 22) hx hb hts in_X9_answer_X9 hown hK hP 0 rfl rfl 11 (by decide) (hts (.fieldLink RX9 115 "MeetingsAboveModel" "notices" "I") (by decide +kernel)) (fun _ h9 => h9) rfl dX9_answer_4 ?_
  refine lv_iconst (v := 1) hx hb dX9_answer_7 (by decide) ?_
  refine lv_isub hx hb dX9_answer_8 ?_
  refine lv_topi (fun y_1 ey_1 => ?_)
  have ty_1 : y_1.toInt = nn.toInt - 1 := by rw [ey_1]; have := fb_subI (x := nn) (y := 1) (by omega) (by omega); omega
  refine lv_i2l hx hb dX9_answer_9 rfl ?_
  refine vp_callSi (W.runS (As := [.long p1.toInt64, .long 0, .long y_1.toInt64]) (rest := []) ⟨hx, hb, hml, hown, hts⟩ (c_X9_in l dC dI p1.toInt64 0 y_1.toInt64) (va_cwS 3 hts g_X9_answer__X9_in_55 rfl rfl rfl (by decide +kernel) ⟨Nat.le_of_ble_eq_true rfl, Nat.le_of_ble_eq_true rfl⟩) ⟨fun a U g mk q => by obtain ⟨q0, q1⟩ := q; exact ⟨q0, q1⟩, fun U hU hW => ⟨rfl, trivial⟩⟩ rfl rfl hl.1 rfl (lv_room (Nat.le_of_ble_eq_true rfl)) dX9_answer_10 ⟨Nat.le_of_ble_eq_true rfl, Nat.le_of_ble_eq_true rfl⟩) (fun r_2 hr_2 => ?_)
  try dsimp only at hr_2
  rcases bo_split hr_2 with ⟨rfl, q_10⟩ | ⟨rfl, q_10⟩
  · simp only [Int32.toInt_toInt64, klL_0] at q_10
    refine lv_if_eq (tgt := 24) hx hb dX9_answer_13 (by decide) (fun h9 => absurd h9 (by decide)) (fun _ => ?_)
    refine lv_aload_n hx hb dX9_answer_16 rfl (lv_at hl 0 rfl) ?_
    refine lv_iload_n hx hb dX9_answer_17 rfl (lv_at hl 2 rfl) ?_
    have hPc := hP.sub (ws' := [(h0, .inr (9, [.int th, .ref a1, .ref a2, .ref a3, .ref a4, .ref a5, .int ne, .int wi, .int dn, .ref a6, .ref a7, .int nn, .ref a8, .int la, .ref a9, .ref a10, .long up, .long lw, .int wh, .long pu, .long pw, .ref a11]))]) [0] rfl
    have hKc := hK.sub (tys' := []) [] rfl
    refine vp_callSi (W.runV (As := [.int p2]) (rest := []) ⟨hx, hb, hml, hown, hts⟩ (c_X9_isThing l dC dI h0 a1 a2 a3 a4 a5 a6 a7 a8 a9 a10 a11 th ne wi dn nn la wh up lw pu pw p2 (by first | omega | assumption) (by first | omega | assumption)) (cwV 1 hts g_X9_answer__X9_isThing_80 rfl rfl rfl (by decide +kernel) ⟨Nat.le_of_ble_eq_true rfl, Nat.le_of_ble_eq_true rfl⟩) ⟨fun a U g mk q => by obtain ⟨q0, qP, qK⟩ := q; exact ⟨q0, qP, va_K.moved (u := U) (U := U.calling g mk a) (Vm.Alike.refl U.vm) qK⟩, va_recv hKc hPc (ci := 9) (q0 := 0) rfl rfl, fun U hU hW => ⟨rfl, by rw [hU]; exact hPc, va_K.moved hW.alike hKc⟩⟩ rfl rfl hl.1 rfl (lv_room (Nat.le_of_ble_eq_true rfl)) dX9_answer_18 ⟨Nat.le_of_ble_eq_true rfl, Nat.le_of_ble_eq_true rfl⟩) (fun r_3 hr_3 => ?_)
    try dsimp only at hr_3
    rcases bo_split hr_3 with ⟨rfl, q_18⟩ | ⟨rfl, q_18⟩
    · refine lv_if_ne (tgt := 27) hx hb dX9_answer_21 (by decide) (fun _ => ?_) (fun h9 => absurd h9 (by decide))
      refine lv_iload_n hx hb dX9_answer_27 rfl (lv_at hl 3 rfl) ?_
      refine lv_i2l hx hb dX9_answer_28 rfl ?_
      refine lv_lconst (v := 1) hx hb dX9_answer_29 (by decide) ?_
      refine lv_ldc2 hx hb hown (hts (.constantLong RX9 86 2) (by decide +kernel)) dX9_answer_30 ?_
      refine vp_callSi (W.runS (As := [.long p3.toInt64, .long 1, .long 2]) (rest := []) ⟨hx, hb, hml, hown, hts⟩ (c_X9_in l dC dI p3.toInt64 1 2) (va_cwS 3 hts g_X9_answer__X9_in_55 rfl rfl rfl (by decide +kernel) ⟨Nat.le_of_ble_eq_true rfl, Nat.le_of_ble_eq_true rfl⟩) ⟨fun a U g mk q => by obtain ⟨q0, q1⟩ := q; exact ⟨q0, q1⟩, fun U hU hW => ⟨rfl, trivial⟩⟩ rfl rfl hl.1 rfl (lv_room (Nat.le_of_ble_eq_true rfl)) dX9_answer_33 ⟨Nat.le_of_ble_eq_true rfl, Nat.le_of_ble_eq_true rfl⟩) (fun r_4 hr_4 => ?_)
      try dsimp only at hr_4
      rcases bo_split hr_4 with ⟨rfl, q_33⟩ | ⟨rfl, q_33⟩
      · simp only [Int32.toInt_toInt64, klL_1, klL_2] at q_33
        refine lv_if_ne (tgt := 42) hx hb dX9_answer_36 (by decide) (fun _ => ?_) (fun h9 => absurd h9 (by decide))
        refine lv_aload_n hx hb dX9_answer_42 rfl (lv_at hl 0 rfl) ?_
        refine va_get (D := (dC, dI)) (ci := 9) (v := .ref a8) (C := RX9) (T := TX9) (N := 22) hx hb hts in_X9_answer_X9 hown hK hP 0 rfl rfl 12 (by decide) (hts (.fieldLink RX9 39 "MeetingsAboveModel" "noted" "[I") (by decide +kernel)) (fun _ h9 => h9) rfl dX9_answer_43 ?_
        refine lv_bipush (v := 8) hx hb dX9_answer_46 (by decide) ?_
        refine lv_iload_n hx hb dX9_answer_48 rfl (lv_at hl 1 rfl) ?_
        refine lv_imul hx hb dX9_answer_49 ?_
        refine lv_topi (fun y_5 ey_5 => ?_)
        have ty_5 : y_5.toInt = 8 * p1.toInt := by rw [ey_5]; exact fm_lI kl_8 (by omega) (by omega)
        refine va_iald hx hb hK hP 1 0 rfl rfl (vp_in_iff.mpr ⟨by omega, by omega⟩) dX9_answer_50 ?_
        refine lv_topi (fun y_6 ey_6 => ?_)
        refine lv_iload_n hx hb dX9_answer_51 rfl (lv_at hl 2 rfl) ?_
        refine lv_icmp_eq (tgt := 73) hx hb dX9_answer_52 (by decide) (fun c_52 => ?_) (fun c_52 => ?_)
        · have t_52 := (fa_eq _ _).mp c_52
          refine lv_aload_n hx hb dX9_answer_73 rfl (lv_at hl 0 rfl) ?_
          refine va_get (D := (dC, dI)) (ci := 9) (v := .ref a8) (C := RX9) (T := TX9) (N := 22) hx hb hts in_X9_answer_X9 hown hK hP 0 rfl rfl 12 (by decide) (hts (.fieldLink RX9 39 "MeetingsAboveModel" "noted" "[I") (by decide +kernel)) (fun _ h9 => h9) rfl dX9_answer_74 ?_
          refine lv_bipush (v := 8) hx hb dX9_answer_77 (by decide) ?_
          refine lv_iload_n hx hb dX9_answer_79 rfl (lv_at hl 1 rfl) ?_
          refine lv_imul hx hb dX9_answer_80 ?_
          refine lv_topi (fun y_7 ey_7 => ?_)
          have ty_7 : y_7.toInt = 8 * p1.toInt := by rw [ey_7]; exact fm_lI kl_8 (by omega) (by omega)
          refine lv_iconst (v := 5) hx hb dX9_answer_81 (by decide) ?_
          refine lv_iadd hx hb dX9_answer_82 ?_
          refine lv_topi (fun y_8 ey_8 => ?_)
          have ty_8 : y_8.toInt = y_7.toInt + 5 := by rw [ey_8]; have := fb_addI (x := y_7) (y := 5) (by omega) (by omega); omega
          refine va_iald hx hb hK hP 1 0 rfl rfl (vp_in_iff.mpr ⟨by omega, by omega⟩) dX9_answer_83 ?_
          refine lv_topi (fun y_9 ey_9 => ?_)
          refine lv_if_ne (tgt := 99) hx hb dX9_answer_84 (by decide) (fun c_84 => ?_) (fun c_84 => ?_)
          · have t_84 := mt (fa_eq _ _).mpr c_84
            refine lv_aload_n hx hb dX9_answer_99 rfl (lv_at hl 0 rfl) ?_
            refine va_get (D := (dC, dI)) (ci := 9) (v := .ref a8) (C := RX9) (T := TX9) (N := 22) hx hb hts in_X9_answer_X9 hown hK hP 0 rfl rfl 12 (by decide) (hts (.fieldLink RX9 39 "MeetingsAboveModel" "noted" "[I") (by decide +kernel)) (fun _ h9 => h9) rfl dX9_answer_100 ?_
            refine lv_bipush (v := 8) hx hb dX9_answer_103 (by decide) ?_
            refine lv_iload_n hx hb dX9_answer_105 rfl (lv_at hl 1 rfl) ?_
            refine lv_imul hx hb dX9_answer_106 ?_
            refine lv_topi (fun y_10 ey_10 => ?_)
            have ty_10 : y_10.toInt = 8 * p1.toInt := by rw [ey_10]; exact fm_lI kl_8 (by omega) (by omega)
            refine lv_aload_n hx hb dX9_answer_107 rfl (lv_at hl 0 rfl) ?_
            refine va_get (D := (dC, dI)) (ci := 9) (v := .ref a8) (C := RX9) (T := TX9) (N := 22) hx hb hts in_X9_answer_X9 hown hK hP 0 rfl rfl 12 (by decide) (hts (.fieldLink RX9 39 "MeetingsAboveModel" "noted" "[I") (by decide +kernel)) (fun _ h9 => h9) rfl dX9_answer_108 ?_
            refine lv_bipush (v := 8) hx hb dX9_answer_111 (by decide) ?_
            refine lv_iload_n hx hb dX9_answer_113 rfl (lv_at hl 1 rfl) ?_
            refine lv_imul hx hb dX9_answer_114 ?_
            refine lv_topi (fun y_11 ey_11 => ?_)
            have ty_11 : y_11.toInt = 8 * p1.toInt := by rw [ey_11]; exact fm_lI kl_8 (by omega) (by omega)
            refine va_iald hx hb hK hP 1 0 rfl rfl (vp_in_iff.mpr ⟨by omega, by omega⟩) dX9_answer_115 ?_
            refine lv_topi (fun y_12 ey_12 => ?_)
            refine lv_iload_n hx hb dX9_answer_116 rfl (lv_at hl 2 rfl) ?_
            refine lv_icmp_ne (tgt := 125) hx hb dX9_answer_117 (by decide) (fun c_117 => ?_) (fun c_117 => ?_)
            · have t_117 := mt (fa_eq _ _).mpr c_117
              refine lv_bipush (v := 7) hx hb dX9_answer_125 (by decide) ?_
              refine lv_iadd hx hb dX9_answer_127 ?_
              refine lv_topi (fun y_13 ey_13 => ?_)
              have ty_13 : y_13.toInt = y_10.toInt + 7 := by rw [ey_13]; have := fb_addI (x := y_10) (y := 7) (by omega) (by omega); omega
              refine lv_iload_n hx hb dX9_answer_128 rfl (lv_at hl 3 rfl) ?_
              refine va_iast hx hb hK hP hD hS 1 0 rfl rfl (vp_in_iff.mpr ⟨by omega, by omega⟩) dX9_answer_129 (fun H locs hP hD hS => ?_)
              have hP : va_P (dC, dI) vwCl [(h0, .inr (9, [.int th, .ref a1, .ref a2, .ref a3, .ref a4, .ref a5, .int ne, .int wi, .int dn, .ref a6, .ref a7, .int nn, .ref a8, .int la, .ref a9, .ref a10, .long up, .long lw, .int wh, .long pu, .long pw, .ref a11])), (a8, .inl (cI, 320, .inl (upd No (y_13 : Int32).toNatClampNeg p3)))] H := hP
              have hD : va_D A [(h0, .inr (9, [.int th, .ref a1, .ref a2, .ref a3, .ref a4, .ref a5, .int ne, .int wi, .int dn, .ref a6, .ref a7, .int nn, .ref a8, .int la, .ref a9, .ref a10, .long up, .long lw, .int wh, .long pu, .long pw, .ref a11])), (a8, .inl (cI, 320, .inl (upd No (y_13 : Int32).toNatClampNeg p3)))] := hD
              refine lv_iconst (v := 1) hx hb dX9_answer_130 (by decide) ?_
              have hP9 := hP.sub (ws' := [(h0, .inr (9, [.int th, .ref a1, .ref a2, .ref a3, .ref a4, .ref a5, .int ne, .int wi, .int dn, .ref a6, .ref a7, .int nn, .ref a8, .int la, .ref a9, .ref a10, .long up, .long lw, .int wh, .long pu, .long pw, .ref a11])), (a8, .inl (cI, 320, .inl (upd No (y_13 : Int32).toNatClampNeg p3)))]) [0, 1] rfl
              have hD9 := hD.sub (ws' := [(h0, .inr (9, [.int th, .ref a1, .ref a2, .ref a3, .ref a4, .ref a5, .int ne, .int wi, .int dn, .ref a6, .ref a7, .int nn, .ref a8, .int la, .ref a9, .ref a10, .long up, .long lw, .int wh, .long pu, .long pw, .ref a11])), (a8, .inl (cI, 320, .inl (upd No (y_13 : Int32).toNatClampNeg p3)))]) [0, 1] (by decide) rfl
              have hK9 := hK.sub (tys' := [(cI, .int)]) [0] rfl
              refine W.widen (k := 0) (n := 0) (by omega) (by omega) ?_
              exact W.iret (v := 1) hx hb hr (fun t ht hW => ⟨⟨_, (), rfl, trivial, la, (upd No (y_13 : Int32).toNatClampNeg p3), by rw [ht]; exact hP9, va_K.moved hW.alike hK9, hD9⟩, hS.F ht⟩) hS.2.2 dX9_answer_131
            · have t_117 := (fa_eq _ _).mp c_117
              refine lv_bipush (v := 6) hx hb dX9_answer_120 (by decide) ?_
              refine lv_goto (tgt := 127) hx hb dX9_answer_122 (by decide) ?_
              refine lv_iadd hx hb dX9_answer_127 ?_
              refine lv_topi (fun y_14 ey_14 => ?_)
              have ty_14 : y_14.toInt = y_10.toInt + 6 := by rw [ey_14]; have := fb_addI (x := y_10) (y := 6) (by omega) (by omega); omega
              refine lv_iload_n hx hb dX9_answer_128 rfl (lv_at hl 3 rfl) ?_
              refine va_iast hx hb hK hP hD hS 1 0 rfl rfl (vp_in_iff.mpr ⟨by omega, by omega⟩) dX9_answer_129 (fun H locs hP hD hS => ?_)
              have hP : va_P (dC, dI) vwCl [(h0, .inr (9, [.int th, .ref a1, .ref a2, .ref a3, .ref a4, .ref a5, .int ne, .int wi, .int dn, .ref a6, .ref a7, .int nn, .ref a8, .int la, .ref a9, .ref a10, .long up, .long lw, .int wh, .long pu, .long pw, .ref a11])), (a8, .inl (cI, 320, .inl (upd No (y_14 : Int32).toNatClampNeg p3)))] H := hP
              have hD : va_D A [(h0, .inr (9, [.int th, .ref a1, .ref a2, .ref a3, .ref a4, .ref a5, .int ne, .int wi, .int dn, .ref a6, .ref a7, .int nn, .ref a8, .int la, .ref a9, .ref a10, .long up, .long lw, .int wh, .long pu, .long pw, .ref a11])), (a8, .inl (cI, 320, .inl (upd No (y_14 : Int32).toNatClampNeg p3)))] := hD
              refine lv_iconst (v := 1) hx hb dX9_answer_130 (by decide) ?_
              have hP9 := hP.sub (ws' := [(h0, .inr (9, [.int th, .ref a1, .ref a2, .ref a3, .ref a4, .ref a5, .int ne, .int wi, .int dn, .ref a6, .ref a7, .int nn, .ref a8, .int la, .ref a9, .ref a10, .long up, .long lw, .int wh, .long pu, .long pw, .ref a11])), (a8, .inl (cI, 320, .inl (upd No (y_14 : Int32).toNatClampNeg p3)))]) [0, 1] rfl
              have hD9 := hD.sub (ws' := [(h0, .inr (9, [.int th, .ref a1, .ref a2, .ref a3, .ref a4, .ref a5, .int ne, .int wi, .int dn, .ref a6, .ref a7, .int nn, .ref a8, .int la, .ref a9, .ref a10, .long up, .long lw, .int wh, .long pu, .long pw, .ref a11])), (a8, .inl (cI, 320, .inl (upd No (y_14 : Int32).toNatClampNeg p3)))]) [0, 1] (by decide) rfl
              have hK9 := hK.sub (tys' := [(cI, .int)]) [0] rfl
              refine W.widen (k := 0) (n := 0) (by omega) (by omega) ?_
              exact W.iret (v := 1) hx hb hr (fun t ht hW => ⟨⟨_, (), rfl, trivial, la, (upd No (y_14 : Int32).toNatClampNeg p3), by rw [ht]; exact hP9, va_K.moved hW.alike hK9, hD9⟩, hS.F ht⟩) hS.2.2 dX9_answer_131
          · have t_84 := (fa_eq _ _).mp c_84
            refine lv_aload_n hx hb dX9_answer_87 rfl (lv_at hl 0 rfl) ?_
            refine lv_dup hx hb dX9_answer_88 rfl ?_
            refine va_get (D := (dC, dI)) (ci := 9) (v := .int la) (C := RX9) (T := TX9) (N := 22) hx hb hts in_X9_answer_X9 hown hK hP 0 rfl rfl 13 (by decide) (hts (.fieldLink RX9 118 "MeetingsAboveModel" "late" "I") (by decide +kernel)) (fun _ h9 => h9) rfl dX9_answer_89 ?_
            refine lv_iconst (v := 1) hx hb dX9_answer_92 (by decide) ?_
            refine lv_iadd hx hb dX9_answer_93 ?_
            refine lv_topi (fun y_15 ey_15 => ?_)
            refine va_put (D := (dC, dI)) (ci := 9) (v := .int y_15) (ty := .int) (C := RX9) (T := TX9) (N := 22) hx hb hts in_X9_answer_X9 tyX9 tyX9_ok nmX9 hown hK hP hD hS 0 rfl rfl 13 (by decide) (hts (.fieldLink RX9 118 "MeetingsAboveModel" "late" "I") (by decide +kernel)) (fun _ h9 => h9) rfl (by decide +kernel) rfl rfl (Nat.le_of_ble_eq_true rfl) dX9_answer_94 (fun H locs hP hD hS => ?_)
            have hP : va_P (dC, dI) vwCl [(h0, .inr (9, [.int th, .ref a1, .ref a2, .ref a3, .ref a4, .ref a5, .int ne, .int wi, .int dn, .ref a6, .ref a7, .int nn, .ref a8, .int y_15, .ref a9, .ref a10, .long up, .long lw, .int wh, .long pu, .long pw, .ref a11])), (a8, .inl (cI, 320, .inl No))] H := hP
            have hD : va_D A [(h0, .inr (9, [.int th, .ref a1, .ref a2, .ref a3, .ref a4, .ref a5, .int ne, .int wi, .int dn, .ref a6, .ref a7, .int nn, .ref a8, .int y_15, .ref a9, .ref a10, .long up, .long lw, .int wh, .long pu, .long pw, .ref a11])), (a8, .inl (cI, 320, .inl No))] := hD
            refine lv_iconst (v := 0) hx hb dX9_answer_97 (by decide) ?_
            have hP9 := hP.sub (ws' := [(h0, .inr (9, [.int th, .ref a1, .ref a2, .ref a3, .ref a4, .ref a5, .int ne, .int wi, .int dn, .ref a6, .ref a7, .int nn, .ref a8, .int y_15, .ref a9, .ref a10, .long up, .long lw, .int wh, .long pu, .long pw, .ref a11])), (a8, .inl (cI, 320, .inl No))]) [0, 1] rfl
            have hD9 := hD.sub (ws' := [(h0, .inr (9, [.int th, .ref a1, .ref a2, .ref a3, .ref a4, .ref a5, .int ne, .int wi, .int dn, .ref a6, .ref a7, .int nn, .ref a8, .int y_15, .ref a9, .ref a10, .long up, .long lw, .int wh, .long pu, .long pw, .ref a11])), (a8, .inl (cI, 320, .inl No))]) [0, 1] (by decide) rfl
            have hK9 := hK.sub (tys' := [(cI, .int)]) [0] rfl
            refine W.widen (k := 0) (n := 0) (by omega) (by omega) ?_
            exact W.iret (v := 0) hx hb hr (fun t ht hW => ⟨⟨_, (), rfl, trivial, y_15, No, by rw [ht]; exact hP9, va_K.moved hW.alike hK9, hD9⟩, hS.F ht⟩) hS.2.2 dX9_answer_98
        · have t_52 := mt (fa_eq _ _).mpr c_52
          refine lv_aload_n hx hb dX9_answer_55 rfl (lv_at hl 0 rfl) ?_
          refine va_get (D := (dC, dI)) (ci := 9) (v := .ref a8) (C := RX9) (T := TX9) (N := 22) hx hb hts in_X9_answer_X9 hown hK hP 0 rfl rfl 12 (by decide) (hts (.fieldLink RX9 39 "MeetingsAboveModel" "noted" "[I") (by decide +kernel)) (fun _ h9 => h9) rfl dX9_answer_56 ?_
          refine lv_bipush (v := 8) hx hb dX9_answer_59 (by decide) ?_
          refine lv_iload_n hx hb dX9_answer_61 rfl (lv_at hl 1 rfl) ?_
          refine lv_imul hx hb dX9_answer_62 ?_
          refine lv_topi (fun y_16 ey_16 => ?_)
          have ty_16 : y_16.toInt = 8 * p1.toInt := by rw [ey_16]; exact fm_lI kl_8 (by omega) (by omega)
          refine lv_iconst (v := 1) hx hb dX9_answer_63 (by decide) ?_
          refine lv_iadd hx hb dX9_answer_64 ?_
          refine lv_topi (fun y_17 ey_17 => ?_)
          have ty_17 : y_17.toInt = y_16.toInt + 1 := by rw [ey_17]; have := fb_addI (x := y_16) (y := 1) (by omega) (by omega); omega
          refine va_iald hx hb hK hP 1 0 rfl rfl (vp_in_iff.mpr ⟨by omega, by omega⟩) dX9_answer_65 ?_
          refine lv_topi (fun y_18 ey_18 => ?_)
          refine lv_iload_n hx hb dX9_answer_66 rfl (lv_at hl 2 rfl) ?_
          refine lv_icmp_eq (tgt := 73) hx hb dX9_answer_67 (by decide) (fun c_67 => ?_) (fun c_67 => ?_)
          · have t_67 := (fa_eq _ _).mp c_67
            refine lv_aload_n hx hb dX9_answer_73 rfl (lv_at hl 0 rfl) ?_
            refine va_get (D := (dC, dI)) (ci := 9) (v := .ref a8) (C := RX9) (T := TX9) (N := 22) hx hb hts in_X9_answer_X9 hown hK hP 0 rfl rfl 12 (by decide) (hts (.fieldLink RX9 39 "MeetingsAboveModel" "noted" "[I") (by decide +kernel)) (fun _ h9 => h9) rfl dX9_answer_74 ?_
            refine lv_bipush (v := 8) hx hb dX9_answer_77 (by decide) ?_
            refine lv_iload_n hx hb dX9_answer_79 rfl (lv_at hl 1 rfl) ?_
            refine lv_imul hx hb dX9_answer_80 ?_
            refine lv_topi (fun y_19 ey_19 => ?_)
            have ty_19 : y_19.toInt = 8 * p1.toInt := by rw [ey_19]; exact fm_lI kl_8 (by omega) (by omega)
            refine lv_iconst (v := 5) hx hb dX9_answer_81 (by decide) ?_
            refine lv_iadd hx hb dX9_answer_82 ?_
            refine lv_topi (fun y_20 ey_20 => ?_)
            have ty_20 : y_20.toInt = y_19.toInt + 5 := by rw [ey_20]; have := fb_addI (x := y_19) (y := 5) (by omega) (by omega); omega
            refine va_iald hx hb hK hP 1 0 rfl rfl (vp_in_iff.mpr ⟨by omega, by omega⟩) dX9_answer_83 ?_
            refine lv_topi (fun y_21 ey_21 => ?_)
            refine lv_if_ne (tgt := 99) hx hb dX9_answer_84 (by decide) (fun c_84 => ?_) (fun c_84 => ?_)
            · have t_84 := mt (fa_eq _ _).mpr c_84
              refine lv_aload_n hx hb dX9_answer_99 rfl (lv_at hl 0 rfl) ?_
              refine va_get (D := (dC, dI)) (ci := 9) (v := .ref a8) (C := RX9) (T := TX9) (N := 22) hx hb hts in_X9_answer_X9 hown hK hP 0 rfl rfl 12 (by decide) (hts (.fieldLink RX9 39 "MeetingsAboveModel" "noted" "[I") (by decide +kernel)) (fun _ h9 => h9) rfl dX9_answer_100 ?_
              refine lv_bipush (v := 8) hx hb dX9_answer_103 (by decide) ?_
              refine lv_iload_n hx hb dX9_answer_105 rfl (lv_at hl 1 rfl) ?_
              refine lv_imul hx hb dX9_answer_106 ?_
              refine lv_topi (fun y_22 ey_22 => ?_)
              have ty_22 : y_22.toInt = 8 * p1.toInt := by rw [ey_22]; exact fm_lI kl_8 (by omega) (by omega)
              refine lv_aload_n hx hb dX9_answer_107 rfl (lv_at hl 0 rfl) ?_
              refine va_get (D := (dC, dI)) (ci := 9) (v := .ref a8) (C := RX9) (T := TX9) (N := 22) hx hb hts in_X9_answer_X9 hown hK hP 0 rfl rfl 12 (by decide) (hts (.fieldLink RX9 39 "MeetingsAboveModel" "noted" "[I") (by decide +kernel)) (fun _ h9 => h9) rfl dX9_answer_108 ?_
              refine lv_bipush (v := 8) hx hb dX9_answer_111 (by decide) ?_
              refine lv_iload_n hx hb dX9_answer_113 rfl (lv_at hl 1 rfl) ?_
              refine lv_imul hx hb dX9_answer_114 ?_
              refine lv_topi (fun y_23 ey_23 => ?_)
              have ty_23 : y_23.toInt = 8 * p1.toInt := by rw [ey_23]; exact fm_lI kl_8 (by omega) (by omega)
              refine va_iald hx hb hK hP 1 0 rfl rfl (vp_in_iff.mpr ⟨by omega, by omega⟩) dX9_answer_115 ?_
              refine lv_topi (fun y_24 ey_24 => ?_)
              refine lv_iload_n hx hb dX9_answer_116 rfl (lv_at hl 2 rfl) ?_
              refine lv_icmp_ne (tgt := 125) hx hb dX9_answer_117 (by decide) (fun c_117 => ?_) (fun c_117 => ?_)
              · have t_117 := mt (fa_eq _ _).mpr c_117
                refine lv_bipush (v := 7) hx hb dX9_answer_125 (by decide) ?_
                refine lv_iadd hx hb dX9_answer_127 ?_
                refine lv_topi (fun y_25 ey_25 => ?_)
                have ty_25 : y_25.toInt = y_22.toInt + 7 := by rw [ey_25]; have := fb_addI (x := y_22) (y := 7) (by omega) (by omega); omega
                refine lv_iload_n hx hb dX9_answer_128 rfl (lv_at hl 3 rfl) ?_
                refine va_iast hx hb hK hP hD hS 1 0 rfl rfl (vp_in_iff.mpr ⟨by omega, by omega⟩) dX9_answer_129 (fun H locs hP hD hS => ?_)
                have hP : va_P (dC, dI) vwCl [(h0, .inr (9, [.int th, .ref a1, .ref a2, .ref a3, .ref a4, .ref a5, .int ne, .int wi, .int dn, .ref a6, .ref a7, .int nn, .ref a8, .int la, .ref a9, .ref a10, .long up, .long lw, .int wh, .long pu, .long pw, .ref a11])), (a8, .inl (cI, 320, .inl (upd No (y_25 : Int32).toNatClampNeg p3)))] H := hP
                have hD : va_D A [(h0, .inr (9, [.int th, .ref a1, .ref a2, .ref a3, .ref a4, .ref a5, .int ne, .int wi, .int dn, .ref a6, .ref a7, .int nn, .ref a8, .int la, .ref a9, .ref a10, .long up, .long lw, .int wh, .long pu, .long pw, .ref a11])), (a8, .inl (cI, 320, .inl (upd No (y_25 : Int32).toNatClampNeg p3)))] := hD
                refine lv_iconst (v := 1) hx hb dX9_answer_130 (by decide) ?_
                have hP9 := hP.sub (ws' := [(h0, .inr (9, [.int th, .ref a1, .ref a2, .ref a3, .ref a4, .ref a5, .int ne, .int wi, .int dn, .ref a6, .ref a7, .int nn, .ref a8, .int la, .ref a9, .ref a10, .long up, .long lw, .int wh, .long pu, .long pw, .ref a11])), (a8, .inl (cI, 320, .inl (upd No (y_25 : Int32).toNatClampNeg p3)))]) [0, 1] rfl
                have hD9 := hD.sub (ws' := [(h0, .inr (9, [.int th, .ref a1, .ref a2, .ref a3, .ref a4, .ref a5, .int ne, .int wi, .int dn, .ref a6, .ref a7, .int nn, .ref a8, .int la, .ref a9, .ref a10, .long up, .long lw, .int wh, .long pu, .long pw, .ref a11])), (a8, .inl (cI, 320, .inl (upd No (y_25 : Int32).toNatClampNeg p3)))]) [0, 1] (by decide) rfl
                have hK9 := hK.sub (tys' := [(cI, .int)]) [0] rfl
                refine W.widen (k := 0) (n := 0) (by omega) (by omega) ?_
                exact W.iret (v := 1) hx hb hr (fun t ht hW => ⟨⟨_, (), rfl, trivial, la, (upd No (y_25 : Int32).toNatClampNeg p3), by rw [ht]; exact hP9, va_K.moved hW.alike hK9, hD9⟩, hS.F ht⟩) hS.2.2 dX9_answer_131
              · have t_117 := (fa_eq _ _).mp c_117
                refine lv_bipush (v := 6) hx hb dX9_answer_120 (by decide) ?_
                refine lv_goto (tgt := 127) hx hb dX9_answer_122 (by decide) ?_
                refine lv_iadd hx hb dX9_answer_127 ?_
                refine lv_topi (fun y_26 ey_26 => ?_)
                have ty_26 : y_26.toInt = y_22.toInt + 6 := by rw [ey_26]; have := fb_addI (x := y_22) (y := 6) (by omega) (by omega); omega
                refine lv_iload_n hx hb dX9_answer_128 rfl (lv_at hl 3 rfl) ?_
                refine va_iast hx hb hK hP hD hS 1 0 rfl rfl (vp_in_iff.mpr ⟨by omega, by omega⟩) dX9_answer_129 (fun H locs hP hD hS => ?_)
                have hP : va_P (dC, dI) vwCl [(h0, .inr (9, [.int th, .ref a1, .ref a2, .ref a3, .ref a4, .ref a5, .int ne, .int wi, .int dn, .ref a6, .ref a7, .int nn, .ref a8, .int la, .ref a9, .ref a10, .long up, .long lw, .int wh, .long pu, .long pw, .ref a11])), (a8, .inl (cI, 320, .inl (upd No (y_26 : Int32).toNatClampNeg p3)))] H := hP
                have hD : va_D A [(h0, .inr (9, [.int th, .ref a1, .ref a2, .ref a3, .ref a4, .ref a5, .int ne, .int wi, .int dn, .ref a6, .ref a7, .int nn, .ref a8, .int la, .ref a9, .ref a10, .long up, .long lw, .int wh, .long pu, .long pw, .ref a11])), (a8, .inl (cI, 320, .inl (upd No (y_26 : Int32).toNatClampNeg p3)))] := hD
                refine lv_iconst (v := 1) hx hb dX9_answer_130 (by decide) ?_
                have hP9 := hP.sub (ws' := [(h0, .inr (9, [.int th, .ref a1, .ref a2, .ref a3, .ref a4, .ref a5, .int ne, .int wi, .int dn, .ref a6, .ref a7, .int nn, .ref a8, .int la, .ref a9, .ref a10, .long up, .long lw, .int wh, .long pu, .long pw, .ref a11])), (a8, .inl (cI, 320, .inl (upd No (y_26 : Int32).toNatClampNeg p3)))]) [0, 1] rfl
                have hD9 := hD.sub (ws' := [(h0, .inr (9, [.int th, .ref a1, .ref a2, .ref a3, .ref a4, .ref a5, .int ne, .int wi, .int dn, .ref a6, .ref a7, .int nn, .ref a8, .int la, .ref a9, .ref a10, .long up, .long lw, .int wh, .long pu, .long pw, .ref a11])), (a8, .inl (cI, 320, .inl (upd No (y_26 : Int32).toNatClampNeg p3)))]) [0, 1] (by decide) rfl
                have hK9 := hK.sub (tys' := [(cI, .int)]) [0] rfl
                refine W.widen (k := 0) (n := 0) (by omega) (by omega) ?_
                exact W.iret (v := 1) hx hb hr (fun t ht hW => ⟨⟨_, (), rfl, trivial, la, (upd No (y_26 : Int32).toNatClampNeg p3), by rw [ht]; exact hP9, va_K.moved hW.alike hK9, hD9⟩, hS.F ht⟩) hS.2.2 dX9_answer_131
            · have t_84 := (fa_eq _ _).mp c_84
              refine lv_aload_n hx hb dX9_answer_87 rfl (lv_at hl 0 rfl) ?_
              refine lv_dup hx hb dX9_answer_88 rfl ?_
              refine va_get (D := (dC, dI)) (ci := 9) (v := .int la) (C := RX9) (T := TX9) (N := 22) hx hb hts in_X9_answer_X9 hown hK hP 0 rfl rfl 13 (by decide) (hts (.fieldLink RX9 118 "MeetingsAboveModel" "late" "I") (by decide +kernel)) (fun _ h9 => h9) rfl dX9_answer_89 ?_
              refine lv_iconst (v := 1) hx hb dX9_answer_92 (by decide) ?_
              refine lv_iadd hx hb dX9_answer_93 ?_
              refine lv_topi (fun y_27 ey_27 => ?_)
              refine va_put (D := (dC, dI)) (ci := 9) (v := .int y_27) (ty := .int) (C := RX9) (T := TX9) (N := 22) hx hb hts in_X9_answer_X9 tyX9 tyX9_ok nmX9 hown hK hP hD hS 0 rfl rfl 13 (by decide) (hts (.fieldLink RX9 118 "MeetingsAboveModel" "late" "I") (by decide +kernel)) (fun _ h9 => h9) rfl (by decide +kernel) rfl rfl (Nat.le_of_ble_eq_true rfl) dX9_answer_94 (fun H locs hP hD hS => ?_)
              have hP : va_P (dC, dI) vwCl [(h0, .inr (9, [.int th, .ref a1, .ref a2, .ref a3, .ref a4, .ref a5, .int ne, .int wi, .int dn, .ref a6, .ref a7, .int nn, .ref a8, .int y_27, .ref a9, .ref a10, .long up, .long lw, .int wh, .long pu, .long pw, .ref a11])), (a8, .inl (cI, 320, .inl No))] H := hP
              have hD : va_D A [(h0, .inr (9, [.int th, .ref a1, .ref a2, .ref a3, .ref a4, .ref a5, .int ne, .int wi, .int dn, .ref a6, .ref a7, .int nn, .ref a8, .int y_27, .ref a9, .ref a10, .long up, .long lw, .int wh, .long pu, .long pw, .ref a11])), (a8, .inl (cI, 320, .inl No))] := hD
              refine lv_iconst (v := 0) hx hb dX9_answer_97 (by decide) ?_
              have hP9 := hP.sub (ws' := [(h0, .inr (9, [.int th, .ref a1, .ref a2, .ref a3, .ref a4, .ref a5, .int ne, .int wi, .int dn, .ref a6, .ref a7, .int nn, .ref a8, .int y_27, .ref a9, .ref a10, .long up, .long lw, .int wh, .long pu, .long pw, .ref a11])), (a8, .inl (cI, 320, .inl No))]) [0, 1] rfl
              have hD9 := hD.sub (ws' := [(h0, .inr (9, [.int th, .ref a1, .ref a2, .ref a3, .ref a4, .ref a5, .int ne, .int wi, .int dn, .ref a6, .ref a7, .int nn, .ref a8, .int y_27, .ref a9, .ref a10, .long up, .long lw, .int wh, .long pu, .long pw, .ref a11])), (a8, .inl (cI, 320, .inl No))]) [0, 1] (by decide) rfl
              have hK9 := hK.sub (tys' := [(cI, .int)]) [0] rfl
              refine W.widen (k := 0) (n := 0) (by omega) (by omega) ?_
              exact W.iret (v := 0) hx hb hr (fun t ht hW => ⟨⟨_, (), rfl, trivial, y_27, No, by rw [ht]; exact hP9, va_K.moved hW.alike hK9, hD9⟩, hS.F ht⟩) hS.2.2 dX9_answer_98
          · have t_67 := mt (fa_eq _ _).mpr c_67
            refine lv_ldc hx hb hown (hts (.constant RX9 85 (-100003)) (by decide +kernel)) dX9_answer_70 ?_
            have hP9 := hP.sub (ws' := [(h0, .inr (9, [.int th, .ref a1, .ref a2, .ref a3, .ref a4, .ref a5, .int ne, .int wi, .int dn, .ref a6, .ref a7, .int nn, .ref a8, .int la, .ref a9, .ref a10, .long up, .long lw, .int wh, .long pu, .long pw, .ref a11])), (a8, .inl (cI, 320, .inl No))]) [0, 1] rfl
            have hD9 := hD.sub (ws' := [(h0, .inr (9, [.int th, .ref a1, .ref a2, .ref a3, .ref a4, .ref a5, .int ne, .int wi, .int dn, .ref a6, .ref a7, .int nn, .ref a8, .int la, .ref a9, .ref a10, .long up, .long lw, .int wh, .long pu, .long pw, .ref a11])), (a8, .inl (cI, 320, .inl No))]) [0, 1] (by decide) rfl
            have hK9 := hK.sub (tys' := [(cI, .int)]) [0] rfl
            refine W.widen (k := 0) (n := 0) (by omega) (by omega) ?_
            exact W.iret (v := (-100003)) hx hb hr (fun t ht hW => ⟨⟨_, (), rfl, trivial, la, No, by rw [ht]; exact hP9, va_K.moved hW.alike hK9, hD9⟩, hS.F ht⟩) hS.2.2 dX9_answer_72
      · simp only [Int32.toInt_toInt64, klL_1, klL_2] at q_33
        refine lv_if_ne (tgt := 42) hx hb dX9_answer_36 (by decide) (fun h9 => absurd h9 (by decide)) (fun _ => ?_)
        refine lv_ldc hx hb hown (hts (.constant RX9 70 (-100002)) (by decide +kernel)) dX9_answer_39 ?_
        have hP9 := hP.sub (ws' := [(h0, .inr (9, [.int th, .ref a1, .ref a2, .ref a3, .ref a4, .ref a5, .int ne, .int wi, .int dn, .ref a6, .ref a7, .int nn, .ref a8, .int la, .ref a9, .ref a10, .long up, .long lw, .int wh, .long pu, .long pw, .ref a11])), (a8, .inl (cI, 320, .inl No))]) [0, 1] rfl
        have hD9 := hD.sub (ws' := [(h0, .inr (9, [.int th, .ref a1, .ref a2, .ref a3, .ref a4, .ref a5, .int ne, .int wi, .int dn, .ref a6, .ref a7, .int nn, .ref a8, .int la, .ref a9, .ref a10, .long up, .long lw, .int wh, .long pu, .long pw, .ref a11])), (a8, .inl (cI, 320, .inl No))]) [0, 1] (by decide) rfl
        have hK9 := hK.sub (tys' := [(cI, .int)]) [0] rfl
        refine W.widen (k := 0) (n := 0) (by omega) (by omega) ?_
        exact W.iret (v := (-100002)) hx hb hr (fun t ht hW => ⟨⟨_, (), rfl, trivial, la, No, by rw [ht]; exact hP9, va_K.moved hW.alike hK9, hD9⟩, hS.F ht⟩) hS.2.2 dX9_answer_41
    · refine lv_if_ne (tgt := 27) hx hb dX9_answer_21 (by decide) (fun h9 => absurd h9 (by decide)) (fun _ => ?_)
      refine lv_ldc hx hb hown (hts (.constant RX9 84 (-100001)) (by decide +kernel)) dX9_answer_24 ?_
      have hP9 := hP.sub (ws' := [(h0, .inr (9, [.int th, .ref a1, .ref a2, .ref a3, .ref a4, .ref a5, .int ne, .int wi, .int dn, .ref a6, .ref a7, .int nn, .ref a8, .int la, .ref a9, .ref a10, .long up, .long lw, .int wh, .long pu, .long pw, .ref a11])), (a8, .inl (cI, 320, .inl No))]) [0, 1] rfl
      have hD9 := hD.sub (ws' := [(h0, .inr (9, [.int th, .ref a1, .ref a2, .ref a3, .ref a4, .ref a5, .int ne, .int wi, .int dn, .ref a6, .ref a7, .int nn, .ref a8, .int la, .ref a9, .ref a10, .long up, .long lw, .int wh, .long pu, .long pw, .ref a11])), (a8, .inl (cI, 320, .inl No))]) [0, 1] (by decide) rfl
      have hK9 := hK.sub (tys' := [(cI, .int)]) [0] rfl
      refine W.widen (k := 0) (n := 0) (by omega) (by omega) ?_
      exact W.iret (v := (-100001)) hx hb hr (fun t ht hW => ⟨⟨_, (), rfl, trivial, la, No, by rw [ht]; exact hP9, va_K.moved hW.alike hK9, hD9⟩, hS.F ht⟩) hS.2.2 dX9_answer_26
  · simp only [Int32.toInt_toInt64, klL_0] at q_10
    refine lv_if_eq (tgt := 24) hx hb dX9_answer_13 (by decide) (fun _ => ?_) (fun h9 => absurd h9 (by decide))
    refine lv_ldc hx hb hown (hts (.constant RX9 84 (-100001)) (by decide +kernel)) dX9_answer_24 ?_
    have hP9 := hP.sub (ws' := [(h0, .inr (9, [.int th, .ref a1, .ref a2, .ref a3, .ref a4, .ref a5, .int ne, .int wi, .int dn, .ref a6, .ref a7, .int nn, .ref a8, .int la, .ref a9, .ref a10, .long up, .long lw, .int wh, .long pu, .long pw, .ref a11])), (a8, .inl (cI, 320, .inl No))]) [0, 1] rfl
    have hD9 := hD.sub (ws' := [(h0, .inr (9, [.int th, .ref a1, .ref a2, .ref a3, .ref a4, .ref a5, .int ne, .int wi, .int dn, .ref a6, .ref a7, .int nn, .ref a8, .int la, .ref a9, .ref a10, .long up, .long lw, .int wh, .long pu, .long pw, .ref a11])), (a8, .inl (cI, 320, .inl No))]) [0, 1] (by decide) rfl
    have hK9 := hK.sub (tys' := [(cI, .int)]) [0] rfl
    refine W.widen (k := 0) (n := 0) (by omega) (by omega) ?_
    exact W.iret (v := (-100001)) hx hb hr (fun t ht hW => ⟨⟨_, (), rfl, trivial, la, No, by rw [ht]; exact hP9, va_K.moved hW.alike hK9, hD9⟩, hS.F ht⟩) hS.2.2 dX9_answer_26
def wk_X9_notice : List Cond := .code yX9_notice cX9_notice 7 (some .int) :: (([.fieldLink RX9 115 "MeetingsAboveModel" "notices" "I", .fieldLink RX9 39 "MeetingsAboveModel" "noted" "[I", .fieldLink RX9 121 "MeetingsAboveModel" "upper" "J", .fieldLink RX9 125 "MeetingsAboveModel" "lower" "J", .fieldLink RX9 128 "MeetingsAboveModel" "when" "I", .constant RX9 71 (-100004), .constant RX9 85 (-100003), .constant RX9 84 (-100001)] : List Cond) ++ (wsX90 ++ ((wsV RX9 80 RX9 yX9_isThing wk_X9_isThing) ++ ((wsV RX9 106 RX9 yX9_isMeeting wk_X9_isMeeting) ++ ([])))))
theorem in_X9_notice_X9 : ∀ w ∈ wsX90, w ∈ wk_X9_notice := fun _ h => List.mem_cons_of_mem _ (List.mem_append_right _ (List.mem_append_left _ h))
theorem gw_X9_notice : AG wk_X9_notice := AG_ca (AG_l (by decide +kernel)) (AG_app ag_X9 (AG_app (AG_V gw_X9_isThing) (AG_app (AG_V gw_X9_isMeeting) (AG_nil))))
theorem g_X9_notice__X9_isThing_80 : GoodIn wk_X9_notice (wsV RX9 80 RX9 yX9_isThing wk_X9_isThing) := goodIn_m (fun _ h => List.mem_cons_of_mem _ (List.mem_append_right _ (List.mem_append_right _ (List.mem_append_left _ h)))) (AG_V gw_X9_isThing)
theorem g_X9_notice__X9_isMeeting_106 : GoodIn wk_X9_notice (wsV RX9 106 RX9 yX9_isMeeting wk_X9_isMeeting) := goodIn_m (fun _ h => List.mem_cons_of_mem _ (List.mem_append_right _ (List.mem_append_right _ (List.mem_append_right _ (List.mem_append_left _ h))))) (AG_V gw_X9_isMeeting)
set_option maxHeartbeats 4000000 in
set_option maxRecDepth 100000 in
theorem c_X9_notice (l : Launch) (dC : Nat → ClassId) (dI : Nat → Nat → Nat) (h0 : Nat) (a1 : Nat) (a2 : Nat) (a3 : Nat) (a4 : Nat) (a5 : Nat) (a6 : Nat) (a7 : Nat) (a8 : Nat) (a9 : Nat) (a10 : Nat) (a11 : Nat) (th : Int32) (ne : Int32) (wi : Int32) (dn : Int32) (nn : Int32) (la : Int32) (wh : Int32) (up : Int64) (lw : Int64) (pu : Int64) (pw : Int64) (cI : ClassId) (cZ : ClassId) (Fi : Nat → Int32) (Ma : Nat → Int32) (Go : Nat → Int32) (Sp : Nat → Int32) (No : Nat → Int32) (p1 : Int32) (p2 : Int32) (sz : Nat) (hM : mOK th Fi Ma) (hn0 : 0 ≤ nn.toInt) (hn1 : nn.toInt ≤ 40) : Met l yX9_notice wk_X9_notice ({ frames := 4, cells := 0, slots := 0, locals := 104 }) (va_Pc [.ref h0, .int p1, .int p2] (fun U => U.heap.size = sz ∧ va_P (dC, dI) vwCl [(h0, .inr (9, [.int th, .ref a1, .ref a2, .ref a3, .ref a4, .ref a5, .int ne, .int wi, .int dn, .ref a6, .ref a7, .int nn, .ref a8, .int la, .ref a9, .ref a10, .long up, .long lw, .int wh, .long pu, .long pw, .ref a11])), (a1, .inl (cI, 16, .inl Fi)), (a2, .inl (cI, 16, .inl Ma)), (a4, .inl (cZ, 16, .inl Go)), (a5, .inl (cI, 576, .inl Sp)), (a8, .inl (cI, 320, .inl No))] U.heap ∧ va_K (dC, dI) vwCl [(cI, .int), (cZ, .boolean)] U ∧ va_D (fun _ => True) [(h0, .inr (9, [.int th, .ref a1, .ref a2, .ref a3, .ref a4, .ref a5, .int ne, .int wi, .int dn, .ref a6, .ref a7, .int nn, .ref a8, .int la, .ref a9, .ref a10, .long up, .long lw, .int wh, .long pu, .long pw, .ref a11])), (a1, .inl (cI, 16, .inl Fi)), (a2, .inl (cI, 16, .inl Ma)), (a4, .inl (cZ, 16, .inl Go)), (a5, .inl (cI, 576, .inl Sp)), (a8, .inl (cI, 320, .inl No))])) (va_Qi (fun (r : Int32) (_ : Unit) => True) (fun (_ : Unit) (t : State) => ∃ (up9 : Int64) (lw9 : Int64) (wh9 : Int32) (pu9 : Int64) (pw9 : Int64) (nn9 : Int32) (No9 : Nat → Int32), va_P (dC, dI) vwCl [(h0, .inr (9, [.int th, .ref a1, .ref a2, .ref a3, .ref a4, .ref a5, .int ne, .int wi, .int dn, .ref a6, .ref a7, .int nn9, .ref a8, .int la, .ref a9, .ref a10, .long up9, .long lw9, .int wh9, .long pu9, .long pw9, .ref a11])), (a1, .inl (cI, 16, .inl Fi)), (a2, .inl (cI, 16, .inl Ma)), (a4, .inl (cZ, 16, .inl Go)), (a5, .inl (cI, 576, .inl Sp)), (a8, .inl (cI, 320, .inl No9))] t.heap ∧ va_K (dC, dI) vwCl [(cI, .int), (cZ, .boolean)] t ∧ va_D (va_A [(h0, .inr (9, [.int th, .ref a1, .ref a2, .ref a3, .ref a4, .ref a5, .int ne, .int wi, .int dn, .ref a6, .ref a7, .int nn, .ref a8, .int la, .ref a9, .ref a10, .long up, .long lw, .int wh, .long pu, .long pw, .ref a11])), (a1, .inl (cI, 16, .inl Fi)), (a2, .inl (cI, 16, .inl Ma)), (a4, .inl (cZ, 16, .inl Go)), (a5, .inl (cI, 576, .inl Sp)), (a8, .inl (cI, 320, .inl No))] sz) [(h0, .inr (9, [.int th, .ref a1, .ref a2, .ref a3, .ref a4, .ref a5, .int ne, .int wi, .int dn, .ref a6, .ref a7, .int nn9, .ref a8, .int la, .ref a9, .ref a10, .long up9, .long lw9, .int wh9, .long pu9, .long pw9, .ref a11])), (a1, .inl (cI, 16, .inl Fi)), (a2, .inl (cI, 16, .inl Ma)), (a4, .inl (cZ, 16, .inl Go)), (a5, .inl (cI, 576, .inl Sp)), (a8, .inl (cI, 320, .inl No9))] ∧ 0 ≤ nn9.toInt ∧ nn9.toInt ≤ 40) (va_A [(h0, .inr (9, [.int th, .ref a1, .ref a2, .ref a3, .ref a4, .ref a5, .int ne, .int wi, .int dn, .ref a6, .ref a7, .int nn, .ref a8, .int la, .ref a9, .ref a10, .long up, .long lw, .int wh, .long pu, .long pw, .ref a11])), (a1, .inl (cI, 16, .inl Fi)), (a2, .inl (cI, 16, .inl Ma)), (a4, .inl (cZ, 16, .inl Go)), (a5, .inl (cI, 576, .inl Sp)), (a8, .inl (cI, 320, .inl No))] sz)) 0 0 (va_A [(h0, .inr (9, [.int th, .ref a1, .ref a2, .ref a3, .ref a4, .ref a5, .int ne, .int wi, .int dn, .ref a6, .ref a7, .int nn, .ref a8, .int la, .ref a9, .ref a10, .long up, .long lw, .int wh, .long pu, .long pw, .ref a11])), (a1, .inl (cI, 16, .inl Fi)), (a2, .inl (cI, 16, .inl Ma)), (a4, .inl (cZ, 16, .inl Go)), (a5, .inl (cI, 576, .inl Sp)), (a8, .inl (cI, 320, .inl No))] sz) := by
  refine Met.ofW (cc := cX9_notice) (maxL := 7) (ret := (some .int)) (by decide) rfl ?_
  intro p e s m args below meth c s₁ B hml hv
  obtain ⟨rfl, hsz, hP, hK, hD0⟩ := hv
  have hx := B.exec
  have hb := B.bytes
  have hr := B.returns
  have hts := atoms_spec (ws := wk_X9_notice) B.pre
  have hown : s.vm.findClass RX9 = some m.cls := findClass_of_methodNamed B.named
  have hlocks := B.notSynchronized
  subst hsz
  have hD := hD0.self (sz := s.heap.size)
  generalize hAe : va_A [(h0, .inr (9, [.int th, .ref a1, .ref a2, .ref a3, .ref a4, .ref a5, .int ne, .int wi, .int dn, .ref a6, .ref a7, .int nn, .ref a8, .int la, .ref a9, .ref a10, .long up, .long lw, .int wh, .long pu, .long pw, .ref a11])), (a1, .inl (cI, 16, .inl Fi)), (a2, .inl (cI, 16, .inl Ma)), (a4, .inl (cZ, 16, .inl Go)), (a5, .inl (cI, 576, .inl Sp)), (a8, .inl (cI, 320, .inl No))] s.heap.size = A at hD ⊢
  have hA : ∀ q : Nat, s.heap.size ≤ q → A q := fun q h => by rw [← hAe]; exact Or.inr h
  have hS : va_S A s.heap s.heap [] := va_S.rf
  have hP : va_P (dC, dI) vwCl [(h0, .inr (9, [.int th, .ref a1, .ref a2, .ref a3, .ref a4, .ref a5, .int ne, .int wi, .int dn, .ref a6, .ref a7, .int nn, .ref a8, .int la, .ref a9, .ref a10, .long up, .long lw, .int wh, .long pu, .long pw, .ref a11])), (a1, .inl (cI, 16, .inl Fi)), (a2, .inl (cI, 16, .inl Ma)), (a4, .inl (cZ, 16, .inl Go)), (a5, .inl (cI, 576, .inl Sp)), (a8, .inl (cI, 320, .inl No))] s.heap := hP
  have hl := lv_entry ([.ref h0, .int p1, .int p2]) (n := 7) (Nat.le_of_ble_eq_true rfl)
  rw [lg_entry_eq]
  generalize (lg_sl ([.ref h0, .int p1, .int p2]) ++ List.replicate (7 - (lg_sl ([.ref h0, .int p1, .int p2])).length) Slot.unset).toArray = ls at hl ⊢
  have hl : lv_has ls 7 [(0, .ref h0), (1, .int p1), (2, .int p2)] := hl
  have kl_m100004 : (-100004 : Int32).toInt = -100004 := by decide
  have kl_m100003 : (-100003 : Int32).toInt = -100003 := by decide
  have kl_m100001 : (-100001 : Int32).toInt = -100001 := by decide
  have kl_m1 : (-1 : Int32).toInt = -1 := by decide
  have kl_0 : (0 : Int32).toInt = 0 := by decide
  have kl_1 : (1 : Int32).toInt = 1 := by decide
  have kl_2 : (2 : Int32).toInt = 2 := by decide
  have kl_3 : (3 : Int32).toInt = 3 := by decide
  have kl_4 : (4 : Int32).toInt = 4 := by decide
  have kl_5 : (5 : Int32).toInt = 5 := by decide
  have kl_6 : (6 : Int32).toInt = 6 := by decide
  have kl_7 : (7 : Int32).toInt = 7 := by decide
  have kl_8 : (8 : Int32).toInt = 8 := by decide
  have kl_40 : (40 : Int32).toInt = 40 := by decide
  have klL_0 : (0 : Int64).toInt = 0 := by decide
  obtain ⟨hM0, hM1, hM2⟩ := id hM
  refine lv_aload_n hx hb dX9_notice_0 rfl (lv_at hl 0 rfl) ?_
  refine lv_iload_n hx hb dX9_notice_1 rfl (lv_at hl 1 rfl) ?_
  have hPc := hP.sub (ws' := [(h0, .inr (9, [.int th, .ref a1, .ref a2, .ref a3, .ref a4, .ref a5, .int ne, .int wi, .int dn, .ref a6, .ref a7, .int nn, .ref a8, .int la, .ref a9, .ref a10, .long up, .long lw, .int wh, .long pu, .long pw, .ref a11]))]) [0] rfl
  have hKc := hK.sub (tys' := []) [] rfl
  refine vp_callSi (W.runV (As := [.int p1]) (rest := []) ⟨hx, hb, hml, hown, hts⟩ (c_X9_isThing l dC dI h0 a1 a2 a3 a4 a5 a6 a7 a8 a9 a10 a11 th ne wi dn nn la wh up lw pu pw p1 (by first | omega | assumption) (by first | omega | assumption)) (cwV 1 hts g_X9_notice__X9_isThing_80 rfl rfl rfl (by decide +kernel) ⟨Nat.le_of_ble_eq_true rfl, Nat.le_of_ble_eq_true rfl⟩) ⟨fun a U g mk q => by obtain ⟨q0, qP, qK⟩ := q; exact ⟨q0, qP, va_K.moved (u := U) (U := U.calling g mk a) (Vm.Alike.refl U.vm) qK⟩, va_recv hKc hPc (ci := 9) (q0 := 0) rfl rfl, fun U hU hW => ⟨rfl, by rw [hU]; exact hPc, va_K.moved hW.alike hKc⟩⟩ rfl rfl hl.1 rfl (lv_room (Nat.le_of_ble_eq_true rfl)) dX9_notice_2 ⟨Nat.le_of_ble_eq_true rfl, Nat.le_of_ble_eq_true rfl⟩) (fun r_1 hr_1 => ?_)
  try dsimp only at hr_1
  rcases bo_split hr_1 with ⟨rfl, q_2⟩ | ⟨rfl, q_2⟩
  · refine lv_if_eq (tgt := 16) hx hb dX9_notice_5 (by decide) (fun h9 => absurd h9 (by decide)) (fun _ => ?_)
    refine lv_aload_n hx hb dX9_notice_8 rfl (lv_at hl 0 rfl) ?_
    refine lv_iload_n hx hb dX9_notice_9 rfl (lv_at hl 2 rfl) ?_
    have hPc := hP.sub (ws' := [(h0, .inr (9, [.int th, .ref a1, .ref a2, .ref a3, .ref a4, .ref a5, .int ne, .int wi, .int dn, .ref a6, .ref a7, .int nn, .ref a8, .int la, .ref a9, .ref a10, .long up, .long lw, .int wh, .long pu, .long pw, .ref a11]))]) [0] rfl
    have hKc := hK.sub (tys' := []) [] rfl
    refine vp_callSi (W.runV (As := [.int p2]) (rest := []) ⟨hx, hb, hml, hown, hts⟩ (c_X9_isThing l dC dI h0 a1 a2 a3 a4 a5 a6 a7 a8 a9 a10 a11 th ne wi dn nn la wh up lw pu pw p2 (by first | omega | assumption) (by first | omega | assumption)) (cwV 1 hts g_X9_notice__X9_isThing_80 rfl rfl rfl (by decide +kernel) ⟨Nat.le_of_ble_eq_true rfl, Nat.le_of_ble_eq_true rfl⟩) ⟨fun a U g mk q => by obtain ⟨q0, qP, qK⟩ := q; exact ⟨q0, qP, va_K.moved (u := U) (U := U.calling g mk a) (Vm.Alike.refl U.vm) qK⟩, va_recv hKc hPc (ci := 9) (q0 := 0) rfl rfl, fun U hU hW => ⟨rfl, by rw [hU]; exact hPc, va_K.moved hW.alike hKc⟩⟩ rfl rfl hl.1 rfl (lv_room (Nat.le_of_ble_eq_true rfl)) dX9_notice_10 ⟨Nat.le_of_ble_eq_true rfl, Nat.le_of_ble_eq_true rfl⟩) (fun r_2 hr_2 => ?_)
    try dsimp only at hr_2
    rcases bo_split hr_2 with ⟨rfl, q_10⟩ | ⟨rfl, q_10⟩
    · refine lv_if_ne (tgt := 19) hx hb dX9_notice_13 (by decide) (fun _ => ?_) (fun h9 => absurd h9 (by decide))
      refine lv_aload_n hx hb dX9_notice_19 rfl (lv_at hl 0 rfl) ?_
      refine lv_iload_n hx hb dX9_notice_20 rfl (lv_at hl 1 rfl) ?_
      refine lv_iload_n hx hb dX9_notice_21 rfl (lv_at hl 2 rfl) ?_
      have hPc := hP.sub (ws' := [(h0, .inr (9, [.int th, .ref a1, .ref a2, .ref a3, .ref a4, .ref a5, .int ne, .int wi, .int dn, .ref a6, .ref a7, .int nn, .ref a8, .int la, .ref a9, .ref a10, .long up, .long lw, .int wh, .long pu, .long pw, .ref a11])), (a1, .inl (cI, 16, .inl Fi)), (a2, .inl (cI, 16, .inl Ma)), (a4, .inl (cZ, 16, .inl Go)), (a5, .inl (cI, 576, .inl Sp))]) [0, 1, 2, 3, 4] rfl
      have hKc := hK.sub (tys' := [(cI, .int), (cZ, .boolean)]) [0, 1] rfl
      have hDc := hD.sub (ws' := [(h0, .inr (9, [.int th, .ref a1, .ref a2, .ref a3, .ref a4, .ref a5, .int ne, .int wi, .int dn, .ref a6, .ref a7, .int nn, .ref a8, .int la, .ref a9, .ref a10, .long up, .long lw, .int wh, .long pu, .long pw, .ref a11])), (a1, .inl (cI, 16, .inl Fi)), (a2, .inl (cI, 16, .inl Ma)), (a4, .inl (cZ, 16, .inl Go)), (a5, .inl (cI, 576, .inl Sp))]) [0, 1, 2, 3, 4] (by decide) rfl
      have hFc := va_free (wc := [(h0, .inr (9, [.int th, .ref a1, .ref a2, .ref a3, .ref a4, .ref a5, .int ne, .int wi, .int dn, .ref a6, .ref a7, .int nn, .ref a8, .int la, .ref a9, .ref a10, .long up, .long lw, .int wh, .long pu, .long pw, .ref a11])), (a1, .inl (cI, 16, .inl Fi)), (a2, .inl (cI, 16, .inl Ma)), (a4, .inl (cZ, 16, .inl Go)), (a5, .inl (cI, 576, .inl Sp))]) hD hS hA [0, 1, 2, 3, 4] rfl
      refine va_calli (va_runV (As := [.int p1, .int p2]) (rest := []) ⟨hx, hb, hml, hown, hts⟩ (c_X9_isMeeting l dC dI h0 a1 a2 a3 a4 a5 a6 a7 a8 a9 a10 a11 th ne wi dn nn la wh up lw pu pw cI cZ Fi Ma Go Sp p1 p2 s.heap.size (by first | assumption | omega) (by first | omega | assumption) (by first | omega | assumption) (by first | omega | assumption) (by first | omega | assumption)) (cwV 2 hts g_X9_notice__X9_isMeeting_106 rfl rfl rfl (by decide +kernel) ⟨Nat.le_of_ble_eq_true rfl, Nat.le_of_ble_eq_true rfl⟩) ⟨fun a U g mk q => by obtain ⟨q0, q1, qP, qK, qD⟩ := q; exact ⟨q0, q1, qP, va_K.moved (u := U) (U := U.calling g mk a) (Vm.Alike.refl U.vm) qK, qD⟩, va_recv hKc hPc (ci := 9) (q0 := 0) rfl rfl, fun U hU hW => ⟨rfl, by rw [hU], by rw [hU]; exact hPc, va_K.moved hW.alike hKc, hDc.weaken (fun _ _ _ _ => trivial)⟩⟩ rfl rfl hl.1 rfl (lv_room (Nat.le_of_ble_eq_true rfl)) dX9_notice_22 ⟨Nat.le_of_ble_eq_true rfl, Nat.le_of_ble_eq_true rfl⟩) hS (fun q _ h => hFc q h) hFc (fun r_4 u_3 t H1 locs ht hvm hw_4 hB hz1 hk1 hS => ?_)
      obtain ⟨up9_5, wh9_6, pu9_7, pw9_8, hP1, hK1, hD1⟩ := hB
      rw [ht] at hP1
      have hK1 := va_K.moved hvm.symm hK1
      obtain ⟨hP, hD⟩ := va_join (wr := [(a8, .inl (cI, 320, .inl No))]) (w1 := [(h0, .inr (9, [.int th, .ref a1, .ref a2, .ref a3, .ref a4, .ref a5, .int ne, .int wi, .int dn, .ref a6, .ref a7, .int nn, .ref a8, .int la, .ref a9, .ref a10, .long up9_5, .long u_3, .int wh9_6, .long pu9_7, .long pw9_8, .ref a11])), (a1, .inl (cI, 16, .inl Fi)), (a2, .inl (cI, 16, .inl Ma)), (a4, .inl (cZ, 16, .inl Go)), (a5, .inl (cI, 576, .inl Sp))]) hP hD [0, 1, 2, 3, 4] [5] rfl rfl (by decide) (by decide) hk1 hFc hP1 hD1
      have hK := (hK.sub (tys' := [(cI, .int), (cZ, .boolean)]) [0, 1] rfl).app hK1
      generalize H1 = H at hP hS ⊢
      have hP : va_P (dC, dI) vwCl [(a8, .inl (cI, 320, .inl No)), (h0, .inr (9, [.int th, .ref a1, .ref a2, .ref a3, .ref a4, .ref a5, .int ne, .int wi, .int dn, .ref a6, .ref a7, .int nn, .ref a8, .int la, .ref a9, .ref a10, .long up9_5, .long u_3, .int wh9_6, .long pu9_7, .long pw9_8, .ref a11])), (a1, .inl (cI, 16, .inl Fi)), (a2, .inl (cI, 16, .inl Ma)), (a4, .inl (cZ, 16, .inl Go)), (a5, .inl (cI, 576, .inl Sp))] H := hP
      have hD : va_D A [(a8, .inl (cI, 320, .inl No)), (h0, .inr (9, [.int th, .ref a1, .ref a2, .ref a3, .ref a4, .ref a5, .int ne, .int wi, .int dn, .ref a6, .ref a7, .int nn, .ref a8, .int la, .ref a9, .ref a10, .long up9_5, .long u_3, .int wh9_6, .long pu9_7, .long pw9_8, .ref a11])), (a1, .inl (cI, 16, .inl Fi)), (a2, .inl (cI, 16, .inl Ma)), (a4, .inl (cZ, 16, .inl Go)), (a5, .inl (cI, 576, .inl Sp))] := hD
      have hK : va_K (dC, dI) vwCl [(cI, .int), (cZ, .boolean), (cI, .int), (cZ, .boolean)] s := hK
      refine W.widen (k := 0) (n := 0) (by omega) (by omega) ?_
      try dsimp only at hw_4
      refine lv_if_ne (tgt := 31) hx hb dX9_notice_25 (by decide) (fun c_25 => ?_) (fun c_25 => ?_)
      · have t_25 := mt (fa_eq _ _).mpr c_25
        refine lv_aload_n hx hb dX9_notice_31 rfl (lv_at hl 0 rfl) ?_
        refine va_get (D := (dC, dI)) (ci := 9) (v := .int nn) (C := RX9) (T := TX9) (N := 22) hx hb hts in_X9_notice_X9 hown hK hP 1 rfl rfl 11 (by decide) (hts (.fieldLink RX9 115 "MeetingsAboveModel" "notices" "I") (by decide +kernel)) (fun _ h9 => h9) rfl dX9_notice_32 ?_
        refine lv_bipush (v := 40) hx hb dX9_notice_35 (by decide) ?_
        refine lv_icmp_ne (tgt := 43) hx hb dX9_notice_37 (by decide) (fun c_37 => ?_) (fun c_37 => ?_)
        · have t_37 := mt (fa_eq _ _).mpr c_37
          refine lv_iload_n hx hb dX9_notice_43 rfl (lv_at hl 1 rfl) ?_
          refine lv_iload_n hx hb dX9_notice_44 rfl (lv_at hl 2 rfl) ?_
          refine lv_icmp_ge (tgt := 52) hx hb dX9_notice_45 (by decide) (fun c_45 => ?_) (fun c_45 => ?_)
          · have t_45 := (fa_le _ _).mp c_45
            refine lv_iload_n hx hb dX9_notice_52 rfl (lv_at hl 2 rfl) ?_
            refine lv_istore_n (lv' := [(3, .int p2), (0, .ref h0), (1, .int p1), (2, .int p2)]) hx hb dX9_notice_53 rfl hl (by decide) rfl (fun ls hl => ?_)
            refine lv_iload_n hx hb dX9_notice_54 rfl (lv_at hl 2 rfl) ?_
            refine lv_iload_n hx hb dX9_notice_55 rfl (lv_at hl 3 rfl) ?_
            refine lv_icmp_ge (tgt := 63) hx hb dX9_notice_56 (by decide) (fun c_56 => ?_) (fun c_56 => ?_)
            · have t_56 := (fa_le _ _).mp c_56
              refine lv_iload_n hx hb dX9_notice_63 rfl (lv_at hl 2 rfl) ?_
              refine lv_istore (lv' := [(4, .int p1), (3, .int p2), (0, .ref h0), (1, .int p1), (2, .int p2)]) hx hb dX9_notice_64 hl (by decide) rfl (fun ls hl => ?_)
              refine lv_iconst (v := (-1)) hx hb dX9_notice_66 (by decide) ?_
              refine lv_istore (lv' := [(5, .int (-1)), (4, .int p1), (3, .int p2), (0, .ref h0), (1, .int p1), (2, .int p2)]) hx hb dX9_notice_67 hl (by decide) rfl (fun ls hl => ?_)
              refine lv_iconst (v := 0) hx hb dX9_notice_69 (by decide) ?_
              refine lv_istore (lv' := [(6, .int 0), (5, .int (-1)), (4, .int p1), (3, .int p2), (0, .ref h0), (1, .int p1), (2, .int p2)]) hx hb dX9_notice_70 hl (by decide) rfl (fun ls hl => ?_)
              refine (show ∀ (k : Nat) (b5 : Int32) (k6 : Int32) (hk0 : 0 ≤ k6.toInt) (hk1 : k6.toInt ≤ nn.toInt) (hb0 : -1 ≤ b5.toInt) (hb1 : b5.toInt < nn.toInt ∨ b5.toInt = -1) (hk_72 : (nn.toInt - k6.toInt).toNat < k) (H : Heap) (locs : List Loc) (hP : va_P (dC, dI) vwCl [(a8, .inl (cI, 320, .inl No)), (h0, .inr (9, [.int th, .ref a1, .ref a2, .ref a3, .ref a4, .ref a5, .int ne, .int wi, .int dn, .ref a6, .ref a7, .int nn, .ref a8, .int la, .ref a9, .ref a10, .long up9_5, .long u_3, .int wh9_6, .long pu9_7, .long pw9_8, .ref a11])), (a1, .inl (cI, 16, .inl Fi)), (a2, .inl (cI, 16, .inl Ma)), (a4, .inl (cZ, 16, .inl Go)), (a5, .inl (cI, 576, .inl Sp))] H) (hD : va_D A [(a8, .inl (cI, 320, .inl No)), (h0, .inr (9, [.int th, .ref a1, .ref a2, .ref a3, .ref a4, .ref a5, .int ne, .int wi, .int dn, .ref a6, .ref a7, .int nn, .ref a8, .int la, .ref a9, .ref a10, .long up9_5, .long u_3, .int wh9_6, .long pu9_7, .long pw9_8, .ref a11])), (a1, .inl (cI, 16, .inl Fi)), (a2, .inl (cI, 16, .inl Ma)), (a4, .inl (cZ, 16, .inl Go)), (a5, .inl (cI, 576, .inl Sp))]) (hS : va_S A s.heap H locs) (ls : Array Slot) (hl : lv_has ls 7 [(0, .ref h0), (1, .int p1), (2, .int p2), (3, .int p2), (4, .int p1), (5, .int b5), (6, .int k6)]), W p l e _ s m _ below meth c H locs 0 0 _ (F0 m 72 ls []) from ?_) _ (-1) 0 (by omega) (by omega) (by omega) (by omega) (Nat.lt_succ_self _) H _ hP hD hS ls (lv_sub hl [4, 5, 6, 3, 2, 1, 0] rfl)
              intro k
              induction k with
              | zero => intro b5 k6 hk0 hk1 hb0 hb1 hk_72; exact absurd hk_72 (Nat.not_lt_zero _)
              | succ k ih_72 =>
                intro b5 k6 hk0 hk1 hb0 hb1 hk_72 H locs hP hD hS ls hl
                refine lv_iload hx hb dX9_notice_72 (lv_at hl 6 rfl) ?_
                refine lv_aload_n hx hb dX9_notice_74 rfl (lv_at hl 0 rfl) ?_
                refine va_get (D := (dC, dI)) (ci := 9) (v := .int nn) (C := RX9) (T := TX9) (N := 22) hx hb hts in_X9_notice_X9 hown hK hP 1 rfl rfl 11 (by decide) (hts (.fieldLink RX9 115 "MeetingsAboveModel" "notices" "I") (by decide +kernel)) (fun _ h9 => h9) rfl dX9_notice_75 ?_
                refine lv_icmp_ge (tgt := 127) hx hb dX9_notice_78 (by decide) (fun c_78 => ?_) (fun c_78 => ?_)
                · have t_78 := (fa_le _ _).mp c_78
                  refine lv_aload_n hx hb dX9_notice_127 rfl (lv_at hl 0 rfl) ?_
                  refine va_get (D := (dC, dI)) (ci := 9) (v := .int nn) (C := RX9) (T := TX9) (N := 22) hx hb hts in_X9_notice_X9 hown hK hP 1 rfl rfl 11 (by decide) (hts (.fieldLink RX9 115 "MeetingsAboveModel" "notices" "I") (by decide +kernel)) (fun _ h9 => h9) rfl dX9_notice_128 ?_
                  refine lv_istore (lv' := [(6, .int nn), (0, .ref h0), (1, .int p1), (2, .int p2), (3, .int p2), (4, .int p1), (5, .int b5)]) hx hb dX9_notice_131 hl (by decide) rfl (fun ls hl => ?_)
                  refine lv_aload_n hx hb dX9_notice_133 rfl (lv_at hl 1 rfl) ?_
                  refine va_get (D := (dC, dI)) (ci := 9) (v := .ref a8) (C := RX9) (T := TX9) (N := 22) hx hb hts in_X9_notice_X9 hown hK hP 1 rfl rfl 12 (by decide) (hts (.fieldLink RX9 39 "MeetingsAboveModel" "noted" "[I") (by decide +kernel)) (fun _ h9 => h9) rfl dX9_notice_134 ?_
                  refine lv_bipush (v := 8) hx hb dX9_notice_137 (by decide) ?_
                  refine lv_iload hx hb dX9_notice_139 (lv_at hl 0 rfl) ?_
                  refine lv_imul hx hb dX9_notice_141 ?_
                  refine lv_topi (fun y_9 ey_9 => ?_)
                  have ty_9 : y_9.toInt = 8 * nn.toInt := by rw [ey_9]; exact fm_lI kl_8 (by omega) (by omega)
                  refine lv_iload_n hx hb dX9_notice_142 rfl (lv_at hl 4 rfl) ?_
                  refine va_iast hx hb hK hP hD hS 0 0 rfl rfl (vp_in_iff.mpr ⟨by omega, by omega⟩) dX9_notice_143 (fun H locs hP hD hS => ?_)
                  have hP : va_P (dC, dI) vwCl [(a8, .inl (cI, 320, .inl (upd No (y_9 : Int32).toNatClampNeg p2))), (h0, .inr (9, [.int th, .ref a1, .ref a2, .ref a3, .ref a4, .ref a5, .int ne, .int wi, .int dn, .ref a6, .ref a7, .int nn, .ref a8, .int la, .ref a9, .ref a10, .long up9_5, .long u_3, .int wh9_6, .long pu9_7, .long pw9_8, .ref a11])), (a1, .inl (cI, 16, .inl Fi)), (a2, .inl (cI, 16, .inl Ma)), (a4, .inl (cZ, 16, .inl Go)), (a5, .inl (cI, 576, .inl Sp))] H := hP
                  have hD : va_D A [(a8, .inl (cI, 320, .inl (upd No (y_9 : Int32).toNatClampNeg p2))), (h0, .inr (9, [.int th, .ref a1, .ref a2, .ref a3, .ref a4, .ref a5, .int ne, .int wi, .int dn, .ref a6, .ref a7, .int nn, .ref a8, .int la, .ref a9, .ref a10, .long up9_5, .long u_3, .int wh9_6, .long pu9_7, .long pw9_8, .ref a11])), (a1, .inl (cI, 16, .inl Fi)), (a2, .inl (cI, 16, .inl Ma)), (a4, .inl (cZ, 16, .inl Go)), (a5, .inl (cI, 576, .inl Sp))] := hD
                  refine lv_aload_n hx hb dX9_notice_144 rfl (lv_at hl 1 rfl) ?_
                  refine va_get (D := (dC, dI)) (ci := 9) (v := .ref a8) (C := RX9) (T := TX9) (N := 22) hx hb hts in_X9_notice_X9 hown hK hP 1 rfl rfl 12 (by decide) (hts (.fieldLink RX9 39 "MeetingsAboveModel" "noted" "[I") (by decide +kernel)) (fun _ h9 => h9) rfl dX9_notice_145 ?_
                  refine lv_bipush (v := 8) hx hb dX9_notice_148 (by decide) ?_
                  refine lv_iload hx hb dX9_notice_150 (lv_at hl 0 rfl) ?_
                  refine lv_imul hx hb dX9_notice_152 ?_
                  refine lv_topi (fun y_10 ey_10 => ?_)
                  have ty_10 : y_10.toInt = 8 * nn.toInt := by rw [ey_10]; exact fm_lI kl_8 (by omega) (by omega)
                  refine lv_iconst (v := 1) hx hb dX9_notice_153 (by decide) ?_
                  refine lv_iadd hx hb dX9_notice_154 ?_
                  refine lv_topi (fun y_11 ey_11 => ?_)
                  have ty_11 : y_11.toInt = y_10.toInt + 1 := by rw [ey_11]; have := fb_addI (x := y_10) (y := 1) (by omega) (by omega); omega
                  refine lv_iload hx hb dX9_notice_155 (lv_at hl 5 rfl) ?_
                  refine va_iast hx hb hK hP hD hS 0 0 rfl rfl (vp_in_iff.mpr ⟨by omega, by omega⟩) dX9_notice_157 (fun H locs hP hD hS => ?_)
                  have hP : va_P (dC, dI) vwCl [(a8, .inl (cI, 320, .inl (upd (upd No (y_9 : Int32).toNatClampNeg p2) (y_11 : Int32).toNatClampNeg p1))), (h0, .inr (9, [.int th, .ref a1, .ref a2, .ref a3, .ref a4, .ref a5, .int ne, .int wi, .int dn, .ref a6, .ref a7, .int nn, .ref a8, .int la, .ref a9, .ref a10, .long up9_5, .long u_3, .int wh9_6, .long pu9_7, .long pw9_8, .ref a11])), (a1, .inl (cI, 16, .inl Fi)), (a2, .inl (cI, 16, .inl Ma)), (a4, .inl (cZ, 16, .inl Go)), (a5, .inl (cI, 576, .inl Sp))] H := hP
                  have hD : va_D A [(a8, .inl (cI, 320, .inl (upd (upd No (y_9 : Int32).toNatClampNeg p2) (y_11 : Int32).toNatClampNeg p1))), (h0, .inr (9, [.int th, .ref a1, .ref a2, .ref a3, .ref a4, .ref a5, .int ne, .int wi, .int dn, .ref a6, .ref a7, .int nn, .ref a8, .int la, .ref a9, .ref a10, .long up9_5, .long u_3, .int wh9_6, .long pu9_7, .long pw9_8, .ref a11])), (a1, .inl (cI, 16, .inl Fi)), (a2, .inl (cI, 16, .inl Ma)), (a4, .inl (cZ, 16, .inl Go)), (a5, .inl (cI, 576, .inl Sp))] := hD
                  refine lv_aload_n hx hb dX9_notice_158 rfl (lv_at hl 1 rfl) ?_
                  refine va_get (D := (dC, dI)) (ci := 9) (v := .ref a8) (C := RX9) (T := TX9) (N := 22) hx hb hts in_X9_notice_X9 hown hK hP 1 rfl rfl 12 (by decide) (hts (.fieldLink RX9 39 "MeetingsAboveModel" "noted" "[I") (by decide +kernel)) (fun _ h9 => h9) rfl dX9_notice_159 ?_
                  refine lv_bipush (v := 8) hx hb dX9_notice_162 (by decide) ?_
                  refine lv_iload hx hb dX9_notice_164 (lv_at hl 0 rfl) ?_
                  refine lv_imul hx hb dX9_notice_166 ?_
                  refine lv_topi (fun y_12 ey_12 => ?_)
                  have ty_12 : y_12.toInt = 8 * nn.toInt := by rw [ey_12]; exact fm_lI kl_8 (by omega) (by omega)
                  refine lv_iconst (v := 2) hx hb dX9_notice_167 (by decide) ?_
                  refine lv_iadd hx hb dX9_notice_168 ?_
                  refine lv_topi (fun y_13 ey_13 => ?_)
                  have ty_13 : y_13.toInt = y_12.toInt + 2 := by rw [ey_13]; have := fb_addI (x := y_12) (y := 2) (by omega) (by omega); omega
                  refine lv_aload_n hx hb dX9_notice_169 rfl (lv_at hl 1 rfl) ?_
                  refine va_get (D := (dC, dI)) (ci := 9) (v := .long up9_5) (C := RX9) (T := TX9) (N := 22) hx hb hts in_X9_notice_X9 hown hK hP 1 rfl rfl 16 (by decide) (hts (.fieldLink RX9 121 "MeetingsAboveModel" "upper" "J") (by decide +kernel)) (fun _ h9 => h9) rfl dX9_notice_170 ?_
                  refine lv_aload_n hx hb dX9_notice_173 rfl (lv_at hl 1 rfl) ?_
                  refine va_get (D := (dC, dI)) (ci := 9) (v := .long u_3) (C := RX9) (T := TX9) (N := 22) hx hb hts in_X9_notice_X9 hown hK hP 1 rfl rfl 17 (by decide) (hts (.fieldLink RX9 125 "MeetingsAboveModel" "lower" "J") (by decide +kernel)) (fun _ h9 => h9) rfl dX9_notice_174 ?_
                  refine lv_ldiv hx hb dX9_notice_177 (fun h9 => by have h8 := hw_4 (by omega); rw [h9, klL_0] at h8; omega) ?_
                  refine lv_topl (fun y_14 ey_14 => ?_)
                  refine lv_l2i hx hb dX9_notice_178 rfl ?_
                  refine lv_topi (fun y_15 ey_15 => ?_)
                  refine va_iast hx hb hK hP hD hS 0 0 rfl rfl (vp_in_iff.mpr ⟨by omega, by omega⟩) dX9_notice_179 (fun H locs hP hD hS => ?_)
                  have hP : va_P (dC, dI) vwCl [(a8, .inl (cI, 320, .inl (upd (upd (upd No (y_9 : Int32).toNatClampNeg p2) (y_11 : Int32).toNatClampNeg p1) (y_13 : Int32).toNatClampNeg y_15))), (h0, .inr (9, [.int th, .ref a1, .ref a2, .ref a3, .ref a4, .ref a5, .int ne, .int wi, .int dn, .ref a6, .ref a7, .int nn, .ref a8, .int la, .ref a9, .ref a10, .long up9_5, .long u_3, .int wh9_6, .long pu9_7, .long pw9_8, .ref a11])), (a1, .inl (cI, 16, .inl Fi)), (a2, .inl (cI, 16, .inl Ma)), (a4, .inl (cZ, 16, .inl Go)), (a5, .inl (cI, 576, .inl Sp))] H := hP
                  have hD : va_D A [(a8, .inl (cI, 320, .inl (upd (upd (upd No (y_9 : Int32).toNatClampNeg p2) (y_11 : Int32).toNatClampNeg p1) (y_13 : Int32).toNatClampNeg y_15))), (h0, .inr (9, [.int th, .ref a1, .ref a2, .ref a3, .ref a4, .ref a5, .int ne, .int wi, .int dn, .ref a6, .ref a7, .int nn, .ref a8, .int la, .ref a9, .ref a10, .long up9_5, .long u_3, .int wh9_6, .long pu9_7, .long pw9_8, .ref a11])), (a1, .inl (cI, 16, .inl Fi)), (a2, .inl (cI, 16, .inl Ma)), (a4, .inl (cZ, 16, .inl Go)), (a5, .inl (cI, 576, .inl Sp))] := hD
                  refine lv_aload_n hx hb dX9_notice_180 rfl (lv_at hl 1 rfl) ?_
                  refine va_get (D := (dC, dI)) (ci := 9) (v := .ref a8) (C := RX9) (T := TX9) (N := 22) hx hb hts in_X9_notice_X9 hown hK hP 1 rfl rfl 12 (by decide) (hts (.fieldLink RX9 39 "MeetingsAboveModel" "noted" "[I") (by decide +kernel)) (fun _ h9 => h9) rfl dX9_notice_181 ?_
                  refine lv_bipush (v := 8) hx hb dX9_notice_184 (by decide) ?_
                  refine lv_iload hx hb dX9_notice_186 (lv_at hl 0 rfl) ?_
                  refine lv_imul hx hb dX9_notice_188 ?_
                  refine lv_topi (fun y_16 ey_16 => ?_)
                  have ty_16 : y_16.toInt = 8 * nn.toInt := by rw [ey_16]; exact fm_lI kl_8 (by omega) (by omega)
                  refine lv_iconst (v := 3) hx hb dX9_notice_189 (by decide) ?_
                  refine lv_iadd hx hb dX9_notice_190 ?_
                  refine lv_topi (fun y_17 ey_17 => ?_)
                  have ty_17 : y_17.toInt = y_16.toInt + 3 := by rw [ey_17]; have := fb_addI (x := y_16) (y := 3) (by omega) (by omega); omega
                  refine lv_aload_n hx hb dX9_notice_191 rfl (lv_at hl 1 rfl) ?_
                  refine va_get (D := (dC, dI)) (ci := 9) (v := .int wh9_6) (C := RX9) (T := TX9) (N := 22) hx hb hts in_X9_notice_X9 hown hK hP 1 rfl rfl 18 (by decide) (hts (.fieldLink RX9 128 "MeetingsAboveModel" "when" "I") (by decide +kernel)) (fun _ h9 => h9) rfl dX9_notice_192 ?_
                  refine va_iast hx hb hK hP hD hS 0 0 rfl rfl (vp_in_iff.mpr ⟨by omega, by omega⟩) dX9_notice_195 (fun H locs hP hD hS => ?_)
                  have hP : va_P (dC, dI) vwCl [(a8, .inl (cI, 320, .inl (upd (upd (upd (upd No (y_9 : Int32).toNatClampNeg p2) (y_11 : Int32).toNatClampNeg p1) (y_13 : Int32).toNatClampNeg y_15) (y_17 : Int32).toNatClampNeg wh9_6))), (h0, .inr (9, [.int th, .ref a1, .ref a2, .ref a3, .ref a4, .ref a5, .int ne, .int wi, .int dn, .ref a6, .ref a7, .int nn, .ref a8, .int la, .ref a9, .ref a10, .long up9_5, .long u_3, .int wh9_6, .long pu9_7, .long pw9_8, .ref a11])), (a1, .inl (cI, 16, .inl Fi)), (a2, .inl (cI, 16, .inl Ma)), (a4, .inl (cZ, 16, .inl Go)), (a5, .inl (cI, 576, .inl Sp))] H := hP
                  have hD : va_D A [(a8, .inl (cI, 320, .inl (upd (upd (upd (upd No (y_9 : Int32).toNatClampNeg p2) (y_11 : Int32).toNatClampNeg p1) (y_13 : Int32).toNatClampNeg y_15) (y_17 : Int32).toNatClampNeg wh9_6))), (h0, .inr (9, [.int th, .ref a1, .ref a2, .ref a3, .ref a4, .ref a5, .int ne, .int wi, .int dn, .ref a6, .ref a7, .int nn, .ref a8, .int la, .ref a9, .ref a10, .long up9_5, .long u_3, .int wh9_6, .long pu9_7, .long pw9_8, .ref a11])), (a1, .inl (cI, 16, .inl Fi)), (a2, .inl (cI, 16, .inl Ma)), (a4, .inl (cZ, 16, .inl Go)), (a5, .inl (cI, 576, .inl Sp))] := hD
                  refine lv_aload_n hx hb dX9_notice_196 rfl (lv_at hl 1 rfl) ?_
                  refine va_get (D := (dC, dI)) (ci := 9) (v := .ref a8) (C := RX9) (T := TX9) (N := 22) hx hb hts in_X9_notice_X9 hown hK hP 1 rfl rfl 12 (by decide) (hts (.fieldLink RX9 39 "MeetingsAboveModel" "noted" "[I") (by decide +kernel)) (fun _ h9 => h9) rfl dX9_notice_197 ?_
                  refine lv_bipush (v := 8) hx hb dX9_notice_200 (by decide) ?_
                  refine lv_iload hx hb dX9_notice_202 (lv_at hl 0 rfl) ?_
                  refine lv_imul hx hb dX9_notice_204 ?_
                  refine lv_topi (fun y_18 ey_18 => ?_)
                  have ty_18 : y_18.toInt = 8 * nn.toInt := by rw [ey_18]; exact fm_lI kl_8 (by omega) (by omega)
                  refine lv_iconst (v := 4) hx hb dX9_notice_205 (by decide) ?_
                  refine lv_iadd hx hb dX9_notice_206 ?_
                  refine lv_topi (fun y_19 ey_19 => ?_)
                  have ty_19 : y_19.toInt = y_18.toInt + 4 := by rw [ey_19]; have := fb_addI (x := y_18) (y := 4) (by omega) (by omega); omega
                  refine lv_iload hx hb dX9_notice_207 (lv_at hl 6 rfl) ?_
                  refine va_iast hx hb hK hP hD hS 0 0 rfl rfl (vp_in_iff.mpr ⟨by omega, by omega⟩) dX9_notice_209 (fun H locs hP hD hS => ?_)
                  have hP : va_P (dC, dI) vwCl [(a8, .inl (cI, 320, .inl (upd (upd (upd (upd (upd No (y_9 : Int32).toNatClampNeg p2) (y_11 : Int32).toNatClampNeg p1) (y_13 : Int32).toNatClampNeg y_15) (y_17 : Int32).toNatClampNeg wh9_6) (y_19 : Int32).toNatClampNeg b5))), (h0, .inr (9, [.int th, .ref a1, .ref a2, .ref a3, .ref a4, .ref a5, .int ne, .int wi, .int dn, .ref a6, .ref a7, .int nn, .ref a8, .int la, .ref a9, .ref a10, .long up9_5, .long u_3, .int wh9_6, .long pu9_7, .long pw9_8, .ref a11])), (a1, .inl (cI, 16, .inl Fi)), (a2, .inl (cI, 16, .inl Ma)), (a4, .inl (cZ, 16, .inl Go)), (a5, .inl (cI, 576, .inl Sp))] H := hP
                  have hD : va_D A [(a8, .inl (cI, 320, .inl (upd (upd (upd (upd (upd No (y_9 : Int32).toNatClampNeg p2) (y_11 : Int32).toNatClampNeg p1) (y_13 : Int32).toNatClampNeg y_15) (y_17 : Int32).toNatClampNeg wh9_6) (y_19 : Int32).toNatClampNeg b5))), (h0, .inr (9, [.int th, .ref a1, .ref a2, .ref a3, .ref a4, .ref a5, .int ne, .int wi, .int dn, .ref a6, .ref a7, .int nn, .ref a8, .int la, .ref a9, .ref a10, .long up9_5, .long u_3, .int wh9_6, .long pu9_7, .long pw9_8, .ref a11])), (a1, .inl (cI, 16, .inl Fi)), (a2, .inl (cI, 16, .inl Ma)), (a4, .inl (cZ, 16, .inl Go)), (a5, .inl (cI, 576, .inl Sp))] := hD
                  refine lv_aload_n hx hb dX9_notice_210 rfl (lv_at hl 1 rfl) ?_
                  refine va_get (D := (dC, dI)) (ci := 9) (v := .ref a8) (C := RX9) (T := TX9) (N := 22) hx hb hts in_X9_notice_X9 hown hK hP 1 rfl rfl 12 (by decide) (hts (.fieldLink RX9 39 "MeetingsAboveModel" "noted" "[I") (by decide +kernel)) (fun _ h9 => h9) rfl dX9_notice_211 ?_
                  refine lv_bipush (v := 8) hx hb dX9_notice_214 (by decide) ?_
                  refine lv_iload hx hb dX9_notice_216 (lv_at hl 0 rfl) ?_
                  refine lv_imul hx hb dX9_notice_218 ?_
                  refine lv_topi (fun y_20 ey_20 => ?_)
                  have ty_20 : y_20.toInt = 8 * nn.toInt := by rw [ey_20]; exact fm_lI kl_8 (by omega) (by omega)
                  refine lv_iconst (v := 5) hx hb dX9_notice_219 (by decide) ?_
                  refine lv_iadd hx hb dX9_notice_220 ?_
                  refine lv_topi (fun y_21 ey_21 => ?_)
                  have ty_21 : y_21.toInt = y_20.toInt + 5 := by rw [ey_21]; have := fb_addI (x := y_20) (y := 5) (by omega) (by omega); omega
                  refine lv_iconst (v := 1) hx hb dX9_notice_221 (by decide) ?_
                  refine va_iast hx hb hK hP hD hS 0 0 rfl rfl (vp_in_iff.mpr ⟨by omega, by omega⟩) dX9_notice_222 (fun H locs hP hD hS => ?_)
                  have hP : va_P (dC, dI) vwCl [(a8, .inl (cI, 320, .inl (upd (upd (upd (upd (upd (upd No (y_9 : Int32).toNatClampNeg p2) (y_11 : Int32).toNatClampNeg p1) (y_13 : Int32).toNatClampNeg y_15) (y_17 : Int32).toNatClampNeg wh9_6) (y_19 : Int32).toNatClampNeg b5) (y_21 : Int32).toNatClampNeg 1))), (h0, .inr (9, [.int th, .ref a1, .ref a2, .ref a3, .ref a4, .ref a5, .int ne, .int wi, .int dn, .ref a6, .ref a7, .int nn, .ref a8, .int la, .ref a9, .ref a10, .long up9_5, .long u_3, .int wh9_6, .long pu9_7, .long pw9_8, .ref a11])), (a1, .inl (cI, 16, .inl Fi)), (a2, .inl (cI, 16, .inl Ma)), (a4, .inl (cZ, 16, .inl Go)), (a5, .inl (cI, 576, .inl Sp))] H := hP
                  have hD : va_D A [(a8, .inl (cI, 320, .inl (upd (upd (upd (upd (upd (upd No (y_9 : Int32).toNatClampNeg p2) (y_11 : Int32).toNatClampNeg p1) (y_13 : Int32).toNatClampNeg y_15) (y_17 : Int32).toNatClampNeg wh9_6) (y_19 : Int32).toNatClampNeg b5) (y_21 : Int32).toNatClampNeg 1))), (h0, .inr (9, [.int th, .ref a1, .ref a2, .ref a3, .ref a4, .ref a5, .int ne, .int wi, .int dn, .ref a6, .ref a7, .int nn, .ref a8, .int la, .ref a9, .ref a10, .long up9_5, .long u_3, .int wh9_6, .long pu9_7, .long pw9_8, .ref a11])), (a1, .inl (cI, 16, .inl Fi)), (a2, .inl (cI, 16, .inl Ma)), (a4, .inl (cZ, 16, .inl Go)), (a5, .inl (cI, 576, .inl Sp))] := hD
                  refine lv_aload_n hx hb dX9_notice_223 rfl (lv_at hl 1 rfl) ?_
                  refine va_get (D := (dC, dI)) (ci := 9) (v := .ref a8) (C := RX9) (T := TX9) (N := 22) hx hb hts in_X9_notice_X9 hown hK hP 1 rfl rfl 12 (by decide) (hts (.fieldLink RX9 39 "MeetingsAboveModel" "noted" "[I") (by decide +kernel)) (fun _ h9 => h9) rfl dX9_notice_224 ?_
                  refine lv_bipush (v := 8) hx hb dX9_notice_227 (by decide) ?_
                  refine lv_iload hx hb dX9_notice_229 (lv_at hl 0 rfl) ?_
                  refine lv_imul hx hb dX9_notice_231 ?_
                  refine lv_topi (fun y_22 ey_22 => ?_)
                  have ty_22 : y_22.toInt = 8 * nn.toInt := by rw [ey_22]; exact fm_lI kl_8 (by omega) (by omega)
                  refine lv_bipush (v := 6) hx hb dX9_notice_232 (by decide) ?_
                  refine lv_iadd hx hb dX9_notice_234 ?_
                  refine lv_topi (fun y_23 ey_23 => ?_)
                  have ty_23 : y_23.toInt = y_22.toInt + 6 := by rw [ey_23]; have := fb_addI (x := y_22) (y := 6) (by omega) (by omega); omega
                  refine lv_iconst (v := 0) hx hb dX9_notice_235 (by decide) ?_
                  refine va_iast hx hb hK hP hD hS 0 0 rfl rfl (vp_in_iff.mpr ⟨by omega, by omega⟩) dX9_notice_236 (fun H locs hP hD hS => ?_)
                  have hP : va_P (dC, dI) vwCl [(a8, .inl (cI, 320, .inl (upd (upd (upd (upd (upd (upd (upd No (y_9 : Int32).toNatClampNeg p2) (y_11 : Int32).toNatClampNeg p1) (y_13 : Int32).toNatClampNeg y_15) (y_17 : Int32).toNatClampNeg wh9_6) (y_19 : Int32).toNatClampNeg b5) (y_21 : Int32).toNatClampNeg 1) (y_23 : Int32).toNatClampNeg 0))), (h0, .inr (9, [.int th, .ref a1, .ref a2, .ref a3, .ref a4, .ref a5, .int ne, .int wi, .int dn, .ref a6, .ref a7, .int nn, .ref a8, .int la, .ref a9, .ref a10, .long up9_5, .long u_3, .int wh9_6, .long pu9_7, .long pw9_8, .ref a11])), (a1, .inl (cI, 16, .inl Fi)), (a2, .inl (cI, 16, .inl Ma)), (a4, .inl (cZ, 16, .inl Go)), (a5, .inl (cI, 576, .inl Sp))] H := hP
                  have hD : va_D A [(a8, .inl (cI, 320, .inl (upd (upd (upd (upd (upd (upd (upd No (y_9 : Int32).toNatClampNeg p2) (y_11 : Int32).toNatClampNeg p1) (y_13 : Int32).toNatClampNeg y_15) (y_17 : Int32).toNatClampNeg wh9_6) (y_19 : Int32).toNatClampNeg b5) (y_21 : Int32).toNatClampNeg 1) (y_23 : Int32).toNatClampNeg 0))), (h0, .inr (9, [.int th, .ref a1, .ref a2, .ref a3, .ref a4, .ref a5, .int ne, .int wi, .int dn, .ref a6, .ref a7, .int nn, .ref a8, .int la, .ref a9, .ref a10, .long up9_5, .long u_3, .int wh9_6, .long pu9_7, .long pw9_8, .ref a11])), (a1, .inl (cI, 16, .inl Fi)), (a2, .inl (cI, 16, .inl Ma)), (a4, .inl (cZ, 16, .inl Go)), (a5, .inl (cI, 576, .inl Sp))] := hD
                  refine lv_aload_n hx hb dX9_notice_237 rfl (lv_at hl 1 rfl) ?_
                  refine va_get (D := (dC, dI)) (ci := 9) (v := .ref a8) (C := RX9) (T := TX9) (N := 22) hx hb hts in_X9_notice_X9 hown hK hP 1 rfl rfl 12 (by decide) (hts (.fieldLink RX9 39 "MeetingsAboveModel" "noted" "[I") (by decide +kernel)) (fun _ h9 => h9) rfl dX9_notice_238 ?_
                  refine lv_bipush (v := 8) hx hb dX9_notice_241 (by decide) ?_
                  refine lv_iload hx hb dX9_notice_243 (lv_at hl 0 rfl) ?_
                  refine lv_imul hx hb dX9_notice_245 ?_
                  refine lv_topi (fun y_24 ey_24 => ?_)
                  have ty_24 : y_24.toInt = 8 * nn.toInt := by rw [ey_24]; exact fm_lI kl_8 (by omega) (by omega)
                  refine lv_bipush (v := 7) hx hb dX9_notice_246 (by decide) ?_
                  refine lv_iadd hx hb dX9_notice_248 ?_
                  refine lv_topi (fun y_25 ey_25 => ?_)
                  have ty_25 : y_25.toInt = y_24.toInt + 7 := by rw [ey_25]; have := fb_addI (x := y_24) (y := 7) (by omega) (by omega); omega
                  refine lv_iconst (v := 0) hx hb dX9_notice_249 (by decide) ?_
                  refine va_iast hx hb hK hP hD hS 0 0 rfl rfl (vp_in_iff.mpr ⟨by omega, by omega⟩) dX9_notice_250 (fun H locs hP hD hS => ?_)
                  have hP : va_P (dC, dI) vwCl [(a8, .inl (cI, 320, .inl (upd (upd (upd (upd (upd (upd (upd (upd No (y_9 : Int32).toNatClampNeg p2) (y_11 : Int32).toNatClampNeg p1) (y_13 : Int32).toNatClampNeg y_15) (y_17 : Int32).toNatClampNeg wh9_6) (y_19 : Int32).toNatClampNeg b5) (y_21 : Int32).toNatClampNeg 1) (y_23 : Int32).toNatClampNeg 0) (y_25 : Int32).toNatClampNeg 0))), (h0, .inr (9, [.int th, .ref a1, .ref a2, .ref a3, .ref a4, .ref a5, .int ne, .int wi, .int dn, .ref a6, .ref a7, .int nn, .ref a8, .int la, .ref a9, .ref a10, .long up9_5, .long u_3, .int wh9_6, .long pu9_7, .long pw9_8, .ref a11])), (a1, .inl (cI, 16, .inl Fi)), (a2, .inl (cI, 16, .inl Ma)), (a4, .inl (cZ, 16, .inl Go)), (a5, .inl (cI, 576, .inl Sp))] H := hP
                  have hD : va_D A [(a8, .inl (cI, 320, .inl (upd (upd (upd (upd (upd (upd (upd (upd No (y_9 : Int32).toNatClampNeg p2) (y_11 : Int32).toNatClampNeg p1) (y_13 : Int32).toNatClampNeg y_15) (y_17 : Int32).toNatClampNeg wh9_6) (y_19 : Int32).toNatClampNeg b5) (y_21 : Int32).toNatClampNeg 1) (y_23 : Int32).toNatClampNeg 0) (y_25 : Int32).toNatClampNeg 0))), (h0, .inr (9, [.int th, .ref a1, .ref a2, .ref a3, .ref a4, .ref a5, .int ne, .int wi, .int dn, .ref a6, .ref a7, .int nn, .ref a8, .int la, .ref a9, .ref a10, .long up9_5, .long u_3, .int wh9_6, .long pu9_7, .long pw9_8, .ref a11])), (a1, .inl (cI, 16, .inl Fi)), (a2, .inl (cI, 16, .inl Ma)), (a4, .inl (cZ, 16, .inl Go)), (a5, .inl (cI, 576, .inl Sp))] := hD
                  refine lv_iload hx hb dX9_notice_251 (lv_at hl 6 rfl) ?_
                  refine lv_if_lt (tgt := 269) hx hb dX9_notice_253 (by decide) (fun c_253 => ?_) (fun c_253 => ?_)
                  · have t_253 := (fa_lt _ _).mp c_253
                    refine lv_aload_n hx hb dX9_notice_269 rfl (lv_at hl 1 rfl) ?_
                    refine lv_dup hx hb dX9_notice_270 rfl ?_
                    refine va_get (D := (dC, dI)) (ci := 9) (v := .int nn) (C := RX9) (T := TX9) (N := 22) hx hb hts in_X9_notice_X9 hown hK hP 1 rfl rfl 11 (by decide) (hts (.fieldLink RX9 115 "MeetingsAboveModel" "notices" "I") (by decide +kernel)) (fun _ h9 => h9) rfl dX9_notice_271 ?_
                    refine lv_iconst (v := 1) hx hb dX9_notice_274 (by decide) ?_
                    refine lv_iadd hx hb dX9_notice_275 ?_
                    refine lv_topi (fun y_26 ey_26 => ?_)
                    have ty_26 : y_26.toInt = nn.toInt + 1 := by rw [ey_26]; have := fb_addI (x := nn) (y := 1) (by omega) (by omega); omega
                    refine va_put (D := (dC, dI)) (ci := 9) (v := .int y_26) (ty := .int) (C := RX9) (T := TX9) (N := 22) hx hb hts in_X9_notice_X9 tyX9 tyX9_ok nmX9 hown hK hP hD hS 1 rfl rfl 11 (by decide) (hts (.fieldLink RX9 115 "MeetingsAboveModel" "notices" "I") (by decide +kernel)) (fun _ h9 => h9) rfl (by decide +kernel) rfl rfl (Nat.le_of_ble_eq_true rfl) dX9_notice_276 (fun H locs hP hD hS => ?_)
                    have hP : va_P (dC, dI) vwCl [(a8, .inl (cI, 320, .inl (upd (upd (upd (upd (upd (upd (upd (upd No (y_9 : Int32).toNatClampNeg p2) (y_11 : Int32).toNatClampNeg p1) (y_13 : Int32).toNatClampNeg y_15) (y_17 : Int32).toNatClampNeg wh9_6) (y_19 : Int32).toNatClampNeg b5) (y_21 : Int32).toNatClampNeg 1) (y_23 : Int32).toNatClampNeg 0) (y_25 : Int32).toNatClampNeg 0))), (h0, .inr (9, [.int th, .ref a1, .ref a2, .ref a3, .ref a4, .ref a5, .int ne, .int wi, .int dn, .ref a6, .ref a7, .int y_26, .ref a8, .int la, .ref a9, .ref a10, .long up9_5, .long u_3, .int wh9_6, .long pu9_7, .long pw9_8, .ref a11])), (a1, .inl (cI, 16, .inl Fi)), (a2, .inl (cI, 16, .inl Ma)), (a4, .inl (cZ, 16, .inl Go)), (a5, .inl (cI, 576, .inl Sp))] H := hP
                    have hD : va_D A [(a8, .inl (cI, 320, .inl (upd (upd (upd (upd (upd (upd (upd (upd No (y_9 : Int32).toNatClampNeg p2) (y_11 : Int32).toNatClampNeg p1) (y_13 : Int32).toNatClampNeg y_15) (y_17 : Int32).toNatClampNeg wh9_6) (y_19 : Int32).toNatClampNeg b5) (y_21 : Int32).toNatClampNeg 1) (y_23 : Int32).toNatClampNeg 0) (y_25 : Int32).toNatClampNeg 0))), (h0, .inr (9, [.int th, .ref a1, .ref a2, .ref a3, .ref a4, .ref a5, .int ne, .int wi, .int dn, .ref a6, .ref a7, .int y_26, .ref a8, .int la, .ref a9, .ref a10, .long up9_5, .long u_3, .int wh9_6, .long pu9_7, .long pw9_8, .ref a11])), (a1, .inl (cI, 16, .inl Fi)), (a2, .inl (cI, 16, .inl Ma)), (a4, .inl (cZ, 16, .inl Go)), (a5, .inl (cI, 576, .inl Sp))] := hD
                    refine lv_iload hx hb dX9_notice_279 (lv_at hl 0 rfl) ?_
                    have hP9 := hP.sub (ws' := [(h0, .inr (9, [.int th, .ref a1, .ref a2, .ref a3, .ref a4, .ref a5, .int ne, .int wi, .int dn, .ref a6, .ref a7, .int y_26, .ref a8, .int la, .ref a9, .ref a10, .long up9_5, .long u_3, .int wh9_6, .long pu9_7, .long pw9_8, .ref a11])), (a1, .inl (cI, 16, .inl Fi)), (a2, .inl (cI, 16, .inl Ma)), (a4, .inl (cZ, 16, .inl Go)), (a5, .inl (cI, 576, .inl Sp)), (a8, .inl (cI, 320, .inl (upd (upd (upd (upd (upd (upd (upd (upd No (y_9 : Int32).toNatClampNeg p2) (y_11 : Int32).toNatClampNeg p1) (y_13 : Int32).toNatClampNeg y_15) (y_17 : Int32).toNatClampNeg wh9_6) (y_19 : Int32).toNatClampNeg b5) (y_21 : Int32).toNatClampNeg 1) (y_23 : Int32).toNatClampNeg 0) (y_25 : Int32).toNatClampNeg 0)))]) [1, 2, 3, 4, 5, 0] rfl
                    have hD9 := hD.sub (ws' := [(h0, .inr (9, [.int th, .ref a1, .ref a2, .ref a3, .ref a4, .ref a5, .int ne, .int wi, .int dn, .ref a6, .ref a7, .int y_26, .ref a8, .int la, .ref a9, .ref a10, .long up9_5, .long u_3, .int wh9_6, .long pu9_7, .long pw9_8, .ref a11])), (a1, .inl (cI, 16, .inl Fi)), (a2, .inl (cI, 16, .inl Ma)), (a4, .inl (cZ, 16, .inl Go)), (a5, .inl (cI, 576, .inl Sp)), (a8, .inl (cI, 320, .inl (upd (upd (upd (upd (upd (upd (upd (upd No (y_9 : Int32).toNatClampNeg p2) (y_11 : Int32).toNatClampNeg p1) (y_13 : Int32).toNatClampNeg y_15) (y_17 : Int32).toNatClampNeg wh9_6) (y_19 : Int32).toNatClampNeg b5) (y_21 : Int32).toNatClampNeg 1) (y_23 : Int32).toNatClampNeg 0) (y_25 : Int32).toNatClampNeg 0)))]) [1, 2, 3, 4, 5, 0] (by decide) rfl
                    have hK9 := hK.sub (tys' := [(cI, .int), (cZ, .boolean)]) [0, 1] rfl
                    refine W.widen (k := 0) (n := 0) (by omega) (by omega) ?_
                    exact W.iret (v := nn) hx hb hr (fun t ht hW => ⟨⟨_, (), rfl, trivial, up9_5, u_3, wh9_6, pu9_7, pw9_8, y_26, (upd (upd (upd (upd (upd (upd (upd (upd No (y_9 : Int32).toNatClampNeg p2) (y_11 : Int32).toNatClampNeg p1) (y_13 : Int32).toNatClampNeg y_15) (y_17 : Int32).toNatClampNeg wh9_6) (y_19 : Int32).toNatClampNeg b5) (y_21 : Int32).toNatClampNeg 1) (y_23 : Int32).toNatClampNeg 0) (y_25 : Int32).toNatClampNeg 0), by rw [ht]; exact hP9, va_K.moved hW.alike hK9, hD9, (by omega), (by omega)⟩, hS.F ht⟩) hS.2.2 dX9_notice_281
                  · have t_253 := mt (fa_lt _ _).mpr c_253
                    refine lv_aload_n hx hb dX9_notice_256 rfl (lv_at hl 1 rfl) ?_
                    refine va_get (D := (dC, dI)) (ci := 9) (v := .ref a8) (C := RX9) (T := TX9) (N := 22) hx hb hts in_X9_notice_X9 hown hK hP 1 rfl rfl 12 (by decide) (hts (.fieldLink RX9 39 "MeetingsAboveModel" "noted" "[I") (by decide +kernel)) (fun _ h9 => h9) rfl dX9_notice_257 ?_
                    refine lv_bipush (v := 8) hx hb dX9_notice_260 (by decide) ?_
                    refine lv_iload hx hb dX9_notice_262 (lv_at hl 6 rfl) ?_
                    refine lv_imul hx hb dX9_notice_264 ?_
                    refine lv_topi (fun y_27 ey_27 => ?_)
                    have ty_27 : y_27.toInt = 8 * b5.toInt := by rw [ey_27]; exact fm_lI kl_8 (by omega) (by omega)
                    refine lv_iconst (v := 5) hx hb dX9_notice_265 (by decide) ?_
                    refine lv_iadd hx hb dX9_notice_266 ?_
                    refine lv_topi (fun y_28 ey_28 => ?_)
                    have ty_28 : y_28.toInt = y_27.toInt + 5 := by rw [ey_28]; have := fb_addI (x := y_27) (y := 5) (by omega) (by omega); omega
                    refine lv_iconst (v := 0) hx hb dX9_notice_267 (by decide) ?_
                    refine va_iast hx hb hK hP hD hS 0 0 rfl rfl (vp_in_iff.mpr ⟨by omega, by omega⟩) dX9_notice_268 (fun H locs hP hD hS => ?_)
                    have hP : va_P (dC, dI) vwCl [(a8, .inl (cI, 320, .inl (upd (upd (upd (upd (upd (upd (upd (upd (upd No (y_9 : Int32).toNatClampNeg p2) (y_11 : Int32).toNatClampNeg p1) (y_13 : Int32).toNatClampNeg y_15) (y_17 : Int32).toNatClampNeg wh9_6) (y_19 : Int32).toNatClampNeg b5) (y_21 : Int32).toNatClampNeg 1) (y_23 : Int32).toNatClampNeg 0) (y_25 : Int32).toNatClampNeg 0) (y_28 : Int32).toNatClampNeg 0))), (h0, .inr (9, [.int th, .ref a1, .ref a2, .ref a3, .ref a4, .ref a5, .int ne, .int wi, .int dn, .ref a6, .ref a7, .int nn, .ref a8, .int la, .ref a9, .ref a10, .long up9_5, .long u_3, .int wh9_6, .long pu9_7, .long pw9_8, .ref a11])), (a1, .inl (cI, 16, .inl Fi)), (a2, .inl (cI, 16, .inl Ma)), (a4, .inl (cZ, 16, .inl Go)), (a5, .inl (cI, 576, .inl Sp))] H := hP
                    have hD : va_D A [(a8, .inl (cI, 320, .inl (upd (upd (upd (upd (upd (upd (upd (upd (upd No (y_9 : Int32).toNatClampNeg p2) (y_11 : Int32).toNatClampNeg p1) (y_13 : Int32).toNatClampNeg y_15) (y_17 : Int32).toNatClampNeg wh9_6) (y_19 : Int32).toNatClampNeg b5) (y_21 : Int32).toNatClampNeg 1) (y_23 : Int32).toNatClampNeg 0) (y_25 : Int32).toNatClampNeg 0) (y_28 : Int32).toNatClampNeg 0))), (h0, .inr (9, [.int th, .ref a1, .ref a2, .ref a3, .ref a4, .ref a5, .int ne, .int wi, .int dn, .ref a6, .ref a7, .int nn, .ref a8, .int la, .ref a9, .ref a10, .long up9_5, .long u_3, .int wh9_6, .long pu9_7, .long pw9_8, .ref a11])), (a1, .inl (cI, 16, .inl Fi)), (a2, .inl (cI, 16, .inl Ma)), (a4, .inl (cZ, 16, .inl Go)), (a5, .inl (cI, 576, .inl Sp))] := hD
                    refine lv_aload_n hx hb dX9_notice_269 rfl (lv_at hl 1 rfl) ?_
                    refine lv_dup hx hb dX9_notice_270 rfl ?_
                    refine va_get (D := (dC, dI)) (ci := 9) (v := .int nn) (C := RX9) (T := TX9) (N := 22) hx hb hts in_X9_notice_X9 hown hK hP 1 rfl rfl 11 (by decide) (hts (.fieldLink RX9 115 "MeetingsAboveModel" "notices" "I") (by decide +kernel)) (fun _ h9 => h9) rfl dX9_notice_271 ?_
                    refine lv_iconst (v := 1) hx hb dX9_notice_274 (by decide) ?_
                    refine lv_iadd hx hb dX9_notice_275 ?_
                    refine lv_topi (fun y_29 ey_29 => ?_)
                    have ty_29 : y_29.toInt = nn.toInt + 1 := by rw [ey_29]; have := fb_addI (x := nn) (y := 1) (by omega) (by omega); omega
                    refine va_put (D := (dC, dI)) (ci := 9) (v := .int y_29) (ty := .int) (C := RX9) (T := TX9) (N := 22) hx hb hts in_X9_notice_X9 tyX9 tyX9_ok nmX9 hown hK hP hD hS 1 rfl rfl 11 (by decide) (hts (.fieldLink RX9 115 "MeetingsAboveModel" "notices" "I") (by decide +kernel)) (fun _ h9 => h9) rfl (by decide +kernel) rfl rfl (Nat.le_of_ble_eq_true rfl) dX9_notice_276 (fun H locs hP hD hS => ?_)
                    have hP : va_P (dC, dI) vwCl [(a8, .inl (cI, 320, .inl (upd (upd (upd (upd (upd (upd (upd (upd (upd No (y_9 : Int32).toNatClampNeg p2) (y_11 : Int32).toNatClampNeg p1) (y_13 : Int32).toNatClampNeg y_15) (y_17 : Int32).toNatClampNeg wh9_6) (y_19 : Int32).toNatClampNeg b5) (y_21 : Int32).toNatClampNeg 1) (y_23 : Int32).toNatClampNeg 0) (y_25 : Int32).toNatClampNeg 0) (y_28 : Int32).toNatClampNeg 0))), (h0, .inr (9, [.int th, .ref a1, .ref a2, .ref a3, .ref a4, .ref a5, .int ne, .int wi, .int dn, .ref a6, .ref a7, .int y_29, .ref a8, .int la, .ref a9, .ref a10, .long up9_5, .long u_3, .int wh9_6, .long pu9_7, .long pw9_8, .ref a11])), (a1, .inl (cI, 16, .inl Fi)), (a2, .inl (cI, 16, .inl Ma)), (a4, .inl (cZ, 16, .inl Go)), (a5, .inl (cI, 576, .inl Sp))] H := hP
                    have hD : va_D A [(a8, .inl (cI, 320, .inl (upd (upd (upd (upd (upd (upd (upd (upd (upd No (y_9 : Int32).toNatClampNeg p2) (y_11 : Int32).toNatClampNeg p1) (y_13 : Int32).toNatClampNeg y_15) (y_17 : Int32).toNatClampNeg wh9_6) (y_19 : Int32).toNatClampNeg b5) (y_21 : Int32).toNatClampNeg 1) (y_23 : Int32).toNatClampNeg 0) (y_25 : Int32).toNatClampNeg 0) (y_28 : Int32).toNatClampNeg 0))), (h0, .inr (9, [.int th, .ref a1, .ref a2, .ref a3, .ref a4, .ref a5, .int ne, .int wi, .int dn, .ref a6, .ref a7, .int y_29, .ref a8, .int la, .ref a9, .ref a10, .long up9_5, .long u_3, .int wh9_6, .long pu9_7, .long pw9_8, .ref a11])), (a1, .inl (cI, 16, .inl Fi)), (a2, .inl (cI, 16, .inl Ma)), (a4, .inl (cZ, 16, .inl Go)), (a5, .inl (cI, 576, .inl Sp))] := hD
                    refine lv_iload hx hb dX9_notice_279 (lv_at hl 0 rfl) ?_
                    have hP9 := hP.sub (ws' := [(h0, .inr (9, [.int th, .ref a1, .ref a2, .ref a3, .ref a4, .ref a5, .int ne, .int wi, .int dn, .ref a6, .ref a7, .int y_29, .ref a8, .int la, .ref a9, .ref a10, .long up9_5, .long u_3, .int wh9_6, .long pu9_7, .long pw9_8, .ref a11])), (a1, .inl (cI, 16, .inl Fi)), (a2, .inl (cI, 16, .inl Ma)), (a4, .inl (cZ, 16, .inl Go)), (a5, .inl (cI, 576, .inl Sp)), (a8, .inl (cI, 320, .inl (upd (upd (upd (upd (upd (upd (upd (upd (upd No (y_9 : Int32).toNatClampNeg p2) (y_11 : Int32).toNatClampNeg p1) (y_13 : Int32).toNatClampNeg y_15) (y_17 : Int32).toNatClampNeg wh9_6) (y_19 : Int32).toNatClampNeg b5) (y_21 : Int32).toNatClampNeg 1) (y_23 : Int32).toNatClampNeg 0) (y_25 : Int32).toNatClampNeg 0) (y_28 : Int32).toNatClampNeg 0)))]) [1, 2, 3, 4, 5, 0] rfl
                    have hD9 := hD.sub (ws' := [(h0, .inr (9, [.int th, .ref a1, .ref a2, .ref a3, .ref a4, .ref a5, .int ne, .int wi, .int dn, .ref a6, .ref a7, .int y_29, .ref a8, .int la, .ref a9, .ref a10, .long up9_5, .long u_3, .int wh9_6, .long pu9_7, .long pw9_8, .ref a11])), (a1, .inl (cI, 16, .inl Fi)), (a2, .inl (cI, 16, .inl Ma)), (a4, .inl (cZ, 16, .inl Go)), (a5, .inl (cI, 576, .inl Sp)), (a8, .inl (cI, 320, .inl (upd (upd (upd (upd (upd (upd (upd (upd (upd No (y_9 : Int32).toNatClampNeg p2) (y_11 : Int32).toNatClampNeg p1) (y_13 : Int32).toNatClampNeg y_15) (y_17 : Int32).toNatClampNeg wh9_6) (y_19 : Int32).toNatClampNeg b5) (y_21 : Int32).toNatClampNeg 1) (y_23 : Int32).toNatClampNeg 0) (y_25 : Int32).toNatClampNeg 0) (y_28 : Int32).toNatClampNeg 0)))]) [1, 2, 3, 4, 5, 0] (by decide) rfl
                    have hK9 := hK.sub (tys' := [(cI, .int), (cZ, .boolean)]) [0, 1] rfl
                    refine W.widen (k := 0) (n := 0) (by omega) (by omega) ?_
                    exact W.iret (v := nn) hx hb hr (fun t ht hW => ⟨⟨_, (), rfl, trivial, up9_5, u_3, wh9_6, pu9_7, pw9_8, y_29, (upd (upd (upd (upd (upd (upd (upd (upd (upd No (y_9 : Int32).toNatClampNeg p2) (y_11 : Int32).toNatClampNeg p1) (y_13 : Int32).toNatClampNeg y_15) (y_17 : Int32).toNatClampNeg wh9_6) (y_19 : Int32).toNatClampNeg b5) (y_21 : Int32).toNatClampNeg 1) (y_23 : Int32).toNatClampNeg 0) (y_25 : Int32).toNatClampNeg 0) (y_28 : Int32).toNatClampNeg 0), by rw [ht]; exact hP9, va_K.moved hW.alike hK9, hD9, (by omega), (by omega)⟩, hS.F ht⟩) hS.2.2 dX9_notice_281
                · have t_78 := mt (fa_le _ _).mpr c_78
                  refine lv_aload_n hx hb dX9_notice_81 rfl (lv_at hl 0 rfl) ?_
                  refine va_get (D := (dC, dI)) (ci := 9) (v := .ref a8) (C := RX9) (T := TX9) (N := 22) hx hb hts in_X9_notice_X9 hown hK hP 1 rfl rfl 12 (by decide) (hts (.fieldLink RX9 39 "MeetingsAboveModel" "noted" "[I") (by decide +kernel)) (fun _ h9 => h9) rfl dX9_notice_82 ?_
                  refine lv_bipush (v := 8) hx hb dX9_notice_85 (by decide) ?_
                  refine lv_iload hx hb dX9_notice_87 (lv_at hl 6 rfl) ?_
                  refine lv_imul hx hb dX9_notice_89 ?_
                  refine lv_topi (fun y_30 ey_30 => ?_)
                  have ty_30 : y_30.toInt = 8 * k6.toInt := by rw [ey_30]; exact fm_lI kl_8 (by omega) (by omega)
                  refine va_iald hx hb hK hP 0 0 rfl rfl (vp_in_iff.mpr ⟨by omega, by omega⟩) dX9_notice_90 ?_
                  refine lv_topi (fun y_31 ey_31 => ?_)
                  refine lv_iload_n hx hb dX9_notice_91 rfl (lv_at hl 3 rfl) ?_
                  refine lv_icmp_ne (tgt := 117) hx hb dX9_notice_92 (by decide) (fun c_92 => ?_) (fun c_92 => ?_)
                  · have t_92 := mt (fa_eq _ _).mpr c_92
                    refine lv_iload hx hb dX9_notice_117 (lv_at hl 5 rfl) ?_
                    refine lv_istore (lv' := [(5, .int b5), (0, .ref h0), (1, .int p1), (2, .int p2), (3, .int p2), (4, .int p1), (6, .int k6)]) hx hb dX9_notice_119 hl (by decide) rfl (fun ls hl => ?_)
                    obtain ⟨y_32, ey_32⟩ : ∃ y : Int32, y = k6 + 1 := ⟨_, rfl⟩
                    have ty_32 : y_32.toInt = k6.toInt + 1 := by rw [ey_32]; have := fb_addI (x := k6) (y := 1) (by omega) (by omega); omega
                    refine lv_iinc (v := y_32) (lv' := [(6, .int y_32), (5, .int b5), (0, .ref h0), (1, .int p1), (2, .int p2), (3, .int p2), (4, .int p1)]) hx hb dX9_notice_121 hl (k := 6) rfl (by rw [ey_32]; rfl) (by decide) rfl (fun ls hl => ?_)
                    refine lv_goto (tgt := 72) hx hb dX9_notice_124 (by decide) ?_
                    exact ih_72 b5 y_32 (by omega) (by omega) (by omega) (by omega) (by omega) H _ (hP.sub [0, 1, 2, 3, 4, 5] rfl) (hD.sub [0, 1, 2, 3, 4, 5] (by decide) rfl) hS ls (lv_sub hl [2, 3, 4, 5, 6, 1, 0] rfl)
                  · have t_92 := (fa_eq _ _).mp c_92
                    refine lv_aload_n hx hb dX9_notice_95 rfl (lv_at hl 0 rfl) ?_
                    refine va_get (D := (dC, dI)) (ci := 9) (v := .ref a8) (C := RX9) (T := TX9) (N := 22) hx hb hts in_X9_notice_X9 hown hK hP 1 rfl rfl 12 (by decide) (hts (.fieldLink RX9 39 "MeetingsAboveModel" "noted" "[I") (by decide +kernel)) (fun _ h9 => h9) rfl dX9_notice_96 ?_
                    refine lv_bipush (v := 8) hx hb dX9_notice_99 (by decide) ?_
                    refine lv_iload hx hb dX9_notice_101 (lv_at hl 6 rfl) ?_
                    refine lv_imul hx hb dX9_notice_103 ?_
                    refine lv_topi (fun y_33 ey_33 => ?_)
                    have ty_33 : y_33.toInt = 8 * k6.toInt := by rw [ey_33]; exact fm_lI kl_8 (by omega) (by omega)
                    refine lv_iconst (v := 1) hx hb dX9_notice_104 (by decide) ?_
                    refine lv_iadd hx hb dX9_notice_105 ?_
                    refine lv_topi (fun y_34 ey_34 => ?_)
                    have ty_34 : y_34.toInt = y_33.toInt + 1 := by rw [ey_34]; have := fb_addI (x := y_33) (y := 1) (by omega) (by omega); omega
                    refine va_iald hx hb hK hP 0 0 rfl rfl (vp_in_iff.mpr ⟨by omega, by omega⟩) dX9_notice_106 ?_
                    refine lv_topi (fun y_35 ey_35 => ?_)
                    refine lv_iload hx hb dX9_notice_107 (lv_at hl 4 rfl) ?_
                    refine lv_icmp_ne (tgt := 117) hx hb dX9_notice_109 (by decide) (fun c_109 => ?_) (fun c_109 => ?_)
                    · have t_109 := mt (fa_eq _ _).mpr c_109
                      refine lv_iload hx hb dX9_notice_117 (lv_at hl 5 rfl) ?_
                      refine lv_istore (lv' := [(5, .int b5), (0, .ref h0), (1, .int p1), (2, .int p2), (3, .int p2), (4, .int p1), (6, .int k6)]) hx hb dX9_notice_119 hl (by decide) rfl (fun ls hl => ?_)
                      obtain ⟨y_36, ey_36⟩ : ∃ y : Int32, y = k6 + 1 := ⟨_, rfl⟩
                      have ty_36 : y_36.toInt = k6.toInt + 1 := by rw [ey_36]; have := fb_addI (x := k6) (y := 1) (by omega) (by omega); omega
                      refine lv_iinc (v := y_36) (lv' := [(6, .int y_36), (5, .int b5), (0, .ref h0), (1, .int p1), (2, .int p2), (3, .int p2), (4, .int p1)]) hx hb dX9_notice_121 hl (k := 6) rfl (by rw [ey_36]; rfl) (by decide) rfl (fun ls hl => ?_)
                      refine lv_goto (tgt := 72) hx hb dX9_notice_124 (by decide) ?_
                      exact ih_72 b5 y_36 (by omega) (by omega) (by omega) (by omega) (by omega) H _ (hP.sub [0, 1, 2, 3, 4, 5] rfl) (hD.sub [0, 1, 2, 3, 4, 5] (by decide) rfl) hS ls (lv_sub hl [2, 3, 4, 5, 6, 1, 0] rfl)
                    · have t_109 := (fa_eq _ _).mp c_109
                      refine lv_iload hx hb dX9_notice_112 (lv_at hl 6 rfl) ?_
                      refine lv_goto (tgt := 119) hx hb dX9_notice_114 (by decide) ?_
                      refine lv_istore (lv' := [(5, .int k6), (0, .ref h0), (1, .int p1), (2, .int p2), (3, .int p2), (4, .int p1), (6, .int k6)]) hx hb dX9_notice_119 hl (by decide) rfl (fun ls hl => ?_)
                      obtain ⟨y_37, ey_37⟩ : ∃ y : Int32, y = k6 + 1 := ⟨_, rfl⟩
                      have ty_37 : y_37.toInt = k6.toInt + 1 := by rw [ey_37]; have := fb_addI (x := k6) (y := 1) (by omega) (by omega); omega
                      refine lv_iinc (v := y_37) (lv' := [(6, .int y_37), (5, .int k6), (0, .ref h0), (1, .int p1), (2, .int p2), (3, .int p2), (4, .int p1)]) hx hb dX9_notice_121 hl (k := 6) rfl (by rw [ey_37]; rfl) (by decide) rfl (fun ls hl => ?_)
                      refine lv_goto (tgt := 72) hx hb dX9_notice_124 (by decide) ?_
                      exact ih_72 k6 y_37 (by omega) (by omega) (by omega) (by omega) (by omega) H _ (hP.sub [0, 1, 2, 3, 4, 5] rfl) (hD.sub [0, 1, 2, 3, 4, 5] (by decide) rfl) hS ls (lv_sub hl [2, 3, 4, 5, 6, 1, 0] rfl)
            · have t_56 := mt (fa_le _ _).mpr c_56
              refine lv_iload_n hx hb dX9_notice_59 rfl (lv_at hl 3 rfl) ?_
              refine lv_goto (tgt := 64) hx hb dX9_notice_60 (by decide) ?_
              refine lv_istore (lv' := [(4, .int p2), (3, .int p2), (0, .ref h0), (1, .int p1), (2, .int p2)]) hx hb dX9_notice_64 hl (by decide) rfl (fun ls hl => ?_)
              refine lv_iconst (v := (-1)) hx hb dX9_notice_66 (by decide) ?_
              refine lv_istore (lv' := [(5, .int (-1)), (4, .int p2), (3, .int p2), (0, .ref h0), (1, .int p1), (2, .int p2)]) hx hb dX9_notice_67 hl (by decide) rfl (fun ls hl => ?_)
              refine lv_iconst (v := 0) hx hb dX9_notice_69 (by decide) ?_
              refine lv_istore (lv' := [(6, .int 0), (5, .int (-1)), (4, .int p2), (3, .int p2), (0, .ref h0), (1, .int p1), (2, .int p2)]) hx hb dX9_notice_70 hl (by decide) rfl (fun ls hl => ?_)
              refine (show ∀ (k : Nat) (b5 : Int32) (k6 : Int32) (hk0 : 0 ≤ k6.toInt) (hk1 : k6.toInt ≤ nn.toInt) (hb0 : -1 ≤ b5.toInt) (hb1 : b5.toInt < nn.toInt ∨ b5.toInt = -1) (hk_72 : (nn.toInt - k6.toInt).toNat < k) (H : Heap) (locs : List Loc) (hP : va_P (dC, dI) vwCl [(a8, .inl (cI, 320, .inl No)), (h0, .inr (9, [.int th, .ref a1, .ref a2, .ref a3, .ref a4, .ref a5, .int ne, .int wi, .int dn, .ref a6, .ref a7, .int nn, .ref a8, .int la, .ref a9, .ref a10, .long up9_5, .long u_3, .int wh9_6, .long pu9_7, .long pw9_8, .ref a11])), (a1, .inl (cI, 16, .inl Fi)), (a2, .inl (cI, 16, .inl Ma)), (a4, .inl (cZ, 16, .inl Go)), (a5, .inl (cI, 576, .inl Sp))] H) (hD : va_D A [(a8, .inl (cI, 320, .inl No)), (h0, .inr (9, [.int th, .ref a1, .ref a2, .ref a3, .ref a4, .ref a5, .int ne, .int wi, .int dn, .ref a6, .ref a7, .int nn, .ref a8, .int la, .ref a9, .ref a10, .long up9_5, .long u_3, .int wh9_6, .long pu9_7, .long pw9_8, .ref a11])), (a1, .inl (cI, 16, .inl Fi)), (a2, .inl (cI, 16, .inl Ma)), (a4, .inl (cZ, 16, .inl Go)), (a5, .inl (cI, 576, .inl Sp))]) (hS : va_S A s.heap H locs) (ls : Array Slot) (hl : lv_has ls 7 [(0, .ref h0), (1, .int p1), (2, .int p2), (3, .int p2), (4, .int p2), (5, .int b5), (6, .int k6)]), W p l e _ s m _ below meth c H locs 0 0 _ (F0 m 72 ls []) from ?_) _ (-1) 0 (by omega) (by omega) (by omega) (by omega) (Nat.lt_succ_self _) H _ hP hD hS ls (lv_sub hl [4, 5, 6, 3, 2, 1, 0] rfl)
              intro k
              induction k with
              | zero => intro b5 k6 hk0 hk1 hb0 hb1 hk_72; exact absurd hk_72 (Nat.not_lt_zero _)
              | succ k ih_72 =>
                intro b5 k6 hk0 hk1 hb0 hb1 hk_72 H locs hP hD hS ls hl
                refine lv_iload hx hb dX9_notice_72 (lv_at hl 6 rfl) ?_
                refine lv_aload_n hx hb dX9_notice_74 rfl (lv_at hl 0 rfl) ?_
                refine va_get (D := (dC, dI)) (ci := 9) (v := .int nn) (C := RX9) (T := TX9) (N := 22) hx hb hts in_X9_notice_X9 hown hK hP 1 rfl rfl 11 (by decide) (hts (.fieldLink RX9 115 "MeetingsAboveModel" "notices" "I") (by decide +kernel)) (fun _ h9 => h9) rfl dX9_notice_75 ?_
                refine lv_icmp_ge (tgt := 127) hx hb dX9_notice_78 (by decide) (fun c_78 => ?_) (fun c_78 => ?_)
                · have t_78 := (fa_le _ _).mp c_78
                  refine lv_aload_n hx hb dX9_notice_127 rfl (lv_at hl 0 rfl) ?_
                  refine va_get (D := (dC, dI)) (ci := 9) (v := .int nn) (C := RX9) (T := TX9) (N := 22) hx hb hts in_X9_notice_X9 hown hK hP 1 rfl rfl 11 (by decide) (hts (.fieldLink RX9 115 "MeetingsAboveModel" "notices" "I") (by decide +kernel)) (fun _ h9 => h9) rfl dX9_notice_128 ?_
                  refine lv_istore (lv' := [(6, .int nn), (0, .ref h0), (1, .int p1), (2, .int p2), (3, .int p2), (4, .int p2), (5, .int b5)]) hx hb dX9_notice_131 hl (by decide) rfl (fun ls hl => ?_)
                  refine lv_aload_n hx hb dX9_notice_133 rfl (lv_at hl 1 rfl) ?_
                  refine va_get (D := (dC, dI)) (ci := 9) (v := .ref a8) (C := RX9) (T := TX9) (N := 22) hx hb hts in_X9_notice_X9 hown hK hP 1 rfl rfl 12 (by decide) (hts (.fieldLink RX9 39 "MeetingsAboveModel" "noted" "[I") (by decide +kernel)) (fun _ h9 => h9) rfl dX9_notice_134 ?_
                  refine lv_bipush (v := 8) hx hb dX9_notice_137 (by decide) ?_
                  refine lv_iload hx hb dX9_notice_139 (lv_at hl 0 rfl) ?_
                  refine lv_imul hx hb dX9_notice_141 ?_
                  refine lv_topi (fun y_38 ey_38 => ?_)
                  have ty_38 : y_38.toInt = 8 * nn.toInt := by rw [ey_38]; exact fm_lI kl_8 (by omega) (by omega)
                  refine lv_iload_n hx hb dX9_notice_142 rfl (lv_at hl 4 rfl) ?_
                  refine va_iast hx hb hK hP hD hS 0 0 rfl rfl (vp_in_iff.mpr ⟨by omega, by omega⟩) dX9_notice_143 (fun H locs hP hD hS => ?_)
                  have hP : va_P (dC, dI) vwCl [(a8, .inl (cI, 320, .inl (upd No (y_38 : Int32).toNatClampNeg p2))), (h0, .inr (9, [.int th, .ref a1, .ref a2, .ref a3, .ref a4, .ref a5, .int ne, .int wi, .int dn, .ref a6, .ref a7, .int nn, .ref a8, .int la, .ref a9, .ref a10, .long up9_5, .long u_3, .int wh9_6, .long pu9_7, .long pw9_8, .ref a11])), (a1, .inl (cI, 16, .inl Fi)), (a2, .inl (cI, 16, .inl Ma)), (a4, .inl (cZ, 16, .inl Go)), (a5, .inl (cI, 576, .inl Sp))] H := hP
                  have hD : va_D A [(a8, .inl (cI, 320, .inl (upd No (y_38 : Int32).toNatClampNeg p2))), (h0, .inr (9, [.int th, .ref a1, .ref a2, .ref a3, .ref a4, .ref a5, .int ne, .int wi, .int dn, .ref a6, .ref a7, .int nn, .ref a8, .int la, .ref a9, .ref a10, .long up9_5, .long u_3, .int wh9_6, .long pu9_7, .long pw9_8, .ref a11])), (a1, .inl (cI, 16, .inl Fi)), (a2, .inl (cI, 16, .inl Ma)), (a4, .inl (cZ, 16, .inl Go)), (a5, .inl (cI, 576, .inl Sp))] := hD
                  refine lv_aload_n hx hb dX9_notice_144 rfl (lv_at hl 1 rfl) ?_
                  refine va_get (D := (dC, dI)) (ci := 9) (v := .ref a8) (C := RX9) (T := TX9) (N := 22) hx hb hts in_X9_notice_X9 hown hK hP 1 rfl rfl 12 (by decide) (hts (.fieldLink RX9 39 "MeetingsAboveModel" "noted" "[I") (by decide +kernel)) (fun _ h9 => h9) rfl dX9_notice_145 ?_
                  refine lv_bipush (v := 8) hx hb dX9_notice_148 (by decide) ?_
                  refine lv_iload hx hb dX9_notice_150 (lv_at hl 0 rfl) ?_
                  refine lv_imul hx hb dX9_notice_152 ?_
                  refine lv_topi (fun y_39 ey_39 => ?_)
                  have ty_39 : y_39.toInt = 8 * nn.toInt := by rw [ey_39]; exact fm_lI kl_8 (by omega) (by omega)
                  refine lv_iconst (v := 1) hx hb dX9_notice_153 (by decide) ?_
                  refine lv_iadd hx hb dX9_notice_154 ?_
                  refine lv_topi (fun y_40 ey_40 => ?_)
                  have ty_40 : y_40.toInt = y_39.toInt + 1 := by rw [ey_40]; have := fb_addI (x := y_39) (y := 1) (by omega) (by omega); omega
                  refine lv_iload hx hb dX9_notice_155 (lv_at hl 5 rfl) ?_
                  refine va_iast hx hb hK hP hD hS 0 0 rfl rfl (vp_in_iff.mpr ⟨by omega, by omega⟩) dX9_notice_157 (fun H locs hP hD hS => ?_)
                  have hP : va_P (dC, dI) vwCl [(a8, .inl (cI, 320, .inl (upd (upd No (y_38 : Int32).toNatClampNeg p2) (y_40 : Int32).toNatClampNeg p2))), (h0, .inr (9, [.int th, .ref a1, .ref a2, .ref a3, .ref a4, .ref a5, .int ne, .int wi, .int dn, .ref a6, .ref a7, .int nn, .ref a8, .int la, .ref a9, .ref a10, .long up9_5, .long u_3, .int wh9_6, .long pu9_7, .long pw9_8, .ref a11])), (a1, .inl (cI, 16, .inl Fi)), (a2, .inl (cI, 16, .inl Ma)), (a4, .inl (cZ, 16, .inl Go)), (a5, .inl (cI, 576, .inl Sp))] H := hP
                  have hD : va_D A [(a8, .inl (cI, 320, .inl (upd (upd No (y_38 : Int32).toNatClampNeg p2) (y_40 : Int32).toNatClampNeg p2))), (h0, .inr (9, [.int th, .ref a1, .ref a2, .ref a3, .ref a4, .ref a5, .int ne, .int wi, .int dn, .ref a6, .ref a7, .int nn, .ref a8, .int la, .ref a9, .ref a10, .long up9_5, .long u_3, .int wh9_6, .long pu9_7, .long pw9_8, .ref a11])), (a1, .inl (cI, 16, .inl Fi)), (a2, .inl (cI, 16, .inl Ma)), (a4, .inl (cZ, 16, .inl Go)), (a5, .inl (cI, 576, .inl Sp))] := hD
                  refine lv_aload_n hx hb dX9_notice_158 rfl (lv_at hl 1 rfl) ?_
                  refine va_get (D := (dC, dI)) (ci := 9) (v := .ref a8) (C := RX9) (T := TX9) (N := 22) hx hb hts in_X9_notice_X9 hown hK hP 1 rfl rfl 12 (by decide) (hts (.fieldLink RX9 39 "MeetingsAboveModel" "noted" "[I") (by decide +kernel)) (fun _ h9 => h9) rfl dX9_notice_159 ?_
                  refine lv_bipush (v := 8) hx hb dX9_notice_162 (by decide) ?_
                  refine lv_iload hx hb dX9_notice_164 (lv_at hl 0 rfl) ?_
                  refine lv_imul hx hb dX9_notice_166 ?_
                  refine lv_topi (fun y_41 ey_41 => ?_)
                  have ty_41 : y_41.toInt = 8 * nn.toInt := by rw [ey_41]; exact fm_lI kl_8 (by omega) (by omega)
                  refine lv_iconst (v := 2) hx hb dX9_notice_167 (by decide) ?_
                  refine lv_iadd hx hb dX9_notice_168 ?_
                  refine lv_topi (fun y_42 ey_42 => ?_)
                  have ty_42 : y_42.toInt = y_41.toInt + 2 := by rw [ey_42]; have := fb_addI (x := y_41) (y := 2) (by omega) (by omega); omega
                  refine lv_aload_n hx hb dX9_notice_169 rfl (lv_at hl 1 rfl) ?_
                  refine va_get (D := (dC, dI)) (ci := 9) (v := .long up9_5) (C := RX9) (T := TX9) (N := 22) hx hb hts in_X9_notice_X9 hown hK hP 1 rfl rfl 16 (by decide) (hts (.fieldLink RX9 121 "MeetingsAboveModel" "upper" "J") (by decide +kernel)) (fun _ h9 => h9) rfl dX9_notice_170 ?_
                  refine lv_aload_n hx hb dX9_notice_173 rfl (lv_at hl 1 rfl) ?_
                  refine va_get (D := (dC, dI)) (ci := 9) (v := .long u_3) (C := RX9) (T := TX9) (N := 22) hx hb hts in_X9_notice_X9 hown hK hP 1 rfl rfl 17 (by decide) (hts (.fieldLink RX9 125 "MeetingsAboveModel" "lower" "J") (by decide +kernel)) (fun _ h9 => h9) rfl dX9_notice_174 ?_
                  refine lv_ldiv hx hb dX9_notice_177 (fun h9 => by have h8 := hw_4 (by omega); rw [h9, klL_0] at h8; omega) ?_
                  refine lv_topl (fun y_43 ey_43 => ?_)
                  refine lv_l2i hx hb dX9_notice_178 rfl ?_
                  refine lv_topi (fun y_44 ey_44 => ?_)
                  refine va_iast hx hb hK hP hD hS 0 0 rfl rfl (vp_in_iff.mpr ⟨by omega, by omega⟩) dX9_notice_179 (fun H locs hP hD hS => ?_)
                  have hP : va_P (dC, dI) vwCl [(a8, .inl (cI, 320, .inl (upd (upd (upd No (y_38 : Int32).toNatClampNeg p2) (y_40 : Int32).toNatClampNeg p2) (y_42 : Int32).toNatClampNeg y_44))), (h0, .inr (9, [.int th, .ref a1, .ref a2, .ref a3, .ref a4, .ref a5, .int ne, .int wi, .int dn, .ref a6, .ref a7, .int nn, .ref a8, .int la, .ref a9, .ref a10, .long up9_5, .long u_3, .int wh9_6, .long pu9_7, .long pw9_8, .ref a11])), (a1, .inl (cI, 16, .inl Fi)), (a2, .inl (cI, 16, .inl Ma)), (a4, .inl (cZ, 16, .inl Go)), (a5, .inl (cI, 576, .inl Sp))] H := hP
                  have hD : va_D A [(a8, .inl (cI, 320, .inl (upd (upd (upd No (y_38 : Int32).toNatClampNeg p2) (y_40 : Int32).toNatClampNeg p2) (y_42 : Int32).toNatClampNeg y_44))), (h0, .inr (9, [.int th, .ref a1, .ref a2, .ref a3, .ref a4, .ref a5, .int ne, .int wi, .int dn, .ref a6, .ref a7, .int nn, .ref a8, .int la, .ref a9, .ref a10, .long up9_5, .long u_3, .int wh9_6, .long pu9_7, .long pw9_8, .ref a11])), (a1, .inl (cI, 16, .inl Fi)), (a2, .inl (cI, 16, .inl Ma)), (a4, .inl (cZ, 16, .inl Go)), (a5, .inl (cI, 576, .inl Sp))] := hD
                  refine lv_aload_n hx hb dX9_notice_180 rfl (lv_at hl 1 rfl) ?_
                  refine va_get (D := (dC, dI)) (ci := 9) (v := .ref a8) (C := RX9) (T := TX9) (N := 22) hx hb hts in_X9_notice_X9 hown hK hP 1 rfl rfl 12 (by decide) (hts (.fieldLink RX9 39 "MeetingsAboveModel" "noted" "[I") (by decide +kernel)) (fun _ h9 => h9) rfl dX9_notice_181 ?_
                  refine lv_bipush (v := 8) hx hb dX9_notice_184 (by decide) ?_
                  refine lv_iload hx hb dX9_notice_186 (lv_at hl 0 rfl) ?_
                  refine lv_imul hx hb dX9_notice_188 ?_
                  refine lv_topi (fun y_45 ey_45 => ?_)
                  have ty_45 : y_45.toInt = 8 * nn.toInt := by rw [ey_45]; exact fm_lI kl_8 (by omega) (by omega)
                  refine lv_iconst (v := 3) hx hb dX9_notice_189 (by decide) ?_
                  refine lv_iadd hx hb dX9_notice_190 ?_
                  refine lv_topi (fun y_46 ey_46 => ?_)
                  have ty_46 : y_46.toInt = y_45.toInt + 3 := by rw [ey_46]; have := fb_addI (x := y_45) (y := 3) (by omega) (by omega); omega
                  refine lv_aload_n hx hb dX9_notice_191 rfl (lv_at hl 1 rfl) ?_
                  refine va_get (D := (dC, dI)) (ci := 9) (v := .int wh9_6) (C := RX9) (T := TX9) (N := 22) hx hb hts in_X9_notice_X9 hown hK hP 1 rfl rfl 18 (by decide) (hts (.fieldLink RX9 128 "MeetingsAboveModel" "when" "I") (by decide +kernel)) (fun _ h9 => h9) rfl dX9_notice_192 ?_
                  refine va_iast hx hb hK hP hD hS 0 0 rfl rfl (vp_in_iff.mpr ⟨by omega, by omega⟩) dX9_notice_195 (fun H locs hP hD hS => ?_)
                  have hP : va_P (dC, dI) vwCl [(a8, .inl (cI, 320, .inl (upd (upd (upd (upd No (y_38 : Int32).toNatClampNeg p2) (y_40 : Int32).toNatClampNeg p2) (y_42 : Int32).toNatClampNeg y_44) (y_46 : Int32).toNatClampNeg wh9_6))), (h0, .inr (9, [.int th, .ref a1, .ref a2, .ref a3, .ref a4, .ref a5, .int ne, .int wi, .int dn, .ref a6, .ref a7, .int nn, .ref a8, .int la, .ref a9, .ref a10, .long up9_5, .long u_3, .int wh9_6, .long pu9_7, .long pw9_8, .ref a11])), (a1, .inl (cI, 16, .inl Fi)), (a2, .inl (cI, 16, .inl Ma)), (a4, .inl (cZ, 16, .inl Go)), (a5, .inl (cI, 576, .inl Sp))] H := hP
                  have hD : va_D A [(a8, .inl (cI, 320, .inl (upd (upd (upd (upd No (y_38 : Int32).toNatClampNeg p2) (y_40 : Int32).toNatClampNeg p2) (y_42 : Int32).toNatClampNeg y_44) (y_46 : Int32).toNatClampNeg wh9_6))), (h0, .inr (9, [.int th, .ref a1, .ref a2, .ref a3, .ref a4, .ref a5, .int ne, .int wi, .int dn, .ref a6, .ref a7, .int nn, .ref a8, .int la, .ref a9, .ref a10, .long up9_5, .long u_3, .int wh9_6, .long pu9_7, .long pw9_8, .ref a11])), (a1, .inl (cI, 16, .inl Fi)), (a2, .inl (cI, 16, .inl Ma)), (a4, .inl (cZ, 16, .inl Go)), (a5, .inl (cI, 576, .inl Sp))] := hD
                  refine lv_aload_n hx hb dX9_notice_196 rfl (lv_at hl 1 rfl) ?_
                  refine va_get (D := (dC, dI)) (ci := 9) (v := .ref a8) (C := RX9) (T := TX9) (N := 22) hx hb hts in_X9_notice_X9 hown hK hP 1 rfl rfl 12 (by decide) (hts (.fieldLink RX9 39 "MeetingsAboveModel" "noted" "[I") (by decide +kernel)) (fun _ h9 => h9) rfl dX9_notice_197 ?_
                  refine lv_bipush (v := 8) hx hb dX9_notice_200 (by decide) ?_
                  refine lv_iload hx hb dX9_notice_202 (lv_at hl 0 rfl) ?_
                  refine lv_imul hx hb dX9_notice_204 ?_
                  refine lv_topi (fun y_47 ey_47 => ?_)
                  have ty_47 : y_47.toInt = 8 * nn.toInt := by rw [ey_47]; exact fm_lI kl_8 (by omega) (by omega)
                  refine lv_iconst (v := 4) hx hb dX9_notice_205 (by decide) ?_
                  refine lv_iadd hx hb dX9_notice_206 ?_
                  refine lv_topi (fun y_48 ey_48 => ?_)
                  have ty_48 : y_48.toInt = y_47.toInt + 4 := by rw [ey_48]; have := fb_addI (x := y_47) (y := 4) (by omega) (by omega); omega
                  refine lv_iload hx hb dX9_notice_207 (lv_at hl 6 rfl) ?_
                  refine va_iast hx hb hK hP hD hS 0 0 rfl rfl (vp_in_iff.mpr ⟨by omega, by omega⟩) dX9_notice_209 (fun H locs hP hD hS => ?_)
                  have hP : va_P (dC, dI) vwCl [(a8, .inl (cI, 320, .inl (upd (upd (upd (upd (upd No (y_38 : Int32).toNatClampNeg p2) (y_40 : Int32).toNatClampNeg p2) (y_42 : Int32).toNatClampNeg y_44) (y_46 : Int32).toNatClampNeg wh9_6) (y_48 : Int32).toNatClampNeg b5))), (h0, .inr (9, [.int th, .ref a1, .ref a2, .ref a3, .ref a4, .ref a5, .int ne, .int wi, .int dn, .ref a6, .ref a7, .int nn, .ref a8, .int la, .ref a9, .ref a10, .long up9_5, .long u_3, .int wh9_6, .long pu9_7, .long pw9_8, .ref a11])), (a1, .inl (cI, 16, .inl Fi)), (a2, .inl (cI, 16, .inl Ma)), (a4, .inl (cZ, 16, .inl Go)), (a5, .inl (cI, 576, .inl Sp))] H := hP
                  have hD : va_D A [(a8, .inl (cI, 320, .inl (upd (upd (upd (upd (upd No (y_38 : Int32).toNatClampNeg p2) (y_40 : Int32).toNatClampNeg p2) (y_42 : Int32).toNatClampNeg y_44) (y_46 : Int32).toNatClampNeg wh9_6) (y_48 : Int32).toNatClampNeg b5))), (h0, .inr (9, [.int th, .ref a1, .ref a2, .ref a3, .ref a4, .ref a5, .int ne, .int wi, .int dn, .ref a6, .ref a7, .int nn, .ref a8, .int la, .ref a9, .ref a10, .long up9_5, .long u_3, .int wh9_6, .long pu9_7, .long pw9_8, .ref a11])), (a1, .inl (cI, 16, .inl Fi)), (a2, .inl (cI, 16, .inl Ma)), (a4, .inl (cZ, 16, .inl Go)), (a5, .inl (cI, 576, .inl Sp))] := hD
                  refine lv_aload_n hx hb dX9_notice_210 rfl (lv_at hl 1 rfl) ?_
                  refine va_get (D := (dC, dI)) (ci := 9) (v := .ref a8) (C := RX9) (T := TX9) (N := 22) hx hb hts in_X9_notice_X9 hown hK hP 1 rfl rfl 12 (by decide) (hts (.fieldLink RX9 39 "MeetingsAboveModel" "noted" "[I") (by decide +kernel)) (fun _ h9 => h9) rfl dX9_notice_211 ?_
                  refine lv_bipush (v := 8) hx hb dX9_notice_214 (by decide) ?_
                  refine lv_iload hx hb dX9_notice_216 (lv_at hl 0 rfl) ?_
                  refine lv_imul hx hb dX9_notice_218 ?_
                  refine lv_topi (fun y_49 ey_49 => ?_)
                  have ty_49 : y_49.toInt = 8 * nn.toInt := by rw [ey_49]; exact fm_lI kl_8 (by omega) (by omega)
                  refine lv_iconst (v := 5) hx hb dX9_notice_219 (by decide) ?_
                  refine lv_iadd hx hb dX9_notice_220 ?_
                  refine lv_topi (fun y_50 ey_50 => ?_)
                  have ty_50 : y_50.toInt = y_49.toInt + 5 := by rw [ey_50]; have := fb_addI (x := y_49) (y := 5) (by omega) (by omega); omega
                  refine lv_iconst (v := 1) hx hb dX9_notice_221 (by decide) ?_
                  refine va_iast hx hb hK hP hD hS 0 0 rfl rfl (vp_in_iff.mpr ⟨by omega, by omega⟩) dX9_notice_222 (fun H locs hP hD hS => ?_)
                  have hP : va_P (dC, dI) vwCl [(a8, .inl (cI, 320, .inl (upd (upd (upd (upd (upd (upd No (y_38 : Int32).toNatClampNeg p2) (y_40 : Int32).toNatClampNeg p2) (y_42 : Int32).toNatClampNeg y_44) (y_46 : Int32).toNatClampNeg wh9_6) (y_48 : Int32).toNatClampNeg b5) (y_50 : Int32).toNatClampNeg 1))), (h0, .inr (9, [.int th, .ref a1, .ref a2, .ref a3, .ref a4, .ref a5, .int ne, .int wi, .int dn, .ref a6, .ref a7, .int nn, .ref a8, .int la, .ref a9, .ref a10, .long up9_5, .long u_3, .int wh9_6, .long pu9_7, .long pw9_8, .ref a11])), (a1, .inl (cI, 16, .inl Fi)), (a2, .inl (cI, 16, .inl Ma)), (a4, .inl (cZ, 16, .inl Go)), (a5, .inl (cI, 576, .inl Sp))] H := hP
                  have hD : va_D A [(a8, .inl (cI, 320, .inl (upd (upd (upd (upd (upd (upd No (y_38 : Int32).toNatClampNeg p2) (y_40 : Int32).toNatClampNeg p2) (y_42 : Int32).toNatClampNeg y_44) (y_46 : Int32).toNatClampNeg wh9_6) (y_48 : Int32).toNatClampNeg b5) (y_50 : Int32).toNatClampNeg 1))), (h0, .inr (9, [.int th, .ref a1, .ref a2, .ref a3, .ref a4, .ref a5, .int ne, .int wi, .int dn, .ref a6, .ref a7, .int nn, .ref a8, .int la, .ref a9, .ref a10, .long up9_5, .long u_3, .int wh9_6, .long pu9_7, .long pw9_8, .ref a11])), (a1, .inl (cI, 16, .inl Fi)), (a2, .inl (cI, 16, .inl Ma)), (a4, .inl (cZ, 16, .inl Go)), (a5, .inl (cI, 576, .inl Sp))] := hD
                  refine lv_aload_n hx hb dX9_notice_223 rfl (lv_at hl 1 rfl) ?_
                  refine va_get (D := (dC, dI)) (ci := 9) (v := .ref a8) (C := RX9) (T := TX9) (N := 22) hx hb hts in_X9_notice_X9 hown hK hP 1 rfl rfl 12 (by decide) (hts (.fieldLink RX9 39 "MeetingsAboveModel" "noted" "[I") (by decide +kernel)) (fun _ h9 => h9) rfl dX9_notice_224 ?_
                  refine lv_bipush (v := 8) hx hb dX9_notice_227 (by decide) ?_
                  refine lv_iload hx hb dX9_notice_229 (lv_at hl 0 rfl) ?_
                  refine lv_imul hx hb dX9_notice_231 ?_
                  refine lv_topi (fun y_51 ey_51 => ?_)
                  have ty_51 : y_51.toInt = 8 * nn.toInt := by rw [ey_51]; exact fm_lI kl_8 (by omega) (by omega)
                  refine lv_bipush (v := 6) hx hb dX9_notice_232 (by decide) ?_
                  refine lv_iadd hx hb dX9_notice_234 ?_
                  refine lv_topi (fun y_52 ey_52 => ?_)
                  have ty_52 : y_52.toInt = y_51.toInt + 6 := by rw [ey_52]; have := fb_addI (x := y_51) (y := 6) (by omega) (by omega); omega
                  refine lv_iconst (v := 0) hx hb dX9_notice_235 (by decide) ?_
                  refine va_iast hx hb hK hP hD hS 0 0 rfl rfl (vp_in_iff.mpr ⟨by omega, by omega⟩) dX9_notice_236 (fun H locs hP hD hS => ?_)
                  have hP : va_P (dC, dI) vwCl [(a8, .inl (cI, 320, .inl (upd (upd (upd (upd (upd (upd (upd No (y_38 : Int32).toNatClampNeg p2) (y_40 : Int32).toNatClampNeg p2) (y_42 : Int32).toNatClampNeg y_44) (y_46 : Int32).toNatClampNeg wh9_6) (y_48 : Int32).toNatClampNeg b5) (y_50 : Int32).toNatClampNeg 1) (y_52 : Int32).toNatClampNeg 0))), (h0, .inr (9, [.int th, .ref a1, .ref a2, .ref a3, .ref a4, .ref a5, .int ne, .int wi, .int dn, .ref a6, .ref a7, .int nn, .ref a8, .int la, .ref a9, .ref a10, .long up9_5, .long u_3, .int wh9_6, .long pu9_7, .long pw9_8, .ref a11])), (a1, .inl (cI, 16, .inl Fi)), (a2, .inl (cI, 16, .inl Ma)), (a4, .inl (cZ, 16, .inl Go)), (a5, .inl (cI, 576, .inl Sp))] H := hP
                  have hD : va_D A [(a8, .inl (cI, 320, .inl (upd (upd (upd (upd (upd (upd (upd No (y_38 : Int32).toNatClampNeg p2) (y_40 : Int32).toNatClampNeg p2) (y_42 : Int32).toNatClampNeg y_44) (y_46 : Int32).toNatClampNeg wh9_6) (y_48 : Int32).toNatClampNeg b5) (y_50 : Int32).toNatClampNeg 1) (y_52 : Int32).toNatClampNeg 0))), (h0, .inr (9, [.int th, .ref a1, .ref a2, .ref a3, .ref a4, .ref a5, .int ne, .int wi, .int dn, .ref a6, .ref a7, .int nn, .ref a8, .int la, .ref a9, .ref a10, .long up9_5, .long u_3, .int wh9_6, .long pu9_7, .long pw9_8, .ref a11])), (a1, .inl (cI, 16, .inl Fi)), (a2, .inl (cI, 16, .inl Ma)), (a4, .inl (cZ, 16, .inl Go)), (a5, .inl (cI, 576, .inl Sp))] := hD
                  refine lv_aload_n hx hb dX9_notice_237 rfl (lv_at hl 1 rfl) ?_
                  refine va_get (D := (dC, dI)) (ci := 9) (v := .ref a8) (C := RX9) (T := TX9) (N := 22) hx hb hts in_X9_notice_X9 hown hK hP 1 rfl rfl 12 (by decide) (hts (.fieldLink RX9 39 "MeetingsAboveModel" "noted" "[I") (by decide +kernel)) (fun _ h9 => h9) rfl dX9_notice_238 ?_
                  refine lv_bipush (v := 8) hx hb dX9_notice_241 (by decide) ?_
                  refine lv_iload hx hb dX9_notice_243 (lv_at hl 0 rfl) ?_
                  refine lv_imul hx hb dX9_notice_245 ?_
                  refine lv_topi (fun y_53 ey_53 => ?_)
                  have ty_53 : y_53.toInt = 8 * nn.toInt := by rw [ey_53]; exact fm_lI kl_8 (by omega) (by omega)
                  refine lv_bipush (v := 7) hx hb dX9_notice_246 (by decide) ?_
                  refine lv_iadd hx hb dX9_notice_248 ?_
                  refine lv_topi (fun y_54 ey_54 => ?_)
                  have ty_54 : y_54.toInt = y_53.toInt + 7 := by rw [ey_54]; have := fb_addI (x := y_53) (y := 7) (by omega) (by omega); omega
                  refine lv_iconst (v := 0) hx hb dX9_notice_249 (by decide) ?_
                  refine va_iast hx hb hK hP hD hS 0 0 rfl rfl (vp_in_iff.mpr ⟨by omega, by omega⟩) dX9_notice_250 (fun H locs hP hD hS => ?_)
                  have hP : va_P (dC, dI) vwCl [(a8, .inl (cI, 320, .inl (upd (upd (upd (upd (upd (upd (upd (upd No (y_38 : Int32).toNatClampNeg p2) (y_40 : Int32).toNatClampNeg p2) (y_42 : Int32).toNatClampNeg y_44) (y_46 : Int32).toNatClampNeg wh9_6) (y_48 : Int32).toNatClampNeg b5) (y_50 : Int32).toNatClampNeg 1) (y_52 : Int32).toNatClampNeg 0) (y_54 : Int32).toNatClampNeg 0))), (h0, .inr (9, [.int th, .ref a1, .ref a2, .ref a3, .ref a4, .ref a5, .int ne, .int wi, .int dn, .ref a6, .ref a7, .int nn, .ref a8, .int la, .ref a9, .ref a10, .long up9_5, .long u_3, .int wh9_6, .long pu9_7, .long pw9_8, .ref a11])), (a1, .inl (cI, 16, .inl Fi)), (a2, .inl (cI, 16, .inl Ma)), (a4, .inl (cZ, 16, .inl Go)), (a5, .inl (cI, 576, .inl Sp))] H := hP
                  have hD : va_D A [(a8, .inl (cI, 320, .inl (upd (upd (upd (upd (upd (upd (upd (upd No (y_38 : Int32).toNatClampNeg p2) (y_40 : Int32).toNatClampNeg p2) (y_42 : Int32).toNatClampNeg y_44) (y_46 : Int32).toNatClampNeg wh9_6) (y_48 : Int32).toNatClampNeg b5) (y_50 : Int32).toNatClampNeg 1) (y_52 : Int32).toNatClampNeg 0) (y_54 : Int32).toNatClampNeg 0))), (h0, .inr (9, [.int th, .ref a1, .ref a2, .ref a3, .ref a4, .ref a5, .int ne, .int wi, .int dn, .ref a6, .ref a7, .int nn, .ref a8, .int la, .ref a9, .ref a10, .long up9_5, .long u_3, .int wh9_6, .long pu9_7, .long pw9_8, .ref a11])), (a1, .inl (cI, 16, .inl Fi)), (a2, .inl (cI, 16, .inl Ma)), (a4, .inl (cZ, 16, .inl Go)), (a5, .inl (cI, 576, .inl Sp))] := hD
                  refine lv_iload hx hb dX9_notice_251 (lv_at hl 6 rfl) ?_
                  refine lv_if_lt (tgt := 269) hx hb dX9_notice_253 (by decide) (fun c_253 => ?_) (fun c_253 => ?_)
                  · have t_253 := (fa_lt _ _).mp c_253
                    refine lv_aload_n hx hb dX9_notice_269 rfl (lv_at hl 1 rfl) ?_
                    refine lv_dup hx hb dX9_notice_270 rfl ?_
                    refine va_get (D := (dC, dI)) (ci := 9) (v := .int nn) (C := RX9) (T := TX9) (N := 22) hx hb hts in_X9_notice_X9 hown hK hP 1 rfl rfl 11 (by decide) (hts (.fieldLink RX9 115 "MeetingsAboveModel" "notices" "I") (by decide +kernel)) (fun _ h9 => h9) rfl dX9_notice_271 ?_
                    refine lv_iconst (v := 1) hx hb dX9_notice_274 (by decide) ?_
                    refine lv_iadd hx hb dX9_notice_275 ?_
                    refine lv_topi (fun y_55 ey_55 => ?_)
                    have ty_55 : y_55.toInt = nn.toInt + 1 := by rw [ey_55]; have := fb_addI (x := nn) (y := 1) (by omega) (by omega); omega
                    refine va_put (D := (dC, dI)) (ci := 9) (v := .int y_55) (ty := .int) (C := RX9) (T := TX9) (N := 22) hx hb hts in_X9_notice_X9 tyX9 tyX9_ok nmX9 hown hK hP hD hS 1 rfl rfl 11 (by decide) (hts (.fieldLink RX9 115 "MeetingsAboveModel" "notices" "I") (by decide +kernel)) (fun _ h9 => h9) rfl (by decide +kernel) rfl rfl (Nat.le_of_ble_eq_true rfl) dX9_notice_276 (fun H locs hP hD hS => ?_)
                    have hP : va_P (dC, dI) vwCl [(a8, .inl (cI, 320, .inl (upd (upd (upd (upd (upd (upd (upd (upd No (y_38 : Int32).toNatClampNeg p2) (y_40 : Int32).toNatClampNeg p2) (y_42 : Int32).toNatClampNeg y_44) (y_46 : Int32).toNatClampNeg wh9_6) (y_48 : Int32).toNatClampNeg b5) (y_50 : Int32).toNatClampNeg 1) (y_52 : Int32).toNatClampNeg 0) (y_54 : Int32).toNatClampNeg 0))), (h0, .inr (9, [.int th, .ref a1, .ref a2, .ref a3, .ref a4, .ref a5, .int ne, .int wi, .int dn, .ref a6, .ref a7, .int y_55, .ref a8, .int la, .ref a9, .ref a10, .long up9_5, .long u_3, .int wh9_6, .long pu9_7, .long pw9_8, .ref a11])), (a1, .inl (cI, 16, .inl Fi)), (a2, .inl (cI, 16, .inl Ma)), (a4, .inl (cZ, 16, .inl Go)), (a5, .inl (cI, 576, .inl Sp))] H := hP
                    have hD : va_D A [(a8, .inl (cI, 320, .inl (upd (upd (upd (upd (upd (upd (upd (upd No (y_38 : Int32).toNatClampNeg p2) (y_40 : Int32).toNatClampNeg p2) (y_42 : Int32).toNatClampNeg y_44) (y_46 : Int32).toNatClampNeg wh9_6) (y_48 : Int32).toNatClampNeg b5) (y_50 : Int32).toNatClampNeg 1) (y_52 : Int32).toNatClampNeg 0) (y_54 : Int32).toNatClampNeg 0))), (h0, .inr (9, [.int th, .ref a1, .ref a2, .ref a3, .ref a4, .ref a5, .int ne, .int wi, .int dn, .ref a6, .ref a7, .int y_55, .ref a8, .int la, .ref a9, .ref a10, .long up9_5, .long u_3, .int wh9_6, .long pu9_7, .long pw9_8, .ref a11])), (a1, .inl (cI, 16, .inl Fi)), (a2, .inl (cI, 16, .inl Ma)), (a4, .inl (cZ, 16, .inl Go)), (a5, .inl (cI, 576, .inl Sp))] := hD
                    refine lv_iload hx hb dX9_notice_279 (lv_at hl 0 rfl) ?_
                    have hP9 := hP.sub (ws' := [(h0, .inr (9, [.int th, .ref a1, .ref a2, .ref a3, .ref a4, .ref a5, .int ne, .int wi, .int dn, .ref a6, .ref a7, .int y_55, .ref a8, .int la, .ref a9, .ref a10, .long up9_5, .long u_3, .int wh9_6, .long pu9_7, .long pw9_8, .ref a11])), (a1, .inl (cI, 16, .inl Fi)), (a2, .inl (cI, 16, .inl Ma)), (a4, .inl (cZ, 16, .inl Go)), (a5, .inl (cI, 576, .inl Sp)), (a8, .inl (cI, 320, .inl (upd (upd (upd (upd (upd (upd (upd (upd No (y_38 : Int32).toNatClampNeg p2) (y_40 : Int32).toNatClampNeg p2) (y_42 : Int32).toNatClampNeg y_44) (y_46 : Int32).toNatClampNeg wh9_6) (y_48 : Int32).toNatClampNeg b5) (y_50 : Int32).toNatClampNeg 1) (y_52 : Int32).toNatClampNeg 0) (y_54 : Int32).toNatClampNeg 0)))]) [1, 2, 3, 4, 5, 0] rfl
                    have hD9 := hD.sub (ws' := [(h0, .inr (9, [.int th, .ref a1, .ref a2, .ref a3, .ref a4, .ref a5, .int ne, .int wi, .int dn, .ref a6, .ref a7, .int y_55, .ref a8, .int la, .ref a9, .ref a10, .long up9_5, .long u_3, .int wh9_6, .long pu9_7, .long pw9_8, .ref a11])), (a1, .inl (cI, 16, .inl Fi)), (a2, .inl (cI, 16, .inl Ma)), (a4, .inl (cZ, 16, .inl Go)), (a5, .inl (cI, 576, .inl Sp)), (a8, .inl (cI, 320, .inl (upd (upd (upd (upd (upd (upd (upd (upd No (y_38 : Int32).toNatClampNeg p2) (y_40 : Int32).toNatClampNeg p2) (y_42 : Int32).toNatClampNeg y_44) (y_46 : Int32).toNatClampNeg wh9_6) (y_48 : Int32).toNatClampNeg b5) (y_50 : Int32).toNatClampNeg 1) (y_52 : Int32).toNatClampNeg 0) (y_54 : Int32).toNatClampNeg 0)))]) [1, 2, 3, 4, 5, 0] (by decide) rfl
                    have hK9 := hK.sub (tys' := [(cI, .int), (cZ, .boolean)]) [0, 1] rfl
                    refine W.widen (k := 0) (n := 0) (by omega) (by omega) ?_
                    exact W.iret (v := nn) hx hb hr (fun t ht hW => ⟨⟨_, (), rfl, trivial, up9_5, u_3, wh9_6, pu9_7, pw9_8, y_55, (upd (upd (upd (upd (upd (upd (upd (upd No (y_38 : Int32).toNatClampNeg p2) (y_40 : Int32).toNatClampNeg p2) (y_42 : Int32).toNatClampNeg y_44) (y_46 : Int32).toNatClampNeg wh9_6) (y_48 : Int32).toNatClampNeg b5) (y_50 : Int32).toNatClampNeg 1) (y_52 : Int32).toNatClampNeg 0) (y_54 : Int32).toNatClampNeg 0), by rw [ht]; exact hP9, va_K.moved hW.alike hK9, hD9, (by omega), (by omega)⟩, hS.F ht⟩) hS.2.2 dX9_notice_281
                  · have t_253 := mt (fa_lt _ _).mpr c_253
                    refine lv_aload_n hx hb dX9_notice_256 rfl (lv_at hl 1 rfl) ?_
                    refine va_get (D := (dC, dI)) (ci := 9) (v := .ref a8) (C := RX9) (T := TX9) (N := 22) hx hb hts in_X9_notice_X9 hown hK hP 1 rfl rfl 12 (by decide) (hts (.fieldLink RX9 39 "MeetingsAboveModel" "noted" "[I") (by decide +kernel)) (fun _ h9 => h9) rfl dX9_notice_257 ?_
                    refine lv_bipush (v := 8) hx hb dX9_notice_260 (by decide) ?_
                    refine lv_iload hx hb dX9_notice_262 (lv_at hl 6 rfl) ?_
                    refine lv_imul hx hb dX9_notice_264 ?_
                    refine lv_topi (fun y_56 ey_56 => ?_)
                    have ty_56 : y_56.toInt = 8 * b5.toInt := by rw [ey_56]; exact fm_lI kl_8 (by omega) (by omega)
                    refine lv_iconst (v := 5) hx hb dX9_notice_265 (by decide) ?_
                    refine lv_iadd hx hb dX9_notice_266 ?_
                    refine lv_topi (fun y_57 ey_57 => ?_)
                    have ty_57 : y_57.toInt = y_56.toInt + 5 := by rw [ey_57]; have := fb_addI (x := y_56) (y := 5) (by omega) (by omega); omega
                    refine lv_iconst (v := 0) hx hb dX9_notice_267 (by decide) ?_
                    refine va_iast hx hb hK hP hD hS 0 0 rfl rfl (vp_in_iff.mpr ⟨by omega, by omega⟩) dX9_notice_268 (fun H locs hP hD hS => ?_)
                    have hP : va_P (dC, dI) vwCl [(a8, .inl (cI, 320, .inl (upd (upd (upd (upd (upd (upd (upd (upd (upd No (y_38 : Int32).toNatClampNeg p2) (y_40 : Int32).toNatClampNeg p2) (y_42 : Int32).toNatClampNeg y_44) (y_46 : Int32).toNatClampNeg wh9_6) (y_48 : Int32).toNatClampNeg b5) (y_50 : Int32).toNatClampNeg 1) (y_52 : Int32).toNatClampNeg 0) (y_54 : Int32).toNatClampNeg 0) (y_57 : Int32).toNatClampNeg 0))), (h0, .inr (9, [.int th, .ref a1, .ref a2, .ref a3, .ref a4, .ref a5, .int ne, .int wi, .int dn, .ref a6, .ref a7, .int nn, .ref a8, .int la, .ref a9, .ref a10, .long up9_5, .long u_3, .int wh9_6, .long pu9_7, .long pw9_8, .ref a11])), (a1, .inl (cI, 16, .inl Fi)), (a2, .inl (cI, 16, .inl Ma)), (a4, .inl (cZ, 16, .inl Go)), (a5, .inl (cI, 576, .inl Sp))] H := hP
                    have hD : va_D A [(a8, .inl (cI, 320, .inl (upd (upd (upd (upd (upd (upd (upd (upd (upd No (y_38 : Int32).toNatClampNeg p2) (y_40 : Int32).toNatClampNeg p2) (y_42 : Int32).toNatClampNeg y_44) (y_46 : Int32).toNatClampNeg wh9_6) (y_48 : Int32).toNatClampNeg b5) (y_50 : Int32).toNatClampNeg 1) (y_52 : Int32).toNatClampNeg 0) (y_54 : Int32).toNatClampNeg 0) (y_57 : Int32).toNatClampNeg 0))), (h0, .inr (9, [.int th, .ref a1, .ref a2, .ref a3, .ref a4, .ref a5, .int ne, .int wi, .int dn, .ref a6, .ref a7, .int nn, .ref a8, .int la, .ref a9, .ref a10, .long up9_5, .long u_3, .int wh9_6, .long pu9_7, .long pw9_8, .ref a11])), (a1, .inl (cI, 16, .inl Fi)), (a2, .inl (cI, 16, .inl Ma)), (a4, .inl (cZ, 16, .inl Go)), (a5, .inl (cI, 576, .inl Sp))] := hD
                    refine lv_aload_n hx hb dX9_notice_269 rfl (lv_at hl 1 rfl) ?_
                    refine lv_dup hx hb dX9_notice_270 rfl ?_
                    refine va_get (D := (dC, dI)) (ci := 9) (v := .int nn) (C := RX9) (T := TX9) (N := 22) hx hb hts in_X9_notice_X9 hown hK hP 1 rfl rfl 11 (by decide) (hts (.fieldLink RX9 115 "MeetingsAboveModel" "notices" "I") (by decide +kernel)) (fun _ h9 => h9) rfl dX9_notice_271 ?_
                    refine lv_iconst (v := 1) hx hb dX9_notice_274 (by decide) ?_
                    refine lv_iadd hx hb dX9_notice_275 ?_
                    refine lv_topi (fun y_58 ey_58 => ?_)
                    have ty_58 : y_58.toInt = nn.toInt + 1 := by rw [ey_58]; have := fb_addI (x := nn) (y := 1) (by omega) (by omega); omega
                    refine va_put (D := (dC, dI)) (ci := 9) (v := .int y_58) (ty := .int) (C := RX9) (T := TX9) (N := 22) hx hb hts in_X9_notice_X9 tyX9 tyX9_ok nmX9 hown hK hP hD hS 1 rfl rfl 11 (by decide) (hts (.fieldLink RX9 115 "MeetingsAboveModel" "notices" "I") (by decide +kernel)) (fun _ h9 => h9) rfl (by decide +kernel) rfl rfl (Nat.le_of_ble_eq_true rfl) dX9_notice_276 (fun H locs hP hD hS => ?_)
                    have hP : va_P (dC, dI) vwCl [(a8, .inl (cI, 320, .inl (upd (upd (upd (upd (upd (upd (upd (upd (upd No (y_38 : Int32).toNatClampNeg p2) (y_40 : Int32).toNatClampNeg p2) (y_42 : Int32).toNatClampNeg y_44) (y_46 : Int32).toNatClampNeg wh9_6) (y_48 : Int32).toNatClampNeg b5) (y_50 : Int32).toNatClampNeg 1) (y_52 : Int32).toNatClampNeg 0) (y_54 : Int32).toNatClampNeg 0) (y_57 : Int32).toNatClampNeg 0))), (h0, .inr (9, [.int th, .ref a1, .ref a2, .ref a3, .ref a4, .ref a5, .int ne, .int wi, .int dn, .ref a6, .ref a7, .int y_58, .ref a8, .int la, .ref a9, .ref a10, .long up9_5, .long u_3, .int wh9_6, .long pu9_7, .long pw9_8, .ref a11])), (a1, .inl (cI, 16, .inl Fi)), (a2, .inl (cI, 16, .inl Ma)), (a4, .inl (cZ, 16, .inl Go)), (a5, .inl (cI, 576, .inl Sp))] H := hP
                    have hD : va_D A [(a8, .inl (cI, 320, .inl (upd (upd (upd (upd (upd (upd (upd (upd (upd No (y_38 : Int32).toNatClampNeg p2) (y_40 : Int32).toNatClampNeg p2) (y_42 : Int32).toNatClampNeg y_44) (y_46 : Int32).toNatClampNeg wh9_6) (y_48 : Int32).toNatClampNeg b5) (y_50 : Int32).toNatClampNeg 1) (y_52 : Int32).toNatClampNeg 0) (y_54 : Int32).toNatClampNeg 0) (y_57 : Int32).toNatClampNeg 0))), (h0, .inr (9, [.int th, .ref a1, .ref a2, .ref a3, .ref a4, .ref a5, .int ne, .int wi, .int dn, .ref a6, .ref a7, .int y_58, .ref a8, .int la, .ref a9, .ref a10, .long up9_5, .long u_3, .int wh9_6, .long pu9_7, .long pw9_8, .ref a11])), (a1, .inl (cI, 16, .inl Fi)), (a2, .inl (cI, 16, .inl Ma)), (a4, .inl (cZ, 16, .inl Go)), (a5, .inl (cI, 576, .inl Sp))] := hD
                    refine lv_iload hx hb dX9_notice_279 (lv_at hl 0 rfl) ?_
                    have hP9 := hP.sub (ws' := [(h0, .inr (9, [.int th, .ref a1, .ref a2, .ref a3, .ref a4, .ref a5, .int ne, .int wi, .int dn, .ref a6, .ref a7, .int y_58, .ref a8, .int la, .ref a9, .ref a10, .long up9_5, .long u_3, .int wh9_6, .long pu9_7, .long pw9_8, .ref a11])), (a1, .inl (cI, 16, .inl Fi)), (a2, .inl (cI, 16, .inl Ma)), (a4, .inl (cZ, 16, .inl Go)), (a5, .inl (cI, 576, .inl Sp)), (a8, .inl (cI, 320, .inl (upd (upd (upd (upd (upd (upd (upd (upd (upd No (y_38 : Int32).toNatClampNeg p2) (y_40 : Int32).toNatClampNeg p2) (y_42 : Int32).toNatClampNeg y_44) (y_46 : Int32).toNatClampNeg wh9_6) (y_48 : Int32).toNatClampNeg b5) (y_50 : Int32).toNatClampNeg 1) (y_52 : Int32).toNatClampNeg 0) (y_54 : Int32).toNatClampNeg 0) (y_57 : Int32).toNatClampNeg 0)))]) [1, 2, 3, 4, 5, 0] rfl
                    have hD9 := hD.sub (ws' := [(h0, .inr (9, [.int th, .ref a1, .ref a2, .ref a3, .ref a4, .ref a5, .int ne, .int wi, .int dn, .ref a6, .ref a7, .int y_58, .ref a8, .int la, .ref a9, .ref a10, .long up9_5, .long u_3, .int wh9_6, .long pu9_7, .long pw9_8, .ref a11])), (a1, .inl (cI, 16, .inl Fi)), (a2, .inl (cI, 16, .inl Ma)), (a4, .inl (cZ, 16, .inl Go)), (a5, .inl (cI, 576, .inl Sp)), (a8, .inl (cI, 320, .inl (upd (upd (upd (upd (upd (upd (upd (upd (upd No (y_38 : Int32).toNatClampNeg p2) (y_40 : Int32).toNatClampNeg p2) (y_42 : Int32).toNatClampNeg y_44) (y_46 : Int32).toNatClampNeg wh9_6) (y_48 : Int32).toNatClampNeg b5) (y_50 : Int32).toNatClampNeg 1) (y_52 : Int32).toNatClampNeg 0) (y_54 : Int32).toNatClampNeg 0) (y_57 : Int32).toNatClampNeg 0)))]) [1, 2, 3, 4, 5, 0] (by decide) rfl
                    have hK9 := hK.sub (tys' := [(cI, .int), (cZ, .boolean)]) [0, 1] rfl
                    refine W.widen (k := 0) (n := 0) (by omega) (by omega) ?_
                    exact W.iret (v := nn) hx hb hr (fun t ht hW => ⟨⟨_, (), rfl, trivial, up9_5, u_3, wh9_6, pu9_7, pw9_8, y_58, (upd (upd (upd (upd (upd (upd (upd (upd (upd No (y_38 : Int32).toNatClampNeg p2) (y_40 : Int32).toNatClampNeg p2) (y_42 : Int32).toNatClampNeg y_44) (y_46 : Int32).toNatClampNeg wh9_6) (y_48 : Int32).toNatClampNeg b5) (y_50 : Int32).toNatClampNeg 1) (y_52 : Int32).toNatClampNeg 0) (y_54 : Int32).toNatClampNeg 0) (y_57 : Int32).toNatClampNeg 0), by rw [ht]; exact hP9, va_K.moved hW.alike hK9, hD9, (by omega), (by omega)⟩, hS.F ht⟩) hS.2.2 dX9_notice_281
                · have t_78 := mt (fa_le _ _).mpr c_78
                  refine lv_aload_n hx hb dX9_notice_81 rfl (lv_at hl 0 rfl) ?_
                  refine va_get (D := (dC, dI)) (ci := 9) (v := .ref a8) (C := RX9) (T := TX9) (N := 22) hx hb hts in_X9_notice_X9 hown hK hP 1 rfl rfl 12 (by decide) (hts (.fieldLink RX9 39 "MeetingsAboveModel" "noted" "[I") (by decide +kernel)) (fun _ h9 => h9) rfl dX9_notice_82 ?_
                  refine lv_bipush (v := 8) hx hb dX9_notice_85 (by decide) ?_
                  refine lv_iload hx hb dX9_notice_87 (lv_at hl 6 rfl) ?_
                  refine lv_imul hx hb dX9_notice_89 ?_
                  refine lv_topi (fun y_59 ey_59 => ?_)
                  have ty_59 : y_59.toInt = 8 * k6.toInt := by rw [ey_59]; exact fm_lI kl_8 (by omega) (by omega)
                  refine va_iald hx hb hK hP 0 0 rfl rfl (vp_in_iff.mpr ⟨by omega, by omega⟩) dX9_notice_90 ?_
                  refine lv_topi (fun y_60 ey_60 => ?_)
                  refine lv_iload_n hx hb dX9_notice_91 rfl (lv_at hl 3 rfl) ?_
                  refine lv_icmp_ne (tgt := 117) hx hb dX9_notice_92 (by decide) (fun c_92 => ?_) (fun c_92 => ?_)
                  · have t_92 := mt (fa_eq _ _).mpr c_92
                    refine lv_iload hx hb dX9_notice_117 (lv_at hl 5 rfl) ?_
                    refine lv_istore (lv' := [(5, .int b5), (0, .ref h0), (1, .int p1), (2, .int p2), (3, .int p2), (4, .int p2), (6, .int k6)]) hx hb dX9_notice_119 hl (by decide) rfl (fun ls hl => ?_)
                    obtain ⟨y_61, ey_61⟩ : ∃ y : Int32, y = k6 + 1 := ⟨_, rfl⟩
                    have ty_61 : y_61.toInt = k6.toInt + 1 := by rw [ey_61]; have := fb_addI (x := k6) (y := 1) (by omega) (by omega); omega
                    refine lv_iinc (v := y_61) (lv' := [(6, .int y_61), (5, .int b5), (0, .ref h0), (1, .int p1), (2, .int p2), (3, .int p2), (4, .int p2)]) hx hb dX9_notice_121 hl (k := 6) rfl (by rw [ey_61]; rfl) (by decide) rfl (fun ls hl => ?_)
                    refine lv_goto (tgt := 72) hx hb dX9_notice_124 (by decide) ?_
                    exact ih_72 b5 y_61 (by omega) (by omega) (by omega) (by omega) (by omega) H _ (hP.sub [0, 1, 2, 3, 4, 5] rfl) (hD.sub [0, 1, 2, 3, 4, 5] (by decide) rfl) hS ls (lv_sub hl [2, 3, 4, 5, 6, 1, 0] rfl)
                  · have t_92 := (fa_eq _ _).mp c_92
                    refine lv_aload_n hx hb dX9_notice_95 rfl (lv_at hl 0 rfl) ?_
                    refine va_get (D := (dC, dI)) (ci := 9) (v := .ref a8) (C := RX9) (T := TX9) (N := 22) hx hb hts in_X9_notice_X9 hown hK hP 1 rfl rfl 12 (by decide) (hts (.fieldLink RX9 39 "MeetingsAboveModel" "noted" "[I") (by decide +kernel)) (fun _ h9 => h9) rfl dX9_notice_96 ?_
                    refine lv_bipush (v := 8) hx hb dX9_notice_99 (by decide) ?_
                    refine lv_iload hx hb dX9_notice_101 (lv_at hl 6 rfl) ?_
                    refine lv_imul hx hb dX9_notice_103 ?_
                    refine lv_topi (fun y_62 ey_62 => ?_)
                    have ty_62 : y_62.toInt = 8 * k6.toInt := by rw [ey_62]; exact fm_lI kl_8 (by omega) (by omega)
                    refine lv_iconst (v := 1) hx hb dX9_notice_104 (by decide) ?_
                    refine lv_iadd hx hb dX9_notice_105 ?_
                    refine lv_topi (fun y_63 ey_63 => ?_)
                    have ty_63 : y_63.toInt = y_62.toInt + 1 := by rw [ey_63]; have := fb_addI (x := y_62) (y := 1) (by omega) (by omega); omega
                    refine va_iald hx hb hK hP 0 0 rfl rfl (vp_in_iff.mpr ⟨by omega, by omega⟩) dX9_notice_106 ?_
                    refine lv_topi (fun y_64 ey_64 => ?_)
                    refine lv_iload hx hb dX9_notice_107 (lv_at hl 4 rfl) ?_
                    refine lv_icmp_ne (tgt := 117) hx hb dX9_notice_109 (by decide) (fun c_109 => ?_) (fun c_109 => ?_)
                    · have t_109 := mt (fa_eq _ _).mpr c_109
                      refine lv_iload hx hb dX9_notice_117 (lv_at hl 5 rfl) ?_
                      refine lv_istore (lv' := [(5, .int b5), (0, .ref h0), (1, .int p1), (2, .int p2), (3, .int p2), (4, .int p2), (6, .int k6)]) hx hb dX9_notice_119 hl (by decide) rfl (fun ls hl => ?_)
                      obtain ⟨y_65, ey_65⟩ : ∃ y : Int32, y = k6 + 1 := ⟨_, rfl⟩
                      have ty_65 : y_65.toInt = k6.toInt + 1 := by rw [ey_65]; have := fb_addI (x := k6) (y := 1) (by omega) (by omega); omega
                      refine lv_iinc (v := y_65) (lv' := [(6, .int y_65), (5, .int b5), (0, .ref h0), (1, .int p1), (2, .int p2), (3, .int p2), (4, .int p2)]) hx hb dX9_notice_121 hl (k := 6) rfl (by rw [ey_65]; rfl) (by decide) rfl (fun ls hl => ?_)
                      refine lv_goto (tgt := 72) hx hb dX9_notice_124 (by decide) ?_
                      exact ih_72 b5 y_65 (by omega) (by omega) (by omega) (by omega) (by omega) H _ (hP.sub [0, 1, 2, 3, 4, 5] rfl) (hD.sub [0, 1, 2, 3, 4, 5] (by decide) rfl) hS ls (lv_sub hl [2, 3, 4, 5, 6, 1, 0] rfl)
                    · have t_109 := (fa_eq _ _).mp c_109
                      refine lv_iload hx hb dX9_notice_112 (lv_at hl 6 rfl) ?_
                      refine lv_goto (tgt := 119) hx hb dX9_notice_114 (by decide) ?_
                      refine lv_istore (lv' := [(5, .int k6), (0, .ref h0), (1, .int p1), (2, .int p2), (3, .int p2), (4, .int p2), (6, .int k6)]) hx hb dX9_notice_119 hl (by decide) rfl (fun ls hl => ?_)
                      obtain ⟨y_66, ey_66⟩ : ∃ y : Int32, y = k6 + 1 := ⟨_, rfl⟩
                      have ty_66 : y_66.toInt = k6.toInt + 1 := by rw [ey_66]; have := fb_addI (x := k6) (y := 1) (by omega) (by omega); omega
                      refine lv_iinc (v := y_66) (lv' := [(6, .int y_66), (5, .int k6), (0, .ref h0), (1, .int p1), (2, .int p2), (3, .int p2), (4, .int p2)]) hx hb dX9_notice_121 hl (k := 6) rfl (by rw [ey_66]; rfl) (by decide) rfl (fun ls hl => ?_)
                      refine lv_goto (tgt := 72) hx hb dX9_notice_124 (by decide) ?_
                      exact ih_72 k6 y_66 (by omega) (by omega) (by omega) (by omega) (by omega) H _ (hP.sub [0, 1, 2, 3, 4, 5] rfl) (hD.sub [0, 1, 2, 3, 4, 5] (by decide) rfl) hS ls (lv_sub hl [2, 3, 4, 5, 6, 1, 0] rfl)
          · have t_45 := mt (fa_le _ _).mpr c_45
            refine lv_iload_n hx hb dX9_notice_48 rfl (lv_at hl 1 rfl) ?_
            refine lv_goto (tgt := 53) hx hb dX9_notice_49 (by decide) ?_
            refine lv_istore_n (lv' := [(3, .int p1), (0, .ref h0), (1, .int p1), (2, .int p2)]) hx hb dX9_notice_53 rfl hl (by decide) rfl (fun ls hl => ?_)
            refine lv_iload_n hx hb dX9_notice_54 rfl (lv_at hl 2 rfl) ?_
            refine lv_iload_n hx hb dX9_notice_55 rfl (lv_at hl 3 rfl) ?_
            refine lv_icmp_ge (tgt := 63) hx hb dX9_notice_56 (by decide) (fun c_56 => ?_) (fun c_56 => ?_)
            · have t_56 := (fa_le _ _).mp c_56
              refine lv_iload_n hx hb dX9_notice_63 rfl (lv_at hl 2 rfl) ?_
              refine lv_istore (lv' := [(4, .int p1), (3, .int p1), (0, .ref h0), (1, .int p1), (2, .int p2)]) hx hb dX9_notice_64 hl (by decide) rfl (fun ls hl => ?_)
              refine lv_iconst (v := (-1)) hx hb dX9_notice_66 (by decide) ?_
              refine lv_istore (lv' := [(5, .int (-1)), (4, .int p1), (3, .int p1), (0, .ref h0), (1, .int p1), (2, .int p2)]) hx hb dX9_notice_67 hl (by decide) rfl (fun ls hl => ?_)
              refine lv_iconst (v := 0) hx hb dX9_notice_69 (by decide) ?_
              refine lv_istore (lv' := [(6, .int 0), (5, .int (-1)), (4, .int p1), (3, .int p1), (0, .ref h0), (1, .int p1), (2, .int p2)]) hx hb dX9_notice_70 hl (by decide) rfl (fun ls hl => ?_)
              refine (show ∀ (k : Nat) (b5 : Int32) (k6 : Int32) (hk0 : 0 ≤ k6.toInt) (hk1 : k6.toInt ≤ nn.toInt) (hb0 : -1 ≤ b5.toInt) (hb1 : b5.toInt < nn.toInt ∨ b5.toInt = -1) (hk_72 : (nn.toInt - k6.toInt).toNat < k) (H : Heap) (locs : List Loc) (hP : va_P (dC, dI) vwCl [(a8, .inl (cI, 320, .inl No)), (h0, .inr (9, [.int th, .ref a1, .ref a2, .ref a3, .ref a4, .ref a5, .int ne, .int wi, .int dn, .ref a6, .ref a7, .int nn, .ref a8, .int la, .ref a9, .ref a10, .long up9_5, .long u_3, .int wh9_6, .long pu9_7, .long pw9_8, .ref a11])), (a1, .inl (cI, 16, .inl Fi)), (a2, .inl (cI, 16, .inl Ma)), (a4, .inl (cZ, 16, .inl Go)), (a5, .inl (cI, 576, .inl Sp))] H) (hD : va_D A [(a8, .inl (cI, 320, .inl No)), (h0, .inr (9, [.int th, .ref a1, .ref a2, .ref a3, .ref a4, .ref a5, .int ne, .int wi, .int dn, .ref a6, .ref a7, .int nn, .ref a8, .int la, .ref a9, .ref a10, .long up9_5, .long u_3, .int wh9_6, .long pu9_7, .long pw9_8, .ref a11])), (a1, .inl (cI, 16, .inl Fi)), (a2, .inl (cI, 16, .inl Ma)), (a4, .inl (cZ, 16, .inl Go)), (a5, .inl (cI, 576, .inl Sp))]) (hS : va_S A s.heap H locs) (ls : Array Slot) (hl : lv_has ls 7 [(0, .ref h0), (1, .int p1), (2, .int p2), (3, .int p1), (4, .int p1), (5, .int b5), (6, .int k6)]), W p l e _ s m _ below meth c H locs 0 0 _ (F0 m 72 ls []) from ?_) _ (-1) 0 (by omega) (by omega) (by omega) (by omega) (Nat.lt_succ_self _) H _ hP hD hS ls (lv_sub hl [4, 5, 6, 3, 2, 1, 0] rfl)
              intro k
              induction k with
              | zero => intro b5 k6 hk0 hk1 hb0 hb1 hk_72; exact absurd hk_72 (Nat.not_lt_zero _)
              | succ k ih_72 =>
                intro b5 k6 hk0 hk1 hb0 hb1 hk_72 H locs hP hD hS ls hl
                refine lv_iload hx hb dX9_notice_72 (lv_at hl 6 rfl) ?_
                refine lv_aload_n hx hb dX9_notice_74 rfl (lv_at hl 0 rfl) ?_
                refine va_get (D := (dC, dI)) (ci := 9) (v := .int nn) (C := RX9) (T := TX9) (N := 22) hx hb hts in_X9_notice_X9 hown hK hP 1 rfl rfl 11 (by decide) (hts (.fieldLink RX9 115 "MeetingsAboveModel" "notices" "I") (by decide +kernel)) (fun _ h9 => h9) rfl dX9_notice_75 ?_
                refine lv_icmp_ge (tgt := 127) hx hb dX9_notice_78 (by decide) (fun c_78 => ?_) (fun c_78 => ?_)
                · have t_78 := (fa_le _ _).mp c_78
                  refine lv_aload_n hx hb dX9_notice_127 rfl (lv_at hl 0 rfl) ?_
                  refine va_get (D := (dC, dI)) (ci := 9) (v := .int nn) (C := RX9) (T := TX9) (N := 22) hx hb hts in_X9_notice_X9 hown hK hP 1 rfl rfl 11 (by decide) (hts (.fieldLink RX9 115 "MeetingsAboveModel" "notices" "I") (by decide +kernel)) (fun _ h9 => h9) rfl dX9_notice_128 ?_
                  refine lv_istore (lv' := [(6, .int nn), (0, .ref h0), (1, .int p1), (2, .int p2), (3, .int p1), (4, .int p1), (5, .int b5)]) hx hb dX9_notice_131 hl (by decide) rfl (fun ls hl => ?_)
                  refine lv_aload_n hx hb dX9_notice_133 rfl (lv_at hl 1 rfl) ?_
                  refine va_get (D := (dC, dI)) (ci := 9) (v := .ref a8) (C := RX9) (T := TX9) (N := 22) hx hb hts in_X9_notice_X9 hown hK hP 1 rfl rfl 12 (by decide) (hts (.fieldLink RX9 39 "MeetingsAboveModel" "noted" "[I") (by decide +kernel)) (fun _ h9 => h9) rfl dX9_notice_134 ?_
                  refine lv_bipush (v := 8) hx hb dX9_notice_137 (by decide) ?_
                  refine lv_iload hx hb dX9_notice_139 (lv_at hl 0 rfl) ?_
                  refine lv_imul hx hb dX9_notice_141 ?_
                  refine lv_topi (fun y_67 ey_67 => ?_)
                  have ty_67 : y_67.toInt = 8 * nn.toInt := by rw [ey_67]; exact fm_lI kl_8 (by omega) (by omega)
                  refine lv_iload_n hx hb dX9_notice_142 rfl (lv_at hl 4 rfl) ?_
                  refine va_iast hx hb hK hP hD hS 0 0 rfl rfl (vp_in_iff.mpr ⟨by omega, by omega⟩) dX9_notice_143 (fun H locs hP hD hS => ?_)
                  have hP : va_P (dC, dI) vwCl [(a8, .inl (cI, 320, .inl (upd No (y_67 : Int32).toNatClampNeg p1))), (h0, .inr (9, [.int th, .ref a1, .ref a2, .ref a3, .ref a4, .ref a5, .int ne, .int wi, .int dn, .ref a6, .ref a7, .int nn, .ref a8, .int la, .ref a9, .ref a10, .long up9_5, .long u_3, .int wh9_6, .long pu9_7, .long pw9_8, .ref a11])), (a1, .inl (cI, 16, .inl Fi)), (a2, .inl (cI, 16, .inl Ma)), (a4, .inl (cZ, 16, .inl Go)), (a5, .inl (cI, 576, .inl Sp))] H := hP
                  have hD : va_D A [(a8, .inl (cI, 320, .inl (upd No (y_67 : Int32).toNatClampNeg p1))), (h0, .inr (9, [.int th, .ref a1, .ref a2, .ref a3, .ref a4, .ref a5, .int ne, .int wi, .int dn, .ref a6, .ref a7, .int nn, .ref a8, .int la, .ref a9, .ref a10, .long up9_5, .long u_3, .int wh9_6, .long pu9_7, .long pw9_8, .ref a11])), (a1, .inl (cI, 16, .inl Fi)), (a2, .inl (cI, 16, .inl Ma)), (a4, .inl (cZ, 16, .inl Go)), (a5, .inl (cI, 576, .inl Sp))] := hD
                  refine lv_aload_n hx hb dX9_notice_144 rfl (lv_at hl 1 rfl) ?_
                  refine va_get (D := (dC, dI)) (ci := 9) (v := .ref a8) (C := RX9) (T := TX9) (N := 22) hx hb hts in_X9_notice_X9 hown hK hP 1 rfl rfl 12 (by decide) (hts (.fieldLink RX9 39 "MeetingsAboveModel" "noted" "[I") (by decide +kernel)) (fun _ h9 => h9) rfl dX9_notice_145 ?_
                  refine lv_bipush (v := 8) hx hb dX9_notice_148 (by decide) ?_
                  refine lv_iload hx hb dX9_notice_150 (lv_at hl 0 rfl) ?_
                  refine lv_imul hx hb dX9_notice_152 ?_
                  refine lv_topi (fun y_68 ey_68 => ?_)
                  have ty_68 : y_68.toInt = 8 * nn.toInt := by rw [ey_68]; exact fm_lI kl_8 (by omega) (by omega)
                  refine lv_iconst (v := 1) hx hb dX9_notice_153 (by decide) ?_
                  refine lv_iadd hx hb dX9_notice_154 ?_
                  refine lv_topi (fun y_69 ey_69 => ?_)
                  have ty_69 : y_69.toInt = y_68.toInt + 1 := by rw [ey_69]; have := fb_addI (x := y_68) (y := 1) (by omega) (by omega); omega
                  refine lv_iload hx hb dX9_notice_155 (lv_at hl 5 rfl) ?_
                  refine va_iast hx hb hK hP hD hS 0 0 rfl rfl (vp_in_iff.mpr ⟨by omega, by omega⟩) dX9_notice_157 (fun H locs hP hD hS => ?_)
                  have hP : va_P (dC, dI) vwCl [(a8, .inl (cI, 320, .inl (upd (upd No (y_67 : Int32).toNatClampNeg p1) (y_69 : Int32).toNatClampNeg p1))), (h0, .inr (9, [.int th, .ref a1, .ref a2, .ref a3, .ref a4, .ref a5, .int ne, .int wi, .int dn, .ref a6, .ref a7, .int nn, .ref a8, .int la, .ref a9, .ref a10, .long up9_5, .long u_3, .int wh9_6, .long pu9_7, .long pw9_8, .ref a11])), (a1, .inl (cI, 16, .inl Fi)), (a2, .inl (cI, 16, .inl Ma)), (a4, .inl (cZ, 16, .inl Go)), (a5, .inl (cI, 576, .inl Sp))] H := hP
                  have hD : va_D A [(a8, .inl (cI, 320, .inl (upd (upd No (y_67 : Int32).toNatClampNeg p1) (y_69 : Int32).toNatClampNeg p1))), (h0, .inr (9, [.int th, .ref a1, .ref a2, .ref a3, .ref a4, .ref a5, .int ne, .int wi, .int dn, .ref a6, .ref a7, .int nn, .ref a8, .int la, .ref a9, .ref a10, .long up9_5, .long u_3, .int wh9_6, .long pu9_7, .long pw9_8, .ref a11])), (a1, .inl (cI, 16, .inl Fi)), (a2, .inl (cI, 16, .inl Ma)), (a4, .inl (cZ, 16, .inl Go)), (a5, .inl (cI, 576, .inl Sp))] := hD
                  refine lv_aload_n hx hb dX9_notice_158 rfl (lv_at hl 1 rfl) ?_
                  refine va_get (D := (dC, dI)) (ci := 9) (v := .ref a8) (C := RX9) (T := TX9) (N := 22) hx hb hts in_X9_notice_X9 hown hK hP 1 rfl rfl 12 (by decide) (hts (.fieldLink RX9 39 "MeetingsAboveModel" "noted" "[I") (by decide +kernel)) (fun _ h9 => h9) rfl dX9_notice_159 ?_
                  refine lv_bipush (v := 8) hx hb dX9_notice_162 (by decide) ?_
                  refine lv_iload hx hb dX9_notice_164 (lv_at hl 0 rfl) ?_
                  refine lv_imul hx hb dX9_notice_166 ?_
                  refine lv_topi (fun y_70 ey_70 => ?_)
                  have ty_70 : y_70.toInt = 8 * nn.toInt := by rw [ey_70]; exact fm_lI kl_8 (by omega) (by omega)
                  refine lv_iconst (v := 2) hx hb dX9_notice_167 (by decide) ?_
                  refine lv_iadd hx hb dX9_notice_168 ?_
                  refine lv_topi (fun y_71 ey_71 => ?_)
                  have ty_71 : y_71.toInt = y_70.toInt + 2 := by rw [ey_71]; have := fb_addI (x := y_70) (y := 2) (by omega) (by omega); omega
                  refine lv_aload_n hx hb dX9_notice_169 rfl (lv_at hl 1 rfl) ?_
                  refine va_get (D := (dC, dI)) (ci := 9) (v := .long up9_5) (C := RX9) (T := TX9) (N := 22) hx hb hts in_X9_notice_X9 hown hK hP 1 rfl rfl 16 (by decide) (hts (.fieldLink RX9 121 "MeetingsAboveModel" "upper" "J") (by decide +kernel)) (fun _ h9 => h9) rfl dX9_notice_170 ?_
                  refine lv_aload_n hx hb dX9_notice_173 rfl (lv_at hl 1 rfl) ?_
                  refine va_get (D := (dC, dI)) (ci := 9) (v := .long u_3) (C := RX9) (T := TX9) (N := 22) hx hb hts in_X9_notice_X9 hown hK hP 1 rfl rfl 17 (by decide) (hts (.fieldLink RX9 125 "MeetingsAboveModel" "lower" "J") (by decide +kernel)) (fun _ h9 => h9) rfl dX9_notice_174 ?_
                  refine lv_ldiv hx hb dX9_notice_177 (fun h9 => by have h8 := hw_4 (by omega); rw [h9, klL_0] at h8; omega) ?_
                  refine lv_topl (fun y_72 ey_72 => ?_)
                  refine lv_l2i hx hb dX9_notice_178 rfl ?_
                  refine lv_topi (fun y_73 ey_73 => ?_)
                  refine va_iast hx hb hK hP hD hS 0 0 rfl rfl (vp_in_iff.mpr ⟨by omega, by omega⟩) dX9_notice_179 (fun H locs hP hD hS => ?_)
                  have hP : va_P (dC, dI) vwCl [(a8, .inl (cI, 320, .inl (upd (upd (upd No (y_67 : Int32).toNatClampNeg p1) (y_69 : Int32).toNatClampNeg p1) (y_71 : Int32).toNatClampNeg y_73))), (h0, .inr (9, [.int th, .ref a1, .ref a2, .ref a3, .ref a4, .ref a5, .int ne, .int wi, .int dn, .ref a6, .ref a7, .int nn, .ref a8, .int la, .ref a9, .ref a10, .long up9_5, .long u_3, .int wh9_6, .long pu9_7, .long pw9_8, .ref a11])), (a1, .inl (cI, 16, .inl Fi)), (a2, .inl (cI, 16, .inl Ma)), (a4, .inl (cZ, 16, .inl Go)), (a5, .inl (cI, 576, .inl Sp))] H := hP
                  have hD : va_D A [(a8, .inl (cI, 320, .inl (upd (upd (upd No (y_67 : Int32).toNatClampNeg p1) (y_69 : Int32).toNatClampNeg p1) (y_71 : Int32).toNatClampNeg y_73))), (h0, .inr (9, [.int th, .ref a1, .ref a2, .ref a3, .ref a4, .ref a5, .int ne, .int wi, .int dn, .ref a6, .ref a7, .int nn, .ref a8, .int la, .ref a9, .ref a10, .long up9_5, .long u_3, .int wh9_6, .long pu9_7, .long pw9_8, .ref a11])), (a1, .inl (cI, 16, .inl Fi)), (a2, .inl (cI, 16, .inl Ma)), (a4, .inl (cZ, 16, .inl Go)), (a5, .inl (cI, 576, .inl Sp))] := hD
                  refine lv_aload_n hx hb dX9_notice_180 rfl (lv_at hl 1 rfl) ?_
                  refine va_get (D := (dC, dI)) (ci := 9) (v := .ref a8) (C := RX9) (T := TX9) (N := 22) hx hb hts in_X9_notice_X9 hown hK hP 1 rfl rfl 12 (by decide) (hts (.fieldLink RX9 39 "MeetingsAboveModel" "noted" "[I") (by decide +kernel)) (fun _ h9 => h9) rfl dX9_notice_181 ?_
                  refine lv_bipush (v := 8) hx hb dX9_notice_184 (by decide) ?_
                  refine lv_iload hx hb dX9_notice_186 (lv_at hl 0 rfl) ?_
                  refine lv_imul hx hb dX9_notice_188 ?_
                  refine lv_topi (fun y_74 ey_74 => ?_)
                  have ty_74 : y_74.toInt = 8 * nn.toInt := by rw [ey_74]; exact fm_lI kl_8 (by omega) (by omega)
                  refine lv_iconst (v := 3) hx hb dX9_notice_189 (by decide) ?_
                  refine lv_iadd hx hb dX9_notice_190 ?_
                  refine lv_topi (fun y_75 ey_75 => ?_)
                  have ty_75 : y_75.toInt = y_74.toInt + 3 := by rw [ey_75]; have := fb_addI (x := y_74) (y := 3) (by omega) (by omega); omega
                  refine lv_aload_n hx hb dX9_notice_191 rfl (lv_at hl 1 rfl) ?_
                  refine va_get (D := (dC, dI)) (ci := 9) (v := .int wh9_6) (C := RX9) (T := TX9) (N := 22) hx hb hts in_X9_notice_X9 hown hK hP 1 rfl rfl 18 (by decide) (hts (.fieldLink RX9 128 "MeetingsAboveModel" "when" "I") (by decide +kernel)) (fun _ h9 => h9) rfl dX9_notice_192 ?_
                  refine va_iast hx hb hK hP hD hS 0 0 rfl rfl (vp_in_iff.mpr ⟨by omega, by omega⟩) dX9_notice_195 (fun H locs hP hD hS => ?_)
                  have hP : va_P (dC, dI) vwCl [(a8, .inl (cI, 320, .inl (upd (upd (upd (upd No (y_67 : Int32).toNatClampNeg p1) (y_69 : Int32).toNatClampNeg p1) (y_71 : Int32).toNatClampNeg y_73) (y_75 : Int32).toNatClampNeg wh9_6))), (h0, .inr (9, [.int th, .ref a1, .ref a2, .ref a3, .ref a4, .ref a5, .int ne, .int wi, .int dn, .ref a6, .ref a7, .int nn, .ref a8, .int la, .ref a9, .ref a10, .long up9_5, .long u_3, .int wh9_6, .long pu9_7, .long pw9_8, .ref a11])), (a1, .inl (cI, 16, .inl Fi)), (a2, .inl (cI, 16, .inl Ma)), (a4, .inl (cZ, 16, .inl Go)), (a5, .inl (cI, 576, .inl Sp))] H := hP
                  have hD : va_D A [(a8, .inl (cI, 320, .inl (upd (upd (upd (upd No (y_67 : Int32).toNatClampNeg p1) (y_69 : Int32).toNatClampNeg p1) (y_71 : Int32).toNatClampNeg y_73) (y_75 : Int32).toNatClampNeg wh9_6))), (h0, .inr (9, [.int th, .ref a1, .ref a2, .ref a3, .ref a4, .ref a5, .int ne, .int wi, .int dn, .ref a6, .ref a7, .int nn, .ref a8, .int la, .ref a9, .ref a10, .long up9_5, .long u_3, .int wh9_6, .long pu9_7, .long pw9_8, .ref a11])), (a1, .inl (cI, 16, .inl Fi)), (a2, .inl (cI, 16, .inl Ma)), (a4, .inl (cZ, 16, .inl Go)), (a5, .inl (cI, 576, .inl Sp))] := hD
                  refine lv_aload_n hx hb dX9_notice_196 rfl (lv_at hl 1 rfl) ?_
                  refine va_get (D := (dC, dI)) (ci := 9) (v := .ref a8) (C := RX9) (T := TX9) (N := 22) hx hb hts in_X9_notice_X9 hown hK hP 1 rfl rfl 12 (by decide) (hts (.fieldLink RX9 39 "MeetingsAboveModel" "noted" "[I") (by decide +kernel)) (fun _ h9 => h9) rfl dX9_notice_197 ?_
                  refine lv_bipush (v := 8) hx hb dX9_notice_200 (by decide) ?_
                  refine lv_iload hx hb dX9_notice_202 (lv_at hl 0 rfl) ?_
                  refine lv_imul hx hb dX9_notice_204 ?_
                  refine lv_topi (fun y_76 ey_76 => ?_)
                  have ty_76 : y_76.toInt = 8 * nn.toInt := by rw [ey_76]; exact fm_lI kl_8 (by omega) (by omega)
                  refine lv_iconst (v := 4) hx hb dX9_notice_205 (by decide) ?_
                  refine lv_iadd hx hb dX9_notice_206 ?_
                  refine lv_topi (fun y_77 ey_77 => ?_)
                  have ty_77 : y_77.toInt = y_76.toInt + 4 := by rw [ey_77]; have := fb_addI (x := y_76) (y := 4) (by omega) (by omega); omega
                  refine lv_iload hx hb dX9_notice_207 (lv_at hl 6 rfl) ?_
                  refine va_iast hx hb hK hP hD hS 0 0 rfl rfl (vp_in_iff.mpr ⟨by omega, by omega⟩) dX9_notice_209 (fun H locs hP hD hS => ?_)
                  have hP : va_P (dC, dI) vwCl [(a8, .inl (cI, 320, .inl (upd (upd (upd (upd (upd No (y_67 : Int32).toNatClampNeg p1) (y_69 : Int32).toNatClampNeg p1) (y_71 : Int32).toNatClampNeg y_73) (y_75 : Int32).toNatClampNeg wh9_6) (y_77 : Int32).toNatClampNeg b5))), (h0, .inr (9, [.int th, .ref a1, .ref a2, .ref a3, .ref a4, .ref a5, .int ne, .int wi, .int dn, .ref a6, .ref a7, .int nn, .ref a8, .int la, .ref a9, .ref a10, .long up9_5, .long u_3, .int wh9_6, .long pu9_7, .long pw9_8, .ref a11])), (a1, .inl (cI, 16, .inl Fi)), (a2, .inl (cI, 16, .inl Ma)), (a4, .inl (cZ, 16, .inl Go)), (a5, .inl (cI, 576, .inl Sp))] H := hP
                  have hD : va_D A [(a8, .inl (cI, 320, .inl (upd (upd (upd (upd (upd No (y_67 : Int32).toNatClampNeg p1) (y_69 : Int32).toNatClampNeg p1) (y_71 : Int32).toNatClampNeg y_73) (y_75 : Int32).toNatClampNeg wh9_6) (y_77 : Int32).toNatClampNeg b5))), (h0, .inr (9, [.int th, .ref a1, .ref a2, .ref a3, .ref a4, .ref a5, .int ne, .int wi, .int dn, .ref a6, .ref a7, .int nn, .ref a8, .int la, .ref a9, .ref a10, .long up9_5, .long u_3, .int wh9_6, .long pu9_7, .long pw9_8, .ref a11])), (a1, .inl (cI, 16, .inl Fi)), (a2, .inl (cI, 16, .inl Ma)), (a4, .inl (cZ, 16, .inl Go)), (a5, .inl (cI, 576, .inl Sp))] := hD
                  refine lv_aload_n hx hb dX9_notice_210 rfl (lv_at hl 1 rfl) ?_
                  refine va_get (D := (dC, dI)) (ci := 9) (v := .ref a8) (C := RX9) (T := TX9) (N := 22) hx hb hts in_X9_notice_X9 hown hK hP 1 rfl rfl 12 (by decide) (hts (.fieldLink RX9 39 "MeetingsAboveModel" "noted" "[I") (by decide +kernel)) (fun _ h9 => h9) rfl dX9_notice_211 ?_
                  refine lv_bipush (v := 8) hx hb dX9_notice_214 (by decide) ?_
                  refine lv_iload hx hb dX9_notice_216 (lv_at hl 0 rfl) ?_
                  refine lv_imul hx hb dX9_notice_218 ?_
                  refine lv_topi (fun y_78 ey_78 => ?_)
                  have ty_78 : y_78.toInt = 8 * nn.toInt := by rw [ey_78]; exact fm_lI kl_8 (by omega) (by omega)
                  refine lv_iconst (v := 5) hx hb dX9_notice_219 (by decide) ?_
                  refine lv_iadd hx hb dX9_notice_220 ?_
                  refine lv_topi (fun y_79 ey_79 => ?_)
                  have ty_79 : y_79.toInt = y_78.toInt + 5 := by rw [ey_79]; have := fb_addI (x := y_78) (y := 5) (by omega) (by omega); omega
                  refine lv_iconst (v := 1) hx hb dX9_notice_221 (by decide) ?_
                  refine va_iast hx hb hK hP hD hS 0 0 rfl rfl (vp_in_iff.mpr ⟨by omega, by omega⟩) dX9_notice_222 (fun H locs hP hD hS => ?_)
                  have hP : va_P (dC, dI) vwCl [(a8, .inl (cI, 320, .inl (upd (upd (upd (upd (upd (upd No (y_67 : Int32).toNatClampNeg p1) (y_69 : Int32).toNatClampNeg p1) (y_71 : Int32).toNatClampNeg y_73) (y_75 : Int32).toNatClampNeg wh9_6) (y_77 : Int32).toNatClampNeg b5) (y_79 : Int32).toNatClampNeg 1))), (h0, .inr (9, [.int th, .ref a1, .ref a2, .ref a3, .ref a4, .ref a5, .int ne, .int wi, .int dn, .ref a6, .ref a7, .int nn, .ref a8, .int la, .ref a9, .ref a10, .long up9_5, .long u_3, .int wh9_6, .long pu9_7, .long pw9_8, .ref a11])), (a1, .inl (cI, 16, .inl Fi)), (a2, .inl (cI, 16, .inl Ma)), (a4, .inl (cZ, 16, .inl Go)), (a5, .inl (cI, 576, .inl Sp))] H := hP
                  have hD : va_D A [(a8, .inl (cI, 320, .inl (upd (upd (upd (upd (upd (upd No (y_67 : Int32).toNatClampNeg p1) (y_69 : Int32).toNatClampNeg p1) (y_71 : Int32).toNatClampNeg y_73) (y_75 : Int32).toNatClampNeg wh9_6) (y_77 : Int32).toNatClampNeg b5) (y_79 : Int32).toNatClampNeg 1))), (h0, .inr (9, [.int th, .ref a1, .ref a2, .ref a3, .ref a4, .ref a5, .int ne, .int wi, .int dn, .ref a6, .ref a7, .int nn, .ref a8, .int la, .ref a9, .ref a10, .long up9_5, .long u_3, .int wh9_6, .long pu9_7, .long pw9_8, .ref a11])), (a1, .inl (cI, 16, .inl Fi)), (a2, .inl (cI, 16, .inl Ma)), (a4, .inl (cZ, 16, .inl Go)), (a5, .inl (cI, 576, .inl Sp))] := hD
                  refine lv_aload_n hx hb dX9_notice_223 rfl (lv_at hl 1 rfl) ?_
                  refine va_get (D := (dC, dI)) (ci := 9) (v := .ref a8) (C := RX9) (T := TX9) (N := 22) hx hb hts in_X9_notice_X9 hown hK hP 1 rfl rfl 12 (by decide) (hts (.fieldLink RX9 39 "MeetingsAboveModel" "noted" "[I") (by decide +kernel)) (fun _ h9 => h9) rfl dX9_notice_224 ?_
                  refine lv_bipush (v := 8) hx hb dX9_notice_227 (by decide) ?_
                  refine lv_iload hx hb dX9_notice_229 (lv_at hl 0 rfl) ?_
                  refine lv_imul hx hb dX9_notice_231 ?_
                  refine lv_topi (fun y_80 ey_80 => ?_)
                  have ty_80 : y_80.toInt = 8 * nn.toInt := by rw [ey_80]; exact fm_lI kl_8 (by omega) (by omega)
                  refine lv_bipush (v := 6) hx hb dX9_notice_232 (by decide) ?_
                  refine lv_iadd hx hb dX9_notice_234 ?_
                  refine lv_topi (fun y_81 ey_81 => ?_)
                  have ty_81 : y_81.toInt = y_80.toInt + 6 := by rw [ey_81]; have := fb_addI (x := y_80) (y := 6) (by omega) (by omega); omega
                  refine lv_iconst (v := 0) hx hb dX9_notice_235 (by decide) ?_
                  refine va_iast hx hb hK hP hD hS 0 0 rfl rfl (vp_in_iff.mpr ⟨by omega, by omega⟩) dX9_notice_236 (fun H locs hP hD hS => ?_)
                  have hP : va_P (dC, dI) vwCl [(a8, .inl (cI, 320, .inl (upd (upd (upd (upd (upd (upd (upd No (y_67 : Int32).toNatClampNeg p1) (y_69 : Int32).toNatClampNeg p1) (y_71 : Int32).toNatClampNeg y_73) (y_75 : Int32).toNatClampNeg wh9_6) (y_77 : Int32).toNatClampNeg b5) (y_79 : Int32).toNatClampNeg 1) (y_81 : Int32).toNatClampNeg 0))), (h0, .inr (9, [.int th, .ref a1, .ref a2, .ref a3, .ref a4, .ref a5, .int ne, .int wi, .int dn, .ref a6, .ref a7, .int nn, .ref a8, .int la, .ref a9, .ref a10, .long up9_5, .long u_3, .int wh9_6, .long pu9_7, .long pw9_8, .ref a11])), (a1, .inl (cI, 16, .inl Fi)), (a2, .inl (cI, 16, .inl Ma)), (a4, .inl (cZ, 16, .inl Go)), (a5, .inl (cI, 576, .inl Sp))] H := hP
                  have hD : va_D A [(a8, .inl (cI, 320, .inl (upd (upd (upd (upd (upd (upd (upd No (y_67 : Int32).toNatClampNeg p1) (y_69 : Int32).toNatClampNeg p1) (y_71 : Int32).toNatClampNeg y_73) (y_75 : Int32).toNatClampNeg wh9_6) (y_77 : Int32).toNatClampNeg b5) (y_79 : Int32).toNatClampNeg 1) (y_81 : Int32).toNatClampNeg 0))), (h0, .inr (9, [.int th, .ref a1, .ref a2, .ref a3, .ref a4, .ref a5, .int ne, .int wi, .int dn, .ref a6, .ref a7, .int nn, .ref a8, .int la, .ref a9, .ref a10, .long up9_5, .long u_3, .int wh9_6, .long pu9_7, .long pw9_8, .ref a11])), (a1, .inl (cI, 16, .inl Fi)), (a2, .inl (cI, 16, .inl Ma)), (a4, .inl (cZ, 16, .inl Go)), (a5, .inl (cI, 576, .inl Sp))] := hD
                  refine lv_aload_n hx hb dX9_notice_237 rfl (lv_at hl 1 rfl) ?_
                  refine va_get (D := (dC, dI)) (ci := 9) (v := .ref a8) (C := RX9) (T := TX9) (N := 22) hx hb hts in_X9_notice_X9 hown hK hP 1 rfl rfl 12 (by decide) (hts (.fieldLink RX9 39 "MeetingsAboveModel" "noted" "[I") (by decide +kernel)) (fun _ h9 => h9) rfl dX9_notice_238 ?_
                  refine lv_bipush (v := 8) hx hb dX9_notice_241 (by decide) ?_
                  refine lv_iload hx hb dX9_notice_243 (lv_at hl 0 rfl) ?_
                  refine lv_imul hx hb dX9_notice_245 ?_
                  refine lv_topi (fun y_82 ey_82 => ?_)
                  have ty_82 : y_82.toInt = 8 * nn.toInt := by rw [ey_82]; exact fm_lI kl_8 (by omega) (by omega)
                  refine lv_bipush (v := 7) hx hb dX9_notice_246 (by decide) ?_
                  refine lv_iadd hx hb dX9_notice_248 ?_
                  refine lv_topi (fun y_83 ey_83 => ?_)
                  have ty_83 : y_83.toInt = y_82.toInt + 7 := by rw [ey_83]; have := fb_addI (x := y_82) (y := 7) (by omega) (by omega); omega
                  refine lv_iconst (v := 0) hx hb dX9_notice_249 (by decide) ?_
                  refine va_iast hx hb hK hP hD hS 0 0 rfl rfl (vp_in_iff.mpr ⟨by omega, by omega⟩) dX9_notice_250 (fun H locs hP hD hS => ?_)
                  have hP : va_P (dC, dI) vwCl [(a8, .inl (cI, 320, .inl (upd (upd (upd (upd (upd (upd (upd (upd No (y_67 : Int32).toNatClampNeg p1) (y_69 : Int32).toNatClampNeg p1) (y_71 : Int32).toNatClampNeg y_73) (y_75 : Int32).toNatClampNeg wh9_6) (y_77 : Int32).toNatClampNeg b5) (y_79 : Int32).toNatClampNeg 1) (y_81 : Int32).toNatClampNeg 0) (y_83 : Int32).toNatClampNeg 0))), (h0, .inr (9, [.int th, .ref a1, .ref a2, .ref a3, .ref a4, .ref a5, .int ne, .int wi, .int dn, .ref a6, .ref a7, .int nn, .ref a8, .int la, .ref a9, .ref a10, .long up9_5, .long u_3, .int wh9_6, .long pu9_7, .long pw9_8, .ref a11])), (a1, .inl (cI, 16, .inl Fi)), (a2, .inl (cI, 16, .inl Ma)), (a4, .inl (cZ, 16, .inl Go)), (a5, .inl (cI, 576, .inl Sp))] H := hP
                  have hD : va_D A [(a8, .inl (cI, 320, .inl (upd (upd (upd (upd (upd (upd (upd (upd No (y_67 : Int32).toNatClampNeg p1) (y_69 : Int32).toNatClampNeg p1) (y_71 : Int32).toNatClampNeg y_73) (y_75 : Int32).toNatClampNeg wh9_6) (y_77 : Int32).toNatClampNeg b5) (y_79 : Int32).toNatClampNeg 1) (y_81 : Int32).toNatClampNeg 0) (y_83 : Int32).toNatClampNeg 0))), (h0, .inr (9, [.int th, .ref a1, .ref a2, .ref a3, .ref a4, .ref a5, .int ne, .int wi, .int dn, .ref a6, .ref a7, .int nn, .ref a8, .int la, .ref a9, .ref a10, .long up9_5, .long u_3, .int wh9_6, .long pu9_7, .long pw9_8, .ref a11])), (a1, .inl (cI, 16, .inl Fi)), (a2, .inl (cI, 16, .inl Ma)), (a4, .inl (cZ, 16, .inl Go)), (a5, .inl (cI, 576, .inl Sp))] := hD
                  refine lv_iload hx hb dX9_notice_251 (lv_at hl 6 rfl) ?_
                  refine lv_if_lt (tgt := 269) hx hb dX9_notice_253 (by decide) (fun c_253 => ?_) (fun c_253 => ?_)
                  · have t_253 := (fa_lt _ _).mp c_253
                    refine lv_aload_n hx hb dX9_notice_269 rfl (lv_at hl 1 rfl) ?_
                    refine lv_dup hx hb dX9_notice_270 rfl ?_
                    refine va_get (D := (dC, dI)) (ci := 9) (v := .int nn) (C := RX9) (T := TX9) (N := 22) hx hb hts in_X9_notice_X9 hown hK hP 1 rfl rfl 11 (by decide) (hts (.fieldLink RX9 115 "MeetingsAboveModel" "notices" "I") (by decide +kernel)) (fun _ h9 => h9) rfl dX9_notice_271 ?_
                    refine lv_iconst (v := 1) hx hb dX9_notice_274 (by decide) ?_
                    refine lv_iadd hx hb dX9_notice_275 ?_
                    refine lv_topi (fun y_84 ey_84 => ?_)
                    have ty_84 : y_84.toInt = nn.toInt + 1 := by rw [ey_84]; have := fb_addI (x := nn) (y := 1) (by omega) (by omega); omega
                    refine va_put (D := (dC, dI)) (ci := 9) (v := .int y_84) (ty := .int) (C := RX9) (T := TX9) (N := 22) hx hb hts in_X9_notice_X9 tyX9 tyX9_ok nmX9 hown hK hP hD hS 1 rfl rfl 11 (by decide) (hts (.fieldLink RX9 115 "MeetingsAboveModel" "notices" "I") (by decide +kernel)) (fun _ h9 => h9) rfl (by decide +kernel) rfl rfl (Nat.le_of_ble_eq_true rfl) dX9_notice_276 (fun H locs hP hD hS => ?_)
                    have hP : va_P (dC, dI) vwCl [(a8, .inl (cI, 320, .inl (upd (upd (upd (upd (upd (upd (upd (upd No (y_67 : Int32).toNatClampNeg p1) (y_69 : Int32).toNatClampNeg p1) (y_71 : Int32).toNatClampNeg y_73) (y_75 : Int32).toNatClampNeg wh9_6) (y_77 : Int32).toNatClampNeg b5) (y_79 : Int32).toNatClampNeg 1) (y_81 : Int32).toNatClampNeg 0) (y_83 : Int32).toNatClampNeg 0))), (h0, .inr (9, [.int th, .ref a1, .ref a2, .ref a3, .ref a4, .ref a5, .int ne, .int wi, .int dn, .ref a6, .ref a7, .int y_84, .ref a8, .int la, .ref a9, .ref a10, .long up9_5, .long u_3, .int wh9_6, .long pu9_7, .long pw9_8, .ref a11])), (a1, .inl (cI, 16, .inl Fi)), (a2, .inl (cI, 16, .inl Ma)), (a4, .inl (cZ, 16, .inl Go)), (a5, .inl (cI, 576, .inl Sp))] H := hP
                    have hD : va_D A [(a8, .inl (cI, 320, .inl (upd (upd (upd (upd (upd (upd (upd (upd No (y_67 : Int32).toNatClampNeg p1) (y_69 : Int32).toNatClampNeg p1) (y_71 : Int32).toNatClampNeg y_73) (y_75 : Int32).toNatClampNeg wh9_6) (y_77 : Int32).toNatClampNeg b5) (y_79 : Int32).toNatClampNeg 1) (y_81 : Int32).toNatClampNeg 0) (y_83 : Int32).toNatClampNeg 0))), (h0, .inr (9, [.int th, .ref a1, .ref a2, .ref a3, .ref a4, .ref a5, .int ne, .int wi, .int dn, .ref a6, .ref a7, .int y_84, .ref a8, .int la, .ref a9, .ref a10, .long up9_5, .long u_3, .int wh9_6, .long pu9_7, .long pw9_8, .ref a11])), (a1, .inl (cI, 16, .inl Fi)), (a2, .inl (cI, 16, .inl Ma)), (a4, .inl (cZ, 16, .inl Go)), (a5, .inl (cI, 576, .inl Sp))] := hD
                    refine lv_iload hx hb dX9_notice_279 (lv_at hl 0 rfl) ?_
                    have hP9 := hP.sub (ws' := [(h0, .inr (9, [.int th, .ref a1, .ref a2, .ref a3, .ref a4, .ref a5, .int ne, .int wi, .int dn, .ref a6, .ref a7, .int y_84, .ref a8, .int la, .ref a9, .ref a10, .long up9_5, .long u_3, .int wh9_6, .long pu9_7, .long pw9_8, .ref a11])), (a1, .inl (cI, 16, .inl Fi)), (a2, .inl (cI, 16, .inl Ma)), (a4, .inl (cZ, 16, .inl Go)), (a5, .inl (cI, 576, .inl Sp)), (a8, .inl (cI, 320, .inl (upd (upd (upd (upd (upd (upd (upd (upd No (y_67 : Int32).toNatClampNeg p1) (y_69 : Int32).toNatClampNeg p1) (y_71 : Int32).toNatClampNeg y_73) (y_75 : Int32).toNatClampNeg wh9_6) (y_77 : Int32).toNatClampNeg b5) (y_79 : Int32).toNatClampNeg 1) (y_81 : Int32).toNatClampNeg 0) (y_83 : Int32).toNatClampNeg 0)))]) [1, 2, 3, 4, 5, 0] rfl
                    have hD9 := hD.sub (ws' := [(h0, .inr (9, [.int th, .ref a1, .ref a2, .ref a3, .ref a4, .ref a5, .int ne, .int wi, .int dn, .ref a6, .ref a7, .int y_84, .ref a8, .int la, .ref a9, .ref a10, .long up9_5, .long u_3, .int wh9_6, .long pu9_7, .long pw9_8, .ref a11])), (a1, .inl (cI, 16, .inl Fi)), (a2, .inl (cI, 16, .inl Ma)), (a4, .inl (cZ, 16, .inl Go)), (a5, .inl (cI, 576, .inl Sp)), (a8, .inl (cI, 320, .inl (upd (upd (upd (upd (upd (upd (upd (upd No (y_67 : Int32).toNatClampNeg p1) (y_69 : Int32).toNatClampNeg p1) (y_71 : Int32).toNatClampNeg y_73) (y_75 : Int32).toNatClampNeg wh9_6) (y_77 : Int32).toNatClampNeg b5) (y_79 : Int32).toNatClampNeg 1) (y_81 : Int32).toNatClampNeg 0) (y_83 : Int32).toNatClampNeg 0)))]) [1, 2, 3, 4, 5, 0] (by decide) rfl
                    have hK9 := hK.sub (tys' := [(cI, .int), (cZ, .boolean)]) [0, 1] rfl
                    refine W.widen (k := 0) (n := 0) (by omega) (by omega) ?_
                    exact W.iret (v := nn) hx hb hr (fun t ht hW => ⟨⟨_, (), rfl, trivial, up9_5, u_3, wh9_6, pu9_7, pw9_8, y_84, (upd (upd (upd (upd (upd (upd (upd (upd No (y_67 : Int32).toNatClampNeg p1) (y_69 : Int32).toNatClampNeg p1) (y_71 : Int32).toNatClampNeg y_73) (y_75 : Int32).toNatClampNeg wh9_6) (y_77 : Int32).toNatClampNeg b5) (y_79 : Int32).toNatClampNeg 1) (y_81 : Int32).toNatClampNeg 0) (y_83 : Int32).toNatClampNeg 0), by rw [ht]; exact hP9, va_K.moved hW.alike hK9, hD9, (by omega), (by omega)⟩, hS.F ht⟩) hS.2.2 dX9_notice_281
                  · have t_253 := mt (fa_lt _ _).mpr c_253
                    refine lv_aload_n hx hb dX9_notice_256 rfl (lv_at hl 1 rfl) ?_
                    refine va_get (D := (dC, dI)) (ci := 9) (v := .ref a8) (C := RX9) (T := TX9) (N := 22) hx hb hts in_X9_notice_X9 hown hK hP 1 rfl rfl 12 (by decide) (hts (.fieldLink RX9 39 "MeetingsAboveModel" "noted" "[I") (by decide +kernel)) (fun _ h9 => h9) rfl dX9_notice_257 ?_
                    refine lv_bipush (v := 8) hx hb dX9_notice_260 (by decide) ?_
                    refine lv_iload hx hb dX9_notice_262 (lv_at hl 6 rfl) ?_
                    refine lv_imul hx hb dX9_notice_264 ?_
                    refine lv_topi (fun y_85 ey_85 => ?_)
                    have ty_85 : y_85.toInt = 8 * b5.toInt := by rw [ey_85]; exact fm_lI kl_8 (by omega) (by omega)
                    refine lv_iconst (v := 5) hx hb dX9_notice_265 (by decide) ?_
                    refine lv_iadd hx hb dX9_notice_266 ?_
                    refine lv_topi (fun y_86 ey_86 => ?_)
                    have ty_86 : y_86.toInt = y_85.toInt + 5 := by rw [ey_86]; have := fb_addI (x := y_85) (y := 5) (by omega) (by omega); omega
                    refine lv_iconst (v := 0) hx hb dX9_notice_267 (by decide) ?_
                    refine va_iast hx hb hK hP hD hS 0 0 rfl rfl (vp_in_iff.mpr ⟨by omega, by omega⟩) dX9_notice_268 (fun H locs hP hD hS => ?_)
                    have hP : va_P (dC, dI) vwCl [(a8, .inl (cI, 320, .inl (upd (upd (upd (upd (upd (upd (upd (upd (upd No (y_67 : Int32).toNatClampNeg p1) (y_69 : Int32).toNatClampNeg p1) (y_71 : Int32).toNatClampNeg y_73) (y_75 : Int32).toNatClampNeg wh9_6) (y_77 : Int32).toNatClampNeg b5) (y_79 : Int32).toNatClampNeg 1) (y_81 : Int32).toNatClampNeg 0) (y_83 : Int32).toNatClampNeg 0) (y_86 : Int32).toNatClampNeg 0))), (h0, .inr (9, [.int th, .ref a1, .ref a2, .ref a3, .ref a4, .ref a5, .int ne, .int wi, .int dn, .ref a6, .ref a7, .int nn, .ref a8, .int la, .ref a9, .ref a10, .long up9_5, .long u_3, .int wh9_6, .long pu9_7, .long pw9_8, .ref a11])), (a1, .inl (cI, 16, .inl Fi)), (a2, .inl (cI, 16, .inl Ma)), (a4, .inl (cZ, 16, .inl Go)), (a5, .inl (cI, 576, .inl Sp))] H := hP
                    have hD : va_D A [(a8, .inl (cI, 320, .inl (upd (upd (upd (upd (upd (upd (upd (upd (upd No (y_67 : Int32).toNatClampNeg p1) (y_69 : Int32).toNatClampNeg p1) (y_71 : Int32).toNatClampNeg y_73) (y_75 : Int32).toNatClampNeg wh9_6) (y_77 : Int32).toNatClampNeg b5) (y_79 : Int32).toNatClampNeg 1) (y_81 : Int32).toNatClampNeg 0) (y_83 : Int32).toNatClampNeg 0) (y_86 : Int32).toNatClampNeg 0))), (h0, .inr (9, [.int th, .ref a1, .ref a2, .ref a3, .ref a4, .ref a5, .int ne, .int wi, .int dn, .ref a6, .ref a7, .int nn, .ref a8, .int la, .ref a9, .ref a10, .long up9_5, .long u_3, .int wh9_6, .long pu9_7, .long pw9_8, .ref a11])), (a1, .inl (cI, 16, .inl Fi)), (a2, .inl (cI, 16, .inl Ma)), (a4, .inl (cZ, 16, .inl Go)), (a5, .inl (cI, 576, .inl Sp))] := hD
                    refine lv_aload_n hx hb dX9_notice_269 rfl (lv_at hl 1 rfl) ?_
                    refine lv_dup hx hb dX9_notice_270 rfl ?_
                    refine va_get (D := (dC, dI)) (ci := 9) (v := .int nn) (C := RX9) (T := TX9) (N := 22) hx hb hts in_X9_notice_X9 hown hK hP 1 rfl rfl 11 (by decide) (hts (.fieldLink RX9 115 "MeetingsAboveModel" "notices" "I") (by decide +kernel)) (fun _ h9 => h9) rfl dX9_notice_271 ?_
                    refine lv_iconst (v := 1) hx hb dX9_notice_274 (by decide) ?_
                    refine lv_iadd hx hb dX9_notice_275 ?_
                    refine lv_topi (fun y_87 ey_87 => ?_)
                    have ty_87 : y_87.toInt = nn.toInt + 1 := by rw [ey_87]; have := fb_addI (x := nn) (y := 1) (by omega) (by omega); omega
                    refine va_put (D := (dC, dI)) (ci := 9) (v := .int y_87) (ty := .int) (C := RX9) (T := TX9) (N := 22) hx hb hts in_X9_notice_X9 tyX9 tyX9_ok nmX9 hown hK hP hD hS 1 rfl rfl 11 (by decide) (hts (.fieldLink RX9 115 "MeetingsAboveModel" "notices" "I") (by decide +kernel)) (fun _ h9 => h9) rfl (by decide +kernel) rfl rfl (Nat.le_of_ble_eq_true rfl) dX9_notice_276 (fun H locs hP hD hS => ?_)
                    have hP : va_P (dC, dI) vwCl [(a8, .inl (cI, 320, .inl (upd (upd (upd (upd (upd (upd (upd (upd (upd No (y_67 : Int32).toNatClampNeg p1) (y_69 : Int32).toNatClampNeg p1) (y_71 : Int32).toNatClampNeg y_73) (y_75 : Int32).toNatClampNeg wh9_6) (y_77 : Int32).toNatClampNeg b5) (y_79 : Int32).toNatClampNeg 1) (y_81 : Int32).toNatClampNeg 0) (y_83 : Int32).toNatClampNeg 0) (y_86 : Int32).toNatClampNeg 0))), (h0, .inr (9, [.int th, .ref a1, .ref a2, .ref a3, .ref a4, .ref a5, .int ne, .int wi, .int dn, .ref a6, .ref a7, .int y_87, .ref a8, .int la, .ref a9, .ref a10, .long up9_5, .long u_3, .int wh9_6, .long pu9_7, .long pw9_8, .ref a11])), (a1, .inl (cI, 16, .inl Fi)), (a2, .inl (cI, 16, .inl Ma)), (a4, .inl (cZ, 16, .inl Go)), (a5, .inl (cI, 576, .inl Sp))] H := hP
                    have hD : va_D A [(a8, .inl (cI, 320, .inl (upd (upd (upd (upd (upd (upd (upd (upd (upd No (y_67 : Int32).toNatClampNeg p1) (y_69 : Int32).toNatClampNeg p1) (y_71 : Int32).toNatClampNeg y_73) (y_75 : Int32).toNatClampNeg wh9_6) (y_77 : Int32).toNatClampNeg b5) (y_79 : Int32).toNatClampNeg 1) (y_81 : Int32).toNatClampNeg 0) (y_83 : Int32).toNatClampNeg 0) (y_86 : Int32).toNatClampNeg 0))), (h0, .inr (9, [.int th, .ref a1, .ref a2, .ref a3, .ref a4, .ref a5, .int ne, .int wi, .int dn, .ref a6, .ref a7, .int y_87, .ref a8, .int la, .ref a9, .ref a10, .long up9_5, .long u_3, .int wh9_6, .long pu9_7, .long pw9_8, .ref a11])), (a1, .inl (cI, 16, .inl Fi)), (a2, .inl (cI, 16, .inl Ma)), (a4, .inl (cZ, 16, .inl Go)), (a5, .inl (cI, 576, .inl Sp))] := hD
                    refine lv_iload hx hb dX9_notice_279 (lv_at hl 0 rfl) ?_
                    have hP9 := hP.sub (ws' := [(h0, .inr (9, [.int th, .ref a1, .ref a2, .ref a3, .ref a4, .ref a5, .int ne, .int wi, .int dn, .ref a6, .ref a7, .int y_87, .ref a8, .int la, .ref a9, .ref a10, .long up9_5, .long u_3, .int wh9_6, .long pu9_7, .long pw9_8, .ref a11])), (a1, .inl (cI, 16, .inl Fi)), (a2, .inl (cI, 16, .inl Ma)), (a4, .inl (cZ, 16, .inl Go)), (a5, .inl (cI, 576, .inl Sp)), (a8, .inl (cI, 320, .inl (upd (upd (upd (upd (upd (upd (upd (upd (upd No (y_67 : Int32).toNatClampNeg p1) (y_69 : Int32).toNatClampNeg p1) (y_71 : Int32).toNatClampNeg y_73) (y_75 : Int32).toNatClampNeg wh9_6) (y_77 : Int32).toNatClampNeg b5) (y_79 : Int32).toNatClampNeg 1) (y_81 : Int32).toNatClampNeg 0) (y_83 : Int32).toNatClampNeg 0) (y_86 : Int32).toNatClampNeg 0)))]) [1, 2, 3, 4, 5, 0] rfl
                    have hD9 := hD.sub (ws' := [(h0, .inr (9, [.int th, .ref a1, .ref a2, .ref a3, .ref a4, .ref a5, .int ne, .int wi, .int dn, .ref a6, .ref a7, .int y_87, .ref a8, .int la, .ref a9, .ref a10, .long up9_5, .long u_3, .int wh9_6, .long pu9_7, .long pw9_8, .ref a11])), (a1, .inl (cI, 16, .inl Fi)), (a2, .inl (cI, 16, .inl Ma)), (a4, .inl (cZ, 16, .inl Go)), (a5, .inl (cI, 576, .inl Sp)), (a8, .inl (cI, 320, .inl (upd (upd (upd (upd (upd (upd (upd (upd (upd No (y_67 : Int32).toNatClampNeg p1) (y_69 : Int32).toNatClampNeg p1) (y_71 : Int32).toNatClampNeg y_73) (y_75 : Int32).toNatClampNeg wh9_6) (y_77 : Int32).toNatClampNeg b5) (y_79 : Int32).toNatClampNeg 1) (y_81 : Int32).toNatClampNeg 0) (y_83 : Int32).toNatClampNeg 0) (y_86 : Int32).toNatClampNeg 0)))]) [1, 2, 3, 4, 5, 0] (by decide) rfl
                    have hK9 := hK.sub (tys' := [(cI, .int), (cZ, .boolean)]) [0, 1] rfl
                    refine W.widen (k := 0) (n := 0) (by omega) (by omega) ?_
                    exact W.iret (v := nn) hx hb hr (fun t ht hW => ⟨⟨_, (), rfl, trivial, up9_5, u_3, wh9_6, pu9_7, pw9_8, y_87, (upd (upd (upd (upd (upd (upd (upd (upd (upd No (y_67 : Int32).toNatClampNeg p1) (y_69 : Int32).toNatClampNeg p1) (y_71 : Int32).toNatClampNeg y_73) (y_75 : Int32).toNatClampNeg wh9_6) (y_77 : Int32).toNatClampNeg b5) (y_79 : Int32).toNatClampNeg 1) (y_81 : Int32).toNatClampNeg 0) (y_83 : Int32).toNatClampNeg 0) (y_86 : Int32).toNatClampNeg 0), by rw [ht]; exact hP9, va_K.moved hW.alike hK9, hD9, (by omega), (by omega)⟩, hS.F ht⟩) hS.2.2 dX9_notice_281
                · have t_78 := mt (fa_le _ _).mpr c_78
                  refine lv_aload_n hx hb dX9_notice_81 rfl (lv_at hl 0 rfl) ?_
                  refine va_get (D := (dC, dI)) (ci := 9) (v := .ref a8) (C := RX9) (T := TX9) (N := 22) hx hb hts in_X9_notice_X9 hown hK hP 1 rfl rfl 12 (by decide) (hts (.fieldLink RX9 39 "MeetingsAboveModel" "noted" "[I") (by decide +kernel)) (fun _ h9 => h9) rfl dX9_notice_82 ?_
                  refine lv_bipush (v := 8) hx hb dX9_notice_85 (by decide) ?_
                  refine lv_iload hx hb dX9_notice_87 (lv_at hl 6 rfl) ?_
                  refine lv_imul hx hb dX9_notice_89 ?_
                  refine lv_topi (fun y_88 ey_88 => ?_)
                  have ty_88 : y_88.toInt = 8 * k6.toInt := by rw [ey_88]; exact fm_lI kl_8 (by omega) (by omega)
                  refine va_iald hx hb hK hP 0 0 rfl rfl (vp_in_iff.mpr ⟨by omega, by omega⟩) dX9_notice_90 ?_
                  refine lv_topi (fun y_89 ey_89 => ?_)
                  refine lv_iload_n hx hb dX9_notice_91 rfl (lv_at hl 3 rfl) ?_
                  refine lv_icmp_ne (tgt := 117) hx hb dX9_notice_92 (by decide) (fun c_92 => ?_) (fun c_92 => ?_)
                  · have t_92 := mt (fa_eq _ _).mpr c_92
                    refine lv_iload hx hb dX9_notice_117 (lv_at hl 5 rfl) ?_
                    refine lv_istore (lv' := [(5, .int b5), (0, .ref h0), (1, .int p1), (2, .int p2), (3, .int p1), (4, .int p1), (6, .int k6)]) hx hb dX9_notice_119 hl (by decide) rfl (fun ls hl => ?_)
                    obtain ⟨y_90, ey_90⟩ : ∃ y : Int32, y = k6 + 1 := ⟨_, rfl⟩
                    have ty_90 : y_90.toInt = k6.toInt + 1 := by rw [ey_90]; have := fb_addI (x := k6) (y := 1) (by omega) (by omega); omega
                    refine lv_iinc (v := y_90) (lv' := [(6, .int y_90), (5, .int b5), (0, .ref h0), (1, .int p1), (2, .int p2), (3, .int p1), (4, .int p1)]) hx hb dX9_notice_121 hl (k := 6) rfl (by rw [ey_90]; rfl) (by decide) rfl (fun ls hl => ?_)
                    refine lv_goto (tgt := 72) hx hb dX9_notice_124 (by decide) ?_
                    exact ih_72 b5 y_90 (by omega) (by omega) (by omega) (by omega) (by omega) H _ (hP.sub [0, 1, 2, 3, 4, 5] rfl) (hD.sub [0, 1, 2, 3, 4, 5] (by decide) rfl) hS ls (lv_sub hl [2, 3, 4, 5, 6, 1, 0] rfl)
                  · have t_92 := (fa_eq _ _).mp c_92
                    refine lv_aload_n hx hb dX9_notice_95 rfl (lv_at hl 0 rfl) ?_
                    refine va_get (D := (dC, dI)) (ci := 9) (v := .ref a8) (C := RX9) (T := TX9) (N := 22) hx hb hts in_X9_notice_X9 hown hK hP 1 rfl rfl 12 (by decide) (hts (.fieldLink RX9 39 "MeetingsAboveModel" "noted" "[I") (by decide +kernel)) (fun _ h9 => h9) rfl dX9_notice_96 ?_
                    refine lv_bipush (v := 8) hx hb dX9_notice_99 (by decide) ?_
                    refine lv_iload hx hb dX9_notice_101 (lv_at hl 6 rfl) ?_
                    refine lv_imul hx hb dX9_notice_103 ?_
                    refine lv_topi (fun y_91 ey_91 => ?_)
                    have ty_91 : y_91.toInt = 8 * k6.toInt := by rw [ey_91]; exact fm_lI kl_8 (by omega) (by omega)
                    refine lv_iconst (v := 1) hx hb dX9_notice_104 (by decide) ?_
                    refine lv_iadd hx hb dX9_notice_105 ?_
                    refine lv_topi (fun y_92 ey_92 => ?_)
                    have ty_92 : y_92.toInt = y_91.toInt + 1 := by rw [ey_92]; have := fb_addI (x := y_91) (y := 1) (by omega) (by omega); omega
                    refine va_iald hx hb hK hP 0 0 rfl rfl (vp_in_iff.mpr ⟨by omega, by omega⟩) dX9_notice_106 ?_
                    refine lv_topi (fun y_93 ey_93 => ?_)
                    refine lv_iload hx hb dX9_notice_107 (lv_at hl 4 rfl) ?_
                    refine lv_icmp_ne (tgt := 117) hx hb dX9_notice_109 (by decide) (fun c_109 => ?_) (fun c_109 => ?_)
                    · have t_109 := mt (fa_eq _ _).mpr c_109
                      refine lv_iload hx hb dX9_notice_117 (lv_at hl 5 rfl) ?_
                      refine lv_istore (lv' := [(5, .int b5), (0, .ref h0), (1, .int p1), (2, .int p2), (3, .int p1), (4, .int p1), (6, .int k6)]) hx hb dX9_notice_119 hl (by decide) rfl (fun ls hl => ?_)
                      obtain ⟨y_94, ey_94⟩ : ∃ y : Int32, y = k6 + 1 := ⟨_, rfl⟩
                      have ty_94 : y_94.toInt = k6.toInt + 1 := by rw [ey_94]; have := fb_addI (x := k6) (y := 1) (by omega) (by omega); omega
                      refine lv_iinc (v := y_94) (lv' := [(6, .int y_94), (5, .int b5), (0, .ref h0), (1, .int p1), (2, .int p2), (3, .int p1), (4, .int p1)]) hx hb dX9_notice_121 hl (k := 6) rfl (by rw [ey_94]; rfl) (by decide) rfl (fun ls hl => ?_)
                      refine lv_goto (tgt := 72) hx hb dX9_notice_124 (by decide) ?_
                      exact ih_72 b5 y_94 (by omega) (by omega) (by omega) (by omega) (by omega) H _ (hP.sub [0, 1, 2, 3, 4, 5] rfl) (hD.sub [0, 1, 2, 3, 4, 5] (by decide) rfl) hS ls (lv_sub hl [2, 3, 4, 5, 6, 1, 0] rfl)
                    · have t_109 := (fa_eq _ _).mp c_109
                      refine lv_iload hx hb dX9_notice_112 (lv_at hl 6 rfl) ?_
                      refine lv_goto (tgt := 119) hx hb dX9_notice_114 (by decide) ?_
                      refine lv_istore (lv' := [(5, .int k6), (0, .ref h0), (1, .int p1), (2, .int p2), (3, .int p1), (4, .int p1), (6, .int k6)]) hx hb dX9_notice_119 hl (by decide) rfl (fun ls hl => ?_)
                      obtain ⟨y_95, ey_95⟩ : ∃ y : Int32, y = k6 + 1 := ⟨_, rfl⟩
                      have ty_95 : y_95.toInt = k6.toInt + 1 := by rw [ey_95]; have := fb_addI (x := k6) (y := 1) (by omega) (by omega); omega
                      refine lv_iinc (v := y_95) (lv' := [(6, .int y_95), (5, .int k6), (0, .ref h0), (1, .int p1), (2, .int p2), (3, .int p1), (4, .int p1)]) hx hb dX9_notice_121 hl (k := 6) rfl (by rw [ey_95]; rfl) (by decide) rfl (fun ls hl => ?_)
                      refine lv_goto (tgt := 72) hx hb dX9_notice_124 (by decide) ?_
                      exact ih_72 k6 y_95 (by omega) (by omega) (by omega) (by omega) (by omega) H _ (hP.sub [0, 1, 2, 3, 4, 5] rfl) (hD.sub [0, 1, 2, 3, 4, 5] (by decide) rfl) hS ls (lv_sub hl [2, 3, 4, 5, 6, 1, 0] rfl)
            · have t_56 := mt (fa_le _ _).mpr c_56
              refine lv_iload_n hx hb dX9_notice_59 rfl (lv_at hl 3 rfl) ?_
              refine lv_goto (tgt := 64) hx hb dX9_notice_60 (by decide) ?_
              refine lv_istore (lv' := [(4, .int p2), (3, .int p1), (0, .ref h0), (1, .int p1), (2, .int p2)]) hx hb dX9_notice_64 hl (by decide) rfl (fun ls hl => ?_)
              refine lv_iconst (v := (-1)) hx hb dX9_notice_66 (by decide) ?_
              refine lv_istore (lv' := [(5, .int (-1)), (4, .int p2), (3, .int p1), (0, .ref h0), (1, .int p1), (2, .int p2)]) hx hb dX9_notice_67 hl (by decide) rfl (fun ls hl => ?_)
              refine lv_iconst (v := 0) hx hb dX9_notice_69 (by decide) ?_
              refine lv_istore (lv' := [(6, .int 0), (5, .int (-1)), (4, .int p2), (3, .int p1), (0, .ref h0), (1, .int p1), (2, .int p2)]) hx hb dX9_notice_70 hl (by decide) rfl (fun ls hl => ?_)
              refine (show ∀ (k : Nat) (b5 : Int32) (k6 : Int32) (hk0 : 0 ≤ k6.toInt) (hk1 : k6.toInt ≤ nn.toInt) (hb0 : -1 ≤ b5.toInt) (hb1 : b5.toInt < nn.toInt ∨ b5.toInt = -1) (hk_72 : (nn.toInt - k6.toInt).toNat < k) (H : Heap) (locs : List Loc) (hP : va_P (dC, dI) vwCl [(a8, .inl (cI, 320, .inl No)), (h0, .inr (9, [.int th, .ref a1, .ref a2, .ref a3, .ref a4, .ref a5, .int ne, .int wi, .int dn, .ref a6, .ref a7, .int nn, .ref a8, .int la, .ref a9, .ref a10, .long up9_5, .long u_3, .int wh9_6, .long pu9_7, .long pw9_8, .ref a11])), (a1, .inl (cI, 16, .inl Fi)), (a2, .inl (cI, 16, .inl Ma)), (a4, .inl (cZ, 16, .inl Go)), (a5, .inl (cI, 576, .inl Sp))] H) (hD : va_D A [(a8, .inl (cI, 320, .inl No)), (h0, .inr (9, [.int th, .ref a1, .ref a2, .ref a3, .ref a4, .ref a5, .int ne, .int wi, .int dn, .ref a6, .ref a7, .int nn, .ref a8, .int la, .ref a9, .ref a10, .long up9_5, .long u_3, .int wh9_6, .long pu9_7, .long pw9_8, .ref a11])), (a1, .inl (cI, 16, .inl Fi)), (a2, .inl (cI, 16, .inl Ma)), (a4, .inl (cZ, 16, .inl Go)), (a5, .inl (cI, 576, .inl Sp))]) (hS : va_S A s.heap H locs) (ls : Array Slot) (hl : lv_has ls 7 [(0, .ref h0), (1, .int p1), (2, .int p2), (3, .int p1), (4, .int p2), (5, .int b5), (6, .int k6)]), W p l e _ s m _ below meth c H locs 0 0 _ (F0 m 72 ls []) from ?_) _ (-1) 0 (by omega) (by omega) (by omega) (by omega) (Nat.lt_succ_self _) H _ hP hD hS ls (lv_sub hl [4, 5, 6, 3, 2, 1, 0] rfl)
              intro k
              induction k with
              | zero => intro b5 k6 hk0 hk1 hb0 hb1 hk_72; exact absurd hk_72 (Nat.not_lt_zero _)
              | succ k ih_72 =>
                intro b5 k6 hk0 hk1 hb0 hb1 hk_72 H locs hP hD hS ls hl
                refine lv_iload hx hb dX9_notice_72 (lv_at hl 6 rfl) ?_
                refine lv_aload_n hx hb dX9_notice_74 rfl (lv_at hl 0 rfl) ?_
                refine va_get (D := (dC, dI)) (ci := 9) (v := .int nn) (C := RX9) (T := TX9) (N := 22) hx hb hts in_X9_notice_X9 hown hK hP 1 rfl rfl 11 (by decide) (hts (.fieldLink RX9 115 "MeetingsAboveModel" "notices" "I") (by decide +kernel)) (fun _ h9 => h9) rfl dX9_notice_75 ?_
                refine lv_icmp_ge (tgt := 127) hx hb dX9_notice_78 (by decide) (fun c_78 => ?_) (fun c_78 => ?_)
                · have t_78 := (fa_le _ _).mp c_78
                  refine lv_aload_n hx hb dX9_notice_127 rfl (lv_at hl 0 rfl) ?_
                  refine va_get (D := (dC, dI)) (ci := 9) (v := .int nn) (C := RX9) (T := TX9) (N := 22) hx hb hts in_X9_notice_X9 hown hK hP 1 rfl rfl 11 (by decide) (hts (.fieldLink RX9 115 "MeetingsAboveModel" "notices" "I") (by decide +kernel)) (fun _ h9 => h9) rfl dX9_notice_128 ?_
                  refine lv_istore (lv' := [(6, .int nn), (0, .ref h0), (1, .int p1), (2, .int p2), (3, .int p1), (4, .int p2), (5, .int b5)]) hx hb dX9_notice_131 hl (by decide) rfl (fun ls hl => ?_)
                  refine lv_aload_n hx hb dX9_notice_133 rfl (lv_at hl 1 rfl) ?_
                  refine va_get (D := (dC, dI)) (ci := 9) (v := .ref a8) (C := RX9) (T := TX9) (N := 22) hx hb hts in_X9_notice_X9 hown hK hP 1 rfl rfl 12 (by decide) (hts (.fieldLink RX9 39 "MeetingsAboveModel" "noted" "[I") (by decide +kernel)) (fun _ h9 => h9) rfl dX9_notice_134 ?_
                  refine lv_bipush (v := 8) hx hb dX9_notice_137 (by decide) ?_
                  refine lv_iload hx hb dX9_notice_139 (lv_at hl 0 rfl) ?_
                  refine lv_imul hx hb dX9_notice_141 ?_
                  refine lv_topi (fun y_96 ey_96 => ?_)
                  have ty_96 : y_96.toInt = 8 * nn.toInt := by rw [ey_96]; exact fm_lI kl_8 (by omega) (by omega)
                  refine lv_iload_n hx hb dX9_notice_142 rfl (lv_at hl 4 rfl) ?_
                  refine va_iast hx hb hK hP hD hS 0 0 rfl rfl (vp_in_iff.mpr ⟨by omega, by omega⟩) dX9_notice_143 (fun H locs hP hD hS => ?_)
                  have hP : va_P (dC, dI) vwCl [(a8, .inl (cI, 320, .inl (upd No (y_96 : Int32).toNatClampNeg p1))), (h0, .inr (9, [.int th, .ref a1, .ref a2, .ref a3, .ref a4, .ref a5, .int ne, .int wi, .int dn, .ref a6, .ref a7, .int nn, .ref a8, .int la, .ref a9, .ref a10, .long up9_5, .long u_3, .int wh9_6, .long pu9_7, .long pw9_8, .ref a11])), (a1, .inl (cI, 16, .inl Fi)), (a2, .inl (cI, 16, .inl Ma)), (a4, .inl (cZ, 16, .inl Go)), (a5, .inl (cI, 576, .inl Sp))] H := hP
                  have hD : va_D A [(a8, .inl (cI, 320, .inl (upd No (y_96 : Int32).toNatClampNeg p1))), (h0, .inr (9, [.int th, .ref a1, .ref a2, .ref a3, .ref a4, .ref a5, .int ne, .int wi, .int dn, .ref a6, .ref a7, .int nn, .ref a8, .int la, .ref a9, .ref a10, .long up9_5, .long u_3, .int wh9_6, .long pu9_7, .long pw9_8, .ref a11])), (a1, .inl (cI, 16, .inl Fi)), (a2, .inl (cI, 16, .inl Ma)), (a4, .inl (cZ, 16, .inl Go)), (a5, .inl (cI, 576, .inl Sp))] := hD
                  refine lv_aload_n hx hb dX9_notice_144 rfl (lv_at hl 1 rfl) ?_
                  refine va_get (D := (dC, dI)) (ci := 9) (v := .ref a8) (C := RX9) (T := TX9) (N := 22) hx hb hts in_X9_notice_X9 hown hK hP 1 rfl rfl 12 (by decide) (hts (.fieldLink RX9 39 "MeetingsAboveModel" "noted" "[I") (by decide +kernel)) (fun _ h9 => h9) rfl dX9_notice_145 ?_
                  refine lv_bipush (v := 8) hx hb dX9_notice_148 (by decide) ?_
                  refine lv_iload hx hb dX9_notice_150 (lv_at hl 0 rfl) ?_
                  refine lv_imul hx hb dX9_notice_152 ?_
                  refine lv_topi (fun y_97 ey_97 => ?_)
                  have ty_97 : y_97.toInt = 8 * nn.toInt := by rw [ey_97]; exact fm_lI kl_8 (by omega) (by omega)
                  refine lv_iconst (v := 1) hx hb dX9_notice_153 (by decide) ?_
                  refine lv_iadd hx hb dX9_notice_154 ?_
                  refine lv_topi (fun y_98 ey_98 => ?_)
                  have ty_98 : y_98.toInt = y_97.toInt + 1 := by rw [ey_98]; have := fb_addI (x := y_97) (y := 1) (by omega) (by omega); omega
                  refine lv_iload hx hb dX9_notice_155 (lv_at hl 5 rfl) ?_
                  refine va_iast hx hb hK hP hD hS 0 0 rfl rfl (vp_in_iff.mpr ⟨by omega, by omega⟩) dX9_notice_157 (fun H locs hP hD hS => ?_)
                  have hP : va_P (dC, dI) vwCl [(a8, .inl (cI, 320, .inl (upd (upd No (y_96 : Int32).toNatClampNeg p1) (y_98 : Int32).toNatClampNeg p2))), (h0, .inr (9, [.int th, .ref a1, .ref a2, .ref a3, .ref a4, .ref a5, .int ne, .int wi, .int dn, .ref a6, .ref a7, .int nn, .ref a8, .int la, .ref a9, .ref a10, .long up9_5, .long u_3, .int wh9_6, .long pu9_7, .long pw9_8, .ref a11])), (a1, .inl (cI, 16, .inl Fi)), (a2, .inl (cI, 16, .inl Ma)), (a4, .inl (cZ, 16, .inl Go)), (a5, .inl (cI, 576, .inl Sp))] H := hP
                  have hD : va_D A [(a8, .inl (cI, 320, .inl (upd (upd No (y_96 : Int32).toNatClampNeg p1) (y_98 : Int32).toNatClampNeg p2))), (h0, .inr (9, [.int th, .ref a1, .ref a2, .ref a3, .ref a4, .ref a5, .int ne, .int wi, .int dn, .ref a6, .ref a7, .int nn, .ref a8, .int la, .ref a9, .ref a10, .long up9_5, .long u_3, .int wh9_6, .long pu9_7, .long pw9_8, .ref a11])), (a1, .inl (cI, 16, .inl Fi)), (a2, .inl (cI, 16, .inl Ma)), (a4, .inl (cZ, 16, .inl Go)), (a5, .inl (cI, 576, .inl Sp))] := hD
                  refine lv_aload_n hx hb dX9_notice_158 rfl (lv_at hl 1 rfl) ?_
                  refine va_get (D := (dC, dI)) (ci := 9) (v := .ref a8) (C := RX9) (T := TX9) (N := 22) hx hb hts in_X9_notice_X9 hown hK hP 1 rfl rfl 12 (by decide) (hts (.fieldLink RX9 39 "MeetingsAboveModel" "noted" "[I") (by decide +kernel)) (fun _ h9 => h9) rfl dX9_notice_159 ?_
                  refine lv_bipush (v := 8) hx hb dX9_notice_162 (by decide) ?_
                  refine lv_iload hx hb dX9_notice_164 (lv_at hl 0 rfl) ?_
                  refine lv_imul hx hb dX9_notice_166 ?_
                  refine lv_topi (fun y_99 ey_99 => ?_)
                  have ty_99 : y_99.toInt = 8 * nn.toInt := by rw [ey_99]; exact fm_lI kl_8 (by omega) (by omega)
                  refine lv_iconst (v := 2) hx hb dX9_notice_167 (by decide) ?_
                  refine lv_iadd hx hb dX9_notice_168 ?_
                  refine lv_topi (fun y_100 ey_100 => ?_)
                  have ty_100 : y_100.toInt = y_99.toInt + 2 := by rw [ey_100]; have := fb_addI (x := y_99) (y := 2) (by omega) (by omega); omega
                  refine lv_aload_n hx hb dX9_notice_169 rfl (lv_at hl 1 rfl) ?_
                  refine va_get (D := (dC, dI)) (ci := 9) (v := .long up9_5) (C := RX9) (T := TX9) (N := 22) hx hb hts in_X9_notice_X9 hown hK hP 1 rfl rfl 16 (by decide) (hts (.fieldLink RX9 121 "MeetingsAboveModel" "upper" "J") (by decide +kernel)) (fun _ h9 => h9) rfl dX9_notice_170 ?_
                  refine lv_aload_n hx hb dX9_notice_173 rfl (lv_at hl 1 rfl) ?_
                  refine va_get (D := (dC, dI)) (ci := 9) (v := .long u_3) (C := RX9) (T := TX9) (N := 22) hx hb hts in_X9_notice_X9 hown hK hP 1 rfl rfl 17 (by decide) (hts (.fieldLink RX9 125 "MeetingsAboveModel" "lower" "J") (by decide +kernel)) (fun _ h9 => h9) rfl dX9_notice_174 ?_
                  refine lv_ldiv hx hb dX9_notice_177 (fun h9 => by have h8 := hw_4 (by omega); rw [h9, klL_0] at h8; omega) ?_
                  refine lv_topl (fun y_101 ey_101 => ?_)
                  refine lv_l2i hx hb dX9_notice_178 rfl ?_
                  refine lv_topi (fun y_102 ey_102 => ?_)
                  refine va_iast hx hb hK hP hD hS 0 0 rfl rfl (vp_in_iff.mpr ⟨by omega, by omega⟩) dX9_notice_179 (fun H locs hP hD hS => ?_)
                  have hP : va_P (dC, dI) vwCl [(a8, .inl (cI, 320, .inl (upd (upd (upd No (y_96 : Int32).toNatClampNeg p1) (y_98 : Int32).toNatClampNeg p2) (y_100 : Int32).toNatClampNeg y_102))), (h0, .inr (9, [.int th, .ref a1, .ref a2, .ref a3, .ref a4, .ref a5, .int ne, .int wi, .int dn, .ref a6, .ref a7, .int nn, .ref a8, .int la, .ref a9, .ref a10, .long up9_5, .long u_3, .int wh9_6, .long pu9_7, .long pw9_8, .ref a11])), (a1, .inl (cI, 16, .inl Fi)), (a2, .inl (cI, 16, .inl Ma)), (a4, .inl (cZ, 16, .inl Go)), (a5, .inl (cI, 576, .inl Sp))] H := hP
                  have hD : va_D A [(a8, .inl (cI, 320, .inl (upd (upd (upd No (y_96 : Int32).toNatClampNeg p1) (y_98 : Int32).toNatClampNeg p2) (y_100 : Int32).toNatClampNeg y_102))), (h0, .inr (9, [.int th, .ref a1, .ref a2, .ref a3, .ref a4, .ref a5, .int ne, .int wi, .int dn, .ref a6, .ref a7, .int nn, .ref a8, .int la, .ref a9, .ref a10, .long up9_5, .long u_3, .int wh9_6, .long pu9_7, .long pw9_8, .ref a11])), (a1, .inl (cI, 16, .inl Fi)), (a2, .inl (cI, 16, .inl Ma)), (a4, .inl (cZ, 16, .inl Go)), (a5, .inl (cI, 576, .inl Sp))] := hD
                  refine lv_aload_n hx hb dX9_notice_180 rfl (lv_at hl 1 rfl) ?_
                  refine va_get (D := (dC, dI)) (ci := 9) (v := .ref a8) (C := RX9) (T := TX9) (N := 22) hx hb hts in_X9_notice_X9 hown hK hP 1 rfl rfl 12 (by decide) (hts (.fieldLink RX9 39 "MeetingsAboveModel" "noted" "[I") (by decide +kernel)) (fun _ h9 => h9) rfl dX9_notice_181 ?_
                  refine lv_bipush (v := 8) hx hb dX9_notice_184 (by decide) ?_
                  refine lv_iload hx hb dX9_notice_186 (lv_at hl 0 rfl) ?_
                  refine lv_imul hx hb dX9_notice_188 ?_
                  refine lv_topi (fun y_103 ey_103 => ?_)
                  have ty_103 : y_103.toInt = 8 * nn.toInt := by rw [ey_103]; exact fm_lI kl_8 (by omega) (by omega)
                  refine lv_iconst (v := 3) hx hb dX9_notice_189 (by decide) ?_
                  refine lv_iadd hx hb dX9_notice_190 ?_
                  refine lv_topi (fun y_104 ey_104 => ?_)
                  have ty_104 : y_104.toInt = y_103.toInt + 3 := by rw [ey_104]; have := fb_addI (x := y_103) (y := 3) (by omega) (by omega); omega
                  refine lv_aload_n hx hb dX9_notice_191 rfl (lv_at hl 1 rfl) ?_
                  refine va_get (D := (dC, dI)) (ci := 9) (v := .int wh9_6) (C := RX9) (T := TX9) (N := 22) hx hb hts in_X9_notice_X9 hown hK hP 1 rfl rfl 18 (by decide) (hts (.fieldLink RX9 128 "MeetingsAboveModel" "when" "I") (by decide +kernel)) (fun _ h9 => h9) rfl dX9_notice_192 ?_
                  refine va_iast hx hb hK hP hD hS 0 0 rfl rfl (vp_in_iff.mpr ⟨by omega, by omega⟩) dX9_notice_195 (fun H locs hP hD hS => ?_)
                  have hP : va_P (dC, dI) vwCl [(a8, .inl (cI, 320, .inl (upd (upd (upd (upd No (y_96 : Int32).toNatClampNeg p1) (y_98 : Int32).toNatClampNeg p2) (y_100 : Int32).toNatClampNeg y_102) (y_104 : Int32).toNatClampNeg wh9_6))), (h0, .inr (9, [.int th, .ref a1, .ref a2, .ref a3, .ref a4, .ref a5, .int ne, .int wi, .int dn, .ref a6, .ref a7, .int nn, .ref a8, .int la, .ref a9, .ref a10, .long up9_5, .long u_3, .int wh9_6, .long pu9_7, .long pw9_8, .ref a11])), (a1, .inl (cI, 16, .inl Fi)), (a2, .inl (cI, 16, .inl Ma)), (a4, .inl (cZ, 16, .inl Go)), (a5, .inl (cI, 576, .inl Sp))] H := hP
                  have hD : va_D A [(a8, .inl (cI, 320, .inl (upd (upd (upd (upd No (y_96 : Int32).toNatClampNeg p1) (y_98 : Int32).toNatClampNeg p2) (y_100 : Int32).toNatClampNeg y_102) (y_104 : Int32).toNatClampNeg wh9_6))), (h0, .inr (9, [.int th, .ref a1, .ref a2, .ref a3, .ref a4, .ref a5, .int ne, .int wi, .int dn, .ref a6, .ref a7, .int nn, .ref a8, .int la, .ref a9, .ref a10, .long up9_5, .long u_3, .int wh9_6, .long pu9_7, .long pw9_8, .ref a11])), (a1, .inl (cI, 16, .inl Fi)), (a2, .inl (cI, 16, .inl Ma)), (a4, .inl (cZ, 16, .inl Go)), (a5, .inl (cI, 576, .inl Sp))] := hD
                  refine lv_aload_n hx hb dX9_notice_196 rfl (lv_at hl 1 rfl) ?_
                  refine va_get (D := (dC, dI)) (ci := 9) (v := .ref a8) (C := RX9) (T := TX9) (N := 22) hx hb hts in_X9_notice_X9 hown hK hP 1 rfl rfl 12 (by decide) (hts (.fieldLink RX9 39 "MeetingsAboveModel" "noted" "[I") (by decide +kernel)) (fun _ h9 => h9) rfl dX9_notice_197 ?_
                  refine lv_bipush (v := 8) hx hb dX9_notice_200 (by decide) ?_
                  refine lv_iload hx hb dX9_notice_202 (lv_at hl 0 rfl) ?_
                  refine lv_imul hx hb dX9_notice_204 ?_
                  refine lv_topi (fun y_105 ey_105 => ?_)
                  have ty_105 : y_105.toInt = 8 * nn.toInt := by rw [ey_105]; exact fm_lI kl_8 (by omega) (by omega)
                  refine lv_iconst (v := 4) hx hb dX9_notice_205 (by decide) ?_
                  refine lv_iadd hx hb dX9_notice_206 ?_
                  refine lv_topi (fun y_106 ey_106 => ?_)
                  have ty_106 : y_106.toInt = y_105.toInt + 4 := by rw [ey_106]; have := fb_addI (x := y_105) (y := 4) (by omega) (by omega); omega
                  refine lv_iload hx hb dX9_notice_207 (lv_at hl 6 rfl) ?_
                  refine va_iast hx hb hK hP hD hS 0 0 rfl rfl (vp_in_iff.mpr ⟨by omega, by omega⟩) dX9_notice_209 (fun H locs hP hD hS => ?_)
                  have hP : va_P (dC, dI) vwCl [(a8, .inl (cI, 320, .inl (upd (upd (upd (upd (upd No (y_96 : Int32).toNatClampNeg p1) (y_98 : Int32).toNatClampNeg p2) (y_100 : Int32).toNatClampNeg y_102) (y_104 : Int32).toNatClampNeg wh9_6) (y_106 : Int32).toNatClampNeg b5))), (h0, .inr (9, [.int th, .ref a1, .ref a2, .ref a3, .ref a4, .ref a5, .int ne, .int wi, .int dn, .ref a6, .ref a7, .int nn, .ref a8, .int la, .ref a9, .ref a10, .long up9_5, .long u_3, .int wh9_6, .long pu9_7, .long pw9_8, .ref a11])), (a1, .inl (cI, 16, .inl Fi)), (a2, .inl (cI, 16, .inl Ma)), (a4, .inl (cZ, 16, .inl Go)), (a5, .inl (cI, 576, .inl Sp))] H := hP
                  have hD : va_D A [(a8, .inl (cI, 320, .inl (upd (upd (upd (upd (upd No (y_96 : Int32).toNatClampNeg p1) (y_98 : Int32).toNatClampNeg p2) (y_100 : Int32).toNatClampNeg y_102) (y_104 : Int32).toNatClampNeg wh9_6) (y_106 : Int32).toNatClampNeg b5))), (h0, .inr (9, [.int th, .ref a1, .ref a2, .ref a3, .ref a4, .ref a5, .int ne, .int wi, .int dn, .ref a6, .ref a7, .int nn, .ref a8, .int la, .ref a9, .ref a10, .long up9_5, .long u_3, .int wh9_6, .long pu9_7, .long pw9_8, .ref a11])), (a1, .inl (cI, 16, .inl Fi)), (a2, .inl (cI, 16, .inl Ma)), (a4, .inl (cZ, 16, .inl Go)), (a5, .inl (cI, 576, .inl Sp))] := hD
                  refine lv_aload_n hx hb dX9_notice_210 rfl (lv_at hl 1 rfl) ?_
                  refine va_get (D := (dC, dI)) (ci := 9) (v := .ref a8) (C := RX9) (T := TX9) (N := 22) hx hb hts in_X9_notice_X9 hown hK hP 1 rfl rfl 12 (by decide) (hts (.fieldLink RX9 39 "MeetingsAboveModel" "noted" "[I") (by decide +kernel)) (fun _ h9 => h9) rfl dX9_notice_211 ?_
                  refine lv_bipush (v := 8) hx hb dX9_notice_214 (by decide) ?_
                  refine lv_iload hx hb dX9_notice_216 (lv_at hl 0 rfl) ?_
                  refine lv_imul hx hb dX9_notice_218 ?_
                  refine lv_topi (fun y_107 ey_107 => ?_)
                  have ty_107 : y_107.toInt = 8 * nn.toInt := by rw [ey_107]; exact fm_lI kl_8 (by omega) (by omega)
                  refine lv_iconst (v := 5) hx hb dX9_notice_219 (by decide) ?_
                  refine lv_iadd hx hb dX9_notice_220 ?_
                  refine lv_topi (fun y_108 ey_108 => ?_)
                  have ty_108 : y_108.toInt = y_107.toInt + 5 := by rw [ey_108]; have := fb_addI (x := y_107) (y := 5) (by omega) (by omega); omega
                  refine lv_iconst (v := 1) hx hb dX9_notice_221 (by decide) ?_
                  refine va_iast hx hb hK hP hD hS 0 0 rfl rfl (vp_in_iff.mpr ⟨by omega, by omega⟩) dX9_notice_222 (fun H locs hP hD hS => ?_)
                  have hP : va_P (dC, dI) vwCl [(a8, .inl (cI, 320, .inl (upd (upd (upd (upd (upd (upd No (y_96 : Int32).toNatClampNeg p1) (y_98 : Int32).toNatClampNeg p2) (y_100 : Int32).toNatClampNeg y_102) (y_104 : Int32).toNatClampNeg wh9_6) (y_106 : Int32).toNatClampNeg b5) (y_108 : Int32).toNatClampNeg 1))), (h0, .inr (9, [.int th, .ref a1, .ref a2, .ref a3, .ref a4, .ref a5, .int ne, .int wi, .int dn, .ref a6, .ref a7, .int nn, .ref a8, .int la, .ref a9, .ref a10, .long up9_5, .long u_3, .int wh9_6, .long pu9_7, .long pw9_8, .ref a11])), (a1, .inl (cI, 16, .inl Fi)), (a2, .inl (cI, 16, .inl Ma)), (a4, .inl (cZ, 16, .inl Go)), (a5, .inl (cI, 576, .inl Sp))] H := hP
                  have hD : va_D A [(a8, .inl (cI, 320, .inl (upd (upd (upd (upd (upd (upd No (y_96 : Int32).toNatClampNeg p1) (y_98 : Int32).toNatClampNeg p2) (y_100 : Int32).toNatClampNeg y_102) (y_104 : Int32).toNatClampNeg wh9_6) (y_106 : Int32).toNatClampNeg b5) (y_108 : Int32).toNatClampNeg 1))), (h0, .inr (9, [.int th, .ref a1, .ref a2, .ref a3, .ref a4, .ref a5, .int ne, .int wi, .int dn, .ref a6, .ref a7, .int nn, .ref a8, .int la, .ref a9, .ref a10, .long up9_5, .long u_3, .int wh9_6, .long pu9_7, .long pw9_8, .ref a11])), (a1, .inl (cI, 16, .inl Fi)), (a2, .inl (cI, 16, .inl Ma)), (a4, .inl (cZ, 16, .inl Go)), (a5, .inl (cI, 576, .inl Sp))] := hD
                  refine lv_aload_n hx hb dX9_notice_223 rfl (lv_at hl 1 rfl) ?_
                  refine va_get (D := (dC, dI)) (ci := 9) (v := .ref a8) (C := RX9) (T := TX9) (N := 22) hx hb hts in_X9_notice_X9 hown hK hP 1 rfl rfl 12 (by decide) (hts (.fieldLink RX9 39 "MeetingsAboveModel" "noted" "[I") (by decide +kernel)) (fun _ h9 => h9) rfl dX9_notice_224 ?_
                  refine lv_bipush (v := 8) hx hb dX9_notice_227 (by decide) ?_
                  refine lv_iload hx hb dX9_notice_229 (lv_at hl 0 rfl) ?_
                  refine lv_imul hx hb dX9_notice_231 ?_
                  refine lv_topi (fun y_109 ey_109 => ?_)
                  have ty_109 : y_109.toInt = 8 * nn.toInt := by rw [ey_109]; exact fm_lI kl_8 (by omega) (by omega)
                  refine lv_bipush (v := 6) hx hb dX9_notice_232 (by decide) ?_
                  refine lv_iadd hx hb dX9_notice_234 ?_
                  refine lv_topi (fun y_110 ey_110 => ?_)
                  have ty_110 : y_110.toInt = y_109.toInt + 6 := by rw [ey_110]; have := fb_addI (x := y_109) (y := 6) (by omega) (by omega); omega
                  refine lv_iconst (v := 0) hx hb dX9_notice_235 (by decide) ?_
                  refine va_iast hx hb hK hP hD hS 0 0 rfl rfl (vp_in_iff.mpr ⟨by omega, by omega⟩) dX9_notice_236 (fun H locs hP hD hS => ?_)
                  have hP : va_P (dC, dI) vwCl [(a8, .inl (cI, 320, .inl (upd (upd (upd (upd (upd (upd (upd No (y_96 : Int32).toNatClampNeg p1) (y_98 : Int32).toNatClampNeg p2) (y_100 : Int32).toNatClampNeg y_102) (y_104 : Int32).toNatClampNeg wh9_6) (y_106 : Int32).toNatClampNeg b5) (y_108 : Int32).toNatClampNeg 1) (y_110 : Int32).toNatClampNeg 0))), (h0, .inr (9, [.int th, .ref a1, .ref a2, .ref a3, .ref a4, .ref a5, .int ne, .int wi, .int dn, .ref a6, .ref a7, .int nn, .ref a8, .int la, .ref a9, .ref a10, .long up9_5, .long u_3, .int wh9_6, .long pu9_7, .long pw9_8, .ref a11])), (a1, .inl (cI, 16, .inl Fi)), (a2, .inl (cI, 16, .inl Ma)), (a4, .inl (cZ, 16, .inl Go)), (a5, .inl (cI, 576, .inl Sp))] H := hP
                  have hD : va_D A [(a8, .inl (cI, 320, .inl (upd (upd (upd (upd (upd (upd (upd No (y_96 : Int32).toNatClampNeg p1) (y_98 : Int32).toNatClampNeg p2) (y_100 : Int32).toNatClampNeg y_102) (y_104 : Int32).toNatClampNeg wh9_6) (y_106 : Int32).toNatClampNeg b5) (y_108 : Int32).toNatClampNeg 1) (y_110 : Int32).toNatClampNeg 0))), (h0, .inr (9, [.int th, .ref a1, .ref a2, .ref a3, .ref a4, .ref a5, .int ne, .int wi, .int dn, .ref a6, .ref a7, .int nn, .ref a8, .int la, .ref a9, .ref a10, .long up9_5, .long u_3, .int wh9_6, .long pu9_7, .long pw9_8, .ref a11])), (a1, .inl (cI, 16, .inl Fi)), (a2, .inl (cI, 16, .inl Ma)), (a4, .inl (cZ, 16, .inl Go)), (a5, .inl (cI, 576, .inl Sp))] := hD
                  refine lv_aload_n hx hb dX9_notice_237 rfl (lv_at hl 1 rfl) ?_
                  refine va_get (D := (dC, dI)) (ci := 9) (v := .ref a8) (C := RX9) (T := TX9) (N := 22) hx hb hts in_X9_notice_X9 hown hK hP 1 rfl rfl 12 (by decide) (hts (.fieldLink RX9 39 "MeetingsAboveModel" "noted" "[I") (by decide +kernel)) (fun _ h9 => h9) rfl dX9_notice_238 ?_
                  refine lv_bipush (v := 8) hx hb dX9_notice_241 (by decide) ?_
                  refine lv_iload hx hb dX9_notice_243 (lv_at hl 0 rfl) ?_
                  refine lv_imul hx hb dX9_notice_245 ?_
                  refine lv_topi (fun y_111 ey_111 => ?_)
                  have ty_111 : y_111.toInt = 8 * nn.toInt := by rw [ey_111]; exact fm_lI kl_8 (by omega) (by omega)
                  refine lv_bipush (v := 7) hx hb dX9_notice_246 (by decide) ?_
                  refine lv_iadd hx hb dX9_notice_248 ?_
                  refine lv_topi (fun y_112 ey_112 => ?_)
                  have ty_112 : y_112.toInt = y_111.toInt + 7 := by rw [ey_112]; have := fb_addI (x := y_111) (y := 7) (by omega) (by omega); omega
                  refine lv_iconst (v := 0) hx hb dX9_notice_249 (by decide) ?_
                  refine va_iast hx hb hK hP hD hS 0 0 rfl rfl (vp_in_iff.mpr ⟨by omega, by omega⟩) dX9_notice_250 (fun H locs hP hD hS => ?_)
                  have hP : va_P (dC, dI) vwCl [(a8, .inl (cI, 320, .inl (upd (upd (upd (upd (upd (upd (upd (upd No (y_96 : Int32).toNatClampNeg p1) (y_98 : Int32).toNatClampNeg p2) (y_100 : Int32).toNatClampNeg y_102) (y_104 : Int32).toNatClampNeg wh9_6) (y_106 : Int32).toNatClampNeg b5) (y_108 : Int32).toNatClampNeg 1) (y_110 : Int32).toNatClampNeg 0) (y_112 : Int32).toNatClampNeg 0))), (h0, .inr (9, [.int th, .ref a1, .ref a2, .ref a3, .ref a4, .ref a5, .int ne, .int wi, .int dn, .ref a6, .ref a7, .int nn, .ref a8, .int la, .ref a9, .ref a10, .long up9_5, .long u_3, .int wh9_6, .long pu9_7, .long pw9_8, .ref a11])), (a1, .inl (cI, 16, .inl Fi)), (a2, .inl (cI, 16, .inl Ma)), (a4, .inl (cZ, 16, .inl Go)), (a5, .inl (cI, 576, .inl Sp))] H := hP
                  have hD : va_D A [(a8, .inl (cI, 320, .inl (upd (upd (upd (upd (upd (upd (upd (upd No (y_96 : Int32).toNatClampNeg p1) (y_98 : Int32).toNatClampNeg p2) (y_100 : Int32).toNatClampNeg y_102) (y_104 : Int32).toNatClampNeg wh9_6) (y_106 : Int32).toNatClampNeg b5) (y_108 : Int32).toNatClampNeg 1) (y_110 : Int32).toNatClampNeg 0) (y_112 : Int32).toNatClampNeg 0))), (h0, .inr (9, [.int th, .ref a1, .ref a2, .ref a3, .ref a4, .ref a5, .int ne, .int wi, .int dn, .ref a6, .ref a7, .int nn, .ref a8, .int la, .ref a9, .ref a10, .long up9_5, .long u_3, .int wh9_6, .long pu9_7, .long pw9_8, .ref a11])), (a1, .inl (cI, 16, .inl Fi)), (a2, .inl (cI, 16, .inl Ma)), (a4, .inl (cZ, 16, .inl Go)), (a5, .inl (cI, 576, .inl Sp))] := hD
                  refine lv_iload hx hb dX9_notice_251 (lv_at hl 6 rfl) ?_
                  refine lv_if_lt (tgt := 269) hx hb dX9_notice_253 (by decide) (fun c_253 => ?_) (fun c_253 => ?_)
                  · have t_253 := (fa_lt _ _).mp c_253
                    refine lv_aload_n hx hb dX9_notice_269 rfl (lv_at hl 1 rfl) ?_
                    refine lv_dup hx hb dX9_notice_270 rfl ?_
                    refine va_get (D := (dC, dI)) (ci := 9) (v := .int nn) (C := RX9) (T := TX9) (N := 22) hx hb hts in_X9_notice_X9 hown hK hP 1 rfl rfl 11 (by decide) (hts (.fieldLink RX9 115 "MeetingsAboveModel" "notices" "I") (by decide +kernel)) (fun _ h9 => h9) rfl dX9_notice_271 ?_
                    refine lv_iconst (v := 1) hx hb dX9_notice_274 (by decide) ?_
                    refine lv_iadd hx hb dX9_notice_275 ?_
                    refine lv_topi (fun y_113 ey_113 => ?_)
                    have ty_113 : y_113.toInt = nn.toInt + 1 := by rw [ey_113]; have := fb_addI (x := nn) (y := 1) (by omega) (by omega); omega
                    refine va_put (D := (dC, dI)) (ci := 9) (v := .int y_113) (ty := .int) (C := RX9) (T := TX9) (N := 22) hx hb hts in_X9_notice_X9 tyX9 tyX9_ok nmX9 hown hK hP hD hS 1 rfl rfl 11 (by decide) (hts (.fieldLink RX9 115 "MeetingsAboveModel" "notices" "I") (by decide +kernel)) (fun _ h9 => h9) rfl (by decide +kernel) rfl rfl (Nat.le_of_ble_eq_true rfl) dX9_notice_276 (fun H locs hP hD hS => ?_)
                    have hP : va_P (dC, dI) vwCl [(a8, .inl (cI, 320, .inl (upd (upd (upd (upd (upd (upd (upd (upd No (y_96 : Int32).toNatClampNeg p1) (y_98 : Int32).toNatClampNeg p2) (y_100 : Int32).toNatClampNeg y_102) (y_104 : Int32).toNatClampNeg wh9_6) (y_106 : Int32).toNatClampNeg b5) (y_108 : Int32).toNatClampNeg 1) (y_110 : Int32).toNatClampNeg 0) (y_112 : Int32).toNatClampNeg 0))), (h0, .inr (9, [.int th, .ref a1, .ref a2, .ref a3, .ref a4, .ref a5, .int ne, .int wi, .int dn, .ref a6, .ref a7, .int y_113, .ref a8, .int la, .ref a9, .ref a10, .long up9_5, .long u_3, .int wh9_6, .long pu9_7, .long pw9_8, .ref a11])), (a1, .inl (cI, 16, .inl Fi)), (a2, .inl (cI, 16, .inl Ma)), (a4, .inl (cZ, 16, .inl Go)), (a5, .inl (cI, 576, .inl Sp))] H := hP
                    have hD : va_D A [(a8, .inl (cI, 320, .inl (upd (upd (upd (upd (upd (upd (upd (upd No (y_96 : Int32).toNatClampNeg p1) (y_98 : Int32).toNatClampNeg p2) (y_100 : Int32).toNatClampNeg y_102) (y_104 : Int32).toNatClampNeg wh9_6) (y_106 : Int32).toNatClampNeg b5) (y_108 : Int32).toNatClampNeg 1) (y_110 : Int32).toNatClampNeg 0) (y_112 : Int32).toNatClampNeg 0))), (h0, .inr (9, [.int th, .ref a1, .ref a2, .ref a3, .ref a4, .ref a5, .int ne, .int wi, .int dn, .ref a6, .ref a7, .int y_113, .ref a8, .int la, .ref a9, .ref a10, .long up9_5, .long u_3, .int wh9_6, .long pu9_7, .long pw9_8, .ref a11])), (a1, .inl (cI, 16, .inl Fi)), (a2, .inl (cI, 16, .inl Ma)), (a4, .inl (cZ, 16, .inl Go)), (a5, .inl (cI, 576, .inl Sp))] := hD
                    refine lv_iload hx hb dX9_notice_279 (lv_at hl 0 rfl) ?_
                    have hP9 := hP.sub (ws' := [(h0, .inr (9, [.int th, .ref a1, .ref a2, .ref a3, .ref a4, .ref a5, .int ne, .int wi, .int dn, .ref a6, .ref a7, .int y_113, .ref a8, .int la, .ref a9, .ref a10, .long up9_5, .long u_3, .int wh9_6, .long pu9_7, .long pw9_8, .ref a11])), (a1, .inl (cI, 16, .inl Fi)), (a2, .inl (cI, 16, .inl Ma)), (a4, .inl (cZ, 16, .inl Go)), (a5, .inl (cI, 576, .inl Sp)), (a8, .inl (cI, 320, .inl (upd (upd (upd (upd (upd (upd (upd (upd No (y_96 : Int32).toNatClampNeg p1) (y_98 : Int32).toNatClampNeg p2) (y_100 : Int32).toNatClampNeg y_102) (y_104 : Int32).toNatClampNeg wh9_6) (y_106 : Int32).toNatClampNeg b5) (y_108 : Int32).toNatClampNeg 1) (y_110 : Int32).toNatClampNeg 0) (y_112 : Int32).toNatClampNeg 0)))]) [1, 2, 3, 4, 5, 0] rfl
                    have hD9 := hD.sub (ws' := [(h0, .inr (9, [.int th, .ref a1, .ref a2, .ref a3, .ref a4, .ref a5, .int ne, .int wi, .int dn, .ref a6, .ref a7, .int y_113, .ref a8, .int la, .ref a9, .ref a10, .long up9_5, .long u_3, .int wh9_6, .long pu9_7, .long pw9_8, .ref a11])), (a1, .inl (cI, 16, .inl Fi)), (a2, .inl (cI, 16, .inl Ma)), (a4, .inl (cZ, 16, .inl Go)), (a5, .inl (cI, 576, .inl Sp)), (a8, .inl (cI, 320, .inl (upd (upd (upd (upd (upd (upd (upd (upd No (y_96 : Int32).toNatClampNeg p1) (y_98 : Int32).toNatClampNeg p2) (y_100 : Int32).toNatClampNeg y_102) (y_104 : Int32).toNatClampNeg wh9_6) (y_106 : Int32).toNatClampNeg b5) (y_108 : Int32).toNatClampNeg 1) (y_110 : Int32).toNatClampNeg 0) (y_112 : Int32).toNatClampNeg 0)))]) [1, 2, 3, 4, 5, 0] (by decide) rfl
                    have hK9 := hK.sub (tys' := [(cI, .int), (cZ, .boolean)]) [0, 1] rfl
                    refine W.widen (k := 0) (n := 0) (by omega) (by omega) ?_
                    exact W.iret (v := nn) hx hb hr (fun t ht hW => ⟨⟨_, (), rfl, trivial, up9_5, u_3, wh9_6, pu9_7, pw9_8, y_113, (upd (upd (upd (upd (upd (upd (upd (upd No (y_96 : Int32).toNatClampNeg p1) (y_98 : Int32).toNatClampNeg p2) (y_100 : Int32).toNatClampNeg y_102) (y_104 : Int32).toNatClampNeg wh9_6) (y_106 : Int32).toNatClampNeg b5) (y_108 : Int32).toNatClampNeg 1) (y_110 : Int32).toNatClampNeg 0) (y_112 : Int32).toNatClampNeg 0), by rw [ht]; exact hP9, va_K.moved hW.alike hK9, hD9, (by omega), (by omega)⟩, hS.F ht⟩) hS.2.2 dX9_notice_281
                  · have t_253 := mt (fa_lt _ _).mpr c_253
                    refine lv_aload_n hx hb dX9_notice_256 rfl (lv_at hl 1 rfl) ?_
                    refine va_get (D := (dC, dI)) (ci := 9) (v := .ref a8) (C := RX9) (T := TX9) (N := 22) hx hb hts in_X9_notice_X9 hown hK hP 1 rfl rfl 12 (by decide) (hts (.fieldLink RX9 39 "MeetingsAboveModel" "noted" "[I") (by decide +kernel)) (fun _ h9 => h9) rfl dX9_notice_257 ?_
                    refine lv_bipush (v := 8) hx hb dX9_notice_260 (by decide) ?_
                    refine lv_iload hx hb dX9_notice_262 (lv_at hl 6 rfl) ?_
                    refine lv_imul hx hb dX9_notice_264 ?_
                    refine lv_topi (fun y_114 ey_114 => ?_)
                    have ty_114 : y_114.toInt = 8 * b5.toInt := by rw [ey_114]; exact fm_lI kl_8 (by omega) (by omega)
                    refine lv_iconst (v := 5) hx hb dX9_notice_265 (by decide) ?_
                    refine lv_iadd hx hb dX9_notice_266 ?_
                    refine lv_topi (fun y_115 ey_115 => ?_)
                    have ty_115 : y_115.toInt = y_114.toInt + 5 := by rw [ey_115]; have := fb_addI (x := y_114) (y := 5) (by omega) (by omega); omega
                    refine lv_iconst (v := 0) hx hb dX9_notice_267 (by decide) ?_
                    refine va_iast hx hb hK hP hD hS 0 0 rfl rfl (vp_in_iff.mpr ⟨by omega, by omega⟩) dX9_notice_268 (fun H locs hP hD hS => ?_)
                    have hP : va_P (dC, dI) vwCl [(a8, .inl (cI, 320, .inl (upd (upd (upd (upd (upd (upd (upd (upd (upd No (y_96 : Int32).toNatClampNeg p1) (y_98 : Int32).toNatClampNeg p2) (y_100 : Int32).toNatClampNeg y_102) (y_104 : Int32).toNatClampNeg wh9_6) (y_106 : Int32).toNatClampNeg b5) (y_108 : Int32).toNatClampNeg 1) (y_110 : Int32).toNatClampNeg 0) (y_112 : Int32).toNatClampNeg 0) (y_115 : Int32).toNatClampNeg 0))), (h0, .inr (9, [.int th, .ref a1, .ref a2, .ref a3, .ref a4, .ref a5, .int ne, .int wi, .int dn, .ref a6, .ref a7, .int nn, .ref a8, .int la, .ref a9, .ref a10, .long up9_5, .long u_3, .int wh9_6, .long pu9_7, .long pw9_8, .ref a11])), (a1, .inl (cI, 16, .inl Fi)), (a2, .inl (cI, 16, .inl Ma)), (a4, .inl (cZ, 16, .inl Go)), (a5, .inl (cI, 576, .inl Sp))] H := hP
                    have hD : va_D A [(a8, .inl (cI, 320, .inl (upd (upd (upd (upd (upd (upd (upd (upd (upd No (y_96 : Int32).toNatClampNeg p1) (y_98 : Int32).toNatClampNeg p2) (y_100 : Int32).toNatClampNeg y_102) (y_104 : Int32).toNatClampNeg wh9_6) (y_106 : Int32).toNatClampNeg b5) (y_108 : Int32).toNatClampNeg 1) (y_110 : Int32).toNatClampNeg 0) (y_112 : Int32).toNatClampNeg 0) (y_115 : Int32).toNatClampNeg 0))), (h0, .inr (9, [.int th, .ref a1, .ref a2, .ref a3, .ref a4, .ref a5, .int ne, .int wi, .int dn, .ref a6, .ref a7, .int nn, .ref a8, .int la, .ref a9, .ref a10, .long up9_5, .long u_3, .int wh9_6, .long pu9_7, .long pw9_8, .ref a11])), (a1, .inl (cI, 16, .inl Fi)), (a2, .inl (cI, 16, .inl Ma)), (a4, .inl (cZ, 16, .inl Go)), (a5, .inl (cI, 576, .inl Sp))] := hD
                    refine lv_aload_n hx hb dX9_notice_269 rfl (lv_at hl 1 rfl) ?_
                    refine lv_dup hx hb dX9_notice_270 rfl ?_
                    refine va_get (D := (dC, dI)) (ci := 9) (v := .int nn) (C := RX9) (T := TX9) (N := 22) hx hb hts in_X9_notice_X9 hown hK hP 1 rfl rfl 11 (by decide) (hts (.fieldLink RX9 115 "MeetingsAboveModel" "notices" "I") (by decide +kernel)) (fun _ h9 => h9) rfl dX9_notice_271 ?_
                    refine lv_iconst (v := 1) hx hb dX9_notice_274 (by decide) ?_
                    refine lv_iadd hx hb dX9_notice_275 ?_
                    refine lv_topi (fun y_116 ey_116 => ?_)
                    have ty_116 : y_116.toInt = nn.toInt + 1 := by rw [ey_116]; have := fb_addI (x := nn) (y := 1) (by omega) (by omega); omega
                    refine va_put (D := (dC, dI)) (ci := 9) (v := .int y_116) (ty := .int) (C := RX9) (T := TX9) (N := 22) hx hb hts in_X9_notice_X9 tyX9 tyX9_ok nmX9 hown hK hP hD hS 1 rfl rfl 11 (by decide) (hts (.fieldLink RX9 115 "MeetingsAboveModel" "notices" "I") (by decide +kernel)) (fun _ h9 => h9) rfl (by decide +kernel) rfl rfl (Nat.le_of_ble_eq_true rfl) dX9_notice_276 (fun H locs hP hD hS => ?_)
                    have hP : va_P (dC, dI) vwCl [(a8, .inl (cI, 320, .inl (upd (upd (upd (upd (upd (upd (upd (upd (upd No (y_96 : Int32).toNatClampNeg p1) (y_98 : Int32).toNatClampNeg p2) (y_100 : Int32).toNatClampNeg y_102) (y_104 : Int32).toNatClampNeg wh9_6) (y_106 : Int32).toNatClampNeg b5) (y_108 : Int32).toNatClampNeg 1) (y_110 : Int32).toNatClampNeg 0) (y_112 : Int32).toNatClampNeg 0) (y_115 : Int32).toNatClampNeg 0))), (h0, .inr (9, [.int th, .ref a1, .ref a2, .ref a3, .ref a4, .ref a5, .int ne, .int wi, .int dn, .ref a6, .ref a7, .int y_116, .ref a8, .int la, .ref a9, .ref a10, .long up9_5, .long u_3, .int wh9_6, .long pu9_7, .long pw9_8, .ref a11])), (a1, .inl (cI, 16, .inl Fi)), (a2, .inl (cI, 16, .inl Ma)), (a4, .inl (cZ, 16, .inl Go)), (a5, .inl (cI, 576, .inl Sp))] H := hP
                    have hD : va_D A [(a8, .inl (cI, 320, .inl (upd (upd (upd (upd (upd (upd (upd (upd (upd No (y_96 : Int32).toNatClampNeg p1) (y_98 : Int32).toNatClampNeg p2) (y_100 : Int32).toNatClampNeg y_102) (y_104 : Int32).toNatClampNeg wh9_6) (y_106 : Int32).toNatClampNeg b5) (y_108 : Int32).toNatClampNeg 1) (y_110 : Int32).toNatClampNeg 0) (y_112 : Int32).toNatClampNeg 0) (y_115 : Int32).toNatClampNeg 0))), (h0, .inr (9, [.int th, .ref a1, .ref a2, .ref a3, .ref a4, .ref a5, .int ne, .int wi, .int dn, .ref a6, .ref a7, .int y_116, .ref a8, .int la, .ref a9, .ref a10, .long up9_5, .long u_3, .int wh9_6, .long pu9_7, .long pw9_8, .ref a11])), (a1, .inl (cI, 16, .inl Fi)), (a2, .inl (cI, 16, .inl Ma)), (a4, .inl (cZ, 16, .inl Go)), (a5, .inl (cI, 576, .inl Sp))] := hD
                    refine lv_iload hx hb dX9_notice_279 (lv_at hl 0 rfl) ?_
                    have hP9 := hP.sub (ws' := [(h0, .inr (9, [.int th, .ref a1, .ref a2, .ref a3, .ref a4, .ref a5, .int ne, .int wi, .int dn, .ref a6, .ref a7, .int y_116, .ref a8, .int la, .ref a9, .ref a10, .long up9_5, .long u_3, .int wh9_6, .long pu9_7, .long pw9_8, .ref a11])), (a1, .inl (cI, 16, .inl Fi)), (a2, .inl (cI, 16, .inl Ma)), (a4, .inl (cZ, 16, .inl Go)), (a5, .inl (cI, 576, .inl Sp)), (a8, .inl (cI, 320, .inl (upd (upd (upd (upd (upd (upd (upd (upd (upd No (y_96 : Int32).toNatClampNeg p1) (y_98 : Int32).toNatClampNeg p2) (y_100 : Int32).toNatClampNeg y_102) (y_104 : Int32).toNatClampNeg wh9_6) (y_106 : Int32).toNatClampNeg b5) (y_108 : Int32).toNatClampNeg 1) (y_110 : Int32).toNatClampNeg 0) (y_112 : Int32).toNatClampNeg 0) (y_115 : Int32).toNatClampNeg 0)))]) [1, 2, 3, 4, 5, 0] rfl
                    have hD9 := hD.sub (ws' := [(h0, .inr (9, [.int th, .ref a1, .ref a2, .ref a3, .ref a4, .ref a5, .int ne, .int wi, .int dn, .ref a6, .ref a7, .int y_116, .ref a8, .int la, .ref a9, .ref a10, .long up9_5, .long u_3, .int wh9_6, .long pu9_7, .long pw9_8, .ref a11])), (a1, .inl (cI, 16, .inl Fi)), (a2, .inl (cI, 16, .inl Ma)), (a4, .inl (cZ, 16, .inl Go)), (a5, .inl (cI, 576, .inl Sp)), (a8, .inl (cI, 320, .inl (upd (upd (upd (upd (upd (upd (upd (upd (upd No (y_96 : Int32).toNatClampNeg p1) (y_98 : Int32).toNatClampNeg p2) (y_100 : Int32).toNatClampNeg y_102) (y_104 : Int32).toNatClampNeg wh9_6) (y_106 : Int32).toNatClampNeg b5) (y_108 : Int32).toNatClampNeg 1) (y_110 : Int32).toNatClampNeg 0) (y_112 : Int32).toNatClampNeg 0) (y_115 : Int32).toNatClampNeg 0)))]) [1, 2, 3, 4, 5, 0] (by decide) rfl
                    have hK9 := hK.sub (tys' := [(cI, .int), (cZ, .boolean)]) [0, 1] rfl
                    refine W.widen (k := 0) (n := 0) (by omega) (by omega) ?_
                    exact W.iret (v := nn) hx hb hr (fun t ht hW => ⟨⟨_, (), rfl, trivial, up9_5, u_3, wh9_6, pu9_7, pw9_8, y_116, (upd (upd (upd (upd (upd (upd (upd (upd (upd No (y_96 : Int32).toNatClampNeg p1) (y_98 : Int32).toNatClampNeg p2) (y_100 : Int32).toNatClampNeg y_102) (y_104 : Int32).toNatClampNeg wh9_6) (y_106 : Int32).toNatClampNeg b5) (y_108 : Int32).toNatClampNeg 1) (y_110 : Int32).toNatClampNeg 0) (y_112 : Int32).toNatClampNeg 0) (y_115 : Int32).toNatClampNeg 0), by rw [ht]; exact hP9, va_K.moved hW.alike hK9, hD9, (by omega), (by omega)⟩, hS.F ht⟩) hS.2.2 dX9_notice_281
                · have t_78 := mt (fa_le _ _).mpr c_78
                  refine lv_aload_n hx hb dX9_notice_81 rfl (lv_at hl 0 rfl) ?_
                  refine va_get (D := (dC, dI)) (ci := 9) (v := .ref a8) (C := RX9) (T := TX9) (N := 22) hx hb hts in_X9_notice_X9 hown hK hP 1 rfl rfl 12 (by decide) (hts (.fieldLink RX9 39 "MeetingsAboveModel" "noted" "[I") (by decide +kernel)) (fun _ h9 => h9) rfl dX9_notice_82 ?_
                  refine lv_bipush (v := 8) hx hb dX9_notice_85 (by decide) ?_
                  refine lv_iload hx hb dX9_notice_87 (lv_at hl 6 rfl) ?_
                  refine lv_imul hx hb dX9_notice_89 ?_
                  refine lv_topi (fun y_117 ey_117 => ?_)
                  have ty_117 : y_117.toInt = 8 * k6.toInt := by rw [ey_117]; exact fm_lI kl_8 (by omega) (by omega)
                  refine va_iald hx hb hK hP 0 0 rfl rfl (vp_in_iff.mpr ⟨by omega, by omega⟩) dX9_notice_90 ?_
                  refine lv_topi (fun y_118 ey_118 => ?_)
                  refine lv_iload_n hx hb dX9_notice_91 rfl (lv_at hl 3 rfl) ?_
                  refine lv_icmp_ne (tgt := 117) hx hb dX9_notice_92 (by decide) (fun c_92 => ?_) (fun c_92 => ?_)
                  · have t_92 := mt (fa_eq _ _).mpr c_92
                    refine lv_iload hx hb dX9_notice_117 (lv_at hl 5 rfl) ?_
                    refine lv_istore (lv' := [(5, .int b5), (0, .ref h0), (1, .int p1), (2, .int p2), (3, .int p1), (4, .int p2), (6, .int k6)]) hx hb dX9_notice_119 hl (by decide) rfl (fun ls hl => ?_)
                    obtain ⟨y_119, ey_119⟩ : ∃ y : Int32, y = k6 + 1 := ⟨_, rfl⟩
                    have ty_119 : y_119.toInt = k6.toInt + 1 := by rw [ey_119]; have := fb_addI (x := k6) (y := 1) (by omega) (by omega); omega
                    refine lv_iinc (v := y_119) (lv' := [(6, .int y_119), (5, .int b5), (0, .ref h0), (1, .int p1), (2, .int p2), (3, .int p1), (4, .int p2)]) hx hb dX9_notice_121 hl (k := 6) rfl (by rw [ey_119]; rfl) (by decide) rfl (fun ls hl => ?_)
                    refine lv_goto (tgt := 72) hx hb dX9_notice_124 (by decide) ?_
                    exact ih_72 b5 y_119 (by omega) (by omega) (by omega) (by omega) (by omega) H _ (hP.sub [0, 1, 2, 3, 4, 5] rfl) (hD.sub [0, 1, 2, 3, 4, 5] (by decide) rfl) hS ls (lv_sub hl [2, 3, 4, 5, 6, 1, 0] rfl)
                  · have t_92 := (fa_eq _ _).mp c_92
                    refine lv_aload_n hx hb dX9_notice_95 rfl (lv_at hl 0 rfl) ?_
                    refine va_get (D := (dC, dI)) (ci := 9) (v := .ref a8) (C := RX9) (T := TX9) (N := 22) hx hb hts in_X9_notice_X9 hown hK hP 1 rfl rfl 12 (by decide) (hts (.fieldLink RX9 39 "MeetingsAboveModel" "noted" "[I") (by decide +kernel)) (fun _ h9 => h9) rfl dX9_notice_96 ?_
                    refine lv_bipush (v := 8) hx hb dX9_notice_99 (by decide) ?_
                    refine lv_iload hx hb dX9_notice_101 (lv_at hl 6 rfl) ?_
                    refine lv_imul hx hb dX9_notice_103 ?_
                    refine lv_topi (fun y_120 ey_120 => ?_)
                    have ty_120 : y_120.toInt = 8 * k6.toInt := by rw [ey_120]; exact fm_lI kl_8 (by omega) (by omega)
                    refine lv_iconst (v := 1) hx hb dX9_notice_104 (by decide) ?_
                    refine lv_iadd hx hb dX9_notice_105 ?_
                    refine lv_topi (fun y_121 ey_121 => ?_)
                    have ty_121 : y_121.toInt = y_120.toInt + 1 := by rw [ey_121]; have := fb_addI (x := y_120) (y := 1) (by omega) (by omega); omega
                    refine va_iald hx hb hK hP 0 0 rfl rfl (vp_in_iff.mpr ⟨by omega, by omega⟩) dX9_notice_106 ?_
                    refine lv_topi (fun y_122 ey_122 => ?_)
                    refine lv_iload hx hb dX9_notice_107 (lv_at hl 4 rfl) ?_
                    refine lv_icmp_ne (tgt := 117) hx hb dX9_notice_109 (by decide) (fun c_109 => ?_) (fun c_109 => ?_)
                    · have t_109 := mt (fa_eq _ _).mpr c_109
                      refine lv_iload hx hb dX9_notice_117 (lv_at hl 5 rfl) ?_
                      refine lv_istore (lv' := [(5, .int b5), (0, .ref h0), (1, .int p1), (2, .int p2), (3, .int p1), (4, .int p2), (6, .int k6)]) hx hb dX9_notice_119 hl (by decide) rfl (fun ls hl => ?_)
                      obtain ⟨y_123, ey_123⟩ : ∃ y : Int32, y = k6 + 1 := ⟨_, rfl⟩
                      have ty_123 : y_123.toInt = k6.toInt + 1 := by rw [ey_123]; have := fb_addI (x := k6) (y := 1) (by omega) (by omega); omega
                      refine lv_iinc (v := y_123) (lv' := [(6, .int y_123), (5, .int b5), (0, .ref h0), (1, .int p1), (2, .int p2), (3, .int p1), (4, .int p2)]) hx hb dX9_notice_121 hl (k := 6) rfl (by rw [ey_123]; rfl) (by decide) rfl (fun ls hl => ?_)
                      refine lv_goto (tgt := 72) hx hb dX9_notice_124 (by decide) ?_
                      exact ih_72 b5 y_123 (by omega) (by omega) (by omega) (by omega) (by omega) H _ (hP.sub [0, 1, 2, 3, 4, 5] rfl) (hD.sub [0, 1, 2, 3, 4, 5] (by decide) rfl) hS ls (lv_sub hl [2, 3, 4, 5, 6, 1, 0] rfl)
                    · have t_109 := (fa_eq _ _).mp c_109
                      refine lv_iload hx hb dX9_notice_112 (lv_at hl 6 rfl) ?_
                      refine lv_goto (tgt := 119) hx hb dX9_notice_114 (by decide) ?_
                      refine lv_istore (lv' := [(5, .int k6), (0, .ref h0), (1, .int p1), (2, .int p2), (3, .int p1), (4, .int p2), (6, .int k6)]) hx hb dX9_notice_119 hl (by decide) rfl (fun ls hl => ?_)
                      obtain ⟨y_124, ey_124⟩ : ∃ y : Int32, y = k6 + 1 := ⟨_, rfl⟩
                      have ty_124 : y_124.toInt = k6.toInt + 1 := by rw [ey_124]; have := fb_addI (x := k6) (y := 1) (by omega) (by omega); omega
                      refine lv_iinc (v := y_124) (lv' := [(6, .int y_124), (5, .int k6), (0, .ref h0), (1, .int p1), (2, .int p2), (3, .int p1), (4, .int p2)]) hx hb dX9_notice_121 hl (k := 6) rfl (by rw [ey_124]; rfl) (by decide) rfl (fun ls hl => ?_)
                      refine lv_goto (tgt := 72) hx hb dX9_notice_124 (by decide) ?_
                      exact ih_72 k6 y_124 (by omega) (by omega) (by omega) (by omega) (by omega) H _ (hP.sub [0, 1, 2, 3, 4, 5] rfl) (hD.sub [0, 1, 2, 3, 4, 5] (by decide) rfl) hS ls (lv_sub hl [2, 3, 4, 5, 6, 1, 0] rfl)
        · have t_37 := (fa_eq _ _).mp c_37
          refine lv_ldc hx hb hown (hts (.constant RX9 71 (-100004)) (by decide +kernel)) dX9_notice_40 ?_
          have hP9 := hP.sub (ws' := [(h0, .inr (9, [.int th, .ref a1, .ref a2, .ref a3, .ref a4, .ref a5, .int ne, .int wi, .int dn, .ref a6, .ref a7, .int nn, .ref a8, .int la, .ref a9, .ref a10, .long up9_5, .long u_3, .int wh9_6, .long pu9_7, .long pw9_8, .ref a11])), (a1, .inl (cI, 16, .inl Fi)), (a2, .inl (cI, 16, .inl Ma)), (a4, .inl (cZ, 16, .inl Go)), (a5, .inl (cI, 576, .inl Sp)), (a8, .inl (cI, 320, .inl No))]) [1, 2, 3, 4, 5, 0] rfl
          have hD9 := hD.sub (ws' := [(h0, .inr (9, [.int th, .ref a1, .ref a2, .ref a3, .ref a4, .ref a5, .int ne, .int wi, .int dn, .ref a6, .ref a7, .int nn, .ref a8, .int la, .ref a9, .ref a10, .long up9_5, .long u_3, .int wh9_6, .long pu9_7, .long pw9_8, .ref a11])), (a1, .inl (cI, 16, .inl Fi)), (a2, .inl (cI, 16, .inl Ma)), (a4, .inl (cZ, 16, .inl Go)), (a5, .inl (cI, 576, .inl Sp)), (a8, .inl (cI, 320, .inl No))]) [1, 2, 3, 4, 5, 0] (by decide) rfl
          have hK9 := hK.sub (tys' := [(cI, .int), (cZ, .boolean)]) [0, 1] rfl
          refine W.widen (k := 0) (n := 0) (by omega) (by omega) ?_
          exact W.iret (v := (-100004)) hx hb hr (fun t ht hW => ⟨⟨_, (), rfl, trivial, up9_5, u_3, wh9_6, pu9_7, pw9_8, nn, No, by rw [ht]; exact hP9, va_K.moved hW.alike hK9, hD9, (by omega), (by omega)⟩, hS.F ht⟩) hS.2.2 dX9_notice_42
      · have t_25 := (fa_eq _ _).mp c_25
        refine lv_ldc hx hb hown (hts (.constant RX9 85 (-100003)) (by decide +kernel)) dX9_notice_28 ?_
        have hP9 := hP.sub (ws' := [(h0, .inr (9, [.int th, .ref a1, .ref a2, .ref a3, .ref a4, .ref a5, .int ne, .int wi, .int dn, .ref a6, .ref a7, .int nn, .ref a8, .int la, .ref a9, .ref a10, .long up9_5, .long u_3, .int wh9_6, .long pu9_7, .long pw9_8, .ref a11])), (a1, .inl (cI, 16, .inl Fi)), (a2, .inl (cI, 16, .inl Ma)), (a4, .inl (cZ, 16, .inl Go)), (a5, .inl (cI, 576, .inl Sp)), (a8, .inl (cI, 320, .inl No))]) [1, 2, 3, 4, 5, 0] rfl
        have hD9 := hD.sub (ws' := [(h0, .inr (9, [.int th, .ref a1, .ref a2, .ref a3, .ref a4, .ref a5, .int ne, .int wi, .int dn, .ref a6, .ref a7, .int nn, .ref a8, .int la, .ref a9, .ref a10, .long up9_5, .long u_3, .int wh9_6, .long pu9_7, .long pw9_8, .ref a11])), (a1, .inl (cI, 16, .inl Fi)), (a2, .inl (cI, 16, .inl Ma)), (a4, .inl (cZ, 16, .inl Go)), (a5, .inl (cI, 576, .inl Sp)), (a8, .inl (cI, 320, .inl No))]) [1, 2, 3, 4, 5, 0] (by decide) rfl
        have hK9 := hK.sub (tys' := [(cI, .int), (cZ, .boolean)]) [0, 1] rfl
        refine W.widen (k := 0) (n := 0) (by omega) (by omega) ?_
        exact W.iret (v := (-100003)) hx hb hr (fun t ht hW => ⟨⟨_, (), rfl, trivial, up9_5, u_3, wh9_6, pu9_7, pw9_8, nn, No, by rw [ht]; exact hP9, va_K.moved hW.alike hK9, hD9, (by omega), (by omega)⟩, hS.F ht⟩) hS.2.2 dX9_notice_30
    · refine lv_if_ne (tgt := 19) hx hb dX9_notice_13 (by decide) (fun h9 => absurd h9 (by decide)) (fun _ => ?_)
      refine lv_ldc hx hb hown (hts (.constant RX9 84 (-100001)) (by decide +kernel)) dX9_notice_16 ?_
      have hP9 := hP.sub (ws' := [(h0, .inr (9, [.int th, .ref a1, .ref a2, .ref a3, .ref a4, .ref a5, .int ne, .int wi, .int dn, .ref a6, .ref a7, .int nn, .ref a8, .int la, .ref a9, .ref a10, .long up, .long lw, .int wh, .long pu, .long pw, .ref a11])), (a1, .inl (cI, 16, .inl Fi)), (a2, .inl (cI, 16, .inl Ma)), (a4, .inl (cZ, 16, .inl Go)), (a5, .inl (cI, 576, .inl Sp)), (a8, .inl (cI, 320, .inl No))]) [0, 1, 2, 3, 4, 5] rfl
      have hD9 := hD.sub (ws' := [(h0, .inr (9, [.int th, .ref a1, .ref a2, .ref a3, .ref a4, .ref a5, .int ne, .int wi, .int dn, .ref a6, .ref a7, .int nn, .ref a8, .int la, .ref a9, .ref a10, .long up, .long lw, .int wh, .long pu, .long pw, .ref a11])), (a1, .inl (cI, 16, .inl Fi)), (a2, .inl (cI, 16, .inl Ma)), (a4, .inl (cZ, 16, .inl Go)), (a5, .inl (cI, 576, .inl Sp)), (a8, .inl (cI, 320, .inl No))]) [0, 1, 2, 3, 4, 5] (by decide) rfl
      have hK9 := hK.sub (tys' := [(cI, .int), (cZ, .boolean)]) [0, 1] rfl
      refine W.widen (k := 0) (n := 0) (by omega) (by omega) ?_
      exact W.iret (v := (-100001)) hx hb hr (fun t ht hW => ⟨⟨_, (), rfl, trivial, up, lw, wh, pu, pw, nn, No, by rw [ht]; exact hP9, va_K.moved hW.alike hK9, hD9, (by omega), (by omega)⟩, hS.F ht⟩) hS.2.2 dX9_notice_18
  · refine lv_if_eq (tgt := 16) hx hb dX9_notice_5 (by decide) (fun _ => ?_) (fun h9 => absurd h9 (by decide))
    refine lv_ldc hx hb hown (hts (.constant RX9 84 (-100001)) (by decide +kernel)) dX9_notice_16 ?_
    have hP9 := hP.sub (ws' := [(h0, .inr (9, [.int th, .ref a1, .ref a2, .ref a3, .ref a4, .ref a5, .int ne, .int wi, .int dn, .ref a6, .ref a7, .int nn, .ref a8, .int la, .ref a9, .ref a10, .long up, .long lw, .int wh, .long pu, .long pw, .ref a11])), (a1, .inl (cI, 16, .inl Fi)), (a2, .inl (cI, 16, .inl Ma)), (a4, .inl (cZ, 16, .inl Go)), (a5, .inl (cI, 576, .inl Sp)), (a8, .inl (cI, 320, .inl No))]) [0, 1, 2, 3, 4, 5] rfl
    have hD9 := hD.sub (ws' := [(h0, .inr (9, [.int th, .ref a1, .ref a2, .ref a3, .ref a4, .ref a5, .int ne, .int wi, .int dn, .ref a6, .ref a7, .int nn, .ref a8, .int la, .ref a9, .ref a10, .long up, .long lw, .int wh, .long pu, .long pw, .ref a11])), (a1, .inl (cI, 16, .inl Fi)), (a2, .inl (cI, 16, .inl Ma)), (a4, .inl (cZ, 16, .inl Go)), (a5, .inl (cI, 576, .inl Sp)), (a8, .inl (cI, 320, .inl No))]) [0, 1, 2, 3, 4, 5] (by decide) rfl
    have hK9 := hK.sub (tys' := [(cI, .int), (cZ, .boolean)]) [0, 1] rfl
    refine W.widen (k := 0) (n := 0) (by omega) (by omega) ?_
    exact W.iret (v := (-100001)) hx hb hr (fun t ht hW => ⟨⟨_, (), rfl, trivial, up, lw, wh, pu, pw, nn, No, by rw [ht]; exact hP9, va_K.moved hW.alike hK9, hD9, (by omega), (by omega)⟩, hS.F ht⟩) hS.2.2 dX9_notice_18
