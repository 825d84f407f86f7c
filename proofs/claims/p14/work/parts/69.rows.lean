def wk_X9_dotted : List Cond := .code yX9_dotted cX9_dotted 5 (some .int) :: (([.fieldLink RX9 109 "MeetingsAboveModel" "dots" "I", .fieldLink RX9 59 "MeetingsAboveModel" "things" "I", .constant RX9 70 (-100002), .constant RX9 84 (-100001)] : List Cond) ++ (wsX90 ++ ((va_wsS RX9 55 yX9_in wk_X9_in) ++ ((wsV RX9 195 RX9 yX9_isOf wk_X9_isOf) ++ ((wsV RX9 112 RX9 yX9_dotOf wk_X9_dotOf) ++ ([]))))))
theorem in_X9_dotted_X9 : ∀ w ∈ wsX90, w ∈ wk_X9_dotted := fun _ h => List.mem_cons_of_mem _ (List.mem_append_right _ (List.mem_append_left _ h))
theorem gw_X9_dotted : AG wk_X9_dotted := AG_ca (AG_l (by decide +kernel)) (AG_app ag_X9 (AG_app (AG_S gw_X9_in) (AG_app (AG_V gw_X9_isOf) (AG_app (AG_V gw_X9_dotOf) (AG_nil)))))
theorem g_X9_dotted__X9_in_55 : GoodIn wk_X9_dotted (va_wsS RX9 55 yX9_in wk_X9_in) := goodIn_m (fun _ h => List.mem_cons_of_mem _ (List.mem_append_right _ (List.mem_append_right _ (List.mem_append_left _ h)))) (AG_S gw_X9_in)
theorem g_X9_dotted__X9_isOf_195 : GoodIn wk_X9_dotted (wsV RX9 195 RX9 yX9_isOf wk_X9_isOf) := goodIn_m (fun _ h => List.mem_cons_of_mem _ (List.mem_append_right _ (List.mem_append_right _ (List.mem_append_right _ (List.mem_append_left _ h))))) (AG_V gw_X9_isOf)
theorem g_X9_dotted__X9_dotOf_112 : GoodIn wk_X9_dotted (wsV RX9 112 RX9 yX9_dotOf wk_X9_dotOf) := goodIn_m (fun _ h => List.mem_cons_of_mem _ (List.mem_append_right _ (List.mem_append_right _ (List.mem_append_right _ (List.mem_append_right _ (List.mem_append_left _ h)))))) (AG_V gw_X9_dotOf)
set_option maxHeartbeats 4000000 in
set_option maxRecDepth 100000 in
theorem c_X9_dotted (l : Launch) (dC : Nat → ClassId) (dI : Nat → Nat → Nat) (h0 : Nat) (a1 : Nat) (a2 : Nat) (a3 : Nat) (a4 : Nat) (a5 : Nat) (a6 : Nat) (a7 : Nat) (a8 : Nat) (a9 : Nat) (a10 : Nat) (a11 : Nat) (th : Int32) (ne : Int32) (wi : Int32) (dn : Int32) (nn : Int32) (la : Int32) (wh : Int32) (up : Int64) (lw : Int64) (pu : Int64) (pw : Int64) (cI : ClassId) (cZ : ClassId) (Fi : Nat → Int32) (Ma : Nat → Int32) (Db : Nat → Int32) (Go : Nat → Int32) (Sp : Nat → Int32) (Ds : Nat → Int32) (Dp : Nat → Int32) (p1 : Int32) (p2 : Int32) (hM : mOK th Fi Ma) (hd0 : 0 ≤ dn.toInt) (hd1 : dn.toInt ≤ 40) : Met l yX9_dotted wk_X9_dotted ({ frames := 4, cells := 0, slots := 0, locals := 94 }) (va_Pc [.ref h0, .int p1, .int p2] (fun U => va_P (dC, dI) vwCl [(h0, .inr (9, [.int th, .ref a1, .ref a2, .ref a3, .ref a4, .ref a5, .int ne, .int wi, .int dn, .ref a6, .ref a7, .int nn, .ref a8, .int la, .ref a9, .ref a10, .long up, .long lw, .int wh, .long pu, .long pw, .ref a11])), (a1, .inl (cI, 16, .inl Fi)), (a2, .inl (cI, 16, .inl Ma)), (a3, .inl (cI, 16, .inl Db)), (a4, .inl (cZ, 16, .inl Go)), (a5, .inl (cI, 576, .inl Sp)), (a6, .inl (cI, 40, .inl Ds)), (a7, .inl (cI, 120, .inl Dp))] U.heap ∧ va_K (dC, dI) vwCl [(cI, .int), (cZ, .boolean)] U)) (vp_Si (fun r => True)) 0 0 (fun _ => False) := by
  refine Met.ofW (cc := cX9_dotted) (maxL := 5) (ret := (some .int)) (by decide) rfl ?_
  intro p e s m args below meth c s₁ B hml hv
  obtain ⟨rfl, hP, hK⟩ := hv
  have hx := B.exec
  have hb := B.bytes
  have hr := B.returns
  have hts := atoms_spec (ws := wk_X9_dotted) B.pre
  have hown : s.vm.findClass RX9 = some m.cls := findClass_of_methodNamed B.named
  have hlocks := B.notSynchronized
  have hP : va_P (dC, dI) vwCl [(h0, .inr (9, [.int th, .ref a1, .ref a2, .ref a3, .ref a4, .ref a5, .int ne, .int wi, .int dn, .ref a6, .ref a7, .int nn, .ref a8, .int la, .ref a9, .ref a10, .long up, .long lw, .int wh, .long pu, .long pw, .ref a11])), (a1, .inl (cI, 16, .inl Fi)), (a2, .inl (cI, 16, .inl Ma)), (a3, .inl (cI, 16, .inl Db)), (a4, .inl (cZ, 16, .inl Go)), (a5, .inl (cI, 576, .inl Sp)), (a6, .inl (cI, 40, .inl Ds)), (a7, .inl (cI, 120, .inl Dp))] s.heap := hP
  have hl := lv_entry ([.ref h0, .int p1, .int p2]) (n := 5) (Nat.le_of_ble_eq_true rfl)
  rw [lg_entry_eq]
  generalize (lg_sl ([.ref h0, .int p1, .int p2]) ++ List.replicate (5 - (lg_sl ([.ref h0, .int p1, .int p2])).length) Slot.unset).toArray = ls at hl ⊢
  have hl : lv_has ls 5 [(0, .ref h0), (1, .int p1), (2, .int p2)] := hl
  have kl_m100002 : (-100002 : Int32).toInt = -100002 := by decide
  have kl_m100001 : (-100001 : Int32).toInt = -100001 := by decide
  have kl_0 : (0 : Int32).toInt = 0 := by decide
  have kl_1 : (1 : Int32).toInt = 1 := by decide
  have klL_0 : (0 : Int64).toInt = 0 := by decide
  have klL_1 : (1 : Int64).toInt = 1 := by decide
  obtain ⟨hM0, hM1, hM2⟩ := id hM
  refine lv_iload_n hx hb dX9_dotted_0 rfl (lv_at hl 1 rfl) ?_
  refine lv_i2l hx hb dX9_dotted_1 rfl ?_
  refine lv_lconst (v := 0) hx hb dX9_dotted_2 (by decide) ?_
  refine lv_aload_n hx hb dX9_dotted_3 rfl (lv_at hl 0 rfl) ?_
  refine va_get (D := (dC, dI)) (ci := 9) (v := .int dn) (C := RX9) (T := TX9) (N := 22) hx hb hts in_X9_dotted_X9 hown hK hP 0 rfl rfl 8 (by decide) (hts (.fieldLink RX9 109 "MeetingsAboveModel" "dots" "I") (by decide +kernel)) (fun _ h9 => h9) rfl dX9_dotted_4 ?_
  refine lv_iconst (v := 1) hx hb dX9_dotted_7 (by decide) ?_
  refine lv_isub hx hb dX9_dotted_8 ?_
  refine lv_topi (fun y_1 ey_1 => ?_)
  have ty_1 : y_1.toInt = dn.toInt - 1 := by rw [ey_1]; have := fb_subI (x := dn) (y := 1) (by omega) (by omega); omega
  refine lv_i2l hx hb dX9_dotted_9 rfl ?_
  refine vp_callSi (W.runS (As := [.long p1.toInt64, .long 0, .long y_1.toInt64]) (rest := []) ⟨hx, hb, hml, hown, hts⟩ (c_X9_in l dC dI p1.toInt64 0 y_1.toInt64) (va_cwS 3 hts g_X9_dotted__X9_in_55 rfl rfl rfl (by decide +kernel) ⟨Nat.le_of_ble_eq_true rfl, Nat.le_of_ble_eq_true rfl⟩) ⟨fun a U g mk q => by obtain ⟨q0, q1⟩ := q; exact ⟨q0, q1⟩, fun U hU hW => ⟨rfl, trivial⟩⟩ rfl rfl hl.1 rfl (lv_room (Nat.le_of_ble_eq_true rfl)) dX9_dotted_10 ⟨Nat.le_of_ble_eq_true rfl, Nat.le_of_ble_eq_true rfl⟩) (fun r_2 hr_2 => ?_)
  try dsimp only at hr_2
  rcases bo_split hr_2 with ⟨rfl, q_10⟩ | ⟨rfl, q_10⟩
  · simp only [Int32.toInt_toInt64, klL_0] at q_10
    refine lv_if_ne (tgt := 19) hx hb dX9_dotted_13 (by decide) (fun _ => ?_) (fun h9 => absurd h9 (by decide))
    refine lv_iload_n hx hb dX9_dotted_19 rfl (lv_at hl 2 rfl) ?_
    refine lv_i2l hx hb dX9_dotted_20 rfl ?_
    refine lv_lconst (v := 0) hx hb dX9_dotted_21 (by decide) ?_
    refine lv_lconst (v := 1) hx hb dX9_dotted_22 (by decide) ?_
    refine vp_callSi (W.runS (As := [.long p2.toInt64, .long 0, .long 1]) (rest := []) ⟨hx, hb, hml, hown, hts⟩ (c_X9_in l dC dI p2.toInt64 0 1) (va_cwS 3 hts g_X9_dotted__X9_in_55 rfl rfl rfl (by decide +kernel) ⟨Nat.le_of_ble_eq_true rfl, Nat.le_of_ble_eq_true rfl⟩) ⟨fun a U g mk q => by obtain ⟨q0, q1⟩ := q; exact ⟨q0, q1⟩, fun U hU hW => ⟨rfl, trivial⟩⟩ rfl rfl hl.1 rfl (lv_room (Nat.le_of_ble_eq_true rfl)) dX9_dotted_23 ⟨Nat.le_of_ble_eq_true rfl, Nat.le_of_ble_eq_true rfl⟩) (fun r_3 hr_3 => ?_)
    try dsimp only at hr_3
    rcases bo_split hr_3 with ⟨rfl, q_23⟩ | ⟨rfl, q_23⟩
    · simp only [Int32.toInt_toInt64, klL_0, klL_1] at q_23
      refine lv_if_ne (tgt := 32) hx hb dX9_dotted_26 (by decide) (fun _ => ?_) (fun h9 => absurd h9 (by decide))
      refine lv_iload_n hx hb dX9_dotted_32 rfl (lv_at hl 2 rfl) ?_
      refine lv_if_ne (tgt := 42) hx hb dX9_dotted_33 (by decide) (fun c_33 => ?_) (fun c_33 => ?_)
      · have t_33 := mt (fa_eq _ _).mpr c_33
        refine lv_iconst (v := (-1)) hx hb dX9_dotted_42 (by decide) ?_
        refine lv_istore_n (lv' := [(3, .int (-1)), (0, .ref h0), (1, .int p1), (2, .int p2)]) hx hb dX9_dotted_43 rfl hl (by decide) rfl (fun ls hl => ?_)
        refine lv_aload_n hx hb dX9_dotted_44 rfl (lv_at hl 1 rfl) ?_
        refine va_get (D := (dC, dI)) (ci := 9) (v := .int th) (C := RX9) (T := TX9) (N := 22) hx hb hts in_X9_dotted_X9 hown hK hP 0 rfl rfl 0 (by decide) (hts (.fieldLink RX9 59 "MeetingsAboveModel" "things" "I") (by decide +kernel)) (fun _ h9 => h9) rfl dX9_dotted_45 ?_
        refine lv_iconst (v := 1) hx hb dX9_dotted_48 (by decide) ?_
        refine lv_isub hx hb dX9_dotted_49 ?_
        refine lv_topi (fun y_4 ey_4 => ?_)
        have ty_4 : y_4.toInt = th.toInt - 1 := by rw [ey_4]; have := fb_subI (x := th) (y := 1) (by omega) (by omega); omega
        refine lv_istore (lv' := [(4, .int y_4), (3, .int (-1)), (0, .ref h0), (1, .int p1), (2, .int p2)]) hx hb dX9_dotted_50 hl (by decide) rfl (fun ls hl => ?_)
        refine (show ∀ (k : Nat) (l3 : Int32) (t4 : Int32) (hu0 : -1 ≤ t4.toInt) (hu1 : t4.toInt < th.toInt) (hk_52 : (t4.toInt + 1).toNat < k) (ls : Array Slot) (hl : lv_has ls 5 [(0, .ref h0), (1, .int p1), (2, .int p2), (3, .int l3), (4, .int t4)]), W p l e _ s m _ below meth c s.heap [] 0 0 _ (F0 m 52 ls []) from ?_) _ (-1) y_4 (by omega) (by omega) (Nat.lt_succ_self _) ls (lv_sub hl [2, 3, 4, 1, 0] rfl)
        intro k
        induction k with
        | zero => intro l3 t4 hu0 hu1 hk_52; exact absurd hk_52 (Nat.not_lt_zero _)
        | succ k ih_52 =>
          intro l3 t4 hu0 hu1 hk_52 ls hl
          refine lv_iload hx hb dX9_dotted_52 (lv_at hl 4 rfl) ?_
          refine lv_if_lt (tgt := 80) hx hb dX9_dotted_54 (by decide) (fun c_54 => ?_) (fun c_54 => ?_)
          · have t_54 := (fa_lt _ _).mp c_54
            refine lv_iload_n hx hb dX9_dotted_80 rfl (lv_at hl 3 rfl) ?_
            exact W.iret (v := l3) hx hb hr (fun t ht _ => ⟨_, rfl, trivial, ht⟩) (fun _ h => absurd h List.not_mem_nil) dX9_dotted_81
          · have t_54 := mt (fa_lt _ _).mpr c_54
            refine lv_aload_n hx hb dX9_dotted_57 rfl (lv_at hl 0 rfl) ?_
            refine lv_iload_n hx hb dX9_dotted_58 rfl (lv_at hl 1 rfl) ?_
            refine lv_iload hx hb dX9_dotted_59 (lv_at hl 4 rfl) ?_
            have hPc := hP.sub (ws' := [(h0, .inr (9, [.int th, .ref a1, .ref a2, .ref a3, .ref a4, .ref a5, .int ne, .int wi, .int dn, .ref a6, .ref a7, .int nn, .ref a8, .int la, .ref a9, .ref a10, .long up, .long lw, .int wh, .long pu, .long pw, .ref a11])), (a1, .inl (cI, 16, .inl Fi)), (a2, .inl (cI, 16, .inl Ma)), (a3, .inl (cI, 16, .inl Db)), (a4, .inl (cZ, 16, .inl Go)), (a5, .inl (cI, 576, .inl Sp)), (a6, .inl (cI, 40, .inl Ds)), (a7, .inl (cI, 120, .inl Dp))]) [0, 1, 2, 3, 4, 5, 6, 7] rfl
            have hKc := hK.sub (tys' := [(cI, .int), (cZ, .boolean)]) [0, 1] rfl
            refine vp_callSi (W.runV (As := [.int p1, .int t4]) (rest := []) ⟨hx, hb, hml, hown, hts⟩ (c_X9_isOf l dC dI h0 a1 a2 a3 a4 a5 a6 a7 a8 a9 a10 a11 th ne wi dn nn la wh up lw pu pw cI cZ Fi Ma Db Go Sp Ds Dp p1 t4 (by first | assumption | omega) (by first | omega | assumption) (by first | omega | assumption) (by first | omega | assumption) (by first | omega | assumption)) (cwV 2 hts g_X9_dotted__X9_isOf_195 rfl rfl rfl (by decide +kernel) ⟨Nat.le_of_ble_eq_true rfl, Nat.le_of_ble_eq_true rfl⟩) ⟨fun a U g mk q => by obtain ⟨q0, qP, qK⟩ := q; exact ⟨q0, qP, va_K.moved (u := U) (U := U.calling g mk a) (Vm.Alike.refl U.vm) qK⟩, va_recv hKc hPc (ci := 9) (q0 := 0) rfl rfl, fun U hU hW => ⟨rfl, by rw [hU]; exact hPc, va_K.moved hW.alike hKc⟩⟩ rfl rfl hl.1 rfl (lv_room (Nat.le_of_ble_eq_true rfl)) dX9_dotted_61 ⟨Nat.le_of_ble_eq_true rfl, Nat.le_of_ble_eq_true rfl⟩) (fun r_5 hr_5 => ?_)
            try dsimp only at hr_5
            refine lv_if_eq (tgt := 72) hx hb dX9_dotted_64 (by decide) (fun c_64 => ?_) (fun c_64 => ?_)
            · have t_64 := (fa_eq _ _).mp c_64
              refine lv_iload_n hx hb dX9_dotted_72 rfl (lv_at hl 3 rfl) ?_
              refine lv_istore_n (lv' := [(3, .int l3), (0, .ref h0), (1, .int p1), (2, .int p2), (4, .int t4)]) hx hb dX9_dotted_73 rfl hl (by decide) rfl (fun ls hl => ?_)
              obtain ⟨y_6, ey_6⟩ : ∃ y : Int32, y = t4 + (-1) := ⟨_, rfl⟩
              have ty_6 : y_6.toInt = t4.toInt - 1 := dec_I ey_6 (by omega)
              refine lv_iinc (v := y_6) (lv' := [(4, .int y_6), (3, .int l3), (0, .ref h0), (1, .int p1), (2, .int p2)]) hx hb dX9_dotted_74 hl (k := 4) rfl (by rw [ey_6]; rfl) (by decide) rfl (fun ls hl => ?_)
              refine lv_goto (tgt := 52) hx hb dX9_dotted_77 (by decide) ?_
              exact ih_52 l3 y_6 (by omega) (by omega) (by omega) ls (lv_sub hl [2, 3, 4, 1, 0] rfl)
            · have t_64 := mt (fa_eq _ _).mpr c_64
              refine lv_iload hx hb dX9_dotted_67 (lv_at hl 4 rfl) ?_
              refine lv_goto (tgt := 73) hx hb dX9_dotted_69 (by decide) ?_
              refine lv_istore_n (lv' := [(3, .int t4), (0, .ref h0), (1, .int p1), (2, .int p2), (4, .int t4)]) hx hb dX9_dotted_73 rfl hl (by decide) rfl (fun ls hl => ?_)
              obtain ⟨y_7, ey_7⟩ : ∃ y : Int32, y = t4 + (-1) := ⟨_, rfl⟩
              have ty_7 : y_7.toInt = t4.toInt - 1 := dec_I ey_7 (by omega)
              refine lv_iinc (v := y_7) (lv' := [(4, .int y_7), (3, .int t4), (0, .ref h0), (1, .int p1), (2, .int p2)]) hx hb dX9_dotted_74 hl (k := 4) rfl (by rw [ey_7]; rfl) (by decide) rfl (fun ls hl => ?_)
              refine lv_goto (tgt := 52) hx hb dX9_dotted_77 (by decide) ?_
              exact ih_52 t4 y_7 (by omega) (by omega) (by omega) ls (lv_sub hl [2, 3, 4, 1, 0] rfl)
      · have t_33 := (fa_eq _ _).mp c_33
        refine lv_aload_n hx hb dX9_dotted_36 rfl (lv_at hl 0 rfl) ?_
        refine lv_iload_n hx hb dX9_dotted_37 rfl (lv_at hl 1 rfl) ?_
        have hPc := hP.sub (ws' := [(h0, .inr (9, [.int th, .ref a1, .ref a2, .ref a3, .ref a4, .ref a5, .int ne, .int wi, .int dn, .ref a6, .ref a7, .int nn, .ref a8, .int la, .ref a9, .ref a10, .long up, .long lw, .int wh, .long pu, .long pw, .ref a11])), (a1, .inl (cI, 16, .inl Fi)), (a2, .inl (cI, 16, .inl Ma)), (a3, .inl (cI, 16, .inl Db)), (a4, .inl (cZ, 16, .inl Go)), (a5, .inl (cI, 576, .inl Sp)), (a6, .inl (cI, 40, .inl Ds)), (a7, .inl (cI, 120, .inl Dp))]) [0, 1, 2, 3, 4, 5, 6, 7] rfl
        have hKc := hK.sub (tys' := [(cI, .int), (cZ, .boolean)]) [0, 1] rfl
        refine vp_callSi (W.runV (As := [.int p1]) (rest := []) ⟨hx, hb, hml, hown, hts⟩ (c_X9_dotOf l dC dI h0 a1 a2 a3 a4 a5 a6 a7 a8 a9 a10 a11 th ne wi dn nn la wh up lw pu pw cI cZ Fi Ma Db Go Sp Ds Dp p1 (by first | assumption | omega) (by first | omega | assumption) (by first | omega | assumption)) (cwV 1 hts g_X9_dotted__X9_dotOf_112 rfl rfl rfl (by decide +kernel) ⟨Nat.le_of_ble_eq_true rfl, Nat.le_of_ble_eq_true rfl⟩) ⟨fun a U g mk q => by obtain ⟨q0, qP, qK⟩ := q; exact ⟨q0, qP, va_K.moved (u := U) (U := U.calling g mk a) (Vm.Alike.refl U.vm) qK⟩, va_recv hKc hPc (ci := 9) (q0 := 0) rfl rfl, fun U hU hW => ⟨rfl, by rw [hU]; exact hPc, va_K.moved hW.alike hKc⟩⟩ rfl rfl hl.1 rfl (lv_room (Nat.le_of_ble_eq_true rfl)) dX9_dotted_38 ⟨Nat.le_of_ble_eq_true rfl, Nat.le_of_ble_eq_true rfl⟩) (fun r_8 hr_8 => ?_)
        try dsimp only at hr_8
        exact W.iret (v := r_8) hx hb hr (fun t ht _ => ⟨_, rfl, trivial, ht⟩) (fun _ h => absurd h List.not_mem_nil) dX9_dotted_41
    · simp only [Int32.toInt_toInt64, klL_0, klL_1] at q_23
      refine lv_if_ne (tgt := 32) hx hb dX9_dotted_26 (by decide) (fun h9 => absurd h9 (by decide)) (fun _ => ?_)
      refine lv_ldc hx hb hown (hts (.constant RX9 70 (-100002)) (by decide +kernel)) dX9_dotted_29 ?_
      exact W.iret (v := (-100002)) hx hb hr (fun t ht _ => ⟨_, rfl, trivial, ht⟩) (fun _ h => absurd h List.not_mem_nil) dX9_dotted_31
  · simp only [Int32.toInt_toInt64, klL_0] at q_10
    refine lv_if_ne (tgt := 19) hx hb dX9_dotted_13 (by decide) (fun h9 => absurd h9 (by decide)) (fun _ => ?_)
    refine lv_ldc hx hb hown (hts (.constant RX9 84 (-100001)) (by decide +kernel)) dX9_dotted_16 ?_
    exact W.iret (v := (-100001)) hx hb hr (fun t ht _ => ⟨_, rfl, trivial, ht⟩) (fun _ h => absurd h List.not_mem_nil) dX9_dotted_18
def wk_X9_noticed : List Cond := .code yX9_noticed cX9_noticed 3 (some .int) :: (([.fieldLink RX9 115 "MeetingsAboveModel" "notices" "I", .constant RX9 70 (-100002), .fieldLink RX9 39 "MeetingsAboveModel" "noted" "[I", .constant RX9 84 (-100001)] : List Cond) ++ (wsX90 ++ ((va_wsS RX9 55 yX9_in wk_X9_in) ++ ([]))))
theorem in_X9_noticed_X9 : ∀ w ∈ wsX90, w ∈ wk_X9_noticed := fun _ h => List.mem_cons_of_mem _ (List.mem_append_right _ (List.mem_append_left _ h))
theorem gw_X9_noticed : AG wk_X9_noticed := AG_ca (AG_l (by decide +kernel)) (AG_app ag_X9 (AG_app (AG_S gw_X9_in) (AG_nil)))
theorem g_X9_noticed__X9_in_55 : GoodIn wk_X9_noticed (va_wsS RX9 55 yX9_in wk_X9_in) := goodIn_m (fun _ h => List.mem_cons_of_mem _ (List.mem_append_right _ (List.mem_append_right _ (List.mem_append_left _ h)))) (AG_S gw_X9_in)
set_option maxHeartbeats 4000000 in
set_option maxRecDepth 100000 in
theorem c_X9_noticed (l : Launch) (dC : Nat → ClassId) (dI : Nat → Nat → Nat) (h0 : Nat) (a1 : Nat) (a2 : Nat) (a3 : Nat) (a4 : Nat) (a5 : Nat) (a6 : Nat) (a7 : Nat) (a8 : Nat) (a9 : Nat) (a10 : Nat) (a11 : Nat) (th : Int32) (ne : Int32) (wi : Int32) (dn : Int32) (nn : Int32) (la : Int32) (wh : Int32) (up : Int64) (lw : Int64) (pu : Int64) (pw : Int64) (cI : ClassId) (No : Nat → Int32) (p1 : Int32) (p2 : Int32) (hn0 : 0 ≤ nn.toInt) (hn1 : nn.toInt ≤ 40) : Met l yX9_noticed wk_X9_noticed ({ frames := 1, cells := 0, slots := 0, locals := 25 }) (va_Pc [.ref h0, .int p1, .int p2] (fun U => va_P (dC, dI) vwCl [(h0, .inr (9, [.int th, .ref a1, .ref a2, .ref a3, .ref a4, .ref a5, .int ne, .int wi, .int dn, .ref a6, .ref a7, .int nn, .ref a8, .int la, .ref a9, .ref a10, .long up, .long lw, .int wh, .long pu, .long pw, .ref a11])), (a8, .inl (cI, 320, .inl No))] U.heap ∧ va_K (dC, dI) vwCl [(cI, .int)] U)) (vp_Si (fun r => True)) 0 0 (fun _ => False) := by
  refine Met.ofW (cc := cX9_noticed) (maxL := 3) (ret := (some .int)) (by decide) rfl ?_
  intro p e s m args below meth c s₁ B hml hv
  obtain ⟨rfl, hP, hK⟩ := hv
  have hx := B.exec
  have hb := B.bytes
  have hr := B.returns
  have hts := atoms_spec (ws := wk_X9_noticed) B.pre
  have hown : s.vm.findClass RX9 = some m.cls := findClass_of_methodNamed B.named
  have hlocks := B.notSynchronized
  have hP : va_P (dC, dI) vwCl [(h0, .inr (9, [.int th, .ref a1, .ref a2, .ref a3, .ref a4, .ref a5, .int ne, .int wi, .int dn, .ref a6, .ref a7, .int nn, .ref a8, .int la, .ref a9, .ref a10, .long up, .long lw, .int wh, .long pu, .long pw, .ref a11])), (a8, .inl (cI, 320, .inl No))] s.heap := hP
  have hl := lv_entry ([.ref h0, .int p1, .int p2]) (n := 3) (Nat.le_of_ble_eq_true rfl)
  rw [lg_entry_eq]
  generalize (lg_sl ([.ref h0, .int p1, .int p2]) ++ List.replicate (3 - (lg_sl ([.ref h0, .int p1, .int p2])).length) Slot.unset).toArray = ls at hl ⊢
  have hl : lv_has ls 3 [(0, .ref h0), (1, .int p1), (2, .int p2)] := hl
  have kl_m100002 : (-100002 : Int32).toInt = -100002 := by decide
  have kl_m100001 : (-100001 : Int32).toInt = -100001 := by decide
  have kl_0 : (0 : Int32).toInt = 0 := by decide
  have kl_1 : (1 : Int32).toInt = 1 := by decide
  have kl_2 : (2 : Int32).toInt = 2 := by decide
  have kl_3 : (3 : Int32).toInt = 3 := by decide
  have kl_4 : (4 : Int32).toInt = 4 := by decide
  have kl_5 : (5 : Int32).toInt = 5 := by decide
  have kl_6 : (6 : Int32).toInt = 6 := by decide
  have kl_7 : (7 : Int32).toInt = 7 := by decide
  have kl_8 : (8 : Int32).toInt = 8 := by decide
  have klL_0 : (0 : Int64).toInt = 0 := by decide
  refine lv_iload_n hx hb dX9_noticed_0 rfl (lv_at hl 1 rfl) ?_
  refine lv_i2l hx hb dX9_noticed_1 rfl ?_
  refine lv_lconst (v := 0) hx hb dX9_noticed_2 (by decide) ?_
  refine lv_aload_n hx hb dX9_noticed_3 rfl (lv_at hl 0 rfl) ?_
  refine va_get (D := (dC, dI)) (ci := 9) (v := .int nn) (C := RX9) (T := TX9) (N := 22) hx hb hts in_X9_noticed_X9 hown hK hP 0 rfl rfl 11 (by decide) (hts (.fieldLink RX9 115 "MeetingsAboveModel" "notices" "I") (by decide +kernel)) (fun _ h9 => h9) rfl dX9_noticed_4 ?_
  refine lv_iconst (v := 1) hx hb dX9_noticed_7 (by decide) ?_
  refine lv_isub hx hb dX9_noticed_8 ?_
  refine lv_topi (fun y_1 ey_1 => ?_)
  have ty_1 : y_1.toInt = nn.toInt - 1 := by rw [ey_1]; have := fb_subI (x := nn) (y := 1) (by omega) (by omega); omega
  refine lv_i2l hx hb dX9_noticed_9 rfl ?_
  refine vp_callSi (W.runS (As := [.long p1.toInt64, .long 0, .long y_1.toInt64]) (rest := []) ⟨hx, hb, hml, hown, hts⟩ (c_X9_in l dC dI p1.toInt64 0 y_1.toInt64) (va_cwS 3 hts g_X9_noticed__X9_in_55 rfl rfl rfl (by decide +kernel) ⟨Nat.le_of_ble_eq_true rfl, Nat.le_of_ble_eq_true rfl⟩) ⟨fun a U g mk q => by obtain ⟨q0, q1⟩ := q; exact ⟨q0, q1⟩, fun U hU hW => ⟨rfl, trivial⟩⟩ rfl rfl hl.1 rfl (lv_room (Nat.le_of_ble_eq_true rfl)) dX9_noticed_10 ⟨Nat.le_of_ble_eq_true rfl, Nat.le_of_ble_eq_true rfl⟩) (fun r_2 hr_2 => ?_)
  try dsimp only at hr_2
  rcases bo_split hr_2 with ⟨rfl, q_10⟩ | ⟨rfl, q_10⟩
  · simp only [Int32.toInt_toInt64, klL_0] at q_10
    refine lv_if_ne (tgt := 19) hx hb dX9_noticed_13 (by decide) (fun _ => ?_) (fun h9 => absurd h9 (by decide))
    refine lv_iload_n hx hb dX9_noticed_19 rfl (lv_at hl 2 rfl) ?_
    rcases sw_8 p2 with o_20 | rfl | rfl | rfl | rfl | rfl | rfl | rfl | rfl
    · refine lv_tableOut (tgt := 130) hx hb dX9_noticed_20 o_20 (by decide) ?_
      refine lv_ldc hx hb hown (hts (.constant RX9 70 (-100002)) (by decide +kernel)) dX9_noticed_130 ?_
      exact W.iret (v := (-100002)) hx hb hr (fun t ht _ => ⟨_, rfl, trivial, ht⟩) (fun _ h => absurd h List.not_mem_nil) dX9_noticed_132
    · refine lv_tableIn (tgt := 68) (off := 48) hx hb dX9_noticed_20 (by decide) (by decide) (by decide) (by decide) ?_
      refine lv_aload_n hx hb dX9_noticed_68 rfl (lv_at hl 0 rfl) ?_
      refine va_get (D := (dC, dI)) (ci := 9) (v := .ref a8) (C := RX9) (T := TX9) (N := 22) hx hb hts in_X9_noticed_X9 hown hK hP 0 rfl rfl 12 (by decide) (hts (.fieldLink RX9 39 "MeetingsAboveModel" "noted" "[I") (by decide +kernel)) (fun _ h9 => h9) rfl dX9_noticed_69 ?_
      refine lv_bipush (v := 8) hx hb dX9_noticed_72 (by decide) ?_
      refine lv_iload_n hx hb dX9_noticed_74 rfl (lv_at hl 1 rfl) ?_
      refine lv_imul hx hb dX9_noticed_75 ?_
      refine lv_topi (fun y_3 ey_3 => ?_)
      have ty_3 : y_3.toInt = 8 * p1.toInt := by rw [ey_3]; exact fm_lI kl_8 (by omega) (by omega)
      refine lv_iload_n hx hb dX9_noticed_76 rfl (lv_at hl 2 rfl) ?_
      refine lv_iadd hx hb dX9_noticed_77 ?_
      refine lv_topi (fun y_4 ey_4 => ?_)
      have ty_4 : y_4.toInt = y_3.toInt + 0 := by rw [ey_4]; have := fb_addI (x := y_3) (y := 0) (by omega) (by omega); omega
      refine va_iald hx hb hK hP 1 0 rfl rfl (vp_in_iff.mpr ⟨by omega, by omega⟩) dX9_noticed_78 ?_
      refine lv_topi (fun y_5 ey_5 => ?_)
      exact W.iret (v := y_5) hx hb hr (fun t ht _ => ⟨_, rfl, trivial, ht⟩) (fun _ h => absurd h List.not_mem_nil) dX9_noticed_79
    · refine lv_tableIn (tgt := 68) (off := 48) hx hb dX9_noticed_20 (by decide) (by decide) (by decide) (by decide) ?_
      refine lv_aload_n hx hb dX9_noticed_68 rfl (lv_at hl 0 rfl) ?_
      refine va_get (D := (dC, dI)) (ci := 9) (v := .ref a8) (C := RX9) (T := TX9) (N := 22) hx hb hts in_X9_noticed_X9 hown hK hP 0 rfl rfl 12 (by decide) (hts (.fieldLink RX9 39 "MeetingsAboveModel" "noted" "[I") (by decide +kernel)) (fun _ h9 => h9) rfl dX9_noticed_69 ?_
      refine lv_bipush (v := 8) hx hb dX9_noticed_72 (by decide) ?_
      refine lv_iload_n hx hb dX9_noticed_74 rfl (lv_at hl 1 rfl) ?_
      refine lv_imul hx hb dX9_noticed_75 ?_
      refine lv_topi (fun y_6 ey_6 => ?_)
      have ty_6 : y_6.toInt = 8 * p1.toInt := by rw [ey_6]; exact fm_lI kl_8 (by omega) (by omega)
      refine lv_iload_n hx hb dX9_noticed_76 rfl (lv_at hl 2 rfl) ?_
      refine lv_iadd hx hb dX9_noticed_77 ?_
      refine lv_topi (fun y_7 ey_7 => ?_)
      have ty_7 : y_7.toInt = y_6.toInt + 1 := by rw [ey_7]; have := fb_addI (x := y_6) (y := 1) (by omega) (by omega); omega
      refine va_iald hx hb hK hP 1 0 rfl rfl (vp_in_iff.mpr ⟨by omega, by omega⟩) dX9_noticed_78 ?_
      refine lv_topi (fun y_8 ey_8 => ?_)
      exact W.iret (v := y_8) hx hb hr (fun t ht _ => ⟨_, rfl, trivial, ht⟩) (fun _ h => absurd h List.not_mem_nil) dX9_noticed_79
    · refine lv_tableIn (tgt := 68) (off := 48) hx hb dX9_noticed_20 (by decide) (by decide) (by decide) (by decide) ?_
      refine lv_aload_n hx hb dX9_noticed_68 rfl (lv_at hl 0 rfl) ?_
      refine va_get (D := (dC, dI)) (ci := 9) (v := .ref a8) (C := RX9) (T := TX9) (N := 22) hx hb hts in_X9_noticed_X9 hown hK hP 0 rfl rfl 12 (by decide) (hts (.fieldLink RX9 39 "MeetingsAboveModel" "noted" "[I") (by decide +kernel)) (fun _ h9 => h9) rfl dX9_noticed_69 ?_
      refine lv_bipush (v := 8) hx hb dX9_noticed_72 (by decide) ?_
      refine lv_iload_n hx hb dX9_noticed_74 rfl (lv_at hl 1 rfl) ?_
      refine lv_imul hx hb dX9_noticed_75 ?_
      refine lv_topi (fun y_9 ey_9 => ?_)
      have ty_9 : y_9.toInt = 8 * p1.toInt := by rw [ey_9]; exact fm_lI kl_8 (by omega) (by omega)
      refine lv_iload_n hx hb dX9_noticed_76 rfl (lv_at hl 2 rfl) ?_
      refine lv_iadd hx hb dX9_noticed_77 ?_
      refine lv_topi (fun y_10 ey_10 => ?_)
      have ty_10 : y_10.toInt = y_9.toInt + 2 := by rw [ey_10]; have := fb_addI (x := y_9) (y := 2) (by omega) (by omega); omega
      refine va_iald hx hb hK hP 1 0 rfl rfl (vp_in_iff.mpr ⟨by omega, by omega⟩) dX9_noticed_78 ?_
      refine lv_topi (fun y_11 ey_11 => ?_)
      exact W.iret (v := y_11) hx hb hr (fun t ht _ => ⟨_, rfl, trivial, ht⟩) (fun _ h => absurd h List.not_mem_nil) dX9_noticed_79
    · refine lv_tableIn (tgt := 68) (off := 48) hx hb dX9_noticed_20 (by decide) (by decide) (by decide) (by decide) ?_
      refine lv_aload_n hx hb dX9_noticed_68 rfl (lv_at hl 0 rfl) ?_
      refine va_get (D := (dC, dI)) (ci := 9) (v := .ref a8) (C := RX9) (T := TX9) (N := 22) hx hb hts in_X9_noticed_X9 hown hK hP 0 rfl rfl 12 (by decide) (hts (.fieldLink RX9 39 "MeetingsAboveModel" "noted" "[I") (by decide +kernel)) (fun _ h9 => h9) rfl dX9_noticed_69 ?_
      refine lv_bipush (v := 8) hx hb dX9_noticed_72 (by decide) ?_
      refine lv_iload_n hx hb dX9_noticed_74 rfl (lv_at hl 1 rfl) ?_
      refine lv_imul hx hb dX9_noticed_75 ?_
      refine lv_topi (fun y_12 ey_12 => ?_)
      have ty_12 : y_12.toInt = 8 * p1.toInt := by rw [ey_12]; exact fm_lI kl_8 (by omega) (by omega)
      refine lv_iload_n hx hb dX9_noticed_76 rfl (lv_at hl 2 rfl) ?_
      refine lv_iadd hx hb dX9_noticed_77 ?_
      refine lv_topi (fun y_13 ey_13 => ?_)
      have ty_13 : y_13.toInt = y_12.toInt + 3 := by rw [ey_13]; have := fb_addI (x := y_12) (y := 3) (by omega) (by omega); omega
      refine va_iald hx hb hK hP 1 0 rfl rfl (vp_in_iff.mpr ⟨by omega, by omega⟩) dX9_noticed_78 ?_
      refine lv_topi (fun y_14 ey_14 => ?_)
      exact W.iret (v := y_14) hx hb hr (fun t ht _ => ⟨_, rfl, trivial, ht⟩) (fun _ h => absurd h List.not_mem_nil) dX9_noticed_79
    · refine lv_tableIn (tgt := 80) (off := 60) hx hb dX9_noticed_20 (by decide) (by decide) (by decide) (by decide) ?_
      refine lv_aload_n hx hb dX9_noticed_80 rfl (lv_at hl 0 rfl) ?_
      refine va_get (D := (dC, dI)) (ci := 9) (v := .ref a8) (C := RX9) (T := TX9) (N := 22) hx hb hts in_X9_noticed_X9 hown hK hP 0 rfl rfl 12 (by decide) (hts (.fieldLink RX9 39 "MeetingsAboveModel" "noted" "[I") (by decide +kernel)) (fun _ h9 => h9) rfl dX9_noticed_81 ?_
      refine lv_bipush (v := 8) hx hb dX9_noticed_84 (by decide) ?_
      refine lv_iload_n hx hb dX9_noticed_86 rfl (lv_at hl 1 rfl) ?_
      refine lv_imul hx hb dX9_noticed_87 ?_
      refine lv_topi (fun y_15 ey_15 => ?_)
      have ty_15 : y_15.toInt = 8 * p1.toInt := by rw [ey_15]; exact fm_lI kl_8 (by omega) (by omega)
      refine lv_iconst (v := 5) hx hb dX9_noticed_88 (by decide) ?_
      refine lv_iadd hx hb dX9_noticed_89 ?_
      refine lv_topi (fun y_16 ey_16 => ?_)
      have ty_16 : y_16.toInt = y_15.toInt + 5 := by rw [ey_16]; have := fb_addI (x := y_15) (y := 5) (by omega) (by omega); omega
      refine va_iald hx hb hK hP 1 0 rfl rfl (vp_in_iff.mpr ⟨by omega, by omega⟩) dX9_noticed_90 ?_
      refine lv_topi (fun y_17 ey_17 => ?_)
      exact W.iret (v := y_17) hx hb hr (fun t ht _ => ⟨_, rfl, trivial, ht⟩) (fun _ h => absurd h List.not_mem_nil) dX9_noticed_91
    · refine lv_tableIn (tgt := 92) (off := 72) hx hb dX9_noticed_20 (by decide) (by decide) (by decide) (by decide) ?_
      refine lv_aload_n hx hb dX9_noticed_92 rfl (lv_at hl 0 rfl) ?_
      refine va_get (D := (dC, dI)) (ci := 9) (v := .ref a8) (C := RX9) (T := TX9) (N := 22) hx hb hts in_X9_noticed_X9 hown hK hP 0 rfl rfl 12 (by decide) (hts (.fieldLink RX9 39 "MeetingsAboveModel" "noted" "[I") (by decide +kernel)) (fun _ h9 => h9) rfl dX9_noticed_93 ?_
      refine lv_bipush (v := 8) hx hb dX9_noticed_96 (by decide) ?_
      refine lv_iload_n hx hb dX9_noticed_98 rfl (lv_at hl 1 rfl) ?_
      refine lv_imul hx hb dX9_noticed_99 ?_
      refine lv_topi (fun y_18 ey_18 => ?_)
      have ty_18 : y_18.toInt = 8 * p1.toInt := by rw [ey_18]; exact fm_lI kl_8 (by omega) (by omega)
      refine lv_bipush (v := 6) hx hb dX9_noticed_100 (by decide) ?_
      refine lv_iadd hx hb dX9_noticed_102 ?_
      refine lv_topi (fun y_19 ey_19 => ?_)
      have ty_19 : y_19.toInt = y_18.toInt + 6 := by rw [ey_19]; have := fb_addI (x := y_18) (y := 6) (by omega) (by omega); omega
      refine va_iald hx hb hK hP 1 0 rfl rfl (vp_in_iff.mpr ⟨by omega, by omega⟩) dX9_noticed_103 ?_
      refine lv_topi (fun y_20 ey_20 => ?_)
      exact W.iret (v := y_20) hx hb hr (fun t ht _ => ⟨_, rfl, trivial, ht⟩) (fun _ h => absurd h List.not_mem_nil) dX9_noticed_104
    · refine lv_tableIn (tgt := 105) (off := 85) hx hb dX9_noticed_20 (by decide) (by decide) (by decide) (by decide) ?_
      refine lv_aload_n hx hb dX9_noticed_105 rfl (lv_at hl 0 rfl) ?_
      refine va_get (D := (dC, dI)) (ci := 9) (v := .ref a8) (C := RX9) (T := TX9) (N := 22) hx hb hts in_X9_noticed_X9 hown hK hP 0 rfl rfl 12 (by decide) (hts (.fieldLink RX9 39 "MeetingsAboveModel" "noted" "[I") (by decide +kernel)) (fun _ h9 => h9) rfl dX9_noticed_106 ?_
      refine lv_bipush (v := 8) hx hb dX9_noticed_109 (by decide) ?_
      refine lv_iload_n hx hb dX9_noticed_111 rfl (lv_at hl 1 rfl) ?_
      refine lv_imul hx hb dX9_noticed_112 ?_
      refine lv_topi (fun y_21 ey_21 => ?_)
      have ty_21 : y_21.toInt = 8 * p1.toInt := by rw [ey_21]; exact fm_lI kl_8 (by omega) (by omega)
      refine lv_bipush (v := 7) hx hb dX9_noticed_113 (by decide) ?_
      refine lv_iadd hx hb dX9_noticed_115 ?_
      refine lv_topi (fun y_22 ey_22 => ?_)
      have ty_22 : y_22.toInt = y_21.toInt + 7 := by rw [ey_22]; have := fb_addI (x := y_21) (y := 7) (by omega) (by omega); omega
      refine va_iald hx hb hK hP 1 0 rfl rfl (vp_in_iff.mpr ⟨by omega, by omega⟩) dX9_noticed_116 ?_
      refine lv_topi (fun y_23 ey_23 => ?_)
      exact W.iret (v := y_23) hx hb hr (fun t ht _ => ⟨_, rfl, trivial, ht⟩) (fun _ h => absurd h List.not_mem_nil) dX9_noticed_117
    · refine lv_tableIn (tgt := 118) (off := 98) hx hb dX9_noticed_20 (by decide) (by decide) (by decide) (by decide) ?_
      refine lv_aload_n hx hb dX9_noticed_118 rfl (lv_at hl 0 rfl) ?_
      refine va_get (D := (dC, dI)) (ci := 9) (v := .ref a8) (C := RX9) (T := TX9) (N := 22) hx hb hts in_X9_noticed_X9 hown hK hP 0 rfl rfl 12 (by decide) (hts (.fieldLink RX9 39 "MeetingsAboveModel" "noted" "[I") (by decide +kernel)) (fun _ h9 => h9) rfl dX9_noticed_119 ?_
      refine lv_bipush (v := 8) hx hb dX9_noticed_122 (by decide) ?_
      refine lv_iload_n hx hb dX9_noticed_124 rfl (lv_at hl 1 rfl) ?_
      refine lv_imul hx hb dX9_noticed_125 ?_
      refine lv_topi (fun y_24 ey_24 => ?_)
      have ty_24 : y_24.toInt = 8 * p1.toInt := by rw [ey_24]; exact fm_lI kl_8 (by omega) (by omega)
      refine lv_iconst (v := 4) hx hb dX9_noticed_126 (by decide) ?_
      refine lv_iadd hx hb dX9_noticed_127 ?_
      refine lv_topi (fun y_25 ey_25 => ?_)
      have ty_25 : y_25.toInt = y_24.toInt + 4 := by rw [ey_25]; have := fb_addI (x := y_24) (y := 4) (by omega) (by omega); omega
      refine va_iald hx hb hK hP 1 0 rfl rfl (vp_in_iff.mpr ⟨by omega, by omega⟩) dX9_noticed_128 ?_
      refine lv_topi (fun y_26 ey_26 => ?_)
      exact W.iret (v := y_26) hx hb hr (fun t ht _ => ⟨_, rfl, trivial, ht⟩) (fun _ h => absurd h List.not_mem_nil) dX9_noticed_129
  · simp only [Int32.toInt_toInt64, klL_0] at q_10
    refine lv_if_ne (tgt := 19) hx hb dX9_noticed_13 (by decide) (fun h9 => absurd h9 (by decide)) (fun _ => ?_)
    refine lv_ldc hx hb hown (hts (.constant RX9 84 (-100001)) (by decide +kernel)) dX9_noticed_16 ?_
    exact W.iret (v := (-100001)) hx hb hr (fun t ht _ => ⟨_, rfl, trivial, ht⟩) (fun _ h => absurd h List.not_mem_nil) dX9_noticed_18
