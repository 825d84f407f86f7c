def wk_X6_isBoxedE : List Cond := .code yX6_isBoxed cX6_isBoxed 2 (some .boolean) :: (([.fieldLink RX6 45 "MeetingsAbove$Dot" "step" "I", .fieldLink RX6 54 "MeetingsAbove$Dot" "x" "I", .methodLink RX6 57 Lib.Math.abs.name, .static Lib.Math.abs.name, .initialized "java/lang/Math", .code Lib.Math.abs.name Lib.Math.abs.code 1 (some .int), .fieldLink RX6 22 "MeetingsAbove$Thing" "doubt" "I", .fieldLink RX6 61 "MeetingsAbove$Dot" "y" "I", .fieldLink RX6 64 "MeetingsAbove$Dot" "z" "I"] : List Cond) ++ (wsX20 ++ (wsX60 ++ ((wsV RX6 50 RX6 yX6_hasPlace wk_X6_hasPlace) ++ ((wsV RX6 33 RX6 yX6_coord wk_X6_coord) ++ ([]))))))
theorem in_X6_isBoxedE_X2 : ∀ w ∈ wsX20, w ∈ wk_X6_isBoxedE := fun _ h => List.mem_cons_of_mem _ (List.mem_append_right _ (List.mem_append_left _ h))
theorem in_X6_isBoxedE_X6 : ∀ w ∈ wsX60, w ∈ wk_X6_isBoxedE := fun _ h => List.mem_cons_of_mem _ (List.mem_append_right _ (List.mem_append_right _ (List.mem_append_left _ h)))
theorem gw_X6_isBoxedE : AG wk_X6_isBoxedE := AG_ca (AG_l (by decide +kernel)) (AG_app ag_X2 (AG_app ag_X6 (AG_app (AG_V gw_X6_hasPlace) (AG_app (AG_V gw_X6_coord) (AG_nil)))))
theorem g_X6_isBoxedE__X6_hasPlace_50 : GoodIn wk_X6_isBoxedE (wsV RX6 50 RX6 yX6_hasPlace wk_X6_hasPlace) := goodIn_m (fun _ h => List.mem_cons_of_mem _ (List.mem_append_right _ (List.mem_append_right _ (List.mem_append_right _ (List.mem_append_left _ h))))) (AG_V gw_X6_hasPlace)
theorem g_X6_isBoxedE__X6_coord_33 : GoodIn wk_X6_isBoxedE (wsV RX6 33 RX6 yX6_coord wk_X6_coord) := goodIn_m (fun _ h => List.mem_cons_of_mem _ (List.mem_append_right _ (List.mem_append_right _ (List.mem_append_right _ (List.mem_append_right _ (List.mem_append_left _ h)))))) (AG_V gw_X6_coord)
set_option maxHeartbeats 4000000 in
set_option maxRecDepth 100000 in
theorem c_X6_isBoxedE (l : Launch) (dC : Nat → ClassId) (dI : Nat → Nat → Nat) (h0 : Nat) (x0 : Nat) (fi : Int32) (pl : Int32) (db : Int32) (go : Int32) (g : Nat → Int32) (cI : ClassId) (hd : Nat) (ds : Int32) (dx : Int32) (dy : Int32) (dz : Int32) (ht : tOK fi pl) (hdo : okD ds dx dy dz) (hdb : 0 ≤ db.toInt ∧ db.toInt ≤ 200) (hco : cOK pl g) : Met l yX6_isBoxed wk_X6_isBoxedE ({ frames := 2, cells := 0, slots := 0, locals := 41 }) (va_Pc [.ref h0, .ref hd] (fun U => va_P (dC, dI) vwCl [(h0, .inr (6, [.ref x0, .int fi, .int pl, .int db, .int go])), (x0, .inl (cI, 36, .inl g)), (hd, .inr (2, [.int ds, .int dx, .int dy, .int dz]))] U.heap ∧ va_K (dC, dI) vwCl [(cI, .int)] U)) (vp_Si (fun r => r = if boxd fi pl db g ds dx dy dz then 1 else 0)) 0 0 (fun _ => False) := by
  refine Met.ofW (cc := cX6_isBoxed) (maxL := 2) (ret := (some .boolean)) (by decide) rfl ?_
  intro p e s m args below meth c s₁ B hml hv
  obtain ⟨rfl, hP, hK⟩ := hv
  have hx := B.exec
  have hb := B.bytes
  have hr := B.returns
  have hts := atoms_spec (ws := wk_X6_isBoxedE) B.pre
  have hown : s.vm.findClass RX6 = some m.cls := findClass_of_methodNamed B.named
  have hlocks := B.notSynchronized
  have hP : va_P (dC, dI) vwCl [(h0, .inr (6, [.ref x0, .int fi, .int pl, .int db, .int go])), (x0, .inl (cI, 36, .inl g)), (hd, .inr (2, [.int ds, .int dx, .int dy, .int dz]))] s.heap := hP
  have hl := lv_entry ([.ref h0, .ref hd]) (n := 2) (Nat.le_of_ble_eq_true rfl)
  rw [lg_entry_eq]
  generalize (lg_sl ([.ref h0, .ref hd]) ++ List.replicate (2 - (lg_sl ([.ref h0, .ref hd])).length) Slot.unset).toArray = ls at hl ⊢
  have hl : lv_has ls 2 [(0, .ref h0), (1, .ref hd)] := hl
  have kl_0 : (0 : Int32).toInt = 0 := by decide
  have kl_1 : (1 : Int32).toInt = 1 := by decide
  have kl_2 : (2 : Int32).toInt = 2 := by decide
  obtain ⟨hf0, hf1, hq0, hq1⟩ := id ht
  obtain ⟨⟨o1, o2⟩, ⟨o3, o4⟩, ⟨o5, o6⟩, o7, o8⟩ := id hdo
  obtain ⟨b1, b2⟩ := id hdb
  refine lv_aload_n hx hb dX6_isBoxed_0 rfl (lv_at hl 0 rfl) ?_
  refine lv_aload_n hx hb dX6_isBoxed_1 rfl (lv_at hl 1 rfl) ?_
  refine va_get (D := (dC, dI)) (ci := 2) (v := .int ds) (C := RX2) (T := TX2) (N := 4) hx hb hts in_X6_isBoxedE_X2 hown hK hP 2 rfl rfl 0 (by decide) (hts (.fieldLink RX6 45 "MeetingsAbove$Dot" "step" "I") (by decide +kernel)) (fun _ h9 => h9) rfl dX6_isBoxed_2 ?_
  have hPc := hP.sub (ws' := [(h0, .inr (6, [.ref x0, .int fi, .int pl, .int db, .int go]))]) [0] rfl
  have hKc := hK.sub (tys' := []) [] rfl
  refine vp_callSi (W.runV (As := [.int ds]) (rest := []) ⟨hx, hb, hml, hown, hts⟩ (c_X6_hasPlace l dC dI h0 x0 fi pl db go ds (by first | assumption | omega)) (cwV 1 hts g_X6_isBoxedE__X6_hasPlace_50 rfl rfl rfl (by decide +kernel) ⟨Nat.le_of_ble_eq_true rfl, Nat.le_of_ble_eq_true rfl⟩) ⟨fun a U g mk q => by obtain ⟨q0, qP, qK⟩ := q; exact ⟨q0, qP, va_K.moved (u := U) (U := U.calling g mk a) (Vm.Alike.refl U.vm) qK⟩, va_recv hKc hPc (ci := 6) (q0 := 0) rfl rfl, fun U hU hW => ⟨rfl, by rw [hU]; exact hPc, va_K.moved hW.alike hKc⟩⟩ rfl rfl hl.1 rfl (lv_room (Nat.le_of_ble_eq_true rfl)) dX6_isBoxed_5 ⟨Nat.le_of_ble_eq_true rfl, Nat.le_of_ble_eq_true rfl⟩) (fun r_1 hr_1 => ?_)
  try dsimp only at hr_1
  rcases bo_split hr_1 with ⟨rfl, q_5⟩ | ⟨rfl, q_5⟩
  · refine lv_if_eq (tgt := 87) hx hb dX6_isBoxed_8 (by decide) (fun h9 => absurd h9 (by decide)) (fun _ => ?_)
    refine lv_aload_n hx hb dX6_isBoxed_11 rfl (lv_at hl 0 rfl) ?_
    refine lv_aload_n hx hb dX6_isBoxed_12 rfl (lv_at hl 1 rfl) ?_
    refine va_get (D := (dC, dI)) (ci := 2) (v := .int ds) (C := RX2) (T := TX2) (N := 4) hx hb hts in_X6_isBoxedE_X2 hown hK hP 2 rfl rfl 0 (by decide) (hts (.fieldLink RX6 45 "MeetingsAbove$Dot" "step" "I") (by decide +kernel)) (fun _ h9 => h9) rfl dX6_isBoxed_13 ?_
    refine lv_iconst (v := 0) hx hb dX6_isBoxed_16 (by decide) ?_
    have hPc := hP.sub (ws' := [(h0, .inr (6, [.ref x0, .int fi, .int pl, .int db, .int go])), (x0, .inl (cI, 36, .inl g))]) [0, 1] rfl
    have hKc := hK.sub (tys' := [(cI, .int)]) [0] rfl
    refine vp_callSi (W.runV (As := [.int ds, .int 0]) (rest := []) ⟨hx, hb, hml, hown, hts⟩ (c_X6_coord l dC dI h0 x0 fi pl db go g cI ds 0 (by first | omega | assumption) (by first | omega | assumption) (by first | omega | assumption) (by first | omega | assumption) (by first | omega | assumption) (by first | omega | assumption)) (cwV 2 hts g_X6_isBoxedE__X6_coord_33 rfl rfl rfl (by decide +kernel) ⟨Nat.le_of_ble_eq_true rfl, Nat.le_of_ble_eq_true rfl⟩) ⟨fun a U g mk q => by obtain ⟨q0, qP, qK⟩ := q; exact ⟨q0, qP, va_K.moved (u := U) (U := U.calling g mk a) (Vm.Alike.refl U.vm) qK⟩, va_recv hKc hPc (ci := 6) (q0 := 0) rfl rfl, fun U hU hW => ⟨rfl, by rw [hU]; exact hPc, va_K.moved hW.alike hKc⟩⟩ rfl rfl hl.1 rfl (lv_room (Nat.le_of_ble_eq_true rfl)) dX6_isBoxed_17 ⟨Nat.le_of_ble_eq_true rfl, Nat.le_of_ble_eq_true rfl⟩) (fun r_2 hr_2 => ?_)
    try dsimp only at hr_2
    have u0 := congrArg Int32.toInt hr_2
    obtain ⟨c0a, c0b⟩ := hco (ixc fi ds 0) (by unfold ixc; omega)
    refine lv_aload_n hx hb dX6_isBoxed_20 rfl (lv_at hl 1 rfl) ?_
    refine va_get (D := (dC, dI)) (ci := 2) (v := .int dx) (C := RX2) (T := TX2) (N := 4) hx hb hts in_X6_isBoxedE_X2 hown hK hP 2 rfl rfl 1 (by decide) (hts (.fieldLink RX6 54 "MeetingsAbove$Dot" "x" "I") (by decide +kernel)) (fun _ h9 => h9) rfl dX6_isBoxed_21 ?_
    refine lv_isub hx hb dX6_isBoxed_24 ?_
    refine lv_topi (fun y_3 ey_3 => ?_)
    have ty_3 : y_3.toInt = r_2.toInt - dx.toInt := by rw [ey_3]; have := fb_subI (x := r_2) (y := dx) (by omega) (by omega); omega
    refine va_mabs hx hb (by rw [hml]; exact hl.1.symm) hown (hts (.methodLink RX6 57 Lib.Math.abs.name) (by decide +kernel)) (hts (.static Lib.Math.abs.name) (by decide +kernel)) (hts (.initialized "java/lang/Math") (by decide +kernel)) (hts _ (List.mem_of_getElem? (i := 6) rfl)) (Nat.le_of_ble_eq_true rfl) (Nat.le_of_ble_eq_true rfl) (Nat.le_of_ble_eq_true rfl) (Nat.le_of_ble_eq_true rfl) dX6_isBoxed_25 ?_
    refine lv_topi (fun y_4 ey_4 => ?_)
    have ty_4 := ab_I ey_4 (by omega)
    refine lv_aload_n hx hb dX6_isBoxed_28 rfl (lv_at hl 0 rfl) ?_
    refine va_get (D := (dC, dI)) (ci := 6) (v := .int db) (C := RX6) (T := TX6) (N := 5) hx hb hts in_X6_isBoxedE_X6 hown hK hP 0 rfl rfl 3 (by decide) (hts (.fieldLink RX6 22 "MeetingsAbove$Thing" "doubt" "I") (by decide +kernel)) (fun _ h9 => h9) rfl dX6_isBoxed_29 ?_
    refine lv_icmp_gt (tgt := 87) hx hb dX6_isBoxed_32 (by decide) (fun c_32 => ?_) (fun c_32 => ?_)
    · have t_32 := (fa_lt _ _).mp c_32
      refine lv_iconst (v := 0) hx hb dX6_isBoxed_87 (by decide) ?_
      exact W.zret (v := 0) hx hb hr rfl (fun t ht _ => ⟨_, rfl, (by first | exact (if_pos (by omega)).symm | exact (if_neg (by omega)).symm), ht⟩) (fun _ h => absurd h List.not_mem_nil) dX6_isBoxed_88
    · have t_32 := mt (fa_lt _ _).mpr c_32
      refine lv_aload_n hx hb dX6_isBoxed_35 rfl (lv_at hl 0 rfl) ?_
      refine lv_aload_n hx hb dX6_isBoxed_36 rfl (lv_at hl 1 rfl) ?_
      refine va_get (D := (dC, dI)) (ci := 2) (v := .int ds) (C := RX2) (T := TX2) (N := 4) hx hb hts in_X6_isBoxedE_X2 hown hK hP 2 rfl rfl 0 (by decide) (hts (.fieldLink RX6 45 "MeetingsAbove$Dot" "step" "I") (by decide +kernel)) (fun _ h9 => h9) rfl dX6_isBoxed_37 ?_
      refine lv_iconst (v := 1) hx hb dX6_isBoxed_40 (by decide) ?_
      have hPc := hP.sub (ws' := [(h0, .inr (6, [.ref x0, .int fi, .int pl, .int db, .int go])), (x0, .inl (cI, 36, .inl g))]) [0, 1] rfl
      have hKc := hK.sub (tys' := [(cI, .int)]) [0] rfl
      refine vp_callSi (W.runV (As := [.int ds, .int 1]) (rest := []) ⟨hx, hb, hml, hown, hts⟩ (c_X6_coord l dC dI h0 x0 fi pl db go g cI ds 1 (by first | omega | assumption) (by first | omega | assumption) (by first | omega | assumption) (by first | omega | assumption) (by first | omega | assumption) (by first | omega | assumption)) (cwV 2 hts g_X6_isBoxedE__X6_coord_33 rfl rfl rfl (by decide +kernel) ⟨Nat.le_of_ble_eq_true rfl, Nat.le_of_ble_eq_true rfl⟩) ⟨fun a U g mk q => by obtain ⟨q0, qP, qK⟩ := q; exact ⟨q0, qP, va_K.moved (u := U) (U := U.calling g mk a) (Vm.Alike.refl U.vm) qK⟩, va_recv hKc hPc (ci := 6) (q0 := 0) rfl rfl, fun U hU hW => ⟨rfl, by rw [hU]; exact hPc, va_K.moved hW.alike hKc⟩⟩ rfl rfl hl.1 rfl (lv_room (Nat.le_of_ble_eq_true rfl)) dX6_isBoxed_41 ⟨Nat.le_of_ble_eq_true rfl, Nat.le_of_ble_eq_true rfl⟩) (fun r_5 hr_5 => ?_)
      try dsimp only at hr_5
      have u1 := congrArg Int32.toInt hr_5
      obtain ⟨c1a, c1b⟩ := hco (ixc fi ds 1) (by unfold ixc; omega)
      refine lv_aload_n hx hb dX6_isBoxed_44 rfl (lv_at hl 1 rfl) ?_
      refine va_get (D := (dC, dI)) (ci := 2) (v := .int dy) (C := RX2) (T := TX2) (N := 4) hx hb hts in_X6_isBoxedE_X2 hown hK hP 2 rfl rfl 2 (by decide) (hts (.fieldLink RX6 61 "MeetingsAbove$Dot" "y" "I") (by decide +kernel)) (fun _ h9 => h9) rfl dX6_isBoxed_45 ?_
      refine lv_isub hx hb dX6_isBoxed_48 ?_
      refine lv_topi (fun y_6 ey_6 => ?_)
      have ty_6 : y_6.toInt = r_5.toInt - dy.toInt := by rw [ey_6]; have := fb_subI (x := r_5) (y := dy) (by omega) (by omega); omega
      refine va_mabs hx hb (by rw [hml]; exact hl.1.symm) hown (hts (.methodLink RX6 57 Lib.Math.abs.name) (by decide +kernel)) (hts (.static Lib.Math.abs.name) (by decide +kernel)) (hts (.initialized "java/lang/Math") (by decide +kernel)) (hts _ (List.mem_of_getElem? (i := 6) rfl)) (Nat.le_of_ble_eq_true rfl) (Nat.le_of_ble_eq_true rfl) (Nat.le_of_ble_eq_true rfl) (Nat.le_of_ble_eq_true rfl) dX6_isBoxed_49 ?_
      refine lv_topi (fun y_7 ey_7 => ?_)
      have ty_7 := ab_I ey_7 (by omega)
      refine lv_aload_n hx hb dX6_isBoxed_52 rfl (lv_at hl 0 rfl) ?_
      refine va_get (D := (dC, dI)) (ci := 6) (v := .int db) (C := RX6) (T := TX6) (N := 5) hx hb hts in_X6_isBoxedE_X6 hown hK hP 0 rfl rfl 3 (by decide) (hts (.fieldLink RX6 22 "MeetingsAbove$Thing" "doubt" "I") (by decide +kernel)) (fun _ h9 => h9) rfl dX6_isBoxed_53 ?_
      refine lv_icmp_gt (tgt := 87) hx hb dX6_isBoxed_56 (by decide) (fun c_56 => ?_) (fun c_56 => ?_)
      · have t_56 := (fa_lt _ _).mp c_56
        refine lv_iconst (v := 0) hx hb dX6_isBoxed_87 (by decide) ?_
        exact W.zret (v := 0) hx hb hr rfl (fun t ht _ => ⟨_, rfl, (by first | exact (if_pos (by omega)).symm | exact (if_neg (by omega)).symm), ht⟩) (fun _ h => absurd h List.not_mem_nil) dX6_isBoxed_88
      · have t_56 := mt (fa_lt _ _).mpr c_56
        refine lv_aload_n hx hb dX6_isBoxed_59 rfl (lv_at hl 0 rfl) ?_
        refine lv_aload_n hx hb dX6_isBoxed_60 rfl (lv_at hl 1 rfl) ?_
        refine va_get (D := (dC, dI)) (ci := 2) (v := .int ds) (C := RX2) (T := TX2) (N := 4) hx hb hts in_X6_isBoxedE_X2 hown hK hP 2 rfl rfl 0 (by decide) (hts (.fieldLink RX6 45 "MeetingsAbove$Dot" "step" "I") (by decide +kernel)) (fun _ h9 => h9) rfl dX6_isBoxed_61 ?_
        refine lv_iconst (v := 2) hx hb dX6_isBoxed_64 (by decide) ?_
        have hPc := hP.sub (ws' := [(h0, .inr (6, [.ref x0, .int fi, .int pl, .int db, .int go])), (x0, .inl (cI, 36, .inl g))]) [0, 1] rfl
        have hKc := hK.sub (tys' := [(cI, .int)]) [0] rfl
        refine vp_callSi (W.runV (As := [.int ds, .int 2]) (rest := []) ⟨hx, hb, hml, hown, hts⟩ (c_X6_coord l dC dI h0 x0 fi pl db go g cI ds 2 (by first | omega | assumption) (by first | omega | assumption) (by first | omega | assumption) (by first | omega | assumption) (by first | omega | assumption) (by first | omega | assumption)) (cwV 2 hts g_X6_isBoxedE__X6_coord_33 rfl rfl rfl (by decide +kernel) ⟨Nat.le_of_ble_eq_true rfl, Nat.le_of_ble_eq_true rfl⟩) ⟨fun a U g mk q => by obtain ⟨q0, qP, qK⟩ := q; exact ⟨q0, qP, va_K.moved (u := U) (U := U.calling g mk a) (Vm.Alike.refl U.vm) qK⟩, va_recv hKc hPc (ci := 6) (q0 := 0) rfl rfl, fun U hU hW => ⟨rfl, by rw [hU]; exact hPc, va_K.moved hW.alike hKc⟩⟩ rfl rfl hl.1 rfl (lv_room (Nat.le_of_ble_eq_true rfl)) dX6_isBoxed_65 ⟨Nat.le_of_ble_eq_true rfl, Nat.le_of_ble_eq_true rfl⟩) (fun r_8 hr_8 => ?_)
        try dsimp only at hr_8
        have u2 := congrArg Int32.toInt hr_8
        obtain ⟨c2a, c2b⟩ := hco (ixc fi ds 2) (by unfold ixc; omega)
        refine lv_aload_n hx hb dX6_isBoxed_68 rfl (lv_at hl 1 rfl) ?_
        refine va_get (D := (dC, dI)) (ci := 2) (v := .int dz) (C := RX2) (T := TX2) (N := 4) hx hb hts in_X6_isBoxedE_X2 hown hK hP 2 rfl rfl 3 (by decide) (hts (.fieldLink RX6 64 "MeetingsAbove$Dot" "z" "I") (by decide +kernel)) (fun _ h9 => h9) rfl dX6_isBoxed_69 ?_
        refine lv_isub hx hb dX6_isBoxed_72 ?_
        refine lv_topi (fun y_9 ey_9 => ?_)
        have ty_9 : y_9.toInt = r_8.toInt - dz.toInt := by rw [ey_9]; have := fb_subI (x := r_8) (y := dz) (by omega) (by omega); omega
        refine va_mabs hx hb (by rw [hml]; exact hl.1.symm) hown (hts (.methodLink RX6 57 Lib.Math.abs.name) (by decide +kernel)) (hts (.static Lib.Math.abs.name) (by decide +kernel)) (hts (.initialized "java/lang/Math") (by decide +kernel)) (hts _ (List.mem_of_getElem? (i := 6) rfl)) (Nat.le_of_ble_eq_true rfl) (Nat.le_of_ble_eq_true rfl) (Nat.le_of_ble_eq_true rfl) (Nat.le_of_ble_eq_true rfl) dX6_isBoxed_73 ?_
        refine lv_topi (fun y_10 ey_10 => ?_)
        have ty_10 := ab_I ey_10 (by omega)
        refine lv_aload_n hx hb dX6_isBoxed_76 rfl (lv_at hl 0 rfl) ?_
        refine va_get (D := (dC, dI)) (ci := 6) (v := .int db) (C := RX6) (T := TX6) (N := 5) hx hb hts in_X6_isBoxedE_X6 hown hK hP 0 rfl rfl 3 (by decide) (hts (.fieldLink RX6 22 "MeetingsAbove$Thing" "doubt" "I") (by decide +kernel)) (fun _ h9 => h9) rfl dX6_isBoxed_77 ?_
        refine lv_icmp_gt (tgt := 87) hx hb dX6_isBoxed_80 (by decide) (fun c_80 => ?_) (fun c_80 => ?_)
        · have t_80 := (fa_lt _ _).mp c_80
          refine lv_iconst (v := 0) hx hb dX6_isBoxed_87 (by decide) ?_
          exact W.zret (v := 0) hx hb hr rfl (fun t ht _ => ⟨_, rfl, (by first | exact (if_pos (by omega)).symm | exact (if_neg (by omega)).symm), ht⟩) (fun _ h => absurd h List.not_mem_nil) dX6_isBoxed_88
        · have t_80 := mt (fa_lt _ _).mpr c_80
          refine lv_iconst (v := 1) hx hb dX6_isBoxed_83 (by decide) ?_
          refine lv_goto (tgt := 88) hx hb dX6_isBoxed_84 (by decide) ?_
          exact W.zret (v := 1) hx hb hr rfl (fun t ht _ => ⟨_, rfl, (by first | exact (if_pos (by omega)).symm | exact (if_neg (by omega)).symm), ht⟩) (fun _ h => absurd h List.not_mem_nil) dX6_isBoxed_88
  · refine lv_if_eq (tgt := 87) hx hb dX6_isBoxed_8 (by decide) (fun _ => ?_) (fun h9 => absurd h9 (by decide))
    refine lv_iconst (v := 0) hx hb dX6_isBoxed_87 (by decide) ?_
    exact W.zret (v := 0) hx hb hr rfl (fun t ht _ => ⟨_, rfl, (by first | exact (if_pos (by omega)).symm | exact (if_neg (by omega)).symm), ht⟩) (fun _ h => absurd h List.not_mem_nil) dX6_isBoxed_88
def wk_X1_isHolderE : List Cond := .code yX1_isHolder cX1_isHolder 4 (some .boolean) :: (([.fieldLink RX1 37 "MeetingsAbove$Thing" "gone" "Z"] : List Cond) ++ (wsX60 ++ ((wsV RX1 22 RX1 yX1_find wk_X1_find) ++ ((wsV RX1 45 RX6 yX6_isBoxed wk_X6_isBoxedE) ++ ([])))))
theorem in_X1_isHolderE_X6 : ∀ w ∈ wsX60, w ∈ wk_X1_isHolderE := fun _ h => List.mem_cons_of_mem _ (List.mem_append_right _ (List.mem_append_left _ h))
theorem gw_X1_isHolderE : AG wk_X1_isHolderE := AG_ca (AG_l (by decide +kernel)) (AG_app ag_X6 (AG_app (AG_V gw_X1_find) (AG_app (AG_V gw_X6_isBoxedE) (AG_nil))))
theorem g_X1_isHolderE__X1_find_22 : GoodIn wk_X1_isHolderE (wsV RX1 22 RX1 yX1_find wk_X1_find) := goodIn_m (fun _ h => List.mem_cons_of_mem _ (List.mem_append_right _ (List.mem_append_right _ (List.mem_append_left _ h)))) (AG_V gw_X1_find)
theorem g_X1_isHolderE__X6_isBoxedE_45 : GoodIn wk_X1_isHolderE (wsV RX1 45 RX6 yX6_isBoxed wk_X6_isBoxedE) := goodIn_m (fun _ h => List.mem_cons_of_mem _ (List.mem_append_right _ (List.mem_append_right _ (List.mem_append_right _ (List.mem_append_left _ h))))) (AG_V gw_X6_isBoxedE)
set_option maxHeartbeats 4000000 in
set_option maxRecDepth 100000 in
theorem c_X1_isHolderE (l : Launch) (dC : Nat → ClassId) (dI : Nat → Nat → Nat) (h0 : Nat) (na : Nat) (cT : ClassId) (sz9 : Int32) (ga : Nat → Option Nat) (cI : ClassId) (L : List Nat) (f : Nat → va_E) (ow : Nat → Nat) (v : Nat → TV) (hd : Nat) (ds : Int32) (dx : Int32) (dy : Int32) (dz : Int32) (p1 : Int32) (hV : nowV L f cI ow sz9 ga v) (hdo : okD ds dx dy dz) : Met l yX1_isHolder wk_X1_isHolderE ({ frames := 3, cells := 0, slots := 0, locals := 62 }) (va_Pc [.ref h0, .int p1, .ref hd] (fun U => va_P (dC, dI) vwCl (([(h0, .inr (1, [.ref na, .int sz9])), (na, .inl (cT, 16, .inr (.inr (.inr (.inr ga))))), (hd, .inr (2, [.int ds, .int dx, .int dy, .int dz]))] : va_W) ++ va_pl L f) U.heap ∧ va_K (dC, dI) vwCl [(cT, .object "MeetingsAbove$Thing"), (cI, .int)] U)) (vp_Si (fun r => r = if (0 ≤ p1.toInt ∧ p1.toInt < sz9.toInt) ∧ hold (v p1.toNatClampNeg) (ds, dx, dy, dz) then 1 else 0)) 0 0 (fun _ => False) := by
  refine Met.ofW (cc := cX1_isHolder) (maxL := 4) (ret := (some .boolean)) (by decide) rfl ?_
  intro p e s m args below meth c s₁ B hml hv
  obtain ⟨rfl, hP, hK⟩ := hv
  have hx := B.exec
  have hb := B.bytes
  have hr := B.returns
  have hts := atoms_spec (ws := wk_X1_isHolderE) B.pre
  have hown : s.vm.findClass RX1 = some m.cls := findClass_of_methodNamed B.named
  have hlocks := B.notSynchronized
  have hP : va_P (dC, dI) vwCl (([(h0, .inr (1, [.ref na, .int sz9])), (na, .inl (cT, 16, .inr (.inr (.inr (.inr ga))))), (hd, .inr (2, [.int ds, .int dx, .int dy, .int dz]))] : va_W) ++ va_pl L f) s.heap := hP
  have hl := lv_entry ([.ref h0, .int p1, .ref hd]) (n := 4) (Nat.le_of_ble_eq_true rfl)
  rw [lg_entry_eq]
  generalize (lg_sl ([.ref h0, .int p1, .ref hd]) ++ List.replicate (4 - (lg_sl ([.ref h0, .int p1, .ref hd])).length) Slot.unset).toArray = ls at hl ⊢
  have hl : lv_has ls 4 [(0, .ref h0), (1, .int p1), (2, .ref hd)] := hl
  have kl_0 : (0 : Int32).toInt = 0 := by decide
  have kl_1 : (1 : Int32).toInt = 1 := by decide
  have hC := nowV_cat hV
  obtain ⟨hC0, hC1, hC2⟩ := id hC
  refine lv_aload_n hx hb dX1_isHolder_0 rfl (lv_at hl 0 rfl) ?_
  refine lv_iload_n hx hb dX1_isHolder_1 rfl (lv_at hl 1 rfl) ?_
  have hPc := hP.sub (ws' := [(h0, .inr (1, [.ref na, .int sz9])), (na, .inl (cT, 16, .inr (.inr (.inr (.inr ga)))))]) [0, 1] rfl
  have hKc := hK.sub (tys' := [(cT, .object "MeetingsAbove$Thing")]) [0] rfl
  refine va_csq (W.runV (As := [.int p1]) (rest := []) ⟨hx, hb, hml, hown, hts⟩ (c_X1_find l dC dI h0 na cT sz9 ga p1) (cwV 1 hts g_X1_isHolderE__X1_find_22 rfl rfl rfl (by decide +kernel) ⟨Nat.le_of_ble_eq_true rfl, Nat.le_of_ble_eq_true rfl⟩) ⟨fun a U g mk q => by obtain ⟨q0, qP, qK⟩ := q; exact ⟨q0, qP, va_K.moved (u := U) (U := U.calling g mk a) (Vm.Alike.refl U.vm) qK⟩, va_recv hKc hPc (ci := 1) (q0 := 0) rfl rfl, fun U hU hW => ⟨rfl, by rw [hU]; exact hPc, va_K.moved hW.alike hKc⟩⟩ rfl rfl hl.1 rfl (lv_room (Nat.le_of_ble_eq_true rfl)) dX1_isHolder_2 ⟨Nat.le_of_ble_eq_true rfl, Nat.le_of_ble_eq_true rfl⟩) (fun r_1 hr_1 => ?_)
  try dsimp only at hr_1
  rcases r_1 with _ | w_2
  · refine W.eq (g2 := F0 m 5 ls [.null]) rfl ?_
    have hno_5 := fd_none hC hr_1
    refine lv_astore_nN (lv' := [(3, .null), (0, .ref h0), (1, .int p1), (2, .ref hd)]) hx hb dX1_isHolder_5 rfl hl (by decide) rfl (fun ls hl => ?_)
    refine lv_aload_nN hx hb dX1_isHolder_6 rfl (lv_at hl 0 rfl) ?_
    refine lv_ifnullN (tgt := 29) hx hb dX1_isHolder_7 (by decide) ?_
    refine lv_iconst (v := 0) hx hb dX1_isHolder_29 (by decide) ?_
    exact W.zret (v := 0) hx hb hr rfl (fun t ht _ => ⟨_, rfl, (by first | exact (if_neg (fun h => by have h1 := h.1; omega)).symm | exact (if_neg (fun h => by have h2 := h.2; rw [hv_w_2] at h2; have h3 := h2.1; have h4 : go_w_2.toInt = 0 := h3; omega)).symm | exact (if_neg (fun h => by have h2 := h.2; rw [hv_w_2] at h2; exact q_19 h2.2)).symm | exact (if_pos ⟨by omega, by rw [hv_w_2]; exact ⟨(by omega : go_w_2.toInt = 0), q_19⟩⟩).symm), ht⟩) (fun _ h => absurd h List.not_mem_nil) dX1_isHolder_30
  · refine W.eq (g2 := F0 m 5 ls [.ref w_2]) rfl ?_
    obtain ⟨hi_w_2, hw_w_2⟩ := fd_some hr_1
    obtain ⟨x_w_2, fi_w_2, pl_w_2, db_w_2, go_w_2, g_w_2, hL_w_2, hX_w_2, hf_w_2, hg_w_2, ht_w_2, hgo_w_2, hdb_w_2, hco_w_2, h4_w_2, hv_w_2, oa_w_2, ox_w_2, hne_w_2⟩ := nv_of hV (by rw [tc_I (by omega)]; omega) hw_w_2
    obtain ⟨q1_w_2, q2_w_2, q3_w_2, q4_w_2⟩ := id ht_w_2
    obtain ⟨d1_w_2, d2_w_2⟩ := id hdb_w_2
    obtain ⟨e1_w_2, e2_w_2⟩ := id h4_w_2
    refine lv_astore_n (lv' := [(3, .ref w_2), (0, .ref h0), (1, .int p1), (2, .ref hd)]) hx hb dX1_isHolder_5 rfl hl (by decide) rfl (fun ls hl => ?_)
    refine lv_aload_n hx hb dX1_isHolder_6 rfl (lv_at hl 0 rfl) ?_
    refine lv_ifnull hx hb dX1_isHolder_7 ?_
    refine lv_aload_n hx hb dX1_isHolder_10 rfl (lv_at hl 0 rfl) ?_
    obtain ⟨k_3, hk_3⟩ := pl_ix (X := [(h0, .inr (1, [.ref na, .int sz9])), (na, .inl (cT, 16, .inr (.inr (.inr (.inr ga))))), (hd, .inr (2, [.int ds, .int dx, .int dy, .int dz]))]) hL_w_2 hf_w_2
    refine va_get (D := (dC, dI)) (ci := 6) (v := .int go_w_2) (C := RX6) (T := TX6) (N := 5) hx hb hts in_X1_isHolderE_X6 hown hK hP k_3 hk_3 rfl 4 (by decide) (hts (.fieldLink RX1 37 "MeetingsAbove$Thing" "gone" "Z") (by decide +kernel)) (fun _ h9 => h9) rfl dX1_isHolder_11 ?_
    refine lv_if_ne (tgt := 29) hx hb dX1_isHolder_14 (by decide) (fun c_14 => ?_) (fun c_14 => ?_)
    · have t_14 := mt (fa_eq _ _).mpr c_14
      refine lv_iconst (v := 0) hx hb dX1_isHolder_29 (by decide) ?_
      exact W.zret (v := 0) hx hb hr rfl (fun t ht _ => ⟨_, rfl, (by first | exact (if_neg (fun h => by have h1 := h.1; omega)).symm | exact (if_neg (fun h => by have h2 := h.2; rw [hv_w_2] at h2; have h3 := h2.1; have h4 : go_w_2.toInt = 0 := h3; omega)).symm | exact (if_neg (fun h => by have h2 := h.2; rw [hv_w_2] at h2; exact q_19 h2.2)).symm | exact (if_pos ⟨by omega, by rw [hv_w_2]; exact ⟨(by omega : go_w_2.toInt = 0), q_19⟩⟩).symm), ht⟩) (fun _ h => absurd h List.not_mem_nil) dX1_isHolder_30
    · have t_14 := (fa_eq _ _).mp c_14
      refine lv_aload_n hx hb dX1_isHolder_17 rfl (lv_at hl 0 rfl) ?_
      refine lv_aload_n hx hb dX1_isHolder_18 rfl (lv_at hl 3 rfl) ?_
      have hPc : va_P (dC, dI) vwCl [(w_2, .inr (6, [.ref x_w_2, .int fi_w_2, .int pl_w_2, .int db_w_2, .int go_w_2])), (x_w_2, .inl (cI, 36, .inl g_w_2)), (hd, .inr (2, [.int ds, .int dx, .int dy, .int dz]))] s.heap := P_cons (pl_at (X := [(h0, .inr (1, [.ref na, .int sz9])), (na, .inl (cT, 16, .inr (.inr (.inr (.inr ga))))), (hd, .inr (2, [.int ds, .int dx, .int dy, .int dz]))]) hP hL_w_2 hf_w_2) (P_cons (pl_at (X := [(h0, .inr (1, [.ref na, .int sz9])), (na, .inl (cT, 16, .inr (.inr (.inr (.inr ga))))), (hd, .inr (2, [.int ds, .int dx, .int dy, .int dz]))]) hP hX_w_2 hg_w_2) (P_cons (hP.sub (ws' := [(hd, .inr (2, [.int ds, .int dx, .int dy, .int dz]))]) [2] rfl) (P_nil)))
      have hKc := hK.sub (tys' := [(cI, .int)]) [1] rfl
      refine vp_callSi (W.runV (As := [.ref hd]) (rest := []) ⟨hx, hb, hml, hown, hts⟩ (c_X6_isBoxedE l dC dI w_2 x_w_2 fi_w_2 pl_w_2 db_w_2 go_w_2 g_w_2 cI hd ds dx dy dz (by first | assumption | omega) (by first | assumption | omega) (by first | omega | assumption) (by first | assumption | omega)) (cwV 1 hts g_X1_isHolderE__X6_isBoxedE_45 rfl rfl rfl (by decide +kernel) ⟨Nat.le_of_ble_eq_true rfl, Nat.le_of_ble_eq_true rfl⟩) ⟨fun a U g mk q => by obtain ⟨q0, qP, qK⟩ := q; exact ⟨q0, qP, va_K.moved (u := U) (U := U.calling g mk a) (Vm.Alike.refl U.vm) qK⟩, va_recv hKc hPc (ci := 6) (q0 := 0) rfl rfl, fun U hU hW => ⟨rfl, by rw [hU]; exact hPc, va_K.moved hW.alike hKc⟩⟩ rfl rfl hl.1 rfl (lv_room (Nat.le_of_ble_eq_true rfl)) dX1_isHolder_19 ⟨Nat.le_of_ble_eq_true rfl, Nat.le_of_ble_eq_true rfl⟩) (fun r_4 hr_4 => ?_)
      try dsimp only at hr_4
      rcases bo_split hr_4 with ⟨rfl, q_19⟩ | ⟨rfl, q_19⟩
      · refine lv_if_eq (tgt := 29) hx hb dX1_isHolder_22 (by decide) (fun h9 => absurd h9 (by decide)) (fun _ => ?_)
        refine lv_iconst (v := 1) hx hb dX1_isHolder_25 (by decide) ?_
        refine lv_goto (tgt := 30) hx hb dX1_isHolder_26 (by decide) ?_
        exact W.zret (v := 1) hx hb hr rfl (fun t ht _ => ⟨_, rfl, (by first | exact (if_neg (fun h => by have h1 := h.1; omega)).symm | exact (if_neg (fun h => by have h2 := h.2; rw [hv_w_2] at h2; have h3 := h2.1; have h4 : go_w_2.toInt = 0 := h3; omega)).symm | exact (if_neg (fun h => by have h2 := h.2; rw [hv_w_2] at h2; exact q_19 h2.2)).symm | exact (if_pos ⟨by omega, by rw [hv_w_2]; exact ⟨(by omega : go_w_2.toInt = 0), q_19⟩⟩).symm), ht⟩) (fun _ h => absurd h List.not_mem_nil) dX1_isHolder_30
      · refine lv_if_eq (tgt := 29) hx hb dX1_isHolder_22 (by decide) (fun _ => ?_) (fun h9 => absurd h9 (by decide))
        refine lv_iconst (v := 0) hx hb dX1_isHolder_29 (by decide) ?_
        exact W.zret (v := 0) hx hb hr rfl (fun t ht _ => ⟨_, rfl, (by first | exact (if_neg (fun h => by have h1 := h.1; omega)).symm | exact (if_neg (fun h => by have h2 := h.2; rw [hv_w_2] at h2; have h3 := h2.1; have h4 : go_w_2.toInt = 0 := h3; omega)).symm | exact (if_neg (fun h => by have h2 := h.2; rw [hv_w_2] at h2; exact q_19 h2.2)).symm | exact (if_pos ⟨by omega, by rw [hv_w_2]; exact ⟨(by omega : go_w_2.toInt = 0), q_19⟩⟩).symm), ht⟩) (fun _ h => absurd h List.not_mem_nil) dX1_isHolder_30
def wk_X1_countHoldersE : List Cond := .code yX1_countHolders cX1_countHolders 4 (some .int) :: (([.fieldLink RX1 17 "MeetingsAbove$Catalogue" "size" "I"] : List Cond) ++ (wsX10 ++ ((wsV RX1 49 RX1 yX1_isHolder wk_X1_isHolderE) ++ ([]))))
theorem in_X1_countHoldersE_X1 : ∀ w ∈ wsX10, w ∈ wk_X1_countHoldersE := fun _ h => List.mem_cons_of_mem _ (List.mem_append_right _ (List.mem_append_left _ h))
theorem gw_X1_countHoldersE : AG wk_X1_countHoldersE := AG_ca (AG_l (by decide +kernel)) (AG_app ag_X1 (AG_app (AG_V gw_X1_isHolderE) (AG_nil)))
theorem g_X1_countHoldersE__X1_isHolderE_49 : GoodIn wk_X1_countHoldersE (wsV RX1 49 RX1 yX1_isHolder wk_X1_isHolderE) := goodIn_m (fun _ h => List.mem_cons_of_mem _ (List.mem_append_right _ (List.mem_append_right _ (List.mem_append_left _ h)))) (AG_V gw_X1_isHolderE)
set_option maxHeartbeats 4000000 in
set_option maxRecDepth 100000 in
theorem c_X1_countHoldersE (l : Launch) (dC : Nat → ClassId) (dI : Nat → Nat → Nat) (h0 : Nat) (na : Nat) (cT : ClassId) (sz9 : Int32) (ga : Nat → Option Nat) (cI : ClassId) (L : List Nat) (f : Nat → va_E) (ow : Nat → Nat) (v : Nat → TV) (hd : Nat) (ds : Int32) (dx : Int32) (dy : Int32) (dz : Int32) (hV : nowV L f cI ow sz9 ga v) (hdo : okD ds dx dy dz) : Met l yX1_countHolders wk_X1_countHoldersE ({ frames := 4, cells := 0, slots := 0, locals := 85 }) (va_Pc [.ref h0, .ref hd] (fun U => va_P (dC, dI) vwCl (([(h0, .inr (1, [.ref na, .int sz9])), (na, .inl (cT, 16, .inr (.inr (.inr (.inr ga))))), (hd, .inr (2, [.int ds, .int dx, .int dy, .int dz]))] : va_W) ++ va_pl L f) U.heap ∧ va_K (dC, dI) vwCl [(cT, .object "MeetingsAbove$Thing"), (cI, .int)] U)) (vp_Si (fun r => r.toInt = cntP (fun k => hold (v k) (ds, dx, dy, dz)) sz9.toInt.toNat)) 0 0 (fun _ => False) := by
  refine Met.ofW (cc := cX1_countHolders) (maxL := 4) (ret := (some .int)) (by decide) rfl ?_
  intro p e s m args below meth c s₁ B hml hv
  obtain ⟨rfl, hP, hK⟩ := hv
  have hx := B.exec
  have hb := B.bytes
  have hr := B.returns
  have hts := atoms_spec (ws := wk_X1_countHoldersE) B.pre
  have hown : s.vm.findClass RX1 = some m.cls := findClass_of_methodNamed B.named
  have hlocks := B.notSynchronized
  have hP : va_P (dC, dI) vwCl (([(h0, .inr (1, [.ref na, .int sz9])), (na, .inl (cT, 16, .inr (.inr (.inr (.inr ga))))), (hd, .inr (2, [.int ds, .int dx, .int dy, .int dz]))] : va_W) ++ va_pl L f) s.heap := hP
  have hl := lv_entry ([.ref h0, .ref hd]) (n := 4) (Nat.le_of_ble_eq_true rfl)
  rw [lg_entry_eq]
  generalize (lg_sl ([.ref h0, .ref hd]) ++ List.replicate (4 - (lg_sl ([.ref h0, .ref hd])).length) Slot.unset).toArray = ls at hl ⊢
  have hl : lv_has ls 4 [(0, .ref h0), (1, .ref hd)] := hl
  have kl_0 : (0 : Int32).toInt = 0 := by decide
  have kl_1 : (1 : Int32).toInt = 1 := by decide
  have hC := nowV_cat hV
  obtain ⟨hC0, hC1, hC2⟩ := id hC
  refine lv_iconst (v := 0) hx hb dX1_countHolders_0 (by decide) ?_
  refine lv_istore_n (lv' := [(2, .int 0), (0, .ref h0), (1, .ref hd)]) hx hb dX1_countHolders_1 rfl hl (by decide) rfl (fun ls hl => ?_)
  refine lv_iconst (v := 0) hx hb dX1_countHolders_2 (by decide) ?_
  refine lv_istore_n (lv' := [(3, .int 0), (2, .int 0), (0, .ref h0), (1, .ref hd)]) hx hb dX1_countHolders_3 rfl hl (by decide) rfl (fun ls hl => ?_)
  refine (show ∀ (k : Nat) (n2 : Int32) (t3 : Int32) (hk0 : 0 ≤ t3.toInt) (hk1 : t3.toInt ≤ sz9.toInt) (hn0 : 0 ≤ n2.toInt) (hn1 : n2.toInt ≤ t3.toInt) (hn2 : n2.toInt = cntP (fun k => hold (v k) (ds, dx, dy, dz)) t3.toInt.toNat) (hk_4 : (sz9.toInt - t3.toInt).toNat < k) (ls : Array Slot) (hl : lv_has ls 4 [(0, .ref h0), (1, .ref hd), (2, .int n2), (3, .int t3)]), W p l e _ s m _ below meth c s.heap [] 0 0 _ (F0 m 4 ls []) from ?_) _ 0 0 (by omega) (by omega) (by omega) (by omega) (by rw [show (0 : Int32).toInt.toNat = 0 by omega]; exact kl_0) (Nat.lt_succ_self _) ls (lv_sub hl [2, 3, 1, 0] rfl)
  intro k
  induction k with
  | zero => intro n2 t3 hk0 hk1 hn0 hn1 hn2 hk_4; exact absurd hk_4 (Nat.not_lt_zero _)
  | succ k ih_4 =>
    intro n2 t3 hk0 hk1 hn0 hn1 hn2 hk_4 ls hl
    refine lv_iload_n hx hb dX1_countHolders_4 rfl (lv_at hl 3 rfl) ?_
    refine lv_aload_n hx hb dX1_countHolders_5 rfl (lv_at hl 0 rfl) ?_
    refine va_get (D := (dC, dI)) (ci := 1) (v := .int sz9) (C := RX1) (T := TX1) (N := 2) hx hb hts in_X1_countHoldersE_X1 hown hK hP 0 rfl rfl 1 (by decide) (hts (.fieldLink RX1 17 "MeetingsAbove$Catalogue" "size" "I") (by decide +kernel)) (fun _ h9 => h9) rfl dX1_countHolders_6 ?_
    refine lv_icmp_ge (tgt := 30) hx hb dX1_countHolders_9 (by decide) (fun c_9 => ?_) (fun c_9 => ?_)
    · have t_9 := (fa_le _ _).mp c_9
      refine lv_iload_n hx hb dX1_countHolders_30 rfl (lv_at hl 2 rfl) ?_
      exact W.iret (v := n2) hx hb hr (fun t ht _ => ⟨_, rfl, (by rw [show sz9.toInt.toNat = t3.toInt.toNat by omega]; exact hn2), ht⟩) (fun _ h => absurd h List.not_mem_nil) dX1_countHolders_31
    · have t_9 := mt (fa_le _ _).mpr c_9
      refine lv_aload_n hx hb dX1_countHolders_12 rfl (lv_at hl 0 rfl) ?_
      refine lv_iload_n hx hb dX1_countHolders_13 rfl (lv_at hl 3 rfl) ?_
      refine lv_aload_n hx hb dX1_countHolders_14 rfl (lv_at hl 1 rfl) ?_
      have hPc := hP.part (cx := [(h0, .inr (1, [.ref na, .int sz9])), (na, .inl (cT, 16, .inr (.inr (.inr (.inr ga))))), (hd, .inr (2, [.int ds, .int dx, .int dy, .int dz]))]) [0, 1, 2] rfl
      have hKc := hK.sub (tys' := [(cT, .object "MeetingsAbove$Thing"), (cI, .int)]) [0, 1] rfl
      refine vp_callSi (W.runV (As := [.int t3, .ref hd]) (rest := []) ⟨hx, hb, hml, hown, hts⟩ (c_X1_isHolderE l dC dI h0 na cT sz9 ga cI L f ow v hd ds dx dy dz t3 (by first | assumption | omega) (by first | assumption | omega)) (cwV 2 hts g_X1_countHoldersE__X1_isHolderE_49 rfl rfl rfl (by decide +kernel) ⟨Nat.le_of_ble_eq_true rfl, Nat.le_of_ble_eq_true rfl⟩) ⟨fun a U g mk q => by obtain ⟨q0, qP, qK⟩ := q; exact ⟨q0, qP, va_K.moved (u := U) (U := U.calling g mk a) (Vm.Alike.refl U.vm) qK⟩, va_recv hKc hPc (ci := 1) (q0 := 0) rfl rfl, fun U hU hW => ⟨rfl, by rw [hU]; exact hPc, va_K.moved hW.alike hKc⟩⟩ rfl rfl hl.1 rfl (lv_room (Nat.le_of_ble_eq_true rfl)) dX1_countHolders_15 ⟨Nat.le_of_ble_eq_true rfl, Nat.le_of_ble_eq_true rfl⟩) (fun r_1 hr_1 => ?_)
      try dsimp only at hr_1
      rcases bo_split hr_1 with ⟨rfl, q_15⟩ | ⟨rfl, q_15⟩
      · refine lv_if_eq (tgt := 24) hx hb dX1_countHolders_18 (by decide) (fun h9 => absurd h9 (by decide)) (fun _ => ?_)
        obtain ⟨y_2, ey_2⟩ : ∃ y : Int32, y = n2 + 1 := ⟨_, rfl⟩
        have ty_2 : y_2.toInt = n2.toInt + 1 := by rw [ey_2]; have := fb_addI (x := n2) (y := 1) (by omega) (by omega); omega
        refine lv_iinc (v := y_2) (lv' := [(2, .int y_2), (0, .ref h0), (1, .ref hd), (3, .int t3)]) hx hb dX1_countHolders_21 hl (k := 2) rfl (by rw [ey_2]; rfl) (by decide) rfl (fun ls hl => ?_)
        have ni9 : t3.toNatClampNeg = t3.toInt.toNat := rfl
        obtain ⟨y_3, ey_3⟩ : ∃ y : Int32, y = t3 + 1 := ⟨_, rfl⟩
        have ty_3 : y_3.toInt = t3.toInt + 1 := by rw [ey_3]; have := fb_addI (x := t3) (y := 1) (by omega) (by omega); omega
        refine lv_iinc (v := y_3) (lv' := [(3, .int y_3), (2, .int y_2), (0, .ref h0), (1, .ref hd)]) hx hb dX1_countHolders_24 hl (k := 3) rfl (by rw [ey_3]; rfl) (by decide) rfl (fun ls hl => ?_)
        refine lv_goto (tgt := 4) hx hb dX1_countHolders_27 (by decide) ?_
        exact ih_4 y_2 y_3 (by omega) (by omega) (by omega) (by omega) (by rw [show (y_3).toInt.toNat = t3.toInt.toNat + 1 by omega]; first | (rw [cntP_1 q_15.2]; omega) | (rw [cntP_0 (fun h => q_15 ⟨⟨by omega, by omega⟩, h⟩)]; omega)) (by omega) ls (lv_sub hl [2, 3, 1, 0] rfl)
      · refine lv_if_eq (tgt := 24) hx hb dX1_countHolders_18 (by decide) (fun _ => ?_) (fun h9 => absurd h9 (by decide))
        have ni9 : t3.toNatClampNeg = t3.toInt.toNat := rfl
        obtain ⟨y_4, ey_4⟩ : ∃ y : Int32, y = t3 + 1 := ⟨_, rfl⟩
        have ty_4 : y_4.toInt = t3.toInt + 1 := by rw [ey_4]; have := fb_addI (x := t3) (y := 1) (by omega) (by omega); omega
        refine lv_iinc (v := y_4) (lv' := [(3, .int y_4), (0, .ref h0), (1, .ref hd), (2, .int n2)]) hx hb dX1_countHolders_24 hl (k := 3) rfl (by rw [ey_4]; rfl) (by decide) rfl (fun ls hl => ?_)
        refine lv_goto (tgt := 4) hx hb dX1_countHolders_27 (by decide) ?_
        exact ih_4 n2 y_4 (by omega) (by omega) (by omega) (by omega) (by rw [show (y_4).toInt.toNat = t3.toInt.toNat + 1 by omega]; first | (rw [cntP_1 q_15.2]; omega) | (rw [cntP_0 (fun h => q_15 ⟨⟨by omega, by omega⟩, h⟩)]; omega)) (by omega) ls (lv_sub hl [1, 2, 3, 0] rfl)
