def wk_X9_isOf : List Cond := .code yX9_isOf cX9_isOf 5 (some .boolean) :: (([.fieldLink RX9 19 "MeetingsAboveModel" "isGone" "[Z", .fieldLink RX9 36 "MeetingsAboveModel" "dotSpots" "[I", .fieldLink RX9 33 "MeetingsAboveModel" "dotSteps" "[I", .fieldLink RX9 16 "MeetingsAboveModel" "doubts" "[I"] : List Cond) ++ (wsX90 ++ ((wsV RX9 94 RX9 yX9_spot wk_X9_spot) ++ ((va_wsS RX9 181 yX9_size wk_X9_size) ++ ((wsV RX9 90 RX9 yX9_hasPlace wk_X9_hasPlace) ++ ([]))))))
theorem in_X9_isOf_X9 : ∀ w ∈ wsX90, w ∈ wk_X9_isOf := fun _ h => List.mem_cons_of_mem _ (List.mem_append_right _ (List.mem_append_left _ h))
theorem gw_X9_isOf : AG wk_X9_isOf := AG_ca (AG_l (by decide +kernel)) (AG_app ag_X9 (AG_app (AG_V gw_X9_spot) (AG_app (AG_S gw_X9_size) (AG_app (AG_V gw_X9_hasPlace) (AG_nil)))))
theorem g_X9_isOf__X9_spot_94 : GoodIn wk_X9_isOf (wsV RX9 94 RX9 yX9_spot wk_X9_spot) := goodIn_m (fun _ h => List.mem_cons_of_mem _ (List.mem_append_right _ (List.mem_append_right _ (List.mem_append_left _ h)))) (AG_V gw_X9_spot)
theorem g_X9_isOf__X9_size_181 : GoodIn wk_X9_isOf (va_wsS RX9 181 yX9_size wk_X9_size) := goodIn_m (fun _ h => List.mem_cons_of_mem _ (List.mem_append_right _ (List.mem_append_right _ (List.mem_append_right _ (List.mem_append_left _ h))))) (AG_S gw_X9_size)
theorem g_X9_isOf__X9_hasPlace_90 : GoodIn wk_X9_isOf (wsV RX9 90 RX9 yX9_hasPlace wk_X9_hasPlace) := goodIn_m (fun _ h => List.mem_cons_of_mem _ (List.mem_append_right _ (List.mem_append_right _ (List.mem_append_right _ (List.mem_append_right _ (List.mem_append_left _ h)))))) (AG_V gw_X9_hasPlace)
set_option maxHeartbeats 4000000 in
set_option maxRecDepth 100000 in
theorem c_X9_isOf (l : Launch) (dC : Nat → ClassId) (dI : Nat → Nat → Nat) (h0 : Nat) (a1 : Nat) (a2 : Nat) (a3 : Nat) (a4 : Nat) (a5 : Nat) (a6 : Nat) (a7 : Nat) (a8 : Nat) (a9 : Nat) (a10 : Nat) (a11 : Nat) (th : Int32) (ne : Int32) (wi : Int32) (dn : Int32) (nn : Int32) (la : Int32) (wh : Int32) (up : Int64) (lw : Int64) (pu : Int64) (pw : Int64) (cI : ClassId) (cZ : ClassId) (Fi : Nat → Int32) (Ma : Nat → Int32) (Db : Nat → Int32) (Go : Nat → Int32) (Sp : Nat → Int32) (Ds : Nat → Int32) (Dp : Nat → Int32) (p1 : Int32) (p2 : Int32) (hM : mOK th Fi Ma) (hd0 : 0 ≤ p1.toInt) (hd1 : p1.toInt < 40) (hp20 : 0 ≤ p2.toInt) (hp21 : p2.toInt < th.toInt) : Met l yX9_isOf wk_X9_isOf ({ frames := 2, cells := 0, slots := 0, locals := 47 }) (va_Pc [.ref h0, .int p1, .int p2] (fun U => va_P (dC, dI) vwCl [(h0, .inr (9, [.int th, .ref a1, .ref a2, .ref a3, .ref a4, .ref a5, .int ne, .int wi, .int dn, .ref a6, .ref a7, .int nn, .ref a8, .int la, .ref a9, .ref a10, .long up, .long lw, .int wh, .long pu, .long pw, .ref a11])), (a1, .inl (cI, 16, .inl Fi)), (a2, .inl (cI, 16, .inl Ma)), (a3, .inl (cI, 16, .inl Db)), (a4, .inl (cZ, 16, .inl Go)), (a5, .inl (cI, 576, .inl Sp)), (a6, .inl (cI, 40, .inl Ds)), (a7, .inl (cI, 120, .inl Dp))] U.heap ∧ va_K (dC, dI) vwCl [(cI, .int), (cZ, .boolean)] U)) (vp_Si (fun r => True)) 0 0 (fun _ => False) := by
  refine Met.ofW (cc := cX9_isOf) (maxL := 5) (ret := (some .boolean)) (by decide) rfl ?_
  intro p e s m args below meth c s₁ B hml hv
  obtain ⟨rfl, hP, hK⟩ := hv
  have hx := B.exec
  have hb := B.bytes
  have hr := B.returns
  have hts := atoms_spec (ws := wk_X9_isOf) B.pre
  have hown : s.vm.findClass RX9 = some m.cls := findClass_of_methodNamed B.named
  have hlocks := B.notSynchronized
  have hP : va_P (dC, dI) vwCl [(h0, .inr (9, [.int th, .ref a1, .ref a2, .ref a3, .ref a4, .ref a5, .int ne, .int wi, .int dn, .ref a6, .ref a7, .int nn, .ref a8, .int la, .ref a9, .ref a10, .long up, .long lw, .int wh, .long pu, .long pw, .ref a11])), (a1, .inl (cI, 16, .inl Fi)), (a2, .inl (cI, 16, .inl Ma)), (a3, .inl (cI, 16, .inl Db)), (a4, .inl (cZ, 16, .inl Go)), (a5, .inl (cI, 576, .inl Sp)), (a6, .inl (cI, 40, .inl Ds)), (a7, .inl (cI, 120, .inl Dp))] s.heap := hP
  have hl := lv_entry ([.ref h0, .int p1, .int p2]) (n := 5) (Nat.le_of_ble_eq_true rfl)
  rw [lg_entry_eq]
  generalize (lg_sl ([.ref h0, .int p1, .int p2]) ++ List.replicate (5 - (lg_sl ([.ref h0, .int p1, .int p2])).length) Slot.unset).toArray = ls at hl ⊢
  have hl : lv_has ls 5 [(0, .ref h0), (1, .int p1), (2, .int p2)] := hl
  have kl_0 : (0 : Int32).toInt = 0 := by decide
  have kl_1 : (1 : Int32).toInt = 1 := by decide
  have kl_3 : (3 : Int32).toInt = 3 := by decide
  obtain ⟨hM0, hM1, hM2⟩ := id hM
  have np2 : ((p2.toNatClampNeg : Nat) : Int) = p2.toInt := tc_I (by omega)
  have bp2 := hM2 p2.toNatClampNeg (by omega)
  refine lv_aload_n hx hb dX9_isOf_0 rfl (lv_at hl 0 rfl) ?_
  refine va_get (D := (dC, dI)) (ci := 9) (v := .ref a4) (C := RX9) (T := TX9) (N := 22) hx hb hts in_X9_isOf_X9 hown hK hP 0 rfl rfl 4 (by decide) (hts (.fieldLink RX9 19 "MeetingsAboveModel" "isGone" "[Z") (by decide +kernel)) (fun _ h9 => h9) rfl dX9_isOf_1 ?_
  refine lv_iload_n hx hb dX9_isOf_4 rfl (lv_at hl 2 rfl) ?_
  refine va_zald hx hb hK hP 4 1 rfl rfl (vp_in_iff.mpr ⟨by omega, by omega⟩) dX9_isOf_5 ?_
  refine lv_topi (fun y_1 ey_1 => ?_)
  refine lv_if_ne (tgt := 27) hx hb dX9_isOf_6 (by decide) (fun c_6 => ?_) (fun c_6 => ?_)
  · have t_6 := mt (fa_eq _ _).mpr c_6
    refine lv_iconst (v := 0) hx hb dX9_isOf_27 (by decide) ?_
    refine lv_istore_n (lv' := [(3, .int 0), (0, .ref h0), (1, .int p1), (2, .int p2)]) hx hb dX9_isOf_28 rfl hl (by decide) rfl (fun ls hl => ?_)
    refine lv_iconst (v := 0) hx hb dX9_isOf_29 (by decide) ?_
    refine lv_istore (lv' := [(4, .int 0), (3, .int 0), (0, .ref h0), (1, .int p1), (2, .int p2)]) hx hb dX9_isOf_30 hl (by decide) rfl (fun ls hl => ?_)
    refine (show ∀ (k : Nat) (is : Int32) (ax : Int32) (ha0 : 0 ≤ ax.toInt) (ha1 : ax.toInt ≤ 3) (hi1 : is = 1 ∨ is = 0) (his : is.toInt ≠ 0 → (Fi p2.toNatClampNeg).toInt ≤ (Ds p1.toNatClampNeg).toInt ∧ (Ds p1.toNatClampNeg).toInt < (Fi p2.toNatClampNeg).toInt + (Ma p2.toNatClampNeg).toInt) (hk_32 : (3 - ax.toInt).toNat < k) (ls : Array Slot) (hl : lv_has ls 5 [(0, .ref h0), (1, .int p1), (2, .int p2), (3, .int is), (4, .int ax)]), W p l e _ s m _ below meth c s.heap [] 0 0 _ (F0 m 32 ls []) from ?_) _ 0 0 (by omega) (by omega) (by first | exact Or.inl rfl | exact Or.inr rfl) (by intro h9; omega) (Nat.lt_succ_self _) ls (lv_sub hl [2, 3, 4, 1, 0] rfl)
    intro k
    induction k with
    | zero => intro is ax ha0 ha1 hi1 his hk_32; exact absurd hk_32 (Nat.not_lt_zero _)
    | succ k ih_32 =>
      intro is ax ha0 ha1 hi1 his hk_32 ls hl
      refine lv_iload hx hb dX9_isOf_32 (lv_at hl 4 rfl) ?_
      refine lv_iconst (v := 3) hx hb dX9_isOf_34 (by decide) ?_
      refine lv_icmp_ge (tgt := 91) hx hb dX9_isOf_35 (by decide) (fun c_35 => ?_) (fun c_35 => ?_)
      · have t_35 := (fa_le _ _).mp c_35
        refine lv_iload_n hx hb dX9_isOf_91 rfl (lv_at hl 3 rfl) ?_
        exact W.zret (v := is) hx hb hr (by rcases hi1 with h | h <;> rw [h] <;> rfl) (fun t ht _ => ⟨_, rfl, trivial, ht⟩) (fun _ h => absurd h List.not_mem_nil) dX9_isOf_92
      · have t_35 := mt (fa_le _ _).mpr c_35
        refine lv_iload_n hx hb dX9_isOf_38 rfl (lv_at hl 3 rfl) ?_
        refine lv_if_eq (tgt := 91) hx hb dX9_isOf_39 (by decide) (fun c_39 => ?_) (fun c_39 => ?_)
        · have t_39 := (fa_eq _ _).mp c_39
          refine lv_iload_n hx hb dX9_isOf_91 rfl (lv_at hl 3 rfl) ?_
          exact W.zret (v := is) hx hb hr (by rcases hi1 with h | h <;> rw [h] <;> rfl) (fun t ht _ => ⟨_, rfl, trivial, ht⟩) (fun _ h => absurd h List.not_mem_nil) dX9_isOf_92
        · have t_39 := mt (fa_eq _ _).mpr c_39
          refine lv_aload_n hx hb dX9_isOf_42 rfl (lv_at hl 0 rfl) ?_
          refine va_get (D := (dC, dI)) (ci := 9) (v := .ref a7) (C := RX9) (T := TX9) (N := 22) hx hb hts in_X9_isOf_X9 hown hK hP 0 rfl rfl 10 (by decide) (hts (.fieldLink RX9 36 "MeetingsAboveModel" "dotSpots" "[I") (by decide +kernel)) (fun _ h9 => h9) rfl dX9_isOf_43 ?_
          refine lv_iconst (v := 3) hx hb dX9_isOf_46 (by decide) ?_
          refine lv_iload_n hx hb dX9_isOf_47 rfl (lv_at hl 1 rfl) ?_
          refine lv_imul hx hb dX9_isOf_48 ?_
          refine lv_topi (fun y_2 ey_2 => ?_)
          have ty_2 : y_2.toInt = 3 * p1.toInt := by rw [ey_2]; exact fm_lI kl_3 (by omega) (by omega)
          refine lv_iload hx hb dX9_isOf_49 (lv_at hl 4 rfl) ?_
          refine lv_iadd hx hb dX9_isOf_51 ?_
          refine lv_topi (fun y_3 ey_3 => ?_)
          have ty_3 : y_3.toInt = y_2.toInt + ax.toInt := by rw [ey_3]; have := fb_addI (x := y_2) (y := ax) (by omega) (by omega); omega
          refine va_iald hx hb hK hP 7 0 rfl rfl (vp_in_iff.mpr ⟨by omega, by omega⟩) dX9_isOf_52 ?_
          refine lv_topi (fun y_4 ey_4 => ?_)
          refine lv_aload_n hx hb dX9_isOf_53 rfl (lv_at hl 0 rfl) ?_
          refine lv_iload_n hx hb dX9_isOf_54 rfl (lv_at hl 2 rfl) ?_
          refine lv_aload_n hx hb dX9_isOf_55 rfl (lv_at hl 0 rfl) ?_
          refine va_get (D := (dC, dI)) (ci := 9) (v := .ref a6) (C := RX9) (T := TX9) (N := 22) hx hb hts in_X9_isOf_X9 hown hK hP 0 rfl rfl 9 (by decide) (hts (.fieldLink RX9 33 "MeetingsAboveModel" "dotSteps" "[I") (by decide +kernel)) (fun _ h9 => h9) rfl dX9_isOf_56 ?_
          refine lv_iload_n hx hb dX9_isOf_59 rfl (lv_at hl 1 rfl) ?_
          refine va_iald hx hb hK hP 6 0 rfl rfl (vp_in_iff.mpr ⟨by omega, by omega⟩) dX9_isOf_60 ?_
          refine lv_topi (fun y_5 ey_5 => ?_)
          have uy_5 : y_5.toInt = (Ds (p1 : Int32).toNatClampNeg).toInt := by rw [ey_5]
          refine lv_iload hx hb dX9_isOf_61 (lv_at hl 4 rfl) ?_
          have hPc := hP.sub (ws' := [(h0, .inr (9, [.int th, .ref a1, .ref a2, .ref a3, .ref a4, .ref a5, .int ne, .int wi, .int dn, .ref a6, .ref a7, .int nn, .ref a8, .int la, .ref a9, .ref a10, .long up, .long lw, .int wh, .long pu, .long pw, .ref a11])), (a1, .inl (cI, 16, .inl Fi)), (a5, .inl (cI, 576, .inl Sp))]) [0, 1, 5] rfl
          have hKc := hK.sub (tys' := [(cI, .int)]) [0] rfl
          refine vp_callSi (W.runV (As := [.int p2, .int y_5, .int ax]) (rest := [.int y_4]) ⟨hx, hb, hml, hown, hts⟩ (c_X9_spot l dC dI Ma h0 a1 a2 a3 a4 a5 a6 a7 a8 a9 a10 a11 th ne wi dn nn la wh up lw pu pw cI Fi Sp p2 y_5 ax (by first | assumption | omega) (by first | omega | assumption) (by first | omega | assumption) (by first | omega | assumption) (by first | omega | assumption) (by first | omega | assumption) (by first | omega | assumption)) (cwV 3 hts g_X9_isOf__X9_spot_94 rfl rfl rfl (by decide +kernel) ⟨Nat.le_of_ble_eq_true rfl, Nat.le_of_ble_eq_true rfl⟩) ⟨fun a U g mk q => by obtain ⟨q0, qP, qK⟩ := q; exact ⟨q0, qP, va_K.moved (u := U) (U := U.calling g mk a) (Vm.Alike.refl U.vm) qK⟩, va_recv hKc hPc (ci := 9) (q0 := 0) rfl rfl, fun U hU hW => ⟨rfl, by rw [hU]; exact hPc, va_K.moved hW.alike hKc⟩⟩ rfl rfl hl.1 rfl (lv_room (Nat.le_of_ble_eq_true rfl)) dX9_isOf_63 ⟨Nat.le_of_ble_eq_true rfl, Nat.le_of_ble_eq_true rfl⟩) (fun r_6 hr_6 => ?_)
          try dsimp only at hr_6
          refine lv_isub hx hb dX9_isOf_66 ?_
          refine lv_topi (fun y_7 ey_7 => ?_)
          refine vp_callSi (W.runS (As := [.int y_7]) (rest := []) ⟨hx, hb, hml, hown, hts⟩ (c_X9_size l dC dI y_7) (va_cwS 1 hts g_X9_isOf__X9_size_181 rfl rfl rfl (by decide +kernel) ⟨Nat.le_of_ble_eq_true rfl, Nat.le_of_ble_eq_true rfl⟩) ⟨fun a U g mk q => by obtain ⟨q0, q1⟩ := q; exact ⟨q0, q1⟩, fun U hU hW => ⟨rfl, trivial⟩⟩ rfl rfl hl.1 rfl (lv_room (Nat.le_of_ble_eq_true rfl)) dX9_isOf_67 ⟨Nat.le_of_ble_eq_true rfl, Nat.le_of_ble_eq_true rfl⟩) (fun r_8 hr_8 => ?_)
          try dsimp only at hr_8
          refine lv_aload_n hx hb dX9_isOf_70 rfl (lv_at hl 0 rfl) ?_
          refine va_get (D := (dC, dI)) (ci := 9) (v := .ref a3) (C := RX9) (T := TX9) (N := 22) hx hb hts in_X9_isOf_X9 hown hK hP 0 rfl rfl 3 (by decide) (hts (.fieldLink RX9 16 "MeetingsAboveModel" "doubts" "[I") (by decide +kernel)) (fun _ h9 => h9) rfl dX9_isOf_71 ?_
          refine lv_iload_n hx hb dX9_isOf_74 rfl (lv_at hl 2 rfl) ?_
          refine va_iald hx hb hK hP 3 0 rfl rfl (vp_in_iff.mpr ⟨by omega, by omega⟩) dX9_isOf_75 ?_
          refine lv_topi (fun y_9 ey_9 => ?_)
          refine lv_icmp_gt (tgt := 83) hx hb dX9_isOf_76 (by decide) (fun c_76 => ?_) (fun c_76 => ?_)
          · have t_76 := (fa_lt _ _).mp c_76
            refine lv_iconst (v := 0) hx hb dX9_isOf_83 (by decide) ?_
            refine lv_istore_n (lv' := [(3, .int 0), (0, .ref h0), (1, .int p1), (2, .int p2), (4, .int ax)]) hx hb dX9_isOf_84 rfl hl (by decide) rfl (fun ls hl => ?_)
            obtain ⟨y_10, ey_10⟩ : ∃ y : Int32, y = ax + 1 := ⟨_, rfl⟩
            have ty_10 : y_10.toInt = ax.toInt + 1 := by rw [ey_10]; have := fb_addI (x := ax) (y := 1) (by omega) (by omega); omega
            refine lv_iinc (v := y_10) (lv' := [(4, .int y_10), (3, .int 0), (0, .ref h0), (1, .int p1), (2, .int p2)]) hx hb dX9_isOf_85 hl (k := 4) rfl (by rw [ey_10]; rfl) (by decide) rfl (fun ls hl => ?_)
            refine lv_goto (tgt := 32) hx hb dX9_isOf_88 (by decide) ?_
            exact ih_32 0 y_10 (by omega) (by omega) (by first | exact Or.inl rfl | exact Or.inr rfl) (by intro h9; omega) (by omega) ls (lv_sub hl [2, 3, 4, 1, 0] rfl)
          · have t_76 := mt (fa_lt _ _).mpr c_76
            refine lv_iconst (v := 1) hx hb dX9_isOf_79 (by decide) ?_
            refine lv_goto (tgt := 84) hx hb dX9_isOf_80 (by decide) ?_
            refine lv_istore_n (lv' := [(3, .int 1), (0, .ref h0), (1, .int p1), (2, .int p2), (4, .int ax)]) hx hb dX9_isOf_84 rfl hl (by decide) rfl (fun ls hl => ?_)
            obtain ⟨y_11, ey_11⟩ : ∃ y : Int32, y = ax + 1 := ⟨_, rfl⟩
            have ty_11 : y_11.toInt = ax.toInt + 1 := by rw [ey_11]; have := fb_addI (x := ax) (y := 1) (by omega) (by omega); omega
            refine lv_iinc (v := y_11) (lv' := [(4, .int y_11), (3, .int 1), (0, .ref h0), (1, .int p1), (2, .int p2)]) hx hb dX9_isOf_85 hl (k := 4) rfl (by rw [ey_11]; rfl) (by decide) rfl (fun ls hl => ?_)
            refine lv_goto (tgt := 32) hx hb dX9_isOf_88 (by decide) ?_
            exact ih_32 1 y_11 (by omega) (by omega) (by first | exact Or.inl rfl | exact Or.inr rfl) (by intro h9; omega) (by omega) ls (lv_sub hl [2, 3, 4, 1, 0] rfl)
  · have t_6 := (fa_eq _ _).mp c_6
    refine lv_aload_n hx hb dX9_isOf_9 rfl (lv_at hl 0 rfl) ?_
    refine lv_iload_n hx hb dX9_isOf_10 rfl (lv_at hl 2 rfl) ?_
    refine lv_aload_n hx hb dX9_isOf_11 rfl (lv_at hl 0 rfl) ?_
    refine va_get (D := (dC, dI)) (ci := 9) (v := .ref a6) (C := RX9) (T := TX9) (N := 22) hx hb hts in_X9_isOf_X9 hown hK hP 0 rfl rfl 9 (by decide) (hts (.fieldLink RX9 33 "MeetingsAboveModel" "dotSteps" "[I") (by decide +kernel)) (fun _ h9 => h9) rfl dX9_isOf_12 ?_
    refine lv_iload_n hx hb dX9_isOf_15 rfl (lv_at hl 1 rfl) ?_
    refine va_iald hx hb hK hP 6 0 rfl rfl (vp_in_iff.mpr ⟨by omega, by omega⟩) dX9_isOf_16 ?_
    refine lv_topi (fun y_12 ey_12 => ?_)
    have uy_12 : y_12.toInt = (Ds (p1 : Int32).toNatClampNeg).toInt := by rw [ey_12]
    have hPc := hP.sub (ws' := [(h0, .inr (9, [.int th, .ref a1, .ref a2, .ref a3, .ref a4, .ref a5, .int ne, .int wi, .int dn, .ref a6, .ref a7, .int nn, .ref a8, .int la, .ref a9, .ref a10, .long up, .long lw, .int wh, .long pu, .long pw, .ref a11])), (a1, .inl (cI, 16, .inl Fi)), (a2, .inl (cI, 16, .inl Ma))]) [0, 1, 2] rfl
    have hKc := hK.sub (tys' := [(cI, .int)]) [0] rfl
    refine vp_callSi (W.runV (As := [.int p2, .int y_12]) (rest := []) ⟨hx, hb, hml, hown, hts⟩ (c_X9_hasPlace l dC dI h0 a1 a2 a3 a4 a5 a6 a7 a8 a9 a10 a11 th ne wi dn nn la wh up lw pu pw cI Fi Ma p2 y_12 (by first | assumption | omega) (by first | omega | assumption) (by first | omega | assumption)) (cwV 2 hts g_X9_isOf__X9_hasPlace_90 rfl rfl rfl (by decide +kernel) ⟨Nat.le_of_ble_eq_true rfl, Nat.le_of_ble_eq_true rfl⟩) ⟨fun a U g mk q => by obtain ⟨q0, qP, qK⟩ := q; exact ⟨q0, qP, va_K.moved (u := U) (U := U.calling g mk a) (Vm.Alike.refl U.vm) qK⟩, va_recv hKc hPc (ci := 9) (q0 := 0) rfl rfl, fun U hU hW => ⟨rfl, by rw [hU]; exact hPc, va_K.moved hW.alike hKc⟩⟩ rfl rfl hl.1 rfl (lv_room (Nat.le_of_ble_eq_true rfl)) dX9_isOf_17 ⟨Nat.le_of_ble_eq_true rfl, Nat.le_of_ble_eq_true rfl⟩) (fun r_13 hr_13 => ?_)
    try dsimp only at hr_13
    rcases bo_split hr_13 with ⟨rfl, q_17⟩ | ⟨rfl, q_17⟩
    · refine lv_if_eq (tgt := 27) hx hb dX9_isOf_20 (by decide) (fun h9 => absurd h9 (by decide)) (fun _ => ?_)
      refine lv_iconst (v := 1) hx hb dX9_isOf_23 (by decide) ?_
      refine lv_goto (tgt := 28) hx hb dX9_isOf_24 (by decide) ?_
      refine lv_istore_n (lv' := [(3, .int 1), (0, .ref h0), (1, .int p1), (2, .int p2)]) hx hb dX9_isOf_28 rfl hl (by decide) rfl (fun ls hl => ?_)
      refine lv_iconst (v := 0) hx hb dX9_isOf_29 (by decide) ?_
      refine lv_istore (lv' := [(4, .int 0), (3, .int 1), (0, .ref h0), (1, .int p1), (2, .int p2)]) hx hb dX9_isOf_30 hl (by decide) rfl (fun ls hl => ?_)
      refine (show ∀ (k : Nat) (is : Int32) (ax : Int32) (ha0 : 0 ≤ ax.toInt) (ha1 : ax.toInt ≤ 3) (hi1 : is = 1 ∨ is = 0) (his : is.toInt ≠ 0 → (Fi p2.toNatClampNeg).toInt ≤ (Ds p1.toNatClampNeg).toInt ∧ (Ds p1.toNatClampNeg).toInt < (Fi p2.toNatClampNeg).toInt + (Ma p2.toNatClampNeg).toInt) (hk_32 : (3 - ax.toInt).toNat < k) (ls : Array Slot) (hl : lv_has ls 5 [(0, .ref h0), (1, .int p1), (2, .int p2), (3, .int is), (4, .int ax)]), W p l e _ s m _ below meth c s.heap [] 0 0 _ (F0 m 32 ls []) from ?_) _ 1 0 (by omega) (by omega) (by first | exact Or.inl rfl | exact Or.inr rfl) (by intro h9; omega) (Nat.lt_succ_self _) ls (lv_sub hl [2, 3, 4, 1, 0] rfl)
      intro k
      induction k with
      | zero => intro is ax ha0 ha1 hi1 his hk_32; exact absurd hk_32 (Nat.not_lt_zero _)
      | succ k ih_32 =>
        intro is ax ha0 ha1 hi1 his hk_32 ls hl
        refine lv_iload hx hb dX9_isOf_32 (lv_at hl 4 rfl) ?_
        refine lv_iconst (v := 3) hx hb dX9_isOf_34 (by decide) ?_
        refine lv_icmp_ge (tgt := 91) hx hb dX9_isOf_35 (by decide) (fun c_35 => ?_) (fun c_35 => ?_)
        · have t_35 := (fa_le _ _).mp c_35
          refine lv_iload_n hx hb dX9_isOf_91 rfl (lv_at hl 3 rfl) ?_
          exact W.zret (v := is) hx hb hr (by rcases hi1 with h | h <;> rw [h] <;> rfl) (fun t ht _ => ⟨_, rfl, trivial, ht⟩) (fun _ h => absurd h List.not_mem_nil) dX9_isOf_92
        · have t_35 := mt (fa_le _ _).mpr c_35
          refine lv_iload_n hx hb dX9_isOf_38 rfl (lv_at hl 3 rfl) ?_
          refine lv_if_eq (tgt := 91) hx hb dX9_isOf_39 (by decide) (fun c_39 => ?_) (fun c_39 => ?_)
          · have t_39 := (fa_eq _ _).mp c_39
            refine lv_iload_n hx hb dX9_isOf_91 rfl (lv_at hl 3 rfl) ?_
            exact W.zret (v := is) hx hb hr (by rcases hi1 with h | h <;> rw [h] <;> rfl) (fun t ht _ => ⟨_, rfl, trivial, ht⟩) (fun _ h => absurd h List.not_mem_nil) dX9_isOf_92
          · have t_39 := mt (fa_eq _ _).mpr c_39
            refine lv_aload_n hx hb dX9_isOf_42 rfl (lv_at hl 0 rfl) ?_
            refine va_get (D := (dC, dI)) (ci := 9) (v := .ref a7) (C := RX9) (T := TX9) (N := 22) hx hb hts in_X9_isOf_X9 hown hK hP 0 rfl rfl 10 (by decide) (hts (.fieldLink RX9 36 "MeetingsAboveModel" "dotSpots" "[I") (by decide +kernel)) (fun _ h9 => h9) rfl dX9_isOf_43 ?_
            refine lv_iconst (v := 3) hx hb dX9_isOf_46 (by decide) ?_
            refine lv_iload_n hx hb dX9_isOf_47 rfl (lv_at hl 1 rfl) ?_
            refine lv_imul hx hb dX9_isOf_48 ?_
            refine lv_topi (fun y_14 ey_14 => ?_)
            have ty_14 : y_14.toInt = 3 * p1.toInt := by rw [ey_14]; exact fm_lI kl_3 (by omega) (by omega)
            refine lv_iload hx hb dX9_isOf_49 (lv_at hl 4 rfl) ?_
            refine lv_iadd hx hb dX9_isOf_51 ?_
            refine lv_topi (fun y_15 ey_15 => ?_)
            have ty_15 : y_15.toInt = y_14.toInt + ax.toInt := by rw [ey_15]; have := fb_addI (x := y_14) (y := ax) (by omega) (by omega); omega
            refine va_iald hx hb hK hP 7 0 rfl rfl (vp_in_iff.mpr ⟨by omega, by omega⟩) dX9_isOf_52 ?_
            refine lv_topi (fun y_16 ey_16 => ?_)
            refine lv_aload_n hx hb dX9_isOf_53 rfl (lv_at hl 0 rfl) ?_
            refine lv_iload_n hx hb dX9_isOf_54 rfl (lv_at hl 2 rfl) ?_
            refine lv_aload_n hx hb dX9_isOf_55 rfl (lv_at hl 0 rfl) ?_
            refine va_get (D := (dC, dI)) (ci := 9) (v := .ref a6) (C := RX9) (T := TX9) (N := 22) hx hb hts in_X9_isOf_X9 hown hK hP 0 rfl rfl 9 (by decide) (hts (.fieldLink RX9 33 "MeetingsAboveModel" "dotSteps" "[I") (by decide +kernel)) (fun _ h9 => h9) rfl dX9_isOf_56 ?_
            refine lv_iload_n hx hb dX9_isOf_59 rfl (lv_at hl 1 rfl) ?_
            refine va_iald hx hb hK hP 6 0 rfl rfl (vp_in_iff.mpr ⟨by omega, by omega⟩) dX9_isOf_60 ?_
            refine lv_topi (fun y_17 ey_17 => ?_)
            have uy_17 : y_17.toInt = (Ds (p1 : Int32).toNatClampNeg).toInt := by rw [ey_17]
            refine lv_iload hx hb dX9_isOf_61 (lv_at hl 4 rfl) ?_
            have hPc := hP.sub (ws' := [(h0, .inr (9, [.int th, .ref a1, .ref a2, .ref a3, .ref a4, .ref a5, .int ne, .int wi, .int dn, .ref a6, .ref a7, .int nn, .ref a8, .int la, .ref a9, .ref a10, .long up, .long lw, .int wh, .long pu, .long pw, .ref a11])), (a1, .inl (cI, 16, .inl Fi)), (a5, .inl (cI, 576, .inl Sp))]) [0, 1, 5] rfl
            have hKc := hK.sub (tys' := [(cI, .int)]) [0] rfl
            refine vp_callSi (W.runV (As := [.int p2, .int y_17, .int ax]) (rest := [.int y_16]) ⟨hx, hb, hml, hown, hts⟩ (c_X9_spot l dC dI Ma h0 a1 a2 a3 a4 a5 a6 a7 a8 a9 a10 a11 th ne wi dn nn la wh up lw pu pw cI Fi Sp p2 y_17 ax (by first | assumption | omega) (by first | omega | assumption) (by first | omega | assumption) (by first | omega | assumption) (by first | omega | assumption) (by first | omega | assumption) (by first | omega | assumption)) (cwV 3 hts g_X9_isOf__X9_spot_94 rfl rfl rfl (by decide +kernel) ⟨Nat.le_of_ble_eq_true rfl, Nat.le_of_ble_eq_true rfl⟩) ⟨fun a U g mk q => by obtain ⟨q0, qP, qK⟩ := q; exact ⟨q0, qP, va_K.moved (u := U) (U := U.calling g mk a) (Vm.Alike.refl U.vm) qK⟩, va_recv hKc hPc (ci := 9) (q0 := 0) rfl rfl, fun U hU hW => ⟨rfl, by rw [hU]; exact hPc, va_K.moved hW.alike hKc⟩⟩ rfl rfl hl.1 rfl (lv_room (Nat.le_of_ble_eq_true rfl)) dX9_isOf_63 ⟨Nat.le_of_ble_eq_true rfl, Nat.le_of_ble_eq_true rfl⟩) (fun r_18 hr_18 => ?_)
            try dsimp only at hr_18
            refine lv_isub hx hb dX9_isOf_66 ?_
            refine lv_topi (fun y_19 ey_19 => ?_)
            refine vp_callSi (W.runS (As := [.int y_19]) (rest := []) ⟨hx, hb, hml, hown, hts⟩ (c_X9_size l dC dI y_19) (va_cwS 1 hts g_X9_isOf__X9_size_181 rfl rfl rfl (by decide +kernel) ⟨Nat.le_of_ble_eq_true rfl, Nat.le_of_ble_eq_true rfl⟩) ⟨fun a U g mk q => by obtain ⟨q0, q1⟩ := q; exact ⟨q0, q1⟩, fun U hU hW => ⟨rfl, trivial⟩⟩ rfl rfl hl.1 rfl (lv_room (Nat.le_of_ble_eq_true rfl)) dX9_isOf_67 ⟨Nat.le_of_ble_eq_true rfl, Nat.le_of_ble_eq_true rfl⟩) (fun r_20 hr_20 => ?_)
            try dsimp only at hr_20
            refine lv_aload_n hx hb dX9_isOf_70 rfl (lv_at hl 0 rfl) ?_
            refine va_get (D := (dC, dI)) (ci := 9) (v := .ref a3) (C := RX9) (T := TX9) (N := 22) hx hb hts in_X9_isOf_X9 hown hK hP 0 rfl rfl 3 (by decide) (hts (.fieldLink RX9 16 "MeetingsAboveModel" "doubts" "[I") (by decide +kernel)) (fun _ h9 => h9) rfl dX9_isOf_71 ?_
            refine lv_iload_n hx hb dX9_isOf_74 rfl (lv_at hl 2 rfl) ?_
            refine va_iald hx hb hK hP 3 0 rfl rfl (vp_in_iff.mpr ⟨by omega, by omega⟩) dX9_isOf_75 ?_
            refine lv_topi (fun y_21 ey_21 => ?_)
            refine lv_icmp_gt (tgt := 83) hx hb dX9_isOf_76 (by decide) (fun c_76 => ?_) (fun c_76 => ?_)
            · have t_76 := (fa_lt _ _).mp c_76
              refine lv_iconst (v := 0) hx hb dX9_isOf_83 (by decide) ?_
              refine lv_istore_n (lv' := [(3, .int 0), (0, .ref h0), (1, .int p1), (2, .int p2), (4, .int ax)]) hx hb dX9_isOf_84 rfl hl (by decide) rfl (fun ls hl => ?_)
              obtain ⟨y_22, ey_22⟩ : ∃ y : Int32, y = ax + 1 := ⟨_, rfl⟩
              have ty_22 : y_22.toInt = ax.toInt + 1 := by rw [ey_22]; have := fb_addI (x := ax) (y := 1) (by omega) (by omega); omega
              refine lv_iinc (v := y_22) (lv' := [(4, .int y_22), (3, .int 0), (0, .ref h0), (1, .int p1), (2, .int p2)]) hx hb dX9_isOf_85 hl (k := 4) rfl (by rw [ey_22]; rfl) (by decide) rfl (fun ls hl => ?_)
              refine lv_goto (tgt := 32) hx hb dX9_isOf_88 (by decide) ?_
              exact ih_32 0 y_22 (by omega) (by omega) (by first | exact Or.inl rfl | exact Or.inr rfl) (by intro h9; omega) (by omega) ls (lv_sub hl [2, 3, 4, 1, 0] rfl)
            · have t_76 := mt (fa_lt _ _).mpr c_76
              refine lv_iconst (v := 1) hx hb dX9_isOf_79 (by decide) ?_
              refine lv_goto (tgt := 84) hx hb dX9_isOf_80 (by decide) ?_
              refine lv_istore_n (lv' := [(3, .int 1), (0, .ref h0), (1, .int p1), (2, .int p2), (4, .int ax)]) hx hb dX9_isOf_84 rfl hl (by decide) rfl (fun ls hl => ?_)
              obtain ⟨y_23, ey_23⟩ : ∃ y : Int32, y = ax + 1 := ⟨_, rfl⟩
              have ty_23 : y_23.toInt = ax.toInt + 1 := by rw [ey_23]; have := fb_addI (x := ax) (y := 1) (by omega) (by omega); omega
              refine lv_iinc (v := y_23) (lv' := [(4, .int y_23), (3, .int 1), (0, .ref h0), (1, .int p1), (2, .int p2)]) hx hb dX9_isOf_85 hl (k := 4) rfl (by rw [ey_23]; rfl) (by decide) rfl (fun ls hl => ?_)
              refine lv_goto (tgt := 32) hx hb dX9_isOf_88 (by decide) ?_
              exact ih_32 1 y_23 (by omega) (by omega) (by first | exact Or.inl rfl | exact Or.inr rfl) (by intro h9; omega) (by omega) ls (lv_sub hl [2, 3, 4, 1, 0] rfl)
    · refine lv_if_eq (tgt := 27) hx hb dX9_isOf_20 (by decide) (fun _ => ?_) (fun h9 => absurd h9 (by decide))
      refine lv_iconst (v := 0) hx hb dX9_isOf_27 (by decide) ?_
      refine lv_istore_n (lv' := [(3, .int 0), (0, .ref h0), (1, .int p1), (2, .int p2)]) hx hb dX9_isOf_28 rfl hl (by decide) rfl (fun ls hl => ?_)
      refine lv_iconst (v := 0) hx hb dX9_isOf_29 (by decide) ?_
      refine lv_istore (lv' := [(4, .int 0), (3, .int 0), (0, .ref h0), (1, .int p1), (2, .int p2)]) hx hb dX9_isOf_30 hl (by decide) rfl (fun ls hl => ?_)
      refine (show ∀ (k : Nat) (is : Int32) (ax : Int32) (ha0 : 0 ≤ ax.toInt) (ha1 : ax.toInt ≤ 3) (hi1 : is = 1 ∨ is = 0) (his : is.toInt ≠ 0 → (Fi p2.toNatClampNeg).toInt ≤ (Ds p1.toNatClampNeg).toInt ∧ (Ds p1.toNatClampNeg).toInt < (Fi p2.toNatClampNeg).toInt + (Ma p2.toNatClampNeg).toInt) (hk_32 : (3 - ax.toInt).toNat < k) (ls : Array Slot) (hl : lv_has ls 5 [(0, .ref h0), (1, .int p1), (2, .int p2), (3, .int is), (4, .int ax)]), W p l e _ s m _ below meth c s.heap [] 0 0 _ (F0 m 32 ls []) from ?_) _ 0 0 (by omega) (by omega) (by first | exact Or.inl rfl | exact Or.inr rfl) (by intro h9; omega) (Nat.lt_succ_self _) ls (lv_sub hl [2, 3, 4, 1, 0] rfl)
      intro k
      induction k with
      | zero => intro is ax ha0 ha1 hi1 his hk_32; exact absurd hk_32 (Nat.not_lt_zero _)
      | succ k ih_32 =>
        intro is ax ha0 ha1 hi1 his hk_32 ls hl
        refine lv_iload hx hb dX9_isOf_32 (lv_at hl 4 rfl) ?_
        refine lv_iconst (v := 3) hx hb dX9_isOf_34 (by decide) ?_
        refine lv_icmp_ge (tgt := 91) hx hb dX9_isOf_35 (by decide) (fun c_35 => ?_) (fun c_35 => ?_)
        · have t_35 := (fa_le _ _).mp c_35
          refine lv_iload_n hx hb dX9_isOf_91 rfl (lv_at hl 3 rfl) ?_
          exact W.zret (v := is) hx hb hr (by rcases hi1 with h | h <;> rw [h] <;> rfl) (fun t ht _ => ⟨_, rfl, trivial, ht⟩) (fun _ h => absurd h List.not_mem_nil) dX9_isOf_92
        · have t_35 := mt (fa_le _ _).mpr c_35
          refine lv_iload_n hx hb dX9_isOf_38 rfl (lv_at hl 3 rfl) ?_
          refine lv_if_eq (tgt := 91) hx hb dX9_isOf_39 (by decide) (fun c_39 => ?_) (fun c_39 => ?_)
          · have t_39 := (fa_eq _ _).mp c_39
            refine lv_iload_n hx hb dX9_isOf_91 rfl (lv_at hl 3 rfl) ?_
            exact W.zret (v := is) hx hb hr (by rcases hi1 with h | h <;> rw [h] <;> rfl) (fun t ht _ => ⟨_, rfl, trivial, ht⟩) (fun _ h => absurd h List.not_mem_nil) dX9_isOf_92
          · have t_39 := mt (fa_eq _ _).mpr c_39
            refine lv_aload_n hx hb dX9_isOf_42 rfl (lv_at hl 0 rfl) ?_
            refine va_get (D := (dC, dI)) (ci := 9) (v := .ref a7) (C := RX9) (T := TX9) (N := 22) hx hb hts in_X9_isOf_X9 hown hK hP 0 rfl rfl 10 (by decide) (hts (.fieldLink RX9 36 "MeetingsAboveModel" "dotSpots" "[I") (by decide +kernel)) (fun _ h9 => h9) rfl dX9_isOf_43 ?_
            refine lv_iconst (v := 3) hx hb dX9_isOf_46 (by decide) ?_
            refine lv_iload_n hx hb dX9_isOf_47 rfl (lv_at hl 1 rfl) ?_
            refine lv_imul hx hb dX9_isOf_48 ?_
            refine lv_topi (fun y_24 ey_24 => ?_)
            have ty_24 : y_24.toInt = 3 * p1.toInt := by rw [ey_24]; exact fm_lI kl_3 (by omega) (by omega)
            refine lv_iload hx hb dX9_isOf_49 (lv_at hl 4 rfl) ?_
            refine lv_iadd hx hb dX9_isOf_51 ?_
            refine lv_topi (fun y_25 ey_25 => ?_)
            have ty_25 : y_25.toInt = y_24.toInt + ax.toInt := by rw [ey_25]; have := fb_addI (x := y_24) (y := ax) (by omega) (by omega); omega
            refine va_iald hx hb hK hP 7 0 rfl rfl (vp_in_iff.mpr ⟨by omega, by omega⟩) dX9_isOf_52 ?_
            refine lv_topi (fun y_26 ey_26 => ?_)
            refine lv_aload_n hx hb dX9_isOf_53 rfl (lv_at hl 0 rfl) ?_
            refine lv_iload_n hx hb dX9_isOf_54 rfl (lv_at hl 2 rfl) ?_
            refine lv_aload_n hx hb dX9_isOf_55 rfl (lv_at hl 0 rfl) ?_
            refine va_get (D := (dC, dI)) (ci := 9) (v := .ref a6) (C := RX9) (T := TX9) (N := 22) hx hb hts in_X9_isOf_X9 hown hK hP 0 rfl rfl 9 (by decide) (hts (.fieldLink RX9 33 "MeetingsAboveModel" "dotSteps" "[I") (by decide +kernel)) (fun _ h9 => h9) rfl dX9_isOf_56 ?_
            refine lv_iload_n hx hb dX9_isOf_59 rfl (lv_at hl 1 rfl) ?_
            refine va_iald hx hb hK hP 6 0 rfl rfl (vp_in_iff.mpr ⟨by omega, by omega⟩) dX9_isOf_60 ?_
            refine lv_topi (fun y_27 ey_27 => ?_)
            have uy_27 : y_27.toInt = (Ds (p1 : Int32).toNatClampNeg).toInt := by rw [ey_27]
            refine lv_iload hx hb dX9_isOf_61 (lv_at hl 4 rfl) ?_
            have hPc := hP.sub (ws' := [(h0, .inr (9, [.int th, .ref a1, .ref a2, .ref a3, .ref a4, .ref a5, .int ne, .int wi, .int dn, .ref a6, .ref a7, .int nn, .ref a8, .int la, .ref a9, .ref a10, .long up, .long lw, .int wh, .long pu, .long pw, .ref a11])), (a1, .inl (cI, 16, .inl Fi)), (a5, .inl (cI, 576, .inl Sp))]) [0, 1, 5] rfl
            have hKc := hK.sub (tys' := [(cI, .int)]) [0] rfl
            refine vp_callSi (W.runV (As := [.int p2, .int y_27, .int ax]) (rest := [.int y_26]) ⟨hx, hb, hml, hown, hts⟩ (c_X9_spot l dC dI Ma h0 a1 a2 a3 a4 a5 a6 a7 a8 a9 a10 a11 th ne wi dn nn la wh up lw pu pw cI Fi Sp p2 y_27 ax (by first | assumption | omega) (by first | omega | assumption) (by first | omega | assumption) (by first | omega | assumption) (by first | omega | assumption) (by first | omega | assumption) (by first | omega | assumption)) (cwV 3 hts g_X9_isOf__X9_spot_94 rfl rfl rfl (by decide +kernel) ⟨Nat.le_of_ble_eq_true rfl, Nat.le_of_ble_eq_true rfl⟩) ⟨fun a U g mk q => by obtain ⟨q0, qP, qK⟩ := q; exact ⟨q0, qP, va_K.moved (u := U) (U := U.calling g mk a) (Vm.Alike.refl U.vm) qK⟩, va_recv hKc hPc (ci := 9) (q0 := 0) rfl rfl, fun U hU hW => ⟨rfl, by rw [hU]; exact hPc, va_K.moved hW.alike hKc⟩⟩ rfl rfl hl.1 rfl (lv_room (Nat.le_of_ble_eq_true rfl)) dX9_isOf_63 ⟨Nat.le_of_ble_eq_true rfl, Nat.le_of_ble_eq_true rfl⟩) (fun r_28 hr_28 => ?_)
            try dsimp only at hr_28
            refine lv_isub hx hb dX9_isOf_66 ?_
            refine lv_topi (fun y_29 ey_29 => ?_)
            refine vp_callSi (W.runS (As := [.int y_29]) (rest := []) ⟨hx, hb, hml, hown, hts⟩ (c_X9_size l dC dI y_29) (va_cwS 1 hts g_X9_isOf__X9_size_181 rfl rfl rfl (by decide +kernel) ⟨Nat.le_of_ble_eq_true rfl, Nat.le_of_ble_eq_true rfl⟩) ⟨fun a U g mk q => by obtain ⟨q0, q1⟩ := q; exact ⟨q0, q1⟩, fun U hU hW => ⟨rfl, trivial⟩⟩ rfl rfl hl.1 rfl (lv_room (Nat.le_of_ble_eq_true rfl)) dX9_isOf_67 ⟨Nat.le_of_ble_eq_true rfl, Nat.le_of_ble_eq_true rfl⟩) (fun r_30 hr_30 => ?_)
            try dsimp only at hr_30
            refine lv_aload_n hx hb dX9_isOf_70 rfl (lv_at hl 0 rfl) ?_
            refine va_get (D := (dC, dI)) (ci := 9) (v := .ref a3) (C := RX9) (T := TX9) (N := 22) hx hb hts in_X9_isOf_X9 hown hK hP 0 rfl rfl 3 (by decide) (hts (.fieldLink RX9 16 "MeetingsAboveModel" "doubts" "[I") (by decide +kernel)) (fun _ h9 => h9) rfl dX9_isOf_71 ?_
            refine lv_iload_n hx hb dX9_isOf_74 rfl (lv_at hl 2 rfl) ?_
            refine va_iald hx hb hK hP 3 0 rfl rfl (vp_in_iff.mpr ⟨by omega, by omega⟩) dX9_isOf_75 ?_
            refine lv_topi (fun y_31 ey_31 => ?_)
            refine lv_icmp_gt (tgt := 83) hx hb dX9_isOf_76 (by decide) (fun c_76 => ?_) (fun c_76 => ?_)
            · have t_76 := (fa_lt _ _).mp c_76
              refine lv_iconst (v := 0) hx hb dX9_isOf_83 (by decide) ?_
              refine lv_istore_n (lv' := [(3, .int 0), (0, .ref h0), (1, .int p1), (2, .int p2), (4, .int ax)]) hx hb dX9_isOf_84 rfl hl (by decide) rfl (fun ls hl => ?_)
              obtain ⟨y_32, ey_32⟩ : ∃ y : Int32, y = ax + 1 := ⟨_, rfl⟩
              have ty_32 : y_32.toInt = ax.toInt + 1 := by rw [ey_32]; have := fb_addI (x := ax) (y := 1) (by omega) (by omega); omega
              refine lv_iinc (v := y_32) (lv' := [(4, .int y_32), (3, .int 0), (0, .ref h0), (1, .int p1), (2, .int p2)]) hx hb dX9_isOf_85 hl (k := 4) rfl (by rw [ey_32]; rfl) (by decide) rfl (fun ls hl => ?_)
              refine lv_goto (tgt := 32) hx hb dX9_isOf_88 (by decide) ?_
              exact ih_32 0 y_32 (by omega) (by omega) (by first | exact Or.inl rfl | exact Or.inr rfl) (by intro h9; omega) (by omega) ls (lv_sub hl [2, 3, 4, 1, 0] rfl)
            · have t_76 := mt (fa_lt _ _).mpr c_76
              refine lv_iconst (v := 1) hx hb dX9_isOf_79 (by decide) ?_
              refine lv_goto (tgt := 84) hx hb dX9_isOf_80 (by decide) ?_
              refine lv_istore_n (lv' := [(3, .int 1), (0, .ref h0), (1, .int p1), (2, .int p2), (4, .int ax)]) hx hb dX9_isOf_84 rfl hl (by decide) rfl (fun ls hl => ?_)
              obtain ⟨y_33, ey_33⟩ : ∃ y : Int32, y = ax + 1 := ⟨_, rfl⟩
              have ty_33 : y_33.toInt = ax.toInt + 1 := by rw [ey_33]; have := fb_addI (x := ax) (y := 1) (by omega) (by omega); omega
              refine lv_iinc (v := y_33) (lv' := [(4, .int y_33), (3, .int 1), (0, .ref h0), (1, .int p1), (2, .int p2)]) hx hb dX9_isOf_85 hl (k := 4) rfl (by rw [ey_33]; rfl) (by decide) rfl (fun ls hl => ?_)
              refine lv_goto (tgt := 32) hx hb dX9_isOf_88 (by decide) ?_
              exact ih_32 1 y_33 (by omega) (by omega) (by first | exact Or.inl rfl | exact Or.inr rfl) (by intro h9; omega) (by omega) ls (lv_sub hl [2, 3, 4, 1, 0] rfl)
def wk_X9_dotOf : List Cond := .code yX9_dotOf cX9_dotOf 4 (some .int) :: (([.fieldLink RX9 59 "MeetingsAboveModel" "things" "I"] : List Cond) ++ (wsX90 ++ ((wsV RX9 195 RX9 yX9_isOf wk_X9_isOf) ++ ([]))))
theorem in_X9_dotOf_X9 : ∀ w ∈ wsX90, w ∈ wk_X9_dotOf := fun _ h => List.mem_cons_of_mem _ (List.mem_append_right _ (List.mem_append_left _ h))
theorem gw_X9_dotOf : AG wk_X9_dotOf := AG_ca (AG_l (by decide +kernel)) (AG_app ag_X9 (AG_app (AG_V gw_X9_isOf) (AG_nil)))
theorem g_X9_dotOf__X9_isOf_195 : GoodIn wk_X9_dotOf (wsV RX9 195 RX9 yX9_isOf wk_X9_isOf) := goodIn_m (fun _ h => List.mem_cons_of_mem _ (List.mem_append_right _ (List.mem_append_right _ (List.mem_append_left _ h)))) (AG_V gw_X9_isOf)
set_option maxHeartbeats 4000000 in
set_option maxRecDepth 100000 in
theorem c_X9_dotOf (l : Launch) (dC : Nat → ClassId) (dI : Nat → Nat → Nat) (h0 : Nat) (a1 : Nat) (a2 : Nat) (a3 : Nat) (a4 : Nat) (a5 : Nat) (a6 : Nat) (a7 : Nat) (a8 : Nat) (a9 : Nat) (a10 : Nat) (a11 : Nat) (th : Int32) (ne : Int32) (wi : Int32) (dn : Int32) (nn : Int32) (la : Int32) (wh : Int32) (up : Int64) (lw : Int64) (pu : Int64) (pw : Int64) (cI : ClassId) (cZ : ClassId) (Fi : Nat → Int32) (Ma : Nat → Int32) (Db : Nat → Int32) (Go : Nat → Int32) (Sp : Nat → Int32) (Ds : Nat → Int32) (Dp : Nat → Int32) (p1 : Int32) (hM : mOK th Fi Ma) (hd0 : 0 ≤ p1.toInt) (hd1 : p1.toInt < 40) : Met l yX9_dotOf wk_X9_dotOf ({ frames := 3, cells := 0, slots := 0, locals := 71 }) (va_Pc [.ref h0, .int p1] (fun U => va_P (dC, dI) vwCl [(h0, .inr (9, [.int th, .ref a1, .ref a2, .ref a3, .ref a4, .ref a5, .int ne, .int wi, .int dn, .ref a6, .ref a7, .int nn, .ref a8, .int la, .ref a9, .ref a10, .long up, .long lw, .int wh, .long pu, .long pw, .ref a11])), (a1, .inl (cI, 16, .inl Fi)), (a2, .inl (cI, 16, .inl Ma)), (a3, .inl (cI, 16, .inl Db)), (a4, .inl (cZ, 16, .inl Go)), (a5, .inl (cI, 576, .inl Sp)), (a6, .inl (cI, 40, .inl Ds)), (a7, .inl (cI, 120, .inl Dp))] U.heap ∧ va_K (dC, dI) vwCl [(cI, .int), (cZ, .boolean)] U)) (vp_Si (fun r => True)) 0 0 (fun _ => False) := by
  refine Met.ofW (cc := cX9_dotOf) (maxL := 4) (ret := (some .int)) (by decide) rfl ?_
  intro p e s m args below meth c s₁ B hml hv
  obtain ⟨rfl, hP, hK⟩ := hv
  have hx := B.exec
  have hb := B.bytes
  have hr := B.returns
  have hts := atoms_spec (ws := wk_X9_dotOf) B.pre
  have hown : s.vm.findClass RX9 = some m.cls := findClass_of_methodNamed B.named
  have hlocks := B.notSynchronized
  have hP : va_P (dC, dI) vwCl [(h0, .inr (9, [.int th, .ref a1, .ref a2, .ref a3, .ref a4, .ref a5, .int ne, .int wi, .int dn, .ref a6, .ref a7, .int nn, .ref a8, .int la, .ref a9, .ref a10, .long up, .long lw, .int wh, .long pu, .long pw, .ref a11])), (a1, .inl (cI, 16, .inl Fi)), (a2, .inl (cI, 16, .inl Ma)), (a3, .inl (cI, 16, .inl Db)), (a4, .inl (cZ, 16, .inl Go)), (a5, .inl (cI, 576, .inl Sp)), (a6, .inl (cI, 40, .inl Ds)), (a7, .inl (cI, 120, .inl Dp))] s.heap := hP
  have hl := lv_entry ([.ref h0, .int p1]) (n := 4) (Nat.le_of_ble_eq_true rfl)
  rw [lg_entry_eq]
  generalize (lg_sl ([.ref h0, .int p1]) ++ List.replicate (4 - (lg_sl ([.ref h0, .int p1])).length) Slot.unset).toArray = ls at hl ⊢
  have hl : lv_has ls 4 [(0, .ref h0), (1, .int p1)] := hl
  have kl_0 : (0 : Int32).toInt = 0 := by decide
  have kl_1 : (1 : Int32).toInt = 1 := by decide
  obtain ⟨hM0, hM1, hM2⟩ := id hM
  refine lv_iconst (v := 0) hx hb dX9_dotOf_0 (by decide) ?_
  refine lv_istore_n (lv' := [(2, .int 0), (0, .ref h0), (1, .int p1)]) hx hb dX9_dotOf_1 rfl hl (by decide) rfl (fun ls hl => ?_)
  refine lv_iconst (v := 0) hx hb dX9_dotOf_2 (by decide) ?_
  refine lv_istore_n (lv' := [(3, .int 0), (2, .int 0), (0, .ref h0), (1, .int p1)]) hx hb dX9_dotOf_3 rfl hl (by decide) rfl (fun ls hl => ?_)
  refine (show ∀ (k : Nat) (n2 : Int32) (t3 : Int32) (hu0 : 0 ≤ t3.toInt) (hu1 : t3.toInt ≤ th.toInt) (hk_4 : (th.toInt - t3.toInt).toNat < k) (ls : Array Slot) (hl : lv_has ls 4 [(0, .ref h0), (1, .int p1), (2, .int n2), (3, .int t3)]), W p l e _ s m _ below meth c s.heap [] 0 0 _ (F0 m 4 ls []) from ?_) _ 0 0 (by omega) (by omega) (Nat.lt_succ_self _) ls (lv_sub hl [2, 3, 1, 0] rfl)
  intro k
  induction k with
  | zero => intro n2 t3 hu0 hu1 hk_4; exact absurd hk_4 (Nat.not_lt_zero _)
  | succ k ih_4 =>
    intro n2 t3 hu0 hu1 hk_4 ls hl
    refine lv_iload_n hx hb dX9_dotOf_4 rfl (lv_at hl 3 rfl) ?_
    refine lv_aload_n hx hb dX9_dotOf_5 rfl (lv_at hl 0 rfl) ?_
    refine va_get (D := (dC, dI)) (ci := 9) (v := .int th) (C := RX9) (T := TX9) (N := 22) hx hb hts in_X9_dotOf_X9 hown hK hP 0 rfl rfl 0 (by decide) (hts (.fieldLink RX9 59 "MeetingsAboveModel" "things" "I") (by decide +kernel)) (fun _ h9 => h9) rfl dX9_dotOf_6 ?_
    refine lv_icmp_ge (tgt := 35) hx hb dX9_dotOf_9 (by decide) (fun c_9 => ?_) (fun c_9 => ?_)
    · have t_9 := (fa_le _ _).mp c_9
      refine lv_iload_n hx hb dX9_dotOf_35 rfl (lv_at hl 2 rfl) ?_
      exact W.iret (v := n2) hx hb hr (fun t ht _ => ⟨_, rfl, trivial, ht⟩) (fun _ h => absurd h List.not_mem_nil) dX9_dotOf_36
    · have t_9 := mt (fa_le _ _).mpr c_9
      refine lv_iload_n hx hb dX9_dotOf_12 rfl (lv_at hl 2 rfl) ?_
      refine lv_aload_n hx hb dX9_dotOf_13 rfl (lv_at hl 0 rfl) ?_
      refine lv_iload_n hx hb dX9_dotOf_14 rfl (lv_at hl 1 rfl) ?_
      refine lv_iload_n hx hb dX9_dotOf_15 rfl (lv_at hl 3 rfl) ?_
      have hPc := hP.sub (ws' := [(h0, .inr (9, [.int th, .ref a1, .ref a2, .ref a3, .ref a4, .ref a5, .int ne, .int wi, .int dn, .ref a6, .ref a7, .int nn, .ref a8, .int la, .ref a9, .ref a10, .long up, .long lw, .int wh, .long pu, .long pw, .ref a11])), (a1, .inl (cI, 16, .inl Fi)), (a2, .inl (cI, 16, .inl Ma)), (a3, .inl (cI, 16, .inl Db)), (a4, .inl (cZ, 16, .inl Go)), (a5, .inl (cI, 576, .inl Sp)), (a6, .inl (cI, 40, .inl Ds)), (a7, .inl (cI, 120, .inl Dp))]) [0, 1, 2, 3, 4, 5, 6, 7] rfl
      have hKc := hK.sub (tys' := [(cI, .int), (cZ, .boolean)]) [0, 1] rfl
      refine vp_callSi (W.runV (As := [.int p1, .int t3]) (rest := [.int n2]) ⟨hx, hb, hml, hown, hts⟩ (c_X9_isOf l dC dI h0 a1 a2 a3 a4 a5 a6 a7 a8 a9 a10 a11 th ne wi dn nn la wh up lw pu pw cI cZ Fi Ma Db Go Sp Ds Dp p1 t3 (by first | assumption | omega) (by first | omega | assumption) (by first | omega | assumption) (by first | omega | assumption) (by first | omega | assumption)) (cwV 2 hts g_X9_dotOf__X9_isOf_195 rfl rfl rfl (by decide +kernel) ⟨Nat.le_of_ble_eq_true rfl, Nat.le_of_ble_eq_true rfl⟩) ⟨fun a U g mk q => by obtain ⟨q0, qP, qK⟩ := q; exact ⟨q0, qP, va_K.moved (u := U) (U := U.calling g mk a) (Vm.Alike.refl U.vm) qK⟩, va_recv hKc hPc (ci := 9) (q0 := 0) rfl rfl, fun U hU hW => ⟨rfl, by rw [hU]; exact hPc, va_K.moved hW.alike hKc⟩⟩ rfl rfl hl.1 rfl (lv_room (Nat.le_of_ble_eq_true rfl)) dX9_dotOf_16 ⟨Nat.le_of_ble_eq_true rfl, Nat.le_of_ble_eq_true rfl⟩) (fun r_1 hr_1 => ?_)
      try dsimp only at hr_1
      refine lv_if_eq (tgt := 26) hx hb dX9_dotOf_19 (by decide) (fun c_19 => ?_) (fun c_19 => ?_)
      · have t_19 := (fa_eq _ _).mp c_19
        refine lv_iconst (v := 0) hx hb dX9_dotOf_26 (by decide) ?_
        refine lv_iadd hx hb dX9_dotOf_27 ?_
        refine lv_topi (fun y_2 ey_2 => ?_)
        refine lv_istore_n (lv' := [(2, .int y_2), (0, .ref h0), (1, .int p1), (3, .int t3)]) hx hb dX9_dotOf_28 rfl hl (by decide) rfl (fun ls hl => ?_)
        obtain ⟨y_3, ey_3⟩ : ∃ y : Int32, y = t3 + 1 := ⟨_, rfl⟩
        have ty_3 : y_3.toInt = t3.toInt + 1 := by rw [ey_3]; have := fb_addI (x := t3) (y := 1) (by omega) (by omega); omega
        refine lv_iinc (v := y_3) (lv' := [(3, .int y_3), (2, .int y_2), (0, .ref h0), (1, .int p1)]) hx hb dX9_dotOf_29 hl (k := 3) rfl (by rw [ey_3]; rfl) (by decide) rfl (fun ls hl => ?_)
        refine lv_goto (tgt := 4) hx hb dX9_dotOf_32 (by decide) ?_
        exact ih_4 y_2 y_3 (by omega) (by omega) (by omega) ls (lv_sub hl [2, 3, 1, 0] rfl)
      · have t_19 := mt (fa_eq _ _).mpr c_19
        refine lv_iconst (v := 1) hx hb dX9_dotOf_22 (by decide) ?_
        refine lv_goto (tgt := 27) hx hb dX9_dotOf_23 (by decide) ?_
        refine lv_iadd hx hb dX9_dotOf_27 ?_
        refine lv_topi (fun y_4 ey_4 => ?_)
        refine lv_istore_n (lv' := [(2, .int y_4), (0, .ref h0), (1, .int p1), (3, .int t3)]) hx hb dX9_dotOf_28 rfl hl (by decide) rfl (fun ls hl => ?_)
        obtain ⟨y_5, ey_5⟩ : ∃ y : Int32, y = t3 + 1 := ⟨_, rfl⟩
        have ty_5 : y_5.toInt = t3.toInt + 1 := by rw [ey_5]; have := fb_addI (x := t3) (y := 1) (by omega) (by omega); omega
        refine lv_iinc (v := y_5) (lv' := [(3, .int y_5), (2, .int y_4), (0, .ref h0), (1, .int p1)]) hx hb dX9_dotOf_29 hl (k := 3) rfl (by rw [ey_5]; rfl) (by decide) rfl (fun ls hl => ?_)
        refine lv_goto (tgt := 4) hx hb dX9_dotOf_32 (by decide) ?_
        exact ih_4 y_4 y_5 (by omega) (by omega) (by omega) ls (lv_sub hl [2, 3, 1, 0] rfl)
def wk_X9_numberOf : List Cond := .code yX9_numberOf cX9_numberOf 3 (some .int) :: (([.fieldLink RX9 13 "MeetingsAboveModel" "many" "[I", .fieldLink RX9 23 "MeetingsAboveModel" "spots" "[I", .fieldLink RX9 19 "MeetingsAboveModel" "isGone" "[Z", .fieldLink RX9 16 "MeetingsAboveModel" "doubts" "[I", .fieldLink RX9 7 "MeetingsAboveModel" "firsts" "[I"] : List Cond) ++ (wsX90 ++ ([])))
theorem in_X9_numberOf_X9 : ∀ w ∈ wsX90, w ∈ wk_X9_numberOf := fun _ h => List.mem_cons_of_mem _ (List.mem_append_right _ (List.mem_append_left _ h))
theorem gw_X9_numberOf : AG wk_X9_numberOf := AG_ca (AG_l (by decide +kernel)) (AG_app ag_X9 (AG_nil))
set_option maxHeartbeats 4000000 in
set_option maxRecDepth 100000 in
theorem c_X9_numberOf (l : Launch) (dC : Nat → ClassId) (dI : Nat → Nat → Nat) (h0 : Nat) (a1 : Nat) (a2 : Nat) (a3 : Nat) (a4 : Nat) (a5 : Nat) (a6 : Nat) (a7 : Nat) (a8 : Nat) (a9 : Nat) (a10 : Nat) (a11 : Nat) (th : Int32) (ne : Int32) (wi : Int32) (dn : Int32) (nn : Int32) (la : Int32) (wh : Int32) (up : Int64) (lw : Int64) (pu : Int64) (pw : Int64) (cI : ClassId) (cZ : ClassId) (Fi : Nat → Int32) (Ma : Nat → Int32) (Db : Nat → Int32) (Go : Nat → Int32) (Sp : Nat → Int32) (p1 : Int32) (p2 : Int32) (hM : mOK th Fi Ma) (hp10 : 0 ≤ p1.toInt) (hp11 : p1.toInt < th.toInt) (hk0 : 0 ≤ p2.toInt) (hk1 : p2.toInt < 40) : Met l yX9_numberOf wk_X9_numberOf ({ frames := 0, cells := 0, slots := 0, locals := 0 }) (va_Pc [.ref h0, .int p1, .int p2] (fun U => va_P (dC, dI) vwCl [(h0, .inr (9, [.int th, .ref a1, .ref a2, .ref a3, .ref a4, .ref a5, .int ne, .int wi, .int dn, .ref a6, .ref a7, .int nn, .ref a8, .int la, .ref a9, .ref a10, .long up, .long lw, .int wh, .long pu, .long pw, .ref a11])), (a1, .inl (cI, 16, .inl Fi)), (a2, .inl (cI, 16, .inl Ma)), (a3, .inl (cI, 16, .inl Db)), (a4, .inl (cZ, 16, .inl Go)), (a5, .inl (cI, 576, .inl Sp))] U.heap ∧ va_K (dC, dI) vwCl [(cI, .int), (cZ, .boolean)] U)) (vp_Si (fun r => True)) 0 0 (fun _ => False) := by
  refine Met.ofW (cc := cX9_numberOf) (maxL := 3) (ret := (some .int)) (by decide) rfl ?_
  intro p e s m args below meth c s₁ B hml hv
  obtain ⟨rfl, hP, hK⟩ := hv
  have hx := B.exec
  have hb := B.bytes
  have hr := B.returns
  have hts := atoms_spec (ws := wk_X9_numberOf) B.pre
  have hown : s.vm.findClass RX9 = some m.cls := findClass_of_methodNamed B.named
  have hlocks := B.notSynchronized
  have hP : va_P (dC, dI) vwCl [(h0, .inr (9, [.int th, .ref a1, .ref a2, .ref a3, .ref a4, .ref a5, .int ne, .int wi, .int dn, .ref a6, .ref a7, .int nn, .ref a8, .int la, .ref a9, .ref a10, .long up, .long lw, .int wh, .long pu, .long pw, .ref a11])), (a1, .inl (cI, 16, .inl Fi)), (a2, .inl (cI, 16, .inl Ma)), (a3, .inl (cI, 16, .inl Db)), (a4, .inl (cZ, 16, .inl Go)), (a5, .inl (cI, 576, .inl Sp))] s.heap := hP
  have hl := lv_entry ([.ref h0, .int p1, .int p2]) (n := 3) (Nat.le_of_ble_eq_true rfl)
  rw [lg_entry_eq]
  generalize (lg_sl ([.ref h0, .int p1, .int p2]) ++ List.replicate (3 - (lg_sl ([.ref h0, .int p1, .int p2])).length) Slot.unset).toArray = ls at hl ⊢
  have hl : lv_has ls 3 [(0, .ref h0), (1, .int p1), (2, .int p2)] := hl
  have kl_0 : (0 : Int32).toInt = 0 := by decide
  have kl_1 : (1 : Int32).toInt = 1 := by decide
  have kl_2 : (2 : Int32).toInt = 2 := by decide
  have kl_3 : (3 : Int32).toInt = 3 := by decide
  have kl_4 : (4 : Int32).toInt = 4 := by decide
  have kl_36 : (36 : Int32).toInt = 36 := by decide
  obtain ⟨hM0, hM1, hM2⟩ := id hM
  have np1 : ((p1.toNatClampNeg : Nat) : Int) = p1.toInt := tc_I (by omega)
  have bp1 := hM2 p1.toNatClampNeg (by omega)
  refine lv_iload_n hx hb dX9_numberOf_0 rfl (lv_at hl 2 rfl) ?_
  refine lv_if_ne (tgt := 13) hx hb dX9_numberOf_1 (by decide) (fun c_1 => ?_) (fun c_1 => ?_)
  · have t_1 := mt (fa_eq _ _).mpr c_1
    refine lv_iload_n hx hb dX9_numberOf_13 rfl (lv_at hl 2 rfl) ?_
    refine lv_iconst (v := 1) hx hb dX9_numberOf_14 (by decide) ?_
    refine lv_icmp_ne (tgt := 27) hx hb dX9_numberOf_15 (by decide) (fun c_15 => ?_) (fun c_15 => ?_)
    · have t_15 := mt (fa_eq _ _).mpr c_15
      refine lv_iload_n hx hb dX9_numberOf_27 rfl (lv_at hl 2 rfl) ?_
      refine lv_iconst (v := 2) hx hb dX9_numberOf_28 (by decide) ?_
      refine lv_icmp_ne (tgt := 41) hx hb dX9_numberOf_29 (by decide) (fun c_29 => ?_) (fun c_29 => ?_)
      · have t_29 := mt (fa_eq _ _).mpr c_29
        refine lv_iload_n hx hb dX9_numberOf_41 rfl (lv_at hl 2 rfl) ?_
        refine lv_iconst (v := 3) hx hb dX9_numberOf_42 (by decide) ?_
        refine lv_icmp_ne (tgt := 63) hx hb dX9_numberOf_43 (by decide) (fun c_43 => ?_) (fun c_43 => ?_)
        · have t_43 := mt (fa_eq _ _).mpr c_43
          refine lv_iload_n hx hb dX9_numberOf_63 rfl (lv_at hl 2 rfl) ?_
          refine lv_iconst (v := 4) hx hb dX9_numberOf_64 (by decide) ?_
          refine lv_isub hx hb dX9_numberOf_65 ?_
          refine lv_topi (fun y_1 ey_1 => ?_)
          have ty_1 : y_1.toInt = p2.toInt - 4 := by rw [ey_1]; have := fb_subI (x := p2) (y := 4) (by omega) (by omega); omega
          refine lv_iconst (v := 3) hx hb dX9_numberOf_66 (by decide) ?_
          refine lv_aload_n hx hb dX9_numberOf_67 rfl (lv_at hl 0 rfl) ?_
          refine va_get (D := (dC, dI)) (ci := 9) (v := .ref a2) (C := RX9) (T := TX9) (N := 22) hx hb hts in_X9_numberOf_X9 hown hK hP 0 rfl rfl 2 (by decide) (hts (.fieldLink RX9 13 "MeetingsAboveModel" "many" "[I") (by decide +kernel)) (fun _ h9 => h9) rfl dX9_numberOf_68 ?_
          refine lv_iload_n hx hb dX9_numberOf_71 rfl (lv_at hl 1 rfl) ?_
          refine va_iald hx hb hK hP 2 0 rfl rfl (vp_in_iff.mpr ⟨by omega, by omega⟩) dX9_numberOf_72 ?_
          refine lv_topi (fun y_2 ey_2 => ?_)
          have uy_2 : y_2.toInt = (Ma (p1 : Int32).toNatClampNeg).toInt := by rw [ey_2]
          refine lv_imul hx hb dX9_numberOf_73 ?_
          refine lv_topi (fun y_3 ey_3 => ?_)
          have ty_3 : y_3.toInt = 3 * y_2.toInt := by rw [ey_3]; exact fm_lI kl_3 (by omega) (by omega)
          refine lv_icmp_ge (tgt := 93) hx hb dX9_numberOf_74 (by decide) (fun c_74 => ?_) (fun c_74 => ?_)
          · have t_74 := (fa_le _ _).mp c_74
            refine lv_iconst (v := 0) hx hb dX9_numberOf_93 (by decide) ?_
            exact W.iret (v := 0) hx hb hr (fun t ht _ => ⟨_, rfl, trivial, ht⟩) (fun _ h => absurd h List.not_mem_nil) dX9_numberOf_94
          · have t_74 := mt (fa_le _ _).mpr c_74
            refine lv_aload_n hx hb dX9_numberOf_77 rfl (lv_at hl 0 rfl) ?_
            refine va_get (D := (dC, dI)) (ci := 9) (v := .ref a5) (C := RX9) (T := TX9) (N := 22) hx hb hts in_X9_numberOf_X9 hown hK hP 0 rfl rfl 5 (by decide) (hts (.fieldLink RX9 23 "MeetingsAboveModel" "spots" "[I") (by decide +kernel)) (fun _ h9 => h9) rfl dX9_numberOf_78 ?_
            refine lv_bipush (v := 36) hx hb dX9_numberOf_81 (by decide) ?_
            refine lv_iload_n hx hb dX9_numberOf_83 rfl (lv_at hl 1 rfl) ?_
            refine lv_imul hx hb dX9_numberOf_84 ?_
            refine lv_topi (fun y_4 ey_4 => ?_)
            have ty_4 : y_4.toInt = 36 * p1.toInt := by rw [ey_4]; exact fm_lI kl_36 (by omega) (by omega)
            refine lv_iload_n hx hb dX9_numberOf_85 rfl (lv_at hl 2 rfl) ?_
            refine lv_iadd hx hb dX9_numberOf_86 ?_
            refine lv_topi (fun y_5 ey_5 => ?_)
            have ty_5 : y_5.toInt = y_4.toInt + p2.toInt := by rw [ey_5]; have := fb_addI (x := y_4) (y := p2) (by omega) (by omega); omega
            refine lv_iconst (v := 4) hx hb dX9_numberOf_87 (by decide) ?_
            refine lv_isub hx hb dX9_numberOf_88 ?_
            refine lv_topi (fun y_6 ey_6 => ?_)
            have ty_6 : y_6.toInt = y_5.toInt - 4 := by rw [ey_6]; have := fb_subI (x := y_5) (y := 4) (by omega) (by omega); omega
            refine va_iald hx hb hK hP 5 0 rfl rfl (vp_in_iff.mpr ⟨by omega, by omega⟩) dX9_numberOf_89 ?_
            refine lv_topi (fun y_7 ey_7 => ?_)
            refine lv_goto (tgt := 94) hx hb dX9_numberOf_90 (by decide) ?_
            exact W.iret (v := y_7) hx hb hr (fun t ht _ => ⟨_, rfl, trivial, ht⟩) (fun _ h => absurd h List.not_mem_nil) dX9_numberOf_94
        · have t_43 := (fa_eq _ _).mp c_43
          refine lv_aload_n hx hb dX9_numberOf_46 rfl (lv_at hl 0 rfl) ?_
          refine va_get (D := (dC, dI)) (ci := 9) (v := .ref a4) (C := RX9) (T := TX9) (N := 22) hx hb hts in_X9_numberOf_X9 hown hK hP 0 rfl rfl 4 (by decide) (hts (.fieldLink RX9 19 "MeetingsAboveModel" "isGone" "[Z") (by decide +kernel)) (fun _ h9 => h9) rfl dX9_numberOf_47 ?_
          refine lv_iload_n hx hb dX9_numberOf_50 rfl (lv_at hl 1 rfl) ?_
          refine va_zald hx hb hK hP 4 1 rfl rfl (vp_in_iff.mpr ⟨by omega, by omega⟩) dX9_numberOf_51 ?_
          refine lv_topi (fun y_8 ey_8 => ?_)
          refine lv_if_eq (tgt := 59) hx hb dX9_numberOf_52 (by decide) (fun c_52 => ?_) (fun c_52 => ?_)
          · have t_52 := (fa_eq _ _).mp c_52
            refine lv_iconst (v := 0) hx hb dX9_numberOf_59 (by decide) ?_
            refine lv_goto (tgt := 94) hx hb dX9_numberOf_60 (by decide) ?_
            exact W.iret (v := 0) hx hb hr (fun t ht _ => ⟨_, rfl, trivial, ht⟩) (fun _ h => absurd h List.not_mem_nil) dX9_numberOf_94
          · have t_52 := mt (fa_eq _ _).mpr c_52
            refine lv_iconst (v := 1) hx hb dX9_numberOf_55 (by decide) ?_
            refine lv_goto (tgt := 94) hx hb dX9_numberOf_56 (by decide) ?_
            exact W.iret (v := 1) hx hb hr (fun t ht _ => ⟨_, rfl, trivial, ht⟩) (fun _ h => absurd h List.not_mem_nil) dX9_numberOf_94
      · have t_29 := (fa_eq _ _).mp c_29
        refine lv_aload_n hx hb dX9_numberOf_32 rfl (lv_at hl 0 rfl) ?_
        refine va_get (D := (dC, dI)) (ci := 9) (v := .ref a3) (C := RX9) (T := TX9) (N := 22) hx hb hts in_X9_numberOf_X9 hown hK hP 0 rfl rfl 3 (by decide) (hts (.fieldLink RX9 16 "MeetingsAboveModel" "doubts" "[I") (by decide +kernel)) (fun _ h9 => h9) rfl dX9_numberOf_33 ?_
        refine lv_iload_n hx hb dX9_numberOf_36 rfl (lv_at hl 1 rfl) ?_
        refine va_iald hx hb hK hP 3 0 rfl rfl (vp_in_iff.mpr ⟨by omega, by omega⟩) dX9_numberOf_37 ?_
        refine lv_topi (fun y_9 ey_9 => ?_)
        refine lv_goto (tgt := 94) hx hb dX9_numberOf_38 (by decide) ?_
        exact W.iret (v := y_9) hx hb hr (fun t ht _ => ⟨_, rfl, trivial, ht⟩) (fun _ h => absurd h List.not_mem_nil) dX9_numberOf_94
    · have t_15 := (fa_eq _ _).mp c_15
      refine lv_aload_n hx hb dX9_numberOf_18 rfl (lv_at hl 0 rfl) ?_
      refine va_get (D := (dC, dI)) (ci := 9) (v := .ref a2) (C := RX9) (T := TX9) (N := 22) hx hb hts in_X9_numberOf_X9 hown hK hP 0 rfl rfl 2 (by decide) (hts (.fieldLink RX9 13 "MeetingsAboveModel" "many" "[I") (by decide +kernel)) (fun _ h9 => h9) rfl dX9_numberOf_19 ?_
      refine lv_iload_n hx hb dX9_numberOf_22 rfl (lv_at hl 1 rfl) ?_
      refine va_iald hx hb hK hP 2 0 rfl rfl (vp_in_iff.mpr ⟨by omega, by omega⟩) dX9_numberOf_23 ?_
      refine lv_topi (fun y_10 ey_10 => ?_)
      refine lv_goto (tgt := 94) hx hb dX9_numberOf_24 (by decide) ?_
      exact W.iret (v := y_10) hx hb hr (fun t ht _ => ⟨_, rfl, trivial, ht⟩) (fun _ h => absurd h List.not_mem_nil) dX9_numberOf_94
  · have t_1 := (fa_eq _ _).mp c_1
    refine lv_aload_n hx hb dX9_numberOf_4 rfl (lv_at hl 0 rfl) ?_
    refine va_get (D := (dC, dI)) (ci := 9) (v := .ref a1) (C := RX9) (T := TX9) (N := 22) hx hb hts in_X9_numberOf_X9 hown hK hP 0 rfl rfl 1 (by decide) (hts (.fieldLink RX9 7 "MeetingsAboveModel" "firsts" "[I") (by decide +kernel)) (fun _ h9 => h9) rfl dX9_numberOf_5 ?_
    refine lv_iload_n hx hb dX9_numberOf_8 rfl (lv_at hl 1 rfl) ?_
    refine va_iald hx hb hK hP 1 0 rfl rfl (vp_in_iff.mpr ⟨by omega, by omega⟩) dX9_numberOf_9 ?_
    refine lv_topi (fun y_11 ey_11 => ?_)
    refine lv_goto (tgt := 94) hx hb dX9_numberOf_10 (by decide) ?_
    exact W.iret (v := y_11) hx hb hr (fun t ht _ => ⟨_, rfl, trivial, ht⟩) (fun _ h => absurd h List.not_mem_nil) dX9_numberOf_94
