def wk_X9_thing : List Cond := .code yX9_thing cX9_thing 7 (some .int) :: (([.constantLong RX9 62 39, .constantLong RX9 68 200, .fieldLink RX9 59 "MeetingsAboveModel" "things" "I", .fieldLink RX9 13 "MeetingsAboveModel" "many" "[I", .constant RX9 71 (-100004), .constant RX9 70 (-100002)] : List Cond) ++ (wsX90 ++ ((va_wsS RX9 55 yX9_in wk_X9_in) ++ ((va_wsS RX9 64 yX9_isPlace wk_X9_isPlace) ++ ((wsV RX9 72 RX9 yX9_fresh wk_X9_fresh) ++ ((wsV RX9 76 RX9 yX9_setSpot wk_X9_setSpot) ++ ([])))))))
theorem in_X9_thing_X9 : ∀ w ∈ wsX90, w ∈ wk_X9_thing := fun _ h => List.mem_cons_of_mem _ (List.mem_append_right _ (List.mem_append_left _ h))
theorem gw_X9_thing : AG wk_X9_thing := AG_ca (AG_l (by decide +kernel)) (AG_app ag_X9 (AG_app (AG_S gw_X9_in) (AG_app (AG_S gw_X9_isPlace) (AG_app (AG_V gw_X9_fresh) (AG_app (AG_V gw_X9_setSpot) (AG_nil))))))
theorem g_X9_thing__X9_in_55 : GoodIn wk_X9_thing (va_wsS RX9 55 yX9_in wk_X9_in) := goodIn_m (fun _ h => List.mem_cons_of_mem _ (List.mem_append_right _ (List.mem_append_right _ (List.mem_append_left _ h)))) (AG_S gw_X9_in)
theorem g_X9_thing__X9_isPlace_64 : GoodIn wk_X9_thing (va_wsS RX9 64 yX9_isPlace wk_X9_isPlace) := goodIn_m (fun _ h => List.mem_cons_of_mem _ (List.mem_append_right _ (List.mem_append_right _ (List.mem_append_right _ (List.mem_append_left _ h))))) (AG_S gw_X9_isPlace)
theorem g_X9_thing__X9_fresh_72 : GoodIn wk_X9_thing (wsV RX9 72 RX9 yX9_fresh wk_X9_fresh) := goodIn_m (fun _ h => List.mem_cons_of_mem _ (List.mem_append_right _ (List.mem_append_right _ (List.mem_append_right _ (List.mem_append_right _ (List.mem_append_left _ h)))))) (AG_V gw_X9_fresh)
theorem g_X9_thing__X9_setSpot_76 : GoodIn wk_X9_thing (wsV RX9 76 RX9 yX9_setSpot wk_X9_setSpot) := goodIn_m (fun _ h => List.mem_cons_of_mem _ (List.mem_append_right _ (List.mem_append_right _ (List.mem_append_right _ (List.mem_append_right _ (List.mem_append_right _ (List.mem_append_left _ h))))))) (AG_V gw_X9_setSpot)
set_option maxHeartbeats 4000000 in
set_option maxRecDepth 100000 in
theorem c_X9_thing (l : Launch) (dC : Nat → ClassId) (dI : Nat → Nat → Nat) (h0 : Nat) (a1 : Nat) (a2 : Nat) (a3 : Nat) (a4 : Nat) (a5 : Nat) (a6 : Nat) (a7 : Nat) (a8 : Nat) (a9 : Nat) (a10 : Nat) (a11 : Nat) (th : Int32) (ne : Int32) (wi : Int32) (dn : Int32) (nn : Int32) (la : Int32) (wh : Int32) (up : Int64) (lw : Int64) (pu : Int64) (pw : Int64) (cI : ClassId) (cZ : ClassId) (Fi : Nat → Int32) (Ma : Nat → Int32) (Db : Nat → Int32) (Go : Nat → Int32) (Sp : Nat → Int32) (p1 : Int32) (p2 : Int32) (p3 : Int32) (p4 : Int32) (p5 : Int32) (sz : Nat) (hT0 : 0 ≤ th.toInt) (hT1 : th.toInt ≤ 16) : Met l yX9_thing wk_X9_thing ({ frames := 2, cells := 0, slots := 0, locals := 47 }) (va_Pc [.ref h0, .int p1, .int p2, .int p3, .int p4, .int p5] (fun U => U.heap.size = sz ∧ va_P (dC, dI) vwCl [(h0, .inr (9, [.int th, .ref a1, .ref a2, .ref a3, .ref a4, .ref a5, .int ne, .int wi, .int dn, .ref a6, .ref a7, .int nn, .ref a8, .int la, .ref a9, .ref a10, .long up, .long lw, .int wh, .long pu, .long pw, .ref a11])), (a1, .inl (cI, 16, .inl Fi)), (a2, .inl (cI, 16, .inl Ma)), (a3, .inl (cI, 16, .inl Db)), (a4, .inl (cZ, 16, .inl Go)), (a5, .inl (cI, 576, .inl Sp))] U.heap ∧ va_K (dC, dI) vwCl [(cI, .int), (cZ, .boolean)] U ∧ va_D (fun _ => True) [(h0, .inr (9, [.int th, .ref a1, .ref a2, .ref a3, .ref a4, .ref a5, .int ne, .int wi, .int dn, .ref a6, .ref a7, .int nn, .ref a8, .int la, .ref a9, .ref a10, .long up, .long lw, .int wh, .long pu, .long pw, .ref a11])), (a1, .inl (cI, 16, .inl Fi)), (a2, .inl (cI, 16, .inl Ma)), (a3, .inl (cI, 16, .inl Db)), (a4, .inl (cZ, 16, .inl Go)), (a5, .inl (cI, 576, .inl Sp))])) (va_Qi (fun (r : Int32) (_ : Unit) => r = if okT p1 p2 p3 p4 p5 then (if th.toInt < 16 then th else -100004) else -100002) (fun (_ : Unit) (t : State) => ∃ (th9 : Int32) (Fi9 : Nat → Int32) (Ma9 : Nat → Int32) (Db9 : Nat → Int32) (Go9 : Nat → Int32) (Sp9 : Nat → Int32), va_P (dC, dI) vwCl [(h0, .inr (9, [.int th9, .ref a1, .ref a2, .ref a3, .ref a4, .ref a5, .int ne, .int wi, .int dn, .ref a6, .ref a7, .int nn, .ref a8, .int la, .ref a9, .ref a10, .long up, .long lw, .int wh, .long pu, .long pw, .ref a11])), (a1, .inl (cI, 16, .inl Fi9)), (a2, .inl (cI, 16, .inl Ma9)), (a3, .inl (cI, 16, .inl Db9)), (a4, .inl (cZ, 16, .inl Go9)), (a5, .inl (cI, 576, .inl Sp9))] t.heap ∧ va_K (dC, dI) vwCl [(cI, .int), (cZ, .boolean)] t ∧ va_D (va_A [(h0, .inr (9, [.int th, .ref a1, .ref a2, .ref a3, .ref a4, .ref a5, .int ne, .int wi, .int dn, .ref a6, .ref a7, .int nn, .ref a8, .int la, .ref a9, .ref a10, .long up, .long lw, .int wh, .long pu, .long pw, .ref a11])), (a1, .inl (cI, 16, .inl Fi)), (a2, .inl (cI, 16, .inl Ma)), (a3, .inl (cI, 16, .inl Db)), (a4, .inl (cZ, 16, .inl Go)), (a5, .inl (cI, 576, .inl Sp))] sz) [(h0, .inr (9, [.int th9, .ref a1, .ref a2, .ref a3, .ref a4, .ref a5, .int ne, .int wi, .int dn, .ref a6, .ref a7, .int nn, .ref a8, .int la, .ref a9, .ref a10, .long up, .long lw, .int wh, .long pu, .long pw, .ref a11])), (a1, .inl (cI, 16, .inl Fi9)), (a2, .inl (cI, 16, .inl Ma9)), (a3, .inl (cI, 16, .inl Db9)), (a4, .inl (cZ, 16, .inl Go9)), (a5, .inl (cI, 576, .inl Sp9))] ∧ ((okT p1 p2 p3 p4 p5 ∧ th.toInt < 16 ∧ th9.toInt = th.toInt + 1 ∧ Fi9 = upd Fi th.toNatClampNeg p1 ∧ Ma9 = upd (upd Ma th.toNatClampNeg 0) th.toNatClampNeg 1 ∧ Db9 = upd Db th.toNatClampNeg p5 ∧ Go9 = upd Go th.toNatClampNeg (vp_nar .boolean 0) ∧ Sp9 = st3 Sp (36 * th.toInt + 3 * (0 : Int32).toInt).toNat p2 p3 p4) ∨ (¬ (okT p1 p2 p3 p4 p5 ∧ th.toInt < 16) ∧ th9 = th ∧ Fi9 = Fi ∧ Ma9 = Ma ∧ Db9 = Db ∧ Go9 = Go ∧ Sp9 = Sp))) (va_A [(h0, .inr (9, [.int th, .ref a1, .ref a2, .ref a3, .ref a4, .ref a5, .int ne, .int wi, .int dn, .ref a6, .ref a7, .int nn, .ref a8, .int la, .ref a9, .ref a10, .long up, .long lw, .int wh, .long pu, .long pw, .ref a11])), (a1, .inl (cI, 16, .inl Fi)), (a2, .inl (cI, 16, .inl Ma)), (a3, .inl (cI, 16, .inl Db)), (a4, .inl (cZ, 16, .inl Go)), (a5, .inl (cI, 576, .inl Sp))] sz)) 0 0 (va_A [(h0, .inr (9, [.int th, .ref a1, .ref a2, .ref a3, .ref a4, .ref a5, .int ne, .int wi, .int dn, .ref a6, .ref a7, .int nn, .ref a8, .int la, .ref a9, .ref a10, .long up, .long lw, .int wh, .long pu, .long pw, .ref a11])), (a1, .inl (cI, 16, .inl Fi)), (a2, .inl (cI, 16, .inl Ma)), (a3, .inl (cI, 16, .inl Db)), (a4, .inl (cZ, 16, .inl Go)), (a5, .inl (cI, 576, .inl Sp))] sz) := by
  refine Met.ofW (cc := cX9_thing) (maxL := 7) (ret := (some .int)) (by decide) rfl ?_
  intro p e s m args below meth c s₁ B hml hv
  obtain ⟨rfl, hsz, hP, hK, hD0⟩ := hv
  have hx := B.exec
  have hb := B.bytes
  have hr := B.returns
  have hts := atoms_spec (ws := wk_X9_thing) B.pre
  have hown : s.vm.findClass RX9 = some m.cls := findClass_of_methodNamed B.named
  have hlocks := B.notSynchronized
  subst hsz
  have hD := hD0.self (sz := s.heap.size)
  generalize hAe : va_A [(h0, .inr (9, [.int th, .ref a1, .ref a2, .ref a3, .ref a4, .ref a5, .int ne, .int wi, .int dn, .ref a6, .ref a7, .int nn, .ref a8, .int la, .ref a9, .ref a10, .long up, .long lw, .int wh, .long pu, .long pw, .ref a11])), (a1, .inl (cI, 16, .inl Fi)), (a2, .inl (cI, 16, .inl Ma)), (a3, .inl (cI, 16, .inl Db)), (a4, .inl (cZ, 16, .inl Go)), (a5, .inl (cI, 576, .inl Sp))] s.heap.size = A at hD ⊢
  have hA : ∀ q : Nat, s.heap.size ≤ q → A q := fun q h => by rw [← hAe]; exact Or.inr h
  have hS : va_S A s.heap s.heap [] := va_S.rf
  have hP : va_P (dC, dI) vwCl [(h0, .inr (9, [.int th, .ref a1, .ref a2, .ref a3, .ref a4, .ref a5, .int ne, .int wi, .int dn, .ref a6, .ref a7, .int nn, .ref a8, .int la, .ref a9, .ref a10, .long up, .long lw, .int wh, .long pu, .long pw, .ref a11])), (a1, .inl (cI, 16, .inl Fi)), (a2, .inl (cI, 16, .inl Ma)), (a3, .inl (cI, 16, .inl Db)), (a4, .inl (cZ, 16, .inl Go)), (a5, .inl (cI, 576, .inl Sp))] s.heap := hP
  have hl := lv_entry ([.ref h0, .int p1, .int p2, .int p3, .int p4, .int p5]) (n := 7) (Nat.le_of_ble_eq_true rfl)
  rw [lg_entry_eq]
  generalize (lg_sl ([.ref h0, .int p1, .int p2, .int p3, .int p4, .int p5]) ++ List.replicate (7 - (lg_sl ([.ref h0, .int p1, .int p2, .int p3, .int p4, .int p5])).length) Slot.unset).toArray = ls at hl ⊢
  have hl : lv_has ls 7 [(0, .ref h0), (1, .int p1), (2, .int p2), (3, .int p3), (4, .int p4), (5, .int p5)] := hl
  have kl_m100004 : (-100004 : Int32).toInt = -100004 := by decide
  have kl_m100002 : (-100002 : Int32).toInt = -100002 := by decide
  have kl_0 : (0 : Int32).toInt = 0 := by decide
  have kl_16 : (16 : Int32).toInt = 16 := by decide
  have kl_39 : (39 : Int32).toInt = 39 := by decide
  have kl_200 : (200 : Int32).toInt = 200 := by decide
  have klL_0 : (0 : Int64).toInt = 0 := by decide
  have klL_39 : (39 : Int64).toInt = 39 := by decide
  have klL_200 : (200 : Int64).toInt = 200 := by decide
  refine lv_iload_n hx hb dX9_thing_0 rfl (lv_at hl 1 rfl) ?_
  refine lv_i2l hx hb dX9_thing_1 rfl ?_
  refine lv_lconst (v := 0) hx hb dX9_thing_2 (by decide) ?_
  refine lv_ldc2 hx hb hown (hts (.constantLong RX9 62 39) (by decide +kernel)) dX9_thing_3 ?_
  refine vp_callSi (W.runS (As := [.long p1.toInt64, .long 0, .long 39]) (rest := []) ⟨hx, hb, hml, hown, hts⟩ (c_X9_in l dC dI p1.toInt64 0 39) (va_cwS 3 hts g_X9_thing__X9_in_55 rfl rfl rfl (by decide +kernel) ⟨Nat.le_of_ble_eq_true rfl, Nat.le_of_ble_eq_true rfl⟩) ⟨fun a U g mk q => by obtain ⟨q0, q1⟩ := q; exact ⟨q0, q1⟩, fun U hU hW => ⟨rfl, trivial⟩⟩ rfl rfl hl.1 rfl (lv_room (Nat.le_of_ble_eq_true rfl)) dX9_thing_6 ⟨Nat.le_of_ble_eq_true rfl, Nat.le_of_ble_eq_true rfl⟩) (fun r_1 hr_1 => ?_)
  try dsimp only at hr_1
  rcases bo_split hr_1 with ⟨rfl, q_6⟩ | ⟨rfl, q_6⟩
  · simp only [Int32.toInt_toInt64, klL_0, klL_39] at q_6
    refine lv_if_eq (tgt := 35) hx hb dX9_thing_9 (by decide) (fun h9 => absurd h9 (by decide)) (fun _ => ?_)
    refine lv_iload_n hx hb dX9_thing_12 rfl (lv_at hl 2 rfl) ?_
    refine lv_iload_n hx hb dX9_thing_13 rfl (lv_at hl 3 rfl) ?_
    refine lv_iload hx hb dX9_thing_14 (lv_at hl 4 rfl) ?_
    refine vp_callSi (W.runS (As := [.int p2, .int p3, .int p4]) (rest := []) ⟨hx, hb, hml, hown, hts⟩ (c_X9_isPlace l dC dI p2 p3 p4) (va_cwS 3 hts g_X9_thing__X9_isPlace_64 rfl rfl rfl (by decide +kernel) ⟨Nat.le_of_ble_eq_true rfl, Nat.le_of_ble_eq_true rfl⟩) ⟨fun a U g mk q => by obtain ⟨q0, q1⟩ := q; exact ⟨q0, q1⟩, fun U hU hW => ⟨rfl, trivial⟩⟩ rfl rfl hl.1 rfl (lv_room (Nat.le_of_ble_eq_true rfl)) dX9_thing_16 ⟨Nat.le_of_ble_eq_true rfl, Nat.le_of_ble_eq_true rfl⟩) (fun r_2 hr_2 => ?_)
    try dsimp only at hr_2
    rcases bo_split hr_2 with ⟨rfl, q_16⟩ | ⟨rfl, q_16⟩
    · refine lv_if_eq (tgt := 35) hx hb dX9_thing_19 (by decide) (fun h9 => absurd h9 (by decide)) (fun _ => ?_)
      refine lv_iload hx hb dX9_thing_22 (lv_at hl 5 rfl) ?_
      refine lv_i2l hx hb dX9_thing_24 rfl ?_
      refine lv_lconst (v := 0) hx hb dX9_thing_25 (by decide) ?_
      refine lv_ldc2 hx hb hown (hts (.constantLong RX9 68 200) (by decide +kernel)) dX9_thing_26 ?_
      refine vp_callSi (W.runS (As := [.long p5.toInt64, .long 0, .long 200]) (rest := []) ⟨hx, hb, hml, hown, hts⟩ (c_X9_in l dC dI p5.toInt64 0 200) (va_cwS 3 hts g_X9_thing__X9_in_55 rfl rfl rfl (by decide +kernel) ⟨Nat.le_of_ble_eq_true rfl, Nat.le_of_ble_eq_true rfl⟩) ⟨fun a U g mk q => by obtain ⟨q0, q1⟩ := q; exact ⟨q0, q1⟩, fun U hU hW => ⟨rfl, trivial⟩⟩ rfl rfl hl.1 rfl (lv_room (Nat.le_of_ble_eq_true rfl)) dX9_thing_29 ⟨Nat.le_of_ble_eq_true rfl, Nat.le_of_ble_eq_true rfl⟩) (fun r_3 hr_3 => ?_)
      try dsimp only at hr_3
      rcases bo_split hr_3 with ⟨rfl, q_29⟩ | ⟨rfl, q_29⟩
      · simp only [Int32.toInt_toInt64, klL_0, klL_200] at q_29
        refine lv_if_ne (tgt := 38) hx hb dX9_thing_32 (by decide) (fun _ => ?_) (fun h9 => absurd h9 (by decide))
        refine lv_aload_n hx hb dX9_thing_38 rfl (lv_at hl 0 rfl) ?_
        refine va_get (D := (dC, dI)) (ci := 9) (v := .int th) (C := RX9) (T := TX9) (N := 22) hx hb hts in_X9_thing_X9 hown hK hP 0 rfl rfl 0 (by decide) (hts (.fieldLink RX9 59 "MeetingsAboveModel" "things" "I") (by decide +kernel)) (fun _ h9 => h9) rfl dX9_thing_39 ?_
        refine lv_bipush (v := 16) hx hb dX9_thing_42 (by decide) ?_
        refine lv_icmp_ne (tgt := 50) hx hb dX9_thing_44 (by decide) (fun c_44 => ?_) (fun c_44 => ?_)
        · have t_44 := mt (fa_eq _ _).mpr c_44
          refine lv_aload_n hx hb dX9_thing_50 rfl (lv_at hl 0 rfl) ?_
          refine lv_iload_n hx hb dX9_thing_51 rfl (lv_at hl 1 rfl) ?_
          refine lv_iload hx hb dX9_thing_52 (lv_at hl 5 rfl) ?_
          have hPc := hP.sub (ws' := [(h0, .inr (9, [.int th, .ref a1, .ref a2, .ref a3, .ref a4, .ref a5, .int ne, .int wi, .int dn, .ref a6, .ref a7, .int nn, .ref a8, .int la, .ref a9, .ref a10, .long up, .long lw, .int wh, .long pu, .long pw, .ref a11])), (a1, .inl (cI, 16, .inl Fi)), (a2, .inl (cI, 16, .inl Ma)), (a3, .inl (cI, 16, .inl Db)), (a4, .inl (cZ, 16, .inl Go))]) [0, 1, 2, 3, 4] rfl
          have hKc := hK.sub (tys' := [(cI, .int), (cZ, .boolean)]) [0, 1] rfl
          have hDc := hD.sub (ws' := [(h0, .inr (9, [.int th, .ref a1, .ref a2, .ref a3, .ref a4, .ref a5, .int ne, .int wi, .int dn, .ref a6, .ref a7, .int nn, .ref a8, .int la, .ref a9, .ref a10, .long up, .long lw, .int wh, .long pu, .long pw, .ref a11])), (a1, .inl (cI, 16, .inl Fi)), (a2, .inl (cI, 16, .inl Ma)), (a3, .inl (cI, 16, .inl Db)), (a4, .inl (cZ, 16, .inl Go))]) [0, 1, 2, 3, 4] (by decide) rfl
          have hFc := va_free (wc := [(h0, .inr (9, [.int th, .ref a1, .ref a2, .ref a3, .ref a4, .ref a5, .int ne, .int wi, .int dn, .ref a6, .ref a7, .int nn, .ref a8, .int la, .ref a9, .ref a10, .long up, .long lw, .int wh, .long pu, .long pw, .ref a11])), (a1, .inl (cI, 16, .inl Fi)), (a2, .inl (cI, 16, .inl Ma)), (a3, .inl (cI, 16, .inl Db)), (a4, .inl (cZ, 16, .inl Go))]) hD hS hA [0, 1, 2, 3, 4] rfl
          refine va_calli (va_runV (As := [.int p1, .int p5]) (rest := []) ⟨hx, hb, hml, hown, hts⟩ (c_X9_fresh l dC dI h0 a1 a2 a3 a4 a5 a6 a7 a8 a9 a10 a11 th ne wi dn nn la wh up lw pu pw cI cZ Fi Ma Db Go p1 p5 s.heap.size (by first | omega | assumption) (by first | omega | assumption)) (cwV 2 hts g_X9_thing__X9_fresh_72 rfl rfl rfl (by decide +kernel) ⟨Nat.le_of_ble_eq_true rfl, Nat.le_of_ble_eq_true rfl⟩) ⟨fun a U g mk q => by obtain ⟨q0, q1, qP, qK, qD⟩ := q; exact ⟨q0, q1, qP, va_K.moved (u := U) (U := U.calling g mk a) (Vm.Alike.refl U.vm) qK, qD⟩, va_recv hKc hPc (ci := 9) (q0 := 0) rfl rfl, fun U hU hW => ⟨rfl, by rw [hU], by rw [hU]; exact hPc, va_K.moved hW.alike hKc, hDc.weaken (fun _ _ _ _ => trivial)⟩⟩ rfl rfl hl.1 rfl (lv_room (Nat.le_of_ble_eq_true rfl)) dX9_thing_54 ⟨Nat.le_of_ble_eq_true rfl, Nat.le_of_ble_eq_true rfl⟩) hS (fun q _ h => hFc q h) hFc (fun r_5 u_4 t H1 locs ht hvm hw_5 hB hz1 hk1 hS => ?_)
          obtain ⟨th9_6, hP1, hK1, hD1, ht9_7⟩ := hB
          rw [ht] at hP1
          have hK1 := va_K.moved hvm.symm hK1
          obtain ⟨hP, hD⟩ := va_join (wr := [(a5, .inl (cI, 576, .inl Sp))]) (w1 := [(h0, .inr (9, [.int th9_6, .ref a1, .ref a2, .ref a3, .ref a4, .ref a5, .int ne, .int wi, .int dn, .ref a6, .ref a7, .int nn, .ref a8, .int la, .ref a9, .ref a10, .long up, .long lw, .int wh, .long pu, .long pw, .ref a11])), (a1, .inl (cI, 16, .inl (upd Fi (th : Int32).toNatClampNeg p1))), (a2, .inl (cI, 16, .inl (upd Ma (th : Int32).toNatClampNeg 0))), (a3, .inl (cI, 16, .inl (upd Db (th : Int32).toNatClampNeg p5))), (a4, .inl (cZ, 16, .inl (upd Go (th : Int32).toNatClampNeg (vp_nar .boolean 0))))]) hP hD [0, 1, 2, 3, 4] [5] rfl rfl (by decide) (by decide) hk1 hFc hP1 hD1
          have hK := (hK.sub (tys' := [(cI, .int), (cZ, .boolean)]) [0, 1] rfl).app hK1
          generalize H1 = H at hP hS ⊢
          have hP : va_P (dC, dI) vwCl [(a5, .inl (cI, 576, .inl Sp)), (h0, .inr (9, [.int th9_6, .ref a1, .ref a2, .ref a3, .ref a4, .ref a5, .int ne, .int wi, .int dn, .ref a6, .ref a7, .int nn, .ref a8, .int la, .ref a9, .ref a10, .long up, .long lw, .int wh, .long pu, .long pw, .ref a11])), (a1, .inl (cI, 16, .inl (upd Fi (th : Int32).toNatClampNeg p1))), (a2, .inl (cI, 16, .inl (upd Ma (th : Int32).toNatClampNeg 0))), (a3, .inl (cI, 16, .inl (upd Db (th : Int32).toNatClampNeg p5))), (a4, .inl (cZ, 16, .inl (upd Go (th : Int32).toNatClampNeg (vp_nar .boolean 0))))] H := hP
          have hD : va_D A [(a5, .inl (cI, 576, .inl Sp)), (h0, .inr (9, [.int th9_6, .ref a1, .ref a2, .ref a3, .ref a4, .ref a5, .int ne, .int wi, .int dn, .ref a6, .ref a7, .int nn, .ref a8, .int la, .ref a9, .ref a10, .long up, .long lw, .int wh, .long pu, .long pw, .ref a11])), (a1, .inl (cI, 16, .inl (upd Fi (th : Int32).toNatClampNeg p1))), (a2, .inl (cI, 16, .inl (upd Ma (th : Int32).toNatClampNeg 0))), (a3, .inl (cI, 16, .inl (upd Db (th : Int32).toNatClampNeg p5))), (a4, .inl (cZ, 16, .inl (upd Go (th : Int32).toNatClampNeg (vp_nar .boolean 0))))] := hD
          have hK : va_K (dC, dI) vwCl [(cI, .int), (cZ, .boolean), (cI, .int), (cZ, .boolean)] s := hK
          refine W.widen (k := 0) (n := 0) (by omega) (by omega) ?_
          try dsimp only at hw_5
          have hw_5 := hw_5.symm
          subst hw_5
          refine lv_istore (lv' := [(6, .int th), (0, .ref h0), (1, .int p1), (2, .int p2), (3, .int p3), (4, .int p4), (5, .int p5)]) hx hb dX9_thing_57 hl (by decide) rfl (fun ls hl => ?_)
          refine lv_aload_n hx hb dX9_thing_59 rfl (lv_at hl 1 rfl) ?_
          refine lv_iload hx hb dX9_thing_60 (lv_at hl 0 rfl) ?_
          refine lv_iconst (v := 0) hx hb dX9_thing_62 (by decide) ?_
          refine lv_iload_n hx hb dX9_thing_63 rfl (lv_at hl 3 rfl) ?_
          refine lv_iload_n hx hb dX9_thing_64 rfl (lv_at hl 4 rfl) ?_
          refine lv_iload hx hb dX9_thing_65 (lv_at hl 5 rfl) ?_
          have hPc := hP.sub (ws' := [(h0, .inr (9, [.int th9_6, .ref a1, .ref a2, .ref a3, .ref a4, .ref a5, .int ne, .int wi, .int dn, .ref a6, .ref a7, .int nn, .ref a8, .int la, .ref a9, .ref a10, .long up, .long lw, .int wh, .long pu, .long pw, .ref a11])), (a5, .inl (cI, 576, .inl Sp))]) [1, 0] rfl
          have hKc := hK.sub (tys' := [(cI, .int)]) [0] rfl
          have hDc := hD.sub (ws' := [(h0, .inr (9, [.int th9_6, .ref a1, .ref a2, .ref a3, .ref a4, .ref a5, .int ne, .int wi, .int dn, .ref a6, .ref a7, .int nn, .ref a8, .int la, .ref a9, .ref a10, .long up, .long lw, .int wh, .long pu, .long pw, .ref a11])), (a5, .inl (cI, 576, .inl Sp))]) [1, 0] (by decide) rfl
          have hFc := va_free (wc := [(h0, .inr (9, [.int th9_6, .ref a1, .ref a2, .ref a3, .ref a4, .ref a5, .int ne, .int wi, .int dn, .ref a6, .ref a7, .int nn, .ref a8, .int la, .ref a9, .ref a10, .long up, .long lw, .int wh, .long pu, .long pw, .ref a11])), (a5, .inl (cI, 576, .inl Sp))]) hD hS hA [1, 0] rfl
          refine va_callv (va_runV (As := [.int th, .int 0, .int p2, .int p3, .int p4]) (rest := []) ⟨hx, hb, hml, hown, hts⟩ (c_X9_setSpot l dC dI h0 a1 a2 a3 a4 a5 a6 a7 a8 a9 a10 a11 th9_6 ne wi dn nn la wh up lw pu pw cI Sp th 0 p2 p3 p4 H.size (by first | omega | assumption) (by first | omega | assumption) (by first | omega | assumption) (by first | omega | assumption)) (cwV 5 hts g_X9_thing__X9_setSpot_76 rfl rfl rfl (by decide +kernel) ⟨Nat.le_of_ble_eq_true rfl, Nat.le_of_ble_eq_true rfl⟩) ⟨fun a U g mk q => by obtain ⟨q0, q1, qP, qK, qD⟩ := q; exact ⟨q0, q1, qP, va_K.moved (u := U) (U := U.calling g mk a) (Vm.Alike.refl U.vm) qK, qD⟩, va_recv hKc hPc (ci := 9) (q0 := 0) rfl rfl, fun U hU hW => ⟨rfl, by rw [hU], by rw [hU]; exact hPc, va_K.moved hW.alike hKc, hDc.weaken (fun _ _ _ _ => trivial)⟩⟩ rfl rfl hl.1 rfl (lv_room (Nat.le_of_ble_eq_true rfl)) dX9_thing_67 ⟨Nat.le_of_ble_eq_true rfl, Nat.le_of_ble_eq_true rfl⟩) hS (fun q _ h => hFc q h) hFc (fun u_8 t H1 locs ht hvm hw_9 hB hz1 hk1 hS => ?_)
          obtain ⟨Sp9_10, hP1, hK1, hD1, hS9_11⟩ := hB
          rw [ht] at hP1
          have hK1 := va_K.moved hvm.symm hK1
          obtain ⟨hP, hD⟩ := va_join (wr := [(a1, .inl (cI, 16, .inl (upd Fi (th : Int32).toNatClampNeg p1))), (a2, .inl (cI, 16, .inl (upd Ma (th : Int32).toNatClampNeg 0))), (a3, .inl (cI, 16, .inl (upd Db (th : Int32).toNatClampNeg p5))), (a4, .inl (cZ, 16, .inl (upd Go (th : Int32).toNatClampNeg (vp_nar .boolean 0))))]) (w1 := [(h0, .inr (9, [.int th9_6, .ref a1, .ref a2, .ref a3, .ref a4, .ref a5, .int ne, .int wi, .int dn, .ref a6, .ref a7, .int nn, .ref a8, .int la, .ref a9, .ref a10, .long up, .long lw, .int wh, .long pu, .long pw, .ref a11])), (a5, .inl (cI, 576, .inl Sp9_10))]) hP hD [1, 0] [2, 3, 4, 5] rfl rfl (by decide) (by decide) hk1 hFc hP1 hD1
          have hK := (hK.sub (tys' := [(cI, .int), (cZ, .boolean), (cI, .int), (cZ, .boolean)]) [0, 1, 2, 3] rfl).app hK1
          generalize H1 = H at hP hS ⊢
          have hP : va_P (dC, dI) vwCl [(a1, .inl (cI, 16, .inl (upd Fi (th : Int32).toNatClampNeg p1))), (a2, .inl (cI, 16, .inl (upd Ma (th : Int32).toNatClampNeg 0))), (a3, .inl (cI, 16, .inl (upd Db (th : Int32).toNatClampNeg p5))), (a4, .inl (cZ, 16, .inl (upd Go (th : Int32).toNatClampNeg (vp_nar .boolean 0)))), (h0, .inr (9, [.int th9_6, .ref a1, .ref a2, .ref a3, .ref a4, .ref a5, .int ne, .int wi, .int dn, .ref a6, .ref a7, .int nn, .ref a8, .int la, .ref a9, .ref a10, .long up, .long lw, .int wh, .long pu, .long pw, .ref a11])), (a5, .inl (cI, 576, .inl Sp9_10))] H := hP
          have hD : va_D A [(a1, .inl (cI, 16, .inl (upd Fi (th : Int32).toNatClampNeg p1))), (a2, .inl (cI, 16, .inl (upd Ma (th : Int32).toNatClampNeg 0))), (a3, .inl (cI, 16, .inl (upd Db (th : Int32).toNatClampNeg p5))), (a4, .inl (cZ, 16, .inl (upd Go (th : Int32).toNatClampNeg (vp_nar .boolean 0)))), (h0, .inr (9, [.int th9_6, .ref a1, .ref a2, .ref a3, .ref a4, .ref a5, .int ne, .int wi, .int dn, .ref a6, .ref a7, .int nn, .ref a8, .int la, .ref a9, .ref a10, .long up, .long lw, .int wh, .long pu, .long pw, .ref a11])), (a5, .inl (cI, 576, .inl Sp9_10))] := hD
          have hK : va_K (dC, dI) vwCl [(cI, .int), (cZ, .boolean), (cI, .int), (cZ, .boolean), (cI, .int)] s := hK
          refine W.widen (k := 0) (n := 0) (by omega) (by omega) ?_
          refine lv_aload_n hx hb dX9_thing_70 rfl (lv_at hl 1 rfl) ?_
          refine va_get (D := (dC, dI)) (ci := 9) (v := .ref a2) (C := RX9) (T := TX9) (N := 22) hx hb hts in_X9_thing_X9 hown hK hP 4 rfl rfl 2 (by decide) (hts (.fieldLink RX9 13 "MeetingsAboveModel" "many" "[I") (by decide +kernel)) (fun _ h9 => h9) rfl dX9_thing_71 ?_
          refine lv_iload hx hb dX9_thing_74 (lv_at hl 0 rfl) ?_
          refine lv_iconst (v := 1) hx hb dX9_thing_76 (by decide) ?_
          refine va_iast hx hb hK hP hD hS 1 0 rfl rfl (vp_in_iff.mpr ⟨by omega, by omega⟩) dX9_thing_77 (fun H locs hP hD hS => ?_)
          have hP : va_P (dC, dI) vwCl [(a1, .inl (cI, 16, .inl (upd Fi (th : Int32).toNatClampNeg p1))), (a2, .inl (cI, 16, .inl (upd (upd Ma (th : Int32).toNatClampNeg 0) (th : Int32).toNatClampNeg 1))), (a3, .inl (cI, 16, .inl (upd Db (th : Int32).toNatClampNeg p5))), (a4, .inl (cZ, 16, .inl (upd Go (th : Int32).toNatClampNeg (vp_nar .boolean 0)))), (h0, .inr (9, [.int th9_6, .ref a1, .ref a2, .ref a3, .ref a4, .ref a5, .int ne, .int wi, .int dn, .ref a6, .ref a7, .int nn, .ref a8, .int la, .ref a9, .ref a10, .long up, .long lw, .int wh, .long pu, .long pw, .ref a11])), (a5, .inl (cI, 576, .inl Sp9_10))] H := hP
          have hD : va_D A [(a1, .inl (cI, 16, .inl (upd Fi (th : Int32).toNatClampNeg p1))), (a2, .inl (cI, 16, .inl (upd (upd Ma (th : Int32).toNatClampNeg 0) (th : Int32).toNatClampNeg 1))), (a3, .inl (cI, 16, .inl (upd Db (th : Int32).toNatClampNeg p5))), (a4, .inl (cZ, 16, .inl (upd Go (th : Int32).toNatClampNeg (vp_nar .boolean 0)))), (h0, .inr (9, [.int th9_6, .ref a1, .ref a2, .ref a3, .ref a4, .ref a5, .int ne, .int wi, .int dn, .ref a6, .ref a7, .int nn, .ref a8, .int la, .ref a9, .ref a10, .long up, .long lw, .int wh, .long pu, .long pw, .ref a11])), (a5, .inl (cI, 576, .inl Sp9_10))] := hD
          refine lv_iload hx hb dX9_thing_78 (lv_at hl 0 rfl) ?_
          have hP9 := hP.sub (ws' := [(h0, .inr (9, [.int th9_6, .ref a1, .ref a2, .ref a3, .ref a4, .ref a5, .int ne, .int wi, .int dn, .ref a6, .ref a7, .int nn, .ref a8, .int la, .ref a9, .ref a10, .long up, .long lw, .int wh, .long pu, .long pw, .ref a11])), (a1, .inl (cI, 16, .inl (upd Fi (th : Int32).toNatClampNeg p1))), (a2, .inl (cI, 16, .inl (upd (upd Ma (th : Int32).toNatClampNeg 0) (th : Int32).toNatClampNeg 1))), (a3, .inl (cI, 16, .inl (upd Db (th : Int32).toNatClampNeg p5))), (a4, .inl (cZ, 16, .inl (upd Go (th : Int32).toNatClampNeg (vp_nar .boolean 0)))), (a5, .inl (cI, 576, .inl Sp9_10))]) [4, 0, 1, 2, 3, 5] rfl
          have hD9 := hD.sub (ws' := [(h0, .inr (9, [.int th9_6, .ref a1, .ref a2, .ref a3, .ref a4, .ref a5, .int ne, .int wi, .int dn, .ref a6, .ref a7, .int nn, .ref a8, .int la, .ref a9, .ref a10, .long up, .long lw, .int wh, .long pu, .long pw, .ref a11])), (a1, .inl (cI, 16, .inl (upd Fi (th : Int32).toNatClampNeg p1))), (a2, .inl (cI, 16, .inl (upd (upd Ma (th : Int32).toNatClampNeg 0) (th : Int32).toNatClampNeg 1))), (a3, .inl (cI, 16, .inl (upd Db (th : Int32).toNatClampNeg p5))), (a4, .inl (cZ, 16, .inl (upd Go (th : Int32).toNatClampNeg (vp_nar .boolean 0)))), (a5, .inl (cI, 576, .inl Sp9_10))]) [4, 0, 1, 2, 3, 5] (by decide) rfl
          have hK9 := hK.sub (tys' := [(cI, .int), (cZ, .boolean)]) [0, 1] rfl
          refine W.widen (k := 0) (n := 0) (by omega) (by omega) ?_
          exact W.iret (v := th) hx hb hr (fun t ht hW => ⟨⟨_, (), rfl, (by first | rw [if_neg (by omega)] | rw [if_pos (by omega), if_neg (by omega)] | rw [if_pos (by omega), if_pos (by omega)] | rw [if_pos (by omega), if_pos (by omega), if_neg (by omega)]), th9_6, (upd Fi (th : Int32).toNatClampNeg p1), (upd (upd Ma (th : Int32).toNatClampNeg 0) (th : Int32).toNatClampNeg 1), (upd Db (th : Int32).toNatClampNeg p5), (upd Go (th : Int32).toNatClampNeg (vp_nar .boolean 0)), Sp9_10, by rw [ht]; exact hP9, va_K.moved hW.alike hK9, hD9, (by first | exact Or.inr ⟨by omega, rfl, rfl, rfl, rfl, rfl, rfl⟩ | exact Or.inl ⟨by omega, by omega, by omega, rfl, rfl, rfl, rfl, hS9_11⟩)⟩, hS.F ht⟩) hS.2.2 dX9_thing_80
        · have t_44 := (fa_eq _ _).mp c_44
          refine lv_ldc hx hb hown (hts (.constant RX9 71 (-100004)) (by decide +kernel)) dX9_thing_47 ?_
          have hP9 := hP.sub (ws' := [(h0, .inr (9, [.int th, .ref a1, .ref a2, .ref a3, .ref a4, .ref a5, .int ne, .int wi, .int dn, .ref a6, .ref a7, .int nn, .ref a8, .int la, .ref a9, .ref a10, .long up, .long lw, .int wh, .long pu, .long pw, .ref a11])), (a1, .inl (cI, 16, .inl Fi)), (a2, .inl (cI, 16, .inl Ma)), (a3, .inl (cI, 16, .inl Db)), (a4, .inl (cZ, 16, .inl Go)), (a5, .inl (cI, 576, .inl Sp))]) [0, 1, 2, 3, 4, 5] rfl
          have hD9 := hD.sub (ws' := [(h0, .inr (9, [.int th, .ref a1, .ref a2, .ref a3, .ref a4, .ref a5, .int ne, .int wi, .int dn, .ref a6, .ref a7, .int nn, .ref a8, .int la, .ref a9, .ref a10, .long up, .long lw, .int wh, .long pu, .long pw, .ref a11])), (a1, .inl (cI, 16, .inl Fi)), (a2, .inl (cI, 16, .inl Ma)), (a3, .inl (cI, 16, .inl Db)), (a4, .inl (cZ, 16, .inl Go)), (a5, .inl (cI, 576, .inl Sp))]) [0, 1, 2, 3, 4, 5] (by decide) rfl
          have hK9 := hK.sub (tys' := [(cI, .int), (cZ, .boolean)]) [0, 1] rfl
          refine W.widen (k := 0) (n := 0) (by omega) (by omega) ?_
          exact W.iret (v := (-100004)) hx hb hr (fun t ht hW => ⟨⟨_, (), rfl, (by first | rw [if_neg (by omega)] | rw [if_pos (by omega), if_neg (by omega)] | rw [if_pos (by omega), if_pos (by omega)] | rw [if_pos (by omega), if_pos (by omega), if_neg (by omega)]), th, Fi, Ma, Db, Go, Sp, by rw [ht]; exact hP9, va_K.moved hW.alike hK9, hD9, (by first | exact Or.inr ⟨by omega, rfl, rfl, rfl, rfl, rfl, rfl⟩ | exact Or.inl ⟨by omega, by omega, by omega, rfl, rfl, rfl, rfl, hS9_11⟩)⟩, hS.F ht⟩) hS.2.2 dX9_thing_49
      · simp only [Int32.toInt_toInt64, klL_0, klL_200] at q_29
        refine lv_if_ne (tgt := 38) hx hb dX9_thing_32 (by decide) (fun h9 => absurd h9 (by decide)) (fun _ => ?_)
        refine lv_ldc hx hb hown (hts (.constant RX9 70 (-100002)) (by decide +kernel)) dX9_thing_35 ?_
        have hP9 := hP.sub (ws' := [(h0, .inr (9, [.int th, .ref a1, .ref a2, .ref a3, .ref a4, .ref a5, .int ne, .int wi, .int dn, .ref a6, .ref a7, .int nn, .ref a8, .int la, .ref a9, .ref a10, .long up, .long lw, .int wh, .long pu, .long pw, .ref a11])), (a1, .inl (cI, 16, .inl Fi)), (a2, .inl (cI, 16, .inl Ma)), (a3, .inl (cI, 16, .inl Db)), (a4, .inl (cZ, 16, .inl Go)), (a5, .inl (cI, 576, .inl Sp))]) [0, 1, 2, 3, 4, 5] rfl
        have hD9 := hD.sub (ws' := [(h0, .inr (9, [.int th, .ref a1, .ref a2, .ref a3, .ref a4, .ref a5, .int ne, .int wi, .int dn, .ref a6, .ref a7, .int nn, .ref a8, .int la, .ref a9, .ref a10, .long up, .long lw, .int wh, .long pu, .long pw, .ref a11])), (a1, .inl (cI, 16, .inl Fi)), (a2, .inl (cI, 16, .inl Ma)), (a3, .inl (cI, 16, .inl Db)), (a4, .inl (cZ, 16, .inl Go)), (a5, .inl (cI, 576, .inl Sp))]) [0, 1, 2, 3, 4, 5] (by decide) rfl
        have hK9 := hK.sub (tys' := [(cI, .int), (cZ, .boolean)]) [0, 1] rfl
        refine W.widen (k := 0) (n := 0) (by omega) (by omega) ?_
        exact W.iret (v := (-100002)) hx hb hr (fun t ht hW => ⟨⟨_, (), rfl, (by first | rw [if_neg (by omega)] | rw [if_pos (by omega), if_neg (by omega)] | rw [if_pos (by omega), if_pos (by omega)] | rw [if_pos (by omega), if_pos (by omega), if_neg (by omega)]), th, Fi, Ma, Db, Go, Sp, by rw [ht]; exact hP9, va_K.moved hW.alike hK9, hD9, (by first | exact Or.inr ⟨by omega, rfl, rfl, rfl, rfl, rfl, rfl⟩ | exact Or.inl ⟨by omega, by omega, by omega, rfl, rfl, rfl, rfl, hS9_11⟩)⟩, hS.F ht⟩) hS.2.2 dX9_thing_37
    · refine lv_if_eq (tgt := 35) hx hb dX9_thing_19 (by decide) (fun _ => ?_) (fun h9 => absurd h9 (by decide))
      refine lv_ldc hx hb hown (hts (.constant RX9 70 (-100002)) (by decide +kernel)) dX9_thing_35 ?_
      have hP9 := hP.sub (ws' := [(h0, .inr (9, [.int th, .ref a1, .ref a2, .ref a3, .ref a4, .ref a5, .int ne, .int wi, .int dn, .ref a6, .ref a7, .int nn, .ref a8, .int la, .ref a9, .ref a10, .long up, .long lw, .int wh, .long pu, .long pw, .ref a11])), (a1, .inl (cI, 16, .inl Fi)), (a2, .inl (cI, 16, .inl Ma)), (a3, .inl (cI, 16, .inl Db)), (a4, .inl (cZ, 16, .inl Go)), (a5, .inl (cI, 576, .inl Sp))]) [0, 1, 2, 3, 4, 5] rfl
      have hD9 := hD.sub (ws' := [(h0, .inr (9, [.int th, .ref a1, .ref a2, .ref a3, .ref a4, .ref a5, .int ne, .int wi, .int dn, .ref a6, .ref a7, .int nn, .ref a8, .int la, .ref a9, .ref a10, .long up, .long lw, .int wh, .long pu, .long pw, .ref a11])), (a1, .inl (cI, 16, .inl Fi)), (a2, .inl (cI, 16, .inl Ma)), (a3, .inl (cI, 16, .inl Db)), (a4, .inl (cZ, 16, .inl Go)), (a5, .inl (cI, 576, .inl Sp))]) [0, 1, 2, 3, 4, 5] (by decide) rfl
      have hK9 := hK.sub (tys' := [(cI, .int), (cZ, .boolean)]) [0, 1] rfl
      refine W.widen (k := 0) (n := 0) (by omega) (by omega) ?_
      exact W.iret (v := (-100002)) hx hb hr (fun t ht hW => ⟨⟨_, (), rfl, (by first | rw [if_neg (by omega)] | rw [if_pos (by omega), if_neg (by omega)] | rw [if_pos (by omega), if_pos (by omega)] | rw [if_pos (by omega), if_pos (by omega), if_neg (by omega)]), th, Fi, Ma, Db, Go, Sp, by rw [ht]; exact hP9, va_K.moved hW.alike hK9, hD9, (by first | exact Or.inr ⟨by omega, rfl, rfl, rfl, rfl, rfl, rfl⟩ | exact Or.inl ⟨by omega, by omega, by omega, rfl, rfl, rfl, rfl, hS9_11⟩)⟩, hS.F ht⟩) hS.2.2 dX9_thing_37
  · simp only [Int32.toInt_toInt64, klL_0, klL_39] at q_6
    refine lv_if_eq (tgt := 35) hx hb dX9_thing_9 (by decide) (fun _ => ?_) (fun h9 => absurd h9 (by decide))
    refine lv_ldc hx hb hown (hts (.constant RX9 70 (-100002)) (by decide +kernel)) dX9_thing_35 ?_
    have hP9 := hP.sub (ws' := [(h0, .inr (9, [.int th, .ref a1, .ref a2, .ref a3, .ref a4, .ref a5, .int ne, .int wi, .int dn, .ref a6, .ref a7, .int nn, .ref a8, .int la, .ref a9, .ref a10, .long up, .long lw, .int wh, .long pu, .long pw, .ref a11])), (a1, .inl (cI, 16, .inl Fi)), (a2, .inl (cI, 16, .inl Ma)), (a3, .inl (cI, 16, .inl Db)), (a4, .inl (cZ, 16, .inl Go)), (a5, .inl (cI, 576, .inl Sp))]) [0, 1, 2, 3, 4, 5] rfl
    have hD9 := hD.sub (ws' := [(h0, .inr (9, [.int th, .ref a1, .ref a2, .ref a3, .ref a4, .ref a5, .int ne, .int wi, .int dn, .ref a6, .ref a7, .int nn, .ref a8, .int la, .ref a9, .ref a10, .long up, .long lw, .int wh, .long pu, .long pw, .ref a11])), (a1, .inl (cI, 16, .inl Fi)), (a2, .inl (cI, 16, .inl Ma)), (a3, .inl (cI, 16, .inl Db)), (a4, .inl (cZ, 16, .inl Go)), (a5, .inl (cI, 576, .inl Sp))]) [0, 1, 2, 3, 4, 5] (by decide) rfl
    have hK9 := hK.sub (tys' := [(cI, .int), (cZ, .boolean)]) [0, 1] rfl
    refine W.widen (k := 0) (n := 0) (by omega) (by omega) ?_
    exact W.iret (v := (-100002)) hx hb hr (fun t ht hW => ⟨⟨_, (), rfl, (by first | rw [if_neg (by omega)] | rw [if_pos (by omega), if_neg (by omega)] | rw [if_pos (by omega), if_pos (by omega)] | rw [if_pos (by omega), if_pos (by omega), if_neg (by omega)]), th, Fi, Ma, Db, Go, Sp, by rw [ht]; exact hP9, va_K.moved hW.alike hK9, hD9, (by first | exact Or.inr ⟨by omega, rfl, rfl, rfl, rfl, rfl, rfl⟩ | exact Or.inl ⟨by omega, by omega, by omega, rfl, rfl, rfl, rfl, hS9_11⟩)⟩, hS.F ht⟩) hS.2.2 dX9_thing_37
def wk_X9_place : List Cond := .code yX9_place cX9_place 5 (some .int) :: (([.fieldLink RX9 19 "MeetingsAboveModel" "isGone" "[Z", .constant RX9 85 (-100003), .fieldLink RX9 7 "MeetingsAboveModel" "firsts" "[I", .fieldLink RX9 13 "MeetingsAboveModel" "many" "[I", .constant RX9 71 (-100004), .constant RX9 70 (-100002), .constant RX9 84 (-100001)] : List Cond) ++ (wsX90 ++ ((wsV RX9 80 RX9 yX9_isThing wk_X9_isThing) ++ ((va_wsS RX9 64 yX9_isPlace wk_X9_isPlace) ++ ((wsV RX9 76 RX9 yX9_setSpot wk_X9_setSpot) ++ ([]))))))
theorem in_X9_place_X9 : ∀ w ∈ wsX90, w ∈ wk_X9_place := fun _ h => List.mem_cons_of_mem _ (List.mem_append_right _ (List.mem_append_left _ h))
theorem gw_X9_place : AG wk_X9_place := AG_ca (AG_l (by decide +kernel)) (AG_app ag_X9 (AG_app (AG_V gw_X9_isThing) (AG_app (AG_S gw_X9_isPlace) (AG_app (AG_V gw_X9_setSpot) (AG_nil)))))
theorem g_X9_place__X9_isThing_80 : GoodIn wk_X9_place (wsV RX9 80 RX9 yX9_isThing wk_X9_isThing) := goodIn_m (fun _ h => List.mem_cons_of_mem _ (List.mem_append_right _ (List.mem_append_right _ (List.mem_append_left _ h)))) (AG_V gw_X9_isThing)
theorem g_X9_place__X9_isPlace_64 : GoodIn wk_X9_place (va_wsS RX9 64 yX9_isPlace wk_X9_isPlace) := goodIn_m (fun _ h => List.mem_cons_of_mem _ (List.mem_append_right _ (List.mem_append_right _ (List.mem_append_right _ (List.mem_append_left _ h))))) (AG_S gw_X9_isPlace)
theorem g_X9_place__X9_setSpot_76 : GoodIn wk_X9_place (wsV RX9 76 RX9 yX9_setSpot wk_X9_setSpot) := goodIn_m (fun _ h => List.mem_cons_of_mem _ (List.mem_append_right _ (List.mem_append_right _ (List.mem_append_right _ (List.mem_append_right _ (List.mem_append_left _ h)))))) (AG_V gw_X9_setSpot)
set_option maxHeartbeats 4000000 in
set_option maxRecDepth 100000 in
theorem c_X9_place (l : Launch) (dC : Nat → ClassId) (dI : Nat → Nat → Nat) (h0 : Nat) (a1 : Nat) (a2 : Nat) (a3 : Nat) (a4 : Nat) (a5 : Nat) (a6 : Nat) (a7 : Nat) (a8 : Nat) (a9 : Nat) (a10 : Nat) (a11 : Nat) (th : Int32) (ne : Int32) (wi : Int32) (dn : Int32) (nn : Int32) (la : Int32) (wh : Int32) (up : Int64) (lw : Int64) (pu : Int64) (pw : Int64) (cI : ClassId) (cZ : ClassId) (Fi : Nat → Int32) (Ma : Nat → Int32) (Go : Nat → Int32) (Sp : Nat → Int32) (p1 : Int32) (p2 : Int32) (p3 : Int32) (p4 : Int32) (sz : Nat) (hM : mOK th Fi Ma) : Met l yX9_place wk_X9_place ({ frames := 2, cells := 0, slots := 0, locals := 47 }) (va_Pc [.ref h0, .int p1, .int p2, .int p3, .int p4] (fun U => U.heap.size = sz ∧ va_P (dC, dI) vwCl [(h0, .inr (9, [.int th, .ref a1, .ref a2, .ref a3, .ref a4, .ref a5, .int ne, .int wi, .int dn, .ref a6, .ref a7, .int nn, .ref a8, .int la, .ref a9, .ref a10, .long up, .long lw, .int wh, .long pu, .long pw, .ref a11])), (a1, .inl (cI, 16, .inl Fi)), (a2, .inl (cI, 16, .inl Ma)), (a4, .inl (cZ, 16, .inl Go)), (a5, .inl (cI, 576, .inl Sp))] U.heap ∧ va_K (dC, dI) vwCl [(cI, .int), (cZ, .boolean)] U ∧ va_D (fun _ => True) [(h0, .inr (9, [.int th, .ref a1, .ref a2, .ref a3, .ref a4, .ref a5, .int ne, .int wi, .int dn, .ref a6, .ref a7, .int nn, .ref a8, .int la, .ref a9, .ref a10, .long up, .long lw, .int wh, .long pu, .long pw, .ref a11])), (a1, .inl (cI, 16, .inl Fi)), (a2, .inl (cI, 16, .inl Ma)), (a4, .inl (cZ, 16, .inl Go)), (a5, .inl (cI, 576, .inl Sp))])) (va_Qi (fun (r : Int32) (_ : Unit) => r = if 0 ≤ p1.toInt ∧ p1.toInt < th.toInt then (if inP p2 p3 p4 then (if (Go p1.toNatClampNeg).toInt = 0 ∧ (Fi p1.toNatClampNeg).toInt + (Ma p1.toNatClampNeg).toInt ≤ 39 then (if (Ma p1.toNatClampNeg).toInt ≠ 12 then Ma p1.toNatClampNeg + 1 else -100004) else -100003) else -100002) else -100001) (fun (_ : Unit) (t : State) => ∃ (Ma9 : Nat → Int32) (Sp9 : Nat → Int32), va_P (dC, dI) vwCl [(h0, .inr (9, [.int th, .ref a1, .ref a2, .ref a3, .ref a4, .ref a5, .int ne, .int wi, .int dn, .ref a6, .ref a7, .int nn, .ref a8, .int la, .ref a9, .ref a10, .long up, .long lw, .int wh, .long pu, .long pw, .ref a11])), (a1, .inl (cI, 16, .inl Fi)), (a2, .inl (cI, 16, .inl Ma9)), (a4, .inl (cZ, 16, .inl Go)), (a5, .inl (cI, 576, .inl Sp9))] t.heap ∧ va_K (dC, dI) vwCl [(cI, .int), (cZ, .boolean)] t ∧ va_D (va_A [(h0, .inr (9, [.int th, .ref a1, .ref a2, .ref a3, .ref a4, .ref a5, .int ne, .int wi, .int dn, .ref a6, .ref a7, .int nn, .ref a8, .int la, .ref a9, .ref a10, .long up, .long lw, .int wh, .long pu, .long pw, .ref a11])), (a1, .inl (cI, 16, .inl Fi)), (a2, .inl (cI, 16, .inl Ma)), (a4, .inl (cZ, 16, .inl Go)), (a5, .inl (cI, 576, .inl Sp))] sz) [(h0, .inr (9, [.int th, .ref a1, .ref a2, .ref a3, .ref a4, .ref a5, .int ne, .int wi, .int dn, .ref a6, .ref a7, .int nn, .ref a8, .int la, .ref a9, .ref a10, .long up, .long lw, .int wh, .long pu, .long pw, .ref a11])), (a1, .inl (cI, 16, .inl Fi)), (a2, .inl (cI, 16, .inl Ma9)), (a4, .inl (cZ, 16, .inl Go)), (a5, .inl (cI, 576, .inl Sp9))] ∧ ((((0 ≤ p1.toInt ∧ p1.toInt < th.toInt) ∧ inP p2 p3 p4 ∧ ((Go p1.toNatClampNeg).toInt = 0 ∧ (Fi p1.toNatClampNeg).toInt + (Ma p1.toNatClampNeg).toInt ≤ 39) ∧ (Ma p1.toNatClampNeg).toInt ≠ 12) ∧ Ma9 = upd Ma p1.toNatClampNeg (Ma p1.toNatClampNeg + 1) ∧ Sp9 = st3 Sp (36 * p1.toInt + 3 * (Ma p1.toNatClampNeg).toInt).toNat p2 p3 p4) ∨ (¬ ((0 ≤ p1.toInt ∧ p1.toInt < th.toInt) ∧ inP p2 p3 p4 ∧ ((Go p1.toNatClampNeg).toInt = 0 ∧ (Fi p1.toNatClampNeg).toInt + (Ma p1.toNatClampNeg).toInt ≤ 39) ∧ (Ma p1.toNatClampNeg).toInt ≠ 12) ∧ Ma9 = Ma ∧ Sp9 = Sp))) (va_A [(h0, .inr (9, [.int th, .ref a1, .ref a2, .ref a3, .ref a4, .ref a5, .int ne, .int wi, .int dn, .ref a6, .ref a7, .int nn, .ref a8, .int la, .ref a9, .ref a10, .long up, .long lw, .int wh, .long pu, .long pw, .ref a11])), (a1, .inl (cI, 16, .inl Fi)), (a2, .inl (cI, 16, .inl Ma)), (a4, .inl (cZ, 16, .inl Go)), (a5, .inl (cI, 576, .inl Sp))] sz)) 0 0 (va_A [(h0, .inr (9, [.int th, .ref a1, .ref a2, .ref a3, .ref a4, .ref a5, .int ne, .int wi, .int dn, .ref a6, .ref a7, .int nn, .ref a8, .int la, .ref a9, .ref a10, .long up, .long lw, .int wh, .long pu, .long pw, .ref a11])), (a1, .inl (cI, 16, .inl Fi)), (a2, .inl (cI, 16, .inl Ma)), (a4, .inl (cZ, 16, .inl Go)), (a5, .inl (cI, 576, .inl Sp))] sz) := by
  refine Met.ofW (cc := cX9_place) (maxL := 5) (ret := (some .int)) (by decide) rfl ?_
  intro p e s m args below meth c s₁ B hml hv
  obtain ⟨rfl, hsz, hP, hK, hD0⟩ := hv
  have hx := B.exec
  have hb := B.bytes
  have hr := B.returns
  have hts := atoms_spec (ws := wk_X9_place) B.pre
  have hown : s.vm.findClass RX9 = some m.cls := findClass_of_methodNamed B.named
  have hlocks := B.notSynchronized
  subst hsz
  have hD := hD0.self (sz := s.heap.size)
  generalize hAe : va_A [(h0, .inr (9, [.int th, .ref a1, .ref a2, .ref a3, .ref a4, .ref a5, .int ne, .int wi, .int dn, .ref a6, .ref a7, .int nn, .ref a8, .int la, .ref a9, .ref a10, .long up, .long lw, .int wh, .long pu, .long pw, .ref a11])), (a1, .inl (cI, 16, .inl Fi)), (a2, .inl (cI, 16, .inl Ma)), (a4, .inl (cZ, 16, .inl Go)), (a5, .inl (cI, 576, .inl Sp))] s.heap.size = A at hD ⊢
  have hA : ∀ q : Nat, s.heap.size ≤ q → A q := fun q h => by rw [← hAe]; exact Or.inr h
  have hS : va_S A s.heap s.heap [] := va_S.rf
  have hP : va_P (dC, dI) vwCl [(h0, .inr (9, [.int th, .ref a1, .ref a2, .ref a3, .ref a4, .ref a5, .int ne, .int wi, .int dn, .ref a6, .ref a7, .int nn, .ref a8, .int la, .ref a9, .ref a10, .long up, .long lw, .int wh, .long pu, .long pw, .ref a11])), (a1, .inl (cI, 16, .inl Fi)), (a2, .inl (cI, 16, .inl Ma)), (a4, .inl (cZ, 16, .inl Go)), (a5, .inl (cI, 576, .inl Sp))] s.heap := hP
  have hl := lv_entry ([.ref h0, .int p1, .int p2, .int p3, .int p4]) (n := 5) (Nat.le_of_ble_eq_true rfl)
  rw [lg_entry_eq]
  generalize (lg_sl ([.ref h0, .int p1, .int p2, .int p3, .int p4]) ++ List.replicate (5 - (lg_sl ([.ref h0, .int p1, .int p2, .int p3, .int p4])).length) Slot.unset).toArray = ls at hl ⊢
  have hl : lv_has ls 5 [(0, .ref h0), (1, .int p1), (2, .int p2), (3, .int p3), (4, .int p4)] := hl
  have kl_m100004 : (-100004 : Int32).toInt = -100004 := by decide
  have kl_m100003 : (-100003 : Int32).toInt = -100003 := by decide
  have kl_m100002 : (-100002 : Int32).toInt = -100002 := by decide
  have kl_m100001 : (-100001 : Int32).toInt = -100001 := by decide
  have kl_0 : (0 : Int32).toInt = 0 := by decide
  have kl_1 : (1 : Int32).toInt = 1 := by decide
  have kl_12 : (12 : Int32).toInt = 12 := by decide
  have kl_39 : (39 : Int32).toInt = 39 := by decide
  obtain ⟨hM0, hM1, hM2⟩ := id hM
  refine lv_aload_n hx hb dX9_place_0 rfl (lv_at hl 0 rfl) ?_
  refine lv_iload_n hx hb dX9_place_1 rfl (lv_at hl 1 rfl) ?_
  have hPc := hP.sub (ws' := [(h0, .inr (9, [.int th, .ref a1, .ref a2, .ref a3, .ref a4, .ref a5, .int ne, .int wi, .int dn, .ref a6, .ref a7, .int nn, .ref a8, .int la, .ref a9, .ref a10, .long up, .long lw, .int wh, .long pu, .long pw, .ref a11]))]) [0] rfl
  have hKc := hK.sub (tys' := []) [] rfl
  refine vp_callSi (W.runV (As := [.int p1]) (rest := []) ⟨hx, hb, hml, hown, hts⟩ (c_X9_isThing l dC dI h0 a1 a2 a3 a4 a5 a6 a7 a8 a9 a10 a11 th ne wi dn nn la wh up lw pu pw p1 (by first | omega | assumption) (by first | omega | assumption)) (cwV 1 hts g_X9_place__X9_isThing_80 rfl rfl rfl (by decide +kernel) ⟨Nat.le_of_ble_eq_true rfl, Nat.le_of_ble_eq_true rfl⟩) ⟨fun a U g mk q => by obtain ⟨q0, qP, qK⟩ := q; exact ⟨q0, qP, va_K.moved (u := U) (U := U.calling g mk a) (Vm.Alike.refl U.vm) qK⟩, va_recv hKc hPc (ci := 9) (q0 := 0) rfl rfl, fun U hU hW => ⟨rfl, by rw [hU]; exact hPc, va_K.moved hW.alike hKc⟩⟩ rfl rfl hl.1 rfl (lv_room (Nat.le_of_ble_eq_true rfl)) dX9_place_2 ⟨Nat.le_of_ble_eq_true rfl, Nat.le_of_ble_eq_true rfl⟩) (fun r_1 hr_1 => ?_)
  try dsimp only at hr_1
  rcases bo_split hr_1 with ⟨rfl, q_2⟩ | ⟨rfl, q_2⟩
  · refine lv_if_ne (tgt := 11) hx hb dX9_place_5 (by decide) (fun _ => ?_) (fun h9 => absurd h9 (by decide))
    have np1 : ((p1.toNatClampNeg : Nat) : Int) = p1.toInt := tc_I (by omega)
    have bp1 := hM2 p1.toNatClampNeg (by omega)
    refine lv_iload_n hx hb dX9_place_11 rfl (lv_at hl 2 rfl) ?_
    refine lv_iload_n hx hb dX9_place_12 rfl (lv_at hl 3 rfl) ?_
    refine lv_iload hx hb dX9_place_13 (lv_at hl 4 rfl) ?_
    refine vp_callSi (W.runS (As := [.int p2, .int p3, .int p4]) (rest := []) ⟨hx, hb, hml, hown, hts⟩ (c_X9_isPlace l dC dI p2 p3 p4) (va_cwS 3 hts g_X9_place__X9_isPlace_64 rfl rfl rfl (by decide +kernel) ⟨Nat.le_of_ble_eq_true rfl, Nat.le_of_ble_eq_true rfl⟩) ⟨fun a U g mk q => by obtain ⟨q0, q1⟩ := q; exact ⟨q0, q1⟩, fun U hU hW => ⟨rfl, trivial⟩⟩ rfl rfl hl.1 rfl (lv_room (Nat.le_of_ble_eq_true rfl)) dX9_place_15 ⟨Nat.le_of_ble_eq_true rfl, Nat.le_of_ble_eq_true rfl⟩) (fun r_2 hr_2 => ?_)
    try dsimp only at hr_2
    rcases bo_split hr_2 with ⟨rfl, q_15⟩ | ⟨rfl, q_15⟩
    · refine lv_if_ne (tgt := 24) hx hb dX9_place_18 (by decide) (fun _ => ?_) (fun h9 => absurd h9 (by decide))
      refine lv_aload_n hx hb dX9_place_24 rfl (lv_at hl 0 rfl) ?_
      refine va_get (D := (dC, dI)) (ci := 9) (v := .ref a4) (C := RX9) (T := TX9) (N := 22) hx hb hts in_X9_place_X9 hown hK hP 0 rfl rfl 4 (by decide) (hts (.fieldLink RX9 19 "MeetingsAboveModel" "isGone" "[Z") (by decide +kernel)) (fun _ h9 => h9) rfl dX9_place_25 ?_
      refine lv_iload_n hx hb dX9_place_28 rfl (lv_at hl 1 rfl) ?_
      refine va_zald hx hb hK hP 3 1 rfl rfl (vp_in_iff.mpr ⟨by omega, by omega⟩) dX9_place_29 ?_
      refine lv_topi (fun y_3 ey_3 => ?_)
      have uy_3 : y_3.toInt = (Go (p1 : Int32).toNatClampNeg).toInt := by rw [ey_3]
      refine lv_if_ne (tgt := 51) hx hb dX9_place_30 (by decide) (fun c_30 => ?_) (fun c_30 => ?_)
      · have t_30 := mt (fa_eq _ _).mpr c_30
        refine lv_ldc hx hb hown (hts (.constant RX9 85 (-100003)) (by decide +kernel)) dX9_place_51 ?_
        have hP9 := hP.sub (ws' := [(h0, .inr (9, [.int th, .ref a1, .ref a2, .ref a3, .ref a4, .ref a5, .int ne, .int wi, .int dn, .ref a6, .ref a7, .int nn, .ref a8, .int la, .ref a9, .ref a10, .long up, .long lw, .int wh, .long pu, .long pw, .ref a11])), (a1, .inl (cI, 16, .inl Fi)), (a2, .inl (cI, 16, .inl Ma)), (a4, .inl (cZ, 16, .inl Go)), (a5, .inl (cI, 576, .inl Sp))]) [0, 1, 2, 3, 4] rfl
        have hD9 := hD.sub (ws' := [(h0, .inr (9, [.int th, .ref a1, .ref a2, .ref a3, .ref a4, .ref a5, .int ne, .int wi, .int dn, .ref a6, .ref a7, .int nn, .ref a8, .int la, .ref a9, .ref a10, .long up, .long lw, .int wh, .long pu, .long pw, .ref a11])), (a1, .inl (cI, 16, .inl Fi)), (a2, .inl (cI, 16, .inl Ma)), (a4, .inl (cZ, 16, .inl Go)), (a5, .inl (cI, 576, .inl Sp))]) [0, 1, 2, 3, 4] (by decide) rfl
        have hK9 := hK.sub (tys' := [(cI, .int), (cZ, .boolean)]) [0, 1] rfl
        refine W.widen (k := 0) (n := 0) (by omega) (by omega) ?_
        exact W.iret (v := (-100003)) hx hb hr (fun t ht hW => ⟨⟨_, (), rfl, (by first | rw [if_neg (by omega)] | rw [if_pos (by omega), if_neg (by omega)] | rw [if_pos (by omega), if_pos (by omega), if_neg (by omega)] | rw [if_pos (by omega), if_pos (by omega), if_pos (by omega), if_neg (by omega)] | (rw [if_pos (by omega), if_pos (by omega), if_pos (by omega), if_pos (by omega), ezz_none, pk_us, ezz_none, ezz_none])), Ma, Sp, by rw [ht]; exact hP9, va_K.moved hW.alike hK9, hD9, (by first | exact Or.inr ⟨by omega, rfl, rfl⟩ | exact Or.inl ⟨by omega, by rw [ezz_none, ezz_none], zz_none.trans (by rw [uzz_none])⟩)⟩, hS.F ht⟩) hS.2.2 dX9_place_53
      · have t_30 := (fa_eq _ _).mp c_30
        refine lv_aload_n hx hb dX9_place_33 rfl (lv_at hl 0 rfl) ?_
        refine va_get (D := (dC, dI)) (ci := 9) (v := .ref a1) (C := RX9) (T := TX9) (N := 22) hx hb hts in_X9_place_X9 hown hK hP 0 rfl rfl 1 (by decide) (hts (.fieldLink RX9 7 "MeetingsAboveModel" "firsts" "[I") (by decide +kernel)) (fun _ h9 => h9) rfl dX9_place_34 ?_
        refine lv_iload_n hx hb dX9_place_37 rfl (lv_at hl 1 rfl) ?_
        refine va_iald hx hb hK hP 1 0 rfl rfl (vp_in_iff.mpr ⟨by omega, by omega⟩) dX9_place_38 ?_
        refine lv_topi (fun y_4 ey_4 => ?_)
        have uy_4 : y_4.toInt = (Fi (p1 : Int32).toNatClampNeg).toInt := by rw [ey_4]
        refine lv_aload_n hx hb dX9_place_39 rfl (lv_at hl 0 rfl) ?_
        refine va_get (D := (dC, dI)) (ci := 9) (v := .ref a2) (C := RX9) (T := TX9) (N := 22) hx hb hts in_X9_place_X9 hown hK hP 0 rfl rfl 2 (by decide) (hts (.fieldLink RX9 13 "MeetingsAboveModel" "many" "[I") (by decide +kernel)) (fun _ h9 => h9) rfl dX9_place_40 ?_
        refine lv_iload_n hx hb dX9_place_43 rfl (lv_at hl 1 rfl) ?_
        refine va_iald hx hb hK hP 2 0 rfl rfl (vp_in_iff.mpr ⟨by omega, by omega⟩) dX9_place_44 ?_
        refine lv_topi (fun y_5 ey_5 => ?_)
        have uy_5 : y_5.toInt = (Ma (p1 : Int32).toNatClampNeg).toInt := by rw [ey_5]
        refine lv_iadd hx hb dX9_place_45 ?_
        refine lv_topi (fun y_6 ey_6 => ?_)
        have ty_6 : y_6.toInt = y_4.toInt + y_5.toInt := by rw [ey_6]; have := fb_addI (x := y_4) (y := y_5) (by omega) (by omega); omega
        refine lv_bipush (v := 39) hx hb dX9_place_46 (by decide) ?_
        refine lv_icmp_le (tgt := 54) hx hb dX9_place_48 (by decide) (fun c_48 => ?_) (fun c_48 => ?_)
        · have t_48 := (fa_le _ _).mp c_48
          refine lv_aload_n hx hb dX9_place_54 rfl (lv_at hl 0 rfl) ?_
          refine va_get (D := (dC, dI)) (ci := 9) (v := .ref a2) (C := RX9) (T := TX9) (N := 22) hx hb hts in_X9_place_X9 hown hK hP 0 rfl rfl 2 (by decide) (hts (.fieldLink RX9 13 "MeetingsAboveModel" "many" "[I") (by decide +kernel)) (fun _ h9 => h9) rfl dX9_place_55 ?_
          refine lv_iload_n hx hb dX9_place_58 rfl (lv_at hl 1 rfl) ?_
          refine va_iald hx hb hK hP 2 0 rfl rfl (vp_in_iff.mpr ⟨by omega, by omega⟩) dX9_place_59 ?_
          refine lv_topi (fun y_7 ey_7 => ?_)
          have uy_7 : y_7.toInt = (Ma (p1 : Int32).toNatClampNeg).toInt := by rw [ey_7]
          refine lv_bipush (v := 12) hx hb dX9_place_60 (by decide) ?_
          refine lv_icmp_ne (tgt := 68) hx hb dX9_place_62 (by decide) (fun c_62 => ?_) (fun c_62 => ?_)
          · have t_62 := mt (fa_eq _ _).mpr c_62
            refine lv_aload_n hx hb dX9_place_68 rfl (lv_at hl 0 rfl) ?_
            refine lv_iload_n hx hb dX9_place_69 rfl (lv_at hl 1 rfl) ?_
            refine lv_aload_n hx hb dX9_place_70 rfl (lv_at hl 0 rfl) ?_
            refine va_get (D := (dC, dI)) (ci := 9) (v := .ref a2) (C := RX9) (T := TX9) (N := 22) hx hb hts in_X9_place_X9 hown hK hP 0 rfl rfl 2 (by decide) (hts (.fieldLink RX9 13 "MeetingsAboveModel" "many" "[I") (by decide +kernel)) (fun _ h9 => h9) rfl dX9_place_71 ?_
            refine lv_iload_n hx hb dX9_place_74 rfl (lv_at hl 1 rfl) ?_
            refine va_iald hx hb hK hP 2 0 rfl rfl (vp_in_iff.mpr ⟨by omega, by omega⟩) dX9_place_75 ?_
            refine lv_topi (fun y_8 ey_8 => ?_)
            have uy_8 : y_8.toInt = (Ma (p1 : Int32).toNatClampNeg).toInt := by rw [ey_8]
            refine lv_iload_n hx hb dX9_place_76 rfl (lv_at hl 2 rfl) ?_
            refine lv_iload_n hx hb dX9_place_77 rfl (lv_at hl 3 rfl) ?_
            refine lv_iload hx hb dX9_place_78 (lv_at hl 4 rfl) ?_
            have hPc := hP.sub (ws' := [(h0, .inr (9, [.int th, .ref a1, .ref a2, .ref a3, .ref a4, .ref a5, .int ne, .int wi, .int dn, .ref a6, .ref a7, .int nn, .ref a8, .int la, .ref a9, .ref a10, .long up, .long lw, .int wh, .long pu, .long pw, .ref a11])), (a5, .inl (cI, 576, .inl Sp))]) [0, 4] rfl
            have hKc := hK.sub (tys' := [(cI, .int)]) [0] rfl
            have hDc := hD.sub (ws' := [(h0, .inr (9, [.int th, .ref a1, .ref a2, .ref a3, .ref a4, .ref a5, .int ne, .int wi, .int dn, .ref a6, .ref a7, .int nn, .ref a8, .int la, .ref a9, .ref a10, .long up, .long lw, .int wh, .long pu, .long pw, .ref a11])), (a5, .inl (cI, 576, .inl Sp))]) [0, 4] (by decide) rfl
            have hFc := va_free (wc := [(h0, .inr (9, [.int th, .ref a1, .ref a2, .ref a3, .ref a4, .ref a5, .int ne, .int wi, .int dn, .ref a6, .ref a7, .int nn, .ref a8, .int la, .ref a9, .ref a10, .long up, .long lw, .int wh, .long pu, .long pw, .ref a11])), (a5, .inl (cI, 576, .inl Sp))]) hD hS hA [0, 4] rfl
            refine va_callv (va_runV (As := [.int p1, .int y_8, .int p2, .int p3, .int p4]) (rest := []) ⟨hx, hb, hml, hown, hts⟩ (c_X9_setSpot l dC dI h0 a1 a2 a3 a4 a5 a6 a7 a8 a9 a10 a11 th ne wi dn nn la wh up lw pu pw cI Sp p1 y_8 p2 p3 p4 s.heap.size (by first | omega | assumption) (by first | omega | assumption) (by first | omega | assumption) (by first | omega | assumption)) (cwV 5 hts g_X9_place__X9_setSpot_76 rfl rfl rfl (by decide +kernel) ⟨Nat.le_of_ble_eq_true rfl, Nat.le_of_ble_eq_true rfl⟩) ⟨fun a U g mk q => by obtain ⟨q0, q1, qP, qK, qD⟩ := q; exact ⟨q0, q1, qP, va_K.moved (u := U) (U := U.calling g mk a) (Vm.Alike.refl U.vm) qK, qD⟩, va_recv hKc hPc (ci := 9) (q0 := 0) rfl rfl, fun U hU hW => ⟨rfl, by rw [hU], by rw [hU]; exact hPc, va_K.moved hW.alike hKc, hDc.weaken (fun _ _ _ _ => trivial)⟩⟩ rfl rfl hl.1 rfl (lv_room (Nat.le_of_ble_eq_true rfl)) dX9_place_80 ⟨Nat.le_of_ble_eq_true rfl, Nat.le_of_ble_eq_true rfl⟩) hS (fun q _ h => hFc q h) hFc (fun u_9 t H1 locs ht hvm hw_10 hB hz1 hk1 hS => ?_)
            obtain ⟨Sp9_11, hP1, hK1, hD1, hS9_12⟩ := hB
            rw [ht] at hP1
            have hK1 := va_K.moved hvm.symm hK1
            obtain ⟨hP, hD⟩ := va_join (wr := [(a1, .inl (cI, 16, .inl Fi)), (a2, .inl (cI, 16, .inl Ma)), (a4, .inl (cZ, 16, .inl Go))]) (w1 := [(h0, .inr (9, [.int th, .ref a1, .ref a2, .ref a3, .ref a4, .ref a5, .int ne, .int wi, .int dn, .ref a6, .ref a7, .int nn, .ref a8, .int la, .ref a9, .ref a10, .long up, .long lw, .int wh, .long pu, .long pw, .ref a11])), (a5, .inl (cI, 576, .inl Sp9_11))]) hP hD [0, 4] [1, 2, 3] rfl rfl (by decide) (by decide) hk1 hFc hP1 hD1
            have hK := (hK.sub (tys' := [(cI, .int), (cZ, .boolean)]) [0, 1] rfl).app hK1
            generalize H1 = H at hP hS ⊢
            have hP : va_P (dC, dI) vwCl [(a1, .inl (cI, 16, .inl Fi)), (a2, .inl (cI, 16, .inl Ma)), (a4, .inl (cZ, 16, .inl Go)), (h0, .inr (9, [.int th, .ref a1, .ref a2, .ref a3, .ref a4, .ref a5, .int ne, .int wi, .int dn, .ref a6, .ref a7, .int nn, .ref a8, .int la, .ref a9, .ref a10, .long up, .long lw, .int wh, .long pu, .long pw, .ref a11])), (a5, .inl (cI, 576, .inl Sp9_11))] H := hP
            have hD : va_D A [(a1, .inl (cI, 16, .inl Fi)), (a2, .inl (cI, 16, .inl Ma)), (a4, .inl (cZ, 16, .inl Go)), (h0, .inr (9, [.int th, .ref a1, .ref a2, .ref a3, .ref a4, .ref a5, .int ne, .int wi, .int dn, .ref a6, .ref a7, .int nn, .ref a8, .int la, .ref a9, .ref a10, .long up, .long lw, .int wh, .long pu, .long pw, .ref a11])), (a5, .inl (cI, 576, .inl Sp9_11))] := hD
            have hK : va_K (dC, dI) vwCl [(cI, .int), (cZ, .boolean), (cI, .int)] s := hK
            refine W.widen (k := 0) (n := 0) (by omega) (by omega) ?_
            refine lv_aload_n hx hb dX9_place_83 rfl (lv_at hl 0 rfl) ?_
            refine va_get (D := (dC, dI)) (ci := 9) (v := .ref a2) (C := RX9) (T := TX9) (N := 22) hx hb hts in_X9_place_X9 hown hK hP 3 rfl rfl 2 (by decide) (hts (.fieldLink RX9 13 "MeetingsAboveModel" "many" "[I") (by decide +kernel)) (fun _ h9 => h9) rfl dX9_place_84 ?_
            refine lv_iload_n hx hb dX9_place_87 rfl (lv_at hl 1 rfl) ?_
            refine lv_dup2_11 hx hb dX9_place_88 rfl rfl ?_
            refine va_iald hx hb hK hP 1 0 rfl rfl (vp_in_iff.mpr ⟨by omega, by omega⟩) dX9_place_89 ?_
            refine lv_topi (fun y_13 ey_13 => ?_)
            have uy_13 : y_13.toInt = (Ma (p1 : Int32).toNatClampNeg).toInt := by rw [ey_13]
            refine lv_iconst (v := 1) hx hb dX9_place_90 (by decide) ?_
            refine lv_iadd hx hb dX9_place_91 ?_
            refine lv_topi (fun y_14 ey_14 => ?_)
            have ty_14 : y_14.toInt = y_13.toInt + 1 := by rw [ey_14]; have := fb_addI (x := y_13) (y := 1) (by omega) (by omega); omega
            refine va_iast hx hb hK hP hD hS 1 0 rfl rfl (vp_in_iff.mpr ⟨by omega, by omega⟩) dX9_place_92 (fun H locs hP hD hS => ?_)
            have hP : va_P (dC, dI) vwCl [(a1, .inl (cI, 16, .inl Fi)), (a2, .inl (cI, 16, .inl (upd Ma (p1 : Int32).toNatClampNeg y_14))), (a4, .inl (cZ, 16, .inl Go)), (h0, .inr (9, [.int th, .ref a1, .ref a2, .ref a3, .ref a4, .ref a5, .int ne, .int wi, .int dn, .ref a6, .ref a7, .int nn, .ref a8, .int la, .ref a9, .ref a10, .long up, .long lw, .int wh, .long pu, .long pw, .ref a11])), (a5, .inl (cI, 576, .inl Sp9_11))] H := hP
            have hD : va_D A [(a1, .inl (cI, 16, .inl Fi)), (a2, .inl (cI, 16, .inl (upd Ma (p1 : Int32).toNatClampNeg y_14))), (a4, .inl (cZ, 16, .inl Go)), (h0, .inr (9, [.int th, .ref a1, .ref a2, .ref a3, .ref a4, .ref a5, .int ne, .int wi, .int dn, .ref a6, .ref a7, .int nn, .ref a8, .int la, .ref a9, .ref a10, .long up, .long lw, .int wh, .long pu, .long pw, .ref a11])), (a5, .inl (cI, 576, .inl Sp9_11))] := hD
            refine lv_aload_n hx hb dX9_place_93 rfl (lv_at hl 0 rfl) ?_
            refine va_get (D := (dC, dI)) (ci := 9) (v := .ref a2) (C := RX9) (T := TX9) (N := 22) hx hb hts in_X9_place_X9 hown hK hP 3 rfl rfl 2 (by decide) (hts (.fieldLink RX9 13 "MeetingsAboveModel" "many" "[I") (by decide +kernel)) (fun _ h9 => h9) rfl dX9_place_94 ?_
            refine lv_iload_n hx hb dX9_place_97 rfl (lv_at hl 1 rfl) ?_
            refine va_iald hx hb hK hP 1 0 rfl rfl (vp_in_iff.mpr ⟨by omega, by omega⟩) dX9_place_98 ?_
            refine lv_topi (fun y_15 ey_15 => ?_)
            have hP9 := hP.sub (ws' := [(h0, .inr (9, [.int th, .ref a1, .ref a2, .ref a3, .ref a4, .ref a5, .int ne, .int wi, .int dn, .ref a6, .ref a7, .int nn, .ref a8, .int la, .ref a9, .ref a10, .long up, .long lw, .int wh, .long pu, .long pw, .ref a11])), (a1, .inl (cI, 16, .inl Fi)), (a2, .inl (cI, 16, .inl (upd Ma (p1 : Int32).toNatClampNeg y_14))), (a4, .inl (cZ, 16, .inl Go)), (a5, .inl (cI, 576, .inl Sp9_11))]) [3, 0, 1, 2, 4] rfl
            have hD9 := hD.sub (ws' := [(h0, .inr (9, [.int th, .ref a1, .ref a2, .ref a3, .ref a4, .ref a5, .int ne, .int wi, .int dn, .ref a6, .ref a7, .int nn, .ref a8, .int la, .ref a9, .ref a10, .long up, .long lw, .int wh, .long pu, .long pw, .ref a11])), (a1, .inl (cI, 16, .inl Fi)), (a2, .inl (cI, 16, .inl (upd Ma (p1 : Int32).toNatClampNeg y_14))), (a4, .inl (cZ, 16, .inl Go)), (a5, .inl (cI, 576, .inl Sp9_11))]) [3, 0, 1, 2, 4] (by decide) rfl
            have hK9 := hK.sub (tys' := [(cI, .int), (cZ, .boolean)]) [0, 1] rfl
            refine W.widen (k := 0) (n := 0) (by omega) (by omega) ?_
            exact W.iret (v := y_15) hx hb hr (fun t ht hW => ⟨⟨_, (), rfl, (by first | rw [if_neg (by omega)] | rw [if_pos (by omega), if_neg (by omega)] | rw [if_pos (by omega), if_pos (by omega), if_neg (by omega)] | rw [if_pos (by omega), if_pos (by omega), if_pos (by omega), if_neg (by omega)] | (rw [if_pos (by omega), if_pos (by omega), if_pos (by omega), if_pos (by omega), ey_15, pk_us, ey_14, ey_13])), (upd Ma (p1 : Int32).toNatClampNeg y_14), Sp9_11, by rw [ht]; exact hP9, va_K.moved hW.alike hK9, hD9, (by first | exact Or.inr ⟨by omega, rfl, rfl⟩ | exact Or.inl ⟨by omega, by rw [ey_14, ey_13], hS9_12.trans (by rw [uy_8])⟩)⟩, hS.F ht⟩) hS.2.2 dX9_place_99
          · have t_62 := (fa_eq _ _).mp c_62
            refine lv_ldc hx hb hown (hts (.constant RX9 71 (-100004)) (by decide +kernel)) dX9_place_65 ?_
            have hP9 := hP.sub (ws' := [(h0, .inr (9, [.int th, .ref a1, .ref a2, .ref a3, .ref a4, .ref a5, .int ne, .int wi, .int dn, .ref a6, .ref a7, .int nn, .ref a8, .int la, .ref a9, .ref a10, .long up, .long lw, .int wh, .long pu, .long pw, .ref a11])), (a1, .inl (cI, 16, .inl Fi)), (a2, .inl (cI, 16, .inl Ma)), (a4, .inl (cZ, 16, .inl Go)), (a5, .inl (cI, 576, .inl Sp))]) [0, 1, 2, 3, 4] rfl
            have hD9 := hD.sub (ws' := [(h0, .inr (9, [.int th, .ref a1, .ref a2, .ref a3, .ref a4, .ref a5, .int ne, .int wi, .int dn, .ref a6, .ref a7, .int nn, .ref a8, .int la, .ref a9, .ref a10, .long up, .long lw, .int wh, .long pu, .long pw, .ref a11])), (a1, .inl (cI, 16, .inl Fi)), (a2, .inl (cI, 16, .inl Ma)), (a4, .inl (cZ, 16, .inl Go)), (a5, .inl (cI, 576, .inl Sp))]) [0, 1, 2, 3, 4] (by decide) rfl
            have hK9 := hK.sub (tys' := [(cI, .int), (cZ, .boolean)]) [0, 1] rfl
            refine W.widen (k := 0) (n := 0) (by omega) (by omega) ?_
            exact W.iret (v := (-100004)) hx hb hr (fun t ht hW => ⟨⟨_, (), rfl, (by first | rw [if_neg (by omega)] | rw [if_pos (by omega), if_neg (by omega)] | rw [if_pos (by omega), if_pos (by omega), if_neg (by omega)] | rw [if_pos (by omega), if_pos (by omega), if_pos (by omega), if_neg (by omega)] | (rw [if_pos (by omega), if_pos (by omega), if_pos (by omega), if_pos (by omega), ey_15, pk_us, ey_14, ey_13])), Ma, Sp, by rw [ht]; exact hP9, va_K.moved hW.alike hK9, hD9, (by first | exact Or.inr ⟨by omega, rfl, rfl⟩ | exact Or.inl ⟨by omega, by rw [ey_14, ey_13], hS9_12.trans (by rw [uy_8])⟩)⟩, hS.F ht⟩) hS.2.2 dX9_place_67
        · have t_48 := mt (fa_le _ _).mpr c_48
          refine lv_ldc hx hb hown (hts (.constant RX9 85 (-100003)) (by decide +kernel)) dX9_place_51 ?_
          have hP9 := hP.sub (ws' := [(h0, .inr (9, [.int th, .ref a1, .ref a2, .ref a3, .ref a4, .ref a5, .int ne, .int wi, .int dn, .ref a6, .ref a7, .int nn, .ref a8, .int la, .ref a9, .ref a10, .long up, .long lw, .int wh, .long pu, .long pw, .ref a11])), (a1, .inl (cI, 16, .inl Fi)), (a2, .inl (cI, 16, .inl Ma)), (a4, .inl (cZ, 16, .inl Go)), (a5, .inl (cI, 576, .inl Sp))]) [0, 1, 2, 3, 4] rfl
          have hD9 := hD.sub (ws' := [(h0, .inr (9, [.int th, .ref a1, .ref a2, .ref a3, .ref a4, .ref a5, .int ne, .int wi, .int dn, .ref a6, .ref a7, .int nn, .ref a8, .int la, .ref a9, .ref a10, .long up, .long lw, .int wh, .long pu, .long pw, .ref a11])), (a1, .inl (cI, 16, .inl Fi)), (a2, .inl (cI, 16, .inl Ma)), (a4, .inl (cZ, 16, .inl Go)), (a5, .inl (cI, 576, .inl Sp))]) [0, 1, 2, 3, 4] (by decide) rfl
          have hK9 := hK.sub (tys' := [(cI, .int), (cZ, .boolean)]) [0, 1] rfl
          refine W.widen (k := 0) (n := 0) (by omega) (by omega) ?_
          exact W.iret (v := (-100003)) hx hb hr (fun t ht hW => ⟨⟨_, (), rfl, (by first | rw [if_neg (by omega)] | rw [if_pos (by omega), if_neg (by omega)] | rw [if_pos (by omega), if_pos (by omega), if_neg (by omega)] | rw [if_pos (by omega), if_pos (by omega), if_pos (by omega), if_neg (by omega)] | (rw [if_pos (by omega), if_pos (by omega), if_pos (by omega), if_pos (by omega), ey_15, pk_us, ey_14, ey_13])), Ma, Sp, by rw [ht]; exact hP9, va_K.moved hW.alike hK9, hD9, (by first | exact Or.inr ⟨by omega, rfl, rfl⟩ | exact Or.inl ⟨by omega, by rw [ey_14, ey_13], hS9_12.trans (by rw [uy_8])⟩)⟩, hS.F ht⟩) hS.2.2 dX9_place_53
    · refine lv_if_ne (tgt := 24) hx hb dX9_place_18 (by decide) (fun h9 => absurd h9 (by decide)) (fun _ => ?_)
      refine lv_ldc hx hb hown (hts (.constant RX9 70 (-100002)) (by decide +kernel)) dX9_place_21 ?_
      have hP9 := hP.sub (ws' := [(h0, .inr (9, [.int th, .ref a1, .ref a2, .ref a3, .ref a4, .ref a5, .int ne, .int wi, .int dn, .ref a6, .ref a7, .int nn, .ref a8, .int la, .ref a9, .ref a10, .long up, .long lw, .int wh, .long pu, .long pw, .ref a11])), (a1, .inl (cI, 16, .inl Fi)), (a2, .inl (cI, 16, .inl Ma)), (a4, .inl (cZ, 16, .inl Go)), (a5, .inl (cI, 576, .inl Sp))]) [0, 1, 2, 3, 4] rfl
      have hD9 := hD.sub (ws' := [(h0, .inr (9, [.int th, .ref a1, .ref a2, .ref a3, .ref a4, .ref a5, .int ne, .int wi, .int dn, .ref a6, .ref a7, .int nn, .ref a8, .int la, .ref a9, .ref a10, .long up, .long lw, .int wh, .long pu, .long pw, .ref a11])), (a1, .inl (cI, 16, .inl Fi)), (a2, .inl (cI, 16, .inl Ma)), (a4, .inl (cZ, 16, .inl Go)), (a5, .inl (cI, 576, .inl Sp))]) [0, 1, 2, 3, 4] (by decide) rfl
      have hK9 := hK.sub (tys' := [(cI, .int), (cZ, .boolean)]) [0, 1] rfl
      refine W.widen (k := 0) (n := 0) (by omega) (by omega) ?_
      exact W.iret (v := (-100002)) hx hb hr (fun t ht hW => ⟨⟨_, (), rfl, (by first | rw [if_neg (by omega)] | rw [if_pos (by omega), if_neg (by omega)] | rw [if_pos (by omega), if_pos (by omega), if_neg (by omega)] | rw [if_pos (by omega), if_pos (by omega), if_pos (by omega), if_neg (by omega)] | (rw [if_pos (by omega), if_pos (by omega), if_pos (by omega), if_pos (by omega), ey_15, pk_us, ey_14, ey_13])), Ma, Sp, by rw [ht]; exact hP9, va_K.moved hW.alike hK9, hD9, (by first | exact Or.inr ⟨by omega, rfl, rfl⟩ | exact Or.inl ⟨by omega, by rw [ey_14, ey_13], hS9_12.trans (by rw [uy_8])⟩)⟩, hS.F ht⟩) hS.2.2 dX9_place_23
  · refine lv_if_ne (tgt := 11) hx hb dX9_place_5 (by decide) (fun h9 => absurd h9 (by decide)) (fun _ => ?_)
    refine lv_ldc hx hb hown (hts (.constant RX9 84 (-100001)) (by decide +kernel)) dX9_place_8 ?_
    have hP9 := hP.sub (ws' := [(h0, .inr (9, [.int th, .ref a1, .ref a2, .ref a3, .ref a4, .ref a5, .int ne, .int wi, .int dn, .ref a6, .ref a7, .int nn, .ref a8, .int la, .ref a9, .ref a10, .long up, .long lw, .int wh, .long pu, .long pw, .ref a11])), (a1, .inl (cI, 16, .inl Fi)), (a2, .inl (cI, 16, .inl Ma)), (a4, .inl (cZ, 16, .inl Go)), (a5, .inl (cI, 576, .inl Sp))]) [0, 1, 2, 3, 4] rfl
    have hD9 := hD.sub (ws' := [(h0, .inr (9, [.int th, .ref a1, .ref a2, .ref a3, .ref a4, .ref a5, .int ne, .int wi, .int dn, .ref a6, .ref a7, .int nn, .ref a8, .int la, .ref a9, .ref a10, .long up, .long lw, .int wh, .long pu, .long pw, .ref a11])), (a1, .inl (cI, 16, .inl Fi)), (a2, .inl (cI, 16, .inl Ma)), (a4, .inl (cZ, 16, .inl Go)), (a5, .inl (cI, 576, .inl Sp))]) [0, 1, 2, 3, 4] (by decide) rfl
    have hK9 := hK.sub (tys' := [(cI, .int), (cZ, .boolean)]) [0, 1] rfl
    refine W.widen (k := 0) (n := 0) (by omega) (by omega) ?_
    exact W.iret (v := (-100001)) hx hb hr (fun t ht hW => ⟨⟨_, (), rfl, (by first | rw [if_neg (by omega)] | rw [if_pos (by omega), if_neg (by omega)] | rw [if_pos (by omega), if_pos (by omega), if_neg (by omega)] | rw [if_pos (by omega), if_pos (by omega), if_pos (by omega), if_neg (by omega)] | (rw [if_pos (by omega), if_pos (by omega), if_pos (by omega), if_pos (by omega), ey_15, pk_us, ey_14, ey_13])), Ma, Sp, by rw [ht]; exact hP9, va_K.moved hW.alike hK9, hD9, (by first | exact Or.inr ⟨by omega, rfl, rfl⟩ | exact Or.inl ⟨by omega, by rw [ey_14, ey_13], hS9_12.trans (by rw [uy_8])⟩)⟩, hS.F ht⟩) hS.2.2 dX9_place_10
def wk_X9_gone : List Cond := .code yX9_gone cX9_gone 2 (some .int) :: (([.fieldLink RX9 19 "MeetingsAboveModel" "isGone" "[Z", .constant RX9 85 (-100003), .constant RX9 84 (-100001)] : List Cond) ++ (wsX90 ++ ((wsV RX9 80 RX9 yX9_isThing wk_X9_isThing) ++ ([]))))
theorem in_X9_gone_X9 : ∀ w ∈ wsX90, w ∈ wk_X9_gone := fun _ h => List.mem_cons_of_mem _ (List.mem_append_right _ (List.mem_append_left _ h))
theorem gw_X9_gone : AG wk_X9_gone := AG_ca (AG_l (by decide +kernel)) (AG_app ag_X9 (AG_app (AG_V gw_X9_isThing) (AG_nil)))
theorem g_X9_gone__X9_isThing_80 : GoodIn wk_X9_gone (wsV RX9 80 RX9 yX9_isThing wk_X9_isThing) := goodIn_m (fun _ h => List.mem_cons_of_mem _ (List.mem_append_right _ (List.mem_append_right _ (List.mem_append_left _ h)))) (AG_V gw_X9_isThing)
set_option maxHeartbeats 4000000 in
set_option maxRecDepth 100000 in
theorem c_X9_gone (l : Launch) (dC : Nat → ClassId) (dI : Nat → Nat → Nat) (h0 : Nat) (a1 : Nat) (a2 : Nat) (a3 : Nat) (a4 : Nat) (a5 : Nat) (a6 : Nat) (a7 : Nat) (a8 : Nat) (a9 : Nat) (a10 : Nat) (a11 : Nat) (th : Int32) (ne : Int32) (wi : Int32) (dn : Int32) (nn : Int32) (la : Int32) (wh : Int32) (up : Int64) (lw : Int64) (pu : Int64) (pw : Int64) (cZ : ClassId) (Go : Nat → Int32) (p1 : Int32) (sz : Nat) (hT0 : 0 ≤ th.toInt) (hT1 : th.toInt ≤ 16) : Met l yX9_gone wk_X9_gone ({ frames := 2, cells := 0, slots := 0, locals := 46 }) (va_Pc [.ref h0, .int p1] (fun U => U.heap.size = sz ∧ va_P (dC, dI) vwCl [(h0, .inr (9, [.int th, .ref a1, .ref a2, .ref a3, .ref a4, .ref a5, .int ne, .int wi, .int dn, .ref a6, .ref a7, .int nn, .ref a8, .int la, .ref a9, .ref a10, .long up, .long lw, .int wh, .long pu, .long pw, .ref a11])), (a4, .inl (cZ, 16, .inl Go))] U.heap ∧ va_K (dC, dI) vwCl [(cZ, .boolean)] U ∧ va_D (fun _ => True) [(h0, .inr (9, [.int th, .ref a1, .ref a2, .ref a3, .ref a4, .ref a5, .int ne, .int wi, .int dn, .ref a6, .ref a7, .int nn, .ref a8, .int la, .ref a9, .ref a10, .long up, .long lw, .int wh, .long pu, .long pw, .ref a11])), (a4, .inl (cZ, 16, .inl Go))])) (va_Qi (fun (r : Int32) (_ : Unit) => r = if 0 ≤ p1.toInt ∧ p1.toInt < th.toInt then (if (Go p1.toNatClampNeg).toInt = 0 then 1 else -100003) else -100001) (fun (_ : Unit) (t : State) => ∃ (Go9 : Nat → Int32), va_P (dC, dI) vwCl [(h0, .inr (9, [.int th, .ref a1, .ref a2, .ref a3, .ref a4, .ref a5, .int ne, .int wi, .int dn, .ref a6, .ref a7, .int nn, .ref a8, .int la, .ref a9, .ref a10, .long up, .long lw, .int wh, .long pu, .long pw, .ref a11])), (a4, .inl (cZ, 16, .inl Go9))] t.heap ∧ va_K (dC, dI) vwCl [(cZ, .boolean)] t ∧ va_D (va_A [(h0, .inr (9, [.int th, .ref a1, .ref a2, .ref a3, .ref a4, .ref a5, .int ne, .int wi, .int dn, .ref a6, .ref a7, .int nn, .ref a8, .int la, .ref a9, .ref a10, .long up, .long lw, .int wh, .long pu, .long pw, .ref a11])), (a4, .inl (cZ, 16, .inl Go))] sz) [(h0, .inr (9, [.int th, .ref a1, .ref a2, .ref a3, .ref a4, .ref a5, .int ne, .int wi, .int dn, .ref a6, .ref a7, .int nn, .ref a8, .int la, .ref a9, .ref a10, .long up, .long lw, .int wh, .long pu, .long pw, .ref a11])), (a4, .inl (cZ, 16, .inl Go9))] ∧ ((((0 ≤ p1.toInt ∧ p1.toInt < th.toInt) ∧ (Go p1.toNatClampNeg).toInt = 0) ∧ Go9 = upd Go p1.toNatClampNeg (vp_nar .boolean 1)) ∨ (¬ ((0 ≤ p1.toInt ∧ p1.toInt < th.toInt) ∧ (Go p1.toNatClampNeg).toInt = 0) ∧ Go9 = Go))) (va_A [(h0, .inr (9, [.int th, .ref a1, .ref a2, .ref a3, .ref a4, .ref a5, .int ne, .int wi, .int dn, .ref a6, .ref a7, .int nn, .ref a8, .int la, .ref a9, .ref a10, .long up, .long lw, .int wh, .long pu, .long pw, .ref a11])), (a4, .inl (cZ, 16, .inl Go))] sz)) 0 0 (va_A [(h0, .inr (9, [.int th, .ref a1, .ref a2, .ref a3, .ref a4, .ref a5, .int ne, .int wi, .int dn, .ref a6, .ref a7, .int nn, .ref a8, .int la, .ref a9, .ref a10, .long up, .long lw, .int wh, .long pu, .long pw, .ref a11])), (a4, .inl (cZ, 16, .inl Go))] sz) := by
  refine Met.ofW (cc := cX9_gone) (maxL := 2) (ret := (some .int)) (by decide) rfl ?_
  intro p e s m args below meth c s₁ B hml hv
  obtain ⟨rfl, hsz, hP, hK, hD0⟩ := hv
  have hx := B.exec
  have hb := B.bytes
  have hr := B.returns
  have hts := atoms_spec (ws := wk_X9_gone) B.pre
  have hown : s.vm.findClass RX9 = some m.cls := findClass_of_methodNamed B.named
  have hlocks := B.notSynchronized
  subst hsz
  have hD := hD0.self (sz := s.heap.size)
  generalize hAe : va_A [(h0, .inr (9, [.int th, .ref a1, .ref a2, .ref a3, .ref a4, .ref a5, .int ne, .int wi, .int dn, .ref a6, .ref a7, .int nn, .ref a8, .int la, .ref a9, .ref a10, .long up, .long lw, .int wh, .long pu, .long pw, .ref a11])), (a4, .inl (cZ, 16, .inl Go))] s.heap.size = A at hD ⊢
  have hA : ∀ q : Nat, s.heap.size ≤ q → A q := fun q h => by rw [← hAe]; exact Or.inr h
  have hS : va_S A s.heap s.heap [] := va_S.rf
  have hP : va_P (dC, dI) vwCl [(h0, .inr (9, [.int th, .ref a1, .ref a2, .ref a3, .ref a4, .ref a5, .int ne, .int wi, .int dn, .ref a6, .ref a7, .int nn, .ref a8, .int la, .ref a9, .ref a10, .long up, .long lw, .int wh, .long pu, .long pw, .ref a11])), (a4, .inl (cZ, 16, .inl Go))] s.heap := hP
  have hl := lv_entry ([.ref h0, .int p1]) (n := 2) (Nat.le_of_ble_eq_true rfl)
  rw [lg_entry_eq]
  generalize (lg_sl ([.ref h0, .int p1]) ++ List.replicate (2 - (lg_sl ([.ref h0, .int p1])).length) Slot.unset).toArray = ls at hl ⊢
  have hl : lv_has ls 2 [(0, .ref h0), (1, .int p1)] := hl
  have kl_m100003 : (-100003 : Int32).toInt = -100003 := by decide
  have kl_m100001 : (-100001 : Int32).toInt = -100001 := by decide
  have kl_0 : (0 : Int32).toInt = 0 := by decide
  have kl_1 : (1 : Int32).toInt = 1 := by decide
  refine lv_aload_n hx hb dX9_gone_0 rfl (lv_at hl 0 rfl) ?_
  refine lv_iload_n hx hb dX9_gone_1 rfl (lv_at hl 1 rfl) ?_
  have hPc := hP.sub (ws' := [(h0, .inr (9, [.int th, .ref a1, .ref a2, .ref a3, .ref a4, .ref a5, .int ne, .int wi, .int dn, .ref a6, .ref a7, .int nn, .ref a8, .int la, .ref a9, .ref a10, .long up, .long lw, .int wh, .long pu, .long pw, .ref a11]))]) [0] rfl
  have hKc := hK.sub (tys' := []) [] rfl
  refine vp_callSi (W.runV (As := [.int p1]) (rest := []) ⟨hx, hb, hml, hown, hts⟩ (c_X9_isThing l dC dI h0 a1 a2 a3 a4 a5 a6 a7 a8 a9 a10 a11 th ne wi dn nn la wh up lw pu pw p1 (by first | omega | assumption) (by first | omega | assumption)) (cwV 1 hts g_X9_gone__X9_isThing_80 rfl rfl rfl (by decide +kernel) ⟨Nat.le_of_ble_eq_true rfl, Nat.le_of_ble_eq_true rfl⟩) ⟨fun a U g mk q => by obtain ⟨q0, qP, qK⟩ := q; exact ⟨q0, qP, va_K.moved (u := U) (U := U.calling g mk a) (Vm.Alike.refl U.vm) qK⟩, va_recv hKc hPc (ci := 9) (q0 := 0) rfl rfl, fun U hU hW => ⟨rfl, by rw [hU]; exact hPc, va_K.moved hW.alike hKc⟩⟩ rfl rfl hl.1 rfl (lv_room (Nat.le_of_ble_eq_true rfl)) dX9_gone_2 ⟨Nat.le_of_ble_eq_true rfl, Nat.le_of_ble_eq_true rfl⟩) (fun r_1 hr_1 => ?_)
  try dsimp only at hr_1
  rcases bo_split hr_1 with ⟨rfl, q_2⟩ | ⟨rfl, q_2⟩
  · refine lv_if_ne (tgt := 11) hx hb dX9_gone_5 (by decide) (fun _ => ?_) (fun h9 => absurd h9 (by decide))
    refine lv_aload_n hx hb dX9_gone_11 rfl (lv_at hl 0 rfl) ?_
    refine va_get (D := (dC, dI)) (ci := 9) (v := .ref a4) (C := RX9) (T := TX9) (N := 22) hx hb hts in_X9_gone_X9 hown hK hP 0 rfl rfl 4 (by decide) (hts (.fieldLink RX9 19 "MeetingsAboveModel" "isGone" "[Z") (by decide +kernel)) (fun _ h9 => h9) rfl dX9_gone_12 ?_
    refine lv_iload_n hx hb dX9_gone_15 rfl (lv_at hl 1 rfl) ?_
    refine va_zald hx hb hK hP 1 0 rfl rfl (vp_in_iff.mpr ⟨by omega, by omega⟩) dX9_gone_16 ?_
    refine lv_topi (fun y_2 ey_2 => ?_)
    have uy_2 : y_2.toInt = (Go (p1 : Int32).toNatClampNeg).toInt := by rw [ey_2]
    refine lv_if_eq (tgt := 23) hx hb dX9_gone_17 (by decide) (fun c_17 => ?_) (fun c_17 => ?_)
    · have t_17 := (fa_eq _ _).mp c_17
      refine lv_aload_n hx hb dX9_gone_23 rfl (lv_at hl 0 rfl) ?_
      refine va_get (D := (dC, dI)) (ci := 9) (v := .ref a4) (C := RX9) (T := TX9) (N := 22) hx hb hts in_X9_gone_X9 hown hK hP 0 rfl rfl 4 (by decide) (hts (.fieldLink RX9 19 "MeetingsAboveModel" "isGone" "[Z") (by decide +kernel)) (fun _ h9 => h9) rfl dX9_gone_24 ?_
      refine lv_iload_n hx hb dX9_gone_27 rfl (lv_at hl 1 rfl) ?_
      refine lv_iconst (v := 1) hx hb dX9_gone_28 (by decide) ?_
      refine va_zast hx hb hK hP hD hS 1 0 rfl rfl (vp_in_iff.mpr ⟨by omega, by omega⟩) dX9_gone_29 (fun H locs hP hD hS => ?_)
      have hP : va_P (dC, dI) vwCl [(h0, .inr (9, [.int th, .ref a1, .ref a2, .ref a3, .ref a4, .ref a5, .int ne, .int wi, .int dn, .ref a6, .ref a7, .int nn, .ref a8, .int la, .ref a9, .ref a10, .long up, .long lw, .int wh, .long pu, .long pw, .ref a11])), (a4, .inl (cZ, 16, .inl (upd Go (p1 : Int32).toNatClampNeg (vp_nar .boolean 1))))] H := hP
      have hD : va_D A [(h0, .inr (9, [.int th, .ref a1, .ref a2, .ref a3, .ref a4, .ref a5, .int ne, .int wi, .int dn, .ref a6, .ref a7, .int nn, .ref a8, .int la, .ref a9, .ref a10, .long up, .long lw, .int wh, .long pu, .long pw, .ref a11])), (a4, .inl (cZ, 16, .inl (upd Go (p1 : Int32).toNatClampNeg (vp_nar .boolean 1))))] := hD
      refine lv_iconst (v := 1) hx hb dX9_gone_30 (by decide) ?_
      have hP9 := hP.sub (ws' := [(h0, .inr (9, [.int th, .ref a1, .ref a2, .ref a3, .ref a4, .ref a5, .int ne, .int wi, .int dn, .ref a6, .ref a7, .int nn, .ref a8, .int la, .ref a9, .ref a10, .long up, .long lw, .int wh, .long pu, .long pw, .ref a11])), (a4, .inl (cZ, 16, .inl (upd Go (p1 : Int32).toNatClampNeg (vp_nar .boolean 1))))]) [0, 1] rfl
      have hD9 := hD.sub (ws' := [(h0, .inr (9, [.int th, .ref a1, .ref a2, .ref a3, .ref a4, .ref a5, .int ne, .int wi, .int dn, .ref a6, .ref a7, .int nn, .ref a8, .int la, .ref a9, .ref a10, .long up, .long lw, .int wh, .long pu, .long pw, .ref a11])), (a4, .inl (cZ, 16, .inl (upd Go (p1 : Int32).toNatClampNeg (vp_nar .boolean 1))))]) [0, 1] (by decide) rfl
      have hK9 := hK.sub (tys' := [(cZ, .boolean)]) [0] rfl
      refine W.widen (k := 0) (n := 0) (by omega) (by omega) ?_
      exact W.iret (v := 1) hx hb hr (fun t ht hW => ⟨⟨_, (), rfl, (by first | rw [if_neg (by omega)] | rw [if_pos (by omega), if_neg (by omega)] | rw [if_pos (by omega), if_pos (by omega)] | rw [if_pos (by omega), if_pos (by omega), if_neg (by omega)]), (upd Go (p1 : Int32).toNatClampNeg (vp_nar .boolean 1)), by rw [ht]; exact hP9, va_K.moved hW.alike hK9, hD9, (by first | exact Or.inr ⟨by omega, rfl⟩ | exact Or.inl ⟨by omega, rfl⟩)⟩, hS.F ht⟩) hS.2.2 dX9_gone_31
    · have t_17 := mt (fa_eq _ _).mpr c_17
      refine lv_ldc hx hb hown (hts (.constant RX9 85 (-100003)) (by decide +kernel)) dX9_gone_20 ?_
      have hP9 := hP.sub (ws' := [(h0, .inr (9, [.int th, .ref a1, .ref a2, .ref a3, .ref a4, .ref a5, .int ne, .int wi, .int dn, .ref a6, .ref a7, .int nn, .ref a8, .int la, .ref a9, .ref a10, .long up, .long lw, .int wh, .long pu, .long pw, .ref a11])), (a4, .inl (cZ, 16, .inl Go))]) [0, 1] rfl
      have hD9 := hD.sub (ws' := [(h0, .inr (9, [.int th, .ref a1, .ref a2, .ref a3, .ref a4, .ref a5, .int ne, .int wi, .int dn, .ref a6, .ref a7, .int nn, .ref a8, .int la, .ref a9, .ref a10, .long up, .long lw, .int wh, .long pu, .long pw, .ref a11])), (a4, .inl (cZ, 16, .inl Go))]) [0, 1] (by decide) rfl
      have hK9 := hK.sub (tys' := [(cZ, .boolean)]) [0] rfl
      refine W.widen (k := 0) (n := 0) (by omega) (by omega) ?_
      exact W.iret (v := (-100003)) hx hb hr (fun t ht hW => ⟨⟨_, (), rfl, (by first | rw [if_neg (by omega)] | rw [if_pos (by omega), if_neg (by omega)] | rw [if_pos (by omega), if_pos (by omega)] | rw [if_pos (by omega), if_pos (by omega), if_neg (by omega)]), Go, by rw [ht]; exact hP9, va_K.moved hW.alike hK9, hD9, (by first | exact Or.inr ⟨by omega, rfl⟩ | exact Or.inl ⟨by omega, rfl⟩)⟩, hS.F ht⟩) hS.2.2 dX9_gone_22
  · refine lv_if_ne (tgt := 11) hx hb dX9_gone_5 (by decide) (fun h9 => absurd h9 (by decide)) (fun _ => ?_)
    refine lv_ldc hx hb hown (hts (.constant RX9 84 (-100001)) (by decide +kernel)) dX9_gone_8 ?_
    have hP9 := hP.sub (ws' := [(h0, .inr (9, [.int th, .ref a1, .ref a2, .ref a3, .ref a4, .ref a5, .int ne, .int wi, .int dn, .ref a6, .ref a7, .int nn, .ref a8, .int la, .ref a9, .ref a10, .long up, .long lw, .int wh, .long pu, .long pw, .ref a11])), (a4, .inl (cZ, 16, .inl Go))]) [0, 1] rfl
    have hD9 := hD.sub (ws' := [(h0, .inr (9, [.int th, .ref a1, .ref a2, .ref a3, .ref a4, .ref a5, .int ne, .int wi, .int dn, .ref a6, .ref a7, .int nn, .ref a8, .int la, .ref a9, .ref a10, .long up, .long lw, .int wh, .long pu, .long pw, .ref a11])), (a4, .inl (cZ, 16, .inl Go))]) [0, 1] (by decide) rfl
    have hK9 := hK.sub (tys' := [(cZ, .boolean)]) [0] rfl
    refine W.widen (k := 0) (n := 0) (by omega) (by omega) ?_
    exact W.iret (v := (-100001)) hx hb hr (fun t ht hW => ⟨⟨_, (), rfl, (by first | rw [if_neg (by omega)] | rw [if_pos (by omega), if_neg (by omega)] | rw [if_pos (by omega), if_pos (by omega)] | rw [if_pos (by omega), if_pos (by omega), if_neg (by omega)]), Go, by rw [ht]; exact hP9, va_K.moved hW.alike hK9, hD9, (by first | exact Or.inr ⟨by omega, rfl⟩ | exact Or.inl ⟨by omega, rfl⟩)⟩, hS.F ht⟩) hS.2.2 dX9_gone_10
def wk_X9_rule : List Cond := .code yX9_rule cX9_rule 4 (some .int) :: (([.constantLong RX9 100 400, .fieldLink RX9 30 "MeetingsAboveModel" "wide" "I", .fieldLink RX9 26 "MeetingsAboveModel" "near" "I", .constant RX9 70 (-100002), .constantLong RX9 98 3000] : List Cond) ++ (wsX90 ++ ((va_wsS RX9 55 yX9_in wk_X9_in) ++ ([]))))
theorem in_X9_rule_X9 : ∀ w ∈ wsX90, w ∈ wk_X9_rule := fun _ h => List.mem_cons_of_mem _ (List.mem_append_right _ (List.mem_append_left _ h))
theorem gw_X9_rule : AG wk_X9_rule := AG_ca (AG_l (by decide +kernel)) (AG_app ag_X9 (AG_app (AG_S gw_X9_in) (AG_nil)))
theorem g_X9_rule__X9_in_55 : GoodIn wk_X9_rule (va_wsS RX9 55 yX9_in wk_X9_in) := goodIn_m (fun _ h => List.mem_cons_of_mem _ (List.mem_append_right _ (List.mem_append_right _ (List.mem_append_left _ h)))) (AG_S gw_X9_in)
set_option maxHeartbeats 4000000 in
set_option maxRecDepth 100000 in
theorem c_X9_rule (l : Launch) (dC : Nat → ClassId) (dI : Nat → Nat → Nat) (h0 : Nat) (a1 : Nat) (a2 : Nat) (a3 : Nat) (a4 : Nat) (a5 : Nat) (a6 : Nat) (a7 : Nat) (a8 : Nat) (a9 : Nat) (a10 : Nat) (a11 : Nat) (th : Int32) (ne : Int32) (wi : Int32) (dn : Int32) (nn : Int32) (la : Int32) (wh : Int32) (up : Int64) (lw : Int64) (pu : Int64) (pw : Int64) (p1 : Int32) (p2 : Int32) (sz : Nat) : Met l yX9_rule wk_X9_rule ({ frames := 1, cells := 0, slots := 0, locals := 25 }) (va_Pc [.ref h0, .int p1, .int p2] (fun U => U.heap.size = sz ∧ va_P (dC, dI) vwCl [(h0, .inr (9, [.int th, .ref a1, .ref a2, .ref a3, .ref a4, .ref a5, .int ne, .int wi, .int dn, .ref a6, .ref a7, .int nn, .ref a8, .int la, .ref a9, .ref a10, .long up, .long lw, .int wh, .long pu, .long pw, .ref a11]))] U.heap ∧ va_K (dC, dI) vwCl [] U ∧ va_D (fun _ => True) [(h0, .inr (9, [.int th, .ref a1, .ref a2, .ref a3, .ref a4, .ref a5, .int ne, .int wi, .int dn, .ref a6, .ref a7, .int nn, .ref a8, .int la, .ref a9, .ref a10, .long up, .long lw, .int wh, .long pu, .long pw, .ref a11]))])) (va_Qi (fun (r : Int32) (_ : Unit) => r = if p1.toInt = 0 ∧ 1 ≤ p2.toInt ∧ p2.toInt ≤ 3000 then ne else (if p1.toInt = 1 ∧ 0 ≤ p2.toInt ∧ p2.toInt ≤ 400 then wi else -100002)) (fun (_ : Unit) (t : State) => ∃ (ne9 : Int32) (wi9 : Int32), va_P (dC, dI) vwCl [(h0, .inr (9, [.int th, .ref a1, .ref a2, .ref a3, .ref a4, .ref a5, .int ne9, .int wi9, .int dn, .ref a6, .ref a7, .int nn, .ref a8, .int la, .ref a9, .ref a10, .long up, .long lw, .int wh, .long pu, .long pw, .ref a11]))] t.heap ∧ va_K (dC, dI) vwCl [] t ∧ va_D (va_A [(h0, .inr (9, [.int th, .ref a1, .ref a2, .ref a3, .ref a4, .ref a5, .int ne, .int wi, .int dn, .ref a6, .ref a7, .int nn, .ref a8, .int la, .ref a9, .ref a10, .long up, .long lw, .int wh, .long pu, .long pw, .ref a11]))] sz) [(h0, .inr (9, [.int th, .ref a1, .ref a2, .ref a3, .ref a4, .ref a5, .int ne9, .int wi9, .int dn, .ref a6, .ref a7, .int nn, .ref a8, .int la, .ref a9, .ref a10, .long up, .long lw, .int wh, .long pu, .long pw, .ref a11]))] ∧ ne9 = (if p1.toInt = 0 ∧ 1 ≤ p2.toInt ∧ p2.toInt ≤ 3000 then p2 else ne) ∧ wi9 = (if p1.toInt = 1 ∧ 0 ≤ p2.toInt ∧ p2.toInt ≤ 400 then p2 else wi)) (va_A [(h0, .inr (9, [.int th, .ref a1, .ref a2, .ref a3, .ref a4, .ref a5, .int ne, .int wi, .int dn, .ref a6, .ref a7, .int nn, .ref a8, .int la, .ref a9, .ref a10, .long up, .long lw, .int wh, .long pu, .long pw, .ref a11]))] sz)) 0 0 (va_A [(h0, .inr (9, [.int th, .ref a1, .ref a2, .ref a3, .ref a4, .ref a5, .int ne, .int wi, .int dn, .ref a6, .ref a7, .int nn, .ref a8, .int la, .ref a9, .ref a10, .long up, .long lw, .int wh, .long pu, .long pw, .ref a11]))] sz) := by
  refine Met.ofW (cc := cX9_rule) (maxL := 4) (ret := (some .int)) (by decide) rfl ?_
  intro p e s m args below meth c s₁ B hml hv
  obtain ⟨rfl, hsz, hP, hK, hD0⟩ := hv
  have hx := B.exec
  have hb := B.bytes
  have hr := B.returns
  have hts := atoms_spec (ws := wk_X9_rule) B.pre
  have hown : s.vm.findClass RX9 = some m.cls := findClass_of_methodNamed B.named
  have hlocks := B.notSynchronized
  subst hsz
  have hD := hD0.self (sz := s.heap.size)
  generalize hAe : va_A [(h0, .inr (9, [.int th, .ref a1, .ref a2, .ref a3, .ref a4, .ref a5, .int ne, .int wi, .int dn, .ref a6, .ref a7, .int nn, .ref a8, .int la, .ref a9, .ref a10, .long up, .long lw, .int wh, .long pu, .long pw, .ref a11]))] s.heap.size = A at hD ⊢
  have hA : ∀ q : Nat, s.heap.size ≤ q → A q := fun q h => by rw [← hAe]; exact Or.inr h
  have hS : va_S A s.heap s.heap [] := va_S.rf
  have hP : va_P (dC, dI) vwCl [(h0, .inr (9, [.int th, .ref a1, .ref a2, .ref a3, .ref a4, .ref a5, .int ne, .int wi, .int dn, .ref a6, .ref a7, .int nn, .ref a8, .int la, .ref a9, .ref a10, .long up, .long lw, .int wh, .long pu, .long pw, .ref a11]))] s.heap := hP
  have hl := lv_entry ([.ref h0, .int p1, .int p2]) (n := 4) (Nat.le_of_ble_eq_true rfl)
  rw [lg_entry_eq]
  generalize (lg_sl ([.ref h0, .int p1, .int p2]) ++ List.replicate (4 - (lg_sl ([.ref h0, .int p1, .int p2])).length) Slot.unset).toArray = ls at hl ⊢
  have hl : lv_has ls 4 [(0, .ref h0), (1, .int p1), (2, .int p2)] := hl
  have kl_m100002 : (-100002 : Int32).toInt = -100002 := by decide
  have kl_0 : (0 : Int32).toInt = 0 := by decide
  have kl_1 : (1 : Int32).toInt = 1 := by decide
  have kl_400 : (400 : Int32).toInt = 400 := by decide
  have kl_3000 : (3000 : Int32).toInt = 3000 := by decide
  have klL_0 : (0 : Int64).toInt = 0 := by decide
  have klL_1 : (1 : Int64).toInt = 1 := by decide
  have klL_400 : (400 : Int64).toInt = 400 := by decide
  have klL_3000 : (3000 : Int64).toInt = 3000 := by decide
  refine lv_iload_n hx hb dX9_rule_0 rfl (lv_at hl 1 rfl) ?_
  refine lv_i2l hx hb dX9_rule_1 rfl ?_
  refine lv_lconst (v := 0) hx hb dX9_rule_2 (by decide) ?_
  refine lv_lconst (v := 1) hx hb dX9_rule_3 (by decide) ?_
  refine vp_callSi (W.runS (As := [.long p1.toInt64, .long 0, .long 1]) (rest := []) ⟨hx, hb, hml, hown, hts⟩ (c_X9_in l dC dI p1.toInt64 0 1) (va_cwS 3 hts g_X9_rule__X9_in_55 rfl rfl rfl (by decide +kernel) ⟨Nat.le_of_ble_eq_true rfl, Nat.le_of_ble_eq_true rfl⟩) ⟨fun a U g mk q => by obtain ⟨q0, q1⟩ := q; exact ⟨q0, q1⟩, fun U hU hW => ⟨rfl, trivial⟩⟩ rfl rfl hl.1 rfl (lv_room (Nat.le_of_ble_eq_true rfl)) dX9_rule_4 ⟨Nat.le_of_ble_eq_true rfl, Nat.le_of_ble_eq_true rfl⟩) (fun r_1 hr_1 => ?_)
  try dsimp only at hr_1
  rcases bo_split hr_1 with ⟨rfl, q_4⟩ | ⟨rfl, q_4⟩
  · simp only [Int32.toInt_toInt64, klL_0, klL_1] at q_4
    refine lv_if_eq (tgt := 40) hx hb dX9_rule_7 (by decide) (fun h9 => absurd h9 (by decide)) (fun _ => ?_)
    refine lv_iload_n hx hb dX9_rule_10 rfl (lv_at hl 2 rfl) ?_
    refine lv_i2l hx hb dX9_rule_11 rfl ?_
    refine lv_iload_n hx hb dX9_rule_12 rfl (lv_at hl 1 rfl) ?_
    refine lv_if_ne (tgt := 20) hx hb dX9_rule_13 (by decide) (fun c_13 => ?_) (fun c_13 => ?_)
    · have t_13 := mt (fa_eq _ _).mpr c_13
      refine lv_lconst (v := 0) hx hb dX9_rule_20 (by decide) ?_
      refine lv_iload_n hx hb dX9_rule_21 rfl (lv_at hl 1 rfl) ?_
      refine lv_if_ne (tgt := 31) hx hb dX9_rule_22 (by decide) (fun c_22 => ?_) (fun c_22 => ?_)
      · have t_22 := mt (fa_eq _ _).mpr c_22
        refine lv_ldc2 hx hb hown (hts (.constantLong RX9 100 400) (by decide +kernel)) dX9_rule_31 ?_
        refine vp_callSi (W.runS (As := [.long p2.toInt64, .long 0, .long 400]) (rest := []) ⟨hx, hb, hml, hown, hts⟩ (c_X9_in l dC dI p2.toInt64 0 400) (va_cwS 3 hts g_X9_rule__X9_in_55 rfl rfl rfl (by decide +kernel) ⟨Nat.le_of_ble_eq_true rfl, Nat.le_of_ble_eq_true rfl⟩) ⟨fun a U g mk q => by obtain ⟨q0, q1⟩ := q; exact ⟨q0, q1⟩, fun U hU hW => ⟨rfl, trivial⟩⟩ rfl rfl hl.1 rfl (lv_room (Nat.le_of_ble_eq_true rfl)) dX9_rule_34 ⟨Nat.le_of_ble_eq_true rfl, Nat.le_of_ble_eq_true rfl⟩) (fun r_2 hr_2 => ?_)
        try dsimp only at hr_2
        rcases bo_split hr_2 with ⟨rfl, q_34⟩ | ⟨rfl, q_34⟩
        · simp only [Int32.toInt_toInt64, klL_0, klL_400] at q_34
          refine lv_if_ne (tgt := 43) hx hb dX9_rule_37 (by decide) (fun _ => ?_) (fun h9 => absurd h9 (by decide))
          refine lv_iload_n hx hb dX9_rule_43 rfl (lv_at hl 1 rfl) ?_
          refine lv_if_ne (tgt := 54) hx hb dX9_rule_44 (by decide) (fun c_44 => ?_) (fun c_44 => ?_)
          · have t_44 := mt (fa_eq _ _).mpr c_44
            refine lv_aload_n hx hb dX9_rule_54 rfl (lv_at hl 0 rfl) ?_
            refine va_get (D := (dC, dI)) (ci := 9) (v := .int wi) (C := RX9) (T := TX9) (N := 22) hx hb hts in_X9_rule_X9 hown hK hP 0 rfl rfl 7 (by decide) (hts (.fieldLink RX9 30 "MeetingsAboveModel" "wide" "I") (by decide +kernel)) (fun _ h9 => h9) rfl dX9_rule_55 ?_
            refine lv_istore_n (lv' := [(3, .int wi), (0, .ref h0), (1, .int p1), (2, .int p2)]) hx hb dX9_rule_58 rfl hl (by decide) rfl (fun ls hl => ?_)
            refine lv_aload_n hx hb dX9_rule_59 rfl (lv_at hl 1 rfl) ?_
            refine lv_iload_n hx hb dX9_rule_60 rfl (lv_at hl 2 rfl) ?_
            refine lv_if_ne (tgt := 68) hx hb dX9_rule_61 (by decide) (fun c_61 => ?_) (fun c_61 => ?_)
            · have t_61 := mt (fa_eq _ _).mpr c_61
              refine lv_aload_n hx hb dX9_rule_68 rfl (lv_at hl 1 rfl) ?_
              refine va_get (D := (dC, dI)) (ci := 9) (v := .int ne) (C := RX9) (T := TX9) (N := 22) hx hb hts in_X9_rule_X9 hown hK hP 0 rfl rfl 6 (by decide) (hts (.fieldLink RX9 26 "MeetingsAboveModel" "near" "I") (by decide +kernel)) (fun _ h9 => h9) rfl dX9_rule_69 ?_
              refine va_put (D := (dC, dI)) (ci := 9) (v := .int ne) (ty := .int) (C := RX9) (T := TX9) (N := 22) hx hb hts in_X9_rule_X9 tyX9 tyX9_ok nmX9 hown hK hP hD hS 0 rfl rfl 6 (by decide) (hts (.fieldLink RX9 26 "MeetingsAboveModel" "near" "I") (by decide +kernel)) (fun _ h9 => h9) rfl (by decide +kernel) rfl rfl (Nat.le_of_ble_eq_true rfl) dX9_rule_72 (fun H locs hP hD hS => ?_)
              have hP : va_P (dC, dI) vwCl [(h0, .inr (9, [.int th, .ref a1, .ref a2, .ref a3, .ref a4, .ref a5, .int ne, .int wi, .int dn, .ref a6, .ref a7, .int nn, .ref a8, .int la, .ref a9, .ref a10, .long up, .long lw, .int wh, .long pu, .long pw, .ref a11]))] H := hP
              have hD : va_D A [(h0, .inr (9, [.int th, .ref a1, .ref a2, .ref a3, .ref a4, .ref a5, .int ne, .int wi, .int dn, .ref a6, .ref a7, .int nn, .ref a8, .int la, .ref a9, .ref a10, .long up, .long lw, .int wh, .long pu, .long pw, .ref a11]))] := hD
              refine lv_aload_n hx hb dX9_rule_75 rfl (lv_at hl 1 rfl) ?_
              refine lv_iload_n hx hb dX9_rule_76 rfl (lv_at hl 2 rfl) ?_
              refine lv_iconst (v := 1) hx hb dX9_rule_77 (by decide) ?_
              refine lv_icmp_ne (tgt := 85) hx hb dX9_rule_78 (by decide) (fun c_78 => ?_) (fun c_78 => ?_)
              · have t_78 := mt (fa_eq _ _).mpr c_78
                refine lv_aload_n hx hb dX9_rule_85 rfl (lv_at hl 1 rfl) ?_
                refine va_get (D := (dC, dI)) (ci := 9) (v := .int wi) (C := RX9) (T := TX9) (N := 22) hx hb hts in_X9_rule_X9 hown hK hP 0 rfl rfl 7 (by decide) (hts (.fieldLink RX9 30 "MeetingsAboveModel" "wide" "I") (by decide +kernel)) (fun _ h9 => h9) rfl dX9_rule_86 ?_
                refine va_put (D := (dC, dI)) (ci := 9) (v := .int wi) (ty := .int) (C := RX9) (T := TX9) (N := 22) hx hb hts in_X9_rule_X9 tyX9 tyX9_ok nmX9 hown hK hP hD hS 0 rfl rfl 7 (by decide) (hts (.fieldLink RX9 30 "MeetingsAboveModel" "wide" "I") (by decide +kernel)) (fun _ h9 => h9) rfl (by decide +kernel) rfl rfl (Nat.le_of_ble_eq_true rfl) dX9_rule_89 (fun H locs hP hD hS => ?_)
                have hP : va_P (dC, dI) vwCl [(h0, .inr (9, [.int th, .ref a1, .ref a2, .ref a3, .ref a4, .ref a5, .int ne, .int wi, .int dn, .ref a6, .ref a7, .int nn, .ref a8, .int la, .ref a9, .ref a10, .long up, .long lw, .int wh, .long pu, .long pw, .ref a11]))] H := hP
                have hD : va_D A [(h0, .inr (9, [.int th, .ref a1, .ref a2, .ref a3, .ref a4, .ref a5, .int ne, .int wi, .int dn, .ref a6, .ref a7, .int nn, .ref a8, .int la, .ref a9, .ref a10, .long up, .long lw, .int wh, .long pu, .long pw, .ref a11]))] := hD
                refine lv_iload_n hx hb dX9_rule_92 rfl (lv_at hl 0 rfl) ?_
                have hP9 := hP.sub (ws' := [(h0, .inr (9, [.int th, .ref a1, .ref a2, .ref a3, .ref a4, .ref a5, .int ne, .int wi, .int dn, .ref a6, .ref a7, .int nn, .ref a8, .int la, .ref a9, .ref a10, .long up, .long lw, .int wh, .long pu, .long pw, .ref a11]))]) [0] rfl
                have hD9 := hD.sub (ws' := [(h0, .inr (9, [.int th, .ref a1, .ref a2, .ref a3, .ref a4, .ref a5, .int ne, .int wi, .int dn, .ref a6, .ref a7, .int nn, .ref a8, .int la, .ref a9, .ref a10, .long up, .long lw, .int wh, .long pu, .long pw, .ref a11]))]) [0] (by decide) rfl
                have hK9 := hK.sub (tys' := []) [] rfl
                refine W.widen (k := 0) (n := 0) (by omega) (by omega) ?_
                exact W.iret (v := wi) hx hb hr (fun t ht hW => ⟨⟨_, (), rfl, (by first | (exfalso; omega) | rw [if_pos (by omega)] | rw [if_neg (by omega), if_pos (by omega)] | rw [if_neg (by omega), if_neg (by omega)]), ne, wi, by rw [ht]; exact hP9, va_K.moved hW.alike hK9, hD9, (by first | (exfalso; omega) | rw [if_pos (by omega)] | rw [if_neg (by omega)]), (by first | (exfalso; omega) | rw [if_pos (by omega)] | rw [if_neg (by omega)])⟩, hS.F ht⟩) hS.2.2 dX9_rule_93
              · have t_78 := (fa_eq _ _).mp c_78
                refine lv_iload_n hx hb dX9_rule_81 rfl (lv_at hl 3 rfl) ?_
                refine lv_goto (tgt := 89) hx hb dX9_rule_82 (by decide) ?_
                refine va_put (D := (dC, dI)) (ci := 9) (v := .int p2) (ty := .int) (C := RX9) (T := TX9) (N := 22) hx hb hts in_X9_rule_X9 tyX9 tyX9_ok nmX9 hown hK hP hD hS 0 rfl rfl 7 (by decide) (hts (.fieldLink RX9 30 "MeetingsAboveModel" "wide" "I") (by decide +kernel)) (fun _ h9 => h9) rfl (by decide +kernel) rfl rfl (Nat.le_of_ble_eq_true rfl) dX9_rule_89 (fun H locs hP hD hS => ?_)
                have hP : va_P (dC, dI) vwCl [(h0, .inr (9, [.int th, .ref a1, .ref a2, .ref a3, .ref a4, .ref a5, .int ne, .int p2, .int dn, .ref a6, .ref a7, .int nn, .ref a8, .int la, .ref a9, .ref a10, .long up, .long lw, .int wh, .long pu, .long pw, .ref a11]))] H := hP
                have hD : va_D A [(h0, .inr (9, [.int th, .ref a1, .ref a2, .ref a3, .ref a4, .ref a5, .int ne, .int p2, .int dn, .ref a6, .ref a7, .int nn, .ref a8, .int la, .ref a9, .ref a10, .long up, .long lw, .int wh, .long pu, .long pw, .ref a11]))] := hD
                refine lv_iload_n hx hb dX9_rule_92 rfl (lv_at hl 0 rfl) ?_
                have hP9 := hP.sub (ws' := [(h0, .inr (9, [.int th, .ref a1, .ref a2, .ref a3, .ref a4, .ref a5, .int ne, .int p2, .int dn, .ref a6, .ref a7, .int nn, .ref a8, .int la, .ref a9, .ref a10, .long up, .long lw, .int wh, .long pu, .long pw, .ref a11]))]) [0] rfl
                have hD9 := hD.sub (ws' := [(h0, .inr (9, [.int th, .ref a1, .ref a2, .ref a3, .ref a4, .ref a5, .int ne, .int p2, .int dn, .ref a6, .ref a7, .int nn, .ref a8, .int la, .ref a9, .ref a10, .long up, .long lw, .int wh, .long pu, .long pw, .ref a11]))]) [0] (by decide) rfl
                have hK9 := hK.sub (tys' := []) [] rfl
                refine W.widen (k := 0) (n := 0) (by omega) (by omega) ?_
                exact W.iret (v := wi) hx hb hr (fun t ht hW => ⟨⟨_, (), rfl, (by first | (exfalso; omega) | rw [if_pos (by omega)] | rw [if_neg (by omega), if_pos (by omega)] | rw [if_neg (by omega), if_neg (by omega)]), ne, p2, by rw [ht]; exact hP9, va_K.moved hW.alike hK9, hD9, (by first | (exfalso; omega) | rw [if_pos (by omega)] | rw [if_neg (by omega)]), (by first | (exfalso; omega) | rw [if_pos (by omega)] | rw [if_neg (by omega)])⟩, hS.F ht⟩) hS.2.2 dX9_rule_93
            · have t_61 := (fa_eq _ _).mp c_61
              refine lv_iload_n hx hb dX9_rule_64 rfl (lv_at hl 3 rfl) ?_
              refine lv_goto (tgt := 72) hx hb dX9_rule_65 (by decide) ?_
              refine va_put (D := (dC, dI)) (ci := 9) (v := .int p2) (ty := .int) (C := RX9) (T := TX9) (N := 22) hx hb hts in_X9_rule_X9 tyX9 tyX9_ok nmX9 hown hK hP hD hS 0 rfl rfl 6 (by decide) (hts (.fieldLink RX9 26 "MeetingsAboveModel" "near" "I") (by decide +kernel)) (fun _ h9 => h9) rfl (by decide +kernel) rfl rfl (Nat.le_of_ble_eq_true rfl) dX9_rule_72 (fun H locs hP hD hS => ?_)
              have hP : va_P (dC, dI) vwCl [(h0, .inr (9, [.int th, .ref a1, .ref a2, .ref a3, .ref a4, .ref a5, .int p2, .int wi, .int dn, .ref a6, .ref a7, .int nn, .ref a8, .int la, .ref a9, .ref a10, .long up, .long lw, .int wh, .long pu, .long pw, .ref a11]))] H := hP
              have hD : va_D A [(h0, .inr (9, [.int th, .ref a1, .ref a2, .ref a3, .ref a4, .ref a5, .int p2, .int wi, .int dn, .ref a6, .ref a7, .int nn, .ref a8, .int la, .ref a9, .ref a10, .long up, .long lw, .int wh, .long pu, .long pw, .ref a11]))] := hD
              refine lv_aload_n hx hb dX9_rule_75 rfl (lv_at hl 1 rfl) ?_
              refine lv_iload_n hx hb dX9_rule_76 rfl (lv_at hl 2 rfl) ?_
              refine lv_iconst (v := 1) hx hb dX9_rule_77 (by decide) ?_
              refine lv_icmp_ne (tgt := 85) hx hb dX9_rule_78 (by decide) (fun c_78 => ?_) (fun c_78 => ?_)
              · have t_78 := mt (fa_eq _ _).mpr c_78
                refine lv_aload_n hx hb dX9_rule_85 rfl (lv_at hl 1 rfl) ?_
                refine va_get (D := (dC, dI)) (ci := 9) (v := .int wi) (C := RX9) (T := TX9) (N := 22) hx hb hts in_X9_rule_X9 hown hK hP 0 rfl rfl 7 (by decide) (hts (.fieldLink RX9 30 "MeetingsAboveModel" "wide" "I") (by decide +kernel)) (fun _ h9 => h9) rfl dX9_rule_86 ?_
                refine va_put (D := (dC, dI)) (ci := 9) (v := .int wi) (ty := .int) (C := RX9) (T := TX9) (N := 22) hx hb hts in_X9_rule_X9 tyX9 tyX9_ok nmX9 hown hK hP hD hS 0 rfl rfl 7 (by decide) (hts (.fieldLink RX9 30 "MeetingsAboveModel" "wide" "I") (by decide +kernel)) (fun _ h9 => h9) rfl (by decide +kernel) rfl rfl (Nat.le_of_ble_eq_true rfl) dX9_rule_89 (fun H locs hP hD hS => ?_)
                have hP : va_P (dC, dI) vwCl [(h0, .inr (9, [.int th, .ref a1, .ref a2, .ref a3, .ref a4, .ref a5, .int p2, .int wi, .int dn, .ref a6, .ref a7, .int nn, .ref a8, .int la, .ref a9, .ref a10, .long up, .long lw, .int wh, .long pu, .long pw, .ref a11]))] H := hP
                have hD : va_D A [(h0, .inr (9, [.int th, .ref a1, .ref a2, .ref a3, .ref a4, .ref a5, .int p2, .int wi, .int dn, .ref a6, .ref a7, .int nn, .ref a8, .int la, .ref a9, .ref a10, .long up, .long lw, .int wh, .long pu, .long pw, .ref a11]))] := hD
                refine lv_iload_n hx hb dX9_rule_92 rfl (lv_at hl 0 rfl) ?_
                have hP9 := hP.sub (ws' := [(h0, .inr (9, [.int th, .ref a1, .ref a2, .ref a3, .ref a4, .ref a5, .int p2, .int wi, .int dn, .ref a6, .ref a7, .int nn, .ref a8, .int la, .ref a9, .ref a10, .long up, .long lw, .int wh, .long pu, .long pw, .ref a11]))]) [0] rfl
                have hD9 := hD.sub (ws' := [(h0, .inr (9, [.int th, .ref a1, .ref a2, .ref a3, .ref a4, .ref a5, .int p2, .int wi, .int dn, .ref a6, .ref a7, .int nn, .ref a8, .int la, .ref a9, .ref a10, .long up, .long lw, .int wh, .long pu, .long pw, .ref a11]))]) [0] (by decide) rfl
                have hK9 := hK.sub (tys' := []) [] rfl
                refine W.widen (k := 0) (n := 0) (by omega) (by omega) ?_
                exact W.iret (v := wi) hx hb hr (fun t ht hW => ⟨⟨_, (), rfl, (by first | (exfalso; omega) | rw [if_pos (by omega)] | rw [if_neg (by omega), if_pos (by omega)] | rw [if_neg (by omega), if_neg (by omega)]), p2, wi, by rw [ht]; exact hP9, va_K.moved hW.alike hK9, hD9, (by first | (exfalso; omega) | rw [if_pos (by omega)] | rw [if_neg (by omega)]), (by first | (exfalso; omega) | rw [if_pos (by omega)] | rw [if_neg (by omega)])⟩, hS.F ht⟩) hS.2.2 dX9_rule_93
              · have t_78 := (fa_eq _ _).mp c_78
                refine lv_iload_n hx hb dX9_rule_81 rfl (lv_at hl 3 rfl) ?_
                refine lv_goto (tgt := 89) hx hb dX9_rule_82 (by decide) ?_
                refine va_put (D := (dC, dI)) (ci := 9) (v := .int p2) (ty := .int) (C := RX9) (T := TX9) (N := 22) hx hb hts in_X9_rule_X9 tyX9 tyX9_ok nmX9 hown hK hP hD hS 0 rfl rfl 7 (by decide) (hts (.fieldLink RX9 30 "MeetingsAboveModel" "wide" "I") (by decide +kernel)) (fun _ h9 => h9) rfl (by decide +kernel) rfl rfl (Nat.le_of_ble_eq_true rfl) dX9_rule_89 (fun H locs hP hD hS => ?_)
                have hP : va_P (dC, dI) vwCl [(h0, .inr (9, [.int th, .ref a1, .ref a2, .ref a3, .ref a4, .ref a5, .int p2, .int p2, .int dn, .ref a6, .ref a7, .int nn, .ref a8, .int la, .ref a9, .ref a10, .long up, .long lw, .int wh, .long pu, .long pw, .ref a11]))] H := hP
                have hD : va_D A [(h0, .inr (9, [.int th, .ref a1, .ref a2, .ref a3, .ref a4, .ref a5, .int p2, .int p2, .int dn, .ref a6, .ref a7, .int nn, .ref a8, .int la, .ref a9, .ref a10, .long up, .long lw, .int wh, .long pu, .long pw, .ref a11]))] := hD
                refine lv_iload_n hx hb dX9_rule_92 rfl (lv_at hl 0 rfl) ?_
                have hP9 := hP.sub (ws' := [(h0, .inr (9, [.int th, .ref a1, .ref a2, .ref a3, .ref a4, .ref a5, .int p2, .int p2, .int dn, .ref a6, .ref a7, .int nn, .ref a8, .int la, .ref a9, .ref a10, .long up, .long lw, .int wh, .long pu, .long pw, .ref a11]))]) [0] rfl
                have hD9 := hD.sub (ws' := [(h0, .inr (9, [.int th, .ref a1, .ref a2, .ref a3, .ref a4, .ref a5, .int p2, .int p2, .int dn, .ref a6, .ref a7, .int nn, .ref a8, .int la, .ref a9, .ref a10, .long up, .long lw, .int wh, .long pu, .long pw, .ref a11]))]) [0] (by decide) rfl
                have hK9 := hK.sub (tys' := []) [] rfl
                refine W.widen (k := 0) (n := 0) (by omega) (by omega) ?_
                exact W.iret (v := wi) hx hb hr (fun t ht hW => ⟨⟨_, (), rfl, (by first | (exfalso; omega) | rw [if_pos (by omega)] | rw [if_neg (by omega), if_pos (by omega)] | rw [if_neg (by omega), if_neg (by omega)]), p2, p2, by rw [ht]; exact hP9, va_K.moved hW.alike hK9, hD9, (by first | (exfalso; omega) | rw [if_pos (by omega)] | rw [if_neg (by omega)]), (by first | (exfalso; omega) | rw [if_pos (by omega)] | rw [if_neg (by omega)])⟩, hS.F ht⟩) hS.2.2 dX9_rule_93
          · have t_44 := (fa_eq _ _).mp c_44
            refine lv_aload_n hx hb dX9_rule_47 rfl (lv_at hl 0 rfl) ?_
            refine va_get (D := (dC, dI)) (ci := 9) (v := .int ne) (C := RX9) (T := TX9) (N := 22) hx hb hts in_X9_rule_X9 hown hK hP 0 rfl rfl 6 (by decide) (hts (.fieldLink RX9 26 "MeetingsAboveModel" "near" "I") (by decide +kernel)) (fun _ h9 => h9) rfl dX9_rule_48 ?_
            refine lv_goto (tgt := 58) hx hb dX9_rule_51 (by decide) ?_
            refine lv_istore_n (lv' := [(3, .int ne), (0, .ref h0), (1, .int p1), (2, .int p2)]) hx hb dX9_rule_58 rfl hl (by decide) rfl (fun ls hl => ?_)
            refine lv_aload_n hx hb dX9_rule_59 rfl (lv_at hl 1 rfl) ?_
            refine lv_iload_n hx hb dX9_rule_60 rfl (lv_at hl 2 rfl) ?_
            refine lv_if_ne (tgt := 68) hx hb dX9_rule_61 (by decide) (fun c_61 => ?_) (fun c_61 => ?_)
            · have t_61 := mt (fa_eq _ _).mpr c_61
              refine lv_aload_n hx hb dX9_rule_68 rfl (lv_at hl 1 rfl) ?_
              refine va_get (D := (dC, dI)) (ci := 9) (v := .int ne) (C := RX9) (T := TX9) (N := 22) hx hb hts in_X9_rule_X9 hown hK hP 0 rfl rfl 6 (by decide) (hts (.fieldLink RX9 26 "MeetingsAboveModel" "near" "I") (by decide +kernel)) (fun _ h9 => h9) rfl dX9_rule_69 ?_
              refine va_put (D := (dC, dI)) (ci := 9) (v := .int ne) (ty := .int) (C := RX9) (T := TX9) (N := 22) hx hb hts in_X9_rule_X9 tyX9 tyX9_ok nmX9 hown hK hP hD hS 0 rfl rfl 6 (by decide) (hts (.fieldLink RX9 26 "MeetingsAboveModel" "near" "I") (by decide +kernel)) (fun _ h9 => h9) rfl (by decide +kernel) rfl rfl (Nat.le_of_ble_eq_true rfl) dX9_rule_72 (fun H locs hP hD hS => ?_)
              have hP : va_P (dC, dI) vwCl [(h0, .inr (9, [.int th, .ref a1, .ref a2, .ref a3, .ref a4, .ref a5, .int ne, .int wi, .int dn, .ref a6, .ref a7, .int nn, .ref a8, .int la, .ref a9, .ref a10, .long up, .long lw, .int wh, .long pu, .long pw, .ref a11]))] H := hP
              have hD : va_D A [(h0, .inr (9, [.int th, .ref a1, .ref a2, .ref a3, .ref a4, .ref a5, .int ne, .int wi, .int dn, .ref a6, .ref a7, .int nn, .ref a8, .int la, .ref a9, .ref a10, .long up, .long lw, .int wh, .long pu, .long pw, .ref a11]))] := hD
              refine lv_aload_n hx hb dX9_rule_75 rfl (lv_at hl 1 rfl) ?_
              refine lv_iload_n hx hb dX9_rule_76 rfl (lv_at hl 2 rfl) ?_
              refine lv_iconst (v := 1) hx hb dX9_rule_77 (by decide) ?_
              refine lv_icmp_ne (tgt := 85) hx hb dX9_rule_78 (by decide) (fun c_78 => ?_) (fun c_78 => ?_)
              · have t_78 := mt (fa_eq _ _).mpr c_78
                refine lv_aload_n hx hb dX9_rule_85 rfl (lv_at hl 1 rfl) ?_
                refine va_get (D := (dC, dI)) (ci := 9) (v := .int wi) (C := RX9) (T := TX9) (N := 22) hx hb hts in_X9_rule_X9 hown hK hP 0 rfl rfl 7 (by decide) (hts (.fieldLink RX9 30 "MeetingsAboveModel" "wide" "I") (by decide +kernel)) (fun _ h9 => h9) rfl dX9_rule_86 ?_
                refine va_put (D := (dC, dI)) (ci := 9) (v := .int wi) (ty := .int) (C := RX9) (T := TX9) (N := 22) hx hb hts in_X9_rule_X9 tyX9 tyX9_ok nmX9 hown hK hP hD hS 0 rfl rfl 7 (by decide) (hts (.fieldLink RX9 30 "MeetingsAboveModel" "wide" "I") (by decide +kernel)) (fun _ h9 => h9) rfl (by decide +kernel) rfl rfl (Nat.le_of_ble_eq_true rfl) dX9_rule_89 (fun H locs hP hD hS => ?_)
                have hP : va_P (dC, dI) vwCl [(h0, .inr (9, [.int th, .ref a1, .ref a2, .ref a3, .ref a4, .ref a5, .int ne, .int wi, .int dn, .ref a6, .ref a7, .int nn, .ref a8, .int la, .ref a9, .ref a10, .long up, .long lw, .int wh, .long pu, .long pw, .ref a11]))] H := hP
                have hD : va_D A [(h0, .inr (9, [.int th, .ref a1, .ref a2, .ref a3, .ref a4, .ref a5, .int ne, .int wi, .int dn, .ref a6, .ref a7, .int nn, .ref a8, .int la, .ref a9, .ref a10, .long up, .long lw, .int wh, .long pu, .long pw, .ref a11]))] := hD
                refine lv_iload_n hx hb dX9_rule_92 rfl (lv_at hl 0 rfl) ?_
                have hP9 := hP.sub (ws' := [(h0, .inr (9, [.int th, .ref a1, .ref a2, .ref a3, .ref a4, .ref a5, .int ne, .int wi, .int dn, .ref a6, .ref a7, .int nn, .ref a8, .int la, .ref a9, .ref a10, .long up, .long lw, .int wh, .long pu, .long pw, .ref a11]))]) [0] rfl
                have hD9 := hD.sub (ws' := [(h0, .inr (9, [.int th, .ref a1, .ref a2, .ref a3, .ref a4, .ref a5, .int ne, .int wi, .int dn, .ref a6, .ref a7, .int nn, .ref a8, .int la, .ref a9, .ref a10, .long up, .long lw, .int wh, .long pu, .long pw, .ref a11]))]) [0] (by decide) rfl
                have hK9 := hK.sub (tys' := []) [] rfl
                refine W.widen (k := 0) (n := 0) (by omega) (by omega) ?_
                exact W.iret (v := ne) hx hb hr (fun t ht hW => ⟨⟨_, (), rfl, (by first | (exfalso; omega) | rw [if_pos (by omega)] | rw [if_neg (by omega), if_pos (by omega)] | rw [if_neg (by omega), if_neg (by omega)]), ne, wi, by rw [ht]; exact hP9, va_K.moved hW.alike hK9, hD9, (by first | (exfalso; omega) | rw [if_pos (by omega)] | rw [if_neg (by omega)]), (by first | (exfalso; omega) | rw [if_pos (by omega)] | rw [if_neg (by omega)])⟩, hS.F ht⟩) hS.2.2 dX9_rule_93
              · have t_78 := (fa_eq _ _).mp c_78
                refine lv_iload_n hx hb dX9_rule_81 rfl (lv_at hl 3 rfl) ?_
                refine lv_goto (tgt := 89) hx hb dX9_rule_82 (by decide) ?_
                refine va_put (D := (dC, dI)) (ci := 9) (v := .int p2) (ty := .int) (C := RX9) (T := TX9) (N := 22) hx hb hts in_X9_rule_X9 tyX9 tyX9_ok nmX9 hown hK hP hD hS 0 rfl rfl 7 (by decide) (hts (.fieldLink RX9 30 "MeetingsAboveModel" "wide" "I") (by decide +kernel)) (fun _ h9 => h9) rfl (by decide +kernel) rfl rfl (Nat.le_of_ble_eq_true rfl) dX9_rule_89 (fun H locs hP hD hS => ?_)
                have hP : va_P (dC, dI) vwCl [(h0, .inr (9, [.int th, .ref a1, .ref a2, .ref a3, .ref a4, .ref a5, .int ne, .int p2, .int dn, .ref a6, .ref a7, .int nn, .ref a8, .int la, .ref a9, .ref a10, .long up, .long lw, .int wh, .long pu, .long pw, .ref a11]))] H := hP
                have hD : va_D A [(h0, .inr (9, [.int th, .ref a1, .ref a2, .ref a3, .ref a4, .ref a5, .int ne, .int p2, .int dn, .ref a6, .ref a7, .int nn, .ref a8, .int la, .ref a9, .ref a10, .long up, .long lw, .int wh, .long pu, .long pw, .ref a11]))] := hD
                refine lv_iload_n hx hb dX9_rule_92 rfl (lv_at hl 0 rfl) ?_
                have hP9 := hP.sub (ws' := [(h0, .inr (9, [.int th, .ref a1, .ref a2, .ref a3, .ref a4, .ref a5, .int ne, .int p2, .int dn, .ref a6, .ref a7, .int nn, .ref a8, .int la, .ref a9, .ref a10, .long up, .long lw, .int wh, .long pu, .long pw, .ref a11]))]) [0] rfl
                have hD9 := hD.sub (ws' := [(h0, .inr (9, [.int th, .ref a1, .ref a2, .ref a3, .ref a4, .ref a5, .int ne, .int p2, .int dn, .ref a6, .ref a7, .int nn, .ref a8, .int la, .ref a9, .ref a10, .long up, .long lw, .int wh, .long pu, .long pw, .ref a11]))]) [0] (by decide) rfl
                have hK9 := hK.sub (tys' := []) [] rfl
                refine W.widen (k := 0) (n := 0) (by omega) (by omega) ?_
                exact W.iret (v := ne) hx hb hr (fun t ht hW => ⟨⟨_, (), rfl, (by first | (exfalso; omega) | rw [if_pos (by omega)] | rw [if_neg (by omega), if_pos (by omega)] | rw [if_neg (by omega), if_neg (by omega)]), ne, p2, by rw [ht]; exact hP9, va_K.moved hW.alike hK9, hD9, (by first | (exfalso; omega) | rw [if_pos (by omega)] | rw [if_neg (by omega)]), (by first | (exfalso; omega) | rw [if_pos (by omega)] | rw [if_neg (by omega)])⟩, hS.F ht⟩) hS.2.2 dX9_rule_93
            · have t_61 := (fa_eq _ _).mp c_61
              refine lv_iload_n hx hb dX9_rule_64 rfl (lv_at hl 3 rfl) ?_
              refine lv_goto (tgt := 72) hx hb dX9_rule_65 (by decide) ?_
              refine va_put (D := (dC, dI)) (ci := 9) (v := .int p2) (ty := .int) (C := RX9) (T := TX9) (N := 22) hx hb hts in_X9_rule_X9 tyX9 tyX9_ok nmX9 hown hK hP hD hS 0 rfl rfl 6 (by decide) (hts (.fieldLink RX9 26 "MeetingsAboveModel" "near" "I") (by decide +kernel)) (fun _ h9 => h9) rfl (by decide +kernel) rfl rfl (Nat.le_of_ble_eq_true rfl) dX9_rule_72 (fun H locs hP hD hS => ?_)
              have hP : va_P (dC, dI) vwCl [(h0, .inr (9, [.int th, .ref a1, .ref a2, .ref a3, .ref a4, .ref a5, .int p2, .int wi, .int dn, .ref a6, .ref a7, .int nn, .ref a8, .int la, .ref a9, .ref a10, .long up, .long lw, .int wh, .long pu, .long pw, .ref a11]))] H := hP
              have hD : va_D A [(h0, .inr (9, [.int th, .ref a1, .ref a2, .ref a3, .ref a4, .ref a5, .int p2, .int wi, .int dn, .ref a6, .ref a7, .int nn, .ref a8, .int la, .ref a9, .ref a10, .long up, .long lw, .int wh, .long pu, .long pw, .ref a11]))] := hD
              refine lv_aload_n hx hb dX9_rule_75 rfl (lv_at hl 1 rfl) ?_
              refine lv_iload_n hx hb dX9_rule_76 rfl (lv_at hl 2 rfl) ?_
              refine lv_iconst (v := 1) hx hb dX9_rule_77 (by decide) ?_
              refine lv_icmp_ne (tgt := 85) hx hb dX9_rule_78 (by decide) (fun c_78 => ?_) (fun c_78 => ?_)
              · have t_78 := mt (fa_eq _ _).mpr c_78
                refine lv_aload_n hx hb dX9_rule_85 rfl (lv_at hl 1 rfl) ?_
                refine va_get (D := (dC, dI)) (ci := 9) (v := .int wi) (C := RX9) (T := TX9) (N := 22) hx hb hts in_X9_rule_X9 hown hK hP 0 rfl rfl 7 (by decide) (hts (.fieldLink RX9 30 "MeetingsAboveModel" "wide" "I") (by decide +kernel)) (fun _ h9 => h9) rfl dX9_rule_86 ?_
                refine va_put (D := (dC, dI)) (ci := 9) (v := .int wi) (ty := .int) (C := RX9) (T := TX9) (N := 22) hx hb hts in_X9_rule_X9 tyX9 tyX9_ok nmX9 hown hK hP hD hS 0 rfl rfl 7 (by decide) (hts (.fieldLink RX9 30 "MeetingsAboveModel" "wide" "I") (by decide +kernel)) (fun _ h9 => h9) rfl (by decide +kernel) rfl rfl (Nat.le_of_ble_eq_true rfl) dX9_rule_89 (fun H locs hP hD hS => ?_)
                have hP : va_P (dC, dI) vwCl [(h0, .inr (9, [.int th, .ref a1, .ref a2, .ref a3, .ref a4, .ref a5, .int p2, .int wi, .int dn, .ref a6, .ref a7, .int nn, .ref a8, .int la, .ref a9, .ref a10, .long up, .long lw, .int wh, .long pu, .long pw, .ref a11]))] H := hP
                have hD : va_D A [(h0, .inr (9, [.int th, .ref a1, .ref a2, .ref a3, .ref a4, .ref a5, .int p2, .int wi, .int dn, .ref a6, .ref a7, .int nn, .ref a8, .int la, .ref a9, .ref a10, .long up, .long lw, .int wh, .long pu, .long pw, .ref a11]))] := hD
                refine lv_iload_n hx hb dX9_rule_92 rfl (lv_at hl 0 rfl) ?_
                have hP9 := hP.sub (ws' := [(h0, .inr (9, [.int th, .ref a1, .ref a2, .ref a3, .ref a4, .ref a5, .int p2, .int wi, .int dn, .ref a6, .ref a7, .int nn, .ref a8, .int la, .ref a9, .ref a10, .long up, .long lw, .int wh, .long pu, .long pw, .ref a11]))]) [0] rfl
                have hD9 := hD.sub (ws' := [(h0, .inr (9, [.int th, .ref a1, .ref a2, .ref a3, .ref a4, .ref a5, .int p2, .int wi, .int dn, .ref a6, .ref a7, .int nn, .ref a8, .int la, .ref a9, .ref a10, .long up, .long lw, .int wh, .long pu, .long pw, .ref a11]))]) [0] (by decide) rfl
                have hK9 := hK.sub (tys' := []) [] rfl
                refine W.widen (k := 0) (n := 0) (by omega) (by omega) ?_
                exact W.iret (v := ne) hx hb hr (fun t ht hW => ⟨⟨_, (), rfl, (by first | (exfalso; omega) | rw [if_pos (by omega)] | rw [if_neg (by omega), if_pos (by omega)] | rw [if_neg (by omega), if_neg (by omega)]), p2, wi, by rw [ht]; exact hP9, va_K.moved hW.alike hK9, hD9, (by first | (exfalso; omega) | rw [if_pos (by omega)] | rw [if_neg (by omega)]), (by first | (exfalso; omega) | rw [if_pos (by omega)] | rw [if_neg (by omega)])⟩, hS.F ht⟩) hS.2.2 dX9_rule_93
              · have t_78 := (fa_eq _ _).mp c_78
                refine lv_iload_n hx hb dX9_rule_81 rfl (lv_at hl 3 rfl) ?_
                refine lv_goto (tgt := 89) hx hb dX9_rule_82 (by decide) ?_
                refine va_put (D := (dC, dI)) (ci := 9) (v := .int p2) (ty := .int) (C := RX9) (T := TX9) (N := 22) hx hb hts in_X9_rule_X9 tyX9 tyX9_ok nmX9 hown hK hP hD hS 0 rfl rfl 7 (by decide) (hts (.fieldLink RX9 30 "MeetingsAboveModel" "wide" "I") (by decide +kernel)) (fun _ h9 => h9) rfl (by decide +kernel) rfl rfl (Nat.le_of_ble_eq_true rfl) dX9_rule_89 (fun H locs hP hD hS => ?_)
                have hP : va_P (dC, dI) vwCl [(h0, .inr (9, [.int th, .ref a1, .ref a2, .ref a3, .ref a4, .ref a5, .int p2, .int p2, .int dn, .ref a6, .ref a7, .int nn, .ref a8, .int la, .ref a9, .ref a10, .long up, .long lw, .int wh, .long pu, .long pw, .ref a11]))] H := hP
                have hD : va_D A [(h0, .inr (9, [.int th, .ref a1, .ref a2, .ref a3, .ref a4, .ref a5, .int p2, .int p2, .int dn, .ref a6, .ref a7, .int nn, .ref a8, .int la, .ref a9, .ref a10, .long up, .long lw, .int wh, .long pu, .long pw, .ref a11]))] := hD
                refine lv_iload_n hx hb dX9_rule_92 rfl (lv_at hl 0 rfl) ?_
                have hP9 := hP.sub (ws' := [(h0, .inr (9, [.int th, .ref a1, .ref a2, .ref a3, .ref a4, .ref a5, .int p2, .int p2, .int dn, .ref a6, .ref a7, .int nn, .ref a8, .int la, .ref a9, .ref a10, .long up, .long lw, .int wh, .long pu, .long pw, .ref a11]))]) [0] rfl
                have hD9 := hD.sub (ws' := [(h0, .inr (9, [.int th, .ref a1, .ref a2, .ref a3, .ref a4, .ref a5, .int p2, .int p2, .int dn, .ref a6, .ref a7, .int nn, .ref a8, .int la, .ref a9, .ref a10, .long up, .long lw, .int wh, .long pu, .long pw, .ref a11]))]) [0] (by decide) rfl
                have hK9 := hK.sub (tys' := []) [] rfl
                refine W.widen (k := 0) (n := 0) (by omega) (by omega) ?_
                exact W.iret (v := ne) hx hb hr (fun t ht hW => ⟨⟨_, (), rfl, (by first | (exfalso; omega) | rw [if_pos (by omega)] | rw [if_neg (by omega), if_pos (by omega)] | rw [if_neg (by omega), if_neg (by omega)]), p2, p2, by rw [ht]; exact hP9, va_K.moved hW.alike hK9, hD9, (by first | (exfalso; omega) | rw [if_pos (by omega)] | rw [if_neg (by omega)]), (by first | (exfalso; omega) | rw [if_pos (by omega)] | rw [if_neg (by omega)])⟩, hS.F ht⟩) hS.2.2 dX9_rule_93
        · simp only [Int32.toInt_toInt64, klL_0, klL_400] at q_34
          refine lv_if_ne (tgt := 43) hx hb dX9_rule_37 (by decide) (fun h9 => absurd h9 (by decide)) (fun _ => ?_)
          refine lv_ldc hx hb hown (hts (.constant RX9 70 (-100002)) (by decide +kernel)) dX9_rule_40 ?_
          have hP9 := hP.sub (ws' := [(h0, .inr (9, [.int th, .ref a1, .ref a2, .ref a3, .ref a4, .ref a5, .int ne, .int wi, .int dn, .ref a6, .ref a7, .int nn, .ref a8, .int la, .ref a9, .ref a10, .long up, .long lw, .int wh, .long pu, .long pw, .ref a11]))]) [0] rfl
          have hD9 := hD.sub (ws' := [(h0, .inr (9, [.int th, .ref a1, .ref a2, .ref a3, .ref a4, .ref a5, .int ne, .int wi, .int dn, .ref a6, .ref a7, .int nn, .ref a8, .int la, .ref a9, .ref a10, .long up, .long lw, .int wh, .long pu, .long pw, .ref a11]))]) [0] (by decide) rfl
          have hK9 := hK.sub (tys' := []) [] rfl
          refine W.widen (k := 0) (n := 0) (by omega) (by omega) ?_
          exact W.iret (v := (-100002)) hx hb hr (fun t ht hW => ⟨⟨_, (), rfl, (by first | (exfalso; omega) | rw [if_pos (by omega)] | rw [if_neg (by omega), if_pos (by omega)] | rw [if_neg (by omega), if_neg (by omega)]), ne, wi, by rw [ht]; exact hP9, va_K.moved hW.alike hK9, hD9, (by first | (exfalso; omega) | rw [if_pos (by omega)] | rw [if_neg (by omega)]), (by first | (exfalso; omega) | rw [if_pos (by omega)] | rw [if_neg (by omega)])⟩, hS.F ht⟩) hS.2.2 dX9_rule_42
      · have t_22 := (fa_eq _ _).mp c_22
        refine lv_ldc2 hx hb hown (hts (.constantLong RX9 98 3000) (by decide +kernel)) dX9_rule_25 ?_
        refine lv_goto (tgt := 34) hx hb dX9_rule_28 (by decide) ?_
        refine vp_callSi (W.runS (As := [.long p2.toInt64, .long 0, .long 3000]) (rest := []) ⟨hx, hb, hml, hown, hts⟩ (c_X9_in l dC dI p2.toInt64 0 3000) (va_cwS 3 hts g_X9_rule__X9_in_55 rfl rfl rfl (by decide +kernel) ⟨Nat.le_of_ble_eq_true rfl, Nat.le_of_ble_eq_true rfl⟩) ⟨fun a U g mk q => by obtain ⟨q0, q1⟩ := q; exact ⟨q0, q1⟩, fun U hU hW => ⟨rfl, trivial⟩⟩ rfl rfl hl.1 rfl (lv_room (Nat.le_of_ble_eq_true rfl)) dX9_rule_34 ⟨Nat.le_of_ble_eq_true rfl, Nat.le_of_ble_eq_true rfl⟩) (fun r_3 hr_3 => ?_)
        try dsimp only at hr_3
        rcases bo_split hr_3 with ⟨rfl, q_34⟩ | ⟨rfl, q_34⟩
        · simp only [Int32.toInt_toInt64, klL_0, klL_3000] at q_34
          refine lv_if_ne (tgt := 43) hx hb dX9_rule_37 (by decide) (fun _ => ?_) (fun h9 => absurd h9 (by decide))
          refine lv_iload_n hx hb dX9_rule_43 rfl (lv_at hl 1 rfl) ?_
          refine lv_if_ne (tgt := 54) hx hb dX9_rule_44 (by decide) (fun c_44 => ?_) (fun c_44 => ?_)
          · have t_44 := mt (fa_eq _ _).mpr c_44
            refine lv_aload_n hx hb dX9_rule_54 rfl (lv_at hl 0 rfl) ?_
            refine va_get (D := (dC, dI)) (ci := 9) (v := .int wi) (C := RX9) (T := TX9) (N := 22) hx hb hts in_X9_rule_X9 hown hK hP 0 rfl rfl 7 (by decide) (hts (.fieldLink RX9 30 "MeetingsAboveModel" "wide" "I") (by decide +kernel)) (fun _ h9 => h9) rfl dX9_rule_55 ?_
            refine lv_istore_n (lv' := [(3, .int wi), (0, .ref h0), (1, .int p1), (2, .int p2)]) hx hb dX9_rule_58 rfl hl (by decide) rfl (fun ls hl => ?_)
            refine lv_aload_n hx hb dX9_rule_59 rfl (lv_at hl 1 rfl) ?_
            refine lv_iload_n hx hb dX9_rule_60 rfl (lv_at hl 2 rfl) ?_
            refine lv_if_ne (tgt := 68) hx hb dX9_rule_61 (by decide) (fun c_61 => ?_) (fun c_61 => ?_)
            · have t_61 := mt (fa_eq _ _).mpr c_61
              refine lv_aload_n hx hb dX9_rule_68 rfl (lv_at hl 1 rfl) ?_
              refine va_get (D := (dC, dI)) (ci := 9) (v := .int ne) (C := RX9) (T := TX9) (N := 22) hx hb hts in_X9_rule_X9 hown hK hP 0 rfl rfl 6 (by decide) (hts (.fieldLink RX9 26 "MeetingsAboveModel" "near" "I") (by decide +kernel)) (fun _ h9 => h9) rfl dX9_rule_69 ?_
              refine va_put (D := (dC, dI)) (ci := 9) (v := .int ne) (ty := .int) (C := RX9) (T := TX9) (N := 22) hx hb hts in_X9_rule_X9 tyX9 tyX9_ok nmX9 hown hK hP hD hS 0 rfl rfl 6 (by decide) (hts (.fieldLink RX9 26 "MeetingsAboveModel" "near" "I") (by decide +kernel)) (fun _ h9 => h9) rfl (by decide +kernel) rfl rfl (Nat.le_of_ble_eq_true rfl) dX9_rule_72 (fun H locs hP hD hS => ?_)
              have hP : va_P (dC, dI) vwCl [(h0, .inr (9, [.int th, .ref a1, .ref a2, .ref a3, .ref a4, .ref a5, .int ne, .int wi, .int dn, .ref a6, .ref a7, .int nn, .ref a8, .int la, .ref a9, .ref a10, .long up, .long lw, .int wh, .long pu, .long pw, .ref a11]))] H := hP
              have hD : va_D A [(h0, .inr (9, [.int th, .ref a1, .ref a2, .ref a3, .ref a4, .ref a5, .int ne, .int wi, .int dn, .ref a6, .ref a7, .int nn, .ref a8, .int la, .ref a9, .ref a10, .long up, .long lw, .int wh, .long pu, .long pw, .ref a11]))] := hD
              refine lv_aload_n hx hb dX9_rule_75 rfl (lv_at hl 1 rfl) ?_
              refine lv_iload_n hx hb dX9_rule_76 rfl (lv_at hl 2 rfl) ?_
              refine lv_iconst (v := 1) hx hb dX9_rule_77 (by decide) ?_
              refine lv_icmp_ne (tgt := 85) hx hb dX9_rule_78 (by decide) (fun c_78 => ?_) (fun c_78 => ?_)
              · have t_78 := mt (fa_eq _ _).mpr c_78
                refine lv_aload_n hx hb dX9_rule_85 rfl (lv_at hl 1 rfl) ?_
                refine va_get (D := (dC, dI)) (ci := 9) (v := .int wi) (C := RX9) (T := TX9) (N := 22) hx hb hts in_X9_rule_X9 hown hK hP 0 rfl rfl 7 (by decide) (hts (.fieldLink RX9 30 "MeetingsAboveModel" "wide" "I") (by decide +kernel)) (fun _ h9 => h9) rfl dX9_rule_86 ?_
                refine va_put (D := (dC, dI)) (ci := 9) (v := .int wi) (ty := .int) (C := RX9) (T := TX9) (N := 22) hx hb hts in_X9_rule_X9 tyX9 tyX9_ok nmX9 hown hK hP hD hS 0 rfl rfl 7 (by decide) (hts (.fieldLink RX9 30 "MeetingsAboveModel" "wide" "I") (by decide +kernel)) (fun _ h9 => h9) rfl (by decide +kernel) rfl rfl (Nat.le_of_ble_eq_true rfl) dX9_rule_89 (fun H locs hP hD hS => ?_)
                have hP : va_P (dC, dI) vwCl [(h0, .inr (9, [.int th, .ref a1, .ref a2, .ref a3, .ref a4, .ref a5, .int ne, .int wi, .int dn, .ref a6, .ref a7, .int nn, .ref a8, .int la, .ref a9, .ref a10, .long up, .long lw, .int wh, .long pu, .long pw, .ref a11]))] H := hP
                have hD : va_D A [(h0, .inr (9, [.int th, .ref a1, .ref a2, .ref a3, .ref a4, .ref a5, .int ne, .int wi, .int dn, .ref a6, .ref a7, .int nn, .ref a8, .int la, .ref a9, .ref a10, .long up, .long lw, .int wh, .long pu, .long pw, .ref a11]))] := hD
                refine lv_iload_n hx hb dX9_rule_92 rfl (lv_at hl 0 rfl) ?_
                have hP9 := hP.sub (ws' := [(h0, .inr (9, [.int th, .ref a1, .ref a2, .ref a3, .ref a4, .ref a5, .int ne, .int wi, .int dn, .ref a6, .ref a7, .int nn, .ref a8, .int la, .ref a9, .ref a10, .long up, .long lw, .int wh, .long pu, .long pw, .ref a11]))]) [0] rfl
                have hD9 := hD.sub (ws' := [(h0, .inr (9, [.int th, .ref a1, .ref a2, .ref a3, .ref a4, .ref a5, .int ne, .int wi, .int dn, .ref a6, .ref a7, .int nn, .ref a8, .int la, .ref a9, .ref a10, .long up, .long lw, .int wh, .long pu, .long pw, .ref a11]))]) [0] (by decide) rfl
                have hK9 := hK.sub (tys' := []) [] rfl
                refine W.widen (k := 0) (n := 0) (by omega) (by omega) ?_
                exact W.iret (v := wi) hx hb hr (fun t ht hW => ⟨⟨_, (), rfl, (by first | (exfalso; omega) | rw [if_pos (by omega)] | rw [if_neg (by omega), if_pos (by omega)] | rw [if_neg (by omega), if_neg (by omega)]), ne, wi, by rw [ht]; exact hP9, va_K.moved hW.alike hK9, hD9, (by first | (exfalso; omega) | rw [if_pos (by omega)] | rw [if_neg (by omega)]), (by first | (exfalso; omega) | rw [if_pos (by omega)] | rw [if_neg (by omega)])⟩, hS.F ht⟩) hS.2.2 dX9_rule_93
              · have t_78 := (fa_eq _ _).mp c_78
                refine lv_iload_n hx hb dX9_rule_81 rfl (lv_at hl 3 rfl) ?_
                refine lv_goto (tgt := 89) hx hb dX9_rule_82 (by decide) ?_
                refine va_put (D := (dC, dI)) (ci := 9) (v := .int p2) (ty := .int) (C := RX9) (T := TX9) (N := 22) hx hb hts in_X9_rule_X9 tyX9 tyX9_ok nmX9 hown hK hP hD hS 0 rfl rfl 7 (by decide) (hts (.fieldLink RX9 30 "MeetingsAboveModel" "wide" "I") (by decide +kernel)) (fun _ h9 => h9) rfl (by decide +kernel) rfl rfl (Nat.le_of_ble_eq_true rfl) dX9_rule_89 (fun H locs hP hD hS => ?_)
                have hP : va_P (dC, dI) vwCl [(h0, .inr (9, [.int th, .ref a1, .ref a2, .ref a3, .ref a4, .ref a5, .int ne, .int p2, .int dn, .ref a6, .ref a7, .int nn, .ref a8, .int la, .ref a9, .ref a10, .long up, .long lw, .int wh, .long pu, .long pw, .ref a11]))] H := hP
                have hD : va_D A [(h0, .inr (9, [.int th, .ref a1, .ref a2, .ref a3, .ref a4, .ref a5, .int ne, .int p2, .int dn, .ref a6, .ref a7, .int nn, .ref a8, .int la, .ref a9, .ref a10, .long up, .long lw, .int wh, .long pu, .long pw, .ref a11]))] := hD
                refine lv_iload_n hx hb dX9_rule_92 rfl (lv_at hl 0 rfl) ?_
                have hP9 := hP.sub (ws' := [(h0, .inr (9, [.int th, .ref a1, .ref a2, .ref a3, .ref a4, .ref a5, .int ne, .int p2, .int dn, .ref a6, .ref a7, .int nn, .ref a8, .int la, .ref a9, .ref a10, .long up, .long lw, .int wh, .long pu, .long pw, .ref a11]))]) [0] rfl
                have hD9 := hD.sub (ws' := [(h0, .inr (9, [.int th, .ref a1, .ref a2, .ref a3, .ref a4, .ref a5, .int ne, .int p2, .int dn, .ref a6, .ref a7, .int nn, .ref a8, .int la, .ref a9, .ref a10, .long up, .long lw, .int wh, .long pu, .long pw, .ref a11]))]) [0] (by decide) rfl
                have hK9 := hK.sub (tys' := []) [] rfl
                refine W.widen (k := 0) (n := 0) (by omega) (by omega) ?_
                exact W.iret (v := wi) hx hb hr (fun t ht hW => ⟨⟨_, (), rfl, (by first | (exfalso; omega) | rw [if_pos (by omega)] | rw [if_neg (by omega), if_pos (by omega)] | rw [if_neg (by omega), if_neg (by omega)]), ne, p2, by rw [ht]; exact hP9, va_K.moved hW.alike hK9, hD9, (by first | (exfalso; omega) | rw [if_pos (by omega)] | rw [if_neg (by omega)]), (by first | (exfalso; omega) | rw [if_pos (by omega)] | rw [if_neg (by omega)])⟩, hS.F ht⟩) hS.2.2 dX9_rule_93
            · have t_61 := (fa_eq _ _).mp c_61
              refine lv_iload_n hx hb dX9_rule_64 rfl (lv_at hl 3 rfl) ?_
              refine lv_goto (tgt := 72) hx hb dX9_rule_65 (by decide) ?_
              refine va_put (D := (dC, dI)) (ci := 9) (v := .int p2) (ty := .int) (C := RX9) (T := TX9) (N := 22) hx hb hts in_X9_rule_X9 tyX9 tyX9_ok nmX9 hown hK hP hD hS 0 rfl rfl 6 (by decide) (hts (.fieldLink RX9 26 "MeetingsAboveModel" "near" "I") (by decide +kernel)) (fun _ h9 => h9) rfl (by decide +kernel) rfl rfl (Nat.le_of_ble_eq_true rfl) dX9_rule_72 (fun H locs hP hD hS => ?_)
              have hP : va_P (dC, dI) vwCl [(h0, .inr (9, [.int th, .ref a1, .ref a2, .ref a3, .ref a4, .ref a5, .int p2, .int wi, .int dn, .ref a6, .ref a7, .int nn, .ref a8, .int la, .ref a9, .ref a10, .long up, .long lw, .int wh, .long pu, .long pw, .ref a11]))] H := hP
              have hD : va_D A [(h0, .inr (9, [.int th, .ref a1, .ref a2, .ref a3, .ref a4, .ref a5, .int p2, .int wi, .int dn, .ref a6, .ref a7, .int nn, .ref a8, .int la, .ref a9, .ref a10, .long up, .long lw, .int wh, .long pu, .long pw, .ref a11]))] := hD
              refine lv_aload_n hx hb dX9_rule_75 rfl (lv_at hl 1 rfl) ?_
              refine lv_iload_n hx hb dX9_rule_76 rfl (lv_at hl 2 rfl) ?_
              refine lv_iconst (v := 1) hx hb dX9_rule_77 (by decide) ?_
              refine lv_icmp_ne (tgt := 85) hx hb dX9_rule_78 (by decide) (fun c_78 => ?_) (fun c_78 => ?_)
              · have t_78 := mt (fa_eq _ _).mpr c_78
                refine lv_aload_n hx hb dX9_rule_85 rfl (lv_at hl 1 rfl) ?_
                refine va_get (D := (dC, dI)) (ci := 9) (v := .int wi) (C := RX9) (T := TX9) (N := 22) hx hb hts in_X9_rule_X9 hown hK hP 0 rfl rfl 7 (by decide) (hts (.fieldLink RX9 30 "MeetingsAboveModel" "wide" "I") (by decide +kernel)) (fun _ h9 => h9) rfl dX9_rule_86 ?_
                refine va_put (D := (dC, dI)) (ci := 9) (v := .int wi) (ty := .int) (C := RX9) (T := TX9) (N := 22) hx hb hts in_X9_rule_X9 tyX9 tyX9_ok nmX9 hown hK hP hD hS 0 rfl rfl 7 (by decide) (hts (.fieldLink RX9 30 "MeetingsAboveModel" "wide" "I") (by decide +kernel)) (fun _ h9 => h9) rfl (by decide +kernel) rfl rfl (Nat.le_of_ble_eq_true rfl) dX9_rule_89 (fun H locs hP hD hS => ?_)
                have hP : va_P (dC, dI) vwCl [(h0, .inr (9, [.int th, .ref a1, .ref a2, .ref a3, .ref a4, .ref a5, .int p2, .int wi, .int dn, .ref a6, .ref a7, .int nn, .ref a8, .int la, .ref a9, .ref a10, .long up, .long lw, .int wh, .long pu, .long pw, .ref a11]))] H := hP
                have hD : va_D A [(h0, .inr (9, [.int th, .ref a1, .ref a2, .ref a3, .ref a4, .ref a5, .int p2, .int wi, .int dn, .ref a6, .ref a7, .int nn, .ref a8, .int la, .ref a9, .ref a10, .long up, .long lw, .int wh, .long pu, .long pw, .ref a11]))] := hD
                refine lv_iload_n hx hb dX9_rule_92 rfl (lv_at hl 0 rfl) ?_
                have hP9 := hP.sub (ws' := [(h0, .inr (9, [.int th, .ref a1, .ref a2, .ref a3, .ref a4, .ref a5, .int p2, .int wi, .int dn, .ref a6, .ref a7, .int nn, .ref a8, .int la, .ref a9, .ref a10, .long up, .long lw, .int wh, .long pu, .long pw, .ref a11]))]) [0] rfl
                have hD9 := hD.sub (ws' := [(h0, .inr (9, [.int th, .ref a1, .ref a2, .ref a3, .ref a4, .ref a5, .int p2, .int wi, .int dn, .ref a6, .ref a7, .int nn, .ref a8, .int la, .ref a9, .ref a10, .long up, .long lw, .int wh, .long pu, .long pw, .ref a11]))]) [0] (by decide) rfl
                have hK9 := hK.sub (tys' := []) [] rfl
                refine W.widen (k := 0) (n := 0) (by omega) (by omega) ?_
                exact W.iret (v := wi) hx hb hr (fun t ht hW => ⟨⟨_, (), rfl, (by first | (exfalso; omega) | rw [if_pos (by omega)] | rw [if_neg (by omega), if_pos (by omega)] | rw [if_neg (by omega), if_neg (by omega)]), p2, wi, by rw [ht]; exact hP9, va_K.moved hW.alike hK9, hD9, (by first | (exfalso; omega) | rw [if_pos (by omega)] | rw [if_neg (by omega)]), (by first | (exfalso; omega) | rw [if_pos (by omega)] | rw [if_neg (by omega)])⟩, hS.F ht⟩) hS.2.2 dX9_rule_93
              · have t_78 := (fa_eq _ _).mp c_78
                refine lv_iload_n hx hb dX9_rule_81 rfl (lv_at hl 3 rfl) ?_
                refine lv_goto (tgt := 89) hx hb dX9_rule_82 (by decide) ?_
                refine va_put (D := (dC, dI)) (ci := 9) (v := .int p2) (ty := .int) (C := RX9) (T := TX9) (N := 22) hx hb hts in_X9_rule_X9 tyX9 tyX9_ok nmX9 hown hK hP hD hS 0 rfl rfl 7 (by decide) (hts (.fieldLink RX9 30 "MeetingsAboveModel" "wide" "I") (by decide +kernel)) (fun _ h9 => h9) rfl (by decide +kernel) rfl rfl (Nat.le_of_ble_eq_true rfl) dX9_rule_89 (fun H locs hP hD hS => ?_)
                have hP : va_P (dC, dI) vwCl [(h0, .inr (9, [.int th, .ref a1, .ref a2, .ref a3, .ref a4, .ref a5, .int p2, .int p2, .int dn, .ref a6, .ref a7, .int nn, .ref a8, .int la, .ref a9, .ref a10, .long up, .long lw, .int wh, .long pu, .long pw, .ref a11]))] H := hP
                have hD : va_D A [(h0, .inr (9, [.int th, .ref a1, .ref a2, .ref a3, .ref a4, .ref a5, .int p2, .int p2, .int dn, .ref a6, .ref a7, .int nn, .ref a8, .int la, .ref a9, .ref a10, .long up, .long lw, .int wh, .long pu, .long pw, .ref a11]))] := hD
                refine lv_iload_n hx hb dX9_rule_92 rfl (lv_at hl 0 rfl) ?_
                have hP9 := hP.sub (ws' := [(h0, .inr (9, [.int th, .ref a1, .ref a2, .ref a3, .ref a4, .ref a5, .int p2, .int p2, .int dn, .ref a6, .ref a7, .int nn, .ref a8, .int la, .ref a9, .ref a10, .long up, .long lw, .int wh, .long pu, .long pw, .ref a11]))]) [0] rfl
                have hD9 := hD.sub (ws' := [(h0, .inr (9, [.int th, .ref a1, .ref a2, .ref a3, .ref a4, .ref a5, .int p2, .int p2, .int dn, .ref a6, .ref a7, .int nn, .ref a8, .int la, .ref a9, .ref a10, .long up, .long lw, .int wh, .long pu, .long pw, .ref a11]))]) [0] (by decide) rfl
                have hK9 := hK.sub (tys' := []) [] rfl
                refine W.widen (k := 0) (n := 0) (by omega) (by omega) ?_
                exact W.iret (v := wi) hx hb hr (fun t ht hW => ⟨⟨_, (), rfl, (by first | (exfalso; omega) | rw [if_pos (by omega)] | rw [if_neg (by omega), if_pos (by omega)] | rw [if_neg (by omega), if_neg (by omega)]), p2, p2, by rw [ht]; exact hP9, va_K.moved hW.alike hK9, hD9, (by first | (exfalso; omega) | rw [if_pos (by omega)] | rw [if_neg (by omega)]), (by first | (exfalso; omega) | rw [if_pos (by omega)] | rw [if_neg (by omega)])⟩, hS.F ht⟩) hS.2.2 dX9_rule_93
          · have t_44 := (fa_eq _ _).mp c_44
            refine lv_aload_n hx hb dX9_rule_47 rfl (lv_at hl 0 rfl) ?_
            refine va_get (D := (dC, dI)) (ci := 9) (v := .int ne) (C := RX9) (T := TX9) (N := 22) hx hb hts in_X9_rule_X9 hown hK hP 0 rfl rfl 6 (by decide) (hts (.fieldLink RX9 26 "MeetingsAboveModel" "near" "I") (by decide +kernel)) (fun _ h9 => h9) rfl dX9_rule_48 ?_
            refine lv_goto (tgt := 58) hx hb dX9_rule_51 (by decide) ?_
            refine lv_istore_n (lv' := [(3, .int ne), (0, .ref h0), (1, .int p1), (2, .int p2)]) hx hb dX9_rule_58 rfl hl (by decide) rfl (fun ls hl => ?_)
            refine lv_aload_n hx hb dX9_rule_59 rfl (lv_at hl 1 rfl) ?_
            refine lv_iload_n hx hb dX9_rule_60 rfl (lv_at hl 2 rfl) ?_
            refine lv_if_ne (tgt := 68) hx hb dX9_rule_61 (by decide) (fun c_61 => ?_) (fun c_61 => ?_)
            · have t_61 := mt (fa_eq _ _).mpr c_61
              refine lv_aload_n hx hb dX9_rule_68 rfl (lv_at hl 1 rfl) ?_
              refine va_get (D := (dC, dI)) (ci := 9) (v := .int ne) (C := RX9) (T := TX9) (N := 22) hx hb hts in_X9_rule_X9 hown hK hP 0 rfl rfl 6 (by decide) (hts (.fieldLink RX9 26 "MeetingsAboveModel" "near" "I") (by decide +kernel)) (fun _ h9 => h9) rfl dX9_rule_69 ?_
              refine va_put (D := (dC, dI)) (ci := 9) (v := .int ne) (ty := .int) (C := RX9) (T := TX9) (N := 22) hx hb hts in_X9_rule_X9 tyX9 tyX9_ok nmX9 hown hK hP hD hS 0 rfl rfl 6 (by decide) (hts (.fieldLink RX9 26 "MeetingsAboveModel" "near" "I") (by decide +kernel)) (fun _ h9 => h9) rfl (by decide +kernel) rfl rfl (Nat.le_of_ble_eq_true rfl) dX9_rule_72 (fun H locs hP hD hS => ?_)
              have hP : va_P (dC, dI) vwCl [(h0, .inr (9, [.int th, .ref a1, .ref a2, .ref a3, .ref a4, .ref a5, .int ne, .int wi, .int dn, .ref a6, .ref a7, .int nn, .ref a8, .int la, .ref a9, .ref a10, .long up, .long lw, .int wh, .long pu, .long pw, .ref a11]))] H := hP
              have hD : va_D A [(h0, .inr (9, [.int th, .ref a1, .ref a2, .ref a3, .ref a4, .ref a5, .int ne, .int wi, .int dn, .ref a6, .ref a7, .int nn, .ref a8, .int la, .ref a9, .ref a10, .long up, .long lw, .int wh, .long pu, .long pw, .ref a11]))] := hD
              refine lv_aload_n hx hb dX9_rule_75 rfl (lv_at hl 1 rfl) ?_
              refine lv_iload_n hx hb dX9_rule_76 rfl (lv_at hl 2 rfl) ?_
              refine lv_iconst (v := 1) hx hb dX9_rule_77 (by decide) ?_
              refine lv_icmp_ne (tgt := 85) hx hb dX9_rule_78 (by decide) (fun c_78 => ?_) (fun c_78 => ?_)
              · have t_78 := mt (fa_eq _ _).mpr c_78
                refine lv_aload_n hx hb dX9_rule_85 rfl (lv_at hl 1 rfl) ?_
                refine va_get (D := (dC, dI)) (ci := 9) (v := .int wi) (C := RX9) (T := TX9) (N := 22) hx hb hts in_X9_rule_X9 hown hK hP 0 rfl rfl 7 (by decide) (hts (.fieldLink RX9 30 "MeetingsAboveModel" "wide" "I") (by decide +kernel)) (fun _ h9 => h9) rfl dX9_rule_86 ?_
                refine va_put (D := (dC, dI)) (ci := 9) (v := .int wi) (ty := .int) (C := RX9) (T := TX9) (N := 22) hx hb hts in_X9_rule_X9 tyX9 tyX9_ok nmX9 hown hK hP hD hS 0 rfl rfl 7 (by decide) (hts (.fieldLink RX9 30 "MeetingsAboveModel" "wide" "I") (by decide +kernel)) (fun _ h9 => h9) rfl (by decide +kernel) rfl rfl (Nat.le_of_ble_eq_true rfl) dX9_rule_89 (fun H locs hP hD hS => ?_)
                have hP : va_P (dC, dI) vwCl [(h0, .inr (9, [.int th, .ref a1, .ref a2, .ref a3, .ref a4, .ref a5, .int ne, .int wi, .int dn, .ref a6, .ref a7, .int nn, .ref a8, .int la, .ref a9, .ref a10, .long up, .long lw, .int wh, .long pu, .long pw, .ref a11]))] H := hP
                have hD : va_D A [(h0, .inr (9, [.int th, .ref a1, .ref a2, .ref a3, .ref a4, .ref a5, .int ne, .int wi, .int dn, .ref a6, .ref a7, .int nn, .ref a8, .int la, .ref a9, .ref a10, .long up, .long lw, .int wh, .long pu, .long pw, .ref a11]))] := hD
                refine lv_iload_n hx hb dX9_rule_92 rfl (lv_at hl 0 rfl) ?_
                have hP9 := hP.sub (ws' := [(h0, .inr (9, [.int th, .ref a1, .ref a2, .ref a3, .ref a4, .ref a5, .int ne, .int wi, .int dn, .ref a6, .ref a7, .int nn, .ref a8, .int la, .ref a9, .ref a10, .long up, .long lw, .int wh, .long pu, .long pw, .ref a11]))]) [0] rfl
                have hD9 := hD.sub (ws' := [(h0, .inr (9, [.int th, .ref a1, .ref a2, .ref a3, .ref a4, .ref a5, .int ne, .int wi, .int dn, .ref a6, .ref a7, .int nn, .ref a8, .int la, .ref a9, .ref a10, .long up, .long lw, .int wh, .long pu, .long pw, .ref a11]))]) [0] (by decide) rfl
                have hK9 := hK.sub (tys' := []) [] rfl
                refine W.widen (k := 0) (n := 0) (by omega) (by omega) ?_
                exact W.iret (v := ne) hx hb hr (fun t ht hW => ⟨⟨_, (), rfl, (by first | (exfalso; omega) | rw [if_pos (by omega)] | rw [if_neg (by omega), if_pos (by omega)] | rw [if_neg (by omega), if_neg (by omega)]), ne, wi, by rw [ht]; exact hP9, va_K.moved hW.alike hK9, hD9, (by first | (exfalso; omega) | rw [if_pos (by omega)] | rw [if_neg (by omega)]), (by first | (exfalso; omega) | rw [if_pos (by omega)] | rw [if_neg (by omega)])⟩, hS.F ht⟩) hS.2.2 dX9_rule_93
              · have t_78 := (fa_eq _ _).mp c_78
                refine lv_iload_n hx hb dX9_rule_81 rfl (lv_at hl 3 rfl) ?_
                refine lv_goto (tgt := 89) hx hb dX9_rule_82 (by decide) ?_
                refine va_put (D := (dC, dI)) (ci := 9) (v := .int p2) (ty := .int) (C := RX9) (T := TX9) (N := 22) hx hb hts in_X9_rule_X9 tyX9 tyX9_ok nmX9 hown hK hP hD hS 0 rfl rfl 7 (by decide) (hts (.fieldLink RX9 30 "MeetingsAboveModel" "wide" "I") (by decide +kernel)) (fun _ h9 => h9) rfl (by decide +kernel) rfl rfl (Nat.le_of_ble_eq_true rfl) dX9_rule_89 (fun H locs hP hD hS => ?_)
                have hP : va_P (dC, dI) vwCl [(h0, .inr (9, [.int th, .ref a1, .ref a2, .ref a3, .ref a4, .ref a5, .int ne, .int p2, .int dn, .ref a6, .ref a7, .int nn, .ref a8, .int la, .ref a9, .ref a10, .long up, .long lw, .int wh, .long pu, .long pw, .ref a11]))] H := hP
                have hD : va_D A [(h0, .inr (9, [.int th, .ref a1, .ref a2, .ref a3, .ref a4, .ref a5, .int ne, .int p2, .int dn, .ref a6, .ref a7, .int nn, .ref a8, .int la, .ref a9, .ref a10, .long up, .long lw, .int wh, .long pu, .long pw, .ref a11]))] := hD
                refine lv_iload_n hx hb dX9_rule_92 rfl (lv_at hl 0 rfl) ?_
                have hP9 := hP.sub (ws' := [(h0, .inr (9, [.int th, .ref a1, .ref a2, .ref a3, .ref a4, .ref a5, .int ne, .int p2, .int dn, .ref a6, .ref a7, .int nn, .ref a8, .int la, .ref a9, .ref a10, .long up, .long lw, .int wh, .long pu, .long pw, .ref a11]))]) [0] rfl
                have hD9 := hD.sub (ws' := [(h0, .inr (9, [.int th, .ref a1, .ref a2, .ref a3, .ref a4, .ref a5, .int ne, .int p2, .int dn, .ref a6, .ref a7, .int nn, .ref a8, .int la, .ref a9, .ref a10, .long up, .long lw, .int wh, .long pu, .long pw, .ref a11]))]) [0] (by decide) rfl
                have hK9 := hK.sub (tys' := []) [] rfl
                refine W.widen (k := 0) (n := 0) (by omega) (by omega) ?_
                exact W.iret (v := ne) hx hb hr (fun t ht hW => ⟨⟨_, (), rfl, (by first | (exfalso; omega) | rw [if_pos (by omega)] | rw [if_neg (by omega), if_pos (by omega)] | rw [if_neg (by omega), if_neg (by omega)]), ne, p2, by rw [ht]; exact hP9, va_K.moved hW.alike hK9, hD9, (by first | (exfalso; omega) | rw [if_pos (by omega)] | rw [if_neg (by omega)]), (by first | (exfalso; omega) | rw [if_pos (by omega)] | rw [if_neg (by omega)])⟩, hS.F ht⟩) hS.2.2 dX9_rule_93
            · have t_61 := (fa_eq _ _).mp c_61
              refine lv_iload_n hx hb dX9_rule_64 rfl (lv_at hl 3 rfl) ?_
              refine lv_goto (tgt := 72) hx hb dX9_rule_65 (by decide) ?_
              refine va_put (D := (dC, dI)) (ci := 9) (v := .int p2) (ty := .int) (C := RX9) (T := TX9) (N := 22) hx hb hts in_X9_rule_X9 tyX9 tyX9_ok nmX9 hown hK hP hD hS 0 rfl rfl 6 (by decide) (hts (.fieldLink RX9 26 "MeetingsAboveModel" "near" "I") (by decide +kernel)) (fun _ h9 => h9) rfl (by decide +kernel) rfl rfl (Nat.le_of_ble_eq_true rfl) dX9_rule_72 (fun H locs hP hD hS => ?_)
              have hP : va_P (dC, dI) vwCl [(h0, .inr (9, [.int th, .ref a1, .ref a2, .ref a3, .ref a4, .ref a5, .int p2, .int wi, .int dn, .ref a6, .ref a7, .int nn, .ref a8, .int la, .ref a9, .ref a10, .long up, .long lw, .int wh, .long pu, .long pw, .ref a11]))] H := hP
              have hD : va_D A [(h0, .inr (9, [.int th, .ref a1, .ref a2, .ref a3, .ref a4, .ref a5, .int p2, .int wi, .int dn, .ref a6, .ref a7, .int nn, .ref a8, .int la, .ref a9, .ref a10, .long up, .long lw, .int wh, .long pu, .long pw, .ref a11]))] := hD
              refine lv_aload_n hx hb dX9_rule_75 rfl (lv_at hl 1 rfl) ?_
              refine lv_iload_n hx hb dX9_rule_76 rfl (lv_at hl 2 rfl) ?_
              refine lv_iconst (v := 1) hx hb dX9_rule_77 (by decide) ?_
              refine lv_icmp_ne (tgt := 85) hx hb dX9_rule_78 (by decide) (fun c_78 => ?_) (fun c_78 => ?_)
              · have t_78 := mt (fa_eq _ _).mpr c_78
                refine lv_aload_n hx hb dX9_rule_85 rfl (lv_at hl 1 rfl) ?_
                refine va_get (D := (dC, dI)) (ci := 9) (v := .int wi) (C := RX9) (T := TX9) (N := 22) hx hb hts in_X9_rule_X9 hown hK hP 0 rfl rfl 7 (by decide) (hts (.fieldLink RX9 30 "MeetingsAboveModel" "wide" "I") (by decide +kernel)) (fun _ h9 => h9) rfl dX9_rule_86 ?_
                refine va_put (D := (dC, dI)) (ci := 9) (v := .int wi) (ty := .int) (C := RX9) (T := TX9) (N := 22) hx hb hts in_X9_rule_X9 tyX9 tyX9_ok nmX9 hown hK hP hD hS 0 rfl rfl 7 (by decide) (hts (.fieldLink RX9 30 "MeetingsAboveModel" "wide" "I") (by decide +kernel)) (fun _ h9 => h9) rfl (by decide +kernel) rfl rfl (Nat.le_of_ble_eq_true rfl) dX9_rule_89 (fun H locs hP hD hS => ?_)
                have hP : va_P (dC, dI) vwCl [(h0, .inr (9, [.int th, .ref a1, .ref a2, .ref a3, .ref a4, .ref a5, .int p2, .int wi, .int dn, .ref a6, .ref a7, .int nn, .ref a8, .int la, .ref a9, .ref a10, .long up, .long lw, .int wh, .long pu, .long pw, .ref a11]))] H := hP
                have hD : va_D A [(h0, .inr (9, [.int th, .ref a1, .ref a2, .ref a3, .ref a4, .ref a5, .int p2, .int wi, .int dn, .ref a6, .ref a7, .int nn, .ref a8, .int la, .ref a9, .ref a10, .long up, .long lw, .int wh, .long pu, .long pw, .ref a11]))] := hD
                refine lv_iload_n hx hb dX9_rule_92 rfl (lv_at hl 0 rfl) ?_
                have hP9 := hP.sub (ws' := [(h0, .inr (9, [.int th, .ref a1, .ref a2, .ref a3, .ref a4, .ref a5, .int p2, .int wi, .int dn, .ref a6, .ref a7, .int nn, .ref a8, .int la, .ref a9, .ref a10, .long up, .long lw, .int wh, .long pu, .long pw, .ref a11]))]) [0] rfl
                have hD9 := hD.sub (ws' := [(h0, .inr (9, [.int th, .ref a1, .ref a2, .ref a3, .ref a4, .ref a5, .int p2, .int wi, .int dn, .ref a6, .ref a7, .int nn, .ref a8, .int la, .ref a9, .ref a10, .long up, .long lw, .int wh, .long pu, .long pw, .ref a11]))]) [0] (by decide) rfl
                have hK9 := hK.sub (tys' := []) [] rfl
                refine W.widen (k := 0) (n := 0) (by omega) (by omega) ?_
                exact W.iret (v := ne) hx hb hr (fun t ht hW => ⟨⟨_, (), rfl, (by first | (exfalso; omega) | rw [if_pos (by omega)] | rw [if_neg (by omega), if_pos (by omega)] | rw [if_neg (by omega), if_neg (by omega)]), p2, wi, by rw [ht]; exact hP9, va_K.moved hW.alike hK9, hD9, (by first | (exfalso; omega) | rw [if_pos (by omega)] | rw [if_neg (by omega)]), (by first | (exfalso; omega) | rw [if_pos (by omega)] | rw [if_neg (by omega)])⟩, hS.F ht⟩) hS.2.2 dX9_rule_93
              · have t_78 := (fa_eq _ _).mp c_78
                refine lv_iload_n hx hb dX9_rule_81 rfl (lv_at hl 3 rfl) ?_
                refine lv_goto (tgt := 89) hx hb dX9_rule_82 (by decide) ?_
                refine va_put (D := (dC, dI)) (ci := 9) (v := .int p2) (ty := .int) (C := RX9) (T := TX9) (N := 22) hx hb hts in_X9_rule_X9 tyX9 tyX9_ok nmX9 hown hK hP hD hS 0 rfl rfl 7 (by decide) (hts (.fieldLink RX9 30 "MeetingsAboveModel" "wide" "I") (by decide +kernel)) (fun _ h9 => h9) rfl (by decide +kernel) rfl rfl (Nat.le_of_ble_eq_true rfl) dX9_rule_89 (fun H locs hP hD hS => ?_)
                have hP : va_P (dC, dI) vwCl [(h0, .inr (9, [.int th, .ref a1, .ref a2, .ref a3, .ref a4, .ref a5, .int p2, .int p2, .int dn, .ref a6, .ref a7, .int nn, .ref a8, .int la, .ref a9, .ref a10, .long up, .long lw, .int wh, .long pu, .long pw, .ref a11]))] H := hP
                have hD : va_D A [(h0, .inr (9, [.int th, .ref a1, .ref a2, .ref a3, .ref a4, .ref a5, .int p2, .int p2, .int dn, .ref a6, .ref a7, .int nn, .ref a8, .int la, .ref a9, .ref a10, .long up, .long lw, .int wh, .long pu, .long pw, .ref a11]))] := hD
                refine lv_iload_n hx hb dX9_rule_92 rfl (lv_at hl 0 rfl) ?_
                have hP9 := hP.sub (ws' := [(h0, .inr (9, [.int th, .ref a1, .ref a2, .ref a3, .ref a4, .ref a5, .int p2, .int p2, .int dn, .ref a6, .ref a7, .int nn, .ref a8, .int la, .ref a9, .ref a10, .long up, .long lw, .int wh, .long pu, .long pw, .ref a11]))]) [0] rfl
                have hD9 := hD.sub (ws' := [(h0, .inr (9, [.int th, .ref a1, .ref a2, .ref a3, .ref a4, .ref a5, .int p2, .int p2, .int dn, .ref a6, .ref a7, .int nn, .ref a8, .int la, .ref a9, .ref a10, .long up, .long lw, .int wh, .long pu, .long pw, .ref a11]))]) [0] (by decide) rfl
                have hK9 := hK.sub (tys' := []) [] rfl
                refine W.widen (k := 0) (n := 0) (by omega) (by omega) ?_
                exact W.iret (v := ne) hx hb hr (fun t ht hW => ⟨⟨_, (), rfl, (by first | (exfalso; omega) | rw [if_pos (by omega)] | rw [if_neg (by omega), if_pos (by omega)] | rw [if_neg (by omega), if_neg (by omega)]), p2, p2, by rw [ht]; exact hP9, va_K.moved hW.alike hK9, hD9, (by first | (exfalso; omega) | rw [if_pos (by omega)] | rw [if_neg (by omega)]), (by first | (exfalso; omega) | rw [if_pos (by omega)] | rw [if_neg (by omega)])⟩, hS.F ht⟩) hS.2.2 dX9_rule_93
        · simp only [Int32.toInt_toInt64, klL_0, klL_3000] at q_34
          refine lv_if_ne (tgt := 43) hx hb dX9_rule_37 (by decide) (fun h9 => absurd h9 (by decide)) (fun _ => ?_)
          refine lv_ldc hx hb hown (hts (.constant RX9 70 (-100002)) (by decide +kernel)) dX9_rule_40 ?_
          have hP9 := hP.sub (ws' := [(h0, .inr (9, [.int th, .ref a1, .ref a2, .ref a3, .ref a4, .ref a5, .int ne, .int wi, .int dn, .ref a6, .ref a7, .int nn, .ref a8, .int la, .ref a9, .ref a10, .long up, .long lw, .int wh, .long pu, .long pw, .ref a11]))]) [0] rfl
          have hD9 := hD.sub (ws' := [(h0, .inr (9, [.int th, .ref a1, .ref a2, .ref a3, .ref a4, .ref a5, .int ne, .int wi, .int dn, .ref a6, .ref a7, .int nn, .ref a8, .int la, .ref a9, .ref a10, .long up, .long lw, .int wh, .long pu, .long pw, .ref a11]))]) [0] (by decide) rfl
          have hK9 := hK.sub (tys' := []) [] rfl
          refine W.widen (k := 0) (n := 0) (by omega) (by omega) ?_
          exact W.iret (v := (-100002)) hx hb hr (fun t ht hW => ⟨⟨_, (), rfl, (by first | (exfalso; omega) | rw [if_pos (by omega)] | rw [if_neg (by omega), if_pos (by omega)] | rw [if_neg (by omega), if_neg (by omega)]), ne, wi, by rw [ht]; exact hP9, va_K.moved hW.alike hK9, hD9, (by first | (exfalso; omega) | rw [if_pos (by omega)] | rw [if_neg (by omega)]), (by first | (exfalso; omega) | rw [if_pos (by omega)] | rw [if_neg (by omega)])⟩, hS.F ht⟩) hS.2.2 dX9_rule_42
    · have t_13 := (fa_eq _ _).mp c_13
      refine lv_lconst (v := 1) hx hb dX9_rule_16 (by decide) ?_
      refine lv_goto (tgt := 21) hx hb dX9_rule_17 (by decide) ?_
      refine lv_iload_n hx hb dX9_rule_21 rfl (lv_at hl 1 rfl) ?_
      refine lv_if_ne (tgt := 31) hx hb dX9_rule_22 (by decide) (fun c_22 => ?_) (fun c_22 => ?_)
      · have t_22 := mt (fa_eq _ _).mpr c_22
        refine lv_ldc2 hx hb hown (hts (.constantLong RX9 100 400) (by decide +kernel)) dX9_rule_31 ?_
        refine vp_callSi (W.runS (As := [.long p2.toInt64, .long 1, .long 400]) (rest := []) ⟨hx, hb, hml, hown, hts⟩ (c_X9_in l dC dI p2.toInt64 1 400) (va_cwS 3 hts g_X9_rule__X9_in_55 rfl rfl rfl (by decide +kernel) ⟨Nat.le_of_ble_eq_true rfl, Nat.le_of_ble_eq_true rfl⟩) ⟨fun a U g mk q => by obtain ⟨q0, q1⟩ := q; exact ⟨q0, q1⟩, fun U hU hW => ⟨rfl, trivial⟩⟩ rfl rfl hl.1 rfl (lv_room (Nat.le_of_ble_eq_true rfl)) dX9_rule_34 ⟨Nat.le_of_ble_eq_true rfl, Nat.le_of_ble_eq_true rfl⟩) (fun r_4 hr_4 => ?_)
        try dsimp only at hr_4
        rcases bo_split hr_4 with ⟨rfl, q_34⟩ | ⟨rfl, q_34⟩
        · simp only [Int32.toInt_toInt64, klL_1, klL_400] at q_34
          refine lv_if_ne (tgt := 43) hx hb dX9_rule_37 (by decide) (fun _ => ?_) (fun h9 => absurd h9 (by decide))
          refine lv_iload_n hx hb dX9_rule_43 rfl (lv_at hl 1 rfl) ?_
          refine lv_if_ne (tgt := 54) hx hb dX9_rule_44 (by decide) (fun c_44 => ?_) (fun c_44 => ?_)
          · have t_44 := mt (fa_eq _ _).mpr c_44
            refine lv_aload_n hx hb dX9_rule_54 rfl (lv_at hl 0 rfl) ?_
            refine va_get (D := (dC, dI)) (ci := 9) (v := .int wi) (C := RX9) (T := TX9) (N := 22) hx hb hts in_X9_rule_X9 hown hK hP 0 rfl rfl 7 (by decide) (hts (.fieldLink RX9 30 "MeetingsAboveModel" "wide" "I") (by decide +kernel)) (fun _ h9 => h9) rfl dX9_rule_55 ?_
            refine lv_istore_n (lv' := [(3, .int wi), (0, .ref h0), (1, .int p1), (2, .int p2)]) hx hb dX9_rule_58 rfl hl (by decide) rfl (fun ls hl => ?_)
            refine lv_aload_n hx hb dX9_rule_59 rfl (lv_at hl 1 rfl) ?_
            refine lv_iload_n hx hb dX9_rule_60 rfl (lv_at hl 2 rfl) ?_
            refine lv_if_ne (tgt := 68) hx hb dX9_rule_61 (by decide) (fun c_61 => ?_) (fun c_61 => ?_)
            · have t_61 := mt (fa_eq _ _).mpr c_61
              refine lv_aload_n hx hb dX9_rule_68 rfl (lv_at hl 1 rfl) ?_
              refine va_get (D := (dC, dI)) (ci := 9) (v := .int ne) (C := RX9) (T := TX9) (N := 22) hx hb hts in_X9_rule_X9 hown hK hP 0 rfl rfl 6 (by decide) (hts (.fieldLink RX9 26 "MeetingsAboveModel" "near" "I") (by decide +kernel)) (fun _ h9 => h9) rfl dX9_rule_69 ?_
              refine va_put (D := (dC, dI)) (ci := 9) (v := .int ne) (ty := .int) (C := RX9) (T := TX9) (N := 22) hx hb hts in_X9_rule_X9 tyX9 tyX9_ok nmX9 hown hK hP hD hS 0 rfl rfl 6 (by decide) (hts (.fieldLink RX9 26 "MeetingsAboveModel" "near" "I") (by decide +kernel)) (fun _ h9 => h9) rfl (by decide +kernel) rfl rfl (Nat.le_of_ble_eq_true rfl) dX9_rule_72 (fun H locs hP hD hS => ?_)
              have hP : va_P (dC, dI) vwCl [(h0, .inr (9, [.int th, .ref a1, .ref a2, .ref a3, .ref a4, .ref a5, .int ne, .int wi, .int dn, .ref a6, .ref a7, .int nn, .ref a8, .int la, .ref a9, .ref a10, .long up, .long lw, .int wh, .long pu, .long pw, .ref a11]))] H := hP
              have hD : va_D A [(h0, .inr (9, [.int th, .ref a1, .ref a2, .ref a3, .ref a4, .ref a5, .int ne, .int wi, .int dn, .ref a6, .ref a7, .int nn, .ref a8, .int la, .ref a9, .ref a10, .long up, .long lw, .int wh, .long pu, .long pw, .ref a11]))] := hD
              refine lv_aload_n hx hb dX9_rule_75 rfl (lv_at hl 1 rfl) ?_
              refine lv_iload_n hx hb dX9_rule_76 rfl (lv_at hl 2 rfl) ?_
              refine lv_iconst (v := 1) hx hb dX9_rule_77 (by decide) ?_
              refine lv_icmp_ne (tgt := 85) hx hb dX9_rule_78 (by decide) (fun c_78 => ?_) (fun c_78 => ?_)
              · have t_78 := mt (fa_eq _ _).mpr c_78
                refine lv_aload_n hx hb dX9_rule_85 rfl (lv_at hl 1 rfl) ?_
                refine va_get (D := (dC, dI)) (ci := 9) (v := .int wi) (C := RX9) (T := TX9) (N := 22) hx hb hts in_X9_rule_X9 hown hK hP 0 rfl rfl 7 (by decide) (hts (.fieldLink RX9 30 "MeetingsAboveModel" "wide" "I") (by decide +kernel)) (fun _ h9 => h9) rfl dX9_rule_86 ?_
                refine va_put (D := (dC, dI)) (ci := 9) (v := .int wi) (ty := .int) (C := RX9) (T := TX9) (N := 22) hx hb hts in_X9_rule_X9 tyX9 tyX9_ok nmX9 hown hK hP hD hS 0 rfl rfl 7 (by decide) (hts (.fieldLink RX9 30 "MeetingsAboveModel" "wide" "I") (by decide +kernel)) (fun _ h9 => h9) rfl (by decide +kernel) rfl rfl (Nat.le_of_ble_eq_true rfl) dX9_rule_89 (fun H locs hP hD hS => ?_)
                have hP : va_P (dC, dI) vwCl [(h0, .inr (9, [.int th, .ref a1, .ref a2, .ref a3, .ref a4, .ref a5, .int ne, .int wi, .int dn, .ref a6, .ref a7, .int nn, .ref a8, .int la, .ref a9, .ref a10, .long up, .long lw, .int wh, .long pu, .long pw, .ref a11]))] H := hP
                have hD : va_D A [(h0, .inr (9, [.int th, .ref a1, .ref a2, .ref a3, .ref a4, .ref a5, .int ne, .int wi, .int dn, .ref a6, .ref a7, .int nn, .ref a8, .int la, .ref a9, .ref a10, .long up, .long lw, .int wh, .long pu, .long pw, .ref a11]))] := hD
                refine lv_iload_n hx hb dX9_rule_92 rfl (lv_at hl 0 rfl) ?_
                have hP9 := hP.sub (ws' := [(h0, .inr (9, [.int th, .ref a1, .ref a2, .ref a3, .ref a4, .ref a5, .int ne, .int wi, .int dn, .ref a6, .ref a7, .int nn, .ref a8, .int la, .ref a9, .ref a10, .long up, .long lw, .int wh, .long pu, .long pw, .ref a11]))]) [0] rfl
                have hD9 := hD.sub (ws' := [(h0, .inr (9, [.int th, .ref a1, .ref a2, .ref a3, .ref a4, .ref a5, .int ne, .int wi, .int dn, .ref a6, .ref a7, .int nn, .ref a8, .int la, .ref a9, .ref a10, .long up, .long lw, .int wh, .long pu, .long pw, .ref a11]))]) [0] (by decide) rfl
                have hK9 := hK.sub (tys' := []) [] rfl
                refine W.widen (k := 0) (n := 0) (by omega) (by omega) ?_
                exact W.iret (v := wi) hx hb hr (fun t ht hW => ⟨⟨_, (), rfl, (by first | (exfalso; omega) | rw [if_pos (by omega)] | rw [if_neg (by omega), if_pos (by omega)] | rw [if_neg (by omega), if_neg (by omega)]), ne, wi, by rw [ht]; exact hP9, va_K.moved hW.alike hK9, hD9, (by first | (exfalso; omega) | rw [if_pos (by omega)] | rw [if_neg (by omega)]), (by first | (exfalso; omega) | rw [if_pos (by omega)] | rw [if_neg (by omega)])⟩, hS.F ht⟩) hS.2.2 dX9_rule_93
              · have t_78 := (fa_eq _ _).mp c_78
                refine lv_iload_n hx hb dX9_rule_81 rfl (lv_at hl 3 rfl) ?_
                refine lv_goto (tgt := 89) hx hb dX9_rule_82 (by decide) ?_
                refine va_put (D := (dC, dI)) (ci := 9) (v := .int p2) (ty := .int) (C := RX9) (T := TX9) (N := 22) hx hb hts in_X9_rule_X9 tyX9 tyX9_ok nmX9 hown hK hP hD hS 0 rfl rfl 7 (by decide) (hts (.fieldLink RX9 30 "MeetingsAboveModel" "wide" "I") (by decide +kernel)) (fun _ h9 => h9) rfl (by decide +kernel) rfl rfl (Nat.le_of_ble_eq_true rfl) dX9_rule_89 (fun H locs hP hD hS => ?_)
                have hP : va_P (dC, dI) vwCl [(h0, .inr (9, [.int th, .ref a1, .ref a2, .ref a3, .ref a4, .ref a5, .int ne, .int p2, .int dn, .ref a6, .ref a7, .int nn, .ref a8, .int la, .ref a9, .ref a10, .long up, .long lw, .int wh, .long pu, .long pw, .ref a11]))] H := hP
                have hD : va_D A [(h0, .inr (9, [.int th, .ref a1, .ref a2, .ref a3, .ref a4, .ref a5, .int ne, .int p2, .int dn, .ref a6, .ref a7, .int nn, .ref a8, .int la, .ref a9, .ref a10, .long up, .long lw, .int wh, .long pu, .long pw, .ref a11]))] := hD
                refine lv_iload_n hx hb dX9_rule_92 rfl (lv_at hl 0 rfl) ?_
                have hP9 := hP.sub (ws' := [(h0, .inr (9, [.int th, .ref a1, .ref a2, .ref a3, .ref a4, .ref a5, .int ne, .int p2, .int dn, .ref a6, .ref a7, .int nn, .ref a8, .int la, .ref a9, .ref a10, .long up, .long lw, .int wh, .long pu, .long pw, .ref a11]))]) [0] rfl
                have hD9 := hD.sub (ws' := [(h0, .inr (9, [.int th, .ref a1, .ref a2, .ref a3, .ref a4, .ref a5, .int ne, .int p2, .int dn, .ref a6, .ref a7, .int nn, .ref a8, .int la, .ref a9, .ref a10, .long up, .long lw, .int wh, .long pu, .long pw, .ref a11]))]) [0] (by decide) rfl
                have hK9 := hK.sub (tys' := []) [] rfl
                refine W.widen (k := 0) (n := 0) (by omega) (by omega) ?_
                exact W.iret (v := wi) hx hb hr (fun t ht hW => ⟨⟨_, (), rfl, (by first | (exfalso; omega) | rw [if_pos (by omega)] | rw [if_neg (by omega), if_pos (by omega)] | rw [if_neg (by omega), if_neg (by omega)]), ne, p2, by rw [ht]; exact hP9, va_K.moved hW.alike hK9, hD9, (by first | (exfalso; omega) | rw [if_pos (by omega)] | rw [if_neg (by omega)]), (by first | (exfalso; omega) | rw [if_pos (by omega)] | rw [if_neg (by omega)])⟩, hS.F ht⟩) hS.2.2 dX9_rule_93
            · have t_61 := (fa_eq _ _).mp c_61
              refine lv_iload_n hx hb dX9_rule_64 rfl (lv_at hl 3 rfl) ?_
              refine lv_goto (tgt := 72) hx hb dX9_rule_65 (by decide) ?_
              refine va_put (D := (dC, dI)) (ci := 9) (v := .int p2) (ty := .int) (C := RX9) (T := TX9) (N := 22) hx hb hts in_X9_rule_X9 tyX9 tyX9_ok nmX9 hown hK hP hD hS 0 rfl rfl 6 (by decide) (hts (.fieldLink RX9 26 "MeetingsAboveModel" "near" "I") (by decide +kernel)) (fun _ h9 => h9) rfl (by decide +kernel) rfl rfl (Nat.le_of_ble_eq_true rfl) dX9_rule_72 (fun H locs hP hD hS => ?_)
              have hP : va_P (dC, dI) vwCl [(h0, .inr (9, [.int th, .ref a1, .ref a2, .ref a3, .ref a4, .ref a5, .int p2, .int wi, .int dn, .ref a6, .ref a7, .int nn, .ref a8, .int la, .ref a9, .ref a10, .long up, .long lw, .int wh, .long pu, .long pw, .ref a11]))] H := hP
              have hD : va_D A [(h0, .inr (9, [.int th, .ref a1, .ref a2, .ref a3, .ref a4, .ref a5, .int p2, .int wi, .int dn, .ref a6, .ref a7, .int nn, .ref a8, .int la, .ref a9, .ref a10, .long up, .long lw, .int wh, .long pu, .long pw, .ref a11]))] := hD
              refine lv_aload_n hx hb dX9_rule_75 rfl (lv_at hl 1 rfl) ?_
              refine lv_iload_n hx hb dX9_rule_76 rfl (lv_at hl 2 rfl) ?_
              refine lv_iconst (v := 1) hx hb dX9_rule_77 (by decide) ?_
              refine lv_icmp_ne (tgt := 85) hx hb dX9_rule_78 (by decide) (fun c_78 => ?_) (fun c_78 => ?_)
              · have t_78 := mt (fa_eq _ _).mpr c_78
                refine lv_aload_n hx hb dX9_rule_85 rfl (lv_at hl 1 rfl) ?_
                refine va_get (D := (dC, dI)) (ci := 9) (v := .int wi) (C := RX9) (T := TX9) (N := 22) hx hb hts in_X9_rule_X9 hown hK hP 0 rfl rfl 7 (by decide) (hts (.fieldLink RX9 30 "MeetingsAboveModel" "wide" "I") (by decide +kernel)) (fun _ h9 => h9) rfl dX9_rule_86 ?_
                refine va_put (D := (dC, dI)) (ci := 9) (v := .int wi) (ty := .int) (C := RX9) (T := TX9) (N := 22) hx hb hts in_X9_rule_X9 tyX9 tyX9_ok nmX9 hown hK hP hD hS 0 rfl rfl 7 (by decide) (hts (.fieldLink RX9 30 "MeetingsAboveModel" "wide" "I") (by decide +kernel)) (fun _ h9 => h9) rfl (by decide +kernel) rfl rfl (Nat.le_of_ble_eq_true rfl) dX9_rule_89 (fun H locs hP hD hS => ?_)
                have hP : va_P (dC, dI) vwCl [(h0, .inr (9, [.int th, .ref a1, .ref a2, .ref a3, .ref a4, .ref a5, .int p2, .int wi, .int dn, .ref a6, .ref a7, .int nn, .ref a8, .int la, .ref a9, .ref a10, .long up, .long lw, .int wh, .long pu, .long pw, .ref a11]))] H := hP
                have hD : va_D A [(h0, .inr (9, [.int th, .ref a1, .ref a2, .ref a3, .ref a4, .ref a5, .int p2, .int wi, .int dn, .ref a6, .ref a7, .int nn, .ref a8, .int la, .ref a9, .ref a10, .long up, .long lw, .int wh, .long pu, .long pw, .ref a11]))] := hD
                refine lv_iload_n hx hb dX9_rule_92 rfl (lv_at hl 0 rfl) ?_
                have hP9 := hP.sub (ws' := [(h0, .inr (9, [.int th, .ref a1, .ref a2, .ref a3, .ref a4, .ref a5, .int p2, .int wi, .int dn, .ref a6, .ref a7, .int nn, .ref a8, .int la, .ref a9, .ref a10, .long up, .long lw, .int wh, .long pu, .long pw, .ref a11]))]) [0] rfl
                have hD9 := hD.sub (ws' := [(h0, .inr (9, [.int th, .ref a1, .ref a2, .ref a3, .ref a4, .ref a5, .int p2, .int wi, .int dn, .ref a6, .ref a7, .int nn, .ref a8, .int la, .ref a9, .ref a10, .long up, .long lw, .int wh, .long pu, .long pw, .ref a11]))]) [0] (by decide) rfl
                have hK9 := hK.sub (tys' := []) [] rfl
                refine W.widen (k := 0) (n := 0) (by omega) (by omega) ?_
                exact W.iret (v := wi) hx hb hr (fun t ht hW => ⟨⟨_, (), rfl, (by first | (exfalso; omega) | rw [if_pos (by omega)] | rw [if_neg (by omega), if_pos (by omega)] | rw [if_neg (by omega), if_neg (by omega)]), p2, wi, by rw [ht]; exact hP9, va_K.moved hW.alike hK9, hD9, (by first | (exfalso; omega) | rw [if_pos (by omega)] | rw [if_neg (by omega)]), (by first | (exfalso; omega) | rw [if_pos (by omega)] | rw [if_neg (by omega)])⟩, hS.F ht⟩) hS.2.2 dX9_rule_93
              · have t_78 := (fa_eq _ _).mp c_78
                refine lv_iload_n hx hb dX9_rule_81 rfl (lv_at hl 3 rfl) ?_
                refine lv_goto (tgt := 89) hx hb dX9_rule_82 (by decide) ?_
                refine va_put (D := (dC, dI)) (ci := 9) (v := .int p2) (ty := .int) (C := RX9) (T := TX9) (N := 22) hx hb hts in_X9_rule_X9 tyX9 tyX9_ok nmX9 hown hK hP hD hS 0 rfl rfl 7 (by decide) (hts (.fieldLink RX9 30 "MeetingsAboveModel" "wide" "I") (by decide +kernel)) (fun _ h9 => h9) rfl (by decide +kernel) rfl rfl (Nat.le_of_ble_eq_true rfl) dX9_rule_89 (fun H locs hP hD hS => ?_)
                have hP : va_P (dC, dI) vwCl [(h0, .inr (9, [.int th, .ref a1, .ref a2, .ref a3, .ref a4, .ref a5, .int p2, .int p2, .int dn, .ref a6, .ref a7, .int nn, .ref a8, .int la, .ref a9, .ref a10, .long up, .long lw, .int wh, .long pu, .long pw, .ref a11]))] H := hP
                have hD : va_D A [(h0, .inr (9, [.int th, .ref a1, .ref a2, .ref a3, .ref a4, .ref a5, .int p2, .int p2, .int dn, .ref a6, .ref a7, .int nn, .ref a8, .int la, .ref a9, .ref a10, .long up, .long lw, .int wh, .long pu, .long pw, .ref a11]))] := hD
                refine lv_iload_n hx hb dX9_rule_92 rfl (lv_at hl 0 rfl) ?_
                have hP9 := hP.sub (ws' := [(h0, .inr (9, [.int th, .ref a1, .ref a2, .ref a3, .ref a4, .ref a5, .int p2, .int p2, .int dn, .ref a6, .ref a7, .int nn, .ref a8, .int la, .ref a9, .ref a10, .long up, .long lw, .int wh, .long pu, .long pw, .ref a11]))]) [0] rfl
                have hD9 := hD.sub (ws' := [(h0, .inr (9, [.int th, .ref a1, .ref a2, .ref a3, .ref a4, .ref a5, .int p2, .int p2, .int dn, .ref a6, .ref a7, .int nn, .ref a8, .int la, .ref a9, .ref a10, .long up, .long lw, .int wh, .long pu, .long pw, .ref a11]))]) [0] (by decide) rfl
                have hK9 := hK.sub (tys' := []) [] rfl
                refine W.widen (k := 0) (n := 0) (by omega) (by omega) ?_
                exact W.iret (v := wi) hx hb hr (fun t ht hW => ⟨⟨_, (), rfl, (by first | (exfalso; omega) | rw [if_pos (by omega)] | rw [if_neg (by omega), if_pos (by omega)] | rw [if_neg (by omega), if_neg (by omega)]), p2, p2, by rw [ht]; exact hP9, va_K.moved hW.alike hK9, hD9, (by first | (exfalso; omega) | rw [if_pos (by omega)] | rw [if_neg (by omega)]), (by first | (exfalso; omega) | rw [if_pos (by omega)] | rw [if_neg (by omega)])⟩, hS.F ht⟩) hS.2.2 dX9_rule_93
          · have t_44 := (fa_eq _ _).mp c_44
            refine lv_aload_n hx hb dX9_rule_47 rfl (lv_at hl 0 rfl) ?_
            refine va_get (D := (dC, dI)) (ci := 9) (v := .int ne) (C := RX9) (T := TX9) (N := 22) hx hb hts in_X9_rule_X9 hown hK hP 0 rfl rfl 6 (by decide) (hts (.fieldLink RX9 26 "MeetingsAboveModel" "near" "I") (by decide +kernel)) (fun _ h9 => h9) rfl dX9_rule_48 ?_
            refine lv_goto (tgt := 58) hx hb dX9_rule_51 (by decide) ?_
            refine lv_istore_n (lv' := [(3, .int ne), (0, .ref h0), (1, .int p1), (2, .int p2)]) hx hb dX9_rule_58 rfl hl (by decide) rfl (fun ls hl => ?_)
            refine lv_aload_n hx hb dX9_rule_59 rfl (lv_at hl 1 rfl) ?_
            refine lv_iload_n hx hb dX9_rule_60 rfl (lv_at hl 2 rfl) ?_
            refine lv_if_ne (tgt := 68) hx hb dX9_rule_61 (by decide) (fun c_61 => ?_) (fun c_61 => ?_)
            · have t_61 := mt (fa_eq _ _).mpr c_61
              refine lv_aload_n hx hb dX9_rule_68 rfl (lv_at hl 1 rfl) ?_
              refine va_get (D := (dC, dI)) (ci := 9) (v := .int ne) (C := RX9) (T := TX9) (N := 22) hx hb hts in_X9_rule_X9 hown hK hP 0 rfl rfl 6 (by decide) (hts (.fieldLink RX9 26 "MeetingsAboveModel" "near" "I") (by decide +kernel)) (fun _ h9 => h9) rfl dX9_rule_69 ?_
              refine va_put (D := (dC, dI)) (ci := 9) (v := .int ne) (ty := .int) (C := RX9) (T := TX9) (N := 22) hx hb hts in_X9_rule_X9 tyX9 tyX9_ok nmX9 hown hK hP hD hS 0 rfl rfl 6 (by decide) (hts (.fieldLink RX9 26 "MeetingsAboveModel" "near" "I") (by decide +kernel)) (fun _ h9 => h9) rfl (by decide +kernel) rfl rfl (Nat.le_of_ble_eq_true rfl) dX9_rule_72 (fun H locs hP hD hS => ?_)
              have hP : va_P (dC, dI) vwCl [(h0, .inr (9, [.int th, .ref a1, .ref a2, .ref a3, .ref a4, .ref a5, .int ne, .int wi, .int dn, .ref a6, .ref a7, .int nn, .ref a8, .int la, .ref a9, .ref a10, .long up, .long lw, .int wh, .long pu, .long pw, .ref a11]))] H := hP
              have hD : va_D A [(h0, .inr (9, [.int th, .ref a1, .ref a2, .ref a3, .ref a4, .ref a5, .int ne, .int wi, .int dn, .ref a6, .ref a7, .int nn, .ref a8, .int la, .ref a9, .ref a10, .long up, .long lw, .int wh, .long pu, .long pw, .ref a11]))] := hD
              refine lv_aload_n hx hb dX9_rule_75 rfl (lv_at hl 1 rfl) ?_
              refine lv_iload_n hx hb dX9_rule_76 rfl (lv_at hl 2 rfl) ?_
              refine lv_iconst (v := 1) hx hb dX9_rule_77 (by decide) ?_
              refine lv_icmp_ne (tgt := 85) hx hb dX9_rule_78 (by decide) (fun c_78 => ?_) (fun c_78 => ?_)
              · have t_78 := mt (fa_eq _ _).mpr c_78
                refine lv_aload_n hx hb dX9_rule_85 rfl (lv_at hl 1 rfl) ?_
                refine va_get (D := (dC, dI)) (ci := 9) (v := .int wi) (C := RX9) (T := TX9) (N := 22) hx hb hts in_X9_rule_X9 hown hK hP 0 rfl rfl 7 (by decide) (hts (.fieldLink RX9 30 "MeetingsAboveModel" "wide" "I") (by decide +kernel)) (fun _ h9 => h9) rfl dX9_rule_86 ?_
                refine va_put (D := (dC, dI)) (ci := 9) (v := .int wi) (ty := .int) (C := RX9) (T := TX9) (N := 22) hx hb hts in_X9_rule_X9 tyX9 tyX9_ok nmX9 hown hK hP hD hS 0 rfl rfl 7 (by decide) (hts (.fieldLink RX9 30 "MeetingsAboveModel" "wide" "I") (by decide +kernel)) (fun _ h9 => h9) rfl (by decide +kernel) rfl rfl (Nat.le_of_ble_eq_true rfl) dX9_rule_89 (fun H locs hP hD hS => ?_)
                have hP : va_P (dC, dI) vwCl [(h0, .inr (9, [.int th, .ref a1, .ref a2, .ref a3, .ref a4, .ref a5, .int ne, .int wi, .int dn, .ref a6, .ref a7, .int nn, .ref a8, .int la, .ref a9, .ref a10, .long up, .long lw, .int wh, .long pu, .long pw, .ref a11]))] H := hP
                have hD : va_D A [(h0, .inr (9, [.int th, .ref a1, .ref a2, .ref a3, .ref a4, .ref a5, .int ne, .int wi, .int dn, .ref a6, .ref a7, .int nn, .ref a8, .int la, .ref a9, .ref a10, .long up, .long lw, .int wh, .long pu, .long pw, .ref a11]))] := hD
                refine lv_iload_n hx hb dX9_rule_92 rfl (lv_at hl 0 rfl) ?_
                have hP9 := hP.sub (ws' := [(h0, .inr (9, [.int th, .ref a1, .ref a2, .ref a3, .ref a4, .ref a5, .int ne, .int wi, .int dn, .ref a6, .ref a7, .int nn, .ref a8, .int la, .ref a9, .ref a10, .long up, .long lw, .int wh, .long pu, .long pw, .ref a11]))]) [0] rfl
                have hD9 := hD.sub (ws' := [(h0, .inr (9, [.int th, .ref a1, .ref a2, .ref a3, .ref a4, .ref a5, .int ne, .int wi, .int dn, .ref a6, .ref a7, .int nn, .ref a8, .int la, .ref a9, .ref a10, .long up, .long lw, .int wh, .long pu, .long pw, .ref a11]))]) [0] (by decide) rfl
                have hK9 := hK.sub (tys' := []) [] rfl
                refine W.widen (k := 0) (n := 0) (by omega) (by omega) ?_
                exact W.iret (v := ne) hx hb hr (fun t ht hW => ⟨⟨_, (), rfl, (by first | (exfalso; omega) | rw [if_pos (by omega)] | rw [if_neg (by omega), if_pos (by omega)] | rw [if_neg (by omega), if_neg (by omega)]), ne, wi, by rw [ht]; exact hP9, va_K.moved hW.alike hK9, hD9, (by first | (exfalso; omega) | rw [if_pos (by omega)] | rw [if_neg (by omega)]), (by first | (exfalso; omega) | rw [if_pos (by omega)] | rw [if_neg (by omega)])⟩, hS.F ht⟩) hS.2.2 dX9_rule_93
              · have t_78 := (fa_eq _ _).mp c_78
                refine lv_iload_n hx hb dX9_rule_81 rfl (lv_at hl 3 rfl) ?_
                refine lv_goto (tgt := 89) hx hb dX9_rule_82 (by decide) ?_
                refine va_put (D := (dC, dI)) (ci := 9) (v := .int p2) (ty := .int) (C := RX9) (T := TX9) (N := 22) hx hb hts in_X9_rule_X9 tyX9 tyX9_ok nmX9 hown hK hP hD hS 0 rfl rfl 7 (by decide) (hts (.fieldLink RX9 30 "MeetingsAboveModel" "wide" "I") (by decide +kernel)) (fun _ h9 => h9) rfl (by decide +kernel) rfl rfl (Nat.le_of_ble_eq_true rfl) dX9_rule_89 (fun H locs hP hD hS => ?_)
                have hP : va_P (dC, dI) vwCl [(h0, .inr (9, [.int th, .ref a1, .ref a2, .ref a3, .ref a4, .ref a5, .int ne, .int p2, .int dn, .ref a6, .ref a7, .int nn, .ref a8, .int la, .ref a9, .ref a10, .long up, .long lw, .int wh, .long pu, .long pw, .ref a11]))] H := hP
                have hD : va_D A [(h0, .inr (9, [.int th, .ref a1, .ref a2, .ref a3, .ref a4, .ref a5, .int ne, .int p2, .int dn, .ref a6, .ref a7, .int nn, .ref a8, .int la, .ref a9, .ref a10, .long up, .long lw, .int wh, .long pu, .long pw, .ref a11]))] := hD
                refine lv_iload_n hx hb dX9_rule_92 rfl (lv_at hl 0 rfl) ?_
                have hP9 := hP.sub (ws' := [(h0, .inr (9, [.int th, .ref a1, .ref a2, .ref a3, .ref a4, .ref a5, .int ne, .int p2, .int dn, .ref a6, .ref a7, .int nn, .ref a8, .int la, .ref a9, .ref a10, .long up, .long lw, .int wh, .long pu, .long pw, .ref a11]))]) [0] rfl
                have hD9 := hD.sub (ws' := [(h0, .inr (9, [.int th, .ref a1, .ref a2, .ref a3, .ref a4, .ref a5, .int ne, .int p2, .int dn, .ref a6, .ref a7, .int nn, .ref a8, .int la, .ref a9, .ref a10, .long up, .long lw, .int wh, .long pu, .long pw, .ref a11]))]) [0] (by decide) rfl
                have hK9 := hK.sub (tys' := []) [] rfl
                refine W.widen (k := 0) (n := 0) (by omega) (by omega) ?_
                exact W.iret (v := ne) hx hb hr (fun t ht hW => ⟨⟨_, (), rfl, (by first | (exfalso; omega) | rw [if_pos (by omega)] | rw [if_neg (by omega), if_pos (by omega)] | rw [if_neg (by omega), if_neg (by omega)]), ne, p2, by rw [ht]; exact hP9, va_K.moved hW.alike hK9, hD9, (by first | (exfalso; omega) | rw [if_pos (by omega)] | rw [if_neg (by omega)]), (by first | (exfalso; omega) | rw [if_pos (by omega)] | rw [if_neg (by omega)])⟩, hS.F ht⟩) hS.2.2 dX9_rule_93
            · have t_61 := (fa_eq _ _).mp c_61
              refine lv_iload_n hx hb dX9_rule_64 rfl (lv_at hl 3 rfl) ?_
              refine lv_goto (tgt := 72) hx hb dX9_rule_65 (by decide) ?_
              refine va_put (D := (dC, dI)) (ci := 9) (v := .int p2) (ty := .int) (C := RX9) (T := TX9) (N := 22) hx hb hts in_X9_rule_X9 tyX9 tyX9_ok nmX9 hown hK hP hD hS 0 rfl rfl 6 (by decide) (hts (.fieldLink RX9 26 "MeetingsAboveModel" "near" "I") (by decide +kernel)) (fun _ h9 => h9) rfl (by decide +kernel) rfl rfl (Nat.le_of_ble_eq_true rfl) dX9_rule_72 (fun H locs hP hD hS => ?_)
              have hP : va_P (dC, dI) vwCl [(h0, .inr (9, [.int th, .ref a1, .ref a2, .ref a3, .ref a4, .ref a5, .int p2, .int wi, .int dn, .ref a6, .ref a7, .int nn, .ref a8, .int la, .ref a9, .ref a10, .long up, .long lw, .int wh, .long pu, .long pw, .ref a11]))] H := hP
              have hD : va_D A [(h0, .inr (9, [.int th, .ref a1, .ref a2, .ref a3, .ref a4, .ref a5, .int p2, .int wi, .int dn, .ref a6, .ref a7, .int nn, .ref a8, .int la, .ref a9, .ref a10, .long up, .long lw, .int wh, .long pu, .long pw, .ref a11]))] := hD
              refine lv_aload_n hx hb dX9_rule_75 rfl (lv_at hl 1 rfl) ?_
              refine lv_iload_n hx hb dX9_rule_76 rfl (lv_at hl 2 rfl) ?_
              refine lv_iconst (v := 1) hx hb dX9_rule_77 (by decide) ?_
              refine lv_icmp_ne (tgt := 85) hx hb dX9_rule_78 (by decide) (fun c_78 => ?_) (fun c_78 => ?_)
              · have t_78 := mt (fa_eq _ _).mpr c_78
                refine lv_aload_n hx hb dX9_rule_85 rfl (lv_at hl 1 rfl) ?_
                refine va_get (D := (dC, dI)) (ci := 9) (v := .int wi) (C := RX9) (T := TX9) (N := 22) hx hb hts in_X9_rule_X9 hown hK hP 0 rfl rfl 7 (by decide) (hts (.fieldLink RX9 30 "MeetingsAboveModel" "wide" "I") (by decide +kernel)) (fun _ h9 => h9) rfl dX9_rule_86 ?_
                refine va_put (D := (dC, dI)) (ci := 9) (v := .int wi) (ty := .int) (C := RX9) (T := TX9) (N := 22) hx hb hts in_X9_rule_X9 tyX9 tyX9_ok nmX9 hown hK hP hD hS 0 rfl rfl 7 (by decide) (hts (.fieldLink RX9 30 "MeetingsAboveModel" "wide" "I") (by decide +kernel)) (fun _ h9 => h9) rfl (by decide +kernel) rfl rfl (Nat.le_of_ble_eq_true rfl) dX9_rule_89 (fun H locs hP hD hS => ?_)
                have hP : va_P (dC, dI) vwCl [(h0, .inr (9, [.int th, .ref a1, .ref a2, .ref a3, .ref a4, .ref a5, .int p2, .int wi, .int dn, .ref a6, .ref a7, .int nn, .ref a8, .int la, .ref a9, .ref a10, .long up, .long lw, .int wh, .long pu, .long pw, .ref a11]))] H := hP
                have hD : va_D A [(h0, .inr (9, [.int th, .ref a1, .ref a2, .ref a3, .ref a4, .ref a5, .int p2, .int wi, .int dn, .ref a6, .ref a7, .int nn, .ref a8, .int la, .ref a9, .ref a10, .long up, .long lw, .int wh, .long pu, .long pw, .ref a11]))] := hD
                refine lv_iload_n hx hb dX9_rule_92 rfl (lv_at hl 0 rfl) ?_
                have hP9 := hP.sub (ws' := [(h0, .inr (9, [.int th, .ref a1, .ref a2, .ref a3, .ref a4, .ref a5, .int p2, .int wi, .int dn, .ref a6, .ref a7, .int nn, .ref a8, .int la, .ref a9, .ref a10, .long up, .long lw, .int wh, .long pu, .long pw, .ref a11]))]) [0] rfl
                have hD9 := hD.sub (ws' := [(h0, .inr (9, [.int th, .ref a1, .ref a2, .ref a3, .ref a4, .ref a5, .int p2, .int wi, .int dn, .ref a6, .ref a7, .int nn, .ref a8, .int la, .ref a9, .ref a10, .long up, .long lw, .int wh, .long pu, .long pw, .ref a11]))]) [0] (by decide) rfl
                have hK9 := hK.sub (tys' := []) [] rfl
                refine W.widen (k := 0) (n := 0) (by omega) (by omega) ?_
                exact W.iret (v := ne) hx hb hr (fun t ht hW => ⟨⟨_, (), rfl, (by first | (exfalso; omega) | rw [if_pos (by omega)] | rw [if_neg (by omega), if_pos (by omega)] | rw [if_neg (by omega), if_neg (by omega)]), p2, wi, by rw [ht]; exact hP9, va_K.moved hW.alike hK9, hD9, (by first | (exfalso; omega) | rw [if_pos (by omega)] | rw [if_neg (by omega)]), (by first | (exfalso; omega) | rw [if_pos (by omega)] | rw [if_neg (by omega)])⟩, hS.F ht⟩) hS.2.2 dX9_rule_93
              · have t_78 := (fa_eq _ _).mp c_78
                refine lv_iload_n hx hb dX9_rule_81 rfl (lv_at hl 3 rfl) ?_
                refine lv_goto (tgt := 89) hx hb dX9_rule_82 (by decide) ?_
                refine va_put (D := (dC, dI)) (ci := 9) (v := .int p2) (ty := .int) (C := RX9) (T := TX9) (N := 22) hx hb hts in_X9_rule_X9 tyX9 tyX9_ok nmX9 hown hK hP hD hS 0 rfl rfl 7 (by decide) (hts (.fieldLink RX9 30 "MeetingsAboveModel" "wide" "I") (by decide +kernel)) (fun _ h9 => h9) rfl (by decide +kernel) rfl rfl (Nat.le_of_ble_eq_true rfl) dX9_rule_89 (fun H locs hP hD hS => ?_)
                have hP : va_P (dC, dI) vwCl [(h0, .inr (9, [.int th, .ref a1, .ref a2, .ref a3, .ref a4, .ref a5, .int p2, .int p2, .int dn, .ref a6, .ref a7, .int nn, .ref a8, .int la, .ref a9, .ref a10, .long up, .long lw, .int wh, .long pu, .long pw, .ref a11]))] H := hP
                have hD : va_D A [(h0, .inr (9, [.int th, .ref a1, .ref a2, .ref a3, .ref a4, .ref a5, .int p2, .int p2, .int dn, .ref a6, .ref a7, .int nn, .ref a8, .int la, .ref a9, .ref a10, .long up, .long lw, .int wh, .long pu, .long pw, .ref a11]))] := hD
                refine lv_iload_n hx hb dX9_rule_92 rfl (lv_at hl 0 rfl) ?_
                have hP9 := hP.sub (ws' := [(h0, .inr (9, [.int th, .ref a1, .ref a2, .ref a3, .ref a4, .ref a5, .int p2, .int p2, .int dn, .ref a6, .ref a7, .int nn, .ref a8, .int la, .ref a9, .ref a10, .long up, .long lw, .int wh, .long pu, .long pw, .ref a11]))]) [0] rfl
                have hD9 := hD.sub (ws' := [(h0, .inr (9, [.int th, .ref a1, .ref a2, .ref a3, .ref a4, .ref a5, .int p2, .int p2, .int dn, .ref a6, .ref a7, .int nn, .ref a8, .int la, .ref a9, .ref a10, .long up, .long lw, .int wh, .long pu, .long pw, .ref a11]))]) [0] (by decide) rfl
                have hK9 := hK.sub (tys' := []) [] rfl
                refine W.widen (k := 0) (n := 0) (by omega) (by omega) ?_
                exact W.iret (v := ne) hx hb hr (fun t ht hW => ⟨⟨_, (), rfl, (by first | (exfalso; omega) | rw [if_pos (by omega)] | rw [if_neg (by omega), if_pos (by omega)] | rw [if_neg (by omega), if_neg (by omega)]), p2, p2, by rw [ht]; exact hP9, va_K.moved hW.alike hK9, hD9, (by first | (exfalso; omega) | rw [if_pos (by omega)] | rw [if_neg (by omega)]), (by first | (exfalso; omega) | rw [if_pos (by omega)] | rw [if_neg (by omega)])⟩, hS.F ht⟩) hS.2.2 dX9_rule_93
        · simp only [Int32.toInt_toInt64, klL_1, klL_400] at q_34
          refine lv_if_ne (tgt := 43) hx hb dX9_rule_37 (by decide) (fun h9 => absurd h9 (by decide)) (fun _ => ?_)
          refine lv_ldc hx hb hown (hts (.constant RX9 70 (-100002)) (by decide +kernel)) dX9_rule_40 ?_
          have hP9 := hP.sub (ws' := [(h0, .inr (9, [.int th, .ref a1, .ref a2, .ref a3, .ref a4, .ref a5, .int ne, .int wi, .int dn, .ref a6, .ref a7, .int nn, .ref a8, .int la, .ref a9, .ref a10, .long up, .long lw, .int wh, .long pu, .long pw, .ref a11]))]) [0] rfl
          have hD9 := hD.sub (ws' := [(h0, .inr (9, [.int th, .ref a1, .ref a2, .ref a3, .ref a4, .ref a5, .int ne, .int wi, .int dn, .ref a6, .ref a7, .int nn, .ref a8, .int la, .ref a9, .ref a10, .long up, .long lw, .int wh, .long pu, .long pw, .ref a11]))]) [0] (by decide) rfl
          have hK9 := hK.sub (tys' := []) [] rfl
          refine W.widen (k := 0) (n := 0) (by omega) (by omega) ?_
          exact W.iret (v := (-100002)) hx hb hr (fun t ht hW => ⟨⟨_, (), rfl, (by first | (exfalso; omega) | rw [if_pos (by omega)] | rw [if_neg (by omega), if_pos (by omega)] | rw [if_neg (by omega), if_neg (by omega)]), ne, wi, by rw [ht]; exact hP9, va_K.moved hW.alike hK9, hD9, (by first | (exfalso; omega) | rw [if_pos (by omega)] | rw [if_neg (by omega)]), (by first | (exfalso; omega) | rw [if_pos (by omega)] | rw [if_neg (by omega)])⟩, hS.F ht⟩) hS.2.2 dX9_rule_42
      · have t_22 := (fa_eq _ _).mp c_22
        refine lv_ldc2 hx hb hown (hts (.constantLong RX9 98 3000) (by decide +kernel)) dX9_rule_25 ?_
        refine lv_goto (tgt := 34) hx hb dX9_rule_28 (by decide) ?_
        refine vp_callSi (W.runS (As := [.long p2.toInt64, .long 1, .long 3000]) (rest := []) ⟨hx, hb, hml, hown, hts⟩ (c_X9_in l dC dI p2.toInt64 1 3000) (va_cwS 3 hts g_X9_rule__X9_in_55 rfl rfl rfl (by decide +kernel) ⟨Nat.le_of_ble_eq_true rfl, Nat.le_of_ble_eq_true rfl⟩) ⟨fun a U g mk q => by obtain ⟨q0, q1⟩ := q; exact ⟨q0, q1⟩, fun U hU hW => ⟨rfl, trivial⟩⟩ rfl rfl hl.1 rfl (lv_room (Nat.le_of_ble_eq_true rfl)) dX9_rule_34 ⟨Nat.le_of_ble_eq_true rfl, Nat.le_of_ble_eq_true rfl⟩) (fun r_5 hr_5 => ?_)
        try dsimp only at hr_5
        rcases bo_split hr_5 with ⟨rfl, q_34⟩ | ⟨rfl, q_34⟩
        · simp only [Int32.toInt_toInt64, klL_1, klL_3000] at q_34
          refine lv_if_ne (tgt := 43) hx hb dX9_rule_37 (by decide) (fun _ => ?_) (fun h9 => absurd h9 (by decide))
          refine lv_iload_n hx hb dX9_rule_43 rfl (lv_at hl 1 rfl) ?_
          refine lv_if_ne (tgt := 54) hx hb dX9_rule_44 (by decide) (fun c_44 => ?_) (fun c_44 => ?_)
          · have t_44 := mt (fa_eq _ _).mpr c_44
            refine lv_aload_n hx hb dX9_rule_54 rfl (lv_at hl 0 rfl) ?_
            refine va_get (D := (dC, dI)) (ci := 9) (v := .int wi) (C := RX9) (T := TX9) (N := 22) hx hb hts in_X9_rule_X9 hown hK hP 0 rfl rfl 7 (by decide) (hts (.fieldLink RX9 30 "MeetingsAboveModel" "wide" "I") (by decide +kernel)) (fun _ h9 => h9) rfl dX9_rule_55 ?_
            refine lv_istore_n (lv' := [(3, .int wi), (0, .ref h0), (1, .int p1), (2, .int p2)]) hx hb dX9_rule_58 rfl hl (by decide) rfl (fun ls hl => ?_)
            refine lv_aload_n hx hb dX9_rule_59 rfl (lv_at hl 1 rfl) ?_
            refine lv_iload_n hx hb dX9_rule_60 rfl (lv_at hl 2 rfl) ?_
            refine lv_if_ne (tgt := 68) hx hb dX9_rule_61 (by decide) (fun c_61 => ?_) (fun c_61 => ?_)
            · have t_61 := mt (fa_eq _ _).mpr c_61
              refine lv_aload_n hx hb dX9_rule_68 rfl (lv_at hl 1 rfl) ?_
              refine va_get (D := (dC, dI)) (ci := 9) (v := .int ne) (C := RX9) (T := TX9) (N := 22) hx hb hts in_X9_rule_X9 hown hK hP 0 rfl rfl 6 (by decide) (hts (.fieldLink RX9 26 "MeetingsAboveModel" "near" "I") (by decide +kernel)) (fun _ h9 => h9) rfl dX9_rule_69 ?_
              refine va_put (D := (dC, dI)) (ci := 9) (v := .int ne) (ty := .int) (C := RX9) (T := TX9) (N := 22) hx hb hts in_X9_rule_X9 tyX9 tyX9_ok nmX9 hown hK hP hD hS 0 rfl rfl 6 (by decide) (hts (.fieldLink RX9 26 "MeetingsAboveModel" "near" "I") (by decide +kernel)) (fun _ h9 => h9) rfl (by decide +kernel) rfl rfl (Nat.le_of_ble_eq_true rfl) dX9_rule_72 (fun H locs hP hD hS => ?_)
              have hP : va_P (dC, dI) vwCl [(h0, .inr (9, [.int th, .ref a1, .ref a2, .ref a3, .ref a4, .ref a5, .int ne, .int wi, .int dn, .ref a6, .ref a7, .int nn, .ref a8, .int la, .ref a9, .ref a10, .long up, .long lw, .int wh, .long pu, .long pw, .ref a11]))] H := hP
              have hD : va_D A [(h0, .inr (9, [.int th, .ref a1, .ref a2, .ref a3, .ref a4, .ref a5, .int ne, .int wi, .int dn, .ref a6, .ref a7, .int nn, .ref a8, .int la, .ref a9, .ref a10, .long up, .long lw, .int wh, .long pu, .long pw, .ref a11]))] := hD
              refine lv_aload_n hx hb dX9_rule_75 rfl (lv_at hl 1 rfl) ?_
              refine lv_iload_n hx hb dX9_rule_76 rfl (lv_at hl 2 rfl) ?_
              refine lv_iconst (v := 1) hx hb dX9_rule_77 (by decide) ?_
              refine lv_icmp_ne (tgt := 85) hx hb dX9_rule_78 (by decide) (fun c_78 => ?_) (fun c_78 => ?_)
              · have t_78 := mt (fa_eq _ _).mpr c_78
                refine lv_aload_n hx hb dX9_rule_85 rfl (lv_at hl 1 rfl) ?_
                refine va_get (D := (dC, dI)) (ci := 9) (v := .int wi) (C := RX9) (T := TX9) (N := 22) hx hb hts in_X9_rule_X9 hown hK hP 0 rfl rfl 7 (by decide) (hts (.fieldLink RX9 30 "MeetingsAboveModel" "wide" "I") (by decide +kernel)) (fun _ h9 => h9) rfl dX9_rule_86 ?_
                refine va_put (D := (dC, dI)) (ci := 9) (v := .int wi) (ty := .int) (C := RX9) (T := TX9) (N := 22) hx hb hts in_X9_rule_X9 tyX9 tyX9_ok nmX9 hown hK hP hD hS 0 rfl rfl 7 (by decide) (hts (.fieldLink RX9 30 "MeetingsAboveModel" "wide" "I") (by decide +kernel)) (fun _ h9 => h9) rfl (by decide +kernel) rfl rfl (Nat.le_of_ble_eq_true rfl) dX9_rule_89 (fun H locs hP hD hS => ?_)
                have hP : va_P (dC, dI) vwCl [(h0, .inr (9, [.int th, .ref a1, .ref a2, .ref a3, .ref a4, .ref a5, .int ne, .int wi, .int dn, .ref a6, .ref a7, .int nn, .ref a8, .int la, .ref a9, .ref a10, .long up, .long lw, .int wh, .long pu, .long pw, .ref a11]))] H := hP
                have hD : va_D A [(h0, .inr (9, [.int th, .ref a1, .ref a2, .ref a3, .ref a4, .ref a5, .int ne, .int wi, .int dn, .ref a6, .ref a7, .int nn, .ref a8, .int la, .ref a9, .ref a10, .long up, .long lw, .int wh, .long pu, .long pw, .ref a11]))] := hD
                refine lv_iload_n hx hb dX9_rule_92 rfl (lv_at hl 0 rfl) ?_
                have hP9 := hP.sub (ws' := [(h0, .inr (9, [.int th, .ref a1, .ref a2, .ref a3, .ref a4, .ref a5, .int ne, .int wi, .int dn, .ref a6, .ref a7, .int nn, .ref a8, .int la, .ref a9, .ref a10, .long up, .long lw, .int wh, .long pu, .long pw, .ref a11]))]) [0] rfl
                have hD9 := hD.sub (ws' := [(h0, .inr (9, [.int th, .ref a1, .ref a2, .ref a3, .ref a4, .ref a5, .int ne, .int wi, .int dn, .ref a6, .ref a7, .int nn, .ref a8, .int la, .ref a9, .ref a10, .long up, .long lw, .int wh, .long pu, .long pw, .ref a11]))]) [0] (by decide) rfl
                have hK9 := hK.sub (tys' := []) [] rfl
                refine W.widen (k := 0) (n := 0) (by omega) (by omega) ?_
                exact W.iret (v := wi) hx hb hr (fun t ht hW => ⟨⟨_, (), rfl, (by first | (exfalso; omega) | rw [if_pos (by omega)] | rw [if_neg (by omega), if_pos (by omega)] | rw [if_neg (by omega), if_neg (by omega)]), ne, wi, by rw [ht]; exact hP9, va_K.moved hW.alike hK9, hD9, (by first | (exfalso; omega) | rw [if_pos (by omega)] | rw [if_neg (by omega)]), (by first | (exfalso; omega) | rw [if_pos (by omega)] | rw [if_neg (by omega)])⟩, hS.F ht⟩) hS.2.2 dX9_rule_93
              · have t_78 := (fa_eq _ _).mp c_78
                refine lv_iload_n hx hb dX9_rule_81 rfl (lv_at hl 3 rfl) ?_
                refine lv_goto (tgt := 89) hx hb dX9_rule_82 (by decide) ?_
                refine va_put (D := (dC, dI)) (ci := 9) (v := .int p2) (ty := .int) (C := RX9) (T := TX9) (N := 22) hx hb hts in_X9_rule_X9 tyX9 tyX9_ok nmX9 hown hK hP hD hS 0 rfl rfl 7 (by decide) (hts (.fieldLink RX9 30 "MeetingsAboveModel" "wide" "I") (by decide +kernel)) (fun _ h9 => h9) rfl (by decide +kernel) rfl rfl (Nat.le_of_ble_eq_true rfl) dX9_rule_89 (fun H locs hP hD hS => ?_)
                have hP : va_P (dC, dI) vwCl [(h0, .inr (9, [.int th, .ref a1, .ref a2, .ref a3, .ref a4, .ref a5, .int ne, .int p2, .int dn, .ref a6, .ref a7, .int nn, .ref a8, .int la, .ref a9, .ref a10, .long up, .long lw, .int wh, .long pu, .long pw, .ref a11]))] H := hP
                have hD : va_D A [(h0, .inr (9, [.int th, .ref a1, .ref a2, .ref a3, .ref a4, .ref a5, .int ne, .int p2, .int dn, .ref a6, .ref a7, .int nn, .ref a8, .int la, .ref a9, .ref a10, .long up, .long lw, .int wh, .long pu, .long pw, .ref a11]))] := hD
                refine lv_iload_n hx hb dX9_rule_92 rfl (lv_at hl 0 rfl) ?_
                have hP9 := hP.sub (ws' := [(h0, .inr (9, [.int th, .ref a1, .ref a2, .ref a3, .ref a4, .ref a5, .int ne, .int p2, .int dn, .ref a6, .ref a7, .int nn, .ref a8, .int la, .ref a9, .ref a10, .long up, .long lw, .int wh, .long pu, .long pw, .ref a11]))]) [0] rfl
                have hD9 := hD.sub (ws' := [(h0, .inr (9, [.int th, .ref a1, .ref a2, .ref a3, .ref a4, .ref a5, .int ne, .int p2, .int dn, .ref a6, .ref a7, .int nn, .ref a8, .int la, .ref a9, .ref a10, .long up, .long lw, .int wh, .long pu, .long pw, .ref a11]))]) [0] (by decide) rfl
                have hK9 := hK.sub (tys' := []) [] rfl
                refine W.widen (k := 0) (n := 0) (by omega) (by omega) ?_
                exact W.iret (v := wi) hx hb hr (fun t ht hW => ⟨⟨_, (), rfl, (by first | (exfalso; omega) | rw [if_pos (by omega)] | rw [if_neg (by omega), if_pos (by omega)] | rw [if_neg (by omega), if_neg (by omega)]), ne, p2, by rw [ht]; exact hP9, va_K.moved hW.alike hK9, hD9, (by first | (exfalso; omega) | rw [if_pos (by omega)] | rw [if_neg (by omega)]), (by first | (exfalso; omega) | rw [if_pos (by omega)] | rw [if_neg (by omega)])⟩, hS.F ht⟩) hS.2.2 dX9_rule_93
            · have t_61 := (fa_eq _ _).mp c_61
              refine lv_iload_n hx hb dX9_rule_64 rfl (lv_at hl 3 rfl) ?_
              refine lv_goto (tgt := 72) hx hb dX9_rule_65 (by decide) ?_
              refine va_put (D := (dC, dI)) (ci := 9) (v := .int p2) (ty := .int) (C := RX9) (T := TX9) (N := 22) hx hb hts in_X9_rule_X9 tyX9 tyX9_ok nmX9 hown hK hP hD hS 0 rfl rfl 6 (by decide) (hts (.fieldLink RX9 26 "MeetingsAboveModel" "near" "I") (by decide +kernel)) (fun _ h9 => h9) rfl (by decide +kernel) rfl rfl (Nat.le_of_ble_eq_true rfl) dX9_rule_72 (fun H locs hP hD hS => ?_)
              have hP : va_P (dC, dI) vwCl [(h0, .inr (9, [.int th, .ref a1, .ref a2, .ref a3, .ref a4, .ref a5, .int p2, .int wi, .int dn, .ref a6, .ref a7, .int nn, .ref a8, .int la, .ref a9, .ref a10, .long up, .long lw, .int wh, .long pu, .long pw, .ref a11]))] H := hP
              have hD : va_D A [(h0, .inr (9, [.int th, .ref a1, .ref a2, .ref a3, .ref a4, .ref a5, .int p2, .int wi, .int dn, .ref a6, .ref a7, .int nn, .ref a8, .int la, .ref a9, .ref a10, .long up, .long lw, .int wh, .long pu, .long pw, .ref a11]))] := hD
              refine lv_aload_n hx hb dX9_rule_75 rfl (lv_at hl 1 rfl) ?_
              refine lv_iload_n hx hb dX9_rule_76 rfl (lv_at hl 2 rfl) ?_
              refine lv_iconst (v := 1) hx hb dX9_rule_77 (by decide) ?_
              refine lv_icmp_ne (tgt := 85) hx hb dX9_rule_78 (by decide) (fun c_78 => ?_) (fun c_78 => ?_)
              · have t_78 := mt (fa_eq _ _).mpr c_78
                refine lv_aload_n hx hb dX9_rule_85 rfl (lv_at hl 1 rfl) ?_
                refine va_get (D := (dC, dI)) (ci := 9) (v := .int wi) (C := RX9) (T := TX9) (N := 22) hx hb hts in_X9_rule_X9 hown hK hP 0 rfl rfl 7 (by decide) (hts (.fieldLink RX9 30 "MeetingsAboveModel" "wide" "I") (by decide +kernel)) (fun _ h9 => h9) rfl dX9_rule_86 ?_
                refine va_put (D := (dC, dI)) (ci := 9) (v := .int wi) (ty := .int) (C := RX9) (T := TX9) (N := 22) hx hb hts in_X9_rule_X9 tyX9 tyX9_ok nmX9 hown hK hP hD hS 0 rfl rfl 7 (by decide) (hts (.fieldLink RX9 30 "MeetingsAboveModel" "wide" "I") (by decide +kernel)) (fun _ h9 => h9) rfl (by decide +kernel) rfl rfl (Nat.le_of_ble_eq_true rfl) dX9_rule_89 (fun H locs hP hD hS => ?_)
                have hP : va_P (dC, dI) vwCl [(h0, .inr (9, [.int th, .ref a1, .ref a2, .ref a3, .ref a4, .ref a5, .int p2, .int wi, .int dn, .ref a6, .ref a7, .int nn, .ref a8, .int la, .ref a9, .ref a10, .long up, .long lw, .int wh, .long pu, .long pw, .ref a11]))] H := hP
                have hD : va_D A [(h0, .inr (9, [.int th, .ref a1, .ref a2, .ref a3, .ref a4, .ref a5, .int p2, .int wi, .int dn, .ref a6, .ref a7, .int nn, .ref a8, .int la, .ref a9, .ref a10, .long up, .long lw, .int wh, .long pu, .long pw, .ref a11]))] := hD
                refine lv_iload_n hx hb dX9_rule_92 rfl (lv_at hl 0 rfl) ?_
                have hP9 := hP.sub (ws' := [(h0, .inr (9, [.int th, .ref a1, .ref a2, .ref a3, .ref a4, .ref a5, .int p2, .int wi, .int dn, .ref a6, .ref a7, .int nn, .ref a8, .int la, .ref a9, .ref a10, .long up, .long lw, .int wh, .long pu, .long pw, .ref a11]))]) [0] rfl
                have hD9 := hD.sub (ws' := [(h0, .inr (9, [.int th, .ref a1, .ref a2, .ref a3, .ref a4, .ref a5, .int p2, .int wi, .int dn, .ref a6, .ref a7, .int nn, .ref a8, .int la, .ref a9, .ref a10, .long up, .long lw, .int wh, .long pu, .long pw, .ref a11]))]) [0] (by decide) rfl
                have hK9 := hK.sub (tys' := []) [] rfl
                refine W.widen (k := 0) (n := 0) (by omega) (by omega) ?_
                exact W.iret (v := wi) hx hb hr (fun t ht hW => ⟨⟨_, (), rfl, (by first | (exfalso; omega) | rw [if_pos (by omega)] | rw [if_neg (by omega), if_pos (by omega)] | rw [if_neg (by omega), if_neg (by omega)]), p2, wi, by rw [ht]; exact hP9, va_K.moved hW.alike hK9, hD9, (by first | (exfalso; omega) | rw [if_pos (by omega)] | rw [if_neg (by omega)]), (by first | (exfalso; omega) | rw [if_pos (by omega)] | rw [if_neg (by omega)])⟩, hS.F ht⟩) hS.2.2 dX9_rule_93
              · have t_78 := (fa_eq _ _).mp c_78
                refine lv_iload_n hx hb dX9_rule_81 rfl (lv_at hl 3 rfl) ?_
                refine lv_goto (tgt := 89) hx hb dX9_rule_82 (by decide) ?_
                refine va_put (D := (dC, dI)) (ci := 9) (v := .int p2) (ty := .int) (C := RX9) (T := TX9) (N := 22) hx hb hts in_X9_rule_X9 tyX9 tyX9_ok nmX9 hown hK hP hD hS 0 rfl rfl 7 (by decide) (hts (.fieldLink RX9 30 "MeetingsAboveModel" "wide" "I") (by decide +kernel)) (fun _ h9 => h9) rfl (by decide +kernel) rfl rfl (Nat.le_of_ble_eq_true rfl) dX9_rule_89 (fun H locs hP hD hS => ?_)
                have hP : va_P (dC, dI) vwCl [(h0, .inr (9, [.int th, .ref a1, .ref a2, .ref a3, .ref a4, .ref a5, .int p2, .int p2, .int dn, .ref a6, .ref a7, .int nn, .ref a8, .int la, .ref a9, .ref a10, .long up, .long lw, .int wh, .long pu, .long pw, .ref a11]))] H := hP
                have hD : va_D A [(h0, .inr (9, [.int th, .ref a1, .ref a2, .ref a3, .ref a4, .ref a5, .int p2, .int p2, .int dn, .ref a6, .ref a7, .int nn, .ref a8, .int la, .ref a9, .ref a10, .long up, .long lw, .int wh, .long pu, .long pw, .ref a11]))] := hD
                refine lv_iload_n hx hb dX9_rule_92 rfl (lv_at hl 0 rfl) ?_
                have hP9 := hP.sub (ws' := [(h0, .inr (9, [.int th, .ref a1, .ref a2, .ref a3, .ref a4, .ref a5, .int p2, .int p2, .int dn, .ref a6, .ref a7, .int nn, .ref a8, .int la, .ref a9, .ref a10, .long up, .long lw, .int wh, .long pu, .long pw, .ref a11]))]) [0] rfl
                have hD9 := hD.sub (ws' := [(h0, .inr (9, [.int th, .ref a1, .ref a2, .ref a3, .ref a4, .ref a5, .int p2, .int p2, .int dn, .ref a6, .ref a7, .int nn, .ref a8, .int la, .ref a9, .ref a10, .long up, .long lw, .int wh, .long pu, .long pw, .ref a11]))]) [0] (by decide) rfl
                have hK9 := hK.sub (tys' := []) [] rfl
                refine W.widen (k := 0) (n := 0) (by omega) (by omega) ?_
                exact W.iret (v := wi) hx hb hr (fun t ht hW => ⟨⟨_, (), rfl, (by first | (exfalso; omega) | rw [if_pos (by omega)] | rw [if_neg (by omega), if_pos (by omega)] | rw [if_neg (by omega), if_neg (by omega)]), p2, p2, by rw [ht]; exact hP9, va_K.moved hW.alike hK9, hD9, (by first | (exfalso; omega) | rw [if_pos (by omega)] | rw [if_neg (by omega)]), (by first | (exfalso; omega) | rw [if_pos (by omega)] | rw [if_neg (by omega)])⟩, hS.F ht⟩) hS.2.2 dX9_rule_93
          · have t_44 := (fa_eq _ _).mp c_44
            refine lv_aload_n hx hb dX9_rule_47 rfl (lv_at hl 0 rfl) ?_
            refine va_get (D := (dC, dI)) (ci := 9) (v := .int ne) (C := RX9) (T := TX9) (N := 22) hx hb hts in_X9_rule_X9 hown hK hP 0 rfl rfl 6 (by decide) (hts (.fieldLink RX9 26 "MeetingsAboveModel" "near" "I") (by decide +kernel)) (fun _ h9 => h9) rfl dX9_rule_48 ?_
            refine lv_goto (tgt := 58) hx hb dX9_rule_51 (by decide) ?_
            refine lv_istore_n (lv' := [(3, .int ne), (0, .ref h0), (1, .int p1), (2, .int p2)]) hx hb dX9_rule_58 rfl hl (by decide) rfl (fun ls hl => ?_)
            refine lv_aload_n hx hb dX9_rule_59 rfl (lv_at hl 1 rfl) ?_
            refine lv_iload_n hx hb dX9_rule_60 rfl (lv_at hl 2 rfl) ?_
            refine lv_if_ne (tgt := 68) hx hb dX9_rule_61 (by decide) (fun c_61 => ?_) (fun c_61 => ?_)
            · have t_61 := mt (fa_eq _ _).mpr c_61
              refine lv_aload_n hx hb dX9_rule_68 rfl (lv_at hl 1 rfl) ?_
              refine va_get (D := (dC, dI)) (ci := 9) (v := .int ne) (C := RX9) (T := TX9) (N := 22) hx hb hts in_X9_rule_X9 hown hK hP 0 rfl rfl 6 (by decide) (hts (.fieldLink RX9 26 "MeetingsAboveModel" "near" "I") (by decide +kernel)) (fun _ h9 => h9) rfl dX9_rule_69 ?_
              refine va_put (D := (dC, dI)) (ci := 9) (v := .int ne) (ty := .int) (C := RX9) (T := TX9) (N := 22) hx hb hts in_X9_rule_X9 tyX9 tyX9_ok nmX9 hown hK hP hD hS 0 rfl rfl 6 (by decide) (hts (.fieldLink RX9 26 "MeetingsAboveModel" "near" "I") (by decide +kernel)) (fun _ h9 => h9) rfl (by decide +kernel) rfl rfl (Nat.le_of_ble_eq_true rfl) dX9_rule_72 (fun H locs hP hD hS => ?_)
              have hP : va_P (dC, dI) vwCl [(h0, .inr (9, [.int th, .ref a1, .ref a2, .ref a3, .ref a4, .ref a5, .int ne, .int wi, .int dn, .ref a6, .ref a7, .int nn, .ref a8, .int la, .ref a9, .ref a10, .long up, .long lw, .int wh, .long pu, .long pw, .ref a11]))] H := hP
              have hD : va_D A [(h0, .inr (9, [.int th, .ref a1, .ref a2, .ref a3, .ref a4, .ref a5, .int ne, .int wi, .int dn, .ref a6, .ref a7, .int nn, .ref a8, .int la, .ref a9, .ref a10, .long up, .long lw, .int wh, .long pu, .long pw, .ref a11]))] := hD
              refine lv_aload_n hx hb dX9_rule_75 rfl (lv_at hl 1 rfl) ?_
              refine lv_iload_n hx hb dX9_rule_76 rfl (lv_at hl 2 rfl) ?_
              refine lv_iconst (v := 1) hx hb dX9_rule_77 (by decide) ?_
              refine lv_icmp_ne (tgt := 85) hx hb dX9_rule_78 (by decide) (fun c_78 => ?_) (fun c_78 => ?_)
              · have t_78 := mt (fa_eq _ _).mpr c_78
                refine lv_aload_n hx hb dX9_rule_85 rfl (lv_at hl 1 rfl) ?_
                refine va_get (D := (dC, dI)) (ci := 9) (v := .int wi) (C := RX9) (T := TX9) (N := 22) hx hb hts in_X9_rule_X9 hown hK hP 0 rfl rfl 7 (by decide) (hts (.fieldLink RX9 30 "MeetingsAboveModel" "wide" "I") (by decide +kernel)) (fun _ h9 => h9) rfl dX9_rule_86 ?_
                refine va_put (D := (dC, dI)) (ci := 9) (v := .int wi) (ty := .int) (C := RX9) (T := TX9) (N := 22) hx hb hts in_X9_rule_X9 tyX9 tyX9_ok nmX9 hown hK hP hD hS 0 rfl rfl 7 (by decide) (hts (.fieldLink RX9 30 "MeetingsAboveModel" "wide" "I") (by decide +kernel)) (fun _ h9 => h9) rfl (by decide +kernel) rfl rfl (Nat.le_of_ble_eq_true rfl) dX9_rule_89 (fun H locs hP hD hS => ?_)
                have hP : va_P (dC, dI) vwCl [(h0, .inr (9, [.int th, .ref a1, .ref a2, .ref a3, .ref a4, .ref a5, .int ne, .int wi, .int dn, .ref a6, .ref a7, .int nn, .ref a8, .int la, .ref a9, .ref a10, .long up, .long lw, .int wh, .long pu, .long pw, .ref a11]))] H := hP
                have hD : va_D A [(h0, .inr (9, [.int th, .ref a1, .ref a2, .ref a3, .ref a4, .ref a5, .int ne, .int wi, .int dn, .ref a6, .ref a7, .int nn, .ref a8, .int la, .ref a9, .ref a10, .long up, .long lw, .int wh, .long pu, .long pw, .ref a11]))] := hD
                refine lv_iload_n hx hb dX9_rule_92 rfl (lv_at hl 0 rfl) ?_
                have hP9 := hP.sub (ws' := [(h0, .inr (9, [.int th, .ref a1, .ref a2, .ref a3, .ref a4, .ref a5, .int ne, .int wi, .int dn, .ref a6, .ref a7, .int nn, .ref a8, .int la, .ref a9, .ref a10, .long up, .long lw, .int wh, .long pu, .long pw, .ref a11]))]) [0] rfl
                have hD9 := hD.sub (ws' := [(h0, .inr (9, [.int th, .ref a1, .ref a2, .ref a3, .ref a4, .ref a5, .int ne, .int wi, .int dn, .ref a6, .ref a7, .int nn, .ref a8, .int la, .ref a9, .ref a10, .long up, .long lw, .int wh, .long pu, .long pw, .ref a11]))]) [0] (by decide) rfl
                have hK9 := hK.sub (tys' := []) [] rfl
                refine W.widen (k := 0) (n := 0) (by omega) (by omega) ?_
                exact W.iret (v := ne) hx hb hr (fun t ht hW => ⟨⟨_, (), rfl, (by first | (exfalso; omega) | rw [if_pos (by omega)] | rw [if_neg (by omega), if_pos (by omega)] | rw [if_neg (by omega), if_neg (by omega)]), ne, wi, by rw [ht]; exact hP9, va_K.moved hW.alike hK9, hD9, (by first | (exfalso; omega) | rw [if_pos (by omega)] | rw [if_neg (by omega)]), (by first | (exfalso; omega) | rw [if_pos (by omega)] | rw [if_neg (by omega)])⟩, hS.F ht⟩) hS.2.2 dX9_rule_93
              · have t_78 := (fa_eq _ _).mp c_78
                refine lv_iload_n hx hb dX9_rule_81 rfl (lv_at hl 3 rfl) ?_
                refine lv_goto (tgt := 89) hx hb dX9_rule_82 (by decide) ?_
                refine va_put (D := (dC, dI)) (ci := 9) (v := .int p2) (ty := .int) (C := RX9) (T := TX9) (N := 22) hx hb hts in_X9_rule_X9 tyX9 tyX9_ok nmX9 hown hK hP hD hS 0 rfl rfl 7 (by decide) (hts (.fieldLink RX9 30 "MeetingsAboveModel" "wide" "I") (by decide +kernel)) (fun _ h9 => h9) rfl (by decide +kernel) rfl rfl (Nat.le_of_ble_eq_true rfl) dX9_rule_89 (fun H locs hP hD hS => ?_)
                have hP : va_P (dC, dI) vwCl [(h0, .inr (9, [.int th, .ref a1, .ref a2, .ref a3, .ref a4, .ref a5, .int ne, .int p2, .int dn, .ref a6, .ref a7, .int nn, .ref a8, .int la, .ref a9, .ref a10, .long up, .long lw, .int wh, .long pu, .long pw, .ref a11]))] H := hP
                have hD : va_D A [(h0, .inr (9, [.int th, .ref a1, .ref a2, .ref a3, .ref a4, .ref a5, .int ne, .int p2, .int dn, .ref a6, .ref a7, .int nn, .ref a8, .int la, .ref a9, .ref a10, .long up, .long lw, .int wh, .long pu, .long pw, .ref a11]))] := hD
                refine lv_iload_n hx hb dX9_rule_92 rfl (lv_at hl 0 rfl) ?_
                have hP9 := hP.sub (ws' := [(h0, .inr (9, [.int th, .ref a1, .ref a2, .ref a3, .ref a4, .ref a5, .int ne, .int p2, .int dn, .ref a6, .ref a7, .int nn, .ref a8, .int la, .ref a9, .ref a10, .long up, .long lw, .int wh, .long pu, .long pw, .ref a11]))]) [0] rfl
                have hD9 := hD.sub (ws' := [(h0, .inr (9, [.int th, .ref a1, .ref a2, .ref a3, .ref a4, .ref a5, .int ne, .int p2, .int dn, .ref a6, .ref a7, .int nn, .ref a8, .int la, .ref a9, .ref a10, .long up, .long lw, .int wh, .long pu, .long pw, .ref a11]))]) [0] (by decide) rfl
                have hK9 := hK.sub (tys' := []) [] rfl
                refine W.widen (k := 0) (n := 0) (by omega) (by omega) ?_
                exact W.iret (v := ne) hx hb hr (fun t ht hW => ⟨⟨_, (), rfl, (by first | (exfalso; omega) | rw [if_pos (by omega)] | rw [if_neg (by omega), if_pos (by omega)] | rw [if_neg (by omega), if_neg (by omega)]), ne, p2, by rw [ht]; exact hP9, va_K.moved hW.alike hK9, hD9, (by first | (exfalso; omega) | rw [if_pos (by omega)] | rw [if_neg (by omega)]), (by first | (exfalso; omega) | rw [if_pos (by omega)] | rw [if_neg (by omega)])⟩, hS.F ht⟩) hS.2.2 dX9_rule_93
            · have t_61 := (fa_eq _ _).mp c_61
              refine lv_iload_n hx hb dX9_rule_64 rfl (lv_at hl 3 rfl) ?_
              refine lv_goto (tgt := 72) hx hb dX9_rule_65 (by decide) ?_
              refine va_put (D := (dC, dI)) (ci := 9) (v := .int p2) (ty := .int) (C := RX9) (T := TX9) (N := 22) hx hb hts in_X9_rule_X9 tyX9 tyX9_ok nmX9 hown hK hP hD hS 0 rfl rfl 6 (by decide) (hts (.fieldLink RX9 26 "MeetingsAboveModel" "near" "I") (by decide +kernel)) (fun _ h9 => h9) rfl (by decide +kernel) rfl rfl (Nat.le_of_ble_eq_true rfl) dX9_rule_72 (fun H locs hP hD hS => ?_)
              have hP : va_P (dC, dI) vwCl [(h0, .inr (9, [.int th, .ref a1, .ref a2, .ref a3, .ref a4, .ref a5, .int p2, .int wi, .int dn, .ref a6, .ref a7, .int nn, .ref a8, .int la, .ref a9, .ref a10, .long up, .long lw, .int wh, .long pu, .long pw, .ref a11]))] H := hP
              have hD : va_D A [(h0, .inr (9, [.int th, .ref a1, .ref a2, .ref a3, .ref a4, .ref a5, .int p2, .int wi, .int dn, .ref a6, .ref a7, .int nn, .ref a8, .int la, .ref a9, .ref a10, .long up, .long lw, .int wh, .long pu, .long pw, .ref a11]))] := hD
              refine lv_aload_n hx hb dX9_rule_75 rfl (lv_at hl 1 rfl) ?_
              refine lv_iload_n hx hb dX9_rule_76 rfl (lv_at hl 2 rfl) ?_
              refine lv_iconst (v := 1) hx hb dX9_rule_77 (by decide) ?_
              refine lv_icmp_ne (tgt := 85) hx hb dX9_rule_78 (by decide) (fun c_78 => ?_) (fun c_78 => ?_)
              · have t_78 := mt (fa_eq _ _).mpr c_78
                refine lv_aload_n hx hb dX9_rule_85 rfl (lv_at hl 1 rfl) ?_
                refine va_get (D := (dC, dI)) (ci := 9) (v := .int wi) (C := RX9) (T := TX9) (N := 22) hx hb hts in_X9_rule_X9 hown hK hP 0 rfl rfl 7 (by decide) (hts (.fieldLink RX9 30 "MeetingsAboveModel" "wide" "I") (by decide +kernel)) (fun _ h9 => h9) rfl dX9_rule_86 ?_
                refine va_put (D := (dC, dI)) (ci := 9) (v := .int wi) (ty := .int) (C := RX9) (T := TX9) (N := 22) hx hb hts in_X9_rule_X9 tyX9 tyX9_ok nmX9 hown hK hP hD hS 0 rfl rfl 7 (by decide) (hts (.fieldLink RX9 30 "MeetingsAboveModel" "wide" "I") (by decide +kernel)) (fun _ h9 => h9) rfl (by decide +kernel) rfl rfl (Nat.le_of_ble_eq_true rfl) dX9_rule_89 (fun H locs hP hD hS => ?_)
                have hP : va_P (dC, dI) vwCl [(h0, .inr (9, [.int th, .ref a1, .ref a2, .ref a3, .ref a4, .ref a5, .int p2, .int wi, .int dn, .ref a6, .ref a7, .int nn, .ref a8, .int la, .ref a9, .ref a10, .long up, .long lw, .int wh, .long pu, .long pw, .ref a11]))] H := hP
                have hD : va_D A [(h0, .inr (9, [.int th, .ref a1, .ref a2, .ref a3, .ref a4, .ref a5, .int p2, .int wi, .int dn, .ref a6, .ref a7, .int nn, .ref a8, .int la, .ref a9, .ref a10, .long up, .long lw, .int wh, .long pu, .long pw, .ref a11]))] := hD
                refine lv_iload_n hx hb dX9_rule_92 rfl (lv_at hl 0 rfl) ?_
                have hP9 := hP.sub (ws' := [(h0, .inr (9, [.int th, .ref a1, .ref a2, .ref a3, .ref a4, .ref a5, .int p2, .int wi, .int dn, .ref a6, .ref a7, .int nn, .ref a8, .int la, .ref a9, .ref a10, .long up, .long lw, .int wh, .long pu, .long pw, .ref a11]))]) [0] rfl
                have hD9 := hD.sub (ws' := [(h0, .inr (9, [.int th, .ref a1, .ref a2, .ref a3, .ref a4, .ref a5, .int p2, .int wi, .int dn, .ref a6, .ref a7, .int nn, .ref a8, .int la, .ref a9, .ref a10, .long up, .long lw, .int wh, .long pu, .long pw, .ref a11]))]) [0] (by decide) rfl
                have hK9 := hK.sub (tys' := []) [] rfl
                refine W.widen (k := 0) (n := 0) (by omega) (by omega) ?_
                exact W.iret (v := ne) hx hb hr (fun t ht hW => ⟨⟨_, (), rfl, (by first | (exfalso; omega) | rw [if_pos (by omega)] | rw [if_neg (by omega), if_pos (by omega)] | rw [if_neg (by omega), if_neg (by omega)]), p2, wi, by rw [ht]; exact hP9, va_K.moved hW.alike hK9, hD9, (by first | (exfalso; omega) | rw [if_pos (by omega)] | rw [if_neg (by omega)]), (by first | (exfalso; omega) | rw [if_pos (by omega)] | rw [if_neg (by omega)])⟩, hS.F ht⟩) hS.2.2 dX9_rule_93
              · have t_78 := (fa_eq _ _).mp c_78
                refine lv_iload_n hx hb dX9_rule_81 rfl (lv_at hl 3 rfl) ?_
                refine lv_goto (tgt := 89) hx hb dX9_rule_82 (by decide) ?_
                refine va_put (D := (dC, dI)) (ci := 9) (v := .int p2) (ty := .int) (C := RX9) (T := TX9) (N := 22) hx hb hts in_X9_rule_X9 tyX9 tyX9_ok nmX9 hown hK hP hD hS 0 rfl rfl 7 (by decide) (hts (.fieldLink RX9 30 "MeetingsAboveModel" "wide" "I") (by decide +kernel)) (fun _ h9 => h9) rfl (by decide +kernel) rfl rfl (Nat.le_of_ble_eq_true rfl) dX9_rule_89 (fun H locs hP hD hS => ?_)
                have hP : va_P (dC, dI) vwCl [(h0, .inr (9, [.int th, .ref a1, .ref a2, .ref a3, .ref a4, .ref a5, .int p2, .int p2, .int dn, .ref a6, .ref a7, .int nn, .ref a8, .int la, .ref a9, .ref a10, .long up, .long lw, .int wh, .long pu, .long pw, .ref a11]))] H := hP
                have hD : va_D A [(h0, .inr (9, [.int th, .ref a1, .ref a2, .ref a3, .ref a4, .ref a5, .int p2, .int p2, .int dn, .ref a6, .ref a7, .int nn, .ref a8, .int la, .ref a9, .ref a10, .long up, .long lw, .int wh, .long pu, .long pw, .ref a11]))] := hD
                refine lv_iload_n hx hb dX9_rule_92 rfl (lv_at hl 0 rfl) ?_
                have hP9 := hP.sub (ws' := [(h0, .inr (9, [.int th, .ref a1, .ref a2, .ref a3, .ref a4, .ref a5, .int p2, .int p2, .int dn, .ref a6, .ref a7, .int nn, .ref a8, .int la, .ref a9, .ref a10, .long up, .long lw, .int wh, .long pu, .long pw, .ref a11]))]) [0] rfl
                have hD9 := hD.sub (ws' := [(h0, .inr (9, [.int th, .ref a1, .ref a2, .ref a3, .ref a4, .ref a5, .int p2, .int p2, .int dn, .ref a6, .ref a7, .int nn, .ref a8, .int la, .ref a9, .ref a10, .long up, .long lw, .int wh, .long pu, .long pw, .ref a11]))]) [0] (by decide) rfl
                have hK9 := hK.sub (tys' := []) [] rfl
                refine W.widen (k := 0) (n := 0) (by omega) (by omega) ?_
                exact W.iret (v := ne) hx hb hr (fun t ht hW => ⟨⟨_, (), rfl, (by first | (exfalso; omega) | rw [if_pos (by omega)] | rw [if_neg (by omega), if_pos (by omega)] | rw [if_neg (by omega), if_neg (by omega)]), p2, p2, by rw [ht]; exact hP9, va_K.moved hW.alike hK9, hD9, (by first | (exfalso; omega) | rw [if_pos (by omega)] | rw [if_neg (by omega)]), (by first | (exfalso; omega) | rw [if_pos (by omega)] | rw [if_neg (by omega)])⟩, hS.F ht⟩) hS.2.2 dX9_rule_93
        · simp only [Int32.toInt_toInt64, klL_1, klL_3000] at q_34
          refine lv_if_ne (tgt := 43) hx hb dX9_rule_37 (by decide) (fun h9 => absurd h9 (by decide)) (fun _ => ?_)
          refine lv_ldc hx hb hown (hts (.constant RX9 70 (-100002)) (by decide +kernel)) dX9_rule_40 ?_
          have hP9 := hP.sub (ws' := [(h0, .inr (9, [.int th, .ref a1, .ref a2, .ref a3, .ref a4, .ref a5, .int ne, .int wi, .int dn, .ref a6, .ref a7, .int nn, .ref a8, .int la, .ref a9, .ref a10, .long up, .long lw, .int wh, .long pu, .long pw, .ref a11]))]) [0] rfl
          have hD9 := hD.sub (ws' := [(h0, .inr (9, [.int th, .ref a1, .ref a2, .ref a3, .ref a4, .ref a5, .int ne, .int wi, .int dn, .ref a6, .ref a7, .int nn, .ref a8, .int la, .ref a9, .ref a10, .long up, .long lw, .int wh, .long pu, .long pw, .ref a11]))]) [0] (by decide) rfl
          have hK9 := hK.sub (tys' := []) [] rfl
          refine W.widen (k := 0) (n := 0) (by omega) (by omega) ?_
          exact W.iret (v := (-100002)) hx hb hr (fun t ht hW => ⟨⟨_, (), rfl, (by first | (exfalso; omega) | rw [if_pos (by omega)] | rw [if_neg (by omega), if_pos (by omega)] | rw [if_neg (by omega), if_neg (by omega)]), ne, wi, by rw [ht]; exact hP9, va_K.moved hW.alike hK9, hD9, (by first | (exfalso; omega) | rw [if_pos (by omega)] | rw [if_neg (by omega)]), (by first | (exfalso; omega) | rw [if_pos (by omega)] | rw [if_neg (by omega)])⟩, hS.F ht⟩) hS.2.2 dX9_rule_42
  · simp only [Int32.toInt_toInt64, klL_0, klL_1] at q_4
    refine lv_if_eq (tgt := 40) hx hb dX9_rule_7 (by decide) (fun _ => ?_) (fun h9 => absurd h9 (by decide))
    refine lv_ldc hx hb hown (hts (.constant RX9 70 (-100002)) (by decide +kernel)) dX9_rule_40 ?_
    have hP9 := hP.sub (ws' := [(h0, .inr (9, [.int th, .ref a1, .ref a2, .ref a3, .ref a4, .ref a5, .int ne, .int wi, .int dn, .ref a6, .ref a7, .int nn, .ref a8, .int la, .ref a9, .ref a10, .long up, .long lw, .int wh, .long pu, .long pw, .ref a11]))]) [0] rfl
    have hD9 := hD.sub (ws' := [(h0, .inr (9, [.int th, .ref a1, .ref a2, .ref a3, .ref a4, .ref a5, .int ne, .int wi, .int dn, .ref a6, .ref a7, .int nn, .ref a8, .int la, .ref a9, .ref a10, .long up, .long lw, .int wh, .long pu, .long pw, .ref a11]))]) [0] (by decide) rfl
    have hK9 := hK.sub (tys' := []) [] rfl
    refine W.widen (k := 0) (n := 0) (by omega) (by omega) ?_
    exact W.iret (v := (-100002)) hx hb hr (fun t ht hW => ⟨⟨_, (), rfl, (by first | (exfalso; omega) | rw [if_pos (by omega)] | rw [if_neg (by omega), if_pos (by omega)] | rw [if_neg (by omega), if_neg (by omega)]), ne, wi, by rw [ht]; exact hP9, va_K.moved hW.alike hK9, hD9, (by first | (exfalso; omega) | rw [if_pos (by omega)] | rw [if_neg (by omega)]), (by first | (exfalso; omega) | rw [if_pos (by omega)] | rw [if_neg (by omega)])⟩, hS.F ht⟩) hS.2.2 dX9_rule_42
def wk_X9_dot : List Cond := .code yX9_dot cX9_dot 5 (some .int) :: (([.constantLong RX9 62 39, .fieldLink RX9 109 "MeetingsAboveModel" "dots" "I", .fieldLink RX9 33 "MeetingsAboveModel" "dotSteps" "[I", .fieldLink RX9 36 "MeetingsAboveModel" "dotSpots" "[I", .constant RX9 71 (-100004), .constant RX9 70 (-100002)] : List Cond) ++ (wsX90 ++ ((va_wsS RX9 55 yX9_in wk_X9_in) ++ ((va_wsS RX9 64 yX9_isPlace wk_X9_isPlace) ++ ([])))))
theorem in_X9_dot_X9 : ∀ w ∈ wsX90, w ∈ wk_X9_dot := fun _ h => List.mem_cons_of_mem _ (List.mem_append_right _ (List.mem_append_left _ h))
theorem gw_X9_dot : AG wk_X9_dot := AG_ca (AG_l (by decide +kernel)) (AG_app ag_X9 (AG_app (AG_S gw_X9_in) (AG_app (AG_S gw_X9_isPlace) (AG_nil))))
theorem g_X9_dot__X9_in_55 : GoodIn wk_X9_dot (va_wsS RX9 55 yX9_in wk_X9_in) := goodIn_m (fun _ h => List.mem_cons_of_mem _ (List.mem_append_right _ (List.mem_append_right _ (List.mem_append_left _ h)))) (AG_S gw_X9_in)
theorem g_X9_dot__X9_isPlace_64 : GoodIn wk_X9_dot (va_wsS RX9 64 yX9_isPlace wk_X9_isPlace) := goodIn_m (fun _ h => List.mem_cons_of_mem _ (List.mem_append_right _ (List.mem_append_right _ (List.mem_append_right _ (List.mem_append_left _ h))))) (AG_S gw_X9_isPlace)
set_option maxHeartbeats 4000000 in
set_option maxRecDepth 100000 in
theorem c_X9_dot (l : Launch) (dC : Nat → ClassId) (dI : Nat → Nat → Nat) (h0 : Nat) (a1 : Nat) (a2 : Nat) (a3 : Nat) (a4 : Nat) (a5 : Nat) (a6 : Nat) (a7 : Nat) (a8 : Nat) (a9 : Nat) (a10 : Nat) (a11 : Nat) (th : Int32) (ne : Int32) (wi : Int32) (dn : Int32) (nn : Int32) (la : Int32) (wh : Int32) (up : Int64) (lw : Int64) (pu : Int64) (pw : Int64) (cI : ClassId) (Ds : Nat → Int32) (Dp : Nat → Int32) (p1 : Int32) (p2 : Int32) (p3 : Int32) (p4 : Int32) (sz : Nat) (hd0 : 0 ≤ dn.toInt) (hd1 : dn.toInt ≤ 40) : Met l yX9_dot wk_X9_dot ({ frames := 2, cells := 0, slots := 0, locals := 47 }) (va_Pc [.ref h0, .int p1, .int p2, .int p3, .int p4] (fun U => U.heap.size = sz ∧ va_P (dC, dI) vwCl [(h0, .inr (9, [.int th, .ref a1, .ref a2, .ref a3, .ref a4, .ref a5, .int ne, .int wi, .int dn, .ref a6, .ref a7, .int nn, .ref a8, .int la, .ref a9, .ref a10, .long up, .long lw, .int wh, .long pu, .long pw, .ref a11])), (a6, .inl (cI, 40, .inl Ds)), (a7, .inl (cI, 120, .inl Dp))] U.heap ∧ va_K (dC, dI) vwCl [(cI, .int)] U ∧ va_D (fun _ => True) [(h0, .inr (9, [.int th, .ref a1, .ref a2, .ref a3, .ref a4, .ref a5, .int ne, .int wi, .int dn, .ref a6, .ref a7, .int nn, .ref a8, .int la, .ref a9, .ref a10, .long up, .long lw, .int wh, .long pu, .long pw, .ref a11])), (a6, .inl (cI, 40, .inl Ds)), (a7, .inl (cI, 120, .inl Dp))])) (va_Qi (fun (r : Int32) (_ : Unit) => r = if okD p1 p2 p3 p4 then (if dn.toInt < 40 then dn else -100004) else -100002) (fun (_ : Unit) (t : State) => ∃ (dn9 : Int32) (Ds9 : Nat → Int32) (Dp9 : Nat → Int32), va_P (dC, dI) vwCl [(h0, .inr (9, [.int th, .ref a1, .ref a2, .ref a3, .ref a4, .ref a5, .int ne, .int wi, .int dn9, .ref a6, .ref a7, .int nn, .ref a8, .int la, .ref a9, .ref a10, .long up, .long lw, .int wh, .long pu, .long pw, .ref a11])), (a6, .inl (cI, 40, .inl Ds9)), (a7, .inl (cI, 120, .inl Dp9))] t.heap ∧ va_K (dC, dI) vwCl [(cI, .int)] t ∧ va_D (va_A [(h0, .inr (9, [.int th, .ref a1, .ref a2, .ref a3, .ref a4, .ref a5, .int ne, .int wi, .int dn, .ref a6, .ref a7, .int nn, .ref a8, .int la, .ref a9, .ref a10, .long up, .long lw, .int wh, .long pu, .long pw, .ref a11])), (a6, .inl (cI, 40, .inl Ds)), (a7, .inl (cI, 120, .inl Dp))] sz) [(h0, .inr (9, [.int th, .ref a1, .ref a2, .ref a3, .ref a4, .ref a5, .int ne, .int wi, .int dn9, .ref a6, .ref a7, .int nn, .ref a8, .int la, .ref a9, .ref a10, .long up, .long lw, .int wh, .long pu, .long pw, .ref a11])), (a6, .inl (cI, 40, .inl Ds9)), (a7, .inl (cI, 120, .inl Dp9))] ∧ ((okD p1 p2 p3 p4 ∧ dn.toInt < 40 ∧ dn9.toInt = dn.toInt + 1 ∧ Ds9 = upd Ds dn.toNatClampNeg p1 ∧ Dp9 = st3 Dp (3 * dn.toInt).toNat p2 p3 p4) ∨ (¬ (okD p1 p2 p3 p4 ∧ dn.toInt < 40) ∧ dn9 = dn ∧ Ds9 = Ds ∧ Dp9 = Dp))) (va_A [(h0, .inr (9, [.int th, .ref a1, .ref a2, .ref a3, .ref a4, .ref a5, .int ne, .int wi, .int dn, .ref a6, .ref a7, .int nn, .ref a8, .int la, .ref a9, .ref a10, .long up, .long lw, .int wh, .long pu, .long pw, .ref a11])), (a6, .inl (cI, 40, .inl Ds)), (a7, .inl (cI, 120, .inl Dp))] sz)) 0 0 (va_A [(h0, .inr (9, [.int th, .ref a1, .ref a2, .ref a3, .ref a4, .ref a5, .int ne, .int wi, .int dn, .ref a6, .ref a7, .int nn, .ref a8, .int la, .ref a9, .ref a10, .long up, .long lw, .int wh, .long pu, .long pw, .ref a11])), (a6, .inl (cI, 40, .inl Ds)), (a7, .inl (cI, 120, .inl Dp))] sz) := by
  refine Met.ofW (cc := cX9_dot) (maxL := 5) (ret := (some .int)) (by decide) rfl ?_
  intro p e s m args below meth c s₁ B hml hv
  obtain ⟨rfl, hsz, hP, hK, hD0⟩ := hv
  have hx := B.exec
  have hb := B.bytes
  have hr := B.returns
  have hts := atoms_spec (ws := wk_X9_dot) B.pre
  have hown : s.vm.findClass RX9 = some m.cls := findClass_of_methodNamed B.named
  have hlocks := B.notSynchronized
  subst hsz
  have hD := hD0.self (sz := s.heap.size)
  generalize hAe : va_A [(h0, .inr (9, [.int th, .ref a1, .ref a2, .ref a3, .ref a4, .ref a5, .int ne, .int wi, .int dn, .ref a6, .ref a7, .int nn, .ref a8, .int la, .ref a9, .ref a10, .long up, .long lw, .int wh, .long pu, .long pw, .ref a11])), (a6, .inl (cI, 40, .inl Ds)), (a7, .inl (cI, 120, .inl Dp))] s.heap.size = A at hD ⊢
  have hA : ∀ q : Nat, s.heap.size ≤ q → A q := fun q h => by rw [← hAe]; exact Or.inr h
  have hS : va_S A s.heap s.heap [] := va_S.rf
  have hP : va_P (dC, dI) vwCl [(h0, .inr (9, [.int th, .ref a1, .ref a2, .ref a3, .ref a4, .ref a5, .int ne, .int wi, .int dn, .ref a6, .ref a7, .int nn, .ref a8, .int la, .ref a9, .ref a10, .long up, .long lw, .int wh, .long pu, .long pw, .ref a11])), (a6, .inl (cI, 40, .inl Ds)), (a7, .inl (cI, 120, .inl Dp))] s.heap := hP
  have hl := lv_entry ([.ref h0, .int p1, .int p2, .int p3, .int p4]) (n := 5) (Nat.le_of_ble_eq_true rfl)
  rw [lg_entry_eq]
  generalize (lg_sl ([.ref h0, .int p1, .int p2, .int p3, .int p4]) ++ List.replicate (5 - (lg_sl ([.ref h0, .int p1, .int p2, .int p3, .int p4])).length) Slot.unset).toArray = ls at hl ⊢
  have hl : lv_has ls 5 [(0, .ref h0), (1, .int p1), (2, .int p2), (3, .int p3), (4, .int p4)] := hl
  have kl_m100004 : (-100004 : Int32).toInt = -100004 := by decide
  have kl_m100002 : (-100002 : Int32).toInt = -100002 := by decide
  have kl_0 : (0 : Int32).toInt = 0 := by decide
  have kl_1 : (1 : Int32).toInt = 1 := by decide
  have kl_2 : (2 : Int32).toInt = 2 := by decide
  have kl_3 : (3 : Int32).toInt = 3 := by decide
  have kl_39 : (39 : Int32).toInt = 39 := by decide
  have kl_40 : (40 : Int32).toInt = 40 := by decide
  have klL_0 : (0 : Int64).toInt = 0 := by decide
  have klL_39 : (39 : Int64).toInt = 39 := by decide
  refine lv_iload_n hx hb dX9_dot_0 rfl (lv_at hl 1 rfl) ?_
  refine lv_i2l hx hb dX9_dot_1 rfl ?_
  refine lv_lconst (v := 0) hx hb dX9_dot_2 (by decide) ?_
  refine lv_ldc2 hx hb hown (hts (.constantLong RX9 62 39) (by decide +kernel)) dX9_dot_3 ?_
  refine vp_callSi (W.runS (As := [.long p1.toInt64, .long 0, .long 39]) (rest := []) ⟨hx, hb, hml, hown, hts⟩ (c_X9_in l dC dI p1.toInt64 0 39) (va_cwS 3 hts g_X9_dot__X9_in_55 rfl rfl rfl (by decide +kernel) ⟨Nat.le_of_ble_eq_true rfl, Nat.le_of_ble_eq_true rfl⟩) ⟨fun a U g mk q => by obtain ⟨q0, q1⟩ := q; exact ⟨q0, q1⟩, fun U hU hW => ⟨rfl, trivial⟩⟩ rfl rfl hl.1 rfl (lv_room (Nat.le_of_ble_eq_true rfl)) dX9_dot_6 ⟨Nat.le_of_ble_eq_true rfl, Nat.le_of_ble_eq_true rfl⟩) (fun r_1 hr_1 => ?_)
  try dsimp only at hr_1
  rcases bo_split hr_1 with ⟨rfl, q_6⟩ | ⟨rfl, q_6⟩
  · simp only [Int32.toInt_toInt64, klL_0, klL_39] at q_6
    refine lv_if_eq (tgt := 22) hx hb dX9_dot_9 (by decide) (fun h9 => absurd h9 (by decide)) (fun _ => ?_)
    refine lv_iload_n hx hb dX9_dot_12 rfl (lv_at hl 2 rfl) ?_
    refine lv_iload_n hx hb dX9_dot_13 rfl (lv_at hl 3 rfl) ?_
    refine lv_iload hx hb dX9_dot_14 (lv_at hl 4 rfl) ?_
    refine vp_callSi (W.runS (As := [.int p2, .int p3, .int p4]) (rest := []) ⟨hx, hb, hml, hown, hts⟩ (c_X9_isPlace l dC dI p2 p3 p4) (va_cwS 3 hts g_X9_dot__X9_isPlace_64 rfl rfl rfl (by decide +kernel) ⟨Nat.le_of_ble_eq_true rfl, Nat.le_of_ble_eq_true rfl⟩) ⟨fun a U g mk q => by obtain ⟨q0, q1⟩ := q; exact ⟨q0, q1⟩, fun U hU hW => ⟨rfl, trivial⟩⟩ rfl rfl hl.1 rfl (lv_room (Nat.le_of_ble_eq_true rfl)) dX9_dot_16 ⟨Nat.le_of_ble_eq_true rfl, Nat.le_of_ble_eq_true rfl⟩) (fun r_2 hr_2 => ?_)
    try dsimp only at hr_2
    rcases bo_split hr_2 with ⟨rfl, q_16⟩ | ⟨rfl, q_16⟩
    · refine lv_if_ne (tgt := 25) hx hb dX9_dot_19 (by decide) (fun _ => ?_) (fun h9 => absurd h9 (by decide))
      refine lv_aload_n hx hb dX9_dot_25 rfl (lv_at hl 0 rfl) ?_
      refine va_get (D := (dC, dI)) (ci := 9) (v := .int dn) (C := RX9) (T := TX9) (N := 22) hx hb hts in_X9_dot_X9 hown hK hP 0 rfl rfl 8 (by decide) (hts (.fieldLink RX9 109 "MeetingsAboveModel" "dots" "I") (by decide +kernel)) (fun _ h9 => h9) rfl dX9_dot_26 ?_
      refine lv_bipush (v := 40) hx hb dX9_dot_29 (by decide) ?_
      refine lv_icmp_ne (tgt := 37) hx hb dX9_dot_31 (by decide) (fun c_31 => ?_) (fun c_31 => ?_)
      · have t_31 := mt (fa_eq _ _).mpr c_31
        refine lv_aload_n hx hb dX9_dot_37 rfl (lv_at hl 0 rfl) ?_
        refine va_get (D := (dC, dI)) (ci := 9) (v := .ref a6) (C := RX9) (T := TX9) (N := 22) hx hb hts in_X9_dot_X9 hown hK hP 0 rfl rfl 9 (by decide) (hts (.fieldLink RX9 33 "MeetingsAboveModel" "dotSteps" "[I") (by decide +kernel)) (fun _ h9 => h9) rfl dX9_dot_38 ?_
        refine lv_aload_n hx hb dX9_dot_41 rfl (lv_at hl 0 rfl) ?_
        refine va_get (D := (dC, dI)) (ci := 9) (v := .int dn) (C := RX9) (T := TX9) (N := 22) hx hb hts in_X9_dot_X9 hown hK hP 0 rfl rfl 8 (by decide) (hts (.fieldLink RX9 109 "MeetingsAboveModel" "dots" "I") (by decide +kernel)) (fun _ h9 => h9) rfl dX9_dot_42 ?_
        refine lv_iload_n hx hb dX9_dot_45 rfl (lv_at hl 1 rfl) ?_
        refine va_iast hx hb hK hP hD hS 1 0 rfl rfl (vp_in_iff.mpr ⟨by omega, by omega⟩) dX9_dot_46 (fun H locs hP hD hS => ?_)
        have hP : va_P (dC, dI) vwCl [(h0, .inr (9, [.int th, .ref a1, .ref a2, .ref a3, .ref a4, .ref a5, .int ne, .int wi, .int dn, .ref a6, .ref a7, .int nn, .ref a8, .int la, .ref a9, .ref a10, .long up, .long lw, .int wh, .long pu, .long pw, .ref a11])), (a6, .inl (cI, 40, .inl (upd Ds (dn : Int32).toNatClampNeg p1))), (a7, .inl (cI, 120, .inl Dp))] H := hP
        have hD : va_D A [(h0, .inr (9, [.int th, .ref a1, .ref a2, .ref a3, .ref a4, .ref a5, .int ne, .int wi, .int dn, .ref a6, .ref a7, .int nn, .ref a8, .int la, .ref a9, .ref a10, .long up, .long lw, .int wh, .long pu, .long pw, .ref a11])), (a6, .inl (cI, 40, .inl (upd Ds (dn : Int32).toNatClampNeg p1))), (a7, .inl (cI, 120, .inl Dp))] := hD
        refine lv_aload_n hx hb dX9_dot_47 rfl (lv_at hl 0 rfl) ?_
        refine va_get (D := (dC, dI)) (ci := 9) (v := .ref a7) (C := RX9) (T := TX9) (N := 22) hx hb hts in_X9_dot_X9 hown hK hP 0 rfl rfl 10 (by decide) (hts (.fieldLink RX9 36 "MeetingsAboveModel" "dotSpots" "[I") (by decide +kernel)) (fun _ h9 => h9) rfl dX9_dot_48 ?_
        refine lv_iconst (v := 3) hx hb dX9_dot_51 (by decide) ?_
        refine lv_aload_n hx hb dX9_dot_52 rfl (lv_at hl 0 rfl) ?_
        refine va_get (D := (dC, dI)) (ci := 9) (v := .int dn) (C := RX9) (T := TX9) (N := 22) hx hb hts in_X9_dot_X9 hown hK hP 0 rfl rfl 8 (by decide) (hts (.fieldLink RX9 109 "MeetingsAboveModel" "dots" "I") (by decide +kernel)) (fun _ h9 => h9) rfl dX9_dot_53 ?_
        refine lv_imul hx hb dX9_dot_56 ?_
        refine lv_topi (fun y_3 ey_3 => ?_)
        have ty_3 : y_3.toInt = 3 * dn.toInt := by rw [ey_3]; exact fm_lI kl_3 (by omega) (by omega)
        refine lv_iload_n hx hb dX9_dot_57 rfl (lv_at hl 2 rfl) ?_
        refine va_iast hx hb hK hP hD hS 2 0 rfl rfl (vp_in_iff.mpr ⟨by omega, by omega⟩) dX9_dot_58 (fun H locs hP hD hS => ?_)
        have hP : va_P (dC, dI) vwCl [(h0, .inr (9, [.int th, .ref a1, .ref a2, .ref a3, .ref a4, .ref a5, .int ne, .int wi, .int dn, .ref a6, .ref a7, .int nn, .ref a8, .int la, .ref a9, .ref a10, .long up, .long lw, .int wh, .long pu, .long pw, .ref a11])), (a6, .inl (cI, 40, .inl (upd Ds (dn : Int32).toNatClampNeg p1))), (a7, .inl (cI, 120, .inl (upd Dp (y_3 : Int32).toNatClampNeg p2)))] H := hP
        have hD : va_D A [(h0, .inr (9, [.int th, .ref a1, .ref a2, .ref a3, .ref a4, .ref a5, .int ne, .int wi, .int dn, .ref a6, .ref a7, .int nn, .ref a8, .int la, .ref a9, .ref a10, .long up, .long lw, .int wh, .long pu, .long pw, .ref a11])), (a6, .inl (cI, 40, .inl (upd Ds (dn : Int32).toNatClampNeg p1))), (a7, .inl (cI, 120, .inl (upd Dp (y_3 : Int32).toNatClampNeg p2)))] := hD
        refine lv_aload_n hx hb dX9_dot_59 rfl (lv_at hl 0 rfl) ?_
        refine va_get (D := (dC, dI)) (ci := 9) (v := .ref a7) (C := RX9) (T := TX9) (N := 22) hx hb hts in_X9_dot_X9 hown hK hP 0 rfl rfl 10 (by decide) (hts (.fieldLink RX9 36 "MeetingsAboveModel" "dotSpots" "[I") (by decide +kernel)) (fun _ h9 => h9) rfl dX9_dot_60 ?_
        refine lv_iconst (v := 3) hx hb dX9_dot_63 (by decide) ?_
        refine lv_aload_n hx hb dX9_dot_64 rfl (lv_at hl 0 rfl) ?_
        refine va_get (D := (dC, dI)) (ci := 9) (v := .int dn) (C := RX9) (T := TX9) (N := 22) hx hb hts in_X9_dot_X9 hown hK hP 0 rfl rfl 8 (by decide) (hts (.fieldLink RX9 109 "MeetingsAboveModel" "dots" "I") (by decide +kernel)) (fun _ h9 => h9) rfl dX9_dot_65 ?_
        refine lv_imul hx hb dX9_dot_68 ?_
        refine lv_topi (fun y_4 ey_4 => ?_)
        have ty_4 : y_4.toInt = 3 * dn.toInt := by rw [ey_4]; exact fm_lI kl_3 (by omega) (by omega)
        refine lv_iconst (v := 1) hx hb dX9_dot_69 (by decide) ?_
        refine lv_iadd hx hb dX9_dot_70 ?_
        refine lv_topi (fun y_5 ey_5 => ?_)
        have ty_5 : y_5.toInt = y_4.toInt + 1 := by rw [ey_5]; have := fb_addI (x := y_4) (y := 1) (by omega) (by omega); omega
        refine lv_iload_n hx hb dX9_dot_71 rfl (lv_at hl 3 rfl) ?_
        refine va_iast hx hb hK hP hD hS 2 0 rfl rfl (vp_in_iff.mpr ⟨by omega, by omega⟩) dX9_dot_72 (fun H locs hP hD hS => ?_)
        have hP : va_P (dC, dI) vwCl [(h0, .inr (9, [.int th, .ref a1, .ref a2, .ref a3, .ref a4, .ref a5, .int ne, .int wi, .int dn, .ref a6, .ref a7, .int nn, .ref a8, .int la, .ref a9, .ref a10, .long up, .long lw, .int wh, .long pu, .long pw, .ref a11])), (a6, .inl (cI, 40, .inl (upd Ds (dn : Int32).toNatClampNeg p1))), (a7, .inl (cI, 120, .inl (upd (upd Dp (y_3 : Int32).toNatClampNeg p2) (y_5 : Int32).toNatClampNeg p3)))] H := hP
        have hD : va_D A [(h0, .inr (9, [.int th, .ref a1, .ref a2, .ref a3, .ref a4, .ref a5, .int ne, .int wi, .int dn, .ref a6, .ref a7, .int nn, .ref a8, .int la, .ref a9, .ref a10, .long up, .long lw, .int wh, .long pu, .long pw, .ref a11])), (a6, .inl (cI, 40, .inl (upd Ds (dn : Int32).toNatClampNeg p1))), (a7, .inl (cI, 120, .inl (upd (upd Dp (y_3 : Int32).toNatClampNeg p2) (y_5 : Int32).toNatClampNeg p3)))] := hD
        refine lv_aload_n hx hb dX9_dot_73 rfl (lv_at hl 0 rfl) ?_
        refine va_get (D := (dC, dI)) (ci := 9) (v := .ref a7) (C := RX9) (T := TX9) (N := 22) hx hb hts in_X9_dot_X9 hown hK hP 0 rfl rfl 10 (by decide) (hts (.fieldLink RX9 36 "MeetingsAboveModel" "dotSpots" "[I") (by decide +kernel)) (fun _ h9 => h9) rfl dX9_dot_74 ?_
        refine lv_iconst (v := 3) hx hb dX9_dot_77 (by decide) ?_
        refine lv_aload_n hx hb dX9_dot_78 rfl (lv_at hl 0 rfl) ?_
        refine va_get (D := (dC, dI)) (ci := 9) (v := .int dn) (C := RX9) (T := TX9) (N := 22) hx hb hts in_X9_dot_X9 hown hK hP 0 rfl rfl 8 (by decide) (hts (.fieldLink RX9 109 "MeetingsAboveModel" "dots" "I") (by decide +kernel)) (fun _ h9 => h9) rfl dX9_dot_79 ?_
        refine lv_imul hx hb dX9_dot_82 ?_
        refine lv_topi (fun y_6 ey_6 => ?_)
        have ty_6 : y_6.toInt = 3 * dn.toInt := by rw [ey_6]; exact fm_lI kl_3 (by omega) (by omega)
        refine lv_iconst (v := 2) hx hb dX9_dot_83 (by decide) ?_
        refine lv_iadd hx hb dX9_dot_84 ?_
        refine lv_topi (fun y_7 ey_7 => ?_)
        have ty_7 : y_7.toInt = y_6.toInt + 2 := by rw [ey_7]; have := fb_addI (x := y_6) (y := 2) (by omega) (by omega); omega
        refine lv_iload hx hb dX9_dot_85 (lv_at hl 4 rfl) ?_
        refine va_iast hx hb hK hP hD hS 2 0 rfl rfl (vp_in_iff.mpr ⟨by omega, by omega⟩) dX9_dot_87 (fun H locs hP hD hS => ?_)
        have hP : va_P (dC, dI) vwCl [(h0, .inr (9, [.int th, .ref a1, .ref a2, .ref a3, .ref a4, .ref a5, .int ne, .int wi, .int dn, .ref a6, .ref a7, .int nn, .ref a8, .int la, .ref a9, .ref a10, .long up, .long lw, .int wh, .long pu, .long pw, .ref a11])), (a6, .inl (cI, 40, .inl (upd Ds (dn : Int32).toNatClampNeg p1))), (a7, .inl (cI, 120, .inl (upd (upd (upd Dp (y_3 : Int32).toNatClampNeg p2) (y_5 : Int32).toNatClampNeg p3) (y_7 : Int32).toNatClampNeg p4)))] H := hP
        have hD : va_D A [(h0, .inr (9, [.int th, .ref a1, .ref a2, .ref a3, .ref a4, .ref a5, .int ne, .int wi, .int dn, .ref a6, .ref a7, .int nn, .ref a8, .int la, .ref a9, .ref a10, .long up, .long lw, .int wh, .long pu, .long pw, .ref a11])), (a6, .inl (cI, 40, .inl (upd Ds (dn : Int32).toNatClampNeg p1))), (a7, .inl (cI, 120, .inl (upd (upd (upd Dp (y_3 : Int32).toNatClampNeg p2) (y_5 : Int32).toNatClampNeg p3) (y_7 : Int32).toNatClampNeg p4)))] := hD
        refine lv_aload_n hx hb dX9_dot_88 rfl (lv_at hl 0 rfl) ?_
        refine lv_dup hx hb dX9_dot_89 rfl ?_
        refine va_get (D := (dC, dI)) (ci := 9) (v := .int dn) (C := RX9) (T := TX9) (N := 22) hx hb hts in_X9_dot_X9 hown hK hP 0 rfl rfl 8 (by decide) (hts (.fieldLink RX9 109 "MeetingsAboveModel" "dots" "I") (by decide +kernel)) (fun _ h9 => h9) rfl dX9_dot_90 ?_
        refine lv_iconst (v := 1) hx hb dX9_dot_93 (by decide) ?_
        refine lv_iadd hx hb dX9_dot_94 ?_
        refine lv_topi (fun y_8 ey_8 => ?_)
        have ty_8 : y_8.toInt = dn.toInt + 1 := by rw [ey_8]; have := fb_addI (x := dn) (y := 1) (by omega) (by omega); omega
        refine va_put (D := (dC, dI)) (ci := 9) (v := .int y_8) (ty := .int) (C := RX9) (T := TX9) (N := 22) hx hb hts in_X9_dot_X9 tyX9 tyX9_ok nmX9 hown hK hP hD hS 0 rfl rfl 8 (by decide) (hts (.fieldLink RX9 109 "MeetingsAboveModel" "dots" "I") (by decide +kernel)) (fun _ h9 => h9) rfl (by decide +kernel) rfl rfl (Nat.le_of_ble_eq_true rfl) dX9_dot_95 (fun H locs hP hD hS => ?_)
        have hP : va_P (dC, dI) vwCl [(h0, .inr (9, [.int th, .ref a1, .ref a2, .ref a3, .ref a4, .ref a5, .int ne, .int wi, .int y_8, .ref a6, .ref a7, .int nn, .ref a8, .int la, .ref a9, .ref a10, .long up, .long lw, .int wh, .long pu, .long pw, .ref a11])), (a6, .inl (cI, 40, .inl (upd Ds (dn : Int32).toNatClampNeg p1))), (a7, .inl (cI, 120, .inl (upd (upd (upd Dp (y_3 : Int32).toNatClampNeg p2) (y_5 : Int32).toNatClampNeg p3) (y_7 : Int32).toNatClampNeg p4)))] H := hP
        have hD : va_D A [(h0, .inr (9, [.int th, .ref a1, .ref a2, .ref a3, .ref a4, .ref a5, .int ne, .int wi, .int y_8, .ref a6, .ref a7, .int nn, .ref a8, .int la, .ref a9, .ref a10, .long up, .long lw, .int wh, .long pu, .long pw, .ref a11])), (a6, .inl (cI, 40, .inl (upd Ds (dn : Int32).toNatClampNeg p1))), (a7, .inl (cI, 120, .inl (upd (upd (upd Dp (y_3 : Int32).toNatClampNeg p2) (y_5 : Int32).toNatClampNeg p3) (y_7 : Int32).toNatClampNeg p4)))] := hD
        refine lv_aload_n hx hb dX9_dot_98 rfl (lv_at hl 0 rfl) ?_
        refine va_get (D := (dC, dI)) (ci := 9) (v := .int y_8) (C := RX9) (T := TX9) (N := 22) hx hb hts in_X9_dot_X9 hown hK hP 0 rfl rfl 8 (by decide) (hts (.fieldLink RX9 109 "MeetingsAboveModel" "dots" "I") (by decide +kernel)) (fun _ h9 => h9) rfl dX9_dot_99 ?_
        refine lv_iconst (v := 1) hx hb dX9_dot_102 (by decide) ?_
        refine lv_isub hx hb dX9_dot_103 ?_
        refine lv_topi (fun y_9 ey_9 => ?_)
        have ty_9 : y_9.toInt = y_8.toInt - 1 := by rw [ey_9]; have := fb_subI (x := y_8) (y := 1) (by omega) (by omega); omega
        have hP9 := hP.sub (ws' := [(h0, .inr (9, [.int th, .ref a1, .ref a2, .ref a3, .ref a4, .ref a5, .int ne, .int wi, .int y_8, .ref a6, .ref a7, .int nn, .ref a8, .int la, .ref a9, .ref a10, .long up, .long lw, .int wh, .long pu, .long pw, .ref a11])), (a6, .inl (cI, 40, .inl (upd Ds (dn : Int32).toNatClampNeg p1))), (a7, .inl (cI, 120, .inl (upd (upd (upd Dp (y_3 : Int32).toNatClampNeg p2) (y_5 : Int32).toNatClampNeg p3) (y_7 : Int32).toNatClampNeg p4)))]) [0, 1, 2] rfl
        have hD9 := hD.sub (ws' := [(h0, .inr (9, [.int th, .ref a1, .ref a2, .ref a3, .ref a4, .ref a5, .int ne, .int wi, .int y_8, .ref a6, .ref a7, .int nn, .ref a8, .int la, .ref a9, .ref a10, .long up, .long lw, .int wh, .long pu, .long pw, .ref a11])), (a6, .inl (cI, 40, .inl (upd Ds (dn : Int32).toNatClampNeg p1))), (a7, .inl (cI, 120, .inl (upd (upd (upd Dp (y_3 : Int32).toNatClampNeg p2) (y_5 : Int32).toNatClampNeg p3) (y_7 : Int32).toNatClampNeg p4)))]) [0, 1, 2] (by decide) rfl
        have hK9 := hK.sub (tys' := [(cI, .int)]) [0] rfl
        refine W.widen (k := 0) (n := 0) (by omega) (by omega) ?_
        exact W.iret (v := y_9) hx hb hr (fun t ht hW => ⟨⟨_, (), rfl, (by first | rw [if_neg (by omega)] | rw [if_pos (by omega), if_neg (by omega)] | (rw [if_pos (by omega), if_pos (by omega)]; exact Int32.toInt_inj.mp (by omega))), y_8, (upd Ds (dn : Int32).toNatClampNeg p1), (upd (upd (upd Dp (y_3 : Int32).toNatClampNeg p2) (y_5 : Int32).toNatClampNeg p3) (y_7 : Int32).toNatClampNeg p4), by rw [ht]; exact hP9, va_K.moved hW.alike hK9, hD9, (by first | exact Or.inr ⟨by omega, rfl, rfl, rfl⟩ | exact Or.inl ⟨by omega, by omega, by omega, rfl, st3_eq (by omega) (by omega) (by omega) (by omega)⟩)⟩, hS.F ht⟩) hS.2.2 dX9_dot_104
      · have t_31 := (fa_eq _ _).mp c_31
        refine lv_ldc hx hb hown (hts (.constant RX9 71 (-100004)) (by decide +kernel)) dX9_dot_34 ?_
        have hP9 := hP.sub (ws' := [(h0, .inr (9, [.int th, .ref a1, .ref a2, .ref a3, .ref a4, .ref a5, .int ne, .int wi, .int dn, .ref a6, .ref a7, .int nn, .ref a8, .int la, .ref a9, .ref a10, .long up, .long lw, .int wh, .long pu, .long pw, .ref a11])), (a6, .inl (cI, 40, .inl Ds)), (a7, .inl (cI, 120, .inl Dp))]) [0, 1, 2] rfl
        have hD9 := hD.sub (ws' := [(h0, .inr (9, [.int th, .ref a1, .ref a2, .ref a3, .ref a4, .ref a5, .int ne, .int wi, .int dn, .ref a6, .ref a7, .int nn, .ref a8, .int la, .ref a9, .ref a10, .long up, .long lw, .int wh, .long pu, .long pw, .ref a11])), (a6, .inl (cI, 40, .inl Ds)), (a7, .inl (cI, 120, .inl Dp))]) [0, 1, 2] (by decide) rfl
        have hK9 := hK.sub (tys' := [(cI, .int)]) [0] rfl
        refine W.widen (k := 0) (n := 0) (by omega) (by omega) ?_
        exact W.iret (v := (-100004)) hx hb hr (fun t ht hW => ⟨⟨_, (), rfl, (by first | rw [if_neg (by omega)] | rw [if_pos (by omega), if_neg (by omega)] | (rw [if_pos (by omega), if_pos (by omega)]; exact Int32.toInt_inj.mp (by omega))), dn, Ds, Dp, by rw [ht]; exact hP9, va_K.moved hW.alike hK9, hD9, (by first | exact Or.inr ⟨by omega, rfl, rfl, rfl⟩ | exact Or.inl ⟨by omega, by omega, by omega, rfl, st3_eq (by omega) (by omega) (by omega) (by omega)⟩)⟩, hS.F ht⟩) hS.2.2 dX9_dot_36
    · refine lv_if_ne (tgt := 25) hx hb dX9_dot_19 (by decide) (fun h9 => absurd h9 (by decide)) (fun _ => ?_)
      refine lv_ldc hx hb hown (hts (.constant RX9 70 (-100002)) (by decide +kernel)) dX9_dot_22 ?_
      have hP9 := hP.sub (ws' := [(h0, .inr (9, [.int th, .ref a1, .ref a2, .ref a3, .ref a4, .ref a5, .int ne, .int wi, .int dn, .ref a6, .ref a7, .int nn, .ref a8, .int la, .ref a9, .ref a10, .long up, .long lw, .int wh, .long pu, .long pw, .ref a11])), (a6, .inl (cI, 40, .inl Ds)), (a7, .inl (cI, 120, .inl Dp))]) [0, 1, 2] rfl
      have hD9 := hD.sub (ws' := [(h0, .inr (9, [.int th, .ref a1, .ref a2, .ref a3, .ref a4, .ref a5, .int ne, .int wi, .int dn, .ref a6, .ref a7, .int nn, .ref a8, .int la, .ref a9, .ref a10, .long up, .long lw, .int wh, .long pu, .long pw, .ref a11])), (a6, .inl (cI, 40, .inl Ds)), (a7, .inl (cI, 120, .inl Dp))]) [0, 1, 2] (by decide) rfl
      have hK9 := hK.sub (tys' := [(cI, .int)]) [0] rfl
      refine W.widen (k := 0) (n := 0) (by omega) (by omega) ?_
      exact W.iret (v := (-100002)) hx hb hr (fun t ht hW => ⟨⟨_, (), rfl, (by first | rw [if_neg (by omega)] | rw [if_pos (by omega), if_neg (by omega)] | (rw [if_pos (by omega), if_pos (by omega)]; exact Int32.toInt_inj.mp (by omega))), dn, Ds, Dp, by rw [ht]; exact hP9, va_K.moved hW.alike hK9, hD9, (by first | exact Or.inr ⟨by omega, rfl, rfl, rfl⟩ | exact Or.inl ⟨by omega, by omega, by omega, rfl, st3_eq (by omega) (by omega) (by omega) (by omega)⟩)⟩, hS.F ht⟩) hS.2.2 dX9_dot_24
  · simp only [Int32.toInt_toInt64, klL_0, klL_39] at q_6
    refine lv_if_eq (tgt := 22) hx hb dX9_dot_9 (by decide) (fun _ => ?_) (fun h9 => absurd h9 (by decide))
    refine lv_ldc hx hb hown (hts (.constant RX9 70 (-100002)) (by decide +kernel)) dX9_dot_22 ?_
    have hP9 := hP.sub (ws' := [(h0, .inr (9, [.int th, .ref a1, .ref a2, .ref a3, .ref a4, .ref a5, .int ne, .int wi, .int dn, .ref a6, .ref a7, .int nn, .ref a8, .int la, .ref a9, .ref a10, .long up, .long lw, .int wh, .long pu, .long pw, .ref a11])), (a6, .inl (cI, 40, .inl Ds)), (a7, .inl (cI, 120, .inl Dp))]) [0, 1, 2] rfl
    have hD9 := hD.sub (ws' := [(h0, .inr (9, [.int th, .ref a1, .ref a2, .ref a3, .ref a4, .ref a5, .int ne, .int wi, .int dn, .ref a6, .ref a7, .int nn, .ref a8, .int la, .ref a9, .ref a10, .long up, .long lw, .int wh, .long pu, .long pw, .ref a11])), (a6, .inl (cI, 40, .inl Ds)), (a7, .inl (cI, 120, .inl Dp))]) [0, 1, 2] (by decide) rfl
    have hK9 := hK.sub (tys' := [(cI, .int)]) [0] rfl
    refine W.widen (k := 0) (n := 0) (by omega) (by omega) ?_
    exact W.iret (v := (-100002)) hx hb hr (fun t ht hW => ⟨⟨_, (), rfl, (by first | rw [if_neg (by omega)] | rw [if_pos (by omega), if_neg (by omega)] | (rw [if_pos (by omega), if_pos (by omega)]; exact Int32.toInt_inj.mp (by omega))), dn, Ds, Dp, by rw [ht]; exact hP9, va_K.moved hW.alike hK9, hD9, (by first | exact Or.inr ⟨by omega, rfl, rfl, rfl⟩ | exact Or.inl ⟨by omega, by omega, by omega, rfl, st3_eq (by omega) (by omega) (by omega) (by omega)⟩)⟩, hS.F ht⟩) hS.2.2 dX9_dot_24
