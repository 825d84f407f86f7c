def wk_X9_noticeE : List Cond := .code yX9_notice cX9_notice 7 (some .int) :: (([.fieldLink RX9 115 "MeetingsAboveModel" "notices" "I", .fieldLink RX9 39 "MeetingsAboveModel" "noted" "[I", .fieldLink RX9 121 "MeetingsAboveModel" "upper" "J", .fieldLink RX9 125 "MeetingsAboveModel" "lower" "J", .fieldLink RX9 128 "MeetingsAboveModel" "when" "I", .constant RX9 71 (-100004), .constant RX9 85 (-100003), .constant RX9 84 (-100001)] : List Cond) ++ (wsX90 ++ ((wsV RX9 80 RX9 yX9_isThing wk_X9_isThing) ++ ((wsV RX9 106 RX9 yX9_isMeeting wk_X9_isMeetingE) ++ ([])))))
theorem in_X9_noticeE_X9 : ∀ w ∈ wsX90, w ∈ wk_X9_noticeE := fun _ h => List.mem_cons_of_mem _ (List.mem_append_right _ (List.mem_append_left _ h))
theorem gw_X9_noticeE : AG wk_X9_noticeE := AG_ca (AG_l (by decide +kernel)) (AG_app ag_X9 (AG_app (AG_V gw_X9_isThing) (AG_app (AG_V gw_X9_isMeetingE) (AG_nil))))
theorem g_X9_noticeE__X9_isThing_80 : GoodIn wk_X9_noticeE (wsV RX9 80 RX9 yX9_isThing wk_X9_isThing) := goodIn_m (fun _ h => List.mem_cons_of_mem _ (List.mem_append_right _ (List.mem_append_right _ (List.mem_append_left _ h)))) (AG_V gw_X9_isThing)
theorem g_X9_noticeE__X9_isMeetingE_106 : GoodIn wk_X9_noticeE (wsV RX9 106 RX9 yX9_isMeeting wk_X9_isMeetingE) := goodIn_m (fun _ h => List.mem_cons_of_mem _ (List.mem_append_right _ (List.mem_append_right _ (List.mem_append_right _ (List.mem_append_left _ h))))) (AG_V gw_X9_isMeetingE)
set_option maxHeartbeats 4000000 in
set_option maxRecDepth 100000 in
theorem c_X9_noticeE (l : Launch) (dC : Nat → ClassId) (dI : Nat → Nat → Nat) (Db : Nat → Int32) (h0 : Nat) (a1 : Nat) (a2 : Nat) (a3 : Nat) (a4 : Nat) (a5 : Nat) (a6 : Nat) (a7 : Nat) (a8 : Nat) (a9 : Nat) (a10 : Nat) (a11 : Nat) (th : Int32) (ne : Int32) (wi : Int32) (dn : Int32) (nn : Int32) (la : Int32) (wh : Int32) (up : Int64) (lw : Int64) (pu : Int64) (pw : Int64) (cI : ClassId) (cZ : ClassId) (Fi : Nat → Int32) (Ma : Nat → Int32) (Go : Nat → Int32) (Sp : Nat → Int32) (No : Nat → Int32) (p1 : Int32) (p2 : Int32) (sz : Nat) (hM : mOK th Fi Ma) (hTk : ∀ k : Nat, (k : Int) < th.toInt → tvOK (mTV Fi Ma Db Go Sp k)) (hn0 : 0 ≤ nn.toInt) (hn1 : nn.toInt ≤ 40) (hne0 : 0 ≤ ne.toInt) (hne1 : ne.toInt ≤ 3000) : Met l yX9_notice wk_X9_noticeE ({ frames := 4, cells := 0, slots := 0, locals := 104 }) (va_Pc [.ref h0, .int p1, .int p2] (fun U => U.heap.size = sz ∧ va_P (dC, dI) vwCl [(h0, .inr (9, [.int th, .ref a1, .ref a2, .ref a3, .ref a4, .ref a5, .int ne, .int wi, .int dn, .ref a6, .ref a7, .int nn, .ref a8, .int la, .ref a9, .ref a10, .long up, .long lw, .int wh, .long pu, .long pw, .ref a11])), (a1, .inl (cI, 16, .inl Fi)), (a2, .inl (cI, 16, .inl Ma)), (a4, .inl (cZ, 16, .inl Go)), (a5, .inl (cI, 576, .inl Sp)), (a8, .inl (cI, 320, .inl No))] U.heap ∧ va_K (dC, dI) vwCl [(cI, .int), (cZ, .boolean)] U ∧ va_D (fun _ => True) [(h0, .inr (9, [.int th, .ref a1, .ref a2, .ref a3, .ref a4, .ref a5, .int ne, .int wi, .int dn, .ref a6, .ref a7, .int nn, .ref a8, .int la, .ref a9, .ref a10, .long up, .long lw, .int wh, .long pu, .long pw, .ref a11])), (a1, .inl (cI, 16, .inl Fi)), (a2, .inl (cI, 16, .inl Ma)), (a4, .inl (cZ, 16, .inl Go)), (a5, .inl (cI, 576, .inl Sp)), (a8, .inl (cI, 320, .inl No))])) (va_Qi (fun (r : Int32) (_ : Unit) => ntP ((0 ≤ p1.toInt ∧ p1.toInt < th.toInt) ∧ (0 ≤ p2.toInt ∧ p2.toInt < th.toInt)) (ntC th (mTV Fi Ma Db Go Sp) ne.toInt p1 p2) nn r) (fun (_ : Unit) (t : State) => ∃ (up9 : Int64) (lw9 : Int64) (wh9 : Int32) (pu9 : Int64) (pw9 : Int64) (nn9 : Int32) (No9 : Nat → Int32), va_P (dC, dI) vwCl [(h0, .inr (9, [.int th, .ref a1, .ref a2, .ref a3, .ref a4, .ref a5, .int ne, .int wi, .int dn, .ref a6, .ref a7, .int nn9, .ref a8, .int la, .ref a9, .ref a10, .long up9, .long lw9, .int wh9, .long pu9, .long pw9, .ref a11])), (a1, .inl (cI, 16, .inl Fi)), (a2, .inl (cI, 16, .inl Ma)), (a4, .inl (cZ, 16, .inl Go)), (a5, .inl (cI, 576, .inl Sp)), (a8, .inl (cI, 320, .inl No9))] t.heap ∧ va_K (dC, dI) vwCl [(cI, .int), (cZ, .boolean)] t ∧ va_D (va_A [(h0, .inr (9, [.int th, .ref a1, .ref a2, .ref a3, .ref a4, .ref a5, .int ne, .int wi, .int dn, .ref a6, .ref a7, .int nn, .ref a8, .int la, .ref a9, .ref a10, .long up, .long lw, .int wh, .long pu, .long pw, .ref a11])), (a1, .inl (cI, 16, .inl Fi)), (a2, .inl (cI, 16, .inl Ma)), (a4, .inl (cZ, 16, .inl Go)), (a5, .inl (cI, 576, .inl Sp)), (a8, .inl (cI, 320, .inl No))] sz) [(h0, .inr (9, [.int th, .ref a1, .ref a2, .ref a3, .ref a4, .ref a5, .int ne, .int wi, .int dn, .ref a6, .ref a7, .int nn9, .ref a8, .int la, .ref a9, .ref a10, .long up9, .long lw9, .int wh9, .long pu9, .long pw9, .ref a11])), (a1, .inl (cI, 16, .inl Fi)), (a2, .inl (cI, 16, .inl Ma)), (a4, .inl (cZ, 16, .inl Go)), (a5, .inl (cI, 576, .inl Sp)), (a8, .inl (cI, 320, .inl No9))] ∧ 0 ≤ nn9.toInt ∧ nn9.toInt ≤ 40 ∧ ntM (ntC th (mTV Fi Ma Db Go Sp) ne.toInt p1 p2) (mTV Fi Ma Db Go Sp p1.toNatClampNeg) (mTV Fi Ma Db Go Sp p2.toNatClampNeg) No No9 p1.toInt p2.toInt nn nn9) (va_A [(h0, .inr (9, [.int th, .ref a1, .ref a2, .ref a3, .ref a4, .ref a5, .int ne, .int wi, .int dn, .ref a6, .ref a7, .int nn, .ref a8, .int la, .ref a9, .ref a10, .long up, .long lw, .int wh, .long pu, .long pw, .ref a11])), (a1, .inl (cI, 16, .inl Fi)), (a2, .inl (cI, 16, .inl Ma)), (a4, .inl (cZ, 16, .inl Go)), (a5, .inl (cI, 576, .inl Sp)), (a8, .inl (cI, 320, .inl No))] sz)) 0 0 (va_A [(h0, .inr (9, [.int th, .ref a1, .ref a2, .ref a3, .ref a4, .ref a5, .int ne, .int wi, .int dn, .ref a6, .ref a7, .int nn, .ref a8, .int la, .ref a9, .ref a10, .long up, .long lw, .int wh, .long pu, .long pw, .ref a11])), (a1, .inl (cI, 16, .inl Fi)), (a2, .inl (cI, 16, .inl Ma)), (a4, .inl (cZ, 16, .inl Go)), (a5, .inl (cI, 576, .inl Sp)), (a8, .inl (cI, 320, .inl No))] sz) := by
  refine Met.ofW (cc := cX9_notice) (maxL := 7) (ret := (some .int)) (by decide) rfl ?_
  intro p e s m args below meth c s₁ B hml hv
  obtain ⟨rfl, hsz, hP, hK, hD0⟩ := hv
  have hx := B.exec
  have hb := B.bytes
  have hr := B.returns
  have hts := atoms_spec (ws := wk_X9_noticeE) B.pre
  have hown : s.vm.findClass RX9 = some m.cls := findClass_of_methodNamed B.named
  have hlocks := B.notSynchronized
  subst hsz
  have hD := hD0.self (sz := s.heap.size)
  generalize hAe : va_A [(h0, .inr (9, [.int th, .ref a1, .ref a2, .ref a3, .ref a4, .ref a5, .int ne, .int wi, .int dn, .ref a6, .ref a7, .int nn, .ref a8, .int la, .ref a9, .ref a10, .long up, .long lw, .int wh, .long pu, .long pw, .ref a11])), (a1, .inl (cI, 16, .inl Fi)), (a2, .inl (cI, 16, .inl Ma)), (a4, .inl (cZ, 16, .inl Go)), (a5, .inl (cI, 576, .inl Sp)), (a8, .inl (cI, 320, .inl No))] s.heap.size = A at hD ⊢
  have hA : ∀ q : Nat, s.heap.size ≤ q → A q := fun q h => by rw [← hAe]; exact Or.inr h
  have hS : va_S A s.heap s.heap [] := va_S.rf
  have hP : va_P (dC, dI) vwCl [(h0, .inr (9, [.int th, .ref a1, .ref a2, .ref a3, .ref a4, .ref a5, .int ne, .int wi, .int dn, .ref a6, .ref a7, .int nn, .ref a8, .int la, .ref a9, .ref a10, .long up, .long lw, .int wh, .long pu, .long pw, .ref a11])), (a1, .inl (cI, 16, .inl Fi)), (a2, .inl (cI, 16, .inl Ma)), (a4, .inl (cZ, 16, .inl Go)), (a5, .inl (cI, 576, .inl Sp)), (a8, .inl (cI, 320, .inl No))] s.heap := hP
  have hl := lv_entry ([.ref h0, .int p1, .int p2]) (n := 7) (Nat.le_of_ble_eq_true rfl)
  rw [lg_entry_eq]
  generalize (lg_sl ([.ref h0, .int p1, .int p2]) ++ List.replicate (7 - (lg_sl ([.ref h0, .int p1, .int p2])).length) Slot.unset).toArray = ls at hl ⊢
  have hl : lv_has ls 7 [(0, .ref h0), (1, .int p1), (2, .int p2)] := hl
  have kl_m100004 : (-100004 : Int32).toInt = -100004 := by decide
  have kl_m100003 : (-100003 : Int32).toInt = -100003 := by decide
  have kl_m100001 : (-100001 : Int32).toInt = -100001 := by decide
  have kl_m1 : (-1 : Int32).toInt = -1 := by decide
  have kl_0 : (0 : Int32).toInt = 0 := by decide
  have kl_1 : (1 : Int32).toInt = 1 := by decide
  have kl_2 : (2 : Int32).toInt = 2 := by decide
  have kl_3 : (3 : Int32).toInt = 3 := by decide
  have kl_4 : (4 : Int32).toInt = 4 := by decide
  have kl_5 : (5 : Int32).toInt = 5 := by decide
  have kl_6 : (6 : Int32).toInt = 6 := by decide
  have kl_7 : (7 : Int32).toInt = 7 := by decide
  have kl_8 : (8 : Int32).toInt = 8 := by decide
  have kl_40 : (40 : Int32).toInt = 40 := by decide
  have klL_0 : (0 : Int64).toInt = 0 := by decide
  obtain ⟨hM0, hM1, hM2⟩ := id hM
  have n0_ : ((nn.toNatClampNeg : Nat) : Int) = nn.toInt := tc_I (by omega)
  refine lv_aload_n hx hb dX9_notice_0 rfl (lv_at hl 0 rfl) ?_
  refine lv_iload_n hx hb dX9_notice_1 rfl (lv_at hl 1 rfl) ?_
  have hPc := hP.sub (ws' := [(h0, .inr (9, [.int th, .ref a1, .ref a2, .ref a3, .ref a4, .ref a5, .int ne, .int wi, .int dn, .ref a6, .ref a7, .int nn, .ref a8, .int la, .ref a9, .ref a10, .long up, .long lw, .int wh, .long pu, .long pw, .ref a11]))]) [0] rfl
  have hKc := hK.sub (tys' := []) [] rfl
  refine vp_callSi (W.runV (As := [.int p1]) (rest := []) ⟨hx, hb, hml, hown, hts⟩ (c_X9_isThing l dC dI h0 a1 a2 a3 a4 a5 a6 a7 a8 a9 a10 a11 th ne wi dn nn la wh up lw pu pw p1 (by first | omega | assumption) (by first | omega | assumption)) (cwV 1 hts g_X9_noticeE__X9_isThing_80 rfl rfl rfl (by decide +kernel) ⟨Nat.le_of_ble_eq_true rfl, Nat.le_of_ble_eq_true rfl⟩) ⟨fun a U g mk q => by obtain ⟨q0, qP, qK⟩ := q; exact ⟨q0, qP, va_K.moved (u := U) (U := U.calling g mk a) (Vm.Alike.refl U.vm) qK⟩, va_recv hKc hPc (ci := 9) (q0 := 0) rfl rfl, fun U hU hW => ⟨rfl, by rw [hU]; exact hPc, va_K.moved hW.alike hKc⟩⟩ rfl rfl hl.1 rfl (lv_room (Nat.le_of_ble_eq_true rfl)) dX9_notice_2 ⟨Nat.le_of_ble_eq_true rfl, Nat.le_of_ble_eq_true rfl⟩) (fun r_1 hr_1 => ?_)
  try dsimp only at hr_1
  rcases bo_split hr_1 with ⟨rfl, q_2⟩ | ⟨rfl, q_2⟩
  · refine lv_if_eq (tgt := 16) hx hb dX9_notice_5 (by decide) (fun h9 => absurd h9 (by decide)) (fun _ => ?_)
    refine lv_aload_n hx hb dX9_notice_8 rfl (lv_at hl 0 rfl) ?_
    refine lv_iload_n hx hb dX9_notice_9 rfl (lv_at hl 2 rfl) ?_
    have hPc := hP.sub (ws' := [(h0, .inr (9, [.int th, .ref a1, .ref a2, .ref a3, .ref a4, .ref a5, .int ne, .int wi, .int dn, .ref a6, .ref a7, .int nn, .ref a8, .int la, .ref a9, .ref a10, .long up, .long lw, .int wh, .long pu, .long pw, .ref a11]))]) [0] rfl
    have hKc := hK.sub (tys' := []) [] rfl
    refine vp_callSi (W.runV (As := [.int p2]) (rest := []) ⟨hx, hb, hml, hown, hts⟩ (c_X9_isThing l dC dI h0 a1 a2 a3 a4 a5 a6 a7 a8 a9 a10 a11 th ne wi dn nn la wh up lw pu pw p2 (by first | omega | assumption) (by first | omega | assumption)) (cwV 1 hts g_X9_noticeE__X9_isThing_80 rfl rfl rfl (by decide +kernel) ⟨Nat.le_of_ble_eq_true rfl, Nat.le_of_ble_eq_true rfl⟩) ⟨fun a U g mk q => by obtain ⟨q0, qP, qK⟩ := q; exact ⟨q0, qP, va_K.moved (u := U) (U := U.calling g mk a) (Vm.Alike.refl U.vm) qK⟩, va_recv hKc hPc (ci := 9) (q0 := 0) rfl rfl, fun U hU hW => ⟨rfl, by rw [hU]; exact hPc, va_K.moved hW.alike hKc⟩⟩ rfl rfl hl.1 rfl (lv_room (Nat.le_of_ble_eq_true rfl)) dX9_notice_10 ⟨Nat.le_of_ble_eq_true rfl, Nat.le_of_ble_eq_true rfl⟩) (fun r_2 hr_2 => ?_)
    try dsimp only at hr_2
    rcases bo_split hr_2 with ⟨rfl, q_10⟩ | ⟨rfl, q_10⟩
    · refine lv_if_ne (tgt := 19) hx hb dX9_notice_13 (by decide) (fun _ => ?_) (fun h9 => absurd h9 (by decide))
      refine lv_aload_n hx hb dX9_notice_19 rfl (lv_at hl 0 rfl) ?_
      refine lv_iload_n hx hb dX9_notice_20 rfl (lv_at hl 1 rfl) ?_
      refine lv_iload_n hx hb dX9_notice_21 rfl (lv_at hl 2 rfl) ?_
      have hPc := hP.sub (ws' := [(h0, .inr (9, [.int th, .ref a1, .ref a2, .ref a3, .ref a4, .ref a5, .int ne, .int wi, .int dn, .ref a6, .ref a7, .int nn, .ref a8, .int la, .ref a9, .ref a10, .long up, .long lw, .int wh, .long pu, .long pw, .ref a11])), (a1, .inl (cI, 16, .inl Fi)), (a2, .inl (cI, 16, .inl Ma)), (a4, .inl (cZ, 16, .inl Go)), (a5, .inl (cI, 576, .inl Sp))]) [0, 1, 2, 3, 4] rfl
      have hKc := hK.sub (tys' := [(cI, .int), (cZ, .boolean)]) [0, 1] rfl
      have hDc := hD.sub (ws' := [(h0, .inr (9, [.int th, .ref a1, .ref a2, .ref a3, .ref a4, .ref a5, .int ne, .int wi, .int dn, .ref a6, .ref a7, .int nn, .ref a8, .int la, .ref a9, .ref a10, .long up, .long lw, .int wh, .long pu, .long pw, .ref a11])), (a1, .inl (cI, 16, .inl Fi)), (a2, .inl (cI, 16, .inl Ma)), (a4, .inl (cZ, 16, .inl Go)), (a5, .inl (cI, 576, .inl Sp))]) [0, 1, 2, 3, 4] (by decide) rfl
      have hFc := va_free (wc := [(h0, .inr (9, [.int th, .ref a1, .ref a2, .ref a3, .ref a4, .ref a5, .int ne, .int wi, .int dn, .ref a6, .ref a7, .int nn, .ref a8, .int la, .ref a9, .ref a10, .long up, .long lw, .int wh, .long pu, .long pw, .ref a11])), (a1, .inl (cI, 16, .inl Fi)), (a2, .inl (cI, 16, .inl Ma)), (a4, .inl (cZ, 16, .inl Go)), (a5, .inl (cI, 576, .inl Sp))]) hD hS hA [0, 1, 2, 3, 4] rfl
      refine va_calli (va_runV (As := [.int p1, .int p2]) (rest := []) ⟨hx, hb, hml, hown, hts⟩ (c_X9_isMeetingE l dC dI Db h0 a1 a2 a3 a4 a5 a6 a7 a8 a9 a10 a11 th ne wi dn nn la wh up lw pu pw cI cZ Fi Ma Go Sp p1 p2 s.heap.size (by first | assumption | omega) (by first | assumption | omega) (by first | omega | assumption) (by first | omega | assumption) (by first | omega | assumption) (by first | omega | assumption) (by first | omega | assumption) (by first | omega | assumption)) (cwV 2 hts g_X9_noticeE__X9_isMeetingE_106 rfl rfl rfl (by decide +kernel) ⟨Nat.le_of_ble_eq_true rfl, Nat.le_of_ble_eq_true rfl⟩) ⟨fun a U g mk q => by obtain ⟨q0, q1, qP, qK, qD⟩ := q; exact ⟨q0, q1, qP, va_K.moved (u := U) (U := U.calling g mk a) (Vm.Alike.refl U.vm) qK, qD⟩, va_recv hKc hPc (ci := 9) (q0 := 0) rfl rfl, fun U hU hW => ⟨rfl, by rw [hU], by rw [hU]; exact hPc, va_K.moved hW.alike hKc, hDc.weaken (fun _ _ _ _ => trivial)⟩⟩ rfl rfl hl.1 rfl (lv_room (Nat.le_of_ble_eq_true rfl)) dX9_notice_22 ⟨Nat.le_of_ble_eq_true rfl, Nat.le_of_ble_eq_true rfl⟩) hS (fun q _ h => hFc q h) hFc (fun r_4 u_3 t H1 locs ht hvm hw_4 hB hz1 hk1 hS => ?_)
      obtain ⟨up9_5, lw9_6, wh9_7, pu9_8, pw9_9, hP1, hK1, hD1, hms_10, hbd_11⟩ := hB
      rw [ht] at hP1
      have hK1 := va_K.moved hvm.symm hK1
      obtain ⟨hP, hD⟩ := va_join (wr := [(a8, .inl (cI, 320, .inl No))]) (w1 := [(h0, .inr (9, [.int th, .ref a1, .ref a2, .ref a3, .ref a4, .ref a5, .int ne, .int wi, .int dn, .ref a6, .ref a7, .int nn, .ref a8, .int la, .ref a9, .ref a10, .long up9_5, .long lw9_6, .int wh9_7, .long pu9_8, .long pw9_9, .ref a11])), (a1, .inl (cI, 16, .inl Fi)), (a2, .inl (cI, 16, .inl Ma)), (a4, .inl (cZ, 16, .inl Go)), (a5, .inl (cI, 576, .inl Sp))]) hP hD [0, 1, 2, 3, 4] [5] rfl rfl (by decide) (by decide) hk1 hFc hP1 hD1
      have hK := (hK.sub (tys' := [(cI, .int), (cZ, .boolean)]) [0, 1] rfl).app hK1
      generalize H1 = H at hP hS ⊢
      have hP : va_P (dC, dI) vwCl [(a8, .inl (cI, 320, .inl No)), (h0, .inr (9, [.int th, .ref a1, .ref a2, .ref a3, .ref a4, .ref a5, .int ne, .int wi, .int dn, .ref a6, .ref a7, .int nn, .ref a8, .int la, .ref a9, .ref a10, .long up9_5, .long lw9_6, .int wh9_7, .long pu9_8, .long pw9_9, .ref a11])), (a1, .inl (cI, 16, .inl Fi)), (a2, .inl (cI, 16, .inl Ma)), (a4, .inl (cZ, 16, .inl Go)), (a5, .inl (cI, 576, .inl Sp))] H := hP
      have hD : va_D A [(a8, .inl (cI, 320, .inl No)), (h0, .inr (9, [.int th, .ref a1, .ref a2, .ref a3, .ref a4, .ref a5, .int ne, .int wi, .int dn, .ref a6, .ref a7, .int nn, .ref a8, .int la, .ref a9, .ref a10, .long up9_5, .long lw9_6, .int wh9_7, .long pu9_8, .long pw9_9, .ref a11])), (a1, .inl (cI, 16, .inl Fi)), (a2, .inl (cI, 16, .inl Ma)), (a4, .inl (cZ, 16, .inl Go)), (a5, .inl (cI, 576, .inl Sp))] := hD
      have hK : va_K (dC, dI) vwCl [(cI, .int), (cZ, .boolean), (cI, .int), (cZ, .boolean)] s := hK
      refine W.widen (k := 0) (n := 0) (by omega) (by omega) ?_
      try dsimp only at hw_4
      refine lv_if_ne (tgt := 31) hx hb dX9_notice_25 (by decide) (fun c_25 => ?_) (fun c_25 => ?_)
      · have t_25 := mt (fa_eq _ _).mpr c_25
        have hbd9 := hbd_11 (tv_1 hw_4 c_25)
        refine lv_aload_n hx hb dX9_notice_31 rfl (lv_at hl 0 rfl) ?_
        refine va_get (D := (dC, dI)) (ci := 9) (v := .int nn) (C := RX9) (T := TX9) (N := 22) hx hb hts in_X9_noticeE_X9 hown hK hP 1 rfl rfl 11 (by decide) (hts (.fieldLink RX9 115 "MeetingsAboveModel" "notices" "I") (by decide +kernel)) (fun _ h9 => h9) rfl dX9_notice_32 ?_
        refine lv_bipush (v := 40) hx hb dX9_notice_35 (by decide) ?_
        refine lv_icmp_ne (tgt := 43) hx hb dX9_notice_37 (by decide) (fun c_37 => ?_) (fun c_37 => ?_)
        · have t_37 := mt (fa_eq _ _).mpr c_37
          refine lv_iload_n hx hb dX9_notice_43 rfl (lv_at hl 1 rfl) ?_
          refine lv_iload_n hx hb dX9_notice_44 rfl (lv_at hl 2 rfl) ?_
          refine lv_icmp_ge (tgt := 52) hx hb dX9_notice_45 (by decide) (fun c_45 => ?_) (fun c_45 => ?_)
          · have t_45 := (fa_le _ _).mp c_45
            refine lv_iload_n hx hb dX9_notice_52 rfl (lv_at hl 2 rfl) ?_
            refine lv_istore_n (lv' := [(3, .int p2), (0, .ref h0), (1, .int p1), (2, .int p2)]) hx hb dX9_notice_53 rfl hl (by decide) rfl (fun ls hl => ?_)
            refine lv_iload_n hx hb dX9_notice_54 rfl (lv_at hl 2 rfl) ?_
            refine lv_iload_n hx hb dX9_notice_55 rfl (lv_at hl 3 rfl) ?_
            refine lv_icmp_ge (tgt := 63) hx hb dX9_notice_56 (by decide) (fun c_56 => ?_) (fun c_56 => ?_)
            · have t_56 := (fa_le _ _).mp c_56
              refine lv_iload_n hx hb dX9_notice_63 rfl (lv_at hl 2 rfl) ?_
              refine lv_istore (lv' := [(4, .int p1), (3, .int p2), (0, .ref h0), (1, .int p1), (2, .int p2)]) hx hb dX9_notice_64 hl (by decide) rfl (fun ls hl => ?_)
              refine lv_iconst (v := (-1)) hx hb dX9_notice_66 (by decide) ?_
              refine lv_istore (lv' := [(5, .int (-1)), (4, .int p1), (3, .int p2), (0, .ref h0), (1, .int p1), (2, .int p2)]) hx hb dX9_notice_67 hl (by decide) rfl (fun ls hl => ?_)
              refine lv_iconst (v := 0) hx hb dX9_notice_69 (by decide) ?_
              refine lv_istore (lv' := [(6, .int 0), (5, .int (-1)), (4, .int p1), (3, .int p2), (0, .ref h0), (1, .int p1), (2, .int p2)]) hx hb dX9_notice_70 hl (by decide) rfl (fun ls hl => ?_)
              refine (show ∀ (k : Nat) (b5 : Int32) (k6 : Int32) (hk0 : 0 ≤ k6.toInt) (hk1 : k6.toInt ≤ nn.toInt) (hls : lsP (mNV No) k6.toInt.toNat (p2).toInt (p1).toInt b5.toInt) (hk_72 : (nn.toInt - k6.toInt).toNat < k) (H : Heap) (locs : List Loc) (hP : va_P (dC, dI) vwCl [(a8, .inl (cI, 320, .inl No)), (h0, .inr (9, [.int th, .ref a1, .ref a2, .ref a3, .ref a4, .ref a5, .int ne, .int wi, .int dn, .ref a6, .ref a7, .int nn, .ref a8, .int la, .ref a9, .ref a10, .long up9_5, .long lw9_6, .int wh9_7, .long pu9_8, .long pw9_9, .ref a11])), (a1, .inl (cI, 16, .inl Fi)), (a2, .inl (cI, 16, .inl Ma)), (a4, .inl (cZ, 16, .inl Go)), (a5, .inl (cI, 576, .inl Sp))] H) (hD : va_D A [(a8, .inl (cI, 320, .inl No)), (h0, .inr (9, [.int th, .ref a1, .ref a2, .ref a3, .ref a4, .ref a5, .int ne, .int wi, .int dn, .ref a6, .ref a7, .int nn, .ref a8, .int la, .ref a9, .ref a10, .long up9_5, .long lw9_6, .int wh9_7, .long pu9_8, .long pw9_9, .ref a11])), (a1, .inl (cI, 16, .inl Fi)), (a2, .inl (cI, 16, .inl Ma)), (a4, .inl (cZ, 16, .inl Go)), (a5, .inl (cI, 576, .inl Sp))]) (hS : va_S A s.heap H locs) (ls : Array Slot) (hl : lv_has ls 7 [(0, .ref h0), (1, .int p1), (2, .int p2), (3, .int p2), (4, .int p1), (5, .int b5), (6, .int k6)]), W p l e _ s m _ below meth c H locs 0 0 _ (F0 m 72 ls []) from ?_) _ (-1) 0 (by omega) (by omega) (by rw [show (0 : Int32).toInt.toNat = 0 by omega]; exact ls_0 _ _ _) (Nat.lt_succ_self _) H _ hP hD hS ls (lv_sub hl [4, 5, 6, 3, 2, 1, 0] rfl)
              intro k
              induction k with
              | zero => intro b5 k6 hk0 hk1 hls hk_72; exact absurd hk_72 (Nat.not_lt_zero _)
              | succ k ih_72 =>
                intro b5 k6 hk0 hk1 hls hk_72 H locs hP hD hS ls hl
                refine lv_iload hx hb dX9_notice_72 (lv_at hl 6 rfl) ?_
                refine lv_aload_n hx hb dX9_notice_74 rfl (lv_at hl 0 rfl) ?_
                refine va_get (D := (dC, dI)) (ci := 9) (v := .int nn) (C := RX9) (T := TX9) (N := 22) hx hb hts in_X9_noticeE_X9 hown hK hP 1 rfl rfl 11 (by decide) (hts (.fieldLink RX9 115 "MeetingsAboveModel" "notices" "I") (by decide +kernel)) (fun _ h9 => h9) rfl dX9_notice_75 ?_
                refine lv_icmp_ge (tgt := 127) hx hb dX9_notice_78 (by decide) (fun c_78 => ?_) (fun c_78 => ?_)
                · have t_78 := (fa_le _ _).mp c_78
                  have hls9 : lsP (mNV No) nn.toNatClampNeg (p2).toInt (p1).toInt b5.toInt := by rw [show nn.toNatClampNeg = k6.toInt.toNat by omega]; exact hls
                  have rg9 := ls_rg hls9
                  refine lv_aload_n hx hb dX9_notice_127 rfl (lv_at hl 0 rfl) ?_
                  refine va_get (D := (dC, dI)) (ci := 9) (v := .int nn) (C := RX9) (T := TX9) (N := 22) hx hb hts in_X9_noticeE_X9 hown hK hP 1 rfl rfl 11 (by decide) (hts (.fieldLink RX9 115 "MeetingsAboveModel" "notices" "I") (by decide +kernel)) (fun _ h9 => h9) rfl dX9_notice_128 ?_
                  refine lv_istore (lv' := [(6, .int nn), (0, .ref h0), (1, .int p1), (2, .int p2), (3, .int p2), (4, .int p1), (5, .int b5)]) hx hb dX9_notice_131 hl (by decide) rfl (fun ls hl => ?_)
                  refine lv_aload_n hx hb dX9_notice_133 rfl (lv_at hl 1 rfl) ?_
                  refine va_get (D := (dC, dI)) (ci := 9) (v := .ref a8) (C := RX9) (T := TX9) (N := 22) hx hb hts in_X9_noticeE_X9 hown hK hP 1 rfl rfl 12 (by decide) (hts (.fieldLink RX9 39 "MeetingsAboveModel" "noted" "[I") (by decide +kernel)) (fun _ h9 => h9) rfl dX9_notice_134 ?_
                  refine lv_bipush (v := 8) hx hb dX9_notice_137 (by decide) ?_
                  refine lv_iload hx hb dX9_notice_139 (lv_at hl 0 rfl) ?_
                  refine lv_imul hx hb dX9_notice_141 ?_
                  refine lv_topi (fun y_12 ey_12 => ?_)
                  have ty_12 : y_12.toInt = 8 * nn.toInt := by rw [ey_12]; exact fm_lI kl_8 (by omega) (by omega)
                  refine lv_iload_n hx hb dX9_notice_142 rfl (lv_at hl 4 rfl) ?_
                  refine va_iast hx hb hK hP hD hS 0 0 rfl rfl (vp_in_iff.mpr ⟨by omega, by omega⟩) dX9_notice_143 (fun H locs hP hD hS => ?_)
                  have hP : va_P (dC, dI) vwCl [(a8, .inl (cI, 320, .inl (upd No (y_12 : Int32).toNatClampNeg p2))), (h0, .inr (9, [.int th, .ref a1, .ref a2, .ref a3, .ref a4, .ref a5, .int ne, .int wi, .int dn, .ref a6, .ref a7, .int nn, .ref a8, .int la, .ref a9, .ref a10, .long up9_5, .long lw9_6, .int wh9_7, .long pu9_8, .long pw9_9, .ref a11])), (a1, .inl (cI, 16, .inl Fi)), (a2, .inl (cI, 16, .inl Ma)), (a4, .inl (cZ, 16, .inl Go)), (a5, .inl (cI, 576, .inl Sp))] H := hP
                  have hD : va_D A [(a8, .inl (cI, 320, .inl (upd No (y_12 : Int32).toNatClampNeg p2))), (h0, .inr (9, [.int th, .ref a1, .ref a2, .ref a3, .ref a4, .ref a5, .int ne, .int wi, .int dn, .ref a6, .ref a7, .int nn, .ref a8, .int la, .ref a9, .ref a10, .long up9_5, .long lw9_6, .int wh9_7, .long pu9_8, .long pw9_9, .ref a11])), (a1, .inl (cI, 16, .inl Fi)), (a2, .inl (cI, 16, .inl Ma)), (a4, .inl (cZ, 16, .inl Go)), (a5, .inl (cI, 576, .inl Sp))] := hD
                  have ix_0 : (y_12).toNatClampNeg = 8 * nn.toNatClampNeg := (by have n9 : (((y_12).toNatClampNeg : Nat) : Int) = (y_12).toInt := tc_I (by omega); omega)
                  refine lv_aload_n hx hb dX9_notice_144 rfl (lv_at hl 1 rfl) ?_
                  refine va_get (D := (dC, dI)) (ci := 9) (v := .ref a8) (C := RX9) (T := TX9) (N := 22) hx hb hts in_X9_noticeE_X9 hown hK hP 1 rfl rfl 12 (by decide) (hts (.fieldLink RX9 39 "MeetingsAboveModel" "noted" "[I") (by decide +kernel)) (fun _ h9 => h9) rfl dX9_notice_145 ?_
                  refine lv_bipush (v := 8) hx hb dX9_notice_148 (by decide) ?_
                  refine lv_iload hx hb dX9_notice_150 (lv_at hl 0 rfl) ?_
                  refine lv_imul hx hb dX9_notice_152 ?_
                  refine lv_topi (fun y_13 ey_13 => ?_)
                  have ty_13 : y_13.toInt = 8 * nn.toInt := by rw [ey_13]; exact fm_lI kl_8 (by omega) (by omega)
                  refine lv_iconst (v := 1) hx hb dX9_notice_153 (by decide) ?_
                  refine lv_iadd hx hb dX9_notice_154 ?_
                  refine lv_topi (fun y_14 ey_14 => ?_)
                  have ty_14 : y_14.toInt = y_13.toInt + 1 := by rw [ey_14]; have := fb_addI (x := y_13) (y := 1) (by omega) (by omega); omega
                  refine lv_iload hx hb dX9_notice_155 (lv_at hl 5 rfl) ?_
                  refine va_iast hx hb hK hP hD hS 0 0 rfl rfl (vp_in_iff.mpr ⟨by omega, by omega⟩) dX9_notice_157 (fun H locs hP hD hS => ?_)
                  have hP : va_P (dC, dI) vwCl [(a8, .inl (cI, 320, .inl (upd (upd No (y_12 : Int32).toNatClampNeg p2) (y_14 : Int32).toNatClampNeg p1))), (h0, .inr (9, [.int th, .ref a1, .ref a2, .ref a3, .ref a4, .ref a5, .int ne, .int wi, .int dn, .ref a6, .ref a7, .int nn, .ref a8, .int la, .ref a9, .ref a10, .long up9_5, .long lw9_6, .int wh9_7, .long pu9_8, .long pw9_9, .ref a11])), (a1, .inl (cI, 16, .inl Fi)), (a2, .inl (cI, 16, .inl Ma)), (a4, .inl (cZ, 16, .inl Go)), (a5, .inl (cI, 576, .inl Sp))] H := hP
                  have hD : va_D A [(a8, .inl (cI, 320, .inl (upd (upd No (y_12 : Int32).toNatClampNeg p2) (y_14 : Int32).toNatClampNeg p1))), (h0, .inr (9, [.int th, .ref a1, .ref a2, .ref a3, .ref a4, .ref a5, .int ne, .int wi, .int dn, .ref a6, .ref a7, .int nn, .ref a8, .int la, .ref a9, .ref a10, .long up9_5, .long lw9_6, .int wh9_7, .long pu9_8, .long pw9_9, .ref a11])), (a1, .inl (cI, 16, .inl Fi)), (a2, .inl (cI, 16, .inl Ma)), (a4, .inl (cZ, 16, .inl Go)), (a5, .inl (cI, 576, .inl Sp))] := hD
                  have ix_1 : (y_14).toNatClampNeg = 8 * nn.toNatClampNeg + 1 := (by have n9 : (((y_14).toNatClampNeg : Nat) : Int) = (y_14).toInt := tc_I (by omega); omega)
                  refine lv_aload_n hx hb dX9_notice_158 rfl (lv_at hl 1 rfl) ?_
                  refine va_get (D := (dC, dI)) (ci := 9) (v := .ref a8) (C := RX9) (T := TX9) (N := 22) hx hb hts in_X9_noticeE_X9 hown hK hP 1 rfl rfl 12 (by decide) (hts (.fieldLink RX9 39 "MeetingsAboveModel" "noted" "[I") (by decide +kernel)) (fun _ h9 => h9) rfl dX9_notice_159 ?_
                  refine lv_bipush (v := 8) hx hb dX9_notice_162 (by decide) ?_
                  refine lv_iload hx hb dX9_notice_164 (lv_at hl 0 rfl) ?_
                  refine lv_imul hx hb dX9_notice_166 ?_
                  refine lv_topi (fun y_15 ey_15 => ?_)
                  have ty_15 : y_15.toInt = 8 * nn.toInt := by rw [ey_15]; exact fm_lI kl_8 (by omega) (by omega)
                  refine lv_iconst (v := 2) hx hb dX9_notice_167 (by decide) ?_
                  refine lv_iadd hx hb dX9_notice_168 ?_
                  refine lv_topi (fun y_16 ey_16 => ?_)
                  have ty_16 : y_16.toInt = y_15.toInt + 2 := by rw [ey_16]; have := fb_addI (x := y_15) (y := 2) (by omega) (by omega); omega
                  refine lv_aload_n hx hb dX9_notice_169 rfl (lv_at hl 1 rfl) ?_
                  refine va_get (D := (dC, dI)) (ci := 9) (v := .long up9_5) (C := RX9) (T := TX9) (N := 22) hx hb hts in_X9_noticeE_X9 hown hK hP 1 rfl rfl 16 (by decide) (hts (.fieldLink RX9 121 "MeetingsAboveModel" "upper" "J") (by decide +kernel)) (fun _ h9 => h9) rfl dX9_notice_170 ?_
                  refine lv_aload_n hx hb dX9_notice_173 rfl (lv_at hl 1 rfl) ?_
                  refine va_get (D := (dC, dI)) (ci := 9) (v := .long lw9_6) (C := RX9) (T := TX9) (N := 22) hx hb hts in_X9_noticeE_X9 hown hK hP 1 rfl rfl 17 (by decide) (hts (.fieldLink RX9 125 "MeetingsAboveModel" "lower" "J") (by decide +kernel)) (fun _ h9 => h9) rfl dX9_notice_174 ?_
                  refine lv_ldiv hx hb dX9_notice_177 (fun h9 => by have h8 := hbd9.1; rw [h9, klL_0] at h8; omega) ?_
                  refine lv_topl (fun y_17 ey_17 => ?_)
                  refine lv_l2i hx hb dX9_notice_178 rfl ?_
                  refine lv_topi (fun y_18 ey_18 => ?_)
                  refine va_iast hx hb hK hP hD hS 0 0 rfl rfl (vp_in_iff.mpr ⟨by omega, by omega⟩) dX9_notice_179 (fun H locs hP hD hS => ?_)
                  have hP : va_P (dC, dI) vwCl [(a8, .inl (cI, 320, .inl (upd (upd (upd No (y_12 : Int32).toNatClampNeg p2) (y_14 : Int32).toNatClampNeg p1) (y_16 : Int32).toNatClampNeg y_18))), (h0, .inr (9, [.int th, .ref a1, .ref a2, .ref a3, .ref a4, .ref a5, .int ne, .int wi, .int dn, .ref a6, .ref a7, .int nn, .ref a8, .int la, .ref a9, .ref a10, .long up9_5, .long lw9_6, .int wh9_7, .long pu9_8, .long pw9_9, .ref a11])), (a1, .inl (cI, 16, .inl Fi)), (a2, .inl (cI, 16, .inl Ma)), (a4, .inl (cZ, 16, .inl Go)), (a5, .inl (cI, 576, .inl Sp))] H := hP
                  have hD : va_D A [(a8, .inl (cI, 320, .inl (upd (upd (upd No (y_12 : Int32).toNatClampNeg p2) (y_14 : Int32).toNatClampNeg p1) (y_16 : Int32).toNatClampNeg y_18))), (h0, .inr (9, [.int th, .ref a1, .ref a2, .ref a3, .ref a4, .ref a5, .int ne, .int wi, .int dn, .ref a6, .ref a7, .int nn, .ref a8, .int la, .ref a9, .ref a10, .long up9_5, .long lw9_6, .int wh9_7, .long pu9_8, .long pw9_9, .ref a11])), (a1, .inl (cI, 16, .inl Fi)), (a2, .inl (cI, 16, .inl Ma)), (a4, .inl (cZ, 16, .inl Go)), (a5, .inl (cI, 576, .inl Sp))] := hD
                  have ix_2 : (y_16).toNatClampNeg = 8 * nn.toNatClampNeg + 2 := (by have n9 : (((y_16).toNatClampNeg : Nat) : Int) = (y_16).toInt := tc_I (by omega); omega)
                  refine lv_aload_n hx hb dX9_notice_180 rfl (lv_at hl 1 rfl) ?_
                  refine va_get (D := (dC, dI)) (ci := 9) (v := .ref a8) (C := RX9) (T := TX9) (N := 22) hx hb hts in_X9_noticeE_X9 hown hK hP 1 rfl rfl 12 (by decide) (hts (.fieldLink RX9 39 "MeetingsAboveModel" "noted" "[I") (by decide +kernel)) (fun _ h9 => h9) rfl dX9_notice_181 ?_
                  refine lv_bipush (v := 8) hx hb dX9_notice_184 (by decide) ?_
                  refine lv_iload hx hb dX9_notice_186 (lv_at hl 0 rfl) ?_
                  refine lv_imul hx hb dX9_notice_188 ?_
                  refine lv_topi (fun y_19 ey_19 => ?_)
                  have ty_19 : y_19.toInt = 8 * nn.toInt := by rw [ey_19]; exact fm_lI kl_8 (by omega) (by omega)
                  refine lv_iconst (v := 3) hx hb dX9_notice_189 (by decide) ?_
                  refine lv_iadd hx hb dX9_notice_190 ?_
                  refine lv_topi (fun y_20 ey_20 => ?_)
                  have ty_20 : y_20.toInt = y_19.toInt + 3 := by rw [ey_20]; have := fb_addI (x := y_19) (y := 3) (by omega) (by omega); omega
                  refine lv_aload_n hx hb dX9_notice_191 rfl (lv_at hl 1 rfl) ?_
                  refine va_get (D := (dC, dI)) (ci := 9) (v := .int wh9_7) (C := RX9) (T := TX9) (N := 22) hx hb hts in_X9_noticeE_X9 hown hK hP 1 rfl rfl 18 (by decide) (hts (.fieldLink RX9 128 "MeetingsAboveModel" "when" "I") (by decide +kernel)) (fun _ h9 => h9) rfl dX9_notice_192 ?_
                  refine va_iast hx hb hK hP hD hS 0 0 rfl rfl (vp_in_iff.mpr ⟨by omega, by omega⟩) dX9_notice_195 (fun H locs hP hD hS => ?_)
                  have hP : va_P (dC, dI) vwCl [(a8, .inl (cI, 320, .inl (upd (upd (upd (upd No (y_12 : Int32).toNatClampNeg p2) (y_14 : Int32).toNatClampNeg p1) (y_16 : Int32).toNatClampNeg y_18) (y_20 : Int32).toNatClampNeg wh9_7))), (h0, .inr (9, [.int th, .ref a1, .ref a2, .ref a3, .ref a4, .ref a5, .int ne, .int wi, .int dn, .ref a6, .ref a7, .int nn, .ref a8, .int la, .ref a9, .ref a10, .long up9_5, .long lw9_6, .int wh9_7, .long pu9_8, .long pw9_9, .ref a11])), (a1, .inl (cI, 16, .inl Fi)), (a2, .inl (cI, 16, .inl Ma)), (a4, .inl (cZ, 16, .inl Go)), (a5, .inl (cI, 576, .inl Sp))] H := hP
                  have hD : va_D A [(a8, .inl (cI, 320, .inl (upd (upd (upd (upd No (y_12 : Int32).toNatClampNeg p2) (y_14 : Int32).toNatClampNeg p1) (y_16 : Int32).toNatClampNeg y_18) (y_20 : Int32).toNatClampNeg wh9_7))), (h0, .inr (9, [.int th, .ref a1, .ref a2, .ref a3, .ref a4, .ref a5, .int ne, .int wi, .int dn, .ref a6, .ref a7, .int nn, .ref a8, .int la, .ref a9, .ref a10, .long up9_5, .long lw9_6, .int wh9_7, .long pu9_8, .long pw9_9, .ref a11])), (a1, .inl (cI, 16, .inl Fi)), (a2, .inl (cI, 16, .inl Ma)), (a4, .inl (cZ, 16, .inl Go)), (a5, .inl (cI, 576, .inl Sp))] := hD
                  have ix_3 : (y_20).toNatClampNeg = 8 * nn.toNatClampNeg + 3 := (by have n9 : (((y_20).toNatClampNeg : Nat) : Int) = (y_20).toInt := tc_I (by omega); omega)
                  refine lv_aload_n hx hb dX9_notice_196 rfl (lv_at hl 1 rfl) ?_
                  refine va_get (D := (dC, dI)) (ci := 9) (v := .ref a8) (C := RX9) (T := TX9) (N := 22) hx hb hts in_X9_noticeE_X9 hown hK hP 1 rfl rfl 12 (by decide) (hts (.fieldLink RX9 39 "MeetingsAboveModel" "noted" "[I") (by decide +kernel)) (fun _ h9 => h9) rfl dX9_notice_197 ?_
                  refine lv_bipush (v := 8) hx hb dX9_notice_200 (by decide) ?_
                  refine lv_iload hx hb dX9_notice_202 (lv_at hl 0 rfl) ?_
                  refine lv_imul hx hb dX9_notice_204 ?_
                  refine lv_topi (fun y_21 ey_21 => ?_)
                  have ty_21 : y_21.toInt = 8 * nn.toInt := by rw [ey_21]; exact fm_lI kl_8 (by omega) (by omega)
                  refine lv_iconst (v := 4) hx hb dX9_notice_205 (by decide) ?_
                  refine lv_iadd hx hb dX9_notice_206 ?_
                  refine lv_topi (fun y_22 ey_22 => ?_)
                  have ty_22 : y_22.toInt = y_21.toInt + 4 := by rw [ey_22]; have := fb_addI (x := y_21) (y := 4) (by omega) (by omega); omega
                  refine lv_iload hx hb dX9_notice_207 (lv_at hl 6 rfl) ?_
                  refine va_iast hx hb hK hP hD hS 0 0 rfl rfl (vp_in_iff.mpr ⟨by omega, by omega⟩) dX9_notice_209 (fun H locs hP hD hS => ?_)
                  have hP : va_P (dC, dI) vwCl [(a8, .inl (cI, 320, .inl (upd (upd (upd (upd (upd No (y_12 : Int32).toNatClampNeg p2) (y_14 : Int32).toNatClampNeg p1) (y_16 : Int32).toNatClampNeg y_18) (y_20 : Int32).toNatClampNeg wh9_7) (y_22 : Int32).toNatClampNeg b5))), (h0, .inr (9, [.int th, .ref a1, .ref a2, .ref a3, .ref a4, .ref a5, .int ne, .int wi, .int dn, .ref a6, .ref a7, .int nn, .ref a8, .int la, .ref a9, .ref a10, .long up9_5, .long lw9_6, .int wh9_7, .long pu9_8, .long pw9_9, .ref a11])), (a1, .inl (cI, 16, .inl Fi)), (a2, .inl (cI, 16, .inl Ma)), (a4, .inl (cZ, 16, .inl Go)), (a5, .inl (cI, 576, .inl Sp))] H := hP
                  have hD : va_D A [(a8, .inl (cI, 320, .inl (upd (upd (upd (upd (upd No (y_12 : Int32).toNatClampNeg p2) (y_14 : Int32).toNatClampNeg p1) (y_16 : Int32).toNatClampNeg y_18) (y_20 : Int32).toNatClampNeg wh9_7) (y_22 : Int32).toNatClampNeg b5))), (h0, .inr (9, [.int th, .ref a1, .ref a2, .ref a3, .ref a4, .ref a5, .int ne, .int wi, .int dn, .ref a6, .ref a7, .int nn, .ref a8, .int la, .ref a9, .ref a10, .long up9_5, .long lw9_6, .int wh9_7, .long pu9_8, .long pw9_9, .ref a11])), (a1, .inl (cI, 16, .inl Fi)), (a2, .inl (cI, 16, .inl Ma)), (a4, .inl (cZ, 16, .inl Go)), (a5, .inl (cI, 576, .inl Sp))] := hD
                  have ix_4 : (y_22).toNatClampNeg = 8 * nn.toNatClampNeg + 4 := (by have n9 : (((y_22).toNatClampNeg : Nat) : Int) = (y_22).toInt := tc_I (by omega); omega)
                  refine lv_aload_n hx hb dX9_notice_210 rfl (lv_at hl 1 rfl) ?_
                  refine va_get (D := (dC, dI)) (ci := 9) (v := .ref a8) (C := RX9) (T := TX9) (N := 22) hx hb hts in_X9_noticeE_X9 hown hK hP 1 rfl rfl 12 (by decide) (hts (.fieldLink RX9 39 "MeetingsAboveModel" "noted" "[I") (by decide +kernel)) (fun _ h9 => h9) rfl dX9_notice_211 ?_
                  refine lv_bipush (v := 8) hx hb dX9_notice_214 (by decide) ?_
                  refine lv_iload hx hb dX9_notice_216 (lv_at hl 0 rfl) ?_
                  refine lv_imul hx hb dX9_notice_218 ?_
                  refine lv_topi (fun y_23 ey_23 => ?_)
                  have ty_23 : y_23.toInt = 8 * nn.toInt := by rw [ey_23]; exact fm_lI kl_8 (by omega) (by omega)
                  refine lv_iconst (v := 5) hx hb dX9_notice_219 (by decide) ?_
                  refine lv_iadd hx hb dX9_notice_220 ?_
                  refine lv_topi (fun y_24 ey_24 => ?_)
                  have ty_24 : y_24.toInt = y_23.toInt + 5 := by rw [ey_24]; have := fb_addI (x := y_23) (y := 5) (by omega) (by omega); omega
                  refine lv_iconst (v := 1) hx hb dX9_notice_221 (by decide) ?_
                  refine va_iast hx hb hK hP hD hS 0 0 rfl rfl (vp_in_iff.mpr ⟨by omega, by omega⟩) dX9_notice_222 (fun H locs hP hD hS => ?_)
                  have hP : va_P (dC, dI) vwCl [(a8, .inl (cI, 320, .inl (upd (upd (upd (upd (upd (upd No (y_12 : Int32).toNatClampNeg p2) (y_14 : Int32).toNatClampNeg p1) (y_16 : Int32).toNatClampNeg y_18) (y_20 : Int32).toNatClampNeg wh9_7) (y_22 : Int32).toNatClampNeg b5) (y_24 : Int32).toNatClampNeg 1))), (h0, .inr (9, [.int th, .ref a1, .ref a2, .ref a3, .ref a4, .ref a5, .int ne, .int wi, .int dn, .ref a6, .ref a7, .int nn, .ref a8, .int la, .ref a9, .ref a10, .long up9_5, .long lw9_6, .int wh9_7, .long pu9_8, .long pw9_9, .ref a11])), (a1, .inl (cI, 16, .inl Fi)), (a2, .inl (cI, 16, .inl Ma)), (a4, .inl (cZ, 16, .inl Go)), (a5, .inl (cI, 576, .inl Sp))] H := hP
                  have hD : va_D A [(a8, .inl (cI, 320, .inl (upd (upd (upd (upd (upd (upd No (y_12 : Int32).toNatClampNeg p2) (y_14 : Int32).toNatClampNeg p1) (y_16 : Int32).toNatClampNeg y_18) (y_20 : Int32).toNatClampNeg wh9_7) (y_22 : Int32).toNatClampNeg b5) (y_24 : Int32).toNatClampNeg 1))), (h0, .inr (9, [.int th, .ref a1, .ref a2, .ref a3, .ref a4, .ref a5, .int ne, .int wi, .int dn, .ref a6, .ref a7, .int nn, .ref a8, .int la, .ref a9, .ref a10, .long up9_5, .long lw9_6, .int wh9_7, .long pu9_8, .long pw9_9, .ref a11])), (a1, .inl (cI, 16, .inl Fi)), (a2, .inl (cI, 16, .inl Ma)), (a4, .inl (cZ, 16, .inl Go)), (a5, .inl (cI, 576, .inl Sp))] := hD
                  have ix_5 : (y_24).toNatClampNeg = 8 * nn.toNatClampNeg + 5 := (by have n9 : (((y_24).toNatClampNeg : Nat) : Int) = (y_24).toInt := tc_I (by omega); omega)
                  refine lv_aload_n hx hb dX9_notice_223 rfl (lv_at hl 1 rfl) ?_
                  refine va_get (D := (dC, dI)) (ci := 9) (v := .ref a8) (C := RX9) (T := TX9) (N := 22) hx hb hts in_X9_noticeE_X9 hown hK hP 1 rfl rfl 12 (by decide) (hts (.fieldLink RX9 39 "MeetingsAboveModel" "noted" "[I") (by decide +kernel)) (fun _ h9 => h9) rfl dX9_notice_224 ?_
                  refine lv_bipush (v := 8) hx hb dX9_notice_227 (by decide) ?_
                  refine lv_iload hx hb dX9_notice_229 (lv_at hl 0 rfl) ?_
                  refine lv_imul hx hb dX9_notice_231 ?_
                  refine lv_topi (fun y_25 ey_25 => ?_)
                  have ty_25 : y_25.toInt = 8 * nn.toInt := by rw [ey_25]; exact fm_lI kl_8 (by omega) (by omega)
                  refine lv_bipush (v := 6) hx hb dX9_notice_232 (by decide) ?_
                  refine lv_iadd hx hb dX9_notice_234 ?_
                  refine lv_topi (fun y_26 ey_26 => ?_)
                  have ty_26 : y_26.toInt = y_25.toInt + 6 := by rw [ey_26]; have := fb_addI (x := y_25) (y := 6) (by omega) (by omega); omega
                  refine lv_iconst (v := 0) hx hb dX9_notice_235 (by decide) ?_
                  refine va_iast hx hb hK hP hD hS 0 0 rfl rfl (vp_in_iff.mpr ⟨by omega, by omega⟩) dX9_notice_236 (fun H locs hP hD hS => ?_)
                  have hP : va_P (dC, dI) vwCl [(a8, .inl (cI, 320, .inl (upd (upd (upd (upd (upd (upd (upd No (y_12 : Int32).toNatClampNeg p2) (y_14 : Int32).toNatClampNeg p1) (y_16 : Int32).toNatClampNeg y_18) (y_20 : Int32).toNatClampNeg wh9_7) (y_22 : Int32).toNatClampNeg b5) (y_24 : Int32).toNatClampNeg 1) (y_26 : Int32).toNatClampNeg 0))), (h0, .inr (9, [.int th, .ref a1, .ref a2, .ref a3, .ref a4, .ref a5, .int ne, .int wi, .int dn, .ref a6, .ref a7, .int nn, .ref a8, .int la, .ref a9, .ref a10, .long up9_5, .long lw9_6, .int wh9_7, .long pu9_8, .long pw9_9, .ref a11])), (a1, .inl (cI, 16, .inl Fi)), (a2, .inl (cI, 16, .inl Ma)), (a4, .inl (cZ, 16, .inl Go)), (a5, .inl (cI, 576, .inl Sp))] H := hP
                  have hD : va_D A [(a8, .inl (cI, 320, .inl (upd (upd (upd (upd (upd (upd (upd No (y_12 : Int32).toNatClampNeg p2) (y_14 : Int32).toNatClampNeg p1) (y_16 : Int32).toNatClampNeg y_18) (y_20 : Int32).toNatClampNeg wh9_7) (y_22 : Int32).toNatClampNeg b5) (y_24 : Int32).toNatClampNeg 1) (y_26 : Int32).toNatClampNeg 0))), (h0, .inr (9, [.int th, .ref a1, .ref a2, .ref a3, .ref a4, .ref a5, .int ne, .int wi, .int dn, .ref a6, .ref a7, .int nn, .ref a8, .int la, .ref a9, .ref a10, .long up9_5, .long lw9_6, .int wh9_7, .long pu9_8, .long pw9_9, .ref a11])), (a1, .inl (cI, 16, .inl Fi)), (a2, .inl (cI, 16, .inl Ma)), (a4, .inl (cZ, 16, .inl Go)), (a5, .inl (cI, 576, .inl Sp))] := hD
                  have ix_6 : (y_26).toNatClampNeg = 8 * nn.toNatClampNeg + 6 := (by have n9 : (((y_26).toNatClampNeg : Nat) : Int) = (y_26).toInt := tc_I (by omega); omega)
                  refine lv_aload_n hx hb dX9_notice_237 rfl (lv_at hl 1 rfl) ?_
                  refine va_get (D := (dC, dI)) (ci := 9) (v := .ref a8) (C := RX9) (T := TX9) (N := 22) hx hb hts in_X9_noticeE_X9 hown hK hP 1 rfl rfl 12 (by decide) (hts (.fieldLink RX9 39 "MeetingsAboveModel" "noted" "[I") (by decide +kernel)) (fun _ h9 => h9) rfl dX9_notice_238 ?_
                  refine lv_bipush (v := 8) hx hb dX9_notice_241 (by decide) ?_
                  refine lv_iload hx hb dX9_notice_243 (lv_at hl 0 rfl) ?_
                  refine lv_imul hx hb dX9_notice_245 ?_
                  refine lv_topi (fun y_27 ey_27 => ?_)
                  have ty_27 : y_27.toInt = 8 * nn.toInt := by rw [ey_27]; exact fm_lI kl_8 (by omega) (by omega)
                  refine lv_bipush (v := 7) hx hb dX9_notice_246 (by decide) ?_
                  refine lv_iadd hx hb dX9_notice_248 ?_
                  refine lv_topi (fun y_28 ey_28 => ?_)
                  have ty_28 : y_28.toInt = y_27.toInt + 7 := by rw [ey_28]; have := fb_addI (x := y_27) (y := 7) (by omega) (by omega); omega
                  refine lv_iconst (v := 0) hx hb dX9_notice_249 (by decide) ?_
                  refine va_iast hx hb hK hP hD hS 0 0 rfl rfl (vp_in_iff.mpr ⟨by omega, by omega⟩) dX9_notice_250 (fun H locs hP hD hS => ?_)
                  have hP : va_P (dC, dI) vwCl [(a8, .inl (cI, 320, .inl (upd (upd (upd (upd (upd (upd (upd (upd No (y_12 : Int32).toNatClampNeg p2) (y_14 : Int32).toNatClampNeg p1) (y_16 : Int32).toNatClampNeg y_18) (y_20 : Int32).toNatClampNeg wh9_7) (y_22 : Int32).toNatClampNeg b5) (y_24 : Int32).toNatClampNeg 1) (y_26 : Int32).toNatClampNeg 0) (y_28 : Int32).toNatClampNeg 0))), (h0, .inr (9, [.int th, .ref a1, .ref a2, .ref a3, .ref a4, .ref a5, .int ne, .int wi, .int dn, .ref a6, .ref a7, .int nn, .ref a8, .int la, .ref a9, .ref a10, .long up9_5, .long lw9_6, .int wh9_7, .long pu9_8, .long pw9_9, .ref a11])), (a1, .inl (cI, 16, .inl Fi)), (a2, .inl (cI, 16, .inl Ma)), (a4, .inl (cZ, 16, .inl Go)), (a5, .inl (cI, 576, .inl Sp))] H := hP
                  have hD : va_D A [(a8, .inl (cI, 320, .inl (upd (upd (upd (upd (upd (upd (upd (upd No (y_12 : Int32).toNatClampNeg p2) (y_14 : Int32).toNatClampNeg p1) (y_16 : Int32).toNatClampNeg y_18) (y_20 : Int32).toNatClampNeg wh9_7) (y_22 : Int32).toNatClampNeg b5) (y_24 : Int32).toNatClampNeg 1) (y_26 : Int32).toNatClampNeg 0) (y_28 : Int32).toNatClampNeg 0))), (h0, .inr (9, [.int th, .ref a1, .ref a2, .ref a3, .ref a4, .ref a5, .int ne, .int wi, .int dn, .ref a6, .ref a7, .int nn, .ref a8, .int la, .ref a9, .ref a10, .long up9_5, .long lw9_6, .int wh9_7, .long pu9_8, .long pw9_9, .ref a11])), (a1, .inl (cI, 16, .inl Fi)), (a2, .inl (cI, 16, .inl Ma)), (a4, .inl (cZ, 16, .inl Go)), (a5, .inl (cI, 576, .inl Sp))] := hD
                  have ix_7 : (y_28).toNatClampNeg = 8 * nn.toNatClampNeg + 7 := (by have n9 : (((y_28).toNatClampNeg : Nat) : Int) = (y_28).toInt := tc_I (by omega); omega)
                  refine lv_iload hx hb dX9_notice_251 (lv_at hl 6 rfl) ?_
                  refine lv_if_lt (tgt := 269) hx hb dX9_notice_253 (by decide) (fun c_253 => ?_) (fun c_253 => ?_)
                  · have t_253 := (fa_lt _ _).mp c_253
                    refine lv_aload_n hx hb dX9_notice_269 rfl (lv_at hl 1 rfl) ?_
                    refine lv_dup hx hb dX9_notice_270 rfl ?_
                    refine va_get (D := (dC, dI)) (ci := 9) (v := .int nn) (C := RX9) (T := TX9) (N := 22) hx hb hts in_X9_noticeE_X9 hown hK hP 1 rfl rfl 11 (by decide) (hts (.fieldLink RX9 115 "MeetingsAboveModel" "notices" "I") (by decide +kernel)) (fun _ h9 => h9) rfl dX9_notice_271 ?_
                    refine lv_iconst (v := 1) hx hb dX9_notice_274 (by decide) ?_
                    refine lv_iadd hx hb dX9_notice_275 ?_
                    refine lv_topi (fun y_29 ey_29 => ?_)
                    have ty_29 : y_29.toInt = nn.toInt + 1 := by rw [ey_29]; have := fb_addI (x := nn) (y := 1) (by omega) (by omega); omega
                    refine va_put (D := (dC, dI)) (ci := 9) (v := .int y_29) (ty := .int) (C := RX9) (T := TX9) (N := 22) hx hb hts in_X9_noticeE_X9 tyX9 tyX9_ok nmX9 hown hK hP hD hS 1 rfl rfl 11 (by decide) (hts (.fieldLink RX9 115 "MeetingsAboveModel" "notices" "I") (by decide +kernel)) (fun _ h9 => h9) rfl (by decide +kernel) rfl rfl (Nat.le_of_ble_eq_true rfl) dX9_notice_276 (fun H locs hP hD hS => ?_)
                    have hP : va_P (dC, dI) vwCl [(a8, .inl (cI, 320, .inl (upd (upd (upd (upd (upd (upd (upd (upd No (y_12 : Int32).toNatClampNeg p2) (y_14 : Int32).toNatClampNeg p1) (y_16 : Int32).toNatClampNeg y_18) (y_20 : Int32).toNatClampNeg wh9_7) (y_22 : Int32).toNatClampNeg b5) (y_24 : Int32).toNatClampNeg 1) (y_26 : Int32).toNatClampNeg 0) (y_28 : Int32).toNatClampNeg 0))), (h0, .inr (9, [.int th, .ref a1, .ref a2, .ref a3, .ref a4, .ref a5, .int ne, .int wi, .int dn, .ref a6, .ref a7, .int y_29, .ref a8, .int la, .ref a9, .ref a10, .long up9_5, .long lw9_6, .int wh9_7, .long pu9_8, .long pw9_9, .ref a11])), (a1, .inl (cI, 16, .inl Fi)), (a2, .inl (cI, 16, .inl Ma)), (a4, .inl (cZ, 16, .inl Go)), (a5, .inl (cI, 576, .inl Sp))] H := hP
                    have hD : va_D A [(a8, .inl (cI, 320, .inl (upd (upd (upd (upd (upd (upd (upd (upd No (y_12 : Int32).toNatClampNeg p2) (y_14 : Int32).toNatClampNeg p1) (y_16 : Int32).toNatClampNeg y_18) (y_20 : Int32).toNatClampNeg wh9_7) (y_22 : Int32).toNatClampNeg b5) (y_24 : Int32).toNatClampNeg 1) (y_26 : Int32).toNatClampNeg 0) (y_28 : Int32).toNatClampNeg 0))), (h0, .inr (9, [.int th, .ref a1, .ref a2, .ref a3, .ref a4, .ref a5, .int ne, .int wi, .int dn, .ref a6, .ref a7, .int y_29, .ref a8, .int la, .ref a9, .ref a10, .long up9_5, .long lw9_6, .int wh9_7, .long pu9_8, .long pw9_9, .ref a11])), (a1, .inl (cI, 16, .inl Fi)), (a2, .inl (cI, 16, .inl Ma)), (a4, .inl (cZ, 16, .inl Go)), (a5, .inl (cI, 576, .inl Sp))] := hD
                    refine lv_iload hx hb dX9_notice_279 (lv_at hl 0 rfl) ?_
                    have hP9 := hP.sub (ws' := [(h0, .inr (9, [.int th, .ref a1, .ref a2, .ref a3, .ref a4, .ref a5, .int ne, .int wi, .int dn, .ref a6, .ref a7, .int y_29, .ref a8, .int la, .ref a9, .ref a10, .long up9_5, .long lw9_6, .int wh9_7, .long pu9_8, .long pw9_9, .ref a11])), (a1, .inl (cI, 16, .inl Fi)), (a2, .inl (cI, 16, .inl Ma)), (a4, .inl (cZ, 16, .inl Go)), (a5, .inl (cI, 576, .inl Sp)), (a8, .inl (cI, 320, .inl (upd (upd (upd (upd (upd (upd (upd (upd No (y_12 : Int32).toNatClampNeg p2) (y_14 : Int32).toNatClampNeg p1) (y_16 : Int32).toNatClampNeg y_18) (y_20 : Int32).toNatClampNeg wh9_7) (y_22 : Int32).toNatClampNeg b5) (y_24 : Int32).toNatClampNeg 1) (y_26 : Int32).toNatClampNeg 0) (y_28 : Int32).toNatClampNeg 0)))]) [1, 2, 3, 4, 5, 0] rfl
                    have hD9 := hD.sub (ws' := [(h0, .inr (9, [.int th, .ref a1, .ref a2, .ref a3, .ref a4, .ref a5, .int ne, .int wi, .int dn, .ref a6, .ref a7, .int y_29, .ref a8, .int la, .ref a9, .ref a10, .long up9_5, .long lw9_6, .int wh9_7, .long pu9_8, .long pw9_9, .ref a11])), (a1, .inl (cI, 16, .inl Fi)), (a2, .inl (cI, 16, .inl Ma)), (a4, .inl (cZ, 16, .inl Go)), (a5, .inl (cI, 576, .inl Sp)), (a8, .inl (cI, 320, .inl (upd (upd (upd (upd (upd (upd (upd (upd No (y_12 : Int32).toNatClampNeg p2) (y_14 : Int32).toNatClampNeg p1) (y_16 : Int32).toNatClampNeg y_18) (y_20 : Int32).toNatClampNeg wh9_7) (y_22 : Int32).toNatClampNeg b5) (y_24 : Int32).toNatClampNeg 1) (y_26 : Int32).toNatClampNeg 0) (y_28 : Int32).toNatClampNeg 0)))]) [1, 2, 3, 4, 5, 0] (by decide) rfl
                    have hK9 := hK.sub (tys' := [(cI, .int), (cZ, .boolean)]) [0, 1] rfl
                    refine W.widen (k := 0) (n := 0) (by omega) (by omega) ?_
                    exact W.iret (v := nn) hx hb hr (fun t ht hW => ⟨⟨_, (), rfl, (Or.inr (Or.inr (Or.inr ⟨⟨⟨by omega, by omega⟩, ⟨by omega, by omega⟩⟩, ⟨⟨⟨by omega, by omega⟩, ⟨by omega, by omega⟩⟩, (tv_1 hw_4 c_25).1, (tv_1 hw_4 c_25).2⟩, by omega, rfl⟩))), up9_5, lw9_6, wh9_7, pu9_8, pw9_9, y_29, (upd (upd (upd (upd (upd (upd (upd (upd No (y_12 : Int32).toNatClampNeg p2) (y_14 : Int32).toNatClampNeg p1) (y_16 : Int32).toNatClampNeg y_18) (y_20 : Int32).toNatClampNeg wh9_7) (y_22 : Int32).toNatClampNeg b5) (y_24 : Int32).toNatClampNeg 1) (y_26 : Int32).toNatClampNeg 0) (y_28 : Int32).toNatClampNeg 0), by rw [ht]; exact hP9, va_K.moved hW.alike hK9, hD9, (by omega), (by omega), (Or.inl ⟨⟨⟨⟨by omega, by omega⟩, ⟨by omega, by omega⟩⟩, (tv_1 hw_4 c_25).1, (tv_1 hw_4 c_25).2⟩, by omega, by omega, p2, p1, y_18, wh9_7, b5, by omega, by omega, hls9, sq_ms (hms_10 (tv_1 hw_4 c_25)) ⟨y_17, ey_18, by rw [ey_17]; exact ldiv_I hbd9.2 (by omega)⟩ rfl, by rw [ix_0, ix_1, ix_2, ix_3, ix_4, ix_5, ix_6, ix_7]; exact nw_n (by omega)⟩)⟩, hS.F ht⟩) hS.2.2 dX9_notice_281
                  · have t_253 := mt (fa_lt _ _).mpr c_253
                    refine lv_aload_n hx hb dX9_notice_256 rfl (lv_at hl 1 rfl) ?_
                    refine va_get (D := (dC, dI)) (ci := 9) (v := .ref a8) (C := RX9) (T := TX9) (N := 22) hx hb hts in_X9_noticeE_X9 hown hK hP 1 rfl rfl 12 (by decide) (hts (.fieldLink RX9 39 "MeetingsAboveModel" "noted" "[I") (by decide +kernel)) (fun _ h9 => h9) rfl dX9_notice_257 ?_
                    refine lv_bipush (v := 8) hx hb dX9_notice_260 (by decide) ?_
                    refine lv_iload hx hb dX9_notice_262 (lv_at hl 6 rfl) ?_
                    refine lv_imul hx hb dX9_notice_264 ?_
                    refine lv_topi (fun y_30 ey_30 => ?_)
                    have ty_30 : y_30.toInt = 8 * b5.toInt := by rw [ey_30]; exact fm_lI kl_8 (by omega) (by omega)
                    refine lv_iconst (v := 5) hx hb dX9_notice_265 (by decide) ?_
                    refine lv_iadd hx hb dX9_notice_266 ?_
                    refine lv_topi (fun y_31 ey_31 => ?_)
                    have ty_31 : y_31.toInt = y_30.toInt + 5 := by rw [ey_31]; have := fb_addI (x := y_30) (y := 5) (by omega) (by omega); omega
                    refine lv_iconst (v := 0) hx hb dX9_notice_267 (by decide) ?_
                    have ix_9 : (y_31).toNatClampNeg = 8 * b5.toNatClampNeg + 5 := (by have n9 : (((y_31).toNatClampNeg : Nat) : Int) = (y_31).toInt := tc_I (by omega); have n8 : ((b5.toNatClampNeg : Nat) : Int) = b5.toInt := tc_I (by omega); omega)
                    refine va_iast hx hb hK hP hD hS 0 0 rfl rfl (vp_in_iff.mpr ⟨by omega, by omega⟩) dX9_notice_268 (fun H locs hP hD hS => ?_)
                    have hP : va_P (dC, dI) vwCl [(a8, .inl (cI, 320, .inl (upd (upd (upd (upd (upd (upd (upd (upd (upd No (y_12 : Int32).toNatClampNeg p2) (y_14 : Int32).toNatClampNeg p1) (y_16 : Int32).toNatClampNeg y_18) (y_20 : Int32).toNatClampNeg wh9_7) (y_22 : Int32).toNatClampNeg b5) (y_24 : Int32).toNatClampNeg 1) (y_26 : Int32).toNatClampNeg 0) (y_28 : Int32).toNatClampNeg 0) (y_31 : Int32).toNatClampNeg 0))), (h0, .inr (9, [.int th, .ref a1, .ref a2, .ref a3, .ref a4, .ref a5, .int ne, .int wi, .int dn, .ref a6, .ref a7, .int nn, .ref a8, .int la, .ref a9, .ref a10, .long up9_5, .long lw9_6, .int wh9_7, .long pu9_8, .long pw9_9, .ref a11])), (a1, .inl (cI, 16, .inl Fi)), (a2, .inl (cI, 16, .inl Ma)), (a4, .inl (cZ, 16, .inl Go)), (a5, .inl (cI, 576, .inl Sp))] H := hP
                    have hD : va_D A [(a8, .inl (cI, 320, .inl (upd (upd (upd (upd (upd (upd (upd (upd (upd No (y_12 : Int32).toNatClampNeg p2) (y_14 : Int32).toNatClampNeg p1) (y_16 : Int32).toNatClampNeg y_18) (y_20 : Int32).toNatClampNeg wh9_7) (y_22 : Int32).toNatClampNeg b5) (y_24 : Int32).toNatClampNeg 1) (y_26 : Int32).toNatClampNeg 0) (y_28 : Int32).toNatClampNeg 0) (y_31 : Int32).toNatClampNeg 0))), (h0, .inr (9, [.int th, .ref a1, .ref a2, .ref a3, .ref a4, .ref a5, .int ne, .int wi, .int dn, .ref a6, .ref a7, .int nn, .ref a8, .int la, .ref a9, .ref a10, .long up9_5, .long lw9_6, .int wh9_7, .long pu9_8, .long pw9_9, .ref a11])), (a1, .inl (cI, 16, .inl Fi)), (a2, .inl (cI, 16, .inl Ma)), (a4, .inl (cZ, 16, .inl Go)), (a5, .inl (cI, 576, .inl Sp))] := hD
                    refine lv_aload_n hx hb dX9_notice_269 rfl (lv_at hl 1 rfl) ?_
                    refine lv_dup hx hb dX9_notice_270 rfl ?_
                    refine va_get (D := (dC, dI)) (ci := 9) (v := .int nn) (C := RX9) (T := TX9) (N := 22) hx hb hts in_X9_noticeE_X9 hown hK hP 1 rfl rfl 11 (by decide) (hts (.fieldLink RX9 115 "MeetingsAboveModel" "notices" "I") (by decide +kernel)) (fun _ h9 => h9) rfl dX9_notice_271 ?_
                    refine lv_iconst (v := 1) hx hb dX9_notice_274 (by decide) ?_
                    refine lv_iadd hx hb dX9_notice_275 ?_
                    refine lv_topi (fun y_32 ey_32 => ?_)
                    have ty_32 : y_32.toInt = nn.toInt + 1 := by rw [ey_32]; have := fb_addI (x := nn) (y := 1) (by omega) (by omega); omega
                    refine va_put (D := (dC, dI)) (ci := 9) (v := .int y_32) (ty := .int) (C := RX9) (T := TX9) (N := 22) hx hb hts in_X9_noticeE_X9 tyX9 tyX9_ok nmX9 hown hK hP hD hS 1 rfl rfl 11 (by decide) (hts (.fieldLink RX9 115 "MeetingsAboveModel" "notices" "I") (by decide +kernel)) (fun _ h9 => h9) rfl (by decide +kernel) rfl rfl (Nat.le_of_ble_eq_true rfl) dX9_notice_276 (fun H locs hP hD hS => ?_)
                    have hP : va_P (dC, dI) vwCl [(a8, .inl (cI, 320, .inl (upd (upd (upd (upd (upd (upd (upd (upd (upd No (y_12 : Int32).toNatClampNeg p2) (y_14 : Int32).toNatClampNeg p1) (y_16 : Int32).toNatClampNeg y_18) (y_20 : Int32).toNatClampNeg wh9_7) (y_22 : Int32).toNatClampNeg b5) (y_24 : Int32).toNatClampNeg 1) (y_26 : Int32).toNatClampNeg 0) (y_28 : Int32).toNatClampNeg 0) (y_31 : Int32).toNatClampNeg 0))), (h0, .inr (9, [.int th, .ref a1, .ref a2, .ref a3, .ref a4, .ref a5, .int ne, .int wi, .int dn, .ref a6, .ref a7, .int y_32, .ref a8, .int la, .ref a9, .ref a10, .long up9_5, .long lw9_6, .int wh9_7, .long pu9_8, .long pw9_9, .ref a11])), (a1, .inl (cI, 16, .inl Fi)), (a2, .inl (cI, 16, .inl Ma)), (a4, .inl (cZ, 16, .inl Go)), (a5, .inl (cI, 576, .inl Sp))] H := hP
                    have hD : va_D A [(a8, .inl (cI, 320, .inl (upd (upd (upd (upd (upd (upd (upd (upd (upd No (y_12 : Int32).toNatClampNeg p2) (y_14 : Int32).toNatClampNeg p1) (y_16 : Int32).toNatClampNeg y_18) (y_20 : Int32).toNatClampNeg wh9_7) (y_22 : Int32).toNatClampNeg b5) (y_24 : Int32).toNatClampNeg 1) (y_26 : Int32).toNatClampNeg 0) (y_28 : Int32).toNatClampNeg 0) (y_31 : Int32).toNatClampNeg 0))), (h0, .inr (9, [.int th, .ref a1, .ref a2, .ref a3, .ref a4, .ref a5, .int ne, .int wi, .int dn, .ref a6, .ref a7, .int y_32, .ref a8, .int la, .ref a9, .ref a10, .long up9_5, .long lw9_6, .int wh9_7, .long pu9_8, .long pw9_9, .ref a11])), (a1, .inl (cI, 16, .inl Fi)), (a2, .inl (cI, 16, .inl Ma)), (a4, .inl (cZ, 16, .inl Go)), (a5, .inl (cI, 576, .inl Sp))] := hD
                    refine lv_iload hx hb dX9_notice_279 (lv_at hl 0 rfl) ?_
                    have hP9 := hP.sub (ws' := [(h0, .inr (9, [.int th, .ref a1, .ref a2, .ref a3, .ref a4, .ref a5, .int ne, .int wi, .int dn, .ref a6, .ref a7, .int y_32, .ref a8, .int la, .ref a9, .ref a10, .long up9_5, .long lw9_6, .int wh9_7, .long pu9_8, .long pw9_9, .ref a11])), (a1, .inl (cI, 16, .inl Fi)), (a2, .inl (cI, 16, .inl Ma)), (a4, .inl (cZ, 16, .inl Go)), (a5, .inl (cI, 576, .inl Sp)), (a8, .inl (cI, 320, .inl (upd (upd (upd (upd (upd (upd (upd (upd (upd No (y_12 : Int32).toNatClampNeg p2) (y_14 : Int32).toNatClampNeg p1) (y_16 : Int32).toNatClampNeg y_18) (y_20 : Int32).toNatClampNeg wh9_7) (y_22 : Int32).toNatClampNeg b5) (y_24 : Int32).toNatClampNeg 1) (y_26 : Int32).toNatClampNeg 0) (y_28 : Int32).toNatClampNeg 0) (y_31 : Int32).toNatClampNeg 0)))]) [1, 2, 3, 4, 5, 0] rfl
                    have hD9 := hD.sub (ws' := [(h0, .inr (9, [.int th, .ref a1, .ref a2, .ref a3, .ref a4, .ref a5, .int ne, .int wi, .int dn, .ref a6, .ref a7, .int y_32, .ref a8, .int la, .ref a9, .ref a10, .long up9_5, .long lw9_6, .int wh9_7, .long pu9_8, .long pw9_9, .ref a11])), (a1, .inl (cI, 16, .inl Fi)), (a2, .inl (cI, 16, .inl Ma)), (a4, .inl (cZ, 16, .inl Go)), (a5, .inl (cI, 576, .inl Sp)), (a8, .inl (cI, 320, .inl (upd (upd (upd (upd (upd (upd (upd (upd (upd No (y_12 : Int32).toNatClampNeg p2) (y_14 : Int32).toNatClampNeg p1) (y_16 : Int32).toNatClampNeg y_18) (y_20 : Int32).toNatClampNeg wh9_7) (y_22 : Int32).toNatClampNeg b5) (y_24 : Int32).toNatClampNeg 1) (y_26 : Int32).toNatClampNeg 0) (y_28 : Int32).toNatClampNeg 0) (y_31 : Int32).toNatClampNeg 0)))]) [1, 2, 3, 4, 5, 0] (by decide) rfl
                    have hK9 := hK.sub (tys' := [(cI, .int), (cZ, .boolean)]) [0, 1] rfl
                    refine W.widen (k := 0) (n := 0) (by omega) (by omega) ?_
                    exact W.iret (v := nn) hx hb hr (fun t ht hW => ⟨⟨_, (), rfl, (Or.inr (Or.inr (Or.inr ⟨⟨⟨by omega, by omega⟩, ⟨by omega, by omega⟩⟩, ⟨⟨⟨by omega, by omega⟩, ⟨by omega, by omega⟩⟩, (tv_1 hw_4 c_25).1, (tv_1 hw_4 c_25).2⟩, by omega, rfl⟩))), up9_5, lw9_6, wh9_7, pu9_8, pw9_9, y_32, (upd (upd (upd (upd (upd (upd (upd (upd (upd No (y_12 : Int32).toNatClampNeg p2) (y_14 : Int32).toNatClampNeg p1) (y_16 : Int32).toNatClampNeg y_18) (y_20 : Int32).toNatClampNeg wh9_7) (y_22 : Int32).toNatClampNeg b5) (y_24 : Int32).toNatClampNeg 1) (y_26 : Int32).toNatClampNeg 0) (y_28 : Int32).toNatClampNeg 0) (y_31 : Int32).toNatClampNeg 0), by rw [ht]; exact hP9, va_K.moved hW.alike hK9, hD9, (by omega), (by omega), (Or.inl ⟨⟨⟨⟨by omega, by omega⟩, ⟨by omega, by omega⟩⟩, (tv_1 hw_4 c_25).1, (tv_1 hw_4 c_25).2⟩, by omega, by omega, p2, p1, y_18, wh9_7, b5, by omega, by omega, hls9, sq_ms (hms_10 (tv_1 hw_4 c_25)) ⟨y_17, ey_18, by rw [ey_17]; exact ldiv_I hbd9.2 (by omega)⟩ rfl, by rw [ix_0, ix_1, ix_2, ix_3, ix_4, ix_5, ix_6, ix_7, ix_9]; exact nw_y (by omega)⟩)⟩, hS.F ht⟩) hS.2.2 dX9_notice_281
                · have t_78 := mt (fa_le _ _).mpr c_78
                  refine lv_aload_n hx hb dX9_notice_81 rfl (lv_at hl 0 rfl) ?_
                  refine va_get (D := (dC, dI)) (ci := 9) (v := .ref a8) (C := RX9) (T := TX9) (N := 22) hx hb hts in_X9_noticeE_X9 hown hK hP 1 rfl rfl 12 (by decide) (hts (.fieldLink RX9 39 "MeetingsAboveModel" "noted" "[I") (by decide +kernel)) (fun _ h9 => h9) rfl dX9_notice_82 ?_
                  refine lv_bipush (v := 8) hx hb dX9_notice_85 (by decide) ?_
                  refine lv_iload hx hb dX9_notice_87 (lv_at hl 6 rfl) ?_
                  refine lv_imul hx hb dX9_notice_89 ?_
                  refine lv_topi (fun y_33 ey_33 => ?_)
                  have ty_33 : y_33.toInt = 8 * k6.toInt := by rw [ey_33]; exact fm_lI kl_8 (by omega) (by omega)
                  refine va_iald hx hb hK hP 0 0 rfl rfl (vp_in_iff.mpr ⟨by omega, by omega⟩) dX9_notice_90 ?_
                  refine lv_topi (fun y_34 ey_34 => ?_)
                  have ny_34 : (((y_33 : Int32).toNatClampNeg : Nat) : Int) = (y_33 : Int32).toInt := tc_I (by omega)
                  have uy_34 : y_34.toInt = (No (8 * k6.toInt.toNat)).toInt := by rw [ey_34, show (y_33 : Int32).toNatClampNeg = 8 * k6.toInt.toNat by omega]
                  refine lv_iload_n hx hb dX9_notice_91 rfl (lv_at hl 3 rfl) ?_
                  refine lv_icmp_ne (tgt := 117) hx hb dX9_notice_92 (by decide) (fun c_92 => ?_) (fun c_92 => ?_)
                  · have t_92 := mt (fa_eq _ _).mpr c_92
                    refine lv_iload hx hb dX9_notice_117 (lv_at hl 5 rfl) ?_
                    have hls8 : lsP (mNV No) (k6.toInt.toNat + 1) (p2).toInt (p1).toInt b5.toInt := ls_n (fun z9 => by have z1 : (No (8 * k6.toInt.toNat)).toInt = (p2).toInt := z9.1; have z2 : (No (8 * k6.toInt.toNat + 1)).toInt = (p1).toInt := z9.2; omega) hls
                    refine lv_istore (lv' := [(5, .int b5), (0, .ref h0), (1, .int p1), (2, .int p2), (3, .int p2), (4, .int p1), (6, .int k6)]) hx hb dX9_notice_119 hl (by decide) rfl (fun ls hl => ?_)
                    obtain ⟨y_35, ey_35⟩ : ∃ y : Int32, y = k6 + 1 := ⟨_, rfl⟩
                    have ty_35 : y_35.toInt = k6.toInt + 1 := by rw [ey_35]; have := fb_addI (x := k6) (y := 1) (by omega) (by omega); omega
                    refine lv_iinc (v := y_35) (lv' := [(6, .int y_35), (5, .int b5), (0, .ref h0), (1, .int p1), (2, .int p2), (3, .int p2), (4, .int p1)]) hx hb dX9_notice_121 hl (k := 6) rfl (by rw [ey_35]; rfl) (by decide) rfl (fun ls hl => ?_)
                    refine lv_goto (tgt := 72) hx hb dX9_notice_124 (by decide) ?_
                    exact ih_72 b5 y_35 (by omega) (by omega) (by rw [show (y_35).toInt.toNat = k6.toInt.toNat + 1 by omega]; exact hls8) (by omega) H _ (hP.sub [0, 1, 2, 3, 4, 5] rfl) (hD.sub [0, 1, 2, 3, 4, 5] (by decide) rfl) hS ls (lv_sub hl [2, 3, 4, 5, 6, 1, 0] rfl)
                  · have t_92 := (fa_eq _ _).mp c_92
                    refine lv_aload_n hx hb dX9_notice_95 rfl (lv_at hl 0 rfl) ?_
                    refine va_get (D := (dC, dI)) (ci := 9) (v := .ref a8) (C := RX9) (T := TX9) (N := 22) hx hb hts in_X9_noticeE_X9 hown hK hP 1 rfl rfl 12 (by decide) (hts (.fieldLink RX9 39 "MeetingsAboveModel" "noted" "[I") (by decide +kernel)) (fun _ h9 => h9) rfl dX9_notice_96 ?_
                    refine lv_bipush (v := 8) hx hb dX9_notice_99 (by decide) ?_
                    refine lv_iload hx hb dX9_notice_101 (lv_at hl 6 rfl) ?_
                    refine lv_imul hx hb dX9_notice_103 ?_
                    refine lv_topi (fun y_36 ey_36 => ?_)
                    have ty_36 : y_36.toInt = 8 * k6.toInt := by rw [ey_36]; exact fm_lI kl_8 (by omega) (by omega)
                    refine lv_iconst (v := 1) hx hb dX9_notice_104 (by decide) ?_
                    refine lv_iadd hx hb dX9_notice_105 ?_
                    refine lv_topi (fun y_37 ey_37 => ?_)
                    have ty_37 : y_37.toInt = y_36.toInt + 1 := by rw [ey_37]; have := fb_addI (x := y_36) (y := 1) (by omega) (by omega); omega
                    refine va_iald hx hb hK hP 0 0 rfl rfl (vp_in_iff.mpr ⟨by omega, by omega⟩) dX9_notice_106 ?_
                    refine lv_topi (fun y_38 ey_38 => ?_)
                    have ny_38 : (((y_37 : Int32).toNatClampNeg : Nat) : Int) = (y_37 : Int32).toInt := tc_I (by omega)
                    have uy_38 : y_38.toInt = (No (8 * k6.toInt.toNat + 1)).toInt := by rw [ey_38, show (y_37 : Int32).toNatClampNeg = 8 * k6.toInt.toNat + 1 by omega]
                    refine lv_iload hx hb dX9_notice_107 (lv_at hl 4 rfl) ?_
                    refine lv_icmp_ne (tgt := 117) hx hb dX9_notice_109 (by decide) (fun c_109 => ?_) (fun c_109 => ?_)
                    · have t_109 := mt (fa_eq _ _).mpr c_109
                      refine lv_iload hx hb dX9_notice_117 (lv_at hl 5 rfl) ?_
                      have hls8 : lsP (mNV No) (k6.toInt.toNat + 1) (p2).toInt (p1).toInt b5.toInt := ls_n (fun z9 => by have z1 : (No (8 * k6.toInt.toNat)).toInt = (p2).toInt := z9.1; have z2 : (No (8 * k6.toInt.toNat + 1)).toInt = (p1).toInt := z9.2; omega) hls
                      refine lv_istore (lv' := [(5, .int b5), (0, .ref h0), (1, .int p1), (2, .int p2), (3, .int p2), (4, .int p1), (6, .int k6)]) hx hb dX9_notice_119 hl (by decide) rfl (fun ls hl => ?_)
                      obtain ⟨y_39, ey_39⟩ : ∃ y : Int32, y = k6 + 1 := ⟨_, rfl⟩
                      have ty_39 : y_39.toInt = k6.toInt + 1 := by rw [ey_39]; have := fb_addI (x := k6) (y := 1) (by omega) (by omega); omega
                      refine lv_iinc (v := y_39) (lv' := [(6, .int y_39), (5, .int b5), (0, .ref h0), (1, .int p1), (2, .int p2), (3, .int p2), (4, .int p1)]) hx hb dX9_notice_121 hl (k := 6) rfl (by rw [ey_39]; rfl) (by decide) rfl (fun ls hl => ?_)
                      refine lv_goto (tgt := 72) hx hb dX9_notice_124 (by decide) ?_
                      exact ih_72 b5 y_39 (by omega) (by omega) (by rw [show (y_39).toInt.toNat = k6.toInt.toNat + 1 by omega]; exact hls8) (by omega) H _ (hP.sub [0, 1, 2, 3, 4, 5] rfl) (hD.sub [0, 1, 2, 3, 4, 5] (by decide) rfl) hS ls (lv_sub hl [2, 3, 4, 5, 6, 1, 0] rfl)
                    · have t_109 := (fa_eq _ _).mp c_109
                      refine lv_iload hx hb dX9_notice_112 (lv_at hl 6 rfl) ?_
                      refine lv_goto (tgt := 119) hx hb dX9_notice_114 (by decide) ?_
                      have hls8 : lsP (mNV No) (k6.toInt.toNat + 1) (p2).toInt (p1).toInt k6.toInt := by rw [show k6.toInt = ((k6.toInt.toNat : Nat) : Int) by omega]; exact ls_y ⟨(by omega : (No (8 * k6.toInt.toNat)).toInt = (p2).toInt), (by omega : (No (8 * k6.toInt.toNat + 1)).toInt = (p1).toInt)⟩
                      refine lv_istore (lv' := [(5, .int k6), (0, .ref h0), (1, .int p1), (2, .int p2), (3, .int p2), (4, .int p1), (6, .int k6)]) hx hb dX9_notice_119 hl (by decide) rfl (fun ls hl => ?_)
                      obtain ⟨y_40, ey_40⟩ : ∃ y : Int32, y = k6 + 1 := ⟨_, rfl⟩
                      have ty_40 : y_40.toInt = k6.toInt + 1 := by rw [ey_40]; have := fb_addI (x := k6) (y := 1) (by omega) (by omega); omega
                      refine lv_iinc (v := y_40) (lv' := [(6, .int y_40), (5, .int k6), (0, .ref h0), (1, .int p1), (2, .int p2), (3, .int p2), (4, .int p1)]) hx hb dX9_notice_121 hl (k := 6) rfl (by rw [ey_40]; rfl) (by decide) rfl (fun ls hl => ?_)
                      refine lv_goto (tgt := 72) hx hb dX9_notice_124 (by decide) ?_
                      exact ih_72 k6 y_40 (by omega) (by omega) (by rw [show (y_40).toInt.toNat = k6.toInt.toNat + 1 by omega]; exact hls8) (by omega) H _ (hP.sub [0, 1, 2, 3, 4, 5] rfl) (hD.sub [0, 1, 2, 3, 4, 5] (by decide) rfl) hS ls (lv_sub hl [2, 3, 4, 5, 6, 1, 0] rfl)
            · have t_56 := mt (fa_le _ _).mpr c_56
              refine lv_iload_n hx hb dX9_notice_59 rfl (lv_at hl 3 rfl) ?_
              refine lv_goto (tgt := 64) hx hb dX9_notice_60 (by decide) ?_
              refine lv_istore (lv' := [(4, .int p2), (3, .int p2), (0, .ref h0), (1, .int p1), (2, .int p2)]) hx hb dX9_notice_64 hl (by decide) rfl (fun ls hl => ?_)
              refine lv_iconst (v := (-1)) hx hb dX9_notice_66 (by decide) ?_
              refine lv_istore (lv' := [(5, .int (-1)), (4, .int p2), (3, .int p2), (0, .ref h0), (1, .int p1), (2, .int p2)]) hx hb dX9_notice_67 hl (by decide) rfl (fun ls hl => ?_)
              refine lv_iconst (v := 0) hx hb dX9_notice_69 (by decide) ?_
              refine lv_istore (lv' := [(6, .int 0), (5, .int (-1)), (4, .int p2), (3, .int p2), (0, .ref h0), (1, .int p1), (2, .int p2)]) hx hb dX9_notice_70 hl (by decide) rfl (fun ls hl => ?_)
              refine (show ∀ (k : Nat) (b5 : Int32) (k6 : Int32) (hk0 : 0 ≤ k6.toInt) (hk1 : k6.toInt ≤ nn.toInt) (hls : lsP (mNV No) k6.toInt.toNat (p2).toInt (p2).toInt b5.toInt) (hk_72 : (nn.toInt - k6.toInt).toNat < k) (H : Heap) (locs : List Loc) (hP : va_P (dC, dI) vwCl [(a8, .inl (cI, 320, .inl No)), (h0, .inr (9, [.int th, .ref a1, .ref a2, .ref a3, .ref a4, .ref a5, .int ne, .int wi, .int dn, .ref a6, .ref a7, .int nn, .ref a8, .int la, .ref a9, .ref a10, .long up9_5, .long lw9_6, .int wh9_7, .long pu9_8, .long pw9_9, .ref a11])), (a1, .inl (cI, 16, .inl Fi)), (a2, .inl (cI, 16, .inl Ma)), (a4, .inl (cZ, 16, .inl Go)), (a5, .inl (cI, 576, .inl Sp))] H) (hD : va_D A [(a8, .inl (cI, 320, .inl No)), (h0, .inr (9, [.int th, .ref a1, .ref a2, .ref a3, .ref a4, .ref a5, .int ne, .int wi, .int dn, .ref a6, .ref a7, .int nn, .ref a8, .int la, .ref a9, .ref a10, .long up9_5, .long lw9_6, .int wh9_7, .long pu9_8, .long pw9_9, .ref a11])), (a1, .inl (cI, 16, .inl Fi)), (a2, .inl (cI, 16, .inl Ma)), (a4, .inl (cZ, 16, .inl Go)), (a5, .inl (cI, 576, .inl Sp))]) (hS : va_S A s.heap H locs) (ls : Array Slot) (hl : lv_has ls 7 [(0, .ref h0), (1, .int p1), (2, .int p2), (3, .int p2), (4, .int p2), (5, .int b5), (6, .int k6)]), W p l e _ s m _ below meth c H locs 0 0 _ (F0 m 72 ls []) from ?_) _ (-1) 0 (by omega) (by omega) (by rw [show (0 : Int32).toInt.toNat = 0 by omega]; exact ls_0 _ _ _) (Nat.lt_succ_self _) H _ hP hD hS ls (lv_sub hl [4, 5, 6, 3, 2, 1, 0] rfl)
              intro k
              induction k with
              | zero => intro b5 k6 hk0 hk1 hls hk_72; exact absurd hk_72 (Nat.not_lt_zero _)
              | succ k ih_72 =>
                intro b5 k6 hk0 hk1 hls hk_72 H locs hP hD hS ls hl
                refine lv_iload hx hb dX9_notice_72 (lv_at hl 6 rfl) ?_
                refine lv_aload_n hx hb dX9_notice_74 rfl (lv_at hl 0 rfl) ?_
                refine va_get (D := (dC, dI)) (ci := 9) (v := .int nn) (C := RX9) (T := TX9) (N := 22) hx hb hts in_X9_noticeE_X9 hown hK hP 1 rfl rfl 11 (by decide) (hts (.fieldLink RX9 115 "MeetingsAboveModel" "notices" "I") (by decide +kernel)) (fun _ h9 => h9) rfl dX9_notice_75 ?_
                refine lv_icmp_ge (tgt := 127) hx hb dX9_notice_78 (by decide) (fun c_78 => ?_) (fun c_78 => ?_)
                · have t_78 := (fa_le _ _).mp c_78
                  have hls9 : lsP (mNV No) nn.toNatClampNeg (p2).toInt (p2).toInt b5.toInt := by rw [show nn.toNatClampNeg = k6.toInt.toNat by omega]; exact hls
                  have rg9 := ls_rg hls9
                  refine lv_aload_n hx hb dX9_notice_127 rfl (lv_at hl 0 rfl) ?_
                  refine va_get (D := (dC, dI)) (ci := 9) (v := .int nn) (C := RX9) (T := TX9) (N := 22) hx hb hts in_X9_noticeE_X9 hown hK hP 1 rfl rfl 11 (by decide) (hts (.fieldLink RX9 115 "MeetingsAboveModel" "notices" "I") (by decide +kernel)) (fun _ h9 => h9) rfl dX9_notice_128 ?_
                  refine lv_istore (lv' := [(6, .int nn), (0, .ref h0), (1, .int p1), (2, .int p2), (3, .int p2), (4, .int p2), (5, .int b5)]) hx hb dX9_notice_131 hl (by decide) rfl (fun ls hl => ?_)
                  refine lv_aload_n hx hb dX9_notice_133 rfl (lv_at hl 1 rfl) ?_
                  refine va_get (D := (dC, dI)) (ci := 9) (v := .ref a8) (C := RX9) (T := TX9) (N := 22) hx hb hts in_X9_noticeE_X9 hown hK hP 1 rfl rfl 12 (by decide) (hts (.fieldLink RX9 39 "MeetingsAboveModel" "noted" "[I") (by decide +kernel)) (fun _ h9 => h9) rfl dX9_notice_134 ?_
                  refine lv_bipush (v := 8) hx hb dX9_notice_137 (by decide) ?_
                  refine lv_iload hx hb dX9_notice_139 (lv_at hl 0 rfl) ?_
                  refine lv_imul hx hb dX9_notice_141 ?_
                  refine lv_topi (fun y_41 ey_41 => ?_)
                  have ty_41 : y_41.toInt = 8 * nn.toInt := by rw [ey_41]; exact fm_lI kl_8 (by omega) (by omega)
                  refine lv_iload_n hx hb dX9_notice_142 rfl (lv_at hl 4 rfl) ?_
                  refine va_iast hx hb hK hP hD hS 0 0 rfl rfl (vp_in_iff.mpr ⟨by omega, by omega⟩) dX9_notice_143 (fun H locs hP hD hS => ?_)
                  have hP : va_P (dC, dI) vwCl [(a8, .inl (cI, 320, .inl (upd No (y_41 : Int32).toNatClampNeg p2))), (h0, .inr (9, [.int th, .ref a1, .ref a2, .ref a3, .ref a4, .ref a5, .int ne, .int wi, .int dn, .ref a6, .ref a7, .int nn, .ref a8, .int la, .ref a9, .ref a10, .long up9_5, .long lw9_6, .int wh9_7, .long pu9_8, .long pw9_9, .ref a11])), (a1, .inl (cI, 16, .inl Fi)), (a2, .inl (cI, 16, .inl Ma)), (a4, .inl (cZ, 16, .inl Go)), (a5, .inl (cI, 576, .inl Sp))] H := hP
                  have hD : va_D A [(a8, .inl (cI, 320, .inl (upd No (y_41 : Int32).toNatClampNeg p2))), (h0, .inr (9, [.int th, .ref a1, .ref a2, .ref a3, .ref a4, .ref a5, .int ne, .int wi, .int dn, .ref a6, .ref a7, .int nn, .ref a8, .int la, .ref a9, .ref a10, .long up9_5, .long lw9_6, .int wh9_7, .long pu9_8, .long pw9_9, .ref a11])), (a1, .inl (cI, 16, .inl Fi)), (a2, .inl (cI, 16, .inl Ma)), (a4, .inl (cZ, 16, .inl Go)), (a5, .inl (cI, 576, .inl Sp))] := hD
                  have ix_0 : (y_41).toNatClampNeg = 8 * nn.toNatClampNeg := (by have n9 : (((y_41).toNatClampNeg : Nat) : Int) = (y_41).toInt := tc_I (by omega); omega)
                  refine lv_aload_n hx hb dX9_notice_144 rfl (lv_at hl 1 rfl) ?_
                  refine va_get (D := (dC, dI)) (ci := 9) (v := .ref a8) (C := RX9) (T := TX9) (N := 22) hx hb hts in_X9_noticeE_X9 hown hK hP 1 rfl rfl 12 (by decide) (hts (.fieldLink RX9 39 "MeetingsAboveModel" "noted" "[I") (by decide +kernel)) (fun _ h9 => h9) rfl dX9_notice_145 ?_
                  refine lv_bipush (v := 8) hx hb dX9_notice_148 (by decide) ?_
                  refine lv_iload hx hb dX9_notice_150 (lv_at hl 0 rfl) ?_
                  refine lv_imul hx hb dX9_notice_152 ?_
                  refine lv_topi (fun y_42 ey_42 => ?_)
                  have ty_42 : y_42.toInt = 8 * nn.toInt := by rw [ey_42]; exact fm_lI kl_8 (by omega) (by omega)
                  refine lv_iconst (v := 1) hx hb dX9_notice_153 (by decide) ?_
                  refine lv_iadd hx hb dX9_notice_154 ?_
                  refine lv_topi (fun y_43 ey_43 => ?_)
                  have ty_43 : y_43.toInt = y_42.toInt + 1 := by rw [ey_43]; have := fb_addI (x := y_42) (y := 1) (by omega) (by omega); omega
                  refine lv_iload hx hb dX9_notice_155 (lv_at hl 5 rfl) ?_
                  refine va_iast hx hb hK hP hD hS 0 0 rfl rfl (vp_in_iff.mpr ⟨by omega, by omega⟩) dX9_notice_157 (fun H locs hP hD hS => ?_)
                  have hP : va_P (dC, dI) vwCl [(a8, .inl (cI, 320, .inl (upd (upd No (y_41 : Int32).toNatClampNeg p2) (y_43 : Int32).toNatClampNeg p2))), (h0, .inr (9, [.int th, .ref a1, .ref a2, .ref a3, .ref a4, .ref a5, .int ne, .int wi, .int dn, .ref a6, .ref a7, .int nn, .ref a8, .int la, .ref a9, .ref a10, .long up9_5, .long lw9_6, .int wh9_7, .long pu9_8, .long pw9_9, .ref a11])), (a1, .inl (cI, 16, .inl Fi)), (a2, .inl (cI, 16, .inl Ma)), (a4, .inl (cZ, 16, .inl Go)), (a5, .inl (cI, 576, .inl Sp))] H := hP
                  have hD : va_D A [(a8, .inl (cI, 320, .inl (upd (upd No (y_41 : Int32).toNatClampNeg p2) (y_43 : Int32).toNatClampNeg p2))), (h0, .inr (9, [.int th, .ref a1, .ref a2, .ref a3, .ref a4, .ref a5, .int ne, .int wi, .int dn, .ref a6, .ref a7, .int nn, .ref a8, .int la, .ref a9, .ref a10, .long up9_5, .long lw9_6, .int wh9_7, .long pu9_8, .long pw9_9, .ref a11])), (a1, .inl (cI, 16, .inl Fi)), (a2, .inl (cI, 16, .inl Ma)), (a4, .inl (cZ, 16, .inl Go)), (a5, .inl (cI, 576, .inl Sp))] := hD
                  have ix_1 : (y_43).toNatClampNeg = 8 * nn.toNatClampNeg + 1 := (by have n9 : (((y_43).toNatClampNeg : Nat) : Int) = (y_43).toInt := tc_I (by omega); omega)
                  refine lv_aload_n hx hb dX9_notice_158 rfl (lv_at hl 1 rfl) ?_
                  refine va_get (D := (dC, dI)) (ci := 9) (v := .ref a8) (C := RX9) (T := TX9) (N := 22) hx hb hts in_X9_noticeE_X9 hown hK hP 1 rfl rfl 12 (by decide) (hts (.fieldLink RX9 39 "MeetingsAboveModel" "noted" "[I") (by decide +kernel)) (fun _ h9 => h9) rfl dX9_notice_159 ?_
                  refine lv_bipush (v := 8) hx hb dX9_notice_162 (by decide) ?_
                  refine lv_iload hx hb dX9_notice_164 (lv_at hl 0 rfl) ?_
                  refine lv_imul hx hb dX9_notice_166 ?_
                  refine lv_topi (fun y_44 ey_44 => ?_)
                  have ty_44 : y_44.toInt = 8 * nn.toInt := by rw [ey_44]; exact fm_lI kl_8 (by omega) (by omega)
                  refine lv_iconst (v := 2) hx hb dX9_notice_167 (by decide) ?_
                  refine lv_iadd hx hb dX9_notice_168 ?_
                  refine lv_topi (fun y_45 ey_45 => ?_)
                  have ty_45 : y_45.toInt = y_44.toInt + 2 := by rw [ey_45]; have := fb_addI (x := y_44) (y := 2) (by omega) (by omega); omega
                  refine lv_aload_n hx hb dX9_notice_169 rfl (lv_at hl 1 rfl) ?_
                  refine va_get (D := (dC, dI)) (ci := 9) (v := .long up9_5) (C := RX9) (T := TX9) (N := 22) hx hb hts in_X9_noticeE_X9 hown hK hP 1 rfl rfl 16 (by decide) (hts (.fieldLink RX9 121 "MeetingsAboveModel" "upper" "J") (by decide +kernel)) (fun _ h9 => h9) rfl dX9_notice_170 ?_
                  refine lv_aload_n hx hb dX9_notice_173 rfl (lv_at hl 1 rfl) ?_
                  refine va_get (D := (dC, dI)) (ci := 9) (v := .long lw9_6) (C := RX9) (T := TX9) (N := 22) hx hb hts in_X9_noticeE_X9 hown hK hP 1 rfl rfl 17 (by decide) (hts (.fieldLink RX9 125 "MeetingsAboveModel" "lower" "J") (by decide +kernel)) (fun _ h9 => h9) rfl dX9_notice_174 ?_
                  refine lv_ldiv hx hb dX9_notice_177 (fun h9 => by have h8 := hbd9.1; rw [h9, klL_0] at h8; omega) ?_
                  refine lv_topl (fun y_46 ey_46 => ?_)
                  refine lv_l2i hx hb dX9_notice_178 rfl ?_
                  refine lv_topi (fun y_47 ey_47 => ?_)
                  refine va_iast hx hb hK hP hD hS 0 0 rfl rfl (vp_in_iff.mpr ⟨by omega, by omega⟩) dX9_notice_179 (fun H locs hP hD hS => ?_)
                  have hP : va_P (dC, dI) vwCl [(a8, .inl (cI, 320, .inl (upd (upd (upd No (y_41 : Int32).toNatClampNeg p2) (y_43 : Int32).toNatClampNeg p2) (y_45 : Int32).toNatClampNeg y_47))), (h0, .inr (9, [.int th, .ref a1, .ref a2, .ref a3, .ref a4, .ref a5, .int ne, .int wi, .int dn, .ref a6, .ref a7, .int nn, .ref a8, .int la, .ref a9, .ref a10, .long up9_5, .long lw9_6, .int wh9_7, .long pu9_8, .long pw9_9, .ref a11])), (a1, .inl (cI, 16, .inl Fi)), (a2, .inl (cI, 16, .inl Ma)), (a4, .inl (cZ, 16, .inl Go)), (a5, .inl (cI, 576, .inl Sp))] H := hP
                  have hD : va_D A [(a8, .inl (cI, 320, .inl (upd (upd (upd No (y_41 : Int32).toNatClampNeg p2) (y_43 : Int32).toNatClampNeg p2) (y_45 : Int32).toNatClampNeg y_47))), (h0, .inr (9, [.int th, .ref a1, .ref a2, .ref a3, .ref a4, .ref a5, .int ne, .int wi, .int dn, .ref a6, .ref a7, .int nn, .ref a8, .int la, .ref a9, .ref a10, .long up9_5, .long lw9_6, .int wh9_7, .long pu9_8, .long pw9_9, .ref a11])), (a1, .inl (cI, 16, .inl Fi)), (a2, .inl (cI, 16, .inl Ma)), (a4, .inl (cZ, 16, .inl Go)), (a5, .inl (cI, 576, .inl Sp))] := hD
                  have ix_2 : (y_45).toNatClampNeg = 8 * nn.toNatClampNeg + 2 := (by have n9 : (((y_45).toNatClampNeg : Nat) : Int) = (y_45).toInt := tc_I (by omega); omega)
                  refine lv_aload_n hx hb dX9_notice_180 rfl (lv_at hl 1 rfl) ?_
                  refine va_get (D := (dC, dI)) (ci := 9) (v := .ref a8) (C := RX9) (T := TX9) (N := 22) hx hb hts in_X9_noticeE_X9 hown hK hP 1 rfl rfl 12 (by decide) (hts (.fieldLink RX9 39 "MeetingsAboveModel" "noted" "[I") (by decide +kernel)) (fun _ h9 => h9) rfl dX9_notice_181 ?_
                  refine lv_bipush (v := 8) hx hb dX9_notice_184 (by decide) ?_
                  refine lv_iload hx hb dX9_notice_186 (lv_at hl 0 rfl) ?_
                  refine lv_imul hx hb dX9_notice_188 ?_
                  refine lv_topi (fun y_48 ey_48 => ?_)
                  have ty_48 : y_48.toInt = 8 * nn.toInt := by rw [ey_48]; exact fm_lI kl_8 (by omega) (by omega)
                  refine lv_iconst (v := 3) hx hb dX9_notice_189 (by decide) ?_
                  refine lv_iadd hx hb dX9_notice_190 ?_
                  refine lv_topi (fun y_49 ey_49 => ?_)
                  have ty_49 : y_49.toInt = y_48.toInt + 3 := by rw [ey_49]; have := fb_addI (x := y_48) (y := 3) (by omega) (by omega); omega
                  refine lv_aload_n hx hb dX9_notice_191 rfl (lv_at hl 1 rfl) ?_
                  refine va_get (D := (dC, dI)) (ci := 9) (v := .int wh9_7) (C := RX9) (T := TX9) (N := 22) hx hb hts in_X9_noticeE_X9 hown hK hP 1 rfl rfl 18 (by decide) (hts (.fieldLink RX9 128 "MeetingsAboveModel" "when" "I") (by decide +kernel)) (fun _ h9 => h9) rfl dX9_notice_192 ?_
                  refine va_iast hx hb hK hP hD hS 0 0 rfl rfl (vp_in_iff.mpr ⟨by omega, by omega⟩) dX9_notice_195 (fun H locs hP hD hS => ?_)
                  have hP : va_P (dC, dI) vwCl [(a8, .inl (cI, 320, .inl (upd (upd (upd (upd No (y_41 : Int32).toNatClampNeg p2) (y_43 : Int32).toNatClampNeg p2) (y_45 : Int32).toNatClampNeg y_47) (y_49 : Int32).toNatClampNeg wh9_7))), (h0, .inr (9, [.int th, .ref a1, .ref a2, .ref a3, .ref a4, .ref a5, .int ne, .int wi, .int dn, .ref a6, .ref a7, .int nn, .ref a8, .int la, .ref a9, .ref a10, .long up9_5, .long lw9_6, .int wh9_7, .long pu9_8, .long pw9_9, .ref a11])), (a1, .inl (cI, 16, .inl Fi)), (a2, .inl (cI, 16, .inl Ma)), (a4, .inl (cZ, 16, .inl Go)), (a5, .inl (cI, 576, .inl Sp))] H := hP
                  have hD : va_D A [(a8, .inl (cI, 320, .inl (upd (upd (upd (upd No (y_41 : Int32).toNatClampNeg p2) (y_43 : Int32).toNatClampNeg p2) (y_45 : Int32).toNatClampNeg y_47) (y_49 : Int32).toNatClampNeg wh9_7))), (h0, .inr (9, [.int th, .ref a1, .ref a2, .ref a3, .ref a4, .ref a5, .int ne, .int wi, .int dn, .ref a6, .ref a7, .int nn, .ref a8, .int la, .ref a9, .ref a10, .long up9_5, .long lw9_6, .int wh9_7, .long pu9_8, .long pw9_9, .ref a11])), (a1, .inl (cI, 16, .inl Fi)), (a2, .inl (cI, 16, .inl Ma)), (a4, .inl (cZ, 16, .inl Go)), (a5, .inl (cI, 576, .inl Sp))] := hD
                  have ix_3 : (y_49).toNatClampNeg = 8 * nn.toNatClampNeg + 3 := (by have n9 : (((y_49).toNatClampNeg : Nat) : Int) = (y_49).toInt := tc_I (by omega); omega)
                  refine lv_aload_n hx hb dX9_notice_196 rfl (lv_at hl 1 rfl) ?_
                  refine va_get (D := (dC, dI)) (ci := 9) (v := .ref a8) (C := RX9) (T := TX9) (N := 22) hx hb hts in_X9_noticeE_X9 hown hK hP 1 rfl rfl 12 (by decide) (hts (.fieldLink RX9 39 "MeetingsAboveModel" "noted" "[I") (by decide +kernel)) (fun _ h9 => h9) rfl dX9_notice_197 ?_
                  refine lv_bipush (v := 8) hx hb dX9_notice_200 (by decide) ?_
                  refine lv_iload hx hb dX9_notice_202 (lv_at hl 0 rfl) ?_
                  refine lv_imul hx hb dX9_notice_204 ?_
                  refine lv_topi (fun y_50 ey_50 => ?_)
                  have ty_50 : y_50.toInt = 8 * nn.toInt := by rw [ey_50]; exact fm_lI kl_8 (by omega) (by omega)
                  refine lv_iconst (v := 4) hx hb dX9_notice_205 (by decide) ?_
                  refine lv_iadd hx hb dX9_notice_206 ?_
                  refine lv_topi (fun y_51 ey_51 => ?_)
                  have ty_51 : y_51.toInt = y_50.toInt + 4 := by rw [ey_51]; have := fb_addI (x := y_50) (y := 4) (by omega) (by omega); omega
                  refine lv_iload hx hb dX9_notice_207 (lv_at hl 6 rfl) ?_
                  refine va_iast hx hb hK hP hD hS 0 0 rfl rfl (vp_in_iff.mpr ⟨by omega, by omega⟩) dX9_notice_209 (fun H locs hP hD hS => ?_)
                  have hP : va_P (dC, dI) vwCl [(a8, .inl (cI, 320, .inl (upd (upd (upd (upd (upd No (y_41 : Int32).toNatClampNeg p2) (y_43 : Int32).toNatClampNeg p2) (y_45 : Int32).toNatClampNeg y_47) (y_49 : Int32).toNatClampNeg wh9_7) (y_51 : Int32).toNatClampNeg b5))), (h0, .inr (9, [.int th, .ref a1, .ref a2, .ref a3, .ref a4, .ref a5, .int ne, .int wi, .int dn, .ref a6, .ref a7, .int nn, .ref a8, .int la, .ref a9, .ref a10, .long up9_5, .long lw9_6, .int wh9_7, .long pu9_8, .long pw9_9, .ref a11])), (a1, .inl (cI, 16, .inl Fi)), (a2, .inl (cI, 16, .inl Ma)), (a4, .inl (cZ, 16, .inl Go)), (a5, .inl (cI, 576, .inl Sp))] H := hP
                  have hD : va_D A [(a8, .inl (cI, 320, .inl (upd (upd (upd (upd (upd No (y_41 : Int32).toNatClampNeg p2) (y_43 : Int32).toNatClampNeg p2) (y_45 : Int32).toNatClampNeg y_47) (y_49 : Int32).toNatClampNeg wh9_7) (y_51 : Int32).toNatClampNeg b5))), (h0, .inr (9, [.int th, .ref a1, .ref a2, .ref a3, .ref a4, .ref a5, .int ne, .int wi, .int dn, .ref a6, .ref a7, .int nn, .ref a8, .int la, .ref a9, .ref a10, .long up9_5, .long lw9_6, .int wh9_7, .long pu9_8, .long pw9_9, .ref a11])), (a1, .inl (cI, 16, .inl Fi)), (a2, .inl (cI, 16, .inl Ma)), (a4, .inl (cZ, 16, .inl Go)), (a5, .inl (cI, 576, .inl Sp))] := hD
                  have ix_4 : (y_51).toNatClampNeg = 8 * nn.toNatClampNeg + 4 := (by have n9 : (((y_51).toNatClampNeg : Nat) : Int) = (y_51).toInt := tc_I (by omega); omega)
                  refine lv_aload_n hx hb dX9_notice_210 rfl (lv_at hl 1 rfl) ?_
                  refine va_get (D := (dC, dI)) (ci := 9) (v := .ref a8) (C := RX9) (T := TX9) (N := 22) hx hb hts in_X9_noticeE_X9 hown hK hP 1 rfl rfl 12 (by decide) (hts (.fieldLink RX9 39 "MeetingsAboveModel" "noted" "[I") (by decide +kernel)) (fun _ h9 => h9) rfl dX9_notice_211 ?_
                  refine lv_bipush (v := 8) hx hb dX9_notice_214 (by decide) ?_
                  refine lv_iload hx hb dX9_notice_216 (lv_at hl 0 rfl) ?_
                  refine lv_imul hx hb dX9_notice_218 ?_
                  refine lv_topi (fun y_52 ey_52 => ?_)
                  have ty_52 : y_52.toInt = 8 * nn.toInt := by rw [ey_52]; exact fm_lI kl_8 (by omega) (by omega)
                  refine lv_iconst (v := 5) hx hb dX9_notice_219 (by decide) ?_
                  refine lv_iadd hx hb dX9_notice_220 ?_
                  refine lv_topi (fun y_53 ey_53 => ?_)
                  have ty_53 : y_53.toInt = y_52.toInt + 5 := by rw [ey_53]; have := fb_addI (x := y_52) (y := 5) (by omega) (by omega); omega
                  refine lv_iconst (v := 1) hx hb dX9_notice_221 (by decide) ?_
                  refine va_iast hx hb hK hP hD hS 0 0 rfl rfl (vp_in_iff.mpr ⟨by omega, by omega⟩) dX9_notice_222 (fun H locs hP hD hS => ?_)
                  have hP : va_P (dC, dI) vwCl [(a8, .inl (cI, 320, .inl (upd (upd (upd (upd (upd (upd No (y_41 : Int32).toNatClampNeg p2) (y_43 : Int32).toNatClampNeg p2) (y_45 : Int32).toNatClampNeg y_47) (y_49 : Int32).toNatClampNeg wh9_7) (y_51 : Int32).toNatClampNeg b5) (y_53 : Int32).toNatClampNeg 1))), (h0, .inr (9, [.int th, .ref a1, .ref a2, .ref a3, .ref a4, .ref a5, .int ne, .int wi, .int dn, .ref a6, .ref a7, .int nn, .ref a8, .int la, .ref a9, .ref a10, .long up9_5, .long lw9_6, .int wh9_7, .long pu9_8, .long pw9_9, .ref a11])), (a1, .inl (cI, 16, .inl Fi)), (a2, .inl (cI, 16, .inl Ma)), (a4, .inl (cZ, 16, .inl Go)), (a5, .inl (cI, 576, .inl Sp))] H := hP
                  have hD : va_D A [(a8, .inl (cI, 320, .inl (upd (upd (upd (upd (upd (upd No (y_41 : Int32).toNatClampNeg p2) (y_43 : Int32).toNatClampNeg p2) (y_45 : Int32).toNatClampNeg y_47) (y_49 : Int32).toNatClampNeg wh9_7) (y_51 : Int32).toNatClampNeg b5) (y_53 : Int32).toNatClampNeg 1))), (h0, .inr (9, [.int th, .ref a1, .ref a2, .ref a3, .ref a4, .ref a5, .int ne, .int wi, .int dn, .ref a6, .ref a7, .int nn, .ref a8, .int la, .ref a9, .ref a10, .long up9_5, .long lw9_6, .int wh9_7, .long pu9_8, .long pw9_9, .ref a11])), (a1, .inl (cI, 16, .inl Fi)), (a2, .inl (cI, 16, .inl Ma)), (a4, .inl (cZ, 16, .inl Go)), (a5, .inl (cI, 576, .inl Sp))] := hD
                  have ix_5 : (y_53).toNatClampNeg = 8 * nn.toNatClampNeg + 5 := (by have n9 : (((y_53).toNatClampNeg : Nat) : Int) = (y_53).toInt := tc_I (by omega); omega)
                  refine lv_aload_n hx hb dX9_notice_223 rfl (lv_at hl 1 rfl) ?_
                  refine va_get (D := (dC, dI)) (ci := 9) (v := .ref a8) (C := RX9) (T := TX9) (N := 22) hx hb hts in_X9_noticeE_X9 hown hK hP 1 rfl rfl 12 (by decide) (hts (.fieldLink RX9 39 "MeetingsAboveModel" "noted" "[I") (by decide +kernel)) (fun _ h9 => h9) rfl dX9_notice_224 ?_
                  refine lv_bipush (v := 8) hx hb dX9_notice_227 (by decide) ?_
                  refine lv_iload hx hb dX9_notice_229 (lv_at hl 0 rfl) ?_
                  refine lv_imul hx hb dX9_notice_231 ?_
                  refine lv_topi (fun y_54 ey_54 => ?_)
                  have ty_54 : y_54.toInt = 8 * nn.toInt := by rw [ey_54]; exact fm_lI kl_8 (by omega) (by omega)
                  refine lv_bipush (v := 6) hx hb dX9_notice_232 (by decide) ?_
                  refine lv_iadd hx hb dX9_notice_234 ?_
                  refine lv_topi (fun y_55 ey_55 => ?_)
                  have ty_55 : y_55.toInt = y_54.toInt + 6 := by rw [ey_55]; have := fb_addI (x := y_54) (y := 6) (by omega) (by omega); omega
                  refine lv_iconst (v := 0) hx hb dX9_notice_235 (by decide) ?_
                  refine va_iast hx hb hK hP hD hS 0 0 rfl rfl (vp_in_iff.mpr ⟨by omega, by omega⟩) dX9_notice_236 (fun H locs hP hD hS => ?_)
                  have hP : va_P (dC, dI) vwCl [(a8, .inl (cI, 320, .inl (upd (upd (upd (upd (upd (upd (upd No (y_41 : Int32).toNatClampNeg p2) (y_43 : Int32).toNatClampNeg p2) (y_45 : Int32).toNatClampNeg y_47) (y_49 : Int32).toNatClampNeg wh9_7) (y_51 : Int32).toNatClampNeg b5) (y_53 : Int32).toNatClampNeg 1) (y_55 : Int32).toNatClampNeg 0))), (h0, .inr (9, [.int th, .ref a1, .ref a2, .ref a3, .ref a4, .ref a5, .int ne, .int wi, .int dn, .ref a6, .ref a7, .int nn, .ref a8, .int la, .ref a9, .ref a10, .long up9_5, .long lw9_6, .int wh9_7, .long pu9_8, .long pw9_9, .ref a11])), (a1, .inl (cI, 16, .inl Fi)), (a2, .inl (cI, 16, .inl Ma)), (a4, .inl (cZ, 16, .inl Go)), (a5, .inl (cI, 576, .inl Sp))] H := hP
                  have hD : va_D A [(a8, .inl (cI, 320, .inl (upd (upd (upd (upd (upd (upd (upd No (y_41 : Int32).toNatClampNeg p2) (y_43 : Int32).toNatClampNeg p2) (y_45 : Int32).toNatClampNeg y_47) (y_49 : Int32).toNatClampNeg wh9_7) (y_51 : Int32).toNatClampNeg b5) (y_53 : Int32).toNatClampNeg 1) (y_55 : Int32).toNatClampNeg 0))), (h0, .inr (9, [.int th, .ref a1, .ref a2, .ref a3, .ref a4, .ref a5, .int ne, .int wi, .int dn, .ref a6, .ref a7, .int nn, .ref a8, .int la, .ref a9, .ref a10, .long up9_5, .long lw9_6, .int wh9_7, .long pu9_8, .long pw9_9, .ref a11])), (a1, .inl (cI, 16, .inl Fi)), (a2, .inl (cI, 16, .inl Ma)), (a4, .inl (cZ, 16, .inl Go)), (a5, .inl (cI, 576, .inl Sp))] := hD
                  have ix_6 : (y_55).toNatClampNeg = 8 * nn.toNatClampNeg + 6 := (by have n9 : (((y_55).toNatClampNeg : Nat) : Int) = (y_55).toInt := tc_I (by omega); omega)
                  refine lv_aload_n hx hb dX9_notice_237 rfl (lv_at hl 1 rfl) ?_
                  refine va_get (D := (dC, dI)) (ci := 9) (v := .ref a8) (C := RX9) (T := TX9) (N := 22) hx hb hts in_X9_noticeE_X9 hown hK hP 1 rfl rfl 12 (by decide) (hts (.fieldLink RX9 39 "MeetingsAboveModel" "noted" "[I") (by decide +kernel)) (fun _ h9 => h9) rfl dX9_notice_238 ?_
                  refine lv_bipush (v := 8) hx hb dX9_notice_241 (by decide) ?_
                  refine lv_iload hx hb dX9_notice_243 (lv_at hl 0 rfl) ?_
                  refine lv_imul hx hb dX9_notice_245 ?_
                  refine lv_topi (fun y_56 ey_56 => ?_)
                  have ty_56 : y_56.toInt = 8 * nn.toInt := by rw [ey_56]; exact fm_lI kl_8 (by omega) (by omega)
                  refine lv_bipush (v := 7) hx hb dX9_notice_246 (by decide) ?_
                  refine lv_iadd hx hb dX9_notice_248 ?_
                  refine lv_topi (fun y_57 ey_57 => ?_)
                  have ty_57 : y_57.toInt = y_56.toInt + 7 := by rw [ey_57]; have := fb_addI (x := y_56) (y := 7) (by omega) (by omega); omega
                  refine lv_iconst (v := 0) hx hb dX9_notice_249 (by decide) ?_
                  refine va_iast hx hb hK hP hD hS 0 0 rfl rfl (vp_in_iff.mpr ⟨by omega, by omega⟩) dX9_notice_250 (fun H locs hP hD hS => ?_)
                  have hP : va_P (dC, dI) vwCl [(a8, .inl (cI, 320, .inl (upd (upd (upd (upd (upd (upd (upd (upd No (y_41 : Int32).toNatClampNeg p2) (y_43 : Int32).toNatClampNeg p2) (y_45 : Int32).toNatClampNeg y_47) (y_49 : Int32).toNatClampNeg wh9_7) (y_51 : Int32).toNatClampNeg b5) (y_53 : Int32).toNatClampNeg 1) (y_55 : Int32).toNatClampNeg 0) (y_57 : Int32).toNatClampNeg 0))), (h0, .inr (9, [.int th, .ref a1, .ref a2, .ref a3, .ref a4, .ref a5, .int ne, .int wi, .int dn, .ref a6, .ref a7, .int nn, .ref a8, .int la, .ref a9, .ref a10, .long up9_5, .long lw9_6, .int wh9_7, .long pu9_8, .long pw9_9, .ref a11])), (a1, .inl (cI, 16, .inl Fi)), (a2, .inl (cI, 16, .inl Ma)), (a4, .inl (cZ, 16, .inl Go)), (a5, .inl (cI, 576, .inl Sp))] H := hP
                  have hD : va_D A [(a8, .inl (cI, 320, .inl (upd (upd (upd (upd (upd (upd (upd (upd No (y_41 : Int32).toNatClampNeg p2) (y_43 : Int32).toNatClampNeg p2) (y_45 : Int32).toNatClampNeg y_47) (y_49 : Int32).toNatClampNeg wh9_7) (y_51 : Int32).toNatClampNeg b5) (y_53 : Int32).toNatClampNeg 1) (y_55 : Int32).toNatClampNeg 0) (y_57 : Int32).toNatClampNeg 0))), (h0, .inr (9, [.int th, .ref a1, .ref a2, .ref a3, .ref a4, .ref a5, .int ne, .int wi, .int dn, .ref a6, .ref a7, .int nn, .ref a8, .int la, .ref a9, .ref a10, .long up9_5, .long lw9_6, .int wh9_7, .long pu9_8, .long pw9_9, .ref a11])), (a1, .inl (cI, 16, .inl Fi)), (a2, .inl (cI, 16, .inl Ma)), (a4, .inl (cZ, 16, .inl Go)), (a5, .inl (cI, 576, .inl Sp))] := hD
                  have ix_7 : (y_57).toNatClampNeg = 8 * nn.toNatClampNeg + 7 := (by have n9 : (((y_57).toNatClampNeg : Nat) : Int) = (y_57).toInt := tc_I (by omega); omega)
                  refine lv_iload hx hb dX9_notice_251 (lv_at hl 6 rfl) ?_
                  refine lv_if_lt (tgt := 269) hx hb dX9_notice_253 (by decide) (fun c_253 => ?_) (fun c_253 => ?_)
                  · have t_253 := (fa_lt _ _).mp c_253
                    refine lv_aload_n hx hb dX9_notice_269 rfl (lv_at hl 1 rfl) ?_
                    refine lv_dup hx hb dX9_notice_270 rfl ?_
                    refine va_get (D := (dC, dI)) (ci := 9) (v := .int nn) (C := RX9) (T := TX9) (N := 22) hx hb hts in_X9_noticeE_X9 hown hK hP 1 rfl rfl 11 (by decide) (hts (.fieldLink RX9 115 "MeetingsAboveModel" "notices" "I") (by decide +kernel)) (fun _ h9 => h9) rfl dX9_notice_271 ?_
                    refine lv_iconst (v := 1) hx hb dX9_notice_274 (by decide) ?_
                    refine lv_iadd hx hb dX9_notice_275 ?_
                    refine lv_topi (fun y_58 ey_58 => ?_)
                    have ty_58 : y_58.toInt = nn.toInt + 1 := by rw [ey_58]; have := fb_addI (x := nn) (y := 1) (by omega) (by omega); omega
                    refine va_put (D := (dC, dI)) (ci := 9) (v := .int y_58) (ty := .int) (C := RX9) (T := TX9) (N := 22) hx hb hts in_X9_noticeE_X9 tyX9 tyX9_ok nmX9 hown hK hP hD hS 1 rfl rfl 11 (by decide) (hts (.fieldLink RX9 115 "MeetingsAboveModel" "notices" "I") (by decide +kernel)) (fun _ h9 => h9) rfl (by decide +kernel) rfl rfl (Nat.le_of_ble_eq_true rfl) dX9_notice_276 (fun H locs hP hD hS => ?_)
                    have hP : va_P (dC, dI) vwCl [(a8, .inl (cI, 320, .inl (upd (upd (upd (upd (upd (upd (upd (upd No (y_41 : Int32).toNatClampNeg p2) (y_43 : Int32).toNatClampNeg p2) (y_45 : Int32).toNatClampNeg y_47) (y_49 : Int32).toNatClampNeg wh9_7) (y_51 : Int32).toNatClampNeg b5) (y_53 : Int32).toNatClampNeg 1) (y_55 : Int32).toNatClampNeg 0) (y_57 : Int32).toNatClampNeg 0))), (h0, .inr (9, [.int th, .ref a1, .ref a2, .ref a3, .ref a4, .ref a5, .int ne, .int wi, .int dn, .ref a6, .ref a7, .int y_58, .ref a8, .int la, .ref a9, .ref a10, .long up9_5, .long lw9_6, .int wh9_7, .long pu9_8, .long pw9_9, .ref a11])), (a1, .inl (cI, 16, .inl Fi)), (a2, .inl (cI, 16, .inl Ma)), (a4, .inl (cZ, 16, .inl Go)), (a5, .inl (cI, 576, .inl Sp))] H := hP
                    have hD : va_D A [(a8, .inl (cI, 320, .inl (upd (upd (upd (upd (upd (upd (upd (upd No (y_41 : Int32).toNatClampNeg p2) (y_43 : Int32).toNatClampNeg p2) (y_45 : Int32).toNatClampNeg y_47) (y_49 : Int32).toNatClampNeg wh9_7) (y_51 : Int32).toNatClampNeg b5) (y_53 : Int32).toNatClampNeg 1) (y_55 : Int32).toNatClampNeg 0) (y_57 : Int32).toNatClampNeg 0))), (h0, .inr (9, [.int th, .ref a1, .ref a2, .ref a3, .ref a4, .ref a5, .int ne, .int wi, .int dn, .ref a6, .ref a7, .int y_58, .ref a8, .int la, .ref a9, .ref a10, .long up9_5, .long lw9_6, .int wh9_7, .long pu9_8, .long pw9_9, .ref a11])), (a1, .inl (cI, 16, .inl Fi)), (a2, .inl (cI, 16, .inl Ma)), (a4, .inl (cZ, 16, .inl Go)), (a5, .inl (cI, 576, .inl Sp))] := hD
                    refine lv_iload hx hb dX9_notice_279 (lv_at hl 0 rfl) ?_
                    have hP9 := hP.sub (ws' := [(h0, .inr (9, [.int th, .ref a1, .ref a2, .ref a3, .ref a4, .ref a5, .int ne, .int wi, .int dn, .ref a6, .ref a7, .int y_58, .ref a8, .int la, .ref a9, .ref a10, .long up9_5, .long lw9_6, .int wh9_7, .long pu9_8, .long pw9_9, .ref a11])), (a1, .inl (cI, 16, .inl Fi)), (a2, .inl (cI, 16, .inl Ma)), (a4, .inl (cZ, 16, .inl Go)), (a5, .inl (cI, 576, .inl Sp)), (a8, .inl (cI, 320, .inl (upd (upd (upd (upd (upd (upd (upd (upd No (y_41 : Int32).toNatClampNeg p2) (y_43 : Int32).toNatClampNeg p2) (y_45 : Int32).toNatClampNeg y_47) (y_49 : Int32).toNatClampNeg wh9_7) (y_51 : Int32).toNatClampNeg b5) (y_53 : Int32).toNatClampNeg 1) (y_55 : Int32).toNatClampNeg 0) (y_57 : Int32).toNatClampNeg 0)))]) [1, 2, 3, 4, 5, 0] rfl
                    have hD9 := hD.sub (ws' := [(h0, .inr (9, [.int th, .ref a1, .ref a2, .ref a3, .ref a4, .ref a5, .int ne, .int wi, .int dn, .ref a6, .ref a7, .int y_58, .ref a8, .int la, .ref a9, .ref a10, .long up9_5, .long lw9_6, .int wh9_7, .long pu9_8, .long pw9_9, .ref a11])), (a1, .inl (cI, 16, .inl Fi)), (a2, .inl (cI, 16, .inl Ma)), (a4, .inl (cZ, 16, .inl Go)), (a5, .inl (cI, 576, .inl Sp)), (a8, .inl (cI, 320, .inl (upd (upd (upd (upd (upd (upd (upd (upd No (y_41 : Int32).toNatClampNeg p2) (y_43 : Int32).toNatClampNeg p2) (y_45 : Int32).toNatClampNeg y_47) (y_49 : Int32).toNatClampNeg wh9_7) (y_51 : Int32).toNatClampNeg b5) (y_53 : Int32).toNatClampNeg 1) (y_55 : Int32).toNatClampNeg 0) (y_57 : Int32).toNatClampNeg 0)))]) [1, 2, 3, 4, 5, 0] (by decide) rfl
                    have hK9 := hK.sub (tys' := [(cI, .int), (cZ, .boolean)]) [0, 1] rfl
                    refine W.widen (k := 0) (n := 0) (by omega) (by omega) ?_
                    exact W.iret (v := nn) hx hb hr (fun t ht hW => ⟨⟨_, (), rfl, (Or.inr (Or.inr (Or.inr ⟨⟨⟨by omega, by omega⟩, ⟨by omega, by omega⟩⟩, ⟨⟨⟨by omega, by omega⟩, ⟨by omega, by omega⟩⟩, (tv_1 hw_4 c_25).1, (tv_1 hw_4 c_25).2⟩, by omega, rfl⟩))), up9_5, lw9_6, wh9_7, pu9_8, pw9_9, y_58, (upd (upd (upd (upd (upd (upd (upd (upd No (y_41 : Int32).toNatClampNeg p2) (y_43 : Int32).toNatClampNeg p2) (y_45 : Int32).toNatClampNeg y_47) (y_49 : Int32).toNatClampNeg wh9_7) (y_51 : Int32).toNatClampNeg b5) (y_53 : Int32).toNatClampNeg 1) (y_55 : Int32).toNatClampNeg 0) (y_57 : Int32).toNatClampNeg 0), by rw [ht]; exact hP9, va_K.moved hW.alike hK9, hD9, (by omega), (by omega), (Or.inl ⟨⟨⟨⟨by omega, by omega⟩, ⟨by omega, by omega⟩⟩, (tv_1 hw_4 c_25).1, (tv_1 hw_4 c_25).2⟩, by omega, by omega, p2, p2, y_47, wh9_7, b5, by omega, by omega, hls9, sq_ms (hms_10 (tv_1 hw_4 c_25)) ⟨y_46, ey_47, by rw [ey_46]; exact ldiv_I hbd9.2 (by omega)⟩ rfl, by rw [ix_0, ix_1, ix_2, ix_3, ix_4, ix_5, ix_6, ix_7]; exact nw_n (by omega)⟩)⟩, hS.F ht⟩) hS.2.2 dX9_notice_281
                  · have t_253 := mt (fa_lt _ _).mpr c_253
                    refine lv_aload_n hx hb dX9_notice_256 rfl (lv_at hl 1 rfl) ?_
                    refine va_get (D := (dC, dI)) (ci := 9) (v := .ref a8) (C := RX9) (T := TX9) (N := 22) hx hb hts in_X9_noticeE_X9 hown hK hP 1 rfl rfl 12 (by decide) (hts (.fieldLink RX9 39 "MeetingsAboveModel" "noted" "[I") (by decide +kernel)) (fun _ h9 => h9) rfl dX9_notice_257 ?_
                    refine lv_bipush (v := 8) hx hb dX9_notice_260 (by decide) ?_
                    refine lv_iload hx hb dX9_notice_262 (lv_at hl 6 rfl) ?_
                    refine lv_imul hx hb dX9_notice_264 ?_
                    refine lv_topi (fun y_59 ey_59 => ?_)
                    have ty_59 : y_59.toInt = 8 * b5.toInt := by rw [ey_59]; exact fm_lI kl_8 (by omega) (by omega)
                    refine lv_iconst (v := 5) hx hb dX9_notice_265 (by decide) ?_
                    refine lv_iadd hx hb dX9_notice_266 ?_
                    refine lv_topi (fun y_60 ey_60 => ?_)
                    have ty_60 : y_60.toInt = y_59.toInt + 5 := by rw [ey_60]; have := fb_addI (x := y_59) (y := 5) (by omega) (by omega); omega
                    refine lv_iconst (v := 0) hx hb dX9_notice_267 (by decide) ?_
                    have ix_9 : (y_60).toNatClampNeg = 8 * b5.toNatClampNeg + 5 := (by have n9 : (((y_60).toNatClampNeg : Nat) : Int) = (y_60).toInt := tc_I (by omega); have n8 : ((b5.toNatClampNeg : Nat) : Int) = b5.toInt := tc_I (by omega); omega)
                    refine va_iast hx hb hK hP hD hS 0 0 rfl rfl (vp_in_iff.mpr ⟨by omega, by omega⟩) dX9_notice_268 (fun H locs hP hD hS => ?_)
                    have hP : va_P (dC, dI) vwCl [(a8, .inl (cI, 320, .inl (upd (upd (upd (upd (upd (upd (upd (upd (upd No (y_41 : Int32).toNatClampNeg p2) (y_43 : Int32).toNatClampNeg p2) (y_45 : Int32).toNatClampNeg y_47) (y_49 : Int32).toNatClampNeg wh9_7) (y_51 : Int32).toNatClampNeg b5) (y_53 : Int32).toNatClampNeg 1) (y_55 : Int32).toNatClampNeg 0) (y_57 : Int32).toNatClampNeg 0) (y_60 : Int32).toNatClampNeg 0))), (h0, .inr (9, [.int th, .ref a1, .ref a2, .ref a3, .ref a4, .ref a5, .int ne, .int wi, .int dn, .ref a6, .ref a7, .int nn, .ref a8, .int la, .ref a9, .ref a10, .long up9_5, .long lw9_6, .int wh9_7, .long pu9_8, .long pw9_9, .ref a11])), (a1, .inl (cI, 16, .inl Fi)), (a2, .inl (cI, 16, .inl Ma)), (a4, .inl (cZ, 16, .inl Go)), (a5, .inl (cI, 576, .inl Sp))] H := hP
                    have hD : va_D A [(a8, .inl (cI, 320, .inl (upd (upd (upd (upd (upd (upd (upd (upd (upd No (y_41 : Int32).toNatClampNeg p2) (y_43 : Int32).toNatClampNeg p2) (y_45 : Int32).toNatClampNeg y_47) (y_49 : Int32).toNatClampNeg wh9_7) (y_51 : Int32).toNatClampNeg b5) (y_53 : Int32).toNatClampNeg 1) (y_55 : Int32).toNatClampNeg 0) (y_57 : Int32).toNatClampNeg 0) (y_60 : Int32).toNatClampNeg 0))), (h0, .inr (9, [.int th, .ref a1, .ref a2, .ref a3, .ref a4, .ref a5, .int ne, .int wi, .int dn, .ref a6, .ref a7, .int nn, .ref a8, .int la, .ref a9, .ref a10, .long up9_5, .long lw9_6, .int wh9_7, .long pu9_8, .long pw9_9, .ref a11])), (a1, .inl (cI, 16, .inl Fi)), (a2, .inl (cI, 16, .inl Ma)), (a4, .inl (cZ, 16, .inl Go)), (a5, .inl (cI, 576, .inl Sp))] := hD
                    refine lv_aload_n hx hb dX9_notice_269 rfl (lv_at hl 1 rfl) ?_
                    refine lv_dup hx hb dX9_notice_270 rfl ?_
                    refine va_get (D := (dC, dI)) (ci := 9) (v := .int nn) (C := RX9) (T := TX9) (N := 22) hx hb hts in_X9_noticeE_X9 hown hK hP 1 rfl rfl 11 (by decide) (hts (.fieldLink RX9 115 "MeetingsAboveModel" "notices" "I") (by decide +kernel)) (fun _ h9 => h9) rfl dX9_notice_271 ?_
                    refine lv_iconst (v := 1) hx hb dX9_notice_274 (by decide) ?_
                    refine lv_iadd hx hb dX9_notice_275 ?_
                    refine lv_topi (fun y_61 ey_61 => ?_)
                    have ty_61 : y_61.toInt = nn.toInt + 1 := by rw [ey_61]; have := fb_addI (x := nn) (y := 1) (by omega) (by omega); omega
                    refine va_put (D := (dC, dI)) (ci := 9) (v := .int y_61) (ty := .int) (C := RX9) (T := TX9) (N := 22) hx hb hts in_X9_noticeE_X9 tyX9 tyX9_ok nmX9 hown hK hP hD hS 1 rfl rfl 11 (by decide) (hts (.fieldLink RX9 115 "MeetingsAboveModel" "notices" "I") (by decide +kernel)) (fun _ h9 => h9) rfl (by decide +kernel) rfl rfl (Nat.le_of_ble_eq_true rfl) dX9_notice_276 (fun H locs hP hD hS => ?_)
                    have hP : va_P (dC, dI) vwCl [(a8, .inl (cI, 320, .inl (upd (upd (upd (upd (upd (upd (upd (upd (upd No (y_41 : Int32).toNatClampNeg p2) (y_43 : Int32).toNatClampNeg p2) (y_45 : Int32).toNatClampNeg y_47) (y_49 : Int32).toNatClampNeg wh9_7) (y_51 : Int32).toNatClampNeg b5) (y_53 : Int32).toNatClampNeg 1) (y_55 : Int32).toNatClampNeg 0) (y_57 : Int32).toNatClampNeg 0) (y_60 : Int32).toNatClampNeg 0))), (h0, .inr (9, [.int th, .ref a1, .ref a2, .ref a3, .ref a4, .ref a5, .int ne, .int wi, .int dn, .ref a6, .ref a7, .int y_61, .ref a8, .int la, .ref a9, .ref a10, .long up9_5, .long lw9_6, .int wh9_7, .long pu9_8, .long pw9_9, .ref a11])), (a1, .inl (cI, 16, .inl Fi)), (a2, .inl (cI, 16, .inl Ma)), (a4, .inl (cZ, 16, .inl Go)), (a5, .inl (cI, 576, .inl Sp))] H := hP
                    have hD : va_D A [(a8, .inl (cI, 320, .inl (upd (upd (upd (upd (upd (upd (upd (upd (upd No (y_41 : Int32).toNatClampNeg p2) (y_43 : Int32).toNatClampNeg p2) (y_45 : Int32).toNatClampNeg y_47) (y_49 : Int32).toNatClampNeg wh9_7) (y_51 : Int32).toNatClampNeg b5) (y_53 : Int32).toNatClampNeg 1) (y_55 : Int32).toNatClampNeg 0) (y_57 : Int32).toNatClampNeg 0) (y_60 : Int32).toNatClampNeg 0))), (h0, .inr (9, [.int th, .ref a1, .ref a2, .ref a3, .ref a4, .ref a5, .int ne, .int wi, .int dn, .ref a6, .ref a7, .int y_61, .ref a8, .int la, .ref a9, .ref a10, .long up9_5, .long lw9_6, .int wh9_7, .long pu9_8, .long pw9_9, .ref a11])), (a1, .inl (cI, 16, .inl Fi)), (a2, .inl (cI, 16, .inl Ma)), (a4, .inl (cZ, 16, .inl Go)), (a5, .inl (cI, 576, .inl Sp))] := hD
                    refine lv_iload hx hb dX9_notice_279 (lv_at hl 0 rfl) ?_
                    have hP9 := hP.sub (ws' := [(h0, .inr (9, [.int th, .ref a1, .ref a2, .ref a3, .ref a4, .ref a5, .int ne, .int wi, .int dn, .ref a6, .ref a7, .int y_61, .ref a8, .int la, .ref a9, .ref a10, .long up9_5, .long lw9_6, .int wh9_7, .long pu9_8, .long pw9_9, .ref a11])), (a1, .inl (cI, 16, .inl Fi)), (a2, .inl (cI, 16, .inl Ma)), (a4, .inl (cZ, 16, .inl Go)), (a5, .inl (cI, 576, .inl Sp)), (a8, .inl (cI, 320, .inl (upd (upd (upd (upd (upd (upd (upd (upd (upd No (y_41 : Int32).toNatClampNeg p2) (y_43 : Int32).toNatClampNeg p2) (y_45 : Int32).toNatClampNeg y_47) (y_49 : Int32).toNatClampNeg wh9_7) (y_51 : Int32).toNatClampNeg b5) (y_53 : Int32).toNatClampNeg 1) (y_55 : Int32).toNatClampNeg 0) (y_57 : Int32).toNatClampNeg 0) (y_60 : Int32).toNatClampNeg 0)))]) [1, 2, 3, 4, 5, 0] rfl
                    have hD9 := hD.sub (ws' := [(h0, .inr (9, [.int th, .ref a1, .ref a2, .ref a3, .ref a4, .ref a5, .int ne, .int wi, .int dn, .ref a6, .ref a7, .int y_61, .ref a8, .int la, .ref a9, .ref a10, .long up9_5, .long lw9_6, .int wh9_7, .long pu9_8, .long pw9_9, .ref a11])), (a1, .inl (cI, 16, .inl Fi)), (a2, .inl (cI, 16, .inl Ma)), (a4, .inl (cZ, 16, .inl Go)), (a5, .inl (cI, 576, .inl Sp)), (a8, .inl (cI, 320, .inl (upd (upd (upd (upd (upd (upd (upd (upd (upd No (y_41 : Int32).toNatClampNeg p2) (y_43 : Int32).toNatClampNeg p2) (y_45 : Int32).toNatClampNeg y_47) (y_49 : Int32).toNatClampNeg wh9_7) (y_51 : Int32).toNatClampNeg b5) (y_53 : Int32).toNatClampNeg 1) (y_55 : Int32).toNatClampNeg 0) (y_57 : Int32).toNatClampNeg 0) (y_60 : Int32).toNatClampNeg 0)))]) [1, 2, 3, 4, 5, 0] (by decide) rfl
                    have hK9 := hK.sub (tys' := [(cI, .int), (cZ, .boolean)]) [0, 1] rfl
                    refine W.widen (k := 0) (n := 0) (by omega) (by omega) ?_
                    exact W.iret (v := nn) hx hb hr (fun t ht hW => ⟨⟨_, (), rfl, (Or.inr (Or.inr (Or.inr ⟨⟨⟨by omega, by omega⟩, ⟨by omega, by omega⟩⟩, ⟨⟨⟨by omega, by omega⟩, ⟨by omega, by omega⟩⟩, (tv_1 hw_4 c_25).1, (tv_1 hw_4 c_25).2⟩, by omega, rfl⟩))), up9_5, lw9_6, wh9_7, pu9_8, pw9_9, y_61, (upd (upd (upd (upd (upd (upd (upd (upd (upd No (y_41 : Int32).toNatClampNeg p2) (y_43 : Int32).toNatClampNeg p2) (y_45 : Int32).toNatClampNeg y_47) (y_49 : Int32).toNatClampNeg wh9_7) (y_51 : Int32).toNatClampNeg b5) (y_53 : Int32).toNatClampNeg 1) (y_55 : Int32).toNatClampNeg 0) (y_57 : Int32).toNatClampNeg 0) (y_60 : Int32).toNatClampNeg 0), by rw [ht]; exact hP9, va_K.moved hW.alike hK9, hD9, (by omega), (by omega), (Or.inl ⟨⟨⟨⟨by omega, by omega⟩, ⟨by omega, by omega⟩⟩, (tv_1 hw_4 c_25).1, (tv_1 hw_4 c_25).2⟩, by omega, by omega, p2, p2, y_47, wh9_7, b5, by omega, by omega, hls9, sq_ms (hms_10 (tv_1 hw_4 c_25)) ⟨y_46, ey_47, by rw [ey_46]; exact ldiv_I hbd9.2 (by omega)⟩ rfl, by rw [ix_0, ix_1, ix_2, ix_3, ix_4, ix_5, ix_6, ix_7, ix_9]; exact nw_y (by omega)⟩)⟩, hS.F ht⟩) hS.2.2 dX9_notice_281
                · have t_78 := mt (fa_le _ _).mpr c_78
                  refine lv_aload_n hx hb dX9_notice_81 rfl (lv_at hl 0 rfl) ?_
                  refine va_get (D := (dC, dI)) (ci := 9) (v := .ref a8) (C := RX9) (T := TX9) (N := 22) hx hb hts in_X9_noticeE_X9 hown hK hP 1 rfl rfl 12 (by decide) (hts (.fieldLink RX9 39 "MeetingsAboveModel" "noted" "[I") (by decide +kernel)) (fun _ h9 => h9) rfl dX9_notice_82 ?_
                  refine lv_bipush (v := 8) hx hb dX9_notice_85 (by decide) ?_
                  refine lv_iload hx hb dX9_notice_87 (lv_at hl 6 rfl) ?_
                  refine lv_imul hx hb dX9_notice_89 ?_
                  refine lv_topi (fun y_62 ey_62 => ?_)
                  have ty_62 : y_62.toInt = 8 * k6.toInt := by rw [ey_62]; exact fm_lI kl_8 (by omega) (by omega)
                  refine va_iald hx hb hK hP 0 0 rfl rfl (vp_in_iff.mpr ⟨by omega, by omega⟩) dX9_notice_90 ?_
                  refine lv_topi (fun y_63 ey_63 => ?_)
                  have ny_63 : (((y_62 : Int32).toNatClampNeg : Nat) : Int) = (y_62 : Int32).toInt := tc_I (by omega)
                  have uy_63 : y_63.toInt = (No (8 * k6.toInt.toNat)).toInt := by rw [ey_63, show (y_62 : Int32).toNatClampNeg = 8 * k6.toInt.toNat by omega]
                  refine lv_iload_n hx hb dX9_notice_91 rfl (lv_at hl 3 rfl) ?_
                  refine lv_icmp_ne (tgt := 117) hx hb dX9_notice_92 (by decide) (fun c_92 => ?_) (fun c_92 => ?_)
                  · have t_92 := mt (fa_eq _ _).mpr c_92
                    refine lv_iload hx hb dX9_notice_117 (lv_at hl 5 rfl) ?_
                    have hls8 : lsP (mNV No) (k6.toInt.toNat + 1) (p2).toInt (p2).toInt b5.toInt := ls_n (fun z9 => by have z1 : (No (8 * k6.toInt.toNat)).toInt = (p2).toInt := z9.1; have z2 : (No (8 * k6.toInt.toNat + 1)).toInt = (p2).toInt := z9.2; omega) hls
                    refine lv_istore (lv' := [(5, .int b5), (0, .ref h0), (1, .int p1), (2, .int p2), (3, .int p2), (4, .int p2), (6, .int k6)]) hx hb dX9_notice_119 hl (by decide) rfl (fun ls hl => ?_)
                    obtain ⟨y_64, ey_64⟩ : ∃ y : Int32, y = k6 + 1 := ⟨_, rfl⟩
                    have ty_64 : y_64.toInt = k6.toInt + 1 := by rw [ey_64]; have := fb_addI (x := k6) (y := 1) (by omega) (by omega); omega
                    refine lv_iinc (v := y_64) (lv' := [(6, .int y_64), (5, .int b5), (0, .ref h0), (1, .int p1), (2, .int p2), (3, .int p2), (4, .int p2)]) hx hb dX9_notice_121 hl (k := 6) rfl (by rw [ey_64]; rfl) (by decide) rfl (fun ls hl => ?_)
                    refine lv_goto (tgt := 72) hx hb dX9_notice_124 (by decide) ?_
                    exact ih_72 b5 y_64 (by omega) (by omega) (by rw [show (y_64).toInt.toNat = k6.toInt.toNat + 1 by omega]; exact hls8) (by omega) H _ (hP.sub [0, 1, 2, 3, 4, 5] rfl) (hD.sub [0, 1, 2, 3, 4, 5] (by decide) rfl) hS ls (lv_sub hl [2, 3, 4, 5, 6, 1, 0] rfl)
                  · have t_92 := (fa_eq _ _).mp c_92
                    refine lv_aload_n hx hb dX9_notice_95 rfl (lv_at hl 0 rfl) ?_
                    refine va_get (D := (dC, dI)) (ci := 9) (v := .ref a8) (C := RX9) (T := TX9) (N := 22) hx hb hts in_X9_noticeE_X9 hown hK hP 1 rfl rfl 12 (by decide) (hts (.fieldLink RX9 39 "MeetingsAboveModel" "noted" "[I") (by decide +kernel)) (fun _ h9 => h9) rfl dX9_notice_96 ?_
                    refine lv_bipush (v := 8) hx hb dX9_notice_99 (by decide) ?_
                    refine lv_iload hx hb dX9_notice_101 (lv_at hl 6 rfl) ?_
                    refine lv_imul hx hb dX9_notice_103 ?_
                    refine lv_topi (fun y_65 ey_65 => ?_)
                    have ty_65 : y_65.toInt = 8 * k6.toInt := by rw [ey_65]; exact fm_lI kl_8 (by omega) (by omega)
                    refine lv_iconst (v := 1) hx hb dX9_notice_104 (by decide) ?_
                    refine lv_iadd hx hb dX9_notice_105 ?_
                    refine lv_topi (fun y_66 ey_66 => ?_)
                    have ty_66 : y_66.toInt = y_65.toInt + 1 := by rw [ey_66]; have := fb_addI (x := y_65) (y := 1) (by omega) (by omega); omega
                    refine va_iald hx hb hK hP 0 0 rfl rfl (vp_in_iff.mpr ⟨by omega, by omega⟩) dX9_notice_106 ?_
                    refine lv_topi (fun y_67 ey_67 => ?_)
                    have ny_67 : (((y_66 : Int32).toNatClampNeg : Nat) : Int) = (y_66 : Int32).toInt := tc_I (by omega)
                    have uy_67 : y_67.toInt = (No (8 * k6.toInt.toNat + 1)).toInt := by rw [ey_67, show (y_66 : Int32).toNatClampNeg = 8 * k6.toInt.toNat + 1 by omega]
                    refine lv_iload hx hb dX9_notice_107 (lv_at hl 4 rfl) ?_
                    refine lv_icmp_ne (tgt := 117) hx hb dX9_notice_109 (by decide) (fun c_109 => ?_) (fun c_109 => ?_)
                    · have t_109 := mt (fa_eq _ _).mpr c_109
                      refine lv_iload hx hb dX9_notice_117 (lv_at hl 5 rfl) ?_
                      have hls8 : lsP (mNV No) (k6.toInt.toNat + 1) (p2).toInt (p2).toInt b5.toInt := ls_n (fun z9 => by have z1 : (No (8 * k6.toInt.toNat)).toInt = (p2).toInt := z9.1; have z2 : (No (8 * k6.toInt.toNat + 1)).toInt = (p2).toInt := z9.2; omega) hls
                      refine lv_istore (lv' := [(5, .int b5), (0, .ref h0), (1, .int p1), (2, .int p2), (3, .int p2), (4, .int p2), (6, .int k6)]) hx hb dX9_notice_119 hl (by decide) rfl (fun ls hl => ?_)
                      obtain ⟨y_68, ey_68⟩ : ∃ y : Int32, y = k6 + 1 := ⟨_, rfl⟩
                      have ty_68 : y_68.toInt = k6.toInt + 1 := by rw [ey_68]; have := fb_addI (x := k6) (y := 1) (by omega) (by omega); omega
                      refine lv_iinc (v := y_68) (lv' := [(6, .int y_68), (5, .int b5), (0, .ref h0), (1, .int p1), (2, .int p2), (3, .int p2), (4, .int p2)]) hx hb dX9_notice_121 hl (k := 6) rfl (by rw [ey_68]; rfl) (by decide) rfl (fun ls hl => ?_)
                      refine lv_goto (tgt := 72) hx hb dX9_notice_124 (by decide) ?_
                      exact ih_72 b5 y_68 (by omega) (by omega) (by rw [show (y_68).toInt.toNat = k6.toInt.toNat + 1 by omega]; exact hls8) (by omega) H _ (hP.sub [0, 1, 2, 3, 4, 5] rfl) (hD.sub [0, 1, 2, 3, 4, 5] (by decide) rfl) hS ls (lv_sub hl [2, 3, 4, 5, 6, 1, 0] rfl)
                    · have t_109 := (fa_eq _ _).mp c_109
                      refine lv_iload hx hb dX9_notice_112 (lv_at hl 6 rfl) ?_
                      refine lv_goto (tgt := 119) hx hb dX9_notice_114 (by decide) ?_
                      have hls8 : lsP (mNV No) (k6.toInt.toNat + 1) (p2).toInt (p2).toInt k6.toInt := by rw [show k6.toInt = ((k6.toInt.toNat : Nat) : Int) by omega]; exact ls_y ⟨(by omega : (No (8 * k6.toInt.toNat)).toInt = (p2).toInt), (by omega : (No (8 * k6.toInt.toNat + 1)).toInt = (p2).toInt)⟩
                      refine lv_istore (lv' := [(5, .int k6), (0, .ref h0), (1, .int p1), (2, .int p2), (3, .int p2), (4, .int p2), (6, .int k6)]) hx hb dX9_notice_119 hl (by decide) rfl (fun ls hl => ?_)
                      obtain ⟨y_69, ey_69⟩ : ∃ y : Int32, y = k6 + 1 := ⟨_, rfl⟩
                      have ty_69 : y_69.toInt = k6.toInt + 1 := by rw [ey_69]; have := fb_addI (x := k6) (y := 1) (by omega) (by omega); omega
                      refine lv_iinc (v := y_69) (lv' := [(6, .int y_69), (5, .int k6), (0, .ref h0), (1, .int p1), (2, .int p2), (3, .int p2), (4, .int p2)]) hx hb dX9_notice_121 hl (k := 6) rfl (by rw [ey_69]; rfl) (by decide) rfl (fun ls hl => ?_)
                      refine lv_goto (tgt := 72) hx hb dX9_notice_124 (by decide) ?_
                      exact ih_72 k6 y_69 (by omega) (by omega) (by rw [show (y_69).toInt.toNat = k6.toInt.toNat + 1 by omega]; exact hls8) (by omega) H _ (hP.sub [0, 1, 2, 3, 4, 5] rfl) (hD.sub [0, 1, 2, 3, 4, 5] (by decide) rfl) hS ls (lv_sub hl [2, 3, 4, 5, 6, 1, 0] rfl)
          · have t_45 := mt (fa_le _ _).mpr c_45
            refine lv_iload_n hx hb dX9_notice_48 rfl (lv_at hl 1 rfl) ?_
            refine lv_goto (tgt := 53) hx hb dX9_notice_49 (by decide) ?_
            refine lv_istore_n (lv' := [(3, .int p1), (0, .ref h0), (1, .int p1), (2, .int p2)]) hx hb dX9_notice_53 rfl hl (by decide) rfl (fun ls hl => ?_)
            refine lv_iload_n hx hb dX9_notice_54 rfl (lv_at hl 2 rfl) ?_
            refine lv_iload_n hx hb dX9_notice_55 rfl (lv_at hl 3 rfl) ?_
            refine lv_icmp_ge (tgt := 63) hx hb dX9_notice_56 (by decide) (fun c_56 => ?_) (fun c_56 => ?_)
            · have t_56 := (fa_le _ _).mp c_56
              refine lv_iload_n hx hb dX9_notice_63 rfl (lv_at hl 2 rfl) ?_
              refine lv_istore (lv' := [(4, .int p1), (3, .int p1), (0, .ref h0), (1, .int p1), (2, .int p2)]) hx hb dX9_notice_64 hl (by decide) rfl (fun ls hl => ?_)
              refine lv_iconst (v := (-1)) hx hb dX9_notice_66 (by decide) ?_
              refine lv_istore (lv' := [(5, .int (-1)), (4, .int p1), (3, .int p1), (0, .ref h0), (1, .int p1), (2, .int p2)]) hx hb dX9_notice_67 hl (by decide) rfl (fun ls hl => ?_)
              refine lv_iconst (v := 0) hx hb dX9_notice_69 (by decide) ?_
              refine lv_istore (lv' := [(6, .int 0), (5, .int (-1)), (4, .int p1), (3, .int p1), (0, .ref h0), (1, .int p1), (2, .int p2)]) hx hb dX9_notice_70 hl (by decide) rfl (fun ls hl => ?_)
              refine (show ∀ (k : Nat) (b5 : Int32) (k6 : Int32) (hk0 : 0 ≤ k6.toInt) (hk1 : k6.toInt ≤ nn.toInt) (hls : lsP (mNV No) k6.toInt.toNat (p1).toInt (p1).toInt b5.toInt) (hk_72 : (nn.toInt - k6.toInt).toNat < k) (H : Heap) (locs : List Loc) (hP : va_P (dC, dI) vwCl [(a8, .inl (cI, 320, .inl No)), (h0, .inr (9, [.int th, .ref a1, .ref a2, .ref a3, .ref a4, .ref a5, .int ne, .int wi, .int dn, .ref a6, .ref a7, .int nn, .ref a8, .int la, .ref a9, .ref a10, .long up9_5, .long lw9_6, .int wh9_7, .long pu9_8, .long pw9_9, .ref a11])), (a1, .inl (cI, 16, .inl Fi)), (a2, .inl (cI, 16, .inl Ma)), (a4, .inl (cZ, 16, .inl Go)), (a5, .inl (cI, 576, .inl Sp))] H) (hD : va_D A [(a8, .inl (cI, 320, .inl No)), (h0, .inr (9, [.int th, .ref a1, .ref a2, .ref a3, .ref a4, .ref a5, .int ne, .int wi, .int dn, .ref a6, .ref a7, .int nn, .ref a8, .int la, .ref a9, .ref a10, .long up9_5, .long lw9_6, .int wh9_7, .long pu9_8, .long pw9_9, .ref a11])), (a1, .inl (cI, 16, .inl Fi)), (a2, .inl (cI, 16, .inl Ma)), (a4, .inl (cZ, 16, .inl Go)), (a5, .inl (cI, 576, .inl Sp))]) (hS : va_S A s.heap H locs) (ls : Array Slot) (hl : lv_has ls 7 [(0, .ref h0), (1, .int p1), (2, .int p2), (3, .int p1), (4, .int p1), (5, .int b5), (6, .int k6)]), W p l e _ s m _ below meth c H locs 0 0 _ (F0 m 72 ls []) from ?_) _ (-1) 0 (by omega) (by omega) (by rw [show (0 : Int32).toInt.toNat = 0 by omega]; exact ls_0 _ _ _) (Nat.lt_succ_self _) H _ hP hD hS ls (lv_sub hl [4, 5, 6, 3, 2, 1, 0] rfl)
              intro k
              induction k with
              | zero => intro b5 k6 hk0 hk1 hls hk_72; exact absurd hk_72 (Nat.not_lt_zero _)
              | succ k ih_72 =>
                intro b5 k6 hk0 hk1 hls hk_72 H locs hP hD hS ls hl
                refine lv_iload hx hb dX9_notice_72 (lv_at hl 6 rfl) ?_
                refine lv_aload_n hx hb dX9_notice_74 rfl (lv_at hl 0 rfl) ?_
                refine va_get (D := (dC, dI)) (ci := 9) (v := .int nn) (C := RX9) (T := TX9) (N := 22) hx hb hts in_X9_noticeE_X9 hown hK hP 1 rfl rfl 11 (by decide) (hts (.fieldLink RX9 115 "MeetingsAboveModel" "notices" "I") (by decide +kernel)) (fun _ h9 => h9) rfl dX9_notice_75 ?_
                refine lv_icmp_ge (tgt := 127) hx hb dX9_notice_78 (by decide) (fun c_78 => ?_) (fun c_78 => ?_)
                · have t_78 := (fa_le _ _).mp c_78
                  have hls9 : lsP (mNV No) nn.toNatClampNeg (p1).toInt (p1).toInt b5.toInt := by rw [show nn.toNatClampNeg = k6.toInt.toNat by omega]; exact hls
                  have rg9 := ls_rg hls9
                  refine lv_aload_n hx hb dX9_notice_127 rfl (lv_at hl 0 rfl) ?_
                  refine va_get (D := (dC, dI)) (ci := 9) (v := .int nn) (C := RX9) (T := TX9) (N := 22) hx hb hts in_X9_noticeE_X9 hown hK hP 1 rfl rfl 11 (by decide) (hts (.fieldLink RX9 115 "MeetingsAboveModel" "notices" "I") (by decide +kernel)) (fun _ h9 => h9) rfl dX9_notice_128 ?_
                  refine lv_istore (lv' := [(6, .int nn), (0, .ref h0), (1, .int p1), (2, .int p2), (3, .int p1), (4, .int p1), (5, .int b5)]) hx hb dX9_notice_131 hl (by decide) rfl (fun ls hl => ?_)
                  refine lv_aload_n hx hb dX9_notice_133 rfl (lv_at hl 1 rfl) ?_
                  refine va_get (D := (dC, dI)) (ci := 9) (v := .ref a8) (C := RX9) (T := TX9) (N := 22) hx hb hts in_X9_noticeE_X9 hown hK hP 1 rfl rfl 12 (by decide) (hts (.fieldLink RX9 39 "MeetingsAboveModel" "noted" "[I") (by decide +kernel)) (fun _ h9 => h9) rfl dX9_notice_134 ?_
                  refine lv_bipush (v := 8) hx hb dX9_notice_137 (by decide) ?_
                  refine lv_iload hx hb dX9_notice_139 (lv_at hl 0 rfl) ?_
                  refine lv_imul hx hb dX9_notice_141 ?_
                  refine lv_topi (fun y_70 ey_70 => ?_)
                  have ty_70 : y_70.toInt = 8 * nn.toInt := by rw [ey_70]; exact fm_lI kl_8 (by omega) (by omega)
                  refine lv_iload_n hx hb dX9_notice_142 rfl (lv_at hl 4 rfl) ?_
                  refine va_iast hx hb hK hP hD hS 0 0 rfl rfl (vp_in_iff.mpr ⟨by omega, by omega⟩) dX9_notice_143 (fun H locs hP hD hS => ?_)
                  have hP : va_P (dC, dI) vwCl [(a8, .inl (cI, 320, .inl (upd No (y_70 : Int32).toNatClampNeg p1))), (h0, .inr (9, [.int th, .ref a1, .ref a2, .ref a3, .ref a4, .ref a5, .int ne, .int wi, .int dn, .ref a6, .ref a7, .int nn, .ref a8, .int la, .ref a9, .ref a10, .long up9_5, .long lw9_6, .int wh9_7, .long pu9_8, .long pw9_9, .ref a11])), (a1, .inl (cI, 16, .inl Fi)), (a2, .inl (cI, 16, .inl Ma)), (a4, .inl (cZ, 16, .inl Go)), (a5, .inl (cI, 576, .inl Sp))] H := hP
                  have hD : va_D A [(a8, .inl (cI, 320, .inl (upd No (y_70 : Int32).toNatClampNeg p1))), (h0, .inr (9, [.int th, .ref a1, .ref a2, .ref a3, .ref a4, .ref a5, .int ne, .int wi, .int dn, .ref a6, .ref a7, .int nn, .ref a8, .int la, .ref a9, .ref a10, .long up9_5, .long lw9_6, .int wh9_7, .long pu9_8, .long pw9_9, .ref a11])), (a1, .inl (cI, 16, .inl Fi)), (a2, .inl (cI, 16, .inl Ma)), (a4, .inl (cZ, 16, .inl Go)), (a5, .inl (cI, 576, .inl Sp))] := hD
                  have ix_0 : (y_70).toNatClampNeg = 8 * nn.toNatClampNeg := (by have n9 : (((y_70).toNatClampNeg : Nat) : Int) = (y_70).toInt := tc_I (by omega); omega)
                  refine lv_aload_n hx hb dX9_notice_144 rfl (lv_at hl 1 rfl) ?_
                  refine va_get (D := (dC, dI)) (ci := 9) (v := .ref a8) (C := RX9) (T := TX9) (N := 22) hx hb hts in_X9_noticeE_X9 hown hK hP 1 rfl rfl 12 (by decide) (hts (.fieldLink RX9 39 "MeetingsAboveModel" "noted" "[I") (by decide +kernel)) (fun _ h9 => h9) rfl dX9_notice_145 ?_
                  refine lv_bipush (v := 8) hx hb dX9_notice_148 (by decide) ?_
                  refine lv_iload hx hb dX9_notice_150 (lv_at hl 0 rfl) ?_
                  refine lv_imul hx hb dX9_notice_152 ?_
                  refine lv_topi (fun y_71 ey_71 => ?_)
                  have ty_71 : y_71.toInt = 8 * nn.toInt := by rw [ey_71]; exact fm_lI kl_8 (by omega) (by omega)
                  refine lv_iconst (v := 1) hx hb dX9_notice_153 (by decide) ?_
                  refine lv_iadd hx hb dX9_notice_154 ?_
                  refine lv_topi (fun y_72 ey_72 => ?_)
                  have ty_72 : y_72.toInt = y_71.toInt + 1 := by rw [ey_72]; have := fb_addI (x := y_71) (y := 1) (by omega) (by omega); omega
                  refine lv_iload hx hb dX9_notice_155 (lv_at hl 5 rfl) ?_
                  refine va_iast hx hb hK hP hD hS 0 0 rfl rfl (vp_in_iff.mpr ⟨by omega, by omega⟩) dX9_notice_157 (fun H locs hP hD hS => ?_)
                  have hP : va_P (dC, dI) vwCl [(a8, .inl (cI, 320, .inl (upd (upd No (y_70 : Int32).toNatClampNeg p1) (y_72 : Int32).toNatClampNeg p1))), (h0, .inr (9, [.int th, .ref a1, .ref a2, .ref a3, .ref a4, .ref a5, .int ne, .int wi, .int dn, .ref a6, .ref a7, .int nn, .ref a8, .int la, .ref a9, .ref a10, .long up9_5, .long lw9_6, .int wh9_7, .long pu9_8, .long pw9_9, .ref a11])), (a1, .inl (cI, 16, .inl Fi)), (a2, .inl (cI, 16, .inl Ma)), (a4, .inl (cZ, 16, .inl Go)), (a5, .inl (cI, 576, .inl Sp))] H := hP
                  have hD : va_D A [(a8, .inl (cI, 320, .inl (upd (upd No (y_70 : Int32).toNatClampNeg p1) (y_72 : Int32).toNatClampNeg p1))), (h0, .inr (9, [.int th, .ref a1, .ref a2, .ref a3, .ref a4, .ref a5, .int ne, .int wi, .int dn, .ref a6, .ref a7, .int nn, .ref a8, .int la, .ref a9, .ref a10, .long up9_5, .long lw9_6, .int wh9_7, .long pu9_8, .long pw9_9, .ref a11])), (a1, .inl (cI, 16, .inl Fi)), (a2, .inl (cI, 16, .inl Ma)), (a4, .inl (cZ, 16, .inl Go)), (a5, .inl (cI, 576, .inl Sp))] := hD
                  have ix_1 : (y_72).toNatClampNeg = 8 * nn.toNatClampNeg + 1 := (by have n9 : (((y_72).toNatClampNeg : Nat) : Int) = (y_72).toInt := tc_I (by omega); omega)
                  refine lv_aload_n hx hb dX9_notice_158 rfl (lv_at hl 1 rfl) ?_
                  refine va_get (D := (dC, dI)) (ci := 9) (v := .ref a8) (C := RX9) (T := TX9) (N := 22) hx hb hts in_X9_noticeE_X9 hown hK hP 1 rfl rfl 12 (by decide) (hts (.fieldLink RX9 39 "MeetingsAboveModel" "noted" "[I") (by decide +kernel)) (fun _ h9 => h9) rfl dX9_notice_159 ?_
                  refine lv_bipush (v := 8) hx hb dX9_notice_162 (by decide) ?_
                  refine lv_iload hx hb dX9_notice_164 (lv_at hl 0 rfl) ?_
                  refine lv_imul hx hb dX9_notice_166 ?_
                  refine lv_topi (fun y_73 ey_73 => ?_)
                  have ty_73 : y_73.toInt = 8 * nn.toInt := by rw [ey_73]; exact fm_lI kl_8 (by omega) (by omega)
                  refine lv_iconst (v := 2) hx hb dX9_notice_167 (by decide) ?_
                  refine lv_iadd hx hb dX9_notice_168 ?_
                  refine lv_topi (fun y_74 ey_74 => ?_)
                  have ty_74 : y_74.toInt = y_73.toInt + 2 := by rw [ey_74]; have := fb_addI (x := y_73) (y := 2) (by omega) (by omega); omega
                  refine lv_aload_n hx hb dX9_notice_169 rfl (lv_at hl 1 rfl) ?_
                  refine va_get (D := (dC, dI)) (ci := 9) (v := .long up9_5) (C := RX9) (T := TX9) (N := 22) hx hb hts in_X9_noticeE_X9 hown hK hP 1 rfl rfl 16 (by decide) (hts (.fieldLink RX9 121 "MeetingsAboveModel" "upper" "J") (by decide +kernel)) (fun _ h9 => h9) rfl dX9_notice_170 ?_
                  refine lv_aload_n hx hb dX9_notice_173 rfl (lv_at hl 1 rfl) ?_
                  refine va_get (D := (dC, dI)) (ci := 9) (v := .long lw9_6) (C := RX9) (T := TX9) (N := 22) hx hb hts in_X9_noticeE_X9 hown hK hP 1 rfl rfl 17 (by decide) (hts (.fieldLink RX9 125 "MeetingsAboveModel" "lower" "J") (by decide +kernel)) (fun _ h9 => h9) rfl dX9_notice_174 ?_
                  refine lv_ldiv hx hb dX9_notice_177 (fun h9 => by have h8 := hbd9.1; rw [h9, klL_0] at h8; omega) ?_
                  refine lv_topl (fun y_75 ey_75 => ?_)
                  refine lv_l2i hx hb dX9_notice_178 rfl ?_
                  refine lv_topi (fun y_76 ey_76 => ?_)
                  refine va_iast hx hb hK hP hD hS 0 0 rfl rfl (vp_in_iff.mpr ⟨by omega, by omega⟩) dX9_notice_179 (fun H locs hP hD hS => ?_)
                  have hP : va_P (dC, dI) vwCl [(a8, .inl (cI, 320, .inl (upd (upd (upd No (y_70 : Int32).toNatClampNeg p1) (y_72 : Int32).toNatClampNeg p1) (y_74 : Int32).toNatClampNeg y_76))), (h0, .inr (9, [.int th, .ref a1, .ref a2, .ref a3, .ref a4, .ref a5, .int ne, .int wi, .int dn, .ref a6, .ref a7, .int nn, .ref a8, .int la, .ref a9, .ref a10, .long up9_5, .long lw9_6, .int wh9_7, .long pu9_8, .long pw9_9, .ref a11])), (a1, .inl (cI, 16, .inl Fi)), (a2, .inl (cI, 16, .inl Ma)), (a4, .inl (cZ, 16, .inl Go)), (a5, .inl (cI, 576, .inl Sp))] H := hP
                  have hD : va_D A [(a8, .inl (cI, 320, .inl (upd (upd (upd No (y_70 : Int32).toNatClampNeg p1) (y_72 : Int32).toNatClampNeg p1) (y_74 : Int32).toNatClampNeg y_76))), (h0, .inr (9, [.int th, .ref a1, .ref a2, .ref a3, .ref a4, .ref a5, .int ne, .int wi, .int dn, .ref a6, .ref a7, .int nn, .ref a8, .int la, .ref a9, .ref a10, .long up9_5, .long lw9_6, .int wh9_7, .long pu9_8, .long pw9_9, .ref a11])), (a1, .inl (cI, 16, .inl Fi)), (a2, .inl (cI, 16, .inl Ma)), (a4, .inl (cZ, 16, .inl Go)), (a5, .inl (cI, 576, .inl Sp))] := hD
                  have ix_2 : (y_74).toNatClampNeg = 8 * nn.toNatClampNeg + 2 := (by have n9 : (((y_74).toNatClampNeg : Nat) : Int) = (y_74).toInt := tc_I (by omega); omega)
                  refine lv_aload_n hx hb dX9_notice_180 rfl (lv_at hl 1 rfl) ?_
                  refine va_get (D := (dC, dI)) (ci := 9) (v := .ref a8) (C := RX9) (T := TX9) (N := 22) hx hb hts in_X9_noticeE_X9 hown hK hP 1 rfl rfl 12 (by decide) (hts (.fieldLink RX9 39 "MeetingsAboveModel" "noted" "[I") (by decide +kernel)) (fun _ h9 => h9) rfl dX9_notice_181 ?_
                  refine lv_bipush (v := 8) hx hb dX9_notice_184 (by decide) ?_
                  refine lv_iload hx hb dX9_notice_186 (lv_at hl 0 rfl) ?_
                  refine lv_imul hx hb dX9_notice_188 ?_
                  refine lv_topi (fun y_77 ey_77 => ?_)
                  have ty_77 : y_77.toInt = 8 * nn.toInt := by rw [ey_77]; exact fm_lI kl_8 (by omega) (by omega)
                  refine lv_iconst (v := 3) hx hb dX9_notice_189 (by decide) ?_
                  refine lv_iadd hx hb dX9_notice_190 ?_
                  refine lv_topi (fun y_78 ey_78 => ?_)
                  have ty_78 : y_78.toInt = y_77.toInt + 3 := by rw [ey_78]; have := fb_addI (x := y_77) (y := 3) (by omega) (by omega); omega
                  refine lv_aload_n hx hb dX9_notice_191 rfl (lv_at hl 1 rfl) ?_
                  refine va_get (D := (dC, dI)) (ci := 9) (v := .int wh9_7) (C := RX9) (T := TX9) (N := 22) hx hb hts in_X9_noticeE_X9 hown hK hP 1 rfl rfl 18 (by decide) (hts (.fieldLink RX9 128 "MeetingsAboveModel" "when" "I") (by decide +kernel)) (fun _ h9 => h9) rfl dX9_notice_192 ?_
                  refine va_iast hx hb hK hP hD hS 0 0 rfl rfl (vp_in_iff.mpr ⟨by omega, by omega⟩) dX9_notice_195 (fun H locs hP hD hS => ?_)
                  have hP : va_P (dC, dI) vwCl [(a8, .inl (cI, 320, .inl (upd (upd (upd (upd No (y_70 : Int32).toNatClampNeg p1) (y_72 : Int32).toNatClampNeg p1) (y_74 : Int32).toNatClampNeg y_76) (y_78 : Int32).toNatClampNeg wh9_7))), (h0, .inr (9, [.int th, .ref a1, .ref a2, .ref a3, .ref a4, .ref a5, .int ne, .int wi, .int dn, .ref a6, .ref a7, .int nn, .ref a8, .int la, .ref a9, .ref a10, .long up9_5, .long lw9_6, .int wh9_7, .long pu9_8, .long pw9_9, .ref a11])), (a1, .inl (cI, 16, .inl Fi)), (a2, .inl (cI, 16, .inl Ma)), (a4, .inl (cZ, 16, .inl Go)), (a5, .inl (cI, 576, .inl Sp))] H := hP
                  have hD : va_D A [(a8, .inl (cI, 320, .inl (upd (upd (upd (upd No (y_70 : Int32).toNatClampNeg p1) (y_72 : Int32).toNatClampNeg p1) (y_74 : Int32).toNatClampNeg y_76) (y_78 : Int32).toNatClampNeg wh9_7))), (h0, .inr (9, [.int th, .ref a1, .ref a2, .ref a3, .ref a4, .ref a5, .int ne, .int wi, .int dn, .ref a6, .ref a7, .int nn, .ref a8, .int la, .ref a9, .ref a10, .long up9_5, .long lw9_6, .int wh9_7, .long pu9_8, .long pw9_9, .ref a11])), (a1, .inl (cI, 16, .inl Fi)), (a2, .inl (cI, 16, .inl Ma)), (a4, .inl (cZ, 16, .inl Go)), (a5, .inl (cI, 576, .inl Sp))] := hD
                  have ix_3 : (y_78).toNatClampNeg = 8 * nn.toNatClampNeg + 3 := (by have n9 : (((y_78).toNatClampNeg : Nat) : Int) = (y_78).toInt := tc_I (by omega); omega)
                  refine lv_aload_n hx hb dX9_notice_196 rfl (lv_at hl 1 rfl) ?_
                  refine va_get (D := (dC, dI)) (ci := 9) (v := .ref a8) (C := RX9) (T := TX9) (N := 22) hx hb hts in_X9_noticeE_X9 hown hK hP 1 rfl rfl 12 (by decide) (hts (.fieldLink RX9 39 "MeetingsAboveModel" "noted" "[I") (by decide +kernel)) (fun _ h9 => h9) rfl dX9_notice_197 ?_
                  refine lv_bipush (v := 8) hx hb dX9_notice_200 (by decide) ?_
                  refine lv_iload hx hb dX9_notice_202 (lv_at hl 0 rfl) ?_
                  refine lv_imul hx hb dX9_notice_204 ?_
                  refine lv_topi (fun y_79 ey_79 => ?_)
                  have ty_79 : y_79.toInt = 8 * nn.toInt := by rw [ey_79]; exact fm_lI kl_8 (by omega) (by omega)
                  refine lv_iconst (v := 4) hx hb dX9_notice_205 (by decide) ?_
                  refine lv_iadd hx hb dX9_notice_206 ?_
                  refine lv_topi (fun y_80 ey_80 => ?_)
                  have ty_80 : y_80.toInt = y_79.toInt + 4 := by rw [ey_80]; have := fb_addI (x := y_79) (y := 4) (by omega) (by omega); omega
                  refine lv_iload hx hb dX9_notice_207 (lv_at hl 6 rfl) ?_
                  refine va_iast hx hb hK hP hD hS 0 0 rfl rfl (vp_in_iff.mpr ⟨by omega, by omega⟩) dX9_notice_209 (fun H locs hP hD hS => ?_)
                  have hP : va_P (dC, dI) vwCl [(a8, .inl (cI, 320, .inl (upd (upd (upd (upd (upd No (y_70 : Int32).toNatClampNeg p1) (y_72 : Int32).toNatClampNeg p1) (y_74 : Int32).toNatClampNeg y_76) (y_78 : Int32).toNatClampNeg wh9_7) (y_80 : Int32).toNatClampNeg b5))), (h0, .inr (9, [.int th, .ref a1, .ref a2, .ref a3, .ref a4, .ref a5, .int ne, .int wi, .int dn, .ref a6, .ref a7, .int nn, .ref a8, .int la, .ref a9, .ref a10, .long up9_5, .long lw9_6, .int wh9_7, .long pu9_8, .long pw9_9, .ref a11])), (a1, .inl (cI, 16, .inl Fi)), (a2, .inl (cI, 16, .inl Ma)), (a4, .inl (cZ, 16, .inl Go)), (a5, .inl (cI, 576, .inl Sp))] H := hP
                  have hD : va_D A [(a8, .inl (cI, 320, .inl (upd (upd (upd (upd (upd No (y_70 : Int32).toNatClampNeg p1) (y_72 : Int32).toNatClampNeg p1) (y_74 : Int32).toNatClampNeg y_76) (y_78 : Int32).toNatClampNeg wh9_7) (y_80 : Int32).toNatClampNeg b5))), (h0, .inr (9, [.int th, .ref a1, .ref a2, .ref a3, .ref a4, .ref a5, .int ne, .int wi, .int dn, .ref a6, .ref a7, .int nn, .ref a8, .int la, .ref a9, .ref a10, .long up9_5, .long lw9_6, .int wh9_7, .long pu9_8, .long pw9_9, .ref a11])), (a1, .inl (cI, 16, .inl Fi)), (a2, .inl (cI, 16, .inl Ma)), (a4, .inl (cZ, 16, .inl Go)), (a5, .inl (cI, 576, .inl Sp))] := hD
                  have ix_4 : (y_80).toNatClampNeg = 8 * nn.toNatClampNeg + 4 := (by have n9 : (((y_80).toNatClampNeg : Nat) : Int) = (y_80).toInt := tc_I (by omega); omega)
                  refine lv_aload_n hx hb dX9_notice_210 rfl (lv_at hl 1 rfl) ?_
                  refine va_get (D := (dC, dI)) (ci := 9) (v := .ref a8) (C := RX9) (T := TX9) (N := 22) hx hb hts in_X9_noticeE_X9 hown hK hP 1 rfl rfl 12 (by decide) (hts (.fieldLink RX9 39 "MeetingsAboveModel" "noted" "[I") (by decide +kernel)) (fun _ h9 => h9) rfl dX9_notice_211 ?_
                  refine lv_bipush (v := 8) hx hb dX9_notice_214 (by decide) ?_
                  refine lv_iload hx hb dX9_notice_216 (lv_at hl 0 rfl) ?_
                  refine lv_imul hx hb dX9_notice_218 ?_
                  refine lv_topi (fun y_81 ey_81 => ?_)
                  have ty_81 : y_81.toInt = 8 * nn.toInt := by rw [ey_81]; exact fm_lI kl_8 (by omega) (by omega)
                  refine lv_iconst (v := 5) hx hb dX9_notice_219 (by decide) ?_
                  refine lv_iadd hx hb dX9_notice_220 ?_
                  refine lv_topi (fun y_82 ey_82 => ?_)
                  have ty_82 : y_82.toInt = y_81.toInt + 5 := by rw [ey_82]; have := fb_addI (x := y_81) (y := 5) (by omega) (by omega); omega
                  refine lv_iconst (v := 1) hx hb dX9_notice_221 (by decide) ?_
                  refine va_iast hx hb hK hP hD hS 0 0 rfl rfl (vp_in_iff.mpr ⟨by omega, by omega⟩) dX9_notice_222 (fun H locs hP hD hS => ?_)
                  have hP : va_P (dC, dI) vwCl [(a8, .inl (cI, 320, .inl (upd (upd (upd (upd (upd (upd No (y_70 : Int32).toNatClampNeg p1) (y_72 : Int32).toNatClampNeg p1) (y_74 : Int32).toNatClampNeg y_76) (y_78 : Int32).toNatClampNeg wh9_7) (y_80 : Int32).toNatClampNeg b5) (y_82 : Int32).toNatClampNeg 1))), (h0, .inr (9, [.int th, .ref a1, .ref a2, .ref a3, .ref a4, .ref a5, .int ne, .int wi, .int dn, .ref a6, .ref a7, .int nn, .ref a8, .int la, .ref a9, .ref a10, .long up9_5, .long lw9_6, .int wh9_7, .long pu9_8, .long pw9_9, .ref a11])), (a1, .inl (cI, 16, .inl Fi)), (a2, .inl (cI, 16, .inl Ma)), (a4, .inl (cZ, 16, .inl Go)), (a5, .inl (cI, 576, .inl Sp))] H := hP
                  have hD : va_D A [(a8, .inl (cI, 320, .inl (upd (upd (upd (upd (upd (upd No (y_70 : Int32).toNatClampNeg p1) (y_72 : Int32).toNatClampNeg p1) (y_74 : Int32).toNatClampNeg y_76) (y_78 : Int32).toNatClampNeg wh9_7) (y_80 : Int32).toNatClampNeg b5) (y_82 : Int32).toNatClampNeg 1))), (h0, .inr (9, [.int th, .ref a1, .ref a2, .ref a3, .ref a4, .ref a5, .int ne, .int wi, .int dn, .ref a6, .ref a7, .int nn, .ref a8, .int la, .ref a9, .ref a10, .long up9_5, .long lw9_6, .int wh9_7, .long pu9_8, .long pw9_9, .ref a11])), (a1, .inl (cI, 16, .inl Fi)), (a2, .inl (cI, 16, .inl Ma)), (a4, .inl (cZ, 16, .inl Go)), (a5, .inl (cI, 576, .inl Sp))] := hD
                  have ix_5 : (y_82).toNatClampNeg = 8 * nn.toNatClampNeg + 5 := (by have n9 : (((y_82).toNatClampNeg : Nat) : Int) = (y_82).toInt := tc_I (by omega); omega)
                  refine lv_aload_n hx hb dX9_notice_223 rfl (lv_at hl 1 rfl) ?_
                  refine va_get (D := (dC, dI)) (ci := 9) (v := .ref a8) (C := RX9) (T := TX9) (N := 22) hx hb hts in_X9_noticeE_X9 hown hK hP 1 rfl rfl 12 (by decide) (hts (.fieldLink RX9 39 "MeetingsAboveModel" "noted" "[I") (by decide +kernel)) (fun _ h9 => h9) rfl dX9_notice_224 ?_
                  refine lv_bipush (v := 8) hx hb dX9_notice_227 (by decide) ?_
                  refine lv_iload hx hb dX9_notice_229 (lv_at hl 0 rfl) ?_
                  refine lv_imul hx hb dX9_notice_231 ?_
                  refine lv_topi (fun y_83 ey_83 => ?_)
                  have ty_83 : y_83.toInt = 8 * nn.toInt := by rw [ey_83]; exact fm_lI kl_8 (by omega) (by omega)
                  refine lv_bipush (v := 6) hx hb dX9_notice_232 (by decide) ?_
                  refine lv_iadd hx hb dX9_notice_234 ?_
                  refine lv_topi (fun y_84 ey_84 => ?_)
                  have ty_84 : y_84.toInt = y_83.toInt + 6 := by rw [ey_84]; have := fb_addI (x := y_83) (y := 6) (by omega) (by omega); omega
                  refine lv_iconst (v := 0) hx hb dX9_notice_235 (by decide) ?_
                  refine va_iast hx hb hK hP hD hS 0 0 rfl rfl (vp_in_iff.mpr ⟨by omega, by omega⟩) dX9_notice_236 (fun H locs hP hD hS => ?_)
                  have hP : va_P (dC, dI) vwCl [(a8, .inl (cI, 320, .inl (upd (upd (upd (upd (upd (upd (upd No (y_70 : Int32).toNatClampNeg p1) (y_72 : Int32).toNatClampNeg p1) (y_74 : Int32).toNatClampNeg y_76) (y_78 : Int32).toNatClampNeg wh9_7) (y_80 : Int32).toNatClampNeg b5) (y_82 : Int32).toNatClampNeg 1) (y_84 : Int32).toNatClampNeg 0))), (h0, .inr (9, [.int th, .ref a1, .ref a2, .ref a3, .ref a4, .ref a5, .int ne, .int wi, .int dn, .ref a6, .ref a7, .int nn, .ref a8, .int la, .ref a9, .ref a10, .long up9_5, .long lw9_6, .int wh9_7, .long pu9_8, .long pw9_9, .ref a11])), (a1, .inl (cI, 16, .inl Fi)), (a2, .inl (cI, 16, .inl Ma)), (a4, .inl (cZ, 16, .inl Go)), (a5, .inl (cI, 576, .inl Sp))] H := hP
                  have hD : va_D A [(a8, .inl (cI, 320, .inl (upd (upd (upd (upd (upd (upd (upd No (y_70 : Int32).toNatClampNeg p1) (y_72 : Int32).toNatClampNeg p1) (y_74 : Int32).toNatClampNeg y_76) (y_78 : Int32).toNatClampNeg wh9_7) (y_80 : Int32).toNatClampNeg b5) (y_82 : Int32).toNatClampNeg 1) (y_84 : Int32).toNatClampNeg 0))), (h0, .inr (9, [.int th, .ref a1, .ref a2, .ref a3, .ref a4, .ref a5, .int ne, .int wi, .int dn, .ref a6, .ref a7, .int nn, .ref a8, .int la, .ref a9, .ref a10, .long up9_5, .long lw9_6, .int wh9_7, .long pu9_8, .long pw9_9, .ref a11])), (a1, .inl (cI, 16, .inl Fi)), (a2, .inl (cI, 16, .inl Ma)), (a4, .inl (cZ, 16, .inl Go)), (a5, .inl (cI, 576, .inl Sp))] := hD
                  have ix_6 : (y_84).toNatClampNeg = 8 * nn.toNatClampNeg + 6 := (by have n9 : (((y_84).toNatClampNeg : Nat) : Int) = (y_84).toInt := tc_I (by omega); omega)
                  refine lv_aload_n hx hb dX9_notice_237 rfl (lv_at hl 1 rfl) ?_
                  refine va_get (D := (dC, dI)) (ci := 9) (v := .ref a8) (C := RX9) (T := TX9) (N := 22) hx hb hts in_X9_noticeE_X9 hown hK hP 1 rfl rfl 12 (by decide) (hts (.fieldLink RX9 39 "MeetingsAboveModel" "noted" "[I") (by decide +kernel)) (fun _ h9 => h9) rfl dX9_notice_238 ?_
                  refine lv_bipush (v := 8) hx hb dX9_notice_241 (by decide) ?_
                  refine lv_iload hx hb dX9_notice_243 (lv_at hl 0 rfl) ?_
                  refine lv_imul hx hb dX9_notice_245 ?_
                  refine lv_topi (fun y_85 ey_85 => ?_)
                  have ty_85 : y_85.toInt = 8 * nn.toInt := by rw [ey_85]; exact fm_lI kl_8 (by omega) (by omega)
                  refine lv_bipush (v := 7) hx hb dX9_notice_246 (by decide) ?_
                  refine lv_iadd hx hb dX9_notice_248 ?_
                  refine lv_topi (fun y_86 ey_86 => ?_)
                  have ty_86 : y_86.toInt = y_85.toInt + 7 := by rw [ey_86]; have := fb_addI (x := y_85) (y := 7) (by omega) (by omega); omega
                  refine lv_iconst (v := 0) hx hb dX9_notice_249 (by decide) ?_
                  refine va_iast hx hb hK hP hD hS 0 0 rfl rfl (vp_in_iff.mpr ⟨by omega, by omega⟩) dX9_notice_250 (fun H locs hP hD hS => ?_)
                  have hP : va_P (dC, dI) vwCl [(a8, .inl (cI, 320, .inl (upd (upd (upd (upd (upd (upd (upd (upd No (y_70 : Int32).toNatClampNeg p1) (y_72 : Int32).toNatClampNeg p1) (y_74 : Int32).toNatClampNeg y_76) (y_78 : Int32).toNatClampNeg wh9_7) (y_80 : Int32).toNatClampNeg b5) (y_82 : Int32).toNatClampNeg 1) (y_84 : Int32).toNatClampNeg 0) (y_86 : Int32).toNatClampNeg 0))), (h0, .inr (9, [.int th, .ref a1, .ref a2, .ref a3, .ref a4, .ref a5, .int ne, .int wi, .int dn, .ref a6, .ref a7, .int nn, .ref a8, .int la, .ref a9, .ref a10, .long up9_5, .long lw9_6, .int wh9_7, .long pu9_8, .long pw9_9, .ref a11])), (a1, .inl (cI, 16, .inl Fi)), (a2, .inl (cI, 16, .inl Ma)), (a4, .inl (cZ, 16, .inl Go)), (a5, .inl (cI, 576, .inl Sp))] H := hP
                  have hD : va_D A [(a8, .inl (cI, 320, .inl (upd (upd (upd (upd (upd (upd (upd (upd No (y_70 : Int32).toNatClampNeg p1) (y_72 : Int32).toNatClampNeg p1) (y_74 : Int32).toNatClampNeg y_76) (y_78 : Int32).toNatClampNeg wh9_7) (y_80 : Int32).toNatClampNeg b5) (y_82 : Int32).toNatClampNeg 1) (y_84 : Int32).toNatClampNeg 0) (y_86 : Int32).toNatClampNeg 0))), (h0, .inr (9, [.int th, .ref a1, .ref a2, .ref a3, .ref a4, .ref a5, .int ne, .int wi, .int dn, .ref a6, .ref a7, .int nn, .ref a8, .int la, .ref a9, .ref a10, .long up9_5, .long lw9_6, .int wh9_7, .long pu9_8, .long pw9_9, .ref a11])), (a1, .inl (cI, 16, .inl Fi)), (a2, .inl (cI, 16, .inl Ma)), (a4, .inl (cZ, 16, .inl Go)), (a5, .inl (cI, 576, .inl Sp))] := hD
                  have ix_7 : (y_86).toNatClampNeg = 8 * nn.toNatClampNeg + 7 := (by have n9 : (((y_86).toNatClampNeg : Nat) : Int) = (y_86).toInt := tc_I (by omega); omega)
                  refine lv_iload hx hb dX9_notice_251 (lv_at hl 6 rfl) ?_
                  refine lv_if_lt (tgt := 269) hx hb dX9_notice_253 (by decide) (fun c_253 => ?_) (fun c_253 => ?_)
                  · have t_253 := (fa_lt _ _).mp c_253
                    refine lv_aload_n hx hb dX9_notice_269 rfl (lv_at hl 1 rfl) ?_
                    refine lv_dup hx hb dX9_notice_270 rfl ?_
                    refine va_get (D := (dC, dI)) (ci := 9) (v := .int nn) (C := RX9) (T := TX9) (N := 22) hx hb hts in_X9_noticeE_X9 hown hK hP 1 rfl rfl 11 (by decide) (hts (.fieldLink RX9 115 "MeetingsAboveModel" "notices" "I") (by decide +kernel)) (fun _ h9 => h9) rfl dX9_notice_271 ?_
                    refine lv_iconst (v := 1) hx hb dX9_notice_274 (by decide) ?_
                    refine lv_iadd hx hb dX9_notice_275 ?_
                    refine lv_topi (fun y_87 ey_87 => ?_)
                    have ty_87 : y_87.toInt = nn.toInt + 1 := by rw [ey_87]; have := fb_addI (x := nn) (y := 1) (by omega) (by omega); omega
                    refine va_put (D := (dC, dI)) (ci := 9) (v := .int y_87) (ty := .int) (C := RX9) (T := TX9) (N := 22) hx hb hts in_X9_noticeE_X9 tyX9 tyX9_ok nmX9 hown hK hP hD hS 1 rfl rfl 11 (by decide) (hts (.fieldLink RX9 115 "MeetingsAboveModel" "notices" "I") (by decide +kernel)) (fun _ h9 => h9) rfl (by decide +kernel) rfl rfl (Nat.le_of_ble_eq_true rfl) dX9_notice_276 (fun H locs hP hD hS => ?_)
                    have hP : va_P (dC, dI) vwCl [(a8, .inl (cI, 320, .inl (upd (upd (upd (upd (upd (upd (upd (upd No (y_70 : Int32).toNatClampNeg p1) (y_72 : Int32).toNatClampNeg p1) (y_74 : Int32).toNatClampNeg y_76) (y_78 : Int32).toNatClampNeg wh9_7) (y_80 : Int32).toNatClampNeg b5) (y_82 : Int32).toNatClampNeg 1) (y_84 : Int32).toNatClampNeg 0) (y_86 : Int32).toNatClampNeg 0))), (h0, .inr (9, [.int th, .ref a1, .ref a2, .ref a3, .ref a4, .ref a5, .int ne, .int wi, .int dn, .ref a6, .ref a7, .int y_87, .ref a8, .int la, .ref a9, .ref a10, .long up9_5, .long lw9_6, .int wh9_7, .long pu9_8, .long pw9_9, .ref a11])), (a1, .inl (cI, 16, .inl Fi)), (a2, .inl (cI, 16, .inl Ma)), (a4, .inl (cZ, 16, .inl Go)), (a5, .inl (cI, 576, .inl Sp))] H := hP
                    have hD : va_D A [(a8, .inl (cI, 320, .inl (upd (upd (upd (upd (upd (upd (upd (upd No (y_70 : Int32).toNatClampNeg p1) (y_72 : Int32).toNatClampNeg p1) (y_74 : Int32).toNatClampNeg y_76) (y_78 : Int32).toNatClampNeg wh9_7) (y_80 : Int32).toNatClampNeg b5) (y_82 : Int32).toNatClampNeg 1) (y_84 : Int32).toNatClampNeg 0) (y_86 : Int32).toNatClampNeg 0))), (h0, .inr (9, [.int th, .ref a1, .ref a2, .ref a3, .ref a4, .ref a5, .int ne, .int wi, .int dn, .ref a6, .ref a7, .int y_87, .ref a8, .int la, .ref a9, .ref a10, .long up9_5, .long lw9_6, .int wh9_7, .long pu9_8, .long pw9_9, .ref a11])), (a1, .inl (cI, 16, .inl Fi)), (a2, .inl (cI, 16, .inl Ma)), (a4, .inl (cZ, 16, .inl Go)), (a5, .inl (cI, 576, .inl Sp))] := hD
                    refine lv_iload hx hb dX9_notice_279 (lv_at hl 0 rfl) ?_
                    have hP9 := hP.sub (ws' := [(h0, .inr (9, [.int th, .ref a1, .ref a2, .ref a3, .ref a4, .ref a5, .int ne, .int wi, .int dn, .ref a6, .ref a7, .int y_87, .ref a8, .int la, .ref a9, .ref a10, .long up9_5, .long lw9_6, .int wh9_7, .long pu9_8, .long pw9_9, .ref a11])), (a1, .inl (cI, 16, .inl Fi)), (a2, .inl (cI, 16, .inl Ma)), (a4, .inl (cZ, 16, .inl Go)), (a5, .inl (cI, 576, .inl Sp)), (a8, .inl (cI, 320, .inl (upd (upd (upd (upd (upd (upd (upd (upd No (y_70 : Int32).toNatClampNeg p1) (y_72 : Int32).toNatClampNeg p1) (y_74 : Int32).toNatClampNeg y_76) (y_78 : Int32).toNatClampNeg wh9_7) (y_80 : Int32).toNatClampNeg b5) (y_82 : Int32).toNatClampNeg 1) (y_84 : Int32).toNatClampNeg 0) (y_86 : Int32).toNatClampNeg 0)))]) [1, 2, 3, 4, 5, 0] rfl
                    have hD9 := hD.sub (ws' := [(h0, .inr (9, [.int th, .ref a1, .ref a2, .ref a3, .ref a4, .ref a5, .int ne, .int wi, .int dn, .ref a6, .ref a7, .int y_87, .ref a8, .int la, .ref a9, .ref a10, .long up9_5, .long lw9_6, .int wh9_7, .long pu9_8, .long pw9_9, .ref a11])), (a1, .inl (cI, 16, .inl Fi)), (a2, .inl (cI, 16, .inl Ma)), (a4, .inl (cZ, 16, .inl Go)), (a5, .inl (cI, 576, .inl Sp)), (a8, .inl (cI, 320, .inl (upd (upd (upd (upd (upd (upd (upd (upd No (y_70 : Int32).toNatClampNeg p1) (y_72 : Int32).toNatClampNeg p1) (y_74 : Int32).toNatClampNeg y_76) (y_78 : Int32).toNatClampNeg wh9_7) (y_80 : Int32).toNatClampNeg b5) (y_82 : Int32).toNatClampNeg 1) (y_84 : Int32).toNatClampNeg 0) (y_86 : Int32).toNatClampNeg 0)))]) [1, 2, 3, 4, 5, 0] (by decide) rfl
                    have hK9 := hK.sub (tys' := [(cI, .int), (cZ, .boolean)]) [0, 1] rfl
                    refine W.widen (k := 0) (n := 0) (by omega) (by omega) ?_
                    exact W.iret (v := nn) hx hb hr (fun t ht hW => ⟨⟨_, (), rfl, (Or.inr (Or.inr (Or.inr ⟨⟨⟨by omega, by omega⟩, ⟨by omega, by omega⟩⟩, ⟨⟨⟨by omega, by omega⟩, ⟨by omega, by omega⟩⟩, (tv_1 hw_4 c_25).1, (tv_1 hw_4 c_25).2⟩, by omega, rfl⟩))), up9_5, lw9_6, wh9_7, pu9_8, pw9_9, y_87, (upd (upd (upd (upd (upd (upd (upd (upd No (y_70 : Int32).toNatClampNeg p1) (y_72 : Int32).toNatClampNeg p1) (y_74 : Int32).toNatClampNeg y_76) (y_78 : Int32).toNatClampNeg wh9_7) (y_80 : Int32).toNatClampNeg b5) (y_82 : Int32).toNatClampNeg 1) (y_84 : Int32).toNatClampNeg 0) (y_86 : Int32).toNatClampNeg 0), by rw [ht]; exact hP9, va_K.moved hW.alike hK9, hD9, (by omega), (by omega), (Or.inl ⟨⟨⟨⟨by omega, by omega⟩, ⟨by omega, by omega⟩⟩, (tv_1 hw_4 c_25).1, (tv_1 hw_4 c_25).2⟩, by omega, by omega, p1, p1, y_76, wh9_7, b5, by omega, by omega, hls9, sq_ms (hms_10 (tv_1 hw_4 c_25)) ⟨y_75, ey_76, by rw [ey_75]; exact ldiv_I hbd9.2 (by omega)⟩ rfl, by rw [ix_0, ix_1, ix_2, ix_3, ix_4, ix_5, ix_6, ix_7]; exact nw_n (by omega)⟩)⟩, hS.F ht⟩) hS.2.2 dX9_notice_281
                  · have t_253 := mt (fa_lt _ _).mpr c_253
                    refine lv_aload_n hx hb dX9_notice_256 rfl (lv_at hl 1 rfl) ?_
                    refine va_get (D := (dC, dI)) (ci := 9) (v := .ref a8) (C := RX9) (T := TX9) (N := 22) hx hb hts in_X9_noticeE_X9 hown hK hP 1 rfl rfl 12 (by decide) (hts (.fieldLink RX9 39 "MeetingsAboveModel" "noted" "[I") (by decide +kernel)) (fun _ h9 => h9) rfl dX9_notice_257 ?_
                    refine lv_bipush (v := 8) hx hb dX9_notice_260 (by decide) ?_
                    refine lv_iload hx hb dX9_notice_262 (lv_at hl 6 rfl) ?_
                    refine lv_imul hx hb dX9_notice_264 ?_
                    refine lv_topi (fun y_88 ey_88 => ?_)
                    have ty_88 : y_88.toInt = 8 * b5.toInt := by rw [ey_88]; exact fm_lI kl_8 (by omega) (by omega)
                    refine lv_iconst (v := 5) hx hb dX9_notice_265 (by decide) ?_
                    refine lv_iadd hx hb dX9_notice_266 ?_
                    refine lv_topi (fun y_89 ey_89 => ?_)
                    have ty_89 : y_89.toInt = y_88.toInt + 5 := by rw [ey_89]; have := fb_addI (x := y_88) (y := 5) (by omega) (by omega); omega
                    refine lv_iconst (v := 0) hx hb dX9_notice_267 (by decide) ?_
                    have ix_9 : (y_89).toNatClampNeg = 8 * b5.toNatClampNeg + 5 := (by have n9 : (((y_89).toNatClampNeg : Nat) : Int) = (y_89).toInt := tc_I (by omega); have n8 : ((b5.toNatClampNeg : Nat) : Int) = b5.toInt := tc_I (by omega); omega)
                    refine va_iast hx hb hK hP hD hS 0 0 rfl rfl (vp_in_iff.mpr ⟨by omega, by omega⟩) dX9_notice_268 (fun H locs hP hD hS => ?_)
                    have hP : va_P (dC, dI) vwCl [(a8, .inl (cI, 320, .inl (upd (upd (upd (upd (upd (upd (upd (upd (upd No (y_70 : Int32).toNatClampNeg p1) (y_72 : Int32).toNatClampNeg p1) (y_74 : Int32).toNatClampNeg y_76) (y_78 : Int32).toNatClampNeg wh9_7) (y_80 : Int32).toNatClampNeg b5) (y_82 : Int32).toNatClampNeg 1) (y_84 : Int32).toNatClampNeg 0) (y_86 : Int32).toNatClampNeg 0) (y_89 : Int32).toNatClampNeg 0))), (h0, .inr (9, [.int th, .ref a1, .ref a2, .ref a3, .ref a4, .ref a5, .int ne, .int wi, .int dn, .ref a6, .ref a7, .int nn, .ref a8, .int la, .ref a9, .ref a10, .long up9_5, .long lw9_6, .int wh9_7, .long pu9_8, .long pw9_9, .ref a11])), (a1, .inl (cI, 16, .inl Fi)), (a2, .inl (cI, 16, .inl Ma)), (a4, .inl (cZ, 16, .inl Go)), (a5, .inl (cI, 576, .inl Sp))] H := hP
                    have hD : va_D A [(a8, .inl (cI, 320, .inl (upd (upd (upd (upd (upd (upd (upd (upd (upd No (y_70 : Int32).toNatClampNeg p1) (y_72 : Int32).toNatClampNeg p1) (y_74 : Int32).toNatClampNeg y_76) (y_78 : Int32).toNatClampNeg wh9_7) (y_80 : Int32).toNatClampNeg b5) (y_82 : Int32).toNatClampNeg 1) (y_84 : Int32).toNatClampNeg 0) (y_86 : Int32).toNatClampNeg 0) (y_89 : Int32).toNatClampNeg 0))), (h0, .inr (9, [.int th, .ref a1, .ref a2, .ref a3, .ref a4, .ref a5, .int ne, .int wi, .int dn, .ref a6, .ref a7, .int nn, .ref a8, .int la, .ref a9, .ref a10, .long up9_5, .long lw9_6, .int wh9_7, .long pu9_8, .long pw9_9, .ref a11])), (a1, .inl (cI, 16, .inl Fi)), (a2, .inl (cI, 16, .inl Ma)), (a4, .inl (cZ, 16, .inl Go)), (a5, .inl (cI, 576, .inl Sp))] := hD
                    refine lv_aload_n hx hb dX9_notice_269 rfl (lv_at hl 1 rfl) ?_
                    refine lv_dup hx hb dX9_notice_270 rfl ?_
                    refine va_get (D := (dC, dI)) (ci := 9) (v := .int nn) (C := RX9) (T := TX9) (N := 22) hx hb hts in_X9_noticeE_X9 hown hK hP 1 rfl rfl 11 (by decide) (hts (.fieldLink RX9 115 "MeetingsAboveModel" "notices" "I") (by decide +kernel)) (fun _ h9 => h9) rfl dX9_notice_271 ?_
                    refine lv_iconst (v := 1) hx hb dX9_notice_274 (by decide) ?_
                    refine lv_iadd hx hb dX9_notice_275 ?_
                    refine lv_topi (fun y_90 ey_90 => ?_)
                    have ty_90 : y_90.toInt = nn.toInt + 1 := by rw [ey_90]; have := fb_addI (x := nn) (y := 1) (by omega) (by omega); omega
                    refine va_put (D := (dC, dI)) (ci := 9) (v := .int y_90) (ty := .int) (C := RX9) (T := TX9) (N := 22) hx hb hts in_X9_noticeE_X9 tyX9 tyX9_ok nmX9 hown hK hP hD hS 1 rfl rfl 11 (by decide) (hts (.fieldLink RX9 115 "MeetingsAboveModel" "notices" "I") (by decide +kernel)) (fun _ h9 => h9) rfl (by decide +kernel) rfl rfl (Nat.le_of_ble_eq_true rfl) dX9_notice_276 (fun H locs hP hD hS => ?_)
                    have hP : va_P (dC, dI) vwCl [(a8, .inl (cI, 320, .inl (upd (upd (upd (upd (upd (upd (upd (upd (upd No (y_70 : Int32).toNatClampNeg p1) (y_72 : Int32).toNatClampNeg p1) (y_74 : Int32).toNatClampNeg y_76) (y_78 : Int32).toNatClampNeg wh9_7) (y_80 : Int32).toNatClampNeg b5) (y_82 : Int32).toNatClampNeg 1) (y_84 : Int32).toNatClampNeg 0) (y_86 : Int32).toNatClampNeg 0) (y_89 : Int32).toNatClampNeg 0))), (h0, .inr (9, [.int th, .ref a1, .ref a2, .ref a3, .ref a4, .ref a5, .int ne, .int wi, .int dn, .ref a6, .ref a7, .int y_90, .ref a8, .int la, .ref a9, .ref a10, .long up9_5, .long lw9_6, .int wh9_7, .long pu9_8, .long pw9_9, .ref a11])), (a1, .inl (cI, 16, .inl Fi)), (a2, .inl (cI, 16, .inl Ma)), (a4, .inl (cZ, 16, .inl Go)), (a5, .inl (cI, 576, .inl Sp))] H := hP
                    have hD : va_D A [(a8, .inl (cI, 320, .inl (upd (upd (upd (upd (upd (upd (upd (upd (upd No (y_70 : Int32).toNatClampNeg p1) (y_72 : Int32).toNatClampNeg p1) (y_74 : Int32).toNatClampNeg y_76) (y_78 : Int32).toNatClampNeg wh9_7) (y_80 : Int32).toNatClampNeg b5) (y_82 : Int32).toNatClampNeg 1) (y_84 : Int32).toNatClampNeg 0) (y_86 : Int32).toNatClampNeg 0) (y_89 : Int32).toNatClampNeg 0))), (h0, .inr (9, [.int th, .ref a1, .ref a2, .ref a3, .ref a4, .ref a5, .int ne, .int wi, .int dn, .ref a6, .ref a7, .int y_90, .ref a8, .int la, .ref a9, .ref a10, .long up9_5, .long lw9_6, .int wh9_7, .long pu9_8, .long pw9_9, .ref a11])), (a1, .inl (cI, 16, .inl Fi)), (a2, .inl (cI, 16, .inl Ma)), (a4, .inl (cZ, 16, .inl Go)), (a5, .inl (cI, 576, .inl Sp))] := hD
                    refine lv_iload hx hb dX9_notice_279 (lv_at hl 0 rfl) ?_
                    have hP9 := hP.sub (ws' := [(h0, .inr (9, [.int th, .ref a1, .ref a2, .ref a3, .ref a4, .ref a5, .int ne, .int wi, .int dn, .ref a6, .ref a7, .int y_90, .ref a8, .int la, .ref a9, .ref a10, .long up9_5, .long lw9_6, .int wh9_7, .long pu9_8, .long pw9_9, .ref a11])), (a1, .inl (cI, 16, .inl Fi)), (a2, .inl (cI, 16, .inl Ma)), (a4, .inl (cZ, 16, .inl Go)), (a5, .inl (cI, 576, .inl Sp)), (a8, .inl (cI, 320, .inl (upd (upd (upd (upd (upd (upd (upd (upd (upd No (y_70 : Int32).toNatClampNeg p1) (y_72 : Int32).toNatClampNeg p1) (y_74 : Int32).toNatClampNeg y_76) (y_78 : Int32).toNatClampNeg wh9_7) (y_80 : Int32).toNatClampNeg b5) (y_82 : Int32).toNatClampNeg 1) (y_84 : Int32).toNatClampNeg 0) (y_86 : Int32).toNatClampNeg 0) (y_89 : Int32).toNatClampNeg 0)))]) [1, 2, 3, 4, 5, 0] rfl
                    have hD9 := hD.sub (ws' := [(h0, .inr (9, [.int th, .ref a1, .ref a2, .ref a3, .ref a4, .ref a5, .int ne, .int wi, .int dn, .ref a6, .ref a7, .int y_90, .ref a8, .int la, .ref a9, .ref a10, .long up9_5, .long lw9_6, .int wh9_7, .long pu9_8, .long pw9_9, .ref a11])), (a1, .inl (cI, 16, .inl Fi)), (a2, .inl (cI, 16, .inl Ma)), (a4, .inl (cZ, 16, .inl Go)), (a5, .inl (cI, 576, .inl Sp)), (a8, .inl (cI, 320, .inl (upd (upd (upd (upd (upd (upd (upd (upd (upd No (y_70 : Int32).toNatClampNeg p1) (y_72 : Int32).toNatClampNeg p1) (y_74 : Int32).toNatClampNeg y_76) (y_78 : Int32).toNatClampNeg wh9_7) (y_80 : Int32).toNatClampNeg b5) (y_82 : Int32).toNatClampNeg 1) (y_84 : Int32).toNatClampNeg 0) (y_86 : Int32).toNatClampNeg 0) (y_89 : Int32).toNatClampNeg 0)))]) [1, 2, 3, 4, 5, 0] (by decide) rfl
                    have hK9 := hK.sub (tys' := [(cI, .int), (cZ, .boolean)]) [0, 1] rfl
                    refine W.widen (k := 0) (n := 0) (by omega) (by omega) ?_
                    exact W.iret (v := nn) hx hb hr (fun t ht hW => ⟨⟨_, (), rfl, (Or.inr (Or.inr (Or.inr ⟨⟨⟨by omega, by omega⟩, ⟨by omega, by omega⟩⟩, ⟨⟨⟨by omega, by omega⟩, ⟨by omega, by omega⟩⟩, (tv_1 hw_4 c_25).1, (tv_1 hw_4 c_25).2⟩, by omega, rfl⟩))), up9_5, lw9_6, wh9_7, pu9_8, pw9_9, y_90, (upd (upd (upd (upd (upd (upd (upd (upd (upd No (y_70 : Int32).toNatClampNeg p1) (y_72 : Int32).toNatClampNeg p1) (y_74 : Int32).toNatClampNeg y_76) (y_78 : Int32).toNatClampNeg wh9_7) (y_80 : Int32).toNatClampNeg b5) (y_82 : Int32).toNatClampNeg 1) (y_84 : Int32).toNatClampNeg 0) (y_86 : Int32).toNatClampNeg 0) (y_89 : Int32).toNatClampNeg 0), by rw [ht]; exact hP9, va_K.moved hW.alike hK9, hD9, (by omega), (by omega), (Or.inl ⟨⟨⟨⟨by omega, by omega⟩, ⟨by omega, by omega⟩⟩, (tv_1 hw_4 c_25).1, (tv_1 hw_4 c_25).2⟩, by omega, by omega, p1, p1, y_76, wh9_7, b5, by omega, by omega, hls9, sq_ms (hms_10 (tv_1 hw_4 c_25)) ⟨y_75, ey_76, by rw [ey_75]; exact ldiv_I hbd9.2 (by omega)⟩ rfl, by rw [ix_0, ix_1, ix_2, ix_3, ix_4, ix_5, ix_6, ix_7, ix_9]; exact nw_y (by omega)⟩)⟩, hS.F ht⟩) hS.2.2 dX9_notice_281
                · have t_78 := mt (fa_le _ _).mpr c_78
                  refine lv_aload_n hx hb dX9_notice_81 rfl (lv_at hl 0 rfl) ?_
                  refine va_get (D := (dC, dI)) (ci := 9) (v := .ref a8) (C := RX9) (T := TX9) (N := 22) hx hb hts in_X9_noticeE_X9 hown hK hP 1 rfl rfl 12 (by decide) (hts (.fieldLink RX9 39 "MeetingsAboveModel" "noted" "[I") (by decide +kernel)) (fun _ h9 => h9) rfl dX9_notice_82 ?_
                  refine lv_bipush (v := 8) hx hb dX9_notice_85 (by decide) ?_
                  refine lv_iload hx hb dX9_notice_87 (lv_at hl 6 rfl) ?_
                  refine lv_imul hx hb dX9_notice_89 ?_
                  refine lv_topi (fun y_91 ey_91 => ?_)
                  have ty_91 : y_91.toInt = 8 * k6.toInt := by rw [ey_91]; exact fm_lI kl_8 (by omega) (by omega)
                  refine va_iald hx hb hK hP 0 0 rfl rfl (vp_in_iff.mpr ⟨by omega, by omega⟩) dX9_notice_90 ?_
                  refine lv_topi (fun y_92 ey_92 => ?_)
                  have ny_92 : (((y_91 : Int32).toNatClampNeg : Nat) : Int) = (y_91 : Int32).toInt := tc_I (by omega)
                  have uy_92 : y_92.toInt = (No (8 * k6.toInt.toNat)).toInt := by rw [ey_92, show (y_91 : Int32).toNatClampNeg = 8 * k6.toInt.toNat by omega]
                  refine lv_iload_n hx hb dX9_notice_91 rfl (lv_at hl 3 rfl) ?_
                  refine lv_icmp_ne (tgt := 117) hx hb dX9_notice_92 (by decide) (fun c_92 => ?_) (fun c_92 => ?_)
                  · have t_92 := mt (fa_eq _ _).mpr c_92
                    refine lv_iload hx hb dX9_notice_117 (lv_at hl 5 rfl) ?_
                    have hls8 : lsP (mNV No) (k6.toInt.toNat + 1) (p1).toInt (p1).toInt b5.toInt := ls_n (fun z9 => by have z1 : (No (8 * k6.toInt.toNat)).toInt = (p1).toInt := z9.1; have z2 : (No (8 * k6.toInt.toNat + 1)).toInt = (p1).toInt := z9.2; omega) hls
                    refine lv_istore (lv' := [(5, .int b5), (0, .ref h0), (1, .int p1), (2, .int p2), (3, .int p1), (4, .int p1), (6, .int k6)]) hx hb dX9_notice_119 hl (by decide) rfl (fun ls hl => ?_)
                    obtain ⟨y_93, ey_93⟩ : ∃ y : Int32, y = k6 + 1 := ⟨_, rfl⟩
                    have ty_93 : y_93.toInt = k6.toInt + 1 := by rw [ey_93]; have := fb_addI (x := k6) (y := 1) (by omega) (by omega); omega
                    refine lv_iinc (v := y_93) (lv' := [(6, .int y_93), (5, .int b5), (0, .ref h0), (1, .int p1), (2, .int p2), (3, .int p1), (4, .int p1)]) hx hb dX9_notice_121 hl (k := 6) rfl (by rw [ey_93]; rfl) (by decide) rfl (fun ls hl => ?_)
                    refine lv_goto (tgt := 72) hx hb dX9_notice_124 (by decide) ?_
                    exact ih_72 b5 y_93 (by omega) (by omega) (by rw [show (y_93).toInt.toNat = k6.toInt.toNat + 1 by omega]; exact hls8) (by omega) H _ (hP.sub [0, 1, 2, 3, 4, 5] rfl) (hD.sub [0, 1, 2, 3, 4, 5] (by decide) rfl) hS ls (lv_sub hl [2, 3, 4, 5, 6, 1, 0] rfl)
                  · have t_92 := (fa_eq _ _).mp c_92
                    refine lv_aload_n hx hb dX9_notice_95 rfl (lv_at hl 0 rfl) ?_
                    refine va_get (D := (dC, dI)) (ci := 9) (v := .ref a8) (C := RX9) (T := TX9) (N := 22) hx hb hts in_X9_noticeE_X9 hown hK hP 1 rfl rfl 12 (by decide) (hts (.fieldLink RX9 39 "MeetingsAboveModel" "noted" "[I") (by decide +kernel)) (fun _ h9 => h9) rfl dX9_notice_96 ?_
                    refine lv_bipush (v := 8) hx hb dX9_notice_99 (by decide) ?_
                    refine lv_iload hx hb dX9_notice_101 (lv_at hl 6 rfl) ?_
                    refine lv_imul hx hb dX9_notice_103 ?_
                    refine lv_topi (fun y_94 ey_94 => ?_)
                    have ty_94 : y_94.toInt = 8 * k6.toInt := by rw [ey_94]; exact fm_lI kl_8 (by omega) (by omega)
                    refine lv_iconst (v := 1) hx hb dX9_notice_104 (by decide) ?_
                    refine lv_iadd hx hb dX9_notice_105 ?_
                    refine lv_topi (fun y_95 ey_95 => ?_)
                    have ty_95 : y_95.toInt = y_94.toInt + 1 := by rw [ey_95]; have := fb_addI (x := y_94) (y := 1) (by omega) (by omega); omega
                    refine va_iald hx hb hK hP 0 0 rfl rfl (vp_in_iff.mpr ⟨by omega, by omega⟩) dX9_notice_106 ?_
                    refine lv_topi (fun y_96 ey_96 => ?_)
                    have ny_96 : (((y_95 : Int32).toNatClampNeg : Nat) : Int) = (y_95 : Int32).toInt := tc_I (by omega)
                    have uy_96 : y_96.toInt = (No (8 * k6.toInt.toNat + 1)).toInt := by rw [ey_96, show (y_95 : Int32).toNatClampNeg = 8 * k6.toInt.toNat + 1 by omega]
                    refine lv_iload hx hb dX9_notice_107 (lv_at hl 4 rfl) ?_
                    refine lv_icmp_ne (tgt := 117) hx hb dX9_notice_109 (by decide) (fun c_109 => ?_) (fun c_109 => ?_)
                    · have t_109 := mt (fa_eq _ _).mpr c_109
                      refine lv_iload hx hb dX9_notice_117 (lv_at hl 5 rfl) ?_
                      have hls8 : lsP (mNV No) (k6.toInt.toNat + 1) (p1).toInt (p1).toInt b5.toInt := ls_n (fun z9 => by have z1 : (No (8 * k6.toInt.toNat)).toInt = (p1).toInt := z9.1; have z2 : (No (8 * k6.toInt.toNat + 1)).toInt = (p1).toInt := z9.2; omega) hls
                      refine lv_istore (lv' := [(5, .int b5), (0, .ref h0), (1, .int p1), (2, .int p2), (3, .int p1), (4, .int p1), (6, .int k6)]) hx hb dX9_notice_119 hl (by decide) rfl (fun ls hl => ?_)
                      obtain ⟨y_97, ey_97⟩ : ∃ y : Int32, y = k6 + 1 := ⟨_, rfl⟩
                      have ty_97 : y_97.toInt = k6.toInt + 1 := by rw [ey_97]; have := fb_addI (x := k6) (y := 1) (by omega) (by omega); omega
                      refine lv_iinc (v := y_97) (lv' := [(6, .int y_97), (5, .int b5), (0, .ref h0), (1, .int p1), (2, .int p2), (3, .int p1), (4, .int p1)]) hx hb dX9_notice_121 hl (k := 6) rfl (by rw [ey_97]; rfl) (by decide) rfl (fun ls hl => ?_)
                      refine lv_goto (tgt := 72) hx hb dX9_notice_124 (by decide) ?_
                      exact ih_72 b5 y_97 (by omega) (by omega) (by rw [show (y_97).toInt.toNat = k6.toInt.toNat + 1 by omega]; exact hls8) (by omega) H _ (hP.sub [0, 1, 2, 3, 4, 5] rfl) (hD.sub [0, 1, 2, 3, 4, 5] (by decide) rfl) hS ls (lv_sub hl [2, 3, 4, 5, 6, 1, 0] rfl)
                    · have t_109 := (fa_eq _ _).mp c_109
                      refine lv_iload hx hb dX9_notice_112 (lv_at hl 6 rfl) ?_
                      refine lv_goto (tgt := 119) hx hb dX9_notice_114 (by decide) ?_
                      have hls8 : lsP (mNV No) (k6.toInt.toNat + 1) (p1).toInt (p1).toInt k6.toInt := by rw [show k6.toInt = ((k6.toInt.toNat : Nat) : Int) by omega]; exact ls_y ⟨(by omega : (No (8 * k6.toInt.toNat)).toInt = (p1).toInt), (by omega : (No (8 * k6.toInt.toNat + 1)).toInt = (p1).toInt)⟩
                      refine lv_istore (lv' := [(5, .int k6), (0, .ref h0), (1, .int p1), (2, .int p2), (3, .int p1), (4, .int p1), (6, .int k6)]) hx hb dX9_notice_119 hl (by decide) rfl (fun ls hl => ?_)
                      obtain ⟨y_98, ey_98⟩ : ∃ y : Int32, y = k6 + 1 := ⟨_, rfl⟩
                      have ty_98 : y_98.toInt = k6.toInt + 1 := by rw [ey_98]; have := fb_addI (x := k6) (y := 1) (by omega) (by omega); omega
                      refine lv_iinc (v := y_98) (lv' := [(6, .int y_98), (5, .int k6), (0, .ref h0), (1, .int p1), (2, .int p2), (3, .int p1), (4, .int p1)]) hx hb dX9_notice_121 hl (k := 6) rfl (by rw [ey_98]; rfl) (by decide) rfl (fun ls hl => ?_)
                      refine lv_goto (tgt := 72) hx hb dX9_notice_124 (by decide) ?_
                      exact ih_72 k6 y_98 (by omega) (by omega) (by rw [show (y_98).toInt.toNat = k6.toInt.toNat + 1 by omega]; exact hls8) (by omega) H _ (hP.sub [0, 1, 2, 3, 4, 5] rfl) (hD.sub [0, 1, 2, 3, 4, 5] (by decide) rfl) hS ls (lv_sub hl [2, 3, 4, 5, 6, 1, 0] rfl)
            · have t_56 := mt (fa_le _ _).mpr c_56
              refine lv_iload_n hx hb dX9_notice_59 rfl (lv_at hl 3 rfl) ?_
              refine lv_goto (tgt := 64) hx hb dX9_notice_60 (by decide) ?_
              refine lv_istore (lv' := [(4, .int p2), (3, .int p1), (0, .ref h0), (1, .int p1), (2, .int p2)]) hx hb dX9_notice_64 hl (by decide) rfl (fun ls hl => ?_)
              refine lv_iconst (v := (-1)) hx hb dX9_notice_66 (by decide) ?_
              refine lv_istore (lv' := [(5, .int (-1)), (4, .int p2), (3, .int p1), (0, .ref h0), (1, .int p1), (2, .int p2)]) hx hb dX9_notice_67 hl (by decide) rfl (fun ls hl => ?_)
              refine lv_iconst (v := 0) hx hb dX9_notice_69 (by decide) ?_
              refine lv_istore (lv' := [(6, .int 0), (5, .int (-1)), (4, .int p2), (3, .int p1), (0, .ref h0), (1, .int p1), (2, .int p2)]) hx hb dX9_notice_70 hl (by decide) rfl (fun ls hl => ?_)
              refine (show ∀ (k : Nat) (b5 : Int32) (k6 : Int32) (hk0 : 0 ≤ k6.toInt) (hk1 : k6.toInt ≤ nn.toInt) (hls : lsP (mNV No) k6.toInt.toNat (p1).toInt (p2).toInt b5.toInt) (hk_72 : (nn.toInt - k6.toInt).toNat < k) (H : Heap) (locs : List Loc) (hP : va_P (dC, dI) vwCl [(a8, .inl (cI, 320, .inl No)), (h0, .inr (9, [.int th, .ref a1, .ref a2, .ref a3, .ref a4, .ref a5, .int ne, .int wi, .int dn, .ref a6, .ref a7, .int nn, .ref a8, .int la, .ref a9, .ref a10, .long up9_5, .long lw9_6, .int wh9_7, .long pu9_8, .long pw9_9, .ref a11])), (a1, .inl (cI, 16, .inl Fi)), (a2, .inl (cI, 16, .inl Ma)), (a4, .inl (cZ, 16, .inl Go)), (a5, .inl (cI, 576, .inl Sp))] H) (hD : va_D A [(a8, .inl (cI, 320, .inl No)), (h0, .inr (9, [.int th, .ref a1, .ref a2, .ref a3, .ref a4, .ref a5, .int ne, .int wi, .int dn, .ref a6, .ref a7, .int nn, .ref a8, .int la, .ref a9, .ref a10, .long up9_5, .long lw9_6, .int wh9_7, .long pu9_8, .long pw9_9, .ref a11])), (a1, .inl (cI, 16, .inl Fi)), (a2, .inl (cI, 16, .inl Ma)), (a4, .inl (cZ, 16, .inl Go)), (a5, .inl (cI, 576, .inl Sp))]) (hS : va_S A s.heap H locs) (ls : Array Slot) (hl : lv_has ls 7 [(0, .ref h0), (1, .int p1), (2, .int p2), (3, .int p1), (4, .int p2), (5, .int b5), (6, .int k6)]), W p l e _ s m _ below meth c H locs 0 0 _ (F0 m 72 ls []) from ?_) _ (-1) 0 (by omega) (by omega) (by rw [show (0 : Int32).toInt.toNat = 0 by omega]; exact ls_0 _ _ _) (Nat.lt_succ_self _) H _ hP hD hS ls (lv_sub hl [4, 5, 6, 3, 2, 1, 0] rfl)
              intro k
              induction k with
              | zero => intro b5 k6 hk0 hk1 hls hk_72; exact absurd hk_72 (Nat.not_lt_zero _)
              | succ k ih_72 =>
                intro b5 k6 hk0 hk1 hls hk_72 H locs hP hD hS ls hl
                refine lv_iload hx hb dX9_notice_72 (lv_at hl 6 rfl) ?_
                refine lv_aload_n hx hb dX9_notice_74 rfl (lv_at hl 0 rfl) ?_
                refine va_get (D := (dC, dI)) (ci := 9) (v := .int nn) (C := RX9) (T := TX9) (N := 22) hx hb hts in_X9_noticeE_X9 hown hK hP 1 rfl rfl 11 (by decide) (hts (.fieldLink RX9 115 "MeetingsAboveModel" "notices" "I") (by decide +kernel)) (fun _ h9 => h9) rfl dX9_notice_75 ?_
                refine lv_icmp_ge (tgt := 127) hx hb dX9_notice_78 (by decide) (fun c_78 => ?_) (fun c_78 => ?_)
                · have t_78 := (fa_le _ _).mp c_78
                  have hls9 : lsP (mNV No) nn.toNatClampNeg (p1).toInt (p2).toInt b5.toInt := by rw [show nn.toNatClampNeg = k6.toInt.toNat by omega]; exact hls
                  have rg9 := ls_rg hls9
                  refine lv_aload_n hx hb dX9_notice_127 rfl (lv_at hl 0 rfl) ?_
                  refine va_get (D := (dC, dI)) (ci := 9) (v := .int nn) (C := RX9) (T := TX9) (N := 22) hx hb hts in_X9_noticeE_X9 hown hK hP 1 rfl rfl 11 (by decide) (hts (.fieldLink RX9 115 "MeetingsAboveModel" "notices" "I") (by decide +kernel)) (fun _ h9 => h9) rfl dX9_notice_128 ?_
                  refine lv_istore (lv' := [(6, .int nn), (0, .ref h0), (1, .int p1), (2, .int p2), (3, .int p1), (4, .int p2), (5, .int b5)]) hx hb dX9_notice_131 hl (by decide) rfl (fun ls hl => ?_)
                  refine lv_aload_n hx hb dX9_notice_133 rfl (lv_at hl 1 rfl) ?_
                  refine va_get (D := (dC, dI)) (ci := 9) (v := .ref a8) (C := RX9) (T := TX9) (N := 22) hx hb hts in_X9_noticeE_X9 hown hK hP 1 rfl rfl 12 (by decide) (hts (.fieldLink RX9 39 "MeetingsAboveModel" "noted" "[I") (by decide +kernel)) (fun _ h9 => h9) rfl dX9_notice_134 ?_
                  refine lv_bipush (v := 8) hx hb dX9_notice_137 (by decide) ?_
                  refine lv_iload hx hb dX9_notice_139 (lv_at hl 0 rfl) ?_
                  refine lv_imul hx hb dX9_notice_141 ?_
                  refine lv_topi (fun y_99 ey_99 => ?_)
                  have ty_99 : y_99.toInt = 8 * nn.toInt := by rw [ey_99]; exact fm_lI kl_8 (by omega) (by omega)
                  refine lv_iload_n hx hb dX9_notice_142 rfl (lv_at hl 4 rfl) ?_
                  refine va_iast hx hb hK hP hD hS 0 0 rfl rfl (vp_in_iff.mpr ⟨by omega, by omega⟩) dX9_notice_143 (fun H locs hP hD hS => ?_)
                  have hP : va_P (dC, dI) vwCl [(a8, .inl (cI, 320, .inl (upd No (y_99 : Int32).toNatClampNeg p1))), (h0, .inr (9, [.int th, .ref a1, .ref a2, .ref a3, .ref a4, .ref a5, .int ne, .int wi, .int dn, .ref a6, .ref a7, .int nn, .ref a8, .int la, .ref a9, .ref a10, .long up9_5, .long lw9_6, .int wh9_7, .long pu9_8, .long pw9_9, .ref a11])), (a1, .inl (cI, 16, .inl Fi)), (a2, .inl (cI, 16, .inl Ma)), (a4, .inl (cZ, 16, .inl Go)), (a5, .inl (cI, 576, .inl Sp))] H := hP
                  have hD : va_D A [(a8, .inl (cI, 320, .inl (upd No (y_99 : Int32).toNatClampNeg p1))), (h0, .inr (9, [.int th, .ref a1, .ref a2, .ref a3, .ref a4, .ref a5, .int ne, .int wi, .int dn, .ref a6, .ref a7, .int nn, .ref a8, .int la, .ref a9, .ref a10, .long up9_5, .long lw9_6, .int wh9_7, .long pu9_8, .long pw9_9, .ref a11])), (a1, .inl (cI, 16, .inl Fi)), (a2, .inl (cI, 16, .inl Ma)), (a4, .inl (cZ, 16, .inl Go)), (a5, .inl (cI, 576, .inl Sp))] := hD
                  have ix_0 : (y_99).toNatClampNeg = 8 * nn.toNatClampNeg := (by have n9 : (((y_99).toNatClampNeg : Nat) : Int) = (y_99).toInt := tc_I (by omega); omega)
                  refine lv_aload_n hx hb dX9_notice_144 rfl (lv_at hl 1 rfl) ?_
                  refine va_get (D := (dC, dI)) (ci := 9) (v := .ref a8) (C := RX9) (T := TX9) (N := 22) hx hb hts in_X9_noticeE_X9 hown hK hP 1 rfl rfl 12 (by decide) (hts (.fieldLink RX9 39 "MeetingsAboveModel" "noted" "[I") (by decide +kernel)) (fun _ h9 => h9) rfl dX9_notice_145 ?_
                  refine lv_bipush (v := 8) hx hb dX9_notice_148 (by decide) ?_
                  refine lv_iload hx hb dX9_notice_150 (lv_at hl 0 rfl) ?_
                  refine lv_imul hx hb dX9_notice_152 ?_
                  refine lv_topi (fun y_100 ey_100 => ?_)
                  have ty_100 : y_100.toInt = 8 * nn.toInt := by rw [ey_100]; exact fm_lI kl_8 (by omega) (by omega)
                  refine lv_iconst (v := 1) hx hb dX9_notice_153 (by decide) ?_
                  refine lv_iadd hx hb dX9_notice_154 ?_
                  refine lv_topi (fun y_101 ey_101 => ?_)
                  have ty_101 : y_101.toInt = y_100.toInt + 1 := by rw [ey_101]; have := fb_addI (x := y_100) (y := 1) (by omega) (by omega); omega
                  refine lv_iload hx hb dX9_notice_155 (lv_at hl 5 rfl) ?_
                  refine va_iast hx hb hK hP hD hS 0 0 rfl rfl (vp_in_iff.mpr ⟨by omega, by omega⟩) dX9_notice_157 (fun H locs hP hD hS => ?_)
                  have hP : va_P (dC, dI) vwCl [(a8, .inl (cI, 320, .inl (upd (upd No (y_99 : Int32).toNatClampNeg p1) (y_101 : Int32).toNatClampNeg p2))), (h0, .inr (9, [.int th, .ref a1, .ref a2, .ref a3, .ref a4, .ref a5, .int ne, .int wi, .int dn, .ref a6, .ref a7, .int nn, .ref a8, .int la, .ref a9, .ref a10, .long up9_5, .long lw9_6, .int wh9_7, .long pu9_8, .long pw9_9, .ref a11])), (a1, .inl (cI, 16, .inl Fi)), (a2, .inl (cI, 16, .inl Ma)), (a4, .inl (cZ, 16, .inl Go)), (a5, .inl (cI, 576, .inl Sp))] H := hP
                  have hD : va_D A [(a8, .inl (cI, 320, .inl (upd (upd No (y_99 : Int32).toNatClampNeg p1) (y_101 : Int32).toNatClampNeg p2))), (h0, .inr (9, [.int th, .ref a1, .ref a2, .ref a3, .ref a4, .ref a5, .int ne, .int wi, .int dn, .ref a6, .ref a7, .int nn, .ref a8, .int la, .ref a9, .ref a10, .long up9_5, .long lw9_6, .int wh9_7, .long pu9_8, .long pw9_9, .ref a11])), (a1, .inl (cI, 16, .inl Fi)), (a2, .inl (cI, 16, .inl Ma)), (a4, .inl (cZ, 16, .inl Go)), (a5, .inl (cI, 576, .inl Sp))] := hD
                  have ix_1 : (y_101).toNatClampNeg = 8 * nn.toNatClampNeg + 1 := (by have n9 : (((y_101).toNatClampNeg : Nat) : Int) = (y_101).toInt := tc_I (by omega); omega)
                  refine lv_aload_n hx hb dX9_notice_158 rfl (lv_at hl 1 rfl) ?_
                  refine va_get (D := (dC, dI)) (ci := 9) (v := .ref a8) (C := RX9) (T := TX9) (N := 22) hx hb hts in_X9_noticeE_X9 hown hK hP 1 rfl rfl 12 (by decide) (hts (.fieldLink RX9 39 "MeetingsAboveModel" "noted" "[I") (by decide +kernel)) (fun _ h9 => h9) rfl dX9_notice_159 ?_
                  refine lv_bipush (v := 8) hx hb dX9_notice_162 (by decide) ?_
                  refine lv_iload hx hb dX9_notice_164 (lv_at hl 0 rfl) ?_
                  refine lv_imul hx hb dX9_notice_166 ?_
                  refine lv_topi (fun y_102 ey_102 => ?_)
                  have ty_102 : y_102.toInt = 8 * nn.toInt := by rw [ey_102]; exact fm_lI kl_8 (by omega) (by omega)
                  refine lv_iconst (v := 2) hx hb dX9_notice_167 (by decide) ?_
                  refine lv_iadd hx hb dX9_notice_168 ?_
                  refine lv_topi (fun y_103 ey_103 => ?_)
                  have ty_103 : y_103.toInt = y_102.toInt + 2 := by rw [ey_103]; have := fb_addI (x := y_102) (y := 2) (by omega) (by omega); omega
                  refine lv_aload_n hx hb dX9_notice_169 rfl (lv_at hl 1 rfl) ?_
                  refine va_get (D := (dC, dI)) (ci := 9) (v := .long up9_5) (C := RX9) (T := TX9) (N := 22) hx hb hts in_X9_noticeE_X9 hown hK hP 1 rfl rfl 16 (by decide) (hts (.fieldLink RX9 121 "MeetingsAboveModel" "upper" "J") (by decide +kernel)) (fun _ h9 => h9) rfl dX9_notice_170 ?_
                  refine lv_aload_n hx hb dX9_notice_173 rfl (lv_at hl 1 rfl) ?_
                  refine va_get (D := (dC, dI)) (ci := 9) (v := .long lw9_6) (C := RX9) (T := TX9) (N := 22) hx hb hts in_X9_noticeE_X9 hown hK hP 1 rfl rfl 17 (by decide) (hts (.fieldLink RX9 125 "MeetingsAboveModel" "lower" "J") (by decide +kernel)) (fun _ h9 => h9) rfl dX9_notice_174 ?_
                  refine lv_ldiv hx hb dX9_notice_177 (fun h9 => by have h8 := hbd9.1; rw [h9, klL_0] at h8; omega) ?_
                  refine lv_topl (fun y_104 ey_104 => ?_)
                  refine lv_l2i hx hb dX9_notice_178 rfl ?_
                  refine lv_topi (fun y_105 ey_105 => ?_)
                  refine va_iast hx hb hK hP hD hS 0 0 rfl rfl (vp_in_iff.mpr ⟨by omega, by omega⟩) dX9_notice_179 (fun H locs hP hD hS => ?_)
                  have hP : va_P (dC, dI) vwCl [(a8, .inl (cI, 320, .inl (upd (upd (upd No (y_99 : Int32).toNatClampNeg p1) (y_101 : Int32).toNatClampNeg p2) (y_103 : Int32).toNatClampNeg y_105))), (h0, .inr (9, [.int th, .ref a1, .ref a2, .ref a3, .ref a4, .ref a5, .int ne, .int wi, .int dn, .ref a6, .ref a7, .int nn, .ref a8, .int la, .ref a9, .ref a10, .long up9_5, .long lw9_6, .int wh9_7, .long pu9_8, .long pw9_9, .ref a11])), (a1, .inl (cI, 16, .inl Fi)), (a2, .inl (cI, 16, .inl Ma)), (a4, .inl (cZ, 16, .inl Go)), (a5, .inl (cI, 576, .inl Sp))] H := hP
                  have hD : va_D A [(a8, .inl (cI, 320, .inl (upd (upd (upd No (y_99 : Int32).toNatClampNeg p1) (y_101 : Int32).toNatClampNeg p2) (y_103 : Int32).toNatClampNeg y_105))), (h0, .inr (9, [.int th, .ref a1, .ref a2, .ref a3, .ref a4, .ref a5, .int ne, .int wi, .int dn, .ref a6, .ref a7, .int nn, .ref a8, .int la, .ref a9, .ref a10, .long up9_5, .long lw9_6, .int wh9_7, .long pu9_8, .long pw9_9, .ref a11])), (a1, .inl (cI, 16, .inl Fi)), (a2, .inl (cI, 16, .inl Ma)), (a4, .inl (cZ, 16, .inl Go)), (a5, .inl (cI, 576, .inl Sp))] := hD
                  have ix_2 : (y_103).toNatClampNeg = 8 * nn.toNatClampNeg + 2 := (by have n9 : (((y_103).toNatClampNeg : Nat) : Int) = (y_103).toInt := tc_I (by omega); omega)
                  refine lv_aload_n hx hb dX9_notice_180 rfl (lv_at hl 1 rfl) ?_
                  refine va_get (D := (dC, dI)) (ci := 9) (v := .ref a8) (C := RX9) (T := TX9) (N := 22) hx hb hts in_X9_noticeE_X9 hown hK hP 1 rfl rfl 12 (by decide) (hts (.fieldLink RX9 39 "MeetingsAboveModel" "noted" "[I") (by decide +kernel)) (fun _ h9 => h9) rfl dX9_notice_181 ?_
                  refine lv_bipush (v := 8) hx hb dX9_notice_184 (by decide) ?_
                  refine lv_iload hx hb dX9_notice_186 (lv_at hl 0 rfl) ?_
                  refine lv_imul hx hb dX9_notice_188 ?_
                  refine lv_topi (fun y_106 ey_106 => ?_)
                  have ty_106 : y_106.toInt = 8 * nn.toInt := by rw [ey_106]; exact fm_lI kl_8 (by omega) (by omega)
                  refine lv_iconst (v := 3) hx hb dX9_notice_189 (by decide) ?_
                  refine lv_iadd hx hb dX9_notice_190 ?_
                  refine lv_topi (fun y_107 ey_107 => ?_)
                  have ty_107 : y_107.toInt = y_106.toInt + 3 := by rw [ey_107]; have := fb_addI (x := y_106) (y := 3) (by omega) (by omega); omega
                  refine lv_aload_n hx hb dX9_notice_191 rfl (lv_at hl 1 rfl) ?_
                  refine va_get (D := (dC, dI)) (ci := 9) (v := .int wh9_7) (C := RX9) (T := TX9) (N := 22) hx hb hts in_X9_noticeE_X9 hown hK hP 1 rfl rfl 18 (by decide) (hts (.fieldLink RX9 128 "MeetingsAboveModel" "when" "I") (by decide +kernel)) (fun _ h9 => h9) rfl dX9_notice_192 ?_
                  refine va_iast hx hb hK hP hD hS 0 0 rfl rfl (vp_in_iff.mpr ⟨by omega, by omega⟩) dX9_notice_195 (fun H locs hP hD hS => ?_)
                  have hP : va_P (dC, dI) vwCl [(a8, .inl (cI, 320, .inl (upd (upd (upd (upd No (y_99 : Int32).toNatClampNeg p1) (y_101 : Int32).toNatClampNeg p2) (y_103 : Int32).toNatClampNeg y_105) (y_107 : Int32).toNatClampNeg wh9_7))), (h0, .inr (9, [.int th, .ref a1, .ref a2, .ref a3, .ref a4, .ref a5, .int ne, .int wi, .int dn, .ref a6, .ref a7, .int nn, .ref a8, .int la, .ref a9, .ref a10, .long up9_5, .long lw9_6, .int wh9_7, .long pu9_8, .long pw9_9, .ref a11])), (a1, .inl (cI, 16, .inl Fi)), (a2, .inl (cI, 16, .inl Ma)), (a4, .inl (cZ, 16, .inl Go)), (a5, .inl (cI, 576, .inl Sp))] H := hP
                  have hD : va_D A [(a8, .inl (cI, 320, .inl (upd (upd (upd (upd No (y_99 : Int32).toNatClampNeg p1) (y_101 : Int32).toNatClampNeg p2) (y_103 : Int32).toNatClampNeg y_105) (y_107 : Int32).toNatClampNeg wh9_7))), (h0, .inr (9, [.int th, .ref a1, .ref a2, .ref a3, .ref a4, .ref a5, .int ne, .int wi, .int dn, .ref a6, .ref a7, .int nn, .ref a8, .int la, .ref a9, .ref a10, .long up9_5, .long lw9_6, .int wh9_7, .long pu9_8, .long pw9_9, .ref a11])), (a1, .inl (cI, 16, .inl Fi)), (a2, .inl (cI, 16, .inl Ma)), (a4, .inl (cZ, 16, .inl Go)), (a5, .inl (cI, 576, .inl Sp))] := hD
                  have ix_3 : (y_107).toNatClampNeg = 8 * nn.toNatClampNeg + 3 := (by have n9 : (((y_107).toNatClampNeg : Nat) : Int) = (y_107).toInt := tc_I (by omega); omega)
                  refine lv_aload_n hx hb dX9_notice_196 rfl (lv_at hl 1 rfl) ?_
                  refine va_get (D := (dC, dI)) (ci := 9) (v := .ref a8) (C := RX9) (T := TX9) (N := 22) hx hb hts in_X9_noticeE_X9 hown hK hP 1 rfl rfl 12 (by decide) (hts (.fieldLink RX9 39 "MeetingsAboveModel" "noted" "[I") (by decide +kernel)) (fun _ h9 => h9) rfl dX9_notice_197 ?_
                  refine lv_bipush (v := 8) hx hb dX9_notice_200 (by decide) ?_
                  refine lv_iload hx hb dX9_notice_202 (lv_at hl 0 rfl) ?_
                  refine lv_imul hx hb dX9_notice_204 ?_
                  refine lv_topi (fun y_108 ey_108 => ?_)
                  have ty_108 : y_108.toInt = 8 * nn.toInt := by rw [ey_108]; exact fm_lI kl_8 (by omega) (by omega)
                  refine lv_iconst (v := 4) hx hb dX9_notice_205 (by decide) ?_
                  refine lv_iadd hx hb dX9_notice_206 ?_
                  refine lv_topi (fun y_109 ey_109 => ?_)
                  have ty_109 : y_109.toInt = y_108.toInt + 4 := by rw [ey_109]; have := fb_addI (x := y_108) (y := 4) (by omega) (by omega); omega
                  refine lv_iload hx hb dX9_notice_207 (lv_at hl 6 rfl) ?_
                  refine va_iast hx hb hK hP hD hS 0 0 rfl rfl (vp_in_iff.mpr ⟨by omega, by omega⟩) dX9_notice_209 (fun H locs hP hD hS => ?_)
                  have hP : va_P (dC, dI) vwCl [(a8, .inl (cI, 320, .inl (upd (upd (upd (upd (upd No (y_99 : Int32).toNatClampNeg p1) (y_101 : Int32).toNatClampNeg p2) (y_103 : Int32).toNatClampNeg y_105) (y_107 : Int32).toNatClampNeg wh9_7) (y_109 : Int32).toNatClampNeg b5))), (h0, .inr (9, [.int th, .ref a1, .ref a2, .ref a3, .ref a4, .ref a5, .int ne, .int wi, .int dn, .ref a6, .ref a7, .int nn, .ref a8, .int la, .ref a9, .ref a10, .long up9_5, .long lw9_6, .int wh9_7, .long pu9_8, .long pw9_9, .ref a11])), (a1, .inl (cI, 16, .inl Fi)), (a2, .inl (cI, 16, .inl Ma)), (a4, .inl (cZ, 16, .inl Go)), (a5, .inl (cI, 576, .inl Sp))] H := hP
                  have hD : va_D A [(a8, .inl (cI, 320, .inl (upd (upd (upd (upd (upd No (y_99 : Int32).toNatClampNeg p1) (y_101 : Int32).toNatClampNeg p2) (y_103 : Int32).toNatClampNeg y_105) (y_107 : Int32).toNatClampNeg wh9_7) (y_109 : Int32).toNatClampNeg b5))), (h0, .inr (9, [.int th, .ref a1, .ref a2, .ref a3, .ref a4, .ref a5, .int ne, .int wi, .int dn, .ref a6, .ref a7, .int nn, .ref a8, .int la, .ref a9, .ref a10, .long up9_5, .long lw9_6, .int wh9_7, .long pu9_8, .long pw9_9, .ref a11])), (a1, .inl (cI, 16, .inl Fi)), (a2, .inl (cI, 16, .inl Ma)), (a4, .inl (cZ, 16, .inl Go)), (a5, .inl (cI, 576, .inl Sp))] := hD
                  have ix_4 : (y_109).toNatClampNeg = 8 * nn.toNatClampNeg + 4 := (by have n9 : (((y_109).toNatClampNeg : Nat) : Int) = (y_109).toInt := tc_I (by omega); omega)
                  refine lv_aload_n hx hb dX9_notice_210 rfl (lv_at hl 1 rfl) ?_
                  refine va_get (D := (dC, dI)) (ci := 9) (v := .ref a8) (C := RX9) (T := TX9) (N := 22) hx hb hts in_X9_noticeE_X9 hown hK hP 1 rfl rfl 12 (by decide) (hts (.fieldLink RX9 39 "MeetingsAboveModel" "noted" "[I") (by decide +kernel)) (fun _ h9 => h9) rfl dX9_notice_211 ?_
                  refine lv_bipush (v := 8) hx hb dX9_notice_214 (by decide) ?_
                  refine lv_iload hx hb dX9_notice_216 (lv_at hl 0 rfl) ?_
                  refine lv_imul hx hb dX9_notice_218 ?_
                  refine lv_topi (fun y_110 ey_110 => ?_)
                  have ty_110 : y_110.toInt = 8 * nn.toInt := by rw [ey_110]; exact fm_lI kl_8 (by omega) (by omega)
                  refine lv_iconst (v := 5) hx hb dX9_notice_219 (by decide) ?_
                  refine lv_iadd hx hb dX9_notice_220 ?_
                  refine lv_topi (fun y_111 ey_111 => ?_)
                  have ty_111 : y_111.toInt = y_110.toInt + 5 := by rw [ey_111]; have := fb_addI (x := y_110) (y := 5) (by omega) (by omega); omega
                  refine lv_iconst (v := 1) hx hb dX9_notice_221 (by decide) ?_
                  refine va_iast hx hb hK hP hD hS 0 0 rfl rfl (vp_in_iff.mpr ⟨by omega, by omega⟩) dX9_notice_222 (fun H locs hP hD hS => ?_)
                  have hP : va_P (dC, dI) vwCl [(a8, .inl (cI, 320, .inl (upd (upd (upd (upd (upd (upd No (y_99 : Int32).toNatClampNeg p1) (y_101 : Int32).toNatClampNeg p2) (y_103 : Int32).toNatClampNeg y_105) (y_107 : Int32).toNatClampNeg wh9_7) (y_109 : Int32).toNatClampNeg b5) (y_111 : Int32).toNatClampNeg 1))), (h0, .inr (9, [.int th, .ref a1, .ref a2, .ref a3, .ref a4, .ref a5, .int ne, .int wi, .int dn, .ref a6, .ref a7, .int nn, .ref a8, .int la, .ref a9, .ref a10, .long up9_5, .long lw9_6, .int wh9_7, .long pu9_8, .long pw9_9, .ref a11])), (a1, .inl (cI, 16, .inl Fi)), (a2, .inl (cI, 16, .inl Ma)), (a4, .inl (cZ, 16, .inl Go)), (a5, .inl (cI, 576, .inl Sp))] H := hP
                  have hD : va_D A [(a8, .inl (cI, 320, .inl (upd (upd (upd (upd (upd (upd No (y_99 : Int32).toNatClampNeg p1) (y_101 : Int32).toNatClampNeg p2) (y_103 : Int32).toNatClampNeg y_105) (y_107 : Int32).toNatClampNeg wh9_7) (y_109 : Int32).toNatClampNeg b5) (y_111 : Int32).toNatClampNeg 1))), (h0, .inr (9, [.int th, .ref a1, .ref a2, .ref a3, .ref a4, .ref a5, .int ne, .int wi, .int dn, .ref a6, .ref a7, .int nn, .ref a8, .int la, .ref a9, .ref a10, .long up9_5, .long lw9_6, .int wh9_7, .long pu9_8, .long pw9_9, .ref a11])), (a1, .inl (cI, 16, .inl Fi)), (a2, .inl (cI, 16, .inl Ma)), (a4, .inl (cZ, 16, .inl Go)), (a5, .inl (cI, 576, .inl Sp))] := hD
                  have ix_5 : (y_111).toNatClampNeg = 8 * nn.toNatClampNeg + 5 := (by have n9 : (((y_111).toNatClampNeg : Nat) : Int) = (y_111).toInt := tc_I (by omega); omega)
                  refine lv_aload_n hx hb dX9_notice_223 rfl (lv_at hl 1 rfl) ?_
                  refine va_get (D := (dC, dI)) (ci := 9) (v := .ref a8) (C := RX9) (T := TX9) (N := 22) hx hb hts in_X9_noticeE_X9 hown hK hP 1 rfl rfl 12 (by decide) (hts (.fieldLink RX9 39 "MeetingsAboveModel" "noted" "[I") (by decide +kernel)) (fun _ h9 => h9) rfl dX9_notice_224 ?_
                  refine lv_bipush (v := 8) hx hb dX9_notice_227 (by decide) ?_
                  refine lv_iload hx hb dX9_notice_229 (lv_at hl 0 rfl) ?_
                  refine lv_imul hx hb dX9_notice_231 ?_
                  refine lv_topi (fun y_112 ey_112 => ?_)
                  have ty_112 : y_112.toInt = 8 * nn.toInt := by rw [ey_112]; exact fm_lI kl_8 (by omega) (by omega)
                  refine lv_bipush (v := 6) hx hb dX9_notice_232 (by decide) ?_
                  refine lv_iadd hx hb dX9_notice_234 ?_
                  refine lv_topi (fun y_113 ey_113 => ?_)
                  have ty_113 : y_113.toInt = y_112.toInt + 6 := by rw [ey_113]; have := fb_addI (x := y_112) (y := 6) (by omega) (by omega); omega
                  refine lv_iconst (v := 0) hx hb dX9_notice_235 (by decide) ?_
                  refine va_iast hx hb hK hP hD hS 0 0 rfl rfl (vp_in_iff.mpr ⟨by omega, by omega⟩) dX9_notice_236 (fun H locs hP hD hS => ?_)
                  have hP : va_P (dC, dI) vwCl [(a8, .inl (cI, 320, .inl (upd (upd (upd (upd (upd (upd (upd No (y_99 : Int32).toNatClampNeg p1) (y_101 : Int32).toNatClampNeg p2) (y_103 : Int32).toNatClampNeg y_105) (y_107 : Int32).toNatClampNeg wh9_7) (y_109 : Int32).toNatClampNeg b5) (y_111 : Int32).toNatClampNeg 1) (y_113 : Int32).toNatClampNeg 0))), (h0, .inr (9, [.int th, .ref a1, .ref a2, .ref a3, .ref a4, .ref a5, .int ne, .int wi, .int dn, .ref a6, .ref a7, .int nn, .ref a8, .int la, .ref a9, .ref a10, .long up9_5, .long lw9_6, .int wh9_7, .long pu9_8, .long pw9_9, .ref a11])), (a1, .inl (cI, 16, .inl Fi)), (a2, .inl (cI, 16, .inl Ma)), (a4, .inl (cZ, 16, .inl Go)), (a5, .inl (cI, 576, .inl Sp))] H := hP
                  have hD : va_D A [(a8, .inl (cI, 320, .inl (upd (upd (upd (upd (upd (upd (upd No (y_99 : Int32).toNatClampNeg p1) (y_101 : Int32).toNatClampNeg p2) (y_103 : Int32).toNatClampNeg y_105) (y_107 : Int32).toNatClampNeg wh9_7) (y_109 : Int32).toNatClampNeg b5) (y_111 : Int32).toNatClampNeg 1) (y_113 : Int32).toNatClampNeg 0))), (h0, .inr (9, [.int th, .ref a1, .ref a2, .ref a3, .ref a4, .ref a5, .int ne, .int wi, .int dn, .ref a6, .ref a7, .int nn, .ref a8, .int la, .ref a9, .ref a10, .long up9_5, .long lw9_6, .int wh9_7, .long pu9_8, .long pw9_9, .ref a11])), (a1, .inl (cI, 16, .inl Fi)), (a2, .inl (cI, 16, .inl Ma)), (a4, .inl (cZ, 16, .inl Go)), (a5, .inl (cI, 576, .inl Sp))] := hD
                  have ix_6 : (y_113).toNatClampNeg = 8 * nn.toNatClampNeg + 6 := (by have n9 : (((y_113).toNatClampNeg : Nat) : Int) = (y_113).toInt := tc_I (by omega); omega)
                  refine lv_aload_n hx hb dX9_notice_237 rfl (lv_at hl 1 rfl) ?_
                  refine va_get (D := (dC, dI)) (ci := 9) (v := .ref a8) (C := RX9) (T := TX9) (N := 22) hx hb hts in_X9_noticeE_X9 hown hK hP 1 rfl rfl 12 (by decide) (hts (.fieldLink RX9 39 "MeetingsAboveModel" "noted" "[I") (by decide +kernel)) (fun _ h9 => h9) rfl dX9_notice_238 ?_
                  refine lv_bipush (v := 8) hx hb dX9_notice_241 (by decide) ?_
                  refine lv_iload hx hb dX9_notice_243 (lv_at hl 0 rfl) ?_
                  refine lv_imul hx hb dX9_notice_245 ?_
                  refine lv_topi (fun y_114 ey_114 => ?_)
                  have ty_114 : y_114.toInt = 8 * nn.toInt := by rw [ey_114]; exact fm_lI kl_8 (by omega) (by omega)
                  refine lv_bipush (v := 7) hx hb dX9_notice_246 (by decide) ?_
                  refine lv_iadd hx hb dX9_notice_248 ?_
                  refine lv_topi (fun y_115 ey_115 => ?_)
                  have ty_115 : y_115.toInt = y_114.toInt + 7 := by rw [ey_115]; have := fb_addI (x := y_114) (y := 7) (by omega) (by omega); omega
                  refine lv_iconst (v := 0) hx hb dX9_notice_249 (by decide) ?_
                  refine va_iast hx hb hK hP hD hS 0 0 rfl rfl (vp_in_iff.mpr ⟨by omega, by omega⟩) dX9_notice_250 (fun H locs hP hD hS => ?_)
                  have hP : va_P (dC, dI) vwCl [(a8, .inl (cI, 320, .inl (upd (upd (upd (upd (upd (upd (upd (upd No (y_99 : Int32).toNatClampNeg p1) (y_101 : Int32).toNatClampNeg p2) (y_103 : Int32).toNatClampNeg y_105) (y_107 : Int32).toNatClampNeg wh9_7) (y_109 : Int32).toNatClampNeg b5) (y_111 : Int32).toNatClampNeg 1) (y_113 : Int32).toNatClampNeg 0) (y_115 : Int32).toNatClampNeg 0))), (h0, .inr (9, [.int th, .ref a1, .ref a2, .ref a3, .ref a4, .ref a5, .int ne, .int wi, .int dn, .ref a6, .ref a7, .int nn, .ref a8, .int la, .ref a9, .ref a10, .long up9_5, .long lw9_6, .int wh9_7, .long pu9_8, .long pw9_9, .ref a11])), (a1, .inl (cI, 16, .inl Fi)), (a2, .inl (cI, 16, .inl Ma)), (a4, .inl (cZ, 16, .inl Go)), (a5, .inl (cI, 576, .inl Sp))] H := hP
                  have hD : va_D A [(a8, .inl (cI, 320, .inl (upd (upd (upd (upd (upd (upd (upd (upd No (y_99 : Int32).toNatClampNeg p1) (y_101 : Int32).toNatClampNeg p2) (y_103 : Int32).toNatClampNeg y_105) (y_107 : Int32).toNatClampNeg wh9_7) (y_109 : Int32).toNatClampNeg b5) (y_111 : Int32).toNatClampNeg 1) (y_113 : Int32).toNatClampNeg 0) (y_115 : Int32).toNatClampNeg 0))), (h0, .inr (9, [.int th, .ref a1, .ref a2, .ref a3, .ref a4, .ref a5, .int ne, .int wi, .int dn, .ref a6, .ref a7, .int nn, .ref a8, .int la, .ref a9, .ref a10, .long up9_5, .long lw9_6, .int wh9_7, .long pu9_8, .long pw9_9, .ref a11])), (a1, .inl (cI, 16, .inl Fi)), (a2, .inl (cI, 16, .inl Ma)), (a4, .inl (cZ, 16, .inl Go)), (a5, .inl (cI, 576, .inl Sp))] := hD
                  have ix_7 : (y_115).toNatClampNeg = 8 * nn.toNatClampNeg + 7 := (by have n9 : (((y_115).toNatClampNeg : Nat) : Int) = (y_115).toInt := tc_I (by omega); omega)
                  refine lv_iload hx hb dX9_notice_251 (lv_at hl 6 rfl) ?_
                  refine lv_if_lt (tgt := 269) hx hb dX9_notice_253 (by decide) (fun c_253 => ?_) (fun c_253 => ?_)
                  · have t_253 := (fa_lt _ _).mp c_253
                    refine lv_aload_n hx hb dX9_notice_269 rfl (lv_at hl 1 rfl) ?_
                    refine lv_dup hx hb dX9_notice_270 rfl ?_
                    refine va_get (D := (dC, dI)) (ci := 9) (v := .int nn) (C := RX9) (T := TX9) (N := 22) hx hb hts in_X9_noticeE_X9 hown hK hP 1 rfl rfl 11 (by decide) (hts (.fieldLink RX9 115 "MeetingsAboveModel" "notices" "I") (by decide +kernel)) (fun _ h9 => h9) rfl dX9_notice_271 ?_
                    refine lv_iconst (v := 1) hx hb dX9_notice_274 (by decide) ?_
                    refine lv_iadd hx hb dX9_notice_275 ?_
                    refine lv_topi (fun y_116 ey_116 => ?_)
                    have ty_116 : y_116.toInt = nn.toInt + 1 := by rw [ey_116]; have := fb_addI (x := nn) (y := 1) (by omega) (by omega); omega
                    refine va_put (D := (dC, dI)) (ci := 9) (v := .int y_116) (ty := .int) (C := RX9) (T := TX9) (N := 22) hx hb hts in_X9_noticeE_X9 tyX9 tyX9_ok nmX9 hown hK hP hD hS 1 rfl rfl 11 (by decide) (hts (.fieldLink RX9 115 "MeetingsAboveModel" "notices" "I") (by decide +kernel)) (fun _ h9 => h9) rfl (by decide +kernel) rfl rfl (Nat.le_of_ble_eq_true rfl) dX9_notice_276 (fun H locs hP hD hS => ?_)
                    have hP : va_P (dC, dI) vwCl [(a8, .inl (cI, 320, .inl (upd (upd (upd (upd (upd (upd (upd (upd No (y_99 : Int32).toNatClampNeg p1) (y_101 : Int32).toNatClampNeg p2) (y_103 : Int32).toNatClampNeg y_105) (y_107 : Int32).toNatClampNeg wh9_7) (y_109 : Int32).toNatClampNeg b5) (y_111 : Int32).toNatClampNeg 1) (y_113 : Int32).toNatClampNeg 0) (y_115 : Int32).toNatClampNeg 0))), (h0, .inr (9, [.int th, .ref a1, .ref a2, .ref a3, .ref a4, .ref a5, .int ne, .int wi, .int dn, .ref a6, .ref a7, .int y_116, .ref a8, .int la, .ref a9, .ref a10, .long up9_5, .long lw9_6, .int wh9_7, .long pu9_8, .long pw9_9, .ref a11])), (a1, .inl (cI, 16, .inl Fi)), (a2, .inl (cI, 16, .inl Ma)), (a4, .inl (cZ, 16, .inl Go)), (a5, .inl (cI, 576, .inl Sp))] H := hP
                    have hD : va_D A [(a8, .inl (cI, 320, .inl (upd (upd (upd (upd (upd (upd (upd (upd No (y_99 : Int32).toNatClampNeg p1) (y_101 : Int32).toNatClampNeg p2) (y_103 : Int32).toNatClampNeg y_105) (y_107 : Int32).toNatClampNeg wh9_7) (y_109 : Int32).toNatClampNeg b5) (y_111 : Int32).toNatClampNeg 1) (y_113 : Int32).toNatClampNeg 0) (y_115 : Int32).toNatClampNeg 0))), (h0, .inr (9, [.int th, .ref a1, .ref a2, .ref a3, .ref a4, .ref a5, .int ne, .int wi, .int dn, .ref a6, .ref a7, .int y_116, .ref a8, .int la, .ref a9, .ref a10, .long up9_5, .long lw9_6, .int wh9_7, .long pu9_8, .long pw9_9, .ref a11])), (a1, .inl (cI, 16, .inl Fi)), (a2, .inl (cI, 16, .inl Ma)), (a4, .inl (cZ, 16, .inl Go)), (a5, .inl (cI, 576, .inl Sp))] := hD
                    refine lv_iload hx hb dX9_notice_279 (lv_at hl 0 rfl) ?_
                    have hP9 := hP.sub (ws' := [(h0, .inr (9, [.int th, .ref a1, .ref a2, .ref a3, .ref a4, .ref a5, .int ne, .int wi, .int dn, .ref a6, .ref a7, .int y_116, .ref a8, .int la, .ref a9, .ref a10, .long up9_5, .long lw9_6, .int wh9_7, .long pu9_8, .long pw9_9, .ref a11])), (a1, .inl (cI, 16, .inl Fi)), (a2, .inl (cI, 16, .inl Ma)), (a4, .inl (cZ, 16, .inl Go)), (a5, .inl (cI, 576, .inl Sp)), (a8, .inl (cI, 320, .inl (upd (upd (upd (upd (upd (upd (upd (upd No (y_99 : Int32).toNatClampNeg p1) (y_101 : Int32).toNatClampNeg p2) (y_103 : Int32).toNatClampNeg y_105) (y_107 : Int32).toNatClampNeg wh9_7) (y_109 : Int32).toNatClampNeg b5) (y_111 : Int32).toNatClampNeg 1) (y_113 : Int32).toNatClampNeg 0) (y_115 : Int32).toNatClampNeg 0)))]) [1, 2, 3, 4, 5, 0] rfl
                    have hD9 := hD.sub (ws' := [(h0, .inr (9, [.int th, .ref a1, .ref a2, .ref a3, .ref a4, .ref a5, .int ne, .int wi, .int dn, .ref a6, .ref a7, .int y_116, .ref a8, .int la, .ref a9, .ref a10, .long up9_5, .long lw9_6, .int wh9_7, .long pu9_8, .long pw9_9, .ref a11])), (a1, .inl (cI, 16, .inl Fi)), (a2, .inl (cI, 16, .inl Ma)), (a4, .inl (cZ, 16, .inl Go)), (a5, .inl (cI, 576, .inl Sp)), (a8, .inl (cI, 320, .inl (upd (upd (upd (upd (upd (upd (upd (upd No (y_99 : Int32).toNatClampNeg p1) (y_101 : Int32).toNatClampNeg p2) (y_103 : Int32).toNatClampNeg y_105) (y_107 : Int32).toNatClampNeg wh9_7) (y_109 : Int32).toNatClampNeg b5) (y_111 : Int32).toNatClampNeg 1) (y_113 : Int32).toNatClampNeg 0) (y_115 : Int32).toNatClampNeg 0)))]) [1, 2, 3, 4, 5, 0] (by decide) rfl
                    have hK9 := hK.sub (tys' := [(cI, .int), (cZ, .boolean)]) [0, 1] rfl
                    refine W.widen (k := 0) (n := 0) (by omega) (by omega) ?_
                    exact W.iret (v := nn) hx hb hr (fun t ht hW => ⟨⟨_, (), rfl, (Or.inr (Or.inr (Or.inr ⟨⟨⟨by omega, by omega⟩, ⟨by omega, by omega⟩⟩, ⟨⟨⟨by omega, by omega⟩, ⟨by omega, by omega⟩⟩, (tv_1 hw_4 c_25).1, (tv_1 hw_4 c_25).2⟩, by omega, rfl⟩))), up9_5, lw9_6, wh9_7, pu9_8, pw9_9, y_116, (upd (upd (upd (upd (upd (upd (upd (upd No (y_99 : Int32).toNatClampNeg p1) (y_101 : Int32).toNatClampNeg p2) (y_103 : Int32).toNatClampNeg y_105) (y_107 : Int32).toNatClampNeg wh9_7) (y_109 : Int32).toNatClampNeg b5) (y_111 : Int32).toNatClampNeg 1) (y_113 : Int32).toNatClampNeg 0) (y_115 : Int32).toNatClampNeg 0), by rw [ht]; exact hP9, va_K.moved hW.alike hK9, hD9, (by omega), (by omega), (Or.inl ⟨⟨⟨⟨by omega, by omega⟩, ⟨by omega, by omega⟩⟩, (tv_1 hw_4 c_25).1, (tv_1 hw_4 c_25).2⟩, by omega, by omega, p1, p2, y_105, wh9_7, b5, by omega, by omega, hls9, sq_ms (hms_10 (tv_1 hw_4 c_25)) ⟨y_104, ey_105, by rw [ey_104]; exact ldiv_I hbd9.2 (by omega)⟩ rfl, by rw [ix_0, ix_1, ix_2, ix_3, ix_4, ix_5, ix_6, ix_7]; exact nw_n (by omega)⟩)⟩, hS.F ht⟩) hS.2.2 dX9_notice_281
                  · have t_253 := mt (fa_lt _ _).mpr c_253
                    refine lv_aload_n hx hb dX9_notice_256 rfl (lv_at hl 1 rfl) ?_
                    refine va_get (D := (dC, dI)) (ci := 9) (v := .ref a8) (C := RX9) (T := TX9) (N := 22) hx hb hts in_X9_noticeE_X9 hown hK hP 1 rfl rfl 12 (by decide) (hts (.fieldLink RX9 39 "MeetingsAboveModel" "noted" "[I") (by decide +kernel)) (fun _ h9 => h9) rfl dX9_notice_257 ?_
                    refine lv_bipush (v := 8) hx hb dX9_notice_260 (by decide) ?_
                    refine lv_iload hx hb dX9_notice_262 (lv_at hl 6 rfl) ?_
                    refine lv_imul hx hb dX9_notice_264 ?_
                    refine lv_topi (fun y_117 ey_117 => ?_)
                    have ty_117 : y_117.toInt = 8 * b5.toInt := by rw [ey_117]; exact fm_lI kl_8 (by omega) (by omega)
                    refine lv_iconst (v := 5) hx hb dX9_notice_265 (by decide) ?_
                    refine lv_iadd hx hb dX9_notice_266 ?_
                    refine lv_topi (fun y_118 ey_118 => ?_)
                    have ty_118 : y_118.toInt = y_117.toInt + 5 := by rw [ey_118]; have := fb_addI (x := y_117) (y := 5) (by omega) (by omega); omega
                    refine lv_iconst (v := 0) hx hb dX9_notice_267 (by decide) ?_
                    have ix_9 : (y_118).toNatClampNeg = 8 * b5.toNatClampNeg + 5 := (by have n9 : (((y_118).toNatClampNeg : Nat) : Int) = (y_118).toInt := tc_I (by omega); have n8 : ((b5.toNatClampNeg : Nat) : Int) = b5.toInt := tc_I (by omega); omega)
                    refine va_iast hx hb hK hP hD hS 0 0 rfl rfl (vp_in_iff.mpr ⟨by omega, by omega⟩) dX9_notice_268 (fun H locs hP hD hS => ?_)
                    have hP : va_P (dC, dI) vwCl [(a8, .inl (cI, 320, .inl (upd (upd (upd (upd (upd (upd (upd (upd (upd No (y_99 : Int32).toNatClampNeg p1) (y_101 : Int32).toNatClampNeg p2) (y_103 : Int32).toNatClampNeg y_105) (y_107 : Int32).toNatClampNeg wh9_7) (y_109 : Int32).toNatClampNeg b5) (y_111 : Int32).toNatClampNeg 1) (y_113 : Int32).toNatClampNeg 0) (y_115 : Int32).toNatClampNeg 0) (y_118 : Int32).toNatClampNeg 0))), (h0, .inr (9, [.int th, .ref a1, .ref a2, .ref a3, .ref a4, .ref a5, .int ne, .int wi, .int dn, .ref a6, .ref a7, .int nn, .ref a8, .int la, .ref a9, .ref a10, .long up9_5, .long lw9_6, .int wh9_7, .long pu9_8, .long pw9_9, .ref a11])), (a1, .inl (cI, 16, .inl Fi)), (a2, .inl (cI, 16, .inl Ma)), (a4, .inl (cZ, 16, .inl Go)), (a5, .inl (cI, 576, .inl Sp))] H := hP
                    have hD : va_D A [(a8, .inl (cI, 320, .inl (upd (upd (upd (upd (upd (upd (upd (upd (upd No (y_99 : Int32).toNatClampNeg p1) (y_101 : Int32).toNatClampNeg p2) (y_103 : Int32).toNatClampNeg y_105) (y_107 : Int32).toNatClampNeg wh9_7) (y_109 : Int32).toNatClampNeg b5) (y_111 : Int32).toNatClampNeg 1) (y_113 : Int32).toNatClampNeg 0) (y_115 : Int32).toNatClampNeg 0) (y_118 : Int32).toNatClampNeg 0))), (h0, .inr (9, [.int th, .ref a1, .ref a2, .ref a3, .ref a4, .ref a5, .int ne, .int wi, .int dn, .ref a6, .ref a7, .int nn, .ref a8, .int la, .ref a9, .ref a10, .long up9_5, .long lw9_6, .int wh9_7, .long pu9_8, .long pw9_9, .ref a11])), (a1, .inl (cI, 16, .inl Fi)), (a2, .inl (cI, 16, .inl Ma)), (a4, .inl (cZ, 16, .inl Go)), (a5, .inl (cI, 576, .inl Sp))] := hD
                    refine lv_aload_n hx hb dX9_notice_269 rfl (lv_at hl 1 rfl) ?_
                    refine lv_dup hx hb dX9_notice_270 rfl ?_
                    refine va_get (D := (dC, dI)) (ci := 9) (v := .int nn) (C := RX9) (T := TX9) (N := 22) hx hb hts in_X9_noticeE_X9 hown hK hP 1 rfl rfl 11 (by decide) (hts (.fieldLink RX9 115 "MeetingsAboveModel" "notices" "I") (by decide +kernel)) (fun _ h9 => h9) rfl dX9_notice_271 ?_
                    refine lv_iconst (v := 1) hx hb dX9_notice_274 (by decide) ?_
                    refine lv_iadd hx hb dX9_notice_275 ?_
                    refine lv_topi (fun y_119 ey_119 => ?_)
                    have ty_119 : y_119.toInt = nn.toInt + 1 := by rw [ey_119]; have := fb_addI (x := nn) (y := 1) (by omega) (by omega); omega
                    refine va_put (D := (dC, dI)) (ci := 9) (v := .int y_119) (ty := .int) (C := RX9) (T := TX9) (N := 22) hx hb hts in_X9_noticeE_X9 tyX9 tyX9_ok nmX9 hown hK hP hD hS 1 rfl rfl 11 (by decide) (hts (.fieldLink RX9 115 "MeetingsAboveModel" "notices" "I") (by decide +kernel)) (fun _ h9 => h9) rfl (by decide +kernel) rfl rfl (Nat.le_of_ble_eq_true rfl) dX9_notice_276 (fun H locs hP hD hS => ?_)
                    have hP : va_P (dC, dI) vwCl [(a8, .inl (cI, 320, .inl (upd (upd (upd (upd (upd (upd (upd (upd (upd No (y_99 : Int32).toNatClampNeg p1) (y_101 : Int32).toNatClampNeg p2) (y_103 : Int32).toNatClampNeg y_105) (y_107 : Int32).toNatClampNeg wh9_7) (y_109 : Int32).toNatClampNeg b5) (y_111 : Int32).toNatClampNeg 1) (y_113 : Int32).toNatClampNeg 0) (y_115 : Int32).toNatClampNeg 0) (y_118 : Int32).toNatClampNeg 0))), (h0, .inr (9, [.int th, .ref a1, .ref a2, .ref a3, .ref a4, .ref a5, .int ne, .int wi, .int dn, .ref a6, .ref a7, .int y_119, .ref a8, .int la, .ref a9, .ref a10, .long up9_5, .long lw9_6, .int wh9_7, .long pu9_8, .long pw9_9, .ref a11])), (a1, .inl (cI, 16, .inl Fi)), (a2, .inl (cI, 16, .inl Ma)), (a4, .inl (cZ, 16, .inl Go)), (a5, .inl (cI, 576, .inl Sp))] H := hP
                    have hD : va_D A [(a8, .inl (cI, 320, .inl (upd (upd (upd (upd (upd (upd (upd (upd (upd No (y_99 : Int32).toNatClampNeg p1) (y_101 : Int32).toNatClampNeg p2) (y_103 : Int32).toNatClampNeg y_105) (y_107 : Int32).toNatClampNeg wh9_7) (y_109 : Int32).toNatClampNeg b5) (y_111 : Int32).toNatClampNeg 1) (y_113 : Int32).toNatClampNeg 0) (y_115 : Int32).toNatClampNeg 0) (y_118 : Int32).toNatClampNeg 0))), (h0, .inr (9, [.int th, .ref a1, .ref a2, .ref a3, .ref a4, .ref a5, .int ne, .int wi, .int dn, .ref a6, .ref a7, .int y_119, .ref a8, .int la, .ref a9, .ref a10, .long up9_5, .long lw9_6, .int wh9_7, .long pu9_8, .long pw9_9, .ref a11])), (a1, .inl (cI, 16, .inl Fi)), (a2, .inl (cI, 16, .inl Ma)), (a4, .inl (cZ, 16, .inl Go)), (a5, .inl (cI, 576, .inl Sp))] := hD
                    refine lv_iload hx hb dX9_notice_279 (lv_at hl 0 rfl) ?_
                    have hP9 := hP.sub (ws' := [(h0, .inr (9, [.int th, .ref a1, .ref a2, .ref a3, .ref a4, .ref a5, .int ne, .int wi, .int dn, .ref a6, .ref a7, .int y_119, .ref a8, .int la, .ref a9, .ref a10, .long up9_5, .long lw9_6, .int wh9_7, .long pu9_8, .long pw9_9, .ref a11])), (a1, .inl (cI, 16, .inl Fi)), (a2, .inl (cI, 16, .inl Ma)), (a4, .inl (cZ, 16, .inl Go)), (a5, .inl (cI, 576, .inl Sp)), (a8, .inl (cI, 320, .inl (upd (upd (upd (upd (upd (upd (upd (upd (upd No (y_99 : Int32).toNatClampNeg p1) (y_101 : Int32).toNatClampNeg p2) (y_103 : Int32).toNatClampNeg y_105) (y_107 : Int32).toNatClampNeg wh9_7) (y_109 : Int32).toNatClampNeg b5) (y_111 : Int32).toNatClampNeg 1) (y_113 : Int32).toNatClampNeg 0) (y_115 : Int32).toNatClampNeg 0) (y_118 : Int32).toNatClampNeg 0)))]) [1, 2, 3, 4, 5, 0] rfl
                    have hD9 := hD.sub (ws' := [(h0, .inr (9, [.int th, .ref a1, .ref a2, .ref a3, .ref a4, .ref a5, .int ne, .int wi, .int dn, .ref a6, .ref a7, .int y_119, .ref a8, .int la, .ref a9, .ref a10, .long up9_5, .long lw9_6, .int wh9_7, .long pu9_8, .long pw9_9, .ref a11])), (a1, .inl (cI, 16, .inl Fi)), (a2, .inl (cI, 16, .inl Ma)), (a4, .inl (cZ, 16, .inl Go)), (a5, .inl (cI, 576, .inl Sp)), (a8, .inl (cI, 320, .inl (upd (upd (upd (upd (upd (upd (upd (upd (upd No (y_99 : Int32).toNatClampNeg p1) (y_101 : Int32).toNatClampNeg p2) (y_103 : Int32).toNatClampNeg y_105) (y_107 : Int32).toNatClampNeg wh9_7) (y_109 : Int32).toNatClampNeg b5) (y_111 : Int32).toNatClampNeg 1) (y_113 : Int32).toNatClampNeg 0) (y_115 : Int32).toNatClampNeg 0) (y_118 : Int32).toNatClampNeg 0)))]) [1, 2, 3, 4, 5, 0] (by decide) rfl
                    have hK9 := hK.sub (tys' := [(cI, .int), (cZ, .boolean)]) [0, 1] rfl
                    refine W.widen (k := 0) (n := 0) (by omega) (by omega) ?_
                    exact W.iret (v := nn) hx hb hr (fun t ht hW => ⟨⟨_, (), rfl, (Or.inr (Or.inr (Or.inr ⟨⟨⟨by omega, by omega⟩, ⟨by omega, by omega⟩⟩, ⟨⟨⟨by omega, by omega⟩, ⟨by omega, by omega⟩⟩, (tv_1 hw_4 c_25).1, (tv_1 hw_4 c_25).2⟩, by omega, rfl⟩))), up9_5, lw9_6, wh9_7, pu9_8, pw9_9, y_119, (upd (upd (upd (upd (upd (upd (upd (upd (upd No (y_99 : Int32).toNatClampNeg p1) (y_101 : Int32).toNatClampNeg p2) (y_103 : Int32).toNatClampNeg y_105) (y_107 : Int32).toNatClampNeg wh9_7) (y_109 : Int32).toNatClampNeg b5) (y_111 : Int32).toNatClampNeg 1) (y_113 : Int32).toNatClampNeg 0) (y_115 : Int32).toNatClampNeg 0) (y_118 : Int32).toNatClampNeg 0), by rw [ht]; exact hP9, va_K.moved hW.alike hK9, hD9, (by omega), (by omega), (Or.inl ⟨⟨⟨⟨by omega, by omega⟩, ⟨by omega, by omega⟩⟩, (tv_1 hw_4 c_25).1, (tv_1 hw_4 c_25).2⟩, by omega, by omega, p1, p2, y_105, wh9_7, b5, by omega, by omega, hls9, sq_ms (hms_10 (tv_1 hw_4 c_25)) ⟨y_104, ey_105, by rw [ey_104]; exact ldiv_I hbd9.2 (by omega)⟩ rfl, by rw [ix_0, ix_1, ix_2, ix_3, ix_4, ix_5, ix_6, ix_7, ix_9]; exact nw_y (by omega)⟩)⟩, hS.F ht⟩) hS.2.2 dX9_notice_281
                · have t_78 := mt (fa_le _ _).mpr c_78
                  refine lv_aload_n hx hb dX9_notice_81 rfl (lv_at hl 0 rfl) ?_
                  refine va_get (D := (dC, dI)) (ci := 9) (v := .ref a8) (C := RX9) (T := TX9) (N := 22) hx hb hts in_X9_noticeE_X9 hown hK hP 1 rfl rfl 12 (by decide) (hts (.fieldLink RX9 39 "MeetingsAboveModel" "noted" "[I") (by decide +kernel)) (fun _ h9 => h9) rfl dX9_notice_82 ?_
                  refine lv_bipush (v := 8) hx hb dX9_notice_85 (by decide) ?_
                  refine lv_iload hx hb dX9_notice_87 (lv_at hl 6 rfl) ?_
                  refine lv_imul hx hb dX9_notice_89 ?_
                  refine lv_topi (fun y_120 ey_120 => ?_)
                  have ty_120 : y_120.toInt = 8 * k6.toInt := by rw [ey_120]; exact fm_lI kl_8 (by omega) (by omega)
                  refine va_iald hx hb hK hP 0 0 rfl rfl (vp_in_iff.mpr ⟨by omega, by omega⟩) dX9_notice_90 ?_
                  refine lv_topi (fun y_121 ey_121 => ?_)
                  have ny_121 : (((y_120 : Int32).toNatClampNeg : Nat) : Int) = (y_120 : Int32).toInt := tc_I (by omega)
                  have uy_121 : y_121.toInt = (No (8 * k6.toInt.toNat)).toInt := by rw [ey_121, show (y_120 : Int32).toNatClampNeg = 8 * k6.toInt.toNat by omega]
                  refine lv_iload_n hx hb dX9_notice_91 rfl (lv_at hl 3 rfl) ?_
                  refine lv_icmp_ne (tgt := 117) hx hb dX9_notice_92 (by decide) (fun c_92 => ?_) (fun c_92 => ?_)
                  · have t_92 := mt (fa_eq _ _).mpr c_92
                    refine lv_iload hx hb dX9_notice_117 (lv_at hl 5 rfl) ?_
                    have hls8 : lsP (mNV No) (k6.toInt.toNat + 1) (p1).toInt (p2).toInt b5.toInt := ls_n (fun z9 => by have z1 : (No (8 * k6.toInt.toNat)).toInt = (p1).toInt := z9.1; have z2 : (No (8 * k6.toInt.toNat + 1)).toInt = (p2).toInt := z9.2; omega) hls
                    refine lv_istore (lv' := [(5, .int b5), (0, .ref h0), (1, .int p1), (2, .int p2), (3, .int p1), (4, .int p2), (6, .int k6)]) hx hb dX9_notice_119 hl (by decide) rfl (fun ls hl => ?_)
                    obtain ⟨y_122, ey_122⟩ : ∃ y : Int32, y = k6 + 1 := ⟨_, rfl⟩
                    have ty_122 : y_122.toInt = k6.toInt + 1 := by rw [ey_122]; have := fb_addI (x := k6) (y := 1) (by omega) (by omega); omega
                    refine lv_iinc (v := y_122) (lv' := [(6, .int y_122), (5, .int b5), (0, .ref h0), (1, .int p1), (2, .int p2), (3, .int p1), (4, .int p2)]) hx hb dX9_notice_121 hl (k := 6) rfl (by rw [ey_122]; rfl) (by decide) rfl (fun ls hl => ?_)
                    refine lv_goto (tgt := 72) hx hb dX9_notice_124 (by decide) ?_
                    exact ih_72 b5 y_122 (by omega) (by omega) (by rw [show (y_122).toInt.toNat = k6.toInt.toNat + 1 by omega]; exact hls8) (by omega) H _ (hP.sub [0, 1, 2, 3, 4, 5] rfl) (hD.sub [0, 1, 2, 3, 4, 5] (by decide) rfl) hS ls (lv_sub hl [2, 3, 4, 5, 6, 1, 0] rfl)
                  · have t_92 := (fa_eq _ _).mp c_92
                    refine lv_aload_n hx hb dX9_notice_95 rfl (lv_at hl 0 rfl) ?_
                    refine va_get (D := (dC, dI)) (ci := 9) (v := .ref a8) (C := RX9) (T := TX9) (N := 22) hx hb hts in_X9_noticeE_X9 hown hK hP 1 rfl rfl 12 (by decide) (hts (.fieldLink RX9 39 "MeetingsAboveModel" "noted" "[I") (by decide +kernel)) (fun _ h9 => h9) rfl dX9_notice_96 ?_
                    refine lv_bipush (v := 8) hx hb dX9_notice_99 (by decide) ?_
                    refine lv_iload hx hb dX9_notice_101 (lv_at hl 6 rfl) ?_
                    refine lv_imul hx hb dX9_notice_103 ?_
                    refine lv_topi (fun y_123 ey_123 => ?_)
                    have ty_123 : y_123.toInt = 8 * k6.toInt := by rw [ey_123]; exact fm_lI kl_8 (by omega) (by omega)
                    refine lv_iconst (v := 1) hx hb dX9_notice_104 (by decide) ?_
                    refine lv_iadd hx hb dX9_notice_105 ?_
                    refine lv_topi (fun y_124 ey_124 => ?_)
                    have ty_124 : y_124.toInt = y_123.toInt + 1 := by rw [ey_124]; have := fb_addI (x := y_123) (y := 1) (by omega) (by omega); omega
                    refine va_iald hx hb hK hP 0 0 rfl rfl (vp_in_iff.mpr ⟨by omega, by omega⟩) dX9_notice_106 ?_
                    refine lv_topi (fun y_125 ey_125 => ?_)
                    have ny_125 : (((y_124 : Int32).toNatClampNeg : Nat) : Int) = (y_124 : Int32).toInt := tc_I (by omega)
                    have uy_125 : y_125.toInt = (No (8 * k6.toInt.toNat + 1)).toInt := by rw [ey_125, show (y_124 : Int32).toNatClampNeg = 8 * k6.toInt.toNat + 1 by omega]
                    refine lv_iload hx hb dX9_notice_107 (lv_at hl 4 rfl) ?_
                    refine lv_icmp_ne (tgt := 117) hx hb dX9_notice_109 (by decide) (fun c_109 => ?_) (fun c_109 => ?_)
                    · have t_109 := mt (fa_eq _ _).mpr c_109
                      refine lv_iload hx hb dX9_notice_117 (lv_at hl 5 rfl) ?_
                      have hls8 : lsP (mNV No) (k6.toInt.toNat + 1) (p1).toInt (p2).toInt b5.toInt := ls_n (fun z9 => by have z1 : (No (8 * k6.toInt.toNat)).toInt = (p1).toInt := z9.1; have z2 : (No (8 * k6.toInt.toNat + 1)).toInt = (p2).toInt := z9.2; omega) hls
                      refine lv_istore (lv' := [(5, .int b5), (0, .ref h0), (1, .int p1), (2, .int p2), (3, .int p1), (4, .int p2), (6, .int k6)]) hx hb dX9_notice_119 hl (by decide) rfl (fun ls hl => ?_)
                      obtain ⟨y_126, ey_126⟩ : ∃ y : Int32, y = k6 + 1 := ⟨_, rfl⟩
                      have ty_126 : y_126.toInt = k6.toInt + 1 := by rw [ey_126]; have := fb_addI (x := k6) (y := 1) (by omega) (by omega); omega
                      refine lv_iinc (v := y_126) (lv' := [(6, .int y_126), (5, .int b5), (0, .ref h0), (1, .int p1), (2, .int p2), (3, .int p1), (4, .int p2)]) hx hb dX9_notice_121 hl (k := 6) rfl (by rw [ey_126]; rfl) (by decide) rfl (fun ls hl => ?_)
                      refine lv_goto (tgt := 72) hx hb dX9_notice_124 (by decide) ?_
                      exact ih_72 b5 y_126 (by omega) (by omega) (by rw [show (y_126).toInt.toNat = k6.toInt.toNat + 1 by omega]; exact hls8) (by omega) H _ (hP.sub [0, 1, 2, 3, 4, 5] rfl) (hD.sub [0, 1, 2, 3, 4, 5] (by decide) rfl) hS ls (lv_sub hl [2, 3, 4, 5, 6, 1, 0] rfl)
                    · have t_109 := (fa_eq _ _).mp c_109
                      refine lv_iload hx hb dX9_notice_112 (lv_at hl 6 rfl) ?_
                      refine lv_goto (tgt := 119) hx hb dX9_notice_114 (by decide) ?_
                      have hls8 : lsP (mNV No) (k6.toInt.toNat + 1) (p1).toInt (p2).toInt k6.toInt := by rw [show k6.toInt = ((k6.toInt.toNat : Nat) : Int) by omega]; exact ls_y ⟨(by omega : (No (8 * k6.toInt.toNat)).toInt = (p1).toInt), (by omega : (No (8 * k6.toInt.toNat + 1)).toInt = (p2).toInt)⟩
                      refine lv_istore (lv' := [(5, .int k6), (0, .ref h0), (1, .int p1), (2, .int p2), (3, .int p1), (4, .int p2), (6, .int k6)]) hx hb dX9_notice_119 hl (by decide) rfl (fun ls hl => ?_)
                      obtain ⟨y_127, ey_127⟩ : ∃ y : Int32, y = k6 + 1 := ⟨_, rfl⟩
                      have ty_127 : y_127.toInt = k6.toInt + 1 := by rw [ey_127]; have := fb_addI (x := k6) (y := 1) (by omega) (by omega); omega
                      refine lv_iinc (v := y_127) (lv' := [(6, .int y_127), (5, .int k6), (0, .ref h0), (1, .int p1), (2, .int p2), (3, .int p1), (4, .int p2)]) hx hb dX9_notice_121 hl (k := 6) rfl (by rw [ey_127]; rfl) (by decide) rfl (fun ls hl => ?_)
                      refine lv_goto (tgt := 72) hx hb dX9_notice_124 (by decide) ?_
                      exact ih_72 k6 y_127 (by omega) (by omega) (by rw [show (y_127).toInt.toNat = k6.toInt.toNat + 1 by omega]; exact hls8) (by omega) H _ (hP.sub [0, 1, 2, 3, 4, 5] rfl) (hD.sub [0, 1, 2, 3, 4, 5] (by decide) rfl) hS ls (lv_sub hl [2, 3, 4, 5, 6, 1, 0] rfl)
        · have t_37 := (fa_eq _ _).mp c_37
          refine lv_ldc hx hb hown (hts (.constant RX9 71 (-100004)) (by decide +kernel)) dX9_notice_40 ?_
          have hP9 := hP.sub (ws' := [(h0, .inr (9, [.int th, .ref a1, .ref a2, .ref a3, .ref a4, .ref a5, .int ne, .int wi, .int dn, .ref a6, .ref a7, .int nn, .ref a8, .int la, .ref a9, .ref a10, .long up9_5, .long lw9_6, .int wh9_7, .long pu9_8, .long pw9_9, .ref a11])), (a1, .inl (cI, 16, .inl Fi)), (a2, .inl (cI, 16, .inl Ma)), (a4, .inl (cZ, 16, .inl Go)), (a5, .inl (cI, 576, .inl Sp)), (a8, .inl (cI, 320, .inl No))]) [1, 2, 3, 4, 5, 0] rfl
          have hD9 := hD.sub (ws' := [(h0, .inr (9, [.int th, .ref a1, .ref a2, .ref a3, .ref a4, .ref a5, .int ne, .int wi, .int dn, .ref a6, .ref a7, .int nn, .ref a8, .int la, .ref a9, .ref a10, .long up9_5, .long lw9_6, .int wh9_7, .long pu9_8, .long pw9_9, .ref a11])), (a1, .inl (cI, 16, .inl Fi)), (a2, .inl (cI, 16, .inl Ma)), (a4, .inl (cZ, 16, .inl Go)), (a5, .inl (cI, 576, .inl Sp)), (a8, .inl (cI, 320, .inl No))]) [1, 2, 3, 4, 5, 0] (by decide) rfl
          have hK9 := hK.sub (tys' := [(cI, .int), (cZ, .boolean)]) [0, 1] rfl
          refine W.widen (k := 0) (n := 0) (by omega) (by omega) ?_
          exact W.iret (v := (-100004)) hx hb hr (fun t ht hW => ⟨⟨_, (), rfl, (Or.inr (Or.inr (Or.inl ⟨⟨⟨by omega, by omega⟩, ⟨by omega, by omega⟩⟩, ⟨⟨⟨by omega, by omega⟩, ⟨by omega, by omega⟩⟩, (tv_1 hw_4 c_25).1, (tv_1 hw_4 c_25).2⟩, by omega, rfl⟩))), up9_5, lw9_6, wh9_7, pu9_8, pw9_9, nn, No, by rw [ht]; exact hP9, va_K.moved hW.alike hK9, hD9, (by omega), (by omega), (Or.inr ⟨fun z8 => by have z7 := z8.2; omega, rfl, rfl⟩)⟩, hS.F ht⟩) hS.2.2 dX9_notice_42
      · have t_25 := (fa_eq _ _).mp c_25
        refine lv_ldc hx hb hown (hts (.constant RX9 85 (-100003)) (by decide +kernel)) dX9_notice_28 ?_
        have hP9 := hP.sub (ws' := [(h0, .inr (9, [.int th, .ref a1, .ref a2, .ref a3, .ref a4, .ref a5, .int ne, .int wi, .int dn, .ref a6, .ref a7, .int nn, .ref a8, .int la, .ref a9, .ref a10, .long up9_5, .long lw9_6, .int wh9_7, .long pu9_8, .long pw9_9, .ref a11])), (a1, .inl (cI, 16, .inl Fi)), (a2, .inl (cI, 16, .inl Ma)), (a4, .inl (cZ, 16, .inl Go)), (a5, .inl (cI, 576, .inl Sp)), (a8, .inl (cI, 320, .inl No))]) [1, 2, 3, 4, 5, 0] rfl
        have hD9 := hD.sub (ws' := [(h0, .inr (9, [.int th, .ref a1, .ref a2, .ref a3, .ref a4, .ref a5, .int ne, .int wi, .int dn, .ref a6, .ref a7, .int nn, .ref a8, .int la, .ref a9, .ref a10, .long up9_5, .long lw9_6, .int wh9_7, .long pu9_8, .long pw9_9, .ref a11])), (a1, .inl (cI, 16, .inl Fi)), (a2, .inl (cI, 16, .inl Ma)), (a4, .inl (cZ, 16, .inl Go)), (a5, .inl (cI, 576, .inl Sp)), (a8, .inl (cI, 320, .inl No))]) [1, 2, 3, 4, 5, 0] (by decide) rfl
        have hK9 := hK.sub (tys' := [(cI, .int), (cZ, .boolean)]) [0, 1] rfl
        refine W.widen (k := 0) (n := 0) (by omega) (by omega) ?_
        exact W.iret (v := (-100003)) hx hb hr (fun t ht hW => ⟨⟨_, (), rfl, (Or.inr (Or.inl ⟨⟨⟨by omega, by omega⟩, ⟨by omega, by omega⟩⟩, fun z9 => tv_0 hw_4 c_25 z9.2, rfl⟩)), up9_5, lw9_6, wh9_7, pu9_8, pw9_9, nn, No, by rw [ht]; exact hP9, va_K.moved hW.alike hK9, hD9, (by omega), (by omega), (Or.inr ⟨fun z8 => tv_0 hw_4 c_25 z8.1.2, rfl, rfl⟩)⟩, hS.F ht⟩) hS.2.2 dX9_notice_30
    · refine lv_if_ne (tgt := 19) hx hb dX9_notice_13 (by decide) (fun h9 => absurd h9 (by decide)) (fun _ => ?_)
      refine lv_ldc hx hb hown (hts (.constant RX9 84 (-100001)) (by decide +kernel)) dX9_notice_16 ?_
      have hP9 := hP.sub (ws' := [(h0, .inr (9, [.int th, .ref a1, .ref a2, .ref a3, .ref a4, .ref a5, .int ne, .int wi, .int dn, .ref a6, .ref a7, .int nn, .ref a8, .int la, .ref a9, .ref a10, .long up, .long lw, .int wh, .long pu, .long pw, .ref a11])), (a1, .inl (cI, 16, .inl Fi)), (a2, .inl (cI, 16, .inl Ma)), (a4, .inl (cZ, 16, .inl Go)), (a5, .inl (cI, 576, .inl Sp)), (a8, .inl (cI, 320, .inl No))]) [0, 1, 2, 3, 4, 5] rfl
      have hD9 := hD.sub (ws' := [(h0, .inr (9, [.int th, .ref a1, .ref a2, .ref a3, .ref a4, .ref a5, .int ne, .int wi, .int dn, .ref a6, .ref a7, .int nn, .ref a8, .int la, .ref a9, .ref a10, .long up, .long lw, .int wh, .long pu, .long pw, .ref a11])), (a1, .inl (cI, 16, .inl Fi)), (a2, .inl (cI, 16, .inl Ma)), (a4, .inl (cZ, 16, .inl Go)), (a5, .inl (cI, 576, .inl Sp)), (a8, .inl (cI, 320, .inl No))]) [0, 1, 2, 3, 4, 5] (by decide) rfl
      have hK9 := hK.sub (tys' := [(cI, .int), (cZ, .boolean)]) [0, 1] rfl
      refine W.widen (k := 0) (n := 0) (by omega) (by omega) ?_
      exact W.iret (v := (-100001)) hx hb hr (fun t ht hW => ⟨⟨_, (), rfl, (Or.inl ⟨by omega, rfl⟩), up, lw, wh, pu, pw, nn, No, by rw [ht]; exact hP9, va_K.moved hW.alike hK9, hD9, (by omega), (by omega), (Or.inr ⟨fun z8 => by have z7 := z8.1.1; omega, rfl, rfl⟩)⟩, hS.F ht⟩) hS.2.2 dX9_notice_18
  · refine lv_if_eq (tgt := 16) hx hb dX9_notice_5 (by decide) (fun _ => ?_) (fun h9 => absurd h9 (by decide))
    refine lv_ldc hx hb hown (hts (.constant RX9 84 (-100001)) (by decide +kernel)) dX9_notice_16 ?_
    have hP9 := hP.sub (ws' := [(h0, .inr (9, [.int th, .ref a1, .ref a2, .ref a3, .ref a4, .ref a5, .int ne, .int wi, .int dn, .ref a6, .ref a7, .int nn, .ref a8, .int la, .ref a9, .ref a10, .long up, .long lw, .int wh, .long pu, .long pw, .ref a11])), (a1, .inl (cI, 16, .inl Fi)), (a2, .inl (cI, 16, .inl Ma)), (a4, .inl (cZ, 16, .inl Go)), (a5, .inl (cI, 576, .inl Sp)), (a8, .inl (cI, 320, .inl No))]) [0, 1, 2, 3, 4, 5] rfl
    have hD9 := hD.sub (ws' := [(h0, .inr (9, [.int th, .ref a1, .ref a2, .ref a3, .ref a4, .ref a5, .int ne, .int wi, .int dn, .ref a6, .ref a7, .int nn, .ref a8, .int la, .ref a9, .ref a10, .long up, .long lw, .int wh, .long pu, .long pw, .ref a11])), (a1, .inl (cI, 16, .inl Fi)), (a2, .inl (cI, 16, .inl Ma)), (a4, .inl (cZ, 16, .inl Go)), (a5, .inl (cI, 576, .inl Sp)), (a8, .inl (cI, 320, .inl No))]) [0, 1, 2, 3, 4, 5] (by decide) rfl
    have hK9 := hK.sub (tys' := [(cI, .int), (cZ, .boolean)]) [0, 1] rfl
    refine W.widen (k := 0) (n := 0) (by omega) (by omega) ?_
    exact W.iret (v := (-100001)) hx hb hr (fun t ht hW => ⟨⟨_, (), rfl, (Or.inl ⟨by omega, rfl⟩), up, lw, wh, pu, pw, nn, No, by rw [ht]; exact hP9, va_K.moved hW.alike hK9, hD9, (by omega), (by omega), (Or.inr ⟨fun z8 => by have z7 := z8.1.1; omega, rfl, rfl⟩)⟩, hS.F ht⟩) hS.2.2 dX9_notice_18
