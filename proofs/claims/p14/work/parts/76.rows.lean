def wk_X9_breaks : List Cond := .code yX9_breaks cX9_breaks 10 (some .int) :: (([.constantLong RX9 86 2, .constantLong RX9 88 6, .fieldLink RX9 7 "MeetingsAboveModel" "firsts" "[I", .fieldLink RX9 13 "MeetingsAboveModel" "many" "[I", .fieldLink RX9 19 "MeetingsAboveModel" "isGone" "[Z", .fieldLink RX9 59 "MeetingsAboveModel" "things" "I", .fieldLink RX9 16 "MeetingsAboveModel" "doubts" "[I", .constant RX9 71 (-100004), .constant RX9 85 (-100003), .constant RX9 70 (-100002), .constant RX9 84 (-100001)] : List Cond) ++ (wsX90 ++ ((wsV RX9 80 RX9 yX9_isThing wk_X9_isThing) ++ ((va_wsS RX9 55 yX9_in wk_X9_in) ++ ((wsV RX9 90 RX9 yX9_hasPlace wk_X9_hasPlace) ++ ((wsV RX9 72 RX9 yX9_fresh wk_X9_fresh) ++ ((wsV RX9 94 RX9 yX9_spot wk_X9_spotW) ++ ((wsV RX9 76 RX9 yX9_setSpot wk_X9_setSpot) ++ ((wsV RX9 94 RX9 yX9_spot wk_X9_spot) ++ ((va_wsS RX9 64 yX9_isPlace wk_X9_isPlace) ++ ([])))))))))))
theorem in_X9_breaks_X9 : ∀ w ∈ wsX90, w ∈ wk_X9_breaks := fun _ h => List.mem_cons_of_mem _ (List.mem_append_right _ (List.mem_append_left _ h))
theorem gw_X9_breaks : AG wk_X9_breaks := AG_ca (AG_l (by decide +kernel)) (AG_app ag_X9 (AG_app (AG_V gw_X9_isThing) (AG_app (AG_S gw_X9_in) (AG_app (AG_V gw_X9_hasPlace) (AG_app (AG_V gw_X9_fresh) (AG_app (AG_V gw_X9_spotW) (AG_app (AG_V gw_X9_setSpot) (AG_app (AG_V gw_X9_spot) (AG_app (AG_S gw_X9_isPlace) (AG_nil))))))))))
theorem g_X9_breaks__X9_isThing_80 : GoodIn wk_X9_breaks (wsV RX9 80 RX9 yX9_isThing wk_X9_isThing) := goodIn_m (fun _ h => List.mem_cons_of_mem _ (List.mem_append_right _ (List.mem_append_right _ (List.mem_append_left _ h)))) (AG_V gw_X9_isThing)
theorem g_X9_breaks__X9_in_55 : GoodIn wk_X9_breaks (va_wsS RX9 55 yX9_in wk_X9_in) := goodIn_m (fun _ h => List.mem_cons_of_mem _ (List.mem_append_right _ (List.mem_append_right _ (List.mem_append_right _ (List.mem_append_left _ h))))) (AG_S gw_X9_in)
theorem g_X9_breaks__X9_hasPlace_90 : GoodIn wk_X9_breaks (wsV RX9 90 RX9 yX9_hasPlace wk_X9_hasPlace) := goodIn_m (fun _ h => List.mem_cons_of_mem _ (List.mem_append_right _ (List.mem_append_right _ (List.mem_append_right _ (List.mem_append_right _ (List.mem_append_left _ h)))))) (AG_V gw_X9_hasPlace)
theorem g_X9_breaks__X9_fresh_72 : GoodIn wk_X9_breaks (wsV RX9 72 RX9 yX9_fresh wk_X9_fresh) := goodIn_m (fun _ h => List.mem_cons_of_mem _ (List.mem_append_right _ (List.mem_append_right _ (List.mem_append_right _ (List.mem_append_right _ (List.mem_append_right _ (List.mem_append_left _ h))))))) (AG_V gw_X9_fresh)
theorem g_X9_breaks__X9_spotW_94 : GoodIn wk_X9_breaks (wsV RX9 94 RX9 yX9_spot wk_X9_spotW) := goodIn_m (fun _ h => List.mem_cons_of_mem _ (List.mem_append_right _ (List.mem_append_right _ (List.mem_append_right _ (List.mem_append_right _ (List.mem_append_right _ (List.mem_append_right _ (List.mem_append_left _ h)))))))) (AG_V gw_X9_spotW)
theorem g_X9_breaks__X9_setSpot_76 : GoodIn wk_X9_breaks (wsV RX9 76 RX9 yX9_setSpot wk_X9_setSpot) := goodIn_m (fun _ h => List.mem_cons_of_mem _ (List.mem_append_right _ (List.mem_append_right _ (List.mem_append_right _ (List.mem_append_right _ (List.mem_append_right _ (List.mem_append_right _ (List.mem_append_right _ (List.mem_append_left _ h))))))))) (AG_V gw_X9_setSpot)
theorem g_X9_breaks__X9_spot_94 : GoodIn wk_X9_breaks (wsV RX9 94 RX9 yX9_spot wk_X9_spot) := goodIn_m (fun _ h => List.mem_cons_of_mem _ (List.mem_append_right _ (List.mem_append_right _ (List.mem_append_right _ (List.mem_append_right _ (List.mem_append_right _ (List.mem_append_right _ (List.mem_append_right _ (List.mem_append_right _ (List.mem_append_left _ h)))))))))) (AG_V gw_X9_spot)
theorem g_X9_breaks__X9_isPlace_64 : GoodIn wk_X9_breaks (va_wsS RX9 64 yX9_isPlace wk_X9_isPlace) := goodIn_m (fun _ h => List.mem_cons_of_mem _ (List.mem_append_right _ (List.mem_append_right _ (List.mem_append_right _ (List.mem_append_right _ (List.mem_append_right _ (List.mem_append_right _ (List.mem_append_right _ (List.mem_append_right _ (List.mem_append_right _ (List.mem_append_left _ h))))))))))) (AG_S gw_X9_isPlace)
set_option maxHeartbeats 4000000 in
set_option maxRecDepth 100000 in
theorem c_X9_breaks (l : Launch) (dC : Nat → ClassId) (dI : Nat → Nat → Nat) (h0 : Nat) (a1 : Nat) (a2 : Nat) (a3 : Nat) (a4 : Nat) (a5 : Nat) (a6 : Nat) (a7 : Nat) (a8 : Nat) (a9 : Nat) (a10 : Nat) (a11 : Nat) (th : Int32) (ne : Int32) (wi : Int32) (dn : Int32) (nn : Int32) (la : Int32) (wh : Int32) (up : Int64) (lw : Int64) (pu : Int64) (pw : Int64) (cI : ClassId) (cZ : ClassId) (Fi : Nat → Int32) (Ma : Nat → Int32) (Db : Nat → Int32) (Go : Nat → Int32) (Sp : Nat → Int32) (p1 : Int32) (p2 : Int32) (p3 : Int32) (sz : Nat) (hM : mOK th Fi Ma) (hDb : dOK th Db) : Met l yX9_breaks wk_X9_breaks ({ frames := 2, cells := 0, slots := 0, locals := 47 }) (va_Pc [.ref h0, .int p1, .int p2, .int p3] (fun U => U.heap.size = sz ∧ va_P (dC, dI) vwCl [(h0, .inr (9, [.int th, .ref a1, .ref a2, .ref a3, .ref a4, .ref a5, .int ne, .int wi, .int dn, .ref a6, .ref a7, .int nn, .ref a8, .int la, .ref a9, .ref a10, .long up, .long lw, .int wh, .long pu, .long pw, .ref a11])), (a1, .inl (cI, 16, .inl Fi)), (a2, .inl (cI, 16, .inl Ma)), (a3, .inl (cI, 16, .inl Db)), (a4, .inl (cZ, 16, .inl Go)), (a5, .inl (cI, 576, .inl Sp))] U.heap ∧ va_K (dC, dI) vwCl [(cI, .int), (cZ, .boolean)] U ∧ va_D (fun _ => True) [(h0, .inr (9, [.int th, .ref a1, .ref a2, .ref a3, .ref a4, .ref a5, .int ne, .int wi, .int dn, .ref a6, .ref a7, .int nn, .ref a8, .int la, .ref a9, .ref a10, .long up, .long lw, .int wh, .long pu, .long pw, .ref a11])), (a1, .inl (cI, 16, .inl Fi)), (a2, .inl (cI, 16, .inl Ma)), (a3, .inl (cI, 16, .inl Db)), (a4, .inl (cZ, 16, .inl Go)), (a5, .inl (cI, 576, .inl Sp))])) (va_Qi (fun (r : Int32) (_ : Unit) => (¬ (0 ≤ p1.toInt ∧ p1.toInt < th.toInt) ∧ r = -100001) ∨ ((0 ≤ p1.toInt ∧ p1.toInt < th.toInt) ∧ ¬ ((0 ≤ p1.toInt ∧ p1.toInt < th.toInt) ∧ ((2 ≤ p3.toInt ∧ p3.toInt ≤ 6) ∧ ((Fi p1.toNatClampNeg).toInt ≤ p2.toInt ∧ p2.toInt < (Fi p1.toNatClampNeg).toInt + (Ma p1.toNatClampNeg).toInt))) ∧ r = -100002) ∨ (((0 ≤ p1.toInt ∧ p1.toInt < th.toInt) ∧ ((2 ≤ p3.toInt ∧ p3.toInt ≤ 6) ∧ ((Fi p1.toNatClampNeg).toInt ≤ p2.toInt ∧ p2.toInt < (Fi p1.toNatClampNeg).toInt + (Ma p1.toNatClampNeg).toInt))) ∧ ¬ ((Go p1.toNatClampNeg).toInt = 0 ∧ gdN Sp (36 * p1.toInt + 3 * (p2.toInt - (Fi p1.toNatClampNeg).toInt)).toNat ((Fi p1.toNatClampNeg).toInt + (Ma p1.toNatClampNeg).toInt - p2.toInt).toNat p3 p3.toInt.toNat) ∧ r = -100003) ∨ (((0 ≤ p1.toInt ∧ p1.toInt < th.toInt) ∧ ((2 ≤ p3.toInt ∧ p3.toInt ≤ 6) ∧ ((Fi p1.toNatClampNeg).toInt ≤ p2.toInt ∧ p2.toInt < (Fi p1.toNatClampNeg).toInt + (Ma p1.toNatClampNeg).toInt))) ∧ ((Go p1.toNatClampNeg).toInt = 0 ∧ gdN Sp (36 * p1.toInt + 3 * (p2.toInt - (Fi p1.toNatClampNeg).toInt)).toNat ((Fi p1.toNatClampNeg).toInt + (Ma p1.toNatClampNeg).toInt - p2.toInt).toNat p3 p3.toInt.toNat) ∧ ¬ th.toInt + p3.toInt ≤ 16 ∧ r = -100004) ∨ (((0 ≤ p1.toInt ∧ p1.toInt < th.toInt) ∧ ((2 ≤ p3.toInt ∧ p3.toInt ≤ 6) ∧ ((Fi p1.toNatClampNeg).toInt ≤ p2.toInt ∧ p2.toInt < (Fi p1.toNatClampNeg).toInt + (Ma p1.toNatClampNeg).toInt))) ∧ ((Go p1.toNatClampNeg).toInt = 0 ∧ gdN Sp (36 * p1.toInt + 3 * (p2.toInt - (Fi p1.toNatClampNeg).toInt)).toNat ((Fi p1.toNatClampNeg).toInt + (Ma p1.toNatClampNeg).toInt - p2.toInt).toNat p3 p3.toInt.toNat) ∧ th.toInt + p3.toInt ≤ 16 ∧ r = th)) (fun (_ : Unit) (t : State) => ∃ (th9 : Int32) (Fi9 : Nat → Int32) (Ma9 : Nat → Int32) (Db9 : Nat → Int32) (Go9 : Nat → Int32) (Sp9 : Nat → Int32), va_P (dC, dI) vwCl [(h0, .inr (9, [.int th9, .ref a1, .ref a2, .ref a3, .ref a4, .ref a5, .int ne, .int wi, .int dn, .ref a6, .ref a7, .int nn, .ref a8, .int la, .ref a9, .ref a10, .long up, .long lw, .int wh, .long pu, .long pw, .ref a11])), (a1, .inl (cI, 16, .inl Fi9)), (a2, .inl (cI, 16, .inl Ma9)), (a3, .inl (cI, 16, .inl Db9)), (a4, .inl (cZ, 16, .inl Go9)), (a5, .inl (cI, 576, .inl Sp9))] t.heap ∧ va_K (dC, dI) vwCl [(cI, .int), (cZ, .boolean)] t ∧ va_D (va_A [(h0, .inr (9, [.int th, .ref a1, .ref a2, .ref a3, .ref a4, .ref a5, .int ne, .int wi, .int dn, .ref a6, .ref a7, .int nn, .ref a8, .int la, .ref a9, .ref a10, .long up, .long lw, .int wh, .long pu, .long pw, .ref a11])), (a1, .inl (cI, 16, .inl Fi)), (a2, .inl (cI, 16, .inl Ma)), (a3, .inl (cI, 16, .inl Db)), (a4, .inl (cZ, 16, .inl Go)), (a5, .inl (cI, 576, .inl Sp))] sz) [(h0, .inr (9, [.int th9, .ref a1, .ref a2, .ref a3, .ref a4, .ref a5, .int ne, .int wi, .int dn, .ref a6, .ref a7, .int nn, .ref a8, .int la, .ref a9, .ref a10, .long up, .long lw, .int wh, .long pu, .long pw, .ref a11])), (a1, .inl (cI, 16, .inl Fi9)), (a2, .inl (cI, 16, .inl Ma9)), (a3, .inl (cI, 16, .inl Db9)), (a4, .inl (cZ, 16, .inl Go9)), (a5, .inl (cI, 576, .inl Sp9))] ∧ (((((0 ≤ p1.toInt ∧ p1.toInt < th.toInt) ∧ ((2 ≤ p3.toInt ∧ p3.toInt ≤ 6) ∧ ((Fi p1.toNatClampNeg).toInt ≤ p2.toInt ∧ p2.toInt < (Fi p1.toNatClampNeg).toInt + (Ma p1.toNatClampNeg).toInt))) ∧ ((Go p1.toNatClampNeg).toInt = 0 ∧ gdN Sp (36 * p1.toInt + 3 * (p2.toInt - (Fi p1.toNatClampNeg).toInt)).toNat ((Fi p1.toNatClampNeg).toInt + (Ma p1.toNatClampNeg).toInt - p2.toInt).toNat p3 p3.toInt.toNat) ∧ th.toInt + p3.toInt ≤ 16) ∧ th9.toInt = th.toInt + p3.toInt ∧ Fi9 = upN Fi th.toInt.toNat p2 p3.toInt.toNat ∧ Ma9 = maN Ma th.toInt.toNat (Fi p1.toNatClampNeg + Ma p1.toNatClampNeg - p2) p3.toInt.toNat ∧ Db9 = upN Db th.toInt.toNat (Db p1.toNatClampNeg) p3.toInt.toNat ∧ Go9 = upd (upN Go th.toInt.toNat (vp_nar .boolean 0) p3.toInt.toNat) p1.toNatClampNeg (vp_nar .boolean 1) ∧ Sp9 = bkN Sp (36 * p1.toInt + 3 * (p2.toInt - (Fi p1.toNatClampNeg).toInt)).toNat th.toInt.toNat ((Fi p1.toNatClampNeg).toInt + (Ma p1.toNatClampNeg).toInt - p2.toInt).toNat p3 p3.toInt.toNat) ∨ (¬ (((0 ≤ p1.toInt ∧ p1.toInt < th.toInt) ∧ ((2 ≤ p3.toInt ∧ p3.toInt ≤ 6) ∧ ((Fi p1.toNatClampNeg).toInt ≤ p2.toInt ∧ p2.toInt < (Fi p1.toNatClampNeg).toInt + (Ma p1.toNatClampNeg).toInt))) ∧ ((Go p1.toNatClampNeg).toInt = 0 ∧ gdN Sp (36 * p1.toInt + 3 * (p2.toInt - (Fi p1.toNatClampNeg).toInt)).toNat ((Fi p1.toNatClampNeg).toInt + (Ma p1.toNatClampNeg).toInt - p2.toInt).toNat p3 p3.toInt.toNat) ∧ th.toInt + p3.toInt ≤ 16) ∧ th9 = th ∧ Fi9 = Fi ∧ Ma9 = Ma ∧ Db9 = Db ∧ Go9 = Go ∧ Sp9 = Sp))) (va_A [(h0, .inr (9, [.int th, .ref a1, .ref a2, .ref a3, .ref a4, .ref a5, .int ne, .int wi, .int dn, .ref a6, .ref a7, .int nn, .ref a8, .int la, .ref a9, .ref a10, .long up, .long lw, .int wh, .long pu, .long pw, .ref a11])), (a1, .inl (cI, 16, .inl Fi)), (a2, .inl (cI, 16, .inl Ma)), (a3, .inl (cI, 16, .inl Db)), (a4, .inl (cZ, 16, .inl Go)), (a5, .inl (cI, 576, .inl Sp))] sz)) 0 0 (va_A [(h0, .inr (9, [.int th, .ref a1, .ref a2, .ref a3, .ref a4, .ref a5, .int ne, .int wi, .int dn, .ref a6, .ref a7, .int nn, .ref a8, .int la, .ref a9, .ref a10, .long up, .long lw, .int wh, .long pu, .long pw, .ref a11])), (a1, .inl (cI, 16, .inl Fi)), (a2, .inl (cI, 16, .inl Ma)), (a3, .inl (cI, 16, .inl Db)), (a4, .inl (cZ, 16, .inl Go)), (a5, .inl (cI, 576, .inl Sp))] sz) := by
  refine Met.ofW (cc := cX9_breaks) (maxL := 10) (ret := (some .int)) (by decide) rfl ?_
  intro p e s m args below meth c s₁ B hml hv
  obtain ⟨rfl, hsz, hP, hK, hD0⟩ := hv
  have hx := B.exec
  have hb := B.bytes
  have hr := B.returns
  have hts := atoms_spec (ws := wk_X9_breaks) B.pre
  have hown : s.vm.findClass RX9 = some m.cls := findClass_of_methodNamed B.named
  have hlocks := B.notSynchronized
  subst hsz
  have hD := hD0.self (sz := s.heap.size)
  generalize hAe : va_A [(h0, .inr (9, [.int th, .ref a1, .ref a2, .ref a3, .ref a4, .ref a5, .int ne, .int wi, .int dn, .ref a6, .ref a7, .int nn, .ref a8, .int la, .ref a9, .ref a10, .long up, .long lw, .int wh, .long pu, .long pw, .ref a11])), (a1, .inl (cI, 16, .inl Fi)), (a2, .inl (cI, 16, .inl Ma)), (a3, .inl (cI, 16, .inl Db)), (a4, .inl (cZ, 16, .inl Go)), (a5, .inl (cI, 576, .inl Sp))] s.heap.size = A at hD ⊢
  have hA : ∀ q : Nat, s.heap.size ≤ q → A q := fun q h => by rw [← hAe]; exact Or.inr h
  have hS : va_S A s.heap s.heap [] := va_S.rf
  have hP : va_P (dC, dI) vwCl [(h0, .inr (9, [.int th, .ref a1, .ref a2, .ref a3, .ref a4, .ref a5, .int ne, .int wi, .int dn, .ref a6, .ref a7, .int nn, .ref a8, .int la, .ref a9, .ref a10, .long up, .long lw, .int wh, .long pu, .long pw, .ref a11])), (a1, .inl (cI, 16, .inl Fi)), (a2, .inl (cI, 16, .inl Ma)), (a3, .inl (cI, 16, .inl Db)), (a4, .inl (cZ, 16, .inl Go)), (a5, .inl (cI, 576, .inl Sp))] s.heap := hP
  have hl := lv_entry ([.ref h0, .int p1, .int p2, .int p3]) (n := 10) (Nat.le_of_ble_eq_true rfl)
  rw [lg_entry_eq]
  generalize (lg_sl ([.ref h0, .int p1, .int p2, .int p3]) ++ List.replicate (10 - (lg_sl ([.ref h0, .int p1, .int p2, .int p3])).length) Slot.unset).toArray = ls at hl ⊢
  have hl : lv_has ls 10 [(0, .ref h0), (1, .int p1), (2, .int p2), (3, .int p3)] := hl
  have kl_m100004 : (-100004 : Int32).toInt = -100004 := by decide
  have kl_m100003 : (-100003 : Int32).toInt = -100003 := by decide
  have kl_m100002 : (-100002 : Int32).toInt = -100002 := by decide
  have kl_m100001 : (-100001 : Int32).toInt = -100001 := by decide
  have kl_0 : (0 : Int32).toInt = 0 := by decide
  have kl_1 : (1 : Int32).toInt = 1 := by decide
  have kl_2 : (2 : Int32).toInt = 2 := by decide
  have kl_6 : (6 : Int32).toInt = 6 := by decide
  have kl_16 : (16 : Int32).toInt = 16 := by decide
  have klL_2 : (2 : Int64).toInt = 2 := by decide
  have klL_6 : (6 : Int64).toInt = 6 := by decide
  obtain ⟨hM0, hM1, hM2⟩ := id hM
  refine lv_aload_n hx hb dX9_breaks_0 rfl (lv_at hl 0 rfl) ?_
  refine lv_iload_n hx hb dX9_breaks_1 rfl (lv_at hl 1 rfl) ?_
  have hPc := hP.sub (ws' := [(h0, .inr (9, [.int th, .ref a1, .ref a2, .ref a3, .ref a4, .ref a5, .int ne, .int wi, .int dn, .ref a6, .ref a7, .int nn, .ref a8, .int la, .ref a9, .ref a10, .long up, .long lw, .int wh, .long pu, .long pw, .ref a11]))]) [0] rfl
  have hKc := hK.sub (tys' := []) [] rfl
  refine vp_callSi (W.runV (As := [.int p1]) (rest := []) ⟨hx, hb, hml, hown, hts⟩ (c_X9_isThing l dC dI h0 a1 a2 a3 a4 a5 a6 a7 a8 a9 a10 a11 th ne wi dn nn la wh up lw pu pw p1 (by first | omega | assumption) (by first | omega | assumption)) (cwV 1 hts g_X9_breaks__X9_isThing_80 rfl rfl rfl (by decide +kernel) ⟨Nat.le_of_ble_eq_true rfl, Nat.le_of_ble_eq_true rfl⟩) ⟨fun a U g mk q => by obtain ⟨q0, qP, qK⟩ := q; exact ⟨q0, qP, va_K.moved (u := U) (U := U.calling g mk a) (Vm.Alike.refl U.vm) qK⟩, va_recv hKc hPc (ci := 9) (q0 := 0) rfl rfl, fun U hU hW => ⟨rfl, by rw [hU]; exact hPc, va_K.moved hW.alike hKc⟩⟩ rfl rfl hl.1 rfl (lv_room (Nat.le_of_ble_eq_true rfl)) dX9_breaks_2 ⟨Nat.le_of_ble_eq_true rfl, Nat.le_of_ble_eq_true rfl⟩) (fun r_1 hr_1 => ?_)
  try dsimp only at hr_1
  rcases bo_split hr_1 with ⟨rfl, q_2⟩ | ⟨rfl, q_2⟩
  · refine lv_if_ne (tgt := 11) hx hb dX9_breaks_5 (by decide) (fun _ => ?_) (fun h9 => absurd h9 (by decide))
    refine lv_iload_n hx hb dX9_breaks_11 rfl (lv_at hl 3 rfl) ?_
    refine lv_i2l hx hb dX9_breaks_12 rfl ?_
    refine lv_ldc2 hx hb hown (hts (.constantLong RX9 86 2) (by decide +kernel)) dX9_breaks_13 ?_
    refine lv_ldc2 hx hb hown (hts (.constantLong RX9 88 6) (by decide +kernel)) dX9_breaks_16 ?_
    refine vp_callSi (W.runS (As := [.long p3.toInt64, .long 2, .long 6]) (rest := []) ⟨hx, hb, hml, hown, hts⟩ (c_X9_in l dC dI p3.toInt64 2 6) (va_cwS 3 hts g_X9_breaks__X9_in_55 rfl rfl rfl (by decide +kernel) ⟨Nat.le_of_ble_eq_true rfl, Nat.le_of_ble_eq_true rfl⟩) ⟨fun a U g mk q => by obtain ⟨q0, q1⟩ := q; exact ⟨q0, q1⟩, fun U hU hW => ⟨rfl, trivial⟩⟩ rfl rfl hl.1 rfl (lv_room (Nat.le_of_ble_eq_true rfl)) dX9_breaks_19 ⟨Nat.le_of_ble_eq_true rfl, Nat.le_of_ble_eq_true rfl⟩) (fun r_2 hr_2 => ?_)
    try dsimp only at hr_2
    rcases bo_split hr_2 with ⟨rfl, q_19⟩ | ⟨rfl, q_19⟩
    · simp only [Int32.toInt_toInt64, klL_2, klL_6] at q_19
      refine lv_if_eq (tgt := 34) hx hb dX9_breaks_22 (by decide) (fun h9 => absurd h9 (by decide)) (fun _ => ?_)
      refine lv_aload_n hx hb dX9_breaks_25 rfl (lv_at hl 0 rfl) ?_
      refine lv_iload_n hx hb dX9_breaks_26 rfl (lv_at hl 1 rfl) ?_
      refine lv_iload_n hx hb dX9_breaks_27 rfl (lv_at hl 2 rfl) ?_
      have hPc := hP.sub (ws' := [(h0, .inr (9, [.int th, .ref a1, .ref a2, .ref a3, .ref a4, .ref a5, .int ne, .int wi, .int dn, .ref a6, .ref a7, .int nn, .ref a8, .int la, .ref a9, .ref a10, .long up, .long lw, .int wh, .long pu, .long pw, .ref a11])), (a1, .inl (cI, 16, .inl Fi)), (a2, .inl (cI, 16, .inl Ma))]) [0, 1, 2] rfl
      have hKc := hK.sub (tys' := [(cI, .int)]) [0] rfl
      refine vp_callSi (W.runV (As := [.int p1, .int p2]) (rest := []) ⟨hx, hb, hml, hown, hts⟩ (c_X9_hasPlace l dC dI h0 a1 a2 a3 a4 a5 a6 a7 a8 a9 a10 a11 th ne wi dn nn la wh up lw pu pw cI Fi Ma p1 p2 (by first | assumption | omega) (by first | omega | assumption) (by first | omega | assumption)) (cwV 2 hts g_X9_breaks__X9_hasPlace_90 rfl rfl rfl (by decide +kernel) ⟨Nat.le_of_ble_eq_true rfl, Nat.le_of_ble_eq_true rfl⟩) ⟨fun a U g mk q => by obtain ⟨q0, qP, qK⟩ := q; exact ⟨q0, qP, va_K.moved (u := U) (U := U.calling g mk a) (Vm.Alike.refl U.vm) qK⟩, va_recv hKc hPc (ci := 9) (q0 := 0) rfl rfl, fun U hU hW => ⟨rfl, by rw [hU]; exact hPc, va_K.moved hW.alike hKc⟩⟩ rfl rfl hl.1 rfl (lv_room (Nat.le_of_ble_eq_true rfl)) dX9_breaks_28 ⟨Nat.le_of_ble_eq_true rfl, Nat.le_of_ble_eq_true rfl⟩) (fun r_3 hr_3 => ?_)
      try dsimp only at hr_3
      rcases bo_split hr_3 with ⟨rfl, q_28⟩ | ⟨rfl, q_28⟩
      · refine lv_if_ne (tgt := 37) hx hb dX9_breaks_31 (by decide) (fun _ => ?_) (fun h9 => absurd h9 (by decide))
        have np1 : ((p1.toNatClampNeg : Nat) : Int) = p1.toInt := tc_I (by omega)
        have bp1 := hM2 p1.toNatClampNeg (by omega)
        refine lv_aload_n hx hb dX9_breaks_37 rfl (lv_at hl 0 rfl) ?_
        refine va_get (D := (dC, dI)) (ci := 9) (v := .ref a1) (C := RX9) (T := TX9) (N := 22) hx hb hts in_X9_breaks_X9 hown hK hP 0 rfl rfl 1 (by decide) (hts (.fieldLink RX9 7 "MeetingsAboveModel" "firsts" "[I") (by decide +kernel)) (fun _ h9 => h9) rfl dX9_breaks_38 ?_
        refine lv_iload_n hx hb dX9_breaks_41 rfl (lv_at hl 1 rfl) ?_
        refine va_iald hx hb hK hP 1 0 rfl rfl (vp_in_iff.mpr ⟨by omega, by omega⟩) dX9_breaks_42 ?_
        refine lv_topi (fun y_4 ey_4 => ?_)
        have uy_4 : y_4.toInt = (Fi (p1 : Int32).toNatClampNeg).toInt := by rw [ey_4]
        refine lv_aload_n hx hb dX9_breaks_43 rfl (lv_at hl 0 rfl) ?_
        refine va_get (D := (dC, dI)) (ci := 9) (v := .ref a2) (C := RX9) (T := TX9) (N := 22) hx hb hts in_X9_breaks_X9 hown hK hP 0 rfl rfl 2 (by decide) (hts (.fieldLink RX9 13 "MeetingsAboveModel" "many" "[I") (by decide +kernel)) (fun _ h9 => h9) rfl dX9_breaks_44 ?_
        refine lv_iload_n hx hb dX9_breaks_47 rfl (lv_at hl 1 rfl) ?_
        refine va_iald hx hb hK hP 2 0 rfl rfl (vp_in_iff.mpr ⟨by omega, by omega⟩) dX9_breaks_48 ?_
        refine lv_topi (fun y_5 ey_5 => ?_)
        have uy_5 : y_5.toInt = (Ma (p1 : Int32).toNatClampNeg).toInt := by rw [ey_5]
        refine lv_iadd hx hb dX9_breaks_49 ?_
        refine lv_topi (fun y_6 ey_6 => ?_)
        have ty_6 : y_6.toInt = y_4.toInt + y_5.toInt := by rw [ey_6]; have := fb_addI (x := y_4) (y := y_5) (by omega) (by omega); omega
        refine lv_iload_n hx hb dX9_breaks_50 rfl (lv_at hl 2 rfl) ?_
        refine lv_isub hx hb dX9_breaks_51 ?_
        refine lv_topi (fun y_7 ey_7 => ?_)
        have ty_7 : y_7.toInt = y_6.toInt - p2.toInt := by rw [ey_7]; have := fb_subI (x := y_6) (y := p2) (by omega) (by omega); omega
        refine lv_istore (lv' := [(4, .int y_7), (0, .ref h0), (1, .int p1), (2, .int p2), (3, .int p3)]) hx hb dX9_breaks_52 hl (by decide) rfl (fun ls hl => ?_)
        refine lv_aload_n hx hb dX9_breaks_54 rfl (lv_at hl 1 rfl) ?_
        refine va_get (D := (dC, dI)) (ci := 9) (v := .ref a4) (C := RX9) (T := TX9) (N := 22) hx hb hts in_X9_breaks_X9 hown hK hP 0 rfl rfl 4 (by decide) (hts (.fieldLink RX9 19 "MeetingsAboveModel" "isGone" "[Z") (by decide +kernel)) (fun _ h9 => h9) rfl dX9_breaks_55 ?_
        refine lv_iload_n hx hb dX9_breaks_58 rfl (lv_at hl 2 rfl) ?_
        refine va_zald hx hb hK hP 4 1 rfl rfl (vp_in_iff.mpr ⟨by omega, by omega⟩) dX9_breaks_59 ?_
        refine lv_topi (fun y_8 ey_8 => ?_)
        have uy_8 : y_8.toInt = (Go (p1 : Int32).toNatClampNeg).toInt := by rw [ey_8]
        refine lv_if_ne (tgt := 67) hx hb dX9_breaks_60 (by decide) (fun c_60 => ?_) (fun c_60 => ?_)
        · have t_60 := mt (fa_eq _ _).mpr c_60
          refine lv_iconst (v := 0) hx hb dX9_breaks_67 (by decide) ?_
          refine lv_istore (lv' := [(5, .int 0), (4, .int y_7), (0, .ref h0), (1, .int p1), (2, .int p2), (3, .int p3)]) hx hb dX9_breaks_68 hl (by decide) rfl (fun ls hl => ?_)
          refine lv_iconst (v := 0) hx hb dX9_breaks_70 (by decide) ?_
          refine lv_istore (lv' := [(6, .int 0), (5, .int 0), (4, .int y_7), (0, .ref h0), (1, .int p1), (2, .int p2), (3, .int p3)]) hx hb dX9_breaks_71 hl (by decide) rfl (fun ls hl => ?_)
          refine (show ∀ (k : Nat) (gd : Int32) (i6 : Int32) (hi0 : 0 ≤ i6.toInt) (hi1 : i6.toInt ≤ p3.toInt) (hG : (gd = 1 ∧ ((Go p1.toNatClampNeg).toInt = 0 ∧ gdN Sp (36 * p1.toInt + 3 * (p2.toInt - (Fi p1.toNatClampNeg).toInt)).toNat ((Fi p1.toNatClampNeg).toInt + (Ma p1.toNatClampNeg).toInt - p2.toInt).toNat p3 i6.toInt.toNat)) ∨ (gd = 0 ∧ ¬ ((Go p1.toNatClampNeg).toInt = 0 ∧ gdN Sp (36 * p1.toInt + 3 * (p2.toInt - (Fi p1.toNatClampNeg).toInt)).toNat ((Fi p1.toNatClampNeg).toInt + (Ma p1.toNatClampNeg).toInt - p2.toInt).toNat p3 i6.toInt.toNat))) (hk_73 : (p3.toInt - i6.toInt).toNat < k) (H : Heap) (locs : List Loc) (hP : va_P (dC, dI) vwCl [(h0, .inr (9, [.int th, .ref a1, .ref a2, .ref a3, .ref a4, .ref a5, .int ne, .int wi, .int dn, .ref a6, .ref a7, .int nn, .ref a8, .int la, .ref a9, .ref a10, .long up, .long lw, .int wh, .long pu, .long pw, .ref a11])), (a1, .inl (cI, 16, .inl Fi)), (a2, .inl (cI, 16, .inl Ma)), (a3, .inl (cI, 16, .inl Db)), (a4, .inl (cZ, 16, .inl Go)), (a5, .inl (cI, 576, .inl Sp))] H) (hD : va_D A [(h0, .inr (9, [.int th, .ref a1, .ref a2, .ref a3, .ref a4, .ref a5, .int ne, .int wi, .int dn, .ref a6, .ref a7, .int nn, .ref a8, .int la, .ref a9, .ref a10, .long up, .long lw, .int wh, .long pu, .long pw, .ref a11])), (a1, .inl (cI, 16, .inl Fi)), (a2, .inl (cI, 16, .inl Ma)), (a3, .inl (cI, 16, .inl Db)), (a4, .inl (cZ, 16, .inl Go)), (a5, .inl (cI, 576, .inl Sp))]) (hS : va_S A s.heap H locs) (ls : Array Slot) (hl : lv_has ls 10 [(0, .ref h0), (1, .int p1), (2, .int p2), (3, .int p3), (4, .int y_7), (5, .int gd), (6, .int i6)]), W p l e _ s m _ below meth c H locs 0 0 _ (F0 m 73 ls []) from ?_) _ 0 0 (by omega) (by omega) (by first | exact Or.inl ⟨rfl, by omega, fun i hi => absurd hi (by omega)⟩ | exact Or.inr ⟨rfl, fun h => by omega⟩) (Nat.lt_succ_self _) _ _ hP hD hS ls (lv_sub hl [3, 4, 5, 6, 2, 1, 0] rfl)
          intro k
          induction k with
          | zero => intro gd i6 hi0 hi1 hG hk_73; exact absurd hk_73 (Nat.not_lt_zero _)
          | succ k ih_73 =>
            intro gd i6 hi0 hi1 hG hk_73 H locs hP hD hS ls hl
            refine lv_iload hx hb dX9_breaks_73 (lv_at hl 6 rfl) ?_
            refine lv_iload_n hx hb dX9_breaks_75 rfl (lv_at hl 3 rfl) ?_
            refine lv_icmp_ge (tgt := 170) hx hb dX9_breaks_76 (by decide) (fun c_76 => ?_) (fun c_76 => ?_)
            · have t_76 := (fa_le _ _).mp c_76
              refine lv_iload hx hb dX9_breaks_170 (lv_at hl 5 rfl) ?_
              refine lv_if_ne (tgt := 178) hx hb dX9_breaks_172 (by decide) (fun c_172 => ?_) (fun c_172 => ?_)
              · have t_172 := mt (fa_eq _ _).mpr c_172
                have hGA : ((Go p1.toNatClampNeg).toInt = 0 ∧ gdN Sp (36 * p1.toInt + 3 * (p2.toInt - (Fi p1.toNatClampNeg).toInt)).toNat ((Fi p1.toNatClampNeg).toInt + (Ma p1.toNatClampNeg).toInt - p2.toInt).toNat p3 p3.toInt.toNat) := hG.elim (fun z => by have := z.2; rw [show i6.toInt.toNat = p3.toInt.toNat by omega] at this; exact this) (fun z => absurd z.1 c_172)
                refine lv_aload_n hx hb dX9_breaks_178 rfl (lv_at hl 0 rfl) ?_
                refine va_get (D := (dC, dI)) (ci := 9) (v := .int th) (C := RX9) (T := TX9) (N := 22) hx hb hts in_X9_breaks_X9 hown hK hP 0 rfl rfl 0 (by decide) (hts (.fieldLink RX9 59 "MeetingsAboveModel" "things" "I") (by decide +kernel)) (fun _ h9 => h9) rfl dX9_breaks_179 ?_
                refine lv_iload_n hx hb dX9_breaks_182 rfl (lv_at hl 3 rfl) ?_
                refine lv_iadd hx hb dX9_breaks_183 ?_
                refine lv_topi (fun y_9 ey_9 => ?_)
                have ty_9 : y_9.toInt = th.toInt + p3.toInt := by rw [ey_9]; have := fb_addI (x := th) (y := p3) (by omega) (by omega); omega
                refine lv_bipush (v := 16) hx hb dX9_breaks_184 (by decide) ?_
                refine lv_icmp_le (tgt := 192) hx hb dX9_breaks_186 (by decide) (fun c_186 => ?_) (fun c_186 => ?_)
                · have t_186 := (fa_le _ _).mp c_186
                  refine lv_aload_n hx hb dX9_breaks_192 rfl (lv_at hl 0 rfl) ?_
                  refine va_get (D := (dC, dI)) (ci := 9) (v := .int th) (C := RX9) (T := TX9) (N := 22) hx hb hts in_X9_breaks_X9 hown hK hP 0 rfl rfl 0 (by decide) (hts (.fieldLink RX9 59 "MeetingsAboveModel" "things" "I") (by decide +kernel)) (fun _ h9 => h9) rfl dX9_breaks_193 ?_
                  refine lv_istore (lv' := [(6, .int th), (0, .ref h0), (1, .int p1), (2, .int p2), (3, .int p3), (4, .int y_7), (5, .int gd)]) hx hb dX9_breaks_196 hl (by decide) rfl (fun ls hl => ?_)
                  refine lv_iconst (v := 0) hx hb dX9_breaks_198 (by decide) ?_
                  refine lv_istore (lv' := [(7, .int 0), (6, .int th), (0, .ref h0), (1, .int p1), (2, .int p2), (3, .int p3), (4, .int y_7), (5, .int gd)]) hx hb dX9_breaks_199 hl (by decide) rfl (fun ls hl => ?_)
                  refine (show ∀ (k : Nat) (i7 : Int32) (t7 : Int32) (F7 : Nat → Int32) (M7 : Nat → Int32) (D7 : Nat → Int32) (G7 : Nat → Int32) (S7 : Nat → Int32) (hn0 : 0 ≤ i7.toInt) (hn1 : i7.toInt ≤ p3.toInt) (ht7 : t7.toInt = th.toInt + i7.toInt) (hF7 : F7 = upN Fi th.toInt.toNat p2 i7.toInt.toNat) (hM7 : M7 = maN Ma th.toInt.toNat y_7 i7.toInt.toNat) (hD7 : D7 = upN Db th.toInt.toNat (Db p1.toNatClampNeg) i7.toInt.toNat) (hG7 : G7 = upN Go th.toInt.toNat (vp_nar .boolean 0) i7.toInt.toNat) (hS7 : S7 = bkN Sp (36 * p1.toInt + 3 * (p2.toInt - (Fi p1.toNatClampNeg).toInt)).toNat th.toInt.toNat ((Fi p1.toNatClampNeg).toInt + (Ma p1.toNatClampNeg).toInt - p2.toInt).toNat p3 i7.toInt.toNat) (hk_201 : (p3.toInt - i7.toInt).toNat < k) (H : Heap) (locs : List Loc) (hP : va_P (dC, dI) vwCl [(h0, .inr (9, [.int t7, .ref a1, .ref a2, .ref a3, .ref a4, .ref a5, .int ne, .int wi, .int dn, .ref a6, .ref a7, .int nn, .ref a8, .int la, .ref a9, .ref a10, .long up, .long lw, .int wh, .long pu, .long pw, .ref a11])), (a1, .inl (cI, 16, .inl F7)), (a2, .inl (cI, 16, .inl M7)), (a3, .inl (cI, 16, .inl D7)), (a4, .inl (cZ, 16, .inl G7)), (a5, .inl (cI, 576, .inl S7))] H) (hD : va_D A [(h0, .inr (9, [.int t7, .ref a1, .ref a2, .ref a3, .ref a4, .ref a5, .int ne, .int wi, .int dn, .ref a6, .ref a7, .int nn, .ref a8, .int la, .ref a9, .ref a10, .long up, .long lw, .int wh, .long pu, .long pw, .ref a11])), (a1, .inl (cI, 16, .inl F7)), (a2, .inl (cI, 16, .inl M7)), (a3, .inl (cI, 16, .inl D7)), (a4, .inl (cZ, 16, .inl G7)), (a5, .inl (cI, 576, .inl S7))]) (hS : va_S A s.heap H locs) (ls : Array Slot) (hl : lv_has ls 10 [(0, .ref h0), (1, .int p1), (2, .int p2), (3, .int p3), (4, .int y_7), (5, .int gd), (6, .int th), (7, .int i7)]), W p l e _ s m _ below meth c H locs 0 0 _ (F0 m 201 ls []) from ?_) _ 0 th Fi Ma Db Go Sp (by omega) (by omega) (by omega) (by rw [show (0 : Int32).toInt.toNat = 0 by omega]; rfl) (by rw [show (0 : Int32).toInt.toNat = 0 by omega]; rfl) (by rw [show (0 : Int32).toInt.toNat = 0 by omega]; rfl) (by rw [show (0 : Int32).toInt.toNat = 0 by omega]; rfl) (by rw [show (0 : Int32).toInt.toNat = 0 by omega]; rfl) (Nat.lt_succ_self _) H _ hP hD hS ls (lv_sub hl [2, 3, 4, 5, 6, 7, 1, 0] rfl)
                  intro k
                  induction k with
                  | zero => intro i7 t7 F7 M7 D7 G7 S7 hn0 hn1 ht7 hF7 hM7 hD7 hG7 hS7 hk_201; exact absurd hk_201 (Nat.not_lt_zero _)
                  | succ k ih_201 =>
                    intro i7 t7 F7 M7 D7 G7 S7 hn0 hn1 ht7 hF7 hM7 hD7 hG7 hS7 hk_201 H locs hP hD hS ls hl
                    refine lv_iload hx hb dX9_breaks_201 (lv_at hl 7 rfl) ?_
                    refine lv_iload_n hx hb dX9_breaks_203 rfl (lv_at hl 3 rfl) ?_
                    refine lv_icmp_ge (tgt := 311) hx hb dX9_breaks_204 (by decide) (fun c_204 => ?_) (fun c_204 => ?_)
                    · have t_204 := (fa_le _ _).mp c_204
                      have hie : i7.toInt.toNat = p3.toInt.toNat := by omega
                      refine lv_aload_n hx hb dX9_breaks_311 rfl (lv_at hl 0 rfl) ?_
                      refine va_get (D := (dC, dI)) (ci := 9) (v := .ref a4) (C := RX9) (T := TX9) (N := 22) hx hb hts in_X9_breaks_X9 hown hK hP 0 rfl rfl 4 (by decide) (hts (.fieldLink RX9 19 "MeetingsAboveModel" "isGone" "[Z") (by decide +kernel)) (fun _ h9 => h9) rfl dX9_breaks_312 ?_
                      refine lv_iload_n hx hb dX9_breaks_315 rfl (lv_at hl 1 rfl) ?_
                      refine lv_iconst (v := 1) hx hb dX9_breaks_316 (by decide) ?_
                      refine va_zast hx hb hK hP hD hS 4 1 rfl rfl (vp_in_iff.mpr ⟨by omega, by omega⟩) dX9_breaks_317 (fun H locs hP hD hS => ?_)
                      have hP : va_P (dC, dI) vwCl [(h0, .inr (9, [.int t7, .ref a1, .ref a2, .ref a3, .ref a4, .ref a5, .int ne, .int wi, .int dn, .ref a6, .ref a7, .int nn, .ref a8, .int la, .ref a9, .ref a10, .long up, .long lw, .int wh, .long pu, .long pw, .ref a11])), (a1, .inl (cI, 16, .inl F7)), (a2, .inl (cI, 16, .inl M7)), (a3, .inl (cI, 16, .inl D7)), (a4, .inl (cZ, 16, .inl (upd G7 (p1 : Int32).toNatClampNeg (vp_nar .boolean 1)))), (a5, .inl (cI, 576, .inl S7))] H := hP
                      have hD : va_D A [(h0, .inr (9, [.int t7, .ref a1, .ref a2, .ref a3, .ref a4, .ref a5, .int ne, .int wi, .int dn, .ref a6, .ref a7, .int nn, .ref a8, .int la, .ref a9, .ref a10, .long up, .long lw, .int wh, .long pu, .long pw, .ref a11])), (a1, .inl (cI, 16, .inl F7)), (a2, .inl (cI, 16, .inl M7)), (a3, .inl (cI, 16, .inl D7)), (a4, .inl (cZ, 16, .inl (upd G7 (p1 : Int32).toNatClampNeg (vp_nar .boolean 1)))), (a5, .inl (cI, 576, .inl S7))] := hD
                      refine lv_iload hx hb dX9_breaks_318 (lv_at hl 6 rfl) ?_
                      have hP9 := hP.sub (ws' := [(h0, .inr (9, [.int t7, .ref a1, .ref a2, .ref a3, .ref a4, .ref a5, .int ne, .int wi, .int dn, .ref a6, .ref a7, .int nn, .ref a8, .int la, .ref a9, .ref a10, .long up, .long lw, .int wh, .long pu, .long pw, .ref a11])), (a1, .inl (cI, 16, .inl F7)), (a2, .inl (cI, 16, .inl M7)), (a3, .inl (cI, 16, .inl D7)), (a4, .inl (cZ, 16, .inl (upd G7 (p1 : Int32).toNatClampNeg (vp_nar .boolean 1)))), (a5, .inl (cI, 576, .inl S7))]) [0, 1, 2, 3, 4, 5] rfl
                      have hD9 := hD.sub (ws' := [(h0, .inr (9, [.int t7, .ref a1, .ref a2, .ref a3, .ref a4, .ref a5, .int ne, .int wi, .int dn, .ref a6, .ref a7, .int nn, .ref a8, .int la, .ref a9, .ref a10, .long up, .long lw, .int wh, .long pu, .long pw, .ref a11])), (a1, .inl (cI, 16, .inl F7)), (a2, .inl (cI, 16, .inl M7)), (a3, .inl (cI, 16, .inl D7)), (a4, .inl (cZ, 16, .inl (upd G7 (p1 : Int32).toNatClampNeg (vp_nar .boolean 1)))), (a5, .inl (cI, 576, .inl S7))]) [0, 1, 2, 3, 4, 5] (by decide) rfl
                      have hK9 := hK.sub (tys' := [(cI, .int), (cZ, .boolean)]) [0, 1] rfl
                      refine W.widen (k := 0) (n := 0) (by omega) (by omega) ?_
                      exact W.iret (v := th) hx hb hr (fun t ht hW => ⟨⟨_, (), rfl, (Or.inr (Or.inr (Or.inr (Or.inr ⟨by omega, hGA, by omega, rfl⟩)))), t7, F7, M7, D7, (upd G7 (p1 : Int32).toNatClampNeg (vp_nar .boolean 1)), S7, by rw [ht]; exact hP9, va_K.moved hW.alike hK9, hD9, (Or.inl ⟨⟨by omega, hGA, by omega⟩, by omega, by rw [hF7, hie], by rw [hM7, hie, ey_7, ey_6, ey_4, ey_5], by rw [hD7, hie], by rw [hG7, hie], by rw [hS7, hie]⟩)⟩, hS.F ht⟩) hS.2.2 dX9_breaks_320
                    · have t_204 := mt (fa_le _ _).mpr c_204
                      refine lv_aload_n hx hb dX9_breaks_207 rfl (lv_at hl 0 rfl) ?_
                      refine lv_iload_n hx hb dX9_breaks_208 rfl (lv_at hl 2 rfl) ?_
                      refine lv_aload_n hx hb dX9_breaks_209 rfl (lv_at hl 0 rfl) ?_
                      refine va_get (D := (dC, dI)) (ci := 9) (v := .ref a3) (C := RX9) (T := TX9) (N := 22) hx hb hts in_X9_breaks_X9 hown hK hP 0 rfl rfl 3 (by decide) (hts (.fieldLink RX9 16 "MeetingsAboveModel" "doubts" "[I") (by decide +kernel)) (fun _ h9 => h9) rfl dX9_breaks_210 ?_
                      refine lv_iload_n hx hb dX9_breaks_213 rfl (lv_at hl 1 rfl) ?_
                      refine va_iald hx hb hK hP 3 0 rfl rfl (vp_in_iff.mpr ⟨by omega, by omega⟩) dX9_breaks_214 ?_
                      refine lv_topi (fun y_10 ey_10 => ?_)
                      have hDt : y_10 = Db p1.toNatClampNeg := by rw [ey_10, hD7]; exact upN_off _ _ _ _ _ (by omega)
                      have hPc := hP.sub (ws' := [(h0, .inr (9, [.int t7, .ref a1, .ref a2, .ref a3, .ref a4, .ref a5, .int ne, .int wi, .int dn, .ref a6, .ref a7, .int nn, .ref a8, .int la, .ref a9, .ref a10, .long up, .long lw, .int wh, .long pu, .long pw, .ref a11])), (a1, .inl (cI, 16, .inl F7)), (a2, .inl (cI, 16, .inl M7)), (a3, .inl (cI, 16, .inl D7)), (a4, .inl (cZ, 16, .inl G7))]) [0, 1, 2, 3, 4] rfl
                      have hKc := hK.sub (tys' := [(cI, .int), (cZ, .boolean)]) [0, 1] rfl
                      have hDc := hD.sub (ws' := [(h0, .inr (9, [.int t7, .ref a1, .ref a2, .ref a3, .ref a4, .ref a5, .int ne, .int wi, .int dn, .ref a6, .ref a7, .int nn, .ref a8, .int la, .ref a9, .ref a10, .long up, .long lw, .int wh, .long pu, .long pw, .ref a11])), (a1, .inl (cI, 16, .inl F7)), (a2, .inl (cI, 16, .inl M7)), (a3, .inl (cI, 16, .inl D7)), (a4, .inl (cZ, 16, .inl G7))]) [0, 1, 2, 3, 4] (by decide) rfl
                      have hFc := va_free (wc := [(h0, .inr (9, [.int t7, .ref a1, .ref a2, .ref a3, .ref a4, .ref a5, .int ne, .int wi, .int dn, .ref a6, .ref a7, .int nn, .ref a8, .int la, .ref a9, .ref a10, .long up, .long lw, .int wh, .long pu, .long pw, .ref a11])), (a1, .inl (cI, 16, .inl F7)), (a2, .inl (cI, 16, .inl M7)), (a3, .inl (cI, 16, .inl D7)), (a4, .inl (cZ, 16, .inl G7))]) hD hS hA [0, 1, 2, 3, 4] rfl
                      refine va_calli (va_runV (As := [.int p2, .int y_10]) (rest := []) ⟨hx, hb, hml, hown, hts⟩ (c_X9_fresh l dC dI h0 a1 a2 a3 a4 a5 a6 a7 a8 a9 a10 a11 t7 ne wi dn nn la wh up lw pu pw cI cZ F7 M7 D7 G7 p2 y_10 H.size (by first | omega | assumption) (by first | omega | assumption)) (cwV 2 hts g_X9_breaks__X9_fresh_72 rfl rfl rfl (by decide +kernel) ⟨Nat.le_of_ble_eq_true rfl, Nat.le_of_ble_eq_true rfl⟩) ⟨fun a U g mk q => by obtain ⟨q0, q1, qP, qK, qD⟩ := q; exact ⟨q0, q1, qP, va_K.moved (u := U) (U := U.calling g mk a) (Vm.Alike.refl U.vm) qK, qD⟩, va_recv hKc hPc (ci := 9) (q0 := 0) rfl rfl, fun U hU hW => ⟨rfl, by rw [hU], by rw [hU]; exact hPc, va_K.moved hW.alike hKc, hDc.weaken (fun _ _ _ _ => trivial)⟩⟩ rfl rfl hl.1 rfl (lv_room (Nat.le_of_ble_eq_true rfl)) dX9_breaks_215 ⟨Nat.le_of_ble_eq_true rfl, Nat.le_of_ble_eq_true rfl⟩) hS (fun q _ h => hFc q h) hFc (fun r_12 u_11 t H1 locs ht hvm hw_12 hB hz1 hk1 hS => ?_)
                      obtain ⟨th9_13, hP1, hK1, hD1, ht9_14⟩ := hB
                      rw [ht] at hP1
                      have hK1 := va_K.moved hvm.symm hK1
                      obtain ⟨hP, hD⟩ := va_join (wr := [(a5, .inl (cI, 576, .inl S7))]) (w1 := [(h0, .inr (9, [.int th9_13, .ref a1, .ref a2, .ref a3, .ref a4, .ref a5, .int ne, .int wi, .int dn, .ref a6, .ref a7, .int nn, .ref a8, .int la, .ref a9, .ref a10, .long up, .long lw, .int wh, .long pu, .long pw, .ref a11])), (a1, .inl (cI, 16, .inl (upd F7 (t7 : Int32).toNatClampNeg p2))), (a2, .inl (cI, 16, .inl (upd M7 (t7 : Int32).toNatClampNeg 0))), (a3, .inl (cI, 16, .inl (upd D7 (t7 : Int32).toNatClampNeg y_10))), (a4, .inl (cZ, 16, .inl (upd G7 (t7 : Int32).toNatClampNeg (vp_nar .boolean 0))))]) hP hD [0, 1, 2, 3, 4] [5] rfl rfl (by decide) (by decide) hk1 hFc hP1 hD1
                      have hK := (hK.sub (tys' := [(cI, .int), (cZ, .boolean)]) [0, 1] rfl).app hK1
                      generalize H1 = H at hP hS ⊢
                      have hP : va_P (dC, dI) vwCl [(a5, .inl (cI, 576, .inl S7)), (h0, .inr (9, [.int th9_13, .ref a1, .ref a2, .ref a3, .ref a4, .ref a5, .int ne, .int wi, .int dn, .ref a6, .ref a7, .int nn, .ref a8, .int la, .ref a9, .ref a10, .long up, .long lw, .int wh, .long pu, .long pw, .ref a11])), (a1, .inl (cI, 16, .inl (upd F7 (t7 : Int32).toNatClampNeg p2))), (a2, .inl (cI, 16, .inl (upd M7 (t7 : Int32).toNatClampNeg 0))), (a3, .inl (cI, 16, .inl (upd D7 (t7 : Int32).toNatClampNeg y_10))), (a4, .inl (cZ, 16, .inl (upd G7 (t7 : Int32).toNatClampNeg (vp_nar .boolean 0))))] H := hP
                      have hD : va_D A [(a5, .inl (cI, 576, .inl S7)), (h0, .inr (9, [.int th9_13, .ref a1, .ref a2, .ref a3, .ref a4, .ref a5, .int ne, .int wi, .int dn, .ref a6, .ref a7, .int nn, .ref a8, .int la, .ref a9, .ref a10, .long up, .long lw, .int wh, .long pu, .long pw, .ref a11])), (a1, .inl (cI, 16, .inl (upd F7 (t7 : Int32).toNatClampNeg p2))), (a2, .inl (cI, 16, .inl (upd M7 (t7 : Int32).toNatClampNeg 0))), (a3, .inl (cI, 16, .inl (upd D7 (t7 : Int32).toNatClampNeg y_10))), (a4, .inl (cZ, 16, .inl (upd G7 (t7 : Int32).toNatClampNeg (vp_nar .boolean 0))))] := hD
                      have hK : va_K (dC, dI) vwCl [(cI, .int), (cZ, .boolean), (cI, .int), (cZ, .boolean)] s := hK
                      refine W.widen (k := 0) (n := 0) (by omega) (by omega) ?_
                      try dsimp only at hw_12
                      have hw_12 := hw_12.symm
                      subst hw_12
                      refine lv_istore (lv' := [(8, .int t7), (0, .ref h0), (1, .int p1), (2, .int p2), (3, .int p3), (4, .int y_7), (5, .int gd), (6, .int th), (7, .int i7)]) hx hb dX9_breaks_218 hl (by decide) rfl (fun ls hl => ?_)
                      have hFt : upd F7 t7.toNatClampNeg p2 p1.toNatClampNeg = Fi p1.toNatClampNeg := (if_neg (by have z1 : ((t7.toNatClampNeg : Nat) : Int) = t7.toInt := tc_I (by omega); omega)).trans (by rw [hF7]; exact upN_off _ _ _ _ _ (by omega))
                      have hFi := congrArg Int32.toInt hFt
                      refine lv_iconst (v := 0) hx hb dX9_breaks_220 (by decide) ?_
                      refine lv_istore (lv' := [(9, .int 0), (8, .int t7), (0, .ref h0), (1, .int p1), (2, .int p2), (3, .int p3), (4, .int y_7), (5, .int gd), (6, .int th), (7, .int i7)]) hx hb dX9_breaks_221 hl (by decide) rfl (fun ls hl => ?_)
                      refine (show ∀ (k : Nat) (j9 : Int32) (S8 : Nat → Int32) (hj0 : 0 ≤ j9.toInt) (hj1 : j9.toInt ≤ y_7.toInt) (hS8 : S8 = bkK Sp (bkN Sp (36 * p1.toInt + 3 * (p2.toInt - (Fi p1.toNatClampNeg).toInt)).toNat th.toInt.toNat ((Fi p1.toNatClampNeg).toInt + (Ma p1.toNatClampNeg).toInt - p2.toInt).toNat p3 i7.toInt.toNat) (36 * p1.toInt + 3 * (p2.toInt - (Fi p1.toNatClampNeg).toInt)).toNat (36 * (th.toInt.toNat + i7.toInt.toNat)) (dX (nI i7.toInt.toNat) p3) (dY (nI i7.toInt.toNat)) j9.toInt.toNat) (hk_223 : (y_7.toInt - j9.toInt).toNat < k) (H : Heap) (locs : List Loc) (hP : va_P (dC, dI) vwCl [(a5, .inl (cI, 576, .inl S8)), (h0, .inr (9, [.int th9_13, .ref a1, .ref a2, .ref a3, .ref a4, .ref a5, .int ne, .int wi, .int dn, .ref a6, .ref a7, .int nn, .ref a8, .int la, .ref a9, .ref a10, .long up, .long lw, .int wh, .long pu, .long pw, .ref a11])), (a1, .inl (cI, 16, .inl (upd F7 (t7 : Int32).toNatClampNeg p2))), (a2, .inl (cI, 16, .inl (upd M7 (t7 : Int32).toNatClampNeg 0))), (a3, .inl (cI, 16, .inl (upd D7 (t7 : Int32).toNatClampNeg y_10))), (a4, .inl (cZ, 16, .inl (upd G7 (t7 : Int32).toNatClampNeg (vp_nar .boolean 0))))] H) (hD : va_D A [(a5, .inl (cI, 576, .inl S8)), (h0, .inr (9, [.int th9_13, .ref a1, .ref a2, .ref a3, .ref a4, .ref a5, .int ne, .int wi, .int dn, .ref a6, .ref a7, .int nn, .ref a8, .int la, .ref a9, .ref a10, .long up, .long lw, .int wh, .long pu, .long pw, .ref a11])), (a1, .inl (cI, 16, .inl (upd F7 (t7 : Int32).toNatClampNeg p2))), (a2, .inl (cI, 16, .inl (upd M7 (t7 : Int32).toNatClampNeg 0))), (a3, .inl (cI, 16, .inl (upd D7 (t7 : Int32).toNatClampNeg y_10))), (a4, .inl (cZ, 16, .inl (upd G7 (t7 : Int32).toNatClampNeg (vp_nar .boolean 0))))]) (hS : va_S A s.heap H locs) (ls : Array Slot) (hl : lv_has ls 10 [(0, .ref h0), (1, .int p1), (2, .int p2), (3, .int p3), (4, .int y_7), (5, .int gd), (6, .int th), (7, .int i7), (8, .int t7), (9, .int j9)]), W p l e _ s m _ below meth c H locs 0 0 _ (F0 m 223 ls []) from ?_) _ 0 S7 (by omega) (by omega) (by rw [show (0 : Int32).toInt.toNat = 0 by omega]; exact hS7) (Nat.lt_succ_self _) H _ hP hD hS ls (lv_sub hl [2, 3, 4, 5, 6, 7, 8, 9, 1, 0] rfl)
                      intro k
                      induction k with
                      | zero => intro j9 S8 hj0 hj1 hS8 hk_223; exact absurd hk_223 (Nat.not_lt_zero _)
                      | succ k ih_223 =>
                        intro j9 S8 hj0 hj1 hS8 hk_223 H locs hP hD hS ls hl
                        refine lv_iload hx hb dX9_breaks_223 (lv_at hl 9 rfl) ?_
                        refine lv_iload hx hb dX9_breaks_225 (lv_at hl 4 rfl) ?_
                        refine lv_icmp_ge (tgt := 296) hx hb dX9_breaks_227 (by decide) (fun c_227 => ?_) (fun c_227 => ?_)
                        · have t_227 := (fa_le _ _).mp c_227
                          refine lv_aload_n hx hb dX9_breaks_296 rfl (lv_at hl 0 rfl) ?_
                          refine va_get (D := (dC, dI)) (ci := 9) (v := .ref a2) (C := RX9) (T := TX9) (N := 22) hx hb hts in_X9_breaks_X9 hown hK hP 1 rfl rfl 2 (by decide) (hts (.fieldLink RX9 13 "MeetingsAboveModel" "many" "[I") (by decide +kernel)) (fun _ h9 => h9) rfl dX9_breaks_297 ?_
                          refine lv_iload hx hb dX9_breaks_300 (lv_at hl 8 rfl) ?_
                          refine lv_iload hx hb dX9_breaks_302 (lv_at hl 4 rfl) ?_
                          refine va_iast hx hb hK hP hD hS 3 0 rfl rfl (vp_in_iff.mpr ⟨by omega, by omega⟩) dX9_breaks_304 (fun H locs hP hD hS => ?_)
                          have hP : va_P (dC, dI) vwCl [(a5, .inl (cI, 576, .inl S8)), (h0, .inr (9, [.int th9_13, .ref a1, .ref a2, .ref a3, .ref a4, .ref a5, .int ne, .int wi, .int dn, .ref a6, .ref a7, .int nn, .ref a8, .int la, .ref a9, .ref a10, .long up, .long lw, .int wh, .long pu, .long pw, .ref a11])), (a1, .inl (cI, 16, .inl (upd F7 (t7 : Int32).toNatClampNeg p2))), (a2, .inl (cI, 16, .inl (upd (upd M7 (t7 : Int32).toNatClampNeg 0) (t7 : Int32).toNatClampNeg y_7))), (a3, .inl (cI, 16, .inl (upd D7 (t7 : Int32).toNatClampNeg y_10))), (a4, .inl (cZ, 16, .inl (upd G7 (t7 : Int32).toNatClampNeg (vp_nar .boolean 0))))] H := hP
                          have hD : va_D A [(a5, .inl (cI, 576, .inl S8)), (h0, .inr (9, [.int th9_13, .ref a1, .ref a2, .ref a3, .ref a4, .ref a5, .int ne, .int wi, .int dn, .ref a6, .ref a7, .int nn, .ref a8, .int la, .ref a9, .ref a10, .long up, .long lw, .int wh, .long pu, .long pw, .ref a11])), (a1, .inl (cI, 16, .inl (upd F7 (t7 : Int32).toNatClampNeg p2))), (a2, .inl (cI, 16, .inl (upd (upd M7 (t7 : Int32).toNatClampNeg 0) (t7 : Int32).toNatClampNeg y_7))), (a3, .inl (cI, 16, .inl (upd D7 (t7 : Int32).toNatClampNeg y_10))), (a4, .inl (cZ, 16, .inl (upd G7 (t7 : Int32).toNatClampNeg (vp_nar .boolean 0))))] := hD
                          obtain ⟨y_15, ey_15⟩ : ∃ y : Int32, y = i7 + 1 := ⟨_, rfl⟩
                          have ty_15 : y_15.toInt = i7.toInt + 1 := by rw [ey_15]; have := fb_addI (x := i7) (y := 1) (by omega) (by omega); omega
                          refine lv_iinc (v := y_15) (lv' := [(7, .int y_15), (0, .ref h0), (1, .int p1), (2, .int p2), (3, .int p3), (4, .int y_7), (5, .int gd), (6, .int th), (8, .int t7), (9, .int j9)]) hx hb dX9_breaks_305 hl (k := 7) rfl (by rw [ey_15]; rfl) (by decide) rfl (fun ls hl => ?_)
                          refine lv_goto (tgt := 201) hx hb dX9_breaks_308 (by decide) ?_
                          exact ih_201 y_15 th9_13 (upd F7 (t7 : Int32).toNatClampNeg p2) (upd (upd M7 (t7 : Int32).toNatClampNeg 0) (t7 : Int32).toNatClampNeg y_7) (upd D7 (t7 : Int32).toNatClampNeg y_10) (upd G7 (t7 : Int32).toNatClampNeg (vp_nar .boolean 0)) S8 (by omega) (by omega) (by omega) (by rw [show (y_15).toInt.toNat = i7.toInt.toNat + 1 by omega, cl_t (y := t7) (z := th.toInt.toNat + i7.toInt.toNat) (by omega)]; show _ = upd (upN Fi th.toInt.toNat p2 i7.toInt.toNat) _ _; rw [hF7]) (by rw [show (y_15).toInt.toNat = i7.toInt.toNat + 1 by omega, cl_t (y := t7) (z := th.toInt.toNat + i7.toInt.toNat) (by omega)]; show _ = upd (upd (maN Ma th.toInt.toNat y_7 i7.toInt.toNat) _ _) _ _; rw [hM7]) (by rw [show (y_15).toInt.toNat = i7.toInt.toNat + 1 by omega, cl_t (y := t7) (z := th.toInt.toNat + i7.toInt.toNat) (by omega)]; show _ = upd (upN Db th.toInt.toNat (Db p1.toNatClampNeg) i7.toInt.toNat) _ _; rw [hDt, hD7]) (by rw [show (y_15).toInt.toNat = i7.toInt.toNat + 1 by omega, cl_t (y := t7) (z := th.toInt.toNat + i7.toInt.toNat) (by omega)]; show _ = upd (upN Go th.toInt.toNat (vp_nar .boolean 0) i7.toInt.toNat) _ _; rw [hG7]) (by rw [show (y_15).toInt.toNat = i7.toInt.toNat + 1 by omega]; rw [show j9.toInt.toNat = ((Fi p1.toNatClampNeg).toInt + (Ma p1.toNatClampNeg).toInt - p2.toInt).toNat by omega] at hS8; exact hS8) (by omega) H _ (hP.sub [1, 2, 3, 4, 5, 0] rfl) (hD.sub [1, 2, 3, 4, 5, 0] (by decide) rfl) hS ls (lv_sub hl [1, 2, 3, 4, 5, 6, 7, 0] rfl)
                        · have t_227 := mt (fa_le _ _).mpr c_227
                          refine lv_aload_n hx hb dX9_breaks_230 rfl (lv_at hl 0 rfl) ?_
                          refine lv_iload hx hb dX9_breaks_231 (lv_at hl 8 rfl) ?_
                          refine lv_iload hx hb dX9_breaks_233 (lv_at hl 9 rfl) ?_
                          refine lv_aload_n hx hb dX9_breaks_235 rfl (lv_at hl 0 rfl) ?_
                          refine lv_iload_n hx hb dX9_breaks_236 rfl (lv_at hl 1 rfl) ?_
                          refine lv_iload_n hx hb dX9_breaks_237 rfl (lv_at hl 2 rfl) ?_
                          refine lv_iload hx hb dX9_breaks_238 (lv_at hl 9 rfl) ?_
                          refine lv_iadd hx hb dX9_breaks_240 ?_
                          refine lv_topi (fun y_16 ey_16 => ?_)
                          have ty_16 : y_16.toInt = p2.toInt + j9.toInt := by rw [ey_16]; have := fb_addI (x := p2) (y := j9) (by omega) (by omega); omega
                          refine lv_iconst (v := 0) hx hb dX9_breaks_241 (by decide) ?_
                          have hPc := hP.sub (ws' := [(h0, .inr (9, [.int th9_13, .ref a1, .ref a2, .ref a3, .ref a4, .ref a5, .int ne, .int wi, .int dn, .ref a6, .ref a7, .int nn, .ref a8, .int la, .ref a9, .ref a10, .long up, .long lw, .int wh, .long pu, .long pw, .ref a11])), (a1, .inl (cI, 16, .inl (upd F7 (t7 : Int32).toNatClampNeg p2))), (a5, .inl (cI, 576, .inl S8))]) [1, 2, 0] rfl
                          have hKc := hK.sub (tys' := [(cI, .int)]) [0] rfl
                          refine vp_callSi (W.runV (As := [.int p1, .int y_16, .int 0]) (rest := [.int j9, .int t7, .ref h0]) ⟨hx, hb, hml, hown, hts⟩ (c_X9_spotW l dC dI h0 a1 a2 a3 a4 a5 a6 a7 a8 a9 a10 a11 th9_13 ne wi dn nn la wh up lw pu pw cI (upd F7 (t7 : Int32).toNatClampNeg p2) S8 p1 y_16 0 (by first | omega | assumption) (by first | omega | assumption) (by first | omega | assumption) (by first | omega | assumption) (by first | omega | assumption) (by first | omega | assumption) (by first | omega | assumption) (by first | omega | assumption)) (cwV 3 hts g_X9_breaks__X9_spotW_94 rfl rfl rfl (by decide +kernel) ⟨Nat.le_of_ble_eq_true rfl, Nat.le_of_ble_eq_true rfl⟩) ⟨fun a U g mk q => by obtain ⟨q0, qP, qK⟩ := q; exact ⟨q0, qP, va_K.moved (u := U) (U := U.calling g mk a) (Vm.Alike.refl U.vm) qK⟩, va_recv hKc hPc (ci := 9) (q0 := 0) rfl rfl, fun U hU hW => ⟨rfl, by rw [hU]; exact hPc, va_K.moved hW.alike hKc⟩⟩ rfl rfl hl.1 rfl (lv_room (Nat.le_of_ble_eq_true rfl)) dX9_breaks_242 ⟨Nat.le_of_ble_eq_true rfl, Nat.le_of_ble_eq_true rfl⟩) (fun r_17 hr_17 => ?_)
                          try dsimp only at hr_17
                          refine lv_iload hx hb dX9_breaks_245 (lv_at hl 9 rfl) ?_
                          refine lv_iload hx hb dX9_breaks_247 (lv_at hl 7 rfl) ?_
                          refine lv_iload_n hx hb dX9_breaks_249 rfl (lv_at hl 3 rfl) ?_
                          refine lv_iconst (v := 2) hx hb dX9_breaks_250 (by decide) ?_
                          refine lv_idiv hx hb dX9_breaks_251 (by decide) ?_
                          refine lv_topi (fun y_18 ey_18 => ?_)
                          refine lv_isub hx hb dX9_breaks_252 ?_
                          refine lv_topi (fun y_19 ey_19 => ?_)
                          refine lv_imul hx hb dX9_breaks_253 ?_
                          refine lv_topi (fun y_20 ey_20 => ?_)
                          refine lv_iadd hx hb dX9_breaks_254 ?_
                          refine lv_topi (fun y_21 ey_21 => ?_)
                          refine lv_aload_n hx hb dX9_breaks_255 rfl (lv_at hl 0 rfl) ?_
                          refine lv_iload_n hx hb dX9_breaks_256 rfl (lv_at hl 1 rfl) ?_
                          refine lv_iload_n hx hb dX9_breaks_257 rfl (lv_at hl 2 rfl) ?_
                          refine lv_iload hx hb dX9_breaks_258 (lv_at hl 9 rfl) ?_
                          refine lv_iadd hx hb dX9_breaks_260 ?_
                          refine lv_topi (fun y_22 ey_22 => ?_)
                          have ty_22 : y_22.toInt = p2.toInt + j9.toInt := by rw [ey_22]; have := fb_addI (x := p2) (y := j9) (by omega) (by omega); omega
                          refine lv_iconst (v := 1) hx hb dX9_breaks_261 (by decide) ?_
                          have hPc := hP.sub (ws' := [(h0, .inr (9, [.int th9_13, .ref a1, .ref a2, .ref a3, .ref a4, .ref a5, .int ne, .int wi, .int dn, .ref a6, .ref a7, .int nn, .ref a8, .int la, .ref a9, .ref a10, .long up, .long lw, .int wh, .long pu, .long pw, .ref a11])), (a1, .inl (cI, 16, .inl (upd F7 (t7 : Int32).toNatClampNeg p2))), (a5, .inl (cI, 576, .inl S8))]) [1, 2, 0] rfl
                          have hKc := hK.sub (tys' := [(cI, .int)]) [0] rfl
                          refine vp_callSi (W.runV (As := [.int p1, .int y_22, .int 1]) (rest := [.int y_21, .int j9, .int t7, .ref h0]) ⟨hx, hb, hml, hown, hts⟩ (c_X9_spotW l dC dI h0 a1 a2 a3 a4 a5 a6 a7 a8 a9 a10 a11 th9_13 ne wi dn nn la wh up lw pu pw cI (upd F7 (t7 : Int32).toNatClampNeg p2) S8 p1 y_22 1 (by first | omega | assumption) (by first | omega | assumption) (by first | omega | assumption) (by first | omega | assumption) (by first | omega | assumption) (by first | omega | assumption) (by first | omega | assumption) (by first | omega | assumption)) (cwV 3 hts g_X9_breaks__X9_spotW_94 rfl rfl rfl (by decide +kernel) ⟨Nat.le_of_ble_eq_true rfl, Nat.le_of_ble_eq_true rfl⟩) ⟨fun a U g mk q => by obtain ⟨q0, qP, qK⟩ := q; exact ⟨q0, qP, va_K.moved (u := U) (U := U.calling g mk a) (Vm.Alike.refl U.vm) qK⟩, va_recv hKc hPc (ci := 9) (q0 := 0) rfl rfl, fun U hU hW => ⟨rfl, by rw [hU]; exact hPc, va_K.moved hW.alike hKc⟩⟩ rfl rfl hl.1 rfl (lv_room (Nat.le_of_ble_eq_true rfl)) dX9_breaks_262 ⟨Nat.le_of_ble_eq_true rfl, Nat.le_of_ble_eq_true rfl⟩) (fun r_23 hr_23 => ?_)
                          try dsimp only at hr_23
                          refine lv_iload hx hb dX9_breaks_265 (lv_at hl 9 rfl) ?_
                          refine lv_iload hx hb dX9_breaks_267 (lv_at hl 7 rfl) ?_
                          refine lv_iconst (v := 2) hx hb dX9_breaks_269 (by decide) ?_
                          refine lv_irem hx hb dX9_breaks_270 (by decide) ?_
                          refine lv_topi (fun y_24 ey_24 => ?_)
                          refine lv_iconst (v := 2) hx hb dX9_breaks_271 (by decide) ?_
                          refine lv_imul hx hb dX9_breaks_272 ?_
                          refine lv_topi (fun y_25 ey_25 => ?_)
                          refine lv_iconst (v := 1) hx hb dX9_breaks_273 (by decide) ?_
                          refine lv_isub hx hb dX9_breaks_274 ?_
                          refine lv_topi (fun y_26 ey_26 => ?_)
                          refine lv_imul hx hb dX9_breaks_275 ?_
                          refine lv_topi (fun y_27 ey_27 => ?_)
                          refine lv_iadd hx hb dX9_breaks_276 ?_
                          refine lv_topi (fun y_28 ey_28 => ?_)
                          refine lv_aload_n hx hb dX9_breaks_277 rfl (lv_at hl 0 rfl) ?_
                          refine lv_iload_n hx hb dX9_breaks_278 rfl (lv_at hl 1 rfl) ?_
                          refine lv_iload_n hx hb dX9_breaks_279 rfl (lv_at hl 2 rfl) ?_
                          refine lv_iload hx hb dX9_breaks_280 (lv_at hl 9 rfl) ?_
                          refine lv_iadd hx hb dX9_breaks_282 ?_
                          refine lv_topi (fun y_29 ey_29 => ?_)
                          have ty_29 : y_29.toInt = p2.toInt + j9.toInt := by rw [ey_29]; have := fb_addI (x := p2) (y := j9) (by omega) (by omega); omega
                          refine lv_iconst (v := 2) hx hb dX9_breaks_283 (by decide) ?_
                          have hPc := hP.sub (ws' := [(h0, .inr (9, [.int th9_13, .ref a1, .ref a2, .ref a3, .ref a4, .ref a5, .int ne, .int wi, .int dn, .ref a6, .ref a7, .int nn, .ref a8, .int la, .ref a9, .ref a10, .long up, .long lw, .int wh, .long pu, .long pw, .ref a11])), (a1, .inl (cI, 16, .inl (upd F7 (t7 : Int32).toNatClampNeg p2))), (a5, .inl (cI, 576, .inl S8))]) [1, 2, 0] rfl
                          have hKc := hK.sub (tys' := [(cI, .int)]) [0] rfl
                          refine vp_callSi (W.runV (As := [.int p1, .int y_29, .int 2]) (rest := [.int y_28, .int y_21, .int j9, .int t7, .ref h0]) ⟨hx, hb, hml, hown, hts⟩ (c_X9_spotW l dC dI h0 a1 a2 a3 a4 a5 a6 a7 a8 a9 a10 a11 th9_13 ne wi dn nn la wh up lw pu pw cI (upd F7 (t7 : Int32).toNatClampNeg p2) S8 p1 y_29 2 (by first | omega | assumption) (by first | omega | assumption) (by first | omega | assumption) (by first | omega | assumption) (by first | omega | assumption) (by first | omega | assumption) (by first | omega | assumption) (by first | omega | assumption)) (cwV 3 hts g_X9_breaks__X9_spotW_94 rfl rfl rfl (by decide +kernel) ⟨Nat.le_of_ble_eq_true rfl, Nat.le_of_ble_eq_true rfl⟩) ⟨fun a U g mk q => by obtain ⟨q0, qP, qK⟩ := q; exact ⟨q0, qP, va_K.moved (u := U) (U := U.calling g mk a) (Vm.Alike.refl U.vm) qK⟩, va_recv hKc hPc (ci := 9) (q0 := 0) rfl rfl, fun U hU hW => ⟨rfl, by rw [hU]; exact hPc, va_K.moved hW.alike hKc⟩⟩ rfl rfl hl.1 rfl (lv_room (Nat.le_of_ble_eq_true rfl)) dX9_breaks_284 ⟨Nat.le_of_ble_eq_true rfl, Nat.le_of_ble_eq_true rfl⟩) (fun r_30 hr_30 => ?_)
                          try dsimp only at hr_30
                          obtain ⟨q, hq⟩ : ∃ q : Nat, (36 * p1.toInt + 3 * (p2.toInt - (Fi p1.toNatClampNeg).toInt)).toNat = q := ⟨_, rfl⟩
                          obtain ⟨jn, hjn⟩ : ∃ n : Nat, j9.toInt.toNat = n := ⟨_, rfl⟩
                          have hj9 := nI_of_toInt (x := j9) (n := jn) (by omega)
                          have hi9 := nI_of_toInt (x := i7) (n := i7.toInt.toNat) (by omega)
                          rw [hjn, hq] at hS8
                          have hoff : ∀ k : Nat, k < 36 * th.toInt.toNat → S8 k = Sp k := fun k hk => by rw [hS8, bkK_off _ _ _ _ _ _ _ _ (Or.inl (by omega)), bkN_off _ _ _ _ _ _ _ hk]
                          have w8 := bk_x (q := q) (j := jn) (i := i7.toInt.toNat) ((hr_17.trans (congrArg S8 (show _ = q + 3 * jn by unfold ixm; omega))).trans (hoff _ (by omega))) ey_18 ey_19 ey_20 ey_21 hj9 hi9
                          have w9 := bk_y (q := q) (j := jn) (i := i7.toInt.toNat) ((hr_23.trans (congrArg S8 (show _ = q + 3 * jn + 1 by unfold ixm; omega))).trans (hoff _ (by omega))) ey_24 ey_25 ey_26 ey_27 ey_28 hj9 hi9
                          have w10 := (hr_30.trans (congrArg S8 (show _ = q + 3 * jn + 2 by unfold ixm; omega))).trans (hoff _ (by omega))
                          have hPc := hP.sub (ws' := [(h0, .inr (9, [.int th9_13, .ref a1, .ref a2, .ref a3, .ref a4, .ref a5, .int ne, .int wi, .int dn, .ref a6, .ref a7, .int nn, .ref a8, .int la, .ref a9, .ref a10, .long up, .long lw, .int wh, .long pu, .long pw, .ref a11])), (a5, .inl (cI, 576, .inl S8))]) [1, 0] rfl
                          have hKc := hK.sub (tys' := [(cI, .int)]) [0] rfl
                          have hDc := hD.sub (ws' := [(h0, .inr (9, [.int th9_13, .ref a1, .ref a2, .ref a3, .ref a4, .ref a5, .int ne, .int wi, .int dn, .ref a6, .ref a7, .int nn, .ref a8, .int la, .ref a9, .ref a10, .long up, .long lw, .int wh, .long pu, .long pw, .ref a11])), (a5, .inl (cI, 576, .inl S8))]) [1, 0] (by decide) rfl
                          have hFc := va_free (wc := [(h0, .inr (9, [.int th9_13, .ref a1, .ref a2, .ref a3, .ref a4, .ref a5, .int ne, .int wi, .int dn, .ref a6, .ref a7, .int nn, .ref a8, .int la, .ref a9, .ref a10, .long up, .long lw, .int wh, .long pu, .long pw, .ref a11])), (a5, .inl (cI, 576, .inl S8))]) hD hS hA [1, 0] rfl
                          refine va_callv (va_runV (As := [.int t7, .int j9, .int y_21, .int y_28, .int r_30]) (rest := []) ⟨hx, hb, hml, hown, hts⟩ (c_X9_setSpot l dC dI h0 a1 a2 a3 a4 a5 a6 a7 a8 a9 a10 a11 th9_13 ne wi dn nn la wh up lw pu pw cI S8 t7 j9 y_21 y_28 r_30 H.size (by first | omega | assumption) (by first | omega | assumption) (by first | omega | assumption) (by first | omega | assumption)) (cwV 5 hts g_X9_breaks__X9_setSpot_76 rfl rfl rfl (by decide +kernel) ⟨Nat.le_of_ble_eq_true rfl, Nat.le_of_ble_eq_true rfl⟩) ⟨fun a U g mk q => by obtain ⟨q0, q1, qP, qK, qD⟩ := q; exact ⟨q0, q1, qP, va_K.moved (u := U) (U := U.calling g mk a) (Vm.Alike.refl U.vm) qK, qD⟩, va_recv hKc hPc (ci := 9) (q0 := 0) rfl rfl, fun U hU hW => ⟨rfl, by rw [hU], by rw [hU]; exact hPc, va_K.moved hW.alike hKc, hDc.weaken (fun _ _ _ _ => trivial)⟩⟩ rfl rfl hl.1 rfl (lv_room (Nat.le_of_ble_eq_true rfl)) dX9_breaks_287 ⟨Nat.le_of_ble_eq_true rfl, Nat.le_of_ble_eq_true rfl⟩) hS (fun q _ h => hFc q h) hFc (fun u_31 t H1 locs ht hvm hw_32 hB hz1 hk1 hS => ?_)
                          obtain ⟨Sp9_33, hP1, hK1, hD1, hS9_34⟩ := hB
                          rw [ht] at hP1
                          have hK1 := va_K.moved hvm.symm hK1
                          obtain ⟨hP, hD⟩ := va_join (wr := [(a1, .inl (cI, 16, .inl (upd F7 (t7 : Int32).toNatClampNeg p2))), (a2, .inl (cI, 16, .inl (upd M7 (t7 : Int32).toNatClampNeg 0))), (a3, .inl (cI, 16, .inl (upd D7 (t7 : Int32).toNatClampNeg y_10))), (a4, .inl (cZ, 16, .inl (upd G7 (t7 : Int32).toNatClampNeg (vp_nar .boolean 0))))]) (w1 := [(h0, .inr (9, [.int th9_13, .ref a1, .ref a2, .ref a3, .ref a4, .ref a5, .int ne, .int wi, .int dn, .ref a6, .ref a7, .int nn, .ref a8, .int la, .ref a9, .ref a10, .long up, .long lw, .int wh, .long pu, .long pw, .ref a11])), (a5, .inl (cI, 576, .inl Sp9_33))]) hP hD [1, 0] [2, 3, 4, 5] rfl rfl (by decide) (by decide) hk1 hFc hP1 hD1
                          have hK := (hK.sub (tys' := [(cI, .int), (cZ, .boolean), (cI, .int), (cZ, .boolean)]) [0, 1, 2, 3] rfl).app hK1
                          generalize H1 = H at hP hS ⊢
                          have hP : va_P (dC, dI) vwCl [(a1, .inl (cI, 16, .inl (upd F7 (t7 : Int32).toNatClampNeg p2))), (a2, .inl (cI, 16, .inl (upd M7 (t7 : Int32).toNatClampNeg 0))), (a3, .inl (cI, 16, .inl (upd D7 (t7 : Int32).toNatClampNeg y_10))), (a4, .inl (cZ, 16, .inl (upd G7 (t7 : Int32).toNatClampNeg (vp_nar .boolean 0)))), (h0, .inr (9, [.int th9_13, .ref a1, .ref a2, .ref a3, .ref a4, .ref a5, .int ne, .int wi, .int dn, .ref a6, .ref a7, .int nn, .ref a8, .int la, .ref a9, .ref a10, .long up, .long lw, .int wh, .long pu, .long pw, .ref a11])), (a5, .inl (cI, 576, .inl Sp9_33))] H := hP
                          have hD : va_D A [(a1, .inl (cI, 16, .inl (upd F7 (t7 : Int32).toNatClampNeg p2))), (a2, .inl (cI, 16, .inl (upd M7 (t7 : Int32).toNatClampNeg 0))), (a3, .inl (cI, 16, .inl (upd D7 (t7 : Int32).toNatClampNeg y_10))), (a4, .inl (cZ, 16, .inl (upd G7 (t7 : Int32).toNatClampNeg (vp_nar .boolean 0)))), (h0, .inr (9, [.int th9_13, .ref a1, .ref a2, .ref a3, .ref a4, .ref a5, .int ne, .int wi, .int dn, .ref a6, .ref a7, .int nn, .ref a8, .int la, .ref a9, .ref a10, .long up, .long lw, .int wh, .long pu, .long pw, .ref a11])), (a5, .inl (cI, 576, .inl Sp9_33))] := hD
                          have hK : va_K (dC, dI) vwCl [(cI, .int), (cZ, .boolean), (cI, .int), (cZ, .boolean), (cI, .int)] s := hK
                          refine W.widen (k := 0) (n := 0) (by omega) (by omega) ?_
                          have hS9 := bkK_step hS8 hS9_34 (by omega) w8 w9 w10
                          obtain ⟨y_35, ey_35⟩ : ∃ y : Int32, y = j9 + 1 := ⟨_, rfl⟩
                          have ty_35 : y_35.toInt = j9.toInt + 1 := by rw [ey_35]; have := fb_addI (x := j9) (y := 1) (by omega) (by omega); omega
                          refine lv_iinc (v := y_35) (lv' := [(9, .int y_35), (0, .ref h0), (1, .int p1), (2, .int p2), (3, .int p3), (4, .int y_7), (5, .int gd), (6, .int th), (7, .int i7), (8, .int t7)]) hx hb dX9_breaks_290 hl (k := 9) rfl (by rw [ey_35]; rfl) (by decide) rfl (fun ls hl => ?_)
                          refine lv_goto (tgt := 223) hx hb dX9_breaks_293 (by decide) ?_
                          exact ih_223 y_35 Sp9_33 (by omega) (by omega) (by rw [show (y_35).toInt.toNat = jn + 1 by omega, hq]; exact hS9) (by omega) H _ (hP.sub [5, 4, 0, 1, 2, 3] rfl) (hD.sub [5, 4, 0, 1, 2, 3] (by decide) rfl) hS ls (lv_sub hl [1, 2, 3, 4, 5, 6, 7, 8, 9, 0] rfl)
                · have t_186 := mt (fa_le _ _).mpr c_186
                  refine lv_ldc hx hb hown (hts (.constant RX9 71 (-100004)) (by decide +kernel)) dX9_breaks_189 ?_
                  have hP9 := hP.sub (ws' := [(h0, .inr (9, [.int th, .ref a1, .ref a2, .ref a3, .ref a4, .ref a5, .int ne, .int wi, .int dn, .ref a6, .ref a7, .int nn, .ref a8, .int la, .ref a9, .ref a10, .long up, .long lw, .int wh, .long pu, .long pw, .ref a11])), (a1, .inl (cI, 16, .inl Fi)), (a2, .inl (cI, 16, .inl Ma)), (a3, .inl (cI, 16, .inl Db)), (a4, .inl (cZ, 16, .inl Go)), (a5, .inl (cI, 576, .inl Sp))]) [0, 1, 2, 3, 4, 5] rfl
                  have hD9 := hD.sub (ws' := [(h0, .inr (9, [.int th, .ref a1, .ref a2, .ref a3, .ref a4, .ref a5, .int ne, .int wi, .int dn, .ref a6, .ref a7, .int nn, .ref a8, .int la, .ref a9, .ref a10, .long up, .long lw, .int wh, .long pu, .long pw, .ref a11])), (a1, .inl (cI, 16, .inl Fi)), (a2, .inl (cI, 16, .inl Ma)), (a3, .inl (cI, 16, .inl Db)), (a4, .inl (cZ, 16, .inl Go)), (a5, .inl (cI, 576, .inl Sp))]) [0, 1, 2, 3, 4, 5] (by decide) rfl
                  have hK9 := hK.sub (tys' := [(cI, .int), (cZ, .boolean)]) [0, 1] rfl
                  refine W.widen (k := 0) (n := 0) (by omega) (by omega) ?_
                  exact W.iret (v := (-100004)) hx hb hr (fun t ht hW => ⟨⟨_, (), rfl, (Or.inr (Or.inr (Or.inr (Or.inl ⟨by omega, hGA, by omega, rfl⟩)))), th, Fi, Ma, Db, Go, Sp, by rw [ht]; exact hP9, va_K.moved hW.alike hK9, hD9, (Or.inr ⟨fun h => by have := h.2.2; omega, rfl, rfl, rfl, rfl, rfl, rfl⟩)⟩, hS.F ht⟩) hS.2.2 dX9_breaks_191
              · have t_172 := (fa_eq _ _).mp c_172
                refine lv_ldc hx hb hown (hts (.constant RX9 85 (-100003)) (by decide +kernel)) dX9_breaks_175 ?_
                have hP9 := hP.sub (ws' := [(h0, .inr (9, [.int th, .ref a1, .ref a2, .ref a3, .ref a4, .ref a5, .int ne, .int wi, .int dn, .ref a6, .ref a7, .int nn, .ref a8, .int la, .ref a9, .ref a10, .long up, .long lw, .int wh, .long pu, .long pw, .ref a11])), (a1, .inl (cI, 16, .inl Fi)), (a2, .inl (cI, 16, .inl Ma)), (a3, .inl (cI, 16, .inl Db)), (a4, .inl (cZ, 16, .inl Go)), (a5, .inl (cI, 576, .inl Sp))]) [0, 1, 2, 3, 4, 5] rfl
                have hD9 := hD.sub (ws' := [(h0, .inr (9, [.int th, .ref a1, .ref a2, .ref a3, .ref a4, .ref a5, .int ne, .int wi, .int dn, .ref a6, .ref a7, .int nn, .ref a8, .int la, .ref a9, .ref a10, .long up, .long lw, .int wh, .long pu, .long pw, .ref a11])), (a1, .inl (cI, 16, .inl Fi)), (a2, .inl (cI, 16, .inl Ma)), (a3, .inl (cI, 16, .inl Db)), (a4, .inl (cZ, 16, .inl Go)), (a5, .inl (cI, 576, .inl Sp))]) [0, 1, 2, 3, 4, 5] (by decide) rfl
                have hK9 := hK.sub (tys' := [(cI, .int), (cZ, .boolean)]) [0, 1] rfl
                refine W.widen (k := 0) (n := 0) (by omega) (by omega) ?_
                exact W.iret (v := (-100003)) hx hb hr (fun t ht hW => ⟨⟨_, (), rfl, (Or.inr (Or.inr (Or.inl ⟨by omega, fun h => (hG.elim (fun z => absurd z.1 (by rw [c_172]; decide)) (fun z => z.2 (by rw [show i6.toInt.toNat = p3.toInt.toNat by omega]; exact h))), rfl⟩))), th, Fi, Ma, Db, Go, Sp, by rw [ht]; exact hP9, va_K.moved hW.alike hK9, hD9, (Or.inr ⟨fun h => (hG.elim (fun z => absurd z.1 (by rw [c_172]; decide)) (fun z => z.2 (by rw [show i6.toInt.toNat = p3.toInt.toNat by omega]; exact h.2.1))), rfl, rfl, rfl, rfl, rfl, rfl⟩)⟩, hS.F ht⟩) hS.2.2 dX9_breaks_177
            · have t_76 := mt (fa_le _ _).mpr c_76
              refine lv_iconst (v := 0) hx hb dX9_breaks_79 (by decide) ?_
              refine lv_istore (lv' := [(7, .int 0), (0, .ref h0), (1, .int p1), (2, .int p2), (3, .int p3), (4, .int y_7), (5, .int gd), (6, .int i6)]) hx hb dX9_breaks_80 hl (by decide) rfl (fun ls hl => ?_)
              refine (show ∀ (k : Nat) (gd2 : Int32) (j7 : Int32) (hj0 : 0 ≤ j7.toInt) (hj1 : j7.toInt ≤ y_7.toInt) (hH : (gd2 = 1 ∧ ((Go p1.toNatClampNeg).toInt = 0 ∧ gdN Sp (36 * p1.toInt + 3 * (p2.toInt - (Fi p1.toNatClampNeg).toInt)).toNat ((Fi p1.toNatClampNeg).toInt + (Ma p1.toNatClampNeg).toInt - p2.toInt).toNat p3 i6.toInt.toNat) ∧ gdI Sp (36 * p1.toInt + 3 * (p2.toInt - (Fi p1.toNatClampNeg).toInt)).toNat (dX (nI i6.toInt.toNat) p3) (dY (nI i6.toInt.toNat)) j7.toInt.toNat) ∨ (gd2 = 0 ∧ ¬ (((Go p1.toNatClampNeg).toInt = 0 ∧ gdN Sp (36 * p1.toInt + 3 * (p2.toInt - (Fi p1.toNatClampNeg).toInt)).toNat ((Fi p1.toNatClampNeg).toInt + (Ma p1.toNatClampNeg).toInt - p2.toInt).toNat p3 i6.toInt.toNat) ∧ gdI Sp (36 * p1.toInt + 3 * (p2.toInt - (Fi p1.toNatClampNeg).toInt)).toNat (dX (nI i6.toInt.toNat) p3) (dY (nI i6.toInt.toNat)) j7.toInt.toNat))) (hk_82 : (y_7.toInt - j7.toInt).toNat < k) (H : Heap) (locs : List Loc) (hP : va_P (dC, dI) vwCl [(h0, .inr (9, [.int th, .ref a1, .ref a2, .ref a3, .ref a4, .ref a5, .int ne, .int wi, .int dn, .ref a6, .ref a7, .int nn, .ref a8, .int la, .ref a9, .ref a10, .long up, .long lw, .int wh, .long pu, .long pw, .ref a11])), (a1, .inl (cI, 16, .inl Fi)), (a2, .inl (cI, 16, .inl Ma)), (a3, .inl (cI, 16, .inl Db)), (a4, .inl (cZ, 16, .inl Go)), (a5, .inl (cI, 576, .inl Sp))] H) (hD : va_D A [(h0, .inr (9, [.int th, .ref a1, .ref a2, .ref a3, .ref a4, .ref a5, .int ne, .int wi, .int dn, .ref a6, .ref a7, .int nn, .ref a8, .int la, .ref a9, .ref a10, .long up, .long lw, .int wh, .long pu, .long pw, .ref a11])), (a1, .inl (cI, 16, .inl Fi)), (a2, .inl (cI, 16, .inl Ma)), (a3, .inl (cI, 16, .inl Db)), (a4, .inl (cZ, 16, .inl Go)), (a5, .inl (cI, 576, .inl Sp))]) (hS : va_S A s.heap H locs) (ls : Array Slot) (hl : lv_has ls 10 [(0, .ref h0), (1, .int p1), (2, .int p2), (3, .int p3), (4, .int y_7), (5, .int gd2), (6, .int i6), (7, .int j7)]), W p l e _ s m _ below meth c H locs 0 0 _ (F0 m 82 ls []) from ?_) _ gd 0 (by omega) (by omega) (by exact hG.imp (fun h => ⟨h.1, h.2, fun j hj => absurd hj (by omega)⟩) (fun h => ⟨h.1, fun z => h.2 z.1⟩)) (Nat.lt_succ_self _) H _ hP hD hS ls (lv_sub hl [1, 2, 3, 4, 5, 6, 7, 0] rfl)
              intro k
              induction k with
              | zero => intro gd2 j7 hj0 hj1 hH hk_82; exact absurd hk_82 (Nat.not_lt_zero _)
              | succ k ih_82 =>
                intro gd2 j7 hj0 hj1 hH hk_82 H locs hP hD hS ls hl
                refine lv_iload hx hb dX9_breaks_82 (lv_at hl 7 rfl) ?_
                refine lv_iload hx hb dX9_breaks_84 (lv_at hl 4 rfl) ?_
                refine lv_icmp_ge (tgt := 164) hx hb dX9_breaks_86 (by decide) (fun c_86 => ?_) (fun c_86 => ?_)
                · have t_86 := (fa_le _ _).mp c_86
                  obtain ⟨y_36, ey_36⟩ : ∃ y : Int32, y = i6 + 1 := ⟨_, rfl⟩
                  have ty_36 : y_36.toInt = i6.toInt + 1 := by rw [ey_36]; have := fb_addI (x := i6) (y := 1) (by omega) (by omega); omega
                  refine lv_iinc (v := y_36) (lv' := [(6, .int y_36), (0, .ref h0), (1, .int p1), (2, .int p2), (3, .int p3), (4, .int y_7), (5, .int gd2), (7, .int j7)]) hx hb dX9_breaks_164 hl (k := 6) rfl (by rw [ey_36]; rfl) (by decide) rfl (fun ls hl => ?_)
                  refine lv_goto (tgt := 73) hx hb dX9_breaks_167 (by decide) ?_
                  exact ih_73 gd2 y_36 (by omega) (by omega) (by rw [show (y_36).toInt.toNat = i6.toInt.toNat + 1 by omega]; rw [show j7.toInt.toNat = ((Fi p1.toNatClampNeg).toInt + (Ma p1.toNatClampNeg).toInt - p2.toInt).toNat by omega] at hH; exact bk_up hH) (by omega) H _ (hP.sub [0, 1, 2, 3, 4, 5] rfl) (hD.sub [0, 1, 2, 3, 4, 5] (by decide) rfl) hS ls (lv_sub hl [1, 2, 3, 4, 5, 6, 0] rfl)
                · have t_86 := mt (fa_le _ _).mpr c_86
                  refine lv_aload_n hx hb dX9_breaks_89 rfl (lv_at hl 0 rfl) ?_
                  refine lv_iload_n hx hb dX9_breaks_90 rfl (lv_at hl 1 rfl) ?_
                  refine lv_iload_n hx hb dX9_breaks_91 rfl (lv_at hl 2 rfl) ?_
                  refine lv_iload hx hb dX9_breaks_92 (lv_at hl 7 rfl) ?_
                  refine lv_iadd hx hb dX9_breaks_94 ?_
                  refine lv_topi (fun y_37 ey_37 => ?_)
                  have ty_37 : y_37.toInt = p2.toInt + j7.toInt := by rw [ey_37]; have := fb_addI (x := p2) (y := j7) (by omega) (by omega); omega
                  refine lv_iconst (v := 0) hx hb dX9_breaks_95 (by decide) ?_
                  have hPc := hP.sub (ws' := [(h0, .inr (9, [.int th, .ref a1, .ref a2, .ref a3, .ref a4, .ref a5, .int ne, .int wi, .int dn, .ref a6, .ref a7, .int nn, .ref a8, .int la, .ref a9, .ref a10, .long up, .long lw, .int wh, .long pu, .long pw, .ref a11])), (a1, .inl (cI, 16, .inl Fi)), (a5, .inl (cI, 576, .inl Sp))]) [0, 1, 5] rfl
                  have hKc := hK.sub (tys' := [(cI, .int)]) [0] rfl
                  refine vp_callSi (W.runV (As := [.int p1, .int y_37, .int 0]) (rest := []) ⟨hx, hb, hml, hown, hts⟩ (c_X9_spot l dC dI Ma h0 a1 a2 a3 a4 a5 a6 a7 a8 a9 a10 a11 th ne wi dn nn la wh up lw pu pw cI Fi Sp p1 y_37 0 (by first | assumption | omega) (by first | omega | assumption) (by first | omega | assumption) (by first | omega | assumption) (by first | omega | assumption) (by first | omega | assumption) (by first | omega | assumption)) (cwV 3 hts g_X9_breaks__X9_spot_94 rfl rfl rfl (by decide +kernel) ⟨Nat.le_of_ble_eq_true rfl, Nat.le_of_ble_eq_true rfl⟩) ⟨fun a U g mk q => by obtain ⟨q0, qP, qK⟩ := q; exact ⟨q0, qP, va_K.moved (u := U) (U := U.calling g mk a) (Vm.Alike.refl U.vm) qK⟩, va_recv hKc hPc (ci := 9) (q0 := 0) rfl rfl, fun U hU hW => ⟨rfl, by rw [hU]; exact hPc, va_K.moved hW.alike hKc⟩⟩ rfl rfl hl.1 rfl (lv_room (Nat.le_of_ble_eq_true rfl)) dX9_breaks_96 ⟨Nat.le_of_ble_eq_true rfl, Nat.le_of_ble_eq_true rfl⟩) (fun r_38 hr_38 => ?_)
                  try dsimp only at hr_38
                  refine lv_iload hx hb dX9_breaks_99 (lv_at hl 7 rfl) ?_
                  refine lv_iload hx hb dX9_breaks_101 (lv_at hl 6 rfl) ?_
                  refine lv_iload_n hx hb dX9_breaks_103 rfl (lv_at hl 3 rfl) ?_
                  refine lv_iconst (v := 2) hx hb dX9_breaks_104 (by decide) ?_
                  refine lv_idiv hx hb dX9_breaks_105 (by decide) ?_
                  refine lv_topi (fun y_39 ey_39 => ?_)
                  refine lv_isub hx hb dX9_breaks_106 ?_
                  refine lv_topi (fun y_40 ey_40 => ?_)
                  refine lv_imul hx hb dX9_breaks_107 ?_
                  refine lv_topi (fun y_41 ey_41 => ?_)
                  refine lv_iadd hx hb dX9_breaks_108 ?_
                  refine lv_topi (fun y_42 ey_42 => ?_)
                  refine lv_istore (lv' := [(8, .int y_42), (0, .ref h0), (1, .int p1), (2, .int p2), (3, .int p3), (4, .int y_7), (5, .int gd2), (6, .int i6), (7, .int j7)]) hx hb dX9_breaks_109 hl (by decide) rfl (fun ls hl => ?_)
                  refine lv_aload_n hx hb dX9_breaks_111 rfl (lv_at hl 1 rfl) ?_
                  refine lv_iload_n hx hb dX9_breaks_112 rfl (lv_at hl 2 rfl) ?_
                  refine lv_iload_n hx hb dX9_breaks_113 rfl (lv_at hl 3 rfl) ?_
                  refine lv_iload hx hb dX9_breaks_114 (lv_at hl 8 rfl) ?_
                  refine lv_iadd hx hb dX9_breaks_116 ?_
                  refine lv_topi (fun y_43 ey_43 => ?_)
                  have ty_43 : y_43.toInt = p2.toInt + j7.toInt := by rw [ey_43]; have := fb_addI (x := p2) (y := j7) (by omega) (by omega); omega
                  refine lv_iconst (v := 1) hx hb dX9_breaks_117 (by decide) ?_
                  have hPc := hP.sub (ws' := [(h0, .inr (9, [.int th, .ref a1, .ref a2, .ref a3, .ref a4, .ref a5, .int ne, .int wi, .int dn, .ref a6, .ref a7, .int nn, .ref a8, .int la, .ref a9, .ref a10, .long up, .long lw, .int wh, .long pu, .long pw, .ref a11])), (a1, .inl (cI, 16, .inl Fi)), (a5, .inl (cI, 576, .inl Sp))]) [0, 1, 5] rfl
                  have hKc := hK.sub (tys' := [(cI, .int)]) [0] rfl
                  refine vp_callSi (W.runV (As := [.int p1, .int y_43, .int 1]) (rest := []) ⟨hx, hb, hml, hown, hts⟩ (c_X9_spot l dC dI Ma h0 a1 a2 a3 a4 a5 a6 a7 a8 a9 a10 a11 th ne wi dn nn la wh up lw pu pw cI Fi Sp p1 y_43 1 (by first | assumption | omega) (by first | omega | assumption) (by first | omega | assumption) (by first | omega | assumption) (by first | omega | assumption) (by first | omega | assumption) (by first | omega | assumption)) (cwV 3 hts g_X9_breaks__X9_spot_94 rfl rfl rfl (by decide +kernel) ⟨Nat.le_of_ble_eq_true rfl, Nat.le_of_ble_eq_true rfl⟩) ⟨fun a U g mk q => by obtain ⟨q0, qP, qK⟩ := q; exact ⟨q0, qP, va_K.moved (u := U) (U := U.calling g mk a) (Vm.Alike.refl U.vm) qK⟩, va_recv hKc hPc (ci := 9) (q0 := 0) rfl rfl, fun U hU hW => ⟨rfl, by rw [hU]; exact hPc, va_K.moved hW.alike hKc⟩⟩ rfl rfl hl.1 rfl (lv_room (Nat.le_of_ble_eq_true rfl)) dX9_breaks_118 ⟨Nat.le_of_ble_eq_true rfl, Nat.le_of_ble_eq_true rfl⟩) (fun r_44 hr_44 => ?_)
                  try dsimp only at hr_44
                  refine lv_iload hx hb dX9_breaks_121 (lv_at hl 8 rfl) ?_
                  refine lv_iload hx hb dX9_breaks_123 (lv_at hl 7 rfl) ?_
                  refine lv_iconst (v := 2) hx hb dX9_breaks_125 (by decide) ?_
                  refine lv_irem hx hb dX9_breaks_126 (by decide) ?_
                  refine lv_topi (fun y_45 ey_45 => ?_)
                  refine lv_iconst (v := 2) hx hb dX9_breaks_127 (by decide) ?_
                  refine lv_imul hx hb dX9_breaks_128 ?_
                  refine lv_topi (fun y_46 ey_46 => ?_)
                  refine lv_iconst (v := 1) hx hb dX9_breaks_129 (by decide) ?_
                  refine lv_isub hx hb dX9_breaks_130 ?_
                  refine lv_topi (fun y_47 ey_47 => ?_)
                  refine lv_imul hx hb dX9_breaks_131 ?_
                  refine lv_topi (fun y_48 ey_48 => ?_)
                  refine lv_iadd hx hb dX9_breaks_132 ?_
                  refine lv_topi (fun y_49 ey_49 => ?_)
                  refine lv_istore (lv' := [(9, .int y_49), (8, .int y_42), (0, .ref h0), (1, .int p1), (2, .int p2), (3, .int p3), (4, .int y_7), (5, .int gd2), (6, .int i6), (7, .int j7)]) hx hb dX9_breaks_133 hl (by decide) rfl (fun ls hl => ?_)
                  obtain ⟨q, hq⟩ : ∃ q : Nat, (36 * p1.toInt + 3 * (p2.toInt - (Fi p1.toNatClampNeg).toInt)).toNat = q := ⟨_, rfl⟩
                  obtain ⟨jn, hjn⟩ : ∃ n : Nat, j7.toInt.toNat = n := ⟨_, rfl⟩
                  have hj9 := nI_of_toInt (x := j7) (n := jn) (by omega)
                  have hi9 := nI_of_toInt (x := i6) (n := i6.toInt.toNat) (by omega)
                  have w8 := bk_x (q := q) (j := jn) (i := i6.toInt.toNat) (hr_38.trans (congrArg Sp (by unfold ixm; omega))) ey_39 ey_40 ey_41 ey_42 hj9 hi9
                  have w9 := bk_y (q := q) (j := jn) (i := i6.toInt.toNat) (hr_44.trans (congrArg Sp (by unfold ixm; omega))) ey_45 ey_46 ey_47 ey_48 ey_49 hj9 hi9
                  rw [hq, hjn] at hH
                  refine lv_iload hx hb dX9_breaks_135 (lv_at hl 7 rfl) ?_
                  refine lv_if_eq (tgt := 155) hx hb dX9_breaks_137 (by decide) (fun c_137 => ?_) (fun c_137 => ?_)
                  · have t_137 := (fa_eq _ _).mp c_137
                    refine lv_iconst (v := 0) hx hb dX9_breaks_155 (by decide) ?_
                    refine lv_istore (lv' := [(5, .int 0), (9, .int y_49), (8, .int y_42), (0, .ref h0), (1, .int p1), (2, .int p2), (3, .int p3), (4, .int y_7), (6, .int i6), (7, .int j7)]) hx hb dX9_breaks_156 hl (by decide) rfl (fun ls hl => ?_)
                    obtain ⟨y_50, ey_50⟩ : ∃ y : Int32, y = j7 + 1 := ⟨_, rfl⟩
                    have ty_50 : y_50.toInt = j7.toInt + 1 := by rw [ey_50]; have := fb_addI (x := j7) (y := 1) (by omega) (by omega); omega
                    refine lv_iinc (v := y_50) (lv' := [(7, .int y_50), (5, .int 0), (9, .int y_49), (8, .int y_42), (0, .ref h0), (1, .int p1), (2, .int p2), (3, .int p3), (4, .int y_7), (6, .int i6)]) hx hb dX9_breaks_158 hl (k := 9) rfl (by rw [ey_50]; rfl) (by decide) rfl (fun ls hl => ?_)
                    refine lv_goto (tgt := 82) hx hb dX9_breaks_161 (by decide) ?_
                    exact ih_82 0 y_50 (by omega) (by omega) (by rw [show (y_50).toInt.toNat = jn + 1 by omega, hq]; first | exact bk_0 hH c_137 | exact bk_1 hH c_137 w8 w9 q_145 | exact bk_2 w8 w9 q_145) (by omega) H _ (hP.sub [0, 1, 2, 3, 4, 5] rfl) (hD.sub [0, 1, 2, 3, 4, 5] (by decide) rfl) hS ls (lv_sub hl [4, 5, 6, 7, 8, 1, 9, 0] rfl)
                  · have t_137 := mt (fa_eq _ _).mpr c_137
                    refine lv_iload hx hb dX9_breaks_140 (lv_at hl 1 rfl) ?_
                    refine lv_iload hx hb dX9_breaks_142 (lv_at hl 0 rfl) ?_
                    refine lv_iconst (v := 0) hx hb dX9_breaks_144 (by decide) ?_
                    refine vp_callSi (W.runS (As := [.int y_42, .int y_49, .int 0]) (rest := []) ⟨hx, hb, hml, hown, hts⟩ (c_X9_isPlace l dC dI y_42 y_49 0) (va_cwS 3 hts g_X9_breaks__X9_isPlace_64 rfl rfl rfl (by decide +kernel) ⟨Nat.le_of_ble_eq_true rfl, Nat.le_of_ble_eq_true rfl⟩) ⟨fun a U g mk q => by obtain ⟨q0, q1⟩ := q; exact ⟨q0, q1⟩, fun U hU hW => ⟨rfl, trivial⟩⟩ rfl rfl hl.1 rfl (lv_room (Nat.le_of_ble_eq_true rfl)) dX9_breaks_145 ⟨Nat.le_of_ble_eq_true rfl, Nat.le_of_ble_eq_true rfl⟩) (fun r_51 hr_51 => ?_)
                    try dsimp only at hr_51
                    rcases bo_split hr_51 with ⟨rfl, q_145⟩ | ⟨rfl, q_145⟩
                    · refine lv_if_eq (tgt := 155) hx hb dX9_breaks_148 (by decide) (fun h9 => absurd h9 (by decide)) (fun _ => ?_)
                      refine lv_iconst (v := 1) hx hb dX9_breaks_151 (by decide) ?_
                      refine lv_goto (tgt := 156) hx hb dX9_breaks_152 (by decide) ?_
                      refine lv_istore (lv' := [(5, .int 1), (9, .int y_49), (8, .int y_42), (0, .ref h0), (1, .int p1), (2, .int p2), (3, .int p3), (4, .int y_7), (6, .int i6), (7, .int j7)]) hx hb dX9_breaks_156 hl (by decide) rfl (fun ls hl => ?_)
                      obtain ⟨y_52, ey_52⟩ : ∃ y : Int32, y = j7 + 1 := ⟨_, rfl⟩
                      have ty_52 : y_52.toInt = j7.toInt + 1 := by rw [ey_52]; have := fb_addI (x := j7) (y := 1) (by omega) (by omega); omega
                      refine lv_iinc (v := y_52) (lv' := [(7, .int y_52), (5, .int 1), (9, .int y_49), (8, .int y_42), (0, .ref h0), (1, .int p1), (2, .int p2), (3, .int p3), (4, .int y_7), (6, .int i6)]) hx hb dX9_breaks_158 hl (k := 9) rfl (by rw [ey_52]; rfl) (by decide) rfl (fun ls hl => ?_)
                      refine lv_goto (tgt := 82) hx hb dX9_breaks_161 (by decide) ?_
                      exact ih_82 1 y_52 (by omega) (by omega) (by rw [show (y_52).toInt.toNat = jn + 1 by omega, hq]; first | exact bk_0 hH c_137 | exact bk_1 hH c_137 w8 w9 q_145 | exact bk_2 w8 w9 q_145) (by omega) H _ (hP.sub [0, 1, 2, 3, 4, 5] rfl) (hD.sub [0, 1, 2, 3, 4, 5] (by decide) rfl) hS ls (lv_sub hl [4, 5, 6, 7, 8, 1, 9, 0] rfl)
                    · refine lv_if_eq (tgt := 155) hx hb dX9_breaks_148 (by decide) (fun _ => ?_) (fun h9 => absurd h9 (by decide))
                      refine lv_iconst (v := 0) hx hb dX9_breaks_155 (by decide) ?_
                      refine lv_istore (lv' := [(5, .int 0), (9, .int y_49), (8, .int y_42), (0, .ref h0), (1, .int p1), (2, .int p2), (3, .int p3), (4, .int y_7), (6, .int i6), (7, .int j7)]) hx hb dX9_breaks_156 hl (by decide) rfl (fun ls hl => ?_)
                      obtain ⟨y_53, ey_53⟩ : ∃ y : Int32, y = j7 + 1 := ⟨_, rfl⟩
                      have ty_53 : y_53.toInt = j7.toInt + 1 := by rw [ey_53]; have := fb_addI (x := j7) (y := 1) (by omega) (by omega); omega
                      refine lv_iinc (v := y_53) (lv' := [(7, .int y_53), (5, .int 0), (9, .int y_49), (8, .int y_42), (0, .ref h0), (1, .int p1), (2, .int p2), (3, .int p3), (4, .int y_7), (6, .int i6)]) hx hb dX9_breaks_158 hl (k := 9) rfl (by rw [ey_53]; rfl) (by decide) rfl (fun ls hl => ?_)
                      refine lv_goto (tgt := 82) hx hb dX9_breaks_161 (by decide) ?_
                      exact ih_82 0 y_53 (by omega) (by omega) (by rw [show (y_53).toInt.toNat = jn + 1 by omega, hq]; first | exact bk_0 hH c_137 | exact bk_1 hH c_137 w8 w9 q_145 | exact bk_2 w8 w9 q_145) (by omega) H _ (hP.sub [0, 1, 2, 3, 4, 5] rfl) (hD.sub [0, 1, 2, 3, 4, 5] (by decide) rfl) hS ls (lv_sub hl [4, 5, 6, 7, 8, 1, 9, 0] rfl)
        · have t_60 := (fa_eq _ _).mp c_60
          refine lv_iconst (v := 1) hx hb dX9_breaks_63 (by decide) ?_
          refine lv_goto (tgt := 68) hx hb dX9_breaks_64 (by decide) ?_
          refine lv_istore (lv' := [(5, .int 1), (4, .int y_7), (0, .ref h0), (1, .int p1), (2, .int p2), (3, .int p3)]) hx hb dX9_breaks_68 hl (by decide) rfl (fun ls hl => ?_)
          refine lv_iconst (v := 0) hx hb dX9_breaks_70 (by decide) ?_
          refine lv_istore (lv' := [(6, .int 0), (5, .int 1), (4, .int y_7), (0, .ref h0), (1, .int p1), (2, .int p2), (3, .int p3)]) hx hb dX9_breaks_71 hl (by decide) rfl (fun ls hl => ?_)
          refine (show ∀ (k : Nat) (gd : Int32) (i6 : Int32) (hi0 : 0 ≤ i6.toInt) (hi1 : i6.toInt ≤ p3.toInt) (hG : (gd = 1 ∧ ((Go p1.toNatClampNeg).toInt = 0 ∧ gdN Sp (36 * p1.toInt + 3 * (p2.toInt - (Fi p1.toNatClampNeg).toInt)).toNat ((Fi p1.toNatClampNeg).toInt + (Ma p1.toNatClampNeg).toInt - p2.toInt).toNat p3 i6.toInt.toNat)) ∨ (gd = 0 ∧ ¬ ((Go p1.toNatClampNeg).toInt = 0 ∧ gdN Sp (36 * p1.toInt + 3 * (p2.toInt - (Fi p1.toNatClampNeg).toInt)).toNat ((Fi p1.toNatClampNeg).toInt + (Ma p1.toNatClampNeg).toInt - p2.toInt).toNat p3 i6.toInt.toNat))) (hk_73 : (p3.toInt - i6.toInt).toNat < k) (H : Heap) (locs : List Loc) (hP : va_P (dC, dI) vwCl [(h0, .inr (9, [.int th, .ref a1, .ref a2, .ref a3, .ref a4, .ref a5, .int ne, .int wi, .int dn, .ref a6, .ref a7, .int nn, .ref a8, .int la, .ref a9, .ref a10, .long up, .long lw, .int wh, .long pu, .long pw, .ref a11])), (a1, .inl (cI, 16, .inl Fi)), (a2, .inl (cI, 16, .inl Ma)), (a3, .inl (cI, 16, .inl Db)), (a4, .inl (cZ, 16, .inl Go)), (a5, .inl (cI, 576, .inl Sp))] H) (hD : va_D A [(h0, .inr (9, [.int th, .ref a1, .ref a2, .ref a3, .ref a4, .ref a5, .int ne, .int wi, .int dn, .ref a6, .ref a7, .int nn, .ref a8, .int la, .ref a9, .ref a10, .long up, .long lw, .int wh, .long pu, .long pw, .ref a11])), (a1, .inl (cI, 16, .inl Fi)), (a2, .inl (cI, 16, .inl Ma)), (a3, .inl (cI, 16, .inl Db)), (a4, .inl (cZ, 16, .inl Go)), (a5, .inl (cI, 576, .inl Sp))]) (hS : va_S A s.heap H locs) (ls : Array Slot) (hl : lv_has ls 10 [(0, .ref h0), (1, .int p1), (2, .int p2), (3, .int p3), (4, .int y_7), (5, .int gd), (6, .int i6)]), W p l e _ s m _ below meth c H locs 0 0 _ (F0 m 73 ls []) from ?_) _ 1 0 (by omega) (by omega) (by first | exact Or.inl ⟨rfl, by omega, fun i hi => absurd hi (by omega)⟩ | exact Or.inr ⟨rfl, fun h => by omega⟩) (Nat.lt_succ_self _) _ _ hP hD hS ls (lv_sub hl [3, 4, 5, 6, 2, 1, 0] rfl)
          intro k
          induction k with
          | zero => intro gd i6 hi0 hi1 hG hk_73; exact absurd hk_73 (Nat.not_lt_zero _)
          | succ k ih_73 =>
            intro gd i6 hi0 hi1 hG hk_73 H locs hP hD hS ls hl
            refine lv_iload hx hb dX9_breaks_73 (lv_at hl 6 rfl) ?_
            refine lv_iload_n hx hb dX9_breaks_75 rfl (lv_at hl 3 rfl) ?_
            refine lv_icmp_ge (tgt := 170) hx hb dX9_breaks_76 (by decide) (fun c_76 => ?_) (fun c_76 => ?_)
            · have t_76 := (fa_le _ _).mp c_76
              refine lv_iload hx hb dX9_breaks_170 (lv_at hl 5 rfl) ?_
              refine lv_if_ne (tgt := 178) hx hb dX9_breaks_172 (by decide) (fun c_172 => ?_) (fun c_172 => ?_)
              · have t_172 := mt (fa_eq _ _).mpr c_172
                have hGA : ((Go p1.toNatClampNeg).toInt = 0 ∧ gdN Sp (36 * p1.toInt + 3 * (p2.toInt - (Fi p1.toNatClampNeg).toInt)).toNat ((Fi p1.toNatClampNeg).toInt + (Ma p1.toNatClampNeg).toInt - p2.toInt).toNat p3 p3.toInt.toNat) := hG.elim (fun z => by have := z.2; rw [show i6.toInt.toNat = p3.toInt.toNat by omega] at this; exact this) (fun z => absurd z.1 c_172)
                refine lv_aload_n hx hb dX9_breaks_178 rfl (lv_at hl 0 rfl) ?_
                refine va_get (D := (dC, dI)) (ci := 9) (v := .int th) (C := RX9) (T := TX9) (N := 22) hx hb hts in_X9_breaks_X9 hown hK hP 0 rfl rfl 0 (by decide) (hts (.fieldLink RX9 59 "MeetingsAboveModel" "things" "I") (by decide +kernel)) (fun _ h9 => h9) rfl dX9_breaks_179 ?_
                refine lv_iload_n hx hb dX9_breaks_182 rfl (lv_at hl 3 rfl) ?_
                refine lv_iadd hx hb dX9_breaks_183 ?_
                refine lv_topi (fun y_54 ey_54 => ?_)
                have ty_54 : y_54.toInt = th.toInt + p3.toInt := by rw [ey_54]; have := fb_addI (x := th) (y := p3) (by omega) (by omega); omega
                refine lv_bipush (v := 16) hx hb dX9_breaks_184 (by decide) ?_
                refine lv_icmp_le (tgt := 192) hx hb dX9_breaks_186 (by decide) (fun c_186 => ?_) (fun c_186 => ?_)
                · have t_186 := (fa_le _ _).mp c_186
                  refine lv_aload_n hx hb dX9_breaks_192 rfl (lv_at hl 0 rfl) ?_
                  refine va_get (D := (dC, dI)) (ci := 9) (v := .int th) (C := RX9) (T := TX9) (N := 22) hx hb hts in_X9_breaks_X9 hown hK hP 0 rfl rfl 0 (by decide) (hts (.fieldLink RX9 59 "MeetingsAboveModel" "things" "I") (by decide +kernel)) (fun _ h9 => h9) rfl dX9_breaks_193 ?_
                  refine lv_istore (lv' := [(6, .int th), (0, .ref h0), (1, .int p1), (2, .int p2), (3, .int p3), (4, .int y_7), (5, .int gd)]) hx hb dX9_breaks_196 hl (by decide) rfl (fun ls hl => ?_)
                  refine lv_iconst (v := 0) hx hb dX9_breaks_198 (by decide) ?_
                  refine lv_istore (lv' := [(7, .int 0), (6, .int th), (0, .ref h0), (1, .int p1), (2, .int p2), (3, .int p3), (4, .int y_7), (5, .int gd)]) hx hb dX9_breaks_199 hl (by decide) rfl (fun ls hl => ?_)
                  refine (show ∀ (k : Nat) (i7 : Int32) (t7 : Int32) (F7 : Nat → Int32) (M7 : Nat → Int32) (D7 : Nat → Int32) (G7 : Nat → Int32) (S7 : Nat → Int32) (hn0 : 0 ≤ i7.toInt) (hn1 : i7.toInt ≤ p3.toInt) (ht7 : t7.toInt = th.toInt + i7.toInt) (hF7 : F7 = upN Fi th.toInt.toNat p2 i7.toInt.toNat) (hM7 : M7 = maN Ma th.toInt.toNat y_7 i7.toInt.toNat) (hD7 : D7 = upN Db th.toInt.toNat (Db p1.toNatClampNeg) i7.toInt.toNat) (hG7 : G7 = upN Go th.toInt.toNat (vp_nar .boolean 0) i7.toInt.toNat) (hS7 : S7 = bkN Sp (36 * p1.toInt + 3 * (p2.toInt - (Fi p1.toNatClampNeg).toInt)).toNat th.toInt.toNat ((Fi p1.toNatClampNeg).toInt + (Ma p1.toNatClampNeg).toInt - p2.toInt).toNat p3 i7.toInt.toNat) (hk_201 : (p3.toInt - i7.toInt).toNat < k) (H : Heap) (locs : List Loc) (hP : va_P (dC, dI) vwCl [(h0, .inr (9, [.int t7, .ref a1, .ref a2, .ref a3, .ref a4, .ref a5, .int ne, .int wi, .int dn, .ref a6, .ref a7, .int nn, .ref a8, .int la, .ref a9, .ref a10, .long up, .long lw, .int wh, .long pu, .long pw, .ref a11])), (a1, .inl (cI, 16, .inl F7)), (a2, .inl (cI, 16, .inl M7)), (a3, .inl (cI, 16, .inl D7)), (a4, .inl (cZ, 16, .inl G7)), (a5, .inl (cI, 576, .inl S7))] H) (hD : va_D A [(h0, .inr (9, [.int t7, .ref a1, .ref a2, .ref a3, .ref a4, .ref a5, .int ne, .int wi, .int dn, .ref a6, .ref a7, .int nn, .ref a8, .int la, .ref a9, .ref a10, .long up, .long lw, .int wh, .long pu, .long pw, .ref a11])), (a1, .inl (cI, 16, .inl F7)), (a2, .inl (cI, 16, .inl M7)), (a3, .inl (cI, 16, .inl D7)), (a4, .inl (cZ, 16, .inl G7)), (a5, .inl (cI, 576, .inl S7))]) (hS : va_S A s.heap H locs) (ls : Array Slot) (hl : lv_has ls 10 [(0, .ref h0), (1, .int p1), (2, .int p2), (3, .int p3), (4, .int y_7), (5, .int gd), (6, .int th), (7, .int i7)]), W p l e _ s m _ below meth c H locs 0 0 _ (F0 m 201 ls []) from ?_) _ 0 th Fi Ma Db Go Sp (by omega) (by omega) (by omega) (by rw [show (0 : Int32).toInt.toNat = 0 by omega]; rfl) (by rw [show (0 : Int32).toInt.toNat = 0 by omega]; rfl) (by rw [show (0 : Int32).toInt.toNat = 0 by omega]; rfl) (by rw [show (0 : Int32).toInt.toNat = 0 by omega]; rfl) (by rw [show (0 : Int32).toInt.toNat = 0 by omega]; rfl) (Nat.lt_succ_self _) H _ hP hD hS ls (lv_sub hl [2, 3, 4, 5, 6, 7, 1, 0] rfl)
                  intro k
                  induction k with
                  | zero => intro i7 t7 F7 M7 D7 G7 S7 hn0 hn1 ht7 hF7 hM7 hD7 hG7 hS7 hk_201; exact absurd hk_201 (Nat.not_lt_zero _)
                  | succ k ih_201 =>
                    intro i7 t7 F7 M7 D7 G7 S7 hn0 hn1 ht7 hF7 hM7 hD7 hG7 hS7 hk_201 H locs hP hD hS ls hl
                    refine lv_iload hx hb dX9_breaks_201 (lv_at hl 7 rfl) ?_
                    refine lv_iload_n hx hb dX9_breaks_203 rfl (lv_at hl 3 rfl) ?_
                    refine lv_icmp_ge (tgt := 311) hx hb dX9_breaks_204 (by decide) (fun c_204 => ?_) (fun c_204 => ?_)
                    · have t_204 := (fa_le _ _).mp c_204
                      have hie : i7.toInt.toNat = p3.toInt.toNat := by omega
                      refine lv_aload_n hx hb dX9_breaks_311 rfl (lv_at hl 0 rfl) ?_
                      refine va_get (D := (dC, dI)) (ci := 9) (v := .ref a4) (C := RX9) (T := TX9) (N := 22) hx hb hts in_X9_breaks_X9 hown hK hP 0 rfl rfl 4 (by decide) (hts (.fieldLink RX9 19 "MeetingsAboveModel" "isGone" "[Z") (by decide +kernel)) (fun _ h9 => h9) rfl dX9_breaks_312 ?_
                      refine lv_iload_n hx hb dX9_breaks_315 rfl (lv_at hl 1 rfl) ?_
                      refine lv_iconst (v := 1) hx hb dX9_breaks_316 (by decide) ?_
                      refine va_zast hx hb hK hP hD hS 4 1 rfl rfl (vp_in_iff.mpr ⟨by omega, by omega⟩) dX9_breaks_317 (fun H locs hP hD hS => ?_)
                      have hP : va_P (dC, dI) vwCl [(h0, .inr (9, [.int t7, .ref a1, .ref a2, .ref a3, .ref a4, .ref a5, .int ne, .int wi, .int dn, .ref a6, .ref a7, .int nn, .ref a8, .int la, .ref a9, .ref a10, .long up, .long lw, .int wh, .long pu, .long pw, .ref a11])), (a1, .inl (cI, 16, .inl F7)), (a2, .inl (cI, 16, .inl M7)), (a3, .inl (cI, 16, .inl D7)), (a4, .inl (cZ, 16, .inl (upd G7 (p1 : Int32).toNatClampNeg (vp_nar .boolean 1)))), (a5, .inl (cI, 576, .inl S7))] H := hP
                      have hD : va_D A [(h0, .inr (9, [.int t7, .ref a1, .ref a2, .ref a3, .ref a4, .ref a5, .int ne, .int wi, .int dn, .ref a6, .ref a7, .int nn, .ref a8, .int la, .ref a9, .ref a10, .long up, .long lw, .int wh, .long pu, .long pw, .ref a11])), (a1, .inl (cI, 16, .inl F7)), (a2, .inl (cI, 16, .inl M7)), (a3, .inl (cI, 16, .inl D7)), (a4, .inl (cZ, 16, .inl (upd G7 (p1 : Int32).toNatClampNeg (vp_nar .boolean 1)))), (a5, .inl (cI, 576, .inl S7))] := hD
                      refine lv_iload hx hb dX9_breaks_318 (lv_at hl 6 rfl) ?_
                      have hP9 := hP.sub (ws' := [(h0, .inr (9, [.int t7, .ref a1, .ref a2, .ref a3, .ref a4, .ref a5, .int ne, .int wi, .int dn, .ref a6, .ref a7, .int nn, .ref a8, .int la, .ref a9, .ref a10, .long up, .long lw, .int wh, .long pu, .long pw, .ref a11])), (a1, .inl (cI, 16, .inl F7)), (a2, .inl (cI, 16, .inl M7)), (a3, .inl (cI, 16, .inl D7)), (a4, .inl (cZ, 16, .inl (upd G7 (p1 : Int32).toNatClampNeg (vp_nar .boolean 1)))), (a5, .inl (cI, 576, .inl S7))]) [0, 1, 2, 3, 4, 5] rfl
                      have hD9 := hD.sub (ws' := [(h0, .inr (9, [.int t7, .ref a1, .ref a2, .ref a3, .ref a4, .ref a5, .int ne, .int wi, .int dn, .ref a6, .ref a7, .int nn, .ref a8, .int la, .ref a9, .ref a10, .long up, .long lw, .int wh, .long pu, .long pw, .ref a11])), (a1, .inl (cI, 16, .inl F7)), (a2, .inl (cI, 16, .inl M7)), (a3, .inl (cI, 16, .inl D7)), (a4, .inl (cZ, 16, .inl (upd G7 (p1 : Int32).toNatClampNeg (vp_nar .boolean 1)))), (a5, .inl (cI, 576, .inl S7))]) [0, 1, 2, 3, 4, 5] (by decide) rfl
                      have hK9 := hK.sub (tys' := [(cI, .int), (cZ, .boolean)]) [0, 1] rfl
                      refine W.widen (k := 0) (n := 0) (by omega) (by omega) ?_
                      exact W.iret (v := th) hx hb hr (fun t ht hW => ⟨⟨_, (), rfl, (Or.inr (Or.inr (Or.inr (Or.inr ⟨by omega, hGA, by omega, rfl⟩)))), t7, F7, M7, D7, (upd G7 (p1 : Int32).toNatClampNeg (vp_nar .boolean 1)), S7, by rw [ht]; exact hP9, va_K.moved hW.alike hK9, hD9, (Or.inl ⟨⟨by omega, hGA, by omega⟩, by omega, by rw [hF7, hie], by rw [hM7, hie, ey_7, ey_6, ey_4, ey_5], by rw [hD7, hie], by rw [hG7, hie], by rw [hS7, hie]⟩)⟩, hS.F ht⟩) hS.2.2 dX9_breaks_320
                    · have t_204 := mt (fa_le _ _).mpr c_204
                      refine lv_aload_n hx hb dX9_breaks_207 rfl (lv_at hl 0 rfl) ?_
                      refine lv_iload_n hx hb dX9_breaks_208 rfl (lv_at hl 2 rfl) ?_
                      refine lv_aload_n hx hb dX9_breaks_209 rfl (lv_at hl 0 rfl) ?_
                      refine va_get (D := (dC, dI)) (ci := 9) (v := .ref a3) (C := RX9) (T := TX9) (N := 22) hx hb hts in_X9_breaks_X9 hown hK hP 0 rfl rfl 3 (by decide) (hts (.fieldLink RX9 16 "MeetingsAboveModel" "doubts" "[I") (by decide +kernel)) (fun _ h9 => h9) rfl dX9_breaks_210 ?_
                      refine lv_iload_n hx hb dX9_breaks_213 rfl (lv_at hl 1 rfl) ?_
                      refine va_iald hx hb hK hP 3 0 rfl rfl (vp_in_iff.mpr ⟨by omega, by omega⟩) dX9_breaks_214 ?_
                      refine lv_topi (fun y_55 ey_55 => ?_)
                      have hDt : y_55 = Db p1.toNatClampNeg := by rw [ey_55, hD7]; exact upN_off _ _ _ _ _ (by omega)
                      have hPc := hP.sub (ws' := [(h0, .inr (9, [.int t7, .ref a1, .ref a2, .ref a3, .ref a4, .ref a5, .int ne, .int wi, .int dn, .ref a6, .ref a7, .int nn, .ref a8, .int la, .ref a9, .ref a10, .long up, .long lw, .int wh, .long pu, .long pw, .ref a11])), (a1, .inl (cI, 16, .inl F7)), (a2, .inl (cI, 16, .inl M7)), (a3, .inl (cI, 16, .inl D7)), (a4, .inl (cZ, 16, .inl G7))]) [0, 1, 2, 3, 4] rfl
                      have hKc := hK.sub (tys' := [(cI, .int), (cZ, .boolean)]) [0, 1] rfl
                      have hDc := hD.sub (ws' := [(h0, .inr (9, [.int t7, .ref a1, .ref a2, .ref a3, .ref a4, .ref a5, .int ne, .int wi, .int dn, .ref a6, .ref a7, .int nn, .ref a8, .int la, .ref a9, .ref a10, .long up, .long lw, .int wh, .long pu, .long pw, .ref a11])), (a1, .inl (cI, 16, .inl F7)), (a2, .inl (cI, 16, .inl M7)), (a3, .inl (cI, 16, .inl D7)), (a4, .inl (cZ, 16, .inl G7))]) [0, 1, 2, 3, 4] (by decide) rfl
                      have hFc := va_free (wc := [(h0, .inr (9, [.int t7, .ref a1, .ref a2, .ref a3, .ref a4, .ref a5, .int ne, .int wi, .int dn, .ref a6, .ref a7, .int nn, .ref a8, .int la, .ref a9, .ref a10, .long up, .long lw, .int wh, .long pu, .long pw, .ref a11])), (a1, .inl (cI, 16, .inl F7)), (a2, .inl (cI, 16, .inl M7)), (a3, .inl (cI, 16, .inl D7)), (a4, .inl (cZ, 16, .inl G7))]) hD hS hA [0, 1, 2, 3, 4] rfl
                      refine va_calli (va_runV (As := [.int p2, .int y_55]) (rest := []) ⟨hx, hb, hml, hown, hts⟩ (c_X9_fresh l dC dI h0 a1 a2 a3 a4 a5 a6 a7 a8 a9 a10 a11 t7 ne wi dn nn la wh up lw pu pw cI cZ F7 M7 D7 G7 p2 y_55 H.size (by first | omega | assumption) (by first | omega | assumption)) (cwV 2 hts g_X9_breaks__X9_fresh_72 rfl rfl rfl (by decide +kernel) ⟨Nat.le_of_ble_eq_true rfl, Nat.le_of_ble_eq_true rfl⟩) ⟨fun a U g mk q => by obtain ⟨q0, q1, qP, qK, qD⟩ := q; exact ⟨q0, q1, qP, va_K.moved (u := U) (U := U.calling g mk a) (Vm.Alike.refl U.vm) qK, qD⟩, va_recv hKc hPc (ci := 9) (q0 := 0) rfl rfl, fun U hU hW => ⟨rfl, by rw [hU], by rw [hU]; exact hPc, va_K.moved hW.alike hKc, hDc.weaken (fun _ _ _ _ => trivial)⟩⟩ rfl rfl hl.1 rfl (lv_room (Nat.le_of_ble_eq_true rfl)) dX9_breaks_215 ⟨Nat.le_of_ble_eq_true rfl, Nat.le_of_ble_eq_true rfl⟩) hS (fun q _ h => hFc q h) hFc (fun r_57 u_56 t H1 locs ht hvm hw_57 hB hz1 hk1 hS => ?_)
                      obtain ⟨th9_58, hP1, hK1, hD1, ht9_59⟩ := hB
                      rw [ht] at hP1
                      have hK1 := va_K.moved hvm.symm hK1
                      obtain ⟨hP, hD⟩ := va_join (wr := [(a5, .inl (cI, 576, .inl S7))]) (w1 := [(h0, .inr (9, [.int th9_58, .ref a1, .ref a2, .ref a3, .ref a4, .ref a5, .int ne, .int wi, .int dn, .ref a6, .ref a7, .int nn, .ref a8, .int la, .ref a9, .ref a10, .long up, .long lw, .int wh, .long pu, .long pw, .ref a11])), (a1, .inl (cI, 16, .inl (upd F7 (t7 : Int32).toNatClampNeg p2))), (a2, .inl (cI, 16, .inl (upd M7 (t7 : Int32).toNatClampNeg 0))), (a3, .inl (cI, 16, .inl (upd D7 (t7 : Int32).toNatClampNeg y_55))), (a4, .inl (cZ, 16, .inl (upd G7 (t7 : Int32).toNatClampNeg (vp_nar .boolean 0))))]) hP hD [0, 1, 2, 3, 4] [5] rfl rfl (by decide) (by decide) hk1 hFc hP1 hD1
                      have hK := (hK.sub (tys' := [(cI, .int), (cZ, .boolean)]) [0, 1] rfl).app hK1
                      generalize H1 = H at hP hS ⊢
                      have hP : va_P (dC, dI) vwCl [(a5, .inl (cI, 576, .inl S7)), (h0, .inr (9, [.int th9_58, .ref a1, .ref a2, .ref a3, .ref a4, .ref a5, .int ne, .int wi, .int dn, .ref a6, .ref a7, .int nn, .ref a8, .int la, .ref a9, .ref a10, .long up, .long lw, .int wh, .long pu, .long pw, .ref a11])), (a1, .inl (cI, 16, .inl (upd F7 (t7 : Int32).toNatClampNeg p2))), (a2, .inl (cI, 16, .inl (upd M7 (t7 : Int32).toNatClampNeg 0))), (a3, .inl (cI, 16, .inl (upd D7 (t7 : Int32).toNatClampNeg y_55))), (a4, .inl (cZ, 16, .inl (upd G7 (t7 : Int32).toNatClampNeg (vp_nar .boolean 0))))] H := hP
                      have hD : va_D A [(a5, .inl (cI, 576, .inl S7)), (h0, .inr (9, [.int th9_58, .ref a1, .ref a2, .ref a3, .ref a4, .ref a5, .int ne, .int wi, .int dn, .ref a6, .ref a7, .int nn, .ref a8, .int la, .ref a9, .ref a10, .long up, .long lw, .int wh, .long pu, .long pw, .ref a11])), (a1, .inl (cI, 16, .inl (upd F7 (t7 : Int32).toNatClampNeg p2))), (a2, .inl (cI, 16, .inl (upd M7 (t7 : Int32).toNatClampNeg 0))), (a3, .inl (cI, 16, .inl (upd D7 (t7 : Int32).toNatClampNeg y_55))), (a4, .inl (cZ, 16, .inl (upd G7 (t7 : Int32).toNatClampNeg (vp_nar .boolean 0))))] := hD
                      have hK : va_K (dC, dI) vwCl [(cI, .int), (cZ, .boolean), (cI, .int), (cZ, .boolean)] s := hK
                      refine W.widen (k := 0) (n := 0) (by omega) (by omega) ?_
                      try dsimp only at hw_57
                      have hw_57 := hw_57.symm
                      subst hw_57
                      refine lv_istore (lv' := [(8, .int t7), (0, .ref h0), (1, .int p1), (2, .int p2), (3, .int p3), (4, .int y_7), (5, .int gd), (6, .int th), (7, .int i7)]) hx hb dX9_breaks_218 hl (by decide) rfl (fun ls hl => ?_)
                      have hFt : upd F7 t7.toNatClampNeg p2 p1.toNatClampNeg = Fi p1.toNatClampNeg := (if_neg (by have z1 : ((t7.toNatClampNeg : Nat) : Int) = t7.toInt := tc_I (by omega); omega)).trans (by rw [hF7]; exact upN_off _ _ _ _ _ (by omega))
                      have hFi := congrArg Int32.toInt hFt
                      refine lv_iconst (v := 0) hx hb dX9_breaks_220 (by decide) ?_
                      refine lv_istore (lv' := [(9, .int 0), (8, .int t7), (0, .ref h0), (1, .int p1), (2, .int p2), (3, .int p3), (4, .int y_7), (5, .int gd), (6, .int th), (7, .int i7)]) hx hb dX9_breaks_221 hl (by decide) rfl (fun ls hl => ?_)
                      refine (show ∀ (k : Nat) (j9 : Int32) (S8 : Nat → Int32) (hj0 : 0 ≤ j9.toInt) (hj1 : j9.toInt ≤ y_7.toInt) (hS8 : S8 = bkK Sp (bkN Sp (36 * p1.toInt + 3 * (p2.toInt - (Fi p1.toNatClampNeg).toInt)).toNat th.toInt.toNat ((Fi p1.toNatClampNeg).toInt + (Ma p1.toNatClampNeg).toInt - p2.toInt).toNat p3 i7.toInt.toNat) (36 * p1.toInt + 3 * (p2.toInt - (Fi p1.toNatClampNeg).toInt)).toNat (36 * (th.toInt.toNat + i7.toInt.toNat)) (dX (nI i7.toInt.toNat) p3) (dY (nI i7.toInt.toNat)) j9.toInt.toNat) (hk_223 : (y_7.toInt - j9.toInt).toNat < k) (H : Heap) (locs : List Loc) (hP : va_P (dC, dI) vwCl [(a5, .inl (cI, 576, .inl S8)), (h0, .inr (9, [.int th9_58, .ref a1, .ref a2, .ref a3, .ref a4, .ref a5, .int ne, .int wi, .int dn, .ref a6, .ref a7, .int nn, .ref a8, .int la, .ref a9, .ref a10, .long up, .long lw, .int wh, .long pu, .long pw, .ref a11])), (a1, .inl (cI, 16, .inl (upd F7 (t7 : Int32).toNatClampNeg p2))), (a2, .inl (cI, 16, .inl (upd M7 (t7 : Int32).toNatClampNeg 0))), (a3, .inl (cI, 16, .inl (upd D7 (t7 : Int32).toNatClampNeg y_55))), (a4, .inl (cZ, 16, .inl (upd G7 (t7 : Int32).toNatClampNeg (vp_nar .boolean 0))))] H) (hD : va_D A [(a5, .inl (cI, 576, .inl S8)), (h0, .inr (9, [.int th9_58, .ref a1, .ref a2, .ref a3, .ref a4, .ref a5, .int ne, .int wi, .int dn, .ref a6, .ref a7, .int nn, .ref a8, .int la, .ref a9, .ref a10, .long up, .long lw, .int wh, .long pu, .long pw, .ref a11])), (a1, .inl (cI, 16, .inl (upd F7 (t7 : Int32).toNatClampNeg p2))), (a2, .inl (cI, 16, .inl (upd M7 (t7 : Int32).toNatClampNeg 0))), (a3, .inl (cI, 16, .inl (upd D7 (t7 : Int32).toNatClampNeg y_55))), (a4, .inl (cZ, 16, .inl (upd G7 (t7 : Int32).toNatClampNeg (vp_nar .boolean 0))))]) (hS : va_S A s.heap H locs) (ls : Array Slot) (hl : lv_has ls 10 [(0, .ref h0), (1, .int p1), (2, .int p2), (3, .int p3), (4, .int y_7), (5, .int gd), (6, .int th), (7, .int i7), (8, .int t7), (9, .int j9)]), W p l e _ s m _ below meth c H locs 0 0 _ (F0 m 223 ls []) from ?_) _ 0 S7 (by omega) (by omega) (by rw [show (0 : Int32).toInt.toNat = 0 by omega]; exact hS7) (Nat.lt_succ_self _) H _ hP hD hS ls (lv_sub hl [2, 3, 4, 5, 6, 7, 8, 9, 1, 0] rfl)
                      intro k
                      induction k with
                      | zero => intro j9 S8 hj0 hj1 hS8 hk_223; exact absurd hk_223 (Nat.not_lt_zero _)
                      | succ k ih_223 =>
                        intro j9 S8 hj0 hj1 hS8 hk_223 H locs hP hD hS ls hl
                        refine lv_iload hx hb dX9_breaks_223 (lv_at hl 9 rfl) ?_
                        refine lv_iload hx hb dX9_breaks_225 (lv_at hl 4 rfl) ?_
                        refine lv_icmp_ge (tgt := 296) hx hb dX9_breaks_227 (by decide) (fun c_227 => ?_) (fun c_227 => ?_)
                        · have t_227 := (fa_le _ _).mp c_227
                          refine lv_aload_n hx hb dX9_breaks_296 rfl (lv_at hl 0 rfl) ?_
                          refine va_get (D := (dC, dI)) (ci := 9) (v := .ref a2) (C := RX9) (T := TX9) (N := 22) hx hb hts in_X9_breaks_X9 hown hK hP 1 rfl rfl 2 (by decide) (hts (.fieldLink RX9 13 "MeetingsAboveModel" "many" "[I") (by decide +kernel)) (fun _ h9 => h9) rfl dX9_breaks_297 ?_
                          refine lv_iload hx hb dX9_breaks_300 (lv_at hl 8 rfl) ?_
                          refine lv_iload hx hb dX9_breaks_302 (lv_at hl 4 rfl) ?_
                          refine va_iast hx hb hK hP hD hS 3 0 rfl rfl (vp_in_iff.mpr ⟨by omega, by omega⟩) dX9_breaks_304 (fun H locs hP hD hS => ?_)
                          have hP : va_P (dC, dI) vwCl [(a5, .inl (cI, 576, .inl S8)), (h0, .inr (9, [.int th9_58, .ref a1, .ref a2, .ref a3, .ref a4, .ref a5, .int ne, .int wi, .int dn, .ref a6, .ref a7, .int nn, .ref a8, .int la, .ref a9, .ref a10, .long up, .long lw, .int wh, .long pu, .long pw, .ref a11])), (a1, .inl (cI, 16, .inl (upd F7 (t7 : Int32).toNatClampNeg p2))), (a2, .inl (cI, 16, .inl (upd (upd M7 (t7 : Int32).toNatClampNeg 0) (t7 : Int32).toNatClampNeg y_7))), (a3, .inl (cI, 16, .inl (upd D7 (t7 : Int32).toNatClampNeg y_55))), (a4, .inl (cZ, 16, .inl (upd G7 (t7 : Int32).toNatClampNeg (vp_nar .boolean 0))))] H := hP
                          have hD : va_D A [(a5, .inl (cI, 576, .inl S8)), (h0, .inr (9, [.int th9_58, .ref a1, .ref a2, .ref a3, .ref a4, .ref a5, .int ne, .int wi, .int dn, .ref a6, .ref a7, .int nn, .ref a8, .int la, .ref a9, .ref a10, .long up, .long lw, .int wh, .long pu, .long pw, .ref a11])), (a1, .inl (cI, 16, .inl (upd F7 (t7 : Int32).toNatClampNeg p2))), (a2, .inl (cI, 16, .inl (upd (upd M7 (t7 : Int32).toNatClampNeg 0) (t7 : Int32).toNatClampNeg y_7))), (a3, .inl (cI, 16, .inl (upd D7 (t7 : Int32).toNatClampNeg y_55))), (a4, .inl (cZ, 16, .inl (upd G7 (t7 : Int32).toNatClampNeg (vp_nar .boolean 0))))] := hD
                          obtain ⟨y_60, ey_60⟩ : ∃ y : Int32, y = i7 + 1 := ⟨_, rfl⟩
                          have ty_60 : y_60.toInt = i7.toInt + 1 := by rw [ey_60]; have := fb_addI (x := i7) (y := 1) (by omega) (by omega); omega
                          refine lv_iinc (v := y_60) (lv' := [(7, .int y_60), (0, .ref h0), (1, .int p1), (2, .int p2), (3, .int p3), (4, .int y_7), (5, .int gd), (6, .int th), (8, .int t7), (9, .int j9)]) hx hb dX9_breaks_305 hl (k := 7) rfl (by rw [ey_60]; rfl) (by decide) rfl (fun ls hl => ?_)
                          refine lv_goto (tgt := 201) hx hb dX9_breaks_308 (by decide) ?_
                          exact ih_201 y_60 th9_58 (upd F7 (t7 : Int32).toNatClampNeg p2) (upd (upd M7 (t7 : Int32).toNatClampNeg 0) (t7 : Int32).toNatClampNeg y_7) (upd D7 (t7 : Int32).toNatClampNeg y_55) (upd G7 (t7 : Int32).toNatClampNeg (vp_nar .boolean 0)) S8 (by omega) (by omega) (by omega) (by rw [show (y_60).toInt.toNat = i7.toInt.toNat + 1 by omega, cl_t (y := t7) (z := th.toInt.toNat + i7.toInt.toNat) (by omega)]; show _ = upd (upN Fi th.toInt.toNat p2 i7.toInt.toNat) _ _; rw [hF7]) (by rw [show (y_60).toInt.toNat = i7.toInt.toNat + 1 by omega, cl_t (y := t7) (z := th.toInt.toNat + i7.toInt.toNat) (by omega)]; show _ = upd (upd (maN Ma th.toInt.toNat y_7 i7.toInt.toNat) _ _) _ _; rw [hM7]) (by rw [show (y_60).toInt.toNat = i7.toInt.toNat + 1 by omega, cl_t (y := t7) (z := th.toInt.toNat + i7.toInt.toNat) (by omega)]; show _ = upd (upN Db th.toInt.toNat (Db p1.toNatClampNeg) i7.toInt.toNat) _ _; rw [hDt, hD7]) (by rw [show (y_60).toInt.toNat = i7.toInt.toNat + 1 by omega, cl_t (y := t7) (z := th.toInt.toNat + i7.toInt.toNat) (by omega)]; show _ = upd (upN Go th.toInt.toNat (vp_nar .boolean 0) i7.toInt.toNat) _ _; rw [hG7]) (by rw [show (y_60).toInt.toNat = i7.toInt.toNat + 1 by omega]; rw [show j9.toInt.toNat = ((Fi p1.toNatClampNeg).toInt + (Ma p1.toNatClampNeg).toInt - p2.toInt).toNat by omega] at hS8; exact hS8) (by omega) H _ (hP.sub [1, 2, 3, 4, 5, 0] rfl) (hD.sub [1, 2, 3, 4, 5, 0] (by decide) rfl) hS ls (lv_sub hl [1, 2, 3, 4, 5, 6, 7, 0] rfl)
                        · have t_227 := mt (fa_le _ _).mpr c_227
                          refine lv_aload_n hx hb dX9_breaks_230 rfl (lv_at hl 0 rfl) ?_
                          refine lv_iload hx hb dX9_breaks_231 (lv_at hl 8 rfl) ?_
                          refine lv_iload hx hb dX9_breaks_233 (lv_at hl 9 rfl) ?_
                          refine lv_aload_n hx hb dX9_breaks_235 rfl (lv_at hl 0 rfl) ?_
                          refine lv_iload_n hx hb dX9_breaks_236 rfl (lv_at hl 1 rfl) ?_
                          refine lv_iload_n hx hb dX9_breaks_237 rfl (lv_at hl 2 rfl) ?_
                          refine lv_iload hx hb dX9_breaks_238 (lv_at hl 9 rfl) ?_
                          refine lv_iadd hx hb dX9_breaks_240 ?_
                          refine lv_topi (fun y_61 ey_61 => ?_)
                          have ty_61 : y_61.toInt = p2.toInt + j9.toInt := by rw [ey_61]; have := fb_addI (x := p2) (y := j9) (by omega) (by omega); omega
                          refine lv_iconst (v := 0) hx hb dX9_breaks_241 (by decide) ?_
                          have hPc := hP.sub (ws' := [(h0, .inr (9, [.int th9_58, .ref a1, .ref a2, .ref a3, .ref a4, .ref a5, .int ne, .int wi, .int dn, .ref a6, .ref a7, .int nn, .ref a8, .int la, .ref a9, .ref a10, .long up, .long lw, .int wh, .long pu, .long pw, .ref a11])), (a1, .inl (cI, 16, .inl (upd F7 (t7 : Int32).toNatClampNeg p2))), (a5, .inl (cI, 576, .inl S8))]) [1, 2, 0] rfl
                          have hKc := hK.sub (tys' := [(cI, .int)]) [0] rfl
                          refine vp_callSi (W.runV (As := [.int p1, .int y_61, .int 0]) (rest := [.int j9, .int t7, .ref h0]) ⟨hx, hb, hml, hown, hts⟩ (c_X9_spotW l dC dI h0 a1 a2 a3 a4 a5 a6 a7 a8 a9 a10 a11 th9_58 ne wi dn nn la wh up lw pu pw cI (upd F7 (t7 : Int32).toNatClampNeg p2) S8 p1 y_61 0 (by first | omega | assumption) (by first | omega | assumption) (by first | omega | assumption) (by first | omega | assumption) (by first | omega | assumption) (by first | omega | assumption) (by first | omega | assumption) (by first | omega | assumption)) (cwV 3 hts g_X9_breaks__X9_spotW_94 rfl rfl rfl (by decide +kernel) ⟨Nat.le_of_ble_eq_true rfl, Nat.le_of_ble_eq_true rfl⟩) ⟨fun a U g mk q => by obtain ⟨q0, qP, qK⟩ := q; exact ⟨q0, qP, va_K.moved (u := U) (U := U.calling g mk a) (Vm.Alike.refl U.vm) qK⟩, va_recv hKc hPc (ci := 9) (q0 := 0) rfl rfl, fun U hU hW => ⟨rfl, by rw [hU]; exact hPc, va_K.moved hW.alike hKc⟩⟩ rfl rfl hl.1 rfl (lv_room (Nat.le_of_ble_eq_true rfl)) dX9_breaks_242 ⟨Nat.le_of_ble_eq_true rfl, Nat.le_of_ble_eq_true rfl⟩) (fun r_62 hr_62 => ?_)
                          try dsimp only at hr_62
                          refine lv_iload hx hb dX9_breaks_245 (lv_at hl 9 rfl) ?_
                          refine lv_iload hx hb dX9_breaks_247 (lv_at hl 7 rfl) ?_
                          refine lv_iload_n hx hb dX9_breaks_249 rfl (lv_at hl 3 rfl) ?_
                          refine lv_iconst (v := 2) hx hb dX9_breaks_250 (by decide) ?_
                          refine lv_idiv hx hb dX9_breaks_251 (by decide) ?_
                          refine lv_topi (fun y_63 ey_63 => ?_)
                          refine lv_isub hx hb dX9_breaks_252 ?_
                          refine lv_topi (fun y_64 ey_64 => ?_)
                          refine lv_imul hx hb dX9_breaks_253 ?_
                          refine lv_topi (fun y_65 ey_65 => ?_)
                          refine lv_iadd hx hb dX9_breaks_254 ?_
                          refine lv_topi (fun y_66 ey_66 => ?_)
                          refine lv_aload_n hx hb dX9_breaks_255 rfl (lv_at hl 0 rfl) ?_
                          refine lv_iload_n hx hb dX9_breaks_256 rfl (lv_at hl 1 rfl) ?_
                          refine lv_iload_n hx hb dX9_breaks_257 rfl (lv_at hl 2 rfl) ?_
                          refine lv_iload hx hb dX9_breaks_258 (lv_at hl 9 rfl) ?_
                          refine lv_iadd hx hb dX9_breaks_260 ?_
                          refine lv_topi (fun y_67 ey_67 => ?_)
                          have ty_67 : y_67.toInt = p2.toInt + j9.toInt := by rw [ey_67]; have := fb_addI (x := p2) (y := j9) (by omega) (by omega); omega
                          refine lv_iconst (v := 1) hx hb dX9_breaks_261 (by decide) ?_
                          have hPc := hP.sub (ws' := [(h0, .inr (9, [.int th9_58, .ref a1, .ref a2, .ref a3, .ref a4, .ref a5, .int ne, .int wi, .int dn, .ref a6, .ref a7, .int nn, .ref a8, .int la, .ref a9, .ref a10, .long up, .long lw, .int wh, .long pu, .long pw, .ref a11])), (a1, .inl (cI, 16, .inl (upd F7 (t7 : Int32).toNatClampNeg p2))), (a5, .inl (cI, 576, .inl S8))]) [1, 2, 0] rfl
                          have hKc := hK.sub (tys' := [(cI, .int)]) [0] rfl
                          refine vp_callSi (W.runV (As := [.int p1, .int y_67, .int 1]) (rest := [.int y_66, .int j9, .int t7, .ref h0]) ⟨hx, hb, hml, hown, hts⟩ (c_X9_spotW l dC dI h0 a1 a2 a3 a4 a5 a6 a7 a8 a9 a10 a11 th9_58 ne wi dn nn la wh up lw pu pw cI (upd F7 (t7 : Int32).toNatClampNeg p2) S8 p1 y_67 1 (by first | omega | assumption) (by first | omega | assumption) (by first | omega | assumption) (by first | omega | assumption) (by first | omega | assumption) (by first | omega | assumption) (by first | omega | assumption) (by first | omega | assumption)) (cwV 3 hts g_X9_breaks__X9_spotW_94 rfl rfl rfl (by decide +kernel) ⟨Nat.le_of_ble_eq_true rfl, Nat.le_of_ble_eq_true rfl⟩) ⟨fun a U g mk q => by obtain ⟨q0, qP, qK⟩ := q; exact ⟨q0, qP, va_K.moved (u := U) (U := U.calling g mk a) (Vm.Alike.refl U.vm) qK⟩, va_recv hKc hPc (ci := 9) (q0 := 0) rfl rfl, fun U hU hW => ⟨rfl, by rw [hU]; exact hPc, va_K.moved hW.alike hKc⟩⟩ rfl rfl hl.1 rfl (lv_room (Nat.le_of_ble_eq_true rfl)) dX9_breaks_262 ⟨Nat.le_of_ble_eq_true rfl, Nat.le_of_ble_eq_true rfl⟩) (fun r_68 hr_68 => ?_)
                          try dsimp only at hr_68
                          refine lv_iload hx hb dX9_breaks_265 (lv_at hl 9 rfl) ?_
                          refine lv_iload hx hb dX9_breaks_267 (lv_at hl 7 rfl) ?_
                          refine lv_iconst (v := 2) hx hb dX9_breaks_269 (by decide) ?_
                          refine lv_irem hx hb dX9_breaks_270 (by decide) ?_
                          refine lv_topi (fun y_69 ey_69 => ?_)
                          refine lv_iconst (v := 2) hx hb dX9_breaks_271 (by decide) ?_
                          refine lv_imul hx hb dX9_breaks_272 ?_
                          refine lv_topi (fun y_70 ey_70 => ?_)
                          refine lv_iconst (v := 1) hx hb dX9_breaks_273 (by decide) ?_
                          refine lv_isub hx hb dX9_breaks_274 ?_
                          refine lv_topi (fun y_71 ey_71 => ?_)
                          refine lv_imul hx hb dX9_breaks_275 ?_
                          refine lv_topi (fun y_72 ey_72 => ?_)
                          refine lv_iadd hx hb dX9_breaks_276 ?_
                          refine lv_topi (fun y_73 ey_73 => ?_)
                          refine lv_aload_n hx hb dX9_breaks_277 rfl (lv_at hl 0 rfl) ?_
                          refine lv_iload_n hx hb dX9_breaks_278 rfl (lv_at hl 1 rfl) ?_
                          refine lv_iload_n hx hb dX9_breaks_279 rfl (lv_at hl 2 rfl) ?_
                          refine lv_iload hx hb dX9_breaks_280 (lv_at hl 9 rfl) ?_
                          refine lv_iadd hx hb dX9_breaks_282 ?_
                          refine lv_topi (fun y_74 ey_74 => ?_)
                          have ty_74 : y_74.toInt = p2.toInt + j9.toInt := by rw [ey_74]; have := fb_addI (x := p2) (y := j9) (by omega) (by omega); omega
                          refine lv_iconst (v := 2) hx hb dX9_breaks_283 (by decide) ?_
                          have hPc := hP.sub (ws' := [(h0, .inr (9, [.int th9_58, .ref a1, .ref a2, .ref a3, .ref a4, .ref a5, .int ne, .int wi, .int dn, .ref a6, .ref a7, .int nn, .ref a8, .int la, .ref a9, .ref a10, .long up, .long lw, .int wh, .long pu, .long pw, .ref a11])), (a1, .inl (cI, 16, .inl (upd F7 (t7 : Int32).toNatClampNeg p2))), (a5, .inl (cI, 576, .inl S8))]) [1, 2, 0] rfl
                          have hKc := hK.sub (tys' := [(cI, .int)]) [0] rfl
                          refine vp_callSi (W.runV (As := [.int p1, .int y_74, .int 2]) (rest := [.int y_73, .int y_66, .int j9, .int t7, .ref h0]) ⟨hx, hb, hml, hown, hts⟩ (c_X9_spotW l dC dI h0 a1 a2 a3 a4 a5 a6 a7 a8 a9 a10 a11 th9_58 ne wi dn nn la wh up lw pu pw cI (upd F7 (t7 : Int32).toNatClampNeg p2) S8 p1 y_74 2 (by first | omega | assumption) (by first | omega | assumption) (by first | omega | assumption) (by first | omega | assumption) (by first | omega | assumption) (by first | omega | assumption) (by first | omega | assumption) (by first | omega | assumption)) (cwV 3 hts g_X9_breaks__X9_spotW_94 rfl rfl rfl (by decide +kernel) ⟨Nat.le_of_ble_eq_true rfl, Nat.le_of_ble_eq_true rfl⟩) ⟨fun a U g mk q => by obtain ⟨q0, qP, qK⟩ := q; exact ⟨q0, qP, va_K.moved (u := U) (U := U.calling g mk a) (Vm.Alike.refl U.vm) qK⟩, va_recv hKc hPc (ci := 9) (q0 := 0) rfl rfl, fun U hU hW => ⟨rfl, by rw [hU]; exact hPc, va_K.moved hW.alike hKc⟩⟩ rfl rfl hl.1 rfl (lv_room (Nat.le_of_ble_eq_true rfl)) dX9_breaks_284 ⟨Nat.le_of_ble_eq_true rfl, Nat.le_of_ble_eq_true rfl⟩) (fun r_75 hr_75 => ?_)
                          try dsimp only at hr_75
                          obtain ⟨q, hq⟩ : ∃ q : Nat, (36 * p1.toInt + 3 * (p2.toInt - (Fi p1.toNatClampNeg).toInt)).toNat = q := ⟨_, rfl⟩
                          obtain ⟨jn, hjn⟩ : ∃ n : Nat, j9.toInt.toNat = n := ⟨_, rfl⟩
                          have hj9 := nI_of_toInt (x := j9) (n := jn) (by omega)
                          have hi9 := nI_of_toInt (x := i7) (n := i7.toInt.toNat) (by omega)
                          rw [hjn, hq] at hS8
                          have hoff : ∀ k : Nat, k < 36 * th.toInt.toNat → S8 k = Sp k := fun k hk => by rw [hS8, bkK_off _ _ _ _ _ _ _ _ (Or.inl (by omega)), bkN_off _ _ _ _ _ _ _ hk]
                          have w8 := bk_x (q := q) (j := jn) (i := i7.toInt.toNat) ((hr_62.trans (congrArg S8 (show _ = q + 3 * jn by unfold ixm; omega))).trans (hoff _ (by omega))) ey_63 ey_64 ey_65 ey_66 hj9 hi9
                          have w9 := bk_y (q := q) (j := jn) (i := i7.toInt.toNat) ((hr_68.trans (congrArg S8 (show _ = q + 3 * jn + 1 by unfold ixm; omega))).trans (hoff _ (by omega))) ey_69 ey_70 ey_71 ey_72 ey_73 hj9 hi9
                          have w10 := (hr_75.trans (congrArg S8 (show _ = q + 3 * jn + 2 by unfold ixm; omega))).trans (hoff _ (by omega))
                          have hPc := hP.sub (ws' := [(h0, .inr (9, [.int th9_58, .ref a1, .ref a2, .ref a3, .ref a4, .ref a5, .int ne, .int wi, .int dn, .ref a6, .ref a7, .int nn, .ref a8, .int la, .ref a9, .ref a10, .long up, .long lw, .int wh, .long pu, .long pw, .ref a11])), (a5, .inl (cI, 576, .inl S8))]) [1, 0] rfl
                          have hKc := hK.sub (tys' := [(cI, .int)]) [0] rfl
                          have hDc := hD.sub (ws' := [(h0, .inr (9, [.int th9_58, .ref a1, .ref a2, .ref a3, .ref a4, .ref a5, .int ne, .int wi, .int dn, .ref a6, .ref a7, .int nn, .ref a8, .int la, .ref a9, .ref a10, .long up, .long lw, .int wh, .long pu, .long pw, .ref a11])), (a5, .inl (cI, 576, .inl S8))]) [1, 0] (by decide) rfl
                          have hFc := va_free (wc := [(h0, .inr (9, [.int th9_58, .ref a1, .ref a2, .ref a3, .ref a4, .ref a5, .int ne, .int wi, .int dn, .ref a6, .ref a7, .int nn, .ref a8, .int la, .ref a9, .ref a10, .long up, .long lw, .int wh, .long pu, .long pw, .ref a11])), (a5, .inl (cI, 576, .inl S8))]) hD hS hA [1, 0] rfl
                          refine va_callv (va_runV (As := [.int t7, .int j9, .int y_66, .int y_73, .int r_75]) (rest := []) ⟨hx, hb, hml, hown, hts⟩ (c_X9_setSpot l dC dI h0 a1 a2 a3 a4 a5 a6 a7 a8 a9 a10 a11 th9_58 ne wi dn nn la wh up lw pu pw cI S8 t7 j9 y_66 y_73 r_75 H.size (by first | omega | assumption) (by first | omega | assumption) (by first | omega | assumption) (by first | omega | assumption)) (cwV 5 hts g_X9_breaks__X9_setSpot_76 rfl rfl rfl (by decide +kernel) ⟨Nat.le_of_ble_eq_true rfl, Nat.le_of_ble_eq_true rfl⟩) ⟨fun a U g mk q => by obtain ⟨q0, q1, qP, qK, qD⟩ := q; exact ⟨q0, q1, qP, va_K.moved (u := U) (U := U.calling g mk a) (Vm.Alike.refl U.vm) qK, qD⟩, va_recv hKc hPc (ci := 9) (q0 := 0) rfl rfl, fun U hU hW => ⟨rfl, by rw [hU], by rw [hU]; exact hPc, va_K.moved hW.alike hKc, hDc.weaken (fun _ _ _ _ => trivial)⟩⟩ rfl rfl hl.1 rfl (lv_room (Nat.le_of_ble_eq_true rfl)) dX9_breaks_287 ⟨Nat.le_of_ble_eq_true rfl, Nat.le_of_ble_eq_true rfl⟩) hS (fun q _ h => hFc q h) hFc (fun u_76 t H1 locs ht hvm hw_77 hB hz1 hk1 hS => ?_)
                          obtain ⟨Sp9_78, hP1, hK1, hD1, hS9_79⟩ := hB
                          rw [ht] at hP1
                          have hK1 := va_K.moved hvm.symm hK1
                          obtain ⟨hP, hD⟩ := va_join (wr := [(a1, .inl (cI, 16, .inl (upd F7 (t7 : Int32).toNatClampNeg p2))), (a2, .inl (cI, 16, .inl (upd M7 (t7 : Int32).toNatClampNeg 0))), (a3, .inl (cI, 16, .inl (upd D7 (t7 : Int32).toNatClampNeg y_55))), (a4, .inl (cZ, 16, .inl (upd G7 (t7 : Int32).toNatClampNeg (vp_nar .boolean 0))))]) (w1 := [(h0, .inr (9, [.int th9_58, .ref a1, .ref a2, .ref a3, .ref a4, .ref a5, .int ne, .int wi, .int dn, .ref a6, .ref a7, .int nn, .ref a8, .int la, .ref a9, .ref a10, .long up, .long lw, .int wh, .long pu, .long pw, .ref a11])), (a5, .inl (cI, 576, .inl Sp9_78))]) hP hD [1, 0] [2, 3, 4, 5] rfl rfl (by decide) (by decide) hk1 hFc hP1 hD1
                          have hK := (hK.sub (tys' := [(cI, .int), (cZ, .boolean), (cI, .int), (cZ, .boolean)]) [0, 1, 2, 3] rfl).app hK1
                          generalize H1 = H at hP hS ⊢
                          have hP : va_P (dC, dI) vwCl [(a1, .inl (cI, 16, .inl (upd F7 (t7 : Int32).toNatClampNeg p2))), (a2, .inl (cI, 16, .inl (upd M7 (t7 : Int32).toNatClampNeg 0))), (a3, .inl (cI, 16, .inl (upd D7 (t7 : Int32).toNatClampNeg y_55))), (a4, .inl (cZ, 16, .inl (upd G7 (t7 : Int32).toNatClampNeg (vp_nar .boolean 0)))), (h0, .inr (9, [.int th9_58, .ref a1, .ref a2, .ref a3, .ref a4, .ref a5, .int ne, .int wi, .int dn, .ref a6, .ref a7, .int nn, .ref a8, .int la, .ref a9, .ref a10, .long up, .long lw, .int wh, .long pu, .long pw, .ref a11])), (a5, .inl (cI, 576, .inl Sp9_78))] H := hP
                          have hD : va_D A [(a1, .inl (cI, 16, .inl (upd F7 (t7 : Int32).toNatClampNeg p2))), (a2, .inl (cI, 16, .inl (upd M7 (t7 : Int32).toNatClampNeg 0))), (a3, .inl (cI, 16, .inl (upd D7 (t7 : Int32).toNatClampNeg y_55))), (a4, .inl (cZ, 16, .inl (upd G7 (t7 : Int32).toNatClampNeg (vp_nar .boolean 0)))), (h0, .inr (9, [.int th9_58, .ref a1, .ref a2, .ref a3, .ref a4, .ref a5, .int ne, .int wi, .int dn, .ref a6, .ref a7, .int nn, .ref a8, .int la, .ref a9, .ref a10, .long up, .long lw, .int wh, .long pu, .long pw, .ref a11])), (a5, .inl (cI, 576, .inl Sp9_78))] := hD
                          have hK : va_K (dC, dI) vwCl [(cI, .int), (cZ, .boolean), (cI, .int), (cZ, .boolean), (cI, .int)] s := hK
                          refine W.widen (k := 0) (n := 0) (by omega) (by omega) ?_
                          have hS9 := bkK_step hS8 hS9_79 (by omega) w8 w9 w10
                          obtain ⟨y_80, ey_80⟩ : ∃ y : Int32, y = j9 + 1 := ⟨_, rfl⟩
                          have ty_80 : y_80.toInt = j9.toInt + 1 := by rw [ey_80]; have := fb_addI (x := j9) (y := 1) (by omega) (by omega); omega
                          refine lv_iinc (v := y_80) (lv' := [(9, .int y_80), (0, .ref h0), (1, .int p1), (2, .int p2), (3, .int p3), (4, .int y_7), (5, .int gd), (6, .int th), (7, .int i7), (8, .int t7)]) hx hb dX9_breaks_290 hl (k := 9) rfl (by rw [ey_80]; rfl) (by decide) rfl (fun ls hl => ?_)
                          refine lv_goto (tgt := 223) hx hb dX9_breaks_293 (by decide) ?_
                          exact ih_223 y_80 Sp9_78 (by omega) (by omega) (by rw [show (y_80).toInt.toNat = jn + 1 by omega, hq]; exact hS9) (by omega) H _ (hP.sub [5, 4, 0, 1, 2, 3] rfl) (hD.sub [5, 4, 0, 1, 2, 3] (by decide) rfl) hS ls (lv_sub hl [1, 2, 3, 4, 5, 6, 7, 8, 9, 0] rfl)
                · have t_186 := mt (fa_le _ _).mpr c_186
                  refine lv_ldc hx hb hown (hts (.constant RX9 71 (-100004)) (by decide +kernel)) dX9_breaks_189 ?_
                  have hP9 := hP.sub (ws' := [(h0, .inr (9, [.int th, .ref a1, .ref a2, .ref a3, .ref a4, .ref a5, .int ne, .int wi, .int dn, .ref a6, .ref a7, .int nn, .ref a8, .int la, .ref a9, .ref a10, .long up, .long lw, .int wh, .long pu, .long pw, .ref a11])), (a1, .inl (cI, 16, .inl Fi)), (a2, .inl (cI, 16, .inl Ma)), (a3, .inl (cI, 16, .inl Db)), (a4, .inl (cZ, 16, .inl Go)), (a5, .inl (cI, 576, .inl Sp))]) [0, 1, 2, 3, 4, 5] rfl
                  have hD9 := hD.sub (ws' := [(h0, .inr (9, [.int th, .ref a1, .ref a2, .ref a3, .ref a4, .ref a5, .int ne, .int wi, .int dn, .ref a6, .ref a7, .int nn, .ref a8, .int la, .ref a9, .ref a10, .long up, .long lw, .int wh, .long pu, .long pw, .ref a11])), (a1, .inl (cI, 16, .inl Fi)), (a2, .inl (cI, 16, .inl Ma)), (a3, .inl (cI, 16, .inl Db)), (a4, .inl (cZ, 16, .inl Go)), (a5, .inl (cI, 576, .inl Sp))]) [0, 1, 2, 3, 4, 5] (by decide) rfl
                  have hK9 := hK.sub (tys' := [(cI, .int), (cZ, .boolean)]) [0, 1] rfl
                  refine W.widen (k := 0) (n := 0) (by omega) (by omega) ?_
                  exact W.iret (v := (-100004)) hx hb hr (fun t ht hW => ⟨⟨_, (), rfl, (Or.inr (Or.inr (Or.inr (Or.inl ⟨by omega, hGA, by omega, rfl⟩)))), th, Fi, Ma, Db, Go, Sp, by rw [ht]; exact hP9, va_K.moved hW.alike hK9, hD9, (Or.inr ⟨fun h => by have := h.2.2; omega, rfl, rfl, rfl, rfl, rfl, rfl⟩)⟩, hS.F ht⟩) hS.2.2 dX9_breaks_191
              · have t_172 := (fa_eq _ _).mp c_172
                refine lv_ldc hx hb hown (hts (.constant RX9 85 (-100003)) (by decide +kernel)) dX9_breaks_175 ?_
                have hP9 := hP.sub (ws' := [(h0, .inr (9, [.int th, .ref a1, .ref a2, .ref a3, .ref a4, .ref a5, .int ne, .int wi, .int dn, .ref a6, .ref a7, .int nn, .ref a8, .int la, .ref a9, .ref a10, .long up, .long lw, .int wh, .long pu, .long pw, .ref a11])), (a1, .inl (cI, 16, .inl Fi)), (a2, .inl (cI, 16, .inl Ma)), (a3, .inl (cI, 16, .inl Db)), (a4, .inl (cZ, 16, .inl Go)), (a5, .inl (cI, 576, .inl Sp))]) [0, 1, 2, 3, 4, 5] rfl
                have hD9 := hD.sub (ws' := [(h0, .inr (9, [.int th, .ref a1, .ref a2, .ref a3, .ref a4, .ref a5, .int ne, .int wi, .int dn, .ref a6, .ref a7, .int nn, .ref a8, .int la, .ref a9, .ref a10, .long up, .long lw, .int wh, .long pu, .long pw, .ref a11])), (a1, .inl (cI, 16, .inl Fi)), (a2, .inl (cI, 16, .inl Ma)), (a3, .inl (cI, 16, .inl Db)), (a4, .inl (cZ, 16, .inl Go)), (a5, .inl (cI, 576, .inl Sp))]) [0, 1, 2, 3, 4, 5] (by decide) rfl
                have hK9 := hK.sub (tys' := [(cI, .int), (cZ, .boolean)]) [0, 1] rfl
                refine W.widen (k := 0) (n := 0) (by omega) (by omega) ?_
                exact W.iret (v := (-100003)) hx hb hr (fun t ht hW => ⟨⟨_, (), rfl, (Or.inr (Or.inr (Or.inl ⟨by omega, fun h => (hG.elim (fun z => absurd z.1 (by rw [c_172]; decide)) (fun z => z.2 (by rw [show i6.toInt.toNat = p3.toInt.toNat by omega]; exact h))), rfl⟩))), th, Fi, Ma, Db, Go, Sp, by rw [ht]; exact hP9, va_K.moved hW.alike hK9, hD9, (Or.inr ⟨fun h => (hG.elim (fun z => absurd z.1 (by rw [c_172]; decide)) (fun z => z.2 (by rw [show i6.toInt.toNat = p3.toInt.toNat by omega]; exact h.2.1))), rfl, rfl, rfl, rfl, rfl, rfl⟩)⟩, hS.F ht⟩) hS.2.2 dX9_breaks_177
            · have t_76 := mt (fa_le _ _).mpr c_76
              refine lv_iconst (v := 0) hx hb dX9_breaks_79 (by decide) ?_
              refine lv_istore (lv' := [(7, .int 0), (0, .ref h0), (1, .int p1), (2, .int p2), (3, .int p3), (4, .int y_7), (5, .int gd), (6, .int i6)]) hx hb dX9_breaks_80 hl (by decide) rfl (fun ls hl => ?_)
              refine (show ∀ (k : Nat) (gd2 : Int32) (j7 : Int32) (hj0 : 0 ≤ j7.toInt) (hj1 : j7.toInt ≤ y_7.toInt) (hH : (gd2 = 1 ∧ ((Go p1.toNatClampNeg).toInt = 0 ∧ gdN Sp (36 * p1.toInt + 3 * (p2.toInt - (Fi p1.toNatClampNeg).toInt)).toNat ((Fi p1.toNatClampNeg).toInt + (Ma p1.toNatClampNeg).toInt - p2.toInt).toNat p3 i6.toInt.toNat) ∧ gdI Sp (36 * p1.toInt + 3 * (p2.toInt - (Fi p1.toNatClampNeg).toInt)).toNat (dX (nI i6.toInt.toNat) p3) (dY (nI i6.toInt.toNat)) j7.toInt.toNat) ∨ (gd2 = 0 ∧ ¬ (((Go p1.toNatClampNeg).toInt = 0 ∧ gdN Sp (36 * p1.toInt + 3 * (p2.toInt - (Fi p1.toNatClampNeg).toInt)).toNat ((Fi p1.toNatClampNeg).toInt + (Ma p1.toNatClampNeg).toInt - p2.toInt).toNat p3 i6.toInt.toNat) ∧ gdI Sp (36 * p1.toInt + 3 * (p2.toInt - (Fi p1.toNatClampNeg).toInt)).toNat (dX (nI i6.toInt.toNat) p3) (dY (nI i6.toInt.toNat)) j7.toInt.toNat))) (hk_82 : (y_7.toInt - j7.toInt).toNat < k) (H : Heap) (locs : List Loc) (hP : va_P (dC, dI) vwCl [(h0, .inr (9, [.int th, .ref a1, .ref a2, .ref a3, .ref a4, .ref a5, .int ne, .int wi, .int dn, .ref a6, .ref a7, .int nn, .ref a8, .int la, .ref a9, .ref a10, .long up, .long lw, .int wh, .long pu, .long pw, .ref a11])), (a1, .inl (cI, 16, .inl Fi)), (a2, .inl (cI, 16, .inl Ma)), (a3, .inl (cI, 16, .inl Db)), (a4, .inl (cZ, 16, .inl Go)), (a5, .inl (cI, 576, .inl Sp))] H) (hD : va_D A [(h0, .inr (9, [.int th, .ref a1, .ref a2, .ref a3, .ref a4, .ref a5, .int ne, .int wi, .int dn, .ref a6, .ref a7, .int nn, .ref a8, .int la, .ref a9, .ref a10, .long up, .long lw, .int wh, .long pu, .long pw, .ref a11])), (a1, .inl (cI, 16, .inl Fi)), (a2, .inl (cI, 16, .inl Ma)), (a3, .inl (cI, 16, .inl Db)), (a4, .inl (cZ, 16, .inl Go)), (a5, .inl (cI, 576, .inl Sp))]) (hS : va_S A s.heap H locs) (ls : Array Slot) (hl : lv_has ls 10 [(0, .ref h0), (1, .int p1), (2, .int p2), (3, .int p3), (4, .int y_7), (5, .int gd2), (6, .int i6), (7, .int j7)]), W p l e _ s m _ below meth c H locs 0 0 _ (F0 m 82 ls []) from ?_) _ gd 0 (by omega) (by omega) (by exact hG.imp (fun h => ⟨h.1, h.2, fun j hj => absurd hj (by omega)⟩) (fun h => ⟨h.1, fun z => h.2 z.1⟩)) (Nat.lt_succ_self _) H _ hP hD hS ls (lv_sub hl [1, 2, 3, 4, 5, 6, 7, 0] rfl)
              intro k
              induction k with
              | zero => intro gd2 j7 hj0 hj1 hH hk_82; exact absurd hk_82 (Nat.not_lt_zero _)
              | succ k ih_82 =>
                intro gd2 j7 hj0 hj1 hH hk_82 H locs hP hD hS ls hl
                refine lv_iload hx hb dX9_breaks_82 (lv_at hl 7 rfl) ?_
                refine lv_iload hx hb dX9_breaks_84 (lv_at hl 4 rfl) ?_
                refine lv_icmp_ge (tgt := 164) hx hb dX9_breaks_86 (by decide) (fun c_86 => ?_) (fun c_86 => ?_)
                · have t_86 := (fa_le _ _).mp c_86
                  obtain ⟨y_81, ey_81⟩ : ∃ y : Int32, y = i6 + 1 := ⟨_, rfl⟩
                  have ty_81 : y_81.toInt = i6.toInt + 1 := by rw [ey_81]; have := fb_addI (x := i6) (y := 1) (by omega) (by omega); omega
                  refine lv_iinc (v := y_81) (lv' := [(6, .int y_81), (0, .ref h0), (1, .int p1), (2, .int p2), (3, .int p3), (4, .int y_7), (5, .int gd2), (7, .int j7)]) hx hb dX9_breaks_164 hl (k := 6) rfl (by rw [ey_81]; rfl) (by decide) rfl (fun ls hl => ?_)
                  refine lv_goto (tgt := 73) hx hb dX9_breaks_167 (by decide) ?_
                  exact ih_73 gd2 y_81 (by omega) (by omega) (by rw [show (y_81).toInt.toNat = i6.toInt.toNat + 1 by omega]; rw [show j7.toInt.toNat = ((Fi p1.toNatClampNeg).toInt + (Ma p1.toNatClampNeg).toInt - p2.toInt).toNat by omega] at hH; exact bk_up hH) (by omega) H _ (hP.sub [0, 1, 2, 3, 4, 5] rfl) (hD.sub [0, 1, 2, 3, 4, 5] (by decide) rfl) hS ls (lv_sub hl [1, 2, 3, 4, 5, 6, 0] rfl)
                · have t_86 := mt (fa_le _ _).mpr c_86
                  refine lv_aload_n hx hb dX9_breaks_89 rfl (lv_at hl 0 rfl) ?_
                  refine lv_iload_n hx hb dX9_breaks_90 rfl (lv_at hl 1 rfl) ?_
                  refine lv_iload_n hx hb dX9_breaks_91 rfl (lv_at hl 2 rfl) ?_
                  refine lv_iload hx hb dX9_breaks_92 (lv_at hl 7 rfl) ?_
                  refine lv_iadd hx hb dX9_breaks_94 ?_
                  refine lv_topi (fun y_82 ey_82 => ?_)
                  have ty_82 : y_82.toInt = p2.toInt + j7.toInt := by rw [ey_82]; have := fb_addI (x := p2) (y := j7) (by omega) (by omega); omega
                  refine lv_iconst (v := 0) hx hb dX9_breaks_95 (by decide) ?_
                  have hPc := hP.sub (ws' := [(h0, .inr (9, [.int th, .ref a1, .ref a2, .ref a3, .ref a4, .ref a5, .int ne, .int wi, .int dn, .ref a6, .ref a7, .int nn, .ref a8, .int la, .ref a9, .ref a10, .long up, .long lw, .int wh, .long pu, .long pw, .ref a11])), (a1, .inl (cI, 16, .inl Fi)), (a5, .inl (cI, 576, .inl Sp))]) [0, 1, 5] rfl
                  have hKc := hK.sub (tys' := [(cI, .int)]) [0] rfl
                  refine vp_callSi (W.runV (As := [.int p1, .int y_82, .int 0]) (rest := []) ⟨hx, hb, hml, hown, hts⟩ (c_X9_spot l dC dI Ma h0 a1 a2 a3 a4 a5 a6 a7 a8 a9 a10 a11 th ne wi dn nn la wh up lw pu pw cI Fi Sp p1 y_82 0 (by first | assumption | omega) (by first | omega | assumption) (by first | omega | assumption) (by first | omega | assumption) (by first | omega | assumption) (by first | omega | assumption) (by first | omega | assumption)) (cwV 3 hts g_X9_breaks__X9_spot_94 rfl rfl rfl (by decide +kernel) ⟨Nat.le_of_ble_eq_true rfl, Nat.le_of_ble_eq_true rfl⟩) ⟨fun a U g mk q => by obtain ⟨q0, qP, qK⟩ := q; exact ⟨q0, qP, va_K.moved (u := U) (U := U.calling g mk a) (Vm.Alike.refl U.vm) qK⟩, va_recv hKc hPc (ci := 9) (q0 := 0) rfl rfl, fun U hU hW => ⟨rfl, by rw [hU]; exact hPc, va_K.moved hW.alike hKc⟩⟩ rfl rfl hl.1 rfl (lv_room (Nat.le_of_ble_eq_true rfl)) dX9_breaks_96 ⟨Nat.le_of_ble_eq_true rfl, Nat.le_of_ble_eq_true rfl⟩) (fun r_83 hr_83 => ?_)
                  try dsimp only at hr_83
                  refine lv_iload hx hb dX9_breaks_99 (lv_at hl 7 rfl) ?_
                  refine lv_iload hx hb dX9_breaks_101 (lv_at hl 6 rfl) ?_
                  refine lv_iload_n hx hb dX9_breaks_103 rfl (lv_at hl 3 rfl) ?_
                  refine lv_iconst (v := 2) hx hb dX9_breaks_104 (by decide) ?_
                  refine lv_idiv hx hb dX9_breaks_105 (by decide) ?_
                  refine lv_topi (fun y_84 ey_84 => ?_)
                  refine lv_isub hx hb dX9_breaks_106 ?_
                  refine lv_topi (fun y_85 ey_85 => ?_)
                  refine lv_imul hx hb dX9_breaks_107 ?_
                  refine lv_topi (fun y_86 ey_86 => ?_)
                  refine lv_iadd hx hb dX9_breaks_108 ?_
                  refine lv_topi (fun y_87 ey_87 => ?_)
                  refine lv_istore (lv' := [(8, .int y_87), (0, .ref h0), (1, .int p1), (2, .int p2), (3, .int p3), (4, .int y_7), (5, .int gd2), (6, .int i6), (7, .int j7)]) hx hb dX9_breaks_109 hl (by decide) rfl (fun ls hl => ?_)
                  refine lv_aload_n hx hb dX9_breaks_111 rfl (lv_at hl 1 rfl) ?_
                  refine lv_iload_n hx hb dX9_breaks_112 rfl (lv_at hl 2 rfl) ?_
                  refine lv_iload_n hx hb dX9_breaks_113 rfl (lv_at hl 3 rfl) ?_
                  refine lv_iload hx hb dX9_breaks_114 (lv_at hl 8 rfl) ?_
                  refine lv_iadd hx hb dX9_breaks_116 ?_
                  refine lv_topi (fun y_88 ey_88 => ?_)
                  have ty_88 : y_88.toInt = p2.toInt + j7.toInt := by rw [ey_88]; have := fb_addI (x := p2) (y := j7) (by omega) (by omega); omega
                  refine lv_iconst (v := 1) hx hb dX9_breaks_117 (by decide) ?_
                  have hPc := hP.sub (ws' := [(h0, .inr (9, [.int th, .ref a1, .ref a2, .ref a3, .ref a4, .ref a5, .int ne, .int wi, .int dn, .ref a6, .ref a7, .int nn, .ref a8, .int la, .ref a9, .ref a10, .long up, .long lw, .int wh, .long pu, .long pw, .ref a11])), (a1, .inl (cI, 16, .inl Fi)), (a5, .inl (cI, 576, .inl Sp))]) [0, 1, 5] rfl
                  have hKc := hK.sub (tys' := [(cI, .int)]) [0] rfl
                  refine vp_callSi (W.runV (As := [.int p1, .int y_88, .int 1]) (rest := []) ⟨hx, hb, hml, hown, hts⟩ (c_X9_spot l dC dI Ma h0 a1 a2 a3 a4 a5 a6 a7 a8 a9 a10 a11 th ne wi dn nn la wh up lw pu pw cI Fi Sp p1 y_88 1 (by first | assumption | omega) (by first | omega | assumption) (by first | omega | assumption) (by first | omega | assumption) (by first | omega | assumption) (by first | omega | assumption) (by first | omega | assumption)) (cwV 3 hts g_X9_breaks__X9_spot_94 rfl rfl rfl (by decide +kernel) ⟨Nat.le_of_ble_eq_true rfl, Nat.le_of_ble_eq_true rfl⟩) ⟨fun a U g mk q => by obtain ⟨q0, qP, qK⟩ := q; exact ⟨q0, qP, va_K.moved (u := U) (U := U.calling g mk a) (Vm.Alike.refl U.vm) qK⟩, va_recv hKc hPc (ci := 9) (q0 := 0) rfl rfl, fun U hU hW => ⟨rfl, by rw [hU]; exact hPc, va_K.moved hW.alike hKc⟩⟩ rfl rfl hl.1 rfl (lv_room (Nat.le_of_ble_eq_true rfl)) dX9_breaks_118 ⟨Nat.le_of_ble_eq_true rfl, Nat.le_of_ble_eq_true rfl⟩) (fun r_89 hr_89 => ?_)
                  try dsimp only at hr_89
                  refine lv_iload hx hb dX9_breaks_121 (lv_at hl 8 rfl) ?_
                  refine lv_iload hx hb dX9_breaks_123 (lv_at hl 7 rfl) ?_
                  refine lv_iconst (v := 2) hx hb dX9_breaks_125 (by decide) ?_
                  refine lv_irem hx hb dX9_breaks_126 (by decide) ?_
                  refine lv_topi (fun y_90 ey_90 => ?_)
                  refine lv_iconst (v := 2) hx hb dX9_breaks_127 (by decide) ?_
                  refine lv_imul hx hb dX9_breaks_128 ?_
                  refine lv_topi (fun y_91 ey_91 => ?_)
                  refine lv_iconst (v := 1) hx hb dX9_breaks_129 (by decide) ?_
                  refine lv_isub hx hb dX9_breaks_130 ?_
                  refine lv_topi (fun y_92 ey_92 => ?_)
                  refine lv_imul hx hb dX9_breaks_131 ?_
                  refine lv_topi (fun y_93 ey_93 => ?_)
                  refine lv_iadd hx hb dX9_breaks_132 ?_
                  refine lv_topi (fun y_94 ey_94 => ?_)
                  refine lv_istore (lv' := [(9, .int y_94), (8, .int y_87), (0, .ref h0), (1, .int p1), (2, .int p2), (3, .int p3), (4, .int y_7), (5, .int gd2), (6, .int i6), (7, .int j7)]) hx hb dX9_breaks_133 hl (by decide) rfl (fun ls hl => ?_)
                  obtain ⟨q, hq⟩ : ∃ q : Nat, (36 * p1.toInt + 3 * (p2.toInt - (Fi p1.toNatClampNeg).toInt)).toNat = q := ⟨_, rfl⟩
                  obtain ⟨jn, hjn⟩ : ∃ n : Nat, j7.toInt.toNat = n := ⟨_, rfl⟩
                  have hj9 := nI_of_toInt (x := j7) (n := jn) (by omega)
                  have hi9 := nI_of_toInt (x := i6) (n := i6.toInt.toNat) (by omega)
                  have w8 := bk_x (q := q) (j := jn) (i := i6.toInt.toNat) (hr_83.trans (congrArg Sp (by unfold ixm; omega))) ey_84 ey_85 ey_86 ey_87 hj9 hi9
                  have w9 := bk_y (q := q) (j := jn) (i := i6.toInt.toNat) (hr_89.trans (congrArg Sp (by unfold ixm; omega))) ey_90 ey_91 ey_92 ey_93 ey_94 hj9 hi9
                  rw [hq, hjn] at hH
                  refine lv_iload hx hb dX9_breaks_135 (lv_at hl 7 rfl) ?_
                  refine lv_if_eq (tgt := 155) hx hb dX9_breaks_137 (by decide) (fun c_137 => ?_) (fun c_137 => ?_)
                  · have t_137 := (fa_eq _ _).mp c_137
                    refine lv_iconst (v := 0) hx hb dX9_breaks_155 (by decide) ?_
                    refine lv_istore (lv' := [(5, .int 0), (9, .int y_94), (8, .int y_87), (0, .ref h0), (1, .int p1), (2, .int p2), (3, .int p3), (4, .int y_7), (6, .int i6), (7, .int j7)]) hx hb dX9_breaks_156 hl (by decide) rfl (fun ls hl => ?_)
                    obtain ⟨y_95, ey_95⟩ : ∃ y : Int32, y = j7 + 1 := ⟨_, rfl⟩
                    have ty_95 : y_95.toInt = j7.toInt + 1 := by rw [ey_95]; have := fb_addI (x := j7) (y := 1) (by omega) (by omega); omega
                    refine lv_iinc (v := y_95) (lv' := [(7, .int y_95), (5, .int 0), (9, .int y_94), (8, .int y_87), (0, .ref h0), (1, .int p1), (2, .int p2), (3, .int p3), (4, .int y_7), (6, .int i6)]) hx hb dX9_breaks_158 hl (k := 9) rfl (by rw [ey_95]; rfl) (by decide) rfl (fun ls hl => ?_)
                    refine lv_goto (tgt := 82) hx hb dX9_breaks_161 (by decide) ?_
                    exact ih_82 0 y_95 (by omega) (by omega) (by rw [show (y_95).toInt.toNat = jn + 1 by omega, hq]; first | exact bk_0 hH c_137 | exact bk_1 hH c_137 w8 w9 q_145 | exact bk_2 w8 w9 q_145) (by omega) H _ (hP.sub [0, 1, 2, 3, 4, 5] rfl) (hD.sub [0, 1, 2, 3, 4, 5] (by decide) rfl) hS ls (lv_sub hl [4, 5, 6, 7, 8, 1, 9, 0] rfl)
                  · have t_137 := mt (fa_eq _ _).mpr c_137
                    refine lv_iload hx hb dX9_breaks_140 (lv_at hl 1 rfl) ?_
                    refine lv_iload hx hb dX9_breaks_142 (lv_at hl 0 rfl) ?_
                    refine lv_iconst (v := 0) hx hb dX9_breaks_144 (by decide) ?_
                    refine vp_callSi (W.runS (As := [.int y_87, .int y_94, .int 0]) (rest := []) ⟨hx, hb, hml, hown, hts⟩ (c_X9_isPlace l dC dI y_87 y_94 0) (va_cwS 3 hts g_X9_breaks__X9_isPlace_64 rfl rfl rfl (by decide +kernel) ⟨Nat.le_of_ble_eq_true rfl, Nat.le_of_ble_eq_true rfl⟩) ⟨fun a U g mk q => by obtain ⟨q0, q1⟩ := q; exact ⟨q0, q1⟩, fun U hU hW => ⟨rfl, trivial⟩⟩ rfl rfl hl.1 rfl (lv_room (Nat.le_of_ble_eq_true rfl)) dX9_breaks_145 ⟨Nat.le_of_ble_eq_true rfl, Nat.le_of_ble_eq_true rfl⟩) (fun r_96 hr_96 => ?_)
                    try dsimp only at hr_96
                    rcases bo_split hr_96 with ⟨rfl, q_145⟩ | ⟨rfl, q_145⟩
                    · refine lv_if_eq (tgt := 155) hx hb dX9_breaks_148 (by decide) (fun h9 => absurd h9 (by decide)) (fun _ => ?_)
                      refine lv_iconst (v := 1) hx hb dX9_breaks_151 (by decide) ?_
                      refine lv_goto (tgt := 156) hx hb dX9_breaks_152 (by decide) ?_
                      refine lv_istore (lv' := [(5, .int 1), (9, .int y_94), (8, .int y_87), (0, .ref h0), (1, .int p1), (2, .int p2), (3, .int p3), (4, .int y_7), (6, .int i6), (7, .int j7)]) hx hb dX9_breaks_156 hl (by decide) rfl (fun ls hl => ?_)
                      obtain ⟨y_97, ey_97⟩ : ∃ y : Int32, y = j7 + 1 := ⟨_, rfl⟩
                      have ty_97 : y_97.toInt = j7.toInt + 1 := by rw [ey_97]; have := fb_addI (x := j7) (y := 1) (by omega) (by omega); omega
                      refine lv_iinc (v := y_97) (lv' := [(7, .int y_97), (5, .int 1), (9, .int y_94), (8, .int y_87), (0, .ref h0), (1, .int p1), (2, .int p2), (3, .int p3), (4, .int y_7), (6, .int i6)]) hx hb dX9_breaks_158 hl (k := 9) rfl (by rw [ey_97]; rfl) (by decide) rfl (fun ls hl => ?_)
                      refine lv_goto (tgt := 82) hx hb dX9_breaks_161 (by decide) ?_
                      exact ih_82 1 y_97 (by omega) (by omega) (by rw [show (y_97).toInt.toNat = jn + 1 by omega, hq]; first | exact bk_0 hH c_137 | exact bk_1 hH c_137 w8 w9 q_145 | exact bk_2 w8 w9 q_145) (by omega) H _ (hP.sub [0, 1, 2, 3, 4, 5] rfl) (hD.sub [0, 1, 2, 3, 4, 5] (by decide) rfl) hS ls (lv_sub hl [4, 5, 6, 7, 8, 1, 9, 0] rfl)
                    · refine lv_if_eq (tgt := 155) hx hb dX9_breaks_148 (by decide) (fun _ => ?_) (fun h9 => absurd h9 (by decide))
                      refine lv_iconst (v := 0) hx hb dX9_breaks_155 (by decide) ?_
                      refine lv_istore (lv' := [(5, .int 0), (9, .int y_94), (8, .int y_87), (0, .ref h0), (1, .int p1), (2, .int p2), (3, .int p3), (4, .int y_7), (6, .int i6), (7, .int j7)]) hx hb dX9_breaks_156 hl (by decide) rfl (fun ls hl => ?_)
                      obtain ⟨y_98, ey_98⟩ : ∃ y : Int32, y = j7 + 1 := ⟨_, rfl⟩
                      have ty_98 : y_98.toInt = j7.toInt + 1 := by rw [ey_98]; have := fb_addI (x := j7) (y := 1) (by omega) (by omega); omega
                      refine lv_iinc (v := y_98) (lv' := [(7, .int y_98), (5, .int 0), (9, .int y_94), (8, .int y_87), (0, .ref h0), (1, .int p1), (2, .int p2), (3, .int p3), (4, .int y_7), (6, .int i6)]) hx hb dX9_breaks_158 hl (k := 9) rfl (by rw [ey_98]; rfl) (by decide) rfl (fun ls hl => ?_)
                      refine lv_goto (tgt := 82) hx hb dX9_breaks_161 (by decide) ?_
                      exact ih_82 0 y_98 (by omega) (by omega) (by rw [show (y_98).toInt.toNat = jn + 1 by omega, hq]; first | exact bk_0 hH c_137 | exact bk_1 hH c_137 w8 w9 q_145 | exact bk_2 w8 w9 q_145) (by omega) H _ (hP.sub [0, 1, 2, 3, 4, 5] rfl) (hD.sub [0, 1, 2, 3, 4, 5] (by decide) rfl) hS ls (lv_sub hl [4, 5, 6, 7, 8, 1, 9, 0] rfl)
      · refine lv_if_ne (tgt := 37) hx hb dX9_breaks_31 (by decide) (fun h9 => absurd h9 (by decide)) (fun _ => ?_)
        refine lv_ldc hx hb hown (hts (.constant RX9 70 (-100002)) (by decide +kernel)) dX9_breaks_34 ?_
        have hP9 := hP.sub (ws' := [(h0, .inr (9, [.int th, .ref a1, .ref a2, .ref a3, .ref a4, .ref a5, .int ne, .int wi, .int dn, .ref a6, .ref a7, .int nn, .ref a8, .int la, .ref a9, .ref a10, .long up, .long lw, .int wh, .long pu, .long pw, .ref a11])), (a1, .inl (cI, 16, .inl Fi)), (a2, .inl (cI, 16, .inl Ma)), (a3, .inl (cI, 16, .inl Db)), (a4, .inl (cZ, 16, .inl Go)), (a5, .inl (cI, 576, .inl Sp))]) [0, 1, 2, 3, 4, 5] rfl
        have hD9 := hD.sub (ws' := [(h0, .inr (9, [.int th, .ref a1, .ref a2, .ref a3, .ref a4, .ref a5, .int ne, .int wi, .int dn, .ref a6, .ref a7, .int nn, .ref a8, .int la, .ref a9, .ref a10, .long up, .long lw, .int wh, .long pu, .long pw, .ref a11])), (a1, .inl (cI, 16, .inl Fi)), (a2, .inl (cI, 16, .inl Ma)), (a3, .inl (cI, 16, .inl Db)), (a4, .inl (cZ, 16, .inl Go)), (a5, .inl (cI, 576, .inl Sp))]) [0, 1, 2, 3, 4, 5] (by decide) rfl
        have hK9 := hK.sub (tys' := [(cI, .int), (cZ, .boolean)]) [0, 1] rfl
        refine W.widen (k := 0) (n := 0) (by omega) (by omega) ?_
        exact W.iret (v := (-100002)) hx hb hr (fun t ht hW => ⟨⟨_, (), rfl, (Or.inr (Or.inl ⟨by omega, by omega, rfl⟩)), th, Fi, Ma, Db, Go, Sp, by rw [ht]; exact hP9, va_K.moved hW.alike hK9, hD9, (Or.inr ⟨fun h => by have := h.1; omega, rfl, rfl, rfl, rfl, rfl, rfl⟩)⟩, hS.F ht⟩) hS.2.2 dX9_breaks_36
    · simp only [Int32.toInt_toInt64, klL_2, klL_6] at q_19
      refine lv_if_eq (tgt := 34) hx hb dX9_breaks_22 (by decide) (fun _ => ?_) (fun h9 => absurd h9 (by decide))
      refine lv_ldc hx hb hown (hts (.constant RX9 70 (-100002)) (by decide +kernel)) dX9_breaks_34 ?_
      have hP9 := hP.sub (ws' := [(h0, .inr (9, [.int th, .ref a1, .ref a2, .ref a3, .ref a4, .ref a5, .int ne, .int wi, .int dn, .ref a6, .ref a7, .int nn, .ref a8, .int la, .ref a9, .ref a10, .long up, .long lw, .int wh, .long pu, .long pw, .ref a11])), (a1, .inl (cI, 16, .inl Fi)), (a2, .inl (cI, 16, .inl Ma)), (a3, .inl (cI, 16, .inl Db)), (a4, .inl (cZ, 16, .inl Go)), (a5, .inl (cI, 576, .inl Sp))]) [0, 1, 2, 3, 4, 5] rfl
      have hD9 := hD.sub (ws' := [(h0, .inr (9, [.int th, .ref a1, .ref a2, .ref a3, .ref a4, .ref a5, .int ne, .int wi, .int dn, .ref a6, .ref a7, .int nn, .ref a8, .int la, .ref a9, .ref a10, .long up, .long lw, .int wh, .long pu, .long pw, .ref a11])), (a1, .inl (cI, 16, .inl Fi)), (a2, .inl (cI, 16, .inl Ma)), (a3, .inl (cI, 16, .inl Db)), (a4, .inl (cZ, 16, .inl Go)), (a5, .inl (cI, 576, .inl Sp))]) [0, 1, 2, 3, 4, 5] (by decide) rfl
      have hK9 := hK.sub (tys' := [(cI, .int), (cZ, .boolean)]) [0, 1] rfl
      refine W.widen (k := 0) (n := 0) (by omega) (by omega) ?_
      exact W.iret (v := (-100002)) hx hb hr (fun t ht hW => ⟨⟨_, (), rfl, (Or.inr (Or.inl ⟨by omega, by omega, rfl⟩)), th, Fi, Ma, Db, Go, Sp, by rw [ht]; exact hP9, va_K.moved hW.alike hK9, hD9, (Or.inr ⟨fun h => by have := h.1; omega, rfl, rfl, rfl, rfl, rfl, rfl⟩)⟩, hS.F ht⟩) hS.2.2 dX9_breaks_36
  · refine lv_if_ne (tgt := 11) hx hb dX9_breaks_5 (by decide) (fun h9 => absurd h9 (by decide)) (fun _ => ?_)
    refine lv_ldc hx hb hown (hts (.constant RX9 84 (-100001)) (by decide +kernel)) dX9_breaks_8 ?_
    have hP9 := hP.sub (ws' := [(h0, .inr (9, [.int th, .ref a1, .ref a2, .ref a3, .ref a4, .ref a5, .int ne, .int wi, .int dn, .ref a6, .ref a7, .int nn, .ref a8, .int la, .ref a9, .ref a10, .long up, .long lw, .int wh, .long pu, .long pw, .ref a11])), (a1, .inl (cI, 16, .inl Fi)), (a2, .inl (cI, 16, .inl Ma)), (a3, .inl (cI, 16, .inl Db)), (a4, .inl (cZ, 16, .inl Go)), (a5, .inl (cI, 576, .inl Sp))]) [0, 1, 2, 3, 4, 5] rfl
    have hD9 := hD.sub (ws' := [(h0, .inr (9, [.int th, .ref a1, .ref a2, .ref a3, .ref a4, .ref a5, .int ne, .int wi, .int dn, .ref a6, .ref a7, .int nn, .ref a8, .int la, .ref a9, .ref a10, .long up, .long lw, .int wh, .long pu, .long pw, .ref a11])), (a1, .inl (cI, 16, .inl Fi)), (a2, .inl (cI, 16, .inl Ma)), (a3, .inl (cI, 16, .inl Db)), (a4, .inl (cZ, 16, .inl Go)), (a5, .inl (cI, 576, .inl Sp))]) [0, 1, 2, 3, 4, 5] (by decide) rfl
    have hK9 := hK.sub (tys' := [(cI, .int), (cZ, .boolean)]) [0, 1] rfl
    refine W.widen (k := 0) (n := 0) (by omega) (by omega) ?_
    exact W.iret (v := (-100001)) hx hb hr (fun t ht hW => ⟨⟨_, (), rfl, (Or.inl ⟨by omega, rfl⟩), th, Fi, Ma, Db, Go, Sp, by rw [ht]; exact hP9, va_K.moved hW.alike hK9, hD9, (Or.inr ⟨fun h => by have := h.1; omega, rfl, rfl, rfl, rfl, rfl, rfl⟩)⟩, hS.F ht⟩) hS.2.2 dX9_breaks_10
