def wk_X9_findLeastE : List Cond := .code yX9_findLeast cX9_findLeast 16 none :: (([.fieldLink RX9 121 "MeetingsAboveModel" "upper" "J", .fieldLink RX9 125 "MeetingsAboveModel" "lower" "J", .fieldLink RX9 128 "MeetingsAboveModel" "when" "I"] : List Cond) ++ (wsX90 ++ ((wsV RX9 137 RX9 yX9_lastOf wk_X9_lastOf) ++ ((wsV RX9 140 RX9 yX9_firstOf wk_X9_firstOf) ++ ((wsV RX9 147 RX9 yX9_tryOne wk_X9_tryOneE) ++ ((wsV RX9 143 RX9 yX9_apart wk_X9_apartE) ++ ([])))))))
theorem in_X9_findLeastE_X9 : ∀ w ∈ wsX90, w ∈ wk_X9_findLeastE := fun _ h => List.mem_cons_of_mem _ (List.mem_append_right _ (List.mem_append_left _ h))
theorem gw_X9_findLeastE : AG wk_X9_findLeastE := AG_ca (AG_l (by decide +kernel)) (AG_app ag_X9 (AG_app (AG_V gw_X9_lastOf) (AG_app (AG_V gw_X9_firstOf) (AG_app (AG_V gw_X9_tryOneE) (AG_app (AG_V gw_X9_apartE) (AG_nil))))))
theorem g_X9_findLeastE__X9_lastOf_137 : GoodIn wk_X9_findLeastE (wsV RX9 137 RX9 yX9_lastOf wk_X9_lastOf) := goodIn_m (fun _ h => List.mem_cons_of_mem _ (List.mem_append_right _ (List.mem_append_right _ (List.mem_append_left _ h)))) (AG_V gw_X9_lastOf)
theorem g_X9_findLeastE__X9_firstOf_140 : GoodIn wk_X9_findLeastE (wsV RX9 140 RX9 yX9_firstOf wk_X9_firstOf) := goodIn_m (fun _ h => List.mem_cons_of_mem _ (List.mem_append_right _ (List.mem_append_right _ (List.mem_append_right _ (List.mem_append_left _ h))))) (AG_V gw_X9_firstOf)
theorem g_X9_findLeastE__X9_tryOneE_147 : GoodIn wk_X9_findLeastE (wsV RX9 147 RX9 yX9_tryOne wk_X9_tryOneE) := goodIn_m (fun _ h => List.mem_cons_of_mem _ (List.mem_append_right _ (List.mem_append_right _ (List.mem_append_right _ (List.mem_append_right _ (List.mem_append_left _ h)))))) (AG_V gw_X9_tryOneE)
theorem g_X9_findLeastE__X9_apartE_143 : GoodIn wk_X9_findLeastE (wsV RX9 143 RX9 yX9_apart wk_X9_apartE) := goodIn_m (fun _ h => List.mem_cons_of_mem _ (List.mem_append_right _ (List.mem_append_right _ (List.mem_append_right _ (List.mem_append_right _ (List.mem_append_right _ (List.mem_append_left _ h))))))) (AG_V gw_X9_apartE)
set_option maxHeartbeats 4000000 in
set_option maxRecDepth 100000 in
theorem c_X9_findLeastE (l : Launch) (dC : Nat → ClassId) (dI : Nat → Nat → Nat) (h0 : Nat) (a1 : Nat) (a2 : Nat) (a3 : Nat) (a4 : Nat) (a5 : Nat) (a6 : Nat) (a7 : Nat) (a8 : Nat) (a9 : Nat) (a10 : Nat) (a11 : Nat) (th : Int32) (ne : Int32) (wi : Int32) (dn : Int32) (nn : Int32) (la : Int32) (wh : Int32) (up : Int64) (lw : Int64) (pu : Int64) (pw : Int64) (cI : ClassId) (Fi : Nat → Int32) (Ma : Nat → Int32) (Sp : Nat → Int32) (p1 : Int32) (p2 : Int32) (sz : Nat) (hM : mOK th Fi Ma) (hp10 : 0 ≤ p1.toInt) (hp11 : p1.toInt < th.toInt) (hp20 : 0 ≤ p2.toInt) (hp21 : p2.toInt < th.toInt) (hg1 : (Fi p1.toNatClampNeg).toInt < (Fi p2.toNatClampNeg).toInt + (Ma p2.toNatClampNeg).toInt) (hg2 : (Fi p2.toNatClampNeg).toInt < (Fi p1.toNatClampNeg).toInt + (Ma p1.toNatClampNeg).toInt) (hct : cOK (Ma p1.toNatClampNeg) (fun k => Sp (36 * p1.toNatClampNeg + k))) (hcu : cOK (Ma p2.toNatClampNeg) (fun k => Sp (36 * p2.toNatClampNeg + k))) : Met l yX9_findLeast wk_X9_findLeastE ({ frames := 2, cells := 0, slots := 0, locals := 47 }) (va_Pc [.ref h0, .int p1, .int p2] (fun U => U.heap.size = sz ∧ va_P (dC, dI) vwCl [(h0, .inr (9, [.int th, .ref a1, .ref a2, .ref a3, .ref a4, .ref a5, .int ne, .int wi, .int dn, .ref a6, .ref a7, .int nn, .ref a8, .int la, .ref a9, .ref a10, .long up, .long lw, .int wh, .long pu, .long pw, .ref a11])), (a1, .inl (cI, 16, .inl Fi)), (a2, .inl (cI, 16, .inl Ma)), (a5, .inl (cI, 576, .inl Sp))] U.heap ∧ va_K (dC, dI) vwCl [(cI, .int)] U ∧ va_D (fun _ => True) [(h0, .inr (9, [.int th, .ref a1, .ref a2, .ref a3, .ref a4, .ref a5, .int ne, .int wi, .int dn, .ref a6, .ref a7, .int nn, .ref a8, .int la, .ref a9, .ref a10, .long up, .long lw, .int wh, .long pu, .long pw, .ref a11])), (a1, .inl (cI, 16, .inl Fi)), (a2, .inl (cI, 16, .inl Ma)), (a5, .inl (cI, 576, .inl Sp))])) (va_Qv (fun (_ : Unit) => True) (fun (_ : Unit) (t : State) => ∃ (fr8 : Int32) (to8 : Int32) (up9 : Int64) (lw9 : Int64) (wh9 : Int32) (pu9 : Int64) (pw9 : Int64), va_P (dC, dI) vwCl [(h0, .inr (9, [.int th, .ref a1, .ref a2, .ref a3, .ref a4, .ref a5, .int ne, .int wi, .int dn, .ref a6, .ref a7, .int nn, .ref a8, .int la, .ref a9, .ref a10, .long up9, .long lw9, .int wh9, .long pu9, .long pw9, .ref a11])), (a1, .inl (cI, 16, .inl Fi)), (a2, .inl (cI, 16, .inl Ma)), (a5, .inl (cI, 576, .inl Sp))] t.heap ∧ va_K (dC, dI) vwCl [(cI, .int)] t ∧ va_D (va_A [(h0, .inr (9, [.int th, .ref a1, .ref a2, .ref a3, .ref a4, .ref a5, .int ne, .int wi, .int dn, .ref a6, .ref a7, .int nn, .ref a8, .int la, .ref a9, .ref a10, .long up, .long lw, .int wh, .long pu, .long pw, .ref a11])), (a1, .inl (cI, 16, .inl Fi)), (a2, .inl (cI, 16, .inl Ma)), (a5, .inl (cI, 576, .inl Sp))] sz) [(h0, .inr (9, [.int th, .ref a1, .ref a2, .ref a3, .ref a4, .ref a5, .int ne, .int wi, .int dn, .ref a6, .ref a7, .int nn, .ref a8, .int la, .ref a9, .ref a10, .long up9, .long lw9, .int wh9, .long pu9, .long pw9, .ref a11])), (a1, .inl (cI, 16, .inl Fi)), (a2, .inl (cI, 16, .inl Ma)), (a5, .inl (cI, 576, .inl Sp))] ∧ ((Fi p1.toNatClampNeg).toInt ≤ fr8.toInt ∧ (Fi p2.toNatClampNeg).toInt ≤ fr8.toInt ∧ (fr8.toInt = (Fi p1.toNatClampNeg).toInt ∨ fr8.toInt = (Fi p2.toNatClampNeg).toInt)) ∧ (to8.toInt < (Fi p1.toNatClampNeg).toInt + (Ma p1.toNatClampNeg).toInt ∧ to8.toInt < (Fi p2.toNatClampNeg).toInt + (Ma p2.toNatClampNeg).toInt ∧ (to8.toInt = (Fi p1.toNatClampNeg).toInt + (Ma p1.toNatClampNeg).toInt - 1 ∨ to8.toInt = (Fi p2.toNatClampNeg).toInt + (Ma p2.toNatClampNeg).toInt - 1)) ∧ msP (uK (Fi p1.toNatClampNeg) (fun k => Sp (36 * p1.toNatClampNeg + k)) (Fi p2.toNatClampNeg) (fun k => Sp (36 * p2.toNatClampNeg + k)) to8.toInt) (lK (Fi p1.toNatClampNeg) (fun k => Sp (36 * p1.toNatClampNeg + k)) (Fi p2.toNatClampNeg) (fun k => Sp (36 * p2.toNatClampNeg + k)) to8.toInt) (qK (Fi p1.toNatClampNeg) (fun k => Sp (36 * p1.toNatClampNeg + k)) (Fi p2.toNatClampNeg) (fun k => Sp (36 * p2.toNatClampNeg + k)) to8.toInt) (kbF (uK (Fi p1.toNatClampNeg) (fun k => Sp (36 * p1.toNatClampNeg + k)) (Fi p2.toNatClampNeg) (fun k => Sp (36 * p2.toNatClampNeg + k)) to8.toInt) (lK (Fi p1.toNatClampNeg) (fun k => Sp (36 * p1.toNatClampNeg + k)) (Fi p2.toNatClampNeg) (fun k => Sp (36 * p2.toNatClampNeg + k)) to8.toInt) fr8.toInt (to8.toInt - fr8.toInt).toNat) up9.toInt lw9.toInt wh9.toInt pu9.toInt pw9.toInt) (va_A [(h0, .inr (9, [.int th, .ref a1, .ref a2, .ref a3, .ref a4, .ref a5, .int ne, .int wi, .int dn, .ref a6, .ref a7, .int nn, .ref a8, .int la, .ref a9, .ref a10, .long up, .long lw, .int wh, .long pu, .long pw, .ref a11])), (a1, .inl (cI, 16, .inl Fi)), (a2, .inl (cI, 16, .inl Ma)), (a5, .inl (cI, 576, .inl Sp))] sz)) 0 0 (va_A [(h0, .inr (9, [.int th, .ref a1, .ref a2, .ref a3, .ref a4, .ref a5, .int ne, .int wi, .int dn, .ref a6, .ref a7, .int nn, .ref a8, .int la, .ref a9, .ref a10, .long up, .long lw, .int wh, .long pu, .long pw, .ref a11])), (a1, .inl (cI, 16, .inl Fi)), (a2, .inl (cI, 16, .inl Ma)), (a5, .inl (cI, 576, .inl Sp))] sz) := by
  refine Met.ofW (cc := cX9_findLeast) (maxL := 16) (ret := none) (by decide) rfl ?_
  intro p e s m args below meth c s₁ B hml hv
  obtain ⟨rfl, hsz, hP, hK, hD0⟩ := hv
  have hx := B.exec
  have hb := B.bytes
  have hr := B.returns
  have hts := atoms_spec (ws := wk_X9_findLeastE) B.pre
  have hown : s.vm.findClass RX9 = some m.cls := findClass_of_methodNamed B.named
  have hlocks := B.notSynchronized
  subst hsz
  have hD := hD0.self (sz := s.heap.size)
  generalize hAe : va_A [(h0, .inr (9, [.int th, .ref a1, .ref a2, .ref a3, .ref a4, .ref a5, .int ne, .int wi, .int dn, .ref a6, .ref a7, .int nn, .ref a8, .int la, .ref a9, .ref a10, .long up, .long lw, .int wh, .long pu, .long pw, .ref a11])), (a1, .inl (cI, 16, .inl Fi)), (a2, .inl (cI, 16, .inl Ma)), (a5, .inl (cI, 576, .inl Sp))] s.heap.size = A at hD ⊢
  have hA : ∀ q : Nat, s.heap.size ≤ q → A q := fun q h => by rw [← hAe]; exact Or.inr h
  have hS : va_S A s.heap s.heap [] := va_S.rf
  have hP : va_P (dC, dI) vwCl [(h0, .inr (9, [.int th, .ref a1, .ref a2, .ref a3, .ref a4, .ref a5, .int ne, .int wi, .int dn, .ref a6, .ref a7, .int nn, .ref a8, .int la, .ref a9, .ref a10, .long up, .long lw, .int wh, .long pu, .long pw, .ref a11])), (a1, .inl (cI, 16, .inl Fi)), (a2, .inl (cI, 16, .inl Ma)), (a5, .inl (cI, 576, .inl Sp))] s.heap := hP
  have hl := lv_entry ([.ref h0, .int p1, .int p2]) (n := 16) (Nat.le_of_ble_eq_true rfl)
  rw [lg_entry_eq]
  generalize (lg_sl ([.ref h0, .int p1, .int p2]) ++ List.replicate (16 - (lg_sl ([.ref h0, .int p1, .int p2])).length) Slot.unset).toArray = ls at hl ⊢
  have hl : lv_has ls 16 [(0, .ref h0), (1, .int p1), (2, .int p2)] := hl
  have kl_m1 : (-1 : Int32).toInt = -1 := by decide
  have kl_0 : (0 : Int32).toInt = 0 := by decide
  have kl_1 : (1 : Int32).toInt = 1 := by decide
  have kl_3 : (3 : Int32).toInt = 3 := by decide
  have klL_0 : (0 : Int64).toInt = 0 := by decide
  have klL_1 : (1 : Int64).toInt = 1 := by decide
  obtain ⟨hM0, hM1, hM2⟩ := id hM
  have np1 : ((p1.toNatClampNeg : Nat) : Int) = p1.toInt := tc_I (by omega)
  have bp1 := hM2 p1.toNatClampNeg (by omega)
  have np2 : ((p2.toNatClampNeg : Nat) : Int) = p2.toInt := tc_I (by omega)
  have bp2 := hM2 p2.toNatClampNeg (by omega)
  refine lv_aload_n hx hb dX9_findLeast_0 rfl (lv_at hl 0 rfl) ?_
  refine lv_lconst (v := 0) hx hb dX9_findLeast_1 (by decide) ?_
  refine va_put (D := (dC, dI)) (ci := 9) (v := .long 0) (ty := .long) (C := RX9) (T := TX9) (N := 22) hx hb hts in_X9_findLeastE_X9 tyX9 tyX9_ok nmX9 hown hK hP hD hS 0 rfl rfl 16 (by decide) (hts (.fieldLink RX9 121 "MeetingsAboveModel" "upper" "J") (by decide +kernel)) (fun _ h9 => h9) rfl (by decide +kernel) rfl rfl (Nat.le_of_ble_eq_true rfl) dX9_findLeast_2 (fun H locs hP hD hS => ?_)
  have hP : va_P (dC, dI) vwCl [(h0, .inr (9, [.int th, .ref a1, .ref a2, .ref a3, .ref a4, .ref a5, .int ne, .int wi, .int dn, .ref a6, .ref a7, .int nn, .ref a8, .int la, .ref a9, .ref a10, .long 0, .long lw, .int wh, .long pu, .long pw, .ref a11])), (a1, .inl (cI, 16, .inl Fi)), (a2, .inl (cI, 16, .inl Ma)), (a5, .inl (cI, 576, .inl Sp))] H := hP
  have hD : va_D A [(h0, .inr (9, [.int th, .ref a1, .ref a2, .ref a3, .ref a4, .ref a5, .int ne, .int wi, .int dn, .ref a6, .ref a7, .int nn, .ref a8, .int la, .ref a9, .ref a10, .long 0, .long lw, .int wh, .long pu, .long pw, .ref a11])), (a1, .inl (cI, 16, .inl Fi)), (a2, .inl (cI, 16, .inl Ma)), (a5, .inl (cI, 576, .inl Sp))] := hD
  refine lv_aload_n hx hb dX9_findLeast_5 rfl (lv_at hl 0 rfl) ?_
  refine lv_lconst (v := 1) hx hb dX9_findLeast_6 (by decide) ?_
  refine va_put (D := (dC, dI)) (ci := 9) (v := .long 1) (ty := .long) (C := RX9) (T := TX9) (N := 22) hx hb hts in_X9_findLeastE_X9 tyX9 tyX9_ok nmX9 hown hK hP hD hS 0 rfl rfl 17 (by decide) (hts (.fieldLink RX9 125 "MeetingsAboveModel" "lower" "J") (by decide +kernel)) (fun _ h9 => h9) rfl (by decide +kernel) rfl rfl (Nat.le_of_ble_eq_true rfl) dX9_findLeast_7 (fun H locs hP hD hS => ?_)
  have hP : va_P (dC, dI) vwCl [(h0, .inr (9, [.int th, .ref a1, .ref a2, .ref a3, .ref a4, .ref a5, .int ne, .int wi, .int dn, .ref a6, .ref a7, .int nn, .ref a8, .int la, .ref a9, .ref a10, .long 0, .long 1, .int wh, .long pu, .long pw, .ref a11])), (a1, .inl (cI, 16, .inl Fi)), (a2, .inl (cI, 16, .inl Ma)), (a5, .inl (cI, 576, .inl Sp))] H := hP
  have hD : va_D A [(h0, .inr (9, [.int th, .ref a1, .ref a2, .ref a3, .ref a4, .ref a5, .int ne, .int wi, .int dn, .ref a6, .ref a7, .int nn, .ref a8, .int la, .ref a9, .ref a10, .long 0, .long 1, .int wh, .long pu, .long pw, .ref a11])), (a1, .inl (cI, 16, .inl Fi)), (a2, .inl (cI, 16, .inl Ma)), (a5, .inl (cI, 576, .inl Sp))] := hD
  refine lv_aload_n hx hb dX9_findLeast_10 rfl (lv_at hl 0 rfl) ?_
  refine lv_iconst (v := (-1)) hx hb dX9_findLeast_11 (by decide) ?_
  refine va_put (D := (dC, dI)) (ci := 9) (v := .int (-1)) (ty := .int) (C := RX9) (T := TX9) (N := 22) hx hb hts in_X9_findLeastE_X9 tyX9 tyX9_ok nmX9 hown hK hP hD hS 0 rfl rfl 18 (by decide) (hts (.fieldLink RX9 128 "MeetingsAboveModel" "when" "I") (by decide +kernel)) (fun _ h9 => h9) rfl (by decide +kernel) rfl rfl (Nat.le_of_ble_eq_true rfl) dX9_findLeast_12 (fun H locs hP hD hS => ?_)
  have hP : va_P (dC, dI) vwCl [(h0, .inr (9, [.int th, .ref a1, .ref a2, .ref a3, .ref a4, .ref a5, .int ne, .int wi, .int dn, .ref a6, .ref a7, .int nn, .ref a8, .int la, .ref a9, .ref a10, .long 0, .long 1, .int (-1), .long pu, .long pw, .ref a11])), (a1, .inl (cI, 16, .inl Fi)), (a2, .inl (cI, 16, .inl Ma)), (a5, .inl (cI, 576, .inl Sp))] H := hP
  have hD : va_D A [(h0, .inr (9, [.int th, .ref a1, .ref a2, .ref a3, .ref a4, .ref a5, .int ne, .int wi, .int dn, .ref a6, .ref a7, .int nn, .ref a8, .int la, .ref a9, .ref a10, .long 0, .long 1, .int (-1), .long pu, .long pw, .ref a11])), (a1, .inl (cI, 16, .inl Fi)), (a2, .inl (cI, 16, .inl Ma)), (a5, .inl (cI, 576, .inl Sp))] := hD
  refine lv_aload_n hx hb dX9_findLeast_15 rfl (lv_at hl 0 rfl) ?_
  refine lv_iload_n hx hb dX9_findLeast_16 rfl (lv_at hl 1 rfl) ?_
  refine lv_iload_n hx hb dX9_findLeast_17 rfl (lv_at hl 2 rfl) ?_
  have hPc := hP.sub (ws' := [(h0, .inr (9, [.int th, .ref a1, .ref a2, .ref a3, .ref a4, .ref a5, .int ne, .int wi, .int dn, .ref a6, .ref a7, .int nn, .ref a8, .int la, .ref a9, .ref a10, .long 0, .long 1, .int (-1), .long pu, .long pw, .ref a11])), (a1, .inl (cI, 16, .inl Fi)), (a2, .inl (cI, 16, .inl Ma))]) [0, 1, 2] rfl
  have hKc := hK.sub (tys' := [(cI, .int)]) [0] rfl
  refine vp_callSi (W.runV (As := [.int p1, .int p2]) (rest := []) ⟨hx, hb, hml, hown, hts⟩ (c_X9_lastOf l dC dI h0 a1 a2 a3 a4 a5 a6 a7 a8 a9 a10 a11 th ne wi dn nn la (-1) 0 1 pu pw cI Fi Ma p1 p2 (by first | assumption | omega) (by first | omega | assumption) (by first | omega | assumption) (by first | omega | assumption) (by first | omega | assumption)) (cwV 2 hts g_X9_findLeastE__X9_lastOf_137 rfl rfl rfl (by decide +kernel) ⟨Nat.le_of_ble_eq_true rfl, Nat.le_of_ble_eq_true rfl⟩) ⟨fun a U g mk q => by obtain ⟨q0, qP, qK⟩ := q; exact ⟨q0, qP, va_K.moved (u := U) (U := U.calling g mk a) (Vm.Alike.refl U.vm) qK⟩, va_recv hKc hPc (ci := 9) (q0 := 0) rfl rfl, fun U hU hW => ⟨rfl, by rw [hU]; exact hPc, va_K.moved hW.alike hKc⟩⟩ rfl rfl hl.1 rfl (lv_room (Nat.le_of_ble_eq_true rfl)) dX9_findLeast_18 ⟨Nat.le_of_ble_eq_true rfl, Nat.le_of_ble_eq_true rfl⟩) (fun r_1 hr_1 => ?_)
  try dsimp only at hr_1
  refine lv_istore_n (lv' := [(3, .int r_1), (0, .ref h0), (1, .int p1), (2, .int p2)]) hx hb dX9_findLeast_21 rfl hl (by decide) rfl (fun ls hl => ?_)
  refine lv_aload_n hx hb dX9_findLeast_22 rfl (lv_at hl 1 rfl) ?_
  refine lv_iload_n hx hb dX9_findLeast_23 rfl (lv_at hl 2 rfl) ?_
  refine lv_iload_n hx hb dX9_findLeast_24 rfl (lv_at hl 3 rfl) ?_
  have hPc := hP.sub (ws' := [(h0, .inr (9, [.int th, .ref a1, .ref a2, .ref a3, .ref a4, .ref a5, .int ne, .int wi, .int dn, .ref a6, .ref a7, .int nn, .ref a8, .int la, .ref a9, .ref a10, .long 0, .long 1, .int (-1), .long pu, .long pw, .ref a11])), (a1, .inl (cI, 16, .inl Fi))]) [0, 1] rfl
  have hKc := hK.sub (tys' := [(cI, .int)]) [0] rfl
  refine vp_callSi (W.runV (As := [.int p1, .int p2]) (rest := []) ⟨hx, hb, hml, hown, hts⟩ (c_X9_firstOf l dC dI Ma h0 a1 a2 a3 a4 a5 a6 a7 a8 a9 a10 a11 th ne wi dn nn la (-1) 0 1 pu pw cI Fi p1 p2 (by first | assumption | omega) (by first | omega | assumption) (by first | omega | assumption) (by first | omega | assumption) (by first | omega | assumption)) (cwV 2 hts g_X9_findLeastE__X9_firstOf_140 rfl rfl rfl (by decide +kernel) ⟨Nat.le_of_ble_eq_true rfl, Nat.le_of_ble_eq_true rfl⟩) ⟨fun a U g mk q => by obtain ⟨q0, qP, qK⟩ := q; exact ⟨q0, qP, va_K.moved (u := U) (U := U.calling g mk a) (Vm.Alike.refl U.vm) qK⟩, va_recv hKc hPc (ci := 9) (q0 := 0) rfl rfl, fun U hU hW => ⟨rfl, by rw [hU]; exact hPc, va_K.moved hW.alike hKc⟩⟩ rfl rfl hl.1 rfl (lv_room (Nat.le_of_ble_eq_true rfl)) dX9_findLeast_25 ⟨Nat.le_of_ble_eq_true rfl, Nat.le_of_ble_eq_true rfl⟩) (fun r_2 hr_2 => ?_)
  try dsimp only at hr_2
  refine lv_istore (lv' := [(4, .int r_2), (3, .int r_1), (0, .ref h0), (1, .int p1), (2, .int p2)]) hx hb dX9_findLeast_28 hl (by decide) rfl (fun ls hl => ?_)
  refine (show ∀ (k : Nat) (kk : Int32) (uq : Int64) (lq : Int64) (wq : Int32) (pq : Int64) (dq : Int64) (hk0 : r_2.toInt ≤ kk.toInt) (hk1 : kk.toInt ≤ r_1.toInt + 1) (hl8 : 0 < lq.toInt) (hl9 : lq.toInt ≤ 1200000000) (hu8 : 0 ≤ uq.toInt) (hNS : (kk.toInt = r_2.toInt ∧ wq.toInt < 0) ∨ (r_2.toInt < kk.toInt ∧ msP (uK (Fi p1.toNatClampNeg) (fun k => Sp (36 * p1.toNatClampNeg + k)) (Fi p2.toNatClampNeg) (fun k => Sp (36 * p2.toNatClampNeg + k)) r_1.toInt) (lK (Fi p1.toNatClampNeg) (fun k => Sp (36 * p1.toNatClampNeg + k)) (Fi p2.toNatClampNeg) (fun k => Sp (36 * p2.toNatClampNeg + k)) r_1.toInt) (qK (Fi p1.toNatClampNeg) (fun k => Sp (36 * p1.toNatClampNeg + k)) (Fi p2.toNatClampNeg) (fun k => Sp (36 * p2.toNatClampNeg + k)) r_1.toInt) (kbF (uK (Fi p1.toNatClampNeg) (fun k => Sp (36 * p1.toNatClampNeg + k)) (Fi p2.toNatClampNeg) (fun k => Sp (36 * p2.toNatClampNeg + k)) r_1.toInt) (lK (Fi p1.toNatClampNeg) (fun k => Sp (36 * p1.toNatClampNeg + k)) (Fi p2.toNatClampNeg) (fun k => Sp (36 * p2.toNatClampNeg + k)) r_1.toInt) r_2.toInt (kk.toInt - r_2.toInt - 1).toNat) uq.toInt lq.toInt wq.toInt pq.toInt dq.toInt)) (hk_30 : (r_1.toInt + 1 - kk.toInt).toNat < k) (H : Heap) (locs : List Loc) (hP : va_P (dC, dI) vwCl [(h0, .inr (9, [.int th, .ref a1, .ref a2, .ref a3, .ref a4, .ref a5, .int ne, .int wi, .int dn, .ref a6, .ref a7, .int nn, .ref a8, .int la, .ref a9, .ref a10, .long uq, .long lq, .int wq, .long pq, .long dq, .ref a11])), (a1, .inl (cI, 16, .inl Fi)), (a2, .inl (cI, 16, .inl Ma)), (a5, .inl (cI, 576, .inl Sp))] H) (hD : va_D A [(h0, .inr (9, [.int th, .ref a1, .ref a2, .ref a3, .ref a4, .ref a5, .int ne, .int wi, .int dn, .ref a6, .ref a7, .int nn, .ref a8, .int la, .ref a9, .ref a10, .long uq, .long lq, .int wq, .long pq, .long dq, .ref a11])), (a1, .inl (cI, 16, .inl Fi)), (a2, .inl (cI, 16, .inl Ma)), (a5, .inl (cI, 576, .inl Sp))]) (hS : va_S A s.heap H locs) (ls : Array Slot) (hl : lv_has ls 16 [(0, .ref h0), (1, .int p1), (2, .int p2), (3, .int r_1), (4, .int kk)]), W p l e _ s m _ below meth c H locs 0 0 _ (F0 m 30 ls []) from ?_) _ r_2 0 1 (-1) pu pw (by omega) (by omega) (by omega) (by omega) (by omega) (by exact Or.inl ⟨rfl, by decide⟩) (Nat.lt_succ_self _) H _ hP hD hS ls (lv_sub hl [2, 3, 4, 1, 0] rfl)
  intro k
  induction k with
  | zero => intro kk uq lq wq pq dq hk0 hk1 hl8 hl9 hu8 hNS hk_30; exact absurd hk_30 (Nat.not_lt_zero _)
  | succ k ih_30 =>
    intro kk uq lq wq pq dq hk0 hk1 hl8 hl9 hu8 hNS hk_30 H locs hP hD hS ls hl
    refine lv_iload hx hb dX9_findLeast_30 (lv_at hl 4 rfl) ?_
    refine lv_iload_n hx hb dX9_findLeast_32 rfl (lv_at hl 3 rfl) ?_
    refine lv_icmp_gt (tgt := 184) hx hb dX9_findLeast_33 (by decide) (fun c_33 => ?_) (fun c_33 => ?_)
    · have t_33 := (fa_lt _ _).mp c_33
      have hP9 := hP.sub (ws' := [(h0, .inr (9, [.int th, .ref a1, .ref a2, .ref a3, .ref a4, .ref a5, .int ne, .int wi, .int dn, .ref a6, .ref a7, .int nn, .ref a8, .int la, .ref a9, .ref a10, .long uq, .long lq, .int wq, .long pq, .long dq, .ref a11])), (a1, .inl (cI, 16, .inl Fi)), (a2, .inl (cI, 16, .inl Ma)), (a5, .inl (cI, 576, .inl Sp))]) [0, 1, 2, 3] rfl
      have hD9 := hD.sub (ws' := [(h0, .inr (9, [.int th, .ref a1, .ref a2, .ref a3, .ref a4, .ref a5, .int ne, .int wi, .int dn, .ref a6, .ref a7, .int nn, .ref a8, .int la, .ref a9, .ref a10, .long uq, .long lq, .int wq, .long pq, .long dq, .ref a11])), (a1, .inl (cI, 16, .inl Fi)), (a2, .inl (cI, 16, .inl Ma)), (a5, .inl (cI, 576, .inl Sp))]) [0, 1, 2, 3] (by decide) rfl
      have hK9 := hK.sub (tys' := [(cI, .int)]) [0] rfl
      refine W.widen (k := 0) (n := 0) (by omega) (by omega) ?_
      exact W.vret hx hb hr (fun t ht hW => ⟨⟨(), rfl, trivial, r_2, r_1, uq, lq, wq, pq, dq, by rw [ht]; exact hP9, va_K.moved hW.alike hK9, hD9, hr_2, hr_1, (by have hO := (hNS.resolve_left (by omega)).2; rw [show (kk.toInt - r_2.toInt - 1).toNat = (r_1.toInt - r_2.toInt).toNat by omega] at hO; exact hO)⟩, hS.F ht⟩) hS.2.2 dX9_findLeast_184
    · have t_33 := mt (fa_lt _ _).mpr c_33
      have hOK := gw_ok (f1 := Fi p1.toNatClampNeg) (f2 := Fi p2.toNatClampNeg) (k := kk.toInt) (go := kk.toInt < r_1.toInt) hct hcu (by omega) (by omega) (by omega) (by omega) (fun z9_ => ⟨by omega, by omega⟩)
      refine lv_lconst (v := 0) hx hb dX9_findLeast_36 (by decide) ?_
      refine lv_lstore (lv' := [(5, .long 0), (0, .ref h0), (1, .int p1), (2, .int p2), (3, .int r_1), (4, .int kk)]) hx hb dX9_findLeast_37 hl (by decide) rfl (fun ls hl => ?_)
      refine lv_lconst (v := 0) hx hb dX9_findLeast_39 (by decide) ?_
      refine lv_lstore (lv' := [(7, .long 0), (5, .long 0), (0, .ref h0), (1, .int p1), (2, .int p2), (3, .int r_1), (4, .int kk)]) hx hb dX9_findLeast_40 hl (by decide) rfl (fun ls hl => ?_)
      refine lv_lconst (v := 0) hx hb dX9_findLeast_42 (by decide) ?_
      refine lv_lstore (lv' := [(9, .long 0), (7, .long 0), (5, .long 0), (0, .ref h0), (1, .int p1), (2, .int p2), (3, .int r_1), (4, .int kk)]) hx hb dX9_findLeast_43 hl (by decide) rfl (fun ls hl => ?_)
      refine lv_iconst (v := 0) hx hb dX9_findLeast_45 (by decide) ?_
      refine lv_istore (lv' := [(11, .int 0), (9, .long 0), (7, .long 0), (5, .long 0), (0, .ref h0), (1, .int p1), (2, .int p2), (3, .int r_1), (4, .int kk)]) hx hb dX9_findLeast_46 hl (by decide) rfl (fun ls hl => ?_)
      refine (show ∀ (k : Nat) (z5 : Int64) (z7 : Int64) (z9 : Int64) (ax : Int32) (ha0 : 0 ≤ ax.toInt) (ha1 : ax.toInt ≤ 3) (hz5 : z5.toInt = acc (fun j => (gA (Fi p1.toNatClampNeg) (fun k => Sp (36 * p1.toNatClampNeg + k)) (Fi p2.toNatClampNeg) (fun k => Sp (36 * p2.toNatClampNeg + k)) kk.toInt) j * (gA (Fi p1.toNatClampNeg) (fun k => Sp (36 * p1.toNatClampNeg + k)) (Fi p2.toNatClampNeg) (fun k => Sp (36 * p2.toNatClampNeg + k)) kk.toInt) j) ax.toInt.toNat) (hz7 : z7.toInt = -(acc (fun j => (gA (Fi p1.toNatClampNeg) (fun k => Sp (36 * p1.toNatClampNeg + k)) (Fi p2.toNatClampNeg) (fun k => Sp (36 * p2.toNatClampNeg + k)) kk.toInt) j * (gB (Fi p1.toNatClampNeg) (fun k => Sp (36 * p1.toNatClampNeg + k)) (Fi p2.toNatClampNeg) (fun k => Sp (36 * p2.toNatClampNeg + k)) kk.toInt (kk.toInt < r_1.toInt)) j) ax.toInt.toNat)) (hz9 : z9.toInt = acc (fun j => (gB (Fi p1.toNatClampNeg) (fun k => Sp (36 * p1.toNatClampNeg + k)) (Fi p2.toNatClampNeg) (fun k => Sp (36 * p2.toNatClampNeg + k)) kk.toInt (kk.toInt < r_1.toInt)) j * (gB (Fi p1.toNatClampNeg) (fun k => Sp (36 * p1.toNatClampNeg + k)) (Fi p2.toNatClampNeg) (fun k => Sp (36 * p2.toNatClampNeg + k)) kk.toInt (kk.toInt < r_1.toInt)) j) ax.toInt.toNat) (hk_48 : (3 - ax.toInt).toNat < k) (H : Heap) (locs : List Loc) (hP : va_P (dC, dI) vwCl [(h0, .inr (9, [.int th, .ref a1, .ref a2, .ref a3, .ref a4, .ref a5, .int ne, .int wi, .int dn, .ref a6, .ref a7, .int nn, .ref a8, .int la, .ref a9, .ref a10, .long uq, .long lq, .int wq, .long pq, .long dq, .ref a11])), (a1, .inl (cI, 16, .inl Fi)), (a2, .inl (cI, 16, .inl Ma)), (a5, .inl (cI, 576, .inl Sp))] H) (hD : va_D A [(h0, .inr (9, [.int th, .ref a1, .ref a2, .ref a3, .ref a4, .ref a5, .int ne, .int wi, .int dn, .ref a6, .ref a7, .int nn, .ref a8, .int la, .ref a9, .ref a10, .long uq, .long lq, .int wq, .long pq, .long dq, .ref a11])), (a1, .inl (cI, 16, .inl Fi)), (a2, .inl (cI, 16, .inl Ma)), (a5, .inl (cI, 576, .inl Sp))]) (hS : va_S A s.heap H locs) (ls : Array Slot) (hl : lv_has ls 16 [(0, .ref h0), (1, .int p1), (2, .int p2), (3, .int r_1), (4, .int kk), (5, .long z5), (7, .long z7), (9, .long z9), (11, .int ax)]), W p l e _ s m _ below meth c H locs 0 0 _ (F0 m 48 ls []) from ?_) _ 0 0 0 0 (by omega) (by omega) (by rw [show (0 : Int32).toInt.toNat = 0 by omega]; exact klL_0) (by rw [show (0 : Int32).toInt.toNat = 0 by omega]; exact klL_0) (by rw [show (0 : Int32).toInt.toNat = 0 by omega]; exact klL_0) (Nat.lt_succ_self _) H _ hP hD hS ls (lv_sub hl [4, 5, 6, 7, 8, 3, 2, 1, 0] rfl)
      intro k
      induction k with
      | zero => intro z5 z7 z9 ax ha0 ha1 hz5 hz7 hz9 hk_48; exact absurd hk_48 (Nat.not_lt_zero _)
      | succ k ih_48 =>
        intro z5 z7 z9 ax ha0 ha1 hz5 hz7 hz9 hk_48 H locs hP hD hS ls hl
        refine lv_iload hx hb dX9_findLeast_48 (lv_at hl 8 rfl) ?_
        refine lv_iconst (v := 3) hx hb dX9_findLeast_50 (by decide) ?_
        refine lv_icmp_ge (tgt := 129) hx hb dX9_findLeast_51 (by decide) (fun c_51 => ?_) (fun c_51 => ?_)
        · have t_51 := (fa_le _ _).mp c_51
          have ax3 : ax.toInt.toNat = 3 := (by omega)
          rw [ax3] at hz5 hz7 hz9
          have bS := wS_bd hOK
          have bT := wT_bd hOK
          have bC := wC_bd hOK
          have eS : z5.toInt = wD (gA (Fi p1.toNatClampNeg) (fun k => Sp (36 * p1.toNatClampNeg + k)) (Fi p2.toNatClampNeg) (fun k => Sp (36 * p2.toNatClampNeg + k)) kk.toInt) (gA (Fi p1.toNatClampNeg) (fun k => Sp (36 * p1.toNatClampNeg + k)) (Fi p2.toNatClampNeg) (fun k => Sp (36 * p2.toNatClampNeg + k)) kk.toInt) := hz5
          have eT : z7.toInt = -wD (gA (Fi p1.toNatClampNeg) (fun k => Sp (36 * p1.toNatClampNeg + k)) (Fi p2.toNatClampNeg) (fun k => Sp (36 * p2.toNatClampNeg + k)) kk.toInt) (gB (Fi p1.toNatClampNeg) (fun k => Sp (36 * p1.toNatClampNeg + k)) (Fi p2.toNatClampNeg) (fun k => Sp (36 * p2.toNatClampNeg + k)) kk.toInt (kk.toInt < r_1.toInt)) := hz7
          have eC : z9.toInt = wD (gB (Fi p1.toNatClampNeg) (fun k => Sp (36 * p1.toNatClampNeg + k)) (Fi p2.toNatClampNeg) (fun k => Sp (36 * p2.toNatClampNeg + k)) kk.toInt (kk.toInt < r_1.toInt)) (gB (Fi p1.toNatClampNeg) (fun k => Sp (36 * p1.toNatClampNeg + k)) (Fi p2.toNatClampNeg) (fun k => Sp (36 * p2.toNatClampNeg + k)) kk.toInt (kk.toInt < r_1.toInt)) := hz9
          refine lv_aload_n hx hb dX9_findLeast_129 rfl (lv_at hl 0 rfl) ?_
          refine lv_lload hx hb dX9_findLeast_130 (lv_at hl 5 rfl) ?_
          refine lv_lconst (v := 1) hx hb dX9_findLeast_132 (by decide) ?_
          refine lv_iload hx hb dX9_findLeast_133 (lv_at hl 4 rfl) ?_
          refine lv_lconst (v := 0) hx hb dX9_findLeast_135 (by decide) ?_
          refine lv_lconst (v := 1) hx hb dX9_findLeast_136 (by decide) ?_
          have hPc := hP.sub (ws' := [(h0, .inr (9, [.int th, .ref a1, .ref a2, .ref a3, .ref a4, .ref a5, .int ne, .int wi, .int dn, .ref a6, .ref a7, .int nn, .ref a8, .int la, .ref a9, .ref a10, .long uq, .long lq, .int wq, .long pq, .long dq, .ref a11]))]) [0] rfl
          have hKc := hK.sub (tys' := []) [] rfl
          have hDc := hD.sub (ws' := [(h0, .inr (9, [.int th, .ref a1, .ref a2, .ref a3, .ref a4, .ref a5, .int ne, .int wi, .int dn, .ref a6, .ref a7, .int nn, .ref a8, .int la, .ref a9, .ref a10, .long uq, .long lq, .int wq, .long pq, .long dq, .ref a11]))]) [0] (by decide) rfl
          have hFc := va_free (wc := [(h0, .inr (9, [.int th, .ref a1, .ref a2, .ref a3, .ref a4, .ref a5, .int ne, .int wi, .int dn, .ref a6, .ref a7, .int nn, .ref a8, .int la, .ref a9, .ref a10, .long uq, .long lq, .int wq, .long pq, .long dq, .ref a11]))]) hD hS hA [0] rfl
          refine va_callv (va_runV (As := [.long z5, .long 1, .int kk, .long 0, .long 1]) (rest := []) ⟨hx, hb, hml, hown, hts⟩ (c_X9_tryOneE l dC dI h0 a1 a2 a3 a4 a5 a6 a7 a8 a9 a10 a11 th ne wi dn nn la wq uq lq pq dq z5 1 kk 0 1 H.size (by first | omega | assumption) (by first | omega | assumption) (by first | omega | assumption) (by first | omega | assumption) (by first | omega | assumption) (by first | omega | assumption)) (cwV 5 hts g_X9_findLeastE__X9_tryOneE_147 rfl rfl rfl (by decide +kernel) ⟨Nat.le_of_ble_eq_true rfl, Nat.le_of_ble_eq_true rfl⟩) ⟨fun a U g mk q => by obtain ⟨q0, q1, qP, qK, qD⟩ := q; exact ⟨q0, q1, qP, va_K.moved (u := U) (U := U.calling g mk a) (Vm.Alike.refl U.vm) qK, qD⟩, va_recv hKc hPc (ci := 9) (q0 := 0) rfl rfl, fun U hU hW => ⟨rfl, by rw [hU], by rw [hU]; exact hPc, va_K.moved hW.alike hKc, hDc.weaken (fun _ _ _ _ => trivial)⟩⟩ rfl rfl hl.1 rfl (lv_room (Nat.le_of_ble_eq_true rfl)) dX9_findLeast_137 ⟨Nat.le_of_ble_eq_true rfl, Nat.le_of_ble_eq_true rfl⟩) hS (fun q _ h => hFc q h) hFc (fun u_3 t H1 locs ht hvm hw_4 hB hz1 hk1 hS => ?_)
          obtain ⟨up9_5, lw9_6, wh9_7, pu9_8, pw9_9, hP1, hK1, hD1, htr_10⟩ := hB
          rw [ht] at hP1
          have hK1 := va_K.moved hvm.symm hK1
          obtain ⟨hP, hD⟩ := va_join (wr := [(a1, .inl (cI, 16, .inl Fi)), (a2, .inl (cI, 16, .inl Ma)), (a5, .inl (cI, 576, .inl Sp))]) (w1 := [(h0, .inr (9, [.int th, .ref a1, .ref a2, .ref a3, .ref a4, .ref a5, .int ne, .int wi, .int dn, .ref a6, .ref a7, .int nn, .ref a8, .int la, .ref a9, .ref a10, .long up9_5, .long lw9_6, .int wh9_7, .long pu9_8, .long pw9_9, .ref a11]))]) hP hD [0] [1, 2, 3] rfl rfl (by decide) (by decide) hk1 hFc hP1 hD1
          have hK := (hK.sub (tys' := [(cI, .int)]) [0] rfl).app hK1
          generalize H1 = H at hP hS ⊢
          have hP : va_P (dC, dI) vwCl [(a1, .inl (cI, 16, .inl Fi)), (a2, .inl (cI, 16, .inl Ma)), (a5, .inl (cI, 576, .inl Sp)), (h0, .inr (9, [.int th, .ref a1, .ref a2, .ref a3, .ref a4, .ref a5, .int ne, .int wi, .int dn, .ref a6, .ref a7, .int nn, .ref a8, .int la, .ref a9, .ref a10, .long up9_5, .long lw9_6, .int wh9_7, .long pu9_8, .long pw9_9, .ref a11]))] H := hP
          have hD : va_D A [(a1, .inl (cI, 16, .inl Fi)), (a2, .inl (cI, 16, .inl Ma)), (a5, .inl (cI, 576, .inl Sp)), (h0, .inr (9, [.int th, .ref a1, .ref a2, .ref a3, .ref a4, .ref a5, .int ne, .int wi, .int dn, .ref a6, .ref a7, .int nn, .ref a8, .int la, .ref a9, .ref a10, .long up9_5, .long lw9_6, .int wh9_7, .long pu9_8, .long pw9_9, .ref a11]))] := hD
          have hK : va_K (dC, dI) vwCl [(cI, .int)] s := hK
          refine W.widen (k := 0) (n := 0) (by omega) (by omega) ?_
          have T1 := tr_I htr_10
          rw [klL_1, klL_0] at T1
          have B1 : 0 < lw9_6.toInt ∧ lw9_6.toInt ≤ 1200000000 ∧ 0 ≤ up9_5.toInt := by rcases T1 with ⟨-, a1, a2, -⟩ | ⟨-, a1, a2, -⟩ <;> omega
          refine lv_lload hx hb dX9_findLeast_140 (lv_at hl 6 rfl) ?_
          refine lv_lconst (v := 0) hx hb dX9_findLeast_142 (by decide) ?_
          refine W.lcmp hx hb dX9_findLeast_143 ?_
          refine lv_if_le (tgt := 178) hx hb dX9_findLeast_144 (by decide) (fun c_144 => ?_) (fun c_144 => ?_)
          · have t_144 := (fa_le64 _ _).mp ((lg_cmp_le _ _).mp c_144)
            have hI9 : ¬ wIn (gA (Fi p1.toNatClampNeg) (fun k => Sp (36 * p1.toNatClampNeg + k)) (Fi p2.toNatClampNeg) (fun k => Sp (36 * p2.toNatClampNeg + k)) kk.toInt) (gB (Fi p1.toNatClampNeg) (fun k => Sp (36 * p1.toNatClampNeg + k)) (Fi p2.toNatClampNeg) (fun k => Sp (36 * p2.toNatClampNeg + k)) kk.toInt (kk.toInt < r_1.toInt)) := fun z9_ => by have z1 := z9_.1; have z2 := z9_.2; omega
            have n1 : (uK (Fi p1.toNatClampNeg) (fun k => Sp (36 * p1.toNatClampNeg + k)) (Fi p2.toNatClampNeg) (fun k => Sp (36 * p2.toNatClampNeg + k)) r_1.toInt) kk.toInt = z5.toInt := by show wU _ _ = _; unfold wU; rw [if_neg hI9, eS]
            have n2 : (lK (Fi p1.toNatClampNeg) (fun k => Sp (36 * p1.toNatClampNeg + k)) (Fi p2.toNatClampNeg) (fun k => Sp (36 * p2.toNatClampNeg + k)) r_1.toInt) kk.toInt = 1 := by show wL _ _ = _; unfold wL; rw [if_neg hI9]
            have n3 : (qK (Fi p1.toNatClampNeg) (fun k => Sp (36 * p1.toNatClampNeg + k)) (Fi p2.toNatClampNeg) (fun k => Sp (36 * p2.toNatClampNeg + k)) r_1.toInt) kk.toInt = 0 := by show wP _ _ = _; unfold wP; rw [if_neg hI9]
            have hN9 : msP (uK (Fi p1.toNatClampNeg) (fun k => Sp (36 * p1.toNatClampNeg + k)) (Fi p2.toNatClampNeg) (fun k => Sp (36 * p2.toNatClampNeg + k)) r_1.toInt) (lK (Fi p1.toNatClampNeg) (fun k => Sp (36 * p1.toNatClampNeg + k)) (Fi p2.toNatClampNeg) (fun k => Sp (36 * p2.toNatClampNeg + k)) r_1.toInt) (qK (Fi p1.toNatClampNeg) (fun k => Sp (36 * p1.toNatClampNeg + k)) (Fi p2.toNatClampNeg) (fun k => Sp (36 * p2.toNatClampNeg + k)) r_1.toInt) (kbF (uK (Fi p1.toNatClampNeg) (fun k => Sp (36 * p1.toNatClampNeg + k)) (Fi p2.toNatClampNeg) (fun k => Sp (36 * p2.toNatClampNeg + k)) r_1.toInt) (lK (Fi p1.toNatClampNeg) (fun k => Sp (36 * p1.toNatClampNeg + k)) (Fi p2.toNatClampNeg) (fun k => Sp (36 * p2.toNatClampNeg + k)) r_1.toInt) r_2.toInt (kk.toInt - r_2.toInt).toNat) up9_5.toInt lw9_6.toInt wh9_7.toInt pu9_8.toInt pw9_9.toInt := fl_no hNS (by omega) (by omega) n1 n2 n3 T1
            have hN8 : ∀ y9 : Int32, y9.toInt = kk.toInt + 1 → msP (uK (Fi p1.toNatClampNeg) (fun k => Sp (36 * p1.toNatClampNeg + k)) (Fi p2.toNatClampNeg) (fun k => Sp (36 * p2.toNatClampNeg + k)) r_1.toInt) (lK (Fi p1.toNatClampNeg) (fun k => Sp (36 * p1.toNatClampNeg + k)) (Fi p2.toNatClampNeg) (fun k => Sp (36 * p2.toNatClampNeg + k)) r_1.toInt) (qK (Fi p1.toNatClampNeg) (fun k => Sp (36 * p1.toNatClampNeg + k)) (Fi p2.toNatClampNeg) (fun k => Sp (36 * p2.toNatClampNeg + k)) r_1.toInt) (kbF (uK (Fi p1.toNatClampNeg) (fun k => Sp (36 * p1.toNatClampNeg + k)) (Fi p2.toNatClampNeg) (fun k => Sp (36 * p2.toNatClampNeg + k)) r_1.toInt) (lK (Fi p1.toNatClampNeg) (fun k => Sp (36 * p1.toNatClampNeg + k)) (Fi p2.toNatClampNeg) (fun k => Sp (36 * p2.toNatClampNeg + k)) r_1.toInt) r_2.toInt (y9.toInt - r_2.toInt - 1).toNat) up9_5.toInt lw9_6.toInt wh9_7.toInt pu9_8.toInt pw9_9.toInt := fun y9 hy9 => by rw [show (y9.toInt - r_2.toInt - 1).toNat = (kk.toInt - r_2.toInt).toNat by omega]; exact hN9
            have hM := hN9
            obtain ⟨kb, hkb⟩ : ∃ kb, kbF (uK (Fi p1.toNatClampNeg) (fun k => Sp (36 * p1.toNatClampNeg + k)) (Fi p2.toNatClampNeg) (fun k => Sp (36 * p2.toNatClampNeg + k)) r_1.toInt) (lK (Fi p1.toNatClampNeg) (fun k => Sp (36 * p1.toNatClampNeg + k)) (Fi p2.toNatClampNeg) (fun k => Sp (36 * p2.toNatClampNeg + k)) r_1.toInt) r_2.toInt (kk.toInt - r_2.toInt).toNat = kb := ⟨_, rfl⟩
            have hrg := kb_rg (uK (Fi p1.toNatClampNeg) (fun k => Sp (36 * p1.toNatClampNeg + k)) (Fi p2.toNatClampNeg) (fun k => Sp (36 * p2.toNatClampNeg + k)) r_1.toInt) (lK (Fi p1.toNatClampNeg) (fun k => Sp (36 * p1.toNatClampNeg + k)) (Fi p2.toNatClampNeg) (fun k => Sp (36 * p2.toNatClampNeg + k)) r_1.toInt) r_2.toInt (kk.toInt - r_2.toInt).toNat
            rw [hkb] at hM hrg
            obtain ⟨⟨w1, w2⟩, ⟨w3, w4⟩, -⟩ := K_bd (f1 := Fi p1.toNatClampNeg) (f2 := Fi p2.toNatClampNeg) (k := kb) (b := r_1.toInt) hct hcu (by omega) (by omega) (by omega) (by omega) (by omega)
            have bU : up9_5.toInt = (uK (Fi p1.toNatClampNeg) (fun k => Sp (36 * p1.toNatClampNeg + k)) (Fi p2.toNatClampNeg) (fun k => Sp (36 * p2.toNatClampNeg + k)) r_1.toInt) kb := hM.1
            have bL : lw9_6.toInt = (lK (Fi p1.toNatClampNeg) (fun k => Sp (36 * p1.toNatClampNeg + k)) (Fi p2.toNatClampNeg) (fun k => Sp (36 * p2.toNatClampNeg + k)) r_1.toInt) kb := hM.2.1
            obtain ⟨y_11, ey_11⟩ : ∃ y : Int32, y = kk + 1 := ⟨_, rfl⟩
            have ty_11 : y_11.toInt = kk.toInt + 1 := by rw [ey_11]; have := fb_addI (x := kk) (y := 1) (by omega) (by omega); omega
            refine lv_iinc (v := y_11) (lv' := [(4, .int y_11), (0, .ref h0), (1, .int p1), (2, .int p2), (3, .int r_1), (5, .long z5), (7, .long z7), (9, .long z9), (11, .int ax)]) hx hb dX9_findLeast_178 hl (k := 4) rfl (by rw [ey_11]; rfl) (by decide) rfl (fun ls hl => ?_)
            refine lv_goto (tgt := 30) hx hb dX9_findLeast_181 (by decide) ?_
            exact ih_30 y_11 up9_5 lw9_6 wh9_7 pu9_8 pw9_9 (by omega) (by omega) (by omega) (by omega) (by omega) (by exact Or.inr ⟨by omega, hN8 _ (by omega)⟩) (by omega) H _ (hP.sub [3, 0, 1, 2] rfl) (hD.sub [3, 0, 1, 2] (by decide) rfl) hS ls (lv_sub hl [1, 2, 3, 4, 0] rfl)
          · have t_144 := mt (fa_le64 _ _).mpr (mt (lg_cmp_le _ _).mpr c_144)
            refine lv_lload hx hb dX9_findLeast_147 (lv_at hl 6 rfl) ?_
            refine lv_lload hx hb dX9_findLeast_149 (lv_at hl 7 rfl) ?_
            refine W.lcmp hx hb dX9_findLeast_151 ?_
            refine lv_if_ge (tgt := 178) hx hb dX9_findLeast_152 (by decide) (fun c_152 => ?_) (fun c_152 => ?_)
            · have t_152 := (fa_le64 _ _).mp ((lg_cmp_ge _ _).mp c_152)
              have hI9 : ¬ wIn (gA (Fi p1.toNatClampNeg) (fun k => Sp (36 * p1.toNatClampNeg + k)) (Fi p2.toNatClampNeg) (fun k => Sp (36 * p2.toNatClampNeg + k)) kk.toInt) (gB (Fi p1.toNatClampNeg) (fun k => Sp (36 * p1.toNatClampNeg + k)) (Fi p2.toNatClampNeg) (fun k => Sp (36 * p2.toNatClampNeg + k)) kk.toInt (kk.toInt < r_1.toInt)) := fun z9_ => by have z1 := z9_.1; have z2 := z9_.2; omega
              have n1 : (uK (Fi p1.toNatClampNeg) (fun k => Sp (36 * p1.toNatClampNeg + k)) (Fi p2.toNatClampNeg) (fun k => Sp (36 * p2.toNatClampNeg + k)) r_1.toInt) kk.toInt = z5.toInt := by show wU _ _ = _; unfold wU; rw [if_neg hI9, eS]
              have n2 : (lK (Fi p1.toNatClampNeg) (fun k => Sp (36 * p1.toNatClampNeg + k)) (Fi p2.toNatClampNeg) (fun k => Sp (36 * p2.toNatClampNeg + k)) r_1.toInt) kk.toInt = 1 := by show wL _ _ = _; unfold wL; rw [if_neg hI9]
              have n3 : (qK (Fi p1.toNatClampNeg) (fun k => Sp (36 * p1.toNatClampNeg + k)) (Fi p2.toNatClampNeg) (fun k => Sp (36 * p2.toNatClampNeg + k)) r_1.toInt) kk.toInt = 0 := by show wP _ _ = _; unfold wP; rw [if_neg hI9]
              have hN9 : msP (uK (Fi p1.toNatClampNeg) (fun k => Sp (36 * p1.toNatClampNeg + k)) (Fi p2.toNatClampNeg) (fun k => Sp (36 * p2.toNatClampNeg + k)) r_1.toInt) (lK (Fi p1.toNatClampNeg) (fun k => Sp (36 * p1.toNatClampNeg + k)) (Fi p2.toNatClampNeg) (fun k => Sp (36 * p2.toNatClampNeg + k)) r_1.toInt) (qK (Fi p1.toNatClampNeg) (fun k => Sp (36 * p1.toNatClampNeg + k)) (Fi p2.toNatClampNeg) (fun k => Sp (36 * p2.toNatClampNeg + k)) r_1.toInt) (kbF (uK (Fi p1.toNatClampNeg) (fun k => Sp (36 * p1.toNatClampNeg + k)) (Fi p2.toNatClampNeg) (fun k => Sp (36 * p2.toNatClampNeg + k)) r_1.toInt) (lK (Fi p1.toNatClampNeg) (fun k => Sp (36 * p1.toNatClampNeg + k)) (Fi p2.toNatClampNeg) (fun k => Sp (36 * p2.toNatClampNeg + k)) r_1.toInt) r_2.toInt (kk.toInt - r_2.toInt).toNat) up9_5.toInt lw9_6.toInt wh9_7.toInt pu9_8.toInt pw9_9.toInt := fl_no hNS (by omega) (by omega) n1 n2 n3 T1
              have hN8 : ∀ y9 : Int32, y9.toInt = kk.toInt + 1 → msP (uK (Fi p1.toNatClampNeg) (fun k => Sp (36 * p1.toNatClampNeg + k)) (Fi p2.toNatClampNeg) (fun k => Sp (36 * p2.toNatClampNeg + k)) r_1.toInt) (lK (Fi p1.toNatClampNeg) (fun k => Sp (36 * p1.toNatClampNeg + k)) (Fi p2.toNatClampNeg) (fun k => Sp (36 * p2.toNatClampNeg + k)) r_1.toInt) (qK (Fi p1.toNatClampNeg) (fun k => Sp (36 * p1.toNatClampNeg + k)) (Fi p2.toNatClampNeg) (fun k => Sp (36 * p2.toNatClampNeg + k)) r_1.toInt) (kbF (uK (Fi p1.toNatClampNeg) (fun k => Sp (36 * p1.toNatClampNeg + k)) (Fi p2.toNatClampNeg) (fun k => Sp (36 * p2.toNatClampNeg + k)) r_1.toInt) (lK (Fi p1.toNatClampNeg) (fun k => Sp (36 * p1.toNatClampNeg + k)) (Fi p2.toNatClampNeg) (fun k => Sp (36 * p2.toNatClampNeg + k)) r_1.toInt) r_2.toInt (y9.toInt - r_2.toInt - 1).toNat) up9_5.toInt lw9_6.toInt wh9_7.toInt pu9_8.toInt pw9_9.toInt := fun y9 hy9 => by rw [show (y9.toInt - r_2.toInt - 1).toNat = (kk.toInt - r_2.toInt).toNat by omega]; exact hN9
              have hM := hN9
              obtain ⟨kb, hkb⟩ : ∃ kb, kbF (uK (Fi p1.toNatClampNeg) (fun k => Sp (36 * p1.toNatClampNeg + k)) (Fi p2.toNatClampNeg) (fun k => Sp (36 * p2.toNatClampNeg + k)) r_1.toInt) (lK (Fi p1.toNatClampNeg) (fun k => Sp (36 * p1.toNatClampNeg + k)) (Fi p2.toNatClampNeg) (fun k => Sp (36 * p2.toNatClampNeg + k)) r_1.toInt) r_2.toInt (kk.toInt - r_2.toInt).toNat = kb := ⟨_, rfl⟩
              have hrg := kb_rg (uK (Fi p1.toNatClampNeg) (fun k => Sp (36 * p1.toNatClampNeg + k)) (Fi p2.toNatClampNeg) (fun k => Sp (36 * p2.toNatClampNeg + k)) r_1.toInt) (lK (Fi p1.toNatClampNeg) (fun k => Sp (36 * p1.toNatClampNeg + k)) (Fi p2.toNatClampNeg) (fun k => Sp (36 * p2.toNatClampNeg + k)) r_1.toInt) r_2.toInt (kk.toInt - r_2.toInt).toNat
              rw [hkb] at hM hrg
              obtain ⟨⟨w1, w2⟩, ⟨w3, w4⟩, -⟩ := K_bd (f1 := Fi p1.toNatClampNeg) (f2 := Fi p2.toNatClampNeg) (k := kb) (b := r_1.toInt) hct hcu (by omega) (by omega) (by omega) (by omega) (by omega)
              have bU : up9_5.toInt = (uK (Fi p1.toNatClampNeg) (fun k => Sp (36 * p1.toNatClampNeg + k)) (Fi p2.toNatClampNeg) (fun k => Sp (36 * p2.toNatClampNeg + k)) r_1.toInt) kb := hM.1
              have bL : lw9_6.toInt = (lK (Fi p1.toNatClampNeg) (fun k => Sp (36 * p1.toNatClampNeg + k)) (Fi p2.toNatClampNeg) (fun k => Sp (36 * p2.toNatClampNeg + k)) r_1.toInt) kb := hM.2.1
              obtain ⟨y_12, ey_12⟩ : ∃ y : Int32, y = kk + 1 := ⟨_, rfl⟩
              have ty_12 : y_12.toInt = kk.toInt + 1 := by rw [ey_12]; have := fb_addI (x := kk) (y := 1) (by omega) (by omega); omega
              refine lv_iinc (v := y_12) (lv' := [(4, .int y_12), (0, .ref h0), (1, .int p1), (2, .int p2), (3, .int r_1), (5, .long z5), (7, .long z7), (9, .long z9), (11, .int ax)]) hx hb dX9_findLeast_178 hl (k := 4) rfl (by rw [ey_12]; rfl) (by decide) rfl (fun ls hl => ?_)
              refine lv_goto (tgt := 30) hx hb dX9_findLeast_181 (by decide) ?_
              exact ih_30 y_12 up9_5 lw9_6 wh9_7 pu9_8 pw9_9 (by omega) (by omega) (by omega) (by omega) (by omega) (by exact Or.inr ⟨by omega, hN8 _ (by omega)⟩) (by omega) H _ (hP.sub [3, 0, 1, 2] rfl) (hD.sub [3, 0, 1, 2] (by decide) rfl) hS ls (lv_sub hl [1, 2, 3, 4, 0] rfl)
            · have t_152 := mt (fa_le64 _ _).mpr (mt (lg_cmp_ge _ _).mpr c_152)
              refine lv_aload_n hx hb dX9_findLeast_155 rfl (lv_at hl 0 rfl) ?_
              refine lv_lload hx hb dX9_findLeast_156 (lv_at hl 5 rfl) ?_
              refine lv_lload hx hb dX9_findLeast_158 (lv_at hl 7 rfl) ?_
              refine lv_lmul hx hb dX9_findLeast_160 ?_
              refine lv_topl (fun y_13 ey_13 => ?_)
              refine lv_lload hx hb dX9_findLeast_161 (lv_at hl 6 rfl) ?_
              refine lv_lload hx hb dX9_findLeast_163 (lv_at hl 6 rfl) ?_
              refine lv_lmul hx hb dX9_findLeast_165 ?_
              refine lv_topl (fun y_14 ey_14 => ?_)
              have m4 := lm_ab 300000000 1200000000 ey_13 (by omega) (by omega) (by omega) (by omega) (by decide)
              have m5 := lm_ab 600000000 600000000 ey_14 (by omega) (by omega) (by omega) (by omega) (by decide)
              have m4b := mul_bd (x := z5.toInt) (y := z9.toInt) (a := 300000000) (b := 1200000000) (by omega) (by omega) (by omega) (by omega)
              have m5b := mul_bd (x := z7.toInt) (y := z7.toInt) (a := 600000000) (b := 600000000) (by omega) (by omega) (by omega) (by omega)
              refine lv_lsub hx hb dX9_findLeast_166 ?_
              refine lv_topl (fun y_15 ey_15 => ?_)
              have ty_15 : y_15.toInt = y_13.toInt - y_14.toInt := by rw [ey_15]; have := fb_subL (x := y_13) (y := y_14) (by omega) (by omega); omega
              have hX9 : y_15.toInt = z5.toInt * z9.toInt - wD (gA (Fi p1.toNatClampNeg) (fun k => Sp (36 * p1.toNatClampNeg + k)) (Fi p2.toNatClampNeg) (fun k => Sp (36 * p2.toNatClampNeg + k)) kk.toInt) (gB (Fi p1.toNatClampNeg) (fun k => Sp (36 * p1.toNatClampNeg + k)) (Fi p2.toNatClampNeg) (fun k => Sp (36 * p2.toNatClampNeg + k)) kk.toInt (kk.toInt < r_1.toInt)) * wD (gA (Fi p1.toNatClampNeg) (fun k => Sp (36 * p1.toNatClampNeg + k)) (Fi p2.toNatClampNeg) (fun k => Sp (36 * p2.toNatClampNeg + k)) kk.toInt) (gB (Fi p1.toNatClampNeg) (fun k => Sp (36 * p1.toNatClampNeg + k)) (Fi p2.toNatClampNeg) (fun k => Sp (36 * p2.toNatClampNeg + k)) kk.toInt (kk.toInt < r_1.toInt)) := by rw [ty_15, m4, m5, eT, Int.neg_mul_neg]
              have cs := wD_cs (gA (Fi p1.toNatClampNeg) (fun k => Sp (36 * p1.toNatClampNeg + k)) (Fi p2.toNatClampNeg) (fun k => Sp (36 * p2.toNatClampNeg + k)) kk.toInt) (gB (Fi p1.toNatClampNeg) (fun k => Sp (36 * p1.toNatClampNeg + k)) (Fi p2.toNatClampNeg) (fun k => Sp (36 * p2.toNatClampNeg + k)) kk.toInt (kk.toInt < r_1.toInt))
              have hX0 : 0 ≤ y_15.toInt := by rw [hX9, eS, eC]; exact cs
              refine lv_lload hx hb dX9_findLeast_167 (lv_at hl 7 rfl) ?_
              refine lv_iload hx hb dX9_findLeast_169 (lv_at hl 4 rfl) ?_
              refine lv_lload hx hb dX9_findLeast_171 (lv_at hl 6 rfl) ?_
              refine lv_lload hx hb dX9_findLeast_173 (lv_at hl 7 rfl) ?_
              have hPc := hP.sub (ws' := [(h0, .inr (9, [.int th, .ref a1, .ref a2, .ref a3, .ref a4, .ref a5, .int ne, .int wi, .int dn, .ref a6, .ref a7, .int nn, .ref a8, .int la, .ref a9, .ref a10, .long up9_5, .long lw9_6, .int wh9_7, .long pu9_8, .long pw9_9, .ref a11]))]) [3] rfl
              have hKc := hK.sub (tys' := []) [] rfl
              have hDc := hD.sub (ws' := [(h0, .inr (9, [.int th, .ref a1, .ref a2, .ref a3, .ref a4, .ref a5, .int ne, .int wi, .int dn, .ref a6, .ref a7, .int nn, .ref a8, .int la, .ref a9, .ref a10, .long up9_5, .long lw9_6, .int wh9_7, .long pu9_8, .long pw9_9, .ref a11]))]) [3] (by decide) rfl
              have hFc := va_free (wc := [(h0, .inr (9, [.int th, .ref a1, .ref a2, .ref a3, .ref a4, .ref a5, .int ne, .int wi, .int dn, .ref a6, .ref a7, .int nn, .ref a8, .int la, .ref a9, .ref a10, .long up9_5, .long lw9_6, .int wh9_7, .long pu9_8, .long pw9_9, .ref a11]))]) hD hS hA [3] rfl
              refine va_callv (va_runV (As := [.long y_15, .long z9, .int kk, .long z7, .long z9]) (rest := []) ⟨hx, hb, hml, hown, hts⟩ (c_X9_tryOneE l dC dI h0 a1 a2 a3 a4 a5 a6 a7 a8 a9 a10 a11 th ne wi dn nn la wh9_7 up9_5 lw9_6 pu9_8 pw9_9 y_15 z9 kk z7 z9 H.size (by first | omega | assumption) (by first | omega | assumption) (by first | omega | assumption) (by first | omega | assumption) (by first | omega | assumption) (by first | omega | assumption)) (cwV 5 hts g_X9_findLeastE__X9_tryOneE_147 rfl rfl rfl (by decide +kernel) ⟨Nat.le_of_ble_eq_true rfl, Nat.le_of_ble_eq_true rfl⟩) ⟨fun a U g mk q => by obtain ⟨q0, q1, qP, qK, qD⟩ := q; exact ⟨q0, q1, qP, va_K.moved (u := U) (U := U.calling g mk a) (Vm.Alike.refl U.vm) qK, qD⟩, va_recv hKc hPc (ci := 9) (q0 := 0) rfl rfl, fun U hU hW => ⟨rfl, by rw [hU], by rw [hU]; exact hPc, va_K.moved hW.alike hKc, hDc.weaken (fun _ _ _ _ => trivial)⟩⟩ rfl rfl hl.1 rfl (lv_room (Nat.le_of_ble_eq_true rfl)) dX9_findLeast_175 ⟨Nat.le_of_ble_eq_true rfl, Nat.le_of_ble_eq_true rfl⟩) hS (fun q _ h => hFc q h) hFc (fun u_16 t H1 locs ht hvm hw_17 hB hz1 hk1 hS => ?_)
              obtain ⟨up9_18, lw9_19, wh9_20, pu9_21, pw9_22, hP1, hK1, hD1, htr_23⟩ := hB
              rw [ht] at hP1
              have hK1 := va_K.moved hvm.symm hK1
              obtain ⟨hP, hD⟩ := va_join (wr := [(a1, .inl (cI, 16, .inl Fi)), (a2, .inl (cI, 16, .inl Ma)), (a5, .inl (cI, 576, .inl Sp))]) (w1 := [(h0, .inr (9, [.int th, .ref a1, .ref a2, .ref a3, .ref a4, .ref a5, .int ne, .int wi, .int dn, .ref a6, .ref a7, .int nn, .ref a8, .int la, .ref a9, .ref a10, .long up9_18, .long lw9_19, .int wh9_20, .long pu9_21, .long pw9_22, .ref a11]))]) hP hD [3] [0, 1, 2] rfl rfl (by decide) (by decide) hk1 hFc hP1 hD1
              have hK := (hK.sub (tys' := [(cI, .int)]) [0] rfl).app hK1
              generalize H1 = H at hP hS ⊢
              have hP : va_P (dC, dI) vwCl [(a1, .inl (cI, 16, .inl Fi)), (a2, .inl (cI, 16, .inl Ma)), (a5, .inl (cI, 576, .inl Sp)), (h0, .inr (9, [.int th, .ref a1, .ref a2, .ref a3, .ref a4, .ref a5, .int ne, .int wi, .int dn, .ref a6, .ref a7, .int nn, .ref a8, .int la, .ref a9, .ref a10, .long up9_18, .long lw9_19, .int wh9_20, .long pu9_21, .long pw9_22, .ref a11]))] H := hP
              have hD : va_D A [(a1, .inl (cI, 16, .inl Fi)), (a2, .inl (cI, 16, .inl Ma)), (a5, .inl (cI, 576, .inl Sp)), (h0, .inr (9, [.int th, .ref a1, .ref a2, .ref a3, .ref a4, .ref a5, .int ne, .int wi, .int dn, .ref a6, .ref a7, .int nn, .ref a8, .int la, .ref a9, .ref a10, .long up9_18, .long lw9_19, .int wh9_20, .long pu9_21, .long pw9_22, .ref a11]))] := hD
              have hK : va_K (dC, dI) vwCl [(cI, .int)] s := hK
              refine W.widen (k := 0) (n := 0) (by omega) (by omega) ?_
              have hI9 : wIn (gA (Fi p1.toNatClampNeg) (fun k => Sp (36 * p1.toNatClampNeg + k)) (Fi p2.toNatClampNeg) (fun k => Sp (36 * p2.toNatClampNeg + k)) kk.toInt) (gB (Fi p1.toNatClampNeg) (fun k => Sp (36 * p1.toNatClampNeg + k)) (Fi p2.toNatClampNeg) (fun k => Sp (36 * p2.toNatClampNeg + k)) kk.toInt (kk.toInt < r_1.toInt)) := ⟨by omega, by omega⟩
              have n1 : (uK (Fi p1.toNatClampNeg) (fun k => Sp (36 * p1.toNatClampNeg + k)) (Fi p2.toNatClampNeg) (fun k => Sp (36 * p2.toNatClampNeg + k)) r_1.toInt) kk.toInt = z5.toInt * z9.toInt - wD (gA (Fi p1.toNatClampNeg) (fun k => Sp (36 * p1.toNatClampNeg + k)) (Fi p2.toNatClampNeg) (fun k => Sp (36 * p2.toNatClampNeg + k)) kk.toInt) (gB (Fi p1.toNatClampNeg) (fun k => Sp (36 * p1.toNatClampNeg + k)) (Fi p2.toNatClampNeg) (fun k => Sp (36 * p2.toNatClampNeg + k)) kk.toInt (kk.toInt < r_1.toInt)) * wD (gA (Fi p1.toNatClampNeg) (fun k => Sp (36 * p1.toNatClampNeg + k)) (Fi p2.toNatClampNeg) (fun k => Sp (36 * p2.toNatClampNeg + k)) kk.toInt) (gB (Fi p1.toNatClampNeg) (fun k => Sp (36 * p1.toNatClampNeg + k)) (Fi p2.toNatClampNeg) (fun k => Sp (36 * p2.toNatClampNeg + k)) kk.toInt (kk.toInt < r_1.toInt)) := by show wU _ _ = _; unfold wU; rw [if_pos hI9, eS, eC]
              have n2 : (lK (Fi p1.toNatClampNeg) (fun k => Sp (36 * p1.toNatClampNeg + k)) (Fi p2.toNatClampNeg) (fun k => Sp (36 * p2.toNatClampNeg + k)) r_1.toInt) kk.toInt = z9.toInt := by show wL _ _ = _; unfold wL; rw [if_pos hI9, eC]
              have n3 : (qK (Fi p1.toNatClampNeg) (fun k => Sp (36 * p1.toNatClampNeg + k)) (Fi p2.toNatClampNeg) (fun k => Sp (36 * p2.toNatClampNeg + k)) r_1.toInt) kk.toInt = -wD (gA (Fi p1.toNatClampNeg) (fun k => Sp (36 * p1.toNatClampNeg + k)) (Fi p2.toNatClampNeg) (fun k => Sp (36 * p2.toNatClampNeg + k)) kk.toInt) (gB (Fi p1.toNatClampNeg) (fun k => Sp (36 * p1.toNatClampNeg + k)) (Fi p2.toNatClampNeg) (fun k => Sp (36 * p2.toNatClampNeg + k)) kk.toInt (kk.toInt < r_1.toInt)) := by show wP _ _ = _; unfold wP; rw [if_pos hI9]
              have T2 := tr_I htr_23
              rw [hX9, eT] at T2
              have hN9 : msP (uK (Fi p1.toNatClampNeg) (fun k => Sp (36 * p1.toNatClampNeg + k)) (Fi p2.toNatClampNeg) (fun k => Sp (36 * p2.toNatClampNeg + k)) r_1.toInt) (lK (Fi p1.toNatClampNeg) (fun k => Sp (36 * p1.toNatClampNeg + k)) (Fi p2.toNatClampNeg) (fun k => Sp (36 * p2.toNatClampNeg + k)) r_1.toInt) (qK (Fi p1.toNatClampNeg) (fun k => Sp (36 * p1.toNatClampNeg + k)) (Fi p2.toNatClampNeg) (fun k => Sp (36 * p2.toNatClampNeg + k)) r_1.toInt) (kbF (uK (Fi p1.toNatClampNeg) (fun k => Sp (36 * p1.toNatClampNeg + k)) (Fi p2.toNatClampNeg) (fun k => Sp (36 * p2.toNatClampNeg + k)) r_1.toInt) (lK (Fi p1.toNatClampNeg) (fun k => Sp (36 * p1.toNatClampNeg + k)) (Fi p2.toNatClampNeg) (fun k => Sp (36 * p2.toNatClampNeg + k)) r_1.toInt) r_2.toInt (kk.toInt - r_2.toInt).toNat) up9_18.toInt lw9_19.toInt wh9_20.toInt pu9_21.toInt pw9_22.toInt := fl_in hNS (by omega) (by omega) (by omega) (by omega) (by omega) (by omega) n1 n2 n3 T1 T2
              have hN8 : ∀ y9 : Int32, y9.toInt = kk.toInt + 1 → msP (uK (Fi p1.toNatClampNeg) (fun k => Sp (36 * p1.toNatClampNeg + k)) (Fi p2.toNatClampNeg) (fun k => Sp (36 * p2.toNatClampNeg + k)) r_1.toInt) (lK (Fi p1.toNatClampNeg) (fun k => Sp (36 * p1.toNatClampNeg + k)) (Fi p2.toNatClampNeg) (fun k => Sp (36 * p2.toNatClampNeg + k)) r_1.toInt) (qK (Fi p1.toNatClampNeg) (fun k => Sp (36 * p1.toNatClampNeg + k)) (Fi p2.toNatClampNeg) (fun k => Sp (36 * p2.toNatClampNeg + k)) r_1.toInt) (kbF (uK (Fi p1.toNatClampNeg) (fun k => Sp (36 * p1.toNatClampNeg + k)) (Fi p2.toNatClampNeg) (fun k => Sp (36 * p2.toNatClampNeg + k)) r_1.toInt) (lK (Fi p1.toNatClampNeg) (fun k => Sp (36 * p1.toNatClampNeg + k)) (Fi p2.toNatClampNeg) (fun k => Sp (36 * p2.toNatClampNeg + k)) r_1.toInt) r_2.toInt (y9.toInt - r_2.toInt - 1).toNat) up9_18.toInt lw9_19.toInt wh9_20.toInt pu9_21.toInt pw9_22.toInt := fun y9 hy9 => by rw [show (y9.toInt - r_2.toInt - 1).toNat = (kk.toInt - r_2.toInt).toNat by omega]; exact hN9
              have hM := hN9
              obtain ⟨kb, hkb⟩ : ∃ kb, kbF (uK (Fi p1.toNatClampNeg) (fun k => Sp (36 * p1.toNatClampNeg + k)) (Fi p2.toNatClampNeg) (fun k => Sp (36 * p2.toNatClampNeg + k)) r_1.toInt) (lK (Fi p1.toNatClampNeg) (fun k => Sp (36 * p1.toNatClampNeg + k)) (Fi p2.toNatClampNeg) (fun k => Sp (36 * p2.toNatClampNeg + k)) r_1.toInt) r_2.toInt (kk.toInt - r_2.toInt).toNat = kb := ⟨_, rfl⟩
              have hrg := kb_rg (uK (Fi p1.toNatClampNeg) (fun k => Sp (36 * p1.toNatClampNeg + k)) (Fi p2.toNatClampNeg) (fun k => Sp (36 * p2.toNatClampNeg + k)) r_1.toInt) (lK (Fi p1.toNatClampNeg) (fun k => Sp (36 * p1.toNatClampNeg + k)) (Fi p2.toNatClampNeg) (fun k => Sp (36 * p2.toNatClampNeg + k)) r_1.toInt) r_2.toInt (kk.toInt - r_2.toInt).toNat
              rw [hkb] at hM hrg
              obtain ⟨⟨w1, w2⟩, ⟨w3, w4⟩, -⟩ := K_bd (f1 := Fi p1.toNatClampNeg) (f2 := Fi p2.toNatClampNeg) (k := kb) (b := r_1.toInt) hct hcu (by omega) (by omega) (by omega) (by omega) (by omega)
              have bU : up9_18.toInt = (uK (Fi p1.toNatClampNeg) (fun k => Sp (36 * p1.toNatClampNeg + k)) (Fi p2.toNatClampNeg) (fun k => Sp (36 * p2.toNatClampNeg + k)) r_1.toInt) kb := hM.1
              have bL : lw9_19.toInt = (lK (Fi p1.toNatClampNeg) (fun k => Sp (36 * p1.toNatClampNeg + k)) (Fi p2.toNatClampNeg) (fun k => Sp (36 * p2.toNatClampNeg + k)) r_1.toInt) kb := hM.2.1
              obtain ⟨y_24, ey_24⟩ : ∃ y : Int32, y = kk + 1 := ⟨_, rfl⟩
              have ty_24 : y_24.toInt = kk.toInt + 1 := by rw [ey_24]; have := fb_addI (x := kk) (y := 1) (by omega) (by omega); omega
              refine lv_iinc (v := y_24) (lv' := [(4, .int y_24), (0, .ref h0), (1, .int p1), (2, .int p2), (3, .int r_1), (5, .long z5), (7, .long z7), (9, .long z9), (11, .int ax)]) hx hb dX9_findLeast_178 hl (k := 4) rfl (by rw [ey_24]; rfl) (by decide) rfl (fun ls hl => ?_)
              refine lv_goto (tgt := 30) hx hb dX9_findLeast_181 (by decide) ?_
              exact ih_30 y_24 up9_18 lw9_19 wh9_20 pu9_21 pw9_22 (by omega) (by omega) (by omega) (by omega) (by omega) (by exact Or.inr ⟨by omega, hN8 _ (by omega)⟩) (by omega) H _ (hP.sub [3, 0, 1, 2] rfl) (hD.sub [3, 0, 1, 2] (by decide) rfl) hS ls (lv_sub hl [1, 2, 3, 4, 0] rfl)
        · have t_51 := mt (fa_le _ _).mpr c_51
          have hax : ((ax.toInt.toNat : Nat) : Int) = ax.toInt := (by omega)
          obtain ⟨⟨ga1, ga2⟩, gb1, gb2⟩ := hOK ax.toInt (by omega) (by omega)
          refine lv_aload_n hx hb dX9_findLeast_54 rfl (lv_at hl 0 rfl) ?_
          refine lv_iload_n hx hb dX9_findLeast_55 rfl (lv_at hl 1 rfl) ?_
          refine lv_iload_n hx hb dX9_findLeast_56 rfl (lv_at hl 2 rfl) ?_
          refine lv_iload hx hb dX9_findLeast_57 (lv_at hl 4 rfl) ?_
          refine lv_iload hx hb dX9_findLeast_59 (lv_at hl 8 rfl) ?_
          have hPc := hP.sub (ws' := [(h0, .inr (9, [.int th, .ref a1, .ref a2, .ref a3, .ref a4, .ref a5, .int ne, .int wi, .int dn, .ref a6, .ref a7, .int nn, .ref a8, .int la, .ref a9, .ref a10, .long uq, .long lq, .int wq, .long pq, .long dq, .ref a11])), (a1, .inl (cI, 16, .inl Fi)), (a2, .inl (cI, 16, .inl Ma)), (a5, .inl (cI, 576, .inl Sp))]) [0, 1, 2, 3] rfl
          have hKc := hK.sub (tys' := [(cI, .int)]) [0] rfl
          refine vp_callSl (W.runV (As := [.int p1, .int p2, .int kk, .int ax]) (rest := []) ⟨hx, hb, hml, hown, hts⟩ (c_X9_apartE l dC dI h0 a1 a2 a3 a4 a5 a6 a7 a8 a9 a10 a11 th ne wi dn nn la wq uq lq pq dq cI Fi Ma Sp p1 p2 kk ax (by first | assumption | omega) (by first | omega | assumption) (by first | omega | assumption) (by first | omega | assumption) (by first | omega | assumption) (by first | omega | assumption) (by first | omega | assumption) (by first | omega | assumption) (by first | omega | assumption) (by first | omega | assumption) (by first | omega | assumption) (by first | assumption | omega) (by first | assumption | omega)) (cwV 4 hts g_X9_findLeastE__X9_apartE_143 rfl rfl rfl (by decide +kernel) ⟨Nat.le_of_ble_eq_true rfl, Nat.le_of_ble_eq_true rfl⟩) ⟨fun a U g mk q => by obtain ⟨q0, qP, qK⟩ := q; exact ⟨q0, qP, va_K.moved (u := U) (U := U.calling g mk a) (Vm.Alike.refl U.vm) qK⟩, va_recv hKc hPc (ci := 9) (q0 := 0) rfl rfl, fun U hU hW => ⟨rfl, by rw [hU]; exact hPc, va_K.moved hW.alike hKc⟩⟩ rfl rfl hl.1 rfl (lv_room (Nat.le_of_ble_eq_true rfl)) dX9_findLeast_61 ⟨Nat.le_of_ble_eq_true rfl, Nat.le_of_ble_eq_true rfl⟩) (fun r_25 hr_25 => ?_)
          try dsimp only at hr_25
          have hgp : r_25.toInt = (gA (Fi p1.toNatClampNeg) (fun k => Sp (36 * p1.toNatClampNeg + k)) (Fi p2.toNatClampNeg) (fun k => Sp (36 * p2.toNatClampNeg + k)) kk.toInt) ax.toInt := hr_25
          refine lv_lstore (lv' := [(12, .long r_25), (0, .ref h0), (1, .int p1), (2, .int p2), (3, .int r_1), (4, .int kk), (5, .long z5), (7, .long z7), (9, .long z9), (11, .int ax)]) hx hb dX9_findLeast_64 hl (by decide) rfl (fun ls hl => ?_)
          refine lv_iload hx hb dX9_findLeast_66 (lv_at hl 5 rfl) ?_
          refine lv_iload_n hx hb dX9_findLeast_68 rfl (lv_at hl 4 rfl) ?_
          refine lv_icmp_ge (tgt := 90) hx hb dX9_findLeast_69 (by decide) (fun c_69 => ?_) (fun c_69 => ?_)
          · have t_69 := (fa_le _ _).mp c_69
            refine lv_lconst (v := 0) hx hb dX9_findLeast_90 (by decide) ?_
            have hsh : (0 : Int64).toInt = (gB (Fi p1.toNatClampNeg) (fun k => Sp (36 * p1.toNatClampNeg + k)) (Fi p2.toNatClampNeg) (fun k => Sp (36 * p2.toNatClampNeg + k)) kk.toInt (kk.toInt < r_1.toInt)) ax.toInt := by rw [klL_0]; show _ = (if kk.toInt < r_1.toInt then _ else (0 : Int)); rw [if_neg (by omega)]
            refine lv_lstore (lv' := [(14, .long 0), (12, .long r_25), (0, .ref h0), (1, .int p1), (2, .int p2), (3, .int r_1), (4, .int kk), (5, .long z5), (7, .long z7), (9, .long z9), (11, .int ax)]) hx hb dX9_findLeast_91 hl (by decide) rfl (fun ls hl => ?_)
            refine lv_lload hx hb dX9_findLeast_93 (lv_at hl 7 rfl) ?_
            refine lv_lload hx hb dX9_findLeast_95 (lv_at hl 1 rfl) ?_
            refine lv_lload hx hb dX9_findLeast_97 (lv_at hl 1 rfl) ?_
            refine lv_lmul hx hb dX9_findLeast_99 ?_
            refine lv_topl (fun y_26 ey_26 => ?_)
            have m1 := lm_ab 10000 10000 ey_26 (by omega) (by omega) (by omega) (by omega) (by decide)
            have m1b := mul_bd (x := (r_25).toInt) (y := (r_25).toInt) (a := 10000) (b := 10000) (by omega) (by omega) (by omega) (by omega)
            obtain ⟨n1_, n2_⟩ := acc_bd (F := fun j => (gA (Fi p1.toNatClampNeg) (fun k => Sp (36 * p1.toNatClampNeg + k)) (Fi p2.toNatClampNeg) (fun k => Sp (36 * p2.toNatClampNeg + k)) kk.toInt) j * (gA (Fi p1.toNatClampNeg) (fun k => Sp (36 * p1.toNatClampNeg + k)) (Fi p2.toNatClampNeg) (fun k => Sp (36 * p2.toNatClampNeg + k)) kk.toInt) j) (B := 100000000) (fun j j0 j3 => by have z := (hOK j j0 j3).1; have z9_ := mul_bd z.1 z.2 z.1 z.2; exact ⟨by omega, by omega⟩) ax.toInt.toNat (by omega)
            refine lv_ladd hx hb dX9_findLeast_100 ?_
            refine lv_topl (fun y_27 ey_27 => ?_)
            have ty_27 : y_27.toInt = z5.toInt + y_26.toInt := by rw [ey_27]; have := fb_addL (x := z5) (y := y_26) (by omega) (by omega); omega
            refine lv_lstore (lv' := [(5, .long y_27), (14, .long 0), (12, .long r_25), (0, .ref h0), (1, .int p1), (2, .int p2), (3, .int r_1), (4, .int kk), (7, .long z7), (9, .long z9), (11, .int ax)]) hx hb dX9_findLeast_101 hl (by decide) rfl (fun ls hl => ?_)
            refine lv_lload hx hb dX9_findLeast_103 (lv_at hl 8 rfl) ?_
            refine lv_lload hx hb dX9_findLeast_105 (lv_at hl 2 rfl) ?_
            refine lv_lload hx hb dX9_findLeast_107 (lv_at hl 1 rfl) ?_
            refine lv_lmul hx hb dX9_findLeast_109 ?_
            refine lv_topl (fun y_28 ey_28 => ?_)
            have m2 := lm_ab 10000 20000 ey_28 (by omega) (by omega) (by omega) (by omega) (by decide)
            have m2b := mul_bd (x := (r_25).toInt) (y := (0 : Int64).toInt) (a := 10000) (b := 20000) (by omega) (by omega) (by omega) (by omega)
            obtain ⟨n3_, n4_⟩ := acc_bd (F := fun j => (gA (Fi p1.toNatClampNeg) (fun k => Sp (36 * p1.toNatClampNeg + k)) (Fi p2.toNatClampNeg) (fun k => Sp (36 * p2.toNatClampNeg + k)) kk.toInt) j * (gB (Fi p1.toNatClampNeg) (fun k => Sp (36 * p1.toNatClampNeg + k)) (Fi p2.toNatClampNeg) (fun k => Sp (36 * p2.toNatClampNeg + k)) kk.toInt (kk.toInt < r_1.toInt)) j) (B := 200000000) (fun j j0 j3 => by have z := hOK j j0 j3; have z9_ := mul_bd z.1.1 z.1.2 z.2.1 z.2.2; exact ⟨by omega, by omega⟩) ax.toInt.toNat (by omega)
            refine lv_lsub hx hb dX9_findLeast_110 ?_
            refine lv_topl (fun y_29 ey_29 => ?_)
            have ty_29 : y_29.toInt = z7.toInt - y_28.toInt := by rw [ey_29]; have := fb_subL (x := z7) (y := y_28) (by omega) (by omega); omega
            refine lv_lstore (lv' := [(7, .long y_29), (5, .long y_27), (14, .long 0), (12, .long r_25), (0, .ref h0), (1, .int p1), (2, .int p2), (3, .int r_1), (4, .int kk), (9, .long z9), (11, .int ax)]) hx hb dX9_findLeast_111 hl (by decide) rfl (fun ls hl => ?_)
            refine lv_lload hx hb dX9_findLeast_113 (lv_at hl 9 rfl) ?_
            refine lv_lload hx hb dX9_findLeast_115 (lv_at hl 2 rfl) ?_
            refine lv_lload hx hb dX9_findLeast_117 (lv_at hl 2 rfl) ?_
            refine lv_lmul hx hb dX9_findLeast_119 ?_
            refine lv_topl (fun y_30 ey_30 => ?_)
            obtain rfl : y_30 = 0 := ey_30.trans (by decide)
            obtain ⟨n5_, n6_⟩ := acc_bd (F := fun j => (gB (Fi p1.toNatClampNeg) (fun k => Sp (36 * p1.toNatClampNeg + k)) (Fi p2.toNatClampNeg) (fun k => Sp (36 * p2.toNatClampNeg + k)) kk.toInt (kk.toInt < r_1.toInt)) j * (gB (Fi p1.toNatClampNeg) (fun k => Sp (36 * p1.toNatClampNeg + k)) (Fi p2.toNatClampNeg) (fun k => Sp (36 * p2.toNatClampNeg + k)) kk.toInt (kk.toInt < r_1.toInt)) j) (B := 400000000) (fun j j0 j3 => by have z := (hOK j j0 j3).2; have z9_ := mul_bd z.1 z.2 z.1 z.2; exact ⟨by omega, by omega⟩) ax.toInt.toNat (by omega)
            refine lv_ladd hx hb dX9_findLeast_120 ?_
            refine lv_topl (fun y_31 ey_31 => ?_)
            have ty_31 : y_31.toInt = z9.toInt + 0 := by rw [ey_31]; have := fb_addL (x := z9) (y := 0) (by omega) (by omega); omega
            refine lv_lstore (lv' := [(9, .long y_31), (7, .long y_29), (5, .long y_27), (14, .long 0), (12, .long r_25), (0, .ref h0), (1, .int p1), (2, .int p2), (3, .int r_1), (4, .int kk), (11, .int ax)]) hx hb dX9_findLeast_121 hl (by decide) rfl (fun ls hl => ?_)
            obtain ⟨y_32, ey_32⟩ : ∃ y : Int32, y = ax + 1 := ⟨_, rfl⟩
            have ty_32 : y_32.toInt = ax.toInt + 1 := by rw [ey_32]; have := fb_addI (x := ax) (y := 1) (by omega) (by omega); omega
            refine lv_iinc (v := y_32) (lv' := [(11, .int y_32), (9, .long y_31), (7, .long y_29), (5, .long y_27), (14, .long 0), (12, .long r_25), (0, .ref h0), (1, .int p1), (2, .int p2), (3, .int r_1), (4, .int kk)]) hx hb dX9_findLeast_123 hl (k := 10) rfl (by rw [ey_32]; rfl) (by decide) rfl (fun ls hl => ?_)
            refine lv_goto (tgt := 48) hx hb dX9_findLeast_126 (by decide) ?_
            exact ih_48 y_27 y_29 y_31 y_32 (by omega) (by omega) (by rw [show (y_32).toInt.toNat = ax.toInt.toNat + 1 by omega, acc_1, ← hz5, hax, ty_27, m1, hgp]) (by rw [show (y_32).toInt.toNat = ax.toInt.toNat + 1 by omega, acc_1, hax, ty_29, m2, hgp, hsh, hz7]; omega) (by rw [show (y_32).toInt.toNat = ax.toInt.toNat + 1 by omega, acc_1, ← hz9, hax, ty_31]; first | rw [m3, hsh] | (rw [← hsh, klL_0]; omega)) (by omega) H _ (hP.sub [0, 1, 2, 3] rfl) (hD.sub [0, 1, 2, 3] (by decide) rfl) hS ls (lv_sub hl [6, 7, 8, 9, 10, 3, 2, 1, 0] rfl)
          · have t_69 := mt (fa_le _ _).mpr c_69
            obtain ⟨c3, c4⟩ := gA_bd (f1 := Fi p1.toNatClampNeg) (f2 := Fi p2.toNatClampNeg) (k := kk.toInt + 1) hct hcu (by omega) (by omega) (by omega) (by omega) (j := ax.toInt) (by omega) (by omega)
            refine lv_aload_n hx hb dX9_findLeast_72 rfl (lv_at hl 1 rfl) ?_
            refine lv_iload_n hx hb dX9_findLeast_73 rfl (lv_at hl 2 rfl) ?_
            refine lv_iload_n hx hb dX9_findLeast_74 rfl (lv_at hl 3 rfl) ?_
            refine lv_iload hx hb dX9_findLeast_75 (lv_at hl 5 rfl) ?_
            refine lv_iconst (v := 1) hx hb dX9_findLeast_77 (by decide) ?_
            refine lv_iadd hx hb dX9_findLeast_78 ?_
            refine lv_topi (fun y_33 ey_33 => ?_)
            have ty_33 : y_33.toInt = kk.toInt + 1 := by rw [ey_33]; have := fb_addI (x := kk) (y := 1) (by omega) (by omega); omega
            refine lv_iload hx hb dX9_findLeast_79 (lv_at hl 9 rfl) ?_
            have hPc := hP.sub (ws' := [(h0, .inr (9, [.int th, .ref a1, .ref a2, .ref a3, .ref a4, .ref a5, .int ne, .int wi, .int dn, .ref a6, .ref a7, .int nn, .ref a8, .int la, .ref a9, .ref a10, .long uq, .long lq, .int wq, .long pq, .long dq, .ref a11])), (a1, .inl (cI, 16, .inl Fi)), (a2, .inl (cI, 16, .inl Ma)), (a5, .inl (cI, 576, .inl Sp))]) [0, 1, 2, 3] rfl
            have hKc := hK.sub (tys' := [(cI, .int)]) [0] rfl
            refine vp_callSl (W.runV (As := [.int p1, .int p2, .int y_33, .int ax]) (rest := []) ⟨hx, hb, hml, hown, hts⟩ (c_X9_apartE l dC dI h0 a1 a2 a3 a4 a5 a6 a7 a8 a9 a10 a11 th ne wi dn nn la wq uq lq pq dq cI Fi Ma Sp p1 p2 y_33 ax (by first | assumption | omega) (by first | omega | assumption) (by first | omega | assumption) (by first | omega | assumption) (by first | omega | assumption) (by first | omega | assumption) (by first | omega | assumption) (by first | omega | assumption) (by first | omega | assumption) (by first | omega | assumption) (by first | omega | assumption) (by first | assumption | omega) (by first | assumption | omega)) (cwV 4 hts g_X9_findLeastE__X9_apartE_143 rfl rfl rfl (by decide +kernel) ⟨Nat.le_of_ble_eq_true rfl, Nat.le_of_ble_eq_true rfl⟩) ⟨fun a U g mk q => by obtain ⟨q0, qP, qK⟩ := q; exact ⟨q0, qP, va_K.moved (u := U) (U := U.calling g mk a) (Vm.Alike.refl U.vm) qK⟩, va_recv hKc hPc (ci := 9) (q0 := 0) rfl rfl, fun U hU hW => ⟨rfl, by rw [hU]; exact hPc, va_K.moved hW.alike hKc⟩⟩ rfl rfl hl.1 rfl (lv_room (Nat.le_of_ble_eq_true rfl)) dX9_findLeast_81 ⟨Nat.le_of_ble_eq_true rfl, Nat.le_of_ble_eq_true rfl⟩) (fun r_34 hr_34 => ?_)
            try dsimp only at hr_34
            have hgq : r_34.toInt = gA (Fi p1.toNatClampNeg) (fun k => Sp (36 * p1.toNatClampNeg + k)) (Fi p2.toNatClampNeg) (fun k => Sp (36 * p2.toNatClampNeg + k)) (kk.toInt + 1) ax.toInt := by rw [hr_34, ty_33]
            refine lv_lload hx hb dX9_findLeast_84 (lv_at hl 0 rfl) ?_
            refine lv_lsub hx hb dX9_findLeast_86 ?_
            refine lv_topl (fun y_35 ey_35 => ?_)
            have ty_35 : y_35.toInt = r_34.toInt - r_25.toInt := by rw [ey_35]; have := fb_subL (x := r_34) (y := r_25) (by omega) (by omega); omega
            have hsh : y_35.toInt = (gB (Fi p1.toNatClampNeg) (fun k => Sp (36 * p1.toNatClampNeg + k)) (Fi p2.toNatClampNeg) (fun k => Sp (36 * p2.toNatClampNeg + k)) kk.toInt (kk.toInt < r_1.toInt)) ax.toInt := by rw [ty_35, hgq, hgp]; show _ = (if kk.toInt < r_1.toInt then _ else (0 : Int)); rw [if_pos (by omega)]
            refine lv_goto (tgt := 91) hx hb dX9_findLeast_87 (by decide) ?_
            refine lv_lstore (lv' := [(14, .long y_35), (12, .long r_25), (0, .ref h0), (1, .int p1), (2, .int p2), (3, .int r_1), (4, .int kk), (5, .long z5), (7, .long z7), (9, .long z9), (11, .int ax)]) hx hb dX9_findLeast_91 hl (by decide) rfl (fun ls hl => ?_)
            refine lv_lload hx hb dX9_findLeast_93 (lv_at hl 7 rfl) ?_
            refine lv_lload hx hb dX9_findLeast_95 (lv_at hl 1 rfl) ?_
            refine lv_lload hx hb dX9_findLeast_97 (lv_at hl 1 rfl) ?_
            refine lv_lmul hx hb dX9_findLeast_99 ?_
            refine lv_topl (fun y_36 ey_36 => ?_)
            have m1 := lm_ab 10000 10000 ey_36 (by omega) (by omega) (by omega) (by omega) (by decide)
            have m1b := mul_bd (x := (r_25).toInt) (y := (r_25).toInt) (a := 10000) (b := 10000) (by omega) (by omega) (by omega) (by omega)
            obtain ⟨n1_, n2_⟩ := acc_bd (F := fun j => (gA (Fi p1.toNatClampNeg) (fun k => Sp (36 * p1.toNatClampNeg + k)) (Fi p2.toNatClampNeg) (fun k => Sp (36 * p2.toNatClampNeg + k)) kk.toInt) j * (gA (Fi p1.toNatClampNeg) (fun k => Sp (36 * p1.toNatClampNeg + k)) (Fi p2.toNatClampNeg) (fun k => Sp (36 * p2.toNatClampNeg + k)) kk.toInt) j) (B := 100000000) (fun j j0 j3 => by have z := (hOK j j0 j3).1; have z9_ := mul_bd z.1 z.2 z.1 z.2; exact ⟨by omega, by omega⟩) ax.toInt.toNat (by omega)
            refine lv_ladd hx hb dX9_findLeast_100 ?_
            refine lv_topl (fun y_37 ey_37 => ?_)
            have ty_37 : y_37.toInt = z5.toInt + y_36.toInt := by rw [ey_37]; have := fb_addL (x := z5) (y := y_36) (by omega) (by omega); omega
            refine lv_lstore (lv' := [(5, .long y_37), (14, .long y_35), (12, .long r_25), (0, .ref h0), (1, .int p1), (2, .int p2), (3, .int r_1), (4, .int kk), (7, .long z7), (9, .long z9), (11, .int ax)]) hx hb dX9_findLeast_101 hl (by decide) rfl (fun ls hl => ?_)
            refine lv_lload hx hb dX9_findLeast_103 (lv_at hl 8 rfl) ?_
            refine lv_lload hx hb dX9_findLeast_105 (lv_at hl 2 rfl) ?_
            refine lv_lload hx hb dX9_findLeast_107 (lv_at hl 1 rfl) ?_
            refine lv_lmul hx hb dX9_findLeast_109 ?_
            refine lv_topl (fun y_38 ey_38 => ?_)
            have m2 := lm_ab 10000 20000 ey_38 (by omega) (by omega) (by omega) (by omega) (by decide)
            have m2b := mul_bd (x := (r_25).toInt) (y := y_35.toInt) (a := 10000) (b := 20000) (by omega) (by omega) (by omega) (by omega)
            obtain ⟨n3_, n4_⟩ := acc_bd (F := fun j => (gA (Fi p1.toNatClampNeg) (fun k => Sp (36 * p1.toNatClampNeg + k)) (Fi p2.toNatClampNeg) (fun k => Sp (36 * p2.toNatClampNeg + k)) kk.toInt) j * (gB (Fi p1.toNatClampNeg) (fun k => Sp (36 * p1.toNatClampNeg + k)) (Fi p2.toNatClampNeg) (fun k => Sp (36 * p2.toNatClampNeg + k)) kk.toInt (kk.toInt < r_1.toInt)) j) (B := 200000000) (fun j j0 j3 => by have z := hOK j j0 j3; have z9_ := mul_bd z.1.1 z.1.2 z.2.1 z.2.2; exact ⟨by omega, by omega⟩) ax.toInt.toNat (by omega)
            refine lv_lsub hx hb dX9_findLeast_110 ?_
            refine lv_topl (fun y_39 ey_39 => ?_)
            have ty_39 : y_39.toInt = z7.toInt - y_38.toInt := by rw [ey_39]; have := fb_subL (x := z7) (y := y_38) (by omega) (by omega); omega
            refine lv_lstore (lv' := [(7, .long y_39), (5, .long y_37), (14, .long y_35), (12, .long r_25), (0, .ref h0), (1, .int p1), (2, .int p2), (3, .int r_1), (4, .int kk), (9, .long z9), (11, .int ax)]) hx hb dX9_findLeast_111 hl (by decide) rfl (fun ls hl => ?_)
            refine lv_lload hx hb dX9_findLeast_113 (lv_at hl 9 rfl) ?_
            refine lv_lload hx hb dX9_findLeast_115 (lv_at hl 2 rfl) ?_
            refine lv_lload hx hb dX9_findLeast_117 (lv_at hl 2 rfl) ?_
            refine lv_lmul hx hb dX9_findLeast_119 ?_
            refine lv_topl (fun y_40 ey_40 => ?_)
            have m3 := lm_ab 20000 20000 ey_40 (by omega) (by omega) (by omega) (by omega) (by decide)
            have m3b := mul_bd (x := y_35.toInt) (y := y_35.toInt) (a := 20000) (b := 20000) (by omega) (by omega) (by omega) (by omega)
            obtain ⟨n5_, n6_⟩ := acc_bd (F := fun j => (gB (Fi p1.toNatClampNeg) (fun k => Sp (36 * p1.toNatClampNeg + k)) (Fi p2.toNatClampNeg) (fun k => Sp (36 * p2.toNatClampNeg + k)) kk.toInt (kk.toInt < r_1.toInt)) j * (gB (Fi p1.toNatClampNeg) (fun k => Sp (36 * p1.toNatClampNeg + k)) (Fi p2.toNatClampNeg) (fun k => Sp (36 * p2.toNatClampNeg + k)) kk.toInt (kk.toInt < r_1.toInt)) j) (B := 400000000) (fun j j0 j3 => by have z := (hOK j j0 j3).2; have z9_ := mul_bd z.1 z.2 z.1 z.2; exact ⟨by omega, by omega⟩) ax.toInt.toNat (by omega)
            refine lv_ladd hx hb dX9_findLeast_120 ?_
            refine lv_topl (fun y_41 ey_41 => ?_)
            have ty_41 : y_41.toInt = z9.toInt + y_40.toInt := by rw [ey_41]; have := fb_addL (x := z9) (y := y_40) (by omega) (by omega); omega
            refine lv_lstore (lv' := [(9, .long y_41), (7, .long y_39), (5, .long y_37), (14, .long y_35), (12, .long r_25), (0, .ref h0), (1, .int p1), (2, .int p2), (3, .int r_1), (4, .int kk), (11, .int ax)]) hx hb dX9_findLeast_121 hl (by decide) rfl (fun ls hl => ?_)
            obtain ⟨y_42, ey_42⟩ : ∃ y : Int32, y = ax + 1 := ⟨_, rfl⟩
            have ty_42 : y_42.toInt = ax.toInt + 1 := by rw [ey_42]; have := fb_addI (x := ax) (y := 1) (by omega) (by omega); omega
            refine lv_iinc (v := y_42) (lv' := [(11, .int y_42), (9, .long y_41), (7, .long y_39), (5, .long y_37), (14, .long y_35), (12, .long r_25), (0, .ref h0), (1, .int p1), (2, .int p2), (3, .int r_1), (4, .int kk)]) hx hb dX9_findLeast_123 hl (k := 10) rfl (by rw [ey_42]; rfl) (by decide) rfl (fun ls hl => ?_)
            refine lv_goto (tgt := 48) hx hb dX9_findLeast_126 (by decide) ?_
            exact ih_48 y_37 y_39 y_41 y_42 (by omega) (by omega) (by rw [show (y_42).toInt.toNat = ax.toInt.toNat + 1 by omega, acc_1, ← hz5, hax, ty_37, m1, hgp]) (by rw [show (y_42).toInt.toNat = ax.toInt.toNat + 1 by omega, acc_1, hax, ty_39, m2, hgp, hsh, hz7]; omega) (by rw [show (y_42).toInt.toNat = ax.toInt.toNat + 1 by omega, acc_1, ← hz9, hax, ty_41]; first | rw [m3, hsh] | (rw [← hsh, klL_0]; omega)) (by omega) H _ (hP.sub [0, 1, 2, 3] rfl) (hD.sub [0, 1, 2, 3] (by decide) rfl) hS ls (lv_sub hl [6, 7, 8, 9, 10, 3, 2, 1, 0] rfl)
