def wk_X4_takeE : List Cond := .code yX4_take cX4_take 3 none :: (([.fieldLink RX4 10 "MeetingsAbove$Nearest" "square" "LMeetingsAbove$Fraction;", .fieldLink RX4 19 "MeetingsAbove$Way" "upper" "J", .fieldLink RX4 25 "MeetingsAbove$Way" "lower" "J", .fieldLink RX4 16 "MeetingsAbove$Nearest" "part" "LMeetingsAbove$Fraction;", .fieldLink RX4 32 "MeetingsAbove$Way" "partUpper" "J", .fieldLink RX4 35 "MeetingsAbove$Nearest" "step" "I"] : List Cond) ++ (wsX40 ++ (wsX70 ++ ((wsV RX4 28 RX3 yX3_become wk_X3_becomeE) ++ ([])))))
theorem in_X4_takeE_X4 : ∀ w ∈ wsX40, w ∈ wk_X4_takeE := fun _ h => List.mem_cons_of_mem _ (List.mem_append_right _ (List.mem_append_left _ h))
theorem in_X4_takeE_X7 : ∀ w ∈ wsX70, w ∈ wk_X4_takeE := fun _ h => List.mem_cons_of_mem _ (List.mem_append_right _ (List.mem_append_right _ (List.mem_append_left _ h)))
theorem gw_X4_takeE : AG wk_X4_takeE := AG_ca (AG_l (by decide +kernel)) (AG_app ag_X4 (AG_app ag_X7 (AG_app (AG_V gw_X3_becomeE) (AG_nil))))
theorem g_X4_takeE__X3_becomeE_28 : GoodIn wk_X4_takeE (wsV RX4 28 RX3 yX3_become wk_X3_becomeE) := goodIn_m (fun _ h => List.mem_cons_of_mem _ (List.mem_append_right _ (List.mem_append_right _ (List.mem_append_right _ (List.mem_append_left _ h))))) (AG_V gw_X3_becomeE)
set_option maxHeartbeats 4000000 in
set_option maxRecDepth 100000 in
theorem c_X4_takeE (l : Launch) (dC : Nat → ClassId) (dI : Nat → Nat → Nat) (h0 : Nat) (hs : Nat) (hp : Nat) (hw : Nat) (ns : Int32) (su : Int64) (sl : Int64) (pu : Int64) (pl : Int64) (wu : Int64) (wl : Int64) (wp : Int64) (p1 : Int32) (sz : Nat) (hu0 : 0 ≤ wu.toInt) (hl0 : 0 < wl.toInt) (hp0 : 0 ≤ wp.toInt) : Met l yX4_take wk_X4_takeE ({ frames := 2, cells := 0, slots := 0, locals := 56 }) (va_Pc [.ref h0, .ref hw, .int p1] (fun U => U.heap.size = sz ∧ va_P (dC, dI) vwCl [(h0, .inr (4, [.ref hs, .ref hp, .int ns])), (hs, .inr (3, [.long su, .long sl])), (hp, .inr (3, [.long pu, .long pl])), (hw, .inr (7, [.long wu, .long wl, .long wp]))] U.heap ∧ va_K (dC, dI) vwCl [] U ∧ va_D (fun _ => True) [(h0, .inr (4, [.ref hs, .ref hp, .int ns])), (hs, .inr (3, [.long su, .long sl])), (hp, .inr (3, [.long pu, .long pl])), (hw, .inr (7, [.long wu, .long wl, .long wp]))])) (va_Qv (fun (_ : Unit) => True) (fun (_ : Unit) (t : State) => ∃ (su9 : Int64) (sl9 : Int64) (pu9 : Int64) (pl9 : Int64), va_P (dC, dI) vwCl [(h0, .inr (4, [.ref hs, .ref hp, .int p1])), (hs, .inr (3, [.long su9, .long sl9])), (hp, .inr (3, [.long pu9, .long pl9])), (hw, .inr (7, [.long wu, .long wl, .long wp]))] t.heap ∧ va_K (dC, dI) vwCl [] t ∧ va_D (va_A [(h0, .inr (4, [.ref hs, .ref hp, .int ns])), (hs, .inr (3, [.long su, .long sl])), (hp, .inr (3, [.long pu, .long pl])), (hw, .inr (7, [.long wu, .long wl, .long wp]))] sz) [(h0, .inr (4, [.ref hs, .ref hp, .int p1])), (hs, .inr (3, [.long su9, .long sl9])), (hp, .inr (3, [.long pu9, .long pl9])), (hw, .inr (7, [.long wu, .long wl, .long wp]))] ∧ su9.toInt = wu.toInt / (gN wu.toInt wl.toInt : Nat) ∧ sl9.toInt = wl.toInt / (gN wu.toInt wl.toInt : Nat) ∧ pu9.toInt = wp.toInt / (gN wp.toInt wl.toInt : Nat) ∧ pl9.toInt = wl.toInt / (gN wp.toInt wl.toInt : Nat)) (va_A [(h0, .inr (4, [.ref hs, .ref hp, .int ns])), (hs, .inr (3, [.long su, .long sl])), (hp, .inr (3, [.long pu, .long pl])), (hw, .inr (7, [.long wu, .long wl, .long wp]))] sz)) 0 0 (va_A [(h0, .inr (4, [.ref hs, .ref hp, .int ns])), (hs, .inr (3, [.long su, .long sl])), (hp, .inr (3, [.long pu, .long pl])), (hw, .inr (7, [.long wu, .long wl, .long wp]))] sz) := by
  refine Met.ofW (cc := cX4_take) (maxL := 3) (ret := none) (by decide) rfl ?_
  intro p e s m args below meth c s₁ B hml hv
  obtain ⟨rfl, hsz, hP, hK, hD0⟩ := hv
  have hx := B.exec
  have hb := B.bytes
  have hr := B.returns
  have hts := atoms_spec (ws := wk_X4_takeE) B.pre
  have hown : s.vm.findClass RX4 = some m.cls := findClass_of_methodNamed B.named
  have hlocks := B.notSynchronized
  subst hsz
  have hD := hD0.self (sz := s.heap.size)
  generalize hAe : va_A [(h0, .inr (4, [.ref hs, .ref hp, .int ns])), (hs, .inr (3, [.long su, .long sl])), (hp, .inr (3, [.long pu, .long pl])), (hw, .inr (7, [.long wu, .long wl, .long wp]))] s.heap.size = A at hD ⊢
  have hA : ∀ q : Nat, s.heap.size ≤ q → A q := fun q h => by rw [← hAe]; exact Or.inr h
  have hS : va_S A s.heap s.heap [] := va_S.rf
  have hP : va_P (dC, dI) vwCl [(h0, .inr (4, [.ref hs, .ref hp, .int ns])), (hs, .inr (3, [.long su, .long sl])), (hp, .inr (3, [.long pu, .long pl])), (hw, .inr (7, [.long wu, .long wl, .long wp]))] s.heap := hP
  have hl := lv_entry ([.ref h0, .ref hw, .int p1]) (n := 3) (Nat.le_of_ble_eq_true rfl)
  rw [lg_entry_eq]
  generalize (lg_sl ([.ref h0, .ref hw, .int p1]) ++ List.replicate (3 - (lg_sl ([.ref h0, .ref hw, .int p1])).length) Slot.unset).toArray = ls at hl ⊢
  have hl : lv_has ls 3 [(0, .ref h0), (1, .ref hw), (2, .int p1)] := hl
  refine lv_aload_n hx hb dX4_take_0 rfl (lv_at hl 0 rfl) ?_
  refine va_get (D := (dC, dI)) (ci := 4) (v := .ref hs) (C := RX4) (T := TX4) (N := 3) hx hb hts in_X4_takeE_X4 hown hK hP 0 rfl rfl 0 (by decide) (hts (.fieldLink RX4 10 "MeetingsAbove$Nearest" "square" "LMeetingsAbove$Fraction;") (by decide +kernel)) (fun _ h9 => h9) rfl dX4_take_1 ?_
  refine lv_aload_n hx hb dX4_take_4 rfl (lv_at hl 1 rfl) ?_
  refine va_get (D := (dC, dI)) (ci := 7) (v := .long wu) (C := RX7) (T := TX7) (N := 3) hx hb hts in_X4_takeE_X7 hown hK hP 3 rfl rfl 0 (by decide) (hts (.fieldLink RX4 19 "MeetingsAbove$Way" "upper" "J") (by decide +kernel)) (fun _ h9 => h9) rfl dX4_take_5 ?_
  refine lv_aload_n hx hb dX4_take_8 rfl (lv_at hl 1 rfl) ?_
  refine va_get (D := (dC, dI)) (ci := 7) (v := .long wl) (C := RX7) (T := TX7) (N := 3) hx hb hts in_X4_takeE_X7 hown hK hP 3 rfl rfl 1 (by decide) (hts (.fieldLink RX4 25 "MeetingsAbove$Way" "lower" "J") (by decide +kernel)) (fun _ h9 => h9) rfl dX4_take_9 ?_
  have hPc := hP.sub (ws' := [(hs, .inr (3, [.long su, .long sl]))]) [1] rfl
  have hKc := hK.sub (tys' := []) [] rfl
  have hDc := hD.sub (ws' := [(hs, .inr (3, [.long su, .long sl]))]) [1] (by decide) rfl
  have hFc := va_free (wc := [(hs, .inr (3, [.long su, .long sl]))]) hD hS hA [1] rfl
  refine va_callv (va_runV (As := [.long wu, .long wl]) (rest := []) ⟨hx, hb, hml, hown, hts⟩ (c_X3_becomeE l dC dI hs su sl wu wl s.heap.size (by first | omega | assumption) (by first | omega | assumption)) (cwV 2 hts g_X4_takeE__X3_becomeE_28 rfl rfl rfl (by decide +kernel) ⟨Nat.le_of_ble_eq_true rfl, Nat.le_of_ble_eq_true rfl⟩) ⟨fun a U g mk q => by obtain ⟨q0, q1, qP, qK, qD⟩ := q; exact ⟨q0, q1, qP, va_K.moved (u := U) (U := U.calling g mk a) (Vm.Alike.refl U.vm) qK, qD⟩, va_recv hKc hPc (ci := 3) (q0 := 0) rfl rfl, fun U hU hW => ⟨rfl, by rw [hU], by rw [hU]; exact hPc, va_K.moved hW.alike hKc, hDc.weaken (fun _ _ _ _ => trivial)⟩⟩ rfl rfl hl.1 rfl (lv_room (Nat.le_of_ble_eq_true rfl)) dX4_take_12 ⟨Nat.le_of_ble_eq_true rfl, Nat.le_of_ble_eq_true rfl⟩) hS (fun q _ h => hFc q h) hFc (fun u_1 t H1 locs ht hvm hw_2 hB hz1 hk1 hS => ?_)
  obtain ⟨u9_3, l9_4, hP1, hK1, hD1, hu9_5, hl9_6⟩ := hB
  rw [ht] at hP1
  have hK1 := va_K.moved hvm.symm hK1
  obtain ⟨hP, hD⟩ := va_join (wr := [(h0, .inr (4, [.ref hs, .ref hp, .int ns])), (hp, .inr (3, [.long pu, .long pl])), (hw, .inr (7, [.long wu, .long wl, .long wp]))]) (w1 := [(hs, .inr (3, [.long u9_3, .long l9_4]))]) hP hD [1] [0, 2, 3] rfl rfl (by decide) (by decide) hk1 hFc hP1 hD1
  have hK := (hK.sub (tys' := []) [] rfl).app hK1
  generalize H1 = H at hP hS ⊢
  have hP : va_P (dC, dI) vwCl [(h0, .inr (4, [.ref hs, .ref hp, .int ns])), (hp, .inr (3, [.long pu, .long pl])), (hw, .inr (7, [.long wu, .long wl, .long wp])), (hs, .inr (3, [.long u9_3, .long l9_4]))] H := hP
  have hD : va_D A [(h0, .inr (4, [.ref hs, .ref hp, .int ns])), (hp, .inr (3, [.long pu, .long pl])), (hw, .inr (7, [.long wu, .long wl, .long wp])), (hs, .inr (3, [.long u9_3, .long l9_4]))] := hD
  have hK : va_K (dC, dI) vwCl [] s := hK
  refine W.widen (k := 0) (n := 0) (by omega) (by omega) ?_
  refine lv_aload_n hx hb dX4_take_15 rfl (lv_at hl 0 rfl) ?_
  refine va_get (D := (dC, dI)) (ci := 4) (v := .ref hp) (C := RX4) (T := TX4) (N := 3) hx hb hts in_X4_takeE_X4 hown hK hP 0 rfl rfl 1 (by decide) (hts (.fieldLink RX4 16 "MeetingsAbove$Nearest" "part" "LMeetingsAbove$Fraction;") (by decide +kernel)) (fun _ h9 => h9) rfl dX4_take_16 ?_
  refine lv_aload_n hx hb dX4_take_19 rfl (lv_at hl 1 rfl) ?_
  refine va_get (D := (dC, dI)) (ci := 7) (v := .long wp) (C := RX7) (T := TX7) (N := 3) hx hb hts in_X4_takeE_X7 hown hK hP 2 rfl rfl 2 (by decide) (hts (.fieldLink RX4 32 "MeetingsAbove$Way" "partUpper" "J") (by decide +kernel)) (fun _ h9 => h9) rfl dX4_take_20 ?_
  refine lv_aload_n hx hb dX4_take_23 rfl (lv_at hl 1 rfl) ?_
  refine va_get (D := (dC, dI)) (ci := 7) (v := .long wl) (C := RX7) (T := TX7) (N := 3) hx hb hts in_X4_takeE_X7 hown hK hP 2 rfl rfl 1 (by decide) (hts (.fieldLink RX4 25 "MeetingsAbove$Way" "lower" "J") (by decide +kernel)) (fun _ h9 => h9) rfl dX4_take_24 ?_
  have hPc := hP.sub (ws' := [(hp, .inr (3, [.long pu, .long pl]))]) [1] rfl
  have hKc := hK.sub (tys' := []) [] rfl
  have hDc := hD.sub (ws' := [(hp, .inr (3, [.long pu, .long pl]))]) [1] (by decide) rfl
  have hFc := va_free (wc := [(hp, .inr (3, [.long pu, .long pl]))]) hD hS hA [1] rfl
  refine va_callv (va_runV (As := [.long wp, .long wl]) (rest := []) ⟨hx, hb, hml, hown, hts⟩ (c_X3_becomeE l dC dI hp pu pl wp wl H.size (by first | omega | assumption) (by first | omega | assumption)) (cwV 2 hts g_X4_takeE__X3_becomeE_28 rfl rfl rfl (by decide +kernel) ⟨Nat.le_of_ble_eq_true rfl, Nat.le_of_ble_eq_true rfl⟩) ⟨fun a U g mk q => by obtain ⟨q0, q1, qP, qK, qD⟩ := q; exact ⟨q0, q1, qP, va_K.moved (u := U) (U := U.calling g mk a) (Vm.Alike.refl U.vm) qK, qD⟩, va_recv hKc hPc (ci := 3) (q0 := 0) rfl rfl, fun U hU hW => ⟨rfl, by rw [hU], by rw [hU]; exact hPc, va_K.moved hW.alike hKc, hDc.weaken (fun _ _ _ _ => trivial)⟩⟩ rfl rfl hl.1 rfl (lv_room (Nat.le_of_ble_eq_true rfl)) dX4_take_27 ⟨Nat.le_of_ble_eq_true rfl, Nat.le_of_ble_eq_true rfl⟩) hS (fun q _ h => hFc q h) hFc (fun u_7 t H1 locs ht hvm hw_8 hB hz1 hk1 hS => ?_)
  obtain ⟨u9_9, l9_10, hP1, hK1, hD1, hu9_11, hl9_12⟩ := hB
  rw [ht] at hP1
  have hK1 := va_K.moved hvm.symm hK1
  obtain ⟨hP, hD⟩ := va_join (wr := [(h0, .inr (4, [.ref hs, .ref hp, .int ns])), (hw, .inr (7, [.long wu, .long wl, .long wp])), (hs, .inr (3, [.long u9_3, .long l9_4]))]) (w1 := [(hp, .inr (3, [.long u9_9, .long l9_10]))]) hP hD [1] [0, 2, 3] rfl rfl (by decide) (by decide) hk1 hFc hP1 hD1
  have hK := (hK.sub (tys' := []) [] rfl).app hK1
  generalize H1 = H at hP hS ⊢
  have hP : va_P (dC, dI) vwCl [(h0, .inr (4, [.ref hs, .ref hp, .int ns])), (hw, .inr (7, [.long wu, .long wl, .long wp])), (hs, .inr (3, [.long u9_3, .long l9_4])), (hp, .inr (3, [.long u9_9, .long l9_10]))] H := hP
  have hD : va_D A [(h0, .inr (4, [.ref hs, .ref hp, .int ns])), (hw, .inr (7, [.long wu, .long wl, .long wp])), (hs, .inr (3, [.long u9_3, .long l9_4])), (hp, .inr (3, [.long u9_9, .long l9_10]))] := hD
  have hK : va_K (dC, dI) vwCl [] s := hK
  refine W.widen (k := 0) (n := 0) (by omega) (by omega) ?_
  refine lv_aload_n hx hb dX4_take_30 rfl (lv_at hl 0 rfl) ?_
  refine lv_iload_n hx hb dX4_take_31 rfl (lv_at hl 2 rfl) ?_
  refine va_put (D := (dC, dI)) (ci := 4) (v := .int p1) (ty := .int) (C := RX4) (T := TX4) (N := 3) hx hb hts in_X4_takeE_X4 tyX4 tyX4_ok nmX4 hown hK hP hD hS 0 rfl rfl 2 (by decide) (hts (.fieldLink RX4 35 "MeetingsAbove$Nearest" "step" "I") (by decide +kernel)) (fun _ h9 => h9) rfl (by decide +kernel) rfl rfl (Nat.le_of_ble_eq_true rfl) dX4_take_32 (fun H locs hP hD hS => ?_)
  have hP : va_P (dC, dI) vwCl [(h0, .inr (4, [.ref hs, .ref hp, .int p1])), (hw, .inr (7, [.long wu, .long wl, .long wp])), (hs, .inr (3, [.long u9_3, .long l9_4])), (hp, .inr (3, [.long u9_9, .long l9_10]))] H := hP
  have hD : va_D A [(h0, .inr (4, [.ref hs, .ref hp, .int p1])), (hw, .inr (7, [.long wu, .long wl, .long wp])), (hs, .inr (3, [.long u9_3, .long l9_4])), (hp, .inr (3, [.long u9_9, .long l9_10]))] := hD
  have hP9 := hP.sub (ws' := [(h0, .inr (4, [.ref hs, .ref hp, .int p1])), (hs, .inr (3, [.long u9_3, .long l9_4])), (hp, .inr (3, [.long u9_9, .long l9_10])), (hw, .inr (7, [.long wu, .long wl, .long wp]))]) [0, 2, 3, 1] rfl
  have hD9 := hD.sub (ws' := [(h0, .inr (4, [.ref hs, .ref hp, .int p1])), (hs, .inr (3, [.long u9_3, .long l9_4])), (hp, .inr (3, [.long u9_9, .long l9_10])), (hw, .inr (7, [.long wu, .long wl, .long wp]))]) [0, 2, 3, 1] (by decide) rfl
  have hK9 := hK.sub (tys' := []) [] rfl
  refine W.widen (k := 0) (n := 0) (by omega) (by omega) ?_
  exact W.vret hx hb hr (fun t ht hW => ⟨⟨(), rfl, trivial, u9_3, l9_4, u9_9, l9_10, by rw [ht]; exact hP9, va_K.moved hW.alike hK9, hD9, hu9_5, hl9_6, hu9_11, hl9_12⟩, hS.F ht⟩) hS.2.2 dX4_take_35
