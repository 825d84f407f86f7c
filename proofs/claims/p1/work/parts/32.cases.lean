set_option maxHeartbeats 4000000 in
set_option maxRecDepth 100000 in
theorem lc_7 {p : Program} {l : Launch} {e : Env} {s : State} {m : MethodId} {below : List Frame} {meth : Method} {c : Code} {b L : Nat} {xs : Nat → Int32} (hL : L ≤ 6) (h6 : 6 ≤ L) (C0 : lw_At p s m meth c b L xs) {dC : Nat → ClassId} {dI : Nat → Nat → Nat} (hN : XN s) {x0 m0 n0 s0 s1 d0 o0 w0 e0 f0 t0 b0 na sa sb a1 a2 a3 a4 a5 a6 a7 a8 a9 a10 a11 : Nat} {kN kD k1 k2 k3 k4 k5 k6 k7 k9 : ClassId} {H : Heap} {locs : List Loc} (hK : va_K (dC, dI) vwCl [(kN, .object "MeetingsAbove$Thing"), (kD, .object "MeetingsAbove$Dot"), (k1, .int), (k2, .int), (k3, .int), (k4, .boolean), (k5, .int), (k6, .int), (k7, .int), (k9, .int)] s) (hP : va_P (dC, dI) vwCl [(x0, .inr (8, [.ref n0, .ref s0, .ref s1, .ref d0, .ref o0, .int 0, .int 0, .int 0, .int 50, .int 20, .ref w0, .ref e0, .ref f0, .ref t0, .ref b0, .int 0])), (n0, .inr (1, [.ref na, .int 0])), (na, .inl (kN, 16, .inr (.inr (.inr (.inr (fun _ => none)))))), (s0, .inr (1, [.ref sa, .int 0])), (s1, .inr (1, [.ref sb, .int 0])), (d0, .inl (kD, 40, .inr (.inr (.inr (.inr (fun _ => none)))))), (m0, .inr (9, [.int 0, .ref a1, .ref a2, .ref a3, .ref a4, .ref a5, .int 50, .int 20, .int 0, .ref a6, .ref a7, .int 0, .ref a8, .int 0, .ref a9, .ref a10, .long 0, .long 0, .int 0, .long 0, .long 0, .ref a11])), (a1, .inl (k1, 16, .inl (fun _ => 0))), (a2, .inl (k2, 16, .inl (fun _ => 0))), (a3, .inl (k3, 16, .inl (fun _ => 0))), (a4, .inl (k4, 16, .inl (fun _ => 0))), (a5, .inl (k5, 576, .inl (fun _ => 0))), (a6, .inl (k6, 40, .inl (fun _ => 0))), (a7, .inl (k7, 120, .inl (fun _ => 0))), (a9, .inl (k9, 2, .inl (upd (upd (fun _ => 0) (0 : Int32).toNatClampNeg (-1)) (1 : Int32).toNatClampNeg (-1))))] H) (hD : va_D (fun q : Nat => s.heap.size ≤ q) [(x0, .inr (8, [.ref n0, .ref s0, .ref s1, .ref d0, .ref o0, .int 0, .int 0, .int 0, .int 50, .int 20, .ref w0, .ref e0, .ref f0, .ref t0, .ref b0, .int 0])), (n0, .inr (1, [.ref na, .int 0])), (na, .inl (kN, 16, .inr (.inr (.inr (.inr (fun _ => none)))))), (s0, .inr (1, [.ref sa, .int 0])), (s1, .inr (1, [.ref sb, .int 0])), (d0, .inl (kD, 40, .inr (.inr (.inr (.inr (fun _ => none)))))), (m0, .inr (9, [.int 0, .ref a1, .ref a2, .ref a3, .ref a4, .ref a5, .int 50, .int 20, .int 0, .ref a6, .ref a7, .int 0, .ref a8, .int 0, .ref a9, .ref a10, .long 0, .long 0, .int 0, .long 0, .long 0, .ref a11])), (a1, .inl (k1, 16, .inl (fun _ => 0))), (a2, .inl (k2, 16, .inl (fun _ => 0))), (a3, .inl (k3, 16, .inl (fun _ => 0))), (a4, .inl (k4, 16, .inl (fun _ => 0))), (a5, .inl (k5, 576, .inl (fun _ => 0))), (a6, .inl (k6, 40, .inl (fun _ => 0))), (a7, .inl (k7, 120, .inl (fun _ => 0))), (a9, .inl (k9, 2, .inl (upd (upd (fun _ => 0) (0 : Int32).toNatClampNeg (-1)) (1 : Int32).toNatClampNeg (-1))))]) (hS : va_S (fun q : Nat => s.heap.size ≤ q) s.heap H locs) {ls : Array Slot} (hl : lv_has ls 4 [(3, .int 0), (2, .ref m0), (1, .ref x0), (0, .ref b)]) : W p l e room_1 s m #[Value.ref b] below meth c H locs 29 2637 (lw_Z below #[Value.ref b] s) (F0 m 423 ls []) := by
  obtain ⟨hx, hb, hr, hml, hown, hts, hX, hbl, hlocks, hgv⟩ := id C0
  have hts := fun w h => hts w (wlaw_in w h)
  have hA : ∀ q : Nat, s.heap.size ≤ q → (fun q : Nat => s.heap.size ≤ q) q := fun _ h => h
  have hbA : ¬ (fun q : Nat => s.heap.size ≤ q) b := Nat.not_le.mpr hbl
  have h_in0 : vp_in (0 : Int32) L := vp_in_nI (n := 0) (by omega) (by omega)
  have h_in1 : vp_in (1 : Int32) L := vp_in_nI (n := 1) (by omega) (by omega)
  have h_in2 : vp_in (2 : Int32) L := vp_in_nI (n := 2) (by omega) (by omega)
  have h_in3 : vp_in (3 : Int32) L := vp_in_nI (n := 3) (by omega) (by omega)
  have h_in4 : vp_in (4 : Int32) L := vp_in_nI (n := 4) (by omega) (by omega)
  have h_in5 : vp_in (5 : Int32) L := vp_in_nI (n := 5) (by omega) (by omega)
  refine lv_aload_n hx hb dL_law_423 rfl (lv_at hl 2 rfl) ?_
  refine lv_aload_n hx hb dL_law_424 rfl (lv_at hl 3 rfl) ?_
  refine lv_iload_n hx hb dL_law_425 rfl (lv_at hl 0 rfl) ?_
  refine lv_iconst (v := 1) hx hb dL_law_426 (by decide) ?_
  refine lv_iadd hx hb dL_law_427 ?_
  refine lv_topi (fun y_1 ey_1 => ?_)
  obtain rfl : y_1 = 1 := ey_1.trans (by decide)
  refine va_sld hx hb hX hbl hbA hS h_in1 dL_law_428 ?_
  have hPc := hP.sub (ws' := [(x0, .inr (8, [.ref n0, .ref s0, .ref s1, .ref d0, .ref o0, .int 0, .int 0, .int 0, .int 50, .int 20, .ref w0, .ref e0, .ref f0, .ref t0, .ref b0, .int 0])), (n0, .inr (1, [.ref na, .int 0]))]) [0, 1] rfl
  have hKc := hK.sub (tys' := []) [] rfl
  refine vp_callSi (W.runV (As := [.int (xs (1 : Int32).toNatClampNeg)]) (rest := []) ⟨hx, hb, hml, hown, hts⟩ (c_X8_count l dC dI x0 n0 s0 s1 d0 o0 w0 e0 f0 t0 b0 na (xs (1 : Int32).toNatClampNeg)) (cwV 1 hts g_law__X8_count_46 rfl rfl rfl (by decide +kernel) ⟨Nat.le_of_ble_eq_true rfl, Nat.le_of_ble_eq_true rfl⟩) ⟨fun a U g mk q => by obtain ⟨q0, qP, qK⟩ := q; exact ⟨q0, qP, va_K.moved (u := U) (U := U.calling g mk a) (Vm.Alike.refl U.vm) qK⟩, va_recv hKc hPc (ci := 8) (q0 := 0) rfl rfl, fun U hU hW => ⟨rfl, by rw [hU]; exact hPc, va_K.moved hW.alike hKc⟩⟩ rfl rfl hl.1 rfl (lv_room (Nat.le_of_ble_eq_true rfl)) dL_law_429 ⟨Nat.le_of_ble_eq_true rfl, Nat.le_of_ble_eq_true rfl⟩) (fun r_2 hr_2 => ?_)
  try dsimp only at hr_2
  subst hr_2
  refine lv_aload_n hx hb dL_law_432 rfl (lv_at hl 1 rfl) ?_
  refine lv_aload_n hx hb dL_law_433 rfl (lv_at hl 3 rfl) ?_
  refine lv_iload_n hx hb dL_law_434 rfl (lv_at hl 0 rfl) ?_
  refine lv_iconst (v := 1) hx hb dL_law_435 (by decide) ?_
  refine lv_iadd hx hb dL_law_436 ?_
  refine lv_topi (fun y_3 ey_3 => ?_)
  obtain rfl : y_3 = 1 := ey_3.trans (by decide)
  refine va_sld hx hb hX hbl hbA hS h_in1 dL_law_437 ?_
  have hPc := hP.sub (ws' := [(m0, .inr (9, [.int 0, .ref a1, .ref a2, .ref a3, .ref a4, .ref a5, .int 50, .int 20, .int 0, .ref a6, .ref a7, .int 0, .ref a8, .int 0, .ref a9, .ref a10, .long 0, .long 0, .int 0, .long 0, .long 0, .ref a11]))]) [6] rfl
  have hKc := hK.sub (tys' := []) [] rfl
  refine vp_callSi (W.runV (As := [.int (xs (1 : Int32).toNatClampNeg)]) (rest := [.int (an_count (xs (1 : Int32).toNatClampNeg))]) ⟨hx, hb, hml, hown, hts⟩ (c_X9_count l dC dI m0 a1 a2 a3 a4 a5 a6 a7 a8 a9 a10 a11 (xs (1 : Int32).toNatClampNeg)) (cwV 1 hts g_law__X9_count_49 rfl rfl rfl (by decide +kernel) ⟨Nat.le_of_ble_eq_true rfl, Nat.le_of_ble_eq_true rfl⟩) ⟨fun a U g mk q => by obtain ⟨q0, qP, qK⟩ := q; exact ⟨q0, qP, va_K.moved (u := U) (U := U.calling g mk a) (Vm.Alike.refl U.vm) qK⟩, va_recv hKc hPc (ci := 9) (q0 := 0) rfl rfl, fun U hU hW => ⟨rfl, by rw [hU]; exact hPc, va_K.moved hW.alike hKc⟩⟩ rfl rfl hl.1 rfl (lv_room (Nat.le_of_ble_eq_true rfl)) dL_law_438 ⟨Nat.le_of_ble_eq_true rfl, Nat.le_of_ble_eq_true rfl⟩) (fun r_4 hr_4 => ?_)
  try dsimp only at hr_4
  subst hr_4
  refine lv_icmp_eq (tgt := 957) hx hb dL_law_441 (by decide) (fun _ => ?_) (fun h9 => absurd rfl h9)
  refine W.widen (k := 600000) (n := 7302250) (Nat.le_of_ble_eq_true rfl) (Nat.le_of_ble_eq_true rfl) ?_
  exact law_end hL C0 hS (lv_sub hl [0, 3] rfl)
set_option maxHeartbeats 4000000 in
set_option maxRecDepth 100000 in
theorem lc_8 {p : Program} {l : Launch} {e : Env} {s : State} {m : MethodId} {below : List Frame} {meth : Method} {c : Code} {b L : Nat} {xs : Nat → Int32} (hL : L ≤ 6) (h6 : 6 ≤ L) (C0 : lw_At p s m meth c b L xs) {dC : Nat → ClassId} {dI : Nat → Nat → Nat} (hN : XN s) {x0 m0 n0 s0 s1 d0 o0 w0 e0 f0 t0 b0 na sa sb a1 a2 a3 a4 a5 a6 a7 a8 a9 a10 a11 : Nat} {kN kD k1 k2 k3 k4 k5 k6 k7 k9 : ClassId} {H : Heap} {locs : List Loc} (hK : va_K (dC, dI) vwCl [(kN, .object "MeetingsAbove$Thing"), (kD, .object "MeetingsAbove$Dot"), (k1, .int), (k2, .int), (k3, .int), (k4, .boolean), (k5, .int), (k6, .int), (k7, .int), (k9, .int)] s) (hP : va_P (dC, dI) vwCl [(x0, .inr (8, [.ref n0, .ref s0, .ref s1, .ref d0, .ref o0, .int 0, .int 0, .int 0, .int 50, .int 20, .ref w0, .ref e0, .ref f0, .ref t0, .ref b0, .int 0])), (n0, .inr (1, [.ref na, .int 0])), (na, .inl (kN, 16, .inr (.inr (.inr (.inr (fun _ => none)))))), (s0, .inr (1, [.ref sa, .int 0])), (s1, .inr (1, [.ref sb, .int 0])), (d0, .inl (kD, 40, .inr (.inr (.inr (.inr (fun _ => none)))))), (m0, .inr (9, [.int 0, .ref a1, .ref a2, .ref a3, .ref a4, .ref a5, .int 50, .int 20, .int 0, .ref a6, .ref a7, .int 0, .ref a8, .int 0, .ref a9, .ref a10, .long 0, .long 0, .int 0, .long 0, .long 0, .ref a11])), (a1, .inl (k1, 16, .inl (fun _ => 0))), (a2, .inl (k2, 16, .inl (fun _ => 0))), (a3, .inl (k3, 16, .inl (fun _ => 0))), (a4, .inl (k4, 16, .inl (fun _ => 0))), (a5, .inl (k5, 576, .inl (fun _ => 0))), (a6, .inl (k6, 40, .inl (fun _ => 0))), (a7, .inl (k7, 120, .inl (fun _ => 0))), (a9, .inl (k9, 2, .inl (upd (upd (fun _ => 0) (0 : Int32).toNatClampNeg (-1)) (1 : Int32).toNatClampNeg (-1))))] H) (hD : va_D (fun q : Nat => s.heap.size ≤ q) [(x0, .inr (8, [.ref n0, .ref s0, .ref s1, .ref d0, .ref o0, .int 0, .int 0, .int 0, .int 50, .int 20, .ref w0, .ref e0, .ref f0, .ref t0, .ref b0, .int 0])), (n0, .inr (1, [.ref na, .int 0])), (na, .inl (kN, 16, .inr (.inr (.inr (.inr (fun _ => none)))))), (s0, .inr (1, [.ref sa, .int 0])), (s1, .inr (1, [.ref sb, .int 0])), (d0, .inl (kD, 40, .inr (.inr (.inr (.inr (fun _ => none)))))), (m0, .inr (9, [.int 0, .ref a1, .ref a2, .ref a3, .ref a4, .ref a5, .int 50, .int 20, .int 0, .ref a6, .ref a7, .int 0, .ref a8, .int 0, .ref a9, .ref a10, .long 0, .long 0, .int 0, .long 0, .long 0, .ref a11])), (a1, .inl (k1, 16, .inl (fun _ => 0))), (a2, .inl (k2, 16, .inl (fun _ => 0))), (a3, .inl (k3, 16, .inl (fun _ => 0))), (a4, .inl (k4, 16, .inl (fun _ => 0))), (a5, .inl (k5, 576, .inl (fun _ => 0))), (a6, .inl (k6, 40, .inl (fun _ => 0))), (a7, .inl (k7, 120, .inl (fun _ => 0))), (a9, .inl (k9, 2, .inl (upd (upd (fun _ => 0) (0 : Int32).toNatClampNeg (-1)) (1 : Int32).toNatClampNeg (-1))))]) (hS : va_S (fun q : Nat => s.heap.size ≤ q) s.heap H locs) {ls : Array Slot} (hl : lv_has ls 4 [(3, .int 0), (2, .ref m0), (1, .ref x0), (0, .ref b)]) : W p l e room_1 s m #[Value.ref b] below meth c H locs 29 2637 (lw_Z below #[Value.ref b] s) (F0 m 446 ls []) := by
  obtain ⟨hx, hb, hr, hml, hown, hts, hX, hbl, hlocks, hgv⟩ := id C0
  have hts := fun w h => hts w (wlaw_in w h)
  have hA : ∀ q : Nat, s.heap.size ≤ q → (fun q : Nat => s.heap.size ≤ q) q := fun _ h => h
  have hbA : ¬ (fun q : Nat => s.heap.size ≤ q) b := Nat.not_le.mpr hbl
  have h_in0 : vp_in (0 : Int32) L := vp_in_nI (n := 0) (by omega) (by omega)
  have h_in1 : vp_in (1 : Int32) L := vp_in_nI (n := 1) (by omega) (by omega)
  have h_in2 : vp_in (2 : Int32) L := vp_in_nI (n := 2) (by omega) (by omega)
  have h_in3 : vp_in (3 : Int32) L := vp_in_nI (n := 3) (by omega) (by omega)
  have h_in4 : vp_in (4 : Int32) L := vp_in_nI (n := 4) (by omega) (by omega)
  have h_in5 : vp_in (5 : Int32) L := vp_in_nI (n := 5) (by omega) (by omega)
  refine lv_aload_n hx hb dL_law_446 rfl (lv_at hl 2 rfl) ?_
  refine lv_aload_n hx hb dL_law_447 rfl (lv_at hl 3 rfl) ?_
  refine lv_iload_n hx hb dL_law_448 rfl (lv_at hl 0 rfl) ?_
  refine lv_iconst (v := 1) hx hb dL_law_449 (by decide) ?_
  refine lv_iadd hx hb dL_law_450 ?_
  refine lv_topi (fun y_1 ey_1 => ?_)
  obtain rfl : y_1 = 1 := ey_1.trans (by decide)
  refine va_sld hx hb hX hbl hbA hS h_in1 dL_law_451 ?_
  refine lv_aload_n hx hb dL_law_452 rfl (lv_at hl 3 rfl) ?_
  refine lv_iload_n hx hb dL_law_453 rfl (lv_at hl 0 rfl) ?_
  refine lv_iconst (v := 2) hx hb dL_law_454 (by decide) ?_
  refine lv_iadd hx hb dL_law_455 ?_
  refine lv_topi (fun y_2 ey_2 => ?_)
  obtain rfl : y_2 = 2 := ey_2.trans (by decide)
  refine va_sld hx hb hX hbl hbA hS h_in2 dL_law_456 ?_
  have hPc := hP.sub (ws' := [(x0, .inr (8, [.ref n0, .ref s0, .ref s1, .ref d0, .ref o0, .int 0, .int 0, .int 0, .int 50, .int 20, .ref w0, .ref e0, .ref f0, .ref t0, .ref b0, .int 0])), (n0, .inr (1, [.ref na, .int 0]))]) [0, 1] rfl
  have hKc := hK.sub (tys' := []) [] rfl
  refine vp_callSi (W.runV (As := [.int (xs (1 : Int32).toNatClampNeg), .int (xs (2 : Int32).toNatClampNeg)]) (rest := []) ⟨hx, hb, hml, hown, hts⟩ (c_X8_sieve l dC dI x0 n0 s0 s1 d0 o0 w0 e0 f0 t0 b0 na (xs (1 : Int32).toNatClampNeg) (xs (2 : Int32).toNatClampNeg)) (cwV 2 hts g_law__X8_sieve_50 rfl rfl rfl (by decide +kernel) ⟨Nat.le_of_ble_eq_true rfl, Nat.le_of_ble_eq_true rfl⟩) ⟨fun a U g mk q => by obtain ⟨q0, qP, qK⟩ := q; exact ⟨q0, qP, va_K.moved (u := U) (U := U.calling g mk a) (Vm.Alike.refl U.vm) qK⟩, va_recv hKc hPc (ci := 8) (q0 := 0) rfl rfl, fun U hU hW => ⟨rfl, by rw [hU]; exact hPc, va_K.moved hW.alike hKc⟩⟩ rfl rfl hl.1 rfl (lv_room (Nat.le_of_ble_eq_true rfl)) dL_law_457 ⟨Nat.le_of_ble_eq_true rfl, Nat.le_of_ble_eq_true rfl⟩) (fun r_3 hr_3 => ?_)
  try dsimp only at hr_3
  subst hr_3
  refine lv_aload_n hx hb dL_law_460 rfl (lv_at hl 1 rfl) ?_
  refine lv_aload_n hx hb dL_law_461 rfl (lv_at hl 3 rfl) ?_
  refine lv_iload_n hx hb dL_law_462 rfl (lv_at hl 0 rfl) ?_
  refine lv_iconst (v := 1) hx hb dL_law_463 (by decide) ?_
  refine lv_iadd hx hb dL_law_464 ?_
  refine lv_topi (fun y_4 ey_4 => ?_)
  obtain rfl : y_4 = 1 := ey_4.trans (by decide)
  refine va_sld hx hb hX hbl hbA hS h_in1 dL_law_465 ?_
  refine lv_aload_n hx hb dL_law_466 rfl (lv_at hl 3 rfl) ?_
  refine lv_iload_n hx hb dL_law_467 rfl (lv_at hl 0 rfl) ?_
  refine lv_iconst (v := 2) hx hb dL_law_468 (by decide) ?_
  refine lv_iadd hx hb dL_law_469 ?_
  refine lv_topi (fun y_5 ey_5 => ?_)
  obtain rfl : y_5 = 2 := ey_5.trans (by decide)
  refine va_sld hx hb hX hbl hbA hS h_in2 dL_law_470 ?_
  have hPc := hP.sub (ws' := [(m0, .inr (9, [.int 0, .ref a1, .ref a2, .ref a3, .ref a4, .ref a5, .int 50, .int 20, .int 0, .ref a6, .ref a7, .int 0, .ref a8, .int 0, .ref a9, .ref a10, .long 0, .long 0, .int 0, .long 0, .long 0, .ref a11]))]) [6] rfl
  have hKc := hK.sub (tys' := []) [] rfl
  refine vp_callSi (W.runV (As := [.int (xs (1 : Int32).toNatClampNeg), .int (xs (2 : Int32).toNatClampNeg)]) (rest := [.int (-100001)]) ⟨hx, hb, hml, hown, hts⟩ (c_X9_sieve l dC dI m0 a1 a2 a3 a4 a5 a6 a7 a8 a9 a10 a11 (xs (1 : Int32).toNatClampNeg) (xs (2 : Int32).toNatClampNeg)) (cwV 2 hts g_law__X9_sieve_53 rfl rfl rfl (by decide +kernel) ⟨Nat.le_of_ble_eq_true rfl, Nat.le_of_ble_eq_true rfl⟩) ⟨fun a U g mk q => by obtain ⟨q0, qP, qK⟩ := q; exact ⟨q0, qP, va_K.moved (u := U) (U := U.calling g mk a) (Vm.Alike.refl U.vm) qK⟩, va_recv hKc hPc (ci := 9) (q0 := 0) rfl rfl, fun U hU hW => ⟨rfl, by rw [hU]; exact hPc, va_K.moved hW.alike hKc⟩⟩ rfl rfl hl.1 rfl (lv_room (Nat.le_of_ble_eq_true rfl)) dL_law_471 ⟨Nat.le_of_ble_eq_true rfl, Nat.le_of_ble_eq_true rfl⟩) (fun r_6 hr_6 => ?_)
  try dsimp only at hr_6
  subst hr_6
  refine lv_icmp_eq (tgt := 957) hx hb dL_law_474 (by decide) (fun _ => ?_) (fun h9 => absurd h9 (by decide))
  refine W.widen (k := 600000) (n := 7302250) (Nat.le_of_ble_eq_true rfl) (Nat.le_of_ble_eq_true rfl) ?_
  exact law_end hL C0 hS (lv_sub hl [0, 3] rfl)
set_option maxHeartbeats 4000000 in
set_option maxRecDepth 100000 in
theorem lc_9 {p : Program} {l : Launch} {e : Env} {s : State} {m : MethodId} {below : List Frame} {meth : Method} {c : Code} {b L : Nat} {xs : Nat → Int32} (hL : L ≤ 6) (h6 : 6 ≤ L) (C0 : lw_At p s m meth c b L xs) {dC : Nat → ClassId} {dI : Nat → Nat → Nat} (hN : XN s) {x0 m0 n0 s0 s1 d0 o0 w0 e0 f0 t0 b0 na sa sb a1 a2 a3 a4 a5 a6 a7 a8 a9 a10 a11 : Nat} {kN kD k1 k2 k3 k4 k5 k6 k7 k9 : ClassId} {H : Heap} {locs : List Loc} (hK : va_K (dC, dI) vwCl [(kN, .object "MeetingsAbove$Thing"), (kD, .object "MeetingsAbove$Dot"), (k1, .int), (k2, .int), (k3, .int), (k4, .boolean), (k5, .int), (k6, .int), (k7, .int), (k9, .int)] s) (hP : va_P (dC, dI) vwCl [(x0, .inr (8, [.ref n0, .ref s0, .ref s1, .ref d0, .ref o0, .int 0, .int 0, .int 0, .int 50, .int 20, .ref w0, .ref e0, .ref f0, .ref t0, .ref b0, .int 0])), (n0, .inr (1, [.ref na, .int 0])), (na, .inl (kN, 16, .inr (.inr (.inr (.inr (fun _ => none)))))), (s0, .inr (1, [.ref sa, .int 0])), (s1, .inr (1, [.ref sb, .int 0])), (d0, .inl (kD, 40, .inr (.inr (.inr (.inr (fun _ => none)))))), (m0, .inr (9, [.int 0, .ref a1, .ref a2, .ref a3, .ref a4, .ref a5, .int 50, .int 20, .int 0, .ref a6, .ref a7, .int 0, .ref a8, .int 0, .ref a9, .ref a10, .long 0, .long 0, .int 0, .long 0, .long 0, .ref a11])), (a1, .inl (k1, 16, .inl (fun _ => 0))), (a2, .inl (k2, 16, .inl (fun _ => 0))), (a3, .inl (k3, 16, .inl (fun _ => 0))), (a4, .inl (k4, 16, .inl (fun _ => 0))), (a5, .inl (k5, 576, .inl (fun _ => 0))), (a6, .inl (k6, 40, .inl (fun _ => 0))), (a7, .inl (k7, 120, .inl (fun _ => 0))), (a9, .inl (k9, 2, .inl (upd (upd (fun _ => 0) (0 : Int32).toNatClampNeg (-1)) (1 : Int32).toNatClampNeg (-1))))] H) (hD : va_D (fun q : Nat => s.heap.size ≤ q) [(x0, .inr (8, [.ref n0, .ref s0, .ref s1, .ref d0, .ref o0, .int 0, .int 0, .int 0, .int 50, .int 20, .ref w0, .ref e0, .ref f0, .ref t0, .ref b0, .int 0])), (n0, .inr (1, [.ref na, .int 0])), (na, .inl (kN, 16, .inr (.inr (.inr (.inr (fun _ => none)))))), (s0, .inr (1, [.ref sa, .int 0])), (s1, .inr (1, [.ref sb, .int 0])), (d0, .inl (kD, 40, .inr (.inr (.inr (.inr (fun _ => none)))))), (m0, .inr (9, [.int 0, .ref a1, .ref a2, .ref a3, .ref a4, .ref a5, .int 50, .int 20, .int 0, .ref a6, .ref a7, .int 0, .ref a8, .int 0, .ref a9, .ref a10, .long 0, .long 0, .int 0, .long 0, .long 0, .ref a11])), (a1, .inl (k1, 16, .inl (fun _ => 0))), (a2, .inl (k2, 16, .inl (fun _ => 0))), (a3, .inl (k3, 16, .inl (fun _ => 0))), (a4, .inl (k4, 16, .inl (fun _ => 0))), (a5, .inl (k5, 576, .inl (fun _ => 0))), (a6, .inl (k6, 40, .inl (fun _ => 0))), (a7, .inl (k7, 120, .inl (fun _ => 0))), (a9, .inl (k9, 2, .inl (upd (upd (fun _ => 0) (0 : Int32).toNatClampNeg (-1)) (1 : Int32).toNatClampNeg (-1))))]) (hS : va_S (fun q : Nat => s.heap.size ≤ q) s.heap H locs) {ls : Array Slot} (hl : lv_has ls 4 [(3, .int 0), (2, .ref m0), (1, .ref x0), (0, .ref b)]) : W p l e room_1 s m #[Value.ref b] below meth c H locs 29 2637 (lw_Z below #[Value.ref b] s) (F0 m 479 ls []) := by
  obtain ⟨hx, hb, hr, hml, hown, hts, hX, hbl, hlocks, hgv⟩ := id C0
  have hts := fun w h => hts w (wlaw_in w h)
  have hA : ∀ q : Nat, s.heap.size ≤ q → (fun q : Nat => s.heap.size ≤ q) q := fun _ h => h
  have hbA : ¬ (fun q : Nat => s.heap.size ≤ q) b := Nat.not_le.mpr hbl
  have h_in0 : vp_in (0 : Int32) L := vp_in_nI (n := 0) (by omega) (by omega)
  have h_in1 : vp_in (1 : Int32) L := vp_in_nI (n := 1) (by omega) (by omega)
  have h_in2 : vp_in (2 : Int32) L := vp_in_nI (n := 2) (by omega) (by omega)
  have h_in3 : vp_in (3 : Int32) L := vp_in_nI (n := 3) (by omega) (by omega)
  have h_in4 : vp_in (4 : Int32) L := vp_in_nI (n := 4) (by omega) (by omega)
  have h_in5 : vp_in (5 : Int32) L := vp_in_nI (n := 5) (by omega) (by omega)
  refine lv_aload_n hx hb dL_law_479 rfl (lv_at hl 2 rfl) ?_
  refine lv_aload_n hx hb dL_law_480 rfl (lv_at hl 3 rfl) ?_
  refine lv_iload_n hx hb dL_law_481 rfl (lv_at hl 0 rfl) ?_
  refine lv_iconst (v := 1) hx hb dL_law_482 (by decide) ?_
  refine lv_iadd hx hb dL_law_483 ?_
  refine lv_topi (fun y_1 ey_1 => ?_)
  obtain rfl : y_1 = 1 := ey_1.trans (by decide)
  refine va_sld hx hb hX hbl hbA hS h_in1 dL_law_484 ?_
  refine lv_aload_n hx hb dL_law_485 rfl (lv_at hl 3 rfl) ?_
  refine lv_iload_n hx hb dL_law_486 rfl (lv_at hl 0 rfl) ?_
  refine lv_iconst (v := 2) hx hb dL_law_487 (by decide) ?_
  refine lv_iadd hx hb dL_law_488 ?_
  refine lv_topi (fun y_2 ey_2 => ?_)
  obtain rfl : y_2 = 2 := ey_2.trans (by decide)
  refine va_sld hx hb hX hbl hbA hS h_in2 dL_law_489 ?_
  refine lv_aload_n hx hb dL_law_490 rfl (lv_at hl 3 rfl) ?_
  refine lv_iload_n hx hb dL_law_491 rfl (lv_at hl 0 rfl) ?_
  refine lv_iconst (v := 3) hx hb dL_law_492 (by decide) ?_
  refine lv_iadd hx hb dL_law_493 ?_
  refine lv_topi (fun y_3 ey_3 => ?_)
  obtain rfl : y_3 = 3 := ey_3.trans (by decide)
  refine va_sld hx hb hX hbl hbA hS h_in3 dL_law_494 ?_
  have hPc := hP.sub (ws' := [(x0, .inr (8, [.ref n0, .ref s0, .ref s1, .ref d0, .ref o0, .int 0, .int 0, .int 0, .int 50, .int 20, .ref w0, .ref e0, .ref f0, .ref t0, .ref b0, .int 0])), (n0, .inr (1, [.ref na, .int 0]))]) [0, 1] rfl
  have hKc := hK.sub (tys' := []) [] rfl
  refine vp_callSl (W.runV (As := [.int (xs (1 : Int32).toNatClampNeg), .int (xs (2 : Int32).toNatClampNeg), .int (xs (3 : Int32).toNatClampNeg)]) (rest := []) ⟨hx, hb, hml, hown, hts⟩ (c_X8_least l dC dI x0 n0 s0 s1 d0 o0 w0 e0 f0 t0 b0 na (xs (1 : Int32).toNatClampNeg) (xs (2 : Int32).toNatClampNeg) (xs (3 : Int32).toNatClampNeg)) (cwV 3 hts g_law__X8_least_54 rfl rfl rfl (by decide +kernel) ⟨Nat.le_of_ble_eq_true rfl, Nat.le_of_ble_eq_true rfl⟩) ⟨fun a U g mk q => by obtain ⟨q0, qP, qK⟩ := q; exact ⟨q0, qP, va_K.moved (u := U) (U := U.calling g mk a) (Vm.Alike.refl U.vm) qK⟩, va_recv hKc hPc (ci := 8) (q0 := 0) rfl rfl, fun U hU hW => ⟨rfl, by rw [hU]; exact hPc, va_K.moved hW.alike hKc⟩⟩ rfl rfl hl.1 rfl (lv_room (Nat.le_of_ble_eq_true rfl)) dL_law_495 ⟨Nat.le_of_ble_eq_true rfl, Nat.le_of_ble_eq_true rfl⟩) (fun r_4 hr_4 => ?_)
  try dsimp only at hr_4
  subst hr_4
  refine lv_aload_n hx hb dL_law_498 rfl (lv_at hl 1 rfl) ?_
  refine lv_aload_n hx hb dL_law_499 rfl (lv_at hl 3 rfl) ?_
  refine lv_iload_n hx hb dL_law_500 rfl (lv_at hl 0 rfl) ?_
  refine lv_iconst (v := 1) hx hb dL_law_501 (by decide) ?_
  refine lv_iadd hx hb dL_law_502 ?_
  refine lv_topi (fun y_5 ey_5 => ?_)
  obtain rfl : y_5 = 1 := ey_5.trans (by decide)
  refine va_sld hx hb hX hbl hbA hS h_in1 dL_law_503 ?_
  refine lv_aload_n hx hb dL_law_504 rfl (lv_at hl 3 rfl) ?_
  refine lv_iload_n hx hb dL_law_505 rfl (lv_at hl 0 rfl) ?_
  refine lv_iconst (v := 2) hx hb dL_law_506 (by decide) ?_
  refine lv_iadd hx hb dL_law_507 ?_
  refine lv_topi (fun y_6 ey_6 => ?_)
  obtain rfl : y_6 = 2 := ey_6.trans (by decide)
  refine va_sld hx hb hX hbl hbA hS h_in2 dL_law_508 ?_
  refine lv_aload_n hx hb dL_law_509 rfl (lv_at hl 3 rfl) ?_
  refine lv_iload_n hx hb dL_law_510 rfl (lv_at hl 0 rfl) ?_
  refine lv_iconst (v := 3) hx hb dL_law_511 (by decide) ?_
  refine lv_iadd hx hb dL_law_512 ?_
  refine lv_topi (fun y_7 ey_7 => ?_)
  obtain rfl : y_7 = 3 := ey_7.trans (by decide)
  refine va_sld hx hb hX hbl hbA hS h_in3 dL_law_513 ?_
  have hPc := hP.sub (ws' := [(m0, .inr (9, [.int 0, .ref a1, .ref a2, .ref a3, .ref a4, .ref a5, .int 50, .int 20, .int 0, .ref a6, .ref a7, .int 0, .ref a8, .int 0, .ref a9, .ref a10, .long 0, .long 0, .int 0, .long 0, .long 0, .ref a11]))]) [6] rfl
  have hKc := hK.sub (tys' := []) [] rfl
  refine vp_callSl (W.runV (As := [.int (xs (1 : Int32).toNatClampNeg), .int (xs (2 : Int32).toNatClampNeg), .int (xs (3 : Int32).toNatClampNeg)]) (rest := [.long (-100001)]) ⟨hx, hb, hml, hown, hts⟩ (c_X9_least l dC dI m0 a1 a2 a3 a4 a5 a6 a7 a8 a9 a10 a11 (xs (1 : Int32).toNatClampNeg) (xs (2 : Int32).toNatClampNeg) (xs (3 : Int32).toNatClampNeg)) (cwV 3 hts g_law__X9_least_58 rfl rfl rfl (by decide +kernel) ⟨Nat.le_of_ble_eq_true rfl, Nat.le_of_ble_eq_true rfl⟩) ⟨fun a U g mk q => by obtain ⟨q0, qP, qK⟩ := q; exact ⟨q0, qP, va_K.moved (u := U) (U := U.calling g mk a) (Vm.Alike.refl U.vm) qK⟩, va_recv hKc hPc (ci := 9) (q0 := 0) rfl rfl, fun U hU hW => ⟨rfl, by rw [hU]; exact hPc, va_K.moved hW.alike hKc⟩⟩ rfl rfl hl.1 rfl (lv_room (Nat.le_of_ble_eq_true rfl)) dL_law_514 ⟨Nat.le_of_ble_eq_true rfl, Nat.le_of_ble_eq_true rfl⟩) (fun r_8 hr_8 => ?_)
  try dsimp only at hr_8
  subst hr_8
  refine W.lcmp hx hb dL_law_517 ?_
  refine lv_topi (fun y_9 ey_9 => ?_)
  obtain rfl : y_9 = 0 := ey_9.trans (by decide)
  refine lv_if_eq (tgt := 957) hx hb dL_law_518 (by decide) (fun _ => ?_) (fun h9 => absurd h9 (by decide))
  refine W.widen (k := 600000) (n := 7302250) (Nat.le_of_ble_eq_true rfl) (Nat.le_of_ble_eq_true rfl) ?_
  exact law_end hL C0 hS (lv_sub hl [0, 3] rfl)
set_option maxHeartbeats 4000000 in
set_option maxRecDepth 100000 in
theorem lc_10 {p : Program} {l : Launch} {e : Env} {s : State} {m : MethodId} {below : List Frame} {meth : Method} {c : Code} {b L : Nat} {xs : Nat → Int32} (hL : L ≤ 6) (h6 : 6 ≤ L) (C0 : lw_At p s m meth c b L xs) {dC : Nat → ClassId} {dI : Nat → Nat → Nat} (hN : XN s) {x0 m0 n0 s0 s1 d0 o0 w0 e0 f0 t0 b0 na sa sb a1 a2 a3 a4 a5 a6 a7 a8 a9 a10 a11 : Nat} {kN kD k1 k2 k3 k4 k5 k6 k7 k9 : ClassId} {H : Heap} {locs : List Loc} (hK : va_K (dC, dI) vwCl [(kN, .object "MeetingsAbove$Thing"), (kD, .object "MeetingsAbove$Dot"), (k1, .int), (k2, .int), (k3, .int), (k4, .boolean), (k5, .int), (k6, .int), (k7, .int), (k9, .int)] s) (hP : va_P (dC, dI) vwCl [(x0, .inr (8, [.ref n0, .ref s0, .ref s1, .ref d0, .ref o0, .int 0, .int 0, .int 0, .int 50, .int 20, .ref w0, .ref e0, .ref f0, .ref t0, .ref b0, .int 0])), (n0, .inr (1, [.ref na, .int 0])), (na, .inl (kN, 16, .inr (.inr (.inr (.inr (fun _ => none)))))), (s0, .inr (1, [.ref sa, .int 0])), (s1, .inr (1, [.ref sb, .int 0])), (d0, .inl (kD, 40, .inr (.inr (.inr (.inr (fun _ => none)))))), (m0, .inr (9, [.int 0, .ref a1, .ref a2, .ref a3, .ref a4, .ref a5, .int 50, .int 20, .int 0, .ref a6, .ref a7, .int 0, .ref a8, .int 0, .ref a9, .ref a10, .long 0, .long 0, .int 0, .long 0, .long 0, .ref a11])), (a1, .inl (k1, 16, .inl (fun _ => 0))), (a2, .inl (k2, 16, .inl (fun _ => 0))), (a3, .inl (k3, 16, .inl (fun _ => 0))), (a4, .inl (k4, 16, .inl (fun _ => 0))), (a5, .inl (k5, 576, .inl (fun _ => 0))), (a6, .inl (k6, 40, .inl (fun _ => 0))), (a7, .inl (k7, 120, .inl (fun _ => 0))), (a9, .inl (k9, 2, .inl (upd (upd (fun _ => 0) (0 : Int32).toNatClampNeg (-1)) (1 : Int32).toNatClampNeg (-1))))] H) (hD : va_D (fun q : Nat => s.heap.size ≤ q) [(x0, .inr (8, [.ref n0, .ref s0, .ref s1, .ref d0, .ref o0, .int 0, .int 0, .int 0, .int 50, .int 20, .ref w0, .ref e0, .ref f0, .ref t0, .ref b0, .int 0])), (n0, .inr (1, [.ref na, .int 0])), (na, .inl (kN, 16, .inr (.inr (.inr (.inr (fun _ => none)))))), (s0, .inr (1, [.ref sa, .int 0])), (s1, .inr (1, [.ref sb, .int 0])), (d0, .inl (kD, 40, .inr (.inr (.inr (.inr (fun _ => none)))))), (m0, .inr (9, [.int 0, .ref a1, .ref a2, .ref a3, .ref a4, .ref a5, .int 50, .int 20, .int 0, .ref a6, .ref a7, .int 0, .ref a8, .int 0, .ref a9, .ref a10, .long 0, .long 0, .int 0, .long 0, .long 0, .ref a11])), (a1, .inl (k1, 16, .inl (fun _ => 0))), (a2, .inl (k2, 16, .inl (fun _ => 0))), (a3, .inl (k3, 16, .inl (fun _ => 0))), (a4, .inl (k4, 16, .inl (fun _ => 0))), (a5, .inl (k5, 576, .inl (fun _ => 0))), (a6, .inl (k6, 40, .inl (fun _ => 0))), (a7, .inl (k7, 120, .inl (fun _ => 0))), (a9, .inl (k9, 2, .inl (upd (upd (fun _ => 0) (0 : Int32).toNatClampNeg (-1)) (1 : Int32).toNatClampNeg (-1))))]) (hS : va_S (fun q : Nat => s.heap.size ≤ q) s.heap H locs) {ls : Array Slot} (hl : lv_has ls 4 [(3, .int 0), (2, .ref m0), (1, .ref x0), (0, .ref b)]) : W p l e room_1 s m #[Value.ref b] below meth c H locs 29 2637 (lw_Z below #[Value.ref b] s) (F0 m 523 ls []) := by
  obtain ⟨hx, hb, hr, hml, hown, hts, hX, hbl, hlocks, hgv⟩ := id C0
  have hts := fun w h => hts w (wlaw_in w h)
  have hA : ∀ q : Nat, s.heap.size ≤ q → (fun q : Nat => s.heap.size ≤ q) q := fun _ h => h
  have hbA : ¬ (fun q : Nat => s.heap.size ≤ q) b := Nat.not_le.mpr hbl
  have h_in0 : vp_in (0 : Int32) L := vp_in_nI (n := 0) (by omega) (by omega)
  have h_in1 : vp_in (1 : Int32) L := vp_in_nI (n := 1) (by omega) (by omega)
  have h_in2 : vp_in (2 : Int32) L := vp_in_nI (n := 2) (by omega) (by omega)
  have h_in3 : vp_in (3 : Int32) L := vp_in_nI (n := 3) (by omega) (by omega)
  have h_in4 : vp_in (4 : Int32) L := vp_in_nI (n := 4) (by omega) (by omega)
  have h_in5 : vp_in (5 : Int32) L := vp_in_nI (n := 5) (by omega) (by omega)
  refine lv_aload_n hx hb dL_law_523 rfl (lv_at hl 2 rfl) ?_
  refine lv_aload_n hx hb dL_law_524 rfl (lv_at hl 3 rfl) ?_
  refine lv_iload_n hx hb dL_law_525 rfl (lv_at hl 0 rfl) ?_
  refine lv_iconst (v := 1) hx hb dL_law_526 (by decide) ?_
  refine lv_iadd hx hb dL_law_527 ?_
  refine lv_topi (fun y_1 ey_1 => ?_)
  obtain rfl : y_1 = 1 := ey_1.trans (by decide)
  refine va_sld hx hb hX hbl hbA hS h_in1 dL_law_528 ?_
  refine lv_aload_n hx hb dL_law_529 rfl (lv_at hl 3 rfl) ?_
  refine lv_iload_n hx hb dL_law_530 rfl (lv_at hl 0 rfl) ?_
  refine lv_iconst (v := 2) hx hb dL_law_531 (by decide) ?_
  refine lv_iadd hx hb dL_law_532 ?_
  refine lv_topi (fun y_2 ey_2 => ?_)
  obtain rfl : y_2 = 2 := ey_2.trans (by decide)
  refine va_sld hx hb hX hbl hbA hS h_in2 dL_law_533 ?_
  have hPc := hP.sub (ws' := [(x0, .inr (8, [.ref n0, .ref s0, .ref s1, .ref d0, .ref o0, .int 0, .int 0, .int 0, .int 50, .int 20, .ref w0, .ref e0, .ref f0, .ref t0, .ref b0, .int 0])), (n0, .inr (1, [.ref na, .int 0]))]) [0, 1] rfl
  have hKc := hK.sub (tys' := []) [] rfl
  refine vp_callSi (W.runV (As := [.int (xs (1 : Int32).toNatClampNeg), .int (xs (2 : Int32).toNatClampNeg)]) (rest := []) ⟨hx, hb, hml, hown, hts⟩ (c_X8_meeting l dC dI x0 n0 s0 s1 d0 o0 w0 e0 f0 t0 b0 na (xs (1 : Int32).toNatClampNeg) (xs (2 : Int32).toNatClampNeg)) (cwV 2 hts g_law__X8_meeting_59 rfl rfl rfl (by decide +kernel) ⟨Nat.le_of_ble_eq_true rfl, Nat.le_of_ble_eq_true rfl⟩) ⟨fun a U g mk q => by obtain ⟨q0, qP, qK⟩ := q; exact ⟨q0, qP, va_K.moved (u := U) (U := U.calling g mk a) (Vm.Alike.refl U.vm) qK⟩, va_recv hKc hPc (ci := 8) (q0 := 0) rfl rfl, fun U hU hW => ⟨rfl, by rw [hU]; exact hPc, va_K.moved hW.alike hKc⟩⟩ rfl rfl hl.1 rfl (lv_room (Nat.le_of_ble_eq_true rfl)) dL_law_534 ⟨Nat.le_of_ble_eq_true rfl, Nat.le_of_ble_eq_true rfl⟩) (fun r_3 hr_3 => ?_)
  try dsimp only at hr_3
  subst hr_3
  refine lv_aload_n hx hb dL_law_537 rfl (lv_at hl 1 rfl) ?_
  refine lv_aload_n hx hb dL_law_538 rfl (lv_at hl 3 rfl) ?_
  refine lv_iload_n hx hb dL_law_539 rfl (lv_at hl 0 rfl) ?_
  refine lv_iconst (v := 1) hx hb dL_law_540 (by decide) ?_
  refine lv_iadd hx hb dL_law_541 ?_
  refine lv_topi (fun y_4 ey_4 => ?_)
  obtain rfl : y_4 = 1 := ey_4.trans (by decide)
  refine va_sld hx hb hX hbl hbA hS h_in1 dL_law_542 ?_
  refine lv_aload_n hx hb dL_law_543 rfl (lv_at hl 3 rfl) ?_
  refine lv_iload_n hx hb dL_law_544 rfl (lv_at hl 0 rfl) ?_
  refine lv_iconst (v := 2) hx hb dL_law_545 (by decide) ?_
  refine lv_iadd hx hb dL_law_546 ?_
  refine lv_topi (fun y_5 ey_5 => ?_)
  obtain rfl : y_5 = 2 := ey_5.trans (by decide)
  refine va_sld hx hb hX hbl hbA hS h_in2 dL_law_547 ?_
  have hPc := hP.sub (ws' := [(m0, .inr (9, [.int 0, .ref a1, .ref a2, .ref a3, .ref a4, .ref a5, .int 50, .int 20, .int 0, .ref a6, .ref a7, .int 0, .ref a8, .int 0, .ref a9, .ref a10, .long 0, .long 0, .int 0, .long 0, .long 0, .ref a11]))]) [6] rfl
  have hKc := hK.sub (tys' := []) [] rfl
  refine vp_callSi (W.runV (As := [.int (xs (1 : Int32).toNatClampNeg), .int (xs (2 : Int32).toNatClampNeg)]) (rest := [.int (an_meeting (xs (2 : Int32).toNatClampNeg))]) ⟨hx, hb, hml, hown, hts⟩ (c_X9_meeting l dC dI m0 a1 a2 a3 a4 a5 a6 a7 a8 a9 a10 a11 (xs (1 : Int32).toNatClampNeg) (xs (2 : Int32).toNatClampNeg)) (cwV 2 hts g_law__X9_meeting_62 rfl rfl rfl (by decide +kernel) ⟨Nat.le_of_ble_eq_true rfl, Nat.le_of_ble_eq_true rfl⟩) ⟨fun a U g mk q => by obtain ⟨q0, qP, qK⟩ := q; exact ⟨q0, qP, va_K.moved (u := U) (U := U.calling g mk a) (Vm.Alike.refl U.vm) qK⟩, va_recv hKc hPc (ci := 9) (q0 := 0) rfl rfl, fun U hU hW => ⟨rfl, by rw [hU]; exact hPc, va_K.moved hW.alike hKc⟩⟩ rfl rfl hl.1 rfl (lv_room (Nat.le_of_ble_eq_true rfl)) dL_law_548 ⟨Nat.le_of_ble_eq_true rfl, Nat.le_of_ble_eq_true rfl⟩) (fun r_6 hr_6 => ?_)
  try dsimp only at hr_6
  subst hr_6
  refine lv_icmp_eq (tgt := 957) hx hb dL_law_551 (by decide) (fun _ => ?_) (fun h9 => absurd rfl h9)
  refine W.widen (k := 600000) (n := 7302250) (Nat.le_of_ble_eq_true rfl) (Nat.le_of_ble_eq_true rfl) ?_
  exact law_end hL C0 hS (lv_sub hl [0, 3] rfl)
set_option maxHeartbeats 4000000 in
set_option maxRecDepth 100000 in
theorem lc_11 {p : Program} {l : Launch} {e : Env} {s : State} {m : MethodId} {below : List Frame} {meth : Method} {c : Code} {b L : Nat} {xs : Nat → Int32} (hL : L ≤ 6) (h6 : 6 ≤ L) (C0 : lw_At p s m meth c b L xs) {dC : Nat → ClassId} {dI : Nat → Nat → Nat} (hN : XN s) {x0 m0 n0 s0 s1 d0 o0 w0 e0 f0 t0 b0 na sa sb a1 a2 a3 a4 a5 a6 a7 a8 a9 a10 a11 : Nat} {kN kD k1 k2 k3 k4 k5 k6 k7 k9 : ClassId} {H : Heap} {locs : List Loc} (hK : va_K (dC, dI) vwCl [(kN, .object "MeetingsAbove$Thing"), (kD, .object "MeetingsAbove$Dot"), (k1, .int), (k2, .int), (k3, .int), (k4, .boolean), (k5, .int), (k6, .int), (k7, .int), (k9, .int)] s) (hP : va_P (dC, dI) vwCl [(x0, .inr (8, [.ref n0, .ref s0, .ref s1, .ref d0, .ref o0, .int 0, .int 0, .int 0, .int 50, .int 20, .ref w0, .ref e0, .ref f0, .ref t0, .ref b0, .int 0])), (n0, .inr (1, [.ref na, .int 0])), (na, .inl (kN, 16, .inr (.inr (.inr (.inr (fun _ => none)))))), (s0, .inr (1, [.ref sa, .int 0])), (s1, .inr (1, [.ref sb, .int 0])), (d0, .inl (kD, 40, .inr (.inr (.inr (.inr (fun _ => none)))))), (m0, .inr (9, [.int 0, .ref a1, .ref a2, .ref a3, .ref a4, .ref a5, .int 50, .int 20, .int 0, .ref a6, .ref a7, .int 0, .ref a8, .int 0, .ref a9, .ref a10, .long 0, .long 0, .int 0, .long 0, .long 0, .ref a11])), (a1, .inl (k1, 16, .inl (fun _ => 0))), (a2, .inl (k2, 16, .inl (fun _ => 0))), (a3, .inl (k3, 16, .inl (fun _ => 0))), (a4, .inl (k4, 16, .inl (fun _ => 0))), (a5, .inl (k5, 576, .inl (fun _ => 0))), (a6, .inl (k6, 40, .inl (fun _ => 0))), (a7, .inl (k7, 120, .inl (fun _ => 0))), (a9, .inl (k9, 2, .inl (upd (upd (fun _ => 0) (0 : Int32).toNatClampNeg (-1)) (1 : Int32).toNatClampNeg (-1))))] H) (hD : va_D (fun q : Nat => s.heap.size ≤ q) [(x0, .inr (8, [.ref n0, .ref s0, .ref s1, .ref d0, .ref o0, .int 0, .int 0, .int 0, .int 50, .int 20, .ref w0, .ref e0, .ref f0, .ref t0, .ref b0, .int 0])), (n0, .inr (1, [.ref na, .int 0])), (na, .inl (kN, 16, .inr (.inr (.inr (.inr (fun _ => none)))))), (s0, .inr (1, [.ref sa, .int 0])), (s1, .inr (1, [.ref sb, .int 0])), (d0, .inl (kD, 40, .inr (.inr (.inr (.inr (fun _ => none)))))), (m0, .inr (9, [.int 0, .ref a1, .ref a2, .ref a3, .ref a4, .ref a5, .int 50, .int 20, .int 0, .ref a6, .ref a7, .int 0, .ref a8, .int 0, .ref a9, .ref a10, .long 0, .long 0, .int 0, .long 0, .long 0, .ref a11])), (a1, .inl (k1, 16, .inl (fun _ => 0))), (a2, .inl (k2, 16, .inl (fun _ => 0))), (a3, .inl (k3, 16, .inl (fun _ => 0))), (a4, .inl (k4, 16, .inl (fun _ => 0))), (a5, .inl (k5, 576, .inl (fun _ => 0))), (a6, .inl (k6, 40, .inl (fun _ => 0))), (a7, .inl (k7, 120, .inl (fun _ => 0))), (a9, .inl (k9, 2, .inl (upd (upd (fun _ => 0) (0 : Int32).toNatClampNeg (-1)) (1 : Int32).toNatClampNeg (-1))))]) (hS : va_S (fun q : Nat => s.heap.size ≤ q) s.heap H locs) {ls : Array Slot} (hl : lv_has ls 4 [(3, .int 0), (2, .ref m0), (1, .ref x0), (0, .ref b)]) : W p l e room_1 s m #[Value.ref b] below meth c H locs 29 2637 (lw_Z below #[Value.ref b] s) (F0 m 556 ls []) := by
  obtain ⟨hx, hb, hr, hml, hown, hts, hX, hbl, hlocks, hgv⟩ := id C0
  have hts := fun w h => hts w (wlaw_in w h)
  have hA : ∀ q : Nat, s.heap.size ≤ q → (fun q : Nat => s.heap.size ≤ q) q := fun _ h => h
  have hbA : ¬ (fun q : Nat => s.heap.size ≤ q) b := Nat.not_le.mpr hbl
  have h_in0 : vp_in (0 : Int32) L := vp_in_nI (n := 0) (by omega) (by omega)
  have h_in1 : vp_in (1 : Int32) L := vp_in_nI (n := 1) (by omega) (by omega)
  have h_in2 : vp_in (2 : Int32) L := vp_in_nI (n := 2) (by omega) (by omega)
  have h_in3 : vp_in (3 : Int32) L := vp_in_nI (n := 3) (by omega) (by omega)
  have h_in4 : vp_in (4 : Int32) L := vp_in_nI (n := 4) (by omega) (by omega)
  have h_in5 : vp_in (5 : Int32) L := vp_in_nI (n := 5) (by omega) (by omega)
  refine lv_aload_n hx hb dL_law_556 rfl (lv_at hl 2 rfl) ?_
  refine lv_aload_n hx hb dL_law_557 rfl (lv_at hl 3 rfl) ?_
  refine lv_iload_n hx hb dL_law_558 rfl (lv_at hl 0 rfl) ?_
  refine lv_iconst (v := 1) hx hb dL_law_559 (by decide) ?_
  refine lv_iadd hx hb dL_law_560 ?_
  refine lv_topi (fun y_1 ey_1 => ?_)
  obtain rfl : y_1 = 1 := ey_1.trans (by decide)
  refine va_sld hx hb hX hbl hbA hS h_in1 dL_law_561 ?_
  refine lv_aload_n hx hb dL_law_562 rfl (lv_at hl 3 rfl) ?_
  refine lv_iload_n hx hb dL_law_563 rfl (lv_at hl 0 rfl) ?_
  refine lv_iconst (v := 2) hx hb dL_law_564 (by decide) ?_
  refine lv_iadd hx hb dL_law_565 ?_
  refine lv_topi (fun y_2 ey_2 => ?_)
  obtain rfl : y_2 = 2 := ey_2.trans (by decide)
  refine va_sld hx hb hX hbl hbA hS h_in2 dL_law_566 ?_
  refine lv_aload_n hx hb dL_law_567 rfl (lv_at hl 3 rfl) ?_
  refine lv_iload_n hx hb dL_law_568 rfl (lv_at hl 0 rfl) ?_
  refine lv_iconst (v := 3) hx hb dL_law_569 (by decide) ?_
  refine lv_iadd hx hb dL_law_570 ?_
  refine lv_topi (fun y_3 ey_3 => ?_)
  obtain rfl : y_3 = 3 := ey_3.trans (by decide)
  refine va_sld hx hb hX hbl hbA hS h_in3 dL_law_571 ?_
  refine lv_aload_n hx hb dL_law_572 rfl (lv_at hl 3 rfl) ?_
  refine lv_iload_n hx hb dL_law_573 rfl (lv_at hl 0 rfl) ?_
  refine lv_iconst (v := 4) hx hb dL_law_574 (by decide) ?_
  refine lv_iadd hx hb dL_law_575 ?_
  refine lv_topi (fun y_4 ey_4 => ?_)
  obtain rfl : y_4 = 4 := ey_4.trans (by decide)
  refine va_sld hx hb hX hbl hbA hS h_in4 dL_law_576 ?_
  have hPc := hP.sub (ws' := [(x0, .inr (8, [.ref n0, .ref s0, .ref s1, .ref d0, .ref o0, .int 0, .int 0, .int 0, .int 50, .int 20, .ref w0, .ref e0, .ref f0, .ref t0, .ref b0, .int 0])), (n0, .inr (1, [.ref na, .int 0]))]) [0, 1] rfl
  have hKc := hK.sub (tys' := []) [] rfl
  refine vp_callSl (W.runV (As := [.int (xs (1 : Int32).toNatClampNeg), .int (xs (2 : Int32).toNatClampNeg), .int (xs (3 : Int32).toNatClampNeg), .int (xs (4 : Int32).toNatClampNeg)]) (rest := []) ⟨hx, hb, hml, hown, hts⟩ (c_X8_share l dC dI x0 n0 s0 s1 d0 o0 w0 e0 f0 t0 b0 na (xs (1 : Int32).toNatClampNeg) (xs (2 : Int32).toNatClampNeg) (xs (3 : Int32).toNatClampNeg) (xs (4 : Int32).toNatClampNeg)) (cwV 4 hts g_law__X8_share_63 rfl rfl rfl (by decide +kernel) ⟨Nat.le_of_ble_eq_true rfl, Nat.le_of_ble_eq_true rfl⟩) ⟨fun a U g mk q => by obtain ⟨q0, qP, qK⟩ := q; exact ⟨q0, qP, va_K.moved (u := U) (U := U.calling g mk a) (Vm.Alike.refl U.vm) qK⟩, va_recv hKc hPc (ci := 8) (q0 := 0) rfl rfl, fun U hU hW => ⟨rfl, by rw [hU]; exact hPc, va_K.moved hW.alike hKc⟩⟩ rfl rfl hl.1 rfl (lv_room (Nat.le_of_ble_eq_true rfl)) dL_law_577 ⟨Nat.le_of_ble_eq_true rfl, Nat.le_of_ble_eq_true rfl⟩) (fun r_5 hr_5 => ?_)
  try dsimp only at hr_5
  subst hr_5
  refine lv_aload_n hx hb dL_law_580 rfl (lv_at hl 1 rfl) ?_
  refine lv_aload_n hx hb dL_law_581 rfl (lv_at hl 3 rfl) ?_
  refine lv_iload_n hx hb dL_law_582 rfl (lv_at hl 0 rfl) ?_
  refine lv_iconst (v := 1) hx hb dL_law_583 (by decide) ?_
  refine lv_iadd hx hb dL_law_584 ?_
  refine lv_topi (fun y_6 ey_6 => ?_)
  obtain rfl : y_6 = 1 := ey_6.trans (by decide)
  refine va_sld hx hb hX hbl hbA hS h_in1 dL_law_585 ?_
  refine lv_aload_n hx hb dL_law_586 rfl (lv_at hl 3 rfl) ?_
  refine lv_iload_n hx hb dL_law_587 rfl (lv_at hl 0 rfl) ?_
  refine lv_iconst (v := 2) hx hb dL_law_588 (by decide) ?_
  refine lv_iadd hx hb dL_law_589 ?_
  refine lv_topi (fun y_7 ey_7 => ?_)
  obtain rfl : y_7 = 2 := ey_7.trans (by decide)
  refine va_sld hx hb hX hbl hbA hS h_in2 dL_law_590 ?_
  refine lv_aload_n hx hb dL_law_591 rfl (lv_at hl 3 rfl) ?_
  refine lv_iload_n hx hb dL_law_592 rfl (lv_at hl 0 rfl) ?_
  refine lv_iconst (v := 3) hx hb dL_law_593 (by decide) ?_
  refine lv_iadd hx hb dL_law_594 ?_
  refine lv_topi (fun y_8 ey_8 => ?_)
  obtain rfl : y_8 = 3 := ey_8.trans (by decide)
  refine va_sld hx hb hX hbl hbA hS h_in3 dL_law_595 ?_
  refine lv_aload_n hx hb dL_law_596 rfl (lv_at hl 3 rfl) ?_
  refine lv_iload_n hx hb dL_law_597 rfl (lv_at hl 0 rfl) ?_
  refine lv_iconst (v := 4) hx hb dL_law_598 (by decide) ?_
  refine lv_iadd hx hb dL_law_599 ?_
  refine lv_topi (fun y_9 ey_9 => ?_)
  obtain rfl : y_9 = 4 := ey_9.trans (by decide)
  refine va_sld hx hb hX hbl hbA hS h_in4 dL_law_600 ?_
  have hPc := hP.sub (ws' := [(m0, .inr (9, [.int 0, .ref a1, .ref a2, .ref a3, .ref a4, .ref a5, .int 50, .int 20, .int 0, .ref a6, .ref a7, .int 0, .ref a8, .int 0, .ref a9, .ref a10, .long 0, .long 0, .int 0, .long 0, .long 0, .ref a11]))]) [6] rfl
  have hKc := hK.sub (tys' := []) [] rfl
  refine vp_callSl (W.runV (As := [.int (xs (1 : Int32).toNatClampNeg), .int (xs (2 : Int32).toNatClampNeg), .int (xs (3 : Int32).toNatClampNeg), .int (xs (4 : Int32).toNatClampNeg)]) (rest := [.long (-100001)]) ⟨hx, hb, hml, hown, hts⟩ (c_X9_share l dC dI m0 a1 a2 a3 a4 a5 a6 a7 a8 a9 a10 a11 (xs (1 : Int32).toNatClampNeg) (xs (2 : Int32).toNatClampNeg) (xs (3 : Int32).toNatClampNeg) (xs (4 : Int32).toNatClampNeg)) (cwV 4 hts g_law__X9_share_67 rfl rfl rfl (by decide +kernel) ⟨Nat.le_of_ble_eq_true rfl, Nat.le_of_ble_eq_true rfl⟩) ⟨fun a U g mk q => by obtain ⟨q0, qP, qK⟩ := q; exact ⟨q0, qP, va_K.moved (u := U) (U := U.calling g mk a) (Vm.Alike.refl U.vm) qK⟩, va_recv hKc hPc (ci := 9) (q0 := 0) rfl rfl, fun U hU hW => ⟨rfl, by rw [hU]; exact hPc, va_K.moved hW.alike hKc⟩⟩ rfl rfl hl.1 rfl (lv_room (Nat.le_of_ble_eq_true rfl)) dL_law_601 ⟨Nat.le_of_ble_eq_true rfl, Nat.le_of_ble_eq_true rfl⟩) (fun r_10 hr_10 => ?_)
  try dsimp only at hr_10
  subst hr_10
  refine W.lcmp hx hb dL_law_604 ?_
  refine lv_topi (fun y_11 ey_11 => ?_)
  obtain rfl : y_11 = 0 := ey_11.trans (by decide)
  refine lv_if_eq (tgt := 957) hx hb dL_law_605 (by decide) (fun _ => ?_) (fun h9 => absurd h9 (by decide))
  refine W.widen (k := 600000) (n := 7302250) (Nat.le_of_ble_eq_true rfl) (Nat.le_of_ble_eq_true rfl) ?_
  exact law_end hL C0 hS (lv_sub hl [0, 3] rfl)
set_option maxHeartbeats 4000000 in
set_option maxRecDepth 100000 in
theorem lc_12 {p : Program} {l : Launch} {e : Env} {s : State} {m : MethodId} {below : List Frame} {meth : Method} {c : Code} {b L : Nat} {xs : Nat → Int32} (hL : L ≤ 6) (h6 : 6 ≤ L) (C0 : lw_At p s m meth c b L xs) {dC : Nat → ClassId} {dI : Nat → Nat → Nat} (hN : XN s) {x0 m0 n0 s0 s1 d0 o0 w0 e0 f0 t0 b0 na sa sb a1 a2 a3 a4 a5 a6 a7 a8 a9 a10 a11 : Nat} {kN kD k1 k2 k3 k4 k5 k6 k7 k9 : ClassId} {H : Heap} {locs : List Loc} (hK : va_K (dC, dI) vwCl [(kN, .object "MeetingsAbove$Thing"), (kD, .object "MeetingsAbove$Dot"), (k1, .int), (k2, .int), (k3, .int), (k4, .boolean), (k5, .int), (k6, .int), (k7, .int), (k9, .int)] s) (hP : va_P (dC, dI) vwCl [(x0, .inr (8, [.ref n0, .ref s0, .ref s1, .ref d0, .ref o0, .int 0, .int 0, .int 0, .int 50, .int 20, .ref w0, .ref e0, .ref f0, .ref t0, .ref b0, .int 0])), (n0, .inr (1, [.ref na, .int 0])), (na, .inl (kN, 16, .inr (.inr (.inr (.inr (fun _ => none)))))), (s0, .inr (1, [.ref sa, .int 0])), (s1, .inr (1, [.ref sb, .int 0])), (d0, .inl (kD, 40, .inr (.inr (.inr (.inr (fun _ => none)))))), (m0, .inr (9, [.int 0, .ref a1, .ref a2, .ref a3, .ref a4, .ref a5, .int 50, .int 20, .int 0, .ref a6, .ref a7, .int 0, .ref a8, .int 0, .ref a9, .ref a10, .long 0, .long 0, .int 0, .long 0, .long 0, .ref a11])), (a1, .inl (k1, 16, .inl (fun _ => 0))), (a2, .inl (k2, 16, .inl (fun _ => 0))), (a3, .inl (k3, 16, .inl (fun _ => 0))), (a4, .inl (k4, 16, .inl (fun _ => 0))), (a5, .inl (k5, 576, .inl (fun _ => 0))), (a6, .inl (k6, 40, .inl (fun _ => 0))), (a7, .inl (k7, 120, .inl (fun _ => 0))), (a9, .inl (k9, 2, .inl (upd (upd (fun _ => 0) (0 : Int32).toNatClampNeg (-1)) (1 : Int32).toNatClampNeg (-1))))] H) (hD : va_D (fun q : Nat => s.heap.size ≤ q) [(x0, .inr (8, [.ref n0, .ref s0, .ref s1, .ref d0, .ref o0, .int 0, .int 0, .int 0, .int 50, .int 20, .ref w0, .ref e0, .ref f0, .ref t0, .ref b0, .int 0])), (n0, .inr (1, [.ref na, .int 0])), (na, .inl (kN, 16, .inr (.inr (.inr (.inr (fun _ => none)))))), (s0, .inr (1, [.ref sa, .int 0])), (s1, .inr (1, [.ref sb, .int 0])), (d0, .inl (kD, 40, .inr (.inr (.inr (.inr (fun _ => none)))))), (m0, .inr (9, [.int 0, .ref a1, .ref a2, .ref a3, .ref a4, .ref a5, .int 50, .int 20, .int 0, .ref a6, .ref a7, .int 0, .ref a8, .int 0, .ref a9, .ref a10, .long 0, .long 0, .int 0, .long 0, .long 0, .ref a11])), (a1, .inl (k1, 16, .inl (fun _ => 0))), (a2, .inl (k2, 16, .inl (fun _ => 0))), (a3, .inl (k3, 16, .inl (fun _ => 0))), (a4, .inl (k4, 16, .inl (fun _ => 0))), (a5, .inl (k5, 576, .inl (fun _ => 0))), (a6, .inl (k6, 40, .inl (fun _ => 0))), (a7, .inl (k7, 120, .inl (fun _ => 0))), (a9, .inl (k9, 2, .inl (upd (upd (fun _ => 0) (0 : Int32).toNatClampNeg (-1)) (1 : Int32).toNatClampNeg (-1))))]) (hS : va_S (fun q : Nat => s.heap.size ≤ q) s.heap H locs) {ls : Array Slot} (hl : lv_has ls 4 [(3, .int 0), (2, .ref m0), (1, .ref x0), (0, .ref b)]) : W p l e room_1 s m #[Value.ref b] below meth c H locs 29 2637 (lw_Z below #[Value.ref b] s) (F0 m 610 ls []) := by
  obtain ⟨hx, hb, hr, hml, hown, hts, hX, hbl, hlocks, hgv⟩ := id C0
  have hts := fun w h => hts w (wlaw_in w h)
  have hA : ∀ q : Nat, s.heap.size ≤ q → (fun q : Nat => s.heap.size ≤ q) q := fun _ h => h
  have hbA : ¬ (fun q : Nat => s.heap.size ≤ q) b := Nat.not_le.mpr hbl
  have h_in0 : vp_in (0 : Int32) L := vp_in_nI (n := 0) (by omega) (by omega)
  have h_in1 : vp_in (1 : Int32) L := vp_in_nI (n := 1) (by omega) (by omega)
  have h_in2 : vp_in (2 : Int32) L := vp_in_nI (n := 2) (by omega) (by omega)
  have h_in3 : vp_in (3 : Int32) L := vp_in_nI (n := 3) (by omega) (by omega)
  have h_in4 : vp_in (4 : Int32) L := vp_in_nI (n := 4) (by omega) (by omega)
  have h_in5 : vp_in (5 : Int32) L := vp_in_nI (n := 5) (by omega) (by omega)
  refine lv_aload_n hx hb dL_law_610 rfl (lv_at hl 2 rfl) ?_
  refine lv_aload_n hx hb dL_law_611 rfl (lv_at hl 3 rfl) ?_
  refine lv_iload_n hx hb dL_law_612 rfl (lv_at hl 0 rfl) ?_
  refine lv_iconst (v := 1) hx hb dL_law_613 (by decide) ?_
  refine lv_iadd hx hb dL_law_614 ?_
  refine lv_topi (fun y_1 ey_1 => ?_)
  obtain rfl : y_1 = 1 := ey_1.trans (by decide)
  refine va_sld hx hb hX hbl hbA hS h_in1 dL_law_615 ?_
  refine lv_aload_n hx hb dL_law_616 rfl (lv_at hl 3 rfl) ?_
  refine lv_iload_n hx hb dL_law_617 rfl (lv_at hl 0 rfl) ?_
  refine lv_iconst (v := 2) hx hb dL_law_618 (by decide) ?_
  refine lv_iadd hx hb dL_law_619 ?_
  refine lv_topi (fun y_2 ey_2 => ?_)
  obtain rfl : y_2 = 2 := ey_2.trans (by decide)
  refine va_sld hx hb hX hbl hbA hS h_in2 dL_law_620 ?_
  refine lv_aload_n hx hb dL_law_621 rfl (lv_at hl 3 rfl) ?_
  refine lv_iload_n hx hb dL_law_622 rfl (lv_at hl 0 rfl) ?_
  refine lv_iconst (v := 3) hx hb dL_law_623 (by decide) ?_
  refine lv_iadd hx hb dL_law_624 ?_
  refine lv_topi (fun y_3 ey_3 => ?_)
  obtain rfl : y_3 = 3 := ey_3.trans (by decide)
  refine va_sld hx hb hX hbl hbA hS h_in3 dL_law_625 ?_
  have hPc := hP.sub (ws' := [(x0, .inr (8, [.ref n0, .ref s0, .ref s1, .ref d0, .ref o0, .int 0, .int 0, .int 0, .int 50, .int 20, .ref w0, .ref e0, .ref f0, .ref t0, .ref b0, .int 0])), (n0, .inr (1, [.ref na, .int 0]))]) [0, 1] rfl
  have hKc := hK.sub (tys' := []) [] rfl
  refine vp_callSi (W.runV (As := [.int (xs (1 : Int32).toNatClampNeg), .int (xs (2 : Int32).toNatClampNeg), .int (xs (3 : Int32).toNatClampNeg)]) (rest := []) ⟨hx, hb, hml, hown, hts⟩ (c_X8_best l dC dI x0 n0 s0 s1 d0 o0 w0 e0 f0 t0 b0 na (xs (1 : Int32).toNatClampNeg) (xs (2 : Int32).toNatClampNeg) (xs (3 : Int32).toNatClampNeg)) (cwV 3 hts g_law__X8_best_68 rfl rfl rfl (by decide +kernel) ⟨Nat.le_of_ble_eq_true rfl, Nat.le_of_ble_eq_true rfl⟩) ⟨fun a U g mk q => by obtain ⟨q0, qP, qK⟩ := q; exact ⟨q0, qP, va_K.moved (u := U) (U := U.calling g mk a) (Vm.Alike.refl U.vm) qK⟩, va_recv hKc hPc (ci := 8) (q0 := 0) rfl rfl, fun U hU hW => ⟨rfl, by rw [hU]; exact hPc, va_K.moved hW.alike hKc⟩⟩ rfl rfl hl.1 rfl (lv_room (Nat.le_of_ble_eq_true rfl)) dL_law_626 ⟨Nat.le_of_ble_eq_true rfl, Nat.le_of_ble_eq_true rfl⟩) (fun r_4 hr_4 => ?_)
  try dsimp only at hr_4
  subst hr_4
  refine lv_aload_n hx hb dL_law_629 rfl (lv_at hl 1 rfl) ?_
  refine lv_aload_n hx hb dL_law_630 rfl (lv_at hl 3 rfl) ?_
  refine lv_iload_n hx hb dL_law_631 rfl (lv_at hl 0 rfl) ?_
  refine lv_iconst (v := 1) hx hb dL_law_632 (by decide) ?_
  refine lv_iadd hx hb dL_law_633 ?_
  refine lv_topi (fun y_5 ey_5 => ?_)
  obtain rfl : y_5 = 1 := ey_5.trans (by decide)
  refine va_sld hx hb hX hbl hbA hS h_in1 dL_law_634 ?_
  refine lv_aload_n hx hb dL_law_635 rfl (lv_at hl 3 rfl) ?_
  refine lv_iload_n hx hb dL_law_636 rfl (lv_at hl 0 rfl) ?_
  refine lv_iconst (v := 2) hx hb dL_law_637 (by decide) ?_
  refine lv_iadd hx hb dL_law_638 ?_
  refine lv_topi (fun y_6 ey_6 => ?_)
  obtain rfl : y_6 = 2 := ey_6.trans (by decide)
  refine va_sld hx hb hX hbl hbA hS h_in2 dL_law_639 ?_
  refine lv_aload_n hx hb dL_law_640 rfl (lv_at hl 3 rfl) ?_
  refine lv_iload_n hx hb dL_law_641 rfl (lv_at hl 0 rfl) ?_
  refine lv_iconst (v := 3) hx hb dL_law_642 (by decide) ?_
  refine lv_iadd hx hb dL_law_643 ?_
  refine lv_topi (fun y_7 ey_7 => ?_)
  obtain rfl : y_7 = 3 := ey_7.trans (by decide)
  refine va_sld hx hb hX hbl hbA hS h_in3 dL_law_644 ?_
  have hPc := hP.sub (ws' := [(m0, .inr (9, [.int 0, .ref a1, .ref a2, .ref a3, .ref a4, .ref a5, .int 50, .int 20, .int 0, .ref a6, .ref a7, .int 0, .ref a8, .int 0, .ref a9, .ref a10, .long 0, .long 0, .int 0, .long 0, .long 0, .ref a11]))]) [6] rfl
  have hKc := hK.sub (tys' := []) [] rfl
  refine vp_callSi (W.runV (As := [.int (xs (1 : Int32).toNatClampNeg), .int (xs (2 : Int32).toNatClampNeg), .int (xs (3 : Int32).toNatClampNeg)]) (rest := [.int (-100001)]) ⟨hx, hb, hml, hown, hts⟩ (c_X9_best l dC dI m0 a1 a2 a3 a4 a5 a6 a7 a8 a9 a10 a11 (xs (1 : Int32).toNatClampNeg) (xs (2 : Int32).toNatClampNeg) (xs (3 : Int32).toNatClampNeg)) (cwV 3 hts g_law__X9_best_71 rfl rfl rfl (by decide +kernel) ⟨Nat.le_of_ble_eq_true rfl, Nat.le_of_ble_eq_true rfl⟩) ⟨fun a U g mk q => by obtain ⟨q0, qP, qK⟩ := q; exact ⟨q0, qP, va_K.moved (u := U) (U := U.calling g mk a) (Vm.Alike.refl U.vm) qK⟩, va_recv hKc hPc (ci := 9) (q0 := 0) rfl rfl, fun U hU hW => ⟨rfl, by rw [hU]; exact hPc, va_K.moved hW.alike hKc⟩⟩ rfl rfl hl.1 rfl (lv_room (Nat.le_of_ble_eq_true rfl)) dL_law_645 ⟨Nat.le_of_ble_eq_true rfl, Nat.le_of_ble_eq_true rfl⟩) (fun r_8 hr_8 => ?_)
  try dsimp only at hr_8
  subst hr_8
  refine lv_icmp_eq (tgt := 957) hx hb dL_law_648 (by decide) (fun _ => ?_) (fun h9 => absurd h9 (by decide))
  refine W.widen (k := 600000) (n := 7302250) (Nat.le_of_ble_eq_true rfl) (Nat.le_of_ble_eq_true rfl) ?_
  exact law_end hL C0 hS (lv_sub hl [0, 3] rfl)
set_option maxHeartbeats 4000000 in
set_option maxRecDepth 100000 in
theorem lc_13 {p : Program} {l : Launch} {e : Env} {s : State} {m : MethodId} {below : List Frame} {meth : Method} {c : Code} {b L : Nat} {xs : Nat → Int32} (hL : L ≤ 6) (h6 : 6 ≤ L) (C0 : lw_At p s m meth c b L xs) {dC : Nat → ClassId} {dI : Nat → Nat → Nat} (hN : XN s) {x0 m0 n0 s0 s1 d0 o0 w0 e0 f0 t0 b0 na sa sb a1 a2 a3 a4 a5 a6 a7 a8 a9 a10 a11 : Nat} {kN kD k1 k2 k3 k4 k5 k6 k7 k9 : ClassId} {H : Heap} {locs : List Loc} (hK : va_K (dC, dI) vwCl [(kN, .object "MeetingsAbove$Thing"), (kD, .object "MeetingsAbove$Dot"), (k1, .int), (k2, .int), (k3, .int), (k4, .boolean), (k5, .int), (k6, .int), (k7, .int), (k9, .int)] s) (hP : va_P (dC, dI) vwCl [(x0, .inr (8, [.ref n0, .ref s0, .ref s1, .ref d0, .ref o0, .int 0, .int 0, .int 0, .int 50, .int 20, .ref w0, .ref e0, .ref f0, .ref t0, .ref b0, .int 0])), (n0, .inr (1, [.ref na, .int 0])), (na, .inl (kN, 16, .inr (.inr (.inr (.inr (fun _ => none)))))), (s0, .inr (1, [.ref sa, .int 0])), (s1, .inr (1, [.ref sb, .int 0])), (d0, .inl (kD, 40, .inr (.inr (.inr (.inr (fun _ => none)))))), (m0, .inr (9, [.int 0, .ref a1, .ref a2, .ref a3, .ref a4, .ref a5, .int 50, .int 20, .int 0, .ref a6, .ref a7, .int 0, .ref a8, .int 0, .ref a9, .ref a10, .long 0, .long 0, .int 0, .long 0, .long 0, .ref a11])), (a1, .inl (k1, 16, .inl (fun _ => 0))), (a2, .inl (k2, 16, .inl (fun _ => 0))), (a3, .inl (k3, 16, .inl (fun _ => 0))), (a4, .inl (k4, 16, .inl (fun _ => 0))), (a5, .inl (k5, 576, .inl (fun _ => 0))), (a6, .inl (k6, 40, .inl (fun _ => 0))), (a7, .inl (k7, 120, .inl (fun _ => 0))), (a9, .inl (k9, 2, .inl (upd (upd (fun _ => 0) (0 : Int32).toNatClampNeg (-1)) (1 : Int32).toNatClampNeg (-1))))] H) (hD : va_D (fun q : Nat => s.heap.size ≤ q) [(x0, .inr (8, [.ref n0, .ref s0, .ref s1, .ref d0, .ref o0, .int 0, .int 0, .int 0, .int 50, .int 20, .ref w0, .ref e0, .ref f0, .ref t0, .ref b0, .int 0])), (n0, .inr (1, [.ref na, .int 0])), (na, .inl (kN, 16, .inr (.inr (.inr (.inr (fun _ => none)))))), (s0, .inr (1, [.ref sa, .int 0])), (s1, .inr (1, [.ref sb, .int 0])), (d0, .inl (kD, 40, .inr (.inr (.inr (.inr (fun _ => none)))))), (m0, .inr (9, [.int 0, .ref a1, .ref a2, .ref a3, .ref a4, .ref a5, .int 50, .int 20, .int 0, .ref a6, .ref a7, .int 0, .ref a8, .int 0, .ref a9, .ref a10, .long 0, .long 0, .int 0, .long 0, .long 0, .ref a11])), (a1, .inl (k1, 16, .inl (fun _ => 0))), (a2, .inl (k2, 16, .inl (fun _ => 0))), (a3, .inl (k3, 16, .inl (fun _ => 0))), (a4, .inl (k4, 16, .inl (fun _ => 0))), (a5, .inl (k5, 576, .inl (fun _ => 0))), (a6, .inl (k6, 40, .inl (fun _ => 0))), (a7, .inl (k7, 120, .inl (fun _ => 0))), (a9, .inl (k9, 2, .inl (upd (upd (fun _ => 0) (0 : Int32).toNatClampNeg (-1)) (1 : Int32).toNatClampNeg (-1))))]) (hS : va_S (fun q : Nat => s.heap.size ≤ q) s.heap H locs) {ls : Array Slot} (hl : lv_has ls 4 [(3, .int 0), (2, .ref m0), (1, .ref x0), (0, .ref b)]) : W p l e room_1 s m #[Value.ref b] below meth c H locs 29 2637 (lw_Z below #[Value.ref b] s) (F0 m 653 ls []) := by
  obtain ⟨hx, hb, hr, hml, hown, hts, hX, hbl, hlocks, hgv⟩ := id C0
  have hts := fun w h => hts w (wlaw_in w h)
  have hA : ∀ q : Nat, s.heap.size ≤ q → (fun q : Nat => s.heap.size ≤ q) q := fun _ h => h
  have hbA : ¬ (fun q : Nat => s.heap.size ≤ q) b := Nat.not_le.mpr hbl
  have h_in0 : vp_in (0 : Int32) L := vp_in_nI (n := 0) (by omega) (by omega)
  have h_in1 : vp_in (1 : Int32) L := vp_in_nI (n := 1) (by omega) (by omega)
  have h_in2 : vp_in (2 : Int32) L := vp_in_nI (n := 2) (by omega) (by omega)
  have h_in3 : vp_in (3 : Int32) L := vp_in_nI (n := 3) (by omega) (by omega)
  have h_in4 : vp_in (4 : Int32) L := vp_in_nI (n := 4) (by omega) (by omega)
  have h_in5 : vp_in (5 : Int32) L := vp_in_nI (n := 5) (by omega) (by omega)
  refine lv_aload_n hx hb dL_law_653 rfl (lv_at hl 2 rfl) ?_
  refine lv_aload_n hx hb dL_law_654 rfl (lv_at hl 3 rfl) ?_
  refine lv_iload_n hx hb dL_law_655 rfl (lv_at hl 0 rfl) ?_
  refine lv_iconst (v := 1) hx hb dL_law_656 (by decide) ?_
  refine lv_iadd hx hb dL_law_657 ?_
  refine lv_topi (fun y_1 ey_1 => ?_)
  obtain rfl : y_1 = 1 := ey_1.trans (by decide)
  refine va_sld hx hb hX hbl hbA hS h_in1 dL_law_658 ?_
  refine lv_aload_n hx hb dL_law_659 rfl (lv_at hl 3 rfl) ?_
  refine lv_iload_n hx hb dL_law_660 rfl (lv_at hl 0 rfl) ?_
  refine lv_iconst (v := 2) hx hb dL_law_661 (by decide) ?_
  refine lv_iadd hx hb dL_law_662 ?_
  refine lv_topi (fun y_2 ey_2 => ?_)
  obtain rfl : y_2 = 2 := ey_2.trans (by decide)
  refine va_sld hx hb hX hbl hbA hS h_in2 dL_law_663 ?_
  refine lv_aload_n hx hb dL_law_664 rfl (lv_at hl 3 rfl) ?_
  refine lv_iload_n hx hb dL_law_665 rfl (lv_at hl 0 rfl) ?_
  refine lv_iconst (v := 3) hx hb dL_law_666 (by decide) ?_
  refine lv_iadd hx hb dL_law_667 ?_
  refine lv_topi (fun y_3 ey_3 => ?_)
  obtain rfl : y_3 = 3 := ey_3.trans (by decide)
  refine va_sld hx hb hX hbl hbA hS h_in3 dL_law_668 ?_
  refine lv_aload_n hx hb dL_law_669 rfl (lv_at hl 3 rfl) ?_
  refine lv_iload_n hx hb dL_law_670 rfl (lv_at hl 0 rfl) ?_
  refine lv_iconst (v := 4) hx hb dL_law_671 (by decide) ?_
  refine lv_iadd hx hb dL_law_672 ?_
  refine lv_topi (fun y_4 ey_4 => ?_)
  obtain rfl : y_4 = 4 := ey_4.trans (by decide)
  refine va_sld hx hb hX hbl hbA hS h_in4 dL_law_673 ?_
  refine lv_aload_n hx hb dL_law_674 rfl (lv_at hl 3 rfl) ?_
  refine lv_iload_n hx hb dL_law_675 rfl (lv_at hl 0 rfl) ?_
  refine lv_iconst (v := 5) hx hb dL_law_676 (by decide) ?_
  refine lv_iadd hx hb dL_law_677 ?_
  refine lv_topi (fun y_5 ey_5 => ?_)
  obtain rfl : y_5 = 5 := ey_5.trans (by decide)
  refine va_sld hx hb hX hbl hbA hS h_in5 dL_law_678 ?_
  have hPc := hP.sub (ws' := [(x0, .inr (8, [.ref n0, .ref s0, .ref s1, .ref d0, .ref o0, .int 0, .int 0, .int 0, .int 50, .int 20, .ref w0, .ref e0, .ref f0, .ref t0, .ref b0, .int 0])), (n0, .inr (1, [.ref na, .int 0]))]) [0, 1] rfl
  have hKc := hK.sub (tys' := []) [] rfl
  refine vp_callSi (W.runV (As := [.int (xs (1 : Int32).toNatClampNeg), .int (xs (2 : Int32).toNatClampNeg), .int (xs (3 : Int32).toNatClampNeg), .int (xs (4 : Int32).toNatClampNeg), .int (xs (5 : Int32).toNatClampNeg)]) (rest := []) ⟨hx, hb, hml, hown, hts⟩ (c_X8_burn l dC dI x0 n0 s0 s1 d0 o0 w0 e0 f0 t0 b0 na (xs (1 : Int32).toNatClampNeg) (xs (2 : Int32).toNatClampNeg) (xs (3 : Int32).toNatClampNeg) (xs (4 : Int32).toNatClampNeg) (xs (5 : Int32).toNatClampNeg)) (cwV 5 hts g_law__X8_burn_72 rfl rfl rfl (by decide +kernel) ⟨Nat.le_of_ble_eq_true rfl, Nat.le_of_ble_eq_true rfl⟩) ⟨fun a U g mk q => by obtain ⟨q0, qP, qK⟩ := q; exact ⟨q0, qP, va_K.moved (u := U) (U := U.calling g mk a) (Vm.Alike.refl U.vm) qK⟩, va_recv hKc hPc (ci := 8) (q0 := 0) rfl rfl, fun U hU hW => ⟨rfl, by rw [hU]; exact hPc, va_K.moved hW.alike hKc⟩⟩ rfl rfl hl.1 rfl (lv_room (Nat.le_of_ble_eq_true rfl)) dL_law_679 ⟨Nat.le_of_ble_eq_true rfl, Nat.le_of_ble_eq_true rfl⟩) (fun r_6 hr_6 => ?_)
  try dsimp only at hr_6
  subst hr_6
  refine lv_aload_n hx hb dL_law_682 rfl (lv_at hl 1 rfl) ?_
  refine lv_aload_n hx hb dL_law_683 rfl (lv_at hl 3 rfl) ?_
  refine lv_iload_n hx hb dL_law_684 rfl (lv_at hl 0 rfl) ?_
  refine lv_iconst (v := 1) hx hb dL_law_685 (by decide) ?_
  refine lv_iadd hx hb dL_law_686 ?_
  refine lv_topi (fun y_7 ey_7 => ?_)
  obtain rfl : y_7 = 1 := ey_7.trans (by decide)
  refine va_sld hx hb hX hbl hbA hS h_in1 dL_law_687 ?_
  refine lv_aload_n hx hb dL_law_688 rfl (lv_at hl 3 rfl) ?_
  refine lv_iload_n hx hb dL_law_689 rfl (lv_at hl 0 rfl) ?_
  refine lv_iconst (v := 2) hx hb dL_law_690 (by decide) ?_
  refine lv_iadd hx hb dL_law_691 ?_
  refine lv_topi (fun y_8 ey_8 => ?_)
  obtain rfl : y_8 = 2 := ey_8.trans (by decide)
  refine va_sld hx hb hX hbl hbA hS h_in2 dL_law_692 ?_
  refine lv_aload_n hx hb dL_law_693 rfl (lv_at hl 3 rfl) ?_
  refine lv_iload_n hx hb dL_law_694 rfl (lv_at hl 0 rfl) ?_
  refine lv_iconst (v := 3) hx hb dL_law_695 (by decide) ?_
  refine lv_iadd hx hb dL_law_696 ?_
  refine lv_topi (fun y_9 ey_9 => ?_)
  obtain rfl : y_9 = 3 := ey_9.trans (by decide)
  refine va_sld hx hb hX hbl hbA hS h_in3 dL_law_697 ?_
  refine lv_aload_n hx hb dL_law_698 rfl (lv_at hl 3 rfl) ?_
  refine lv_iload_n hx hb dL_law_699 rfl (lv_at hl 0 rfl) ?_
  refine lv_iconst (v := 4) hx hb dL_law_700 (by decide) ?_
  refine lv_iadd hx hb dL_law_701 ?_
  refine lv_topi (fun y_10 ey_10 => ?_)
  obtain rfl : y_10 = 4 := ey_10.trans (by decide)
  refine va_sld hx hb hX hbl hbA hS h_in4 dL_law_702 ?_
  refine lv_aload_n hx hb dL_law_703 rfl (lv_at hl 3 rfl) ?_
  refine lv_iload_n hx hb dL_law_704 rfl (lv_at hl 0 rfl) ?_
  refine lv_iconst (v := 5) hx hb dL_law_705 (by decide) ?_
  refine lv_iadd hx hb dL_law_706 ?_
  refine lv_topi (fun y_11 ey_11 => ?_)
  obtain rfl : y_11 = 5 := ey_11.trans (by decide)
  refine va_sld hx hb hX hbl hbA hS h_in5 dL_law_707 ?_
  have hPc := hP.sub (ws' := [(m0, .inr (9, [.int 0, .ref a1, .ref a2, .ref a3, .ref a4, .ref a5, .int 50, .int 20, .int 0, .ref a6, .ref a7, .int 0, .ref a8, .int 0, .ref a9, .ref a10, .long 0, .long 0, .int 0, .long 0, .long 0, .ref a11]))]) [6] rfl
  have hKc := hK.sub (tys' := []) [] rfl
  refine vp_callSi (W.runV (As := [.int (xs (1 : Int32).toNatClampNeg), .int (xs (2 : Int32).toNatClampNeg), .int (xs (3 : Int32).toNatClampNeg), .int (xs (4 : Int32).toNatClampNeg), .int (xs (5 : Int32).toNatClampNeg)]) (rest := [.int (-100001)]) ⟨hx, hb, hml, hown, hts⟩ (c_X9_burn l dC dI m0 a1 a2 a3 a4 a5 a6 a7 a8 a9 a10 a11 (xs (1 : Int32).toNatClampNeg) (xs (2 : Int32).toNatClampNeg) (xs (3 : Int32).toNatClampNeg) (xs (4 : Int32).toNatClampNeg) (xs (5 : Int32).toNatClampNeg)) (cwV 5 hts g_law__X9_burn_75 rfl rfl rfl (by decide +kernel) ⟨Nat.le_of_ble_eq_true rfl, Nat.le_of_ble_eq_true rfl⟩) ⟨fun a U g mk q => by obtain ⟨q0, qP, qK⟩ := q; exact ⟨q0, qP, va_K.moved (u := U) (U := U.calling g mk a) (Vm.Alike.refl U.vm) qK⟩, va_recv hKc hPc (ci := 9) (q0 := 0) rfl rfl, fun U hU hW => ⟨rfl, by rw [hU]; exact hPc, va_K.moved hW.alike hKc⟩⟩ rfl rfl hl.1 rfl (lv_room (Nat.le_of_ble_eq_true rfl)) dL_law_708 ⟨Nat.le_of_ble_eq_true rfl, Nat.le_of_ble_eq_true rfl⟩) (fun r_12 hr_12 => ?_)
  try dsimp only at hr_12
  subst hr_12
  refine lv_icmp_eq (tgt := 957) hx hb dL_law_711 (by decide) (fun _ => ?_) (fun h9 => absurd h9 (by decide))
  refine W.widen (k := 600000) (n := 7302250) (Nat.le_of_ble_eq_true rfl) (Nat.le_of_ble_eq_true rfl) ?_
  exact law_end hL C0 hS (lv_sub hl [0, 3] rfl)
