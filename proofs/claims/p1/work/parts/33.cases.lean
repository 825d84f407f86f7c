set_option maxHeartbeats 4000000 in
set_option maxRecDepth 100000 in
theorem lc_14 {p : Program} {l : Launch} {e : Env} {s : State} {m : MethodId} {below : List Frame} {meth : Method} {c : Code} {b L : Nat} {xs : Nat → Int32} (hL : L ≤ 6) (h6 : 6 ≤ L) (C0 : lw_At p s m meth c b L xs) {dC : Nat → ClassId} {dI : Nat → Nat → Nat} (hN : XN s) {x0 m0 n0 s0 s1 d0 o0 w0 e0 f0 t0 b0 na sa sb a1 a2 a3 a4 a5 a6 a7 a8 a9 a10 a11 : Nat} {kN kD k1 k2 k3 k4 k5 k6 k7 k9 : ClassId} {H : Heap} {locs : List Loc} (hK : va_K (dC, dI) vwCl [(kN, .object "MeetingsAbove$Thing"), (kD, .object "MeetingsAbove$Dot"), (k1, .int), (k2, .int), (k3, .int), (k4, .boolean), (k5, .int), (k6, .int), (k7, .int), (k9, .int)] s) (hP : va_P (dC, dI) vwCl [(x0, .inr (8, [.ref n0, .ref s0, .ref s1, .ref d0, .ref o0, .int 0, .int 0, .int 0, .int 50, .int 20, .ref w0, .ref e0, .ref f0, .ref t0, .ref b0, .int 0])), (n0, .inr (1, [.ref na, .int 0])), (na, .inl (kN, 16, .inr (.inr (.inr (.inr (fun _ => none)))))), (s0, .inr (1, [.ref sa, .int 0])), (s1, .inr (1, [.ref sb, .int 0])), (d0, .inl (kD, 40, .inr (.inr (.inr (.inr (fun _ => none)))))), (m0, .inr (9, [.int 0, .ref a1, .ref a2, .ref a3, .ref a4, .ref a5, .int 50, .int 20, .int 0, .ref a6, .ref a7, .int 0, .ref a8, .int 0, .ref a9, .ref a10, .long 0, .long 0, .int 0, .long 0, .long 0, .ref a11])), (a1, .inl (k1, 16, .inl (fun _ => 0))), (a2, .inl (k2, 16, .inl (fun _ => 0))), (a3, .inl (k3, 16, .inl (fun _ => 0))), (a4, .inl (k4, 16, .inl (fun _ => 0))), (a5, .inl (k5, 576, .inl (fun _ => 0))), (a6, .inl (k6, 40, .inl (fun _ => 0))), (a7, .inl (k7, 120, .inl (fun _ => 0))), (a9, .inl (k9, 2, .inl (upd (upd (fun _ => 0) (0 : Int32).toNatClampNeg (-1)) (1 : Int32).toNatClampNeg (-1))))] H) (hD : va_D (fun q : Nat => s.heap.size ≤ q) [(x0, .inr (8, [.ref n0, .ref s0, .ref s1, .ref d0, .ref o0, .int 0, .int 0, .int 0, .int 50, .int 20, .ref w0, .ref e0, .ref f0, .ref t0, .ref b0, .int 0])), (n0, .inr (1, [.ref na, .int 0])), (na, .inl (kN, 16, .inr (.inr (.inr (.inr (fun _ => none)))))), (s0, .inr (1, [.ref sa, .int 0])), (s1, .inr (1, [.ref sb, .int 0])), (d0, .inl (kD, 40, .inr (.inr (.inr (.inr (fun _ => none)))))), (m0, .inr (9, [.int 0, .ref a1, .ref a2, .ref a3, .ref a4, .ref a5, .int 50, .int 20, .int 0, .ref a6, .ref a7, .int 0, .ref a8, .int 0, .ref a9, .ref a10, .long 0, .long 0, .int 0, .long 0, .long 0, .ref a11])), (a1, .inl (k1, 16, .inl (fun _ => 0))), (a2, .inl (k2, 16, .inl (fun _ => 0))), (a3, .inl (k3, 16, .inl (fun _ => 0))), (a4, .inl (k4, 16, .inl (fun _ => 0))), (a5, .inl (k5, 576, .inl (fun _ => 0))), (a6, .inl (k6, 40, .inl (fun _ => 0))), (a7, .inl (k7, 120, .inl (fun _ => 0))), (a9, .inl (k9, 2, .inl (upd (upd (fun _ => 0) (0 : Int32).toNatClampNeg (-1)) (1 : Int32).toNatClampNeg (-1))))]) (hS : va_S (fun q : Nat => s.heap.size ≤ q) s.heap H locs) {ls : Array Slot} (hl : lv_has ls 4 [(3, .int 0), (2, .ref m0), (1, .ref x0), (0, .ref b)]) : W p l e room_1 s m #[Value.ref b] below meth c H locs 29 2637 (lw_Z below #[Value.ref b] s) (F0 m 716 ls []) := by
  obtain ⟨hx, hb, hr, hml, hown, hts, hX, hbl, hlocks, hgv⟩ := id C0
  have hts := fun w h => hts w (wlaw_in w h)
  have hA : ∀ q : Nat, s.heap.size ≤ q → (fun q : Nat => s.heap.size ≤ q) q := fun _ h => h
  have hbA : ¬ (fun q : Nat => s.heap.size ≤ q) b := Nat.not_le.mpr hbl
  have h_in0 : vp_in (0 : Int32) L := vp_in_nI (n := 0) (by omega) (by omega)
  have h_in1 : vp_in (1 : Int32) L := vp_in_nI (n := 1) (by omega) (by omega)
  have h_in2 : vp_in (2 : Int32) L := vp_in_nI (n := 2) (by omega) (by omega)
  have h_in3 : vp_in (3 : Int32) L := vp_in_nI (n := 3) (by omega) (by omega)
  have h_in4 : vp_in (4 : Int32) L := vp_in_nI (n := 4) (by omega) (by omega)
  have h_in5 : vp_in (5 : Int32) L := vp_in_nI (n := 5) (by omega) (by omega)
  refine lv_aload_n hx hb dL_law_716 rfl (lv_at hl 2 rfl) ?_
  refine lv_aload_n hx hb dL_law_717 rfl (lv_at hl 3 rfl) ?_
  refine lv_iload_n hx hb dL_law_718 rfl (lv_at hl 0 rfl) ?_
  refine lv_iconst (v := 1) hx hb dL_law_719 (by decide) ?_
  refine lv_iadd hx hb dL_law_720 ?_
  refine lv_topi (fun y_1 ey_1 => ?_)
  obtain rfl : y_1 = 1 := ey_1.trans (by decide)
  refine va_sld hx hb hX hbl hbA hS h_in1 dL_law_721 ?_
  refine lv_aload_n hx hb dL_law_722 rfl (lv_at hl 3 rfl) ?_
  refine lv_iload_n hx hb dL_law_723 rfl (lv_at hl 0 rfl) ?_
  refine lv_iconst (v := 2) hx hb dL_law_724 (by decide) ?_
  refine lv_iadd hx hb dL_law_725 ?_
  refine lv_topi (fun y_2 ey_2 => ?_)
  obtain rfl : y_2 = 2 := ey_2.trans (by decide)
  refine va_sld hx hb hX hbl hbA hS h_in2 dL_law_726 ?_
  refine lv_aload_n hx hb dL_law_727 rfl (lv_at hl 3 rfl) ?_
  refine lv_iload_n hx hb dL_law_728 rfl (lv_at hl 0 rfl) ?_
  refine lv_iconst (v := 3) hx hb dL_law_729 (by decide) ?_
  refine lv_iadd hx hb dL_law_730 ?_
  refine lv_topi (fun y_3 ey_3 => ?_)
  obtain rfl : y_3 = 3 := ey_3.trans (by decide)
  refine va_sld hx hb hX hbl hbA hS h_in3 dL_law_731 ?_
  refine lv_aload_n hx hb dL_law_732 rfl (lv_at hl 3 rfl) ?_
  refine lv_iload_n hx hb dL_law_733 rfl (lv_at hl 0 rfl) ?_
  refine lv_iconst (v := 4) hx hb dL_law_734 (by decide) ?_
  refine lv_iadd hx hb dL_law_735 ?_
  refine lv_topi (fun y_4 ey_4 => ?_)
  obtain rfl : y_4 = 4 := ey_4.trans (by decide)
  refine va_sld hx hb hX hbl hbA hS h_in4 dL_law_736 ?_
  have hPc := hP.sub (ws' := [(x0, .inr (8, [.ref n0, .ref s0, .ref s1, .ref d0, .ref o0, .int 0, .int 0, .int 0, .int 50, .int 20, .ref w0, .ref e0, .ref f0, .ref t0, .ref b0, .int 0])), (d0, .inl (kD, 40, .inr (.inr (.inr (.inr (fun _ => none))))))]) [0, 5] rfl
  have hKc := hK.sub (tys' := [(kD, .object "MeetingsAbove$Dot")]) [1] rfl
  have hDc := hD.sub (ws' := [(x0, .inr (8, [.ref n0, .ref s0, .ref s1, .ref d0, .ref o0, .int 0, .int 0, .int 0, .int 50, .int 20, .ref w0, .ref e0, .ref f0, .ref t0, .ref b0, .int 0])), (d0, .inl (kD, 40, .inr (.inr (.inr (.inr (fun _ => none))))))]) [0, 5] (by decide) rfl
  have hFc := va_free (wc := [(x0, .inr (8, [.ref n0, .ref s0, .ref s1, .ref d0, .ref o0, .int 0, .int 0, .int 0, .int 50, .int 20, .ref w0, .ref e0, .ref f0, .ref t0, .ref b0, .int 0])), (d0, .inl (kD, 40, .inr (.inr (.inr (.inr (fun _ => none))))))]) hD hS hA [0, 5] rfl
  refine va_calli (va_runV (As := [.int (xs (1 : Int32).toNatClampNeg), .int (xs (2 : Int32).toNatClampNeg), .int (xs (3 : Int32).toNatClampNeg), .int (xs (4 : Int32).toNatClampNeg)]) (rest := []) ⟨hx, hb, hml, hown, hts⟩ (c_X8_dot l dC dI x0 n0 s0 s1 d0 o0 w0 e0 f0 t0 b0 kD (xs (1 : Int32).toNatClampNeg) (xs (2 : Int32).toNatClampNeg) (xs (3 : Int32).toNatClampNeg) (xs (4 : Int32).toNatClampNeg) H.size) (cwV 4 hts g_law__X8_dot_76 rfl rfl rfl (by decide +kernel) ⟨Nat.le_of_ble_eq_true rfl, Nat.le_of_ble_eq_true rfl⟩) ⟨fun a U g mk q => by obtain ⟨q0, q1, qP, qK, qD⟩ := q; exact ⟨q0, q1, qP, va_K.moved (u := U) (U := U.calling g mk a) (Vm.Alike.refl U.vm) qK, qD⟩, va_recv hKc hPc (ci := 8) (q0 := 0) rfl rfl, fun U hU hW => ⟨rfl, by rw [hU], by rw [hU]; exact hPc, va_K.moved hW.alike hKc, hDc.weaken (fun _ _ _ _ => trivial)⟩⟩ rfl rfl hl.1 rfl (lv_room (Nat.le_of_ble_eq_true rfl)) dL_law_737 ⟨Nat.le_of_ble_eq_true rfl, Nat.le_of_ble_eq_true rfl⟩) hS (fun q _ h => hFc q h) hFc (fun r_6 u_5 t H1 locs ht hvm hw_6 hB hz1 hk1 hS => ?_)
  obtain ⟨hP1, hK1, hD1⟩ := hB
  rw [ht] at hP1
  have hK1 := va_K.moved hvm.symm hK1
  obtain ⟨hP, hD⟩ := va_join (wr := [(n0, .inr (1, [.ref na, .int 0])), (na, .inl (kN, 16, .inr (.inr (.inr (.inr (fun _ => none)))))), (s0, .inr (1, [.ref sa, .int 0])), (s1, .inr (1, [.ref sb, .int 0])), (m0, .inr (9, [.int 0, .ref a1, .ref a2, .ref a3, .ref a4, .ref a5, .int 50, .int 20, .int 0, .ref a6, .ref a7, .int 0, .ref a8, .int 0, .ref a9, .ref a10, .long 0, .long 0, .int 0, .long 0, .long 0, .ref a11])), (a1, .inl (k1, 16, .inl (fun _ => 0))), (a2, .inl (k2, 16, .inl (fun _ => 0))), (a3, .inl (k3, 16, .inl (fun _ => 0))), (a4, .inl (k4, 16, .inl (fun _ => 0))), (a5, .inl (k5, 576, .inl (fun _ => 0))), (a6, .inl (k6, 40, .inl (fun _ => 0))), (a7, .inl (k7, 120, .inl (fun _ => 0))), (a9, .inl (k9, 2, .inl (upd (upd (fun _ => 0) (0 : Int32).toNatClampNeg (-1)) (1 : Int32).toNatClampNeg (-1))))]) (w1 := []) hP hD [0, 5] [1, 2, 3, 4, 6, 7, 8, 9, 10, 11, 12, 13, 14] rfl rfl (by decide) (by decide) hk1 hFc hP1 hD1
  have hK := (hK.sub (tys' := [(kN, .object "MeetingsAbove$Thing"), (kD, .object "MeetingsAbove$Dot"), (k1, .int), (k2, .int), (k3, .int), (k4, .boolean), (k5, .int), (k6, .int), (k7, .int), (k9, .int)]) [0, 1, 2, 3, 4, 5, 6, 7, 8, 9] rfl).app hK1
  generalize H1 = H at hP hS ⊢
  have hP : va_P (dC, dI) vwCl [(n0, .inr (1, [.ref na, .int 0])), (na, .inl (kN, 16, .inr (.inr (.inr (.inr (fun _ => none)))))), (s0, .inr (1, [.ref sa, .int 0])), (s1, .inr (1, [.ref sb, .int 0])), (m0, .inr (9, [.int 0, .ref a1, .ref a2, .ref a3, .ref a4, .ref a5, .int 50, .int 20, .int 0, .ref a6, .ref a7, .int 0, .ref a8, .int 0, .ref a9, .ref a10, .long 0, .long 0, .int 0, .long 0, .long 0, .ref a11])), (a1, .inl (k1, 16, .inl (fun _ => 0))), (a2, .inl (k2, 16, .inl (fun _ => 0))), (a3, .inl (k3, 16, .inl (fun _ => 0))), (a4, .inl (k4, 16, .inl (fun _ => 0))), (a5, .inl (k5, 576, .inl (fun _ => 0))), (a6, .inl (k6, 40, .inl (fun _ => 0))), (a7, .inl (k7, 120, .inl (fun _ => 0))), (a9, .inl (k9, 2, .inl (upd (upd (fun _ => 0) (0 : Int32).toNatClampNeg (-1)) (1 : Int32).toNatClampNeg (-1))))] H := hP
  have hD : va_D (fun q : Nat => s.heap.size ≤ q) [(n0, .inr (1, [.ref na, .int 0])), (na, .inl (kN, 16, .inr (.inr (.inr (.inr (fun _ => none)))))), (s0, .inr (1, [.ref sa, .int 0])), (s1, .inr (1, [.ref sb, .int 0])), (m0, .inr (9, [.int 0, .ref a1, .ref a2, .ref a3, .ref a4, .ref a5, .int 50, .int 20, .int 0, .ref a6, .ref a7, .int 0, .ref a8, .int 0, .ref a9, .ref a10, .long 0, .long 0, .int 0, .long 0, .long 0, .ref a11])), (a1, .inl (k1, 16, .inl (fun _ => 0))), (a2, .inl (k2, 16, .inl (fun _ => 0))), (a3, .inl (k3, 16, .inl (fun _ => 0))), (a4, .inl (k4, 16, .inl (fun _ => 0))), (a5, .inl (k5, 576, .inl (fun _ => 0))), (a6, .inl (k6, 40, .inl (fun _ => 0))), (a7, .inl (k7, 120, .inl (fun _ => 0))), (a9, .inl (k9, 2, .inl (upd (upd (fun _ => 0) (0 : Int32).toNatClampNeg (-1)) (1 : Int32).toNatClampNeg (-1))))] := hD
  have hK : va_K (dC, dI) vwCl [(kN, .object "MeetingsAbove$Thing"), (kD, .object "MeetingsAbove$Dot"), (k1, .int), (k2, .int), (k3, .int), (k4, .boolean), (k5, .int), (k6, .int), (k7, .int), (k9, .int)] s := hK
  refine W.widen (k := 30) (n := 2641) (by omega) (by omega) ?_
  try dsimp only at hw_6
  subst hw_6
  refine lv_aload_n hx hb dL_law_740 rfl (lv_at hl 1 rfl) ?_
  refine lv_aload_n hx hb dL_law_741 rfl (lv_at hl 3 rfl) ?_
  refine lv_iload_n hx hb dL_law_742 rfl (lv_at hl 0 rfl) ?_
  refine lv_iconst (v := 1) hx hb dL_law_743 (by decide) ?_
  refine lv_iadd hx hb dL_law_744 ?_
  refine lv_topi (fun y_7 ey_7 => ?_)
  obtain rfl : y_7 = 1 := ey_7.trans (by decide)
  refine va_sld hx hb hX hbl hbA hS h_in1 dL_law_745 ?_
  refine lv_aload_n hx hb dL_law_746 rfl (lv_at hl 3 rfl) ?_
  refine lv_iload_n hx hb dL_law_747 rfl (lv_at hl 0 rfl) ?_
  refine lv_iconst (v := 2) hx hb dL_law_748 (by decide) ?_
  refine lv_iadd hx hb dL_law_749 ?_
  refine lv_topi (fun y_8 ey_8 => ?_)
  obtain rfl : y_8 = 2 := ey_8.trans (by decide)
  refine va_sld hx hb hX hbl hbA hS h_in2 dL_law_750 ?_
  refine lv_aload_n hx hb dL_law_751 rfl (lv_at hl 3 rfl) ?_
  refine lv_iload_n hx hb dL_law_752 rfl (lv_at hl 0 rfl) ?_
  refine lv_iconst (v := 3) hx hb dL_law_753 (by decide) ?_
  refine lv_iadd hx hb dL_law_754 ?_
  refine lv_topi (fun y_9 ey_9 => ?_)
  obtain rfl : y_9 = 3 := ey_9.trans (by decide)
  refine va_sld hx hb hX hbl hbA hS h_in3 dL_law_755 ?_
  refine lv_aload_n hx hb dL_law_756 rfl (lv_at hl 3 rfl) ?_
  refine lv_iload_n hx hb dL_law_757 rfl (lv_at hl 0 rfl) ?_
  refine lv_iconst (v := 4) hx hb dL_law_758 (by decide) ?_
  refine lv_iadd hx hb dL_law_759 ?_
  refine lv_topi (fun y_10 ey_10 => ?_)
  obtain rfl : y_10 = 4 := ey_10.trans (by decide)
  refine va_sld hx hb hX hbl hbA hS h_in4 dL_law_760 ?_
  have hPc := hP.sub (ws' := [(m0, .inr (9, [.int 0, .ref a1, .ref a2, .ref a3, .ref a4, .ref a5, .int 50, .int 20, .int 0, .ref a6, .ref a7, .int 0, .ref a8, .int 0, .ref a9, .ref a10, .long 0, .long 0, .int 0, .long 0, .long 0, .ref a11])), (a6, .inl (k6, 40, .inl (fun _ => 0))), (a7, .inl (k7, 120, .inl (fun _ => 0)))]) [4, 10, 11] rfl
  have hKc := hK.sub (tys' := [(k6, .int), (k7, .int)]) [7, 8] rfl
  have hDc := hD.sub (ws' := [(m0, .inr (9, [.int 0, .ref a1, .ref a2, .ref a3, .ref a4, .ref a5, .int 50, .int 20, .int 0, .ref a6, .ref a7, .int 0, .ref a8, .int 0, .ref a9, .ref a10, .long 0, .long 0, .int 0, .long 0, .long 0, .ref a11])), (a6, .inl (k6, 40, .inl (fun _ => 0))), (a7, .inl (k7, 120, .inl (fun _ => 0)))]) [4, 10, 11] (by decide) rfl
  have hFc := va_free (wc := [(m0, .inr (9, [.int 0, .ref a1, .ref a2, .ref a3, .ref a4, .ref a5, .int 50, .int 20, .int 0, .ref a6, .ref a7, .int 0, .ref a8, .int 0, .ref a9, .ref a10, .long 0, .long 0, .int 0, .long 0, .long 0, .ref a11])), (a6, .inl (k6, 40, .inl (fun _ => 0))), (a7, .inl (k7, 120, .inl (fun _ => 0)))]) hD hS hA [4, 10, 11] rfl
  refine va_calli (va_runV (As := [.int (xs (1 : Int32).toNatClampNeg), .int (xs (2 : Int32).toNatClampNeg), .int (xs (3 : Int32).toNatClampNeg), .int (xs (4 : Int32).toNatClampNeg)]) (rest := [.int (an_dot (xs (1 : Int32).toNatClampNeg) (xs (2 : Int32).toNatClampNeg) (xs (3 : Int32).toNatClampNeg) (xs (4 : Int32).toNatClampNeg))]) ⟨hx, hb, hml, hown, hts⟩ (c_X9_dot l dC dI m0 a1 a2 a3 a4 a5 a6 a7 a8 a9 a10 a11 k6 k7 (xs (1 : Int32).toNatClampNeg) (xs (2 : Int32).toNatClampNeg) (xs (3 : Int32).toNatClampNeg) (xs (4 : Int32).toNatClampNeg) H.size) (cwV 4 hts g_law__X9_dot_79 rfl rfl rfl (by decide +kernel) ⟨Nat.le_of_ble_eq_true rfl, Nat.le_of_ble_eq_true rfl⟩) ⟨fun a U g mk q => by obtain ⟨q0, q1, qP, qK, qD⟩ := q; exact ⟨q0, q1, qP, va_K.moved (u := U) (U := U.calling g mk a) (Vm.Alike.refl U.vm) qK, qD⟩, va_recv hKc hPc (ci := 9) (q0 := 0) rfl rfl, fun U hU hW => ⟨rfl, by rw [hU], by rw [hU]; exact hPc, va_K.moved hW.alike hKc, hDc.weaken (fun _ _ _ _ => trivial)⟩⟩ rfl rfl hl.1 rfl (lv_room (Nat.le_of_ble_eq_true rfl)) dL_law_761 ⟨Nat.le_of_ble_eq_true rfl, Nat.le_of_ble_eq_true rfl⟩) hS (fun q _ h => hFc q h) hFc (fun r_12 u_11 t H1 locs ht hvm hw_12 hB hz1 hk1 hS => ?_)
  obtain ⟨hP1, hK1, hD1⟩ := hB
  rw [ht] at hP1
  have hK1 := va_K.moved hvm.symm hK1
  obtain ⟨hP, hD⟩ := va_join (wr := [(n0, .inr (1, [.ref na, .int 0])), (na, .inl (kN, 16, .inr (.inr (.inr (.inr (fun _ => none)))))), (s0, .inr (1, [.ref sa, .int 0])), (s1, .inr (1, [.ref sb, .int 0])), (a1, .inl (k1, 16, .inl (fun _ => 0))), (a2, .inl (k2, 16, .inl (fun _ => 0))), (a3, .inl (k3, 16, .inl (fun _ => 0))), (a4, .inl (k4, 16, .inl (fun _ => 0))), (a5, .inl (k5, 576, .inl (fun _ => 0))), (a9, .inl (k9, 2, .inl (upd (upd (fun _ => 0) (0 : Int32).toNatClampNeg (-1)) (1 : Int32).toNatClampNeg (-1))))]) (w1 := []) hP hD [4, 10, 11] [0, 1, 2, 3, 5, 6, 7, 8, 9, 12] rfl rfl (by decide) (by decide) hk1 hFc hP1 hD1
  have hK := (hK.sub (tys' := [(kN, .object "MeetingsAbove$Thing"), (kD, .object "MeetingsAbove$Dot"), (k1, .int), (k2, .int), (k3, .int), (k4, .boolean), (k5, .int), (k6, .int), (k7, .int), (k9, .int)]) [0, 1, 2, 3, 4, 5, 6, 7, 8, 9] rfl).app hK1
  generalize H1 = H at hP hS ⊢
  have hP : va_P (dC, dI) vwCl [(n0, .inr (1, [.ref na, .int 0])), (na, .inl (kN, 16, .inr (.inr (.inr (.inr (fun _ => none)))))), (s0, .inr (1, [.ref sa, .int 0])), (s1, .inr (1, [.ref sb, .int 0])), (a1, .inl (k1, 16, .inl (fun _ => 0))), (a2, .inl (k2, 16, .inl (fun _ => 0))), (a3, .inl (k3, 16, .inl (fun _ => 0))), (a4, .inl (k4, 16, .inl (fun _ => 0))), (a5, .inl (k5, 576, .inl (fun _ => 0))), (a9, .inl (k9, 2, .inl (upd (upd (fun _ => 0) (0 : Int32).toNatClampNeg (-1)) (1 : Int32).toNatClampNeg (-1))))] H := hP
  have hD : va_D (fun q : Nat => s.heap.size ≤ q) [(n0, .inr (1, [.ref na, .int 0])), (na, .inl (kN, 16, .inr (.inr (.inr (.inr (fun _ => none)))))), (s0, .inr (1, [.ref sa, .int 0])), (s1, .inr (1, [.ref sb, .int 0])), (a1, .inl (k1, 16, .inl (fun _ => 0))), (a2, .inl (k2, 16, .inl (fun _ => 0))), (a3, .inl (k3, 16, .inl (fun _ => 0))), (a4, .inl (k4, 16, .inl (fun _ => 0))), (a5, .inl (k5, 576, .inl (fun _ => 0))), (a9, .inl (k9, 2, .inl (upd (upd (fun _ => 0) (0 : Int32).toNatClampNeg (-1)) (1 : Int32).toNatClampNeg (-1))))] := hD
  have hK : va_K (dC, dI) vwCl [(kN, .object "MeetingsAbove$Thing"), (kD, .object "MeetingsAbove$Dot"), (k1, .int), (k2, .int), (k3, .int), (k4, .boolean), (k5, .int), (k6, .int), (k7, .int), (k9, .int)] s := hK
  refine W.widen (k := 30) (n := 2641) (by omega) (by omega) ?_
  try dsimp only at hw_12
  subst hw_12
  refine lv_icmp_eq (tgt := 957) hx hb dL_law_764 (by decide) (fun _ => ?_) (fun h9 => absurd rfl h9)
  refine W.widen (k := 600000) (n := 7302250) (Nat.le_of_ble_eq_true rfl) (Nat.le_of_ble_eq_true rfl) ?_
  exact law_end hL C0 hS (lv_sub hl [0, 3] rfl)
set_option maxHeartbeats 4000000 in
set_option maxRecDepth 100000 in
theorem lc_15 {p : Program} {l : Launch} {e : Env} {s : State} {m : MethodId} {below : List Frame} {meth : Method} {c : Code} {b L : Nat} {xs : Nat → Int32} (hL : L ≤ 6) (h6 : 6 ≤ L) (C0 : lw_At p s m meth c b L xs) {dC : Nat → ClassId} {dI : Nat → Nat → Nat} (hN : XN s) {x0 m0 n0 s0 s1 d0 o0 w0 e0 f0 t0 b0 na sa sb a1 a2 a3 a4 a5 a6 a7 a8 a9 a10 a11 : Nat} {kN kD k1 k2 k3 k4 k5 k6 k7 k9 : ClassId} {H : Heap} {locs : List Loc} (hK : va_K (dC, dI) vwCl [(kN, .object "MeetingsAbove$Thing"), (kD, .object "MeetingsAbove$Dot"), (k1, .int), (k2, .int), (k3, .int), (k4, .boolean), (k5, .int), (k6, .int), (k7, .int), (k9, .int)] s) (hP : va_P (dC, dI) vwCl [(x0, .inr (8, [.ref n0, .ref s0, .ref s1, .ref d0, .ref o0, .int 0, .int 0, .int 0, .int 50, .int 20, .ref w0, .ref e0, .ref f0, .ref t0, .ref b0, .int 0])), (n0, .inr (1, [.ref na, .int 0])), (na, .inl (kN, 16, .inr (.inr (.inr (.inr (fun _ => none)))))), (s0, .inr (1, [.ref sa, .int 0])), (s1, .inr (1, [.ref sb, .int 0])), (d0, .inl (kD, 40, .inr (.inr (.inr (.inr (fun _ => none)))))), (m0, .inr (9, [.int 0, .ref a1, .ref a2, .ref a3, .ref a4, .ref a5, .int 50, .int 20, .int 0, .ref a6, .ref a7, .int 0, .ref a8, .int 0, .ref a9, .ref a10, .long 0, .long 0, .int 0, .long 0, .long 0, .ref a11])), (a1, .inl (k1, 16, .inl (fun _ => 0))), (a2, .inl (k2, 16, .inl (fun _ => 0))), (a3, .inl (k3, 16, .inl (fun _ => 0))), (a4, .inl (k4, 16, .inl (fun _ => 0))), (a5, .inl (k5, 576, .inl (fun _ => 0))), (a6, .inl (k6, 40, .inl (fun _ => 0))), (a7, .inl (k7, 120, .inl (fun _ => 0))), (a9, .inl (k9, 2, .inl (upd (upd (fun _ => 0) (0 : Int32).toNatClampNeg (-1)) (1 : Int32).toNatClampNeg (-1))))] H) (hD : va_D (fun q : Nat => s.heap.size ≤ q) [(x0, .inr (8, [.ref n0, .ref s0, .ref s1, .ref d0, .ref o0, .int 0, .int 0, .int 0, .int 50, .int 20, .ref w0, .ref e0, .ref f0, .ref t0, .ref b0, .int 0])), (n0, .inr (1, [.ref na, .int 0])), (na, .inl (kN, 16, .inr (.inr (.inr (.inr (fun _ => none)))))), (s0, .inr (1, [.ref sa, .int 0])), (s1, .inr (1, [.ref sb, .int 0])), (d0, .inl (kD, 40, .inr (.inr (.inr (.inr (fun _ => none)))))), (m0, .inr (9, [.int 0, .ref a1, .ref a2, .ref a3, .ref a4, .ref a5, .int 50, .int 20, .int 0, .ref a6, .ref a7, .int 0, .ref a8, .int 0, .ref a9, .ref a10, .long 0, .long 0, .int 0, .long 0, .long 0, .ref a11])), (a1, .inl (k1, 16, .inl (fun _ => 0))), (a2, .inl (k2, 16, .inl (fun _ => 0))), (a3, .inl (k3, 16, .inl (fun _ => 0))), (a4, .inl (k4, 16, .inl (fun _ => 0))), (a5, .inl (k5, 576, .inl (fun _ => 0))), (a6, .inl (k6, 40, .inl (fun _ => 0))), (a7, .inl (k7, 120, .inl (fun _ => 0))), (a9, .inl (k9, 2, .inl (upd (upd (fun _ => 0) (0 : Int32).toNatClampNeg (-1)) (1 : Int32).toNatClampNeg (-1))))]) (hS : va_S (fun q : Nat => s.heap.size ≤ q) s.heap H locs) {ls : Array Slot} (hl : lv_has ls 4 [(3, .int 0), (2, .ref m0), (1, .ref x0), (0, .ref b)]) : W p l e room_1 s m #[Value.ref b] below meth c H locs 29 2637 (lw_Z below #[Value.ref b] s) (F0 m 769 ls []) := by
  obtain ⟨hx, hb, hr, hml, hown, hts, hX, hbl, hlocks, hgv⟩ := id C0
  have hts := fun w h => hts w (wlaw_in w h)
  have hA : ∀ q : Nat, s.heap.size ≤ q → (fun q : Nat => s.heap.size ≤ q) q := fun _ h => h
  have hbA : ¬ (fun q : Nat => s.heap.size ≤ q) b := Nat.not_le.mpr hbl
  have h_in0 : vp_in (0 : Int32) L := vp_in_nI (n := 0) (by omega) (by omega)
  have h_in1 : vp_in (1 : Int32) L := vp_in_nI (n := 1) (by omega) (by omega)
  have h_in2 : vp_in (2 : Int32) L := vp_in_nI (n := 2) (by omega) (by omega)
  have h_in3 : vp_in (3 : Int32) L := vp_in_nI (n := 3) (by omega) (by omega)
  have h_in4 : vp_in (4 : Int32) L := vp_in_nI (n := 4) (by omega) (by omega)
  have h_in5 : vp_in (5 : Int32) L := vp_in_nI (n := 5) (by omega) (by omega)
  refine lv_aload_n hx hb dL_law_769 rfl (lv_at hl 2 rfl) ?_
  refine lv_aload_n hx hb dL_law_770 rfl (lv_at hl 3 rfl) ?_
  refine lv_iload_n hx hb dL_law_771 rfl (lv_at hl 0 rfl) ?_
  refine lv_iconst (v := 1) hx hb dL_law_772 (by decide) ?_
  refine lv_iadd hx hb dL_law_773 ?_
  refine lv_topi (fun y_1 ey_1 => ?_)
  obtain rfl : y_1 = 1 := ey_1.trans (by decide)
  refine va_sld hx hb hX hbl hbA hS h_in1 dL_law_774 ?_
  refine lv_aload_n hx hb dL_law_775 rfl (lv_at hl 3 rfl) ?_
  refine lv_iload_n hx hb dL_law_776 rfl (lv_at hl 0 rfl) ?_
  refine lv_iconst (v := 2) hx hb dL_law_777 (by decide) ?_
  refine lv_iadd hx hb dL_law_778 ?_
  refine lv_topi (fun y_2 ey_2 => ?_)
  obtain rfl : y_2 = 2 := ey_2.trans (by decide)
  refine va_sld hx hb hX hbl hbA hS h_in2 dL_law_779 ?_
  have hPc := hP.sub (ws' := [(x0, .inr (8, [.ref n0, .ref s0, .ref s1, .ref d0, .ref o0, .int 0, .int 0, .int 0, .int 50, .int 20, .ref w0, .ref e0, .ref f0, .ref t0, .ref b0, .int 0])), (n0, .inr (1, [.ref na, .int 0]))]) [0, 1] rfl
  have hKc := hK.sub (tys' := []) [] rfl
  refine vp_callSi (W.runV (As := [.int (xs (1 : Int32).toNatClampNeg), .int (xs (2 : Int32).toNatClampNeg)]) (rest := []) ⟨hx, hb, hml, hown, hts⟩ (c_X8_dotted l dC dI x0 n0 s0 s1 d0 o0 w0 e0 f0 t0 b0 na (xs (1 : Int32).toNatClampNeg) (xs (2 : Int32).toNatClampNeg)) (cwV 2 hts g_law__X8_dotted_80 rfl rfl rfl (by decide +kernel) ⟨Nat.le_of_ble_eq_true rfl, Nat.le_of_ble_eq_true rfl⟩) ⟨fun a U g mk q => by obtain ⟨q0, qP, qK⟩ := q; exact ⟨q0, qP, va_K.moved (u := U) (U := U.calling g mk a) (Vm.Alike.refl U.vm) qK⟩, va_recv hKc hPc (ci := 8) (q0 := 0) rfl rfl, fun U hU hW => ⟨rfl, by rw [hU]; exact hPc, va_K.moved hW.alike hKc⟩⟩ rfl rfl hl.1 rfl (lv_room (Nat.le_of_ble_eq_true rfl)) dL_law_780 ⟨Nat.le_of_ble_eq_true rfl, Nat.le_of_ble_eq_true rfl⟩) (fun r_3 hr_3 => ?_)
  try dsimp only at hr_3
  subst hr_3
  refine lv_aload_n hx hb dL_law_783 rfl (lv_at hl 1 rfl) ?_
  refine lv_aload_n hx hb dL_law_784 rfl (lv_at hl 3 rfl) ?_
  refine lv_iload_n hx hb dL_law_785 rfl (lv_at hl 0 rfl) ?_
  refine lv_iconst (v := 1) hx hb dL_law_786 (by decide) ?_
  refine lv_iadd hx hb dL_law_787 ?_
  refine lv_topi (fun y_4 ey_4 => ?_)
  obtain rfl : y_4 = 1 := ey_4.trans (by decide)
  refine va_sld hx hb hX hbl hbA hS h_in1 dL_law_788 ?_
  refine lv_aload_n hx hb dL_law_789 rfl (lv_at hl 3 rfl) ?_
  refine lv_iload_n hx hb dL_law_790 rfl (lv_at hl 0 rfl) ?_
  refine lv_iconst (v := 2) hx hb dL_law_791 (by decide) ?_
  refine lv_iadd hx hb dL_law_792 ?_
  refine lv_topi (fun y_5 ey_5 => ?_)
  obtain rfl : y_5 = 2 := ey_5.trans (by decide)
  refine va_sld hx hb hX hbl hbA hS h_in2 dL_law_793 ?_
  have hPc := hP.sub (ws' := [(m0, .inr (9, [.int 0, .ref a1, .ref a2, .ref a3, .ref a4, .ref a5, .int 50, .int 20, .int 0, .ref a6, .ref a7, .int 0, .ref a8, .int 0, .ref a9, .ref a10, .long 0, .long 0, .int 0, .long 0, .long 0, .ref a11]))]) [6] rfl
  have hKc := hK.sub (tys' := []) [] rfl
  refine vp_callSi (W.runV (As := [.int (xs (1 : Int32).toNatClampNeg), .int (xs (2 : Int32).toNatClampNeg)]) (rest := [.int (-100001)]) ⟨hx, hb, hml, hown, hts⟩ (c_X9_dotted l dC dI m0 a1 a2 a3 a4 a5 a6 a7 a8 a9 a10 a11 (xs (1 : Int32).toNatClampNeg) (xs (2 : Int32).toNatClampNeg)) (cwV 2 hts g_law__X9_dotted_83 rfl rfl rfl (by decide +kernel) ⟨Nat.le_of_ble_eq_true rfl, Nat.le_of_ble_eq_true rfl⟩) ⟨fun a U g mk q => by obtain ⟨q0, qP, qK⟩ := q; exact ⟨q0, qP, va_K.moved (u := U) (U := U.calling g mk a) (Vm.Alike.refl U.vm) qK⟩, va_recv hKc hPc (ci := 9) (q0 := 0) rfl rfl, fun U hU hW => ⟨rfl, by rw [hU]; exact hPc, va_K.moved hW.alike hKc⟩⟩ rfl rfl hl.1 rfl (lv_room (Nat.le_of_ble_eq_true rfl)) dL_law_794 ⟨Nat.le_of_ble_eq_true rfl, Nat.le_of_ble_eq_true rfl⟩) (fun r_6 hr_6 => ?_)
  try dsimp only at hr_6
  subst hr_6
  refine lv_icmp_eq (tgt := 957) hx hb dL_law_797 (by decide) (fun _ => ?_) (fun h9 => absurd h9 (by decide))
  refine W.widen (k := 600000) (n := 7302250) (Nat.le_of_ble_eq_true rfl) (Nat.le_of_ble_eq_true rfl) ?_
  exact law_end hL C0 hS (lv_sub hl [0, 3] rfl)
set_option maxHeartbeats 4000000 in
set_option maxRecDepth 100000 in
theorem lc_16 {p : Program} {l : Launch} {e : Env} {s : State} {m : MethodId} {below : List Frame} {meth : Method} {c : Code} {b L : Nat} {xs : Nat → Int32} (hL : L ≤ 6) (h6 : 6 ≤ L) (C0 : lw_At p s m meth c b L xs) {dC : Nat → ClassId} {dI : Nat → Nat → Nat} (hN : XN s) {x0 m0 n0 s0 s1 d0 o0 w0 e0 f0 t0 b0 na sa sb a1 a2 a3 a4 a5 a6 a7 a8 a9 a10 a11 : Nat} {kN kD k1 k2 k3 k4 k5 k6 k7 k9 : ClassId} {H : Heap} {locs : List Loc} (hK : va_K (dC, dI) vwCl [(kN, .object "MeetingsAbove$Thing"), (kD, .object "MeetingsAbove$Dot"), (k1, .int), (k2, .int), (k3, .int), (k4, .boolean), (k5, .int), (k6, .int), (k7, .int), (k9, .int)] s) (hP : va_P (dC, dI) vwCl [(x0, .inr (8, [.ref n0, .ref s0, .ref s1, .ref d0, .ref o0, .int 0, .int 0, .int 0, .int 50, .int 20, .ref w0, .ref e0, .ref f0, .ref t0, .ref b0, .int 0])), (n0, .inr (1, [.ref na, .int 0])), (na, .inl (kN, 16, .inr (.inr (.inr (.inr (fun _ => none)))))), (s0, .inr (1, [.ref sa, .int 0])), (s1, .inr (1, [.ref sb, .int 0])), (d0, .inl (kD, 40, .inr (.inr (.inr (.inr (fun _ => none)))))), (m0, .inr (9, [.int 0, .ref a1, .ref a2, .ref a3, .ref a4, .ref a5, .int 50, .int 20, .int 0, .ref a6, .ref a7, .int 0, .ref a8, .int 0, .ref a9, .ref a10, .long 0, .long 0, .int 0, .long 0, .long 0, .ref a11])), (a1, .inl (k1, 16, .inl (fun _ => 0))), (a2, .inl (k2, 16, .inl (fun _ => 0))), (a3, .inl (k3, 16, .inl (fun _ => 0))), (a4, .inl (k4, 16, .inl (fun _ => 0))), (a5, .inl (k5, 576, .inl (fun _ => 0))), (a6, .inl (k6, 40, .inl (fun _ => 0))), (a7, .inl (k7, 120, .inl (fun _ => 0))), (a9, .inl (k9, 2, .inl (upd (upd (fun _ => 0) (0 : Int32).toNatClampNeg (-1)) (1 : Int32).toNatClampNeg (-1))))] H) (hD : va_D (fun q : Nat => s.heap.size ≤ q) [(x0, .inr (8, [.ref n0, .ref s0, .ref s1, .ref d0, .ref o0, .int 0, .int 0, .int 0, .int 50, .int 20, .ref w0, .ref e0, .ref f0, .ref t0, .ref b0, .int 0])), (n0, .inr (1, [.ref na, .int 0])), (na, .inl (kN, 16, .inr (.inr (.inr (.inr (fun _ => none)))))), (s0, .inr (1, [.ref sa, .int 0])), (s1, .inr (1, [.ref sb, .int 0])), (d0, .inl (kD, 40, .inr (.inr (.inr (.inr (fun _ => none)))))), (m0, .inr (9, [.int 0, .ref a1, .ref a2, .ref a3, .ref a4, .ref a5, .int 50, .int 20, .int 0, .ref a6, .ref a7, .int 0, .ref a8, .int 0, .ref a9, .ref a10, .long 0, .long 0, .int 0, .long 0, .long 0, .ref a11])), (a1, .inl (k1, 16, .inl (fun _ => 0))), (a2, .inl (k2, 16, .inl (fun _ => 0))), (a3, .inl (k3, 16, .inl (fun _ => 0))), (a4, .inl (k4, 16, .inl (fun _ => 0))), (a5, .inl (k5, 576, .inl (fun _ => 0))), (a6, .inl (k6, 40, .inl (fun _ => 0))), (a7, .inl (k7, 120, .inl (fun _ => 0))), (a9, .inl (k9, 2, .inl (upd (upd (fun _ => 0) (0 : Int32).toNatClampNeg (-1)) (1 : Int32).toNatClampNeg (-1))))]) (hS : va_S (fun q : Nat => s.heap.size ≤ q) s.heap H locs) {ls : Array Slot} (hl : lv_has ls 4 [(3, .int 0), (2, .ref m0), (1, .ref x0), (0, .ref b)]) : W p l e room_1 s m #[Value.ref b] below meth c H locs 29 2637 (lw_Z below #[Value.ref b] s) (F0 m 802 ls []) := by
  obtain ⟨hx, hb, hr, hml, hown, hts, hX, hbl, hlocks, hgv⟩ := id C0
  have hts := fun w h => hts w (wlaw_in w h)
  have hA : ∀ q : Nat, s.heap.size ≤ q → (fun q : Nat => s.heap.size ≤ q) q := fun _ h => h
  have hbA : ¬ (fun q : Nat => s.heap.size ≤ q) b := Nat.not_le.mpr hbl
  have h_in0 : vp_in (0 : Int32) L := vp_in_nI (n := 0) (by omega) (by omega)
  have h_in1 : vp_in (1 : Int32) L := vp_in_nI (n := 1) (by omega) (by omega)
  have h_in2 : vp_in (2 : Int32) L := vp_in_nI (n := 2) (by omega) (by omega)
  have h_in3 : vp_in (3 : Int32) L := vp_in_nI (n := 3) (by omega) (by omega)
  have h_in4 : vp_in (4 : Int32) L := vp_in_nI (n := 4) (by omega) (by omega)
  have h_in5 : vp_in (5 : Int32) L := vp_in_nI (n := 5) (by omega) (by omega)
  refine lv_aload_n hx hb dL_law_802 rfl (lv_at hl 2 rfl) ?_
  refine lv_aload_n hx hb dL_law_803 rfl (lv_at hl 3 rfl) ?_
  refine lv_iload_n hx hb dL_law_804 rfl (lv_at hl 0 rfl) ?_
  refine lv_iconst (v := 1) hx hb dL_law_805 (by decide) ?_
  refine lv_iadd hx hb dL_law_806 ?_
  refine lv_topi (fun y_1 ey_1 => ?_)
  obtain rfl : y_1 = 1 := ey_1.trans (by decide)
  refine va_sld hx hb hX hbl hbA hS h_in1 dL_law_807 ?_
  refine lv_aload_n hx hb dL_law_808 rfl (lv_at hl 3 rfl) ?_
  refine lv_iload_n hx hb dL_law_809 rfl (lv_at hl 0 rfl) ?_
  refine lv_iconst (v := 2) hx hb dL_law_810 (by decide) ?_
  refine lv_iadd hx hb dL_law_811 ?_
  refine lv_topi (fun y_2 ey_2 => ?_)
  obtain rfl : y_2 = 2 := ey_2.trans (by decide)
  refine va_sld hx hb hX hbl hbA hS h_in2 dL_law_812 ?_
  have hPc := hP.sub (ws' := [(x0, .inr (8, [.ref n0, .ref s0, .ref s1, .ref d0, .ref o0, .int 0, .int 0, .int 0, .int 50, .int 20, .ref w0, .ref e0, .ref f0, .ref t0, .ref b0, .int 0])), (n0, .inr (1, [.ref na, .int 0]))]) [0, 1] rfl
  have hKc := hK.sub (tys' := []) [] rfl
  refine vp_callSi (W.runV (As := [.int (xs (1 : Int32).toNatClampNeg), .int (xs (2 : Int32).toNatClampNeg)]) (rest := []) ⟨hx, hb, hml, hown, hts⟩ (c_X8_notice l dC dI x0 n0 s0 s1 d0 o0 w0 e0 f0 t0 b0 na (xs (1 : Int32).toNatClampNeg) (xs (2 : Int32).toNatClampNeg)) (cwV 2 hts g_law__X8_notice_84 rfl rfl rfl (by decide +kernel) ⟨Nat.le_of_ble_eq_true rfl, Nat.le_of_ble_eq_true rfl⟩) ⟨fun a U g mk q => by obtain ⟨q0, qP, qK⟩ := q; exact ⟨q0, qP, va_K.moved (u := U) (U := U.calling g mk a) (Vm.Alike.refl U.vm) qK⟩, va_recv hKc hPc (ci := 8) (q0 := 0) rfl rfl, fun U hU hW => ⟨rfl, by rw [hU]; exact hPc, va_K.moved hW.alike hKc⟩⟩ rfl rfl hl.1 rfl (lv_room (Nat.le_of_ble_eq_true rfl)) dL_law_813 ⟨Nat.le_of_ble_eq_true rfl, Nat.le_of_ble_eq_true rfl⟩) (fun r_3 hr_3 => ?_)
  try dsimp only at hr_3
  subst hr_3
  refine lv_aload_n hx hb dL_law_816 rfl (lv_at hl 1 rfl) ?_
  refine lv_aload_n hx hb dL_law_817 rfl (lv_at hl 3 rfl) ?_
  refine lv_iload_n hx hb dL_law_818 rfl (lv_at hl 0 rfl) ?_
  refine lv_iconst (v := 1) hx hb dL_law_819 (by decide) ?_
  refine lv_iadd hx hb dL_law_820 ?_
  refine lv_topi (fun y_4 ey_4 => ?_)
  obtain rfl : y_4 = 1 := ey_4.trans (by decide)
  refine va_sld hx hb hX hbl hbA hS h_in1 dL_law_821 ?_
  refine lv_aload_n hx hb dL_law_822 rfl (lv_at hl 3 rfl) ?_
  refine lv_iload_n hx hb dL_law_823 rfl (lv_at hl 0 rfl) ?_
  refine lv_iconst (v := 2) hx hb dL_law_824 (by decide) ?_
  refine lv_iadd hx hb dL_law_825 ?_
  refine lv_topi (fun y_5 ey_5 => ?_)
  obtain rfl : y_5 = 2 := ey_5.trans (by decide)
  refine va_sld hx hb hX hbl hbA hS h_in2 dL_law_826 ?_
  have hPc := hP.sub (ws' := [(m0, .inr (9, [.int 0, .ref a1, .ref a2, .ref a3, .ref a4, .ref a5, .int 50, .int 20, .int 0, .ref a6, .ref a7, .int 0, .ref a8, .int 0, .ref a9, .ref a10, .long 0, .long 0, .int 0, .long 0, .long 0, .ref a11]))]) [6] rfl
  have hKc := hK.sub (tys' := []) [] rfl
  refine vp_callSi (W.runV (As := [.int (xs (1 : Int32).toNatClampNeg), .int (xs (2 : Int32).toNatClampNeg)]) (rest := [.int (-100001)]) ⟨hx, hb, hml, hown, hts⟩ (c_X9_notice l dC dI m0 a1 a2 a3 a4 a5 a6 a7 a8 a9 a10 a11 (xs (1 : Int32).toNatClampNeg) (xs (2 : Int32).toNatClampNeg)) (cwV 2 hts g_law__X9_notice_87 rfl rfl rfl (by decide +kernel) ⟨Nat.le_of_ble_eq_true rfl, Nat.le_of_ble_eq_true rfl⟩) ⟨fun a U g mk q => by obtain ⟨q0, qP, qK⟩ := q; exact ⟨q0, qP, va_K.moved (u := U) (U := U.calling g mk a) (Vm.Alike.refl U.vm) qK⟩, va_recv hKc hPc (ci := 9) (q0 := 0) rfl rfl, fun U hU hW => ⟨rfl, by rw [hU]; exact hPc, va_K.moved hW.alike hKc⟩⟩ rfl rfl hl.1 rfl (lv_room (Nat.le_of_ble_eq_true rfl)) dL_law_827 ⟨Nat.le_of_ble_eq_true rfl, Nat.le_of_ble_eq_true rfl⟩) (fun r_6 hr_6 => ?_)
  try dsimp only at hr_6
  subst hr_6
  refine lv_icmp_eq (tgt := 957) hx hb dL_law_830 (by decide) (fun _ => ?_) (fun h9 => absurd h9 (by decide))
  refine W.widen (k := 600000) (n := 7302250) (Nat.le_of_ble_eq_true rfl) (Nat.le_of_ble_eq_true rfl) ?_
  exact law_end hL C0 hS (lv_sub hl [0, 3] rfl)
set_option maxHeartbeats 4000000 in
set_option maxRecDepth 100000 in
theorem lc_17 {p : Program} {l : Launch} {e : Env} {s : State} {m : MethodId} {below : List Frame} {meth : Method} {c : Code} {b L : Nat} {xs : Nat → Int32} (hL : L ≤ 6) (h6 : 6 ≤ L) (C0 : lw_At p s m meth c b L xs) {dC : Nat → ClassId} {dI : Nat → Nat → Nat} (hN : XN s) {x0 m0 n0 s0 s1 d0 o0 w0 e0 f0 t0 b0 na sa sb a1 a2 a3 a4 a5 a6 a7 a8 a9 a10 a11 : Nat} {kN kD k1 k2 k3 k4 k5 k6 k7 k9 : ClassId} {H : Heap} {locs : List Loc} (hK : va_K (dC, dI) vwCl [(kN, .object "MeetingsAbove$Thing"), (kD, .object "MeetingsAbove$Dot"), (k1, .int), (k2, .int), (k3, .int), (k4, .boolean), (k5, .int), (k6, .int), (k7, .int), (k9, .int)] s) (hP : va_P (dC, dI) vwCl [(x0, .inr (8, [.ref n0, .ref s0, .ref s1, .ref d0, .ref o0, .int 0, .int 0, .int 0, .int 50, .int 20, .ref w0, .ref e0, .ref f0, .ref t0, .ref b0, .int 0])), (n0, .inr (1, [.ref na, .int 0])), (na, .inl (kN, 16, .inr (.inr (.inr (.inr (fun _ => none)))))), (s0, .inr (1, [.ref sa, .int 0])), (s1, .inr (1, [.ref sb, .int 0])), (d0, .inl (kD, 40, .inr (.inr (.inr (.inr (fun _ => none)))))), (m0, .inr (9, [.int 0, .ref a1, .ref a2, .ref a3, .ref a4, .ref a5, .int 50, .int 20, .int 0, .ref a6, .ref a7, .int 0, .ref a8, .int 0, .ref a9, .ref a10, .long 0, .long 0, .int 0, .long 0, .long 0, .ref a11])), (a1, .inl (k1, 16, .inl (fun _ => 0))), (a2, .inl (k2, 16, .inl (fun _ => 0))), (a3, .inl (k3, 16, .inl (fun _ => 0))), (a4, .inl (k4, 16, .inl (fun _ => 0))), (a5, .inl (k5, 576, .inl (fun _ => 0))), (a6, .inl (k6, 40, .inl (fun _ => 0))), (a7, .inl (k7, 120, .inl (fun _ => 0))), (a9, .inl (k9, 2, .inl (upd (upd (fun _ => 0) (0 : Int32).toNatClampNeg (-1)) (1 : Int32).toNatClampNeg (-1))))] H) (hD : va_D (fun q : Nat => s.heap.size ≤ q) [(x0, .inr (8, [.ref n0, .ref s0, .ref s1, .ref d0, .ref o0, .int 0, .int 0, .int 0, .int 50, .int 20, .ref w0, .ref e0, .ref f0, .ref t0, .ref b0, .int 0])), (n0, .inr (1, [.ref na, .int 0])), (na, .inl (kN, 16, .inr (.inr (.inr (.inr (fun _ => none)))))), (s0, .inr (1, [.ref sa, .int 0])), (s1, .inr (1, [.ref sb, .int 0])), (d0, .inl (kD, 40, .inr (.inr (.inr (.inr (fun _ => none)))))), (m0, .inr (9, [.int 0, .ref a1, .ref a2, .ref a3, .ref a4, .ref a5, .int 50, .int 20, .int 0, .ref a6, .ref a7, .int 0, .ref a8, .int 0, .ref a9, .ref a10, .long 0, .long 0, .int 0, .long 0, .long 0, .ref a11])), (a1, .inl (k1, 16, .inl (fun _ => 0))), (a2, .inl (k2, 16, .inl (fun _ => 0))), (a3, .inl (k3, 16, .inl (fun _ => 0))), (a4, .inl (k4, 16, .inl (fun _ => 0))), (a5, .inl (k5, 576, .inl (fun _ => 0))), (a6, .inl (k6, 40, .inl (fun _ => 0))), (a7, .inl (k7, 120, .inl (fun _ => 0))), (a9, .inl (k9, 2, .inl (upd (upd (fun _ => 0) (0 : Int32).toNatClampNeg (-1)) (1 : Int32).toNatClampNeg (-1))))]) (hS : va_S (fun q : Nat => s.heap.size ≤ q) s.heap H locs) {ls : Array Slot} (hl : lv_has ls 4 [(3, .int 0), (2, .ref m0), (1, .ref x0), (0, .ref b)]) : W p l e room_1 s m #[Value.ref b] below meth c H locs 29 2637 (lw_Z below #[Value.ref b] s) (F0 m 835 ls []) := by
  obtain ⟨hx, hb, hr, hml, hown, hts, hX, hbl, hlocks, hgv⟩ := id C0
  have hts := fun w h => hts w (wlaw_in w h)
  have hA : ∀ q : Nat, s.heap.size ≤ q → (fun q : Nat => s.heap.size ≤ q) q := fun _ h => h
  have hbA : ¬ (fun q : Nat => s.heap.size ≤ q) b := Nat.not_le.mpr hbl
  have h_in0 : vp_in (0 : Int32) L := vp_in_nI (n := 0) (by omega) (by omega)
  have h_in1 : vp_in (1 : Int32) L := vp_in_nI (n := 1) (by omega) (by omega)
  have h_in2 : vp_in (2 : Int32) L := vp_in_nI (n := 2) (by omega) (by omega)
  have h_in3 : vp_in (3 : Int32) L := vp_in_nI (n := 3) (by omega) (by omega)
  have h_in4 : vp_in (4 : Int32) L := vp_in_nI (n := 4) (by omega) (by omega)
  have h_in5 : vp_in (5 : Int32) L := vp_in_nI (n := 5) (by omega) (by omega)
  refine lv_aload_n hx hb dL_law_835 rfl (lv_at hl 2 rfl) ?_
  refine lv_aload_n hx hb dL_law_836 rfl (lv_at hl 3 rfl) ?_
  refine lv_iload_n hx hb dL_law_837 rfl (lv_at hl 0 rfl) ?_
  refine lv_iconst (v := 1) hx hb dL_law_838 (by decide) ?_
  refine lv_iadd hx hb dL_law_839 ?_
  refine lv_topi (fun y_1 ey_1 => ?_)
  obtain rfl : y_1 = 1 := ey_1.trans (by decide)
  refine va_sld hx hb hX hbl hbA hS h_in1 dL_law_840 ?_
  refine lv_aload_n hx hb dL_law_841 rfl (lv_at hl 3 rfl) ?_
  refine lv_iload_n hx hb dL_law_842 rfl (lv_at hl 0 rfl) ?_
  refine lv_iconst (v := 2) hx hb dL_law_843 (by decide) ?_
  refine lv_iadd hx hb dL_law_844 ?_
  refine lv_topi (fun y_2 ey_2 => ?_)
  obtain rfl : y_2 = 2 := ey_2.trans (by decide)
  refine va_sld hx hb hX hbl hbA hS h_in2 dL_law_845 ?_
  refine lv_aload_n hx hb dL_law_846 rfl (lv_at hl 3 rfl) ?_
  refine lv_iload_n hx hb dL_law_847 rfl (lv_at hl 0 rfl) ?_
  refine lv_iconst (v := 3) hx hb dL_law_848 (by decide) ?_
  refine lv_iadd hx hb dL_law_849 ?_
  refine lv_topi (fun y_3 ey_3 => ?_)
  obtain rfl : y_3 = 3 := ey_3.trans (by decide)
  refine va_sld hx hb hX hbl hbA hS h_in3 dL_law_850 ?_
  have hPc := hP.sub (ws' := [(x0, .inr (8, [.ref n0, .ref s0, .ref s1, .ref d0, .ref o0, .int 0, .int 0, .int 0, .int 50, .int 20, .ref w0, .ref e0, .ref f0, .ref t0, .ref b0, .int 0])), (n0, .inr (1, [.ref na, .int 0]))]) [0, 1] rfl
  have hKc := hK.sub (tys' := []) [] rfl
  refine vp_callSi (W.runV (As := [.int (xs (1 : Int32).toNatClampNeg), .int (xs (2 : Int32).toNatClampNeg), .int (xs (3 : Int32).toNatClampNeg)]) (rest := []) ⟨hx, hb, hml, hown, hts⟩ (c_X8_answer l dC dI x0 n0 s0 s1 d0 o0 w0 e0 f0 t0 b0 na (xs (1 : Int32).toNatClampNeg) (xs (2 : Int32).toNatClampNeg) (xs (3 : Int32).toNatClampNeg)) (cwV 3 hts g_law__X8_answer_88 rfl rfl rfl (by decide +kernel) ⟨Nat.le_of_ble_eq_true rfl, Nat.le_of_ble_eq_true rfl⟩) ⟨fun a U g mk q => by obtain ⟨q0, qP, qK⟩ := q; exact ⟨q0, qP, va_K.moved (u := U) (U := U.calling g mk a) (Vm.Alike.refl U.vm) qK⟩, va_recv hKc hPc (ci := 8) (q0 := 0) rfl rfl, fun U hU hW => ⟨rfl, by rw [hU]; exact hPc, va_K.moved hW.alike hKc⟩⟩ rfl rfl hl.1 rfl (lv_room (Nat.le_of_ble_eq_true rfl)) dL_law_851 ⟨Nat.le_of_ble_eq_true rfl, Nat.le_of_ble_eq_true rfl⟩) (fun r_4 hr_4 => ?_)
  try dsimp only at hr_4
  subst hr_4
  refine lv_aload_n hx hb dL_law_854 rfl (lv_at hl 1 rfl) ?_
  refine lv_aload_n hx hb dL_law_855 rfl (lv_at hl 3 rfl) ?_
  refine lv_iload_n hx hb dL_law_856 rfl (lv_at hl 0 rfl) ?_
  refine lv_iconst (v := 1) hx hb dL_law_857 (by decide) ?_
  refine lv_iadd hx hb dL_law_858 ?_
  refine lv_topi (fun y_5 ey_5 => ?_)
  obtain rfl : y_5 = 1 := ey_5.trans (by decide)
  refine va_sld hx hb hX hbl hbA hS h_in1 dL_law_859 ?_
  refine lv_aload_n hx hb dL_law_860 rfl (lv_at hl 3 rfl) ?_
  refine lv_iload_n hx hb dL_law_861 rfl (lv_at hl 0 rfl) ?_
  refine lv_iconst (v := 2) hx hb dL_law_862 (by decide) ?_
  refine lv_iadd hx hb dL_law_863 ?_
  refine lv_topi (fun y_6 ey_6 => ?_)
  obtain rfl : y_6 = 2 := ey_6.trans (by decide)
  refine va_sld hx hb hX hbl hbA hS h_in2 dL_law_864 ?_
  refine lv_aload_n hx hb dL_law_865 rfl (lv_at hl 3 rfl) ?_
  refine lv_iload_n hx hb dL_law_866 rfl (lv_at hl 0 rfl) ?_
  refine lv_iconst (v := 3) hx hb dL_law_867 (by decide) ?_
  refine lv_iadd hx hb dL_law_868 ?_
  refine lv_topi (fun y_7 ey_7 => ?_)
  obtain rfl : y_7 = 3 := ey_7.trans (by decide)
  refine va_sld hx hb hX hbl hbA hS h_in3 dL_law_869 ?_
  have hPc := hP.sub (ws' := [(m0, .inr (9, [.int 0, .ref a1, .ref a2, .ref a3, .ref a4, .ref a5, .int 50, .int 20, .int 0, .ref a6, .ref a7, .int 0, .ref a8, .int 0, .ref a9, .ref a10, .long 0, .long 0, .int 0, .long 0, .long 0, .ref a11]))]) [6] rfl
  have hKc := hK.sub (tys' := []) [] rfl
  refine vp_callSi (W.runV (As := [.int (xs (1 : Int32).toNatClampNeg), .int (xs (2 : Int32).toNatClampNeg), .int (xs (3 : Int32).toNatClampNeg)]) (rest := [.int (-100001)]) ⟨hx, hb, hml, hown, hts⟩ (c_X9_answer l dC dI m0 a1 a2 a3 a4 a5 a6 a7 a8 a9 a10 a11 (xs (1 : Int32).toNatClampNeg) (xs (2 : Int32).toNatClampNeg) (xs (3 : Int32).toNatClampNeg)) (cwV 3 hts g_law__X9_answer_91 rfl rfl rfl (by decide +kernel) ⟨Nat.le_of_ble_eq_true rfl, Nat.le_of_ble_eq_true rfl⟩) ⟨fun a U g mk q => by obtain ⟨q0, qP, qK⟩ := q; exact ⟨q0, qP, va_K.moved (u := U) (U := U.calling g mk a) (Vm.Alike.refl U.vm) qK⟩, va_recv hKc hPc (ci := 9) (q0 := 0) rfl rfl, fun U hU hW => ⟨rfl, by rw [hU]; exact hPc, va_K.moved hW.alike hKc⟩⟩ rfl rfl hl.1 rfl (lv_room (Nat.le_of_ble_eq_true rfl)) dL_law_870 ⟨Nat.le_of_ble_eq_true rfl, Nat.le_of_ble_eq_true rfl⟩) (fun r_8 hr_8 => ?_)
  try dsimp only at hr_8
  subst hr_8
  refine lv_icmp_eq (tgt := 957) hx hb dL_law_873 (by decide) (fun _ => ?_) (fun h9 => absurd h9 (by decide))
  refine W.widen (k := 600000) (n := 7302250) (Nat.le_of_ble_eq_true rfl) (Nat.le_of_ble_eq_true rfl) ?_
  exact law_end hL C0 hS (lv_sub hl [0, 3] rfl)
set_option maxHeartbeats 4000000 in
set_option maxRecDepth 100000 in
theorem lc_18 {p : Program} {l : Launch} {e : Env} {s : State} {m : MethodId} {below : List Frame} {meth : Method} {c : Code} {b L : Nat} {xs : Nat → Int32} (hL : L ≤ 6) (h6 : 6 ≤ L) (C0 : lw_At p s m meth c b L xs) {dC : Nat → ClassId} {dI : Nat → Nat → Nat} (hN : XN s) {x0 m0 n0 s0 s1 d0 o0 w0 e0 f0 t0 b0 na sa sb a1 a2 a3 a4 a5 a6 a7 a8 a9 a10 a11 : Nat} {kN kD k1 k2 k3 k4 k5 k6 k7 k9 : ClassId} {H : Heap} {locs : List Loc} (hK : va_K (dC, dI) vwCl [(kN, .object "MeetingsAbove$Thing"), (kD, .object "MeetingsAbove$Dot"), (k1, .int), (k2, .int), (k3, .int), (k4, .boolean), (k5, .int), (k6, .int), (k7, .int), (k9, .int)] s) (hP : va_P (dC, dI) vwCl [(x0, .inr (8, [.ref n0, .ref s0, .ref s1, .ref d0, .ref o0, .int 0, .int 0, .int 0, .int 50, .int 20, .ref w0, .ref e0, .ref f0, .ref t0, .ref b0, .int 0])), (n0, .inr (1, [.ref na, .int 0])), (na, .inl (kN, 16, .inr (.inr (.inr (.inr (fun _ => none)))))), (s0, .inr (1, [.ref sa, .int 0])), (s1, .inr (1, [.ref sb, .int 0])), (d0, .inl (kD, 40, .inr (.inr (.inr (.inr (fun _ => none)))))), (m0, .inr (9, [.int 0, .ref a1, .ref a2, .ref a3, .ref a4, .ref a5, .int 50, .int 20, .int 0, .ref a6, .ref a7, .int 0, .ref a8, .int 0, .ref a9, .ref a10, .long 0, .long 0, .int 0, .long 0, .long 0, .ref a11])), (a1, .inl (k1, 16, .inl (fun _ => 0))), (a2, .inl (k2, 16, .inl (fun _ => 0))), (a3, .inl (k3, 16, .inl (fun _ => 0))), (a4, .inl (k4, 16, .inl (fun _ => 0))), (a5, .inl (k5, 576, .inl (fun _ => 0))), (a6, .inl (k6, 40, .inl (fun _ => 0))), (a7, .inl (k7, 120, .inl (fun _ => 0))), (a9, .inl (k9, 2, .inl (upd (upd (fun _ => 0) (0 : Int32).toNatClampNeg (-1)) (1 : Int32).toNatClampNeg (-1))))] H) (hD : va_D (fun q : Nat => s.heap.size ≤ q) [(x0, .inr (8, [.ref n0, .ref s0, .ref s1, .ref d0, .ref o0, .int 0, .int 0, .int 0, .int 50, .int 20, .ref w0, .ref e0, .ref f0, .ref t0, .ref b0, .int 0])), (n0, .inr (1, [.ref na, .int 0])), (na, .inl (kN, 16, .inr (.inr (.inr (.inr (fun _ => none)))))), (s0, .inr (1, [.ref sa, .int 0])), (s1, .inr (1, [.ref sb, .int 0])), (d0, .inl (kD, 40, .inr (.inr (.inr (.inr (fun _ => none)))))), (m0, .inr (9, [.int 0, .ref a1, .ref a2, .ref a3, .ref a4, .ref a5, .int 50, .int 20, .int 0, .ref a6, .ref a7, .int 0, .ref a8, .int 0, .ref a9, .ref a10, .long 0, .long 0, .int 0, .long 0, .long 0, .ref a11])), (a1, .inl (k1, 16, .inl (fun _ => 0))), (a2, .inl (k2, 16, .inl (fun _ => 0))), (a3, .inl (k3, 16, .inl (fun _ => 0))), (a4, .inl (k4, 16, .inl (fun _ => 0))), (a5, .inl (k5, 576, .inl (fun _ => 0))), (a6, .inl (k6, 40, .inl (fun _ => 0))), (a7, .inl (k7, 120, .inl (fun _ => 0))), (a9, .inl (k9, 2, .inl (upd (upd (fun _ => 0) (0 : Int32).toNatClampNeg (-1)) (1 : Int32).toNatClampNeg (-1))))]) (hS : va_S (fun q : Nat => s.heap.size ≤ q) s.heap H locs) {ls : Array Slot} (hl : lv_has ls 4 [(3, .int 0), (2, .ref m0), (1, .ref x0), (0, .ref b)]) : W p l e room_1 s m #[Value.ref b] below meth c H locs 29 2637 (lw_Z below #[Value.ref b] s) (F0 m 878 ls []) := by
  obtain ⟨hx, hb, hr, hml, hown, hts, hX, hbl, hlocks, hgv⟩ := id C0
  have hts := fun w h => hts w (wlaw_in w h)
  have hA : ∀ q : Nat, s.heap.size ≤ q → (fun q : Nat => s.heap.size ≤ q) q := fun _ h => h
  have hbA : ¬ (fun q : Nat => s.heap.size ≤ q) b := Nat.not_le.mpr hbl
  have h_in0 : vp_in (0 : Int32) L := vp_in_nI (n := 0) (by omega) (by omega)
  have h_in1 : vp_in (1 : Int32) L := vp_in_nI (n := 1) (by omega) (by omega)
  have h_in2 : vp_in (2 : Int32) L := vp_in_nI (n := 2) (by omega) (by omega)
  have h_in3 : vp_in (3 : Int32) L := vp_in_nI (n := 3) (by omega) (by omega)
  have h_in4 : vp_in (4 : Int32) L := vp_in_nI (n := 4) (by omega) (by omega)
  have h_in5 : vp_in (5 : Int32) L := vp_in_nI (n := 5) (by omega) (by omega)
  refine lv_aload_n hx hb dL_law_878 rfl (lv_at hl 2 rfl) ?_
  refine lv_aload_n hx hb dL_law_879 rfl (lv_at hl 3 rfl) ?_
  refine lv_iload_n hx hb dL_law_880 rfl (lv_at hl 0 rfl) ?_
  refine lv_iconst (v := 1) hx hb dL_law_881 (by decide) ?_
  refine lv_iadd hx hb dL_law_882 ?_
  refine lv_topi (fun y_1 ey_1 => ?_)
  obtain rfl : y_1 = 1 := ey_1.trans (by decide)
  refine va_sld hx hb hX hbl hbA hS h_in1 dL_law_883 ?_
  refine lv_aload_n hx hb dL_law_884 rfl (lv_at hl 3 rfl) ?_
  refine lv_iload_n hx hb dL_law_885 rfl (lv_at hl 0 rfl) ?_
  refine lv_iconst (v := 2) hx hb dL_law_886 (by decide) ?_
  refine lv_iadd hx hb dL_law_887 ?_
  refine lv_topi (fun y_2 ey_2 => ?_)
  obtain rfl : y_2 = 2 := ey_2.trans (by decide)
  refine va_sld hx hb hX hbl hbA hS h_in2 dL_law_888 ?_
  have hPc := hP.sub (ws' := [(x0, .inr (8, [.ref n0, .ref s0, .ref s1, .ref d0, .ref o0, .int 0, .int 0, .int 0, .int 50, .int 20, .ref w0, .ref e0, .ref f0, .ref t0, .ref b0, .int 0])), (n0, .inr (1, [.ref na, .int 0]))]) [0, 1] rfl
  have hKc := hK.sub (tys' := []) [] rfl
  refine vp_callSi (W.runV (As := [.int (xs (1 : Int32).toNatClampNeg), .int (xs (2 : Int32).toNatClampNeg)]) (rest := []) ⟨hx, hb, hml, hown, hts⟩ (c_X8_noticed l dC dI x0 n0 s0 s1 d0 o0 w0 e0 f0 t0 b0 na (xs (1 : Int32).toNatClampNeg) (xs (2 : Int32).toNatClampNeg)) (cwV 2 hts g_law__X8_noticed_92 rfl rfl rfl (by decide +kernel) ⟨Nat.le_of_ble_eq_true rfl, Nat.le_of_ble_eq_true rfl⟩) ⟨fun a U g mk q => by obtain ⟨q0, qP, qK⟩ := q; exact ⟨q0, qP, va_K.moved (u := U) (U := U.calling g mk a) (Vm.Alike.refl U.vm) qK⟩, va_recv hKc hPc (ci := 8) (q0 := 0) rfl rfl, fun U hU hW => ⟨rfl, by rw [hU]; exact hPc, va_K.moved hW.alike hKc⟩⟩ rfl rfl hl.1 rfl (lv_room (Nat.le_of_ble_eq_true rfl)) dL_law_889 ⟨Nat.le_of_ble_eq_true rfl, Nat.le_of_ble_eq_true rfl⟩) (fun r_3 hr_3 => ?_)
  try dsimp only at hr_3
  subst hr_3
  refine lv_aload_n hx hb dL_law_892 rfl (lv_at hl 1 rfl) ?_
  refine lv_aload_n hx hb dL_law_893 rfl (lv_at hl 3 rfl) ?_
  refine lv_iload_n hx hb dL_law_894 rfl (lv_at hl 0 rfl) ?_
  refine lv_iconst (v := 1) hx hb dL_law_895 (by decide) ?_
  refine lv_iadd hx hb dL_law_896 ?_
  refine lv_topi (fun y_4 ey_4 => ?_)
  obtain rfl : y_4 = 1 := ey_4.trans (by decide)
  refine va_sld hx hb hX hbl hbA hS h_in1 dL_law_897 ?_
  refine lv_aload_n hx hb dL_law_898 rfl (lv_at hl 3 rfl) ?_
  refine lv_iload_n hx hb dL_law_899 rfl (lv_at hl 0 rfl) ?_
  refine lv_iconst (v := 2) hx hb dL_law_900 (by decide) ?_
  refine lv_iadd hx hb dL_law_901 ?_
  refine lv_topi (fun y_5 ey_5 => ?_)
  obtain rfl : y_5 = 2 := ey_5.trans (by decide)
  refine va_sld hx hb hX hbl hbA hS h_in2 dL_law_902 ?_
  have hPc := hP.sub (ws' := [(m0, .inr (9, [.int 0, .ref a1, .ref a2, .ref a3, .ref a4, .ref a5, .int 50, .int 20, .int 0, .ref a6, .ref a7, .int 0, .ref a8, .int 0, .ref a9, .ref a10, .long 0, .long 0, .int 0, .long 0, .long 0, .ref a11]))]) [6] rfl
  have hKc := hK.sub (tys' := []) [] rfl
  refine vp_callSi (W.runV (As := [.int (xs (1 : Int32).toNatClampNeg), .int (xs (2 : Int32).toNatClampNeg)]) (rest := [.int (-100001)]) ⟨hx, hb, hml, hown, hts⟩ (c_X9_noticed l dC dI m0 a1 a2 a3 a4 a5 a6 a7 a8 a9 a10 a11 (xs (1 : Int32).toNatClampNeg) (xs (2 : Int32).toNatClampNeg)) (cwV 2 hts g_law__X9_noticed_95 rfl rfl rfl (by decide +kernel) ⟨Nat.le_of_ble_eq_true rfl, Nat.le_of_ble_eq_true rfl⟩) ⟨fun a U g mk q => by obtain ⟨q0, qP, qK⟩ := q; exact ⟨q0, qP, va_K.moved (u := U) (U := U.calling g mk a) (Vm.Alike.refl U.vm) qK⟩, va_recv hKc hPc (ci := 9) (q0 := 0) rfl rfl, fun U hU hW => ⟨rfl, by rw [hU]; exact hPc, va_K.moved hW.alike hKc⟩⟩ rfl rfl hl.1 rfl (lv_room (Nat.le_of_ble_eq_true rfl)) dL_law_903 ⟨Nat.le_of_ble_eq_true rfl, Nat.le_of_ble_eq_true rfl⟩) (fun r_6 hr_6 => ?_)
  try dsimp only at hr_6
  subst hr_6
  refine lv_icmp_eq (tgt := 957) hx hb dL_law_906 (by decide) (fun _ => ?_) (fun h9 => absurd h9 (by decide))
  refine W.widen (k := 600000) (n := 7302250) (Nat.le_of_ble_eq_true rfl) (Nat.le_of_ble_eq_true rfl) ?_
  exact law_end hL C0 hS (lv_sub hl [0, 3] rfl)
set_option maxHeartbeats 4000000 in
set_option maxRecDepth 100000 in
theorem lc_19 {p : Program} {l : Launch} {e : Env} {s : State} {m : MethodId} {below : List Frame} {meth : Method} {c : Code} {b L : Nat} {xs : Nat → Int32} (hL : L ≤ 6) (h6 : 6 ≤ L) (C0 : lw_At p s m meth c b L xs) {dC : Nat → ClassId} {dI : Nat → Nat → Nat} (hN : XN s) {x0 m0 n0 s0 s1 d0 o0 w0 e0 f0 t0 b0 na sa sb a1 a2 a3 a4 a5 a6 a7 a8 a9 a10 a11 : Nat} {kN kD k1 k2 k3 k4 k5 k6 k7 k9 : ClassId} {H : Heap} {locs : List Loc} (hK : va_K (dC, dI) vwCl [(kN, .object "MeetingsAbove$Thing"), (kD, .object "MeetingsAbove$Dot"), (k1, .int), (k2, .int), (k3, .int), (k4, .boolean), (k5, .int), (k6, .int), (k7, .int), (k9, .int)] s) (hP : va_P (dC, dI) vwCl [(x0, .inr (8, [.ref n0, .ref s0, .ref s1, .ref d0, .ref o0, .int 0, .int 0, .int 0, .int 50, .int 20, .ref w0, .ref e0, .ref f0, .ref t0, .ref b0, .int 0])), (n0, .inr (1, [.ref na, .int 0])), (na, .inl (kN, 16, .inr (.inr (.inr (.inr (fun _ => none)))))), (s0, .inr (1, [.ref sa, .int 0])), (s1, .inr (1, [.ref sb, .int 0])), (d0, .inl (kD, 40, .inr (.inr (.inr (.inr (fun _ => none)))))), (m0, .inr (9, [.int 0, .ref a1, .ref a2, .ref a3, .ref a4, .ref a5, .int 50, .int 20, .int 0, .ref a6, .ref a7, .int 0, .ref a8, .int 0, .ref a9, .ref a10, .long 0, .long 0, .int 0, .long 0, .long 0, .ref a11])), (a1, .inl (k1, 16, .inl (fun _ => 0))), (a2, .inl (k2, 16, .inl (fun _ => 0))), (a3, .inl (k3, 16, .inl (fun _ => 0))), (a4, .inl (k4, 16, .inl (fun _ => 0))), (a5, .inl (k5, 576, .inl (fun _ => 0))), (a6, .inl (k6, 40, .inl (fun _ => 0))), (a7, .inl (k7, 120, .inl (fun _ => 0))), (a9, .inl (k9, 2, .inl (upd (upd (fun _ => 0) (0 : Int32).toNatClampNeg (-1)) (1 : Int32).toNatClampNeg (-1))))] H) (hD : va_D (fun q : Nat => s.heap.size ≤ q) [(x0, .inr (8, [.ref n0, .ref s0, .ref s1, .ref d0, .ref o0, .int 0, .int 0, .int 0, .int 50, .int 20, .ref w0, .ref e0, .ref f0, .ref t0, .ref b0, .int 0])), (n0, .inr (1, [.ref na, .int 0])), (na, .inl (kN, 16, .inr (.inr (.inr (.inr (fun _ => none)))))), (s0, .inr (1, [.ref sa, .int 0])), (s1, .inr (1, [.ref sb, .int 0])), (d0, .inl (kD, 40, .inr (.inr (.inr (.inr (fun _ => none)))))), (m0, .inr (9, [.int 0, .ref a1, .ref a2, .ref a3, .ref a4, .ref a5, .int 50, .int 20, .int 0, .ref a6, .ref a7, .int 0, .ref a8, .int 0, .ref a9, .ref a10, .long 0, .long 0, .int 0, .long 0, .long 0, .ref a11])), (a1, .inl (k1, 16, .inl (fun _ => 0))), (a2, .inl (k2, 16, .inl (fun _ => 0))), (a3, .inl (k3, 16, .inl (fun _ => 0))), (a4, .inl (k4, 16, .inl (fun _ => 0))), (a5, .inl (k5, 576, .inl (fun _ => 0))), (a6, .inl (k6, 40, .inl (fun _ => 0))), (a7, .inl (k7, 120, .inl (fun _ => 0))), (a9, .inl (k9, 2, .inl (upd (upd (fun _ => 0) (0 : Int32).toNatClampNeg (-1)) (1 : Int32).toNatClampNeg (-1))))]) (hS : va_S (fun q : Nat => s.heap.size ≤ q) s.heap H locs) {ls : Array Slot} (hl : lv_has ls 4 [(3, .int 0), (2, .ref m0), (1, .ref x0), (0, .ref b)]) : W p l e room_1 s m #[Value.ref b] below meth c H locs 29 2637 (lw_Z below #[Value.ref b] s) (F0 m 911 ls []) := by
  obtain ⟨hx, hb, hr, hml, hown, hts, hX, hbl, hlocks, hgv⟩ := id C0
  have hts := fun w h => hts w (wlaw_in w h)
  have hA : ∀ q : Nat, s.heap.size ≤ q → (fun q : Nat => s.heap.size ≤ q) q := fun _ h => h
  have hbA : ¬ (fun q : Nat => s.heap.size ≤ q) b := Nat.not_le.mpr hbl
  have h_in0 : vp_in (0 : Int32) L := vp_in_nI (n := 0) (by omega) (by omega)
  have h_in1 : vp_in (1 : Int32) L := vp_in_nI (n := 1) (by omega) (by omega)
  have h_in2 : vp_in (2 : Int32) L := vp_in_nI (n := 2) (by omega) (by omega)
  have h_in3 : vp_in (3 : Int32) L := vp_in_nI (n := 3) (by omega) (by omega)
  have h_in4 : vp_in (4 : Int32) L := vp_in_nI (n := 4) (by omega) (by omega)
  have h_in5 : vp_in (5 : Int32) L := vp_in_nI (n := 5) (by omega) (by omega)
  refine lv_aload_n hx hb dL_law_911 rfl (lv_at hl 2 rfl) ?_
  refine lv_aload_n hx hb dL_law_912 rfl (lv_at hl 3 rfl) ?_
  refine lv_iload_n hx hb dL_law_913 rfl (lv_at hl 0 rfl) ?_
  refine lv_iconst (v := 1) hx hb dL_law_914 (by decide) ?_
  refine lv_iadd hx hb dL_law_915 ?_
  refine lv_topi (fun y_1 ey_1 => ?_)
  obtain rfl : y_1 = 1 := ey_1.trans (by decide)
  refine va_sld hx hb hX hbl hbA hS h_in1 dL_law_916 ?_
  have hPc := hP.sub (ws' := [(x0, .inr (8, [.ref n0, .ref s0, .ref s1, .ref d0, .ref o0, .int 0, .int 0, .int 0, .int 50, .int 20, .ref w0, .ref e0, .ref f0, .ref t0, .ref b0, .int 0])), (n0, .inr (1, [.ref na, .int 0])), (s0, .inr (1, [.ref sa, .int 0])), (s1, .inr (1, [.ref sb, .int 0]))]) [0, 1, 3, 4] rfl
  have hKc := hK.sub (tys' := []) [] rfl
  have hDc := hD.sub (ws' := [(x0, .inr (8, [.ref n0, .ref s0, .ref s1, .ref d0, .ref o0, .int 0, .int 0, .int 0, .int 50, .int 20, .ref w0, .ref e0, .ref f0, .ref t0, .ref b0, .int 0])), (n0, .inr (1, [.ref na, .int 0])), (s0, .inr (1, [.ref sa, .int 0])), (s1, .inr (1, [.ref sb, .int 0]))]) [0, 1, 3, 4] (by decide) rfl
  have hFc := va_free (wc := [(x0, .inr (8, [.ref n0, .ref s0, .ref s1, .ref d0, .ref o0, .int 0, .int 0, .int 0, .int 50, .int 20, .ref w0, .ref e0, .ref f0, .ref t0, .ref b0, .int 0])), (n0, .inr (1, [.ref na, .int 0])), (s0, .inr (1, [.ref sa, .int 0])), (s1, .inr (1, [.ref sb, .int 0]))]) hD hS hA [0, 1, 3, 4] rfl
  refine va_calli (va_runV (As := [.int (xs (1 : Int32).toNatClampNeg)]) (rest := []) ⟨hx, hb, hml, hown, hts⟩ (c_X8_keep l dC dI x0 n0 s0 s1 d0 o0 w0 e0 f0 t0 b0 na sa sb (xs (1 : Int32).toNatClampNeg) H.size) (cwV 1 hts g_law__X8_keep_96 rfl rfl rfl (by decide +kernel) ⟨Nat.le_of_ble_eq_true rfl, Nat.le_of_ble_eq_true rfl⟩) ⟨fun a U g mk q => by obtain ⟨q0, q1, qP, qK, qD⟩ := q; exact ⟨q0, q1, qP, va_K.moved (u := U) (U := U.calling g mk a) (Vm.Alike.refl U.vm) qK, qD⟩, va_recv hKc hPc (ci := 8) (q0 := 0) rfl rfl, fun U hU hW => ⟨rfl, by rw [hU], by rw [hU]; exact hPc, va_K.moved hW.alike hKc, hDc.weaken (fun _ _ _ _ => trivial)⟩⟩ rfl rfl hl.1 rfl (lv_room (Nat.le_of_ble_eq_true rfl)) dL_law_917 ⟨Nat.le_of_ble_eq_true rfl, Nat.le_of_ble_eq_true rfl⟩) hS (fun q _ h => hFc q h) hFc (fun r_3 u_2 t H1 locs ht hvm hw_3 hB hz1 hk1 hS => ?_)
  obtain ⟨hP1, hK1, hD1⟩ := hB
  rw [ht] at hP1
  have hK1 := va_K.moved hvm.symm hK1
  obtain ⟨hP, hD⟩ := va_join (wr := [(na, .inl (kN, 16, .inr (.inr (.inr (.inr (fun _ => none)))))), (d0, .inl (kD, 40, .inr (.inr (.inr (.inr (fun _ => none)))))), (m0, .inr (9, [.int 0, .ref a1, .ref a2, .ref a3, .ref a4, .ref a5, .int 50, .int 20, .int 0, .ref a6, .ref a7, .int 0, .ref a8, .int 0, .ref a9, .ref a10, .long 0, .long 0, .int 0, .long 0, .long 0, .ref a11])), (a1, .inl (k1, 16, .inl (fun _ => 0))), (a2, .inl (k2, 16, .inl (fun _ => 0))), (a3, .inl (k3, 16, .inl (fun _ => 0))), (a4, .inl (k4, 16, .inl (fun _ => 0))), (a5, .inl (k5, 576, .inl (fun _ => 0))), (a6, .inl (k6, 40, .inl (fun _ => 0))), (a7, .inl (k7, 120, .inl (fun _ => 0))), (a9, .inl (k9, 2, .inl (upd (upd (fun _ => 0) (0 : Int32).toNatClampNeg (-1)) (1 : Int32).toNatClampNeg (-1))))]) (w1 := []) hP hD [0, 1, 3, 4] [2, 5, 6, 7, 8, 9, 10, 11, 12, 13, 14] rfl rfl (by decide) (by decide) hk1 hFc hP1 hD1
  have hK := (hK.sub (tys' := [(kN, .object "MeetingsAbove$Thing"), (kD, .object "MeetingsAbove$Dot"), (k1, .int), (k2, .int), (k3, .int), (k4, .boolean), (k5, .int), (k6, .int), (k7, .int), (k9, .int)]) [0, 1, 2, 3, 4, 5, 6, 7, 8, 9] rfl).app hK1
  generalize H1 = H at hP hS ⊢
  have hP : va_P (dC, dI) vwCl [(na, .inl (kN, 16, .inr (.inr (.inr (.inr (fun _ => none)))))), (d0, .inl (kD, 40, .inr (.inr (.inr (.inr (fun _ => none)))))), (m0, .inr (9, [.int 0, .ref a1, .ref a2, .ref a3, .ref a4, .ref a5, .int 50, .int 20, .int 0, .ref a6, .ref a7, .int 0, .ref a8, .int 0, .ref a9, .ref a10, .long 0, .long 0, .int 0, .long 0, .long 0, .ref a11])), (a1, .inl (k1, 16, .inl (fun _ => 0))), (a2, .inl (k2, 16, .inl (fun _ => 0))), (a3, .inl (k3, 16, .inl (fun _ => 0))), (a4, .inl (k4, 16, .inl (fun _ => 0))), (a5, .inl (k5, 576, .inl (fun _ => 0))), (a6, .inl (k6, 40, .inl (fun _ => 0))), (a7, .inl (k7, 120, .inl (fun _ => 0))), (a9, .inl (k9, 2, .inl (upd (upd (fun _ => 0) (0 : Int32).toNatClampNeg (-1)) (1 : Int32).toNatClampNeg (-1))))] H := hP
  have hD : va_D (fun q : Nat => s.heap.size ≤ q) [(na, .inl (kN, 16, .inr (.inr (.inr (.inr (fun _ => none)))))), (d0, .inl (kD, 40, .inr (.inr (.inr (.inr (fun _ => none)))))), (m0, .inr (9, [.int 0, .ref a1, .ref a2, .ref a3, .ref a4, .ref a5, .int 50, .int 20, .int 0, .ref a6, .ref a7, .int 0, .ref a8, .int 0, .ref a9, .ref a10, .long 0, .long 0, .int 0, .long 0, .long 0, .ref a11])), (a1, .inl (k1, 16, .inl (fun _ => 0))), (a2, .inl (k2, 16, .inl (fun _ => 0))), (a3, .inl (k3, 16, .inl (fun _ => 0))), (a4, .inl (k4, 16, .inl (fun _ => 0))), (a5, .inl (k5, 576, .inl (fun _ => 0))), (a6, .inl (k6, 40, .inl (fun _ => 0))), (a7, .inl (k7, 120, .inl (fun _ => 0))), (a9, .inl (k9, 2, .inl (upd (upd (fun _ => 0) (0 : Int32).toNatClampNeg (-1)) (1 : Int32).toNatClampNeg (-1))))] := hD
  have hK : va_K (dC, dI) vwCl [(kN, .object "MeetingsAbove$Thing"), (kD, .object "MeetingsAbove$Dot"), (k1, .int), (k2, .int), (k3, .int), (k4, .boolean), (k5, .int), (k6, .int), (k7, .int), (k9, .int)] s := hK
  refine W.widen (k := 29) (n := 2637) (by omega) (by omega) ?_
  try dsimp only at hw_3
  subst hw_3
  refine lv_aload_n hx hb dL_law_920 rfl (lv_at hl 1 rfl) ?_
  refine lv_aload_n hx hb dL_law_921 rfl (lv_at hl 3 rfl) ?_
  refine lv_iload_n hx hb dL_law_922 rfl (lv_at hl 0 rfl) ?_
  refine lv_iconst (v := 1) hx hb dL_law_923 (by decide) ?_
  refine lv_iadd hx hb dL_law_924 ?_
  refine lv_topi (fun y_4 ey_4 => ?_)
  obtain rfl : y_4 = 1 := ey_4.trans (by decide)
  refine va_sld hx hb hX hbl hbA hS h_in1 dL_law_925 ?_
  have hPc := hP.sub (ws' := [(m0, .inr (9, [.int 0, .ref a1, .ref a2, .ref a3, .ref a4, .ref a5, .int 50, .int 20, .int 0, .ref a6, .ref a7, .int 0, .ref a8, .int 0, .ref a9, .ref a10, .long 0, .long 0, .int 0, .long 0, .long 0, .ref a11])), (a9, .inl (k9, 2, .inl (upd (upd (fun _ => 0) (0 : Int32).toNatClampNeg (-1)) (1 : Int32).toNatClampNeg (-1))))]) [2, 10] rfl
  have hKc := hK.sub (tys' := [(k9, .int)]) [9] rfl
  have hDc := hD.sub (ws' := [(m0, .inr (9, [.int 0, .ref a1, .ref a2, .ref a3, .ref a4, .ref a5, .int 50, .int 20, .int 0, .ref a6, .ref a7, .int 0, .ref a8, .int 0, .ref a9, .ref a10, .long 0, .long 0, .int 0, .long 0, .long 0, .ref a11])), (a9, .inl (k9, 2, .inl (upd (upd (fun _ => 0) (0 : Int32).toNatClampNeg (-1)) (1 : Int32).toNatClampNeg (-1))))]) [2, 10] (by decide) rfl
  have hFc := va_free (wc := [(m0, .inr (9, [.int 0, .ref a1, .ref a2, .ref a3, .ref a4, .ref a5, .int 50, .int 20, .int 0, .ref a6, .ref a7, .int 0, .ref a8, .int 0, .ref a9, .ref a10, .long 0, .long 0, .int 0, .long 0, .long 0, .ref a11])), (a9, .inl (k9, 2, .inl (upd (upd (fun _ => 0) (0 : Int32).toNatClampNeg (-1)) (1 : Int32).toNatClampNeg (-1))))]) hD hS hA [2, 10] rfl
  refine va_calli (va_runV (As := [.int (xs (1 : Int32).toNatClampNeg)]) (rest := [.int (an_keep (xs (1 : Int32).toNatClampNeg))]) ⟨hx, hb, hml, hown, hts⟩ (c_X9_keep l dC dI m0 a1 a2 a3 a4 a5 a6 a7 a8 a9 a10 a11 k9 (xs (1 : Int32).toNatClampNeg) H.size) (cwV 1 hts g_law__X9_keep_99 rfl rfl rfl (by decide +kernel) ⟨Nat.le_of_ble_eq_true rfl, Nat.le_of_ble_eq_true rfl⟩) ⟨fun a U g mk q => by obtain ⟨q0, q1, qP, qK, qD⟩ := q; exact ⟨q0, q1, qP, va_K.moved (u := U) (U := U.calling g mk a) (Vm.Alike.refl U.vm) qK, qD⟩, va_recv hKc hPc (ci := 9) (q0 := 0) rfl rfl, fun U hU hW => ⟨rfl, by rw [hU], by rw [hU]; exact hPc, va_K.moved hW.alike hKc, hDc.weaken (fun _ _ _ _ => trivial)⟩⟩ rfl rfl hl.1 rfl (lv_room (Nat.le_of_ble_eq_true rfl)) dL_law_926 ⟨Nat.le_of_ble_eq_true rfl, Nat.le_of_ble_eq_true rfl⟩) hS (fun q _ h => hFc q h) hFc (fun r_6 u_5 t H1 locs ht hvm hw_6 hB hz1 hk1 hS => ?_)
  obtain ⟨hP1, hK1, hD1⟩ := hB
  rw [ht] at hP1
  have hK1 := va_K.moved hvm.symm hK1
  obtain ⟨hP, hD⟩ := va_join (wr := [(na, .inl (kN, 16, .inr (.inr (.inr (.inr (fun _ => none)))))), (d0, .inl (kD, 40, .inr (.inr (.inr (.inr (fun _ => none)))))), (a1, .inl (k1, 16, .inl (fun _ => 0))), (a2, .inl (k2, 16, .inl (fun _ => 0))), (a3, .inl (k3, 16, .inl (fun _ => 0))), (a4, .inl (k4, 16, .inl (fun _ => 0))), (a5, .inl (k5, 576, .inl (fun _ => 0))), (a6, .inl (k6, 40, .inl (fun _ => 0))), (a7, .inl (k7, 120, .inl (fun _ => 0)))]) (w1 := []) hP hD [2, 10] [0, 1, 3, 4, 5, 6, 7, 8, 9] rfl rfl (by decide) (by decide) hk1 hFc hP1 hD1
  have hK := (hK.sub (tys' := [(kN, .object "MeetingsAbove$Thing"), (kD, .object "MeetingsAbove$Dot"), (k1, .int), (k2, .int), (k3, .int), (k4, .boolean), (k5, .int), (k6, .int), (k7, .int), (k9, .int)]) [0, 1, 2, 3, 4, 5, 6, 7, 8, 9] rfl).app hK1
  generalize H1 = H at hP hS ⊢
  have hP : va_P (dC, dI) vwCl [(na, .inl (kN, 16, .inr (.inr (.inr (.inr (fun _ => none)))))), (d0, .inl (kD, 40, .inr (.inr (.inr (.inr (fun _ => none)))))), (a1, .inl (k1, 16, .inl (fun _ => 0))), (a2, .inl (k2, 16, .inl (fun _ => 0))), (a3, .inl (k3, 16, .inl (fun _ => 0))), (a4, .inl (k4, 16, .inl (fun _ => 0))), (a5, .inl (k5, 576, .inl (fun _ => 0))), (a6, .inl (k6, 40, .inl (fun _ => 0))), (a7, .inl (k7, 120, .inl (fun _ => 0)))] H := hP
  have hD : va_D (fun q : Nat => s.heap.size ≤ q) [(na, .inl (kN, 16, .inr (.inr (.inr (.inr (fun _ => none)))))), (d0, .inl (kD, 40, .inr (.inr (.inr (.inr (fun _ => none)))))), (a1, .inl (k1, 16, .inl (fun _ => 0))), (a2, .inl (k2, 16, .inl (fun _ => 0))), (a3, .inl (k3, 16, .inl (fun _ => 0))), (a4, .inl (k4, 16, .inl (fun _ => 0))), (a5, .inl (k5, 576, .inl (fun _ => 0))), (a6, .inl (k6, 40, .inl (fun _ => 0))), (a7, .inl (k7, 120, .inl (fun _ => 0)))] := hD
  have hK : va_K (dC, dI) vwCl [(kN, .object "MeetingsAbove$Thing"), (kD, .object "MeetingsAbove$Dot"), (k1, .int), (k2, .int), (k3, .int), (k4, .boolean), (k5, .int), (k6, .int), (k7, .int), (k9, .int)] s := hK
  refine W.widen (k := 29) (n := 2637) (by omega) (by omega) ?_
  try dsimp only at hw_6
  subst hw_6
  refine lv_icmp_eq (tgt := 957) hx hb dL_law_929 (by decide) (fun _ => ?_) (fun h9 => absurd rfl h9)
  refine W.widen (k := 600000) (n := 7302250) (Nat.le_of_ble_eq_true rfl) (Nat.le_of_ble_eq_true rfl) ?_
  exact law_end hL C0 hS (lv_sub hl [0, 3] rfl)
set_option maxHeartbeats 4000000 in
set_option maxRecDepth 100000 in
theorem lc_20 {p : Program} {l : Launch} {e : Env} {s : State} {m : MethodId} {below : List Frame} {meth : Method} {c : Code} {b L : Nat} {xs : Nat → Int32} (hL : L ≤ 6) (h6 : 6 ≤ L) (C0 : lw_At p s m meth c b L xs) {dC : Nat → ClassId} {dI : Nat → Nat → Nat} (hN : XN s) {x0 m0 n0 s0 s1 d0 o0 w0 e0 f0 t0 b0 na sa sb a1 a2 a3 a4 a5 a6 a7 a8 a9 a10 a11 : Nat} {kN kD k1 k2 k3 k4 k5 k6 k7 k9 : ClassId} {H : Heap} {locs : List Loc} (hK : va_K (dC, dI) vwCl [(kN, .object "MeetingsAbove$Thing"), (kD, .object "MeetingsAbove$Dot"), (k1, .int), (k2, .int), (k3, .int), (k4, .boolean), (k5, .int), (k6, .int), (k7, .int), (k9, .int)] s) (hP : va_P (dC, dI) vwCl [(x0, .inr (8, [.ref n0, .ref s0, .ref s1, .ref d0, .ref o0, .int 0, .int 0, .int 0, .int 50, .int 20, .ref w0, .ref e0, .ref f0, .ref t0, .ref b0, .int 0])), (n0, .inr (1, [.ref na, .int 0])), (na, .inl (kN, 16, .inr (.inr (.inr (.inr (fun _ => none)))))), (s0, .inr (1, [.ref sa, .int 0])), (s1, .inr (1, [.ref sb, .int 0])), (d0, .inl (kD, 40, .inr (.inr (.inr (.inr (fun _ => none)))))), (m0, .inr (9, [.int 0, .ref a1, .ref a2, .ref a3, .ref a4, .ref a5, .int 50, .int 20, .int 0, .ref a6, .ref a7, .int 0, .ref a8, .int 0, .ref a9, .ref a10, .long 0, .long 0, .int 0, .long 0, .long 0, .ref a11])), (a1, .inl (k1, 16, .inl (fun _ => 0))), (a2, .inl (k2, 16, .inl (fun _ => 0))), (a3, .inl (k3, 16, .inl (fun _ => 0))), (a4, .inl (k4, 16, .inl (fun _ => 0))), (a5, .inl (k5, 576, .inl (fun _ => 0))), (a6, .inl (k6, 40, .inl (fun _ => 0))), (a7, .inl (k7, 120, .inl (fun _ => 0))), (a9, .inl (k9, 2, .inl (upd (upd (fun _ => 0) (0 : Int32).toNatClampNeg (-1)) (1 : Int32).toNatClampNeg (-1))))] H) (hD : va_D (fun q : Nat => s.heap.size ≤ q) [(x0, .inr (8, [.ref n0, .ref s0, .ref s1, .ref d0, .ref o0, .int 0, .int 0, .int 0, .int 50, .int 20, .ref w0, .ref e0, .ref f0, .ref t0, .ref b0, .int 0])), (n0, .inr (1, [.ref na, .int 0])), (na, .inl (kN, 16, .inr (.inr (.inr (.inr (fun _ => none)))))), (s0, .inr (1, [.ref sa, .int 0])), (s1, .inr (1, [.ref sb, .int 0])), (d0, .inl (kD, 40, .inr (.inr (.inr (.inr (fun _ => none)))))), (m0, .inr (9, [.int 0, .ref a1, .ref a2, .ref a3, .ref a4, .ref a5, .int 50, .int 20, .int 0, .ref a6, .ref a7, .int 0, .ref a8, .int 0, .ref a9, .ref a10, .long 0, .long 0, .int 0, .long 0, .long 0, .ref a11])), (a1, .inl (k1, 16, .inl (fun _ => 0))), (a2, .inl (k2, 16, .inl (fun _ => 0))), (a3, .inl (k3, 16, .inl (fun _ => 0))), (a4, .inl (k4, 16, .inl (fun _ => 0))), (a5, .inl (k5, 576, .inl (fun _ => 0))), (a6, .inl (k6, 40, .inl (fun _ => 0))), (a7, .inl (k7, 120, .inl (fun _ => 0))), (a9, .inl (k9, 2, .inl (upd (upd (fun _ => 0) (0 : Int32).toNatClampNeg (-1)) (1 : Int32).toNatClampNeg (-1))))]) (hS : va_S (fun q : Nat => s.heap.size ≤ q) s.heap H locs) {ls : Array Slot} (hl : lv_has ls 4 [(3, .int 0), (2, .ref m0), (1, .ref x0), (0, .ref b)]) : W p l e room_1 s m #[Value.ref b] below meth c H locs 29 2637 (lw_Z below #[Value.ref b] s) (F0 m 934 ls []) := by
  obtain ⟨hx, hb, hr, hml, hown, hts, hX, hbl, hlocks, hgv⟩ := id C0
  have hts := fun w h => hts w (wlaw_in w h)
  have hA : ∀ q : Nat, s.heap.size ≤ q → (fun q : Nat => s.heap.size ≤ q) q := fun _ h => h
  have hbA : ¬ (fun q : Nat => s.heap.size ≤ q) b := Nat.not_le.mpr hbl
  have h_in0 : vp_in (0 : Int32) L := vp_in_nI (n := 0) (by omega) (by omega)
  have h_in1 : vp_in (1 : Int32) L := vp_in_nI (n := 1) (by omega) (by omega)
  have h_in2 : vp_in (2 : Int32) L := vp_in_nI (n := 2) (by omega) (by omega)
  have h_in3 : vp_in (3 : Int32) L := vp_in_nI (n := 3) (by omega) (by omega)
  have h_in4 : vp_in (4 : Int32) L := vp_in_nI (n := 4) (by omega) (by omega)
  have h_in5 : vp_in (5 : Int32) L := vp_in_nI (n := 5) (by omega) (by omega)
  refine lv_aload_n hx hb dL_law_934 rfl (lv_at hl 2 rfl) ?_
  refine lv_aload_n hx hb dL_law_935 rfl (lv_at hl 3 rfl) ?_
  refine lv_iload_n hx hb dL_law_936 rfl (lv_at hl 0 rfl) ?_
  refine lv_iconst (v := 1) hx hb dL_law_937 (by decide) ?_
  refine lv_iadd hx hb dL_law_938 ?_
  refine lv_topi (fun y_1 ey_1 => ?_)
  obtain rfl : y_1 = 1 := ey_1.trans (by decide)
  refine va_sld hx hb hX hbl hbA hS h_in1 dL_law_939 ?_
  have hPc := hP.sub (ws' := [(x0, .inr (8, [.ref n0, .ref s0, .ref s1, .ref d0, .ref o0, .int 0, .int 0, .int 0, .int 50, .int 20, .ref w0, .ref e0, .ref f0, .ref t0, .ref b0, .int 0])), (s0, .inr (1, [.ref sa, .int 0])), (s1, .inr (1, [.ref sb, .int 0]))]) [0, 3, 4] rfl
  have hKc := hK.sub (tys' := []) [] rfl
  refine vp_callSi (W.runV (As := [.int (xs (1 : Int32).toNatClampNeg)]) (rest := []) ⟨hx, hb, hml, hown, hts⟩ (c_X8_differs l dC dI x0 n0 s0 s1 d0 o0 w0 e0 f0 t0 b0 sa sb (xs (1 : Int32).toNatClampNeg)) (cwV 1 hts g_law__X8_differs_100 rfl rfl rfl (by decide +kernel) ⟨Nat.le_of_ble_eq_true rfl, Nat.le_of_ble_eq_true rfl⟩) ⟨fun a U g mk q => by obtain ⟨q0, qP, qK⟩ := q; exact ⟨q0, qP, va_K.moved (u := U) (U := U.calling g mk a) (Vm.Alike.refl U.vm) qK⟩, va_recv hKc hPc (ci := 8) (q0 := 0) rfl rfl, fun U hU hW => ⟨rfl, by rw [hU]; exact hPc, va_K.moved hW.alike hKc⟩⟩ rfl rfl hl.1 rfl (lv_room (Nat.le_of_ble_eq_true rfl)) dL_law_940 ⟨Nat.le_of_ble_eq_true rfl, Nat.le_of_ble_eq_true rfl⟩) (fun r_2 hr_2 => ?_)
  try dsimp only at hr_2
  subst hr_2
  refine lv_aload_n hx hb dL_law_943 rfl (lv_at hl 1 rfl) ?_
  refine lv_aload_n hx hb dL_law_944 rfl (lv_at hl 3 rfl) ?_
  refine lv_iload_n hx hb dL_law_945 rfl (lv_at hl 0 rfl) ?_
  refine lv_iconst (v := 1) hx hb dL_law_946 (by decide) ?_
  refine lv_iadd hx hb dL_law_947 ?_
  refine lv_topi (fun y_3 ey_3 => ?_)
  obtain rfl : y_3 = 1 := ey_3.trans (by decide)
  refine va_sld hx hb hX hbl hbA hS h_in1 dL_law_948 ?_
  have hPc := hP.sub (ws' := [(m0, .inr (9, [.int 0, .ref a1, .ref a2, .ref a3, .ref a4, .ref a5, .int 50, .int 20, .int 0, .ref a6, .ref a7, .int 0, .ref a8, .int 0, .ref a9, .ref a10, .long 0, .long 0, .int 0, .long 0, .long 0, .ref a11])), (a9, .inl (k9, 2, .inl (upd (upd (fun _ => 0) (0 : Int32).toNatClampNeg (-1)) (1 : Int32).toNatClampNeg (-1))))]) [6, 14] rfl
  have hKc := hK.sub (tys' := [(k9, .int)]) [9] rfl
  refine vp_callSi (W.runV (As := [.int (xs (1 : Int32).toNatClampNeg)]) (rest := [.int (an_differs (xs (1 : Int32).toNatClampNeg))]) ⟨hx, hb, hml, hown, hts⟩ (c_X9_differs l dC dI m0 a1 a2 a3 a4 a5 a6 a7 a8 a9 a10 a11 k9 (xs (1 : Int32).toNatClampNeg)) (cwV 1 hts g_law__X9_differs_103 rfl rfl rfl (by decide +kernel) ⟨Nat.le_of_ble_eq_true rfl, Nat.le_of_ble_eq_true rfl⟩) ⟨fun a U g mk q => by obtain ⟨q0, qP, qK⟩ := q; exact ⟨q0, qP, va_K.moved (u := U) (U := U.calling g mk a) (Vm.Alike.refl U.vm) qK⟩, va_recv hKc hPc (ci := 9) (q0 := 0) rfl rfl, fun U hU hW => ⟨rfl, by rw [hU]; exact hPc, va_K.moved hW.alike hKc⟩⟩ rfl rfl hl.1 rfl (lv_room (Nat.le_of_ble_eq_true rfl)) dL_law_949 ⟨Nat.le_of_ble_eq_true rfl, Nat.le_of_ble_eq_true rfl⟩) (fun r_4 hr_4 => ?_)
  try dsimp only at hr_4
  subst hr_4
  refine lv_icmp_eq (tgt := 957) hx hb dL_law_952 (by decide) (fun _ => ?_) (fun h9 => absurd rfl h9)
  refine W.widen (k := 600000) (n := 7302250) (Nat.le_of_ble_eq_true rfl) (Nat.le_of_ble_eq_true rfl) ?_
  exact law_end hL C0 hS (lv_sub hl [0, 3] rfl)
