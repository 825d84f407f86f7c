set_option maxHeartbeats 4000000 in
set_option maxRecDepth 100000 in
theorem lc_0 {p : Program} {l : Launch} {e : Env} {s : State} {m : MethodId} {below : List Frame} {meth : Method} {c : Code} {b L : Nat} {xs : Nat → Int32} (hL : L ≤ 6) (h6 : 6 ≤ L) (C0 : lw_At p s m meth c b L xs) {dC : Nat → ClassId} {dI : Nat → Nat → Nat} (hN : XN s) {x0 m0 n0 s0 s1 d0 o0 w0 e0 f0 t0 b0 na sa sb a1 a2 a3 a4 a5 a6 a7 a8 a9 a10 a11 : Nat} {kN kD k1 k2 k3 k4 k5 k6 k7 k9 : ClassId} {H : Heap} {locs : List Loc} (hK : va_K (dC, dI) vwCl [(kN, .object "MeetingsAbove$Thing"), (kD, .object "MeetingsAbove$Dot"), (k1, .int), (k2, .int), (k3, .int), (k4, .boolean), (k5, .int), (k6, .int), (k7, .int), (k9, .int)] s) (hP : va_P (dC, dI) vwCl [(x0, .inr (8, [.ref n0, .ref s0, .ref s1, .ref d0, .ref o0, .int 0, .int 0, .int 0, .int 50, .int 20, .ref w0, .ref e0, .ref f0, .ref t0, .ref b0, .int 0])), (n0, .inr (1, [.ref na, .int 0])), (na, .inl (kN, 16, .inr (.inr (.inr (.inr (fun _ => none)))))), (s0, .inr (1, [.ref sa, .int 0])), (s1, .inr (1, [.ref sb, .int 0])), (d0, .inl (kD, 40, .inr (.inr (.inr (.inr (fun _ => none)))))), (m0, .inr (9, [.int 0, .ref a1, .ref a2, .ref a3, .ref a4, .ref a5, .int 50, .int 20, .int 0, .ref a6, .ref a7, .int 0, .ref a8, .int 0, .ref a9, .ref a10, .long 0, .long 0, .int 0, .long 0, .long 0, .ref a11])), (a1, .inl (k1, 16, .inl (fun _ => 0))), (a2, .inl (k2, 16, .inl (fun _ => 0))), (a3, .inl (k3, 16, .inl (fun _ => 0))), (a4, .inl (k4, 16, .inl (fun _ => 0))), (a5, .inl (k5, 576, .inl (fun _ => 0))), (a6, .inl (k6, 40, .inl (fun _ => 0))), (a7, .inl (k7, 120, .inl (fun _ => 0))), (a9, .inl (k9, 2, .inl (upd (upd (fun _ => 0) (0 : Int32).toNatClampNeg (-1)) (1 : Int32).toNatClampNeg (-1))))] H) (hD : va_D (fun q : Nat => s.heap.size ≤ q) [(x0, .inr (8, [.ref n0, .ref s0, .ref s1, .ref d0, .ref o0, .int 0, .int 0, .int 0, .int 50, .int 20, .ref w0, .ref e0, .ref f0, .ref t0, .ref b0, .int 0])), (n0, .inr (1, [.ref na, .int 0])), (na, .inl (kN, 16, .inr (.inr (.inr (.inr (fun _ => none)))))), (s0, .inr (1, [.ref sa, .int 0])), (s1, .inr (1, [.ref sb, .int 0])), (d0, .inl (kD, 40, .inr (.inr (.inr (.inr (fun _ => none)))))), (m0, .inr (9, [.int 0, .ref a1, .ref a2, .ref a3, .ref a4, .ref a5, .int 50, .int 20, .int 0, .ref a6, .ref a7, .int 0, .ref a8, .int 0, .ref a9, .ref a10, .long 0, .long 0, .int 0, .long 0, .long 0, .ref a11])), (a1, .inl (k1, 16, .inl (fun _ => 0))), (a2, .inl (k2, 16, .inl (fun _ => 0))), (a3, .inl (k3, 16, .inl (fun _ => 0))), (a4, .inl (k4, 16, .inl (fun _ => 0))), (a5, .inl (k5, 576, .inl (fun _ => 0))), (a6, .inl (k6, 40, .inl (fun _ => 0))), (a7, .inl (k7, 120, .inl (fun _ => 0))), (a9, .inl (k9, 2, .inl (upd (upd (fun _ => 0) (0 : Int32).toNatClampNeg (-1)) (1 : Int32).toNatClampNeg (-1))))]) (hS : va_S (fun q : Nat => s.heap.size ≤ q) s.heap H locs) {ls : Array Slot} (hl : lv_has ls 4 [(3, .int 0), (2, .ref m0), (1, .ref x0), (0, .ref b)]) : W p l e room_1 s m #[Value.ref b] below meth c H locs 29 2637 (lw_Z below #[Value.ref b] s) (F0 m 132 ls []) := by
  obtain ⟨hx, hb, hr, hml, hown, hts, hX, hbl, hlocks, hgv⟩ := id C0
  have hts := fun w h => hts w (wlaw_in w h)
  have hA : ∀ q : Nat, s.heap.size ≤ q → (fun q : Nat => s.heap.size ≤ q) q := fun _ h => h
  have hbA : ¬ (fun q : Nat => s.heap.size ≤ q) b := Nat.not_le.mpr hbl
  have h_in0 : vp_in (0 : Int32) L := vp_in_nI (n := 0) (by omega) (by omega)
  have h_in1 : vp_in (1 : Int32) L := vp_in_nI (n := 1) (by omega) (by omega)
  have h_in2 : vp_in (2 : Int32) L := vp_in_nI (n := 2) (by omega) (by omega)
  have h_in3 : vp_in (3 : Int32) L := vp_in_nI (n := 3) (by omega) (by omega)
  have h_in4 : vp_in (4 : Int32) L := vp_in_nI (n := 4) (by omega) (by omega)
  have h_in5 : vp_in (5 : Int32) L := vp_in_nI (n := 5) (by omega) (by omega)
  refine lv_aload_n hx hb dL_law_132 rfl (lv_at hl 2 rfl) ?_
  refine lv_aload_n hx hb dL_law_133 rfl (lv_at hl 3 rfl) ?_
  refine lv_iload_n hx hb dL_law_134 rfl (lv_at hl 0 rfl) ?_
  refine lv_iconst (v := 1) hx hb dL_law_135 (by decide) ?_
  refine lv_iadd hx hb dL_law_136 ?_
  refine lv_topi (fun y_1 ey_1 => ?_)
  obtain rfl : y_1 = 1 := ey_1.trans (by decide)
  refine va_sld hx hb hX hbl hbA hS h_in1 dL_law_137 ?_
  refine lv_aload_n hx hb dL_law_138 rfl (lv_at hl 3 rfl) ?_
  refine lv_iload_n hx hb dL_law_139 rfl (lv_at hl 0 rfl) ?_
  refine lv_iconst (v := 2) hx hb dL_law_140 (by decide) ?_
  refine lv_iadd hx hb dL_law_141 ?_
  refine lv_topi (fun y_2 ey_2 => ?_)
  obtain rfl : y_2 = 2 := ey_2.trans (by decide)
  refine va_sld hx hb hX hbl hbA hS h_in2 dL_law_142 ?_
  refine lv_aload_n hx hb dL_law_143 rfl (lv_at hl 3 rfl) ?_
  refine lv_iload_n hx hb dL_law_144 rfl (lv_at hl 0 rfl) ?_
  refine lv_iconst (v := 3) hx hb dL_law_145 (by decide) ?_
  refine lv_iadd hx hb dL_law_146 ?_
  refine lv_topi (fun y_3 ey_3 => ?_)
  obtain rfl : y_3 = 3 := ey_3.trans (by decide)
  refine va_sld hx hb hX hbl hbA hS h_in3 dL_law_147 ?_
  refine lv_aload_n hx hb dL_law_148 rfl (lv_at hl 3 rfl) ?_
  refine lv_iload_n hx hb dL_law_149 rfl (lv_at hl 0 rfl) ?_
  refine lv_iconst (v := 4) hx hb dL_law_150 (by decide) ?_
  refine lv_iadd hx hb dL_law_151 ?_
  refine lv_topi (fun y_4 ey_4 => ?_)
  obtain rfl : y_4 = 4 := ey_4.trans (by decide)
  refine va_sld hx hb hX hbl hbA hS h_in4 dL_law_152 ?_
  refine lv_aload_n hx hb dL_law_153 rfl (lv_at hl 3 rfl) ?_
  refine lv_iload_n hx hb dL_law_154 rfl (lv_at hl 0 rfl) ?_
  refine lv_iconst (v := 5) hx hb dL_law_155 (by decide) ?_
  refine lv_iadd hx hb dL_law_156 ?_
  refine lv_topi (fun y_5 ey_5 => ?_)
  obtain rfl : y_5 = 5 := ey_5.trans (by decide)
  refine va_sld hx hb hX hbl hbA hS h_in5 dL_law_157 ?_
  have hPc := hP.sub (ws' := [(x0, .inr (8, [.ref n0, .ref s0, .ref s1, .ref d0, .ref o0, .int 0, .int 0, .int 0, .int 50, .int 20, .ref w0, .ref e0, .ref f0, .ref t0, .ref b0, .int 0])), (n0, .inr (1, [.ref na, .int 0])), (na, .inl (kN, 16, .inr (.inr (.inr (.inr (fun _ => none))))))]) [0, 1, 2] rfl
  have hKc := hK.sub (tys' := [(kN, .object "MeetingsAbove$Thing")]) [0] rfl
  have hDc := hD.sub (ws' := [(x0, .inr (8, [.ref n0, .ref s0, .ref s1, .ref d0, .ref o0, .int 0, .int 0, .int 0, .int 50, .int 20, .ref w0, .ref e0, .ref f0, .ref t0, .ref b0, .int 0])), (n0, .inr (1, [.ref na, .int 0])), (na, .inl (kN, 16, .inr (.inr (.inr (.inr (fun _ => none))))))]) [0, 1, 2] (by decide) rfl
  have hFc := va_free (wc := [(x0, .inr (8, [.ref n0, .ref s0, .ref s1, .ref d0, .ref o0, .int 0, .int 0, .int 0, .int 50, .int 20, .ref w0, .ref e0, .ref f0, .ref t0, .ref b0, .int 0])), (n0, .inr (1, [.ref na, .int 0])), (na, .inl (kN, 16, .inr (.inr (.inr (.inr (fun _ => none))))))]) hD hS hA [0, 1, 2] rfl
  refine va_calli (va_runV (As := [.int (xs (1 : Int32).toNatClampNeg), .int (xs (2 : Int32).toNatClampNeg), .int (xs (3 : Int32).toNatClampNeg), .int (xs (4 : Int32).toNatClampNeg), .int (xs (5 : Int32).toNatClampNeg)]) (rest := []) ⟨hx, hb, hml, hown, hts⟩ (c_X8_thing l dC dI x0 n0 s0 s1 d0 o0 w0 e0 f0 t0 b0 na kN (xs (1 : Int32).toNatClampNeg) (xs (2 : Int32).toNatClampNeg) (xs (3 : Int32).toNatClampNeg) (xs (4 : Int32).toNatClampNeg) (xs (5 : Int32).toNatClampNeg) H.size) (cwV 5 hts g_law__X8_thing_13 rfl rfl rfl (by decide +kernel) ⟨Nat.le_of_ble_eq_true rfl, Nat.le_of_ble_eq_true rfl⟩) ⟨fun a U g mk q => by obtain ⟨q0, q1, qP, qK, qD, qN⟩ := q; exact ⟨q0, q1, qP, va_K.moved (u := U) (U := U.calling g mk a) (Vm.Alike.refl U.vm) qK, qD, XN_same (U := U) (U2 := U.calling g mk a) rfl qN⟩, va_recv hKc hPc (ci := 8) (q0 := 0) rfl rfl, fun U hU hW => ⟨rfl, by rw [hU], by rw [hU]; exact hPc, va_K.moved hW.alike hKc, hDc.weaken (fun _ _ _ _ => trivial), XN_warm hW hN⟩⟩ rfl rfl hl.1 rfl (lv_room (Nat.le_of_ble_eq_true rfl)) dL_law_158 ⟨Nat.le_of_ble_eq_true rfl, Nat.le_of_ble_eq_true rfl⟩) hS (fun q _ h => hFc q h) hFc (fun r_7 u_6 t H1 locs ht hvm hw_7 hB hz1 hk1 hS => ?_)
  obtain ⟨hP1, hK1, hD1⟩ := hB
  rw [ht] at hP1
  have hK1 := va_K.moved hvm.symm hK1
  obtain ⟨hP, hD⟩ := va_join (wr := [(s0, .inr (1, [.ref sa, .int 0])), (s1, .inr (1, [.ref sb, .int 0])), (d0, .inl (kD, 40, .inr (.inr (.inr (.inr (fun _ => none)))))), (m0, .inr (9, [.int 0, .ref a1, .ref a2, .ref a3, .ref a4, .ref a5, .int 50, .int 20, .int 0, .ref a6, .ref a7, .int 0, .ref a8, .int 0, .ref a9, .ref a10, .long 0, .long 0, .int 0, .long 0, .long 0, .ref a11])), (a1, .inl (k1, 16, .inl (fun _ => 0))), (a2, .inl (k2, 16, .inl (fun _ => 0))), (a3, .inl (k3, 16, .inl (fun _ => 0))), (a4, .inl (k4, 16, .inl (fun _ => 0))), (a5, .inl (k5, 576, .inl (fun _ => 0))), (a6, .inl (k6, 40, .inl (fun _ => 0))), (a7, .inl (k7, 120, .inl (fun _ => 0))), (a9, .inl (k9, 2, .inl (upd (upd (fun _ => 0) (0 : Int32).toNatClampNeg (-1)) (1 : Int32).toNatClampNeg (-1))))]) (w1 := []) hP hD [0, 1, 2] [3, 4, 5, 6, 7, 8, 9, 10, 11, 12, 13, 14] rfl rfl (by decide) (by decide) hk1 hFc hP1 hD1
  have hK := (hK.sub (tys' := [(kN, .object "MeetingsAbove$Thing"), (kD, .object "MeetingsAbove$Dot"), (k1, .int), (k2, .int), (k3, .int), (k4, .boolean), (k5, .int), (k6, .int), (k7, .int), (k9, .int)]) [0, 1, 2, 3, 4, 5, 6, 7, 8, 9] rfl).app hK1
  generalize H1 = H at hP hS ⊢
  have hP : va_P (dC, dI) vwCl [(s0, .inr (1, [.ref sa, .int 0])), (s1, .inr (1, [.ref sb, .int 0])), (d0, .inl (kD, 40, .inr (.inr (.inr (.inr (fun _ => none)))))), (m0, .inr (9, [.int 0, .ref a1, .ref a2, .ref a3, .ref a4, .ref a5, .int 50, .int 20, .int 0, .ref a6, .ref a7, .int 0, .ref a8, .int 0, .ref a9, .ref a10, .long 0, .long 0, .int 0, .long 0, .long 0, .ref a11])), (a1, .inl (k1, 16, .inl (fun _ => 0))), (a2, .inl (k2, 16, .inl (fun _ => 0))), (a3, .inl (k3, 16, .inl (fun _ => 0))), (a4, .inl (k4, 16, .inl (fun _ => 0))), (a5, .inl (k5, 576, .inl (fun _ => 0))), (a6, .inl (k6, 40, .inl (fun _ => 0))), (a7, .inl (k7, 120, .inl (fun _ => 0))), (a9, .inl (k9, 2, .inl (upd (upd (fun _ => 0) (0 : Int32).toNatClampNeg (-1)) (1 : Int32).toNatClampNeg (-1))))] H := hP
  have hD : va_D (fun q : Nat => s.heap.size ≤ q) [(s0, .inr (1, [.ref sa, .int 0])), (s1, .inr (1, [.ref sb, .int 0])), (d0, .inl (kD, 40, .inr (.inr (.inr (.inr (fun _ => none)))))), (m0, .inr (9, [.int 0, .ref a1, .ref a2, .ref a3, .ref a4, .ref a5, .int 50, .int 20, .int 0, .ref a6, .ref a7, .int 0, .ref a8, .int 0, .ref a9, .ref a10, .long 0, .long 0, .int 0, .long 0, .long 0, .ref a11])), (a1, .inl (k1, 16, .inl (fun _ => 0))), (a2, .inl (k2, 16, .inl (fun _ => 0))), (a3, .inl (k3, 16, .inl (fun _ => 0))), (a4, .inl (k4, 16, .inl (fun _ => 0))), (a5, .inl (k5, 576, .inl (fun _ => 0))), (a6, .inl (k6, 40, .inl (fun _ => 0))), (a7, .inl (k7, 120, .inl (fun _ => 0))), (a9, .inl (k9, 2, .inl (upd (upd (fun _ => 0) (0 : Int32).toNatClampNeg (-1)) (1 : Int32).toNatClampNeg (-1))))] := hD
  have hK : va_K (dC, dI) vwCl [(kN, .object "MeetingsAbove$Thing"), (kD, .object "MeetingsAbove$Dot"), (k1, .int), (k2, .int), (k3, .int), (k4, .boolean), (k5, .int), (k6, .int), (k7, .int), (k9, .int)] s := hK
  refine W.widen (k := 31) (n := 2678) (by omega) (by omega) ?_
  try dsimp only at hw_7
  subst hw_7
  refine lv_aload_n hx hb dL_law_161 rfl (lv_at hl 1 rfl) ?_
  refine lv_aload_n hx hb dL_law_162 rfl (lv_at hl 3 rfl) ?_
  refine lv_iload_n hx hb dL_law_163 rfl (lv_at hl 0 rfl) ?_
  refine lv_iconst (v := 1) hx hb dL_law_164 (by decide) ?_
  refine lv_iadd hx hb dL_law_165 ?_
  refine lv_topi (fun y_8 ey_8 => ?_)
  obtain rfl : y_8 = 1 := ey_8.trans (by decide)
  refine va_sld hx hb hX hbl hbA hS h_in1 dL_law_166 ?_
  refine lv_aload_n hx hb dL_law_167 rfl (lv_at hl 3 rfl) ?_
  refine lv_iload_n hx hb dL_law_168 rfl (lv_at hl 0 rfl) ?_
  refine lv_iconst (v := 2) hx hb dL_law_169 (by decide) ?_
  refine lv_iadd hx hb dL_law_170 ?_
  refine lv_topi (fun y_9 ey_9 => ?_)
  obtain rfl : y_9 = 2 := ey_9.trans (by decide)
  refine va_sld hx hb hX hbl hbA hS h_in2 dL_law_171 ?_
  refine lv_aload_n hx hb dL_law_172 rfl (lv_at hl 3 rfl) ?_
  refine lv_iload_n hx hb dL_law_173 rfl (lv_at hl 0 rfl) ?_
  refine lv_iconst (v := 3) hx hb dL_law_174 (by decide) ?_
  refine lv_iadd hx hb dL_law_175 ?_
  refine lv_topi (fun y_10 ey_10 => ?_)
  obtain rfl : y_10 = 3 := ey_10.trans (by decide)
  refine va_sld hx hb hX hbl hbA hS h_in3 dL_law_176 ?_
  refine lv_aload_n hx hb dL_law_177 rfl (lv_at hl 3 rfl) ?_
  refine lv_iload_n hx hb dL_law_178 rfl (lv_at hl 0 rfl) ?_
  refine lv_iconst (v := 4) hx hb dL_law_179 (by decide) ?_
  refine lv_iadd hx hb dL_law_180 ?_
  refine lv_topi (fun y_11 ey_11 => ?_)
  obtain rfl : y_11 = 4 := ey_11.trans (by decide)
  refine va_sld hx hb hX hbl hbA hS h_in4 dL_law_181 ?_
  refine lv_aload_n hx hb dL_law_182 rfl (lv_at hl 3 rfl) ?_
  refine lv_iload_n hx hb dL_law_183 rfl (lv_at hl 0 rfl) ?_
  refine lv_iconst (v := 5) hx hb dL_law_184 (by decide) ?_
  refine lv_iadd hx hb dL_law_185 ?_
  refine lv_topi (fun y_12 ey_12 => ?_)
  obtain rfl : y_12 = 5 := ey_12.trans (by decide)
  refine va_sld hx hb hX hbl hbA hS h_in5 dL_law_186 ?_
  have hPc := hP.sub (ws' := [(m0, .inr (9, [.int 0, .ref a1, .ref a2, .ref a3, .ref a4, .ref a5, .int 50, .int 20, .int 0, .ref a6, .ref a7, .int 0, .ref a8, .int 0, .ref a9, .ref a10, .long 0, .long 0, .int 0, .long 0, .long 0, .ref a11])), (a1, .inl (k1, 16, .inl (fun _ => 0))), (a2, .inl (k2, 16, .inl (fun _ => 0))), (a3, .inl (k3, 16, .inl (fun _ => 0))), (a4, .inl (k4, 16, .inl (fun _ => 0))), (a5, .inl (k5, 576, .inl (fun _ => 0)))]) [3, 4, 5, 6, 7, 8] rfl
  have hKc := hK.sub (tys' := [(k1, .int), (k2, .int), (k3, .int), (k4, .boolean), (k5, .int)]) [2, 3, 4, 5, 6] rfl
  have hDc := hD.sub (ws' := [(m0, .inr (9, [.int 0, .ref a1, .ref a2, .ref a3, .ref a4, .ref a5, .int 50, .int 20, .int 0, .ref a6, .ref a7, .int 0, .ref a8, .int 0, .ref a9, .ref a10, .long 0, .long 0, .int 0, .long 0, .long 0, .ref a11])), (a1, .inl (k1, 16, .inl (fun _ => 0))), (a2, .inl (k2, 16, .inl (fun _ => 0))), (a3, .inl (k3, 16, .inl (fun _ => 0))), (a4, .inl (k4, 16, .inl (fun _ => 0))), (a5, .inl (k5, 576, .inl (fun _ => 0)))]) [3, 4, 5, 6, 7, 8] (by decide) rfl
  have hFc := va_free (wc := [(m0, .inr (9, [.int 0, .ref a1, .ref a2, .ref a3, .ref a4, .ref a5, .int 50, .int 20, .int 0, .ref a6, .ref a7, .int 0, .ref a8, .int 0, .ref a9, .ref a10, .long 0, .long 0, .int 0, .long 0, .long 0, .ref a11])), (a1, .inl (k1, 16, .inl (fun _ => 0))), (a2, .inl (k2, 16, .inl (fun _ => 0))), (a3, .inl (k3, 16, .inl (fun _ => 0))), (a4, .inl (k4, 16, .inl (fun _ => 0))), (a5, .inl (k5, 576, .inl (fun _ => 0)))]) hD hS hA [3, 4, 5, 6, 7, 8] rfl
  refine va_calli (va_runV (As := [.int (xs (1 : Int32).toNatClampNeg), .int (xs (2 : Int32).toNatClampNeg), .int (xs (3 : Int32).toNatClampNeg), .int (xs (4 : Int32).toNatClampNeg), .int (xs (5 : Int32).toNatClampNeg)]) (rest := [.int (an_thing (xs (1 : Int32).toNatClampNeg) (xs (2 : Int32).toNatClampNeg) (xs (3 : Int32).toNatClampNeg) (xs (4 : Int32).toNatClampNeg) (xs (5 : Int32).toNatClampNeg))]) ⟨hx, hb, hml, hown, hts⟩ (c_X9_thing l dC dI m0 a1 a2 a3 a4 a5 a6 a7 a8 a9 a10 a11 k1 k2 k3 k4 k5 (xs (1 : Int32).toNatClampNeg) (xs (2 : Int32).toNatClampNeg) (xs (3 : Int32).toNatClampNeg) (xs (4 : Int32).toNatClampNeg) (xs (5 : Int32).toNatClampNeg) H.size) (cwV 5 hts g_law__X9_thing_17 rfl rfl rfl (by decide +kernel) ⟨Nat.le_of_ble_eq_true rfl, Nat.le_of_ble_eq_true rfl⟩) ⟨fun a U g mk q => by obtain ⟨q0, q1, qP, qK, qD⟩ := q; exact ⟨q0, q1, qP, va_K.moved (u := U) (U := U.calling g mk a) (Vm.Alike.refl U.vm) qK, qD⟩, va_recv hKc hPc (ci := 9) (q0 := 0) rfl rfl, fun U hU hW => ⟨rfl, by rw [hU], by rw [hU]; exact hPc, va_K.moved hW.alike hKc, hDc.weaken (fun _ _ _ _ => trivial)⟩⟩ rfl rfl hl.1 rfl (lv_room (Nat.le_of_ble_eq_true rfl)) dL_law_187 ⟨Nat.le_of_ble_eq_true rfl, Nat.le_of_ble_eq_true rfl⟩) hS (fun q _ h => hFc q h) hFc (fun r_14 u_13 t H1 locs ht hvm hw_14 hB hz1 hk1 hS => ?_)
  obtain ⟨hP1, hK1, hD1⟩ := hB
  rw [ht] at hP1
  have hK1 := va_K.moved hvm.symm hK1
  obtain ⟨hP, hD⟩ := va_join (wr := [(s0, .inr (1, [.ref sa, .int 0])), (s1, .inr (1, [.ref sb, .int 0])), (d0, .inl (kD, 40, .inr (.inr (.inr (.inr (fun _ => none)))))), (a6, .inl (k6, 40, .inl (fun _ => 0))), (a7, .inl (k7, 120, .inl (fun _ => 0))), (a9, .inl (k9, 2, .inl (upd (upd (fun _ => 0) (0 : Int32).toNatClampNeg (-1)) (1 : Int32).toNatClampNeg (-1))))]) (w1 := []) hP hD [3, 4, 5, 6, 7, 8] [0, 1, 2, 9, 10, 11] rfl rfl (by decide) (by decide) hk1 hFc hP1 hD1
  have hK := (hK.sub (tys' := [(kN, .object "MeetingsAbove$Thing"), (kD, .object "MeetingsAbove$Dot"), (k1, .int), (k2, .int), (k3, .int), (k4, .boolean), (k5, .int), (k6, .int), (k7, .int), (k9, .int)]) [0, 1, 2, 3, 4, 5, 6, 7, 8, 9] rfl).app hK1
  generalize H1 = H at hP hS ⊢
  have hP : va_P (dC, dI) vwCl [(s0, .inr (1, [.ref sa, .int 0])), (s1, .inr (1, [.ref sb, .int 0])), (d0, .inl (kD, 40, .inr (.inr (.inr (.inr (fun _ => none)))))), (a6, .inl (k6, 40, .inl (fun _ => 0))), (a7, .inl (k7, 120, .inl (fun _ => 0))), (a9, .inl (k9, 2, .inl (upd (upd (fun _ => 0) (0 : Int32).toNatClampNeg (-1)) (1 : Int32).toNatClampNeg (-1))))] H := hP
  have hD : va_D (fun q : Nat => s.heap.size ≤ q) [(s0, .inr (1, [.ref sa, .int 0])), (s1, .inr (1, [.ref sb, .int 0])), (d0, .inl (kD, 40, .inr (.inr (.inr (.inr (fun _ => none)))))), (a6, .inl (k6, 40, .inl (fun _ => 0))), (a7, .inl (k7, 120, .inl (fun _ => 0))), (a9, .inl (k9, 2, .inl (upd (upd (fun _ => 0) (0 : Int32).toNatClampNeg (-1)) (1 : Int32).toNatClampNeg (-1))))] := hD
  have hK : va_K (dC, dI) vwCl [(kN, .object "MeetingsAbove$Thing"), (kD, .object "MeetingsAbove$Dot"), (k1, .int), (k2, .int), (k3, .int), (k4, .boolean), (k5, .int), (k6, .int), (k7, .int), (k9, .int)] s := hK
  refine W.widen (k := 31) (n := 2678) (by omega) (by omega) ?_
  try dsimp only at hw_14
  subst hw_14
  refine lv_icmp_eq (tgt := 957) hx hb dL_law_190 (by decide) (fun _ => ?_) (fun h9 => absurd rfl h9)
  refine W.widen (k := 600000) (n := 7302250) (Nat.le_of_ble_eq_true rfl) (Nat.le_of_ble_eq_true rfl) ?_
  exact law_end hL C0 hS (lv_sub hl [0, 3] rfl)
set_option maxHeartbeats 4000000 in
set_option maxRecDepth 100000 in
theorem lc_1 {p : Program} {l : Launch} {e : Env} {s : State} {m : MethodId} {below : List Frame} {meth : Method} {c : Code} {b L : Nat} {xs : Nat → Int32} (hL : L ≤ 6) (h6 : 6 ≤ L) (C0 : lw_At p s m meth c b L xs) {dC : Nat → ClassId} {dI : Nat → Nat → Nat} (hN : XN s) {x0 m0 n0 s0 s1 d0 o0 w0 e0 f0 t0 b0 na sa sb a1 a2 a3 a4 a5 a6 a7 a8 a9 a10 a11 : Nat} {kN kD k1 k2 k3 k4 k5 k6 k7 k9 : ClassId} {H : Heap} {locs : List Loc} (hK : va_K (dC, dI) vwCl [(kN, .object "MeetingsAbove$Thing"), (kD, .object "MeetingsAbove$Dot"), (k1, .int), (k2, .int), (k3, .int), (k4, .boolean), (k5, .int), (k6, .int), (k7, .int), (k9, .int)] s) (hP : va_P (dC, dI) vwCl [(x0, .inr (8, [.ref n0, .ref s0, .ref s1, .ref d0, .ref o0, .int 0, .int 0, .int 0, .int 50, .int 20, .ref w0, .ref e0, .ref f0, .ref t0, .ref b0, .int 0])), (n0, .inr (1, [.ref na, .int 0])), (na, .inl (kN, 16, .inr (.inr (.inr (.inr (fun _ => none)))))), (s0, .inr (1, [.ref sa, .int 0])), (s1, .inr (1, [.ref sb, .int 0])), (d0, .inl (kD, 40, .inr (.inr (.inr (.inr (fun _ => none)))))), (m0, .inr (9, [.int 0, .ref a1, .ref a2, .ref a3, .ref a4, .ref a5, .int 50, .int 20, .int 0, .ref a6, .ref a7, .int 0, .ref a8, .int 0, .ref a9, .ref a10, .long 0, .long 0, .int 0, .long 0, .long 0, .ref a11])), (a1, .inl (k1, 16, .inl (fun _ => 0))), (a2, .inl (k2, 16, .inl (fun _ => 0))), (a3, .inl (k3, 16, .inl (fun _ => 0))), (a4, .inl (k4, 16, .inl (fun _ => 0))), (a5, .inl (k5, 576, .inl (fun _ => 0))), (a6, .inl (k6, 40, .inl (fun _ => 0))), (a7, .inl (k7, 120, .inl (fun _ => 0))), (a9, .inl (k9, 2, .inl (upd (upd (fun _ => 0) (0 : Int32).toNatClampNeg (-1)) (1 : Int32).toNatClampNeg (-1))))] H) (hD : va_D (fun q : Nat => s.heap.size ≤ q) [(x0, .inr (8, [.ref n0, .ref s0, .ref s1, .ref d0, .ref o0, .int 0, .int 0, .int 0, .int 50, .int 20, .ref w0, .ref e0, .ref f0, .ref t0, .ref b0, .int 0])), (n0, .inr (1, [.ref na, .int 0])), (na, .inl (kN, 16, .inr (.inr (.inr (.inr (fun _ => none)))))), (s0, .inr (1, [.ref sa, .int 0])), (s1, .inr (1, [.ref sb, .int 0])), (d0, .inl (kD, 40, .inr (.inr (.inr (.inr (fun _ => none)))))), (m0, .inr (9, [.int 0, .ref a1, .ref a2, .ref a3, .ref a4, .ref a5, .int 50, .int 20, .int 0, .ref a6, .ref a7, .int 0, .ref a8, .int 0, .ref a9, .ref a10, .long 0, .long 0, .int 0, .long 0, .long 0, .ref a11])), (a1, .inl (k1, 16, .inl (fun _ => 0))), (a2, .inl (k2, 16, .inl (fun _ => 0))), (a3, .inl (k3, 16, .inl (fun _ => 0))), (a4, .inl (k4, 16, .inl (fun _ => 0))), (a5, .inl (k5, 576, .inl (fun _ => 0))), (a6, .inl (k6, 40, .inl (fun _ => 0))), (a7, .inl (k7, 120, .inl (fun _ => 0))), (a9, .inl (k9, 2, .inl (upd (upd (fun _ => 0) (0 : Int32).toNatClampNeg (-1)) (1 : Int32).toNatClampNeg (-1))))]) (hS : va_S (fun q : Nat => s.heap.size ≤ q) s.heap H locs) {ls : Array Slot} (hl : lv_has ls 4 [(3, .int 0), (2, .ref m0), (1, .ref x0), (0, .ref b)]) : W p l e room_1 s m #[Value.ref b] below meth c H locs 29 2637 (lw_Z below #[Value.ref b] s) (F0 m 195 ls []) := by
  obtain ⟨hx, hb, hr, hml, hown, hts, hX, hbl, hlocks, hgv⟩ := id C0
  have hts := fun w h => hts w (wlaw_in w h)
  have hA : ∀ q : Nat, s.heap.size ≤ q → (fun q : Nat => s.heap.size ≤ q) q := fun _ h => h
  have hbA : ¬ (fun q : Nat => s.heap.size ≤ q) b := Nat.not_le.mpr hbl
  have h_in0 : vp_in (0 : Int32) L := vp_in_nI (n := 0) (by omega) (by omega)
  have h_in1 : vp_in (1 : Int32) L := vp_in_nI (n := 1) (by omega) (by omega)
  have h_in2 : vp_in (2 : Int32) L := vp_in_nI (n := 2) (by omega) (by omega)
  have h_in3 : vp_in (3 : Int32) L := vp_in_nI (n := 3) (by omega) (by omega)
  have h_in4 : vp_in (4 : Int32) L := vp_in_nI (n := 4) (by omega) (by omega)
  have h_in5 : vp_in (5 : Int32) L := vp_in_nI (n := 5) (by omega) (by omega)
  refine lv_aload_n hx hb dL_law_195 rfl (lv_at hl 2 rfl) ?_
  refine lv_aload_n hx hb dL_law_196 rfl (lv_at hl 3 rfl) ?_
  refine lv_iload_n hx hb dL_law_197 rfl (lv_at hl 0 rfl) ?_
  refine lv_iconst (v := 1) hx hb dL_law_198 (by decide) ?_
  refine lv_iadd hx hb dL_law_199 ?_
  refine lv_topi (fun y_1 ey_1 => ?_)
  obtain rfl : y_1 = 1 := ey_1.trans (by decide)
  refine va_sld hx hb hX hbl hbA hS h_in1 dL_law_200 ?_
  refine lv_aload_n hx hb dL_law_201 rfl (lv_at hl 3 rfl) ?_
  refine lv_iload_n hx hb dL_law_202 rfl (lv_at hl 0 rfl) ?_
  refine lv_iconst (v := 2) hx hb dL_law_203 (by decide) ?_
  refine lv_iadd hx hb dL_law_204 ?_
  refine lv_topi (fun y_2 ey_2 => ?_)
  obtain rfl : y_2 = 2 := ey_2.trans (by decide)
  refine va_sld hx hb hX hbl hbA hS h_in2 dL_law_205 ?_
  refine lv_aload_n hx hb dL_law_206 rfl (lv_at hl 3 rfl) ?_
  refine lv_iload_n hx hb dL_law_207 rfl (lv_at hl 0 rfl) ?_
  refine lv_iconst (v := 3) hx hb dL_law_208 (by decide) ?_
  refine lv_iadd hx hb dL_law_209 ?_
  refine lv_topi (fun y_3 ey_3 => ?_)
  obtain rfl : y_3 = 3 := ey_3.trans (by decide)
  refine va_sld hx hb hX hbl hbA hS h_in3 dL_law_210 ?_
  refine lv_aload_n hx hb dL_law_211 rfl (lv_at hl 3 rfl) ?_
  refine lv_iload_n hx hb dL_law_212 rfl (lv_at hl 0 rfl) ?_
  refine lv_iconst (v := 4) hx hb dL_law_213 (by decide) ?_
  refine lv_iadd hx hb dL_law_214 ?_
  refine lv_topi (fun y_4 ey_4 => ?_)
  obtain rfl : y_4 = 4 := ey_4.trans (by decide)
  refine va_sld hx hb hX hbl hbA hS h_in4 dL_law_215 ?_
  have hPc := hP.sub (ws' := [(x0, .inr (8, [.ref n0, .ref s0, .ref s1, .ref d0, .ref o0, .int 0, .int 0, .int 0, .int 50, .int 20, .ref w0, .ref e0, .ref f0, .ref t0, .ref b0, .int 0])), (n0, .inr (1, [.ref na, .int 0]))]) [0, 1] rfl
  have hKc := hK.sub (tys' := []) [] rfl
  refine vp_callSi (W.runV (As := [.int (xs (1 : Int32).toNatClampNeg), .int (xs (2 : Int32).toNatClampNeg), .int (xs (3 : Int32).toNatClampNeg), .int (xs (4 : Int32).toNatClampNeg)]) (rest := []) ⟨hx, hb, hml, hown, hts⟩ (c_X8_place l dC dI x0 n0 s0 s1 d0 o0 w0 e0 f0 t0 b0 na (xs (1 : Int32).toNatClampNeg) (xs (2 : Int32).toNatClampNeg) (xs (3 : Int32).toNatClampNeg) (xs (4 : Int32).toNatClampNeg)) (cwV 4 hts g_law__X8_place_18 rfl rfl rfl (by decide +kernel) ⟨Nat.le_of_ble_eq_true rfl, Nat.le_of_ble_eq_true rfl⟩) ⟨fun a U g mk q => by obtain ⟨q0, qP, qK⟩ := q; exact ⟨q0, qP, va_K.moved (u := U) (U := U.calling g mk a) (Vm.Alike.refl U.vm) qK⟩, va_recv hKc hPc (ci := 8) (q0 := 0) rfl rfl, fun U hU hW => ⟨rfl, by rw [hU]; exact hPc, va_K.moved hW.alike hKc⟩⟩ rfl rfl hl.1 rfl (lv_room (Nat.le_of_ble_eq_true rfl)) dL_law_216 ⟨Nat.le_of_ble_eq_true rfl, Nat.le_of_ble_eq_true rfl⟩) (fun r_5 hr_5 => ?_)
  try dsimp only at hr_5
  subst hr_5
  refine lv_aload_n hx hb dL_law_219 rfl (lv_at hl 1 rfl) ?_
  refine lv_aload_n hx hb dL_law_220 rfl (lv_at hl 3 rfl) ?_
  refine lv_iload_n hx hb dL_law_221 rfl (lv_at hl 0 rfl) ?_
  refine lv_iconst (v := 1) hx hb dL_law_222 (by decide) ?_
  refine lv_iadd hx hb dL_law_223 ?_
  refine lv_topi (fun y_6 ey_6 => ?_)
  obtain rfl : y_6 = 1 := ey_6.trans (by decide)
  refine va_sld hx hb hX hbl hbA hS h_in1 dL_law_224 ?_
  refine lv_aload_n hx hb dL_law_225 rfl (lv_at hl 3 rfl) ?_
  refine lv_iload_n hx hb dL_law_226 rfl (lv_at hl 0 rfl) ?_
  refine lv_iconst (v := 2) hx hb dL_law_227 (by decide) ?_
  refine lv_iadd hx hb dL_law_228 ?_
  refine lv_topi (fun y_7 ey_7 => ?_)
  obtain rfl : y_7 = 2 := ey_7.trans (by decide)
  refine va_sld hx hb hX hbl hbA hS h_in2 dL_law_229 ?_
  refine lv_aload_n hx hb dL_law_230 rfl (lv_at hl 3 rfl) ?_
  refine lv_iload_n hx hb dL_law_231 rfl (lv_at hl 0 rfl) ?_
  refine lv_iconst (v := 3) hx hb dL_law_232 (by decide) ?_
  refine lv_iadd hx hb dL_law_233 ?_
  refine lv_topi (fun y_8 ey_8 => ?_)
  obtain rfl : y_8 = 3 := ey_8.trans (by decide)
  refine va_sld hx hb hX hbl hbA hS h_in3 dL_law_234 ?_
  refine lv_aload_n hx hb dL_law_235 rfl (lv_at hl 3 rfl) ?_
  refine lv_iload_n hx hb dL_law_236 rfl (lv_at hl 0 rfl) ?_
  refine lv_iconst (v := 4) hx hb dL_law_237 (by decide) ?_
  refine lv_iadd hx hb dL_law_238 ?_
  refine lv_topi (fun y_9 ey_9 => ?_)
  obtain rfl : y_9 = 4 := ey_9.trans (by decide)
  refine va_sld hx hb hX hbl hbA hS h_in4 dL_law_239 ?_
  have hPc := hP.sub (ws' := [(m0, .inr (9, [.int 0, .ref a1, .ref a2, .ref a3, .ref a4, .ref a5, .int 50, .int 20, .int 0, .ref a6, .ref a7, .int 0, .ref a8, .int 0, .ref a9, .ref a10, .long 0, .long 0, .int 0, .long 0, .long 0, .ref a11]))]) [6] rfl
  have hKc := hK.sub (tys' := []) [] rfl
  refine vp_callSi (W.runV (As := [.int (xs (1 : Int32).toNatClampNeg), .int (xs (2 : Int32).toNatClampNeg), .int (xs (3 : Int32).toNatClampNeg), .int (xs (4 : Int32).toNatClampNeg)]) (rest := [.int (-100001)]) ⟨hx, hb, hml, hown, hts⟩ (c_X9_place l dC dI m0 a1 a2 a3 a4 a5 a6 a7 a8 a9 a10 a11 (xs (1 : Int32).toNatClampNeg) (xs (2 : Int32).toNatClampNeg) (xs (3 : Int32).toNatClampNeg) (xs (4 : Int32).toNatClampNeg)) (cwV 4 hts g_law__X9_place_22 rfl rfl rfl (by decide +kernel) ⟨Nat.le_of_ble_eq_true rfl, Nat.le_of_ble_eq_true rfl⟩) ⟨fun a U g mk q => by obtain ⟨q0, qP, qK⟩ := q; exact ⟨q0, qP, va_K.moved (u := U) (U := U.calling g mk a) (Vm.Alike.refl U.vm) qK⟩, va_recv hKc hPc (ci := 9) (q0 := 0) rfl rfl, fun U hU hW => ⟨rfl, by rw [hU]; exact hPc, va_K.moved hW.alike hKc⟩⟩ rfl rfl hl.1 rfl (lv_room (Nat.le_of_ble_eq_true rfl)) dL_law_240 ⟨Nat.le_of_ble_eq_true rfl, Nat.le_of_ble_eq_true rfl⟩) (fun r_10 hr_10 => ?_)
  try dsimp only at hr_10
  subst hr_10
  refine lv_icmp_eq (tgt := 957) hx hb dL_law_243 (by decide) (fun _ => ?_) (fun h9 => absurd h9 (by decide))
  refine W.widen (k := 600000) (n := 7302250) (Nat.le_of_ble_eq_true rfl) (Nat.le_of_ble_eq_true rfl) ?_
  exact law_end hL C0 hS (lv_sub hl [0, 3] rfl)
set_option maxHeartbeats 4000000 in
set_option maxRecDepth 100000 in
theorem lc_2 {p : Program} {l : Launch} {e : Env} {s : State} {m : MethodId} {below : List Frame} {meth : Method} {c : Code} {b L : Nat} {xs : Nat → Int32} (hL : L ≤ 6) (h6 : 6 ≤ L) (C0 : lw_At p s m meth c b L xs) {dC : Nat → ClassId} {dI : Nat → Nat → Nat} (hN : XN s) {x0 m0 n0 s0 s1 d0 o0 w0 e0 f0 t0 b0 na sa sb a1 a2 a3 a4 a5 a6 a7 a8 a9 a10 a11 : Nat} {kN kD k1 k2 k3 k4 k5 k6 k7 k9 : ClassId} {H : Heap} {locs : List Loc} (hK : va_K (dC, dI) vwCl [(kN, .object "MeetingsAbove$Thing"), (kD, .object "MeetingsAbove$Dot"), (k1, .int), (k2, .int), (k3, .int), (k4, .boolean), (k5, .int), (k6, .int), (k7, .int), (k9, .int)] s) (hP : va_P (dC, dI) vwCl [(x0, .inr (8, [.ref n0, .ref s0, .ref s1, .ref d0, .ref o0, .int 0, .int 0, .int 0, .int 50, .int 20, .ref w0, .ref e0, .ref f0, .ref t0, .ref b0, .int 0])), (n0, .inr (1, [.ref na, .int 0])), (na, .inl (kN, 16, .inr (.inr (.inr (.inr (fun _ => none)))))), (s0, .inr (1, [.ref sa, .int 0])), (s1, .inr (1, [.ref sb, .int 0])), (d0, .inl (kD, 40, .inr (.inr (.inr (.inr (fun _ => none)))))), (m0, .inr (9, [.int 0, .ref a1, .ref a2, .ref a3, .ref a4, .ref a5, .int 50, .int 20, .int 0, .ref a6, .ref a7, .int 0, .ref a8, .int 0, .ref a9, .ref a10, .long 0, .long 0, .int 0, .long 0, .long 0, .ref a11])), (a1, .inl (k1, 16, .inl (fun _ => 0))), (a2, .inl (k2, 16, .inl (fun _ => 0))), (a3, .inl (k3, 16, .inl (fun _ => 0))), (a4, .inl (k4, 16, .inl (fun _ => 0))), (a5, .inl (k5, 576, .inl (fun _ => 0))), (a6, .inl (k6, 40, .inl (fun _ => 0))), (a7, .inl (k7, 120, .inl (fun _ => 0))), (a9, .inl (k9, 2, .inl (upd (upd (fun _ => 0) (0 : Int32).toNatClampNeg (-1)) (1 : Int32).toNatClampNeg (-1))))] H) (hD : va_D (fun q : Nat => s.heap.size ≤ q) [(x0, .inr (8, [.ref n0, .ref s0, .ref s1, .ref d0, .ref o0, .int 0, .int 0, .int 0, .int 50, .int 20, .ref w0, .ref e0, .ref f0, .ref t0, .ref b0, .int 0])), (n0, .inr (1, [.ref na, .int 0])), (na, .inl (kN, 16, .inr (.inr (.inr (.inr (fun _ => none)))))), (s0, .inr (1, [.ref sa, .int 0])), (s1, .inr (1, [.ref sb, .int 0])), (d0, .inl (kD, 40, .inr (.inr (.inr (.inr (fun _ => none)))))), (m0, .inr (9, [.int 0, .ref a1, .ref a2, .ref a3, .ref a4, .ref a5, .int 50, .int 20, .int 0, .ref a6, .ref a7, .int 0, .ref a8, .int 0, .ref a9, .ref a10, .long 0, .long 0, .int 0, .long 0, .long 0, .ref a11])), (a1, .inl (k1, 16, .inl (fun _ => 0))), (a2, .inl (k2, 16, .inl (fun _ => 0))), (a3, .inl (k3, 16, .inl (fun _ => 0))), (a4, .inl (k4, 16, .inl (fun _ => 0))), (a5, .inl (k5, 576, .inl (fun _ => 0))), (a6, .inl (k6, 40, .inl (fun _ => 0))), (a7, .inl (k7, 120, .inl (fun _ => 0))), (a9, .inl (k9, 2, .inl (upd (upd (fun _ => 0) (0 : Int32).toNatClampNeg (-1)) (1 : Int32).toNatClampNeg (-1))))]) (hS : va_S (fun q : Nat => s.heap.size ≤ q) s.heap H locs) {ls : Array Slot} (hl : lv_has ls 4 [(3, .int 0), (2, .ref m0), (1, .ref x0), (0, .ref b)]) : W p l e room_1 s m #[Value.ref b] below meth c H locs 29 2637 (lw_Z below #[Value.ref b] s) (F0 m 248 ls []) := by
  obtain ⟨hx, hb, hr, hml, hown, hts, hX, hbl, hlocks, hgv⟩ := id C0
  have hts := fun w h => hts w (wlaw_in w h)
  have hA : ∀ q : Nat, s.heap.size ≤ q → (fun q : Nat => s.heap.size ≤ q) q := fun _ h => h
  have hbA : ¬ (fun q : Nat => s.heap.size ≤ q) b := Nat.not_le.mpr hbl
  have h_in0 : vp_in (0 : Int32) L := vp_in_nI (n := 0) (by omega) (by omega)
  have h_in1 : vp_in (1 : Int32) L := vp_in_nI (n := 1) (by omega) (by omega)
  have h_in2 : vp_in (2 : Int32) L := vp_in_nI (n := 2) (by omega) (by omega)
  have h_in3 : vp_in (3 : Int32) L := vp_in_nI (n := 3) (by omega) (by omega)
  have h_in4 : vp_in (4 : Int32) L := vp_in_nI (n := 4) (by omega) (by omega)
  have h_in5 : vp_in (5 : Int32) L := vp_in_nI (n := 5) (by omega) (by omega)
  refine lv_aload_n hx hb dL_law_248 rfl (lv_at hl 2 rfl) ?_
  refine lv_aload_n hx hb dL_law_249 rfl (lv_at hl 3 rfl) ?_
  refine lv_iload_n hx hb dL_law_250 rfl (lv_at hl 0 rfl) ?_
  refine lv_iconst (v := 1) hx hb dL_law_251 (by decide) ?_
  refine lv_iadd hx hb dL_law_252 ?_
  refine lv_topi (fun y_1 ey_1 => ?_)
  obtain rfl : y_1 = 1 := ey_1.trans (by decide)
  refine va_sld hx hb hX hbl hbA hS h_in1 dL_law_253 ?_
  have hPc := hP.sub (ws' := [(x0, .inr (8, [.ref n0, .ref s0, .ref s1, .ref d0, .ref o0, .int 0, .int 0, .int 0, .int 50, .int 20, .ref w0, .ref e0, .ref f0, .ref t0, .ref b0, .int 0])), (n0, .inr (1, [.ref na, .int 0]))]) [0, 1] rfl
  have hKc := hK.sub (tys' := []) [] rfl
  refine vp_callSi (W.runV (As := [.int (xs (1 : Int32).toNatClampNeg)]) (rest := []) ⟨hx, hb, hml, hown, hts⟩ (c_X8_gone l dC dI x0 n0 s0 s1 d0 o0 w0 e0 f0 t0 b0 na (xs (1 : Int32).toNatClampNeg)) (cwV 1 hts g_law__X8_gone_23 rfl rfl rfl (by decide +kernel) ⟨Nat.le_of_ble_eq_true rfl, Nat.le_of_ble_eq_true rfl⟩) ⟨fun a U g mk q => by obtain ⟨q0, qP, qK⟩ := q; exact ⟨q0, qP, va_K.moved (u := U) (U := U.calling g mk a) (Vm.Alike.refl U.vm) qK⟩, va_recv hKc hPc (ci := 8) (q0 := 0) rfl rfl, fun U hU hW => ⟨rfl, by rw [hU]; exact hPc, va_K.moved hW.alike hKc⟩⟩ rfl rfl hl.1 rfl (lv_room (Nat.le_of_ble_eq_true rfl)) dL_law_254 ⟨Nat.le_of_ble_eq_true rfl, Nat.le_of_ble_eq_true rfl⟩) (fun r_2 hr_2 => ?_)
  try dsimp only at hr_2
  subst hr_2
  refine lv_aload_n hx hb dL_law_257 rfl (lv_at hl 1 rfl) ?_
  refine lv_aload_n hx hb dL_law_258 rfl (lv_at hl 3 rfl) ?_
  refine lv_iload_n hx hb dL_law_259 rfl (lv_at hl 0 rfl) ?_
  refine lv_iconst (v := 1) hx hb dL_law_260 (by decide) ?_
  refine lv_iadd hx hb dL_law_261 ?_
  refine lv_topi (fun y_3 ey_3 => ?_)
  obtain rfl : y_3 = 1 := ey_3.trans (by decide)
  refine va_sld hx hb hX hbl hbA hS h_in1 dL_law_262 ?_
  have hPc := hP.sub (ws' := [(m0, .inr (9, [.int 0, .ref a1, .ref a2, .ref a3, .ref a4, .ref a5, .int 50, .int 20, .int 0, .ref a6, .ref a7, .int 0, .ref a8, .int 0, .ref a9, .ref a10, .long 0, .long 0, .int 0, .long 0, .long 0, .ref a11]))]) [6] rfl
  have hKc := hK.sub (tys' := []) [] rfl
  refine vp_callSi (W.runV (As := [.int (xs (1 : Int32).toNatClampNeg)]) (rest := [.int (-100001)]) ⟨hx, hb, hml, hown, hts⟩ (c_X9_gone l dC dI m0 a1 a2 a3 a4 a5 a6 a7 a8 a9 a10 a11 (xs (1 : Int32).toNatClampNeg)) (cwV 1 hts g_law__X9_gone_27 rfl rfl rfl (by decide +kernel) ⟨Nat.le_of_ble_eq_true rfl, Nat.le_of_ble_eq_true rfl⟩) ⟨fun a U g mk q => by obtain ⟨q0, qP, qK⟩ := q; exact ⟨q0, qP, va_K.moved (u := U) (U := U.calling g mk a) (Vm.Alike.refl U.vm) qK⟩, va_recv hKc hPc (ci := 9) (q0 := 0) rfl rfl, fun U hU hW => ⟨rfl, by rw [hU]; exact hPc, va_K.moved hW.alike hKc⟩⟩ rfl rfl hl.1 rfl (lv_room (Nat.le_of_ble_eq_true rfl)) dL_law_263 ⟨Nat.le_of_ble_eq_true rfl, Nat.le_of_ble_eq_true rfl⟩) (fun r_4 hr_4 => ?_)
  try dsimp only at hr_4
  subst hr_4
  refine lv_icmp_eq (tgt := 957) hx hb dL_law_266 (by decide) (fun _ => ?_) (fun h9 => absurd h9 (by decide))
  refine W.widen (k := 600000) (n := 7302250) (Nat.le_of_ble_eq_true rfl) (Nat.le_of_ble_eq_true rfl) ?_
  exact law_end hL C0 hS (lv_sub hl [0, 3] rfl)
set_option maxHeartbeats 4000000 in
set_option maxRecDepth 100000 in
theorem lc_3 {p : Program} {l : Launch} {e : Env} {s : State} {m : MethodId} {below : List Frame} {meth : Method} {c : Code} {b L : Nat} {xs : Nat → Int32} (hL : L ≤ 6) (h6 : 6 ≤ L) (C0 : lw_At p s m meth c b L xs) {dC : Nat → ClassId} {dI : Nat → Nat → Nat} (hN : XN s) {x0 m0 n0 s0 s1 d0 o0 w0 e0 f0 t0 b0 na sa sb a1 a2 a3 a4 a5 a6 a7 a8 a9 a10 a11 : Nat} {kN kD k1 k2 k3 k4 k5 k6 k7 k9 : ClassId} {H : Heap} {locs : List Loc} (hK : va_K (dC, dI) vwCl [(kN, .object "MeetingsAbove$Thing"), (kD, .object "MeetingsAbove$Dot"), (k1, .int), (k2, .int), (k3, .int), (k4, .boolean), (k5, .int), (k6, .int), (k7, .int), (k9, .int)] s) (hP : va_P (dC, dI) vwCl [(x0, .inr (8, [.ref n0, .ref s0, .ref s1, .ref d0, .ref o0, .int 0, .int 0, .int 0, .int 50, .int 20, .ref w0, .ref e0, .ref f0, .ref t0, .ref b0, .int 0])), (n0, .inr (1, [.ref na, .int 0])), (na, .inl (kN, 16, .inr (.inr (.inr (.inr (fun _ => none)))))), (s0, .inr (1, [.ref sa, .int 0])), (s1, .inr (1, [.ref sb, .int 0])), (d0, .inl (kD, 40, .inr (.inr (.inr (.inr (fun _ => none)))))), (m0, .inr (9, [.int 0, .ref a1, .ref a2, .ref a3, .ref a4, .ref a5, .int 50, .int 20, .int 0, .ref a6, .ref a7, .int 0, .ref a8, .int 0, .ref a9, .ref a10, .long 0, .long 0, .int 0, .long 0, .long 0, .ref a11])), (a1, .inl (k1, 16, .inl (fun _ => 0))), (a2, .inl (k2, 16, .inl (fun _ => 0))), (a3, .inl (k3, 16, .inl (fun _ => 0))), (a4, .inl (k4, 16, .inl (fun _ => 0))), (a5, .inl (k5, 576, .inl (fun _ => 0))), (a6, .inl (k6, 40, .inl (fun _ => 0))), (a7, .inl (k7, 120, .inl (fun _ => 0))), (a9, .inl (k9, 2, .inl (upd (upd (fun _ => 0) (0 : Int32).toNatClampNeg (-1)) (1 : Int32).toNatClampNeg (-1))))] H) (hD : va_D (fun q : Nat => s.heap.size ≤ q) [(x0, .inr (8, [.ref n0, .ref s0, .ref s1, .ref d0, .ref o0, .int 0, .int 0, .int 0, .int 50, .int 20, .ref w0, .ref e0, .ref f0, .ref t0, .ref b0, .int 0])), (n0, .inr (1, [.ref na, .int 0])), (na, .inl (kN, 16, .inr (.inr (.inr (.inr (fun _ => none)))))), (s0, .inr (1, [.ref sa, .int 0])), (s1, .inr (1, [.ref sb, .int 0])), (d0, .inl (kD, 40, .inr (.inr (.inr (.inr (fun _ => none)))))), (m0, .inr (9, [.int 0, .ref a1, .ref a2, .ref a3, .ref a4, .ref a5, .int 50, .int 20, .int 0, .ref a6, .ref a7, .int 0, .ref a8, .int 0, .ref a9, .ref a10, .long 0, .long 0, .int 0, .long 0, .long 0, .ref a11])), (a1, .inl (k1, 16, .inl (fun _ => 0))), (a2, .inl (k2, 16, .inl (fun _ => 0))), (a3, .inl (k3, 16, .inl (fun _ => 0))), (a4, .inl (k4, 16, .inl (fun _ => 0))), (a5, .inl (k5, 576, .inl (fun _ => 0))), (a6, .inl (k6, 40, .inl (fun _ => 0))), (a7, .inl (k7, 120, .inl (fun _ => 0))), (a9, .inl (k9, 2, .inl (upd (upd (fun _ => 0) (0 : Int32).toNatClampNeg (-1)) (1 : Int32).toNatClampNeg (-1))))]) (hS : va_S (fun q : Nat => s.heap.size ≤ q) s.heap H locs) {ls : Array Slot} (hl : lv_has ls 4 [(3, .int 0), (2, .ref m0), (1, .ref x0), (0, .ref b)]) : W p l e room_1 s m #[Value.ref b] below meth c H locs 29 2637 (lw_Z below #[Value.ref b] s) (F0 m 271 ls []) := by
  obtain ⟨hx, hb, hr, hml, hown, hts, hX, hbl, hlocks, hgv⟩ := id C0
  have hts := fun w h => hts w (wlaw_in w h)
  have hA : ∀ q : Nat, s.heap.size ≤ q → (fun q : Nat => s.heap.size ≤ q) q := fun _ h => h
  have hbA : ¬ (fun q : Nat => s.heap.size ≤ q) b := Nat.not_le.mpr hbl
  have h_in0 : vp_in (0 : Int32) L := vp_in_nI (n := 0) (by omega) (by omega)
  have h_in1 : vp_in (1 : Int32) L := vp_in_nI (n := 1) (by omega) (by omega)
  have h_in2 : vp_in (2 : Int32) L := vp_in_nI (n := 2) (by omega) (by omega)
  have h_in3 : vp_in (3 : Int32) L := vp_in_nI (n := 3) (by omega) (by omega)
  have h_in4 : vp_in (4 : Int32) L := vp_in_nI (n := 4) (by omega) (by omega)
  have h_in5 : vp_in (5 : Int32) L := vp_in_nI (n := 5) (by omega) (by omega)
  refine lv_aload_n hx hb dL_law_271 rfl (lv_at hl 2 rfl) ?_
  refine lv_aload_n hx hb dL_law_272 rfl (lv_at hl 3 rfl) ?_
  refine lv_iload_n hx hb dL_law_273 rfl (lv_at hl 0 rfl) ?_
  refine lv_iconst (v := 1) hx hb dL_law_274 (by decide) ?_
  refine lv_iadd hx hb dL_law_275 ?_
  refine lv_topi (fun y_1 ey_1 => ?_)
  obtain rfl : y_1 = 1 := ey_1.trans (by decide)
  refine va_sld hx hb hX hbl hbA hS h_in1 dL_law_276 ?_
  refine lv_aload_n hx hb dL_law_277 rfl (lv_at hl 3 rfl) ?_
  refine lv_iload_n hx hb dL_law_278 rfl (lv_at hl 0 rfl) ?_
  refine lv_iconst (v := 2) hx hb dL_law_279 (by decide) ?_
  refine lv_iadd hx hb dL_law_280 ?_
  refine lv_topi (fun y_2 ey_2 => ?_)
  obtain rfl : y_2 = 2 := ey_2.trans (by decide)
  refine va_sld hx hb hX hbl hbA hS h_in2 dL_law_281 ?_
  refine lv_aload_n hx hb dL_law_282 rfl (lv_at hl 3 rfl) ?_
  refine lv_iload_n hx hb dL_law_283 rfl (lv_at hl 0 rfl) ?_
  refine lv_iconst (v := 3) hx hb dL_law_284 (by decide) ?_
  refine lv_iadd hx hb dL_law_285 ?_
  refine lv_topi (fun y_3 ey_3 => ?_)
  obtain rfl : y_3 = 3 := ey_3.trans (by decide)
  refine va_sld hx hb hX hbl hbA hS h_in3 dL_law_286 ?_
  have hPc := hP.sub (ws' := [(x0, .inr (8, [.ref n0, .ref s0, .ref s1, .ref d0, .ref o0, .int 0, .int 0, .int 0, .int 50, .int 20, .ref w0, .ref e0, .ref f0, .ref t0, .ref b0, .int 0])), (n0, .inr (1, [.ref na, .int 0]))]) [0, 1] rfl
  have hKc := hK.sub (tys' := []) [] rfl
  refine vp_callSi (W.runV (As := [.int (xs (1 : Int32).toNatClampNeg), .int (xs (2 : Int32).toNatClampNeg), .int (xs (3 : Int32).toNatClampNeg)]) (rest := []) ⟨hx, hb, hml, hown, hts⟩ (c_X8_breaks l dC dI x0 n0 s0 s1 d0 o0 w0 e0 f0 t0 b0 na (xs (1 : Int32).toNatClampNeg) (xs (2 : Int32).toNatClampNeg) (xs (3 : Int32).toNatClampNeg)) (cwV 3 hts g_law__X8_breaks_28 rfl rfl rfl (by decide +kernel) ⟨Nat.le_of_ble_eq_true rfl, Nat.le_of_ble_eq_true rfl⟩) ⟨fun a U g mk q => by obtain ⟨q0, qP, qK⟩ := q; exact ⟨q0, qP, va_K.moved (u := U) (U := U.calling g mk a) (Vm.Alike.refl U.vm) qK⟩, va_recv hKc hPc (ci := 8) (q0 := 0) rfl rfl, fun U hU hW => ⟨rfl, by rw [hU]; exact hPc, va_K.moved hW.alike hKc⟩⟩ rfl rfl hl.1 rfl (lv_room (Nat.le_of_ble_eq_true rfl)) dL_law_287 ⟨Nat.le_of_ble_eq_true rfl, Nat.le_of_ble_eq_true rfl⟩) (fun r_4 hr_4 => ?_)
  try dsimp only at hr_4
  subst hr_4
  refine lv_aload_n hx hb dL_law_290 rfl (lv_at hl 1 rfl) ?_
  refine lv_aload_n hx hb dL_law_291 rfl (lv_at hl 3 rfl) ?_
  refine lv_iload_n hx hb dL_law_292 rfl (lv_at hl 0 rfl) ?_
  refine lv_iconst (v := 1) hx hb dL_law_293 (by decide) ?_
  refine lv_iadd hx hb dL_law_294 ?_
  refine lv_topi (fun y_5 ey_5 => ?_)
  obtain rfl : y_5 = 1 := ey_5.trans (by decide)
  refine va_sld hx hb hX hbl hbA hS h_in1 dL_law_295 ?_
  refine lv_aload_n hx hb dL_law_296 rfl (lv_at hl 3 rfl) ?_
  refine lv_iload_n hx hb dL_law_297 rfl (lv_at hl 0 rfl) ?_
  refine lv_iconst (v := 2) hx hb dL_law_298 (by decide) ?_
  refine lv_iadd hx hb dL_law_299 ?_
  refine lv_topi (fun y_6 ey_6 => ?_)
  obtain rfl : y_6 = 2 := ey_6.trans (by decide)
  refine va_sld hx hb hX hbl hbA hS h_in2 dL_law_300 ?_
  refine lv_aload_n hx hb dL_law_301 rfl (lv_at hl 3 rfl) ?_
  refine lv_iload_n hx hb dL_law_302 rfl (lv_at hl 0 rfl) ?_
  refine lv_iconst (v := 3) hx hb dL_law_303 (by decide) ?_
  refine lv_iadd hx hb dL_law_304 ?_
  refine lv_topi (fun y_7 ey_7 => ?_)
  obtain rfl : y_7 = 3 := ey_7.trans (by decide)
  refine va_sld hx hb hX hbl hbA hS h_in3 dL_law_305 ?_
  have hPc := hP.sub (ws' := [(m0, .inr (9, [.int 0, .ref a1, .ref a2, .ref a3, .ref a4, .ref a5, .int 50, .int 20, .int 0, .ref a6, .ref a7, .int 0, .ref a8, .int 0, .ref a9, .ref a10, .long 0, .long 0, .int 0, .long 0, .long 0, .ref a11]))]) [6] rfl
  have hKc := hK.sub (tys' := []) [] rfl
  refine vp_callSi (W.runV (As := [.int (xs (1 : Int32).toNatClampNeg), .int (xs (2 : Int32).toNatClampNeg), .int (xs (3 : Int32).toNatClampNeg)]) (rest := [.int (-100001)]) ⟨hx, hb, hml, hown, hts⟩ (c_X9_breaks l dC dI m0 a1 a2 a3 a4 a5 a6 a7 a8 a9 a10 a11 (xs (1 : Int32).toNatClampNeg) (xs (2 : Int32).toNatClampNeg) (xs (3 : Int32).toNatClampNeg)) (cwV 3 hts g_law__X9_breaks_32 rfl rfl rfl (by decide +kernel) ⟨Nat.le_of_ble_eq_true rfl, Nat.le_of_ble_eq_true rfl⟩) ⟨fun a U g mk q => by obtain ⟨q0, qP, qK⟩ := q; exact ⟨q0, qP, va_K.moved (u := U) (U := U.calling g mk a) (Vm.Alike.refl U.vm) qK⟩, va_recv hKc hPc (ci := 9) (q0 := 0) rfl rfl, fun U hU hW => ⟨rfl, by rw [hU]; exact hPc, va_K.moved hW.alike hKc⟩⟩ rfl rfl hl.1 rfl (lv_room (Nat.le_of_ble_eq_true rfl)) dL_law_306 ⟨Nat.le_of_ble_eq_true rfl, Nat.le_of_ble_eq_true rfl⟩) (fun r_8 hr_8 => ?_)
  try dsimp only at hr_8
  subst hr_8
  refine lv_icmp_eq (tgt := 957) hx hb dL_law_309 (by decide) (fun _ => ?_) (fun h9 => absurd h9 (by decide))
  refine W.widen (k := 600000) (n := 7302250) (Nat.le_of_ble_eq_true rfl) (Nat.le_of_ble_eq_true rfl) ?_
  exact law_end hL C0 hS (lv_sub hl [0, 3] rfl)
set_option maxHeartbeats 4000000 in
set_option maxRecDepth 100000 in
theorem lc_4 {p : Program} {l : Launch} {e : Env} {s : State} {m : MethodId} {below : List Frame} {meth : Method} {c : Code} {b L : Nat} {xs : Nat → Int32} (hL : L ≤ 6) (h6 : 6 ≤ L) (C0 : lw_At p s m meth c b L xs) {dC : Nat → ClassId} {dI : Nat → Nat → Nat} (hN : XN s) {x0 m0 n0 s0 s1 d0 o0 w0 e0 f0 t0 b0 na sa sb a1 a2 a3 a4 a5 a6 a7 a8 a9 a10 a11 : Nat} {kN kD k1 k2 k3 k4 k5 k6 k7 k9 : ClassId} {H : Heap} {locs : List Loc} (hK : va_K (dC, dI) vwCl [(kN, .object "MeetingsAbove$Thing"), (kD, .object "MeetingsAbove$Dot"), (k1, .int), (k2, .int), (k3, .int), (k4, .boolean), (k5, .int), (k6, .int), (k7, .int), (k9, .int)] s) (hP : va_P (dC, dI) vwCl [(x0, .inr (8, [.ref n0, .ref s0, .ref s1, .ref d0, .ref o0, .int 0, .int 0, .int 0, .int 50, .int 20, .ref w0, .ref e0, .ref f0, .ref t0, .ref b0, .int 0])), (n0, .inr (1, [.ref na, .int 0])), (na, .inl (kN, 16, .inr (.inr (.inr (.inr (fun _ => none)))))), (s0, .inr (1, [.ref sa, .int 0])), (s1, .inr (1, [.ref sb, .int 0])), (d0, .inl (kD, 40, .inr (.inr (.inr (.inr (fun _ => none)))))), (m0, .inr (9, [.int 0, .ref a1, .ref a2, .ref a3, .ref a4, .ref a5, .int 50, .int 20, .int 0, .ref a6, .ref a7, .int 0, .ref a8, .int 0, .ref a9, .ref a10, .long 0, .long 0, .int 0, .long 0, .long 0, .ref a11])), (a1, .inl (k1, 16, .inl (fun _ => 0))), (a2, .inl (k2, 16, .inl (fun _ => 0))), (a3, .inl (k3, 16, .inl (fun _ => 0))), (a4, .inl (k4, 16, .inl (fun _ => 0))), (a5, .inl (k5, 576, .inl (fun _ => 0))), (a6, .inl (k6, 40, .inl (fun _ => 0))), (a7, .inl (k7, 120, .inl (fun _ => 0))), (a9, .inl (k9, 2, .inl (upd (upd (fun _ => 0) (0 : Int32).toNatClampNeg (-1)) (1 : Int32).toNatClampNeg (-1))))] H) (hD : va_D (fun q : Nat => s.heap.size ≤ q) [(x0, .inr (8, [.ref n0, .ref s0, .ref s1, .ref d0, .ref o0, .int 0, .int 0, .int 0, .int 50, .int 20, .ref w0, .ref e0, .ref f0, .ref t0, .ref b0, .int 0])), (n0, .inr (1, [.ref na, .int 0])), (na, .inl (kN, 16, .inr (.inr (.inr (.inr (fun _ => none)))))), (s0, .inr (1, [.ref sa, .int 0])), (s1, .inr (1, [.ref sb, .int 0])), (d0, .inl (kD, 40, .inr (.inr (.inr (.inr (fun _ => none)))))), (m0, .inr (9, [.int 0, .ref a1, .ref a2, .ref a3, .ref a4, .ref a5, .int 50, .int 20, .int 0, .ref a6, .ref a7, .int 0, .ref a8, .int 0, .ref a9, .ref a10, .long 0, .long 0, .int 0, .long 0, .long 0, .ref a11])), (a1, .inl (k1, 16, .inl (fun _ => 0))), (a2, .inl (k2, 16, .inl (fun _ => 0))), (a3, .inl (k3, 16, .inl (fun _ => 0))), (a4, .inl (k4, 16, .inl (fun _ => 0))), (a5, .inl (k5, 576, .inl (fun _ => 0))), (a6, .inl (k6, 40, .inl (fun _ => 0))), (a7, .inl (k7, 120, .inl (fun _ => 0))), (a9, .inl (k9, 2, .inl (upd (upd (fun _ => 0) (0 : Int32).toNatClampNeg (-1)) (1 : Int32).toNatClampNeg (-1))))]) (hS : va_S (fun q : Nat => s.heap.size ≤ q) s.heap H locs) {ls : Array Slot} (hl : lv_has ls 4 [(3, .int 0), (2, .ref m0), (1, .ref x0), (0, .ref b)]) : W p l e room_1 s m #[Value.ref b] below meth c H locs 29 2637 (lw_Z below #[Value.ref b] s) (F0 m 314 ls []) := by
  obtain ⟨hx, hb, hr, hml, hown, hts, hX, hbl, hlocks, hgv⟩ := id C0
  have hts := fun w h => hts w (wlaw_in w h)
  have hA : ∀ q : Nat, s.heap.size ≤ q → (fun q : Nat => s.heap.size ≤ q) q := fun _ h => h
  have hbA : ¬ (fun q : Nat => s.heap.size ≤ q) b := Nat.not_le.mpr hbl
  have h_in0 : vp_in (0 : Int32) L := vp_in_nI (n := 0) (by omega) (by omega)
  have h_in1 : vp_in (1 : Int32) L := vp_in_nI (n := 1) (by omega) (by omega)
  have h_in2 : vp_in (2 : Int32) L := vp_in_nI (n := 2) (by omega) (by omega)
  have h_in3 : vp_in (3 : Int32) L := vp_in_nI (n := 3) (by omega) (by omega)
  have h_in4 : vp_in (4 : Int32) L := vp_in_nI (n := 4) (by omega) (by omega)
  have h_in5 : vp_in (5 : Int32) L := vp_in_nI (n := 5) (by omega) (by omega)
  refine lv_aload_n hx hb dL_law_314 rfl (lv_at hl 2 rfl) ?_
  refine lv_aload_n hx hb dL_law_315 rfl (lv_at hl 3 rfl) ?_
  refine lv_iload_n hx hb dL_law_316 rfl (lv_at hl 0 rfl) ?_
  refine lv_iconst (v := 1) hx hb dL_law_317 (by decide) ?_
  refine lv_iadd hx hb dL_law_318 ?_
  refine lv_topi (fun y_1 ey_1 => ?_)
  obtain rfl : y_1 = 1 := ey_1.trans (by decide)
  refine va_sld hx hb hX hbl hbA hS h_in1 dL_law_319 ?_
  refine lv_aload_n hx hb dL_law_320 rfl (lv_at hl 3 rfl) ?_
  refine lv_iload_n hx hb dL_law_321 rfl (lv_at hl 0 rfl) ?_
  refine lv_iconst (v := 2) hx hb dL_law_322 (by decide) ?_
  refine lv_iadd hx hb dL_law_323 ?_
  refine lv_topi (fun y_2 ey_2 => ?_)
  obtain rfl : y_2 = 2 := ey_2.trans (by decide)
  refine va_sld hx hb hX hbl hbA hS h_in2 dL_law_324 ?_
  have hPc := hP.sub (ws' := [(x0, .inr (8, [.ref n0, .ref s0, .ref s1, .ref d0, .ref o0, .int 0, .int 0, .int 0, .int 50, .int 20, .ref w0, .ref e0, .ref f0, .ref t0, .ref b0, .int 0]))]) [0] rfl
  have hKc := hK.sub (tys' := []) [] rfl
  have hDc := hD.sub (ws' := [(x0, .inr (8, [.ref n0, .ref s0, .ref s1, .ref d0, .ref o0, .int 0, .int 0, .int 0, .int 50, .int 20, .ref w0, .ref e0, .ref f0, .ref t0, .ref b0, .int 0]))]) [0] (by decide) rfl
  have hFc := va_free (wc := [(x0, .inr (8, [.ref n0, .ref s0, .ref s1, .ref d0, .ref o0, .int 0, .int 0, .int 0, .int 50, .int 20, .ref w0, .ref e0, .ref f0, .ref t0, .ref b0, .int 0]))]) hD hS hA [0] rfl
  refine va_calli (va_runV (As := [.int (xs (1 : Int32).toNatClampNeg), .int (xs (2 : Int32).toNatClampNeg)]) (rest := []) ⟨hx, hb, hml, hown, hts⟩ (c_X8_rule l dC dI x0 n0 s0 s1 d0 o0 w0 e0 f0 t0 b0 (xs (1 : Int32).toNatClampNeg) (xs (2 : Int32).toNatClampNeg) H.size) (cwV 2 hts g_law__X8_rule_33 rfl rfl rfl (by decide +kernel) ⟨Nat.le_of_ble_eq_true rfl, Nat.le_of_ble_eq_true rfl⟩) ⟨fun a U g mk q => by obtain ⟨q0, q1, qP, qK, qD⟩ := q; exact ⟨q0, q1, qP, va_K.moved (u := U) (U := U.calling g mk a) (Vm.Alike.refl U.vm) qK, qD⟩, va_recv hKc hPc (ci := 8) (q0 := 0) rfl rfl, fun U hU hW => ⟨rfl, by rw [hU], by rw [hU]; exact hPc, va_K.moved hW.alike hKc, hDc.weaken (fun _ _ _ _ => trivial)⟩⟩ rfl rfl hl.1 rfl (lv_room (Nat.le_of_ble_eq_true rfl)) dL_law_325 ⟨Nat.le_of_ble_eq_true rfl, Nat.le_of_ble_eq_true rfl⟩) hS (fun q _ h => hFc q h) hFc (fun r_4 u_3 t H1 locs ht hvm hw_4 hB hz1 hk1 hS => ?_)
  obtain ⟨hP1, hK1, hD1⟩ := hB
  rw [ht] at hP1
  have hK1 := va_K.moved hvm.symm hK1
  obtain ⟨hP, hD⟩ := va_join (wr := [(n0, .inr (1, [.ref na, .int 0])), (na, .inl (kN, 16, .inr (.inr (.inr (.inr (fun _ => none)))))), (s0, .inr (1, [.ref sa, .int 0])), (s1, .inr (1, [.ref sb, .int 0])), (d0, .inl (kD, 40, .inr (.inr (.inr (.inr (fun _ => none)))))), (m0, .inr (9, [.int 0, .ref a1, .ref a2, .ref a3, .ref a4, .ref a5, .int 50, .int 20, .int 0, .ref a6, .ref a7, .int 0, .ref a8, .int 0, .ref a9, .ref a10, .long 0, .long 0, .int 0, .long 0, .long 0, .ref a11])), (a1, .inl (k1, 16, .inl (fun _ => 0))), (a2, .inl (k2, 16, .inl (fun _ => 0))), (a3, .inl (k3, 16, .inl (fun _ => 0))), (a4, .inl (k4, 16, .inl (fun _ => 0))), (a5, .inl (k5, 576, .inl (fun _ => 0))), (a6, .inl (k6, 40, .inl (fun _ => 0))), (a7, .inl (k7, 120, .inl (fun _ => 0))), (a9, .inl (k9, 2, .inl (upd (upd (fun _ => 0) (0 : Int32).toNatClampNeg (-1)) (1 : Int32).toNatClampNeg (-1))))]) (w1 := []) hP hD [0] [1, 2, 3, 4, 5, 6, 7, 8, 9, 10, 11, 12, 13, 14] rfl rfl (by decide) (by decide) hk1 hFc hP1 hD1
  have hK := (hK.sub (tys' := [(kN, .object "MeetingsAbove$Thing"), (kD, .object "MeetingsAbove$Dot"), (k1, .int), (k2, .int), (k3, .int), (k4, .boolean), (k5, .int), (k6, .int), (k7, .int), (k9, .int)]) [0, 1, 2, 3, 4, 5, 6, 7, 8, 9] rfl).app hK1
  generalize H1 = H at hP hS ⊢
  have hP : va_P (dC, dI) vwCl [(n0, .inr (1, [.ref na, .int 0])), (na, .inl (kN, 16, .inr (.inr (.inr (.inr (fun _ => none)))))), (s0, .inr (1, [.ref sa, .int 0])), (s1, .inr (1, [.ref sb, .int 0])), (d0, .inl (kD, 40, .inr (.inr (.inr (.inr (fun _ => none)))))), (m0, .inr (9, [.int 0, .ref a1, .ref a2, .ref a3, .ref a4, .ref a5, .int 50, .int 20, .int 0, .ref a6, .ref a7, .int 0, .ref a8, .int 0, .ref a9, .ref a10, .long 0, .long 0, .int 0, .long 0, .long 0, .ref a11])), (a1, .inl (k1, 16, .inl (fun _ => 0))), (a2, .inl (k2, 16, .inl (fun _ => 0))), (a3, .inl (k3, 16, .inl (fun _ => 0))), (a4, .inl (k4, 16, .inl (fun _ => 0))), (a5, .inl (k5, 576, .inl (fun _ => 0))), (a6, .inl (k6, 40, .inl (fun _ => 0))), (a7, .inl (k7, 120, .inl (fun _ => 0))), (a9, .inl (k9, 2, .inl (upd (upd (fun _ => 0) (0 : Int32).toNatClampNeg (-1)) (1 : Int32).toNatClampNeg (-1))))] H := hP
  have hD : va_D (fun q : Nat => s.heap.size ≤ q) [(n0, .inr (1, [.ref na, .int 0])), (na, .inl (kN, 16, .inr (.inr (.inr (.inr (fun _ => none)))))), (s0, .inr (1, [.ref sa, .int 0])), (s1, .inr (1, [.ref sb, .int 0])), (d0, .inl (kD, 40, .inr (.inr (.inr (.inr (fun _ => none)))))), (m0, .inr (9, [.int 0, .ref a1, .ref a2, .ref a3, .ref a4, .ref a5, .int 50, .int 20, .int 0, .ref a6, .ref a7, .int 0, .ref a8, .int 0, .ref a9, .ref a10, .long 0, .long 0, .int 0, .long 0, .long 0, .ref a11])), (a1, .inl (k1, 16, .inl (fun _ => 0))), (a2, .inl (k2, 16, .inl (fun _ => 0))), (a3, .inl (k3, 16, .inl (fun _ => 0))), (a4, .inl (k4, 16, .inl (fun _ => 0))), (a5, .inl (k5, 576, .inl (fun _ => 0))), (a6, .inl (k6, 40, .inl (fun _ => 0))), (a7, .inl (k7, 120, .inl (fun _ => 0))), (a9, .inl (k9, 2, .inl (upd (upd (fun _ => 0) (0 : Int32).toNatClampNeg (-1)) (1 : Int32).toNatClampNeg (-1))))] := hD
  have hK : va_K (dC, dI) vwCl [(kN, .object "MeetingsAbove$Thing"), (kD, .object "MeetingsAbove$Dot"), (k1, .int), (k2, .int), (k3, .int), (k4, .boolean), (k5, .int), (k6, .int), (k7, .int), (k9, .int)] s := hK
  refine W.widen (k := 29) (n := 2637) (by omega) (by omega) ?_
  try dsimp only at hw_4
  subst hw_4
  refine lv_aload_n hx hb dL_law_328 rfl (lv_at hl 1 rfl) ?_
  refine lv_aload_n hx hb dL_law_329 rfl (lv_at hl 3 rfl) ?_
  refine lv_iload_n hx hb dL_law_330 rfl (lv_at hl 0 rfl) ?_
  refine lv_iconst (v := 1) hx hb dL_law_331 (by decide) ?_
  refine lv_iadd hx hb dL_law_332 ?_
  refine lv_topi (fun y_5 ey_5 => ?_)
  obtain rfl : y_5 = 1 := ey_5.trans (by decide)
  refine va_sld hx hb hX hbl hbA hS h_in1 dL_law_333 ?_
  refine lv_aload_n hx hb dL_law_334 rfl (lv_at hl 3 rfl) ?_
  refine lv_iload_n hx hb dL_law_335 rfl (lv_at hl 0 rfl) ?_
  refine lv_iconst (v := 2) hx hb dL_law_336 (by decide) ?_
  refine lv_iadd hx hb dL_law_337 ?_
  refine lv_topi (fun y_6 ey_6 => ?_)
  obtain rfl : y_6 = 2 := ey_6.trans (by decide)
  refine va_sld hx hb hX hbl hbA hS h_in2 dL_law_338 ?_
  have hPc := hP.sub (ws' := [(m0, .inr (9, [.int 0, .ref a1, .ref a2, .ref a3, .ref a4, .ref a5, .int 50, .int 20, .int 0, .ref a6, .ref a7, .int 0, .ref a8, .int 0, .ref a9, .ref a10, .long 0, .long 0, .int 0, .long 0, .long 0, .ref a11]))]) [5] rfl
  have hKc := hK.sub (tys' := []) [] rfl
  have hDc := hD.sub (ws' := [(m0, .inr (9, [.int 0, .ref a1, .ref a2, .ref a3, .ref a4, .ref a5, .int 50, .int 20, .int 0, .ref a6, .ref a7, .int 0, .ref a8, .int 0, .ref a9, .ref a10, .long 0, .long 0, .int 0, .long 0, .long 0, .ref a11]))]) [5] (by decide) rfl
  have hFc := va_free (wc := [(m0, .inr (9, [.int 0, .ref a1, .ref a2, .ref a3, .ref a4, .ref a5, .int 50, .int 20, .int 0, .ref a6, .ref a7, .int 0, .ref a8, .int 0, .ref a9, .ref a10, .long 0, .long 0, .int 0, .long 0, .long 0, .ref a11]))]) hD hS hA [5] rfl
  refine va_calli (va_runV (As := [.int (xs (1 : Int32).toNatClampNeg), .int (xs (2 : Int32).toNatClampNeg)]) (rest := [.int (an_rule (xs (1 : Int32).toNatClampNeg) (xs (2 : Int32).toNatClampNeg))]) ⟨hx, hb, hml, hown, hts⟩ (c_X9_rule l dC dI m0 a1 a2 a3 a4 a5 a6 a7 a8 a9 a10 a11 (xs (1 : Int32).toNatClampNeg) (xs (2 : Int32).toNatClampNeg) H.size) (cwV 2 hts g_law__X9_rule_37 rfl rfl rfl (by decide +kernel) ⟨Nat.le_of_ble_eq_true rfl, Nat.le_of_ble_eq_true rfl⟩) ⟨fun a U g mk q => by obtain ⟨q0, q1, qP, qK, qD⟩ := q; exact ⟨q0, q1, qP, va_K.moved (u := U) (U := U.calling g mk a) (Vm.Alike.refl U.vm) qK, qD⟩, va_recv hKc hPc (ci := 9) (q0 := 0) rfl rfl, fun U hU hW => ⟨rfl, by rw [hU], by rw [hU]; exact hPc, va_K.moved hW.alike hKc, hDc.weaken (fun _ _ _ _ => trivial)⟩⟩ rfl rfl hl.1 rfl (lv_room (Nat.le_of_ble_eq_true rfl)) dL_law_339 ⟨Nat.le_of_ble_eq_true rfl, Nat.le_of_ble_eq_true rfl⟩) hS (fun q _ h => hFc q h) hFc (fun r_8 u_7 t H1 locs ht hvm hw_8 hB hz1 hk1 hS => ?_)
  obtain ⟨hP1, hK1, hD1⟩ := hB
  rw [ht] at hP1
  have hK1 := va_K.moved hvm.symm hK1
  obtain ⟨hP, hD⟩ := va_join (wr := [(n0, .inr (1, [.ref na, .int 0])), (na, .inl (kN, 16, .inr (.inr (.inr (.inr (fun _ => none)))))), (s0, .inr (1, [.ref sa, .int 0])), (s1, .inr (1, [.ref sb, .int 0])), (d0, .inl (kD, 40, .inr (.inr (.inr (.inr (fun _ => none)))))), (a1, .inl (k1, 16, .inl (fun _ => 0))), (a2, .inl (k2, 16, .inl (fun _ => 0))), (a3, .inl (k3, 16, .inl (fun _ => 0))), (a4, .inl (k4, 16, .inl (fun _ => 0))), (a5, .inl (k5, 576, .inl (fun _ => 0))), (a6, .inl (k6, 40, .inl (fun _ => 0))), (a7, .inl (k7, 120, .inl (fun _ => 0))), (a9, .inl (k9, 2, .inl (upd (upd (fun _ => 0) (0 : Int32).toNatClampNeg (-1)) (1 : Int32).toNatClampNeg (-1))))]) (w1 := []) hP hD [5] [0, 1, 2, 3, 4, 6, 7, 8, 9, 10, 11, 12, 13] rfl rfl (by decide) (by decide) hk1 hFc hP1 hD1
  have hK := (hK.sub (tys' := [(kN, .object "MeetingsAbove$Thing"), (kD, .object "MeetingsAbove$Dot"), (k1, .int), (k2, .int), (k3, .int), (k4, .boolean), (k5, .int), (k6, .int), (k7, .int), (k9, .int)]) [0, 1, 2, 3, 4, 5, 6, 7, 8, 9] rfl).app hK1
  generalize H1 = H at hP hS ⊢
  have hP : va_P (dC, dI) vwCl [(n0, .inr (1, [.ref na, .int 0])), (na, .inl (kN, 16, .inr (.inr (.inr (.inr (fun _ => none)))))), (s0, .inr (1, [.ref sa, .int 0])), (s1, .inr (1, [.ref sb, .int 0])), (d0, .inl (kD, 40, .inr (.inr (.inr (.inr (fun _ => none)))))), (a1, .inl (k1, 16, .inl (fun _ => 0))), (a2, .inl (k2, 16, .inl (fun _ => 0))), (a3, .inl (k3, 16, .inl (fun _ => 0))), (a4, .inl (k4, 16, .inl (fun _ => 0))), (a5, .inl (k5, 576, .inl (fun _ => 0))), (a6, .inl (k6, 40, .inl (fun _ => 0))), (a7, .inl (k7, 120, .inl (fun _ => 0))), (a9, .inl (k9, 2, .inl (upd (upd (fun _ => 0) (0 : Int32).toNatClampNeg (-1)) (1 : Int32).toNatClampNeg (-1))))] H := hP
  have hD : va_D (fun q : Nat => s.heap.size ≤ q) [(n0, .inr (1, [.ref na, .int 0])), (na, .inl (kN, 16, .inr (.inr (.inr (.inr (fun _ => none)))))), (s0, .inr (1, [.ref sa, .int 0])), (s1, .inr (1, [.ref sb, .int 0])), (d0, .inl (kD, 40, .inr (.inr (.inr (.inr (fun _ => none)))))), (a1, .inl (k1, 16, .inl (fun _ => 0))), (a2, .inl (k2, 16, .inl (fun _ => 0))), (a3, .inl (k3, 16, .inl (fun _ => 0))), (a4, .inl (k4, 16, .inl (fun _ => 0))), (a5, .inl (k5, 576, .inl (fun _ => 0))), (a6, .inl (k6, 40, .inl (fun _ => 0))), (a7, .inl (k7, 120, .inl (fun _ => 0))), (a9, .inl (k9, 2, .inl (upd (upd (fun _ => 0) (0 : Int32).toNatClampNeg (-1)) (1 : Int32).toNatClampNeg (-1))))] := hD
  have hK : va_K (dC, dI) vwCl [(kN, .object "MeetingsAbove$Thing"), (kD, .object "MeetingsAbove$Dot"), (k1, .int), (k2, .int), (k3, .int), (k4, .boolean), (k5, .int), (k6, .int), (k7, .int), (k9, .int)] s := hK
  refine W.widen (k := 29) (n := 2637) (by omega) (by omega) ?_
  try dsimp only at hw_8
  subst hw_8
  refine lv_icmp_eq (tgt := 957) hx hb dL_law_342 (by decide) (fun _ => ?_) (fun h9 => absurd rfl h9)
  refine W.widen (k := 600000) (n := 7302250) (Nat.le_of_ble_eq_true rfl) (Nat.le_of_ble_eq_true rfl) ?_
  exact law_end hL C0 hS (lv_sub hl [0, 3] rfl)
set_option maxHeartbeats 4000000 in
set_option maxRecDepth 100000 in
theorem lc_5 {p : Program} {l : Launch} {e : Env} {s : State} {m : MethodId} {below : List Frame} {meth : Method} {c : Code} {b L : Nat} {xs : Nat → Int32} (hL : L ≤ 6) (h6 : 6 ≤ L) (C0 : lw_At p s m meth c b L xs) {dC : Nat → ClassId} {dI : Nat → Nat → Nat} (hN : XN s) {x0 m0 n0 s0 s1 d0 o0 w0 e0 f0 t0 b0 na sa sb a1 a2 a3 a4 a5 a6 a7 a8 a9 a10 a11 : Nat} {kN kD k1 k2 k3 k4 k5 k6 k7 k9 : ClassId} {H : Heap} {locs : List Loc} (hK : va_K (dC, dI) vwCl [(kN, .object "MeetingsAbove$Thing"), (kD, .object "MeetingsAbove$Dot"), (k1, .int), (k2, .int), (k3, .int), (k4, .boolean), (k5, .int), (k6, .int), (k7, .int), (k9, .int)] s) (hP : va_P (dC, dI) vwCl [(x0, .inr (8, [.ref n0, .ref s0, .ref s1, .ref d0, .ref o0, .int 0, .int 0, .int 0, .int 50, .int 20, .ref w0, .ref e0, .ref f0, .ref t0, .ref b0, .int 0])), (n0, .inr (1, [.ref na, .int 0])), (na, .inl (kN, 16, .inr (.inr (.inr (.inr (fun _ => none)))))), (s0, .inr (1, [.ref sa, .int 0])), (s1, .inr (1, [.ref sb, .int 0])), (d0, .inl (kD, 40, .inr (.inr (.inr (.inr (fun _ => none)))))), (m0, .inr (9, [.int 0, .ref a1, .ref a2, .ref a3, .ref a4, .ref a5, .int 50, .int 20, .int 0, .ref a6, .ref a7, .int 0, .ref a8, .int 0, .ref a9, .ref a10, .long 0, .long 0, .int 0, .long 0, .long 0, .ref a11])), (a1, .inl (k1, 16, .inl (fun _ => 0))), (a2, .inl (k2, 16, .inl (fun _ => 0))), (a3, .inl (k3, 16, .inl (fun _ => 0))), (a4, .inl (k4, 16, .inl (fun _ => 0))), (a5, .inl (k5, 576, .inl (fun _ => 0))), (a6, .inl (k6, 40, .inl (fun _ => 0))), (a7, .inl (k7, 120, .inl (fun _ => 0))), (a9, .inl (k9, 2, .inl (upd (upd (fun _ => 0) (0 : Int32).toNatClampNeg (-1)) (1 : Int32).toNatClampNeg (-1))))] H) (hD : va_D (fun q : Nat => s.heap.size ≤ q) [(x0, .inr (8, [.ref n0, .ref s0, .ref s1, .ref d0, .ref o0, .int 0, .int 0, .int 0, .int 50, .int 20, .ref w0, .ref e0, .ref f0, .ref t0, .ref b0, .int 0])), (n0, .inr (1, [.ref na, .int 0])), (na, .inl (kN, 16, .inr (.inr (.inr (.inr (fun _ => none)))))), (s0, .inr (1, [.ref sa, .int 0])), (s1, .inr (1, [.ref sb, .int 0])), (d0, .inl (kD, 40, .inr (.inr (.inr (.inr (fun _ => none)))))), (m0, .inr (9, [.int 0, .ref a1, .ref a2, .ref a3, .ref a4, .ref a5, .int 50, .int 20, .int 0, .ref a6, .ref a7, .int 0, .ref a8, .int 0, .ref a9, .ref a10, .long 0, .long 0, .int 0, .long 0, .long 0, .ref a11])), (a1, .inl (k1, 16, .inl (fun _ => 0))), (a2, .inl (k2, 16, .inl (fun _ => 0))), (a3, .inl (k3, 16, .inl (fun _ => 0))), (a4, .inl (k4, 16, .inl (fun _ => 0))), (a5, .inl (k5, 576, .inl (fun _ => 0))), (a6, .inl (k6, 40, .inl (fun _ => 0))), (a7, .inl (k7, 120, .inl (fun _ => 0))), (a9, .inl (k9, 2, .inl (upd (upd (fun _ => 0) (0 : Int32).toNatClampNeg (-1)) (1 : Int32).toNatClampNeg (-1))))]) (hS : va_S (fun q : Nat => s.heap.size ≤ q) s.heap H locs) {ls : Array Slot} (hl : lv_has ls 4 [(3, .int 0), (2, .ref m0), (1, .ref x0), (0, .ref b)]) : W p l e room_1 s m #[Value.ref b] below meth c H locs 29 2637 (lw_Z below #[Value.ref b] s) (F0 m 347 ls []) := by
  obtain ⟨hx, hb, hr, hml, hown, hts, hX, hbl, hlocks, hgv⟩ := id C0
  have hts := fun w h => hts w (wlaw_in w h)
  have hA : ∀ q : Nat, s.heap.size ≤ q → (fun q : Nat => s.heap.size ≤ q) q := fun _ h => h
  have hbA : ¬ (fun q : Nat => s.heap.size ≤ q) b := Nat.not_le.mpr hbl
  have h_in0 : vp_in (0 : Int32) L := vp_in_nI (n := 0) (by omega) (by omega)
  have h_in1 : vp_in (1 : Int32) L := vp_in_nI (n := 1) (by omega) (by omega)
  have h_in2 : vp_in (2 : Int32) L := vp_in_nI (n := 2) (by omega) (by omega)
  have h_in3 : vp_in (3 : Int32) L := vp_in_nI (n := 3) (by omega) (by omega)
  have h_in4 : vp_in (4 : Int32) L := vp_in_nI (n := 4) (by omega) (by omega)
  have h_in5 : vp_in (5 : Int32) L := vp_in_nI (n := 5) (by omega) (by omega)
  refine lv_aload_n hx hb dL_law_347 rfl (lv_at hl 2 rfl) ?_
  refine lv_aload_n hx hb dL_law_348 rfl (lv_at hl 3 rfl) ?_
  refine lv_iload_n hx hb dL_law_349 rfl (lv_at hl 0 rfl) ?_
  refine lv_iconst (v := 1) hx hb dL_law_350 (by decide) ?_
  refine lv_iadd hx hb dL_law_351 ?_
  refine lv_topi (fun y_1 ey_1 => ?_)
  obtain rfl : y_1 = 1 := ey_1.trans (by decide)
  refine va_sld hx hb hX hbl hbA hS h_in1 dL_law_352 ?_
  refine lv_aload_n hx hb dL_law_353 rfl (lv_at hl 3 rfl) ?_
  refine lv_iload_n hx hb dL_law_354 rfl (lv_at hl 0 rfl) ?_
  refine lv_iconst (v := 2) hx hb dL_law_355 (by decide) ?_
  refine lv_iadd hx hb dL_law_356 ?_
  refine lv_topi (fun y_2 ey_2 => ?_)
  obtain rfl : y_2 = 2 := ey_2.trans (by decide)
  refine va_sld hx hb hX hbl hbA hS h_in2 dL_law_357 ?_
  have hPc := hP.sub (ws' := [(x0, .inr (8, [.ref n0, .ref s0, .ref s1, .ref d0, .ref o0, .int 0, .int 0, .int 0, .int 50, .int 20, .ref w0, .ref e0, .ref f0, .ref t0, .ref b0, .int 0])), (n0, .inr (1, [.ref na, .int 0]))]) [0, 1] rfl
  have hKc := hK.sub (tys' := []) [] rfl
  refine vp_callSi (W.runV (As := [.int (xs (1 : Int32).toNatClampNeg), .int (xs (2 : Int32).toNatClampNeg)]) (rest := []) ⟨hx, hb, hml, hown, hts⟩ (c_X8_told l dC dI x0 n0 s0 s1 d0 o0 w0 e0 f0 t0 b0 na (xs (1 : Int32).toNatClampNeg) (xs (2 : Int32).toNatClampNeg)) (cwV 2 hts g_law__X8_told_38 rfl rfl rfl (by decide +kernel) ⟨Nat.le_of_ble_eq_true rfl, Nat.le_of_ble_eq_true rfl⟩) ⟨fun a U g mk q => by obtain ⟨q0, qP, qK⟩ := q; exact ⟨q0, qP, va_K.moved (u := U) (U := U.calling g mk a) (Vm.Alike.refl U.vm) qK⟩, va_recv hKc hPc (ci := 8) (q0 := 0) rfl rfl, fun U hU hW => ⟨rfl, by rw [hU]; exact hPc, va_K.moved hW.alike hKc⟩⟩ rfl rfl hl.1 rfl (lv_room (Nat.le_of_ble_eq_true rfl)) dL_law_358 ⟨Nat.le_of_ble_eq_true rfl, Nat.le_of_ble_eq_true rfl⟩) (fun r_3 hr_3 => ?_)
  try dsimp only at hr_3
  subst hr_3
  refine lv_aload_n hx hb dL_law_361 rfl (lv_at hl 1 rfl) ?_
  refine lv_aload_n hx hb dL_law_362 rfl (lv_at hl 3 rfl) ?_
  refine lv_iload_n hx hb dL_law_363 rfl (lv_at hl 0 rfl) ?_
  refine lv_iconst (v := 1) hx hb dL_law_364 (by decide) ?_
  refine lv_iadd hx hb dL_law_365 ?_
  refine lv_topi (fun y_4 ey_4 => ?_)
  obtain rfl : y_4 = 1 := ey_4.trans (by decide)
  refine va_sld hx hb hX hbl hbA hS h_in1 dL_law_366 ?_
  refine lv_aload_n hx hb dL_law_367 rfl (lv_at hl 3 rfl) ?_
  refine lv_iload_n hx hb dL_law_368 rfl (lv_at hl 0 rfl) ?_
  refine lv_iconst (v := 2) hx hb dL_law_369 (by decide) ?_
  refine lv_iadd hx hb dL_law_370 ?_
  refine lv_topi (fun y_5 ey_5 => ?_)
  obtain rfl : y_5 = 2 := ey_5.trans (by decide)
  refine va_sld hx hb hX hbl hbA hS h_in2 dL_law_371 ?_
  have hPc := hP.sub (ws' := [(m0, .inr (9, [.int 0, .ref a1, .ref a2, .ref a3, .ref a4, .ref a5, .int 50, .int 20, .int 0, .ref a6, .ref a7, .int 0, .ref a8, .int 0, .ref a9, .ref a10, .long 0, .long 0, .int 0, .long 0, .long 0, .ref a11]))]) [6] rfl
  have hKc := hK.sub (tys' := []) [] rfl
  refine vp_callSi (W.runV (As := [.int (xs (1 : Int32).toNatClampNeg), .int (xs (2 : Int32).toNatClampNeg)]) (rest := [.int (-100001)]) ⟨hx, hb, hml, hown, hts⟩ (c_X9_told l dC dI m0 a1 a2 a3 a4 a5 a6 a7 a8 a9 a10 a11 (xs (1 : Int32).toNatClampNeg) (xs (2 : Int32).toNatClampNeg)) (cwV 2 hts g_law__X9_told_41 rfl rfl rfl (by decide +kernel) ⟨Nat.le_of_ble_eq_true rfl, Nat.le_of_ble_eq_true rfl⟩) ⟨fun a U g mk q => by obtain ⟨q0, qP, qK⟩ := q; exact ⟨q0, qP, va_K.moved (u := U) (U := U.calling g mk a) (Vm.Alike.refl U.vm) qK⟩, va_recv hKc hPc (ci := 9) (q0 := 0) rfl rfl, fun U hU hW => ⟨rfl, by rw [hU]; exact hPc, va_K.moved hW.alike hKc⟩⟩ rfl rfl hl.1 rfl (lv_room (Nat.le_of_ble_eq_true rfl)) dL_law_372 ⟨Nat.le_of_ble_eq_true rfl, Nat.le_of_ble_eq_true rfl⟩) (fun r_6 hr_6 => ?_)
  try dsimp only at hr_6
  subst hr_6
  refine lv_icmp_eq (tgt := 957) hx hb dL_law_375 (by decide) (fun _ => ?_) (fun h9 => absurd h9 (by decide))
  refine W.widen (k := 600000) (n := 7302250) (Nat.le_of_ble_eq_true rfl) (Nat.le_of_ble_eq_true rfl) ?_
  exact law_end hL C0 hS (lv_sub hl [0, 3] rfl)
set_option maxHeartbeats 4000000 in
set_option maxRecDepth 100000 in
theorem lc_6 {p : Program} {l : Launch} {e : Env} {s : State} {m : MethodId} {below : List Frame} {meth : Method} {c : Code} {b L : Nat} {xs : Nat → Int32} (hL : L ≤ 6) (h6 : 6 ≤ L) (C0 : lw_At p s m meth c b L xs) {dC : Nat → ClassId} {dI : Nat → Nat → Nat} (hN : XN s) {x0 m0 n0 s0 s1 d0 o0 w0 e0 f0 t0 b0 na sa sb a1 a2 a3 a4 a5 a6 a7 a8 a9 a10 a11 : Nat} {kN kD k1 k2 k3 k4 k5 k6 k7 k9 : ClassId} {H : Heap} {locs : List Loc} (hK : va_K (dC, dI) vwCl [(kN, .object "MeetingsAbove$Thing"), (kD, .object "MeetingsAbove$Dot"), (k1, .int), (k2, .int), (k3, .int), (k4, .boolean), (k5, .int), (k6, .int), (k7, .int), (k9, .int)] s) (hP : va_P (dC, dI) vwCl [(x0, .inr (8, [.ref n0, .ref s0, .ref s1, .ref d0, .ref o0, .int 0, .int 0, .int 0, .int 50, .int 20, .ref w0, .ref e0, .ref f0, .ref t0, .ref b0, .int 0])), (n0, .inr (1, [.ref na, .int 0])), (na, .inl (kN, 16, .inr (.inr (.inr (.inr (fun _ => none)))))), (s0, .inr (1, [.ref sa, .int 0])), (s1, .inr (1, [.ref sb, .int 0])), (d0, .inl (kD, 40, .inr (.inr (.inr (.inr (fun _ => none)))))), (m0, .inr (9, [.int 0, .ref a1, .ref a2, .ref a3, .ref a4, .ref a5, .int 50, .int 20, .int 0, .ref a6, .ref a7, .int 0, .ref a8, .int 0, .ref a9, .ref a10, .long 0, .long 0, .int 0, .long 0, .long 0, .ref a11])), (a1, .inl (k1, 16, .inl (fun _ => 0))), (a2, .inl (k2, 16, .inl (fun _ => 0))), (a3, .inl (k3, 16, .inl (fun _ => 0))), (a4, .inl (k4, 16, .inl (fun _ => 0))), (a5, .inl (k5, 576, .inl (fun _ => 0))), (a6, .inl (k6, 40, .inl (fun _ => 0))), (a7, .inl (k7, 120, .inl (fun _ => 0))), (a9, .inl (k9, 2, .inl (upd (upd (fun _ => 0) (0 : Int32).toNatClampNeg (-1)) (1 : Int32).toNatClampNeg (-1))))] H) (hD : va_D (fun q : Nat => s.heap.size ≤ q) [(x0, .inr (8, [.ref n0, .ref s0, .ref s1, .ref d0, .ref o0, .int 0, .int 0, .int 0, .int 50, .int 20, .ref w0, .ref e0, .ref f0, .ref t0, .ref b0, .int 0])), (n0, .inr (1, [.ref na, .int 0])), (na, .inl (kN, 16, .inr (.inr (.inr (.inr (fun _ => none)))))), (s0, .inr (1, [.ref sa, .int 0])), (s1, .inr (1, [.ref sb, .int 0])), (d0, .inl (kD, 40, .inr (.inr (.inr (.inr (fun _ => none)))))), (m0, .inr (9, [.int 0, .ref a1, .ref a2, .ref a3, .ref a4, .ref a5, .int 50, .int 20, .int 0, .ref a6, .ref a7, .int 0, .ref a8, .int 0, .ref a9, .ref a10, .long 0, .long 0, .int 0, .long 0, .long 0, .ref a11])), (a1, .inl (k1, 16, .inl (fun _ => 0))), (a2, .inl (k2, 16, .inl (fun _ => 0))), (a3, .inl (k3, 16, .inl (fun _ => 0))), (a4, .inl (k4, 16, .inl (fun _ => 0))), (a5, .inl (k5, 576, .inl (fun _ => 0))), (a6, .inl (k6, 40, .inl (fun _ => 0))), (a7, .inl (k7, 120, .inl (fun _ => 0))), (a9, .inl (k9, 2, .inl (upd (upd (fun _ => 0) (0 : Int32).toNatClampNeg (-1)) (1 : Int32).toNatClampNeg (-1))))]) (hS : va_S (fun q : Nat => s.heap.size ≤ q) s.heap H locs) {ls : Array Slot} (hl : lv_has ls 4 [(3, .int 0), (2, .ref m0), (1, .ref x0), (0, .ref b)]) : W p l e room_1 s m #[Value.ref b] below meth c H locs 29 2637 (lw_Z below #[Value.ref b] s) (F0 m 380 ls []) := by
  obtain ⟨hx, hb, hr, hml, hown, hts, hX, hbl, hlocks, hgv⟩ := id C0
  have hts := fun w h => hts w (wlaw_in w h)
  have hA : ∀ q : Nat, s.heap.size ≤ q → (fun q : Nat => s.heap.size ≤ q) q := fun _ h => h
  have hbA : ¬ (fun q : Nat => s.heap.size ≤ q) b := Nat.not_le.mpr hbl
  have h_in0 : vp_in (0 : Int32) L := vp_in_nI (n := 0) (by omega) (by omega)
  have h_in1 : vp_in (1 : Int32) L := vp_in_nI (n := 1) (by omega) (by omega)
  have h_in2 : vp_in (2 : Int32) L := vp_in_nI (n := 2) (by omega) (by omega)
  have h_in3 : vp_in (3 : Int32) L := vp_in_nI (n := 3) (by omega) (by omega)
  have h_in4 : vp_in (4 : Int32) L := vp_in_nI (n := 4) (by omega) (by omega)
  have h_in5 : vp_in (5 : Int32) L := vp_in_nI (n := 5) (by omega) (by omega)
  refine lv_aload_n hx hb dL_law_380 rfl (lv_at hl 2 rfl) ?_
  refine lv_aload_n hx hb dL_law_381 rfl (lv_at hl 3 rfl) ?_
  refine lv_iload_n hx hb dL_law_382 rfl (lv_at hl 0 rfl) ?_
  refine lv_iconst (v := 1) hx hb dL_law_383 (by decide) ?_
  refine lv_iadd hx hb dL_law_384 ?_
  refine lv_topi (fun y_1 ey_1 => ?_)
  obtain rfl : y_1 = 1 := ey_1.trans (by decide)
  refine va_sld hx hb hX hbl hbA hS h_in1 dL_law_385 ?_
  refine lv_aload_n hx hb dL_law_386 rfl (lv_at hl 3 rfl) ?_
  refine lv_iload_n hx hb dL_law_387 rfl (lv_at hl 0 rfl) ?_
  refine lv_iconst (v := 2) hx hb dL_law_388 (by decide) ?_
  refine lv_iadd hx hb dL_law_389 ?_
  refine lv_topi (fun y_2 ey_2 => ?_)
  obtain rfl : y_2 = 2 := ey_2.trans (by decide)
  refine va_sld hx hb hX hbl hbA hS h_in2 dL_law_390 ?_
  refine lv_aload_n hx hb dL_law_391 rfl (lv_at hl 3 rfl) ?_
  refine lv_iload_n hx hb dL_law_392 rfl (lv_at hl 0 rfl) ?_
  refine lv_iconst (v := 3) hx hb dL_law_393 (by decide) ?_
  refine lv_iadd hx hb dL_law_394 ?_
  refine lv_topi (fun y_3 ey_3 => ?_)
  obtain rfl : y_3 = 3 := ey_3.trans (by decide)
  refine va_sld hx hb hX hbl hbA hS h_in3 dL_law_395 ?_
  have hPc := hP.sub (ws' := [(x0, .inr (8, [.ref n0, .ref s0, .ref s1, .ref d0, .ref o0, .int 0, .int 0, .int 0, .int 50, .int 20, .ref w0, .ref e0, .ref f0, .ref t0, .ref b0, .int 0])), (n0, .inr (1, [.ref na, .int 0]))]) [0, 1] rfl
  have hKc := hK.sub (tys' := []) [] rfl
  refine vp_callSi (W.runV (As := [.int (xs (1 : Int32).toNatClampNeg), .int (xs (2 : Int32).toNatClampNeg), .int (xs (3 : Int32).toNatClampNeg)]) (rest := []) ⟨hx, hb, hml, hown, hts⟩ (c_X8_at l dC dI x0 n0 s0 s1 d0 o0 w0 e0 f0 t0 b0 na (xs (1 : Int32).toNatClampNeg) (xs (2 : Int32).toNatClampNeg) (xs (3 : Int32).toNatClampNeg)) (cwV 3 hts g_law__X8_at_42 rfl rfl rfl (by decide +kernel) ⟨Nat.le_of_ble_eq_true rfl, Nat.le_of_ble_eq_true rfl⟩) ⟨fun a U g mk q => by obtain ⟨q0, qP, qK⟩ := q; exact ⟨q0, qP, va_K.moved (u := U) (U := U.calling g mk a) (Vm.Alike.refl U.vm) qK⟩, va_recv hKc hPc (ci := 8) (q0 := 0) rfl rfl, fun U hU hW => ⟨rfl, by rw [hU]; exact hPc, va_K.moved hW.alike hKc⟩⟩ rfl rfl hl.1 rfl (lv_room (Nat.le_of_ble_eq_true rfl)) dL_law_396 ⟨Nat.le_of_ble_eq_true rfl, Nat.le_of_ble_eq_true rfl⟩) (fun r_4 hr_4 => ?_)
  try dsimp only at hr_4
  subst hr_4
  refine lv_aload_n hx hb dL_law_399 rfl (lv_at hl 1 rfl) ?_
  refine lv_aload_n hx hb dL_law_400 rfl (lv_at hl 3 rfl) ?_
  refine lv_iload_n hx hb dL_law_401 rfl (lv_at hl 0 rfl) ?_
  refine lv_iconst (v := 1) hx hb dL_law_402 (by decide) ?_
  refine lv_iadd hx hb dL_law_403 ?_
  refine lv_topi (fun y_5 ey_5 => ?_)
  obtain rfl : y_5 = 1 := ey_5.trans (by decide)
  refine va_sld hx hb hX hbl hbA hS h_in1 dL_law_404 ?_
  refine lv_aload_n hx hb dL_law_405 rfl (lv_at hl 3 rfl) ?_
  refine lv_iload_n hx hb dL_law_406 rfl (lv_at hl 0 rfl) ?_
  refine lv_iconst (v := 2) hx hb dL_law_407 (by decide) ?_
  refine lv_iadd hx hb dL_law_408 ?_
  refine lv_topi (fun y_6 ey_6 => ?_)
  obtain rfl : y_6 = 2 := ey_6.trans (by decide)
  refine va_sld hx hb hX hbl hbA hS h_in2 dL_law_409 ?_
  refine lv_aload_n hx hb dL_law_410 rfl (lv_at hl 3 rfl) ?_
  refine lv_iload_n hx hb dL_law_411 rfl (lv_at hl 0 rfl) ?_
  refine lv_iconst (v := 3) hx hb dL_law_412 (by decide) ?_
  refine lv_iadd hx hb dL_law_413 ?_
  refine lv_topi (fun y_7 ey_7 => ?_)
  obtain rfl : y_7 = 3 := ey_7.trans (by decide)
  refine va_sld hx hb hX hbl hbA hS h_in3 dL_law_414 ?_
  have hPc := hP.sub (ws' := [(m0, .inr (9, [.int 0, .ref a1, .ref a2, .ref a3, .ref a4, .ref a5, .int 50, .int 20, .int 0, .ref a6, .ref a7, .int 0, .ref a8, .int 0, .ref a9, .ref a10, .long 0, .long 0, .int 0, .long 0, .long 0, .ref a11]))]) [6] rfl
  have hKc := hK.sub (tys' := []) [] rfl
  refine vp_callSi (W.runV (As := [.int (xs (1 : Int32).toNatClampNeg), .int (xs (2 : Int32).toNatClampNeg), .int (xs (3 : Int32).toNatClampNeg)]) (rest := [.int (-100001)]) ⟨hx, hb, hml, hown, hts⟩ (c_X9_at l dC dI m0 a1 a2 a3 a4 a5 a6 a7 a8 a9 a10 a11 (xs (1 : Int32).toNatClampNeg) (xs (2 : Int32).toNatClampNeg) (xs (3 : Int32).toNatClampNeg)) (cwV 3 hts g_law__X9_at_45 rfl rfl rfl (by decide +kernel) ⟨Nat.le_of_ble_eq_true rfl, Nat.le_of_ble_eq_true rfl⟩) ⟨fun a U g mk q => by obtain ⟨q0, qP, qK⟩ := q; exact ⟨q0, qP, va_K.moved (u := U) (U := U.calling g mk a) (Vm.Alike.refl U.vm) qK⟩, va_recv hKc hPc (ci := 9) (q0 := 0) rfl rfl, fun U hU hW => ⟨rfl, by rw [hU]; exact hPc, va_K.moved hW.alike hKc⟩⟩ rfl rfl hl.1 rfl (lv_room (Nat.le_of_ble_eq_true rfl)) dL_law_415 ⟨Nat.le_of_ble_eq_true rfl, Nat.le_of_ble_eq_true rfl⟩) (fun r_8 hr_8 => ?_)
  try dsimp only at hr_8
  subst hr_8
  refine lv_icmp_eq (tgt := 957) hx hb dL_law_418 (by decide) (fun _ => ?_) (fun h9 => absurd h9 (by decide))
  refine W.widen (k := 600000) (n := 7302250) (Nat.le_of_ble_eq_true rfl) (Nat.le_of_ble_eq_true rfl) ?_
  exact law_end hL C0 hS (lv_sub hl [0, 3] rfl)
