theorem XN_tbl {s : State} {b : Nat} (h : ∀ w ∈ lw_tbl, w.before #[Value.ref b] s = true) : XN s := ⟨va_Nw.of rfl (h (.methodLinkNest RX0 24 yX8_fuelOf RX8) (by decide +kernel)), va_Nw.of rfl (h (.methodLinkNest RX1 21 yX6_init RX8) (by decide +kernel)), va_Nw.of rfl (h (.methodLinkNest RX4 9 yX3_init RX8) (by decide +kernel)), va_Nw.of rfl (h (.methodLinkNest RX6 71 yX8_isPlace RX8) (by decide +kernel)), va_Nw.of rfl (h (.methodLinkNest RX8 11 yX1_init RX8) (by decide +kernel)), va_Nw.of rfl (h (.methodLinkNest RX8 43 yX7_init RX8) (by decide +kernel)), va_Nw.of rfl (h (.methodLinkNest RX8 50 yX4_init RX8) (by decide +kernel)), va_Nw.of rfl (h (.methodLinkNest RX8 57 yX3_init RX8) (by decide +kernel)), va_Nw.of rfl (h (.methodLinkNest RX8 64 yX6_init RX8) (by decide +kernel)), va_Nw.of rfl (h (.methodLinkNest RX8 71 yX0_init RX8) (by decide +kernel)), va_AO.of (h (.arrayOver (.object "MeetingsAbove$Dot")) (by decide +kernel)), va_AO.of (h (.arrayOver (.object "MeetingsAbove$Notice")) (by decide +kernel)), va_AO.of (h (.arrayOver (.object "MeetingsAbove$Thing")) (by decide +kernel))⟩
set_option maxHeartbeats 4000000 in
set_option maxRecDepth 100000 in
/-- from the entry, for every script of at most 6 ints, the law comes to its end with true -/
theorem whole_start {p : Program} {e : Env} {s : State} {m : MethodId} {below : List Frame} {meth : Method} {c : Code} (l : Launch) {b L : Nat} {xs : Nat → Int32} (hL : L ≤ 6) (C0 : lw_At p s m meth c b L xs) : W p l e room_1 s m #[Value.ref b] below meth c s.heap [] 0 0 (lw_Z below #[Value.ref b] s) (entryFrame m ([Value.ref b] : List Value).toArray 4) := by
  have hts0 := C0.2.2.2.2.2.1
  obtain ⟨hx, hb, hr, hml, hown, hts, hX, hbl, hlocks, hgv⟩ := id C0
  have hts := fun w h => hts w (wlaw_in w h)
  have hA : ∀ q : Nat, s.heap.size ≤ q → (fun q : Nat => s.heap.size ≤ q) q := fun _ h => h
  have hbA : ¬ (fun q : Nat => s.heap.size ≤ q) b := Nat.not_le.mpr hbl
  obtain ⟨c0, iS0, hKn0⟩ := u_known (C := RX0) (T := TX0) (N := 5) (n := 5) hts in_law_X0 (hts (.instantiable RX0 5) (by decide +kernel))
  obtain ⟨c1, iS1, hKn1⟩ := u_known (C := RX1) (T := TX1) (N := 2) (n := 2) hts in_law_X1 (hts (.instantiable RX1 2) (by decide +kernel))
  obtain ⟨c2, iS2, hKn2⟩ := u_known (C := RX2) (T := TX2) (N := 4) (n := 4) hts in_law_X2 (hts (.instantiable RX2 4) (by decide +kernel))
  obtain ⟨c3, iS3, hKn3⟩ := u_known (C := RX3) (T := TX3) (N := 2) (n := 2) hts in_law_X3 (hts (.instantiable RX3 2) (by decide +kernel))
  obtain ⟨c4, iS4, hKn4⟩ := u_known (C := RX4) (T := TX4) (N := 3) (n := 3) hts in_law_X4 (hts (.instantiable RX4 3) (by decide +kernel))
  obtain ⟨c5, iS5, hKn5⟩ := u_known (C := RX5) (T := TX5) (N := 8) (n := 8) hts in_law_X5 (hts (.instantiable RX5 8) (by decide +kernel))
  obtain ⟨c6, iS6, hKn6⟩ := u_known (C := RX6) (T := TX6) (N := 5) (n := 5) hts in_law_X6 (hts (.instantiable RX6 5) (by decide +kernel))
  obtain ⟨c7, iS7, hKn7⟩ := u_known (C := RX7) (T := TX7) (N := 3) (n := 3) hts in_law_X7 (hts (.instantiable RX7 3) (by decide +kernel))
  obtain ⟨c8, iS8, hKn8⟩ := u_known (C := RX8) (T := TX8) (N := 16) (n := 16) hts in_law_X8 (hts (.instantiable RX8 16) (by decide +kernel))
  obtain ⟨c9, iS9, hKn9⟩ := u_known (C := RX9) (T := TX9) (N := 22) (n := 22) hts in_law_X9 (hts (.instantiable RX9 22) (by decide +kernel))
  obtain ⟨dC, dI, hKc⟩ : ∃ (dC : Nat → ClassId) (dI : Nat → Nat → Nat), ∀ (k : Nat) (q : vw_C), vwCl[k]? = some q → u_Kn s q.1 q.2.1 q.2.2 (dC k) (dI k) := by
    refine ⟨fun k => if k = 0 then c0 else if k = 1 then c1 else if k = 2 then c2 else if k = 3 then c3 else if k = 4 then c4 else if k = 5 then c5 else if k = 6 then c6 else if k = 7 then c7 else if k = 8 then c8 else c9, fun k => if k = 0 then iS0 else if k = 1 then iS1 else if k = 2 then iS2 else if k = 3 then iS3 else if k = 4 then iS4 else if k = 5 then iS5 else if k = 6 then iS6 else if k = 7 then iS7 else if k = 8 then iS8 else iS9, ?_⟩
    intro k q hq
    match k, hq with
    | 0, hq => cases hq; exact hKn0
    | 1, hq => cases hq; exact hKn1
    | 2, hq => cases hq; exact hKn2
    | 3, hq => cases hq; exact hKn3
    | 4, hq => cases hq; exact hKn4
    | 5, hq => cases hq; exact hKn5
    | 6, hq => cases hq; exact hKn6
    | 7, hq => cases hq; exact hKn7
    | 8, hq => cases hq; exact hKn8
    | 9, hq => cases hq; exact hKn9
    | k + 10, hq => simp [vwCl] at hq
  have hN : XN s := XN_tbl hts0
  have hS : va_S (fun q : Nat => s.heap.size ≤ q) s.heap s.heap [] := va_S.rf
  have hK : va_K (dC, dI) vwCl [] s := ⟨hKc, fun k q h => by simp at h⟩
  have hP : va_P (dC, dI) vwCl [] s.heap := fun k q h => by simp at h
  have hD : va_D (fun q : Nat => s.heap.size ≤ q) [] := ⟨fun i j p q h => by simp at h, fun k q h => by simp at h⟩
  have hl := lv_entry ([.ref b]) (n := 4) (Nat.le_of_ble_eq_true rfl)
  rw [lg_entry_eq]
  generalize (lg_sl ([.ref b]) ++ List.replicate (4 - (lg_sl ([.ref b])).length) Slot.unset).toArray = ls at hl ⊢
  have hl : lv_has ls 4 [(0, .ref b)] := hl
  refine va_new (ci := 8) (fs := [.null, .null, .null, .null, .null, .int 0, .int 0, .int 0, .int 0, .int 0, .null, .null, .null, .null, .null, .int 0]) (C := RX8) (T := TX8) (N := 16) hx hb hts in_law_X8 tyX8 tyX8_ok hown (hts (.classLink RL 7 RX8) (by decide +kernel)) (hts (.instantiable RX8 16) (by decide +kernel)) (hts (.initialized RX8) (by decide +kernel)) hK hP hD hS hA rfl (fun j hj => by rcases (show j = 0 ∨ j = 1 ∨ j = 2 ∨ j = 3 ∨ j = 4 ∨ j = 5 ∨ j = 6 ∨ j = 7 ∨ j = 8 ∨ j = 9 ∨ j = 10 ∨ j = 11 ∨ j = 12 ∨ j = 13 ∨ j = 14 ∨ j = 15 by omega) with rfl | rfl | rfl | rfl | rfl | rfl | rfl | rfl | rfl | rfl | rfl | rfl | rfl | rfl | rfl | rfl <;> rfl) (Nat.le_of_ble_eq_true rfl) (Nat.le_of_ble_eq_true rfl) dL_law_0 (fun q_1 H hP hD hS => ?_)
  have hP : va_P (dC, dI) vwCl [(q_1, .inr (8, [.null, .null, .null, .null, .null, .int 0, .int 0, .int 0, .int 0, .int 0, .null, .null, .null, .null, .null, .int 0]))] H := hP
  have hD : va_D (fun q : Nat => s.heap.size ≤ q) [(q_1, .inr (8, [.null, .null, .null, .null, .null, .int 0, .int 0, .int 0, .int 0, .int 0, .null, .null, .null, .null, .null, .int 0]))] := hD
  refine W.widen (k := 1) (n := 16) (by omega) (by omega) ?_
  refine lv_dup hx hb dL_law_3 rfl ?_
  have hPc := hP.sub (ws' := [(q_1, .inr (8, [.null, .null, .null, .null, .null, .int 0, .int 0, .int 0, .int 0, .int 0, .null, .null, .null, .null, .null, .int 0]))]) [0] rfl
  have hKc := hK.sub (tys' := []) [] rfl
  have hDc := hD.sub (ws' := [(q_1, .inr (8, [.null, .null, .null, .null, .null, .int 0, .int 0, .int 0, .int 0, .int 0, .null, .null, .null, .null, .null, .int 0]))]) [0] (by decide) rfl
  have hFc := va_free (wc := [(q_1, .inr (8, [.null, .null, .null, .null, .null, .int 0, .int 0, .int 0, .int 0, .int 0, .null, .null, .null, .null, .null, .int 0]))]) hD hS hA [0] rfl
  refine va_callv (va_runI (As := []) (rest := [.ref q_1]) ⟨hx, hb, hml, hown, hts⟩ (c_X8_init l dC dI q_1 H.size) (cwI 0 hts g_law__X8_init_9 rfl rfl rfl (hts (.initialized RX8) (by decide +kernel)) (hts (.methodLink RL 9 yX8_init) (by decide +kernel)) (hts (.instanceMethod yX8_init) (by decide +kernel)) rfl (by decide +kernel) ⟨Nat.le_of_ble_eq_true rfl, Nat.le_of_ble_eq_true rfl⟩) ⟨fun a U g mk q => by obtain ⟨q0, q1, qP, qK, qD, qN⟩ := q; exact ⟨q0, q1, qP, va_K.moved (u := U) (U := U.calling g mk a) (Vm.Alike.refl U.vm) qK, qD, XN_same (U := U) (U2 := U.calling g mk a) rfl qN⟩, fun U hU hW => ⟨rfl, by rw [hU], by rw [hU]; exact hPc, va_K.moved hW.alike hKc, hDc.weaken (fun _ _ _ _ => trivial), XN_warm hW hN⟩⟩ rfl rfl hl.1 rfl (lv_room (Nat.le_of_ble_eq_true rfl)) dL_law_4 ⟨Nat.le_of_ble_eq_true rfl, Nat.le_of_ble_eq_true rfl⟩) hS (fun q _ h => hFc q h) hFc (fun u_2 t H1 locs ht hvm hw_3 hB hz1 hk1 hS => ?_)
  obtain ⟨n0_4, s0_5, s1_6, d0_7, o0_8, w0_9, e0_10, f0_11, t0_12, b0_13, na_14, sa_15, sb_16, cA_17, cA_18, hP1, hK1, hD1⟩ := hB
  rw [ht] at hP1
  have hK1 := va_K.moved hvm.symm hK1
  obtain ⟨hP, hD⟩ := va_join (wr := []) (w1 := [(q_1, .inr (8, [.ref n0_4, .ref s0_5, .ref s1_6, .ref d0_7, .ref o0_8, .int 0, .int 0, .int 0, .int 50, .int 20, .ref w0_9, .ref e0_10, .ref f0_11, .ref t0_12, .ref b0_13, .int 0])), (n0_4, .inr (1, [.ref na_14, .int 0])), (na_14, .inl (cA_17, 16, .inr (.inr (.inr (.inr (fun _ => none)))))), (s0_5, .inr (1, [.ref sa_15, .int 0])), (s1_6, .inr (1, [.ref sb_16, .int 0])), (d0_7, .inl (cA_18, 40, .inr (.inr (.inr (.inr (fun _ => none))))))]) hP hD [0] [] rfl rfl (by decide) (by decide) hk1 hFc hP1 hD1
  have hK := (hK.sub (tys' := []) [] rfl).app hK1
  generalize H1 = H at hP hS ⊢
  have hP : va_P (dC, dI) vwCl [(q_1, .inr (8, [.ref n0_4, .ref s0_5, .ref s1_6, .ref d0_7, .ref o0_8, .int 0, .int 0, .int 0, .int 50, .int 20, .ref w0_9, .ref e0_10, .ref f0_11, .ref t0_12, .ref b0_13, .int 0])), (n0_4, .inr (1, [.ref na_14, .int 0])), (na_14, .inl (cA_17, 16, .inr (.inr (.inr (.inr (fun _ => none)))))), (s0_5, .inr (1, [.ref sa_15, .int 0])), (s1_6, .inr (1, [.ref sb_16, .int 0])), (d0_7, .inl (cA_18, 40, .inr (.inr (.inr (.inr (fun _ => none))))))] H := hP
  have hD : va_D (fun q : Nat => s.heap.size ≤ q) [(q_1, .inr (8, [.ref n0_4, .ref s0_5, .ref s1_6, .ref d0_7, .ref o0_8, .int 0, .int 0, .int 0, .int 50, .int 20, .ref w0_9, .ref e0_10, .ref f0_11, .ref t0_12, .ref b0_13, .int 0])), (n0_4, .inr (1, [.ref na_14, .int 0])), (na_14, .inl (cA_17, 16, .inr (.inr (.inr (.inr (fun _ => none)))))), (s0_5, .inr (1, [.ref sa_15, .int 0])), (s1_6, .inr (1, [.ref sb_16, .int 0])), (d0_7, .inl (cA_18, 40, .inr (.inr (.inr (.inr (fun _ => none))))))] := hD
  have hK : va_K (dC, dI) vwCl [(cA_17, .object "MeetingsAbove$Thing"), (cA_18, .object "MeetingsAbove$Dot")] s := hK
  refine W.widen (k := 17) (n := 208) (by omega) (by omega) ?_
  refine lv_astore_n (lv' := [(1, .ref q_1), (0, .ref b)]) hx hb dL_law_7 rfl hl (by decide) rfl (fun ls hl => ?_)
  refine va_new (ci := 9) (fs := [.int 0, .null, .null, .null, .null, .null, .int 0, .int 0, .int 0, .null, .null, .int 0, .null, .int 0, .null, .null, .long 0, .long 0, .int 0, .long 0, .long 0, .null]) (C := RX9) (T := TX9) (N := 22) hx hb hts in_law_X9 tyX9 tyX9_ok hown (hts (.classLink RL 10 RX9) (by decide +kernel)) (hts (.instantiable RX9 22) (by decide +kernel)) (hts (.initialized RX9) (by decide +kernel)) hK hP hD hS hA rfl (fun j hj => by rcases (show j = 0 ∨ j = 1 ∨ j = 2 ∨ j = 3 ∨ j = 4 ∨ j = 5 ∨ j = 6 ∨ j = 7 ∨ j = 8 ∨ j = 9 ∨ j = 10 ∨ j = 11 ∨ j = 12 ∨ j = 13 ∨ j = 14 ∨ j = 15 ∨ j = 16 ∨ j = 17 ∨ j = 18 ∨ j = 19 ∨ j = 20 ∨ j = 21 by omega) with rfl | rfl | rfl | rfl | rfl | rfl | rfl | rfl | rfl | rfl | rfl | rfl | rfl | rfl | rfl | rfl | rfl | rfl | rfl | rfl | rfl | rfl <;> rfl) (Nat.le_of_ble_eq_true rfl) (Nat.le_of_ble_eq_true rfl) dL_law_8 (fun q_19 H hP hD hS => ?_)
  have hP : va_P (dC, dI) vwCl [(q_1, .inr (8, [.ref n0_4, .ref s0_5, .ref s1_6, .ref d0_7, .ref o0_8, .int 0, .int 0, .int 0, .int 50, .int 20, .ref w0_9, .ref e0_10, .ref f0_11, .ref t0_12, .ref b0_13, .int 0])), (n0_4, .inr (1, [.ref na_14, .int 0])), (na_14, .inl (cA_17, 16, .inr (.inr (.inr (.inr (fun _ => none)))))), (s0_5, .inr (1, [.ref sa_15, .int 0])), (s1_6, .inr (1, [.ref sb_16, .int 0])), (d0_7, .inl (cA_18, 40, .inr (.inr (.inr (.inr (fun _ => none)))))), (q_19, .inr (9, [.int 0, .null, .null, .null, .null, .null, .int 0, .int 0, .int 0, .null, .null, .int 0, .null, .int 0, .null, .null, .long 0, .long 0, .int 0, .long 0, .long 0, .null]))] H := hP
  have hD : va_D (fun q : Nat => s.heap.size ≤ q) [(q_1, .inr (8, [.ref n0_4, .ref s0_5, .ref s1_6, .ref d0_7, .ref o0_8, .int 0, .int 0, .int 0, .int 50, .int 20, .ref w0_9, .ref e0_10, .ref f0_11, .ref t0_12, .ref b0_13, .int 0])), (n0_4, .inr (1, [.ref na_14, .int 0])), (na_14, .inl (cA_17, 16, .inr (.inr (.inr (.inr (fun _ => none)))))), (s0_5, .inr (1, [.ref sa_15, .int 0])), (s1_6, .inr (1, [.ref sb_16, .int 0])), (d0_7, .inl (cA_18, 40, .inr (.inr (.inr (.inr (fun _ => none)))))), (q_19, .inr (9, [.int 0, .null, .null, .null, .null, .null, .int 0, .int 0, .int 0, .null, .null, .int 0, .null, .int 0, .null, .null, .long 0, .long 0, .int 0, .long 0, .long 0, .null]))] := hD
  refine W.widen (k := 18) (n := 230) (by omega) (by omega) ?_
  refine lv_dup hx hb dL_law_11 rfl ?_
  have hPc := hP.sub (ws' := [(q_19, .inr (9, [.int 0, .null, .null, .null, .null, .null, .int 0, .int 0, .int 0, .null, .null, .int 0, .null, .int 0, .null, .null, .long 0, .long 0, .int 0, .long 0, .long 0, .null]))]) [6] rfl
  have hKc := hK.sub (tys' := []) [] rfl
  have hDc := hD.sub (ws' := [(q_19, .inr (9, [.int 0, .null, .null, .null, .null, .null, .int 0, .int 0, .int 0, .null, .null, .int 0, .null, .int 0, .null, .null, .long 0, .long 0, .int 0, .long 0, .long 0, .null]))]) [6] (by decide) rfl
  have hFc := va_free (wc := [(q_19, .inr (9, [.int 0, .null, .null, .null, .null, .null, .int 0, .int 0, .int 0, .null, .null, .int 0, .null, .int 0, .null, .null, .long 0, .long 0, .int 0, .long 0, .long 0, .null]))]) hD hS hA [6] rfl
  refine va_callv (va_runI (As := []) (rest := [.ref q_19]) ⟨hx, hb, hml, hown, hts⟩ (c_X9_init l dC dI q_19 H.size) (cwI 0 hts g_law__X9_init_12 rfl rfl rfl (hts (.initialized RX9) (by decide +kernel)) (hts (.methodLink RL 12 yX9_init) (by decide +kernel)) (hts (.instanceMethod yX9_init) (by decide +kernel)) rfl (by decide +kernel) ⟨Nat.le_of_ble_eq_true rfl, Nat.le_of_ble_eq_true rfl⟩) ⟨fun a U g mk q => by obtain ⟨q0, q1, qP, qK, qD⟩ := q; exact ⟨q0, q1, qP, va_K.moved (u := U) (U := U.calling g mk a) (Vm.Alike.refl U.vm) qK, qD⟩, fun U hU hW => ⟨rfl, by rw [hU], by rw [hU]; exact hPc, va_K.moved hW.alike hKc, hDc.weaken (fun _ _ _ _ => trivial)⟩⟩ rfl rfl hl.1 rfl (lv_room (Nat.le_of_ble_eq_true rfl)) dL_law_12 ⟨Nat.le_of_ble_eq_true rfl, Nat.le_of_ble_eq_true rfl⟩) hS (fun q _ h => hFc q h) hFc (fun u_20 t H1 locs ht hvm hw_21 hB hz1 hk1 hS => ?_)
  obtain ⟨a1_22, a2_23, a3_24, a4_25, a5_26, a6_27, a7_28, a8_29, a9_30, a10_31, a11_32, cA_33, cA_34, cA_35, cA_36, cA_37, cA_38, cA_39, cA_40, hP1, hK1, hD1⟩ := hB
  rw [ht] at hP1
  have hK1 := va_K.moved hvm.symm hK1
  obtain ⟨hP, hD⟩ := va_join (wr := [(q_1, .inr (8, [.ref n0_4, .ref s0_5, .ref s1_6, .ref d0_7, .ref o0_8, .int 0, .int 0, .int 0, .int 50, .int 20, .ref w0_9, .ref e0_10, .ref f0_11, .ref t0_12, .ref b0_13, .int 0])), (n0_4, .inr (1, [.ref na_14, .int 0])), (na_14, .inl (cA_17, 16, .inr (.inr (.inr (.inr (fun _ => none)))))), (s0_5, .inr (1, [.ref sa_15, .int 0])), (s1_6, .inr (1, [.ref sb_16, .int 0])), (d0_7, .inl (cA_18, 40, .inr (.inr (.inr (.inr (fun _ => none))))))]) (w1 := [(q_19, .inr (9, [.int 0, .ref a1_22, .ref a2_23, .ref a3_24, .ref a4_25, .ref a5_26, .int 50, .int 20, .int 0, .ref a6_27, .ref a7_28, .int 0, .ref a8_29, .int 0, .ref a9_30, .ref a10_31, .long 0, .long 0, .int 0, .long 0, .long 0, .ref a11_32])), (a1_22, .inl (cA_33, 16, .inl (fun _ => 0))), (a2_23, .inl (cA_34, 16, .inl (fun _ => 0))), (a3_24, .inl (cA_35, 16, .inl (fun _ => 0))), (a4_25, .inl (cA_36, 16, .inl (fun _ => 0))), (a5_26, .inl (cA_37, 576, .inl (fun _ => 0))), (a6_27, .inl (cA_38, 40, .inl (fun _ => 0))), (a7_28, .inl (cA_39, 120, .inl (fun _ => 0))), (a9_30, .inl (cA_40, 2, .inl (upd (upd (fun _ => 0) (0 : Int32).toNatClampNeg (-1)) (1 : Int32).toNatClampNeg (-1))))]) hP hD [6] [0, 1, 2, 3, 4, 5] rfl rfl (by decide) (by decide) hk1 hFc hP1 hD1
  have hK := (hK.sub (tys' := [(cA_17, .object "MeetingsAbove$Thing"), (cA_18, .object "MeetingsAbove$Dot")]) [0, 1] rfl).app hK1
  generalize H1 = H at hP hS ⊢
  have hP : va_P (dC, dI) vwCl [(q_1, .inr (8, [.ref n0_4, .ref s0_5, .ref s1_6, .ref d0_7, .ref o0_8, .int 0, .int 0, .int 0, .int 50, .int 20, .ref w0_9, .ref e0_10, .ref f0_11, .ref t0_12, .ref b0_13, .int 0])), (n0_4, .inr (1, [.ref na_14, .int 0])), (na_14, .inl (cA_17, 16, .inr (.inr (.inr (.inr (fun _ => none)))))), (s0_5, .inr (1, [.ref sa_15, .int 0])), (s1_6, .inr (1, [.ref sb_16, .int 0])), (d0_7, .inl (cA_18, 40, .inr (.inr (.inr (.inr (fun _ => none)))))), (q_19, .inr (9, [.int 0, .ref a1_22, .ref a2_23, .ref a3_24, .ref a4_25, .ref a5_26, .int 50, .int 20, .int 0, .ref a6_27, .ref a7_28, .int 0, .ref a8_29, .int 0, .ref a9_30, .ref a10_31, .long 0, .long 0, .int 0, .long 0, .long 0, .ref a11_32])), (a1_22, .inl (cA_33, 16, .inl (fun _ => 0))), (a2_23, .inl (cA_34, 16, .inl (fun _ => 0))), (a3_24, .inl (cA_35, 16, .inl (fun _ => 0))), (a4_25, .inl (cA_36, 16, .inl (fun _ => 0))), (a5_26, .inl (cA_37, 576, .inl (fun _ => 0))), (a6_27, .inl (cA_38, 40, .inl (fun _ => 0))), (a7_28, .inl (cA_39, 120, .inl (fun _ => 0))), (a9_30, .inl (cA_40, 2, .inl (upd (upd (fun _ => 0) (0 : Int32).toNatClampNeg (-1)) (1 : Int32).toNatClampNeg (-1))))] H := hP
  have hD : va_D (fun q : Nat => s.heap.size ≤ q) [(q_1, .inr (8, [.ref n0_4, .ref s0_5, .ref s1_6, .ref d0_7, .ref o0_8, .int 0, .int 0, .int 0, .int 50, .int 20, .ref w0_9, .ref e0_10, .ref f0_11, .ref t0_12, .ref b0_13, .int 0])), (n0_4, .inr (1, [.ref na_14, .int 0])), (na_14, .inl (cA_17, 16, .inr (.inr (.inr (.inr (fun _ => none)))))), (s0_5, .inr (1, [.ref sa_15, .int 0])), (s1_6, .inr (1, [.ref sb_16, .int 0])), (d0_7, .inl (cA_18, 40, .inr (.inr (.inr (.inr (fun _ => none)))))), (q_19, .inr (9, [.int 0, .ref a1_22, .ref a2_23, .ref a3_24, .ref a4_25, .ref a5_26, .int 50, .int 20, .int 0, .ref a6_27, .ref a7_28, .int 0, .ref a8_29, .int 0, .ref a9_30, .ref a10_31, .long 0, .long 0, .int 0, .long 0, .long 0, .ref a11_32])), (a1_22, .inl (cA_33, 16, .inl (fun _ => 0))), (a2_23, .inl (cA_34, 16, .inl (fun _ => 0))), (a3_24, .inl (cA_35, 16, .inl (fun _ => 0))), (a4_25, .inl (cA_36, 16, .inl (fun _ => 0))), (a5_26, .inl (cA_37, 576, .inl (fun _ => 0))), (a6_27, .inl (cA_38, 40, .inl (fun _ => 0))), (a7_28, .inl (cA_39, 120, .inl (fun _ => 0))), (a9_30, .inl (cA_40, 2, .inl (upd (upd (fun _ => 0) (0 : Int32).toNatClampNeg (-1)) (1 : Int32).toNatClampNeg (-1))))] := hD
  have hK : va_K (dC, dI) vwCl [(cA_17, .object "MeetingsAbove$Thing"), (cA_18, .object "MeetingsAbove$Dot"), (cA_33, .int), (cA_34, .int), (cA_35, .int), (cA_36, .boolean), (cA_37, .int), (cA_38, .int), (cA_39, .int), (cA_40, .int)] s := hK
  refine W.widen (k := 29) (n := 2637) (by omega) (by omega) ?_
  refine lv_astore_n (lv' := [(2, .ref q_19), (1, .ref q_1), (0, .ref b)]) hx hb dL_law_15 rfl hl (by decide) rfl (fun ls hl => ?_)
  refine lv_iconst (v := 0) hx hb dL_law_16 (by decide) ?_
  refine lv_istore_n (lv' := [(3, .int 0), (2, .ref q_19), (1, .ref q_1), (0, .ref b)]) hx hb dL_law_17 rfl hl (by decide) rfl (fun ls hl => ?_)
  refine lv_iload_n hx hb dL_law_18 rfl (lv_at hl 0 rfl) ?_
  refine lv_aload_n hx hb dL_law_19 rfl (lv_at hl 3 rfl) ?_
  refine va_slen hx hb hX hbl hbA hS dL_law_20 ?_
  refine lv_bipush (v := 6) hx hb dL_law_21 (by decide) ?_
  refine lv_isub hx hb dL_law_23 ?_
  refine lv_icmp_gt (tgt := 963) hx hb dL_law_24 (by decide) (fun _ => ?_) (fun c_24 => ?_)
  · refine lv_iconst (v := 1) hx hb dL_law_963 (by decide) ?_
    refine va_forget (fun q hq => hS.2.2 q hq) ?_
    refine W.widen (k := 600000) (n := 7302250) (Nat.le_of_ble_eq_true rfl) (Nat.le_of_ble_eq_true rfl) ?_
    exact lw_ret hx hb hr hlocks dL_law_964
  have h6 : 6 ≤ L := lw_six L hL c_24
  have h_in0 : vp_in (0 : Int32) L := vp_in_nI (n := 0) (by omega) (by omega)
  refine lv_aload_n hx hb dL_law_27 rfl (lv_at hl 3 rfl) ?_
  refine lv_iload_n hx hb dL_law_28 rfl (lv_at hl 0 rfl) ?_
  refine va_sld hx hb hX hbl hbA hS h_in0 dL_law_29 ?_
  refine lv_bipush (v := 31) hx hb dL_law_30 (by decide) ?_
  refine lv_iand hx hb dL_law_32 ?_
  refine lv_topi (fun y_41 ey_41 => ?_)
  have hP7 := hP.sub (ws' := [(q_1, .inr (8, [.ref n0_4, .ref s0_5, .ref s1_6, .ref d0_7, .ref o0_8, .int 0, .int 0, .int 0, .int 50, .int 20, .ref w0_9, .ref e0_10, .ref f0_11, .ref t0_12, .ref b0_13, .int 0])), (n0_4, .inr (1, [.ref na_14, .int 0])), (na_14, .inl (cA_17, 16, .inr (.inr (.inr (.inr (fun _ => none)))))), (s0_5, .inr (1, [.ref sa_15, .int 0])), (s1_6, .inr (1, [.ref sb_16, .int 0])), (d0_7, .inl (cA_18, 40, .inr (.inr (.inr (.inr (fun _ => none)))))), (q_19, .inr (9, [.int 0, .ref a1_22, .ref a2_23, .ref a3_24, .ref a4_25, .ref a5_26, .int 50, .int 20, .int 0, .ref a6_27, .ref a7_28, .int 0, .ref a8_29, .int 0, .ref a9_30, .ref a10_31, .long 0, .long 0, .int 0, .long 0, .long 0, .ref a11_32])), (a1_22, .inl (cA_33, 16, .inl (fun _ => 0))), (a2_23, .inl (cA_34, 16, .inl (fun _ => 0))), (a3_24, .inl (cA_35, 16, .inl (fun _ => 0))), (a4_25, .inl (cA_36, 16, .inl (fun _ => 0))), (a5_26, .inl (cA_37, 576, .inl (fun _ => 0))), (a6_27, .inl (cA_38, 40, .inl (fun _ => 0))), (a7_28, .inl (cA_39, 120, .inl (fun _ => 0))), (a9_30, .inl (cA_40, 2, .inl (upd (upd (fun _ => 0) (0 : Int32).toNatClampNeg (-1)) (1 : Int32).toNatClampNeg (-1))))]) [0, 1, 2, 3, 4, 5, 6, 7, 8, 9, 10, 11, 12, 13, 14] rfl
  have hD7 := hD.sub (ws' := [(q_1, .inr (8, [.ref n0_4, .ref s0_5, .ref s1_6, .ref d0_7, .ref o0_8, .int 0, .int 0, .int 0, .int 50, .int 20, .ref w0_9, .ref e0_10, .ref f0_11, .ref t0_12, .ref b0_13, .int 0])), (n0_4, .inr (1, [.ref na_14, .int 0])), (na_14, .inl (cA_17, 16, .inr (.inr (.inr (.inr (fun _ => none)))))), (s0_5, .inr (1, [.ref sa_15, .int 0])), (s1_6, .inr (1, [.ref sb_16, .int 0])), (d0_7, .inl (cA_18, 40, .inr (.inr (.inr (.inr (fun _ => none)))))), (q_19, .inr (9, [.int 0, .ref a1_22, .ref a2_23, .ref a3_24, .ref a4_25, .ref a5_26, .int 50, .int 20, .int 0, .ref a6_27, .ref a7_28, .int 0, .ref a8_29, .int 0, .ref a9_30, .ref a10_31, .long 0, .long 0, .int 0, .long 0, .long 0, .ref a11_32])), (a1_22, .inl (cA_33, 16, .inl (fun _ => 0))), (a2_23, .inl (cA_34, 16, .inl (fun _ => 0))), (a3_24, .inl (cA_35, 16, .inl (fun _ => 0))), (a4_25, .inl (cA_36, 16, .inl (fun _ => 0))), (a5_26, .inl (cA_37, 576, .inl (fun _ => 0))), (a6_27, .inl (cA_38, 40, .inl (fun _ => 0))), (a7_28, .inl (cA_39, 120, .inl (fun _ => 0))), (a9_30, .inl (cA_40, 2, .inl (upd (upd (fun _ => 0) (0 : Int32).toNatClampNeg (-1)) (1 : Int32).toNatClampNeg (-1))))]) [0, 1, 2, 3, 4, 5, 6, 7, 8, 9, 10, 11, 12, 13, 14] (by decide) rfl
  have hK7 := hK.sub (tys' := [(cA_17, .object "MeetingsAbove$Thing"), (cA_18, .object "MeetingsAbove$Dot"), (cA_33, .int), (cA_34, .int), (cA_35, .int), (cA_36, .boolean), (cA_37, .int), (cA_38, .int), (cA_39, .int), (cA_40, .int)]) [0, 1, 2, 3, 4, 5, 6, 7, 8, 9] rfl
  rcases sw_21 y_41 with o_33 | rfl | rfl | rfl | rfl | rfl | rfl | rfl | rfl | rfl | rfl | rfl | rfl | rfl | rfl | rfl | rfl | rfl | rfl | rfl | rfl | rfl
  · refine lv_tableOut (tgt := 957) hx hb dL_law_33 o_33 (by decide) ?_
    refine W.widen (k := 600000) (n := 7302250) (Nat.le_of_ble_eq_true rfl) (Nat.le_of_ble_eq_true rfl) ?_
    exact law_end hL C0 hS (lv_sub hl [0, 3] rfl)
  · refine lv_tableIn (tgt := 132) (off := 99) hx hb dL_law_33 (by decide) (by decide) (by decide) (by decide) ?_
    exact lc_0 hL h6 C0 hN hK7 hP7 hD7 hS (lv_sub hl [0, 1, 2, 3] rfl)
  · refine lv_tableIn (tgt := 195) (off := 162) hx hb dL_law_33 (by decide) (by decide) (by decide) (by decide) ?_
    exact lc_1 hL h6 C0 hN hK7 hP7 hD7 hS (lv_sub hl [0, 1, 2, 3] rfl)
  · refine lv_tableIn (tgt := 248) (off := 215) hx hb dL_law_33 (by decide) (by decide) (by decide) (by decide) ?_
    exact lc_2 hL h6 C0 hN hK7 hP7 hD7 hS (lv_sub hl [0, 1, 2, 3] rfl)
  · refine lv_tableIn (tgt := 271) (off := 238) hx hb dL_law_33 (by decide) (by decide) (by decide) (by decide) ?_
    exact lc_3 hL h6 C0 hN hK7 hP7 hD7 hS (lv_sub hl [0, 1, 2, 3] rfl)
  · refine lv_tableIn (tgt := 314) (off := 281) hx hb dL_law_33 (by decide) (by decide) (by decide) (by decide) ?_
    exact lc_4 hL h6 C0 hN hK7 hP7 hD7 hS (lv_sub hl [0, 1, 2, 3] rfl)
  · refine lv_tableIn (tgt := 347) (off := 314) hx hb dL_law_33 (by decide) (by decide) (by decide) (by decide) ?_
    exact lc_5 hL h6 C0 hN hK7 hP7 hD7 hS (lv_sub hl [0, 1, 2, 3] rfl)
  · refine lv_tableIn (tgt := 380) (off := 347) hx hb dL_law_33 (by decide) (by decide) (by decide) (by decide) ?_
    exact lc_6 hL h6 C0 hN hK7 hP7 hD7 hS (lv_sub hl [0, 1, 2, 3] rfl)
  · refine lv_tableIn (tgt := 423) (off := 390) hx hb dL_law_33 (by decide) (by decide) (by decide) (by decide) ?_
    exact lc_7 hL h6 C0 hN hK7 hP7 hD7 hS (lv_sub hl [0, 1, 2, 3] rfl)
  · refine lv_tableIn (tgt := 446) (off := 413) hx hb dL_law_33 (by decide) (by decide) (by decide) (by decide) ?_
    exact lc_8 hL h6 C0 hN hK7 hP7 hD7 hS (lv_sub hl [0, 1, 2, 3] rfl)
  · refine lv_tableIn (tgt := 479) (off := 446) hx hb dL_law_33 (by decide) (by decide) (by decide) (by decide) ?_
    exact lc_9 hL h6 C0 hN hK7 hP7 hD7 hS (lv_sub hl [0, 1, 2, 3] rfl)
  · refine lv_tableIn (tgt := 523) (off := 490) hx hb dL_law_33 (by decide) (by decide) (by decide) (by decide) ?_
    exact lc_10 hL h6 C0 hN hK7 hP7 hD7 hS (lv_sub hl [0, 1, 2, 3] rfl)
  · refine lv_tableIn (tgt := 556) (off := 523) hx hb dL_law_33 (by decide) (by decide) (by decide) (by decide) ?_
    exact lc_11 hL h6 C0 hN hK7 hP7 hD7 hS (lv_sub hl [0, 1, 2, 3] rfl)
  · refine lv_tableIn (tgt := 610) (off := 577) hx hb dL_law_33 (by decide) (by decide) (by decide) (by decide) ?_
    exact lc_12 hL h6 C0 hN hK7 hP7 hD7 hS (lv_sub hl [0, 1, 2, 3] rfl)
  · refine lv_tableIn (tgt := 653) (off := 620) hx hb dL_law_33 (by decide) (by decide) (by decide) (by decide) ?_
    exact lc_13 hL h6 C0 hN hK7 hP7 hD7 hS (lv_sub hl [0, 1, 2, 3] rfl)
  · refine lv_tableIn (tgt := 716) (off := 683) hx hb dL_law_33 (by decide) (by decide) (by decide) (by decide) ?_
    exact lc_14 hL h6 C0 hN hK7 hP7 hD7 hS (lv_sub hl [0, 1, 2, 3] rfl)
  · refine lv_tableIn (tgt := 769) (off := 736) hx hb dL_law_33 (by decide) (by decide) (by decide) (by decide) ?_
    exact lc_15 hL h6 C0 hN hK7 hP7 hD7 hS (lv_sub hl [0, 1, 2, 3] rfl)
  · refine lv_tableIn (tgt := 802) (off := 769) hx hb dL_law_33 (by decide) (by decide) (by decide) (by decide) ?_
    exact lc_16 hL h6 C0 hN hK7 hP7 hD7 hS (lv_sub hl [0, 1, 2, 3] rfl)
  · refine lv_tableIn (tgt := 835) (off := 802) hx hb dL_law_33 (by decide) (by decide) (by decide) (by decide) ?_
    exact lc_17 hL h6 C0 hN hK7 hP7 hD7 hS (lv_sub hl [0, 1, 2, 3] rfl)
  · refine lv_tableIn (tgt := 878) (off := 845) hx hb dL_law_33 (by decide) (by decide) (by decide) (by decide) ?_
    exact lc_18 hL h6 C0 hN hK7 hP7 hD7 hS (lv_sub hl [0, 1, 2, 3] rfl)
  · refine lv_tableIn (tgt := 911) (off := 878) hx hb dL_law_33 (by decide) (by decide) (by decide) (by decide) ?_
    exact lc_19 hL h6 C0 hN hK7 hP7 hD7 hS (lv_sub hl [0, 1, 2, 3] rfl)
  · refine lv_tableIn (tgt := 934) (off := 901) hx hb dL_law_33 (by decide) (by decide) (by decide) (by decide) ?_
    exact lc_20 hL h6 C0 hN hK7 hP7 hD7 hS (lv_sub hl [0, 1, 2, 3] rfl)
