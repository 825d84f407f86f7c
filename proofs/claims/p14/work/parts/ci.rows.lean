def wk_X9_tryOneE : List Cond := .code yX9_tryOne cX9_tryOne 13 none :: (([.fieldLink RX9 121 "MeetingsAboveModel" "upper" "J", .fieldLink RX9 125 "MeetingsAboveModel" "lower" "J", .fieldLink RX9 128 "MeetingsAboveModel" "when" "I", .fieldLink RX9 131 "MeetingsAboveModel" "partUpper" "J", .fieldLink RX9 134 "MeetingsAboveModel" "partLower" "J"] : List Cond) ++ (wsX90 ++ ([])))
theorem in_X9_tryOneE_X9 : ∀ w ∈ wsX90, w ∈ wk_X9_tryOneE := fun _ h => List.mem_cons_of_mem _ (List.mem_append_right _ (List.mem_append_left _ h))
theorem gw_X9_tryOneE : AG wk_X9_tryOneE := AG_ca (AG_l (by decide +kernel)) (AG_app ag_X9 (AG_nil))
set_option maxHeartbeats 4000000 in
set_option maxRecDepth 100000 in
theorem c_X9_tryOneE (l : Launch) (dC : Nat → ClassId) (dI : Nat → Nat → Nat) (h0 : Nat) (a1 : Nat) (a2 : Nat) (a3 : Nat) (a4 : Nat) (a5 : Nat) (a6 : Nat) (a7 : Nat) (a8 : Nat) (a9 : Nat) (a10 : Nat) (a11 : Nat) (th : Int32) (ne : Int32) (wi : Int32) (dn : Int32) (nn : Int32) (la : Int32) (wh : Int32) (up : Int64) (lw : Int64) (pu : Int64) (pw : Int64) (b1 : Int64) (b2 : Int64) (p5 : Int32) (b3 : Int64) (b4 : Int64) (sz : Nat) (ha0 : 0 ≤ b1.toInt) (hb0 : 0 < b2.toInt) (hb1 : b2.toInt ≤ 1200000000) (hu0 : 0 ≤ up.toInt) (hl0 : 0 < lw.toInt) (hl1 : lw.toInt ≤ 1200000000) : Met l yX9_tryOne wk_X9_tryOneE ({ frames := 0, cells := 0, slots := 0, locals := 0 }) (va_Pc [.ref h0, .long b1, .long b2, .int p5, .long b3, .long b4] (fun U => U.heap.size = sz ∧ va_P (dC, dI) vwCl [(h0, .inr (9, [.int th, .ref a1, .ref a2, .ref a3, .ref a4, .ref a5, .int ne, .int wi, .int dn, .ref a6, .ref a7, .int nn, .ref a8, .int la, .ref a9, .ref a10, .long up, .long lw, .int wh, .long pu, .long pw, .ref a11]))] U.heap ∧ va_K (dC, dI) vwCl [] U ∧ va_D (fun _ => True) [(h0, .inr (9, [.int th, .ref a1, .ref a2, .ref a3, .ref a4, .ref a5, .int ne, .int wi, .int dn, .ref a6, .ref a7, .int nn, .ref a8, .int la, .ref a9, .ref a10, .long up, .long lw, .int wh, .long pu, .long pw, .ref a11]))])) (va_Qv (fun (_ : Unit) => True) (fun (_ : Unit) (t : State) => ∃ (up9 : Int64) (lw9 : Int64) (wh9 : Int32) (pu9 : Int64) (pw9 : Int64), va_P (dC, dI) vwCl [(h0, .inr (9, [.int th, .ref a1, .ref a2, .ref a3, .ref a4, .ref a5, .int ne, .int wi, .int dn, .ref a6, .ref a7, .int nn, .ref a8, .int la, .ref a9, .ref a10, .long up9, .long lw9, .int wh9, .long pu9, .long pw9, .ref a11]))] t.heap ∧ va_K (dC, dI) vwCl [] t ∧ va_D (va_A [(h0, .inr (9, [.int th, .ref a1, .ref a2, .ref a3, .ref a4, .ref a5, .int ne, .int wi, .int dn, .ref a6, .ref a7, .int nn, .ref a8, .int la, .ref a9, .ref a10, .long up, .long lw, .int wh, .long pu, .long pw, .ref a11]))] sz) [(h0, .inr (9, [.int th, .ref a1, .ref a2, .ref a3, .ref a4, .ref a5, .int ne, .int wi, .int dn, .ref a6, .ref a7, .int nn, .ref a8, .int la, .ref a9, .ref a10, .long up9, .long lw9, .int wh9, .long pu9, .long pw9, .ref a11]))] ∧ (((wh.toInt < 0 ∨ b1.toInt * lw.toInt < up.toInt * b2.toInt) ∧ up9 = b1 ∧ lw9 = b2 ∧ wh9 = p5 ∧ pu9 = b3 ∧ pw9 = b4) ∨ (¬ (wh.toInt < 0 ∨ b1.toInt * lw.toInt < up.toInt * b2.toInt) ∧ up9 = up ∧ lw9 = lw ∧ wh9 = wh ∧ pu9 = pu ∧ pw9 = pw))) (va_A [(h0, .inr (9, [.int th, .ref a1, .ref a2, .ref a3, .ref a4, .ref a5, .int ne, .int wi, .int dn, .ref a6, .ref a7, .int nn, .ref a8, .int la, .ref a9, .ref a10, .long up, .long lw, .int wh, .long pu, .long pw, .ref a11]))] sz)) 0 0 (va_A [(h0, .inr (9, [.int th, .ref a1, .ref a2, .ref a3, .ref a4, .ref a5, .int ne, .int wi, .int dn, .ref a6, .ref a7, .int nn, .ref a8, .int la, .ref a9, .ref a10, .long up, .long lw, .int wh, .long pu, .long pw, .ref a11]))] sz) := by
  refine Met.ofW (cc := cX9_tryOne) (maxL := 13) (ret := none) (by decide) rfl ?_
  intro p e s m args below meth c s₁ B hml hv
  obtain ⟨rfl, hsz, hP, hK, hD0⟩ := hv
  have hx := B.exec
  have hb := B.bytes
  have hr := B.returns
  have hts := atoms_spec (ws := wk_X9_tryOneE) B.pre
  have hown : s.vm.findClass RX9 = some m.cls := findClass_of_methodNamed B.named
  have hlocks := B.notSynchronized
  subst hsz
  have hD := hD0.self (sz := s.heap.size)
  generalize hAe : va_A [(h0, .inr (9, [.int th, .ref a1, .ref a2, .ref a3, .ref a4, .ref a5, .int ne, .int wi, .int dn, .ref a6, .ref a7, .int nn, .ref a8, .int la, .ref a9, .ref a10, .long up, .long lw, .int wh, .long pu, .long pw, .ref a11]))] s.heap.size = A at hD ⊢
  have hA : ∀ q : Nat, s.heap.size ≤ q → A q := fun q h => by rw [← hAe]; exact Or.inr h
  have hS : va_S A s.heap s.heap [] := va_S.rf
  have hP : va_P (dC, dI) vwCl [(h0, .inr (9, [.int th, .ref a1, .ref a2, .ref a3, .ref a4, .ref a5, .int ne, .int wi, .int dn, .ref a6, .ref a7, .int nn, .ref a8, .int la, .ref a9, .ref a10, .long up, .long lw, .int wh, .long pu, .long pw, .ref a11]))] s.heap := hP
  have hl := lv_entry ([.ref h0, .long b1, .long b2, .int p5, .long b3, .long b4]) (n := 13) (Nat.le_of_ble_eq_true rfl)
  rw [lg_entry_eq]
  generalize (lg_sl ([.ref h0, .long b1, .long b2, .int p5, .long b3, .long b4]) ++ List.replicate (13 - (lg_sl ([.ref h0, .long b1, .long b2, .int p5, .long b3, .long b4])).length) Slot.unset).toArray = ls at hl ⊢
  have hl : lv_has ls 13 [(0, .ref h0), (1, .long b1), (3, .long b2), (5, .int p5), (6, .long b3), (8, .long b4)] := hl
  have kl_0 : (0 : Int32).toInt = 0 := by decide
  have klL_0 : (0 : Int64).toInt = 0 := by decide
  have FR := fr_lt hu0 hl0 ha0 hb0
  have r1 := Int.emod_nonneg up.toInt (b := lw.toInt) (by omega)
  have r2 := Int.emod_lt_of_pos up.toInt hl0
  have r3 := Int.emod_nonneg b1.toInt (b := b2.toInt) (by omega)
  have r4 := Int.emod_lt_of_pos b1.toInt hb0
  have r5 := Int.ediv_nonneg ha0 (Int.le_of_lt hb0)
  have r6 := Int.ediv_le_self b2.toInt ha0
  have r7 := Int.ediv_nonneg hu0 (Int.le_of_lt hl0)
  have r8 := Int.ediv_le_self lw.toInt hu0
  have r9 := fb_rngL b1
  have r10 := fb_rngL up
  refine lv_lload_n hx hb dX9_tryOne_0 rfl (lv_at hl 1 rfl) ?_
  refine lv_lload_n hx hb dX9_tryOne_1 rfl (lv_at hl 2 rfl) ?_
  refine lv_ldiv hx hb dX9_tryOne_2 (fun h9 => by rw [h9, klL_0] at hb0; omega) ?_
  refine lv_topl (fun y_1 ey_1 => ?_)
  refine lv_aload_n hx hb dX9_tryOne_3 rfl (lv_at hl 0 rfl) ?_
  refine va_get (D := (dC, dI)) (ci := 9) (v := .long up) (C := RX9) (T := TX9) (N := 22) hx hb hts in_X9_tryOneE_X9 hown hK hP 0 rfl rfl 16 (by decide) (hts (.fieldLink RX9 121 "MeetingsAboveModel" "upper" "J") (by decide +kernel)) (fun _ h9 => h9) rfl dX9_tryOne_4 ?_
  refine lv_aload_n hx hb dX9_tryOne_7 rfl (lv_at hl 0 rfl) ?_
  refine va_get (D := (dC, dI)) (ci := 9) (v := .long lw) (C := RX9) (T := TX9) (N := 22) hx hb hts in_X9_tryOneE_X9 hown hK hP 0 rfl rfl 17 (by decide) (hts (.fieldLink RX9 125 "MeetingsAboveModel" "lower" "J") (by decide +kernel)) (fun _ h9 => h9) rfl dX9_tryOne_8 ?_
  refine lv_ldiv hx hb dX9_tryOne_11 (fun h9 => by rw [h9, klL_0] at hl0; omega) ?_
  refine lv_topl (fun y_2 ey_2 => ?_)
  have d1 : y_1.toInt = b1.toInt / b2.toInt := by rw [ey_1]; exact ldiv_I ha0 hb0
  have d2 : y_2.toInt = up.toInt / lw.toInt := by rw [ey_2]; exact ldiv_I hu0 hl0
  refine lv_lsub hx hb dX9_tryOne_12 ?_
  refine lv_topl (fun y_3 ey_3 => ?_)
  have ty_3 : y_3.toInt = y_1.toInt - y_2.toInt := by rw [ey_3]; have := fb_subL (x := y_1) (y := y_2) (by omega) (by omega); omega
  refine lv_lstore (lv' := [(10, .long y_3), (0, .ref h0), (1, .long b1), (3, .long b2), (5, .int p5), (6, .long b3), (8, .long b4)]) hx hb dX9_tryOne_13 hl (by decide) rfl (fun ls hl => ?_)
  refine lv_lload hx hb dX9_tryOne_15 (lv_at hl 0 rfl) ?_
  refine lv_lconst (v := 0) hx hb dX9_tryOne_17 (by decide) ?_
  refine W.lcmp hx hb dX9_tryOne_18 ?_
  refine lv_if_lt (tgt := 52) hx hb dX9_tryOne_19 (by decide) (fun c_19 => ?_) (fun c_19 => ?_)
  · have t_19 := (fa_lt64 _ _).mp ((lg_cmp_lt _ _).mp c_19)
    refine lv_iconst (v := 1) hx hb dX9_tryOne_52 (by decide) ?_
    refine lv_goto (tgt := 57) hx hb dX9_tryOne_53 (by decide) ?_
    refine lv_istore (lv' := [(12, .int 1), (10, .long y_3), (0, .ref h0), (1, .long b1), (3, .long b2), (5, .int p5), (6, .long b3), (8, .long b4)]) hx hb dX9_tryOne_57 hl (by decide) rfl (fun ls hl => ?_)
    refine lv_aload_n hx hb dX9_tryOne_59 rfl (lv_at hl 2 rfl) ?_
    refine va_get (D := (dC, dI)) (ci := 9) (v := .int wh) (C := RX9) (T := TX9) (N := 22) hx hb hts in_X9_tryOneE_X9 hown hK hP 0 rfl rfl 18 (by decide) (hts (.fieldLink RX9 128 "MeetingsAboveModel" "when" "I") (by decide +kernel)) (fun _ h9 => h9) rfl dX9_tryOne_60 ?_
    refine lv_if_lt (tgt := 71) hx hb dX9_tryOne_63 (by decide) (fun c_63 => ?_) (fun c_63 => ?_)
    · have t_63 := (fa_lt _ _).mp c_63
      refine lv_aload_n hx hb dX9_tryOne_71 rfl (lv_at hl 2 rfl) ?_
      refine lv_lload_n hx hb dX9_tryOne_72 rfl (lv_at hl 3 rfl) ?_
      refine va_put (D := (dC, dI)) (ci := 9) (v := .long b1) (ty := .long) (C := RX9) (T := TX9) (N := 22) hx hb hts in_X9_tryOneE_X9 tyX9 tyX9_ok nmX9 hown hK hP hD hS 0 rfl rfl 16 (by decide) (hts (.fieldLink RX9 121 "MeetingsAboveModel" "upper" "J") (by decide +kernel)) (fun _ h9 => h9) rfl (by decide +kernel) rfl rfl (Nat.le_of_ble_eq_true rfl) dX9_tryOne_73 (fun H locs hP hD hS => ?_)
      have hP : va_P (dC, dI) vwCl [(h0, .inr (9, [.int th, .ref a1, .ref a2, .ref a3, .ref a4, .ref a5, .int ne, .int wi, .int dn, .ref a6, .ref a7, .int nn, .ref a8, .int la, .ref a9, .ref a10, .long b1, .long lw, .int wh, .long pu, .long pw, .ref a11]))] H := hP
      have hD : va_D A [(h0, .inr (9, [.int th, .ref a1, .ref a2, .ref a3, .ref a4, .ref a5, .int ne, .int wi, .int dn, .ref a6, .ref a7, .int nn, .ref a8, .int la, .ref a9, .ref a10, .long b1, .long lw, .int wh, .long pu, .long pw, .ref a11]))] := hD
      refine lv_aload_n hx hb dX9_tryOne_76 rfl (lv_at hl 2 rfl) ?_
      refine lv_lload_n hx hb dX9_tryOne_77 rfl (lv_at hl 4 rfl) ?_
      refine va_put (D := (dC, dI)) (ci := 9) (v := .long b2) (ty := .long) (C := RX9) (T := TX9) (N := 22) hx hb hts in_X9_tryOneE_X9 tyX9 tyX9_ok nmX9 hown hK hP hD hS 0 rfl rfl 17 (by decide) (hts (.fieldLink RX9 125 "MeetingsAboveModel" "lower" "J") (by decide +kernel)) (fun _ h9 => h9) rfl (by decide +kernel) rfl rfl (Nat.le_of_ble_eq_true rfl) dX9_tryOne_78 (fun H locs hP hD hS => ?_)
      have hP : va_P (dC, dI) vwCl [(h0, .inr (9, [.int th, .ref a1, .ref a2, .ref a3, .ref a4, .ref a5, .int ne, .int wi, .int dn, .ref a6, .ref a7, .int nn, .ref a8, .int la, .ref a9, .ref a10, .long b1, .long b2, .int wh, .long pu, .long pw, .ref a11]))] H := hP
      have hD : va_D A [(h0, .inr (9, [.int th, .ref a1, .ref a2, .ref a3, .ref a4, .ref a5, .int ne, .int wi, .int dn, .ref a6, .ref a7, .int nn, .ref a8, .int la, .ref a9, .ref a10, .long b1, .long b2, .int wh, .long pu, .long pw, .ref a11]))] := hD
      refine lv_aload_n hx hb dX9_tryOne_81 rfl (lv_at hl 2 rfl) ?_
      refine lv_iload hx hb dX9_tryOne_82 (lv_at hl 5 rfl) ?_
      refine va_put (D := (dC, dI)) (ci := 9) (v := .int p5) (ty := .int) (C := RX9) (T := TX9) (N := 22) hx hb hts in_X9_tryOneE_X9 tyX9 tyX9_ok nmX9 hown hK hP hD hS 0 rfl rfl 18 (by decide) (hts (.fieldLink RX9 128 "MeetingsAboveModel" "when" "I") (by decide +kernel)) (fun _ h9 => h9) rfl (by decide +kernel) rfl rfl (Nat.le_of_ble_eq_true rfl) dX9_tryOne_84 (fun H locs hP hD hS => ?_)
      have hP : va_P (dC, dI) vwCl [(h0, .inr (9, [.int th, .ref a1, .ref a2, .ref a3, .ref a4, .ref a5, .int ne, .int wi, .int dn, .ref a6, .ref a7, .int nn, .ref a8, .int la, .ref a9, .ref a10, .long b1, .long b2, .int p5, .long pu, .long pw, .ref a11]))] H := hP
      have hD : va_D A [(h0, .inr (9, [.int th, .ref a1, .ref a2, .ref a3, .ref a4, .ref a5, .int ne, .int wi, .int dn, .ref a6, .ref a7, .int nn, .ref a8, .int la, .ref a9, .ref a10, .long b1, .long b2, .int p5, .long pu, .long pw, .ref a11]))] := hD
      refine lv_aload_n hx hb dX9_tryOne_87 rfl (lv_at hl 2 rfl) ?_
      refine lv_lload hx hb dX9_tryOne_88 (lv_at hl 6 rfl) ?_
      refine va_put (D := (dC, dI)) (ci := 9) (v := .long b3) (ty := .long) (C := RX9) (T := TX9) (N := 22) hx hb hts in_X9_tryOneE_X9 tyX9 tyX9_ok nmX9 hown hK hP hD hS 0 rfl rfl 19 (by decide) (hts (.fieldLink RX9 131 "MeetingsAboveModel" "partUpper" "J") (by decide +kernel)) (fun _ h9 => h9) rfl (by decide +kernel) rfl rfl (Nat.le_of_ble_eq_true rfl) dX9_tryOne_90 (fun H locs hP hD hS => ?_)
      have hP : va_P (dC, dI) vwCl [(h0, .inr (9, [.int th, .ref a1, .ref a2, .ref a3, .ref a4, .ref a5, .int ne, .int wi, .int dn, .ref a6, .ref a7, .int nn, .ref a8, .int la, .ref a9, .ref a10, .long b1, .long b2, .int p5, .long b3, .long pw, .ref a11]))] H := hP
      have hD : va_D A [(h0, .inr (9, [.int th, .ref a1, .ref a2, .ref a3, .ref a4, .ref a5, .int ne, .int wi, .int dn, .ref a6, .ref a7, .int nn, .ref a8, .int la, .ref a9, .ref a10, .long b1, .long b2, .int p5, .long b3, .long pw, .ref a11]))] := hD
      refine lv_aload_n hx hb dX9_tryOne_93 rfl (lv_at hl 2 rfl) ?_
      refine lv_lload hx hb dX9_tryOne_94 (lv_at hl 7 rfl) ?_
      refine va_put (D := (dC, dI)) (ci := 9) (v := .long b4) (ty := .long) (C := RX9) (T := TX9) (N := 22) hx hb hts in_X9_tryOneE_X9 tyX9 tyX9_ok nmX9 hown hK hP hD hS 0 rfl rfl 20 (by decide) (hts (.fieldLink RX9 134 "MeetingsAboveModel" "partLower" "J") (by decide +kernel)) (fun _ h9 => h9) rfl (by decide +kernel) rfl rfl (Nat.le_of_ble_eq_true rfl) dX9_tryOne_96 (fun H locs hP hD hS => ?_)
      have hP : va_P (dC, dI) vwCl [(h0, .inr (9, [.int th, .ref a1, .ref a2, .ref a3, .ref a4, .ref a5, .int ne, .int wi, .int dn, .ref a6, .ref a7, .int nn, .ref a8, .int la, .ref a9, .ref a10, .long b1, .long b2, .int p5, .long b3, .long b4, .ref a11]))] H := hP
      have hD : va_D A [(h0, .inr (9, [.int th, .ref a1, .ref a2, .ref a3, .ref a4, .ref a5, .int ne, .int wi, .int dn, .ref a6, .ref a7, .int nn, .ref a8, .int la, .ref a9, .ref a10, .long b1, .long b2, .int p5, .long b3, .long b4, .ref a11]))] := hD
      have hP9 := hP.sub (ws' := [(h0, .inr (9, [.int th, .ref a1, .ref a2, .ref a3, .ref a4, .ref a5, .int ne, .int wi, .int dn, .ref a6, .ref a7, .int nn, .ref a8, .int la, .ref a9, .ref a10, .long b1, .long b2, .int p5, .long b3, .long b4, .ref a11]))]) [0] rfl
      have hD9 := hD.sub (ws' := [(h0, .inr (9, [.int th, .ref a1, .ref a2, .ref a3, .ref a4, .ref a5, .int ne, .int wi, .int dn, .ref a6, .ref a7, .int nn, .ref a8, .int la, .ref a9, .ref a10, .long b1, .long b2, .int p5, .long b3, .long b4, .ref a11]))]) [0] (by decide) rfl
      have hK9 := hK.sub (tys' := []) [] rfl
      refine W.widen (k := 0) (n := 0) (by omega) (by omega) ?_
      exact W.vret hx hb hr (fun t ht hW => ⟨⟨(), rfl, trivial, b1, b2, p5, b3, b4, by rw [ht]; exact hP9, va_K.moved hW.alike hK9, hD9, (Or.inl ⟨by first | exact Or.inl (by omega) | exact Or.inr (FR.mp (by first | exact Or.inl (by omega) | exact Or.inr ⟨by omega, by omega⟩)), rfl, rfl, rfl, rfl, rfl⟩)⟩, hS.F ht⟩) hS.2.2 dX9_tryOne_99
    · have t_63 := mt (fa_lt _ _).mpr c_63
      refine lv_iload hx hb dX9_tryOne_66 (lv_at hl 0 rfl) ?_
      refine lv_if_eq (tgt := 99) hx hb dX9_tryOne_68 (by decide) (fun h9 => absurd h9 (by decide)) (fun _ => ?_)
      refine lv_aload_n hx hb dX9_tryOne_71 rfl (lv_at hl 2 rfl) ?_
      refine lv_lload_n hx hb dX9_tryOne_72 rfl (lv_at hl 3 rfl) ?_
      refine va_put (D := (dC, dI)) (ci := 9) (v := .long b1) (ty := .long) (C := RX9) (T := TX9) (N := 22) hx hb hts in_X9_tryOneE_X9 tyX9 tyX9_ok nmX9 hown hK hP hD hS 0 rfl rfl 16 (by decide) (hts (.fieldLink RX9 121 "MeetingsAboveModel" "upper" "J") (by decide +kernel)) (fun _ h9 => h9) rfl (by decide +kernel) rfl rfl (Nat.le_of_ble_eq_true rfl) dX9_tryOne_73 (fun H locs hP hD hS => ?_)
      have hP : va_P (dC, dI) vwCl [(h0, .inr (9, [.int th, .ref a1, .ref a2, .ref a3, .ref a4, .ref a5, .int ne, .int wi, .int dn, .ref a6, .ref a7, .int nn, .ref a8, .int la, .ref a9, .ref a10, .long b1, .long lw, .int wh, .long pu, .long pw, .ref a11]))] H := hP
      have hD : va_D A [(h0, .inr (9, [.int th, .ref a1, .ref a2, .ref a3, .ref a4, .ref a5, .int ne, .int wi, .int dn, .ref a6, .ref a7, .int nn, .ref a8, .int la, .ref a9, .ref a10, .long b1, .long lw, .int wh, .long pu, .long pw, .ref a11]))] := hD
      refine lv_aload_n hx hb dX9_tryOne_76 rfl (lv_at hl 2 rfl) ?_
      refine lv_lload_n hx hb dX9_tryOne_77 rfl (lv_at hl 4 rfl) ?_
      refine va_put (D := (dC, dI)) (ci := 9) (v := .long b2) (ty := .long) (C := RX9) (T := TX9) (N := 22) hx hb hts in_X9_tryOneE_X9 tyX9 tyX9_ok nmX9 hown hK hP hD hS 0 rfl rfl 17 (by decide) (hts (.fieldLink RX9 125 "MeetingsAboveModel" "lower" "J") (by decide +kernel)) (fun _ h9 => h9) rfl (by decide +kernel) rfl rfl (Nat.le_of_ble_eq_true rfl) dX9_tryOne_78 (fun H locs hP hD hS => ?_)
      have hP : va_P (dC, dI) vwCl [(h0, .inr (9, [.int th, .ref a1, .ref a2, .ref a3, .ref a4, .ref a5, .int ne, .int wi, .int dn, .ref a6, .ref a7, .int nn, .ref a8, .int la, .ref a9, .ref a10, .long b1, .long b2, .int wh, .long pu, .long pw, .ref a11]))] H := hP
      have hD : va_D A [(h0, .inr (9, [.int th, .ref a1, .ref a2, .ref a3, .ref a4, .ref a5, .int ne, .int wi, .int dn, .ref a6, .ref a7, .int nn, .ref a8, .int la, .ref a9, .ref a10, .long b1, .long b2, .int wh, .long pu, .long pw, .ref a11]))] := hD
      refine lv_aload_n hx hb dX9_tryOne_81 rfl (lv_at hl 2 rfl) ?_
      refine lv_iload hx hb dX9_tryOne_82 (lv_at hl 5 rfl) ?_
      refine va_put (D := (dC, dI)) (ci := 9) (v := .int p5) (ty := .int) (C := RX9) (T := TX9) (N := 22) hx hb hts in_X9_tryOneE_X9 tyX9 tyX9_ok nmX9 hown hK hP hD hS 0 rfl rfl 18 (by decide) (hts (.fieldLink RX9 128 "MeetingsAboveModel" "when" "I") (by decide +kernel)) (fun _ h9 => h9) rfl (by decide +kernel) rfl rfl (Nat.le_of_ble_eq_true rfl) dX9_tryOne_84 (fun H locs hP hD hS => ?_)
      have hP : va_P (dC, dI) vwCl [(h0, .inr (9, [.int th, .ref a1, .ref a2, .ref a3, .ref a4, .ref a5, .int ne, .int wi, .int dn, .ref a6, .ref a7, .int nn, .ref a8, .int la, .ref a9, .ref a10, .long b1, .long b2, .int p5, .long pu, .long pw, .ref a11]))] H := hP
      have hD : va_D A [(h0, .inr (9, [.int th, .ref a1, .ref a2, .ref a3, .ref a4, .ref a5, .int ne, .int wi, .int dn, .ref a6, .ref a7, .int nn, .ref a8, .int la, .ref a9, .ref a10, .long b1, .long b2, .int p5, .long pu, .long pw, .ref a11]))] := hD
      refine lv_aload_n hx hb dX9_tryOne_87 rfl (lv_at hl 2 rfl) ?_
      refine lv_lload hx hb dX9_tryOne_88 (lv_at hl 6 rfl) ?_
      refine va_put (D := (dC, dI)) (ci := 9) (v := .long b3) (ty := .long) (C := RX9) (T := TX9) (N := 22) hx hb hts in_X9_tryOneE_X9 tyX9 tyX9_ok nmX9 hown hK hP hD hS 0 rfl rfl 19 (by decide) (hts (.fieldLink RX9 131 "MeetingsAboveModel" "partUpper" "J") (by decide +kernel)) (fun _ h9 => h9) rfl (by decide +kernel) rfl rfl (Nat.le_of_ble_eq_true rfl) dX9_tryOne_90 (fun H locs hP hD hS => ?_)
      have hP : va_P (dC, dI) vwCl [(h0, .inr (9, [.int th, .ref a1, .ref a2, .ref a3, .ref a4, .ref a5, .int ne, .int wi, .int dn, .ref a6, .ref a7, .int nn, .ref a8, .int la, .ref a9, .ref a10, .long b1, .long b2, .int p5, .long b3, .long pw, .ref a11]))] H := hP
      have hD : va_D A [(h0, .inr (9, [.int th, .ref a1, .ref a2, .ref a3, .ref a4, .ref a5, .int ne, .int wi, .int dn, .ref a6, .ref a7, .int nn, .ref a8, .int la, .ref a9, .ref a10, .long b1, .long b2, .int p5, .long b3, .long pw, .ref a11]))] := hD
      refine lv_aload_n hx hb dX9_tryOne_93 rfl (lv_at hl 2 rfl) ?_
      refine lv_lload hx hb dX9_tryOne_94 (lv_at hl 7 rfl) ?_
      refine va_put (D := (dC, dI)) (ci := 9) (v := .long b4) (ty := .long) (C := RX9) (T := TX9) (N := 22) hx hb hts in_X9_tryOneE_X9 tyX9 tyX9_ok nmX9 hown hK hP hD hS 0 rfl rfl 20 (by decide) (hts (.fieldLink RX9 134 "MeetingsAboveModel" "partLower" "J") (by decide +kernel)) (fun _ h9 => h9) rfl (by decide +kernel) rfl rfl (Nat.le_of_ble_eq_true rfl) dX9_tryOne_96 (fun H locs hP hD hS => ?_)
      have hP : va_P (dC, dI) vwCl [(h0, .inr (9, [.int th, .ref a1, .ref a2, .ref a3, .ref a4, .ref a5, .int ne, .int wi, .int dn, .ref a6, .ref a7, .int nn, .ref a8, .int la, .ref a9, .ref a10, .long b1, .long b2, .int p5, .long b3, .long b4, .ref a11]))] H := hP
      have hD : va_D A [(h0, .inr (9, [.int th, .ref a1, .ref a2, .ref a3, .ref a4, .ref a5, .int ne, .int wi, .int dn, .ref a6, .ref a7, .int nn, .ref a8, .int la, .ref a9, .ref a10, .long b1, .long b2, .int p5, .long b3, .long b4, .ref a11]))] := hD
      have hP9 := hP.sub (ws' := [(h0, .inr (9, [.int th, .ref a1, .ref a2, .ref a3, .ref a4, .ref a5, .int ne, .int wi, .int dn, .ref a6, .ref a7, .int nn, .ref a8, .int la, .ref a9, .ref a10, .long b1, .long b2, .int p5, .long b3, .long b4, .ref a11]))]) [0] rfl
      have hD9 := hD.sub (ws' := [(h0, .inr (9, [.int th, .ref a1, .ref a2, .ref a3, .ref a4, .ref a5, .int ne, .int wi, .int dn, .ref a6, .ref a7, .int nn, .ref a8, .int la, .ref a9, .ref a10, .long b1, .long b2, .int p5, .long b3, .long b4, .ref a11]))]) [0] (by decide) rfl
      have hK9 := hK.sub (tys' := []) [] rfl
      refine W.widen (k := 0) (n := 0) (by omega) (by omega) ?_
      exact W.vret hx hb hr (fun t ht hW => ⟨⟨(), rfl, trivial, b1, b2, p5, b3, b4, by rw [ht]; exact hP9, va_K.moved hW.alike hK9, hD9, (Or.inl ⟨by first | exact Or.inl (by omega) | exact Or.inr (FR.mp (by first | exact Or.inl (by omega) | exact Or.inr ⟨by omega, by omega⟩)), rfl, rfl, rfl, rfl, rfl⟩)⟩, hS.F ht⟩) hS.2.2 dX9_tryOne_99
  · have t_19 := mt (fa_lt64 _ _).mpr (mt (lg_cmp_lt _ _).mpr c_19)
    refine lv_lload hx hb dX9_tryOne_22 (lv_at hl 0 rfl) ?_
    refine lv_lconst (v := 0) hx hb dX9_tryOne_24 (by decide) ?_
    refine W.lcmp hx hb dX9_tryOne_25 ?_
    refine lv_if_ne (tgt := 56) hx hb dX9_tryOne_26 (by decide) (fun c_26 => ?_) (fun c_26 => ?_)
    · have t_26 := mt (fa_eq64 _ _).mpr (mt (lg_cmp_eq _ _).mpr c_26)
      refine lv_iconst (v := 0) hx hb dX9_tryOne_56 (by decide) ?_
      refine lv_istore (lv' := [(12, .int 0), (10, .long y_3), (0, .ref h0), (1, .long b1), (3, .long b2), (5, .int p5), (6, .long b3), (8, .long b4)]) hx hb dX9_tryOne_57 hl (by decide) rfl (fun ls hl => ?_)
      refine lv_aload_n hx hb dX9_tryOne_59 rfl (lv_at hl 2 rfl) ?_
      refine va_get (D := (dC, dI)) (ci := 9) (v := .int wh) (C := RX9) (T := TX9) (N := 22) hx hb hts in_X9_tryOneE_X9 hown hK hP 0 rfl rfl 18 (by decide) (hts (.fieldLink RX9 128 "MeetingsAboveModel" "when" "I") (by decide +kernel)) (fun _ h9 => h9) rfl dX9_tryOne_60 ?_
      refine lv_if_lt (tgt := 71) hx hb dX9_tryOne_63 (by decide) (fun c_63 => ?_) (fun c_63 => ?_)
      · have t_63 := (fa_lt _ _).mp c_63
        refine lv_aload_n hx hb dX9_tryOne_71 rfl (lv_at hl 2 rfl) ?_
        refine lv_lload_n hx hb dX9_tryOne_72 rfl (lv_at hl 3 rfl) ?_
        refine va_put (D := (dC, dI)) (ci := 9) (v := .long b1) (ty := .long) (C := RX9) (T := TX9) (N := 22) hx hb hts in_X9_tryOneE_X9 tyX9 tyX9_ok nmX9 hown hK hP hD hS 0 rfl rfl 16 (by decide) (hts (.fieldLink RX9 121 "MeetingsAboveModel" "upper" "J") (by decide +kernel)) (fun _ h9 => h9) rfl (by decide +kernel) rfl rfl (Nat.le_of_ble_eq_true rfl) dX9_tryOne_73 (fun H locs hP hD hS => ?_)
        have hP : va_P (dC, dI) vwCl [(h0, .inr (9, [.int th, .ref a1, .ref a2, .ref a3, .ref a4, .ref a5, .int ne, .int wi, .int dn, .ref a6, .ref a7, .int nn, .ref a8, .int la, .ref a9, .ref a10, .long b1, .long lw, .int wh, .long pu, .long pw, .ref a11]))] H := hP
        have hD : va_D A [(h0, .inr (9, [.int th, .ref a1, .ref a2, .ref a3, .ref a4, .ref a5, .int ne, .int wi, .int dn, .ref a6, .ref a7, .int nn, .ref a8, .int la, .ref a9, .ref a10, .long b1, .long lw, .int wh, .long pu, .long pw, .ref a11]))] := hD
        refine lv_aload_n hx hb dX9_tryOne_76 rfl (lv_at hl 2 rfl) ?_
        refine lv_lload_n hx hb dX9_tryOne_77 rfl (lv_at hl 4 rfl) ?_
        refine va_put (D := (dC, dI)) (ci := 9) (v := .long b2) (ty := .long) (C := RX9) (T := TX9) (N := 22) hx hb hts in_X9_tryOneE_X9 tyX9 tyX9_ok nmX9 hown hK hP hD hS 0 rfl rfl 17 (by decide) (hts (.fieldLink RX9 125 "MeetingsAboveModel" "lower" "J") (by decide +kernel)) (fun _ h9 => h9) rfl (by decide +kernel) rfl rfl (Nat.le_of_ble_eq_true rfl) dX9_tryOne_78 (fun H locs hP hD hS => ?_)
        have hP : va_P (dC, dI) vwCl [(h0, .inr (9, [.int th, .ref a1, .ref a2, .ref a3, .ref a4, .ref a5, .int ne, .int wi, .int dn, .ref a6, .ref a7, .int nn, .ref a8, .int la, .ref a9, .ref a10, .long b1, .long b2, .int wh, .long pu, .long pw, .ref a11]))] H := hP
        have hD : va_D A [(h0, .inr (9, [.int th, .ref a1, .ref a2, .ref a3, .ref a4, .ref a5, .int ne, .int wi, .int dn, .ref a6, .ref a7, .int nn, .ref a8, .int la, .ref a9, .ref a10, .long b1, .long b2, .int wh, .long pu, .long pw, .ref a11]))] := hD
        refine lv_aload_n hx hb dX9_tryOne_81 rfl (lv_at hl 2 rfl) ?_
        refine lv_iload hx hb dX9_tryOne_82 (lv_at hl 5 rfl) ?_
        refine va_put (D := (dC, dI)) (ci := 9) (v := .int p5) (ty := .int) (C := RX9) (T := TX9) (N := 22) hx hb hts in_X9_tryOneE_X9 tyX9 tyX9_ok nmX9 hown hK hP hD hS 0 rfl rfl 18 (by decide) (hts (.fieldLink RX9 128 "MeetingsAboveModel" "when" "I") (by decide +kernel)) (fun _ h9 => h9) rfl (by decide +kernel) rfl rfl (Nat.le_of_ble_eq_true rfl) dX9_tryOne_84 (fun H locs hP hD hS => ?_)
        have hP : va_P (dC, dI) vwCl [(h0, .inr (9, [.int th, .ref a1, .ref a2, .ref a3, .ref a4, .ref a5, .int ne, .int wi, .int dn, .ref a6, .ref a7, .int nn, .ref a8, .int la, .ref a9, .ref a10, .long b1, .long b2, .int p5, .long pu, .long pw, .ref a11]))] H := hP
        have hD : va_D A [(h0, .inr (9, [.int th, .ref a1, .ref a2, .ref a3, .ref a4, .ref a5, .int ne, .int wi, .int dn, .ref a6, .ref a7, .int nn, .ref a8, .int la, .ref a9, .ref a10, .long b1, .long b2, .int p5, .long pu, .long pw, .ref a11]))] := hD
        refine lv_aload_n hx hb dX9_tryOne_87 rfl (lv_at hl 2 rfl) ?_
        refine lv_lload hx hb dX9_tryOne_88 (lv_at hl 6 rfl) ?_
        refine va_put (D := (dC, dI)) (ci := 9) (v := .long b3) (ty := .long) (C := RX9) (T := TX9) (N := 22) hx hb hts in_X9_tryOneE_X9 tyX9 tyX9_ok nmX9 hown hK hP hD hS 0 rfl rfl 19 (by decide) (hts (.fieldLink RX9 131 "MeetingsAboveModel" "partUpper" "J") (by decide +kernel)) (fun _ h9 => h9) rfl (by decide +kernel) rfl rfl (Nat.le_of_ble_eq_true rfl) dX9_tryOne_90 (fun H locs hP hD hS => ?_)
        have hP : va_P (dC, dI) vwCl [(h0, .inr (9, [.int th, .ref a1, .ref a2, .ref a3, .ref a4, .ref a5, .int ne, .int wi, .int dn, .ref a6, .ref a7, .int nn, .ref a8, .int la, .ref a9, .ref a10, .long b1, .long b2, .int p5, .long b3, .long pw, .ref a11]))] H := hP
        have hD : va_D A [(h0, .inr (9, [.int th, .ref a1, .ref a2, .ref a3, .ref a4, .ref a5, .int ne, .int wi, .int dn, .ref a6, .ref a7, .int nn, .ref a8, .int la, .ref a9, .ref a10, .long b1, .long b2, .int p5, .long b3, .long pw, .ref a11]))] := hD
        refine lv_aload_n hx hb dX9_tryOne_93 rfl (lv_at hl 2 rfl) ?_
        refine lv_lload hx hb dX9_tryOne_94 (lv_at hl 7 rfl) ?_
        refine va_put (D := (dC, dI)) (ci := 9) (v := .long b4) (ty := .long) (C := RX9) (T := TX9) (N := 22) hx hb hts in_X9_tryOneE_X9 tyX9 tyX9_ok nmX9 hown hK hP hD hS 0 rfl rfl 20 (by decide) (hts (.fieldLink RX9 134 "MeetingsAboveModel" "partLower" "J") (by decide +kernel)) (fun _ h9 => h9) rfl (by decide +kernel) rfl rfl (Nat.le_of_ble_eq_true rfl) dX9_tryOne_96 (fun H locs hP hD hS => ?_)
        have hP : va_P (dC, dI) vwCl [(h0, .inr (9, [.int th, .ref a1, .ref a2, .ref a3, .ref a4, .ref a5, .int ne, .int wi, .int dn, .ref a6, .ref a7, .int nn, .ref a8, .int la, .ref a9, .ref a10, .long b1, .long b2, .int p5, .long b3, .long b4, .ref a11]))] H := hP
        have hD : va_D A [(h0, .inr (9, [.int th, .ref a1, .ref a2, .ref a3, .ref a4, .ref a5, .int ne, .int wi, .int dn, .ref a6, .ref a7, .int nn, .ref a8, .int la, .ref a9, .ref a10, .long b1, .long b2, .int p5, .long b3, .long b4, .ref a11]))] := hD
        have hP9 := hP.sub (ws' := [(h0, .inr (9, [.int th, .ref a1, .ref a2, .ref a3, .ref a4, .ref a5, .int ne, .int wi, .int dn, .ref a6, .ref a7, .int nn, .ref a8, .int la, .ref a9, .ref a10, .long b1, .long b2, .int p5, .long b3, .long b4, .ref a11]))]) [0] rfl
        have hD9 := hD.sub (ws' := [(h0, .inr (9, [.int th, .ref a1, .ref a2, .ref a3, .ref a4, .ref a5, .int ne, .int wi, .int dn, .ref a6, .ref a7, .int nn, .ref a8, .int la, .ref a9, .ref a10, .long b1, .long b2, .int p5, .long b3, .long b4, .ref a11]))]) [0] (by decide) rfl
        have hK9 := hK.sub (tys' := []) [] rfl
        refine W.widen (k := 0) (n := 0) (by omega) (by omega) ?_
        exact W.vret hx hb hr (fun t ht hW => ⟨⟨(), rfl, trivial, b1, b2, p5, b3, b4, by rw [ht]; exact hP9, va_K.moved hW.alike hK9, hD9, (Or.inl ⟨by first | exact Or.inl (by omega) | exact Or.inr (FR.mp (by first | exact Or.inl (by omega) | exact Or.inr ⟨by omega, by omega⟩)), rfl, rfl, rfl, rfl, rfl⟩)⟩, hS.F ht⟩) hS.2.2 dX9_tryOne_99
      · have t_63 := mt (fa_lt _ _).mpr c_63
        refine lv_iload hx hb dX9_tryOne_66 (lv_at hl 0 rfl) ?_
        refine lv_if_eq (tgt := 99) hx hb dX9_tryOne_68 (by decide) (fun _ => ?_) (fun h9 => absurd h9 (by decide))
        have hP9 := hP.sub (ws' := [(h0, .inr (9, [.int th, .ref a1, .ref a2, .ref a3, .ref a4, .ref a5, .int ne, .int wi, .int dn, .ref a6, .ref a7, .int nn, .ref a8, .int la, .ref a9, .ref a10, .long up, .long lw, .int wh, .long pu, .long pw, .ref a11]))]) [0] rfl
        have hD9 := hD.sub (ws' := [(h0, .inr (9, [.int th, .ref a1, .ref a2, .ref a3, .ref a4, .ref a5, .int ne, .int wi, .int dn, .ref a6, .ref a7, .int nn, .ref a8, .int la, .ref a9, .ref a10, .long up, .long lw, .int wh, .long pu, .long pw, .ref a11]))]) [0] (by decide) rfl
        have hK9 := hK.sub (tys' := []) [] rfl
        refine W.widen (k := 0) (n := 0) (by omega) (by omega) ?_
        exact W.vret hx hb hr (fun t ht hW => ⟨⟨(), rfl, trivial, up, lw, wh, pu, pw, by rw [ht]; exact hP9, va_K.moved hW.alike hK9, hD9, (Or.inr ⟨fun z9 => by rcases z9 with z | z <;> first | omega | (rcases FR.mpr z with y9 | y9 <;> omega), rfl, rfl, rfl, rfl, rfl⟩)⟩, hS.F ht⟩) hS.2.2 dX9_tryOne_99
    · have t_26 := (fa_eq64 _ _).mp ((lg_cmp_eq _ _).mp c_26)
      refine lv_lload_n hx hb dX9_tryOne_29 rfl (lv_at hl 2 rfl) ?_
      refine lv_lload_n hx hb dX9_tryOne_30 rfl (lv_at hl 3 rfl) ?_
      refine lv_lrem hx hb dX9_tryOne_31 (fun h9 => by rw [h9, klL_0] at hb0; omega) ?_
      refine lv_topl (fun y_4 ey_4 => ?_)
      refine lv_aload_n hx hb dX9_tryOne_32 rfl (lv_at hl 1 rfl) ?_
      refine va_get (D := (dC, dI)) (ci := 9) (v := .long lw) (C := RX9) (T := TX9) (N := 22) hx hb hts in_X9_tryOneE_X9 hown hK hP 0 rfl rfl 17 (by decide) (hts (.fieldLink RX9 125 "MeetingsAboveModel" "lower" "J") (by decide +kernel)) (fun _ h9 => h9) rfl dX9_tryOne_33 ?_
      refine lv_lmul hx hb dX9_tryOne_36 ?_
      refine lv_topl (fun y_5 ey_5 => ?_)
      refine lv_aload_n hx hb dX9_tryOne_37 rfl (lv_at hl 1 rfl) ?_
      refine va_get (D := (dC, dI)) (ci := 9) (v := .long up) (C := RX9) (T := TX9) (N := 22) hx hb hts in_X9_tryOneE_X9 hown hK hP 0 rfl rfl 16 (by decide) (hts (.fieldLink RX9 121 "MeetingsAboveModel" "upper" "J") (by decide +kernel)) (fun _ h9 => h9) rfl dX9_tryOne_38 ?_
      refine lv_aload_n hx hb dX9_tryOne_41 rfl (lv_at hl 1 rfl) ?_
      refine va_get (D := (dC, dI)) (ci := 9) (v := .long lw) (C := RX9) (T := TX9) (N := 22) hx hb hts in_X9_tryOneE_X9 hown hK hP 0 rfl rfl 17 (by decide) (hts (.fieldLink RX9 125 "MeetingsAboveModel" "lower" "J") (by decide +kernel)) (fun _ h9 => h9) rfl dX9_tryOne_42 ?_
      refine lv_lrem hx hb dX9_tryOne_45 (fun h9 => by rw [h9, klL_0] at hl0; omega) ?_
      refine lv_topl (fun y_6 ey_6 => ?_)
      refine lv_lload_n hx hb dX9_tryOne_46 rfl (lv_at hl 3 rfl) ?_
      refine lv_lmul hx hb dX9_tryOne_47 ?_
      refine lv_topl (fun y_7 ey_7 => ?_)
      have q1 : y_4.toInt = b1.toInt % b2.toInt := by rw [ey_4]; exact lrem_I ha0 hb0
      have q2 : y_6.toInt = up.toInt % lw.toInt := by rw [ey_6]; exact lrem_I hu0 hl0
      have q3 := lm_ab 1200000000 1200000000 ey_5 (by omega) (by omega) (by omega) (by omega) (by decide)
      have q4 := lm_ab 1200000000 1200000000 ey_7 (by omega) (by omega) (by omega) (by omega) (by decide)
      rw [q1] at q3
      rw [q2] at q4
      refine W.lcmp hx hb dX9_tryOne_48 ?_
      refine lv_if_ge (tgt := 56) hx hb dX9_tryOne_49 (by decide) (fun c_49 => ?_) (fun c_49 => ?_)
      · have t_49 := (fa_le64 _ _).mp ((lg_cmp_ge _ _).mp c_49)
        refine lv_iconst (v := 0) hx hb dX9_tryOne_56 (by decide) ?_
        refine lv_istore (lv' := [(12, .int 0), (10, .long y_3), (0, .ref h0), (1, .long b1), (3, .long b2), (5, .int p5), (6, .long b3), (8, .long b4)]) hx hb dX9_tryOne_57 hl (by decide) rfl (fun ls hl => ?_)
        refine lv_aload_n hx hb dX9_tryOne_59 rfl (lv_at hl 2 rfl) ?_
        refine va_get (D := (dC, dI)) (ci := 9) (v := .int wh) (C := RX9) (T := TX9) (N := 22) hx hb hts in_X9_tryOneE_X9 hown hK hP 0 rfl rfl 18 (by decide) (hts (.fieldLink RX9 128 "MeetingsAboveModel" "when" "I") (by decide +kernel)) (fun _ h9 => h9) rfl dX9_tryOne_60 ?_
        refine lv_if_lt (tgt := 71) hx hb dX9_tryOne_63 (by decide) (fun c_63 => ?_) (fun c_63 => ?_)
        · have t_63 := (fa_lt _ _).mp c_63
          refine lv_aload_n hx hb dX9_tryOne_71 rfl (lv_at hl 2 rfl) ?_
          refine lv_lload_n hx hb dX9_tryOne_72 rfl (lv_at hl 3 rfl) ?_
          refine va_put (D := (dC, dI)) (ci := 9) (v := .long b1) (ty := .long) (C := RX9) (T := TX9) (N := 22) hx hb hts in_X9_tryOneE_X9 tyX9 tyX9_ok nmX9 hown hK hP hD hS 0 rfl rfl 16 (by decide) (hts (.fieldLink RX9 121 "MeetingsAboveModel" "upper" "J") (by decide +kernel)) (fun _ h9 => h9) rfl (by decide +kernel) rfl rfl (Nat.le_of_ble_eq_true rfl) dX9_tryOne_73 (fun H locs hP hD hS => ?_)
          have hP : va_P (dC, dI) vwCl [(h0, .inr (9, [.int th, .ref a1, .ref a2, .ref a3, .ref a4, .ref a5, .int ne, .int wi, .int dn, .ref a6, .ref a7, .int nn, .ref a8, .int la, .ref a9, .ref a10, .long b1, .long lw, .int wh, .long pu, .long pw, .ref a11]))] H := hP
          have hD : va_D A [(h0, .inr (9, [.int th, .ref a1, .ref a2, .ref a3, .ref a4, .ref a5, .int ne, .int wi, .int dn, .ref a6, .ref a7, .int nn, .ref a8, .int la, .ref a9, .ref a10, .long b1, .long lw, .int wh, .long pu, .long pw, .ref a11]))] := hD
          refine lv_aload_n hx hb dX9_tryOne_76 rfl (lv_at hl 2 rfl) ?_
          refine lv_lload_n hx hb dX9_tryOne_77 rfl (lv_at hl 4 rfl) ?_
          refine va_put (D := (dC, dI)) (ci := 9) (v := .long b2) (ty := .long) (C := RX9) (T := TX9) (N := 22) hx hb hts in_X9_tryOneE_X9 tyX9 tyX9_ok nmX9 hown hK hP hD hS 0 rfl rfl 17 (by decide) (hts (.fieldLink RX9 125 "MeetingsAboveModel" "lower" "J") (by decide +kernel)) (fun _ h9 => h9) rfl (by decide +kernel) rfl rfl (Nat.le_of_ble_eq_true rfl) dX9_tryOne_78 (fun H locs hP hD hS => ?_)
          have hP : va_P (dC, dI) vwCl [(h0, .inr (9, [.int th, .ref a1, .ref a2, .ref a3, .ref a4, .ref a5, .int ne, .int wi, .int dn, .ref a6, .ref a7, .int nn, .ref a8, .int la, .ref a9, .ref a10, .long b1, .long b2, .int wh, .long pu, .long pw, .ref a11]))] H := hP
          have hD : va_D A [(h0, .inr (9, [.int th, .ref a1, .ref a2, .ref a3, .ref a4, .ref a5, .int ne, .int wi, .int dn, .ref a6, .ref a7, .int nn, .ref a8, .int la, .ref a9, .ref a10, .long b1, .long b2, .int wh, .long pu, .long pw, .ref a11]))] := hD
          refine lv_aload_n hx hb dX9_tryOne_81 rfl (lv_at hl 2 rfl) ?_
          refine lv_iload hx hb dX9_tryOne_82 (lv_at hl 5 rfl) ?_
          refine va_put (D := (dC, dI)) (ci := 9) (v := .int p5) (ty := .int) (C := RX9) (T := TX9) (N := 22) hx hb hts in_X9_tryOneE_X9 tyX9 tyX9_ok nmX9 hown hK hP hD hS 0 rfl rfl 18 (by decide) (hts (.fieldLink RX9 128 "MeetingsAboveModel" "when" "I") (by decide +kernel)) (fun _ h9 => h9) rfl (by decide +kernel) rfl rfl (Nat.le_of_ble_eq_true rfl) dX9_tryOne_84 (fun H locs hP hD hS => ?_)
          have hP : va_P (dC, dI) vwCl [(h0, .inr (9, [.int th, .ref a1, .ref a2, .ref a3, .ref a4, .ref a5, .int ne, .int wi, .int dn, .ref a6, .ref a7, .int nn, .ref a8, .int la, .ref a9, .ref a10, .long b1, .long b2, .int p5, .long pu, .long pw, .ref a11]))] H := hP
          have hD : va_D A [(h0, .inr (9, [.int th, .ref a1, .ref a2, .ref a3, .ref a4, .ref a5, .int ne, .int wi, .int dn, .ref a6, .ref a7, .int nn, .ref a8, .int la, .ref a9, .ref a10, .long b1, .long b2, .int p5, .long pu, .long pw, .ref a11]))] := hD
          refine lv_aload_n hx hb dX9_tryOne_87 rfl (lv_at hl 2 rfl) ?_
          refine lv_lload hx hb dX9_tryOne_88 (lv_at hl 6 rfl) ?_
          refine va_put (D := (dC, dI)) (ci := 9) (v := .long b3) (ty := .long) (C := RX9) (T := TX9) (N := 22) hx hb hts in_X9_tryOneE_X9 tyX9 tyX9_ok nmX9 hown hK hP hD hS 0 rfl rfl 19 (by decide) (hts (.fieldLink RX9 131 "MeetingsAboveModel" "partUpper" "J") (by decide +kernel)) (fun _ h9 => h9) rfl (by decide +kernel) rfl rfl (Nat.le_of_ble_eq_true rfl) dX9_tryOne_90 (fun H locs hP hD hS => ?_)
          have hP : va_P (dC, dI) vwCl [(h0, .inr (9, [.int th, .ref a1, .ref a2, .ref a3, .ref a4, .ref a5, .int ne, .int wi, .int dn, .ref a6, .ref a7, .int nn, .ref a8, .int la, .ref a9, .ref a10, .long b1, .long b2, .int p5, .long b3, .long pw, .ref a11]))] H := hP
          have hD : va_D A [(h0, .inr (9, [.int th, .ref a1, .ref a2, .ref a3, .ref a4, .ref a5, .int ne, .int wi, .int dn, .ref a6, .ref a7, .int nn, .ref a8, .int la, .ref a9, .ref a10, .long b1, .long b2, .int p5, .long b3, .long pw, .ref a11]))] := hD
          refine lv_aload_n hx hb dX9_tryOne_93 rfl (lv_at hl 2 rfl) ?_
          refine lv_lload hx hb dX9_tryOne_94 (lv_at hl 7 rfl) ?_
          refine va_put (D := (dC, dI)) (ci := 9) (v := .long b4) (ty := .long) (C := RX9) (T := TX9) (N := 22) hx hb hts in_X9_tryOneE_X9 tyX9 tyX9_ok nmX9 hown hK hP hD hS 0 rfl rfl 20 (by decide) (hts (.fieldLink RX9 134 "MeetingsAboveModel" "partLower" "J") (by decide +kernel)) (fun _ h9 => h9) rfl (by decide +kernel) rfl rfl (Nat.le_of_ble_eq_true rfl) dX9_tryOne_96 (fun H locs hP hD hS => ?_)
          have hP : va_P (dC, dI) vwCl [(h0, .inr (9, [.int th, .ref a1, .ref a2, .ref a3, .ref a4, .ref a5, .int ne, .int wi, .int dn, .ref a6, .ref a7, .int nn, .ref a8, .int la, .ref a9, .ref a10, .long b1, .long b2, .int p5, .long b3, .long b4, .ref a11]))] H := hP
          have hD : va_D A [(h0, .inr (9, [.int th, .ref a1, .ref a2, .ref a3, .ref a4, .ref a5, .int ne, .int wi, .int dn, .ref a6, .ref a7, .int nn, .ref a8, .int la, .ref a9, .ref a10, .long b1, .long b2, .int p5, .long b3, .long b4, .ref a11]))] := hD
          have hP9 := hP.sub (ws' := [(h0, .inr (9, [.int th, .ref a1, .ref a2, .ref a3, .ref a4, .ref a5, .int ne, .int wi, .int dn, .ref a6, .ref a7, .int nn, .ref a8, .int la, .ref a9, .ref a10, .long b1, .long b2, .int p5, .long b3, .long b4, .ref a11]))]) [0] rfl
          have hD9 := hD.sub (ws' := [(h0, .inr (9, [.int th, .ref a1, .ref a2, .ref a3, .ref a4, .ref a5, .int ne, .int wi, .int dn, .ref a6, .ref a7, .int nn, .ref a8, .int la, .ref a9, .ref a10, .long b1, .long b2, .int p5, .long b3, .long b4, .ref a11]))]) [0] (by decide) rfl
          have hK9 := hK.sub (tys' := []) [] rfl
          refine W.widen (k := 0) (n := 0) (by omega) (by omega) ?_
          exact W.vret hx hb hr (fun t ht hW => ⟨⟨(), rfl, trivial, b1, b2, p5, b3, b4, by rw [ht]; exact hP9, va_K.moved hW.alike hK9, hD9, (Or.inl ⟨by first | exact Or.inl (by omega) | exact Or.inr (FR.mp (by first | exact Or.inl (by omega) | exact Or.inr ⟨by omega, by omega⟩)), rfl, rfl, rfl, rfl, rfl⟩)⟩, hS.F ht⟩) hS.2.2 dX9_tryOne_99
        · have t_63 := mt (fa_lt _ _).mpr c_63
          refine lv_iload hx hb dX9_tryOne_66 (lv_at hl 0 rfl) ?_
          refine lv_if_eq (tgt := 99) hx hb dX9_tryOne_68 (by decide) (fun _ => ?_) (fun h9 => absurd h9 (by decide))
          have hP9 := hP.sub (ws' := [(h0, .inr (9, [.int th, .ref a1, .ref a2, .ref a3, .ref a4, .ref a5, .int ne, .int wi, .int dn, .ref a6, .ref a7, .int nn, .ref a8, .int la, .ref a9, .ref a10, .long up, .long lw, .int wh, .long pu, .long pw, .ref a11]))]) [0] rfl
          have hD9 := hD.sub (ws' := [(h0, .inr (9, [.int th, .ref a1, .ref a2, .ref a3, .ref a4, .ref a5, .int ne, .int wi, .int dn, .ref a6, .ref a7, .int nn, .ref a8, .int la, .ref a9, .ref a10, .long up, .long lw, .int wh, .long pu, .long pw, .ref a11]))]) [0] (by decide) rfl
          have hK9 := hK.sub (tys' := []) [] rfl
          refine W.widen (k := 0) (n := 0) (by omega) (by omega) ?_
          exact W.vret hx hb hr (fun t ht hW => ⟨⟨(), rfl, trivial, up, lw, wh, pu, pw, by rw [ht]; exact hP9, va_K.moved hW.alike hK9, hD9, (Or.inr ⟨fun z9 => by rcases z9 with z | z <;> first | omega | (rcases FR.mpr z with y9 | y9 <;> omega), rfl, rfl, rfl, rfl, rfl⟩)⟩, hS.F ht⟩) hS.2.2 dX9_tryOne_99
      · have t_49 := mt (fa_le64 _ _).mpr (mt (lg_cmp_ge _ _).mpr c_49)
        refine lv_iconst (v := 1) hx hb dX9_tryOne_52 (by decide) ?_
        refine lv_goto (tgt := 57) hx hb dX9_tryOne_53 (by decide) ?_
        refine lv_istore (lv' := [(12, .int 1), (10, .long y_3), (0, .ref h0), (1, .long b1), (3, .long b2), (5, .int p5), (6, .long b3), (8, .long b4)]) hx hb dX9_tryOne_57 hl (by decide) rfl (fun ls hl => ?_)
        refine lv_aload_n hx hb dX9_tryOne_59 rfl (lv_at hl 2 rfl) ?_
        refine va_get (D := (dC, dI)) (ci := 9) (v := .int wh) (C := RX9) (T := TX9) (N := 22) hx hb hts in_X9_tryOneE_X9 hown hK hP 0 rfl rfl 18 (by decide) (hts (.fieldLink RX9 128 "MeetingsAboveModel" "when" "I") (by decide +kernel)) (fun _ h9 => h9) rfl dX9_tryOne_60 ?_
        refine lv_if_lt (tgt := 71) hx hb dX9_tryOne_63 (by decide) (fun c_63 => ?_) (fun c_63 => ?_)
        · have t_63 := (fa_lt _ _).mp c_63
          refine lv_aload_n hx hb dX9_tryOne_71 rfl (lv_at hl 2 rfl) ?_
          refine lv_lload_n hx hb dX9_tryOne_72 rfl (lv_at hl 3 rfl) ?_
          refine va_put (D := (dC, dI)) (ci := 9) (v := .long b1) (ty := .long) (C := RX9) (T := TX9) (N := 22) hx hb hts in_X9_tryOneE_X9 tyX9 tyX9_ok nmX9 hown hK hP hD hS 0 rfl rfl 16 (by decide) (hts (.fieldLink RX9 121 "MeetingsAboveModel" "upper" "J") (by decide +kernel)) (fun _ h9 => h9) rfl (by decide +kernel) rfl rfl (Nat.le_of_ble_eq_true rfl) dX9_tryOne_73 (fun H locs hP hD hS => ?_)
          have hP : va_P (dC, dI) vwCl [(h0, .inr (9, [.int th, .ref a1, .ref a2, .ref a3, .ref a4, .ref a5, .int ne, .int wi, .int dn, .ref a6, .ref a7, .int nn, .ref a8, .int la, .ref a9, .ref a10, .long b1, .long lw, .int wh, .long pu, .long pw, .ref a11]))] H := hP
          have hD : va_D A [(h0, .inr (9, [.int th, .ref a1, .ref a2, .ref a3, .ref a4, .ref a5, .int ne, .int wi, .int dn, .ref a6, .ref a7, .int nn, .ref a8, .int la, .ref a9, .ref a10, .long b1, .long lw, .int wh, .long pu, .long pw, .ref a11]))] := hD
          refine lv_aload_n hx hb dX9_tryOne_76 rfl (lv_at hl 2 rfl) ?_
          refine lv_lload_n hx hb dX9_tryOne_77 rfl (lv_at hl 4 rfl) ?_
          refine va_put (D := (dC, dI)) (ci := 9) (v := .long b2) (ty := .long) (C := RX9) (T := TX9) (N := 22) hx hb hts in_X9_tryOneE_X9 tyX9 tyX9_ok nmX9 hown hK hP hD hS 0 rfl rfl 17 (by decide) (hts (.fieldLink RX9 125 "MeetingsAboveModel" "lower" "J") (by decide +kernel)) (fun _ h9 => h9) rfl (by decide +kernel) rfl rfl (Nat.le_of_ble_eq_true rfl) dX9_tryOne_78 (fun H locs hP hD hS => ?_)
          have hP : va_P (dC, dI) vwCl [(h0, .inr (9, [.int th, .ref a1, .ref a2, .ref a3, .ref a4, .ref a5, .int ne, .int wi, .int dn, .ref a6, .ref a7, .int nn, .ref a8, .int la, .ref a9, .ref a10, .long b1, .long b2, .int wh, .long pu, .long pw, .ref a11]))] H := hP
          have hD : va_D A [(h0, .inr (9, [.int th, .ref a1, .ref a2, .ref a3, .ref a4, .ref a5, .int ne, .int wi, .int dn, .ref a6, .ref a7, .int nn, .ref a8, .int la, .ref a9, .ref a10, .long b1, .long b2, .int wh, .long pu, .long pw, .ref a11]))] := hD
          refine lv_aload_n hx hb dX9_tryOne_81 rfl (lv_at hl 2 rfl) ?_
          refine lv_iload hx hb dX9_tryOne_82 (lv_at hl 5 rfl) ?_
          refine va_put (D := (dC, dI)) (ci := 9) (v := .int p5) (ty := .int) (C := RX9) (T := TX9) (N := 22) hx hb hts in_X9_tryOneE_X9 tyX9 tyX9_ok nmX9 hown hK hP hD hS 0 rfl rfl 18 (by decide) (hts (.fieldLink RX9 128 "MeetingsAboveModel" "when" "I") (by decide +kernel)) (fun _ h9 => h9) rfl (by decide +kernel) rfl rfl (Nat.le_of_ble_eq_true rfl) dX9_tryOne_84 (fun H locs hP hD hS => ?_)
          have hP : va_P (dC, dI) vwCl [(h0, .inr (9, [.int th, .ref a1, .ref a2, .ref a3, .ref a4, .ref a5, .int ne, .int wi, .int dn, .ref a6, .ref a7, .int nn, .ref a8, .int la, .ref a9, .ref a10, .long b1, .long b2, .int p5, .long pu, .long pw, .ref a11]))] H := hP
          have hD : va_D A [(h0, .inr (9, [.int th, .ref a1, .ref a2, .ref a3, .ref a4, .ref a5, .int ne, .int wi, .int dn, .ref a6, .ref a7, .int nn, .ref a8, .int la, .ref a9, .ref a10, .long b1, .long b2, .int p5, .long pu, .long pw, .ref a11]))] := hD
          refine lv_aload_n hx hb dX9_tryOne_87 rfl (lv_at hl 2 rfl) ?_
          refine lv_lload hx hb dX9_tryOne_88 (lv_at hl 6 rfl) ?_
          refine va_put (D := (dC, dI)) (ci := 9) (v := .long b3) (ty := .long) (C := RX9) (T := TX9) (N := 22) hx hb hts in_X9_tryOneE_X9 tyX9 tyX9_ok nmX9 hown hK hP hD hS 0 rfl rfl 19 (by decide) (hts (.fieldLink RX9 131 "MeetingsAboveModel" "partUpper" "J") (by decide +kernel)) (fun _ h9 => h9) rfl (by decide +kernel) rfl rfl (Nat.le_of_ble_eq_true rfl) dX9_tryOne_90 (fun H locs hP hD hS => ?_)
          have hP : va_P (dC, dI) vwCl [(h0, .inr (9, [.int th, .ref a1, .ref a2, .ref a3, .ref a4, .ref a5, .int ne, .int wi, .int dn, .ref a6, .ref a7, .int nn, .ref a8, .int la, .ref a9, .ref a10, .long b1, .long b2, .int p5, .long b3, .long pw, .ref a11]))] H := hP
          have hD : va_D A [(h0, .inr (9, [.int th, .ref a1, .ref a2, .ref a3, .ref a4, .ref a5, .int ne, .int wi, .int dn, .ref a6, .ref a7, .int nn, .ref a8, .int la, .ref a9, .ref a10, .long b1, .long b2, .int p5, .long b3, .long pw, .ref a11]))] := hD
          refine lv_aload_n hx hb dX9_tryOne_93 rfl (lv_at hl 2 rfl) ?_
          refine lv_lload hx hb dX9_tryOne_94 (lv_at hl 7 rfl) ?_
          refine va_put (D := (dC, dI)) (ci := 9) (v := .long b4) (ty := .long) (C := RX9) (T := TX9) (N := 22) hx hb hts in_X9_tryOneE_X9 tyX9 tyX9_ok nmX9 hown hK hP hD hS 0 rfl rfl 20 (by decide) (hts (.fieldLink RX9 134 "MeetingsAboveModel" "partLower" "J") (by decide +kernel)) (fun _ h9 => h9) rfl (by decide +kernel) rfl rfl (Nat.le_of_ble_eq_true rfl) dX9_tryOne_96 (fun H locs hP hD hS => ?_)
          have hP : va_P (dC, dI) vwCl [(h0, .inr (9, [.int th, .ref a1, .ref a2, .ref a3, .ref a4, .ref a5, .int ne, .int wi, .int dn, .ref a6, .ref a7, .int nn, .ref a8, .int la, .ref a9, .ref a10, .long b1, .long b2, .int p5, .long b3, .long b4, .ref a11]))] H := hP
          have hD : va_D A [(h0, .inr (9, [.int th, .ref a1, .ref a2, .ref a3, .ref a4, .ref a5, .int ne, .int wi, .int dn, .ref a6, .ref a7, .int nn, .ref a8, .int la, .ref a9, .ref a10, .long b1, .long b2, .int p5, .long b3, .long b4, .ref a11]))] := hD
          have hP9 := hP.sub (ws' := [(h0, .inr (9, [.int th, .ref a1, .ref a2, .ref a3, .ref a4, .ref a5, .int ne, .int wi, .int dn, .ref a6, .ref a7, .int nn, .ref a8, .int la, .ref a9, .ref a10, .long b1, .long b2, .int p5, .long b3, .long b4, .ref a11]))]) [0] rfl
          have hD9 := hD.sub (ws' := [(h0, .inr (9, [.int th, .ref a1, .ref a2, .ref a3, .ref a4, .ref a5, .int ne, .int wi, .int dn, .ref a6, .ref a7, .int nn, .ref a8, .int la, .ref a9, .ref a10, .long b1, .long b2, .int p5, .long b3, .long b4, .ref a11]))]) [0] (by decide) rfl
          have hK9 := hK.sub (tys' := []) [] rfl
          refine W.widen (k := 0) (n := 0) (by omega) (by omega) ?_
          exact W.vret hx hb hr (fun t ht hW => ⟨⟨(), rfl, trivial, b1, b2, p5, b3, b4, by rw [ht]; exact hP9, va_K.moved hW.alike hK9, hD9, (Or.inl ⟨by first | exact Or.inl (by omega) | exact Or.inr (FR.mp (by first | exact Or.inl (by omega) | exact Or.inr ⟨by omega, by omega⟩)), rfl, rfl, rfl, rfl, rfl⟩)⟩, hS.F ht⟩) hS.2.2 dX9_tryOne_99
        · have t_63 := mt (fa_lt _ _).mpr c_63
          refine lv_iload hx hb dX9_tryOne_66 (lv_at hl 0 rfl) ?_
          refine lv_if_eq (tgt := 99) hx hb dX9_tryOne_68 (by decide) (fun h9 => absurd h9 (by decide)) (fun _ => ?_)
          refine lv_aload_n hx hb dX9_tryOne_71 rfl (lv_at hl 2 rfl) ?_
          refine lv_lload_n hx hb dX9_tryOne_72 rfl (lv_at hl 3 rfl) ?_
          refine va_put (D := (dC, dI)) (ci := 9) (v := .long b1) (ty := .long) (C := RX9) (T := TX9) (N := 22) hx hb hts in_X9_tryOneE_X9 tyX9 tyX9_ok nmX9 hown hK hP hD hS 0 rfl rfl 16 (by decide) (hts (.fieldLink RX9 121 "MeetingsAboveModel" "upper" "J") (by decide +kernel)) (fun _ h9 => h9) rfl (by decide +kernel) rfl rfl (Nat.le_of_ble_eq_true rfl) dX9_tryOne_73 (fun H locs hP hD hS => ?_)
          have hP : va_P (dC, dI) vwCl [(h0, .inr (9, [.int th, .ref a1, .ref a2, .ref a3, .ref a4, .ref a5, .int ne, .int wi, .int dn, .ref a6, .ref a7, .int nn, .ref a8, .int la, .ref a9, .ref a10, .long b1, .long lw, .int wh, .long pu, .long pw, .ref a11]))] H := hP
          have hD : va_D A [(h0, .inr (9, [.int th, .ref a1, .ref a2, .ref a3, .ref a4, .ref a5, .int ne, .int wi, .int dn, .ref a6, .ref a7, .int nn, .ref a8, .int la, .ref a9, .ref a10, .long b1, .long lw, .int wh, .long pu, .long pw, .ref a11]))] := hD
          refine lv_aload_n hx hb dX9_tryOne_76 rfl (lv_at hl 2 rfl) ?_
          refine lv_lload_n hx hb dX9_tryOne_77 rfl (lv_at hl 4 rfl) ?_
          refine va_put (D := (dC, dI)) (ci := 9) (v := .long b2) (ty := .long) (C := RX9) (T := TX9) (N := 22) hx hb hts in_X9_tryOneE_X9 tyX9 tyX9_ok nmX9 hown hK hP hD hS 0 rfl rfl 17 (by decide) (hts (.fieldLink RX9 125 "MeetingsAboveModel" "lower" "J") (by decide +kernel)) (fun _ h9 => h9) rfl (by decide +kernel) rfl rfl (Nat.le_of_ble_eq_true rfl) dX9_tryOne_78 (fun H locs hP hD hS => ?_)
          have hP : va_P (dC, dI) vwCl [(h0, .inr (9, [.int th, .ref a1, .ref a2, .ref a3, .ref a4, .ref a5, .int ne, .int wi, .int dn, .ref a6, .ref a7, .int nn, .ref a8, .int la, .ref a9, .ref a10, .long b1, .long b2, .int wh, .long pu, .long pw, .ref a11]))] H := hP
          have hD : va_D A [(h0, .inr (9, [.int th, .ref a1, .ref a2, .ref a3, .ref a4, .ref a5, .int ne, .int wi, .int dn, .ref a6, .ref a7, .int nn, .ref a8, .int la, .ref a9, .ref a10, .long b1, .long b2, .int wh, .long pu, .long pw, .ref a11]))] := hD
          refine lv_aload_n hx hb dX9_tryOne_81 rfl (lv_at hl 2 rfl) ?_
          refine lv_iload hx hb dX9_tryOne_82 (lv_at hl 5 rfl) ?_
          refine va_put (D := (dC, dI)) (ci := 9) (v := .int p5) (ty := .int) (C := RX9) (T := TX9) (N := 22) hx hb hts in_X9_tryOneE_X9 tyX9 tyX9_ok nmX9 hown hK hP hD hS 0 rfl rfl 18 (by decide) (hts (.fieldLink RX9 128 "MeetingsAboveModel" "when" "I") (by decide +kernel)) (fun _ h9 => h9) rfl (by decide +kernel) rfl rfl (Nat.le_of_ble_eq_true rfl) dX9_tryOne_84 (fun H locs hP hD hS => ?_)
          have hP : va_P (dC, dI) vwCl [(h0, .inr (9, [.int th, .ref a1, .ref a2, .ref a3, .ref a4, .ref a5, .int ne, .int wi, .int dn, .ref a6, .ref a7, .int nn, .ref a8, .int la, .ref a9, .ref a10, .long b1, .long b2, .int p5, .long pu, .long pw, .ref a11]))] H := hP
          have hD : va_D A [(h0, .inr (9, [.int th, .ref a1, .ref a2, .ref a3, .ref a4, .ref a5, .int ne, .int wi, .int dn, .ref a6, .ref a7, .int nn, .ref a8, .int la, .ref a9, .ref a10, .long b1, .long b2, .int p5, .long pu, .long pw, .ref a11]))] := hD
          refine lv_aload_n hx hb dX9_tryOne_87 rfl (lv_at hl 2 rfl) ?_
          refine lv_lload hx hb dX9_tryOne_88 (lv_at hl 6 rfl) ?_
          refine va_put (D := (dC, dI)) (ci := 9) (v := .long b3) (ty := .long) (C := RX9) (T := TX9) (N := 22) hx hb hts in_X9_tryOneE_X9 tyX9 tyX9_ok nmX9 hown hK hP hD hS 0 rfl rfl 19 (by decide) (hts (.fieldLink RX9 131 "MeetingsAboveModel" "partUpper" "J") (by decide +kernel)) (fun _ h9 => h9) rfl (by decide +kernel) rfl rfl (Nat.le_of_ble_eq_true rfl) dX9_tryOne_90 (fun H locs hP hD hS => ?_)
          have hP : va_P (dC, dI) vwCl [(h0, .inr (9, [.int th, .ref a1, .ref a2, .ref a3, .ref a4, .ref a5, .int ne, .int wi, .int dn, .ref a6, .ref a7, .int nn, .ref a8, .int la, .ref a9, .ref a10, .long b1, .long b2, .int p5, .long b3, .long pw, .ref a11]))] H := hP
          have hD : va_D A [(h0, .inr (9, [.int th, .ref a1, .ref a2, .ref a3, .ref a4, .ref a5, .int ne, .int wi, .int dn, .ref a6, .ref a7, .int nn, .ref a8, .int la, .ref a9, .ref a10, .long b1, .long b2, .int p5, .long b3, .long pw, .ref a11]))] := hD
          refine lv_aload_n hx hb dX9_tryOne_93 rfl (lv_at hl 2 rfl) ?_
          refine lv_lload hx hb dX9_tryOne_94 (lv_at hl 7 rfl) ?_
          refine va_put (D := (dC, dI)) (ci := 9) (v := .long b4) (ty := .long) (C := RX9) (T := TX9) (N := 22) hx hb hts in_X9_tryOneE_X9 tyX9 tyX9_ok nmX9 hown hK hP hD hS 0 rfl rfl 20 (by decide) (hts (.fieldLink RX9 134 "MeetingsAboveModel" "partLower" "J") (by decide +kernel)) (fun _ h9 => h9) rfl (by decide +kernel) rfl rfl (Nat.le_of_ble_eq_true rfl) dX9_tryOne_96 (fun H locs hP hD hS => ?_)
          have hP : va_P (dC, dI) vwCl [(h0, .inr (9, [.int th, .ref a1, .ref a2, .ref a3, .ref a4, .ref a5, .int ne, .int wi, .int dn, .ref a6, .ref a7, .int nn, .ref a8, .int la, .ref a9, .ref a10, .long b1, .long b2, .int p5, .long b3, .long b4, .ref a11]))] H := hP
          have hD : va_D A [(h0, .inr (9, [.int th, .ref a1, .ref a2, .ref a3, .ref a4, .ref a5, .int ne, .int wi, .int dn, .ref a6, .ref a7, .int nn, .ref a8, .int la, .ref a9, .ref a10, .long b1, .long b2, .int p5, .long b3, .long b4, .ref a11]))] := hD
          have hP9 := hP.sub (ws' := [(h0, .inr (9, [.int th, .ref a1, .ref a2, .ref a3, .ref a4, .ref a5, .int ne, .int wi, .int dn, .ref a6, .ref a7, .int nn, .ref a8, .int la, .ref a9, .ref a10, .long b1, .long b2, .int p5, .long b3, .long b4, .ref a11]))]) [0] rfl
          have hD9 := hD.sub (ws' := [(h0, .inr (9, [.int th, .ref a1, .ref a2, .ref a3, .ref a4, .ref a5, .int ne, .int wi, .int dn, .ref a6, .ref a7, .int nn, .ref a8, .int la, .ref a9, .ref a10, .long b1, .long b2, .int p5, .long b3, .long b4, .ref a11]))]) [0] (by decide) rfl
          have hK9 := hK.sub (tys' := []) [] rfl
          refine W.widen (k := 0) (n := 0) (by omega) (by omega) ?_
          exact W.vret hx hb hr (fun t ht hW => ⟨⟨(), rfl, trivial, b1, b2, p5, b3, b4, by rw [ht]; exact hP9, va_K.moved hW.alike hK9, hD9, (Or.inl ⟨by first | exact Or.inl (by omega) | exact Or.inr (FR.mp (by first | exact Or.inl (by omega) | exact Or.inr ⟨by omega, by omega⟩)), rfl, rfl, rfl, rfl, rfl⟩)⟩, hS.F ht⟩) hS.2.2 dX9_tryOne_99
def wk_X9_apartE : List Cond := .code yX9_apart cX9_apart 5 (some .long) :: (([] : List Cond) ++ ((wsV RX9 94 RX9 yX9_spot wk_X9_spot) ++ ([])))
theorem gw_X9_apartE : AG wk_X9_apartE := AG_ca (AG_l (by decide +kernel)) (AG_app (AG_V gw_X9_spot) (AG_nil))
theorem g_X9_apartE__X9_spot_94 : GoodIn wk_X9_apartE (wsV RX9 94 RX9 yX9_spot wk_X9_spot) := goodIn_m (fun _ h => List.mem_cons_of_mem _ (List.mem_append_right _ (List.mem_append_left _ h))) (AG_V gw_X9_spot)
set_option maxHeartbeats 4000000 in
set_option maxRecDepth 100000 in
theorem c_X9_apartE (l : Launch) (dC : Nat → ClassId) (dI : Nat → Nat → Nat) (h0 : Nat) (a1 : Nat) (a2 : Nat) (a3 : Nat) (a4 : Nat) (a5 : Nat) (a6 : Nat) (a7 : Nat) (a8 : Nat) (a9 : Nat) (a10 : Nat) (a11 : Nat) (th : Int32) (ne : Int32) (wi : Int32) (dn : Int32) (nn : Int32) (la : Int32) (wh : Int32) (up : Int64) (lw : Int64) (pu : Int64) (pw : Int64) (cI : ClassId) (Fi : Nat → Int32) (Ma : Nat → Int32) (Sp : Nat → Int32) (p1 : Int32) (p2 : Int32) (p3 : Int32) (p4 : Int32) (hM : mOK th Fi Ma) (hp10 : 0 ≤ p1.toInt) (hp11 : p1.toInt < th.toInt) (hp20 : 0 ≤ p2.toInt) (hp21 : p2.toInt < th.toInt) (hsp10 : (Fi p1.toNatClampNeg).toInt ≤ p3.toInt) (hsp11 : p3.toInt < (Fi p1.toNatClampNeg).toInt + (Ma p1.toNatClampNeg).toInt) (hsp20 : (Fi p2.toNatClampNeg).toInt ≤ p3.toInt) (hsp21 : p3.toInt < (Fi p2.toNatClampNeg).toInt + (Ma p2.toNatClampNeg).toInt) (hx0 : 0 ≤ p4.toInt) (hx1 : p4.toInt ≤ 2) (hct : cOK (Ma p1.toNatClampNeg) (fun k => Sp (36 * p1.toNatClampNeg + k))) (hcu : cOK (Ma p2.toNatClampNeg) (fun k => Sp (36 * p2.toNatClampNeg + k))) : Met l yX9_apart wk_X9_apartE ({ frames := 1, cells := 0, slots := 0, locals := 23 }) (va_Pc [.ref h0, .int p1, .int p2, .int p3, .int p4] (fun U => va_P (dC, dI) vwCl [(h0, .inr (9, [.int th, .ref a1, .ref a2, .ref a3, .ref a4, .ref a5, .int ne, .int wi, .int dn, .ref a6, .ref a7, .int nn, .ref a8, .int la, .ref a9, .ref a10, .long up, .long lw, .int wh, .long pu, .long pw, .ref a11])), (a1, .inl (cI, 16, .inl Fi)), (a2, .inl (cI, 16, .inl Ma)), (a5, .inl (cI, 576, .inl Sp))] U.heap ∧ va_K (dC, dI) vwCl [(cI, .int)] U)) (vp_Sl (fun r => r.toInt = gA (Fi p1.toNatClampNeg) (fun k => Sp (36 * p1.toNatClampNeg + k)) (Fi p2.toNatClampNeg) (fun k => Sp (36 * p2.toNatClampNeg + k)) p3.toInt p4.toInt)) 0 0 (fun _ => False) := by
  refine Met.ofW (cc := cX9_apart) (maxL := 5) (ret := (some .long)) (by decide) rfl ?_
  intro p e s m args below meth c s₁ B hml hv
  obtain ⟨rfl, hP, hK⟩ := hv
  have hx := B.exec
  have hb := B.bytes
  have hr := B.returns
  have hts := atoms_spec (ws := wk_X9_apartE) B.pre
  have hown : s.vm.findClass RX9 = some m.cls := findClass_of_methodNamed B.named
  have hlocks := B.notSynchronized
  have hP : va_P (dC, dI) vwCl [(h0, .inr (9, [.int th, .ref a1, .ref a2, .ref a3, .ref a4, .ref a5, .int ne, .int wi, .int dn, .ref a6, .ref a7, .int nn, .ref a8, .int la, .ref a9, .ref a10, .long up, .long lw, .int wh, .long pu, .long pw, .ref a11])), (a1, .inl (cI, 16, .inl Fi)), (a2, .inl (cI, 16, .inl Ma)), (a5, .inl (cI, 576, .inl Sp))] s.heap := hP
  have hl := lv_entry ([.ref h0, .int p1, .int p2, .int p3, .int p4]) (n := 5) (Nat.le_of_ble_eq_true rfl)
  rw [lg_entry_eq]
  generalize (lg_sl ([.ref h0, .int p1, .int p2, .int p3, .int p4]) ++ List.replicate (5 - (lg_sl ([.ref h0, .int p1, .int p2, .int p3, .int p4])).length) Slot.unset).toArray = ls at hl ⊢
  have hl : lv_has ls 5 [(0, .ref h0), (1, .int p1), (2, .int p2), (3, .int p3), (4, .int p4)] := hl
  obtain ⟨hM0, hM1, hM2⟩ := id hM
  have np1 : ((p1.toNatClampNeg : Nat) : Int) = p1.toInt := tc_I (by omega)
  have bp1 := hM2 p1.toNatClampNeg (by omega)
  have np2 : ((p2.toNatClampNeg : Nat) : Int) = p2.toInt := tc_I (by omega)
  have bp2 := hM2 p2.toNatClampNeg (by omega)
  obtain ⟨c1, c2⟩ := xg_bd (fi := Fi p1.toNatClampNeg) hct hsp10 hsp11 hx0 hx1
  obtain ⟨c3, c4⟩ := xg_bd (fi := Fi p2.toNatClampNeg) hcu hsp20 hsp21 hx0 hx1
  refine lv_aload_n hx hb dX9_apart_0 rfl (lv_at hl 0 rfl) ?_
  refine lv_iload_n hx hb dX9_apart_1 rfl (lv_at hl 1 rfl) ?_
  refine lv_iload_n hx hb dX9_apart_2 rfl (lv_at hl 3 rfl) ?_
  refine lv_iload hx hb dX9_apart_3 (lv_at hl 4 rfl) ?_
  have hPc := hP.sub (ws' := [(h0, .inr (9, [.int th, .ref a1, .ref a2, .ref a3, .ref a4, .ref a5, .int ne, .int wi, .int dn, .ref a6, .ref a7, .int nn, .ref a8, .int la, .ref a9, .ref a10, .long up, .long lw, .int wh, .long pu, .long pw, .ref a11])), (a1, .inl (cI, 16, .inl Fi)), (a5, .inl (cI, 576, .inl Sp))]) [0, 1, 3] rfl
  have hKc := hK.sub (tys' := [(cI, .int)]) [0] rfl
  refine vp_callSi (W.runV (As := [.int p1, .int p3, .int p4]) (rest := []) ⟨hx, hb, hml, hown, hts⟩ (c_X9_spot l dC dI Ma h0 a1 a2 a3 a4 a5 a6 a7 a8 a9 a10 a11 th ne wi dn nn la wh up lw pu pw cI Fi Sp p1 p3 p4 (by first | assumption | omega) (by first | omega | assumption) (by first | omega | assumption) (by first | omega | assumption) (by first | omega | assumption) (by first | omega | assumption) (by first | omega | assumption)) (cwV 3 hts g_X9_apartE__X9_spot_94 rfl rfl rfl (by decide +kernel) ⟨Nat.le_of_ble_eq_true rfl, Nat.le_of_ble_eq_true rfl⟩) ⟨fun a U g mk q => by obtain ⟨q0, qP, qK⟩ := q; exact ⟨q0, qP, va_K.moved (u := U) (U := U.calling g mk a) (Vm.Alike.refl U.vm) qK⟩, va_recv hKc hPc (ci := 9) (q0 := 0) rfl rfl, fun U hU hW => ⟨rfl, by rw [hU]; exact hPc, va_K.moved hW.alike hKc⟩⟩ rfl rfl hl.1 rfl (lv_room (Nat.le_of_ble_eq_true rfl)) dX9_apart_5 ⟨Nat.le_of_ble_eq_true rfl, Nat.le_of_ble_eq_true rfl⟩) (fun r_1 hr_1 => ?_)
  try dsimp only at hr_1
  have x_r_1 : r_1.toInt = xg (Fi p1.toNatClampNeg) (fun k => Sp (36 * p1.toNatClampNeg + k)) p3.toInt p4.toInt := by rw [hr_1]; exact congrArg (fun k => (Sp k).toInt) (by unfold ixm ixi; omega)
  refine lv_aload_n hx hb dX9_apart_8 rfl (lv_at hl 0 rfl) ?_
  refine lv_iload_n hx hb dX9_apart_9 rfl (lv_at hl 2 rfl) ?_
  refine lv_iload_n hx hb dX9_apart_10 rfl (lv_at hl 3 rfl) ?_
  refine lv_iload hx hb dX9_apart_11 (lv_at hl 4 rfl) ?_
  have hPc := hP.sub (ws' := [(h0, .inr (9, [.int th, .ref a1, .ref a2, .ref a3, .ref a4, .ref a5, .int ne, .int wi, .int dn, .ref a6, .ref a7, .int nn, .ref a8, .int la, .ref a9, .ref a10, .long up, .long lw, .int wh, .long pu, .long pw, .ref a11])), (a1, .inl (cI, 16, .inl Fi)), (a5, .inl (cI, 576, .inl Sp))]) [0, 1, 3] rfl
  have hKc := hK.sub (tys' := [(cI, .int)]) [0] rfl
  refine vp_callSi (W.runV (As := [.int p2, .int p3, .int p4]) (rest := [.int r_1]) ⟨hx, hb, hml, hown, hts⟩ (c_X9_spot l dC dI Ma h0 a1 a2 a3 a4 a5 a6 a7 a8 a9 a10 a11 th ne wi dn nn la wh up lw pu pw cI Fi Sp p2 p3 p4 (by first | assumption | omega) (by first | omega | assumption) (by first | omega | assumption) (by first | omega | assumption) (by first | omega | assumption) (by first | omega | assumption) (by first | omega | assumption)) (cwV 3 hts g_X9_apartE__X9_spot_94 rfl rfl rfl (by decide +kernel) ⟨Nat.le_of_ble_eq_true rfl, Nat.le_of_ble_eq_true rfl⟩) ⟨fun a U g mk q => by obtain ⟨q0, qP, qK⟩ := q; exact ⟨q0, qP, va_K.moved (u := U) (U := U.calling g mk a) (Vm.Alike.refl U.vm) qK⟩, va_recv hKc hPc (ci := 9) (q0 := 0) rfl rfl, fun U hU hW => ⟨rfl, by rw [hU]; exact hPc, va_K.moved hW.alike hKc⟩⟩ rfl rfl hl.1 rfl (lv_room (Nat.le_of_ble_eq_true rfl)) dX9_apart_13 ⟨Nat.le_of_ble_eq_true rfl, Nat.le_of_ble_eq_true rfl⟩) (fun r_2 hr_2 => ?_)
  try dsimp only at hr_2
  have x_r_2 : r_2.toInt = xg (Fi p2.toNatClampNeg) (fun k => Sp (36 * p2.toNatClampNeg + k)) p3.toInt p4.toInt := by rw [hr_2]; exact congrArg (fun k => (Sp k).toInt) (by unfold ixm ixi; omega)
  refine lv_isub hx hb dX9_apart_16 ?_
  refine lv_topi (fun y_3 ey_3 => ?_)
  have ty_3 : y_3.toInt = r_1.toInt - r_2.toInt := by rw [ey_3]; have := fb_subI (x := r_1) (y := r_2) (by omega) (by omega); omega
  refine lv_i2l hx hb dX9_apart_17 rfl ?_
  have ti_17 : (y_3.toInt64).toInt = y_3.toInt := Int32.toInt_toInt64 _
  exact W.lret (v := y_3.toInt64) hx hb hr (fun t ht _ => ⟨_, rfl, (by show (y_3.toInt64).toInt = xg _ _ _ _ - xg _ _ _ _; rw [ti_17, ty_3]; omega), ht⟩) (fun _ h => absurd h List.not_mem_nil) dX9_apart_18
