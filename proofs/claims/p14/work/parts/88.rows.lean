def wk_X8_closePairs : List Cond := .code yX8_closePairs cX8_closePairs 11 (some .long) :: (([.fieldLink RX8 142 "MeetingsAbove$Thing" "doubt" "I", .fieldLink RX8 38 "MeetingsAbove" "wide" "I", .methodLink RX8 269 Lib.Math.min.name, .static Lib.Math.min.name, .initialized "java/lang/Math", .code Lib.Math.min.name Lib.Math.min.code 2 (some .int), .methodLink RX8 274 Lib.Math.max.name, .static Lib.Math.max.name, .code Lib.Math.max.name Lib.Math.max.code 2 (some .int)] : List Cond) ++ (wsX60 ++ (wsX80 ++ ((wsV RX8 149 RX6 yX6_coord wk_X6_coord) ++ ([])))))
theorem in_X8_closePairs_X6 : ∀ w ∈ wsX60, w ∈ wk_X8_closePairs := fun _ h => List.mem_cons_of_mem _ (List.mem_append_right _ (List.mem_append_left _ h))
theorem in_X8_closePairs_X8 : ∀ w ∈ wsX80, w ∈ wk_X8_closePairs := fun _ h => List.mem_cons_of_mem _ (List.mem_append_right _ (List.mem_append_right _ (List.mem_append_left _ h)))
theorem gw_X8_closePairs : AG wk_X8_closePairs := AG_ca (AG_l (by decide +kernel)) (AG_app ag_X6 (AG_app ag_X8 (AG_app (AG_V gw_X6_coord) (AG_nil))))
theorem g_X8_closePairs__X6_coord_149 : GoodIn wk_X8_closePairs (wsV RX8 149 RX6 yX6_coord wk_X6_coord) := goodIn_m (fun _ h => List.mem_cons_of_mem _ (List.mem_append_right _ (List.mem_append_right _ (List.mem_append_right _ (List.mem_append_left _ h))))) (AG_V gw_X6_coord)
set_option maxHeartbeats 4000000 in
set_option maxRecDepth 100000 in
theorem c_X8_closePairs (l : Launch) (dC : Nat → ClassId) (dI : Nat → Nat → Nat) (h0 : Nat) (n0 : Nat) (s0 : Nat) (s1 : Nat) (d0 : Nat) (o0 : Nat) (w0 : Nat) (e0 : Nat) (f0 : Nat) (t0 : Nat) (b0 : Nat) (dn : Int32) (nn : Int32) (la : Int32) (ne : Int32) (wi : Int32) (lm : Int32) (h1 : Nat) (x1 : Nat) (fi1 : Int32) (pl1 : Int32) (db1 : Int32) (go1 : Int32) (g1 : Nat → Int32) (h2 : Nat) (x2 : Nat) (fi2 : Int32) (pl2 : Int32) (db2 : Int32) (go2 : Int32) (g2 : Nat → Int32) (cI : ClassId) (p1 : Int32) (p2 : Int32) (ht1 : tOK fi1 pl1) (ht2 : tOK fi2 pl2) (hf1 : fi1.toInt ≤ p1.toInt) (hf2 : fi2.toInt ≤ p1.toInt) (hl1 : p1.toInt < fi1.toInt + pl1.toInt) (hl2 : p1.toInt < fi2.toInt + pl2.toInt) (hx0 : 0 ≤ p2.toInt) (hx1 : p2.toInt ≤ 2) (hc0 : -5000 ≤ (g1 (ixc fi1 p1 p2)).toInt) (hc1 : (g1 (ixc fi1 p1 p2)).toInt ≤ 5000) (hd0 : 0 ≤ db1.toInt) (hd1 : db1.toInt ≤ 200) : Met l yX8_closePairs wk_X8_closePairs ({ frames := 1, cells := 0, slots := 0, locals := 23 }) (va_Pc [.ref h0, .ref h1, .ref h2, .int p1, .int p2] (fun U => va_P (dC, dI) vwCl [(h0, .inr (8, [.ref n0, .ref s0, .ref s1, .ref d0, .ref o0, .int dn, .int nn, .int la, .int ne, .int wi, .ref w0, .ref e0, .ref f0, .ref t0, .ref b0, .int lm])), (h1, .inr (6, [.ref x1, .int fi1, .int pl1, .int db1, .int go1])), (x1, .inl (cI, 36, .inl g1)), (h2, .inr (6, [.ref x2, .int fi2, .int pl2, .int db2, .int go2])), (x2, .inl (cI, 36, .inl g2))] U.heap ∧ va_K (dC, dI) vwCl [(cI, .int)] U)) (vp_Sl (fun r => True)) 0 0 (fun _ => False) := by
  refine Met.ofW (cc := cX8_closePairs) (maxL := 11) (ret := (some .long)) (by decide) rfl ?_
  intro p e s m args below meth c s₁ B hml hv
  obtain ⟨rfl, hP, hK⟩ := hv
  have hx := B.exec
  have hb := B.bytes
  have hr := B.returns
  have hts := atoms_spec (ws := wk_X8_closePairs) B.pre
  have hown : s.vm.findClass RX8 = some m.cls := findClass_of_methodNamed B.named
  have hlocks := B.notSynchronized
  have hP : va_P (dC, dI) vwCl [(h0, .inr (8, [.ref n0, .ref s0, .ref s1, .ref d0, .ref o0, .int dn, .int nn, .int la, .int ne, .int wi, .ref w0, .ref e0, .ref f0, .ref t0, .ref b0, .int lm])), (h1, .inr (6, [.ref x1, .int fi1, .int pl1, .int db1, .int go1])), (x1, .inl (cI, 36, .inl g1)), (h2, .inr (6, [.ref x2, .int fi2, .int pl2, .int db2, .int go2])), (x2, .inl (cI, 36, .inl g2))] s.heap := hP
  have hl := lv_entry ([.ref h0, .ref h1, .ref h2, .int p1, .int p2]) (n := 11) (Nat.le_of_ble_eq_true rfl)
  rw [lg_entry_eq]
  generalize (lg_sl ([.ref h0, .ref h1, .ref h2, .int p1, .int p2]) ++ List.replicate (11 - (lg_sl ([.ref h0, .ref h1, .ref h2, .int p1, .int p2])).length) Slot.unset).toArray = ls at hl ⊢
  have hl : lv_has ls 11 [(0, .ref h0), (1, .ref h1), (2, .ref h2), (3, .int p1), (4, .int p2)] := hl
  have kl_1 : (1 : Int32).toInt = 1 := by decide
  have klL_0 : (0 : Int64).toInt = 0 := by decide
  obtain ⟨hf10, hf11, hq10, hq11⟩ := id ht1
  obtain ⟨hf20, hf21, hq20, hq21⟩ := id ht2
  refine lv_aload_n hx hb dX8_closePairs_0 rfl (lv_at hl 1 rfl) ?_
  refine lv_iload_n hx hb dX8_closePairs_1 rfl (lv_at hl 3 rfl) ?_
  refine lv_iload hx hb dX8_closePairs_2 (lv_at hl 4 rfl) ?_
  have hPc := hP.sub (ws' := [(h1, .inr (6, [.ref x1, .int fi1, .int pl1, .int db1, .int go1])), (x1, .inl (cI, 36, .inl g1))]) [1, 2] rfl
  have hKc := hK.sub (tys' := [(cI, .int)]) [0] rfl
  refine vp_callSi (W.runV (As := [.int p1, .int p2]) (rest := []) ⟨hx, hb, hml, hown, hts⟩ (c_X6_coord l dC dI h1 x1 fi1 pl1 db1 go1 g1 cI p1 p2 (by first | omega | assumption) (by first | omega | assumption) (by first | omega | assumption) (by first | omega | assumption) (by first | omega | assumption) (by first | omega | assumption)) (cwV 2 hts g_X8_closePairs__X6_coord_149 rfl rfl rfl (by decide +kernel) ⟨Nat.le_of_ble_eq_true rfl, Nat.le_of_ble_eq_true rfl⟩) ⟨fun a U g mk q => by obtain ⟨q0, qP, qK⟩ := q; exact ⟨q0, qP, va_K.moved (u := U) (U := U.calling g mk a) (Vm.Alike.refl U.vm) qK⟩, va_recv hKc hPc (ci := 6) (q0 := 0) rfl rfl, fun U hU hW => ⟨rfl, by rw [hU]; exact hPc, va_K.moved hW.alike hKc⟩⟩ rfl rfl hl.1 rfl (lv_room (Nat.le_of_ble_eq_true rfl)) dX8_closePairs_4 ⟨Nat.le_of_ble_eq_true rfl, Nat.le_of_ble_eq_true rfl⟩) (fun r_1 hr_1 => ?_)
  try dsimp only at hr_1
  have hmid := congrArg Int32.toInt hr_1
  refine lv_istore (lv' := [(5, .int r_1), (0, .ref h0), (1, .ref h1), (2, .ref h2), (3, .int p1), (4, .int p2)]) hx hb dX8_closePairs_7 hl (by decide) rfl (fun ls hl => ?_)
  refine lv_aload_n hx hb dX8_closePairs_9 rfl (lv_at hl 3 rfl) ?_
  refine lv_iload_n hx hb dX8_closePairs_10 rfl (lv_at hl 4 rfl) ?_
  refine lv_iload hx hb dX8_closePairs_11 (lv_at hl 5 rfl) ?_
  have hPc := hP.sub (ws' := [(h2, .inr (6, [.ref x2, .int fi2, .int pl2, .int db2, .int go2])), (x2, .inl (cI, 36, .inl g2))]) [3, 4] rfl
  have hKc := hK.sub (tys' := [(cI, .int)]) [0] rfl
  refine vp_callSi (W.runV (As := [.int p1, .int p2]) (rest := []) ⟨hx, hb, hml, hown, hts⟩ (c_X6_coord l dC dI h2 x2 fi2 pl2 db2 go2 g2 cI p1 p2 (by first | omega | assumption) (by first | omega | assumption) (by first | omega | assumption) (by first | omega | assumption) (by first | omega | assumption) (by first | omega | assumption)) (cwV 2 hts g_X8_closePairs__X6_coord_149 rfl rfl rfl (by decide +kernel) ⟨Nat.le_of_ble_eq_true rfl, Nat.le_of_ble_eq_true rfl⟩) ⟨fun a U g mk q => by obtain ⟨q0, qP, qK⟩ := q; exact ⟨q0, qP, va_K.moved (u := U) (U := U.calling g mk a) (Vm.Alike.refl U.vm) qK⟩, va_recv hKc hPc (ci := 6) (q0 := 0) rfl rfl, fun U hU hW => ⟨rfl, by rw [hU]; exact hPc, va_K.moved hW.alike hKc⟩⟩ rfl rfl hl.1 rfl (lv_room (Nat.le_of_ble_eq_true rfl)) dX8_closePairs_13 ⟨Nat.le_of_ble_eq_true rfl, Nat.le_of_ble_eq_true rfl⟩) (fun r_2 hr_2 => ?_)
  try dsimp only at hr_2
  refine lv_aload_n hx hb dX8_closePairs_16 rfl (lv_at hl 3 rfl) ?_
  refine va_get (D := (dC, dI)) (ci := 6) (v := .int db2) (C := RX6) (T := TX6) (N := 5) hx hb hts in_X8_closePairs_X6 hown hK hP 3 rfl rfl 3 (by decide) (hts (.fieldLink RX8 142 "MeetingsAbove$Thing" "doubt" "I") (by decide +kernel)) (fun _ h9 => h9) rfl dX8_closePairs_17 ?_
  refine lv_isub hx hb dX8_closePairs_20 ?_
  refine lv_topi (fun y_3 ey_3 => ?_)
  refine lv_istore (lv' := [(6, .int y_3), (5, .int r_1), (0, .ref h0), (1, .ref h1), (2, .ref h2), (3, .int p1), (4, .int p2)]) hx hb dX8_closePairs_21 hl (by decide) rfl (fun ls hl => ?_)
  refine lv_aload_n hx hb dX8_closePairs_23 rfl (lv_at hl 4 rfl) ?_
  refine lv_iload_n hx hb dX8_closePairs_24 rfl (lv_at hl 5 rfl) ?_
  refine lv_iload hx hb dX8_closePairs_25 (lv_at hl 6 rfl) ?_
  have hPc := hP.sub (ws' := [(h2, .inr (6, [.ref x2, .int fi2, .int pl2, .int db2, .int go2])), (x2, .inl (cI, 36, .inl g2))]) [3, 4] rfl
  have hKc := hK.sub (tys' := [(cI, .int)]) [0] rfl
  refine vp_callSi (W.runV (As := [.int p1, .int p2]) (rest := []) ⟨hx, hb, hml, hown, hts⟩ (c_X6_coord l dC dI h2 x2 fi2 pl2 db2 go2 g2 cI p1 p2 (by first | omega | assumption) (by first | omega | assumption) (by first | omega | assumption) (by first | omega | assumption) (by first | omega | assumption) (by first | omega | assumption)) (cwV 2 hts g_X8_closePairs__X6_coord_149 rfl rfl rfl (by decide +kernel) ⟨Nat.le_of_ble_eq_true rfl, Nat.le_of_ble_eq_true rfl⟩) ⟨fun a U g mk q => by obtain ⟨q0, qP, qK⟩ := q; exact ⟨q0, qP, va_K.moved (u := U) (U := U.calling g mk a) (Vm.Alike.refl U.vm) qK⟩, va_recv hKc hPc (ci := 6) (q0 := 0) rfl rfl, fun U hU hW => ⟨rfl, by rw [hU]; exact hPc, va_K.moved hW.alike hKc⟩⟩ rfl rfl hl.1 rfl (lv_room (Nat.le_of_ble_eq_true rfl)) dX8_closePairs_27 ⟨Nat.le_of_ble_eq_true rfl, Nat.le_of_ble_eq_true rfl⟩) (fun r_4 hr_4 => ?_)
  try dsimp only at hr_4
  refine lv_aload_n hx hb dX8_closePairs_30 rfl (lv_at hl 4 rfl) ?_
  refine va_get (D := (dC, dI)) (ci := 6) (v := .int db2) (C := RX6) (T := TX6) (N := 5) hx hb hts in_X8_closePairs_X6 hown hK hP 3 rfl rfl 3 (by decide) (hts (.fieldLink RX8 142 "MeetingsAbove$Thing" "doubt" "I") (by decide +kernel)) (fun _ h9 => h9) rfl dX8_closePairs_31 ?_
  refine lv_iadd hx hb dX8_closePairs_34 ?_
  refine lv_topi (fun y_5 ey_5 => ?_)
  refine lv_istore (lv' := [(7, .int y_5), (6, .int y_3), (5, .int r_1), (0, .ref h0), (1, .ref h1), (2, .ref h2), (3, .int p1), (4, .int p2)]) hx hb dX8_closePairs_35 hl (by decide) rfl (fun ls hl => ?_)
  refine lv_lconst (v := 0) hx hb dX8_closePairs_37 (by decide) ?_
  refine lv_lstore (lv' := [(8, .long 0), (7, .int y_5), (6, .int y_3), (5, .int r_1), (0, .ref h0), (1, .ref h1), (2, .ref h2), (3, .int p1), (4, .int p2)]) hx hb dX8_closePairs_38 hl (by decide) rfl (fun ls hl => ?_)
  refine lv_iload hx hb dX8_closePairs_40 (lv_at hl 3 rfl) ?_
  refine lv_aload_n hx hb dX8_closePairs_42 rfl (lv_at hl 5 rfl) ?_
  refine va_get (D := (dC, dI)) (ci := 6) (v := .int db1) (C := RX6) (T := TX6) (N := 5) hx hb hts in_X8_closePairs_X6 hown hK hP 1 rfl rfl 3 (by decide) (hts (.fieldLink RX8 142 "MeetingsAbove$Thing" "doubt" "I") (by decide +kernel)) (fun _ h9 => h9) rfl dX8_closePairs_43 ?_
  refine lv_isub hx hb dX8_closePairs_46 ?_
  refine lv_topi (fun y_6 ey_6 => ?_)
  have ty_6 : y_6.toInt = r_1.toInt - db1.toInt := by rw [ey_6]; have := fb_subI (x := r_1) (y := db1) (by omega) (by omega); omega
  refine lv_istore (lv' := [(10, .int y_6), (8, .long 0), (7, .int y_5), (6, .int y_3), (5, .int r_1), (0, .ref h0), (1, .ref h1), (2, .ref h2), (3, .int p1), (4, .int p2)]) hx hb dX8_closePairs_47 hl (by decide) rfl (fun ls hl => ?_)
  refine (show ∀ (k : Nat) (n8 : Int64) (c10 : Int32) (hk0 : r_1.toInt - db1.toInt ≤ c10.toInt) (hk1 : c10.toInt ≤ r_1.toInt + db1.toInt + 1) (hk_49 : (r_1.toInt + db1.toInt + 1 - c10.toInt).toNat < k) (ls : Array Slot) (hl : lv_has ls 11 [(0, .ref h0), (1, .ref h1), (2, .ref h2), (3, .int p1), (4, .int p2), (5, .int r_1), (6, .int y_3), (7, .int y_5), (8, .long n8), (10, .int c10)]), W p l e _ s m _ below meth c s.heap [] 0 0 _ (F0 m 49 ls []) from ?_) _ 0 y_6 (by omega) (by omega) (Nat.lt_succ_self _) ls (lv_sub hl [5, 6, 7, 8, 9, 4, 3, 2, 1, 0] rfl)
  intro k
  induction k with
  | zero => intro n8 c10 hk0 hk1 hk_49; exact absurd hk_49 (Nat.not_lt_zero _)
  | succ k ih_49 =>
    intro n8 c10 hk0 hk1 hk_49 ls hl
    refine lv_iload hx hb dX8_closePairs_49 (lv_at hl 9 rfl) ?_
    refine lv_iload hx hb dX8_closePairs_51 (lv_at hl 5 rfl) ?_
    refine lv_aload_n hx hb dX8_closePairs_53 rfl (lv_at hl 1 rfl) ?_
    refine va_get (D := (dC, dI)) (ci := 6) (v := .int db1) (C := RX6) (T := TX6) (N := 5) hx hb hts in_X8_closePairs_X6 hown hK hP 1 rfl rfl 3 (by decide) (hts (.fieldLink RX8 142 "MeetingsAbove$Thing" "doubt" "I") (by decide +kernel)) (fun _ h9 => h9) rfl dX8_closePairs_54 ?_
    refine lv_iadd hx hb dX8_closePairs_57 ?_
    refine lv_topi (fun y_7 ey_7 => ?_)
    have ty_7 : y_7.toInt = r_1.toInt + db1.toInt := by rw [ey_7]; have := fb_addI (x := r_1) (y := db1) (by omega) (by omega); omega
    refine lv_icmp_gt (tgt := 104) hx hb dX8_closePairs_58 (by decide) (fun c_58 => ?_) (fun c_58 => ?_)
    · have t_58 := (fa_lt _ _).mp c_58
      refine lv_lload hx hb dX8_closePairs_104 (lv_at hl 8 rfl) ?_
      exact W.lret (v := n8) hx hb hr (fun t ht _ => ⟨_, rfl, trivial, ht⟩) (fun _ h => absurd h List.not_mem_nil) dX8_closePairs_106
    · have t_58 := mt (fa_lt _ _).mpr c_58
      refine lv_lload hx hb dX8_closePairs_61 (lv_at hl 8 rfl) ?_
      refine lv_iconst (v := 0) hx hb dX8_closePairs_63 (by decide) ?_
      refine lv_iload hx hb dX8_closePairs_64 (lv_at hl 7 rfl) ?_
      refine lv_iload hx hb dX8_closePairs_66 (lv_at hl 9 rfl) ?_
      refine lv_aload_n hx hb dX8_closePairs_68 rfl (lv_at hl 0 rfl) ?_
      refine va_get (D := (dC, dI)) (ci := 8) (v := .int wi) (C := RX8) (T := TX8) (N := 16) hx hb hts in_X8_closePairs_X8 hown hK hP 0 rfl rfl 9 (by decide) (hts (.fieldLink RX8 38 "MeetingsAbove" "wide" "I") (by decide +kernel)) (fun _ h9 => h9) rfl dX8_closePairs_69 ?_
      refine lv_iadd hx hb dX8_closePairs_72 ?_
      refine lv_topi (fun y_8 ey_8 => ?_)
      refine va_mmin hx hb (by rw [hml]; exact hl.1.symm) hown (hts (.methodLink RX8 269 Lib.Math.min.name) (by decide +kernel)) (hts (.static Lib.Math.min.name) (by decide +kernel)) (hts (.initialized "java/lang/Math") (by decide +kernel)) (hts _ (List.mem_of_getElem? (i := 6) rfl)) (Nat.le_of_ble_eq_true rfl) (Nat.le_of_ble_eq_true rfl) (Nat.le_of_ble_eq_true rfl) (Nat.le_of_ble_eq_true rfl) dX8_closePairs_73 ?_
      refine lv_topi (fun y_9 ey_9 => ?_)
      refine lv_iload hx hb dX8_closePairs_76 (lv_at hl 6 rfl) ?_
      refine lv_iload hx hb dX8_closePairs_78 (lv_at hl 9 rfl) ?_
      refine lv_aload_n hx hb dX8_closePairs_80 rfl (lv_at hl 0 rfl) ?_
      refine va_get (D := (dC, dI)) (ci := 8) (v := .int wi) (C := RX8) (T := TX8) (N := 16) hx hb hts in_X8_closePairs_X8 hown hK hP 0 rfl rfl 9 (by decide) (hts (.fieldLink RX8 38 "MeetingsAbove" "wide" "I") (by decide +kernel)) (fun _ h9 => h9) rfl dX8_closePairs_81 ?_
      refine lv_isub hx hb dX8_closePairs_84 ?_
      refine lv_topi (fun y_10 ey_10 => ?_)
      refine va_mmax hx hb (by rw [hml]; exact hl.1.symm) hown (hts (.methodLink RX8 274 Lib.Math.max.name) (by decide +kernel)) (hts (.static Lib.Math.max.name) (by decide +kernel)) (hts (.initialized "java/lang/Math") (by decide +kernel)) (hts _ (List.mem_of_getElem? (i := 9) rfl)) (Nat.le_of_ble_eq_true rfl) (Nat.le_of_ble_eq_true rfl) (Nat.le_of_ble_eq_true rfl) (Nat.le_of_ble_eq_true rfl) dX8_closePairs_85 ?_
      refine lv_topi (fun y_11 ey_11 => ?_)
      refine lv_isub hx hb dX8_closePairs_88 ?_
      refine lv_topi (fun y_12 ey_12 => ?_)
      refine lv_iconst (v := 1) hx hb dX8_closePairs_89 (by decide) ?_
      refine lv_iadd hx hb dX8_closePairs_90 ?_
      refine lv_topi (fun y_13 ey_13 => ?_)
      refine va_mmax hx hb (by rw [hml]; exact hl.1.symm) hown (hts (.methodLink RX8 274 Lib.Math.max.name) (by decide +kernel)) (hts (.static Lib.Math.max.name) (by decide +kernel)) (hts (.initialized "java/lang/Math") (by decide +kernel)) (hts _ (List.mem_of_getElem? (i := 9) rfl)) (Nat.le_of_ble_eq_true rfl) (Nat.le_of_ble_eq_true rfl) (Nat.le_of_ble_eq_true rfl) (Nat.le_of_ble_eq_true rfl) dX8_closePairs_91 ?_
      refine lv_topi (fun y_14 ey_14 => ?_)
      refine lv_i2l hx hb dX8_closePairs_94 rfl ?_
      refine lv_ladd hx hb dX8_closePairs_95 ?_
      refine lv_topl (fun y_15 ey_15 => ?_)
      refine lv_lstore (lv' := [(8, .long y_15), (0, .ref h0), (1, .ref h1), (2, .ref h2), (3, .int p1), (4, .int p2), (5, .int r_1), (6, .int y_3), (7, .int y_5), (10, .int c10)]) hx hb dX8_closePairs_96 hl (by decide) rfl (fun ls hl => ?_)
      obtain ⟨y_16, ey_16⟩ : ∃ y : Int32, y = c10 + 1 := ⟨_, rfl⟩
      have ty_16 : y_16.toInt = c10.toInt + 1 := by rw [ey_16]; have := fb_addI (x := c10) (y := 1) (by omega) (by omega); omega
      refine lv_iinc (v := y_16) (lv' := [(10, .int y_16), (8, .long y_15), (0, .ref h0), (1, .ref h1), (2, .ref h2), (3, .int p1), (4, .int p2), (5, .int r_1), (6, .int y_3), (7, .int y_5)]) hx hb dX8_closePairs_98 hl (k := 9) rfl (by rw [ey_16]; rfl) (by decide) rfl (fun ls hl => ?_)
      refine lv_goto (tgt := 49) hx hb dX8_closePairs_101 (by decide) ?_
      exact ih_49 y_15 y_16 (by omega) (by omega) (by omega) ls (lv_sub hl [2, 3, 4, 5, 6, 7, 8, 9, 1, 0] rfl)
