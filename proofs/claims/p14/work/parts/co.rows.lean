def wk_X8_comeNearPE : List Cond := .code yX8_comeNear cX8_comeNear 10 (some .boolean) :: (([.fieldLink RX8 34 "MeetingsAbove" "near" "I", .methodLink RX8 274 Lib.Math.max.name, .static Lib.Math.max.name, .initialized "java/lang/Math", .code Lib.Math.max.name Lib.Math.max.code 2 (some .int), .methodLink RX8 269 Lib.Math.min.name, .static Lib.Math.min.name, .code Lib.Math.min.name Lib.Math.min.code 2 (some .int), .fieldLink RX8 44 "MeetingsAbove" "way" "LMeetingsAbove$Way;", .fieldLink RX8 337 "MeetingsAbove$Way" "upper" "J", .fieldLink RX8 338 "MeetingsAbove$Way" "lower" "J"] : List Cond) ++ (wsX80 ++ (wsX70 ++ ((va_wsS RX8 173 yX8_firstTogether wk_X8_firstTogether) ++ ((va_wsS RX8 177 yX8_lastTogether wk_X8_lastTogether) ++ ((wsV RX8 333 RX7 yX7_look wk_X7_lookPE) ++ ([])))))))
theorem in_X8_comeNearPE_X7 : ∀ w ∈ wsX70, w ∈ wk_X8_comeNearPE := fun _ h => List.mem_cons_of_mem _ (List.mem_append_right _ (List.mem_append_right _ (List.mem_append_left _ h)))
theorem in_X8_comeNearPE_X8 : ∀ w ∈ wsX80, w ∈ wk_X8_comeNearPE := fun _ h => List.mem_cons_of_mem _ (List.mem_append_right _ (List.mem_append_left _ h))
theorem gw_X8_comeNearPE : AG wk_X8_comeNearPE := AG_ca (AG_l (by decide +kernel)) (AG_app ag_X8 (AG_app ag_X7 (AG_app (AG_S gw_X8_firstTogether) (AG_app (AG_S gw_X8_lastTogether) (AG_app (AG_V gw_X7_lookPE) (AG_nil))))))
theorem g_X8_comeNearPE__X8_firstTogether_173 : GoodIn wk_X8_comeNearPE (va_wsS RX8 173 yX8_firstTogether wk_X8_firstTogether) := goodIn_m (fun _ h => List.mem_cons_of_mem _ (List.mem_append_right _ (List.mem_append_right _ (List.mem_append_right _ (List.mem_append_left _ h))))) (AG_S gw_X8_firstTogether)
theorem g_X8_comeNearPE__X8_lastTogether_177 : GoodIn wk_X8_comeNearPE (va_wsS RX8 177 yX8_lastTogether wk_X8_lastTogether) := goodIn_m (fun _ h => List.mem_cons_of_mem _ (List.mem_append_right _ (List.mem_append_right _ (List.mem_append_right _ (List.mem_append_right _ (List.mem_append_left _ h)))))) (AG_S gw_X8_lastTogether)
theorem g_X8_comeNearPE__X7_lookPE_333 : GoodIn wk_X8_comeNearPE (wsV RX8 333 RX7 yX7_look wk_X7_lookPE) := goodIn_m (fun _ h => List.mem_cons_of_mem _ (List.mem_append_right _ (List.mem_append_right _ (List.mem_append_right _ (List.mem_append_right _ (List.mem_append_right _ (List.mem_append_left _ h))))))) (AG_V gw_X7_lookPE)
set_option maxHeartbeats 4000000 in
set_option maxRecDepth 100000 in
theorem c_X8_comeNearPE (l : Launch) (dC : Nat → ClassId) (dI : Nat → Nat → Nat) (h0 : Nat) (n0 : Nat) (s0 : Nat) (s1 : Nat) (d0 : Nat) (o0 : Nat) (w0 : Nat) (e0 : Nat) (f0 : Nat) (t0 : Nat) (b0 : Nat) (dn : Int32) (nn : Int32) (la : Int32) (ne : Int32) (wi : Int32) (lm : Int32) (wu : Int64) (wl : Int64) (wp : Int64) (h1 : Nat) (x1 : Nat) (fi1 : Int32) (pl1 : Int32) (db1 : Int32) (go1 : Int32) (g1 : Nat → Int32) (h2 : Nat) (x2 : Nat) (fi2 : Int32) (pl2 : Int32) (db2 : Int32) (go2 : Int32) (g2 : Nat → Int32) (cI : ClassId) (L : List Nat) (f : Nat → va_E) (p1 : Int32) (p2 : Int32) (sz : Nat) (hL1 : h1 ∈ L) (hX1 : x1 ∈ L) (hf1 : f h1 = .inr (6, [.ref x1, .int fi1, .int pl1, .int db1, .int go1])) (hg1 : f x1 = .inl (cI, 36, .inl g1)) (hL2 : h2 ∈ L) (hX2 : x2 ∈ L) (hf2 : f h2 = .inr (6, [.ref x2, .int fi2, .int pl2, .int db2, .int go2])) (hg2 : f x2 = .inl (cI, 36, .inl g2)) (ht1 : tOK fi1 pl1) (ht2 : tOK fi2 pl2) (hco1 : cOK pl1 g1) (hco2 : cOK pl2 g2) (hne0 : 0 ≤ ne.toInt) (hne1 : ne.toInt ≤ 3000) : Met l yX8_comeNear wk_X8_comeNearPE ({ frames := 2, cells := 0, slots := 0, locals := 58 }) (va_Pc [.ref h0, .ref h1, .ref h2, .int p1, .int p2] (fun U => U.heap.size = sz ∧ va_P (dC, dI) vwCl (([(h0, .inr (8, [.ref n0, .ref s0, .ref s1, .ref d0, .ref o0, .int dn, .int nn, .int la, .int ne, .int wi, .ref w0, .ref e0, .ref f0, .ref t0, .ref b0, .int lm])), (w0, .inr (7, [.long wu, .long wl, .long wp]))] : va_W) ++ va_pl L f) U.heap ∧ va_K (dC, dI) vwCl [(cI, .int)] U ∧ va_D (fun _ => True) (([(h0, .inr (8, [.ref n0, .ref s0, .ref s1, .ref d0, .ref o0, .int dn, .int nn, .int la, .int ne, .int wi, .ref w0, .ref e0, .ref f0, .ref t0, .ref b0, .int lm])), (w0, .inr (7, [.long wu, .long wl, .long wp]))] : va_W) ++ va_pl L f))) (va_Qi (fun (r : Int32) (_ : Unit) => (r = 1 ∧ meP (fi1, pl1, db1, go1, g1) (fi2, pl2, db2, go2, g2) p1.toInt p2.toInt ne.toInt) ∨ (r = 0 ∧ ¬ meP (fi1, pl1, db1, go1, g1) (fi2, pl2, db2, go2, g2) p1.toInt p2.toInt ne.toInt)) (fun (_ : Unit) (t : State) => ∃ (wu9 : Int64) (wl9 : Int64) (wp9 : Int64), va_P (dC, dI) vwCl (([(h0, .inr (8, [.ref n0, .ref s0, .ref s1, .ref d0, .ref o0, .int dn, .int nn, .int la, .int ne, .int wi, .ref w0, .ref e0, .ref f0, .ref t0, .ref b0, .int lm])), (w0, .inr (7, [.long wu9, .long wl9, .long wp9]))] : va_W) ++ va_pl L f) t.heap ∧ va_K (dC, dI) vwCl [] t ∧ va_D (va_A (([(h0, .inr (8, [.ref n0, .ref s0, .ref s1, .ref d0, .ref o0, .int dn, .int nn, .int la, .int ne, .int wi, .ref w0, .ref e0, .ref f0, .ref t0, .ref b0, .int lm])), (w0, .inr (7, [.long wu, .long wl, .long wp]))] : va_W) ++ va_pl L f) sz) (([(h0, .inr (8, [.ref n0, .ref s0, .ref s1, .ref d0, .ref o0, .int dn, .int nn, .int la, .int ne, .int wi, .ref w0, .ref e0, .ref f0, .ref t0, .ref b0, .int lm])), (w0, .inr (7, [.long wu9, .long wl9, .long wp9]))] : va_W) ++ va_pl L f)) (va_A (([(h0, .inr (8, [.ref n0, .ref s0, .ref s1, .ref d0, .ref o0, .int dn, .int nn, .int la, .int ne, .int wi, .ref w0, .ref e0, .ref f0, .ref t0, .ref b0, .int lm])), (w0, .inr (7, [.long wu, .long wl, .long wp]))] : va_W) ++ va_pl L f) sz)) 0 0 (va_A (([(h0, .inr (8, [.ref n0, .ref s0, .ref s1, .ref d0, .ref o0, .int dn, .int nn, .int la, .int ne, .int wi, .ref w0, .ref e0, .ref f0, .ref t0, .ref b0, .int lm])), (w0, .inr (7, [.long wu, .long wl, .long wp]))] : va_W) ++ va_pl L f) sz) := by
  refine Met.ofW (cc := cX8_comeNear) (maxL := 10) (ret := (some .boolean)) (by decide) rfl ?_
  intro p e s m args below meth c s₁ B hml hv
  obtain ⟨rfl, hsz, hP, hK, hD0⟩ := hv
  have hx := B.exec
  have hb := B.bytes
  have hr := B.returns
  have hts := atoms_spec (ws := wk_X8_comeNearPE) B.pre
  have hown : s.vm.findClass RX8 = some m.cls := findClass_of_methodNamed B.named
  have hlocks := B.notSynchronized
  subst hsz
  have hD := hD0.self (sz := s.heap.size)
  generalize hAe : va_A (([(h0, .inr (8, [.ref n0, .ref s0, .ref s1, .ref d0, .ref o0, .int dn, .int nn, .int la, .int ne, .int wi, .ref w0, .ref e0, .ref f0, .ref t0, .ref b0, .int lm])), (w0, .inr (7, [.long wu, .long wl, .long wp]))] : va_W) ++ va_pl L f) s.heap.size = A at hD ⊢
  have hA : ∀ q : Nat, s.heap.size ≤ q → A q := fun q h => by rw [← hAe]; exact Or.inr h
  have hS : va_S A s.heap s.heap [] := va_S.rf
  have hP : va_P (dC, dI) vwCl (([(h0, .inr (8, [.ref n0, .ref s0, .ref s1, .ref d0, .ref o0, .int dn, .int nn, .int la, .int ne, .int wi, .ref w0, .ref e0, .ref f0, .ref t0, .ref b0, .int lm])), (w0, .inr (7, [.long wu, .long wl, .long wp]))] : va_W) ++ va_pl L f) s.heap := hP
  have hl := lv_entry ([.ref h0, .ref h1, .ref h2, .int p1, .int p2]) (n := 10) (Nat.le_of_ble_eq_true rfl)
  rw [lg_entry_eq]
  generalize (lg_sl ([.ref h0, .ref h1, .ref h2, .int p1, .int p2]) ++ List.replicate (10 - (lg_sl ([.ref h0, .ref h1, .ref h2, .int p1, .int p2])).length) Slot.unset).toArray = ls at hl ⊢
  have hl : lv_has ls 10 [(0, .ref h0), (1, .ref h1), (2, .ref h2), (3, .int p1), (4, .int p2)] := hl
  have kl_0 : (0 : Int32).toInt = 0 := by decide
  have kl_1 : (1 : Int32).toInt = 1 := by decide
  obtain ⟨qa1, qb1, qc1, qd1⟩ := id ht1
  obtain ⟨qa2, qb2, qc2, qd2⟩ := id ht2
  refine lv_aload_n hx hb dX8_comeNear_0 rfl (lv_at hl 0 rfl) ?_
  refine va_get (D := (dC, dI)) (ci := 8) (v := .int ne) (C := RX8) (T := TX8) (N := 16) hx hb hts in_X8_comeNearPE_X8 hown hK hP 0 rfl rfl 8 (by decide) (hts (.fieldLink RX8 34 "MeetingsAbove" "near" "I") (by decide +kernel)) (fun _ h9 => h9) rfl dX8_comeNear_1 ?_
  refine lv_i2l hx hb dX8_comeNear_4 rfl ?_
  have ti_4 : (ne.toInt64).toInt = ne.toInt := Int32.toInt_toInt64 _
  refine lv_aload_n hx hb dX8_comeNear_5 rfl (lv_at hl 0 rfl) ?_
  refine va_get (D := (dC, dI)) (ci := 8) (v := .int ne) (C := RX8) (T := TX8) (N := 16) hx hb hts in_X8_comeNearPE_X8 hown hK hP 0 rfl rfl 8 (by decide) (hts (.fieldLink RX8 34 "MeetingsAbove" "near" "I") (by decide +kernel)) (fun _ h9 => h9) rfl dX8_comeNear_6 ?_
  refine lv_i2l hx hb dX8_comeNear_9 rfl ?_
  have ti_9 : (ne.toInt64).toInt = ne.toInt := Int32.toInt_toInt64 _
  refine lv_lmul hx hb dX8_comeNear_10 ?_
  refine lv_topl (fun y_1 ey_1 => ?_)
  have m1 := lm_ab 3000 3000 ey_1 (by omega) (by omega) (by omega) (by omega) (by decide)
  rw [ti_4] at m1
  have m1b := mul_bd (x := ne.toInt) (y := ne.toInt) (a := 3000) (b := 3000) (by omega) (by omega) (by omega) (by omega)
  refine lv_lstore (lv' := [(5, .long y_1), (0, .ref h0), (1, .ref h1), (2, .ref h2), (3, .int p1), (4, .int p2)]) hx hb dX8_comeNear_11 hl (by decide) rfl (fun ls hl => ?_)
  refine lv_iload_n hx hb dX8_comeNear_13 rfl (lv_at hl 4 rfl) ?_
  refine lv_aload_n hx hb dX8_comeNear_14 rfl (lv_at hl 2 rfl) ?_
  refine lv_aload_n hx hb dX8_comeNear_15 rfl (lv_at hl 3 rfl) ?_
  have hPc : va_P (dC, dI) vwCl [(h1, .inr (6, [.ref x1, .int fi1, .int pl1, .int db1, .int go1])), (h2, .inr (6, [.ref x2, .int fi2, .int pl2, .int db2, .int go2]))] s.heap := P_cons (pl_at (X := [(h0, .inr (8, [.ref n0, .ref s0, .ref s1, .ref d0, .ref o0, .int dn, .int nn, .int la, .int ne, .int wi, .ref w0, .ref e0, .ref f0, .ref t0, .ref b0, .int lm])), (w0, .inr (7, [.long wu, .long wl, .long wp]))]) hP hL1 hf1) (P_cons (pl_at (X := [(h0, .inr (8, [.ref n0, .ref s0, .ref s1, .ref d0, .ref o0, .int dn, .int nn, .int la, .int ne, .int wi, .ref w0, .ref e0, .ref f0, .ref t0, .ref b0, .int lm])), (w0, .inr (7, [.long wu, .long wl, .long wp]))]) hP hL2 hf2) (P_nil))
  have hKc := hK.sub (tys' := []) [] rfl
  refine vp_callSi (W.runS (As := [.ref h1, .ref h2]) (rest := [.int p1]) ⟨hx, hb, hml, hown, hts⟩ (c_X8_firstTogether l dC dI h1 x1 fi1 pl1 db1 go1 h2 x2 fi2 pl2 db2 go2) (va_cwS 2 hts g_X8_comeNearPE__X8_firstTogether_173 rfl rfl rfl (by decide +kernel) ⟨Nat.le_of_ble_eq_true rfl, Nat.le_of_ble_eq_true rfl⟩) ⟨fun a U g mk q => by obtain ⟨q0, qP, qK⟩ := q; exact ⟨q0, qP, va_K.moved (u := U) (U := U.calling g mk a) (Vm.Alike.refl U.vm) qK⟩, fun U hU hW => ⟨rfl, by rw [hU]; exact hPc, va_K.moved hW.alike hKc⟩⟩ rfl rfl hl.1 rfl (lv_room (Nat.le_of_ble_eq_true rfl)) dX8_comeNear_16 ⟨Nat.le_of_ble_eq_true rfl, Nat.le_of_ble_eq_true rfl⟩) (fun r_2 hr_2 => ?_)
  try dsimp only at hr_2
  refine va_mmax hx hb (by rw [hml]; exact hl.1.symm) hown (hts (.methodLink RX8 274 Lib.Math.max.name) (by decide +kernel)) (hts (.static Lib.Math.max.name) (by decide +kernel)) (hts (.initialized "java/lang/Math") (by decide +kernel)) (hts _ (List.mem_of_getElem? (i := 5) rfl)) (Nat.le_of_ble_eq_true rfl) (Nat.le_of_ble_eq_true rfl) (Nat.le_of_ble_eq_true rfl) (Nat.le_of_ble_eq_true rfl) dX8_comeNear_19 ?_
  refine lv_topi (fun y_3 ey_3 => ?_)
  have ty_3 := max_I ey_3
  refine lv_istore (lv' := [(7, .int y_3), (5, .long y_1), (0, .ref h0), (1, .ref h1), (2, .ref h2), (3, .int p1), (4, .int p2)]) hx hb dX8_comeNear_22 hl (by decide) rfl (fun ls hl => ?_)
  refine lv_iload hx hb dX8_comeNear_24 (lv_at hl 6 rfl) ?_
  refine lv_aload_n hx hb dX8_comeNear_26 rfl (lv_at hl 3 rfl) ?_
  refine lv_aload_n hx hb dX8_comeNear_27 rfl (lv_at hl 4 rfl) ?_
  have hPc : va_P (dC, dI) vwCl [(h1, .inr (6, [.ref x1, .int fi1, .int pl1, .int db1, .int go1])), (h2, .inr (6, [.ref x2, .int fi2, .int pl2, .int db2, .int go2]))] s.heap := P_cons (pl_at (X := [(h0, .inr (8, [.ref n0, .ref s0, .ref s1, .ref d0, .ref o0, .int dn, .int nn, .int la, .int ne, .int wi, .ref w0, .ref e0, .ref f0, .ref t0, .ref b0, .int lm])), (w0, .inr (7, [.long wu, .long wl, .long wp]))]) hP hL1 hf1) (P_cons (pl_at (X := [(h0, .inr (8, [.ref n0, .ref s0, .ref s1, .ref d0, .ref o0, .int dn, .int nn, .int la, .int ne, .int wi, .ref w0, .ref e0, .ref f0, .ref t0, .ref b0, .int lm])), (w0, .inr (7, [.long wu, .long wl, .long wp]))]) hP hL2 hf2) (P_nil))
  have hKc := hK.sub (tys' := []) [] rfl
  refine vp_callSi (W.runS (As := [.ref h1, .ref h2]) (rest := [.int p2]) ⟨hx, hb, hml, hown, hts⟩ (c_X8_lastTogether l dC dI h1 x1 fi1 pl1 db1 go1 h2 x2 fi2 pl2 db2 go2 (by first | assumption | omega) (by first | assumption | omega)) (va_cwS 2 hts g_X8_comeNearPE__X8_lastTogether_177 rfl rfl rfl (by decide +kernel) ⟨Nat.le_of_ble_eq_true rfl, Nat.le_of_ble_eq_true rfl⟩) ⟨fun a U g mk q => by obtain ⟨q0, qP, qK⟩ := q; exact ⟨q0, qP, va_K.moved (u := U) (U := U.calling g mk a) (Vm.Alike.refl U.vm) qK⟩, fun U hU hW => ⟨rfl, by rw [hU]; exact hPc, va_K.moved hW.alike hKc⟩⟩ rfl rfl hl.1 rfl (lv_room (Nat.le_of_ble_eq_true rfl)) dX8_comeNear_28 ⟨Nat.le_of_ble_eq_true rfl, Nat.le_of_ble_eq_true rfl⟩) (fun r_4 hr_4 => ?_)
  try dsimp only at hr_4
  refine va_mmin hx hb (by rw [hml]; exact hl.1.symm) hown (hts (.methodLink RX8 269 Lib.Math.min.name) (by decide +kernel)) (hts (.static Lib.Math.min.name) (by decide +kernel)) (hts (.initialized "java/lang/Math") (by decide +kernel)) (hts _ (List.mem_of_getElem? (i := 8) rfl)) (Nat.le_of_ble_eq_true rfl) (Nat.le_of_ble_eq_true rfl) (Nat.le_of_ble_eq_true rfl) (Nat.le_of_ble_eq_true rfl) dX8_comeNear_31 ?_
  refine lv_topi (fun y_5 ey_5 => ?_)
  have ty_5 := min_I ey_5
  refine lv_istore (lv' := [(8, .int y_5), (7, .int y_3), (5, .long y_1), (0, .ref h0), (1, .ref h1), (2, .ref h2), (3, .int p1), (4, .int p2)]) hx hb dX8_comeNear_34 hl (by decide) rfl (fun ls hl => ?_)
  have hA9 : y_3.toInt = max p1.toInt (max fi1.toInt fi2.toInt) := (by omega)
  have hB9 : y_5.toInt = min p2.toInt (min (fi1.toInt + pl1.toInt - 1) (fi2.toInt + pl2.toInt - 1)) := (by omega)
  refine lv_iload hx hb dX8_comeNear_36 (lv_at hl 1 rfl) ?_
  refine lv_istore (lv' := [(9, .int y_3), (8, .int y_5), (7, .int y_3), (5, .long y_1), (0, .ref h0), (1, .ref h1), (2, .ref h2), (3, .int p1), (4, .int p2)]) hx hb dX8_comeNear_38 hl (by decide) rfl (fun ls hl => ?_)
  refine (show ∀ (k : Nat) (k9 : Int32) (vu : Int64) (vl : Int64) (vp : Int64) (hk0 : y_3.toInt ≤ k9.toInt) (hk1 : k9.toInt ≤ y_5.toInt + 1 ∨ k9.toInt = y_3.toInt) (hNO : ∀ k : Int, y_3.toInt ≤ k → k < k9.toInt → ¬ uK fi1 g1 fi2 g2 y_5.toInt k < ne.toInt * ne.toInt * lK fi1 g1 fi2 g2 y_5.toInt k) (hk_40 : (y_5.toInt + 1 - k9.toInt).toNat < k) (H : Heap) (locs : List Loc) (hP : va_P (dC, dI) vwCl (([(h0, .inr (8, [.ref n0, .ref s0, .ref s1, .ref d0, .ref o0, .int dn, .int nn, .int la, .int ne, .int wi, .ref w0, .ref e0, .ref f0, .ref t0, .ref b0, .int lm])), (w0, .inr (7, [.long vu, .long vl, .long vp]))] : va_W) ++ va_pl L f) H) (hD : va_D A (([(h0, .inr (8, [.ref n0, .ref s0, .ref s1, .ref d0, .ref o0, .int dn, .int nn, .int la, .int ne, .int wi, .ref w0, .ref e0, .ref f0, .ref t0, .ref b0, .int lm])), (w0, .inr (7, [.long vu, .long vl, .long vp]))] : va_W) ++ va_pl L f)) (hS : va_S A s.heap H locs) (ls : Array Slot) (hl : lv_has ls 10 [(0, .ref h0), (1, .ref h1), (2, .ref h2), (3, .int p1), (4, .int p2), (5, .long y_1), (7, .int y_3), (8, .int y_5), (9, .int k9)]), W p l e _ s m _ below meth c H locs 0 0 _ (F0 m 40 ls []) from ?_) _ y_3 wu wl wp (by omega) (by omega) (by exact fun k a9 b9 => absurd b9 (by omega)) (Nat.lt_succ_self _) _ _ hP hD hS ls (lv_sub hl [4, 5, 6, 7, 8, 3, 2, 1, 0] rfl)
  intro k
  induction k with
  | zero => intro k9 vu vl vp hk0 hk1 hNO hk_40; exact absurd hk_40 (Nat.not_lt_zero _)
  | succ k ih_40 =>
    intro k9 vu vl vp hk0 hk1 hNO hk_40 H locs hP hD hS ls hl
    refine lv_iload hx hb dX8_comeNear_40 (lv_at hl 8 rfl) ?_
    refine lv_iload hx hb dX8_comeNear_42 (lv_at hl 7 rfl) ?_
    refine lv_icmp_gt (tgt := 99) hx hb dX8_comeNear_44 (by decide) (fun c_44 => ?_) (fun c_44 => ?_)
    · have t_44 := (fa_lt _ _).mp c_44
      refine lv_iconst (v := 0) hx hb dX8_comeNear_99 (by decide) ?_
      have hP9 := hP.part (cx := [(h0, .inr (8, [.ref n0, .ref s0, .ref s1, .ref d0, .ref o0, .int dn, .int nn, .int la, .int ne, .int wi, .ref w0, .ref e0, .ref f0, .ref t0, .ref b0, .int lm])), (w0, .inr (7, [.long vu, .long vl, .long vp]))]) [0, 1] rfl
      have hD9 := hD.part (cx := [(h0, .inr (8, [.ref n0, .ref s0, .ref s1, .ref d0, .ref o0, .int dn, .int nn, .int la, .int ne, .int wi, .ref w0, .ref e0, .ref f0, .ref t0, .ref b0, .int lm])), (w0, .inr (7, [.long vu, .long vl, .long vp]))]) [0, 1] (by decide) rfl
      have hK9 := hK.sub (tys' := []) [] rfl
      refine W.widen (k := 0) (n := 0) (by omega) (by omega) ?_
      exact W.zret (v := 0) hx hb hr rfl (fun t ht hW => ⟨⟨_, (), rfl, (Or.inr ⟨rfl, me_no hA9 hB9 hNO (by omega)⟩), vu, vl, vp, by rw [ht]; exact hP9, va_K.moved hW.alike hK9, hD9⟩, hS.F ht⟩) hS.2.2 dX8_comeNear_100
    · have t_44 := mt (fa_lt _ _).mpr c_44
      refine lv_aload_n hx hb dX8_comeNear_47 rfl (lv_at hl 0 rfl) ?_
      refine va_get (D := (dC, dI)) (ci := 8) (v := .ref w0) (C := RX8) (T := TX8) (N := 16) hx hb hts in_X8_comeNearPE_X8 hown hK hP 0 rfl rfl 10 (by decide) (hts (.fieldLink RX8 44 "MeetingsAbove" "way" "LMeetingsAbove$Way;") (by decide +kernel)) (fun _ h9 => h9) rfl dX8_comeNear_48 ?_
      refine lv_aload_n hx hb dX8_comeNear_51 rfl (lv_at hl 1 rfl) ?_
      refine lv_aload_n hx hb dX8_comeNear_52 rfl (lv_at hl 2 rfl) ?_
      refine lv_iload hx hb dX8_comeNear_53 (lv_at hl 8 rfl) ?_
      refine lv_iload hx hb dX8_comeNear_55 (lv_at hl 8 rfl) ?_
      refine lv_iload hx hb dX8_comeNear_57 (lv_at hl 7 rfl) ?_
      refine lv_icmp_ge (tgt := 66) hx hb dX8_comeNear_59 (by decide) (fun c_59 => ?_) (fun c_59 => ?_)
      · have t_59 := (fa_le _ _).mp c_59
        refine lv_iconst (v := 0) hx hb dX8_comeNear_66 (by decide) ?_
        have hPc := hP.part (cx := [(w0, .inr (7, [.long vu, .long vl, .long vp]))]) [1] rfl
        have hKc := hK.sub (tys' := [(cI, .int)]) [0] rfl
        have hDc := hD.part (cx := [(w0, .inr (7, [.long vu, .long vl, .long vp]))]) [1] (by decide) rfl
        have hFc := va_freeP (cx := [(w0, .inr (7, [.long vu, .long vl, .long vp]))]) hD hS hA [1] rfl
        refine va_callv (va_runV (As := [.ref h1, .ref h2, .int k9, .int 0]) (rest := []) ⟨hx, hb, hml, hown, hts⟩ (c_X7_lookPE l dC dI w0 vu vl vp h1 x1 fi1 pl1 db1 go1 g1 h2 x2 fi2 pl2 db2 go2 g2 cI L f k9 0 H.size (by first | assumption | omega) (by first | assumption | omega) (by first | assumption | omega) (by first | assumption | omega) (by first | assumption | omega) (by first | assumption | omega) (by first | assumption | omega) (by first | assumption | omega) (by first | assumption | omega) (by first | assumption | omega) (by first | assumption | omega) (by first | assumption | omega) (by first | omega | assumption) (by first | omega | assumption) (by first | omega | assumption) (by first | omega | assumption) (by first | assumption | omega)) (cwV 4 hts g_X8_comeNearPE__X7_lookPE_333 rfl rfl rfl (by decide +kernel) ⟨Nat.le_of_ble_eq_true rfl, Nat.le_of_ble_eq_true rfl⟩) ⟨fun a U g mk q => by obtain ⟨q0, q1, qP, qK, qD⟩ := q; exact ⟨q0, q1, qP, va_K.moved (u := U) (U := U.calling g mk a) (Vm.Alike.refl U.vm) qK, qD⟩, va_recv hKc hPc (ci := 7) (q0 := 0) rfl rfl, fun U hU hW => ⟨rfl, by rw [hU], by rw [hU]; exact hPc, va_K.moved hW.alike hKc, hDc.weaken (fun _ _ _ _ => trivial)⟩⟩ rfl rfl hl.1 rfl (lv_room (Nat.le_of_ble_eq_true rfl)) dX8_comeNear_67 ⟨Nat.le_of_ble_eq_true rfl, Nat.le_of_ble_eq_true rfl⟩) hS (fun q _ h => hFc q h) hFc (fun u_6 t H1 locs ht hvm hw_7 hB hz1 hk1 hS => ?_)
        obtain ⟨u9_8, l9_9, p9_10, hP1, hK1, hD1, hu9_11, hl9_12, hp9_13⟩ := hB
        rw [ht] at hP1
        have hK1 := va_K.moved hvm.symm hK1
        obtain ⟨hP, hD⟩ := va_joinP (wr := [(h0, .inr (8, [.ref n0, .ref s0, .ref s1, .ref d0, .ref o0, .int dn, .int nn, .int la, .int ne, .int wi, .ref w0, .ref e0, .ref f0, .ref t0, .ref b0, .int lm]))]) (rx := [(w0, .inr (7, [.long u9_8, .long l9_9, .long p9_10]))]) hP hD [1] [0] rfl rfl (by decide) (by decide) hk1 hFc hP1 hD1
        have hK := (hK.sub (tys' := [(cI, .int)]) [0] rfl).app hK1
        generalize H1 = H at hP hS ⊢
        have hP : va_P (dC, dI) vwCl (([(h0, .inr (8, [.ref n0, .ref s0, .ref s1, .ref d0, .ref o0, .int dn, .int nn, .int la, .int ne, .int wi, .ref w0, .ref e0, .ref f0, .ref t0, .ref b0, .int lm])), (w0, .inr (7, [.long u9_8, .long l9_9, .long p9_10]))] : va_W) ++ va_pl L f) H := hP
        have hD : va_D A (([(h0, .inr (8, [.ref n0, .ref s0, .ref s1, .ref d0, .ref o0, .int dn, .int nn, .int la, .int ne, .int wi, .ref w0, .ref e0, .ref f0, .ref t0, .ref b0, .int lm])), (w0, .inr (7, [.long u9_8, .long l9_9, .long p9_10]))] : va_W) ++ va_pl L f) := hD
        have hK : va_K (dC, dI) vwCl [(cI, .int)] s := hK
        refine W.widen (k := 0) (n := 0) (by omega) (by omega) ?_
        have eU : (u9_8).toInt = uK fi1 g1 fi2 g2 y_5.toInt k9.toInt := by show _ = wU _ (gB fi1 g1 fi2 g2 k9.toInt (k9.toInt < y_5.toInt)); rw [hu9_11, gB_eq (q := k9.toInt < y_5.toInt) ⟨fun z9 => by omega, fun z9 => by omega⟩]
        have eL : (l9_9).toInt = lK fi1 g1 fi2 g2 y_5.toInt k9.toInt := by show _ = wL _ (gB fi1 g1 fi2 g2 k9.toInt (k9.toInt < y_5.toInt)); rw [hl9_12, gB_eq (q := k9.toInt < y_5.toInt) ⟨fun z9 => by omega, fun z9 => by omega⟩]
        obtain ⟨⟨u1, u2⟩, ⟨l1, l2⟩, -⟩ := K_bd (f1 := fi1) (f2 := fi2) (k := k9.toInt) (b := y_5.toInt) hco1 hco2 (by omega) (by omega) (by omega) (by omega) (by omega)
        refine lv_aload_n hx hb dX8_comeNear_70 rfl (lv_at hl 0 rfl) ?_
        refine va_get (D := (dC, dI)) (ci := 8) (v := .ref w0) (C := RX8) (T := TX8) (N := 16) hx hb hts in_X8_comeNearPE_X8 hown hK hP 0 rfl rfl 10 (by decide) (hts (.fieldLink RX8 44 "MeetingsAbove" "way" "LMeetingsAbove$Way;") (by decide +kernel)) (fun _ h9 => h9) rfl dX8_comeNear_71 ?_
        refine va_get (D := (dC, dI)) (ci := 7) (v := .long u9_8) (C := RX7) (T := TX7) (N := 3) hx hb hts in_X8_comeNearPE_X7 hown hK hP 1 rfl rfl 0 (by decide) (hts (.fieldLink RX8 337 "MeetingsAbove$Way" "upper" "J") (by decide +kernel)) (fun _ h9 => h9) rfl dX8_comeNear_74 ?_
        refine lv_lload hx hb dX8_comeNear_77 (lv_at hl 5 rfl) ?_
        refine lv_aload_n hx hb dX8_comeNear_79 rfl (lv_at hl 0 rfl) ?_
        refine va_get (D := (dC, dI)) (ci := 8) (v := .ref w0) (C := RX8) (T := TX8) (N := 16) hx hb hts in_X8_comeNearPE_X8 hown hK hP 0 rfl rfl 10 (by decide) (hts (.fieldLink RX8 44 "MeetingsAbove" "way" "LMeetingsAbove$Way;") (by decide +kernel)) (fun _ h9 => h9) rfl dX8_comeNear_80 ?_
        refine va_get (D := (dC, dI)) (ci := 7) (v := .long l9_9) (C := RX7) (T := TX7) (N := 3) hx hb hts in_X8_comeNearPE_X7 hown hK hP 1 rfl rfl 1 (by decide) (hts (.fieldLink RX8 338 "MeetingsAbove$Way" "lower" "J") (by decide +kernel)) (fun _ h9 => h9) rfl dX8_comeNear_83 ?_
        refine lv_lmul hx hb dX8_comeNear_86 ?_
        refine lv_topl (fun y_14 ey_14 => ?_)
        have m2 := lm_ab 9000000 1200000000 ey_14 (by omega) (by omega) (by omega) (by omega) (by decide)
        have m3 : y_14.toInt = ne.toInt * ne.toInt * lK fi1 g1 fi2 g2 y_5.toInt k9.toInt := by rw [m2, m1, eL]
        refine W.lcmp hx hb dX8_comeNear_87 ?_
        refine lv_if_ge (tgt := 93) hx hb dX8_comeNear_88 (by decide) (fun c_88 => ?_) (fun c_88 => ?_)
        · have t_88 := (fa_le64 _ _).mp ((lg_cmp_ge _ _).mp c_88)
          obtain ⟨y_15, ey_15⟩ : ∃ y : Int32, y = k9 + 1 := ⟨_, rfl⟩
          have ty_15 : y_15.toInt = k9.toInt + 1 := by rw [ey_15]; have := fb_addI (x := k9) (y := 1) (by omega) (by omega); omega
          refine lv_iinc (v := y_15) (lv' := [(9, .int y_15), (0, .ref h0), (1, .ref h1), (2, .ref h2), (3, .int p1), (4, .int p2), (5, .long y_1), (7, .int y_3), (8, .int y_5)]) hx hb dX8_comeNear_93 hl (k := 8) rfl (by rw [ey_15]; rfl) (by decide) rfl (fun ls hl => ?_)
          refine lv_goto (tgt := 40) hx hb dX8_comeNear_96 (by decide) ?_
          exact ih_40 y_15 u9_8 l9_9 p9_10 (by omega) (by omega) (by intro k a9 b9; rcases (show k < k9.toInt ∨ k = k9.toInt by omega) with z | z <;> first | exact hNO k a9 z | (rw [z, ← eU, ← m3]; omega)) (by omega) H _ (hP.part [0, 1] rfl) (hD.part [0, 1] (by decide) rfl) hS ls (lv_sub hl [1, 2, 3, 4, 5, 6, 7, 8, 0] rfl)
        · have t_88 := mt (fa_le64 _ _).mpr (mt (lg_cmp_ge _ _).mpr c_88)
          refine lv_iconst (v := 1) hx hb dX8_comeNear_91 (by decide) ?_
          have hP9 := hP.part (cx := [(h0, .inr (8, [.ref n0, .ref s0, .ref s1, .ref d0, .ref o0, .int dn, .int nn, .int la, .int ne, .int wi, .ref w0, .ref e0, .ref f0, .ref t0, .ref b0, .int lm])), (w0, .inr (7, [.long u9_8, .long l9_9, .long p9_10]))]) [0, 1] rfl
          have hD9 := hD.part (cx := [(h0, .inr (8, [.ref n0, .ref s0, .ref s1, .ref d0, .ref o0, .int dn, .int nn, .int la, .int ne, .int wi, .ref w0, .ref e0, .ref f0, .ref t0, .ref b0, .int lm])), (w0, .inr (7, [.long u9_8, .long l9_9, .long p9_10]))]) [0, 1] (by decide) rfl
          have hK9 := hK.sub (tys' := []) [] rfl
          refine W.widen (k := 0) (n := 0) (by omega) (by omega) ?_
          exact W.zret (v := 1) hx hb hr rfl (fun t ht hW => ⟨⟨_, (), rfl, (Or.inl ⟨rfl, me_mk hA9 hB9 (k := k9.toInt) (by omega) (by omega) (by rw [← eU, ← m3]; omega)⟩), u9_8, l9_9, p9_10, by rw [ht]; exact hP9, va_K.moved hW.alike hK9, hD9⟩, hS.F ht⟩) hS.2.2 dX8_comeNear_92
      · have t_59 := mt (fa_le _ _).mpr c_59
        refine lv_iconst (v := 1) hx hb dX8_comeNear_62 (by decide) ?_
        refine lv_goto (tgt := 67) hx hb dX8_comeNear_63 (by decide) ?_
        have hPc := hP.part (cx := [(w0, .inr (7, [.long vu, .long vl, .long vp]))]) [1] rfl
        have hKc := hK.sub (tys' := [(cI, .int)]) [0] rfl
        have hDc := hD.part (cx := [(w0, .inr (7, [.long vu, .long vl, .long vp]))]) [1] (by decide) rfl
        have hFc := va_freeP (cx := [(w0, .inr (7, [.long vu, .long vl, .long vp]))]) hD hS hA [1] rfl
        refine va_callv (va_runV (As := [.ref h1, .ref h2, .int k9, .int 1]) (rest := []) ⟨hx, hb, hml, hown, hts⟩ (c_X7_lookPE l dC dI w0 vu vl vp h1 x1 fi1 pl1 db1 go1 g1 h2 x2 fi2 pl2 db2 go2 g2 cI L f k9 1 H.size (by first | assumption | omega) (by first | assumption | omega) (by first | assumption | omega) (by first | assumption | omega) (by first | assumption | omega) (by first | assumption | omega) (by first | assumption | omega) (by first | assumption | omega) (by first | assumption | omega) (by first | assumption | omega) (by first | assumption | omega) (by first | assumption | omega) (by first | omega | assumption) (by first | omega | assumption) (by first | omega | assumption) (by first | omega | assumption) (by first | assumption | omega)) (cwV 4 hts g_X8_comeNearPE__X7_lookPE_333 rfl rfl rfl (by decide +kernel) ⟨Nat.le_of_ble_eq_true rfl, Nat.le_of_ble_eq_true rfl⟩) ⟨fun a U g mk q => by obtain ⟨q0, q1, qP, qK, qD⟩ := q; exact ⟨q0, q1, qP, va_K.moved (u := U) (U := U.calling g mk a) (Vm.Alike.refl U.vm) qK, qD⟩, va_recv hKc hPc (ci := 7) (q0 := 0) rfl rfl, fun U hU hW => ⟨rfl, by rw [hU], by rw [hU]; exact hPc, va_K.moved hW.alike hKc, hDc.weaken (fun _ _ _ _ => trivial)⟩⟩ rfl rfl hl.1 rfl (lv_room (Nat.le_of_ble_eq_true rfl)) dX8_comeNear_67 ⟨Nat.le_of_ble_eq_true rfl, Nat.le_of_ble_eq_true rfl⟩) hS (fun q _ h => hFc q h) hFc (fun u_16 t H1 locs ht hvm hw_17 hB hz1 hk1 hS => ?_)
        obtain ⟨u9_18, l9_19, p9_20, hP1, hK1, hD1, hu9_21, hl9_22, hp9_23⟩ := hB
        rw [ht] at hP1
        have hK1 := va_K.moved hvm.symm hK1
        obtain ⟨hP, hD⟩ := va_joinP (wr := [(h0, .inr (8, [.ref n0, .ref s0, .ref s1, .ref d0, .ref o0, .int dn, .int nn, .int la, .int ne, .int wi, .ref w0, .ref e0, .ref f0, .ref t0, .ref b0, .int lm]))]) (rx := [(w0, .inr (7, [.long u9_18, .long l9_19, .long p9_20]))]) hP hD [1] [0] rfl rfl (by decide) (by decide) hk1 hFc hP1 hD1
        have hK := (hK.sub (tys' := [(cI, .int)]) [0] rfl).app hK1
        generalize H1 = H at hP hS ⊢
        have hP : va_P (dC, dI) vwCl (([(h0, .inr (8, [.ref n0, .ref s0, .ref s1, .ref d0, .ref o0, .int dn, .int nn, .int la, .int ne, .int wi, .ref w0, .ref e0, .ref f0, .ref t0, .ref b0, .int lm])), (w0, .inr (7, [.long u9_18, .long l9_19, .long p9_20]))] : va_W) ++ va_pl L f) H := hP
        have hD : va_D A (([(h0, .inr (8, [.ref n0, .ref s0, .ref s1, .ref d0, .ref o0, .int dn, .int nn, .int la, .int ne, .int wi, .ref w0, .ref e0, .ref f0, .ref t0, .ref b0, .int lm])), (w0, .inr (7, [.long u9_18, .long l9_19, .long p9_20]))] : va_W) ++ va_pl L f) := hD
        have hK : va_K (dC, dI) vwCl [(cI, .int)] s := hK
        refine W.widen (k := 0) (n := 0) (by omega) (by omega) ?_
        have eU : (u9_18).toInt = uK fi1 g1 fi2 g2 y_5.toInt k9.toInt := by show _ = wU _ (gB fi1 g1 fi2 g2 k9.toInt (k9.toInt < y_5.toInt)); rw [hu9_21, gB_eq (q := k9.toInt < y_5.toInt) ⟨fun z9 => by omega, fun z9 => by omega⟩]
        have eL : (l9_19).toInt = lK fi1 g1 fi2 g2 y_5.toInt k9.toInt := by show _ = wL _ (gB fi1 g1 fi2 g2 k9.toInt (k9.toInt < y_5.toInt)); rw [hl9_22, gB_eq (q := k9.toInt < y_5.toInt) ⟨fun z9 => by omega, fun z9 => by omega⟩]
        obtain ⟨⟨u1, u2⟩, ⟨l1, l2⟩, -⟩ := K_bd (f1 := fi1) (f2 := fi2) (k := k9.toInt) (b := y_5.toInt) hco1 hco2 (by omega) (by omega) (by omega) (by omega) (by omega)
        refine lv_aload_n hx hb dX8_comeNear_70 rfl (lv_at hl 0 rfl) ?_
        refine va_get (D := (dC, dI)) (ci := 8) (v := .ref w0) (C := RX8) (T := TX8) (N := 16) hx hb hts in_X8_comeNearPE_X8 hown hK hP 0 rfl rfl 10 (by decide) (hts (.fieldLink RX8 44 "MeetingsAbove" "way" "LMeetingsAbove$Way;") (by decide +kernel)) (fun _ h9 => h9) rfl dX8_comeNear_71 ?_
        refine va_get (D := (dC, dI)) (ci := 7) (v := .long u9_18) (C := RX7) (T := TX7) (N := 3) hx hb hts in_X8_comeNearPE_X7 hown hK hP 1 rfl rfl 0 (by decide) (hts (.fieldLink RX8 337 "MeetingsAbove$Way" "upper" "J") (by decide +kernel)) (fun _ h9 => h9) rfl dX8_comeNear_74 ?_
        refine lv_lload hx hb dX8_comeNear_77 (lv_at hl 5 rfl) ?_
        refine lv_aload_n hx hb dX8_comeNear_79 rfl (lv_at hl 0 rfl) ?_
        refine va_get (D := (dC, dI)) (ci := 8) (v := .ref w0) (C := RX8) (T := TX8) (N := 16) hx hb hts in_X8_comeNearPE_X8 hown hK hP 0 rfl rfl 10 (by decide) (hts (.fieldLink RX8 44 "MeetingsAbove" "way" "LMeetingsAbove$Way;") (by decide +kernel)) (fun _ h9 => h9) rfl dX8_comeNear_80 ?_
        refine va_get (D := (dC, dI)) (ci := 7) (v := .long l9_19) (C := RX7) (T := TX7) (N := 3) hx hb hts in_X8_comeNearPE_X7 hown hK hP 1 rfl rfl 1 (by decide) (hts (.fieldLink RX8 338 "MeetingsAbove$Way" "lower" "J") (by decide +kernel)) (fun _ h9 => h9) rfl dX8_comeNear_83 ?_
        refine lv_lmul hx hb dX8_comeNear_86 ?_
        refine lv_topl (fun y_24 ey_24 => ?_)
        have m2 := lm_ab 9000000 1200000000 ey_24 (by omega) (by omega) (by omega) (by omega) (by decide)
        have m3 : y_24.toInt = ne.toInt * ne.toInt * lK fi1 g1 fi2 g2 y_5.toInt k9.toInt := by rw [m2, m1, eL]
        refine W.lcmp hx hb dX8_comeNear_87 ?_
        refine lv_if_ge (tgt := 93) hx hb dX8_comeNear_88 (by decide) (fun c_88 => ?_) (fun c_88 => ?_)
        · have t_88 := (fa_le64 _ _).mp ((lg_cmp_ge _ _).mp c_88)
          obtain ⟨y_25, ey_25⟩ : ∃ y : Int32, y = k9 + 1 := ⟨_, rfl⟩
          have ty_25 : y_25.toInt = k9.toInt + 1 := by rw [ey_25]; have := fb_addI (x := k9) (y := 1) (by omega) (by omega); omega
          refine lv_iinc (v := y_25) (lv' := [(9, .int y_25), (0, .ref h0), (1, .ref h1), (2, .ref h2), (3, .int p1), (4, .int p2), (5, .long y_1), (7, .int y_3), (8, .int y_5)]) hx hb dX8_comeNear_93 hl (k := 8) rfl (by rw [ey_25]; rfl) (by decide) rfl (fun ls hl => ?_)
          refine lv_goto (tgt := 40) hx hb dX8_comeNear_96 (by decide) ?_
          exact ih_40 y_25 u9_18 l9_19 p9_20 (by omega) (by omega) (by intro k a9 b9; rcases (show k < k9.toInt ∨ k = k9.toInt by omega) with z | z <;> first | exact hNO k a9 z | (rw [z, ← eU, ← m3]; omega)) (by omega) H _ (hP.part [0, 1] rfl) (hD.part [0, 1] (by decide) rfl) hS ls (lv_sub hl [1, 2, 3, 4, 5, 6, 7, 8, 0] rfl)
        · have t_88 := mt (fa_le64 _ _).mpr (mt (lg_cmp_ge _ _).mpr c_88)
          refine lv_iconst (v := 1) hx hb dX8_comeNear_91 (by decide) ?_
          have hP9 := hP.part (cx := [(h0, .inr (8, [.ref n0, .ref s0, .ref s1, .ref d0, .ref o0, .int dn, .int nn, .int la, .int ne, .int wi, .ref w0, .ref e0, .ref f0, .ref t0, .ref b0, .int lm])), (w0, .inr (7, [.long u9_18, .long l9_19, .long p9_20]))]) [0, 1] rfl
          have hD9 := hD.part (cx := [(h0, .inr (8, [.ref n0, .ref s0, .ref s1, .ref d0, .ref o0, .int dn, .int nn, .int la, .int ne, .int wi, .ref w0, .ref e0, .ref f0, .ref t0, .ref b0, .int lm])), (w0, .inr (7, [.long u9_18, .long l9_19, .long p9_20]))]) [0, 1] (by decide) rfl
          have hK9 := hK.sub (tys' := []) [] rfl
          refine W.widen (k := 0) (n := 0) (by omega) (by omega) ?_
          exact W.zret (v := 1) hx hb hr rfl (fun t ht hW => ⟨⟨_, (), rfl, (Or.inl ⟨rfl, me_mk hA9 hB9 (k := k9.toInt) (by omega) (by omega) (by rw [← eU, ← m3]; omega)⟩), u9_18, l9_19, p9_20, by rw [ht]; exact hP9, va_K.moved hW.alike hK9, hD9⟩, hS.F ht⟩) hS.2.2 dX8_comeNear_92
