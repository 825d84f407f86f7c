def wk_X8_comeNearP : List Cond := .code yX8_comeNear cX8_comeNear 10 (some .boolean) :: (([.fieldLink RX8 34 "MeetingsAbove" "near" "I", .methodLink RX8 274 Lib.Math.max.name, .static Lib.Math.max.name, .initialized "java/lang/Math", .code Lib.Math.max.name Lib.Math.max.code 2 (some .int), .methodLink RX8 269 Lib.Math.min.name, .static Lib.Math.min.name, .code Lib.Math.min.name Lib.Math.min.code 2 (some .int), .fieldLink RX8 44 "MeetingsAbove" "way" "LMeetingsAbove$Way;", .fieldLink RX8 337 "MeetingsAbove$Way" "upper" "J", .fieldLink RX8 338 "MeetingsAbove$Way" "lower" "J"] : List Cond) ++ (wsX80 ++ (wsX70 ++ ((va_wsS RX8 173 yX8_firstTogether wk_X8_firstTogether) ++ ((va_wsS RX8 177 yX8_lastTogether wk_X8_lastTogether) ++ ((wsV RX8 333 RX7 yX7_look wk_X7_lookP) ++ ([])))))))
theorem in_X8_comeNearP_X7 : ∀ w ∈ wsX70, w ∈ wk_X8_comeNearP := fun _ h => List.mem_cons_of_mem _ (List.mem_append_right _ (List.mem_append_right _ (List.mem_append_left _ h)))
theorem in_X8_comeNearP_X8 : ∀ w ∈ wsX80, w ∈ wk_X8_comeNearP := fun _ h => List.mem_cons_of_mem _ (List.mem_append_right _ (List.mem_append_left _ h))
theorem gw_X8_comeNearP : AG wk_X8_comeNearP := AG_ca (AG_l (by decide +kernel)) (AG_app ag_X8 (AG_app ag_X7 (AG_app (AG_S gw_X8_firstTogether) (AG_app (AG_S gw_X8_lastTogether) (AG_app (AG_V gw_X7_lookP) (AG_nil))))))
theorem g_X8_comeNearP__X8_firstTogether_173 : GoodIn wk_X8_comeNearP (va_wsS RX8 173 yX8_firstTogether wk_X8_firstTogether) := goodIn_m (fun _ h => List.mem_cons_of_mem _ (List.mem_append_right _ (List.mem_append_right _ (List.mem_append_right _ (List.mem_append_left _ h))))) (AG_S gw_X8_firstTogether)
theorem g_X8_comeNearP__X8_lastTogether_177 : GoodIn wk_X8_comeNearP (va_wsS RX8 177 yX8_lastTogether wk_X8_lastTogether) := goodIn_m (fun _ h => List.mem_cons_of_mem _ (List.mem_append_right _ (List.mem_append_right _ (List.mem_append_right _ (List.mem_append_right _ (List.mem_append_left _ h)))))) (AG_S gw_X8_lastTogether)
theorem g_X8_comeNearP__X7_lookP_333 : GoodIn wk_X8_comeNearP (wsV RX8 333 RX7 yX7_look wk_X7_lookP) := goodIn_m (fun _ h => List.mem_cons_of_mem _ (List.mem_append_right _ (List.mem_append_right _ (List.mem_append_right _ (List.mem_append_right _ (List.mem_append_right _ (List.mem_append_left _ h))))))) (AG_V gw_X7_lookP)
set_option maxHeartbeats 4000000 in
set_option maxRecDepth 100000 in
theorem c_X8_comeNearP (l : Launch) (dC : Nat → ClassId) (dI : Nat → Nat → Nat) (h0 : Nat) (n0 : Nat) (s0 : Nat) (s1 : Nat) (d0 : Nat) (o0 : Nat) (w0 : Nat) (e0 : Nat) (f0 : Nat) (t0 : Nat) (b0 : Nat) (dn : Int32) (nn : Int32) (la : Int32) (ne : Int32) (wi : Int32) (lm : Int32) (wu : Int64) (wl : Int64) (wp : Int64) (h1 : Nat) (x1 : Nat) (fi1 : Int32) (pl1 : Int32) (db1 : Int32) (go1 : Int32) (g1 : Nat → Int32) (h2 : Nat) (x2 : Nat) (fi2 : Int32) (pl2 : Int32) (db2 : Int32) (go2 : Int32) (g2 : Nat → Int32) (cI : ClassId) (L : List Nat) (f : Nat → va_E) (p1 : Int32) (p2 : Int32) (sz : Nat) (hL1 : h1 ∈ L) (hX1 : x1 ∈ L) (hf1 : f h1 = .inr (6, [.ref x1, .int fi1, .int pl1, .int db1, .int go1])) (hg1 : f x1 = .inl (cI, 36, .inl g1)) (hL2 : h2 ∈ L) (hX2 : x2 ∈ L) (hf2 : f h2 = .inr (6, [.ref x2, .int fi2, .int pl2, .int db2, .int go2])) (hg2 : f x2 = .inl (cI, 36, .inl g2)) (ht1 : tOK fi1 pl1) (ht2 : tOK fi2 pl2) : Met l yX8_comeNear wk_X8_comeNearP ({ frames := 2, cells := 0, slots := 0, locals := 58 }) (va_Pc [.ref h0, .ref h1, .ref h2, .int p1, .int p2] (fun U => U.heap.size = sz ∧ va_P (dC, dI) vwCl (([(h0, .inr (8, [.ref n0, .ref s0, .ref s1, .ref d0, .ref o0, .int dn, .int nn, .int la, .int ne, .int wi, .ref w0, .ref e0, .ref f0, .ref t0, .ref b0, .int lm])), (w0, .inr (7, [.long wu, .long wl, .long wp]))] : va_W) ++ va_pl L f) U.heap ∧ va_K (dC, dI) vwCl [(cI, .int)] U ∧ va_D (fun _ => True) (([(h0, .inr (8, [.ref n0, .ref s0, .ref s1, .ref d0, .ref o0, .int dn, .int nn, .int la, .int ne, .int wi, .ref w0, .ref e0, .ref f0, .ref t0, .ref b0, .int lm])), (w0, .inr (7, [.long wu, .long wl, .long wp]))] : va_W) ++ va_pl L f))) (va_Qi (fun (r : Int32) (_ : Unit) => r = 1 ∨ r = 0) (fun (_ : Unit) (t : State) => ∃ (wu9 : Int64) (wl9 : Int64) (wp9 : Int64), va_P (dC, dI) vwCl (([(h0, .inr (8, [.ref n0, .ref s0, .ref s1, .ref d0, .ref o0, .int dn, .int nn, .int la, .int ne, .int wi, .ref w0, .ref e0, .ref f0, .ref t0, .ref b0, .int lm])), (w0, .inr (7, [.long wu9, .long wl9, .long wp9]))] : va_W) ++ va_pl L f) t.heap ∧ va_K (dC, dI) vwCl [] t ∧ va_D (va_A (([(h0, .inr (8, [.ref n0, .ref s0, .ref s1, .ref d0, .ref o0, .int dn, .int nn, .int la, .int ne, .int wi, .ref w0, .ref e0, .ref f0, .ref t0, .ref b0, .int lm])), (w0, .inr (7, [.long wu, .long wl, .long wp]))] : va_W) ++ va_pl L f) sz) (([(h0, .inr (8, [.ref n0, .ref s0, .ref s1, .ref d0, .ref o0, .int dn, .int nn, .int la, .int ne, .int wi, .ref w0, .ref e0, .ref f0, .ref t0, .ref b0, .int lm])), (w0, .inr (7, [.long wu9, .long wl9, .long wp9]))] : va_W) ++ va_pl L f)) (va_A (([(h0, .inr (8, [.ref n0, .ref s0, .ref s1, .ref d0, .ref o0, .int dn, .int nn, .int la, .int ne, .int wi, .ref w0, .ref e0, .ref f0, .ref t0, .ref b0, .int lm])), (w0, .inr (7, [.long wu, .long wl, .long wp]))] : va_W) ++ va_pl L f) sz)) 0 0 (va_A (([(h0, .inr (8, [.ref n0, .ref s0, .ref s1, .ref d0, .ref o0, .int dn, .int nn, .int la, .int ne, .int wi, .ref w0, .ref e0, .ref f0, .ref t0, .ref b0, .int lm])), (w0, .inr (7, [.long wu, .long wl, .long wp]))] : va_W) ++ va_pl L f) sz) := by
  refine Met.ofW (cc := cX8_comeNear) (maxL := 10) (ret := (some .boolean)) (by decide) rfl ?_
  intro p e s m args below meth c s₁ B hml hv
  obtain ⟨rfl, hsz, hP, hK, hD0⟩ := hv
  have hx := B.exec
  have hb := B.bytes
  have hr := B.returns
  have hts := atoms_spec (ws := wk_X8_comeNearP) B.pre
  have hown : s.vm.findClass RX8 = some m.cls := findClass_of_methodNamed B.named
  have hlocks := B.notSynchronized
  subst hsz
  have hD := hD0.self (sz := s.heap.size)
  generalize hAe : va_A (([(h0, .inr (8, [.ref n0, .ref s0, .ref s1, .ref d0, .ref o0, .int dn, .int nn, .int la, .int ne, .int wi, .ref w0, .ref e0, .ref f0, .ref t0, .ref b0, .int lm])), (w0, .inr (7, [.long wu, .long wl, .long wp]))] : va_W) ++ va_pl L f) s.heap.size = A at hD ⊢
  have hA : ∀ q : Nat, s.heap.size ≤ q → A q := fun q h => by rw [← hAe]; exact Or.inr h
  have hS : va_S A s.heap s.heap [] := va_S.rf
  have hP : va_P (dC, dI) vwCl (([(h0, .inr (8, [.ref n0, .ref s0, .ref s1, .ref d0, .ref o0, .int dn, .int nn, .int la, .int ne, .int wi, .ref w0, .ref e0, .ref f0, .ref t0, .ref b0, .int lm])), (w0, .inr (7, [.long wu, .long wl, .long wp]))] : va_W) ++ va_pl L f) s.heap := hP
  have hl := lv_entry ([.ref h0, .ref h1, .ref h2, .int p1, .int p2]) (n := 10) (Nat.le_of_ble_eq_true rfl)
  rw [lg_entry_eq]
  generalize (lg_sl ([.ref h0, .ref h1, .ref h2, .int p1, .int p2]) ++ List.replicate (10 - (lg_sl ([.ref h0, .ref h1, .ref h2, .int p1, .int p2])).length) Slot.unset).toArray = ls at hl ⊢
  have hl : lv_has ls 10 [(0, .ref h0), (1, .ref h1), (2, .ref h2), (3, .int p1), (4, .int p2)] := hl
  have kl_0 : (0 : Int32).toInt = 0 := by decide
  have kl_1 : (1 : Int32).toInt = 1 := by decide
  obtain ⟨qa1, qb1, qc1, qd1⟩ := id ht1
  obtain ⟨qa2, qb2, qc2, qd2⟩ := id ht2
  refine lv_aload_n hx hb dX8_comeNear_0 rfl (lv_at hl 0 rfl) ?_
  refine va_get (D := (dC, dI)) (ci := 8) (v := .int ne) (C := RX8) (T := TX8) (N := 16) hx hb hts in_X8_comeNearP_X8 hown hK hP 0 rfl rfl 8 (by decide) (hts (.fieldLink RX8 34 "MeetingsAbove" "near" "I") (by decide +kernel)) (fun _ h9 => h9) rfl dX8_comeNear_1 ?_
  refine lv_i2l hx hb dX8_comeNear_4 rfl ?_
  refine lv_aload_n hx hb dX8_comeNear_5 rfl (lv_at hl 0 rfl) ?_
  refine va_get (D := (dC, dI)) (ci := 8) (v := .int ne) (C := RX8) (T := TX8) (N := 16) hx hb hts in_X8_comeNearP_X8 hown hK hP 0 rfl rfl 8 (by decide) (hts (.fieldLink RX8 34 "MeetingsAbove" "near" "I") (by decide +kernel)) (fun _ h9 => h9) rfl dX8_comeNear_6 ?_
  refine lv_i2l hx hb dX8_comeNear_9 rfl ?_
  refine lv_lmul hx hb dX8_comeNear_10 ?_
  refine lv_topl (fun y_1 ey_1 => ?_)
  refine lv_lstore (lv' := [(5, .long y_1), (0, .ref h0), (1, .ref h1), (2, .ref h2), (3, .int p1), (4, .int p2)]) hx hb dX8_comeNear_11 hl (by decide) rfl (fun ls hl => ?_)
  refine lv_iload_n hx hb dX8_comeNear_13 rfl (lv_at hl 4 rfl) ?_
  refine lv_aload_n hx hb dX8_comeNear_14 rfl (lv_at hl 2 rfl) ?_
  refine lv_aload_n hx hb dX8_comeNear_15 rfl (lv_at hl 3 rfl) ?_
  have hPc : va_P (dC, dI) vwCl [(h1, .inr (6, [.ref x1, .int fi1, .int pl1, .int db1, .int go1])), (h2, .inr (6, [.ref x2, .int fi2, .int pl2, .int db2, .int go2]))] s.heap := P_cons (pl_at (X := [(h0, .inr (8, [.ref n0, .ref s0, .ref s1, .ref d0, .ref o0, .int dn, .int nn, .int la, .int ne, .int wi, .ref w0, .ref e0, .ref f0, .ref t0, .ref b0, .int lm])), (w0, .inr (7, [.long wu, .long wl, .long wp]))]) hP hL1 hf1) (P_cons (pl_at (X := [(h0, .inr (8, [.ref n0, .ref s0, .ref s1, .ref d0, .ref o0, .int dn, .int nn, .int la, .int ne, .int wi, .ref w0, .ref e0, .ref f0, .ref t0, .ref b0, .int lm])), (w0, .inr (7, [.long wu, .long wl, .long wp]))]) hP hL2 hf2) (P_nil))
  have hKc := hK.sub (tys' := []) [] rfl
  refine vp_callSi (W.runS (As := [.ref h1, .ref h2]) (rest := [.int p1]) ⟨hx, hb, hml, hown, hts⟩ (c_X8_firstTogether l dC dI h1 x1 fi1 pl1 db1 go1 h2 x2 fi2 pl2 db2 go2) (va_cwS 2 hts g_X8_comeNearP__X8_firstTogether_173 rfl rfl rfl (by decide +kernel) ⟨Nat.le_of_ble_eq_true rfl, Nat.le_of_ble_eq_true rfl⟩) ⟨fun a U g mk q => by obtain ⟨q0, qP, qK⟩ := q; exact ⟨q0, qP, va_K.moved (u := U) (U := U.calling g mk a) (Vm.Alike.refl U.vm) qK⟩, fun U hU hW => ⟨rfl, by rw [hU]; exact hPc, va_K.moved hW.alike hKc⟩⟩ rfl rfl hl.1 rfl (lv_room (Nat.le_of_ble_eq_true rfl)) dX8_comeNear_16 ⟨Nat.le_of_ble_eq_true rfl, Nat.le_of_ble_eq_true rfl⟩) (fun r_2 hr_2 => ?_)
  try dsimp only at hr_2
  refine va_mmax hx hb (by rw [hml]; exact hl.1.symm) hown (hts (.methodLink RX8 274 Lib.Math.max.name) (by decide +kernel)) (hts (.static Lib.Math.max.name) (by decide +kernel)) (hts (.initialized "java/lang/Math") (by decide +kernel)) (hts _ (List.mem_of_getElem? (i := 5) rfl)) (Nat.le_of_ble_eq_true rfl) (Nat.le_of_ble_eq_true rfl) (Nat.le_of_ble_eq_true rfl) (Nat.le_of_ble_eq_true rfl) dX8_comeNear_19 ?_
  refine lv_topi (fun y_3 ey_3 => ?_)
  have ty_3 := max_I ey_3
  refine lv_istore (lv' := [(7, .int y_3), (5, .long y_1), (0, .ref h0), (1, .ref h1), (2, .ref h2), (3, .int p1), (4, .int p2)]) hx hb dX8_comeNear_22 hl (by decide) rfl (fun ls hl => ?_)
  refine lv_iload hx hb dX8_comeNear_24 (lv_at hl 6 rfl) ?_
  refine lv_aload_n hx hb dX8_comeNear_26 rfl (lv_at hl 3 rfl) ?_
  refine lv_aload_n hx hb dX8_comeNear_27 rfl (lv_at hl 4 rfl) ?_
  have hPc : va_P (dC, dI) vwCl [(h1, .inr (6, [.ref x1, .int fi1, .int pl1, .int db1, .int go1])), (h2, .inr (6, [.ref x2, .int fi2, .int pl2, .int db2, .int go2]))] s.heap := P_cons (pl_at (X := [(h0, .inr (8, [.ref n0, .ref s0, .ref s1, .ref d0, .ref o0, .int dn, .int nn, .int la, .int ne, .int wi, .ref w0, .ref e0, .ref f0, .ref t0, .ref b0, .int lm])), (w0, .inr (7, [.long wu, .long wl, .long wp]))]) hP hL1 hf1) (P_cons (pl_at (X := [(h0, .inr (8, [.ref n0, .ref s0, .ref s1, .ref d0, .ref o0, .int dn, .int nn, .int la, .int ne, .int wi, .ref w0, .ref e0, .ref f0, .ref t0, .ref b0, .int lm])), (w0, .inr (7, [.long wu, .long wl, .long wp]))]) hP hL2 hf2) (P_nil))
  have hKc := hK.sub (tys' := []) [] rfl
  refine vp_callSi (W.runS (As := [.ref h1, .ref h2]) (rest := [.int p2]) ⟨hx, hb, hml, hown, hts⟩ (c_X8_lastTogether l dC dI h1 x1 fi1 pl1 db1 go1 h2 x2 fi2 pl2 db2 go2 (by first | assumption | omega) (by first | assumption | omega)) (va_cwS 2 hts g_X8_comeNearP__X8_lastTogether_177 rfl rfl rfl (by decide +kernel) ⟨Nat.le_of_ble_eq_true rfl, Nat.le_of_ble_eq_true rfl⟩) ⟨fun a U g mk q => by obtain ⟨q0, qP, qK⟩ := q; exact ⟨q0, qP, va_K.moved (u := U) (U := U.calling g mk a) (Vm.Alike.refl U.vm) qK⟩, fun U hU hW => ⟨rfl, by rw [hU]; exact hPc, va_K.moved hW.alike hKc⟩⟩ rfl rfl hl.1 rfl (lv_room (Nat.le_of_ble_eq_true rfl)) dX8_comeNear_28 ⟨Nat.le_of_ble_eq_true rfl, Nat.le_of_ble_eq_true rfl⟩) (fun r_4 hr_4 => ?_)
  try dsimp only at hr_4
  refine va_mmin hx hb (by rw [hml]; exact hl.1.symm) hown (hts (.methodLink RX8 269 Lib.Math.min.name) (by decide +kernel)) (hts (.static Lib.Math.min.name) (by decide +kernel)) (hts (.initialized "java/lang/Math") (by decide +kernel)) (hts _ (List.mem_of_getElem? (i := 8) rfl)) (Nat.le_of_ble_eq_true rfl) (Nat.le_of_ble_eq_true rfl) (Nat.le_of_ble_eq_true rfl) (Nat.le_of_ble_eq_true rfl) dX8_comeNear_31 ?_
  refine lv_topi (fun y_5 ey_5 => ?_)
  have ty_5 := min_I ey_5
  refine lv_istore (lv' := [(8, .int y_5), (7, .int y_3), (5, .long y_1), (0, .ref h0), (1, .ref h1), (2, .ref h2), (3, .int p1), (4, .int p2)]) hx hb dX8_comeNear_34 hl (by decide) rfl (fun ls hl => ?_)
  refine lv_iload hx hb dX8_comeNear_36 (lv_at hl 1 rfl) ?_
  refine lv_istore (lv' := [(9, .int y_3), (8, .int y_5), (7, .int y_3), (5, .long y_1), (0, .ref h0), (1, .ref h1), (2, .ref h2), (3, .int p1), (4, .int p2)]) hx hb dX8_comeNear_38 hl (by decide) rfl (fun ls hl => ?_)
  refine (show ∀ (k : Nat) (k9 : Int32) (vu : Int64) (vl : Int64) (vp : Int64) (hk0 : y_3.toInt ≤ k9.toInt) (hk1 : k9.toInt ≤ y_5.toInt + 1 ∨ k9.toInt = y_3.toInt) (hk_40 : (y_5.toInt + 1 - k9.toInt).toNat < k) (H : Heap) (locs : List Loc) (hP : va_P (dC, dI) vwCl (([(h0, .inr (8, [.ref n0, .ref s0, .ref s1, .ref d0, .ref o0, .int dn, .int nn, .int la, .int ne, .int wi, .ref w0, .ref e0, .ref f0, .ref t0, .ref b0, .int lm])), (w0, .inr (7, [.long vu, .long vl, .long vp]))] : va_W) ++ va_pl L f) H) (hD : va_D A (([(h0, .inr (8, [.ref n0, .ref s0, .ref s1, .ref d0, .ref o0, .int dn, .int nn, .int la, .int ne, .int wi, .ref w0, .ref e0, .ref f0, .ref t0, .ref b0, .int lm])), (w0, .inr (7, [.long vu, .long vl, .long vp]))] : va_W) ++ va_pl L f)) (hS : va_S A s.heap H locs) (ls : Array Slot) (hl : lv_has ls 10 [(0, .ref h0), (1, .ref h1), (2, .ref h2), (3, .int p1), (4, .int p2), (5, .long y_1), (7, .int y_3), (8, .int y_5), (9, .int k9)]), W p l e _ s m _ below meth c H locs 0 0 _ (F0 m 40 ls []) from ?_) _ y_3 wu wl wp (by omega) (by omega) (Nat.lt_succ_self _) _ _ hP hD hS ls (lv_sub hl [4, 5, 6, 7, 8, 3, 2, 1, 0] rfl)
  intro k
  induction k with
  | zero => intro k9 vu vl vp hk0 hk1 hk_40; exact absurd hk_40 (Nat.not_lt_zero _)
  | succ k ih_40 =>
    intro k9 vu vl vp hk0 hk1 hk_40 H locs hP hD hS ls hl
    refine lv_iload hx hb dX8_comeNear_40 (lv_at hl 8 rfl) ?_
    refine lv_iload hx hb dX8_comeNear_42 (lv_at hl 7 rfl) ?_
    refine lv_icmp_gt (tgt := 99) hx hb dX8_comeNear_44 (by decide) (fun c_44 => ?_) (fun c_44 => ?_)
    · have t_44 := (fa_lt _ _).mp c_44
      refine lv_iconst (v := 0) hx hb dX8_comeNear_99 (by decide) ?_
      have hP9 := hP.part (cx := [(h0, .inr (8, [.ref n0, .ref s0, .ref s1, .ref d0, .ref o0, .int dn, .int nn, .int la, .int ne, .int wi, .ref w0, .ref e0, .ref f0, .ref t0, .ref b0, .int lm])), (w0, .inr (7, [.long vu, .long vl, .long vp]))]) [0, 1] rfl
      have hD9 := hD.part (cx := [(h0, .inr (8, [.ref n0, .ref s0, .ref s1, .ref d0, .ref o0, .int dn, .int nn, .int la, .int ne, .int wi, .ref w0, .ref e0, .ref f0, .ref t0, .ref b0, .int lm])), (w0, .inr (7, [.long vu, .long vl, .long vp]))]) [0, 1] (by decide) rfl
      have hK9 := hK.sub (tys' := []) [] rfl
      refine W.widen (k := 0) (n := 0) (by omega) (by omega) ?_
      exact W.zret (v := 0) hx hb hr rfl (fun t ht hW => ⟨⟨_, (), rfl, (by first | exact Or.inl rfl | exact Or.inr rfl), vu, vl, vp, by rw [ht]; exact hP9, va_K.moved hW.alike hK9, hD9⟩, hS.F ht⟩) hS.2.2 dX8_comeNear_100
    · have t_44 := mt (fa_lt _ _).mpr c_44
      refine lv_aload_n hx hb dX8_comeNear_47 rfl (lv_at hl 0 rfl) ?_
      refine va_get (D := (dC, dI)) (ci := 8) (v := .ref w0) (C := RX8) (T := TX8) (N := 16) hx hb hts in_X8_comeNearP_X8 hown hK hP 0 rfl rfl 10 (by decide) (hts (.fieldLink RX8 44 "MeetingsAbove" "way" "LMeetingsAbove$Way;") (by decide +kernel)) (fun _ h9 => h9) rfl dX8_comeNear_48 ?_
      refine lv_aload_n hx hb dX8_comeNear_51 rfl (lv_at hl 1 rfl) ?_
      refine lv_aload_n hx hb dX8_comeNear_52 rfl (lv_at hl 2 rfl) ?_
      refine lv_iload hx hb dX8_comeNear_53 (lv_at hl 8 rfl) ?_
      refine lv_iload hx hb dX8_comeNear_55 (lv_at hl 8 rfl) ?_
      refine lv_iload hx hb dX8_comeNear_57 (lv_at hl 7 rfl) ?_
      refine lv_icmp_ge (tgt := 66) hx hb dX8_comeNear_59 (by decide) (fun c_59 => ?_) (fun c_59 => ?_)
      · have t_59 := (fa_le _ _).mp c_59
        refine lv_iconst (v := 0) hx hb dX8_comeNear_66 (by decide) ?_
        have hPc := hP.part (cx := [(w0, .inr (7, [.long vu, .long vl, .long vp]))]) [1] rfl
        have hKc := hK.sub (tys' := [(cI, .int)]) [0] rfl
        have hDc := hD.part (cx := [(w0, .inr (7, [.long vu, .long vl, .long vp]))]) [1] (by decide) rfl
        have hFc := va_freeP (cx := [(w0, .inr (7, [.long vu, .long vl, .long vp]))]) hD hS hA [1] rfl
        refine va_callv (va_runV (As := [.ref h1, .ref h2, .int k9, .int 0]) (rest := []) ⟨hx, hb, hml, hown, hts⟩ (c_X7_lookP l dC dI w0 vu vl vp h1 x1 fi1 pl1 db1 go1 g1 h2 x2 fi2 pl2 db2 go2 g2 cI L f k9 0 H.size (by first | assumption | omega) (by first | assumption | omega) (by first | assumption | omega) (by first | assumption | omega) (by first | assumption | omega) (by first | assumption | omega) (by first | assumption | omega) (by first | assumption | omega) (by first | assumption | omega) (by first | assumption | omega) (by first | omega | assumption) (by first | omega | assumption) (by first | omega | assumption) (by first | omega | assumption) (by first | assumption | omega)) (cwV 4 hts g_X8_comeNearP__X7_lookP_333 rfl rfl rfl (by decide +kernel) ⟨Nat.le_of_ble_eq_true rfl, Nat.le_of_ble_eq_true rfl⟩) ⟨fun a U g mk q => by obtain ⟨q0, q1, qP, qK, qD⟩ := q; exact ⟨q0, q1, qP, va_K.moved (u := U) (U := U.calling g mk a) (Vm.Alike.refl U.vm) qK, qD⟩, va_recv hKc hPc (ci := 7) (q0 := 0) rfl rfl, fun U hU hW => ⟨rfl, by rw [hU], by rw [hU]; exact hPc, va_K.moved hW.alike hKc, hDc.weaken (fun _ _ _ _ => trivial)⟩⟩ rfl rfl hl.1 rfl (lv_room (Nat.le_of_ble_eq_true rfl)) dX8_comeNear_67 ⟨Nat.le_of_ble_eq_true rfl, Nat.le_of_ble_eq_true rfl⟩) hS (fun q _ h => hFc q h) hFc (fun u_6 t H1 locs ht hvm hw_7 hB hz1 hk1 hS => ?_)
        obtain ⟨u9_8, l9_9, p9_10, hP1, hK1, hD1⟩ := hB
        rw [ht] at hP1
        have hK1 := va_K.moved hvm.symm hK1
        obtain ⟨hP, hD⟩ := va_joinP (wr := [(h0, .inr (8, [.ref n0, .ref s0, .ref s1, .ref d0, .ref o0, .int dn, .int nn, .int la, .int ne, .int wi, .ref w0, .ref e0, .ref f0, .ref t0, .ref b0, .int lm]))]) (rx := [(w0, .inr (7, [.long u9_8, .long l9_9, .long p9_10]))]) hP hD [1] [0] rfl rfl (by decide) (by decide) hk1 hFc hP1 hD1
        have hK := (hK.sub (tys' := [(cI, .int)]) [0] rfl).app hK1
        generalize H1 = H at hP hS ⊢
        have hP : va_P (dC, dI) vwCl (([(h0, .inr (8, [.ref n0, .ref s0, .ref s1, .ref d0, .ref o0, .int dn, .int nn, .int la, .int ne, .int wi, .ref w0, .ref e0, .ref f0, .ref t0, .ref b0, .int lm])), (w0, .inr (7, [.long u9_8, .long l9_9, .long p9_10]))] : va_W) ++ va_pl L f) H := hP
        have hD : va_D A (([(h0, .inr (8, [.ref n0, .ref s0, .ref s1, .ref d0, .ref o0, .int dn, .int nn, .int la, .int ne, .int wi, .ref w0, .ref e0, .ref f0, .ref t0, .ref b0, .int lm])), (w0, .inr (7, [.long u9_8, .long l9_9, .long p9_10]))] : va_W) ++ va_pl L f) := hD
        have hK : va_K (dC, dI) vwCl [(cI, .int)] s := hK
        refine W.widen (k := 0) (n := 0) (by omega) (by omega) ?_
        refine lv_aload_n hx hb dX8_comeNear_70 rfl (lv_at hl 0 rfl) ?_
        refine va_get (D := (dC, dI)) (ci := 8) (v := .ref w0) (C := RX8) (T := TX8) (N := 16) hx hb hts in_X8_comeNearP_X8 hown hK hP 0 rfl rfl 10 (by decide) (hts (.fieldLink RX8 44 "MeetingsAbove" "way" "LMeetingsAbove$Way;") (by decide +kernel)) (fun _ h9 => h9) rfl dX8_comeNear_71 ?_
        refine va_get (D := (dC, dI)) (ci := 7) (v := .long u9_8) (C := RX7) (T := TX7) (N := 3) hx hb hts in_X8_comeNearP_X7 hown hK hP 1 rfl rfl 0 (by decide) (hts (.fieldLink RX8 337 "MeetingsAbove$Way" "upper" "J") (by decide +kernel)) (fun _ h9 => h9) rfl dX8_comeNear_74 ?_
        refine lv_lload hx hb dX8_comeNear_77 (lv_at hl 5 rfl) ?_
        refine lv_aload_n hx hb dX8_comeNear_79 rfl (lv_at hl 0 rfl) ?_
        refine va_get (D := (dC, dI)) (ci := 8) (v := .ref w0) (C := RX8) (T := TX8) (N := 16) hx hb hts in_X8_comeNearP_X8 hown hK hP 0 rfl rfl 10 (by decide) (hts (.fieldLink RX8 44 "MeetingsAbove" "way" "LMeetingsAbove$Way;") (by decide +kernel)) (fun _ h9 => h9) rfl dX8_comeNear_80 ?_
        refine va_get (D := (dC, dI)) (ci := 7) (v := .long l9_9) (C := RX7) (T := TX7) (N := 3) hx hb hts in_X8_comeNearP_X7 hown hK hP 1 rfl rfl 1 (by decide) (hts (.fieldLink RX8 338 "MeetingsAbove$Way" "lower" "J") (by decide +kernel)) (fun _ h9 => h9) rfl dX8_comeNear_83 ?_
        refine lv_lmul hx hb dX8_comeNear_86 ?_
        refine lv_topl (fun y_11 ey_11 => ?_)
        refine W.lcmp hx hb dX8_comeNear_87 ?_
        refine lv_if_ge (tgt := 93) hx hb dX8_comeNear_88 (by decide) (fun c_88 => ?_) (fun c_88 => ?_)
        · have t_88 := (fa_le64 _ _).mp ((lg_cmp_ge _ _).mp c_88)
          obtain ⟨y_12, ey_12⟩ : ∃ y : Int32, y = k9 + 1 := ⟨_, rfl⟩
          have ty_12 : y_12.toInt = k9.toInt + 1 := by rw [ey_12]; have := fb_addI (x := k9) (y := 1) (by omega) (by omega); omega
          refine lv_iinc (v := y_12) (lv' := [(9, .int y_12), (0, .ref h0), (1, .ref h1), (2, .ref h2), (3, .int p1), (4, .int p2), (5, .long y_1), (7, .int y_3), (8, .int y_5)]) hx hb dX8_comeNear_93 hl (k := 8) rfl (by rw [ey_12]; rfl) (by decide) rfl (fun ls hl => ?_)
          refine lv_goto (tgt := 40) hx hb dX8_comeNear_96 (by decide) ?_
          exact ih_40 y_12 u9_8 l9_9 p9_10 (by omega) (by omega) (by omega) H _ (hP.part [0, 1] rfl) (hD.part [0, 1] (by decide) rfl) hS ls (lv_sub hl [1, 2, 3, 4, 5, 6, 7, 8, 0] rfl)
        · have t_88 := mt (fa_le64 _ _).mpr (mt (lg_cmp_ge _ _).mpr c_88)
          refine lv_iconst (v := 1) hx hb dX8_comeNear_91 (by decide) ?_
          have hP9 := hP.part (cx := [(h0, .inr (8, [.ref n0, .ref s0, .ref s1, .ref d0, .ref o0, .int dn, .int nn, .int la, .int ne, .int wi, .ref w0, .ref e0, .ref f0, .ref t0, .ref b0, .int lm])), (w0, .inr (7, [.long u9_8, .long l9_9, .long p9_10]))]) [0, 1] rfl
          have hD9 := hD.part (cx := [(h0, .inr (8, [.ref n0, .ref s0, .ref s1, .ref d0, .ref o0, .int dn, .int nn, .int la, .int ne, .int wi, .ref w0, .ref e0, .ref f0, .ref t0, .ref b0, .int lm])), (w0, .inr (7, [.long u9_8, .long l9_9, .long p9_10]))]) [0, 1] (by decide) rfl
          have hK9 := hK.sub (tys' := []) [] rfl
          refine W.widen (k := 0) (n := 0) (by omega) (by omega) ?_
          exact W.zret (v := 1) hx hb hr rfl (fun t ht hW => ⟨⟨_, (), rfl, (by first | exact Or.inl rfl | exact Or.inr rfl), u9_8, l9_9, p9_10, by rw [ht]; exact hP9, va_K.moved hW.alike hK9, hD9⟩, hS.F ht⟩) hS.2.2 dX8_comeNear_92
      · have t_59 := mt (fa_le _ _).mpr c_59
        refine lv_iconst (v := 1) hx hb dX8_comeNear_62 (by decide) ?_
        refine lv_goto (tgt := 67) hx hb dX8_comeNear_63 (by decide) ?_
        have hPc := hP.part (cx := [(w0, .inr (7, [.long vu, .long vl, .long vp]))]) [1] rfl
        have hKc := hK.sub (tys' := [(cI, .int)]) [0] rfl
        have hDc := hD.part (cx := [(w0, .inr (7, [.long vu, .long vl, .long vp]))]) [1] (by decide) rfl
        have hFc := va_freeP (cx := [(w0, .inr (7, [.long vu, .long vl, .long vp]))]) hD hS hA [1] rfl
        refine va_callv (va_runV (As := [.ref h1, .ref h2, .int k9, .int 1]) (rest := []) ⟨hx, hb, hml, hown, hts⟩ (c_X7_lookP l dC dI w0 vu vl vp h1 x1 fi1 pl1 db1 go1 g1 h2 x2 fi2 pl2 db2 go2 g2 cI L f k9 1 H.size (by first | assumption | omega) (by first | assumption | omega) (by first | assumption | omega) (by first | assumption | omega) (by first | assumption | omega) (by first | assumption | omega) (by first | assumption | omega) (by first | assumption | omega) (by first | assumption | omega) (by first | assumption | omega) (by first | omega | assumption) (by first | omega | assumption) (by first | omega | assumption) (by first | omega | assumption) (by first | assumption | omega)) (cwV 4 hts g_X8_comeNearP__X7_lookP_333 rfl rfl rfl (by decide +kernel) ⟨Nat.le_of_ble_eq_true rfl, Nat.le_of_ble_eq_true rfl⟩) ⟨fun a U g mk q => by obtain ⟨q0, q1, qP, qK, qD⟩ := q; exact ⟨q0, q1, qP, va_K.moved (u := U) (U := U.calling g mk a) (Vm.Alike.refl U.vm) qK, qD⟩, va_recv hKc hPc (ci := 7) (q0 := 0) rfl rfl, fun U hU hW => ⟨rfl, by rw [hU], by rw [hU]; exact hPc, va_K.moved hW.alike hKc, hDc.weaken (fun _ _ _ _ => trivial)⟩⟩ rfl rfl hl.1 rfl (lv_room (Nat.le_of_ble_eq_true rfl)) dX8_comeNear_67 ⟨Nat.le_of_ble_eq_true rfl, Nat.le_of_ble_eq_true rfl⟩) hS (fun q _ h => hFc q h) hFc (fun u_13 t H1 locs ht hvm hw_14 hB hz1 hk1 hS => ?_)
        obtain ⟨u9_15, l9_16, p9_17, hP1, hK1, hD1⟩ := hB
        rw [ht] at hP1
        have hK1 := va_K.moved hvm.symm hK1
        obtain ⟨hP, hD⟩ := va_joinP (wr := [(h0, .inr (8, [.ref n0, .ref s0, .ref s1, .ref d0, .ref o0, .int dn, .int nn, .int la, .int ne, .int wi, .ref w0, .ref e0, .ref f0, .ref t0, .ref b0, .int lm]))]) (rx := [(w0, .inr (7, [.long u9_15, .long l9_16, .long p9_17]))]) hP hD [1] [0] rfl rfl (by decide) (by decide) hk1 hFc hP1 hD1
        have hK := (hK.sub (tys' := [(cI, .int)]) [0] rfl).app hK1
        generalize H1 = H at hP hS ⊢
        have hP : va_P (dC, dI) vwCl (([(h0, .inr (8, [.ref n0, .ref s0, .ref s1, .ref d0, .ref o0, .int dn, .int nn, .int la, .int ne, .int wi, .ref w0, .ref e0, .ref f0, .ref t0, .ref b0, .int lm])), (w0, .inr (7, [.long u9_15, .long l9_16, .long p9_17]))] : va_W) ++ va_pl L f) H := hP
        have hD : va_D A (([(h0, .inr (8, [.ref n0, .ref s0, .ref s1, .ref d0, .ref o0, .int dn, .int nn, .int la, .int ne, .int wi, .ref w0, .ref e0, .ref f0, .ref t0, .ref b0, .int lm])), (w0, .inr (7, [.long u9_15, .long l9_16, .long p9_17]))] : va_W) ++ va_pl L f) := hD
        have hK : va_K (dC, dI) vwCl [(cI, .int)] s := hK
        refine W.widen (k := 0) (n := 0) (by omega) (by omega) ?_
        refine lv_aload_n hx hb dX8_comeNear_70 rfl (lv_at hl 0 rfl) ?_
        refine va_get (D := (dC, dI)) (ci := 8) (v := .ref w0) (C := RX8) (T := TX8) (N := 16) hx hb hts in_X8_comeNearP_X8 hown hK hP 0 rfl rfl 10 (by decide) (hts (.fieldLink RX8 44 "MeetingsAbove" "way" "LMeetingsAbove$Way;") (by decide +kernel)) (fun _ h9 => h9) rfl dX8_comeNear_71 ?_
        refine va_get (D := (dC, dI)) (ci := 7) (v := .long u9_15) (C := RX7) (T := TX7) (N := 3) hx hb hts in_X8_comeNearP_X7 hown hK hP 1 rfl rfl 0 (by decide) (hts (.fieldLink RX8 337 "MeetingsAbove$Way" "upper" "J") (by decide +kernel)) (fun _ h9 => h9) rfl dX8_comeNear_74 ?_
        refine lv_lload hx hb dX8_comeNear_77 (lv_at hl 5 rfl) ?_
        refine lv_aload_n hx hb dX8_comeNear_79 rfl (lv_at hl 0 rfl) ?_
        refine va_get (D := (dC, dI)) (ci := 8) (v := .ref w0) (C := RX8) (T := TX8) (N := 16) hx hb hts in_X8_comeNearP_X8 hown hK hP 0 rfl rfl 10 (by decide) (hts (.fieldLink RX8 44 "MeetingsAbove" "way" "LMeetingsAbove$Way;") (by decide +kernel)) (fun _ h9 => h9) rfl dX8_comeNear_80 ?_
        refine va_get (D := (dC, dI)) (ci := 7) (v := .long l9_16) (C := RX7) (T := TX7) (N := 3) hx hb hts in_X8_comeNearP_X7 hown hK hP 1 rfl rfl 1 (by decide) (hts (.fieldLink RX8 338 "MeetingsAbove$Way" "lower" "J") (by decide +kernel)) (fun _ h9 => h9) rfl dX8_comeNear_83 ?_
        refine lv_lmul hx hb dX8_comeNear_86 ?_
        refine lv_topl (fun y_18 ey_18 => ?_)
        refine W.lcmp hx hb dX8_comeNear_87 ?_
        refine lv_if_ge (tgt := 93) hx hb dX8_comeNear_88 (by decide) (fun c_88 => ?_) (fun c_88 => ?_)
        · have t_88 := (fa_le64 _ _).mp ((lg_cmp_ge _ _).mp c_88)
          obtain ⟨y_19, ey_19⟩ : ∃ y : Int32, y = k9 + 1 := ⟨_, rfl⟩
          have ty_19 : y_19.toInt = k9.toInt + 1 := by rw [ey_19]; have := fb_addI (x := k9) (y := 1) (by omega) (by omega); omega
          refine lv_iinc (v := y_19) (lv' := [(9, .int y_19), (0, .ref h0), (1, .ref h1), (2, .ref h2), (3, .int p1), (4, .int p2), (5, .long y_1), (7, .int y_3), (8, .int y_5)]) hx hb dX8_comeNear_93 hl (k := 8) rfl (by rw [ey_19]; rfl) (by decide) rfl (fun ls hl => ?_)
          refine lv_goto (tgt := 40) hx hb dX8_comeNear_96 (by decide) ?_
          exact ih_40 y_19 u9_15 l9_16 p9_17 (by omega) (by omega) (by omega) H _ (hP.part [0, 1] rfl) (hD.part [0, 1] (by decide) rfl) hS ls (lv_sub hl [1, 2, 3, 4, 5, 6, 7, 8, 0] rfl)
        · have t_88 := mt (fa_le64 _ _).mpr (mt (lg_cmp_ge _ _).mpr c_88)
          refine lv_iconst (v := 1) hx hb dX8_comeNear_91 (by decide) ?_
          have hP9 := hP.part (cx := [(h0, .inr (8, [.ref n0, .ref s0, .ref s1, .ref d0, .ref o0, .int dn, .int nn, .int la, .int ne, .int wi, .ref w0, .ref e0, .ref f0, .ref t0, .ref b0, .int lm])), (w0, .inr (7, [.long u9_15, .long l9_16, .long p9_17]))]) [0, 1] rfl
          have hD9 := hD.part (cx := [(h0, .inr (8, [.ref n0, .ref s0, .ref s1, .ref d0, .ref o0, .int dn, .int nn, .int la, .int ne, .int wi, .ref w0, .ref e0, .ref f0, .ref t0, .ref b0, .int lm])), (w0, .inr (7, [.long u9_15, .long l9_16, .long p9_17]))]) [0, 1] (by decide) rfl
          have hK9 := hK.sub (tys' := []) [] rfl
          refine W.widen (k := 0) (n := 0) (by omega) (by omega) ?_
          exact W.zret (v := 1) hx hb hr rfl (fun t ht hW => ⟨⟨_, (), rfl, (by first | exact Or.inl rfl | exact Or.inr rfl), u9_15, l9_16, p9_17, by rw [ht]; exact hP9, va_K.moved hW.alike hK9, hD9⟩, hS.F ht⟩) hS.2.2 dX8_comeNear_92
def wk_X8_findNearestP : List Cond := .code yX8_findNearest cX8_findNearest 6 (some .boolean) :: (([.fieldLink RX8 44 "MeetingsAbove" "way" "LMeetingsAbove$Way;", .fieldLink RX8 51 "MeetingsAbove" "nearest" "LMeetingsAbove$Nearest;", .fieldLink RX8 197 "MeetingsAbove$Nearest" "square" "LMeetingsAbove$Fraction;", .fieldLink RX8 337 "MeetingsAbove$Way" "upper" "J", .fieldLink RX8 338 "MeetingsAbove$Way" "lower" "J"] : List Cond) ++ (wsX80 ++ (wsX40 ++ (wsX70 ++ ((va_wsS RX8 173 yX8_firstTogether wk_X8_firstTogether) ++ ((va_wsS RX8 177 yX8_lastTogether wk_X8_lastTogether) ++ ((wsV RX8 333 RX7 yX7_look wk_X7_lookP) ++ ((wsV RX8 343 RX4 yX4_take wk_X4_take) ++ ((wsV RX8 339 RX3 yX3_isAbove wk_X3_isAbove) ++ ([]))))))))))
theorem in_X8_findNearestP_X4 : ∀ w ∈ wsX40, w ∈ wk_X8_findNearestP := fun _ h => List.mem_cons_of_mem _ (List.mem_append_right _ (List.mem_append_right _ (List.mem_append_left _ h)))
theorem in_X8_findNearestP_X7 : ∀ w ∈ wsX70, w ∈ wk_X8_findNearestP := fun _ h => List.mem_cons_of_mem _ (List.mem_append_right _ (List.mem_append_right _ (List.mem_append_right _ (List.mem_append_left _ h))))
theorem in_X8_findNearestP_X8 : ∀ w ∈ wsX80, w ∈ wk_X8_findNearestP := fun _ h => List.mem_cons_of_mem _ (List.mem_append_right _ (List.mem_append_left _ h))
theorem gw_X8_findNearestP : AG wk_X8_findNearestP := AG_ca (AG_l (by decide +kernel)) (AG_app ag_X8 (AG_app ag_X4 (AG_app ag_X7 (AG_app (AG_S gw_X8_firstTogether) (AG_app (AG_S gw_X8_lastTogether) (AG_app (AG_V gw_X7_lookP) (AG_app (AG_V gw_X4_take) (AG_app (AG_V gw_X3_isAbove) (AG_nil)))))))))
theorem g_X8_findNearestP__X8_firstTogether_173 : GoodIn wk_X8_findNearestP (va_wsS RX8 173 yX8_firstTogether wk_X8_firstTogether) := goodIn_m (fun _ h => List.mem_cons_of_mem _ (List.mem_append_right _ (List.mem_append_right _ (List.mem_append_right _ (List.mem_append_right _ (List.mem_append_left _ h)))))) (AG_S gw_X8_firstTogether)
theorem g_X8_findNearestP__X8_lastTogether_177 : GoodIn wk_X8_findNearestP (va_wsS RX8 177 yX8_lastTogether wk_X8_lastTogether) := goodIn_m (fun _ h => List.mem_cons_of_mem _ (List.mem_append_right _ (List.mem_append_right _ (List.mem_append_right _ (List.mem_append_right _ (List.mem_append_right _ (List.mem_append_left _ h))))))) (AG_S gw_X8_lastTogether)
theorem g_X8_findNearestP__X7_lookP_333 : GoodIn wk_X8_findNearestP (wsV RX8 333 RX7 yX7_look wk_X7_lookP) := goodIn_m (fun _ h => List.mem_cons_of_mem _ (List.mem_append_right _ (List.mem_append_right _ (List.mem_append_right _ (List.mem_append_right _ (List.mem_append_right _ (List.mem_append_right _ (List.mem_append_left _ h)))))))) (AG_V gw_X7_lookP)
theorem g_X8_findNearestP__X4_take_343 : GoodIn wk_X8_findNearestP (wsV RX8 343 RX4 yX4_take wk_X4_take) := goodIn_m (fun _ h => List.mem_cons_of_mem _ (List.mem_append_right _ (List.mem_append_right _ (List.mem_append_right _ (List.mem_append_right _ (List.mem_append_right _ (List.mem_append_right _ (List.mem_append_right _ (List.mem_append_left _ h))))))))) (AG_V gw_X4_take)
theorem g_X8_findNearestP__X3_isAbove_339 : GoodIn wk_X8_findNearestP (wsV RX8 339 RX3 yX3_isAbove wk_X3_isAbove) := goodIn_m (fun _ h => List.mem_cons_of_mem _ (List.mem_append_right _ (List.mem_append_right _ (List.mem_append_right _ (List.mem_append_right _ (List.mem_append_right _ (List.mem_append_right _ (List.mem_append_right _ (List.mem_append_right _ (List.mem_append_left _ h)))))))))) (AG_V gw_X3_isAbove)
set_option maxHeartbeats 4000000 in
set_option maxRecDepth 100000 in
theorem c_X8_findNearestP (l : Launch) (dC : Nat → ClassId) (dI : Nat → Nat → Nat) (h0 : Nat) (n0 : Nat) (s0 : Nat) (s1 : Nat) (d0 : Nat) (o0 : Nat) (w0 : Nat) (e0 : Nat) (f0 : Nat) (t0 : Nat) (b0 : Nat) (dn : Int32) (nn : Int32) (la : Int32) (ne : Int32) (wi : Int32) (lm : Int32) (eq : Nat) (ep : Nat) (ns : Int32) (wu : Int64) (wl : Int64) (wp : Int64) (su : Int64) (sl : Int64) (pu : Int64) (pw : Int64) (h1 : Nat) (x1 : Nat) (fi1 : Int32) (pl1 : Int32) (db1 : Int32) (go1 : Int32) (g1 : Nat → Int32) (h2 : Nat) (x2 : Nat) (fi2 : Int32) (pl2 : Int32) (db2 : Int32) (go2 : Int32) (g2 : Nat → Int32) (cI : ClassId) (L : List Nat) (f : Nat → va_E) (sz : Nat) (hL1 : h1 ∈ L) (hX1 : x1 ∈ L) (hf1 : f h1 = .inr (6, [.ref x1, .int fi1, .int pl1, .int db1, .int go1])) (hg1 : f x1 = .inl (cI, 36, .inl g1)) (hL2 : h2 ∈ L) (hX2 : x2 ∈ L) (hf2 : f h2 = .inr (6, [.ref x2, .int fi2, .int pl2, .int db2, .int go2])) (hg2 : f x2 = .inl (cI, 36, .inl g2)) (ht1 : tOK fi1 pl1) (ht2 : tOK fi2 pl2) : Met l yX8_findNearest wk_X8_findNearestP ({ frames := 3, cells := 0, slots := 0, locals := 78 }) (va_Pc [.ref h0, .ref h1, .ref h2] (fun U => U.heap.size = sz ∧ va_P (dC, dI) vwCl (([(h0, .inr (8, [.ref n0, .ref s0, .ref s1, .ref d0, .ref o0, .int dn, .int nn, .int la, .int ne, .int wi, .ref w0, .ref e0, .ref f0, .ref t0, .ref b0, .int lm])), (w0, .inr (7, [.long wu, .long wl, .long wp])), (e0, .inr (4, [.ref eq, .ref ep, .int ns])), (eq, .inr (3, [.long su, .long sl])), (ep, .inr (3, [.long pu, .long pw]))] : va_W) ++ va_pl L f) U.heap ∧ va_K (dC, dI) vwCl [(cI, .int)] U ∧ va_D (fun _ => True) (([(h0, .inr (8, [.ref n0, .ref s0, .ref s1, .ref d0, .ref o0, .int dn, .int nn, .int la, .int ne, .int wi, .ref w0, .ref e0, .ref f0, .ref t0, .ref b0, .int lm])), (w0, .inr (7, [.long wu, .long wl, .long wp])), (e0, .inr (4, [.ref eq, .ref ep, .int ns])), (eq, .inr (3, [.long su, .long sl])), (ep, .inr (3, [.long pu, .long pw]))] : va_W) ++ va_pl L f))) (va_Qi (fun (r : Int32) (_ : Unit) => r = 1 ∨ r = 0) (fun (_ : Unit) (t : State) => ∃ (ns9 : Int32) (wu9 : Int64) (wl9 : Int64) (wp9 : Int64) (su9 : Int64) (sl9 : Int64) (pu9 : Int64) (pw9 : Int64), va_P (dC, dI) vwCl (([(h0, .inr (8, [.ref n0, .ref s0, .ref s1, .ref d0, .ref o0, .int dn, .int nn, .int la, .int ne, .int wi, .ref w0, .ref e0, .ref f0, .ref t0, .ref b0, .int lm])), (w0, .inr (7, [.long wu9, .long wl9, .long wp9])), (e0, .inr (4, [.ref eq, .ref ep, .int ns9])), (eq, .inr (3, [.long su9, .long sl9])), (ep, .inr (3, [.long pu9, .long pw9]))] : va_W) ++ va_pl L f) t.heap ∧ va_K (dC, dI) vwCl [] t ∧ va_D (va_A (([(h0, .inr (8, [.ref n0, .ref s0, .ref s1, .ref d0, .ref o0, .int dn, .int nn, .int la, .int ne, .int wi, .ref w0, .ref e0, .ref f0, .ref t0, .ref b0, .int lm])), (w0, .inr (7, [.long wu, .long wl, .long wp])), (e0, .inr (4, [.ref eq, .ref ep, .int ns])), (eq, .inr (3, [.long su, .long sl])), (ep, .inr (3, [.long pu, .long pw]))] : va_W) ++ va_pl L f) sz) (([(h0, .inr (8, [.ref n0, .ref s0, .ref s1, .ref d0, .ref o0, .int dn, .int nn, .int la, .int ne, .int wi, .ref w0, .ref e0, .ref f0, .ref t0, .ref b0, .int lm])), (w0, .inr (7, [.long wu9, .long wl9, .long wp9])), (e0, .inr (4, [.ref eq, .ref ep, .int ns9])), (eq, .inr (3, [.long su9, .long sl9])), (ep, .inr (3, [.long pu9, .long pw9]))] : va_W) ++ va_pl L f)) (va_A (([(h0, .inr (8, [.ref n0, .ref s0, .ref s1, .ref d0, .ref o0, .int dn, .int nn, .int la, .int ne, .int wi, .ref w0, .ref e0, .ref f0, .ref t0, .ref b0, .int lm])), (w0, .inr (7, [.long wu, .long wl, .long wp])), (e0, .inr (4, [.ref eq, .ref ep, .int ns])), (eq, .inr (3, [.long su, .long sl])), (ep, .inr (3, [.long pu, .long pw]))] : va_W) ++ va_pl L f) sz)) 0 0 (va_A (([(h0, .inr (8, [.ref n0, .ref s0, .ref s1, .ref d0, .ref o0, .int dn, .int nn, .int la, .int ne, .int wi, .ref w0, .ref e0, .ref f0, .ref t0, .ref b0, .int lm])), (w0, .inr (7, [.long wu, .long wl, .long wp])), (e0, .inr (4, [.ref eq, .ref ep, .int ns])), (eq, .inr (3, [.long su, .long sl])), (ep, .inr (3, [.long pu, .long pw]))] : va_W) ++ va_pl L f) sz) := by
  refine Met.ofW (cc := cX8_findNearest) (maxL := 6) (ret := (some .boolean)) (by decide) rfl ?_
  intro p e s m args below meth c s₁ B hml hv
  obtain ⟨rfl, hsz, hP, hK, hD0⟩ := hv
  have hx := B.exec
  have hb := B.bytes
  have hr := B.returns
  have hts := atoms_spec (ws := wk_X8_findNearestP) B.pre
  have hown : s.vm.findClass RX8 = some m.cls := findClass_of_methodNamed B.named
  have hlocks := B.notSynchronized
  subst hsz
  have hD := hD0.self (sz := s.heap.size)
  generalize hAe : va_A (([(h0, .inr (8, [.ref n0, .ref s0, .ref s1, .ref d0, .ref o0, .int dn, .int nn, .int la, .int ne, .int wi, .ref w0, .ref e0, .ref f0, .ref t0, .ref b0, .int lm])), (w0, .inr (7, [.long wu, .long wl, .long wp])), (e0, .inr (4, [.ref eq, .ref ep, .int ns])), (eq, .inr (3, [.long su, .long sl])), (ep, .inr (3, [.long pu, .long pw]))] : va_W) ++ va_pl L f) s.heap.size = A at hD ⊢
  have hA : ∀ q : Nat, s.heap.size ≤ q → A q := fun q h => by rw [← hAe]; exact Or.inr h
  have hS : va_S A s.heap s.heap [] := va_S.rf
  have hP : va_P (dC, dI) vwCl (([(h0, .inr (8, [.ref n0, .ref s0, .ref s1, .ref d0, .ref o0, .int dn, .int nn, .int la, .int ne, .int wi, .ref w0, .ref e0, .ref f0, .ref t0, .ref b0, .int lm])), (w0, .inr (7, [.long wu, .long wl, .long wp])), (e0, .inr (4, [.ref eq, .ref ep, .int ns])), (eq, .inr (3, [.long su, .long sl])), (ep, .inr (3, [.long pu, .long pw]))] : va_W) ++ va_pl L f) s.heap := hP
  have hl := lv_entry ([.ref h0, .ref h1, .ref h2]) (n := 6) (Nat.le_of_ble_eq_true rfl)
  rw [lg_entry_eq]
  generalize (lg_sl ([.ref h0, .ref h1, .ref h2]) ++ List.replicate (6 - (lg_sl ([.ref h0, .ref h1, .ref h2])).length) Slot.unset).toArray = ls at hl ⊢
  have hl : lv_has ls 6 [(0, .ref h0), (1, .ref h1), (2, .ref h2)] := hl
  have kl_0 : (0 : Int32).toInt = 0 := by decide
  have kl_1 : (1 : Int32).toInt = 1 := by decide
  obtain ⟨qa1, qb1, qc1, qd1⟩ := id ht1
  obtain ⟨qa2, qb2, qc2, qd2⟩ := id ht2
  refine lv_aload_n hx hb dX8_findNearest_0 rfl (lv_at hl 1 rfl) ?_
  refine lv_aload_n hx hb dX8_findNearest_1 rfl (lv_at hl 2 rfl) ?_
  have hPc : va_P (dC, dI) vwCl [(h1, .inr (6, [.ref x1, .int fi1, .int pl1, .int db1, .int go1])), (h2, .inr (6, [.ref x2, .int fi2, .int pl2, .int db2, .int go2]))] s.heap := P_cons (pl_at (X := [(h0, .inr (8, [.ref n0, .ref s0, .ref s1, .ref d0, .ref o0, .int dn, .int nn, .int la, .int ne, .int wi, .ref w0, .ref e0, .ref f0, .ref t0, .ref b0, .int lm])), (w0, .inr (7, [.long wu, .long wl, .long wp])), (e0, .inr (4, [.ref eq, .ref ep, .int ns])), (eq, .inr (3, [.long su, .long sl])), (ep, .inr (3, [.long pu, .long pw]))]) hP hL1 hf1) (P_cons (pl_at (X := [(h0, .inr (8, [.ref n0, .ref s0, .ref s1, .ref d0, .ref o0, .int dn, .int nn, .int la, .int ne, .int wi, .ref w0, .ref e0, .ref f0, .ref t0, .ref b0, .int lm])), (w0, .inr (7, [.long wu, .long wl, .long wp])), (e0, .inr (4, [.ref eq, .ref ep, .int ns])), (eq, .inr (3, [.long su, .long sl])), (ep, .inr (3, [.long pu, .long pw]))]) hP hL2 hf2) (P_nil))
  have hKc := hK.sub (tys' := []) [] rfl
  refine vp_callSi (W.runS (As := [.ref h1, .ref h2]) (rest := []) ⟨hx, hb, hml, hown, hts⟩ (c_X8_firstTogether l dC dI h1 x1 fi1 pl1 db1 go1 h2 x2 fi2 pl2 db2 go2) (va_cwS 2 hts g_X8_findNearestP__X8_firstTogether_173 rfl rfl rfl (by decide +kernel) ⟨Nat.le_of_ble_eq_true rfl, Nat.le_of_ble_eq_true rfl⟩) ⟨fun a U g mk q => by obtain ⟨q0, qP, qK⟩ := q; exact ⟨q0, qP, va_K.moved (u := U) (U := U.calling g mk a) (Vm.Alike.refl U.vm) qK⟩, fun U hU hW => ⟨rfl, by rw [hU]; exact hPc, va_K.moved hW.alike hKc⟩⟩ rfl rfl hl.1 rfl (lv_room (Nat.le_of_ble_eq_true rfl)) dX8_findNearest_2 ⟨Nat.le_of_ble_eq_true rfl, Nat.le_of_ble_eq_true rfl⟩) (fun r_1 hr_1 => ?_)
  try dsimp only at hr_1
  refine lv_istore_n (lv' := [(3, .int r_1), (0, .ref h0), (1, .ref h1), (2, .ref h2)]) hx hb dX8_findNearest_5 rfl hl (by decide) rfl (fun ls hl => ?_)
  refine lv_aload_n hx hb dX8_findNearest_6 rfl (lv_at hl 2 rfl) ?_
  refine lv_aload_n hx hb dX8_findNearest_7 rfl (lv_at hl 3 rfl) ?_
  have hPc : va_P (dC, dI) vwCl [(h1, .inr (6, [.ref x1, .int fi1, .int pl1, .int db1, .int go1])), (h2, .inr (6, [.ref x2, .int fi2, .int pl2, .int db2, .int go2]))] s.heap := P_cons (pl_at (X := [(h0, .inr (8, [.ref n0, .ref s0, .ref s1, .ref d0, .ref o0, .int dn, .int nn, .int la, .int ne, .int wi, .ref w0, .ref e0, .ref f0, .ref t0, .ref b0, .int lm])), (w0, .inr (7, [.long wu, .long wl, .long wp])), (e0, .inr (4, [.ref eq, .ref ep, .int ns])), (eq, .inr (3, [.long su, .long sl])), (ep, .inr (3, [.long pu, .long pw]))]) hP hL1 hf1) (P_cons (pl_at (X := [(h0, .inr (8, [.ref n0, .ref s0, .ref s1, .ref d0, .ref o0, .int dn, .int nn, .int la, .int ne, .int wi, .ref w0, .ref e0, .ref f0, .ref t0, .ref b0, .int lm])), (w0, .inr (7, [.long wu, .long wl, .long wp])), (e0, .inr (4, [.ref eq, .ref ep, .int ns])), (eq, .inr (3, [.long su, .long sl])), (ep, .inr (3, [.long pu, .long pw]))]) hP hL2 hf2) (P_nil))
  have hKc := hK.sub (tys' := []) [] rfl
  refine vp_callSi (W.runS (As := [.ref h1, .ref h2]) (rest := []) ⟨hx, hb, hml, hown, hts⟩ (c_X8_lastTogether l dC dI h1 x1 fi1 pl1 db1 go1 h2 x2 fi2 pl2 db2 go2 (by first | assumption | omega) (by first | assumption | omega)) (va_cwS 2 hts g_X8_findNearestP__X8_lastTogether_177 rfl rfl rfl (by decide +kernel) ⟨Nat.le_of_ble_eq_true rfl, Nat.le_of_ble_eq_true rfl⟩) ⟨fun a U g mk q => by obtain ⟨q0, qP, qK⟩ := q; exact ⟨q0, qP, va_K.moved (u := U) (U := U.calling g mk a) (Vm.Alike.refl U.vm) qK⟩, fun U hU hW => ⟨rfl, by rw [hU]; exact hPc, va_K.moved hW.alike hKc⟩⟩ rfl rfl hl.1 rfl (lv_room (Nat.le_of_ble_eq_true rfl)) dX8_findNearest_8 ⟨Nat.le_of_ble_eq_true rfl, Nat.le_of_ble_eq_true rfl⟩) (fun r_2 hr_2 => ?_)
  try dsimp only at hr_2
  refine lv_istore (lv' := [(4, .int r_2), (3, .int r_1), (0, .ref h0), (1, .ref h1), (2, .ref h2)]) hx hb dX8_findNearest_11 hl (by decide) rfl (fun ls hl => ?_)
  refine lv_iload_n hx hb dX8_findNearest_13 rfl (lv_at hl 1 rfl) ?_
  refine lv_istore (lv' := [(5, .int r_1), (4, .int r_2), (3, .int r_1), (0, .ref h0), (1, .ref h1), (2, .ref h2)]) hx hb dX8_findNearest_14 hl (by decide) rfl (fun ls hl => ?_)
  refine (show ∀ (k : Nat) (k5 : Int32) (vu : Int64) (vl : Int64) (vp : Int64) (vs : Int32) (v1 : Int64) (v2 : Int64) (v3 : Int64) (v4 : Int64) (hk0 : r_1.toInt ≤ k5.toInt) (hk1 : k5.toInt ≤ r_2.toInt + 1 ∨ k5.toInt = r_1.toInt) (hk_16 : (r_2.toInt + 1 - k5.toInt).toNat < k) (H : Heap) (locs : List Loc) (hP : va_P (dC, dI) vwCl (([(h0, .inr (8, [.ref n0, .ref s0, .ref s1, .ref d0, .ref o0, .int dn, .int nn, .int la, .int ne, .int wi, .ref w0, .ref e0, .ref f0, .ref t0, .ref b0, .int lm])), (w0, .inr (7, [.long vu, .long vl, .long vp])), (e0, .inr (4, [.ref eq, .ref ep, .int vs])), (eq, .inr (3, [.long v1, .long v2])), (ep, .inr (3, [.long v3, .long v4]))] : va_W) ++ va_pl L f) H) (hD : va_D A (([(h0, .inr (8, [.ref n0, .ref s0, .ref s1, .ref d0, .ref o0, .int dn, .int nn, .int la, .int ne, .int wi, .ref w0, .ref e0, .ref f0, .ref t0, .ref b0, .int lm])), (w0, .inr (7, [.long vu, .long vl, .long vp])), (e0, .inr (4, [.ref eq, .ref ep, .int vs])), (eq, .inr (3, [.long v1, .long v2])), (ep, .inr (3, [.long v3, .long v4]))] : va_W) ++ va_pl L f)) (hS : va_S A s.heap H locs) (ls : Array Slot) (hl : lv_has ls 6 [(0, .ref h0), (1, .ref h1), (2, .ref h2), (3, .int r_1), (4, .int r_2), (5, .int k5)]), W p l e _ s m _ below meth c H locs 0 0 _ (F0 m 16 ls []) from ?_) _ r_1 wu wl wp ns su sl pu pw (by omega) (by omega) (Nat.lt_succ_self _) _ _ hP hD hS ls (lv_sub hl [3, 4, 5, 2, 1, 0] rfl)
  intro k
  induction k with
  | zero => intro k5 vu vl vp vs v1 v2 v3 v4 hk0 hk1 hk_16; exact absurd hk_16 (Nat.not_lt_zero _)
  | succ k ih_16 =>
    intro k5 vu vl vp vs v1 v2 v3 v4 hk0 hk1 hk_16 H locs hP hD hS ls hl
    refine lv_iload hx hb dX8_findNearest_16 (lv_at hl 5 rfl) ?_
    refine lv_iload hx hb dX8_findNearest_18 (lv_at hl 4 rfl) ?_
    refine lv_icmp_gt (tgt := 98) hx hb dX8_findNearest_20 (by decide) (fun c_20 => ?_) (fun c_20 => ?_)
    · have t_20 := (fa_lt _ _).mp c_20
      refine lv_iload_n hx hb dX8_findNearest_98 rfl (lv_at hl 3 rfl) ?_
      refine lv_iload hx hb dX8_findNearest_99 (lv_at hl 4 rfl) ?_
      refine lv_icmp_gt (tgt := 108) hx hb dX8_findNearest_101 (by decide) (fun c_101 => ?_) (fun c_101 => ?_)
      · have t_101 := (fa_lt _ _).mp c_101
        refine lv_iconst (v := 0) hx hb dX8_findNearest_108 (by decide) ?_
        have hP9 := hP.part (cx := [(h0, .inr (8, [.ref n0, .ref s0, .ref s1, .ref d0, .ref o0, .int dn, .int nn, .int la, .int ne, .int wi, .ref w0, .ref e0, .ref f0, .ref t0, .ref b0, .int lm])), (w0, .inr (7, [.long vu, .long vl, .long vp])), (e0, .inr (4, [.ref eq, .ref ep, .int vs])), (eq, .inr (3, [.long v1, .long v2])), (ep, .inr (3, [.long v3, .long v4]))]) [0, 1, 2, 3, 4] rfl
        have hD9 := hD.part (cx := [(h0, .inr (8, [.ref n0, .ref s0, .ref s1, .ref d0, .ref o0, .int dn, .int nn, .int la, .int ne, .int wi, .ref w0, .ref e0, .ref f0, .ref t0, .ref b0, .int lm])), (w0, .inr (7, [.long vu, .long vl, .long vp])), (e0, .inr (4, [.ref eq, .ref ep, .int vs])), (eq, .inr (3, [.long v1, .long v2])), (ep, .inr (3, [.long v3, .long v4]))]) [0, 1, 2, 3, 4] (by decide) rfl
        have hK9 := hK.sub (tys' := []) [] rfl
        refine W.widen (k := 0) (n := 0) (by omega) (by omega) ?_
        exact W.zret (v := 0) hx hb hr rfl (fun t ht hW => ⟨⟨_, (), rfl, (by first | exact Or.inl rfl | exact Or.inr rfl), vs, vu, vl, vp, v1, v2, v3, v4, by rw [ht]; exact hP9, va_K.moved hW.alike hK9, hD9⟩, hS.F ht⟩) hS.2.2 dX8_findNearest_109
      · have t_101 := mt (fa_lt _ _).mpr c_101
        refine lv_iconst (v := 1) hx hb dX8_findNearest_104 (by decide) ?_
        refine lv_goto (tgt := 109) hx hb dX8_findNearest_105 (by decide) ?_
        have hP9 := hP.part (cx := [(h0, .inr (8, [.ref n0, .ref s0, .ref s1, .ref d0, .ref o0, .int dn, .int nn, .int la, .int ne, .int wi, .ref w0, .ref e0, .ref f0, .ref t0, .ref b0, .int lm])), (w0, .inr (7, [.long vu, .long vl, .long vp])), (e0, .inr (4, [.ref eq, .ref ep, .int vs])), (eq, .inr (3, [.long v1, .long v2])), (ep, .inr (3, [.long v3, .long v4]))]) [0, 1, 2, 3, 4] rfl
        have hD9 := hD.part (cx := [(h0, .inr (8, [.ref n0, .ref s0, .ref s1, .ref d0, .ref o0, .int dn, .int nn, .int la, .int ne, .int wi, .ref w0, .ref e0, .ref f0, .ref t0, .ref b0, .int lm])), (w0, .inr (7, [.long vu, .long vl, .long vp])), (e0, .inr (4, [.ref eq, .ref ep, .int vs])), (eq, .inr (3, [.long v1, .long v2])), (ep, .inr (3, [.long v3, .long v4]))]) [0, 1, 2, 3, 4] (by decide) rfl
        have hK9 := hK.sub (tys' := []) [] rfl
        refine W.widen (k := 0) (n := 0) (by omega) (by omega) ?_
        exact W.zret (v := 1) hx hb hr rfl (fun t ht hW => ⟨⟨_, (), rfl, (by first | exact Or.inl rfl | exact Or.inr rfl), vs, vu, vl, vp, v1, v2, v3, v4, by rw [ht]; exact hP9, va_K.moved hW.alike hK9, hD9⟩, hS.F ht⟩) hS.2.2 dX8_findNearest_109
    · have t_20 := mt (fa_lt _ _).mpr c_20
      refine lv_aload_n hx hb dX8_findNearest_23 rfl (lv_at hl 0 rfl) ?_
      refine va_get (D := (dC, dI)) (ci := 8) (v := .ref w0) (C := RX8) (T := TX8) (N := 16) hx hb hts in_X8_findNearestP_X8 hown hK hP 0 rfl rfl 10 (by decide) (hts (.fieldLink RX8 44 "MeetingsAbove" "way" "LMeetingsAbove$Way;") (by decide +kernel)) (fun _ h9 => h9) rfl dX8_findNearest_24 ?_
      refine lv_aload_n hx hb dX8_findNearest_27 rfl (lv_at hl 1 rfl) ?_
      refine lv_aload_n hx hb dX8_findNearest_28 rfl (lv_at hl 2 rfl) ?_
      refine lv_iload hx hb dX8_findNearest_29 (lv_at hl 5 rfl) ?_
      refine lv_iload hx hb dX8_findNearest_31 (lv_at hl 5 rfl) ?_
      refine lv_iload hx hb dX8_findNearest_33 (lv_at hl 4 rfl) ?_
      refine lv_icmp_ge (tgt := 42) hx hb dX8_findNearest_35 (by decide) (fun c_35 => ?_) (fun c_35 => ?_)
      · have t_35 := (fa_le _ _).mp c_35
        refine lv_iconst (v := 0) hx hb dX8_findNearest_42 (by decide) ?_
        have hPc := hP.part (cx := [(w0, .inr (7, [.long vu, .long vl, .long vp]))]) [1] rfl
        have hKc := hK.sub (tys' := [(cI, .int)]) [0] rfl
        have hDc := hD.part (cx := [(w0, .inr (7, [.long vu, .long vl, .long vp]))]) [1] (by decide) rfl
        have hFc := va_freeP (cx := [(w0, .inr (7, [.long vu, .long vl, .long vp]))]) hD hS hA [1] rfl
        refine va_callv (va_runV (As := [.ref h1, .ref h2, .int k5, .int 0]) (rest := []) ⟨hx, hb, hml, hown, hts⟩ (c_X7_lookP l dC dI w0 vu vl vp h1 x1 fi1 pl1 db1 go1 g1 h2 x2 fi2 pl2 db2 go2 g2 cI L f k5 0 H.size (by first | assumption | omega) (by first | assumption | omega) (by first | assumption | omega) (by first | assumption | omega) (by first | assumption | omega) (by first | assumption | omega) (by first | assumption | omega) (by first | assumption | omega) (by first | assumption | omega) (by first | assumption | omega) (by first | omega | assumption) (by first | omega | assumption) (by first | omega | assumption) (by first | omega | assumption) (by first | assumption | omega)) (cwV 4 hts g_X8_findNearestP__X7_lookP_333 rfl rfl rfl (by decide +kernel) ⟨Nat.le_of_ble_eq_true rfl, Nat.le_of_ble_eq_true rfl⟩) ⟨fun a U g mk q => by obtain ⟨q0, q1, qP, qK, qD⟩ := q; exact ⟨q0, q1, qP, va_K.moved (u := U) (U := U.calling g mk a) (Vm.Alike.refl U.vm) qK, qD⟩, va_recv hKc hPc (ci := 7) (q0 := 0) rfl rfl, fun U hU hW => ⟨rfl, by rw [hU], by rw [hU]; exact hPc, va_K.moved hW.alike hKc, hDc.weaken (fun _ _ _ _ => trivial)⟩⟩ rfl rfl hl.1 rfl (lv_room (Nat.le_of_ble_eq_true rfl)) dX8_findNearest_43 ⟨Nat.le_of_ble_eq_true rfl, Nat.le_of_ble_eq_true rfl⟩) hS (fun q _ h => hFc q h) hFc (fun u_3 t H1 locs ht hvm hw_4 hB hz1 hk1 hS => ?_)
        obtain ⟨u9_5, l9_6, p9_7, hP1, hK1, hD1⟩ := hB
        rw [ht] at hP1
        have hK1 := va_K.moved hvm.symm hK1
        obtain ⟨hP, hD⟩ := va_joinP (wr := [(h0, .inr (8, [.ref n0, .ref s0, .ref s1, .ref d0, .ref o0, .int dn, .int nn, .int la, .int ne, .int wi, .ref w0, .ref e0, .ref f0, .ref t0, .ref b0, .int lm])), (e0, .inr (4, [.ref eq, .ref ep, .int vs])), (eq, .inr (3, [.long v1, .long v2])), (ep, .inr (3, [.long v3, .long v4]))]) (rx := [(w0, .inr (7, [.long u9_5, .long l9_6, .long p9_7]))]) hP hD [1] [0, 2, 3, 4] rfl rfl (by decide) (by decide) hk1 hFc hP1 hD1
        have hK := (hK.sub (tys' := [(cI, .int)]) [0] rfl).app hK1
        generalize H1 = H at hP hS ⊢
        have hP : va_P (dC, dI) vwCl (([(h0, .inr (8, [.ref n0, .ref s0, .ref s1, .ref d0, .ref o0, .int dn, .int nn, .int la, .int ne, .int wi, .ref w0, .ref e0, .ref f0, .ref t0, .ref b0, .int lm])), (e0, .inr (4, [.ref eq, .ref ep, .int vs])), (eq, .inr (3, [.long v1, .long v2])), (ep, .inr (3, [.long v3, .long v4])), (w0, .inr (7, [.long u9_5, .long l9_6, .long p9_7]))] : va_W) ++ va_pl L f) H := hP
        have hD : va_D A (([(h0, .inr (8, [.ref n0, .ref s0, .ref s1, .ref d0, .ref o0, .int dn, .int nn, .int la, .int ne, .int wi, .ref w0, .ref e0, .ref f0, .ref t0, .ref b0, .int lm])), (e0, .inr (4, [.ref eq, .ref ep, .int vs])), (eq, .inr (3, [.long v1, .long v2])), (ep, .inr (3, [.long v3, .long v4])), (w0, .inr (7, [.long u9_5, .long l9_6, .long p9_7]))] : va_W) ++ va_pl L f) := hD
        have hK : va_K (dC, dI) vwCl [(cI, .int)] s := hK
        refine W.widen (k := 0) (n := 0) (by omega) (by omega) ?_
        refine lv_iload hx hb dX8_findNearest_46 (lv_at hl 5 rfl) ?_
        refine lv_iload_n hx hb dX8_findNearest_48 rfl (lv_at hl 3 rfl) ?_
        refine lv_icmp_eq (tgt := 79) hx hb dX8_findNearest_49 (by decide) (fun c_49 => ?_) (fun c_49 => ?_)
        · have t_49 := (fa_eq _ _).mp c_49
          refine lv_aload_n hx hb dX8_findNearest_79 rfl (lv_at hl 0 rfl) ?_
          refine va_get (D := (dC, dI)) (ci := 8) (v := .ref e0) (C := RX8) (T := TX8) (N := 16) hx hb hts in_X8_findNearestP_X8 hown hK hP 0 rfl rfl 11 (by decide) (hts (.fieldLink RX8 51 "MeetingsAbove" "nearest" "LMeetingsAbove$Nearest;") (by decide +kernel)) (fun _ h9 => h9) rfl dX8_findNearest_80 ?_
          refine lv_aload_n hx hb dX8_findNearest_83 rfl (lv_at hl 0 rfl) ?_
          refine va_get (D := (dC, dI)) (ci := 8) (v := .ref w0) (C := RX8) (T := TX8) (N := 16) hx hb hts in_X8_findNearestP_X8 hown hK hP 0 rfl rfl 10 (by decide) (hts (.fieldLink RX8 44 "MeetingsAbove" "way" "LMeetingsAbove$Way;") (by decide +kernel)) (fun _ h9 => h9) rfl dX8_findNearest_84 ?_
          refine lv_iload hx hb dX8_findNearest_87 (lv_at hl 5 rfl) ?_
          have hPc := hP.sub (ws' := [(e0, .inr (4, [.ref eq, .ref ep, .int vs])), (eq, .inr (3, [.long v1, .long v2])), (ep, .inr (3, [.long v3, .long v4])), (w0, .inr (7, [.long u9_5, .long l9_6, .long p9_7]))]) [1, 2, 3, 4] rfl
          have hKc := hK.sub (tys' := []) [] rfl
          have hDc := hD.sub (ws' := [(e0, .inr (4, [.ref eq, .ref ep, .int vs])), (eq, .inr (3, [.long v1, .long v2])), (ep, .inr (3, [.long v3, .long v4])), (w0, .inr (7, [.long u9_5, .long l9_6, .long p9_7]))]) [1, 2, 3, 4] (by decide) rfl
          have hFc := va_free (wc := [(e0, .inr (4, [.ref eq, .ref ep, .int vs])), (eq, .inr (3, [.long v1, .long v2])), (ep, .inr (3, [.long v3, .long v4])), (w0, .inr (7, [.long u9_5, .long l9_6, .long p9_7]))]) hD hS hA [1, 2, 3, 4] rfl
          refine va_callv (va_runV (As := [.ref w0, .int k5]) (rest := []) ⟨hx, hb, hml, hown, hts⟩ (c_X4_take l dC dI e0 eq ep w0 vs v1 v2 v3 v4 u9_5 l9_6 p9_7 k5 H.size) (cwV 2 hts g_X8_findNearestP__X4_take_343 rfl rfl rfl (by decide +kernel) ⟨Nat.le_of_ble_eq_true rfl, Nat.le_of_ble_eq_true rfl⟩) ⟨fun a U g mk q => by obtain ⟨q0, q1, qP, qK, qD⟩ := q; exact ⟨q0, q1, qP, va_K.moved (u := U) (U := U.calling g mk a) (Vm.Alike.refl U.vm) qK, qD⟩, va_recv hKc hPc (ci := 4) (q0 := 0) rfl rfl, fun U hU hW => ⟨rfl, by rw [hU], by rw [hU]; exact hPc, va_K.moved hW.alike hKc, hDc.weaken (fun _ _ _ _ => trivial)⟩⟩ rfl rfl hl.1 rfl (lv_room (Nat.le_of_ble_eq_true rfl)) dX8_findNearest_89 ⟨Nat.le_of_ble_eq_true rfl, Nat.le_of_ble_eq_true rfl⟩) hS (fun q _ h => hFc q h) hFc (fun u_8 t H1 locs ht hvm hw_9 hB hz1 hk1 hS => ?_)
          obtain ⟨su9_10, sl9_11, pu9_12, pl9_13, hP1, hK1, hD1⟩ := hB
          rw [ht] at hP1
          have hK1 := va_K.moved hvm.symm hK1
          obtain ⟨hP, hD⟩ := va_joinQ (wr := [(h0, .inr (8, [.ref n0, .ref s0, .ref s1, .ref d0, .ref o0, .int dn, .int nn, .int la, .int ne, .int wi, .ref w0, .ref e0, .ref f0, .ref t0, .ref b0, .int lm]))]) (w1 := [(e0, .inr (4, [.ref eq, .ref ep, .int k5])), (eq, .inr (3, [.long su9_10, .long sl9_11])), (ep, .inr (3, [.long pu9_12, .long pl9_13])), (w0, .inr (7, [.long u9_5, .long l9_6, .long p9_7]))]) hP hD [1, 2, 3, 4] [0] rfl rfl (by decide) (by decide) hk1 hFc hP1 hD1
          have hK := (hK.sub (tys' := [(cI, .int)]) [0] rfl).app hK1
          generalize H1 = H at hP hS ⊢
          have hP : va_P (dC, dI) vwCl (([(h0, .inr (8, [.ref n0, .ref s0, .ref s1, .ref d0, .ref o0, .int dn, .int nn, .int la, .int ne, .int wi, .ref w0, .ref e0, .ref f0, .ref t0, .ref b0, .int lm])), (e0, .inr (4, [.ref eq, .ref ep, .int k5])), (eq, .inr (3, [.long su9_10, .long sl9_11])), (ep, .inr (3, [.long pu9_12, .long pl9_13])), (w0, .inr (7, [.long u9_5, .long l9_6, .long p9_7]))] : va_W) ++ va_pl L f) H := hP
          have hD : va_D A (([(h0, .inr (8, [.ref n0, .ref s0, .ref s1, .ref d0, .ref o0, .int dn, .int nn, .int la, .int ne, .int wi, .ref w0, .ref e0, .ref f0, .ref t0, .ref b0, .int lm])), (e0, .inr (4, [.ref eq, .ref ep, .int k5])), (eq, .inr (3, [.long su9_10, .long sl9_11])), (ep, .inr (3, [.long pu9_12, .long pl9_13])), (w0, .inr (7, [.long u9_5, .long l9_6, .long p9_7]))] : va_W) ++ va_pl L f) := hD
          have hK : va_K (dC, dI) vwCl [(cI, .int)] s := hK
          refine W.widen (k := 0) (n := 0) (by omega) (by omega) ?_
          obtain ⟨y_14, ey_14⟩ : ∃ y : Int32, y = k5 + 1 := ⟨_, rfl⟩
          have ty_14 : y_14.toInt = k5.toInt + 1 := by rw [ey_14]; have := fb_addI (x := k5) (y := 1) (by omega) (by omega); omega
          refine lv_iinc (v := y_14) (lv' := [(5, .int y_14), (0, .ref h0), (1, .ref h1), (2, .ref h2), (3, .int r_1), (4, .int r_2)]) hx hb dX8_findNearest_92 hl (k := 5) rfl (by rw [ey_14]; rfl) (by decide) rfl (fun ls hl => ?_)
          refine lv_goto (tgt := 16) hx hb dX8_findNearest_95 (by decide) ?_
          exact ih_16 y_14 u9_5 l9_6 p9_7 k5 su9_10 sl9_11 pu9_12 pl9_13 (by omega) (by omega) (by omega) H _ (hP.part [0, 4, 1, 2, 3] rfl) (hD.part [0, 4, 1, 2, 3] (by decide) rfl) hS ls (lv_sub hl [1, 2, 3, 4, 5, 0] rfl)
        · have t_49 := mt (fa_eq _ _).mpr c_49
          refine lv_aload_n hx hb dX8_findNearest_52 rfl (lv_at hl 0 rfl) ?_
          refine va_get (D := (dC, dI)) (ci := 8) (v := .ref e0) (C := RX8) (T := TX8) (N := 16) hx hb hts in_X8_findNearestP_X8 hown hK hP 0 rfl rfl 11 (by decide) (hts (.fieldLink RX8 51 "MeetingsAbove" "nearest" "LMeetingsAbove$Nearest;") (by decide +kernel)) (fun _ h9 => h9) rfl dX8_findNearest_53 ?_
          refine va_get (D := (dC, dI)) (ci := 4) (v := .ref eq) (C := RX4) (T := TX4) (N := 3) hx hb hts in_X8_findNearestP_X4 hown hK hP 1 rfl rfl 0 (by decide) (hts (.fieldLink RX8 197 "MeetingsAbove$Nearest" "square" "LMeetingsAbove$Fraction;") (by decide +kernel)) (fun _ h9 => h9) rfl dX8_findNearest_56 ?_
          refine lv_aload_n hx hb dX8_findNearest_59 rfl (lv_at hl 0 rfl) ?_
          refine va_get (D := (dC, dI)) (ci := 8) (v := .ref w0) (C := RX8) (T := TX8) (N := 16) hx hb hts in_X8_findNearestP_X8 hown hK hP 0 rfl rfl 10 (by decide) (hts (.fieldLink RX8 44 "MeetingsAbove" "way" "LMeetingsAbove$Way;") (by decide +kernel)) (fun _ h9 => h9) rfl dX8_findNearest_60 ?_
          refine va_get (D := (dC, dI)) (ci := 7) (v := .long u9_5) (C := RX7) (T := TX7) (N := 3) hx hb hts in_X8_findNearestP_X7 hown hK hP 4 rfl rfl 0 (by decide) (hts (.fieldLink RX8 337 "MeetingsAbove$Way" "upper" "J") (by decide +kernel)) (fun _ h9 => h9) rfl dX8_findNearest_63 ?_
          refine lv_aload_n hx hb dX8_findNearest_66 rfl (lv_at hl 0 rfl) ?_
          refine va_get (D := (dC, dI)) (ci := 8) (v := .ref w0) (C := RX8) (T := TX8) (N := 16) hx hb hts in_X8_findNearestP_X8 hown hK hP 0 rfl rfl 10 (by decide) (hts (.fieldLink RX8 44 "MeetingsAbove" "way" "LMeetingsAbove$Way;") (by decide +kernel)) (fun _ h9 => h9) rfl dX8_findNearest_67 ?_
          refine va_get (D := (dC, dI)) (ci := 7) (v := .long l9_6) (C := RX7) (T := TX7) (N := 3) hx hb hts in_X8_findNearestP_X7 hown hK hP 4 rfl rfl 1 (by decide) (hts (.fieldLink RX8 338 "MeetingsAbove$Way" "lower" "J") (by decide +kernel)) (fun _ h9 => h9) rfl dX8_findNearest_70 ?_
          have hPc := hP.sub (ws' := [(eq, .inr (3, [.long v1, .long v2]))]) [2] rfl
          have hKc := hK.sub (tys' := []) [] rfl
          refine vp_callSi (W.runV (As := [.long u9_5, .long l9_6]) (rest := []) ⟨hx, hb, hml, hown, hts⟩ (c_X3_isAbove l dC dI eq v1 v2 u9_5 l9_6) (cwV 2 hts g_X8_findNearestP__X3_isAbove_339 rfl rfl rfl (by decide +kernel) ⟨Nat.le_of_ble_eq_true rfl, Nat.le_of_ble_eq_true rfl⟩) ⟨fun a U g mk q => by obtain ⟨q0, qP, qK⟩ := q; exact ⟨q0, qP, va_K.moved (u := U) (U := U.calling g mk a) (Vm.Alike.refl U.vm) qK⟩, va_recv hKc hPc (ci := 3) (q0 := 0) rfl rfl, fun U hU hW => ⟨rfl, by rw [hU]; exact hPc, va_K.moved hW.alike hKc⟩⟩ rfl rfl hl.1 rfl (lv_room (Nat.le_of_ble_eq_true rfl)) dX8_findNearest_73 ⟨Nat.le_of_ble_eq_true rfl, Nat.le_of_ble_eq_true rfl⟩) (fun r_15 hr_15 => ?_)
          try dsimp only at hr_15
          refine lv_if_eq (tgt := 92) hx hb dX8_findNearest_76 (by decide) (fun c_76 => ?_) (fun c_76 => ?_)
          · have t_76 := (fa_eq _ _).mp c_76
            obtain ⟨y_16, ey_16⟩ : ∃ y : Int32, y = k5 + 1 := ⟨_, rfl⟩
            have ty_16 : y_16.toInt = k5.toInt + 1 := by rw [ey_16]; have := fb_addI (x := k5) (y := 1) (by omega) (by omega); omega
            refine lv_iinc (v := y_16) (lv' := [(5, .int y_16), (0, .ref h0), (1, .ref h1), (2, .ref h2), (3, .int r_1), (4, .int r_2)]) hx hb dX8_findNearest_92 hl (k := 5) rfl (by rw [ey_16]; rfl) (by decide) rfl (fun ls hl => ?_)
            refine lv_goto (tgt := 16) hx hb dX8_findNearest_95 (by decide) ?_
            exact ih_16 y_16 u9_5 l9_6 p9_7 vs v1 v2 v3 v4 (by omega) (by omega) (by omega) H _ (hP.part [0, 4, 1, 2, 3] rfl) (hD.part [0, 4, 1, 2, 3] (by decide) rfl) hS ls (lv_sub hl [1, 2, 3, 4, 5, 0] rfl)
          · have t_76 := mt (fa_eq _ _).mpr c_76
            refine lv_aload_n hx hb dX8_findNearest_79 rfl (lv_at hl 0 rfl) ?_
            refine va_get (D := (dC, dI)) (ci := 8) (v := .ref e0) (C := RX8) (T := TX8) (N := 16) hx hb hts in_X8_findNearestP_X8 hown hK hP 0 rfl rfl 11 (by decide) (hts (.fieldLink RX8 51 "MeetingsAbove" "nearest" "LMeetingsAbove$Nearest;") (by decide +kernel)) (fun _ h9 => h9) rfl dX8_findNearest_80 ?_
            refine lv_aload_n hx hb dX8_findNearest_83 rfl (lv_at hl 0 rfl) ?_
            refine va_get (D := (dC, dI)) (ci := 8) (v := .ref w0) (C := RX8) (T := TX8) (N := 16) hx hb hts in_X8_findNearestP_X8 hown hK hP 0 rfl rfl 10 (by decide) (hts (.fieldLink RX8 44 "MeetingsAbove" "way" "LMeetingsAbove$Way;") (by decide +kernel)) (fun _ h9 => h9) rfl dX8_findNearest_84 ?_
            refine lv_iload hx hb dX8_findNearest_87 (lv_at hl 5 rfl) ?_
            have hPc := hP.sub (ws' := [(e0, .inr (4, [.ref eq, .ref ep, .int vs])), (eq, .inr (3, [.long v1, .long v2])), (ep, .inr (3, [.long v3, .long v4])), (w0, .inr (7, [.long u9_5, .long l9_6, .long p9_7]))]) [1, 2, 3, 4] rfl
            have hKc := hK.sub (tys' := []) [] rfl
            have hDc := hD.sub (ws' := [(e0, .inr (4, [.ref eq, .ref ep, .int vs])), (eq, .inr (3, [.long v1, .long v2])), (ep, .inr (3, [.long v3, .long v4])), (w0, .inr (7, [.long u9_5, .long l9_6, .long p9_7]))]) [1, 2, 3, 4] (by decide) rfl
            have hFc := va_free (wc := [(e0, .inr (4, [.ref eq, .ref ep, .int vs])), (eq, .inr (3, [.long v1, .long v2])), (ep, .inr (3, [.long v3, .long v4])), (w0, .inr (7, [.long u9_5, .long l9_6, .long p9_7]))]) hD hS hA [1, 2, 3, 4] rfl
            refine va_callv (va_runV (As := [.ref w0, .int k5]) (rest := []) ⟨hx, hb, hml, hown, hts⟩ (c_X4_take l dC dI e0 eq ep w0 vs v1 v2 v3 v4 u9_5 l9_6 p9_7 k5 H.size) (cwV 2 hts g_X8_findNearestP__X4_take_343 rfl rfl rfl (by decide +kernel) ⟨Nat.le_of_ble_eq_true rfl, Nat.le_of_ble_eq_true rfl⟩) ⟨fun a U g mk q => by obtain ⟨q0, q1, qP, qK, qD⟩ := q; exact ⟨q0, q1, qP, va_K.moved (u := U) (U := U.calling g mk a) (Vm.Alike.refl U.vm) qK, qD⟩, va_recv hKc hPc (ci := 4) (q0 := 0) rfl rfl, fun U hU hW => ⟨rfl, by rw [hU], by rw [hU]; exact hPc, va_K.moved hW.alike hKc, hDc.weaken (fun _ _ _ _ => trivial)⟩⟩ rfl rfl hl.1 rfl (lv_room (Nat.le_of_ble_eq_true rfl)) dX8_findNearest_89 ⟨Nat.le_of_ble_eq_true rfl, Nat.le_of_ble_eq_true rfl⟩) hS (fun q _ h => hFc q h) hFc (fun u_17 t H1 locs ht hvm hw_18 hB hz1 hk1 hS => ?_)
            obtain ⟨su9_19, sl9_20, pu9_21, pl9_22, hP1, hK1, hD1⟩ := hB
            rw [ht] at hP1
            have hK1 := va_K.moved hvm.symm hK1
            obtain ⟨hP, hD⟩ := va_joinQ (wr := [(h0, .inr (8, [.ref n0, .ref s0, .ref s1, .ref d0, .ref o0, .int dn, .int nn, .int la, .int ne, .int wi, .ref w0, .ref e0, .ref f0, .ref t0, .ref b0, .int lm]))]) (w1 := [(e0, .inr (4, [.ref eq, .ref ep, .int k5])), (eq, .inr (3, [.long su9_19, .long sl9_20])), (ep, .inr (3, [.long pu9_21, .long pl9_22])), (w0, .inr (7, [.long u9_5, .long l9_6, .long p9_7]))]) hP hD [1, 2, 3, 4] [0] rfl rfl (by decide) (by decide) hk1 hFc hP1 hD1
            have hK := (hK.sub (tys' := [(cI, .int)]) [0] rfl).app hK1
            generalize H1 = H at hP hS ⊢
            have hP : va_P (dC, dI) vwCl (([(h0, .inr (8, [.ref n0, .ref s0, .ref s1, .ref d0, .ref o0, .int dn, .int nn, .int la, .int ne, .int wi, .ref w0, .ref e0, .ref f0, .ref t0, .ref b0, .int lm])), (e0, .inr (4, [.ref eq, .ref ep, .int k5])), (eq, .inr (3, [.long su9_19, .long sl9_20])), (ep, .inr (3, [.long pu9_21, .long pl9_22])), (w0, .inr (7, [.long u9_5, .long l9_6, .long p9_7]))] : va_W) ++ va_pl L f) H := hP
            have hD : va_D A (([(h0, .inr (8, [.ref n0, .ref s0, .ref s1, .ref d0, .ref o0, .int dn, .int nn, .int la, .int ne, .int wi, .ref w0, .ref e0, .ref f0, .ref t0, .ref b0, .int lm])), (e0, .inr (4, [.ref eq, .ref ep, .int k5])), (eq, .inr (3, [.long su9_19, .long sl9_20])), (ep, .inr (3, [.long pu9_21, .long pl9_22])), (w0, .inr (7, [.long u9_5, .long l9_6, .long p9_7]))] : va_W) ++ va_pl L f) := hD
            have hK : va_K (dC, dI) vwCl [(cI, .int)] s := hK
            refine W.widen (k := 0) (n := 0) (by omega) (by omega) ?_
            obtain ⟨y_23, ey_23⟩ : ∃ y : Int32, y = k5 + 1 := ⟨_, rfl⟩
            have ty_23 : y_23.toInt = k5.toInt + 1 := by rw [ey_23]; have := fb_addI (x := k5) (y := 1) (by omega) (by omega); omega
            refine lv_iinc (v := y_23) (lv' := [(5, .int y_23), (0, .ref h0), (1, .ref h1), (2, .ref h2), (3, .int r_1), (4, .int r_2)]) hx hb dX8_findNearest_92 hl (k := 5) rfl (by rw [ey_23]; rfl) (by decide) rfl (fun ls hl => ?_)
            refine lv_goto (tgt := 16) hx hb dX8_findNearest_95 (by decide) ?_
            exact ih_16 y_23 u9_5 l9_6 p9_7 k5 su9_19 sl9_20 pu9_21 pl9_22 (by omega) (by omega) (by omega) H _ (hP.part [0, 4, 1, 2, 3] rfl) (hD.part [0, 4, 1, 2, 3] (by decide) rfl) hS ls (lv_sub hl [1, 2, 3, 4, 5, 0] rfl)
      · have t_35 := mt (fa_le _ _).mpr c_35
        refine lv_iconst (v := 1) hx hb dX8_findNearest_38 (by decide) ?_
        refine lv_goto (tgt := 43) hx hb dX8_findNearest_39 (by decide) ?_
        have hPc := hP.part (cx := [(w0, .inr (7, [.long vu, .long vl, .long vp]))]) [1] rfl
        have hKc := hK.sub (tys' := [(cI, .int)]) [0] rfl
        have hDc := hD.part (cx := [(w0, .inr (7, [.long vu, .long vl, .long vp]))]) [1] (by decide) rfl
        have hFc := va_freeP (cx := [(w0, .inr (7, [.long vu, .long vl, .long vp]))]) hD hS hA [1] rfl
        refine va_callv (va_runV (As := [.ref h1, .ref h2, .int k5, .int 1]) (rest := []) ⟨hx, hb, hml, hown, hts⟩ (c_X7_lookP l dC dI w0 vu vl vp h1 x1 fi1 pl1 db1 go1 g1 h2 x2 fi2 pl2 db2 go2 g2 cI L f k5 1 H.size (by first | assumption | omega) (by first | assumption | omega) (by first | assumption | omega) (by first | assumption | omega) (by first | assumption | omega) (by first | assumption | omega) (by first | assumption | omega) (by first | assumption | omega) (by first | assumption | omega) (by first | assumption | omega) (by first | omega | assumption) (by first | omega | assumption) (by first | omega | assumption) (by first | omega | assumption) (by first | assumption | omega)) (cwV 4 hts g_X8_findNearestP__X7_lookP_333 rfl rfl rfl (by decide +kernel) ⟨Nat.le_of_ble_eq_true rfl, Nat.le_of_ble_eq_true rfl⟩) ⟨fun a U g mk q => by obtain ⟨q0, q1, qP, qK, qD⟩ := q; exact ⟨q0, q1, qP, va_K.moved (u := U) (U := U.calling g mk a) (Vm.Alike.refl U.vm) qK, qD⟩, va_recv hKc hPc (ci := 7) (q0 := 0) rfl rfl, fun U hU hW => ⟨rfl, by rw [hU], by rw [hU]; exact hPc, va_K.moved hW.alike hKc, hDc.weaken (fun _ _ _ _ => trivial)⟩⟩ rfl rfl hl.1 rfl (lv_room (Nat.le_of_ble_eq_true rfl)) dX8_findNearest_43 ⟨Nat.le_of_ble_eq_true rfl, Nat.le_of_ble_eq_true rfl⟩) hS (fun q _ h => hFc q h) hFc (fun u_24 t H1 locs ht hvm hw_25 hB hz1 hk1 hS => ?_)
        obtain ⟨u9_26, l9_27, p9_28, hP1, hK1, hD1⟩ := hB
        rw [ht] at hP1
        have hK1 := va_K.moved hvm.symm hK1
        obtain ⟨hP, hD⟩ := va_joinP (wr := [(h0, .inr (8, [.ref n0, .ref s0, .ref s1, .ref d0, .ref o0, .int dn, .int nn, .int la, .int ne, .int wi, .ref w0, .ref e0, .ref f0, .ref t0, .ref b0, .int lm])), (e0, .inr (4, [.ref eq, .ref ep, .int vs])), (eq, .inr (3, [.long v1, .long v2])), (ep, .inr (3, [.long v3, .long v4]))]) (rx := [(w0, .inr (7, [.long u9_26, .long l9_27, .long p9_28]))]) hP hD [1] [0, 2, 3, 4] rfl rfl (by decide) (by decide) hk1 hFc hP1 hD1
        have hK := (hK.sub (tys' := [(cI, .int)]) [0] rfl).app hK1
        generalize H1 = H at hP hS ⊢
        have hP : va_P (dC, dI) vwCl (([(h0, .inr (8, [.ref n0, .ref s0, .ref s1, .ref d0, .ref o0, .int dn, .int nn, .int la, .int ne, .int wi, .ref w0, .ref e0, .ref f0, .ref t0, .ref b0, .int lm])), (e0, .inr (4, [.ref eq, .ref ep, .int vs])), (eq, .inr (3, [.long v1, .long v2])), (ep, .inr (3, [.long v3, .long v4])), (w0, .inr (7, [.long u9_26, .long l9_27, .long p9_28]))] : va_W) ++ va_pl L f) H := hP
        have hD : va_D A (([(h0, .inr (8, [.ref n0, .ref s0, .ref s1, .ref d0, .ref o0, .int dn, .int nn, .int la, .int ne, .int wi, .ref w0, .ref e0, .ref f0, .ref t0, .ref b0, .int lm])), (e0, .inr (4, [.ref eq, .ref ep, .int vs])), (eq, .inr (3, [.long v1, .long v2])), (ep, .inr (3, [.long v3, .long v4])), (w0, .inr (7, [.long u9_26, .long l9_27, .long p9_28]))] : va_W) ++ va_pl L f) := hD
        have hK : va_K (dC, dI) vwCl [(cI, .int)] s := hK
        refine W.widen (k := 0) (n := 0) (by omega) (by omega) ?_
        refine lv_iload hx hb dX8_findNearest_46 (lv_at hl 5 rfl) ?_
        refine lv_iload_n hx hb dX8_findNearest_48 rfl (lv_at hl 3 rfl) ?_
        refine lv_icmp_eq (tgt := 79) hx hb dX8_findNearest_49 (by decide) (fun c_49 => ?_) (fun c_49 => ?_)
        · have t_49 := (fa_eq _ _).mp c_49
          refine lv_aload_n hx hb dX8_findNearest_79 rfl (lv_at hl 0 rfl) ?_
          refine va_get (D := (dC, dI)) (ci := 8) (v := .ref e0) (C := RX8) (T := TX8) (N := 16) hx hb hts in_X8_findNearestP_X8 hown hK hP 0 rfl rfl 11 (by decide) (hts (.fieldLink RX8 51 "MeetingsAbove" "nearest" "LMeetingsAbove$Nearest;") (by decide +kernel)) (fun _ h9 => h9) rfl dX8_findNearest_80 ?_
          refine lv_aload_n hx hb dX8_findNearest_83 rfl (lv_at hl 0 rfl) ?_
          refine va_get (D := (dC, dI)) (ci := 8) (v := .ref w0) (C := RX8) (T := TX8) (N := 16) hx hb hts in_X8_findNearestP_X8 hown hK hP 0 rfl rfl 10 (by decide) (hts (.fieldLink RX8 44 "MeetingsAbove" "way" "LMeetingsAbove$Way;") (by decide +kernel)) (fun _ h9 => h9) rfl dX8_findNearest_84 ?_
          refine lv_iload hx hb dX8_findNearest_87 (lv_at hl 5 rfl) ?_
          have hPc := hP.sub (ws' := [(e0, .inr (4, [.ref eq, .ref ep, .int vs])), (eq, .inr (3, [.long v1, .long v2])), (ep, .inr (3, [.long v3, .long v4])), (w0, .inr (7, [.long u9_26, .long l9_27, .long p9_28]))]) [1, 2, 3, 4] rfl
          have hKc := hK.sub (tys' := []) [] rfl
          have hDc := hD.sub (ws' := [(e0, .inr (4, [.ref eq, .ref ep, .int vs])), (eq, .inr (3, [.long v1, .long v2])), (ep, .inr (3, [.long v3, .long v4])), (w0, .inr (7, [.long u9_26, .long l9_27, .long p9_28]))]) [1, 2, 3, 4] (by decide) rfl
          have hFc := va_free (wc := [(e0, .inr (4, [.ref eq, .ref ep, .int vs])), (eq, .inr (3, [.long v1, .long v2])), (ep, .inr (3, [.long v3, .long v4])), (w0, .inr (7, [.long u9_26, .long l9_27, .long p9_28]))]) hD hS hA [1, 2, 3, 4] rfl
          refine va_callv (va_runV (As := [.ref w0, .int k5]) (rest := []) ⟨hx, hb, hml, hown, hts⟩ (c_X4_take l dC dI e0 eq ep w0 vs v1 v2 v3 v4 u9_26 l9_27 p9_28 k5 H.size) (cwV 2 hts g_X8_findNearestP__X4_take_343 rfl rfl rfl (by decide +kernel) ⟨Nat.le_of_ble_eq_true rfl, Nat.le_of_ble_eq_true rfl⟩) ⟨fun a U g mk q => by obtain ⟨q0, q1, qP, qK, qD⟩ := q; exact ⟨q0, q1, qP, va_K.moved (u := U) (U := U.calling g mk a) (Vm.Alike.refl U.vm) qK, qD⟩, va_recv hKc hPc (ci := 4) (q0 := 0) rfl rfl, fun U hU hW => ⟨rfl, by rw [hU], by rw [hU]; exact hPc, va_K.moved hW.alike hKc, hDc.weaken (fun _ _ _ _ => trivial)⟩⟩ rfl rfl hl.1 rfl (lv_room (Nat.le_of_ble_eq_true rfl)) dX8_findNearest_89 ⟨Nat.le_of_ble_eq_true rfl, Nat.le_of_ble_eq_true rfl⟩) hS (fun q _ h => hFc q h) hFc (fun u_29 t H1 locs ht hvm hw_30 hB hz1 hk1 hS => ?_)
          obtain ⟨su9_31, sl9_32, pu9_33, pl9_34, hP1, hK1, hD1⟩ := hB
          rw [ht] at hP1
          have hK1 := va_K.moved hvm.symm hK1
          obtain ⟨hP, hD⟩ := va_joinQ (wr := [(h0, .inr (8, [.ref n0, .ref s0, .ref s1, .ref d0, .ref o0, .int dn, .int nn, .int la, .int ne, .int wi, .ref w0, .ref e0, .ref f0, .ref t0, .ref b0, .int lm]))]) (w1 := [(e0, .inr (4, [.ref eq, .ref ep, .int k5])), (eq, .inr (3, [.long su9_31, .long sl9_32])), (ep, .inr (3, [.long pu9_33, .long pl9_34])), (w0, .inr (7, [.long u9_26, .long l9_27, .long p9_28]))]) hP hD [1, 2, 3, 4] [0] rfl rfl (by decide) (by decide) hk1 hFc hP1 hD1
          have hK := (hK.sub (tys' := [(cI, .int)]) [0] rfl).app hK1
          generalize H1 = H at hP hS ⊢
          have hP : va_P (dC, dI) vwCl (([(h0, .inr (8, [.ref n0, .ref s0, .ref s1, .ref d0, .ref o0, .int dn, .int nn, .int la, .int ne, .int wi, .ref w0, .ref e0, .ref f0, .ref t0, .ref b0, .int lm])), (e0, .inr (4, [.ref eq, .ref ep, .int k5])), (eq, .inr (3, [.long su9_31, .long sl9_32])), (ep, .inr (3, [.long pu9_33, .long pl9_34])), (w0, .inr (7, [.long u9_26, .long l9_27, .long p9_28]))] : va_W) ++ va_pl L f) H := hP
          have hD : va_D A (([(h0, .inr (8, [.ref n0, .ref s0, .ref s1, .ref d0, .ref o0, .int dn, .int nn, .int la, .int ne, .int wi, .ref w0, .ref e0, .ref f0, .ref t0, .ref b0, .int lm])), (e0, .inr (4, [.ref eq, .ref ep, .int k5])), (eq, .inr (3, [.long su9_31, .long sl9_32])), (ep, .inr (3, [.long pu9_33, .long pl9_34])), (w0, .inr (7, [.long u9_26, .long l9_27, .long p9_28]))] : va_W) ++ va_pl L f) := hD
          have hK : va_K (dC, dI) vwCl [(cI, .int)] s := hK
          refine W.widen (k := 0) (n := 0) (by omega) (by omega) ?_
          obtain ⟨y_35, ey_35⟩ : ∃ y : Int32, y = k5 + 1 := ⟨_, rfl⟩
          have ty_35 : y_35.toInt = k5.toInt + 1 := by rw [ey_35]; have := fb_addI (x := k5) (y := 1) (by omega) (by omega); omega
          refine lv_iinc (v := y_35) (lv' := [(5, .int y_35), (0, .ref h0), (1, .ref h1), (2, .ref h2), (3, .int r_1), (4, .int r_2)]) hx hb dX8_findNearest_92 hl (k := 5) rfl (by rw [ey_35]; rfl) (by decide) rfl (fun ls hl => ?_)
          refine lv_goto (tgt := 16) hx hb dX8_findNearest_95 (by decide) ?_
          exact ih_16 y_35 u9_26 l9_27 p9_28 k5 su9_31 sl9_32 pu9_33 pl9_34 (by omega) (by omega) (by omega) H _ (hP.part [0, 4, 1, 2, 3] rfl) (hD.part [0, 4, 1, 2, 3] (by decide) rfl) hS ls (lv_sub hl [1, 2, 3, 4, 5, 0] rfl)
        · have t_49 := mt (fa_eq _ _).mpr c_49
          refine lv_aload_n hx hb dX8_findNearest_52 rfl (lv_at hl 0 rfl) ?_
          refine va_get (D := (dC, dI)) (ci := 8) (v := .ref e0) (C := RX8) (T := TX8) (N := 16) hx hb hts in_X8_findNearestP_X8 hown hK hP 0 rfl rfl 11 (by decide) (hts (.fieldLink RX8 51 "MeetingsAbove" "nearest" "LMeetingsAbove$Nearest;") (by decide +kernel)) (fun _ h9 => h9) rfl dX8_findNearest_53 ?_
          refine va_get (D := (dC, dI)) (ci := 4) (v := .ref eq) (C := RX4) (T := TX4) (N := 3) hx hb hts in_X8_findNearestP_X4 hown hK hP 1 rfl rfl 0 (by decide) (hts (.fieldLink RX8 197 "MeetingsAbove$Nearest" "square" "LMeetingsAbove$Fraction;") (by decide +kernel)) (fun _ h9 => h9) rfl dX8_findNearest_56 ?_
          refine lv_aload_n hx hb dX8_findNearest_59 rfl (lv_at hl 0 rfl) ?_
          refine va_get (D := (dC, dI)) (ci := 8) (v := .ref w0) (C := RX8) (T := TX8) (N := 16) hx hb hts in_X8_findNearestP_X8 hown hK hP 0 rfl rfl 10 (by decide) (hts (.fieldLink RX8 44 "MeetingsAbove" "way" "LMeetingsAbove$Way;") (by decide +kernel)) (fun _ h9 => h9) rfl dX8_findNearest_60 ?_
          refine va_get (D := (dC, dI)) (ci := 7) (v := .long u9_26) (C := RX7) (T := TX7) (N := 3) hx hb hts in_X8_findNearestP_X7 hown hK hP 4 rfl rfl 0 (by decide) (hts (.fieldLink RX8 337 "MeetingsAbove$Way" "upper" "J") (by decide +kernel)) (fun _ h9 => h9) rfl dX8_findNearest_63 ?_
          refine lv_aload_n hx hb dX8_findNearest_66 rfl (lv_at hl 0 rfl) ?_
          refine va_get (D := (dC, dI)) (ci := 8) (v := .ref w0) (C := RX8) (T := TX8) (N := 16) hx hb hts in_X8_findNearestP_X8 hown hK hP 0 rfl rfl 10 (by decide) (hts (.fieldLink RX8 44 "MeetingsAbove" "way" "LMeetingsAbove$Way;") (by decide +kernel)) (fun _ h9 => h9) rfl dX8_findNearest_67 ?_
          refine va_get (D := (dC, dI)) (ci := 7) (v := .long l9_27) (C := RX7) (T := TX7) (N := 3) hx hb hts in_X8_findNearestP_X7 hown hK hP 4 rfl rfl 1 (by decide) (hts (.fieldLink RX8 338 "MeetingsAbove$Way" "lower" "J") (by decide +kernel)) (fun _ h9 => h9) rfl dX8_findNearest_70 ?_
          have hPc := hP.sub (ws' := [(eq, .inr (3, [.long v1, .long v2]))]) [2] rfl
          have hKc := hK.sub (tys' := []) [] rfl
          refine vp_callSi (W.runV (As := [.long u9_26, .long l9_27]) (rest := []) ⟨hx, hb, hml, hown, hts⟩ (c_X3_isAbove l dC dI eq v1 v2 u9_26 l9_27) (cwV 2 hts g_X8_findNearestP__X3_isAbove_339 rfl rfl rfl (by decide +kernel) ⟨Nat.le_of_ble_eq_true rfl, Nat.le_of_ble_eq_true rfl⟩) ⟨fun a U g mk q => by obtain ⟨q0, qP, qK⟩ := q; exact ⟨q0, qP, va_K.moved (u := U) (U := U.calling g mk a) (Vm.Alike.refl U.vm) qK⟩, va_recv hKc hPc (ci := 3) (q0 := 0) rfl rfl, fun U hU hW => ⟨rfl, by rw [hU]; exact hPc, va_K.moved hW.alike hKc⟩⟩ rfl rfl hl.1 rfl (lv_room (Nat.le_of_ble_eq_true rfl)) dX8_findNearest_73 ⟨Nat.le_of_ble_eq_true rfl, Nat.le_of_ble_eq_true rfl⟩) (fun r_36 hr_36 => ?_)
          try dsimp only at hr_36
          refine lv_if_eq (tgt := 92) hx hb dX8_findNearest_76 (by decide) (fun c_76 => ?_) (fun c_76 => ?_)
          · have t_76 := (fa_eq _ _).mp c_76
            obtain ⟨y_37, ey_37⟩ : ∃ y : Int32, y = k5 + 1 := ⟨_, rfl⟩
            have ty_37 : y_37.toInt = k5.toInt + 1 := by rw [ey_37]; have := fb_addI (x := k5) (y := 1) (by omega) (by omega); omega
            refine lv_iinc (v := y_37) (lv' := [(5, .int y_37), (0, .ref h0), (1, .ref h1), (2, .ref h2), (3, .int r_1), (4, .int r_2)]) hx hb dX8_findNearest_92 hl (k := 5) rfl (by rw [ey_37]; rfl) (by decide) rfl (fun ls hl => ?_)
            refine lv_goto (tgt := 16) hx hb dX8_findNearest_95 (by decide) ?_
            exact ih_16 y_37 u9_26 l9_27 p9_28 vs v1 v2 v3 v4 (by omega) (by omega) (by omega) H _ (hP.part [0, 4, 1, 2, 3] rfl) (hD.part [0, 4, 1, 2, 3] (by decide) rfl) hS ls (lv_sub hl [1, 2, 3, 4, 5, 0] rfl)
          · have t_76 := mt (fa_eq _ _).mpr c_76
            refine lv_aload_n hx hb dX8_findNearest_79 rfl (lv_at hl 0 rfl) ?_
            refine va_get (D := (dC, dI)) (ci := 8) (v := .ref e0) (C := RX8) (T := TX8) (N := 16) hx hb hts in_X8_findNearestP_X8 hown hK hP 0 rfl rfl 11 (by decide) (hts (.fieldLink RX8 51 "MeetingsAbove" "nearest" "LMeetingsAbove$Nearest;") (by decide +kernel)) (fun _ h9 => h9) rfl dX8_findNearest_80 ?_
            refine lv_aload_n hx hb dX8_findNearest_83 rfl (lv_at hl 0 rfl) ?_
            refine va_get (D := (dC, dI)) (ci := 8) (v := .ref w0) (C := RX8) (T := TX8) (N := 16) hx hb hts in_X8_findNearestP_X8 hown hK hP 0 rfl rfl 10 (by decide) (hts (.fieldLink RX8 44 "MeetingsAbove" "way" "LMeetingsAbove$Way;") (by decide +kernel)) (fun _ h9 => h9) rfl dX8_findNearest_84 ?_
            refine lv_iload hx hb dX8_findNearest_87 (lv_at hl 5 rfl) ?_
            have hPc := hP.sub (ws' := [(e0, .inr (4, [.ref eq, .ref ep, .int vs])), (eq, .inr (3, [.long v1, .long v2])), (ep, .inr (3, [.long v3, .long v4])), (w0, .inr (7, [.long u9_26, .long l9_27, .long p9_28]))]) [1, 2, 3, 4] rfl
            have hKc := hK.sub (tys' := []) [] rfl
            have hDc := hD.sub (ws' := [(e0, .inr (4, [.ref eq, .ref ep, .int vs])), (eq, .inr (3, [.long v1, .long v2])), (ep, .inr (3, [.long v3, .long v4])), (w0, .inr (7, [.long u9_26, .long l9_27, .long p9_28]))]) [1, 2, 3, 4] (by decide) rfl
            have hFc := va_free (wc := [(e0, .inr (4, [.ref eq, .ref ep, .int vs])), (eq, .inr (3, [.long v1, .long v2])), (ep, .inr (3, [.long v3, .long v4])), (w0, .inr (7, [.long u9_26, .long l9_27, .long p9_28]))]) hD hS hA [1, 2, 3, 4] rfl
            refine va_callv (va_runV (As := [.ref w0, .int k5]) (rest := []) ⟨hx, hb, hml, hown, hts⟩ (c_X4_take l dC dI e0 eq ep w0 vs v1 v2 v3 v4 u9_26 l9_27 p9_28 k5 H.size) (cwV 2 hts g_X8_findNearestP__X4_take_343 rfl rfl rfl (by decide +kernel) ⟨Nat.le_of_ble_eq_true rfl, Nat.le_of_ble_eq_true rfl⟩) ⟨fun a U g mk q => by obtain ⟨q0, q1, qP, qK, qD⟩ := q; exact ⟨q0, q1, qP, va_K.moved (u := U) (U := U.calling g mk a) (Vm.Alike.refl U.vm) qK, qD⟩, va_recv hKc hPc (ci := 4) (q0 := 0) rfl rfl, fun U hU hW => ⟨rfl, by rw [hU], by rw [hU]; exact hPc, va_K.moved hW.alike hKc, hDc.weaken (fun _ _ _ _ => trivial)⟩⟩ rfl rfl hl.1 rfl (lv_room (Nat.le_of_ble_eq_true rfl)) dX8_findNearest_89 ⟨Nat.le_of_ble_eq_true rfl, Nat.le_of_ble_eq_true rfl⟩) hS (fun q _ h => hFc q h) hFc (fun u_38 t H1 locs ht hvm hw_39 hB hz1 hk1 hS => ?_)
            obtain ⟨su9_40, sl9_41, pu9_42, pl9_43, hP1, hK1, hD1⟩ := hB
            rw [ht] at hP1
            have hK1 := va_K.moved hvm.symm hK1
            obtain ⟨hP, hD⟩ := va_joinQ (wr := [(h0, .inr (8, [.ref n0, .ref s0, .ref s1, .ref d0, .ref o0, .int dn, .int nn, .int la, .int ne, .int wi, .ref w0, .ref e0, .ref f0, .ref t0, .ref b0, .int lm]))]) (w1 := [(e0, .inr (4, [.ref eq, .ref ep, .int k5])), (eq, .inr (3, [.long su9_40, .long sl9_41])), (ep, .inr (3, [.long pu9_42, .long pl9_43])), (w0, .inr (7, [.long u9_26, .long l9_27, .long p9_28]))]) hP hD [1, 2, 3, 4] [0] rfl rfl (by decide) (by decide) hk1 hFc hP1 hD1
            have hK := (hK.sub (tys' := [(cI, .int)]) [0] rfl).app hK1
            generalize H1 = H at hP hS ⊢
            have hP : va_P (dC, dI) vwCl (([(h0, .inr (8, [.ref n0, .ref s0, .ref s1, .ref d0, .ref o0, .int dn, .int nn, .int la, .int ne, .int wi, .ref w0, .ref e0, .ref f0, .ref t0, .ref b0, .int lm])), (e0, .inr (4, [.ref eq, .ref ep, .int k5])), (eq, .inr (3, [.long su9_40, .long sl9_41])), (ep, .inr (3, [.long pu9_42, .long pl9_43])), (w0, .inr (7, [.long u9_26, .long l9_27, .long p9_28]))] : va_W) ++ va_pl L f) H := hP
            have hD : va_D A (([(h0, .inr (8, [.ref n0, .ref s0, .ref s1, .ref d0, .ref o0, .int dn, .int nn, .int la, .int ne, .int wi, .ref w0, .ref e0, .ref f0, .ref t0, .ref b0, .int lm])), (e0, .inr (4, [.ref eq, .ref ep, .int k5])), (eq, .inr (3, [.long su9_40, .long sl9_41])), (ep, .inr (3, [.long pu9_42, .long pl9_43])), (w0, .inr (7, [.long u9_26, .long l9_27, .long p9_28]))] : va_W) ++ va_pl L f) := hD
            have hK : va_K (dC, dI) vwCl [(cI, .int)] s := hK
            refine W.widen (k := 0) (n := 0) (by omega) (by omega) ?_
            obtain ⟨y_44, ey_44⟩ : ∃ y : Int32, y = k5 + 1 := ⟨_, rfl⟩
            have ty_44 : y_44.toInt = k5.toInt + 1 := by rw [ey_44]; have := fb_addI (x := k5) (y := 1) (by omega) (by omega); omega
            refine lv_iinc (v := y_44) (lv' := [(5, .int y_44), (0, .ref h0), (1, .ref h1), (2, .ref h2), (3, .int r_1), (4, .int r_2)]) hx hb dX8_findNearest_92 hl (k := 5) rfl (by rw [ey_44]; rfl) (by decide) rfl (fun ls hl => ?_)
            refine lv_goto (tgt := 16) hx hb dX8_findNearest_95 (by decide) ?_
            exact ih_16 y_44 u9_26 l9_27 p9_28 k5 su9_40 sl9_41 pu9_42 pl9_43 (by omega) (by omega) (by omega) H _ (hP.part [0, 4, 1, 2, 3] rfl) (hD.part [0, 4, 1, 2, 3] (by decide) rfl) hS ls (lv_sub hl [1, 2, 3, 4, 5, 0] rfl)
def wk_X8_doMeet : List Cond := .code yX8_doMeet cX8_doMeet 5 (some .boolean) :: (([.fieldLink RX8 12 "MeetingsAbove" "now" "LMeetingsAbove$Catalogue;", .fieldLink RX8 108 "MeetingsAbove$Thing" "gone" "Z"] : List Cond) ++ (wsX80 ++ (wsX60 ++ ((wsV RX8 103 RX1 yX1_find wk_X1_find) ++ ((wsV RX8 347 RX8 yX8_comeNear wk_X8_comeNearP) ++ ([]))))))
theorem in_X8_doMeet_X6 : ∀ w ∈ wsX60, w ∈ wk_X8_doMeet := fun _ h => List.mem_cons_of_mem _ (List.mem_append_right _ (List.mem_append_right _ (List.mem_append_left _ h)))
theorem in_X8_doMeet_X8 : ∀ w ∈ wsX80, w ∈ wk_X8_doMeet := fun _ h => List.mem_cons_of_mem _ (List.mem_append_right _ (List.mem_append_left _ h))
theorem gw_X8_doMeet : AG wk_X8_doMeet := AG_ca (AG_l (by decide +kernel)) (AG_app ag_X8 (AG_app ag_X6 (AG_app (AG_V gw_X1_find) (AG_app (AG_V gw_X8_comeNearP) (AG_nil)))))
theorem g_X8_doMeet__X1_find_103 : GoodIn wk_X8_doMeet (wsV RX8 103 RX1 yX1_find wk_X1_find) := goodIn_m (fun _ h => List.mem_cons_of_mem _ (List.mem_append_right _ (List.mem_append_right _ (List.mem_append_right _ (List.mem_append_left _ h))))) (AG_V gw_X1_find)
theorem g_X8_doMeet__X8_comeNearP_347 : GoodIn wk_X8_doMeet (wsV RX8 347 RX8 yX8_comeNear wk_X8_comeNearP) := goodIn_m (fun _ h => List.mem_cons_of_mem _ (List.mem_append_right _ (List.mem_append_right _ (List.mem_append_right _ (List.mem_append_right _ (List.mem_append_left _ h)))))) (AG_V gw_X8_comeNearP)
set_option maxHeartbeats 4000000 in
set_option maxRecDepth 100000 in
theorem c_X8_doMeet (l : Launch) (dC : Nat → ClassId) (dI : Nat → Nat → Nat) (h0 : Nat) (n0 : Nat) (s0 : Nat) (s1 : Nat) (d0 : Nat) (o0 : Nat) (w0 : Nat) (e0 : Nat) (f0 : Nat) (t0 : Nat) (b0 : Nat) (dn : Int32) (nn : Int32) (la : Int32) (ne : Int32) (wi : Int32) (lm : Int32) (na : Nat) (cT : ClassId) (sz9 : Int32) (ga : Nat → Option Nat) (cI : ClassId) (L : List Nat) (f : Nat → va_E) (wu : Int64) (wl : Int64) (wp : Int64) (p1 : Int32) (p2 : Int32) (sz : Nat) (hC : catOK L f cI sz9 ga) : Met l yX8_doMeet wk_X8_doMeet ({ frames := 3, cells := 0, slots := 0, locals := 87 }) (va_Pc [.ref h0, .int p1, .int p2] (fun U => U.heap.size = sz ∧ va_P (dC, dI) vwCl (([(h0, .inr (8, [.ref n0, .ref s0, .ref s1, .ref d0, .ref o0, .int dn, .int nn, .int la, .int ne, .int wi, .ref w0, .ref e0, .ref f0, .ref t0, .ref b0, .int lm])), (n0, .inr (1, [.ref na, .int sz9])), (na, .inl (cT, 16, .inr (.inr (.inr (.inr ga))))), (w0, .inr (7, [.long wu, .long wl, .long wp]))] : va_W) ++ va_pl L f) U.heap ∧ va_K (dC, dI) vwCl [(cT, .object "MeetingsAbove$Thing"), (cI, .int)] U ∧ va_D (fun _ => True) (([(h0, .inr (8, [.ref n0, .ref s0, .ref s1, .ref d0, .ref o0, .int dn, .int nn, .int la, .int ne, .int wi, .ref w0, .ref e0, .ref f0, .ref t0, .ref b0, .int lm])), (n0, .inr (1, [.ref na, .int sz9])), (na, .inl (cT, 16, .inr (.inr (.inr (.inr ga))))), (w0, .inr (7, [.long wu, .long wl, .long wp]))] : va_W) ++ va_pl L f))) (va_Qi (fun (r : Int32) (_ : Unit) => r = 1 ∨ r = 0) (fun (_ : Unit) (t : State) => ∃ (wu9 : Int64) (wl9 : Int64) (wp9 : Int64), va_P (dC, dI) vwCl (([(h0, .inr (8, [.ref n0, .ref s0, .ref s1, .ref d0, .ref o0, .int dn, .int nn, .int la, .int ne, .int wi, .ref w0, .ref e0, .ref f0, .ref t0, .ref b0, .int lm])), (n0, .inr (1, [.ref na, .int sz9])), (na, .inl (cT, 16, .inr (.inr (.inr (.inr ga))))), (w0, .inr (7, [.long wu9, .long wl9, .long wp9]))] : va_W) ++ va_pl L f) t.heap ∧ va_K (dC, dI) vwCl [(cT, .object "MeetingsAbove$Thing"), (cI, .int)] t ∧ va_D (va_A (([(h0, .inr (8, [.ref n0, .ref s0, .ref s1, .ref d0, .ref o0, .int dn, .int nn, .int la, .int ne, .int wi, .ref w0, .ref e0, .ref f0, .ref t0, .ref b0, .int lm])), (n0, .inr (1, [.ref na, .int sz9])), (na, .inl (cT, 16, .inr (.inr (.inr (.inr ga))))), (w0, .inr (7, [.long wu, .long wl, .long wp]))] : va_W) ++ va_pl L f) sz) (([(h0, .inr (8, [.ref n0, .ref s0, .ref s1, .ref d0, .ref o0, .int dn, .int nn, .int la, .int ne, .int wi, .ref w0, .ref e0, .ref f0, .ref t0, .ref b0, .int lm])), (n0, .inr (1, [.ref na, .int sz9])), (na, .inl (cT, 16, .inr (.inr (.inr (.inr ga))))), (w0, .inr (7, [.long wu9, .long wl9, .long wp9]))] : va_W) ++ va_pl L f)) (va_A (([(h0, .inr (8, [.ref n0, .ref s0, .ref s1, .ref d0, .ref o0, .int dn, .int nn, .int la, .int ne, .int wi, .ref w0, .ref e0, .ref f0, .ref t0, .ref b0, .int lm])), (n0, .inr (1, [.ref na, .int sz9])), (na, .inl (cT, 16, .inr (.inr (.inr (.inr ga))))), (w0, .inr (7, [.long wu, .long wl, .long wp]))] : va_W) ++ va_pl L f) sz)) 0 0 (va_A (([(h0, .inr (8, [.ref n0, .ref s0, .ref s1, .ref d0, .ref o0, .int dn, .int nn, .int la, .int ne, .int wi, .ref w0, .ref e0, .ref f0, .ref t0, .ref b0, .int lm])), (n0, .inr (1, [.ref na, .int sz9])), (na, .inl (cT, 16, .inr (.inr (.inr (.inr ga))))), (w0, .inr (7, [.long wu, .long wl, .long wp]))] : va_W) ++ va_pl L f) sz) := by
  refine Met.ofW (cc := cX8_doMeet) (maxL := 5) (ret := (some .boolean)) (by decide) rfl ?_
  intro p e s m args below meth c s₁ B hml hv
  obtain ⟨rfl, hsz, hP, hK, hD0⟩ := hv
  have hx := B.exec
  have hb := B.bytes
  have hr := B.returns
  have hts := atoms_spec (ws := wk_X8_doMeet) B.pre
  have hown : s.vm.findClass RX8 = some m.cls := findClass_of_methodNamed B.named
  have hlocks := B.notSynchronized
  subst hsz
  have hD := hD0.self (sz := s.heap.size)
  generalize hAe : va_A (([(h0, .inr (8, [.ref n0, .ref s0, .ref s1, .ref d0, .ref o0, .int dn, .int nn, .int la, .int ne, .int wi, .ref w0, .ref e0, .ref f0, .ref t0, .ref b0, .int lm])), (n0, .inr (1, [.ref na, .int sz9])), (na, .inl (cT, 16, .inr (.inr (.inr (.inr ga))))), (w0, .inr (7, [.long wu, .long wl, .long wp]))] : va_W) ++ va_pl L f) s.heap.size = A at hD ⊢
  have hA : ∀ q : Nat, s.heap.size ≤ q → A q := fun q h => by rw [← hAe]; exact Or.inr h
  have hS : va_S A s.heap s.heap [] := va_S.rf
  have hP : va_P (dC, dI) vwCl (([(h0, .inr (8, [.ref n0, .ref s0, .ref s1, .ref d0, .ref o0, .int dn, .int nn, .int la, .int ne, .int wi, .ref w0, .ref e0, .ref f0, .ref t0, .ref b0, .int lm])), (n0, .inr (1, [.ref na, .int sz9])), (na, .inl (cT, 16, .inr (.inr (.inr (.inr ga))))), (w0, .inr (7, [.long wu, .long wl, .long wp]))] : va_W) ++ va_pl L f) s.heap := hP
  have hl := lv_entry ([.ref h0, .int p1, .int p2]) (n := 5) (Nat.le_of_ble_eq_true rfl)
  rw [lg_entry_eq]
  generalize (lg_sl ([.ref h0, .int p1, .int p2]) ++ List.replicate (5 - (lg_sl ([.ref h0, .int p1, .int p2])).length) Slot.unset).toArray = ls at hl ⊢
  have hl : lv_has ls 5 [(0, .ref h0), (1, .int p1), (2, .int p2)] := hl
  have kl_0 : (0 : Int32).toInt = 0 := by decide
  have kl_39 : (39 : Int32).toInt = 39 := by decide
  obtain ⟨hC0, hC1, hC2⟩ := id hC
  refine lv_aload_n hx hb dX8_doMeet_0 rfl (lv_at hl 0 rfl) ?_
  refine va_get (D := (dC, dI)) (ci := 8) (v := .ref n0) (C := RX8) (T := TX8) (N := 16) hx hb hts in_X8_doMeet_X8 hown hK hP 0 rfl rfl 0 (by decide) (hts (.fieldLink RX8 12 "MeetingsAbove" "now" "LMeetingsAbove$Catalogue;") (by decide +kernel)) (fun _ h9 => h9) rfl dX8_doMeet_1 ?_
  refine lv_iload_n hx hb dX8_doMeet_4 rfl (lv_at hl 1 rfl) ?_
  have hPc := hP.sub (ws' := [(n0, .inr (1, [.ref na, .int sz9])), (na, .inl (cT, 16, .inr (.inr (.inr (.inr ga)))))]) [1, 2] rfl
  have hKc := hK.sub (tys' := [(cT, .object "MeetingsAbove$Thing")]) [0] rfl
  refine va_csq (W.runV (As := [.int p1]) (rest := []) ⟨hx, hb, hml, hown, hts⟩ (c_X1_find l dC dI n0 na cT sz9 ga p1) (cwV 1 hts g_X8_doMeet__X1_find_103 rfl rfl rfl (by decide +kernel) ⟨Nat.le_of_ble_eq_true rfl, Nat.le_of_ble_eq_true rfl⟩) ⟨fun a U g mk q => by obtain ⟨q0, qP, qK⟩ := q; exact ⟨q0, qP, va_K.moved (u := U) (U := U.calling g mk a) (Vm.Alike.refl U.vm) qK⟩, va_recv hKc hPc (ci := 1) (q0 := 0) rfl rfl, fun U hU hW => ⟨rfl, by rw [hU]; exact hPc, va_K.moved hW.alike hKc⟩⟩ rfl rfl hl.1 rfl (lv_room (Nat.le_of_ble_eq_true rfl)) dX8_doMeet_5 ⟨Nat.le_of_ble_eq_true rfl, Nat.le_of_ble_eq_true rfl⟩) (fun r_1 hr_1 => ?_)
  try dsimp only at hr_1
  rcases r_1 with _ | w_2
  · refine W.eq (g2 := F0 m 8 ls [.null]) rfl ?_
    refine lv_astore_nN (lv' := [(3, .null), (0, .ref h0), (1, .int p1), (2, .int p2)]) hx hb dX8_doMeet_8 rfl hl (by decide) rfl (fun ls hl => ?_)
    refine lv_aload_n hx hb dX8_doMeet_9 rfl (lv_at hl 1 rfl) ?_
    refine va_get (D := (dC, dI)) (ci := 8) (v := .ref n0) (C := RX8) (T := TX8) (N := 16) hx hb hts in_X8_doMeet_X8 hown hK hP 0 rfl rfl 0 (by decide) (hts (.fieldLink RX8 12 "MeetingsAbove" "now" "LMeetingsAbove$Catalogue;") (by decide +kernel)) (fun _ h9 => h9) rfl dX8_doMeet_10 ?_
    refine lv_iload_n hx hb dX8_doMeet_13 rfl (lv_at hl 3 rfl) ?_
    have hPc := hP.sub (ws' := [(n0, .inr (1, [.ref na, .int sz9])), (na, .inl (cT, 16, .inr (.inr (.inr (.inr ga)))))]) [1, 2] rfl
    have hKc := hK.sub (tys' := [(cT, .object "MeetingsAbove$Thing")]) [0] rfl
    refine va_csq (W.runV (As := [.int p2]) (rest := []) ⟨hx, hb, hml, hown, hts⟩ (c_X1_find l dC dI n0 na cT sz9 ga p2) (cwV 1 hts g_X8_doMeet__X1_find_103 rfl rfl rfl (by decide +kernel) ⟨Nat.le_of_ble_eq_true rfl, Nat.le_of_ble_eq_true rfl⟩) ⟨fun a U g mk q => by obtain ⟨q0, qP, qK⟩ := q; exact ⟨q0, qP, va_K.moved (u := U) (U := U.calling g mk a) (Vm.Alike.refl U.vm) qK⟩, va_recv hKc hPc (ci := 1) (q0 := 0) rfl rfl, fun U hU hW => ⟨rfl, by rw [hU]; exact hPc, va_K.moved hW.alike hKc⟩⟩ rfl rfl hl.1 rfl (lv_room (Nat.le_of_ble_eq_true rfl)) dX8_doMeet_14 ⟨Nat.le_of_ble_eq_true rfl, Nat.le_of_ble_eq_true rfl⟩) (fun r_3 hr_3 => ?_)
    try dsimp only at hr_3
    rcases r_3 with _ | w_4
    · refine W.eq (g2 := F0 m 17 ls [.null]) rfl ?_
      refine lv_astoreN (lv' := [(4, .null), (3, .null), (0, .ref h0), (1, .int p1), (2, .int p2)]) hx hb dX8_doMeet_17 hl (by decide) rfl (fun ls hl => ?_)
      refine lv_aload_nN hx hb dX8_doMeet_19 rfl (lv_at hl 1 rfl) ?_
      refine lv_ifnullN (tgt := 43) hx hb dX8_doMeet_20 (by decide) ?_
      refine lv_iconst (v := 0) hx hb dX8_doMeet_43 (by decide) ?_
      have hP9 := hP.part (cx := [(h0, .inr (8, [.ref n0, .ref s0, .ref s1, .ref d0, .ref o0, .int dn, .int nn, .int la, .int ne, .int wi, .ref w0, .ref e0, .ref f0, .ref t0, .ref b0, .int lm])), (n0, .inr (1, [.ref na, .int sz9])), (na, .inl (cT, 16, .inr (.inr (.inr (.inr ga))))), (w0, .inr (7, [.long wu, .long wl, .long wp]))]) [0, 1, 2, 3] rfl
      have hD9 := hD.part (cx := [(h0, .inr (8, [.ref n0, .ref s0, .ref s1, .ref d0, .ref o0, .int dn, .int nn, .int la, .int ne, .int wi, .ref w0, .ref e0, .ref f0, .ref t0, .ref b0, .int lm])), (n0, .inr (1, [.ref na, .int sz9])), (na, .inl (cT, 16, .inr (.inr (.inr (.inr ga))))), (w0, .inr (7, [.long wu, .long wl, .long wp]))]) [0, 1, 2, 3] (by decide) rfl
      have hK9 := hK.sub (tys' := [(cT, .object "MeetingsAbove$Thing"), (cI, .int)]) [0, 1] rfl
      refine W.widen (k := 0) (n := 0) (by omega) (by omega) ?_
      exact W.zret (v := 0) hx hb hr rfl (fun t ht hW => ⟨⟨_, (), rfl, (by first | exact Or.inl rfl | exact Or.inr rfl), wu, wl, wp, by rw [ht]; exact hP9, va_K.moved hW.alike hK9, hD9⟩, hS.F ht⟩) hS.2.2 dX8_doMeet_44
    · refine W.eq (g2 := F0 m 17 ls [.ref w_4]) rfl ?_
      obtain ⟨hi_w_4, hw_w_4⟩ := fd_some hr_3
      obtain ⟨x_w_4, fi_w_4, pl_w_4, db_w_4, go_w_4, g_w_4, hL_w_4, hX_w_4, hf_w_4, hg_w_4, ht_w_4, hgo_w_4⟩ := th_of hC (by rw [tc_I (by omega)]; omega) hw_w_4
      obtain ⟨q1_w_4, q2_w_4, q3_w_4, q4_w_4⟩ := id ht_w_4
      refine lv_astore (lv' := [(4, .ref w_4), (3, .null), (0, .ref h0), (1, .int p1), (2, .int p2)]) hx hb dX8_doMeet_17 hl (by decide) rfl (fun ls hl => ?_)
      refine lv_aload_nN hx hb dX8_doMeet_19 rfl (lv_at hl 1 rfl) ?_
      refine lv_ifnullN (tgt := 43) hx hb dX8_doMeet_20 (by decide) ?_
      refine lv_iconst (v := 0) hx hb dX8_doMeet_43 (by decide) ?_
      have hP9 := hP.part (cx := [(h0, .inr (8, [.ref n0, .ref s0, .ref s1, .ref d0, .ref o0, .int dn, .int nn, .int la, .int ne, .int wi, .ref w0, .ref e0, .ref f0, .ref t0, .ref b0, .int lm])), (n0, .inr (1, [.ref na, .int sz9])), (na, .inl (cT, 16, .inr (.inr (.inr (.inr ga))))), (w0, .inr (7, [.long wu, .long wl, .long wp]))]) [0, 1, 2, 3] rfl
      have hD9 := hD.part (cx := [(h0, .inr (8, [.ref n0, .ref s0, .ref s1, .ref d0, .ref o0, .int dn, .int nn, .int la, .int ne, .int wi, .ref w0, .ref e0, .ref f0, .ref t0, .ref b0, .int lm])), (n0, .inr (1, [.ref na, .int sz9])), (na, .inl (cT, 16, .inr (.inr (.inr (.inr ga))))), (w0, .inr (7, [.long wu, .long wl, .long wp]))]) [0, 1, 2, 3] (by decide) rfl
      have hK9 := hK.sub (tys' := [(cT, .object "MeetingsAbove$Thing"), (cI, .int)]) [0, 1] rfl
      refine W.widen (k := 0) (n := 0) (by omega) (by omega) ?_
      exact W.zret (v := 0) hx hb hr rfl (fun t ht hW => ⟨⟨_, (), rfl, (by first | exact Or.inl rfl | exact Or.inr rfl), wu, wl, wp, by rw [ht]; exact hP9, va_K.moved hW.alike hK9, hD9⟩, hS.F ht⟩) hS.2.2 dX8_doMeet_44
  · refine W.eq (g2 := F0 m 8 ls [.ref w_2]) rfl ?_
    obtain ⟨hi_w_2, hw_w_2⟩ := fd_some hr_1
    obtain ⟨x_w_2, fi_w_2, pl_w_2, db_w_2, go_w_2, g_w_2, hL_w_2, hX_w_2, hf_w_2, hg_w_2, ht_w_2, hgo_w_2⟩ := th_of hC (by rw [tc_I (by omega)]; omega) hw_w_2
    obtain ⟨q1_w_2, q2_w_2, q3_w_2, q4_w_2⟩ := id ht_w_2
    refine lv_astore_n (lv' := [(3, .ref w_2), (0, .ref h0), (1, .int p1), (2, .int p2)]) hx hb dX8_doMeet_8 rfl hl (by decide) rfl (fun ls hl => ?_)
    refine lv_aload_n hx hb dX8_doMeet_9 rfl (lv_at hl 1 rfl) ?_
    refine va_get (D := (dC, dI)) (ci := 8) (v := .ref n0) (C := RX8) (T := TX8) (N := 16) hx hb hts in_X8_doMeet_X8 hown hK hP 0 rfl rfl 0 (by decide) (hts (.fieldLink RX8 12 "MeetingsAbove" "now" "LMeetingsAbove$Catalogue;") (by decide +kernel)) (fun _ h9 => h9) rfl dX8_doMeet_10 ?_
    refine lv_iload_n hx hb dX8_doMeet_13 rfl (lv_at hl 3 rfl) ?_
    have hPc := hP.sub (ws' := [(n0, .inr (1, [.ref na, .int sz9])), (na, .inl (cT, 16, .inr (.inr (.inr (.inr ga)))))]) [1, 2] rfl
    have hKc := hK.sub (tys' := [(cT, .object "MeetingsAbove$Thing")]) [0] rfl
    refine va_csq (W.runV (As := [.int p2]) (rest := []) ⟨hx, hb, hml, hown, hts⟩ (c_X1_find l dC dI n0 na cT sz9 ga p2) (cwV 1 hts g_X8_doMeet__X1_find_103 rfl rfl rfl (by decide +kernel) ⟨Nat.le_of_ble_eq_true rfl, Nat.le_of_ble_eq_true rfl⟩) ⟨fun a U g mk q => by obtain ⟨q0, qP, qK⟩ := q; exact ⟨q0, qP, va_K.moved (u := U) (U := U.calling g mk a) (Vm.Alike.refl U.vm) qK⟩, va_recv hKc hPc (ci := 1) (q0 := 0) rfl rfl, fun U hU hW => ⟨rfl, by rw [hU]; exact hPc, va_K.moved hW.alike hKc⟩⟩ rfl rfl hl.1 rfl (lv_room (Nat.le_of_ble_eq_true rfl)) dX8_doMeet_14 ⟨Nat.le_of_ble_eq_true rfl, Nat.le_of_ble_eq_true rfl⟩) (fun r_7 hr_7 => ?_)
    try dsimp only at hr_7
    rcases r_7 with _ | w_8
    · refine W.eq (g2 := F0 m 17 ls [.null]) rfl ?_
      refine lv_astoreN (lv' := [(4, .null), (3, .ref w_2), (0, .ref h0), (1, .int p1), (2, .int p2)]) hx hb dX8_doMeet_17 hl (by decide) rfl (fun ls hl => ?_)
      refine lv_aload_n hx hb dX8_doMeet_19 rfl (lv_at hl 1 rfl) ?_
      refine lv_ifnull hx hb dX8_doMeet_20 ?_
      refine lv_aloadN hx hb dX8_doMeet_23 (lv_at hl 0 rfl) ?_
      refine lv_ifnullN (tgt := 43) hx hb dX8_doMeet_25 (by decide) ?_
      refine lv_iconst (v := 0) hx hb dX8_doMeet_43 (by decide) ?_
      have hP9 := hP.part (cx := [(h0, .inr (8, [.ref n0, .ref s0, .ref s1, .ref d0, .ref o0, .int dn, .int nn, .int la, .int ne, .int wi, .ref w0, .ref e0, .ref f0, .ref t0, .ref b0, .int lm])), (n0, .inr (1, [.ref na, .int sz9])), (na, .inl (cT, 16, .inr (.inr (.inr (.inr ga))))), (w0, .inr (7, [.long wu, .long wl, .long wp]))]) [0, 1, 2, 3] rfl
      have hD9 := hD.part (cx := [(h0, .inr (8, [.ref n0, .ref s0, .ref s1, .ref d0, .ref o0, .int dn, .int nn, .int la, .int ne, .int wi, .ref w0, .ref e0, .ref f0, .ref t0, .ref b0, .int lm])), (n0, .inr (1, [.ref na, .int sz9])), (na, .inl (cT, 16, .inr (.inr (.inr (.inr ga))))), (w0, .inr (7, [.long wu, .long wl, .long wp]))]) [0, 1, 2, 3] (by decide) rfl
      have hK9 := hK.sub (tys' := [(cT, .object "MeetingsAbove$Thing"), (cI, .int)]) [0, 1] rfl
      refine W.widen (k := 0) (n := 0) (by omega) (by omega) ?_
      exact W.zret (v := 0) hx hb hr rfl (fun t ht hW => ⟨⟨_, (), rfl, (by first | exact Or.inl rfl | exact Or.inr rfl), wu, wl, wp, by rw [ht]; exact hP9, va_K.moved hW.alike hK9, hD9⟩, hS.F ht⟩) hS.2.2 dX8_doMeet_44
    · refine W.eq (g2 := F0 m 17 ls [.ref w_8]) rfl ?_
      obtain ⟨hi_w_8, hw_w_8⟩ := fd_some hr_7
      obtain ⟨x_w_8, fi_w_8, pl_w_8, db_w_8, go_w_8, g_w_8, hL_w_8, hX_w_8, hf_w_8, hg_w_8, ht_w_8, hgo_w_8⟩ := th_of hC (by rw [tc_I (by omega)]; omega) hw_w_8
      obtain ⟨q1_w_8, q2_w_8, q3_w_8, q4_w_8⟩ := id ht_w_8
      refine lv_astore (lv' := [(4, .ref w_8), (3, .ref w_2), (0, .ref h0), (1, .int p1), (2, .int p2)]) hx hb dX8_doMeet_17 hl (by decide) rfl (fun ls hl => ?_)
      refine lv_aload_n hx hb dX8_doMeet_19 rfl (lv_at hl 1 rfl) ?_
      refine lv_ifnull hx hb dX8_doMeet_20 ?_
      refine lv_aload hx hb dX8_doMeet_23 (lv_at hl 0 rfl) ?_
      refine lv_ifnull hx hb dX8_doMeet_25 ?_
      refine lv_aload_n hx hb dX8_doMeet_28 rfl (lv_at hl 1 rfl) ?_
      obtain ⟨k_10, hk_10⟩ := pl_ix (X := [(h0, .inr (8, [.ref n0, .ref s0, .ref s1, .ref d0, .ref o0, .int dn, .int nn, .int la, .int ne, .int wi, .ref w0, .ref e0, .ref f0, .ref t0, .ref b0, .int lm])), (n0, .inr (1, [.ref na, .int sz9])), (na, .inl (cT, 16, .inr (.inr (.inr (.inr ga))))), (w0, .inr (7, [.long wu, .long wl, .long wp]))]) hL_w_2 hf_w_2
      refine va_get (D := (dC, dI)) (ci := 6) (v := .int go_w_2) (C := RX6) (T := TX6) (N := 5) hx hb hts in_X8_doMeet_X6 hown hK hP k_10 hk_10 rfl 4 (by decide) (hts (.fieldLink RX8 108 "MeetingsAbove$Thing" "gone" "Z") (by decide +kernel)) (fun _ h9 => h9) rfl dX8_doMeet_29 ?_
      refine lv_if_ne (tgt := 43) hx hb dX8_doMeet_32 (by decide) (fun c_32 => ?_) (fun c_32 => ?_)
      · have t_32 := mt (fa_eq _ _).mpr c_32
        refine lv_iconst (v := 0) hx hb dX8_doMeet_43 (by decide) ?_
        have hP9 := hP.part (cx := [(h0, .inr (8, [.ref n0, .ref s0, .ref s1, .ref d0, .ref o0, .int dn, .int nn, .int la, .int ne, .int wi, .ref w0, .ref e0, .ref f0, .ref t0, .ref b0, .int lm])), (n0, .inr (1, [.ref na, .int sz9])), (na, .inl (cT, 16, .inr (.inr (.inr (.inr ga))))), (w0, .inr (7, [.long wu, .long wl, .long wp]))]) [0, 1, 2, 3] rfl
        have hD9 := hD.part (cx := [(h0, .inr (8, [.ref n0, .ref s0, .ref s1, .ref d0, .ref o0, .int dn, .int nn, .int la, .int ne, .int wi, .ref w0, .ref e0, .ref f0, .ref t0, .ref b0, .int lm])), (n0, .inr (1, [.ref na, .int sz9])), (na, .inl (cT, 16, .inr (.inr (.inr (.inr ga))))), (w0, .inr (7, [.long wu, .long wl, .long wp]))]) [0, 1, 2, 3] (by decide) rfl
        have hK9 := hK.sub (tys' := [(cT, .object "MeetingsAbove$Thing"), (cI, .int)]) [0, 1] rfl
        refine W.widen (k := 0) (n := 0) (by omega) (by omega) ?_
        exact W.zret (v := 0) hx hb hr rfl (fun t ht hW => ⟨⟨_, (), rfl, (by first | exact Or.inl rfl | exact Or.inr rfl), wu, wl, wp, by rw [ht]; exact hP9, va_K.moved hW.alike hK9, hD9⟩, hS.F ht⟩) hS.2.2 dX8_doMeet_44
      · have t_32 := (fa_eq _ _).mp c_32
        refine lv_aload hx hb dX8_doMeet_35 (lv_at hl 0 rfl) ?_
        obtain ⟨k_11, hk_11⟩ := pl_ix (X := [(h0, .inr (8, [.ref n0, .ref s0, .ref s1, .ref d0, .ref o0, .int dn, .int nn, .int la, .int ne, .int wi, .ref w0, .ref e0, .ref f0, .ref t0, .ref b0, .int lm])), (n0, .inr (1, [.ref na, .int sz9])), (na, .inl (cT, 16, .inr (.inr (.inr (.inr ga))))), (w0, .inr (7, [.long wu, .long wl, .long wp]))]) hL_w_8 hf_w_8
        refine va_get (D := (dC, dI)) (ci := 6) (v := .int go_w_8) (C := RX6) (T := TX6) (N := 5) hx hb hts in_X8_doMeet_X6 hown hK hP k_11 hk_11 rfl 4 (by decide) (hts (.fieldLink RX8 108 "MeetingsAbove$Thing" "gone" "Z") (by decide +kernel)) (fun _ h9 => h9) rfl dX8_doMeet_37 ?_
        refine lv_if_eq (tgt := 45) hx hb dX8_doMeet_40 (by decide) (fun c_40 => ?_) (fun c_40 => ?_)
        · have t_40 := (fa_eq _ _).mp c_40
          refine lv_aload_n hx hb dX8_doMeet_45 rfl (lv_at hl 2 rfl) ?_
          refine lv_aload_n hx hb dX8_doMeet_46 rfl (lv_at hl 1 rfl) ?_
          refine lv_aload hx hb dX8_doMeet_47 (lv_at hl 0 rfl) ?_
          refine lv_iconst (v := 0) hx hb dX8_doMeet_49 (by decide) ?_
          refine lv_bipush (v := 39) hx hb dX8_doMeet_50 (by decide) ?_
          have hPc := hP.part (cx := [(h0, .inr (8, [.ref n0, .ref s0, .ref s1, .ref d0, .ref o0, .int dn, .int nn, .int la, .int ne, .int wi, .ref w0, .ref e0, .ref f0, .ref t0, .ref b0, .int lm])), (w0, .inr (7, [.long wu, .long wl, .long wp]))]) [0, 3] rfl
          have hKc := hK.sub (tys' := [(cI, .int)]) [1] rfl
          have hDc := hD.part (cx := [(h0, .inr (8, [.ref n0, .ref s0, .ref s1, .ref d0, .ref o0, .int dn, .int nn, .int la, .int ne, .int wi, .ref w0, .ref e0, .ref f0, .ref t0, .ref b0, .int lm])), (w0, .inr (7, [.long wu, .long wl, .long wp]))]) [0, 3] (by decide) rfl
          have hFc := va_freeP (cx := [(h0, .inr (8, [.ref n0, .ref s0, .ref s1, .ref d0, .ref o0, .int dn, .int nn, .int la, .int ne, .int wi, .ref w0, .ref e0, .ref f0, .ref t0, .ref b0, .int lm])), (w0, .inr (7, [.long wu, .long wl, .long wp]))]) hD hS hA [0, 3] rfl
          refine va_calli (va_runV (As := [.ref w_2, .ref w_8, .int 0, .int 39]) (rest := []) ⟨hx, hb, hml, hown, hts⟩ (c_X8_comeNearP l dC dI h0 n0 s0 s1 d0 o0 w0 e0 f0 t0 b0 dn nn la ne wi lm wu wl wp w_2 x_w_2 fi_w_2 pl_w_2 db_w_2 go_w_2 g_w_2 w_8 x_w_8 fi_w_8 pl_w_8 db_w_8 go_w_8 g_w_8 cI L f 0 39 s.heap.size (by first | assumption | omega) (by first | assumption | omega) (by first | assumption | omega) (by first | assumption | omega) (by first | assumption | omega) (by first | assumption | omega) (by first | assumption | omega) (by first | assumption | omega) (by first | assumption | omega) (by first | assumption | omega)) (cwV 4 hts g_X8_doMeet__X8_comeNearP_347 rfl rfl rfl (by decide +kernel) ⟨Nat.le_of_ble_eq_true rfl, Nat.le_of_ble_eq_true rfl⟩) ⟨fun a U g mk q => by obtain ⟨q0, q1, qP, qK, qD⟩ := q; exact ⟨q0, q1, qP, va_K.moved (u := U) (U := U.calling g mk a) (Vm.Alike.refl U.vm) qK, qD⟩, va_recv hKc hPc (ci := 8) (q0 := 0) rfl rfl, fun U hU hW => ⟨rfl, by rw [hU], by rw [hU]; exact hPc, va_K.moved hW.alike hKc, hDc.weaken (fun _ _ _ _ => trivial)⟩⟩ rfl rfl hl.1 rfl (lv_room (Nat.le_of_ble_eq_true rfl)) dX8_doMeet_52 ⟨Nat.le_of_ble_eq_true rfl, Nat.le_of_ble_eq_true rfl⟩) hS (fun q _ h => hFc q h) hFc (fun r_13 u_12 t H1 locs ht hvm hw_13 hB hz1 hk1 hS => ?_)
          obtain ⟨wu9_14, wl9_15, wp9_16, hP1, hK1, hD1⟩ := hB
          rw [ht] at hP1
          have hK1 := va_K.moved hvm.symm hK1
          obtain ⟨hP, hD⟩ := va_joinP (wr := [(n0, .inr (1, [.ref na, .int sz9])), (na, .inl (cT, 16, .inr (.inr (.inr (.inr ga)))))]) (rx := [(h0, .inr (8, [.ref n0, .ref s0, .ref s1, .ref d0, .ref o0, .int dn, .int nn, .int la, .int ne, .int wi, .ref w0, .ref e0, .ref f0, .ref t0, .ref b0, .int lm])), (w0, .inr (7, [.long wu9_14, .long wl9_15, .long wp9_16]))]) hP hD [0, 3] [1, 2] rfl rfl (by decide) (by decide) hk1 hFc hP1 hD1
          have hK := (hK.sub (tys' := [(cT, .object "MeetingsAbove$Thing"), (cI, .int)]) [0, 1] rfl).app hK1
          generalize H1 = H at hP hS ⊢
          have hP : va_P (dC, dI) vwCl (([(n0, .inr (1, [.ref na, .int sz9])), (na, .inl (cT, 16, .inr (.inr (.inr (.inr ga))))), (h0, .inr (8, [.ref n0, .ref s0, .ref s1, .ref d0, .ref o0, .int dn, .int nn, .int la, .int ne, .int wi, .ref w0, .ref e0, .ref f0, .ref t0, .ref b0, .int lm])), (w0, .inr (7, [.long wu9_14, .long wl9_15, .long wp9_16]))] : va_W) ++ va_pl L f) H := hP
          have hD : va_D A (([(n0, .inr (1, [.ref na, .int sz9])), (na, .inl (cT, 16, .inr (.inr (.inr (.inr ga))))), (h0, .inr (8, [.ref n0, .ref s0, .ref s1, .ref d0, .ref o0, .int dn, .int nn, .int la, .int ne, .int wi, .ref w0, .ref e0, .ref f0, .ref t0, .ref b0, .int lm])), (w0, .inr (7, [.long wu9_14, .long wl9_15, .long wp9_16]))] : va_W) ++ va_pl L f) := hD
          have hK : va_K (dC, dI) vwCl [(cT, .object "MeetingsAbove$Thing"), (cI, .int)] s := hK
          refine W.widen (k := 0) (n := 0) (by omega) (by omega) ?_
          try dsimp only at hw_13
          have hP9 := hP.part (cx := [(h0, .inr (8, [.ref n0, .ref s0, .ref s1, .ref d0, .ref o0, .int dn, .int nn, .int la, .int ne, .int wi, .ref w0, .ref e0, .ref f0, .ref t0, .ref b0, .int lm])), (n0, .inr (1, [.ref na, .int sz9])), (na, .inl (cT, 16, .inr (.inr (.inr (.inr ga))))), (w0, .inr (7, [.long wu9_14, .long wl9_15, .long wp9_16]))]) [2, 0, 1, 3] rfl
          have hD9 := hD.part (cx := [(h0, .inr (8, [.ref n0, .ref s0, .ref s1, .ref d0, .ref o0, .int dn, .int nn, .int la, .int ne, .int wi, .ref w0, .ref e0, .ref f0, .ref t0, .ref b0, .int lm])), (n0, .inr (1, [.ref na, .int sz9])), (na, .inl (cT, 16, .inr (.inr (.inr (.inr ga))))), (w0, .inr (7, [.long wu9_14, .long wl9_15, .long wp9_16]))]) [2, 0, 1, 3] (by decide) rfl
          have hK9 := hK.sub (tys' := [(cT, .object "MeetingsAbove$Thing"), (cI, .int)]) [0, 1] rfl
          refine W.widen (k := 0) (n := 0) (by omega) (by omega) ?_
          exact W.zret (v := r_13) hx hb hr (by rcases hw_13 with h | h <;> rw [h] <;> rfl) (fun t ht hW => ⟨⟨_, (), rfl, hw_13, wu9_14, wl9_15, wp9_16, by rw [ht]; exact hP9, va_K.moved hW.alike hK9, hD9⟩, hS.F ht⟩) hS.2.2 dX8_doMeet_55
        · have t_40 := mt (fa_eq _ _).mpr c_40
          refine lv_iconst (v := 0) hx hb dX8_doMeet_43 (by decide) ?_
          have hP9 := hP.part (cx := [(h0, .inr (8, [.ref n0, .ref s0, .ref s1, .ref d0, .ref o0, .int dn, .int nn, .int la, .int ne, .int wi, .ref w0, .ref e0, .ref f0, .ref t0, .ref b0, .int lm])), (n0, .inr (1, [.ref na, .int sz9])), (na, .inl (cT, 16, .inr (.inr (.inr (.inr ga))))), (w0, .inr (7, [.long wu, .long wl, .long wp]))]) [0, 1, 2, 3] rfl
          have hD9 := hD.part (cx := [(h0, .inr (8, [.ref n0, .ref s0, .ref s1, .ref d0, .ref o0, .int dn, .int nn, .int la, .int ne, .int wi, .ref w0, .ref e0, .ref f0, .ref t0, .ref b0, .int lm])), (n0, .inr (1, [.ref na, .int sz9])), (na, .inl (cT, 16, .inr (.inr (.inr (.inr ga))))), (w0, .inr (7, [.long wu, .long wl, .long wp]))]) [0, 1, 2, 3] (by decide) rfl
          have hK9 := hK.sub (tys' := [(cT, .object "MeetingsAbove$Thing"), (cI, .int)]) [0, 1] rfl
          refine W.widen (k := 0) (n := 0) (by omega) (by omega) ?_
          exact W.zret (v := 0) hx hb hr rfl (fun t ht hW => ⟨⟨_, (), rfl, (by first | exact Or.inl rfl | exact Or.inr rfl), wu, wl, wp, by rw [ht]; exact hP9, va_K.moved hW.alike hK9, hD9⟩, hS.F ht⟩) hS.2.2 dX8_doMeet_44
