def wk_X9_isClearE : List Cond := .code yX9_isClear cX9_isClear 13 (some .boolean) :: (([.fieldLink RX9 26 "MeetingsAboveModel" "near" "I"] : List Cond) ++ (wsX90 ++ ((wsV RX9 94 RX9 yX9_spot wk_X9_spot) ++ ([]))))
theorem in_X9_isClearE_X9 : ∀ w ∈ wsX90, w ∈ wk_X9_isClearE := fun _ h => List.mem_cons_of_mem _ (List.mem_append_right _ (List.mem_append_left _ h))
theorem gw_X9_isClearE : AG wk_X9_isClearE := AG_ca (AG_l (by decide +kernel)) (AG_app ag_X9 (AG_app (AG_V gw_X9_spot) (AG_nil)))
theorem g_X9_isClearE__X9_spot_94 : GoodIn wk_X9_isClearE (wsV RX9 94 RX9 yX9_spot wk_X9_spot) := goodIn_m (fun _ h => List.mem_cons_of_mem _ (List.mem_append_right _ (List.mem_append_right _ (List.mem_append_left _ h)))) (AG_V gw_X9_spot)
set_option maxHeartbeats 4000000 in
set_option maxRecDepth 100000 in
theorem c_X9_isClearE (l : Launch) (dC : Nat → ClassId) (dI : Nat → Nat → Nat) (h0 : Nat) (a1 : Nat) (a2 : Nat) (a3 : Nat) (a4 : Nat) (a5 : Nat) (a6 : Nat) (a7 : Nat) (a8 : Nat) (a9 : Nat) (a10 : Nat) (a11 : Nat) (th : Int32) (ne : Int32) (wi : Int32) (dn : Int32) (nn : Int32) (la : Int32) (wh : Int32) (up : Int64) (lw : Int64) (pu : Int64) (pw : Int64) (cI : ClassId) (Fi : Nat → Int32) (Ma : Nat → Int32) (Sp : Nat → Int32) (p1 : Int32) (p2 : Int32) (p3 : Int32) (p4 : Int32) (p5 : Int32) (hM : mOK th Fi Ma) (hp10 : 0 ≤ p1.toInt) (hp11 : p1.toInt < th.toInt) (hp20 : 0 ≤ p2.toInt) (hp21 : p2.toInt < th.toInt) (hx0 : 0 ≤ p3.toInt) (hx1 : p3.toInt ≤ 2) (hf1 : (Fi p1.toNatClampNeg).toInt ≤ p4.toInt) (hf2 : (Fi p2.toNatClampNeg).toInt ≤ p4.toInt) (hl1 : p5.toInt < (Fi p1.toNatClampNeg).toInt + (Ma p1.toNatClampNeg).toInt) (hl2 : p5.toInt < (Fi p2.toNatClampNeg).toInt + (Ma p2.toNatClampNeg).toInt) (hft : p4.toInt ≤ p5.toInt) (hct : cOK (Ma p1.toNatClampNeg) (fun k => Sp (36 * p1.toNatClampNeg + k))) (hcu : cOK (Ma p2.toNatClampNeg) (fun k => Sp (36 * p2.toNatClampNeg + k))) (hne0 : 0 ≤ ne.toInt) (hne1 : ne.toInt ≤ 3000) : Met l yX9_isClear wk_X9_isClearE ({ frames := 1, cells := 0, slots := 0, locals := 23 }) (va_Pc [.ref h0, .int p1, .int p2, .int p3, .int p4, .int p5] (fun U => va_P (dC, dI) vwCl [(h0, .inr (9, [.int th, .ref a1, .ref a2, .ref a3, .ref a4, .ref a5, .int ne, .int wi, .int dn, .ref a6, .ref a7, .int nn, .ref a8, .int la, .ref a9, .ref a10, .long up, .long lw, .int wh, .long pu, .long pw, .ref a11])), (a1, .inl (cI, 16, .inl Fi)), (a2, .inl (cI, 16, .inl Ma)), (a5, .inl (cI, 576, .inl Sp))] U.heap ∧ va_K (dC, dI) vwCl [(cI, .int)] U)) (vp_Si (fun r => (r = 1 ∧ farA (fun s => xg (Fi p1.toNatClampNeg) (fun k => Sp (36 * p1.toNatClampNeg + k)) s p3.toInt) (fun s => xg (Fi p2.toNatClampNeg) (fun k => Sp (36 * p2.toNatClampNeg + k)) s p3.toInt) p4.toInt p5.toInt ne.toInt) ∨ (r = 0 ∧ ¬ farA (fun s => xg (Fi p1.toNatClampNeg) (fun k => Sp (36 * p1.toNatClampNeg + k)) s p3.toInt) (fun s => xg (Fi p2.toNatClampNeg) (fun k => Sp (36 * p2.toNatClampNeg + k)) s p3.toInt) p4.toInt p5.toInt ne.toInt))) 0 0 (fun _ => False) := by
  refine Met.ofW (cc := cX9_isClear) (maxL := 13) (ret := (some .boolean)) (by decide) rfl ?_
  intro p e s m args below meth c s₁ B hml hv
  obtain ⟨rfl, hP, hK⟩ := hv
  have hx := B.exec
  have hb := B.bytes
  have hr := B.returns
  have hts := atoms_spec (ws := wk_X9_isClearE) B.pre
  have hown : s.vm.findClass RX9 = some m.cls := findClass_of_methodNamed B.named
  have hlocks := B.notSynchronized
  have hP : va_P (dC, dI) vwCl [(h0, .inr (9, [.int th, .ref a1, .ref a2, .ref a3, .ref a4, .ref a5, .int ne, .int wi, .int dn, .ref a6, .ref a7, .int nn, .ref a8, .int la, .ref a9, .ref a10, .long up, .long lw, .int wh, .long pu, .long pw, .ref a11])), (a1, .inl (cI, 16, .inl Fi)), (a2, .inl (cI, 16, .inl Ma)), (a5, .inl (cI, 576, .inl Sp))] s.heap := hP
  have hl := lv_entry ([.ref h0, .int p1, .int p2, .int p3, .int p4, .int p5]) (n := 13) (Nat.le_of_ble_eq_true rfl)
  rw [lg_entry_eq]
  generalize (lg_sl ([.ref h0, .int p1, .int p2, .int p3, .int p4, .int p5]) ++ List.replicate (13 - (lg_sl ([.ref h0, .int p1, .int p2, .int p3, .int p4, .int p5])).length) Slot.unset).toArray = ls at hl ⊢
  have hl : lv_has ls 13 [(0, .ref h0), (1, .int p1), (2, .int p2), (3, .int p3), (4, .int p4), (5, .int p5)] := hl
  have kl_0 : (0 : Int32).toInt = 0 := by decide
  have kl_1 : (1 : Int32).toInt = 1 := by decide
  obtain ⟨hM0, hM1, hM2⟩ := id hM
  have np1 : ((p1.toNatClampNeg : Nat) : Int) = p1.toInt := tc_I (by omega)
  have bp1 := hM2 p1.toNatClampNeg (by omega)
  have np2 : ((p2.toNatClampNeg : Nat) : Int) = p2.toInt := tc_I (by omega)
  have bp2 := hM2 p2.toNatClampNeg (by omega)
  refine lv_aload_n hx hb dX9_isClear_0 rfl (lv_at hl 0 rfl) ?_
  refine lv_iload_n hx hb dX9_isClear_1 rfl (lv_at hl 1 rfl) ?_
  refine lv_iload hx hb dX9_isClear_2 (lv_at hl 4 rfl) ?_
  refine lv_iload_n hx hb dX9_isClear_4 rfl (lv_at hl 3 rfl) ?_
  have hPc := hP.sub (ws' := [(h0, .inr (9, [.int th, .ref a1, .ref a2, .ref a3, .ref a4, .ref a5, .int ne, .int wi, .int dn, .ref a6, .ref a7, .int nn, .ref a8, .int la, .ref a9, .ref a10, .long up, .long lw, .int wh, .long pu, .long pw, .ref a11])), (a1, .inl (cI, 16, .inl Fi)), (a5, .inl (cI, 576, .inl Sp))]) [0, 1, 3] rfl
  have hKc := hK.sub (tys' := [(cI, .int)]) [0] rfl
  refine vp_callSi (W.runV (As := [.int p1, .int p4, .int p3]) (rest := []) ⟨hx, hb, hml, hown, hts⟩ (c_X9_spot l dC dI Ma h0 a1 a2 a3 a4 a5 a6 a7 a8 a9 a10 a11 th ne wi dn nn la wh up lw pu pw cI Fi Sp p1 p4 p3 (by first | assumption | omega) (by first | assumption | omega) (by first | assumption | omega) (by first | assumption | omega) (by first | assumption | omega) (by first | assumption | omega) (by first | assumption | omega)) (cwV 3 hts g_X9_isClearE__X9_spot_94 rfl rfl rfl (by decide +kernel) ⟨Nat.le_of_ble_eq_true rfl, Nat.le_of_ble_eq_true rfl⟩) ⟨fun a U g mk q => by obtain ⟨q0, qP, qK⟩ := q; exact ⟨q0, qP, va_K.moved (u := U) (U := U.calling g mk a) (Vm.Alike.refl U.vm) qK⟩, va_recv hKc hPc (ci := 9) (q0 := 0) rfl rfl, fun U hU hW => ⟨rfl, by rw [hU]; exact hPc, va_K.moved hW.alike hKc⟩⟩ rfl rfl hl.1 rfl (lv_room (Nat.le_of_ble_eq_true rfl)) dX9_isClear_5 ⟨Nat.le_of_ble_eq_true rfl, Nat.le_of_ble_eq_true rfl⟩) (fun r_1 hr_1 => ?_)
  try dsimp only at hr_1
  have x_r_1 : r_1.toInt = xg (Fi p1.toNatClampNeg) (fun k => Sp (36 * p1.toNatClampNeg + k)) p4.toInt p3.toInt := by rw [hr_1]; exact congrArg (fun k => (Sp k).toInt) (by unfold ixm ixi; omega)
  refine lv_istore (lv' := [(6, .int r_1), (0, .ref h0), (1, .int p1), (2, .int p2), (3, .int p3), (4, .int p4), (5, .int p5)]) hx hb dX9_isClear_8 hl (by decide) rfl (fun ls hl => ?_)
  refine lv_iload hx hb dX9_isClear_10 (lv_at hl 0 rfl) ?_
  refine lv_istore (lv' := [(7, .int r_1), (6, .int r_1), (0, .ref h0), (1, .int p1), (2, .int p2), (3, .int p3), (4, .int p4), (5, .int p5)]) hx hb dX9_isClear_12 hl (by decide) rfl (fun ls hl => ?_)
  refine lv_aload_n hx hb dX9_isClear_14 rfl (lv_at hl 2 rfl) ?_
  refine lv_iload_n hx hb dX9_isClear_15 rfl (lv_at hl 4 rfl) ?_
  refine lv_iload hx hb dX9_isClear_16 (lv_at hl 6 rfl) ?_
  refine lv_iload_n hx hb dX9_isClear_18 rfl (lv_at hl 5 rfl) ?_
  have hPc := hP.sub (ws' := [(h0, .inr (9, [.int th, .ref a1, .ref a2, .ref a3, .ref a4, .ref a5, .int ne, .int wi, .int dn, .ref a6, .ref a7, .int nn, .ref a8, .int la, .ref a9, .ref a10, .long up, .long lw, .int wh, .long pu, .long pw, .ref a11])), (a1, .inl (cI, 16, .inl Fi)), (a5, .inl (cI, 576, .inl Sp))]) [0, 1, 3] rfl
  have hKc := hK.sub (tys' := [(cI, .int)]) [0] rfl
  refine vp_callSi (W.runV (As := [.int p2, .int p4, .int p3]) (rest := []) ⟨hx, hb, hml, hown, hts⟩ (c_X9_spot l dC dI Ma h0 a1 a2 a3 a4 a5 a6 a7 a8 a9 a10 a11 th ne wi dn nn la wh up lw pu pw cI Fi Sp p2 p4 p3 (by first | assumption | omega) (by first | assumption | omega) (by first | assumption | omega) (by first | assumption | omega) (by first | assumption | omega) (by first | assumption | omega) (by first | assumption | omega)) (cwV 3 hts g_X9_isClearE__X9_spot_94 rfl rfl rfl (by decide +kernel) ⟨Nat.le_of_ble_eq_true rfl, Nat.le_of_ble_eq_true rfl⟩) ⟨fun a U g mk q => by obtain ⟨q0, qP, qK⟩ := q; exact ⟨q0, qP, va_K.moved (u := U) (U := U.calling g mk a) (Vm.Alike.refl U.vm) qK⟩, va_recv hKc hPc (ci := 9) (q0 := 0) rfl rfl, fun U hU hW => ⟨rfl, by rw [hU]; exact hPc, va_K.moved hW.alike hKc⟩⟩ rfl rfl hl.1 rfl (lv_room (Nat.le_of_ble_eq_true rfl)) dX9_isClear_19 ⟨Nat.le_of_ble_eq_true rfl, Nat.le_of_ble_eq_true rfl⟩) (fun r_2 hr_2 => ?_)
  try dsimp only at hr_2
  have x_r_2 : r_2.toInt = xg (Fi p2.toNatClampNeg) (fun k => Sp (36 * p2.toNatClampNeg + k)) p4.toInt p3.toInt := by rw [hr_2]; exact congrArg (fun k => (Sp k).toInt) (by unfold ixm ixi; omega)
  refine lv_istore (lv' := [(8, .int r_2), (7, .int r_1), (6, .int r_1), (0, .ref h0), (1, .int p1), (2, .int p2), (3, .int p3), (4, .int p4), (5, .int p5)]) hx hb dX9_isClear_22 hl (by decide) rfl (fun ls hl => ?_)
  refine lv_iload hx hb dX9_isClear_24 (lv_at hl 0 rfl) ?_
  refine lv_istore (lv' := [(9, .int r_2), (8, .int r_2), (7, .int r_1), (6, .int r_1), (0, .ref h0), (1, .int p1), (2, .int p2), (3, .int p3), (4, .int p4), (5, .int p5)]) hx hb dX9_isClear_26 hl (by decide) rfl (fun ls hl => ?_)
  refine lv_iload hx hb dX9_isClear_28 (lv_at hl 8 rfl) ?_
  refine lv_iconst (v := 1) hx hb dX9_isClear_30 (by decide) ?_
  refine lv_iadd hx hb dX9_isClear_31 ?_
  refine lv_topi (fun y_3 ey_3 => ?_)
  have ty_3 : y_3.toInt = p4.toInt + 1 := by rw [ey_3]; have := fb_addI (x := p4) (y := 1) (by omega) (by omega); omega
  refine lv_istore (lv' := [(10, .int y_3), (9, .int r_2), (8, .int r_2), (7, .int r_1), (6, .int r_1), (0, .ref h0), (1, .int p1), (2, .int p2), (3, .int p3), (4, .int p4), (5, .int p5)]) hx hb dX9_isClear_32 hl (by decide) rfl (fun ls hl => ?_)
  refine (show ∀ (k : Nat) (v6 : Int32) (v7 : Int32) (v8 : Int32) (v9 : Int32) (v10 : Int32) (hk0 : p4.toInt < v10.toInt) (hk1 : v10.toInt ≤ p5.toInt + 1) (hlo : ∀ s : Int, p4.toInt ≤ s → s < v10.toInt → v6.toInt ≤ xg (Fi p1.toNatClampNeg) (fun k => Sp (36 * p1.toNatClampNeg + k)) s p3.toInt ∧ xg (Fi p1.toNatClampNeg) (fun k => Sp (36 * p1.toNatClampNeg + k)) s p3.toInt ≤ v7.toInt ∧ v8.toInt ≤ xg (Fi p2.toNatClampNeg) (fun k => Sp (36 * p2.toNatClampNeg + k)) s p3.toInt ∧ xg (Fi p2.toNatClampNeg) (fun k => Sp (36 * p2.toNatClampNeg + k)) s p3.toInt ≤ v9.toInt) (he6 : ∃ s : Int, p4.toInt ≤ s ∧ s ≤ p5.toInt ∧ v6.toInt = xg (Fi p1.toNatClampNeg) (fun k => Sp (36 * p1.toNatClampNeg + k)) s p3.toInt) (he7 : ∃ s : Int, p4.toInt ≤ s ∧ s ≤ p5.toInt ∧ v7.toInt = xg (Fi p1.toNatClampNeg) (fun k => Sp (36 * p1.toNatClampNeg + k)) s p3.toInt) (he8 : ∃ s : Int, p4.toInt ≤ s ∧ s ≤ p5.toInt ∧ v8.toInt = xg (Fi p2.toNatClampNeg) (fun k => Sp (36 * p2.toNatClampNeg + k)) s p3.toInt) (he9 : ∃ s : Int, p4.toInt ≤ s ∧ s ≤ p5.toInt ∧ v9.toInt = xg (Fi p2.toNatClampNeg) (fun k => Sp (36 * p2.toNatClampNeg + k)) s p3.toInt) (hk_34 : (p5.toInt + 1 - v10.toInt).toNat < k) (ls : Array Slot) (hl : lv_has ls 13 [(0, .ref h0), (1, .int p1), (2, .int p2), (3, .int p3), (4, .int p4), (5, .int p5), (6, .int v6), (7, .int v7), (8, .int v8), (9, .int v9), (10, .int v10)]), W p l e _ s m _ below meth c s.heap [] 0 0 _ (F0 m 34 ls []) from ?_) _ r_1 r_1 r_2 r_2 y_3 (by omega) (by omega) (by intro s a9 b9; rw [show s = p4.toInt by omega]; omega) (by exact ⟨p4.toInt, by omega, by omega, by omega⟩) (by exact ⟨p4.toInt, by omega, by omega, by omega⟩) (by exact ⟨p4.toInt, by omega, by omega, by omega⟩) (by exact ⟨p4.toInt, by omega, by omega, by omega⟩) (Nat.lt_succ_self _) ls (lv_sub hl [5, 6, 7, 8, 9, 10, 4, 3, 2, 1, 0] rfl)
  intro k
  induction k with
  | zero => intro v6 v7 v8 v9 v10 hk0 hk1 hlo he6 he7 he8 he9 hk_34; exact absurd hk_34 (Nat.not_lt_zero _)
  | succ k ih_34 =>
    intro v6 v7 v8 v9 v10 hk0 hk1 hlo he6 he7 he8 he9 hk_34 ls hl
    refine lv_iload hx hb dX9_isClear_34 (lv_at hl 10 rfl) ?_
    refine lv_iload hx hb dX9_isClear_36 (lv_at hl 5 rfl) ?_
    refine lv_icmp_gt (tgt := 131) hx hb dX9_isClear_38 (by decide) (fun c_38 => ?_) (fun c_38 => ?_)
    · have t_38 := (fa_lt _ _).mp c_38
      have hL6 : lowP (fun s => xg (Fi p1.toNatClampNeg) (fun k => Sp (36 * p1.toNatClampNeg + k)) s p3.toInt) p4.toInt p5.toInt v6.toInt := ⟨fun s a9 b9 => (hlo s a9 (by omega)).1, he6⟩
      have hH7 : higP (fun s => xg (Fi p1.toNatClampNeg) (fun k => Sp (36 * p1.toNatClampNeg + k)) s p3.toInt) p4.toInt p5.toInt v7.toInt := ⟨fun s a9 b9 => (hlo s a9 (by omega)).2.1, he7⟩
      have hL8 : lowP (fun s => xg (Fi p2.toNatClampNeg) (fun k => Sp (36 * p2.toNatClampNeg + k)) s p3.toInt) p4.toInt p5.toInt v8.toInt := ⟨fun s a9 b9 => (hlo s a9 (by omega)).2.2.1, he8⟩
      have hH9 : higP (fun s => xg (Fi p2.toNatClampNeg) (fun k => Sp (36 * p2.toNatClampNeg + k)) s p3.toInt) p4.toInt p5.toInt v9.toInt := ⟨fun s a9 b9 => (hlo s a9 (by omega)).2.2.2, he9⟩
      obtain ⟨m1, m2⟩ := low_bd hct hL6 (by omega) (by omega) (by omega) (by omega)
      obtain ⟨m3, m4⟩ := hig_bd hct hH7 (by omega) (by omega) (by omega) (by omega)
      obtain ⟨m5, m6⟩ := low_bd hcu hL8 (by omega) (by omega) (by omega) (by omega)
      obtain ⟨m7, m8⟩ := hig_bd hcu hH9 (by omega) (by omega) (by omega) (by omega)
      refine lv_iload hx hb dX9_isClear_131 (lv_at hl 6 rfl) ?_
      refine lv_iload hx hb dX9_isClear_133 (lv_at hl 9 rfl) ?_
      refine lv_isub hx hb dX9_isClear_135 ?_
      refine lv_topi (fun y_4 ey_4 => ?_)
      have ty_4 : y_4.toInt = v6.toInt - v9.toInt := by rw [ey_4]; have := fb_subI (x := v6) (y := v9) (by omega) (by omega); omega
      refine lv_aload_n hx hb dX9_isClear_136 rfl (lv_at hl 0 rfl) ?_
      refine va_get (D := (dC, dI)) (ci := 9) (v := .int ne) (C := RX9) (T := TX9) (N := 22) hx hb hts in_X9_isClearE_X9 hown hK hP 0 rfl rfl 6 (by decide) (hts (.fieldLink RX9 26 "MeetingsAboveModel" "near" "I") (by decide +kernel)) (fun _ h9 => h9) rfl dX9_isClear_137 ?_
      refine lv_icmp_ge (tgt := 155) hx hb dX9_isClear_140 (by decide) (fun c_140 => ?_) (fun c_140 => ?_)
      · have t_140 := (fa_le _ _).mp c_140
        refine lv_iconst (v := 1) hx hb dX9_isClear_155 (by decide) ?_
        refine lv_goto (tgt := 160) hx hb dX9_isClear_156 (by decide) ?_
        exact W.zret (v := 1) hx hb hr rfl (fun t ht _ => ⟨_, rfl, (Or.inl ⟨rfl, by first | exact far_1 hL6 hH9 (by omega) | exact far_2 hL8 hH7 (by omega)⟩), ht⟩) (fun _ h => absurd h List.not_mem_nil) dX9_isClear_160
      · have t_140 := mt (fa_le _ _).mpr c_140
        refine lv_iload hx hb dX9_isClear_143 (lv_at hl 8 rfl) ?_
        refine lv_iload hx hb dX9_isClear_145 (lv_at hl 7 rfl) ?_
        refine lv_isub hx hb dX9_isClear_147 ?_
        refine lv_topi (fun y_5 ey_5 => ?_)
        have ty_5 : y_5.toInt = v8.toInt - v7.toInt := by rw [ey_5]; have := fb_subI (x := v8) (y := v7) (by omega) (by omega); omega
        refine lv_aload_n hx hb dX9_isClear_148 rfl (lv_at hl 0 rfl) ?_
        refine va_get (D := (dC, dI)) (ci := 9) (v := .int ne) (C := RX9) (T := TX9) (N := 22) hx hb hts in_X9_isClearE_X9 hown hK hP 0 rfl rfl 6 (by decide) (hts (.fieldLink RX9 26 "MeetingsAboveModel" "near" "I") (by decide +kernel)) (fun _ h9 => h9) rfl dX9_isClear_149 ?_
        refine lv_icmp_lt (tgt := 159) hx hb dX9_isClear_152 (by decide) (fun c_152 => ?_) (fun c_152 => ?_)
        · have t_152 := (fa_lt _ _).mp c_152
          refine lv_iconst (v := 0) hx hb dX9_isClear_159 (by decide) ?_
          exact W.zret (v := 0) hx hb hr rfl (fun t ht _ => ⟨_, rfl, (Or.inr ⟨rfl, far_no hL6 hH7 hL8 hH9 (by omega) (by omega)⟩), ht⟩) (fun _ h => absurd h List.not_mem_nil) dX9_isClear_160
        · have t_152 := mt (fa_lt _ _).mpr c_152
          refine lv_iconst (v := 1) hx hb dX9_isClear_155 (by decide) ?_
          refine lv_goto (tgt := 160) hx hb dX9_isClear_156 (by decide) ?_
          exact W.zret (v := 1) hx hb hr rfl (fun t ht _ => ⟨_, rfl, (Or.inl ⟨rfl, by first | exact far_1 hL6 hH9 (by omega) | exact far_2 hL8 hH7 (by omega)⟩), ht⟩) (fun _ h => absurd h List.not_mem_nil) dX9_isClear_160
    · have t_38 := mt (fa_lt _ _).mpr c_38
      refine lv_aload_n hx hb dX9_isClear_41 rfl (lv_at hl 0 rfl) ?_
      refine lv_iload_n hx hb dX9_isClear_42 rfl (lv_at hl 1 rfl) ?_
      refine lv_iload hx hb dX9_isClear_43 (lv_at hl 10 rfl) ?_
      refine lv_iload_n hx hb dX9_isClear_45 rfl (lv_at hl 3 rfl) ?_
      have hPc := hP.sub (ws' := [(h0, .inr (9, [.int th, .ref a1, .ref a2, .ref a3, .ref a4, .ref a5, .int ne, .int wi, .int dn, .ref a6, .ref a7, .int nn, .ref a8, .int la, .ref a9, .ref a10, .long up, .long lw, .int wh, .long pu, .long pw, .ref a11])), (a1, .inl (cI, 16, .inl Fi)), (a5, .inl (cI, 576, .inl Sp))]) [0, 1, 3] rfl
      have hKc := hK.sub (tys' := [(cI, .int)]) [0] rfl
      refine vp_callSi (W.runV (As := [.int p1, .int v10, .int p3]) (rest := []) ⟨hx, hb, hml, hown, hts⟩ (c_X9_spot l dC dI Ma h0 a1 a2 a3 a4 a5 a6 a7 a8 a9 a10 a11 th ne wi dn nn la wh up lw pu pw cI Fi Sp p1 v10 p3 (by first | assumption | omega) (by first | assumption | omega) (by first | assumption | omega) (by first | assumption | omega) (by first | assumption | omega) (by first | assumption | omega) (by first | assumption | omega)) (cwV 3 hts g_X9_isClearE__X9_spot_94 rfl rfl rfl (by decide +kernel) ⟨Nat.le_of_ble_eq_true rfl, Nat.le_of_ble_eq_true rfl⟩) ⟨fun a U g mk q => by obtain ⟨q0, qP, qK⟩ := q; exact ⟨q0, qP, va_K.moved (u := U) (U := U.calling g mk a) (Vm.Alike.refl U.vm) qK⟩, va_recv hKc hPc (ci := 9) (q0 := 0) rfl rfl, fun U hU hW => ⟨rfl, by rw [hU]; exact hPc, va_K.moved hW.alike hKc⟩⟩ rfl rfl hl.1 rfl (lv_room (Nat.le_of_ble_eq_true rfl)) dX9_isClear_46 ⟨Nat.le_of_ble_eq_true rfl, Nat.le_of_ble_eq_true rfl⟩) (fun r_6 hr_6 => ?_)
      try dsimp only at hr_6
      have x_r_6 : r_6.toInt = xg (Fi p1.toNatClampNeg) (fun k => Sp (36 * p1.toNatClampNeg + k)) v10.toInt p3.toInt := by rw [hr_6]; exact congrArg (fun k => (Sp k).toInt) (by unfold ixm ixi; omega)
      refine lv_istore (lv' := [(11, .int r_6), (0, .ref h0), (1, .int p1), (2, .int p2), (3, .int p3), (4, .int p4), (5, .int p5), (6, .int v6), (7, .int v7), (8, .int v8), (9, .int v9), (10, .int v10)]) hx hb dX9_isClear_49 hl (by decide) rfl (fun ls hl => ?_)
      refine lv_aload_n hx hb dX9_isClear_51 rfl (lv_at hl 1 rfl) ?_
      refine lv_iload_n hx hb dX9_isClear_52 rfl (lv_at hl 3 rfl) ?_
      refine lv_iload hx hb dX9_isClear_53 (lv_at hl 11 rfl) ?_
      refine lv_iload_n hx hb dX9_isClear_55 rfl (lv_at hl 4 rfl) ?_
      have hPc := hP.sub (ws' := [(h0, .inr (9, [.int th, .ref a1, .ref a2, .ref a3, .ref a4, .ref a5, .int ne, .int wi, .int dn, .ref a6, .ref a7, .int nn, .ref a8, .int la, .ref a9, .ref a10, .long up, .long lw, .int wh, .long pu, .long pw, .ref a11])), (a1, .inl (cI, 16, .inl Fi)), (a5, .inl (cI, 576, .inl Sp))]) [0, 1, 3] rfl
      have hKc := hK.sub (tys' := [(cI, .int)]) [0] rfl
      refine vp_callSi (W.runV (As := [.int p2, .int v10, .int p3]) (rest := []) ⟨hx, hb, hml, hown, hts⟩ (c_X9_spot l dC dI Ma h0 a1 a2 a3 a4 a5 a6 a7 a8 a9 a10 a11 th ne wi dn nn la wh up lw pu pw cI Fi Sp p2 v10 p3 (by first | assumption | omega) (by first | assumption | omega) (by first | assumption | omega) (by first | assumption | omega) (by first | assumption | omega) (by first | assumption | omega) (by first | assumption | omega)) (cwV 3 hts g_X9_isClearE__X9_spot_94 rfl rfl rfl (by decide +kernel) ⟨Nat.le_of_ble_eq_true rfl, Nat.le_of_ble_eq_true rfl⟩) ⟨fun a U g mk q => by obtain ⟨q0, qP, qK⟩ := q; exact ⟨q0, qP, va_K.moved (u := U) (U := U.calling g mk a) (Vm.Alike.refl U.vm) qK⟩, va_recv hKc hPc (ci := 9) (q0 := 0) rfl rfl, fun U hU hW => ⟨rfl, by rw [hU]; exact hPc, va_K.moved hW.alike hKc⟩⟩ rfl rfl hl.1 rfl (lv_room (Nat.le_of_ble_eq_true rfl)) dX9_isClear_56 ⟨Nat.le_of_ble_eq_true rfl, Nat.le_of_ble_eq_true rfl⟩) (fun r_7 hr_7 => ?_)
      try dsimp only at hr_7
      have x_r_7 : r_7.toInt = xg (Fi p2.toNatClampNeg) (fun k => Sp (36 * p2.toNatClampNeg + k)) v10.toInt p3.toInt := by rw [hr_7]; exact congrArg (fun k => (Sp k).toInt) (by unfold ixm ixi; omega)
      refine lv_istore (lv' := [(12, .int r_7), (11, .int r_6), (0, .ref h0), (1, .int p1), (2, .int p2), (3, .int p3), (4, .int p4), (5, .int p5), (6, .int v6), (7, .int v7), (8, .int v8), (9, .int v9), (10, .int v10)]) hx hb dX9_isClear_59 hl (by decide) rfl (fun ls hl => ?_)
      refine lv_iload hx hb dX9_isClear_61 (lv_at hl 1 rfl) ?_
      refine lv_iload hx hb dX9_isClear_63 (lv_at hl 8 rfl) ?_
      refine lv_icmp_ge (tgt := 73) hx hb dX9_isClear_65 (by decide) (fun c_65 => ?_) (fun c_65 => ?_)
      · have t_65 := (fa_le _ _).mp c_65
        refine lv_iload hx hb dX9_isClear_73 (lv_at hl 8 rfl) ?_
        refine lv_istore (lv' := [(6, .int v6), (12, .int r_7), (11, .int r_6), (0, .ref h0), (1, .int p1), (2, .int p2), (3, .int p3), (4, .int p4), (5, .int p5), (7, .int v7), (8, .int v8), (9, .int v9), (10, .int v10)]) hx hb dX9_isClear_75 hl (by decide) rfl (fun ls hl => ?_)
        refine lv_iload hx hb dX9_isClear_77 (lv_at hl 2 rfl) ?_
        refine lv_iload hx hb dX9_isClear_79 (lv_at hl 9 rfl) ?_
        refine lv_icmp_le (tgt := 89) hx hb dX9_isClear_81 (by decide) (fun c_81 => ?_) (fun c_81 => ?_)
        · have t_81 := (fa_le _ _).mp c_81
          refine lv_iload hx hb dX9_isClear_89 (lv_at hl 9 rfl) ?_
          refine lv_istore (lv' := [(7, .int v7), (6, .int v6), (12, .int r_7), (11, .int r_6), (0, .ref h0), (1, .int p1), (2, .int p2), (3, .int p3), (4, .int p4), (5, .int p5), (8, .int v8), (9, .int v9), (10, .int v10)]) hx hb dX9_isClear_91 hl (by decide) rfl (fun ls hl => ?_)
          refine lv_iload hx hb dX9_isClear_93 (lv_at hl 2 rfl) ?_
          refine lv_iload hx hb dX9_isClear_95 (lv_at hl 10 rfl) ?_
          refine lv_icmp_ge (tgt := 105) hx hb dX9_isClear_97 (by decide) (fun c_97 => ?_) (fun c_97 => ?_)
          · have t_97 := (fa_le _ _).mp c_97
            refine lv_iload hx hb dX9_isClear_105 (lv_at hl 10 rfl) ?_
            refine lv_istore (lv' := [(8, .int v8), (7, .int v7), (6, .int v6), (12, .int r_7), (11, .int r_6), (0, .ref h0), (1, .int p1), (2, .int p2), (3, .int p3), (4, .int p4), (5, .int p5), (9, .int v9), (10, .int v10)]) hx hb dX9_isClear_107 hl (by decide) rfl (fun ls hl => ?_)
            refine lv_iload hx hb dX9_isClear_109 (lv_at hl 3 rfl) ?_
            refine lv_iload hx hb dX9_isClear_111 (lv_at hl 11 rfl) ?_
            refine lv_icmp_le (tgt := 121) hx hb dX9_isClear_113 (by decide) (fun c_113 => ?_) (fun c_113 => ?_)
            · have t_113 := (fa_le _ _).mp c_113
              refine lv_iload hx hb dX9_isClear_121 (lv_at hl 11 rfl) ?_
              refine lv_istore (lv' := [(9, .int v9), (8, .int v8), (7, .int v7), (6, .int v6), (12, .int r_7), (11, .int r_6), (0, .ref h0), (1, .int p1), (2, .int p2), (3, .int p3), (4, .int p4), (5, .int p5), (10, .int v10)]) hx hb dX9_isClear_123 hl (by decide) rfl (fun ls hl => ?_)
              obtain ⟨y_8, ey_8⟩ : ∃ y : Int32, y = v10 + 1 := ⟨_, rfl⟩
              have ty_8 : y_8.toInt = v10.toInt + 1 := by rw [ey_8]; have := fb_addI (x := v10) (y := 1) (by omega) (by omega); omega
              refine lv_iinc (v := y_8) (lv' := [(10, .int y_8), (9, .int v9), (8, .int v8), (7, .int v7), (6, .int v6), (12, .int r_7), (11, .int r_6), (0, .ref h0), (1, .int p1), (2, .int p2), (3, .int p3), (4, .int p4), (5, .int p5)]) hx hb dX9_isClear_125 hl (k := 12) rfl (by rw [ey_8]; rfl) (by decide) rfl (fun ls hl => ?_)
              refine lv_goto (tgt := 34) hx hb dX9_isClear_128 (by decide) ?_
              exact ih_34 v6 v7 v8 v9 y_8 (by omega) (by omega) (by intro s a9 b9; rcases (show s < v10.toInt ∨ s = v10.toInt by omega) with z | z <;> first | (have z9 := hlo s a9 z; omega) | (rw [z]; omega)) (by first | exact ⟨v10.toInt, by omega, by omega, by omega⟩ | (obtain ⟨s9, a9, b9, c9⟩ := he6; exact ⟨s9, a9, b9, by omega⟩)) (by first | exact ⟨v10.toInt, by omega, by omega, by omega⟩ | (obtain ⟨s9, a9, b9, c9⟩ := he7; exact ⟨s9, a9, b9, by omega⟩)) (by first | exact ⟨v10.toInt, by omega, by omega, by omega⟩ | (obtain ⟨s9, a9, b9, c9⟩ := he8; exact ⟨s9, a9, b9, by omega⟩)) (by first | exact ⟨v10.toInt, by omega, by omega, by omega⟩ | (obtain ⟨s9, a9, b9, c9⟩ := he9; exact ⟨s9, a9, b9, by omega⟩)) (by omega) ls (lv_sub hl [7, 8, 9, 10, 11, 12, 4, 3, 2, 1, 0] rfl)
            · have t_113 := mt (fa_le _ _).mpr c_113
              refine lv_iload hx hb dX9_isClear_116 (lv_at hl 3 rfl) ?_
              refine lv_goto (tgt := 123) hx hb dX9_isClear_118 (by decide) ?_
              refine lv_istore (lv' := [(9, .int r_7), (8, .int v8), (7, .int v7), (6, .int v6), (12, .int r_7), (11, .int r_6), (0, .ref h0), (1, .int p1), (2, .int p2), (3, .int p3), (4, .int p4), (5, .int p5), (10, .int v10)]) hx hb dX9_isClear_123 hl (by decide) rfl (fun ls hl => ?_)
              obtain ⟨y_9, ey_9⟩ : ∃ y : Int32, y = v10 + 1 := ⟨_, rfl⟩
              have ty_9 : y_9.toInt = v10.toInt + 1 := by rw [ey_9]; have := fb_addI (x := v10) (y := 1) (by omega) (by omega); omega
              refine lv_iinc (v := y_9) (lv' := [(10, .int y_9), (9, .int r_7), (8, .int v8), (7, .int v7), (6, .int v6), (12, .int r_7), (11, .int r_6), (0, .ref h0), (1, .int p1), (2, .int p2), (3, .int p3), (4, .int p4), (5, .int p5)]) hx hb dX9_isClear_125 hl (k := 12) rfl (by rw [ey_9]; rfl) (by decide) rfl (fun ls hl => ?_)
              refine lv_goto (tgt := 34) hx hb dX9_isClear_128 (by decide) ?_
              exact ih_34 v6 v7 v8 r_7 y_9 (by omega) (by omega) (by intro s a9 b9; rcases (show s < v10.toInt ∨ s = v10.toInt by omega) with z | z <;> first | (have z9 := hlo s a9 z; omega) | (rw [z]; omega)) (by first | exact ⟨v10.toInt, by omega, by omega, by omega⟩ | (obtain ⟨s9, a9, b9, c9⟩ := he6; exact ⟨s9, a9, b9, by omega⟩)) (by first | exact ⟨v10.toInt, by omega, by omega, by omega⟩ | (obtain ⟨s9, a9, b9, c9⟩ := he7; exact ⟨s9, a9, b9, by omega⟩)) (by first | exact ⟨v10.toInt, by omega, by omega, by omega⟩ | (obtain ⟨s9, a9, b9, c9⟩ := he8; exact ⟨s9, a9, b9, by omega⟩)) (by first | exact ⟨v10.toInt, by omega, by omega, by omega⟩ | (obtain ⟨s9, a9, b9, c9⟩ := he9; exact ⟨s9, a9, b9, by omega⟩)) (by omega) ls (lv_sub hl [7, 8, 9, 10, 11, 12, 4, 3, 2, 1, 0] rfl)
          · have t_97 := mt (fa_le _ _).mpr c_97
            refine lv_iload hx hb dX9_isClear_100 (lv_at hl 2 rfl) ?_
            refine lv_goto (tgt := 107) hx hb dX9_isClear_102 (by decide) ?_
            refine lv_istore (lv' := [(8, .int r_7), (7, .int v7), (6, .int v6), (12, .int r_7), (11, .int r_6), (0, .ref h0), (1, .int p1), (2, .int p2), (3, .int p3), (4, .int p4), (5, .int p5), (9, .int v9), (10, .int v10)]) hx hb dX9_isClear_107 hl (by decide) rfl (fun ls hl => ?_)
            refine lv_iload hx hb dX9_isClear_109 (lv_at hl 3 rfl) ?_
            refine lv_iload hx hb dX9_isClear_111 (lv_at hl 11 rfl) ?_
            refine lv_icmp_le (tgt := 121) hx hb dX9_isClear_113 (by decide) (fun c_113 => ?_) (fun c_113 => ?_)
            · have t_113 := (fa_le _ _).mp c_113
              refine lv_iload hx hb dX9_isClear_121 (lv_at hl 11 rfl) ?_
              refine lv_istore (lv' := [(9, .int v9), (8, .int r_7), (7, .int v7), (6, .int v6), (12, .int r_7), (11, .int r_6), (0, .ref h0), (1, .int p1), (2, .int p2), (3, .int p3), (4, .int p4), (5, .int p5), (10, .int v10)]) hx hb dX9_isClear_123 hl (by decide) rfl (fun ls hl => ?_)
              obtain ⟨y_10, ey_10⟩ : ∃ y : Int32, y = v10 + 1 := ⟨_, rfl⟩
              have ty_10 : y_10.toInt = v10.toInt + 1 := by rw [ey_10]; have := fb_addI (x := v10) (y := 1) (by omega) (by omega); omega
              refine lv_iinc (v := y_10) (lv' := [(10, .int y_10), (9, .int v9), (8, .int r_7), (7, .int v7), (6, .int v6), (12, .int r_7), (11, .int r_6), (0, .ref h0), (1, .int p1), (2, .int p2), (3, .int p3), (4, .int p4), (5, .int p5)]) hx hb dX9_isClear_125 hl (k := 12) rfl (by rw [ey_10]; rfl) (by decide) rfl (fun ls hl => ?_)
              refine lv_goto (tgt := 34) hx hb dX9_isClear_128 (by decide) ?_
              exact ih_34 v6 v7 r_7 v9 y_10 (by omega) (by omega) (by intro s a9 b9; rcases (show s < v10.toInt ∨ s = v10.toInt by omega) with z | z <;> first | (have z9 := hlo s a9 z; omega) | (rw [z]; omega)) (by first | exact ⟨v10.toInt, by omega, by omega, by omega⟩ | (obtain ⟨s9, a9, b9, c9⟩ := he6; exact ⟨s9, a9, b9, by omega⟩)) (by first | exact ⟨v10.toInt, by omega, by omega, by omega⟩ | (obtain ⟨s9, a9, b9, c9⟩ := he7; exact ⟨s9, a9, b9, by omega⟩)) (by first | exact ⟨v10.toInt, by omega, by omega, by omega⟩ | (obtain ⟨s9, a9, b9, c9⟩ := he8; exact ⟨s9, a9, b9, by omega⟩)) (by first | exact ⟨v10.toInt, by omega, by omega, by omega⟩ | (obtain ⟨s9, a9, b9, c9⟩ := he9; exact ⟨s9, a9, b9, by omega⟩)) (by omega) ls (lv_sub hl [7, 8, 9, 10, 11, 12, 4, 3, 2, 1, 0] rfl)
            · have t_113 := mt (fa_le _ _).mpr c_113
              refine lv_iload hx hb dX9_isClear_116 (lv_at hl 3 rfl) ?_
              refine lv_goto (tgt := 123) hx hb dX9_isClear_118 (by decide) ?_
              refine lv_istore (lv' := [(9, .int r_7), (8, .int r_7), (7, .int v7), (6, .int v6), (12, .int r_7), (11, .int r_6), (0, .ref h0), (1, .int p1), (2, .int p2), (3, .int p3), (4, .int p4), (5, .int p5), (10, .int v10)]) hx hb dX9_isClear_123 hl (by decide) rfl (fun ls hl => ?_)
              obtain ⟨y_11, ey_11⟩ : ∃ y : Int32, y = v10 + 1 := ⟨_, rfl⟩
              have ty_11 : y_11.toInt = v10.toInt + 1 := by rw [ey_11]; have := fb_addI (x := v10) (y := 1) (by omega) (by omega); omega
              refine lv_iinc (v := y_11) (lv' := [(10, .int y_11), (9, .int r_7), (8, .int r_7), (7, .int v7), (6, .int v6), (12, .int r_7), (11, .int r_6), (0, .ref h0), (1, .int p1), (2, .int p2), (3, .int p3), (4, .int p4), (5, .int p5)]) hx hb dX9_isClear_125 hl (k := 12) rfl (by rw [ey_11]; rfl) (by decide) rfl (fun ls hl => ?_)
              refine lv_goto (tgt := 34) hx hb dX9_isClear_128 (by decide) ?_
              exact ih_34 v6 v7 r_7 r_7 y_11 (by omega) (by omega) (by intro s a9 b9; rcases (show s < v10.toInt ∨ s = v10.toInt by omega) with z | z <;> first | (have z9 := hlo s a9 z; omega) | (rw [z]; omega)) (by first | exact ⟨v10.toInt, by omega, by omega, by omega⟩ | (obtain ⟨s9, a9, b9, c9⟩ := he6; exact ⟨s9, a9, b9, by omega⟩)) (by first | exact ⟨v10.toInt, by omega, by omega, by omega⟩ | (obtain ⟨s9, a9, b9, c9⟩ := he7; exact ⟨s9, a9, b9, by omega⟩)) (by first | exact ⟨v10.toInt, by omega, by omega, by omega⟩ | (obtain ⟨s9, a9, b9, c9⟩ := he8; exact ⟨s9, a9, b9, by omega⟩)) (by first | exact ⟨v10.toInt, by omega, by omega, by omega⟩ | (obtain ⟨s9, a9, b9, c9⟩ := he9; exact ⟨s9, a9, b9, by omega⟩)) (by omega) ls (lv_sub hl [7, 8, 9, 10, 11, 12, 4, 3, 2, 1, 0] rfl)
        · have t_81 := mt (fa_le _ _).mpr c_81
          refine lv_iload hx hb dX9_isClear_84 (lv_at hl 2 rfl) ?_
          refine lv_goto (tgt := 91) hx hb dX9_isClear_86 (by decide) ?_
          refine lv_istore (lv' := [(7, .int r_6), (6, .int v6), (12, .int r_7), (11, .int r_6), (0, .ref h0), (1, .int p1), (2, .int p2), (3, .int p3), (4, .int p4), (5, .int p5), (8, .int v8), (9, .int v9), (10, .int v10)]) hx hb dX9_isClear_91 hl (by decide) rfl (fun ls hl => ?_)
          refine lv_iload hx hb dX9_isClear_93 (lv_at hl 2 rfl) ?_
          refine lv_iload hx hb dX9_isClear_95 (lv_at hl 10 rfl) ?_
          refine lv_icmp_ge (tgt := 105) hx hb dX9_isClear_97 (by decide) (fun c_97 => ?_) (fun c_97 => ?_)
          · have t_97 := (fa_le _ _).mp c_97
            refine lv_iload hx hb dX9_isClear_105 (lv_at hl 10 rfl) ?_
            refine lv_istore (lv' := [(8, .int v8), (7, .int r_6), (6, .int v6), (12, .int r_7), (11, .int r_6), (0, .ref h0), (1, .int p1), (2, .int p2), (3, .int p3), (4, .int p4), (5, .int p5), (9, .int v9), (10, .int v10)]) hx hb dX9_isClear_107 hl (by decide) rfl (fun ls hl => ?_)
            refine lv_iload hx hb dX9_isClear_109 (lv_at hl 3 rfl) ?_
            refine lv_iload hx hb dX9_isClear_111 (lv_at hl 11 rfl) ?_
            refine lv_icmp_le (tgt := 121) hx hb dX9_isClear_113 (by decide) (fun c_113 => ?_) (fun c_113 => ?_)
            · have t_113 := (fa_le _ _).mp c_113
              refine lv_iload hx hb dX9_isClear_121 (lv_at hl 11 rfl) ?_
              refine lv_istore (lv' := [(9, .int v9), (8, .int v8), (7, .int r_6), (6, .int v6), (12, .int r_7), (11, .int r_6), (0, .ref h0), (1, .int p1), (2, .int p2), (3, .int p3), (4, .int p4), (5, .int p5), (10, .int v10)]) hx hb dX9_isClear_123 hl (by decide) rfl (fun ls hl => ?_)
              obtain ⟨y_12, ey_12⟩ : ∃ y : Int32, y = v10 + 1 := ⟨_, rfl⟩
              have ty_12 : y_12.toInt = v10.toInt + 1 := by rw [ey_12]; have := fb_addI (x := v10) (y := 1) (by omega) (by omega); omega
              refine lv_iinc (v := y_12) (lv' := [(10, .int y_12), (9, .int v9), (8, .int v8), (7, .int r_6), (6, .int v6), (12, .int r_7), (11, .int r_6), (0, .ref h0), (1, .int p1), (2, .int p2), (3, .int p3), (4, .int p4), (5, .int p5)]) hx hb dX9_isClear_125 hl (k := 12) rfl (by rw [ey_12]; rfl) (by decide) rfl (fun ls hl => ?_)
              refine lv_goto (tgt := 34) hx hb dX9_isClear_128 (by decide) ?_
              exact ih_34 v6 r_6 v8 v9 y_12 (by omega) (by omega) (by intro s a9 b9; rcases (show s < v10.toInt ∨ s = v10.toInt by omega) with z | z <;> first | (have z9 := hlo s a9 z; omega) | (rw [z]; omega)) (by first | exact ⟨v10.toInt, by omega, by omega, by omega⟩ | (obtain ⟨s9, a9, b9, c9⟩ := he6; exact ⟨s9, a9, b9, by omega⟩)) (by first | exact ⟨v10.toInt, by omega, by omega, by omega⟩ | (obtain ⟨s9, a9, b9, c9⟩ := he7; exact ⟨s9, a9, b9, by omega⟩)) (by first | exact ⟨v10.toInt, by omega, by omega, by omega⟩ | (obtain ⟨s9, a9, b9, c9⟩ := he8; exact ⟨s9, a9, b9, by omega⟩)) (by first | exact ⟨v10.toInt, by omega, by omega, by omega⟩ | (obtain ⟨s9, a9, b9, c9⟩ := he9; exact ⟨s9, a9, b9, by omega⟩)) (by omega) ls (lv_sub hl [7, 8, 9, 10, 11, 12, 4, 3, 2, 1, 0] rfl)
            · have t_113 := mt (fa_le _ _).mpr c_113
              refine lv_iload hx hb dX9_isClear_116 (lv_at hl 3 rfl) ?_
              refine lv_goto (tgt := 123) hx hb dX9_isClear_118 (by decide) ?_
              refine lv_istore (lv' := [(9, .int r_7), (8, .int v8), (7, .int r_6), (6, .int v6), (12, .int r_7), (11, .int r_6), (0, .ref h0), (1, .int p1), (2, .int p2), (3, .int p3), (4, .int p4), (5, .int p5), (10, .int v10)]) hx hb dX9_isClear_123 hl (by decide) rfl (fun ls hl => ?_)
              obtain ⟨y_13, ey_13⟩ : ∃ y : Int32, y = v10 + 1 := ⟨_, rfl⟩
              have ty_13 : y_13.toInt = v10.toInt + 1 := by rw [ey_13]; have := fb_addI (x := v10) (y := 1) (by omega) (by omega); omega
              refine lv_iinc (v := y_13) (lv' := [(10, .int y_13), (9, .int r_7), (8, .int v8), (7, .int r_6), (6, .int v6), (12, .int r_7), (11, .int r_6), (0, .ref h0), (1, .int p1), (2, .int p2), (3, .int p3), (4, .int p4), (5, .int p5)]) hx hb dX9_isClear_125 hl (k := 12) rfl (by rw [ey_13]; rfl) (by decide) rfl (fun ls hl => ?_)
              refine lv_goto (tgt := 34) hx hb dX9_isClear_128 (by decide) ?_
              exact ih_34 v6 r_6 v8 r_7 y_13 (by omega) (by omega) (by intro s a9 b9; rcases (show s < v10.toInt ∨ s = v10.toInt by omega) with z | z <;> first | (have z9 := hlo s a9 z; omega) | (rw [z]; omega)) (by first | exact ⟨v10.toInt, by omega, by omega, by omega⟩ | (obtain ⟨s9, a9, b9, c9⟩ := he6; exact ⟨s9, a9, b9, by omega⟩)) (by first | exact ⟨v10.toInt, by omega, by omega, by omega⟩ | (obtain ⟨s9, a9, b9, c9⟩ := he7; exact ⟨s9, a9, b9, by omega⟩)) (by first | exact ⟨v10.toInt, by omega, by omega, by omega⟩ | (obtain ⟨s9, a9, b9, c9⟩ := he8; exact ⟨s9, a9, b9, by omega⟩)) (by first | exact ⟨v10.toInt, by omega, by omega, by omega⟩ | (obtain ⟨s9, a9, b9, c9⟩ := he9; exact ⟨s9, a9, b9, by omega⟩)) (by omega) ls (lv_sub hl [7, 8, 9, 10, 11, 12, 4, 3, 2, 1, 0] rfl)
          · have t_97 := mt (fa_le _ _).mpr c_97
            refine lv_iload hx hb dX9_isClear_100 (lv_at hl 2 rfl) ?_
            refine lv_goto (tgt := 107) hx hb dX9_isClear_102 (by decide) ?_
            refine lv_istore (lv' := [(8, .int r_7), (7, .int r_6), (6, .int v6), (12, .int r_7), (11, .int r_6), (0, .ref h0), (1, .int p1), (2, .int p2), (3, .int p3), (4, .int p4), (5, .int p5), (9, .int v9), (10, .int v10)]) hx hb dX9_isClear_107 hl (by decide) rfl (fun ls hl => ?_)
            refine lv_iload hx hb dX9_isClear_109 (lv_at hl 3 rfl) ?_
            refine lv_iload hx hb dX9_isClear_111 (lv_at hl 11 rfl) ?_
            refine lv_icmp_le (tgt := 121) hx hb dX9_isClear_113 (by decide) (fun c_113 => ?_) (fun c_113 => ?_)
            · have t_113 := (fa_le _ _).mp c_113
              refine lv_iload hx hb dX9_isClear_121 (lv_at hl 11 rfl) ?_
              refine lv_istore (lv' := [(9, .int v9), (8, .int r_7), (7, .int r_6), (6, .int v6), (12, .int r_7), (11, .int r_6), (0, .ref h0), (1, .int p1), (2, .int p2), (3, .int p3), (4, .int p4), (5, .int p5), (10, .int v10)]) hx hb dX9_isClear_123 hl (by decide) rfl (fun ls hl => ?_)
              obtain ⟨y_14, ey_14⟩ : ∃ y : Int32, y = v10 + 1 := ⟨_, rfl⟩
              have ty_14 : y_14.toInt = v10.toInt + 1 := by rw [ey_14]; have := fb_addI (x := v10) (y := 1) (by omega) (by omega); omega
              refine lv_iinc (v := y_14) (lv' := [(10, .int y_14), (9, .int v9), (8, .int r_7), (7, .int r_6), (6, .int v6), (12, .int r_7), (11, .int r_6), (0, .ref h0), (1, .int p1), (2, .int p2), (3, .int p3), (4, .int p4), (5, .int p5)]) hx hb dX9_isClear_125 hl (k := 12) rfl (by rw [ey_14]; rfl) (by decide) rfl (fun ls hl => ?_)
              refine lv_goto (tgt := 34) hx hb dX9_isClear_128 (by decide) ?_
              exact ih_34 v6 r_6 r_7 v9 y_14 (by omega) (by omega) (by intro s a9 b9; rcases (show s < v10.toInt ∨ s = v10.toInt by omega) with z | z <;> first | (have z9 := hlo s a9 z; omega) | (rw [z]; omega)) (by first | exact ⟨v10.toInt, by omega, by omega, by omega⟩ | (obtain ⟨s9, a9, b9, c9⟩ := he6; exact ⟨s9, a9, b9, by omega⟩)) (by first | exact ⟨v10.toInt, by omega, by omega, by omega⟩ | (obtain ⟨s9, a9, b9, c9⟩ := he7; exact ⟨s9, a9, b9, by omega⟩)) (by first | exact ⟨v10.toInt, by omega, by omega, by omega⟩ | (obtain ⟨s9, a9, b9, c9⟩ := he8; exact ⟨s9, a9, b9, by omega⟩)) (by first | exact ⟨v10.toInt, by omega, by omega, by omega⟩ | (obtain ⟨s9, a9, b9, c9⟩ := he9; exact ⟨s9, a9, b9, by omega⟩)) (by omega) ls (lv_sub hl [7, 8, 9, 10, 11, 12, 4, 3, 2, 1, 0] rfl)
            · have t_113 := mt (fa_le _ _).mpr c_113
              refine lv_iload hx hb dX9_isClear_116 (lv_at hl 3 rfl) ?_
              refine lv_goto (tgt := 123) hx hb dX9_isClear_118 (by decide) ?_
              refine lv_istore (lv' := [(9, .int r_7), (8, .int r_7), (7, .int r_6), (6, .int v6), (12, .int r_7), (11, .int r_6), (0, .ref h0), (1, .int p1), (2, .int p2), (3, .int p3), (4, .int p4), (5, .int p5), (10, .int v10)]) hx hb dX9_isClear_123 hl (by decide) rfl (fun ls hl => ?_)
              obtain ⟨y_15, ey_15⟩ : ∃ y : Int32, y = v10 + 1 := ⟨_, rfl⟩
              have ty_15 : y_15.toInt = v10.toInt + 1 := by rw [ey_15]; have := fb_addI (x := v10) (y := 1) (by omega) (by omega); omega
              refine lv_iinc (v := y_15) (lv' := [(10, .int y_15), (9, .int r_7), (8, .int r_7), (7, .int r_6), (6, .int v6), (12, .int r_7), (11, .int r_6), (0, .ref h0), (1, .int p1), (2, .int p2), (3, .int p3), (4, .int p4), (5, .int p5)]) hx hb dX9_isClear_125 hl (k := 12) rfl (by rw [ey_15]; rfl) (by decide) rfl (fun ls hl => ?_)
              refine lv_goto (tgt := 34) hx hb dX9_isClear_128 (by decide) ?_
              exact ih_34 v6 r_6 r_7 r_7 y_15 (by omega) (by omega) (by intro s a9 b9; rcases (show s < v10.toInt ∨ s = v10.toInt by omega) with z | z <;> first | (have z9 := hlo s a9 z; omega) | (rw [z]; omega)) (by first | exact ⟨v10.toInt, by omega, by omega, by omega⟩ | (obtain ⟨s9, a9, b9, c9⟩ := he6; exact ⟨s9, a9, b9, by omega⟩)) (by first | exact ⟨v10.toInt, by omega, by omega, by omega⟩ | (obtain ⟨s9, a9, b9, c9⟩ := he7; exact ⟨s9, a9, b9, by omega⟩)) (by first | exact ⟨v10.toInt, by omega, by omega, by omega⟩ | (obtain ⟨s9, a9, b9, c9⟩ := he8; exact ⟨s9, a9, b9, by omega⟩)) (by first | exact ⟨v10.toInt, by omega, by omega, by omega⟩ | (obtain ⟨s9, a9, b9, c9⟩ := he9; exact ⟨s9, a9, b9, by omega⟩)) (by omega) ls (lv_sub hl [7, 8, 9, 10, 11, 12, 4, 3, 2, 1, 0] rfl)
      · have t_65 := mt (fa_le _ _).mpr c_65
        refine lv_iload hx hb dX9_isClear_68 (lv_at hl 1 rfl) ?_
        refine lv_goto (tgt := 75) hx hb dX9_isClear_70 (by decide) ?_
        refine lv_istore (lv' := [(6, .int r_6), (12, .int r_7), (11, .int r_6), (0, .ref h0), (1, .int p1), (2, .int p2), (3, .int p3), (4, .int p4), (5, .int p5), (7, .int v7), (8, .int v8), (9, .int v9), (10, .int v10)]) hx hb dX9_isClear_75 hl (by decide) rfl (fun ls hl => ?_)
        refine lv_iload hx hb dX9_isClear_77 (lv_at hl 2 rfl) ?_
        refine lv_iload hx hb dX9_isClear_79 (lv_at hl 9 rfl) ?_
        refine lv_icmp_le (tgt := 89) hx hb dX9_isClear_81 (by decide) (fun c_81 => ?_) (fun c_81 => ?_)
        · have t_81 := (fa_le _ _).mp c_81
          refine lv_iload hx hb dX9_isClear_89 (lv_at hl 9 rfl) ?_
          refine lv_istore (lv' := [(7, .int v7), (6, .int r_6), (12, .int r_7), (11, .int r_6), (0, .ref h0), (1, .int p1), (2, .int p2), (3, .int p3), (4, .int p4), (5, .int p5), (8, .int v8), (9, .int v9), (10, .int v10)]) hx hb dX9_isClear_91 hl (by decide) rfl (fun ls hl => ?_)
          refine lv_iload hx hb dX9_isClear_93 (lv_at hl 2 rfl) ?_
          refine lv_iload hx hb dX9_isClear_95 (lv_at hl 10 rfl) ?_
          refine lv_icmp_ge (tgt := 105) hx hb dX9_isClear_97 (by decide) (fun c_97 => ?_) (fun c_97 => ?_)
          · have t_97 := (fa_le _ _).mp c_97
            refine lv_iload hx hb dX9_isClear_105 (lv_at hl 10 rfl) ?_
            refine lv_istore (lv' := [(8, .int v8), (7, .int v7), (6, .int r_6), (12, .int r_7), (11, .int r_6), (0, .ref h0), (1, .int p1), (2, .int p2), (3, .int p3), (4, .int p4), (5, .int p5), (9, .int v9), (10, .int v10)]) hx hb dX9_isClear_107 hl (by decide) rfl (fun ls hl => ?_)
            refine lv_iload hx hb dX9_isClear_109 (lv_at hl 3 rfl) ?_
            refine lv_iload hx hb dX9_isClear_111 (lv_at hl 11 rfl) ?_
            refine lv_icmp_le (tgt := 121) hx hb dX9_isClear_113 (by decide) (fun c_113 => ?_) (fun c_113 => ?_)
            · have t_113 := (fa_le _ _).mp c_113
              refine lv_iload hx hb dX9_isClear_121 (lv_at hl 11 rfl) ?_
              refine lv_istore (lv' := [(9, .int v9), (8, .int v8), (7, .int v7), (6, .int r_6), (12, .int r_7), (11, .int r_6), (0, .ref h0), (1, .int p1), (2, .int p2), (3, .int p3), (4, .int p4), (5, .int p5), (10, .int v10)]) hx hb dX9_isClear_123 hl (by decide) rfl (fun ls hl => ?_)
              obtain ⟨y_16, ey_16⟩ : ∃ y : Int32, y = v10 + 1 := ⟨_, rfl⟩
              have ty_16 : y_16.toInt = v10.toInt + 1 := by rw [ey_16]; have := fb_addI (x := v10) (y := 1) (by omega) (by omega); omega
              refine lv_iinc (v := y_16) (lv' := [(10, .int y_16), (9, .int v9), (8, .int v8), (7, .int v7), (6, .int r_6), (12, .int r_7), (11, .int r_6), (0, .ref h0), (1, .int p1), (2, .int p2), (3, .int p3), (4, .int p4), (5, .int p5)]) hx hb dX9_isClear_125 hl (k := 12) rfl (by rw [ey_16]; rfl) (by decide) rfl (fun ls hl => ?_)
              refine lv_goto (tgt := 34) hx hb dX9_isClear_128 (by decide) ?_
              exact ih_34 r_6 v7 v8 v9 y_16 (by omega) (by omega) (by intro s a9 b9; rcases (show s < v10.toInt ∨ s = v10.toInt by omega) with z | z <;> first | (have z9 := hlo s a9 z; omega) | (rw [z]; omega)) (by first | exact ⟨v10.toInt, by omega, by omega, by omega⟩ | (obtain ⟨s9, a9, b9, c9⟩ := he6; exact ⟨s9, a9, b9, by omega⟩)) (by first | exact ⟨v10.toInt, by omega, by omega, by omega⟩ | (obtain ⟨s9, a9, b9, c9⟩ := he7; exact ⟨s9, a9, b9, by omega⟩)) (by first | exact ⟨v10.toInt, by omega, by omega, by omega⟩ | (obtain ⟨s9, a9, b9, c9⟩ := he8; exact ⟨s9, a9, b9, by omega⟩)) (by first | exact ⟨v10.toInt, by omega, by omega, by omega⟩ | (obtain ⟨s9, a9, b9, c9⟩ := he9; exact ⟨s9, a9, b9, by omega⟩)) (by omega) ls (lv_sub hl [7, 8, 9, 10, 11, 12, 4, 3, 2, 1, 0] rfl)
            · have t_113 := mt (fa_le _ _).mpr c_113
              refine lv_iload hx hb dX9_isClear_116 (lv_at hl 3 rfl) ?_
              refine lv_goto (tgt := 123) hx hb dX9_isClear_118 (by decide) ?_
              refine lv_istore (lv' := [(9, .int r_7), (8, .int v8), (7, .int v7), (6, .int r_6), (12, .int r_7), (11, .int r_6), (0, .ref h0), (1, .int p1), (2, .int p2), (3, .int p3), (4, .int p4), (5, .int p5), (10, .int v10)]) hx hb dX9_isClear_123 hl (by decide) rfl (fun ls hl => ?_)
              obtain ⟨y_17, ey_17⟩ : ∃ y : Int32, y = v10 + 1 := ⟨_, rfl⟩
              have ty_17 : y_17.toInt = v10.toInt + 1 := by rw [ey_17]; have := fb_addI (x := v10) (y := 1) (by omega) (by omega); omega
              refine lv_iinc (v := y_17) (lv' := [(10, .int y_17), (9, .int r_7), (8, .int v8), (7, .int v7), (6, .int r_6), (12, .int r_7), (11, .int r_6), (0, .ref h0), (1, .int p1), (2, .int p2), (3, .int p3), (4, .int p4), (5, .int p5)]) hx hb dX9_isClear_125 hl (k := 12) rfl (by rw [ey_17]; rfl) (by decide) rfl (fun ls hl => ?_)
              refine lv_goto (tgt := 34) hx hb dX9_isClear_128 (by decide) ?_
              exact ih_34 r_6 v7 v8 r_7 y_17 (by omega) (by omega) (by intro s a9 b9; rcases (show s < v10.toInt ∨ s = v10.toInt by omega) with z | z <;> first | (have z9 := hlo s a9 z; omega) | (rw [z]; omega)) (by first | exact ⟨v10.toInt, by omega, by omega, by omega⟩ | (obtain ⟨s9, a9, b9, c9⟩ := he6; exact ⟨s9, a9, b9, by omega⟩)) (by first | exact ⟨v10.toInt, by omega, by omega, by omega⟩ | (obtain ⟨s9, a9, b9, c9⟩ := he7; exact ⟨s9, a9, b9, by omega⟩)) (by first | exact ⟨v10.toInt, by omega, by omega, by omega⟩ | (obtain ⟨s9, a9, b9, c9⟩ := he8; exact ⟨s9, a9, b9, by omega⟩)) (by first | exact ⟨v10.toInt, by omega, by omega, by omega⟩ | (obtain ⟨s9, a9, b9, c9⟩ := he9; exact ⟨s9, a9, b9, by omega⟩)) (by omega) ls (lv_sub hl [7, 8, 9, 10, 11, 12, 4, 3, 2, 1, 0] rfl)
          · have t_97 := mt (fa_le _ _).mpr c_97
            refine lv_iload hx hb dX9_isClear_100 (lv_at hl 2 rfl) ?_
            refine lv_goto (tgt := 107) hx hb dX9_isClear_102 (by decide) ?_
            refine lv_istore (lv' := [(8, .int r_7), (7, .int v7), (6, .int r_6), (12, .int r_7), (11, .int r_6), (0, .ref h0), (1, .int p1), (2, .int p2), (3, .int p3), (4, .int p4), (5, .int p5), (9, .int v9), (10, .int v10)]) hx hb dX9_isClear_107 hl (by decide) rfl (fun ls hl => ?_)
            refine lv_iload hx hb dX9_isClear_109 (lv_at hl 3 rfl) ?_
            refine lv_iload hx hb dX9_isClear_111 (lv_at hl 11 rfl) ?_
            refine lv_icmp_le (tgt := 121) hx hb dX9_isClear_113 (by decide) (fun c_113 => ?_) (fun c_113 => ?_)
            · have t_113 := (fa_le _ _).mp c_113
              refine lv_iload hx hb dX9_isClear_121 (lv_at hl 11 rfl) ?_
              refine lv_istore (lv' := [(9, .int v9), (8, .int r_7), (7, .int v7), (6, .int r_6), (12, .int r_7), (11, .int r_6), (0, .ref h0), (1, .int p1), (2, .int p2), (3, .int p3), (4, .int p4), (5, .int p5), (10, .int v10)]) hx hb dX9_isClear_123 hl (by decide) rfl (fun ls hl => ?_)
              obtain ⟨y_18, ey_18⟩ : ∃ y : Int32, y = v10 + 1 := ⟨_, rfl⟩
              have ty_18 : y_18.toInt = v10.toInt + 1 := by rw [ey_18]; have := fb_addI (x := v10) (y := 1) (by omega) (by omega); omega
              refine lv_iinc (v := y_18) (lv' := [(10, .int y_18), (9, .int v9), (8, .int r_7), (7, .int v7), (6, .int r_6), (12, .int r_7), (11, .int r_6), (0, .ref h0), (1, .int p1), (2, .int p2), (3, .int p3), (4, .int p4), (5, .int p5)]) hx hb dX9_isClear_125 hl (k := 12) rfl (by rw [ey_18]; rfl) (by decide) rfl (fun ls hl => ?_)
              refine lv_goto (tgt := 34) hx hb dX9_isClear_128 (by decide) ?_
              exact ih_34 r_6 v7 r_7 v9 y_18 (by omega) (by omega) (by intro s a9 b9; rcases (show s < v10.toInt ∨ s = v10.toInt by omega) with z | z <;> first | (have z9 := hlo s a9 z; omega) | (rw [z]; omega)) (by first | exact ⟨v10.toInt, by omega, by omega, by omega⟩ | (obtain ⟨s9, a9, b9, c9⟩ := he6; exact ⟨s9, a9, b9, by omega⟩)) (by first | exact ⟨v10.toInt, by omega, by omega, by omega⟩ | (obtain ⟨s9, a9, b9, c9⟩ := he7; exact ⟨s9, a9, b9, by omega⟩)) (by first | exact ⟨v10.toInt, by omega, by omega, by omega⟩ | (obtain ⟨s9, a9, b9, c9⟩ := he8; exact ⟨s9, a9, b9, by omega⟩)) (by first | exact ⟨v10.toInt, by omega, by omega, by omega⟩ | (obtain ⟨s9, a9, b9, c9⟩ := he9; exact ⟨s9, a9, b9, by omega⟩)) (by omega) ls (lv_sub hl [7, 8, 9, 10, 11, 12, 4, 3, 2, 1, 0] rfl)
            · have t_113 := mt (fa_le _ _).mpr c_113
              refine lv_iload hx hb dX9_isClear_116 (lv_at hl 3 rfl) ?_
              refine lv_goto (tgt := 123) hx hb dX9_isClear_118 (by decide) ?_
              refine lv_istore (lv' := [(9, .int r_7), (8, .int r_7), (7, .int v7), (6, .int r_6), (12, .int r_7), (11, .int r_6), (0, .ref h0), (1, .int p1), (2, .int p2), (3, .int p3), (4, .int p4), (5, .int p5), (10, .int v10)]) hx hb dX9_isClear_123 hl (by decide) rfl (fun ls hl => ?_)
              obtain ⟨y_19, ey_19⟩ : ∃ y : Int32, y = v10 + 1 := ⟨_, rfl⟩
              have ty_19 : y_19.toInt = v10.toInt + 1 := by rw [ey_19]; have := fb_addI (x := v10) (y := 1) (by omega) (by omega); omega
              refine lv_iinc (v := y_19) (lv' := [(10, .int y_19), (9, .int r_7), (8, .int r_7), (7, .int v7), (6, .int r_6), (12, .int r_7), (11, .int r_6), (0, .ref h0), (1, .int p1), (2, .int p2), (3, .int p3), (4, .int p4), (5, .int p5)]) hx hb dX9_isClear_125 hl (k := 12) rfl (by rw [ey_19]; rfl) (by decide) rfl (fun ls hl => ?_)
              refine lv_goto (tgt := 34) hx hb dX9_isClear_128 (by decide) ?_
              exact ih_34 r_6 v7 r_7 r_7 y_19 (by omega) (by omega) (by intro s a9 b9; rcases (show s < v10.toInt ∨ s = v10.toInt by omega) with z | z <;> first | (have z9 := hlo s a9 z; omega) | (rw [z]; omega)) (by first | exact ⟨v10.toInt, by omega, by omega, by omega⟩ | (obtain ⟨s9, a9, b9, c9⟩ := he6; exact ⟨s9, a9, b9, by omega⟩)) (by first | exact ⟨v10.toInt, by omega, by omega, by omega⟩ | (obtain ⟨s9, a9, b9, c9⟩ := he7; exact ⟨s9, a9, b9, by omega⟩)) (by first | exact ⟨v10.toInt, by omega, by omega, by omega⟩ | (obtain ⟨s9, a9, b9, c9⟩ := he8; exact ⟨s9, a9, b9, by omega⟩)) (by first | exact ⟨v10.toInt, by omega, by omega, by omega⟩ | (obtain ⟨s9, a9, b9, c9⟩ := he9; exact ⟨s9, a9, b9, by omega⟩)) (by omega) ls (lv_sub hl [7, 8, 9, 10, 11, 12, 4, 3, 2, 1, 0] rfl)
        · have t_81 := mt (fa_le _ _).mpr c_81
          refine lv_iload hx hb dX9_isClear_84 (lv_at hl 2 rfl) ?_
          refine lv_goto (tgt := 91) hx hb dX9_isClear_86 (by decide) ?_
          refine lv_istore (lv' := [(7, .int r_6), (6, .int r_6), (12, .int r_7), (11, .int r_6), (0, .ref h0), (1, .int p1), (2, .int p2), (3, .int p3), (4, .int p4), (5, .int p5), (8, .int v8), (9, .int v9), (10, .int v10)]) hx hb dX9_isClear_91 hl (by decide) rfl (fun ls hl => ?_)
          refine lv_iload hx hb dX9_isClear_93 (lv_at hl 2 rfl) ?_
          refine lv_iload hx hb dX9_isClear_95 (lv_at hl 10 rfl) ?_
          refine lv_icmp_ge (tgt := 105) hx hb dX9_isClear_97 (by decide) (fun c_97 => ?_) (fun c_97 => ?_)
          · have t_97 := (fa_le _ _).mp c_97
            refine lv_iload hx hb dX9_isClear_105 (lv_at hl 10 rfl) ?_
            refine lv_istore (lv' := [(8, .int v8), (7, .int r_6), (6, .int r_6), (12, .int r_7), (11, .int r_6), (0, .ref h0), (1, .int p1), (2, .int p2), (3, .int p3), (4, .int p4), (5, .int p5), (9, .int v9), (10, .int v10)]) hx hb dX9_isClear_107 hl (by decide) rfl (fun ls hl => ?_)
            refine lv_iload hx hb dX9_isClear_109 (lv_at hl 3 rfl) ?_
            refine lv_iload hx hb dX9_isClear_111 (lv_at hl 11 rfl) ?_
            refine lv_icmp_le (tgt := 121) hx hb dX9_isClear_113 (by decide) (fun c_113 => ?_) (fun c_113 => ?_)
            · have t_113 := (fa_le _ _).mp c_113
              refine lv_iload hx hb dX9_isClear_121 (lv_at hl 11 rfl) ?_
              refine lv_istore (lv' := [(9, .int v9), (8, .int v8), (7, .int r_6), (6, .int r_6), (12, .int r_7), (11, .int r_6), (0, .ref h0), (1, .int p1), (2, .int p2), (3, .int p3), (4, .int p4), (5, .int p5), (10, .int v10)]) hx hb dX9_isClear_123 hl (by decide) rfl (fun ls hl => ?_)
              obtain ⟨y_20, ey_20⟩ : ∃ y : Int32, y = v10 + 1 := ⟨_, rfl⟩
              have ty_20 : y_20.toInt = v10.toInt + 1 := by rw [ey_20]; have := fb_addI (x := v10) (y := 1) (by omega) (by omega); omega
              refine lv_iinc (v := y_20) (lv' := [(10, .int y_20), (9, .int v9), (8, .int v8), (7, .int r_6), (6, .int r_6), (12, .int r_7), (11, .int r_6), (0, .ref h0), (1, .int p1), (2, .int p2), (3, .int p3), (4, .int p4), (5, .int p5)]) hx hb dX9_isClear_125 hl (k := 12) rfl (by rw [ey_20]; rfl) (by decide) rfl (fun ls hl => ?_)
              refine lv_goto (tgt := 34) hx hb dX9_isClear_128 (by decide) ?_
              exact ih_34 r_6 r_6 v8 v9 y_20 (by omega) (by omega) (by intro s a9 b9; rcases (show s < v10.toInt ∨ s = v10.toInt by omega) with z | z <;> first | (have z9 := hlo s a9 z; omega) | (rw [z]; omega)) (by first | exact ⟨v10.toInt, by omega, by omega, by omega⟩ | (obtain ⟨s9, a9, b9, c9⟩ := he6; exact ⟨s9, a9, b9, by omega⟩)) (by first | exact ⟨v10.toInt, by omega, by omega, by omega⟩ | (obtain ⟨s9, a9, b9, c9⟩ := he7; exact ⟨s9, a9, b9, by omega⟩)) (by first | exact ⟨v10.toInt, by omega, by omega, by omega⟩ | (obtain ⟨s9, a9, b9, c9⟩ := he8; exact ⟨s9, a9, b9, by omega⟩)) (by first | exact ⟨v10.toInt, by omega, by omega, by omega⟩ | (obtain ⟨s9, a9, b9, c9⟩ := he9; exact ⟨s9, a9, b9, by omega⟩)) (by omega) ls (lv_sub hl [7, 8, 9, 10, 11, 12, 4, 3, 2, 1, 0] rfl)
            · have t_113 := mt (fa_le _ _).mpr c_113
              refine lv_iload hx hb dX9_isClear_116 (lv_at hl 3 rfl) ?_
              refine lv_goto (tgt := 123) hx hb dX9_isClear_118 (by decide) ?_
              refine lv_istore (lv' := [(9, .int r_7), (8, .int v8), (7, .int r_6), (6, .int r_6), (12, .int r_7), (11, .int r_6), (0, .ref h0), (1, .int p1), (2, .int p2), (3, .int p3), (4, .int p4), (5, .int p5), (10, .int v10)]) hx hb dX9_isClear_123 hl (by decide) rfl (fun ls hl => ?_)
              obtain ⟨y_21, ey_21⟩ : ∃ y : Int32, y = v10 + 1 := ⟨_, rfl⟩
              have ty_21 : y_21.toInt = v10.toInt + 1 := by rw [ey_21]; have := fb_addI (x := v10) (y := 1) (by omega) (by omega); omega
              refine lv_iinc (v := y_21) (lv' := [(10, .int y_21), (9, .int r_7), (8, .int v8), (7, .int r_6), (6, .int r_6), (12, .int r_7), (11, .int r_6), (0, .ref h0), (1, .int p1), (2, .int p2), (3, .int p3), (4, .int p4), (5, .int p5)]) hx hb dX9_isClear_125 hl (k := 12) rfl (by rw [ey_21]; rfl) (by decide) rfl (fun ls hl => ?_)
              refine lv_goto (tgt := 34) hx hb dX9_isClear_128 (by decide) ?_
              exact ih_34 r_6 r_6 v8 r_7 y_21 (by omega) (by omega) (by intro s a9 b9; rcases (show s < v10.toInt ∨ s = v10.toInt by omega) with z | z <;> first | (have z9 := hlo s a9 z; omega) | (rw [z]; omega)) (by first | exact ⟨v10.toInt, by omega, by omega, by omega⟩ | (obtain ⟨s9, a9, b9, c9⟩ := he6; exact ⟨s9, a9, b9, by omega⟩)) (by first | exact ⟨v10.toInt, by omega, by omega, by omega⟩ | (obtain ⟨s9, a9, b9, c9⟩ := he7; exact ⟨s9, a9, b9, by omega⟩)) (by first | exact ⟨v10.toInt, by omega, by omega, by omega⟩ | (obtain ⟨s9, a9, b9, c9⟩ := he8; exact ⟨s9, a9, b9, by omega⟩)) (by first | exact ⟨v10.toInt, by omega, by omega, by omega⟩ | (obtain ⟨s9, a9, b9, c9⟩ := he9; exact ⟨s9, a9, b9, by omega⟩)) (by omega) ls (lv_sub hl [7, 8, 9, 10, 11, 12, 4, 3, 2, 1, 0] rfl)
          · have t_97 := mt (fa_le _ _).mpr c_97
            refine lv_iload hx hb dX9_isClear_100 (lv_at hl 2 rfl) ?_
            refine lv_goto (tgt := 107) hx hb dX9_isClear_102 (by decide) ?_
            refine lv_istore (lv' := [(8, .int r_7), (7, .int r_6), (6, .int r_6), (12, .int r_7), (11, .int r_6), (0, .ref h0), (1, .int p1), (2, .int p2), (3, .int p3), (4, .int p4), (5, .int p5), (9, .int v9), (10, .int v10)]) hx hb dX9_isClear_107 hl (by decide) rfl (fun ls hl => ?_)
            refine lv_iload hx hb dX9_isClear_109 (lv_at hl 3 rfl) ?_
            refine lv_iload hx hb dX9_isClear_111 (lv_at hl 11 rfl) ?_
            refine lv_icmp_le (tgt := 121) hx hb dX9_isClear_113 (by decide) (fun c_113 => ?_) (fun c_113 => ?_)
            · have t_113 := (fa_le _ _).mp c_113
              refine lv_iload hx hb dX9_isClear_121 (lv_at hl 11 rfl) ?_
              refine lv_istore (lv' := [(9, .int v9), (8, .int r_7), (7, .int r_6), (6, .int r_6), (12, .int r_7), (11, .int r_6), (0, .ref h0), (1, .int p1), (2, .int p2), (3, .int p3), (4, .int p4), (5, .int p5), (10, .int v10)]) hx hb dX9_isClear_123 hl (by decide) rfl (fun ls hl => ?_)
              obtain ⟨y_22, ey_22⟩ : ∃ y : Int32, y = v10 + 1 := ⟨_, rfl⟩
              have ty_22 : y_22.toInt = v10.toInt + 1 := by rw [ey_22]; have := fb_addI (x := v10) (y := 1) (by omega) (by omega); omega
              refine lv_iinc (v := y_22) (lv' := [(10, .int y_22), (9, .int v9), (8, .int r_7), (7, .int r_6), (6, .int r_6), (12, .int r_7), (11, .int r_6), (0, .ref h0), (1, .int p1), (2, .int p2), (3, .int p3), (4, .int p4), (5, .int p5)]) hx hb dX9_isClear_125 hl (k := 12) rfl (by rw [ey_22]; rfl) (by decide) rfl (fun ls hl => ?_)
              refine lv_goto (tgt := 34) hx hb dX9_isClear_128 (by decide) ?_
              exact ih_34 r_6 r_6 r_7 v9 y_22 (by omega) (by omega) (by intro s a9 b9; rcases (show s < v10.toInt ∨ s = v10.toInt by omega) with z | z <;> first | (have z9 := hlo s a9 z; omega) | (rw [z]; omega)) (by first | exact ⟨v10.toInt, by omega, by omega, by omega⟩ | (obtain ⟨s9, a9, b9, c9⟩ := he6; exact ⟨s9, a9, b9, by omega⟩)) (by first | exact ⟨v10.toInt, by omega, by omega, by omega⟩ | (obtain ⟨s9, a9, b9, c9⟩ := he7; exact ⟨s9, a9, b9, by omega⟩)) (by first | exact ⟨v10.toInt, by omega, by omega, by omega⟩ | (obtain ⟨s9, a9, b9, c9⟩ := he8; exact ⟨s9, a9, b9, by omega⟩)) (by first | exact ⟨v10.toInt, by omega, by omega, by omega⟩ | (obtain ⟨s9, a9, b9, c9⟩ := he9; exact ⟨s9, a9, b9, by omega⟩)) (by omega) ls (lv_sub hl [7, 8, 9, 10, 11, 12, 4, 3, 2, 1, 0] rfl)
            · have t_113 := mt (fa_le _ _).mpr c_113
              refine lv_iload hx hb dX9_isClear_116 (lv_at hl 3 rfl) ?_
              refine lv_goto (tgt := 123) hx hb dX9_isClear_118 (by decide) ?_
              refine lv_istore (lv' := [(9, .int r_7), (8, .int r_7), (7, .int r_6), (6, .int r_6), (12, .int r_7), (11, .int r_6), (0, .ref h0), (1, .int p1), (2, .int p2), (3, .int p3), (4, .int p4), (5, .int p5), (10, .int v10)]) hx hb dX9_isClear_123 hl (by decide) rfl (fun ls hl => ?_)
              obtain ⟨y_23, ey_23⟩ : ∃ y : Int32, y = v10 + 1 := ⟨_, rfl⟩
              have ty_23 : y_23.toInt = v10.toInt + 1 := by rw [ey_23]; have := fb_addI (x := v10) (y := 1) (by omega) (by omega); omega
              refine lv_iinc (v := y_23) (lv' := [(10, .int y_23), (9, .int r_7), (8, .int r_7), (7, .int r_6), (6, .int r_6), (12, .int r_7), (11, .int r_6), (0, .ref h0), (1, .int p1), (2, .int p2), (3, .int p3), (4, .int p4), (5, .int p5)]) hx hb dX9_isClear_125 hl (k := 12) rfl (by rw [ey_23]; rfl) (by decide) rfl (fun ls hl => ?_)
              refine lv_goto (tgt := 34) hx hb dX9_isClear_128 (by decide) ?_
              exact ih_34 r_6 r_6 r_7 r_7 y_23 (by omega) (by omega) (by intro s a9 b9; rcases (show s < v10.toInt ∨ s = v10.toInt by omega) with z | z <;> first | (have z9 := hlo s a9 z; omega) | (rw [z]; omega)) (by first | exact ⟨v10.toInt, by omega, by omega, by omega⟩ | (obtain ⟨s9, a9, b9, c9⟩ := he6; exact ⟨s9, a9, b9, by omega⟩)) (by first | exact ⟨v10.toInt, by omega, by omega, by omega⟩ | (obtain ⟨s9, a9, b9, c9⟩ := he7; exact ⟨s9, a9, b9, by omega⟩)) (by first | exact ⟨v10.toInt, by omega, by omega, by omega⟩ | (obtain ⟨s9, a9, b9, c9⟩ := he8; exact ⟨s9, a9, b9, by omega⟩)) (by first | exact ⟨v10.toInt, by omega, by omega, by omega⟩ | (obtain ⟨s9, a9, b9, c9⟩ := he9; exact ⟨s9, a9, b9, by omega⟩)) (by omega) ls (lv_sub hl [7, 8, 9, 10, 11, 12, 4, 3, 2, 1, 0] rfl)
def wk_X9_isClearSomeE : List Cond := .code yX9_isClearSome cX9_isClearSome 5 (some .boolean) :: (([] : List Cond) ++ ((wsV RX9 170 RX9 yX9_isClear wk_X9_isClearE) ++ ([])))
theorem gw_X9_isClearSomeE : AG wk_X9_isClearSomeE := AG_ca (AG_l (by decide +kernel)) (AG_app (AG_V gw_X9_isClearE) (AG_nil))
theorem g_X9_isClearSomeE__X9_isClearE_170 : GoodIn wk_X9_isClearSomeE (wsV RX9 170 RX9 yX9_isClear wk_X9_isClearE) := goodIn_m (fun _ h => List.mem_cons_of_mem _ (List.mem_append_right _ (List.mem_append_left _ h))) (AG_V gw_X9_isClearE)
set_option maxHeartbeats 4000000 in
set_option maxRecDepth 100000 in
theorem c_X9_isClearSomeE (l : Launch) (dC : Nat → ClassId) (dI : Nat → Nat → Nat) (h0 : Nat) (a1 : Nat) (a2 : Nat) (a3 : Nat) (a4 : Nat) (a5 : Nat) (a6 : Nat) (a7 : Nat) (a8 : Nat) (a9 : Nat) (a10 : Nat) (a11 : Nat) (th : Int32) (ne : Int32) (wi : Int32) (dn : Int32) (nn : Int32) (la : Int32) (wh : Int32) (up : Int64) (lw : Int64) (pu : Int64) (pw : Int64) (cI : ClassId) (Fi : Nat → Int32) (Ma : Nat → Int32) (Sp : Nat → Int32) (p1 : Int32) (p2 : Int32) (p3 : Int32) (p4 : Int32) (hM : mOK th Fi Ma) (hp10 : 0 ≤ p1.toInt) (hp11 : p1.toInt < th.toInt) (hp20 : 0 ≤ p2.toInt) (hp21 : p2.toInt < th.toInt) (hf1 : (Fi p1.toNatClampNeg).toInt ≤ p3.toInt) (hf2 : (Fi p2.toNatClampNeg).toInt ≤ p3.toInt) (hl1 : p4.toInt < (Fi p1.toNatClampNeg).toInt + (Ma p1.toNatClampNeg).toInt) (hl2 : p4.toInt < (Fi p2.toNatClampNeg).toInt + (Ma p2.toNatClampNeg).toInt) (hft : p3.toInt ≤ p4.toInt) (hct : cOK (Ma p1.toNatClampNeg) (fun k => Sp (36 * p1.toNatClampNeg + k))) (hcu : cOK (Ma p2.toNatClampNeg) (fun k => Sp (36 * p2.toNatClampNeg + k))) (hne0 : 0 ≤ ne.toInt) (hne1 : ne.toInt ≤ 3000) : Met l yX9_isClearSome wk_X9_isClearSomeE ({ frames := 2, cells := 0, slots := 0, locals := 55 }) (va_Pc [.ref h0, .int p1, .int p2, .int p3, .int p4] (fun U => va_P (dC, dI) vwCl [(h0, .inr (9, [.int th, .ref a1, .ref a2, .ref a3, .ref a4, .ref a5, .int ne, .int wi, .int dn, .ref a6, .ref a7, .int nn, .ref a8, .int la, .ref a9, .ref a10, .long up, .long lw, .int wh, .long pu, .long pw, .ref a11])), (a1, .inl (cI, 16, .inl Fi)), (a2, .inl (cI, 16, .inl Ma)), (a5, .inl (cI, 576, .inl Sp))] U.heap ∧ va_K (dC, dI) vwCl [(cI, .int)] U)) (vp_Si (fun r => (r = 1 ∧ farS (Fi p1.toNatClampNeg) (fun k => Sp (36 * p1.toNatClampNeg + k)) (Fi p2.toNatClampNeg) (fun k => Sp (36 * p2.toNatClampNeg + k)) p3.toInt p4.toInt ne.toInt) ∨ (r = 0 ∧ ¬ farS (Fi p1.toNatClampNeg) (fun k => Sp (36 * p1.toNatClampNeg + k)) (Fi p2.toNatClampNeg) (fun k => Sp (36 * p2.toNatClampNeg + k)) p3.toInt p4.toInt ne.toInt))) 0 0 (fun _ => False) := by
  refine Met.ofW (cc := cX9_isClearSome) (maxL := 5) (ret := (some .boolean)) (by decide) rfl ?_
  intro p e s m args below meth c s₁ B hml hv
  obtain ⟨rfl, hP, hK⟩ := hv
  have hx := B.exec
  have hb := B.bytes
  have hr := B.returns
  have hts := atoms_spec (ws := wk_X9_isClearSomeE) B.pre
  have hown : s.vm.findClass RX9 = some m.cls := findClass_of_methodNamed B.named
  have hlocks := B.notSynchronized
  have hP : va_P (dC, dI) vwCl [(h0, .inr (9, [.int th, .ref a1, .ref a2, .ref a3, .ref a4, .ref a5, .int ne, .int wi, .int dn, .ref a6, .ref a7, .int nn, .ref a8, .int la, .ref a9, .ref a10, .long up, .long lw, .int wh, .long pu, .long pw, .ref a11])), (a1, .inl (cI, 16, .inl Fi)), (a2, .inl (cI, 16, .inl Ma)), (a5, .inl (cI, 576, .inl Sp))] s.heap := hP
  have hl := lv_entry ([.ref h0, .int p1, .int p2, .int p3, .int p4]) (n := 5) (Nat.le_of_ble_eq_true rfl)
  rw [lg_entry_eq]
  generalize (lg_sl ([.ref h0, .int p1, .int p2, .int p3, .int p4]) ++ List.replicate (5 - (lg_sl ([.ref h0, .int p1, .int p2, .int p3, .int p4])).length) Slot.unset).toArray = ls at hl ⊢
  have hl : lv_has ls 5 [(0, .ref h0), (1, .int p1), (2, .int p2), (3, .int p3), (4, .int p4)] := hl
  have kl_0 : (0 : Int32).toInt = 0 := by decide
  have kl_1 : (1 : Int32).toInt = 1 := by decide
  have kl_2 : (2 : Int32).toInt = 2 := by decide
  obtain ⟨hM0, hM1, hM2⟩ := id hM
  have np1 : ((p1.toNatClampNeg : Nat) : Int) = p1.toInt := tc_I (by omega)
  have bp1 := hM2 p1.toNatClampNeg (by omega)
  have np2 : ((p2.toNatClampNeg : Nat) : Int) = p2.toInt := tc_I (by omega)
  have bp2 := hM2 p2.toNatClampNeg (by omega)
  refine lv_aload_n hx hb dX9_isClearSome_0 rfl (lv_at hl 0 rfl) ?_
  refine lv_iload_n hx hb dX9_isClearSome_1 rfl (lv_at hl 1 rfl) ?_
  refine lv_iload_n hx hb dX9_isClearSome_2 rfl (lv_at hl 2 rfl) ?_
  refine lv_iconst (v := 0) hx hb dX9_isClearSome_3 (by decide) ?_
  refine lv_iload_n hx hb dX9_isClearSome_4 rfl (lv_at hl 3 rfl) ?_
  refine lv_iload hx hb dX9_isClearSome_5 (lv_at hl 4 rfl) ?_
  have hPc := hP.sub (ws' := [(h0, .inr (9, [.int th, .ref a1, .ref a2, .ref a3, .ref a4, .ref a5, .int ne, .int wi, .int dn, .ref a6, .ref a7, .int nn, .ref a8, .int la, .ref a9, .ref a10, .long up, .long lw, .int wh, .long pu, .long pw, .ref a11])), (a1, .inl (cI, 16, .inl Fi)), (a2, .inl (cI, 16, .inl Ma)), (a5, .inl (cI, 576, .inl Sp))]) [0, 1, 2, 3] rfl
  have hKc := hK.sub (tys' := [(cI, .int)]) [0] rfl
  refine vp_callSi (W.runV (As := [.int p1, .int p2, .int 0, .int p3, .int p4]) (rest := []) ⟨hx, hb, hml, hown, hts⟩ (c_X9_isClearE l dC dI h0 a1 a2 a3 a4 a5 a6 a7 a8 a9 a10 a11 th ne wi dn nn la wh up lw pu pw cI Fi Ma Sp p1 p2 0 p3 p4 (by first | assumption | omega) (by first | assumption | omega) (by first | assumption | omega) (by first | assumption | omega) (by first | assumption | omega) (by first | assumption | omega) (by first | assumption | omega) (by first | assumption | omega) (by first | assumption | omega) (by first | assumption | omega) (by first | assumption | omega) (by first | assumption | omega) (by first | assumption | omega) (by first | assumption | omega) (by first | assumption | omega) (by first | assumption | omega)) (cwV 5 hts g_X9_isClearSomeE__X9_isClearE_170 rfl rfl rfl (by decide +kernel) ⟨Nat.le_of_ble_eq_true rfl, Nat.le_of_ble_eq_true rfl⟩) ⟨fun a U g mk q => by obtain ⟨q0, qP, qK⟩ := q; exact ⟨q0, qP, va_K.moved (u := U) (U := U.calling g mk a) (Vm.Alike.refl U.vm) qK⟩, va_recv hKc hPc (ci := 9) (q0 := 0) rfl rfl, fun U hU hW => ⟨rfl, by rw [hU]; exact hPc, va_K.moved hW.alike hKc⟩⟩ rfl rfl hl.1 rfl (lv_room (Nat.le_of_ble_eq_true rfl)) dX9_isClearSome_7 ⟨Nat.le_of_ble_eq_true rfl, Nat.le_of_ble_eq_true rfl⟩) (fun r_1 hr_1 => ?_)
  try dsimp only at hr_1
  refine lv_if_ne (tgt := 39) hx hb dX9_isClearSome_10 (by decide) (fun c_10 => ?_) (fun c_10 => ?_)
  · have t_10 := mt (fa_eq _ _).mpr c_10
    refine lv_iconst (v := 1) hx hb dX9_isClearSome_39 (by decide) ?_
    refine lv_goto (tgt := 44) hx hb dX9_isClearSome_40 (by decide) ?_
    exact W.zret (v := 1) hx hb hr rfl (fun t ht _ => ⟨_, rfl, (Or.inl ⟨rfl, by first | exact ⟨(0 : Int32).toInt, by omega, by omega, tv_1 hr_1 c_10⟩ | exact ⟨(1 : Int32).toInt, by omega, by omega, tv_1 hzz_none c_23⟩ | exact ⟨(2 : Int32).toInt, by omega, by omega, tv_1 hzz_none c_36⟩⟩), ht⟩) (fun _ h => absurd h List.not_mem_nil) dX9_isClearSome_44
  · have t_10 := (fa_eq _ _).mp c_10
    refine lv_aload_n hx hb dX9_isClearSome_13 rfl (lv_at hl 0 rfl) ?_
    refine lv_iload_n hx hb dX9_isClearSome_14 rfl (lv_at hl 1 rfl) ?_
    refine lv_iload_n hx hb dX9_isClearSome_15 rfl (lv_at hl 2 rfl) ?_
    refine lv_iconst (v := 1) hx hb dX9_isClearSome_16 (by decide) ?_
    refine lv_iload_n hx hb dX9_isClearSome_17 rfl (lv_at hl 3 rfl) ?_
    refine lv_iload hx hb dX9_isClearSome_18 (lv_at hl 4 rfl) ?_
    have hPc := hP.sub (ws' := [(h0, .inr (9, [.int th, .ref a1, .ref a2, .ref a3, .ref a4, .ref a5, .int ne, .int wi, .int dn, .ref a6, .ref a7, .int nn, .ref a8, .int la, .ref a9, .ref a10, .long up, .long lw, .int wh, .long pu, .long pw, .ref a11])), (a1, .inl (cI, 16, .inl Fi)), (a2, .inl (cI, 16, .inl Ma)), (a5, .inl (cI, 576, .inl Sp))]) [0, 1, 2, 3] rfl
    have hKc := hK.sub (tys' := [(cI, .int)]) [0] rfl
    refine vp_callSi (W.runV (As := [.int p1, .int p2, .int 1, .int p3, .int p4]) (rest := []) ⟨hx, hb, hml, hown, hts⟩ (c_X9_isClearE l dC dI h0 a1 a2 a3 a4 a5 a6 a7 a8 a9 a10 a11 th ne wi dn nn la wh up lw pu pw cI Fi Ma Sp p1 p2 1 p3 p4 (by first | assumption | omega) (by first | assumption | omega) (by first | assumption | omega) (by first | assumption | omega) (by first | assumption | omega) (by first | assumption | omega) (by first | assumption | omega) (by first | assumption | omega) (by first | assumption | omega) (by first | assumption | omega) (by first | assumption | omega) (by first | assumption | omega) (by first | assumption | omega) (by first | assumption | omega) (by first | assumption | omega) (by first | assumption | omega)) (cwV 5 hts g_X9_isClearSomeE__X9_isClearE_170 rfl rfl rfl (by decide +kernel) ⟨Nat.le_of_ble_eq_true rfl, Nat.le_of_ble_eq_true rfl⟩) ⟨fun a U g mk q => by obtain ⟨q0, qP, qK⟩ := q; exact ⟨q0, qP, va_K.moved (u := U) (U := U.calling g mk a) (Vm.Alike.refl U.vm) qK⟩, va_recv hKc hPc (ci := 9) (q0 := 0) rfl rfl, fun U hU hW => ⟨rfl, by rw [hU]; exact hPc, va_K.moved hW.alike hKc⟩⟩ rfl rfl hl.1 rfl (lv_room (Nat.le_of_ble_eq_true rfl)) dX9_isClearSome_20 ⟨Nat.le_of_ble_eq_true rfl, Nat.le_of_ble_eq_true rfl⟩) (fun r_2 hr_2 => ?_)
    try dsimp only at hr_2
    refine lv_if_ne (tgt := 39) hx hb dX9_isClearSome_23 (by decide) (fun c_23 => ?_) (fun c_23 => ?_)
    · have t_23 := mt (fa_eq _ _).mpr c_23
      refine lv_iconst (v := 1) hx hb dX9_isClearSome_39 (by decide) ?_
      refine lv_goto (tgt := 44) hx hb dX9_isClearSome_40 (by decide) ?_
      exact W.zret (v := 1) hx hb hr rfl (fun t ht _ => ⟨_, rfl, (Or.inl ⟨rfl, by first | exact ⟨(0 : Int32).toInt, by omega, by omega, tv_1 hr_1 c_10⟩ | exact ⟨(1 : Int32).toInt, by omega, by omega, tv_1 hr_2 c_23⟩ | exact ⟨(2 : Int32).toInt, by omega, by omega, tv_1 hzz_none c_36⟩⟩), ht⟩) (fun _ h => absurd h List.not_mem_nil) dX9_isClearSome_44
    · have t_23 := (fa_eq _ _).mp c_23
      refine lv_aload_n hx hb dX9_isClearSome_26 rfl (lv_at hl 0 rfl) ?_
      refine lv_iload_n hx hb dX9_isClearSome_27 rfl (lv_at hl 1 rfl) ?_
      refine lv_iload_n hx hb dX9_isClearSome_28 rfl (lv_at hl 2 rfl) ?_
      refine lv_iconst (v := 2) hx hb dX9_isClearSome_29 (by decide) ?_
      refine lv_iload_n hx hb dX9_isClearSome_30 rfl (lv_at hl 3 rfl) ?_
      refine lv_iload hx hb dX9_isClearSome_31 (lv_at hl 4 rfl) ?_
      have hPc := hP.sub (ws' := [(h0, .inr (9, [.int th, .ref a1, .ref a2, .ref a3, .ref a4, .ref a5, .int ne, .int wi, .int dn, .ref a6, .ref a7, .int nn, .ref a8, .int la, .ref a9, .ref a10, .long up, .long lw, .int wh, .long pu, .long pw, .ref a11])), (a1, .inl (cI, 16, .inl Fi)), (a2, .inl (cI, 16, .inl Ma)), (a5, .inl (cI, 576, .inl Sp))]) [0, 1, 2, 3] rfl
      have hKc := hK.sub (tys' := [(cI, .int)]) [0] rfl
      refine vp_callSi (W.runV (As := [.int p1, .int p2, .int 2, .int p3, .int p4]) (rest := []) ⟨hx, hb, hml, hown, hts⟩ (c_X9_isClearE l dC dI h0 a1 a2 a3 a4 a5 a6 a7 a8 a9 a10 a11 th ne wi dn nn la wh up lw pu pw cI Fi Ma Sp p1 p2 2 p3 p4 (by first | assumption | omega) (by first | assumption | omega) (by first | assumption | omega) (by first | assumption | omega) (by first | assumption | omega) (by first | assumption | omega) (by first | assumption | omega) (by first | assumption | omega) (by first | assumption | omega) (by first | assumption | omega) (by first | assumption | omega) (by first | assumption | omega) (by first | assumption | omega) (by first | assumption | omega) (by first | assumption | omega) (by first | assumption | omega)) (cwV 5 hts g_X9_isClearSomeE__X9_isClearE_170 rfl rfl rfl (by decide +kernel) ⟨Nat.le_of_ble_eq_true rfl, Nat.le_of_ble_eq_true rfl⟩) ⟨fun a U g mk q => by obtain ⟨q0, qP, qK⟩ := q; exact ⟨q0, qP, va_K.moved (u := U) (U := U.calling g mk a) (Vm.Alike.refl U.vm) qK⟩, va_recv hKc hPc (ci := 9) (q0 := 0) rfl rfl, fun U hU hW => ⟨rfl, by rw [hU]; exact hPc, va_K.moved hW.alike hKc⟩⟩ rfl rfl hl.1 rfl (lv_room (Nat.le_of_ble_eq_true rfl)) dX9_isClearSome_33 ⟨Nat.le_of_ble_eq_true rfl, Nat.le_of_ble_eq_true rfl⟩) (fun r_3 hr_3 => ?_)
      try dsimp only at hr_3
      refine lv_if_eq (tgt := 43) hx hb dX9_isClearSome_36 (by decide) (fun c_36 => ?_) (fun c_36 => ?_)
      · have t_36 := (fa_eq _ _).mp c_36
        refine lv_iconst (v := 0) hx hb dX9_isClearSome_43 (by decide) ?_
        exact W.zret (v := 0) hx hb hr rfl (fun t ht _ => ⟨_, rfl, (Or.inr ⟨rfl, fun y9 => by obtain ⟨j9, j0, j3, hj⟩ := y9; rcases (show j9 = (0 : Int32).toInt ∨ j9 = (1 : Int32).toInt ∨ j9 = (2 : Int32).toInt by omega) with e9 | e9 | e9 <;> rw [e9] at hj <;> first | exact tv_0 hr_1 c_10 hj | exact tv_0 hr_2 c_23 hj | exact tv_0 hr_3 c_36 hj⟩), ht⟩) (fun _ h => absurd h List.not_mem_nil) dX9_isClearSome_44
      · have t_36 := mt (fa_eq _ _).mpr c_36
        refine lv_iconst (v := 1) hx hb dX9_isClearSome_39 (by decide) ?_
        refine lv_goto (tgt := 44) hx hb dX9_isClearSome_40 (by decide) ?_
        exact W.zret (v := 1) hx hb hr rfl (fun t ht _ => ⟨_, rfl, (Or.inl ⟨rfl, by first | exact ⟨(0 : Int32).toInt, by omega, by omega, tv_1 hr_1 c_10⟩ | exact ⟨(1 : Int32).toInt, by omega, by omega, tv_1 hr_2 c_23⟩ | exact ⟨(2 : Int32).toInt, by omega, by omega, tv_1 hr_3 c_36⟩⟩), ht⟩) (fun _ h => absurd h List.not_mem_nil) dX9_isClearSome_44
def wk_X9_sieveE : List Cond := .code yX9_sieve cX9_sieve 7 (some .int) :: (([.fieldLink RX9 19 "MeetingsAboveModel" "isGone" "[Z", .constant RX9 85 (-100003), .constant RX9 84 (-100001)] : List Cond) ++ (wsX90 ++ ((wsV RX9 80 RX9 yX9_isThing wk_X9_isThing) ++ ((wsV RX9 151 RX9 yX9_areTogether wk_X9_areTogether) ++ ((wsV RX9 140 RX9 yX9_firstOf wk_X9_firstOf) ++ ((wsV RX9 137 RX9 yX9_lastOf wk_X9_lastOf) ++ ((wsV RX9 174 RX9 yX9_isClearSome wk_X9_isClearSomeE) ++ ([]))))))))
theorem in_X9_sieveE_X9 : ∀ w ∈ wsX90, w ∈ wk_X9_sieveE := fun _ h => List.mem_cons_of_mem _ (List.mem_append_right _ (List.mem_append_left _ h))
theorem gw_X9_sieveE : AG wk_X9_sieveE := AG_ca (AG_l (by decide +kernel)) (AG_app ag_X9 (AG_app (AG_V gw_X9_isThing) (AG_app (AG_V gw_X9_areTogether) (AG_app (AG_V gw_X9_firstOf) (AG_app (AG_V gw_X9_lastOf) (AG_app (AG_V gw_X9_isClearSomeE) (AG_nil)))))))
theorem g_X9_sieveE__X9_isThing_80 : GoodIn wk_X9_sieveE (wsV RX9 80 RX9 yX9_isThing wk_X9_isThing) := goodIn_m (fun _ h => List.mem_cons_of_mem _ (List.mem_append_right _ (List.mem_append_right _ (List.mem_append_left _ h)))) (AG_V gw_X9_isThing)
theorem g_X9_sieveE__X9_areTogether_151 : GoodIn wk_X9_sieveE (wsV RX9 151 RX9 yX9_areTogether wk_X9_areTogether) := goodIn_m (fun _ h => List.mem_cons_of_mem _ (List.mem_append_right _ (List.mem_append_right _ (List.mem_append_right _ (List.mem_append_left _ h))))) (AG_V gw_X9_areTogether)
theorem g_X9_sieveE__X9_firstOf_140 : GoodIn wk_X9_sieveE (wsV RX9 140 RX9 yX9_firstOf wk_X9_firstOf) := goodIn_m (fun _ h => List.mem_cons_of_mem _ (List.mem_append_right _ (List.mem_append_right _ (List.mem_append_right _ (List.mem_append_right _ (List.mem_append_left _ h)))))) (AG_V gw_X9_firstOf)
theorem g_X9_sieveE__X9_lastOf_137 : GoodIn wk_X9_sieveE (wsV RX9 137 RX9 yX9_lastOf wk_X9_lastOf) := goodIn_m (fun _ h => List.mem_cons_of_mem _ (List.mem_append_right _ (List.mem_append_right _ (List.mem_append_right _ (List.mem_append_right _ (List.mem_append_right _ (List.mem_append_left _ h))))))) (AG_V gw_X9_lastOf)
theorem g_X9_sieveE__X9_isClearSomeE_174 : GoodIn wk_X9_sieveE (wsV RX9 174 RX9 yX9_isClearSome wk_X9_isClearSomeE) := goodIn_m (fun _ h => List.mem_cons_of_mem _ (List.mem_append_right _ (List.mem_append_right _ (List.mem_append_right _ (List.mem_append_right _ (List.mem_append_right _ (List.mem_append_right _ (List.mem_append_left _ h)))))))) (AG_V gw_X9_isClearSomeE)
set_option maxHeartbeats 4000000 in
set_option maxRecDepth 100000 in
theorem c_X9_sieveE (l : Launch) (dC : Nat → ClassId) (dI : Nat → Nat → Nat) (Db : Nat → Int32) (h0 : Nat) (a1 : Nat) (a2 : Nat) (a3 : Nat) (a4 : Nat) (a5 : Nat) (a6 : Nat) (a7 : Nat) (a8 : Nat) (a9 : Nat) (a10 : Nat) (a11 : Nat) (th : Int32) (ne : Int32) (wi : Int32) (dn : Int32) (nn : Int32) (la : Int32) (wh : Int32) (up : Int64) (lw : Int64) (pu : Int64) (pw : Int64) (cI : ClassId) (cZ : ClassId) (Fi : Nat → Int32) (Ma : Nat → Int32) (Go : Nat → Int32) (Sp : Nat → Int32) (p1 : Int32) (p2 : Int32) (hM : mOK th Fi Ma) (hTk : ∀ k : Nat, (k : Int) < th.toInt → tvOK (mTV Fi Ma Db Go Sp k)) (hne0 : 0 ≤ ne.toInt) (hne1 : ne.toInt ≤ 3000) : Met l yX9_sieve wk_X9_sieveE ({ frames := 3, cells := 0, slots := 0, locals := 79 }) (va_Pc [.ref h0, .int p1, .int p2] (fun U => va_P (dC, dI) vwCl [(h0, .inr (9, [.int th, .ref a1, .ref a2, .ref a3, .ref a4, .ref a5, .int ne, .int wi, .int dn, .ref a6, .ref a7, .int nn, .ref a8, .int la, .ref a9, .ref a10, .long up, .long lw, .int wh, .long pu, .long pw, .ref a11])), (a1, .inl (cI, 16, .inl Fi)), (a2, .inl (cI, 16, .inl Ma)), (a4, .inl (cZ, 16, .inl Go)), (a5, .inl (cI, 576, .inl Sp))] U.heap ∧ va_K (dC, dI) vwCl [(cI, .int), (cZ, .boolean)] U)) (vp_Si (fun r => (¬ ((0 ≤ p1.toInt ∧ p1.toInt < th.toInt) ∧ (0 ≤ p2.toInt ∧ p2.toInt < th.toInt)) ∧ r = -100001) ∨ (((0 ≤ p1.toInt ∧ p1.toInt < th.toInt) ∧ (0 ≤ p2.toInt ∧ p2.toInt < th.toInt)) ∧ p1.toInt = p2.toInt ∧ r = -100003) ∨ (((0 ≤ p1.toInt ∧ p1.toInt < th.toInt) ∧ (0 ≤ p2.toInt ∧ p2.toInt < th.toInt)) ∧ p1.toInt ≠ p2.toInt ∧ svP (mTV Fi Ma Db Go Sp p1.toNatClampNeg) (mTV Fi Ma Db Go Sp p2.toNatClampNeg) ne.toInt r.toInt))) 0 0 (fun _ => False) := by
  refine Met.ofW (cc := cX9_sieve) (maxL := 7) (ret := (some .int)) (by decide) rfl ?_
  intro p e s m args below meth c s₁ B hml hv
  obtain ⟨rfl, hP, hK⟩ := hv
  have hx := B.exec
  have hb := B.bytes
  have hr := B.returns
  have hts := atoms_spec (ws := wk_X9_sieveE) B.pre
  have hown : s.vm.findClass RX9 = some m.cls := findClass_of_methodNamed B.named
  have hlocks := B.notSynchronized
  have hP : va_P (dC, dI) vwCl [(h0, .inr (9, [.int th, .ref a1, .ref a2, .ref a3, .ref a4, .ref a5, .int ne, .int wi, .int dn, .ref a6, .ref a7, .int nn, .ref a8, .int la, .ref a9, .ref a10, .long up, .long lw, .int wh, .long pu, .long pw, .ref a11])), (a1, .inl (cI, 16, .inl Fi)), (a2, .inl (cI, 16, .inl Ma)), (a4, .inl (cZ, 16, .inl Go)), (a5, .inl (cI, 576, .inl Sp))] s.heap := hP
  have hl := lv_entry ([.ref h0, .int p1, .int p2]) (n := 7) (Nat.le_of_ble_eq_true rfl)
  rw [lg_entry_eq]
  generalize (lg_sl ([.ref h0, .int p1, .int p2]) ++ List.replicate (7 - (lg_sl ([.ref h0, .int p1, .int p2])).length) Slot.unset).toArray = ls at hl ⊢
  have hl : lv_has ls 7 [(0, .ref h0), (1, .int p1), (2, .int p2)] := hl
  have kl_m100003 : (-100003 : Int32).toInt = -100003 := by decide
  have kl_m100001 : (-100001 : Int32).toInt = -100001 := by decide
  have kl_0 : (0 : Int32).toInt = 0 := by decide
  have kl_1 : (1 : Int32).toInt = 1 := by decide
  have kl_2 : (2 : Int32).toInt = 2 := by decide
  have kl_3 : (3 : Int32).toInt = 3 := by decide
  obtain ⟨hM0, hM1, hM2⟩ := id hM
  refine lv_aload_n hx hb dX9_sieve_0 rfl (lv_at hl 0 rfl) ?_
  refine lv_iload_n hx hb dX9_sieve_1 rfl (lv_at hl 1 rfl) ?_
  have hPc := hP.sub (ws' := [(h0, .inr (9, [.int th, .ref a1, .ref a2, .ref a3, .ref a4, .ref a5, .int ne, .int wi, .int dn, .ref a6, .ref a7, .int nn, .ref a8, .int la, .ref a9, .ref a10, .long up, .long lw, .int wh, .long pu, .long pw, .ref a11]))]) [0] rfl
  have hKc := hK.sub (tys' := []) [] rfl
  refine vp_callSi (W.runV (As := [.int p1]) (rest := []) ⟨hx, hb, hml, hown, hts⟩ (c_X9_isThing l dC dI h0 a1 a2 a3 a4 a5 a6 a7 a8 a9 a10 a11 th ne wi dn nn la wh up lw pu pw p1 (by first | assumption | omega) (by first | assumption | omega)) (cwV 1 hts g_X9_sieveE__X9_isThing_80 rfl rfl rfl (by decide +kernel) ⟨Nat.le_of_ble_eq_true rfl, Nat.le_of_ble_eq_true rfl⟩) ⟨fun a U g mk q => by obtain ⟨q0, qP, qK⟩ := q; exact ⟨q0, qP, va_K.moved (u := U) (U := U.calling g mk a) (Vm.Alike.refl U.vm) qK⟩, va_recv hKc hPc (ci := 9) (q0 := 0) rfl rfl, fun U hU hW => ⟨rfl, by rw [hU]; exact hPc, va_K.moved hW.alike hKc⟩⟩ rfl rfl hl.1 rfl (lv_room (Nat.le_of_ble_eq_true rfl)) dX9_sieve_2 ⟨Nat.le_of_ble_eq_true rfl, Nat.le_of_ble_eq_true rfl⟩) (fun r_1 hr_1 => ?_)
  try dsimp only at hr_1
  rcases bo_split hr_1 with ⟨rfl, q_2⟩ | ⟨rfl, q_2⟩
  · refine lv_if_eq (tgt := 16) hx hb dX9_sieve_5 (by decide) (fun h9 => absurd h9 (by decide)) (fun _ => ?_)
    refine lv_aload_n hx hb dX9_sieve_8 rfl (lv_at hl 0 rfl) ?_
    refine lv_iload_n hx hb dX9_sieve_9 rfl (lv_at hl 2 rfl) ?_
    have hPc := hP.sub (ws' := [(h0, .inr (9, [.int th, .ref a1, .ref a2, .ref a3, .ref a4, .ref a5, .int ne, .int wi, .int dn, .ref a6, .ref a7, .int nn, .ref a8, .int la, .ref a9, .ref a10, .long up, .long lw, .int wh, .long pu, .long pw, .ref a11]))]) [0] rfl
    have hKc := hK.sub (tys' := []) [] rfl
    refine vp_callSi (W.runV (As := [.int p2]) (rest := []) ⟨hx, hb, hml, hown, hts⟩ (c_X9_isThing l dC dI h0 a1 a2 a3 a4 a5 a6 a7 a8 a9 a10 a11 th ne wi dn nn la wh up lw pu pw p2 (by first | assumption | omega) (by first | assumption | omega)) (cwV 1 hts g_X9_sieveE__X9_isThing_80 rfl rfl rfl (by decide +kernel) ⟨Nat.le_of_ble_eq_true rfl, Nat.le_of_ble_eq_true rfl⟩) ⟨fun a U g mk q => by obtain ⟨q0, qP, qK⟩ := q; exact ⟨q0, qP, va_K.moved (u := U) (U := U.calling g mk a) (Vm.Alike.refl U.vm) qK⟩, va_recv hKc hPc (ci := 9) (q0 := 0) rfl rfl, fun U hU hW => ⟨rfl, by rw [hU]; exact hPc, va_K.moved hW.alike hKc⟩⟩ rfl rfl hl.1 rfl (lv_room (Nat.le_of_ble_eq_true rfl)) dX9_sieve_10 ⟨Nat.le_of_ble_eq_true rfl, Nat.le_of_ble_eq_true rfl⟩) (fun r_2 hr_2 => ?_)
    try dsimp only at hr_2
    rcases bo_split hr_2 with ⟨rfl, q_10⟩ | ⟨rfl, q_10⟩
    · refine lv_if_ne (tgt := 19) hx hb dX9_sieve_13 (by decide) (fun _ => ?_) (fun h9 => absurd h9 (by decide))
      refine lv_iload_n hx hb dX9_sieve_19 rfl (lv_at hl 1 rfl) ?_
      refine lv_iload_n hx hb dX9_sieve_20 rfl (lv_at hl 2 rfl) ?_
      refine lv_icmp_ne (tgt := 27) hx hb dX9_sieve_21 (by decide) (fun c_21 => ?_) (fun c_21 => ?_)
      · have t_21 := mt (fa_eq _ _).mpr c_21
        have np1 : ((p1.toNatClampNeg : Nat) : Int) = p1.toInt := tc_I (by omega)
        have bp1 := hM2 p1.toNatClampNeg (by omega)
        have np2 : ((p2.toNatClampNeg : Nat) : Int) = p2.toInt := tc_I (by omega)
        have bp2 := hM2 p2.toNatClampNeg (by omega)
        have hct : cOK (Ma p1.toNatClampNeg) (fun k => Sp (36 * p1.toNatClampNeg + k)) := (hTk p1.toNatClampNeg (by omega)).2.2.2.1
        have hcu : cOK (Ma p2.toNatClampNeg) (fun k => Sp (36 * p2.toNatClampNeg + k)) := (hTk p2.toNatClampNeg (by omega)).2.2.2.1
        refine lv_aload_n hx hb dX9_sieve_27 rfl (lv_at hl 0 rfl) ?_
        refine va_get (D := (dC, dI)) (ci := 9) (v := .ref a4) (C := RX9) (T := TX9) (N := 22) hx hb hts in_X9_sieveE_X9 hown hK hP 0 rfl rfl 4 (by decide) (hts (.fieldLink RX9 19 "MeetingsAboveModel" "isGone" "[Z") (by decide +kernel)) (fun _ h9 => h9) rfl dX9_sieve_28 ?_
        refine lv_iload_n hx hb dX9_sieve_31 rfl (lv_at hl 1 rfl) ?_
        refine va_zald hx hb hK hP 3 1 rfl rfl (vp_in_iff.mpr ⟨by omega, by omega⟩) dX9_sieve_32 ?_
        refine lv_topi (fun y_3 ey_3 => ?_)
        have uy_3 : y_3.toInt = (Go (p1 : Int32).toNatClampNeg).toInt := by rw [ey_3]
        refine lv_if_ne (tgt := 54) hx hb dX9_sieve_33 (by decide) (fun c_33 => ?_) (fun c_33 => ?_)
        · have t_33 := mt (fa_eq _ _).mpr c_33
          refine lv_iconst (v := 0) hx hb dX9_sieve_54 (by decide) ?_
          exact W.iret (v := 0) hx hb hr (fun t ht _ => ⟨_, rfl, (Or.inr (Or.inr ⟨⟨by omega, by omega⟩, by omega, sv_no (by omega)⟩)), ht⟩) (fun _ h => absurd h List.not_mem_nil) dX9_sieve_55
        · have t_33 := (fa_eq _ _).mp c_33
          refine lv_aload_n hx hb dX9_sieve_36 rfl (lv_at hl 0 rfl) ?_
          refine va_get (D := (dC, dI)) (ci := 9) (v := .ref a4) (C := RX9) (T := TX9) (N := 22) hx hb hts in_X9_sieveE_X9 hown hK hP 0 rfl rfl 4 (by decide) (hts (.fieldLink RX9 19 "MeetingsAboveModel" "isGone" "[Z") (by decide +kernel)) (fun _ h9 => h9) rfl dX9_sieve_37 ?_
          refine lv_iload_n hx hb dX9_sieve_40 rfl (lv_at hl 2 rfl) ?_
          refine va_zald hx hb hK hP 3 1 rfl rfl (vp_in_iff.mpr ⟨by omega, by omega⟩) dX9_sieve_41 ?_
          refine lv_topi (fun y_4 ey_4 => ?_)
          have uy_4 : y_4.toInt = (Go (p2 : Int32).toNatClampNeg).toInt := by rw [ey_4]
          refine lv_if_ne (tgt := 54) hx hb dX9_sieve_42 (by decide) (fun c_42 => ?_) (fun c_42 => ?_)
          · have t_42 := mt (fa_eq _ _).mpr c_42
            refine lv_iconst (v := 0) hx hb dX9_sieve_54 (by decide) ?_
            exact W.iret (v := 0) hx hb hr (fun t ht _ => ⟨_, rfl, (Or.inr (Or.inr ⟨⟨by omega, by omega⟩, by omega, sv_no (by omega)⟩)), ht⟩) (fun _ h => absurd h List.not_mem_nil) dX9_sieve_55
          · have t_42 := (fa_eq _ _).mp c_42
            refine lv_aload_n hx hb dX9_sieve_45 rfl (lv_at hl 0 rfl) ?_
            refine lv_iload_n hx hb dX9_sieve_46 rfl (lv_at hl 1 rfl) ?_
            refine lv_iload_n hx hb dX9_sieve_47 rfl (lv_at hl 2 rfl) ?_
            have hPc := hP.sub (ws' := [(h0, .inr (9, [.int th, .ref a1, .ref a2, .ref a3, .ref a4, .ref a5, .int ne, .int wi, .int dn, .ref a6, .ref a7, .int nn, .ref a8, .int la, .ref a9, .ref a10, .long up, .long lw, .int wh, .long pu, .long pw, .ref a11])), (a1, .inl (cI, 16, .inl Fi)), (a2, .inl (cI, 16, .inl Ma))]) [0, 1, 2] rfl
            have hKc := hK.sub (tys' := [(cI, .int)]) [0] rfl
            refine vp_callSi (W.runV (As := [.int p1, .int p2]) (rest := []) ⟨hx, hb, hml, hown, hts⟩ (c_X9_areTogether l dC dI h0 a1 a2 a3 a4 a5 a6 a7 a8 a9 a10 a11 th ne wi dn nn la wh up lw pu pw cI Fi Ma p1 p2 (by first | assumption | omega) (by first | assumption | omega) (by first | assumption | omega) (by first | assumption | omega) (by first | assumption | omega)) (cwV 2 hts g_X9_sieveE__X9_areTogether_151 rfl rfl rfl (by decide +kernel) ⟨Nat.le_of_ble_eq_true rfl, Nat.le_of_ble_eq_true rfl⟩) ⟨fun a U g mk q => by obtain ⟨q0, qP, qK⟩ := q; exact ⟨q0, qP, va_K.moved (u := U) (U := U.calling g mk a) (Vm.Alike.refl U.vm) qK⟩, va_recv hKc hPc (ci := 9) (q0 := 0) rfl rfl, fun U hU hW => ⟨rfl, by rw [hU]; exact hPc, va_K.moved hW.alike hKc⟩⟩ rfl rfl hl.1 rfl (lv_room (Nat.le_of_ble_eq_true rfl)) dX9_sieve_48 ⟨Nat.le_of_ble_eq_true rfl, Nat.le_of_ble_eq_true rfl⟩) (fun r_5 hr_5 => ?_)
            try dsimp only at hr_5
            rcases bo_split hr_5 with ⟨rfl, q_48⟩ | ⟨rfl, q_48⟩
            · refine lv_if_ne (tgt := 56) hx hb dX9_sieve_51 (by decide) (fun _ => ?_) (fun h9 => absurd h9 (by decide))
              refine lv_aload_n hx hb dX9_sieve_56 rfl (lv_at hl 0 rfl) ?_
              refine lv_iload_n hx hb dX9_sieve_57 rfl (lv_at hl 1 rfl) ?_
              refine lv_iload_n hx hb dX9_sieve_58 rfl (lv_at hl 2 rfl) ?_
              have hPc := hP.sub (ws' := [(h0, .inr (9, [.int th, .ref a1, .ref a2, .ref a3, .ref a4, .ref a5, .int ne, .int wi, .int dn, .ref a6, .ref a7, .int nn, .ref a8, .int la, .ref a9, .ref a10, .long up, .long lw, .int wh, .long pu, .long pw, .ref a11])), (a1, .inl (cI, 16, .inl Fi))]) [0, 1] rfl
              have hKc := hK.sub (tys' := [(cI, .int)]) [0] rfl
              refine vp_callSi (W.runV (As := [.int p1, .int p2]) (rest := []) ⟨hx, hb, hml, hown, hts⟩ (c_X9_firstOf l dC dI Ma h0 a1 a2 a3 a4 a5 a6 a7 a8 a9 a10 a11 th ne wi dn nn la wh up lw pu pw cI Fi p1 p2 (by first | assumption | omega) (by first | assumption | omega) (by first | assumption | omega) (by first | assumption | omega) (by first | assumption | omega)) (cwV 2 hts g_X9_sieveE__X9_firstOf_140 rfl rfl rfl (by decide +kernel) ⟨Nat.le_of_ble_eq_true rfl, Nat.le_of_ble_eq_true rfl⟩) ⟨fun a U g mk q => by obtain ⟨q0, qP, qK⟩ := q; exact ⟨q0, qP, va_K.moved (u := U) (U := U.calling g mk a) (Vm.Alike.refl U.vm) qK⟩, va_recv hKc hPc (ci := 9) (q0 := 0) rfl rfl, fun U hU hW => ⟨rfl, by rw [hU]; exact hPc, va_K.moved hW.alike hKc⟩⟩ rfl rfl hl.1 rfl (lv_room (Nat.le_of_ble_eq_true rfl)) dX9_sieve_59 ⟨Nat.le_of_ble_eq_true rfl, Nat.le_of_ble_eq_true rfl⟩) (fun r_6 hr_6 => ?_)
              try dsimp only at hr_6
              refine lv_istore_n (lv' := [(3, .int r_6), (0, .ref h0), (1, .int p1), (2, .int p2)]) hx hb dX9_sieve_62 rfl hl (by decide) rfl (fun ls hl => ?_)
              refine lv_aload_n hx hb dX9_sieve_63 rfl (lv_at hl 1 rfl) ?_
              refine lv_iload_n hx hb dX9_sieve_64 rfl (lv_at hl 2 rfl) ?_
              refine lv_iload_n hx hb dX9_sieve_65 rfl (lv_at hl 3 rfl) ?_
              have hPc := hP.sub (ws' := [(h0, .inr (9, [.int th, .ref a1, .ref a2, .ref a3, .ref a4, .ref a5, .int ne, .int wi, .int dn, .ref a6, .ref a7, .int nn, .ref a8, .int la, .ref a9, .ref a10, .long up, .long lw, .int wh, .long pu, .long pw, .ref a11])), (a1, .inl (cI, 16, .inl Fi)), (a2, .inl (cI, 16, .inl Ma))]) [0, 1, 2] rfl
              have hKc := hK.sub (tys' := [(cI, .int)]) [0] rfl
              refine vp_callSi (W.runV (As := [.int p1, .int p2]) (rest := []) ⟨hx, hb, hml, hown, hts⟩ (c_X9_lastOf l dC dI h0 a1 a2 a3 a4 a5 a6 a7 a8 a9 a10 a11 th ne wi dn nn la wh up lw pu pw cI Fi Ma p1 p2 (by first | assumption | omega) (by first | assumption | omega) (by first | assumption | omega) (by first | assumption | omega) (by first | assumption | omega)) (cwV 2 hts g_X9_sieveE__X9_lastOf_137 rfl rfl rfl (by decide +kernel) ⟨Nat.le_of_ble_eq_true rfl, Nat.le_of_ble_eq_true rfl⟩) ⟨fun a U g mk q => by obtain ⟨q0, qP, qK⟩ := q; exact ⟨q0, qP, va_K.moved (u := U) (U := U.calling g mk a) (Vm.Alike.refl U.vm) qK⟩, va_recv hKc hPc (ci := 9) (q0 := 0) rfl rfl, fun U hU hW => ⟨rfl, by rw [hU]; exact hPc, va_K.moved hW.alike hKc⟩⟩ rfl rfl hl.1 rfl (lv_room (Nat.le_of_ble_eq_true rfl)) dX9_sieve_66 ⟨Nat.le_of_ble_eq_true rfl, Nat.le_of_ble_eq_true rfl⟩) (fun r_7 hr_7 => ?_)
              try dsimp only at hr_7
              refine lv_istore (lv' := [(4, .int r_7), (3, .int r_6), (0, .ref h0), (1, .int p1), (2, .int p2)]) hx hb dX9_sieve_69 hl (by decide) rfl (fun ls hl => ?_)
              refine lv_aload_n hx hb dX9_sieve_71 rfl (lv_at hl 2 rfl) ?_
              refine lv_iload_n hx hb dX9_sieve_72 rfl (lv_at hl 3 rfl) ?_
              refine lv_iload_n hx hb dX9_sieve_73 rfl (lv_at hl 4 rfl) ?_
              refine lv_iload_n hx hb dX9_sieve_74 rfl (lv_at hl 1 rfl) ?_
              refine lv_iload hx hb dX9_sieve_75 (lv_at hl 0 rfl) ?_
              have hPc := hP.sub (ws' := [(h0, .inr (9, [.int th, .ref a1, .ref a2, .ref a3, .ref a4, .ref a5, .int ne, .int wi, .int dn, .ref a6, .ref a7, .int nn, .ref a8, .int la, .ref a9, .ref a10, .long up, .long lw, .int wh, .long pu, .long pw, .ref a11])), (a1, .inl (cI, 16, .inl Fi)), (a2, .inl (cI, 16, .inl Ma)), (a5, .inl (cI, 576, .inl Sp))]) [0, 1, 2, 4] rfl
              have hKc := hK.sub (tys' := [(cI, .int)]) [0] rfl
              refine vp_callSi (W.runV (As := [.int p1, .int p2, .int r_6, .int r_7]) (rest := []) ⟨hx, hb, hml, hown, hts⟩ (c_X9_isClearSomeE l dC dI h0 a1 a2 a3 a4 a5 a6 a7 a8 a9 a10 a11 th ne wi dn nn la wh up lw pu pw cI Fi Ma Sp p1 p2 r_6 r_7 (by first | assumption | omega) (by first | assumption | omega) (by first | assumption | omega) (by first | assumption | omega) (by first | assumption | omega) (by first | assumption | omega) (by first | assumption | omega) (by first | assumption | omega) (by first | assumption | omega) (by first | assumption | omega) (by first | assumption | omega) (by first | assumption | omega) (by first | assumption | omega) (by first | assumption | omega)) (cwV 4 hts g_X9_sieveE__X9_isClearSomeE_174 rfl rfl rfl (by decide +kernel) ⟨Nat.le_of_ble_eq_true rfl, Nat.le_of_ble_eq_true rfl⟩) ⟨fun a U g mk q => by obtain ⟨q0, qP, qK⟩ := q; exact ⟨q0, qP, va_K.moved (u := U) (U := U.calling g mk a) (Vm.Alike.refl U.vm) qK⟩, va_recv hKc hPc (ci := 9) (q0 := 0) rfl rfl, fun U hU hW => ⟨rfl, by rw [hU]; exact hPc, va_K.moved hW.alike hKc⟩⟩ rfl rfl hl.1 rfl (lv_room (Nat.le_of_ble_eq_true rfl)) dX9_sieve_77 ⟨Nat.le_of_ble_eq_true rfl, Nat.le_of_ble_eq_true rfl⟩) (fun r_8 hr_8 => ?_)
              try dsimp only at hr_8
              refine lv_if_eq (tgt := 85) hx hb dX9_sieve_80 (by decide) (fun c_80 => ?_) (fun c_80 => ?_)
              · have t_80 := (fa_eq _ _).mp c_80
                refine lv_iload_n hx hb dX9_sieve_85 rfl (lv_at hl 1 rfl) ?_
                refine lv_iload hx hb dX9_sieve_86 (lv_at hl 0 rfl) ?_
                refine lv_icmp_ge (tgt := 95) hx hb dX9_sieve_88 (by decide) (fun c_88 => ?_) (fun c_88 => ?_)
                · have t_88 := (fa_le _ _).mp c_88
                  refine lv_iconst (v := 0) hx hb dX9_sieve_95 (by decide) ?_
                  refine lv_istore (lv' := [(5, .int 0), (4, .int r_7), (3, .int r_6), (0, .ref h0), (1, .int p1), (2, .int p2)]) hx hb dX9_sieve_96 hl (by decide) rfl (fun ls hl => ?_)
                  refine lv_iload_n hx hb dX9_sieve_98 rfl (lv_at hl 2 rfl) ?_
                  refine lv_istore (lv' := [(6, .int r_6), (5, .int 0), (4, .int r_7), (3, .int r_6), (0, .ref h0), (1, .int p1), (2, .int p2)]) hx hb dX9_sieve_99 hl (by decide) rfl (fun ls hl => ?_)
                  refine (show ∀ (k : Nat) (w5 : Int32) (k6 : Int32) (hk0 : r_6.toInt ≤ k6.toInt) (hk1 : k6.toInt ≤ r_7.toInt) (hwn : (w5 = 1 ∧ r_6.toInt < r_7.toInt ∧ ∀ k : Int, r_6.toInt ≤ k → k < k6.toInt → farS (Fi p1.toNatClampNeg) (fun k => Sp (36 * p1.toNatClampNeg + k)) (Fi p2.toNatClampNeg) (fun k => Sp (36 * p2.toNatClampNeg + k)) k (k + 1) ne.toInt) ∨ (w5 = 0 ∧ ¬ farW (Fi p1.toNatClampNeg) (fun k => Sp (36 * p1.toNatClampNeg + k)) (Fi p2.toNatClampNeg) (fun k => Sp (36 * p2.toNatClampNeg + k)) r_6.toInt r_7.toInt ne.toInt)) (hk_101 : (r_7.toInt - k6.toInt).toNat < k) (ls : Array Slot) (hl : lv_has ls 7 [(0, .ref h0), (1, .int p1), (2, .int p2), (3, .int r_6), (4, .int r_7), (5, .int w5), (6, .int k6)]), W p l e _ s m _ below meth c s.heap [] 0 0 _ (F0 m 101 ls []) from ?_) _ 0 r_6 (by omega) (by omega) (by first | exact Or.inl ⟨rfl, by omega, fun k a9 b9 => absurd b9 (by omega)⟩ | exact Or.inr ⟨rfl, fun z => by have z9 := z.1; omega⟩) (Nat.lt_succ_self _) ls (lv_sub hl [4, 5, 6, 3, 2, 1, 0] rfl)
                  intro k
                  induction k with
                  | zero => intro w5 k6 hk0 hk1 hwn hk_101; exact absurd hk_101 (Nat.not_lt_zero _)
                  | succ k ih_101 =>
                    intro w5 k6 hk0 hk1 hwn hk_101 ls hl
                    refine lv_iload hx hb dX9_sieve_101 (lv_at hl 6 rfl) ?_
                    refine lv_iload hx hb dX9_sieve_103 (lv_at hl 4 rfl) ?_
                    refine lv_icmp_ge (tgt := 141) hx hb dX9_sieve_105 (by decide) (fun c_105 => ?_) (fun c_105 => ?_)
                    · have t_105 := (fa_le _ _).mp c_105
                      refine lv_iload hx hb dX9_sieve_141 (lv_at hl 5 rfl) ?_
                      refine lv_if_eq (tgt := 150) hx hb dX9_sieve_143 (by decide) (fun c_143 => ?_) (fun c_143 => ?_)
                      · have t_143 := (fa_eq _ _).mp c_143
                        refine lv_iconst (v := 3) hx hb dX9_sieve_150 (by decide) ?_
                        exact W.iret (v := 3) hx hb hr (fun t ht _ => ⟨_, rfl, (Or.inr (Or.inr ⟨⟨by omega, by omega⟩, by omega, sv_mk hr_6 hr_7 (Or.inr (Or.inr (Or.inr ⟨⟨by omega, by omega, by omega⟩, tv_0 hr_8 c_80, (hwn.elim (fun z => absurd (z.1.symm.trans c_143) (by decide)) (fun z => z.2)), by decide⟩)))⟩)), ht⟩) (fun _ h => absurd h List.not_mem_nil) dX9_sieve_151
                      · have t_143 := mt (fa_eq _ _).mpr c_143
                        refine lv_iconst (v := 2) hx hb dX9_sieve_146 (by decide) ?_
                        refine lv_goto (tgt := 151) hx hb dX9_sieve_147 (by decide) ?_
                        exact W.iret (v := 2) hx hb hr (fun t ht _ => ⟨_, rfl, (Or.inr (Or.inr ⟨⟨by omega, by omega⟩, by omega, sv_mk hr_6 hr_7 (Or.inr (Or.inr (Or.inl ⟨⟨by omega, by omega, by omega⟩, tv_0 hr_8 c_80, (hwn.elim (fun z => ⟨z.2.1, fun k a9 b9 => z.2.2 k a9 (by omega)⟩) (fun z => absurd z.1 c_143)), by decide⟩)))⟩)), ht⟩) (fun _ h => absurd h List.not_mem_nil) dX9_sieve_151
                    · have t_105 := mt (fa_le _ _).mpr c_105
                      refine lv_iload hx hb dX9_sieve_108 (lv_at hl 5 rfl) ?_
                      refine lv_if_eq (tgt := 132) hx hb dX9_sieve_110 (by decide) (fun c_110 => ?_) (fun c_110 => ?_)
                      · have t_110 := (fa_eq _ _).mp c_110
                        refine lv_iconst (v := 0) hx hb dX9_sieve_132 (by decide) ?_
                        refine lv_istore (lv' := [(5, .int 0), (0, .ref h0), (1, .int p1), (2, .int p2), (3, .int r_6), (4, .int r_7), (6, .int k6)]) hx hb dX9_sieve_133 hl (by decide) rfl (fun ls hl => ?_)
                        obtain ⟨y_9, ey_9⟩ : ∃ y : Int32, y = k6 + 1 := ⟨_, rfl⟩
                        have ty_9 : y_9.toInt = k6.toInt + 1 := by rw [ey_9]; have := fb_addI (x := k6) (y := 1) (by omega) (by omega); omega
                        refine lv_iinc (v := y_9) (lv' := [(6, .int y_9), (5, .int 0), (0, .ref h0), (1, .int p1), (2, .int p2), (3, .int r_6), (4, .int r_7)]) hx hb dX9_sieve_135 hl (k := 6) rfl (by rw [ey_9]; rfl) (by decide) rfl (fun ls hl => ?_)
                        refine lv_goto (tgt := 101) hx hb dX9_sieve_138 (by decide) ?_
                        exact ih_101 0 y_9 (by omega) (by omega) (by first | exact wn_1 (S := fun c9 d9 => farS (Fi p1.toNatClampNeg) (fun k => Sp (36 * p1.toNatClampNeg + k)) (Fi p2.toNatClampNeg) (fun k => Sp (36 * p2.toNatClampNeg + k)) c9 d9 ne.toInt) hwn c_110 (tv_1 hzz_none c_125) (by omega) (by omega) | exact wn_2 (S := fun c9 d9 => farS (Fi p1.toNatClampNeg) (fun k => Sp (36 * p1.toNatClampNeg + k)) (Fi p2.toNatClampNeg) (fun k => Sp (36 * p2.toNatClampNeg + k)) c9 d9 ne.toInt) (tv_0 hzz_none c_125) (by omega) (by omega) (by omega) | exact wn_0 (S := fun c9 d9 => farS (Fi p1.toNatClampNeg) (fun k => Sp (36 * p1.toNatClampNeg + k)) (Fi p2.toNatClampNeg) (fun k => Sp (36 * p2.toNatClampNeg + k)) c9 d9 ne.toInt) hwn c_110) (by omega) ls (lv_sub hl [2, 3, 4, 5, 6, 1, 0] rfl)
                      · have t_110 := mt (fa_eq _ _).mpr c_110
                        refine lv_aload_n hx hb dX9_sieve_113 rfl (lv_at hl 0 rfl) ?_
                        refine lv_iload_n hx hb dX9_sieve_114 rfl (lv_at hl 1 rfl) ?_
                        refine lv_iload_n hx hb dX9_sieve_115 rfl (lv_at hl 2 rfl) ?_
                        refine lv_iload hx hb dX9_sieve_116 (lv_at hl 6 rfl) ?_
                        refine lv_iload hx hb dX9_sieve_118 (lv_at hl 6 rfl) ?_
                        refine lv_iconst (v := 1) hx hb dX9_sieve_120 (by decide) ?_
                        refine lv_iadd hx hb dX9_sieve_121 ?_
                        refine lv_topi (fun y_10 ey_10 => ?_)
                        have ty_10 : y_10.toInt = k6.toInt + 1 := by rw [ey_10]; have := fb_addI (x := k6) (y := 1) (by omega) (by omega); omega
                        have hPc := hP.sub (ws' := [(h0, .inr (9, [.int th, .ref a1, .ref a2, .ref a3, .ref a4, .ref a5, .int ne, .int wi, .int dn, .ref a6, .ref a7, .int nn, .ref a8, .int la, .ref a9, .ref a10, .long up, .long lw, .int wh, .long pu, .long pw, .ref a11])), (a1, .inl (cI, 16, .inl Fi)), (a2, .inl (cI, 16, .inl Ma)), (a5, .inl (cI, 576, .inl Sp))]) [0, 1, 2, 4] rfl
                        have hKc := hK.sub (tys' := [(cI, .int)]) [0] rfl
                        refine vp_callSi (W.runV (As := [.int p1, .int p2, .int k6, .int y_10]) (rest := []) ⟨hx, hb, hml, hown, hts⟩ (c_X9_isClearSomeE l dC dI h0 a1 a2 a3 a4 a5 a6 a7 a8 a9 a10 a11 th ne wi dn nn la wh up lw pu pw cI Fi Ma Sp p1 p2 k6 y_10 (by first | assumption | omega) (by first | assumption | omega) (by first | assumption | omega) (by first | assumption | omega) (by first | assumption | omega) (by first | assumption | omega) (by first | assumption | omega) (by first | assumption | omega) (by first | assumption | omega) (by first | assumption | omega) (by first | assumption | omega) (by first | assumption | omega) (by first | assumption | omega) (by first | assumption | omega)) (cwV 4 hts g_X9_sieveE__X9_isClearSomeE_174 rfl rfl rfl (by decide +kernel) ⟨Nat.le_of_ble_eq_true rfl, Nat.le_of_ble_eq_true rfl⟩) ⟨fun a U g mk q => by obtain ⟨q0, qP, qK⟩ := q; exact ⟨q0, qP, va_K.moved (u := U) (U := U.calling g mk a) (Vm.Alike.refl U.vm) qK⟩, va_recv hKc hPc (ci := 9) (q0 := 0) rfl rfl, fun U hU hW => ⟨rfl, by rw [hU]; exact hPc, va_K.moved hW.alike hKc⟩⟩ rfl rfl hl.1 rfl (lv_room (Nat.le_of_ble_eq_true rfl)) dX9_sieve_122 ⟨Nat.le_of_ble_eq_true rfl, Nat.le_of_ble_eq_true rfl⟩) (fun r_11 hr_11 => ?_)
                        try dsimp only at hr_11
                        refine lv_if_eq (tgt := 132) hx hb dX9_sieve_125 (by decide) (fun c_125 => ?_) (fun c_125 => ?_)
                        · have t_125 := (fa_eq _ _).mp c_125
                          refine lv_iconst (v := 0) hx hb dX9_sieve_132 (by decide) ?_
                          refine lv_istore (lv' := [(5, .int 0), (0, .ref h0), (1, .int p1), (2, .int p2), (3, .int r_6), (4, .int r_7), (6, .int k6)]) hx hb dX9_sieve_133 hl (by decide) rfl (fun ls hl => ?_)
                          obtain ⟨y_12, ey_12⟩ : ∃ y : Int32, y = k6 + 1 := ⟨_, rfl⟩
                          have ty_12 : y_12.toInt = k6.toInt + 1 := by rw [ey_12]; have := fb_addI (x := k6) (y := 1) (by omega) (by omega); omega
                          refine lv_iinc (v := y_12) (lv' := [(6, .int y_12), (5, .int 0), (0, .ref h0), (1, .int p1), (2, .int p2), (3, .int r_6), (4, .int r_7)]) hx hb dX9_sieve_135 hl (k := 6) rfl (by rw [ey_12]; rfl) (by decide) rfl (fun ls hl => ?_)
                          refine lv_goto (tgt := 101) hx hb dX9_sieve_138 (by decide) ?_
                          exact ih_101 0 y_12 (by omega) (by omega) (by first | exact wn_1 (S := fun c9 d9 => farS (Fi p1.toNatClampNeg) (fun k => Sp (36 * p1.toNatClampNeg + k)) (Fi p2.toNatClampNeg) (fun k => Sp (36 * p2.toNatClampNeg + k)) c9 d9 ne.toInt) hwn c_110 (tv_1 hr_11 c_125) (by omega) (by omega) | exact wn_2 (S := fun c9 d9 => farS (Fi p1.toNatClampNeg) (fun k => Sp (36 * p1.toNatClampNeg + k)) (Fi p2.toNatClampNeg) (fun k => Sp (36 * p2.toNatClampNeg + k)) c9 d9 ne.toInt) (tv_0 hr_11 c_125) (by omega) (by omega) (by omega) | exact wn_0 (S := fun c9 d9 => farS (Fi p1.toNatClampNeg) (fun k => Sp (36 * p1.toNatClampNeg + k)) (Fi p2.toNatClampNeg) (fun k => Sp (36 * p2.toNatClampNeg + k)) c9 d9 ne.toInt) hwn c_110) (by omega) ls (lv_sub hl [2, 3, 4, 5, 6, 1, 0] rfl)
                        · have t_125 := mt (fa_eq _ _).mpr c_125
                          refine lv_iconst (v := 1) hx hb dX9_sieve_128 (by decide) ?_
                          refine lv_goto (tgt := 133) hx hb dX9_sieve_129 (by decide) ?_
                          refine lv_istore (lv' := [(5, .int 1), (0, .ref h0), (1, .int p1), (2, .int p2), (3, .int r_6), (4, .int r_7), (6, .int k6)]) hx hb dX9_sieve_133 hl (by decide) rfl (fun ls hl => ?_)
                          obtain ⟨y_13, ey_13⟩ : ∃ y : Int32, y = k6 + 1 := ⟨_, rfl⟩
                          have ty_13 : y_13.toInt = k6.toInt + 1 := by rw [ey_13]; have := fb_addI (x := k6) (y := 1) (by omega) (by omega); omega
                          refine lv_iinc (v := y_13) (lv' := [(6, .int y_13), (5, .int 1), (0, .ref h0), (1, .int p1), (2, .int p2), (3, .int r_6), (4, .int r_7)]) hx hb dX9_sieve_135 hl (k := 6) rfl (by rw [ey_13]; rfl) (by decide) rfl (fun ls hl => ?_)
                          refine lv_goto (tgt := 101) hx hb dX9_sieve_138 (by decide) ?_
                          exact ih_101 1 y_13 (by omega) (by omega) (by first | exact wn_1 (S := fun c9 d9 => farS (Fi p1.toNatClampNeg) (fun k => Sp (36 * p1.toNatClampNeg + k)) (Fi p2.toNatClampNeg) (fun k => Sp (36 * p2.toNatClampNeg + k)) c9 d9 ne.toInt) hwn c_110 (tv_1 hr_11 c_125) (by omega) (by omega) | exact wn_2 (S := fun c9 d9 => farS (Fi p1.toNatClampNeg) (fun k => Sp (36 * p1.toNatClampNeg + k)) (Fi p2.toNatClampNeg) (fun k => Sp (36 * p2.toNatClampNeg + k)) c9 d9 ne.toInt) (tv_0 hr_11 c_125) (by omega) (by omega) (by omega) | exact wn_0 (S := fun c9 d9 => farS (Fi p1.toNatClampNeg) (fun k => Sp (36 * p1.toNatClampNeg + k)) (Fi p2.toNatClampNeg) (fun k => Sp (36 * p2.toNatClampNeg + k)) c9 d9 ne.toInt) hwn c_110) (by omega) ls (lv_sub hl [2, 3, 4, 5, 6, 1, 0] rfl)
                · have t_88 := mt (fa_le _ _).mpr c_88
                  refine lv_iconst (v := 1) hx hb dX9_sieve_91 (by decide) ?_
                  refine lv_goto (tgt := 96) hx hb dX9_sieve_92 (by decide) ?_
                  refine lv_istore (lv' := [(5, .int 1), (4, .int r_7), (3, .int r_6), (0, .ref h0), (1, .int p1), (2, .int p2)]) hx hb dX9_sieve_96 hl (by decide) rfl (fun ls hl => ?_)
                  refine lv_iload_n hx hb dX9_sieve_98 rfl (lv_at hl 2 rfl) ?_
                  refine lv_istore (lv' := [(6, .int r_6), (5, .int 1), (4, .int r_7), (3, .int r_6), (0, .ref h0), (1, .int p1), (2, .int p2)]) hx hb dX9_sieve_99 hl (by decide) rfl (fun ls hl => ?_)
                  refine (show ∀ (k : Nat) (w5 : Int32) (k6 : Int32) (hk0 : r_6.toInt ≤ k6.toInt) (hk1 : k6.toInt ≤ r_7.toInt) (hwn : (w5 = 1 ∧ r_6.toInt < r_7.toInt ∧ ∀ k : Int, r_6.toInt ≤ k → k < k6.toInt → farS (Fi p1.toNatClampNeg) (fun k => Sp (36 * p1.toNatClampNeg + k)) (Fi p2.toNatClampNeg) (fun k => Sp (36 * p2.toNatClampNeg + k)) k (k + 1) ne.toInt) ∨ (w5 = 0 ∧ ¬ farW (Fi p1.toNatClampNeg) (fun k => Sp (36 * p1.toNatClampNeg + k)) (Fi p2.toNatClampNeg) (fun k => Sp (36 * p2.toNatClampNeg + k)) r_6.toInt r_7.toInt ne.toInt)) (hk_101 : (r_7.toInt - k6.toInt).toNat < k) (ls : Array Slot) (hl : lv_has ls 7 [(0, .ref h0), (1, .int p1), (2, .int p2), (3, .int r_6), (4, .int r_7), (5, .int w5), (6, .int k6)]), W p l e _ s m _ below meth c s.heap [] 0 0 _ (F0 m 101 ls []) from ?_) _ 1 r_6 (by omega) (by omega) (by first | exact Or.inl ⟨rfl, by omega, fun k a9 b9 => absurd b9 (by omega)⟩ | exact Or.inr ⟨rfl, fun z => by have z9 := z.1; omega⟩) (Nat.lt_succ_self _) ls (lv_sub hl [4, 5, 6, 3, 2, 1, 0] rfl)
                  intro k
                  induction k with
                  | zero => intro w5 k6 hk0 hk1 hwn hk_101; exact absurd hk_101 (Nat.not_lt_zero _)
                  | succ k ih_101 =>
                    intro w5 k6 hk0 hk1 hwn hk_101 ls hl
                    refine lv_iload hx hb dX9_sieve_101 (lv_at hl 6 rfl) ?_
                    refine lv_iload hx hb dX9_sieve_103 (lv_at hl 4 rfl) ?_
                    refine lv_icmp_ge (tgt := 141) hx hb dX9_sieve_105 (by decide) (fun c_105 => ?_) (fun c_105 => ?_)
                    · have t_105 := (fa_le _ _).mp c_105
                      refine lv_iload hx hb dX9_sieve_141 (lv_at hl 5 rfl) ?_
                      refine lv_if_eq (tgt := 150) hx hb dX9_sieve_143 (by decide) (fun c_143 => ?_) (fun c_143 => ?_)
                      · have t_143 := (fa_eq _ _).mp c_143
                        refine lv_iconst (v := 3) hx hb dX9_sieve_150 (by decide) ?_
                        exact W.iret (v := 3) hx hb hr (fun t ht _ => ⟨_, rfl, (Or.inr (Or.inr ⟨⟨by omega, by omega⟩, by omega, sv_mk hr_6 hr_7 (Or.inr (Or.inr (Or.inr ⟨⟨by omega, by omega, by omega⟩, tv_0 hr_8 c_80, (hwn.elim (fun z => absurd (z.1.symm.trans c_143) (by decide)) (fun z => z.2)), by decide⟩)))⟩)), ht⟩) (fun _ h => absurd h List.not_mem_nil) dX9_sieve_151
                      · have t_143 := mt (fa_eq _ _).mpr c_143
                        refine lv_iconst (v := 2) hx hb dX9_sieve_146 (by decide) ?_
                        refine lv_goto (tgt := 151) hx hb dX9_sieve_147 (by decide) ?_
                        exact W.iret (v := 2) hx hb hr (fun t ht _ => ⟨_, rfl, (Or.inr (Or.inr ⟨⟨by omega, by omega⟩, by omega, sv_mk hr_6 hr_7 (Or.inr (Or.inr (Or.inl ⟨⟨by omega, by omega, by omega⟩, tv_0 hr_8 c_80, (hwn.elim (fun z => ⟨z.2.1, fun k a9 b9 => z.2.2 k a9 (by omega)⟩) (fun z => absurd z.1 c_143)), by decide⟩)))⟩)), ht⟩) (fun _ h => absurd h List.not_mem_nil) dX9_sieve_151
                    · have t_105 := mt (fa_le _ _).mpr c_105
                      refine lv_iload hx hb dX9_sieve_108 (lv_at hl 5 rfl) ?_
                      refine lv_if_eq (tgt := 132) hx hb dX9_sieve_110 (by decide) (fun c_110 => ?_) (fun c_110 => ?_)
                      · have t_110 := (fa_eq _ _).mp c_110
                        refine lv_iconst (v := 0) hx hb dX9_sieve_132 (by decide) ?_
                        refine lv_istore (lv' := [(5, .int 0), (0, .ref h0), (1, .int p1), (2, .int p2), (3, .int r_6), (4, .int r_7), (6, .int k6)]) hx hb dX9_sieve_133 hl (by decide) rfl (fun ls hl => ?_)
                        obtain ⟨y_14, ey_14⟩ : ∃ y : Int32, y = k6 + 1 := ⟨_, rfl⟩
                        have ty_14 : y_14.toInt = k6.toInt + 1 := by rw [ey_14]; have := fb_addI (x := k6) (y := 1) (by omega) (by omega); omega
                        refine lv_iinc (v := y_14) (lv' := [(6, .int y_14), (5, .int 0), (0, .ref h0), (1, .int p1), (2, .int p2), (3, .int r_6), (4, .int r_7)]) hx hb dX9_sieve_135 hl (k := 6) rfl (by rw [ey_14]; rfl) (by decide) rfl (fun ls hl => ?_)
                        refine lv_goto (tgt := 101) hx hb dX9_sieve_138 (by decide) ?_
                        exact ih_101 0 y_14 (by omega) (by omega) (by first | exact wn_1 (S := fun c9 d9 => farS (Fi p1.toNatClampNeg) (fun k => Sp (36 * p1.toNatClampNeg + k)) (Fi p2.toNatClampNeg) (fun k => Sp (36 * p2.toNatClampNeg + k)) c9 d9 ne.toInt) hwn c_110 (tv_1 hr_11 c_125) (by omega) (by omega) | exact wn_2 (S := fun c9 d9 => farS (Fi p1.toNatClampNeg) (fun k => Sp (36 * p1.toNatClampNeg + k)) (Fi p2.toNatClampNeg) (fun k => Sp (36 * p2.toNatClampNeg + k)) c9 d9 ne.toInt) (tv_0 hr_11 c_125) (by omega) (by omega) (by omega) | exact wn_0 (S := fun c9 d9 => farS (Fi p1.toNatClampNeg) (fun k => Sp (36 * p1.toNatClampNeg + k)) (Fi p2.toNatClampNeg) (fun k => Sp (36 * p2.toNatClampNeg + k)) c9 d9 ne.toInt) hwn c_110) (by omega) ls (lv_sub hl [2, 3, 4, 5, 6, 1, 0] rfl)
                      · have t_110 := mt (fa_eq _ _).mpr c_110
                        refine lv_aload_n hx hb dX9_sieve_113 rfl (lv_at hl 0 rfl) ?_
                        refine lv_iload_n hx hb dX9_sieve_114 rfl (lv_at hl 1 rfl) ?_
                        refine lv_iload_n hx hb dX9_sieve_115 rfl (lv_at hl 2 rfl) ?_
                        refine lv_iload hx hb dX9_sieve_116 (lv_at hl 6 rfl) ?_
                        refine lv_iload hx hb dX9_sieve_118 (lv_at hl 6 rfl) ?_
                        refine lv_iconst (v := 1) hx hb dX9_sieve_120 (by decide) ?_
                        refine lv_iadd hx hb dX9_sieve_121 ?_
                        refine lv_topi (fun y_15 ey_15 => ?_)
                        have ty_15 : y_15.toInt = k6.toInt + 1 := by rw [ey_15]; have := fb_addI (x := k6) (y := 1) (by omega) (by omega); omega
                        have hPc := hP.sub (ws' := [(h0, .inr (9, [.int th, .ref a1, .ref a2, .ref a3, .ref a4, .ref a5, .int ne, .int wi, .int dn, .ref a6, .ref a7, .int nn, .ref a8, .int la, .ref a9, .ref a10, .long up, .long lw, .int wh, .long pu, .long pw, .ref a11])), (a1, .inl (cI, 16, .inl Fi)), (a2, .inl (cI, 16, .inl Ma)), (a5, .inl (cI, 576, .inl Sp))]) [0, 1, 2, 4] rfl
                        have hKc := hK.sub (tys' := [(cI, .int)]) [0] rfl
                        refine vp_callSi (W.runV (As := [.int p1, .int p2, .int k6, .int y_15]) (rest := []) ⟨hx, hb, hml, hown, hts⟩ (c_X9_isClearSomeE l dC dI h0 a1 a2 a3 a4 a5 a6 a7 a8 a9 a10 a11 th ne wi dn nn la wh up lw pu pw cI Fi Ma Sp p1 p2 k6 y_15 (by first | assumption | omega) (by first | assumption | omega) (by first | assumption | omega) (by first | assumption | omega) (by first | assumption | omega) (by first | assumption | omega) (by first | assumption | omega) (by first | assumption | omega) (by first | assumption | omega) (by first | assumption | omega) (by first | assumption | omega) (by first | assumption | omega) (by first | assumption | omega) (by first | assumption | omega)) (cwV 4 hts g_X9_sieveE__X9_isClearSomeE_174 rfl rfl rfl (by decide +kernel) ⟨Nat.le_of_ble_eq_true rfl, Nat.le_of_ble_eq_true rfl⟩) ⟨fun a U g mk q => by obtain ⟨q0, qP, qK⟩ := q; exact ⟨q0, qP, va_K.moved (u := U) (U := U.calling g mk a) (Vm.Alike.refl U.vm) qK⟩, va_recv hKc hPc (ci := 9) (q0 := 0) rfl rfl, fun U hU hW => ⟨rfl, by rw [hU]; exact hPc, va_K.moved hW.alike hKc⟩⟩ rfl rfl hl.1 rfl (lv_room (Nat.le_of_ble_eq_true rfl)) dX9_sieve_122 ⟨Nat.le_of_ble_eq_true rfl, Nat.le_of_ble_eq_true rfl⟩) (fun r_16 hr_16 => ?_)
                        try dsimp only at hr_16
                        refine lv_if_eq (tgt := 132) hx hb dX9_sieve_125 (by decide) (fun c_125 => ?_) (fun c_125 => ?_)
                        · have t_125 := (fa_eq _ _).mp c_125
                          refine lv_iconst (v := 0) hx hb dX9_sieve_132 (by decide) ?_
                          refine lv_istore (lv' := [(5, .int 0), (0, .ref h0), (1, .int p1), (2, .int p2), (3, .int r_6), (4, .int r_7), (6, .int k6)]) hx hb dX9_sieve_133 hl (by decide) rfl (fun ls hl => ?_)
                          obtain ⟨y_17, ey_17⟩ : ∃ y : Int32, y = k6 + 1 := ⟨_, rfl⟩
                          have ty_17 : y_17.toInt = k6.toInt + 1 := by rw [ey_17]; have := fb_addI (x := k6) (y := 1) (by omega) (by omega); omega
                          refine lv_iinc (v := y_17) (lv' := [(6, .int y_17), (5, .int 0), (0, .ref h0), (1, .int p1), (2, .int p2), (3, .int r_6), (4, .int r_7)]) hx hb dX9_sieve_135 hl (k := 6) rfl (by rw [ey_17]; rfl) (by decide) rfl (fun ls hl => ?_)
                          refine lv_goto (tgt := 101) hx hb dX9_sieve_138 (by decide) ?_
                          exact ih_101 0 y_17 (by omega) (by omega) (by first | exact wn_1 (S := fun c9 d9 => farS (Fi p1.toNatClampNeg) (fun k => Sp (36 * p1.toNatClampNeg + k)) (Fi p2.toNatClampNeg) (fun k => Sp (36 * p2.toNatClampNeg + k)) c9 d9 ne.toInt) hwn c_110 (tv_1 hr_16 c_125) (by omega) (by omega) | exact wn_2 (S := fun c9 d9 => farS (Fi p1.toNatClampNeg) (fun k => Sp (36 * p1.toNatClampNeg + k)) (Fi p2.toNatClampNeg) (fun k => Sp (36 * p2.toNatClampNeg + k)) c9 d9 ne.toInt) (tv_0 hr_16 c_125) (by omega) (by omega) (by omega) | exact wn_0 (S := fun c9 d9 => farS (Fi p1.toNatClampNeg) (fun k => Sp (36 * p1.toNatClampNeg + k)) (Fi p2.toNatClampNeg) (fun k => Sp (36 * p2.toNatClampNeg + k)) c9 d9 ne.toInt) hwn c_110) (by omega) ls (lv_sub hl [2, 3, 4, 5, 6, 1, 0] rfl)
                        · have t_125 := mt (fa_eq _ _).mpr c_125
                          refine lv_iconst (v := 1) hx hb dX9_sieve_128 (by decide) ?_
                          refine lv_goto (tgt := 133) hx hb dX9_sieve_129 (by decide) ?_
                          refine lv_istore (lv' := [(5, .int 1), (0, .ref h0), (1, .int p1), (2, .int p2), (3, .int r_6), (4, .int r_7), (6, .int k6)]) hx hb dX9_sieve_133 hl (by decide) rfl (fun ls hl => ?_)
                          obtain ⟨y_18, ey_18⟩ : ∃ y : Int32, y = k6 + 1 := ⟨_, rfl⟩
                          have ty_18 : y_18.toInt = k6.toInt + 1 := by rw [ey_18]; have := fb_addI (x := k6) (y := 1) (by omega) (by omega); omega
                          refine lv_iinc (v := y_18) (lv' := [(6, .int y_18), (5, .int 1), (0, .ref h0), (1, .int p1), (2, .int p2), (3, .int r_6), (4, .int r_7)]) hx hb dX9_sieve_135 hl (k := 6) rfl (by rw [ey_18]; rfl) (by decide) rfl (fun ls hl => ?_)
                          refine lv_goto (tgt := 101) hx hb dX9_sieve_138 (by decide) ?_
                          exact ih_101 1 y_18 (by omega) (by omega) (by first | exact wn_1 (S := fun c9 d9 => farS (Fi p1.toNatClampNeg) (fun k => Sp (36 * p1.toNatClampNeg + k)) (Fi p2.toNatClampNeg) (fun k => Sp (36 * p2.toNatClampNeg + k)) c9 d9 ne.toInt) hwn c_110 (tv_1 hr_16 c_125) (by omega) (by omega) | exact wn_2 (S := fun c9 d9 => farS (Fi p1.toNatClampNeg) (fun k => Sp (36 * p1.toNatClampNeg + k)) (Fi p2.toNatClampNeg) (fun k => Sp (36 * p2.toNatClampNeg + k)) c9 d9 ne.toInt) (tv_0 hr_16 c_125) (by omega) (by omega) (by omega) | exact wn_0 (S := fun c9 d9 => farS (Fi p1.toNatClampNeg) (fun k => Sp (36 * p1.toNatClampNeg + k)) (Fi p2.toNatClampNeg) (fun k => Sp (36 * p2.toNatClampNeg + k)) c9 d9 ne.toInt) hwn c_110) (by omega) ls (lv_sub hl [2, 3, 4, 5, 6, 1, 0] rfl)
              · have t_80 := mt (fa_eq _ _).mpr c_80
                refine lv_iconst (v := 1) hx hb dX9_sieve_83 (by decide) ?_
                exact W.iret (v := 1) hx hb hr (fun t ht _ => ⟨_, rfl, (Or.inr (Or.inr ⟨⟨by omega, by omega⟩, by omega, sv_mk hr_6 hr_7 (Or.inr (Or.inl ⟨⟨by omega, by omega, by omega⟩, tv_1 hr_8 c_80, by decide⟩))⟩)), ht⟩) (fun _ h => absurd h List.not_mem_nil) dX9_sieve_84
            · refine lv_if_ne (tgt := 56) hx hb dX9_sieve_51 (by decide) (fun h9 => absurd h9 (by decide)) (fun _ => ?_)
              refine lv_iconst (v := 0) hx hb dX9_sieve_54 (by decide) ?_
              exact W.iret (v := 0) hx hb hr (fun t ht _ => ⟨_, rfl, (Or.inr (Or.inr ⟨⟨by omega, by omega⟩, by omega, sv_no (by omega)⟩)), ht⟩) (fun _ h => absurd h List.not_mem_nil) dX9_sieve_55
      · have t_21 := (fa_eq _ _).mp c_21
        refine lv_ldc hx hb hown (hts (.constant RX9 85 (-100003)) (by decide +kernel)) dX9_sieve_24 ?_
        exact W.iret (v := (-100003)) hx hb hr (fun t ht _ => ⟨_, rfl, (Or.inr (Or.inl ⟨⟨by omega, by omega⟩, by omega, rfl⟩)), ht⟩) (fun _ h => absurd h List.not_mem_nil) dX9_sieve_26
    · refine lv_if_ne (tgt := 19) hx hb dX9_sieve_13 (by decide) (fun h9 => absurd h9 (by decide)) (fun _ => ?_)
      refine lv_ldc hx hb hown (hts (.constant RX9 84 (-100001)) (by decide +kernel)) dX9_sieve_16 ?_
      exact W.iret (v := (-100001)) hx hb hr (fun t ht _ => ⟨_, rfl, (Or.inl ⟨by omega, rfl⟩), ht⟩) (fun _ h => absurd h List.not_mem_nil) dX9_sieve_18
  · refine lv_if_eq (tgt := 16) hx hb dX9_sieve_5 (by decide) (fun _ => ?_) (fun h9 => absurd h9 (by decide))
    refine lv_ldc hx hb hown (hts (.constant RX9 84 (-100001)) (by decide +kernel)) dX9_sieve_16 ?_
    exact W.iret (v := (-100001)) hx hb hr (fun t ht _ => ⟨_, rfl, (Or.inl ⟨by omega, rfl⟩), ht⟩) (fun _ h => absurd h List.not_mem_nil) dX9_sieve_18
