def wk_X9_shift : List Cond := .code yX9_shift cX9_shift 10 (some .boolean) :: (([.fieldLink RX9 7 "MeetingsAboveModel" "firsts" "[I", .fieldLink RX9 13 "MeetingsAboveModel" "many" "[I", .fieldLink RX9 23 "MeetingsAboveModel" "spots" "[I"] : List Cond) ++ (wsX90 ++ ((va_wsS RX9 64 yX9_isPlace wk_X9_isPlace) ++ ([]))))
theorem in_X9_shift_X9 : ∀ w ∈ wsX90, w ∈ wk_X9_shift := fun _ h => List.mem_cons_of_mem _ (List.mem_append_right _ (List.mem_append_left _ h))
theorem gw_X9_shift : AG wk_X9_shift := AG_ca (AG_l (by decide +kernel)) (AG_app ag_X9 (AG_app (AG_S gw_X9_isPlace) (AG_nil)))
theorem g_X9_shift__X9_isPlace_64 : GoodIn wk_X9_shift (va_wsS RX9 64 yX9_isPlace wk_X9_isPlace) := goodIn_m (fun _ h => List.mem_cons_of_mem _ (List.mem_append_right _ (List.mem_append_right _ (List.mem_append_left _ h)))) (AG_S gw_X9_isPlace)
set_option maxHeartbeats 4000000 in
set_option maxRecDepth 100000 in
theorem c_X9_shift (l : Launch) (dC : Nat → ClassId) (dI : Nat → Nat → Nat) (h0 : Nat) (a1 : Nat) (a2 : Nat) (a3 : Nat) (a4 : Nat) (a5 : Nat) (a6 : Nat) (a7 : Nat) (a8 : Nat) (a9 : Nat) (a10 : Nat) (a11 : Nat) (th : Int32) (ne : Int32) (wi : Int32) (dn : Int32) (nn : Int32) (la : Int32) (wh : Int32) (up : Int64) (lw : Int64) (pu : Int64) (pw : Int64) (cI : ClassId) (Fi : Nat → Int32) (Ma : Nat → Int32) (Sp : Nat → Int32) (p1 : Int32) (p2 : Int32) (p3 : Int32) (p4 : Int32) (p5 : Int32) (sz : Nat) (hM : mOK th Fi Ma) (hp10 : 0 ≤ p1.toInt) (hp11 : p1.toInt < th.toInt) (hs0 : (Fi p1.toNatClampNeg).toInt ≤ p2.toInt) (hs1 : p2.toInt < (Fi p1.toNatClampNeg).toInt + (Ma p1.toNatClampNeg).toInt) : Met l yX9_shift wk_X9_shift ({ frames := 2, cells := 0, slots := 0, locals := 47 }) (va_Pc [.ref h0, .int p1, .int p2, .int p3, .int p4, .int p5] (fun U => U.heap.size = sz ∧ va_P (dC, dI) vwCl [(h0, .inr (9, [.int th, .ref a1, .ref a2, .ref a3, .ref a4, .ref a5, .int ne, .int wi, .int dn, .ref a6, .ref a7, .int nn, .ref a8, .int la, .ref a9, .ref a10, .long up, .long lw, .int wh, .long pu, .long pw, .ref a11])), (a1, .inl (cI, 16, .inl Fi)), (a2, .inl (cI, 16, .inl Ma)), (a5, .inl (cI, 576, .inl Sp))] U.heap ∧ va_K (dC, dI) vwCl [(cI, .int)] U ∧ va_D (fun _ => True) [(h0, .inr (9, [.int th, .ref a1, .ref a2, .ref a3, .ref a4, .ref a5, .int ne, .int wi, .int dn, .ref a6, .ref a7, .int nn, .ref a8, .int la, .ref a9, .ref a10, .long up, .long lw, .int wh, .long pu, .long pw, .ref a11])), (a1, .inl (cI, 16, .inl Fi)), (a2, .inl (cI, 16, .inl Ma)), (a5, .inl (cI, 576, .inl Sp))])) (va_Qi (fun (r : Int32) (_ : Unit) => (r.toInt = 1 ∧ stK Sp (36 * p1.toInt + 3 * (p2.toInt + 1 - (Fi p1.toNatClampNeg).toInt)).toNat p3 p4 p5 ((Fi p1.toNatClampNeg).toInt + (Ma p1.toNatClampNeg).toInt - 1 - p2.toInt).toNat) ∨ (r.toInt = 0 ∧ ¬ stK Sp (36 * p1.toInt + 3 * (p2.toInt + 1 - (Fi p1.toNatClampNeg).toInt)).toNat p3 p4 p5 ((Fi p1.toNatClampNeg).toInt + (Ma p1.toNatClampNeg).toInt - 1 - p2.toInt).toNat)) (fun (_ : Unit) (t : State) => ∃ (Sp9 : Nat → Int32), va_P (dC, dI) vwCl [(h0, .inr (9, [.int th, .ref a1, .ref a2, .ref a3, .ref a4, .ref a5, .int ne, .int wi, .int dn, .ref a6, .ref a7, .int nn, .ref a8, .int la, .ref a9, .ref a10, .long up, .long lw, .int wh, .long pu, .long pw, .ref a11])), (a1, .inl (cI, 16, .inl Fi)), (a2, .inl (cI, 16, .inl Ma)), (a5, .inl (cI, 576, .inl Sp9))] t.heap ∧ va_K (dC, dI) vwCl [(cI, .int)] t ∧ va_D (va_A [(h0, .inr (9, [.int th, .ref a1, .ref a2, .ref a3, .ref a4, .ref a5, .int ne, .int wi, .int dn, .ref a6, .ref a7, .int nn, .ref a8, .int la, .ref a9, .ref a10, .long up, .long lw, .int wh, .long pu, .long pw, .ref a11])), (a1, .inl (cI, 16, .inl Fi)), (a2, .inl (cI, 16, .inl Ma)), (a5, .inl (cI, 576, .inl Sp))] sz) [(h0, .inr (9, [.int th, .ref a1, .ref a2, .ref a3, .ref a4, .ref a5, .int ne, .int wi, .int dn, .ref a6, .ref a7, .int nn, .ref a8, .int la, .ref a9, .ref a10, .long up, .long lw, .int wh, .long pu, .long pw, .ref a11])), (a1, .inl (cI, 16, .inl Fi)), (a2, .inl (cI, 16, .inl Ma)), (a5, .inl (cI, 576, .inl Sp9))] ∧ Sp9 = mvK Sp (36 * p1.toInt + 3 * (p2.toInt + 1 - (Fi p1.toNatClampNeg).toInt)).toNat p3 p4 p5 ((Fi p1.toNatClampNeg).toInt + (Ma p1.toNatClampNeg).toInt - 1 - p2.toInt).toNat) (va_A [(h0, .inr (9, [.int th, .ref a1, .ref a2, .ref a3, .ref a4, .ref a5, .int ne, .int wi, .int dn, .ref a6, .ref a7, .int nn, .ref a8, .int la, .ref a9, .ref a10, .long up, .long lw, .int wh, .long pu, .long pw, .ref a11])), (a1, .inl (cI, 16, .inl Fi)), (a2, .inl (cI, 16, .inl Ma)), (a5, .inl (cI, 576, .inl Sp))] sz)) 0 0 (va_A [(h0, .inr (9, [.int th, .ref a1, .ref a2, .ref a3, .ref a4, .ref a5, .int ne, .int wi, .int dn, .ref a6, .ref a7, .int nn, .ref a8, .int la, .ref a9, .ref a10, .long up, .long lw, .int wh, .long pu, .long pw, .ref a11])), (a1, .inl (cI, 16, .inl Fi)), (a2, .inl (cI, 16, .inl Ma)), (a5, .inl (cI, 576, .inl Sp))] sz) := by
  refine Met.ofW (cc := cX9_shift) (maxL := 10) (ret := (some .boolean)) (by decide) rfl ?_
  intro p e s m args below meth c s₁ B hml hv
  obtain ⟨rfl, hsz, hP, hK, hD0⟩ := hv
  have hx := B.exec
  have hb := B.bytes
  have hr := B.returns
  have hts := atoms_spec (ws := wk_X9_shift) B.pre
  have hown : s.vm.findClass RX9 = some m.cls := findClass_of_methodNamed B.named
  have hlocks := B.notSynchronized
  subst hsz
  have hD := hD0.self (sz := s.heap.size)
  generalize hAe : va_A [(h0, .inr (9, [.int th, .ref a1, .ref a2, .ref a3, .ref a4, .ref a5, .int ne, .int wi, .int dn, .ref a6, .ref a7, .int nn, .ref a8, .int la, .ref a9, .ref a10, .long up, .long lw, .int wh, .long pu, .long pw, .ref a11])), (a1, .inl (cI, 16, .inl Fi)), (a2, .inl (cI, 16, .inl Ma)), (a5, .inl (cI, 576, .inl Sp))] s.heap.size = A at hD ⊢
  have hA : ∀ q : Nat, s.heap.size ≤ q → A q := fun q h => by rw [← hAe]; exact Or.inr h
  have hS : va_S A s.heap s.heap [] := va_S.rf
  have hP : va_P (dC, dI) vwCl [(h0, .inr (9, [.int th, .ref a1, .ref a2, .ref a3, .ref a4, .ref a5, .int ne, .int wi, .int dn, .ref a6, .ref a7, .int nn, .ref a8, .int la, .ref a9, .ref a10, .long up, .long lw, .int wh, .long pu, .long pw, .ref a11])), (a1, .inl (cI, 16, .inl Fi)), (a2, .inl (cI, 16, .inl Ma)), (a5, .inl (cI, 576, .inl Sp))] s.heap := hP
  have hl := lv_entry ([.ref h0, .int p1, .int p2, .int p3, .int p4, .int p5]) (n := 10) (Nat.le_of_ble_eq_true rfl)
  rw [lg_entry_eq]
  generalize (lg_sl ([.ref h0, .int p1, .int p2, .int p3, .int p4, .int p5]) ++ List.replicate (10 - (lg_sl ([.ref h0, .int p1, .int p2, .int p3, .int p4, .int p5])).length) Slot.unset).toArray = ls at hl ⊢
  have hl : lv_has ls 10 [(0, .ref h0), (1, .int p1), (2, .int p2), (3, .int p3), (4, .int p4), (5, .int p5)] := hl
  have kl_0 : (0 : Int32).toInt = 0 := by decide
  have kl_1 : (1 : Int32).toInt = 1 := by decide
  have kl_2 : (2 : Int32).toInt = 2 := by decide
  have kl_3 : (3 : Int32).toInt = 3 := by decide
  have kl_36 : (36 : Int32).toInt = 36 := by decide
  obtain ⟨hM0, hM1, hM2⟩ := id hM
  have np1 : ((p1.toNatClampNeg : Nat) : Int) = p1.toInt := tc_I (by omega)
  have bp1 := hM2 p1.toNatClampNeg (by omega)
  refine lv_iconst (v := 1) hx hb dX9_shift_0 (by decide) ?_
  refine lv_istore (lv' := [(6, .int 1), (0, .ref h0), (1, .int p1), (2, .int p2), (3, .int p3), (4, .int p4), (5, .int p5)]) hx hb dX9_shift_1 hl (by decide) rfl (fun ls hl => ?_)
  refine lv_iload_n hx hb dX9_shift_3 rfl (lv_at hl 3 rfl) ?_
  refine lv_iconst (v := 1) hx hb dX9_shift_4 (by decide) ?_
  refine lv_iadd hx hb dX9_shift_5 ?_
  refine lv_topi (fun y_1 ey_1 => ?_)
  have ty_1 : y_1.toInt = p2.toInt + 1 := by rw [ey_1]; have := fb_addI (x := p2) (y := 1) (by omega) (by omega); omega
  refine lv_istore (lv' := [(7, .int y_1), (6, .int 1), (0, .ref h0), (1, .int p1), (2, .int p2), (3, .int p3), (4, .int p4), (5, .int p5)]) hx hb dX9_shift_6 hl (by decide) rfl (fun ls hl => ?_)
  refine (show ∀ (k : Nat) (gd : Int32) (kk : Int32) (S7 : Nat → Int32) (hk0 : p2.toInt < kk.toInt) (hk1 : kk.toInt ≤ (Fi p1.toNatClampNeg).toInt + (Ma p1.toNatClampNeg).toInt) (hS7 : S7 = mvK Sp (36 * p1.toInt + 3 * (p2.toInt + 1 - (Fi p1.toNatClampNeg).toInt)).toNat p3 p4 p5 (kk.toInt - 1 - p2.toInt).toNat) (hg7 : (gd = 1 ∧ stK Sp (36 * p1.toInt + 3 * (p2.toInt + 1 - (Fi p1.toNatClampNeg).toInt)).toNat p3 p4 p5 (kk.toInt - 1 - p2.toInt).toNat) ∨ (gd = 0 ∧ ¬ stK Sp (36 * p1.toInt + 3 * (p2.toInt + 1 - (Fi p1.toNatClampNeg).toInt)).toNat p3 p4 p5 (kk.toInt - 1 - p2.toInt).toNat)) (hk_8 : ((Fi p1.toNatClampNeg).toInt + (Ma p1.toNatClampNeg).toInt - kk.toInt).toNat < k) (H : Heap) (locs : List Loc) (hP : va_P (dC, dI) vwCl [(h0, .inr (9, [.int th, .ref a1, .ref a2, .ref a3, .ref a4, .ref a5, .int ne, .int wi, .int dn, .ref a6, .ref a7, .int nn, .ref a8, .int la, .ref a9, .ref a10, .long up, .long lw, .int wh, .long pu, .long pw, .ref a11])), (a1, .inl (cI, 16, .inl Fi)), (a2, .inl (cI, 16, .inl Ma)), (a5, .inl (cI, 576, .inl S7))] H) (hD : va_D A [(h0, .inr (9, [.int th, .ref a1, .ref a2, .ref a3, .ref a4, .ref a5, .int ne, .int wi, .int dn, .ref a6, .ref a7, .int nn, .ref a8, .int la, .ref a9, .ref a10, .long up, .long lw, .int wh, .long pu, .long pw, .ref a11])), (a1, .inl (cI, 16, .inl Fi)), (a2, .inl (cI, 16, .inl Ma)), (a5, .inl (cI, 576, .inl S7))]) (hS : va_S A s.heap H locs) (ls : Array Slot) (hl : lv_has ls 10 [(0, .ref h0), (1, .int p1), (2, .int p2), (3, .int p3), (4, .int p4), (5, .int p5), (6, .int gd), (7, .int kk)]), W p l e _ s m _ below meth c H locs 0 0 _ (F0 m 8 ls []) from ?_) _ 1 y_1 Sp (by omega) (by omega) (by rw [show (y_1.toInt - 1 - p2.toInt).toNat = 0 by omega]; rfl) (by rw [show (y_1.toInt - 1 - p2.toInt).toNat = 0 by omega]; exact Or.inl ⟨rfl, fun j hj => absurd hj (Nat.not_lt_zero j)⟩) (Nat.lt_succ_self _) _ _ hP hD hS ls (lv_sub hl [2, 3, 4, 5, 6, 7, 1, 0] rfl)
  intro k
  induction k with
  | zero => intro gd kk S7 hk0 hk1 hS7 hg7 hk_8; exact absurd hk_8 (Nat.not_lt_zero _)
  | succ k ih_8 =>
    intro gd kk S7 hk0 hk1 hS7 hg7 hk_8 H locs hP hD hS ls hl
    refine lv_iload hx hb dX9_shift_8 (lv_at hl 7 rfl) ?_
    refine lv_aload_n hx hb dX9_shift_10 rfl (lv_at hl 0 rfl) ?_
    refine va_get (D := (dC, dI)) (ci := 9) (v := .ref a1) (C := RX9) (T := TX9) (N := 22) hx hb hts in_X9_shift_X9 hown hK hP 0 rfl rfl 1 (by decide) (hts (.fieldLink RX9 7 "MeetingsAboveModel" "firsts" "[I") (by decide +kernel)) (fun _ h9 => h9) rfl dX9_shift_11 ?_
    refine lv_iload_n hx hb dX9_shift_14 rfl (lv_at hl 1 rfl) ?_
    refine va_iald hx hb hK hP 1 0 rfl rfl (vp_in_iff.mpr ⟨by omega, by omega⟩) dX9_shift_15 ?_
    refine lv_topi (fun y_2 ey_2 => ?_)
    have uy_2 : y_2.toInt = (Fi (p1 : Int32).toNatClampNeg).toInt := by rw [ey_2]
    refine lv_aload_n hx hb dX9_shift_16 rfl (lv_at hl 0 rfl) ?_
    refine va_get (D := (dC, dI)) (ci := 9) (v := .ref a2) (C := RX9) (T := TX9) (N := 22) hx hb hts in_X9_shift_X9 hown hK hP 0 rfl rfl 2 (by decide) (hts (.fieldLink RX9 13 "MeetingsAboveModel" "many" "[I") (by decide +kernel)) (fun _ h9 => h9) rfl dX9_shift_17 ?_
    refine lv_iload_n hx hb dX9_shift_20 rfl (lv_at hl 1 rfl) ?_
    refine va_iald hx hb hK hP 2 0 rfl rfl (vp_in_iff.mpr ⟨by omega, by omega⟩) dX9_shift_21 ?_
    refine lv_topi (fun y_3 ey_3 => ?_)
    have uy_3 : y_3.toInt = (Ma (p1 : Int32).toNatClampNeg).toInt := by rw [ey_3]
    refine lv_iadd hx hb dX9_shift_22 ?_
    refine lv_topi (fun y_4 ey_4 => ?_)
    have ty_4 : y_4.toInt = y_2.toInt + y_3.toInt := by rw [ey_4]; have := fb_addI (x := y_2) (y := y_3) (by omega) (by omega); omega
    refine lv_icmp_ge (tgt := 147) hx hb dX9_shift_23 (by decide) (fun c_23 => ?_) (fun c_23 => ?_)
    · have t_23 := (fa_le _ _).mp c_23
      refine lv_iload hx hb dX9_shift_147 (lv_at hl 6 rfl) ?_
      have hP9 := hP.sub (ws' := [(h0, .inr (9, [.int th, .ref a1, .ref a2, .ref a3, .ref a4, .ref a5, .int ne, .int wi, .int dn, .ref a6, .ref a7, .int nn, .ref a8, .int la, .ref a9, .ref a10, .long up, .long lw, .int wh, .long pu, .long pw, .ref a11])), (a1, .inl (cI, 16, .inl Fi)), (a2, .inl (cI, 16, .inl Ma)), (a5, .inl (cI, 576, .inl S7))]) [0, 1, 2, 3] rfl
      have hD9 := hD.sub (ws' := [(h0, .inr (9, [.int th, .ref a1, .ref a2, .ref a3, .ref a4, .ref a5, .int ne, .int wi, .int dn, .ref a6, .ref a7, .int nn, .ref a8, .int la, .ref a9, .ref a10, .long up, .long lw, .int wh, .long pu, .long pw, .ref a11])), (a1, .inl (cI, 16, .inl Fi)), (a2, .inl (cI, 16, .inl Ma)), (a5, .inl (cI, 576, .inl S7))]) [0, 1, 2, 3] (by decide) rfl
      have hK9 := hK.sub (tys' := [(cI, .int)]) [0] rfl
      refine W.widen (k := 0) (n := 0) (by omega) (by omega) ?_
      exact W.zret (v := gd) hx hb hr (by rcases hg7 with h | h <;> rw [h.1] <;> rfl) (fun t ht hW => ⟨⟨_, (), rfl, (by rw [show ((Fi p1.toNatClampNeg).toInt + (Ma p1.toNatClampNeg).toInt - 1 - p2.toInt).toNat = (kk.toInt - 1 - p2.toInt).toNat by omega]; exact hg7.imp (fun h => ⟨by rw [h.1]; exact kl_1, h.2⟩) (fun h => ⟨by rw [h.1]; exact kl_0, h.2⟩)), S7, by rw [ht]; exact hP9, va_K.moved hW.alike hK9, hD9, (by rw [show ((Fi p1.toNatClampNeg).toInt + (Ma p1.toNatClampNeg).toInt - 1 - p2.toInt).toNat = (kk.toInt - 1 - p2.toInt).toNat by omega]; exact hS7)⟩, hS.F ht⟩) hS.2.2 dX9_shift_149
    · have t_23 := mt (fa_le _ _).mpr c_23
      refine lv_iload hx hb dX9_shift_26 (lv_at hl 7 rfl) ?_
      refine lv_iload_n hx hb dX9_shift_28 rfl (lv_at hl 2 rfl) ?_
      refine lv_isub hx hb dX9_shift_29 ?_
      refine lv_topi (fun y_5 ey_5 => ?_)
      have ty_5 : y_5.toInt = kk.toInt - p2.toInt := by rw [ey_5]; have := fb_subI (x := kk) (y := p2) (by omega) (by omega); omega
      refine lv_istore (lv' := [(8, .int y_5), (0, .ref h0), (1, .int p1), (2, .int p2), (3, .int p3), (4, .int p4), (5, .int p5), (6, .int gd), (7, .int kk)]) hx hb dX9_shift_30 hl (by decide) rfl (fun ls hl => ?_)
      refine lv_bipush (v := 36) hx hb dX9_shift_32 (by decide) ?_
      refine lv_iload_n hx hb dX9_shift_34 rfl (lv_at hl 2 rfl) ?_
      refine lv_imul hx hb dX9_shift_35 ?_
      refine lv_topi (fun y_6 ey_6 => ?_)
      have ty_6 : y_6.toInt = 36 * p1.toInt := by rw [ey_6]; exact fm_lI kl_36 (by omega) (by omega)
      refine lv_iconst (v := 3) hx hb dX9_shift_36 (by decide) ?_
      refine lv_iload hx hb dX9_shift_37 (lv_at hl 8 rfl) ?_
      refine lv_aload_n hx hb dX9_shift_39 rfl (lv_at hl 1 rfl) ?_
      refine va_get (D := (dC, dI)) (ci := 9) (v := .ref a1) (C := RX9) (T := TX9) (N := 22) hx hb hts in_X9_shift_X9 hown hK hP 0 rfl rfl 1 (by decide) (hts (.fieldLink RX9 7 "MeetingsAboveModel" "firsts" "[I") (by decide +kernel)) (fun _ h9 => h9) rfl dX9_shift_40 ?_
      refine lv_iload_n hx hb dX9_shift_43 rfl (lv_at hl 2 rfl) ?_
      refine va_iald hx hb hK hP 1 0 rfl rfl (vp_in_iff.mpr ⟨by omega, by omega⟩) dX9_shift_44 ?_
      refine lv_topi (fun y_7 ey_7 => ?_)
      have uy_7 : y_7.toInt = (Fi (p1 : Int32).toNatClampNeg).toInt := by rw [ey_7]
      refine lv_isub hx hb dX9_shift_45 ?_
      refine lv_topi (fun y_8 ey_8 => ?_)
      have ty_8 : y_8.toInt = kk.toInt - y_7.toInt := by rw [ey_8]; have := fb_subI (x := kk) (y := y_7) (by omega) (by omega); omega
      refine lv_imul hx hb dX9_shift_46 ?_
      refine lv_topi (fun y_9 ey_9 => ?_)
      have ty_9 : y_9.toInt = 3 * y_8.toInt := by rw [ey_9]; exact fm_lI kl_3 (by omega) (by omega)
      refine lv_iadd hx hb dX9_shift_47 ?_
      refine lv_topi (fun y_10 ey_10 => ?_)
      have ty_10 : y_10.toInt = y_6.toInt + y_9.toInt := by rw [ey_10]; have := fb_addI (x := y_6) (y := y_9) (by omega) (by omega); omega
      refine lv_istore (lv' := [(9, .int y_10), (8, .int y_5), (0, .ref h0), (1, .int p1), (2, .int p2), (3, .int p3), (4, .int p4), (5, .int p5), (6, .int gd), (7, .int kk)]) hx hb dX9_shift_48 hl (by decide) rfl (fun ls hl => ?_)
      refine lv_aload_n hx hb dX9_shift_50 rfl (lv_at hl 2 rfl) ?_
      refine va_get (D := (dC, dI)) (ci := 9) (v := .ref a5) (C := RX9) (T := TX9) (N := 22) hx hb hts in_X9_shift_X9 hown hK hP 0 rfl rfl 5 (by decide) (hts (.fieldLink RX9 23 "MeetingsAboveModel" "spots" "[I") (by decide +kernel)) (fun _ h9 => h9) rfl dX9_shift_51 ?_
      refine lv_iload hx hb dX9_shift_54 (lv_at hl 0 rfl) ?_
      refine lv_dup2_11 hx hb dX9_shift_56 rfl rfl ?_
      refine va_iald hx hb hK hP 3 0 rfl rfl (vp_in_iff.mpr ⟨by omega, by omega⟩) dX9_shift_57 ?_
      refine lv_topi (fun y_11 ey_11 => ?_)
      refine lv_iload hx hb dX9_shift_58 (lv_at hl 1 rfl) ?_
      refine lv_iload_n hx hb dX9_shift_60 rfl (lv_at hl 5 rfl) ?_
      refine lv_imul hx hb dX9_shift_61 ?_
      refine lv_topi (fun y_12 ey_12 => ?_)
      refine lv_iadd hx hb dX9_shift_62 ?_
      refine lv_topi (fun y_13 ey_13 => ?_)
      refine va_iast hx hb hK hP hD hS 3 0 rfl rfl (vp_in_iff.mpr ⟨by omega, by omega⟩) dX9_shift_63 (fun H locs hP hD hS => ?_)
      have hP : va_P (dC, dI) vwCl [(h0, .inr (9, [.int th, .ref a1, .ref a2, .ref a3, .ref a4, .ref a5, .int ne, .int wi, .int dn, .ref a6, .ref a7, .int nn, .ref a8, .int la, .ref a9, .ref a10, .long up, .long lw, .int wh, .long pu, .long pw, .ref a11])), (a1, .inl (cI, 16, .inl Fi)), (a2, .inl (cI, 16, .inl Ma)), (a5, .inl (cI, 576, .inl (upd S7 (y_10 : Int32).toNatClampNeg y_13)))] H := hP
      have hD : va_D A [(h0, .inr (9, [.int th, .ref a1, .ref a2, .ref a3, .ref a4, .ref a5, .int ne, .int wi, .int dn, .ref a6, .ref a7, .int nn, .ref a8, .int la, .ref a9, .ref a10, .long up, .long lw, .int wh, .long pu, .long pw, .ref a11])), (a1, .inl (cI, 16, .inl Fi)), (a2, .inl (cI, 16, .inl Ma)), (a5, .inl (cI, 576, .inl (upd S7 (y_10 : Int32).toNatClampNeg y_13)))] := hD
      refine lv_aload_n hx hb dX9_shift_64 rfl (lv_at hl 2 rfl) ?_
      refine va_get (D := (dC, dI)) (ci := 9) (v := .ref a5) (C := RX9) (T := TX9) (N := 22) hx hb hts in_X9_shift_X9 hown hK hP 0 rfl rfl 5 (by decide) (hts (.fieldLink RX9 23 "MeetingsAboveModel" "spots" "[I") (by decide +kernel)) (fun _ h9 => h9) rfl dX9_shift_65 ?_
      refine lv_iload hx hb dX9_shift_68 (lv_at hl 0 rfl) ?_
      refine lv_iconst (v := 1) hx hb dX9_shift_70 (by decide) ?_
      refine lv_iadd hx hb dX9_shift_71 ?_
      refine lv_topi (fun y_14 ey_14 => ?_)
      have ty_14 : y_14.toInt = y_10.toInt + 1 := by rw [ey_14]; have := fb_addI (x := y_10) (y := 1) (by omega) (by omega); omega
      refine lv_dup2_11 hx hb dX9_shift_72 rfl rfl ?_
      refine va_iald hx hb hK hP 3 0 rfl rfl (vp_in_iff.mpr ⟨by omega, by omega⟩) dX9_shift_73 ?_
      refine lv_topi (fun y_15 ey_15 => ?_)
      refine lv_iload hx hb dX9_shift_74 (lv_at hl 1 rfl) ?_
      refine lv_iload hx hb dX9_shift_76 (lv_at hl 6 rfl) ?_
      refine lv_imul hx hb dX9_shift_78 ?_
      refine lv_topi (fun y_16 ey_16 => ?_)
      refine lv_iadd hx hb dX9_shift_79 ?_
      refine lv_topi (fun y_17 ey_17 => ?_)
      refine va_iast hx hb hK hP hD hS 3 0 rfl rfl (vp_in_iff.mpr ⟨by omega, by omega⟩) dX9_shift_80 (fun H locs hP hD hS => ?_)
      have hP : va_P (dC, dI) vwCl [(h0, .inr (9, [.int th, .ref a1, .ref a2, .ref a3, .ref a4, .ref a5, .int ne, .int wi, .int dn, .ref a6, .ref a7, .int nn, .ref a8, .int la, .ref a9, .ref a10, .long up, .long lw, .int wh, .long pu, .long pw, .ref a11])), (a1, .inl (cI, 16, .inl Fi)), (a2, .inl (cI, 16, .inl Ma)), (a5, .inl (cI, 576, .inl (upd (upd S7 (y_10 : Int32).toNatClampNeg y_13) (y_14 : Int32).toNatClampNeg y_17)))] H := hP
      have hD : va_D A [(h0, .inr (9, [.int th, .ref a1, .ref a2, .ref a3, .ref a4, .ref a5, .int ne, .int wi, .int dn, .ref a6, .ref a7, .int nn, .ref a8, .int la, .ref a9, .ref a10, .long up, .long lw, .int wh, .long pu, .long pw, .ref a11])), (a1, .inl (cI, 16, .inl Fi)), (a2, .inl (cI, 16, .inl Ma)), (a5, .inl (cI, 576, .inl (upd (upd S7 (y_10 : Int32).toNatClampNeg y_13) (y_14 : Int32).toNatClampNeg y_17)))] := hD
      refine lv_aload_n hx hb dX9_shift_81 rfl (lv_at hl 2 rfl) ?_
      refine va_get (D := (dC, dI)) (ci := 9) (v := .ref a5) (C := RX9) (T := TX9) (N := 22) hx hb hts in_X9_shift_X9 hown hK hP 0 rfl rfl 5 (by decide) (hts (.fieldLink RX9 23 "MeetingsAboveModel" "spots" "[I") (by decide +kernel)) (fun _ h9 => h9) rfl dX9_shift_82 ?_
      refine lv_iload hx hb dX9_shift_85 (lv_at hl 0 rfl) ?_
      refine lv_iconst (v := 2) hx hb dX9_shift_87 (by decide) ?_
      refine lv_iadd hx hb dX9_shift_88 ?_
      refine lv_topi (fun y_18 ey_18 => ?_)
      have ty_18 : y_18.toInt = y_10.toInt + 2 := by rw [ey_18]; have := fb_addI (x := y_10) (y := 2) (by omega) (by omega); omega
      refine lv_dup2_11 hx hb dX9_shift_89 rfl rfl ?_
      refine va_iald hx hb hK hP 3 0 rfl rfl (vp_in_iff.mpr ⟨by omega, by omega⟩) dX9_shift_90 ?_
      refine lv_topi (fun y_19 ey_19 => ?_)
      refine lv_iload hx hb dX9_shift_91 (lv_at hl 1 rfl) ?_
      refine lv_iload hx hb dX9_shift_93 (lv_at hl 7 rfl) ?_
      refine lv_imul hx hb dX9_shift_95 ?_
      refine lv_topi (fun y_20 ey_20 => ?_)
      refine lv_iadd hx hb dX9_shift_96 ?_
      refine lv_topi (fun y_21 ey_21 => ?_)
      refine va_iast hx hb hK hP hD hS 3 0 rfl rfl (vp_in_iff.mpr ⟨by omega, by omega⟩) dX9_shift_97 (fun H locs hP hD hS => ?_)
      have hP : va_P (dC, dI) vwCl [(h0, .inr (9, [.int th, .ref a1, .ref a2, .ref a3, .ref a4, .ref a5, .int ne, .int wi, .int dn, .ref a6, .ref a7, .int nn, .ref a8, .int la, .ref a9, .ref a10, .long up, .long lw, .int wh, .long pu, .long pw, .ref a11])), (a1, .inl (cI, 16, .inl Fi)), (a2, .inl (cI, 16, .inl Ma)), (a5, .inl (cI, 576, .inl (upd (upd (upd S7 (y_10 : Int32).toNatClampNeg y_13) (y_14 : Int32).toNatClampNeg y_17) (y_18 : Int32).toNatClampNeg y_21)))] H := hP
      have hD : va_D A [(h0, .inr (9, [.int th, .ref a1, .ref a2, .ref a3, .ref a4, .ref a5, .int ne, .int wi, .int dn, .ref a6, .ref a7, .int nn, .ref a8, .int la, .ref a9, .ref a10, .long up, .long lw, .int wh, .long pu, .long pw, .ref a11])), (a1, .inl (cI, 16, .inl Fi)), (a2, .inl (cI, 16, .inl Ma)), (a5, .inl (cI, 576, .inl (upd (upd (upd S7 (y_10 : Int32).toNatClampNeg y_13) (y_14 : Int32).toNatClampNeg y_17) (y_18 : Int32).toNatClampNeg y_21)))] := hD
      obtain ⟨n, hn⟩ : ∃ n : Nat, (kk.toInt - 1 - p2.toInt).toNat = n := ⟨_, rfl⟩
      obtain ⟨q, hq⟩ : ∃ q : Nat, (36 * p1.toInt + 3 * (p2.toInt + 1 - (Fi p1.toNatClampNeg).toInt)).toNat = q := ⟨_, rfl⟩
      rw [hn, hq] at hS7 hg7
      have hS8 := shk_step hS7 (mv3_eq (i := q + 3 * n) (by omega) (by omega) (by omega) (by omega) ey_11 ey_12 ey_13 ey_15 ey_16 ey_17 ey_19 ey_20 ey_21) (by omega) (nI_of_toInt (by omega))
      refine lv_iload hx hb dX9_shift_98 (lv_at hl 8 rfl) ?_
      refine lv_if_eq (tgt := 138) hx hb dX9_shift_100 (by decide) (fun c_100 => ?_) (fun c_100 => ?_)
      · have t_100 := (fa_eq _ _).mp c_100
        refine lv_iconst (v := 0) hx hb dX9_shift_138 (by decide) ?_
        refine lv_istore (lv' := [(6, .int 0), (9, .int y_10), (8, .int y_5), (0, .ref h0), (1, .int p1), (2, .int p2), (3, .int p3), (4, .int p4), (5, .int p5), (7, .int kk)]) hx hb dX9_shift_139 hl (by decide) rfl (fun ls hl => ?_)
        obtain ⟨y_22, ey_22⟩ : ∃ y : Int32, y = kk + 1 := ⟨_, rfl⟩
        have ty_22 : y_22.toInt = kk.toInt + 1 := by rw [ey_22]; have := fb_addI (x := kk) (y := 1) (by omega) (by omega); omega
        refine lv_iinc (v := y_22) (lv' := [(7, .int y_22), (6, .int 0), (9, .int y_10), (8, .int y_5), (0, .ref h0), (1, .int p1), (2, .int p2), (3, .int p3), (4, .int p4), (5, .int p5)]) hx hb dX9_shift_141 hl (k := 9) rfl (by rw [ey_22]; rfl) (by decide) rfl (fun ls hl => ?_)
        refine lv_goto (tgt := 8) hx hb dX9_shift_144 (by decide) ?_
        exact ih_8 0 y_22 (upd (upd (upd S7 (y_10 : Int32).toNatClampNeg y_13) (y_14 : Int32).toNatClampNeg y_17) (y_18 : Int32).toNatClampNeg y_21) (by omega) (by omega) (by rw [show (y_22.toInt - 1 - p2.toInt).toNat = n + 1 by omega, hq]; exact hS8) (by rw [show (y_22.toInt - 1 - p2.toInt).toNat = n + 1 by omega, hq]; first | exact gk_0 hg7 c_100 | exact gk_1 hg7 c_100 wzz_none wzz_none wzz_none q_128 | exact gk_2 wzz_none wzz_none wzz_none q_128) (by omega) H _ (hP.sub [0, 1, 2, 3] rfl) (hD.sub [0, 1, 2, 3] (by decide) rfl) hS ls (lv_sub hl [4, 5, 6, 7, 8, 9, 1, 0] rfl)
      · have t_100 := mt (fa_eq _ _).mpr c_100
        refine lv_aload_n hx hb dX9_shift_103 rfl (lv_at hl 2 rfl) ?_
        refine va_get (D := (dC, dI)) (ci := 9) (v := .ref a5) (C := RX9) (T := TX9) (N := 22) hx hb hts in_X9_shift_X9 hown hK hP 0 rfl rfl 5 (by decide) (hts (.fieldLink RX9 23 "MeetingsAboveModel" "spots" "[I") (by decide +kernel)) (fun _ h9 => h9) rfl dX9_shift_104 ?_
        refine lv_iload hx hb dX9_shift_107 (lv_at hl 0 rfl) ?_
        refine va_iald hx hb hK hP 3 0 rfl rfl (vp_in_iff.mpr ⟨by omega, by omega⟩) dX9_shift_109 ?_
        refine lv_topi (fun y_23 ey_23 => ?_)
        have wy_23 := vv_0 ey_23 hS8 (by omega)
        refine lv_aload_n hx hb dX9_shift_110 rfl (lv_at hl 2 rfl) ?_
        refine va_get (D := (dC, dI)) (ci := 9) (v := .ref a5) (C := RX9) (T := TX9) (N := 22) hx hb hts in_X9_shift_X9 hown hK hP 0 rfl rfl 5 (by decide) (hts (.fieldLink RX9 23 "MeetingsAboveModel" "spots" "[I") (by decide +kernel)) (fun _ h9 => h9) rfl dX9_shift_111 ?_
        refine lv_iload hx hb dX9_shift_114 (lv_at hl 0 rfl) ?_
        refine lv_iconst (v := 1) hx hb dX9_shift_116 (by decide) ?_
        refine lv_iadd hx hb dX9_shift_117 ?_
        refine lv_topi (fun y_24 ey_24 => ?_)
        have ty_24 : y_24.toInt = y_10.toInt + 1 := by rw [ey_24]; have := fb_addI (x := y_10) (y := 1) (by omega) (by omega); omega
        refine va_iald hx hb hK hP 3 0 rfl rfl (vp_in_iff.mpr ⟨by omega, by omega⟩) dX9_shift_118 ?_
        refine lv_topi (fun y_25 ey_25 => ?_)
        have wy_25 := vv_1 ey_25 hS8 (by omega)
        refine lv_aload_n hx hb dX9_shift_119 rfl (lv_at hl 2 rfl) ?_
        refine va_get (D := (dC, dI)) (ci := 9) (v := .ref a5) (C := RX9) (T := TX9) (N := 22) hx hb hts in_X9_shift_X9 hown hK hP 0 rfl rfl 5 (by decide) (hts (.fieldLink RX9 23 "MeetingsAboveModel" "spots" "[I") (by decide +kernel)) (fun _ h9 => h9) rfl dX9_shift_120 ?_
        refine lv_iload hx hb dX9_shift_123 (lv_at hl 0 rfl) ?_
        refine lv_iconst (v := 2) hx hb dX9_shift_125 (by decide) ?_
        refine lv_iadd hx hb dX9_shift_126 ?_
        refine lv_topi (fun y_26 ey_26 => ?_)
        have ty_26 : y_26.toInt = y_10.toInt + 2 := by rw [ey_26]; have := fb_addI (x := y_10) (y := 2) (by omega) (by omega); omega
        refine va_iald hx hb hK hP 3 0 rfl rfl (vp_in_iff.mpr ⟨by omega, by omega⟩) dX9_shift_127 ?_
        refine lv_topi (fun y_27 ey_27 => ?_)
        have wy_27 := vv_2 ey_27 hS8 (by omega)
        refine vp_callSi (W.runS (As := [.int y_23, .int y_25, .int y_27]) (rest := []) ⟨hx, hb, hml, hown, hts⟩ (c_X9_isPlace l dC dI y_23 y_25 y_27) (va_cwS 3 hts g_X9_shift__X9_isPlace_64 rfl rfl rfl (by decide +kernel) ⟨Nat.le_of_ble_eq_true rfl, Nat.le_of_ble_eq_true rfl⟩) ⟨fun a U g mk q => by obtain ⟨q0, q1⟩ := q; exact ⟨q0, q1⟩, fun U hU hW => ⟨rfl, trivial⟩⟩ rfl rfl hl.1 rfl (lv_room (Nat.le_of_ble_eq_true rfl)) dX9_shift_128 ⟨Nat.le_of_ble_eq_true rfl, Nat.le_of_ble_eq_true rfl⟩) (fun r_28 hr_28 => ?_)
        try dsimp only at hr_28
        rcases bo_split hr_28 with ⟨rfl, q_128⟩ | ⟨rfl, q_128⟩
        · refine lv_if_eq (tgt := 138) hx hb dX9_shift_131 (by decide) (fun h9 => absurd h9 (by decide)) (fun _ => ?_)
          refine lv_iconst (v := 1) hx hb dX9_shift_134 (by decide) ?_
          refine lv_goto (tgt := 139) hx hb dX9_shift_135 (by decide) ?_
          refine lv_istore (lv' := [(6, .int 1), (9, .int y_10), (8, .int y_5), (0, .ref h0), (1, .int p1), (2, .int p2), (3, .int p3), (4, .int p4), (5, .int p5), (7, .int kk)]) hx hb dX9_shift_139 hl (by decide) rfl (fun ls hl => ?_)
          obtain ⟨y_29, ey_29⟩ : ∃ y : Int32, y = kk + 1 := ⟨_, rfl⟩
          have ty_29 : y_29.toInt = kk.toInt + 1 := by rw [ey_29]; have := fb_addI (x := kk) (y := 1) (by omega) (by omega); omega
          refine lv_iinc (v := y_29) (lv' := [(7, .int y_29), (6, .int 1), (9, .int y_10), (8, .int y_5), (0, .ref h0), (1, .int p1), (2, .int p2), (3, .int p3), (4, .int p4), (5, .int p5)]) hx hb dX9_shift_141 hl (k := 9) rfl (by rw [ey_29]; rfl) (by decide) rfl (fun ls hl => ?_)
          refine lv_goto (tgt := 8) hx hb dX9_shift_144 (by decide) ?_
          exact ih_8 1 y_29 (upd (upd (upd S7 (y_10 : Int32).toNatClampNeg y_13) (y_14 : Int32).toNatClampNeg y_17) (y_18 : Int32).toNatClampNeg y_21) (by omega) (by omega) (by rw [show (y_29.toInt - 1 - p2.toInt).toNat = n + 1 by omega, hq]; exact hS8) (by rw [show (y_29.toInt - 1 - p2.toInt).toNat = n + 1 by omega, hq]; first | exact gk_0 hg7 c_100 | exact gk_1 hg7 c_100 wy_23 wy_25 wy_27 q_128 | exact gk_2 wy_23 wy_25 wy_27 q_128) (by omega) H _ (hP.sub [0, 1, 2, 3] rfl) (hD.sub [0, 1, 2, 3] (by decide) rfl) hS ls (lv_sub hl [4, 5, 6, 7, 8, 9, 1, 0] rfl)
        · refine lv_if_eq (tgt := 138) hx hb dX9_shift_131 (by decide) (fun _ => ?_) (fun h9 => absurd h9 (by decide))
          refine lv_iconst (v := 0) hx hb dX9_shift_138 (by decide) ?_
          refine lv_istore (lv' := [(6, .int 0), (9, .int y_10), (8, .int y_5), (0, .ref h0), (1, .int p1), (2, .int p2), (3, .int p3), (4, .int p4), (5, .int p5), (7, .int kk)]) hx hb dX9_shift_139 hl (by decide) rfl (fun ls hl => ?_)
          obtain ⟨y_30, ey_30⟩ : ∃ y : Int32, y = kk + 1 := ⟨_, rfl⟩
          have ty_30 : y_30.toInt = kk.toInt + 1 := by rw [ey_30]; have := fb_addI (x := kk) (y := 1) (by omega) (by omega); omega
          refine lv_iinc (v := y_30) (lv' := [(7, .int y_30), (6, .int 0), (9, .int y_10), (8, .int y_5), (0, .ref h0), (1, .int p1), (2, .int p2), (3, .int p3), (4, .int p4), (5, .int p5)]) hx hb dX9_shift_141 hl (k := 9) rfl (by rw [ey_30]; rfl) (by decide) rfl (fun ls hl => ?_)
          refine lv_goto (tgt := 8) hx hb dX9_shift_144 (by decide) ?_
          exact ih_8 0 y_30 (upd (upd (upd S7 (y_10 : Int32).toNatClampNeg y_13) (y_14 : Int32).toNatClampNeg y_17) (y_18 : Int32).toNatClampNeg y_21) (by omega) (by omega) (by rw [show (y_30.toInt - 1 - p2.toInt).toNat = n + 1 by omega, hq]; exact hS8) (by rw [show (y_30.toInt - 1 - p2.toInt).toNat = n + 1 by omega, hq]; first | exact gk_0 hg7 c_100 | exact gk_1 hg7 c_100 wy_23 wy_25 wy_27 q_128 | exact gk_2 wy_23 wy_25 wy_27 q_128) (by omega) H _ (hP.sub [0, 1, 2, 3] rfl) (hD.sub [0, 1, 2, 3] (by decide) rfl) hS ls (lv_sub hl [4, 5, 6, 7, 8, 9, 1, 0] rfl)
