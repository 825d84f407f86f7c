def wk_X9_findBurnE : List Cond := .code yX9_findBurn cX9_findBurn 12 none :: (([.fieldLink RX9 7 "MeetingsAboveModel" "firsts" "[I", .fieldLink RX9 13 "MeetingsAboveModel" "many" "[I", .fieldLink RX9 48 "MeetingsAboveModel" "burns" "[I"] : List Cond) ++ (wsX90 ++ ((va_wsS RX9 181 yX9_size wk_X9_sizeE) ++ ((wsV RX9 184 RX9 yX9_isBetter wk_X9_isBetterE) ++ ((wsV RX9 187 RX9 yX9_shift wk_X9_shift) ++ ((wsV RX9 102 RX9 yX9_meets wk_X9_meetsE) ++ ([])))))))
theorem in_X9_findBurnE_X9 : ∀ w ∈ wsX90, w ∈ wk_X9_findBurnE := fun _ h => List.mem_cons_of_mem _ (List.mem_append_right _ (List.mem_append_left _ h))
theorem gw_X9_findBurnE : AG wk_X9_findBurnE := AG_ca (AG_l (by decide +kernel)) (AG_app ag_X9 (AG_app (AG_S gw_X9_sizeE) (AG_app (AG_V gw_X9_isBetterE) (AG_app (AG_V gw_X9_shift) (AG_app (AG_V gw_X9_meetsE) (AG_nil))))))
theorem g_X9_findBurnE__X9_sizeE_181 : GoodIn wk_X9_findBurnE (va_wsS RX9 181 yX9_size wk_X9_sizeE) := goodIn_m (fun _ h => List.mem_cons_of_mem _ (List.mem_append_right _ (List.mem_append_right _ (List.mem_append_left _ h)))) (AG_S gw_X9_sizeE)
theorem g_X9_findBurnE__X9_isBetterE_184 : GoodIn wk_X9_findBurnE (wsV RX9 184 RX9 yX9_isBetter wk_X9_isBetterE) := goodIn_m (fun _ h => List.mem_cons_of_mem _ (List.mem_append_right _ (List.mem_append_right _ (List.mem_append_right _ (List.mem_append_left _ h))))) (AG_V gw_X9_isBetterE)
theorem g_X9_findBurnE__X9_shift_187 : GoodIn wk_X9_findBurnE (wsV RX9 187 RX9 yX9_shift wk_X9_shift) := goodIn_m (fun _ h => List.mem_cons_of_mem _ (List.mem_append_right _ (List.mem_append_right _ (List.mem_append_right _ (List.mem_append_right _ (List.mem_append_left _ h)))))) (AG_V gw_X9_shift)
theorem g_X9_findBurnE__X9_meetsE_102 : GoodIn wk_X9_findBurnE (wsV RX9 102 RX9 yX9_meets wk_X9_meetsE) := goodIn_m (fun _ h => List.mem_cons_of_mem _ (List.mem_append_right _ (List.mem_append_right _ (List.mem_append_right _ (List.mem_append_right _ (List.mem_append_right _ (List.mem_append_left _ h))))))) (AG_V gw_X9_meetsE)
set_option maxHeartbeats 4000000 in
set_option maxRecDepth 100000 in
theorem c_X9_findBurnE (l : Launch) (dC : Nat → ClassId) (dI : Nat → Nat → Nat) (Db : Nat → Int32) (h0 : Nat) (a1 : Nat) (a2 : Nat) (a3 : Nat) (a4 : Nat) (a5 : Nat) (a6 : Nat) (a7 : Nat) (a8 : Nat) (a9 : Nat) (a10 : Nat) (a11 : Nat) (th : Int32) (ne : Int32) (wi : Int32) (dn : Int32) (nn : Int32) (la : Int32) (wh : Int32) (up : Int64) (lw : Int64) (pu : Int64) (pw : Int64) (cI : ClassId) (cZ : ClassId) (Fi : Nat → Int32) (Ma : Nat → Int32) (Go : Nat → Int32) (Sp : Nat → Int32) (Bu : Nat → Int32) (p1 : Int32) (p2 : Int32) (sz : Nat) (hM : mOK th Fi Ma) (hTk : ∀ k : Nat, (k : Int) < th.toInt → tvOK (mTV Fi Ma Db Go Sp k)) (hp10 : 0 ≤ p1.toInt) (hp11 : p1.toInt < th.toInt) (hs0 : (Fi p1.toNatClampNeg).toInt ≤ p2.toInt) (hs1 : p2.toInt < (Fi p1.toNatClampNeg).toInt + (Ma p1.toNatClampNeg).toInt) (hg0 : (Go p1.toNatClampNeg).toInt = 0) (hne0 : 0 ≤ ne.toInt) (hne1 : ne.toInt ≤ 3000) : Met l yX9_findBurn wk_X9_findBurnE ({ frames := 5, cells := 0, slots := 0, locals := 127 }) (va_Pc [.ref h0, .int p1, .int p2] (fun U => U.heap.size = sz ∧ va_P (dC, dI) vwCl [(h0, .inr (9, [.int th, .ref a1, .ref a2, .ref a3, .ref a4, .ref a5, .int ne, .int wi, .int dn, .ref a6, .ref a7, .int nn, .ref a8, .int la, .ref a9, .ref a10, .long up, .long lw, .int wh, .long pu, .long pw, .ref a11])), (a1, .inl (cI, 16, .inl Fi)), (a2, .inl (cI, 16, .inl Ma)), (a4, .inl (cZ, 16, .inl Go)), (a5, .inl (cI, 576, .inl Sp)), (a11, .inl (cI, 5, .inl Bu))] U.heap ∧ va_K (dC, dI) vwCl [(cI, .int), (cZ, .boolean)] U ∧ va_D (fun _ => True) [(h0, .inr (9, [.int th, .ref a1, .ref a2, .ref a3, .ref a4, .ref a5, .int ne, .int wi, .int dn, .ref a6, .ref a7, .int nn, .ref a8, .int la, .ref a9, .ref a10, .long up, .long lw, .int wh, .long pu, .long pw, .ref a11])), (a1, .inl (cI, 16, .inl Fi)), (a2, .inl (cI, 16, .inl Ma)), (a4, .inl (cZ, 16, .inl Go)), (a5, .inl (cI, 576, .inl Sp)), (a11, .inl (cI, 5, .inl Bu))])) (va_Qv (fun (_ : Unit) => True) (fun (_ : Unit) (t : State) => ∃ (up9 : Int64) (lw9 : Int64) (wh9 : Int32) (pu9 : Int64) (pw9 : Int64) (Bu9 : Nat → Int32), va_P (dC, dI) vwCl [(h0, .inr (9, [.int th, .ref a1, .ref a2, .ref a3, .ref a4, .ref a5, .int ne, .int wi, .int dn, .ref a6, .ref a7, .int nn, .ref a8, .int la, .ref a9, .ref a10, .long up9, .long lw9, .int wh9, .long pu9, .long pw9, .ref a11])), (a1, .inl (cI, 16, .inl Fi)), (a2, .inl (cI, 16, .inl Ma)), (a4, .inl (cZ, 16, .inl Go)), (a5, .inl (cI, 576, .inl Sp)), (a11, .inl (cI, 5, .inl Bu9))] t.heap ∧ va_K (dC, dI) vwCl [(cI, .int), (cZ, .boolean)] t ∧ va_D (va_A [(h0, .inr (9, [.int th, .ref a1, .ref a2, .ref a3, .ref a4, .ref a5, .int ne, .int wi, .int dn, .ref a6, .ref a7, .int nn, .ref a8, .int la, .ref a9, .ref a10, .long up, .long lw, .int wh, .long pu, .long pw, .ref a11])), (a1, .inl (cI, 16, .inl Fi)), (a2, .inl (cI, 16, .inl Ma)), (a4, .inl (cZ, 16, .inl Go)), (a5, .inl (cI, 576, .inl Sp)), (a11, .inl (cI, 5, .inl Bu))] sz) [(h0, .inr (9, [.int th, .ref a1, .ref a2, .ref a3, .ref a4, .ref a5, .int ne, .int wi, .int dn, .ref a6, .ref a7, .int nn, .ref a8, .int la, .ref a9, .ref a10, .long up9, .long lw9, .int wh9, .long pu9, .long pw9, .ref a11])), (a1, .inl (cI, 16, .inl Fi)), (a2, .inl (cI, 16, .inl Ma)), (a4, .inl (cZ, 16, .inl Go)), (a5, .inl (cI, 576, .inl Sp)), (a11, .inl (cI, 5, .inl Bu9))] ∧ bsP (frK (mTV Fi Ma Db Go Sp p1.toNatClampNeg) (mTV Fi Ma Db Go Sp) th.toInt.toNat p1.toInt ne.toInt) (dmK p2.toInt ((Fi p1.toNatClampNeg).toInt + (Ma p1.toNatClampNeg).toInt - 1)) (Bu9 0).toInt (Bu9 1).toInt (Bu9 2).toInt (Bu9 3).toInt (Bu9 4).toInt) (va_A [(h0, .inr (9, [.int th, .ref a1, .ref a2, .ref a3, .ref a4, .ref a5, .int ne, .int wi, .int dn, .ref a6, .ref a7, .int nn, .ref a8, .int la, .ref a9, .ref a10, .long up, .long lw, .int wh, .long pu, .long pw, .ref a11])), (a1, .inl (cI, 16, .inl Fi)), (a2, .inl (cI, 16, .inl Ma)), (a4, .inl (cZ, 16, .inl Go)), (a5, .inl (cI, 576, .inl Sp)), (a11, .inl (cI, 5, .inl Bu))] sz)) 0 0 (va_A [(h0, .inr (9, [.int th, .ref a1, .ref a2, .ref a3, .ref a4, .ref a5, .int ne, .int wi, .int dn, .ref a6, .ref a7, .int nn, .ref a8, .int la, .ref a9, .ref a10, .long up, .long lw, .int wh, .long pu, .long pw, .ref a11])), (a1, .inl (cI, 16, .inl Fi)), (a2, .inl (cI, 16, .inl Ma)), (a4, .inl (cZ, 16, .inl Go)), (a5, .inl (cI, 576, .inl Sp)), (a11, .inl (cI, 5, .inl Bu))] sz) := by
  refine Met.ofW (cc := cX9_findBurn) (maxL := 12) (ret := none) (by decide) rfl ?_
  intro p e s m args below meth c s₁ B hml hv
  obtain ⟨rfl, hsz, hP, hK, hD0⟩ := hv
  have hx := B.exec
  have hb := B.bytes
  have hr := B.returns
  have hts := atoms_spec (ws := wk_X9_findBurnE) B.pre
  have hown : s.vm.findClass RX9 = some m.cls := findClass_of_methodNamed B.named
  have hlocks := B.notSynchronized
  subst hsz
  have hD := hD0.self (sz := s.heap.size)
  generalize hAe : va_A [(h0, .inr (9, [.int th, .ref a1, .ref a2, .ref a3, .ref a4, .ref a5, .int ne, .int wi, .int dn, .ref a6, .ref a7, .int nn, .ref a8, .int la, .ref a9, .ref a10, .long up, .long lw, .int wh, .long pu, .long pw, .ref a11])), (a1, .inl (cI, 16, .inl Fi)), (a2, .inl (cI, 16, .inl Ma)), (a4, .inl (cZ, 16, .inl Go)), (a5, .inl (cI, 576, .inl Sp)), (a11, .inl (cI, 5, .inl Bu))] s.heap.size = A at hD ⊢
  have hA : ∀ q : Nat, s.heap.size ≤ q → A q := fun q h => by rw [← hAe]; exact Or.inr h
  have hS : va_S A s.heap s.heap [] := va_S.rf
  have hP : va_P (dC, dI) vwCl [(h0, .inr (9, [.int th, .ref a1, .ref a2, .ref a3, .ref a4, .ref a5, .int ne, .int wi, .int dn, .ref a6, .ref a7, .int nn, .ref a8, .int la, .ref a9, .ref a10, .long up, .long lw, .int wh, .long pu, .long pw, .ref a11])), (a1, .inl (cI, 16, .inl Fi)), (a2, .inl (cI, 16, .inl Ma)), (a4, .inl (cZ, 16, .inl Go)), (a5, .inl (cI, 576, .inl Sp)), (a11, .inl (cI, 5, .inl Bu))] s.heap := hP
  have hl := lv_entry ([.ref h0, .int p1, .int p2]) (n := 12) (Nat.le_of_ble_eq_true rfl)
  rw [lg_entry_eq]
  generalize (lg_sl ([.ref h0, .int p1, .int p2]) ++ List.replicate (12 - (lg_sl ([.ref h0, .int p1, .int p2])).length) Slot.unset).toArray = ls at hl ⊢
  have hl : lv_has ls 12 [(0, .ref h0), (1, .int p1), (2, .int p2)] := hl
  have kl_0 : (0 : Int32).toInt = 0 := by decide
  have kl_1 : (1 : Int32).toInt = 1 := by decide
  have kl_2 : (2 : Int32).toInt = 2 := by decide
  have kl_5 : (5 : Int32).toInt = 5 := by decide
  have kl_125 : (125 : Int32).toInt = 125 := by decide
  obtain ⟨hM0, hM1, hM2⟩ := id hM
  have np1 : ((p1.toNatClampNeg : Nat) : Int) = p1.toInt := tc_I (by omega)
  have bp1 := hM2 p1.toNatClampNeg (by omega)
  refine lv_iconst (v := 0) hx hb dX9_findBurn_0 (by decide) ?_
  refine lv_istore_n (lv' := [(3, .int 0), (0, .ref h0), (1, .int p1), (2, .int p2)]) hx hb dX9_findBurn_1 rfl hl (by decide) rfl (fun ls hl => ?_)
  refine (show ∀ (k : Nat) (k3 : Int32) (B7 : Nat → Int32) (hk0 : 0 ≤ k3.toInt) (hk1 : k3.toInt ≤ 5) (hB7 : (0 < k3.toInt → (B7 0).toInt = -1) ∧ (1 < k3.toInt → (B7 1).toInt = -1) ∧ (2 < k3.toInt → (B7 2).toInt = 0) ∧ (3 < k3.toInt → (B7 3).toInt = 0) ∧ (4 < k3.toInt → (B7 4).toInt = 0)) (hk_2 : (5 - k3.toInt).toNat < k) (H : Heap) (locs : List Loc) (hP : va_P (dC, dI) vwCl [(h0, .inr (9, [.int th, .ref a1, .ref a2, .ref a3, .ref a4, .ref a5, .int ne, .int wi, .int dn, .ref a6, .ref a7, .int nn, .ref a8, .int la, .ref a9, .ref a10, .long up, .long lw, .int wh, .long pu, .long pw, .ref a11])), (a1, .inl (cI, 16, .inl Fi)), (a2, .inl (cI, 16, .inl Ma)), (a4, .inl (cZ, 16, .inl Go)), (a5, .inl (cI, 576, .inl Sp)), (a11, .inl (cI, 5, .inl B7))] H) (hD : va_D A [(h0, .inr (9, [.int th, .ref a1, .ref a2, .ref a3, .ref a4, .ref a5, .int ne, .int wi, .int dn, .ref a6, .ref a7, .int nn, .ref a8, .int la, .ref a9, .ref a10, .long up, .long lw, .int wh, .long pu, .long pw, .ref a11])), (a1, .inl (cI, 16, .inl Fi)), (a2, .inl (cI, 16, .inl Ma)), (a4, .inl (cZ, 16, .inl Go)), (a5, .inl (cI, 576, .inl Sp)), (a11, .inl (cI, 5, .inl B7))]) (hS : va_S A s.heap H locs) (ls : Array Slot) (hl : lv_has ls 12 [(0, .ref h0), (1, .int p1), (2, .int p2), (3, .int k3)]), W p l e _ s m _ below meth c H locs 0 0 _ (F0 m 2 ls []) from ?_) _ 0 Bu (by omega) (by omega) (by refine ⟨fun h => ?_, fun h => ?_, fun h => ?_, fun h => ?_, fun h => ?_⟩ <;> (exfalso; omega)) (Nat.lt_succ_self _) _ _ hP hD hS ls (lv_sub hl [1, 2, 3, 0] rfl)
  intro k
  induction k with
  | zero => intro k3 B7 hk0 hk1 hB7 hk_2; exact absurd hk_2 (Nat.not_lt_zero _)
  | succ k ih_2 =>
    intro k3 B7 hk0 hk1 hB7 hk_2 H locs hP hD hS ls hl
    refine lv_iload_n hx hb dX9_findBurn_2 rfl (lv_at hl 3 rfl) ?_
    refine lv_iconst (v := 5) hx hb dX9_findBurn_3 (by decide) ?_
    refine lv_icmp_ge (tgt := 29) hx hb dX9_findBurn_4 (by decide) (fun c_4 => ?_) (fun c_4 => ?_)
    · have t_4 := (fa_le _ _).mp c_4
      refine lv_aload_n hx hb dX9_findBurn_29 rfl (lv_at hl 0 rfl) ?_
      refine va_get (D := (dC, dI)) (ci := 9) (v := .ref a1) (C := RX9) (T := TX9) (N := 22) hx hb hts in_X9_findBurnE_X9 hown hK hP 0 rfl rfl 1 (by decide) (hts (.fieldLink RX9 7 "MeetingsAboveModel" "firsts" "[I") (by decide +kernel)) (fun _ h9 => h9) rfl dX9_findBurn_30 ?_
      refine lv_iload_n hx hb dX9_findBurn_33 rfl (lv_at hl 1 rfl) ?_
      refine va_iald hx hb hK hP 1 0 rfl rfl (vp_in_iff.mpr ⟨by omega, by omega⟩) dX9_findBurn_34 ?_
      refine lv_topi (fun y_1 ey_1 => ?_)
      have uy_1 : y_1.toInt = (Fi (p1 : Int32).toNatClampNeg).toInt := by rw [ey_1]
      refine lv_aload_n hx hb dX9_findBurn_35 rfl (lv_at hl 0 rfl) ?_
      refine va_get (D := (dC, dI)) (ci := 9) (v := .ref a2) (C := RX9) (T := TX9) (N := 22) hx hb hts in_X9_findBurnE_X9 hown hK hP 0 rfl rfl 2 (by decide) (hts (.fieldLink RX9 13 "MeetingsAboveModel" "many" "[I") (by decide +kernel)) (fun _ h9 => h9) rfl dX9_findBurn_36 ?_
      refine lv_iload_n hx hb dX9_findBurn_39 rfl (lv_at hl 1 rfl) ?_
      refine va_iald hx hb hK hP 2 0 rfl rfl (vp_in_iff.mpr ⟨by omega, by omega⟩) dX9_findBurn_40 ?_
      refine lv_topi (fun y_2 ey_2 => ?_)
      have uy_2 : y_2.toInt = (Ma (p1 : Int32).toNatClampNeg).toInt := by rw [ey_2]
      refine lv_iadd hx hb dX9_findBurn_41 ?_
      refine lv_topi (fun y_3 ey_3 => ?_)
      have ty_3 : y_3.toInt = y_1.toInt + y_2.toInt := by rw [ey_3]; have := fb_addI (x := y_1) (y := y_2) (by omega) (by omega); omega
      refine lv_iconst (v := 1) hx hb dX9_findBurn_42 (by decide) ?_
      refine lv_isub hx hb dX9_findBurn_43 ?_
      refine lv_topi (fun y_4 ey_4 => ?_)
      have ty_4 : y_4.toInt = y_3.toInt - 1 := by rw [ey_4]; have := fb_subI (x := y_3) (y := 1) (by omega) (by omega); omega
      refine lv_istore_n (lv' := [(3, .int y_4), (0, .ref h0), (1, .int p1), (2, .int p2)]) hx hb dX9_findBurn_44 rfl hl (by decide) rfl (fun ls hl => ?_)
      have hst0 : bsP (frK (mTV Fi Ma Db Go Sp p1.toNatClampNeg) (mTV Fi Ma Db Go Sp) th.toInt.toNat p1.toInt ne.toInt) (vsK p2.toInt p2.toInt 0) (B7 0).toInt (B7 1).toInt (B7 2).toInt (B7 3).toInt (B7 4).toInt := by rw [hB7.1 (by omega), hB7.2.1 (by omega), hB7.2.2.1 (by omega), hB7.2.2.2.1 (by omega), hB7.2.2.2.2 (by omega)]; exact bs_start
      clear hB7 hk0 hk1
      refine lv_iload_n hx hb dX9_findBurn_45 rfl (lv_at hl 3 rfl) ?_
      refine lv_istore (lv' := [(4, .int p2), (3, .int y_4), (0, .ref h0), (1, .int p1), (2, .int p2)]) hx hb dX9_findBurn_46 hl (by decide) rfl (fun ls hl => ?_)
      refine (show ∀ (k : Nat) (st : Int32) (uq : Int64) (lq : Int64) (wq : Int32) (pq : Int64) (dq : Int64) (B8 : Nat → Int32) (ht0 : p2.toInt ≤ st.toInt) (ht1 : st.toInt ≤ y_4.toInt) (hb8 : bsP (frK (mTV Fi Ma Db Go Sp p1.toNatClampNeg) (mTV Fi Ma Db Go Sp) th.toInt.toNat p1.toInt ne.toInt) (vsK p2.toInt st.toInt 0) (B8 0).toInt (B8 1).toInt (B8 2).toInt (B8 3).toInt (B8 4).toInt) (hk_48 : (y_4.toInt - st.toInt).toNat < k) (H : Heap) (locs : List Loc) (hP : va_P (dC, dI) vwCl [(h0, .inr (9, [.int th, .ref a1, .ref a2, .ref a3, .ref a4, .ref a5, .int ne, .int wi, .int dn, .ref a6, .ref a7, .int nn, .ref a8, .int la, .ref a9, .ref a10, .long uq, .long lq, .int wq, .long pq, .long dq, .ref a11])), (a1, .inl (cI, 16, .inl Fi)), (a2, .inl (cI, 16, .inl Ma)), (a4, .inl (cZ, 16, .inl Go)), (a5, .inl (cI, 576, .inl Sp)), (a11, .inl (cI, 5, .inl B8))] H) (hD : va_D A [(h0, .inr (9, [.int th, .ref a1, .ref a2, .ref a3, .ref a4, .ref a5, .int ne, .int wi, .int dn, .ref a6, .ref a7, .int nn, .ref a8, .int la, .ref a9, .ref a10, .long uq, .long lq, .int wq, .long pq, .long dq, .ref a11])), (a1, .inl (cI, 16, .inl Fi)), (a2, .inl (cI, 16, .inl Ma)), (a4, .inl (cZ, 16, .inl Go)), (a5, .inl (cI, 576, .inl Sp)), (a11, .inl (cI, 5, .inl B8))]) (hS : va_S A s.heap H locs) (ls : Array Slot) (hl : lv_has ls 12 [(0, .ref h0), (1, .int p1), (2, .int p2), (3, .int y_4), (4, .int st)]), W p l e _ s m _ below meth c H locs 0 0 _ (F0 m 48 ls []) from ?_) _ p2 up lw wh pu pw B7 (by omega) (by omega) (by exact hst0) (Nat.lt_succ_self _) H _ hP hD hS ls (lv_sub hl [2, 3, 4, 1, 0] rfl)
      intro k
      induction k with
      | zero => intro st uq lq wq pq dq B8 ht0 ht1 hb8 hk_48; exact absurd hk_48 (Nat.not_lt_zero _)
      | succ k ih_48 =>
        intro st uq lq wq pq dq B8 ht0 ht1 hb8 hk_48 H locs hP hD hS ls hl
        refine lv_iload hx hb dX9_findBurn_48 (lv_at hl 4 rfl) ?_
        refine lv_iload_n hx hb dX9_findBurn_50 rfl (lv_at hl 3 rfl) ?_
        refine lv_icmp_ge (tgt := 232) hx hb dX9_findBurn_51 (by decide) (fun c_51 => ?_) (fun c_51 => ?_)
        · have t_51 := (fa_le _ _).mp c_51
          have hP9 := hP.sub (ws' := [(h0, .inr (9, [.int th, .ref a1, .ref a2, .ref a3, .ref a4, .ref a5, .int ne, .int wi, .int dn, .ref a6, .ref a7, .int nn, .ref a8, .int la, .ref a9, .ref a10, .long uq, .long lq, .int wq, .long pq, .long dq, .ref a11])), (a1, .inl (cI, 16, .inl Fi)), (a2, .inl (cI, 16, .inl Ma)), (a4, .inl (cZ, 16, .inl Go)), (a5, .inl (cI, 576, .inl Sp)), (a11, .inl (cI, 5, .inl B8))]) [0, 1, 2, 3, 4, 5] rfl
          have hD9 := hD.sub (ws' := [(h0, .inr (9, [.int th, .ref a1, .ref a2, .ref a3, .ref a4, .ref a5, .int ne, .int wi, .int dn, .ref a6, .ref a7, .int nn, .ref a8, .int la, .ref a9, .ref a10, .long uq, .long lq, .int wq, .long pq, .long dq, .ref a11])), (a1, .inl (cI, 16, .inl Fi)), (a2, .inl (cI, 16, .inl Ma)), (a4, .inl (cZ, 16, .inl Go)), (a5, .inl (cI, 576, .inl Sp)), (a11, .inl (cI, 5, .inl B8))]) [0, 1, 2, 3, 4, 5] (by decide) rfl
          have hK9 := hK.sub (tys' := [(cI, .int), (cZ, .boolean)]) [0, 1] rfl
          refine W.widen (k := 0) (n := 0) (by omega) (by omega) ?_
          exact W.vret hx hb hr (fun t ht hW => ⟨⟨(), rfl, trivial, uq, lq, wq, pq, dq, B8, by rw [ht]; exact hP9, va_K.moved hW.alike hK9, hD9, (bs_end (st := st.toInt) (by omega) hb8)⟩, hS.F ht⟩) hS.2.2 dX9_findBurn_232
        · have t_51 := mt (fa_le _ _).mpr c_51
          refine lv_iconst (v := 0) hx hb dX9_findBurn_54 (by decide) ?_
          refine lv_istore (lv' := [(5, .int 0), (0, .ref h0), (1, .int p1), (2, .int p2), (3, .int y_4), (4, .int st)]) hx hb dX9_findBurn_55 hl (by decide) rfl (fun ls hl => ?_)
          refine (show ∀ (k : Nat) (k5 : Int32) (uqx : Int64) (lqx : Int64) (wqx : Int32) (pqx : Int64) (dqx : Int64) (B9 : Nat → Int32) (hv0 : 0 ≤ k5.toInt) (hv1 : k5.toInt ≤ 125) (hb9 : bsP (frK (mTV Fi Ma Db Go Sp p1.toNatClampNeg) (mTV Fi Ma Db Go Sp) th.toInt.toNat p1.toInt ne.toInt) (vsK p2.toInt st.toInt k5.toInt.toNat) (B9 0).toInt (B9 1).toInt (B9 2).toInt (B9 3).toInt (B9 4).toInt) (hk_57 : (125 - k5.toInt).toNat < k) (H : Heap) (locs : List Loc) (hP : va_P (dC, dI) vwCl [(h0, .inr (9, [.int th, .ref a1, .ref a2, .ref a3, .ref a4, .ref a5, .int ne, .int wi, .int dn, .ref a6, .ref a7, .int nn, .ref a8, .int la, .ref a9, .ref a10, .long uqx, .long lqx, .int wqx, .long pqx, .long dqx, .ref a11])), (a1, .inl (cI, 16, .inl Fi)), (a2, .inl (cI, 16, .inl Ma)), (a4, .inl (cZ, 16, .inl Go)), (a5, .inl (cI, 576, .inl Sp)), (a11, .inl (cI, 5, .inl B9))] H) (hD : va_D A [(h0, .inr (9, [.int th, .ref a1, .ref a2, .ref a3, .ref a4, .ref a5, .int ne, .int wi, .int dn, .ref a6, .ref a7, .int nn, .ref a8, .int la, .ref a9, .ref a10, .long uqx, .long lqx, .int wqx, .long pqx, .long dqx, .ref a11])), (a1, .inl (cI, 16, .inl Fi)), (a2, .inl (cI, 16, .inl Ma)), (a4, .inl (cZ, 16, .inl Go)), (a5, .inl (cI, 576, .inl Sp)), (a11, .inl (cI, 5, .inl B9))]) (hS : va_S A s.heap H locs) (ls : Array Slot) (hl : lv_has ls 12 [(0, .ref h0), (1, .int p1), (2, .int p2), (3, .int y_4), (4, .int st), (5, .int k5)]), W p l e _ s m _ below meth c H locs 0 0 _ (F0 m 57 ls []) from ?_) _ 0 uq lq wq pq dq B8 (by omega) (by omega) (by rw [show (0 : Int32).toInt.toNat = 0 by omega]; exact hb8) (Nat.lt_succ_self _) H _ hP hD hS ls (lv_sub hl [1, 2, 3, 4, 5, 0] rfl)
          intro k
          induction k with
          | zero => intro k5 uqx lqx wqx pqx dqx B9 hv0 hv1 hb9 hk_57; exact absurd hk_57 (Nat.not_lt_zero _)
          | succ k ih_57 =>
            intro k5 uqx lqx wqx pqx dqx B9 hv0 hv1 hb9 hk_57 H locs hP hD hS ls hl
            refine lv_iload hx hb dX9_findBurn_57 (lv_at hl 5 rfl) ?_
            refine lv_bipush (v := 125) hx hb dX9_findBurn_59 (by decide) ?_
            refine lv_icmp_ge (tgt := 226) hx hb dX9_findBurn_61 (by decide) (fun c_61 => ?_) (fun c_61 => ?_)
            · have t_61 := (fa_le _ _).mp c_61
              obtain ⟨y_5, ey_5⟩ : ∃ y : Int32, y = st + 1 := ⟨_, rfl⟩
              have ty_5 : y_5.toInt = st.toInt + 1 := by rw [ey_5]; have := fb_addI (x := st) (y := 1) (by omega) (by omega); omega
              refine lv_iinc (v := y_5) (lv' := [(4, .int y_5), (0, .ref h0), (1, .int p1), (2, .int p2), (3, .int y_4), (5, .int k5)]) hx hb dX9_findBurn_226 hl (k := 4) rfl (by rw [ey_5]; rfl) (by decide) rfl (fun ls hl => ?_)
              refine lv_goto (tgt := 48) hx hb dX9_findBurn_229 (by decide) ?_
              exact ih_48 y_5 uqx lqx wqx pqx dqx B9 (by omega) (by omega) (by rw [show (y_5).toInt = st.toInt + 1 by omega]; exact bs_row (n := k5.toInt.toNat) (by omega) hb9) (by omega) H _ (hP.sub [0, 1, 2, 3, 4, 5] rfl) (hD.sub [0, 1, 2, 3, 4, 5] (by decide) rfl) hS ls (lv_sub hl [1, 2, 3, 4, 0] rfl)
            · have t_61 := mt (fa_le _ _).mpr c_61
              refine lv_iload hx hb dX9_findBurn_64 (lv_at hl 5 rfl) ?_
              refine lv_bipush (v := 25) hx hb dX9_findBurn_66 (by decide) ?_
              refine lv_idiv hx hb dX9_findBurn_68 (by decide) ?_
              refine lv_topi (fun y_6 ey_6 => ?_)
              have d_68 : (y_6).toInt = k5.toInt / 25 := by rw [ey_6]; exact (idiv_I (by omega) (by decide)).trans (by rw [show (25 : Int32).toInt = 25 by decide])
              refine lv_iconst (v := 2) hx hb dX9_findBurn_69 (by decide) ?_
              refine lv_isub hx hb dX9_findBurn_70 ?_
              refine lv_topi (fun y_7 ey_7 => ?_)
              have ty_7 : y_7.toInt = y_6.toInt - 2 := by rw [ey_7]; have := fb_subI (x := y_6) (y := 2) (by omega) (by omega); omega
              refine lv_istore (lv' := [(6, .int y_7), (0, .ref h0), (1, .int p1), (2, .int p2), (3, .int y_4), (4, .int st), (5, .int k5)]) hx hb dX9_findBurn_71 hl (by decide) rfl (fun ls hl => ?_)
              refine lv_iload hx hb dX9_findBurn_73 (lv_at hl 6 rfl) ?_
              refine lv_iconst (v := 5) hx hb dX9_findBurn_75 (by decide) ?_
              refine lv_idiv hx hb dX9_findBurn_76 (by decide) ?_
              refine lv_topi (fun y_8 ey_8 => ?_)
              have d_76 : (y_8).toInt = k5.toInt / 5 := by rw [ey_8]; exact (idiv_I (by omega) (by decide)).trans (by rw [show (5 : Int32).toInt = 5 by decide])
              refine lv_iconst (v := 5) hx hb dX9_findBurn_77 (by decide) ?_
              refine lv_irem hx hb dX9_findBurn_78 (by decide) ?_
              refine lv_topi (fun y_9 ey_9 => ?_)
              have d_78 : (y_9).toInt = (y_8).toInt % 5 := by rw [ey_9]; exact (irem_I (by omega) (by decide)).trans (by rw [show (5 : Int32).toInt = 5 by decide])
              refine lv_iconst (v := 2) hx hb dX9_findBurn_79 (by decide) ?_
              refine lv_isub hx hb dX9_findBurn_80 ?_
              refine lv_topi (fun y_10 ey_10 => ?_)
              have ty_10 : y_10.toInt = y_9.toInt - 2 := by rw [ey_10]; have := fb_subI (x := y_9) (y := 2) (by omega) (by omega); omega
              refine lv_istore (lv' := [(7, .int y_10), (6, .int y_7), (0, .ref h0), (1, .int p1), (2, .int p2), (3, .int y_4), (4, .int st), (5, .int k5)]) hx hb dX9_findBurn_81 hl (by decide) rfl (fun ls hl => ?_)
              refine lv_iload hx hb dX9_findBurn_83 (lv_at hl 7 rfl) ?_
              refine lv_iconst (v := 5) hx hb dX9_findBurn_85 (by decide) ?_
              refine lv_irem hx hb dX9_findBurn_86 (by decide) ?_
              refine lv_topi (fun y_11 ey_11 => ?_)
              have d_86 : (y_11).toInt = k5.toInt % 5 := by rw [ey_11]; exact (irem_I (by omega) (by decide)).trans (by rw [show (5 : Int32).toInt = 5 by decide])
              refine lv_iconst (v := 2) hx hb dX9_findBurn_87 (by decide) ?_
              refine lv_isub hx hb dX9_findBurn_88 ?_
              refine lv_topi (fun y_12 ey_12 => ?_)
              have ty_12 : y_12.toInt = y_11.toInt - 2 := by rw [ey_12]; have := fb_subI (x := y_11) (y := 2) (by omega) (by omega); omega
              refine lv_istore (lv' := [(8, .int y_12), (7, .int y_10), (6, .int y_7), (0, .ref h0), (1, .int p1), (2, .int p2), (3, .int y_4), (4, .int st), (5, .int k5)]) hx hb dX9_findBurn_89 hl (by decide) rfl (fun ls hl => ?_)
              have ea : (y_7).toInt = nA k5.toInt.toNat := by show _ = ((k5.toInt.toNat / 25 : Nat) : Int) - 2; omega
              have eb : (y_10).toInt = nB k5.toInt.toNat := by show _ = ((k5.toInt.toNat / 5 % 5 : Nat) : Int) - 2; omega
              have ec : (y_12).toInt = nC k5.toInt.toNat := by show _ = ((k5.toInt.toNat % 5 : Nat) : Int) - 2; omega
              refine lv_iload hx hb dX9_findBurn_91 (lv_at hl 2 rfl) ?_
              refine vp_callSi (W.runS (As := [.int y_7]) (rest := []) ⟨hx, hb, hml, hown, hts⟩ (c_X9_sizeE l dC dI y_7 (by first | omega | assumption)) (va_cwS 1 hts g_X9_findBurnE__X9_sizeE_181 rfl rfl rfl (by decide +kernel) ⟨Nat.le_of_ble_eq_true rfl, Nat.le_of_ble_eq_true rfl⟩) ⟨fun a U g mk q => by obtain ⟨q0, q1⟩ := q; exact ⟨q0, q1⟩, fun U hU hW => ⟨rfl, trivial⟩⟩ rfl rfl hl.1 rfl (lv_room (Nat.le_of_ble_eq_true rfl)) dX9_findBurn_93 ⟨Nat.le_of_ble_eq_true rfl, Nat.le_of_ble_eq_true rfl⟩) (fun r_13 hr_13 => ?_)
              try dsimp only at hr_13
              refine lv_iload hx hb dX9_findBurn_96 (lv_at hl 1 rfl) ?_
              refine vp_callSi (W.runS (As := [.int y_10]) (rest := [.int r_13]) ⟨hx, hb, hml, hown, hts⟩ (c_X9_sizeE l dC dI y_10 (by first | omega | assumption)) (va_cwS 1 hts g_X9_findBurnE__X9_sizeE_181 rfl rfl rfl (by decide +kernel) ⟨Nat.le_of_ble_eq_true rfl, Nat.le_of_ble_eq_true rfl⟩) ⟨fun a U g mk q => by obtain ⟨q0, q1⟩ := q; exact ⟨q0, q1⟩, fun U hU hW => ⟨rfl, trivial⟩⟩ rfl rfl hl.1 rfl (lv_room (Nat.le_of_ble_eq_true rfl)) dX9_findBurn_98 ⟨Nat.le_of_ble_eq_true rfl, Nat.le_of_ble_eq_true rfl⟩) (fun r_14 hr_14 => ?_)
              try dsimp only at hr_14
              refine lv_iadd hx hb dX9_findBurn_101 ?_
              refine lv_topi (fun y_15 ey_15 => ?_)
              have ty_15 : y_15.toInt = r_13.toInt + r_14.toInt := by rw [ey_15]; have := fb_addI (x := r_13) (y := r_14) (by omega) (by omega); omega
              refine lv_iload hx hb dX9_findBurn_102 (lv_at hl 0 rfl) ?_
              refine vp_callSi (W.runS (As := [.int y_12]) (rest := [.int y_15]) ⟨hx, hb, hml, hown, hts⟩ (c_X9_sizeE l dC dI y_12 (by first | omega | assumption)) (va_cwS 1 hts g_X9_findBurnE__X9_sizeE_181 rfl rfl rfl (by decide +kernel) ⟨Nat.le_of_ble_eq_true rfl, Nat.le_of_ble_eq_true rfl⟩) ⟨fun a U g mk q => by obtain ⟨q0, q1⟩ := q; exact ⟨q0, q1⟩, fun U hU hW => ⟨rfl, trivial⟩⟩ rfl rfl hl.1 rfl (lv_room (Nat.le_of_ble_eq_true rfl)) dX9_findBurn_104 ⟨Nat.le_of_ble_eq_true rfl, Nat.le_of_ble_eq_true rfl⟩) (fun r_16 hr_16 => ?_)
              try dsimp only at hr_16
              refine lv_iadd hx hb dX9_findBurn_107 ?_
              refine lv_topi (fun y_17 ey_17 => ?_)
              have ty_17 : y_17.toInt = y_15.toInt + r_16.toInt := by rw [ey_17]; have := fb_addI (x := y_15) (y := r_16) (by omega) (by omega); omega
              refine lv_istore (lv' := [(9, .int y_17), (8, .int y_12), (7, .int y_10), (6, .int y_7), (0, .ref h0), (1, .int p1), (2, .int p2), (3, .int y_4), (4, .int st), (5, .int k5)]) hx hb dX9_findBurn_108 hl (by decide) rfl (fun ls hl => ?_)
              have ef : (y_17).toInt = nF k5.toInt.toNat := by show _ = ((nA k5.toInt.toNat).natAbs : Int) + ((nB k5.toInt.toNat).natAbs : Int) + ((nC k5.toInt.toNat).natAbs : Int); rw [← ea, ← eb, ← ec]; omega
              have q_70 : -2 ≤ (y_7).toInt ∧ (y_7).toInt ≤ 2 := (by omega)
              have q_80 : -2 ≤ (y_10).toInt ∧ (y_10).toInt ≤ 2 := (by omega)
              have q_88 : -2 ≤ (y_12).toInt ∧ (y_12).toInt ≤ 2 := (by omega)
              clear d_68 d_76 d_78 d_86 ty_7 ty_10 ty_12 hr_13 hr_14 hr_16 ty_15 ty_17
              refine lv_iload hx hb dX9_findBurn_110 (lv_at hl 0 rfl) ?_
              refine lv_if_le (tgt := 220) hx hb dX9_findBurn_112 (by decide) (fun c_112 => ?_) (fun c_112 => ?_)
              · have t_112 := (fa_le _ _).mp c_112
                have hN9 : bsP (frK (mTV Fi Ma Db Go Sp p1.toNatClampNeg) (mTV Fi Ma Db Go Sp) th.toInt.toNat p1.toInt ne.toInt) (vsK p2.toInt st.toInt (k5.toInt.toNat + 1)) (B9 0).toInt (B9 1).toInt (B9 2).toInt (B9 3).toInt (B9 4).toInt := by first | exact bs_no hb9 (Or.inl (by omega)) | exact bs_no hb9 (Or.inr (Or.inr (by have y9 := tv_0 hzz_none c_123; rw [ef] at y9; exact y9)))
                obtain ⟨y_18, ey_18⟩ : ∃ y : Int32, y = k5 + 1 := ⟨_, rfl⟩
                have ty_18 : y_18.toInt = k5.toInt + 1 := by rw [ey_18]; have := fb_addI (x := k5) (y := 1) (by omega) (by omega); omega
                refine lv_iinc (v := y_18) (lv' := [(5, .int y_18), (9, .int y_17), (8, .int y_12), (7, .int y_10), (6, .int y_7), (0, .ref h0), (1, .int p1), (2, .int p2), (3, .int y_4), (4, .int st)]) hx hb dX9_findBurn_220 hl (k := 9) rfl (by rw [ey_18]; rfl) (by decide) rfl (fun ls hl => ?_)
                refine lv_goto (tgt := 57) hx hb dX9_findBurn_223 (by decide) ?_
                exact ih_57 y_18 uqx lqx wqx pqx dqx B9 (by omega) (by omega) (by rw [show (y_18).toInt.toNat = k5.toInt.toNat + 1 by omega]; exact hN9) (by omega) H _ (hP.sub [0, 1, 2, 3, 4, 5] rfl) (hD.sub [0, 1, 2, 3, 4, 5] (by decide) rfl) hS ls (lv_sub hl [5, 6, 7, 8, 9, 0] rfl)
              · have t_112 := mt (fa_le _ _).mpr c_112
                refine lv_aload_n hx hb dX9_findBurn_115 rfl (lv_at hl 4 rfl) ?_
                refine lv_iload hx hb dX9_findBurn_116 (lv_at hl 0 rfl) ?_
                refine lv_iload hx hb dX9_findBurn_118 (lv_at hl 8 rfl) ?_
                have hPc := hP.sub (ws' := [(h0, .inr (9, [.int th, .ref a1, .ref a2, .ref a3, .ref a4, .ref a5, .int ne, .int wi, .int dn, .ref a6, .ref a7, .int nn, .ref a8, .int la, .ref a9, .ref a10, .long uqx, .long lqx, .int wqx, .long pqx, .long dqx, .ref a11])), (a11, .inl (cI, 5, .inl B9))]) [0, 5] rfl
                have hKc := hK.sub (tys' := [(cI, .int)]) [0] rfl
                refine vp_callSi (W.runV (As := [.int y_17, .int st]) (rest := []) ⟨hx, hb, hml, hown, hts⟩ (c_X9_isBetterE l dC dI h0 a1 a2 a3 a4 a5 a6 a7 a8 a9 a10 a11 th ne wi dn nn la wqx uqx lqx pqx dqx cI B9 y_17 st) (cwV 2 hts g_X9_findBurnE__X9_isBetterE_184 rfl rfl rfl (by decide +kernel) ⟨Nat.le_of_ble_eq_true rfl, Nat.le_of_ble_eq_true rfl⟩) ⟨fun a U g mk q => by obtain ⟨q0, qP, qK⟩ := q; exact ⟨q0, qP, va_K.moved (u := U) (U := U.calling g mk a) (Vm.Alike.refl U.vm) qK⟩, va_recv hKc hPc (ci := 9) (q0 := 0) rfl rfl, fun U hU hW => ⟨rfl, by rw [hU]; exact hPc, va_K.moved hW.alike hKc⟩⟩ rfl rfl hl.1 rfl (lv_room (Nat.le_of_ble_eq_true rfl)) dX9_findBurn_120 ⟨Nat.le_of_ble_eq_true rfl, Nat.le_of_ble_eq_true rfl⟩) (fun r_19 hr_19 => ?_)
                try dsimp only at hr_19
                refine lv_if_eq (tgt := 220) hx hb dX9_findBurn_123 (by decide) (fun c_123 => ?_) (fun c_123 => ?_)
                · have t_123 := (fa_eq _ _).mp c_123
                  have hN9 : bsP (frK (mTV Fi Ma Db Go Sp p1.toNatClampNeg) (mTV Fi Ma Db Go Sp) th.toInt.toNat p1.toInt ne.toInt) (vsK p2.toInt st.toInt (k5.toInt.toNat + 1)) (B9 0).toInt (B9 1).toInt (B9 2).toInt (B9 3).toInt (B9 4).toInt := by first | exact bs_no hb9 (Or.inl (by omega)) | exact bs_no hb9 (Or.inr (Or.inr (by have y9 := tv_0 hr_19 c_123; rw [ef] at y9; exact y9)))
                  obtain ⟨y_20, ey_20⟩ : ∃ y : Int32, y = k5 + 1 := ⟨_, rfl⟩
                  have ty_20 : y_20.toInt = k5.toInt + 1 := by rw [ey_20]; have := fb_addI (x := k5) (y := 1) (by omega) (by omega); omega
                  refine lv_iinc (v := y_20) (lv' := [(5, .int y_20), (9, .int y_17), (8, .int y_12), (7, .int y_10), (6, .int y_7), (0, .ref h0), (1, .int p1), (2, .int p2), (3, .int y_4), (4, .int st)]) hx hb dX9_findBurn_220 hl (k := 9) rfl (by rw [ey_20]; rfl) (by decide) rfl (fun ls hl => ?_)
                  refine lv_goto (tgt := 57) hx hb dX9_findBurn_223 (by decide) ?_
                  exact ih_57 y_20 uqx lqx wqx pqx dqx B9 (by omega) (by omega) (by rw [show (y_20).toInt.toNat = k5.toInt.toNat + 1 by omega]; exact hN9) (by omega) H _ (hP.sub [0, 1, 2, 3, 4, 5] rfl) (hD.sub [0, 1, 2, 3, 4, 5] (by decide) rfl) hS ls (lv_sub hl [5, 6, 7, 8, 9, 0] rfl)
                · have t_123 := mt (fa_eq _ _).mpr c_123
                  have hFM := fm_all (th := th) (Fi := Fi) (Ma := Ma) (Db := Db) (Go := Go) (Sp := Sp) (ne := ne.toInt) (s := st.toInt) (p := p1.toInt) (i := p1.toNatClampNeg) (k := k5.toInt.toNat) (Q := (36 * p1.toInt + 3 * (st.toInt + 1 - (Fi p1.toNatClampNeg).toInt)).toNat) (N := ((Fi p1.toNatClampNeg).toInt + (Ma p1.toNatClampNeg).toInt - 1 - st.toInt).toNat) (st := st) (a := y_7) (b := y_10) (c := y_12) hTk (by omega) (by omega) hg0 (by omega) (by omega) rfl ea eb ec (by unfold dfQ; show _ = 36 * p1.toNatClampNeg + (3 * (st.toInt + 1 - (Fi p1.toNatClampNeg).toInt)).toNat; omega) (by unfold dfN; show _ = ((Fi p1.toNatClampNeg).toInt + (Ma p1.toNatClampNeg).toInt - 1 - st.toInt).toNat; omega)
                  refine lv_aload_n hx hb dX9_findBurn_126 rfl (lv_at hl 4 rfl) ?_
                  refine lv_iload_n hx hb dX9_findBurn_127 rfl (lv_at hl 5 rfl) ?_
                  refine lv_iload hx hb dX9_findBurn_128 (lv_at hl 8 rfl) ?_
                  refine lv_iload hx hb dX9_findBurn_130 (lv_at hl 3 rfl) ?_
                  refine lv_iload hx hb dX9_findBurn_132 (lv_at hl 2 rfl) ?_
                  refine lv_iload hx hb dX9_findBurn_134 (lv_at hl 1 rfl) ?_
                  have hPc := hP.sub (ws' := [(h0, .inr (9, [.int th, .ref a1, .ref a2, .ref a3, .ref a4, .ref a5, .int ne, .int wi, .int dn, .ref a6, .ref a7, .int nn, .ref a8, .int la, .ref a9, .ref a10, .long uqx, .long lqx, .int wqx, .long pqx, .long dqx, .ref a11])), (a1, .inl (cI, 16, .inl Fi)), (a2, .inl (cI, 16, .inl Ma)), (a5, .inl (cI, 576, .inl Sp))]) [0, 1, 2, 4] rfl
                  have hKc := hK.sub (tys' := [(cI, .int)]) [0] rfl
                  have hDc := hD.sub (ws' := [(h0, .inr (9, [.int th, .ref a1, .ref a2, .ref a3, .ref a4, .ref a5, .int ne, .int wi, .int dn, .ref a6, .ref a7, .int nn, .ref a8, .int la, .ref a9, .ref a10, .long uqx, .long lqx, .int wqx, .long pqx, .long dqx, .ref a11])), (a1, .inl (cI, 16, .inl Fi)), (a2, .inl (cI, 16, .inl Ma)), (a5, .inl (cI, 576, .inl Sp))]) [0, 1, 2, 4] (by decide) rfl
                  have hFc := va_free (wc := [(h0, .inr (9, [.int th, .ref a1, .ref a2, .ref a3, .ref a4, .ref a5, .int ne, .int wi, .int dn, .ref a6, .ref a7, .int nn, .ref a8, .int la, .ref a9, .ref a10, .long uqx, .long lqx, .int wqx, .long pqx, .long dqx, .ref a11])), (a1, .inl (cI, 16, .inl Fi)), (a2, .inl (cI, 16, .inl Ma)), (a5, .inl (cI, 576, .inl Sp))]) hD hS hA [0, 1, 2, 4] rfl
                  refine va_calli (va_runV (As := [.int p1, .int st, .int y_7, .int y_10, .int y_12]) (rest := []) ⟨hx, hb, hml, hown, hts⟩ (c_X9_shift l dC dI h0 a1 a2 a3 a4 a5 a6 a7 a8 a9 a10 a11 th ne wi dn nn la wqx uqx lqx pqx dqx cI Fi Ma Sp p1 st y_7 y_10 y_12 H.size (by first | assumption | omega) (by first | omega | assumption) (by first | omega | assumption) (by first | omega | assumption) (by first | omega | assumption)) (cwV 5 hts g_X9_findBurnE__X9_shift_187 rfl rfl rfl (by decide +kernel) ⟨Nat.le_of_ble_eq_true rfl, Nat.le_of_ble_eq_true rfl⟩) ⟨fun a U g mk q => by obtain ⟨q0, q1, qP, qK, qD⟩ := q; exact ⟨q0, q1, qP, va_K.moved (u := U) (U := U.calling g mk a) (Vm.Alike.refl U.vm) qK, qD⟩, va_recv hKc hPc (ci := 9) (q0 := 0) rfl rfl, fun U hU hW => ⟨rfl, by rw [hU], by rw [hU]; exact hPc, va_K.moved hW.alike hKc, hDc.weaken (fun _ _ _ _ => trivial)⟩⟩ rfl rfl hl.1 rfl (lv_room (Nat.le_of_ble_eq_true rfl)) dX9_findBurn_136 ⟨Nat.le_of_ble_eq_true rfl, Nat.le_of_ble_eq_true rfl⟩) hS (fun q _ h => hFc q h) hFc (fun r_22 u_21 t H1 locs ht hvm hw_22 hB hz1 hk1 hS => ?_)
                  obtain ⟨Sp9_23, hP1, hK1, hD1, hS9_24⟩ := hB
                  rw [ht] at hP1
                  have hK1 := va_K.moved hvm.symm hK1
                  obtain ⟨hP, hD⟩ := va_join (wr := [(a4, .inl (cZ, 16, .inl Go)), (a11, .inl (cI, 5, .inl B9))]) (w1 := [(h0, .inr (9, [.int th, .ref a1, .ref a2, .ref a3, .ref a4, .ref a5, .int ne, .int wi, .int dn, .ref a6, .ref a7, .int nn, .ref a8, .int la, .ref a9, .ref a10, .long uqx, .long lqx, .int wqx, .long pqx, .long dqx, .ref a11])), (a1, .inl (cI, 16, .inl Fi)), (a2, .inl (cI, 16, .inl Ma)), (a5, .inl (cI, 576, .inl Sp9_23))]) hP hD [0, 1, 2, 4] [3, 5] rfl rfl (by decide) (by decide) hk1 hFc hP1 hD1
                  have hK := (hK.sub (tys' := [(cI, .int), (cZ, .boolean)]) [0, 1] rfl).app hK1
                  generalize H1 = H at hP hS ⊢
                  have hP : va_P (dC, dI) vwCl [(a4, .inl (cZ, 16, .inl Go)), (a11, .inl (cI, 5, .inl B9)), (h0, .inr (9, [.int th, .ref a1, .ref a2, .ref a3, .ref a4, .ref a5, .int ne, .int wi, .int dn, .ref a6, .ref a7, .int nn, .ref a8, .int la, .ref a9, .ref a10, .long uqx, .long lqx, .int wqx, .long pqx, .long dqx, .ref a11])), (a1, .inl (cI, 16, .inl Fi)), (a2, .inl (cI, 16, .inl Ma)), (a5, .inl (cI, 576, .inl Sp9_23))] H := hP
                  have hD : va_D A [(a4, .inl (cZ, 16, .inl Go)), (a11, .inl (cI, 5, .inl B9)), (h0, .inr (9, [.int th, .ref a1, .ref a2, .ref a3, .ref a4, .ref a5, .int ne, .int wi, .int dn, .ref a6, .ref a7, .int nn, .ref a8, .int la, .ref a9, .ref a10, .long uqx, .long lqx, .int wqx, .long pqx, .long dqx, .ref a11])), (a1, .inl (cI, 16, .inl Fi)), (a2, .inl (cI, 16, .inl Ma)), (a5, .inl (cI, 576, .inl Sp9_23))] := hD
                  have hK : va_K (dC, dI) vwCl [(cI, .int), (cZ, .boolean), (cI, .int)] s := hK
                  refine W.widen (k := 0) (n := 0) (by omega) (by omega) ?_
                  try dsimp only at hw_22
                  refine lv_if_eq (tgt := 154) hx hb dX9_findBurn_139 (by decide) (fun c_139 => ?_) (fun c_139 => ?_)
                  · have t_139 := (fa_eq _ _).mp c_139
                    have hnF : ¬ frK (mTV Fi Ma Db Go Sp p1.toNatClampNeg) (mTV Fi Ma Db Go Sp) th.toInt.toNat p1.toInt ne.toInt st.toInt k5.toInt.toNat := fun q9 => by have w9 := hFM.mp q9; first | (have e9 := hwz_none; rw [hS9_24] at e9; have w8 := w9.2; omega) | (rcases hw_22 with h | h; all_goals (first | exact h.2 w9.1 | (exfalso; omega)))
                    refine lv_iconst (v := 0) hx hb dX9_findBurn_154 (by decide) ?_
                    refine lv_istore (lv' := [(10, .int 0), (9, .int y_17), (8, .int y_12), (7, .int y_10), (6, .int y_7), (0, .ref h0), (1, .int p1), (2, .int p2), (3, .int y_4), (4, .int st), (5, .int k5)]) hx hb dX9_findBurn_155 hl (by decide) rfl (fun ls hl => ?_)
                    refine lv_aload_n hx hb dX9_findBurn_157 rfl (lv_at hl 5 rfl) ?_
                    refine lv_iload_n hx hb dX9_findBurn_158 rfl (lv_at hl 6 rfl) ?_
                    refine lv_iload hx hb dX9_findBurn_159 (lv_at hl 9 rfl) ?_
                    refine lv_iload hx hb dX9_findBurn_161 (lv_at hl 4 rfl) ?_
                    refine lv_ineg hx hb dX9_findBurn_163 ?_
                    refine lv_topi (fun y_25 ey_25 => ?_)
                    refine lv_iload hx hb dX9_findBurn_164 (lv_at hl 3 rfl) ?_
                    refine lv_ineg hx hb dX9_findBurn_166 ?_
                    refine lv_topi (fun y_26 ey_26 => ?_)
                    refine lv_iload hx hb dX9_findBurn_167 (lv_at hl 2 rfl) ?_
                    refine lv_ineg hx hb dX9_findBurn_169 ?_
                    refine lv_topi (fun y_27 ey_27 => ?_)
                    have hPc := hP.sub (ws' := [(h0, .inr (9, [.int th, .ref a1, .ref a2, .ref a3, .ref a4, .ref a5, .int ne, .int wi, .int dn, .ref a6, .ref a7, .int nn, .ref a8, .int la, .ref a9, .ref a10, .long uqx, .long lqx, .int wqx, .long pqx, .long dqx, .ref a11])), (a1, .inl (cI, 16, .inl Fi)), (a2, .inl (cI, 16, .inl Ma)), (a5, .inl (cI, 576, .inl Sp9_23))]) [2, 3, 4, 5] rfl
                    have hKc := hK.sub (tys' := [(cI, .int)]) [0] rfl
                    have hDc := hD.sub (ws' := [(h0, .inr (9, [.int th, .ref a1, .ref a2, .ref a3, .ref a4, .ref a5, .int ne, .int wi, .int dn, .ref a6, .ref a7, .int nn, .ref a8, .int la, .ref a9, .ref a10, .long uqx, .long lqx, .int wqx, .long pqx, .long dqx, .ref a11])), (a1, .inl (cI, 16, .inl Fi)), (a2, .inl (cI, 16, .inl Ma)), (a5, .inl (cI, 576, .inl Sp9_23))]) [2, 3, 4, 5] (by decide) rfl
                    have hFc := va_free (wc := [(h0, .inr (9, [.int th, .ref a1, .ref a2, .ref a3, .ref a4, .ref a5, .int ne, .int wi, .int dn, .ref a6, .ref a7, .int nn, .ref a8, .int la, .ref a9, .ref a10, .long uqx, .long lqx, .int wqx, .long pqx, .long dqx, .ref a11])), (a1, .inl (cI, 16, .inl Fi)), (a2, .inl (cI, 16, .inl Ma)), (a5, .inl (cI, 576, .inl Sp9_23))]) hD hS hA [2, 3, 4, 5] rfl
                    refine va_calli (va_runV (As := [.int p1, .int st, .int y_25, .int y_26, .int y_27]) (rest := []) ⟨hx, hb, hml, hown, hts⟩ (c_X9_shift l dC dI h0 a1 a2 a3 a4 a5 a6 a7 a8 a9 a10 a11 th ne wi dn nn la wqx uqx lqx pqx dqx cI Fi Ma Sp9_23 p1 st y_25 y_26 y_27 H.size (by first | assumption | omega) (by first | omega | assumption) (by first | omega | assumption) (by first | omega | assumption) (by first | omega | assumption)) (cwV 5 hts g_X9_findBurnE__X9_shift_187 rfl rfl rfl (by decide +kernel) ⟨Nat.le_of_ble_eq_true rfl, Nat.le_of_ble_eq_true rfl⟩) ⟨fun a U g mk q => by obtain ⟨q0, q1, qP, qK, qD⟩ := q; exact ⟨q0, q1, qP, va_K.moved (u := U) (U := U.calling g mk a) (Vm.Alike.refl U.vm) qK, qD⟩, va_recv hKc hPc (ci := 9) (q0 := 0) rfl rfl, fun U hU hW => ⟨rfl, by rw [hU], by rw [hU]; exact hPc, va_K.moved hW.alike hKc, hDc.weaken (fun _ _ _ _ => trivial)⟩⟩ rfl rfl hl.1 rfl (lv_room (Nat.le_of_ble_eq_true rfl)) dX9_findBurn_170 ⟨Nat.le_of_ble_eq_true rfl, Nat.le_of_ble_eq_true rfl⟩) hS (fun q _ h => hFc q h) hFc (fun r_29 u_28 t H1 locs ht hvm hw_29 hB hz1 hk1 hS => ?_)
                    obtain ⟨Sp9_30, hP1, hK1, hD1, hS9_31⟩ := hB
                    rw [ht] at hP1
                    have hK1 := va_K.moved hvm.symm hK1
                    obtain ⟨hP, hD⟩ := va_join (wr := [(a4, .inl (cZ, 16, .inl Go)), (a11, .inl (cI, 5, .inl B9))]) (w1 := [(h0, .inr (9, [.int th, .ref a1, .ref a2, .ref a3, .ref a4, .ref a5, .int ne, .int wi, .int dn, .ref a6, .ref a7, .int nn, .ref a8, .int la, .ref a9, .ref a10, .long uqx, .long lqx, .int wqx, .long pqx, .long dqx, .ref a11])), (a1, .inl (cI, 16, .inl Fi)), (a2, .inl (cI, 16, .inl Ma)), (a5, .inl (cI, 576, .inl Sp9_30))]) hP hD [2, 3, 4, 5] [0, 1] rfl rfl (by decide) (by decide) hk1 hFc hP1 hD1
                    have hK := (hK.sub (tys' := [(cI, .int), (cZ, .boolean), (cI, .int)]) [0, 1, 2] rfl).app hK1
                    generalize H1 = H at hP hS ⊢
                    have hP : va_P (dC, dI) vwCl [(a4, .inl (cZ, 16, .inl Go)), (a11, .inl (cI, 5, .inl B9)), (h0, .inr (9, [.int th, .ref a1, .ref a2, .ref a3, .ref a4, .ref a5, .int ne, .int wi, .int dn, .ref a6, .ref a7, .int nn, .ref a8, .int la, .ref a9, .ref a10, .long uqx, .long lqx, .int wqx, .long pqx, .long dqx, .ref a11])), (a1, .inl (cI, 16, .inl Fi)), (a2, .inl (cI, 16, .inl Ma)), (a5, .inl (cI, 576, .inl Sp9_30))] H := hP
                    have hD : va_D A [(a4, .inl (cZ, 16, .inl Go)), (a11, .inl (cI, 5, .inl B9)), (h0, .inr (9, [.int th, .ref a1, .ref a2, .ref a3, .ref a4, .ref a5, .int ne, .int wi, .int dn, .ref a6, .ref a7, .int nn, .ref a8, .int la, .ref a9, .ref a10, .long uqx, .long lqx, .int wqx, .long pqx, .long dqx, .ref a11])), (a1, .inl (cI, 16, .inl Fi)), (a2, .inl (cI, 16, .inl Ma)), (a5, .inl (cI, 576, .inl Sp9_30))] := hD
                    have hK : va_K (dC, dI) vwCl [(cI, .int), (cZ, .boolean), (cI, .int), (cI, .int)] s := hK
                    refine W.widen (k := 0) (n := 0) (by omega) (by omega) ?_
                    try dsimp only at hw_29
                    refine lv_istore (lv' := [(11, .int r_29), (10, .int 0), (9, .int y_17), (8, .int y_12), (7, .int y_10), (6, .int y_7), (0, .ref h0), (1, .int p1), (2, .int p2), (3, .int y_4), (4, .int st), (5, .int k5)]) hx hb dX9_findBurn_173 hl (by decide) rfl (fun ls hl => ?_)
                    have hSb : Sp9_30 = Sp := hS9_31.trans (by rw [hS9_24, ey_25, ey_26, ey_27]; exact mvK_back _ _ _ _ _ _)
                    rw [hSb] at hP hD
                    have hP : va_P (dC, dI) vwCl [(a4, .inl (cZ, 16, .inl Go)), (a11, .inl (cI, 5, .inl B9)), (h0, .inr (9, [.int th, .ref a1, .ref a2, .ref a3, .ref a4, .ref a5, .int ne, .int wi, .int dn, .ref a6, .ref a7, .int nn, .ref a8, .int la, .ref a9, .ref a10, .long uqx, .long lqx, .int wqx, .long pqx, .long dqx, .ref a11])), (a1, .inl (cI, 16, .inl Fi)), (a2, .inl (cI, 16, .inl Ma)), (a5, .inl (cI, 576, .inl Sp))] H := hP
                    have hD : va_D A [(a4, .inl (cZ, 16, .inl Go)), (a11, .inl (cI, 5, .inl B9)), (h0, .inr (9, [.int th, .ref a1, .ref a2, .ref a3, .ref a4, .ref a5, .int ne, .int wi, .int dn, .ref a6, .ref a7, .int nn, .ref a8, .int la, .ref a9, .ref a10, .long uqx, .long lqx, .int wqx, .long pqx, .long dqx, .ref a11])), (a1, .inl (cI, 16, .inl Fi)), (a2, .inl (cI, 16, .inl Ma)), (a5, .inl (cI, 576, .inl Sp))] := hD
                    refine lv_iload hx hb dX9_findBurn_175 (lv_at hl 1 rfl) ?_
                    refine lv_if_eq (tgt := 220) hx hb dX9_findBurn_177 (by decide) (fun _ => ?_) (fun h9 => absurd h9 (by decide))
                    have hN9 : bsP (frK (mTV Fi Ma Db Go Sp p1.toNatClampNeg) (mTV Fi Ma Db Go Sp) th.toInt.toNat p1.toInt ne.toInt) (vsK p2.toInt st.toInt (k5.toInt.toNat + 1)) (B9 0).toInt (B9 1).toInt (B9 2).toInt (B9 3).toInt (B9 4).toInt := bs_no hb9 (Or.inr (Or.inl hnF))
                    obtain ⟨y_32, ey_32⟩ : ∃ y : Int32, y = k5 + 1 := ⟨_, rfl⟩
                    have ty_32 : y_32.toInt = k5.toInt + 1 := by rw [ey_32]; have := fb_addI (x := k5) (y := 1) (by omega) (by omega); omega
                    refine lv_iinc (v := y_32) (lv' := [(5, .int y_32), (11, .int r_29), (10, .int 0), (9, .int y_17), (8, .int y_12), (7, .int y_10), (6, .int y_7), (0, .ref h0), (1, .int p1), (2, .int p2), (3, .int y_4), (4, .int st)]) hx hb dX9_findBurn_220 hl (k := 11) rfl (by rw [ey_32]; rfl) (by decide) rfl (fun ls hl => ?_)
                    refine lv_goto (tgt := 57) hx hb dX9_findBurn_223 (by decide) ?_
                    exact ih_57 y_32 uqx lqx wqx pqx dqx B9 (by omega) (by omega) (by rw [show (y_32).toInt.toNat = k5.toInt.toNat + 1 by omega]; exact hN9) (by omega) H _ (hP.sub [2, 3, 4, 0, 5, 1] rfl) (hD.sub [2, 3, 4, 0, 5, 1] (by decide) rfl) hS ls (lv_sub hl [7, 8, 9, 10, 11, 0] rfl)
                  · have t_139 := mt (fa_eq _ _).mpr c_139
                    have hst9 : stK Sp (36 * p1.toInt + 3 * (st.toInt + 1 - (Fi p1.toNatClampNeg).toInt)).toNat y_7 y_10 y_12 ((Fi p1.toNatClampNeg).toInt + (Ma p1.toNatClampNeg).toInt - 1 - st.toInt).toNat := by rcases hw_22 with h | h; all_goals (first | exact h.2 | (exfalso; omega))
                    have eQ9 : (36 * p1.toInt + 3 * (st.toInt + 1 - (Fi p1.toNatClampNeg).toInt)).toNat = 36 * p1.toNatClampNeg + (3 * (st.toInt + 1 - (Fi p1.toNatClampNeg).toInt)).toNat := (by omega)
                    have hT9 : ∀ k : Nat, (k : Int) < th.toInt → tvOK (mTV Fi Ma Db Go Sp9_23 k) := by rw [hS9_24, eQ9]; exact tv_mv hTk (by omega) (by omega) (by rw [← eQ9]; exact hst9)
                    refine lv_aload_n hx hb dX9_findBurn_142 rfl (lv_at hl 4 rfl) ?_
                    refine lv_iload_n hx hb dX9_findBurn_143 rfl (lv_at hl 5 rfl) ?_
                    have hPc := hP.sub (ws' := [(h0, .inr (9, [.int th, .ref a1, .ref a2, .ref a3, .ref a4, .ref a5, .int ne, .int wi, .int dn, .ref a6, .ref a7, .int nn, .ref a8, .int la, .ref a9, .ref a10, .long uqx, .long lqx, .int wqx, .long pqx, .long dqx, .ref a11])), (a1, .inl (cI, 16, .inl Fi)), (a2, .inl (cI, 16, .inl Ma)), (a4, .inl (cZ, 16, .inl Go)), (a5, .inl (cI, 576, .inl Sp9_23))]) [2, 3, 4, 0, 5] rfl
                    have hKc := hK.sub (tys' := [(cI, .int), (cZ, .boolean)]) [0, 1] rfl
                    have hDc := hD.sub (ws' := [(h0, .inr (9, [.int th, .ref a1, .ref a2, .ref a3, .ref a4, .ref a5, .int ne, .int wi, .int dn, .ref a6, .ref a7, .int nn, .ref a8, .int la, .ref a9, .ref a10, .long uqx, .long lqx, .int wqx, .long pqx, .long dqx, .ref a11])), (a1, .inl (cI, 16, .inl Fi)), (a2, .inl (cI, 16, .inl Ma)), (a4, .inl (cZ, 16, .inl Go)), (a5, .inl (cI, 576, .inl Sp9_23))]) [2, 3, 4, 0, 5] (by decide) rfl
                    have hFc := va_free (wc := [(h0, .inr (9, [.int th, .ref a1, .ref a2, .ref a3, .ref a4, .ref a5, .int ne, .int wi, .int dn, .ref a6, .ref a7, .int nn, .ref a8, .int la, .ref a9, .ref a10, .long uqx, .long lqx, .int wqx, .long pqx, .long dqx, .ref a11])), (a1, .inl (cI, 16, .inl Fi)), (a2, .inl (cI, 16, .inl Ma)), (a4, .inl (cZ, 16, .inl Go)), (a5, .inl (cI, 576, .inl Sp9_23))]) hD hS hA [2, 3, 4, 0, 5] rfl
                    refine va_calli (va_runV (As := [.int p1]) (rest := []) ⟨hx, hb, hml, hown, hts⟩ (c_X9_meetsE l dC dI Db h0 a1 a2 a3 a4 a5 a6 a7 a8 a9 a10 a11 th ne wi dn nn la wqx uqx lqx pqx dqx cI cZ Fi Ma Go Sp9_23 p1 H.size (by first | assumption | omega) (by first | assumption | omega) (by first | omega | assumption) (by first | omega | assumption) (by first | omega | assumption) (by first | omega | assumption)) (cwV 1 hts g_X9_findBurnE__X9_meetsE_102 rfl rfl rfl (by decide +kernel) ⟨Nat.le_of_ble_eq_true rfl, Nat.le_of_ble_eq_true rfl⟩) ⟨fun a U g mk q => by obtain ⟨q0, q1, qP, qK, qD⟩ := q; exact ⟨q0, q1, qP, va_K.moved (u := U) (U := U.calling g mk a) (Vm.Alike.refl U.vm) qK, qD⟩, va_recv hKc hPc (ci := 9) (q0 := 0) rfl rfl, fun U hU hW => ⟨rfl, by rw [hU], by rw [hU]; exact hPc, va_K.moved hW.alike hKc, hDc.weaken (fun _ _ _ _ => trivial)⟩⟩ rfl rfl hl.1 rfl (lv_room (Nat.le_of_ble_eq_true rfl)) dX9_findBurn_144 ⟨Nat.le_of_ble_eq_true rfl, Nat.le_of_ble_eq_true rfl⟩) hS (fun q _ h => hFc q h) hFc (fun r_34 u_33 t H1 locs ht hvm hw_34 hB hz1 hk1 hS => ?_)
                    obtain ⟨up9_35, lw9_36, wh9_37, pu9_38, pw9_39, hP1, hK1, hD1⟩ := hB
                    rw [ht] at hP1
                    have hK1 := va_K.moved hvm.symm hK1
                    obtain ⟨hP, hD⟩ := va_join (wr := [(a11, .inl (cI, 5, .inl B9))]) (w1 := [(h0, .inr (9, [.int th, .ref a1, .ref a2, .ref a3, .ref a4, .ref a5, .int ne, .int wi, .int dn, .ref a6, .ref a7, .int nn, .ref a8, .int la, .ref a9, .ref a10, .long up9_35, .long lw9_36, .int wh9_37, .long pu9_38, .long pw9_39, .ref a11])), (a1, .inl (cI, 16, .inl Fi)), (a2, .inl (cI, 16, .inl Ma)), (a4, .inl (cZ, 16, .inl Go)), (a5, .inl (cI, 576, .inl Sp9_23))]) hP hD [2, 3, 4, 0, 5] [1] rfl rfl (by decide) (by decide) hk1 hFc hP1 hD1
                    have hK := (hK.sub (tys' := [(cI, .int), (cZ, .boolean), (cI, .int)]) [0, 1, 2] rfl).app hK1
                    generalize H1 = H at hP hS ⊢
                    have hP : va_P (dC, dI) vwCl [(a11, .inl (cI, 5, .inl B9)), (h0, .inr (9, [.int th, .ref a1, .ref a2, .ref a3, .ref a4, .ref a5, .int ne, .int wi, .int dn, .ref a6, .ref a7, .int nn, .ref a8, .int la, .ref a9, .ref a10, .long up9_35, .long lw9_36, .int wh9_37, .long pu9_38, .long pw9_39, .ref a11])), (a1, .inl (cI, 16, .inl Fi)), (a2, .inl (cI, 16, .inl Ma)), (a4, .inl (cZ, 16, .inl Go)), (a5, .inl (cI, 576, .inl Sp9_23))] H := hP
                    have hD : va_D A [(a11, .inl (cI, 5, .inl B9)), (h0, .inr (9, [.int th, .ref a1, .ref a2, .ref a3, .ref a4, .ref a5, .int ne, .int wi, .int dn, .ref a6, .ref a7, .int nn, .ref a8, .int la, .ref a9, .ref a10, .long up9_35, .long lw9_36, .int wh9_37, .long pu9_38, .long pw9_39, .ref a11])), (a1, .inl (cI, 16, .inl Fi)), (a2, .inl (cI, 16, .inl Ma)), (a4, .inl (cZ, 16, .inl Go)), (a5, .inl (cI, 576, .inl Sp9_23))] := hD
                    have hK : va_K (dC, dI) vwCl [(cI, .int), (cZ, .boolean), (cI, .int), (cI, .int), (cZ, .boolean)] s := hK
                    refine W.widen (k := 0) (n := 0) (by omega) (by omega) ?_
                    try dsimp only at hw_34
                    refine lv_if_ne (tgt := 154) hx hb dX9_findBurn_147 (by decide) (fun c_147 => ?_) (fun c_147 => ?_)
                    · have t_147 := mt (fa_eq _ _).mpr c_147
                      have hnF : ¬ frK (mTV Fi Ma Db Go Sp p1.toNatClampNeg) (mTV Fi Ma Db Go Sp) th.toInt.toNat p1.toInt ne.toInt st.toInt k5.toInt.toNat := fun q9 => by have w9 := hFM.mp q9; first | (have e9 := hw_34; rw [hS9_24] at e9; have w8 := w9.2; omega) | (rcases hw_22 with h | h; all_goals (first | exact h.2 w9.1 | (exfalso; omega)))
                      refine lv_iconst (v := 0) hx hb dX9_findBurn_154 (by decide) ?_
                      refine lv_istore (lv' := [(10, .int 0), (9, .int y_17), (8, .int y_12), (7, .int y_10), (6, .int y_7), (0, .ref h0), (1, .int p1), (2, .int p2), (3, .int y_4), (4, .int st), (5, .int k5)]) hx hb dX9_findBurn_155 hl (by decide) rfl (fun ls hl => ?_)
                      refine lv_aload_n hx hb dX9_findBurn_157 rfl (lv_at hl 5 rfl) ?_
                      refine lv_iload_n hx hb dX9_findBurn_158 rfl (lv_at hl 6 rfl) ?_
                      refine lv_iload hx hb dX9_findBurn_159 (lv_at hl 9 rfl) ?_
                      refine lv_iload hx hb dX9_findBurn_161 (lv_at hl 4 rfl) ?_
                      refine lv_ineg hx hb dX9_findBurn_163 ?_
                      refine lv_topi (fun y_40 ey_40 => ?_)
                      refine lv_iload hx hb dX9_findBurn_164 (lv_at hl 3 rfl) ?_
                      refine lv_ineg hx hb dX9_findBurn_166 ?_
                      refine lv_topi (fun y_41 ey_41 => ?_)
                      refine lv_iload hx hb dX9_findBurn_167 (lv_at hl 2 rfl) ?_
                      refine lv_ineg hx hb dX9_findBurn_169 ?_
                      refine lv_topi (fun y_42 ey_42 => ?_)
                      have hPc := hP.sub (ws' := [(h0, .inr (9, [.int th, .ref a1, .ref a2, .ref a3, .ref a4, .ref a5, .int ne, .int wi, .int dn, .ref a6, .ref a7, .int nn, .ref a8, .int la, .ref a9, .ref a10, .long up9_35, .long lw9_36, .int wh9_37, .long pu9_38, .long pw9_39, .ref a11])), (a1, .inl (cI, 16, .inl Fi)), (a2, .inl (cI, 16, .inl Ma)), (a5, .inl (cI, 576, .inl Sp9_23))]) [1, 2, 3, 5] rfl
                      have hKc := hK.sub (tys' := [(cI, .int)]) [0] rfl
                      have hDc := hD.sub (ws' := [(h0, .inr (9, [.int th, .ref a1, .ref a2, .ref a3, .ref a4, .ref a5, .int ne, .int wi, .int dn, .ref a6, .ref a7, .int nn, .ref a8, .int la, .ref a9, .ref a10, .long up9_35, .long lw9_36, .int wh9_37, .long pu9_38, .long pw9_39, .ref a11])), (a1, .inl (cI, 16, .inl Fi)), (a2, .inl (cI, 16, .inl Ma)), (a5, .inl (cI, 576, .inl Sp9_23))]) [1, 2, 3, 5] (by decide) rfl
                      have hFc := va_free (wc := [(h0, .inr (9, [.int th, .ref a1, .ref a2, .ref a3, .ref a4, .ref a5, .int ne, .int wi, .int dn, .ref a6, .ref a7, .int nn, .ref a8, .int la, .ref a9, .ref a10, .long up9_35, .long lw9_36, .int wh9_37, .long pu9_38, .long pw9_39, .ref a11])), (a1, .inl (cI, 16, .inl Fi)), (a2, .inl (cI, 16, .inl Ma)), (a5, .inl (cI, 576, .inl Sp9_23))]) hD hS hA [1, 2, 3, 5] rfl
                      refine va_calli (va_runV (As := [.int p1, .int st, .int y_40, .int y_41, .int y_42]) (rest := []) ⟨hx, hb, hml, hown, hts⟩ (c_X9_shift l dC dI h0 a1 a2 a3 a4 a5 a6 a7 a8 a9 a10 a11 th ne wi dn nn la wh9_37 up9_35 lw9_36 pu9_38 pw9_39 cI Fi Ma Sp9_23 p1 st y_40 y_41 y_42 H.size (by first | assumption | omega) (by first | omega | assumption) (by first | omega | assumption) (by first | omega | assumption) (by first | omega | assumption)) (cwV 5 hts g_X9_findBurnE__X9_shift_187 rfl rfl rfl (by decide +kernel) ⟨Nat.le_of_ble_eq_true rfl, Nat.le_of_ble_eq_true rfl⟩) ⟨fun a U g mk q => by obtain ⟨q0, q1, qP, qK, qD⟩ := q; exact ⟨q0, q1, qP, va_K.moved (u := U) (U := U.calling g mk a) (Vm.Alike.refl U.vm) qK, qD⟩, va_recv hKc hPc (ci := 9) (q0 := 0) rfl rfl, fun U hU hW => ⟨rfl, by rw [hU], by rw [hU]; exact hPc, va_K.moved hW.alike hKc, hDc.weaken (fun _ _ _ _ => trivial)⟩⟩ rfl rfl hl.1 rfl (lv_room (Nat.le_of_ble_eq_true rfl)) dX9_findBurn_170 ⟨Nat.le_of_ble_eq_true rfl, Nat.le_of_ble_eq_true rfl⟩) hS (fun q _ h => hFc q h) hFc (fun r_44 u_43 t H1 locs ht hvm hw_44 hB hz1 hk1 hS => ?_)
                      obtain ⟨Sp9_45, hP1, hK1, hD1, hS9_46⟩ := hB
                      rw [ht] at hP1
                      have hK1 := va_K.moved hvm.symm hK1
                      obtain ⟨hP, hD⟩ := va_join (wr := [(a11, .inl (cI, 5, .inl B9)), (a4, .inl (cZ, 16, .inl Go))]) (w1 := [(h0, .inr (9, [.int th, .ref a1, .ref a2, .ref a3, .ref a4, .ref a5, .int ne, .int wi, .int dn, .ref a6, .ref a7, .int nn, .ref a8, .int la, .ref a9, .ref a10, .long up9_35, .long lw9_36, .int wh9_37, .long pu9_38, .long pw9_39, .ref a11])), (a1, .inl (cI, 16, .inl Fi)), (a2, .inl (cI, 16, .inl Ma)), (a5, .inl (cI, 576, .inl Sp9_45))]) hP hD [1, 2, 3, 5] [0, 4] rfl rfl (by decide) (by decide) hk1 hFc hP1 hD1
                      have hK := (hK.sub (tys' := [(cI, .int), (cZ, .boolean), (cI, .int), (cI, .int), (cZ, .boolean)]) [0, 1, 2, 3, 4] rfl).app hK1
                      generalize H1 = H at hP hS ⊢
                      have hP : va_P (dC, dI) vwCl [(a11, .inl (cI, 5, .inl B9)), (a4, .inl (cZ, 16, .inl Go)), (h0, .inr (9, [.int th, .ref a1, .ref a2, .ref a3, .ref a4, .ref a5, .int ne, .int wi, .int dn, .ref a6, .ref a7, .int nn, .ref a8, .int la, .ref a9, .ref a10, .long up9_35, .long lw9_36, .int wh9_37, .long pu9_38, .long pw9_39, .ref a11])), (a1, .inl (cI, 16, .inl Fi)), (a2, .inl (cI, 16, .inl Ma)), (a5, .inl (cI, 576, .inl Sp9_45))] H := hP
                      have hD : va_D A [(a11, .inl (cI, 5, .inl B9)), (a4, .inl (cZ, 16, .inl Go)), (h0, .inr (9, [.int th, .ref a1, .ref a2, .ref a3, .ref a4, .ref a5, .int ne, .int wi, .int dn, .ref a6, .ref a7, .int nn, .ref a8, .int la, .ref a9, .ref a10, .long up9_35, .long lw9_36, .int wh9_37, .long pu9_38, .long pw9_39, .ref a11])), (a1, .inl (cI, 16, .inl Fi)), (a2, .inl (cI, 16, .inl Ma)), (a5, .inl (cI, 576, .inl Sp9_45))] := hD
                      have hK : va_K (dC, dI) vwCl [(cI, .int), (cZ, .boolean), (cI, .int), (cI, .int), (cZ, .boolean), (cI, .int)] s := hK
                      refine W.widen (k := 0) (n := 0) (by omega) (by omega) ?_
                      try dsimp only at hw_44
                      refine lv_istore (lv' := [(11, .int r_44), (10, .int 0), (9, .int y_17), (8, .int y_12), (7, .int y_10), (6, .int y_7), (0, .ref h0), (1, .int p1), (2, .int p2), (3, .int y_4), (4, .int st), (5, .int k5)]) hx hb dX9_findBurn_173 hl (by decide) rfl (fun ls hl => ?_)
                      have hSb : Sp9_45 = Sp := hS9_46.trans (by rw [hS9_24, ey_40, ey_41, ey_42]; exact mvK_back _ _ _ _ _ _)
                      rw [hSb] at hP hD
                      have hP : va_P (dC, dI) vwCl [(a11, .inl (cI, 5, .inl B9)), (a4, .inl (cZ, 16, .inl Go)), (h0, .inr (9, [.int th, .ref a1, .ref a2, .ref a3, .ref a4, .ref a5, .int ne, .int wi, .int dn, .ref a6, .ref a7, .int nn, .ref a8, .int la, .ref a9, .ref a10, .long up9_35, .long lw9_36, .int wh9_37, .long pu9_38, .long pw9_39, .ref a11])), (a1, .inl (cI, 16, .inl Fi)), (a2, .inl (cI, 16, .inl Ma)), (a5, .inl (cI, 576, .inl Sp))] H := hP
                      have hD : va_D A [(a11, .inl (cI, 5, .inl B9)), (a4, .inl (cZ, 16, .inl Go)), (h0, .inr (9, [.int th, .ref a1, .ref a2, .ref a3, .ref a4, .ref a5, .int ne, .int wi, .int dn, .ref a6, .ref a7, .int nn, .ref a8, .int la, .ref a9, .ref a10, .long up9_35, .long lw9_36, .int wh9_37, .long pu9_38, .long pw9_39, .ref a11])), (a1, .inl (cI, 16, .inl Fi)), (a2, .inl (cI, 16, .inl Ma)), (a5, .inl (cI, 576, .inl Sp))] := hD
                      refine lv_iload hx hb dX9_findBurn_175 (lv_at hl 1 rfl) ?_
                      refine lv_if_eq (tgt := 220) hx hb dX9_findBurn_177 (by decide) (fun _ => ?_) (fun h9 => absurd h9 (by decide))
                      have hN9 : bsP (frK (mTV Fi Ma Db Go Sp p1.toNatClampNeg) (mTV Fi Ma Db Go Sp) th.toInt.toNat p1.toInt ne.toInt) (vsK p2.toInt st.toInt (k5.toInt.toNat + 1)) (B9 0).toInt (B9 1).toInt (B9 2).toInt (B9 3).toInt (B9 4).toInt := bs_no hb9 (Or.inr (Or.inl hnF))
                      obtain ⟨y_47, ey_47⟩ : ∃ y : Int32, y = k5 + 1 := ⟨_, rfl⟩
                      have ty_47 : y_47.toInt = k5.toInt + 1 := by rw [ey_47]; have := fb_addI (x := k5) (y := 1) (by omega) (by omega); omega
                      refine lv_iinc (v := y_47) (lv' := [(5, .int y_47), (11, .int r_44), (10, .int 0), (9, .int y_17), (8, .int y_12), (7, .int y_10), (6, .int y_7), (0, .ref h0), (1, .int p1), (2, .int p2), (3, .int y_4), (4, .int st)]) hx hb dX9_findBurn_220 hl (k := 11) rfl (by rw [ey_47]; rfl) (by decide) rfl (fun ls hl => ?_)
                      refine lv_goto (tgt := 57) hx hb dX9_findBurn_223 (by decide) ?_
                      exact ih_57 y_47 up9_35 lw9_36 wh9_37 pu9_38 pw9_39 B9 (by omega) (by omega) (by rw [show (y_47).toInt.toNat = k5.toInt.toNat + 1 by omega]; exact hN9) (by omega) H _ (hP.sub [2, 3, 4, 1, 5, 0] rfl) (hD.sub [2, 3, 4, 1, 5, 0] (by decide) rfl) hS ls (lv_sub hl [7, 8, 9, 10, 11, 0] rfl)
                    · have t_147 := (fa_eq _ _).mp c_147
                      have hyF : frK (mTV Fi Ma Db Go Sp p1.toNatClampNeg) (mTV Fi Ma Db Go Sp) th.toInt.toNat p1.toInt ne.toInt st.toInt k5.toInt.toNat := hFM.mpr ⟨hst9, by have e9 := hw_34; rw [hS9_24] at e9; omega⟩
                      refine lv_iconst (v := 1) hx hb dX9_findBurn_150 (by decide) ?_
                      refine lv_goto (tgt := 155) hx hb dX9_findBurn_151 (by decide) ?_
                      refine lv_istore (lv' := [(10, .int 1), (9, .int y_17), (8, .int y_12), (7, .int y_10), (6, .int y_7), (0, .ref h0), (1, .int p1), (2, .int p2), (3, .int y_4), (4, .int st), (5, .int k5)]) hx hb dX9_findBurn_155 hl (by decide) rfl (fun ls hl => ?_)
                      refine lv_aload_n hx hb dX9_findBurn_157 rfl (lv_at hl 5 rfl) ?_
                      refine lv_iload_n hx hb dX9_findBurn_158 rfl (lv_at hl 6 rfl) ?_
                      refine lv_iload hx hb dX9_findBurn_159 (lv_at hl 9 rfl) ?_
                      refine lv_iload hx hb dX9_findBurn_161 (lv_at hl 4 rfl) ?_
                      refine lv_ineg hx hb dX9_findBurn_163 ?_
                      refine lv_topi (fun y_48 ey_48 => ?_)
                      refine lv_iload hx hb dX9_findBurn_164 (lv_at hl 3 rfl) ?_
                      refine lv_ineg hx hb dX9_findBurn_166 ?_
                      refine lv_topi (fun y_49 ey_49 => ?_)
                      refine lv_iload hx hb dX9_findBurn_167 (lv_at hl 2 rfl) ?_
                      refine lv_ineg hx hb dX9_findBurn_169 ?_
                      refine lv_topi (fun y_50 ey_50 => ?_)
                      have hPc := hP.sub (ws' := [(h0, .inr (9, [.int th, .ref a1, .ref a2, .ref a3, .ref a4, .ref a5, .int ne, .int wi, .int dn, .ref a6, .ref a7, .int nn, .ref a8, .int la, .ref a9, .ref a10, .long up9_35, .long lw9_36, .int wh9_37, .long pu9_38, .long pw9_39, .ref a11])), (a1, .inl (cI, 16, .inl Fi)), (a2, .inl (cI, 16, .inl Ma)), (a5, .inl (cI, 576, .inl Sp9_23))]) [1, 2, 3, 5] rfl
                      have hKc := hK.sub (tys' := [(cI, .int)]) [0] rfl
                      have hDc := hD.sub (ws' := [(h0, .inr (9, [.int th, .ref a1, .ref a2, .ref a3, .ref a4, .ref a5, .int ne, .int wi, .int dn, .ref a6, .ref a7, .int nn, .ref a8, .int la, .ref a9, .ref a10, .long up9_35, .long lw9_36, .int wh9_37, .long pu9_38, .long pw9_39, .ref a11])), (a1, .inl (cI, 16, .inl Fi)), (a2, .inl (cI, 16, .inl Ma)), (a5, .inl (cI, 576, .inl Sp9_23))]) [1, 2, 3, 5] (by decide) rfl
                      have hFc := va_free (wc := [(h0, .inr (9, [.int th, .ref a1, .ref a2, .ref a3, .ref a4, .ref a5, .int ne, .int wi, .int dn, .ref a6, .ref a7, .int nn, .ref a8, .int la, .ref a9, .ref a10, .long up9_35, .long lw9_36, .int wh9_37, .long pu9_38, .long pw9_39, .ref a11])), (a1, .inl (cI, 16, .inl Fi)), (a2, .inl (cI, 16, .inl Ma)), (a5, .inl (cI, 576, .inl Sp9_23))]) hD hS hA [1, 2, 3, 5] rfl
                      refine va_calli (va_runV (As := [.int p1, .int st, .int y_48, .int y_49, .int y_50]) (rest := []) ⟨hx, hb, hml, hown, hts⟩ (c_X9_shift l dC dI h0 a1 a2 a3 a4 a5 a6 a7 a8 a9 a10 a11 th ne wi dn nn la wh9_37 up9_35 lw9_36 pu9_38 pw9_39 cI Fi Ma Sp9_23 p1 st y_48 y_49 y_50 H.size (by first | assumption | omega) (by first | omega | assumption) (by first | omega | assumption) (by first | omega | assumption) (by first | omega | assumption)) (cwV 5 hts g_X9_findBurnE__X9_shift_187 rfl rfl rfl (by decide +kernel) ⟨Nat.le_of_ble_eq_true rfl, Nat.le_of_ble_eq_true rfl⟩) ⟨fun a U g mk q => by obtain ⟨q0, q1, qP, qK, qD⟩ := q; exact ⟨q0, q1, qP, va_K.moved (u := U) (U := U.calling g mk a) (Vm.Alike.refl U.vm) qK, qD⟩, va_recv hKc hPc (ci := 9) (q0 := 0) rfl rfl, fun U hU hW => ⟨rfl, by rw [hU], by rw [hU]; exact hPc, va_K.moved hW.alike hKc, hDc.weaken (fun _ _ _ _ => trivial)⟩⟩ rfl rfl hl.1 rfl (lv_room (Nat.le_of_ble_eq_true rfl)) dX9_findBurn_170 ⟨Nat.le_of_ble_eq_true rfl, Nat.le_of_ble_eq_true rfl⟩) hS (fun q _ h => hFc q h) hFc (fun r_52 u_51 t H1 locs ht hvm hw_52 hB hz1 hk1 hS => ?_)
                      obtain ⟨Sp9_53, hP1, hK1, hD1, hS9_54⟩ := hB
                      rw [ht] at hP1
                      have hK1 := va_K.moved hvm.symm hK1
                      obtain ⟨hP, hD⟩ := va_join (wr := [(a11, .inl (cI, 5, .inl B9)), (a4, .inl (cZ, 16, .inl Go))]) (w1 := [(h0, .inr (9, [.int th, .ref a1, .ref a2, .ref a3, .ref a4, .ref a5, .int ne, .int wi, .int dn, .ref a6, .ref a7, .int nn, .ref a8, .int la, .ref a9, .ref a10, .long up9_35, .long lw9_36, .int wh9_37, .long pu9_38, .long pw9_39, .ref a11])), (a1, .inl (cI, 16, .inl Fi)), (a2, .inl (cI, 16, .inl Ma)), (a5, .inl (cI, 576, .inl Sp9_53))]) hP hD [1, 2, 3, 5] [0, 4] rfl rfl (by decide) (by decide) hk1 hFc hP1 hD1
                      have hK := (hK.sub (tys' := [(cI, .int), (cZ, .boolean), (cI, .int), (cI, .int), (cZ, .boolean)]) [0, 1, 2, 3, 4] rfl).app hK1
                      generalize H1 = H at hP hS ⊢
                      have hP : va_P (dC, dI) vwCl [(a11, .inl (cI, 5, .inl B9)), (a4, .inl (cZ, 16, .inl Go)), (h0, .inr (9, [.int th, .ref a1, .ref a2, .ref a3, .ref a4, .ref a5, .int ne, .int wi, .int dn, .ref a6, .ref a7, .int nn, .ref a8, .int la, .ref a9, .ref a10, .long up9_35, .long lw9_36, .int wh9_37, .long pu9_38, .long pw9_39, .ref a11])), (a1, .inl (cI, 16, .inl Fi)), (a2, .inl (cI, 16, .inl Ma)), (a5, .inl (cI, 576, .inl Sp9_53))] H := hP
                      have hD : va_D A [(a11, .inl (cI, 5, .inl B9)), (a4, .inl (cZ, 16, .inl Go)), (h0, .inr (9, [.int th, .ref a1, .ref a2, .ref a3, .ref a4, .ref a5, .int ne, .int wi, .int dn, .ref a6, .ref a7, .int nn, .ref a8, .int la, .ref a9, .ref a10, .long up9_35, .long lw9_36, .int wh9_37, .long pu9_38, .long pw9_39, .ref a11])), (a1, .inl (cI, 16, .inl Fi)), (a2, .inl (cI, 16, .inl Ma)), (a5, .inl (cI, 576, .inl Sp9_53))] := hD
                      have hK : va_K (dC, dI) vwCl [(cI, .int), (cZ, .boolean), (cI, .int), (cI, .int), (cZ, .boolean), (cI, .int)] s := hK
                      refine W.widen (k := 0) (n := 0) (by omega) (by omega) ?_
                      try dsimp only at hw_52
                      refine lv_istore (lv' := [(11, .int r_52), (10, .int 1), (9, .int y_17), (8, .int y_12), (7, .int y_10), (6, .int y_7), (0, .ref h0), (1, .int p1), (2, .int p2), (3, .int y_4), (4, .int st), (5, .int k5)]) hx hb dX9_findBurn_173 hl (by decide) rfl (fun ls hl => ?_)
                      have hSb : Sp9_53 = Sp := hS9_54.trans (by rw [hS9_24, ey_48, ey_49, ey_50]; exact mvK_back _ _ _ _ _ _)
                      rw [hSb] at hP hD
                      have hP : va_P (dC, dI) vwCl [(a11, .inl (cI, 5, .inl B9)), (a4, .inl (cZ, 16, .inl Go)), (h0, .inr (9, [.int th, .ref a1, .ref a2, .ref a3, .ref a4, .ref a5, .int ne, .int wi, .int dn, .ref a6, .ref a7, .int nn, .ref a8, .int la, .ref a9, .ref a10, .long up9_35, .long lw9_36, .int wh9_37, .long pu9_38, .long pw9_39, .ref a11])), (a1, .inl (cI, 16, .inl Fi)), (a2, .inl (cI, 16, .inl Ma)), (a5, .inl (cI, 576, .inl Sp))] H := hP
                      have hD : va_D A [(a11, .inl (cI, 5, .inl B9)), (a4, .inl (cZ, 16, .inl Go)), (h0, .inr (9, [.int th, .ref a1, .ref a2, .ref a3, .ref a4, .ref a5, .int ne, .int wi, .int dn, .ref a6, .ref a7, .int nn, .ref a8, .int la, .ref a9, .ref a10, .long up9_35, .long lw9_36, .int wh9_37, .long pu9_38, .long pw9_39, .ref a11])), (a1, .inl (cI, 16, .inl Fi)), (a2, .inl (cI, 16, .inl Ma)), (a5, .inl (cI, 576, .inl Sp))] := hD
                      refine lv_iload hx hb dX9_findBurn_175 (lv_at hl 1 rfl) ?_
                      refine lv_if_eq (tgt := 220) hx hb dX9_findBurn_177 (by decide) (fun h9 => absurd h9 (by decide)) (fun _ => ?_)
                      refine lv_aload_n hx hb dX9_findBurn_180 rfl (lv_at hl 6 rfl) ?_
                      refine va_get (D := (dC, dI)) (ci := 9) (v := .ref a11) (C := RX9) (T := TX9) (N := 22) hx hb hts in_X9_findBurnE_X9 hown hK hP 2 rfl rfl 21 (by decide) (hts (.fieldLink RX9 48 "MeetingsAboveModel" "burns" "[I") (by decide +kernel)) (fun _ h9 => h9) rfl dX9_findBurn_181 ?_
                      refine lv_iconst (v := 0) hx hb dX9_findBurn_184 (by decide) ?_
                      refine lv_iload hx hb dX9_findBurn_185 (lv_at hl 2 rfl) ?_
                      refine va_iast hx hb hK hP hD hS 0 0 rfl rfl (by unfold vp_in; decide) dX9_findBurn_187 (fun H locs hP hD hS => ?_)
                      have hP : va_P (dC, dI) vwCl [(a11, .inl (cI, 5, .inl (upd B9 (0 : Int32).toNatClampNeg y_17))), (a4, .inl (cZ, 16, .inl Go)), (h0, .inr (9, [.int th, .ref a1, .ref a2, .ref a3, .ref a4, .ref a5, .int ne, .int wi, .int dn, .ref a6, .ref a7, .int nn, .ref a8, .int la, .ref a9, .ref a10, .long up9_35, .long lw9_36, .int wh9_37, .long pu9_38, .long pw9_39, .ref a11])), (a1, .inl (cI, 16, .inl Fi)), (a2, .inl (cI, 16, .inl Ma)), (a5, .inl (cI, 576, .inl Sp))] H := hP
                      have hD : va_D A [(a11, .inl (cI, 5, .inl (upd B9 (0 : Int32).toNatClampNeg y_17))), (a4, .inl (cZ, 16, .inl Go)), (h0, .inr (9, [.int th, .ref a1, .ref a2, .ref a3, .ref a4, .ref a5, .int ne, .int wi, .int dn, .ref a6, .ref a7, .int nn, .ref a8, .int la, .ref a9, .ref a10, .long up9_35, .long lw9_36, .int wh9_37, .long pu9_38, .long pw9_39, .ref a11])), (a1, .inl (cI, 16, .inl Fi)), (a2, .inl (cI, 16, .inl Ma)), (a5, .inl (cI, 576, .inl Sp))] := hD
                      refine lv_aload_n hx hb dX9_findBurn_188 rfl (lv_at hl 6 rfl) ?_
                      refine va_get (D := (dC, dI)) (ci := 9) (v := .ref a11) (C := RX9) (T := TX9) (N := 22) hx hb hts in_X9_findBurnE_X9 hown hK hP 2 rfl rfl 21 (by decide) (hts (.fieldLink RX9 48 "MeetingsAboveModel" "burns" "[I") (by decide +kernel)) (fun _ h9 => h9) rfl dX9_findBurn_189 ?_
                      refine lv_iconst (v := 1) hx hb dX9_findBurn_192 (by decide) ?_
                      refine lv_iload hx hb dX9_findBurn_193 (lv_at hl 10 rfl) ?_
                      refine va_iast hx hb hK hP hD hS 0 0 rfl rfl (by unfold vp_in; decide) dX9_findBurn_195 (fun H locs hP hD hS => ?_)
                      have hP : va_P (dC, dI) vwCl [(a11, .inl (cI, 5, .inl (upd (upd B9 (0 : Int32).toNatClampNeg y_17) (1 : Int32).toNatClampNeg st))), (a4, .inl (cZ, 16, .inl Go)), (h0, .inr (9, [.int th, .ref a1, .ref a2, .ref a3, .ref a4, .ref a5, .int ne, .int wi, .int dn, .ref a6, .ref a7, .int nn, .ref a8, .int la, .ref a9, .ref a10, .long up9_35, .long lw9_36, .int wh9_37, .long pu9_38, .long pw9_39, .ref a11])), (a1, .inl (cI, 16, .inl Fi)), (a2, .inl (cI, 16, .inl Ma)), (a5, .inl (cI, 576, .inl Sp))] H := hP
                      have hD : va_D A [(a11, .inl (cI, 5, .inl (upd (upd B9 (0 : Int32).toNatClampNeg y_17) (1 : Int32).toNatClampNeg st))), (a4, .inl (cZ, 16, .inl Go)), (h0, .inr (9, [.int th, .ref a1, .ref a2, .ref a3, .ref a4, .ref a5, .int ne, .int wi, .int dn, .ref a6, .ref a7, .int nn, .ref a8, .int la, .ref a9, .ref a10, .long up9_35, .long lw9_36, .int wh9_37, .long pu9_38, .long pw9_39, .ref a11])), (a1, .inl (cI, 16, .inl Fi)), (a2, .inl (cI, 16, .inl Ma)), (a5, .inl (cI, 576, .inl Sp))] := hD
                      refine lv_aload_n hx hb dX9_findBurn_196 rfl (lv_at hl 6 rfl) ?_
                      refine va_get (D := (dC, dI)) (ci := 9) (v := .ref a11) (C := RX9) (T := TX9) (N := 22) hx hb hts in_X9_findBurnE_X9 hown hK hP 2 rfl rfl 21 (by decide) (hts (.fieldLink RX9 48 "MeetingsAboveModel" "burns" "[I") (by decide +kernel)) (fun _ h9 => h9) rfl dX9_findBurn_197 ?_
                      refine lv_iconst (v := 2) hx hb dX9_findBurn_200 (by decide) ?_
                      refine lv_iload hx hb dX9_findBurn_201 (lv_at hl 5 rfl) ?_
                      refine va_iast hx hb hK hP hD hS 0 0 rfl rfl (by unfold vp_in; decide) dX9_findBurn_203 (fun H locs hP hD hS => ?_)
                      have hP : va_P (dC, dI) vwCl [(a11, .inl (cI, 5, .inl (upd (upd (upd B9 (0 : Int32).toNatClampNeg y_17) (1 : Int32).toNatClampNeg st) (2 : Int32).toNatClampNeg y_7))), (a4, .inl (cZ, 16, .inl Go)), (h0, .inr (9, [.int th, .ref a1, .ref a2, .ref a3, .ref a4, .ref a5, .int ne, .int wi, .int dn, .ref a6, .ref a7, .int nn, .ref a8, .int la, .ref a9, .ref a10, .long up9_35, .long lw9_36, .int wh9_37, .long pu9_38, .long pw9_39, .ref a11])), (a1, .inl (cI, 16, .inl Fi)), (a2, .inl (cI, 16, .inl Ma)), (a5, .inl (cI, 576, .inl Sp))] H := hP
                      have hD : va_D A [(a11, .inl (cI, 5, .inl (upd (upd (upd B9 (0 : Int32).toNatClampNeg y_17) (1 : Int32).toNatClampNeg st) (2 : Int32).toNatClampNeg y_7))), (a4, .inl (cZ, 16, .inl Go)), (h0, .inr (9, [.int th, .ref a1, .ref a2, .ref a3, .ref a4, .ref a5, .int ne, .int wi, .int dn, .ref a6, .ref a7, .int nn, .ref a8, .int la, .ref a9, .ref a10, .long up9_35, .long lw9_36, .int wh9_37, .long pu9_38, .long pw9_39, .ref a11])), (a1, .inl (cI, 16, .inl Fi)), (a2, .inl (cI, 16, .inl Ma)), (a5, .inl (cI, 576, .inl Sp))] := hD
                      refine lv_aload_n hx hb dX9_findBurn_204 rfl (lv_at hl 6 rfl) ?_
                      refine va_get (D := (dC, dI)) (ci := 9) (v := .ref a11) (C := RX9) (T := TX9) (N := 22) hx hb hts in_X9_findBurnE_X9 hown hK hP 2 rfl rfl 21 (by decide) (hts (.fieldLink RX9 48 "MeetingsAboveModel" "burns" "[I") (by decide +kernel)) (fun _ h9 => h9) rfl dX9_findBurn_205 ?_
                      refine lv_iconst (v := 3) hx hb dX9_findBurn_208 (by decide) ?_
                      refine lv_iload hx hb dX9_findBurn_209 (lv_at hl 4 rfl) ?_
                      refine va_iast hx hb hK hP hD hS 0 0 rfl rfl (by unfold vp_in; decide) dX9_findBurn_211 (fun H locs hP hD hS => ?_)
                      have hP : va_P (dC, dI) vwCl [(a11, .inl (cI, 5, .inl (upd (upd (upd (upd B9 (0 : Int32).toNatClampNeg y_17) (1 : Int32).toNatClampNeg st) (2 : Int32).toNatClampNeg y_7) (3 : Int32).toNatClampNeg y_10))), (a4, .inl (cZ, 16, .inl Go)), (h0, .inr (9, [.int th, .ref a1, .ref a2, .ref a3, .ref a4, .ref a5, .int ne, .int wi, .int dn, .ref a6, .ref a7, .int nn, .ref a8, .int la, .ref a9, .ref a10, .long up9_35, .long lw9_36, .int wh9_37, .long pu9_38, .long pw9_39, .ref a11])), (a1, .inl (cI, 16, .inl Fi)), (a2, .inl (cI, 16, .inl Ma)), (a5, .inl (cI, 576, .inl Sp))] H := hP
                      have hD : va_D A [(a11, .inl (cI, 5, .inl (upd (upd (upd (upd B9 (0 : Int32).toNatClampNeg y_17) (1 : Int32).toNatClampNeg st) (2 : Int32).toNatClampNeg y_7) (3 : Int32).toNatClampNeg y_10))), (a4, .inl (cZ, 16, .inl Go)), (h0, .inr (9, [.int th, .ref a1, .ref a2, .ref a3, .ref a4, .ref a5, .int ne, .int wi, .int dn, .ref a6, .ref a7, .int nn, .ref a8, .int la, .ref a9, .ref a10, .long up9_35, .long lw9_36, .int wh9_37, .long pu9_38, .long pw9_39, .ref a11])), (a1, .inl (cI, 16, .inl Fi)), (a2, .inl (cI, 16, .inl Ma)), (a5, .inl (cI, 576, .inl Sp))] := hD
                      refine lv_aload_n hx hb dX9_findBurn_212 rfl (lv_at hl 6 rfl) ?_
                      refine va_get (D := (dC, dI)) (ci := 9) (v := .ref a11) (C := RX9) (T := TX9) (N := 22) hx hb hts in_X9_findBurnE_X9 hown hK hP 2 rfl rfl 21 (by decide) (hts (.fieldLink RX9 48 "MeetingsAboveModel" "burns" "[I") (by decide +kernel)) (fun _ h9 => h9) rfl dX9_findBurn_213 ?_
                      refine lv_iconst (v := 4) hx hb dX9_findBurn_216 (by decide) ?_
                      refine lv_iload hx hb dX9_findBurn_217 (lv_at hl 3 rfl) ?_
                      refine va_iast hx hb hK hP hD hS 0 0 rfl rfl (by unfold vp_in; decide) dX9_findBurn_219 (fun H locs hP hD hS => ?_)
                      have hP : va_P (dC, dI) vwCl [(a11, .inl (cI, 5, .inl (upd (upd (upd (upd (upd B9 (0 : Int32).toNatClampNeg y_17) (1 : Int32).toNatClampNeg st) (2 : Int32).toNatClampNeg y_7) (3 : Int32).toNatClampNeg y_10) (4 : Int32).toNatClampNeg y_12))), (a4, .inl (cZ, 16, .inl Go)), (h0, .inr (9, [.int th, .ref a1, .ref a2, .ref a3, .ref a4, .ref a5, .int ne, .int wi, .int dn, .ref a6, .ref a7, .int nn, .ref a8, .int la, .ref a9, .ref a10, .long up9_35, .long lw9_36, .int wh9_37, .long pu9_38, .long pw9_39, .ref a11])), (a1, .inl (cI, 16, .inl Fi)), (a2, .inl (cI, 16, .inl Ma)), (a5, .inl (cI, 576, .inl Sp))] H := hP
                      have hD : va_D A [(a11, .inl (cI, 5, .inl (upd (upd (upd (upd (upd B9 (0 : Int32).toNatClampNeg y_17) (1 : Int32).toNatClampNeg st) (2 : Int32).toNatClampNeg y_7) (3 : Int32).toNatClampNeg y_10) (4 : Int32).toNatClampNeg y_12))), (a4, .inl (cZ, 16, .inl Go)), (h0, .inr (9, [.int th, .ref a1, .ref a2, .ref a3, .ref a4, .ref a5, .int ne, .int wi, .int dn, .ref a6, .ref a7, .int nn, .ref a8, .int la, .ref a9, .ref a10, .long up9_35, .long lw9_36, .int wh9_37, .long pu9_38, .long pw9_39, .ref a11])), (a1, .inl (cI, 16, .inl Fi)), (a2, .inl (cI, 16, .inl Ma)), (a5, .inl (cI, 576, .inl Sp))] := hD
                      have hN9 : bsP (frK (mTV Fi Ma Db Go Sp p1.toNatClampNeg) (mTV Fi Ma Db Go Sp) th.toInt.toNat p1.toInt ne.toInt) (vsK p2.toInt st.toInt (k5.toInt.toNat + 1)) ((upd (upd (upd (upd (upd B9 (0 : Int32).toNatClampNeg y_17) (1 : Int32).toNatClampNeg st) (2 : Int32).toNatClampNeg y_7) (3 : Int32).toNatClampNeg y_10) (4 : Int32).toNatClampNeg y_12) 0).toInt ((upd (upd (upd (upd (upd B9 (0 : Int32).toNatClampNeg y_17) (1 : Int32).toNatClampNeg st) (2 : Int32).toNatClampNeg y_7) (3 : Int32).toNatClampNeg y_10) (4 : Int32).toNatClampNeg y_12) 1).toInt ((upd (upd (upd (upd (upd B9 (0 : Int32).toNatClampNeg y_17) (1 : Int32).toNatClampNeg st) (2 : Int32).toNatClampNeg y_7) (3 : Int32).toNatClampNeg y_10) (4 : Int32).toNatClampNeg y_12) 2).toInt ((upd (upd (upd (upd (upd B9 (0 : Int32).toNatClampNeg y_17) (1 : Int32).toNatClampNeg st) (2 : Int32).toNatClampNeg y_7) (3 : Int32).toNatClampNeg y_10) (4 : Int32).toNatClampNeg y_12) 3).toInt ((upd (upd (upd (upd (upd B9 (0 : Int32).toNatClampNeg y_17) (1 : Int32).toNatClampNeg st) (2 : Int32).toNatClampNeg y_7) (3 : Int32).toNatClampNeg y_10) (4 : Int32).toNatClampNeg y_12) 4).toInt := by obtain ⟨e0, e1, e2, e3, e4⟩ := bu_set (B := B9) (i0 := (0 : Int32).toNatClampNeg) (i1 := (1 : Int32).toNatClampNeg) (i2 := (2 : Int32).toNatClampNeg) (i3 := (3 : Int32).toNatClampNeg) (i4 := (4 : Int32).toNatClampNeg) (x0 := y_17) (x1 := st) (x2 := y_7) (x3 := y_10) (x4 := y_12) (by decide) (by decide) (by decide) (by decide) (by decide); rw [e0, e1, e2, e3, e4]; exact bs_yes (by omega) (by omega) hb9 (by omega) hyF (by have y9 := tv_1 hr_19 c_123; rw [ef] at y9; exact y9) ef ea eb ec
                      obtain ⟨y_55, ey_55⟩ : ∃ y : Int32, y = k5 + 1 := ⟨_, rfl⟩
                      have ty_55 : y_55.toInt = k5.toInt + 1 := by rw [ey_55]; have := fb_addI (x := k5) (y := 1) (by omega) (by omega); omega
                      refine lv_iinc (v := y_55) (lv' := [(5, .int y_55), (11, .int r_52), (10, .int 1), (9, .int y_17), (8, .int y_12), (7, .int y_10), (6, .int y_7), (0, .ref h0), (1, .int p1), (2, .int p2), (3, .int y_4), (4, .int st)]) hx hb dX9_findBurn_220 hl (k := 11) rfl (by rw [ey_55]; rfl) (by decide) rfl (fun ls hl => ?_)
                      refine lv_goto (tgt := 57) hx hb dX9_findBurn_223 (by decide) ?_
                      exact ih_57 y_55 up9_35 lw9_36 wh9_37 pu9_38 pw9_39 (upd (upd (upd (upd (upd B9 (0 : Int32).toNatClampNeg y_17) (1 : Int32).toNatClampNeg st) (2 : Int32).toNatClampNeg y_7) (3 : Int32).toNatClampNeg y_10) (4 : Int32).toNatClampNeg y_12) (by omega) (by omega) (by rw [show (y_55).toInt.toNat = k5.toInt.toNat + 1 by omega]; exact hN9) (by omega) H _ (hP.sub [2, 3, 4, 1, 5, 0] rfl) (hD.sub [2, 3, 4, 1, 5, 0] (by decide) rfl) hS ls (lv_sub hl [7, 8, 9, 10, 11, 0] rfl)
    · have t_4 := mt (fa_le _ _).mpr c_4
      refine lv_aload_n hx hb dX9_findBurn_7 rfl (lv_at hl 0 rfl) ?_
      refine va_get (D := (dC, dI)) (ci := 9) (v := .ref a11) (C := RX9) (T := TX9) (N := 22) hx hb hts in_X9_findBurnE_X9 hown hK hP 0 rfl rfl 21 (by decide) (hts (.fieldLink RX9 48 "MeetingsAboveModel" "burns" "[I") (by decide +kernel)) (fun _ h9 => h9) rfl dX9_findBurn_8 ?_
      refine lv_iload_n hx hb dX9_findBurn_11 rfl (lv_at hl 3 rfl) ?_
      refine lv_iload_n hx hb dX9_findBurn_12 rfl (lv_at hl 3 rfl) ?_
      refine lv_iconst (v := 2) hx hb dX9_findBurn_13 (by decide) ?_
      refine lv_icmp_ge (tgt := 21) hx hb dX9_findBurn_14 (by decide) (fun c_14 => ?_) (fun c_14 => ?_)
      · have t_14 := (fa_le _ _).mp c_14
        refine lv_iconst (v := 0) hx hb dX9_findBurn_21 (by decide) ?_
        refine va_iast hx hb hK hP hD hS 5 0 rfl rfl (vp_in_iff.mpr ⟨by omega, by omega⟩) dX9_findBurn_22 (fun H locs hP hD hS => ?_)
        have hP : va_P (dC, dI) vwCl [(h0, .inr (9, [.int th, .ref a1, .ref a2, .ref a3, .ref a4, .ref a5, .int ne, .int wi, .int dn, .ref a6, .ref a7, .int nn, .ref a8, .int la, .ref a9, .ref a10, .long up, .long lw, .int wh, .long pu, .long pw, .ref a11])), (a1, .inl (cI, 16, .inl Fi)), (a2, .inl (cI, 16, .inl Ma)), (a4, .inl (cZ, 16, .inl Go)), (a5, .inl (cI, 576, .inl Sp)), (a11, .inl (cI, 5, .inl (upd B7 (k3 : Int32).toNatClampNeg 0)))] H := hP
        have hD : va_D A [(h0, .inr (9, [.int th, .ref a1, .ref a2, .ref a3, .ref a4, .ref a5, .int ne, .int wi, .int dn, .ref a6, .ref a7, .int nn, .ref a8, .int la, .ref a9, .ref a10, .long up, .long lw, .int wh, .long pu, .long pw, .ref a11])), (a1, .inl (cI, 16, .inl Fi)), (a2, .inl (cI, 16, .inl Ma)), (a4, .inl (cZ, 16, .inl Go)), (a5, .inl (cI, 576, .inl Sp)), (a11, .inl (cI, 5, .inl (upd B7 (k3 : Int32).toNatClampNeg 0)))] := hD
        have hB8 : (0 < k3.toInt + 1 → ((upd B7 (k3 : Int32).toNatClampNeg 0) 0).toInt = -1) ∧ (1 < k3.toInt + 1 → ((upd B7 (k3 : Int32).toNatClampNeg 0) 1).toInt = -1) ∧ (2 < k3.toInt + 1 → ((upd B7 (k3 : Int32).toNatClampNeg 0) 2).toInt = 0) ∧ (3 < k3.toInt + 1 → ((upd B7 (k3 : Int32).toNatClampNeg 0) 3).toInt = 0) ∧ (4 < k3.toInt + 1 → ((upd B7 (k3 : Int32).toNatClampNeg 0) 4).toInt = 0) := bu_ini hB7 (by omega) (by first | exact Or.inl ⟨by omega, by decide⟩ | exact Or.inr ⟨by omega, by decide⟩)
        obtain ⟨y_56, ey_56⟩ : ∃ y : Int32, y = k3 + 1 := ⟨_, rfl⟩
        have ty_56 : y_56.toInt = k3.toInt + 1 := by rw [ey_56]; have := fb_addI (x := k3) (y := 1) (by omega) (by omega); omega
        refine lv_iinc (v := y_56) (lv' := [(3, .int y_56), (0, .ref h0), (1, .int p1), (2, .int p2)]) hx hb dX9_findBurn_23 hl (k := 3) rfl (by rw [ey_56]; rfl) (by decide) rfl (fun ls hl => ?_)
        refine lv_goto (tgt := 2) hx hb dX9_findBurn_26 (by decide) ?_
        exact ih_2 y_56 (upd B7 (k3 : Int32).toNatClampNeg 0) (by omega) (by omega) (by rw [show (y_56).toInt = k3.toInt + 1 by omega]; exact hB8) (by omega) H _ (hP.sub [0, 1, 2, 3, 4, 5] rfl) (hD.sub [0, 1, 2, 3, 4, 5] (by decide) rfl) hS ls (lv_sub hl [1, 2, 3, 0] rfl)
      · have t_14 := mt (fa_le _ _).mpr c_14
        refine lv_iconst (v := (-1)) hx hb dX9_findBurn_17 (by decide) ?_
        refine lv_goto (tgt := 22) hx hb dX9_findBurn_18 (by decide) ?_
        refine va_iast hx hb hK hP hD hS 5 0 rfl rfl (vp_in_iff.mpr ⟨by omega, by omega⟩) dX9_findBurn_22 (fun H locs hP hD hS => ?_)
        have hP : va_P (dC, dI) vwCl [(h0, .inr (9, [.int th, .ref a1, .ref a2, .ref a3, .ref a4, .ref a5, .int ne, .int wi, .int dn, .ref a6, .ref a7, .int nn, .ref a8, .int la, .ref a9, .ref a10, .long up, .long lw, .int wh, .long pu, .long pw, .ref a11])), (a1, .inl (cI, 16, .inl Fi)), (a2, .inl (cI, 16, .inl Ma)), (a4, .inl (cZ, 16, .inl Go)), (a5, .inl (cI, 576, .inl Sp)), (a11, .inl (cI, 5, .inl (upd B7 (k3 : Int32).toNatClampNeg (-1))))] H := hP
        have hD : va_D A [(h0, .inr (9, [.int th, .ref a1, .ref a2, .ref a3, .ref a4, .ref a5, .int ne, .int wi, .int dn, .ref a6, .ref a7, .int nn, .ref a8, .int la, .ref a9, .ref a10, .long up, .long lw, .int wh, .long pu, .long pw, .ref a11])), (a1, .inl (cI, 16, .inl Fi)), (a2, .inl (cI, 16, .inl Ma)), (a4, .inl (cZ, 16, .inl Go)), (a5, .inl (cI, 576, .inl Sp)), (a11, .inl (cI, 5, .inl (upd B7 (k3 : Int32).toNatClampNeg (-1))))] := hD
        have hB8 : (0 < k3.toInt + 1 → ((upd B7 (k3 : Int32).toNatClampNeg (-1)) 0).toInt = -1) ∧ (1 < k3.toInt + 1 → ((upd B7 (k3 : Int32).toNatClampNeg (-1)) 1).toInt = -1) ∧ (2 < k3.toInt + 1 → ((upd B7 (k3 : Int32).toNatClampNeg (-1)) 2).toInt = 0) ∧ (3 < k3.toInt + 1 → ((upd B7 (k3 : Int32).toNatClampNeg (-1)) 3).toInt = 0) ∧ (4 < k3.toInt + 1 → ((upd B7 (k3 : Int32).toNatClampNeg (-1)) 4).toInt = 0) := bu_ini hB7 (by omega) (by first | exact Or.inl ⟨by omega, by decide⟩ | exact Or.inr ⟨by omega, by decide⟩)
        obtain ⟨y_57, ey_57⟩ : ∃ y : Int32, y = k3 + 1 := ⟨_, rfl⟩
        have ty_57 : y_57.toInt = k3.toInt + 1 := by rw [ey_57]; have := fb_addI (x := k3) (y := 1) (by omega) (by omega); omega
        refine lv_iinc (v := y_57) (lv' := [(3, .int y_57), (0, .ref h0), (1, .int p1), (2, .int p2)]) hx hb dX9_findBurn_23 hl (k := 3) rfl (by rw [ey_57]; rfl) (by decide) rfl (fun ls hl => ?_)
        refine lv_goto (tgt := 2) hx hb dX9_findBurn_26 (by decide) ?_
        exact ih_2 y_57 (upd B7 (k3 : Int32).toNatClampNeg (-1)) (by omega) (by omega) (by rw [show (y_57).toInt = k3.toInt + 1 by omega]; exact hB8) (by omega) H _ (hP.sub [0, 1, 2, 3, 4, 5] rfl) (hD.sub [0, 1, 2, 3, 4, 5] (by decide) rfl) hS ls (lv_sub hl [1, 2, 3, 0] rfl)
