def wk_X9_isBetter : List Cond := .code yX9_isBetter cX9_isBetter 3 (some .boolean) :: (([.fieldLink RX9 48 "MeetingsAboveModel" "burns" "[I"] : List Cond) ++ (wsX90 ++ ([])))
theorem in_X9_isBetter_X9 : ∀ w ∈ wsX90, w ∈ wk_X9_isBetter := fun _ h => List.mem_cons_of_mem _ (List.mem_append_right _ (List.mem_append_left _ h))
theorem gw_X9_isBetter : AG wk_X9_isBetter := AG_ca (AG_l (by decide +kernel)) (AG_app ag_X9 (AG_nil))
set_option maxHeartbeats 4000000 in
set_option maxRecDepth 100000 in
theorem c_X9_isBetter (l : Launch) (dC : Nat → ClassId) (dI : Nat → Nat → Nat) (h0 : Nat) (a1 : Nat) (a2 : Nat) (a3 : Nat) (a4 : Nat) (a5 : Nat) (a6 : Nat) (a7 : Nat) (a8 : Nat) (a9 : Nat) (a10 : Nat) (a11 : Nat) (th : Int32) (ne : Int32) (wi : Int32) (dn : Int32) (nn : Int32) (la : Int32) (wh : Int32) (up : Int64) (lw : Int64) (pu : Int64) (pw : Int64) (cI : ClassId) (Bu : Nat → Int32) (p1 : Int32) (p2 : Int32) : Met l yX9_isBetter wk_X9_isBetter ({ frames := 0, cells := 0, slots := 0, locals := 0 }) (va_Pc [.ref h0, .int p1, .int p2] (fun U => va_P (dC, dI) vwCl [(h0, .inr (9, [.int th, .ref a1, .ref a2, .ref a3, .ref a4, .ref a5, .int ne, .int wi, .int dn, .ref a6, .ref a7, .int nn, .ref a8, .int la, .ref a9, .ref a10, .long up, .long lw, .int wh, .long pu, .long pw, .ref a11])), (a11, .inl (cI, 5, .inl Bu))] U.heap ∧ va_K (dC, dI) vwCl [(cI, .int)] U)) (vp_Si (fun r => True)) 0 0 (fun _ => False) := by
  refine Met.ofW (cc := cX9_isBetter) (maxL := 3) (ret := (some .boolean)) (by decide) rfl ?_
  intro p e s m args below meth c s₁ B hml hv
  obtain ⟨rfl, hP, hK⟩ := hv
  have hx := B.exec
  have hb := B.bytes
  have hr := B.returns
  have hts := atoms_spec (ws := wk_X9_isBetter) B.pre
  have hown : s.vm.findClass RX9 = some m.cls := findClass_of_methodNamed B.named
  have hlocks := B.notSynchronized
  have hP : va_P (dC, dI) vwCl [(h0, .inr (9, [.int th, .ref a1, .ref a2, .ref a3, .ref a4, .ref a5, .int ne, .int wi, .int dn, .ref a6, .ref a7, .int nn, .ref a8, .int la, .ref a9, .ref a10, .long up, .long lw, .int wh, .long pu, .long pw, .ref a11])), (a11, .inl (cI, 5, .inl Bu))] s.heap := hP
  have hl := lv_entry ([.ref h0, .int p1, .int p2]) (n := 3) (Nat.le_of_ble_eq_true rfl)
  rw [lg_entry_eq]
  generalize (lg_sl ([.ref h0, .int p1, .int p2]) ++ List.replicate (3 - (lg_sl ([.ref h0, .int p1, .int p2])).length) Slot.unset).toArray = ls at hl ⊢
  have hl : lv_has ls 3 [(0, .ref h0), (1, .int p1), (2, .int p2)] := hl
  have kl_0 : (0 : Int32).toInt = 0 := by decide
  have kl_1 : (1 : Int32).toInt = 1 := by decide
  refine lv_aload_n hx hb dX9_isBetter_0 rfl (lv_at hl 0 rfl) ?_
  refine va_get (D := (dC, dI)) (ci := 9) (v := .ref a11) (C := RX9) (T := TX9) (N := 22) hx hb hts in_X9_isBetter_X9 hown hK hP 0 rfl rfl 21 (by decide) (hts (.fieldLink RX9 48 "MeetingsAboveModel" "burns" "[I") (by decide +kernel)) (fun _ h9 => h9) rfl dX9_isBetter_1 ?_
  refine lv_iconst (v := 0) hx hb dX9_isBetter_4 (by decide) ?_
  refine va_iald hx hb hK hP 1 0 rfl rfl (by unfold vp_in; decide) dX9_isBetter_5 ?_
  refine lv_topi (fun y_1 ey_1 => ?_)
  refine lv_if_lt (tgt := 39) hx hb dX9_isBetter_6 (by decide) (fun c_6 => ?_) (fun c_6 => ?_)
  · have t_6 := (fa_lt _ _).mp c_6
    refine lv_iconst (v := 1) hx hb dX9_isBetter_39 (by decide) ?_
    refine lv_goto (tgt := 44) hx hb dX9_isBetter_40 (by decide) ?_
    exact W.zret (v := 1) hx hb hr rfl (fun t ht _ => ⟨_, rfl, trivial, ht⟩) (fun _ h => absurd h List.not_mem_nil) dX9_isBetter_44
  · have t_6 := mt (fa_lt _ _).mpr c_6
    refine lv_iload_n hx hb dX9_isBetter_9 rfl (lv_at hl 1 rfl) ?_
    refine lv_aload_n hx hb dX9_isBetter_10 rfl (lv_at hl 0 rfl) ?_
    refine va_get (D := (dC, dI)) (ci := 9) (v := .ref a11) (C := RX9) (T := TX9) (N := 22) hx hb hts in_X9_isBetter_X9 hown hK hP 0 rfl rfl 21 (by decide) (hts (.fieldLink RX9 48 "MeetingsAboveModel" "burns" "[I") (by decide +kernel)) (fun _ h9 => h9) rfl dX9_isBetter_11 ?_
    refine lv_iconst (v := 0) hx hb dX9_isBetter_14 (by decide) ?_
    refine va_iald hx hb hK hP 1 0 rfl rfl (by unfold vp_in; decide) dX9_isBetter_15 ?_
    refine lv_topi (fun y_2 ey_2 => ?_)
    refine lv_icmp_lt (tgt := 39) hx hb dX9_isBetter_16 (by decide) (fun c_16 => ?_) (fun c_16 => ?_)
    · have t_16 := (fa_lt _ _).mp c_16
      refine lv_iconst (v := 1) hx hb dX9_isBetter_39 (by decide) ?_
      refine lv_goto (tgt := 44) hx hb dX9_isBetter_40 (by decide) ?_
      exact W.zret (v := 1) hx hb hr rfl (fun t ht _ => ⟨_, rfl, trivial, ht⟩) (fun _ h => absurd h List.not_mem_nil) dX9_isBetter_44
    · have t_16 := mt (fa_lt _ _).mpr c_16
      refine lv_iload_n hx hb dX9_isBetter_19 rfl (lv_at hl 1 rfl) ?_
      refine lv_aload_n hx hb dX9_isBetter_20 rfl (lv_at hl 0 rfl) ?_
      refine va_get (D := (dC, dI)) (ci := 9) (v := .ref a11) (C := RX9) (T := TX9) (N := 22) hx hb hts in_X9_isBetter_X9 hown hK hP 0 rfl rfl 21 (by decide) (hts (.fieldLink RX9 48 "MeetingsAboveModel" "burns" "[I") (by decide +kernel)) (fun _ h9 => h9) rfl dX9_isBetter_21 ?_
      refine lv_iconst (v := 0) hx hb dX9_isBetter_24 (by decide) ?_
      refine va_iald hx hb hK hP 1 0 rfl rfl (by unfold vp_in; decide) dX9_isBetter_25 ?_
      refine lv_topi (fun y_3 ey_3 => ?_)
      refine lv_icmp_ne (tgt := 43) hx hb dX9_isBetter_26 (by decide) (fun c_26 => ?_) (fun c_26 => ?_)
      · have t_26 := mt (fa_eq _ _).mpr c_26
        refine lv_iconst (v := 0) hx hb dX9_isBetter_43 (by decide) ?_
        exact W.zret (v := 0) hx hb hr rfl (fun t ht _ => ⟨_, rfl, trivial, ht⟩) (fun _ h => absurd h List.not_mem_nil) dX9_isBetter_44
      · have t_26 := (fa_eq _ _).mp c_26
        refine lv_iload_n hx hb dX9_isBetter_29 rfl (lv_at hl 2 rfl) ?_
        refine lv_aload_n hx hb dX9_isBetter_30 rfl (lv_at hl 0 rfl) ?_
        refine va_get (D := (dC, dI)) (ci := 9) (v := .ref a11) (C := RX9) (T := TX9) (N := 22) hx hb hts in_X9_isBetter_X9 hown hK hP 0 rfl rfl 21 (by decide) (hts (.fieldLink RX9 48 "MeetingsAboveModel" "burns" "[I") (by decide +kernel)) (fun _ h9 => h9) rfl dX9_isBetter_31 ?_
        refine lv_iconst (v := 1) hx hb dX9_isBetter_34 (by decide) ?_
        refine va_iald hx hb hK hP 1 0 rfl rfl (by unfold vp_in; decide) dX9_isBetter_35 ?_
        refine lv_topi (fun y_4 ey_4 => ?_)
        refine lv_icmp_le (tgt := 43) hx hb dX9_isBetter_36 (by decide) (fun c_36 => ?_) (fun c_36 => ?_)
        · have t_36 := (fa_le _ _).mp c_36
          refine lv_iconst (v := 0) hx hb dX9_isBetter_43 (by decide) ?_
          exact W.zret (v := 0) hx hb hr rfl (fun t ht _ => ⟨_, rfl, trivial, ht⟩) (fun _ h => absurd h List.not_mem_nil) dX9_isBetter_44
        · have t_36 := mt (fa_le _ _).mpr c_36
          refine lv_iconst (v := 1) hx hb dX9_isBetter_39 (by decide) ?_
          refine lv_goto (tgt := 44) hx hb dX9_isBetter_40 (by decide) ?_
          exact W.zret (v := 1) hx hb hr rfl (fun t ht _ => ⟨_, rfl, trivial, ht⟩) (fun _ h => absurd h List.not_mem_nil) dX9_isBetter_44
def wk_X9_findBurn : List Cond := .code yX9_findBurn cX9_findBurn 12 none :: (([.fieldLink RX9 7 "MeetingsAboveModel" "firsts" "[I", .fieldLink RX9 13 "MeetingsAboveModel" "many" "[I", .fieldLink RX9 48 "MeetingsAboveModel" "burns" "[I"] : List Cond) ++ (wsX90 ++ ((va_wsS RX9 181 yX9_size wk_X9_size) ++ ((wsV RX9 184 RX9 yX9_isBetter wk_X9_isBetter) ++ ((wsV RX9 187 RX9 yX9_shift wk_X9_shift) ++ ((wsV RX9 102 RX9 yX9_meets wk_X9_meets) ++ ([])))))))
theorem in_X9_findBurn_X9 : ∀ w ∈ wsX90, w ∈ wk_X9_findBurn := fun _ h => List.mem_cons_of_mem _ (List.mem_append_right _ (List.mem_append_left _ h))
theorem gw_X9_findBurn : AG wk_X9_findBurn := AG_ca (AG_l (by decide +kernel)) (AG_app ag_X9 (AG_app (AG_S gw_X9_size) (AG_app (AG_V gw_X9_isBetter) (AG_app (AG_V gw_X9_shift) (AG_app (AG_V gw_X9_meets) (AG_nil))))))
theorem g_X9_findBurn__X9_size_181 : GoodIn wk_X9_findBurn (va_wsS RX9 181 yX9_size wk_X9_size) := goodIn_m (fun _ h => List.mem_cons_of_mem _ (List.mem_append_right _ (List.mem_append_right _ (List.mem_append_left _ h)))) (AG_S gw_X9_size)
theorem g_X9_findBurn__X9_isBetter_184 : GoodIn wk_X9_findBurn (wsV RX9 184 RX9 yX9_isBetter wk_X9_isBetter) := goodIn_m (fun _ h => List.mem_cons_of_mem _ (List.mem_append_right _ (List.mem_append_right _ (List.mem_append_right _ (List.mem_append_left _ h))))) (AG_V gw_X9_isBetter)
theorem g_X9_findBurn__X9_shift_187 : GoodIn wk_X9_findBurn (wsV RX9 187 RX9 yX9_shift wk_X9_shift) := goodIn_m (fun _ h => List.mem_cons_of_mem _ (List.mem_append_right _ (List.mem_append_right _ (List.mem_append_right _ (List.mem_append_right _ (List.mem_append_left _ h)))))) (AG_V gw_X9_shift)
theorem g_X9_findBurn__X9_meets_102 : GoodIn wk_X9_findBurn (wsV RX9 102 RX9 yX9_meets wk_X9_meets) := goodIn_m (fun _ h => List.mem_cons_of_mem _ (List.mem_append_right _ (List.mem_append_right _ (List.mem_append_right _ (List.mem_append_right _ (List.mem_append_right _ (List.mem_append_left _ h))))))) (AG_V gw_X9_meets)
set_option maxHeartbeats 4000000 in
set_option maxRecDepth 100000 in
theorem c_X9_findBurn (l : Launch) (dC : Nat → ClassId) (dI : Nat → Nat → Nat) (h0 : Nat) (a1 : Nat) (a2 : Nat) (a3 : Nat) (a4 : Nat) (a5 : Nat) (a6 : Nat) (a7 : Nat) (a8 : Nat) (a9 : Nat) (a10 : Nat) (a11 : Nat) (th : Int32) (ne : Int32) (wi : Int32) (dn : Int32) (nn : Int32) (la : Int32) (wh : Int32) (up : Int64) (lw : Int64) (pu : Int64) (pw : Int64) (cI : ClassId) (cZ : ClassId) (Fi : Nat → Int32) (Ma : Nat → Int32) (Go : Nat → Int32) (Sp : Nat → Int32) (Bu : Nat → Int32) (p1 : Int32) (p2 : Int32) (sz : Nat) (hM : mOK th Fi Ma) (hp10 : 0 ≤ p1.toInt) (hp11 : p1.toInt < th.toInt) (hs0 : (Fi p1.toNatClampNeg).toInt ≤ p2.toInt) (hs1 : p2.toInt < (Fi p1.toNatClampNeg).toInt + (Ma p1.toNatClampNeg).toInt) : Met l yX9_findBurn wk_X9_findBurn ({ frames := 5, cells := 0, slots := 0, locals := 127 }) (va_Pc [.ref h0, .int p1, .int p2] (fun U => U.heap.size = sz ∧ va_P (dC, dI) vwCl [(h0, .inr (9, [.int th, .ref a1, .ref a2, .ref a3, .ref a4, .ref a5, .int ne, .int wi, .int dn, .ref a6, .ref a7, .int nn, .ref a8, .int la, .ref a9, .ref a10, .long up, .long lw, .int wh, .long pu, .long pw, .ref a11])), (a1, .inl (cI, 16, .inl Fi)), (a2, .inl (cI, 16, .inl Ma)), (a4, .inl (cZ, 16, .inl Go)), (a5, .inl (cI, 576, .inl Sp)), (a11, .inl (cI, 5, .inl Bu))] U.heap ∧ va_K (dC, dI) vwCl [(cI, .int), (cZ, .boolean)] U ∧ va_D (fun _ => True) [(h0, .inr (9, [.int th, .ref a1, .ref a2, .ref a3, .ref a4, .ref a5, .int ne, .int wi, .int dn, .ref a6, .ref a7, .int nn, .ref a8, .int la, .ref a9, .ref a10, .long up, .long lw, .int wh, .long pu, .long pw, .ref a11])), (a1, .inl (cI, 16, .inl Fi)), (a2, .inl (cI, 16, .inl Ma)), (a4, .inl (cZ, 16, .inl Go)), (a5, .inl (cI, 576, .inl Sp)), (a11, .inl (cI, 5, .inl Bu))])) (va_Qv (fun (_ : Unit) => True) (fun (_ : Unit) (t : State) => ∃ (up9 : Int64) (lw9 : Int64) (wh9 : Int32) (pu9 : Int64) (pw9 : Int64) (Bu9 : Nat → Int32), va_P (dC, dI) vwCl [(h0, .inr (9, [.int th, .ref a1, .ref a2, .ref a3, .ref a4, .ref a5, .int ne, .int wi, .int dn, .ref a6, .ref a7, .int nn, .ref a8, .int la, .ref a9, .ref a10, .long up9, .long lw9, .int wh9, .long pu9, .long pw9, .ref a11])), (a1, .inl (cI, 16, .inl Fi)), (a2, .inl (cI, 16, .inl Ma)), (a4, .inl (cZ, 16, .inl Go)), (a5, .inl (cI, 576, .inl Sp)), (a11, .inl (cI, 5, .inl Bu9))] t.heap ∧ va_K (dC, dI) vwCl [(cI, .int), (cZ, .boolean)] t ∧ va_D (va_A [(h0, .inr (9, [.int th, .ref a1, .ref a2, .ref a3, .ref a4, .ref a5, .int ne, .int wi, .int dn, .ref a6, .ref a7, .int nn, .ref a8, .int la, .ref a9, .ref a10, .long up, .long lw, .int wh, .long pu, .long pw, .ref a11])), (a1, .inl (cI, 16, .inl Fi)), (a2, .inl (cI, 16, .inl Ma)), (a4, .inl (cZ, 16, .inl Go)), (a5, .inl (cI, 576, .inl Sp)), (a11, .inl (cI, 5, .inl Bu))] sz) [(h0, .inr (9, [.int th, .ref a1, .ref a2, .ref a3, .ref a4, .ref a5, .int ne, .int wi, .int dn, .ref a6, .ref a7, .int nn, .ref a8, .int la, .ref a9, .ref a10, .long up9, .long lw9, .int wh9, .long pu9, .long pw9, .ref a11])), (a1, .inl (cI, 16, .inl Fi)), (a2, .inl (cI, 16, .inl Ma)), (a4, .inl (cZ, 16, .inl Go)), (a5, .inl (cI, 576, .inl Sp)), (a11, .inl (cI, 5, .inl Bu9))]) (va_A [(h0, .inr (9, [.int th, .ref a1, .ref a2, .ref a3, .ref a4, .ref a5, .int ne, .int wi, .int dn, .ref a6, .ref a7, .int nn, .ref a8, .int la, .ref a9, .ref a10, .long up, .long lw, .int wh, .long pu, .long pw, .ref a11])), (a1, .inl (cI, 16, .inl Fi)), (a2, .inl (cI, 16, .inl Ma)), (a4, .inl (cZ, 16, .inl Go)), (a5, .inl (cI, 576, .inl Sp)), (a11, .inl (cI, 5, .inl Bu))] sz)) 0 0 (va_A [(h0, .inr (9, [.int th, .ref a1, .ref a2, .ref a3, .ref a4, .ref a5, .int ne, .int wi, .int dn, .ref a6, .ref a7, .int nn, .ref a8, .int la, .ref a9, .ref a10, .long up, .long lw, .int wh, .long pu, .long pw, .ref a11])), (a1, .inl (cI, 16, .inl Fi)), (a2, .inl (cI, 16, .inl Ma)), (a4, .inl (cZ, 16, .inl Go)), (a5, .inl (cI, 576, .inl Sp)), (a11, .inl (cI, 5, .inl Bu))] sz) := by
  refine Met.ofW (cc := cX9_findBurn) (maxL := 12) (ret := none) (by decide) rfl ?_
  intro p e s m args below meth c s₁ B hml hv
  obtain ⟨rfl, hsz, hP, hK, hD0⟩ := hv
  have hx := B.exec
  have hb := B.bytes
  have hr := B.returns
  have hts := atoms_spec (ws := wk_X9_findBurn) B.pre
  have hown : s.vm.findClass RX9 = some m.cls := findClass_of_methodNamed B.named
  have hlocks := B.notSynchronized
  subst hsz
  have hD := hD0.self (sz := s.heap.size)
  generalize hAe : va_A [(h0, .inr (9, [.int th, .ref a1, .ref a2, .ref a3, .ref a4, .ref a5, .int ne, .int wi, .int dn, .ref a6, .ref a7, .int nn, .ref a8, .int la, .ref a9, .ref a10, .long up, .long lw, .int wh, .long pu, .long pw, .ref a11])), (a1, .inl (cI, 16, .inl Fi)), (a2, .inl (cI, 16, .inl Ma)), (a4, .inl (cZ, 16, .inl Go)), (a5, .inl (cI, 576, .inl Sp)), (a11, .inl (cI, 5, .inl Bu))] s.heap.size = A at hD ⊢
  have hA : ∀ q : Nat, s.heap.size ≤ q → A q := fun q h => by rw [← hAe]; exact Or.inr h
  have hS : va_S A s.heap s.heap [] := va_S.rf
  have hP : va_P (dC, dI) vwCl [(h0, .inr (9, [.int th, .ref a1, .ref a2, .ref a3, .ref a4, .ref a5, .int ne, .int wi, .int dn, .ref a6, .ref a7, .int nn, .ref a8, .int la, .ref a9, .ref a10, .long up, .long lw, .int wh, .long pu, .long pw, .ref a11])), (a1, .inl (cI, 16, .inl Fi)), (a2, .inl (cI, 16, .inl Ma)), (a4, .inl (cZ, 16, .inl Go)), (a5, .inl (cI, 576, .inl Sp)), (a11, .inl (cI, 5, .inl Bu))] s.heap := hP
  have hl := lv_entry ([.ref h0, .int p1, .int p2]) (n := 12) (Nat.le_of_ble_eq_true rfl)
  rw [lg_entry_eq]
  generalize (lg_sl ([.ref h0, .int p1, .int p2]) ++ List.replicate (12 - (lg_sl ([.ref h0, .int p1, .int p2])).length) Slot.unset).toArray = ls at hl ⊢
  have hl : lv_has ls 12 [(0, .ref h0), (1, .int p1), (2, .int p2)] := hl
  have kl_0 : (0 : Int32).toInt = 0 := by decide
  have kl_1 : (1 : Int32).toInt = 1 := by decide
  have kl_2 : (2 : Int32).toInt = 2 := by decide
  have kl_5 : (5 : Int32).toInt = 5 := by decide
  have kl_125 : (125 : Int32).toInt = 125 := by decide
  obtain ⟨hM0, hM1, hM2⟩ := id hM
  have np1 : ((p1.toNatClampNeg : Nat) : Int) = p1.toInt := tc_I (by omega)
  have bp1 := hM2 p1.toNatClampNeg (by omega)
  refine lv_iconst (v := 0) hx hb dX9_findBurn_0 (by decide) ?_
  refine lv_istore_n (lv' := [(3, .int 0), (0, .ref h0), (1, .int p1), (2, .int p2)]) hx hb dX9_findBurn_1 rfl hl (by decide) rfl (fun ls hl => ?_)
  refine (show ∀ (k : Nat) (k3 : Int32) (B7 : Nat → Int32) (hk0 : 0 ≤ k3.toInt) (hk1 : k3.toInt ≤ 5) (hk_2 : (5 - k3.toInt).toNat < k) (H : Heap) (locs : List Loc) (hP : va_P (dC, dI) vwCl [(h0, .inr (9, [.int th, .ref a1, .ref a2, .ref a3, .ref a4, .ref a5, .int ne, .int wi, .int dn, .ref a6, .ref a7, .int nn, .ref a8, .int la, .ref a9, .ref a10, .long up, .long lw, .int wh, .long pu, .long pw, .ref a11])), (a1, .inl (cI, 16, .inl Fi)), (a2, .inl (cI, 16, .inl Ma)), (a4, .inl (cZ, 16, .inl Go)), (a5, .inl (cI, 576, .inl Sp)), (a11, .inl (cI, 5, .inl B7))] H) (hD : va_D A [(h0, .inr (9, [.int th, .ref a1, .ref a2, .ref a3, .ref a4, .ref a5, .int ne, .int wi, .int dn, .ref a6, .ref a7, .int nn, .ref a8, .int la, .ref a9, .ref a10, .long up, .long lw, .int wh, .long pu, .long pw, .ref a11])), (a1, .inl (cI, 16, .inl Fi)), (a2, .inl (cI, 16, .inl Ma)), (a4, .inl (cZ, 16, .inl Go)), (a5, .inl (cI, 576, .inl Sp)), (a11, .inl (cI, 5, .inl B7))]) (hS : va_S A s.heap H locs) (ls : Array Slot) (hl : lv_has ls 12 [(0, .ref h0), (1, .int p1), (2, .int p2), (3, .int k3)]), W p l e _ s m _ below meth c H locs 0 0 _ (F0 m 2 ls []) from ?_) _ 0 Bu (by omega) (by omega) (Nat.lt_succ_self _) _ _ hP hD hS ls (lv_sub hl [1, 2, 3, 0] rfl)
  intro k
  induction k with
  | zero => intro k3 B7 hk0 hk1 hk_2; exact absurd hk_2 (Nat.not_lt_zero _)
  | succ k ih_2 =>
    intro k3 B7 hk0 hk1 hk_2 H locs hP hD hS ls hl
    refine lv_iload_n hx hb dX9_findBurn_2 rfl (lv_at hl 3 rfl) ?_
    refine lv_iconst (v := 5) hx hb dX9_findBurn_3 (by decide) ?_
    refine lv_icmp_ge (tgt := 29) hx hb dX9_findBurn_4 (by decide) (fun c_4 => ?_) (fun c_4 => ?_)
    · have t_4 := (fa_le _ _).mp c_4
      refine lv_aload_n hx hb dX9_findBurn_29 rfl (lv_at hl 0 rfl) ?_
      refine va_get (D := (dC, dI)) (ci := 9) (v := .ref a1) (C := RX9) (T := TX9) (N := 22) hx hb hts in_X9_findBurn_X9 hown hK hP 0 rfl rfl 1 (by decide) (hts (.fieldLink RX9 7 "MeetingsAboveModel" "firsts" "[I") (by decide +kernel)) (fun _ h9 => h9) rfl dX9_findBurn_30 ?_
      refine lv_iload_n hx hb dX9_findBurn_33 rfl (lv_at hl 1 rfl) ?_
      refine va_iald hx hb hK hP 1 0 rfl rfl (vp_in_iff.mpr ⟨by omega, by omega⟩) dX9_findBurn_34 ?_
      refine lv_topi (fun y_1 ey_1 => ?_)
      have uy_1 : y_1.toInt = (Fi (p1 : Int32).toNatClampNeg).toInt := by rw [ey_1]
      refine lv_aload_n hx hb dX9_findBurn_35 rfl (lv_at hl 0 rfl) ?_
      refine va_get (D := (dC, dI)) (ci := 9) (v := .ref a2) (C := RX9) (T := TX9) (N := 22) hx hb hts in_X9_findBurn_X9 hown hK hP 0 rfl rfl 2 (by decide) (hts (.fieldLink RX9 13 "MeetingsAboveModel" "many" "[I") (by decide +kernel)) (fun _ h9 => h9) rfl dX9_findBurn_36 ?_
      refine lv_iload_n hx hb dX9_findBurn_39 rfl (lv_at hl 1 rfl) ?_
      refine va_iald hx hb hK hP 2 0 rfl rfl (vp_in_iff.mpr ⟨by omega, by omega⟩) dX9_findBurn_40 ?_
      refine lv_topi (fun y_2 ey_2 => ?_)
      have uy_2 : y_2.toInt = (Ma (p1 : Int32).toNatClampNeg).toInt := by rw [ey_2]
      refine lv_iadd hx hb dX9_findBurn_41 ?_
      refine lv_topi (fun y_3 ey_3 => ?_)
      have ty_3 : y_3.toInt = y_1.toInt + y_2.toInt := by rw [ey_3]; have := fb_addI (x := y_1) (y := y_2) (by omega) (by omega); omega
      refine lv_iconst (v := 1) hx hb dX9_findBurn_42 (by decide) ?_
      refine lv_isub hx hb dX9_findBurn_43 ?_
      refine lv_topi (fun y_4 ey_4 => ?_)
      have ty_4 : y_4.toInt = y_3.toInt - 1 := by rw [ey_4]; have := fb_subI (x := y_3) (y := 1) (by omega) (by omega); omega
      refine lv_istore_n (lv' := [(3, .int y_4), (0, .ref h0), (1, .int p1), (2, .int p2)]) hx hb dX9_findBurn_44 rfl hl (by decide) rfl (fun ls hl => ?_)
      refine lv_iload_n hx hb dX9_findBurn_45 rfl (lv_at hl 3 rfl) ?_
      refine lv_istore (lv' := [(4, .int p2), (3, .int y_4), (0, .ref h0), (1, .int p1), (2, .int p2)]) hx hb dX9_findBurn_46 hl (by decide) rfl (fun ls hl => ?_)
      refine (show ∀ (k : Nat) (st : Int32) (uq : Int64) (lq : Int64) (wq : Int32) (pq : Int64) (dq : Int64) (B8 : Nat → Int32) (ht0 : p2.toInt ≤ st.toInt) (ht1 : st.toInt ≤ y_4.toInt) (hk_48 : (y_4.toInt - st.toInt).toNat < k) (H : Heap) (locs : List Loc) (hP : va_P (dC, dI) vwCl [(h0, .inr (9, [.int th, .ref a1, .ref a2, .ref a3, .ref a4, .ref a5, .int ne, .int wi, .int dn, .ref a6, .ref a7, .int nn, .ref a8, .int la, .ref a9, .ref a10, .long uq, .long lq, .int wq, .long pq, .long dq, .ref a11])), (a1, .inl (cI, 16, .inl Fi)), (a2, .inl (cI, 16, .inl Ma)), (a4, .inl (cZ, 16, .inl Go)), (a5, .inl (cI, 576, .inl Sp)), (a11, .inl (cI, 5, .inl B8))] H) (hD : va_D A [(h0, .inr (9, [.int th, .ref a1, .ref a2, .ref a3, .ref a4, .ref a5, .int ne, .int wi, .int dn, .ref a6, .ref a7, .int nn, .ref a8, .int la, .ref a9, .ref a10, .long uq, .long lq, .int wq, .long pq, .long dq, .ref a11])), (a1, .inl (cI, 16, .inl Fi)), (a2, .inl (cI, 16, .inl Ma)), (a4, .inl (cZ, 16, .inl Go)), (a5, .inl (cI, 576, .inl Sp)), (a11, .inl (cI, 5, .inl B8))]) (hS : va_S A s.heap H locs) (ls : Array Slot) (hl : lv_has ls 12 [(0, .ref h0), (1, .int p1), (2, .int p2), (3, .int y_4), (4, .int st)]), W p l e _ s m _ below meth c H locs 0 0 _ (F0 m 48 ls []) from ?_) _ p2 up lw wh pu pw B7 (by omega) (by omega) (Nat.lt_succ_self _) H _ hP hD hS ls (lv_sub hl [2, 3, 4, 1, 0] rfl)
      intro k
      induction k with
      | zero => intro st uq lq wq pq dq B8 ht0 ht1 hk_48; exact absurd hk_48 (Nat.not_lt_zero _)
      | succ k ih_48 =>
        intro st uq lq wq pq dq B8 ht0 ht1 hk_48 H locs hP hD hS ls hl
        refine lv_iload hx hb dX9_findBurn_48 (lv_at hl 4 rfl) ?_
        refine lv_iload_n hx hb dX9_findBurn_50 rfl (lv_at hl 3 rfl) ?_
        refine lv_icmp_ge (tgt := 232) hx hb dX9_findBurn_51 (by decide) (fun c_51 => ?_) (fun c_51 => ?_)
        · have t_51 := (fa_le _ _).mp c_51
          have hP9 := hP.sub (ws' := [(h0, .inr (9, [.int th, .ref a1, .ref a2, .ref a3, .ref a4, .ref a5, .int ne, .int wi, .int dn, .ref a6, .ref a7, .int nn, .ref a8, .int la, .ref a9, .ref a10, .long uq, .long lq, .int wq, .long pq, .long dq, .ref a11])), (a1, .inl (cI, 16, .inl Fi)), (a2, .inl (cI, 16, .inl Ma)), (a4, .inl (cZ, 16, .inl Go)), (a5, .inl (cI, 576, .inl Sp)), (a11, .inl (cI, 5, .inl B8))]) [0, 1, 2, 3, 4, 5] rfl
          have hD9 := hD.sub (ws' := [(h0, .inr (9, [.int th, .ref a1, .ref a2, .ref a3, .ref a4, .ref a5, .int ne, .int wi, .int dn, .ref a6, .ref a7, .int nn, .ref a8, .int la, .ref a9, .ref a10, .long uq, .long lq, .int wq, .long pq, .long dq, .ref a11])), (a1, .inl (cI, 16, .inl Fi)), (a2, .inl (cI, 16, .inl Ma)), (a4, .inl (cZ, 16, .inl Go)), (a5, .inl (cI, 576, .inl Sp)), (a11, .inl (cI, 5, .inl B8))]) [0, 1, 2, 3, 4, 5] (by decide) rfl
          have hK9 := hK.sub (tys' := [(cI, .int), (cZ, .boolean)]) [0, 1] rfl
          refine W.widen (k := 0) (n := 0) (by omega) (by omega) ?_
          exact W.vret hx hb hr (fun t ht hW => ⟨⟨(), rfl, trivial, uq, lq, wq, pq, dq, B8, by rw [ht]; exact hP9, va_K.moved hW.alike hK9, hD9⟩, hS.F ht⟩) hS.2.2 dX9_findBurn_232
        · have t_51 := mt (fa_le _ _).mpr c_51
          refine lv_iconst (v := 0) hx hb dX9_findBurn_54 (by decide) ?_
          refine lv_istore (lv' := [(5, .int 0), (0, .ref h0), (1, .int p1), (2, .int p2), (3, .int y_4), (4, .int st)]) hx hb dX9_findBurn_55 hl (by decide) rfl (fun ls hl => ?_)
          refine (show ∀ (k : Nat) (k5 : Int32) (uqx : Int64) (lqx : Int64) (wqx : Int32) (pqx : Int64) (dqx : Int64) (B9 : Nat → Int32) (hv0 : 0 ≤ k5.toInt) (hv1 : k5.toInt ≤ 125) (hk_57 : (125 - k5.toInt).toNat < k) (H : Heap) (locs : List Loc) (hP : va_P (dC, dI) vwCl [(h0, .inr (9, [.int th, .ref a1, .ref a2, .ref a3, .ref a4, .ref a5, .int ne, .int wi, .int dn, .ref a6, .ref a7, .int nn, .ref a8, .int la, .ref a9, .ref a10, .long uqx, .long lqx, .int wqx, .long pqx, .long dqx, .ref a11])), (a1, .inl (cI, 16, .inl Fi)), (a2, .inl (cI, 16, .inl Ma)), (a4, .inl (cZ, 16, .inl Go)), (a5, .inl (cI, 576, .inl Sp)), (a11, .inl (cI, 5, .inl B9))] H) (hD : va_D A [(h0, .inr (9, [.int th, .ref a1, .ref a2, .ref a3, .ref a4, .ref a5, .int ne, .int wi, .int dn, .ref a6, .ref a7, .int nn, .ref a8, .int la, .ref a9, .ref a10, .long uqx, .long lqx, .int wqx, .long pqx, .long dqx, .ref a11])), (a1, .inl (cI, 16, .inl Fi)), (a2, .inl (cI, 16, .inl Ma)), (a4, .inl (cZ, 16, .inl Go)), (a5, .inl (cI, 576, .inl Sp)), (a11, .inl (cI, 5, .inl B9))]) (hS : va_S A s.heap H locs) (ls : Array Slot) (hl : lv_has ls 12 [(0, .ref h0), (1, .int p1), (2, .int p2), (3, .int y_4), (4, .int st), (5, .int k5)]), W p l e _ s m _ below meth c H locs 0 0 _ (F0 m 57 ls []) from ?_) _ 0 uq lq wq pq dq B8 (by omega) (by omega) (Nat.lt_succ_self _) H _ hP hD hS ls (lv_sub hl [1, 2, 3, 4, 5, 0] rfl)
          intro k
          induction k with
          | zero => intro k5 uqx lqx wqx pqx dqx B9 hv0 hv1 hk_57; exact absurd hk_57 (Nat.not_lt_zero _)
          | succ k ih_57 =>
            intro k5 uqx lqx wqx pqx dqx B9 hv0 hv1 hk_57 H locs hP hD hS ls hl
            refine lv_iload hx hb dX9_findBurn_57 (lv_at hl 5 rfl) ?_
            refine lv_bipush (v := 125) hx hb dX9_findBurn_59 (by decide) ?_
            refine lv_icmp_ge (tgt := 226) hx hb dX9_findBurn_61 (by decide) (fun c_61 => ?_) (fun c_61 => ?_)
            · have t_61 := (fa_le _ _).mp c_61
              obtain ⟨y_5, ey_5⟩ : ∃ y : Int32, y = st + 1 := ⟨_, rfl⟩
              have ty_5 : y_5.toInt = st.toInt + 1 := by rw [ey_5]; have := fb_addI (x := st) (y := 1) (by omega) (by omega); omega
              refine lv_iinc (v := y_5) (lv' := [(4, .int y_5), (0, .ref h0), (1, .int p1), (2, .int p2), (3, .int y_4), (5, .int k5)]) hx hb dX9_findBurn_226 hl (k := 4) rfl (by rw [ey_5]; rfl) (by decide) rfl (fun ls hl => ?_)
              refine lv_goto (tgt := 48) hx hb dX9_findBurn_229 (by decide) ?_
              exact ih_48 y_5 uqx lqx wqx pqx dqx B9 (by omega) (by omega) (by omega) H _ (hP.sub [0, 1, 2, 3, 4, 5] rfl) (hD.sub [0, 1, 2, 3, 4, 5] (by decide) rfl) hS ls (lv_sub hl [1, 2, 3, 4, 0] rfl)
            · have t_61 := mt (fa_le _ _).mpr c_61
              refine lv_iload hx hb dX9_findBurn_64 (lv_at hl 5 rfl) ?_
              refine lv_bipush (v := 25) hx hb dX9_findBurn_66 (by decide) ?_
              refine lv_idiv hx hb dX9_findBurn_68 (by decide) ?_
              refine lv_topi (fun y_6 ey_6 => ?_)
              refine lv_iconst (v := 2) hx hb dX9_findBurn_69 (by decide) ?_
              refine lv_isub hx hb dX9_findBurn_70 ?_
              refine lv_topi (fun y_7 ey_7 => ?_)
              refine lv_istore (lv' := [(6, .int y_7), (0, .ref h0), (1, .int p1), (2, .int p2), (3, .int y_4), (4, .int st), (5, .int k5)]) hx hb dX9_findBurn_71 hl (by decide) rfl (fun ls hl => ?_)
              refine lv_iload hx hb dX9_findBurn_73 (lv_at hl 6 rfl) ?_
              refine lv_iconst (v := 5) hx hb dX9_findBurn_75 (by decide) ?_
              refine lv_idiv hx hb dX9_findBurn_76 (by decide) ?_
              refine lv_topi (fun y_8 ey_8 => ?_)
              refine lv_iconst (v := 5) hx hb dX9_findBurn_77 (by decide) ?_
              refine lv_irem hx hb dX9_findBurn_78 (by decide) ?_
              refine lv_topi (fun y_9 ey_9 => ?_)
              refine lv_iconst (v := 2) hx hb dX9_findBurn_79 (by decide) ?_
              refine lv_isub hx hb dX9_findBurn_80 ?_
              refine lv_topi (fun y_10 ey_10 => ?_)
              refine lv_istore (lv' := [(7, .int y_10), (6, .int y_7), (0, .ref h0), (1, .int p1), (2, .int p2), (3, .int y_4), (4, .int st), (5, .int k5)]) hx hb dX9_findBurn_81 hl (by decide) rfl (fun ls hl => ?_)
              refine lv_iload hx hb dX9_findBurn_83 (lv_at hl 7 rfl) ?_
              refine lv_iconst (v := 5) hx hb dX9_findBurn_85 (by decide) ?_
              refine lv_irem hx hb dX9_findBurn_86 (by decide) ?_
              refine lv_topi (fun y_11 ey_11 => ?_)
              refine lv_iconst (v := 2) hx hb dX9_findBurn_87 (by decide) ?_
              refine lv_isub hx hb dX9_findBurn_88 ?_
              refine lv_topi (fun y_12 ey_12 => ?_)
              refine lv_istore (lv' := [(8, .int y_12), (7, .int y_10), (6, .int y_7), (0, .ref h0), (1, .int p1), (2, .int p2), (3, .int y_4), (4, .int st), (5, .int k5)]) hx hb dX9_findBurn_89 hl (by decide) rfl (fun ls hl => ?_)
              refine lv_iload hx hb dX9_findBurn_91 (lv_at hl 2 rfl) ?_
              refine vp_callSi (W.runS (As := [.int y_7]) (rest := []) ⟨hx, hb, hml, hown, hts⟩ (c_X9_size l dC dI y_7) (va_cwS 1 hts g_X9_findBurn__X9_size_181 rfl rfl rfl (by decide +kernel) ⟨Nat.le_of_ble_eq_true rfl, Nat.le_of_ble_eq_true rfl⟩) ⟨fun a U g mk q => by obtain ⟨q0, q1⟩ := q; exact ⟨q0, q1⟩, fun U hU hW => ⟨rfl, trivial⟩⟩ rfl rfl hl.1 rfl (lv_room (Nat.le_of_ble_eq_true rfl)) dX9_findBurn_93 ⟨Nat.le_of_ble_eq_true rfl, Nat.le_of_ble_eq_true rfl⟩) (fun r_13 hr_13 => ?_)
              try dsimp only at hr_13
              refine lv_iload hx hb dX9_findBurn_96 (lv_at hl 1 rfl) ?_
              refine vp_callSi (W.runS (As := [.int y_10]) (rest := [.int r_13]) ⟨hx, hb, hml, hown, hts⟩ (c_X9_size l dC dI y_10) (va_cwS 1 hts g_X9_findBurn__X9_size_181 rfl rfl rfl (by decide +kernel) ⟨Nat.le_of_ble_eq_true rfl, Nat.le_of_ble_eq_true rfl⟩) ⟨fun a U g mk q => by obtain ⟨q0, q1⟩ := q; exact ⟨q0, q1⟩, fun U hU hW => ⟨rfl, trivial⟩⟩ rfl rfl hl.1 rfl (lv_room (Nat.le_of_ble_eq_true rfl)) dX9_findBurn_98 ⟨Nat.le_of_ble_eq_true rfl, Nat.le_of_ble_eq_true rfl⟩) (fun r_14 hr_14 => ?_)
              try dsimp only at hr_14
              refine lv_iadd hx hb dX9_findBurn_101 ?_
              refine lv_topi (fun y_15 ey_15 => ?_)
              refine lv_iload hx hb dX9_findBurn_102 (lv_at hl 0 rfl) ?_
              refine vp_callSi (W.runS (As := [.int y_12]) (rest := [.int y_15]) ⟨hx, hb, hml, hown, hts⟩ (c_X9_size l dC dI y_12) (va_cwS 1 hts g_X9_findBurn__X9_size_181 rfl rfl rfl (by decide +kernel) ⟨Nat.le_of_ble_eq_true rfl, Nat.le_of_ble_eq_true rfl⟩) ⟨fun a U g mk q => by obtain ⟨q0, q1⟩ := q; exact ⟨q0, q1⟩, fun U hU hW => ⟨rfl, trivial⟩⟩ rfl rfl hl.1 rfl (lv_room (Nat.le_of_ble_eq_true rfl)) dX9_findBurn_104 ⟨Nat.le_of_ble_eq_true rfl, Nat.le_of_ble_eq_true rfl⟩) (fun r_16 hr_16 => ?_)
              try dsimp only at hr_16
              refine lv_iadd hx hb dX9_findBurn_107 ?_
              refine lv_topi (fun y_17 ey_17 => ?_)
              refine lv_istore (lv' := [(9, .int y_17), (8, .int y_12), (7, .int y_10), (6, .int y_7), (0, .ref h0), (1, .int p1), (2, .int p2), (3, .int y_4), (4, .int st), (5, .int k5)]) hx hb dX9_findBurn_108 hl (by decide) rfl (fun ls hl => ?_)
              refine lv_iload hx hb dX9_findBurn_110 (lv_at hl 0 rfl) ?_
              refine lv_if_le (tgt := 220) hx hb dX9_findBurn_112 (by decide) (fun c_112 => ?_) (fun c_112 => ?_)
              · have t_112 := (fa_le _ _).mp c_112
                obtain ⟨y_18, ey_18⟩ : ∃ y : Int32, y = k5 + 1 := ⟨_, rfl⟩
                have ty_18 : y_18.toInt = k5.toInt + 1 := by rw [ey_18]; have := fb_addI (x := k5) (y := 1) (by omega) (by omega); omega
                refine lv_iinc (v := y_18) (lv' := [(5, .int y_18), (9, .int y_17), (8, .int y_12), (7, .int y_10), (6, .int y_7), (0, .ref h0), (1, .int p1), (2, .int p2), (3, .int y_4), (4, .int st)]) hx hb dX9_findBurn_220 hl (k := 9) rfl (by rw [ey_18]; rfl) (by decide) rfl (fun ls hl => ?_)
                refine lv_goto (tgt := 57) hx hb dX9_findBurn_223 (by decide) ?_
                exact ih_57 y_18 uqx lqx wqx pqx dqx B9 (by omega) (by omega) (by omega) H _ (hP.sub [0, 1, 2, 3, 4, 5] rfl) (hD.sub [0, 1, 2, 3, 4, 5] (by decide) rfl) hS ls (lv_sub hl [5, 6, 7, 8, 9, 0] rfl)
              · have t_112 := mt (fa_le _ _).mpr c_112
                refine lv_aload_n hx hb dX9_findBurn_115 rfl (lv_at hl 4 rfl) ?_
                refine lv_iload hx hb dX9_findBurn_116 (lv_at hl 0 rfl) ?_
                refine lv_iload hx hb dX9_findBurn_118 (lv_at hl 8 rfl) ?_
                have hPc := hP.sub (ws' := [(h0, .inr (9, [.int th, .ref a1, .ref a2, .ref a3, .ref a4, .ref a5, .int ne, .int wi, .int dn, .ref a6, .ref a7, .int nn, .ref a8, .int la, .ref a9, .ref a10, .long uqx, .long lqx, .int wqx, .long pqx, .long dqx, .ref a11])), (a11, .inl (cI, 5, .inl B9))]) [0, 5] rfl
                have hKc := hK.sub (tys' := [(cI, .int)]) [0] rfl
                refine vp_callSi (W.runV (As := [.int y_17, .int st]) (rest := []) ⟨hx, hb, hml, hown, hts⟩ (c_X9_isBetter l dC dI h0 a1 a2 a3 a4 a5 a6 a7 a8 a9 a10 a11 th ne wi dn nn la wqx uqx lqx pqx dqx cI B9 y_17 st) (cwV 2 hts g_X9_findBurn__X9_isBetter_184 rfl rfl rfl (by decide +kernel) ⟨Nat.le_of_ble_eq_true rfl, Nat.le_of_ble_eq_true rfl⟩) ⟨fun a U g mk q => by obtain ⟨q0, qP, qK⟩ := q; exact ⟨q0, qP, va_K.moved (u := U) (U := U.calling g mk a) (Vm.Alike.refl U.vm) qK⟩, va_recv hKc hPc (ci := 9) (q0 := 0) rfl rfl, fun U hU hW => ⟨rfl, by rw [hU]; exact hPc, va_K.moved hW.alike hKc⟩⟩ rfl rfl hl.1 rfl (lv_room (Nat.le_of_ble_eq_true rfl)) dX9_findBurn_120 ⟨Nat.le_of_ble_eq_true rfl, Nat.le_of_ble_eq_true rfl⟩) (fun r_19 hr_19 => ?_)
                try dsimp only at hr_19
                refine lv_if_eq (tgt := 220) hx hb dX9_findBurn_123 (by decide) (fun c_123 => ?_) (fun c_123 => ?_)
                · have t_123 := (fa_eq _ _).mp c_123
                  obtain ⟨y_20, ey_20⟩ : ∃ y : Int32, y = k5 + 1 := ⟨_, rfl⟩
                  have ty_20 : y_20.toInt = k5.toInt + 1 := by rw [ey_20]; have := fb_addI (x := k5) (y := 1) (by omega) (by omega); omega
                  refine lv_iinc (v := y_20) (lv' := [(5, .int y_20), (9, .int y_17), (8, .int y_12), (7, .int y_10), (6, .int y_7), (0, .ref h0), (1, .int p1), (2, .int p2), (3, .int y_4), (4, .int st)]) hx hb dX9_findBurn_220 hl (k := 9) rfl (by rw [ey_20]; rfl) (by decide) rfl (fun ls hl => ?_)
                  refine lv_goto (tgt := 57) hx hb dX9_findBurn_223 (by decide) ?_
                  exact ih_57 y_20 uqx lqx wqx pqx dqx B9 (by omega) (by omega) (by omega) H _ (hP.sub [0, 1, 2, 3, 4, 5] rfl) (hD.sub [0, 1, 2, 3, 4, 5] (by decide) rfl) hS ls (lv_sub hl [5, 6, 7, 8, 9, 0] rfl)
                · have t_123 := mt (fa_eq _ _).mpr c_123
                  refine lv_aload_n hx hb dX9_findBurn_126 rfl (lv_at hl 4 rfl) ?_
                  refine lv_iload_n hx hb dX9_findBurn_127 rfl (lv_at hl 5 rfl) ?_
                  refine lv_iload hx hb dX9_findBurn_128 (lv_at hl 8 rfl) ?_
                  refine lv_iload hx hb dX9_findBurn_130 (lv_at hl 3 rfl) ?_
                  refine lv_iload hx hb dX9_findBurn_132 (lv_at hl 2 rfl) ?_
                  refine lv_iload hx hb dX9_findBurn_134 (lv_at hl 1 rfl) ?_
                  have hPc := hP.sub (ws' := [(h0, .inr (9, [.int th, .ref a1, .ref a2, .ref a3, .ref a4, .ref a5, .int ne, .int wi, .int dn, .ref a6, .ref a7, .int nn, .ref a8, .int la, .ref a9, .ref a10, .long uqx, .long lqx, .int wqx, .long pqx, .long dqx, .ref a11])), (a1, .inl (cI, 16, .inl Fi)), (a2, .inl (cI, 16, .inl Ma)), (a5, .inl (cI, 576, .inl Sp))]) [0, 1, 2, 4] rfl
                  have hKc := hK.sub (tys' := [(cI, .int)]) [0] rfl
                  have hDc := hD.sub (ws' := [(h0, .inr (9, [.int th, .ref a1, .ref a2, .ref a3, .ref a4, .ref a5, .int ne, .int wi, .int dn, .ref a6, .ref a7, .int nn, .ref a8, .int la, .ref a9, .ref a10, .long uqx, .long lqx, .int wqx, .long pqx, .long dqx, .ref a11])), (a1, .inl (cI, 16, .inl Fi)), (a2, .inl (cI, 16, .inl Ma)), (a5, .inl (cI, 576, .inl Sp))]) [0, 1, 2, 4] (by decide) rfl
                  have hFc := va_free (wc := [(h0, .inr (9, [.int th, .ref a1, .ref a2, .ref a3, .ref a4, .ref a5, .int ne, .int wi, .int dn, .ref a6, .ref a7, .int nn, .ref a8, .int la, .ref a9, .ref a10, .long uqx, .long lqx, .int wqx, .long pqx, .long dqx, .ref a11])), (a1, .inl (cI, 16, .inl Fi)), (a2, .inl (cI, 16, .inl Ma)), (a5, .inl (cI, 576, .inl Sp))]) hD hS hA [0, 1, 2, 4] rfl
                  refine va_calli (va_runV (As := [.int p1, .int st, .int y_7, .int y_10, .int y_12]) (rest := []) ⟨hx, hb, hml, hown, hts⟩ (c_X9_shift l dC dI h0 a1 a2 a3 a4 a5 a6 a7 a8 a9 a10 a11 th ne wi dn nn la wqx uqx lqx pqx dqx cI Fi Ma Sp p1 st y_7 y_10 y_12 H.size (by first | assumption | omega) (by first | omega | assumption) (by first | omega | assumption) (by first | omega | assumption) (by first | omega | assumption)) (cwV 5 hts g_X9_findBurn__X9_shift_187 rfl rfl rfl (by decide +kernel) ⟨Nat.le_of_ble_eq_true rfl, Nat.le_of_ble_eq_true rfl⟩) ⟨fun a U g mk q => by obtain ⟨q0, q1, qP, qK, qD⟩ := q; exact ⟨q0, q1, qP, va_K.moved (u := U) (U := U.calling g mk a) (Vm.Alike.refl U.vm) qK, qD⟩, va_recv hKc hPc (ci := 9) (q0 := 0) rfl rfl, fun U hU hW => ⟨rfl, by rw [hU], by rw [hU]; exact hPc, va_K.moved hW.alike hKc, hDc.weaken (fun _ _ _ _ => trivial)⟩⟩ rfl rfl hl.1 rfl (lv_room (Nat.le_of_ble_eq_true rfl)) dX9_findBurn_136 ⟨Nat.le_of_ble_eq_true rfl, Nat.le_of_ble_eq_true rfl⟩) hS (fun q _ h => hFc q h) hFc (fun r_22 u_21 t H1 locs ht hvm hw_22 hB hz1 hk1 hS => ?_)
                  obtain ⟨Sp9_23, hP1, hK1, hD1, hS9_24⟩ := hB
                  rw [ht] at hP1
                  have hK1 := va_K.moved hvm.symm hK1
                  obtain ⟨hP, hD⟩ := va_join (wr := [(a4, .inl (cZ, 16, .inl Go)), (a11, .inl (cI, 5, .inl B9))]) (w1 := [(h0, .inr (9, [.int th, .ref a1, .ref a2, .ref a3, .ref a4, .ref a5, .int ne, .int wi, .int dn, .ref a6, .ref a7, .int nn, .ref a8, .int la, .ref a9, .ref a10, .long uqx, .long lqx, .int wqx, .long pqx, .long dqx, .ref a11])), (a1, .inl (cI, 16, .inl Fi)), (a2, .inl (cI, 16, .inl Ma)), (a5, .inl (cI, 576, .inl Sp9_23))]) hP hD [0, 1, 2, 4] [3, 5] rfl rfl (by decide) (by decide) hk1 hFc hP1 hD1
                  have hK := (hK.sub (tys' := [(cI, .int), (cZ, .boolean)]) [0, 1] rfl).app hK1
                  generalize H1 = H at hP hS ⊢
                  have hP : va_P (dC, dI) vwCl [(a4, .inl (cZ, 16, .inl Go)), (a11, .inl (cI, 5, .inl B9)), (h0, .inr (9, [.int th, .ref a1, .ref a2, .ref a3, .ref a4, .ref a5, .int ne, .int wi, .int dn, .ref a6, .ref a7, .int nn, .ref a8, .int la, .ref a9, .ref a10, .long uqx, .long lqx, .int wqx, .long pqx, .long dqx, .ref a11])), (a1, .inl (cI, 16, .inl Fi)), (a2, .inl (cI, 16, .inl Ma)), (a5, .inl (cI, 576, .inl Sp9_23))] H := hP
                  have hD : va_D A [(a4, .inl (cZ, 16, .inl Go)), (a11, .inl (cI, 5, .inl B9)), (h0, .inr (9, [.int th, .ref a1, .ref a2, .ref a3, .ref a4, .ref a5, .int ne, .int wi, .int dn, .ref a6, .ref a7, .int nn, .ref a8, .int la, .ref a9, .ref a10, .long uqx, .long lqx, .int wqx, .long pqx, .long dqx, .ref a11])), (a1, .inl (cI, 16, .inl Fi)), (a2, .inl (cI, 16, .inl Ma)), (a5, .inl (cI, 576, .inl Sp9_23))] := hD
                  have hK : va_K (dC, dI) vwCl [(cI, .int), (cZ, .boolean), (cI, .int)] s := hK
                  refine W.widen (k := 0) (n := 0) (by omega) (by omega) ?_
                  try dsimp only at hw_22
                  refine lv_if_eq (tgt := 154) hx hb dX9_findBurn_139 (by decide) (fun c_139 => ?_) (fun c_139 => ?_)
                  · have t_139 := (fa_eq _ _).mp c_139
                    refine lv_iconst (v := 0) hx hb dX9_findBurn_154 (by decide) ?_
                    refine lv_istore (lv' := [(10, .int 0), (9, .int y_17), (8, .int y_12), (7, .int y_10), (6, .int y_7), (0, .ref h0), (1, .int p1), (2, .int p2), (3, .int y_4), (4, .int st), (5, .int k5)]) hx hb dX9_findBurn_155 hl (by decide) rfl (fun ls hl => ?_)
                    refine lv_aload_n hx hb dX9_findBurn_157 rfl (lv_at hl 5 rfl) ?_
                    refine lv_iload_n hx hb dX9_findBurn_158 rfl (lv_at hl 6 rfl) ?_
                    refine lv_iload hx hb dX9_findBurn_159 (lv_at hl 9 rfl) ?_
                    refine lv_iload hx hb dX9_findBurn_161 (lv_at hl 4 rfl) ?_
                    refine lv_ineg hx hb dX9_findBurn_163 ?_
                    refine lv_topi (fun y_25 ey_25 => ?_)
                    refine lv_iload hx hb dX9_findBurn_164 (lv_at hl 3 rfl) ?_
                    refine lv_ineg hx hb dX9_findBurn_166 ?_
                    refine lv_topi (fun y_26 ey_26 => ?_)
                    refine lv_iload hx hb dX9_findBurn_167 (lv_at hl 2 rfl) ?_
                    refine lv_ineg hx hb dX9_findBurn_169 ?_
                    refine lv_topi (fun y_27 ey_27 => ?_)
                    have hPc := hP.sub (ws' := [(h0, .inr (9, [.int th, .ref a1, .ref a2, .ref a3, .ref a4, .ref a5, .int ne, .int wi, .int dn, .ref a6, .ref a7, .int nn, .ref a8, .int la, .ref a9, .ref a10, .long uqx, .long lqx, .int wqx, .long pqx, .long dqx, .ref a11])), (a1, .inl (cI, 16, .inl Fi)), (a2, .inl (cI, 16, .inl Ma)), (a5, .inl (cI, 576, .inl Sp9_23))]) [2, 3, 4, 5] rfl
                    have hKc := hK.sub (tys' := [(cI, .int)]) [0] rfl
                    have hDc := hD.sub (ws' := [(h0, .inr (9, [.int th, .ref a1, .ref a2, .ref a3, .ref a4, .ref a5, .int ne, .int wi, .int dn, .ref a6, .ref a7, .int nn, .ref a8, .int la, .ref a9, .ref a10, .long uqx, .long lqx, .int wqx, .long pqx, .long dqx, .ref a11])), (a1, .inl (cI, 16, .inl Fi)), (a2, .inl (cI, 16, .inl Ma)), (a5, .inl (cI, 576, .inl Sp9_23))]) [2, 3, 4, 5] (by decide) rfl
                    have hFc := va_free (wc := [(h0, .inr (9, [.int th, .ref a1, .ref a2, .ref a3, .ref a4, .ref a5, .int ne, .int wi, .int dn, .ref a6, .ref a7, .int nn, .ref a8, .int la, .ref a9, .ref a10, .long uqx, .long lqx, .int wqx, .long pqx, .long dqx, .ref a11])), (a1, .inl (cI, 16, .inl Fi)), (a2, .inl (cI, 16, .inl Ma)), (a5, .inl (cI, 576, .inl Sp9_23))]) hD hS hA [2, 3, 4, 5] rfl
                    refine va_calli (va_runV (As := [.int p1, .int st, .int y_25, .int y_26, .int y_27]) (rest := []) ⟨hx, hb, hml, hown, hts⟩ (c_X9_shift l dC dI h0 a1 a2 a3 a4 a5 a6 a7 a8 a9 a10 a11 th ne wi dn nn la wqx uqx lqx pqx dqx cI Fi Ma Sp9_23 p1 st y_25 y_26 y_27 H.size (by first | assumption | omega) (by first | omega | assumption) (by first | omega | assumption) (by first | omega | assumption) (by first | omega | assumption)) (cwV 5 hts g_X9_findBurn__X9_shift_187 rfl rfl rfl (by decide +kernel) ⟨Nat.le_of_ble_eq_true rfl, Nat.le_of_ble_eq_true rfl⟩) ⟨fun a U g mk q => by obtain ⟨q0, q1, qP, qK, qD⟩ := q; exact ⟨q0, q1, qP, va_K.moved (u := U) (U := U.calling g mk a) (Vm.Alike.refl U.vm) qK, qD⟩, va_recv hKc hPc (ci := 9) (q0 := 0) rfl rfl, fun U hU hW => ⟨rfl, by rw [hU], by rw [hU]; exact hPc, va_K.moved hW.alike hKc, hDc.weaken (fun _ _ _ _ => trivial)⟩⟩ rfl rfl hl.1 rfl (lv_room (Nat.le_of_ble_eq_true rfl)) dX9_findBurn_170 ⟨Nat.le_of_ble_eq_true rfl, Nat.le_of_ble_eq_true rfl⟩) hS (fun q _ h => hFc q h) hFc (fun r_29 u_28 t H1 locs ht hvm hw_29 hB hz1 hk1 hS => ?_)
                    obtain ⟨Sp9_30, hP1, hK1, hD1, hS9_31⟩ := hB
                    rw [ht] at hP1
                    have hK1 := va_K.moved hvm.symm hK1
                    obtain ⟨hP, hD⟩ := va_join (wr := [(a4, .inl (cZ, 16, .inl Go)), (a11, .inl (cI, 5, .inl B9))]) (w1 := [(h0, .inr (9, [.int th, .ref a1, .ref a2, .ref a3, .ref a4, .ref a5, .int ne, .int wi, .int dn, .ref a6, .ref a7, .int nn, .ref a8, .int la, .ref a9, .ref a10, .long uqx, .long lqx, .int wqx, .long pqx, .long dqx, .ref a11])), (a1, .inl (cI, 16, .inl Fi)), (a2, .inl (cI, 16, .inl Ma)), (a5, .inl (cI, 576, .inl Sp9_30))]) hP hD [2, 3, 4, 5] [0, 1] rfl rfl (by decide) (by decide) hk1 hFc hP1 hD1
                    have hK := (hK.sub (tys' := [(cI, .int), (cZ, .boolean), (cI, .int)]) [0, 1, 2] rfl).app hK1
                    generalize H1 = H at hP hS ⊢
                    have hP : va_P (dC, dI) vwCl [(a4, .inl (cZ, 16, .inl Go)), (a11, .inl (cI, 5, .inl B9)), (h0, .inr (9, [.int th, .ref a1, .ref a2, .ref a3, .ref a4, .ref a5, .int ne, .int wi, .int dn, .ref a6, .ref a7, .int nn, .ref a8, .int la, .ref a9, .ref a10, .long uqx, .long lqx, .int wqx, .long pqx, .long dqx, .ref a11])), (a1, .inl (cI, 16, .inl Fi)), (a2, .inl (cI, 16, .inl Ma)), (a5, .inl (cI, 576, .inl Sp9_30))] H := hP
                    have hD : va_D A [(a4, .inl (cZ, 16, .inl Go)), (a11, .inl (cI, 5, .inl B9)), (h0, .inr (9, [.int th, .ref a1, .ref a2, .ref a3, .ref a4, .ref a5, .int ne, .int wi, .int dn, .ref a6, .ref a7, .int nn, .ref a8, .int la, .ref a9, .ref a10, .long uqx, .long lqx, .int wqx, .long pqx, .long dqx, .ref a11])), (a1, .inl (cI, 16, .inl Fi)), (a2, .inl (cI, 16, .inl Ma)), (a5, .inl (cI, 576, .inl Sp9_30))] := hD
                    have hK : va_K (dC, dI) vwCl [(cI, .int), (cZ, .boolean), (cI, .int), (cI, .int)] s := hK
                    refine W.widen (k := 0) (n := 0) (by omega) (by omega) ?_
                    try dsimp only at hw_29
                    refine lv_istore (lv' := [(11, .int r_29), (10, .int 0), (9, .int y_17), (8, .int y_12), (7, .int y_10), (6, .int y_7), (0, .ref h0), (1, .int p1), (2, .int p2), (3, .int y_4), (4, .int st), (5, .int k5)]) hx hb dX9_findBurn_173 hl (by decide) rfl (fun ls hl => ?_)
                    have hSb : Sp9_30 = Sp := hS9_31.trans (by rw [hS9_24, ey_25, ey_26, ey_27]; exact mvK_back _ _ _ _ _ _)
                    rw [hSb] at hP hD
                    have hP : va_P (dC, dI) vwCl [(a4, .inl (cZ, 16, .inl Go)), (a11, .inl (cI, 5, .inl B9)), (h0, .inr (9, [.int th, .ref a1, .ref a2, .ref a3, .ref a4, .ref a5, .int ne, .int wi, .int dn, .ref a6, .ref a7, .int nn, .ref a8, .int la, .ref a9, .ref a10, .long uqx, .long lqx, .int wqx, .long pqx, .long dqx, .ref a11])), (a1, .inl (cI, 16, .inl Fi)), (a2, .inl (cI, 16, .inl Ma)), (a5, .inl (cI, 576, .inl Sp))] H := hP
                    have hD : va_D A [(a4, .inl (cZ, 16, .inl Go)), (a11, .inl (cI, 5, .inl B9)), (h0, .inr (9, [.int th, .ref a1, .ref a2, .ref a3, .ref a4, .ref a5, .int ne, .int wi, .int dn, .ref a6, .ref a7, .int nn, .ref a8, .int la, .ref a9, .ref a10, .long uqx, .long lqx, .int wqx, .long pqx, .long dqx, .ref a11])), (a1, .inl (cI, 16, .inl Fi)), (a2, .inl (cI, 16, .inl Ma)), (a5, .inl (cI, 576, .inl Sp))] := hD
                    refine lv_iload hx hb dX9_findBurn_175 (lv_at hl 1 rfl) ?_
                    refine lv_if_eq (tgt := 220) hx hb dX9_findBurn_177 (by decide) (fun _ => ?_) (fun h9 => absurd h9 (by decide))
                    obtain ⟨y_32, ey_32⟩ : ∃ y : Int32, y = k5 + 1 := ⟨_, rfl⟩
                    have ty_32 : y_32.toInt = k5.toInt + 1 := by rw [ey_32]; have := fb_addI (x := k5) (y := 1) (by omega) (by omega); omega
                    refine lv_iinc (v := y_32) (lv' := [(5, .int y_32), (11, .int r_29), (10, .int 0), (9, .int y_17), (8, .int y_12), (7, .int y_10), (6, .int y_7), (0, .ref h0), (1, .int p1), (2, .int p2), (3, .int y_4), (4, .int st)]) hx hb dX9_findBurn_220 hl (k := 11) rfl (by rw [ey_32]; rfl) (by decide) rfl (fun ls hl => ?_)
                    refine lv_goto (tgt := 57) hx hb dX9_findBurn_223 (by decide) ?_
                    exact ih_57 y_32 uqx lqx wqx pqx dqx B9 (by omega) (by omega) (by omega) H _ (hP.sub [2, 3, 4, 0, 5, 1] rfl) (hD.sub [2, 3, 4, 0, 5, 1] (by decide) rfl) hS ls (lv_sub hl [7, 8, 9, 10, 11, 0] rfl)
                  · have t_139 := mt (fa_eq _ _).mpr c_139
                    refine lv_aload_n hx hb dX9_findBurn_142 rfl (lv_at hl 4 rfl) ?_
                    refine lv_iload_n hx hb dX9_findBurn_143 rfl (lv_at hl 5 rfl) ?_
                    have hPc := hP.sub (ws' := [(h0, .inr (9, [.int th, .ref a1, .ref a2, .ref a3, .ref a4, .ref a5, .int ne, .int wi, .int dn, .ref a6, .ref a7, .int nn, .ref a8, .int la, .ref a9, .ref a10, .long uqx, .long lqx, .int wqx, .long pqx, .long dqx, .ref a11])), (a1, .inl (cI, 16, .inl Fi)), (a2, .inl (cI, 16, .inl Ma)), (a4, .inl (cZ, 16, .inl Go)), (a5, .inl (cI, 576, .inl Sp9_23))]) [2, 3, 4, 0, 5] rfl
                    have hKc := hK.sub (tys' := [(cI, .int), (cZ, .boolean)]) [0, 1] rfl
                    have hDc := hD.sub (ws' := [(h0, .inr (9, [.int th, .ref a1, .ref a2, .ref a3, .ref a4, .ref a5, .int ne, .int wi, .int dn, .ref a6, .ref a7, .int nn, .ref a8, .int la, .ref a9, .ref a10, .long uqx, .long lqx, .int wqx, .long pqx, .long dqx, .ref a11])), (a1, .inl (cI, 16, .inl Fi)), (a2, .inl (cI, 16, .inl Ma)), (a4, .inl (cZ, 16, .inl Go)), (a5, .inl (cI, 576, .inl Sp9_23))]) [2, 3, 4, 0, 5] (by decide) rfl
                    have hFc := va_free (wc := [(h0, .inr (9, [.int th, .ref a1, .ref a2, .ref a3, .ref a4, .ref a5, .int ne, .int wi, .int dn, .ref a6, .ref a7, .int nn, .ref a8, .int la, .ref a9, .ref a10, .long uqx, .long lqx, .int wqx, .long pqx, .long dqx, .ref a11])), (a1, .inl (cI, 16, .inl Fi)), (a2, .inl (cI, 16, .inl Ma)), (a4, .inl (cZ, 16, .inl Go)), (a5, .inl (cI, 576, .inl Sp9_23))]) hD hS hA [2, 3, 4, 0, 5] rfl
                    refine va_calli (va_runV (As := [.int p1]) (rest := []) ⟨hx, hb, hml, hown, hts⟩ (c_X9_meets l dC dI h0 a1 a2 a3 a4 a5 a6 a7 a8 a9 a10 a11 th ne wi dn nn la wqx uqx lqx pqx dqx cI cZ Fi Ma Go Sp9_23 p1 H.size (by first | assumption | omega) (by first | omega | assumption) (by first | omega | assumption)) (cwV 1 hts g_X9_findBurn__X9_meets_102 rfl rfl rfl (by decide +kernel) ⟨Nat.le_of_ble_eq_true rfl, Nat.le_of_ble_eq_true rfl⟩) ⟨fun a U g mk q => by obtain ⟨q0, q1, qP, qK, qD⟩ := q; exact ⟨q0, q1, qP, va_K.moved (u := U) (U := U.calling g mk a) (Vm.Alike.refl U.vm) qK, qD⟩, va_recv hKc hPc (ci := 9) (q0 := 0) rfl rfl, fun U hU hW => ⟨rfl, by rw [hU], by rw [hU]; exact hPc, va_K.moved hW.alike hKc, hDc.weaken (fun _ _ _ _ => trivial)⟩⟩ rfl rfl hl.1 rfl (lv_room (Nat.le_of_ble_eq_true rfl)) dX9_findBurn_144 ⟨Nat.le_of_ble_eq_true rfl, Nat.le_of_ble_eq_true rfl⟩) hS (fun q _ h => hFc q h) hFc (fun r_34 u_33 t H1 locs ht hvm hw_34 hB hz1 hk1 hS => ?_)
                    obtain ⟨up9_35, lw9_36, wh9_37, pu9_38, pw9_39, hP1, hK1, hD1⟩ := hB
                    rw [ht] at hP1
                    have hK1 := va_K.moved hvm.symm hK1
                    obtain ⟨hP, hD⟩ := va_join (wr := [(a11, .inl (cI, 5, .inl B9))]) (w1 := [(h0, .inr (9, [.int th, .ref a1, .ref a2, .ref a3, .ref a4, .ref a5, .int ne, .int wi, .int dn, .ref a6, .ref a7, .int nn, .ref a8, .int la, .ref a9, .ref a10, .long up9_35, .long lw9_36, .int wh9_37, .long pu9_38, .long pw9_39, .ref a11])), (a1, .inl (cI, 16, .inl Fi)), (a2, .inl (cI, 16, .inl Ma)), (a4, .inl (cZ, 16, .inl Go)), (a5, .inl (cI, 576, .inl Sp9_23))]) hP hD [2, 3, 4, 0, 5] [1] rfl rfl (by decide) (by decide) hk1 hFc hP1 hD1
                    have hK := (hK.sub (tys' := [(cI, .int), (cZ, .boolean), (cI, .int)]) [0, 1, 2] rfl).app hK1
                    generalize H1 = H at hP hS ⊢
                    have hP : va_P (dC, dI) vwCl [(a11, .inl (cI, 5, .inl B9)), (h0, .inr (9, [.int th, .ref a1, .ref a2, .ref a3, .ref a4, .ref a5, .int ne, .int wi, .int dn, .ref a6, .ref a7, .int nn, .ref a8, .int la, .ref a9, .ref a10, .long up9_35, .long lw9_36, .int wh9_37, .long pu9_38, .long pw9_39, .ref a11])), (a1, .inl (cI, 16, .inl Fi)), (a2, .inl (cI, 16, .inl Ma)), (a4, .inl (cZ, 16, .inl Go)), (a5, .inl (cI, 576, .inl Sp9_23))] H := hP
                    have hD : va_D A [(a11, .inl (cI, 5, .inl B9)), (h0, .inr (9, [.int th, .ref a1, .ref a2, .ref a3, .ref a4, .ref a5, .int ne, .int wi, .int dn, .ref a6, .ref a7, .int nn, .ref a8, .int la, .ref a9, .ref a10, .long up9_35, .long lw9_36, .int wh9_37, .long pu9_38, .long pw9_39, .ref a11])), (a1, .inl (cI, 16, .inl Fi)), (a2, .inl (cI, 16, .inl Ma)), (a4, .inl (cZ, 16, .inl Go)), (a5, .inl (cI, 576, .inl Sp9_23))] := hD
                    have hK : va_K (dC, dI) vwCl [(cI, .int), (cZ, .boolean), (cI, .int), (cI, .int), (cZ, .boolean)] s := hK
                    refine W.widen (k := 0) (n := 0) (by omega) (by omega) ?_
                    try dsimp only at hw_34
                    refine lv_if_ne (tgt := 154) hx hb dX9_findBurn_147 (by decide) (fun c_147 => ?_) (fun c_147 => ?_)
                    · have t_147 := mt (fa_eq _ _).mpr c_147
                      refine lv_iconst (v := 0) hx hb dX9_findBurn_154 (by decide) ?_
                      refine lv_istore (lv' := [(10, .int 0), (9, .int y_17), (8, .int y_12), (7, .int y_10), (6, .int y_7), (0, .ref h0), (1, .int p1), (2, .int p2), (3, .int y_4), (4, .int st), (5, .int k5)]) hx hb dX9_findBurn_155 hl (by decide) rfl (fun ls hl => ?_)
                      refine lv_aload_n hx hb dX9_findBurn_157 rfl (lv_at hl 5 rfl) ?_
                      refine lv_iload_n hx hb dX9_findBurn_158 rfl (lv_at hl 6 rfl) ?_
                      refine lv_iload hx hb dX9_findBurn_159 (lv_at hl 9 rfl) ?_
                      refine lv_iload hx hb dX9_findBurn_161 (lv_at hl 4 rfl) ?_
                      refine lv_ineg hx hb dX9_findBurn_163 ?_
                      refine lv_topi (fun y_40 ey_40 => ?_)
                      refine lv_iload hx hb dX9_findBurn_164 (lv_at hl 3 rfl) ?_
                      refine lv_ineg hx hb dX9_findBurn_166 ?_
                      refine lv_topi (fun y_41 ey_41 => ?_)
                      refine lv_iload hx hb dX9_findBurn_167 (lv_at hl 2 rfl) ?_
                      refine lv_ineg hx hb dX9_findBurn_169 ?_
                      refine lv_topi (fun y_42 ey_42 => ?_)
                      have hPc := hP.sub (ws' := [(h0, .inr (9, [.int th, .ref a1, .ref a2, .ref a3, .ref a4, .ref a5, .int ne, .int wi, .int dn, .ref a6, .ref a7, .int nn, .ref a8, .int la, .ref a9, .ref a10, .long up9_35, .long lw9_36, .int wh9_37, .long pu9_38, .long pw9_39, .ref a11])), (a1, .inl (cI, 16, .inl Fi)), (a2, .inl (cI, 16, .inl Ma)), (a5, .inl (cI, 576, .inl Sp9_23))]) [1, 2, 3, 5] rfl
                      have hKc := hK.sub (tys' := [(cI, .int)]) [0] rfl
                      have hDc := hD.sub (ws' := [(h0, .inr (9, [.int th, .ref a1, .ref a2, .ref a3, .ref a4, .ref a5, .int ne, .int wi, .int dn, .ref a6, .ref a7, .int nn, .ref a8, .int la, .ref a9, .ref a10, .long up9_35, .long lw9_36, .int wh9_37, .long pu9_38, .long pw9_39, .ref a11])), (a1, .inl (cI, 16, .inl Fi)), (a2, .inl (cI, 16, .inl Ma)), (a5, .inl (cI, 576, .inl Sp9_23))]) [1, 2, 3, 5] (by decide) rfl
                      have hFc := va_free (wc := [(h0, .inr (9, [.int th, .ref a1, .ref a2, .ref a3, .ref a4, .ref a5, .int ne, .int wi, .int dn, .ref a6, .ref a7, .int nn, .ref a8, .int la, .ref a9, .ref a10, .long up9_35, .long lw9_36, .int wh9_37, .long pu9_38, .long pw9_39, .ref a11])), (a1, .inl (cI, 16, .inl Fi)), (a2, .inl (cI, 16, .inl Ma)), (a5, .inl (cI, 576, .inl Sp9_23))]) hD hS hA [1, 2, 3, 5] rfl
                      refine va_calli (va_runV (As := [.int p1, .int st, .int y_40, .int y_41, .int y_42]) (rest := []) ⟨hx, hb, hml, hown, hts⟩ (c_X9_shift l dC dI h0 a1 a2 a3 a4 a5 a6 a7 a8 a9 a10 a11 th ne wi dn nn la wh9_37 up9_35 lw9_36 pu9_38 pw9_39 cI Fi Ma Sp9_23 p1 st y_40 y_41 y_42 H.size (by first | assumption | omega) (by first | omega | assumption) (by first | omega | assumption) (by first | omega | assumption) (by first | omega | assumption)) (cwV 5 hts g_X9_findBurn__X9_shift_187 rfl rfl rfl (by decide +kernel) ⟨Nat.le_of_ble_eq_true rfl, Nat.le_of_ble_eq_true rfl⟩) ⟨fun a U g mk q => by obtain ⟨q0, q1, qP, qK, qD⟩ := q; exact ⟨q0, q1, qP, va_K.moved (u := U) (U := U.calling g mk a) (Vm.Alike.refl U.vm) qK, qD⟩, va_recv hKc hPc (ci := 9) (q0 := 0) rfl rfl, fun U hU hW => ⟨rfl, by rw [hU], by rw [hU]; exact hPc, va_K.moved hW.alike hKc, hDc.weaken (fun _ _ _ _ => trivial)⟩⟩ rfl rfl hl.1 rfl (lv_room (Nat.le_of_ble_eq_true rfl)) dX9_findBurn_170 ⟨Nat.le_of_ble_eq_true rfl, Nat.le_of_ble_eq_true rfl⟩) hS (fun q _ h => hFc q h) hFc (fun r_44 u_43 t H1 locs ht hvm hw_44 hB hz1 hk1 hS => ?_)
                      obtain ⟨Sp9_45, hP1, hK1, hD1, hS9_46⟩ := hB
                      rw [ht] at hP1
                      have hK1 := va_K.moved hvm.symm hK1
                      obtain ⟨hP, hD⟩ := va_join (wr := [(a11, .inl (cI, 5, .inl B9)), (a4, .inl (cZ, 16, .inl Go))]) (w1 := [(h0, .inr (9, [.int th, .ref a1, .ref a2, .ref a3, .ref a4, .ref a5, .int ne, .int wi, .int dn, .ref a6, .ref a7, .int nn, .ref a8, .int la, .ref a9, .ref a10, .long up9_35, .long lw9_36, .int wh9_37, .long pu9_38, .long pw9_39, .ref a11])), (a1, .inl (cI, 16, .inl Fi)), (a2, .inl (cI, 16, .inl Ma)), (a5, .inl (cI, 576, .inl Sp9_45))]) hP hD [1, 2, 3, 5] [0, 4] rfl rfl (by decide) (by decide) hk1 hFc hP1 hD1
                      have hK := (hK.sub (tys' := [(cI, .int), (cZ, .boolean), (cI, .int), (cI, .int), (cZ, .boolean)]) [0, 1, 2, 3, 4] rfl).app hK1
                      generalize H1 = H at hP hS ⊢
                      have hP : va_P (dC, dI) vwCl [(a11, .inl (cI, 5, .inl B9)), (a4, .inl (cZ, 16, .inl Go)), (h0, .inr (9, [.int th, .ref a1, .ref a2, .ref a3, .ref a4, .ref a5, .int ne, .int wi, .int dn, .ref a6, .ref a7, .int nn, .ref a8, .int la, .ref a9, .ref a10, .long up9_35, .long lw9_36, .int wh9_37, .long pu9_38, .long pw9_39, .ref a11])), (a1, .inl (cI, 16, .inl Fi)), (a2, .inl (cI, 16, .inl Ma)), (a5, .inl (cI, 576, .inl Sp9_45))] H := hP
                      have hD : va_D A [(a11, .inl (cI, 5, .inl B9)), (a4, .inl (cZ, 16, .inl Go)), (h0, .inr (9, [.int th, .ref a1, .ref a2, .ref a3, .ref a4, .ref a5, .int ne, .int wi, .int dn, .ref a6, .ref a7, .int nn, .ref a8, .int la, .ref a9, .ref a10, .long up9_35, .long lw9_36, .int wh9_37, .long pu9_38, .long pw9_39, .ref a11])), (a1, .inl (cI, 16, .inl Fi)), (a2, .inl (cI, 16, .inl Ma)), (a5, .inl (cI, 576, .inl Sp9_45))] := hD
                      have hK : va_K (dC, dI) vwCl [(cI, .int), (cZ, .boolean), (cI, .int), (cI, .int), (cZ, .boolean), (cI, .int)] s := hK
                      refine W.widen (k := 0) (n := 0) (by omega) (by omega) ?_
                      try dsimp only at hw_44
                      refine lv_istore (lv' := [(11, .int r_44), (10, .int 0), (9, .int y_17), (8, .int y_12), (7, .int y_10), (6, .int y_7), (0, .ref h0), (1, .int p1), (2, .int p2), (3, .int y_4), (4, .int st), (5, .int k5)]) hx hb dX9_findBurn_173 hl (by decide) rfl (fun ls hl => ?_)
                      have hSb : Sp9_45 = Sp := hS9_46.trans (by rw [hS9_24, ey_40, ey_41, ey_42]; exact mvK_back _ _ _ _ _ _)
                      rw [hSb] at hP hD
                      have hP : va_P (dC, dI) vwCl [(a11, .inl (cI, 5, .inl B9)), (a4, .inl (cZ, 16, .inl Go)), (h0, .inr (9, [.int th, .ref a1, .ref a2, .ref a3, .ref a4, .ref a5, .int ne, .int wi, .int dn, .ref a6, .ref a7, .int nn, .ref a8, .int la, .ref a9, .ref a10, .long up9_35, .long lw9_36, .int wh9_37, .long pu9_38, .long pw9_39, .ref a11])), (a1, .inl (cI, 16, .inl Fi)), (a2, .inl (cI, 16, .inl Ma)), (a5, .inl (cI, 576, .inl Sp))] H := hP
                      have hD : va_D A [(a11, .inl (cI, 5, .inl B9)), (a4, .inl (cZ, 16, .inl Go)), (h0, .inr (9, [.int th, .ref a1, .ref a2, .ref a3, .ref a4, .ref a5, .int ne, .int wi, .int dn, .ref a6, .ref a7, .int nn, .ref a8, .int la, .ref a9, .ref a10, .long up9_35, .long lw9_36, .int wh9_37, .long pu9_38, .long pw9_39, .ref a11])), (a1, .inl (cI, 16, .inl Fi)), (a2, .inl (cI, 16, .inl Ma)), (a5, .inl (cI, 576, .inl Sp))] := hD
                      refine lv_iload hx hb dX9_findBurn_175 (lv_at hl 1 rfl) ?_
                      refine lv_if_eq (tgt := 220) hx hb dX9_findBurn_177 (by decide) (fun _ => ?_) (fun h9 => absurd h9 (by decide))
                      obtain ⟨y_47, ey_47⟩ : ∃ y : Int32, y = k5 + 1 := ⟨_, rfl⟩
                      have ty_47 : y_47.toInt = k5.toInt + 1 := by rw [ey_47]; have := fb_addI (x := k5) (y := 1) (by omega) (by omega); omega
                      refine lv_iinc (v := y_47) (lv' := [(5, .int y_47), (11, .int r_44), (10, .int 0), (9, .int y_17), (8, .int y_12), (7, .int y_10), (6, .int y_7), (0, .ref h0), (1, .int p1), (2, .int p2), (3, .int y_4), (4, .int st)]) hx hb dX9_findBurn_220 hl (k := 11) rfl (by rw [ey_47]; rfl) (by decide) rfl (fun ls hl => ?_)
                      refine lv_goto (tgt := 57) hx hb dX9_findBurn_223 (by decide) ?_
                      exact ih_57 y_47 up9_35 lw9_36 wh9_37 pu9_38 pw9_39 B9 (by omega) (by omega) (by omega) H _ (hP.sub [2, 3, 4, 1, 5, 0] rfl) (hD.sub [2, 3, 4, 1, 5, 0] (by decide) rfl) hS ls (lv_sub hl [7, 8, 9, 10, 11, 0] rfl)
                    · have t_147 := (fa_eq _ _).mp c_147
                      refine lv_iconst (v := 1) hx hb dX9_findBurn_150 (by decide) ?_
                      refine lv_goto (tgt := 155) hx hb dX9_findBurn_151 (by decide) ?_
                      refine lv_istore (lv' := [(10, .int 1), (9, .int y_17), (8, .int y_12), (7, .int y_10), (6, .int y_7), (0, .ref h0), (1, .int p1), (2, .int p2), (3, .int y_4), (4, .int st), (5, .int k5)]) hx hb dX9_findBurn_155 hl (by decide) rfl (fun ls hl => ?_)
                      refine lv_aload_n hx hb dX9_findBurn_157 rfl (lv_at hl 5 rfl) ?_
                      refine lv_iload_n hx hb dX9_findBurn_158 rfl (lv_at hl 6 rfl) ?_
                      refine lv_iload hx hb dX9_findBurn_159 (lv_at hl 9 rfl) ?_
                      refine lv_iload hx hb dX9_findBurn_161 (lv_at hl 4 rfl) ?_
                      refine lv_ineg hx hb dX9_findBurn_163 ?_
                      refine lv_topi (fun y_48 ey_48 => ?_)
                      refine lv_iload hx hb dX9_findBurn_164 (lv_at hl 3 rfl) ?_
                      refine lv_ineg hx hb dX9_findBurn_166 ?_
                      refine lv_topi (fun y_49 ey_49 => ?_)
                      refine lv_iload hx hb dX9_findBurn_167 (lv_at hl 2 rfl) ?_
                      refine lv_ineg hx hb dX9_findBurn_169 ?_
                      refine lv_topi (fun y_50 ey_50 => ?_)
                      have hPc := hP.sub (ws' := [(h0, .inr (9, [.int th, .ref a1, .ref a2, .ref a3, .ref a4, .ref a5, .int ne, .int wi, .int dn, .ref a6, .ref a7, .int nn, .ref a8, .int la, .ref a9, .ref a10, .long up9_35, .long lw9_36, .int wh9_37, .long pu9_38, .long pw9_39, .ref a11])), (a1, .inl (cI, 16, .inl Fi)), (a2, .inl (cI, 16, .inl Ma)), (a5, .inl (cI, 576, .inl Sp9_23))]) [1, 2, 3, 5] rfl
                      have hKc := hK.sub (tys' := [(cI, .int)]) [0] rfl
                      have hDc := hD.sub (ws' := [(h0, .inr (9, [.int th, .ref a1, .ref a2, .ref a3, .ref a4, .ref a5, .int ne, .int wi, .int dn, .ref a6, .ref a7, .int nn, .ref a8, .int la, .ref a9, .ref a10, .long up9_35, .long lw9_36, .int wh9_37, .long pu9_38, .long pw9_39, .ref a11])), (a1, .inl (cI, 16, .inl Fi)), (a2, .inl (cI, 16, .inl Ma)), (a5, .inl (cI, 576, .inl Sp9_23))]) [1, 2, 3, 5] (by decide) rfl
                      have hFc := va_free (wc := [(h0, .inr (9, [.int th, .ref a1, .ref a2, .ref a3, .ref a4, .ref a5, .int ne, .int wi, .int dn, .ref a6, .ref a7, .int nn, .ref a8, .int la, .ref a9, .ref a10, .long up9_35, .long lw9_36, .int wh9_37, .long pu9_38, .long pw9_39, .ref a11])), (a1, .inl (cI, 16, .inl Fi)), (a2, .inl (cI, 16, .inl Ma)), (a5, .inl (cI, 576, .inl Sp9_23))]) hD hS hA [1, 2, 3, 5] rfl
                      refine va_calli (va_runV (As := [.int p1, .int st, .int y_48, .int y_49, .int y_50]) (rest := []) ⟨hx, hb, hml, hown, hts⟩ (c_X9_shift l dC dI h0 a1 a2 a3 a4 a5 a6 a7 a8 a9 a10 a11 th ne wi dn nn la wh9_37 up9_35 lw9_36 pu9_38 pw9_39 cI Fi Ma Sp9_23 p1 st y_48 y_49 y_50 H.size (by first | assumption | omega) (by first | omega | assumption) (by first | omega | assumption) (by first | omega | assumption) (by first | omega | assumption)) (cwV 5 hts g_X9_findBurn__X9_shift_187 rfl rfl rfl (by decide +kernel) ⟨Nat.le_of_ble_eq_true rfl, Nat.le_of_ble_eq_true rfl⟩) ⟨fun a U g mk q => by obtain ⟨q0, q1, qP, qK, qD⟩ := q; exact ⟨q0, q1, qP, va_K.moved (u := U) (U := U.calling g mk a) (Vm.Alike.refl U.vm) qK, qD⟩, va_recv hKc hPc (ci := 9) (q0 := 0) rfl rfl, fun U hU hW => ⟨rfl, by rw [hU], by rw [hU]; exact hPc, va_K.moved hW.alike hKc, hDc.weaken (fun _ _ _ _ => trivial)⟩⟩ rfl rfl hl.1 rfl (lv_room (Nat.le_of_ble_eq_true rfl)) dX9_findBurn_170 ⟨Nat.le_of_ble_eq_true rfl, Nat.le_of_ble_eq_true rfl⟩) hS (fun q _ h => hFc q h) hFc (fun r_52 u_51 t H1 locs ht hvm hw_52 hB hz1 hk1 hS => ?_)
                      obtain ⟨Sp9_53, hP1, hK1, hD1, hS9_54⟩ := hB
                      rw [ht] at hP1
                      have hK1 := va_K.moved hvm.symm hK1
                      obtain ⟨hP, hD⟩ := va_join (wr := [(a11, .inl (cI, 5, .inl B9)), (a4, .inl (cZ, 16, .inl Go))]) (w1 := [(h0, .inr (9, [.int th, .ref a1, .ref a2, .ref a3, .ref a4, .ref a5, .int ne, .int wi, .int dn, .ref a6, .ref a7, .int nn, .ref a8, .int la, .ref a9, .ref a10, .long up9_35, .long lw9_36, .int wh9_37, .long pu9_38, .long pw9_39, .ref a11])), (a1, .inl (cI, 16, .inl Fi)), (a2, .inl (cI, 16, .inl Ma)), (a5, .inl (cI, 576, .inl Sp9_53))]) hP hD [1, 2, 3, 5] [0, 4] rfl rfl (by decide) (by decide) hk1 hFc hP1 hD1
                      have hK := (hK.sub (tys' := [(cI, .int), (cZ, .boolean), (cI, .int), (cI, .int), (cZ, .boolean)]) [0, 1, 2, 3, 4] rfl).app hK1
                      generalize H1 = H at hP hS ⊢
                      have hP : va_P (dC, dI) vwCl [(a11, .inl (cI, 5, .inl B9)), (a4, .inl (cZ, 16, .inl Go)), (h0, .inr (9, [.int th, .ref a1, .ref a2, .ref a3, .ref a4, .ref a5, .int ne, .int wi, .int dn, .ref a6, .ref a7, .int nn, .ref a8, .int la, .ref a9, .ref a10, .long up9_35, .long lw9_36, .int wh9_37, .long pu9_38, .long pw9_39, .ref a11])), (a1, .inl (cI, 16, .inl Fi)), (a2, .inl (cI, 16, .inl Ma)), (a5, .inl (cI, 576, .inl Sp9_53))] H := hP
                      have hD : va_D A [(a11, .inl (cI, 5, .inl B9)), (a4, .inl (cZ, 16, .inl Go)), (h0, .inr (9, [.int th, .ref a1, .ref a2, .ref a3, .ref a4, .ref a5, .int ne, .int wi, .int dn, .ref a6, .ref a7, .int nn, .ref a8, .int la, .ref a9, .ref a10, .long up9_35, .long lw9_36, .int wh9_37, .long pu9_38, .long pw9_39, .ref a11])), (a1, .inl (cI, 16, .inl Fi)), (a2, .inl (cI, 16, .inl Ma)), (a5, .inl (cI, 576, .inl Sp9_53))] := hD
                      have hK : va_K (dC, dI) vwCl [(cI, .int), (cZ, .boolean), (cI, .int), (cI, .int), (cZ, .boolean), (cI, .int)] s := hK
                      refine W.widen (k := 0) (n := 0) (by omega) (by omega) ?_
                      try dsimp only at hw_52
                      refine lv_istore (lv' := [(11, .int r_52), (10, .int 1), (9, .int y_17), (8, .int y_12), (7, .int y_10), (6, .int y_7), (0, .ref h0), (1, .int p1), (2, .int p2), (3, .int y_4), (4, .int st), (5, .int k5)]) hx hb dX9_findBurn_173 hl (by decide) rfl (fun ls hl => ?_)
                      have hSb : Sp9_53 = Sp := hS9_54.trans (by rw [hS9_24, ey_48, ey_49, ey_50]; exact mvK_back _ _ _ _ _ _)
                      rw [hSb] at hP hD
                      have hP : va_P (dC, dI) vwCl [(a11, .inl (cI, 5, .inl B9)), (a4, .inl (cZ, 16, .inl Go)), (h0, .inr (9, [.int th, .ref a1, .ref a2, .ref a3, .ref a4, .ref a5, .int ne, .int wi, .int dn, .ref a6, .ref a7, .int nn, .ref a8, .int la, .ref a9, .ref a10, .long up9_35, .long lw9_36, .int wh9_37, .long pu9_38, .long pw9_39, .ref a11])), (a1, .inl (cI, 16, .inl Fi)), (a2, .inl (cI, 16, .inl Ma)), (a5, .inl (cI, 576, .inl Sp))] H := hP
                      have hD : va_D A [(a11, .inl (cI, 5, .inl B9)), (a4, .inl (cZ, 16, .inl Go)), (h0, .inr (9, [.int th, .ref a1, .ref a2, .ref a3, .ref a4, .ref a5, .int ne, .int wi, .int dn, .ref a6, .ref a7, .int nn, .ref a8, .int la, .ref a9, .ref a10, .long up9_35, .long lw9_36, .int wh9_37, .long pu9_38, .long pw9_39, .ref a11])), (a1, .inl (cI, 16, .inl Fi)), (a2, .inl (cI, 16, .inl Ma)), (a5, .inl (cI, 576, .inl Sp))] := hD
                      refine lv_iload hx hb dX9_findBurn_175 (lv_at hl 1 rfl) ?_
                      refine lv_if_eq (tgt := 220) hx hb dX9_findBurn_177 (by decide) (fun h9 => absurd h9 (by decide)) (fun _ => ?_)
                      refine lv_aload_n hx hb dX9_findBurn_180 rfl (lv_at hl 6 rfl) ?_
                      refine va_get (D := (dC, dI)) (ci := 9) (v := .ref a11) (C := RX9) (T := TX9) (N := 22) hx hb hts in_X9_findBurn_X9 hown hK hP 2 rfl rfl 21 (by decide) (hts (.fieldLink RX9 48 "MeetingsAboveModel" "burns" "[I") (by decide +kernel)) (fun _ h9 => h9) rfl dX9_findBurn_181 ?_
                      refine lv_iconst (v := 0) hx hb dX9_findBurn_184 (by decide) ?_
                      refine lv_iload hx hb dX9_findBurn_185 (lv_at hl 2 rfl) ?_
                      refine va_iast hx hb hK hP hD hS 0 0 rfl rfl (by unfold vp_in; decide) dX9_findBurn_187 (fun H locs hP hD hS => ?_)
                      have hP : va_P (dC, dI) vwCl [(a11, .inl (cI, 5, .inl (upd B9 (0 : Int32).toNatClampNeg y_17))), (a4, .inl (cZ, 16, .inl Go)), (h0, .inr (9, [.int th, .ref a1, .ref a2, .ref a3, .ref a4, .ref a5, .int ne, .int wi, .int dn, .ref a6, .ref a7, .int nn, .ref a8, .int la, .ref a9, .ref a10, .long up9_35, .long lw9_36, .int wh9_37, .long pu9_38, .long pw9_39, .ref a11])), (a1, .inl (cI, 16, .inl Fi)), (a2, .inl (cI, 16, .inl Ma)), (a5, .inl (cI, 576, .inl Sp))] H := hP
                      have hD : va_D A [(a11, .inl (cI, 5, .inl (upd B9 (0 : Int32).toNatClampNeg y_17))), (a4, .inl (cZ, 16, .inl Go)), (h0, .inr (9, [.int th, .ref a1, .ref a2, .ref a3, .ref a4, .ref a5, .int ne, .int wi, .int dn, .ref a6, .ref a7, .int nn, .ref a8, .int la, .ref a9, .ref a10, .long up9_35, .long lw9_36, .int wh9_37, .long pu9_38, .long pw9_39, .ref a11])), (a1, .inl (cI, 16, .inl Fi)), (a2, .inl (cI, 16, .inl Ma)), (a5, .inl (cI, 576, .inl Sp))] := hD
                      refine lv_aload_n hx hb dX9_findBurn_188 rfl (lv_at hl 6 rfl) ?_
                      refine va_get (D := (dC, dI)) (ci := 9) (v := .ref a11) (C := RX9) (T := TX9) (N := 22) hx hb hts in_X9_findBurn_X9 hown hK hP 2 rfl rfl 21 (by decide) (hts (.fieldLink RX9 48 "MeetingsAboveModel" "burns" "[I") (by decide +kernel)) (fun _ h9 => h9) rfl dX9_findBurn_189 ?_
                      refine lv_iconst (v := 1) hx hb dX9_findBurn_192 (by decide) ?_
                      refine lv_iload hx hb dX9_findBurn_193 (lv_at hl 10 rfl) ?_
                      refine va_iast hx hb hK hP hD hS 0 0 rfl rfl (by unfold vp_in; decide) dX9_findBurn_195 (fun H locs hP hD hS => ?_)
                      have hP : va_P (dC, dI) vwCl [(a11, .inl (cI, 5, .inl (upd (upd B9 (0 : Int32).toNatClampNeg y_17) (1 : Int32).toNatClampNeg st))), (a4, .inl (cZ, 16, .inl Go)), (h0, .inr (9, [.int th, .ref a1, .ref a2, .ref a3, .ref a4, .ref a5, .int ne, .int wi, .int dn, .ref a6, .ref a7, .int nn, .ref a8, .int la, .ref a9, .ref a10, .long up9_35, .long lw9_36, .int wh9_37, .long pu9_38, .long pw9_39, .ref a11])), (a1, .inl (cI, 16, .inl Fi)), (a2, .inl (cI, 16, .inl Ma)), (a5, .inl (cI, 576, .inl Sp))] H := hP
                      have hD : va_D A [(a11, .inl (cI, 5, .inl (upd (upd B9 (0 : Int32).toNatClampNeg y_17) (1 : Int32).toNatClampNeg st))), (a4, .inl (cZ, 16, .inl Go)), (h0, .inr (9, [.int th, .ref a1, .ref a2, .ref a3, .ref a4, .ref a5, .int ne, .int wi, .int dn, .ref a6, .ref a7, .int nn, .ref a8, .int la, .ref a9, .ref a10, .long up9_35, .long lw9_36, .int wh9_37, .long pu9_38, .long pw9_39, .ref a11])), (a1, .inl (cI, 16, .inl Fi)), (a2, .inl (cI, 16, .inl Ma)), (a5, .inl (cI, 576, .inl Sp))] := hD
                      refine lv_aload_n hx hb dX9_findBurn_196 rfl (lv_at hl 6 rfl) ?_
                      refine va_get (D := (dC, dI)) (ci := 9) (v := .ref a11) (C := RX9) (T := TX9) (N := 22) hx hb hts in_X9_findBurn_X9 hown hK hP 2 rfl rfl 21 (by decide) (hts (.fieldLink RX9 48 "MeetingsAboveModel" "burns" "[I") (by decide +kernel)) (fun _ h9 => h9) rfl dX9_findBurn_197 ?_
                      refine lv_iconst (v := 2) hx hb dX9_findBurn_200 (by decide) ?_
                      refine lv_iload hx hb dX9_findBurn_201 (lv_at hl 5 rfl) ?_
                      refine va_iast hx hb hK hP hD hS 0 0 rfl rfl (by unfold vp_in; decide) dX9_findBurn_203 (fun H locs hP hD hS => ?_)
                      have hP : va_P (dC, dI) vwCl [(a11, .inl (cI, 5, .inl (upd (upd (upd B9 (0 : Int32).toNatClampNeg y_17) (1 : Int32).toNatClampNeg st) (2 : Int32).toNatClampNeg y_7))), (a4, .inl (cZ, 16, .inl Go)), (h0, .inr (9, [.int th, .ref a1, .ref a2, .ref a3, .ref a4, .ref a5, .int ne, .int wi, .int dn, .ref a6, .ref a7, .int nn, .ref a8, .int la, .ref a9, .ref a10, .long up9_35, .long lw9_36, .int wh9_37, .long pu9_38, .long pw9_39, .ref a11])), (a1, .inl (cI, 16, .inl Fi)), (a2, .inl (cI, 16, .inl Ma)), (a5, .inl (cI, 576, .inl Sp))] H := hP
                      have hD : va_D A [(a11, .inl (cI, 5, .inl (upd (upd (upd B9 (0 : Int32).toNatClampNeg y_17) (1 : Int32).toNatClampNeg st) (2 : Int32).toNatClampNeg y_7))), (a4, .inl (cZ, 16, .inl Go)), (h0, .inr (9, [.int th, .ref a1, .ref a2, .ref a3, .ref a4, .ref a5, .int ne, .int wi, .int dn, .ref a6, .ref a7, .int nn, .ref a8, .int la, .ref a9, .ref a10, .long up9_35, .long lw9_36, .int wh9_37, .long pu9_38, .long pw9_39, .ref a11])), (a1, .inl (cI, 16, .inl Fi)), (a2, .inl (cI, 16, .inl Ma)), (a5, .inl (cI, 576, .inl Sp))] := hD
                      refine lv_aload_n hx hb dX9_findBurn_204 rfl (lv_at hl 6 rfl) ?_
                      refine va_get (D := (dC, dI)) (ci := 9) (v := .ref a11) (C := RX9) (T := TX9) (N := 22) hx hb hts in_X9_findBurn_X9 hown hK hP 2 rfl rfl 21 (by decide) (hts (.fieldLink RX9 48 "MeetingsAboveModel" "burns" "[I") (by decide +kernel)) (fun _ h9 => h9) rfl dX9_findBurn_205 ?_
                      refine lv_iconst (v := 3) hx hb dX9_findBurn_208 (by decide) ?_
                      refine lv_iload hx hb dX9_findBurn_209 (lv_at hl 4 rfl) ?_
                      refine va_iast hx hb hK hP hD hS 0 0 rfl rfl (by unfold vp_in; decide) dX9_findBurn_211 (fun H locs hP hD hS => ?_)
                      have hP : va_P (dC, dI) vwCl [(a11, .inl (cI, 5, .inl (upd (upd (upd (upd B9 (0 : Int32).toNatClampNeg y_17) (1 : Int32).toNatClampNeg st) (2 : Int32).toNatClampNeg y_7) (3 : Int32).toNatClampNeg y_10))), (a4, .inl (cZ, 16, .inl Go)), (h0, .inr (9, [.int th, .ref a1, .ref a2, .ref a3, .ref a4, .ref a5, .int ne, .int wi, .int dn, .ref a6, .ref a7, .int nn, .ref a8, .int la, .ref a9, .ref a10, .long up9_35, .long lw9_36, .int wh9_37, .long pu9_38, .long pw9_39, .ref a11])), (a1, .inl (cI, 16, .inl Fi)), (a2, .inl (cI, 16, .inl Ma)), (a5, .inl (cI, 576, .inl Sp))] H := hP
                      have hD : va_D A [(a11, .inl (cI, 5, .inl (upd (upd (upd (upd B9 (0 : Int32).toNatClampNeg y_17) (1 : Int32).toNatClampNeg st) (2 : Int32).toNatClampNeg y_7) (3 : Int32).toNatClampNeg y_10))), (a4, .inl (cZ, 16, .inl Go)), (h0, .inr (9, [.int th, .ref a1, .ref a2, .ref a3, .ref a4, .ref a5, .int ne, .int wi, .int dn, .ref a6, .ref a7, .int nn, .ref a8, .int la, .ref a9, .ref a10, .long up9_35, .long lw9_36, .int wh9_37, .long pu9_38, .long pw9_39, .ref a11])), (a1, .inl (cI, 16, .inl Fi)), (a2, .inl (cI, 16, .inl Ma)), (a5, .inl (cI, 576, .inl Sp))] := hD
                      refine lv_aload_n hx hb dX9_findBurn_212 rfl (lv_at hl 6 rfl) ?_
                      refine va_get (D := (dC, dI)) (ci := 9) (v := .ref a11) (C := RX9) (T := TX9) (N := 22) hx hb hts in_X9_findBurn_X9 hown hK hP 2 rfl rfl 21 (by decide) (hts (.fieldLink RX9 48 "MeetingsAboveModel" "burns" "[I") (by decide +kernel)) (fun _ h9 => h9) rfl dX9_findBurn_213 ?_
                      refine lv_iconst (v := 4) hx hb dX9_findBurn_216 (by decide) ?_
                      refine lv_iload hx hb dX9_findBurn_217 (lv_at hl 3 rfl) ?_
                      refine va_iast hx hb hK hP hD hS 0 0 rfl rfl (by unfold vp_in; decide) dX9_findBurn_219 (fun H locs hP hD hS => ?_)
                      have hP : va_P (dC, dI) vwCl [(a11, .inl (cI, 5, .inl (upd (upd (upd (upd (upd B9 (0 : Int32).toNatClampNeg y_17) (1 : Int32).toNatClampNeg st) (2 : Int32).toNatClampNeg y_7) (3 : Int32).toNatClampNeg y_10) (4 : Int32).toNatClampNeg y_12))), (a4, .inl (cZ, 16, .inl Go)), (h0, .inr (9, [.int th, .ref a1, .ref a2, .ref a3, .ref a4, .ref a5, .int ne, .int wi, .int dn, .ref a6, .ref a7, .int nn, .ref a8, .int la, .ref a9, .ref a10, .long up9_35, .long lw9_36, .int wh9_37, .long pu9_38, .long pw9_39, .ref a11])), (a1, .inl (cI, 16, .inl Fi)), (a2, .inl (cI, 16, .inl Ma)), (a5, .inl (cI, 576, .inl Sp))] H := hP
                      have hD : va_D A [(a11, .inl (cI, 5, .inl (upd (upd (upd (upd (upd B9 (0 : Int32).toNatClampNeg y_17) (1 : Int32).toNatClampNeg st) (2 : Int32).toNatClampNeg y_7) (3 : Int32).toNatClampNeg y_10) (4 : Int32).toNatClampNeg y_12))), (a4, .inl (cZ, 16, .inl Go)), (h0, .inr (9, [.int th, .ref a1, .ref a2, .ref a3, .ref a4, .ref a5, .int ne, .int wi, .int dn, .ref a6, .ref a7, .int nn, .ref a8, .int la, .ref a9, .ref a10, .long up9_35, .long lw9_36, .int wh9_37, .long pu9_38, .long pw9_39, .ref a11])), (a1, .inl (cI, 16, .inl Fi)), (a2, .inl (cI, 16, .inl Ma)), (a5, .inl (cI, 576, .inl Sp))] := hD
                      obtain ⟨y_55, ey_55⟩ : ∃ y : Int32, y = k5 + 1 := ⟨_, rfl⟩
                      have ty_55 : y_55.toInt = k5.toInt + 1 := by rw [ey_55]; have := fb_addI (x := k5) (y := 1) (by omega) (by omega); omega
                      refine lv_iinc (v := y_55) (lv' := [(5, .int y_55), (11, .int r_52), (10, .int 1), (9, .int y_17), (8, .int y_12), (7, .int y_10), (6, .int y_7), (0, .ref h0), (1, .int p1), (2, .int p2), (3, .int y_4), (4, .int st)]) hx hb dX9_findBurn_220 hl (k := 11) rfl (by rw [ey_55]; rfl) (by decide) rfl (fun ls hl => ?_)
                      refine lv_goto (tgt := 57) hx hb dX9_findBurn_223 (by decide) ?_
                      exact ih_57 y_55 up9_35 lw9_36 wh9_37 pu9_38 pw9_39 (upd (upd (upd (upd (upd B9 (0 : Int32).toNatClampNeg y_17) (1 : Int32).toNatClampNeg st) (2 : Int32).toNatClampNeg y_7) (3 : Int32).toNatClampNeg y_10) (4 : Int32).toNatClampNeg y_12) (by omega) (by omega) (by omega) H _ (hP.sub [2, 3, 4, 1, 5, 0] rfl) (hD.sub [2, 3, 4, 1, 5, 0] (by decide) rfl) hS ls (lv_sub hl [7, 8, 9, 10, 11, 0] rfl)
    · have t_4 := mt (fa_le _ _).mpr c_4
      refine lv_aload_n hx hb dX9_findBurn_7 rfl (lv_at hl 0 rfl) ?_
      refine va_get (D := (dC, dI)) (ci := 9) (v := .ref a11) (C := RX9) (T := TX9) (N := 22) hx hb hts in_X9_findBurn_X9 hown hK hP 0 rfl rfl 21 (by decide) (hts (.fieldLink RX9 48 "MeetingsAboveModel" "burns" "[I") (by decide +kernel)) (fun _ h9 => h9) rfl dX9_findBurn_8 ?_
      refine lv_iload_n hx hb dX9_findBurn_11 rfl (lv_at hl 3 rfl) ?_
      refine lv_iload_n hx hb dX9_findBurn_12 rfl (lv_at hl 3 rfl) ?_
      refine lv_iconst (v := 2) hx hb dX9_findBurn_13 (by decide) ?_
      refine lv_icmp_ge (tgt := 21) hx hb dX9_findBurn_14 (by decide) (fun c_14 => ?_) (fun c_14 => ?_)
      · have t_14 := (fa_le _ _).mp c_14
        refine lv_iconst (v := 0) hx hb dX9_findBurn_21 (by decide) ?_
        refine va_iast hx hb hK hP hD hS 5 0 rfl rfl (vp_in_iff.mpr ⟨by omega, by omega⟩) dX9_findBurn_22 (fun H locs hP hD hS => ?_)
        have hP : va_P (dC, dI) vwCl [(h0, .inr (9, [.int th, .ref a1, .ref a2, .ref a3, .ref a4, .ref a5, .int ne, .int wi, .int dn, .ref a6, .ref a7, .int nn, .ref a8, .int la, .ref a9, .ref a10, .long up, .long lw, .int wh, .long pu, .long pw, .ref a11])), (a1, .inl (cI, 16, .inl Fi)), (a2, .inl (cI, 16, .inl Ma)), (a4, .inl (cZ, 16, .inl Go)), (a5, .inl (cI, 576, .inl Sp)), (a11, .inl (cI, 5, .inl (upd B7 (k3 : Int32).toNatClampNeg 0)))] H := hP
        have hD : va_D A [(h0, .inr (9, [.int th, .ref a1, .ref a2, .ref a3, .ref a4, .ref a5, .int ne, .int wi, .int dn, .ref a6, .ref a7, .int nn, .ref a8, .int la, .ref a9, .ref a10, .long up, .long lw, .int wh, .long pu, .long pw, .ref a11])), (a1, .inl (cI, 16, .inl Fi)), (a2, .inl (cI, 16, .inl Ma)), (a4, .inl (cZ, 16, .inl Go)), (a5, .inl (cI, 576, .inl Sp)), (a11, .inl (cI, 5, .inl (upd B7 (k3 : Int32).toNatClampNeg 0)))] := hD
        obtain ⟨y_56, ey_56⟩ : ∃ y : Int32, y = k3 + 1 := ⟨_, rfl⟩
        have ty_56 : y_56.toInt = k3.toInt + 1 := by rw [ey_56]; have := fb_addI (x := k3) (y := 1) (by omega) (by omega); omega
        refine lv_iinc (v := y_56) (lv' := [(3, .int y_56), (0, .ref h0), (1, .int p1), (2, .int p2)]) hx hb dX9_findBurn_23 hl (k := 3) rfl (by rw [ey_56]; rfl) (by decide) rfl (fun ls hl => ?_)
        refine lv_goto (tgt := 2) hx hb dX9_findBurn_26 (by decide) ?_
        exact ih_2 y_56 (upd B7 (k3 : Int32).toNatClampNeg 0) (by omega) (by omega) (by omega) H _ (hP.sub [0, 1, 2, 3, 4, 5] rfl) (hD.sub [0, 1, 2, 3, 4, 5] (by decide) rfl) hS ls (lv_sub hl [1, 2, 3, 0] rfl)
      · have t_14 := mt (fa_le _ _).mpr c_14
        refine lv_iconst (v := (-1)) hx hb dX9_findBurn_17 (by decide) ?_
        refine lv_goto (tgt := 22) hx hb dX9_findBurn_18 (by decide) ?_
        refine va_iast hx hb hK hP hD hS 5 0 rfl rfl (vp_in_iff.mpr ⟨by omega, by omega⟩) dX9_findBurn_22 (fun H locs hP hD hS => ?_)
        have hP : va_P (dC, dI) vwCl [(h0, .inr (9, [.int th, .ref a1, .ref a2, .ref a3, .ref a4, .ref a5, .int ne, .int wi, .int dn, .ref a6, .ref a7, .int nn, .ref a8, .int la, .ref a9, .ref a10, .long up, .long lw, .int wh, .long pu, .long pw, .ref a11])), (a1, .inl (cI, 16, .inl Fi)), (a2, .inl (cI, 16, .inl Ma)), (a4, .inl (cZ, 16, .inl Go)), (a5, .inl (cI, 576, .inl Sp)), (a11, .inl (cI, 5, .inl (upd B7 (k3 : Int32).toNatClampNeg (-1))))] H := hP
        have hD : va_D A [(h0, .inr (9, [.int th, .ref a1, .ref a2, .ref a3, .ref a4, .ref a5, .int ne, .int wi, .int dn, .ref a6, .ref a7, .int nn, .ref a8, .int la, .ref a9, .ref a10, .long up, .long lw, .int wh, .long pu, .long pw, .ref a11])), (a1, .inl (cI, 16, .inl Fi)), (a2, .inl (cI, 16, .inl Ma)), (a4, .inl (cZ, 16, .inl Go)), (a5, .inl (cI, 576, .inl Sp)), (a11, .inl (cI, 5, .inl (upd B7 (k3 : Int32).toNatClampNeg (-1))))] := hD
        obtain ⟨y_57, ey_57⟩ : ∃ y : Int32, y = k3 + 1 := ⟨_, rfl⟩
        have ty_57 : y_57.toInt = k3.toInt + 1 := by rw [ey_57]; have := fb_addI (x := k3) (y := 1) (by omega) (by omega); omega
        refine lv_iinc (v := y_57) (lv' := [(3, .int y_57), (0, .ref h0), (1, .int p1), (2, .int p2)]) hx hb dX9_findBurn_23 hl (k := 3) rfl (by rw [ey_57]; rfl) (by decide) rfl (fun ls hl => ?_)
        refine lv_goto (tgt := 2) hx hb dX9_findBurn_26 (by decide) ?_
        exact ih_2 y_57 (upd B7 (k3 : Int32).toNatClampNeg (-1)) (by omega) (by omega) (by omega) H _ (hP.sub [0, 1, 2, 3, 4, 5] rfl) (hD.sub [0, 1, 2, 3, 4, 5] (by decide) rfl) hS ls (lv_sub hl [1, 2, 3, 0] rfl)
def wk_X9_isOf : List Cond := .code yX9_isOf cX9_isOf 5 (some .boolean) :: (([.fieldLink RX9 19 "MeetingsAboveModel" "isGone" "[Z", .fieldLink RX9 36 "MeetingsAboveModel" "dotSpots" "[I", .fieldLink RX9 33 "MeetingsAboveModel" "dotSteps" "[I", .fieldLink RX9 16 "MeetingsAboveModel" "doubts" "[I"] : List Cond) ++ (wsX90 ++ ((wsV RX9 94 RX9 yX9_spot wk_X9_spot) ++ ((va_wsS RX9 181 yX9_size wk_X9_size) ++ ((wsV RX9 90 RX9 yX9_hasPlace wk_X9_hasPlace) ++ ([]))))))
theorem in_X9_isOf_X9 : ∀ w ∈ wsX90, w ∈ wk_X9_isOf := fun _ h => List.mem_cons_of_mem _ (List.mem_append_right _ (List.mem_append_left _ h))
theorem gw_X9_isOf : AG wk_X9_isOf := AG_ca (AG_l (by decide +kernel)) (AG_app ag_X9 (AG_app (AG_V gw_X9_spot) (AG_app (AG_S gw_X9_size) (AG_app (AG_V gw_X9_hasPlace) (AG_nil)))))
theorem g_X9_isOf__X9_spot_94 : GoodIn wk_X9_isOf (wsV RX9 94 RX9 yX9_spot wk_X9_spot) := goodIn_m (fun _ h => List.mem_cons_of_mem _ (List.mem_append_right _ (List.mem_append_right _ (List.mem_append_left _ h)))) (AG_V gw_X9_spot)
theorem g_X9_isOf__X9_size_181 : GoodIn wk_X9_isOf (va_wsS RX9 181 yX9_size wk_X9_size) := goodIn_m (fun _ h => List.mem_cons_of_mem _ (List.mem_append_right _ (List.mem_append_right _ (List.mem_append_right _ (List.mem_append_left _ h))))) (AG_S gw_X9_size)
theorem g_X9_isOf__X9_hasPlace_90 : GoodIn wk_X9_isOf (wsV RX9 90 RX9 yX9_hasPlace wk_X9_hasPlace) := goodIn_m (fun _ h => List.mem_cons_of_mem _ (List.mem_append_right _ (List.mem_append_right _ (List.mem_append_right _ (List.mem_append_right _ (List.mem_append_left _ h)))))) (AG_V gw_X9_hasPlace)
set_option maxHeartbeats 4000000 in
set_option maxRecDepth 100000 in
theorem c_X9_isOf (l : Launch) (dC : Nat → ClassId) (dI : Nat → Nat → Nat) (h0 : Nat) (a1 : Nat) (a2 : Nat) (a3 : Nat) (a4 : Nat) (a5 : Nat) (a6 : Nat) (a7 : Nat) (a8 : Nat) (a9 : Nat) (a10 : Nat) (a11 : Nat) (th : Int32) (ne : Int32) (wi : Int32) (dn : Int32) (nn : Int32) (la : Int32) (wh : Int32) (up : Int64) (lw : Int64) (pu : Int64) (pw : Int64) (cI : ClassId) (cZ : ClassId) (Fi : Nat → Int32) (Ma : Nat → Int32) (Db : Nat → Int32) (Go : Nat → Int32) (Sp : Nat → Int32) (Ds : Nat → Int32) (Dp : Nat → Int32) (p1 : Int32) (p2 : Int32) (hM : mOK th Fi Ma) (hd0 : 0 ≤ p1.toInt) (hd1 : p1.toInt < 40) (hp20 : 0 ≤ p2.toInt) (hp21 : p2.toInt < th.toInt) : Met l yX9_isOf wk_X9_isOf ({ frames := 2, cells := 0, slots := 0, locals := 47 }) (va_Pc [.ref h0, .int p1, .int p2] (fun U => va_P (dC, dI) vwCl [(h0, .inr (9, [.int th, .ref a1, .ref a2, .ref a3, .ref a4, .ref a5, .int ne, .int wi, .int dn, .ref a6, .ref a7, .int nn, .ref a8, .int la, .ref a9, .ref a10, .long up, .long lw, .int wh, .long pu, .long pw, .ref a11])), (a1, .inl (cI, 16, .inl Fi)), (a2, .inl (cI, 16, .inl Ma)), (a3, .inl (cI, 16, .inl Db)), (a4, .inl (cZ, 16, .inl Go)), (a5, .inl (cI, 576, .inl Sp)), (a6, .inl (cI, 40, .inl Ds)), (a7, .inl (cI, 120, .inl Dp))] U.heap ∧ va_K (dC, dI) vwCl [(cI, .int), (cZ, .boolean)] U)) (vp_Si (fun r => True)) 0 0 (fun _ => False) := by
  refine Met.ofW (cc := cX9_isOf) (maxL := 5) (ret := (some .boolean)) (by decide) rfl ?_
  intro p e s m args below meth c s₁ B hml hv
  obtain ⟨rfl, hP, hK⟩ := hv
  have hx := B.exec
  have hb := B.bytes
  have hr := B.returns
  have hts := atoms_spec (ws := wk_X9_isOf) B.pre
  have hown : s.vm.findClass RX9 = some m.cls := findClass_of_methodNamed B.named
  have hlocks := B.notSynchronized
  have hP : va_P (dC, dI) vwCl [(h0, .inr (9, [.int th, .ref a1, .ref a2, .ref a3, .ref a4, .ref a5, .int ne, .int wi, .int dn, .ref a6, .ref a7, .int nn, .ref a8, .int la, .ref a9, .ref a10, .long up, .long lw, .int wh, .long pu, .long pw, .ref a11])), (a1, .inl (cI, 16, .inl Fi)), (a2, .inl (cI, 16, .inl Ma)), (a3, .inl (cI, 16, .inl Db)), (a4, .inl (cZ, 16, .inl Go)), (a5, .inl (cI, 576, .inl Sp)), (a6, .inl (cI, 40, .inl Ds)), (a7, .inl (cI, 120, .inl Dp))] s.heap := hP
  have hl := lv_entry ([.ref h0, .int p1, .int p2]) (n := 5) (Nat.le_of_ble_eq_true rfl)
  rw [lg_entry_eq]
  generalize (lg_sl ([.ref h0, .int p1, .int p2]) ++ List.replicate (5 - (lg_sl ([.ref h0, .int p1, .int p2])).length) Slot.unset).toArray = ls at hl ⊢
  have hl : lv_has ls 5 [(0, .ref h0), (1, .int p1), (2, .int p2)] := hl
  have kl_0 : (0 : Int32).toInt = 0 := by decide
  have kl_1 : (1 : Int32).toInt = 1 := by decide
  have kl_3 : (3 : Int32).toInt = 3 := by decide
  obtain ⟨hM0, hM1, hM2⟩ := id hM
  have np2 : ((p2.toNatClampNeg : Nat) : Int) = p2.toInt := tc_I (by omega)
  have bp2 := hM2 p2.toNatClampNeg (by omega)
  refine lv_aload_n hx hb dX9_isOf_0 rfl (lv_at hl 0 rfl) ?_
  refine va_get (D := (dC, dI)) (ci := 9) (v := .ref a4) (C := RX9) (T := TX9) (N := 22) hx hb hts in_X9_isOf_X9 hown hK hP 0 rfl rfl 4 (by decide) (hts (.fieldLink RX9 19 "MeetingsAboveModel" "isGone" "[Z") (by decide +kernel)) (fun _ h9 => h9) rfl dX9_isOf_1 ?_
  refine lv_iload_n hx hb dX9_isOf_4 rfl (lv_at hl 2 rfl) ?_
  refine va_zald hx hb hK hP 4 1 rfl rfl (vp_in_iff.mpr ⟨by omega, by omega⟩) dX9_isOf_5 ?_
  refine lv_topi (fun y_1 ey_1 => ?_)
  refine lv_if_ne (tgt := 27) hx hb dX9_isOf_6 (by decide) (fun c_6 => ?_) (fun c_6 => ?_)
  · have t_6 := mt (fa_eq _ _).mpr c_6
    refine lv_iconst (v := 0) hx hb dX9_isOf_27 (by decide) ?_
    refine lv_istore_n (lv' := [(3, .int 0), (0, .ref h0), (1, .int p1), (2, .int p2)]) hx hb dX9_isOf_28 rfl hl (by decide) rfl (fun ls hl => ?_)
    refine lv_iconst (v := 0) hx hb dX9_isOf_29 (by decide) ?_
    refine lv_istore (lv' := [(4, .int 0), (3, .int 0), (0, .ref h0), (1, .int p1), (2, .int p2)]) hx hb dX9_isOf_30 hl (by decide) rfl (fun ls hl => ?_)
    refine (show ∀ (k : Nat) (is : Int32) (ax : Int32) (ha0 : 0 ≤ ax.toInt) (ha1 : ax.toInt ≤ 3) (hi1 : is = 1 ∨ is = 0) (his : is.toInt ≠ 0 → (Fi p2.toNatClampNeg).toInt ≤ (Ds p1.toNatClampNeg).toInt ∧ (Ds p1.toNatClampNeg).toInt < (Fi p2.toNatClampNeg).toInt + (Ma p2.toNatClampNeg).toInt) (hk_32 : (3 - ax.toInt).toNat < k) (ls : Array Slot) (hl : lv_has ls 5 [(0, .ref h0), (1, .int p1), (2, .int p2), (3, .int is), (4, .int ax)]), W p l e _ s m _ below meth c s.heap [] 0 0 _ (F0 m 32 ls []) from ?_) _ 0 0 (by omega) (by omega) (by first | exact Or.inl rfl | exact Or.inr rfl) (by intro h9; omega) (Nat.lt_succ_self _) ls (lv_sub hl [2, 3, 4, 1, 0] rfl)
    intro k
    induction k with
    | zero => intro is ax ha0 ha1 hi1 his hk_32; exact absurd hk_32 (Nat.not_lt_zero _)
    | succ k ih_32 =>
      intro is ax ha0 ha1 hi1 his hk_32 ls hl
      refine lv_iload hx hb dX9_isOf_32 (lv_at hl 4 rfl) ?_
      refine lv_iconst (v := 3) hx hb dX9_isOf_34 (by decide) ?_
      refine lv_icmp_ge (tgt := 91) hx hb dX9_isOf_35 (by decide) (fun c_35 => ?_) (fun c_35 => ?_)
      · have t_35 := (fa_le _ _).mp c_35
        refine lv_iload_n hx hb dX9_isOf_91 rfl (lv_at hl 3 rfl) ?_
        exact W.zret (v := is) hx hb hr (by rcases hi1 with h | h <;> rw [h] <;> rfl) (fun t ht _ => ⟨_, rfl, trivial, ht⟩) (fun _ h => absurd h List.not_mem_nil) dX9_isOf_92
      · have t_35 := mt (fa_le _ _).mpr c_35
        refine lv_iload_n hx hb dX9_isOf_38 rfl (lv_at hl 3 rfl) ?_
        refine lv_if_eq (tgt := 91) hx hb dX9_isOf_39 (by decide) (fun c_39 => ?_) (fun c_39 => ?_)
        · have t_39 := (fa_eq _ _).mp c_39
          refine lv_iload_n hx hb dX9_isOf_91 rfl (lv_at hl 3 rfl) ?_
          exact W.zret (v := is) hx hb hr (by rcases hi1 with h | h <;> rw [h] <;> rfl) (fun t ht _ => ⟨_, rfl, trivial, ht⟩) (fun _ h => absurd h List.not_mem_nil) dX9_isOf_92
        · have t_39 := mt (fa_eq _ _).mpr c_39
          refine lv_aload_n hx hb dX9_isOf_42 rfl (lv_at hl 0 rfl) ?_
          refine va_get (D := (dC, dI)) (ci := 9) (v := .ref a7) (C := RX9) (T := TX9) (N := 22) hx hb hts in_X9_isOf_X9 hown hK hP 0 rfl rfl 10 (by decide) (hts (.fieldLink RX9 36 "MeetingsAboveModel" "dotSpots" "[I") (by decide +kernel)) (fun _ h9 => h9) rfl dX9_isOf_43 ?_
          refine lv_iconst (v := 3) hx hb dX9_isOf_46 (by decide) ?_
          refine lv_iload_n hx hb dX9_isOf_47 rfl (lv_at hl 1 rfl) ?_
          refine lv_imul hx hb dX9_isOf_48 ?_
          refine lv_topi (fun y_2 ey_2 => ?_)
          have ty_2 : y_2.toInt = 3 * p1.toInt := by rw [ey_2]; exact fm_lI kl_3 (by omega) (by omega)
          refine lv_iload hx hb dX9_isOf_49 (lv_at hl 4 rfl) ?_
          refine lv_iadd hx hb dX9_isOf_51 ?_
          refine lv_topi (fun y_3 ey_3 => ?_)
          have ty_3 : y_3.toInt = y_2.toInt + ax.toInt := by rw [ey_3]; have := fb_addI (x := y_2) (y := ax) (by omega) (by omega); omega
          refine va_iald hx hb hK hP 7 0 rfl rfl (vp_in_iff.mpr ⟨by omega, by omega⟩) dX9_isOf_52 ?_
          refine lv_topi (fun y_4 ey_4 => ?_)
          refine lv_aload_n hx hb dX9_isOf_53 rfl (lv_at hl 0 rfl) ?_
          refine lv_iload_n hx hb dX9_isOf_54 rfl (lv_at hl 2 rfl) ?_
          refine lv_aload_n hx hb dX9_isOf_55 rfl (lv_at hl 0 rfl) ?_
          refine va_get (D := (dC, dI)) (ci := 9) (v := .ref a6) (C := RX9) (T := TX9) (N := 22) hx hb hts in_X9_isOf_X9 hown hK hP 0 rfl rfl 9 (by decide) (hts (.fieldLink RX9 33 "MeetingsAboveModel" "dotSteps" "[I") (by decide +kernel)) (fun _ h9 => h9) rfl dX9_isOf_56 ?_
          refine lv_iload_n hx hb dX9_isOf_59 rfl (lv_at hl 1 rfl) ?_
          refine va_iald hx hb hK hP 6 0 rfl rfl (vp_in_iff.mpr ⟨by omega, by omega⟩) dX9_isOf_60 ?_
          refine lv_topi (fun y_5 ey_5 => ?_)
          have uy_5 : y_5.toInt = (Ds (p1 : Int32).toNatClampNeg).toInt := by rw [ey_5]
          refine lv_iload hx hb dX9_isOf_61 (lv_at hl 4 rfl) ?_
          have hPc := hP.sub (ws' := [(h0, .inr (9, [.int th, .ref a1, .ref a2, .ref a3, .ref a4, .ref a5, .int ne, .int wi, .int dn, .ref a6, .ref a7, .int nn, .ref a8, .int la, .ref a9, .ref a10, .long up, .long lw, .int wh, .long pu, .long pw, .ref a11])), (a1, .inl (cI, 16, .inl Fi)), (a5, .inl (cI, 576, .inl Sp))]) [0, 1, 5] rfl
          have hKc := hK.sub (tys' := [(cI, .int)]) [0] rfl
          refine vp_callSi (W.runV (As := [.int p2, .int y_5, .int ax]) (rest := [.int y_4]) ⟨hx, hb, hml, hown, hts⟩ (c_X9_spot l dC dI Ma h0 a1 a2 a3 a4 a5 a6 a7 a8 a9 a10 a11 th ne wi dn nn la wh up lw pu pw cI Fi Sp p2 y_5 ax (by first | assumption | omega) (by first | omega | assumption) (by first | omega | assumption) (by first | omega | assumption) (by first | omega | assumption) (by first | omega | assumption) (by first | omega | assumption)) (cwV 3 hts g_X9_isOf__X9_spot_94 rfl rfl rfl (by decide +kernel) ⟨Nat.le_of_ble_eq_true rfl, Nat.le_of_ble_eq_true rfl⟩) ⟨fun a U g mk q => by obtain ⟨q0, qP, qK⟩ := q; exact ⟨q0, qP, va_K.moved (u := U) (U := U.calling g mk a) (Vm.Alike.refl U.vm) qK⟩, va_recv hKc hPc (ci := 9) (q0 := 0) rfl rfl, fun U hU hW => ⟨rfl, by rw [hU]; exact hPc, va_K.moved hW.alike hKc⟩⟩ rfl rfl hl.1 rfl (lv_room (Nat.le_of_ble_eq_true rfl)) dX9_isOf_63 ⟨Nat.le_of_ble_eq_true rfl, Nat.le_of_ble_eq_true rfl⟩) (fun r_6 hr_6 => ?_)
          try dsimp only at hr_6
          refine lv_isub hx hb dX9_isOf_66 ?_
          refine lv_topi (fun y_7 ey_7 => ?_)
          refine vp_callSi (W.runS (As := [.int y_7]) (rest := []) ⟨hx, hb, hml, hown, hts⟩ (c_X9_size l dC dI y_7) (va_cwS 1 hts g_X9_isOf__X9_size_181 rfl rfl rfl (by decide +kernel) ⟨Nat.le_of_ble_eq_true rfl, Nat.le_of_ble_eq_true rfl⟩) ⟨fun a U g mk q => by obtain ⟨q0, q1⟩ := q; exact ⟨q0, q1⟩, fun U hU hW => ⟨rfl, trivial⟩⟩ rfl rfl hl.1 rfl (lv_room (Nat.le_of_ble_eq_true rfl)) dX9_isOf_67 ⟨Nat.le_of_ble_eq_true rfl, Nat.le_of_ble_eq_true rfl⟩) (fun r_8 hr_8 => ?_)
          try dsimp only at hr_8
          refine lv_aload_n hx hb dX9_isOf_70 rfl (lv_at hl 0 rfl) ?_
          refine va_get (D := (dC, dI)) (ci := 9) (v := .ref a3) (C := RX9) (T := TX9) (N := 22) hx hb hts in_X9_isOf_X9 hown hK hP 0 rfl rfl 3 (by decide) (hts (.fieldLink RX9 16 "MeetingsAboveModel" "doubts" "[I") (by decide +kernel)) (fun _ h9 => h9) rfl dX9_isOf_71 ?_
          refine lv_iload_n hx hb dX9_isOf_74 rfl (lv_at hl 2 rfl) ?_
          refine va_iald hx hb hK hP 3 0 rfl rfl (vp_in_iff.mpr ⟨by omega, by omega⟩) dX9_isOf_75 ?_
          refine lv_topi (fun y_9 ey_9 => ?_)
          refine lv_icmp_gt (tgt := 83) hx hb dX9_isOf_76 (by decide) (fun c_76 => ?_) (fun c_76 => ?_)
          · have t_76 := (fa_lt _ _).mp c_76
            refine lv_iconst (v := 0) hx hb dX9_isOf_83 (by decide) ?_
            refine lv_istore_n (lv' := [(3, .int 0), (0, .ref h0), (1, .int p1), (2, .int p2), (4, .int ax)]) hx hb dX9_isOf_84 rfl hl (by decide) rfl (fun ls hl => ?_)
            obtain ⟨y_10, ey_10⟩ : ∃ y : Int32, y = ax + 1 := ⟨_, rfl⟩
            have ty_10 : y_10.toInt = ax.toInt + 1 := by rw [ey_10]; have := fb_addI (x := ax) (y := 1) (by omega) (by omega); omega
            refine lv_iinc (v := y_10) (lv' := [(4, .int y_10), (3, .int 0), (0, .ref h0), (1, .int p1), (2, .int p2)]) hx hb dX9_isOf_85 hl (k := 4) rfl (by rw [ey_10]; rfl) (by decide) rfl (fun ls hl => ?_)
            refine lv_goto (tgt := 32) hx hb dX9_isOf_88 (by decide) ?_
            exact ih_32 0 y_10 (by omega) (by omega) (by first | exact Or.inl rfl | exact Or.inr rfl) (by intro h9; omega) (by omega) ls (lv_sub hl [2, 3, 4, 1, 0] rfl)
          · have t_76 := mt (fa_lt _ _).mpr c_76
            refine lv_iconst (v := 1) hx hb dX9_isOf_79 (by decide) ?_
            refine lv_goto (tgt := 84) hx hb dX9_isOf_80 (by decide) ?_
            refine lv_istore_n (lv' := [(3, .int 1), (0, .ref h0), (1, .int p1), (2, .int p2), (4, .int ax)]) hx hb dX9_isOf_84 rfl hl (by decide) rfl (fun ls hl => ?_)
            obtain ⟨y_11, ey_11⟩ : ∃ y : Int32, y = ax + 1 := ⟨_, rfl⟩
            have ty_11 : y_11.toInt = ax.toInt + 1 := by rw [ey_11]; have := fb_addI (x := ax) (y := 1) (by omega) (by omega); omega
            refine lv_iinc (v := y_11) (lv' := [(4, .int y_11), (3, .int 1), (0, .ref h0), (1, .int p1), (2, .int p2)]) hx hb dX9_isOf_85 hl (k := 4) rfl (by rw [ey_11]; rfl) (by decide) rfl (fun ls hl => ?_)
            refine lv_goto (tgt := 32) hx hb dX9_isOf_88 (by decide) ?_
            exact ih_32 1 y_11 (by omega) (by omega) (by first | exact Or.inl rfl | exact Or.inr rfl) (by intro h9; omega) (by omega) ls (lv_sub hl [2, 3, 4, 1, 0] rfl)
  · have t_6 := (fa_eq _ _).mp c_6
    refine lv_aload_n hx hb dX9_isOf_9 rfl (lv_at hl 0 rfl) ?_
    refine lv_iload_n hx hb dX9_isOf_10 rfl (lv_at hl 2 rfl) ?_
    refine lv_aload_n hx hb dX9_isOf_11 rfl (lv_at hl 0 rfl) ?_
    refine va_get (D := (dC, dI)) (ci := 9) (v := .ref a6) (C := RX9) (T := TX9) (N := 22) hx hb hts in_X9_isOf_X9 hown hK hP 0 rfl rfl 9 (by decide) (hts (.fieldLink RX9 33 "MeetingsAboveModel" "dotSteps" "[I") (by decide +kernel)) (fun _ h9 => h9) rfl dX9_isOf_12 ?_
    refine lv_iload_n hx hb dX9_isOf_15 rfl (lv_at hl 1 rfl) ?_
    refine va_iald hx hb hK hP 6 0 rfl rfl (vp_in_iff.mpr ⟨by omega, by omega⟩) dX9_isOf_16 ?_
    refine lv_topi (fun y_12 ey_12 => ?_)
    have uy_12 : y_12.toInt = (Ds (p1 : Int32).toNatClampNeg).toInt := by rw [ey_12]
    have hPc := hP.sub (ws' := [(h0, .inr (9, [.int th, .ref a1, .ref a2, .ref a3, .ref a4, .ref a5, .int ne, .int wi, .int dn, .ref a6, .ref a7, .int nn, .ref a8, .int la, .ref a9, .ref a10, .long up, .long lw, .int wh, .long pu, .long pw, .ref a11])), (a1, .inl (cI, 16, .inl Fi)), (a2, .inl (cI, 16, .inl Ma))]) [0, 1, 2] rfl
    have hKc := hK.sub (tys' := [(cI, .int)]) [0] rfl
    refine vp_callSi (W.runV (As := [.int p2, .int y_12]) (rest := []) ⟨hx, hb, hml, hown, hts⟩ (c_X9_hasPlace l dC dI h0 a1 a2 a3 a4 a5 a6 a7 a8 a9 a10 a11 th ne wi dn nn la wh up lw pu pw cI Fi Ma p2 y_12 (by first | assumption | omega) (by first | omega | assumption) (by first | omega | assumption)) (cwV 2 hts g_X9_isOf__X9_hasPlace_90 rfl rfl rfl (by decide +kernel) ⟨Nat.le_of_ble_eq_true rfl, Nat.le_of_ble_eq_true rfl⟩) ⟨fun a U g mk q => by obtain ⟨q0, qP, qK⟩ := q; exact ⟨q0, qP, va_K.moved (u := U) (U := U.calling g mk a) (Vm.Alike.refl U.vm) qK⟩, va_recv hKc hPc (ci := 9) (q0 := 0) rfl rfl, fun U hU hW => ⟨rfl, by rw [hU]; exact hPc, va_K.moved hW.alike hKc⟩⟩ rfl rfl hl.1 rfl (lv_room (Nat.le_of_ble_eq_true rfl)) dX9_isOf_17 ⟨Nat.le_of_ble_eq_true rfl, Nat.le_of_ble_eq_true rfl⟩) (fun r_13 hr_13 => ?_)
    try dsimp only at hr_13
    rcases bo_split hr_13 with ⟨rfl, q_17⟩ | ⟨rfl, q_17⟩
    · refine lv_if_eq (tgt := 27) hx hb dX9_isOf_20 (by decide) (fun h9 => absurd h9 (by decide)) (fun _ => ?_)
      refine lv_iconst (v := 1) hx hb dX9_isOf_23 (by decide) ?_
      refine lv_goto (tgt := 28) hx hb dX9_isOf_24 (by decide) ?_
      refine lv_istore_n (lv' := [(3, .int 1), (0, .ref h0), (1, .int p1), (2, .int p2)]) hx hb dX9_isOf_28 rfl hl (by decide) rfl (fun ls hl => ?_)
      refine lv_iconst (v := 0) hx hb dX9_isOf_29 (by decide) ?_
      refine lv_istore (lv' := [(4, .int 0), (3, .int 1), (0, .ref h0), (1, .int p1), (2, .int p2)]) hx hb dX9_isOf_30 hl (by decide) rfl (fun ls hl => ?_)
      refine (show ∀ (k : Nat) (is : Int32) (ax : Int32) (ha0 : 0 ≤ ax.toInt) (ha1 : ax.toInt ≤ 3) (hi1 : is = 1 ∨ is = 0) (his : is.toInt ≠ 0 → (Fi p2.toNatClampNeg).toInt ≤ (Ds p1.toNatClampNeg).toInt ∧ (Ds p1.toNatClampNeg).toInt < (Fi p2.toNatClampNeg).toInt + (Ma p2.toNatClampNeg).toInt) (hk_32 : (3 - ax.toInt).toNat < k) (ls : Array Slot) (hl : lv_has ls 5 [(0, .ref h0), (1, .int p1), (2, .int p2), (3, .int is), (4, .int ax)]), W p l e _ s m _ below meth c s.heap [] 0 0 _ (F0 m 32 ls []) from ?_) _ 1 0 (by omega) (by omega) (by first | exact Or.inl rfl | exact Or.inr rfl) (by intro h9; omega) (Nat.lt_succ_self _) ls (lv_sub hl [2, 3, 4, 1, 0] rfl)
      intro k
      induction k with
      | zero => intro is ax ha0 ha1 hi1 his hk_32; exact absurd hk_32 (Nat.not_lt_zero _)
      | succ k ih_32 =>
        intro is ax ha0 ha1 hi1 his hk_32 ls hl
        refine lv_iload hx hb dX9_isOf_32 (lv_at hl 4 rfl) ?_
        refine lv_iconst (v := 3) hx hb dX9_isOf_34 (by decide) ?_
        refine lv_icmp_ge (tgt := 91) hx hb dX9_isOf_35 (by decide) (fun c_35 => ?_) (fun c_35 => ?_)
        · have t_35 := (fa_le _ _).mp c_35
          refine lv_iload_n hx hb dX9_isOf_91 rfl (lv_at hl 3 rfl) ?_
          exact W.zret (v := is) hx hb hr (by rcases hi1 with h | h <;> rw [h] <;> rfl) (fun t ht _ => ⟨_, rfl, trivial, ht⟩) (fun _ h => absurd h List.not_mem_nil) dX9_isOf_92
        · have t_35 := mt (fa_le _ _).mpr c_35
          refine lv_iload_n hx hb dX9_isOf_38 rfl (lv_at hl 3 rfl) ?_
          refine lv_if_eq (tgt := 91) hx hb dX9_isOf_39 (by decide) (fun c_39 => ?_) (fun c_39 => ?_)
          · have t_39 := (fa_eq _ _).mp c_39
            refine lv_iload_n hx hb dX9_isOf_91 rfl (lv_at hl 3 rfl) ?_
            exact W.zret (v := is) hx hb hr (by rcases hi1 with h | h <;> rw [h] <;> rfl) (fun t ht _ => ⟨_, rfl, trivial, ht⟩) (fun _ h => absurd h List.not_mem_nil) dX9_isOf_92
          · have t_39 := mt (fa_eq _ _).mpr c_39
            refine lv_aload_n hx hb dX9_isOf_42 rfl (lv_at hl 0 rfl) ?_
            refine va_get (D := (dC, dI)) (ci := 9) (v := .ref a7) (C := RX9) (T := TX9) (N := 22) hx hb hts in_X9_isOf_X9 hown hK hP 0 rfl rfl 10 (by decide) (hts (.fieldLink RX9 36 "MeetingsAboveModel" "dotSpots" "[I") (by decide +kernel)) (fun _ h9 => h9) rfl dX9_isOf_43 ?_
            refine lv_iconst (v := 3) hx hb dX9_isOf_46 (by decide) ?_
            refine lv_iload_n hx hb dX9_isOf_47 rfl (lv_at hl 1 rfl) ?_
            refine lv_imul hx hb dX9_isOf_48 ?_
            refine lv_topi (fun y_14 ey_14 => ?_)
            have ty_14 : y_14.toInt = 3 * p1.toInt := by rw [ey_14]; exact fm_lI kl_3 (by omega) (by omega)
            refine lv_iload hx hb dX9_isOf_49 (lv_at hl 4 rfl) ?_
            refine lv_iadd hx hb dX9_isOf_51 ?_
            refine lv_topi (fun y_15 ey_15 => ?_)
            have ty_15 : y_15.toInt = y_14.toInt + ax.toInt := by rw [ey_15]; have := fb_addI (x := y_14) (y := ax) (by omega) (by omega); omega
            refine va_iald hx hb hK hP 7 0 rfl rfl (vp_in_iff.mpr ⟨by omega, by omega⟩) dX9_isOf_52 ?_
            refine lv_topi (fun y_16 ey_16 => ?_)
            refine lv_aload_n hx hb dX9_isOf_53 rfl (lv_at hl 0 rfl) ?_
            refine lv_iload_n hx hb dX9_isOf_54 rfl (lv_at hl 2 rfl) ?_
            refine lv_aload_n hx hb dX9_isOf_55 rfl (lv_at hl 0 rfl) ?_
            refine va_get (D := (dC, dI)) (ci := 9) (v := .ref a6) (C := RX9) (T := TX9) (N := 22) hx hb hts in_X9_isOf_X9 hown hK hP 0 rfl rfl 9 (by decide) (hts (.fieldLink RX9 33 "MeetingsAboveModel" "dotSteps" "[I") (by decide +kernel)) (fun _ h9 => h9) rfl dX9_isOf_56 ?_
            refine lv_iload_n hx hb dX9_isOf_59 rfl (lv_at hl 1 rfl) ?_
            refine va_iald hx hb hK hP 6 0 rfl rfl (vp_in_iff.mpr ⟨by omega, by omega⟩) dX9_isOf_60 ?_
            refine lv_topi (fun y_17 ey_17 => ?_)
            have uy_17 : y_17.toInt = (Ds (p1 : Int32).toNatClampNeg).toInt := by rw [ey_17]
            refine lv_iload hx hb dX9_isOf_61 (lv_at hl 4 rfl) ?_
            have hPc := hP.sub (ws' := [(h0, .inr (9, [.int th, .ref a1, .ref a2, .ref a3, .ref a4, .ref a5, .int ne, .int wi, .int dn, .ref a6, .ref a7, .int nn, .ref a8, .int la, .ref a9, .ref a10, .long up, .long lw, .int wh, .long pu, .long pw, .ref a11])), (a1, .inl (cI, 16, .inl Fi)), (a5, .inl (cI, 576, .inl Sp))]) [0, 1, 5] rfl
            have hKc := hK.sub (tys' := [(cI, .int)]) [0] rfl
            refine vp_callSi (W.runV (As := [.int p2, .int y_17, .int ax]) (rest := [.int y_16]) ⟨hx, hb, hml, hown, hts⟩ (c_X9_spot l dC dI Ma h0 a1 a2 a3 a4 a5 a6 a7 a8 a9 a10 a11 th ne wi dn nn la wh up lw pu pw cI Fi Sp p2 y_17 ax (by first | assumption | omega) (by first | omega | assumption) (by first | omega | assumption) (by first | omega | assumption) (by first | omega | assumption) (by first | omega | assumption) (by first | omega | assumption)) (cwV 3 hts g_X9_isOf__X9_spot_94 rfl rfl rfl (by decide +kernel) ⟨Nat.le_of_ble_eq_true rfl, Nat.le_of_ble_eq_true rfl⟩) ⟨fun a U g mk q => by obtain ⟨q0, qP, qK⟩ := q; exact ⟨q0, qP, va_K.moved (u := U) (U := U.calling g mk a) (Vm.Alike.refl U.vm) qK⟩, va_recv hKc hPc (ci := 9) (q0 := 0) rfl rfl, fun U hU hW => ⟨rfl, by rw [hU]; exact hPc, va_K.moved hW.alike hKc⟩⟩ rfl rfl hl.1 rfl (lv_room (Nat.le_of_ble_eq_true rfl)) dX9_isOf_63 ⟨Nat.le_of_ble_eq_true rfl, Nat.le_of_ble_eq_true rfl⟩) (fun r_18 hr_18 => ?_)
            try dsimp only at hr_18
            refine lv_isub hx hb dX9_isOf_66 ?_
            refine lv_topi (fun y_19 ey_19 => ?_)
            refine vp_callSi (W.runS (As := [.int y_19]) (rest := []) ⟨hx, hb, hml, hown, hts⟩ (c_X9_size l dC dI y_19) (va_cwS 1 hts g_X9_isOf__X9_size_181 rfl rfl rfl (by decide +kernel) ⟨Nat.le_of_ble_eq_true rfl, Nat.le_of_ble_eq_true rfl⟩) ⟨fun a U g mk q => by obtain ⟨q0, q1⟩ := q; exact ⟨q0, q1⟩, fun U hU hW => ⟨rfl, trivial⟩⟩ rfl rfl hl.1 rfl (lv_room (Nat.le_of_ble_eq_true rfl)) dX9_isOf_67 ⟨Nat.le_of_ble_eq_true rfl, Nat.le_of_ble_eq_true rfl⟩) (fun r_20 hr_20 => ?_)
            try dsimp only at hr_20
            refine lv_aload_n hx hb dX9_isOf_70 rfl (lv_at hl 0 rfl) ?_
            refine va_get (D := (dC, dI)) (ci := 9) (v := .ref a3) (C := RX9) (T := TX9) (N := 22) hx hb hts in_X9_isOf_X9 hown hK hP 0 rfl rfl 3 (by decide) (hts (.fieldLink RX9 16 "MeetingsAboveModel" "doubts" "[I") (by decide +kernel)) (fun _ h9 => h9) rfl dX9_isOf_71 ?_
            refine lv_iload_n hx hb dX9_isOf_74 rfl (lv_at hl 2 rfl) ?_
            refine va_iald hx hb hK hP 3 0 rfl rfl (vp_in_iff.mpr ⟨by omega, by omega⟩) dX9_isOf_75 ?_
            refine lv_topi (fun y_21 ey_21 => ?_)
            refine lv_icmp_gt (tgt := 83) hx hb dX9_isOf_76 (by decide) (fun c_76 => ?_) (fun c_76 => ?_)
            · have t_76 := (fa_lt _ _).mp c_76
              refine lv_iconst (v := 0) hx hb dX9_isOf_83 (by decide) ?_
              refine lv_istore_n (lv' := [(3, .int 0), (0, .ref h0), (1, .int p1), (2, .int p2), (4, .int ax)]) hx hb dX9_isOf_84 rfl hl (by decide) rfl (fun ls hl => ?_)
              obtain ⟨y_22, ey_22⟩ : ∃ y : Int32, y = ax + 1 := ⟨_, rfl⟩
              have ty_22 : y_22.toInt = ax.toInt + 1 := by rw [ey_22]; have := fb_addI (x := ax) (y := 1) (by omega) (by omega); omega
              refine lv_iinc (v := y_22) (lv' := [(4, .int y_22), (3, .int 0), (0, .ref h0), (1, .int p1), (2, .int p2)]) hx hb dX9_isOf_85 hl (k := 4) rfl (by rw [ey_22]; rfl) (by decide) rfl (fun ls hl => ?_)
              refine lv_goto (tgt := 32) hx hb dX9_isOf_88 (by decide) ?_
              exact ih_32 0 y_22 (by omega) (by omega) (by first | exact Or.inl rfl | exact Or.inr rfl) (by intro h9; omega) (by omega) ls (lv_sub hl [2, 3, 4, 1, 0] rfl)
            · have t_76 := mt (fa_lt _ _).mpr c_76
              refine lv_iconst (v := 1) hx hb dX9_isOf_79 (by decide) ?_
              refine lv_goto (tgt := 84) hx hb dX9_isOf_80 (by decide) ?_
              refine lv_istore_n (lv' := [(3, .int 1), (0, .ref h0), (1, .int p1), (2, .int p2), (4, .int ax)]) hx hb dX9_isOf_84 rfl hl (by decide) rfl (fun ls hl => ?_)
              obtain ⟨y_23, ey_23⟩ : ∃ y : Int32, y = ax + 1 := ⟨_, rfl⟩
              have ty_23 : y_23.toInt = ax.toInt + 1 := by rw [ey_23]; have := fb_addI (x := ax) (y := 1) (by omega) (by omega); omega
              refine lv_iinc (v := y_23) (lv' := [(4, .int y_23), (3, .int 1), (0, .ref h0), (1, .int p1), (2, .int p2)]) hx hb dX9_isOf_85 hl (k := 4) rfl (by rw [ey_23]; rfl) (by decide) rfl (fun ls hl => ?_)
              refine lv_goto (tgt := 32) hx hb dX9_isOf_88 (by decide) ?_
              exact ih_32 1 y_23 (by omega) (by omega) (by first | exact Or.inl rfl | exact Or.inr rfl) (by intro h9; omega) (by omega) ls (lv_sub hl [2, 3, 4, 1, 0] rfl)
    · refine lv_if_eq (tgt := 27) hx hb dX9_isOf_20 (by decide) (fun _ => ?_) (fun h9 => absurd h9 (by decide))
      refine lv_iconst (v := 0) hx hb dX9_isOf_27 (by decide) ?_
      refine lv_istore_n (lv' := [(3, .int 0), (0, .ref h0), (1, .int p1), (2, .int p2)]) hx hb dX9_isOf_28 rfl hl (by decide) rfl (fun ls hl => ?_)
      refine lv_iconst (v := 0) hx hb dX9_isOf_29 (by decide) ?_
      refine lv_istore (lv' := [(4, .int 0), (3, .int 0), (0, .ref h0), (1, .int p1), (2, .int p2)]) hx hb dX9_isOf_30 hl (by decide) rfl (fun ls hl => ?_)
      refine (show ∀ (k : Nat) (is : Int32) (ax : Int32) (ha0 : 0 ≤ ax.toInt) (ha1 : ax.toInt ≤ 3) (hi1 : is = 1 ∨ is = 0) (his : is.toInt ≠ 0 → (Fi p2.toNatClampNeg).toInt ≤ (Ds p1.toNatClampNeg).toInt ∧ (Ds p1.toNatClampNeg).toInt < (Fi p2.toNatClampNeg).toInt + (Ma p2.toNatClampNeg).toInt) (hk_32 : (3 - ax.toInt).toNat < k) (ls : Array Slot) (hl : lv_has ls 5 [(0, .ref h0), (1, .int p1), (2, .int p2), (3, .int is), (4, .int ax)]), W p l e _ s m _ below meth c s.heap [] 0 0 _ (F0 m 32 ls []) from ?_) _ 0 0 (by omega) (by omega) (by first | exact Or.inl rfl | exact Or.inr rfl) (by intro h9; omega) (Nat.lt_succ_self _) ls (lv_sub hl [2, 3, 4, 1, 0] rfl)
      intro k
      induction k with
      | zero => intro is ax ha0 ha1 hi1 his hk_32; exact absurd hk_32 (Nat.not_lt_zero _)
      | succ k ih_32 =>
        intro is ax ha0 ha1 hi1 his hk_32 ls hl
        refine lv_iload hx hb dX9_isOf_32 (lv_at hl 4 rfl) ?_
        refine lv_iconst (v := 3) hx hb dX9_isOf_34 (by decide) ?_
        refine lv_icmp_ge (tgt := 91) hx hb dX9_isOf_35 (by decide) (fun c_35 => ?_) (fun c_35 => ?_)
        · have t_35 := (fa_le _ _).mp c_35
          refine lv_iload_n hx hb dX9_isOf_91 rfl (lv_at hl 3 rfl) ?_
          exact W.zret (v := is) hx hb hr (by rcases hi1 with h | h <;> rw [h] <;> rfl) (fun t ht _ => ⟨_, rfl, trivial, ht⟩) (fun _ h => absurd h List.not_mem_nil) dX9_isOf_92
        · have t_35 := mt (fa_le _ _).mpr c_35
          refine lv_iload_n hx hb dX9_isOf_38 rfl (lv_at hl 3 rfl) ?_
          refine lv_if_eq (tgt := 91) hx hb dX9_isOf_39 (by decide) (fun c_39 => ?_) (fun c_39 => ?_)
          · have t_39 := (fa_eq _ _).mp c_39
            refine lv_iload_n hx hb dX9_isOf_91 rfl (lv_at hl 3 rfl) ?_
            exact W.zret (v := is) hx hb hr (by rcases hi1 with h | h <;> rw [h] <;> rfl) (fun t ht _ => ⟨_, rfl, trivial, ht⟩) (fun _ h => absurd h List.not_mem_nil) dX9_isOf_92
          · have t_39 := mt (fa_eq _ _).mpr c_39
            refine lv_aload_n hx hb dX9_isOf_42 rfl (lv_at hl 0 rfl) ?_
            refine va_get (D := (dC, dI)) (ci := 9) (v := .ref a7) (C := RX9) (T := TX9) (N := 22) hx hb hts in_X9_isOf_X9 hown hK hP 0 rfl rfl 10 (by decide) (hts (.fieldLink RX9 36 "MeetingsAboveModel" "dotSpots" "[I") (by decide +kernel)) (fun _ h9 => h9) rfl dX9_isOf_43 ?_
            refine lv_iconst (v := 3) hx hb dX9_isOf_46 (by decide) ?_
            refine lv_iload_n hx hb dX9_isOf_47 rfl (lv_at hl 1 rfl) ?_
            refine lv_imul hx hb dX9_isOf_48 ?_
            refine lv_topi (fun y_24 ey_24 => ?_)
            have ty_24 : y_24.toInt = 3 * p1.toInt := by rw [ey_24]; exact fm_lI kl_3 (by omega) (by omega)
            refine lv_iload hx hb dX9_isOf_49 (lv_at hl 4 rfl) ?_
            refine lv_iadd hx hb dX9_isOf_51 ?_
            refine lv_topi (fun y_25 ey_25 => ?_)
            have ty_25 : y_25.toInt = y_24.toInt + ax.toInt := by rw [ey_25]; have := fb_addI (x := y_24) (y := ax) (by omega) (by omega); omega
            refine va_iald hx hb hK hP 7 0 rfl rfl (vp_in_iff.mpr ⟨by omega, by omega⟩) dX9_isOf_52 ?_
            refine lv_topi (fun y_26 ey_26 => ?_)
            refine lv_aload_n hx hb dX9_isOf_53 rfl (lv_at hl 0 rfl) ?_
            refine lv_iload_n hx hb dX9_isOf_54 rfl (lv_at hl 2 rfl) ?_
            refine lv_aload_n hx hb dX9_isOf_55 rfl (lv_at hl 0 rfl) ?_
            refine va_get (D := (dC, dI)) (ci := 9) (v := .ref a6) (C := RX9) (T := TX9) (N := 22) hx hb hts in_X9_isOf_X9 hown hK hP 0 rfl rfl 9 (by decide) (hts (.fieldLink RX9 33 "MeetingsAboveModel" "dotSteps" "[I") (by decide +kernel)) (fun _ h9 => h9) rfl dX9_isOf_56 ?_
            refine lv_iload_n hx hb dX9_isOf_59 rfl (lv_at hl 1 rfl) ?_
            refine va_iald hx hb hK hP 6 0 rfl rfl (vp_in_iff.mpr ⟨by omega, by omega⟩) dX9_isOf_60 ?_
            refine lv_topi (fun y_27 ey_27 => ?_)
            have uy_27 : y_27.toInt = (Ds (p1 : Int32).toNatClampNeg).toInt := by rw [ey_27]
            refine lv_iload hx hb dX9_isOf_61 (lv_at hl 4 rfl) ?_
            have hPc := hP.sub (ws' := [(h0, .inr (9, [.int th, .ref a1, .ref a2, .ref a3, .ref a4, .ref a5, .int ne, .int wi, .int dn, .ref a6, .ref a7, .int nn, .ref a8, .int la, .ref a9, .ref a10, .long up, .long lw, .int wh, .long pu, .long pw, .ref a11])), (a1, .inl (cI, 16, .inl Fi)), (a5, .inl (cI, 576, .inl Sp))]) [0, 1, 5] rfl
            have hKc := hK.sub (tys' := [(cI, .int)]) [0] rfl
            refine vp_callSi (W.runV (As := [.int p2, .int y_27, .int ax]) (rest := [.int y_26]) ⟨hx, hb, hml, hown, hts⟩ (c_X9_spot l dC dI Ma h0 a1 a2 a3 a4 a5 a6 a7 a8 a9 a10 a11 th ne wi dn nn la wh up lw pu pw cI Fi Sp p2 y_27 ax (by first | assumption | omega) (by first | omega | assumption) (by first | omega | assumption) (by first | omega | assumption) (by first | omega | assumption) (by first | omega | assumption) (by first | omega | assumption)) (cwV 3 hts g_X9_isOf__X9_spot_94 rfl rfl rfl (by decide +kernel) ⟨Nat.le_of_ble_eq_true rfl, Nat.le_of_ble_eq_true rfl⟩) ⟨fun a U g mk q => by obtain ⟨q0, qP, qK⟩ := q; exact ⟨q0, qP, va_K.moved (u := U) (U := U.calling g mk a) (Vm.Alike.refl U.vm) qK⟩, va_recv hKc hPc (ci := 9) (q0 := 0) rfl rfl, fun U hU hW => ⟨rfl, by rw [hU]; exact hPc, va_K.moved hW.alike hKc⟩⟩ rfl rfl hl.1 rfl (lv_room (Nat.le_of_ble_eq_true rfl)) dX9_isOf_63 ⟨Nat.le_of_ble_eq_true rfl, Nat.le_of_ble_eq_true rfl⟩) (fun r_28 hr_28 => ?_)
            try dsimp only at hr_28
            refine lv_isub hx hb dX9_isOf_66 ?_
            refine lv_topi (fun y_29 ey_29 => ?_)
            refine vp_callSi (W.runS (As := [.int y_29]) (rest := []) ⟨hx, hb, hml, hown, hts⟩ (c_X9_size l dC dI y_29) (va_cwS 1 hts g_X9_isOf__X9_size_181 rfl rfl rfl (by decide +kernel) ⟨Nat.le_of_ble_eq_true rfl, Nat.le_of_ble_eq_true rfl⟩) ⟨fun a U g mk q => by obtain ⟨q0, q1⟩ := q; exact ⟨q0, q1⟩, fun U hU hW => ⟨rfl, trivial⟩⟩ rfl rfl hl.1 rfl (lv_room (Nat.le_of_ble_eq_true rfl)) dX9_isOf_67 ⟨Nat.le_of_ble_eq_true rfl, Nat.le_of_ble_eq_true rfl⟩) (fun r_30 hr_30 => ?_)
            try dsimp only at hr_30
            refine lv_aload_n hx hb dX9_isOf_70 rfl (lv_at hl 0 rfl) ?_
            refine va_get (D := (dC, dI)) (ci := 9) (v := .ref a3) (C := RX9) (T := TX9) (N := 22) hx hb hts in_X9_isOf_X9 hown hK hP 0 rfl rfl 3 (by decide) (hts (.fieldLink RX9 16 "MeetingsAboveModel" "doubts" "[I") (by decide +kernel)) (fun _ h9 => h9) rfl dX9_isOf_71 ?_
            refine lv_iload_n hx hb dX9_isOf_74 rfl (lv_at hl 2 rfl) ?_
            refine va_iald hx hb hK hP 3 0 rfl rfl (vp_in_iff.mpr ⟨by omega, by omega⟩) dX9_isOf_75 ?_
            refine lv_topi (fun y_31 ey_31 => ?_)
            refine lv_icmp_gt (tgt := 83) hx hb dX9_isOf_76 (by decide) (fun c_76 => ?_) (fun c_76 => ?_)
            · have t_76 := (fa_lt _ _).mp c_76
              refine lv_iconst (v := 0) hx hb dX9_isOf_83 (by decide) ?_
              refine lv_istore_n (lv' := [(3, .int 0), (0, .ref h0), (1, .int p1), (2, .int p2), (4, .int ax)]) hx hb dX9_isOf_84 rfl hl (by decide) rfl (fun ls hl => ?_)
              obtain ⟨y_32, ey_32⟩ : ∃ y : Int32, y = ax + 1 := ⟨_, rfl⟩
              have ty_32 : y_32.toInt = ax.toInt + 1 := by rw [ey_32]; have := fb_addI (x := ax) (y := 1) (by omega) (by omega); omega
              refine lv_iinc (v := y_32) (lv' := [(4, .int y_32), (3, .int 0), (0, .ref h0), (1, .int p1), (2, .int p2)]) hx hb dX9_isOf_85 hl (k := 4) rfl (by rw [ey_32]; rfl) (by decide) rfl (fun ls hl => ?_)
              refine lv_goto (tgt := 32) hx hb dX9_isOf_88 (by decide) ?_
              exact ih_32 0 y_32 (by omega) (by omega) (by first | exact Or.inl rfl | exact Or.inr rfl) (by intro h9; omega) (by omega) ls (lv_sub hl [2, 3, 4, 1, 0] rfl)
            · have t_76 := mt (fa_lt _ _).mpr c_76
              refine lv_iconst (v := 1) hx hb dX9_isOf_79 (by decide) ?_
              refine lv_goto (tgt := 84) hx hb dX9_isOf_80 (by decide) ?_
              refine lv_istore_n (lv' := [(3, .int 1), (0, .ref h0), (1, .int p1), (2, .int p2), (4, .int ax)]) hx hb dX9_isOf_84 rfl hl (by decide) rfl (fun ls hl => ?_)
              obtain ⟨y_33, ey_33⟩ : ∃ y : Int32, y = ax + 1 := ⟨_, rfl⟩
              have ty_33 : y_33.toInt = ax.toInt + 1 := by rw [ey_33]; have := fb_addI (x := ax) (y := 1) (by omega) (by omega); omega
              refine lv_iinc (v := y_33) (lv' := [(4, .int y_33), (3, .int 1), (0, .ref h0), (1, .int p1), (2, .int p2)]) hx hb dX9_isOf_85 hl (k := 4) rfl (by rw [ey_33]; rfl) (by decide) rfl (fun ls hl => ?_)
              refine lv_goto (tgt := 32) hx hb dX9_isOf_88 (by decide) ?_
              exact ih_32 1 y_33 (by omega) (by omega) (by first | exact Or.inl rfl | exact Or.inr rfl) (by intro h9; omega) (by omega) ls (lv_sub hl [2, 3, 4, 1, 0] rfl)
def wk_X9_dotOf : List Cond := .code yX9_dotOf cX9_dotOf 4 (some .int) :: (([.fieldLink RX9 59 "MeetingsAboveModel" "things" "I"] : List Cond) ++ (wsX90 ++ ((wsV RX9 195 RX9 yX9_isOf wk_X9_isOf) ++ ([]))))
theorem in_X9_dotOf_X9 : ∀ w ∈ wsX90, w ∈ wk_X9_dotOf := fun _ h => List.mem_cons_of_mem _ (List.mem_append_right _ (List.mem_append_left _ h))
theorem gw_X9_dotOf : AG wk_X9_dotOf := AG_ca (AG_l (by decide +kernel)) (AG_app ag_X9 (AG_app (AG_V gw_X9_isOf) (AG_nil)))
theorem g_X9_dotOf__X9_isOf_195 : GoodIn wk_X9_dotOf (wsV RX9 195 RX9 yX9_isOf wk_X9_isOf) := goodIn_m (fun _ h => List.mem_cons_of_mem _ (List.mem_append_right _ (List.mem_append_right _ (List.mem_append_left _ h)))) (AG_V gw_X9_isOf)
set_option maxHeartbeats 4000000 in
set_option maxRecDepth 100000 in
theorem c_X9_dotOf (l : Launch) (dC : Nat → ClassId) (dI : Nat → Nat → Nat) (h0 : Nat) (a1 : Nat) (a2 : Nat) (a3 : Nat) (a4 : Nat) (a5 : Nat) (a6 : Nat) (a7 : Nat) (a8 : Nat) (a9 : Nat) (a10 : Nat) (a11 : Nat) (th : Int32) (ne : Int32) (wi : Int32) (dn : Int32) (nn : Int32) (la : Int32) (wh : Int32) (up : Int64) (lw : Int64) (pu : Int64) (pw : Int64) (cI : ClassId) (cZ : ClassId) (Fi : Nat → Int32) (Ma : Nat → Int32) (Db : Nat → Int32) (Go : Nat → Int32) (Sp : Nat → Int32) (Ds : Nat → Int32) (Dp : Nat → Int32) (p1 : Int32) (hM : mOK th Fi Ma) (hd0 : 0 ≤ p1.toInt) (hd1 : p1.toInt < 40) : Met l yX9_dotOf wk_X9_dotOf ({ frames := 3, cells := 0, slots := 0, locals := 71 }) (va_Pc [.ref h0, .int p1] (fun U => va_P (dC, dI) vwCl [(h0, .inr (9, [.int th, .ref a1, .ref a2, .ref a3, .ref a4, .ref a5, .int ne, .int wi, .int dn, .ref a6, .ref a7, .int nn, .ref a8, .int la, .ref a9, .ref a10, .long up, .long lw, .int wh, .long pu, .long pw, .ref a11])), (a1, .inl (cI, 16, .inl Fi)), (a2, .inl (cI, 16, .inl Ma)), (a3, .inl (cI, 16, .inl Db)), (a4, .inl (cZ, 16, .inl Go)), (a5, .inl (cI, 576, .inl Sp)), (a6, .inl (cI, 40, .inl Ds)), (a7, .inl (cI, 120, .inl Dp))] U.heap ∧ va_K (dC, dI) vwCl [(cI, .int), (cZ, .boolean)] U)) (vp_Si (fun r => True)) 0 0 (fun _ => False) := by
  refine Met.ofW (cc := cX9_dotOf) (maxL := 4) (ret := (some .int)) (by decide) rfl ?_
  intro p e s m args below meth c s₁ B hml hv
  obtain ⟨rfl, hP, hK⟩ := hv
  have hx := B.exec
  have hb := B.bytes
  have hr := B.returns
  have hts := atoms_spec (ws := wk_X9_dotOf) B.pre
  have hown : s.vm.findClass RX9 = some m.cls := findClass_of_methodNamed B.named
  have hlocks := B.notSynchronized
  have hP : va_P (dC, dI) vwCl [(h0, .inr (9, [.int th, .ref a1, .ref a2, .ref a3, .ref a4, .ref a5, .int ne, .int wi, .int dn, .ref a6, .ref a7, .int nn, .ref a8, .int la, .ref a9, .ref a10, .long up, .long lw, .int wh, .long pu, .long pw, .ref a11])), (a1, .inl (cI, 16, .inl Fi)), (a2, .inl (cI, 16, .inl Ma)), (a3, .inl (cI, 16, .inl Db)), (a4, .inl (cZ, 16, .inl Go)), (a5, .inl (cI, 576, .inl Sp)), (a6, .inl (cI, 40, .inl Ds)), (a7, .inl (cI, 120, .inl Dp))] s.heap := hP
  have hl := lv_entry ([.ref h0, .int p1]) (n := 4) (Nat.le_of_ble_eq_true rfl)
  rw [lg_entry_eq]
  generalize (lg_sl ([.ref h0, .int p1]) ++ List.replicate (4 - (lg_sl ([.ref h0, .int p1])).length) Slot.unset).toArray = ls at hl ⊢
  have hl : lv_has ls 4 [(0, .ref h0), (1, .int p1)] := hl
  have kl_0 : (0 : Int32).toInt = 0 := by decide
  have kl_1 : (1 : Int32).toInt = 1 := by decide
  obtain ⟨hM0, hM1, hM2⟩ := id hM
  refine lv_iconst (v := 0) hx hb dX9_dotOf_0 (by decide) ?_
  refine lv_istore_n (lv' := [(2, .int 0), (0, .ref h0), (1, .int p1)]) hx hb dX9_dotOf_1 rfl hl (by decide) rfl (fun ls hl => ?_)
  refine lv_iconst (v := 0) hx hb dX9_dotOf_2 (by decide) ?_
  refine lv_istore_n (lv' := [(3, .int 0), (2, .int 0), (0, .ref h0), (1, .int p1)]) hx hb dX9_dotOf_3 rfl hl (by decide) rfl (fun ls hl => ?_)
  refine (show ∀ (k : Nat) (n2 : Int32) (t3 : Int32) (hu0 : 0 ≤ t3.toInt) (hu1 : t3.toInt ≤ th.toInt) (hk_4 : (th.toInt - t3.toInt).toNat < k) (ls : Array Slot) (hl : lv_has ls 4 [(0, .ref h0), (1, .int p1), (2, .int n2), (3, .int t3)]), W p l e _ s m _ below meth c s.heap [] 0 0 _ (F0 m 4 ls []) from ?_) _ 0 0 (by omega) (by omega) (Nat.lt_succ_self _) ls (lv_sub hl [2, 3, 1, 0] rfl)
  intro k
  induction k with
  | zero => intro n2 t3 hu0 hu1 hk_4; exact absurd hk_4 (Nat.not_lt_zero _)
  | succ k ih_4 =>
    intro n2 t3 hu0 hu1 hk_4 ls hl
    refine lv_iload_n hx hb dX9_dotOf_4 rfl (lv_at hl 3 rfl) ?_
    refine lv_aload_n hx hb dX9_dotOf_5 rfl (lv_at hl 0 rfl) ?_
    refine va_get (D := (dC, dI)) (ci := 9) (v := .int th) (C := RX9) (T := TX9) (N := 22) hx hb hts in_X9_dotOf_X9 hown hK hP 0 rfl rfl 0 (by decide) (hts (.fieldLink RX9 59 "MeetingsAboveModel" "things" "I") (by decide +kernel)) (fun _ h9 => h9) rfl dX9_dotOf_6 ?_
    refine lv_icmp_ge (tgt := 35) hx hb dX9_dotOf_9 (by decide) (fun c_9 => ?_) (fun c_9 => ?_)
    · have t_9 := (fa_le _ _).mp c_9
      refine lv_iload_n hx hb dX9_dotOf_35 rfl (lv_at hl 2 rfl) ?_
      exact W.iret (v := n2) hx hb hr (fun t ht _ => ⟨_, rfl, trivial, ht⟩) (fun _ h => absurd h List.not_mem_nil) dX9_dotOf_36
    · have t_9 := mt (fa_le _ _).mpr c_9
      refine lv_iload_n hx hb dX9_dotOf_12 rfl (lv_at hl 2 rfl) ?_
      refine lv_aload_n hx hb dX9_dotOf_13 rfl (lv_at hl 0 rfl) ?_
      refine lv_iload_n hx hb dX9_dotOf_14 rfl (lv_at hl 1 rfl) ?_
      refine lv_iload_n hx hb dX9_dotOf_15 rfl (lv_at hl 3 rfl) ?_
      have hPc := hP.sub (ws' := [(h0, .inr (9, [.int th, .ref a1, .ref a2, .ref a3, .ref a4, .ref a5, .int ne, .int wi, .int dn, .ref a6, .ref a7, .int nn, .ref a8, .int la, .ref a9, .ref a10, .long up, .long lw, .int wh, .long pu, .long pw, .ref a11])), (a1, .inl (cI, 16, .inl Fi)), (a2, .inl (cI, 16, .inl Ma)), (a3, .inl (cI, 16, .inl Db)), (a4, .inl (cZ, 16, .inl Go)), (a5, .inl (cI, 576, .inl Sp)), (a6, .inl (cI, 40, .inl Ds)), (a7, .inl (cI, 120, .inl Dp))]) [0, 1, 2, 3, 4, 5, 6, 7] rfl
      have hKc := hK.sub (tys' := [(cI, .int), (cZ, .boolean)]) [0, 1] rfl
      refine vp_callSi (W.runV (As := [.int p1, .int t3]) (rest := [.int n2]) ⟨hx, hb, hml, hown, hts⟩ (c_X9_isOf l dC dI h0 a1 a2 a3 a4 a5 a6 a7 a8 a9 a10 a11 th ne wi dn nn la wh up lw pu pw cI cZ Fi Ma Db Go Sp Ds Dp p1 t3 (by first | assumption | omega) (by first | omega | assumption) (by first | omega | assumption) (by first | omega | assumption) (by first | omega | assumption)) (cwV 2 hts g_X9_dotOf__X9_isOf_195 rfl rfl rfl (by decide +kernel) ⟨Nat.le_of_ble_eq_true rfl, Nat.le_of_ble_eq_true rfl⟩) ⟨fun a U g mk q => by obtain ⟨q0, qP, qK⟩ := q; exact ⟨q0, qP, va_K.moved (u := U) (U := U.calling g mk a) (Vm.Alike.refl U.vm) qK⟩, va_recv hKc hPc (ci := 9) (q0 := 0) rfl rfl, fun U hU hW => ⟨rfl, by rw [hU]; exact hPc, va_K.moved hW.alike hKc⟩⟩ rfl rfl hl.1 rfl (lv_room (Nat.le_of_ble_eq_true rfl)) dX9_dotOf_16 ⟨Nat.le_of_ble_eq_true rfl, Nat.le_of_ble_eq_true rfl⟩) (fun r_1 hr_1 => ?_)
      try dsimp only at hr_1
      refine lv_if_eq (tgt := 26) hx hb dX9_dotOf_19 (by decide) (fun c_19 => ?_) (fun c_19 => ?_)
      · have t_19 := (fa_eq _ _).mp c_19
        refine lv_iconst (v := 0) hx hb dX9_dotOf_26 (by decide) ?_
        refine lv_iadd hx hb dX9_dotOf_27 ?_
        refine lv_topi (fun y_2 ey_2 => ?_)
        refine lv_istore_n (lv' := [(2, .int y_2), (0, .ref h0), (1, .int p1), (3, .int t3)]) hx hb dX9_dotOf_28 rfl hl (by decide) rfl (fun ls hl => ?_)
        obtain ⟨y_3, ey_3⟩ : ∃ y : Int32, y = t3 + 1 := ⟨_, rfl⟩
        have ty_3 : y_3.toInt = t3.toInt + 1 := by rw [ey_3]; have := fb_addI (x := t3) (y := 1) (by omega) (by omega); omega
        refine lv_iinc (v := y_3) (lv' := [(3, .int y_3), (2, .int y_2), (0, .ref h0), (1, .int p1)]) hx hb dX9_dotOf_29 hl (k := 3) rfl (by rw [ey_3]; rfl) (by decide) rfl (fun ls hl => ?_)
        refine lv_goto (tgt := 4) hx hb dX9_dotOf_32 (by decide) ?_
        exact ih_4 y_2 y_3 (by omega) (by omega) (by omega) ls (lv_sub hl [2, 3, 1, 0] rfl)
      · have t_19 := mt (fa_eq _ _).mpr c_19
        refine lv_iconst (v := 1) hx hb dX9_dotOf_22 (by decide) ?_
        refine lv_goto (tgt := 27) hx hb dX9_dotOf_23 (by decide) ?_
        refine lv_iadd hx hb dX9_dotOf_27 ?_
        refine lv_topi (fun y_4 ey_4 => ?_)
        refine lv_istore_n (lv' := [(2, .int y_4), (0, .ref h0), (1, .int p1), (3, .int t3)]) hx hb dX9_dotOf_28 rfl hl (by decide) rfl (fun ls hl => ?_)
        obtain ⟨y_5, ey_5⟩ : ∃ y : Int32, y = t3 + 1 := ⟨_, rfl⟩
        have ty_5 : y_5.toInt = t3.toInt + 1 := by rw [ey_5]; have := fb_addI (x := t3) (y := 1) (by omega) (by omega); omega
        refine lv_iinc (v := y_5) (lv' := [(3, .int y_5), (2, .int y_4), (0, .ref h0), (1, .int p1)]) hx hb dX9_dotOf_29 hl (k := 3) rfl (by rw [ey_5]; rfl) (by decide) rfl (fun ls hl => ?_)
        refine lv_goto (tgt := 4) hx hb dX9_dotOf_32 (by decide) ?_
        exact ih_4 y_4 y_5 (by omega) (by omega) (by omega) ls (lv_sub hl [2, 3, 1, 0] rfl)
def wk_X9_numberOf : List Cond := .code yX9_numberOf cX9_numberOf 3 (some .int) :: (([.fieldLink RX9 13 "MeetingsAboveModel" "many" "[I", .fieldLink RX9 23 "MeetingsAboveModel" "spots" "[I", .fieldLink RX9 19 "MeetingsAboveModel" "isGone" "[Z", .fieldLink RX9 16 "MeetingsAboveModel" "doubts" "[I", .fieldLink RX9 7 "MeetingsAboveModel" "firsts" "[I"] : List Cond) ++ (wsX90 ++ ([])))
theorem in_X9_numberOf_X9 : ∀ w ∈ wsX90, w ∈ wk_X9_numberOf := fun _ h => List.mem_cons_of_mem _ (List.mem_append_right _ (List.mem_append_left _ h))
theorem gw_X9_numberOf : AG wk_X9_numberOf := AG_ca (AG_l (by decide +kernel)) (AG_app ag_X9 (AG_nil))
set_option maxHeartbeats 4000000 in
set_option maxRecDepth 100000 in
theorem c_X9_numberOf (l : Launch) (dC : Nat → ClassId) (dI : Nat → Nat → Nat) (h0 : Nat) (a1 : Nat) (a2 : Nat) (a3 : Nat) (a4 : Nat) (a5 : Nat) (a6 : Nat) (a7 : Nat) (a8 : Nat) (a9 : Nat) (a10 : Nat) (a11 : Nat) (th : Int32) (ne : Int32) (wi : Int32) (dn : Int32) (nn : Int32) (la : Int32) (wh : Int32) (up : Int64) (lw : Int64) (pu : Int64) (pw : Int64) (cI : ClassId) (cZ : ClassId) (Fi : Nat → Int32) (Ma : Nat → Int32) (Db : Nat → Int32) (Go : Nat → Int32) (Sp : Nat → Int32) (p1 : Int32) (p2 : Int32) (hM : mOK th Fi Ma) (hp10 : 0 ≤ p1.toInt) (hp11 : p1.toInt < th.toInt) (hk0 : 0 ≤ p2.toInt) (hk1 : p2.toInt < 40) : Met l yX9_numberOf wk_X9_numberOf ({ frames := 0, cells := 0, slots := 0, locals := 0 }) (va_Pc [.ref h0, .int p1, .int p2] (fun U => va_P (dC, dI) vwCl [(h0, .inr (9, [.int th, .ref a1, .ref a2, .ref a3, .ref a4, .ref a5, .int ne, .int wi, .int dn, .ref a6, .ref a7, .int nn, .ref a8, .int la, .ref a9, .ref a10, .long up, .long lw, .int wh, .long pu, .long pw, .ref a11])), (a1, .inl (cI, 16, .inl Fi)), (a2, .inl (cI, 16, .inl Ma)), (a3, .inl (cI, 16, .inl Db)), (a4, .inl (cZ, 16, .inl Go)), (a5, .inl (cI, 576, .inl Sp))] U.heap ∧ va_K (dC, dI) vwCl [(cI, .int), (cZ, .boolean)] U)) (vp_Si (fun r => True)) 0 0 (fun _ => False) := by
  refine Met.ofW (cc := cX9_numberOf) (maxL := 3) (ret := (some .int)) (by decide) rfl ?_
  intro p e s m args below meth c s₁ B hml hv
  obtain ⟨rfl, hP, hK⟩ := hv
  have hx := B.exec
  have hb := B.bytes
  have hr := B.returns
  have hts := atoms_spec (ws := wk_X9_numberOf) B.pre
  have hown : s.vm.findClass RX9 = some m.cls := findClass_of_methodNamed B.named
  have hlocks := B.notSynchronized
  have hP : va_P (dC, dI) vwCl [(h0, .inr (9, [.int th, .ref a1, .ref a2, .ref a3, .ref a4, .ref a5, .int ne, .int wi, .int dn, .ref a6, .ref a7, .int nn, .ref a8, .int la, .ref a9, .ref a10, .long up, .long lw, .int wh, .long pu, .long pw, .ref a11])), (a1, .inl (cI, 16, .inl Fi)), (a2, .inl (cI, 16, .inl Ma)), (a3, .inl (cI, 16, .inl Db)), (a4, .inl (cZ, 16, .inl Go)), (a5, .inl (cI, 576, .inl Sp))] s.heap := hP
  have hl := lv_entry ([.ref h0, .int p1, .int p2]) (n := 3) (Nat.le_of_ble_eq_true rfl)
  rw [lg_entry_eq]
  generalize (lg_sl ([.ref h0, .int p1, .int p2]) ++ List.replicate (3 - (lg_sl ([.ref h0, .int p1, .int p2])).length) Slot.unset).toArray = ls at hl ⊢
  have hl : lv_has ls 3 [(0, .ref h0), (1, .int p1), (2, .int p2)] := hl
  have kl_0 : (0 : Int32).toInt = 0 := by decide
  have kl_1 : (1 : Int32).toInt = 1 := by decide
  have kl_2 : (2 : Int32).toInt = 2 := by decide
  have kl_3 : (3 : Int32).toInt = 3 := by decide
  have kl_4 : (4 : Int32).toInt = 4 := by decide
  have kl_36 : (36 : Int32).toInt = 36 := by decide
  obtain ⟨hM0, hM1, hM2⟩ := id hM
  have np1 : ((p1.toNatClampNeg : Nat) : Int) = p1.toInt := tc_I (by omega)
  have bp1 := hM2 p1.toNatClampNeg (by omega)
  refine lv_iload_n hx hb dX9_numberOf_0 rfl (lv_at hl 2 rfl) ?_
  refine lv_if_ne (tgt := 13) hx hb dX9_numberOf_1 (by decide) (fun c_1 => ?_) (fun c_1 => ?_)
  · have t_1 := mt (fa_eq _ _).mpr c_1
    refine lv_iload_n hx hb dX9_numberOf_13 rfl (lv_at hl 2 rfl) ?_
    refine lv_iconst (v := 1) hx hb dX9_numberOf_14 (by decide) ?_
    refine lv_icmp_ne (tgt := 27) hx hb dX9_numberOf_15 (by decide) (fun c_15 => ?_) (fun c_15 => ?_)
    · have t_15 := mt (fa_eq _ _).mpr c_15
      refine lv_iload_n hx hb dX9_numberOf_27 rfl (lv_at hl 2 rfl) ?_
      refine lv_iconst (v := 2) hx hb dX9_numberOf_28 (by decide) ?_
      refine lv_icmp_ne (tgt := 41) hx hb dX9_numberOf_29 (by decide) (fun c_29 => ?_) (fun c_29 => ?_)
      · have t_29 := mt (fa_eq _ _).mpr c_29
        refine lv_iload_n hx hb dX9_numberOf_41 rfl (lv_at hl 2 rfl) ?_
        refine lv_iconst (v := 3) hx hb dX9_numberOf_42 (by decide) ?_
        refine lv_icmp_ne (tgt := 63) hx hb dX9_numberOf_43 (by decide) (fun c_43 => ?_) (fun c_43 => ?_)
        · have t_43 := mt (fa_eq _ _).mpr c_43
          refine lv_iload_n hx hb dX9_numberOf_63 rfl (lv_at hl 2 rfl) ?_
          refine lv_iconst (v := 4) hx hb dX9_numberOf_64 (by decide) ?_
          refine lv_isub hx hb dX9_numberOf_65 ?_
          refine lv_topi (fun y_1 ey_1 => ?_)
          have ty_1 : y_1.toInt = p2.toInt - 4 := by rw [ey_1]; have := fb_subI (x := p2) (y := 4) (by omega) (by omega); omega
          refine lv_iconst (v := 3) hx hb dX9_numberOf_66 (by decide) ?_
          refine lv_aload_n hx hb dX9_numberOf_67 rfl (lv_at hl 0 rfl) ?_
          refine va_get (D := (dC, dI)) (ci := 9) (v := .ref a2) (C := RX9) (T := TX9) (N := 22) hx hb hts in_X9_numberOf_X9 hown hK hP 0 rfl rfl 2 (by decide) (hts (.fieldLink RX9 13 "MeetingsAboveModel" "many" "[I") (by decide +kernel)) (fun _ h9 => h9) rfl dX9_numberOf_68 ?_
          refine lv_iload_n hx hb dX9_numberOf_71 rfl (lv_at hl 1 rfl) ?_
          refine va_iald hx hb hK hP 2 0 rfl rfl (vp_in_iff.mpr ⟨by omega, by omega⟩) dX9_numberOf_72 ?_
          refine lv_topi (fun y_2 ey_2 => ?_)
          have uy_2 : y_2.toInt = (Ma (p1 : Int32).toNatClampNeg).toInt := by rw [ey_2]
          refine lv_imul hx hb dX9_numberOf_73 ?_
          refine lv_topi (fun y_3 ey_3 => ?_)
          have ty_3 : y_3.toInt = 3 * y_2.toInt := by rw [ey_3]; exact fm_lI kl_3 (by omega) (by omega)
          refine lv_icmp_ge (tgt := 93) hx hb dX9_numberOf_74 (by decide) (fun c_74 => ?_) (fun c_74 => ?_)
          · have t_74 := (fa_le _ _).mp c_74
            refine lv_iconst (v := 0) hx hb dX9_numberOf_93 (by decide) ?_
            exact W.iret (v := 0) hx hb hr (fun t ht _ => ⟨_, rfl, trivial, ht⟩) (fun _ h => absurd h List.not_mem_nil) dX9_numberOf_94
          · have t_74 := mt (fa_le _ _).mpr c_74
            refine lv_aload_n hx hb dX9_numberOf_77 rfl (lv_at hl 0 rfl) ?_
            refine va_get (D := (dC, dI)) (ci := 9) (v := .ref a5) (C := RX9) (T := TX9) (N := 22) hx hb hts in_X9_numberOf_X9 hown hK hP 0 rfl rfl 5 (by decide) (hts (.fieldLink RX9 23 "MeetingsAboveModel" "spots" "[I") (by decide +kernel)) (fun _ h9 => h9) rfl dX9_numberOf_78 ?_
            refine lv_bipush (v := 36) hx hb dX9_numberOf_81 (by decide) ?_
            refine lv_iload_n hx hb dX9_numberOf_83 rfl (lv_at hl 1 rfl) ?_
            refine lv_imul hx hb dX9_numberOf_84 ?_
            refine lv_topi (fun y_4 ey_4 => ?_)
            have ty_4 : y_4.toInt = 36 * p1.toInt := by rw [ey_4]; exact fm_lI kl_36 (by omega) (by omega)
            refine lv_iload_n hx hb dX9_numberOf_85 rfl (lv_at hl 2 rfl) ?_
            refine lv_iadd hx hb dX9_numberOf_86 ?_
            refine lv_topi (fun y_5 ey_5 => ?_)
            have ty_5 : y_5.toInt = y_4.toInt + p2.toInt := by rw [ey_5]; have := fb_addI (x := y_4) (y := p2) (by omega) (by omega); omega
            refine lv_iconst (v := 4) hx hb dX9_numberOf_87 (by decide) ?_
            refine lv_isub hx hb dX9_numberOf_88 ?_
            refine lv_topi (fun y_6 ey_6 => ?_)
            have ty_6 : y_6.toInt = y_5.toInt - 4 := by rw [ey_6]; have := fb_subI (x := y_5) (y := 4) (by omega) (by omega); omega
            refine va_iald hx hb hK hP 5 0 rfl rfl (vp_in_iff.mpr ⟨by omega, by omega⟩) dX9_numberOf_89 ?_
            refine lv_topi (fun y_7 ey_7 => ?_)
            refine lv_goto (tgt := 94) hx hb dX9_numberOf_90 (by decide) ?_
            exact W.iret (v := y_7) hx hb hr (fun t ht _ => ⟨_, rfl, trivial, ht⟩) (fun _ h => absurd h List.not_mem_nil) dX9_numberOf_94
        · have t_43 := (fa_eq _ _).mp c_43
          refine lv_aload_n hx hb dX9_numberOf_46 rfl (lv_at hl 0 rfl) ?_
          refine va_get (D := (dC, dI)) (ci := 9) (v := .ref a4) (C := RX9) (T := TX9) (N := 22) hx hb hts in_X9_numberOf_X9 hown hK hP 0 rfl rfl 4 (by decide) (hts (.fieldLink RX9 19 "MeetingsAboveModel" "isGone" "[Z") (by decide +kernel)) (fun _ h9 => h9) rfl dX9_numberOf_47 ?_
          refine lv_iload_n hx hb dX9_numberOf_50 rfl (lv_at hl 1 rfl) ?_
          refine va_zald hx hb hK hP 4 1 rfl rfl (vp_in_iff.mpr ⟨by omega, by omega⟩) dX9_numberOf_51 ?_
          refine lv_topi (fun y_8 ey_8 => ?_)
          refine lv_if_eq (tgt := 59) hx hb dX9_numberOf_52 (by decide) (fun c_52 => ?_) (fun c_52 => ?_)
          · have t_52 := (fa_eq _ _).mp c_52
            refine lv_iconst (v := 0) hx hb dX9_numberOf_59 (by decide) ?_
            refine lv_goto (tgt := 94) hx hb dX9_numberOf_60 (by decide) ?_
            exact W.iret (v := 0) hx hb hr (fun t ht _ => ⟨_, rfl, trivial, ht⟩) (fun _ h => absurd h List.not_mem_nil) dX9_numberOf_94
          · have t_52 := mt (fa_eq _ _).mpr c_52
            refine lv_iconst (v := 1) hx hb dX9_numberOf_55 (by decide) ?_
            refine lv_goto (tgt := 94) hx hb dX9_numberOf_56 (by decide) ?_
            exact W.iret (v := 1) hx hb hr (fun t ht _ => ⟨_, rfl, trivial, ht⟩) (fun _ h => absurd h List.not_mem_nil) dX9_numberOf_94
      · have t_29 := (fa_eq _ _).mp c_29
        refine lv_aload_n hx hb dX9_numberOf_32 rfl (lv_at hl 0 rfl) ?_
        refine va_get (D := (dC, dI)) (ci := 9) (v := .ref a3) (C := RX9) (T := TX9) (N := 22) hx hb hts in_X9_numberOf_X9 hown hK hP 0 rfl rfl 3 (by decide) (hts (.fieldLink RX9 16 "MeetingsAboveModel" "doubts" "[I") (by decide +kernel)) (fun _ h9 => h9) rfl dX9_numberOf_33 ?_
        refine lv_iload_n hx hb dX9_numberOf_36 rfl (lv_at hl 1 rfl) ?_
        refine va_iald hx hb hK hP 3 0 rfl rfl (vp_in_iff.mpr ⟨by omega, by omega⟩) dX9_numberOf_37 ?_
        refine lv_topi (fun y_9 ey_9 => ?_)
        refine lv_goto (tgt := 94) hx hb dX9_numberOf_38 (by decide) ?_
        exact W.iret (v := y_9) hx hb hr (fun t ht _ => ⟨_, rfl, trivial, ht⟩) (fun _ h => absurd h List.not_mem_nil) dX9_numberOf_94
    · have t_15 := (fa_eq _ _).mp c_15
      refine lv_aload_n hx hb dX9_numberOf_18 rfl (lv_at hl 0 rfl) ?_
      refine va_get (D := (dC, dI)) (ci := 9) (v := .ref a2) (C := RX9) (T := TX9) (N := 22) hx hb hts in_X9_numberOf_X9 hown hK hP 0 rfl rfl 2 (by decide) (hts (.fieldLink RX9 13 "MeetingsAboveModel" "many" "[I") (by decide +kernel)) (fun _ h9 => h9) rfl dX9_numberOf_19 ?_
      refine lv_iload_n hx hb dX9_numberOf_22 rfl (lv_at hl 1 rfl) ?_
      refine va_iald hx hb hK hP 2 0 rfl rfl (vp_in_iff.mpr ⟨by omega, by omega⟩) dX9_numberOf_23 ?_
      refine lv_topi (fun y_10 ey_10 => ?_)
      refine lv_goto (tgt := 94) hx hb dX9_numberOf_24 (by decide) ?_
      exact W.iret (v := y_10) hx hb hr (fun t ht _ => ⟨_, rfl, trivial, ht⟩) (fun _ h => absurd h List.not_mem_nil) dX9_numberOf_94
  · have t_1 := (fa_eq _ _).mp c_1
    refine lv_aload_n hx hb dX9_numberOf_4 rfl (lv_at hl 0 rfl) ?_
    refine va_get (D := (dC, dI)) (ci := 9) (v := .ref a1) (C := RX9) (T := TX9) (N := 22) hx hb hts in_X9_numberOf_X9 hown hK hP 0 rfl rfl 1 (by decide) (hts (.fieldLink RX9 7 "MeetingsAboveModel" "firsts" "[I") (by decide +kernel)) (fun _ h9 => h9) rfl dX9_numberOf_5 ?_
    refine lv_iload_n hx hb dX9_numberOf_8 rfl (lv_at hl 1 rfl) ?_
    refine va_iald hx hb hK hP 1 0 rfl rfl (vp_in_iff.mpr ⟨by omega, by omega⟩) dX9_numberOf_9 ?_
    refine lv_topi (fun y_11 ey_11 => ?_)
    refine lv_goto (tgt := 94) hx hb dX9_numberOf_10 (by decide) ?_
    exact W.iret (v := y_11) hx hb hr (fun t ht _ => ⟨_, rfl, trivial, ht⟩) (fun _ h => absurd h List.not_mem_nil) dX9_numberOf_94
